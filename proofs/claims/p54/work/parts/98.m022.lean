/-! 99.zr5 -/
section
/-! the reference: places; written by wip/p55/gen/vg -/

/-! the_ reference: places -/
theorem csz_eq {c_ e_ : Int} {S_ S'_ : sm_S} (h1_ : S'_.2.2.1 224 0 = S_.2.2.1 224 0) (h2_ : S'_.2.2.1 234 0 = S_.2.2.1 234 0) (h3_ : S'_.2.2.1 229 0 = S_.2.2.1 229 0) : csz c_ S'_ e_ = csz c_ S_ e_ := by
  unfold csz
  rw [h1_, h2_, h3_]
theorem csz_b {c_ e_ : Int} {S_ : sm_S} (h_ : gi S_) : 1 ≤ csz c_ S_ e_ ∧ csz c_ S_ e_ ≤ 4 := by
  unfold csz
  split
  · omega
  · have b_ : 0 ≤ S_.2.2.1 234 0 (12 * c_ + S_.2.2.1 229 0 (150 * c_ + (e_ - S_.2.2.1 224 0 c_.toNat)).toNat).toNat ∧ S_.2.2.1 234 0 (12 * c_ + S_.2.2.1 229 0 (150 * c_ + (e_ - S_.2.2.1 224 0 c_.toNat)).toNat).toNat ≤ 3 := h_.2 234 0 _
    omega
theorem cRk_pl {c_ : Int} {S_ S'_ : sm_S} (h_ : cRk c_ S_) (e_ : ∀ t_, 223 ≤ t_ → t_ ≤ 234 → S'_.2.2.1 t_ 0 = S_.2.2.1 t_ 0) (p_ : cpl c_ S'_) (r_ : imq (S'_.2.2.1 251 0 c_.toNat = 1) (1 ≤ S'_.2.2.1 240 0 c_.toNat)) : cRk c_ S'_ := by
  obtain ⟨h1_, h2_, h3_, h4_, h5_, h6_, h7_⟩ := h_
  refine ⟨?_, ?_, ?_, ?_, ?_, p_, r_⟩
  · rw [e_ 223 (by decide) (by decide), e_ 224 (by decide) (by decide)]; exact h1_
  · rw [e_ 226 (by decide) (by decide), e_ 224 (by decide) (by decide)]; exact h2_
  · rw [e_ 227 (by decide) (by decide), e_ 224 (by decide) (by decide)]; exact h3_
  · unfold cgt at *
    rw [e_ 223 (by decide) (by decide), e_ 224 (by decide) (by decide), e_ 228 (by decide) (by decide), e_ 229 (by decide) (by decide), e_ 230 (by decide) (by decide), e_ 234 (by decide) (by decide)]; exact h4_
  · unfold con at *
    rw [e_ 223 (by decide) (by decide), e_ 224 (by decide) (by decide), e_ 225 (by decide) (by decide), e_ 228 (by decide) (by decide), e_ 231 (by decide) (by decide), e_ 232 (by decide) (by decide)]; exact h5_
theorem wrg {w_ : sx_Wl} {lo_ hi_ : Nat} (h_ : w_.2.1.all (fun t_ => decide (t_ < lo_) || decide (hi_ < t_)) = true) {t_ : Nat} (h1_ : lo_ ≤ t_) (h2_ : t_ ≤ hi_) : (sx_W w_).2.1 t_ = false := by
  unfold sx_W
  rw [List.any_eq_false]
  intro q_ hq_ z_
  have u_ := List.all_eq_true.mp h_ q_ hq_
  have e_ : q_ = t_ := of_decide_eq_true z_
  rw [e_, decide_eq_false (by omega), decide_eq_false (by omega)] at u_
  exact absurd u_ (by decide)
/-- rows and sites of_ elements laid one_ behind another -/
def plc (f_ : Nat → Int) (w_ : Int) : Nat → Int × Int
  | 0 => (0, 0)
  | n_ + 1 => if w_ < (plc f_ w_ n_).2 + f_ n_ then ((plc f_ w_ n_).1 + 1, f_ n_) else ((plc f_ w_ n_).1, (plc f_ w_ n_).2 + f_ n_)
theorem plc_s (f_ : Nat → Int) (w_ : Int) (n_ : Nat) : plc f_ w_ (n_ + 1) = if w_ < (plc f_ w_ n_).2 + f_ n_ then ((plc f_ w_ n_).1 + 1, f_ n_) else ((plc f_ w_ n_).1, (plc f_ w_ n_).2 + f_ n_) := rfl
theorem plc_m (f_ : Nat → Int) (w_ : Int) (n_ : Nat) : (plc f_ w_ n_).1 ≤ (plc f_ w_ (n_ + 1)).1 := by
  rw [plc_s]
  split
  · show (plc f_ w_ n_).1 ≤ (plc f_ w_ n_).1 + 1
    omega
  · exact Int.le_refl _
theorem plc_l (f_ : Nat → Int) (w_ : Int) {n_ : Nat} : ∀ {m_ : Nat}, n_ ≤ m_ → (plc f_ w_ n_).1 ≤ (plc f_ w_ m_).1
  | 0, h_ => by rw [show n_ = 0 by omega]; exact Int.le_refl _
  | m_ + 1, h_ => by
    by_cases z_ : n_ ≤ m_
    · exact Int.le_trans (plc_l f_ w_ z_) (plc_m f_ w_ m_)
    · rw [show n_ = m_ + 1 by omega]; exact Int.le_refl _
/-- a_ pin_ more -/
def apn (net_ x_ y_ : Int) (S_ S'_ : sm_S) : Prop := (net_ < 0 ∧ S'_.1 13 0 159 = S_.1 13 0 159 ∧ S'_.2.2.1 243 0 = S_.2.2.1 243 0 ∧ S'_.2.2.1 244 0 = S_.2.2.1 244 0 ∧ S'_.2.2.1 245 0 = S_.2.2.1 245 0) ∨ (0 ≤ net_ ∧ S'_.1 13 0 159 = S_.1 13 0 159 + 1 ∧ (∀ j_, S'_.2.2.1 243 0 j_ = if j_ = (S_.1 13 0 159).toNat then net_ else S_.2.2.1 243 0 j_) ∧ (∀ j_, S'_.2.2.1 244 0 j_ = if j_ = (S_.1 13 0 159).toNat then x_ else S_.2.2.1 244 0 j_) ∧ ∀ j_, S'_.2.2.1 245 0 j_ = if j_ = (S_.1 13 0 159).toNat then y_ else S_.2.2.1 245 0 j_)
/-- pins have nets and lie_ within -/
def pnv (N_ X_ Y_ : Int) (S_ : sm_S) : Prop := ∀ k_ : Int, 0 ≤ k_ → k_ < S_.1 13 0 159 → S_.2.2.1 243 0 k_.toNat < N_ ∧ S_.2.2.1 244 0 k_.toNat < X_ ∧ S_.2.2.1 245 0 k_.toNat < Y_
theorem pnv_ad {N_ X_ Y_ net_ x_ y_ : Int} {S_ S'_ : sm_S} (h_ : pnv N_ X_ Y_ S_) (a_ : apn net_ x_ y_ S_ S'_) (h0_ : 0 ≤ S_.1 13 0 159) (hn_ : net_ < N_) (hx_ : x_ < X_) (hy_ : y_ < Y_) : pnv N_ X_ Y_ S'_ := by
  intro k_ k0_ k1_
  rcases a_ with ⟨a1_, a2_, a3_, a4_, a5_⟩ | ⟨a1_, a2_, a3_, a4_, a5_⟩
  · rw [a3_, a4_, a5_]
    exact h_ k_ k0_ (by omega)
  · rw [a3_, a4_, a5_]
    by_cases z_ : k_.toNat = (S_.1 13 0 159).toNat
    · rw [if_pos z_, if_pos z_, if_pos z_]
      exact ⟨hn_, hx_, hy_⟩
    · rw [if_neg z_, if_neg z_, if_neg z_]
      exact h_ k_ k0_ (by omega)
theorem apn_c {net_ x_ y_ : Int} {S_ S'_ : sm_S} (a_ : apn net_ x_ y_ S_ S'_) : S'_.1 13 0 159 ≤ S_.1 13 0 159 + 1 := by
  rcases a_ with a_ | a_
  · have := a_.2.1; omega
  · have := a_.2.1; omega
/-- elements lie_ within -/
def ple (c_ X_ Y_ : Int) (S_ : sm_S) : Prop := S_.2.2.1 239 0 c_.toNat + 1 < X_ ∧ S_.2.2.1 223 0 c_.toNat ≤ Y_ ∧ S_.2.2.1 225 0 c_.toNat ≤ Y_ ∧ ∀ e_ : Int, 0 ≤ e_ → e_ < S_.2.2.1 224 0 c_.toNat + S_.2.2.1 228 0 c_.toNat → S_.2.2.1 241 0 (156 * c_ + e_).toNat + csz c_ S_ e_ < X_ ∧ 3 * S_.2.2.1 242 0 (156 * c_ + e_).toNat + 1 < Y_
theorem ple_any {c_ : Int} {S_ : sm_S} (h_ : gi S_) : ple c_ 300 300 S_ := by
  have b1_ : 0 ≤ S_.2.2.1 239 0 c_.toNat ∧ S_.2.2.1 239 0 c_.toNat ≤ 60 := h_.2 239 0 _
  have b2_ : 0 ≤ S_.2.2.1 223 0 c_.toNat ∧ S_.2.2.1 223 0 c_.toNat ≤ 12 := h_.2 223 0 _
  have b3_ : 0 ≤ S_.2.2.1 225 0 c_.toNat ∧ S_.2.2.1 225 0 c_.toNat ≤ 16 := h_.2 225 0 _
  refine ⟨by omega, by omega, by omega, fun e_ _ _ => ?_⟩
  have b4_ : 0 ≤ S_.2.2.1 241 0 (156 * c_ + e_).toNat ∧ S_.2.2.1 241 0 (156 * c_ + e_).toNat ≤ 60 := h_.2 241 0 _
  have b5_ : 0 ≤ S_.2.2.1 242 0 (156 * c_ + e_).toNat ∧ S_.2.2.1 242 0 (156 * c_ + e_).toNat ≤ 12 := h_.2 242 0 _
  have b6_ := csz_b (c_ := c_) (e_ := e_) h_
  omega
theorem ple_pl {c_ Y_ : Int} {S_ : sm_S} (h_ : cpl c_ S_) (p_ : 1 ≤ S_.2.2.1 240 0 c_.toNat) (y1_ : 3 * S_.2.2.1 240 0 c_.toNat + 2 ≤ Y_) (y2_ : S_.2.2.1 223 0 c_.toNat ≤ Y_) (y3_ : S_.2.2.1 225 0 c_.toNat ≤ Y_) : ple c_ (S_.2.2.1 239 0 c_.toNat + 2) Y_ S_ := by
  have z_ := h_ p_
  refine ⟨by omega, y2_, y3_, fun e_ h0_ h1_ => ?_⟩
  have w_ := z_.2 e_ h0_ h1_
  omega
theorem ple_fr {w_ : sx_Wl} {c_ X_ Y_ : Int} {S_ S'_ : sm_S} (h_ : ple c_ X_ Y_ S_) (g_ : ai_fr (sx_W w_) S_ S'_) (r_ : rwf w_ = true := by rfl) : ple c_ X_ Y_ S'_ := by
  unfold ple csz at *
  rw [fr_arr g_ (rwf_0 r_ (t_ := 239) rfl), fr_arr g_ (rwf_0 r_ (t_ := 223) rfl), fr_arr g_ (rwf_0 r_ (t_ := 225) rfl), fr_arr g_ (rwf_0 r_ (t_ := 224) rfl), fr_arr g_ (rwf_0 r_ (t_ := 228) rfl), fr_arr g_ (rwf_0 r_ (t_ := 241) rfl), fr_arr g_ (rwf_0 r_ (t_ := 242) rfl), fr_arr g_ (rwf_0 r_ (t_ := 234) rfl), fr_arr g_ (rwf_0 r_ (t_ := 229) rfl)]
  exact h_
/-- a_ net_ with pins has_ one_ -/
def pcx (S_ : sm_S) (p_ : Int) (n_ : Int) : Prop := 1 ≤ S_.2.2.1 246 0 n_.toNat → ∃ k_ : Int, 0 ≤ k_ ∧ k_ < p_ ∧ S_.2.2.1 243 0 k_.toNat = n_
/-- two_ elements change places -/
def xcg (i_ j_ : Nat) (S_ S'_ : sm_S) : Prop := ∀ t_, t_ = 241 ∨ t_ = 242 → ∀ k_, S'_.2.2.1 t_ 0 k_ = if k_ = j_ then S_.2.2.1 t_ 0 i_ else if k_ = i_ then S_.2.2.1 t_ 0 j_ else S_.2.2.1 t_ 0 k_
theorem cpl_xc {c_ i_ j_ : Int} {S_ S'_ : sm_S} (h_ : cpl c_ S_) (hc_ : 0 ≤ c_) (hi_ : 0 ≤ i_ ∧ i_ < S_.2.2.1 224 0 c_.toNat + S_.2.2.1 228 0 c_.toNat) (hj_ : 0 ≤ j_ ∧ j_ < S_.2.2.1 224 0 c_.toNat + S_.2.2.1 228 0 c_.toNat) (x_ : xcg (156 * c_ + i_).toNat (156 * c_ + j_).toNat S_ S'_) (e_ : csz c_ S_ i_ = csz c_ S_ j_) (f_ : ∀ t_, t_ = 224 ∨ t_ = 228 ∨ t_ = 229 ∨ t_ = 234 ∨ t_ = 239 ∨ t_ = 240 → S'_.2.2.1 t_ 0 = S_.2.2.1 t_ 0) : cpl c_ S'_ := by
  have cz_ : ∀ q_, csz c_ S'_ q_ = csz c_ S_ q_ := fun q_ => csz_eq (f_ 224 (by omega)) (f_ 234 (by omega)) (f_ 229 (by omega))
  unfold cpl
  rw [f_ 224 (by omega), f_ 228 (by omega), f_ 239 (by omega), f_ 240 (by omega)]
  intro p_
  have z_ := h_ p_
  refine ⟨z_.1, fun q_ q0_ q1_ => ?_⟩
  rw [cz_, x_ 241 (by omega), x_ 242 (by omega)]
  by_cases a_ : (156 * c_ + q_).toNat = (156 * c_ + j_).toNat
  · rw [if_pos a_, if_pos a_, show q_ = j_ by omega, ← e_]
    exact z_.2 i_ hi_.1 hi_.2
  · rw [if_neg a_, if_neg a_]
    by_cases b_ : (156 * c_ + q_).toNat = (156 * c_ + i_).toNat
    · rw [if_pos b_, if_pos b_, show q_ = i_ by omega, e_]
      exact z_.2 j_ hj_.1 hj_.2
    · rw [if_neg b_, if_neg b_]
      exact z_.2 q_ q0_ q1_
theorem jR_xc {w_ : sx_Wl} {c_ i_ j_ : Int} {S_ S'_ : sm_S} (h_ : jR S_) (hI_ : gi S'_) (t_ : S_.2.2.1 222 0 c_.toNat = 1) (hc_ : 0 ≤ c_ ∧ c_ < 4) (g_ : ai_fr (sx_W w_) S_ S'_) (r_ : rcf c_.toNat S_ S'_) (hi_ : 0 ≤ i_ ∧ i_ < S_.2.2.1 224 0 c_.toNat + S_.2.2.1 228 0 c_.toNat) (hj_ : 0 ≤ j_ ∧ j_ < S_.2.2.1 224 0 c_.toNat + S_.2.2.1 228 0 c_.toNat) (x_ : xcg (156 * c_ + i_).toNat (156 * c_ + j_).toNat S_ S'_) (e_ : csz c_ S_ i_ = csz c_ S_ j_) (hw_ : ∀ t_, t_ < 241 → (sx_W w_).2.1 t_ = false) (h51_ : (sx_W w_).2.1 251 = false) (q_ : dwf w_ = true := by rfl) : jR S'_ := by
  refine jR_cf h_ hI_ g_ q_ r_ (fun _ => ?_)
  have k_ := h_.2 c_ hc_.1 hc_.2 t_
  rw [show ((c_.toNat : Nat) : Int) = c_ by omega]
  exact cRk_pl k_ (fun t_ _ b_ => fr_arr g_ (hw_ t_ (by omega))) (cpl_xc k_.2.2.2.2.2.1 hc_.1 hi_ hj_ x_ e_ (fun t_ a_ => fr_arr g_ (hw_ t_ (by omega)))) (by rw [fr_arr g_ h51_, fr_arr g_ (hw_ 240 (by decide))]; exact k_.2.2.2.2.2.2)
theorem jR_lw {w_ : sx_Wl} {c_ : Int} {S_ S'_ : sm_S} (h_ : jR S_) (hI_ : gi S'_) (t_ : S_.2.2.1 222 0 c_.toNat = 1) (hc_ : 0 ≤ c_ ∧ c_ < 4) (g_ : ai_fr (sx_W w_) S_ S'_) (r_ : rcf c_.toNat S_ S'_) (z_ : S'_.2.2.1 251 0 c_.toNat = 0) (hw_ : ∀ t_, t_ < 243 → (sx_W w_).2.1 t_ = false) (q_ : dwf w_ = true := by rfl) : jR S'_ := by
  refine jR_cf h_ hI_ g_ q_ r_ (fun _ => ?_)
  have k_ := h_.2 c_ hc_.1 hc_.2 t_
  rw [show ((c_.toNat : Nat) : Int) = c_ by omega]
  refine cRk_pl k_ (fun t_ _ b_ => fr_arr g_ (hw_ t_ (by omega))) ?_ (fun y_ => absurd (z_.symm.trans y_) (by decide))
  unfold cpl csz at *
  have p_ := k_.2.2.2.2.2.1
  rw [fr_arr g_ (hw_ 224 (by decide)), fr_arr g_ (hw_ 228 (by decide)), fr_arr g_ (hw_ 229 (by decide)), fr_arr g_ (hw_ 234 (by decide)), fr_arr g_ (hw_ 239 (by decide)), fr_arr g_ (hw_ 240 (by decide)), fr_arr g_ (hw_ 241 (by decide)), fr_arr g_ (hw_ 242 (by decide))]
  exact p_
theorem jR_mv {w_ : sx_Wl} {c_ e_ st_ rw9_ : Int} {S_ S'_ : sm_S} (h_ : jR S_) (hI_ : gi S'_) (t_ : S_.2.2.1 222 0 c_.toNat = 1) (hc_ : 0 ≤ c_ ∧ c_ < 4) (g_ : ai_fr (sx_W w_) S_ S'_) (r_ : rcf c_.toNat S_ S'_) (he_ : 0 ≤ e_ ∧ e_ < S_.2.2.1 224 0 c_.toNat + S_.2.2.1 228 0 c_.toNat) (x1_ : ∀ k_, S'_.2.2.1 241 0 k_ = if k_ = (156 * c_ + e_).toNat then st_ else S_.2.2.1 241 0 k_) (x2_ : ∀ k_, S'_.2.2.1 242 0 k_ = if k_ = (156 * c_ + e_).toNat then rw9_ else S_.2.2.1 242 0 k_) (b1_ : st_ + csz c_ S_ e_ ≤ S_.2.2.1 239 0 c_.toNat) (b2_ : rw9_ < S_.2.2.1 240 0 c_.toNat) (z_ : S'_.2.2.1 251 0 c_.toNat = 0) (hw_ : ∀ t_, t_ < 241 → (sx_W w_).2.1 t_ = false) (q_ : dwf w_ = true := by rfl) : jR S'_ := by
  refine jR_cf h_ hI_ g_ q_ r_ (fun _ => ?_)
  have k_ := h_.2 c_ hc_.1 hc_.2 t_
  rw [show ((c_.toNat : Nat) : Int) = c_ by omega]
  refine cRk_pl k_ (fun t_ _ b_ => fr_arr g_ (hw_ t_ (by omega))) ?_ (fun y_ => absurd (z_.symm.trans y_) (by decide))
  have p_ := k_.2.2.2.2.2.1
  have cz_ : ∀ q_, csz c_ S'_ q_ = csz c_ S_ q_ := fun q_ => csz_eq (fr_arr g_ (hw_ 224 (by decide))) (fr_arr g_ (hw_ 234 (by decide))) (fr_arr g_ (hw_ 229 (by decide)))
  unfold cpl
  rw [fr_arr g_ (hw_ 224 (by decide)), fr_arr g_ (hw_ 228 (by decide)), fr_arr g_ (hw_ 239 (by decide)), fr_arr g_ (hw_ 240 (by decide))]
  intro y_
  have v_ := p_ y_
  refine ⟨v_.1, fun q_ q0_ q1_ => ?_⟩
  rw [cz_, x1_, x2_]
  by_cases a_ : (156 * c_ + q_).toNat = (156 * c_ + e_).toNat
  · rw [if_pos a_, if_pos a_, show q_ = e_ by omega]
    exact ⟨b1_, b2_⟩
  · rw [if_neg a_, if_neg a_]
    exact v_.2 q_ q0_ q1_
theorem jR_pc {w_ : sx_Wl} {c_ wd_ ro_ : Int} {S_ S'_ : sm_S} (h_ : jR S_) (hI_ : gi S'_) (t_ : S_.2.2.1 222 0 c_.toNat = 1) (hc_ : 0 ≤ c_ ∧ c_ < 4) (g_ : ai_fr (sx_W w_) S_ S'_) (r_ : rcf c_.toNat S_ S'_) (w1_ : S'_.2.2.1 239 0 c_.toNat = wd_) (w2_ : S'_.2.2.1 240 0 c_.toNat = ro_) (w4_ : 4 ≤ wd_) (x_ : ∀ e_ : Int, 0 ≤ e_ → e_ < S_.2.2.1 224 0 c_.toNat + S_.2.2.1 228 0 c_.toNat → S'_.2.2.1 241 0 (156 * c_ + e_).toNat + csz c_ S_ e_ ≤ wd_ ∧ S'_.2.2.1 242 0 (156 * c_ + e_).toNat < ro_) (z_ : S'_.2.2.1 251 0 c_.toNat = 0) (hw_ : ∀ t_, t_ < 239 → (sx_W w_).2.1 t_ = false) (q_ : dwf w_ = true := by rfl) : jR S'_ := by
  refine jR_cf h_ hI_ g_ q_ r_ (fun _ => ?_)
  have k_ := h_.2 c_ hc_.1 hc_.2 t_
  rw [show ((c_.toNat : Nat) : Int) = c_ by omega]
  refine cRk_pl k_ (fun t_ _ b_ => fr_arr g_ (hw_ t_ (by omega))) ?_ (fun y_ => absurd (z_.symm.trans y_) (by decide))
  have cz_ : ∀ q_, csz c_ S'_ q_ = csz c_ S_ q_ := fun q_ => csz_eq (fr_arr g_ (hw_ 224 (by decide))) (fr_arr g_ (hw_ 234 (by decide))) (fr_arr g_ (hw_ 229 (by decide)))
  unfold cpl
  rw [fr_arr g_ (hw_ 224 (by decide)), fr_arr g_ (hw_ 228 (by decide)), w1_, w2_]
  exact fun _ => ⟨w4_, fun e_ h0_ h1_ => by rw [cz_]; exact x_ e_ h0_ h1_⟩
/-! M_.sizeOf -/
def vw_436 : sx_Wl := ([], [], [])
def vq_436 (c_ : Int) (e_ : Int) (S0_ : sm_S) (u_ : Option sm_V) (S1_ : sm_S) : Prop := S0_ = S1_ ∧ ∃ v_ : Int, u_ = some (.inl v_) ∧ (v_ = csz c_ S0_ e_ ∧ 1 ≤ v_ ∧ v_ ≤ 4)
set_option maxHeartbeats 400000 in
set_option maxRecDepth 20000 in
theorem vc_436 {sc_ : Nat × (Nat → Int)} (c_ : Int) (e_ : Int) (S0_ : sm_S) (hI_ : gi S0_) (hc_ : 0 ≤ c_ ∧ c_ ≤ 3) (he_ : 0 ≤ e_ ∧ e_ < S0_.2.2.1 224 0 c_.toNat + 150) : sm_T (mt_P sc_) 1 436 (0, [some (.inr (.inr (some (13, 0)))), some (.inl c_), some (.inl e_)], [], S0_) (fun ro9_ => ∃ u_ S1_, ro9_ = (.inl u_, S1_, 0) ∧ vq_436 c_ e_ S0_ u_ S1_) := by
  have hF_ : ai_fr (sx_W vw_436) S0_ S0_ := ai_fr_rf
  refine sm_T_go 4 (c1 := (6, [some (.inr (.inr (some (13, 0)))), some (.inl c_), some (.inl e_)], [.inl c_, .inr (.inr (some (224, 0))), .inl e_], S0_)) rfl ?_
  refine sm_T_iald (n := 4) rfl rfl (by omega) (by omega) ?_
  have bx1_ : 0 ≤ S0_.2.2.1 224 0 c_.toNat ∧ S0_.2.2.1 224 0 c_.toNat ≤ 6 := hI_.2 224 0 _
  refine sm_T_br (a := 3) (z := 7) rfl (fun cx2_ => ?_) (fun cx2_ => ?_)
  · have cx2_ : (S0_.2.2.1 224 0 c_.toNat) ≤ e_ := of_decide_eq_true cx2_
    refine sm_T_go 9 (c1 := (27, [some (.inr (.inr (some (13, 0)))), some (.inl c_), some (.inl e_)], [.inl c_, .inr (.inr (some (224, 0))), .inl e_, .inl c_, .inr (.inr (some (13, 0))), .inr (.inr (some (234, 0))), .inl 1], S0_)) rfl ?_
    refine sm_T_iald (n := 4) rfl rfl (by omega) (by omega) ?_
    refine sm_T_bin (w := e_ - (S0_.2.2.1 224 0 c_.toNat)) rfl (bi_sub (by omega) (by omega) (by omega)) ?_ -- pc_ 28
    refine sm_T_cal (d1 := 0) (Q1 := vq_421 c_ (e_ - (S0_.2.2.1 224 0 c_.toNat)) S0_) rfl rfl (by decide) (vc_421 c_ (e_ - (S0_.2.2.1 224 0 c_.toNat)) S0_ hI_ (by omega) (by omega)) (fun u_ Sx3_ px6_ => ?_)
    obtain ⟨rfl, vx8_, rfl, px6_⟩ := px6_
    have e29_ := px6_
    refine sm_T_iald (n := 48) rfl rfl (by omega) (by omega) ?_
    have bx9_ : 0 ≤ S0_.2.2.1 234 0 vx8_.toNat ∧ S0_.2.2.1 234 0 vx8_.toNat ≤ 3 := hI_.2 234 0 _
    refine sm_T_bin (w := (S0_.2.2.1 234 0 vx8_.toNat) + 1) rfl (bi_add (by omega) (by omega) (by omega)) ?_ -- pc_ 33
    refine sm_T_ri rfl ⟨_, _, rfl, rfl, _, rfl, ?_⟩
    refine ⟨?_, by omega, by omega⟩
    unfold csz
    first | rw [if_pos (by omega)] | (rw [if_neg (by omega), ← e29_.2]; omega)
  · have cx2_ : ¬ ((S0_.2.2.1 224 0 c_.toNat) ≤ e_) := of_decide_eq_false cx2_
    refine sm_T_go 2 (c1 := (34, [some (.inr (.inr (some (13, 0)))), some (.inl c_), some (.inl e_)], [.inl 2], S0_)) rfl ?_
    refine sm_T_ri rfl ⟨_, _, rfl, rfl, _, rfl, ?_⟩
    refine ⟨?_, by omega, by omega⟩
    unfold csz
    first | rw [if_pos (by omega)] | (rw [if_neg (by omega), ← e29_.2]; omega)
/-! M_.loseWires -/
def vw_443 : sx_Wl := ([], [251, 263], [])
def vq_443 (c_ : Int) (S0_ : sm_S) (u_ : Option sm_V) (S1_ : sm_S) : Prop := u_ = none ∧ gi S1_ ∧ ai_fr (sx_W vw_443) S0_ S1_ ∧ (rcf c_.toNat S0_ S1_ ∧ (S1_.2.2.1 251 0 c_.toNat = 0))
set_option maxHeartbeats 400000 in
set_option maxRecDepth 20000 in
theorem vc_443 {sc_ : Nat × (Nat → Int)} (c_ : Int) (S0_ : sm_S) (hI_ : gi S0_) (hc_ : 0 ≤ c_ ∧ c_ ≤ 3) : sm_T (mt_P sc_) 0 443 (0, [some (.inr (.inr (some (13, 0)))), some (.inl c_)], [], S0_) (fun ro9_ => ∃ u_ S1_, ro9_ = (.inl u_, S1_, 0) ∧ vq_443 c_ S0_ u_ S1_) := by
  have hF_ : ai_fr (sx_W vw_443) S0_ S0_ := ai_fr_rf
  have hK_ : rcf c_.toNat S0_ S0_ := rcf_rf
  refine sm_T_go 4 (c1 := (6, [some (.inr (.inr (some (13, 0)))), some (.inl c_)], [.inl 0, .inl c_, .inr (.inr (some (251, 0)))], S0_)) rfl ?_
  refine sm_T_zas1 (n := 4) rfl rfl (by omega) (by omega) (by omega) ?_
  have hIx1_ : gi (sm_aI S0_ 251 0 c_.toNat 0) := gi_aI hI_ (show 0 ≤ 0 ∧ 0 ≤ 1 from ⟨by omega, by omega⟩)
  have hFx2_ : ai_fr (sx_W vw_443) S0_ (sm_aI S0_ 251 0 c_.toNat 0) := ai_fr_tr hF_ (ai_fr_aI rfl)
  have hKx3_ : rcf c_.toNat S0_ (sm_aI S0_ 251 0 c_.toNat 0) := rcf_aI hK_ (Or.inr (by rw [show rcs 251 = 1 from rfl]; omega))
  refine sm_T_go 4 (c1 := (13, [some (.inr (.inr (some (13, 0)))), some (.inl c_)], [.inl 0, .inl c_, .inr (.inr (some (263, 0)))], sm_aI S0_ 251 0 c_.toNat 0)) rfl ?_
  refine sm_T_zas1 (n := 4) rfl rfl (by omega) (by omega) (by omega) ?_
  have hIx4_ : gi (sm_aI (sm_aI S0_ 251 0 c_.toNat 0) 263 0 c_.toNat 0) := gi_aI hIx1_ (show 0 ≤ 0 ∧ 0 ≤ 1 from ⟨by omega, by omega⟩)
  have hFx5_ : ai_fr (sx_W vw_443) S0_ (sm_aI (sm_aI S0_ 251 0 c_.toNat 0) 263 0 c_.toNat 0) := ai_fr_tr hFx2_ (ai_fr_aI rfl)
  have hKx6_ : rcf c_.toNat S0_ (sm_aI (sm_aI S0_ 251 0 c_.toNat 0) 263 0 c_.toNat 0) := rcf_aI hKx3_ (Or.inl rfl)
  refine sm_T_rv rfl ⟨_, _, rfl, rfl, hIx4_, hFx5_, ?_⟩
  refine ⟨hKx6_, ?_⟩
  rw [rd_ne (by decide), rd_eq, if_pos rfl]
/-! M_.addPin -/
def vw_437 : sx_Wl := ([(13, 159)], [243, 244, 245], [])
def vq_437 (n_ : Int) (x_ : Int) (y_ : Int) (S0_ : sm_S) (u_ : Option sm_V) (S1_ : sm_S) : Prop := u_ = none ∧ gi S1_ ∧ ai_fr (sx_W vw_437) S0_ S1_ ∧ (apn n_ x_ y_ S0_ S1_)
set_option maxHeartbeats 400000 in
set_option maxRecDepth 20000 in
theorem vc_437 {sc_ : Nat × (Nat → Int)} (n_ : Int) (x_ : Int) (y_ : Int) (S0_ : sm_S) (hI_ : gi S0_) (h1_ : (S0_.1 13 0 159) ≤ 699) (hn_ : n_ ≤ 161) (hx_ : 0 ≤ x_ ∧ x_ ≤ 200) (hy_ : 0 ≤ y_ ∧ y_ ≤ 40) : sm_T (mt_P sc_) 0 437 (0, [some (.inr (.inr (some (13, 0)))), some (.inl n_), some (.inl x_), some (.inl y_)], [], S0_) (fun ro9_ => ∃ u_ S1_, ro9_ = (.inl u_, S1_, 0) ∧ vq_437 n_ x_ y_ S0_ u_ S1_) := by
  have hF_ : ai_fr (sx_W vw_437) S0_ S0_ := ai_fr_rf
  refine sm_T_go 1 (c1 := (1, [some (.inr (.inr (some (13, 0)))), some (.inl n_), some (.inl x_), some (.inl y_)], [.inl n_], S0_)) rfl ?_
  refine sm_T_b0 (a := 2) (z := 43) rfl (fun cx1_ => ?_) (fun cx1_ => ?_)
  · have cx1_ : n_ < 0 := of_decide_eq_true cx1_
    refine sm_T_rv rfl ⟨_, _, rfl, rfl, hI_, hF_, ?_⟩
    first | exact Or.inl ⟨by omega, rfl, rfl, rfl, rfl⟩ | (refine Or.inr ⟨by omega, ?_, fun j_ => ?_, fun j_ => ?_, fun j_ => ?_⟩ <;> (try simp only [rd_eq, rd_ne, rf_eq, rf_nk, rf_nt, rd_fa, rd_af, rd_fl, rd_al, rd_lf, rd_la, rd_leq, rd_lne, rd_fr, rd_ar, ne_eq, Nat.reduceEqDiff, not_false_eq_true]) <;> rfl)
  · have cx1_ : ¬ (n_ < 0) := of_decide_eq_false cx1_
    have bx2_ : 0 ≤ S0_.1 13 0 159 ∧ S0_.1 13 0 159 ≤ 700 := hI_.1 13 0 159 rfl
    refine sm_T_go 5 (c1 := (13, [some (.inr (.inr (some (13, 0)))), some (.inl n_), some (.inl x_), some (.inl y_)], [.inl n_, .inl (S0_.1 13 0 159), .inr (.inr (some (243, 0)))], S0_)) rfl ?_
    refine sm_T_iast (n := 700) rfl rfl (by omega) (by omega) ?_
    have hIx3_ : gi (sm_aI S0_ 243 0 (S0_.1 13 0 159).toNat n_) := gi_aI hI_ (show 0 ≤ n_ ∧ n_ ≤ 161 from ⟨by omega, by omega⟩)
    have hFx4_ : ai_fr (sx_W vw_437) S0_ (sm_aI S0_ 243 0 (S0_.1 13 0 159).toNat n_) := ai_fr_tr hF_ (ai_fr_aI rfl)
    refine sm_T_go 5 (c1 := (23, [some (.inr (.inr (some (13, 0)))), some (.inl n_), some (.inl x_), some (.inl y_)], [.inl x_, .inl (S0_.1 13 0 159), .inr (.inr (some (244, 0)))], sm_aI S0_ 243 0 (S0_.1 13 0 159).toNat n_)) rfl ?_
    refine sm_T_iast (n := 700) rfl rfl (by omega) (by omega) ?_
    have hIx5_ : gi (sm_aI (sm_aI S0_ 243 0 (S0_.1 13 0 159).toNat n_) 244 0 (S0_.1 13 0 159).toNat x_) := gi_aI hIx3_ (show 0 ≤ x_ ∧ x_ ≤ 200 from ⟨by omega, by omega⟩)
    have hFx6_ : ai_fr (sx_W vw_437) S0_ (sm_aI (sm_aI S0_ 243 0 (S0_.1 13 0 159).toNat n_) 244 0 (S0_.1 13 0 159).toNat x_) := ai_fr_tr hFx4_ (ai_fr_aI rfl)
    refine sm_T_go 5 (c1 := (33, [some (.inr (.inr (some (13, 0)))), some (.inl n_), some (.inl x_), some (.inl y_)], [.inl y_, .inl (S0_.1 13 0 159), .inr (.inr (some (245, 0)))], sm_aI (sm_aI S0_ 243 0 (S0_.1 13 0 159).toNat n_) 244 0 (S0_.1 13 0 159).toNat x_)) rfl ?_
    refine sm_T_iast (n := 700) rfl rfl (by omega) (by omega) ?_
    have hIx7_ : gi (sm_aI (sm_aI (sm_aI S0_ 243 0 (S0_.1 13 0 159).toNat n_) 244 0 (S0_.1 13 0 159).toNat x_) 245 0 (S0_.1 13 0 159).toNat y_) := gi_aI hIx5_ (show 0 ≤ y_ ∧ y_ ≤ 40 from ⟨by omega, by omega⟩)
    have hFx8_ : ai_fr (sx_W vw_437) S0_ (sm_aI (sm_aI (sm_aI S0_ 243 0 (S0_.1 13 0 159).toNat n_) 244 0 (S0_.1 13 0 159).toNat x_) 245 0 (S0_.1 13 0 159).toNat y_) := ai_fr_tr hFx6_ (ai_fr_aI rfl)
    refine sm_T_go 4 (c1 := (40, [some (.inr (.inr (some (13, 0)))), some (.inl n_), some (.inl x_), some (.inl y_)], [.inl 1, .inl (S0_.1 13 0 159), .inr (.inr (some (13, 0)))], sm_aI (sm_aI (sm_aI S0_ 243 0 (S0_.1 13 0 159).toNat n_) 244 0 (S0_.1 13 0 159).toNat x_) 245 0 (S0_.1 13 0 159).toNat y_)) rfl ?_
    refine sm_T_bin (w := (S0_.1 13 0 159) + 1) rfl (bi_add (by omega) (by omega) (by omega)) ?_ -- pc_ 40
    have hIx9_ : gi (sm_pI (sm_aI (sm_aI (sm_aI S0_ 243 0 (S0_.1 13 0 159).toNat n_) 244 0 (S0_.1 13 0 159).toNat x_) 245 0 (S0_.1 13 0 159).toNat y_) 13 0 159 ((S0_.1 13 0 159) + 1)) := gi_pI hIx7_ (show 0 ≤ (S0_.1 13 0 159) + 1 ∧ (S0_.1 13 0 159) + 1 ≤ 700 from ⟨by omega, by omega⟩)
    have hFx10_ : ai_fr (sx_W vw_437) S0_ (sm_pI (sm_aI (sm_aI (sm_aI S0_ 243 0 (S0_.1 13 0 159).toNat n_) 244 0 (S0_.1 13 0 159).toNat x_) 245 0 (S0_.1 13 0 159).toNat y_) 13 0 159 ((S0_.1 13 0 159) + 1)) := ai_fr_tr hFx8_ (ai_fr_pI rfl)
    refine sm_T_go 1 (c1 := (44, [some (.inr (.inr (some (13, 0)))), some (.inl n_), some (.inl x_), some (.inl y_)], [], sm_pI (sm_aI (sm_aI (sm_aI S0_ 243 0 (S0_.1 13 0 159).toNat n_) 244 0 (S0_.1 13 0 159).toNat x_) 245 0 (S0_.1 13 0 159).toNat y_) 13 0 159 ((S0_.1 13 0 159) + 1))) rfl ?_
    refine sm_T_rv rfl ⟨_, _, rfl, rfl, hIx9_, hFx10_, ?_⟩
    first | exact Or.inl ⟨by omega, rfl, rfl, rfl, rfl⟩ | (refine Or.inr ⟨by omega, ?_, fun j_ => ?_, fun j_ => ?_, fun j_ => ?_⟩ <;> (try simp only [rd_eq, rd_ne, rf_eq, rf_nk, rf_nt, rd_fa, rd_af, rd_fl, rd_al, rd_lf, rd_la, rd_leq, rd_lne, rd_fr, rd_ar, ne_eq, Nat.reduceEqDiff, not_false_eq_true]) <;> rfl)
/-! M_.addPinOf -/
def vw_438 : sx_Wl := ([(13, 159)], [243, 244, 245], [])
def vq_438 (c_ : Int) (e_ : Int) (k_ : Int) (n_ : Int) (S0_ : sm_S) (u_ : Option sm_V) (S1_ : sm_S) : Prop := u_ = none ∧ gi S1_ ∧ ai_fr (sx_W vw_438) S0_ S1_ ∧ (apn n_ (1 + S0_.2.2.1 241 0 (156 * c_ + e_).toNat + k_) (3 * S0_.2.2.1 242 0 (156 * c_ + e_).toNat + 1) S0_ S1_)
set_option maxHeartbeats 400000 in
set_option maxRecDepth 20000 in
theorem vc_438 {sc_ : Nat × (Nat → Int)} (c_ : Int) (e_ : Int) (k_ : Int) (n_ : Int) (S0_ : sm_S) (hI_ : gi S0_) (hc_ : 0 ≤ c_ ∧ c_ ≤ 3) (he_ : 0 ≤ e_ ∧ e_ ≤ 155) (hk_ : 0 ≤ k_ ∧ k_ ≤ 4) (h1_ : (S0_.1 13 0 159) ≤ 699) (hn_ : n_ ≤ 161) : sm_T (mt_P sc_) 1 438 (0, [some (.inr (.inr (some (13, 0)))), some (.inl c_), some (.inl e_), some (.inl k_), some (.inl n_)], [], S0_) (fun ro9_ => ∃ u_ S1_, ro9_ = (.inl u_, S1_, 0) ∧ vq_438 c_ e_ k_ n_ S0_ u_ S1_) := by
  have hF_ : ai_fr (sx_W vw_438) S0_ S0_ := ai_fr_rf
  refine sm_T_go 7 (c1 := (12, [some (.inr (.inr (some (13, 0)))), some (.inl c_), some (.inl e_), some (.inl k_), some (.inl n_)], [.inl c_, .inl 156, .inr (.inr (some (241, 0))), .inl 1, .inl n_, .inr (.inr (some (13, 0)))], S0_)) rfl ?_
  refine sm_T_bin (w := 156 * c_) rfl (bi_mul (by omega) (by omega) (by omega)) ?_ -- pc_ 12
  refine sm_T_go 1 (c1 := (14, [some (.inr (.inr (some (13, 0)))), some (.inl c_), some (.inl e_), some (.inl k_), some (.inl n_)], [.inl e_, .inl (156 * c_), .inr (.inr (some (241, 0))), .inl 1, .inl n_, .inr (.inr (some (13, 0)))], S0_)) rfl ?_
  refine sm_T_bin (w := 156 * c_ + e_) rfl (bi_add (by omega) (by omega) (by omega)) ?_ -- pc_ 14
  refine sm_T_iald (n := 624) rfl rfl (by omega) (by omega) ?_
  have bx1_ : 0 ≤ S0_.2.2.1 241 0 (156 * c_ + e_).toNat ∧ S0_.2.2.1 241 0 (156 * c_ + e_).toNat ≤ 60 := hI_.2 241 0 _
  refine sm_T_bin (w := (S0_.2.2.1 241 0 (156 * c_ + e_).toNat) + 1) rfl (bi_add (by omega) (by omega) (by omega)) ?_ -- pc_ 16
  refine sm_T_go 1 (c1 := (18, [some (.inr (.inr (some (13, 0)))), some (.inl c_), some (.inl e_), some (.inl k_), some (.inl n_)], [.inl k_, .inl ((S0_.2.2.1 241 0 (156 * c_ + e_).toNat) + 1), .inl n_, .inr (.inr (some (13, 0)))], S0_)) rfl ?_
  refine sm_T_bin (w := (S0_.2.2.1 241 0 (156 * c_ + e_).toNat) + k_ + 1) rfl (bi_add (by omega) (by omega) (by omega)) ?_ -- pc_ 18
  refine sm_T_go 5 (c1 := (28, [some (.inr (.inr (some (13, 0)))), some (.inl c_), some (.inl e_), some (.inl k_), some (.inl n_)], [.inl c_, .inl 156, .inr (.inr (some (242, 0))), .inl 3, .inl ((S0_.2.2.1 241 0 (156 * c_ + e_).toNat) + k_ + 1), .inl n_, .inr (.inr (some (13, 0)))], S0_)) rfl ?_
  refine sm_T_bin (w := 156 * c_) rfl (bi_mul (by omega) (by omega) (by omega)) ?_ -- pc_ 28
  refine sm_T_go 1 (c1 := (30, [some (.inr (.inr (some (13, 0)))), some (.inl c_), some (.inl e_), some (.inl k_), some (.inl n_)], [.inl e_, .inl (156 * c_), .inr (.inr (some (242, 0))), .inl 3, .inl ((S0_.2.2.1 241 0 (156 * c_ + e_).toNat) + k_ + 1), .inl n_, .inr (.inr (some (13, 0)))], S0_)) rfl ?_
  refine sm_T_bin (w := 156 * c_ + e_) rfl (bi_add (by omega) (by omega) (by omega)) ?_ -- pc_ 30
  refine sm_T_iald (n := 624) rfl rfl (by omega) (by omega) ?_
  have bx2_ : 0 ≤ S0_.2.2.1 242 0 (156 * c_ + e_).toNat ∧ S0_.2.2.1 242 0 (156 * c_ + e_).toNat ≤ 12 := hI_.2 242 0 _
  refine sm_T_bin (w := 3 * (S0_.2.2.1 242 0 (156 * c_ + e_).toNat)) rfl (bi_mul (by omega) (by omega) (by omega)) ?_ -- pc_ 32
  refine sm_T_go 1 (c1 := (34, [some (.inr (.inr (some (13, 0)))), some (.inl c_), some (.inl e_), some (.inl k_), some (.inl n_)], [.inl 1, .inl (3 * (S0_.2.2.1 242 0 (156 * c_ + e_).toNat)), .inl ((S0_.2.2.1 241 0 (156 * c_ + e_).toNat) + k_ + 1), .inl n_, .inr (.inr (some (13, 0)))], S0_)) rfl ?_
  refine sm_T_bin (w := 3 * (S0_.2.2.1 242 0 (156 * c_ + e_).toNat) + 1) rfl (bi_add (by omega) (by omega) (by omega)) ?_ -- pc_ 34
  refine sm_T_cal (d1 := 0) (Q1 := vq_437 n_ ((S0_.2.2.1 241 0 (156 * c_ + e_).toNat) + k_ + 1) (3 * (S0_.2.2.1 242 0 (156 * c_ + e_).toNat) + 1) S0_) rfl rfl (by decide) (vc_437 n_ ((S0_.2.2.1 241 0 (156 * c_ + e_).toNat) + k_ + 1) (3 * (S0_.2.2.1 242 0 (156 * c_ + e_).toNat) + 1) S0_ hI_ (by omega) (by omega) (by omega) (by omega)) (fun u_ Sx3_ px6_ => ?_)
  obtain ⟨rfl, hIx4_, hFx5_, px6_⟩ := px6_
  have hFx7_ : ai_fr (sx_W vw_438) S0_ Sx3_ := ai_fr_tr hF_ (fr_le hFx5_ rfl)
  have a35_ := px6_
  refine sm_T_rv rfl ⟨_, _, rfl, rfl, hIx4_, hFx7_, ?_⟩
  first | exact a35_ | (rw [show 1 + S0_.2.2.1 241 0 (156 * c_ + e_).toNat + k_ = S0_.2.2.1 241 0 (156 * c_ + e_).toNat + k_ + 1 by omega]; exact a35_)
/-! M_.gatherPins -/
def vw_439 : sx_Wl := ([(13, 159)], [243, 244, 245], [])
def vq_439 (c_ : Int) (X_ : Int) (Y_ : Int) (S0_ : sm_S) (u_ : Option sm_V) (S1_ : sm_S) : Prop := u_ = none ∧ gi S1_ ∧ ai_fr (sx_W vw_439) S0_ S1_ ∧ (pnv (S0_.2.2.1 223 0 c_.toNat + S0_.2.2.1 224 0 c_.toNat + S0_.2.2.1 228 0 c_.toNat) X_ Y_ S1_)
set_option maxHeartbeats 2000000 in
set_option maxRecDepth 20000 in
theorem vl_439 {sc_ : Nat × (Nat → Int)} (c_ : Int) (X_ : Int) (Y_ : Int) (S0_ : sm_S) (hc_ : 0 ≤ c_ ∧ c_ ≤ 3) (hx_ : S0_.2.2.1 223 0 c_.toNat + S0_.2.2.1 224 0 c_.toNat ≤ 12) (hg_ : cgt c_ S0_) (ho_ : con c_ S0_) (hP_ : ple c_ X_ Y_ S0_) : ∀ nn_ : Nat, (∀ (i_ : Int) (S_ : sm_S), gi S_ → ai_fr (sx_W vw_439) S0_ S_ → ((0 ≤ i_ ∧ i_ ≤ 12 ∧ S_.1 13 0 159 ≤ i_) ∧ (pnv (S0_.2.2.1 223 0 c_.toNat + S0_.2.2.1 224 0 c_.toNat + S0_.2.2.1 228 0 c_.toNat) X_ Y_ S_) ∧ True) → ((90000 - i_).toNat) < nn_ → sm_T (mt_P sc_) 2 439 (7, [some (.inr (.inr (some (13, 0)))), some (.inl c_), some (.inl i_), none, none, none], [], S_) (fun ro9_ => ∃ u_ S1_, ro9_ = (.inl u_, S1_, 0) ∧ vq_439 c_ X_ Y_ S0_ u_ S1_)) ∧ (∀ (k_ : Int) (S_ : sm_S), gi S_ → ai_fr (sx_W vw_439) S0_ S_ → ((0 ≤ k_ ∧ k_ ≤ 16 ∧ S_.1 13 0 159 ≤ 12 + k_) ∧ (pnv (S0_.2.2.1 223 0 c_.toNat + S0_.2.2.1 224 0 c_.toNat + S0_.2.2.1 228 0 c_.toNat) X_ Y_ S_) ∧ True) → ((80000 - k_).toNat) < nn_ → sm_T (mt_P sc_) 2 439 (32, [some (.inr (.inr (some (13, 0)))), some (.inl c_), some (.inl k_), none, none, none], [], S_) (fun ro9_ => ∃ u_ S1_, ro9_ = (.inl u_, S1_, 0) ∧ vq_439 c_ X_ Y_ S0_ u_ S1_)) ∧ (∀ (f_ : Int) (S_ : sm_S), gi S_ → ai_fr (sx_W vw_439) S0_ S_ → ((0 ≤ f_ ∧ f_ ≤ 6 ∧ S_.1 13 0 159 ≤ 28 + 2 * f_) ∧ (pnv (S0_.2.2.1 223 0 c_.toNat + S0_.2.2.1 224 0 c_.toNat + S0_.2.2.1 228 0 c_.toNat) X_ Y_ S_) ∧ True) → ((70000 - f_).toNat) < nn_ → sm_T (mt_P sc_) 2 439 (74, [some (.inr (.inr (some (13, 0)))), some (.inl c_), some (.inl f_), none, none, none], [], S_) (fun ro9_ => ∃ u_ S1_, ro9_ = (.inl u_, S1_, 0) ∧ vq_439 c_ X_ Y_ S0_ u_ S1_)) ∧ (∀ (g_ : Int) (S_ : sm_S), gi S_ → ai_fr (sx_W vw_439) S0_ S_ → ((0 ≤ g_ ∧ g_ ≤ 150 ∧ S_.1 13 0 159 ≤ 40 + 4 * g_) ∧ (pnv (S0_.2.2.1 223 0 c_.toNat + S0_.2.2.1 224 0 c_.toNat + S0_.2.2.1 228 0 c_.toNat) X_ Y_ S_) ∧ True) → ((10 * (5000 - g_) + 9).toNat) < nn_ → sm_T (mt_P sc_) 2 439 (125, [some (.inr (.inr (some (13, 0)))), some (.inl c_), some (.inl g_), none, none, none], [], S_) (fun ro9_ => ∃ u_ S1_, ro9_ = (.inl u_, S1_, 0) ∧ vq_439 c_ X_ Y_ S0_ u_ S1_)) ∧ (∀ (g_ : Int) (e_ : Int) (n9_ : Int) (k_ : Int) (S_ : sm_S), gi S_ → ai_fr (sx_W vw_439) S0_ S_ → ((0 ≤ g_ ∧ g_ < S0_.2.2.1 228 0 c_.toNat ∧ 0 ≤ k_ ∧ k_ ≤ n9_ ∧ S_.1 13 0 159 ≤ 40 + 4 * g_ + k_ ∧ e_ = S0_.2.2.1 224 0 c_.toNat + g_ ∧ n9_ ≤ 3) ∧ (n9_ = S_.2.2.1 234 0 (12 * c_ + S_.2.2.1 229 0 (150 * c_ + g_).toNat).toNat) ∧ (pnv (S0_.2.2.1 223 0 c_.toNat + S0_.2.2.1 224 0 c_.toNat + S0_.2.2.1 228 0 c_.toNat) X_ Y_ S_) ∧ True) → ((10 * (5000 - g_) + 8 - k_).toNat) < nn_ → sm_T (mt_P sc_) 2 439 (160, [some (.inr (.inr (some (13, 0)))), some (.inl c_), some (.inl g_), some (.inl e_), some (.inl n9_), some (.inl k_)], [], S_) (fun ro9_ => ∃ u_ S1_, ro9_ = (.inl u_, S1_, 0) ∧ vq_439 c_ X_ Y_ S0_ u_ S1_)) := by
  intro nn_
  induction nn_ with
  | zero => exact ⟨fun _ _ _ _ _ h_ => absurd h_ (Nat.not_lt_zero _), fun _ _ _ _ _ h_ => absurd h_ (Nat.not_lt_zero _), fun _ _ _ _ _ h_ => absurd h_ (Nat.not_lt_zero _), fun _ _ _ _ _ h_ => absurd h_ (Nat.not_lt_zero _), fun _ _ _ _ _ _ _ _ h_ => absurd h_ (Nat.not_lt_zero _)⟩
  | succ nn_ ih_ =>
    refine ⟨?_, ?_, ?_, ?_, ?_⟩
    · rintro i_ S_ hI_ hF_ ⟨h0_, hv_, -⟩ hm_
      have f223_ : S_.2.2.1 223 0 = S0_.2.2.1 223 0 := fr_arr hF_ rfl
      have f224_ : S_.2.2.1 224 0 = S0_.2.2.1 224 0 := fr_arr hF_ rfl
      have f225_ : S_.2.2.1 225 0 = S0_.2.2.1 225 0 := fr_arr hF_ rfl
      have f228_ : S_.2.2.1 228 0 = S0_.2.2.1 228 0 := fr_arr hF_ rfl
      have f229_ : S_.2.2.1 229 0 = S0_.2.2.1 229 0 := fr_arr hF_ rfl
      have f230_ : S_.2.2.1 230 0 = S0_.2.2.1 230 0 := fr_arr hF_ rfl
      have f231_ : S_.2.2.1 231 0 = S0_.2.2.1 231 0 := fr_arr hF_ rfl
      have f232_ : S_.2.2.1 232 0 = S0_.2.2.1 232 0 := fr_arr hF_ rfl
      have f234_ : S_.2.2.1 234 0 = S0_.2.2.1 234 0 := fr_arr hF_ rfl
      have f239_ : S_.2.2.1 239 0 = S0_.2.2.1 239 0 := fr_arr hF_ rfl
      have f241_ : S_.2.2.1 241 0 = S0_.2.2.1 241 0 := fr_arr hF_ rfl
      have f242_ : S_.2.2.1 242 0 = S0_.2.2.1 242 0 := fr_arr hF_ rfl
      have P9_ : 0 ≤ S_.1 13 0 159 ∧ S_.1 13 0 159 ≤ 700 := hI_.1 13 0 159 rfl
      have cA_ : 0 ≤ S_.2.2.1 223 0 c_.toNat ∧ S_.2.2.1 223 0 c_.toNat ≤ 12 := hI_.2 223 0 _
      have cB_ : 0 ≤ S_.2.2.1 224 0 c_.toNat ∧ S_.2.2.1 224 0 c_.toNat ≤ 6 := hI_.2 224 0 _
      have cG_ : 0 ≤ S_.2.2.1 228 0 c_.toNat ∧ S_.2.2.1 228 0 c_.toNat ≤ 150 := hI_.2 228 0 _
      have cO_ : 0 ≤ S_.2.2.1 225 0 c_.toNat ∧ S_.2.2.1 225 0 c_.toNat ≤ 16 := hI_.2 225 0 _
      have cS_ : 0 ≤ S_.2.2.1 239 0 c_.toNat ∧ S_.2.2.1 239 0 c_.toNat ≤ 60 := hI_.2 239 0 _
      have x223_ : S_.2.2.1 223 0 c_.toNat = S0_.2.2.1 223 0 c_.toNat := congrFun f223_ _
      have x224_ : S_.2.2.1 224 0 c_.toNat = S0_.2.2.1 224 0 c_.toNat := congrFun f224_ _
      have x225_ : S_.2.2.1 225 0 c_.toNat = S0_.2.2.1 225 0 c_.toNat := congrFun f225_ _
      have x228_ : S_.2.2.1 228 0 c_.toNat = S0_.2.2.1 228 0 c_.toNat := congrFun f228_ _
      have x239_ : S_.2.2.1 239 0 c_.toNat = S0_.2.2.1 239 0 c_.toNat := congrFun f239_ _
      have hp1_ := hP_.1
      have hp2_ := hP_.2.1
      have hp3_ := hP_.2.2.1
      have hP9_ := ple_fr hP_ hF_
      have hg9_ := cgt_fr hc_.1 hI_ hg_ hF_
      have ho9_ := con_fr hc_.1 hI_ ho_ hF_
      refine sm_T_go 4 (c1 := (13, [some (.inr (.inr (some (13, 0)))), some (.inl c_), some (.inl i_), none, none, none], [.inl c_, .inr (.inr (some (223, 0))), .inl i_], S_)) rfl ?_
      refine sm_T_iald (n := 4) rfl rfl (by omega) (by omega) ?_
      have bx1_ : 0 ≤ S_.2.2.1 223 0 c_.toNat ∧ S_.2.2.1 223 0 c_.toNat ≤ 12 := hI_.2 223 0 _
      refine sm_T_br (a := 3) (z := 16) rfl (fun cx2_ => ?_) (fun cx2_ => ?_)
      · have cx2_ : (S_.2.2.1 223 0 c_.toNat) ≤ i_ := of_decide_eq_true cx2_
        refine sm_T_go 2 (c1 := (32, [some (.inr (.inr (some (13, 0)))), some (.inl c_), some (.inl 0), none, none, none], [], S_)) rfl ?_
        refine ih_.2.1 0 S_ hI_ hF_ ⟨?_, ?_, trivial⟩ ?_
        · omega
        · exact hv_
        · omega
      · have cx2_ : ¬ ((S_.2.2.1 223 0 c_.toNat) ≤ i_) := of_decide_eq_false cx2_
        refine sm_T_go 4 (c1 := (21, [some (.inr (.inr (some (13, 0)))), some (.inl c_), some (.inl i_), none, none, none], [.inl i_, .inl 0, .inl i_, .inr (.inr (some (13, 0)))], S_)) rfl ?_
        refine sm_T_cal (d1 := 0) (Q1 := vq_437 i_ 0 i_ S_) rfl rfl (by decide) (vc_437 i_ 0 i_ S_ hI_ (by omega) (by omega) (by omega) (by omega)) (fun u_ Sx3_ px6_ => ?_)
        obtain ⟨rfl, hIx4_, hFx5_, px6_⟩ := px6_
        have hFx7_ : ai_fr (sx_W vw_439) S0_ Sx3_ := ai_fr_tr hF_ (fr_le hFx5_ rfl)
        have a21_ := px6_
        have v21_ := apn_c a21_
        have w21_ := pnv_ad hv_ a21_ P9_.1 (by omega) (by omega) (by omega)
        refine sm_T_inc (a := 2) (z := 1) (v := i_) (w := i_ + 1) rfl rfl (by omega) (by omega) (by omega) ?_ -- pc_ 24
        refine sm_T_go 1 (c1 := (7, [some (.inr (.inr (some (13, 0)))), some (.inl c_), some (.inl (i_ + 1)), none, none, none], [], Sx3_)) rfl ?_
        refine ih_.1 (i_ + 1) Sx3_ hIx4_ hFx7_ ⟨?_, ?_, trivial⟩ ?_
        · omega
        · exact w21_
        · omega
    · rintro k_ S_ hI_ hF_ ⟨h0_, hv_, -⟩ hm_
      have f223_ : S_.2.2.1 223 0 = S0_.2.2.1 223 0 := fr_arr hF_ rfl
      have f224_ : S_.2.2.1 224 0 = S0_.2.2.1 224 0 := fr_arr hF_ rfl
      have f225_ : S_.2.2.1 225 0 = S0_.2.2.1 225 0 := fr_arr hF_ rfl
      have f228_ : S_.2.2.1 228 0 = S0_.2.2.1 228 0 := fr_arr hF_ rfl
      have f229_ : S_.2.2.1 229 0 = S0_.2.2.1 229 0 := fr_arr hF_ rfl
      have f230_ : S_.2.2.1 230 0 = S0_.2.2.1 230 0 := fr_arr hF_ rfl
      have f231_ : S_.2.2.1 231 0 = S0_.2.2.1 231 0 := fr_arr hF_ rfl
      have f232_ : S_.2.2.1 232 0 = S0_.2.2.1 232 0 := fr_arr hF_ rfl
      have f234_ : S_.2.2.1 234 0 = S0_.2.2.1 234 0 := fr_arr hF_ rfl
      have f239_ : S_.2.2.1 239 0 = S0_.2.2.1 239 0 := fr_arr hF_ rfl
      have f241_ : S_.2.2.1 241 0 = S0_.2.2.1 241 0 := fr_arr hF_ rfl
      have f242_ : S_.2.2.1 242 0 = S0_.2.2.1 242 0 := fr_arr hF_ rfl
      have P9_ : 0 ≤ S_.1 13 0 159 ∧ S_.1 13 0 159 ≤ 700 := hI_.1 13 0 159 rfl
      have cA_ : 0 ≤ S_.2.2.1 223 0 c_.toNat ∧ S_.2.2.1 223 0 c_.toNat ≤ 12 := hI_.2 223 0 _
      have cB_ : 0 ≤ S_.2.2.1 224 0 c_.toNat ∧ S_.2.2.1 224 0 c_.toNat ≤ 6 := hI_.2 224 0 _
      have cG_ : 0 ≤ S_.2.2.1 228 0 c_.toNat ∧ S_.2.2.1 228 0 c_.toNat ≤ 150 := hI_.2 228 0 _
      have cO_ : 0 ≤ S_.2.2.1 225 0 c_.toNat ∧ S_.2.2.1 225 0 c_.toNat ≤ 16 := hI_.2 225 0 _
      have cS_ : 0 ≤ S_.2.2.1 239 0 c_.toNat ∧ S_.2.2.1 239 0 c_.toNat ≤ 60 := hI_.2 239 0 _
      have x223_ : S_.2.2.1 223 0 c_.toNat = S0_.2.2.1 223 0 c_.toNat := congrFun f223_ _
      have x224_ : S_.2.2.1 224 0 c_.toNat = S0_.2.2.1 224 0 c_.toNat := congrFun f224_ _
      have x225_ : S_.2.2.1 225 0 c_.toNat = S0_.2.2.1 225 0 c_.toNat := congrFun f225_ _
      have x228_ : S_.2.2.1 228 0 c_.toNat = S0_.2.2.1 228 0 c_.toNat := congrFun f228_ _
      have x239_ : S_.2.2.1 239 0 c_.toNat = S0_.2.2.1 239 0 c_.toNat := congrFun f239_ _
      have hp1_ := hP_.1
      have hp2_ := hP_.2.1
      have hp3_ := hP_.2.2.1
      have hP9_ := ple_fr hP_ hF_
      have hg9_ := cgt_fr hc_.1 hI_ hg_ hF_
      have ho9_ := con_fr hc_.1 hI_ ho_ hF_
      refine sm_T_go 4 (c1 := (38, [some (.inr (.inr (some (13, 0)))), some (.inl c_), some (.inl k_), none, none, none], [.inl c_, .inr (.inr (some (225, 0))), .inl k_], S_)) rfl ?_
      refine sm_T_iald (n := 4) rfl rfl (by omega) (by omega) ?_
      have bx1_ : 0 ≤ S_.2.2.1 225 0 c_.toNat ∧ S_.2.2.1 225 0 c_.toNat ≤ 16 := hI_.2 225 0 _
      refine sm_T_br (a := 3) (z := 33) rfl (fun cx2_ => ?_) (fun cx2_ => ?_)
      · have cx2_ : (S_.2.2.1 225 0 c_.toNat) ≤ k_ := of_decide_eq_true cx2_
        refine sm_T_go 2 (c1 := (74, [some (.inr (.inr (some (13, 0)))), some (.inl c_), some (.inl 0), none, none, none], [], S_)) rfl ?_
        refine ih_.2.2.1 0 S_ hI_ hF_ ⟨?_, ?_, trivial⟩ ?_
        · omega
        · exact hv_
        · omega
      · have cx2_ : ¬ ((S_.2.2.1 225 0 c_.toNat) ≤ k_) := of_decide_eq_false cx2_
        have o9_ := ho9_.1 k_ (by omega) (by omega)
        rw [f223_, f224_, f228_] at o9_
        refine sm_T_go 5 (c1 := (50, [some (.inr (.inr (some (13, 0)))), some (.inl c_), some (.inl k_), none, none, none], [.inl c_, .inl 16, .inr (.inr (some (231, 0))), .inr (.inr (some (13, 0)))], S_)) rfl ?_
        refine sm_T_bin (w := 16 * c_) rfl (bi_mul (by omega) (by omega) (by omega)) ?_ -- pc_ 50
        refine sm_T_go 1 (c1 := (52, [some (.inr (.inr (some (13, 0)))), some (.inl c_), some (.inl k_), none, none, none], [.inl k_, .inl (16 * c_), .inr (.inr (some (231, 0))), .inr (.inr (some (13, 0)))], S_)) rfl ?_
        refine sm_T_bin (w := 16 * c_ + k_) rfl (bi_add (by omega) (by omega) (by omega)) ?_ -- pc_ 52
        refine sm_T_iald (n := 64) rfl rfl (by omega) (by omega) ?_
        have bx3_ : (-2) ≤ S_.2.2.1 231 0 (16 * c_ + k_).toNat ∧ S_.2.2.1 231 0 (16 * c_ + k_).toNat ≤ 9000 := hI_.2 231 0 _
        refine sm_T_go 3 (c1 := (59, [some (.inr (.inr (some (13, 0)))), some (.inl c_), some (.inl k_), none, none, none], [.inl c_, .inr (.inr (some (239, 0))), .inl (S_.2.2.1 231 0 (16 * c_ + k_).toNat), .inr (.inr (some (13, 0)))], S_)) rfl ?_
        refine sm_T_iald (n := 4) rfl rfl (by omega) (by omega) ?_
        have bx4_ : 0 ≤ S_.2.2.1 239 0 c_.toNat ∧ S_.2.2.1 239 0 c_.toNat ≤ 60 := hI_.2 239 0 _
        refine sm_T_go 1 (c1 := (61, [some (.inr (.inr (some (13, 0)))), some (.inl c_), some (.inl k_), none, none, none], [.inl 1, .inl (S_.2.2.1 239 0 c_.toNat), .inl (S_.2.2.1 231 0 (16 * c_ + k_).toNat), .inr (.inr (some (13, 0)))], S_)) rfl ?_
        refine sm_T_bin (w := (S_.2.2.1 239 0 c_.toNat) + 1) rfl (bi_add (by omega) (by omega) (by omega)) ?_ -- pc_ 61
        refine sm_T_go 1 (c1 := (63, [some (.inr (.inr (some (13, 0)))), some (.inl c_), some (.inl k_), none, none, none], [.inl k_, .inl ((S_.2.2.1 239 0 c_.toNat) + 1), .inl (S_.2.2.1 231 0 (16 * c_ + k_).toNat), .inr (.inr (some (13, 0)))], S_)) rfl ?_
        refine sm_T_cal (d1 := 0) (Q1 := vq_437 (S_.2.2.1 231 0 (16 * c_ + k_).toNat) ((S_.2.2.1 239 0 c_.toNat) + 1) k_ S_) rfl rfl (by decide) (vc_437 (S_.2.2.1 231 0 (16 * c_ + k_).toNat) ((S_.2.2.1 239 0 c_.toNat) + 1) k_ S_ hI_ (by omega) (by omega) (by omega) (by omega)) (fun u_ Sx5_ px8_ => ?_)
        obtain ⟨rfl, hIx6_, hFx7_, px8_⟩ := px8_
        have hFx9_ : ai_fr (sx_W vw_439) S0_ Sx5_ := ai_fr_tr hF_ (fr_le hFx7_ rfl)
        have a63_ := px8_
        have v63_ := apn_c a63_
        rw [f239_] at a63_
        have w63_ := pnv_ad hv_ a63_ P9_.1 (by omega) (by omega) (by omega)
        refine sm_T_inc (a := 2) (z := 1) (v := k_) (w := k_ + 1) rfl rfl (by omega) (by omega) (by omega) ?_ -- pc_ 66
        refine sm_T_go 1 (c1 := (32, [some (.inr (.inr (some (13, 0)))), some (.inl c_), some (.inl (k_ + 1)), none, none, none], [], Sx5_)) rfl ?_
        refine ih_.2.1 (k_ + 1) Sx5_ hIx6_ hFx9_ ⟨?_, ?_, trivial⟩ ?_
        · omega
        · exact w63_
        · omega
    · rintro f_ S_ hI_ hF_ ⟨h0_, hv_, -⟩ hm_
      have f223_ : S_.2.2.1 223 0 = S0_.2.2.1 223 0 := fr_arr hF_ rfl
      have f224_ : S_.2.2.1 224 0 = S0_.2.2.1 224 0 := fr_arr hF_ rfl
      have f225_ : S_.2.2.1 225 0 = S0_.2.2.1 225 0 := fr_arr hF_ rfl
      have f228_ : S_.2.2.1 228 0 = S0_.2.2.1 228 0 := fr_arr hF_ rfl
      have f229_ : S_.2.2.1 229 0 = S0_.2.2.1 229 0 := fr_arr hF_ rfl
      have f230_ : S_.2.2.1 230 0 = S0_.2.2.1 230 0 := fr_arr hF_ rfl
      have f231_ : S_.2.2.1 231 0 = S0_.2.2.1 231 0 := fr_arr hF_ rfl
      have f232_ : S_.2.2.1 232 0 = S0_.2.2.1 232 0 := fr_arr hF_ rfl
      have f234_ : S_.2.2.1 234 0 = S0_.2.2.1 234 0 := fr_arr hF_ rfl
      have f239_ : S_.2.2.1 239 0 = S0_.2.2.1 239 0 := fr_arr hF_ rfl
      have f241_ : S_.2.2.1 241 0 = S0_.2.2.1 241 0 := fr_arr hF_ rfl
      have f242_ : S_.2.2.1 242 0 = S0_.2.2.1 242 0 := fr_arr hF_ rfl
      have P9_ : 0 ≤ S_.1 13 0 159 ∧ S_.1 13 0 159 ≤ 700 := hI_.1 13 0 159 rfl
      have cA_ : 0 ≤ S_.2.2.1 223 0 c_.toNat ∧ S_.2.2.1 223 0 c_.toNat ≤ 12 := hI_.2 223 0 _
      have cB_ : 0 ≤ S_.2.2.1 224 0 c_.toNat ∧ S_.2.2.1 224 0 c_.toNat ≤ 6 := hI_.2 224 0 _
      have cG_ : 0 ≤ S_.2.2.1 228 0 c_.toNat ∧ S_.2.2.1 228 0 c_.toNat ≤ 150 := hI_.2 228 0 _
      have cO_ : 0 ≤ S_.2.2.1 225 0 c_.toNat ∧ S_.2.2.1 225 0 c_.toNat ≤ 16 := hI_.2 225 0 _
      have cS_ : 0 ≤ S_.2.2.1 239 0 c_.toNat ∧ S_.2.2.1 239 0 c_.toNat ≤ 60 := hI_.2 239 0 _
      have x223_ : S_.2.2.1 223 0 c_.toNat = S0_.2.2.1 223 0 c_.toNat := congrFun f223_ _
      have x224_ : S_.2.2.1 224 0 c_.toNat = S0_.2.2.1 224 0 c_.toNat := congrFun f224_ _
      have x225_ : S_.2.2.1 225 0 c_.toNat = S0_.2.2.1 225 0 c_.toNat := congrFun f225_ _
      have x228_ : S_.2.2.1 228 0 c_.toNat = S0_.2.2.1 228 0 c_.toNat := congrFun f228_ _
      have x239_ : S_.2.2.1 239 0 c_.toNat = S0_.2.2.1 239 0 c_.toNat := congrFun f239_ _
      have hp1_ := hP_.1
      have hp2_ := hP_.2.1
      have hp3_ := hP_.2.2.1
      have hP9_ := ple_fr hP_ hF_
      have hg9_ := cgt_fr hc_.1 hI_ hg_ hF_
      have ho9_ := con_fr hc_.1 hI_ ho_ hF_
      refine sm_T_go 4 (c1 := (80, [some (.inr (.inr (some (13, 0)))), some (.inl c_), some (.inl f_), none, none, none], [.inl c_, .inr (.inr (some (224, 0))), .inl f_], S_)) rfl ?_
      refine sm_T_iald (n := 4) rfl rfl (by omega) (by omega) ?_
      have bx1_ : 0 ≤ S_.2.2.1 224 0 c_.toNat ∧ S_.2.2.1 224 0 c_.toNat ≤ 6 := hI_.2 224 0 _
      refine sm_T_br (a := 3) (z := 42) rfl (fun cx2_ => ?_) (fun cx2_ => ?_)
      · have cx2_ : (S_.2.2.1 224 0 c_.toNat) ≤ f_ := of_decide_eq_true cx2_
        refine sm_T_go 2 (c1 := (125, [some (.inr (.inr (some (13, 0)))), some (.inl c_), some (.inl 0), none, none, none], [], S_)) rfl ?_
        refine ih_.2.2.2.1 0 S_ hI_ hF_ ⟨?_, ?_, trivial⟩ ?_
        · omega
        · exact hv_
        · omega
      · have cx2_ : ¬ ((S_.2.2.1 224 0 c_.toNat) ≤ f_) := of_decide_eq_false cx2_
        have o9_ := ho9_.2 f_ (by omega) (by omega)
        rw [f223_, f224_, f228_] at o9_
        have z9_ : csz c_ S_ f_ = 2 := by (unfold csz; rw [if_pos (by omega)])
        have q9_ := hP9_.2.2.2 f_ (by omega) (by omega)
        rw [z9_] at q9_
        refine sm_T_go 8 (c1 := (95, [some (.inr (.inr (some (13, 0)))), some (.inl c_), some (.inl f_), none, none, none], [.inl c_, .inl 6, .inr (.inr (some (232, 0))), .inl 0, .inl f_, .inl c_, .inr (.inr (some (13, 0)))], S_)) rfl ?_
        refine sm_T_bin (w := 6 * c_) rfl (bi_mul (by omega) (by omega) (by omega)) ?_ -- pc_ 95
        refine sm_T_go 1 (c1 := (97, [some (.inr (.inr (some (13, 0)))), some (.inl c_), some (.inl f_), none, none, none], [.inl f_, .inl (6 * c_), .inr (.inr (some (232, 0))), .inl 0, .inl f_, .inl c_, .inr (.inr (some (13, 0)))], S_)) rfl ?_
        refine sm_T_bin (w := 6 * c_ + f_) rfl (bi_add (by omega) (by omega) (by omega)) ?_ -- pc_ 97
        refine sm_T_iald (n := 24) rfl rfl (by omega) (by omega) ?_
        have bx3_ : (-2) ≤ S_.2.2.1 232 0 (6 * c_ + f_).toNat ∧ S_.2.2.1 232 0 (6 * c_ + f_).toNat ≤ 9000 := hI_.2 232 0 _
        refine sm_T_cal (d1 := 1) (Q1 := vq_438 c_ f_ 0 (S_.2.2.1 232 0 (6 * c_ + f_).toNat) S_) rfl rfl (by decide) (vc_438 c_ f_ 0 (S_.2.2.1 232 0 (6 * c_ + f_).toNat) S_ hI_ (by omega) (by omega) (by omega) (by omega) (by omega)) (fun u_ Sx4_ px7_ => ?_)
        obtain ⟨rfl, hIx5_, hFx6_, px7_⟩ := px7_
        have hFx8_ : ai_fr (sx_W vw_439) S0_ Sx4_ := ai_fr_tr hF_ (fr_le hFx6_ rfl)
        have a99_ := px7_
        have v99_ := apn_c a99_
        have w99_ := pnv_ad hv_ a99_ P9_.1 (by omega) (by omega) (by omega)
        have u99_ : 0 ≤ Sx4_.1 13 0 159 ∧ Sx4_.1 13 0 159 ≤ 700 := hIx5_.1 13 0 159 rfl
        have y99_ : Sx4_.2.2.1 241 0 = S_.2.2.1 241 0 := fr_arr hFx6_ rfl
        have x99_ : Sx4_.2.2.1 242 0 = S_.2.2.1 242 0 := fr_arr hFx6_ rfl
        have s99_ : Sx4_.2.2.1 223 0 = S_.2.2.1 223 0 := fr_arr hFx6_ rfl
        refine sm_T_go 7 (c1 := (111, [some (.inr (.inr (some (13, 0)))), some (.inl c_), some (.inl f_), none, none, none], [.inl c_, .inr (.inr (some (223, 0))), .inl 1, .inl f_, .inl c_, .inr (.inr (some (13, 0)))], Sx4_)) rfl ?_
        refine sm_T_iald (n := 4) rfl rfl (by omega) (by omega) ?_
        have bx9_ : 0 ≤ Sx4_.2.2.1 223 0 c_.toNat ∧ Sx4_.2.2.1 223 0 c_.toNat ≤ 12 := hIx5_.2 223 0 _
        refine sm_T_go 1 (c1 := (113, [some (.inr (.inr (some (13, 0)))), some (.inl c_), some (.inl f_), none, none, none], [.inl f_, .inl (Sx4_.2.2.1 223 0 c_.toNat), .inl 1, .inl f_, .inl c_, .inr (.inr (some (13, 0)))], Sx4_)) rfl ?_
        refine sm_T_bin (w := (Sx4_.2.2.1 223 0 c_.toNat) + f_) rfl (bi_add (by omega) (by omega) (by omega)) ?_ -- pc_ 113
        refine sm_T_cal (d1 := 1) (Q1 := vq_438 c_ f_ 1 ((Sx4_.2.2.1 223 0 c_.toNat) + f_) Sx4_) rfl rfl (by decide) (vc_438 c_ f_ 1 ((Sx4_.2.2.1 223 0 c_.toNat) + f_) Sx4_ hIx5_ (by omega) (by omega) (by omega) (by omega) (by (rw [s99_, f223_]; omega))) (fun u_ Sx10_ px13_ => ?_)
        obtain ⟨rfl, hIx11_, hFx12_, px13_⟩ := px13_
        have hFx14_ : ai_fr (sx_W vw_439) S0_ Sx10_ := ai_fr_tr hFx8_ (fr_le hFx12_ rfl)
        have a114_ := px13_
        have v114_ := apn_c a114_
        rw [y99_, x99_, s99_, f223_] at a114_
        have w114_ := pnv_ad w99_ a114_ u99_.1 (by omega) (by omega) (by omega)
        refine sm_T_inc (a := 2) (z := 1) (v := f_) (w := f_ + 1) rfl rfl (by omega) (by omega) (by omega) ?_ -- pc_ 117
        refine sm_T_go 1 (c1 := (74, [some (.inr (.inr (some (13, 0)))), some (.inl c_), some (.inl (f_ + 1)), none, none, none], [], Sx10_)) rfl ?_
        refine ih_.2.2.1 (f_ + 1) Sx10_ hIx11_ hFx14_ ⟨?_, ?_, trivial⟩ ?_
        · omega
        · exact w114_
        · omega
    · rintro g_ S_ hI_ hF_ ⟨h0_, hv_, -⟩ hm_
      have f223_ : S_.2.2.1 223 0 = S0_.2.2.1 223 0 := fr_arr hF_ rfl
      have f224_ : S_.2.2.1 224 0 = S0_.2.2.1 224 0 := fr_arr hF_ rfl
      have f225_ : S_.2.2.1 225 0 = S0_.2.2.1 225 0 := fr_arr hF_ rfl
      have f228_ : S_.2.2.1 228 0 = S0_.2.2.1 228 0 := fr_arr hF_ rfl
      have f229_ : S_.2.2.1 229 0 = S0_.2.2.1 229 0 := fr_arr hF_ rfl
      have f230_ : S_.2.2.1 230 0 = S0_.2.2.1 230 0 := fr_arr hF_ rfl
      have f231_ : S_.2.2.1 231 0 = S0_.2.2.1 231 0 := fr_arr hF_ rfl
      have f232_ : S_.2.2.1 232 0 = S0_.2.2.1 232 0 := fr_arr hF_ rfl
      have f234_ : S_.2.2.1 234 0 = S0_.2.2.1 234 0 := fr_arr hF_ rfl
      have f239_ : S_.2.2.1 239 0 = S0_.2.2.1 239 0 := fr_arr hF_ rfl
      have f241_ : S_.2.2.1 241 0 = S0_.2.2.1 241 0 := fr_arr hF_ rfl
      have f242_ : S_.2.2.1 242 0 = S0_.2.2.1 242 0 := fr_arr hF_ rfl
      have P9_ : 0 ≤ S_.1 13 0 159 ∧ S_.1 13 0 159 ≤ 700 := hI_.1 13 0 159 rfl
      have cA_ : 0 ≤ S_.2.2.1 223 0 c_.toNat ∧ S_.2.2.1 223 0 c_.toNat ≤ 12 := hI_.2 223 0 _
      have cB_ : 0 ≤ S_.2.2.1 224 0 c_.toNat ∧ S_.2.2.1 224 0 c_.toNat ≤ 6 := hI_.2 224 0 _
      have cG_ : 0 ≤ S_.2.2.1 228 0 c_.toNat ∧ S_.2.2.1 228 0 c_.toNat ≤ 150 := hI_.2 228 0 _
      have cO_ : 0 ≤ S_.2.2.1 225 0 c_.toNat ∧ S_.2.2.1 225 0 c_.toNat ≤ 16 := hI_.2 225 0 _
      have cS_ : 0 ≤ S_.2.2.1 239 0 c_.toNat ∧ S_.2.2.1 239 0 c_.toNat ≤ 60 := hI_.2 239 0 _
      have x223_ : S_.2.2.1 223 0 c_.toNat = S0_.2.2.1 223 0 c_.toNat := congrFun f223_ _
      have x224_ : S_.2.2.1 224 0 c_.toNat = S0_.2.2.1 224 0 c_.toNat := congrFun f224_ _
      have x225_ : S_.2.2.1 225 0 c_.toNat = S0_.2.2.1 225 0 c_.toNat := congrFun f225_ _
      have x228_ : S_.2.2.1 228 0 c_.toNat = S0_.2.2.1 228 0 c_.toNat := congrFun f228_ _
      have x239_ : S_.2.2.1 239 0 c_.toNat = S0_.2.2.1 239 0 c_.toNat := congrFun f239_ _
      have hp1_ := hP_.1
      have hp2_ := hP_.2.1
      have hp3_ := hP_.2.2.1
      have hP9_ := ple_fr hP_ hF_
      have hg9_ := cgt_fr hc_.1 hI_ hg_ hF_
      have ho9_ := con_fr hc_.1 hI_ ho_ hF_
      refine sm_T_go 4 (c1 := (131, [some (.inr (.inr (some (13, 0)))), some (.inl c_), some (.inl g_), none, none, none], [.inl c_, .inr (.inr (some (228, 0))), .inl g_], S_)) rfl ?_
      refine sm_T_iald (n := 4) rfl rfl (by omega) (by omega) ?_
      have bx1_ : 0 ≤ S_.2.2.1 228 0 c_.toNat ∧ S_.2.2.1 228 0 c_.toNat ≤ 150 := hI_.2 228 0 _
      refine sm_T_br (a := 3) (z := 88) rfl (fun cx2_ => ?_) (fun cx2_ => ?_)
      · have cx2_ : (S_.2.2.1 228 0 c_.toNat) ≤ g_ := of_decide_eq_true cx2_
        refine sm_T_rv rfl ⟨_, _, rfl, rfl, hI_, hF_, ?_⟩
        exact hv_
      · have cx2_ : ¬ ((S_.2.2.1 228 0 c_.toNat) ≤ g_) := of_decide_eq_false cx2_
        refine sm_T_go 3 (c1 := (140, [some (.inr (.inr (some (13, 0)))), some (.inl c_), some (.inl g_), none, none, none], [.inl c_, .inr (.inr (some (224, 0)))], S_)) rfl ?_
        refine sm_T_iald (n := 4) rfl rfl (by omega) (by omega) ?_
        have bx3_ : 0 ≤ S_.2.2.1 224 0 c_.toNat ∧ S_.2.2.1 224 0 c_.toNat ≤ 6 := hI_.2 224 0 _
        refine sm_T_go 1 (c1 := (142, [some (.inr (.inr (some (13, 0)))), some (.inl c_), some (.inl g_), none, none, none], [.inl g_, .inl (S_.2.2.1 224 0 c_.toNat)], S_)) rfl ?_
        refine sm_T_bin (w := (S_.2.2.1 224 0 c_.toNat) + g_) rfl (bi_add (by omega) (by omega) (by omega)) ?_ -- pc_ 142
        refine sm_T_go 6 (c1 := (151, [some (.inr (.inr (some (13, 0)))), some (.inl c_), some (.inl g_), some (.inl ((S_.2.2.1 224 0 c_.toNat) + g_)), none, none], [.inl g_, .inl c_, .inr (.inr (some (13, 0))), .inr (.inr (some (234, 0)))], S_)) rfl ?_
        refine sm_T_cal (d1 := 0) (Q1 := vq_421 c_ g_ S_) rfl rfl (by decide) (vc_421 c_ g_ S_ hI_ (by omega) (by omega)) (fun u_ Sx4_ px7_ => ?_)
        obtain ⟨rfl, vx9_, rfl, px7_⟩ := px7_
        have e151_ := px7_
        refine sm_T_iald (n := 48) rfl rfl (by omega) (by omega) ?_
        have bx10_ : 0 ≤ S_.2.2.1 234 0 vx9_.toNat ∧ S_.2.2.1 234 0 vx9_.toNat ≤ 3 := hI_.2 234 0 _
        refine sm_T_go 3 (c1 := (160, [some (.inr (.inr (some (13, 0)))), some (.inl c_), some (.inl g_), some (.inl ((S_.2.2.1 224 0 c_.toNat) + g_)), some (.inl (S_.2.2.1 234 0 vx9_.toNat)), some (.inl 0)], [], S_)) rfl ?_
        refine ih_.2.2.2.2 g_ ((S_.2.2.1 224 0 c_.toNat) + g_) (S_.2.2.1 234 0 vx9_.toNat) 0 S_ hI_ hF_ ⟨?_, ?_, ?_, trivial⟩ ?_
        · (rw [f224_]; omega)
        · (rw [e151_.2])
        · exact hv_
        · omega
    · rintro g_ e_ n9_ k_ S_ hI_ hF_ ⟨h0_, h2_, hv_, -⟩ hm_
      have f223_ : S_.2.2.1 223 0 = S0_.2.2.1 223 0 := fr_arr hF_ rfl
      have f224_ : S_.2.2.1 224 0 = S0_.2.2.1 224 0 := fr_arr hF_ rfl
      have f225_ : S_.2.2.1 225 0 = S0_.2.2.1 225 0 := fr_arr hF_ rfl
      have f228_ : S_.2.2.1 228 0 = S0_.2.2.1 228 0 := fr_arr hF_ rfl
      have f229_ : S_.2.2.1 229 0 = S0_.2.2.1 229 0 := fr_arr hF_ rfl
      have f230_ : S_.2.2.1 230 0 = S0_.2.2.1 230 0 := fr_arr hF_ rfl
      have f231_ : S_.2.2.1 231 0 = S0_.2.2.1 231 0 := fr_arr hF_ rfl
      have f232_ : S_.2.2.1 232 0 = S0_.2.2.1 232 0 := fr_arr hF_ rfl
      have f234_ : S_.2.2.1 234 0 = S0_.2.2.1 234 0 := fr_arr hF_ rfl
      have f239_ : S_.2.2.1 239 0 = S0_.2.2.1 239 0 := fr_arr hF_ rfl
      have f241_ : S_.2.2.1 241 0 = S0_.2.2.1 241 0 := fr_arr hF_ rfl
      have f242_ : S_.2.2.1 242 0 = S0_.2.2.1 242 0 := fr_arr hF_ rfl
      have P9_ : 0 ≤ S_.1 13 0 159 ∧ S_.1 13 0 159 ≤ 700 := hI_.1 13 0 159 rfl
      have cA_ : 0 ≤ S_.2.2.1 223 0 c_.toNat ∧ S_.2.2.1 223 0 c_.toNat ≤ 12 := hI_.2 223 0 _
      have cB_ : 0 ≤ S_.2.2.1 224 0 c_.toNat ∧ S_.2.2.1 224 0 c_.toNat ≤ 6 := hI_.2 224 0 _
      have cG_ : 0 ≤ S_.2.2.1 228 0 c_.toNat ∧ S_.2.2.1 228 0 c_.toNat ≤ 150 := hI_.2 228 0 _
      have cO_ : 0 ≤ S_.2.2.1 225 0 c_.toNat ∧ S_.2.2.1 225 0 c_.toNat ≤ 16 := hI_.2 225 0 _
      have cS_ : 0 ≤ S_.2.2.1 239 0 c_.toNat ∧ S_.2.2.1 239 0 c_.toNat ≤ 60 := hI_.2 239 0 _
      have x223_ : S_.2.2.1 223 0 c_.toNat = S0_.2.2.1 223 0 c_.toNat := congrFun f223_ _
      have x224_ : S_.2.2.1 224 0 c_.toNat = S0_.2.2.1 224 0 c_.toNat := congrFun f224_ _
      have x225_ : S_.2.2.1 225 0 c_.toNat = S0_.2.2.1 225 0 c_.toNat := congrFun f225_ _
      have x228_ : S_.2.2.1 228 0 c_.toNat = S0_.2.2.1 228 0 c_.toNat := congrFun f228_ _
      have x239_ : S_.2.2.1 239 0 c_.toNat = S0_.2.2.1 239 0 c_.toNat := congrFun f239_ _
      have hp1_ := hP_.1
      have hp2_ := hP_.2.1
      have hp3_ := hP_.2.2.1
      have hP9_ := ple_fr hP_ hF_
      have hg9_ := cgt_fr hc_.1 hI_ hg_ hF_
      have ho9_ := con_fr hc_.1 hI_ ho_ hF_
      have z9_ : csz c_ S_ e_ = 1 + n9_ := by (unfold csz; rw [f224_, if_neg (by omega), show e_ - S0_.2.2.1 224 0 c_.toNat = g_ by omega, ← h2_])
      have q9_ := hP9_.2.2.2 e_ (by omega) (by omega)
      rw [z9_] at q9_
      refine sm_T_go 2 (c1 := (164, [some (.inr (.inr (some (13, 0)))), some (.inl c_), some (.inl g_), some (.inl e_), some (.inl n9_), some (.inl k_)], [.inl n9_, .inl k_], S_)) rfl ?_
      refine sm_T_br (a := 3) (z := 34) rfl (fun cx1_ => ?_) (fun cx1_ => ?_)
      · have cx1_ : n9_ ≤ k_ := of_decide_eq_true cx1_
        refine sm_T_go 7 (c1 := (208, [some (.inr (.inr (some (13, 0)))), some (.inl c_), some (.inl g_), some (.inl e_), some (.inl n9_), some (.inl k_)], [.inl c_, .inr (.inr (some (223, 0))), .inl n9_, .inl e_, .inl c_, .inr (.inr (some (13, 0)))], S_)) rfl ?_
        refine sm_T_iald (n := 4) rfl rfl (by omega) (by omega) ?_
        have bx2_ : 0 ≤ S_.2.2.1 223 0 c_.toNat ∧ S_.2.2.1 223 0 c_.toNat ≤ 12 := hI_.2 223 0 _
        refine sm_T_go 1 (c1 := (210, [some (.inr (.inr (some (13, 0)))), some (.inl c_), some (.inl g_), some (.inl e_), some (.inl n9_), some (.inl k_)], [.inl e_, .inl (S_.2.2.1 223 0 c_.toNat), .inl n9_, .inl e_, .inl c_, .inr (.inr (some (13, 0)))], S_)) rfl ?_
        refine sm_T_bin (w := (S_.2.2.1 223 0 c_.toNat) + e_) rfl (bi_add (by omega) (by omega) (by omega)) ?_ -- pc_ 210
        refine sm_T_cal (d1 := 1) (Q1 := vq_438 c_ e_ n9_ ((S_.2.2.1 223 0 c_.toNat) + e_) S_) rfl rfl (by decide) (vc_438 c_ e_ n9_ ((S_.2.2.1 223 0 c_.toNat) + e_) S_ hI_ (by omega) (by omega) (by omega) (by omega) (by (rw [f223_]; omega))) (fun u_ Sx3_ px6_ => ?_)
        obtain ⟨rfl, hIx4_, hFx5_, px6_⟩ := px6_
        have hFx7_ : ai_fr (sx_W vw_439) S0_ Sx3_ := ai_fr_tr hF_ (fr_le hFx5_ rfl)
        have a211_ := px6_
        have v211_ := apn_c a211_
        rw [f223_] at a211_
        have w211_ := pnv_ad hv_ a211_ P9_.1 (by omega) (by omega) (by omega)
        refine sm_T_inc (a := 2) (z := 1) (v := g_) (w := g_ + 1) rfl rfl (by omega) (by omega) (by omega) ?_ -- pc_ 214
        refine sm_T_go 1 (c1 := (125, [some (.inr (.inr (some (13, 0)))), some (.inl c_), some (.inl (g_ + 1)), some (.inl e_), some (.inl n9_), some (.inl k_)], [], Sx3_)) rfl ?_
        refine sm_T_wk [some (.inr (.inr (some (13, 0)))), some (.inl c_), some (.inl (g_ + 1)), none, none, none] (by exact ⟨rfl, rfl, rfl, trivial⟩) ?_
        refine ih_.2.2.2.1 (g_ + 1) Sx3_ hIx4_ hFx7_ ⟨?_, ?_, trivial⟩ ?_
        · omega
        · exact w211_
        · omega
      · have cx1_ : ¬ (n9_ ≤ k_) := of_decide_eq_false cx1_
        have G9_ := hg9_ g_ (by omega) (by omega) k_ (by omega) (by omega) (Or.inr (by omega))
        rw [f223_, f224_] at G9_
        refine sm_T_go 9 (c1 := (181, [some (.inr (.inr (some (13, 0)))), some (.inl c_), some (.inl g_), some (.inl e_), some (.inl n9_), some (.inl k_)], [.inl c_, .inl 150, .inl 3, .inr (.inr (some (230, 0))), .inl k_, .inl e_, .inl c_, .inr (.inr (some (13, 0)))], S_)) rfl ?_
        refine sm_T_bin (w := 150 * c_) rfl (bi_mul (by omega) (by omega) (by omega)) ?_ -- pc_ 181
        refine sm_T_go 1 (c1 := (183, [some (.inr (.inr (some (13, 0)))), some (.inl c_), some (.inl g_), some (.inl e_), some (.inl n9_), some (.inl k_)], [.inl g_, .inl (150 * c_), .inl 3, .inr (.inr (some (230, 0))), .inl k_, .inl e_, .inl c_, .inr (.inr (some (13, 0)))], S_)) rfl ?_
        refine sm_T_bin (w := 150 * c_ + g_) rfl (bi_add (by omega) (by omega) (by omega)) ?_ -- pc_ 183
        refine sm_T_bin (w := 450 * c_ + 3 * g_) rfl (bi_mul (by omega) (by omega) (by omega)) ?_ -- pc_ 184
        refine sm_T_go 1 (c1 := (187, [some (.inr (.inr (some (13, 0)))), some (.inl c_), some (.inl g_), some (.inl e_), some (.inl n9_), some (.inl k_)], [.inl k_, .inl (450 * c_ + 3 * g_), .inr (.inr (some (230, 0))), .inl k_, .inl e_, .inl c_, .inr (.inr (some (13, 0)))], S_)) rfl ?_
        refine sm_T_bin (w := 450 * c_ + 3 * g_ + k_) rfl (bi_add (by omega) (by omega) (by omega)) ?_ -- pc_ 187
        refine sm_T_iald (n := 1800) rfl rfl (by omega) (by omega) ?_
        have bx8_ : (-1) ≤ S_.2.2.1 230 0 (450 * c_ + 3 * g_ + k_).toNat ∧ S_.2.2.1 230 0 (450 * c_ + 3 * g_ + k_).toNat ≤ 161 := hI_.2 230 0 _
        refine sm_T_cal (d1 := 1) (Q1 := vq_438 c_ e_ k_ (S_.2.2.1 230 0 (450 * c_ + 3 * g_ + k_).toNat) S_) rfl rfl (by decide) (vc_438 c_ e_ k_ (S_.2.2.1 230 0 (450 * c_ + 3 * g_ + k_).toNat) S_ hI_ (by omega) (by omega) (by omega) (by omega) (by omega)) (fun u_ Sx9_ px12_ => ?_)
        obtain ⟨rfl, hIx10_, hFx11_, px12_⟩ := px12_
        have hFx13_ : ai_fr (sx_W vw_439) S0_ Sx9_ := ai_fr_tr hF_ (fr_le hFx11_ rfl)
        have a189_ := px12_
        have v189_ := apn_c a189_
        have m189_ : Sx9_.2.2.1 234 0 = S_.2.2.1 234 0 := fr_arr hFx11_ rfl
        have n189_ : Sx9_.2.2.1 229 0 = S_.2.2.1 229 0 := fr_arr hFx11_ rfl
        have w189_ := pnv_ad hv_ a189_ P9_.1 (by omega) (by omega) (by omega)
        refine sm_T_inc (a := 5) (z := 1) (v := k_) (w := k_ + 1) rfl rfl (by omega) (by omega) (by omega) ?_ -- pc_ 192
        refine sm_T_go 1 (c1 := (160, [some (.inr (.inr (some (13, 0)))), some (.inl c_), some (.inl g_), some (.inl e_), some (.inl n9_), some (.inl (k_ + 1))], [], Sx9_)) rfl ?_
        refine ih_.2.2.2.2 g_ e_ n9_ (k_ + 1) Sx9_ hIx10_ hFx13_ ⟨?_, ?_, ?_, trivial⟩ ?_
        · omega
        · (rw [m189_, n189_]; exact h2_)
        · exact w189_
        · omega
set_option maxHeartbeats 2000000 in
set_option maxRecDepth 20000 in
theorem vc_439 {sc_ : Nat × (Nat → Int)} (c_ : Int) (X_ : Int) (Y_ : Int) (S0_ : sm_S) (hI_ : gi S0_) (hc_ : 0 ≤ c_ ∧ c_ ≤ 3) (hx_ : S0_.2.2.1 223 0 c_.toNat + S0_.2.2.1 224 0 c_.toNat ≤ 12) (hg_ : cgt c_ S0_) (ho_ : con c_ S0_) (hP_ : ple c_ X_ Y_ S0_) : sm_T (mt_P sc_) 2 439 (0, [some (.inr (.inr (some (13, 0)))), some (.inl c_), none, none, none, none], [], S0_) (fun ro9_ => ∃ u_ S1_, ro9_ = (.inl u_, S1_, 0) ∧ vq_439 c_ X_ Y_ S0_ u_ S1_) := by
  have hF_ : ai_fr (sx_W vw_439) S0_ S0_ := ai_fr_rf
  have hIx1_ : gi (sm_pI S0_ 13 0 159 0) := gi_pI hI_ (show 0 ≤ 0 ∧ 0 ≤ 700 from ⟨by omega, by omega⟩)
  have hFx2_ : ai_fr (sx_W vw_439) S0_ (sm_pI S0_ 13 0 159 0) := ai_fr_tr hF_ (ai_fr_pI rfl)
  refine sm_T_go 5 (c1 := (7, [some (.inr (.inr (some (13, 0)))), some (.inl c_), some (.inl 0), none, none, none], [], sm_pI S0_ 13 0 159 0)) rfl ?_
  refine (vl_439 c_ X_ Y_ S0_ hc_ hx_ hg_ ho_ hP_ _).1 0 (sm_pI S0_ 13 0 159 0) hIx1_ hFx2_ ⟨?_, ?_, trivial⟩ (Nat.lt_succ_self _)
  · (rw [rf_eq]; omega)
  · (intro k9_ k0_ k1_; rw [rf_eq] at k1_; exfalso; omega)
/-! M_.boxPins -/
def vw_440 : sx_Wl := ([(13, 159)], [243, 244, 245, 246, 247, 248, 249, 250], [])
def vq_440 (c_ : Int) (X_ : Int) (Y_ : Int) (S0_ : sm_S) (u_ : Option sm_V) (S1_ : sm_S) : Prop := u_ = none ∧ gi S1_ ∧ ai_fr (sx_W vw_440) S0_ S1_ ∧ (pnv (S0_.2.2.1 223 0 c_.toNat + S0_.2.2.1 224 0 c_.toNat + S0_.2.2.1 228 0 c_.toNat) X_ Y_ S1_ ∧ ∀ n9_ : Int, 0 ≤ n9_ → n9_ < (S0_.2.2.1 223 0 c_.toNat + S0_.2.2.1 224 0 c_.toNat + S0_.2.2.1 228 0 c_.toNat) → pcx S1_ (S1_.1 13 0 159) n9_)
set_option maxHeartbeats 2000000 in
set_option maxRecDepth 20000 in
theorem vl_440 {sc_ : Nat × (Nat → Int)} (c_ : Int) (X_ : Int) (Y_ : Int) (S0_ : sm_S) (hc_ : 0 ≤ c_ ∧ c_ ≤ 3) (hx_ : S0_.2.2.1 223 0 c_.toNat + S0_.2.2.1 224 0 c_.toNat ≤ 12) (hg_ : cgt c_ S0_) (ho_ : con c_ S0_) (hP_ : ple c_ X_ Y_ S0_) : ∀ nn_ : Nat, (∀ (n_ : Int) (S_ : sm_S), gi S_ → ai_fr (sx_W vw_440) S0_ S_ → ((0 ≤ n_ ∧ n_ ≤ (S0_.2.2.1 223 0 c_.toNat + S0_.2.2.1 224 0 c_.toNat + S0_.2.2.1 228 0 c_.toNat)) ∧ (pnv (S0_.2.2.1 223 0 c_.toNat + S0_.2.2.1 224 0 c_.toNat + S0_.2.2.1 228 0 c_.toNat) X_ Y_ S_) ∧ (∀ n9_ : Int, 0 ≤ n9_ → n9_ < n_ → S_.2.2.1 246 0 n9_.toNat = 0) ∧ True) → ((90000 - n_).toNat) < nn_ → sm_T (mt_P sc_) 3 440 (7, [some (.inr (.inr (some (13, 0)))), some (.inl c_), some (.inl n_), none, none], [], S_) (fun ro9_ => ∃ u_ S1_, ro9_ = (.inl u_, S1_, 0) ∧ vq_440 c_ X_ Y_ S0_ u_ S1_)) ∧ (∀ (p_ : Int) (S_ : sm_S), gi S_ → ai_fr (sx_W vw_440) S0_ S_ → ((0 ≤ p_ ∧ p_ ≤ S_.1 13 0 159) ∧ (pnv (S0_.2.2.1 223 0 c_.toNat + S0_.2.2.1 224 0 c_.toNat + S0_.2.2.1 228 0 c_.toNat) X_ Y_ S_) ∧ (∀ n9_ : Int, 0 ≤ n9_ → n9_ < (S0_.2.2.1 223 0 c_.toNat + S0_.2.2.1 224 0 c_.toNat + S0_.2.2.1 228 0 c_.toNat) → S_.2.2.1 246 0 n9_.toNat ≤ p_) ∧ (∀ n9_ : Int, 0 ≤ n9_ → n9_ < (S0_.2.2.1 223 0 c_.toNat + S0_.2.2.1 224 0 c_.toNat + S0_.2.2.1 228 0 c_.toNat) → pcx S_ (p_) n9_) ∧ True) → ((5000 - p_).toNat) < nn_ → sm_T (mt_P sc_) 3 440 (31, [some (.inr (.inr (some (13, 0)))), some (.inl c_), some (.inl p_), none, none], [], S_) (fun ro9_ => ∃ u_ S1_, ro9_ = (.inl u_, S1_, 0) ∧ vq_440 c_ X_ Y_ S0_ u_ S1_)) := by
  intro nn_
  induction nn_ with
  | zero => exact ⟨fun _ _ _ _ _ h_ => absurd h_ (Nat.not_lt_zero _), fun _ _ _ _ _ h_ => absurd h_ (Nat.not_lt_zero _)⟩
  | succ nn_ ih_ =>
    refine ⟨?_, ?_⟩
    · rintro n_ S_ hI_ hF_ ⟨h0_, hv_, hz_, -⟩ hm_
      have f223_ : S_.2.2.1 223 0 = S0_.2.2.1 223 0 := fr_arr hF_ rfl
      have f224_ : S_.2.2.1 224 0 = S0_.2.2.1 224 0 := fr_arr hF_ rfl
      have f228_ : S_.2.2.1 228 0 = S0_.2.2.1 228 0 := fr_arr hF_ rfl
      have P9_ : 0 ≤ S_.1 13 0 159 ∧ S_.1 13 0 159 ≤ 700 := hI_.1 13 0 159 rfl
      have cA_ : 0 ≤ S_.2.2.1 223 0 c_.toNat ∧ S_.2.2.1 223 0 c_.toNat ≤ 12 := hI_.2 223 0 _
      have cB_ : 0 ≤ S_.2.2.1 224 0 c_.toNat ∧ S_.2.2.1 224 0 c_.toNat ≤ 6 := hI_.2 224 0 _
      have cG_ : 0 ≤ S_.2.2.1 228 0 c_.toNat ∧ S_.2.2.1 228 0 c_.toNat ≤ 150 := hI_.2 228 0 _
      have x223_ : S_.2.2.1 223 0 c_.toNat = S0_.2.2.1 223 0 c_.toNat := congrFun f223_ _
      have x224_ : S_.2.2.1 224 0 c_.toNat = S0_.2.2.1 224 0 c_.toNat := congrFun f224_ _
      have x228_ : S_.2.2.1 228 0 c_.toNat = S0_.2.2.1 228 0 c_.toNat := congrFun f228_ _
      refine sm_T_go 3 (c1 := (10, [some (.inr (.inr (some (13, 0)))), some (.inl c_), some (.inl n_), none, none], [.inl c_, .inr (.inr (some (13, 0))), .inl n_], S_)) rfl ?_
      refine sm_T_cal (d1 := 0) (Q1 := vq_422 c_ S_) rfl rfl (by decide) (vc_422 c_ S_ hI_ (by omega)) (fun u_ Sx1_ px4_ => ?_)
      obtain ⟨rfl, vx6_, rfl, px4_⟩ := px4_
      refine sm_T_br (a := 3) (z := 16) rfl (fun cx7_ => ?_) (fun cx7_ => ?_)
      · have cx7_ : vx6_ ≤ n_ := of_decide_eq_true cx7_
        refine sm_T_go 2 (c1 := (31, [some (.inr (.inr (some (13, 0)))), some (.inl c_), some (.inl 0), none, none], [], S_)) rfl ?_
        refine ih_.2 0 S_ hI_ hF_ ⟨?_, ?_, ?_, ?_, trivial⟩ ?_
        · omega
        · exact hv_
        · (intro n9_ h9_ h8_; rw [hz_ n9_ h9_ (by omega)]; decide)
        · (intro n9_ h9_ h8_ y9_; rw [hz_ n9_ h9_ (by omega)] at y9_; exact absurd y9_ (by decide))
        · omega
      · have cx7_ : ¬ (vx6_ ≤ n_) := of_decide_eq_false cx7_
        refine sm_T_go 4 (c1 := (22, [some (.inr (.inr (some (13, 0)))), some (.inl c_), some (.inl n_), none, none], [.inl 0, .inl n_, .inr (.inr (some (246, 0)))], S_)) rfl ?_
        refine sm_T_iast (n := 256) rfl rfl (by omega) (by omega) ?_
        have hIx8_ : gi (sm_aI S_ 246 0 n_.toNat 0) := gi_aI hI_ (show 0 ≤ 0 ∧ 0 ≤ 700 from ⟨by omega, by omega⟩)
        have hFx9_ : ai_fr (sx_W vw_440) S0_ (sm_aI S_ 246 0 n_.toNat 0) := ai_fr_tr hF_ (ai_fr_aI rfl)
        refine sm_T_inc (a := 2) (z := 1) (v := n_) (w := n_ + 1) rfl rfl (by omega) (by omega) (by omega) ?_ -- pc_ 23
        refine sm_T_go 1 (c1 := (7, [some (.inr (.inr (some (13, 0)))), some (.inl c_), some (.inl (n_ + 1)), none, none], [], sm_aI S_ 246 0 n_.toNat 0)) rfl ?_
        refine ih_.1 (n_ + 1) (sm_aI S_ 246 0 n_.toNat 0) hIx8_ hFx9_ ⟨?_, ?_, ?_, trivial⟩ ?_
        · omega
        · (intro k9_ k0_ k1_; (try simp only [rd_eq, rd_ne, rf_eq, rf_nk, rf_nt, rd_fa, rd_af, rd_fl, rd_al, rd_lf, rd_la, rd_leq, rd_lne, rd_fr, rd_ar, ne_eq, Nat.reduceEqDiff, not_false_eq_true]); exact hv_ k9_ k0_ (by (try simp only [rd_eq, rd_ne, rf_eq, rf_nk, rf_nt, rd_fa, rd_af, rd_fl, rd_al, rd_lf, rd_la, rd_leq, rd_lne, rd_fr, rd_ar, ne_eq, Nat.reduceEqDiff, not_false_eq_true] at *); exact k1_))
        · intro n9_ h9_ h8_
          rw [rd_eq]
          split
          · rfl
          · exact hz_ n9_ h9_ (by omega)
        · omega
    · rintro p_ S_ hI_ hF_ ⟨h0_, hv_, hz_, hx_, -⟩ hm_
      have f223_ : S_.2.2.1 223 0 = S0_.2.2.1 223 0 := fr_arr hF_ rfl
      have f224_ : S_.2.2.1 224 0 = S0_.2.2.1 224 0 := fr_arr hF_ rfl
      have f228_ : S_.2.2.1 228 0 = S0_.2.2.1 228 0 := fr_arr hF_ rfl
      have P9_ : 0 ≤ S_.1 13 0 159 ∧ S_.1 13 0 159 ≤ 700 := hI_.1 13 0 159 rfl
      have cA_ : 0 ≤ S_.2.2.1 223 0 c_.toNat ∧ S_.2.2.1 223 0 c_.toNat ≤ 12 := hI_.2 223 0 _
      have cB_ : 0 ≤ S_.2.2.1 224 0 c_.toNat ∧ S_.2.2.1 224 0 c_.toNat ≤ 6 := hI_.2 224 0 _
      have cG_ : 0 ≤ S_.2.2.1 228 0 c_.toNat ∧ S_.2.2.1 228 0 c_.toNat ≤ 150 := hI_.2 228 0 _
      have x223_ : S_.2.2.1 223 0 c_.toNat = S0_.2.2.1 223 0 c_.toNat := congrFun f223_ _
      have x224_ : S_.2.2.1 224 0 c_.toNat = S0_.2.2.1 224 0 c_.toNat := congrFun f224_ _
      have x228_ : S_.2.2.1 228 0 c_.toNat = S0_.2.2.1 228 0 c_.toNat := congrFun f228_ _
      have bx1_ : 0 ≤ S_.1 13 0 159 ∧ S_.1 13 0 159 ≤ 700 := hI_.1 13 0 159 rfl
      refine sm_T_go 3 (c1 := (36, [some (.inr (.inr (some (13, 0)))), some (.inl c_), some (.inl p_), none, none], [.inl (S_.1 13 0 159), .inl p_], S_)) rfl ?_
      refine sm_T_br (a := 3) (z := 206) rfl (fun cx2_ => ?_) (fun cx2_ => ?_)
      · have cx2_ : (S_.1 13 0 159) ≤ p_ := of_decide_eq_true cx2_
        refine sm_T_rv rfl ⟨_, _, rfl, rfl, hI_, hF_, ?_⟩
        exact ⟨hv_, fun n9_ h9_ h8_ => (show S_.1 13 0 159 = p_ by omega) ▸ hx_ n9_ h9_ h8_⟩
      · have cx2_ : ¬ ((S_.1 13 0 159) ≤ p_) := of_decide_eq_false cx2_
        have v9_ := hv_ p_ (by omega) (by omega)
        have cP_ : 0 ≤ S_.2.2.1 243 0 p_.toNat ∧ S_.2.2.1 243 0 p_.toNat ≤ 161 := hI_.2 243 0 _
        have z9_ := hz_ (S_.2.2.1 243 0 p_.toNat) (by omega) (by omega)
        refine sm_T_go 3 (c1 := (44, [some (.inr (.inr (some (13, 0)))), some (.inl c_), some (.inl p_), none, none], [.inl p_, .inr (.inr (some (243, 0)))], S_)) rfl ?_
        refine sm_T_iald (n := 700) rfl rfl (by omega) (by omega) ?_
        have bx3_ : 0 ≤ S_.2.2.1 243 0 p_.toNat ∧ S_.2.2.1 243 0 p_.toNat ≤ 161 := hI_.2 243 0 _
        refine sm_T_go 4 (c1 := (51, [some (.inr (.inr (some (13, 0)))), some (.inl c_), some (.inl p_), some (.inl (S_.2.2.1 243 0 p_.toNat)), none], [.inl (S_.2.2.1 243 0 p_.toNat), .inr (.inr (some (246, 0)))], S_)) rfl ?_
        refine sm_T_iald (n := 256) rfl rfl (by omega) (by omega) ?_
        have bx4_ : 0 ≤ S_.2.2.1 246 0 (S_.2.2.1 243 0 p_.toNat).toNat ∧ S_.2.2.1 246 0 (S_.2.2.1 243 0 p_.toNat).toNat ≤ 700 := hI_.2 246 0 _
        refine sm_T_b0 (a := 1) (z := 7) rfl (fun cx5_ => ?_) (fun cx5_ => ?_)
        · have cx5_ : (S_.2.2.1 246 0 (S_.2.2.1 243 0 p_.toNat).toNat) ≠ 0 := of_decide_eq_true cx5_
          refine sm_T_go 10 (c1 := (77, [some (.inr (.inr (some (13, 0)))), some (.inl c_), some (.inl p_), some (.inl (S_.2.2.1 243 0 p_.toNat)), some (.inl 0)], [.inl p_, .inr (.inr (some (244, 0))), .inl (S_.2.2.1 243 0 p_.toNat), .inr (.inr (some (247, 0)))], S_)) rfl ?_
          refine sm_T_iald (n := 700) rfl rfl (by omega) (by omega) ?_
          have bx6_ : 0 ≤ S_.2.2.1 244 0 p_.toNat ∧ S_.2.2.1 244 0 p_.toNat ≤ 200 := hI_.2 244 0 _
          refine sm_T_go 3 (c1 := (83, [some (.inr (.inr (some (13, 0)))), some (.inl c_), some (.inl p_), some (.inl (S_.2.2.1 243 0 p_.toNat)), some (.inl 0)], [.inl (S_.2.2.1 243 0 p_.toNat), .inr (.inr (some (247, 0))), .inl (S_.2.2.1 244 0 p_.toNat), .inl (S_.2.2.1 243 0 p_.toNat), .inr (.inr (some (247, 0)))], S_)) rfl ?_
          refine sm_T_iald (n := 256) rfl rfl (by omega) (by omega) ?_
          have bx7_ : 0 ≤ S_.2.2.1 247 0 (S_.2.2.1 243 0 p_.toNat).toNat ∧ S_.2.2.1 247 0 (S_.2.2.1 243 0 p_.toNat).toNat ≤ 200 := hI_.2 247 0 _
          refine sm_T_br (a := 3) (z := 12) rfl (fun cx8_ => ?_) (fun cx8_ => ?_)
          · have cx8_ : (S_.2.2.1 247 0 (S_.2.2.1 243 0 p_.toNat).toNat) ≤ (S_.2.2.1 244 0 p_.toNat) := of_decide_eq_true cx8_
            refine sm_T_go 3 (c1 := (101, [some (.inr (.inr (some (13, 0)))), some (.inl c_), some (.inl p_), some (.inl (S_.2.2.1 243 0 p_.toNat)), some (.inl 0)], [.inl (S_.2.2.1 243 0 p_.toNat), .inr (.inr (some (247, 0))), .inl (S_.2.2.1 243 0 p_.toNat), .inr (.inr (some (247, 0)))], S_)) rfl ?_
            refine sm_T_iald (n := 256) rfl rfl (by omega) (by omega) ?_
            refine sm_T_iast (n := 256) rfl rfl (by omega) (by omega) ?_
            have hIx9_ : gi (sm_aI S_ 247 0 (S_.2.2.1 243 0 p_.toNat).toNat (S_.2.2.1 247 0 (S_.2.2.1 243 0 p_.toNat).toNat)) := gi_aI hI_ (show 0 ≤ (S_.2.2.1 247 0 (S_.2.2.1 243 0 p_.toNat).toNat) ∧ (S_.2.2.1 247 0 (S_.2.2.1 243 0 p_.toNat).toNat) ≤ 200 from ⟨by omega, by omega⟩)
            have hFx10_ : ai_fr (sx_W vw_440) S0_ (sm_aI S_ 247 0 (S_.2.2.1 243 0 p_.toNat).toNat (S_.2.2.1 247 0 (S_.2.2.1 243 0 p_.toNat).toNat)) := ai_fr_tr hF_ (ai_fr_aI rfl)
            refine sm_T_go 8 (c1 := (118, [some (.inr (.inr (some (13, 0)))), some (.inl c_), some (.inl p_), some (.inl (S_.2.2.1 243 0 p_.toNat)), some (.inl 0)], [.inl p_, .inr (.inr (some (244, 0))), .inl (S_.2.2.1 243 0 p_.toNat), .inr (.inr (some (248, 0)))], sm_aI S_ 247 0 (S_.2.2.1 243 0 p_.toNat).toNat (S_.2.2.1 247 0 (S_.2.2.1 243 0 p_.toNat).toNat))) rfl ?_
            refine sm_T_iald (n := 700) rfl rfl (by omega) (by omega) ?_
            refine sm_T_go 3 (c1 := (124, [some (.inr (.inr (some (13, 0)))), some (.inl c_), some (.inl p_), some (.inl (S_.2.2.1 243 0 p_.toNat)), some (.inl 0)], [.inl (S_.2.2.1 243 0 p_.toNat), .inr (.inr (some (248, 0))), .inl (S_.2.2.1 244 0 p_.toNat), .inl (S_.2.2.1 243 0 p_.toNat), .inr (.inr (some (248, 0)))], sm_aI S_ 247 0 (S_.2.2.1 243 0 p_.toNat).toNat (S_.2.2.1 247 0 (S_.2.2.1 243 0 p_.toNat).toNat))) rfl ?_
            refine sm_T_iald (n := 256) rfl rfl (by omega) (by omega) ?_
            have bx11_ : 0 ≤ S_.2.2.1 248 0 (S_.2.2.1 243 0 p_.toNat).toNat ∧ S_.2.2.1 248 0 (S_.2.2.1 243 0 p_.toNat).toNat ≤ 200 := hI_.2 248 0 _
            refine sm_T_go 0 (c1 := (125, [some (.inr (.inr (some (13, 0)))), some (.inl c_), some (.inl p_), some (.inl (S_.2.2.1 243 0 p_.toNat)), some (.inl 0)], [.inl (S_.2.2.1 248 0 (S_.2.2.1 243 0 p_.toNat).toNat), .inl (S_.2.2.1 244 0 p_.toNat), .inl (S_.2.2.1 243 0 p_.toNat), .inr (.inr (some (248, 0)))], sm_aI S_ 247 0 (S_.2.2.1 243 0 p_.toNat).toNat (S_.2.2.1 247 0 (S_.2.2.1 243 0 p_.toNat).toNat))) rfl ?_
            refine sm_T_br (a := 5) (z := 12) rfl (fun cx12_ => ?_) (fun cx12_ => ?_)
            · have cx12_ : (S_.2.2.1 244 0 p_.toNat) ≤ (S_.2.2.1 248 0 (S_.2.2.1 243 0 p_.toNat).toNat) := of_decide_eq_true cx12_
              refine sm_T_go 3 (c1 := (142, [some (.inr (.inr (some (13, 0)))), some (.inl c_), some (.inl p_), some (.inl (S_.2.2.1 243 0 p_.toNat)), some (.inl 0)], [.inl (S_.2.2.1 243 0 p_.toNat), .inr (.inr (some (248, 0))), .inl (S_.2.2.1 243 0 p_.toNat), .inr (.inr (some (248, 0)))], sm_aI S_ 247 0 (S_.2.2.1 243 0 p_.toNat).toNat (S_.2.2.1 247 0 (S_.2.2.1 243 0 p_.toNat).toNat))) rfl ?_
              refine sm_T_iald (n := 256) rfl rfl (by omega) (by omega) ?_
              refine sm_T_go 0 (c1 := (143, [some (.inr (.inr (some (13, 0)))), some (.inl c_), some (.inl p_), some (.inl (S_.2.2.1 243 0 p_.toNat)), some (.inl 0)], [.inl (S_.2.2.1 248 0 (S_.2.2.1 243 0 p_.toNat).toNat), .inl (S_.2.2.1 243 0 p_.toNat), .inr (.inr (some (248, 0)))], sm_aI S_ 247 0 (S_.2.2.1 243 0 p_.toNat).toNat (S_.2.2.1 247 0 (S_.2.2.1 243 0 p_.toNat).toNat))) rfl ?_
              refine sm_T_iast (n := 256) rfl rfl (by omega) (by omega) ?_
              have hIx13_ : gi (sm_aI (sm_aI S_ 247 0 (S_.2.2.1 243 0 p_.toNat).toNat (S_.2.2.1 247 0 (S_.2.2.1 243 0 p_.toNat).toNat)) 248 0 (S_.2.2.1 243 0 p_.toNat).toNat (S_.2.2.1 248 0 (S_.2.2.1 243 0 p_.toNat).toNat)) := gi_aI hIx9_ (show 0 ≤ (S_.2.2.1 248 0 (S_.2.2.1 243 0 p_.toNat).toNat) ∧ (S_.2.2.1 248 0 (S_.2.2.1 243 0 p_.toNat).toNat) ≤ 200 from ⟨by omega, by omega⟩)
              have hFx14_ : ai_fr (sx_W vw_440) S0_ (sm_aI (sm_aI S_ 247 0 (S_.2.2.1 243 0 p_.toNat).toNat (S_.2.2.1 247 0 (S_.2.2.1 243 0 p_.toNat).toNat)) 248 0 (S_.2.2.1 243 0 p_.toNat).toNat (S_.2.2.1 248 0 (S_.2.2.1 243 0 p_.toNat).toNat)) := ai_fr_tr hFx10_ (ai_fr_aI rfl)
              refine sm_T_go 8 (c1 := (159, [some (.inr (.inr (some (13, 0)))), some (.inl c_), some (.inl p_), some (.inl (S_.2.2.1 243 0 p_.toNat)), some (.inl 0)], [.inl p_, .inr (.inr (some (245, 0))), .inl (S_.2.2.1 243 0 p_.toNat), .inr (.inr (some (249, 0)))], sm_aI (sm_aI S_ 247 0 (S_.2.2.1 243 0 p_.toNat).toNat (S_.2.2.1 247 0 (S_.2.2.1 243 0 p_.toNat).toNat)) 248 0 (S_.2.2.1 243 0 p_.toNat).toNat (S_.2.2.1 248 0 (S_.2.2.1 243 0 p_.toNat).toNat))) rfl ?_
              refine sm_T_iald (n := 700) rfl rfl (by omega) (by omega) ?_
              have bx15_ : 0 ≤ S_.2.2.1 245 0 p_.toNat ∧ S_.2.2.1 245 0 p_.toNat ≤ 40 := hI_.2 245 0 _
              refine sm_T_go 3 (c1 := (165, [some (.inr (.inr (some (13, 0)))), some (.inl c_), some (.inl p_), some (.inl (S_.2.2.1 243 0 p_.toNat)), some (.inl 0)], [.inl (S_.2.2.1 243 0 p_.toNat), .inr (.inr (some (249, 0))), .inl (S_.2.2.1 245 0 p_.toNat), .inl (S_.2.2.1 243 0 p_.toNat), .inr (.inr (some (249, 0)))], sm_aI (sm_aI S_ 247 0 (S_.2.2.1 243 0 p_.toNat).toNat (S_.2.2.1 247 0 (S_.2.2.1 243 0 p_.toNat).toNat)) 248 0 (S_.2.2.1 243 0 p_.toNat).toNat (S_.2.2.1 248 0 (S_.2.2.1 243 0 p_.toNat).toNat))) rfl ?_
              refine sm_T_iald (n := 256) rfl rfl (by omega) (by omega) ?_
              have bx16_ : 0 ≤ S_.2.2.1 249 0 (S_.2.2.1 243 0 p_.toNat).toNat ∧ S_.2.2.1 249 0 (S_.2.2.1 243 0 p_.toNat).toNat ≤ 40 := hI_.2 249 0 _
              refine sm_T_go 0 (c1 := (166, [some (.inr (.inr (some (13, 0)))), some (.inl c_), some (.inl p_), some (.inl (S_.2.2.1 243 0 p_.toNat)), some (.inl 0)], [.inl (S_.2.2.1 249 0 (S_.2.2.1 243 0 p_.toNat).toNat), .inl (S_.2.2.1 245 0 p_.toNat), .inl (S_.2.2.1 243 0 p_.toNat), .inr (.inr (some (249, 0)))], sm_aI (sm_aI S_ 247 0 (S_.2.2.1 243 0 p_.toNat).toNat (S_.2.2.1 247 0 (S_.2.2.1 243 0 p_.toNat).toNat)) 248 0 (S_.2.2.1 243 0 p_.toNat).toNat (S_.2.2.1 248 0 (S_.2.2.1 243 0 p_.toNat).toNat))) rfl ?_
              refine sm_T_br (a := 3) (z := 12) rfl (fun cx17_ => ?_) (fun cx17_ => ?_)
              · have cx17_ : (S_.2.2.1 249 0 (S_.2.2.1 243 0 p_.toNat).toNat) ≤ (S_.2.2.1 245 0 p_.toNat) := of_decide_eq_true cx17_
                refine sm_T_go 3 (c1 := (183, [some (.inr (.inr (some (13, 0)))), some (.inl c_), some (.inl p_), some (.inl (S_.2.2.1 243 0 p_.toNat)), some (.inl 0)], [.inl (S_.2.2.1 243 0 p_.toNat), .inr (.inr (some (249, 0))), .inl (S_.2.2.1 243 0 p_.toNat), .inr (.inr (some (249, 0)))], sm_aI (sm_aI S_ 247 0 (S_.2.2.1 243 0 p_.toNat).toNat (S_.2.2.1 247 0 (S_.2.2.1 243 0 p_.toNat).toNat)) 248 0 (S_.2.2.1 243 0 p_.toNat).toNat (S_.2.2.1 248 0 (S_.2.2.1 243 0 p_.toNat).toNat))) rfl ?_
                refine sm_T_iald (n := 256) rfl rfl (by omega) (by omega) ?_
                refine sm_T_go 0 (c1 := (184, [some (.inr (.inr (some (13, 0)))), some (.inl c_), some (.inl p_), some (.inl (S_.2.2.1 243 0 p_.toNat)), some (.inl 0)], [.inl (S_.2.2.1 249 0 (S_.2.2.1 243 0 p_.toNat).toNat), .inl (S_.2.2.1 243 0 p_.toNat), .inr (.inr (some (249, 0)))], sm_aI (sm_aI S_ 247 0 (S_.2.2.1 243 0 p_.toNat).toNat (S_.2.2.1 247 0 (S_.2.2.1 243 0 p_.toNat).toNat)) 248 0 (S_.2.2.1 243 0 p_.toNat).toNat (S_.2.2.1 248 0 (S_.2.2.1 243 0 p_.toNat).toNat))) rfl ?_
                refine sm_T_iast (n := 256) rfl rfl (by omega) (by omega) ?_
                have hIx18_ : gi (sm_aI (sm_aI (sm_aI S_ 247 0 (S_.2.2.1 243 0 p_.toNat).toNat (S_.2.2.1 247 0 (S_.2.2.1 243 0 p_.toNat).toNat)) 248 0 (S_.2.2.1 243 0 p_.toNat).toNat (S_.2.2.1 248 0 (S_.2.2.1 243 0 p_.toNat).toNat)) 249 0 (S_.2.2.1 243 0 p_.toNat).toNat (S_.2.2.1 249 0 (S_.2.2.1 243 0 p_.toNat).toNat)) := gi_aI hIx13_ (show 0 ≤ (S_.2.2.1 249 0 (S_.2.2.1 243 0 p_.toNat).toNat) ∧ (S_.2.2.1 249 0 (S_.2.2.1 243 0 p_.toNat).toNat) ≤ 40 from ⟨by omega, by omega⟩)
                have hFx19_ : ai_fr (sx_W vw_440) S0_ (sm_aI (sm_aI (sm_aI S_ 247 0 (S_.2.2.1 243 0 p_.toNat).toNat (S_.2.2.1 247 0 (S_.2.2.1 243 0 p_.toNat).toNat)) 248 0 (S_.2.2.1 243 0 p_.toNat).toNat (S_.2.2.1 248 0 (S_.2.2.1 243 0 p_.toNat).toNat)) 249 0 (S_.2.2.1 243 0 p_.toNat).toNat (S_.2.2.1 249 0 (S_.2.2.1 243 0 p_.toNat).toNat)) := ai_fr_tr hFx14_ (ai_fr_aI rfl)
                refine sm_T_go 8 (c1 := (200, [some (.inr (.inr (some (13, 0)))), some (.inl c_), some (.inl p_), some (.inl (S_.2.2.1 243 0 p_.toNat)), some (.inl 0)], [.inl p_, .inr (.inr (some (245, 0))), .inl (S_.2.2.1 243 0 p_.toNat), .inr (.inr (some (250, 0)))], sm_aI (sm_aI (sm_aI S_ 247 0 (S_.2.2.1 243 0 p_.toNat).toNat (S_.2.2.1 247 0 (S_.2.2.1 243 0 p_.toNat).toNat)) 248 0 (S_.2.2.1 243 0 p_.toNat).toNat (S_.2.2.1 248 0 (S_.2.2.1 243 0 p_.toNat).toNat)) 249 0 (S_.2.2.1 243 0 p_.toNat).toNat (S_.2.2.1 249 0 (S_.2.2.1 243 0 p_.toNat).toNat))) rfl ?_
                refine sm_T_iald (n := 700) rfl rfl (by omega) (by omega) ?_
                refine sm_T_go 3 (c1 := (206, [some (.inr (.inr (some (13, 0)))), some (.inl c_), some (.inl p_), some (.inl (S_.2.2.1 243 0 p_.toNat)), some (.inl 0)], [.inl (S_.2.2.1 243 0 p_.toNat), .inr (.inr (some (250, 0))), .inl (S_.2.2.1 245 0 p_.toNat), .inl (S_.2.2.1 243 0 p_.toNat), .inr (.inr (some (250, 0)))], sm_aI (sm_aI (sm_aI S_ 247 0 (S_.2.2.1 243 0 p_.toNat).toNat (S_.2.2.1 247 0 (S_.2.2.1 243 0 p_.toNat).toNat)) 248 0 (S_.2.2.1 243 0 p_.toNat).toNat (S_.2.2.1 248 0 (S_.2.2.1 243 0 p_.toNat).toNat)) 249 0 (S_.2.2.1 243 0 p_.toNat).toNat (S_.2.2.1 249 0 (S_.2.2.1 243 0 p_.toNat).toNat))) rfl ?_
                refine sm_T_iald (n := 256) rfl rfl (by omega) (by omega) ?_
                have bx20_ : 0 ≤ S_.2.2.1 250 0 (S_.2.2.1 243 0 p_.toNat).toNat ∧ S_.2.2.1 250 0 (S_.2.2.1 243 0 p_.toNat).toNat ≤ 40 := hI_.2 250 0 _
                refine sm_T_go 0 (c1 := (207, [some (.inr (.inr (some (13, 0)))), some (.inl c_), some (.inl p_), some (.inl (S_.2.2.1 243 0 p_.toNat)), some (.inl 0)], [.inl (S_.2.2.1 250 0 (S_.2.2.1 243 0 p_.toNat).toNat), .inl (S_.2.2.1 245 0 p_.toNat), .inl (S_.2.2.1 243 0 p_.toNat), .inr (.inr (some (250, 0)))], sm_aI (sm_aI (sm_aI S_ 247 0 (S_.2.2.1 243 0 p_.toNat).toNat (S_.2.2.1 247 0 (S_.2.2.1 243 0 p_.toNat).toNat)) 248 0 (S_.2.2.1 243 0 p_.toNat).toNat (S_.2.2.1 248 0 (S_.2.2.1 243 0 p_.toNat).toNat)) 249 0 (S_.2.2.1 243 0 p_.toNat).toNat (S_.2.2.1 249 0 (S_.2.2.1 243 0 p_.toNat).toNat))) rfl ?_
                refine sm_T_br (a := 5) (z := 12) rfl (fun cx21_ => ?_) (fun cx21_ => ?_)
                · have cx21_ : (S_.2.2.1 245 0 p_.toNat) ≤ (S_.2.2.1 250 0 (S_.2.2.1 243 0 p_.toNat).toNat) := of_decide_eq_true cx21_
                  refine sm_T_go 3 (c1 := (224, [some (.inr (.inr (some (13, 0)))), some (.inl c_), some (.inl p_), some (.inl (S_.2.2.1 243 0 p_.toNat)), some (.inl 0)], [.inl (S_.2.2.1 243 0 p_.toNat), .inr (.inr (some (250, 0))), .inl (S_.2.2.1 243 0 p_.toNat), .inr (.inr (some (250, 0)))], sm_aI (sm_aI (sm_aI S_ 247 0 (S_.2.2.1 243 0 p_.toNat).toNat (S_.2.2.1 247 0 (S_.2.2.1 243 0 p_.toNat).toNat)) 248 0 (S_.2.2.1 243 0 p_.toNat).toNat (S_.2.2.1 248 0 (S_.2.2.1 243 0 p_.toNat).toNat)) 249 0 (S_.2.2.1 243 0 p_.toNat).toNat (S_.2.2.1 249 0 (S_.2.2.1 243 0 p_.toNat).toNat))) rfl ?_
                  refine sm_T_iald (n := 256) rfl rfl (by omega) (by omega) ?_
                  refine sm_T_go 0 (c1 := (225, [some (.inr (.inr (some (13, 0)))), some (.inl c_), some (.inl p_), some (.inl (S_.2.2.1 243 0 p_.toNat)), some (.inl 0)], [.inl (S_.2.2.1 250 0 (S_.2.2.1 243 0 p_.toNat).toNat), .inl (S_.2.2.1 243 0 p_.toNat), .inr (.inr (some (250, 0)))], sm_aI (sm_aI (sm_aI S_ 247 0 (S_.2.2.1 243 0 p_.toNat).toNat (S_.2.2.1 247 0 (S_.2.2.1 243 0 p_.toNat).toNat)) 248 0 (S_.2.2.1 243 0 p_.toNat).toNat (S_.2.2.1 248 0 (S_.2.2.1 243 0 p_.toNat).toNat)) 249 0 (S_.2.2.1 243 0 p_.toNat).toNat (S_.2.2.1 249 0 (S_.2.2.1 243 0 p_.toNat).toNat))) rfl ?_
                  refine sm_T_iast (n := 256) rfl rfl (by omega) (by omega) ?_
                  have hIx22_ : gi (sm_aI (sm_aI (sm_aI (sm_aI S_ 247 0 (S_.2.2.1 243 0 p_.toNat).toNat (S_.2.2.1 247 0 (S_.2.2.1 243 0 p_.toNat).toNat)) 248 0 (S_.2.2.1 243 0 p_.toNat).toNat (S_.2.2.1 248 0 (S_.2.2.1 243 0 p_.toNat).toNat)) 249 0 (S_.2.2.1 243 0 p_.toNat).toNat (S_.2.2.1 249 0 (S_.2.2.1 243 0 p_.toNat).toNat)) 250 0 (S_.2.2.1 243 0 p_.toNat).toNat (S_.2.2.1 250 0 (S_.2.2.1 243 0 p_.toNat).toNat)) := gi_aI hIx18_ (show 0 ≤ (S_.2.2.1 250 0 (S_.2.2.1 243 0 p_.toNat).toNat) ∧ (S_.2.2.1 250 0 (S_.2.2.1 243 0 p_.toNat).toNat) ≤ 40 from ⟨by omega, by omega⟩)
                  have hFx23_ : ai_fr (sx_W vw_440) S0_ (sm_aI (sm_aI (sm_aI (sm_aI S_ 247 0 (S_.2.2.1 243 0 p_.toNat).toNat (S_.2.2.1 247 0 (S_.2.2.1 243 0 p_.toNat).toNat)) 248 0 (S_.2.2.1 243 0 p_.toNat).toNat (S_.2.2.1 248 0 (S_.2.2.1 243 0 p_.toNat).toNat)) 249 0 (S_.2.2.1 243 0 p_.toNat).toNat (S_.2.2.1 249 0 (S_.2.2.1 243 0 p_.toNat).toNat)) 250 0 (S_.2.2.1 243 0 p_.toNat).toNat (S_.2.2.1 250 0 (S_.2.2.1 243 0 p_.toNat).toNat)) := ai_fr_tr hFx19_ (ai_fr_aI rfl)
                  refine sm_T_go 4 (c1 := (232, [some (.inr (.inr (some (13, 0)))), some (.inl c_), some (.inl p_), some (.inl (S_.2.2.1 243 0 p_.toNat)), some (.inl 0)], [.inl (S_.2.2.1 243 0 p_.toNat), .inr (.inr (some (246, 0))), .inl (S_.2.2.1 243 0 p_.toNat), .inr (.inr (some (246, 0)))], sm_aI (sm_aI (sm_aI (sm_aI S_ 247 0 (S_.2.2.1 243 0 p_.toNat).toNat (S_.2.2.1 247 0 (S_.2.2.1 243 0 p_.toNat).toNat)) 248 0 (S_.2.2.1 243 0 p_.toNat).toNat (S_.2.2.1 248 0 (S_.2.2.1 243 0 p_.toNat).toNat)) 249 0 (S_.2.2.1 243 0 p_.toNat).toNat (S_.2.2.1 249 0 (S_.2.2.1 243 0 p_.toNat).toNat)) 250 0 (S_.2.2.1 243 0 p_.toNat).toNat (S_.2.2.1 250 0 (S_.2.2.1 243 0 p_.toNat).toNat))) rfl ?_
                  refine sm_T_iald (n := 256) rfl rfl (by omega) (by omega) ?_
                  refine sm_T_go 1 (c1 := (234, [some (.inr (.inr (some (13, 0)))), some (.inl c_), some (.inl p_), some (.inl (S_.2.2.1 243 0 p_.toNat)), some (.inl 0)], [.inl 1, .inl (S_.2.2.1 246 0 (S_.2.2.1 243 0 p_.toNat).toNat), .inl (S_.2.2.1 243 0 p_.toNat), .inr (.inr (some (246, 0)))], sm_aI (sm_aI (sm_aI (sm_aI S_ 247 0 (S_.2.2.1 243 0 p_.toNat).toNat (S_.2.2.1 247 0 (S_.2.2.1 243 0 p_.toNat).toNat)) 248 0 (S_.2.2.1 243 0 p_.toNat).toNat (S_.2.2.1 248 0 (S_.2.2.1 243 0 p_.toNat).toNat)) 249 0 (S_.2.2.1 243 0 p_.toNat).toNat (S_.2.2.1 249 0 (S_.2.2.1 243 0 p_.toNat).toNat)) 250 0 (S_.2.2.1 243 0 p_.toNat).toNat (S_.2.2.1 250 0 (S_.2.2.1 243 0 p_.toNat).toNat))) rfl ?_
                  refine sm_T_bin (w := (S_.2.2.1 246 0 (S_.2.2.1 243 0 p_.toNat).toNat) + 1) rfl (bi_add (by omega) (by omega) (by omega)) ?_ -- pc_ 234
                  refine sm_T_iast (n := 256) rfl rfl (by omega) (by omega) ?_
                  have hIx24_ : gi (sm_aI (sm_aI (sm_aI (sm_aI (sm_aI S_ 247 0 (S_.2.2.1 243 0 p_.toNat).toNat (S_.2.2.1 247 0 (S_.2.2.1 243 0 p_.toNat).toNat)) 248 0 (S_.2.2.1 243 0 p_.toNat).toNat (S_.2.2.1 248 0 (S_.2.2.1 243 0 p_.toNat).toNat)) 249 0 (S_.2.2.1 243 0 p_.toNat).toNat (S_.2.2.1 249 0 (S_.2.2.1 243 0 p_.toNat).toNat)) 250 0 (S_.2.2.1 243 0 p_.toNat).toNat (S_.2.2.1 250 0 (S_.2.2.1 243 0 p_.toNat).toNat)) 246 0 (S_.2.2.1 243 0 p_.toNat).toNat ((S_.2.2.1 246 0 (S_.2.2.1 243 0 p_.toNat).toNat) + 1)) := gi_aI hIx22_ (show 0 ≤ (S_.2.2.1 246 0 (S_.2.2.1 243 0 p_.toNat).toNat) + 1 ∧ (S_.2.2.1 246 0 (S_.2.2.1 243 0 p_.toNat).toNat) + 1 ≤ 700 from ⟨by omega, by omega⟩)
                  have hFx25_ : ai_fr (sx_W vw_440) S0_ (sm_aI (sm_aI (sm_aI (sm_aI (sm_aI S_ 247 0 (S_.2.2.1 243 0 p_.toNat).toNat (S_.2.2.1 247 0 (S_.2.2.1 243 0 p_.toNat).toNat)) 248 0 (S_.2.2.1 243 0 p_.toNat).toNat (S_.2.2.1 248 0 (S_.2.2.1 243 0 p_.toNat).toNat)) 249 0 (S_.2.2.1 243 0 p_.toNat).toNat (S_.2.2.1 249 0 (S_.2.2.1 243 0 p_.toNat).toNat)) 250 0 (S_.2.2.1 243 0 p_.toNat).toNat (S_.2.2.1 250 0 (S_.2.2.1 243 0 p_.toNat).toNat)) 246 0 (S_.2.2.1 243 0 p_.toNat).toNat ((S_.2.2.1 246 0 (S_.2.2.1 243 0 p_.toNat).toNat) + 1)) := ai_fr_tr hFx23_ (ai_fr_aI rfl)
                  refine sm_T_inc (a := 2) (z := 1) (v := p_) (w := p_ + 1) rfl rfl (by omega) (by omega) (by omega) ?_ -- pc_ 236
                  refine sm_T_go 1 (c1 := (31, [some (.inr (.inr (some (13, 0)))), some (.inl c_), some (.inl (p_ + 1)), some (.inl (S_.2.2.1 243 0 p_.toNat)), some (.inl 0)], [], sm_aI (sm_aI (sm_aI (sm_aI (sm_aI S_ 247 0 (S_.2.2.1 243 0 p_.toNat).toNat (S_.2.2.1 247 0 (S_.2.2.1 243 0 p_.toNat).toNat)) 248 0 (S_.2.2.1 243 0 p_.toNat).toNat (S_.2.2.1 248 0 (S_.2.2.1 243 0 p_.toNat).toNat)) 249 0 (S_.2.2.1 243 0 p_.toNat).toNat (S_.2.2.1 249 0 (S_.2.2.1 243 0 p_.toNat).toNat)) 250 0 (S_.2.2.1 243 0 p_.toNat).toNat (S_.2.2.1 250 0 (S_.2.2.1 243 0 p_.toNat).toNat)) 246 0 (S_.2.2.1 243 0 p_.toNat).toNat ((S_.2.2.1 246 0 (S_.2.2.1 243 0 p_.toNat).toNat) + 1))) rfl ?_
                  refine sm_T_wk [some (.inr (.inr (some (13, 0)))), some (.inl c_), some (.inl (p_ + 1)), none, none] (by exact ⟨rfl, rfl, rfl, trivial⟩) ?_
                  refine ih_.2 (p_ + 1) (sm_aI (sm_aI (sm_aI (sm_aI (sm_aI S_ 247 0 (S_.2.2.1 243 0 p_.toNat).toNat (S_.2.2.1 247 0 (S_.2.2.1 243 0 p_.toNat).toNat)) 248 0 (S_.2.2.1 243 0 p_.toNat).toNat (S_.2.2.1 248 0 (S_.2.2.1 243 0 p_.toNat).toNat)) 249 0 (S_.2.2.1 243 0 p_.toNat).toNat (S_.2.2.1 249 0 (S_.2.2.1 243 0 p_.toNat).toNat)) 250 0 (S_.2.2.1 243 0 p_.toNat).toNat (S_.2.2.1 250 0 (S_.2.2.1 243 0 p_.toNat).toNat)) 246 0 (S_.2.2.1 243 0 p_.toNat).toNat ((S_.2.2.1 246 0 (S_.2.2.1 243 0 p_.toNat).toNat) + 1)) hIx24_ hFx25_ ⟨?_, ?_, ?_, ?_, trivial⟩ ?_
                  · have r6_ : ∀ j9_, ((sm_aI (sm_aI (sm_aI (sm_aI (sm_aI S_ 247 0 (S_.2.2.1 243 0 p_.toNat).toNat (S_.2.2.1 247 0 (S_.2.2.1 243 0 p_.toNat).toNat)) 248 0 (S_.2.2.1 243 0 p_.toNat).toNat (S_.2.2.1 248 0 (S_.2.2.1 243 0 p_.toNat).toNat)) 249 0 (S_.2.2.1 243 0 p_.toNat).toNat (S_.2.2.1 249 0 (S_.2.2.1 243 0 p_.toNat).toNat)) 250 0 (S_.2.2.1 243 0 p_.toNat).toNat (S_.2.2.1 250 0 (S_.2.2.1 243 0 p_.toNat).toNat)) 246 0 (S_.2.2.1 243 0 p_.toNat).toNat ((S_.2.2.1 246 0 (S_.2.2.1 243 0 p_.toNat).toNat) + 1))).2.2.1 246 0 j9_ = if j9_ = (S_.2.2.1 243 0 p_.toNat).toNat then S_.2.2.1 246 0 (S_.2.2.1 243 0 p_.toNat).toNat + 1 else S_.2.2.1 246 0 j9_ := fun j9_ => by (try simp only [rd_eq, rd_ne, rf_eq, rf_nk, rf_nt, rd_fa, rd_af, rd_fl, rd_al, rd_lf, rd_la, rd_leq, rd_lne, rd_fr, rd_ar, ne_eq, Nat.reduceEqDiff, not_false_eq_true])
                    have r3_ : ((sm_aI (sm_aI (sm_aI (sm_aI (sm_aI S_ 247 0 (S_.2.2.1 243 0 p_.toNat).toNat (S_.2.2.1 247 0 (S_.2.2.1 243 0 p_.toNat).toNat)) 248 0 (S_.2.2.1 243 0 p_.toNat).toNat (S_.2.2.1 248 0 (S_.2.2.1 243 0 p_.toNat).toNat)) 249 0 (S_.2.2.1 243 0 p_.toNat).toNat (S_.2.2.1 249 0 (S_.2.2.1 243 0 p_.toNat).toNat)) 250 0 (S_.2.2.1 243 0 p_.toNat).toNat (S_.2.2.1 250 0 (S_.2.2.1 243 0 p_.toNat).toNat)) 246 0 (S_.2.2.1 243 0 p_.toNat).toNat ((S_.2.2.1 246 0 (S_.2.2.1 243 0 p_.toNat).toNat) + 1))).2.2.1 243 0 = S_.2.2.1 243 0 := by (funext j9_; (try simp only [rd_eq, rd_ne, rf_eq, rf_nk, rf_nt, rd_fa, rd_af, rd_fl, rd_al, rd_lf, rd_la, rd_leq, rd_lne, rd_fr, rd_ar, ne_eq, Nat.reduceEqDiff, not_false_eq_true]))
                    have r9_ : ((sm_aI (sm_aI (sm_aI (sm_aI (sm_aI S_ 247 0 (S_.2.2.1 243 0 p_.toNat).toNat (S_.2.2.1 247 0 (S_.2.2.1 243 0 p_.toNat).toNat)) 248 0 (S_.2.2.1 243 0 p_.toNat).toNat (S_.2.2.1 248 0 (S_.2.2.1 243 0 p_.toNat).toNat)) 249 0 (S_.2.2.1 243 0 p_.toNat).toNat (S_.2.2.1 249 0 (S_.2.2.1 243 0 p_.toNat).toNat)) 250 0 (S_.2.2.1 243 0 p_.toNat).toNat (S_.2.2.1 250 0 (S_.2.2.1 243 0 p_.toNat).toNat)) 246 0 (S_.2.2.1 243 0 p_.toNat).toNat ((S_.2.2.1 246 0 (S_.2.2.1 243 0 p_.toNat).toNat) + 1))).1 13 0 159 = S_.1 13 0 159 := by (try simp only [rd_eq, rd_ne, rf_eq, rf_nk, rf_nt, rd_fa, rd_af, rd_fl, rd_al, rd_lf, rd_la, rd_leq, rd_lne, rd_fr, rd_ar, ne_eq, Nat.reduceEqDiff, not_false_eq_true])
                    rw [r9_]
                    omega
                  · have r6_ : ∀ j9_, ((sm_aI (sm_aI (sm_aI (sm_aI (sm_aI S_ 247 0 (S_.2.2.1 243 0 p_.toNat).toNat (S_.2.2.1 247 0 (S_.2.2.1 243 0 p_.toNat).toNat)) 248 0 (S_.2.2.1 243 0 p_.toNat).toNat (S_.2.2.1 248 0 (S_.2.2.1 243 0 p_.toNat).toNat)) 249 0 (S_.2.2.1 243 0 p_.toNat).toNat (S_.2.2.1 249 0 (S_.2.2.1 243 0 p_.toNat).toNat)) 250 0 (S_.2.2.1 243 0 p_.toNat).toNat (S_.2.2.1 250 0 (S_.2.2.1 243 0 p_.toNat).toNat)) 246 0 (S_.2.2.1 243 0 p_.toNat).toNat ((S_.2.2.1 246 0 (S_.2.2.1 243 0 p_.toNat).toNat) + 1))).2.2.1 246 0 j9_ = if j9_ = (S_.2.2.1 243 0 p_.toNat).toNat then S_.2.2.1 246 0 (S_.2.2.1 243 0 p_.toNat).toNat + 1 else S_.2.2.1 246 0 j9_ := fun j9_ => by (try simp only [rd_eq, rd_ne, rf_eq, rf_nk, rf_nt, rd_fa, rd_af, rd_fl, rd_al, rd_lf, rd_la, rd_leq, rd_lne, rd_fr, rd_ar, ne_eq, Nat.reduceEqDiff, not_false_eq_true])
                    have r3_ : ((sm_aI (sm_aI (sm_aI (sm_aI (sm_aI S_ 247 0 (S_.2.2.1 243 0 p_.toNat).toNat (S_.2.2.1 247 0 (S_.2.2.1 243 0 p_.toNat).toNat)) 248 0 (S_.2.2.1 243 0 p_.toNat).toNat (S_.2.2.1 248 0 (S_.2.2.1 243 0 p_.toNat).toNat)) 249 0 (S_.2.2.1 243 0 p_.toNat).toNat (S_.2.2.1 249 0 (S_.2.2.1 243 0 p_.toNat).toNat)) 250 0 (S_.2.2.1 243 0 p_.toNat).toNat (S_.2.2.1 250 0 (S_.2.2.1 243 0 p_.toNat).toNat)) 246 0 (S_.2.2.1 243 0 p_.toNat).toNat ((S_.2.2.1 246 0 (S_.2.2.1 243 0 p_.toNat).toNat) + 1))).2.2.1 243 0 = S_.2.2.1 243 0 := by (funext j9_; (try simp only [rd_eq, rd_ne, rf_eq, rf_nk, rf_nt, rd_fa, rd_af, rd_fl, rd_al, rd_lf, rd_la, rd_leq, rd_lne, rd_fr, rd_ar, ne_eq, Nat.reduceEqDiff, not_false_eq_true]))
                    have r9_ : ((sm_aI (sm_aI (sm_aI (sm_aI (sm_aI S_ 247 0 (S_.2.2.1 243 0 p_.toNat).toNat (S_.2.2.1 247 0 (S_.2.2.1 243 0 p_.toNat).toNat)) 248 0 (S_.2.2.1 243 0 p_.toNat).toNat (S_.2.2.1 248 0 (S_.2.2.1 243 0 p_.toNat).toNat)) 249 0 (S_.2.2.1 243 0 p_.toNat).toNat (S_.2.2.1 249 0 (S_.2.2.1 243 0 p_.toNat).toNat)) 250 0 (S_.2.2.1 243 0 p_.toNat).toNat (S_.2.2.1 250 0 (S_.2.2.1 243 0 p_.toNat).toNat)) 246 0 (S_.2.2.1 243 0 p_.toNat).toNat ((S_.2.2.1 246 0 (S_.2.2.1 243 0 p_.toNat).toNat) + 1))).1 13 0 159 = S_.1 13 0 159 := by (try simp only [rd_eq, rd_ne, rf_eq, rf_nk, rf_nt, rd_fa, rd_af, rd_fl, rd_al, rd_lf, rd_la, rd_leq, rd_lne, rd_fr, rd_ar, ne_eq, Nat.reduceEqDiff, not_false_eq_true])
                    intro k9_ k0_ k1_
                    rw [r9_] at k1_
                    have w9_ := hv_ k9_ k0_ k1_
                    (try simp only [rd_eq, rd_ne, rf_eq, rf_nk, rf_nt, rd_fa, rd_af, rd_fl, rd_al, rd_lf, rd_la, rd_leq, rd_lne, rd_fr, rd_ar, ne_eq, Nat.reduceEqDiff, not_false_eq_true])
                    exact w9_
                  · have r6_ : ∀ j9_, ((sm_aI (sm_aI (sm_aI (sm_aI (sm_aI S_ 247 0 (S_.2.2.1 243 0 p_.toNat).toNat (S_.2.2.1 247 0 (S_.2.2.1 243 0 p_.toNat).toNat)) 248 0 (S_.2.2.1 243 0 p_.toNat).toNat (S_.2.2.1 248 0 (S_.2.2.1 243 0 p_.toNat).toNat)) 249 0 (S_.2.2.1 243 0 p_.toNat).toNat (S_.2.2.1 249 0 (S_.2.2.1 243 0 p_.toNat).toNat)) 250 0 (S_.2.2.1 243 0 p_.toNat).toNat (S_.2.2.1 250 0 (S_.2.2.1 243 0 p_.toNat).toNat)) 246 0 (S_.2.2.1 243 0 p_.toNat).toNat ((S_.2.2.1 246 0 (S_.2.2.1 243 0 p_.toNat).toNat) + 1))).2.2.1 246 0 j9_ = if j9_ = (S_.2.2.1 243 0 p_.toNat).toNat then S_.2.2.1 246 0 (S_.2.2.1 243 0 p_.toNat).toNat + 1 else S_.2.2.1 246 0 j9_ := fun j9_ => by (try simp only [rd_eq, rd_ne, rf_eq, rf_nk, rf_nt, rd_fa, rd_af, rd_fl, rd_al, rd_lf, rd_la, rd_leq, rd_lne, rd_fr, rd_ar, ne_eq, Nat.reduceEqDiff, not_false_eq_true])
                    have r3_ : ((sm_aI (sm_aI (sm_aI (sm_aI (sm_aI S_ 247 0 (S_.2.2.1 243 0 p_.toNat).toNat (S_.2.2.1 247 0 (S_.2.2.1 243 0 p_.toNat).toNat)) 248 0 (S_.2.2.1 243 0 p_.toNat).toNat (S_.2.2.1 248 0 (S_.2.2.1 243 0 p_.toNat).toNat)) 249 0 (S_.2.2.1 243 0 p_.toNat).toNat (S_.2.2.1 249 0 (S_.2.2.1 243 0 p_.toNat).toNat)) 250 0 (S_.2.2.1 243 0 p_.toNat).toNat (S_.2.2.1 250 0 (S_.2.2.1 243 0 p_.toNat).toNat)) 246 0 (S_.2.2.1 243 0 p_.toNat).toNat ((S_.2.2.1 246 0 (S_.2.2.1 243 0 p_.toNat).toNat) + 1))).2.2.1 243 0 = S_.2.2.1 243 0 := by (funext j9_; (try simp only [rd_eq, rd_ne, rf_eq, rf_nk, rf_nt, rd_fa, rd_af, rd_fl, rd_al, rd_lf, rd_la, rd_leq, rd_lne, rd_fr, rd_ar, ne_eq, Nat.reduceEqDiff, not_false_eq_true]))
                    have r9_ : ((sm_aI (sm_aI (sm_aI (sm_aI (sm_aI S_ 247 0 (S_.2.2.1 243 0 p_.toNat).toNat (S_.2.2.1 247 0 (S_.2.2.1 243 0 p_.toNat).toNat)) 248 0 (S_.2.2.1 243 0 p_.toNat).toNat (S_.2.2.1 248 0 (S_.2.2.1 243 0 p_.toNat).toNat)) 249 0 (S_.2.2.1 243 0 p_.toNat).toNat (S_.2.2.1 249 0 (S_.2.2.1 243 0 p_.toNat).toNat)) 250 0 (S_.2.2.1 243 0 p_.toNat).toNat (S_.2.2.1 250 0 (S_.2.2.1 243 0 p_.toNat).toNat)) 246 0 (S_.2.2.1 243 0 p_.toNat).toNat ((S_.2.2.1 246 0 (S_.2.2.1 243 0 p_.toNat).toNat) + 1))).1 13 0 159 = S_.1 13 0 159 := by (try simp only [rd_eq, rd_ne, rf_eq, rf_nk, rf_nt, rd_fa, rd_af, rd_fl, rd_al, rd_lf, rd_la, rd_leq, rd_lne, rd_fr, rd_ar, ne_eq, Nat.reduceEqDiff, not_false_eq_true])
                    intro n9_ h9_ h8_
                    rw [r6_]
                    have w9_ := hz_ n9_ h9_ h8_
                    split
                    · omega
                    · omega
                  · have r6_ : ∀ j9_, ((sm_aI (sm_aI (sm_aI (sm_aI (sm_aI S_ 247 0 (S_.2.2.1 243 0 p_.toNat).toNat (S_.2.2.1 247 0 (S_.2.2.1 243 0 p_.toNat).toNat)) 248 0 (S_.2.2.1 243 0 p_.toNat).toNat (S_.2.2.1 248 0 (S_.2.2.1 243 0 p_.toNat).toNat)) 249 0 (S_.2.2.1 243 0 p_.toNat).toNat (S_.2.2.1 249 0 (S_.2.2.1 243 0 p_.toNat).toNat)) 250 0 (S_.2.2.1 243 0 p_.toNat).toNat (S_.2.2.1 250 0 (S_.2.2.1 243 0 p_.toNat).toNat)) 246 0 (S_.2.2.1 243 0 p_.toNat).toNat ((S_.2.2.1 246 0 (S_.2.2.1 243 0 p_.toNat).toNat) + 1))).2.2.1 246 0 j9_ = if j9_ = (S_.2.2.1 243 0 p_.toNat).toNat then S_.2.2.1 246 0 (S_.2.2.1 243 0 p_.toNat).toNat + 1 else S_.2.2.1 246 0 j9_ := fun j9_ => by (try simp only [rd_eq, rd_ne, rf_eq, rf_nk, rf_nt, rd_fa, rd_af, rd_fl, rd_al, rd_lf, rd_la, rd_leq, rd_lne, rd_fr, rd_ar, ne_eq, Nat.reduceEqDiff, not_false_eq_true])
                    have r3_ : ((sm_aI (sm_aI (sm_aI (sm_aI (sm_aI S_ 247 0 (S_.2.2.1 243 0 p_.toNat).toNat (S_.2.2.1 247 0 (S_.2.2.1 243 0 p_.toNat).toNat)) 248 0 (S_.2.2.1 243 0 p_.toNat).toNat (S_.2.2.1 248 0 (S_.2.2.1 243 0 p_.toNat).toNat)) 249 0 (S_.2.2.1 243 0 p_.toNat).toNat (S_.2.2.1 249 0 (S_.2.2.1 243 0 p_.toNat).toNat)) 250 0 (S_.2.2.1 243 0 p_.toNat).toNat (S_.2.2.1 250 0 (S_.2.2.1 243 0 p_.toNat).toNat)) 246 0 (S_.2.2.1 243 0 p_.toNat).toNat ((S_.2.2.1 246 0 (S_.2.2.1 243 0 p_.toNat).toNat) + 1))).2.2.1 243 0 = S_.2.2.1 243 0 := by (funext j9_; (try simp only [rd_eq, rd_ne, rf_eq, rf_nk, rf_nt, rd_fa, rd_af, rd_fl, rd_al, rd_lf, rd_la, rd_leq, rd_lne, rd_fr, rd_ar, ne_eq, Nat.reduceEqDiff, not_false_eq_true]))
                    have r9_ : ((sm_aI (sm_aI (sm_aI (sm_aI (sm_aI S_ 247 0 (S_.2.2.1 243 0 p_.toNat).toNat (S_.2.2.1 247 0 (S_.2.2.1 243 0 p_.toNat).toNat)) 248 0 (S_.2.2.1 243 0 p_.toNat).toNat (S_.2.2.1 248 0 (S_.2.2.1 243 0 p_.toNat).toNat)) 249 0 (S_.2.2.1 243 0 p_.toNat).toNat (S_.2.2.1 249 0 (S_.2.2.1 243 0 p_.toNat).toNat)) 250 0 (S_.2.2.1 243 0 p_.toNat).toNat (S_.2.2.1 250 0 (S_.2.2.1 243 0 p_.toNat).toNat)) 246 0 (S_.2.2.1 243 0 p_.toNat).toNat ((S_.2.2.1 246 0 (S_.2.2.1 243 0 p_.toNat).toNat) + 1))).1 13 0 159 = S_.1 13 0 159 := by (try simp only [rd_eq, rd_ne, rf_eq, rf_nk, rf_nt, rd_fa, rd_af, rd_fl, rd_al, rd_lf, rd_la, rd_leq, rd_lne, rd_fr, rd_ar, ne_eq, Nat.reduceEqDiff, not_false_eq_true])
                    intro n9_ h9_ h8_ y9_
                    rw [r6_] at y9_
                    rw [r3_]
                    by_cases q9_ : n9_.toNat = (S_.2.2.1 243 0 p_.toNat).toNat
                    · exact ⟨p_, by omega, by omega, by omega⟩
                    · rw [if_neg q9_] at y9_
                      obtain ⟨k9_, u1_, u2_, u3_⟩ := hx_ n9_ h9_ h8_ y9_
                      exact ⟨k9_, u1_, by omega, u3_⟩
                  · omega
                · have cx21_ : ¬ ((S_.2.2.1 245 0 p_.toNat) ≤ (S_.2.2.1 250 0 (S_.2.2.1 243 0 p_.toNat).toNat)) := of_decide_eq_false cx21_
                  refine sm_T_go 3 (c1 := (215, [some (.inr (.inr (some (13, 0)))), some (.inl c_), some (.inl p_), some (.inl (S_.2.2.1 243 0 p_.toNat)), some (.inl 0)], [.inl p_, .inr (.inr (some (245, 0))), .inl (S_.2.2.1 243 0 p_.toNat), .inr (.inr (some (250, 0)))], sm_aI (sm_aI (sm_aI S_ 247 0 (S_.2.2.1 243 0 p_.toNat).toNat (S_.2.2.1 247 0 (S_.2.2.1 243 0 p_.toNat).toNat)) 248 0 (S_.2.2.1 243 0 p_.toNat).toNat (S_.2.2.1 248 0 (S_.2.2.1 243 0 p_.toNat).toNat)) 249 0 (S_.2.2.1 243 0 p_.toNat).toNat (S_.2.2.1 249 0 (S_.2.2.1 243 0 p_.toNat).toNat))) rfl ?_
                  refine sm_T_iald (n := 700) rfl rfl (by omega) (by omega) ?_
                  refine sm_T_go 1 (c1 := (225, [some (.inr (.inr (some (13, 0)))), some (.inl c_), some (.inl p_), some (.inl (S_.2.2.1 243 0 p_.toNat)), some (.inl 0)], [.inl (S_.2.2.1 245 0 p_.toNat), .inl (S_.2.2.1 243 0 p_.toNat), .inr (.inr (some (250, 0)))], sm_aI (sm_aI (sm_aI S_ 247 0 (S_.2.2.1 243 0 p_.toNat).toNat (S_.2.2.1 247 0 (S_.2.2.1 243 0 p_.toNat).toNat)) 248 0 (S_.2.2.1 243 0 p_.toNat).toNat (S_.2.2.1 248 0 (S_.2.2.1 243 0 p_.toNat).toNat)) 249 0 (S_.2.2.1 243 0 p_.toNat).toNat (S_.2.2.1 249 0 (S_.2.2.1 243 0 p_.toNat).toNat))) rfl ?_
                  refine sm_T_iast (n := 256) rfl rfl (by omega) (by omega) ?_
                  have hIx26_ : gi (sm_aI (sm_aI (sm_aI (sm_aI S_ 247 0 (S_.2.2.1 243 0 p_.toNat).toNat (S_.2.2.1 247 0 (S_.2.2.1 243 0 p_.toNat).toNat)) 248 0 (S_.2.2.1 243 0 p_.toNat).toNat (S_.2.2.1 248 0 (S_.2.2.1 243 0 p_.toNat).toNat)) 249 0 (S_.2.2.1 243 0 p_.toNat).toNat (S_.2.2.1 249 0 (S_.2.2.1 243 0 p_.toNat).toNat)) 250 0 (S_.2.2.1 243 0 p_.toNat).toNat (S_.2.2.1 245 0 p_.toNat)) := gi_aI hIx18_ (show 0 ≤ (S_.2.2.1 245 0 p_.toNat) ∧ (S_.2.2.1 245 0 p_.toNat) ≤ 40 from ⟨by omega, by omega⟩)
                  have hFx27_ : ai_fr (sx_W vw_440) S0_ (sm_aI (sm_aI (sm_aI (sm_aI S_ 247 0 (S_.2.2.1 243 0 p_.toNat).toNat (S_.2.2.1 247 0 (S_.2.2.1 243 0 p_.toNat).toNat)) 248 0 (S_.2.2.1 243 0 p_.toNat).toNat (S_.2.2.1 248 0 (S_.2.2.1 243 0 p_.toNat).toNat)) 249 0 (S_.2.2.1 243 0 p_.toNat).toNat (S_.2.2.1 249 0 (S_.2.2.1 243 0 p_.toNat).toNat)) 250 0 (S_.2.2.1 243 0 p_.toNat).toNat (S_.2.2.1 245 0 p_.toNat)) := ai_fr_tr hFx19_ (ai_fr_aI rfl)
                  refine sm_T_go 4 (c1 := (232, [some (.inr (.inr (some (13, 0)))), some (.inl c_), some (.inl p_), some (.inl (S_.2.2.1 243 0 p_.toNat)), some (.inl 0)], [.inl (S_.2.2.1 243 0 p_.toNat), .inr (.inr (some (246, 0))), .inl (S_.2.2.1 243 0 p_.toNat), .inr (.inr (some (246, 0)))], sm_aI (sm_aI (sm_aI (sm_aI S_ 247 0 (S_.2.2.1 243 0 p_.toNat).toNat (S_.2.2.1 247 0 (S_.2.2.1 243 0 p_.toNat).toNat)) 248 0 (S_.2.2.1 243 0 p_.toNat).toNat (S_.2.2.1 248 0 (S_.2.2.1 243 0 p_.toNat).toNat)) 249 0 (S_.2.2.1 243 0 p_.toNat).toNat (S_.2.2.1 249 0 (S_.2.2.1 243 0 p_.toNat).toNat)) 250 0 (S_.2.2.1 243 0 p_.toNat).toNat (S_.2.2.1 245 0 p_.toNat))) rfl ?_
                  refine sm_T_iald (n := 256) rfl rfl (by omega) (by omega) ?_
                  refine sm_T_go 1 (c1 := (234, [some (.inr (.inr (some (13, 0)))), some (.inl c_), some (.inl p_), some (.inl (S_.2.2.1 243 0 p_.toNat)), some (.inl 0)], [.inl 1, .inl (S_.2.2.1 246 0 (S_.2.2.1 243 0 p_.toNat).toNat), .inl (S_.2.2.1 243 0 p_.toNat), .inr (.inr (some (246, 0)))], sm_aI (sm_aI (sm_aI (sm_aI S_ 247 0 (S_.2.2.1 243 0 p_.toNat).toNat (S_.2.2.1 247 0 (S_.2.2.1 243 0 p_.toNat).toNat)) 248 0 (S_.2.2.1 243 0 p_.toNat).toNat (S_.2.2.1 248 0 (S_.2.2.1 243 0 p_.toNat).toNat)) 249 0 (S_.2.2.1 243 0 p_.toNat).toNat (S_.2.2.1 249 0 (S_.2.2.1 243 0 p_.toNat).toNat)) 250 0 (S_.2.2.1 243 0 p_.toNat).toNat (S_.2.2.1 245 0 p_.toNat))) rfl ?_
                  refine sm_T_bin (w := (S_.2.2.1 246 0 (S_.2.2.1 243 0 p_.toNat).toNat) + 1) rfl (bi_add (by omega) (by omega) (by omega)) ?_ -- pc_ 234
                  refine sm_T_iast (n := 256) rfl rfl (by omega) (by omega) ?_
                  have hIx28_ : gi (sm_aI (sm_aI (sm_aI (sm_aI (sm_aI S_ 247 0 (S_.2.2.1 243 0 p_.toNat).toNat (S_.2.2.1 247 0 (S_.2.2.1 243 0 p_.toNat).toNat)) 248 0 (S_.2.2.1 243 0 p_.toNat).toNat (S_.2.2.1 248 0 (S_.2.2.1 243 0 p_.toNat).toNat)) 249 0 (S_.2.2.1 243 0 p_.toNat).toNat (S_.2.2.1 249 0 (S_.2.2.1 243 0 p_.toNat).toNat)) 250 0 (S_.2.2.1 243 0 p_.toNat).toNat (S_.2.2.1 245 0 p_.toNat)) 246 0 (S_.2.2.1 243 0 p_.toNat).toNat ((S_.2.2.1 246 0 (S_.2.2.1 243 0 p_.toNat).toNat) + 1)) := gi_aI hIx26_ (show 0 ≤ (S_.2.2.1 246 0 (S_.2.2.1 243 0 p_.toNat).toNat) + 1 ∧ (S_.2.2.1 246 0 (S_.2.2.1 243 0 p_.toNat).toNat) + 1 ≤ 700 from ⟨by omega, by omega⟩)
                  have hFx29_ : ai_fr (sx_W vw_440) S0_ (sm_aI (sm_aI (sm_aI (sm_aI (sm_aI S_ 247 0 (S_.2.2.1 243 0 p_.toNat).toNat (S_.2.2.1 247 0 (S_.2.2.1 243 0 p_.toNat).toNat)) 248 0 (S_.2.2.1 243 0 p_.toNat).toNat (S_.2.2.1 248 0 (S_.2.2.1 243 0 p_.toNat).toNat)) 249 0 (S_.2.2.1 243 0 p_.toNat).toNat (S_.2.2.1 249 0 (S_.2.2.1 243 0 p_.toNat).toNat)) 250 0 (S_.2.2.1 243 0 p_.toNat).toNat (S_.2.2.1 245 0 p_.toNat)) 246 0 (S_.2.2.1 243 0 p_.toNat).toNat ((S_.2.2.1 246 0 (S_.2.2.1 243 0 p_.toNat).toNat) + 1)) := ai_fr_tr hFx27_ (ai_fr_aI rfl)
                  refine sm_T_inc (a := 2) (z := 1) (v := p_) (w := p_ + 1) rfl rfl (by omega) (by omega) (by omega) ?_ -- pc_ 236
                  refine sm_T_go 1 (c1 := (31, [some (.inr (.inr (some (13, 0)))), some (.inl c_), some (.inl (p_ + 1)), some (.inl (S_.2.2.1 243 0 p_.toNat)), some (.inl 0)], [], sm_aI (sm_aI (sm_aI (sm_aI (sm_aI S_ 247 0 (S_.2.2.1 243 0 p_.toNat).toNat (S_.2.2.1 247 0 (S_.2.2.1 243 0 p_.toNat).toNat)) 248 0 (S_.2.2.1 243 0 p_.toNat).toNat (S_.2.2.1 248 0 (S_.2.2.1 243 0 p_.toNat).toNat)) 249 0 (S_.2.2.1 243 0 p_.toNat).toNat (S_.2.2.1 249 0 (S_.2.2.1 243 0 p_.toNat).toNat)) 250 0 (S_.2.2.1 243 0 p_.toNat).toNat (S_.2.2.1 245 0 p_.toNat)) 246 0 (S_.2.2.1 243 0 p_.toNat).toNat ((S_.2.2.1 246 0 (S_.2.2.1 243 0 p_.toNat).toNat) + 1))) rfl ?_
                  refine sm_T_wk [some (.inr (.inr (some (13, 0)))), some (.inl c_), some (.inl (p_ + 1)), none, none] (by exact ⟨rfl, rfl, rfl, trivial⟩) ?_
                  refine ih_.2 (p_ + 1) (sm_aI (sm_aI (sm_aI (sm_aI (sm_aI S_ 247 0 (S_.2.2.1 243 0 p_.toNat).toNat (S_.2.2.1 247 0 (S_.2.2.1 243 0 p_.toNat).toNat)) 248 0 (S_.2.2.1 243 0 p_.toNat).toNat (S_.2.2.1 248 0 (S_.2.2.1 243 0 p_.toNat).toNat)) 249 0 (S_.2.2.1 243 0 p_.toNat).toNat (S_.2.2.1 249 0 (S_.2.2.1 243 0 p_.toNat).toNat)) 250 0 (S_.2.2.1 243 0 p_.toNat).toNat (S_.2.2.1 245 0 p_.toNat)) 246 0 (S_.2.2.1 243 0 p_.toNat).toNat ((S_.2.2.1 246 0 (S_.2.2.1 243 0 p_.toNat).toNat) + 1)) hIx28_ hFx29_ ⟨?_, ?_, ?_, ?_, trivial⟩ ?_
                  · have r6_ : ∀ j9_, ((sm_aI (sm_aI (sm_aI (sm_aI (sm_aI S_ 247 0 (S_.2.2.1 243 0 p_.toNat).toNat (S_.2.2.1 247 0 (S_.2.2.1 243 0 p_.toNat).toNat)) 248 0 (S_.2.2.1 243 0 p_.toNat).toNat (S_.2.2.1 248 0 (S_.2.2.1 243 0 p_.toNat).toNat)) 249 0 (S_.2.2.1 243 0 p_.toNat).toNat (S_.2.2.1 249 0 (S_.2.2.1 243 0 p_.toNat).toNat)) 250 0 (S_.2.2.1 243 0 p_.toNat).toNat (S_.2.2.1 245 0 p_.toNat)) 246 0 (S_.2.2.1 243 0 p_.toNat).toNat ((S_.2.2.1 246 0 (S_.2.2.1 243 0 p_.toNat).toNat) + 1))).2.2.1 246 0 j9_ = if j9_ = (S_.2.2.1 243 0 p_.toNat).toNat then S_.2.2.1 246 0 (S_.2.2.1 243 0 p_.toNat).toNat + 1 else S_.2.2.1 246 0 j9_ := fun j9_ => by (try simp only [rd_eq, rd_ne, rf_eq, rf_nk, rf_nt, rd_fa, rd_af, rd_fl, rd_al, rd_lf, rd_la, rd_leq, rd_lne, rd_fr, rd_ar, ne_eq, Nat.reduceEqDiff, not_false_eq_true])
                    have r3_ : ((sm_aI (sm_aI (sm_aI (sm_aI (sm_aI S_ 247 0 (S_.2.2.1 243 0 p_.toNat).toNat (S_.2.2.1 247 0 (S_.2.2.1 243 0 p_.toNat).toNat)) 248 0 (S_.2.2.1 243 0 p_.toNat).toNat (S_.2.2.1 248 0 (S_.2.2.1 243 0 p_.toNat).toNat)) 249 0 (S_.2.2.1 243 0 p_.toNat).toNat (S_.2.2.1 249 0 (S_.2.2.1 243 0 p_.toNat).toNat)) 250 0 (S_.2.2.1 243 0 p_.toNat).toNat (S_.2.2.1 245 0 p_.toNat)) 246 0 (S_.2.2.1 243 0 p_.toNat).toNat ((S_.2.2.1 246 0 (S_.2.2.1 243 0 p_.toNat).toNat) + 1))).2.2.1 243 0 = S_.2.2.1 243 0 := by (funext j9_; (try simp only [rd_eq, rd_ne, rf_eq, rf_nk, rf_nt, rd_fa, rd_af, rd_fl, rd_al, rd_lf, rd_la, rd_leq, rd_lne, rd_fr, rd_ar, ne_eq, Nat.reduceEqDiff, not_false_eq_true]))
                    have r9_ : ((sm_aI (sm_aI (sm_aI (sm_aI (sm_aI S_ 247 0 (S_.2.2.1 243 0 p_.toNat).toNat (S_.2.2.1 247 0 (S_.2.2.1 243 0 p_.toNat).toNat)) 248 0 (S_.2.2.1 243 0 p_.toNat).toNat (S_.2.2.1 248 0 (S_.2.2.1 243 0 p_.toNat).toNat)) 249 0 (S_.2.2.1 243 0 p_.toNat).toNat (S_.2.2.1 249 0 (S_.2.2.1 243 0 p_.toNat).toNat)) 250 0 (S_.2.2.1 243 0 p_.toNat).toNat (S_.2.2.1 245 0 p_.toNat)) 246 0 (S_.2.2.1 243 0 p_.toNat).toNat ((S_.2.2.1 246 0 (S_.2.2.1 243 0 p_.toNat).toNat) + 1))).1 13 0 159 = S_.1 13 0 159 := by (try simp only [rd_eq, rd_ne, rf_eq, rf_nk, rf_nt, rd_fa, rd_af, rd_fl, rd_al, rd_lf, rd_la, rd_leq, rd_lne, rd_fr, rd_ar, ne_eq, Nat.reduceEqDiff, not_false_eq_true])
                    rw [r9_]
                    omega
                  · have r6_ : ∀ j9_, ((sm_aI (sm_aI (sm_aI (sm_aI (sm_aI S_ 247 0 (S_.2.2.1 243 0 p_.toNat).toNat (S_.2.2.1 247 0 (S_.2.2.1 243 0 p_.toNat).toNat)) 248 0 (S_.2.2.1 243 0 p_.toNat).toNat (S_.2.2.1 248 0 (S_.2.2.1 243 0 p_.toNat).toNat)) 249 0 (S_.2.2.1 243 0 p_.toNat).toNat (S_.2.2.1 249 0 (S_.2.2.1 243 0 p_.toNat).toNat)) 250 0 (S_.2.2.1 243 0 p_.toNat).toNat (S_.2.2.1 245 0 p_.toNat)) 246 0 (S_.2.2.1 243 0 p_.toNat).toNat ((S_.2.2.1 246 0 (S_.2.2.1 243 0 p_.toNat).toNat) + 1))).2.2.1 246 0 j9_ = if j9_ = (S_.2.2.1 243 0 p_.toNat).toNat then S_.2.2.1 246 0 (S_.2.2.1 243 0 p_.toNat).toNat + 1 else S_.2.2.1 246 0 j9_ := fun j9_ => by (try simp only [rd_eq, rd_ne, rf_eq, rf_nk, rf_nt, rd_fa, rd_af, rd_fl, rd_al, rd_lf, rd_la, rd_leq, rd_lne, rd_fr, rd_ar, ne_eq, Nat.reduceEqDiff, not_false_eq_true])
                    have r3_ : ((sm_aI (sm_aI (sm_aI (sm_aI (sm_aI S_ 247 0 (S_.2.2.1 243 0 p_.toNat).toNat (S_.2.2.1 247 0 (S_.2.2.1 243 0 p_.toNat).toNat)) 248 0 (S_.2.2.1 243 0 p_.toNat).toNat (S_.2.2.1 248 0 (S_.2.2.1 243 0 p_.toNat).toNat)) 249 0 (S_.2.2.1 243 0 p_.toNat).toNat (S_.2.2.1 249 0 (S_.2.2.1 243 0 p_.toNat).toNat)) 250 0 (S_.2.2.1 243 0 p_.toNat).toNat (S_.2.2.1 245 0 p_.toNat)) 246 0 (S_.2.2.1 243 0 p_.toNat).toNat ((S_.2.2.1 246 0 (S_.2.2.1 243 0 p_.toNat).toNat) + 1))).2.2.1 243 0 = S_.2.2.1 243 0 := by (funext j9_; (try simp only [rd_eq, rd_ne, rf_eq, rf_nk, rf_nt, rd_fa, rd_af, rd_fl, rd_al, rd_lf, rd_la, rd_leq, rd_lne, rd_fr, rd_ar, ne_eq, Nat.reduceEqDiff, not_false_eq_true]))
                    have r9_ : ((sm_aI (sm_aI (sm_aI (sm_aI (sm_aI S_ 247 0 (S_.2.2.1 243 0 p_.toNat).toNat (S_.2.2.1 247 0 (S_.2.2.1 243 0 p_.toNat).toNat)) 248 0 (S_.2.2.1 243 0 p_.toNat).toNat (S_.2.2.1 248 0 (S_.2.2.1 243 0 p_.toNat).toNat)) 249 0 (S_.2.2.1 243 0 p_.toNat).toNat (S_.2.2.1 249 0 (S_.2.2.1 243 0 p_.toNat).toNat)) 250 0 (S_.2.2.1 243 0 p_.toNat).toNat (S_.2.2.1 245 0 p_.toNat)) 246 0 (S_.2.2.1 243 0 p_.toNat).toNat ((S_.2.2.1 246 0 (S_.2.2.1 243 0 p_.toNat).toNat) + 1))).1 13 0 159 = S_.1 13 0 159 := by (try simp only [rd_eq, rd_ne, rf_eq, rf_nk, rf_nt, rd_fa, rd_af, rd_fl, rd_al, rd_lf, rd_la, rd_leq, rd_lne, rd_fr, rd_ar, ne_eq, Nat.reduceEqDiff, not_false_eq_true])
                    intro k9_ k0_ k1_
                    rw [r9_] at k1_
                    have w9_ := hv_ k9_ k0_ k1_
                    (try simp only [rd_eq, rd_ne, rf_eq, rf_nk, rf_nt, rd_fa, rd_af, rd_fl, rd_al, rd_lf, rd_la, rd_leq, rd_lne, rd_fr, rd_ar, ne_eq, Nat.reduceEqDiff, not_false_eq_true])
                    exact w9_
                  · have r6_ : ∀ j9_, ((sm_aI (sm_aI (sm_aI (sm_aI (sm_aI S_ 247 0 (S_.2.2.1 243 0 p_.toNat).toNat (S_.2.2.1 247 0 (S_.2.2.1 243 0 p_.toNat).toNat)) 248 0 (S_.2.2.1 243 0 p_.toNat).toNat (S_.2.2.1 248 0 (S_.2.2.1 243 0 p_.toNat).toNat)) 249 0 (S_.2.2.1 243 0 p_.toNat).toNat (S_.2.2.1 249 0 (S_.2.2.1 243 0 p_.toNat).toNat)) 250 0 (S_.2.2.1 243 0 p_.toNat).toNat (S_.2.2.1 245 0 p_.toNat)) 246 0 (S_.2.2.1 243 0 p_.toNat).toNat ((S_.2.2.1 246 0 (S_.2.2.1 243 0 p_.toNat).toNat) + 1))).2.2.1 246 0 j9_ = if j9_ = (S_.2.2.1 243 0 p_.toNat).toNat then S_.2.2.1 246 0 (S_.2.2.1 243 0 p_.toNat).toNat + 1 else S_.2.2.1 246 0 j9_ := fun j9_ => by (try simp only [rd_eq, rd_ne, rf_eq, rf_nk, rf_nt, rd_fa, rd_af, rd_fl, rd_al, rd_lf, rd_la, rd_leq, rd_lne, rd_fr, rd_ar, ne_eq, Nat.reduceEqDiff, not_false_eq_true])
                    have r3_ : ((sm_aI (sm_aI (sm_aI (sm_aI (sm_aI S_ 247 0 (S_.2.2.1 243 0 p_.toNat).toNat (S_.2.2.1 247 0 (S_.2.2.1 243 0 p_.toNat).toNat)) 248 0 (S_.2.2.1 243 0 p_.toNat).toNat (S_.2.2.1 248 0 (S_.2.2.1 243 0 p_.toNat).toNat)) 249 0 (S_.2.2.1 243 0 p_.toNat).toNat (S_.2.2.1 249 0 (S_.2.2.1 243 0 p_.toNat).toNat)) 250 0 (S_.2.2.1 243 0 p_.toNat).toNat (S_.2.2.1 245 0 p_.toNat)) 246 0 (S_.2.2.1 243 0 p_.toNat).toNat ((S_.2.2.1 246 0 (S_.2.2.1 243 0 p_.toNat).toNat) + 1))).2.2.1 243 0 = S_.2.2.1 243 0 := by (funext j9_; (try simp only [rd_eq, rd_ne, rf_eq, rf_nk, rf_nt, rd_fa, rd_af, rd_fl, rd_al, rd_lf, rd_la, rd_leq, rd_lne, rd_fr, rd_ar, ne_eq, Nat.reduceEqDiff, not_false_eq_true]))
                    have r9_ : ((sm_aI (sm_aI (sm_aI (sm_aI (sm_aI S_ 247 0 (S_.2.2.1 243 0 p_.toNat).toNat (S_.2.2.1 247 0 (S_.2.2.1 243 0 p_.toNat).toNat)) 248 0 (S_.2.2.1 243 0 p_.toNat).toNat (S_.2.2.1 248 0 (S_.2.2.1 243 0 p_.toNat).toNat)) 249 0 (S_.2.2.1 243 0 p_.toNat).toNat (S_.2.2.1 249 0 (S_.2.2.1 243 0 p_.toNat).toNat)) 250 0 (S_.2.2.1 243 0 p_.toNat).toNat (S_.2.2.1 245 0 p_.toNat)) 246 0 (S_.2.2.1 243 0 p_.toNat).toNat ((S_.2.2.1 246 0 (S_.2.2.1 243 0 p_.toNat).toNat) + 1))).1 13 0 159 = S_.1 13 0 159 := by (try simp only [rd_eq, rd_ne, rf_eq, rf_nk, rf_nt, rd_fa, rd_af, rd_fl, rd_al, rd_lf, rd_la, rd_leq, rd_lne, rd_fr, rd_ar, ne_eq, Nat.reduceEqDiff, not_false_eq_true])
                    intro n9_ h9_ h8_
                    rw [r6_]
                    have w9_ := hz_ n9_ h9_ h8_
                    split
                    · omega
                    · omega
                  · have r6_ : ∀ j9_, ((sm_aI (sm_aI (sm_aI (sm_aI (sm_aI S_ 247 0 (S_.2.2.1 243 0 p_.toNat).toNat (S_.2.2.1 247 0 (S_.2.2.1 243 0 p_.toNat).toNat)) 248 0 (S_.2.2.1 243 0 p_.toNat).toNat (S_.2.2.1 248 0 (S_.2.2.1 243 0 p_.toNat).toNat)) 249 0 (S_.2.2.1 243 0 p_.toNat).toNat (S_.2.2.1 249 0 (S_.2.2.1 243 0 p_.toNat).toNat)) 250 0 (S_.2.2.1 243 0 p_.toNat).toNat (S_.2.2.1 245 0 p_.toNat)) 246 0 (S_.2.2.1 243 0 p_.toNat).toNat ((S_.2.2.1 246 0 (S_.2.2.1 243 0 p_.toNat).toNat) + 1))).2.2.1 246 0 j9_ = if j9_ = (S_.2.2.1 243 0 p_.toNat).toNat then S_.2.2.1 246 0 (S_.2.2.1 243 0 p_.toNat).toNat + 1 else S_.2.2.1 246 0 j9_ := fun j9_ => by (try simp only [rd_eq, rd_ne, rf_eq, rf_nk, rf_nt, rd_fa, rd_af, rd_fl, rd_al, rd_lf, rd_la, rd_leq, rd_lne, rd_fr, rd_ar, ne_eq, Nat.reduceEqDiff, not_false_eq_true])
                    have r3_ : ((sm_aI (sm_aI (sm_aI (sm_aI (sm_aI S_ 247 0 (S_.2.2.1 243 0 p_.toNat).toNat (S_.2.2.1 247 0 (S_.2.2.1 243 0 p_.toNat).toNat)) 248 0 (S_.2.2.1 243 0 p_.toNat).toNat (S_.2.2.1 248 0 (S_.2.2.1 243 0 p_.toNat).toNat)) 249 0 (S_.2.2.1 243 0 p_.toNat).toNat (S_.2.2.1 249 0 (S_.2.2.1 243 0 p_.toNat).toNat)) 250 0 (S_.2.2.1 243 0 p_.toNat).toNat (S_.2.2.1 245 0 p_.toNat)) 246 0 (S_.2.2.1 243 0 p_.toNat).toNat ((S_.2.2.1 246 0 (S_.2.2.1 243 0 p_.toNat).toNat) + 1))).2.2.1 243 0 = S_.2.2.1 243 0 := by (funext j9_; (try simp only [rd_eq, rd_ne, rf_eq, rf_nk, rf_nt, rd_fa, rd_af, rd_fl, rd_al, rd_lf, rd_la, rd_leq, rd_lne, rd_fr, rd_ar, ne_eq, Nat.reduceEqDiff, not_false_eq_true]))
                    have r9_ : ((sm_aI (sm_aI (sm_aI (sm_aI (sm_aI S_ 247 0 (S_.2.2.1 243 0 p_.toNat).toNat (S_.2.2.1 247 0 (S_.2.2.1 243 0 p_.toNat).toNat)) 248 0 (S_.2.2.1 243 0 p_.toNat).toNat (S_.2.2.1 248 0 (S_.2.2.1 243 0 p_.toNat).toNat)) 249 0 (S_.2.2.1 243 0 p_.toNat).toNat (S_.2.2.1 249 0 (S_.2.2.1 243 0 p_.toNat).toNat)) 250 0 (S_.2.2.1 243 0 p_.toNat).toNat (S_.2.2.1 245 0 p_.toNat)) 246 0 (S_.2.2.1 243 0 p_.toNat).toNat ((S_.2.2.1 246 0 (S_.2.2.1 243 0 p_.toNat).toNat) + 1))).1 13 0 159 = S_.1 13 0 159 := by (try simp only [rd_eq, rd_ne, rf_eq, rf_nk, rf_nt, rd_fa, rd_af, rd_fl, rd_al, rd_lf, rd_la, rd_leq, rd_lne, rd_fr, rd_ar, ne_eq, Nat.reduceEqDiff, not_false_eq_true])
                    intro n9_ h9_ h8_ y9_
                    rw [r6_] at y9_
                    rw [r3_]
                    by_cases q9_ : n9_.toNat = (S_.2.2.1 243 0 p_.toNat).toNat
                    · exact ⟨p_, by omega, by omega, by omega⟩
                    · rw [if_neg q9_] at y9_
                      obtain ⟨k9_, u1_, u2_, u3_⟩ := hx_ n9_ h9_ h8_ y9_
                      exact ⟨k9_, u1_, by omega, u3_⟩
                  · omega
              · have cx17_ : ¬ ((S_.2.2.1 249 0 (S_.2.2.1 243 0 p_.toNat).toNat) ≤ (S_.2.2.1 245 0 p_.toNat)) := of_decide_eq_false cx17_
                refine sm_T_go 3 (c1 := (174, [some (.inr (.inr (some (13, 0)))), some (.inl c_), some (.inl p_), some (.inl (S_.2.2.1 243 0 p_.toNat)), some (.inl 0)], [.inl p_, .inr (.inr (some (245, 0))), .inl (S_.2.2.1 243 0 p_.toNat), .inr (.inr (some (249, 0)))], sm_aI (sm_aI S_ 247 0 (S_.2.2.1 243 0 p_.toNat).toNat (S_.2.2.1 247 0 (S_.2.2.1 243 0 p_.toNat).toNat)) 248 0 (S_.2.2.1 243 0 p_.toNat).toNat (S_.2.2.1 248 0 (S_.2.2.1 243 0 p_.toNat).toNat))) rfl ?_
                refine sm_T_iald (n := 700) rfl rfl (by omega) (by omega) ?_
                refine sm_T_go 1 (c1 := (184, [some (.inr (.inr (some (13, 0)))), some (.inl c_), some (.inl p_), some (.inl (S_.2.2.1 243 0 p_.toNat)), some (.inl 0)], [.inl (S_.2.2.1 245 0 p_.toNat), .inl (S_.2.2.1 243 0 p_.toNat), .inr (.inr (some (249, 0)))], sm_aI (sm_aI S_ 247 0 (S_.2.2.1 243 0 p_.toNat).toNat (S_.2.2.1 247 0 (S_.2.2.1 243 0 p_.toNat).toNat)) 248 0 (S_.2.2.1 243 0 p_.toNat).toNat (S_.2.2.1 248 0 (S_.2.2.1 243 0 p_.toNat).toNat))) rfl ?_
                refine sm_T_iast (n := 256) rfl rfl (by omega) (by omega) ?_
                have hIx30_ : gi (sm_aI (sm_aI (sm_aI S_ 247 0 (S_.2.2.1 243 0 p_.toNat).toNat (S_.2.2.1 247 0 (S_.2.2.1 243 0 p_.toNat).toNat)) 248 0 (S_.2.2.1 243 0 p_.toNat).toNat (S_.2.2.1 248 0 (S_.2.2.1 243 0 p_.toNat).toNat)) 249 0 (S_.2.2.1 243 0 p_.toNat).toNat (S_.2.2.1 245 0 p_.toNat)) := gi_aI hIx13_ (show 0 ≤ (S_.2.2.1 245 0 p_.toNat) ∧ (S_.2.2.1 245 0 p_.toNat) ≤ 40 from ⟨by omega, by omega⟩)
                have hFx31_ : ai_fr (sx_W vw_440) S0_ (sm_aI (sm_aI (sm_aI S_ 247 0 (S_.2.2.1 243 0 p_.toNat).toNat (S_.2.2.1 247 0 (S_.2.2.1 243 0 p_.toNat).toNat)) 248 0 (S_.2.2.1 243 0 p_.toNat).toNat (S_.2.2.1 248 0 (S_.2.2.1 243 0 p_.toNat).toNat)) 249 0 (S_.2.2.1 243 0 p_.toNat).toNat (S_.2.2.1 245 0 p_.toNat)) := ai_fr_tr hFx14_ (ai_fr_aI rfl)
                refine sm_T_go 8 (c1 := (200, [some (.inr (.inr (some (13, 0)))), some (.inl c_), some (.inl p_), some (.inl (S_.2.2.1 243 0 p_.toNat)), some (.inl 0)], [.inl p_, .inr (.inr (some (245, 0))), .inl (S_.2.2.1 243 0 p_.toNat), .inr (.inr (some (250, 0)))], sm_aI (sm_aI (sm_aI S_ 247 0 (S_.2.2.1 243 0 p_.toNat).toNat (S_.2.2.1 247 0 (S_.2.2.1 243 0 p_.toNat).toNat)) 248 0 (S_.2.2.1 243 0 p_.toNat).toNat (S_.2.2.1 248 0 (S_.2.2.1 243 0 p_.toNat).toNat)) 249 0 (S_.2.2.1 243 0 p_.toNat).toNat (S_.2.2.1 245 0 p_.toNat))) rfl ?_
                refine sm_T_iald (n := 700) rfl rfl (by omega) (by omega) ?_
                refine sm_T_go 3 (c1 := (206, [some (.inr (.inr (some (13, 0)))), some (.inl c_), some (.inl p_), some (.inl (S_.2.2.1 243 0 p_.toNat)), some (.inl 0)], [.inl (S_.2.2.1 243 0 p_.toNat), .inr (.inr (some (250, 0))), .inl (S_.2.2.1 245 0 p_.toNat), .inl (S_.2.2.1 243 0 p_.toNat), .inr (.inr (some (250, 0)))], sm_aI (sm_aI (sm_aI S_ 247 0 (S_.2.2.1 243 0 p_.toNat).toNat (S_.2.2.1 247 0 (S_.2.2.1 243 0 p_.toNat).toNat)) 248 0 (S_.2.2.1 243 0 p_.toNat).toNat (S_.2.2.1 248 0 (S_.2.2.1 243 0 p_.toNat).toNat)) 249 0 (S_.2.2.1 243 0 p_.toNat).toNat (S_.2.2.1 245 0 p_.toNat))) rfl ?_
                refine sm_T_iald (n := 256) rfl rfl (by omega) (by omega) ?_
                have bx32_ : 0 ≤ S_.2.2.1 250 0 (S_.2.2.1 243 0 p_.toNat).toNat ∧ S_.2.2.1 250 0 (S_.2.2.1 243 0 p_.toNat).toNat ≤ 40 := hI_.2 250 0 _
                refine sm_T_go 0 (c1 := (207, [some (.inr (.inr (some (13, 0)))), some (.inl c_), some (.inl p_), some (.inl (S_.2.2.1 243 0 p_.toNat)), some (.inl 0)], [.inl (S_.2.2.1 250 0 (S_.2.2.1 243 0 p_.toNat).toNat), .inl (S_.2.2.1 245 0 p_.toNat), .inl (S_.2.2.1 243 0 p_.toNat), .inr (.inr (some (250, 0)))], sm_aI (sm_aI (sm_aI S_ 247 0 (S_.2.2.1 243 0 p_.toNat).toNat (S_.2.2.1 247 0 (S_.2.2.1 243 0 p_.toNat).toNat)) 248 0 (S_.2.2.1 243 0 p_.toNat).toNat (S_.2.2.1 248 0 (S_.2.2.1 243 0 p_.toNat).toNat)) 249 0 (S_.2.2.1 243 0 p_.toNat).toNat (S_.2.2.1 245 0 p_.toNat))) rfl ?_
                refine sm_T_br (a := 5) (z := 12) rfl (fun cx33_ => ?_) (fun cx33_ => ?_)
                · have cx33_ : (S_.2.2.1 245 0 p_.toNat) ≤ (S_.2.2.1 250 0 (S_.2.2.1 243 0 p_.toNat).toNat) := of_decide_eq_true cx33_
                  refine sm_T_go 3 (c1 := (224, [some (.inr (.inr (some (13, 0)))), some (.inl c_), some (.inl p_), some (.inl (S_.2.2.1 243 0 p_.toNat)), some (.inl 0)], [.inl (S_.2.2.1 243 0 p_.toNat), .inr (.inr (some (250, 0))), .inl (S_.2.2.1 243 0 p_.toNat), .inr (.inr (some (250, 0)))], sm_aI (sm_aI (sm_aI S_ 247 0 (S_.2.2.1 243 0 p_.toNat).toNat (S_.2.2.1 247 0 (S_.2.2.1 243 0 p_.toNat).toNat)) 248 0 (S_.2.2.1 243 0 p_.toNat).toNat (S_.2.2.1 248 0 (S_.2.2.1 243 0 p_.toNat).toNat)) 249 0 (S_.2.2.1 243 0 p_.toNat).toNat (S_.2.2.1 245 0 p_.toNat))) rfl ?_
                  refine sm_T_iald (n := 256) rfl rfl (by omega) (by omega) ?_
                  refine sm_T_go 0 (c1 := (225, [some (.inr (.inr (some (13, 0)))), some (.inl c_), some (.inl p_), some (.inl (S_.2.2.1 243 0 p_.toNat)), some (.inl 0)], [.inl (S_.2.2.1 250 0 (S_.2.2.1 243 0 p_.toNat).toNat), .inl (S_.2.2.1 243 0 p_.toNat), .inr (.inr (some (250, 0)))], sm_aI (sm_aI (sm_aI S_ 247 0 (S_.2.2.1 243 0 p_.toNat).toNat (S_.2.2.1 247 0 (S_.2.2.1 243 0 p_.toNat).toNat)) 248 0 (S_.2.2.1 243 0 p_.toNat).toNat (S_.2.2.1 248 0 (S_.2.2.1 243 0 p_.toNat).toNat)) 249 0 (S_.2.2.1 243 0 p_.toNat).toNat (S_.2.2.1 245 0 p_.toNat))) rfl ?_
                  refine sm_T_iast (n := 256) rfl rfl (by omega) (by omega) ?_
                  have hIx34_ : gi (sm_aI (sm_aI (sm_aI (sm_aI S_ 247 0 (S_.2.2.1 243 0 p_.toNat).toNat (S_.2.2.1 247 0 (S_.2.2.1 243 0 p_.toNat).toNat)) 248 0 (S_.2.2.1 243 0 p_.toNat).toNat (S_.2.2.1 248 0 (S_.2.2.1 243 0 p_.toNat).toNat)) 249 0 (S_.2.2.1 243 0 p_.toNat).toNat (S_.2.2.1 245 0 p_.toNat)) 250 0 (S_.2.2.1 243 0 p_.toNat).toNat (S_.2.2.1 250 0 (S_.2.2.1 243 0 p_.toNat).toNat)) := gi_aI hIx30_ (show 0 ≤ (S_.2.2.1 250 0 (S_.2.2.1 243 0 p_.toNat).toNat) ∧ (S_.2.2.1 250 0 (S_.2.2.1 243 0 p_.toNat).toNat) ≤ 40 from ⟨by omega, by omega⟩)
                  have hFx35_ : ai_fr (sx_W vw_440) S0_ (sm_aI (sm_aI (sm_aI (sm_aI S_ 247 0 (S_.2.2.1 243 0 p_.toNat).toNat (S_.2.2.1 247 0 (S_.2.2.1 243 0 p_.toNat).toNat)) 248 0 (S_.2.2.1 243 0 p_.toNat).toNat (S_.2.2.1 248 0 (S_.2.2.1 243 0 p_.toNat).toNat)) 249 0 (S_.2.2.1 243 0 p_.toNat).toNat (S_.2.2.1 245 0 p_.toNat)) 250 0 (S_.2.2.1 243 0 p_.toNat).toNat (S_.2.2.1 250 0 (S_.2.2.1 243 0 p_.toNat).toNat)) := ai_fr_tr hFx31_ (ai_fr_aI rfl)
                  refine sm_T_go 4 (c1 := (232, [some (.inr (.inr (some (13, 0)))), some (.inl c_), some (.inl p_), some (.inl (S_.2.2.1 243 0 p_.toNat)), some (.inl 0)], [.inl (S_.2.2.1 243 0 p_.toNat), .inr (.inr (some (246, 0))), .inl (S_.2.2.1 243 0 p_.toNat), .inr (.inr (some (246, 0)))], sm_aI (sm_aI (sm_aI (sm_aI S_ 247 0 (S_.2.2.1 243 0 p_.toNat).toNat (S_.2.2.1 247 0 (S_.2.2.1 243 0 p_.toNat).toNat)) 248 0 (S_.2.2.1 243 0 p_.toNat).toNat (S_.2.2.1 248 0 (S_.2.2.1 243 0 p_.toNat).toNat)) 249 0 (S_.2.2.1 243 0 p_.toNat).toNat (S_.2.2.1 245 0 p_.toNat)) 250 0 (S_.2.2.1 243 0 p_.toNat).toNat (S_.2.2.1 250 0 (S_.2.2.1 243 0 p_.toNat).toNat))) rfl ?_
                  refine sm_T_iald (n := 256) rfl rfl (by omega) (by omega) ?_
                  refine sm_T_go 1 (c1 := (234, [some (.inr (.inr (some (13, 0)))), some (.inl c_), some (.inl p_), some (.inl (S_.2.2.1 243 0 p_.toNat)), some (.inl 0)], [.inl 1, .inl (S_.2.2.1 246 0 (S_.2.2.1 243 0 p_.toNat).toNat), .inl (S_.2.2.1 243 0 p_.toNat), .inr (.inr (some (246, 0)))], sm_aI (sm_aI (sm_aI (sm_aI S_ 247 0 (S_.2.2.1 243 0 p_.toNat).toNat (S_.2.2.1 247 0 (S_.2.2.1 243 0 p_.toNat).toNat)) 248 0 (S_.2.2.1 243 0 p_.toNat).toNat (S_.2.2.1 248 0 (S_.2.2.1 243 0 p_.toNat).toNat)) 249 0 (S_.2.2.1 243 0 p_.toNat).toNat (S_.2.2.1 245 0 p_.toNat)) 250 0 (S_.2.2.1 243 0 p_.toNat).toNat (S_.2.2.1 250 0 (S_.2.2.1 243 0 p_.toNat).toNat))) rfl ?_
                  refine sm_T_bin (w := (S_.2.2.1 246 0 (S_.2.2.1 243 0 p_.toNat).toNat) + 1) rfl (bi_add (by omega) (by omega) (by omega)) ?_ -- pc_ 234
                  refine sm_T_iast (n := 256) rfl rfl (by omega) (by omega) ?_
                  have hIx36_ : gi (sm_aI (sm_aI (sm_aI (sm_aI (sm_aI S_ 247 0 (S_.2.2.1 243 0 p_.toNat).toNat (S_.2.2.1 247 0 (S_.2.2.1 243 0 p_.toNat).toNat)) 248 0 (S_.2.2.1 243 0 p_.toNat).toNat (S_.2.2.1 248 0 (S_.2.2.1 243 0 p_.toNat).toNat)) 249 0 (S_.2.2.1 243 0 p_.toNat).toNat (S_.2.2.1 245 0 p_.toNat)) 250 0 (S_.2.2.1 243 0 p_.toNat).toNat (S_.2.2.1 250 0 (S_.2.2.1 243 0 p_.toNat).toNat)) 246 0 (S_.2.2.1 243 0 p_.toNat).toNat ((S_.2.2.1 246 0 (S_.2.2.1 243 0 p_.toNat).toNat) + 1)) := gi_aI hIx34_ (show 0 ≤ (S_.2.2.1 246 0 (S_.2.2.1 243 0 p_.toNat).toNat) + 1 ∧ (S_.2.2.1 246 0 (S_.2.2.1 243 0 p_.toNat).toNat) + 1 ≤ 700 from ⟨by omega, by omega⟩)
                  have hFx37_ : ai_fr (sx_W vw_440) S0_ (sm_aI (sm_aI (sm_aI (sm_aI (sm_aI S_ 247 0 (S_.2.2.1 243 0 p_.toNat).toNat (S_.2.2.1 247 0 (S_.2.2.1 243 0 p_.toNat).toNat)) 248 0 (S_.2.2.1 243 0 p_.toNat).toNat (S_.2.2.1 248 0 (S_.2.2.1 243 0 p_.toNat).toNat)) 249 0 (S_.2.2.1 243 0 p_.toNat).toNat (S_.2.2.1 245 0 p_.toNat)) 250 0 (S_.2.2.1 243 0 p_.toNat).toNat (S_.2.2.1 250 0 (S_.2.2.1 243 0 p_.toNat).toNat)) 246 0 (S_.2.2.1 243 0 p_.toNat).toNat ((S_.2.2.1 246 0 (S_.2.2.1 243 0 p_.toNat).toNat) + 1)) := ai_fr_tr hFx35_ (ai_fr_aI rfl)
                  refine sm_T_inc (a := 2) (z := 1) (v := p_) (w := p_ + 1) rfl rfl (by omega) (by omega) (by omega) ?_ -- pc_ 236
                  refine sm_T_go 1 (c1 := (31, [some (.inr (.inr (some (13, 0)))), some (.inl c_), some (.inl (p_ + 1)), some (.inl (S_.2.2.1 243 0 p_.toNat)), some (.inl 0)], [], sm_aI (sm_aI (sm_aI (sm_aI (sm_aI S_ 247 0 (S_.2.2.1 243 0 p_.toNat).toNat (S_.2.2.1 247 0 (S_.2.2.1 243 0 p_.toNat).toNat)) 248 0 (S_.2.2.1 243 0 p_.toNat).toNat (S_.2.2.1 248 0 (S_.2.2.1 243 0 p_.toNat).toNat)) 249 0 (S_.2.2.1 243 0 p_.toNat).toNat (S_.2.2.1 245 0 p_.toNat)) 250 0 (S_.2.2.1 243 0 p_.toNat).toNat (S_.2.2.1 250 0 (S_.2.2.1 243 0 p_.toNat).toNat)) 246 0 (S_.2.2.1 243 0 p_.toNat).toNat ((S_.2.2.1 246 0 (S_.2.2.1 243 0 p_.toNat).toNat) + 1))) rfl ?_
                  refine sm_T_wk [some (.inr (.inr (some (13, 0)))), some (.inl c_), some (.inl (p_ + 1)), none, none] (by exact ⟨rfl, rfl, rfl, trivial⟩) ?_
                  refine ih_.2 (p_ + 1) (sm_aI (sm_aI (sm_aI (sm_aI (sm_aI S_ 247 0 (S_.2.2.1 243 0 p_.toNat).toNat (S_.2.2.1 247 0 (S_.2.2.1 243 0 p_.toNat).toNat)) 248 0 (S_.2.2.1 243 0 p_.toNat).toNat (S_.2.2.1 248 0 (S_.2.2.1 243 0 p_.toNat).toNat)) 249 0 (S_.2.2.1 243 0 p_.toNat).toNat (S_.2.2.1 245 0 p_.toNat)) 250 0 (S_.2.2.1 243 0 p_.toNat).toNat (S_.2.2.1 250 0 (S_.2.2.1 243 0 p_.toNat).toNat)) 246 0 (S_.2.2.1 243 0 p_.toNat).toNat ((S_.2.2.1 246 0 (S_.2.2.1 243 0 p_.toNat).toNat) + 1)) hIx36_ hFx37_ ⟨?_, ?_, ?_, ?_, trivial⟩ ?_
                  · have r6_ : ∀ j9_, ((sm_aI (sm_aI (sm_aI (sm_aI (sm_aI S_ 247 0 (S_.2.2.1 243 0 p_.toNat).toNat (S_.2.2.1 247 0 (S_.2.2.1 243 0 p_.toNat).toNat)) 248 0 (S_.2.2.1 243 0 p_.toNat).toNat (S_.2.2.1 248 0 (S_.2.2.1 243 0 p_.toNat).toNat)) 249 0 (S_.2.2.1 243 0 p_.toNat).toNat (S_.2.2.1 245 0 p_.toNat)) 250 0 (S_.2.2.1 243 0 p_.toNat).toNat (S_.2.2.1 250 0 (S_.2.2.1 243 0 p_.toNat).toNat)) 246 0 (S_.2.2.1 243 0 p_.toNat).toNat ((S_.2.2.1 246 0 (S_.2.2.1 243 0 p_.toNat).toNat) + 1))).2.2.1 246 0 j9_ = if j9_ = (S_.2.2.1 243 0 p_.toNat).toNat then S_.2.2.1 246 0 (S_.2.2.1 243 0 p_.toNat).toNat + 1 else S_.2.2.1 246 0 j9_ := fun j9_ => by (try simp only [rd_eq, rd_ne, rf_eq, rf_nk, rf_nt, rd_fa, rd_af, rd_fl, rd_al, rd_lf, rd_la, rd_leq, rd_lne, rd_fr, rd_ar, ne_eq, Nat.reduceEqDiff, not_false_eq_true])
                    have r3_ : ((sm_aI (sm_aI (sm_aI (sm_aI (sm_aI S_ 247 0 (S_.2.2.1 243 0 p_.toNat).toNat (S_.2.2.1 247 0 (S_.2.2.1 243 0 p_.toNat).toNat)) 248 0 (S_.2.2.1 243 0 p_.toNat).toNat (S_.2.2.1 248 0 (S_.2.2.1 243 0 p_.toNat).toNat)) 249 0 (S_.2.2.1 243 0 p_.toNat).toNat (S_.2.2.1 245 0 p_.toNat)) 250 0 (S_.2.2.1 243 0 p_.toNat).toNat (S_.2.2.1 250 0 (S_.2.2.1 243 0 p_.toNat).toNat)) 246 0 (S_.2.2.1 243 0 p_.toNat).toNat ((S_.2.2.1 246 0 (S_.2.2.1 243 0 p_.toNat).toNat) + 1))).2.2.1 243 0 = S_.2.2.1 243 0 := by (funext j9_; (try simp only [rd_eq, rd_ne, rf_eq, rf_nk, rf_nt, rd_fa, rd_af, rd_fl, rd_al, rd_lf, rd_la, rd_leq, rd_lne, rd_fr, rd_ar, ne_eq, Nat.reduceEqDiff, not_false_eq_true]))
                    have r9_ : ((sm_aI (sm_aI (sm_aI (sm_aI (sm_aI S_ 247 0 (S_.2.2.1 243 0 p_.toNat).toNat (S_.2.2.1 247 0 (S_.2.2.1 243 0 p_.toNat).toNat)) 248 0 (S_.2.2.1 243 0 p_.toNat).toNat (S_.2.2.1 248 0 (S_.2.2.1 243 0 p_.toNat).toNat)) 249 0 (S_.2.2.1 243 0 p_.toNat).toNat (S_.2.2.1 245 0 p_.toNat)) 250 0 (S_.2.2.1 243 0 p_.toNat).toNat (S_.2.2.1 250 0 (S_.2.2.1 243 0 p_.toNat).toNat)) 246 0 (S_.2.2.1 243 0 p_.toNat).toNat ((S_.2.2.1 246 0 (S_.2.2.1 243 0 p_.toNat).toNat) + 1))).1 13 0 159 = S_.1 13 0 159 := by (try simp only [rd_eq, rd_ne, rf_eq, rf_nk, rf_nt, rd_fa, rd_af, rd_fl, rd_al, rd_lf, rd_la, rd_leq, rd_lne, rd_fr, rd_ar, ne_eq, Nat.reduceEqDiff, not_false_eq_true])
                    rw [r9_]
                    omega
                  · have r6_ : ∀ j9_, ((sm_aI (sm_aI (sm_aI (sm_aI (sm_aI S_ 247 0 (S_.2.2.1 243 0 p_.toNat).toNat (S_.2.2.1 247 0 (S_.2.2.1 243 0 p_.toNat).toNat)) 248 0 (S_.2.2.1 243 0 p_.toNat).toNat (S_.2.2.1 248 0 (S_.2.2.1 243 0 p_.toNat).toNat)) 249 0 (S_.2.2.1 243 0 p_.toNat).toNat (S_.2.2.1 245 0 p_.toNat)) 250 0 (S_.2.2.1 243 0 p_.toNat).toNat (S_.2.2.1 250 0 (S_.2.2.1 243 0 p_.toNat).toNat)) 246 0 (S_.2.2.1 243 0 p_.toNat).toNat ((S_.2.2.1 246 0 (S_.2.2.1 243 0 p_.toNat).toNat) + 1))).2.2.1 246 0 j9_ = if j9_ = (S_.2.2.1 243 0 p_.toNat).toNat then S_.2.2.1 246 0 (S_.2.2.1 243 0 p_.toNat).toNat + 1 else S_.2.2.1 246 0 j9_ := fun j9_ => by (try simp only [rd_eq, rd_ne, rf_eq, rf_nk, rf_nt, rd_fa, rd_af, rd_fl, rd_al, rd_lf, rd_la, rd_leq, rd_lne, rd_fr, rd_ar, ne_eq, Nat.reduceEqDiff, not_false_eq_true])
                    have r3_ : ((sm_aI (sm_aI (sm_aI (sm_aI (sm_aI S_ 247 0 (S_.2.2.1 243 0 p_.toNat).toNat (S_.2.2.1 247 0 (S_.2.2.1 243 0 p_.toNat).toNat)) 248 0 (S_.2.2.1 243 0 p_.toNat).toNat (S_.2.2.1 248 0 (S_.2.2.1 243 0 p_.toNat).toNat)) 249 0 (S_.2.2.1 243 0 p_.toNat).toNat (S_.2.2.1 245 0 p_.toNat)) 250 0 (S_.2.2.1 243 0 p_.toNat).toNat (S_.2.2.1 250 0 (S_.2.2.1 243 0 p_.toNat).toNat)) 246 0 (S_.2.2.1 243 0 p_.toNat).toNat ((S_.2.2.1 246 0 (S_.2.2.1 243 0 p_.toNat).toNat) + 1))).2.2.1 243 0 = S_.2.2.1 243 0 := by (funext j9_; (try simp only [rd_eq, rd_ne, rf_eq, rf_nk, rf_nt, rd_fa, rd_af, rd_fl, rd_al, rd_lf, rd_la, rd_leq, rd_lne, rd_fr, rd_ar, ne_eq, Nat.reduceEqDiff, not_false_eq_true]))
                    have r9_ : ((sm_aI (sm_aI (sm_aI (sm_aI (sm_aI S_ 247 0 (S_.2.2.1 243 0 p_.toNat).toNat (S_.2.2.1 247 0 (S_.2.2.1 243 0 p_.toNat).toNat)) 248 0 (S_.2.2.1 243 0 p_.toNat).toNat (S_.2.2.1 248 0 (S_.2.2.1 243 0 p_.toNat).toNat)) 249 0 (S_.2.2.1 243 0 p_.toNat).toNat (S_.2.2.1 245 0 p_.toNat)) 250 0 (S_.2.2.1 243 0 p_.toNat).toNat (S_.2.2.1 250 0 (S_.2.2.1 243 0 p_.toNat).toNat)) 246 0 (S_.2.2.1 243 0 p_.toNat).toNat ((S_.2.2.1 246 0 (S_.2.2.1 243 0 p_.toNat).toNat) + 1))).1 13 0 159 = S_.1 13 0 159 := by (try simp only [rd_eq, rd_ne, rf_eq, rf_nk, rf_nt, rd_fa, rd_af, rd_fl, rd_al, rd_lf, rd_la, rd_leq, rd_lne, rd_fr, rd_ar, ne_eq, Nat.reduceEqDiff, not_false_eq_true])
                    intro k9_ k0_ k1_
                    rw [r9_] at k1_
                    have w9_ := hv_ k9_ k0_ k1_
                    (try simp only [rd_eq, rd_ne, rf_eq, rf_nk, rf_nt, rd_fa, rd_af, rd_fl, rd_al, rd_lf, rd_la, rd_leq, rd_lne, rd_fr, rd_ar, ne_eq, Nat.reduceEqDiff, not_false_eq_true])
                    exact w9_
                  · have r6_ : ∀ j9_, ((sm_aI (sm_aI (sm_aI (sm_aI (sm_aI S_ 247 0 (S_.2.2.1 243 0 p_.toNat).toNat (S_.2.2.1 247 0 (S_.2.2.1 243 0 p_.toNat).toNat)) 248 0 (S_.2.2.1 243 0 p_.toNat).toNat (S_.2.2.1 248 0 (S_.2.2.1 243 0 p_.toNat).toNat)) 249 0 (S_.2.2.1 243 0 p_.toNat).toNat (S_.2.2.1 245 0 p_.toNat)) 250 0 (S_.2.2.1 243 0 p_.toNat).toNat (S_.2.2.1 250 0 (S_.2.2.1 243 0 p_.toNat).toNat)) 246 0 (S_.2.2.1 243 0 p_.toNat).toNat ((S_.2.2.1 246 0 (S_.2.2.1 243 0 p_.toNat).toNat) + 1))).2.2.1 246 0 j9_ = if j9_ = (S_.2.2.1 243 0 p_.toNat).toNat then S_.2.2.1 246 0 (S_.2.2.1 243 0 p_.toNat).toNat + 1 else S_.2.2.1 246 0 j9_ := fun j9_ => by (try simp only [rd_eq, rd_ne, rf_eq, rf_nk, rf_nt, rd_fa, rd_af, rd_fl, rd_al, rd_lf, rd_la, rd_leq, rd_lne, rd_fr, rd_ar, ne_eq, Nat.reduceEqDiff, not_false_eq_true])
                    have r3_ : ((sm_aI (sm_aI (sm_aI (sm_aI (sm_aI S_ 247 0 (S_.2.2.1 243 0 p_.toNat).toNat (S_.2.2.1 247 0 (S_.2.2.1 243 0 p_.toNat).toNat)) 248 0 (S_.2.2.1 243 0 p_.toNat).toNat (S_.2.2.1 248 0 (S_.2.2.1 243 0 p_.toNat).toNat)) 249 0 (S_.2.2.1 243 0 p_.toNat).toNat (S_.2.2.1 245 0 p_.toNat)) 250 0 (S_.2.2.1 243 0 p_.toNat).toNat (S_.2.2.1 250 0 (S_.2.2.1 243 0 p_.toNat).toNat)) 246 0 (S_.2.2.1 243 0 p_.toNat).toNat ((S_.2.2.1 246 0 (S_.2.2.1 243 0 p_.toNat).toNat) + 1))).2.2.1 243 0 = S_.2.2.1 243 0 := by (funext j9_; (try simp only [rd_eq, rd_ne, rf_eq, rf_nk, rf_nt, rd_fa, rd_af, rd_fl, rd_al, rd_lf, rd_la, rd_leq, rd_lne, rd_fr, rd_ar, ne_eq, Nat.reduceEqDiff, not_false_eq_true]))
                    have r9_ : ((sm_aI (sm_aI (sm_aI (sm_aI (sm_aI S_ 247 0 (S_.2.2.1 243 0 p_.toNat).toNat (S_.2.2.1 247 0 (S_.2.2.1 243 0 p_.toNat).toNat)) 248 0 (S_.2.2.1 243 0 p_.toNat).toNat (S_.2.2.1 248 0 (S_.2.2.1 243 0 p_.toNat).toNat)) 249 0 (S_.2.2.1 243 0 p_.toNat).toNat (S_.2.2.1 245 0 p_.toNat)) 250 0 (S_.2.2.1 243 0 p_.toNat).toNat (S_.2.2.1 250 0 (S_.2.2.1 243 0 p_.toNat).toNat)) 246 0 (S_.2.2.1 243 0 p_.toNat).toNat ((S_.2.2.1 246 0 (S_.2.2.1 243 0 p_.toNat).toNat) + 1))).1 13 0 159 = S_.1 13 0 159 := by (try simp only [rd_eq, rd_ne, rf_eq, rf_nk, rf_nt, rd_fa, rd_af, rd_fl, rd_al, rd_lf, rd_la, rd_leq, rd_lne, rd_fr, rd_ar, ne_eq, Nat.reduceEqDiff, not_false_eq_true])
                    intro n9_ h9_ h8_
                    rw [r6_]
                    have w9_ := hz_ n9_ h9_ h8_
                    split
                    · omega
                    · omega
                  · have r6_ : ∀ j9_, ((sm_aI (sm_aI (sm_aI (sm_aI (sm_aI S_ 247 0 (S_.2.2.1 243 0 p_.toNat).toNat (S_.2.2.1 247 0 (S_.2.2.1 243 0 p_.toNat).toNat)) 248 0 (S_.2.2.1 243 0 p_.toNat).toNat (S_.2.2.1 248 0 (S_.2.2.1 243 0 p_.toNat).toNat)) 249 0 (S_.2.2.1 243 0 p_.toNat).toNat (S_.2.2.1 245 0 p_.toNat)) 250 0 (S_.2.2.1 243 0 p_.toNat).toNat (S_.2.2.1 250 0 (S_.2.2.1 243 0 p_.toNat).toNat)) 246 0 (S_.2.2.1 243 0 p_.toNat).toNat ((S_.2.2.1 246 0 (S_.2.2.1 243 0 p_.toNat).toNat) + 1))).2.2.1 246 0 j9_ = if j9_ = (S_.2.2.1 243 0 p_.toNat).toNat then S_.2.2.1 246 0 (S_.2.2.1 243 0 p_.toNat).toNat + 1 else S_.2.2.1 246 0 j9_ := fun j9_ => by (try simp only [rd_eq, rd_ne, rf_eq, rf_nk, rf_nt, rd_fa, rd_af, rd_fl, rd_al, rd_lf, rd_la, rd_leq, rd_lne, rd_fr, rd_ar, ne_eq, Nat.reduceEqDiff, not_false_eq_true])
                    have r3_ : ((sm_aI (sm_aI (sm_aI (sm_aI (sm_aI S_ 247 0 (S_.2.2.1 243 0 p_.toNat).toNat (S_.2.2.1 247 0 (S_.2.2.1 243 0 p_.toNat).toNat)) 248 0 (S_.2.2.1 243 0 p_.toNat).toNat (S_.2.2.1 248 0 (S_.2.2.1 243 0 p_.toNat).toNat)) 249 0 (S_.2.2.1 243 0 p_.toNat).toNat (S_.2.2.1 245 0 p_.toNat)) 250 0 (S_.2.2.1 243 0 p_.toNat).toNat (S_.2.2.1 250 0 (S_.2.2.1 243 0 p_.toNat).toNat)) 246 0 (S_.2.2.1 243 0 p_.toNat).toNat ((S_.2.2.1 246 0 (S_.2.2.1 243 0 p_.toNat).toNat) + 1))).2.2.1 243 0 = S_.2.2.1 243 0 := by (funext j9_; (try simp only [rd_eq, rd_ne, rf_eq, rf_nk, rf_nt, rd_fa, rd_af, rd_fl, rd_al, rd_lf, rd_la, rd_leq, rd_lne, rd_fr, rd_ar, ne_eq, Nat.reduceEqDiff, not_false_eq_true]))
                    have r9_ : ((sm_aI (sm_aI (sm_aI (sm_aI (sm_aI S_ 247 0 (S_.2.2.1 243 0 p_.toNat).toNat (S_.2.2.1 247 0 (S_.2.2.1 243 0 p_.toNat).toNat)) 248 0 (S_.2.2.1 243 0 p_.toNat).toNat (S_.2.2.1 248 0 (S_.2.2.1 243 0 p_.toNat).toNat)) 249 0 (S_.2.2.1 243 0 p_.toNat).toNat (S_.2.2.1 245 0 p_.toNat)) 250 0 (S_.2.2.1 243 0 p_.toNat).toNat (S_.2.2.1 250 0 (S_.2.2.1 243 0 p_.toNat).toNat)) 246 0 (S_.2.2.1 243 0 p_.toNat).toNat ((S_.2.2.1 246 0 (S_.2.2.1 243 0 p_.toNat).toNat) + 1))).1 13 0 159 = S_.1 13 0 159 := by (try simp only [rd_eq, rd_ne, rf_eq, rf_nk, rf_nt, rd_fa, rd_af, rd_fl, rd_al, rd_lf, rd_la, rd_leq, rd_lne, rd_fr, rd_ar, ne_eq, Nat.reduceEqDiff, not_false_eq_true])
                    intro n9_ h9_ h8_ y9_
                    rw [r6_] at y9_
                    rw [r3_]
                    by_cases q9_ : n9_.toNat = (S_.2.2.1 243 0 p_.toNat).toNat
                    · exact ⟨p_, by omega, by omega, by omega⟩
                    · rw [if_neg q9_] at y9_
                      obtain ⟨k9_, u1_, u2_, u3_⟩ := hx_ n9_ h9_ h8_ y9_
                      exact ⟨k9_, u1_, by omega, u3_⟩
                  · omega
                · have cx33_ : ¬ ((S_.2.2.1 245 0 p_.toNat) ≤ (S_.2.2.1 250 0 (S_.2.2.1 243 0 p_.toNat).toNat)) := of_decide_eq_false cx33_
                  refine sm_T_go 3 (c1 := (215, [some (.inr (.inr (some (13, 0)))), some (.inl c_), some (.inl p_), some (.inl (S_.2.2.1 243 0 p_.toNat)), some (.inl 0)], [.inl p_, .inr (.inr (some (245, 0))), .inl (S_.2.2.1 243 0 p_.toNat), .inr (.inr (some (250, 0)))], sm_aI (sm_aI (sm_aI S_ 247 0 (S_.2.2.1 243 0 p_.toNat).toNat (S_.2.2.1 247 0 (S_.2.2.1 243 0 p_.toNat).toNat)) 248 0 (S_.2.2.1 243 0 p_.toNat).toNat (S_.2.2.1 248 0 (S_.2.2.1 243 0 p_.toNat).toNat)) 249 0 (S_.2.2.1 243 0 p_.toNat).toNat (S_.2.2.1 245 0 p_.toNat))) rfl ?_
                  refine sm_T_iald (n := 700) rfl rfl (by omega) (by omega) ?_
                  refine sm_T_go 1 (c1 := (225, [some (.inr (.inr (some (13, 0)))), some (.inl c_), some (.inl p_), some (.inl (S_.2.2.1 243 0 p_.toNat)), some (.inl 0)], [.inl (S_.2.2.1 245 0 p_.toNat), .inl (S_.2.2.1 243 0 p_.toNat), .inr (.inr (some (250, 0)))], sm_aI (sm_aI (sm_aI S_ 247 0 (S_.2.2.1 243 0 p_.toNat).toNat (S_.2.2.1 247 0 (S_.2.2.1 243 0 p_.toNat).toNat)) 248 0 (S_.2.2.1 243 0 p_.toNat).toNat (S_.2.2.1 248 0 (S_.2.2.1 243 0 p_.toNat).toNat)) 249 0 (S_.2.2.1 243 0 p_.toNat).toNat (S_.2.2.1 245 0 p_.toNat))) rfl ?_
                  refine sm_T_iast (n := 256) rfl rfl (by omega) (by omega) ?_
                  have hIx38_ : gi (sm_aI (sm_aI (sm_aI (sm_aI S_ 247 0 (S_.2.2.1 243 0 p_.toNat).toNat (S_.2.2.1 247 0 (S_.2.2.1 243 0 p_.toNat).toNat)) 248 0 (S_.2.2.1 243 0 p_.toNat).toNat (S_.2.2.1 248 0 (S_.2.2.1 243 0 p_.toNat).toNat)) 249 0 (S_.2.2.1 243 0 p_.toNat).toNat (S_.2.2.1 245 0 p_.toNat)) 250 0 (S_.2.2.1 243 0 p_.toNat).toNat (S_.2.2.1 245 0 p_.toNat)) := gi_aI hIx30_ (show 0 ≤ (S_.2.2.1 245 0 p_.toNat) ∧ (S_.2.2.1 245 0 p_.toNat) ≤ 40 from ⟨by omega, by omega⟩)
                  have hFx39_ : ai_fr (sx_W vw_440) S0_ (sm_aI (sm_aI (sm_aI (sm_aI S_ 247 0 (S_.2.2.1 243 0 p_.toNat).toNat (S_.2.2.1 247 0 (S_.2.2.1 243 0 p_.toNat).toNat)) 248 0 (S_.2.2.1 243 0 p_.toNat).toNat (S_.2.2.1 248 0 (S_.2.2.1 243 0 p_.toNat).toNat)) 249 0 (S_.2.2.1 243 0 p_.toNat).toNat (S_.2.2.1 245 0 p_.toNat)) 250 0 (S_.2.2.1 243 0 p_.toNat).toNat (S_.2.2.1 245 0 p_.toNat)) := ai_fr_tr hFx31_ (ai_fr_aI rfl)
                  refine sm_T_go 4 (c1 := (232, [some (.inr (.inr (some (13, 0)))), some (.inl c_), some (.inl p_), some (.inl (S_.2.2.1 243 0 p_.toNat)), some (.inl 0)], [.inl (S_.2.2.1 243 0 p_.toNat), .inr (.inr (some (246, 0))), .inl (S_.2.2.1 243 0 p_.toNat), .inr (.inr (some (246, 0)))], sm_aI (sm_aI (sm_aI (sm_aI S_ 247 0 (S_.2.2.1 243 0 p_.toNat).toNat (S_.2.2.1 247 0 (S_.2.2.1 243 0 p_.toNat).toNat)) 248 0 (S_.2.2.1 243 0 p_.toNat).toNat (S_.2.2.1 248 0 (S_.2.2.1 243 0 p_.toNat).toNat)) 249 0 (S_.2.2.1 243 0 p_.toNat).toNat (S_.2.2.1 245 0 p_.toNat)) 250 0 (S_.2.2.1 243 0 p_.toNat).toNat (S_.2.2.1 245 0 p_.toNat))) rfl ?_
                  refine sm_T_iald (n := 256) rfl rfl (by omega) (by omega) ?_
                  refine sm_T_go 1 (c1 := (234, [some (.inr (.inr (some (13, 0)))), some (.inl c_), some (.inl p_), some (.inl (S_.2.2.1 243 0 p_.toNat)), some (.inl 0)], [.inl 1, .inl (S_.2.2.1 246 0 (S_.2.2.1 243 0 p_.toNat).toNat), .inl (S_.2.2.1 243 0 p_.toNat), .inr (.inr (some (246, 0)))], sm_aI (sm_aI (sm_aI (sm_aI S_ 247 0 (S_.2.2.1 243 0 p_.toNat).toNat (S_.2.2.1 247 0 (S_.2.2.1 243 0 p_.toNat).toNat)) 248 0 (S_.2.2.1 243 0 p_.toNat).toNat (S_.2.2.1 248 0 (S_.2.2.1 243 0 p_.toNat).toNat)) 249 0 (S_.2.2.1 243 0 p_.toNat).toNat (S_.2.2.1 245 0 p_.toNat)) 250 0 (S_.2.2.1 243 0 p_.toNat).toNat (S_.2.2.1 245 0 p_.toNat))) rfl ?_
                  refine sm_T_bin (w := (S_.2.2.1 246 0 (S_.2.2.1 243 0 p_.toNat).toNat) + 1) rfl (bi_add (by omega) (by omega) (by omega)) ?_ -- pc_ 234
                  refine sm_T_iast (n := 256) rfl rfl (by omega) (by omega) ?_
                  have hIx40_ : gi (sm_aI (sm_aI (sm_aI (sm_aI (sm_aI S_ 247 0 (S_.2.2.1 243 0 p_.toNat).toNat (S_.2.2.1 247 0 (S_.2.2.1 243 0 p_.toNat).toNat)) 248 0 (S_.2.2.1 243 0 p_.toNat).toNat (S_.2.2.1 248 0 (S_.2.2.1 243 0 p_.toNat).toNat)) 249 0 (S_.2.2.1 243 0 p_.toNat).toNat (S_.2.2.1 245 0 p_.toNat)) 250 0 (S_.2.2.1 243 0 p_.toNat).toNat (S_.2.2.1 245 0 p_.toNat)) 246 0 (S_.2.2.1 243 0 p_.toNat).toNat ((S_.2.2.1 246 0 (S_.2.2.1 243 0 p_.toNat).toNat) + 1)) := gi_aI hIx38_ (show 0 ≤ (S_.2.2.1 246 0 (S_.2.2.1 243 0 p_.toNat).toNat) + 1 ∧ (S_.2.2.1 246 0 (S_.2.2.1 243 0 p_.toNat).toNat) + 1 ≤ 700 from ⟨by omega, by omega⟩)
                  have hFx41_ : ai_fr (sx_W vw_440) S0_ (sm_aI (sm_aI (sm_aI (sm_aI (sm_aI S_ 247 0 (S_.2.2.1 243 0 p_.toNat).toNat (S_.2.2.1 247 0 (S_.2.2.1 243 0 p_.toNat).toNat)) 248 0 (S_.2.2.1 243 0 p_.toNat).toNat (S_.2.2.1 248 0 (S_.2.2.1 243 0 p_.toNat).toNat)) 249 0 (S_.2.2.1 243 0 p_.toNat).toNat (S_.2.2.1 245 0 p_.toNat)) 250 0 (S_.2.2.1 243 0 p_.toNat).toNat (S_.2.2.1 245 0 p_.toNat)) 246 0 (S_.2.2.1 243 0 p_.toNat).toNat ((S_.2.2.1 246 0 (S_.2.2.1 243 0 p_.toNat).toNat) + 1)) := ai_fr_tr hFx39_ (ai_fr_aI rfl)
                  refine sm_T_inc (a := 2) (z := 1) (v := p_) (w := p_ + 1) rfl rfl (by omega) (by omega) (by omega) ?_ -- pc_ 236
                  refine sm_T_go 1 (c1 := (31, [some (.inr (.inr (some (13, 0)))), some (.inl c_), some (.inl (p_ + 1)), some (.inl (S_.2.2.1 243 0 p_.toNat)), some (.inl 0)], [], sm_aI (sm_aI (sm_aI (sm_aI (sm_aI S_ 247 0 (S_.2.2.1 243 0 p_.toNat).toNat (S_.2.2.1 247 0 (S_.2.2.1 243 0 p_.toNat).toNat)) 248 0 (S_.2.2.1 243 0 p_.toNat).toNat (S_.2.2.1 248 0 (S_.2.2.1 243 0 p_.toNat).toNat)) 249 0 (S_.2.2.1 243 0 p_.toNat).toNat (S_.2.2.1 245 0 p_.toNat)) 250 0 (S_.2.2.1 243 0 p_.toNat).toNat (S_.2.2.1 245 0 p_.toNat)) 246 0 (S_.2.2.1 243 0 p_.toNat).toNat ((S_.2.2.1 246 0 (S_.2.2.1 243 0 p_.toNat).toNat) + 1))) rfl ?_
                  refine sm_T_wk [some (.inr (.inr (some (13, 0)))), some (.inl c_), some (.inl (p_ + 1)), none, none] (by exact ⟨rfl, rfl, rfl, trivial⟩) ?_
                  refine ih_.2 (p_ + 1) (sm_aI (sm_aI (sm_aI (sm_aI (sm_aI S_ 247 0 (S_.2.2.1 243 0 p_.toNat).toNat (S_.2.2.1 247 0 (S_.2.2.1 243 0 p_.toNat).toNat)) 248 0 (S_.2.2.1 243 0 p_.toNat).toNat (S_.2.2.1 248 0 (S_.2.2.1 243 0 p_.toNat).toNat)) 249 0 (S_.2.2.1 243 0 p_.toNat).toNat (S_.2.2.1 245 0 p_.toNat)) 250 0 (S_.2.2.1 243 0 p_.toNat).toNat (S_.2.2.1 245 0 p_.toNat)) 246 0 (S_.2.2.1 243 0 p_.toNat).toNat ((S_.2.2.1 246 0 (S_.2.2.1 243 0 p_.toNat).toNat) + 1)) hIx40_ hFx41_ ⟨?_, ?_, ?_, ?_, trivial⟩ ?_
                  · have r6_ : ∀ j9_, ((sm_aI (sm_aI (sm_aI (sm_aI (sm_aI S_ 247 0 (S_.2.2.1 243 0 p_.toNat).toNat (S_.2.2.1 247 0 (S_.2.2.1 243 0 p_.toNat).toNat)) 248 0 (S_.2.2.1 243 0 p_.toNat).toNat (S_.2.2.1 248 0 (S_.2.2.1 243 0 p_.toNat).toNat)) 249 0 (S_.2.2.1 243 0 p_.toNat).toNat (S_.2.2.1 245 0 p_.toNat)) 250 0 (S_.2.2.1 243 0 p_.toNat).toNat (S_.2.2.1 245 0 p_.toNat)) 246 0 (S_.2.2.1 243 0 p_.toNat).toNat ((S_.2.2.1 246 0 (S_.2.2.1 243 0 p_.toNat).toNat) + 1))).2.2.1 246 0 j9_ = if j9_ = (S_.2.2.1 243 0 p_.toNat).toNat then S_.2.2.1 246 0 (S_.2.2.1 243 0 p_.toNat).toNat + 1 else S_.2.2.1 246 0 j9_ := fun j9_ => by (try simp only [rd_eq, rd_ne, rf_eq, rf_nk, rf_nt, rd_fa, rd_af, rd_fl, rd_al, rd_lf, rd_la, rd_leq, rd_lne, rd_fr, rd_ar, ne_eq, Nat.reduceEqDiff, not_false_eq_true])
                    have r3_ : ((sm_aI (sm_aI (sm_aI (sm_aI (sm_aI S_ 247 0 (S_.2.2.1 243 0 p_.toNat).toNat (S_.2.2.1 247 0 (S_.2.2.1 243 0 p_.toNat).toNat)) 248 0 (S_.2.2.1 243 0 p_.toNat).toNat (S_.2.2.1 248 0 (S_.2.2.1 243 0 p_.toNat).toNat)) 249 0 (S_.2.2.1 243 0 p_.toNat).toNat (S_.2.2.1 245 0 p_.toNat)) 250 0 (S_.2.2.1 243 0 p_.toNat).toNat (S_.2.2.1 245 0 p_.toNat)) 246 0 (S_.2.2.1 243 0 p_.toNat).toNat ((S_.2.2.1 246 0 (S_.2.2.1 243 0 p_.toNat).toNat) + 1))).2.2.1 243 0 = S_.2.2.1 243 0 := by (funext j9_; (try simp only [rd_eq, rd_ne, rf_eq, rf_nk, rf_nt, rd_fa, rd_af, rd_fl, rd_al, rd_lf, rd_la, rd_leq, rd_lne, rd_fr, rd_ar, ne_eq, Nat.reduceEqDiff, not_false_eq_true]))
                    have r9_ : ((sm_aI (sm_aI (sm_aI (sm_aI (sm_aI S_ 247 0 (S_.2.2.1 243 0 p_.toNat).toNat (S_.2.2.1 247 0 (S_.2.2.1 243 0 p_.toNat).toNat)) 248 0 (S_.2.2.1 243 0 p_.toNat).toNat (S_.2.2.1 248 0 (S_.2.2.1 243 0 p_.toNat).toNat)) 249 0 (S_.2.2.1 243 0 p_.toNat).toNat (S_.2.2.1 245 0 p_.toNat)) 250 0 (S_.2.2.1 243 0 p_.toNat).toNat (S_.2.2.1 245 0 p_.toNat)) 246 0 (S_.2.2.1 243 0 p_.toNat).toNat ((S_.2.2.1 246 0 (S_.2.2.1 243 0 p_.toNat).toNat) + 1))).1 13 0 159 = S_.1 13 0 159 := by (try simp only [rd_eq, rd_ne, rf_eq, rf_nk, rf_nt, rd_fa, rd_af, rd_fl, rd_al, rd_lf, rd_la, rd_leq, rd_lne, rd_fr, rd_ar, ne_eq, Nat.reduceEqDiff, not_false_eq_true])
                    rw [r9_]
                    omega
                  · have r6_ : ∀ j9_, ((sm_aI (sm_aI (sm_aI (sm_aI (sm_aI S_ 247 0 (S_.2.2.1 243 0 p_.toNat).toNat (S_.2.2.1 247 0 (S_.2.2.1 243 0 p_.toNat).toNat)) 248 0 (S_.2.2.1 243 0 p_.toNat).toNat (S_.2.2.1 248 0 (S_.2.2.1 243 0 p_.toNat).toNat)) 249 0 (S_.2.2.1 243 0 p_.toNat).toNat (S_.2.2.1 245 0 p_.toNat)) 250 0 (S_.2.2.1 243 0 p_.toNat).toNat (S_.2.2.1 245 0 p_.toNat)) 246 0 (S_.2.2.1 243 0 p_.toNat).toNat ((S_.2.2.1 246 0 (S_.2.2.1 243 0 p_.toNat).toNat) + 1))).2.2.1 246 0 j9_ = if j9_ = (S_.2.2.1 243 0 p_.toNat).toNat then S_.2.2.1 246 0 (S_.2.2.1 243 0 p_.toNat).toNat + 1 else S_.2.2.1 246 0 j9_ := fun j9_ => by (try simp only [rd_eq, rd_ne, rf_eq, rf_nk, rf_nt, rd_fa, rd_af, rd_fl, rd_al, rd_lf, rd_la, rd_leq, rd_lne, rd_fr, rd_ar, ne_eq, Nat.reduceEqDiff, not_false_eq_true])
                    have r3_ : ((sm_aI (sm_aI (sm_aI (sm_aI (sm_aI S_ 247 0 (S_.2.2.1 243 0 p_.toNat).toNat (S_.2.2.1 247 0 (S_.2.2.1 243 0 p_.toNat).toNat)) 248 0 (S_.2.2.1 243 0 p_.toNat).toNat (S_.2.2.1 248 0 (S_.2.2.1 243 0 p_.toNat).toNat)) 249 0 (S_.2.2.1 243 0 p_.toNat).toNat (S_.2.2.1 245 0 p_.toNat)) 250 0 (S_.2.2.1 243 0 p_.toNat).toNat (S_.2.2.1 245 0 p_.toNat)) 246 0 (S_.2.2.1 243 0 p_.toNat).toNat ((S_.2.2.1 246 0 (S_.2.2.1 243 0 p_.toNat).toNat) + 1))).2.2.1 243 0 = S_.2.2.1 243 0 := by (funext j9_; (try simp only [rd_eq, rd_ne, rf_eq, rf_nk, rf_nt, rd_fa, rd_af, rd_fl, rd_al, rd_lf, rd_la, rd_leq, rd_lne, rd_fr, rd_ar, ne_eq, Nat.reduceEqDiff, not_false_eq_true]))
                    have r9_ : ((sm_aI (sm_aI (sm_aI (sm_aI (sm_aI S_ 247 0 (S_.2.2.1 243 0 p_.toNat).toNat (S_.2.2.1 247 0 (S_.2.2.1 243 0 p_.toNat).toNat)) 248 0 (S_.2.2.1 243 0 p_.toNat).toNat (S_.2.2.1 248 0 (S_.2.2.1 243 0 p_.toNat).toNat)) 249 0 (S_.2.2.1 243 0 p_.toNat).toNat (S_.2.2.1 245 0 p_.toNat)) 250 0 (S_.2.2.1 243 0 p_.toNat).toNat (S_.2.2.1 245 0 p_.toNat)) 246 0 (S_.2.2.1 243 0 p_.toNat).toNat ((S_.2.2.1 246 0 (S_.2.2.1 243 0 p_.toNat).toNat) + 1))).1 13 0 159 = S_.1 13 0 159 := by (try simp only [rd_eq, rd_ne, rf_eq, rf_nk, rf_nt, rd_fa, rd_af, rd_fl, rd_al, rd_lf, rd_la, rd_leq, rd_lne, rd_fr, rd_ar, ne_eq, Nat.reduceEqDiff, not_false_eq_true])
                    intro k9_ k0_ k1_
                    rw [r9_] at k1_
                    have w9_ := hv_ k9_ k0_ k1_
                    (try simp only [rd_eq, rd_ne, rf_eq, rf_nk, rf_nt, rd_fa, rd_af, rd_fl, rd_al, rd_lf, rd_la, rd_leq, rd_lne, rd_fr, rd_ar, ne_eq, Nat.reduceEqDiff, not_false_eq_true])
                    exact w9_
                  · have r6_ : ∀ j9_, ((sm_aI (sm_aI (sm_aI (sm_aI (sm_aI S_ 247 0 (S_.2.2.1 243 0 p_.toNat).toNat (S_.2.2.1 247 0 (S_.2.2.1 243 0 p_.toNat).toNat)) 248 0 (S_.2.2.1 243 0 p_.toNat).toNat (S_.2.2.1 248 0 (S_.2.2.1 243 0 p_.toNat).toNat)) 249 0 (S_.2.2.1 243 0 p_.toNat).toNat (S_.2.2.1 245 0 p_.toNat)) 250 0 (S_.2.2.1 243 0 p_.toNat).toNat (S_.2.2.1 245 0 p_.toNat)) 246 0 (S_.2.2.1 243 0 p_.toNat).toNat ((S_.2.2.1 246 0 (S_.2.2.1 243 0 p_.toNat).toNat) + 1))).2.2.1 246 0 j9_ = if j9_ = (S_.2.2.1 243 0 p_.toNat).toNat then S_.2.2.1 246 0 (S_.2.2.1 243 0 p_.toNat).toNat + 1 else S_.2.2.1 246 0 j9_ := fun j9_ => by (try simp only [rd_eq, rd_ne, rf_eq, rf_nk, rf_nt, rd_fa, rd_af, rd_fl, rd_al, rd_lf, rd_la, rd_leq, rd_lne, rd_fr, rd_ar, ne_eq, Nat.reduceEqDiff, not_false_eq_true])
                    have r3_ : ((sm_aI (sm_aI (sm_aI (sm_aI (sm_aI S_ 247 0 (S_.2.2.1 243 0 p_.toNat).toNat (S_.2.2.1 247 0 (S_.2.2.1 243 0 p_.toNat).toNat)) 248 0 (S_.2.2.1 243 0 p_.toNat).toNat (S_.2.2.1 248 0 (S_.2.2.1 243 0 p_.toNat).toNat)) 249 0 (S_.2.2.1 243 0 p_.toNat).toNat (S_.2.2.1 245 0 p_.toNat)) 250 0 (S_.2.2.1 243 0 p_.toNat).toNat (S_.2.2.1 245 0 p_.toNat)) 246 0 (S_.2.2.1 243 0 p_.toNat).toNat ((S_.2.2.1 246 0 (S_.2.2.1 243 0 p_.toNat).toNat) + 1))).2.2.1 243 0 = S_.2.2.1 243 0 := by (funext j9_; (try simp only [rd_eq, rd_ne, rf_eq, rf_nk, rf_nt, rd_fa, rd_af, rd_fl, rd_al, rd_lf, rd_la, rd_leq, rd_lne, rd_fr, rd_ar, ne_eq, Nat.reduceEqDiff, not_false_eq_true]))
                    have r9_ : ((sm_aI (sm_aI (sm_aI (sm_aI (sm_aI S_ 247 0 (S_.2.2.1 243 0 p_.toNat).toNat (S_.2.2.1 247 0 (S_.2.2.1 243 0 p_.toNat).toNat)) 248 0 (S_.2.2.1 243 0 p_.toNat).toNat (S_.2.2.1 248 0 (S_.2.2.1 243 0 p_.toNat).toNat)) 249 0 (S_.2.2.1 243 0 p_.toNat).toNat (S_.2.2.1 245 0 p_.toNat)) 250 0 (S_.2.2.1 243 0 p_.toNat).toNat (S_.2.2.1 245 0 p_.toNat)) 246 0 (S_.2.2.1 243 0 p_.toNat).toNat ((S_.2.2.1 246 0 (S_.2.2.1 243 0 p_.toNat).toNat) + 1))).1 13 0 159 = S_.1 13 0 159 := by (try simp only [rd_eq, rd_ne, rf_eq, rf_nk, rf_nt, rd_fa, rd_af, rd_fl, rd_al, rd_lf, rd_la, rd_leq, rd_lne, rd_fr, rd_ar, ne_eq, Nat.reduceEqDiff, not_false_eq_true])
                    intro n9_ h9_ h8_
                    rw [r6_]
                    have w9_ := hz_ n9_ h9_ h8_
                    split
                    · omega
                    · omega
                  · have r6_ : ∀ j9_, ((sm_aI (sm_aI (sm_aI (sm_aI (sm_aI S_ 247 0 (S_.2.2.1 243 0 p_.toNat).toNat (S_.2.2.1 247 0 (S_.2.2.1 243 0 p_.toNat).toNat)) 248 0 (S_.2.2.1 243 0 p_.toNat).toNat (S_.2.2.1 248 0 (S_.2.2.1 243 0 p_.toNat).toNat)) 249 0 (S_.2.2.1 243 0 p_.toNat).toNat (S_.2.2.1 245 0 p_.toNat)) 250 0 (S_.2.2.1 243 0 p_.toNat).toNat (S_.2.2.1 245 0 p_.toNat)) 246 0 (S_.2.2.1 243 0 p_.toNat).toNat ((S_.2.2.1 246 0 (S_.2.2.1 243 0 p_.toNat).toNat) + 1))).2.2.1 246 0 j9_ = if j9_ = (S_.2.2.1 243 0 p_.toNat).toNat then S_.2.2.1 246 0 (S_.2.2.1 243 0 p_.toNat).toNat + 1 else S_.2.2.1 246 0 j9_ := fun j9_ => by (try simp only [rd_eq, rd_ne, rf_eq, rf_nk, rf_nt, rd_fa, rd_af, rd_fl, rd_al, rd_lf, rd_la, rd_leq, rd_lne, rd_fr, rd_ar, ne_eq, Nat.reduceEqDiff, not_false_eq_true])
                    have r3_ : ((sm_aI (sm_aI (sm_aI (sm_aI (sm_aI S_ 247 0 (S_.2.2.1 243 0 p_.toNat).toNat (S_.2.2.1 247 0 (S_.2.2.1 243 0 p_.toNat).toNat)) 248 0 (S_.2.2.1 243 0 p_.toNat).toNat (S_.2.2.1 248 0 (S_.2.2.1 243 0 p_.toNat).toNat)) 249 0 (S_.2.2.1 243 0 p_.toNat).toNat (S_.2.2.1 245 0 p_.toNat)) 250 0 (S_.2.2.1 243 0 p_.toNat).toNat (S_.2.2.1 245 0 p_.toNat)) 246 0 (S_.2.2.1 243 0 p_.toNat).toNat ((S_.2.2.1 246 0 (S_.2.2.1 243 0 p_.toNat).toNat) + 1))).2.2.1 243 0 = S_.2.2.1 243 0 := by (funext j9_; (try simp only [rd_eq, rd_ne, rf_eq, rf_nk, rf_nt, rd_fa, rd_af, rd_fl, rd_al, rd_lf, rd_la, rd_leq, rd_lne, rd_fr, rd_ar, ne_eq, Nat.reduceEqDiff, not_false_eq_true]))
                    have r9_ : ((sm_aI (sm_aI (sm_aI (sm_aI (sm_aI S_ 247 0 (S_.2.2.1 243 0 p_.toNat).toNat (S_.2.2.1 247 0 (S_.2.2.1 243 0 p_.toNat).toNat)) 248 0 (S_.2.2.1 243 0 p_.toNat).toNat (S_.2.2.1 248 0 (S_.2.2.1 243 0 p_.toNat).toNat)) 249 0 (S_.2.2.1 243 0 p_.toNat).toNat (S_.2.2.1 245 0 p_.toNat)) 250 0 (S_.2.2.1 243 0 p_.toNat).toNat (S_.2.2.1 245 0 p_.toNat)) 246 0 (S_.2.2.1 243 0 p_.toNat).toNat ((S_.2.2.1 246 0 (S_.2.2.1 243 0 p_.toNat).toNat) + 1))).1 13 0 159 = S_.1 13 0 159 := by (try simp only [rd_eq, rd_ne, rf_eq, rf_nk, rf_nt, rd_fa, rd_af, rd_fl, rd_al, rd_lf, rd_la, rd_leq, rd_lne, rd_fr, rd_ar, ne_eq, Nat.reduceEqDiff, not_false_eq_true])
                    intro n9_ h9_ h8_ y9_
                    rw [r6_] at y9_
                    rw [r3_]
                    by_cases q9_ : n9_.toNat = (S_.2.2.1 243 0 p_.toNat).toNat
                    · exact ⟨p_, by omega, by omega, by omega⟩
                    · rw [if_neg q9_] at y9_
                      obtain ⟨k9_, u1_, u2_, u3_⟩ := hx_ n9_ h9_ h8_ y9_
                      exact ⟨k9_, u1_, by omega, u3_⟩
                  · omega
            · have cx12_ : ¬ ((S_.2.2.1 244 0 p_.toNat) ≤ (S_.2.2.1 248 0 (S_.2.2.1 243 0 p_.toNat).toNat)) := of_decide_eq_false cx12_
              refine sm_T_go 3 (c1 := (133, [some (.inr (.inr (some (13, 0)))), some (.inl c_), some (.inl p_), some (.inl (S_.2.2.1 243 0 p_.toNat)), some (.inl 0)], [.inl p_, .inr (.inr (some (244, 0))), .inl (S_.2.2.1 243 0 p_.toNat), .inr (.inr (some (248, 0)))], sm_aI S_ 247 0 (S_.2.2.1 243 0 p_.toNat).toNat (S_.2.2.1 247 0 (S_.2.2.1 243 0 p_.toNat).toNat))) rfl ?_
              refine sm_T_iald (n := 700) rfl rfl (by omega) (by omega) ?_
              refine sm_T_go 1 (c1 := (143, [some (.inr (.inr (some (13, 0)))), some (.inl c_), some (.inl p_), some (.inl (S_.2.2.1 243 0 p_.toNat)), some (.inl 0)], [.inl (S_.2.2.1 244 0 p_.toNat), .inl (S_.2.2.1 243 0 p_.toNat), .inr (.inr (some (248, 0)))], sm_aI S_ 247 0 (S_.2.2.1 243 0 p_.toNat).toNat (S_.2.2.1 247 0 (S_.2.2.1 243 0 p_.toNat).toNat))) rfl ?_
              refine sm_T_iast (n := 256) rfl rfl (by omega) (by omega) ?_
              have hIx42_ : gi (sm_aI (sm_aI S_ 247 0 (S_.2.2.1 243 0 p_.toNat).toNat (S_.2.2.1 247 0 (S_.2.2.1 243 0 p_.toNat).toNat)) 248 0 (S_.2.2.1 243 0 p_.toNat).toNat (S_.2.2.1 244 0 p_.toNat)) := gi_aI hIx9_ (show 0 ≤ (S_.2.2.1 244 0 p_.toNat) ∧ (S_.2.2.1 244 0 p_.toNat) ≤ 200 from ⟨by omega, by omega⟩)
              have hFx43_ : ai_fr (sx_W vw_440) S0_ (sm_aI (sm_aI S_ 247 0 (S_.2.2.1 243 0 p_.toNat).toNat (S_.2.2.1 247 0 (S_.2.2.1 243 0 p_.toNat).toNat)) 248 0 (S_.2.2.1 243 0 p_.toNat).toNat (S_.2.2.1 244 0 p_.toNat)) := ai_fr_tr hFx10_ (ai_fr_aI rfl)
              refine sm_T_go 8 (c1 := (159, [some (.inr (.inr (some (13, 0)))), some (.inl c_), some (.inl p_), some (.inl (S_.2.2.1 243 0 p_.toNat)), some (.inl 0)], [.inl p_, .inr (.inr (some (245, 0))), .inl (S_.2.2.1 243 0 p_.toNat), .inr (.inr (some (249, 0)))], sm_aI (sm_aI S_ 247 0 (S_.2.2.1 243 0 p_.toNat).toNat (S_.2.2.1 247 0 (S_.2.2.1 243 0 p_.toNat).toNat)) 248 0 (S_.2.2.1 243 0 p_.toNat).toNat (S_.2.2.1 244 0 p_.toNat))) rfl ?_
              refine sm_T_iald (n := 700) rfl rfl (by omega) (by omega) ?_
              have bx44_ : 0 ≤ S_.2.2.1 245 0 p_.toNat ∧ S_.2.2.1 245 0 p_.toNat ≤ 40 := hI_.2 245 0 _
              refine sm_T_go 3 (c1 := (165, [some (.inr (.inr (some (13, 0)))), some (.inl c_), some (.inl p_), some (.inl (S_.2.2.1 243 0 p_.toNat)), some (.inl 0)], [.inl (S_.2.2.1 243 0 p_.toNat), .inr (.inr (some (249, 0))), .inl (S_.2.2.1 245 0 p_.toNat), .inl (S_.2.2.1 243 0 p_.toNat), .inr (.inr (some (249, 0)))], sm_aI (sm_aI S_ 247 0 (S_.2.2.1 243 0 p_.toNat).toNat (S_.2.2.1 247 0 (S_.2.2.1 243 0 p_.toNat).toNat)) 248 0 (S_.2.2.1 243 0 p_.toNat).toNat (S_.2.2.1 244 0 p_.toNat))) rfl ?_
              refine sm_T_iald (n := 256) rfl rfl (by omega) (by omega) ?_
              have bx45_ : 0 ≤ S_.2.2.1 249 0 (S_.2.2.1 243 0 p_.toNat).toNat ∧ S_.2.2.1 249 0 (S_.2.2.1 243 0 p_.toNat).toNat ≤ 40 := hI_.2 249 0 _
              refine sm_T_go 0 (c1 := (166, [some (.inr (.inr (some (13, 0)))), some (.inl c_), some (.inl p_), some (.inl (S_.2.2.1 243 0 p_.toNat)), some (.inl 0)], [.inl (S_.2.2.1 249 0 (S_.2.2.1 243 0 p_.toNat).toNat), .inl (S_.2.2.1 245 0 p_.toNat), .inl (S_.2.2.1 243 0 p_.toNat), .inr (.inr (some (249, 0)))], sm_aI (sm_aI S_ 247 0 (S_.2.2.1 243 0 p_.toNat).toNat (S_.2.2.1 247 0 (S_.2.2.1 243 0 p_.toNat).toNat)) 248 0 (S_.2.2.1 243 0 p_.toNat).toNat (S_.2.2.1 244 0 p_.toNat))) rfl ?_
              refine sm_T_br (a := 3) (z := 12) rfl (fun cx46_ => ?_) (fun cx46_ => ?_)
              · have cx46_ : (S_.2.2.1 249 0 (S_.2.2.1 243 0 p_.toNat).toNat) ≤ (S_.2.2.1 245 0 p_.toNat) := of_decide_eq_true cx46_
                refine sm_T_go 3 (c1 := (183, [some (.inr (.inr (some (13, 0)))), some (.inl c_), some (.inl p_), some (.inl (S_.2.2.1 243 0 p_.toNat)), some (.inl 0)], [.inl (S_.2.2.1 243 0 p_.toNat), .inr (.inr (some (249, 0))), .inl (S_.2.2.1 243 0 p_.toNat), .inr (.inr (some (249, 0)))], sm_aI (sm_aI S_ 247 0 (S_.2.2.1 243 0 p_.toNat).toNat (S_.2.2.1 247 0 (S_.2.2.1 243 0 p_.toNat).toNat)) 248 0 (S_.2.2.1 243 0 p_.toNat).toNat (S_.2.2.1 244 0 p_.toNat))) rfl ?_
                refine sm_T_iald (n := 256) rfl rfl (by omega) (by omega) ?_
                refine sm_T_go 0 (c1 := (184, [some (.inr (.inr (some (13, 0)))), some (.inl c_), some (.inl p_), some (.inl (S_.2.2.1 243 0 p_.toNat)), some (.inl 0)], [.inl (S_.2.2.1 249 0 (S_.2.2.1 243 0 p_.toNat).toNat), .inl (S_.2.2.1 243 0 p_.toNat), .inr (.inr (some (249, 0)))], sm_aI (sm_aI S_ 247 0 (S_.2.2.1 243 0 p_.toNat).toNat (S_.2.2.1 247 0 (S_.2.2.1 243 0 p_.toNat).toNat)) 248 0 (S_.2.2.1 243 0 p_.toNat).toNat (S_.2.2.1 244 0 p_.toNat))) rfl ?_
                refine sm_T_iast (n := 256) rfl rfl (by omega) (by omega) ?_
                have hIx47_ : gi (sm_aI (sm_aI (sm_aI S_ 247 0 (S_.2.2.1 243 0 p_.toNat).toNat (S_.2.2.1 247 0 (S_.2.2.1 243 0 p_.toNat).toNat)) 248 0 (S_.2.2.1 243 0 p_.toNat).toNat (S_.2.2.1 244 0 p_.toNat)) 249 0 (S_.2.2.1 243 0 p_.toNat).toNat (S_.2.2.1 249 0 (S_.2.2.1 243 0 p_.toNat).toNat)) := gi_aI hIx42_ (show 0 ≤ (S_.2.2.1 249 0 (S_.2.2.1 243 0 p_.toNat).toNat) ∧ (S_.2.2.1 249 0 (S_.2.2.1 243 0 p_.toNat).toNat) ≤ 40 from ⟨by omega, by omega⟩)
                have hFx48_ : ai_fr (sx_W vw_440) S0_ (sm_aI (sm_aI (sm_aI S_ 247 0 (S_.2.2.1 243 0 p_.toNat).toNat (S_.2.2.1 247 0 (S_.2.2.1 243 0 p_.toNat).toNat)) 248 0 (S_.2.2.1 243 0 p_.toNat).toNat (S_.2.2.1 244 0 p_.toNat)) 249 0 (S_.2.2.1 243 0 p_.toNat).toNat (S_.2.2.1 249 0 (S_.2.2.1 243 0 p_.toNat).toNat)) := ai_fr_tr hFx43_ (ai_fr_aI rfl)
                refine sm_T_go 8 (c1 := (200, [some (.inr (.inr (some (13, 0)))), some (.inl c_), some (.inl p_), some (.inl (S_.2.2.1 243 0 p_.toNat)), some (.inl 0)], [.inl p_, .inr (.inr (some (245, 0))), .inl (S_.2.2.1 243 0 p_.toNat), .inr (.inr (some (250, 0)))], sm_aI (sm_aI (sm_aI S_ 247 0 (S_.2.2.1 243 0 p_.toNat).toNat (S_.2.2.1 247 0 (S_.2.2.1 243 0 p_.toNat).toNat)) 248 0 (S_.2.2.1 243 0 p_.toNat).toNat (S_.2.2.1 244 0 p_.toNat)) 249 0 (S_.2.2.1 243 0 p_.toNat).toNat (S_.2.2.1 249 0 (S_.2.2.1 243 0 p_.toNat).toNat))) rfl ?_
                refine sm_T_iald (n := 700) rfl rfl (by omega) (by omega) ?_
                refine sm_T_go 3 (c1 := (206, [some (.inr (.inr (some (13, 0)))), some (.inl c_), some (.inl p_), some (.inl (S_.2.2.1 243 0 p_.toNat)), some (.inl 0)], [.inl (S_.2.2.1 243 0 p_.toNat), .inr (.inr (some (250, 0))), .inl (S_.2.2.1 245 0 p_.toNat), .inl (S_.2.2.1 243 0 p_.toNat), .inr (.inr (some (250, 0)))], sm_aI (sm_aI (sm_aI S_ 247 0 (S_.2.2.1 243 0 p_.toNat).toNat (S_.2.2.1 247 0 (S_.2.2.1 243 0 p_.toNat).toNat)) 248 0 (S_.2.2.1 243 0 p_.toNat).toNat (S_.2.2.1 244 0 p_.toNat)) 249 0 (S_.2.2.1 243 0 p_.toNat).toNat (S_.2.2.1 249 0 (S_.2.2.1 243 0 p_.toNat).toNat))) rfl ?_
                refine sm_T_iald (n := 256) rfl rfl (by omega) (by omega) ?_
                have bx49_ : 0 ≤ S_.2.2.1 250 0 (S_.2.2.1 243 0 p_.toNat).toNat ∧ S_.2.2.1 250 0 (S_.2.2.1 243 0 p_.toNat).toNat ≤ 40 := hI_.2 250 0 _
                refine sm_T_go 0 (c1 := (207, [some (.inr (.inr (some (13, 0)))), some (.inl c_), some (.inl p_), some (.inl (S_.2.2.1 243 0 p_.toNat)), some (.inl 0)], [.inl (S_.2.2.1 250 0 (S_.2.2.1 243 0 p_.toNat).toNat), .inl (S_.2.2.1 245 0 p_.toNat), .inl (S_.2.2.1 243 0 p_.toNat), .inr (.inr (some (250, 0)))], sm_aI (sm_aI (sm_aI S_ 247 0 (S_.2.2.1 243 0 p_.toNat).toNat (S_.2.2.1 247 0 (S_.2.2.1 243 0 p_.toNat).toNat)) 248 0 (S_.2.2.1 243 0 p_.toNat).toNat (S_.2.2.1 244 0 p_.toNat)) 249 0 (S_.2.2.1 243 0 p_.toNat).toNat (S_.2.2.1 249 0 (S_.2.2.1 243 0 p_.toNat).toNat))) rfl ?_
                refine sm_T_br (a := 5) (z := 12) rfl (fun cx50_ => ?_) (fun cx50_ => ?_)
                · have cx50_ : (S_.2.2.1 245 0 p_.toNat) ≤ (S_.2.2.1 250 0 (S_.2.2.1 243 0 p_.toNat).toNat) := of_decide_eq_true cx50_
                  refine sm_T_go 3 (c1 := (224, [some (.inr (.inr (some (13, 0)))), some (.inl c_), some (.inl p_), some (.inl (S_.2.2.1 243 0 p_.toNat)), some (.inl 0)], [.inl (S_.2.2.1 243 0 p_.toNat), .inr (.inr (some (250, 0))), .inl (S_.2.2.1 243 0 p_.toNat), .inr (.inr (some (250, 0)))], sm_aI (sm_aI (sm_aI S_ 247 0 (S_.2.2.1 243 0 p_.toNat).toNat (S_.2.2.1 247 0 (S_.2.2.1 243 0 p_.toNat).toNat)) 248 0 (S_.2.2.1 243 0 p_.toNat).toNat (S_.2.2.1 244 0 p_.toNat)) 249 0 (S_.2.2.1 243 0 p_.toNat).toNat (S_.2.2.1 249 0 (S_.2.2.1 243 0 p_.toNat).toNat))) rfl ?_
                  refine sm_T_iald (n := 256) rfl rfl (by omega) (by omega) ?_
                  refine sm_T_go 0 (c1 := (225, [some (.inr (.inr (some (13, 0)))), some (.inl c_), some (.inl p_), some (.inl (S_.2.2.1 243 0 p_.toNat)), some (.inl 0)], [.inl (S_.2.2.1 250 0 (S_.2.2.1 243 0 p_.toNat).toNat), .inl (S_.2.2.1 243 0 p_.toNat), .inr (.inr (some (250, 0)))], sm_aI (sm_aI (sm_aI S_ 247 0 (S_.2.2.1 243 0 p_.toNat).toNat (S_.2.2.1 247 0 (S_.2.2.1 243 0 p_.toNat).toNat)) 248 0 (S_.2.2.1 243 0 p_.toNat).toNat (S_.2.2.1 244 0 p_.toNat)) 249 0 (S_.2.2.1 243 0 p_.toNat).toNat (S_.2.2.1 249 0 (S_.2.2.1 243 0 p_.toNat).toNat))) rfl ?_
                  refine sm_T_iast (n := 256) rfl rfl (by omega) (by omega) ?_
                  have hIx51_ : gi (sm_aI (sm_aI (sm_aI (sm_aI S_ 247 0 (S_.2.2.1 243 0 p_.toNat).toNat (S_.2.2.1 247 0 (S_.2.2.1 243 0 p_.toNat).toNat)) 248 0 (S_.2.2.1 243 0 p_.toNat).toNat (S_.2.2.1 244 0 p_.toNat)) 249 0 (S_.2.2.1 243 0 p_.toNat).toNat (S_.2.2.1 249 0 (S_.2.2.1 243 0 p_.toNat).toNat)) 250 0 (S_.2.2.1 243 0 p_.toNat).toNat (S_.2.2.1 250 0 (S_.2.2.1 243 0 p_.toNat).toNat)) := gi_aI hIx47_ (show 0 ≤ (S_.2.2.1 250 0 (S_.2.2.1 243 0 p_.toNat).toNat) ∧ (S_.2.2.1 250 0 (S_.2.2.1 243 0 p_.toNat).toNat) ≤ 40 from ⟨by omega, by omega⟩)
                  have hFx52_ : ai_fr (sx_W vw_440) S0_ (sm_aI (sm_aI (sm_aI (sm_aI S_ 247 0 (S_.2.2.1 243 0 p_.toNat).toNat (S_.2.2.1 247 0 (S_.2.2.1 243 0 p_.toNat).toNat)) 248 0 (S_.2.2.1 243 0 p_.toNat).toNat (S_.2.2.1 244 0 p_.toNat)) 249 0 (S_.2.2.1 243 0 p_.toNat).toNat (S_.2.2.1 249 0 (S_.2.2.1 243 0 p_.toNat).toNat)) 250 0 (S_.2.2.1 243 0 p_.toNat).toNat (S_.2.2.1 250 0 (S_.2.2.1 243 0 p_.toNat).toNat)) := ai_fr_tr hFx48_ (ai_fr_aI rfl)
                  refine sm_T_go 4 (c1 := (232, [some (.inr (.inr (some (13, 0)))), some (.inl c_), some (.inl p_), some (.inl (S_.2.2.1 243 0 p_.toNat)), some (.inl 0)], [.inl (S_.2.2.1 243 0 p_.toNat), .inr (.inr (some (246, 0))), .inl (S_.2.2.1 243 0 p_.toNat), .inr (.inr (some (246, 0)))], sm_aI (sm_aI (sm_aI (sm_aI S_ 247 0 (S_.2.2.1 243 0 p_.toNat).toNat (S_.2.2.1 247 0 (S_.2.2.1 243 0 p_.toNat).toNat)) 248 0 (S_.2.2.1 243 0 p_.toNat).toNat (S_.2.2.1 244 0 p_.toNat)) 249 0 (S_.2.2.1 243 0 p_.toNat).toNat (S_.2.2.1 249 0 (S_.2.2.1 243 0 p_.toNat).toNat)) 250 0 (S_.2.2.1 243 0 p_.toNat).toNat (S_.2.2.1 250 0 (S_.2.2.1 243 0 p_.toNat).toNat))) rfl ?_
                  refine sm_T_iald (n := 256) rfl rfl (by omega) (by omega) ?_
                  refine sm_T_go 1 (c1 := (234, [some (.inr (.inr (some (13, 0)))), some (.inl c_), some (.inl p_), some (.inl (S_.2.2.1 243 0 p_.toNat)), some (.inl 0)], [.inl 1, .inl (S_.2.2.1 246 0 (S_.2.2.1 243 0 p_.toNat).toNat), .inl (S_.2.2.1 243 0 p_.toNat), .inr (.inr (some (246, 0)))], sm_aI (sm_aI (sm_aI (sm_aI S_ 247 0 (S_.2.2.1 243 0 p_.toNat).toNat (S_.2.2.1 247 0 (S_.2.2.1 243 0 p_.toNat).toNat)) 248 0 (S_.2.2.1 243 0 p_.toNat).toNat (S_.2.2.1 244 0 p_.toNat)) 249 0 (S_.2.2.1 243 0 p_.toNat).toNat (S_.2.2.1 249 0 (S_.2.2.1 243 0 p_.toNat).toNat)) 250 0 (S_.2.2.1 243 0 p_.toNat).toNat (S_.2.2.1 250 0 (S_.2.2.1 243 0 p_.toNat).toNat))) rfl ?_
                  refine sm_T_bin (w := (S_.2.2.1 246 0 (S_.2.2.1 243 0 p_.toNat).toNat) + 1) rfl (bi_add (by omega) (by omega) (by omega)) ?_ -- pc_ 234
                  refine sm_T_iast (n := 256) rfl rfl (by omega) (by omega) ?_
                  have hIx53_ : gi (sm_aI (sm_aI (sm_aI (sm_aI (sm_aI S_ 247 0 (S_.2.2.1 243 0 p_.toNat).toNat (S_.2.2.1 247 0 (S_.2.2.1 243 0 p_.toNat).toNat)) 248 0 (S_.2.2.1 243 0 p_.toNat).toNat (S_.2.2.1 244 0 p_.toNat)) 249 0 (S_.2.2.1 243 0 p_.toNat).toNat (S_.2.2.1 249 0 (S_.2.2.1 243 0 p_.toNat).toNat)) 250 0 (S_.2.2.1 243 0 p_.toNat).toNat (S_.2.2.1 250 0 (S_.2.2.1 243 0 p_.toNat).toNat)) 246 0 (S_.2.2.1 243 0 p_.toNat).toNat ((S_.2.2.1 246 0 (S_.2.2.1 243 0 p_.toNat).toNat) + 1)) := gi_aI hIx51_ (show 0 ≤ (S_.2.2.1 246 0 (S_.2.2.1 243 0 p_.toNat).toNat) + 1 ∧ (S_.2.2.1 246 0 (S_.2.2.1 243 0 p_.toNat).toNat) + 1 ≤ 700 from ⟨by omega, by omega⟩)
                  have hFx54_ : ai_fr (sx_W vw_440) S0_ (sm_aI (sm_aI (sm_aI (sm_aI (sm_aI S_ 247 0 (S_.2.2.1 243 0 p_.toNat).toNat (S_.2.2.1 247 0 (S_.2.2.1 243 0 p_.toNat).toNat)) 248 0 (S_.2.2.1 243 0 p_.toNat).toNat (S_.2.2.1 244 0 p_.toNat)) 249 0 (S_.2.2.1 243 0 p_.toNat).toNat (S_.2.2.1 249 0 (S_.2.2.1 243 0 p_.toNat).toNat)) 250 0 (S_.2.2.1 243 0 p_.toNat).toNat (S_.2.2.1 250 0 (S_.2.2.1 243 0 p_.toNat).toNat)) 246 0 (S_.2.2.1 243 0 p_.toNat).toNat ((S_.2.2.1 246 0 (S_.2.2.1 243 0 p_.toNat).toNat) + 1)) := ai_fr_tr hFx52_ (ai_fr_aI rfl)
                  refine sm_T_inc (a := 2) (z := 1) (v := p_) (w := p_ + 1) rfl rfl (by omega) (by omega) (by omega) ?_ -- pc_ 236
                  refine sm_T_go 1 (c1 := (31, [some (.inr (.inr (some (13, 0)))), some (.inl c_), some (.inl (p_ + 1)), some (.inl (S_.2.2.1 243 0 p_.toNat)), some (.inl 0)], [], sm_aI (sm_aI (sm_aI (sm_aI (sm_aI S_ 247 0 (S_.2.2.1 243 0 p_.toNat).toNat (S_.2.2.1 247 0 (S_.2.2.1 243 0 p_.toNat).toNat)) 248 0 (S_.2.2.1 243 0 p_.toNat).toNat (S_.2.2.1 244 0 p_.toNat)) 249 0 (S_.2.2.1 243 0 p_.toNat).toNat (S_.2.2.1 249 0 (S_.2.2.1 243 0 p_.toNat).toNat)) 250 0 (S_.2.2.1 243 0 p_.toNat).toNat (S_.2.2.1 250 0 (S_.2.2.1 243 0 p_.toNat).toNat)) 246 0 (S_.2.2.1 243 0 p_.toNat).toNat ((S_.2.2.1 246 0 (S_.2.2.1 243 0 p_.toNat).toNat) + 1))) rfl ?_
                  refine sm_T_wk [some (.inr (.inr (some (13, 0)))), some (.inl c_), some (.inl (p_ + 1)), none, none] (by exact ⟨rfl, rfl, rfl, trivial⟩) ?_
                  refine ih_.2 (p_ + 1) (sm_aI (sm_aI (sm_aI (sm_aI (sm_aI S_ 247 0 (S_.2.2.1 243 0 p_.toNat).toNat (S_.2.2.1 247 0 (S_.2.2.1 243 0 p_.toNat).toNat)) 248 0 (S_.2.2.1 243 0 p_.toNat).toNat (S_.2.2.1 244 0 p_.toNat)) 249 0 (S_.2.2.1 243 0 p_.toNat).toNat (S_.2.2.1 249 0 (S_.2.2.1 243 0 p_.toNat).toNat)) 250 0 (S_.2.2.1 243 0 p_.toNat).toNat (S_.2.2.1 250 0 (S_.2.2.1 243 0 p_.toNat).toNat)) 246 0 (S_.2.2.1 243 0 p_.toNat).toNat ((S_.2.2.1 246 0 (S_.2.2.1 243 0 p_.toNat).toNat) + 1)) hIx53_ hFx54_ ⟨?_, ?_, ?_, ?_, trivial⟩ ?_
                  · have r6_ : ∀ j9_, ((sm_aI (sm_aI (sm_aI (sm_aI (sm_aI S_ 247 0 (S_.2.2.1 243 0 p_.toNat).toNat (S_.2.2.1 247 0 (S_.2.2.1 243 0 p_.toNat).toNat)) 248 0 (S_.2.2.1 243 0 p_.toNat).toNat (S_.2.2.1 244 0 p_.toNat)) 249 0 (S_.2.2.1 243 0 p_.toNat).toNat (S_.2.2.1 249 0 (S_.2.2.1 243 0 p_.toNat).toNat)) 250 0 (S_.2.2.1 243 0 p_.toNat).toNat (S_.2.2.1 250 0 (S_.2.2.1 243 0 p_.toNat).toNat)) 246 0 (S_.2.2.1 243 0 p_.toNat).toNat ((S_.2.2.1 246 0 (S_.2.2.1 243 0 p_.toNat).toNat) + 1))).2.2.1 246 0 j9_ = if j9_ = (S_.2.2.1 243 0 p_.toNat).toNat then S_.2.2.1 246 0 (S_.2.2.1 243 0 p_.toNat).toNat + 1 else S_.2.2.1 246 0 j9_ := fun j9_ => by (try simp only [rd_eq, rd_ne, rf_eq, rf_nk, rf_nt, rd_fa, rd_af, rd_fl, rd_al, rd_lf, rd_la, rd_leq, rd_lne, rd_fr, rd_ar, ne_eq, Nat.reduceEqDiff, not_false_eq_true])
                    have r3_ : ((sm_aI (sm_aI (sm_aI (sm_aI (sm_aI S_ 247 0 (S_.2.2.1 243 0 p_.toNat).toNat (S_.2.2.1 247 0 (S_.2.2.1 243 0 p_.toNat).toNat)) 248 0 (S_.2.2.1 243 0 p_.toNat).toNat (S_.2.2.1 244 0 p_.toNat)) 249 0 (S_.2.2.1 243 0 p_.toNat).toNat (S_.2.2.1 249 0 (S_.2.2.1 243 0 p_.toNat).toNat)) 250 0 (S_.2.2.1 243 0 p_.toNat).toNat (S_.2.2.1 250 0 (S_.2.2.1 243 0 p_.toNat).toNat)) 246 0 (S_.2.2.1 243 0 p_.toNat).toNat ((S_.2.2.1 246 0 (S_.2.2.1 243 0 p_.toNat).toNat) + 1))).2.2.1 243 0 = S_.2.2.1 243 0 := by (funext j9_; (try simp only [rd_eq, rd_ne, rf_eq, rf_nk, rf_nt, rd_fa, rd_af, rd_fl, rd_al, rd_lf, rd_la, rd_leq, rd_lne, rd_fr, rd_ar, ne_eq, Nat.reduceEqDiff, not_false_eq_true]))
                    have r9_ : ((sm_aI (sm_aI (sm_aI (sm_aI (sm_aI S_ 247 0 (S_.2.2.1 243 0 p_.toNat).toNat (S_.2.2.1 247 0 (S_.2.2.1 243 0 p_.toNat).toNat)) 248 0 (S_.2.2.1 243 0 p_.toNat).toNat (S_.2.2.1 244 0 p_.toNat)) 249 0 (S_.2.2.1 243 0 p_.toNat).toNat (S_.2.2.1 249 0 (S_.2.2.1 243 0 p_.toNat).toNat)) 250 0 (S_.2.2.1 243 0 p_.toNat).toNat (S_.2.2.1 250 0 (S_.2.2.1 243 0 p_.toNat).toNat)) 246 0 (S_.2.2.1 243 0 p_.toNat).toNat ((S_.2.2.1 246 0 (S_.2.2.1 243 0 p_.toNat).toNat) + 1))).1 13 0 159 = S_.1 13 0 159 := by (try simp only [rd_eq, rd_ne, rf_eq, rf_nk, rf_nt, rd_fa, rd_af, rd_fl, rd_al, rd_lf, rd_la, rd_leq, rd_lne, rd_fr, rd_ar, ne_eq, Nat.reduceEqDiff, not_false_eq_true])
                    rw [r9_]
                    omega
                  · have r6_ : ∀ j9_, ((sm_aI (sm_aI (sm_aI (sm_aI (sm_aI S_ 247 0 (S_.2.2.1 243 0 p_.toNat).toNat (S_.2.2.1 247 0 (S_.2.2.1 243 0 p_.toNat).toNat)) 248 0 (S_.2.2.1 243 0 p_.toNat).toNat (S_.2.2.1 244 0 p_.toNat)) 249 0 (S_.2.2.1 243 0 p_.toNat).toNat (S_.2.2.1 249 0 (S_.2.2.1 243 0 p_.toNat).toNat)) 250 0 (S_.2.2.1 243 0 p_.toNat).toNat (S_.2.2.1 250 0 (S_.2.2.1 243 0 p_.toNat).toNat)) 246 0 (S_.2.2.1 243 0 p_.toNat).toNat ((S_.2.2.1 246 0 (S_.2.2.1 243 0 p_.toNat).toNat) + 1))).2.2.1 246 0 j9_ = if j9_ = (S_.2.2.1 243 0 p_.toNat).toNat then S_.2.2.1 246 0 (S_.2.2.1 243 0 p_.toNat).toNat + 1 else S_.2.2.1 246 0 j9_ := fun j9_ => by (try simp only [rd_eq, rd_ne, rf_eq, rf_nk, rf_nt, rd_fa, rd_af, rd_fl, rd_al, rd_lf, rd_la, rd_leq, rd_lne, rd_fr, rd_ar, ne_eq, Nat.reduceEqDiff, not_false_eq_true])
                    have r3_ : ((sm_aI (sm_aI (sm_aI (sm_aI (sm_aI S_ 247 0 (S_.2.2.1 243 0 p_.toNat).toNat (S_.2.2.1 247 0 (S_.2.2.1 243 0 p_.toNat).toNat)) 248 0 (S_.2.2.1 243 0 p_.toNat).toNat (S_.2.2.1 244 0 p_.toNat)) 249 0 (S_.2.2.1 243 0 p_.toNat).toNat (S_.2.2.1 249 0 (S_.2.2.1 243 0 p_.toNat).toNat)) 250 0 (S_.2.2.1 243 0 p_.toNat).toNat (S_.2.2.1 250 0 (S_.2.2.1 243 0 p_.toNat).toNat)) 246 0 (S_.2.2.1 243 0 p_.toNat).toNat ((S_.2.2.1 246 0 (S_.2.2.1 243 0 p_.toNat).toNat) + 1))).2.2.1 243 0 = S_.2.2.1 243 0 := by (funext j9_; (try simp only [rd_eq, rd_ne, rf_eq, rf_nk, rf_nt, rd_fa, rd_af, rd_fl, rd_al, rd_lf, rd_la, rd_leq, rd_lne, rd_fr, rd_ar, ne_eq, Nat.reduceEqDiff, not_false_eq_true]))
                    have r9_ : ((sm_aI (sm_aI (sm_aI (sm_aI (sm_aI S_ 247 0 (S_.2.2.1 243 0 p_.toNat).toNat (S_.2.2.1 247 0 (S_.2.2.1 243 0 p_.toNat).toNat)) 248 0 (S_.2.2.1 243 0 p_.toNat).toNat (S_.2.2.1 244 0 p_.toNat)) 249 0 (S_.2.2.1 243 0 p_.toNat).toNat (S_.2.2.1 249 0 (S_.2.2.1 243 0 p_.toNat).toNat)) 250 0 (S_.2.2.1 243 0 p_.toNat).toNat (S_.2.2.1 250 0 (S_.2.2.1 243 0 p_.toNat).toNat)) 246 0 (S_.2.2.1 243 0 p_.toNat).toNat ((S_.2.2.1 246 0 (S_.2.2.1 243 0 p_.toNat).toNat) + 1))).1 13 0 159 = S_.1 13 0 159 := by (try simp only [rd_eq, rd_ne, rf_eq, rf_nk, rf_nt, rd_fa, rd_af, rd_fl, rd_al, rd_lf, rd_la, rd_leq, rd_lne, rd_fr, rd_ar, ne_eq, Nat.reduceEqDiff, not_false_eq_true])
                    intro k9_ k0_ k1_
                    rw [r9_] at k1_
                    have w9_ := hv_ k9_ k0_ k1_
                    (try simp only [rd_eq, rd_ne, rf_eq, rf_nk, rf_nt, rd_fa, rd_af, rd_fl, rd_al, rd_lf, rd_la, rd_leq, rd_lne, rd_fr, rd_ar, ne_eq, Nat.reduceEqDiff, not_false_eq_true])
                    exact w9_
                  · have r6_ : ∀ j9_, ((sm_aI (sm_aI (sm_aI (sm_aI (sm_aI S_ 247 0 (S_.2.2.1 243 0 p_.toNat).toNat (S_.2.2.1 247 0 (S_.2.2.1 243 0 p_.toNat).toNat)) 248 0 (S_.2.2.1 243 0 p_.toNat).toNat (S_.2.2.1 244 0 p_.toNat)) 249 0 (S_.2.2.1 243 0 p_.toNat).toNat (S_.2.2.1 249 0 (S_.2.2.1 243 0 p_.toNat).toNat)) 250 0 (S_.2.2.1 243 0 p_.toNat).toNat (S_.2.2.1 250 0 (S_.2.2.1 243 0 p_.toNat).toNat)) 246 0 (S_.2.2.1 243 0 p_.toNat).toNat ((S_.2.2.1 246 0 (S_.2.2.1 243 0 p_.toNat).toNat) + 1))).2.2.1 246 0 j9_ = if j9_ = (S_.2.2.1 243 0 p_.toNat).toNat then S_.2.2.1 246 0 (S_.2.2.1 243 0 p_.toNat).toNat + 1 else S_.2.2.1 246 0 j9_ := fun j9_ => by (try simp only [rd_eq, rd_ne, rf_eq, rf_nk, rf_nt, rd_fa, rd_af, rd_fl, rd_al, rd_lf, rd_la, rd_leq, rd_lne, rd_fr, rd_ar, ne_eq, Nat.reduceEqDiff, not_false_eq_true])
                    have r3_ : ((sm_aI (sm_aI (sm_aI (sm_aI (sm_aI S_ 247 0 (S_.2.2.1 243 0 p_.toNat).toNat (S_.2.2.1 247 0 (S_.2.2.1 243 0 p_.toNat).toNat)) 248 0 (S_.2.2.1 243 0 p_.toNat).toNat (S_.2.2.1 244 0 p_.toNat)) 249 0 (S_.2.2.1 243 0 p_.toNat).toNat (S_.2.2.1 249 0 (S_.2.2.1 243 0 p_.toNat).toNat)) 250 0 (S_.2.2.1 243 0 p_.toNat).toNat (S_.2.2.1 250 0 (S_.2.2.1 243 0 p_.toNat).toNat)) 246 0 (S_.2.2.1 243 0 p_.toNat).toNat ((S_.2.2.1 246 0 (S_.2.2.1 243 0 p_.toNat).toNat) + 1))).2.2.1 243 0 = S_.2.2.1 243 0 := by (funext j9_; (try simp only [rd_eq, rd_ne, rf_eq, rf_nk, rf_nt, rd_fa, rd_af, rd_fl, rd_al, rd_lf, rd_la, rd_leq, rd_lne, rd_fr, rd_ar, ne_eq, Nat.reduceEqDiff, not_false_eq_true]))
                    have r9_ : ((sm_aI (sm_aI (sm_aI (sm_aI (sm_aI S_ 247 0 (S_.2.2.1 243 0 p_.toNat).toNat (S_.2.2.1 247 0 (S_.2.2.1 243 0 p_.toNat).toNat)) 248 0 (S_.2.2.1 243 0 p_.toNat).toNat (S_.2.2.1 244 0 p_.toNat)) 249 0 (S_.2.2.1 243 0 p_.toNat).toNat (S_.2.2.1 249 0 (S_.2.2.1 243 0 p_.toNat).toNat)) 250 0 (S_.2.2.1 243 0 p_.toNat).toNat (S_.2.2.1 250 0 (S_.2.2.1 243 0 p_.toNat).toNat)) 246 0 (S_.2.2.1 243 0 p_.toNat).toNat ((S_.2.2.1 246 0 (S_.2.2.1 243 0 p_.toNat).toNat) + 1))).1 13 0 159 = S_.1 13 0 159 := by (try simp only [rd_eq, rd_ne, rf_eq, rf_nk, rf_nt, rd_fa, rd_af, rd_fl, rd_al, rd_lf, rd_la, rd_leq, rd_lne, rd_fr, rd_ar, ne_eq, Nat.reduceEqDiff, not_false_eq_true])
                    intro n9_ h9_ h8_
                    rw [r6_]
                    have w9_ := hz_ n9_ h9_ h8_
                    split
                    · omega
                    · omega
                  · have r6_ : ∀ j9_, ((sm_aI (sm_aI (sm_aI (sm_aI (sm_aI S_ 247 0 (S_.2.2.1 243 0 p_.toNat).toNat (S_.2.2.1 247 0 (S_.2.2.1 243 0 p_.toNat).toNat)) 248 0 (S_.2.2.1 243 0 p_.toNat).toNat (S_.2.2.1 244 0 p_.toNat)) 249 0 (S_.2.2.1 243 0 p_.toNat).toNat (S_.2.2.1 249 0 (S_.2.2.1 243 0 p_.toNat).toNat)) 250 0 (S_.2.2.1 243 0 p_.toNat).toNat (S_.2.2.1 250 0 (S_.2.2.1 243 0 p_.toNat).toNat)) 246 0 (S_.2.2.1 243 0 p_.toNat).toNat ((S_.2.2.1 246 0 (S_.2.2.1 243 0 p_.toNat).toNat) + 1))).2.2.1 246 0 j9_ = if j9_ = (S_.2.2.1 243 0 p_.toNat).toNat then S_.2.2.1 246 0 (S_.2.2.1 243 0 p_.toNat).toNat + 1 else S_.2.2.1 246 0 j9_ := fun j9_ => by (try simp only [rd_eq, rd_ne, rf_eq, rf_nk, rf_nt, rd_fa, rd_af, rd_fl, rd_al, rd_lf, rd_la, rd_leq, rd_lne, rd_fr, rd_ar, ne_eq, Nat.reduceEqDiff, not_false_eq_true])
                    have r3_ : ((sm_aI (sm_aI (sm_aI (sm_aI (sm_aI S_ 247 0 (S_.2.2.1 243 0 p_.toNat).toNat (S_.2.2.1 247 0 (S_.2.2.1 243 0 p_.toNat).toNat)) 248 0 (S_.2.2.1 243 0 p_.toNat).toNat (S_.2.2.1 244 0 p_.toNat)) 249 0 (S_.2.2.1 243 0 p_.toNat).toNat (S_.2.2.1 249 0 (S_.2.2.1 243 0 p_.toNat).toNat)) 250 0 (S_.2.2.1 243 0 p_.toNat).toNat (S_.2.2.1 250 0 (S_.2.2.1 243 0 p_.toNat).toNat)) 246 0 (S_.2.2.1 243 0 p_.toNat).toNat ((S_.2.2.1 246 0 (S_.2.2.1 243 0 p_.toNat).toNat) + 1))).2.2.1 243 0 = S_.2.2.1 243 0 := by (funext j9_; (try simp only [rd_eq, rd_ne, rf_eq, rf_nk, rf_nt, rd_fa, rd_af, rd_fl, rd_al, rd_lf, rd_la, rd_leq, rd_lne, rd_fr, rd_ar, ne_eq, Nat.reduceEqDiff, not_false_eq_true]))
                    have r9_ : ((sm_aI (sm_aI (sm_aI (sm_aI (sm_aI S_ 247 0 (S_.2.2.1 243 0 p_.toNat).toNat (S_.2.2.1 247 0 (S_.2.2.1 243 0 p_.toNat).toNat)) 248 0 (S_.2.2.1 243 0 p_.toNat).toNat (S_.2.2.1 244 0 p_.toNat)) 249 0 (S_.2.2.1 243 0 p_.toNat).toNat (S_.2.2.1 249 0 (S_.2.2.1 243 0 p_.toNat).toNat)) 250 0 (S_.2.2.1 243 0 p_.toNat).toNat (S_.2.2.1 250 0 (S_.2.2.1 243 0 p_.toNat).toNat)) 246 0 (S_.2.2.1 243 0 p_.toNat).toNat ((S_.2.2.1 246 0 (S_.2.2.1 243 0 p_.toNat).toNat) + 1))).1 13 0 159 = S_.1 13 0 159 := by (try simp only [rd_eq, rd_ne, rf_eq, rf_nk, rf_nt, rd_fa, rd_af, rd_fl, rd_al, rd_lf, rd_la, rd_leq, rd_lne, rd_fr, rd_ar, ne_eq, Nat.reduceEqDiff, not_false_eq_true])
                    intro n9_ h9_ h8_ y9_
                    rw [r6_] at y9_
                    rw [r3_]
                    by_cases q9_ : n9_.toNat = (S_.2.2.1 243 0 p_.toNat).toNat
                    · exact ⟨p_, by omega, by omega, by omega⟩
                    · rw [if_neg q9_] at y9_
                      obtain ⟨k9_, u1_, u2_, u3_⟩ := hx_ n9_ h9_ h8_ y9_
                      exact ⟨k9_, u1_, by omega, u3_⟩
                  · omega
                · have cx50_ : ¬ ((S_.2.2.1 245 0 p_.toNat) ≤ (S_.2.2.1 250 0 (S_.2.2.1 243 0 p_.toNat).toNat)) := of_decide_eq_false cx50_
                  refine sm_T_go 3 (c1 := (215, [some (.inr (.inr (some (13, 0)))), some (.inl c_), some (.inl p_), some (.inl (S_.2.2.1 243 0 p_.toNat)), some (.inl 0)], [.inl p_, .inr (.inr (some (245, 0))), .inl (S_.2.2.1 243 0 p_.toNat), .inr (.inr (some (250, 0)))], sm_aI (sm_aI (sm_aI S_ 247 0 (S_.2.2.1 243 0 p_.toNat).toNat (S_.2.2.1 247 0 (S_.2.2.1 243 0 p_.toNat).toNat)) 248 0 (S_.2.2.1 243 0 p_.toNat).toNat (S_.2.2.1 244 0 p_.toNat)) 249 0 (S_.2.2.1 243 0 p_.toNat).toNat (S_.2.2.1 249 0 (S_.2.2.1 243 0 p_.toNat).toNat))) rfl ?_
                  refine sm_T_iald (n := 700) rfl rfl (by omega) (by omega) ?_
                  refine sm_T_go 1 (c1 := (225, [some (.inr (.inr (some (13, 0)))), some (.inl c_), some (.inl p_), some (.inl (S_.2.2.1 243 0 p_.toNat)), some (.inl 0)], [.inl (S_.2.2.1 245 0 p_.toNat), .inl (S_.2.2.1 243 0 p_.toNat), .inr (.inr (some (250, 0)))], sm_aI (sm_aI (sm_aI S_ 247 0 (S_.2.2.1 243 0 p_.toNat).toNat (S_.2.2.1 247 0 (S_.2.2.1 243 0 p_.toNat).toNat)) 248 0 (S_.2.2.1 243 0 p_.toNat).toNat (S_.2.2.1 244 0 p_.toNat)) 249 0 (S_.2.2.1 243 0 p_.toNat).toNat (S_.2.2.1 249 0 (S_.2.2.1 243 0 p_.toNat).toNat))) rfl ?_
                  refine sm_T_iast (n := 256) rfl rfl (by omega) (by omega) ?_
                  have hIx55_ : gi (sm_aI (sm_aI (sm_aI (sm_aI S_ 247 0 (S_.2.2.1 243 0 p_.toNat).toNat (S_.2.2.1 247 0 (S_.2.2.1 243 0 p_.toNat).toNat)) 248 0 (S_.2.2.1 243 0 p_.toNat).toNat (S_.2.2.1 244 0 p_.toNat)) 249 0 (S_.2.2.1 243 0 p_.toNat).toNat (S_.2.2.1 249 0 (S_.2.2.1 243 0 p_.toNat).toNat)) 250 0 (S_.2.2.1 243 0 p_.toNat).toNat (S_.2.2.1 245 0 p_.toNat)) := gi_aI hIx47_ (show 0 ≤ (S_.2.2.1 245 0 p_.toNat) ∧ (S_.2.2.1 245 0 p_.toNat) ≤ 40 from ⟨by omega, by omega⟩)
                  have hFx56_ : ai_fr (sx_W vw_440) S0_ (sm_aI (sm_aI (sm_aI (sm_aI S_ 247 0 (S_.2.2.1 243 0 p_.toNat).toNat (S_.2.2.1 247 0 (S_.2.2.1 243 0 p_.toNat).toNat)) 248 0 (S_.2.2.1 243 0 p_.toNat).toNat (S_.2.2.1 244 0 p_.toNat)) 249 0 (S_.2.2.1 243 0 p_.toNat).toNat (S_.2.2.1 249 0 (S_.2.2.1 243 0 p_.toNat).toNat)) 250 0 (S_.2.2.1 243 0 p_.toNat).toNat (S_.2.2.1 245 0 p_.toNat)) := ai_fr_tr hFx48_ (ai_fr_aI rfl)
                  refine sm_T_go 4 (c1 := (232, [some (.inr (.inr (some (13, 0)))), some (.inl c_), some (.inl p_), some (.inl (S_.2.2.1 243 0 p_.toNat)), some (.inl 0)], [.inl (S_.2.2.1 243 0 p_.toNat), .inr (.inr (some (246, 0))), .inl (S_.2.2.1 243 0 p_.toNat), .inr (.inr (some (246, 0)))], sm_aI (sm_aI (sm_aI (sm_aI S_ 247 0 (S_.2.2.1 243 0 p_.toNat).toNat (S_.2.2.1 247 0 (S_.2.2.1 243 0 p_.toNat).toNat)) 248 0 (S_.2.2.1 243 0 p_.toNat).toNat (S_.2.2.1 244 0 p_.toNat)) 249 0 (S_.2.2.1 243 0 p_.toNat).toNat (S_.2.2.1 249 0 (S_.2.2.1 243 0 p_.toNat).toNat)) 250 0 (S_.2.2.1 243 0 p_.toNat).toNat (S_.2.2.1 245 0 p_.toNat))) rfl ?_
                  refine sm_T_iald (n := 256) rfl rfl (by omega) (by omega) ?_
                  refine sm_T_go 1 (c1 := (234, [some (.inr (.inr (some (13, 0)))), some (.inl c_), some (.inl p_), some (.inl (S_.2.2.1 243 0 p_.toNat)), some (.inl 0)], [.inl 1, .inl (S_.2.2.1 246 0 (S_.2.2.1 243 0 p_.toNat).toNat), .inl (S_.2.2.1 243 0 p_.toNat), .inr (.inr (some (246, 0)))], sm_aI (sm_aI (sm_aI (sm_aI S_ 247 0 (S_.2.2.1 243 0 p_.toNat).toNat (S_.2.2.1 247 0 (S_.2.2.1 243 0 p_.toNat).toNat)) 248 0 (S_.2.2.1 243 0 p_.toNat).toNat (S_.2.2.1 244 0 p_.toNat)) 249 0 (S_.2.2.1 243 0 p_.toNat).toNat (S_.2.2.1 249 0 (S_.2.2.1 243 0 p_.toNat).toNat)) 250 0 (S_.2.2.1 243 0 p_.toNat).toNat (S_.2.2.1 245 0 p_.toNat))) rfl ?_
                  refine sm_T_bin (w := (S_.2.2.1 246 0 (S_.2.2.1 243 0 p_.toNat).toNat) + 1) rfl (bi_add (by omega) (by omega) (by omega)) ?_ -- pc_ 234
                  refine sm_T_iast (n := 256) rfl rfl (by omega) (by omega) ?_
                  have hIx57_ : gi (sm_aI (sm_aI (sm_aI (sm_aI (sm_aI S_ 247 0 (S_.2.2.1 243 0 p_.toNat).toNat (S_.2.2.1 247 0 (S_.2.2.1 243 0 p_.toNat).toNat)) 248 0 (S_.2.2.1 243 0 p_.toNat).toNat (S_.2.2.1 244 0 p_.toNat)) 249 0 (S_.2.2.1 243 0 p_.toNat).toNat (S_.2.2.1 249 0 (S_.2.2.1 243 0 p_.toNat).toNat)) 250 0 (S_.2.2.1 243 0 p_.toNat).toNat (S_.2.2.1 245 0 p_.toNat)) 246 0 (S_.2.2.1 243 0 p_.toNat).toNat ((S_.2.2.1 246 0 (S_.2.2.1 243 0 p_.toNat).toNat) + 1)) := gi_aI hIx55_ (show 0 ≤ (S_.2.2.1 246 0 (S_.2.2.1 243 0 p_.toNat).toNat) + 1 ∧ (S_.2.2.1 246 0 (S_.2.2.1 243 0 p_.toNat).toNat) + 1 ≤ 700 from ⟨by omega, by omega⟩)
                  have hFx58_ : ai_fr (sx_W vw_440) S0_ (sm_aI (sm_aI (sm_aI (sm_aI (sm_aI S_ 247 0 (S_.2.2.1 243 0 p_.toNat).toNat (S_.2.2.1 247 0 (S_.2.2.1 243 0 p_.toNat).toNat)) 248 0 (S_.2.2.1 243 0 p_.toNat).toNat (S_.2.2.1 244 0 p_.toNat)) 249 0 (S_.2.2.1 243 0 p_.toNat).toNat (S_.2.2.1 249 0 (S_.2.2.1 243 0 p_.toNat).toNat)) 250 0 (S_.2.2.1 243 0 p_.toNat).toNat (S_.2.2.1 245 0 p_.toNat)) 246 0 (S_.2.2.1 243 0 p_.toNat).toNat ((S_.2.2.1 246 0 (S_.2.2.1 243 0 p_.toNat).toNat) + 1)) := ai_fr_tr hFx56_ (ai_fr_aI rfl)
                  refine sm_T_inc (a := 2) (z := 1) (v := p_) (w := p_ + 1) rfl rfl (by omega) (by omega) (by omega) ?_ -- pc_ 236
                  refine sm_T_go 1 (c1 := (31, [some (.inr (.inr (some (13, 0)))), some (.inl c_), some (.inl (p_ + 1)), some (.inl (S_.2.2.1 243 0 p_.toNat)), some (.inl 0)], [], sm_aI (sm_aI (sm_aI (sm_aI (sm_aI S_ 247 0 (S_.2.2.1 243 0 p_.toNat).toNat (S_.2.2.1 247 0 (S_.2.2.1 243 0 p_.toNat).toNat)) 248 0 (S_.2.2.1 243 0 p_.toNat).toNat (S_.2.2.1 244 0 p_.toNat)) 249 0 (S_.2.2.1 243 0 p_.toNat).toNat (S_.2.2.1 249 0 (S_.2.2.1 243 0 p_.toNat).toNat)) 250 0 (S_.2.2.1 243 0 p_.toNat).toNat (S_.2.2.1 245 0 p_.toNat)) 246 0 (S_.2.2.1 243 0 p_.toNat).toNat ((S_.2.2.1 246 0 (S_.2.2.1 243 0 p_.toNat).toNat) + 1))) rfl ?_
                  refine sm_T_wk [some (.inr (.inr (some (13, 0)))), some (.inl c_), some (.inl (p_ + 1)), none, none] (by exact ⟨rfl, rfl, rfl, trivial⟩) ?_
                  refine ih_.2 (p_ + 1) (sm_aI (sm_aI (sm_aI (sm_aI (sm_aI S_ 247 0 (S_.2.2.1 243 0 p_.toNat).toNat (S_.2.2.1 247 0 (S_.2.2.1 243 0 p_.toNat).toNat)) 248 0 (S_.2.2.1 243 0 p_.toNat).toNat (S_.2.2.1 244 0 p_.toNat)) 249 0 (S_.2.2.1 243 0 p_.toNat).toNat (S_.2.2.1 249 0 (S_.2.2.1 243 0 p_.toNat).toNat)) 250 0 (S_.2.2.1 243 0 p_.toNat).toNat (S_.2.2.1 245 0 p_.toNat)) 246 0 (S_.2.2.1 243 0 p_.toNat).toNat ((S_.2.2.1 246 0 (S_.2.2.1 243 0 p_.toNat).toNat) + 1)) hIx57_ hFx58_ ⟨?_, ?_, ?_, ?_, trivial⟩ ?_
                  · have r6_ : ∀ j9_, ((sm_aI (sm_aI (sm_aI (sm_aI (sm_aI S_ 247 0 (S_.2.2.1 243 0 p_.toNat).toNat (S_.2.2.1 247 0 (S_.2.2.1 243 0 p_.toNat).toNat)) 248 0 (S_.2.2.1 243 0 p_.toNat).toNat (S_.2.2.1 244 0 p_.toNat)) 249 0 (S_.2.2.1 243 0 p_.toNat).toNat (S_.2.2.1 249 0 (S_.2.2.1 243 0 p_.toNat).toNat)) 250 0 (S_.2.2.1 243 0 p_.toNat).toNat (S_.2.2.1 245 0 p_.toNat)) 246 0 (S_.2.2.1 243 0 p_.toNat).toNat ((S_.2.2.1 246 0 (S_.2.2.1 243 0 p_.toNat).toNat) + 1))).2.2.1 246 0 j9_ = if j9_ = (S_.2.2.1 243 0 p_.toNat).toNat then S_.2.2.1 246 0 (S_.2.2.1 243 0 p_.toNat).toNat + 1 else S_.2.2.1 246 0 j9_ := fun j9_ => by (try simp only [rd_eq, rd_ne, rf_eq, rf_nk, rf_nt, rd_fa, rd_af, rd_fl, rd_al, rd_lf, rd_la, rd_leq, rd_lne, rd_fr, rd_ar, ne_eq, Nat.reduceEqDiff, not_false_eq_true])
                    have r3_ : ((sm_aI (sm_aI (sm_aI (sm_aI (sm_aI S_ 247 0 (S_.2.2.1 243 0 p_.toNat).toNat (S_.2.2.1 247 0 (S_.2.2.1 243 0 p_.toNat).toNat)) 248 0 (S_.2.2.1 243 0 p_.toNat).toNat (S_.2.2.1 244 0 p_.toNat)) 249 0 (S_.2.2.1 243 0 p_.toNat).toNat (S_.2.2.1 249 0 (S_.2.2.1 243 0 p_.toNat).toNat)) 250 0 (S_.2.2.1 243 0 p_.toNat).toNat (S_.2.2.1 245 0 p_.toNat)) 246 0 (S_.2.2.1 243 0 p_.toNat).toNat ((S_.2.2.1 246 0 (S_.2.2.1 243 0 p_.toNat).toNat) + 1))).2.2.1 243 0 = S_.2.2.1 243 0 := by (funext j9_; (try simp only [rd_eq, rd_ne, rf_eq, rf_nk, rf_nt, rd_fa, rd_af, rd_fl, rd_al, rd_lf, rd_la, rd_leq, rd_lne, rd_fr, rd_ar, ne_eq, Nat.reduceEqDiff, not_false_eq_true]))
                    have r9_ : ((sm_aI (sm_aI (sm_aI (sm_aI (sm_aI S_ 247 0 (S_.2.2.1 243 0 p_.toNat).toNat (S_.2.2.1 247 0 (S_.2.2.1 243 0 p_.toNat).toNat)) 248 0 (S_.2.2.1 243 0 p_.toNat).toNat (S_.2.2.1 244 0 p_.toNat)) 249 0 (S_.2.2.1 243 0 p_.toNat).toNat (S_.2.2.1 249 0 (S_.2.2.1 243 0 p_.toNat).toNat)) 250 0 (S_.2.2.1 243 0 p_.toNat).toNat (S_.2.2.1 245 0 p_.toNat)) 246 0 (S_.2.2.1 243 0 p_.toNat).toNat ((S_.2.2.1 246 0 (S_.2.2.1 243 0 p_.toNat).toNat) + 1))).1 13 0 159 = S_.1 13 0 159 := by (try simp only [rd_eq, rd_ne, rf_eq, rf_nk, rf_nt, rd_fa, rd_af, rd_fl, rd_al, rd_lf, rd_la, rd_leq, rd_lne, rd_fr, rd_ar, ne_eq, Nat.reduceEqDiff, not_false_eq_true])
                    rw [r9_]
                    omega
                  · have r6_ : ∀ j9_, ((sm_aI (sm_aI (sm_aI (sm_aI (sm_aI S_ 247 0 (S_.2.2.1 243 0 p_.toNat).toNat (S_.2.2.1 247 0 (S_.2.2.1 243 0 p_.toNat).toNat)) 248 0 (S_.2.2.1 243 0 p_.toNat).toNat (S_.2.2.1 244 0 p_.toNat)) 249 0 (S_.2.2.1 243 0 p_.toNat).toNat (S_.2.2.1 249 0 (S_.2.2.1 243 0 p_.toNat).toNat)) 250 0 (S_.2.2.1 243 0 p_.toNat).toNat (S_.2.2.1 245 0 p_.toNat)) 246 0 (S_.2.2.1 243 0 p_.toNat).toNat ((S_.2.2.1 246 0 (S_.2.2.1 243 0 p_.toNat).toNat) + 1))).2.2.1 246 0 j9_ = if j9_ = (S_.2.2.1 243 0 p_.toNat).toNat then S_.2.2.1 246 0 (S_.2.2.1 243 0 p_.toNat).toNat + 1 else S_.2.2.1 246 0 j9_ := fun j9_ => by (try simp only [rd_eq, rd_ne, rf_eq, rf_nk, rf_nt, rd_fa, rd_af, rd_fl, rd_al, rd_lf, rd_la, rd_leq, rd_lne, rd_fr, rd_ar, ne_eq, Nat.reduceEqDiff, not_false_eq_true])
                    have r3_ : ((sm_aI (sm_aI (sm_aI (sm_aI (sm_aI S_ 247 0 (S_.2.2.1 243 0 p_.toNat).toNat (S_.2.2.1 247 0 (S_.2.2.1 243 0 p_.toNat).toNat)) 248 0 (S_.2.2.1 243 0 p_.toNat).toNat (S_.2.2.1 244 0 p_.toNat)) 249 0 (S_.2.2.1 243 0 p_.toNat).toNat (S_.2.2.1 249 0 (S_.2.2.1 243 0 p_.toNat).toNat)) 250 0 (S_.2.2.1 243 0 p_.toNat).toNat (S_.2.2.1 245 0 p_.toNat)) 246 0 (S_.2.2.1 243 0 p_.toNat).toNat ((S_.2.2.1 246 0 (S_.2.2.1 243 0 p_.toNat).toNat) + 1))).2.2.1 243 0 = S_.2.2.1 243 0 := by (funext j9_; (try simp only [rd_eq, rd_ne, rf_eq, rf_nk, rf_nt, rd_fa, rd_af, rd_fl, rd_al, rd_lf, rd_la, rd_leq, rd_lne, rd_fr, rd_ar, ne_eq, Nat.reduceEqDiff, not_false_eq_true]))
                    have r9_ : ((sm_aI (sm_aI (sm_aI (sm_aI (sm_aI S_ 247 0 (S_.2.2.1 243 0 p_.toNat).toNat (S_.2.2.1 247 0 (S_.2.2.1 243 0 p_.toNat).toNat)) 248 0 (S_.2.2.1 243 0 p_.toNat).toNat (S_.2.2.1 244 0 p_.toNat)) 249 0 (S_.2.2.1 243 0 p_.toNat).toNat (S_.2.2.1 249 0 (S_.2.2.1 243 0 p_.toNat).toNat)) 250 0 (S_.2.2.1 243 0 p_.toNat).toNat (S_.2.2.1 245 0 p_.toNat)) 246 0 (S_.2.2.1 243 0 p_.toNat).toNat ((S_.2.2.1 246 0 (S_.2.2.1 243 0 p_.toNat).toNat) + 1))).1 13 0 159 = S_.1 13 0 159 := by (try simp only [rd_eq, rd_ne, rf_eq, rf_nk, rf_nt, rd_fa, rd_af, rd_fl, rd_al, rd_lf, rd_la, rd_leq, rd_lne, rd_fr, rd_ar, ne_eq, Nat.reduceEqDiff, not_false_eq_true])
                    intro k9_ k0_ k1_
                    rw [r9_] at k1_
                    have w9_ := hv_ k9_ k0_ k1_
                    (try simp only [rd_eq, rd_ne, rf_eq, rf_nk, rf_nt, rd_fa, rd_af, rd_fl, rd_al, rd_lf, rd_la, rd_leq, rd_lne, rd_fr, rd_ar, ne_eq, Nat.reduceEqDiff, not_false_eq_true])
                    exact w9_
                  · have r6_ : ∀ j9_, ((sm_aI (sm_aI (sm_aI (sm_aI (sm_aI S_ 247 0 (S_.2.2.1 243 0 p_.toNat).toNat (S_.2.2.1 247 0 (S_.2.2.1 243 0 p_.toNat).toNat)) 248 0 (S_.2.2.1 243 0 p_.toNat).toNat (S_.2.2.1 244 0 p_.toNat)) 249 0 (S_.2.2.1 243 0 p_.toNat).toNat (S_.2.2.1 249 0 (S_.2.2.1 243 0 p_.toNat).toNat)) 250 0 (S_.2.2.1 243 0 p_.toNat).toNat (S_.2.2.1 245 0 p_.toNat)) 246 0 (S_.2.2.1 243 0 p_.toNat).toNat ((S_.2.2.1 246 0 (S_.2.2.1 243 0 p_.toNat).toNat) + 1))).2.2.1 246 0 j9_ = if j9_ = (S_.2.2.1 243 0 p_.toNat).toNat then S_.2.2.1 246 0 (S_.2.2.1 243 0 p_.toNat).toNat + 1 else S_.2.2.1 246 0 j9_ := fun j9_ => by (try simp only [rd_eq, rd_ne, rf_eq, rf_nk, rf_nt, rd_fa, rd_af, rd_fl, rd_al, rd_lf, rd_la, rd_leq, rd_lne, rd_fr, rd_ar, ne_eq, Nat.reduceEqDiff, not_false_eq_true])
                    have r3_ : ((sm_aI (sm_aI (sm_aI (sm_aI (sm_aI S_ 247 0 (S_.2.2.1 243 0 p_.toNat).toNat (S_.2.2.1 247 0 (S_.2.2.1 243 0 p_.toNat).toNat)) 248 0 (S_.2.2.1 243 0 p_.toNat).toNat (S_.2.2.1 244 0 p_.toNat)) 249 0 (S_.2.2.1 243 0 p_.toNat).toNat (S_.2.2.1 249 0 (S_.2.2.1 243 0 p_.toNat).toNat)) 250 0 (S_.2.2.1 243 0 p_.toNat).toNat (S_.2.2.1 245 0 p_.toNat)) 246 0 (S_.2.2.1 243 0 p_.toNat).toNat ((S_.2.2.1 246 0 (S_.2.2.1 243 0 p_.toNat).toNat) + 1))).2.2.1 243 0 = S_.2.2.1 243 0 := by (funext j9_; (try simp only [rd_eq, rd_ne, rf_eq, rf_nk, rf_nt, rd_fa, rd_af, rd_fl, rd_al, rd_lf, rd_la, rd_leq, rd_lne, rd_fr, rd_ar, ne_eq, Nat.reduceEqDiff, not_false_eq_true]))
                    have r9_ : ((sm_aI (sm_aI (sm_aI (sm_aI (sm_aI S_ 247 0 (S_.2.2.1 243 0 p_.toNat).toNat (S_.2.2.1 247 0 (S_.2.2.1 243 0 p_.toNat).toNat)) 248 0 (S_.2.2.1 243 0 p_.toNat).toNat (S_.2.2.1 244 0 p_.toNat)) 249 0 (S_.2.2.1 243 0 p_.toNat).toNat (S_.2.2.1 249 0 (S_.2.2.1 243 0 p_.toNat).toNat)) 250 0 (S_.2.2.1 243 0 p_.toNat).toNat (S_.2.2.1 245 0 p_.toNat)) 246 0 (S_.2.2.1 243 0 p_.toNat).toNat ((S_.2.2.1 246 0 (S_.2.2.1 243 0 p_.toNat).toNat) + 1))).1 13 0 159 = S_.1 13 0 159 := by (try simp only [rd_eq, rd_ne, rf_eq, rf_nk, rf_nt, rd_fa, rd_af, rd_fl, rd_al, rd_lf, rd_la, rd_leq, rd_lne, rd_fr, rd_ar, ne_eq, Nat.reduceEqDiff, not_false_eq_true])
                    intro n9_ h9_ h8_
                    rw [r6_]
                    have w9_ := hz_ n9_ h9_ h8_
                    split
                    · omega
                    · omega
                  · have r6_ : ∀ j9_, ((sm_aI (sm_aI (sm_aI (sm_aI (sm_aI S_ 247 0 (S_.2.2.1 243 0 p_.toNat).toNat (S_.2.2.1 247 0 (S_.2.2.1 243 0 p_.toNat).toNat)) 248 0 (S_.2.2.1 243 0 p_.toNat).toNat (S_.2.2.1 244 0 p_.toNat)) 249 0 (S_.2.2.1 243 0 p_.toNat).toNat (S_.2.2.1 249 0 (S_.2.2.1 243 0 p_.toNat).toNat)) 250 0 (S_.2.2.1 243 0 p_.toNat).toNat (S_.2.2.1 245 0 p_.toNat)) 246 0 (S_.2.2.1 243 0 p_.toNat).toNat ((S_.2.2.1 246 0 (S_.2.2.1 243 0 p_.toNat).toNat) + 1))).2.2.1 246 0 j9_ = if j9_ = (S_.2.2.1 243 0 p_.toNat).toNat then S_.2.2.1 246 0 (S_.2.2.1 243 0 p_.toNat).toNat + 1 else S_.2.2.1 246 0 j9_ := fun j9_ => by (try simp only [rd_eq, rd_ne, rf_eq, rf_nk, rf_nt, rd_fa, rd_af, rd_fl, rd_al, rd_lf, rd_la, rd_leq, rd_lne, rd_fr, rd_ar, ne_eq, Nat.reduceEqDiff, not_false_eq_true])
                    have r3_ : ((sm_aI (sm_aI (sm_aI (sm_aI (sm_aI S_ 247 0 (S_.2.2.1 243 0 p_.toNat).toNat (S_.2.2.1 247 0 (S_.2.2.1 243 0 p_.toNat).toNat)) 248 0 (S_.2.2.1 243 0 p_.toNat).toNat (S_.2.2.1 244 0 p_.toNat)) 249 0 (S_.2.2.1 243 0 p_.toNat).toNat (S_.2.2.1 249 0 (S_.2.2.1 243 0 p_.toNat).toNat)) 250 0 (S_.2.2.1 243 0 p_.toNat).toNat (S_.2.2.1 245 0 p_.toNat)) 246 0 (S_.2.2.1 243 0 p_.toNat).toNat ((S_.2.2.1 246 0 (S_.2.2.1 243 0 p_.toNat).toNat) + 1))).2.2.1 243 0 = S_.2.2.1 243 0 := by (funext j9_; (try simp only [rd_eq, rd_ne, rf_eq, rf_nk, rf_nt, rd_fa, rd_af, rd_fl, rd_al, rd_lf, rd_la, rd_leq, rd_lne, rd_fr, rd_ar, ne_eq, Nat.reduceEqDiff, not_false_eq_true]))
                    have r9_ : ((sm_aI (sm_aI (sm_aI (sm_aI (sm_aI S_ 247 0 (S_.2.2.1 243 0 p_.toNat).toNat (S_.2.2.1 247 0 (S_.2.2.1 243 0 p_.toNat).toNat)) 248 0 (S_.2.2.1 243 0 p_.toNat).toNat (S_.2.2.1 244 0 p_.toNat)) 249 0 (S_.2.2.1 243 0 p_.toNat).toNat (S_.2.2.1 249 0 (S_.2.2.1 243 0 p_.toNat).toNat)) 250 0 (S_.2.2.1 243 0 p_.toNat).toNat (S_.2.2.1 245 0 p_.toNat)) 246 0 (S_.2.2.1 243 0 p_.toNat).toNat ((S_.2.2.1 246 0 (S_.2.2.1 243 0 p_.toNat).toNat) + 1))).1 13 0 159 = S_.1 13 0 159 := by (try simp only [rd_eq, rd_ne, rf_eq, rf_nk, rf_nt, rd_fa, rd_af, rd_fl, rd_al, rd_lf, rd_la, rd_leq, rd_lne, rd_fr, rd_ar, ne_eq, Nat.reduceEqDiff, not_false_eq_true])
                    intro n9_ h9_ h8_ y9_
                    rw [r6_] at y9_
                    rw [r3_]
                    by_cases q9_ : n9_.toNat = (S_.2.2.1 243 0 p_.toNat).toNat
                    · exact ⟨p_, by omega, by omega, by omega⟩
                    · rw [if_neg q9_] at y9_
                      obtain ⟨k9_, u1_, u2_, u3_⟩ := hx_ n9_ h9_ h8_ y9_
                      exact ⟨k9_, u1_, by omega, u3_⟩
                  · omega
              · have cx46_ : ¬ ((S_.2.2.1 249 0 (S_.2.2.1 243 0 p_.toNat).toNat) ≤ (S_.2.2.1 245 0 p_.toNat)) := of_decide_eq_false cx46_
                refine sm_T_go 3 (c1 := (174, [some (.inr (.inr (some (13, 0)))), some (.inl c_), some (.inl p_), some (.inl (S_.2.2.1 243 0 p_.toNat)), some (.inl 0)], [.inl p_, .inr (.inr (some (245, 0))), .inl (S_.2.2.1 243 0 p_.toNat), .inr (.inr (some (249, 0)))], sm_aI (sm_aI S_ 247 0 (S_.2.2.1 243 0 p_.toNat).toNat (S_.2.2.1 247 0 (S_.2.2.1 243 0 p_.toNat).toNat)) 248 0 (S_.2.2.1 243 0 p_.toNat).toNat (S_.2.2.1 244 0 p_.toNat))) rfl ?_
                refine sm_T_iald (n := 700) rfl rfl (by omega) (by omega) ?_
                refine sm_T_go 1 (c1 := (184, [some (.inr (.inr (some (13, 0)))), some (.inl c_), some (.inl p_), some (.inl (S_.2.2.1 243 0 p_.toNat)), some (.inl 0)], [.inl (S_.2.2.1 245 0 p_.toNat), .inl (S_.2.2.1 243 0 p_.toNat), .inr (.inr (some (249, 0)))], sm_aI (sm_aI S_ 247 0 (S_.2.2.1 243 0 p_.toNat).toNat (S_.2.2.1 247 0 (S_.2.2.1 243 0 p_.toNat).toNat)) 248 0 (S_.2.2.1 243 0 p_.toNat).toNat (S_.2.2.1 244 0 p_.toNat))) rfl ?_
                refine sm_T_iast (n := 256) rfl rfl (by omega) (by omega) ?_
                have hIx59_ : gi (sm_aI (sm_aI (sm_aI S_ 247 0 (S_.2.2.1 243 0 p_.toNat).toNat (S_.2.2.1 247 0 (S_.2.2.1 243 0 p_.toNat).toNat)) 248 0 (S_.2.2.1 243 0 p_.toNat).toNat (S_.2.2.1 244 0 p_.toNat)) 249 0 (S_.2.2.1 243 0 p_.toNat).toNat (S_.2.2.1 245 0 p_.toNat)) := gi_aI hIx42_ (show 0 ≤ (S_.2.2.1 245 0 p_.toNat) ∧ (S_.2.2.1 245 0 p_.toNat) ≤ 40 from ⟨by omega, by omega⟩)
                have hFx60_ : ai_fr (sx_W vw_440) S0_ (sm_aI (sm_aI (sm_aI S_ 247 0 (S_.2.2.1 243 0 p_.toNat).toNat (S_.2.2.1 247 0 (S_.2.2.1 243 0 p_.toNat).toNat)) 248 0 (S_.2.2.1 243 0 p_.toNat).toNat (S_.2.2.1 244 0 p_.toNat)) 249 0 (S_.2.2.1 243 0 p_.toNat).toNat (S_.2.2.1 245 0 p_.toNat)) := ai_fr_tr hFx43_ (ai_fr_aI rfl)
                refine sm_T_go 8 (c1 := (200, [some (.inr (.inr (some (13, 0)))), some (.inl c_), some (.inl p_), some (.inl (S_.2.2.1 243 0 p_.toNat)), some (.inl 0)], [.inl p_, .inr (.inr (some (245, 0))), .inl (S_.2.2.1 243 0 p_.toNat), .inr (.inr (some (250, 0)))], sm_aI (sm_aI (sm_aI S_ 247 0 (S_.2.2.1 243 0 p_.toNat).toNat (S_.2.2.1 247 0 (S_.2.2.1 243 0 p_.toNat).toNat)) 248 0 (S_.2.2.1 243 0 p_.toNat).toNat (S_.2.2.1 244 0 p_.toNat)) 249 0 (S_.2.2.1 243 0 p_.toNat).toNat (S_.2.2.1 245 0 p_.toNat))) rfl ?_
                refine sm_T_iald (n := 700) rfl rfl (by omega) (by omega) ?_
                refine sm_T_go 3 (c1 := (206, [some (.inr (.inr (some (13, 0)))), some (.inl c_), some (.inl p_), some (.inl (S_.2.2.1 243 0 p_.toNat)), some (.inl 0)], [.inl (S_.2.2.1 243 0 p_.toNat), .inr (.inr (some (250, 0))), .inl (S_.2.2.1 245 0 p_.toNat), .inl (S_.2.2.1 243 0 p_.toNat), .inr (.inr (some (250, 0)))], sm_aI (sm_aI (sm_aI S_ 247 0 (S_.2.2.1 243 0 p_.toNat).toNat (S_.2.2.1 247 0 (S_.2.2.1 243 0 p_.toNat).toNat)) 248 0 (S_.2.2.1 243 0 p_.toNat).toNat (S_.2.2.1 244 0 p_.toNat)) 249 0 (S_.2.2.1 243 0 p_.toNat).toNat (S_.2.2.1 245 0 p_.toNat))) rfl ?_
                refine sm_T_iald (n := 256) rfl rfl (by omega) (by omega) ?_
                have bx61_ : 0 ≤ S_.2.2.1 250 0 (S_.2.2.1 243 0 p_.toNat).toNat ∧ S_.2.2.1 250 0 (S_.2.2.1 243 0 p_.toNat).toNat ≤ 40 := hI_.2 250 0 _
                refine sm_T_go 0 (c1 := (207, [some (.inr (.inr (some (13, 0)))), some (.inl c_), some (.inl p_), some (.inl (S_.2.2.1 243 0 p_.toNat)), some (.inl 0)], [.inl (S_.2.2.1 250 0 (S_.2.2.1 243 0 p_.toNat).toNat), .inl (S_.2.2.1 245 0 p_.toNat), .inl (S_.2.2.1 243 0 p_.toNat), .inr (.inr (some (250, 0)))], sm_aI (sm_aI (sm_aI S_ 247 0 (S_.2.2.1 243 0 p_.toNat).toNat (S_.2.2.1 247 0 (S_.2.2.1 243 0 p_.toNat).toNat)) 248 0 (S_.2.2.1 243 0 p_.toNat).toNat (S_.2.2.1 244 0 p_.toNat)) 249 0 (S_.2.2.1 243 0 p_.toNat).toNat (S_.2.2.1 245 0 p_.toNat))) rfl ?_
                refine sm_T_br (a := 5) (z := 12) rfl (fun cx62_ => ?_) (fun cx62_ => ?_)
                · have cx62_ : (S_.2.2.1 245 0 p_.toNat) ≤ (S_.2.2.1 250 0 (S_.2.2.1 243 0 p_.toNat).toNat) := of_decide_eq_true cx62_
                  refine sm_T_go 3 (c1 := (224, [some (.inr (.inr (some (13, 0)))), some (.inl c_), some (.inl p_), some (.inl (S_.2.2.1 243 0 p_.toNat)), some (.inl 0)], [.inl (S_.2.2.1 243 0 p_.toNat), .inr (.inr (some (250, 0))), .inl (S_.2.2.1 243 0 p_.toNat), .inr (.inr (some (250, 0)))], sm_aI (sm_aI (sm_aI S_ 247 0 (S_.2.2.1 243 0 p_.toNat).toNat (S_.2.2.1 247 0 (S_.2.2.1 243 0 p_.toNat).toNat)) 248 0 (S_.2.2.1 243 0 p_.toNat).toNat (S_.2.2.1 244 0 p_.toNat)) 249 0 (S_.2.2.1 243 0 p_.toNat).toNat (S_.2.2.1 245 0 p_.toNat))) rfl ?_
                  refine sm_T_iald (n := 256) rfl rfl (by omega) (by omega) ?_
                  refine sm_T_go 0 (c1 := (225, [some (.inr (.inr (some (13, 0)))), some (.inl c_), some (.inl p_), some (.inl (S_.2.2.1 243 0 p_.toNat)), some (.inl 0)], [.inl (S_.2.2.1 250 0 (S_.2.2.1 243 0 p_.toNat).toNat), .inl (S_.2.2.1 243 0 p_.toNat), .inr (.inr (some (250, 0)))], sm_aI (sm_aI (sm_aI S_ 247 0 (S_.2.2.1 243 0 p_.toNat).toNat (S_.2.2.1 247 0 (S_.2.2.1 243 0 p_.toNat).toNat)) 248 0 (S_.2.2.1 243 0 p_.toNat).toNat (S_.2.2.1 244 0 p_.toNat)) 249 0 (S_.2.2.1 243 0 p_.toNat).toNat (S_.2.2.1 245 0 p_.toNat))) rfl ?_
                  refine sm_T_iast (n := 256) rfl rfl (by omega) (by omega) ?_
                  have hIx63_ : gi (sm_aI (sm_aI (sm_aI (sm_aI S_ 247 0 (S_.2.2.1 243 0 p_.toNat).toNat (S_.2.2.1 247 0 (S_.2.2.1 243 0 p_.toNat).toNat)) 248 0 (S_.2.2.1 243 0 p_.toNat).toNat (S_.2.2.1 244 0 p_.toNat)) 249 0 (S_.2.2.1 243 0 p_.toNat).toNat (S_.2.2.1 245 0 p_.toNat)) 250 0 (S_.2.2.1 243 0 p_.toNat).toNat (S_.2.2.1 250 0 (S_.2.2.1 243 0 p_.toNat).toNat)) := gi_aI hIx59_ (show 0 ≤ (S_.2.2.1 250 0 (S_.2.2.1 243 0 p_.toNat).toNat) ∧ (S_.2.2.1 250 0 (S_.2.2.1 243 0 p_.toNat).toNat) ≤ 40 from ⟨by omega, by omega⟩)
                  have hFx64_ : ai_fr (sx_W vw_440) S0_ (sm_aI (sm_aI (sm_aI (sm_aI S_ 247 0 (S_.2.2.1 243 0 p_.toNat).toNat (S_.2.2.1 247 0 (S_.2.2.1 243 0 p_.toNat).toNat)) 248 0 (S_.2.2.1 243 0 p_.toNat).toNat (S_.2.2.1 244 0 p_.toNat)) 249 0 (S_.2.2.1 243 0 p_.toNat).toNat (S_.2.2.1 245 0 p_.toNat)) 250 0 (S_.2.2.1 243 0 p_.toNat).toNat (S_.2.2.1 250 0 (S_.2.2.1 243 0 p_.toNat).toNat)) := ai_fr_tr hFx60_ (ai_fr_aI rfl)
                  refine sm_T_go 4 (c1 := (232, [some (.inr (.inr (some (13, 0)))), some (.inl c_), some (.inl p_), some (.inl (S_.2.2.1 243 0 p_.toNat)), some (.inl 0)], [.inl (S_.2.2.1 243 0 p_.toNat), .inr (.inr (some (246, 0))), .inl (S_.2.2.1 243 0 p_.toNat), .inr (.inr (some (246, 0)))], sm_aI (sm_aI (sm_aI (sm_aI S_ 247 0 (S_.2.2.1 243 0 p_.toNat).toNat (S_.2.2.1 247 0 (S_.2.2.1 243 0 p_.toNat).toNat)) 248 0 (S_.2.2.1 243 0 p_.toNat).toNat (S_.2.2.1 244 0 p_.toNat)) 249 0 (S_.2.2.1 243 0 p_.toNat).toNat (S_.2.2.1 245 0 p_.toNat)) 250 0 (S_.2.2.1 243 0 p_.toNat).toNat (S_.2.2.1 250 0 (S_.2.2.1 243 0 p_.toNat).toNat))) rfl ?_
                  refine sm_T_iald (n := 256) rfl rfl (by omega) (by omega) ?_
                  refine sm_T_go 1 (c1 := (234, [some (.inr (.inr (some (13, 0)))), some (.inl c_), some (.inl p_), some (.inl (S_.2.2.1 243 0 p_.toNat)), some (.inl 0)], [.inl 1, .inl (S_.2.2.1 246 0 (S_.2.2.1 243 0 p_.toNat).toNat), .inl (S_.2.2.1 243 0 p_.toNat), .inr (.inr (some (246, 0)))], sm_aI (sm_aI (sm_aI (sm_aI S_ 247 0 (S_.2.2.1 243 0 p_.toNat).toNat (S_.2.2.1 247 0 (S_.2.2.1 243 0 p_.toNat).toNat)) 248 0 (S_.2.2.1 243 0 p_.toNat).toNat (S_.2.2.1 244 0 p_.toNat)) 249 0 (S_.2.2.1 243 0 p_.toNat).toNat (S_.2.2.1 245 0 p_.toNat)) 250 0 (S_.2.2.1 243 0 p_.toNat).toNat (S_.2.2.1 250 0 (S_.2.2.1 243 0 p_.toNat).toNat))) rfl ?_
                  refine sm_T_bin (w := (S_.2.2.1 246 0 (S_.2.2.1 243 0 p_.toNat).toNat) + 1) rfl (bi_add (by omega) (by omega) (by omega)) ?_ -- pc_ 234
                  refine sm_T_iast (n := 256) rfl rfl (by omega) (by omega) ?_
                  have hIx65_ : gi (sm_aI (sm_aI (sm_aI (sm_aI (sm_aI S_ 247 0 (S_.2.2.1 243 0 p_.toNat).toNat (S_.2.2.1 247 0 (S_.2.2.1 243 0 p_.toNat).toNat)) 248 0 (S_.2.2.1 243 0 p_.toNat).toNat (S_.2.2.1 244 0 p_.toNat)) 249 0 (S_.2.2.1 243 0 p_.toNat).toNat (S_.2.2.1 245 0 p_.toNat)) 250 0 (S_.2.2.1 243 0 p_.toNat).toNat (S_.2.2.1 250 0 (S_.2.2.1 243 0 p_.toNat).toNat)) 246 0 (S_.2.2.1 243 0 p_.toNat).toNat ((S_.2.2.1 246 0 (S_.2.2.1 243 0 p_.toNat).toNat) + 1)) := gi_aI hIx63_ (show 0 ≤ (S_.2.2.1 246 0 (S_.2.2.1 243 0 p_.toNat).toNat) + 1 ∧ (S_.2.2.1 246 0 (S_.2.2.1 243 0 p_.toNat).toNat) + 1 ≤ 700 from ⟨by omega, by omega⟩)
                  have hFx66_ : ai_fr (sx_W vw_440) S0_ (sm_aI (sm_aI (sm_aI (sm_aI (sm_aI S_ 247 0 (S_.2.2.1 243 0 p_.toNat).toNat (S_.2.2.1 247 0 (S_.2.2.1 243 0 p_.toNat).toNat)) 248 0 (S_.2.2.1 243 0 p_.toNat).toNat (S_.2.2.1 244 0 p_.toNat)) 249 0 (S_.2.2.1 243 0 p_.toNat).toNat (S_.2.2.1 245 0 p_.toNat)) 250 0 (S_.2.2.1 243 0 p_.toNat).toNat (S_.2.2.1 250 0 (S_.2.2.1 243 0 p_.toNat).toNat)) 246 0 (S_.2.2.1 243 0 p_.toNat).toNat ((S_.2.2.1 246 0 (S_.2.2.1 243 0 p_.toNat).toNat) + 1)) := ai_fr_tr hFx64_ (ai_fr_aI rfl)
                  refine sm_T_inc (a := 2) (z := 1) (v := p_) (w := p_ + 1) rfl rfl (by omega) (by omega) (by omega) ?_ -- pc_ 236
                  refine sm_T_go 1 (c1 := (31, [some (.inr (.inr (some (13, 0)))), some (.inl c_), some (.inl (p_ + 1)), some (.inl (S_.2.2.1 243 0 p_.toNat)), some (.inl 0)], [], sm_aI (sm_aI (sm_aI (sm_aI (sm_aI S_ 247 0 (S_.2.2.1 243 0 p_.toNat).toNat (S_.2.2.1 247 0 (S_.2.2.1 243 0 p_.toNat).toNat)) 248 0 (S_.2.2.1 243 0 p_.toNat).toNat (S_.2.2.1 244 0 p_.toNat)) 249 0 (S_.2.2.1 243 0 p_.toNat).toNat (S_.2.2.1 245 0 p_.toNat)) 250 0 (S_.2.2.1 243 0 p_.toNat).toNat (S_.2.2.1 250 0 (S_.2.2.1 243 0 p_.toNat).toNat)) 246 0 (S_.2.2.1 243 0 p_.toNat).toNat ((S_.2.2.1 246 0 (S_.2.2.1 243 0 p_.toNat).toNat) + 1))) rfl ?_
                  refine sm_T_wk [some (.inr (.inr (some (13, 0)))), some (.inl c_), some (.inl (p_ + 1)), none, none] (by exact ⟨rfl, rfl, rfl, trivial⟩) ?_
                  refine ih_.2 (p_ + 1) (sm_aI (sm_aI (sm_aI (sm_aI (sm_aI S_ 247 0 (S_.2.2.1 243 0 p_.toNat).toNat (S_.2.2.1 247 0 (S_.2.2.1 243 0 p_.toNat).toNat)) 248 0 (S_.2.2.1 243 0 p_.toNat).toNat (S_.2.2.1 244 0 p_.toNat)) 249 0 (S_.2.2.1 243 0 p_.toNat).toNat (S_.2.2.1 245 0 p_.toNat)) 250 0 (S_.2.2.1 243 0 p_.toNat).toNat (S_.2.2.1 250 0 (S_.2.2.1 243 0 p_.toNat).toNat)) 246 0 (S_.2.2.1 243 0 p_.toNat).toNat ((S_.2.2.1 246 0 (S_.2.2.1 243 0 p_.toNat).toNat) + 1)) hIx65_ hFx66_ ⟨?_, ?_, ?_, ?_, trivial⟩ ?_
                  · have r6_ : ∀ j9_, ((sm_aI (sm_aI (sm_aI (sm_aI (sm_aI S_ 247 0 (S_.2.2.1 243 0 p_.toNat).toNat (S_.2.2.1 247 0 (S_.2.2.1 243 0 p_.toNat).toNat)) 248 0 (S_.2.2.1 243 0 p_.toNat).toNat (S_.2.2.1 244 0 p_.toNat)) 249 0 (S_.2.2.1 243 0 p_.toNat).toNat (S_.2.2.1 245 0 p_.toNat)) 250 0 (S_.2.2.1 243 0 p_.toNat).toNat (S_.2.2.1 250 0 (S_.2.2.1 243 0 p_.toNat).toNat)) 246 0 (S_.2.2.1 243 0 p_.toNat).toNat ((S_.2.2.1 246 0 (S_.2.2.1 243 0 p_.toNat).toNat) + 1))).2.2.1 246 0 j9_ = if j9_ = (S_.2.2.1 243 0 p_.toNat).toNat then S_.2.2.1 246 0 (S_.2.2.1 243 0 p_.toNat).toNat + 1 else S_.2.2.1 246 0 j9_ := fun j9_ => by (try simp only [rd_eq, rd_ne, rf_eq, rf_nk, rf_nt, rd_fa, rd_af, rd_fl, rd_al, rd_lf, rd_la, rd_leq, rd_lne, rd_fr, rd_ar, ne_eq, Nat.reduceEqDiff, not_false_eq_true])
                    have r3_ : ((sm_aI (sm_aI (sm_aI (sm_aI (sm_aI S_ 247 0 (S_.2.2.1 243 0 p_.toNat).toNat (S_.2.2.1 247 0 (S_.2.2.1 243 0 p_.toNat).toNat)) 248 0 (S_.2.2.1 243 0 p_.toNat).toNat (S_.2.2.1 244 0 p_.toNat)) 249 0 (S_.2.2.1 243 0 p_.toNat).toNat (S_.2.2.1 245 0 p_.toNat)) 250 0 (S_.2.2.1 243 0 p_.toNat).toNat (S_.2.2.1 250 0 (S_.2.2.1 243 0 p_.toNat).toNat)) 246 0 (S_.2.2.1 243 0 p_.toNat).toNat ((S_.2.2.1 246 0 (S_.2.2.1 243 0 p_.toNat).toNat) + 1))).2.2.1 243 0 = S_.2.2.1 243 0 := by (funext j9_; (try simp only [rd_eq, rd_ne, rf_eq, rf_nk, rf_nt, rd_fa, rd_af, rd_fl, rd_al, rd_lf, rd_la, rd_leq, rd_lne, rd_fr, rd_ar, ne_eq, Nat.reduceEqDiff, not_false_eq_true]))
                    have r9_ : ((sm_aI (sm_aI (sm_aI (sm_aI (sm_aI S_ 247 0 (S_.2.2.1 243 0 p_.toNat).toNat (S_.2.2.1 247 0 (S_.2.2.1 243 0 p_.toNat).toNat)) 248 0 (S_.2.2.1 243 0 p_.toNat).toNat (S_.2.2.1 244 0 p_.toNat)) 249 0 (S_.2.2.1 243 0 p_.toNat).toNat (S_.2.2.1 245 0 p_.toNat)) 250 0 (S_.2.2.1 243 0 p_.toNat).toNat (S_.2.2.1 250 0 (S_.2.2.1 243 0 p_.toNat).toNat)) 246 0 (S_.2.2.1 243 0 p_.toNat).toNat ((S_.2.2.1 246 0 (S_.2.2.1 243 0 p_.toNat).toNat) + 1))).1 13 0 159 = S_.1 13 0 159 := by (try simp only [rd_eq, rd_ne, rf_eq, rf_nk, rf_nt, rd_fa, rd_af, rd_fl, rd_al, rd_lf, rd_la, rd_leq, rd_lne, rd_fr, rd_ar, ne_eq, Nat.reduceEqDiff, not_false_eq_true])
                    rw [r9_]
                    omega
                  · have r6_ : ∀ j9_, ((sm_aI (sm_aI (sm_aI (sm_aI (sm_aI S_ 247 0 (S_.2.2.1 243 0 p_.toNat).toNat (S_.2.2.1 247 0 (S_.2.2.1 243 0 p_.toNat).toNat)) 248 0 (S_.2.2.1 243 0 p_.toNat).toNat (S_.2.2.1 244 0 p_.toNat)) 249 0 (S_.2.2.1 243 0 p_.toNat).toNat (S_.2.2.1 245 0 p_.toNat)) 250 0 (S_.2.2.1 243 0 p_.toNat).toNat (S_.2.2.1 250 0 (S_.2.2.1 243 0 p_.toNat).toNat)) 246 0 (S_.2.2.1 243 0 p_.toNat).toNat ((S_.2.2.1 246 0 (S_.2.2.1 243 0 p_.toNat).toNat) + 1))).2.2.1 246 0 j9_ = if j9_ = (S_.2.2.1 243 0 p_.toNat).toNat then S_.2.2.1 246 0 (S_.2.2.1 243 0 p_.toNat).toNat + 1 else S_.2.2.1 246 0 j9_ := fun j9_ => by (try simp only [rd_eq, rd_ne, rf_eq, rf_nk, rf_nt, rd_fa, rd_af, rd_fl, rd_al, rd_lf, rd_la, rd_leq, rd_lne, rd_fr, rd_ar, ne_eq, Nat.reduceEqDiff, not_false_eq_true])
                    have r3_ : ((sm_aI (sm_aI (sm_aI (sm_aI (sm_aI S_ 247 0 (S_.2.2.1 243 0 p_.toNat).toNat (S_.2.2.1 247 0 (S_.2.2.1 243 0 p_.toNat).toNat)) 248 0 (S_.2.2.1 243 0 p_.toNat).toNat (S_.2.2.1 244 0 p_.toNat)) 249 0 (S_.2.2.1 243 0 p_.toNat).toNat (S_.2.2.1 245 0 p_.toNat)) 250 0 (S_.2.2.1 243 0 p_.toNat).toNat (S_.2.2.1 250 0 (S_.2.2.1 243 0 p_.toNat).toNat)) 246 0 (S_.2.2.1 243 0 p_.toNat).toNat ((S_.2.2.1 246 0 (S_.2.2.1 243 0 p_.toNat).toNat) + 1))).2.2.1 243 0 = S_.2.2.1 243 0 := by (funext j9_; (try simp only [rd_eq, rd_ne, rf_eq, rf_nk, rf_nt, rd_fa, rd_af, rd_fl, rd_al, rd_lf, rd_la, rd_leq, rd_lne, rd_fr, rd_ar, ne_eq, Nat.reduceEqDiff, not_false_eq_true]))
                    have r9_ : ((sm_aI (sm_aI (sm_aI (sm_aI (sm_aI S_ 247 0 (S_.2.2.1 243 0 p_.toNat).toNat (S_.2.2.1 247 0 (S_.2.2.1 243 0 p_.toNat).toNat)) 248 0 (S_.2.2.1 243 0 p_.toNat).toNat (S_.2.2.1 244 0 p_.toNat)) 249 0 (S_.2.2.1 243 0 p_.toNat).toNat (S_.2.2.1 245 0 p_.toNat)) 250 0 (S_.2.2.1 243 0 p_.toNat).toNat (S_.2.2.1 250 0 (S_.2.2.1 243 0 p_.toNat).toNat)) 246 0 (S_.2.2.1 243 0 p_.toNat).toNat ((S_.2.2.1 246 0 (S_.2.2.1 243 0 p_.toNat).toNat) + 1))).1 13 0 159 = S_.1 13 0 159 := by (try simp only [rd_eq, rd_ne, rf_eq, rf_nk, rf_nt, rd_fa, rd_af, rd_fl, rd_al, rd_lf, rd_la, rd_leq, rd_lne, rd_fr, rd_ar, ne_eq, Nat.reduceEqDiff, not_false_eq_true])
                    intro k9_ k0_ k1_
                    rw [r9_] at k1_
                    have w9_ := hv_ k9_ k0_ k1_
                    (try simp only [rd_eq, rd_ne, rf_eq, rf_nk, rf_nt, rd_fa, rd_af, rd_fl, rd_al, rd_lf, rd_la, rd_leq, rd_lne, rd_fr, rd_ar, ne_eq, Nat.reduceEqDiff, not_false_eq_true])
                    exact w9_
                  · have r6_ : ∀ j9_, ((sm_aI (sm_aI (sm_aI (sm_aI (sm_aI S_ 247 0 (S_.2.2.1 243 0 p_.toNat).toNat (S_.2.2.1 247 0 (S_.2.2.1 243 0 p_.toNat).toNat)) 248 0 (S_.2.2.1 243 0 p_.toNat).toNat (S_.2.2.1 244 0 p_.toNat)) 249 0 (S_.2.2.1 243 0 p_.toNat).toNat (S_.2.2.1 245 0 p_.toNat)) 250 0 (S_.2.2.1 243 0 p_.toNat).toNat (S_.2.2.1 250 0 (S_.2.2.1 243 0 p_.toNat).toNat)) 246 0 (S_.2.2.1 243 0 p_.toNat).toNat ((S_.2.2.1 246 0 (S_.2.2.1 243 0 p_.toNat).toNat) + 1))).2.2.1 246 0 j9_ = if j9_ = (S_.2.2.1 243 0 p_.toNat).toNat then S_.2.2.1 246 0 (S_.2.2.1 243 0 p_.toNat).toNat + 1 else S_.2.2.1 246 0 j9_ := fun j9_ => by (try simp only [rd_eq, rd_ne, rf_eq, rf_nk, rf_nt, rd_fa, rd_af, rd_fl, rd_al, rd_lf, rd_la, rd_leq, rd_lne, rd_fr, rd_ar, ne_eq, Nat.reduceEqDiff, not_false_eq_true])
                    have r3_ : ((sm_aI (sm_aI (sm_aI (sm_aI (sm_aI S_ 247 0 (S_.2.2.1 243 0 p_.toNat).toNat (S_.2.2.1 247 0 (S_.2.2.1 243 0 p_.toNat).toNat)) 248 0 (S_.2.2.1 243 0 p_.toNat).toNat (S_.2.2.1 244 0 p_.toNat)) 249 0 (S_.2.2.1 243 0 p_.toNat).toNat (S_.2.2.1 245 0 p_.toNat)) 250 0 (S_.2.2.1 243 0 p_.toNat).toNat (S_.2.2.1 250 0 (S_.2.2.1 243 0 p_.toNat).toNat)) 246 0 (S_.2.2.1 243 0 p_.toNat).toNat ((S_.2.2.1 246 0 (S_.2.2.1 243 0 p_.toNat).toNat) + 1))).2.2.1 243 0 = S_.2.2.1 243 0 := by (funext j9_; (try simp only [rd_eq, rd_ne, rf_eq, rf_nk, rf_nt, rd_fa, rd_af, rd_fl, rd_al, rd_lf, rd_la, rd_leq, rd_lne, rd_fr, rd_ar, ne_eq, Nat.reduceEqDiff, not_false_eq_true]))
                    have r9_ : ((sm_aI (sm_aI (sm_aI (sm_aI (sm_aI S_ 247 0 (S_.2.2.1 243 0 p_.toNat).toNat (S_.2.2.1 247 0 (S_.2.2.1 243 0 p_.toNat).toNat)) 248 0 (S_.2.2.1 243 0 p_.toNat).toNat (S_.2.2.1 244 0 p_.toNat)) 249 0 (S_.2.2.1 243 0 p_.toNat).toNat (S_.2.2.1 245 0 p_.toNat)) 250 0 (S_.2.2.1 243 0 p_.toNat).toNat (S_.2.2.1 250 0 (S_.2.2.1 243 0 p_.toNat).toNat)) 246 0 (S_.2.2.1 243 0 p_.toNat).toNat ((S_.2.2.1 246 0 (S_.2.2.1 243 0 p_.toNat).toNat) + 1))).1 13 0 159 = S_.1 13 0 159 := by (try simp only [rd_eq, rd_ne, rf_eq, rf_nk, rf_nt, rd_fa, rd_af, rd_fl, rd_al, rd_lf, rd_la, rd_leq, rd_lne, rd_fr, rd_ar, ne_eq, Nat.reduceEqDiff, not_false_eq_true])
                    intro n9_ h9_ h8_
                    rw [r6_]
                    have w9_ := hz_ n9_ h9_ h8_
                    split
                    · omega
                    · omega
                  · have r6_ : ∀ j9_, ((sm_aI (sm_aI (sm_aI (sm_aI (sm_aI S_ 247 0 (S_.2.2.1 243 0 p_.toNat).toNat (S_.2.2.1 247 0 (S_.2.2.1 243 0 p_.toNat).toNat)) 248 0 (S_.2.2.1 243 0 p_.toNat).toNat (S_.2.2.1 244 0 p_.toNat)) 249 0 (S_.2.2.1 243 0 p_.toNat).toNat (S_.2.2.1 245 0 p_.toNat)) 250 0 (S_.2.2.1 243 0 p_.toNat).toNat (S_.2.2.1 250 0 (S_.2.2.1 243 0 p_.toNat).toNat)) 246 0 (S_.2.2.1 243 0 p_.toNat).toNat ((S_.2.2.1 246 0 (S_.2.2.1 243 0 p_.toNat).toNat) + 1))).2.2.1 246 0 j9_ = if j9_ = (S_.2.2.1 243 0 p_.toNat).toNat then S_.2.2.1 246 0 (S_.2.2.1 243 0 p_.toNat).toNat + 1 else S_.2.2.1 246 0 j9_ := fun j9_ => by (try simp only [rd_eq, rd_ne, rf_eq, rf_nk, rf_nt, rd_fa, rd_af, rd_fl, rd_al, rd_lf, rd_la, rd_leq, rd_lne, rd_fr, rd_ar, ne_eq, Nat.reduceEqDiff, not_false_eq_true])
                    have r3_ : ((sm_aI (sm_aI (sm_aI (sm_aI (sm_aI S_ 247 0 (S_.2.2.1 243 0 p_.toNat).toNat (S_.2.2.1 247 0 (S_.2.2.1 243 0 p_.toNat).toNat)) 248 0 (S_.2.2.1 243 0 p_.toNat).toNat (S_.2.2.1 244 0 p_.toNat)) 249 0 (S_.2.2.1 243 0 p_.toNat).toNat (S_.2.2.1 245 0 p_.toNat)) 250 0 (S_.2.2.1 243 0 p_.toNat).toNat (S_.2.2.1 250 0 (S_.2.2.1 243 0 p_.toNat).toNat)) 246 0 (S_.2.2.1 243 0 p_.toNat).toNat ((S_.2.2.1 246 0 (S_.2.2.1 243 0 p_.toNat).toNat) + 1))).2.2.1 243 0 = S_.2.2.1 243 0 := by (funext j9_; (try simp only [rd_eq, rd_ne, rf_eq, rf_nk, rf_nt, rd_fa, rd_af, rd_fl, rd_al, rd_lf, rd_la, rd_leq, rd_lne, rd_fr, rd_ar, ne_eq, Nat.reduceEqDiff, not_false_eq_true]))
                    have r9_ : ((sm_aI (sm_aI (sm_aI (sm_aI (sm_aI S_ 247 0 (S_.2.2.1 243 0 p_.toNat).toNat (S_.2.2.1 247 0 (S_.2.2.1 243 0 p_.toNat).toNat)) 248 0 (S_.2.2.1 243 0 p_.toNat).toNat (S_.2.2.1 244 0 p_.toNat)) 249 0 (S_.2.2.1 243 0 p_.toNat).toNat (S_.2.2.1 245 0 p_.toNat)) 250 0 (S_.2.2.1 243 0 p_.toNat).toNat (S_.2.2.1 250 0 (S_.2.2.1 243 0 p_.toNat).toNat)) 246 0 (S_.2.2.1 243 0 p_.toNat).toNat ((S_.2.2.1 246 0 (S_.2.2.1 243 0 p_.toNat).toNat) + 1))).1 13 0 159 = S_.1 13 0 159 := by (try simp only [rd_eq, rd_ne, rf_eq, rf_nk, rf_nt, rd_fa, rd_af, rd_fl, rd_al, rd_lf, rd_la, rd_leq, rd_lne, rd_fr, rd_ar, ne_eq, Nat.reduceEqDiff, not_false_eq_true])
                    intro n9_ h9_ h8_ y9_
                    rw [r6_] at y9_
                    rw [r3_]
                    by_cases q9_ : n9_.toNat = (S_.2.2.1 243 0 p_.toNat).toNat
                    · exact ⟨p_, by omega, by omega, by omega⟩
                    · rw [if_neg q9_] at y9_
                      obtain ⟨k9_, u1_, u2_, u3_⟩ := hx_ n9_ h9_ h8_ y9_
                      exact ⟨k9_, u1_, by omega, u3_⟩
                  · omega
                · have cx62_ : ¬ ((S_.2.2.1 245 0 p_.toNat) ≤ (S_.2.2.1 250 0 (S_.2.2.1 243 0 p_.toNat).toNat)) := of_decide_eq_false cx62_
                  refine sm_T_go 3 (c1 := (215, [some (.inr (.inr (some (13, 0)))), some (.inl c_), some (.inl p_), some (.inl (S_.2.2.1 243 0 p_.toNat)), some (.inl 0)], [.inl p_, .inr (.inr (some (245, 0))), .inl (S_.2.2.1 243 0 p_.toNat), .inr (.inr (some (250, 0)))], sm_aI (sm_aI (sm_aI S_ 247 0 (S_.2.2.1 243 0 p_.toNat).toNat (S_.2.2.1 247 0 (S_.2.2.1 243 0 p_.toNat).toNat)) 248 0 (S_.2.2.1 243 0 p_.toNat).toNat (S_.2.2.1 244 0 p_.toNat)) 249 0 (S_.2.2.1 243 0 p_.toNat).toNat (S_.2.2.1 245 0 p_.toNat))) rfl ?_
                  refine sm_T_iald (n := 700) rfl rfl (by omega) (by omega) ?_
                  refine sm_T_go 1 (c1 := (225, [some (.inr (.inr (some (13, 0)))), some (.inl c_), some (.inl p_), some (.inl (S_.2.2.1 243 0 p_.toNat)), some (.inl 0)], [.inl (S_.2.2.1 245 0 p_.toNat), .inl (S_.2.2.1 243 0 p_.toNat), .inr (.inr (some (250, 0)))], sm_aI (sm_aI (sm_aI S_ 247 0 (S_.2.2.1 243 0 p_.toNat).toNat (S_.2.2.1 247 0 (S_.2.2.1 243 0 p_.toNat).toNat)) 248 0 (S_.2.2.1 243 0 p_.toNat).toNat (S_.2.2.1 244 0 p_.toNat)) 249 0 (S_.2.2.1 243 0 p_.toNat).toNat (S_.2.2.1 245 0 p_.toNat))) rfl ?_
                  refine sm_T_iast (n := 256) rfl rfl (by omega) (by omega) ?_
                  have hIx67_ : gi (sm_aI (sm_aI (sm_aI (sm_aI S_ 247 0 (S_.2.2.1 243 0 p_.toNat).toNat (S_.2.2.1 247 0 (S_.2.2.1 243 0 p_.toNat).toNat)) 248 0 (S_.2.2.1 243 0 p_.toNat).toNat (S_.2.2.1 244 0 p_.toNat)) 249 0 (S_.2.2.1 243 0 p_.toNat).toNat (S_.2.2.1 245 0 p_.toNat)) 250 0 (S_.2.2.1 243 0 p_.toNat).toNat (S_.2.2.1 245 0 p_.toNat)) := gi_aI hIx59_ (show 0 ≤ (S_.2.2.1 245 0 p_.toNat) ∧ (S_.2.2.1 245 0 p_.toNat) ≤ 40 from ⟨by omega, by omega⟩)
                  have hFx68_ : ai_fr (sx_W vw_440) S0_ (sm_aI (sm_aI (sm_aI (sm_aI S_ 247 0 (S_.2.2.1 243 0 p_.toNat).toNat (S_.2.2.1 247 0 (S_.2.2.1 243 0 p_.toNat).toNat)) 248 0 (S_.2.2.1 243 0 p_.toNat).toNat (S_.2.2.1 244 0 p_.toNat)) 249 0 (S_.2.2.1 243 0 p_.toNat).toNat (S_.2.2.1 245 0 p_.toNat)) 250 0 (S_.2.2.1 243 0 p_.toNat).toNat (S_.2.2.1 245 0 p_.toNat)) := ai_fr_tr hFx60_ (ai_fr_aI rfl)
                  refine sm_T_go 4 (c1 := (232, [some (.inr (.inr (some (13, 0)))), some (.inl c_), some (.inl p_), some (.inl (S_.2.2.1 243 0 p_.toNat)), some (.inl 0)], [.inl (S_.2.2.1 243 0 p_.toNat), .inr (.inr (some (246, 0))), .inl (S_.2.2.1 243 0 p_.toNat), .inr (.inr (some (246, 0)))], sm_aI (sm_aI (sm_aI (sm_aI S_ 247 0 (S_.2.2.1 243 0 p_.toNat).toNat (S_.2.2.1 247 0 (S_.2.2.1 243 0 p_.toNat).toNat)) 248 0 (S_.2.2.1 243 0 p_.toNat).toNat (S_.2.2.1 244 0 p_.toNat)) 249 0 (S_.2.2.1 243 0 p_.toNat).toNat (S_.2.2.1 245 0 p_.toNat)) 250 0 (S_.2.2.1 243 0 p_.toNat).toNat (S_.2.2.1 245 0 p_.toNat))) rfl ?_
                  refine sm_T_iald (n := 256) rfl rfl (by omega) (by omega) ?_
                  refine sm_T_go 1 (c1 := (234, [some (.inr (.inr (some (13, 0)))), some (.inl c_), some (.inl p_), some (.inl (S_.2.2.1 243 0 p_.toNat)), some (.inl 0)], [.inl 1, .inl (S_.2.2.1 246 0 (S_.2.2.1 243 0 p_.toNat).toNat), .inl (S_.2.2.1 243 0 p_.toNat), .inr (.inr (some (246, 0)))], sm_aI (sm_aI (sm_aI (sm_aI S_ 247 0 (S_.2.2.1 243 0 p_.toNat).toNat (S_.2.2.1 247 0 (S_.2.2.1 243 0 p_.toNat).toNat)) 248 0 (S_.2.2.1 243 0 p_.toNat).toNat (S_.2.2.1 244 0 p_.toNat)) 249 0 (S_.2.2.1 243 0 p_.toNat).toNat (S_.2.2.1 245 0 p_.toNat)) 250 0 (S_.2.2.1 243 0 p_.toNat).toNat (S_.2.2.1 245 0 p_.toNat))) rfl ?_
                  refine sm_T_bin (w := (S_.2.2.1 246 0 (S_.2.2.1 243 0 p_.toNat).toNat) + 1) rfl (bi_add (by omega) (by omega) (by omega)) ?_ -- pc_ 234
                  refine sm_T_iast (n := 256) rfl rfl (by omega) (by omega) ?_
                  have hIx69_ : gi (sm_aI (sm_aI (sm_aI (sm_aI (sm_aI S_ 247 0 (S_.2.2.1 243 0 p_.toNat).toNat (S_.2.2.1 247 0 (S_.2.2.1 243 0 p_.toNat).toNat)) 248 0 (S_.2.2.1 243 0 p_.toNat).toNat (S_.2.2.1 244 0 p_.toNat)) 249 0 (S_.2.2.1 243 0 p_.toNat).toNat (S_.2.2.1 245 0 p_.toNat)) 250 0 (S_.2.2.1 243 0 p_.toNat).toNat (S_.2.2.1 245 0 p_.toNat)) 246 0 (S_.2.2.1 243 0 p_.toNat).toNat ((S_.2.2.1 246 0 (S_.2.2.1 243 0 p_.toNat).toNat) + 1)) := gi_aI hIx67_ (show 0 ≤ (S_.2.2.1 246 0 (S_.2.2.1 243 0 p_.toNat).toNat) + 1 ∧ (S_.2.2.1 246 0 (S_.2.2.1 243 0 p_.toNat).toNat) + 1 ≤ 700 from ⟨by omega, by omega⟩)
                  have hFx70_ : ai_fr (sx_W vw_440) S0_ (sm_aI (sm_aI (sm_aI (sm_aI (sm_aI S_ 247 0 (S_.2.2.1 243 0 p_.toNat).toNat (S_.2.2.1 247 0 (S_.2.2.1 243 0 p_.toNat).toNat)) 248 0 (S_.2.2.1 243 0 p_.toNat).toNat (S_.2.2.1 244 0 p_.toNat)) 249 0 (S_.2.2.1 243 0 p_.toNat).toNat (S_.2.2.1 245 0 p_.toNat)) 250 0 (S_.2.2.1 243 0 p_.toNat).toNat (S_.2.2.1 245 0 p_.toNat)) 246 0 (S_.2.2.1 243 0 p_.toNat).toNat ((S_.2.2.1 246 0 (S_.2.2.1 243 0 p_.toNat).toNat) + 1)) := ai_fr_tr hFx68_ (ai_fr_aI rfl)
                  refine sm_T_inc (a := 2) (z := 1) (v := p_) (w := p_ + 1) rfl rfl (by omega) (by omega) (by omega) ?_ -- pc_ 236
                  refine sm_T_go 1 (c1 := (31, [some (.inr (.inr (some (13, 0)))), some (.inl c_), some (.inl (p_ + 1)), some (.inl (S_.2.2.1 243 0 p_.toNat)), some (.inl 0)], [], sm_aI (sm_aI (sm_aI (sm_aI (sm_aI S_ 247 0 (S_.2.2.1 243 0 p_.toNat).toNat (S_.2.2.1 247 0 (S_.2.2.1 243 0 p_.toNat).toNat)) 248 0 (S_.2.2.1 243 0 p_.toNat).toNat (S_.2.2.1 244 0 p_.toNat)) 249 0 (S_.2.2.1 243 0 p_.toNat).toNat (S_.2.2.1 245 0 p_.toNat)) 250 0 (S_.2.2.1 243 0 p_.toNat).toNat (S_.2.2.1 245 0 p_.toNat)) 246 0 (S_.2.2.1 243 0 p_.toNat).toNat ((S_.2.2.1 246 0 (S_.2.2.1 243 0 p_.toNat).toNat) + 1))) rfl ?_
                  refine sm_T_wk [some (.inr (.inr (some (13, 0)))), some (.inl c_), some (.inl (p_ + 1)), none, none] (by exact ⟨rfl, rfl, rfl, trivial⟩) ?_
                  refine ih_.2 (p_ + 1) (sm_aI (sm_aI (sm_aI (sm_aI (sm_aI S_ 247 0 (S_.2.2.1 243 0 p_.toNat).toNat (S_.2.2.1 247 0 (S_.2.2.1 243 0 p_.toNat).toNat)) 248 0 (S_.2.2.1 243 0 p_.toNat).toNat (S_.2.2.1 244 0 p_.toNat)) 249 0 (S_.2.2.1 243 0 p_.toNat).toNat (S_.2.2.1 245 0 p_.toNat)) 250 0 (S_.2.2.1 243 0 p_.toNat).toNat (S_.2.2.1 245 0 p_.toNat)) 246 0 (S_.2.2.1 243 0 p_.toNat).toNat ((S_.2.2.1 246 0 (S_.2.2.1 243 0 p_.toNat).toNat) + 1)) hIx69_ hFx70_ ⟨?_, ?_, ?_, ?_, trivial⟩ ?_
                  · have r6_ : ∀ j9_, ((sm_aI (sm_aI (sm_aI (sm_aI (sm_aI S_ 247 0 (S_.2.2.1 243 0 p_.toNat).toNat (S_.2.2.1 247 0 (S_.2.2.1 243 0 p_.toNat).toNat)) 248 0 (S_.2.2.1 243 0 p_.toNat).toNat (S_.2.2.1 244 0 p_.toNat)) 249 0 (S_.2.2.1 243 0 p_.toNat).toNat (S_.2.2.1 245 0 p_.toNat)) 250 0 (S_.2.2.1 243 0 p_.toNat).toNat (S_.2.2.1 245 0 p_.toNat)) 246 0 (S_.2.2.1 243 0 p_.toNat).toNat ((S_.2.2.1 246 0 (S_.2.2.1 243 0 p_.toNat).toNat) + 1))).2.2.1 246 0 j9_ = if j9_ = (S_.2.2.1 243 0 p_.toNat).toNat then S_.2.2.1 246 0 (S_.2.2.1 243 0 p_.toNat).toNat + 1 else S_.2.2.1 246 0 j9_ := fun j9_ => by (try simp only [rd_eq, rd_ne, rf_eq, rf_nk, rf_nt, rd_fa, rd_af, rd_fl, rd_al, rd_lf, rd_la, rd_leq, rd_lne, rd_fr, rd_ar, ne_eq, Nat.reduceEqDiff, not_false_eq_true])
                    have r3_ : ((sm_aI (sm_aI (sm_aI (sm_aI (sm_aI S_ 247 0 (S_.2.2.1 243 0 p_.toNat).toNat (S_.2.2.1 247 0 (S_.2.2.1 243 0 p_.toNat).toNat)) 248 0 (S_.2.2.1 243 0 p_.toNat).toNat (S_.2.2.1 244 0 p_.toNat)) 249 0 (S_.2.2.1 243 0 p_.toNat).toNat (S_.2.2.1 245 0 p_.toNat)) 250 0 (S_.2.2.1 243 0 p_.toNat).toNat (S_.2.2.1 245 0 p_.toNat)) 246 0 (S_.2.2.1 243 0 p_.toNat).toNat ((S_.2.2.1 246 0 (S_.2.2.1 243 0 p_.toNat).toNat) + 1))).2.2.1 243 0 = S_.2.2.1 243 0 := by (funext j9_; (try simp only [rd_eq, rd_ne, rf_eq, rf_nk, rf_nt, rd_fa, rd_af, rd_fl, rd_al, rd_lf, rd_la, rd_leq, rd_lne, rd_fr, rd_ar, ne_eq, Nat.reduceEqDiff, not_false_eq_true]))
                    have r9_ : ((sm_aI (sm_aI (sm_aI (sm_aI (sm_aI S_ 247 0 (S_.2.2.1 243 0 p_.toNat).toNat (S_.2.2.1 247 0 (S_.2.2.1 243 0 p_.toNat).toNat)) 248 0 (S_.2.2.1 243 0 p_.toNat).toNat (S_.2.2.1 244 0 p_.toNat)) 249 0 (S_.2.2.1 243 0 p_.toNat).toNat (S_.2.2.1 245 0 p_.toNat)) 250 0 (S_.2.2.1 243 0 p_.toNat).toNat (S_.2.2.1 245 0 p_.toNat)) 246 0 (S_.2.2.1 243 0 p_.toNat).toNat ((S_.2.2.1 246 0 (S_.2.2.1 243 0 p_.toNat).toNat) + 1))).1 13 0 159 = S_.1 13 0 159 := by (try simp only [rd_eq, rd_ne, rf_eq, rf_nk, rf_nt, rd_fa, rd_af, rd_fl, rd_al, rd_lf, rd_la, rd_leq, rd_lne, rd_fr, rd_ar, ne_eq, Nat.reduceEqDiff, not_false_eq_true])
                    rw [r9_]
                    omega
                  · have r6_ : ∀ j9_, ((sm_aI (sm_aI (sm_aI (sm_aI (sm_aI S_ 247 0 (S_.2.2.1 243 0 p_.toNat).toNat (S_.2.2.1 247 0 (S_.2.2.1 243 0 p_.toNat).toNat)) 248 0 (S_.2.2.1 243 0 p_.toNat).toNat (S_.2.2.1 244 0 p_.toNat)) 249 0 (S_.2.2.1 243 0 p_.toNat).toNat (S_.2.2.1 245 0 p_.toNat)) 250 0 (S_.2.2.1 243 0 p_.toNat).toNat (S_.2.2.1 245 0 p_.toNat)) 246 0 (S_.2.2.1 243 0 p_.toNat).toNat ((S_.2.2.1 246 0 (S_.2.2.1 243 0 p_.toNat).toNat) + 1))).2.2.1 246 0 j9_ = if j9_ = (S_.2.2.1 243 0 p_.toNat).toNat then S_.2.2.1 246 0 (S_.2.2.1 243 0 p_.toNat).toNat + 1 else S_.2.2.1 246 0 j9_ := fun j9_ => by (try simp only [rd_eq, rd_ne, rf_eq, rf_nk, rf_nt, rd_fa, rd_af, rd_fl, rd_al, rd_lf, rd_la, rd_leq, rd_lne, rd_fr, rd_ar, ne_eq, Nat.reduceEqDiff, not_false_eq_true])
                    have r3_ : ((sm_aI (sm_aI (sm_aI (sm_aI (sm_aI S_ 247 0 (S_.2.2.1 243 0 p_.toNat).toNat (S_.2.2.1 247 0 (S_.2.2.1 243 0 p_.toNat).toNat)) 248 0 (S_.2.2.1 243 0 p_.toNat).toNat (S_.2.2.1 244 0 p_.toNat)) 249 0 (S_.2.2.1 243 0 p_.toNat).toNat (S_.2.2.1 245 0 p_.toNat)) 250 0 (S_.2.2.1 243 0 p_.toNat).toNat (S_.2.2.1 245 0 p_.toNat)) 246 0 (S_.2.2.1 243 0 p_.toNat).toNat ((S_.2.2.1 246 0 (S_.2.2.1 243 0 p_.toNat).toNat) + 1))).2.2.1 243 0 = S_.2.2.1 243 0 := by (funext j9_; (try simp only [rd_eq, rd_ne, rf_eq, rf_nk, rf_nt, rd_fa, rd_af, rd_fl, rd_al, rd_lf, rd_la, rd_leq, rd_lne, rd_fr, rd_ar, ne_eq, Nat.reduceEqDiff, not_false_eq_true]))
                    have r9_ : ((sm_aI (sm_aI (sm_aI (sm_aI (sm_aI S_ 247 0 (S_.2.2.1 243 0 p_.toNat).toNat (S_.2.2.1 247 0 (S_.2.2.1 243 0 p_.toNat).toNat)) 248 0 (S_.2.2.1 243 0 p_.toNat).toNat (S_.2.2.1 244 0 p_.toNat)) 249 0 (S_.2.2.1 243 0 p_.toNat).toNat (S_.2.2.1 245 0 p_.toNat)) 250 0 (S_.2.2.1 243 0 p_.toNat).toNat (S_.2.2.1 245 0 p_.toNat)) 246 0 (S_.2.2.1 243 0 p_.toNat).toNat ((S_.2.2.1 246 0 (S_.2.2.1 243 0 p_.toNat).toNat) + 1))).1 13 0 159 = S_.1 13 0 159 := by (try simp only [rd_eq, rd_ne, rf_eq, rf_nk, rf_nt, rd_fa, rd_af, rd_fl, rd_al, rd_lf, rd_la, rd_leq, rd_lne, rd_fr, rd_ar, ne_eq, Nat.reduceEqDiff, not_false_eq_true])
                    intro k9_ k0_ k1_
                    rw [r9_] at k1_
                    have w9_ := hv_ k9_ k0_ k1_
                    (try simp only [rd_eq, rd_ne, rf_eq, rf_nk, rf_nt, rd_fa, rd_af, rd_fl, rd_al, rd_lf, rd_la, rd_leq, rd_lne, rd_fr, rd_ar, ne_eq, Nat.reduceEqDiff, not_false_eq_true])
                    exact w9_
                  · have r6_ : ∀ j9_, ((sm_aI (sm_aI (sm_aI (sm_aI (sm_aI S_ 247 0 (S_.2.2.1 243 0 p_.toNat).toNat (S_.2.2.1 247 0 (S_.2.2.1 243 0 p_.toNat).toNat)) 248 0 (S_.2.2.1 243 0 p_.toNat).toNat (S_.2.2.1 244 0 p_.toNat)) 249 0 (S_.2.2.1 243 0 p_.toNat).toNat (S_.2.2.1 245 0 p_.toNat)) 250 0 (S_.2.2.1 243 0 p_.toNat).toNat (S_.2.2.1 245 0 p_.toNat)) 246 0 (S_.2.2.1 243 0 p_.toNat).toNat ((S_.2.2.1 246 0 (S_.2.2.1 243 0 p_.toNat).toNat) + 1))).2.2.1 246 0 j9_ = if j9_ = (S_.2.2.1 243 0 p_.toNat).toNat then S_.2.2.1 246 0 (S_.2.2.1 243 0 p_.toNat).toNat + 1 else S_.2.2.1 246 0 j9_ := fun j9_ => by (try simp only [rd_eq, rd_ne, rf_eq, rf_nk, rf_nt, rd_fa, rd_af, rd_fl, rd_al, rd_lf, rd_la, rd_leq, rd_lne, rd_fr, rd_ar, ne_eq, Nat.reduceEqDiff, not_false_eq_true])
                    have r3_ : ((sm_aI (sm_aI (sm_aI (sm_aI (sm_aI S_ 247 0 (S_.2.2.1 243 0 p_.toNat).toNat (S_.2.2.1 247 0 (S_.2.2.1 243 0 p_.toNat).toNat)) 248 0 (S_.2.2.1 243 0 p_.toNat).toNat (S_.2.2.1 244 0 p_.toNat)) 249 0 (S_.2.2.1 243 0 p_.toNat).toNat (S_.2.2.1 245 0 p_.toNat)) 250 0 (S_.2.2.1 243 0 p_.toNat).toNat (S_.2.2.1 245 0 p_.toNat)) 246 0 (S_.2.2.1 243 0 p_.toNat).toNat ((S_.2.2.1 246 0 (S_.2.2.1 243 0 p_.toNat).toNat) + 1))).2.2.1 243 0 = S_.2.2.1 243 0 := by (funext j9_; (try simp only [rd_eq, rd_ne, rf_eq, rf_nk, rf_nt, rd_fa, rd_af, rd_fl, rd_al, rd_lf, rd_la, rd_leq, rd_lne, rd_fr, rd_ar, ne_eq, Nat.reduceEqDiff, not_false_eq_true]))
                    have r9_ : ((sm_aI (sm_aI (sm_aI (sm_aI (sm_aI S_ 247 0 (S_.2.2.1 243 0 p_.toNat).toNat (S_.2.2.1 247 0 (S_.2.2.1 243 0 p_.toNat).toNat)) 248 0 (S_.2.2.1 243 0 p_.toNat).toNat (S_.2.2.1 244 0 p_.toNat)) 249 0 (S_.2.2.1 243 0 p_.toNat).toNat (S_.2.2.1 245 0 p_.toNat)) 250 0 (S_.2.2.1 243 0 p_.toNat).toNat (S_.2.2.1 245 0 p_.toNat)) 246 0 (S_.2.2.1 243 0 p_.toNat).toNat ((S_.2.2.1 246 0 (S_.2.2.1 243 0 p_.toNat).toNat) + 1))).1 13 0 159 = S_.1 13 0 159 := by (try simp only [rd_eq, rd_ne, rf_eq, rf_nk, rf_nt, rd_fa, rd_af, rd_fl, rd_al, rd_lf, rd_la, rd_leq, rd_lne, rd_fr, rd_ar, ne_eq, Nat.reduceEqDiff, not_false_eq_true])
                    intro n9_ h9_ h8_
                    rw [r6_]
                    have w9_ := hz_ n9_ h9_ h8_
                    split
                    · omega
                    · omega
                  · have r6_ : ∀ j9_, ((sm_aI (sm_aI (sm_aI (sm_aI (sm_aI S_ 247 0 (S_.2.2.1 243 0 p_.toNat).toNat (S_.2.2.1 247 0 (S_.2.2.1 243 0 p_.toNat).toNat)) 248 0 (S_.2.2.1 243 0 p_.toNat).toNat (S_.2.2.1 244 0 p_.toNat)) 249 0 (S_.2.2.1 243 0 p_.toNat).toNat (S_.2.2.1 245 0 p_.toNat)) 250 0 (S_.2.2.1 243 0 p_.toNat).toNat (S_.2.2.1 245 0 p_.toNat)) 246 0 (S_.2.2.1 243 0 p_.toNat).toNat ((S_.2.2.1 246 0 (S_.2.2.1 243 0 p_.toNat).toNat) + 1))).2.2.1 246 0 j9_ = if j9_ = (S_.2.2.1 243 0 p_.toNat).toNat then S_.2.2.1 246 0 (S_.2.2.1 243 0 p_.toNat).toNat + 1 else S_.2.2.1 246 0 j9_ := fun j9_ => by (try simp only [rd_eq, rd_ne, rf_eq, rf_nk, rf_nt, rd_fa, rd_af, rd_fl, rd_al, rd_lf, rd_la, rd_leq, rd_lne, rd_fr, rd_ar, ne_eq, Nat.reduceEqDiff, not_false_eq_true])
                    have r3_ : ((sm_aI (sm_aI (sm_aI (sm_aI (sm_aI S_ 247 0 (S_.2.2.1 243 0 p_.toNat).toNat (S_.2.2.1 247 0 (S_.2.2.1 243 0 p_.toNat).toNat)) 248 0 (S_.2.2.1 243 0 p_.toNat).toNat (S_.2.2.1 244 0 p_.toNat)) 249 0 (S_.2.2.1 243 0 p_.toNat).toNat (S_.2.2.1 245 0 p_.toNat)) 250 0 (S_.2.2.1 243 0 p_.toNat).toNat (S_.2.2.1 245 0 p_.toNat)) 246 0 (S_.2.2.1 243 0 p_.toNat).toNat ((S_.2.2.1 246 0 (S_.2.2.1 243 0 p_.toNat).toNat) + 1))).2.2.1 243 0 = S_.2.2.1 243 0 := by (funext j9_; (try simp only [rd_eq, rd_ne, rf_eq, rf_nk, rf_nt, rd_fa, rd_af, rd_fl, rd_al, rd_lf, rd_la, rd_leq, rd_lne, rd_fr, rd_ar, ne_eq, Nat.reduceEqDiff, not_false_eq_true]))
                    have r9_ : ((sm_aI (sm_aI (sm_aI (sm_aI (sm_aI S_ 247 0 (S_.2.2.1 243 0 p_.toNat).toNat (S_.2.2.1 247 0 (S_.2.2.1 243 0 p_.toNat).toNat)) 248 0 (S_.2.2.1 243 0 p_.toNat).toNat (S_.2.2.1 244 0 p_.toNat)) 249 0 (S_.2.2.1 243 0 p_.toNat).toNat (S_.2.2.1 245 0 p_.toNat)) 250 0 (S_.2.2.1 243 0 p_.toNat).toNat (S_.2.2.1 245 0 p_.toNat)) 246 0 (S_.2.2.1 243 0 p_.toNat).toNat ((S_.2.2.1 246 0 (S_.2.2.1 243 0 p_.toNat).toNat) + 1))).1 13 0 159 = S_.1 13 0 159 := by (try simp only [rd_eq, rd_ne, rf_eq, rf_nk, rf_nt, rd_fa, rd_af, rd_fl, rd_al, rd_lf, rd_la, rd_leq, rd_lne, rd_fr, rd_ar, ne_eq, Nat.reduceEqDiff, not_false_eq_true])
                    intro n9_ h9_ h8_ y9_
                    rw [r6_] at y9_
                    rw [r3_]
                    by_cases q9_ : n9_.toNat = (S_.2.2.1 243 0 p_.toNat).toNat
                    · exact ⟨p_, by omega, by omega, by omega⟩
                    · rw [if_neg q9_] at y9_
                      obtain ⟨k9_, u1_, u2_, u3_⟩ := hx_ n9_ h9_ h8_ y9_
                      exact ⟨k9_, u1_, by omega, u3_⟩
                  · omega
          · have cx8_ : ¬ ((S_.2.2.1 247 0 (S_.2.2.1 243 0 p_.toNat).toNat) ≤ (S_.2.2.1 244 0 p_.toNat)) := of_decide_eq_false cx8_
            refine sm_T_go 3 (c1 := (92, [some (.inr (.inr (some (13, 0)))), some (.inl c_), some (.inl p_), some (.inl (S_.2.2.1 243 0 p_.toNat)), some (.inl 0)], [.inl p_, .inr (.inr (some (244, 0))), .inl (S_.2.2.1 243 0 p_.toNat), .inr (.inr (some (247, 0)))], S_)) rfl ?_
            refine sm_T_iald (n := 700) rfl rfl (by omega) (by omega) ?_
            refine sm_T_go 1 (c1 := (102, [some (.inr (.inr (some (13, 0)))), some (.inl c_), some (.inl p_), some (.inl (S_.2.2.1 243 0 p_.toNat)), some (.inl 0)], [.inl (S_.2.2.1 244 0 p_.toNat), .inl (S_.2.2.1 243 0 p_.toNat), .inr (.inr (some (247, 0)))], S_)) rfl ?_
            refine sm_T_iast (n := 256) rfl rfl (by omega) (by omega) ?_
            have hIx71_ : gi (sm_aI S_ 247 0 (S_.2.2.1 243 0 p_.toNat).toNat (S_.2.2.1 244 0 p_.toNat)) := gi_aI hI_ (show 0 ≤ (S_.2.2.1 244 0 p_.toNat) ∧ (S_.2.2.1 244 0 p_.toNat) ≤ 200 from ⟨by omega, by omega⟩)
            have hFx72_ : ai_fr (sx_W vw_440) S0_ (sm_aI S_ 247 0 (S_.2.2.1 243 0 p_.toNat).toNat (S_.2.2.1 244 0 p_.toNat)) := ai_fr_tr hF_ (ai_fr_aI rfl)
            refine sm_T_go 8 (c1 := (118, [some (.inr (.inr (some (13, 0)))), some (.inl c_), some (.inl p_), some (.inl (S_.2.2.1 243 0 p_.toNat)), some (.inl 0)], [.inl p_, .inr (.inr (some (244, 0))), .inl (S_.2.2.1 243 0 p_.toNat), .inr (.inr (some (248, 0)))], sm_aI S_ 247 0 (S_.2.2.1 243 0 p_.toNat).toNat (S_.2.2.1 244 0 p_.toNat))) rfl ?_
            refine sm_T_iald (n := 700) rfl rfl (by omega) (by omega) ?_
            refine sm_T_go 3 (c1 := (124, [some (.inr (.inr (some (13, 0)))), some (.inl c_), some (.inl p_), some (.inl (S_.2.2.1 243 0 p_.toNat)), some (.inl 0)], [.inl (S_.2.2.1 243 0 p_.toNat), .inr (.inr (some (248, 0))), .inl (S_.2.2.1 244 0 p_.toNat), .inl (S_.2.2.1 243 0 p_.toNat), .inr (.inr (some (248, 0)))], sm_aI S_ 247 0 (S_.2.2.1 243 0 p_.toNat).toNat (S_.2.2.1 244 0 p_.toNat))) rfl ?_
            refine sm_T_iald (n := 256) rfl rfl (by omega) (by omega) ?_
            have bx73_ : 0 ≤ S_.2.2.1 248 0 (S_.2.2.1 243 0 p_.toNat).toNat ∧ S_.2.2.1 248 0 (S_.2.2.1 243 0 p_.toNat).toNat ≤ 200 := hI_.2 248 0 _
            refine sm_T_go 0 (c1 := (125, [some (.inr (.inr (some (13, 0)))), some (.inl c_), some (.inl p_), some (.inl (S_.2.2.1 243 0 p_.toNat)), some (.inl 0)], [.inl (S_.2.2.1 248 0 (S_.2.2.1 243 0 p_.toNat).toNat), .inl (S_.2.2.1 244 0 p_.toNat), .inl (S_.2.2.1 243 0 p_.toNat), .inr (.inr (some (248, 0)))], sm_aI S_ 247 0 (S_.2.2.1 243 0 p_.toNat).toNat (S_.2.2.1 244 0 p_.toNat))) rfl ?_
            refine sm_T_br (a := 5) (z := 12) rfl (fun cx74_ => ?_) (fun cx74_ => ?_)
            · have cx74_ : (S_.2.2.1 244 0 p_.toNat) ≤ (S_.2.2.1 248 0 (S_.2.2.1 243 0 p_.toNat).toNat) := of_decide_eq_true cx74_
              refine sm_T_go 3 (c1 := (142, [some (.inr (.inr (some (13, 0)))), some (.inl c_), some (.inl p_), some (.inl (S_.2.2.1 243 0 p_.toNat)), some (.inl 0)], [.inl (S_.2.2.1 243 0 p_.toNat), .inr (.inr (some (248, 0))), .inl (S_.2.2.1 243 0 p_.toNat), .inr (.inr (some (248, 0)))], sm_aI S_ 247 0 (S_.2.2.1 243 0 p_.toNat).toNat (S_.2.2.1 244 0 p_.toNat))) rfl ?_
              refine sm_T_iald (n := 256) rfl rfl (by omega) (by omega) ?_
              refine sm_T_go 0 (c1 := (143, [some (.inr (.inr (some (13, 0)))), some (.inl c_), some (.inl p_), some (.inl (S_.2.2.1 243 0 p_.toNat)), some (.inl 0)], [.inl (S_.2.2.1 248 0 (S_.2.2.1 243 0 p_.toNat).toNat), .inl (S_.2.2.1 243 0 p_.toNat), .inr (.inr (some (248, 0)))], sm_aI S_ 247 0 (S_.2.2.1 243 0 p_.toNat).toNat (S_.2.2.1 244 0 p_.toNat))) rfl ?_
              refine sm_T_iast (n := 256) rfl rfl (by omega) (by omega) ?_
              have hIx75_ : gi (sm_aI (sm_aI S_ 247 0 (S_.2.2.1 243 0 p_.toNat).toNat (S_.2.2.1 244 0 p_.toNat)) 248 0 (S_.2.2.1 243 0 p_.toNat).toNat (S_.2.2.1 248 0 (S_.2.2.1 243 0 p_.toNat).toNat)) := gi_aI hIx71_ (show 0 ≤ (S_.2.2.1 248 0 (S_.2.2.1 243 0 p_.toNat).toNat) ∧ (S_.2.2.1 248 0 (S_.2.2.1 243 0 p_.toNat).toNat) ≤ 200 from ⟨by omega, by omega⟩)
              have hFx76_ : ai_fr (sx_W vw_440) S0_ (sm_aI (sm_aI S_ 247 0 (S_.2.2.1 243 0 p_.toNat).toNat (S_.2.2.1 244 0 p_.toNat)) 248 0 (S_.2.2.1 243 0 p_.toNat).toNat (S_.2.2.1 248 0 (S_.2.2.1 243 0 p_.toNat).toNat)) := ai_fr_tr hFx72_ (ai_fr_aI rfl)
              refine sm_T_go 8 (c1 := (159, [some (.inr (.inr (some (13, 0)))), some (.inl c_), some (.inl p_), some (.inl (S_.2.2.1 243 0 p_.toNat)), some (.inl 0)], [.inl p_, .inr (.inr (some (245, 0))), .inl (S_.2.2.1 243 0 p_.toNat), .inr (.inr (some (249, 0)))], sm_aI (sm_aI S_ 247 0 (S_.2.2.1 243 0 p_.toNat).toNat (S_.2.2.1 244 0 p_.toNat)) 248 0 (S_.2.2.1 243 0 p_.toNat).toNat (S_.2.2.1 248 0 (S_.2.2.1 243 0 p_.toNat).toNat))) rfl ?_
              refine sm_T_iald (n := 700) rfl rfl (by omega) (by omega) ?_
              have bx77_ : 0 ≤ S_.2.2.1 245 0 p_.toNat ∧ S_.2.2.1 245 0 p_.toNat ≤ 40 := hI_.2 245 0 _
              refine sm_T_go 3 (c1 := (165, [some (.inr (.inr (some (13, 0)))), some (.inl c_), some (.inl p_), some (.inl (S_.2.2.1 243 0 p_.toNat)), some (.inl 0)], [.inl (S_.2.2.1 243 0 p_.toNat), .inr (.inr (some (249, 0))), .inl (S_.2.2.1 245 0 p_.toNat), .inl (S_.2.2.1 243 0 p_.toNat), .inr (.inr (some (249, 0)))], sm_aI (sm_aI S_ 247 0 (S_.2.2.1 243 0 p_.toNat).toNat (S_.2.2.1 244 0 p_.toNat)) 248 0 (S_.2.2.1 243 0 p_.toNat).toNat (S_.2.2.1 248 0 (S_.2.2.1 243 0 p_.toNat).toNat))) rfl ?_
              refine sm_T_iald (n := 256) rfl rfl (by omega) (by omega) ?_
              have bx78_ : 0 ≤ S_.2.2.1 249 0 (S_.2.2.1 243 0 p_.toNat).toNat ∧ S_.2.2.1 249 0 (S_.2.2.1 243 0 p_.toNat).toNat ≤ 40 := hI_.2 249 0 _
              refine sm_T_go 0 (c1 := (166, [some (.inr (.inr (some (13, 0)))), some (.inl c_), some (.inl p_), some (.inl (S_.2.2.1 243 0 p_.toNat)), some (.inl 0)], [.inl (S_.2.2.1 249 0 (S_.2.2.1 243 0 p_.toNat).toNat), .inl (S_.2.2.1 245 0 p_.toNat), .inl (S_.2.2.1 243 0 p_.toNat), .inr (.inr (some (249, 0)))], sm_aI (sm_aI S_ 247 0 (S_.2.2.1 243 0 p_.toNat).toNat (S_.2.2.1 244 0 p_.toNat)) 248 0 (S_.2.2.1 243 0 p_.toNat).toNat (S_.2.2.1 248 0 (S_.2.2.1 243 0 p_.toNat).toNat))) rfl ?_
              refine sm_T_br (a := 3) (z := 12) rfl (fun cx79_ => ?_) (fun cx79_ => ?_)
              · have cx79_ : (S_.2.2.1 249 0 (S_.2.2.1 243 0 p_.toNat).toNat) ≤ (S_.2.2.1 245 0 p_.toNat) := of_decide_eq_true cx79_
                refine sm_T_go 3 (c1 := (183, [some (.inr (.inr (some (13, 0)))), some (.inl c_), some (.inl p_), some (.inl (S_.2.2.1 243 0 p_.toNat)), some (.inl 0)], [.inl (S_.2.2.1 243 0 p_.toNat), .inr (.inr (some (249, 0))), .inl (S_.2.2.1 243 0 p_.toNat), .inr (.inr (some (249, 0)))], sm_aI (sm_aI S_ 247 0 (S_.2.2.1 243 0 p_.toNat).toNat (S_.2.2.1 244 0 p_.toNat)) 248 0 (S_.2.2.1 243 0 p_.toNat).toNat (S_.2.2.1 248 0 (S_.2.2.1 243 0 p_.toNat).toNat))) rfl ?_
                refine sm_T_iald (n := 256) rfl rfl (by omega) (by omega) ?_
                refine sm_T_go 0 (c1 := (184, [some (.inr (.inr (some (13, 0)))), some (.inl c_), some (.inl p_), some (.inl (S_.2.2.1 243 0 p_.toNat)), some (.inl 0)], [.inl (S_.2.2.1 249 0 (S_.2.2.1 243 0 p_.toNat).toNat), .inl (S_.2.2.1 243 0 p_.toNat), .inr (.inr (some (249, 0)))], sm_aI (sm_aI S_ 247 0 (S_.2.2.1 243 0 p_.toNat).toNat (S_.2.2.1 244 0 p_.toNat)) 248 0 (S_.2.2.1 243 0 p_.toNat).toNat (S_.2.2.1 248 0 (S_.2.2.1 243 0 p_.toNat).toNat))) rfl ?_
                refine sm_T_iast (n := 256) rfl rfl (by omega) (by omega) ?_
                have hIx80_ : gi (sm_aI (sm_aI (sm_aI S_ 247 0 (S_.2.2.1 243 0 p_.toNat).toNat (S_.2.2.1 244 0 p_.toNat)) 248 0 (S_.2.2.1 243 0 p_.toNat).toNat (S_.2.2.1 248 0 (S_.2.2.1 243 0 p_.toNat).toNat)) 249 0 (S_.2.2.1 243 0 p_.toNat).toNat (S_.2.2.1 249 0 (S_.2.2.1 243 0 p_.toNat).toNat)) := gi_aI hIx75_ (show 0 ≤ (S_.2.2.1 249 0 (S_.2.2.1 243 0 p_.toNat).toNat) ∧ (S_.2.2.1 249 0 (S_.2.2.1 243 0 p_.toNat).toNat) ≤ 40 from ⟨by omega, by omega⟩)
                have hFx81_ : ai_fr (sx_W vw_440) S0_ (sm_aI (sm_aI (sm_aI S_ 247 0 (S_.2.2.1 243 0 p_.toNat).toNat (S_.2.2.1 244 0 p_.toNat)) 248 0 (S_.2.2.1 243 0 p_.toNat).toNat (S_.2.2.1 248 0 (S_.2.2.1 243 0 p_.toNat).toNat)) 249 0 (S_.2.2.1 243 0 p_.toNat).toNat (S_.2.2.1 249 0 (S_.2.2.1 243 0 p_.toNat).toNat)) := ai_fr_tr hFx76_ (ai_fr_aI rfl)
                refine sm_T_go 8 (c1 := (200, [some (.inr (.inr (some (13, 0)))), some (.inl c_), some (.inl p_), some (.inl (S_.2.2.1 243 0 p_.toNat)), some (.inl 0)], [.inl p_, .inr (.inr (some (245, 0))), .inl (S_.2.2.1 243 0 p_.toNat), .inr (.inr (some (250, 0)))], sm_aI (sm_aI (sm_aI S_ 247 0 (S_.2.2.1 243 0 p_.toNat).toNat (S_.2.2.1 244 0 p_.toNat)) 248 0 (S_.2.2.1 243 0 p_.toNat).toNat (S_.2.2.1 248 0 (S_.2.2.1 243 0 p_.toNat).toNat)) 249 0 (S_.2.2.1 243 0 p_.toNat).toNat (S_.2.2.1 249 0 (S_.2.2.1 243 0 p_.toNat).toNat))) rfl ?_
                refine sm_T_iald (n := 700) rfl rfl (by omega) (by omega) ?_
                refine sm_T_go 3 (c1 := (206, [some (.inr (.inr (some (13, 0)))), some (.inl c_), some (.inl p_), some (.inl (S_.2.2.1 243 0 p_.toNat)), some (.inl 0)], [.inl (S_.2.2.1 243 0 p_.toNat), .inr (.inr (some (250, 0))), .inl (S_.2.2.1 245 0 p_.toNat), .inl (S_.2.2.1 243 0 p_.toNat), .inr (.inr (some (250, 0)))], sm_aI (sm_aI (sm_aI S_ 247 0 (S_.2.2.1 243 0 p_.toNat).toNat (S_.2.2.1 244 0 p_.toNat)) 248 0 (S_.2.2.1 243 0 p_.toNat).toNat (S_.2.2.1 248 0 (S_.2.2.1 243 0 p_.toNat).toNat)) 249 0 (S_.2.2.1 243 0 p_.toNat).toNat (S_.2.2.1 249 0 (S_.2.2.1 243 0 p_.toNat).toNat))) rfl ?_
                refine sm_T_iald (n := 256) rfl rfl (by omega) (by omega) ?_
                have bx82_ : 0 ≤ S_.2.2.1 250 0 (S_.2.2.1 243 0 p_.toNat).toNat ∧ S_.2.2.1 250 0 (S_.2.2.1 243 0 p_.toNat).toNat ≤ 40 := hI_.2 250 0 _
                refine sm_T_go 0 (c1 := (207, [some (.inr (.inr (some (13, 0)))), some (.inl c_), some (.inl p_), some (.inl (S_.2.2.1 243 0 p_.toNat)), some (.inl 0)], [.inl (S_.2.2.1 250 0 (S_.2.2.1 243 0 p_.toNat).toNat), .inl (S_.2.2.1 245 0 p_.toNat), .inl (S_.2.2.1 243 0 p_.toNat), .inr (.inr (some (250, 0)))], sm_aI (sm_aI (sm_aI S_ 247 0 (S_.2.2.1 243 0 p_.toNat).toNat (S_.2.2.1 244 0 p_.toNat)) 248 0 (S_.2.2.1 243 0 p_.toNat).toNat (S_.2.2.1 248 0 (S_.2.2.1 243 0 p_.toNat).toNat)) 249 0 (S_.2.2.1 243 0 p_.toNat).toNat (S_.2.2.1 249 0 (S_.2.2.1 243 0 p_.toNat).toNat))) rfl ?_
                refine sm_T_br (a := 5) (z := 12) rfl (fun cx83_ => ?_) (fun cx83_ => ?_)
                · have cx83_ : (S_.2.2.1 245 0 p_.toNat) ≤ (S_.2.2.1 250 0 (S_.2.2.1 243 0 p_.toNat).toNat) := of_decide_eq_true cx83_
                  refine sm_T_go 3 (c1 := (224, [some (.inr (.inr (some (13, 0)))), some (.inl c_), some (.inl p_), some (.inl (S_.2.2.1 243 0 p_.toNat)), some (.inl 0)], [.inl (S_.2.2.1 243 0 p_.toNat), .inr (.inr (some (250, 0))), .inl (S_.2.2.1 243 0 p_.toNat), .inr (.inr (some (250, 0)))], sm_aI (sm_aI (sm_aI S_ 247 0 (S_.2.2.1 243 0 p_.toNat).toNat (S_.2.2.1 244 0 p_.toNat)) 248 0 (S_.2.2.1 243 0 p_.toNat).toNat (S_.2.2.1 248 0 (S_.2.2.1 243 0 p_.toNat).toNat)) 249 0 (S_.2.2.1 243 0 p_.toNat).toNat (S_.2.2.1 249 0 (S_.2.2.1 243 0 p_.toNat).toNat))) rfl ?_
                  refine sm_T_iald (n := 256) rfl rfl (by omega) (by omega) ?_
                  refine sm_T_go 0 (c1 := (225, [some (.inr (.inr (some (13, 0)))), some (.inl c_), some (.inl p_), some (.inl (S_.2.2.1 243 0 p_.toNat)), some (.inl 0)], [.inl (S_.2.2.1 250 0 (S_.2.2.1 243 0 p_.toNat).toNat), .inl (S_.2.2.1 243 0 p_.toNat), .inr (.inr (some (250, 0)))], sm_aI (sm_aI (sm_aI S_ 247 0 (S_.2.2.1 243 0 p_.toNat).toNat (S_.2.2.1 244 0 p_.toNat)) 248 0 (S_.2.2.1 243 0 p_.toNat).toNat (S_.2.2.1 248 0 (S_.2.2.1 243 0 p_.toNat).toNat)) 249 0 (S_.2.2.1 243 0 p_.toNat).toNat (S_.2.2.1 249 0 (S_.2.2.1 243 0 p_.toNat).toNat))) rfl ?_
                  refine sm_T_iast (n := 256) rfl rfl (by omega) (by omega) ?_
                  have hIx84_ : gi (sm_aI (sm_aI (sm_aI (sm_aI S_ 247 0 (S_.2.2.1 243 0 p_.toNat).toNat (S_.2.2.1 244 0 p_.toNat)) 248 0 (S_.2.2.1 243 0 p_.toNat).toNat (S_.2.2.1 248 0 (S_.2.2.1 243 0 p_.toNat).toNat)) 249 0 (S_.2.2.1 243 0 p_.toNat).toNat (S_.2.2.1 249 0 (S_.2.2.1 243 0 p_.toNat).toNat)) 250 0 (S_.2.2.1 243 0 p_.toNat).toNat (S_.2.2.1 250 0 (S_.2.2.1 243 0 p_.toNat).toNat)) := gi_aI hIx80_ (show 0 ≤ (S_.2.2.1 250 0 (S_.2.2.1 243 0 p_.toNat).toNat) ∧ (S_.2.2.1 250 0 (S_.2.2.1 243 0 p_.toNat).toNat) ≤ 40 from ⟨by omega, by omega⟩)
                  have hFx85_ : ai_fr (sx_W vw_440) S0_ (sm_aI (sm_aI (sm_aI (sm_aI S_ 247 0 (S_.2.2.1 243 0 p_.toNat).toNat (S_.2.2.1 244 0 p_.toNat)) 248 0 (S_.2.2.1 243 0 p_.toNat).toNat (S_.2.2.1 248 0 (S_.2.2.1 243 0 p_.toNat).toNat)) 249 0 (S_.2.2.1 243 0 p_.toNat).toNat (S_.2.2.1 249 0 (S_.2.2.1 243 0 p_.toNat).toNat)) 250 0 (S_.2.2.1 243 0 p_.toNat).toNat (S_.2.2.1 250 0 (S_.2.2.1 243 0 p_.toNat).toNat)) := ai_fr_tr hFx81_ (ai_fr_aI rfl)
                  refine sm_T_go 4 (c1 := (232, [some (.inr (.inr (some (13, 0)))), some (.inl c_), some (.inl p_), some (.inl (S_.2.2.1 243 0 p_.toNat)), some (.inl 0)], [.inl (S_.2.2.1 243 0 p_.toNat), .inr (.inr (some (246, 0))), .inl (S_.2.2.1 243 0 p_.toNat), .inr (.inr (some (246, 0)))], sm_aI (sm_aI (sm_aI (sm_aI S_ 247 0 (S_.2.2.1 243 0 p_.toNat).toNat (S_.2.2.1 244 0 p_.toNat)) 248 0 (S_.2.2.1 243 0 p_.toNat).toNat (S_.2.2.1 248 0 (S_.2.2.1 243 0 p_.toNat).toNat)) 249 0 (S_.2.2.1 243 0 p_.toNat).toNat (S_.2.2.1 249 0 (S_.2.2.1 243 0 p_.toNat).toNat)) 250 0 (S_.2.2.1 243 0 p_.toNat).toNat (S_.2.2.1 250 0 (S_.2.2.1 243 0 p_.toNat).toNat))) rfl ?_
                  refine sm_T_iald (n := 256) rfl rfl (by omega) (by omega) ?_
                  refine sm_T_go 1 (c1 := (234, [some (.inr (.inr (some (13, 0)))), some (.inl c_), some (.inl p_), some (.inl (S_.2.2.1 243 0 p_.toNat)), some (.inl 0)], [.inl 1, .inl (S_.2.2.1 246 0 (S_.2.2.1 243 0 p_.toNat).toNat), .inl (S_.2.2.1 243 0 p_.toNat), .inr (.inr (some (246, 0)))], sm_aI (sm_aI (sm_aI (sm_aI S_ 247 0 (S_.2.2.1 243 0 p_.toNat).toNat (S_.2.2.1 244 0 p_.toNat)) 248 0 (S_.2.2.1 243 0 p_.toNat).toNat (S_.2.2.1 248 0 (S_.2.2.1 243 0 p_.toNat).toNat)) 249 0 (S_.2.2.1 243 0 p_.toNat).toNat (S_.2.2.1 249 0 (S_.2.2.1 243 0 p_.toNat).toNat)) 250 0 (S_.2.2.1 243 0 p_.toNat).toNat (S_.2.2.1 250 0 (S_.2.2.1 243 0 p_.toNat).toNat))) rfl ?_
                  refine sm_T_bin (w := (S_.2.2.1 246 0 (S_.2.2.1 243 0 p_.toNat).toNat) + 1) rfl (bi_add (by omega) (by omega) (by omega)) ?_ -- pc_ 234
                  refine sm_T_iast (n := 256) rfl rfl (by omega) (by omega) ?_
                  have hIx86_ : gi (sm_aI (sm_aI (sm_aI (sm_aI (sm_aI S_ 247 0 (S_.2.2.1 243 0 p_.toNat).toNat (S_.2.2.1 244 0 p_.toNat)) 248 0 (S_.2.2.1 243 0 p_.toNat).toNat (S_.2.2.1 248 0 (S_.2.2.1 243 0 p_.toNat).toNat)) 249 0 (S_.2.2.1 243 0 p_.toNat).toNat (S_.2.2.1 249 0 (S_.2.2.1 243 0 p_.toNat).toNat)) 250 0 (S_.2.2.1 243 0 p_.toNat).toNat (S_.2.2.1 250 0 (S_.2.2.1 243 0 p_.toNat).toNat)) 246 0 (S_.2.2.1 243 0 p_.toNat).toNat ((S_.2.2.1 246 0 (S_.2.2.1 243 0 p_.toNat).toNat) + 1)) := gi_aI hIx84_ (show 0 ≤ (S_.2.2.1 246 0 (S_.2.2.1 243 0 p_.toNat).toNat) + 1 ∧ (S_.2.2.1 246 0 (S_.2.2.1 243 0 p_.toNat).toNat) + 1 ≤ 700 from ⟨by omega, by omega⟩)
                  have hFx87_ : ai_fr (sx_W vw_440) S0_ (sm_aI (sm_aI (sm_aI (sm_aI (sm_aI S_ 247 0 (S_.2.2.1 243 0 p_.toNat).toNat (S_.2.2.1 244 0 p_.toNat)) 248 0 (S_.2.2.1 243 0 p_.toNat).toNat (S_.2.2.1 248 0 (S_.2.2.1 243 0 p_.toNat).toNat)) 249 0 (S_.2.2.1 243 0 p_.toNat).toNat (S_.2.2.1 249 0 (S_.2.2.1 243 0 p_.toNat).toNat)) 250 0 (S_.2.2.1 243 0 p_.toNat).toNat (S_.2.2.1 250 0 (S_.2.2.1 243 0 p_.toNat).toNat)) 246 0 (S_.2.2.1 243 0 p_.toNat).toNat ((S_.2.2.1 246 0 (S_.2.2.1 243 0 p_.toNat).toNat) + 1)) := ai_fr_tr hFx85_ (ai_fr_aI rfl)
                  refine sm_T_inc (a := 2) (z := 1) (v := p_) (w := p_ + 1) rfl rfl (by omega) (by omega) (by omega) ?_ -- pc_ 236
                  refine sm_T_go 1 (c1 := (31, [some (.inr (.inr (some (13, 0)))), some (.inl c_), some (.inl (p_ + 1)), some (.inl (S_.2.2.1 243 0 p_.toNat)), some (.inl 0)], [], sm_aI (sm_aI (sm_aI (sm_aI (sm_aI S_ 247 0 (S_.2.2.1 243 0 p_.toNat).toNat (S_.2.2.1 244 0 p_.toNat)) 248 0 (S_.2.2.1 243 0 p_.toNat).toNat (S_.2.2.1 248 0 (S_.2.2.1 243 0 p_.toNat).toNat)) 249 0 (S_.2.2.1 243 0 p_.toNat).toNat (S_.2.2.1 249 0 (S_.2.2.1 243 0 p_.toNat).toNat)) 250 0 (S_.2.2.1 243 0 p_.toNat).toNat (S_.2.2.1 250 0 (S_.2.2.1 243 0 p_.toNat).toNat)) 246 0 (S_.2.2.1 243 0 p_.toNat).toNat ((S_.2.2.1 246 0 (S_.2.2.1 243 0 p_.toNat).toNat) + 1))) rfl ?_
                  refine sm_T_wk [some (.inr (.inr (some (13, 0)))), some (.inl c_), some (.inl (p_ + 1)), none, none] (by exact ⟨rfl, rfl, rfl, trivial⟩) ?_
                  refine ih_.2 (p_ + 1) (sm_aI (sm_aI (sm_aI (sm_aI (sm_aI S_ 247 0 (S_.2.2.1 243 0 p_.toNat).toNat (S_.2.2.1 244 0 p_.toNat)) 248 0 (S_.2.2.1 243 0 p_.toNat).toNat (S_.2.2.1 248 0 (S_.2.2.1 243 0 p_.toNat).toNat)) 249 0 (S_.2.2.1 243 0 p_.toNat).toNat (S_.2.2.1 249 0 (S_.2.2.1 243 0 p_.toNat).toNat)) 250 0 (S_.2.2.1 243 0 p_.toNat).toNat (S_.2.2.1 250 0 (S_.2.2.1 243 0 p_.toNat).toNat)) 246 0 (S_.2.2.1 243 0 p_.toNat).toNat ((S_.2.2.1 246 0 (S_.2.2.1 243 0 p_.toNat).toNat) + 1)) hIx86_ hFx87_ ⟨?_, ?_, ?_, ?_, trivial⟩ ?_
                  · have r6_ : ∀ j9_, ((sm_aI (sm_aI (sm_aI (sm_aI (sm_aI S_ 247 0 (S_.2.2.1 243 0 p_.toNat).toNat (S_.2.2.1 244 0 p_.toNat)) 248 0 (S_.2.2.1 243 0 p_.toNat).toNat (S_.2.2.1 248 0 (S_.2.2.1 243 0 p_.toNat).toNat)) 249 0 (S_.2.2.1 243 0 p_.toNat).toNat (S_.2.2.1 249 0 (S_.2.2.1 243 0 p_.toNat).toNat)) 250 0 (S_.2.2.1 243 0 p_.toNat).toNat (S_.2.2.1 250 0 (S_.2.2.1 243 0 p_.toNat).toNat)) 246 0 (S_.2.2.1 243 0 p_.toNat).toNat ((S_.2.2.1 246 0 (S_.2.2.1 243 0 p_.toNat).toNat) + 1))).2.2.1 246 0 j9_ = if j9_ = (S_.2.2.1 243 0 p_.toNat).toNat then S_.2.2.1 246 0 (S_.2.2.1 243 0 p_.toNat).toNat + 1 else S_.2.2.1 246 0 j9_ := fun j9_ => by (try simp only [rd_eq, rd_ne, rf_eq, rf_nk, rf_nt, rd_fa, rd_af, rd_fl, rd_al, rd_lf, rd_la, rd_leq, rd_lne, rd_fr, rd_ar, ne_eq, Nat.reduceEqDiff, not_false_eq_true])
                    have r3_ : ((sm_aI (sm_aI (sm_aI (sm_aI (sm_aI S_ 247 0 (S_.2.2.1 243 0 p_.toNat).toNat (S_.2.2.1 244 0 p_.toNat)) 248 0 (S_.2.2.1 243 0 p_.toNat).toNat (S_.2.2.1 248 0 (S_.2.2.1 243 0 p_.toNat).toNat)) 249 0 (S_.2.2.1 243 0 p_.toNat).toNat (S_.2.2.1 249 0 (S_.2.2.1 243 0 p_.toNat).toNat)) 250 0 (S_.2.2.1 243 0 p_.toNat).toNat (S_.2.2.1 250 0 (S_.2.2.1 243 0 p_.toNat).toNat)) 246 0 (S_.2.2.1 243 0 p_.toNat).toNat ((S_.2.2.1 246 0 (S_.2.2.1 243 0 p_.toNat).toNat) + 1))).2.2.1 243 0 = S_.2.2.1 243 0 := by (funext j9_; (try simp only [rd_eq, rd_ne, rf_eq, rf_nk, rf_nt, rd_fa, rd_af, rd_fl, rd_al, rd_lf, rd_la, rd_leq, rd_lne, rd_fr, rd_ar, ne_eq, Nat.reduceEqDiff, not_false_eq_true]))
                    have r9_ : ((sm_aI (sm_aI (sm_aI (sm_aI (sm_aI S_ 247 0 (S_.2.2.1 243 0 p_.toNat).toNat (S_.2.2.1 244 0 p_.toNat)) 248 0 (S_.2.2.1 243 0 p_.toNat).toNat (S_.2.2.1 248 0 (S_.2.2.1 243 0 p_.toNat).toNat)) 249 0 (S_.2.2.1 243 0 p_.toNat).toNat (S_.2.2.1 249 0 (S_.2.2.1 243 0 p_.toNat).toNat)) 250 0 (S_.2.2.1 243 0 p_.toNat).toNat (S_.2.2.1 250 0 (S_.2.2.1 243 0 p_.toNat).toNat)) 246 0 (S_.2.2.1 243 0 p_.toNat).toNat ((S_.2.2.1 246 0 (S_.2.2.1 243 0 p_.toNat).toNat) + 1))).1 13 0 159 = S_.1 13 0 159 := by (try simp only [rd_eq, rd_ne, rf_eq, rf_nk, rf_nt, rd_fa, rd_af, rd_fl, rd_al, rd_lf, rd_la, rd_leq, rd_lne, rd_fr, rd_ar, ne_eq, Nat.reduceEqDiff, not_false_eq_true])
                    rw [r9_]
                    omega
                  · have r6_ : ∀ j9_, ((sm_aI (sm_aI (sm_aI (sm_aI (sm_aI S_ 247 0 (S_.2.2.1 243 0 p_.toNat).toNat (S_.2.2.1 244 0 p_.toNat)) 248 0 (S_.2.2.1 243 0 p_.toNat).toNat (S_.2.2.1 248 0 (S_.2.2.1 243 0 p_.toNat).toNat)) 249 0 (S_.2.2.1 243 0 p_.toNat).toNat (S_.2.2.1 249 0 (S_.2.2.1 243 0 p_.toNat).toNat)) 250 0 (S_.2.2.1 243 0 p_.toNat).toNat (S_.2.2.1 250 0 (S_.2.2.1 243 0 p_.toNat).toNat)) 246 0 (S_.2.2.1 243 0 p_.toNat).toNat ((S_.2.2.1 246 0 (S_.2.2.1 243 0 p_.toNat).toNat) + 1))).2.2.1 246 0 j9_ = if j9_ = (S_.2.2.1 243 0 p_.toNat).toNat then S_.2.2.1 246 0 (S_.2.2.1 243 0 p_.toNat).toNat + 1 else S_.2.2.1 246 0 j9_ := fun j9_ => by (try simp only [rd_eq, rd_ne, rf_eq, rf_nk, rf_nt, rd_fa, rd_af, rd_fl, rd_al, rd_lf, rd_la, rd_leq, rd_lne, rd_fr, rd_ar, ne_eq, Nat.reduceEqDiff, not_false_eq_true])
                    have r3_ : ((sm_aI (sm_aI (sm_aI (sm_aI (sm_aI S_ 247 0 (S_.2.2.1 243 0 p_.toNat).toNat (S_.2.2.1 244 0 p_.toNat)) 248 0 (S_.2.2.1 243 0 p_.toNat).toNat (S_.2.2.1 248 0 (S_.2.2.1 243 0 p_.toNat).toNat)) 249 0 (S_.2.2.1 243 0 p_.toNat).toNat (S_.2.2.1 249 0 (S_.2.2.1 243 0 p_.toNat).toNat)) 250 0 (S_.2.2.1 243 0 p_.toNat).toNat (S_.2.2.1 250 0 (S_.2.2.1 243 0 p_.toNat).toNat)) 246 0 (S_.2.2.1 243 0 p_.toNat).toNat ((S_.2.2.1 246 0 (S_.2.2.1 243 0 p_.toNat).toNat) + 1))).2.2.1 243 0 = S_.2.2.1 243 0 := by (funext j9_; (try simp only [rd_eq, rd_ne, rf_eq, rf_nk, rf_nt, rd_fa, rd_af, rd_fl, rd_al, rd_lf, rd_la, rd_leq, rd_lne, rd_fr, rd_ar, ne_eq, Nat.reduceEqDiff, not_false_eq_true]))
                    have r9_ : ((sm_aI (sm_aI (sm_aI (sm_aI (sm_aI S_ 247 0 (S_.2.2.1 243 0 p_.toNat).toNat (S_.2.2.1 244 0 p_.toNat)) 248 0 (S_.2.2.1 243 0 p_.toNat).toNat (S_.2.2.1 248 0 (S_.2.2.1 243 0 p_.toNat).toNat)) 249 0 (S_.2.2.1 243 0 p_.toNat).toNat (S_.2.2.1 249 0 (S_.2.2.1 243 0 p_.toNat).toNat)) 250 0 (S_.2.2.1 243 0 p_.toNat).toNat (S_.2.2.1 250 0 (S_.2.2.1 243 0 p_.toNat).toNat)) 246 0 (S_.2.2.1 243 0 p_.toNat).toNat ((S_.2.2.1 246 0 (S_.2.2.1 243 0 p_.toNat).toNat) + 1))).1 13 0 159 = S_.1 13 0 159 := by (try simp only [rd_eq, rd_ne, rf_eq, rf_nk, rf_nt, rd_fa, rd_af, rd_fl, rd_al, rd_lf, rd_la, rd_leq, rd_lne, rd_fr, rd_ar, ne_eq, Nat.reduceEqDiff, not_false_eq_true])
                    intro k9_ k0_ k1_
                    rw [r9_] at k1_
                    have w9_ := hv_ k9_ k0_ k1_
                    (try simp only [rd_eq, rd_ne, rf_eq, rf_nk, rf_nt, rd_fa, rd_af, rd_fl, rd_al, rd_lf, rd_la, rd_leq, rd_lne, rd_fr, rd_ar, ne_eq, Nat.reduceEqDiff, not_false_eq_true])
                    exact w9_
                  · have r6_ : ∀ j9_, ((sm_aI (sm_aI (sm_aI (sm_aI (sm_aI S_ 247 0 (S_.2.2.1 243 0 p_.toNat).toNat (S_.2.2.1 244 0 p_.toNat)) 248 0 (S_.2.2.1 243 0 p_.toNat).toNat (S_.2.2.1 248 0 (S_.2.2.1 243 0 p_.toNat).toNat)) 249 0 (S_.2.2.1 243 0 p_.toNat).toNat (S_.2.2.1 249 0 (S_.2.2.1 243 0 p_.toNat).toNat)) 250 0 (S_.2.2.1 243 0 p_.toNat).toNat (S_.2.2.1 250 0 (S_.2.2.1 243 0 p_.toNat).toNat)) 246 0 (S_.2.2.1 243 0 p_.toNat).toNat ((S_.2.2.1 246 0 (S_.2.2.1 243 0 p_.toNat).toNat) + 1))).2.2.1 246 0 j9_ = if j9_ = (S_.2.2.1 243 0 p_.toNat).toNat then S_.2.2.1 246 0 (S_.2.2.1 243 0 p_.toNat).toNat + 1 else S_.2.2.1 246 0 j9_ := fun j9_ => by (try simp only [rd_eq, rd_ne, rf_eq, rf_nk, rf_nt, rd_fa, rd_af, rd_fl, rd_al, rd_lf, rd_la, rd_leq, rd_lne, rd_fr, rd_ar, ne_eq, Nat.reduceEqDiff, not_false_eq_true])
                    have r3_ : ((sm_aI (sm_aI (sm_aI (sm_aI (sm_aI S_ 247 0 (S_.2.2.1 243 0 p_.toNat).toNat (S_.2.2.1 244 0 p_.toNat)) 248 0 (S_.2.2.1 243 0 p_.toNat).toNat (S_.2.2.1 248 0 (S_.2.2.1 243 0 p_.toNat).toNat)) 249 0 (S_.2.2.1 243 0 p_.toNat).toNat (S_.2.2.1 249 0 (S_.2.2.1 243 0 p_.toNat).toNat)) 250 0 (S_.2.2.1 243 0 p_.toNat).toNat (S_.2.2.1 250 0 (S_.2.2.1 243 0 p_.toNat).toNat)) 246 0 (S_.2.2.1 243 0 p_.toNat).toNat ((S_.2.2.1 246 0 (S_.2.2.1 243 0 p_.toNat).toNat) + 1))).2.2.1 243 0 = S_.2.2.1 243 0 := by (funext j9_; (try simp only [rd_eq, rd_ne, rf_eq, rf_nk, rf_nt, rd_fa, rd_af, rd_fl, rd_al, rd_lf, rd_la, rd_leq, rd_lne, rd_fr, rd_ar, ne_eq, Nat.reduceEqDiff, not_false_eq_true]))
                    have r9_ : ((sm_aI (sm_aI (sm_aI (sm_aI (sm_aI S_ 247 0 (S_.2.2.1 243 0 p_.toNat).toNat (S_.2.2.1 244 0 p_.toNat)) 248 0 (S_.2.2.1 243 0 p_.toNat).toNat (S_.2.2.1 248 0 (S_.2.2.1 243 0 p_.toNat).toNat)) 249 0 (S_.2.2.1 243 0 p_.toNat).toNat (S_.2.2.1 249 0 (S_.2.2.1 243 0 p_.toNat).toNat)) 250 0 (S_.2.2.1 243 0 p_.toNat).toNat (S_.2.2.1 250 0 (S_.2.2.1 243 0 p_.toNat).toNat)) 246 0 (S_.2.2.1 243 0 p_.toNat).toNat ((S_.2.2.1 246 0 (S_.2.2.1 243 0 p_.toNat).toNat) + 1))).1 13 0 159 = S_.1 13 0 159 := by (try simp only [rd_eq, rd_ne, rf_eq, rf_nk, rf_nt, rd_fa, rd_af, rd_fl, rd_al, rd_lf, rd_la, rd_leq, rd_lne, rd_fr, rd_ar, ne_eq, Nat.reduceEqDiff, not_false_eq_true])
                    intro n9_ h9_ h8_
                    rw [r6_]
                    have w9_ := hz_ n9_ h9_ h8_
                    split
                    · omega
                    · omega
                  · have r6_ : ∀ j9_, ((sm_aI (sm_aI (sm_aI (sm_aI (sm_aI S_ 247 0 (S_.2.2.1 243 0 p_.toNat).toNat (S_.2.2.1 244 0 p_.toNat)) 248 0 (S_.2.2.1 243 0 p_.toNat).toNat (S_.2.2.1 248 0 (S_.2.2.1 243 0 p_.toNat).toNat)) 249 0 (S_.2.2.1 243 0 p_.toNat).toNat (S_.2.2.1 249 0 (S_.2.2.1 243 0 p_.toNat).toNat)) 250 0 (S_.2.2.1 243 0 p_.toNat).toNat (S_.2.2.1 250 0 (S_.2.2.1 243 0 p_.toNat).toNat)) 246 0 (S_.2.2.1 243 0 p_.toNat).toNat ((S_.2.2.1 246 0 (S_.2.2.1 243 0 p_.toNat).toNat) + 1))).2.2.1 246 0 j9_ = if j9_ = (S_.2.2.1 243 0 p_.toNat).toNat then S_.2.2.1 246 0 (S_.2.2.1 243 0 p_.toNat).toNat + 1 else S_.2.2.1 246 0 j9_ := fun j9_ => by (try simp only [rd_eq, rd_ne, rf_eq, rf_nk, rf_nt, rd_fa, rd_af, rd_fl, rd_al, rd_lf, rd_la, rd_leq, rd_lne, rd_fr, rd_ar, ne_eq, Nat.reduceEqDiff, not_false_eq_true])
                    have r3_ : ((sm_aI (sm_aI (sm_aI (sm_aI (sm_aI S_ 247 0 (S_.2.2.1 243 0 p_.toNat).toNat (S_.2.2.1 244 0 p_.toNat)) 248 0 (S_.2.2.1 243 0 p_.toNat).toNat (S_.2.2.1 248 0 (S_.2.2.1 243 0 p_.toNat).toNat)) 249 0 (S_.2.2.1 243 0 p_.toNat).toNat (S_.2.2.1 249 0 (S_.2.2.1 243 0 p_.toNat).toNat)) 250 0 (S_.2.2.1 243 0 p_.toNat).toNat (S_.2.2.1 250 0 (S_.2.2.1 243 0 p_.toNat).toNat)) 246 0 (S_.2.2.1 243 0 p_.toNat).toNat ((S_.2.2.1 246 0 (S_.2.2.1 243 0 p_.toNat).toNat) + 1))).2.2.1 243 0 = S_.2.2.1 243 0 := by (funext j9_; (try simp only [rd_eq, rd_ne, rf_eq, rf_nk, rf_nt, rd_fa, rd_af, rd_fl, rd_al, rd_lf, rd_la, rd_leq, rd_lne, rd_fr, rd_ar, ne_eq, Nat.reduceEqDiff, not_false_eq_true]))
                    have r9_ : ((sm_aI (sm_aI (sm_aI (sm_aI (sm_aI S_ 247 0 (S_.2.2.1 243 0 p_.toNat).toNat (S_.2.2.1 244 0 p_.toNat)) 248 0 (S_.2.2.1 243 0 p_.toNat).toNat (S_.2.2.1 248 0 (S_.2.2.1 243 0 p_.toNat).toNat)) 249 0 (S_.2.2.1 243 0 p_.toNat).toNat (S_.2.2.1 249 0 (S_.2.2.1 243 0 p_.toNat).toNat)) 250 0 (S_.2.2.1 243 0 p_.toNat).toNat (S_.2.2.1 250 0 (S_.2.2.1 243 0 p_.toNat).toNat)) 246 0 (S_.2.2.1 243 0 p_.toNat).toNat ((S_.2.2.1 246 0 (S_.2.2.1 243 0 p_.toNat).toNat) + 1))).1 13 0 159 = S_.1 13 0 159 := by (try simp only [rd_eq, rd_ne, rf_eq, rf_nk, rf_nt, rd_fa, rd_af, rd_fl, rd_al, rd_lf, rd_la, rd_leq, rd_lne, rd_fr, rd_ar, ne_eq, Nat.reduceEqDiff, not_false_eq_true])
                    intro n9_ h9_ h8_ y9_
                    rw [r6_] at y9_
                    rw [r3_]
                    by_cases q9_ : n9_.toNat = (S_.2.2.1 243 0 p_.toNat).toNat
                    · exact ⟨p_, by omega, by omega, by omega⟩
                    · rw [if_neg q9_] at y9_
                      obtain ⟨k9_, u1_, u2_, u3_⟩ := hx_ n9_ h9_ h8_ y9_
                      exact ⟨k9_, u1_, by omega, u3_⟩
                  · omega
                · have cx83_ : ¬ ((S_.2.2.1 245 0 p_.toNat) ≤ (S_.2.2.1 250 0 (S_.2.2.1 243 0 p_.toNat).toNat)) := of_decide_eq_false cx83_
                  refine sm_T_go 3 (c1 := (215, [some (.inr (.inr (some (13, 0)))), some (.inl c_), some (.inl p_), some (.inl (S_.2.2.1 243 0 p_.toNat)), some (.inl 0)], [.inl p_, .inr (.inr (some (245, 0))), .inl (S_.2.2.1 243 0 p_.toNat), .inr (.inr (some (250, 0)))], sm_aI (sm_aI (sm_aI S_ 247 0 (S_.2.2.1 243 0 p_.toNat).toNat (S_.2.2.1 244 0 p_.toNat)) 248 0 (S_.2.2.1 243 0 p_.toNat).toNat (S_.2.2.1 248 0 (S_.2.2.1 243 0 p_.toNat).toNat)) 249 0 (S_.2.2.1 243 0 p_.toNat).toNat (S_.2.2.1 249 0 (S_.2.2.1 243 0 p_.toNat).toNat))) rfl ?_
                  refine sm_T_iald (n := 700) rfl rfl (by omega) (by omega) ?_
                  refine sm_T_go 1 (c1 := (225, [some (.inr (.inr (some (13, 0)))), some (.inl c_), some (.inl p_), some (.inl (S_.2.2.1 243 0 p_.toNat)), some (.inl 0)], [.inl (S_.2.2.1 245 0 p_.toNat), .inl (S_.2.2.1 243 0 p_.toNat), .inr (.inr (some (250, 0)))], sm_aI (sm_aI (sm_aI S_ 247 0 (S_.2.2.1 243 0 p_.toNat).toNat (S_.2.2.1 244 0 p_.toNat)) 248 0 (S_.2.2.1 243 0 p_.toNat).toNat (S_.2.2.1 248 0 (S_.2.2.1 243 0 p_.toNat).toNat)) 249 0 (S_.2.2.1 243 0 p_.toNat).toNat (S_.2.2.1 249 0 (S_.2.2.1 243 0 p_.toNat).toNat))) rfl ?_
                  refine sm_T_iast (n := 256) rfl rfl (by omega) (by omega) ?_
                  have hIx88_ : gi (sm_aI (sm_aI (sm_aI (sm_aI S_ 247 0 (S_.2.2.1 243 0 p_.toNat).toNat (S_.2.2.1 244 0 p_.toNat)) 248 0 (S_.2.2.1 243 0 p_.toNat).toNat (S_.2.2.1 248 0 (S_.2.2.1 243 0 p_.toNat).toNat)) 249 0 (S_.2.2.1 243 0 p_.toNat).toNat (S_.2.2.1 249 0 (S_.2.2.1 243 0 p_.toNat).toNat)) 250 0 (S_.2.2.1 243 0 p_.toNat).toNat (S_.2.2.1 245 0 p_.toNat)) := gi_aI hIx80_ (show 0 ≤ (S_.2.2.1 245 0 p_.toNat) ∧ (S_.2.2.1 245 0 p_.toNat) ≤ 40 from ⟨by omega, by omega⟩)
                  have hFx89_ : ai_fr (sx_W vw_440) S0_ (sm_aI (sm_aI (sm_aI (sm_aI S_ 247 0 (S_.2.2.1 243 0 p_.toNat).toNat (S_.2.2.1 244 0 p_.toNat)) 248 0 (S_.2.2.1 243 0 p_.toNat).toNat (S_.2.2.1 248 0 (S_.2.2.1 243 0 p_.toNat).toNat)) 249 0 (S_.2.2.1 243 0 p_.toNat).toNat (S_.2.2.1 249 0 (S_.2.2.1 243 0 p_.toNat).toNat)) 250 0 (S_.2.2.1 243 0 p_.toNat).toNat (S_.2.2.1 245 0 p_.toNat)) := ai_fr_tr hFx81_ (ai_fr_aI rfl)
                  refine sm_T_go 4 (c1 := (232, [some (.inr (.inr (some (13, 0)))), some (.inl c_), some (.inl p_), some (.inl (S_.2.2.1 243 0 p_.toNat)), some (.inl 0)], [.inl (S_.2.2.1 243 0 p_.toNat), .inr (.inr (some (246, 0))), .inl (S_.2.2.1 243 0 p_.toNat), .inr (.inr (some (246, 0)))], sm_aI (sm_aI (sm_aI (sm_aI S_ 247 0 (S_.2.2.1 243 0 p_.toNat).toNat (S_.2.2.1 244 0 p_.toNat)) 248 0 (S_.2.2.1 243 0 p_.toNat).toNat (S_.2.2.1 248 0 (S_.2.2.1 243 0 p_.toNat).toNat)) 249 0 (S_.2.2.1 243 0 p_.toNat).toNat (S_.2.2.1 249 0 (S_.2.2.1 243 0 p_.toNat).toNat)) 250 0 (S_.2.2.1 243 0 p_.toNat).toNat (S_.2.2.1 245 0 p_.toNat))) rfl ?_
                  refine sm_T_iald (n := 256) rfl rfl (by omega) (by omega) ?_
                  refine sm_T_go 1 (c1 := (234, [some (.inr (.inr (some (13, 0)))), some (.inl c_), some (.inl p_), some (.inl (S_.2.2.1 243 0 p_.toNat)), some (.inl 0)], [.inl 1, .inl (S_.2.2.1 246 0 (S_.2.2.1 243 0 p_.toNat).toNat), .inl (S_.2.2.1 243 0 p_.toNat), .inr (.inr (some (246, 0)))], sm_aI (sm_aI (sm_aI (sm_aI S_ 247 0 (S_.2.2.1 243 0 p_.toNat).toNat (S_.2.2.1 244 0 p_.toNat)) 248 0 (S_.2.2.1 243 0 p_.toNat).toNat (S_.2.2.1 248 0 (S_.2.2.1 243 0 p_.toNat).toNat)) 249 0 (S_.2.2.1 243 0 p_.toNat).toNat (S_.2.2.1 249 0 (S_.2.2.1 243 0 p_.toNat).toNat)) 250 0 (S_.2.2.1 243 0 p_.toNat).toNat (S_.2.2.1 245 0 p_.toNat))) rfl ?_
                  refine sm_T_bin (w := (S_.2.2.1 246 0 (S_.2.2.1 243 0 p_.toNat).toNat) + 1) rfl (bi_add (by omega) (by omega) (by omega)) ?_ -- pc_ 234
                  refine sm_T_iast (n := 256) rfl rfl (by omega) (by omega) ?_
                  have hIx90_ : gi (sm_aI (sm_aI (sm_aI (sm_aI (sm_aI S_ 247 0 (S_.2.2.1 243 0 p_.toNat).toNat (S_.2.2.1 244 0 p_.toNat)) 248 0 (S_.2.2.1 243 0 p_.toNat).toNat (S_.2.2.1 248 0 (S_.2.2.1 243 0 p_.toNat).toNat)) 249 0 (S_.2.2.1 243 0 p_.toNat).toNat (S_.2.2.1 249 0 (S_.2.2.1 243 0 p_.toNat).toNat)) 250 0 (S_.2.2.1 243 0 p_.toNat).toNat (S_.2.2.1 245 0 p_.toNat)) 246 0 (S_.2.2.1 243 0 p_.toNat).toNat ((S_.2.2.1 246 0 (S_.2.2.1 243 0 p_.toNat).toNat) + 1)) := gi_aI hIx88_ (show 0 ≤ (S_.2.2.1 246 0 (S_.2.2.1 243 0 p_.toNat).toNat) + 1 ∧ (S_.2.2.1 246 0 (S_.2.2.1 243 0 p_.toNat).toNat) + 1 ≤ 700 from ⟨by omega, by omega⟩)
                  have hFx91_ : ai_fr (sx_W vw_440) S0_ (sm_aI (sm_aI (sm_aI (sm_aI (sm_aI S_ 247 0 (S_.2.2.1 243 0 p_.toNat).toNat (S_.2.2.1 244 0 p_.toNat)) 248 0 (S_.2.2.1 243 0 p_.toNat).toNat (S_.2.2.1 248 0 (S_.2.2.1 243 0 p_.toNat).toNat)) 249 0 (S_.2.2.1 243 0 p_.toNat).toNat (S_.2.2.1 249 0 (S_.2.2.1 243 0 p_.toNat).toNat)) 250 0 (S_.2.2.1 243 0 p_.toNat).toNat (S_.2.2.1 245 0 p_.toNat)) 246 0 (S_.2.2.1 243 0 p_.toNat).toNat ((S_.2.2.1 246 0 (S_.2.2.1 243 0 p_.toNat).toNat) + 1)) := ai_fr_tr hFx89_ (ai_fr_aI rfl)
                  refine sm_T_inc (a := 2) (z := 1) (v := p_) (w := p_ + 1) rfl rfl (by omega) (by omega) (by omega) ?_ -- pc_ 236
                  refine sm_T_go 1 (c1 := (31, [some (.inr (.inr (some (13, 0)))), some (.inl c_), some (.inl (p_ + 1)), some (.inl (S_.2.2.1 243 0 p_.toNat)), some (.inl 0)], [], sm_aI (sm_aI (sm_aI (sm_aI (sm_aI S_ 247 0 (S_.2.2.1 243 0 p_.toNat).toNat (S_.2.2.1 244 0 p_.toNat)) 248 0 (S_.2.2.1 243 0 p_.toNat).toNat (S_.2.2.1 248 0 (S_.2.2.1 243 0 p_.toNat).toNat)) 249 0 (S_.2.2.1 243 0 p_.toNat).toNat (S_.2.2.1 249 0 (S_.2.2.1 243 0 p_.toNat).toNat)) 250 0 (S_.2.2.1 243 0 p_.toNat).toNat (S_.2.2.1 245 0 p_.toNat)) 246 0 (S_.2.2.1 243 0 p_.toNat).toNat ((S_.2.2.1 246 0 (S_.2.2.1 243 0 p_.toNat).toNat) + 1))) rfl ?_
                  refine sm_T_wk [some (.inr (.inr (some (13, 0)))), some (.inl c_), some (.inl (p_ + 1)), none, none] (by exact ⟨rfl, rfl, rfl, trivial⟩) ?_
                  refine ih_.2 (p_ + 1) (sm_aI (sm_aI (sm_aI (sm_aI (sm_aI S_ 247 0 (S_.2.2.1 243 0 p_.toNat).toNat (S_.2.2.1 244 0 p_.toNat)) 248 0 (S_.2.2.1 243 0 p_.toNat).toNat (S_.2.2.1 248 0 (S_.2.2.1 243 0 p_.toNat).toNat)) 249 0 (S_.2.2.1 243 0 p_.toNat).toNat (S_.2.2.1 249 0 (S_.2.2.1 243 0 p_.toNat).toNat)) 250 0 (S_.2.2.1 243 0 p_.toNat).toNat (S_.2.2.1 245 0 p_.toNat)) 246 0 (S_.2.2.1 243 0 p_.toNat).toNat ((S_.2.2.1 246 0 (S_.2.2.1 243 0 p_.toNat).toNat) + 1)) hIx90_ hFx91_ ⟨?_, ?_, ?_, ?_, trivial⟩ ?_
                  · have r6_ : ∀ j9_, ((sm_aI (sm_aI (sm_aI (sm_aI (sm_aI S_ 247 0 (S_.2.2.1 243 0 p_.toNat).toNat (S_.2.2.1 244 0 p_.toNat)) 248 0 (S_.2.2.1 243 0 p_.toNat).toNat (S_.2.2.1 248 0 (S_.2.2.1 243 0 p_.toNat).toNat)) 249 0 (S_.2.2.1 243 0 p_.toNat).toNat (S_.2.2.1 249 0 (S_.2.2.1 243 0 p_.toNat).toNat)) 250 0 (S_.2.2.1 243 0 p_.toNat).toNat (S_.2.2.1 245 0 p_.toNat)) 246 0 (S_.2.2.1 243 0 p_.toNat).toNat ((S_.2.2.1 246 0 (S_.2.2.1 243 0 p_.toNat).toNat) + 1))).2.2.1 246 0 j9_ = if j9_ = (S_.2.2.1 243 0 p_.toNat).toNat then S_.2.2.1 246 0 (S_.2.2.1 243 0 p_.toNat).toNat + 1 else S_.2.2.1 246 0 j9_ := fun j9_ => by (try simp only [rd_eq, rd_ne, rf_eq, rf_nk, rf_nt, rd_fa, rd_af, rd_fl, rd_al, rd_lf, rd_la, rd_leq, rd_lne, rd_fr, rd_ar, ne_eq, Nat.reduceEqDiff, not_false_eq_true])
                    have r3_ : ((sm_aI (sm_aI (sm_aI (sm_aI (sm_aI S_ 247 0 (S_.2.2.1 243 0 p_.toNat).toNat (S_.2.2.1 244 0 p_.toNat)) 248 0 (S_.2.2.1 243 0 p_.toNat).toNat (S_.2.2.1 248 0 (S_.2.2.1 243 0 p_.toNat).toNat)) 249 0 (S_.2.2.1 243 0 p_.toNat).toNat (S_.2.2.1 249 0 (S_.2.2.1 243 0 p_.toNat).toNat)) 250 0 (S_.2.2.1 243 0 p_.toNat).toNat (S_.2.2.1 245 0 p_.toNat)) 246 0 (S_.2.2.1 243 0 p_.toNat).toNat ((S_.2.2.1 246 0 (S_.2.2.1 243 0 p_.toNat).toNat) + 1))).2.2.1 243 0 = S_.2.2.1 243 0 := by (funext j9_; (try simp only [rd_eq, rd_ne, rf_eq, rf_nk, rf_nt, rd_fa, rd_af, rd_fl, rd_al, rd_lf, rd_la, rd_leq, rd_lne, rd_fr, rd_ar, ne_eq, Nat.reduceEqDiff, not_false_eq_true]))
                    have r9_ : ((sm_aI (sm_aI (sm_aI (sm_aI (sm_aI S_ 247 0 (S_.2.2.1 243 0 p_.toNat).toNat (S_.2.2.1 244 0 p_.toNat)) 248 0 (S_.2.2.1 243 0 p_.toNat).toNat (S_.2.2.1 248 0 (S_.2.2.1 243 0 p_.toNat).toNat)) 249 0 (S_.2.2.1 243 0 p_.toNat).toNat (S_.2.2.1 249 0 (S_.2.2.1 243 0 p_.toNat).toNat)) 250 0 (S_.2.2.1 243 0 p_.toNat).toNat (S_.2.2.1 245 0 p_.toNat)) 246 0 (S_.2.2.1 243 0 p_.toNat).toNat ((S_.2.2.1 246 0 (S_.2.2.1 243 0 p_.toNat).toNat) + 1))).1 13 0 159 = S_.1 13 0 159 := by (try simp only [rd_eq, rd_ne, rf_eq, rf_nk, rf_nt, rd_fa, rd_af, rd_fl, rd_al, rd_lf, rd_la, rd_leq, rd_lne, rd_fr, rd_ar, ne_eq, Nat.reduceEqDiff, not_false_eq_true])
                    rw [r9_]
                    omega
                  · have r6_ : ∀ j9_, ((sm_aI (sm_aI (sm_aI (sm_aI (sm_aI S_ 247 0 (S_.2.2.1 243 0 p_.toNat).toNat (S_.2.2.1 244 0 p_.toNat)) 248 0 (S_.2.2.1 243 0 p_.toNat).toNat (S_.2.2.1 248 0 (S_.2.2.1 243 0 p_.toNat).toNat)) 249 0 (S_.2.2.1 243 0 p_.toNat).toNat (S_.2.2.1 249 0 (S_.2.2.1 243 0 p_.toNat).toNat)) 250 0 (S_.2.2.1 243 0 p_.toNat).toNat (S_.2.2.1 245 0 p_.toNat)) 246 0 (S_.2.2.1 243 0 p_.toNat).toNat ((S_.2.2.1 246 0 (S_.2.2.1 243 0 p_.toNat).toNat) + 1))).2.2.1 246 0 j9_ = if j9_ = (S_.2.2.1 243 0 p_.toNat).toNat then S_.2.2.1 246 0 (S_.2.2.1 243 0 p_.toNat).toNat + 1 else S_.2.2.1 246 0 j9_ := fun j9_ => by (try simp only [rd_eq, rd_ne, rf_eq, rf_nk, rf_nt, rd_fa, rd_af, rd_fl, rd_al, rd_lf, rd_la, rd_leq, rd_lne, rd_fr, rd_ar, ne_eq, Nat.reduceEqDiff, not_false_eq_true])
                    have r3_ : ((sm_aI (sm_aI (sm_aI (sm_aI (sm_aI S_ 247 0 (S_.2.2.1 243 0 p_.toNat).toNat (S_.2.2.1 244 0 p_.toNat)) 248 0 (S_.2.2.1 243 0 p_.toNat).toNat (S_.2.2.1 248 0 (S_.2.2.1 243 0 p_.toNat).toNat)) 249 0 (S_.2.2.1 243 0 p_.toNat).toNat (S_.2.2.1 249 0 (S_.2.2.1 243 0 p_.toNat).toNat)) 250 0 (S_.2.2.1 243 0 p_.toNat).toNat (S_.2.2.1 245 0 p_.toNat)) 246 0 (S_.2.2.1 243 0 p_.toNat).toNat ((S_.2.2.1 246 0 (S_.2.2.1 243 0 p_.toNat).toNat) + 1))).2.2.1 243 0 = S_.2.2.1 243 0 := by (funext j9_; (try simp only [rd_eq, rd_ne, rf_eq, rf_nk, rf_nt, rd_fa, rd_af, rd_fl, rd_al, rd_lf, rd_la, rd_leq, rd_lne, rd_fr, rd_ar, ne_eq, Nat.reduceEqDiff, not_false_eq_true]))
                    have r9_ : ((sm_aI (sm_aI (sm_aI (sm_aI (sm_aI S_ 247 0 (S_.2.2.1 243 0 p_.toNat).toNat (S_.2.2.1 244 0 p_.toNat)) 248 0 (S_.2.2.1 243 0 p_.toNat).toNat (S_.2.2.1 248 0 (S_.2.2.1 243 0 p_.toNat).toNat)) 249 0 (S_.2.2.1 243 0 p_.toNat).toNat (S_.2.2.1 249 0 (S_.2.2.1 243 0 p_.toNat).toNat)) 250 0 (S_.2.2.1 243 0 p_.toNat).toNat (S_.2.2.1 245 0 p_.toNat)) 246 0 (S_.2.2.1 243 0 p_.toNat).toNat ((S_.2.2.1 246 0 (S_.2.2.1 243 0 p_.toNat).toNat) + 1))).1 13 0 159 = S_.1 13 0 159 := by (try simp only [rd_eq, rd_ne, rf_eq, rf_nk, rf_nt, rd_fa, rd_af, rd_fl, rd_al, rd_lf, rd_la, rd_leq, rd_lne, rd_fr, rd_ar, ne_eq, Nat.reduceEqDiff, not_false_eq_true])
                    intro k9_ k0_ k1_
                    rw [r9_] at k1_
                    have w9_ := hv_ k9_ k0_ k1_
                    (try simp only [rd_eq, rd_ne, rf_eq, rf_nk, rf_nt, rd_fa, rd_af, rd_fl, rd_al, rd_lf, rd_la, rd_leq, rd_lne, rd_fr, rd_ar, ne_eq, Nat.reduceEqDiff, not_false_eq_true])
                    exact w9_
                  · have r6_ : ∀ j9_, ((sm_aI (sm_aI (sm_aI (sm_aI (sm_aI S_ 247 0 (S_.2.2.1 243 0 p_.toNat).toNat (S_.2.2.1 244 0 p_.toNat)) 248 0 (S_.2.2.1 243 0 p_.toNat).toNat (S_.2.2.1 248 0 (S_.2.2.1 243 0 p_.toNat).toNat)) 249 0 (S_.2.2.1 243 0 p_.toNat).toNat (S_.2.2.1 249 0 (S_.2.2.1 243 0 p_.toNat).toNat)) 250 0 (S_.2.2.1 243 0 p_.toNat).toNat (S_.2.2.1 245 0 p_.toNat)) 246 0 (S_.2.2.1 243 0 p_.toNat).toNat ((S_.2.2.1 246 0 (S_.2.2.1 243 0 p_.toNat).toNat) + 1))).2.2.1 246 0 j9_ = if j9_ = (S_.2.2.1 243 0 p_.toNat).toNat then S_.2.2.1 246 0 (S_.2.2.1 243 0 p_.toNat).toNat + 1 else S_.2.2.1 246 0 j9_ := fun j9_ => by (try simp only [rd_eq, rd_ne, rf_eq, rf_nk, rf_nt, rd_fa, rd_af, rd_fl, rd_al, rd_lf, rd_la, rd_leq, rd_lne, rd_fr, rd_ar, ne_eq, Nat.reduceEqDiff, not_false_eq_true])
                    have r3_ : ((sm_aI (sm_aI (sm_aI (sm_aI (sm_aI S_ 247 0 (S_.2.2.1 243 0 p_.toNat).toNat (S_.2.2.1 244 0 p_.toNat)) 248 0 (S_.2.2.1 243 0 p_.toNat).toNat (S_.2.2.1 248 0 (S_.2.2.1 243 0 p_.toNat).toNat)) 249 0 (S_.2.2.1 243 0 p_.toNat).toNat (S_.2.2.1 249 0 (S_.2.2.1 243 0 p_.toNat).toNat)) 250 0 (S_.2.2.1 243 0 p_.toNat).toNat (S_.2.2.1 245 0 p_.toNat)) 246 0 (S_.2.2.1 243 0 p_.toNat).toNat ((S_.2.2.1 246 0 (S_.2.2.1 243 0 p_.toNat).toNat) + 1))).2.2.1 243 0 = S_.2.2.1 243 0 := by (funext j9_; (try simp only [rd_eq, rd_ne, rf_eq, rf_nk, rf_nt, rd_fa, rd_af, rd_fl, rd_al, rd_lf, rd_la, rd_leq, rd_lne, rd_fr, rd_ar, ne_eq, Nat.reduceEqDiff, not_false_eq_true]))
                    have r9_ : ((sm_aI (sm_aI (sm_aI (sm_aI (sm_aI S_ 247 0 (S_.2.2.1 243 0 p_.toNat).toNat (S_.2.2.1 244 0 p_.toNat)) 248 0 (S_.2.2.1 243 0 p_.toNat).toNat (S_.2.2.1 248 0 (S_.2.2.1 243 0 p_.toNat).toNat)) 249 0 (S_.2.2.1 243 0 p_.toNat).toNat (S_.2.2.1 249 0 (S_.2.2.1 243 0 p_.toNat).toNat)) 250 0 (S_.2.2.1 243 0 p_.toNat).toNat (S_.2.2.1 245 0 p_.toNat)) 246 0 (S_.2.2.1 243 0 p_.toNat).toNat ((S_.2.2.1 246 0 (S_.2.2.1 243 0 p_.toNat).toNat) + 1))).1 13 0 159 = S_.1 13 0 159 := by (try simp only [rd_eq, rd_ne, rf_eq, rf_nk, rf_nt, rd_fa, rd_af, rd_fl, rd_al, rd_lf, rd_la, rd_leq, rd_lne, rd_fr, rd_ar, ne_eq, Nat.reduceEqDiff, not_false_eq_true])
                    intro n9_ h9_ h8_
                    rw [r6_]
                    have w9_ := hz_ n9_ h9_ h8_
                    split
                    · omega
                    · omega
                  · have r6_ : ∀ j9_, ((sm_aI (sm_aI (sm_aI (sm_aI (sm_aI S_ 247 0 (S_.2.2.1 243 0 p_.toNat).toNat (S_.2.2.1 244 0 p_.toNat)) 248 0 (S_.2.2.1 243 0 p_.toNat).toNat (S_.2.2.1 248 0 (S_.2.2.1 243 0 p_.toNat).toNat)) 249 0 (S_.2.2.1 243 0 p_.toNat).toNat (S_.2.2.1 249 0 (S_.2.2.1 243 0 p_.toNat).toNat)) 250 0 (S_.2.2.1 243 0 p_.toNat).toNat (S_.2.2.1 245 0 p_.toNat)) 246 0 (S_.2.2.1 243 0 p_.toNat).toNat ((S_.2.2.1 246 0 (S_.2.2.1 243 0 p_.toNat).toNat) + 1))).2.2.1 246 0 j9_ = if j9_ = (S_.2.2.1 243 0 p_.toNat).toNat then S_.2.2.1 246 0 (S_.2.2.1 243 0 p_.toNat).toNat + 1 else S_.2.2.1 246 0 j9_ := fun j9_ => by (try simp only [rd_eq, rd_ne, rf_eq, rf_nk, rf_nt, rd_fa, rd_af, rd_fl, rd_al, rd_lf, rd_la, rd_leq, rd_lne, rd_fr, rd_ar, ne_eq, Nat.reduceEqDiff, not_false_eq_true])
                    have r3_ : ((sm_aI (sm_aI (sm_aI (sm_aI (sm_aI S_ 247 0 (S_.2.2.1 243 0 p_.toNat).toNat (S_.2.2.1 244 0 p_.toNat)) 248 0 (S_.2.2.1 243 0 p_.toNat).toNat (S_.2.2.1 248 0 (S_.2.2.1 243 0 p_.toNat).toNat)) 249 0 (S_.2.2.1 243 0 p_.toNat).toNat (S_.2.2.1 249 0 (S_.2.2.1 243 0 p_.toNat).toNat)) 250 0 (S_.2.2.1 243 0 p_.toNat).toNat (S_.2.2.1 245 0 p_.toNat)) 246 0 (S_.2.2.1 243 0 p_.toNat).toNat ((S_.2.2.1 246 0 (S_.2.2.1 243 0 p_.toNat).toNat) + 1))).2.2.1 243 0 = S_.2.2.1 243 0 := by (funext j9_; (try simp only [rd_eq, rd_ne, rf_eq, rf_nk, rf_nt, rd_fa, rd_af, rd_fl, rd_al, rd_lf, rd_la, rd_leq, rd_lne, rd_fr, rd_ar, ne_eq, Nat.reduceEqDiff, not_false_eq_true]))
                    have r9_ : ((sm_aI (sm_aI (sm_aI (sm_aI (sm_aI S_ 247 0 (S_.2.2.1 243 0 p_.toNat).toNat (S_.2.2.1 244 0 p_.toNat)) 248 0 (S_.2.2.1 243 0 p_.toNat).toNat (S_.2.2.1 248 0 (S_.2.2.1 243 0 p_.toNat).toNat)) 249 0 (S_.2.2.1 243 0 p_.toNat).toNat (S_.2.2.1 249 0 (S_.2.2.1 243 0 p_.toNat).toNat)) 250 0 (S_.2.2.1 243 0 p_.toNat).toNat (S_.2.2.1 245 0 p_.toNat)) 246 0 (S_.2.2.1 243 0 p_.toNat).toNat ((S_.2.2.1 246 0 (S_.2.2.1 243 0 p_.toNat).toNat) + 1))).1 13 0 159 = S_.1 13 0 159 := by (try simp only [rd_eq, rd_ne, rf_eq, rf_nk, rf_nt, rd_fa, rd_af, rd_fl, rd_al, rd_lf, rd_la, rd_leq, rd_lne, rd_fr, rd_ar, ne_eq, Nat.reduceEqDiff, not_false_eq_true])
                    intro n9_ h9_ h8_ y9_
                    rw [r6_] at y9_
                    rw [r3_]
                    by_cases q9_ : n9_.toNat = (S_.2.2.1 243 0 p_.toNat).toNat
                    · exact ⟨p_, by omega, by omega, by omega⟩
                    · rw [if_neg q9_] at y9_
                      obtain ⟨k9_, u1_, u2_, u3_⟩ := hx_ n9_ h9_ h8_ y9_
                      exact ⟨k9_, u1_, by omega, u3_⟩
                  · omega
              · have cx79_ : ¬ ((S_.2.2.1 249 0 (S_.2.2.1 243 0 p_.toNat).toNat) ≤ (S_.2.2.1 245 0 p_.toNat)) := of_decide_eq_false cx79_
                refine sm_T_go 3 (c1 := (174, [some (.inr (.inr (some (13, 0)))), some (.inl c_), some (.inl p_), some (.inl (S_.2.2.1 243 0 p_.toNat)), some (.inl 0)], [.inl p_, .inr (.inr (some (245, 0))), .inl (S_.2.2.1 243 0 p_.toNat), .inr (.inr (some (249, 0)))], sm_aI (sm_aI S_ 247 0 (S_.2.2.1 243 0 p_.toNat).toNat (S_.2.2.1 244 0 p_.toNat)) 248 0 (S_.2.2.1 243 0 p_.toNat).toNat (S_.2.2.1 248 0 (S_.2.2.1 243 0 p_.toNat).toNat))) rfl ?_
                refine sm_T_iald (n := 700) rfl rfl (by omega) (by omega) ?_
                refine sm_T_go 1 (c1 := (184, [some (.inr (.inr (some (13, 0)))), some (.inl c_), some (.inl p_), some (.inl (S_.2.2.1 243 0 p_.toNat)), some (.inl 0)], [.inl (S_.2.2.1 245 0 p_.toNat), .inl (S_.2.2.1 243 0 p_.toNat), .inr (.inr (some (249, 0)))], sm_aI (sm_aI S_ 247 0 (S_.2.2.1 243 0 p_.toNat).toNat (S_.2.2.1 244 0 p_.toNat)) 248 0 (S_.2.2.1 243 0 p_.toNat).toNat (S_.2.2.1 248 0 (S_.2.2.1 243 0 p_.toNat).toNat))) rfl ?_
                refine sm_T_iast (n := 256) rfl rfl (by omega) (by omega) ?_
                have hIx92_ : gi (sm_aI (sm_aI (sm_aI S_ 247 0 (S_.2.2.1 243 0 p_.toNat).toNat (S_.2.2.1 244 0 p_.toNat)) 248 0 (S_.2.2.1 243 0 p_.toNat).toNat (S_.2.2.1 248 0 (S_.2.2.1 243 0 p_.toNat).toNat)) 249 0 (S_.2.2.1 243 0 p_.toNat).toNat (S_.2.2.1 245 0 p_.toNat)) := gi_aI hIx75_ (show 0 ≤ (S_.2.2.1 245 0 p_.toNat) ∧ (S_.2.2.1 245 0 p_.toNat) ≤ 40 from ⟨by omega, by omega⟩)
                have hFx93_ : ai_fr (sx_W vw_440) S0_ (sm_aI (sm_aI (sm_aI S_ 247 0 (S_.2.2.1 243 0 p_.toNat).toNat (S_.2.2.1 244 0 p_.toNat)) 248 0 (S_.2.2.1 243 0 p_.toNat).toNat (S_.2.2.1 248 0 (S_.2.2.1 243 0 p_.toNat).toNat)) 249 0 (S_.2.2.1 243 0 p_.toNat).toNat (S_.2.2.1 245 0 p_.toNat)) := ai_fr_tr hFx76_ (ai_fr_aI rfl)
                refine sm_T_go 8 (c1 := (200, [some (.inr (.inr (some (13, 0)))), some (.inl c_), some (.inl p_), some (.inl (S_.2.2.1 243 0 p_.toNat)), some (.inl 0)], [.inl p_, .inr (.inr (some (245, 0))), .inl (S_.2.2.1 243 0 p_.toNat), .inr (.inr (some (250, 0)))], sm_aI (sm_aI (sm_aI S_ 247 0 (S_.2.2.1 243 0 p_.toNat).toNat (S_.2.2.1 244 0 p_.toNat)) 248 0 (S_.2.2.1 243 0 p_.toNat).toNat (S_.2.2.1 248 0 (S_.2.2.1 243 0 p_.toNat).toNat)) 249 0 (S_.2.2.1 243 0 p_.toNat).toNat (S_.2.2.1 245 0 p_.toNat))) rfl ?_
                refine sm_T_iald (n := 700) rfl rfl (by omega) (by omega) ?_
                refine sm_T_go 3 (c1 := (206, [some (.inr (.inr (some (13, 0)))), some (.inl c_), some (.inl p_), some (.inl (S_.2.2.1 243 0 p_.toNat)), some (.inl 0)], [.inl (S_.2.2.1 243 0 p_.toNat), .inr (.inr (some (250, 0))), .inl (S_.2.2.1 245 0 p_.toNat), .inl (S_.2.2.1 243 0 p_.toNat), .inr (.inr (some (250, 0)))], sm_aI (sm_aI (sm_aI S_ 247 0 (S_.2.2.1 243 0 p_.toNat).toNat (S_.2.2.1 244 0 p_.toNat)) 248 0 (S_.2.2.1 243 0 p_.toNat).toNat (S_.2.2.1 248 0 (S_.2.2.1 243 0 p_.toNat).toNat)) 249 0 (S_.2.2.1 243 0 p_.toNat).toNat (S_.2.2.1 245 0 p_.toNat))) rfl ?_
                refine sm_T_iald (n := 256) rfl rfl (by omega) (by omega) ?_
                have bx94_ : 0 ≤ S_.2.2.1 250 0 (S_.2.2.1 243 0 p_.toNat).toNat ∧ S_.2.2.1 250 0 (S_.2.2.1 243 0 p_.toNat).toNat ≤ 40 := hI_.2 250 0 _
                refine sm_T_go 0 (c1 := (207, [some (.inr (.inr (some (13, 0)))), some (.inl c_), some (.inl p_), some (.inl (S_.2.2.1 243 0 p_.toNat)), some (.inl 0)], [.inl (S_.2.2.1 250 0 (S_.2.2.1 243 0 p_.toNat).toNat), .inl (S_.2.2.1 245 0 p_.toNat), .inl (S_.2.2.1 243 0 p_.toNat), .inr (.inr (some (250, 0)))], sm_aI (sm_aI (sm_aI S_ 247 0 (S_.2.2.1 243 0 p_.toNat).toNat (S_.2.2.1 244 0 p_.toNat)) 248 0 (S_.2.2.1 243 0 p_.toNat).toNat (S_.2.2.1 248 0 (S_.2.2.1 243 0 p_.toNat).toNat)) 249 0 (S_.2.2.1 243 0 p_.toNat).toNat (S_.2.2.1 245 0 p_.toNat))) rfl ?_
                refine sm_T_br (a := 5) (z := 12) rfl (fun cx95_ => ?_) (fun cx95_ => ?_)
                · have cx95_ : (S_.2.2.1 245 0 p_.toNat) ≤ (S_.2.2.1 250 0 (S_.2.2.1 243 0 p_.toNat).toNat) := of_decide_eq_true cx95_
                  refine sm_T_go 3 (c1 := (224, [some (.inr (.inr (some (13, 0)))), some (.inl c_), some (.inl p_), some (.inl (S_.2.2.1 243 0 p_.toNat)), some (.inl 0)], [.inl (S_.2.2.1 243 0 p_.toNat), .inr (.inr (some (250, 0))), .inl (S_.2.2.1 243 0 p_.toNat), .inr (.inr (some (250, 0)))], sm_aI (sm_aI (sm_aI S_ 247 0 (S_.2.2.1 243 0 p_.toNat).toNat (S_.2.2.1 244 0 p_.toNat)) 248 0 (S_.2.2.1 243 0 p_.toNat).toNat (S_.2.2.1 248 0 (S_.2.2.1 243 0 p_.toNat).toNat)) 249 0 (S_.2.2.1 243 0 p_.toNat).toNat (S_.2.2.1 245 0 p_.toNat))) rfl ?_
                  refine sm_T_iald (n := 256) rfl rfl (by omega) (by omega) ?_
                  refine sm_T_go 0 (c1 := (225, [some (.inr (.inr (some (13, 0)))), some (.inl c_), some (.inl p_), some (.inl (S_.2.2.1 243 0 p_.toNat)), some (.inl 0)], [.inl (S_.2.2.1 250 0 (S_.2.2.1 243 0 p_.toNat).toNat), .inl (S_.2.2.1 243 0 p_.toNat), .inr (.inr (some (250, 0)))], sm_aI (sm_aI (sm_aI S_ 247 0 (S_.2.2.1 243 0 p_.toNat).toNat (S_.2.2.1 244 0 p_.toNat)) 248 0 (S_.2.2.1 243 0 p_.toNat).toNat (S_.2.2.1 248 0 (S_.2.2.1 243 0 p_.toNat).toNat)) 249 0 (S_.2.2.1 243 0 p_.toNat).toNat (S_.2.2.1 245 0 p_.toNat))) rfl ?_
                  refine sm_T_iast (n := 256) rfl rfl (by omega) (by omega) ?_
                  have hIx96_ : gi (sm_aI (sm_aI (sm_aI (sm_aI S_ 247 0 (S_.2.2.1 243 0 p_.toNat).toNat (S_.2.2.1 244 0 p_.toNat)) 248 0 (S_.2.2.1 243 0 p_.toNat).toNat (S_.2.2.1 248 0 (S_.2.2.1 243 0 p_.toNat).toNat)) 249 0 (S_.2.2.1 243 0 p_.toNat).toNat (S_.2.2.1 245 0 p_.toNat)) 250 0 (S_.2.2.1 243 0 p_.toNat).toNat (S_.2.2.1 250 0 (S_.2.2.1 243 0 p_.toNat).toNat)) := gi_aI hIx92_ (show 0 ≤ (S_.2.2.1 250 0 (S_.2.2.1 243 0 p_.toNat).toNat) ∧ (S_.2.2.1 250 0 (S_.2.2.1 243 0 p_.toNat).toNat) ≤ 40 from ⟨by omega, by omega⟩)
                  have hFx97_ : ai_fr (sx_W vw_440) S0_ (sm_aI (sm_aI (sm_aI (sm_aI S_ 247 0 (S_.2.2.1 243 0 p_.toNat).toNat (S_.2.2.1 244 0 p_.toNat)) 248 0 (S_.2.2.1 243 0 p_.toNat).toNat (S_.2.2.1 248 0 (S_.2.2.1 243 0 p_.toNat).toNat)) 249 0 (S_.2.2.1 243 0 p_.toNat).toNat (S_.2.2.1 245 0 p_.toNat)) 250 0 (S_.2.2.1 243 0 p_.toNat).toNat (S_.2.2.1 250 0 (S_.2.2.1 243 0 p_.toNat).toNat)) := ai_fr_tr hFx93_ (ai_fr_aI rfl)
                  refine sm_T_go 4 (c1 := (232, [some (.inr (.inr (some (13, 0)))), some (.inl c_), some (.inl p_), some (.inl (S_.2.2.1 243 0 p_.toNat)), some (.inl 0)], [.inl (S_.2.2.1 243 0 p_.toNat), .inr (.inr (some (246, 0))), .inl (S_.2.2.1 243 0 p_.toNat), .inr (.inr (some (246, 0)))], sm_aI (sm_aI (sm_aI (sm_aI S_ 247 0 (S_.2.2.1 243 0 p_.toNat).toNat (S_.2.2.1 244 0 p_.toNat)) 248 0 (S_.2.2.1 243 0 p_.toNat).toNat (S_.2.2.1 248 0 (S_.2.2.1 243 0 p_.toNat).toNat)) 249 0 (S_.2.2.1 243 0 p_.toNat).toNat (S_.2.2.1 245 0 p_.toNat)) 250 0 (S_.2.2.1 243 0 p_.toNat).toNat (S_.2.2.1 250 0 (S_.2.2.1 243 0 p_.toNat).toNat))) rfl ?_
                  refine sm_T_iald (n := 256) rfl rfl (by omega) (by omega) ?_
                  refine sm_T_go 1 (c1 := (234, [some (.inr (.inr (some (13, 0)))), some (.inl c_), some (.inl p_), some (.inl (S_.2.2.1 243 0 p_.toNat)), some (.inl 0)], [.inl 1, .inl (S_.2.2.1 246 0 (S_.2.2.1 243 0 p_.toNat).toNat), .inl (S_.2.2.1 243 0 p_.toNat), .inr (.inr (some (246, 0)))], sm_aI (sm_aI (sm_aI (sm_aI S_ 247 0 (S_.2.2.1 243 0 p_.toNat).toNat (S_.2.2.1 244 0 p_.toNat)) 248 0 (S_.2.2.1 243 0 p_.toNat).toNat (S_.2.2.1 248 0 (S_.2.2.1 243 0 p_.toNat).toNat)) 249 0 (S_.2.2.1 243 0 p_.toNat).toNat (S_.2.2.1 245 0 p_.toNat)) 250 0 (S_.2.2.1 243 0 p_.toNat).toNat (S_.2.2.1 250 0 (S_.2.2.1 243 0 p_.toNat).toNat))) rfl ?_
                  refine sm_T_bin (w := (S_.2.2.1 246 0 (S_.2.2.1 243 0 p_.toNat).toNat) + 1) rfl (bi_add (by omega) (by omega) (by omega)) ?_ -- pc_ 234
                  refine sm_T_iast (n := 256) rfl rfl (by omega) (by omega) ?_
                  have hIx98_ : gi (sm_aI (sm_aI (sm_aI (sm_aI (sm_aI S_ 247 0 (S_.2.2.1 243 0 p_.toNat).toNat (S_.2.2.1 244 0 p_.toNat)) 248 0 (S_.2.2.1 243 0 p_.toNat).toNat (S_.2.2.1 248 0 (S_.2.2.1 243 0 p_.toNat).toNat)) 249 0 (S_.2.2.1 243 0 p_.toNat).toNat (S_.2.2.1 245 0 p_.toNat)) 250 0 (S_.2.2.1 243 0 p_.toNat).toNat (S_.2.2.1 250 0 (S_.2.2.1 243 0 p_.toNat).toNat)) 246 0 (S_.2.2.1 243 0 p_.toNat).toNat ((S_.2.2.1 246 0 (S_.2.2.1 243 0 p_.toNat).toNat) + 1)) := gi_aI hIx96_ (show 0 ≤ (S_.2.2.1 246 0 (S_.2.2.1 243 0 p_.toNat).toNat) + 1 ∧ (S_.2.2.1 246 0 (S_.2.2.1 243 0 p_.toNat).toNat) + 1 ≤ 700 from ⟨by omega, by omega⟩)
                  have hFx99_ : ai_fr (sx_W vw_440) S0_ (sm_aI (sm_aI (sm_aI (sm_aI (sm_aI S_ 247 0 (S_.2.2.1 243 0 p_.toNat).toNat (S_.2.2.1 244 0 p_.toNat)) 248 0 (S_.2.2.1 243 0 p_.toNat).toNat (S_.2.2.1 248 0 (S_.2.2.1 243 0 p_.toNat).toNat)) 249 0 (S_.2.2.1 243 0 p_.toNat).toNat (S_.2.2.1 245 0 p_.toNat)) 250 0 (S_.2.2.1 243 0 p_.toNat).toNat (S_.2.2.1 250 0 (S_.2.2.1 243 0 p_.toNat).toNat)) 246 0 (S_.2.2.1 243 0 p_.toNat).toNat ((S_.2.2.1 246 0 (S_.2.2.1 243 0 p_.toNat).toNat) + 1)) := ai_fr_tr hFx97_ (ai_fr_aI rfl)
                  refine sm_T_inc (a := 2) (z := 1) (v := p_) (w := p_ + 1) rfl rfl (by omega) (by omega) (by omega) ?_ -- pc_ 236
                  refine sm_T_go 1 (c1 := (31, [some (.inr (.inr (some (13, 0)))), some (.inl c_), some (.inl (p_ + 1)), some (.inl (S_.2.2.1 243 0 p_.toNat)), some (.inl 0)], [], sm_aI (sm_aI (sm_aI (sm_aI (sm_aI S_ 247 0 (S_.2.2.1 243 0 p_.toNat).toNat (S_.2.2.1 244 0 p_.toNat)) 248 0 (S_.2.2.1 243 0 p_.toNat).toNat (S_.2.2.1 248 0 (S_.2.2.1 243 0 p_.toNat).toNat)) 249 0 (S_.2.2.1 243 0 p_.toNat).toNat (S_.2.2.1 245 0 p_.toNat)) 250 0 (S_.2.2.1 243 0 p_.toNat).toNat (S_.2.2.1 250 0 (S_.2.2.1 243 0 p_.toNat).toNat)) 246 0 (S_.2.2.1 243 0 p_.toNat).toNat ((S_.2.2.1 246 0 (S_.2.2.1 243 0 p_.toNat).toNat) + 1))) rfl ?_
                  refine sm_T_wk [some (.inr (.inr (some (13, 0)))), some (.inl c_), some (.inl (p_ + 1)), none, none] (by exact ⟨rfl, rfl, rfl, trivial⟩) ?_
                  refine ih_.2 (p_ + 1) (sm_aI (sm_aI (sm_aI (sm_aI (sm_aI S_ 247 0 (S_.2.2.1 243 0 p_.toNat).toNat (S_.2.2.1 244 0 p_.toNat)) 248 0 (S_.2.2.1 243 0 p_.toNat).toNat (S_.2.2.1 248 0 (S_.2.2.1 243 0 p_.toNat).toNat)) 249 0 (S_.2.2.1 243 0 p_.toNat).toNat (S_.2.2.1 245 0 p_.toNat)) 250 0 (S_.2.2.1 243 0 p_.toNat).toNat (S_.2.2.1 250 0 (S_.2.2.1 243 0 p_.toNat).toNat)) 246 0 (S_.2.2.1 243 0 p_.toNat).toNat ((S_.2.2.1 246 0 (S_.2.2.1 243 0 p_.toNat).toNat) + 1)) hIx98_ hFx99_ ⟨?_, ?_, ?_, ?_, trivial⟩ ?_
                  · have r6_ : ∀ j9_, ((sm_aI (sm_aI (sm_aI (sm_aI (sm_aI S_ 247 0 (S_.2.2.1 243 0 p_.toNat).toNat (S_.2.2.1 244 0 p_.toNat)) 248 0 (S_.2.2.1 243 0 p_.toNat).toNat (S_.2.2.1 248 0 (S_.2.2.1 243 0 p_.toNat).toNat)) 249 0 (S_.2.2.1 243 0 p_.toNat).toNat (S_.2.2.1 245 0 p_.toNat)) 250 0 (S_.2.2.1 243 0 p_.toNat).toNat (S_.2.2.1 250 0 (S_.2.2.1 243 0 p_.toNat).toNat)) 246 0 (S_.2.2.1 243 0 p_.toNat).toNat ((S_.2.2.1 246 0 (S_.2.2.1 243 0 p_.toNat).toNat) + 1))).2.2.1 246 0 j9_ = if j9_ = (S_.2.2.1 243 0 p_.toNat).toNat then S_.2.2.1 246 0 (S_.2.2.1 243 0 p_.toNat).toNat + 1 else S_.2.2.1 246 0 j9_ := fun j9_ => by (try simp only [rd_eq, rd_ne, rf_eq, rf_nk, rf_nt, rd_fa, rd_af, rd_fl, rd_al, rd_lf, rd_la, rd_leq, rd_lne, rd_fr, rd_ar, ne_eq, Nat.reduceEqDiff, not_false_eq_true])
                    have r3_ : ((sm_aI (sm_aI (sm_aI (sm_aI (sm_aI S_ 247 0 (S_.2.2.1 243 0 p_.toNat).toNat (S_.2.2.1 244 0 p_.toNat)) 248 0 (S_.2.2.1 243 0 p_.toNat).toNat (S_.2.2.1 248 0 (S_.2.2.1 243 0 p_.toNat).toNat)) 249 0 (S_.2.2.1 243 0 p_.toNat).toNat (S_.2.2.1 245 0 p_.toNat)) 250 0 (S_.2.2.1 243 0 p_.toNat).toNat (S_.2.2.1 250 0 (S_.2.2.1 243 0 p_.toNat).toNat)) 246 0 (S_.2.2.1 243 0 p_.toNat).toNat ((S_.2.2.1 246 0 (S_.2.2.1 243 0 p_.toNat).toNat) + 1))).2.2.1 243 0 = S_.2.2.1 243 0 := by (funext j9_; (try simp only [rd_eq, rd_ne, rf_eq, rf_nk, rf_nt, rd_fa, rd_af, rd_fl, rd_al, rd_lf, rd_la, rd_leq, rd_lne, rd_fr, rd_ar, ne_eq, Nat.reduceEqDiff, not_false_eq_true]))
                    have r9_ : ((sm_aI (sm_aI (sm_aI (sm_aI (sm_aI S_ 247 0 (S_.2.2.1 243 0 p_.toNat).toNat (S_.2.2.1 244 0 p_.toNat)) 248 0 (S_.2.2.1 243 0 p_.toNat).toNat (S_.2.2.1 248 0 (S_.2.2.1 243 0 p_.toNat).toNat)) 249 0 (S_.2.2.1 243 0 p_.toNat).toNat (S_.2.2.1 245 0 p_.toNat)) 250 0 (S_.2.2.1 243 0 p_.toNat).toNat (S_.2.2.1 250 0 (S_.2.2.1 243 0 p_.toNat).toNat)) 246 0 (S_.2.2.1 243 0 p_.toNat).toNat ((S_.2.2.1 246 0 (S_.2.2.1 243 0 p_.toNat).toNat) + 1))).1 13 0 159 = S_.1 13 0 159 := by (try simp only [rd_eq, rd_ne, rf_eq, rf_nk, rf_nt, rd_fa, rd_af, rd_fl, rd_al, rd_lf, rd_la, rd_leq, rd_lne, rd_fr, rd_ar, ne_eq, Nat.reduceEqDiff, not_false_eq_true])
                    rw [r9_]
                    omega
                  · have r6_ : ∀ j9_, ((sm_aI (sm_aI (sm_aI (sm_aI (sm_aI S_ 247 0 (S_.2.2.1 243 0 p_.toNat).toNat (S_.2.2.1 244 0 p_.toNat)) 248 0 (S_.2.2.1 243 0 p_.toNat).toNat (S_.2.2.1 248 0 (S_.2.2.1 243 0 p_.toNat).toNat)) 249 0 (S_.2.2.1 243 0 p_.toNat).toNat (S_.2.2.1 245 0 p_.toNat)) 250 0 (S_.2.2.1 243 0 p_.toNat).toNat (S_.2.2.1 250 0 (S_.2.2.1 243 0 p_.toNat).toNat)) 246 0 (S_.2.2.1 243 0 p_.toNat).toNat ((S_.2.2.1 246 0 (S_.2.2.1 243 0 p_.toNat).toNat) + 1))).2.2.1 246 0 j9_ = if j9_ = (S_.2.2.1 243 0 p_.toNat).toNat then S_.2.2.1 246 0 (S_.2.2.1 243 0 p_.toNat).toNat + 1 else S_.2.2.1 246 0 j9_ := fun j9_ => by (try simp only [rd_eq, rd_ne, rf_eq, rf_nk, rf_nt, rd_fa, rd_af, rd_fl, rd_al, rd_lf, rd_la, rd_leq, rd_lne, rd_fr, rd_ar, ne_eq, Nat.reduceEqDiff, not_false_eq_true])
                    have r3_ : ((sm_aI (sm_aI (sm_aI (sm_aI (sm_aI S_ 247 0 (S_.2.2.1 243 0 p_.toNat).toNat (S_.2.2.1 244 0 p_.toNat)) 248 0 (S_.2.2.1 243 0 p_.toNat).toNat (S_.2.2.1 248 0 (S_.2.2.1 243 0 p_.toNat).toNat)) 249 0 (S_.2.2.1 243 0 p_.toNat).toNat (S_.2.2.1 245 0 p_.toNat)) 250 0 (S_.2.2.1 243 0 p_.toNat).toNat (S_.2.2.1 250 0 (S_.2.2.1 243 0 p_.toNat).toNat)) 246 0 (S_.2.2.1 243 0 p_.toNat).toNat ((S_.2.2.1 246 0 (S_.2.2.1 243 0 p_.toNat).toNat) + 1))).2.2.1 243 0 = S_.2.2.1 243 0 := by (funext j9_; (try simp only [rd_eq, rd_ne, rf_eq, rf_nk, rf_nt, rd_fa, rd_af, rd_fl, rd_al, rd_lf, rd_la, rd_leq, rd_lne, rd_fr, rd_ar, ne_eq, Nat.reduceEqDiff, not_false_eq_true]))
                    have r9_ : ((sm_aI (sm_aI (sm_aI (sm_aI (sm_aI S_ 247 0 (S_.2.2.1 243 0 p_.toNat).toNat (S_.2.2.1 244 0 p_.toNat)) 248 0 (S_.2.2.1 243 0 p_.toNat).toNat (S_.2.2.1 248 0 (S_.2.2.1 243 0 p_.toNat).toNat)) 249 0 (S_.2.2.1 243 0 p_.toNat).toNat (S_.2.2.1 245 0 p_.toNat)) 250 0 (S_.2.2.1 243 0 p_.toNat).toNat (S_.2.2.1 250 0 (S_.2.2.1 243 0 p_.toNat).toNat)) 246 0 (S_.2.2.1 243 0 p_.toNat).toNat ((S_.2.2.1 246 0 (S_.2.2.1 243 0 p_.toNat).toNat) + 1))).1 13 0 159 = S_.1 13 0 159 := by (try simp only [rd_eq, rd_ne, rf_eq, rf_nk, rf_nt, rd_fa, rd_af, rd_fl, rd_al, rd_lf, rd_la, rd_leq, rd_lne, rd_fr, rd_ar, ne_eq, Nat.reduceEqDiff, not_false_eq_true])
                    intro k9_ k0_ k1_
                    rw [r9_] at k1_
                    have w9_ := hv_ k9_ k0_ k1_
                    (try simp only [rd_eq, rd_ne, rf_eq, rf_nk, rf_nt, rd_fa, rd_af, rd_fl, rd_al, rd_lf, rd_la, rd_leq, rd_lne, rd_fr, rd_ar, ne_eq, Nat.reduceEqDiff, not_false_eq_true])
                    exact w9_
                  · have r6_ : ∀ j9_, ((sm_aI (sm_aI (sm_aI (sm_aI (sm_aI S_ 247 0 (S_.2.2.1 243 0 p_.toNat).toNat (S_.2.2.1 244 0 p_.toNat)) 248 0 (S_.2.2.1 243 0 p_.toNat).toNat (S_.2.2.1 248 0 (S_.2.2.1 243 0 p_.toNat).toNat)) 249 0 (S_.2.2.1 243 0 p_.toNat).toNat (S_.2.2.1 245 0 p_.toNat)) 250 0 (S_.2.2.1 243 0 p_.toNat).toNat (S_.2.2.1 250 0 (S_.2.2.1 243 0 p_.toNat).toNat)) 246 0 (S_.2.2.1 243 0 p_.toNat).toNat ((S_.2.2.1 246 0 (S_.2.2.1 243 0 p_.toNat).toNat) + 1))).2.2.1 246 0 j9_ = if j9_ = (S_.2.2.1 243 0 p_.toNat).toNat then S_.2.2.1 246 0 (S_.2.2.1 243 0 p_.toNat).toNat + 1 else S_.2.2.1 246 0 j9_ := fun j9_ => by (try simp only [rd_eq, rd_ne, rf_eq, rf_nk, rf_nt, rd_fa, rd_af, rd_fl, rd_al, rd_lf, rd_la, rd_leq, rd_lne, rd_fr, rd_ar, ne_eq, Nat.reduceEqDiff, not_false_eq_true])
                    have r3_ : ((sm_aI (sm_aI (sm_aI (sm_aI (sm_aI S_ 247 0 (S_.2.2.1 243 0 p_.toNat).toNat (S_.2.2.1 244 0 p_.toNat)) 248 0 (S_.2.2.1 243 0 p_.toNat).toNat (S_.2.2.1 248 0 (S_.2.2.1 243 0 p_.toNat).toNat)) 249 0 (S_.2.2.1 243 0 p_.toNat).toNat (S_.2.2.1 245 0 p_.toNat)) 250 0 (S_.2.2.1 243 0 p_.toNat).toNat (S_.2.2.1 250 0 (S_.2.2.1 243 0 p_.toNat).toNat)) 246 0 (S_.2.2.1 243 0 p_.toNat).toNat ((S_.2.2.1 246 0 (S_.2.2.1 243 0 p_.toNat).toNat) + 1))).2.2.1 243 0 = S_.2.2.1 243 0 := by (funext j9_; (try simp only [rd_eq, rd_ne, rf_eq, rf_nk, rf_nt, rd_fa, rd_af, rd_fl, rd_al, rd_lf, rd_la, rd_leq, rd_lne, rd_fr, rd_ar, ne_eq, Nat.reduceEqDiff, not_false_eq_true]))
                    have r9_ : ((sm_aI (sm_aI (sm_aI (sm_aI (sm_aI S_ 247 0 (S_.2.2.1 243 0 p_.toNat).toNat (S_.2.2.1 244 0 p_.toNat)) 248 0 (S_.2.2.1 243 0 p_.toNat).toNat (S_.2.2.1 248 0 (S_.2.2.1 243 0 p_.toNat).toNat)) 249 0 (S_.2.2.1 243 0 p_.toNat).toNat (S_.2.2.1 245 0 p_.toNat)) 250 0 (S_.2.2.1 243 0 p_.toNat).toNat (S_.2.2.1 250 0 (S_.2.2.1 243 0 p_.toNat).toNat)) 246 0 (S_.2.2.1 243 0 p_.toNat).toNat ((S_.2.2.1 246 0 (S_.2.2.1 243 0 p_.toNat).toNat) + 1))).1 13 0 159 = S_.1 13 0 159 := by (try simp only [rd_eq, rd_ne, rf_eq, rf_nk, rf_nt, rd_fa, rd_af, rd_fl, rd_al, rd_lf, rd_la, rd_leq, rd_lne, rd_fr, rd_ar, ne_eq, Nat.reduceEqDiff, not_false_eq_true])
                    intro n9_ h9_ h8_
                    rw [r6_]
                    have w9_ := hz_ n9_ h9_ h8_
                    split
                    · omega
                    · omega
                  · have r6_ : ∀ j9_, ((sm_aI (sm_aI (sm_aI (sm_aI (sm_aI S_ 247 0 (S_.2.2.1 243 0 p_.toNat).toNat (S_.2.2.1 244 0 p_.toNat)) 248 0 (S_.2.2.1 243 0 p_.toNat).toNat (S_.2.2.1 248 0 (S_.2.2.1 243 0 p_.toNat).toNat)) 249 0 (S_.2.2.1 243 0 p_.toNat).toNat (S_.2.2.1 245 0 p_.toNat)) 250 0 (S_.2.2.1 243 0 p_.toNat).toNat (S_.2.2.1 250 0 (S_.2.2.1 243 0 p_.toNat).toNat)) 246 0 (S_.2.2.1 243 0 p_.toNat).toNat ((S_.2.2.1 246 0 (S_.2.2.1 243 0 p_.toNat).toNat) + 1))).2.2.1 246 0 j9_ = if j9_ = (S_.2.2.1 243 0 p_.toNat).toNat then S_.2.2.1 246 0 (S_.2.2.1 243 0 p_.toNat).toNat + 1 else S_.2.2.1 246 0 j9_ := fun j9_ => by (try simp only [rd_eq, rd_ne, rf_eq, rf_nk, rf_nt, rd_fa, rd_af, rd_fl, rd_al, rd_lf, rd_la, rd_leq, rd_lne, rd_fr, rd_ar, ne_eq, Nat.reduceEqDiff, not_false_eq_true])
                    have r3_ : ((sm_aI (sm_aI (sm_aI (sm_aI (sm_aI S_ 247 0 (S_.2.2.1 243 0 p_.toNat).toNat (S_.2.2.1 244 0 p_.toNat)) 248 0 (S_.2.2.1 243 0 p_.toNat).toNat (S_.2.2.1 248 0 (S_.2.2.1 243 0 p_.toNat).toNat)) 249 0 (S_.2.2.1 243 0 p_.toNat).toNat (S_.2.2.1 245 0 p_.toNat)) 250 0 (S_.2.2.1 243 0 p_.toNat).toNat (S_.2.2.1 250 0 (S_.2.2.1 243 0 p_.toNat).toNat)) 246 0 (S_.2.2.1 243 0 p_.toNat).toNat ((S_.2.2.1 246 0 (S_.2.2.1 243 0 p_.toNat).toNat) + 1))).2.2.1 243 0 = S_.2.2.1 243 0 := by (funext j9_; (try simp only [rd_eq, rd_ne, rf_eq, rf_nk, rf_nt, rd_fa, rd_af, rd_fl, rd_al, rd_lf, rd_la, rd_leq, rd_lne, rd_fr, rd_ar, ne_eq, Nat.reduceEqDiff, not_false_eq_true]))
                    have r9_ : ((sm_aI (sm_aI (sm_aI (sm_aI (sm_aI S_ 247 0 (S_.2.2.1 243 0 p_.toNat).toNat (S_.2.2.1 244 0 p_.toNat)) 248 0 (S_.2.2.1 243 0 p_.toNat).toNat (S_.2.2.1 248 0 (S_.2.2.1 243 0 p_.toNat).toNat)) 249 0 (S_.2.2.1 243 0 p_.toNat).toNat (S_.2.2.1 245 0 p_.toNat)) 250 0 (S_.2.2.1 243 0 p_.toNat).toNat (S_.2.2.1 250 0 (S_.2.2.1 243 0 p_.toNat).toNat)) 246 0 (S_.2.2.1 243 0 p_.toNat).toNat ((S_.2.2.1 246 0 (S_.2.2.1 243 0 p_.toNat).toNat) + 1))).1 13 0 159 = S_.1 13 0 159 := by (try simp only [rd_eq, rd_ne, rf_eq, rf_nk, rf_nt, rd_fa, rd_af, rd_fl, rd_al, rd_lf, rd_la, rd_leq, rd_lne, rd_fr, rd_ar, ne_eq, Nat.reduceEqDiff, not_false_eq_true])
                    intro n9_ h9_ h8_ y9_
                    rw [r6_] at y9_
                    rw [r3_]
                    by_cases q9_ : n9_.toNat = (S_.2.2.1 243 0 p_.toNat).toNat
                    · exact ⟨p_, by omega, by omega, by omega⟩
                    · rw [if_neg q9_] at y9_
                      obtain ⟨k9_, u1_, u2_, u3_⟩ := hx_ n9_ h9_ h8_ y9_
                      exact ⟨k9_, u1_, by omega, u3_⟩
                  · omega
                · have cx95_ : ¬ ((S_.2.2.1 245 0 p_.toNat) ≤ (S_.2.2.1 250 0 (S_.2.2.1 243 0 p_.toNat).toNat)) := of_decide_eq_false cx95_
                  refine sm_T_go 3 (c1 := (215, [some (.inr (.inr (some (13, 0)))), some (.inl c_), some (.inl p_), some (.inl (S_.2.2.1 243 0 p_.toNat)), some (.inl 0)], [.inl p_, .inr (.inr (some (245, 0))), .inl (S_.2.2.1 243 0 p_.toNat), .inr (.inr (some (250, 0)))], sm_aI (sm_aI (sm_aI S_ 247 0 (S_.2.2.1 243 0 p_.toNat).toNat (S_.2.2.1 244 0 p_.toNat)) 248 0 (S_.2.2.1 243 0 p_.toNat).toNat (S_.2.2.1 248 0 (S_.2.2.1 243 0 p_.toNat).toNat)) 249 0 (S_.2.2.1 243 0 p_.toNat).toNat (S_.2.2.1 245 0 p_.toNat))) rfl ?_
                  refine sm_T_iald (n := 700) rfl rfl (by omega) (by omega) ?_
                  refine sm_T_go 1 (c1 := (225, [some (.inr (.inr (some (13, 0)))), some (.inl c_), some (.inl p_), some (.inl (S_.2.2.1 243 0 p_.toNat)), some (.inl 0)], [.inl (S_.2.2.1 245 0 p_.toNat), .inl (S_.2.2.1 243 0 p_.toNat), .inr (.inr (some (250, 0)))], sm_aI (sm_aI (sm_aI S_ 247 0 (S_.2.2.1 243 0 p_.toNat).toNat (S_.2.2.1 244 0 p_.toNat)) 248 0 (S_.2.2.1 243 0 p_.toNat).toNat (S_.2.2.1 248 0 (S_.2.2.1 243 0 p_.toNat).toNat)) 249 0 (S_.2.2.1 243 0 p_.toNat).toNat (S_.2.2.1 245 0 p_.toNat))) rfl ?_
                  refine sm_T_iast (n := 256) rfl rfl (by omega) (by omega) ?_
                  have hIx100_ : gi (sm_aI (sm_aI (sm_aI (sm_aI S_ 247 0 (S_.2.2.1 243 0 p_.toNat).toNat (S_.2.2.1 244 0 p_.toNat)) 248 0 (S_.2.2.1 243 0 p_.toNat).toNat (S_.2.2.1 248 0 (S_.2.2.1 243 0 p_.toNat).toNat)) 249 0 (S_.2.2.1 243 0 p_.toNat).toNat (S_.2.2.1 245 0 p_.toNat)) 250 0 (S_.2.2.1 243 0 p_.toNat).toNat (S_.2.2.1 245 0 p_.toNat)) := gi_aI hIx92_ (show 0 ≤ (S_.2.2.1 245 0 p_.toNat) ∧ (S_.2.2.1 245 0 p_.toNat) ≤ 40 from ⟨by omega, by omega⟩)
                  have hFx101_ : ai_fr (sx_W vw_440) S0_ (sm_aI (sm_aI (sm_aI (sm_aI S_ 247 0 (S_.2.2.1 243 0 p_.toNat).toNat (S_.2.2.1 244 0 p_.toNat)) 248 0 (S_.2.2.1 243 0 p_.toNat).toNat (S_.2.2.1 248 0 (S_.2.2.1 243 0 p_.toNat).toNat)) 249 0 (S_.2.2.1 243 0 p_.toNat).toNat (S_.2.2.1 245 0 p_.toNat)) 250 0 (S_.2.2.1 243 0 p_.toNat).toNat (S_.2.2.1 245 0 p_.toNat)) := ai_fr_tr hFx93_ (ai_fr_aI rfl)
                  refine sm_T_go 4 (c1 := (232, [some (.inr (.inr (some (13, 0)))), some (.inl c_), some (.inl p_), some (.inl (S_.2.2.1 243 0 p_.toNat)), some (.inl 0)], [.inl (S_.2.2.1 243 0 p_.toNat), .inr (.inr (some (246, 0))), .inl (S_.2.2.1 243 0 p_.toNat), .inr (.inr (some (246, 0)))], sm_aI (sm_aI (sm_aI (sm_aI S_ 247 0 (S_.2.2.1 243 0 p_.toNat).toNat (S_.2.2.1 244 0 p_.toNat)) 248 0 (S_.2.2.1 243 0 p_.toNat).toNat (S_.2.2.1 248 0 (S_.2.2.1 243 0 p_.toNat).toNat)) 249 0 (S_.2.2.1 243 0 p_.toNat).toNat (S_.2.2.1 245 0 p_.toNat)) 250 0 (S_.2.2.1 243 0 p_.toNat).toNat (S_.2.2.1 245 0 p_.toNat))) rfl ?_
                  refine sm_T_iald (n := 256) rfl rfl (by omega) (by omega) ?_
                  refine sm_T_go 1 (c1 := (234, [some (.inr (.inr (some (13, 0)))), some (.inl c_), some (.inl p_), some (.inl (S_.2.2.1 243 0 p_.toNat)), some (.inl 0)], [.inl 1, .inl (S_.2.2.1 246 0 (S_.2.2.1 243 0 p_.toNat).toNat), .inl (S_.2.2.1 243 0 p_.toNat), .inr (.inr (some (246, 0)))], sm_aI (sm_aI (sm_aI (sm_aI S_ 247 0 (S_.2.2.1 243 0 p_.toNat).toNat (S_.2.2.1 244 0 p_.toNat)) 248 0 (S_.2.2.1 243 0 p_.toNat).toNat (S_.2.2.1 248 0 (S_.2.2.1 243 0 p_.toNat).toNat)) 249 0 (S_.2.2.1 243 0 p_.toNat).toNat (S_.2.2.1 245 0 p_.toNat)) 250 0 (S_.2.2.1 243 0 p_.toNat).toNat (S_.2.2.1 245 0 p_.toNat))) rfl ?_
                  refine sm_T_bin (w := (S_.2.2.1 246 0 (S_.2.2.1 243 0 p_.toNat).toNat) + 1) rfl (bi_add (by omega) (by omega) (by omega)) ?_ -- pc_ 234
                  refine sm_T_iast (n := 256) rfl rfl (by omega) (by omega) ?_
                  have hIx102_ : gi (sm_aI (sm_aI (sm_aI (sm_aI (sm_aI S_ 247 0 (S_.2.2.1 243 0 p_.toNat).toNat (S_.2.2.1 244 0 p_.toNat)) 248 0 (S_.2.2.1 243 0 p_.toNat).toNat (S_.2.2.1 248 0 (S_.2.2.1 243 0 p_.toNat).toNat)) 249 0 (S_.2.2.1 243 0 p_.toNat).toNat (S_.2.2.1 245 0 p_.toNat)) 250 0 (S_.2.2.1 243 0 p_.toNat).toNat (S_.2.2.1 245 0 p_.toNat)) 246 0 (S_.2.2.1 243 0 p_.toNat).toNat ((S_.2.2.1 246 0 (S_.2.2.1 243 0 p_.toNat).toNat) + 1)) := gi_aI hIx100_ (show 0 ≤ (S_.2.2.1 246 0 (S_.2.2.1 243 0 p_.toNat).toNat) + 1 ∧ (S_.2.2.1 246 0 (S_.2.2.1 243 0 p_.toNat).toNat) + 1 ≤ 700 from ⟨by omega, by omega⟩)
                  have hFx103_ : ai_fr (sx_W vw_440) S0_ (sm_aI (sm_aI (sm_aI (sm_aI (sm_aI S_ 247 0 (S_.2.2.1 243 0 p_.toNat).toNat (S_.2.2.1 244 0 p_.toNat)) 248 0 (S_.2.2.1 243 0 p_.toNat).toNat (S_.2.2.1 248 0 (S_.2.2.1 243 0 p_.toNat).toNat)) 249 0 (S_.2.2.1 243 0 p_.toNat).toNat (S_.2.2.1 245 0 p_.toNat)) 250 0 (S_.2.2.1 243 0 p_.toNat).toNat (S_.2.2.1 245 0 p_.toNat)) 246 0 (S_.2.2.1 243 0 p_.toNat).toNat ((S_.2.2.1 246 0 (S_.2.2.1 243 0 p_.toNat).toNat) + 1)) := ai_fr_tr hFx101_ (ai_fr_aI rfl)
                  refine sm_T_inc (a := 2) (z := 1) (v := p_) (w := p_ + 1) rfl rfl (by omega) (by omega) (by omega) ?_ -- pc_ 236
                  refine sm_T_go 1 (c1 := (31, [some (.inr (.inr (some (13, 0)))), some (.inl c_), some (.inl (p_ + 1)), some (.inl (S_.2.2.1 243 0 p_.toNat)), some (.inl 0)], [], sm_aI (sm_aI (sm_aI (sm_aI (sm_aI S_ 247 0 (S_.2.2.1 243 0 p_.toNat).toNat (S_.2.2.1 244 0 p_.toNat)) 248 0 (S_.2.2.1 243 0 p_.toNat).toNat (S_.2.2.1 248 0 (S_.2.2.1 243 0 p_.toNat).toNat)) 249 0 (S_.2.2.1 243 0 p_.toNat).toNat (S_.2.2.1 245 0 p_.toNat)) 250 0 (S_.2.2.1 243 0 p_.toNat).toNat (S_.2.2.1 245 0 p_.toNat)) 246 0 (S_.2.2.1 243 0 p_.toNat).toNat ((S_.2.2.1 246 0 (S_.2.2.1 243 0 p_.toNat).toNat) + 1))) rfl ?_
                  refine sm_T_wk [some (.inr (.inr (some (13, 0)))), some (.inl c_), some (.inl (p_ + 1)), none, none] (by exact ⟨rfl, rfl, rfl, trivial⟩) ?_
                  refine ih_.2 (p_ + 1) (sm_aI (sm_aI (sm_aI (sm_aI (sm_aI S_ 247 0 (S_.2.2.1 243 0 p_.toNat).toNat (S_.2.2.1 244 0 p_.toNat)) 248 0 (S_.2.2.1 243 0 p_.toNat).toNat (S_.2.2.1 248 0 (S_.2.2.1 243 0 p_.toNat).toNat)) 249 0 (S_.2.2.1 243 0 p_.toNat).toNat (S_.2.2.1 245 0 p_.toNat)) 250 0 (S_.2.2.1 243 0 p_.toNat).toNat (S_.2.2.1 245 0 p_.toNat)) 246 0 (S_.2.2.1 243 0 p_.toNat).toNat ((S_.2.2.1 246 0 (S_.2.2.1 243 0 p_.toNat).toNat) + 1)) hIx102_ hFx103_ ⟨?_, ?_, ?_, ?_, trivial⟩ ?_
                  · have r6_ : ∀ j9_, ((sm_aI (sm_aI (sm_aI (sm_aI (sm_aI S_ 247 0 (S_.2.2.1 243 0 p_.toNat).toNat (S_.2.2.1 244 0 p_.toNat)) 248 0 (S_.2.2.1 243 0 p_.toNat).toNat (S_.2.2.1 248 0 (S_.2.2.1 243 0 p_.toNat).toNat)) 249 0 (S_.2.2.1 243 0 p_.toNat).toNat (S_.2.2.1 245 0 p_.toNat)) 250 0 (S_.2.2.1 243 0 p_.toNat).toNat (S_.2.2.1 245 0 p_.toNat)) 246 0 (S_.2.2.1 243 0 p_.toNat).toNat ((S_.2.2.1 246 0 (S_.2.2.1 243 0 p_.toNat).toNat) + 1))).2.2.1 246 0 j9_ = if j9_ = (S_.2.2.1 243 0 p_.toNat).toNat then S_.2.2.1 246 0 (S_.2.2.1 243 0 p_.toNat).toNat + 1 else S_.2.2.1 246 0 j9_ := fun j9_ => by (try simp only [rd_eq, rd_ne, rf_eq, rf_nk, rf_nt, rd_fa, rd_af, rd_fl, rd_al, rd_lf, rd_la, rd_leq, rd_lne, rd_fr, rd_ar, ne_eq, Nat.reduceEqDiff, not_false_eq_true])
                    have r3_ : ((sm_aI (sm_aI (sm_aI (sm_aI (sm_aI S_ 247 0 (S_.2.2.1 243 0 p_.toNat).toNat (S_.2.2.1 244 0 p_.toNat)) 248 0 (S_.2.2.1 243 0 p_.toNat).toNat (S_.2.2.1 248 0 (S_.2.2.1 243 0 p_.toNat).toNat)) 249 0 (S_.2.2.1 243 0 p_.toNat).toNat (S_.2.2.1 245 0 p_.toNat)) 250 0 (S_.2.2.1 243 0 p_.toNat).toNat (S_.2.2.1 245 0 p_.toNat)) 246 0 (S_.2.2.1 243 0 p_.toNat).toNat ((S_.2.2.1 246 0 (S_.2.2.1 243 0 p_.toNat).toNat) + 1))).2.2.1 243 0 = S_.2.2.1 243 0 := by (funext j9_; (try simp only [rd_eq, rd_ne, rf_eq, rf_nk, rf_nt, rd_fa, rd_af, rd_fl, rd_al, rd_lf, rd_la, rd_leq, rd_lne, rd_fr, rd_ar, ne_eq, Nat.reduceEqDiff, not_false_eq_true]))
                    have r9_ : ((sm_aI (sm_aI (sm_aI (sm_aI (sm_aI S_ 247 0 (S_.2.2.1 243 0 p_.toNat).toNat (S_.2.2.1 244 0 p_.toNat)) 248 0 (S_.2.2.1 243 0 p_.toNat).toNat (S_.2.2.1 248 0 (S_.2.2.1 243 0 p_.toNat).toNat)) 249 0 (S_.2.2.1 243 0 p_.toNat).toNat (S_.2.2.1 245 0 p_.toNat)) 250 0 (S_.2.2.1 243 0 p_.toNat).toNat (S_.2.2.1 245 0 p_.toNat)) 246 0 (S_.2.2.1 243 0 p_.toNat).toNat ((S_.2.2.1 246 0 (S_.2.2.1 243 0 p_.toNat).toNat) + 1))).1 13 0 159 = S_.1 13 0 159 := by (try simp only [rd_eq, rd_ne, rf_eq, rf_nk, rf_nt, rd_fa, rd_af, rd_fl, rd_al, rd_lf, rd_la, rd_leq, rd_lne, rd_fr, rd_ar, ne_eq, Nat.reduceEqDiff, not_false_eq_true])
                    rw [r9_]
                    omega
                  · have r6_ : ∀ j9_, ((sm_aI (sm_aI (sm_aI (sm_aI (sm_aI S_ 247 0 (S_.2.2.1 243 0 p_.toNat).toNat (S_.2.2.1 244 0 p_.toNat)) 248 0 (S_.2.2.1 243 0 p_.toNat).toNat (S_.2.2.1 248 0 (S_.2.2.1 243 0 p_.toNat).toNat)) 249 0 (S_.2.2.1 243 0 p_.toNat).toNat (S_.2.2.1 245 0 p_.toNat)) 250 0 (S_.2.2.1 243 0 p_.toNat).toNat (S_.2.2.1 245 0 p_.toNat)) 246 0 (S_.2.2.1 243 0 p_.toNat).toNat ((S_.2.2.1 246 0 (S_.2.2.1 243 0 p_.toNat).toNat) + 1))).2.2.1 246 0 j9_ = if j9_ = (S_.2.2.1 243 0 p_.toNat).toNat then S_.2.2.1 246 0 (S_.2.2.1 243 0 p_.toNat).toNat + 1 else S_.2.2.1 246 0 j9_ := fun j9_ => by (try simp only [rd_eq, rd_ne, rf_eq, rf_nk, rf_nt, rd_fa, rd_af, rd_fl, rd_al, rd_lf, rd_la, rd_leq, rd_lne, rd_fr, rd_ar, ne_eq, Nat.reduceEqDiff, not_false_eq_true])
                    have r3_ : ((sm_aI (sm_aI (sm_aI (sm_aI (sm_aI S_ 247 0 (S_.2.2.1 243 0 p_.toNat).toNat (S_.2.2.1 244 0 p_.toNat)) 248 0 (S_.2.2.1 243 0 p_.toNat).toNat (S_.2.2.1 248 0 (S_.2.2.1 243 0 p_.toNat).toNat)) 249 0 (S_.2.2.1 243 0 p_.toNat).toNat (S_.2.2.1 245 0 p_.toNat)) 250 0 (S_.2.2.1 243 0 p_.toNat).toNat (S_.2.2.1 245 0 p_.toNat)) 246 0 (S_.2.2.1 243 0 p_.toNat).toNat ((S_.2.2.1 246 0 (S_.2.2.1 243 0 p_.toNat).toNat) + 1))).2.2.1 243 0 = S_.2.2.1 243 0 := by (funext j9_; (try simp only [rd_eq, rd_ne, rf_eq, rf_nk, rf_nt, rd_fa, rd_af, rd_fl, rd_al, rd_lf, rd_la, rd_leq, rd_lne, rd_fr, rd_ar, ne_eq, Nat.reduceEqDiff, not_false_eq_true]))
                    have r9_ : ((sm_aI (sm_aI (sm_aI (sm_aI (sm_aI S_ 247 0 (S_.2.2.1 243 0 p_.toNat).toNat (S_.2.2.1 244 0 p_.toNat)) 248 0 (S_.2.2.1 243 0 p_.toNat).toNat (S_.2.2.1 248 0 (S_.2.2.1 243 0 p_.toNat).toNat)) 249 0 (S_.2.2.1 243 0 p_.toNat).toNat (S_.2.2.1 245 0 p_.toNat)) 250 0 (S_.2.2.1 243 0 p_.toNat).toNat (S_.2.2.1 245 0 p_.toNat)) 246 0 (S_.2.2.1 243 0 p_.toNat).toNat ((S_.2.2.1 246 0 (S_.2.2.1 243 0 p_.toNat).toNat) + 1))).1 13 0 159 = S_.1 13 0 159 := by (try simp only [rd_eq, rd_ne, rf_eq, rf_nk, rf_nt, rd_fa, rd_af, rd_fl, rd_al, rd_lf, rd_la, rd_leq, rd_lne, rd_fr, rd_ar, ne_eq, Nat.reduceEqDiff, not_false_eq_true])
                    intro k9_ k0_ k1_
                    rw [r9_] at k1_
                    have w9_ := hv_ k9_ k0_ k1_
                    (try simp only [rd_eq, rd_ne, rf_eq, rf_nk, rf_nt, rd_fa, rd_af, rd_fl, rd_al, rd_lf, rd_la, rd_leq, rd_lne, rd_fr, rd_ar, ne_eq, Nat.reduceEqDiff, not_false_eq_true])
                    exact w9_
                  · have r6_ : ∀ j9_, ((sm_aI (sm_aI (sm_aI (sm_aI (sm_aI S_ 247 0 (S_.2.2.1 243 0 p_.toNat).toNat (S_.2.2.1 244 0 p_.toNat)) 248 0 (S_.2.2.1 243 0 p_.toNat).toNat (S_.2.2.1 248 0 (S_.2.2.1 243 0 p_.toNat).toNat)) 249 0 (S_.2.2.1 243 0 p_.toNat).toNat (S_.2.2.1 245 0 p_.toNat)) 250 0 (S_.2.2.1 243 0 p_.toNat).toNat (S_.2.2.1 245 0 p_.toNat)) 246 0 (S_.2.2.1 243 0 p_.toNat).toNat ((S_.2.2.1 246 0 (S_.2.2.1 243 0 p_.toNat).toNat) + 1))).2.2.1 246 0 j9_ = if j9_ = (S_.2.2.1 243 0 p_.toNat).toNat then S_.2.2.1 246 0 (S_.2.2.1 243 0 p_.toNat).toNat + 1 else S_.2.2.1 246 0 j9_ := fun j9_ => by (try simp only [rd_eq, rd_ne, rf_eq, rf_nk, rf_nt, rd_fa, rd_af, rd_fl, rd_al, rd_lf, rd_la, rd_leq, rd_lne, rd_fr, rd_ar, ne_eq, Nat.reduceEqDiff, not_false_eq_true])
                    have r3_ : ((sm_aI (sm_aI (sm_aI (sm_aI (sm_aI S_ 247 0 (S_.2.2.1 243 0 p_.toNat).toNat (S_.2.2.1 244 0 p_.toNat)) 248 0 (S_.2.2.1 243 0 p_.toNat).toNat (S_.2.2.1 248 0 (S_.2.2.1 243 0 p_.toNat).toNat)) 249 0 (S_.2.2.1 243 0 p_.toNat).toNat (S_.2.2.1 245 0 p_.toNat)) 250 0 (S_.2.2.1 243 0 p_.toNat).toNat (S_.2.2.1 245 0 p_.toNat)) 246 0 (S_.2.2.1 243 0 p_.toNat).toNat ((S_.2.2.1 246 0 (S_.2.2.1 243 0 p_.toNat).toNat) + 1))).2.2.1 243 0 = S_.2.2.1 243 0 := by (funext j9_; (try simp only [rd_eq, rd_ne, rf_eq, rf_nk, rf_nt, rd_fa, rd_af, rd_fl, rd_al, rd_lf, rd_la, rd_leq, rd_lne, rd_fr, rd_ar, ne_eq, Nat.reduceEqDiff, not_false_eq_true]))
                    have r9_ : ((sm_aI (sm_aI (sm_aI (sm_aI (sm_aI S_ 247 0 (S_.2.2.1 243 0 p_.toNat).toNat (S_.2.2.1 244 0 p_.toNat)) 248 0 (S_.2.2.1 243 0 p_.toNat).toNat (S_.2.2.1 248 0 (S_.2.2.1 243 0 p_.toNat).toNat)) 249 0 (S_.2.2.1 243 0 p_.toNat).toNat (S_.2.2.1 245 0 p_.toNat)) 250 0 (S_.2.2.1 243 0 p_.toNat).toNat (S_.2.2.1 245 0 p_.toNat)) 246 0 (S_.2.2.1 243 0 p_.toNat).toNat ((S_.2.2.1 246 0 (S_.2.2.1 243 0 p_.toNat).toNat) + 1))).1 13 0 159 = S_.1 13 0 159 := by (try simp only [rd_eq, rd_ne, rf_eq, rf_nk, rf_nt, rd_fa, rd_af, rd_fl, rd_al, rd_lf, rd_la, rd_leq, rd_lne, rd_fr, rd_ar, ne_eq, Nat.reduceEqDiff, not_false_eq_true])
                    intro n9_ h9_ h8_
                    rw [r6_]
                    have w9_ := hz_ n9_ h9_ h8_
                    split
                    · omega
                    · omega
                  · have r6_ : ∀ j9_, ((sm_aI (sm_aI (sm_aI (sm_aI (sm_aI S_ 247 0 (S_.2.2.1 243 0 p_.toNat).toNat (S_.2.2.1 244 0 p_.toNat)) 248 0 (S_.2.2.1 243 0 p_.toNat).toNat (S_.2.2.1 248 0 (S_.2.2.1 243 0 p_.toNat).toNat)) 249 0 (S_.2.2.1 243 0 p_.toNat).toNat (S_.2.2.1 245 0 p_.toNat)) 250 0 (S_.2.2.1 243 0 p_.toNat).toNat (S_.2.2.1 245 0 p_.toNat)) 246 0 (S_.2.2.1 243 0 p_.toNat).toNat ((S_.2.2.1 246 0 (S_.2.2.1 243 0 p_.toNat).toNat) + 1))).2.2.1 246 0 j9_ = if j9_ = (S_.2.2.1 243 0 p_.toNat).toNat then S_.2.2.1 246 0 (S_.2.2.1 243 0 p_.toNat).toNat + 1 else S_.2.2.1 246 0 j9_ := fun j9_ => by (try simp only [rd_eq, rd_ne, rf_eq, rf_nk, rf_nt, rd_fa, rd_af, rd_fl, rd_al, rd_lf, rd_la, rd_leq, rd_lne, rd_fr, rd_ar, ne_eq, Nat.reduceEqDiff, not_false_eq_true])
                    have r3_ : ((sm_aI (sm_aI (sm_aI (sm_aI (sm_aI S_ 247 0 (S_.2.2.1 243 0 p_.toNat).toNat (S_.2.2.1 244 0 p_.toNat)) 248 0 (S_.2.2.1 243 0 p_.toNat).toNat (S_.2.2.1 248 0 (S_.2.2.1 243 0 p_.toNat).toNat)) 249 0 (S_.2.2.1 243 0 p_.toNat).toNat (S_.2.2.1 245 0 p_.toNat)) 250 0 (S_.2.2.1 243 0 p_.toNat).toNat (S_.2.2.1 245 0 p_.toNat)) 246 0 (S_.2.2.1 243 0 p_.toNat).toNat ((S_.2.2.1 246 0 (S_.2.2.1 243 0 p_.toNat).toNat) + 1))).2.2.1 243 0 = S_.2.2.1 243 0 := by (funext j9_; (try simp only [rd_eq, rd_ne, rf_eq, rf_nk, rf_nt, rd_fa, rd_af, rd_fl, rd_al, rd_lf, rd_la, rd_leq, rd_lne, rd_fr, rd_ar, ne_eq, Nat.reduceEqDiff, not_false_eq_true]))
                    have r9_ : ((sm_aI (sm_aI (sm_aI (sm_aI (sm_aI S_ 247 0 (S_.2.2.1 243 0 p_.toNat).toNat (S_.2.2.1 244 0 p_.toNat)) 248 0 (S_.2.2.1 243 0 p_.toNat).toNat (S_.2.2.1 248 0 (S_.2.2.1 243 0 p_.toNat).toNat)) 249 0 (S_.2.2.1 243 0 p_.toNat).toNat (S_.2.2.1 245 0 p_.toNat)) 250 0 (S_.2.2.1 243 0 p_.toNat).toNat (S_.2.2.1 245 0 p_.toNat)) 246 0 (S_.2.2.1 243 0 p_.toNat).toNat ((S_.2.2.1 246 0 (S_.2.2.1 243 0 p_.toNat).toNat) + 1))).1 13 0 159 = S_.1 13 0 159 := by (try simp only [rd_eq, rd_ne, rf_eq, rf_nk, rf_nt, rd_fa, rd_af, rd_fl, rd_al, rd_lf, rd_la, rd_leq, rd_lne, rd_fr, rd_ar, ne_eq, Nat.reduceEqDiff, not_false_eq_true])
                    intro n9_ h9_ h8_ y9_
                    rw [r6_] at y9_
                    rw [r3_]
                    by_cases q9_ : n9_.toNat = (S_.2.2.1 243 0 p_.toNat).toNat
                    · exact ⟨p_, by omega, by omega, by omega⟩
                    · rw [if_neg q9_] at y9_
                      obtain ⟨k9_, u1_, u2_, u3_⟩ := hx_ n9_ h9_ h8_ y9_
                      exact ⟨k9_, u1_, by omega, u3_⟩
                  · omega
            · have cx74_ : ¬ ((S_.2.2.1 244 0 p_.toNat) ≤ (S_.2.2.1 248 0 (S_.2.2.1 243 0 p_.toNat).toNat)) := of_decide_eq_false cx74_
              refine sm_T_go 3 (c1 := (133, [some (.inr (.inr (some (13, 0)))), some (.inl c_), some (.inl p_), some (.inl (S_.2.2.1 243 0 p_.toNat)), some (.inl 0)], [.inl p_, .inr (.inr (some (244, 0))), .inl (S_.2.2.1 243 0 p_.toNat), .inr (.inr (some (248, 0)))], sm_aI S_ 247 0 (S_.2.2.1 243 0 p_.toNat).toNat (S_.2.2.1 244 0 p_.toNat))) rfl ?_
              refine sm_T_iald (n := 700) rfl rfl (by omega) (by omega) ?_
              refine sm_T_go 1 (c1 := (143, [some (.inr (.inr (some (13, 0)))), some (.inl c_), some (.inl p_), some (.inl (S_.2.2.1 243 0 p_.toNat)), some (.inl 0)], [.inl (S_.2.2.1 244 0 p_.toNat), .inl (S_.2.2.1 243 0 p_.toNat), .inr (.inr (some (248, 0)))], sm_aI S_ 247 0 (S_.2.2.1 243 0 p_.toNat).toNat (S_.2.2.1 244 0 p_.toNat))) rfl ?_
              refine sm_T_iast (n := 256) rfl rfl (by omega) (by omega) ?_
              have hIx104_ : gi (sm_aI (sm_aI S_ 247 0 (S_.2.2.1 243 0 p_.toNat).toNat (S_.2.2.1 244 0 p_.toNat)) 248 0 (S_.2.2.1 243 0 p_.toNat).toNat (S_.2.2.1 244 0 p_.toNat)) := gi_aI hIx71_ (show 0 ≤ (S_.2.2.1 244 0 p_.toNat) ∧ (S_.2.2.1 244 0 p_.toNat) ≤ 200 from ⟨by omega, by omega⟩)
              have hFx105_ : ai_fr (sx_W vw_440) S0_ (sm_aI (sm_aI S_ 247 0 (S_.2.2.1 243 0 p_.toNat).toNat (S_.2.2.1 244 0 p_.toNat)) 248 0 (S_.2.2.1 243 0 p_.toNat).toNat (S_.2.2.1 244 0 p_.toNat)) := ai_fr_tr hFx72_ (ai_fr_aI rfl)
              refine sm_T_go 8 (c1 := (159, [some (.inr (.inr (some (13, 0)))), some (.inl c_), some (.inl p_), some (.inl (S_.2.2.1 243 0 p_.toNat)), some (.inl 0)], [.inl p_, .inr (.inr (some (245, 0))), .inl (S_.2.2.1 243 0 p_.toNat), .inr (.inr (some (249, 0)))], sm_aI (sm_aI S_ 247 0 (S_.2.2.1 243 0 p_.toNat).toNat (S_.2.2.1 244 0 p_.toNat)) 248 0 (S_.2.2.1 243 0 p_.toNat).toNat (S_.2.2.1 244 0 p_.toNat))) rfl ?_
              refine sm_T_iald (n := 700) rfl rfl (by omega) (by omega) ?_
              have bx106_ : 0 ≤ S_.2.2.1 245 0 p_.toNat ∧ S_.2.2.1 245 0 p_.toNat ≤ 40 := hI_.2 245 0 _
              refine sm_T_go 3 (c1 := (165, [some (.inr (.inr (some (13, 0)))), some (.inl c_), some (.inl p_), some (.inl (S_.2.2.1 243 0 p_.toNat)), some (.inl 0)], [.inl (S_.2.2.1 243 0 p_.toNat), .inr (.inr (some (249, 0))), .inl (S_.2.2.1 245 0 p_.toNat), .inl (S_.2.2.1 243 0 p_.toNat), .inr (.inr (some (249, 0)))], sm_aI (sm_aI S_ 247 0 (S_.2.2.1 243 0 p_.toNat).toNat (S_.2.2.1 244 0 p_.toNat)) 248 0 (S_.2.2.1 243 0 p_.toNat).toNat (S_.2.2.1 244 0 p_.toNat))) rfl ?_
              refine sm_T_iald (n := 256) rfl rfl (by omega) (by omega) ?_
              have bx107_ : 0 ≤ S_.2.2.1 249 0 (S_.2.2.1 243 0 p_.toNat).toNat ∧ S_.2.2.1 249 0 (S_.2.2.1 243 0 p_.toNat).toNat ≤ 40 := hI_.2 249 0 _
              refine sm_T_go 0 (c1 := (166, [some (.inr (.inr (some (13, 0)))), some (.inl c_), some (.inl p_), some (.inl (S_.2.2.1 243 0 p_.toNat)), some (.inl 0)], [.inl (S_.2.2.1 249 0 (S_.2.2.1 243 0 p_.toNat).toNat), .inl (S_.2.2.1 245 0 p_.toNat), .inl (S_.2.2.1 243 0 p_.toNat), .inr (.inr (some (249, 0)))], sm_aI (sm_aI S_ 247 0 (S_.2.2.1 243 0 p_.toNat).toNat (S_.2.2.1 244 0 p_.toNat)) 248 0 (S_.2.2.1 243 0 p_.toNat).toNat (S_.2.2.1 244 0 p_.toNat))) rfl ?_
              refine sm_T_br (a := 3) (z := 12) rfl (fun cx108_ => ?_) (fun cx108_ => ?_)
              · have cx108_ : (S_.2.2.1 249 0 (S_.2.2.1 243 0 p_.toNat).toNat) ≤ (S_.2.2.1 245 0 p_.toNat) := of_decide_eq_true cx108_
                refine sm_T_go 3 (c1 := (183, [some (.inr (.inr (some (13, 0)))), some (.inl c_), some (.inl p_), some (.inl (S_.2.2.1 243 0 p_.toNat)), some (.inl 0)], [.inl (S_.2.2.1 243 0 p_.toNat), .inr (.inr (some (249, 0))), .inl (S_.2.2.1 243 0 p_.toNat), .inr (.inr (some (249, 0)))], sm_aI (sm_aI S_ 247 0 (S_.2.2.1 243 0 p_.toNat).toNat (S_.2.2.1 244 0 p_.toNat)) 248 0 (S_.2.2.1 243 0 p_.toNat).toNat (S_.2.2.1 244 0 p_.toNat))) rfl ?_
                refine sm_T_iald (n := 256) rfl rfl (by omega) (by omega) ?_
                refine sm_T_go 0 (c1 := (184, [some (.inr (.inr (some (13, 0)))), some (.inl c_), some (.inl p_), some (.inl (S_.2.2.1 243 0 p_.toNat)), some (.inl 0)], [.inl (S_.2.2.1 249 0 (S_.2.2.1 243 0 p_.toNat).toNat), .inl (S_.2.2.1 243 0 p_.toNat), .inr (.inr (some (249, 0)))], sm_aI (sm_aI S_ 247 0 (S_.2.2.1 243 0 p_.toNat).toNat (S_.2.2.1 244 0 p_.toNat)) 248 0 (S_.2.2.1 243 0 p_.toNat).toNat (S_.2.2.1 244 0 p_.toNat))) rfl ?_
                refine sm_T_iast (n := 256) rfl rfl (by omega) (by omega) ?_
                have hIx109_ : gi (sm_aI (sm_aI (sm_aI S_ 247 0 (S_.2.2.1 243 0 p_.toNat).toNat (S_.2.2.1 244 0 p_.toNat)) 248 0 (S_.2.2.1 243 0 p_.toNat).toNat (S_.2.2.1 244 0 p_.toNat)) 249 0 (S_.2.2.1 243 0 p_.toNat).toNat (S_.2.2.1 249 0 (S_.2.2.1 243 0 p_.toNat).toNat)) := gi_aI hIx104_ (show 0 ≤ (S_.2.2.1 249 0 (S_.2.2.1 243 0 p_.toNat).toNat) ∧ (S_.2.2.1 249 0 (S_.2.2.1 243 0 p_.toNat).toNat) ≤ 40 from ⟨by omega, by omega⟩)
                have hFx110_ : ai_fr (sx_W vw_440) S0_ (sm_aI (sm_aI (sm_aI S_ 247 0 (S_.2.2.1 243 0 p_.toNat).toNat (S_.2.2.1 244 0 p_.toNat)) 248 0 (S_.2.2.1 243 0 p_.toNat).toNat (S_.2.2.1 244 0 p_.toNat)) 249 0 (S_.2.2.1 243 0 p_.toNat).toNat (S_.2.2.1 249 0 (S_.2.2.1 243 0 p_.toNat).toNat)) := ai_fr_tr hFx105_ (ai_fr_aI rfl)
                refine sm_T_go 8 (c1 := (200, [some (.inr (.inr (some (13, 0)))), some (.inl c_), some (.inl p_), some (.inl (S_.2.2.1 243 0 p_.toNat)), some (.inl 0)], [.inl p_, .inr (.inr (some (245, 0))), .inl (S_.2.2.1 243 0 p_.toNat), .inr (.inr (some (250, 0)))], sm_aI (sm_aI (sm_aI S_ 247 0 (S_.2.2.1 243 0 p_.toNat).toNat (S_.2.2.1 244 0 p_.toNat)) 248 0 (S_.2.2.1 243 0 p_.toNat).toNat (S_.2.2.1 244 0 p_.toNat)) 249 0 (S_.2.2.1 243 0 p_.toNat).toNat (S_.2.2.1 249 0 (S_.2.2.1 243 0 p_.toNat).toNat))) rfl ?_
                refine sm_T_iald (n := 700) rfl rfl (by omega) (by omega) ?_
                refine sm_T_go 3 (c1 := (206, [some (.inr (.inr (some (13, 0)))), some (.inl c_), some (.inl p_), some (.inl (S_.2.2.1 243 0 p_.toNat)), some (.inl 0)], [.inl (S_.2.2.1 243 0 p_.toNat), .inr (.inr (some (250, 0))), .inl (S_.2.2.1 245 0 p_.toNat), .inl (S_.2.2.1 243 0 p_.toNat), .inr (.inr (some (250, 0)))], sm_aI (sm_aI (sm_aI S_ 247 0 (S_.2.2.1 243 0 p_.toNat).toNat (S_.2.2.1 244 0 p_.toNat)) 248 0 (S_.2.2.1 243 0 p_.toNat).toNat (S_.2.2.1 244 0 p_.toNat)) 249 0 (S_.2.2.1 243 0 p_.toNat).toNat (S_.2.2.1 249 0 (S_.2.2.1 243 0 p_.toNat).toNat))) rfl ?_
                refine sm_T_iald (n := 256) rfl rfl (by omega) (by omega) ?_
                have bx111_ : 0 ≤ S_.2.2.1 250 0 (S_.2.2.1 243 0 p_.toNat).toNat ∧ S_.2.2.1 250 0 (S_.2.2.1 243 0 p_.toNat).toNat ≤ 40 := hI_.2 250 0 _
                refine sm_T_go 0 (c1 := (207, [some (.inr (.inr (some (13, 0)))), some (.inl c_), some (.inl p_), some (.inl (S_.2.2.1 243 0 p_.toNat)), some (.inl 0)], [.inl (S_.2.2.1 250 0 (S_.2.2.1 243 0 p_.toNat).toNat), .inl (S_.2.2.1 245 0 p_.toNat), .inl (S_.2.2.1 243 0 p_.toNat), .inr (.inr (some (250, 0)))], sm_aI (sm_aI (sm_aI S_ 247 0 (S_.2.2.1 243 0 p_.toNat).toNat (S_.2.2.1 244 0 p_.toNat)) 248 0 (S_.2.2.1 243 0 p_.toNat).toNat (S_.2.2.1 244 0 p_.toNat)) 249 0 (S_.2.2.1 243 0 p_.toNat).toNat (S_.2.2.1 249 0 (S_.2.2.1 243 0 p_.toNat).toNat))) rfl ?_
                refine sm_T_br (a := 5) (z := 12) rfl (fun cx112_ => ?_) (fun cx112_ => ?_)
                · have cx112_ : (S_.2.2.1 245 0 p_.toNat) ≤ (S_.2.2.1 250 0 (S_.2.2.1 243 0 p_.toNat).toNat) := of_decide_eq_true cx112_
                  refine sm_T_go 3 (c1 := (224, [some (.inr (.inr (some (13, 0)))), some (.inl c_), some (.inl p_), some (.inl (S_.2.2.1 243 0 p_.toNat)), some (.inl 0)], [.inl (S_.2.2.1 243 0 p_.toNat), .inr (.inr (some (250, 0))), .inl (S_.2.2.1 243 0 p_.toNat), .inr (.inr (some (250, 0)))], sm_aI (sm_aI (sm_aI S_ 247 0 (S_.2.2.1 243 0 p_.toNat).toNat (S_.2.2.1 244 0 p_.toNat)) 248 0 (S_.2.2.1 243 0 p_.toNat).toNat (S_.2.2.1 244 0 p_.toNat)) 249 0 (S_.2.2.1 243 0 p_.toNat).toNat (S_.2.2.1 249 0 (S_.2.2.1 243 0 p_.toNat).toNat))) rfl ?_
                  refine sm_T_iald (n := 256) rfl rfl (by omega) (by omega) ?_
                  refine sm_T_go 0 (c1 := (225, [some (.inr (.inr (some (13, 0)))), some (.inl c_), some (.inl p_), some (.inl (S_.2.2.1 243 0 p_.toNat)), some (.inl 0)], [.inl (S_.2.2.1 250 0 (S_.2.2.1 243 0 p_.toNat).toNat), .inl (S_.2.2.1 243 0 p_.toNat), .inr (.inr (some (250, 0)))], sm_aI (sm_aI (sm_aI S_ 247 0 (S_.2.2.1 243 0 p_.toNat).toNat (S_.2.2.1 244 0 p_.toNat)) 248 0 (S_.2.2.1 243 0 p_.toNat).toNat (S_.2.2.1 244 0 p_.toNat)) 249 0 (S_.2.2.1 243 0 p_.toNat).toNat (S_.2.2.1 249 0 (S_.2.2.1 243 0 p_.toNat).toNat))) rfl ?_
                  refine sm_T_iast (n := 256) rfl rfl (by omega) (by omega) ?_
                  have hIx113_ : gi (sm_aI (sm_aI (sm_aI (sm_aI S_ 247 0 (S_.2.2.1 243 0 p_.toNat).toNat (S_.2.2.1 244 0 p_.toNat)) 248 0 (S_.2.2.1 243 0 p_.toNat).toNat (S_.2.2.1 244 0 p_.toNat)) 249 0 (S_.2.2.1 243 0 p_.toNat).toNat (S_.2.2.1 249 0 (S_.2.2.1 243 0 p_.toNat).toNat)) 250 0 (S_.2.2.1 243 0 p_.toNat).toNat (S_.2.2.1 250 0 (S_.2.2.1 243 0 p_.toNat).toNat)) := gi_aI hIx109_ (show 0 ≤ (S_.2.2.1 250 0 (S_.2.2.1 243 0 p_.toNat).toNat) ∧ (S_.2.2.1 250 0 (S_.2.2.1 243 0 p_.toNat).toNat) ≤ 40 from ⟨by omega, by omega⟩)
                  have hFx114_ : ai_fr (sx_W vw_440) S0_ (sm_aI (sm_aI (sm_aI (sm_aI S_ 247 0 (S_.2.2.1 243 0 p_.toNat).toNat (S_.2.2.1 244 0 p_.toNat)) 248 0 (S_.2.2.1 243 0 p_.toNat).toNat (S_.2.2.1 244 0 p_.toNat)) 249 0 (S_.2.2.1 243 0 p_.toNat).toNat (S_.2.2.1 249 0 (S_.2.2.1 243 0 p_.toNat).toNat)) 250 0 (S_.2.2.1 243 0 p_.toNat).toNat (S_.2.2.1 250 0 (S_.2.2.1 243 0 p_.toNat).toNat)) := ai_fr_tr hFx110_ (ai_fr_aI rfl)
                  refine sm_T_go 4 (c1 := (232, [some (.inr (.inr (some (13, 0)))), some (.inl c_), some (.inl p_), some (.inl (S_.2.2.1 243 0 p_.toNat)), some (.inl 0)], [.inl (S_.2.2.1 243 0 p_.toNat), .inr (.inr (some (246, 0))), .inl (S_.2.2.1 243 0 p_.toNat), .inr (.inr (some (246, 0)))], sm_aI (sm_aI (sm_aI (sm_aI S_ 247 0 (S_.2.2.1 243 0 p_.toNat).toNat (S_.2.2.1 244 0 p_.toNat)) 248 0 (S_.2.2.1 243 0 p_.toNat).toNat (S_.2.2.1 244 0 p_.toNat)) 249 0 (S_.2.2.1 243 0 p_.toNat).toNat (S_.2.2.1 249 0 (S_.2.2.1 243 0 p_.toNat).toNat)) 250 0 (S_.2.2.1 243 0 p_.toNat).toNat (S_.2.2.1 250 0 (S_.2.2.1 243 0 p_.toNat).toNat))) rfl ?_
                  refine sm_T_iald (n := 256) rfl rfl (by omega) (by omega) ?_
                  refine sm_T_go 1 (c1 := (234, [some (.inr (.inr (some (13, 0)))), some (.inl c_), some (.inl p_), some (.inl (S_.2.2.1 243 0 p_.toNat)), some (.inl 0)], [.inl 1, .inl (S_.2.2.1 246 0 (S_.2.2.1 243 0 p_.toNat).toNat), .inl (S_.2.2.1 243 0 p_.toNat), .inr (.inr (some (246, 0)))], sm_aI (sm_aI (sm_aI (sm_aI S_ 247 0 (S_.2.2.1 243 0 p_.toNat).toNat (S_.2.2.1 244 0 p_.toNat)) 248 0 (S_.2.2.1 243 0 p_.toNat).toNat (S_.2.2.1 244 0 p_.toNat)) 249 0 (S_.2.2.1 243 0 p_.toNat).toNat (S_.2.2.1 249 0 (S_.2.2.1 243 0 p_.toNat).toNat)) 250 0 (S_.2.2.1 243 0 p_.toNat).toNat (S_.2.2.1 250 0 (S_.2.2.1 243 0 p_.toNat).toNat))) rfl ?_
                  refine sm_T_bin (w := (S_.2.2.1 246 0 (S_.2.2.1 243 0 p_.toNat).toNat) + 1) rfl (bi_add (by omega) (by omega) (by omega)) ?_ -- pc_ 234
                  refine sm_T_iast (n := 256) rfl rfl (by omega) (by omega) ?_
                  have hIx115_ : gi (sm_aI (sm_aI (sm_aI (sm_aI (sm_aI S_ 247 0 (S_.2.2.1 243 0 p_.toNat).toNat (S_.2.2.1 244 0 p_.toNat)) 248 0 (S_.2.2.1 243 0 p_.toNat).toNat (S_.2.2.1 244 0 p_.toNat)) 249 0 (S_.2.2.1 243 0 p_.toNat).toNat (S_.2.2.1 249 0 (S_.2.2.1 243 0 p_.toNat).toNat)) 250 0 (S_.2.2.1 243 0 p_.toNat).toNat (S_.2.2.1 250 0 (S_.2.2.1 243 0 p_.toNat).toNat)) 246 0 (S_.2.2.1 243 0 p_.toNat).toNat ((S_.2.2.1 246 0 (S_.2.2.1 243 0 p_.toNat).toNat) + 1)) := gi_aI hIx113_ (show 0 ≤ (S_.2.2.1 246 0 (S_.2.2.1 243 0 p_.toNat).toNat) + 1 ∧ (S_.2.2.1 246 0 (S_.2.2.1 243 0 p_.toNat).toNat) + 1 ≤ 700 from ⟨by omega, by omega⟩)
                  have hFx116_ : ai_fr (sx_W vw_440) S0_ (sm_aI (sm_aI (sm_aI (sm_aI (sm_aI S_ 247 0 (S_.2.2.1 243 0 p_.toNat).toNat (S_.2.2.1 244 0 p_.toNat)) 248 0 (S_.2.2.1 243 0 p_.toNat).toNat (S_.2.2.1 244 0 p_.toNat)) 249 0 (S_.2.2.1 243 0 p_.toNat).toNat (S_.2.2.1 249 0 (S_.2.2.1 243 0 p_.toNat).toNat)) 250 0 (S_.2.2.1 243 0 p_.toNat).toNat (S_.2.2.1 250 0 (S_.2.2.1 243 0 p_.toNat).toNat)) 246 0 (S_.2.2.1 243 0 p_.toNat).toNat ((S_.2.2.1 246 0 (S_.2.2.1 243 0 p_.toNat).toNat) + 1)) := ai_fr_tr hFx114_ (ai_fr_aI rfl)
                  refine sm_T_inc (a := 2) (z := 1) (v := p_) (w := p_ + 1) rfl rfl (by omega) (by omega) (by omega) ?_ -- pc_ 236
                  refine sm_T_go 1 (c1 := (31, [some (.inr (.inr (some (13, 0)))), some (.inl c_), some (.inl (p_ + 1)), some (.inl (S_.2.2.1 243 0 p_.toNat)), some (.inl 0)], [], sm_aI (sm_aI (sm_aI (sm_aI (sm_aI S_ 247 0 (S_.2.2.1 243 0 p_.toNat).toNat (S_.2.2.1 244 0 p_.toNat)) 248 0 (S_.2.2.1 243 0 p_.toNat).toNat (S_.2.2.1 244 0 p_.toNat)) 249 0 (S_.2.2.1 243 0 p_.toNat).toNat (S_.2.2.1 249 0 (S_.2.2.1 243 0 p_.toNat).toNat)) 250 0 (S_.2.2.1 243 0 p_.toNat).toNat (S_.2.2.1 250 0 (S_.2.2.1 243 0 p_.toNat).toNat)) 246 0 (S_.2.2.1 243 0 p_.toNat).toNat ((S_.2.2.1 246 0 (S_.2.2.1 243 0 p_.toNat).toNat) + 1))) rfl ?_
                  refine sm_T_wk [some (.inr (.inr (some (13, 0)))), some (.inl c_), some (.inl (p_ + 1)), none, none] (by exact ⟨rfl, rfl, rfl, trivial⟩) ?_
                  refine ih_.2 (p_ + 1) (sm_aI (sm_aI (sm_aI (sm_aI (sm_aI S_ 247 0 (S_.2.2.1 243 0 p_.toNat).toNat (S_.2.2.1 244 0 p_.toNat)) 248 0 (S_.2.2.1 243 0 p_.toNat).toNat (S_.2.2.1 244 0 p_.toNat)) 249 0 (S_.2.2.1 243 0 p_.toNat).toNat (S_.2.2.1 249 0 (S_.2.2.1 243 0 p_.toNat).toNat)) 250 0 (S_.2.2.1 243 0 p_.toNat).toNat (S_.2.2.1 250 0 (S_.2.2.1 243 0 p_.toNat).toNat)) 246 0 (S_.2.2.1 243 0 p_.toNat).toNat ((S_.2.2.1 246 0 (S_.2.2.1 243 0 p_.toNat).toNat) + 1)) hIx115_ hFx116_ ⟨?_, ?_, ?_, ?_, trivial⟩ ?_
                  · have r6_ : ∀ j9_, ((sm_aI (sm_aI (sm_aI (sm_aI (sm_aI S_ 247 0 (S_.2.2.1 243 0 p_.toNat).toNat (S_.2.2.1 244 0 p_.toNat)) 248 0 (S_.2.2.1 243 0 p_.toNat).toNat (S_.2.2.1 244 0 p_.toNat)) 249 0 (S_.2.2.1 243 0 p_.toNat).toNat (S_.2.2.1 249 0 (S_.2.2.1 243 0 p_.toNat).toNat)) 250 0 (S_.2.2.1 243 0 p_.toNat).toNat (S_.2.2.1 250 0 (S_.2.2.1 243 0 p_.toNat).toNat)) 246 0 (S_.2.2.1 243 0 p_.toNat).toNat ((S_.2.2.1 246 0 (S_.2.2.1 243 0 p_.toNat).toNat) + 1))).2.2.1 246 0 j9_ = if j9_ = (S_.2.2.1 243 0 p_.toNat).toNat then S_.2.2.1 246 0 (S_.2.2.1 243 0 p_.toNat).toNat + 1 else S_.2.2.1 246 0 j9_ := fun j9_ => by (try simp only [rd_eq, rd_ne, rf_eq, rf_nk, rf_nt, rd_fa, rd_af, rd_fl, rd_al, rd_lf, rd_la, rd_leq, rd_lne, rd_fr, rd_ar, ne_eq, Nat.reduceEqDiff, not_false_eq_true])
                    have r3_ : ((sm_aI (sm_aI (sm_aI (sm_aI (sm_aI S_ 247 0 (S_.2.2.1 243 0 p_.toNat).toNat (S_.2.2.1 244 0 p_.toNat)) 248 0 (S_.2.2.1 243 0 p_.toNat).toNat (S_.2.2.1 244 0 p_.toNat)) 249 0 (S_.2.2.1 243 0 p_.toNat).toNat (S_.2.2.1 249 0 (S_.2.2.1 243 0 p_.toNat).toNat)) 250 0 (S_.2.2.1 243 0 p_.toNat).toNat (S_.2.2.1 250 0 (S_.2.2.1 243 0 p_.toNat).toNat)) 246 0 (S_.2.2.1 243 0 p_.toNat).toNat ((S_.2.2.1 246 0 (S_.2.2.1 243 0 p_.toNat).toNat) + 1))).2.2.1 243 0 = S_.2.2.1 243 0 := by (funext j9_; (try simp only [rd_eq, rd_ne, rf_eq, rf_nk, rf_nt, rd_fa, rd_af, rd_fl, rd_al, rd_lf, rd_la, rd_leq, rd_lne, rd_fr, rd_ar, ne_eq, Nat.reduceEqDiff, not_false_eq_true]))
                    have r9_ : ((sm_aI (sm_aI (sm_aI (sm_aI (sm_aI S_ 247 0 (S_.2.2.1 243 0 p_.toNat).toNat (S_.2.2.1 244 0 p_.toNat)) 248 0 (S_.2.2.1 243 0 p_.toNat).toNat (S_.2.2.1 244 0 p_.toNat)) 249 0 (S_.2.2.1 243 0 p_.toNat).toNat (S_.2.2.1 249 0 (S_.2.2.1 243 0 p_.toNat).toNat)) 250 0 (S_.2.2.1 243 0 p_.toNat).toNat (S_.2.2.1 250 0 (S_.2.2.1 243 0 p_.toNat).toNat)) 246 0 (S_.2.2.1 243 0 p_.toNat).toNat ((S_.2.2.1 246 0 (S_.2.2.1 243 0 p_.toNat).toNat) + 1))).1 13 0 159 = S_.1 13 0 159 := by (try simp only [rd_eq, rd_ne, rf_eq, rf_nk, rf_nt, rd_fa, rd_af, rd_fl, rd_al, rd_lf, rd_la, rd_leq, rd_lne, rd_fr, rd_ar, ne_eq, Nat.reduceEqDiff, not_false_eq_true])
                    rw [r9_]
                    omega
                  · have r6_ : ∀ j9_, ((sm_aI (sm_aI (sm_aI (sm_aI (sm_aI S_ 247 0 (S_.2.2.1 243 0 p_.toNat).toNat (S_.2.2.1 244 0 p_.toNat)) 248 0 (S_.2.2.1 243 0 p_.toNat).toNat (S_.2.2.1 244 0 p_.toNat)) 249 0 (S_.2.2.1 243 0 p_.toNat).toNat (S_.2.2.1 249 0 (S_.2.2.1 243 0 p_.toNat).toNat)) 250 0 (S_.2.2.1 243 0 p_.toNat).toNat (S_.2.2.1 250 0 (S_.2.2.1 243 0 p_.toNat).toNat)) 246 0 (S_.2.2.1 243 0 p_.toNat).toNat ((S_.2.2.1 246 0 (S_.2.2.1 243 0 p_.toNat).toNat) + 1))).2.2.1 246 0 j9_ = if j9_ = (S_.2.2.1 243 0 p_.toNat).toNat then S_.2.2.1 246 0 (S_.2.2.1 243 0 p_.toNat).toNat + 1 else S_.2.2.1 246 0 j9_ := fun j9_ => by (try simp only [rd_eq, rd_ne, rf_eq, rf_nk, rf_nt, rd_fa, rd_af, rd_fl, rd_al, rd_lf, rd_la, rd_leq, rd_lne, rd_fr, rd_ar, ne_eq, Nat.reduceEqDiff, not_false_eq_true])
                    have r3_ : ((sm_aI (sm_aI (sm_aI (sm_aI (sm_aI S_ 247 0 (S_.2.2.1 243 0 p_.toNat).toNat (S_.2.2.1 244 0 p_.toNat)) 248 0 (S_.2.2.1 243 0 p_.toNat).toNat (S_.2.2.1 244 0 p_.toNat)) 249 0 (S_.2.2.1 243 0 p_.toNat).toNat (S_.2.2.1 249 0 (S_.2.2.1 243 0 p_.toNat).toNat)) 250 0 (S_.2.2.1 243 0 p_.toNat).toNat (S_.2.2.1 250 0 (S_.2.2.1 243 0 p_.toNat).toNat)) 246 0 (S_.2.2.1 243 0 p_.toNat).toNat ((S_.2.2.1 246 0 (S_.2.2.1 243 0 p_.toNat).toNat) + 1))).2.2.1 243 0 = S_.2.2.1 243 0 := by (funext j9_; (try simp only [rd_eq, rd_ne, rf_eq, rf_nk, rf_nt, rd_fa, rd_af, rd_fl, rd_al, rd_lf, rd_la, rd_leq, rd_lne, rd_fr, rd_ar, ne_eq, Nat.reduceEqDiff, not_false_eq_true]))
                    have r9_ : ((sm_aI (sm_aI (sm_aI (sm_aI (sm_aI S_ 247 0 (S_.2.2.1 243 0 p_.toNat).toNat (S_.2.2.1 244 0 p_.toNat)) 248 0 (S_.2.2.1 243 0 p_.toNat).toNat (S_.2.2.1 244 0 p_.toNat)) 249 0 (S_.2.2.1 243 0 p_.toNat).toNat (S_.2.2.1 249 0 (S_.2.2.1 243 0 p_.toNat).toNat)) 250 0 (S_.2.2.1 243 0 p_.toNat).toNat (S_.2.2.1 250 0 (S_.2.2.1 243 0 p_.toNat).toNat)) 246 0 (S_.2.2.1 243 0 p_.toNat).toNat ((S_.2.2.1 246 0 (S_.2.2.1 243 0 p_.toNat).toNat) + 1))).1 13 0 159 = S_.1 13 0 159 := by (try simp only [rd_eq, rd_ne, rf_eq, rf_nk, rf_nt, rd_fa, rd_af, rd_fl, rd_al, rd_lf, rd_la, rd_leq, rd_lne, rd_fr, rd_ar, ne_eq, Nat.reduceEqDiff, not_false_eq_true])
                    intro k9_ k0_ k1_
                    rw [r9_] at k1_
                    have w9_ := hv_ k9_ k0_ k1_
                    (try simp only [rd_eq, rd_ne, rf_eq, rf_nk, rf_nt, rd_fa, rd_af, rd_fl, rd_al, rd_lf, rd_la, rd_leq, rd_lne, rd_fr, rd_ar, ne_eq, Nat.reduceEqDiff, not_false_eq_true])
                    exact w9_
                  · have r6_ : ∀ j9_, ((sm_aI (sm_aI (sm_aI (sm_aI (sm_aI S_ 247 0 (S_.2.2.1 243 0 p_.toNat).toNat (S_.2.2.1 244 0 p_.toNat)) 248 0 (S_.2.2.1 243 0 p_.toNat).toNat (S_.2.2.1 244 0 p_.toNat)) 249 0 (S_.2.2.1 243 0 p_.toNat).toNat (S_.2.2.1 249 0 (S_.2.2.1 243 0 p_.toNat).toNat)) 250 0 (S_.2.2.1 243 0 p_.toNat).toNat (S_.2.2.1 250 0 (S_.2.2.1 243 0 p_.toNat).toNat)) 246 0 (S_.2.2.1 243 0 p_.toNat).toNat ((S_.2.2.1 246 0 (S_.2.2.1 243 0 p_.toNat).toNat) + 1))).2.2.1 246 0 j9_ = if j9_ = (S_.2.2.1 243 0 p_.toNat).toNat then S_.2.2.1 246 0 (S_.2.2.1 243 0 p_.toNat).toNat + 1 else S_.2.2.1 246 0 j9_ := fun j9_ => by (try simp only [rd_eq, rd_ne, rf_eq, rf_nk, rf_nt, rd_fa, rd_af, rd_fl, rd_al, rd_lf, rd_la, rd_leq, rd_lne, rd_fr, rd_ar, ne_eq, Nat.reduceEqDiff, not_false_eq_true])
                    have r3_ : ((sm_aI (sm_aI (sm_aI (sm_aI (sm_aI S_ 247 0 (S_.2.2.1 243 0 p_.toNat).toNat (S_.2.2.1 244 0 p_.toNat)) 248 0 (S_.2.2.1 243 0 p_.toNat).toNat (S_.2.2.1 244 0 p_.toNat)) 249 0 (S_.2.2.1 243 0 p_.toNat).toNat (S_.2.2.1 249 0 (S_.2.2.1 243 0 p_.toNat).toNat)) 250 0 (S_.2.2.1 243 0 p_.toNat).toNat (S_.2.2.1 250 0 (S_.2.2.1 243 0 p_.toNat).toNat)) 246 0 (S_.2.2.1 243 0 p_.toNat).toNat ((S_.2.2.1 246 0 (S_.2.2.1 243 0 p_.toNat).toNat) + 1))).2.2.1 243 0 = S_.2.2.1 243 0 := by (funext j9_; (try simp only [rd_eq, rd_ne, rf_eq, rf_nk, rf_nt, rd_fa, rd_af, rd_fl, rd_al, rd_lf, rd_la, rd_leq, rd_lne, rd_fr, rd_ar, ne_eq, Nat.reduceEqDiff, not_false_eq_true]))
                    have r9_ : ((sm_aI (sm_aI (sm_aI (sm_aI (sm_aI S_ 247 0 (S_.2.2.1 243 0 p_.toNat).toNat (S_.2.2.1 244 0 p_.toNat)) 248 0 (S_.2.2.1 243 0 p_.toNat).toNat (S_.2.2.1 244 0 p_.toNat)) 249 0 (S_.2.2.1 243 0 p_.toNat).toNat (S_.2.2.1 249 0 (S_.2.2.1 243 0 p_.toNat).toNat)) 250 0 (S_.2.2.1 243 0 p_.toNat).toNat (S_.2.2.1 250 0 (S_.2.2.1 243 0 p_.toNat).toNat)) 246 0 (S_.2.2.1 243 0 p_.toNat).toNat ((S_.2.2.1 246 0 (S_.2.2.1 243 0 p_.toNat).toNat) + 1))).1 13 0 159 = S_.1 13 0 159 := by (try simp only [rd_eq, rd_ne, rf_eq, rf_nk, rf_nt, rd_fa, rd_af, rd_fl, rd_al, rd_lf, rd_la, rd_leq, rd_lne, rd_fr, rd_ar, ne_eq, Nat.reduceEqDiff, not_false_eq_true])
                    intro n9_ h9_ h8_
                    rw [r6_]
                    have w9_ := hz_ n9_ h9_ h8_
                    split
                    · omega
                    · omega
                  · have r6_ : ∀ j9_, ((sm_aI (sm_aI (sm_aI (sm_aI (sm_aI S_ 247 0 (S_.2.2.1 243 0 p_.toNat).toNat (S_.2.2.1 244 0 p_.toNat)) 248 0 (S_.2.2.1 243 0 p_.toNat).toNat (S_.2.2.1 244 0 p_.toNat)) 249 0 (S_.2.2.1 243 0 p_.toNat).toNat (S_.2.2.1 249 0 (S_.2.2.1 243 0 p_.toNat).toNat)) 250 0 (S_.2.2.1 243 0 p_.toNat).toNat (S_.2.2.1 250 0 (S_.2.2.1 243 0 p_.toNat).toNat)) 246 0 (S_.2.2.1 243 0 p_.toNat).toNat ((S_.2.2.1 246 0 (S_.2.2.1 243 0 p_.toNat).toNat) + 1))).2.2.1 246 0 j9_ = if j9_ = (S_.2.2.1 243 0 p_.toNat).toNat then S_.2.2.1 246 0 (S_.2.2.1 243 0 p_.toNat).toNat + 1 else S_.2.2.1 246 0 j9_ := fun j9_ => by (try simp only [rd_eq, rd_ne, rf_eq, rf_nk, rf_nt, rd_fa, rd_af, rd_fl, rd_al, rd_lf, rd_la, rd_leq, rd_lne, rd_fr, rd_ar, ne_eq, Nat.reduceEqDiff, not_false_eq_true])
                    have r3_ : ((sm_aI (sm_aI (sm_aI (sm_aI (sm_aI S_ 247 0 (S_.2.2.1 243 0 p_.toNat).toNat (S_.2.2.1 244 0 p_.toNat)) 248 0 (S_.2.2.1 243 0 p_.toNat).toNat (S_.2.2.1 244 0 p_.toNat)) 249 0 (S_.2.2.1 243 0 p_.toNat).toNat (S_.2.2.1 249 0 (S_.2.2.1 243 0 p_.toNat).toNat)) 250 0 (S_.2.2.1 243 0 p_.toNat).toNat (S_.2.2.1 250 0 (S_.2.2.1 243 0 p_.toNat).toNat)) 246 0 (S_.2.2.1 243 0 p_.toNat).toNat ((S_.2.2.1 246 0 (S_.2.2.1 243 0 p_.toNat).toNat) + 1))).2.2.1 243 0 = S_.2.2.1 243 0 := by (funext j9_; (try simp only [rd_eq, rd_ne, rf_eq, rf_nk, rf_nt, rd_fa, rd_af, rd_fl, rd_al, rd_lf, rd_la, rd_leq, rd_lne, rd_fr, rd_ar, ne_eq, Nat.reduceEqDiff, not_false_eq_true]))
                    have r9_ : ((sm_aI (sm_aI (sm_aI (sm_aI (sm_aI S_ 247 0 (S_.2.2.1 243 0 p_.toNat).toNat (S_.2.2.1 244 0 p_.toNat)) 248 0 (S_.2.2.1 243 0 p_.toNat).toNat (S_.2.2.1 244 0 p_.toNat)) 249 0 (S_.2.2.1 243 0 p_.toNat).toNat (S_.2.2.1 249 0 (S_.2.2.1 243 0 p_.toNat).toNat)) 250 0 (S_.2.2.1 243 0 p_.toNat).toNat (S_.2.2.1 250 0 (S_.2.2.1 243 0 p_.toNat).toNat)) 246 0 (S_.2.2.1 243 0 p_.toNat).toNat ((S_.2.2.1 246 0 (S_.2.2.1 243 0 p_.toNat).toNat) + 1))).1 13 0 159 = S_.1 13 0 159 := by (try simp only [rd_eq, rd_ne, rf_eq, rf_nk, rf_nt, rd_fa, rd_af, rd_fl, rd_al, rd_lf, rd_la, rd_leq, rd_lne, rd_fr, rd_ar, ne_eq, Nat.reduceEqDiff, not_false_eq_true])
                    intro n9_ h9_ h8_ y9_
                    rw [r6_] at y9_
                    rw [r3_]
                    by_cases q9_ : n9_.toNat = (S_.2.2.1 243 0 p_.toNat).toNat
                    · exact ⟨p_, by omega, by omega, by omega⟩
                    · rw [if_neg q9_] at y9_
                      obtain ⟨k9_, u1_, u2_, u3_⟩ := hx_ n9_ h9_ h8_ y9_
                      exact ⟨k9_, u1_, by omega, u3_⟩
                  · omega
                · have cx112_ : ¬ ((S_.2.2.1 245 0 p_.toNat) ≤ (S_.2.2.1 250 0 (S_.2.2.1 243 0 p_.toNat).toNat)) := of_decide_eq_false cx112_
                  refine sm_T_go 3 (c1 := (215, [some (.inr (.inr (some (13, 0)))), some (.inl c_), some (.inl p_), some (.inl (S_.2.2.1 243 0 p_.toNat)), some (.inl 0)], [.inl p_, .inr (.inr (some (245, 0))), .inl (S_.2.2.1 243 0 p_.toNat), .inr (.inr (some (250, 0)))], sm_aI (sm_aI (sm_aI S_ 247 0 (S_.2.2.1 243 0 p_.toNat).toNat (S_.2.2.1 244 0 p_.toNat)) 248 0 (S_.2.2.1 243 0 p_.toNat).toNat (S_.2.2.1 244 0 p_.toNat)) 249 0 (S_.2.2.1 243 0 p_.toNat).toNat (S_.2.2.1 249 0 (S_.2.2.1 243 0 p_.toNat).toNat))) rfl ?_
                  refine sm_T_iald (n := 700) rfl rfl (by omega) (by omega) ?_
                  refine sm_T_go 1 (c1 := (225, [some (.inr (.inr (some (13, 0)))), some (.inl c_), some (.inl p_), some (.inl (S_.2.2.1 243 0 p_.toNat)), some (.inl 0)], [.inl (S_.2.2.1 245 0 p_.toNat), .inl (S_.2.2.1 243 0 p_.toNat), .inr (.inr (some (250, 0)))], sm_aI (sm_aI (sm_aI S_ 247 0 (S_.2.2.1 243 0 p_.toNat).toNat (S_.2.2.1 244 0 p_.toNat)) 248 0 (S_.2.2.1 243 0 p_.toNat).toNat (S_.2.2.1 244 0 p_.toNat)) 249 0 (S_.2.2.1 243 0 p_.toNat).toNat (S_.2.2.1 249 0 (S_.2.2.1 243 0 p_.toNat).toNat))) rfl ?_
                  refine sm_T_iast (n := 256) rfl rfl (by omega) (by omega) ?_
                  have hIx117_ : gi (sm_aI (sm_aI (sm_aI (sm_aI S_ 247 0 (S_.2.2.1 243 0 p_.toNat).toNat (S_.2.2.1 244 0 p_.toNat)) 248 0 (S_.2.2.1 243 0 p_.toNat).toNat (S_.2.2.1 244 0 p_.toNat)) 249 0 (S_.2.2.1 243 0 p_.toNat).toNat (S_.2.2.1 249 0 (S_.2.2.1 243 0 p_.toNat).toNat)) 250 0 (S_.2.2.1 243 0 p_.toNat).toNat (S_.2.2.1 245 0 p_.toNat)) := gi_aI hIx109_ (show 0 ≤ (S_.2.2.1 245 0 p_.toNat) ∧ (S_.2.2.1 245 0 p_.toNat) ≤ 40 from ⟨by omega, by omega⟩)
                  have hFx118_ : ai_fr (sx_W vw_440) S0_ (sm_aI (sm_aI (sm_aI (sm_aI S_ 247 0 (S_.2.2.1 243 0 p_.toNat).toNat (S_.2.2.1 244 0 p_.toNat)) 248 0 (S_.2.2.1 243 0 p_.toNat).toNat (S_.2.2.1 244 0 p_.toNat)) 249 0 (S_.2.2.1 243 0 p_.toNat).toNat (S_.2.2.1 249 0 (S_.2.2.1 243 0 p_.toNat).toNat)) 250 0 (S_.2.2.1 243 0 p_.toNat).toNat (S_.2.2.1 245 0 p_.toNat)) := ai_fr_tr hFx110_ (ai_fr_aI rfl)
                  refine sm_T_go 4 (c1 := (232, [some (.inr (.inr (some (13, 0)))), some (.inl c_), some (.inl p_), some (.inl (S_.2.2.1 243 0 p_.toNat)), some (.inl 0)], [.inl (S_.2.2.1 243 0 p_.toNat), .inr (.inr (some (246, 0))), .inl (S_.2.2.1 243 0 p_.toNat), .inr (.inr (some (246, 0)))], sm_aI (sm_aI (sm_aI (sm_aI S_ 247 0 (S_.2.2.1 243 0 p_.toNat).toNat (S_.2.2.1 244 0 p_.toNat)) 248 0 (S_.2.2.1 243 0 p_.toNat).toNat (S_.2.2.1 244 0 p_.toNat)) 249 0 (S_.2.2.1 243 0 p_.toNat).toNat (S_.2.2.1 249 0 (S_.2.2.1 243 0 p_.toNat).toNat)) 250 0 (S_.2.2.1 243 0 p_.toNat).toNat (S_.2.2.1 245 0 p_.toNat))) rfl ?_
                  refine sm_T_iald (n := 256) rfl rfl (by omega) (by omega) ?_
                  refine sm_T_go 1 (c1 := (234, [some (.inr (.inr (some (13, 0)))), some (.inl c_), some (.inl p_), some (.inl (S_.2.2.1 243 0 p_.toNat)), some (.inl 0)], [.inl 1, .inl (S_.2.2.1 246 0 (S_.2.2.1 243 0 p_.toNat).toNat), .inl (S_.2.2.1 243 0 p_.toNat), .inr (.inr (some (246, 0)))], sm_aI (sm_aI (sm_aI (sm_aI S_ 247 0 (S_.2.2.1 243 0 p_.toNat).toNat (S_.2.2.1 244 0 p_.toNat)) 248 0 (S_.2.2.1 243 0 p_.toNat).toNat (S_.2.2.1 244 0 p_.toNat)) 249 0 (S_.2.2.1 243 0 p_.toNat).toNat (S_.2.2.1 249 0 (S_.2.2.1 243 0 p_.toNat).toNat)) 250 0 (S_.2.2.1 243 0 p_.toNat).toNat (S_.2.2.1 245 0 p_.toNat))) rfl ?_
                  refine sm_T_bin (w := (S_.2.2.1 246 0 (S_.2.2.1 243 0 p_.toNat).toNat) + 1) rfl (bi_add (by omega) (by omega) (by omega)) ?_ -- pc_ 234
                  refine sm_T_iast (n := 256) rfl rfl (by omega) (by omega) ?_
                  have hIx119_ : gi (sm_aI (sm_aI (sm_aI (sm_aI (sm_aI S_ 247 0 (S_.2.2.1 243 0 p_.toNat).toNat (S_.2.2.1 244 0 p_.toNat)) 248 0 (S_.2.2.1 243 0 p_.toNat).toNat (S_.2.2.1 244 0 p_.toNat)) 249 0 (S_.2.2.1 243 0 p_.toNat).toNat (S_.2.2.1 249 0 (S_.2.2.1 243 0 p_.toNat).toNat)) 250 0 (S_.2.2.1 243 0 p_.toNat).toNat (S_.2.2.1 245 0 p_.toNat)) 246 0 (S_.2.2.1 243 0 p_.toNat).toNat ((S_.2.2.1 246 0 (S_.2.2.1 243 0 p_.toNat).toNat) + 1)) := gi_aI hIx117_ (show 0 ≤ (S_.2.2.1 246 0 (S_.2.2.1 243 0 p_.toNat).toNat) + 1 ∧ (S_.2.2.1 246 0 (S_.2.2.1 243 0 p_.toNat).toNat) + 1 ≤ 700 from ⟨by omega, by omega⟩)
                  have hFx120_ : ai_fr (sx_W vw_440) S0_ (sm_aI (sm_aI (sm_aI (sm_aI (sm_aI S_ 247 0 (S_.2.2.1 243 0 p_.toNat).toNat (S_.2.2.1 244 0 p_.toNat)) 248 0 (S_.2.2.1 243 0 p_.toNat).toNat (S_.2.2.1 244 0 p_.toNat)) 249 0 (S_.2.2.1 243 0 p_.toNat).toNat (S_.2.2.1 249 0 (S_.2.2.1 243 0 p_.toNat).toNat)) 250 0 (S_.2.2.1 243 0 p_.toNat).toNat (S_.2.2.1 245 0 p_.toNat)) 246 0 (S_.2.2.1 243 0 p_.toNat).toNat ((S_.2.2.1 246 0 (S_.2.2.1 243 0 p_.toNat).toNat) + 1)) := ai_fr_tr hFx118_ (ai_fr_aI rfl)
                  refine sm_T_inc (a := 2) (z := 1) (v := p_) (w := p_ + 1) rfl rfl (by omega) (by omega) (by omega) ?_ -- pc_ 236
                  refine sm_T_go 1 (c1 := (31, [some (.inr (.inr (some (13, 0)))), some (.inl c_), some (.inl (p_ + 1)), some (.inl (S_.2.2.1 243 0 p_.toNat)), some (.inl 0)], [], sm_aI (sm_aI (sm_aI (sm_aI (sm_aI S_ 247 0 (S_.2.2.1 243 0 p_.toNat).toNat (S_.2.2.1 244 0 p_.toNat)) 248 0 (S_.2.2.1 243 0 p_.toNat).toNat (S_.2.2.1 244 0 p_.toNat)) 249 0 (S_.2.2.1 243 0 p_.toNat).toNat (S_.2.2.1 249 0 (S_.2.2.1 243 0 p_.toNat).toNat)) 250 0 (S_.2.2.1 243 0 p_.toNat).toNat (S_.2.2.1 245 0 p_.toNat)) 246 0 (S_.2.2.1 243 0 p_.toNat).toNat ((S_.2.2.1 246 0 (S_.2.2.1 243 0 p_.toNat).toNat) + 1))) rfl ?_
                  refine sm_T_wk [some (.inr (.inr (some (13, 0)))), some (.inl c_), some (.inl (p_ + 1)), none, none] (by exact ⟨rfl, rfl, rfl, trivial⟩) ?_
                  refine ih_.2 (p_ + 1) (sm_aI (sm_aI (sm_aI (sm_aI (sm_aI S_ 247 0 (S_.2.2.1 243 0 p_.toNat).toNat (S_.2.2.1 244 0 p_.toNat)) 248 0 (S_.2.2.1 243 0 p_.toNat).toNat (S_.2.2.1 244 0 p_.toNat)) 249 0 (S_.2.2.1 243 0 p_.toNat).toNat (S_.2.2.1 249 0 (S_.2.2.1 243 0 p_.toNat).toNat)) 250 0 (S_.2.2.1 243 0 p_.toNat).toNat (S_.2.2.1 245 0 p_.toNat)) 246 0 (S_.2.2.1 243 0 p_.toNat).toNat ((S_.2.2.1 246 0 (S_.2.2.1 243 0 p_.toNat).toNat) + 1)) hIx119_ hFx120_ ⟨?_, ?_, ?_, ?_, trivial⟩ ?_
                  · have r6_ : ∀ j9_, ((sm_aI (sm_aI (sm_aI (sm_aI (sm_aI S_ 247 0 (S_.2.2.1 243 0 p_.toNat).toNat (S_.2.2.1 244 0 p_.toNat)) 248 0 (S_.2.2.1 243 0 p_.toNat).toNat (S_.2.2.1 244 0 p_.toNat)) 249 0 (S_.2.2.1 243 0 p_.toNat).toNat (S_.2.2.1 249 0 (S_.2.2.1 243 0 p_.toNat).toNat)) 250 0 (S_.2.2.1 243 0 p_.toNat).toNat (S_.2.2.1 245 0 p_.toNat)) 246 0 (S_.2.2.1 243 0 p_.toNat).toNat ((S_.2.2.1 246 0 (S_.2.2.1 243 0 p_.toNat).toNat) + 1))).2.2.1 246 0 j9_ = if j9_ = (S_.2.2.1 243 0 p_.toNat).toNat then S_.2.2.1 246 0 (S_.2.2.1 243 0 p_.toNat).toNat + 1 else S_.2.2.1 246 0 j9_ := fun j9_ => by (try simp only [rd_eq, rd_ne, rf_eq, rf_nk, rf_nt, rd_fa, rd_af, rd_fl, rd_al, rd_lf, rd_la, rd_leq, rd_lne, rd_fr, rd_ar, ne_eq, Nat.reduceEqDiff, not_false_eq_true])
                    have r3_ : ((sm_aI (sm_aI (sm_aI (sm_aI (sm_aI S_ 247 0 (S_.2.2.1 243 0 p_.toNat).toNat (S_.2.2.1 244 0 p_.toNat)) 248 0 (S_.2.2.1 243 0 p_.toNat).toNat (S_.2.2.1 244 0 p_.toNat)) 249 0 (S_.2.2.1 243 0 p_.toNat).toNat (S_.2.2.1 249 0 (S_.2.2.1 243 0 p_.toNat).toNat)) 250 0 (S_.2.2.1 243 0 p_.toNat).toNat (S_.2.2.1 245 0 p_.toNat)) 246 0 (S_.2.2.1 243 0 p_.toNat).toNat ((S_.2.2.1 246 0 (S_.2.2.1 243 0 p_.toNat).toNat) + 1))).2.2.1 243 0 = S_.2.2.1 243 0 := by (funext j9_; (try simp only [rd_eq, rd_ne, rf_eq, rf_nk, rf_nt, rd_fa, rd_af, rd_fl, rd_al, rd_lf, rd_la, rd_leq, rd_lne, rd_fr, rd_ar, ne_eq, Nat.reduceEqDiff, not_false_eq_true]))
                    have r9_ : ((sm_aI (sm_aI (sm_aI (sm_aI (sm_aI S_ 247 0 (S_.2.2.1 243 0 p_.toNat).toNat (S_.2.2.1 244 0 p_.toNat)) 248 0 (S_.2.2.1 243 0 p_.toNat).toNat (S_.2.2.1 244 0 p_.toNat)) 249 0 (S_.2.2.1 243 0 p_.toNat).toNat (S_.2.2.1 249 0 (S_.2.2.1 243 0 p_.toNat).toNat)) 250 0 (S_.2.2.1 243 0 p_.toNat).toNat (S_.2.2.1 245 0 p_.toNat)) 246 0 (S_.2.2.1 243 0 p_.toNat).toNat ((S_.2.2.1 246 0 (S_.2.2.1 243 0 p_.toNat).toNat) + 1))).1 13 0 159 = S_.1 13 0 159 := by (try simp only [rd_eq, rd_ne, rf_eq, rf_nk, rf_nt, rd_fa, rd_af, rd_fl, rd_al, rd_lf, rd_la, rd_leq, rd_lne, rd_fr, rd_ar, ne_eq, Nat.reduceEqDiff, not_false_eq_true])
                    rw [r9_]
                    omega
                  · have r6_ : ∀ j9_, ((sm_aI (sm_aI (sm_aI (sm_aI (sm_aI S_ 247 0 (S_.2.2.1 243 0 p_.toNat).toNat (S_.2.2.1 244 0 p_.toNat)) 248 0 (S_.2.2.1 243 0 p_.toNat).toNat (S_.2.2.1 244 0 p_.toNat)) 249 0 (S_.2.2.1 243 0 p_.toNat).toNat (S_.2.2.1 249 0 (S_.2.2.1 243 0 p_.toNat).toNat)) 250 0 (S_.2.2.1 243 0 p_.toNat).toNat (S_.2.2.1 245 0 p_.toNat)) 246 0 (S_.2.2.1 243 0 p_.toNat).toNat ((S_.2.2.1 246 0 (S_.2.2.1 243 0 p_.toNat).toNat) + 1))).2.2.1 246 0 j9_ = if j9_ = (S_.2.2.1 243 0 p_.toNat).toNat then S_.2.2.1 246 0 (S_.2.2.1 243 0 p_.toNat).toNat + 1 else S_.2.2.1 246 0 j9_ := fun j9_ => by (try simp only [rd_eq, rd_ne, rf_eq, rf_nk, rf_nt, rd_fa, rd_af, rd_fl, rd_al, rd_lf, rd_la, rd_leq, rd_lne, rd_fr, rd_ar, ne_eq, Nat.reduceEqDiff, not_false_eq_true])
                    have r3_ : ((sm_aI (sm_aI (sm_aI (sm_aI (sm_aI S_ 247 0 (S_.2.2.1 243 0 p_.toNat).toNat (S_.2.2.1 244 0 p_.toNat)) 248 0 (S_.2.2.1 243 0 p_.toNat).toNat (S_.2.2.1 244 0 p_.toNat)) 249 0 (S_.2.2.1 243 0 p_.toNat).toNat (S_.2.2.1 249 0 (S_.2.2.1 243 0 p_.toNat).toNat)) 250 0 (S_.2.2.1 243 0 p_.toNat).toNat (S_.2.2.1 245 0 p_.toNat)) 246 0 (S_.2.2.1 243 0 p_.toNat).toNat ((S_.2.2.1 246 0 (S_.2.2.1 243 0 p_.toNat).toNat) + 1))).2.2.1 243 0 = S_.2.2.1 243 0 := by (funext j9_; (try simp only [rd_eq, rd_ne, rf_eq, rf_nk, rf_nt, rd_fa, rd_af, rd_fl, rd_al, rd_lf, rd_la, rd_leq, rd_lne, rd_fr, rd_ar, ne_eq, Nat.reduceEqDiff, not_false_eq_true]))
                    have r9_ : ((sm_aI (sm_aI (sm_aI (sm_aI (sm_aI S_ 247 0 (S_.2.2.1 243 0 p_.toNat).toNat (S_.2.2.1 244 0 p_.toNat)) 248 0 (S_.2.2.1 243 0 p_.toNat).toNat (S_.2.2.1 244 0 p_.toNat)) 249 0 (S_.2.2.1 243 0 p_.toNat).toNat (S_.2.2.1 249 0 (S_.2.2.1 243 0 p_.toNat).toNat)) 250 0 (S_.2.2.1 243 0 p_.toNat).toNat (S_.2.2.1 245 0 p_.toNat)) 246 0 (S_.2.2.1 243 0 p_.toNat).toNat ((S_.2.2.1 246 0 (S_.2.2.1 243 0 p_.toNat).toNat) + 1))).1 13 0 159 = S_.1 13 0 159 := by (try simp only [rd_eq, rd_ne, rf_eq, rf_nk, rf_nt, rd_fa, rd_af, rd_fl, rd_al, rd_lf, rd_la, rd_leq, rd_lne, rd_fr, rd_ar, ne_eq, Nat.reduceEqDiff, not_false_eq_true])
                    intro k9_ k0_ k1_
                    rw [r9_] at k1_
                    have w9_ := hv_ k9_ k0_ k1_
                    (try simp only [rd_eq, rd_ne, rf_eq, rf_nk, rf_nt, rd_fa, rd_af, rd_fl, rd_al, rd_lf, rd_la, rd_leq, rd_lne, rd_fr, rd_ar, ne_eq, Nat.reduceEqDiff, not_false_eq_true])
                    exact w9_
                  · have r6_ : ∀ j9_, ((sm_aI (sm_aI (sm_aI (sm_aI (sm_aI S_ 247 0 (S_.2.2.1 243 0 p_.toNat).toNat (S_.2.2.1 244 0 p_.toNat)) 248 0 (S_.2.2.1 243 0 p_.toNat).toNat (S_.2.2.1 244 0 p_.toNat)) 249 0 (S_.2.2.1 243 0 p_.toNat).toNat (S_.2.2.1 249 0 (S_.2.2.1 243 0 p_.toNat).toNat)) 250 0 (S_.2.2.1 243 0 p_.toNat).toNat (S_.2.2.1 245 0 p_.toNat)) 246 0 (S_.2.2.1 243 0 p_.toNat).toNat ((S_.2.2.1 246 0 (S_.2.2.1 243 0 p_.toNat).toNat) + 1))).2.2.1 246 0 j9_ = if j9_ = (S_.2.2.1 243 0 p_.toNat).toNat then S_.2.2.1 246 0 (S_.2.2.1 243 0 p_.toNat).toNat + 1 else S_.2.2.1 246 0 j9_ := fun j9_ => by (try simp only [rd_eq, rd_ne, rf_eq, rf_nk, rf_nt, rd_fa, rd_af, rd_fl, rd_al, rd_lf, rd_la, rd_leq, rd_lne, rd_fr, rd_ar, ne_eq, Nat.reduceEqDiff, not_false_eq_true])
                    have r3_ : ((sm_aI (sm_aI (sm_aI (sm_aI (sm_aI S_ 247 0 (S_.2.2.1 243 0 p_.toNat).toNat (S_.2.2.1 244 0 p_.toNat)) 248 0 (S_.2.2.1 243 0 p_.toNat).toNat (S_.2.2.1 244 0 p_.toNat)) 249 0 (S_.2.2.1 243 0 p_.toNat).toNat (S_.2.2.1 249 0 (S_.2.2.1 243 0 p_.toNat).toNat)) 250 0 (S_.2.2.1 243 0 p_.toNat).toNat (S_.2.2.1 245 0 p_.toNat)) 246 0 (S_.2.2.1 243 0 p_.toNat).toNat ((S_.2.2.1 246 0 (S_.2.2.1 243 0 p_.toNat).toNat) + 1))).2.2.1 243 0 = S_.2.2.1 243 0 := by (funext j9_; (try simp only [rd_eq, rd_ne, rf_eq, rf_nk, rf_nt, rd_fa, rd_af, rd_fl, rd_al, rd_lf, rd_la, rd_leq, rd_lne, rd_fr, rd_ar, ne_eq, Nat.reduceEqDiff, not_false_eq_true]))
                    have r9_ : ((sm_aI (sm_aI (sm_aI (sm_aI (sm_aI S_ 247 0 (S_.2.2.1 243 0 p_.toNat).toNat (S_.2.2.1 244 0 p_.toNat)) 248 0 (S_.2.2.1 243 0 p_.toNat).toNat (S_.2.2.1 244 0 p_.toNat)) 249 0 (S_.2.2.1 243 0 p_.toNat).toNat (S_.2.2.1 249 0 (S_.2.2.1 243 0 p_.toNat).toNat)) 250 0 (S_.2.2.1 243 0 p_.toNat).toNat (S_.2.2.1 245 0 p_.toNat)) 246 0 (S_.2.2.1 243 0 p_.toNat).toNat ((S_.2.2.1 246 0 (S_.2.2.1 243 0 p_.toNat).toNat) + 1))).1 13 0 159 = S_.1 13 0 159 := by (try simp only [rd_eq, rd_ne, rf_eq, rf_nk, rf_nt, rd_fa, rd_af, rd_fl, rd_al, rd_lf, rd_la, rd_leq, rd_lne, rd_fr, rd_ar, ne_eq, Nat.reduceEqDiff, not_false_eq_true])
                    intro n9_ h9_ h8_
                    rw [r6_]
                    have w9_ := hz_ n9_ h9_ h8_
                    split
                    · omega
                    · omega
                  · have r6_ : ∀ j9_, ((sm_aI (sm_aI (sm_aI (sm_aI (sm_aI S_ 247 0 (S_.2.2.1 243 0 p_.toNat).toNat (S_.2.2.1 244 0 p_.toNat)) 248 0 (S_.2.2.1 243 0 p_.toNat).toNat (S_.2.2.1 244 0 p_.toNat)) 249 0 (S_.2.2.1 243 0 p_.toNat).toNat (S_.2.2.1 249 0 (S_.2.2.1 243 0 p_.toNat).toNat)) 250 0 (S_.2.2.1 243 0 p_.toNat).toNat (S_.2.2.1 245 0 p_.toNat)) 246 0 (S_.2.2.1 243 0 p_.toNat).toNat ((S_.2.2.1 246 0 (S_.2.2.1 243 0 p_.toNat).toNat) + 1))).2.2.1 246 0 j9_ = if j9_ = (S_.2.2.1 243 0 p_.toNat).toNat then S_.2.2.1 246 0 (S_.2.2.1 243 0 p_.toNat).toNat + 1 else S_.2.2.1 246 0 j9_ := fun j9_ => by (try simp only [rd_eq, rd_ne, rf_eq, rf_nk, rf_nt, rd_fa, rd_af, rd_fl, rd_al, rd_lf, rd_la, rd_leq, rd_lne, rd_fr, rd_ar, ne_eq, Nat.reduceEqDiff, not_false_eq_true])
                    have r3_ : ((sm_aI (sm_aI (sm_aI (sm_aI (sm_aI S_ 247 0 (S_.2.2.1 243 0 p_.toNat).toNat (S_.2.2.1 244 0 p_.toNat)) 248 0 (S_.2.2.1 243 0 p_.toNat).toNat (S_.2.2.1 244 0 p_.toNat)) 249 0 (S_.2.2.1 243 0 p_.toNat).toNat (S_.2.2.1 249 0 (S_.2.2.1 243 0 p_.toNat).toNat)) 250 0 (S_.2.2.1 243 0 p_.toNat).toNat (S_.2.2.1 245 0 p_.toNat)) 246 0 (S_.2.2.1 243 0 p_.toNat).toNat ((S_.2.2.1 246 0 (S_.2.2.1 243 0 p_.toNat).toNat) + 1))).2.2.1 243 0 = S_.2.2.1 243 0 := by (funext j9_; (try simp only [rd_eq, rd_ne, rf_eq, rf_nk, rf_nt, rd_fa, rd_af, rd_fl, rd_al, rd_lf, rd_la, rd_leq, rd_lne, rd_fr, rd_ar, ne_eq, Nat.reduceEqDiff, not_false_eq_true]))
                    have r9_ : ((sm_aI (sm_aI (sm_aI (sm_aI (sm_aI S_ 247 0 (S_.2.2.1 243 0 p_.toNat).toNat (S_.2.2.1 244 0 p_.toNat)) 248 0 (S_.2.2.1 243 0 p_.toNat).toNat (S_.2.2.1 244 0 p_.toNat)) 249 0 (S_.2.2.1 243 0 p_.toNat).toNat (S_.2.2.1 249 0 (S_.2.2.1 243 0 p_.toNat).toNat)) 250 0 (S_.2.2.1 243 0 p_.toNat).toNat (S_.2.2.1 245 0 p_.toNat)) 246 0 (S_.2.2.1 243 0 p_.toNat).toNat ((S_.2.2.1 246 0 (S_.2.2.1 243 0 p_.toNat).toNat) + 1))).1 13 0 159 = S_.1 13 0 159 := by (try simp only [rd_eq, rd_ne, rf_eq, rf_nk, rf_nt, rd_fa, rd_af, rd_fl, rd_al, rd_lf, rd_la, rd_leq, rd_lne, rd_fr, rd_ar, ne_eq, Nat.reduceEqDiff, not_false_eq_true])
                    intro n9_ h9_ h8_ y9_
                    rw [r6_] at y9_
                    rw [r3_]
                    by_cases q9_ : n9_.toNat = (S_.2.2.1 243 0 p_.toNat).toNat
                    · exact ⟨p_, by omega, by omega, by omega⟩
                    · rw [if_neg q9_] at y9_
                      obtain ⟨k9_, u1_, u2_, u3_⟩ := hx_ n9_ h9_ h8_ y9_
                      exact ⟨k9_, u1_, by omega, u3_⟩
                  · omega
              · have cx108_ : ¬ ((S_.2.2.1 249 0 (S_.2.2.1 243 0 p_.toNat).toNat) ≤ (S_.2.2.1 245 0 p_.toNat)) := of_decide_eq_false cx108_
                refine sm_T_go 3 (c1 := (174, [some (.inr (.inr (some (13, 0)))), some (.inl c_), some (.inl p_), some (.inl (S_.2.2.1 243 0 p_.toNat)), some (.inl 0)], [.inl p_, .inr (.inr (some (245, 0))), .inl (S_.2.2.1 243 0 p_.toNat), .inr (.inr (some (249, 0)))], sm_aI (sm_aI S_ 247 0 (S_.2.2.1 243 0 p_.toNat).toNat (S_.2.2.1 244 0 p_.toNat)) 248 0 (S_.2.2.1 243 0 p_.toNat).toNat (S_.2.2.1 244 0 p_.toNat))) rfl ?_
                refine sm_T_iald (n := 700) rfl rfl (by omega) (by omega) ?_
                refine sm_T_go 1 (c1 := (184, [some (.inr (.inr (some (13, 0)))), some (.inl c_), some (.inl p_), some (.inl (S_.2.2.1 243 0 p_.toNat)), some (.inl 0)], [.inl (S_.2.2.1 245 0 p_.toNat), .inl (S_.2.2.1 243 0 p_.toNat), .inr (.inr (some (249, 0)))], sm_aI (sm_aI S_ 247 0 (S_.2.2.1 243 0 p_.toNat).toNat (S_.2.2.1 244 0 p_.toNat)) 248 0 (S_.2.2.1 243 0 p_.toNat).toNat (S_.2.2.1 244 0 p_.toNat))) rfl ?_
                refine sm_T_iast (n := 256) rfl rfl (by omega) (by omega) ?_
                have hIx121_ : gi (sm_aI (sm_aI (sm_aI S_ 247 0 (S_.2.2.1 243 0 p_.toNat).toNat (S_.2.2.1 244 0 p_.toNat)) 248 0 (S_.2.2.1 243 0 p_.toNat).toNat (S_.2.2.1 244 0 p_.toNat)) 249 0 (S_.2.2.1 243 0 p_.toNat).toNat (S_.2.2.1 245 0 p_.toNat)) := gi_aI hIx104_ (show 0 ≤ (S_.2.2.1 245 0 p_.toNat) ∧ (S_.2.2.1 245 0 p_.toNat) ≤ 40 from ⟨by omega, by omega⟩)
                have hFx122_ : ai_fr (sx_W vw_440) S0_ (sm_aI (sm_aI (sm_aI S_ 247 0 (S_.2.2.1 243 0 p_.toNat).toNat (S_.2.2.1 244 0 p_.toNat)) 248 0 (S_.2.2.1 243 0 p_.toNat).toNat (S_.2.2.1 244 0 p_.toNat)) 249 0 (S_.2.2.1 243 0 p_.toNat).toNat (S_.2.2.1 245 0 p_.toNat)) := ai_fr_tr hFx105_ (ai_fr_aI rfl)
                refine sm_T_go 8 (c1 := (200, [some (.inr (.inr (some (13, 0)))), some (.inl c_), some (.inl p_), some (.inl (S_.2.2.1 243 0 p_.toNat)), some (.inl 0)], [.inl p_, .inr (.inr (some (245, 0))), .inl (S_.2.2.1 243 0 p_.toNat), .inr (.inr (some (250, 0)))], sm_aI (sm_aI (sm_aI S_ 247 0 (S_.2.2.1 243 0 p_.toNat).toNat (S_.2.2.1 244 0 p_.toNat)) 248 0 (S_.2.2.1 243 0 p_.toNat).toNat (S_.2.2.1 244 0 p_.toNat)) 249 0 (S_.2.2.1 243 0 p_.toNat).toNat (S_.2.2.1 245 0 p_.toNat))) rfl ?_
                refine sm_T_iald (n := 700) rfl rfl (by omega) (by omega) ?_
                refine sm_T_go 3 (c1 := (206, [some (.inr (.inr (some (13, 0)))), some (.inl c_), some (.inl p_), some (.inl (S_.2.2.1 243 0 p_.toNat)), some (.inl 0)], [.inl (S_.2.2.1 243 0 p_.toNat), .inr (.inr (some (250, 0))), .inl (S_.2.2.1 245 0 p_.toNat), .inl (S_.2.2.1 243 0 p_.toNat), .inr (.inr (some (250, 0)))], sm_aI (sm_aI (sm_aI S_ 247 0 (S_.2.2.1 243 0 p_.toNat).toNat (S_.2.2.1 244 0 p_.toNat)) 248 0 (S_.2.2.1 243 0 p_.toNat).toNat (S_.2.2.1 244 0 p_.toNat)) 249 0 (S_.2.2.1 243 0 p_.toNat).toNat (S_.2.2.1 245 0 p_.toNat))) rfl ?_
                refine sm_T_iald (n := 256) rfl rfl (by omega) (by omega) ?_
                have bx123_ : 0 ≤ S_.2.2.1 250 0 (S_.2.2.1 243 0 p_.toNat).toNat ∧ S_.2.2.1 250 0 (S_.2.2.1 243 0 p_.toNat).toNat ≤ 40 := hI_.2 250 0 _
                refine sm_T_go 0 (c1 := (207, [some (.inr (.inr (some (13, 0)))), some (.inl c_), some (.inl p_), some (.inl (S_.2.2.1 243 0 p_.toNat)), some (.inl 0)], [.inl (S_.2.2.1 250 0 (S_.2.2.1 243 0 p_.toNat).toNat), .inl (S_.2.2.1 245 0 p_.toNat), .inl (S_.2.2.1 243 0 p_.toNat), .inr (.inr (some (250, 0)))], sm_aI (sm_aI (sm_aI S_ 247 0 (S_.2.2.1 243 0 p_.toNat).toNat (S_.2.2.1 244 0 p_.toNat)) 248 0 (S_.2.2.1 243 0 p_.toNat).toNat (S_.2.2.1 244 0 p_.toNat)) 249 0 (S_.2.2.1 243 0 p_.toNat).toNat (S_.2.2.1 245 0 p_.toNat))) rfl ?_
                refine sm_T_br (a := 5) (z := 12) rfl (fun cx124_ => ?_) (fun cx124_ => ?_)
                · have cx124_ : (S_.2.2.1 245 0 p_.toNat) ≤ (S_.2.2.1 250 0 (S_.2.2.1 243 0 p_.toNat).toNat) := of_decide_eq_true cx124_
                  refine sm_T_go 3 (c1 := (224, [some (.inr (.inr (some (13, 0)))), some (.inl c_), some (.inl p_), some (.inl (S_.2.2.1 243 0 p_.toNat)), some (.inl 0)], [.inl (S_.2.2.1 243 0 p_.toNat), .inr (.inr (some (250, 0))), .inl (S_.2.2.1 243 0 p_.toNat), .inr (.inr (some (250, 0)))], sm_aI (sm_aI (sm_aI S_ 247 0 (S_.2.2.1 243 0 p_.toNat).toNat (S_.2.2.1 244 0 p_.toNat)) 248 0 (S_.2.2.1 243 0 p_.toNat).toNat (S_.2.2.1 244 0 p_.toNat)) 249 0 (S_.2.2.1 243 0 p_.toNat).toNat (S_.2.2.1 245 0 p_.toNat))) rfl ?_
                  refine sm_T_iald (n := 256) rfl rfl (by omega) (by omega) ?_
                  refine sm_T_go 0 (c1 := (225, [some (.inr (.inr (some (13, 0)))), some (.inl c_), some (.inl p_), some (.inl (S_.2.2.1 243 0 p_.toNat)), some (.inl 0)], [.inl (S_.2.2.1 250 0 (S_.2.2.1 243 0 p_.toNat).toNat), .inl (S_.2.2.1 243 0 p_.toNat), .inr (.inr (some (250, 0)))], sm_aI (sm_aI (sm_aI S_ 247 0 (S_.2.2.1 243 0 p_.toNat).toNat (S_.2.2.1 244 0 p_.toNat)) 248 0 (S_.2.2.1 243 0 p_.toNat).toNat (S_.2.2.1 244 0 p_.toNat)) 249 0 (S_.2.2.1 243 0 p_.toNat).toNat (S_.2.2.1 245 0 p_.toNat))) rfl ?_
                  refine sm_T_iast (n := 256) rfl rfl (by omega) (by omega) ?_
                  have hIx125_ : gi (sm_aI (sm_aI (sm_aI (sm_aI S_ 247 0 (S_.2.2.1 243 0 p_.toNat).toNat (S_.2.2.1 244 0 p_.toNat)) 248 0 (S_.2.2.1 243 0 p_.toNat).toNat (S_.2.2.1 244 0 p_.toNat)) 249 0 (S_.2.2.1 243 0 p_.toNat).toNat (S_.2.2.1 245 0 p_.toNat)) 250 0 (S_.2.2.1 243 0 p_.toNat).toNat (S_.2.2.1 250 0 (S_.2.2.1 243 0 p_.toNat).toNat)) := gi_aI hIx121_ (show 0 ≤ (S_.2.2.1 250 0 (S_.2.2.1 243 0 p_.toNat).toNat) ∧ (S_.2.2.1 250 0 (S_.2.2.1 243 0 p_.toNat).toNat) ≤ 40 from ⟨by omega, by omega⟩)
                  have hFx126_ : ai_fr (sx_W vw_440) S0_ (sm_aI (sm_aI (sm_aI (sm_aI S_ 247 0 (S_.2.2.1 243 0 p_.toNat).toNat (S_.2.2.1 244 0 p_.toNat)) 248 0 (S_.2.2.1 243 0 p_.toNat).toNat (S_.2.2.1 244 0 p_.toNat)) 249 0 (S_.2.2.1 243 0 p_.toNat).toNat (S_.2.2.1 245 0 p_.toNat)) 250 0 (S_.2.2.1 243 0 p_.toNat).toNat (S_.2.2.1 250 0 (S_.2.2.1 243 0 p_.toNat).toNat)) := ai_fr_tr hFx122_ (ai_fr_aI rfl)
                  refine sm_T_go 4 (c1 := (232, [some (.inr (.inr (some (13, 0)))), some (.inl c_), some (.inl p_), some (.inl (S_.2.2.1 243 0 p_.toNat)), some (.inl 0)], [.inl (S_.2.2.1 243 0 p_.toNat), .inr (.inr (some (246, 0))), .inl (S_.2.2.1 243 0 p_.toNat), .inr (.inr (some (246, 0)))], sm_aI (sm_aI (sm_aI (sm_aI S_ 247 0 (S_.2.2.1 243 0 p_.toNat).toNat (S_.2.2.1 244 0 p_.toNat)) 248 0 (S_.2.2.1 243 0 p_.toNat).toNat (S_.2.2.1 244 0 p_.toNat)) 249 0 (S_.2.2.1 243 0 p_.toNat).toNat (S_.2.2.1 245 0 p_.toNat)) 250 0 (S_.2.2.1 243 0 p_.toNat).toNat (S_.2.2.1 250 0 (S_.2.2.1 243 0 p_.toNat).toNat))) rfl ?_
                  refine sm_T_iald (n := 256) rfl rfl (by omega) (by omega) ?_
                  refine sm_T_go 1 (c1 := (234, [some (.inr (.inr (some (13, 0)))), some (.inl c_), some (.inl p_), some (.inl (S_.2.2.1 243 0 p_.toNat)), some (.inl 0)], [.inl 1, .inl (S_.2.2.1 246 0 (S_.2.2.1 243 0 p_.toNat).toNat), .inl (S_.2.2.1 243 0 p_.toNat), .inr (.inr (some (246, 0)))], sm_aI (sm_aI (sm_aI (sm_aI S_ 247 0 (S_.2.2.1 243 0 p_.toNat).toNat (S_.2.2.1 244 0 p_.toNat)) 248 0 (S_.2.2.1 243 0 p_.toNat).toNat (S_.2.2.1 244 0 p_.toNat)) 249 0 (S_.2.2.1 243 0 p_.toNat).toNat (S_.2.2.1 245 0 p_.toNat)) 250 0 (S_.2.2.1 243 0 p_.toNat).toNat (S_.2.2.1 250 0 (S_.2.2.1 243 0 p_.toNat).toNat))) rfl ?_
                  refine sm_T_bin (w := (S_.2.2.1 246 0 (S_.2.2.1 243 0 p_.toNat).toNat) + 1) rfl (bi_add (by omega) (by omega) (by omega)) ?_ -- pc_ 234
                  refine sm_T_iast (n := 256) rfl rfl (by omega) (by omega) ?_
                  have hIx127_ : gi (sm_aI (sm_aI (sm_aI (sm_aI (sm_aI S_ 247 0 (S_.2.2.1 243 0 p_.toNat).toNat (S_.2.2.1 244 0 p_.toNat)) 248 0 (S_.2.2.1 243 0 p_.toNat).toNat (S_.2.2.1 244 0 p_.toNat)) 249 0 (S_.2.2.1 243 0 p_.toNat).toNat (S_.2.2.1 245 0 p_.toNat)) 250 0 (S_.2.2.1 243 0 p_.toNat).toNat (S_.2.2.1 250 0 (S_.2.2.1 243 0 p_.toNat).toNat)) 246 0 (S_.2.2.1 243 0 p_.toNat).toNat ((S_.2.2.1 246 0 (S_.2.2.1 243 0 p_.toNat).toNat) + 1)) := gi_aI hIx125_ (show 0 ≤ (S_.2.2.1 246 0 (S_.2.2.1 243 0 p_.toNat).toNat) + 1 ∧ (S_.2.2.1 246 0 (S_.2.2.1 243 0 p_.toNat).toNat) + 1 ≤ 700 from ⟨by omega, by omega⟩)
                  have hFx128_ : ai_fr (sx_W vw_440) S0_ (sm_aI (sm_aI (sm_aI (sm_aI (sm_aI S_ 247 0 (S_.2.2.1 243 0 p_.toNat).toNat (S_.2.2.1 244 0 p_.toNat)) 248 0 (S_.2.2.1 243 0 p_.toNat).toNat (S_.2.2.1 244 0 p_.toNat)) 249 0 (S_.2.2.1 243 0 p_.toNat).toNat (S_.2.2.1 245 0 p_.toNat)) 250 0 (S_.2.2.1 243 0 p_.toNat).toNat (S_.2.2.1 250 0 (S_.2.2.1 243 0 p_.toNat).toNat)) 246 0 (S_.2.2.1 243 0 p_.toNat).toNat ((S_.2.2.1 246 0 (S_.2.2.1 243 0 p_.toNat).toNat) + 1)) := ai_fr_tr hFx126_ (ai_fr_aI rfl)
                  refine sm_T_inc (a := 2) (z := 1) (v := p_) (w := p_ + 1) rfl rfl (by omega) (by omega) (by omega) ?_ -- pc_ 236
                  refine sm_T_go 1 (c1 := (31, [some (.inr (.inr (some (13, 0)))), some (.inl c_), some (.inl (p_ + 1)), some (.inl (S_.2.2.1 243 0 p_.toNat)), some (.inl 0)], [], sm_aI (sm_aI (sm_aI (sm_aI (sm_aI S_ 247 0 (S_.2.2.1 243 0 p_.toNat).toNat (S_.2.2.1 244 0 p_.toNat)) 248 0 (S_.2.2.1 243 0 p_.toNat).toNat (S_.2.2.1 244 0 p_.toNat)) 249 0 (S_.2.2.1 243 0 p_.toNat).toNat (S_.2.2.1 245 0 p_.toNat)) 250 0 (S_.2.2.1 243 0 p_.toNat).toNat (S_.2.2.1 250 0 (S_.2.2.1 243 0 p_.toNat).toNat)) 246 0 (S_.2.2.1 243 0 p_.toNat).toNat ((S_.2.2.1 246 0 (S_.2.2.1 243 0 p_.toNat).toNat) + 1))) rfl ?_
                  refine sm_T_wk [some (.inr (.inr (some (13, 0)))), some (.inl c_), some (.inl (p_ + 1)), none, none] (by exact ⟨rfl, rfl, rfl, trivial⟩) ?_
                  refine ih_.2 (p_ + 1) (sm_aI (sm_aI (sm_aI (sm_aI (sm_aI S_ 247 0 (S_.2.2.1 243 0 p_.toNat).toNat (S_.2.2.1 244 0 p_.toNat)) 248 0 (S_.2.2.1 243 0 p_.toNat).toNat (S_.2.2.1 244 0 p_.toNat)) 249 0 (S_.2.2.1 243 0 p_.toNat).toNat (S_.2.2.1 245 0 p_.toNat)) 250 0 (S_.2.2.1 243 0 p_.toNat).toNat (S_.2.2.1 250 0 (S_.2.2.1 243 0 p_.toNat).toNat)) 246 0 (S_.2.2.1 243 0 p_.toNat).toNat ((S_.2.2.1 246 0 (S_.2.2.1 243 0 p_.toNat).toNat) + 1)) hIx127_ hFx128_ ⟨?_, ?_, ?_, ?_, trivial⟩ ?_
                  · have r6_ : ∀ j9_, ((sm_aI (sm_aI (sm_aI (sm_aI (sm_aI S_ 247 0 (S_.2.2.1 243 0 p_.toNat).toNat (S_.2.2.1 244 0 p_.toNat)) 248 0 (S_.2.2.1 243 0 p_.toNat).toNat (S_.2.2.1 244 0 p_.toNat)) 249 0 (S_.2.2.1 243 0 p_.toNat).toNat (S_.2.2.1 245 0 p_.toNat)) 250 0 (S_.2.2.1 243 0 p_.toNat).toNat (S_.2.2.1 250 0 (S_.2.2.1 243 0 p_.toNat).toNat)) 246 0 (S_.2.2.1 243 0 p_.toNat).toNat ((S_.2.2.1 246 0 (S_.2.2.1 243 0 p_.toNat).toNat) + 1))).2.2.1 246 0 j9_ = if j9_ = (S_.2.2.1 243 0 p_.toNat).toNat then S_.2.2.1 246 0 (S_.2.2.1 243 0 p_.toNat).toNat + 1 else S_.2.2.1 246 0 j9_ := fun j9_ => by (try simp only [rd_eq, rd_ne, rf_eq, rf_nk, rf_nt, rd_fa, rd_af, rd_fl, rd_al, rd_lf, rd_la, rd_leq, rd_lne, rd_fr, rd_ar, ne_eq, Nat.reduceEqDiff, not_false_eq_true])
                    have r3_ : ((sm_aI (sm_aI (sm_aI (sm_aI (sm_aI S_ 247 0 (S_.2.2.1 243 0 p_.toNat).toNat (S_.2.2.1 244 0 p_.toNat)) 248 0 (S_.2.2.1 243 0 p_.toNat).toNat (S_.2.2.1 244 0 p_.toNat)) 249 0 (S_.2.2.1 243 0 p_.toNat).toNat (S_.2.2.1 245 0 p_.toNat)) 250 0 (S_.2.2.1 243 0 p_.toNat).toNat (S_.2.2.1 250 0 (S_.2.2.1 243 0 p_.toNat).toNat)) 246 0 (S_.2.2.1 243 0 p_.toNat).toNat ((S_.2.2.1 246 0 (S_.2.2.1 243 0 p_.toNat).toNat) + 1))).2.2.1 243 0 = S_.2.2.1 243 0 := by (funext j9_; (try simp only [rd_eq, rd_ne, rf_eq, rf_nk, rf_nt, rd_fa, rd_af, rd_fl, rd_al, rd_lf, rd_la, rd_leq, rd_lne, rd_fr, rd_ar, ne_eq, Nat.reduceEqDiff, not_false_eq_true]))
                    have r9_ : ((sm_aI (sm_aI (sm_aI (sm_aI (sm_aI S_ 247 0 (S_.2.2.1 243 0 p_.toNat).toNat (S_.2.2.1 244 0 p_.toNat)) 248 0 (S_.2.2.1 243 0 p_.toNat).toNat (S_.2.2.1 244 0 p_.toNat)) 249 0 (S_.2.2.1 243 0 p_.toNat).toNat (S_.2.2.1 245 0 p_.toNat)) 250 0 (S_.2.2.1 243 0 p_.toNat).toNat (S_.2.2.1 250 0 (S_.2.2.1 243 0 p_.toNat).toNat)) 246 0 (S_.2.2.1 243 0 p_.toNat).toNat ((S_.2.2.1 246 0 (S_.2.2.1 243 0 p_.toNat).toNat) + 1))).1 13 0 159 = S_.1 13 0 159 := by (try simp only [rd_eq, rd_ne, rf_eq, rf_nk, rf_nt, rd_fa, rd_af, rd_fl, rd_al, rd_lf, rd_la, rd_leq, rd_lne, rd_fr, rd_ar, ne_eq, Nat.reduceEqDiff, not_false_eq_true])
                    rw [r9_]
                    omega
                  · have r6_ : ∀ j9_, ((sm_aI (sm_aI (sm_aI (sm_aI (sm_aI S_ 247 0 (S_.2.2.1 243 0 p_.toNat).toNat (S_.2.2.1 244 0 p_.toNat)) 248 0 (S_.2.2.1 243 0 p_.toNat).toNat (S_.2.2.1 244 0 p_.toNat)) 249 0 (S_.2.2.1 243 0 p_.toNat).toNat (S_.2.2.1 245 0 p_.toNat)) 250 0 (S_.2.2.1 243 0 p_.toNat).toNat (S_.2.2.1 250 0 (S_.2.2.1 243 0 p_.toNat).toNat)) 246 0 (S_.2.2.1 243 0 p_.toNat).toNat ((S_.2.2.1 246 0 (S_.2.2.1 243 0 p_.toNat).toNat) + 1))).2.2.1 246 0 j9_ = if j9_ = (S_.2.2.1 243 0 p_.toNat).toNat then S_.2.2.1 246 0 (S_.2.2.1 243 0 p_.toNat).toNat + 1 else S_.2.2.1 246 0 j9_ := fun j9_ => by (try simp only [rd_eq, rd_ne, rf_eq, rf_nk, rf_nt, rd_fa, rd_af, rd_fl, rd_al, rd_lf, rd_la, rd_leq, rd_lne, rd_fr, rd_ar, ne_eq, Nat.reduceEqDiff, not_false_eq_true])
                    have r3_ : ((sm_aI (sm_aI (sm_aI (sm_aI (sm_aI S_ 247 0 (S_.2.2.1 243 0 p_.toNat).toNat (S_.2.2.1 244 0 p_.toNat)) 248 0 (S_.2.2.1 243 0 p_.toNat).toNat (S_.2.2.1 244 0 p_.toNat)) 249 0 (S_.2.2.1 243 0 p_.toNat).toNat (S_.2.2.1 245 0 p_.toNat)) 250 0 (S_.2.2.1 243 0 p_.toNat).toNat (S_.2.2.1 250 0 (S_.2.2.1 243 0 p_.toNat).toNat)) 246 0 (S_.2.2.1 243 0 p_.toNat).toNat ((S_.2.2.1 246 0 (S_.2.2.1 243 0 p_.toNat).toNat) + 1))).2.2.1 243 0 = S_.2.2.1 243 0 := by (funext j9_; (try simp only [rd_eq, rd_ne, rf_eq, rf_nk, rf_nt, rd_fa, rd_af, rd_fl, rd_al, rd_lf, rd_la, rd_leq, rd_lne, rd_fr, rd_ar, ne_eq, Nat.reduceEqDiff, not_false_eq_true]))
                    have r9_ : ((sm_aI (sm_aI (sm_aI (sm_aI (sm_aI S_ 247 0 (S_.2.2.1 243 0 p_.toNat).toNat (S_.2.2.1 244 0 p_.toNat)) 248 0 (S_.2.2.1 243 0 p_.toNat).toNat (S_.2.2.1 244 0 p_.toNat)) 249 0 (S_.2.2.1 243 0 p_.toNat).toNat (S_.2.2.1 245 0 p_.toNat)) 250 0 (S_.2.2.1 243 0 p_.toNat).toNat (S_.2.2.1 250 0 (S_.2.2.1 243 0 p_.toNat).toNat)) 246 0 (S_.2.2.1 243 0 p_.toNat).toNat ((S_.2.2.1 246 0 (S_.2.2.1 243 0 p_.toNat).toNat) + 1))).1 13 0 159 = S_.1 13 0 159 := by (try simp only [rd_eq, rd_ne, rf_eq, rf_nk, rf_nt, rd_fa, rd_af, rd_fl, rd_al, rd_lf, rd_la, rd_leq, rd_lne, rd_fr, rd_ar, ne_eq, Nat.reduceEqDiff, not_false_eq_true])
                    intro k9_ k0_ k1_
                    rw [r9_] at k1_
                    have w9_ := hv_ k9_ k0_ k1_
                    (try simp only [rd_eq, rd_ne, rf_eq, rf_nk, rf_nt, rd_fa, rd_af, rd_fl, rd_al, rd_lf, rd_la, rd_leq, rd_lne, rd_fr, rd_ar, ne_eq, Nat.reduceEqDiff, not_false_eq_true])
                    exact w9_
                  · have r6_ : ∀ j9_, ((sm_aI (sm_aI (sm_aI (sm_aI (sm_aI S_ 247 0 (S_.2.2.1 243 0 p_.toNat).toNat (S_.2.2.1 244 0 p_.toNat)) 248 0 (S_.2.2.1 243 0 p_.toNat).toNat (S_.2.2.1 244 0 p_.toNat)) 249 0 (S_.2.2.1 243 0 p_.toNat).toNat (S_.2.2.1 245 0 p_.toNat)) 250 0 (S_.2.2.1 243 0 p_.toNat).toNat (S_.2.2.1 250 0 (S_.2.2.1 243 0 p_.toNat).toNat)) 246 0 (S_.2.2.1 243 0 p_.toNat).toNat ((S_.2.2.1 246 0 (S_.2.2.1 243 0 p_.toNat).toNat) + 1))).2.2.1 246 0 j9_ = if j9_ = (S_.2.2.1 243 0 p_.toNat).toNat then S_.2.2.1 246 0 (S_.2.2.1 243 0 p_.toNat).toNat + 1 else S_.2.2.1 246 0 j9_ := fun j9_ => by (try simp only [rd_eq, rd_ne, rf_eq, rf_nk, rf_nt, rd_fa, rd_af, rd_fl, rd_al, rd_lf, rd_la, rd_leq, rd_lne, rd_fr, rd_ar, ne_eq, Nat.reduceEqDiff, not_false_eq_true])
                    have r3_ : ((sm_aI (sm_aI (sm_aI (sm_aI (sm_aI S_ 247 0 (S_.2.2.1 243 0 p_.toNat).toNat (S_.2.2.1 244 0 p_.toNat)) 248 0 (S_.2.2.1 243 0 p_.toNat).toNat (S_.2.2.1 244 0 p_.toNat)) 249 0 (S_.2.2.1 243 0 p_.toNat).toNat (S_.2.2.1 245 0 p_.toNat)) 250 0 (S_.2.2.1 243 0 p_.toNat).toNat (S_.2.2.1 250 0 (S_.2.2.1 243 0 p_.toNat).toNat)) 246 0 (S_.2.2.1 243 0 p_.toNat).toNat ((S_.2.2.1 246 0 (S_.2.2.1 243 0 p_.toNat).toNat) + 1))).2.2.1 243 0 = S_.2.2.1 243 0 := by (funext j9_; (try simp only [rd_eq, rd_ne, rf_eq, rf_nk, rf_nt, rd_fa, rd_af, rd_fl, rd_al, rd_lf, rd_la, rd_leq, rd_lne, rd_fr, rd_ar, ne_eq, Nat.reduceEqDiff, not_false_eq_true]))
                    have r9_ : ((sm_aI (sm_aI (sm_aI (sm_aI (sm_aI S_ 247 0 (S_.2.2.1 243 0 p_.toNat).toNat (S_.2.2.1 244 0 p_.toNat)) 248 0 (S_.2.2.1 243 0 p_.toNat).toNat (S_.2.2.1 244 0 p_.toNat)) 249 0 (S_.2.2.1 243 0 p_.toNat).toNat (S_.2.2.1 245 0 p_.toNat)) 250 0 (S_.2.2.1 243 0 p_.toNat).toNat (S_.2.2.1 250 0 (S_.2.2.1 243 0 p_.toNat).toNat)) 246 0 (S_.2.2.1 243 0 p_.toNat).toNat ((S_.2.2.1 246 0 (S_.2.2.1 243 0 p_.toNat).toNat) + 1))).1 13 0 159 = S_.1 13 0 159 := by (try simp only [rd_eq, rd_ne, rf_eq, rf_nk, rf_nt, rd_fa, rd_af, rd_fl, rd_al, rd_lf, rd_la, rd_leq, rd_lne, rd_fr, rd_ar, ne_eq, Nat.reduceEqDiff, not_false_eq_true])
                    intro n9_ h9_ h8_
                    rw [r6_]
                    have w9_ := hz_ n9_ h9_ h8_
                    split
                    · omega
                    · omega
                  · have r6_ : ∀ j9_, ((sm_aI (sm_aI (sm_aI (sm_aI (sm_aI S_ 247 0 (S_.2.2.1 243 0 p_.toNat).toNat (S_.2.2.1 244 0 p_.toNat)) 248 0 (S_.2.2.1 243 0 p_.toNat).toNat (S_.2.2.1 244 0 p_.toNat)) 249 0 (S_.2.2.1 243 0 p_.toNat).toNat (S_.2.2.1 245 0 p_.toNat)) 250 0 (S_.2.2.1 243 0 p_.toNat).toNat (S_.2.2.1 250 0 (S_.2.2.1 243 0 p_.toNat).toNat)) 246 0 (S_.2.2.1 243 0 p_.toNat).toNat ((S_.2.2.1 246 0 (S_.2.2.1 243 0 p_.toNat).toNat) + 1))).2.2.1 246 0 j9_ = if j9_ = (S_.2.2.1 243 0 p_.toNat).toNat then S_.2.2.1 246 0 (S_.2.2.1 243 0 p_.toNat).toNat + 1 else S_.2.2.1 246 0 j9_ := fun j9_ => by (try simp only [rd_eq, rd_ne, rf_eq, rf_nk, rf_nt, rd_fa, rd_af, rd_fl, rd_al, rd_lf, rd_la, rd_leq, rd_lne, rd_fr, rd_ar, ne_eq, Nat.reduceEqDiff, not_false_eq_true])
                    have r3_ : ((sm_aI (sm_aI (sm_aI (sm_aI (sm_aI S_ 247 0 (S_.2.2.1 243 0 p_.toNat).toNat (S_.2.2.1 244 0 p_.toNat)) 248 0 (S_.2.2.1 243 0 p_.toNat).toNat (S_.2.2.1 244 0 p_.toNat)) 249 0 (S_.2.2.1 243 0 p_.toNat).toNat (S_.2.2.1 245 0 p_.toNat)) 250 0 (S_.2.2.1 243 0 p_.toNat).toNat (S_.2.2.1 250 0 (S_.2.2.1 243 0 p_.toNat).toNat)) 246 0 (S_.2.2.1 243 0 p_.toNat).toNat ((S_.2.2.1 246 0 (S_.2.2.1 243 0 p_.toNat).toNat) + 1))).2.2.1 243 0 = S_.2.2.1 243 0 := by (funext j9_; (try simp only [rd_eq, rd_ne, rf_eq, rf_nk, rf_nt, rd_fa, rd_af, rd_fl, rd_al, rd_lf, rd_la, rd_leq, rd_lne, rd_fr, rd_ar, ne_eq, Nat.reduceEqDiff, not_false_eq_true]))
                    have r9_ : ((sm_aI (sm_aI (sm_aI (sm_aI (sm_aI S_ 247 0 (S_.2.2.1 243 0 p_.toNat).toNat (S_.2.2.1 244 0 p_.toNat)) 248 0 (S_.2.2.1 243 0 p_.toNat).toNat (S_.2.2.1 244 0 p_.toNat)) 249 0 (S_.2.2.1 243 0 p_.toNat).toNat (S_.2.2.1 245 0 p_.toNat)) 250 0 (S_.2.2.1 243 0 p_.toNat).toNat (S_.2.2.1 250 0 (S_.2.2.1 243 0 p_.toNat).toNat)) 246 0 (S_.2.2.1 243 0 p_.toNat).toNat ((S_.2.2.1 246 0 (S_.2.2.1 243 0 p_.toNat).toNat) + 1))).1 13 0 159 = S_.1 13 0 159 := by (try simp only [rd_eq, rd_ne, rf_eq, rf_nk, rf_nt, rd_fa, rd_af, rd_fl, rd_al, rd_lf, rd_la, rd_leq, rd_lne, rd_fr, rd_ar, ne_eq, Nat.reduceEqDiff, not_false_eq_true])
                    intro n9_ h9_ h8_ y9_
                    rw [r6_] at y9_
                    rw [r3_]
                    by_cases q9_ : n9_.toNat = (S_.2.2.1 243 0 p_.toNat).toNat
                    · exact ⟨p_, by omega, by omega, by omega⟩
                    · rw [if_neg q9_] at y9_
                      obtain ⟨k9_, u1_, u2_, u3_⟩ := hx_ n9_ h9_ h8_ y9_
                      exact ⟨k9_, u1_, by omega, u3_⟩
                  · omega
                · have cx124_ : ¬ ((S_.2.2.1 245 0 p_.toNat) ≤ (S_.2.2.1 250 0 (S_.2.2.1 243 0 p_.toNat).toNat)) := of_decide_eq_false cx124_
                  refine sm_T_go 3 (c1 := (215, [some (.inr (.inr (some (13, 0)))), some (.inl c_), some (.inl p_), some (.inl (S_.2.2.1 243 0 p_.toNat)), some (.inl 0)], [.inl p_, .inr (.inr (some (245, 0))), .inl (S_.2.2.1 243 0 p_.toNat), .inr (.inr (some (250, 0)))], sm_aI (sm_aI (sm_aI S_ 247 0 (S_.2.2.1 243 0 p_.toNat).toNat (S_.2.2.1 244 0 p_.toNat)) 248 0 (S_.2.2.1 243 0 p_.toNat).toNat (S_.2.2.1 244 0 p_.toNat)) 249 0 (S_.2.2.1 243 0 p_.toNat).toNat (S_.2.2.1 245 0 p_.toNat))) rfl ?_
                  refine sm_T_iald (n := 700) rfl rfl (by omega) (by omega) ?_
                  refine sm_T_go 1 (c1 := (225, [some (.inr (.inr (some (13, 0)))), some (.inl c_), some (.inl p_), some (.inl (S_.2.2.1 243 0 p_.toNat)), some (.inl 0)], [.inl (S_.2.2.1 245 0 p_.toNat), .inl (S_.2.2.1 243 0 p_.toNat), .inr (.inr (some (250, 0)))], sm_aI (sm_aI (sm_aI S_ 247 0 (S_.2.2.1 243 0 p_.toNat).toNat (S_.2.2.1 244 0 p_.toNat)) 248 0 (S_.2.2.1 243 0 p_.toNat).toNat (S_.2.2.1 244 0 p_.toNat)) 249 0 (S_.2.2.1 243 0 p_.toNat).toNat (S_.2.2.1 245 0 p_.toNat))) rfl ?_
                  refine sm_T_iast (n := 256) rfl rfl (by omega) (by omega) ?_
                  have hIx129_ : gi (sm_aI (sm_aI (sm_aI (sm_aI S_ 247 0 (S_.2.2.1 243 0 p_.toNat).toNat (S_.2.2.1 244 0 p_.toNat)) 248 0 (S_.2.2.1 243 0 p_.toNat).toNat (S_.2.2.1 244 0 p_.toNat)) 249 0 (S_.2.2.1 243 0 p_.toNat).toNat (S_.2.2.1 245 0 p_.toNat)) 250 0 (S_.2.2.1 243 0 p_.toNat).toNat (S_.2.2.1 245 0 p_.toNat)) := gi_aI hIx121_ (show 0 ≤ (S_.2.2.1 245 0 p_.toNat) ∧ (S_.2.2.1 245 0 p_.toNat) ≤ 40 from ⟨by omega, by omega⟩)
                  have hFx130_ : ai_fr (sx_W vw_440) S0_ (sm_aI (sm_aI (sm_aI (sm_aI S_ 247 0 (S_.2.2.1 243 0 p_.toNat).toNat (S_.2.2.1 244 0 p_.toNat)) 248 0 (S_.2.2.1 243 0 p_.toNat).toNat (S_.2.2.1 244 0 p_.toNat)) 249 0 (S_.2.2.1 243 0 p_.toNat).toNat (S_.2.2.1 245 0 p_.toNat)) 250 0 (S_.2.2.1 243 0 p_.toNat).toNat (S_.2.2.1 245 0 p_.toNat)) := ai_fr_tr hFx122_ (ai_fr_aI rfl)
                  refine sm_T_go 4 (c1 := (232, [some (.inr (.inr (some (13, 0)))), some (.inl c_), some (.inl p_), some (.inl (S_.2.2.1 243 0 p_.toNat)), some (.inl 0)], [.inl (S_.2.2.1 243 0 p_.toNat), .inr (.inr (some (246, 0))), .inl (S_.2.2.1 243 0 p_.toNat), .inr (.inr (some (246, 0)))], sm_aI (sm_aI (sm_aI (sm_aI S_ 247 0 (S_.2.2.1 243 0 p_.toNat).toNat (S_.2.2.1 244 0 p_.toNat)) 248 0 (S_.2.2.1 243 0 p_.toNat).toNat (S_.2.2.1 244 0 p_.toNat)) 249 0 (S_.2.2.1 243 0 p_.toNat).toNat (S_.2.2.1 245 0 p_.toNat)) 250 0 (S_.2.2.1 243 0 p_.toNat).toNat (S_.2.2.1 245 0 p_.toNat))) rfl ?_
                  refine sm_T_iald (n := 256) rfl rfl (by omega) (by omega) ?_
                  refine sm_T_go 1 (c1 := (234, [some (.inr (.inr (some (13, 0)))), some (.inl c_), some (.inl p_), some (.inl (S_.2.2.1 243 0 p_.toNat)), some (.inl 0)], [.inl 1, .inl (S_.2.2.1 246 0 (S_.2.2.1 243 0 p_.toNat).toNat), .inl (S_.2.2.1 243 0 p_.toNat), .inr (.inr (some (246, 0)))], sm_aI (sm_aI (sm_aI (sm_aI S_ 247 0 (S_.2.2.1 243 0 p_.toNat).toNat (S_.2.2.1 244 0 p_.toNat)) 248 0 (S_.2.2.1 243 0 p_.toNat).toNat (S_.2.2.1 244 0 p_.toNat)) 249 0 (S_.2.2.1 243 0 p_.toNat).toNat (S_.2.2.1 245 0 p_.toNat)) 250 0 (S_.2.2.1 243 0 p_.toNat).toNat (S_.2.2.1 245 0 p_.toNat))) rfl ?_
                  refine sm_T_bin (w := (S_.2.2.1 246 0 (S_.2.2.1 243 0 p_.toNat).toNat) + 1) rfl (bi_add (by omega) (by omega) (by omega)) ?_ -- pc_ 234
                  refine sm_T_iast (n := 256) rfl rfl (by omega) (by omega) ?_
                  have hIx131_ : gi (sm_aI (sm_aI (sm_aI (sm_aI (sm_aI S_ 247 0 (S_.2.2.1 243 0 p_.toNat).toNat (S_.2.2.1 244 0 p_.toNat)) 248 0 (S_.2.2.1 243 0 p_.toNat).toNat (S_.2.2.1 244 0 p_.toNat)) 249 0 (S_.2.2.1 243 0 p_.toNat).toNat (S_.2.2.1 245 0 p_.toNat)) 250 0 (S_.2.2.1 243 0 p_.toNat).toNat (S_.2.2.1 245 0 p_.toNat)) 246 0 (S_.2.2.1 243 0 p_.toNat).toNat ((S_.2.2.1 246 0 (S_.2.2.1 243 0 p_.toNat).toNat) + 1)) := gi_aI hIx129_ (show 0 ≤ (S_.2.2.1 246 0 (S_.2.2.1 243 0 p_.toNat).toNat) + 1 ∧ (S_.2.2.1 246 0 (S_.2.2.1 243 0 p_.toNat).toNat) + 1 ≤ 700 from ⟨by omega, by omega⟩)
                  have hFx132_ : ai_fr (sx_W vw_440) S0_ (sm_aI (sm_aI (sm_aI (sm_aI (sm_aI S_ 247 0 (S_.2.2.1 243 0 p_.toNat).toNat (S_.2.2.1 244 0 p_.toNat)) 248 0 (S_.2.2.1 243 0 p_.toNat).toNat (S_.2.2.1 244 0 p_.toNat)) 249 0 (S_.2.2.1 243 0 p_.toNat).toNat (S_.2.2.1 245 0 p_.toNat)) 250 0 (S_.2.2.1 243 0 p_.toNat).toNat (S_.2.2.1 245 0 p_.toNat)) 246 0 (S_.2.2.1 243 0 p_.toNat).toNat ((S_.2.2.1 246 0 (S_.2.2.1 243 0 p_.toNat).toNat) + 1)) := ai_fr_tr hFx130_ (ai_fr_aI rfl)
                  refine sm_T_inc (a := 2) (z := 1) (v := p_) (w := p_ + 1) rfl rfl (by omega) (by omega) (by omega) ?_ -- pc_ 236
                  refine sm_T_go 1 (c1 := (31, [some (.inr (.inr (some (13, 0)))), some (.inl c_), some (.inl (p_ + 1)), some (.inl (S_.2.2.1 243 0 p_.toNat)), some (.inl 0)], [], sm_aI (sm_aI (sm_aI (sm_aI (sm_aI S_ 247 0 (S_.2.2.1 243 0 p_.toNat).toNat (S_.2.2.1 244 0 p_.toNat)) 248 0 (S_.2.2.1 243 0 p_.toNat).toNat (S_.2.2.1 244 0 p_.toNat)) 249 0 (S_.2.2.1 243 0 p_.toNat).toNat (S_.2.2.1 245 0 p_.toNat)) 250 0 (S_.2.2.1 243 0 p_.toNat).toNat (S_.2.2.1 245 0 p_.toNat)) 246 0 (S_.2.2.1 243 0 p_.toNat).toNat ((S_.2.2.1 246 0 (S_.2.2.1 243 0 p_.toNat).toNat) + 1))) rfl ?_
                  refine sm_T_wk [some (.inr (.inr (some (13, 0)))), some (.inl c_), some (.inl (p_ + 1)), none, none] (by exact ⟨rfl, rfl, rfl, trivial⟩) ?_
                  refine ih_.2 (p_ + 1) (sm_aI (sm_aI (sm_aI (sm_aI (sm_aI S_ 247 0 (S_.2.2.1 243 0 p_.toNat).toNat (S_.2.2.1 244 0 p_.toNat)) 248 0 (S_.2.2.1 243 0 p_.toNat).toNat (S_.2.2.1 244 0 p_.toNat)) 249 0 (S_.2.2.1 243 0 p_.toNat).toNat (S_.2.2.1 245 0 p_.toNat)) 250 0 (S_.2.2.1 243 0 p_.toNat).toNat (S_.2.2.1 245 0 p_.toNat)) 246 0 (S_.2.2.1 243 0 p_.toNat).toNat ((S_.2.2.1 246 0 (S_.2.2.1 243 0 p_.toNat).toNat) + 1)) hIx131_ hFx132_ ⟨?_, ?_, ?_, ?_, trivial⟩ ?_
                  · have r6_ : ∀ j9_, ((sm_aI (sm_aI (sm_aI (sm_aI (sm_aI S_ 247 0 (S_.2.2.1 243 0 p_.toNat).toNat (S_.2.2.1 244 0 p_.toNat)) 248 0 (S_.2.2.1 243 0 p_.toNat).toNat (S_.2.2.1 244 0 p_.toNat)) 249 0 (S_.2.2.1 243 0 p_.toNat).toNat (S_.2.2.1 245 0 p_.toNat)) 250 0 (S_.2.2.1 243 0 p_.toNat).toNat (S_.2.2.1 245 0 p_.toNat)) 246 0 (S_.2.2.1 243 0 p_.toNat).toNat ((S_.2.2.1 246 0 (S_.2.2.1 243 0 p_.toNat).toNat) + 1))).2.2.1 246 0 j9_ = if j9_ = (S_.2.2.1 243 0 p_.toNat).toNat then S_.2.2.1 246 0 (S_.2.2.1 243 0 p_.toNat).toNat + 1 else S_.2.2.1 246 0 j9_ := fun j9_ => by (try simp only [rd_eq, rd_ne, rf_eq, rf_nk, rf_nt, rd_fa, rd_af, rd_fl, rd_al, rd_lf, rd_la, rd_leq, rd_lne, rd_fr, rd_ar, ne_eq, Nat.reduceEqDiff, not_false_eq_true])
                    have r3_ : ((sm_aI (sm_aI (sm_aI (sm_aI (sm_aI S_ 247 0 (S_.2.2.1 243 0 p_.toNat).toNat (S_.2.2.1 244 0 p_.toNat)) 248 0 (S_.2.2.1 243 0 p_.toNat).toNat (S_.2.2.1 244 0 p_.toNat)) 249 0 (S_.2.2.1 243 0 p_.toNat).toNat (S_.2.2.1 245 0 p_.toNat)) 250 0 (S_.2.2.1 243 0 p_.toNat).toNat (S_.2.2.1 245 0 p_.toNat)) 246 0 (S_.2.2.1 243 0 p_.toNat).toNat ((S_.2.2.1 246 0 (S_.2.2.1 243 0 p_.toNat).toNat) + 1))).2.2.1 243 0 = S_.2.2.1 243 0 := by (funext j9_; (try simp only [rd_eq, rd_ne, rf_eq, rf_nk, rf_nt, rd_fa, rd_af, rd_fl, rd_al, rd_lf, rd_la, rd_leq, rd_lne, rd_fr, rd_ar, ne_eq, Nat.reduceEqDiff, not_false_eq_true]))
                    have r9_ : ((sm_aI (sm_aI (sm_aI (sm_aI (sm_aI S_ 247 0 (S_.2.2.1 243 0 p_.toNat).toNat (S_.2.2.1 244 0 p_.toNat)) 248 0 (S_.2.2.1 243 0 p_.toNat).toNat (S_.2.2.1 244 0 p_.toNat)) 249 0 (S_.2.2.1 243 0 p_.toNat).toNat (S_.2.2.1 245 0 p_.toNat)) 250 0 (S_.2.2.1 243 0 p_.toNat).toNat (S_.2.2.1 245 0 p_.toNat)) 246 0 (S_.2.2.1 243 0 p_.toNat).toNat ((S_.2.2.1 246 0 (S_.2.2.1 243 0 p_.toNat).toNat) + 1))).1 13 0 159 = S_.1 13 0 159 := by (try simp only [rd_eq, rd_ne, rf_eq, rf_nk, rf_nt, rd_fa, rd_af, rd_fl, rd_al, rd_lf, rd_la, rd_leq, rd_lne, rd_fr, rd_ar, ne_eq, Nat.reduceEqDiff, not_false_eq_true])
                    rw [r9_]
                    omega
                  · have r6_ : ∀ j9_, ((sm_aI (sm_aI (sm_aI (sm_aI (sm_aI S_ 247 0 (S_.2.2.1 243 0 p_.toNat).toNat (S_.2.2.1 244 0 p_.toNat)) 248 0 (S_.2.2.1 243 0 p_.toNat).toNat (S_.2.2.1 244 0 p_.toNat)) 249 0 (S_.2.2.1 243 0 p_.toNat).toNat (S_.2.2.1 245 0 p_.toNat)) 250 0 (S_.2.2.1 243 0 p_.toNat).toNat (S_.2.2.1 245 0 p_.toNat)) 246 0 (S_.2.2.1 243 0 p_.toNat).toNat ((S_.2.2.1 246 0 (S_.2.2.1 243 0 p_.toNat).toNat) + 1))).2.2.1 246 0 j9_ = if j9_ = (S_.2.2.1 243 0 p_.toNat).toNat then S_.2.2.1 246 0 (S_.2.2.1 243 0 p_.toNat).toNat + 1 else S_.2.2.1 246 0 j9_ := fun j9_ => by (try simp only [rd_eq, rd_ne, rf_eq, rf_nk, rf_nt, rd_fa, rd_af, rd_fl, rd_al, rd_lf, rd_la, rd_leq, rd_lne, rd_fr, rd_ar, ne_eq, Nat.reduceEqDiff, not_false_eq_true])
                    have r3_ : ((sm_aI (sm_aI (sm_aI (sm_aI (sm_aI S_ 247 0 (S_.2.2.1 243 0 p_.toNat).toNat (S_.2.2.1 244 0 p_.toNat)) 248 0 (S_.2.2.1 243 0 p_.toNat).toNat (S_.2.2.1 244 0 p_.toNat)) 249 0 (S_.2.2.1 243 0 p_.toNat).toNat (S_.2.2.1 245 0 p_.toNat)) 250 0 (S_.2.2.1 243 0 p_.toNat).toNat (S_.2.2.1 245 0 p_.toNat)) 246 0 (S_.2.2.1 243 0 p_.toNat).toNat ((S_.2.2.1 246 0 (S_.2.2.1 243 0 p_.toNat).toNat) + 1))).2.2.1 243 0 = S_.2.2.1 243 0 := by (funext j9_; (try simp only [rd_eq, rd_ne, rf_eq, rf_nk, rf_nt, rd_fa, rd_af, rd_fl, rd_al, rd_lf, rd_la, rd_leq, rd_lne, rd_fr, rd_ar, ne_eq, Nat.reduceEqDiff, not_false_eq_true]))
                    have r9_ : ((sm_aI (sm_aI (sm_aI (sm_aI (sm_aI S_ 247 0 (S_.2.2.1 243 0 p_.toNat).toNat (S_.2.2.1 244 0 p_.toNat)) 248 0 (S_.2.2.1 243 0 p_.toNat).toNat (S_.2.2.1 244 0 p_.toNat)) 249 0 (S_.2.2.1 243 0 p_.toNat).toNat (S_.2.2.1 245 0 p_.toNat)) 250 0 (S_.2.2.1 243 0 p_.toNat).toNat (S_.2.2.1 245 0 p_.toNat)) 246 0 (S_.2.2.1 243 0 p_.toNat).toNat ((S_.2.2.1 246 0 (S_.2.2.1 243 0 p_.toNat).toNat) + 1))).1 13 0 159 = S_.1 13 0 159 := by (try simp only [rd_eq, rd_ne, rf_eq, rf_nk, rf_nt, rd_fa, rd_af, rd_fl, rd_al, rd_lf, rd_la, rd_leq, rd_lne, rd_fr, rd_ar, ne_eq, Nat.reduceEqDiff, not_false_eq_true])
                    intro k9_ k0_ k1_
                    rw [r9_] at k1_
                    have w9_ := hv_ k9_ k0_ k1_
                    (try simp only [rd_eq, rd_ne, rf_eq, rf_nk, rf_nt, rd_fa, rd_af, rd_fl, rd_al, rd_lf, rd_la, rd_leq, rd_lne, rd_fr, rd_ar, ne_eq, Nat.reduceEqDiff, not_false_eq_true])
                    exact w9_
                  · have r6_ : ∀ j9_, ((sm_aI (sm_aI (sm_aI (sm_aI (sm_aI S_ 247 0 (S_.2.2.1 243 0 p_.toNat).toNat (S_.2.2.1 244 0 p_.toNat)) 248 0 (S_.2.2.1 243 0 p_.toNat).toNat (S_.2.2.1 244 0 p_.toNat)) 249 0 (S_.2.2.1 243 0 p_.toNat).toNat (S_.2.2.1 245 0 p_.toNat)) 250 0 (S_.2.2.1 243 0 p_.toNat).toNat (S_.2.2.1 245 0 p_.toNat)) 246 0 (S_.2.2.1 243 0 p_.toNat).toNat ((S_.2.2.1 246 0 (S_.2.2.1 243 0 p_.toNat).toNat) + 1))).2.2.1 246 0 j9_ = if j9_ = (S_.2.2.1 243 0 p_.toNat).toNat then S_.2.2.1 246 0 (S_.2.2.1 243 0 p_.toNat).toNat + 1 else S_.2.2.1 246 0 j9_ := fun j9_ => by (try simp only [rd_eq, rd_ne, rf_eq, rf_nk, rf_nt, rd_fa, rd_af, rd_fl, rd_al, rd_lf, rd_la, rd_leq, rd_lne, rd_fr, rd_ar, ne_eq, Nat.reduceEqDiff, not_false_eq_true])
                    have r3_ : ((sm_aI (sm_aI (sm_aI (sm_aI (sm_aI S_ 247 0 (S_.2.2.1 243 0 p_.toNat).toNat (S_.2.2.1 244 0 p_.toNat)) 248 0 (S_.2.2.1 243 0 p_.toNat).toNat (S_.2.2.1 244 0 p_.toNat)) 249 0 (S_.2.2.1 243 0 p_.toNat).toNat (S_.2.2.1 245 0 p_.toNat)) 250 0 (S_.2.2.1 243 0 p_.toNat).toNat (S_.2.2.1 245 0 p_.toNat)) 246 0 (S_.2.2.1 243 0 p_.toNat).toNat ((S_.2.2.1 246 0 (S_.2.2.1 243 0 p_.toNat).toNat) + 1))).2.2.1 243 0 = S_.2.2.1 243 0 := by (funext j9_; (try simp only [rd_eq, rd_ne, rf_eq, rf_nk, rf_nt, rd_fa, rd_af, rd_fl, rd_al, rd_lf, rd_la, rd_leq, rd_lne, rd_fr, rd_ar, ne_eq, Nat.reduceEqDiff, not_false_eq_true]))
                    have r9_ : ((sm_aI (sm_aI (sm_aI (sm_aI (sm_aI S_ 247 0 (S_.2.2.1 243 0 p_.toNat).toNat (S_.2.2.1 244 0 p_.toNat)) 248 0 (S_.2.2.1 243 0 p_.toNat).toNat (S_.2.2.1 244 0 p_.toNat)) 249 0 (S_.2.2.1 243 0 p_.toNat).toNat (S_.2.2.1 245 0 p_.toNat)) 250 0 (S_.2.2.1 243 0 p_.toNat).toNat (S_.2.2.1 245 0 p_.toNat)) 246 0 (S_.2.2.1 243 0 p_.toNat).toNat ((S_.2.2.1 246 0 (S_.2.2.1 243 0 p_.toNat).toNat) + 1))).1 13 0 159 = S_.1 13 0 159 := by (try simp only [rd_eq, rd_ne, rf_eq, rf_nk, rf_nt, rd_fa, rd_af, rd_fl, rd_al, rd_lf, rd_la, rd_leq, rd_lne, rd_fr, rd_ar, ne_eq, Nat.reduceEqDiff, not_false_eq_true])
                    intro n9_ h9_ h8_
                    rw [r6_]
                    have w9_ := hz_ n9_ h9_ h8_
                    split
                    · omega
                    · omega
                  · have r6_ : ∀ j9_, ((sm_aI (sm_aI (sm_aI (sm_aI (sm_aI S_ 247 0 (S_.2.2.1 243 0 p_.toNat).toNat (S_.2.2.1 244 0 p_.toNat)) 248 0 (S_.2.2.1 243 0 p_.toNat).toNat (S_.2.2.1 244 0 p_.toNat)) 249 0 (S_.2.2.1 243 0 p_.toNat).toNat (S_.2.2.1 245 0 p_.toNat)) 250 0 (S_.2.2.1 243 0 p_.toNat).toNat (S_.2.2.1 245 0 p_.toNat)) 246 0 (S_.2.2.1 243 0 p_.toNat).toNat ((S_.2.2.1 246 0 (S_.2.2.1 243 0 p_.toNat).toNat) + 1))).2.2.1 246 0 j9_ = if j9_ = (S_.2.2.1 243 0 p_.toNat).toNat then S_.2.2.1 246 0 (S_.2.2.1 243 0 p_.toNat).toNat + 1 else S_.2.2.1 246 0 j9_ := fun j9_ => by (try simp only [rd_eq, rd_ne, rf_eq, rf_nk, rf_nt, rd_fa, rd_af, rd_fl, rd_al, rd_lf, rd_la, rd_leq, rd_lne, rd_fr, rd_ar, ne_eq, Nat.reduceEqDiff, not_false_eq_true])
                    have r3_ : ((sm_aI (sm_aI (sm_aI (sm_aI (sm_aI S_ 247 0 (S_.2.2.1 243 0 p_.toNat).toNat (S_.2.2.1 244 0 p_.toNat)) 248 0 (S_.2.2.1 243 0 p_.toNat).toNat (S_.2.2.1 244 0 p_.toNat)) 249 0 (S_.2.2.1 243 0 p_.toNat).toNat (S_.2.2.1 245 0 p_.toNat)) 250 0 (S_.2.2.1 243 0 p_.toNat).toNat (S_.2.2.1 245 0 p_.toNat)) 246 0 (S_.2.2.1 243 0 p_.toNat).toNat ((S_.2.2.1 246 0 (S_.2.2.1 243 0 p_.toNat).toNat) + 1))).2.2.1 243 0 = S_.2.2.1 243 0 := by (funext j9_; (try simp only [rd_eq, rd_ne, rf_eq, rf_nk, rf_nt, rd_fa, rd_af, rd_fl, rd_al, rd_lf, rd_la, rd_leq, rd_lne, rd_fr, rd_ar, ne_eq, Nat.reduceEqDiff, not_false_eq_true]))
                    have r9_ : ((sm_aI (sm_aI (sm_aI (sm_aI (sm_aI S_ 247 0 (S_.2.2.1 243 0 p_.toNat).toNat (S_.2.2.1 244 0 p_.toNat)) 248 0 (S_.2.2.1 243 0 p_.toNat).toNat (S_.2.2.1 244 0 p_.toNat)) 249 0 (S_.2.2.1 243 0 p_.toNat).toNat (S_.2.2.1 245 0 p_.toNat)) 250 0 (S_.2.2.1 243 0 p_.toNat).toNat (S_.2.2.1 245 0 p_.toNat)) 246 0 (S_.2.2.1 243 0 p_.toNat).toNat ((S_.2.2.1 246 0 (S_.2.2.1 243 0 p_.toNat).toNat) + 1))).1 13 0 159 = S_.1 13 0 159 := by (try simp only [rd_eq, rd_ne, rf_eq, rf_nk, rf_nt, rd_fa, rd_af, rd_fl, rd_al, rd_lf, rd_la, rd_leq, rd_lne, rd_fr, rd_ar, ne_eq, Nat.reduceEqDiff, not_false_eq_true])
                    intro n9_ h9_ h8_ y9_
                    rw [r6_] at y9_
                    rw [r3_]
                    by_cases q9_ : n9_.toNat = (S_.2.2.1 243 0 p_.toNat).toNat
                    · exact ⟨p_, by omega, by omega, by omega⟩
                    · rw [if_neg q9_] at y9_
                      obtain ⟨k9_, u1_, u2_, u3_⟩ := hx_ n9_ h9_ h8_ y9_
                      exact ⟨k9_, u1_, by omega, u3_⟩
                  · omega
        · have cx5_ : ¬ ((S_.2.2.1 246 0 (S_.2.2.1 243 0 p_.toNat).toNat) ≠ 0) := of_decide_eq_false cx5_
          refine sm_T_go 11 (c1 := (92, [some (.inr (.inr (some (13, 0)))), some (.inl c_), some (.inl p_), some (.inl (S_.2.2.1 243 0 p_.toNat)), some (.inl 1)], [.inl p_, .inr (.inr (some (244, 0))), .inl (S_.2.2.1 243 0 p_.toNat), .inr (.inr (some (247, 0)))], S_)) rfl ?_
          refine sm_T_iald (n := 700) rfl rfl (by omega) (by omega) ?_
          have bx133_ : 0 ≤ S_.2.2.1 244 0 p_.toNat ∧ S_.2.2.1 244 0 p_.toNat ≤ 200 := hI_.2 244 0 _
          refine sm_T_go 1 (c1 := (102, [some (.inr (.inr (some (13, 0)))), some (.inl c_), some (.inl p_), some (.inl (S_.2.2.1 243 0 p_.toNat)), some (.inl 1)], [.inl (S_.2.2.1 244 0 p_.toNat), .inl (S_.2.2.1 243 0 p_.toNat), .inr (.inr (some (247, 0)))], S_)) rfl ?_
          refine sm_T_iast (n := 256) rfl rfl (by omega) (by omega) ?_
          have hIx134_ : gi (sm_aI S_ 247 0 (S_.2.2.1 243 0 p_.toNat).toNat (S_.2.2.1 244 0 p_.toNat)) := gi_aI hI_ (show 0 ≤ (S_.2.2.1 244 0 p_.toNat) ∧ (S_.2.2.1 244 0 p_.toNat) ≤ 200 from ⟨by omega, by omega⟩)
          have hFx135_ : ai_fr (sx_W vw_440) S0_ (sm_aI S_ 247 0 (S_.2.2.1 243 0 p_.toNat).toNat (S_.2.2.1 244 0 p_.toNat)) := ai_fr_tr hF_ (ai_fr_aI rfl)
          refine sm_T_go 8 (c1 := (133, [some (.inr (.inr (some (13, 0)))), some (.inl c_), some (.inl p_), some (.inl (S_.2.2.1 243 0 p_.toNat)), some (.inl 1)], [.inl p_, .inr (.inr (some (244, 0))), .inl (S_.2.2.1 243 0 p_.toNat), .inr (.inr (some (248, 0)))], sm_aI S_ 247 0 (S_.2.2.1 243 0 p_.toNat).toNat (S_.2.2.1 244 0 p_.toNat))) rfl ?_
          refine sm_T_iald (n := 700) rfl rfl (by omega) (by omega) ?_
          refine sm_T_go 1 (c1 := (143, [some (.inr (.inr (some (13, 0)))), some (.inl c_), some (.inl p_), some (.inl (S_.2.2.1 243 0 p_.toNat)), some (.inl 1)], [.inl (S_.2.2.1 244 0 p_.toNat), .inl (S_.2.2.1 243 0 p_.toNat), .inr (.inr (some (248, 0)))], sm_aI S_ 247 0 (S_.2.2.1 243 0 p_.toNat).toNat (S_.2.2.1 244 0 p_.toNat))) rfl ?_
          refine sm_T_iast (n := 256) rfl rfl (by omega) (by omega) ?_
          have hIx136_ : gi (sm_aI (sm_aI S_ 247 0 (S_.2.2.1 243 0 p_.toNat).toNat (S_.2.2.1 244 0 p_.toNat)) 248 0 (S_.2.2.1 243 0 p_.toNat).toNat (S_.2.2.1 244 0 p_.toNat)) := gi_aI hIx134_ (show 0 ≤ (S_.2.2.1 244 0 p_.toNat) ∧ (S_.2.2.1 244 0 p_.toNat) ≤ 200 from ⟨by omega, by omega⟩)
          have hFx137_ : ai_fr (sx_W vw_440) S0_ (sm_aI (sm_aI S_ 247 0 (S_.2.2.1 243 0 p_.toNat).toNat (S_.2.2.1 244 0 p_.toNat)) 248 0 (S_.2.2.1 243 0 p_.toNat).toNat (S_.2.2.1 244 0 p_.toNat)) := ai_fr_tr hFx135_ (ai_fr_aI rfl)
          refine sm_T_go 8 (c1 := (174, [some (.inr (.inr (some (13, 0)))), some (.inl c_), some (.inl p_), some (.inl (S_.2.2.1 243 0 p_.toNat)), some (.inl 1)], [.inl p_, .inr (.inr (some (245, 0))), .inl (S_.2.2.1 243 0 p_.toNat), .inr (.inr (some (249, 0)))], sm_aI (sm_aI S_ 247 0 (S_.2.2.1 243 0 p_.toNat).toNat (S_.2.2.1 244 0 p_.toNat)) 248 0 (S_.2.2.1 243 0 p_.toNat).toNat (S_.2.2.1 244 0 p_.toNat))) rfl ?_
          refine sm_T_iald (n := 700) rfl rfl (by omega) (by omega) ?_
          have bx138_ : 0 ≤ S_.2.2.1 245 0 p_.toNat ∧ S_.2.2.1 245 0 p_.toNat ≤ 40 := hI_.2 245 0 _
          refine sm_T_go 1 (c1 := (184, [some (.inr (.inr (some (13, 0)))), some (.inl c_), some (.inl p_), some (.inl (S_.2.2.1 243 0 p_.toNat)), some (.inl 1)], [.inl (S_.2.2.1 245 0 p_.toNat), .inl (S_.2.2.1 243 0 p_.toNat), .inr (.inr (some (249, 0)))], sm_aI (sm_aI S_ 247 0 (S_.2.2.1 243 0 p_.toNat).toNat (S_.2.2.1 244 0 p_.toNat)) 248 0 (S_.2.2.1 243 0 p_.toNat).toNat (S_.2.2.1 244 0 p_.toNat))) rfl ?_
          refine sm_T_iast (n := 256) rfl rfl (by omega) (by omega) ?_
          have hIx139_ : gi (sm_aI (sm_aI (sm_aI S_ 247 0 (S_.2.2.1 243 0 p_.toNat).toNat (S_.2.2.1 244 0 p_.toNat)) 248 0 (S_.2.2.1 243 0 p_.toNat).toNat (S_.2.2.1 244 0 p_.toNat)) 249 0 (S_.2.2.1 243 0 p_.toNat).toNat (S_.2.2.1 245 0 p_.toNat)) := gi_aI hIx136_ (show 0 ≤ (S_.2.2.1 245 0 p_.toNat) ∧ (S_.2.2.1 245 0 p_.toNat) ≤ 40 from ⟨by omega, by omega⟩)
          have hFx140_ : ai_fr (sx_W vw_440) S0_ (sm_aI (sm_aI (sm_aI S_ 247 0 (S_.2.2.1 243 0 p_.toNat).toNat (S_.2.2.1 244 0 p_.toNat)) 248 0 (S_.2.2.1 243 0 p_.toNat).toNat (S_.2.2.1 244 0 p_.toNat)) 249 0 (S_.2.2.1 243 0 p_.toNat).toNat (S_.2.2.1 245 0 p_.toNat)) := ai_fr_tr hFx137_ (ai_fr_aI rfl)
          refine sm_T_go 8 (c1 := (215, [some (.inr (.inr (some (13, 0)))), some (.inl c_), some (.inl p_), some (.inl (S_.2.2.1 243 0 p_.toNat)), some (.inl 1)], [.inl p_, .inr (.inr (some (245, 0))), .inl (S_.2.2.1 243 0 p_.toNat), .inr (.inr (some (250, 0)))], sm_aI (sm_aI (sm_aI S_ 247 0 (S_.2.2.1 243 0 p_.toNat).toNat (S_.2.2.1 244 0 p_.toNat)) 248 0 (S_.2.2.1 243 0 p_.toNat).toNat (S_.2.2.1 244 0 p_.toNat)) 249 0 (S_.2.2.1 243 0 p_.toNat).toNat (S_.2.2.1 245 0 p_.toNat))) rfl ?_
          refine sm_T_iald (n := 700) rfl rfl (by omega) (by omega) ?_
          refine sm_T_go 1 (c1 := (225, [some (.inr (.inr (some (13, 0)))), some (.inl c_), some (.inl p_), some (.inl (S_.2.2.1 243 0 p_.toNat)), some (.inl 1)], [.inl (S_.2.2.1 245 0 p_.toNat), .inl (S_.2.2.1 243 0 p_.toNat), .inr (.inr (some (250, 0)))], sm_aI (sm_aI (sm_aI S_ 247 0 (S_.2.2.1 243 0 p_.toNat).toNat (S_.2.2.1 244 0 p_.toNat)) 248 0 (S_.2.2.1 243 0 p_.toNat).toNat (S_.2.2.1 244 0 p_.toNat)) 249 0 (S_.2.2.1 243 0 p_.toNat).toNat (S_.2.2.1 245 0 p_.toNat))) rfl ?_
          refine sm_T_iast (n := 256) rfl rfl (by omega) (by omega) ?_
          have hIx141_ : gi (sm_aI (sm_aI (sm_aI (sm_aI S_ 247 0 (S_.2.2.1 243 0 p_.toNat).toNat (S_.2.2.1 244 0 p_.toNat)) 248 0 (S_.2.2.1 243 0 p_.toNat).toNat (S_.2.2.1 244 0 p_.toNat)) 249 0 (S_.2.2.1 243 0 p_.toNat).toNat (S_.2.2.1 245 0 p_.toNat)) 250 0 (S_.2.2.1 243 0 p_.toNat).toNat (S_.2.2.1 245 0 p_.toNat)) := gi_aI hIx139_ (show 0 ≤ (S_.2.2.1 245 0 p_.toNat) ∧ (S_.2.2.1 245 0 p_.toNat) ≤ 40 from ⟨by omega, by omega⟩)
          have hFx142_ : ai_fr (sx_W vw_440) S0_ (sm_aI (sm_aI (sm_aI (sm_aI S_ 247 0 (S_.2.2.1 243 0 p_.toNat).toNat (S_.2.2.1 244 0 p_.toNat)) 248 0 (S_.2.2.1 243 0 p_.toNat).toNat (S_.2.2.1 244 0 p_.toNat)) 249 0 (S_.2.2.1 243 0 p_.toNat).toNat (S_.2.2.1 245 0 p_.toNat)) 250 0 (S_.2.2.1 243 0 p_.toNat).toNat (S_.2.2.1 245 0 p_.toNat)) := ai_fr_tr hFx140_ (ai_fr_aI rfl)
          refine sm_T_go 4 (c1 := (232, [some (.inr (.inr (some (13, 0)))), some (.inl c_), some (.inl p_), some (.inl (S_.2.2.1 243 0 p_.toNat)), some (.inl 1)], [.inl (S_.2.2.1 243 0 p_.toNat), .inr (.inr (some (246, 0))), .inl (S_.2.2.1 243 0 p_.toNat), .inr (.inr (some (246, 0)))], sm_aI (sm_aI (sm_aI (sm_aI S_ 247 0 (S_.2.2.1 243 0 p_.toNat).toNat (S_.2.2.1 244 0 p_.toNat)) 248 0 (S_.2.2.1 243 0 p_.toNat).toNat (S_.2.2.1 244 0 p_.toNat)) 249 0 (S_.2.2.1 243 0 p_.toNat).toNat (S_.2.2.1 245 0 p_.toNat)) 250 0 (S_.2.2.1 243 0 p_.toNat).toNat (S_.2.2.1 245 0 p_.toNat))) rfl ?_
          refine sm_T_iald (n := 256) rfl rfl (by omega) (by omega) ?_
          refine sm_T_go 1 (c1 := (234, [some (.inr (.inr (some (13, 0)))), some (.inl c_), some (.inl p_), some (.inl (S_.2.2.1 243 0 p_.toNat)), some (.inl 1)], [.inl 1, .inl (S_.2.2.1 246 0 (S_.2.2.1 243 0 p_.toNat).toNat), .inl (S_.2.2.1 243 0 p_.toNat), .inr (.inr (some (246, 0)))], sm_aI (sm_aI (sm_aI (sm_aI S_ 247 0 (S_.2.2.1 243 0 p_.toNat).toNat (S_.2.2.1 244 0 p_.toNat)) 248 0 (S_.2.2.1 243 0 p_.toNat).toNat (S_.2.2.1 244 0 p_.toNat)) 249 0 (S_.2.2.1 243 0 p_.toNat).toNat (S_.2.2.1 245 0 p_.toNat)) 250 0 (S_.2.2.1 243 0 p_.toNat).toNat (S_.2.2.1 245 0 p_.toNat))) rfl ?_
          refine sm_T_bin (w := (S_.2.2.1 246 0 (S_.2.2.1 243 0 p_.toNat).toNat) + 1) rfl (bi_add (by omega) (by omega) (by omega)) ?_ -- pc_ 234
          refine sm_T_iast (n := 256) rfl rfl (by omega) (by omega) ?_
          have hIx143_ : gi (sm_aI (sm_aI (sm_aI (sm_aI (sm_aI S_ 247 0 (S_.2.2.1 243 0 p_.toNat).toNat (S_.2.2.1 244 0 p_.toNat)) 248 0 (S_.2.2.1 243 0 p_.toNat).toNat (S_.2.2.1 244 0 p_.toNat)) 249 0 (S_.2.2.1 243 0 p_.toNat).toNat (S_.2.2.1 245 0 p_.toNat)) 250 0 (S_.2.2.1 243 0 p_.toNat).toNat (S_.2.2.1 245 0 p_.toNat)) 246 0 (S_.2.2.1 243 0 p_.toNat).toNat ((S_.2.2.1 246 0 (S_.2.2.1 243 0 p_.toNat).toNat) + 1)) := gi_aI hIx141_ (show 0 ≤ (S_.2.2.1 246 0 (S_.2.2.1 243 0 p_.toNat).toNat) + 1 ∧ (S_.2.2.1 246 0 (S_.2.2.1 243 0 p_.toNat).toNat) + 1 ≤ 700 from ⟨by omega, by omega⟩)
          have hFx144_ : ai_fr (sx_W vw_440) S0_ (sm_aI (sm_aI (sm_aI (sm_aI (sm_aI S_ 247 0 (S_.2.2.1 243 0 p_.toNat).toNat (S_.2.2.1 244 0 p_.toNat)) 248 0 (S_.2.2.1 243 0 p_.toNat).toNat (S_.2.2.1 244 0 p_.toNat)) 249 0 (S_.2.2.1 243 0 p_.toNat).toNat (S_.2.2.1 245 0 p_.toNat)) 250 0 (S_.2.2.1 243 0 p_.toNat).toNat (S_.2.2.1 245 0 p_.toNat)) 246 0 (S_.2.2.1 243 0 p_.toNat).toNat ((S_.2.2.1 246 0 (S_.2.2.1 243 0 p_.toNat).toNat) + 1)) := ai_fr_tr hFx142_ (ai_fr_aI rfl)
          refine sm_T_inc (a := 2) (z := 1) (v := p_) (w := p_ + 1) rfl rfl (by omega) (by omega) (by omega) ?_ -- pc_ 236
          refine sm_T_go 1 (c1 := (31, [some (.inr (.inr (some (13, 0)))), some (.inl c_), some (.inl (p_ + 1)), some (.inl (S_.2.2.1 243 0 p_.toNat)), some (.inl 1)], [], sm_aI (sm_aI (sm_aI (sm_aI (sm_aI S_ 247 0 (S_.2.2.1 243 0 p_.toNat).toNat (S_.2.2.1 244 0 p_.toNat)) 248 0 (S_.2.2.1 243 0 p_.toNat).toNat (S_.2.2.1 244 0 p_.toNat)) 249 0 (S_.2.2.1 243 0 p_.toNat).toNat (S_.2.2.1 245 0 p_.toNat)) 250 0 (S_.2.2.1 243 0 p_.toNat).toNat (S_.2.2.1 245 0 p_.toNat)) 246 0 (S_.2.2.1 243 0 p_.toNat).toNat ((S_.2.2.1 246 0 (S_.2.2.1 243 0 p_.toNat).toNat) + 1))) rfl ?_
          refine sm_T_wk [some (.inr (.inr (some (13, 0)))), some (.inl c_), some (.inl (p_ + 1)), none, none] (by exact ⟨rfl, rfl, rfl, trivial⟩) ?_
          refine ih_.2 (p_ + 1) (sm_aI (sm_aI (sm_aI (sm_aI (sm_aI S_ 247 0 (S_.2.2.1 243 0 p_.toNat).toNat (S_.2.2.1 244 0 p_.toNat)) 248 0 (S_.2.2.1 243 0 p_.toNat).toNat (S_.2.2.1 244 0 p_.toNat)) 249 0 (S_.2.2.1 243 0 p_.toNat).toNat (S_.2.2.1 245 0 p_.toNat)) 250 0 (S_.2.2.1 243 0 p_.toNat).toNat (S_.2.2.1 245 0 p_.toNat)) 246 0 (S_.2.2.1 243 0 p_.toNat).toNat ((S_.2.2.1 246 0 (S_.2.2.1 243 0 p_.toNat).toNat) + 1)) hIx143_ hFx144_ ⟨?_, ?_, ?_, ?_, trivial⟩ ?_
          · have r6_ : ∀ j9_, ((sm_aI (sm_aI (sm_aI (sm_aI (sm_aI S_ 247 0 (S_.2.2.1 243 0 p_.toNat).toNat (S_.2.2.1 244 0 p_.toNat)) 248 0 (S_.2.2.1 243 0 p_.toNat).toNat (S_.2.2.1 244 0 p_.toNat)) 249 0 (S_.2.2.1 243 0 p_.toNat).toNat (S_.2.2.1 245 0 p_.toNat)) 250 0 (S_.2.2.1 243 0 p_.toNat).toNat (S_.2.2.1 245 0 p_.toNat)) 246 0 (S_.2.2.1 243 0 p_.toNat).toNat ((S_.2.2.1 246 0 (S_.2.2.1 243 0 p_.toNat).toNat) + 1))).2.2.1 246 0 j9_ = if j9_ = (S_.2.2.1 243 0 p_.toNat).toNat then S_.2.2.1 246 0 (S_.2.2.1 243 0 p_.toNat).toNat + 1 else S_.2.2.1 246 0 j9_ := fun j9_ => by (try simp only [rd_eq, rd_ne, rf_eq, rf_nk, rf_nt, rd_fa, rd_af, rd_fl, rd_al, rd_lf, rd_la, rd_leq, rd_lne, rd_fr, rd_ar, ne_eq, Nat.reduceEqDiff, not_false_eq_true])
            have r3_ : ((sm_aI (sm_aI (sm_aI (sm_aI (sm_aI S_ 247 0 (S_.2.2.1 243 0 p_.toNat).toNat (S_.2.2.1 244 0 p_.toNat)) 248 0 (S_.2.2.1 243 0 p_.toNat).toNat (S_.2.2.1 244 0 p_.toNat)) 249 0 (S_.2.2.1 243 0 p_.toNat).toNat (S_.2.2.1 245 0 p_.toNat)) 250 0 (S_.2.2.1 243 0 p_.toNat).toNat (S_.2.2.1 245 0 p_.toNat)) 246 0 (S_.2.2.1 243 0 p_.toNat).toNat ((S_.2.2.1 246 0 (S_.2.2.1 243 0 p_.toNat).toNat) + 1))).2.2.1 243 0 = S_.2.2.1 243 0 := by (funext j9_; (try simp only [rd_eq, rd_ne, rf_eq, rf_nk, rf_nt, rd_fa, rd_af, rd_fl, rd_al, rd_lf, rd_la, rd_leq, rd_lne, rd_fr, rd_ar, ne_eq, Nat.reduceEqDiff, not_false_eq_true]))
            have r9_ : ((sm_aI (sm_aI (sm_aI (sm_aI (sm_aI S_ 247 0 (S_.2.2.1 243 0 p_.toNat).toNat (S_.2.2.1 244 0 p_.toNat)) 248 0 (S_.2.2.1 243 0 p_.toNat).toNat (S_.2.2.1 244 0 p_.toNat)) 249 0 (S_.2.2.1 243 0 p_.toNat).toNat (S_.2.2.1 245 0 p_.toNat)) 250 0 (S_.2.2.1 243 0 p_.toNat).toNat (S_.2.2.1 245 0 p_.toNat)) 246 0 (S_.2.2.1 243 0 p_.toNat).toNat ((S_.2.2.1 246 0 (S_.2.2.1 243 0 p_.toNat).toNat) + 1))).1 13 0 159 = S_.1 13 0 159 := by (try simp only [rd_eq, rd_ne, rf_eq, rf_nk, rf_nt, rd_fa, rd_af, rd_fl, rd_al, rd_lf, rd_la, rd_leq, rd_lne, rd_fr, rd_ar, ne_eq, Nat.reduceEqDiff, not_false_eq_true])
            rw [r9_]
            omega
          · have r6_ : ∀ j9_, ((sm_aI (sm_aI (sm_aI (sm_aI (sm_aI S_ 247 0 (S_.2.2.1 243 0 p_.toNat).toNat (S_.2.2.1 244 0 p_.toNat)) 248 0 (S_.2.2.1 243 0 p_.toNat).toNat (S_.2.2.1 244 0 p_.toNat)) 249 0 (S_.2.2.1 243 0 p_.toNat).toNat (S_.2.2.1 245 0 p_.toNat)) 250 0 (S_.2.2.1 243 0 p_.toNat).toNat (S_.2.2.1 245 0 p_.toNat)) 246 0 (S_.2.2.1 243 0 p_.toNat).toNat ((S_.2.2.1 246 0 (S_.2.2.1 243 0 p_.toNat).toNat) + 1))).2.2.1 246 0 j9_ = if j9_ = (S_.2.2.1 243 0 p_.toNat).toNat then S_.2.2.1 246 0 (S_.2.2.1 243 0 p_.toNat).toNat + 1 else S_.2.2.1 246 0 j9_ := fun j9_ => by (try simp only [rd_eq, rd_ne, rf_eq, rf_nk, rf_nt, rd_fa, rd_af, rd_fl, rd_al, rd_lf, rd_la, rd_leq, rd_lne, rd_fr, rd_ar, ne_eq, Nat.reduceEqDiff, not_false_eq_true])
            have r3_ : ((sm_aI (sm_aI (sm_aI (sm_aI (sm_aI S_ 247 0 (S_.2.2.1 243 0 p_.toNat).toNat (S_.2.2.1 244 0 p_.toNat)) 248 0 (S_.2.2.1 243 0 p_.toNat).toNat (S_.2.2.1 244 0 p_.toNat)) 249 0 (S_.2.2.1 243 0 p_.toNat).toNat (S_.2.2.1 245 0 p_.toNat)) 250 0 (S_.2.2.1 243 0 p_.toNat).toNat (S_.2.2.1 245 0 p_.toNat)) 246 0 (S_.2.2.1 243 0 p_.toNat).toNat ((S_.2.2.1 246 0 (S_.2.2.1 243 0 p_.toNat).toNat) + 1))).2.2.1 243 0 = S_.2.2.1 243 0 := by (funext j9_; (try simp only [rd_eq, rd_ne, rf_eq, rf_nk, rf_nt, rd_fa, rd_af, rd_fl, rd_al, rd_lf, rd_la, rd_leq, rd_lne, rd_fr, rd_ar, ne_eq, Nat.reduceEqDiff, not_false_eq_true]))
            have r9_ : ((sm_aI (sm_aI (sm_aI (sm_aI (sm_aI S_ 247 0 (S_.2.2.1 243 0 p_.toNat).toNat (S_.2.2.1 244 0 p_.toNat)) 248 0 (S_.2.2.1 243 0 p_.toNat).toNat (S_.2.2.1 244 0 p_.toNat)) 249 0 (S_.2.2.1 243 0 p_.toNat).toNat (S_.2.2.1 245 0 p_.toNat)) 250 0 (S_.2.2.1 243 0 p_.toNat).toNat (S_.2.2.1 245 0 p_.toNat)) 246 0 (S_.2.2.1 243 0 p_.toNat).toNat ((S_.2.2.1 246 0 (S_.2.2.1 243 0 p_.toNat).toNat) + 1))).1 13 0 159 = S_.1 13 0 159 := by (try simp only [rd_eq, rd_ne, rf_eq, rf_nk, rf_nt, rd_fa, rd_af, rd_fl, rd_al, rd_lf, rd_la, rd_leq, rd_lne, rd_fr, rd_ar, ne_eq, Nat.reduceEqDiff, not_false_eq_true])
            intro k9_ k0_ k1_
            rw [r9_] at k1_
            have w9_ := hv_ k9_ k0_ k1_
            (try simp only [rd_eq, rd_ne, rf_eq, rf_nk, rf_nt, rd_fa, rd_af, rd_fl, rd_al, rd_lf, rd_la, rd_leq, rd_lne, rd_fr, rd_ar, ne_eq, Nat.reduceEqDiff, not_false_eq_true])
            exact w9_
          · have r6_ : ∀ j9_, ((sm_aI (sm_aI (sm_aI (sm_aI (sm_aI S_ 247 0 (S_.2.2.1 243 0 p_.toNat).toNat (S_.2.2.1 244 0 p_.toNat)) 248 0 (S_.2.2.1 243 0 p_.toNat).toNat (S_.2.2.1 244 0 p_.toNat)) 249 0 (S_.2.2.1 243 0 p_.toNat).toNat (S_.2.2.1 245 0 p_.toNat)) 250 0 (S_.2.2.1 243 0 p_.toNat).toNat (S_.2.2.1 245 0 p_.toNat)) 246 0 (S_.2.2.1 243 0 p_.toNat).toNat ((S_.2.2.1 246 0 (S_.2.2.1 243 0 p_.toNat).toNat) + 1))).2.2.1 246 0 j9_ = if j9_ = (S_.2.2.1 243 0 p_.toNat).toNat then S_.2.2.1 246 0 (S_.2.2.1 243 0 p_.toNat).toNat + 1 else S_.2.2.1 246 0 j9_ := fun j9_ => by (try simp only [rd_eq, rd_ne, rf_eq, rf_nk, rf_nt, rd_fa, rd_af, rd_fl, rd_al, rd_lf, rd_la, rd_leq, rd_lne, rd_fr, rd_ar, ne_eq, Nat.reduceEqDiff, not_false_eq_true])
            have r3_ : ((sm_aI (sm_aI (sm_aI (sm_aI (sm_aI S_ 247 0 (S_.2.2.1 243 0 p_.toNat).toNat (S_.2.2.1 244 0 p_.toNat)) 248 0 (S_.2.2.1 243 0 p_.toNat).toNat (S_.2.2.1 244 0 p_.toNat)) 249 0 (S_.2.2.1 243 0 p_.toNat).toNat (S_.2.2.1 245 0 p_.toNat)) 250 0 (S_.2.2.1 243 0 p_.toNat).toNat (S_.2.2.1 245 0 p_.toNat)) 246 0 (S_.2.2.1 243 0 p_.toNat).toNat ((S_.2.2.1 246 0 (S_.2.2.1 243 0 p_.toNat).toNat) + 1))).2.2.1 243 0 = S_.2.2.1 243 0 := by (funext j9_; (try simp only [rd_eq, rd_ne, rf_eq, rf_nk, rf_nt, rd_fa, rd_af, rd_fl, rd_al, rd_lf, rd_la, rd_leq, rd_lne, rd_fr, rd_ar, ne_eq, Nat.reduceEqDiff, not_false_eq_true]))
            have r9_ : ((sm_aI (sm_aI (sm_aI (sm_aI (sm_aI S_ 247 0 (S_.2.2.1 243 0 p_.toNat).toNat (S_.2.2.1 244 0 p_.toNat)) 248 0 (S_.2.2.1 243 0 p_.toNat).toNat (S_.2.2.1 244 0 p_.toNat)) 249 0 (S_.2.2.1 243 0 p_.toNat).toNat (S_.2.2.1 245 0 p_.toNat)) 250 0 (S_.2.2.1 243 0 p_.toNat).toNat (S_.2.2.1 245 0 p_.toNat)) 246 0 (S_.2.2.1 243 0 p_.toNat).toNat ((S_.2.2.1 246 0 (S_.2.2.1 243 0 p_.toNat).toNat) + 1))).1 13 0 159 = S_.1 13 0 159 := by (try simp only [rd_eq, rd_ne, rf_eq, rf_nk, rf_nt, rd_fa, rd_af, rd_fl, rd_al, rd_lf, rd_la, rd_leq, rd_lne, rd_fr, rd_ar, ne_eq, Nat.reduceEqDiff, not_false_eq_true])
            intro n9_ h9_ h8_
            rw [r6_]
            have w9_ := hz_ n9_ h9_ h8_
            split
            · omega
            · omega
          · have r6_ : ∀ j9_, ((sm_aI (sm_aI (sm_aI (sm_aI (sm_aI S_ 247 0 (S_.2.2.1 243 0 p_.toNat).toNat (S_.2.2.1 244 0 p_.toNat)) 248 0 (S_.2.2.1 243 0 p_.toNat).toNat (S_.2.2.1 244 0 p_.toNat)) 249 0 (S_.2.2.1 243 0 p_.toNat).toNat (S_.2.2.1 245 0 p_.toNat)) 250 0 (S_.2.2.1 243 0 p_.toNat).toNat (S_.2.2.1 245 0 p_.toNat)) 246 0 (S_.2.2.1 243 0 p_.toNat).toNat ((S_.2.2.1 246 0 (S_.2.2.1 243 0 p_.toNat).toNat) + 1))).2.2.1 246 0 j9_ = if j9_ = (S_.2.2.1 243 0 p_.toNat).toNat then S_.2.2.1 246 0 (S_.2.2.1 243 0 p_.toNat).toNat + 1 else S_.2.2.1 246 0 j9_ := fun j9_ => by (try simp only [rd_eq, rd_ne, rf_eq, rf_nk, rf_nt, rd_fa, rd_af, rd_fl, rd_al, rd_lf, rd_la, rd_leq, rd_lne, rd_fr, rd_ar, ne_eq, Nat.reduceEqDiff, not_false_eq_true])
            have r3_ : ((sm_aI (sm_aI (sm_aI (sm_aI (sm_aI S_ 247 0 (S_.2.2.1 243 0 p_.toNat).toNat (S_.2.2.1 244 0 p_.toNat)) 248 0 (S_.2.2.1 243 0 p_.toNat).toNat (S_.2.2.1 244 0 p_.toNat)) 249 0 (S_.2.2.1 243 0 p_.toNat).toNat (S_.2.2.1 245 0 p_.toNat)) 250 0 (S_.2.2.1 243 0 p_.toNat).toNat (S_.2.2.1 245 0 p_.toNat)) 246 0 (S_.2.2.1 243 0 p_.toNat).toNat ((S_.2.2.1 246 0 (S_.2.2.1 243 0 p_.toNat).toNat) + 1))).2.2.1 243 0 = S_.2.2.1 243 0 := by (funext j9_; (try simp only [rd_eq, rd_ne, rf_eq, rf_nk, rf_nt, rd_fa, rd_af, rd_fl, rd_al, rd_lf, rd_la, rd_leq, rd_lne, rd_fr, rd_ar, ne_eq, Nat.reduceEqDiff, not_false_eq_true]))
            have r9_ : ((sm_aI (sm_aI (sm_aI (sm_aI (sm_aI S_ 247 0 (S_.2.2.1 243 0 p_.toNat).toNat (S_.2.2.1 244 0 p_.toNat)) 248 0 (S_.2.2.1 243 0 p_.toNat).toNat (S_.2.2.1 244 0 p_.toNat)) 249 0 (S_.2.2.1 243 0 p_.toNat).toNat (S_.2.2.1 245 0 p_.toNat)) 250 0 (S_.2.2.1 243 0 p_.toNat).toNat (S_.2.2.1 245 0 p_.toNat)) 246 0 (S_.2.2.1 243 0 p_.toNat).toNat ((S_.2.2.1 246 0 (S_.2.2.1 243 0 p_.toNat).toNat) + 1))).1 13 0 159 = S_.1 13 0 159 := by (try simp only [rd_eq, rd_ne, rf_eq, rf_nk, rf_nt, rd_fa, rd_af, rd_fl, rd_al, rd_lf, rd_la, rd_leq, rd_lne, rd_fr, rd_ar, ne_eq, Nat.reduceEqDiff, not_false_eq_true])
            intro n9_ h9_ h8_ y9_
            rw [r6_] at y9_
            rw [r3_]
            by_cases q9_ : n9_.toNat = (S_.2.2.1 243 0 p_.toNat).toNat
            · exact ⟨p_, by omega, by omega, by omega⟩
            · rw [if_neg q9_] at y9_
              obtain ⟨k9_, u1_, u2_, u3_⟩ := hx_ n9_ h9_ h8_ y9_
              exact ⟨k9_, u1_, by omega, u3_⟩
          · omega
set_option maxHeartbeats 2000000 in
set_option maxRecDepth 20000 in
theorem vc_440 {sc_ : Nat × (Nat → Int)} (c_ : Int) (X_ : Int) (Y_ : Int) (S0_ : sm_S) (hI_ : gi S0_) (hc_ : 0 ≤ c_ ∧ c_ ≤ 3) (hx_ : S0_.2.2.1 223 0 c_.toNat + S0_.2.2.1 224 0 c_.toNat ≤ 12) (hg_ : cgt c_ S0_) (ho_ : con c_ S0_) (hP_ : ple c_ X_ Y_ S0_) : sm_T (mt_P sc_) 3 440 (0, [some (.inr (.inr (some (13, 0)))), some (.inl c_), none, none, none], [], S0_) (fun ro9_ => ∃ u_ S1_, ro9_ = (.inl u_, S1_, 0) ∧ vq_440 c_ X_ Y_ S0_ u_ S1_) := by
  have hF_ : ai_fr (sx_W vw_440) S0_ S0_ := ai_fr_rf
  refine sm_T_go 2 (c1 := (2, [some (.inr (.inr (some (13, 0)))), some (.inl c_), none, none, none], [.inl c_, .inr (.inr (some (13, 0)))], S0_)) rfl ?_
  refine sm_T_cal (d1 := 2) (Q1 := vq_439 c_ X_ Y_ S0_) rfl rfl (by decide) (vc_439 c_ X_ Y_ S0_ hI_ (by exact hc_) (by exact hx_) (by exact hg_) (by exact ho_) (by exact hP_)) (fun u_ Sx1_ px4_ => ?_)
  obtain ⟨rfl, hIx2_, hFx3_, px4_⟩ := px4_
  have hFx5_ : ai_fr (sx_W vw_440) S0_ Sx1_ := ai_fr_tr hF_ (fr_le hFx3_ rfl)
  have v2_ := px4_
  refine sm_T_go 2 (c1 := (7, [some (.inr (.inr (some (13, 0)))), some (.inl c_), some (.inl 0), none, none], [], Sx1_)) rfl ?_
  refine (vl_440 c_ X_ Y_ S0_ hc_ hx_ hg_ ho_ hP_ _).1 0 Sx1_ hIx2_ hFx5_ ⟨?_, ?_, ?_, trivial⟩ (Nat.lt_succ_self _)
  · (have q1_ : 0 ≤ S0_.2.2.1 223 0 c_.toNat ∧ S0_.2.2.1 223 0 c_.toNat ≤ 12 := hI_.2 223 0 _; have q2_ : 0 ≤ S0_.2.2.1 224 0 c_.toNat ∧ S0_.2.2.1 224 0 c_.toNat ≤ 6 := hI_.2 224 0 _; have q3_ : 0 ≤ S0_.2.2.1 228 0 c_.toNat ∧ S0_.2.2.1 228 0 c_.toNat ≤ 150 := hI_.2 228 0 _; omega)
  · exact v2_
  · (intro n9_ h9_ h8_; exfalso; omega)
/-! M_.wireOf -/
def vw_441 : sx_Wl := ([], [], [])
def vq_441 (n_ : Int) (S0_ : sm_S) (u_ : Option sm_V) (S1_ : sm_S) : Prop := S0_ = S1_ ∧ ∃ v_ : Int, u_ = some (.inl v_) ∧ (((-240) ≤ v_ ∧ v_ ≤ 240) ∧ (v_ = (S0_.2.2.1 248 0 n_.toNat) - (S0_.2.2.1 247 0 n_.toNat) + (S0_.2.2.1 250 0 n_.toNat) - (S0_.2.2.1 249 0 n_.toNat)))
set_option maxHeartbeats 400000 in
set_option maxRecDepth 20000 in
theorem vc_441 {sc_ : Nat × (Nat → Int)} (n_ : Int) (S0_ : sm_S) (hI_ : gi S0_) (hn_ : 0 ≤ n_ ∧ n_ ≤ 255) : sm_T (mt_P sc_) 0 441 (0, [some (.inr (.inr (some (13, 0)))), some (.inl n_)], [], S0_) (fun ro9_ => ∃ u_ S1_, ro9_ = (.inl u_, S1_, 0) ∧ vq_441 n_ S0_ u_ S1_) := by
  have hF_ : ai_fr (sx_W vw_441) S0_ S0_ := ai_fr_rf
  refine sm_T_go 3 (c1 := (5, [some (.inr (.inr (some (13, 0)))), some (.inl n_)], [.inl n_, .inr (.inr (some (248, 0)))], S0_)) rfl ?_
  refine sm_T_iald (n := 256) rfl rfl (by omega) (by omega) ?_
  have bx1_ : 0 ≤ S0_.2.2.1 248 0 n_.toNat ∧ S0_.2.2.1 248 0 n_.toNat ≤ 200 := hI_.2 248 0 _
  refine sm_T_go 3 (c1 := (11, [some (.inr (.inr (some (13, 0)))), some (.inl n_)], [.inl n_, .inr (.inr (some (247, 0))), .inl (S0_.2.2.1 248 0 n_.toNat)], S0_)) rfl ?_
  refine sm_T_iald (n := 256) rfl rfl (by omega) (by omega) ?_
  have bx2_ : 0 ≤ S0_.2.2.1 247 0 n_.toNat ∧ S0_.2.2.1 247 0 n_.toNat ≤ 200 := hI_.2 247 0 _
  refine sm_T_bin (w := (S0_.2.2.1 248 0 n_.toNat) - (S0_.2.2.1 247 0 n_.toNat)) rfl (bi_sub (by omega) (by omega) (by omega)) ?_ -- pc_ 12
  refine sm_T_go 3 (c1 := (18, [some (.inr (.inr (some (13, 0)))), some (.inl n_)], [.inl n_, .inr (.inr (some (250, 0))), .inl ((S0_.2.2.1 248 0 n_.toNat) - (S0_.2.2.1 247 0 n_.toNat))], S0_)) rfl ?_
  refine sm_T_iald (n := 256) rfl rfl (by omega) (by omega) ?_
  have bx3_ : 0 ≤ S0_.2.2.1 250 0 n_.toNat ∧ S0_.2.2.1 250 0 n_.toNat ≤ 40 := hI_.2 250 0 _
  refine sm_T_bin (w := (S0_.2.2.1 248 0 n_.toNat) - (S0_.2.2.1 247 0 n_.toNat) + (S0_.2.2.1 250 0 n_.toNat)) rfl (bi_add (by omega) (by omega) (by omega)) ?_ -- pc_ 19
  refine sm_T_go 3 (c1 := (25, [some (.inr (.inr (some (13, 0)))), some (.inl n_)], [.inl n_, .inr (.inr (some (249, 0))), .inl ((S0_.2.2.1 248 0 n_.toNat) - (S0_.2.2.1 247 0 n_.toNat) + (S0_.2.2.1 250 0 n_.toNat))], S0_)) rfl ?_
  refine sm_T_iald (n := 256) rfl rfl (by omega) (by omega) ?_
  have bx4_ : 0 ≤ S0_.2.2.1 249 0 n_.toNat ∧ S0_.2.2.1 249 0 n_.toNat ≤ 40 := hI_.2 249 0 _
  refine sm_T_bin (w := (S0_.2.2.1 248 0 n_.toNat) - (S0_.2.2.1 247 0 n_.toNat) + (S0_.2.2.1 250 0 n_.toNat) - (S0_.2.2.1 249 0 n_.toNat)) rfl (bi_sub (by omega) (by omega) (by omega)) ?_ -- pc_ 26
  refine sm_T_ri rfl ⟨_, _, rfl, rfl, _, rfl, ?_⟩
  first | (refine ⟨⟨?_, ?_⟩, rfl⟩ <;> omega) | omega | (refine ⟨by omega, ?_⟩; omega)
/-! M_.wholeWire -/
def vw_442 : sx_Wl := ([(13, 159)], [243, 244, 245, 246, 247, 248, 249, 250], [])
def vq_442 (c_ : Int) (S0_ : sm_S) (u_ : Option sm_V) (S1_ : sm_S) : Prop := ∃ v_ : Int, u_ = some (.inl v_) ∧ gi S1_ ∧ ai_fr (sx_W vw_442) S0_ S1_ ∧ (-2147483648 ≤ v_ ∧ v_ ≤ 2147483647)
set_option maxHeartbeats 400000 in
set_option maxRecDepth 20000 in
theorem vl_442 {sc_ : Nat × (Nat → Int)} (c_ : Int) (S0_ : sm_S) (hc_ : 0 ≤ c_ ∧ c_ ≤ 3) (hx_ : S0_.2.2.1 223 0 c_.toNat + S0_.2.2.1 224 0 c_.toNat ≤ 12) (hg_ : cgt c_ S0_) (ho_ : con c_ S0_) : ∀ nn_ : Nat, (∀ (s_ : Int) (n_ : Int) (S_ : sm_S), gi S_ → ai_fr (sx_W vw_442) S0_ S_ → ((0 ≤ n_ ∧ n_ ≤ 168 ∧ -300 * n_ ≤ s_ ∧ s_ ≤ 300 * n_) ∧ True) → ((5000 - n_).toNat) < nn_ → sm_T (mt_P sc_) 4 442 (9, [some (.inr (.inr (some (13, 0)))), some (.inl c_), some (.inl s_), some (.inl n_)], [], S_) (fun ro9_ => ∃ u_ S1_, ro9_ = (.inl u_, S1_, 0) ∧ vq_442 c_ S0_ u_ S1_)) := by
  intro nn_
  induction nn_ with
  | zero => exact fun _ _ _ _ _ _ h_ => absurd h_ (Nat.not_lt_zero _)
  | succ nn_ ih_ =>
    rintro s_ n_ S_ hI_ hF_ ⟨h0_, -⟩ hm_
    have cA_ : 0 ≤ S_.2.2.1 223 0 c_.toNat ∧ S_.2.2.1 223 0 c_.toNat ≤ 12 := hI_.2 223 0 _
    have cB_ : 0 ≤ S_.2.2.1 224 0 c_.toNat ∧ S_.2.2.1 224 0 c_.toNat ≤ 6 := hI_.2 224 0 _
    have cG_ : 0 ≤ S_.2.2.1 228 0 c_.toNat ∧ S_.2.2.1 228 0 c_.toNat ≤ 150 := hI_.2 228 0 _
    have f223_ : S_.2.2.1 223 0 = S0_.2.2.1 223 0 := fr_arr hF_ rfl
    have f224_ : S_.2.2.1 224 0 = S0_.2.2.1 224 0 := fr_arr hF_ rfl
    have x223_ : S_.2.2.1 223 0 c_.toNat = S0_.2.2.1 223 0 c_.toNat := congrFun f223_ _
    have x224_ : S_.2.2.1 224 0 c_.toNat = S0_.2.2.1 224 0 c_.toNat := congrFun f224_ _
    refine sm_T_go 3 (c1 := (12, [some (.inr (.inr (some (13, 0)))), some (.inl c_), some (.inl s_), some (.inl n_)], [.inl c_, .inr (.inr (some (13, 0))), .inl n_], S_)) rfl ?_
    refine sm_T_cal (d1 := 0) (Q1 := vq_422 c_ S_) rfl rfl (by decide) (vc_422 c_ S_ hI_ (by omega)) (fun u_ Sx1_ px4_ => ?_)
    obtain ⟨rfl, vx6_, rfl, px4_⟩ := px4_
    refine sm_T_br (a := 3) (z := 17) rfl (fun cx7_ => ?_) (fun cx7_ => ?_)
    · have cx7_ : vx6_ ≤ n_ := of_decide_eq_true cx7_
      refine sm_T_go 1 (c1 := (33, [some (.inr (.inr (some (13, 0)))), some (.inl c_), some (.inl s_), some (.inl n_)], [.inl s_], S_)) rfl ?_
      refine sm_T_ri rfl ⟨_, _, rfl, _, rfl, hI_, hF_, ?_⟩
      omega
    · have cx7_ : ¬ (vx6_ ≤ n_) := of_decide_eq_false cx7_
      refine sm_T_go 3 (c1 := (21, [some (.inr (.inr (some (13, 0)))), some (.inl c_), some (.inl s_), some (.inl n_)], [.inl n_, .inr (.inr (some (13, 0))), .inl s_], S_)) rfl ?_
      refine sm_T_cal (d1 := 0) (Q1 := vq_441 n_ S_) rfl rfl (by decide) (vc_441 n_ S_ hI_ (by omega)) (fun u_ Sx8_ px11_ => ?_)
      obtain ⟨rfl, vx13_, rfl, px11_⟩ := px11_
      refine sm_T_bin (w := s_ + vx13_) rfl (bi_add (by omega) (by omega) (by omega)) ?_ -- pc_ 24
      refine sm_T_go 1 (c1 := (26, [some (.inr (.inr (some (13, 0)))), some (.inl c_), some (.inl (s_ + vx13_)), some (.inl n_)], [], S_)) rfl ?_
      refine sm_T_inc (a := 3) (z := 1) (v := n_) (w := n_ + 1) rfl rfl (by omega) (by omega) (by omega) ?_ -- pc_ 26
      refine sm_T_go 1 (c1 := (9, [some (.inr (.inr (some (13, 0)))), some (.inl c_), some (.inl (s_ + vx13_)), some (.inl (n_ + 1))], [], S_)) rfl ?_
      refine ih_ (s_ + vx13_) (n_ + 1) S_ hI_ hF_ ⟨?_, trivial⟩ ?_
      · omega
      · omega
set_option maxHeartbeats 400000 in
set_option maxRecDepth 20000 in
theorem vc_442 {sc_ : Nat × (Nat → Int)} (c_ : Int) (S0_ : sm_S) (hI_ : gi S0_) (hc_ : 0 ≤ c_ ∧ c_ ≤ 3) (hx_ : S0_.2.2.1 223 0 c_.toNat + S0_.2.2.1 224 0 c_.toNat ≤ 12) (hg_ : cgt c_ S0_) (ho_ : con c_ S0_) : sm_T (mt_P sc_) 4 442 (0, [some (.inr (.inr (some (13, 0)))), some (.inl c_), none, none], [], S0_) (fun ro9_ => ∃ u_ S1_, ro9_ = (.inl u_, S1_, 0) ∧ vq_442 c_ S0_ u_ S1_) := by
  have hF_ : ai_fr (sx_W vw_442) S0_ S0_ := ai_fr_rf
  refine sm_T_go 2 (c1 := (2, [some (.inr (.inr (some (13, 0)))), some (.inl c_), none, none], [.inl c_, .inr (.inr (some (13, 0)))], S0_)) rfl ?_
  refine sm_T_cal (d1 := 3) (Q1 := vq_440 c_ 300 300 S0_) rfl rfl (by decide) (vc_440 c_ 300 300 S0_ hI_ (by exact hc_) (by exact hx_) (by exact hg_) (by exact ho_) (by exact ple_any hI_)) (fun u_ Sx1_ px4_ => ?_)
  obtain ⟨rfl, hIx2_, hFx3_, px4_⟩ := px4_
  have hFx5_ : ai_fr (sx_W vw_442) S0_ Sx1_ := ai_fr_tr hF_ (fr_le hFx3_ rfl)
  refine sm_T_go 4 (c1 := (9, [some (.inr (.inr (some (13, 0)))), some (.inl c_), some (.inl 0), some (.inl 0)], [], Sx1_)) rfl ?_
  refine (vl_442 c_ S0_ hc_ hx_ hg_ ho_ _) 0 0 Sx1_ hIx2_ hFx5_ ⟨?_, trivial⟩ (Nat.lt_succ_self _)
  · omega
/-! M_.exchange -/
def vw_448 : sx_Wl := ([], [241, 242], [])
def vq_448 (c_ : Int) (i_ : Int) (j_ : Int) (S0_ : sm_S) (u_ : Option sm_V) (S1_ : sm_S) : Prop := u_ = none ∧ gi S1_ ∧ ai_fr (sx_W vw_448) S0_ S1_ ∧ (rcf c_.toNat S0_ S1_ ∧ (xcg (156 * c_ + i_).toNat (156 * c_ + j_).toNat S0_ S1_))
set_option maxHeartbeats 400000 in
set_option maxRecDepth 20000 in
theorem vc_448 {sc_ : Nat × (Nat → Int)} (c_ : Int) (i_ : Int) (j_ : Int) (S0_ : sm_S) (hI_ : gi S0_) (hc_ : 0 ≤ c_ ∧ c_ ≤ 3) (hi_ : 0 ≤ i_ ∧ i_ ≤ 155) (hj_ : 0 ≤ j_ ∧ j_ ≤ 155) : sm_T (mt_P sc_) 0 448 (0, [some (.inr (.inr (some (13, 0)))), some (.inl c_), some (.inl i_), some (.inl j_), none, none], [], S0_) (fun ro9_ => ∃ u_ S1_, ro9_ = (.inl u_, S1_, 0) ∧ vq_448 c_ i_ j_ S0_ u_ S1_) := by
  have hF_ : ai_fr (sx_W vw_448) S0_ S0_ := ai_fr_rf
  have hK_ : rcf c_.toNat S0_ S0_ := rcf_rf
  refine sm_T_go 4 (c1 := (8, [some (.inr (.inr (some (13, 0)))), some (.inl c_), some (.inl i_), some (.inl j_), none, none], [.inl c_, .inl 156, .inr (.inr (some (241, 0)))], S0_)) rfl ?_
  refine sm_T_bin (w := 156 * c_) rfl (bi_mul (by omega) (by omega) (by omega)) ?_ -- pc_ 8
  refine sm_T_go 1 (c1 := (10, [some (.inr (.inr (some (13, 0)))), some (.inl c_), some (.inl i_), some (.inl j_), none, none], [.inl i_, .inl (156 * c_), .inr (.inr (some (241, 0)))], S0_)) rfl ?_
  refine sm_T_bin (w := 156 * c_ + i_) rfl (bi_add (by omega) (by omega) (by omega)) ?_ -- pc_ 10
  refine sm_T_iald (n := 624) rfl rfl (by omega) (by omega) ?_
  have bx1_ : 0 ≤ S0_.2.2.1 241 0 (156 * c_ + i_).toNat ∧ S0_.2.2.1 241 0 (156 * c_ + i_).toNat ≤ 60 := hI_.2 241 0 _
  refine sm_T_go 5 (c1 := (22, [some (.inr (.inr (some (13, 0)))), some (.inl c_), some (.inl i_), some (.inl j_), some (.inl (S0_.2.2.1 241 0 (156 * c_ + i_).toNat)), none], [.inl c_, .inl 156, .inr (.inr (some (242, 0)))], S0_)) rfl ?_
  refine sm_T_bin (w := 156 * c_) rfl (bi_mul (by omega) (by omega) (by omega)) ?_ -- pc_ 22
  refine sm_T_go 1 (c1 := (24, [some (.inr (.inr (some (13, 0)))), some (.inl c_), some (.inl i_), some (.inl j_), some (.inl (S0_.2.2.1 241 0 (156 * c_ + i_).toNat)), none], [.inl i_, .inl (156 * c_), .inr (.inr (some (242, 0)))], S0_)) rfl ?_
  refine sm_T_bin (w := 156 * c_ + i_) rfl (bi_add (by omega) (by omega) (by omega)) ?_ -- pc_ 24
  refine sm_T_iald (n := 624) rfl rfl (by omega) (by omega) ?_
  have bx2_ : 0 ≤ S0_.2.2.1 242 0 (156 * c_ + i_).toNat ∧ S0_.2.2.1 242 0 (156 * c_ + i_).toNat ≤ 12 := hI_.2 242 0 _
  refine sm_T_go 5 (c1 := (36, [some (.inr (.inr (some (13, 0)))), some (.inl c_), some (.inl i_), some (.inl j_), some (.inl (S0_.2.2.1 241 0 (156 * c_ + i_).toNat)), some (.inl (S0_.2.2.1 242 0 (156 * c_ + i_).toNat))], [.inl c_, .inl 156, .inr (.inr (some (241, 0)))], S0_)) rfl ?_
  refine sm_T_bin (w := 156 * c_) rfl (bi_mul (by omega) (by omega) (by omega)) ?_ -- pc_ 36
  refine sm_T_go 1 (c1 := (38, [some (.inr (.inr (some (13, 0)))), some (.inl c_), some (.inl i_), some (.inl j_), some (.inl (S0_.2.2.1 241 0 (156 * c_ + i_).toNat)), some (.inl (S0_.2.2.1 242 0 (156 * c_ + i_).toNat))], [.inl i_, .inl (156 * c_), .inr (.inr (some (241, 0)))], S0_)) rfl ?_
  refine sm_T_bin (w := 156 * c_ + i_) rfl (bi_add (by omega) (by omega) (by omega)) ?_ -- pc_ 38
  refine sm_T_go 4 (c1 := (47, [some (.inr (.inr (some (13, 0)))), some (.inl c_), some (.inl i_), some (.inl j_), some (.inl (S0_.2.2.1 241 0 (156 * c_ + i_).toNat)), some (.inl (S0_.2.2.1 242 0 (156 * c_ + i_).toNat))], [.inl c_, .inl 156, .inr (.inr (some (241, 0))), .inl (156 * c_ + i_), .inr (.inr (some (241, 0)))], S0_)) rfl ?_
  refine sm_T_bin (w := 156 * c_) rfl (bi_mul (by omega) (by omega) (by omega)) ?_ -- pc_ 47
  refine sm_T_go 1 (c1 := (49, [some (.inr (.inr (some (13, 0)))), some (.inl c_), some (.inl i_), some (.inl j_), some (.inl (S0_.2.2.1 241 0 (156 * c_ + i_).toNat)), some (.inl (S0_.2.2.1 242 0 (156 * c_ + i_).toNat))], [.inl j_, .inl (156 * c_), .inr (.inr (some (241, 0))), .inl (156 * c_ + i_), .inr (.inr (some (241, 0)))], S0_)) rfl ?_
  refine sm_T_bin (w := 156 * c_ + j_) rfl (bi_add (by omega) (by omega) (by omega)) ?_ -- pc_ 49
  refine sm_T_iald (n := 624) rfl rfl (by omega) (by omega) ?_
  have bx3_ : 0 ≤ S0_.2.2.1 241 0 (156 * c_ + j_).toNat ∧ S0_.2.2.1 241 0 (156 * c_ + j_).toNat ≤ 60 := hI_.2 241 0 _
  refine sm_T_iast (n := 624) rfl rfl (by omega) (by omega) ?_
  have hIx4_ : gi (sm_aI S0_ 241 0 (156 * c_ + i_).toNat (S0_.2.2.1 241 0 (156 * c_ + j_).toNat)) := gi_aI hI_ (show 0 ≤ (S0_.2.2.1 241 0 (156 * c_ + j_).toNat) ∧ (S0_.2.2.1 241 0 (156 * c_ + j_).toNat) ≤ 60 from ⟨by omega, by omega⟩)
  have hFx5_ : ai_fr (sx_W vw_448) S0_ (sm_aI S0_ 241 0 (156 * c_ + i_).toNat (S0_.2.2.1 241 0 (156 * c_ + j_).toNat)) := ai_fr_tr hF_ (ai_fr_aI rfl)
  have hKx6_ : rcf c_.toNat S0_ (sm_aI S0_ 241 0 (156 * c_ + i_).toNat (S0_.2.2.1 241 0 (156 * c_ + j_).toNat)) := rcf_aI hK_ (Or.inr (by rw [show rcs 241 = 156 from rfl]; omega))
  refine sm_T_go 4 (c1 := (60, [some (.inr (.inr (some (13, 0)))), some (.inl c_), some (.inl i_), some (.inl j_), some (.inl (S0_.2.2.1 241 0 (156 * c_ + i_).toNat)), some (.inl (S0_.2.2.1 242 0 (156 * c_ + i_).toNat))], [.inl c_, .inl 156, .inr (.inr (some (242, 0)))], sm_aI S0_ 241 0 (156 * c_ + i_).toNat (S0_.2.2.1 241 0 (156 * c_ + j_).toNat))) rfl ?_
  refine sm_T_bin (w := 156 * c_) rfl (bi_mul (by omega) (by omega) (by omega)) ?_ -- pc_ 60
  refine sm_T_go 1 (c1 := (62, [some (.inr (.inr (some (13, 0)))), some (.inl c_), some (.inl i_), some (.inl j_), some (.inl (S0_.2.2.1 241 0 (156 * c_ + i_).toNat)), some (.inl (S0_.2.2.1 242 0 (156 * c_ + i_).toNat))], [.inl i_, .inl (156 * c_), .inr (.inr (some (242, 0)))], sm_aI S0_ 241 0 (156 * c_ + i_).toNat (S0_.2.2.1 241 0 (156 * c_ + j_).toNat))) rfl ?_
  refine sm_T_bin (w := 156 * c_ + i_) rfl (bi_add (by omega) (by omega) (by omega)) ?_ -- pc_ 62
  refine sm_T_go 4 (c1 := (71, [some (.inr (.inr (some (13, 0)))), some (.inl c_), some (.inl i_), some (.inl j_), some (.inl (S0_.2.2.1 241 0 (156 * c_ + i_).toNat)), some (.inl (S0_.2.2.1 242 0 (156 * c_ + i_).toNat))], [.inl c_, .inl 156, .inr (.inr (some (242, 0))), .inl (156 * c_ + i_), .inr (.inr (some (242, 0)))], sm_aI S0_ 241 0 (156 * c_ + i_).toNat (S0_.2.2.1 241 0 (156 * c_ + j_).toNat))) rfl ?_
  refine sm_T_bin (w := 156 * c_) rfl (bi_mul (by omega) (by omega) (by omega)) ?_ -- pc_ 71
  refine sm_T_go 1 (c1 := (73, [some (.inr (.inr (some (13, 0)))), some (.inl c_), some (.inl i_), some (.inl j_), some (.inl (S0_.2.2.1 241 0 (156 * c_ + i_).toNat)), some (.inl (S0_.2.2.1 242 0 (156 * c_ + i_).toNat))], [.inl j_, .inl (156 * c_), .inr (.inr (some (242, 0))), .inl (156 * c_ + i_), .inr (.inr (some (242, 0)))], sm_aI S0_ 241 0 (156 * c_ + i_).toNat (S0_.2.2.1 241 0 (156 * c_ + j_).toNat))) rfl ?_
  refine sm_T_bin (w := 156 * c_ + j_) rfl (bi_add (by omega) (by omega) (by omega)) ?_ -- pc_ 73
  refine sm_T_iald (n := 624) rfl rfl (by omega) (by omega) ?_
  have bx7_ : 0 ≤ S0_.2.2.1 242 0 (156 * c_ + j_).toNat ∧ S0_.2.2.1 242 0 (156 * c_ + j_).toNat ≤ 12 := hI_.2 242 0 _
  refine sm_T_go 0 (c1 := (75, [some (.inr (.inr (some (13, 0)))), some (.inl c_), some (.inl i_), some (.inl j_), some (.inl (S0_.2.2.1 241 0 (156 * c_ + i_).toNat)), some (.inl (S0_.2.2.1 242 0 (156 * c_ + i_).toNat))], [.inl (S0_.2.2.1 242 0 (156 * c_ + j_).toNat), .inl (156 * c_ + i_), .inr (.inr (some (242, 0)))], sm_aI S0_ 241 0 (156 * c_ + i_).toNat (S0_.2.2.1 241 0 (156 * c_ + j_).toNat))) rfl ?_
  refine sm_T_iast (n := 624) rfl rfl (by omega) (by omega) ?_
  have hIx8_ : gi (sm_aI (sm_aI S0_ 241 0 (156 * c_ + i_).toNat (S0_.2.2.1 241 0 (156 * c_ + j_).toNat)) 242 0 (156 * c_ + i_).toNat (S0_.2.2.1 242 0 (156 * c_ + j_).toNat)) := gi_aI hIx4_ (show 0 ≤ (S0_.2.2.1 242 0 (156 * c_ + j_).toNat) ∧ (S0_.2.2.1 242 0 (156 * c_ + j_).toNat) ≤ 12 from ⟨by omega, by omega⟩)
  have hFx9_ : ai_fr (sx_W vw_448) S0_ (sm_aI (sm_aI S0_ 241 0 (156 * c_ + i_).toNat (S0_.2.2.1 241 0 (156 * c_ + j_).toNat)) 242 0 (156 * c_ + i_).toNat (S0_.2.2.1 242 0 (156 * c_ + j_).toNat)) := ai_fr_tr hFx5_ (ai_fr_aI rfl)
  have hKx10_ : rcf c_.toNat S0_ (sm_aI (sm_aI S0_ 241 0 (156 * c_ + i_).toNat (S0_.2.2.1 241 0 (156 * c_ + j_).toNat)) 242 0 (156 * c_ + i_).toNat (S0_.2.2.1 242 0 (156 * c_ + j_).toNat)) := rcf_aI hKx6_ (Or.inr (by rw [show rcs 242 = 156 from rfl]; omega))
  refine sm_T_go 4 (c1 := (84, [some (.inr (.inr (some (13, 0)))), some (.inl c_), some (.inl i_), some (.inl j_), some (.inl (S0_.2.2.1 241 0 (156 * c_ + i_).toNat)), some (.inl (S0_.2.2.1 242 0 (156 * c_ + i_).toNat))], [.inl c_, .inl 156, .inr (.inr (some (241, 0)))], sm_aI (sm_aI S0_ 241 0 (156 * c_ + i_).toNat (S0_.2.2.1 241 0 (156 * c_ + j_).toNat)) 242 0 (156 * c_ + i_).toNat (S0_.2.2.1 242 0 (156 * c_ + j_).toNat))) rfl ?_
  refine sm_T_bin (w := 156 * c_) rfl (bi_mul (by omega) (by omega) (by omega)) ?_ -- pc_ 84
  refine sm_T_go 1 (c1 := (86, [some (.inr (.inr (some (13, 0)))), some (.inl c_), some (.inl i_), some (.inl j_), some (.inl (S0_.2.2.1 241 0 (156 * c_ + i_).toNat)), some (.inl (S0_.2.2.1 242 0 (156 * c_ + i_).toNat))], [.inl j_, .inl (156 * c_), .inr (.inr (some (241, 0)))], sm_aI (sm_aI S0_ 241 0 (156 * c_ + i_).toNat (S0_.2.2.1 241 0 (156 * c_ + j_).toNat)) 242 0 (156 * c_ + i_).toNat (S0_.2.2.1 242 0 (156 * c_ + j_).toNat))) rfl ?_
  refine sm_T_bin (w := 156 * c_ + j_) rfl (bi_add (by omega) (by omega) (by omega)) ?_ -- pc_ 86
  refine sm_T_go 1 (c1 := (89, [some (.inr (.inr (some (13, 0)))), some (.inl c_), some (.inl i_), some (.inl j_), some (.inl (S0_.2.2.1 241 0 (156 * c_ + i_).toNat)), some (.inl (S0_.2.2.1 242 0 (156 * c_ + i_).toNat))], [.inl (S0_.2.2.1 241 0 (156 * c_ + i_).toNat), .inl (156 * c_ + j_), .inr (.inr (some (241, 0)))], sm_aI (sm_aI S0_ 241 0 (156 * c_ + i_).toNat (S0_.2.2.1 241 0 (156 * c_ + j_).toNat)) 242 0 (156 * c_ + i_).toNat (S0_.2.2.1 242 0 (156 * c_ + j_).toNat))) rfl ?_
  refine sm_T_iast (n := 624) rfl rfl (by omega) (by omega) ?_
  have hIx11_ : gi (sm_aI (sm_aI (sm_aI S0_ 241 0 (156 * c_ + i_).toNat (S0_.2.2.1 241 0 (156 * c_ + j_).toNat)) 242 0 (156 * c_ + i_).toNat (S0_.2.2.1 242 0 (156 * c_ + j_).toNat)) 241 0 (156 * c_ + j_).toNat (S0_.2.2.1 241 0 (156 * c_ + i_).toNat)) := gi_aI hIx8_ (show 0 ≤ (S0_.2.2.1 241 0 (156 * c_ + i_).toNat) ∧ (S0_.2.2.1 241 0 (156 * c_ + i_).toNat) ≤ 60 from ⟨by omega, by omega⟩)
  have hFx12_ : ai_fr (sx_W vw_448) S0_ (sm_aI (sm_aI (sm_aI S0_ 241 0 (156 * c_ + i_).toNat (S0_.2.2.1 241 0 (156 * c_ + j_).toNat)) 242 0 (156 * c_ + i_).toNat (S0_.2.2.1 242 0 (156 * c_ + j_).toNat)) 241 0 (156 * c_ + j_).toNat (S0_.2.2.1 241 0 (156 * c_ + i_).toNat)) := ai_fr_tr hFx9_ (ai_fr_aI rfl)
  have hKx13_ : rcf c_.toNat S0_ (sm_aI (sm_aI (sm_aI S0_ 241 0 (156 * c_ + i_).toNat (S0_.2.2.1 241 0 (156 * c_ + j_).toNat)) 242 0 (156 * c_ + i_).toNat (S0_.2.2.1 242 0 (156 * c_ + j_).toNat)) 241 0 (156 * c_ + j_).toNat (S0_.2.2.1 241 0 (156 * c_ + i_).toNat)) := rcf_aI hKx10_ (Or.inr (by rw [show rcs 241 = 156 from rfl]; omega))
  refine sm_T_go 4 (c1 := (98, [some (.inr (.inr (some (13, 0)))), some (.inl c_), some (.inl i_), some (.inl j_), some (.inl (S0_.2.2.1 241 0 (156 * c_ + i_).toNat)), some (.inl (S0_.2.2.1 242 0 (156 * c_ + i_).toNat))], [.inl c_, .inl 156, .inr (.inr (some (242, 0)))], sm_aI (sm_aI (sm_aI S0_ 241 0 (156 * c_ + i_).toNat (S0_.2.2.1 241 0 (156 * c_ + j_).toNat)) 242 0 (156 * c_ + i_).toNat (S0_.2.2.1 242 0 (156 * c_ + j_).toNat)) 241 0 (156 * c_ + j_).toNat (S0_.2.2.1 241 0 (156 * c_ + i_).toNat))) rfl ?_
  refine sm_T_bin (w := 156 * c_) rfl (bi_mul (by omega) (by omega) (by omega)) ?_ -- pc_ 98
  refine sm_T_go 1 (c1 := (100, [some (.inr (.inr (some (13, 0)))), some (.inl c_), some (.inl i_), some (.inl j_), some (.inl (S0_.2.2.1 241 0 (156 * c_ + i_).toNat)), some (.inl (S0_.2.2.1 242 0 (156 * c_ + i_).toNat))], [.inl j_, .inl (156 * c_), .inr (.inr (some (242, 0)))], sm_aI (sm_aI (sm_aI S0_ 241 0 (156 * c_ + i_).toNat (S0_.2.2.1 241 0 (156 * c_ + j_).toNat)) 242 0 (156 * c_ + i_).toNat (S0_.2.2.1 242 0 (156 * c_ + j_).toNat)) 241 0 (156 * c_ + j_).toNat (S0_.2.2.1 241 0 (156 * c_ + i_).toNat))) rfl ?_
  refine sm_T_bin (w := 156 * c_ + j_) rfl (bi_add (by omega) (by omega) (by omega)) ?_ -- pc_ 100
  refine sm_T_go 1 (c1 := (103, [some (.inr (.inr (some (13, 0)))), some (.inl c_), some (.inl i_), some (.inl j_), some (.inl (S0_.2.2.1 241 0 (156 * c_ + i_).toNat)), some (.inl (S0_.2.2.1 242 0 (156 * c_ + i_).toNat))], [.inl (S0_.2.2.1 242 0 (156 * c_ + i_).toNat), .inl (156 * c_ + j_), .inr (.inr (some (242, 0)))], sm_aI (sm_aI (sm_aI S0_ 241 0 (156 * c_ + i_).toNat (S0_.2.2.1 241 0 (156 * c_ + j_).toNat)) 242 0 (156 * c_ + i_).toNat (S0_.2.2.1 242 0 (156 * c_ + j_).toNat)) 241 0 (156 * c_ + j_).toNat (S0_.2.2.1 241 0 (156 * c_ + i_).toNat))) rfl ?_
  refine sm_T_iast (n := 624) rfl rfl (by omega) (by omega) ?_
  have hIx14_ : gi (sm_aI (sm_aI (sm_aI (sm_aI S0_ 241 0 (156 * c_ + i_).toNat (S0_.2.2.1 241 0 (156 * c_ + j_).toNat)) 242 0 (156 * c_ + i_).toNat (S0_.2.2.1 242 0 (156 * c_ + j_).toNat)) 241 0 (156 * c_ + j_).toNat (S0_.2.2.1 241 0 (156 * c_ + i_).toNat)) 242 0 (156 * c_ + j_).toNat (S0_.2.2.1 242 0 (156 * c_ + i_).toNat)) := gi_aI hIx11_ (show 0 ≤ (S0_.2.2.1 242 0 (156 * c_ + i_).toNat) ∧ (S0_.2.2.1 242 0 (156 * c_ + i_).toNat) ≤ 12 from ⟨by omega, by omega⟩)
  have hFx15_ : ai_fr (sx_W vw_448) S0_ (sm_aI (sm_aI (sm_aI (sm_aI S0_ 241 0 (156 * c_ + i_).toNat (S0_.2.2.1 241 0 (156 * c_ + j_).toNat)) 242 0 (156 * c_ + i_).toNat (S0_.2.2.1 242 0 (156 * c_ + j_).toNat)) 241 0 (156 * c_ + j_).toNat (S0_.2.2.1 241 0 (156 * c_ + i_).toNat)) 242 0 (156 * c_ + j_).toNat (S0_.2.2.1 242 0 (156 * c_ + i_).toNat)) := ai_fr_tr hFx12_ (ai_fr_aI rfl)
  have hKx16_ : rcf c_.toNat S0_ (sm_aI (sm_aI (sm_aI (sm_aI S0_ 241 0 (156 * c_ + i_).toNat (S0_.2.2.1 241 0 (156 * c_ + j_).toNat)) 242 0 (156 * c_ + i_).toNat (S0_.2.2.1 242 0 (156 * c_ + j_).toNat)) 241 0 (156 * c_ + j_).toNat (S0_.2.2.1 241 0 (156 * c_ + i_).toNat)) 242 0 (156 * c_ + j_).toNat (S0_.2.2.1 242 0 (156 * c_ + i_).toNat)) := rcf_aI hKx13_ (Or.inr (by rw [show rcs 242 = 156 from rfl]; omega))
  refine sm_T_rv rfl ⟨_, _, rfl, rfl, hIx14_, hFx15_, ?_⟩
  refine ⟨hKx16_, ?_⟩
  intro t_ ht_ k9_
  rcases ht_ with ht_ | ht_ <;> subst ht_ <;> (try simp only [rd_eq, rd_ne, rf_eq, rf_nk, rf_nt, rd_fa, rd_af, rd_fl, rd_al, rd_lf, rd_la, rd_leq, rd_lne, rd_fr, rd_ar, ne_eq, Nat.reduceEqDiff, not_false_eq_true])
/-! M_.isElement -/
def vw_445 : sx_Wl := ([], [], [])
def vq_445 (c_ : Int) (e_ : Int) (S0_ : sm_S) (u_ : Option sm_V) (S1_ : sm_S) : Prop := S0_ = S1_ ∧ ∃ v_ : Int, u_ = some (.inl v_) ∧ (((-2147483648) ≤ v_ ∧ v_ ≤ 2147483647) ∧ ((v_ = 1 ∧ 0 ≤ c_ ∧ c_ < 4 ∧ S0_.2.2.1 222 0 c_.toNat = 1 ∧ 0 ≤ e_ ∧ e_ < 156 ∧ e_ < S0_.2.2.1 224 0 c_.toNat + S0_.2.2.1 228 0 c_.toNat) ∨ v_ = 0))
set_option maxHeartbeats 400000 in
set_option maxRecDepth 20000 in
theorem vc_445 {sc_ : Nat × (Nat → Int)} (c_ : Int) (e_ : Int) (S0_ : sm_S) (hI_ : gi S0_) (hc_ : (-2147483648) ≤ c_ ∧ c_ ≤ 2147483647) (he_ : (-2147483648) ≤ e_ ∧ e_ ≤ 2147483647) : sm_T (mt_P sc_) 1 445 (0, [some (.inr (.inr (some (13, 0)))), some (.inl c_), some (.inl e_)], [], S0_) (fun ro9_ => ∃ u_ S1_, ro9_ = (.inl u_, S1_, 0) ∧ vq_445 c_ e_ S0_ u_ S1_) := by
  have hF_ : ai_fr (sx_W vw_445) S0_ S0_ := ai_fr_rf
  refine sm_T_go 2 (c1 := (2, [some (.inr (.inr (some (13, 0)))), some (.inl c_), some (.inl e_)], [.inl c_, .inr (.inr (some (13, 0)))], S0_)) rfl ?_
  refine sm_T_cal (d1 := 0) (Q1 := vq_371 c_ S0_) rfl rfl (by decide) (vc_371 c_ S0_ hI_ (by omega)) (fun u_ Sx1_ px4_ => ?_)
  obtain ⟨rfl, vx6_, rfl, px4_⟩ := px4_
  refine sm_T_b0 (a := 0) (z := 20) rfl (fun cx7_ => ?_) (fun cx7_ => ?_)
  · have cx7_ : vx6_ = 0 := of_decide_eq_true cx7_
    refine sm_T_go 1 (c1 := (26, [some (.inr (.inr (some (13, 0)))), some (.inl c_), some (.inl e_)], [.inl 0], S0_)) rfl ?_
    refine sm_T_rz rfl (by omega) ⟨_, _, rfl, rfl, _, rfl, ?_⟩
    refine ⟨⟨by omega, by omega⟩, ?_⟩
    omega
  · have cx7_ : ¬ (vx6_ = 0) := of_decide_eq_false cx7_
    refine sm_T_go 1 (c1 := (9, [some (.inr (.inr (some (13, 0)))), some (.inl c_), some (.inl e_)], [.inl e_], S0_)) rfl ?_
    refine sm_T_b0 (a := 2) (z := 16) rfl (fun cx8_ => ?_) (fun cx8_ => ?_)
    · have cx8_ : e_ < 0 := of_decide_eq_true cx8_
      refine sm_T_go 1 (c1 := (26, [some (.inr (.inr (some (13, 0)))), some (.inl c_), some (.inl e_)], [.inl 0], S0_)) rfl ?_
      refine sm_T_rz rfl (by omega) ⟨_, _, rfl, rfl, _, rfl, ?_⟩
      refine ⟨⟨by omega, by omega⟩, ?_⟩
      omega
    · have cx8_ : ¬ (e_ < 0) := of_decide_eq_false cx8_
      refine sm_T_go 3 (c1 := (15, [some (.inr (.inr (some (13, 0)))), some (.inl c_), some (.inl e_)], [.inl c_, .inr (.inr (some (13, 0))), .inl e_], S0_)) rfl ?_
      refine sm_T_cal (d1 := 0) (Q1 := vq_423 c_ S0_) rfl rfl (by decide) (vc_423 c_ S0_ hI_ (by omega)) (fun u_ Sx9_ px12_ => ?_)
      obtain ⟨rfl, vx14_, rfl, px12_⟩ := px12_
      refine sm_T_br (a := 3) (z := 7) rfl (fun cx15_ => ?_) (fun cx15_ => ?_)
      · have cx15_ : vx14_ ≤ e_ := of_decide_eq_true cx15_
        refine sm_T_go 1 (c1 := (26, [some (.inr (.inr (some (13, 0)))), some (.inl c_), some (.inl e_)], [.inl 0], S0_)) rfl ?_
        refine sm_T_rz rfl (by omega) ⟨_, _, rfl, rfl, _, rfl, ?_⟩
        refine ⟨⟨by omega, by omega⟩, ?_⟩
        omega
      · have cx15_ : ¬ (vx14_ ≤ e_) := of_decide_eq_false cx15_
        refine sm_T_go 2 (c1 := (26, [some (.inr (.inr (some (13, 0)))), some (.inl c_), some (.inl e_)], [.inl 1], S0_)) rfl ?_
        refine sm_T_rz rfl (by omega) ⟨_, _, rfl, rfl, _, rfl, ?_⟩
        refine ⟨⟨by omega, by omega⟩, ?_⟩
        omega
/-! M_.isNet -/
def vw_450 : sx_Wl := ([], [], [])
def vq_450 (c_ : Int) (n_ : Int) (S0_ : sm_S) (u_ : Option sm_V) (S1_ : sm_S) : Prop := S0_ = S1_ ∧ ∃ v_ : Int, u_ = some (.inl v_) ∧ (((-2147483648) ≤ v_ ∧ v_ ≤ 2147483647) ∧ ((v_ = 1 ∧ 0 ≤ c_ ∧ c_ < 4 ∧ S0_.2.2.1 222 0 c_.toNat = 1 ∧ 0 ≤ n_ ∧ n_ < 168 ∧ n_ < S0_.2.2.1 223 0 c_.toNat + S0_.2.2.1 224 0 c_.toNat + S0_.2.2.1 228 0 c_.toNat) ∨ v_ = 0))
set_option maxHeartbeats 400000 in
set_option maxRecDepth 20000 in
theorem vc_450 {sc_ : Nat × (Nat → Int)} (c_ : Int) (n_ : Int) (S0_ : sm_S) (hI_ : gi S0_) (hc_ : (-2147483648) ≤ c_ ∧ c_ ≤ 2147483647) (hn_ : (-2147483648) ≤ n_ ∧ n_ ≤ 2147483647) : sm_T (mt_P sc_) 1 450 (0, [some (.inr (.inr (some (13, 0)))), some (.inl c_), some (.inl n_)], [], S0_) (fun ro9_ => ∃ u_ S1_, ro9_ = (.inl u_, S1_, 0) ∧ vq_450 c_ n_ S0_ u_ S1_) := by
  have hF_ : ai_fr (sx_W vw_450) S0_ S0_ := ai_fr_rf
  refine sm_T_go 2 (c1 := (2, [some (.inr (.inr (some (13, 0)))), some (.inl c_), some (.inl n_)], [.inl c_, .inr (.inr (some (13, 0)))], S0_)) rfl ?_
  refine sm_T_cal (d1 := 0) (Q1 := vq_371 c_ S0_) rfl rfl (by decide) (vc_371 c_ S0_ hI_ (by omega)) (fun u_ Sx1_ px4_ => ?_)
  obtain ⟨rfl, vx6_, rfl, px4_⟩ := px4_
  refine sm_T_b0 (a := 0) (z := 20) rfl (fun cx7_ => ?_) (fun cx7_ => ?_)
  · have cx7_ : vx6_ = 0 := of_decide_eq_true cx7_
    refine sm_T_go 1 (c1 := (26, [some (.inr (.inr (some (13, 0)))), some (.inl c_), some (.inl n_)], [.inl 0], S0_)) rfl ?_
    refine sm_T_rz rfl (by omega) ⟨_, _, rfl, rfl, _, rfl, ?_⟩
    refine ⟨⟨by omega, by omega⟩, ?_⟩
    omega
  · have cx7_ : ¬ (vx6_ = 0) := of_decide_eq_false cx7_
    refine sm_T_go 1 (c1 := (9, [some (.inr (.inr (some (13, 0)))), some (.inl c_), some (.inl n_)], [.inl n_], S0_)) rfl ?_
    refine sm_T_b0 (a := 2) (z := 16) rfl (fun cx8_ => ?_) (fun cx8_ => ?_)
    · have cx8_ : n_ < 0 := of_decide_eq_true cx8_
      refine sm_T_go 1 (c1 := (26, [some (.inr (.inr (some (13, 0)))), some (.inl c_), some (.inl n_)], [.inl 0], S0_)) rfl ?_
      refine sm_T_rz rfl (by omega) ⟨_, _, rfl, rfl, _, rfl, ?_⟩
      refine ⟨⟨by omega, by omega⟩, ?_⟩
      omega
    · have cx8_ : ¬ (n_ < 0) := of_decide_eq_false cx8_
      refine sm_T_go 3 (c1 := (15, [some (.inr (.inr (some (13, 0)))), some (.inl c_), some (.inl n_)], [.inl c_, .inr (.inr (some (13, 0))), .inl n_], S0_)) rfl ?_
      refine sm_T_cal (d1 := 0) (Q1 := vq_422 c_ S0_) rfl rfl (by decide) (vc_422 c_ S0_ hI_ (by omega)) (fun u_ Sx9_ px12_ => ?_)
      obtain ⟨rfl, vx14_, rfl, px12_⟩ := px12_
      refine sm_T_br (a := 3) (z := 7) rfl (fun cx15_ => ?_) (fun cx15_ => ?_)
      · have cx15_ : vx14_ ≤ n_ := of_decide_eq_true cx15_
        refine sm_T_go 1 (c1 := (26, [some (.inr (.inr (some (13, 0)))), some (.inl c_), some (.inl n_)], [.inl 0], S0_)) rfl ?_
        refine sm_T_rz rfl (by omega) ⟨_, _, rfl, rfl, _, rfl, ?_⟩
        refine ⟨⟨by omega, by omega⟩, ?_⟩
        omega
      · have cx15_ : ¬ (vx14_ ≤ n_) := of_decide_eq_false cx15_
        refine sm_T_go 2 (c1 := (26, [some (.inr (.inr (some (13, 0)))), some (.inl c_), some (.inl n_)], [.inl 1], S0_)) rfl ?_
        refine sm_T_rz rfl (by omega) ⟨_, _, rfl, rfl, _, rfl, ?_⟩
        refine ⟨⟨by omega, by omega⟩, ?_⟩
        omega
/-! M_.at -/
def vw_446 : sx_Wl := ([(13, 0)], [], [])
def vq_446 (a1_ : Int) (a2_ : Int) (a3_ : Int) (S0_ : sm_S) (u_ : Option sm_V) (S1_ : sm_S) : Prop := ∃ v_ : Int, u_ = some (.inl v_) ∧ gi S1_ ∧ ai_fr (sx_W vw_446) S0_ S1_ ∧ (((-2147483648) ≤ v_ ∧ v_ ≤ 2147483647) ∧ (jR S1_))
set_option maxHeartbeats 400000 in
set_option maxRecDepth 20000 in
theorem vc_446 {sc_ : Nat × (Nat → Int)} (a1_ : Int) (a2_ : Int) (a3_ : Int) (S0_ : sm_S) (hI_ : gi S0_) (ha1_ : (-2147483648) ≤ a1_ ∧ a1_ ≤ 2147483647) (ha2_ : (-2147483648) ≤ a2_ ∧ a2_ ≤ 2147483647) (ha3_ : (-2147483648) ≤ a3_ ∧ a3_ ≤ 2147483647) (hJ_ : jR S0_) : sm_T (mt_P sc_) 2 446 (0, [some (.inr (.inr (some (13, 0)))), some (.inl a1_), some (.inl a2_), some (.inl a3_)], [], S0_) (fun ro9_ => ∃ u_ S1_, ro9_ = (.inl u_, S1_, 0) ∧ vq_446 a1_ a2_ a3_ S0_ u_ S1_) := by
  have hF_ : ai_fr (sx_W vw_446) S0_ S0_ := ai_fr_rf
  refine sm_T_go 4 (c1 := (4, [some (.inr (.inr (some (13, 0)))), some (.inl a1_), some (.inl a2_), some (.inl a3_)], [.inl a2_, .inl a1_, .inr (.inr (some (13, 0))), .inr (.inr (some (13, 0)))], S0_)) rfl ?_
  refine sm_T_cal (d1 := 1) (Q1 := vq_445 a1_ a2_ S0_) rfl rfl (by decide) (vc_445 a1_ a2_ S0_ hI_ (by omega) (by omega)) (fun u_ Sx1_ px4_ => ?_)
  obtain ⟨rfl, vx6_, rfl, px4_⟩ := px4_
  have e4_ := px4_
  refine sm_T_b0 (a := 1) (z := 7) rfl (fun cx7_ => ?_) (fun cx7_ => ?_)
  · have cx7_ : vx6_ ≠ 0 := of_decide_eq_true cx7_
    refine sm_T_go 3 (c1 := (17, [some (.inr (.inr (some (13, 0)))), some (.inl a1_), some (.inl a2_), some (.inl a3_)], [.inl 1, .inl 0, .inl a3_, .inr (.inr (some (13, 0)))], S0_)) rfl ?_
    refine sm_T_cal (d1 := 0) (Q1 := vq_278 a3_ 0 1 S0_) rfl rfl (by decide) (vc_278 a3_ 0 1 S0_ hI_ ) (fun u_ Sx8_ px11_ => ?_)
    obtain ⟨rfl, vx13_, rfl, px11_⟩ := px11_
    refine sm_T_b0 (a := 1) (z := 7) rfl (fun cx14_ => ?_) (fun cx14_ => ?_)
    · have cx14_ : vx13_ ≠ 0 := of_decide_eq_true cx14_
      refine sm_T_go 3 (c1 := (32, [some (.inr (.inr (some (13, 0)))), some (.inl a1_), some (.inl a2_), some (.inl a3_)], [.inl a1_, .inr (.inr (some (240, 0))), .inr (.inr (some (13, 0)))], S0_)) rfl ?_
      refine sm_T_iald (n := 4) rfl rfl (by omega) (by omega) ?_
      have bx15_ : 0 ≤ S0_.2.2.1 240 0 a1_.toNat ∧ S0_.2.2.1 240 0 a1_.toNat ≤ 12 := hI_.2 240 0 _
      refine sm_T_b0 (a := 1) (z := 7) rfl (fun cx16_ => ?_) (fun cx16_ => ?_)
      · have cx16_ : (S0_.2.2.1 240 0 a1_.toNat) ≠ 0 := of_decide_eq_true cx16_
        have hIx17_ : gi (sm_pI S0_ 13 0 0 0) := gi_pI hI_ (show 0 ≤ 0 ∧ 0 ≤ 4 from ⟨by omega, by omega⟩)
        have hFx18_ : ai_fr (sx_W vw_446) S0_ (sm_pI S0_ 13 0 0 0) := ai_fr_tr hF_ (ai_fr_pI rfl)
        refine sm_T_go 6 (c1 := (54, [some (.inr (.inr (some (13, 0)))), some (.inl a1_), some (.inl a2_), some (.inl a3_)], [.inl a3_], sm_pI S0_ 13 0 0 0)) rfl ?_
        refine sm_T_b0 (a := 1) (z := 18) rfl (fun cx19_ => ?_) (fun cx19_ => ?_)
        · have cx19_ : a3_ ≠ 0 := of_decide_eq_true cx19_
          refine sm_T_go 4 (c1 := (80, [some (.inr (.inr (some (13, 0)))), some (.inl a1_), some (.inl a2_), some (.inl a3_)], [.inl a1_, .inl 156, .inr (.inr (some (242, 0)))], sm_pI S0_ 13 0 0 0)) rfl ?_
          refine sm_T_bin (w := 156 * a1_) rfl (bi_mul (by omega) (by omega) (by omega)) ?_ -- pc_ 80
          refine sm_T_go 1 (c1 := (82, [some (.inr (.inr (some (13, 0)))), some (.inl a1_), some (.inl a2_), some (.inl a3_)], [.inl a2_, .inl (156 * a1_), .inr (.inr (some (242, 0)))], sm_pI S0_ 13 0 0 0)) rfl ?_
          refine sm_T_bin (w := 156 * a1_ + a2_) rfl (bi_add (by omega) (by omega) (by omega)) ?_ -- pc_ 82
          refine sm_T_iald (n := 624) rfl rfl (by omega) (by omega) ?_
          have bx20_ : 0 ≤ S0_.2.2.1 242 0 (156 * a1_ + a2_).toNat ∧ S0_.2.2.1 242 0 (156 * a1_ + a2_).toNat ≤ 12 := hI_.2 242 0 _
          refine sm_T_go 0 (c1 := (84, [some (.inr (.inr (some (13, 0)))), some (.inl a1_), some (.inl a2_), some (.inl a3_)], [.inl (S0_.2.2.1 242 0 (156 * a1_ + a2_).toNat)], sm_pI S0_ 13 0 0 0)) rfl ?_
          refine sm_T_ri rfl ⟨_, _, rfl, _, rfl, hIx17_, hFx18_, ?_⟩
          refine ⟨⟨by omega, by omega⟩, jR_fr hJ_ hIx17_ hFx18_⟩
        · have cx19_ : ¬ (a3_ ≠ 0) := of_decide_eq_false cx19_
          refine sm_T_go 4 (c1 := (65, [some (.inr (.inr (some (13, 0)))), some (.inl a1_), some (.inl a2_), some (.inl a3_)], [.inl a1_, .inl 156, .inr (.inr (some (241, 0)))], sm_pI S0_ 13 0 0 0)) rfl ?_
          refine sm_T_bin (w := 156 * a1_) rfl (bi_mul (by omega) (by omega) (by omega)) ?_ -- pc_ 65
          refine sm_T_go 1 (c1 := (67, [some (.inr (.inr (some (13, 0)))), some (.inl a1_), some (.inl a2_), some (.inl a3_)], [.inl a2_, .inl (156 * a1_), .inr (.inr (some (241, 0)))], sm_pI S0_ 13 0 0 0)) rfl ?_
          refine sm_T_bin (w := 156 * a1_ + a2_) rfl (bi_add (by omega) (by omega) (by omega)) ?_ -- pc_ 67
          refine sm_T_iald (n := 624) rfl rfl (by omega) (by omega) ?_
          have bx21_ : 0 ≤ S0_.2.2.1 241 0 (156 * a1_ + a2_).toNat ∧ S0_.2.2.1 241 0 (156 * a1_ + a2_).toNat ≤ 60 := hI_.2 241 0 _
          refine sm_T_go 1 (c1 := (84, [some (.inr (.inr (some (13, 0)))), some (.inl a1_), some (.inl a2_), some (.inl a3_)], [.inl (S0_.2.2.1 241 0 (156 * a1_ + a2_).toNat)], sm_pI S0_ 13 0 0 0)) rfl ?_
          refine sm_T_ri rfl ⟨_, _, rfl, _, rfl, hIx17_, hFx18_, ?_⟩
          refine ⟨⟨by omega, by omega⟩, jR_fr hJ_ hIx17_ hFx18_⟩
      · have cx16_ : ¬ ((S0_.2.2.1 240 0 a1_.toNat) ≠ 0) := of_decide_eq_false cx16_
        have hIx22_ : gi (sm_pI S0_ 13 0 0 3) := gi_pI hI_ (show 0 ≤ 3 ∧ 3 ≤ 4 from ⟨by omega, by omega⟩)
        have hFx23_ : ai_fr (sx_W vw_446) S0_ (sm_pI S0_ 13 0 0 3) := ai_fr_tr hF_ (ai_fr_pI rfl)
        refine sm_T_go 7 (c1 := (52, [some (.inr (.inr (some (13, 0)))), some (.inl a1_), some (.inl a2_), some (.inl a3_)], [.inl 0], sm_pI S0_ 13 0 0 3)) rfl ?_
        refine sm_T_ri rfl ⟨_, _, rfl, _, rfl, hIx22_, hFx23_, ?_⟩
        refine ⟨⟨by omega, by omega⟩, jR_fr hJ_ hIx22_ hFx23_⟩
    · have cx14_ : ¬ (vx13_ ≠ 0) := of_decide_eq_false cx14_
      have hIx24_ : gi (sm_pI S0_ 13 0 0 2) := gi_pI hI_ (show 0 ≤ 2 ∧ 2 ≤ 4 from ⟨by omega, by omega⟩)
      have hFx25_ : ai_fr (sx_W vw_446) S0_ (sm_pI S0_ 13 0 0 2) := ai_fr_tr hF_ (ai_fr_pI rfl)
      refine sm_T_go 7 (c1 := (52, [some (.inr (.inr (some (13, 0)))), some (.inl a1_), some (.inl a2_), some (.inl a3_)], [.inl 0], sm_pI S0_ 13 0 0 2)) rfl ?_
      refine sm_T_ri rfl ⟨_, _, rfl, _, rfl, hIx24_, hFx25_, ?_⟩
      refine ⟨⟨by omega, by omega⟩, jR_fr hJ_ hIx24_ hFx25_⟩
  · have cx7_ : ¬ (vx6_ ≠ 0) := of_decide_eq_false cx7_
    have hIx26_ : gi (sm_pI S0_ 13 0 0 1) := gi_pI hI_ (show 0 ≤ 1 ∧ 1 ≤ 4 from ⟨by omega, by omega⟩)
    have hFx27_ : ai_fr (sx_W vw_446) S0_ (sm_pI S0_ 13 0 0 1) := ai_fr_tr hF_ (ai_fr_pI rfl)
    refine sm_T_go 7 (c1 := (52, [some (.inr (.inr (some (13, 0)))), some (.inl a1_), some (.inl a2_), some (.inl a3_)], [.inl 0], sm_pI S0_ 13 0 0 1)) rfl ?_
    refine sm_T_ri rfl ⟨_, _, rfl, _, rfl, hIx26_, hFx27_, ?_⟩
    refine ⟨⟨by omega, by omega⟩, jR_fr hJ_ hIx26_ hFx27_⟩
/-! M_.wire -/
def vw_451 : sx_Wl := ([(13, 0), (13, 159)], [243, 244, 245, 246, 247, 248, 249, 250], [])
def vq_451 (a1_ : Int) (a2_ : Int) (S0_ : sm_S) (u_ : Option sm_V) (S1_ : sm_S) : Prop := ∃ v_ : Int, u_ = some (.inl v_) ∧ gi S1_ ∧ ai_fr (sx_W vw_451) S0_ S1_ ∧ (((-2147483648) ≤ v_ ∧ v_ ≤ 2147483647) ∧ (jR S1_))
set_option maxHeartbeats 400000 in
set_option maxRecDepth 20000 in
theorem vc_451 {sc_ : Nat × (Nat → Int)} (a1_ : Int) (a2_ : Int) (S0_ : sm_S) (hI_ : gi S0_) (ha1_ : (-2147483648) ≤ a1_ ∧ a1_ ≤ 2147483647) (ha2_ : (-2147483648) ≤ a2_ ∧ a2_ ≤ 2147483647) (hJ_ : jR S0_) : sm_T (mt_P sc_) 5 451 (0, [some (.inr (.inr (some (13, 0)))), some (.inl a1_), some (.inl a2_), none], [], S0_) (fun ro9_ => ∃ u_ S1_, ro9_ = (.inl u_, S1_, 0) ∧ vq_451 a1_ a2_ S0_ u_ S1_) := by
  have hF_ : ai_fr (sx_W vw_451) S0_ S0_ := ai_fr_rf
  refine sm_T_go 3 (c1 := (3, [some (.inr (.inr (some (13, 0)))), some (.inl a1_), some (.inl a2_), none], [.inl a1_, .inr (.inr (some (13, 0))), .inr (.inr (some (13, 0)))], S0_)) rfl ?_
  refine sm_T_cal (d1 := 0) (Q1 := vq_371 a1_ S0_) rfl rfl (by decide) (vc_371 a1_ S0_ hI_ (by omega)) (fun u_ Sx1_ px4_ => ?_)
  obtain ⟨rfl, vx6_, rfl, px4_⟩ := px4_
  have d3_ := px4_
  refine sm_T_b0 (a := 0) (z := 17) rfl (fun cx7_ => ?_) (fun cx7_ => ?_)
  · have cx7_ : vx6_ = 0 := of_decide_eq_true cx7_
    have hIx8_ : gi (sm_pI S0_ 13 0 0 1) := gi_pI hI_ (show 0 ≤ 1 ∧ 1 ≤ 4 from ⟨by omega, by omega⟩)
    have hFx9_ : ai_fr (sx_W vw_451) S0_ (sm_pI S0_ 13 0 0 1) := ai_fr_tr hF_ (ai_fr_pI rfl)
    refine sm_T_go 7 (c1 := (52, [some (.inr (.inr (some (13, 0)))), some (.inl a1_), some (.inl a2_), none], [.inl 0], sm_pI S0_ 13 0 0 1)) rfl ?_
    refine sm_T_ri rfl ⟨_, _, rfl, _, rfl, hIx8_, hFx9_, ?_⟩
    refine ⟨⟨by omega, by omega⟩, jR_fr hJ_ hIx8_ hFx9_⟩
  · have cx7_ : ¬ (vx6_ = 0) := of_decide_eq_false cx7_
    refine sm_T_go 2 (c1 := (11, [some (.inr (.inr (some (13, 0)))), some (.inl a1_), some (.inl a2_), none], [.inl (-1), .inl a2_, .inr (.inr (some (13, 0)))], S0_)) rfl ?_
    refine sm_T_br (a := 0) (z := 16) rfl (fun cx10_ => ?_) (fun cx10_ => ?_)
    · have cx10_ : a2_ = (-1) := of_decide_eq_true cx10_
      refine sm_T_go 3 (c1 := (32, [some (.inr (.inr (some (13, 0)))), some (.inl a1_), some (.inl a2_), none], [.inl a1_, .inr (.inr (some (240, 0))), .inr (.inr (some (13, 0)))], S0_)) rfl ?_
      refine sm_T_iald (n := 4) rfl rfl (by omega) (by omega) ?_
      have bx11_ : 0 ≤ S0_.2.2.1 240 0 a1_.toNat ∧ S0_.2.2.1 240 0 a1_.toNat ≤ 12 := hI_.2 240 0 _
      refine sm_T_b0 (a := 1) (z := 7) rfl (fun cx12_ => ?_) (fun cx12_ => ?_)
      · have cx12_ : (S0_.2.2.1 240 0 a1_.toNat) ≠ 0 := of_decide_eq_true cx12_
        have K9_ : cRk a1_ S0_ := hJ_.2 a1_ (by omega) (by omega) (by omega)
        obtain ⟨K1_, K2_, K3_, K4_, K5_, K6_, K7_⟩ := K9_
        have hIx13_ : gi (sm_pI S0_ 13 0 0 0) := gi_pI hI_ (show 0 ≤ 0 ∧ 0 ≤ 4 from ⟨by omega, by omega⟩)
        have hFx14_ : ai_fr (sx_W vw_451) S0_ (sm_pI S0_ 13 0 0 0) := ai_fr_tr hF_ (ai_fr_pI rfl)
        refine sm_T_go 7 (c1 := (55, [some (.inr (.inr (some (13, 0)))), some (.inl a1_), some (.inl a2_), none], [.inl a1_, .inr (.inr (some (13, 0)))], sm_pI S0_ 13 0 0 0)) rfl ?_
        refine sm_T_cal (d1 := 4) (Q1 := vq_442 a1_ (sm_pI S0_ 13 0 0 0)) rfl rfl (by decide) (vc_442 a1_ (sm_pI S0_ 13 0 0 0) hIx13_ (by omega) (by exact K1_) (by exact K4_) (by exact K5_)) (fun u_ Sx15_ px18_ => ?_)
        obtain ⟨vx20_, rfl, hIx16_, hFx17_, px18_⟩ := px18_
        have hFx19_ : ai_fr (sx_W vw_451) S0_ Sx15_ := ai_fr_tr hFx14_ (fr_le hFx17_ rfl)
        refine sm_T_go 3 (c1 := (61, [some (.inr (.inr (some (13, 0)))), some (.inl a1_), some (.inl a2_), some (.inl vx20_)], [.inl (-1), .inl a2_], Sx15_)) rfl ?_
        refine sm_T_br (a := 1) (z := 7) rfl (fun cx21_ => ?_) (fun cx21_ => ?_)
        · have cx21_ : a2_ ≠ (-1) := of_decide_eq_true cx21_
          exfalso; omega
        · have cx21_ : ¬ (a2_ ≠ (-1)) := of_decide_eq_false cx21_
          refine sm_T_go 2 (c1 := (73, [some (.inr (.inr (some (13, 0)))), some (.inl a1_), some (.inl a2_), some (.inl vx20_)], [.inl vx20_], Sx15_)) rfl ?_
          refine sm_T_ri rfl ⟨_, _, rfl, _, rfl, hIx16_, hFx19_, ?_⟩
          refine ⟨⟨by omega, by omega⟩, jR_fr hJ_ hIx16_ hFx19_⟩
      · have cx12_ : ¬ ((S0_.2.2.1 240 0 a1_.toNat) ≠ 0) := of_decide_eq_false cx12_
        have hIx22_ : gi (sm_pI S0_ 13 0 0 2) := gi_pI hI_ (show 0 ≤ 2 ∧ 2 ≤ 4 from ⟨by omega, by omega⟩)
        have hFx23_ : ai_fr (sx_W vw_451) S0_ (sm_pI S0_ 13 0 0 2) := ai_fr_tr hF_ (ai_fr_pI rfl)
        refine sm_T_go 7 (c1 := (52, [some (.inr (.inr (some (13, 0)))), some (.inl a1_), some (.inl a2_), none], [.inl 0], sm_pI S0_ 13 0 0 2)) rfl ?_
        refine sm_T_ri rfl ⟨_, _, rfl, _, rfl, hIx22_, hFx23_, ?_⟩
        refine ⟨⟨by omega, by omega⟩, jR_fr hJ_ hIx22_ hFx23_⟩
    · have cx10_ : ¬ (a2_ = (-1)) := of_decide_eq_false cx10_
      refine sm_T_go 3 (c1 := (17, [some (.inr (.inr (some (13, 0)))), some (.inl a1_), some (.inl a2_), none], [.inl a2_, .inl a1_, .inr (.inr (some (13, 0))), .inr (.inr (some (13, 0)))], S0_)) rfl ?_
      refine sm_T_cal (d1 := 1) (Q1 := vq_450 a1_ a2_ S0_) rfl rfl (by decide) (vc_450 a1_ a2_ S0_ hI_ (by omega) (by omega)) (fun u_ Sx24_ px27_ => ?_)
      obtain ⟨rfl, vx29_, rfl, px27_⟩ := px27_
      have e17_ := px27_
      refine sm_T_b0 (a := 1) (z := 7) rfl (fun cx30_ => ?_) (fun cx30_ => ?_)
      · have cx30_ : vx29_ ≠ 0 := of_decide_eq_true cx30_
        refine sm_T_go 3 (c1 := (32, [some (.inr (.inr (some (13, 0)))), some (.inl a1_), some (.inl a2_), none], [.inl a1_, .inr (.inr (some (240, 0))), .inr (.inr (some (13, 0)))], S0_)) rfl ?_
        refine sm_T_iald (n := 4) rfl rfl (by omega) (by omega) ?_
        have bx31_ : 0 ≤ S0_.2.2.1 240 0 a1_.toNat ∧ S0_.2.2.1 240 0 a1_.toNat ≤ 12 := hI_.2 240 0 _
        refine sm_T_b0 (a := 1) (z := 7) rfl (fun cx32_ => ?_) (fun cx32_ => ?_)
        · have cx32_ : (S0_.2.2.1 240 0 a1_.toNat) ≠ 0 := of_decide_eq_true cx32_
          have K9_ : cRk a1_ S0_ := hJ_.2 a1_ (by omega) (by omega) (by omega)
          obtain ⟨K1_, K2_, K3_, K4_, K5_, K6_, K7_⟩ := K9_
          have hIx33_ : gi (sm_pI S0_ 13 0 0 0) := gi_pI hI_ (show 0 ≤ 0 ∧ 0 ≤ 4 from ⟨by omega, by omega⟩)
          have hFx34_ : ai_fr (sx_W vw_451) S0_ (sm_pI S0_ 13 0 0 0) := ai_fr_tr hF_ (ai_fr_pI rfl)
          refine sm_T_go 7 (c1 := (55, [some (.inr (.inr (some (13, 0)))), some (.inl a1_), some (.inl a2_), none], [.inl a1_, .inr (.inr (some (13, 0)))], sm_pI S0_ 13 0 0 0)) rfl ?_
          refine sm_T_cal (d1 := 4) (Q1 := vq_442 a1_ (sm_pI S0_ 13 0 0 0)) rfl rfl (by decide) (vc_442 a1_ (sm_pI S0_ 13 0 0 0) hIx33_ (by omega) (by exact K1_) (by exact K4_) (by exact K5_)) (fun u_ Sx35_ px38_ => ?_)
          obtain ⟨vx40_, rfl, hIx36_, hFx37_, px38_⟩ := px38_
          have hFx39_ : ai_fr (sx_W vw_451) S0_ Sx35_ := ai_fr_tr hFx34_ (fr_le hFx37_ rfl)
          refine sm_T_go 3 (c1 := (61, [some (.inr (.inr (some (13, 0)))), some (.inl a1_), some (.inl a2_), some (.inl vx40_)], [.inl (-1), .inl a2_], Sx35_)) rfl ?_
          refine sm_T_br (a := 1) (z := 7) rfl (fun cx41_ => ?_) (fun cx41_ => ?_)
          · have cx41_ : a2_ ≠ (-1) := of_decide_eq_true cx41_
            refine sm_T_go 2 (c1 := (70, [some (.inr (.inr (some (13, 0)))), some (.inl a1_), some (.inl a2_), some (.inl vx40_)], [.inl a2_, .inr (.inr (some (13, 0)))], Sx35_)) rfl ?_
            refine sm_T_cal (d1 := 0) (Q1 := vq_441 a2_ Sx35_) rfl rfl (by decide) (vc_441 a2_ Sx35_ hIx36_ (by omega)) (fun u_ Sx42_ px45_ => ?_)
            obtain ⟨rfl, vx47_, rfl, px45_⟩ := px45_
            refine sm_T_ri rfl ⟨_, _, rfl, _, rfl, hIx36_, hFx39_, ?_⟩
            refine ⟨⟨by omega, by omega⟩, jR_fr hJ_ hIx36_ hFx39_⟩
          · have cx41_ : ¬ (a2_ ≠ (-1)) := of_decide_eq_false cx41_
            refine sm_T_go 2 (c1 := (73, [some (.inr (.inr (some (13, 0)))), some (.inl a1_), some (.inl a2_), some (.inl vx40_)], [.inl vx40_], Sx35_)) rfl ?_
            refine sm_T_ri rfl ⟨_, _, rfl, _, rfl, hIx36_, hFx39_, ?_⟩
            refine ⟨⟨by omega, by omega⟩, jR_fr hJ_ hIx36_ hFx39_⟩
        · have cx32_ : ¬ ((S0_.2.2.1 240 0 a1_.toNat) ≠ 0) := of_decide_eq_false cx32_
          have hIx48_ : gi (sm_pI S0_ 13 0 0 2) := gi_pI hI_ (show 0 ≤ 2 ∧ 2 ≤ 4 from ⟨by omega, by omega⟩)
          have hFx49_ : ai_fr (sx_W vw_451) S0_ (sm_pI S0_ 13 0 0 2) := ai_fr_tr hF_ (ai_fr_pI rfl)
          refine sm_T_go 7 (c1 := (52, [some (.inr (.inr (some (13, 0)))), some (.inl a1_), some (.inl a2_), none], [.inl 0], sm_pI S0_ 13 0 0 2)) rfl ?_
          refine sm_T_ri rfl ⟨_, _, rfl, _, rfl, hIx48_, hFx49_, ?_⟩
          refine ⟨⟨by omega, by omega⟩, jR_fr hJ_ hIx48_ hFx49_⟩
      · have cx30_ : ¬ (vx29_ ≠ 0) := of_decide_eq_false cx30_
        have hIx50_ : gi (sm_pI S0_ 13 0 0 1) := gi_pI hI_ (show 0 ≤ 1 ∧ 1 ≤ 4 from ⟨by omega, by omega⟩)
        have hFx51_ : ai_fr (sx_W vw_451) S0_ (sm_pI S0_ 13 0 0 1) := ai_fr_tr hF_ (ai_fr_pI rfl)
        refine sm_T_go 7 (c1 := (52, [some (.inr (.inr (some (13, 0)))), some (.inl a1_), some (.inl a2_), none], [.inl 0], sm_pI S0_ 13 0 0 1)) rfl ?_
        refine sm_T_ri rfl ⟨_, _, rfl, _, rfl, hIx50_, hFx51_, ?_⟩
        refine ⟨⟨by omega, by omega⟩, jR_fr hJ_ hIx50_ hFx51_⟩
/-! M_.place -/
def vw_444 : sx_Wl := ([(13, 0)], [239, 240, 241, 242, 251, 263], [])
def vq_444 (a1_ : Int) (a2_ : Int) (S0_ : sm_S) (u_ : Option sm_V) (S1_ : sm_S) : Prop := ∃ v_ : Int, u_ = some (.inl v_) ∧ gi S1_ ∧ ai_fr (sx_W vw_444) S0_ S1_ ∧ (rcf a1_.toNat S0_ S1_ ∧ ((-2147483648 ≤ v_ ∧ v_ ≤ 2147483647) ∧ jR S1_))
set_option maxHeartbeats 2000000 in
set_option maxRecDepth 20000 in
theorem vl_444 {sc_ : Nat × (Nat → Int)} (a1_ : Int) (a2_ : Int) (S0_ : sm_S) (ha1_ : (-2147483648) ≤ a1_ ∧ a1_ ≤ 2147483647) (ha2_ : (-2147483648) ≤ a2_ ∧ a2_ ≤ 2147483647) (hJ_ : jR S0_) : ∀ nn_ : Nat, (∀ (rw9_ : Int) (st_ : Int) (e_ : Int) (S_ : sm_S), gi S_ → ai_fr (sx_W vw_444) S0_ S_ → ((0 ≤ a1_ ∧ a1_ < 4 ∧ 4 ≤ a2_ ∧ a2_ ≤ 60 ∧ 0 ≤ e_ ∧ e_ ≤ (S0_.2.2.1 224 0 a1_.toNat + S0_.2.2.1 228 0 a1_.toNat) ∧ 0 ≤ rw9_ ∧ rw9_ ≤ e_ ∧ 0 ≤ st_ ∧ st_ ≤ a2_) ∧ (S0_.2.2.1 222 0 a1_.toNat = 1) ∧ (rw9_ = (plc (fun j9_ : Nat => csz a1_ S0_ (j9_ : Int)) a2_ e_.toNat).1 ∧ st_ = (plc (fun j9_ : Nat => csz a1_ S0_ (j9_ : Int)) a2_ e_.toNat).2) ∧ (S_.2.2.1 241 0 = S0_.2.2.1 241 0 ∧ S_.2.2.1 242 0 = S0_.2.2.1 242 0 ∧ S_.2.2.1 239 0 = S0_.2.2.1 239 0 ∧ S_.2.2.1 240 0 = S0_.2.2.1 240 0 ∧ S_.2.2.1 251 0 = S0_.2.2.1 251 0) ∧ (rcf a1_.toNat S0_ S_) ∧ True) → ((9000 - e_).toNat) < nn_ → sm_T (mt_P sc_) 2 444 (48, [some (.inr (.inr (some (13, 0)))), some (.inl a1_), some (.inl a2_), some (.inl rw9_), some (.inl st_), some (.inl e_), none], [], S_) (fun ro9_ => ∃ u_ S1_, ro9_ = (.inl u_, S1_, 0) ∧ vq_444 a1_ a2_ S0_ u_ S1_)) ∧ (∀ (rw9_ : Int) (st_ : Int) (e_ : Int) (S_ : sm_S), gi S_ → ai_fr (sx_W vw_444) S0_ S_ → ((0 ≤ a1_ ∧ a1_ < 4 ∧ 4 ≤ a2_ ∧ a2_ ≤ 60 ∧ 0 ≤ e_ ∧ e_ ≤ (S0_.2.2.1 224 0 a1_.toNat + S0_.2.2.1 228 0 a1_.toNat) ∧ 0 ≤ rw9_ ∧ rw9_ ≤ e_ ∧ 0 ≤ st_ ∧ st_ ≤ a2_) ∧ (S0_.2.2.1 222 0 a1_.toNat = 1) ∧ (rw9_ = (plc (fun j9_ : Nat => csz a1_ S0_ (j9_ : Int)) a2_ e_.toNat).1 ∧ st_ = (plc (fun j9_ : Nat => csz a1_ S0_ (j9_ : Int)) a2_ e_.toNat).2) ∧ ((plc (fun j9_ : Nat => csz a1_ S0_ (j9_ : Int)) a2_ (S0_.2.2.1 224 0 a1_.toNat + S0_.2.2.1 228 0 a1_.toNat).toNat).1 < 12) ∧ (∀ e9_ : Int, 0 ≤ e9_ → e9_ < e_ → S_.2.2.1 241 0 (156 * a1_ + e9_).toNat + csz a1_ S0_ e9_ ≤ a2_ ∧ S_.2.2.1 242 0 (156 * a1_ + e9_).toNat ≤ rw9_) ∧ (rcf a1_.toNat S0_ S_) ∧ True) → ((5000 - e_).toNat) < nn_ → sm_T (mt_P sc_) 2 444 (138, [some (.inr (.inr (some (13, 0)))), some (.inl a1_), some (.inl a2_), some (.inl rw9_), some (.inl st_), some (.inl e_), none], [], S_) (fun ro9_ => ∃ u_ S1_, ro9_ = (.inl u_, S1_, 0) ∧ vq_444 a1_ a2_ S0_ u_ S1_)) := by
  intro nn_
  induction nn_ with
  | zero => exact ⟨fun _ _ _ _ _ _ _ h_ => absurd h_ (Nat.not_lt_zero _), fun _ _ _ _ _ _ _ h_ => absurd h_ (Nat.not_lt_zero _)⟩
  | succ nn_ ih_ =>
    refine ⟨?_, ?_⟩
    · rintro rw9_ st_ e_ S_ hI_ hF_ ⟨h0_, ht_, hs_, h4_, hK_, -⟩ hm_
      have f222_ : S_.2.2.1 222 0 = S0_.2.2.1 222 0 := fr_arr hF_ rfl
      have f224_ : S_.2.2.1 224 0 = S0_.2.2.1 224 0 := fr_arr hF_ rfl
      have f228_ : S_.2.2.1 228 0 = S0_.2.2.1 228 0 := fr_arr hF_ rfl
      have x224_ : S_.2.2.1 224 0 a1_.toNat = S0_.2.2.1 224 0 a1_.toNat := congrFun f224_ _
      have x228_ : S_.2.2.1 228 0 a1_.toNat = S0_.2.2.1 228 0 a1_.toNat := congrFun f228_ _
      have z4_ : ∀ q9_, csz a1_ S_ q9_ = csz a1_ S0_ q9_ := fun q9_ => csz_eq f224_ (fr_arr hF_ rfl) (fr_arr hF_ rfl)
      have cE_ : 0 ≤ S_.2.2.1 224 0 a1_.toNat ∧ S_.2.2.1 224 0 a1_.toNat ≤ 6 := hI_.2 224 0 _
      have cG_ : 0 ≤ S_.2.2.1 228 0 a1_.toNat ∧ S_.2.2.1 228 0 a1_.toNat ≤ 150 := hI_.2 228 0 _
      have cz_ := csz_b (c_ := a1_) (e_ := e_) hI_
      rw [z4_] at cz_
      have P9_ := plc_s (fun j9_ : Nat => csz a1_ S0_ (j9_ : Int)) a2_ e_.toNat
      rw [show ((e_.toNat : Nat) : Int) = e_ by omega, ← hs_.1, ← hs_.2] at P9_
      have T9_ : (e_ + 1).toNat = e_.toNat + 1 := by omega
      refine sm_T_go 3 (c1 := (52, [some (.inr (.inr (some (13, 0)))), some (.inl a1_), some (.inl a2_), some (.inl rw9_), some (.inl st_), some (.inl e_), none], [.inl a1_, .inr (.inr (some (13, 0))), .inl e_], S_)) rfl ?_
      refine sm_T_cal (d1 := 0) (Q1 := vq_423 a1_ S_) rfl rfl (by decide) (vc_423 a1_ S_ hI_ (by omega)) (fun u_ Sx1_ px4_ => ?_)
      obtain ⟨rfl, vx6_, rfl, px4_⟩ := px4_
      refine sm_T_br (a := 3) (z := 67) rfl (fun cx7_ => ?_) (fun cx7_ => ?_)
      · have cx7_ : vx6_ ≤ e_ := of_decide_eq_true cx7_
        refine sm_T_go 2 (c1 := (125, [some (.inr (.inr (some (13, 0)))), some (.inl a1_), some (.inl a2_), some (.inl rw9_), some (.inl st_), some (.inl e_), none], [.inl 12, .inl rw9_], S_)) rfl ?_
        refine sm_T_br (a := 2) (z := 5) rfl (fun cx8_ => ?_) (fun cx8_ => ?_)
        · have cx8_ : rw9_ < 12 := of_decide_eq_true cx8_
          have E9_ : e_ = (S0_.2.2.1 224 0 a1_.toNat + S0_.2.2.1 228 0 a1_.toNat) := by omega
          refine sm_T_go 6 (c1 := (138, [some (.inr (.inr (some (13, 0)))), some (.inl a1_), some (.inl a2_), some (.inl 0), some (.inl 0), some (.inl 0), none], [], S_)) rfl ?_
          refine ih_.2 0 0 0 S_ hI_ hF_ ⟨?_, ?_, ?_, ?_, ?_, ?_, trivial⟩ ?_
          · omega
          · exact ht_
          · exact ⟨rfl, rfl⟩
          · (rw [← E9_, ← hs_.1]; omega)
          · (intro e9_ u0_ u1_; exfalso; omega)
          · exact hK_
          · omega
        · have cx8_ : ¬ (rw9_ < 12) := of_decide_eq_false cx8_
          refine sm_T_go 1 (c1 := (129, [some (.inr (.inr (some (13, 0)))), some (.inl a1_), some (.inl a2_), some (.inl rw9_), some (.inl st_), some (.inl e_), none], [.inl (-1)], S_)) rfl ?_
          refine sm_T_ri rfl ⟨_, _, rfl, _, rfl, hI_, hF_, ?_⟩
          refine ⟨hK_, ?_⟩
          exact ⟨⟨by omega, by omega⟩, jR_cf hJ_ hI_ hF_ rfl hK_ (fun z9_ => by (have k9_ := hJ_.2 a1_ (by omega) (by omega) ht_; rw [show ((a1_.toNat : Nat) : Int) = a1_ by omega]; refine cRk_pl k9_ (fun t9_ u9_ v9_ => fr_arr hF_ (wrg (lo_ := 223) (hi_ := 234) rfl u9_ v9_)) ?_ (by rw [h4_.2.2.2.2, h4_.2.2.2.1]; exact k9_.2.2.2.2.2.2); unfold cpl; rw [h4_.1, h4_.2.1, h4_.2.2.1, h4_.2.2.2.1, f224_, f228_]; intro p9_; have v9_ := k9_.2.2.2.2.2.1 p9_; exact ⟨v9_.1, fun e9_ u0_ u1_ => by (rw [z4_]; exact v9_.2 e9_ u0_ u1_)⟩))⟩
      · have cx7_ : ¬ (vx6_ ≤ e_) := of_decide_eq_false cx7_
        refine sm_T_go 5 (c1 := (65, [some (.inr (.inr (some (13, 0)))), some (.inl a1_), some (.inl a2_), some (.inl rw9_), some (.inl st_), some (.inl e_), none], [.inl e_, .inl a1_, .inr (.inr (some (13, 0))), .inl st_, .inl rw9_], S_)) rfl ?_
        refine sm_T_cal (d1 := 1) (Q1 := vq_436 a1_ e_ S_) rfl rfl (by decide) (vc_436 a1_ e_ S_ hI_ (by omega) (by omega)) (fun u_ Sx9_ px12_ => ?_)
        obtain ⟨rfl, vx14_, rfl, px12_⟩ := px12_
        have e65_ := px12_
        rw [z4_] at e65_
        refine sm_T_bin (w := st_ + vx14_) rfl (bi_add (by omega) (by omega) (by omega)) ?_ -- pc_ 68
        refine sm_T_go 1 (c1 := (70, [some (.inr (.inr (some (13, 0)))), some (.inl a1_), some (.inl a2_), some (.inl rw9_), some (.inl st_), some (.inl e_), none], [.inl a2_, .inl (st_ + vx14_), .inl rw9_], S_)) rfl ?_
        refine sm_T_br (a := 5) (z := 7) rfl (fun cx15_ => ?_) (fun cx15_ => ?_)
        · have cx15_ : st_ + vx14_ ≤ a2_ := of_decide_eq_true cx15_
          refine sm_T_go 1 (c1 := (78, [some (.inr (.inr (some (13, 0)))), some (.inl a1_), some (.inl a2_), some (.inl rw9_), some (.inl st_), some (.inl e_), none], [.inl 0, .inl rw9_], S_)) rfl ?_
          refine sm_T_bin (w := rw9_) rfl (bi_add (by omega) (by omega) (by omega)) ?_ -- pc_ 78
          refine sm_T_go 5 (c1 := (86, [some (.inr (.inr (some (13, 0)))), some (.inl a1_), some (.inl a2_), some (.inl rw9_), some (.inl st_), some (.inl e_), none], [.inl e_, .inl a1_, .inr (.inr (some (13, 0))), .inl st_], S_)) rfl ?_
          refine sm_T_cal (d1 := 1) (Q1 := vq_436 a1_ e_ S_) rfl rfl (by decide) (vc_436 a1_ e_ S_ hI_ (by omega) (by omega)) (fun u_ Sx16_ px19_ => ?_)
          obtain ⟨rfl, vx21_, rfl, px19_⟩ := px19_
          have e86_ := px19_
          rw [z4_] at e86_
          refine sm_T_bin (w := st_ + vx21_) rfl (bi_add (by omega) (by omega) (by omega)) ?_ -- pc_ 89
          refine sm_T_go 1 (c1 := (91, [some (.inr (.inr (some (13, 0)))), some (.inl a1_), some (.inl a2_), some (.inl rw9_), some (.inl st_), some (.inl e_), none], [.inl a2_, .inl (st_ + vx21_)], S_)) rfl ?_
          refine sm_T_br (a := 5) (z := 13) rfl (fun cx22_ => ?_) (fun cx22_ => ?_)
          · have cx22_ : st_ + vx21_ ≤ a2_ := of_decide_eq_true cx22_
            refine sm_T_go 4 (c1 := (110, [some (.inr (.inr (some (13, 0)))), some (.inl a1_), some (.inl a2_), some (.inl rw9_), some (.inl st_), some (.inl e_), none], [.inl e_, .inl a1_, .inr (.inr (some (13, 0))), .inl st_], S_)) rfl ?_
            refine sm_T_cal (d1 := 1) (Q1 := vq_436 a1_ e_ S_) rfl rfl (by decide) (vc_436 a1_ e_ S_ hI_ (by omega) (by omega)) (fun u_ Sx23_ px26_ => ?_)
            obtain ⟨rfl, vx28_, rfl, px26_⟩ := px26_
            have e110_ := px26_
            rw [z4_] at e110_
            refine sm_T_bin (w := st_ + vx28_) rfl (bi_add (by omega) (by omega) (by omega)) ?_ -- pc_ 113
            refine sm_T_go 1 (c1 := (116, [some (.inr (.inr (some (13, 0)))), some (.inl a1_), some (.inl a2_), some (.inl rw9_), some (.inl (st_ + vx28_)), some (.inl e_), none], [], S_)) rfl ?_
            refine sm_T_inc (a := 5) (z := 1) (v := e_) (w := e_ + 1) rfl rfl (by omega) (by omega) (by omega) ?_ -- pc_ 116
            refine sm_T_go 1 (c1 := (48, [some (.inr (.inr (some (13, 0)))), some (.inl a1_), some (.inl a2_), some (.inl rw9_), some (.inl (st_ + vx28_)), some (.inl (e_ + 1)), none], [], S_)) rfl ?_
            refine ih_.1 rw9_ (st_ + vx28_) (e_ + 1) S_ hI_ hF_ ⟨?_, ?_, ?_, ?_, ?_, trivial⟩ ?_
            · omega
            · exact ht_
            · first | (have y9_ : ¬ (a2_ < st_ + csz a1_ S0_ e_) := (by omega); rw [if_neg y9_] at P9_) | (have y9_ : a2_ < st_ + csz a1_ S0_ e_ := (by omega); rw [if_pos y9_] at P9_)
              rw [T9_, P9_]
              exact ⟨by first | rfl | omega, by omega⟩
            · exact h4_
            · exact hK_
            · omega
          · have cx22_ : ¬ (st_ + vx21_ ≤ a2_) := of_decide_eq_false cx22_
            refine sm_T_go 3 (c1 := (98, [some (.inr (.inr (some (13, 0)))), some (.inl a1_), some (.inl a2_), some (.inl rw9_), some (.inl st_), some (.inl e_), none], [.inl e_, .inl a1_, .inr (.inr (some (13, 0)))], S_)) rfl ?_
            refine sm_T_cal (d1 := 1) (Q1 := vq_436 a1_ e_ S_) rfl rfl (by decide) (vc_436 a1_ e_ S_ hI_ (by omega) (by omega)) (fun u_ Sx29_ px32_ => ?_)
            obtain ⟨rfl, vx34_, rfl, px32_⟩ := px32_
            have e98_ := px32_
            rw [z4_] at e98_
            refine sm_T_go 2 (c1 := (116, [some (.inr (.inr (some (13, 0)))), some (.inl a1_), some (.inl a2_), some (.inl rw9_), some (.inl vx34_), some (.inl e_), none], [], S_)) rfl ?_
            refine sm_T_inc (a := 5) (z := 1) (v := e_) (w := e_ + 1) rfl rfl (by omega) (by omega) (by omega) ?_ -- pc_ 116
            refine sm_T_go 1 (c1 := (48, [some (.inr (.inr (some (13, 0)))), some (.inl a1_), some (.inl a2_), some (.inl rw9_), some (.inl vx34_), some (.inl (e_ + 1)), none], [], S_)) rfl ?_
            refine ih_.1 rw9_ vx34_ (e_ + 1) S_ hI_ hF_ ⟨?_, ?_, ?_, ?_, ?_, trivial⟩ ?_
            · omega
            · exact ht_
            · first | (have y9_ : ¬ (a2_ < st_ + csz a1_ S0_ e_) := (by omega); rw [if_neg y9_] at P9_) | (have y9_ : a2_ < st_ + csz a1_ S0_ e_ := (by omega); rw [if_pos y9_] at P9_)
              rw [T9_, P9_]
              exact ⟨by first | rfl | omega, by omega⟩
            · exact h4_
            · exact hK_
            · omega
        · have cx15_ : ¬ (st_ + vx14_ ≤ a2_) := of_decide_eq_false cx15_
          refine sm_T_go 2 (c1 := (78, [some (.inr (.inr (some (13, 0)))), some (.inl a1_), some (.inl a2_), some (.inl rw9_), some (.inl st_), some (.inl e_), none], [.inl 1, .inl rw9_], S_)) rfl ?_
          refine sm_T_bin (w := rw9_ + 1) rfl (bi_add (by omega) (by omega) (by omega)) ?_ -- pc_ 78
          refine sm_T_go 5 (c1 := (86, [some (.inr (.inr (some (13, 0)))), some (.inl a1_), some (.inl a2_), some (.inl (rw9_ + 1)), some (.inl st_), some (.inl e_), none], [.inl e_, .inl a1_, .inr (.inr (some (13, 0))), .inl st_], S_)) rfl ?_
          refine sm_T_cal (d1 := 1) (Q1 := vq_436 a1_ e_ S_) rfl rfl (by decide) (vc_436 a1_ e_ S_ hI_ (by omega) (by omega)) (fun u_ Sx35_ px38_ => ?_)
          obtain ⟨rfl, vx40_, rfl, px38_⟩ := px38_
          have e86_ := px38_
          rw [z4_] at e86_
          refine sm_T_bin (w := st_ + vx40_) rfl (bi_add (by omega) (by omega) (by omega)) ?_ -- pc_ 89
          refine sm_T_go 1 (c1 := (91, [some (.inr (.inr (some (13, 0)))), some (.inl a1_), some (.inl a2_), some (.inl (rw9_ + 1)), some (.inl st_), some (.inl e_), none], [.inl a2_, .inl (st_ + vx40_)], S_)) rfl ?_
          refine sm_T_br (a := 5) (z := 13) rfl (fun cx41_ => ?_) (fun cx41_ => ?_)
          · have cx41_ : st_ + vx40_ ≤ a2_ := of_decide_eq_true cx41_
            refine sm_T_go 4 (c1 := (110, [some (.inr (.inr (some (13, 0)))), some (.inl a1_), some (.inl a2_), some (.inl (rw9_ + 1)), some (.inl st_), some (.inl e_), none], [.inl e_, .inl a1_, .inr (.inr (some (13, 0))), .inl st_], S_)) rfl ?_
            refine sm_T_cal (d1 := 1) (Q1 := vq_436 a1_ e_ S_) rfl rfl (by decide) (vc_436 a1_ e_ S_ hI_ (by omega) (by omega)) (fun u_ Sx42_ px45_ => ?_)
            obtain ⟨rfl, vx47_, rfl, px45_⟩ := px45_
            have e110_ := px45_
            rw [z4_] at e110_
            refine sm_T_bin (w := st_ + vx47_) rfl (bi_add (by omega) (by omega) (by omega)) ?_ -- pc_ 113
            refine sm_T_go 1 (c1 := (116, [some (.inr (.inr (some (13, 0)))), some (.inl a1_), some (.inl a2_), some (.inl (rw9_ + 1)), some (.inl (st_ + vx47_)), some (.inl e_), none], [], S_)) rfl ?_
            refine sm_T_inc (a := 5) (z := 1) (v := e_) (w := e_ + 1) rfl rfl (by omega) (by omega) (by omega) ?_ -- pc_ 116
            refine sm_T_go 1 (c1 := (48, [some (.inr (.inr (some (13, 0)))), some (.inl a1_), some (.inl a2_), some (.inl (rw9_ + 1)), some (.inl (st_ + vx47_)), some (.inl (e_ + 1)), none], [], S_)) rfl ?_
            refine ih_.1 (rw9_ + 1) (st_ + vx47_) (e_ + 1) S_ hI_ hF_ ⟨?_, ?_, ?_, ?_, ?_, trivial⟩ ?_
            · omega
            · exact ht_
            · first | (have y9_ : ¬ (a2_ < st_ + csz a1_ S0_ e_) := (by omega); rw [if_neg y9_] at P9_) | (have y9_ : a2_ < st_ + csz a1_ S0_ e_ := (by omega); rw [if_pos y9_] at P9_)
              rw [T9_, P9_]
              exact ⟨by first | rfl | omega, by omega⟩
            · exact h4_
            · exact hK_
            · omega
          · have cx41_ : ¬ (st_ + vx40_ ≤ a2_) := of_decide_eq_false cx41_
            refine sm_T_go 3 (c1 := (98, [some (.inr (.inr (some (13, 0)))), some (.inl a1_), some (.inl a2_), some (.inl (rw9_ + 1)), some (.inl st_), some (.inl e_), none], [.inl e_, .inl a1_, .inr (.inr (some (13, 0)))], S_)) rfl ?_
            refine sm_T_cal (d1 := 1) (Q1 := vq_436 a1_ e_ S_) rfl rfl (by decide) (vc_436 a1_ e_ S_ hI_ (by omega) (by omega)) (fun u_ Sx48_ px51_ => ?_)
            obtain ⟨rfl, vx53_, rfl, px51_⟩ := px51_
            have e98_ := px51_
            rw [z4_] at e98_
            refine sm_T_go 2 (c1 := (116, [some (.inr (.inr (some (13, 0)))), some (.inl a1_), some (.inl a2_), some (.inl (rw9_ + 1)), some (.inl vx53_), some (.inl e_), none], [], S_)) rfl ?_
            refine sm_T_inc (a := 5) (z := 1) (v := e_) (w := e_ + 1) rfl rfl (by omega) (by omega) (by omega) ?_ -- pc_ 116
            refine sm_T_go 1 (c1 := (48, [some (.inr (.inr (some (13, 0)))), some (.inl a1_), some (.inl a2_), some (.inl (rw9_ + 1)), some (.inl vx53_), some (.inl (e_ + 1)), none], [], S_)) rfl ?_
            refine ih_.1 (rw9_ + 1) vx53_ (e_ + 1) S_ hI_ hF_ ⟨?_, ?_, ?_, ?_, ?_, trivial⟩ ?_
            · omega
            · exact ht_
            · first | (have y9_ : ¬ (a2_ < st_ + csz a1_ S0_ e_) := (by omega); rw [if_neg y9_] at P9_) | (have y9_ : a2_ < st_ + csz a1_ S0_ e_ := (by omega); rw [if_pos y9_] at P9_)
              rw [T9_, P9_]
              exact ⟨by first | rfl | omega, by omega⟩
            · exact h4_
            · exact hK_
            · omega
    · rintro rw9_ st_ e_ S_ hI_ hF_ ⟨h0_, ht_, hs_, hm9_, hb_, hK_, -⟩ hm_
      have f222_ : S_.2.2.1 222 0 = S0_.2.2.1 222 0 := fr_arr hF_ rfl
      have f224_ : S_.2.2.1 224 0 = S0_.2.2.1 224 0 := fr_arr hF_ rfl
      have f228_ : S_.2.2.1 228 0 = S0_.2.2.1 228 0 := fr_arr hF_ rfl
      have x224_ : S_.2.2.1 224 0 a1_.toNat = S0_.2.2.1 224 0 a1_.toNat := congrFun f224_ _
      have x228_ : S_.2.2.1 228 0 a1_.toNat = S0_.2.2.1 228 0 a1_.toNat := congrFun f228_ _
      have z4_ : ∀ q9_, csz a1_ S_ q9_ = csz a1_ S0_ q9_ := fun q9_ => csz_eq f224_ (fr_arr hF_ rfl) (fr_arr hF_ rfl)
      have cE_ : 0 ≤ S_.2.2.1 224 0 a1_.toNat ∧ S_.2.2.1 224 0 a1_.toNat ≤ 6 := hI_.2 224 0 _
      have cG_ : 0 ≤ S_.2.2.1 228 0 a1_.toNat ∧ S_.2.2.1 228 0 a1_.toNat ≤ 150 := hI_.2 228 0 _
      have cz_ := csz_b (c_ := a1_) (e_ := e_) hI_
      rw [z4_] at cz_
      have P9_ := plc_s (fun j9_ : Nat => csz a1_ S0_ (j9_ : Int)) a2_ e_.toNat
      rw [show ((e_.toNat : Nat) : Int) = e_ by omega, ← hs_.1, ← hs_.2] at P9_
      have T9_ : (e_ + 1).toNat = e_.toNat + 1 := by omega
      have M9_ := plc_l (fun j9_ : Nat => csz a1_ S0_ (j9_ : Int)) a2_ (n_ := e_.toNat) (m_ := (S0_.2.2.1 224 0 a1_.toNat + S0_.2.2.1 228 0 a1_.toNat).toNat) (by omega)
      rw [← hs_.1] at M9_
      refine sm_T_go 3 (c1 := (142, [some (.inr (.inr (some (13, 0)))), some (.inl a1_), some (.inl a2_), some (.inl rw9_), some (.inl st_), some (.inl e_), none], [.inl a1_, .inr (.inr (some (13, 0))), .inl e_], S_)) rfl ?_
      refine sm_T_cal (d1 := 0) (Q1 := vq_423 a1_ S_) rfl rfl (by decide) (vc_423 a1_ S_ hI_ (by omega)) (fun u_ Sx1_ px4_ => ?_)
      obtain ⟨rfl, vx6_, rfl, px4_⟩ := px4_
      refine sm_T_br (a := 3) (z := 97) rfl (fun cx7_ => ?_) (fun cx7_ => ?_)
      · have cx7_ : vx6_ ≤ e_ := of_decide_eq_true cx7_
        refine sm_T_go 4 (c1 := (248, [some (.inr (.inr (some (13, 0)))), some (.inl a1_), some (.inl a2_), some (.inl rw9_), some (.inl st_), some (.inl e_), none], [.inl a2_, .inl a1_, .inr (.inr (some (239, 0)))], S_)) rfl ?_
        refine sm_T_iast (n := 4) rfl rfl (by omega) (by omega) ?_
        have hIx8_ : gi (sm_aI S_ 239 0 a1_.toNat a2_) := gi_aI hI_ (show 0 ≤ a2_ ∧ a2_ ≤ 60 from ⟨by omega, by omega⟩)
        have hFx9_ : ai_fr (sx_W vw_444) S0_ (sm_aI S_ 239 0 a1_.toNat a2_) := ai_fr_tr hF_ (ai_fr_aI rfl)
        have hKx10_ : rcf a1_.toNat S0_ (sm_aI S_ 239 0 a1_.toNat a2_) := rcf_aI hK_ (Or.inr (by rw [show rcs 239 = 1 from rfl]; omega))
        refine sm_T_go 5 (c1 := (256, [some (.inr (.inr (some (13, 0)))), some (.inl a1_), some (.inl a2_), some (.inl rw9_), some (.inl st_), some (.inl e_), none], [.inl 1, .inl rw9_, .inl a1_, .inr (.inr (some (240, 0)))], sm_aI S_ 239 0 a1_.toNat a2_)) rfl ?_
        refine sm_T_bin (w := rw9_ + 1) rfl (bi_add (by omega) (by omega) (by omega)) ?_ -- pc_ 256
        refine sm_T_iast (n := 4) rfl rfl (by omega) (by omega) ?_
        have hIx11_ : gi (sm_aI (sm_aI S_ 239 0 a1_.toNat a2_) 240 0 a1_.toNat (rw9_ + 1)) := gi_aI hIx8_ (show 0 ≤ rw9_ + 1 ∧ rw9_ + 1 ≤ 12 from ⟨by omega, by omega⟩)
        have hFx12_ : ai_fr (sx_W vw_444) S0_ (sm_aI (sm_aI S_ 239 0 a1_.toNat a2_) 240 0 a1_.toNat (rw9_ + 1)) := ai_fr_tr hFx9_ (ai_fr_aI rfl)
        have hKx13_ : rcf a1_.toNat S0_ (sm_aI (sm_aI S_ 239 0 a1_.toNat a2_) 240 0 a1_.toNat (rw9_ + 1)) := rcf_aI hKx10_ (Or.inr (by rw [show rcs 240 = 1 from rfl]; omega))
        refine sm_T_go 2 (c1 := (260, [some (.inr (.inr (some (13, 0)))), some (.inl a1_), some (.inl a2_), some (.inl rw9_), some (.inl st_), some (.inl e_), none], [.inl a1_, .inr (.inr (some (13, 0)))], sm_aI (sm_aI S_ 239 0 a1_.toNat a2_) 240 0 a1_.toNat (rw9_ + 1))) rfl ?_
        refine sm_T_cal (d1 := 0) (Q1 := vq_443 a1_ (sm_aI (sm_aI S_ 239 0 a1_.toNat a2_) 240 0 a1_.toNat (rw9_ + 1))) rfl rfl (by decide) (vc_443 a1_ (sm_aI (sm_aI S_ 239 0 a1_.toNat a2_) 240 0 a1_.toNat (rw9_ + 1)) hIx11_ (by omega)) (fun u_ Sx14_ px17_ => ?_)
        obtain ⟨rfl, hIx15_, hFx16_, px17_⟩ := px17_
        have hFx18_ : ai_fr (sx_W vw_444) S0_ Sx14_ := ai_fr_tr hFx12_ (fr_le hFx16_ rfl)
        obtain ⟨dx20_, px17_⟩ := px17_
        have hKx19_ : rcf a1_.toNat S0_ Sx14_ := rcf_tr hKx13_ (rcf_cg (by omega) dx20_)
        have e260_ := px17_
        have y39_ : Sx14_.2.2.1 239 0 a1_.toNat = a2_ := (congrFun (fr_arr (t := 239) (i := 0) hFx16_ rfl) _).trans (by rw [rd_ne (by decide), rd_eq, if_pos rfl])
        have y40_ : Sx14_.2.2.1 240 0 a1_.toNat = rw9_ + 1 := (congrFun (fr_arr (t := 240) (i := 0) hFx16_ rfl) _).trans (by rw [rd_eq, if_pos rfl])
        have y41_ : Sx14_.2.2.1 241 0 = S_.2.2.1 241 0 := (fr_arr (t := 241) (i := 0) hFx16_ rfl).trans (by (funext j9_; rw [rd_ne (by decide), rd_ne (by decide)]))
        have y42_ : Sx14_.2.2.1 242 0 = S_.2.2.1 242 0 := (fr_arr (t := 242) (i := 0) hFx16_ rfl).trans (by (funext j9_; rw [rd_ne (by decide), rd_ne (by decide)]))
        refine sm_T_go 3 (c1 := (268, [some (.inr (.inr (some (13, 0)))), some (.inl a1_), some (.inl a2_), some (.inl rw9_), some (.inl st_), some (.inl e_), none], [.inl a1_, .inr (.inr (some (240, 0)))], Sx14_)) rfl ?_
        refine sm_T_iald (n := 4) rfl rfl (by omega) (by omega) ?_
        have bx21_ : 0 ≤ Sx14_.2.2.1 240 0 a1_.toNat ∧ Sx14_.2.2.1 240 0 a1_.toNat ≤ 12 := hIx15_.2 240 0 _
        refine sm_T_ri rfl ⟨_, _, rfl, _, rfl, hIx15_, hFx18_, ?_⟩
        refine ⟨hKx19_, ?_⟩
        exact ⟨⟨by omega, by omega⟩, jR_pc hJ_ hIx15_ ht_ ⟨by omega, by omega⟩ hFx18_ hKx19_ y39_ y40_ (by omega) (fun e9_ u0_ u1_ => by (have w9_ := hb_ e9_ u0_ (by omega); rw [y41_, y42_]; omega)) e260_ (by decide)⟩
      · have cx7_ : ¬ (vx6_ ≤ e_) := of_decide_eq_false cx7_
        refine sm_T_go 4 (c1 := (154, [some (.inr (.inr (some (13, 0)))), some (.inl a1_), some (.inl a2_), some (.inl rw9_), some (.inl st_), some (.inl e_), none], [.inl e_, .inl a1_, .inr (.inr (some (13, 0))), .inl st_], S_)) rfl ?_
        refine sm_T_cal (d1 := 1) (Q1 := vq_436 a1_ e_ S_) rfl rfl (by decide) (vc_436 a1_ e_ S_ hI_ (by omega) (by omega)) (fun u_ Sx22_ px25_ => ?_)
        obtain ⟨rfl, vx27_, rfl, px25_⟩ := px25_
        have e154_ := px25_
        rw [z4_] at e154_
        refine sm_T_bin (w := st_ + vx27_) rfl (bi_add (by omega) (by omega) (by omega)) ?_ -- pc_ 157
        refine sm_T_go 1 (c1 := (159, [some (.inr (.inr (some (13, 0)))), some (.inl a1_), some (.inl a2_), some (.inl rw9_), some (.inl st_), some (.inl e_), none], [.inl a2_, .inl (st_ + vx27_)], S_)) rfl ?_
        refine sm_T_br (a := 5) (z := 7) rfl (fun cx28_ => ?_) (fun cx28_ => ?_)
        · have cx28_ : st_ + vx27_ ≤ a2_ := of_decide_eq_true cx28_
          refine sm_T_go 6 (c1 := (180, [some (.inr (.inr (some (13, 0)))), some (.inl a1_), some (.inl a2_), some (.inl rw9_), some (.inl st_), some (.inl e_), some (.inl 0)], [.inl 0, .inl rw9_], S_)) rfl ?_
          refine sm_T_bin (w := rw9_) rfl (bi_add (by omega) (by omega) (by omega)) ?_ -- pc_ 180
          refine sm_T_go 9 (c1 := (203, [some (.inr (.inr (some (13, 0)))), some (.inl a1_), some (.inl a2_), some (.inl rw9_), some (.inl st_), some (.inl e_), some (.inl 0)], [.inl a1_, .inl 156, .inr (.inr (some (241, 0)))], S_)) rfl ?_
          refine sm_T_bin (w := 156 * a1_) rfl (bi_mul (by omega) (by omega) (by omega)) ?_ -- pc_ 203
          refine sm_T_go 1 (c1 := (206, [some (.inr (.inr (some (13, 0)))), some (.inl a1_), some (.inl a2_), some (.inl rw9_), some (.inl st_), some (.inl e_), some (.inl 0)], [.inl e_, .inl (156 * a1_), .inr (.inr (some (241, 0)))], S_)) rfl ?_
          refine sm_T_bin (w := 156 * a1_ + e_) rfl (bi_add (by omega) (by omega) (by omega)) ?_ -- pc_ 206
          refine sm_T_go 1 (c1 := (209, [some (.inr (.inr (some (13, 0)))), some (.inl a1_), some (.inl a2_), some (.inl rw9_), some (.inl st_), some (.inl e_), some (.inl 0)], [.inl st_, .inl (156 * a1_ + e_), .inr (.inr (some (241, 0)))], S_)) rfl ?_
          refine sm_T_iast (n := 624) rfl rfl (by omega) (by omega) ?_
          have hIx29_ : gi (sm_aI S_ 241 0 (156 * a1_ + e_).toNat st_) := gi_aI hI_ (show 0 ≤ st_ ∧ st_ ≤ 60 from ⟨by omega, by omega⟩)
          have hFx30_ : ai_fr (sx_W vw_444) S0_ (sm_aI S_ 241 0 (156 * a1_ + e_).toNat st_) := ai_fr_tr hF_ (ai_fr_aI rfl)
          have hKx31_ : rcf a1_.toNat S0_ (sm_aI S_ 241 0 (156 * a1_ + e_).toNat st_) := rcf_aI hK_ (Or.inr (by rw [show rcs 241 = 156 from rfl]; omega))
          refine sm_T_go 4 (c1 := (218, [some (.inr (.inr (some (13, 0)))), some (.inl a1_), some (.inl a2_), some (.inl rw9_), some (.inl st_), some (.inl e_), some (.inl 0)], [.inl a1_, .inl 156, .inr (.inr (some (242, 0)))], sm_aI S_ 241 0 (156 * a1_ + e_).toNat st_)) rfl ?_
          refine sm_T_bin (w := 156 * a1_) rfl (bi_mul (by omega) (by omega) (by omega)) ?_ -- pc_ 218
          refine sm_T_go 1 (c1 := (221, [some (.inr (.inr (some (13, 0)))), some (.inl a1_), some (.inl a2_), some (.inl rw9_), some (.inl st_), some (.inl e_), some (.inl 0)], [.inl e_, .inl (156 * a1_), .inr (.inr (some (242, 0)))], sm_aI S_ 241 0 (156 * a1_ + e_).toNat st_)) rfl ?_
          refine sm_T_bin (w := 156 * a1_ + e_) rfl (bi_add (by omega) (by omega) (by omega)) ?_ -- pc_ 221
          refine sm_T_go 1 (c1 := (223, [some (.inr (.inr (some (13, 0)))), some (.inl a1_), some (.inl a2_), some (.inl rw9_), some (.inl st_), some (.inl e_), some (.inl 0)], [.inl rw9_, .inl (156 * a1_ + e_), .inr (.inr (some (242, 0)))], sm_aI S_ 241 0 (156 * a1_ + e_).toNat st_)) rfl ?_
          refine sm_T_iast (n := 624) rfl rfl (by omega) (by omega) ?_
          have hIx32_ : gi (sm_aI (sm_aI S_ 241 0 (156 * a1_ + e_).toNat st_) 242 0 (156 * a1_ + e_).toNat rw9_) := gi_aI hIx29_ (show 0 ≤ rw9_ ∧ rw9_ ≤ 12 from ⟨by omega, by omega⟩)
          have hFx33_ : ai_fr (sx_W vw_444) S0_ (sm_aI (sm_aI S_ 241 0 (156 * a1_ + e_).toNat st_) 242 0 (156 * a1_ + e_).toNat rw9_) := ai_fr_tr hFx30_ (ai_fr_aI rfl)
          have hKx34_ : rcf a1_.toNat S0_ (sm_aI (sm_aI S_ 241 0 (156 * a1_ + e_).toNat st_) 242 0 (156 * a1_ + e_).toNat rw9_) := rcf_aI hKx31_ (Or.inr (by rw [show rcs 242 = 156 from rfl]; omega))
          refine sm_T_go 4 (c1 := (230, [some (.inr (.inr (some (13, 0)))), some (.inl a1_), some (.inl a2_), some (.inl rw9_), some (.inl st_), some (.inl e_), some (.inl 0)], [.inl e_, .inl a1_, .inr (.inr (some (13, 0))), .inl st_], sm_aI (sm_aI S_ 241 0 (156 * a1_ + e_).toNat st_) 242 0 (156 * a1_ + e_).toNat rw9_)) rfl ?_
          refine sm_T_cal (d1 := 1) (Q1 := vq_436 a1_ e_ (sm_aI (sm_aI S_ 241 0 (156 * a1_ + e_).toNat st_) 242 0 (156 * a1_ + e_).toNat rw9_)) rfl rfl (by decide) (vc_436 a1_ e_ (sm_aI (sm_aI S_ 241 0 (156 * a1_ + e_).toNat st_) 242 0 (156 * a1_ + e_).toNat rw9_) hIx32_ (by omega) (by (rw [rd_ne (by decide), rd_ne (by decide)]; omega))) (fun u_ Sx35_ px38_ => ?_)
          obtain ⟨rfl, vx40_, rfl, px38_⟩ := px38_
          have e230_ := px38_
          rw [show csz a1_ ((sm_aI (sm_aI S_ 241 0 (156 * a1_ + e_).toNat st_) 242 0 (156 * a1_ + e_).toNat rw9_)) e_ = csz a1_ S_ e_ from csz_eq (by (funext j9_; rw [rd_ne (by decide), rd_ne (by decide)])) (by (funext j9_; rw [rd_ne (by decide), rd_ne (by decide)])) (by (funext j9_; rw [rd_ne (by decide), rd_ne (by decide)])), z4_] at e230_
          refine sm_T_bin (w := st_ + vx40_) rfl (bi_add (by omega) (by omega) (by omega)) ?_ -- pc_ 233
          refine sm_T_go 1 (c1 := (236, [some (.inr (.inr (some (13, 0)))), some (.inl a1_), some (.inl a2_), some (.inl rw9_), some (.inl (st_ + vx40_)), some (.inl e_), some (.inl 0)], [], sm_aI (sm_aI S_ 241 0 (156 * a1_ + e_).toNat st_) 242 0 (156 * a1_ + e_).toNat rw9_)) rfl ?_
          refine sm_T_inc (a := 5) (z := 1) (v := e_) (w := e_ + 1) rfl rfl (by omega) (by omega) (by omega) ?_ -- pc_ 236
          refine sm_T_go 1 (c1 := (138, [some (.inr (.inr (some (13, 0)))), some (.inl a1_), some (.inl a2_), some (.inl rw9_), some (.inl (st_ + vx40_)), some (.inl (e_ + 1)), some (.inl 0)], [], sm_aI (sm_aI S_ 241 0 (156 * a1_ + e_).toNat st_) 242 0 (156 * a1_ + e_).toNat rw9_)) rfl ?_
          refine sm_T_wk [some (.inr (.inr (some (13, 0)))), some (.inl a1_), some (.inl a2_), some (.inl rw9_), some (.inl (st_ + vx40_)), some (.inl (e_ + 1)), none] (by exact ⟨rfl, rfl, rfl, rfl, rfl, rfl, trivial⟩) ?_
          refine ih_.2 rw9_ (st_ + vx40_) (e_ + 1) (sm_aI (sm_aI S_ 241 0 (156 * a1_ + e_).toNat st_) 242 0 (156 * a1_ + e_).toNat rw9_) hIx32_ hFx33_ ⟨?_, ?_, ?_, ?_, ?_, ?_, trivial⟩ ?_
          · omega
          · exact ht_
          · first | (have y9_ : ¬ (a2_ < st_ + csz a1_ S0_ e_) := (by omega); rw [if_neg y9_] at P9_) | (have y9_ : a2_ < st_ + csz a1_ S0_ e_ := (by omega); rw [if_pos y9_] at P9_)
            rw [T9_, P9_]
            exact ⟨by first | rfl | omega, by omega⟩
          · exact hm9_
          · intro e9_ u0_ u1_
            (try simp only [rd_eq, rd_ne, rf_eq, rf_nk, rf_nt, rd_fa, rd_af, rd_fl, rd_al, rd_lf, rd_la, rd_leq, rd_lne, rd_fr, rd_ar, ne_eq, Nat.reduceEqDiff, not_false_eq_true])
            by_cases z9_ : (156 * a1_ + e9_).toNat = (156 * a1_ + e_).toNat
            · rw [if_pos z9_, if_pos z9_, show e9_ = e_ by omega]; omega
            · rw [if_neg z9_, if_neg z9_]; have w9_ := hb_ e9_ u0_ (by omega); omega
          · exact hKx34_
          · omega
        · have cx28_ : ¬ (st_ + vx27_ ≤ a2_) := of_decide_eq_false cx28_
          have M8_ := plc_l (fun j9_ : Nat => csz a1_ S0_ (j9_ : Int)) a2_ (n_ := e_.toNat + 1) (m_ := (S0_.2.2.1 224 0 a1_.toNat + S0_.2.2.1 228 0 a1_.toNat).toNat) (by omega)
          rw [P9_, if_pos (by omega)] at M8_
          have M7_ : rw9_ + 1 ≤ (plc (fun j9_ : Nat => csz a1_ S0_ (j9_ : Int)) a2_ (S0_.2.2.1 224 0 a1_.toNat + S0_.2.2.1 228 0 a1_.toNat).toNat).1 := M8_
          refine sm_T_go 8 (c1 := (180, [some (.inr (.inr (some (13, 0)))), some (.inl a1_), some (.inl a2_), some (.inl rw9_), some (.inl st_), some (.inl e_), some (.inl 1)], [.inl 1, .inl rw9_], S_)) rfl ?_
          refine sm_T_bin (w := rw9_ + 1) rfl (bi_add (by omega) (by omega) (by omega)) ?_ -- pc_ 180
          refine sm_T_go 10 (c1 := (203, [some (.inr (.inr (some (13, 0)))), some (.inl a1_), some (.inl a2_), some (.inl (rw9_ + 1)), some (.inl 0), some (.inl e_), some (.inl 1)], [.inl a1_, .inl 156, .inr (.inr (some (241, 0)))], S_)) rfl ?_
          refine sm_T_bin (w := 156 * a1_) rfl (bi_mul (by omega) (by omega) (by omega)) ?_ -- pc_ 203
          refine sm_T_go 1 (c1 := (206, [some (.inr (.inr (some (13, 0)))), some (.inl a1_), some (.inl a2_), some (.inl (rw9_ + 1)), some (.inl 0), some (.inl e_), some (.inl 1)], [.inl e_, .inl (156 * a1_), .inr (.inr (some (241, 0)))], S_)) rfl ?_
          refine sm_T_bin (w := 156 * a1_ + e_) rfl (bi_add (by omega) (by omega) (by omega)) ?_ -- pc_ 206
          refine sm_T_go 1 (c1 := (209, [some (.inr (.inr (some (13, 0)))), some (.inl a1_), some (.inl a2_), some (.inl (rw9_ + 1)), some (.inl 0), some (.inl e_), some (.inl 1)], [.inl 0, .inl (156 * a1_ + e_), .inr (.inr (some (241, 0)))], S_)) rfl ?_
          refine sm_T_iast (n := 624) rfl rfl (by omega) (by omega) ?_
          have hIx41_ : gi (sm_aI S_ 241 0 (156 * a1_ + e_).toNat 0) := gi_aI hI_ (show 0 ≤ 0 ∧ 0 ≤ 60 from ⟨by omega, by omega⟩)
          have hFx42_ : ai_fr (sx_W vw_444) S0_ (sm_aI S_ 241 0 (156 * a1_ + e_).toNat 0) := ai_fr_tr hF_ (ai_fr_aI rfl)
          have hKx43_ : rcf a1_.toNat S0_ (sm_aI S_ 241 0 (156 * a1_ + e_).toNat 0) := rcf_aI hK_ (Or.inr (by rw [show rcs 241 = 156 from rfl]; omega))
          refine sm_T_go 4 (c1 := (218, [some (.inr (.inr (some (13, 0)))), some (.inl a1_), some (.inl a2_), some (.inl (rw9_ + 1)), some (.inl 0), some (.inl e_), some (.inl 1)], [.inl a1_, .inl 156, .inr (.inr (some (242, 0)))], sm_aI S_ 241 0 (156 * a1_ + e_).toNat 0)) rfl ?_
          refine sm_T_bin (w := 156 * a1_) rfl (bi_mul (by omega) (by omega) (by omega)) ?_ -- pc_ 218
          refine sm_T_go 1 (c1 := (221, [some (.inr (.inr (some (13, 0)))), some (.inl a1_), some (.inl a2_), some (.inl (rw9_ + 1)), some (.inl 0), some (.inl e_), some (.inl 1)], [.inl e_, .inl (156 * a1_), .inr (.inr (some (242, 0)))], sm_aI S_ 241 0 (156 * a1_ + e_).toNat 0)) rfl ?_
          refine sm_T_bin (w := 156 * a1_ + e_) rfl (bi_add (by omega) (by omega) (by omega)) ?_ -- pc_ 221
          refine sm_T_go 1 (c1 := (223, [some (.inr (.inr (some (13, 0)))), some (.inl a1_), some (.inl a2_), some (.inl (rw9_ + 1)), some (.inl 0), some (.inl e_), some (.inl 1)], [.inl (rw9_ + 1), .inl (156 * a1_ + e_), .inr (.inr (some (242, 0)))], sm_aI S_ 241 0 (156 * a1_ + e_).toNat 0)) rfl ?_
          refine sm_T_iast (n := 624) rfl rfl (by omega) (by omega) ?_
          have hIx44_ : gi (sm_aI (sm_aI S_ 241 0 (156 * a1_ + e_).toNat 0) 242 0 (156 * a1_ + e_).toNat (rw9_ + 1)) := gi_aI hIx41_ (show 0 ≤ rw9_ + 1 ∧ rw9_ + 1 ≤ 12 from ⟨by omega, by omega⟩)
          have hFx45_ : ai_fr (sx_W vw_444) S0_ (sm_aI (sm_aI S_ 241 0 (156 * a1_ + e_).toNat 0) 242 0 (156 * a1_ + e_).toNat (rw9_ + 1)) := ai_fr_tr hFx42_ (ai_fr_aI rfl)
          have hKx46_ : rcf a1_.toNat S0_ (sm_aI (sm_aI S_ 241 0 (156 * a1_ + e_).toNat 0) 242 0 (156 * a1_ + e_).toNat (rw9_ + 1)) := rcf_aI hKx43_ (Or.inr (by rw [show rcs 242 = 156 from rfl]; omega))
          refine sm_T_go 4 (c1 := (230, [some (.inr (.inr (some (13, 0)))), some (.inl a1_), some (.inl a2_), some (.inl (rw9_ + 1)), some (.inl 0), some (.inl e_), some (.inl 1)], [.inl e_, .inl a1_, .inr (.inr (some (13, 0))), .inl 0], sm_aI (sm_aI S_ 241 0 (156 * a1_ + e_).toNat 0) 242 0 (156 * a1_ + e_).toNat (rw9_ + 1))) rfl ?_
          refine sm_T_cal (d1 := 1) (Q1 := vq_436 a1_ e_ (sm_aI (sm_aI S_ 241 0 (156 * a1_ + e_).toNat 0) 242 0 (156 * a1_ + e_).toNat (rw9_ + 1))) rfl rfl (by decide) (vc_436 a1_ e_ (sm_aI (sm_aI S_ 241 0 (156 * a1_ + e_).toNat 0) 242 0 (156 * a1_ + e_).toNat (rw9_ + 1)) hIx44_ (by omega) (by (rw [rd_ne (by decide), rd_ne (by decide)]; omega))) (fun u_ Sx47_ px50_ => ?_)
          obtain ⟨rfl, vx52_, rfl, px50_⟩ := px50_
          have e230_ := px50_
          rw [show csz a1_ ((sm_aI (sm_aI S_ 241 0 (156 * a1_ + e_).toNat 0) 242 0 (156 * a1_ + e_).toNat (rw9_ + 1))) e_ = csz a1_ S_ e_ from csz_eq (by (funext j9_; rw [rd_ne (by decide), rd_ne (by decide)])) (by (funext j9_; rw [rd_ne (by decide), rd_ne (by decide)])) (by (funext j9_; rw [rd_ne (by decide), rd_ne (by decide)])), z4_] at e230_
          refine sm_T_bin (w := vx52_) rfl (bi_add (by omega) (by omega) (by omega)) ?_ -- pc_ 233
          refine sm_T_go 1 (c1 := (236, [some (.inr (.inr (some (13, 0)))), some (.inl a1_), some (.inl a2_), some (.inl (rw9_ + 1)), some (.inl vx52_), some (.inl e_), some (.inl 1)], [], sm_aI (sm_aI S_ 241 0 (156 * a1_ + e_).toNat 0) 242 0 (156 * a1_ + e_).toNat (rw9_ + 1))) rfl ?_
          refine sm_T_inc (a := 5) (z := 1) (v := e_) (w := e_ + 1) rfl rfl (by omega) (by omega) (by omega) ?_ -- pc_ 236
          refine sm_T_go 1 (c1 := (138, [some (.inr (.inr (some (13, 0)))), some (.inl a1_), some (.inl a2_), some (.inl (rw9_ + 1)), some (.inl vx52_), some (.inl (e_ + 1)), some (.inl 1)], [], sm_aI (sm_aI S_ 241 0 (156 * a1_ + e_).toNat 0) 242 0 (156 * a1_ + e_).toNat (rw9_ + 1))) rfl ?_
          refine sm_T_wk [some (.inr (.inr (some (13, 0)))), some (.inl a1_), some (.inl a2_), some (.inl (rw9_ + 1)), some (.inl vx52_), some (.inl (e_ + 1)), none] (by exact ⟨rfl, rfl, rfl, rfl, rfl, rfl, trivial⟩) ?_
          refine ih_.2 (rw9_ + 1) vx52_ (e_ + 1) (sm_aI (sm_aI S_ 241 0 (156 * a1_ + e_).toNat 0) 242 0 (156 * a1_ + e_).toNat (rw9_ + 1)) hIx44_ hFx45_ ⟨?_, ?_, ?_, ?_, ?_, ?_, trivial⟩ ?_
          · omega
          · exact ht_
          · first | (have y9_ : ¬ (a2_ < st_ + csz a1_ S0_ e_) := (by omega); rw [if_neg y9_] at P9_) | (have y9_ : a2_ < st_ + csz a1_ S0_ e_ := (by omega); rw [if_pos y9_] at P9_)
            rw [T9_, P9_]
            exact ⟨by first | rfl | omega, by omega⟩
          · exact hm9_
          · intro e9_ u0_ u1_
            (try simp only [rd_eq, rd_ne, rf_eq, rf_nk, rf_nt, rd_fa, rd_af, rd_fl, rd_al, rd_lf, rd_la, rd_leq, rd_lne, rd_fr, rd_ar, ne_eq, Nat.reduceEqDiff, not_false_eq_true])
            by_cases z9_ : (156 * a1_ + e9_).toNat = (156 * a1_ + e_).toNat
            · rw [if_pos z9_, if_pos z9_, show e9_ = e_ by omega]; omega
            · rw [if_neg z9_, if_neg z9_]; have w9_ := hb_ e9_ u0_ (by omega); omega
          · exact hKx46_
          · omega
set_option maxHeartbeats 2000000 in
set_option maxRecDepth 20000 in
theorem vc_444 {sc_ : Nat × (Nat → Int)} (a1_ : Int) (a2_ : Int) (S0_ : sm_S) (hI_ : gi S0_) (ha1_ : (-2147483648) ≤ a1_ ∧ a1_ ≤ 2147483647) (ha2_ : (-2147483648) ≤ a2_ ∧ a2_ ≤ 2147483647) (hJ_ : jR S0_) : sm_T (mt_P sc_) 2 444 (0, [some (.inr (.inr (some (13, 0)))), some (.inl a1_), some (.inl a2_), none, none, none, none], [], S0_) (fun ro9_ => ∃ u_ S1_, ro9_ = (.inl u_, S1_, 0) ∧ vq_444 a1_ a2_ S0_ u_ S1_) := by
  have hF_ : ai_fr (sx_W vw_444) S0_ S0_ := ai_fr_rf
  have hK_ : rcf a1_.toNat S0_ S0_ := rcf_rf
  refine sm_T_go 3 (c1 := (3, [some (.inr (.inr (some (13, 0)))), some (.inl a1_), some (.inl a2_), none, none, none, none], [.inl a1_, .inr (.inr (some (13, 0))), .inr (.inr (some (13, 0)))], S0_)) rfl ?_
  refine sm_T_cal (d1 := 0) (Q1 := vq_371 a1_ S0_) rfl rfl (by decide) (vc_371 a1_ S0_ hI_ (by omega)) (fun u_ Sx1_ px4_ => ?_)
  obtain ⟨rfl, vx6_, rfl, px4_⟩ := px4_
  have d3_ := px4_
  refine sm_T_b0 (a := 1) (z := 7) rfl (fun cx7_ => ?_) (fun cx7_ => ?_)
  · have cx7_ : vx6_ ≠ 0 := of_decide_eq_true cx7_
    refine sm_T_go 3 (c1 := (17, [some (.inr (.inr (some (13, 0)))), some (.inl a1_), some (.inl a2_), none, none, none, none], [.inl 60, .inl 4, .inl a2_, .inr (.inr (some (13, 0)))], S0_)) rfl ?_
    refine sm_T_cal (d1 := 0) (Q1 := vq_278 a2_ 4 60 S0_) rfl rfl (by decide) (vc_278 a2_ 4 60 S0_ hI_ ) (fun u_ Sx8_ px11_ => ?_)
    obtain ⟨rfl, vx13_, rfl, px11_⟩ := px11_
    refine sm_T_b0 (a := 1) (z := 7) rfl (fun cx14_ => ?_) (fun cx14_ => ?_)
    · have cx14_ : vx13_ ≠ 0 := of_decide_eq_true cx14_
      have hIx15_ : gi (sm_pI S0_ 13 0 0 0) := gi_pI hI_ (show 0 ≤ 0 ∧ 0 ≤ 4 from ⟨by omega, by omega⟩)
      have hFx16_ : ai_fr (sx_W vw_444) S0_ (sm_pI S0_ 13 0 0 0) := ai_fr_tr hF_ (ai_fr_pI rfl)
      have hKx17_ : rcf a1_.toNat S0_ (sm_pI S0_ 13 0 0 0) := hK_
      refine sm_T_go 11 (c1 := (48, [some (.inr (.inr (some (13, 0)))), some (.inl a1_), some (.inl a2_), some (.inl 0), some (.inl 0), some (.inl 0), none], [], sm_pI S0_ 13 0 0 0)) rfl ?_
      refine (vl_444 a1_ a2_ S0_ ha1_ ha2_ hJ_ _).1 0 0 0 (sm_pI S0_ 13 0 0 0) hIx15_ hFx16_ ⟨?_, ?_, ?_, ?_, ?_, trivial⟩ (Nat.lt_succ_self _)
      · (have q2_ : 0 ≤ S0_.2.2.1 224 0 a1_.toNat := (hI_.2 224 0 _).1; have q3_ : 0 ≤ S0_.2.2.1 228 0 a1_.toNat := (hI_.2 228 0 _).1; omega)
      · omega
      · exact ⟨rfl, rfl⟩
      · exact ⟨rfl, rfl, rfl, rfl, rfl⟩
      · exact hKx17_
    · have cx14_ : ¬ (vx13_ ≠ 0) := of_decide_eq_false cx14_
      have hIx18_ : gi (sm_pI S0_ 13 0 0 2) := gi_pI hI_ (show 0 ≤ 2 ∧ 2 ≤ 4 from ⟨by omega, by omega⟩)
      have hFx19_ : ai_fr (sx_W vw_444) S0_ (sm_pI S0_ 13 0 0 2) := ai_fr_tr hF_ (ai_fr_pI rfl)
      have hKx20_ : rcf a1_.toNat S0_ (sm_pI S0_ 13 0 0 2) := hK_
      refine sm_T_go 7 (c1 := (39, [some (.inr (.inr (some (13, 0)))), some (.inl a1_), some (.inl a2_), none, none, none, none], [.inl 0], sm_pI S0_ 13 0 0 2)) rfl ?_
      refine sm_T_ri rfl ⟨_, _, rfl, _, rfl, hIx18_, hFx19_, ?_⟩
      refine ⟨hKx20_, ?_⟩
      exact ⟨⟨by omega, by omega⟩, hJ_⟩
  · have cx7_ : ¬ (vx6_ ≠ 0) := of_decide_eq_false cx7_
    have hIx21_ : gi (sm_pI S0_ 13 0 0 1) := gi_pI hI_ (show 0 ≤ 1 ∧ 1 ≤ 4 from ⟨by omega, by omega⟩)
    have hFx22_ : ai_fr (sx_W vw_444) S0_ (sm_pI S0_ 13 0 0 1) := ai_fr_tr hF_ (ai_fr_pI rfl)
    have hKx23_ : rcf a1_.toNat S0_ (sm_pI S0_ 13 0 0 1) := hK_
    refine sm_T_go 7 (c1 := (39, [some (.inr (.inr (some (13, 0)))), some (.inl a1_), some (.inl a2_), none, none, none, none], [.inl 0], sm_pI S0_ 13 0 0 1)) rfl ?_
    refine sm_T_ri rfl ⟨_, _, rfl, _, rfl, hIx21_, hFx22_, ?_⟩
    refine ⟨hKx23_, ?_⟩
    exact ⟨⟨by omega, by omega⟩, hJ_⟩
/-! M_.move -/
def vw_447 : sx_Wl := ([(13, 0)], [241, 242, 251, 263], [])
def vq_447 (a1_ : Int) (a2_ : Int) (a3_ : Int) (a4_ : Int) (S0_ : sm_S) (u_ : Option sm_V) (S1_ : sm_S) : Prop := ∃ v_ : Int, u_ = some (.inl v_) ∧ gi S1_ ∧ ai_fr (sx_W vw_447) S0_ S1_ ∧ (rcf a1_.toNat S0_ S1_ ∧ ((-2147483648 ≤ v_ ∧ v_ ≤ 2147483647) ∧ jR S1_))
set_option maxHeartbeats 2000000 in
set_option maxRecDepth 20000 in
theorem vl_447 {sc_ : Nat × (Nat → Int)} (a1_ : Int) (a2_ : Int) (a3_ : Int) (a4_ : Int) (S0_ : sm_S) (ha1_ : (-2147483648) ≤ a1_ ∧ a1_ ≤ 2147483647) (ha2_ : (-2147483648) ≤ a2_ ∧ a2_ ≤ 2147483647) (ha3_ : (-2147483648) ≤ a3_ ∧ a3_ ≤ 2147483647) (ha4_ : (-2147483648) ≤ a4_ ∧ a4_ ≤ 2147483647) (hJ_ : jR S0_) : ∀ nn_ : Nat, (∀ (o_ : Int) (S_ : sm_S), gi S_ → ai_fr (sx_W vw_447) S0_ S_ → ((0 ≤ a1_ ∧ a1_ < 4 ∧ 0 ≤ a2_ ∧ a2_ < (S0_.2.2.1 224 0 a1_.toNat + S0_.2.2.1 228 0 a1_.toNat) ∧ 0 ≤ a3_ ∧ 0 ≤ a4_ ∧ 0 ≤ o_ ∧ o_ ≤ 156) ∧ (S0_.2.2.1 222 0 a1_.toNat = 1 ∧ a4_ < S0_.2.2.1 240 0 a1_.toNat ∧ a3_ + csz a1_ S0_ a2_ ≤ S0_.2.2.1 239 0 a1_.toNat) ∧ (S_ = sm_pI S0_ 13 0 0 0) ∧ (rcf a1_.toNat S0_ S_) ∧ True) → ((9000 - o_).toNat) < nn_ → sm_T (mt_P sc_) 3 447 (80, [some (.inr (.inr (some (13, 0)))), some (.inl a1_), some (.inl a2_), some (.inl a3_), some (.inl a4_), some (.inl o_), none], [], S_) (fun ro9_ => ∃ u_ S1_, ro9_ = (.inl u_, S1_, 0) ∧ vq_447 a1_ a2_ a3_ a4_ S0_ u_ S1_)) := by
  intro nn_
  induction nn_ with
  | zero => exact fun _ _ _ _ _ h_ => absurd h_ (Nat.not_lt_zero _)
  | succ nn_ ih_ =>
    rintro o_ S_ hI_ hF_ ⟨h0_, ht_, h4_, hK_, -⟩ hm_
    have z4_ : ∀ q9_, csz a1_ S_ q9_ = csz a1_ S0_ q9_ := fun q9_ => by (rw [h4_]; rfl)
    have f224_ : S_.2.2.1 224 0 = S0_.2.2.1 224 0 := by (rw [h4_]; rfl)
    have f228_ : S_.2.2.1 228 0 = S0_.2.2.1 228 0 := by (rw [h4_]; rfl)
    have f239_ : S_.2.2.1 239 0 = S0_.2.2.1 239 0 := by (rw [h4_]; rfl)
    have x224_ : S_.2.2.1 224 0 a1_.toNat = S0_.2.2.1 224 0 a1_.toNat := congrFun f224_ _
    have x228_ : S_.2.2.1 228 0 a1_.toNat = S0_.2.2.1 228 0 a1_.toNat := congrFun f228_ _
    have x239_ : S_.2.2.1 239 0 a1_.toNat = S0_.2.2.1 239 0 a1_.toNat := congrFun f239_ _
    have c39_ : 0 ≤ S_.2.2.1 239 0 a1_.toNat ∧ S_.2.2.1 239 0 a1_.toNat ≤ 60 := hI_.2 239 0 _
    have c40_ : 0 ≤ S0_.2.2.1 240 0 a1_.toNat ∧ S0_.2.2.1 240 0 a1_.toNat ≤ 12 := by (have w9_ := hI_.2 240 0 a1_.toNat; rw [h4_] at w9_; exact w9_)
    have cE_ : 0 ≤ S_.2.2.1 224 0 a1_.toNat ∧ S_.2.2.1 224 0 a1_.toNat ≤ 6 := hI_.2 224 0 _
    have cG_ : 0 ≤ S_.2.2.1 228 0 a1_.toNat ∧ S_.2.2.1 228 0 a1_.toNat ≤ 150 := hI_.2 228 0 _
    have cz_ := csz_b (c_ := a1_) (e_ := a2_) hI_
    rw [z4_] at cz_
    have jS_ : jR S_ := by (rw [h4_]; exact hJ_)
    refine sm_T_go 3 (c1 := (84, [some (.inr (.inr (some (13, 0)))), some (.inl a1_), some (.inl a2_), some (.inl a3_), some (.inl a4_), some (.inl o_), none], [.inl a1_, .inr (.inr (some (13, 0))), .inl o_], S_)) rfl ?_
    refine sm_T_cal (d1 := 0) (Q1 := vq_423 a1_ S_) rfl rfl (by decide) (vc_423 a1_ S_ hI_ (by omega)) (fun u_ Sx1_ px4_ => ?_)
    obtain ⟨rfl, vx6_, rfl, px4_⟩ := px4_
    refine sm_T_br (a := 3) (z := 77) rfl (fun cx7_ => ?_) (fun cx7_ => ?_)
    · have cx7_ : vx6_ ≤ o_ := of_decide_eq_true cx7_
      refine sm_T_go 4 (c1 := (172, [some (.inr (.inr (some (13, 0)))), some (.inl a1_), some (.inl a2_), some (.inl a3_), some (.inl a4_), some (.inl o_), none], [.inl a1_, .inl 156, .inr (.inr (some (241, 0)))], S_)) rfl ?_
      refine sm_T_bin (w := 156 * a1_) rfl (bi_mul (by omega) (by omega) (by omega)) ?_ -- pc_ 172
      refine sm_T_go 1 (c1 := (174, [some (.inr (.inr (some (13, 0)))), some (.inl a1_), some (.inl a2_), some (.inl a3_), some (.inl a4_), some (.inl o_), none], [.inl a2_, .inl (156 * a1_), .inr (.inr (some (241, 0)))], S_)) rfl ?_
      refine sm_T_bin (w := 156 * a1_ + a2_) rfl (bi_add (by omega) (by omega) (by omega)) ?_ -- pc_ 174
      refine sm_T_go 1 (c1 := (176, [some (.inr (.inr (some (13, 0)))), some (.inl a1_), some (.inl a2_), some (.inl a3_), some (.inl a4_), some (.inl o_), none], [.inl a3_, .inl (156 * a1_ + a2_), .inr (.inr (some (241, 0)))], S_)) rfl ?_
      refine sm_T_iast (n := 624) rfl rfl (by omega) (by omega) ?_
      have hIx8_ : gi (sm_aI S_ 241 0 (156 * a1_ + a2_).toNat a3_) := gi_aI hI_ (show 0 ≤ a3_ ∧ a3_ ≤ 60 from ⟨by omega, by omega⟩)
      have hFx9_ : ai_fr (sx_W vw_447) S0_ (sm_aI S_ 241 0 (156 * a1_ + a2_).toNat a3_) := ai_fr_tr hF_ (ai_fr_aI rfl)
      have hKx10_ : rcf a1_.toNat S0_ (sm_aI S_ 241 0 (156 * a1_ + a2_).toNat a3_) := rcf_aI hK_ (Or.inr (by rw [show rcs 241 = 156 from rfl]; omega))
      refine sm_T_go 4 (c1 := (185, [some (.inr (.inr (some (13, 0)))), some (.inl a1_), some (.inl a2_), some (.inl a3_), some (.inl a4_), some (.inl o_), none], [.inl a1_, .inl 156, .inr (.inr (some (242, 0)))], sm_aI S_ 241 0 (156 * a1_ + a2_).toNat a3_)) rfl ?_
      refine sm_T_bin (w := 156 * a1_) rfl (bi_mul (by omega) (by omega) (by omega)) ?_ -- pc_ 185
      refine sm_T_go 1 (c1 := (187, [some (.inr (.inr (some (13, 0)))), some (.inl a1_), some (.inl a2_), some (.inl a3_), some (.inl a4_), some (.inl o_), none], [.inl a2_, .inl (156 * a1_), .inr (.inr (some (242, 0)))], sm_aI S_ 241 0 (156 * a1_ + a2_).toNat a3_)) rfl ?_
      refine sm_T_bin (w := 156 * a1_ + a2_) rfl (bi_add (by omega) (by omega) (by omega)) ?_ -- pc_ 187
      refine sm_T_go 1 (c1 := (190, [some (.inr (.inr (some (13, 0)))), some (.inl a1_), some (.inl a2_), some (.inl a3_), some (.inl a4_), some (.inl o_), none], [.inl a4_, .inl (156 * a1_ + a2_), .inr (.inr (some (242, 0)))], sm_aI S_ 241 0 (156 * a1_ + a2_).toNat a3_)) rfl ?_
      refine sm_T_iast (n := 624) rfl rfl (by omega) (by omega) ?_
      have hIx11_ : gi (sm_aI (sm_aI S_ 241 0 (156 * a1_ + a2_).toNat a3_) 242 0 (156 * a1_ + a2_).toNat a4_) := gi_aI hIx8_ (show 0 ≤ a4_ ∧ a4_ ≤ 12 from ⟨by omega, by omega⟩)
      have hFx12_ : ai_fr (sx_W vw_447) S0_ (sm_aI (sm_aI S_ 241 0 (156 * a1_ + a2_).toNat a3_) 242 0 (156 * a1_ + a2_).toNat a4_) := ai_fr_tr hFx9_ (ai_fr_aI rfl)
      have hKx13_ : rcf a1_.toNat S0_ (sm_aI (sm_aI S_ 241 0 (156 * a1_ + a2_).toNat a3_) 242 0 (156 * a1_ + a2_).toNat a4_) := rcf_aI hKx10_ (Or.inr (by rw [show rcs 242 = 156 from rfl]; omega))
      refine sm_T_go 2 (c1 := (193, [some (.inr (.inr (some (13, 0)))), some (.inl a1_), some (.inl a2_), some (.inl a3_), some (.inl a4_), some (.inl o_), none], [.inl a1_, .inr (.inr (some (13, 0)))], sm_aI (sm_aI S_ 241 0 (156 * a1_ + a2_).toNat a3_) 242 0 (156 * a1_ + a2_).toNat a4_)) rfl ?_
      refine sm_T_cal (d1 := 0) (Q1 := vq_443 a1_ (sm_aI (sm_aI S_ 241 0 (156 * a1_ + a2_).toNat a3_) 242 0 (156 * a1_ + a2_).toNat a4_)) rfl rfl (by decide) (vc_443 a1_ (sm_aI (sm_aI S_ 241 0 (156 * a1_ + a2_).toNat a3_) 242 0 (156 * a1_ + a2_).toNat a4_) hIx11_ (by omega)) (fun u_ Sx14_ px17_ => ?_)
      obtain ⟨rfl, hIx15_, hFx16_, px17_⟩ := px17_
      have hFx18_ : ai_fr (sx_W vw_447) S0_ Sx14_ := ai_fr_tr hFx12_ (fr_le hFx16_ rfl)
      obtain ⟨dx20_, px17_⟩ := px17_
      have hKx19_ : rcf a1_.toNat S0_ Sx14_ := rcf_tr hKx13_ (rcf_cg (by omega) dx20_)
      have e193_ := px17_
      have y41_ : ∀ k9_, Sx14_.2.2.1 241 0 k9_ = if k9_ = (156 * a1_ + a2_).toNat then a3_ else S_.2.2.1 241 0 k9_ := fun k9_ => (congrFun (fr_arr (t := 241) (i := 0) hFx16_ rfl) _).trans (by rw [rd_ne (by decide), rd_eq])
      have y42_ : ∀ k9_, Sx14_.2.2.1 242 0 k9_ = if k9_ = (156 * a1_ + a2_).toNat then a4_ else S_.2.2.1 242 0 k9_ := fun k9_ => (congrFun (fr_arr (t := 242) (i := 0) hFx16_ rfl) _).trans (by rw [rd_eq, rd_ne (by decide)])
      refine sm_T_go 1 (c1 := (197, [some (.inr (.inr (some (13, 0)))), some (.inl a1_), some (.inl a2_), some (.inl a3_), some (.inl a4_), some (.inl o_), none], [.inl 1], Sx14_)) rfl ?_
      refine sm_T_rz rfl (by omega) ⟨_, _, rfl, _, rfl, hIx15_, hFx18_, ?_⟩
      refine ⟨hKx19_, ?_⟩
      refine ⟨⟨by omega, by omega⟩, jR_mv (e_ := a2_) hJ_ hIx15_ ht_.1 ⟨by omega, by omega⟩ hFx18_ hKx19_ ⟨by omega, by omega⟩ (fun k9_ => by (rw [y41_, h4_]; rfl)) (fun k9_ => by (rw [y42_, h4_]; rfl)) ht_.2.2 ht_.2.1 e193_ (by decide)⟩
    · have cx7_ : ¬ (vx6_ ≤ o_) := of_decide_eq_false cx7_
      refine sm_T_go 4 (c1 := (98, [some (.inr (.inr (some (13, 0)))), some (.inl a1_), some (.inl a2_), some (.inl a3_), some (.inl a4_), some (.inl o_), none], [.inl a1_, .inl 156, .inr (.inr (some (241, 0)))], S_)) rfl ?_
      refine sm_T_bin (w := 156 * a1_) rfl (bi_mul (by omega) (by omega) (by omega)) ?_ -- pc_ 98
      refine sm_T_go 1 (c1 := (101, [some (.inr (.inr (some (13, 0)))), some (.inl a1_), some (.inl a2_), some (.inl a3_), some (.inl a4_), some (.inl o_), none], [.inl o_, .inl (156 * a1_), .inr (.inr (some (241, 0)))], S_)) rfl ?_
      refine sm_T_bin (w := 156 * a1_ + o_) rfl (bi_add (by omega) (by omega) (by omega)) ?_ -- pc_ 101
      refine sm_T_iald (n := 624) rfl rfl (by omega) (by omega) ?_
      have bx21_ : 0 ≤ S_.2.2.1 241 0 (156 * a1_ + o_).toNat ∧ S_.2.2.1 241 0 (156 * a1_ + o_).toNat ≤ 60 := hI_.2 241 0 _
      refine sm_T_go 3 (c1 := (108, [some (.inr (.inr (some (13, 0)))), some (.inl a1_), some (.inl a2_), some (.inl a3_), some (.inl a4_), some (.inl o_), some (.inl (S_.2.2.1 241 0 (156 * a1_ + o_).toNat))], [.inl a2_, .inl o_], S_)) rfl ?_
      refine sm_T_br (a := 0) (z := 50) rfl (fun cx22_ => ?_) (fun cx22_ => ?_)
      · have cx22_ : o_ = a2_ := of_decide_eq_true cx22_
        refine sm_T_inc (a := 5) (z := 1) (v := o_) (w := o_ + 1) rfl rfl (by omega) (by omega) (by omega) ?_ -- pc_ 158
        refine sm_T_go 1 (c1 := (80, [some (.inr (.inr (some (13, 0)))), some (.inl a1_), some (.inl a2_), some (.inl a3_), some (.inl a4_), some (.inl (o_ + 1)), some (.inl (S_.2.2.1 241 0 (156 * a1_ + o_).toNat))], [], S_)) rfl ?_
        refine sm_T_wk [some (.inr (.inr (some (13, 0)))), some (.inl a1_), some (.inl a2_), some (.inl a3_), some (.inl a4_), some (.inl (o_ + 1)), none] (by exact ⟨rfl, rfl, rfl, rfl, rfl, rfl, trivial⟩) ?_
        refine ih_ (o_ + 1) S_ hI_ hF_ ⟨?_, ?_, ?_, ?_, trivial⟩ ?_
        · omega
        · exact ht_
        · exact h4_
        · exact hK_
        · omega
      · have cx22_ : ¬ (o_ = a2_) := of_decide_eq_false cx22_
        refine sm_T_go 4 (c1 := (119, [some (.inr (.inr (some (13, 0)))), some (.inl a1_), some (.inl a2_), some (.inl a3_), some (.inl a4_), some (.inl o_), some (.inl (S_.2.2.1 241 0 (156 * a1_ + o_).toNat))], [.inl a1_, .inl 156, .inr (.inr (some (242, 0)))], S_)) rfl ?_
        refine sm_T_bin (w := 156 * a1_) rfl (bi_mul (by omega) (by omega) (by omega)) ?_ -- pc_ 119
        refine sm_T_go 1 (c1 := (122, [some (.inr (.inr (some (13, 0)))), some (.inl a1_), some (.inl a2_), some (.inl a3_), some (.inl a4_), some (.inl o_), some (.inl (S_.2.2.1 241 0 (156 * a1_ + o_).toNat))], [.inl o_, .inl (156 * a1_), .inr (.inr (some (242, 0)))], S_)) rfl ?_
        refine sm_T_bin (w := 156 * a1_ + o_) rfl (bi_add (by omega) (by omega) (by omega)) ?_ -- pc_ 122
        refine sm_T_iald (n := 624) rfl rfl (by omega) (by omega) ?_
        have bx23_ : 0 ≤ S_.2.2.1 242 0 (156 * a1_ + o_).toNat ∧ S_.2.2.1 242 0 (156 * a1_ + o_).toNat ≤ 12 := hI_.2 242 0 _
        refine sm_T_go 1 (c1 := (126, [some (.inr (.inr (some (13, 0)))), some (.inl a1_), some (.inl a2_), some (.inl a3_), some (.inl a4_), some (.inl o_), some (.inl (S_.2.2.1 241 0 (156 * a1_ + o_).toNat))], [.inl a4_, .inl (S_.2.2.1 242 0 (156 * a1_ + o_).toNat)], S_)) rfl ?_
        refine sm_T_br (a := 1) (z := 32) rfl (fun cx24_ => ?_) (fun cx24_ => ?_)
        · have cx24_ : (S_.2.2.1 242 0 (156 * a1_ + o_).toNat) ≠ a4_ := of_decide_eq_true cx24_
          refine sm_T_inc (a := 5) (z := 1) (v := o_) (w := o_ + 1) rfl rfl (by omega) (by omega) (by omega) ?_ -- pc_ 158
          refine sm_T_go 1 (c1 := (80, [some (.inr (.inr (some (13, 0)))), some (.inl a1_), some (.inl a2_), some (.inl a3_), some (.inl a4_), some (.inl (o_ + 1)), some (.inl (S_.2.2.1 241 0 (156 * a1_ + o_).toNat))], [], S_)) rfl ?_
          refine sm_T_wk [some (.inr (.inr (some (13, 0)))), some (.inl a1_), some (.inl a2_), some (.inl a3_), some (.inl a4_), some (.inl (o_ + 1)), none] (by exact ⟨rfl, rfl, rfl, rfl, rfl, rfl, trivial⟩) ?_
          refine ih_ (o_ + 1) S_ hI_ hF_ ⟨?_, ?_, ?_, ?_, trivial⟩ ?_
          · omega
          · exact ht_
          · exact h4_
          · exact hK_
          · omega
        · have cx24_ : ¬ ((S_.2.2.1 242 0 (156 * a1_ + o_).toNat) ≠ a4_) := of_decide_eq_false cx24_
          refine sm_T_go 5 (c1 := (135, [some (.inr (.inr (some (13, 0)))), some (.inl a1_), some (.inl a2_), some (.inl a3_), some (.inl a4_), some (.inl o_), some (.inl (S_.2.2.1 241 0 (156 * a1_ + o_).toNat))], [.inl a2_, .inl a1_, .inr (.inr (some (13, 0))), .inl a3_, .inl (S_.2.2.1 241 0 (156 * a1_ + o_).toNat)], S_)) rfl ?_
          refine sm_T_cal (d1 := 1) (Q1 := vq_436 a1_ a2_ S_) rfl rfl (by decide) (vc_436 a1_ a2_ S_ hI_ (by omega) (by omega)) (fun u_ Sx25_ px28_ => ?_)
          obtain ⟨rfl, vx30_, rfl, px28_⟩ := px28_
          have e135_ := px28_
          rw [z4_] at e135_
          refine sm_T_bin (w := a3_ + vx30_) rfl (bi_add (by omega) (by omega) (by omega)) ?_ -- pc_ 138
          refine sm_T_br (a := 3) (z := 19) rfl (fun cx31_ => ?_) (fun cx31_ => ?_)
          · have cx31_ : a3_ + vx30_ ≤ (S_.2.2.1 241 0 (156 * a1_ + o_).toNat) := of_decide_eq_true cx31_
            refine sm_T_inc (a := 5) (z := 1) (v := o_) (w := o_ + 1) rfl rfl (by omega) (by omega) (by omega) ?_ -- pc_ 158
            refine sm_T_go 1 (c1 := (80, [some (.inr (.inr (some (13, 0)))), some (.inl a1_), some (.inl a2_), some (.inl a3_), some (.inl a4_), some (.inl (o_ + 1)), some (.inl (S_.2.2.1 241 0 (156 * a1_ + o_).toNat))], [], S_)) rfl ?_
            refine sm_T_wk [some (.inr (.inr (some (13, 0)))), some (.inl a1_), some (.inl a2_), some (.inl a3_), some (.inl a4_), some (.inl (o_ + 1)), none] (by exact ⟨rfl, rfl, rfl, rfl, rfl, rfl, trivial⟩) ?_
            refine ih_ (o_ + 1) S_ hI_ hF_ ⟨?_, ?_, ?_, ?_, trivial⟩ ?_
            · omega
            · exact ht_
            · exact h4_
            · exact hK_
            · omega
          · have cx31_ : ¬ (a3_ + vx30_ ≤ (S_.2.2.1 241 0 (156 * a1_ + o_).toNat)) := of_decide_eq_false cx31_
            refine sm_T_go 5 (c1 := (149, [some (.inr (.inr (some (13, 0)))), some (.inl a1_), some (.inl a2_), some (.inl a3_), some (.inl a4_), some (.inl o_), some (.inl (S_.2.2.1 241 0 (156 * a1_ + o_).toNat))], [.inl o_, .inl a1_, .inr (.inr (some (13, 0))), .inl (S_.2.2.1 241 0 (156 * a1_ + o_).toNat), .inl a3_], S_)) rfl ?_
            refine sm_T_cal (d1 := 1) (Q1 := vq_436 a1_ o_ S_) rfl rfl (by decide) (vc_436 a1_ o_ S_ hI_ (by omega) (by omega)) (fun u_ Sx32_ px35_ => ?_)
            obtain ⟨rfl, vx37_, rfl, px35_⟩ := px35_
            have e149_ := px35_
            refine sm_T_bin (w := (S_.2.2.1 241 0 (156 * a1_ + o_).toNat) + vx37_) rfl (bi_add (by omega) (by omega) (by omega)) ?_ -- pc_ 152
            refine sm_T_br (a := 3) (z := 5) rfl (fun cx38_ => ?_) (fun cx38_ => ?_)
            · have cx38_ : (S_.2.2.1 241 0 (156 * a1_ + o_).toNat) + vx37_ ≤ a3_ := of_decide_eq_true cx38_
              refine sm_T_inc (a := 5) (z := 1) (v := o_) (w := o_ + 1) rfl rfl (by omega) (by omega) (by omega) ?_ -- pc_ 158
              refine sm_T_go 1 (c1 := (80, [some (.inr (.inr (some (13, 0)))), some (.inl a1_), some (.inl a2_), some (.inl a3_), some (.inl a4_), some (.inl (o_ + 1)), some (.inl (S_.2.2.1 241 0 (156 * a1_ + o_).toNat))], [], S_)) rfl ?_
              refine sm_T_wk [some (.inr (.inr (some (13, 0)))), some (.inl a1_), some (.inl a2_), some (.inl a3_), some (.inl a4_), some (.inl (o_ + 1)), none] (by exact ⟨rfl, rfl, rfl, rfl, rfl, rfl, trivial⟩) ?_
              refine ih_ (o_ + 1) S_ hI_ hF_ ⟨?_, ?_, ?_, ?_, trivial⟩ ?_
              · omega
              · exact ht_
              · exact h4_
              · exact hK_
              · omega
            · have cx38_ : ¬ ((S_.2.2.1 241 0 (156 * a1_ + o_).toNat) + vx37_ ≤ a3_) := of_decide_eq_false cx38_
              refine sm_T_go 1 (c1 := (157, [some (.inr (.inr (some (13, 0)))), some (.inl a1_), some (.inl a2_), some (.inl a3_), some (.inl a4_), some (.inl o_), some (.inl (S_.2.2.1 241 0 (156 * a1_ + o_).toNat))], [.inl 0], S_)) rfl ?_
              refine sm_T_rz rfl (by omega) ⟨_, _, rfl, _, rfl, hI_, hF_, ?_⟩
              refine ⟨hK_, ?_⟩
              exact ⟨⟨by omega, by omega⟩, jS_⟩
set_option maxHeartbeats 2000000 in
set_option maxRecDepth 20000 in
theorem vc_447 {sc_ : Nat × (Nat → Int)} (a1_ : Int) (a2_ : Int) (a3_ : Int) (a4_ : Int) (S0_ : sm_S) (hI_ : gi S0_) (ha1_ : (-2147483648) ≤ a1_ ∧ a1_ ≤ 2147483647) (ha2_ : (-2147483648) ≤ a2_ ∧ a2_ ≤ 2147483647) (ha3_ : (-2147483648) ≤ a3_ ∧ a3_ ≤ 2147483647) (ha4_ : (-2147483648) ≤ a4_ ∧ a4_ ≤ 2147483647) (hJ_ : jR S0_) : sm_T (mt_P sc_) 3 447 (0, [some (.inr (.inr (some (13, 0)))), some (.inl a1_), some (.inl a2_), some (.inl a3_), some (.inl a4_), none, none], [], S0_) (fun ro9_ => ∃ u_ S1_, ro9_ = (.inl u_, S1_, 0) ∧ vq_447 a1_ a2_ a3_ a4_ S0_ u_ S1_) := by
  have hF_ : ai_fr (sx_W vw_447) S0_ S0_ := ai_fr_rf
  have hK_ : rcf a1_.toNat S0_ S0_ := rcf_rf
  refine sm_T_go 4 (c1 := (4, [some (.inr (.inr (some (13, 0)))), some (.inl a1_), some (.inl a2_), some (.inl a3_), some (.inl a4_), none, none], [.inl a2_, .inl a1_, .inr (.inr (some (13, 0))), .inr (.inr (some (13, 0)))], S0_)) rfl ?_
  refine sm_T_cal (d1 := 1) (Q1 := vq_445 a1_ a2_ S0_) rfl rfl (by decide) (vc_445 a1_ a2_ S0_ hI_ (by omega) (by omega)) (fun u_ Sx1_ px4_ => ?_)
  obtain ⟨rfl, vx6_, rfl, px4_⟩ := px4_
  have e4_ := px4_
  have cG0_ : 0 ≤ S0_.2.2.1 228 0 a1_.toNat ∧ S0_.2.2.1 228 0 a1_.toNat ≤ 150 := hI_.2 228 0 _
  have cE0_ : 0 ≤ S0_.2.2.1 224 0 a1_.toNat ∧ S0_.2.2.1 224 0 a1_.toNat ≤ 6 := hI_.2 224 0 _
  refine sm_T_b0 (a := 1) (z := 7) rfl (fun cx7_ => ?_) (fun cx7_ => ?_)
  · have cx7_ : vx6_ ≠ 0 := of_decide_eq_true cx7_
    refine sm_T_go 3 (c1 := (19, [some (.inr (.inr (some (13, 0)))), some (.inl a1_), some (.inl a2_), some (.inl a3_), some (.inl a4_), none, none], [.inl a1_, .inr (.inr (some (240, 0))), .inr (.inr (some (13, 0)))], S0_)) rfl ?_
    refine sm_T_iald (n := 4) rfl rfl (by omega) (by omega) ?_
    have bx8_ : 0 ≤ S0_.2.2.1 240 0 a1_.toNat ∧ S0_.2.2.1 240 0 a1_.toNat ≤ 12 := hI_.2 240 0 _
    refine sm_T_b0 (a := 1) (z := 7) rfl (fun cx9_ => ?_) (fun cx9_ => ?_)
    · have cx9_ : (S0_.2.2.1 240 0 a1_.toNat) ≠ 0 := of_decide_eq_true cx9_
      have hIx10_ : gi (sm_pI S0_ 13 0 0 0) := gi_pI hI_ (show 0 ≤ 0 ∧ 0 ≤ 4 from ⟨by omega, by omega⟩)
      have hFx11_ : ai_fr (sx_W vw_447) S0_ (sm_pI S0_ 13 0 0 0) := ai_fr_tr hF_ (ai_fr_pI rfl)
      have hKx12_ : rcf a1_.toNat S0_ (sm_pI S0_ 13 0 0 0) := hK_
      refine sm_T_go 6 (c1 := (39, [some (.inr (.inr (some (13, 0)))), some (.inl a1_), some (.inl a2_), some (.inl a3_), some (.inl a4_), none, none], [.inl a3_], sm_pI S0_ 13 0 0 0)) rfl ?_
      refine sm_T_b0 (a := 2) (z := 36) rfl (fun cx13_ => ?_) (fun cx13_ => ?_)
      · have cx13_ : a3_ < 0 := of_decide_eq_true cx13_
        refine sm_T_go 1 (c1 := (76, [some (.inr (.inr (some (13, 0)))), some (.inl a1_), some (.inl a2_), some (.inl a3_), some (.inl a4_), none, none], [.inl 0], sm_pI S0_ 13 0 0 0)) rfl ?_
        refine sm_T_rz rfl (by omega) ⟨_, _, rfl, _, rfl, hIx10_, hFx11_, ?_⟩
        refine ⟨hKx12_, ?_⟩
        exact ⟨⟨by omega, by omega⟩, hJ_⟩
      · have cx13_ : ¬ (a3_ < 0) := of_decide_eq_false cx13_
        refine sm_T_go 1 (c1 := (44, [some (.inr (.inr (some (13, 0)))), some (.inl a1_), some (.inl a2_), some (.inl a3_), some (.inl a4_), none, none], [.inl a4_], sm_pI S0_ 13 0 0 0)) rfl ?_
        refine sm_T_b0 (a := 2) (z := 31) rfl (fun cx14_ => ?_) (fun cx14_ => ?_)
        · have cx14_ : a4_ < 0 := of_decide_eq_true cx14_
          refine sm_T_go 1 (c1 := (76, [some (.inr (.inr (some (13, 0)))), some (.inl a1_), some (.inl a2_), some (.inl a3_), some (.inl a4_), none, none], [.inl 0], sm_pI S0_ 13 0 0 0)) rfl ?_
          refine sm_T_rz rfl (by omega) ⟨_, _, rfl, _, rfl, hIx10_, hFx11_, ?_⟩
          refine ⟨hKx12_, ?_⟩
          exact ⟨⟨by omega, by omega⟩, hJ_⟩
        · have cx14_ : ¬ (a4_ < 0) := of_decide_eq_false cx14_
          refine sm_T_go 4 (c1 := (54, [some (.inr (.inr (some (13, 0)))), some (.inl a1_), some (.inl a2_), some (.inl a3_), some (.inl a4_), none, none], [.inl a1_, .inr (.inr (some (240, 0))), .inl a4_], sm_pI S0_ 13 0 0 0)) rfl ?_
          refine sm_T_iald (n := 4) rfl rfl (by omega) (by omega) ?_
          refine sm_T_go 0 (c1 := (55, [some (.inr (.inr (some (13, 0)))), some (.inl a1_), some (.inl a2_), some (.inl a3_), some (.inl a4_), none, none], [.inl (S0_.2.2.1 240 0 a1_.toNat), .inl a4_], sm_pI S0_ 13 0 0 0)) rfl ?_
          refine sm_T_br (a := 3) (z := 20) rfl (fun cx15_ => ?_) (fun cx15_ => ?_)
          · have cx15_ : (S0_.2.2.1 240 0 a1_.toNat) ≤ a4_ := of_decide_eq_true cx15_
            refine sm_T_go 1 (c1 := (76, [some (.inr (.inr (some (13, 0)))), some (.inl a1_), some (.inl a2_), some (.inl a3_), some (.inl a4_), none, none], [.inl 0], sm_pI S0_ 13 0 0 0)) rfl ?_
            refine sm_T_rz rfl (by omega) ⟨_, _, rfl, _, rfl, hIx10_, hFx11_, ?_⟩
            refine ⟨hKx12_, ?_⟩
            exact ⟨⟨by omega, by omega⟩, hJ_⟩
          · have cx15_ : ¬ ((S0_.2.2.1 240 0 a1_.toNat) ≤ a4_) := of_decide_eq_false cx15_
            refine sm_T_go 4 (c1 := (64, [some (.inr (.inr (some (13, 0)))), some (.inl a1_), some (.inl a2_), some (.inl a3_), some (.inl a4_), none, none], [.inl a1_, .inr (.inr (some (239, 0))), .inl a3_], sm_pI S0_ 13 0 0 0)) rfl ?_
            refine sm_T_iald (n := 4) rfl rfl (by omega) (by omega) ?_
            have bx16_ : 0 ≤ S0_.2.2.1 239 0 a1_.toNat ∧ S0_.2.2.1 239 0 a1_.toNat ≤ 60 := hI_.2 239 0 _
            refine sm_T_go 3 (c1 := (68, [some (.inr (.inr (some (13, 0)))), some (.inl a1_), some (.inl a2_), some (.inl a3_), some (.inl a4_), none, none], [.inl a2_, .inl a1_, .inr (.inr (some (13, 0))), .inl (S0_.2.2.1 239 0 a1_.toNat), .inl a3_], sm_pI S0_ 13 0 0 0)) rfl ?_
            refine sm_T_cal (d1 := 1) (Q1 := vq_436 a1_ a2_ (sm_pI S0_ 13 0 0 0)) rfl rfl (by decide) (vc_436 a1_ a2_ (sm_pI S0_ 13 0 0 0) hIx10_ (by omega) (by (show 0 ≤ a2_ ∧ a2_ < S0_.2.2.1 224 0 a1_.toNat + 150; omega))) (fun u_ Sx17_ px20_ => ?_)
            obtain ⟨rfl, vx22_, rfl, px20_⟩ := px20_
            have e68_ := px20_
            have w68_ : csz a1_ (sm_pI S0_ 13 0 0 0) a2_ = csz a1_ S0_ a2_ := rfl
            rw [w68_] at e68_
            refine sm_T_bin (w := (S0_.2.2.1 239 0 a1_.toNat) - vx22_) rfl (bi_sub (by omega) (by omega) (by omega)) ?_ -- pc_ 71
            refine sm_T_br (a := 5) (z := 5) rfl (fun cx23_ => ?_) (fun cx23_ => ?_)
            · have cx23_ : a3_ ≤ (S0_.2.2.1 239 0 a1_.toNat) - vx22_ := of_decide_eq_true cx23_
              refine sm_T_go 2 (c1 := (80, [some (.inr (.inr (some (13, 0)))), some (.inl a1_), some (.inl a2_), some (.inl a3_), some (.inl a4_), some (.inl 0), none], [], sm_pI S0_ 13 0 0 0)) rfl ?_
              refine (vl_447 a1_ a2_ a3_ a4_ S0_ ha1_ ha2_ ha3_ ha4_ hJ_ _) 0 (sm_pI S0_ 13 0 0 0) hIx10_ hFx11_ ⟨?_, ?_, ?_, ?_, trivial⟩ (Nat.lt_succ_self _)
              · omega
              · exact ⟨by omega, by omega, by omega⟩
              · rfl
              · exact hKx12_
            · have cx23_ : ¬ (a3_ ≤ (S0_.2.2.1 239 0 a1_.toNat) - vx22_) := of_decide_eq_false cx23_
              refine sm_T_go 1 (c1 := (76, [some (.inr (.inr (some (13, 0)))), some (.inl a1_), some (.inl a2_), some (.inl a3_), some (.inl a4_), none, none], [.inl 0], sm_pI S0_ 13 0 0 0)) rfl ?_
              refine sm_T_rz rfl (by omega) ⟨_, _, rfl, _, rfl, hIx10_, hFx11_, ?_⟩
              refine ⟨hKx12_, ?_⟩
              exact ⟨⟨by omega, by omega⟩, hJ_⟩
    · have cx9_ : ¬ ((S0_.2.2.1 240 0 a1_.toNat) ≠ 0) := of_decide_eq_false cx9_
      have hIx24_ : gi (sm_pI S0_ 13 0 0 2) := gi_pI hI_ (show 0 ≤ 2 ∧ 2 ≤ 4 from ⟨by omega, by omega⟩)
      have hFx25_ : ai_fr (sx_W vw_447) S0_ (sm_pI S0_ 13 0 0 2) := ai_fr_tr hF_ (ai_fr_pI rfl)
      have hKx26_ : rcf a1_.toNat S0_ (sm_pI S0_ 13 0 0 2) := hK_
      refine sm_T_go 7 (c1 := (76, [some (.inr (.inr (some (13, 0)))), some (.inl a1_), some (.inl a2_), some (.inl a3_), some (.inl a4_), none, none], [.inl 0], sm_pI S0_ 13 0 0 2)) rfl ?_
      refine sm_T_rz rfl (by omega) ⟨_, _, rfl, _, rfl, hIx24_, hFx25_, ?_⟩
      refine ⟨hKx26_, ?_⟩
      exact ⟨⟨by omega, by omega⟩, hJ_⟩
  · have cx7_ : ¬ (vx6_ ≠ 0) := of_decide_eq_false cx7_
    have hIx27_ : gi (sm_pI S0_ 13 0 0 1) := gi_pI hI_ (show 0 ≤ 1 ∧ 1 ≤ 4 from ⟨by omega, by omega⟩)
    have hFx28_ : ai_fr (sx_W vw_447) S0_ (sm_pI S0_ 13 0 0 1) := ai_fr_tr hF_ (ai_fr_pI rfl)
    have hKx29_ : rcf a1_.toNat S0_ (sm_pI S0_ 13 0 0 1) := hK_
    refine sm_T_go 7 (c1 := (76, [some (.inr (.inr (some (13, 0)))), some (.inl a1_), some (.inl a2_), some (.inl a3_), some (.inl a4_), none, none], [.inl 0], sm_pI S0_ 13 0 0 1)) rfl ?_
    refine sm_T_rz rfl (by omega) ⟨_, _, rfl, _, rfl, hIx27_, hFx28_, ?_⟩
    refine ⟨hKx29_, ?_⟩
    exact ⟨⟨by omega, by omega⟩, hJ_⟩
/-! M_.improve -/
def vw_449 : sx_Wl := ([(13, 0), (13, 159)], [241, 242, 243, 244, 245, 246, 247, 248, 249, 250, 251, 263], [])
def vq_449 (a1_ : Int) (a2_ : Int) (S0_ : sm_S) (u_ : Option sm_V) (S1_ : sm_S) : Prop := ∃ v_ : Int, u_ = some (.inl v_) ∧ gi S1_ ∧ ai_fr (sx_W vw_449) S0_ S1_ ∧ ((-2147483648 ≤ v_ ∧ v_ ≤ 2147483647) ∧ jR S1_)
set_option maxHeartbeats 2000000 in
set_option maxRecDepth 20000 in
theorem vl_449 {sc_ : Nat × (Nat → Int)} (a1_ : Int) (a2_ : Int) (S0_ : sm_S) (ha1_ : (-2147483648) ≤ a1_ ∧ a1_ ≤ 2147483647) (ha2_ : (-2147483648) ≤ a2_ ∧ a2_ ≤ 2147483647) (hJ_ : jR S0_) : ∀ nn_ : Nat, (∀ (wi_ : Int) (ch_ : Int) (ps_ : Int) (S_ : sm_S), gi S_ → ai_fr (sx_W vw_449) S0_ S_ → ((jR S_) ∧ (0 ≤ a1_ ∧ a1_ < 4 ∧ 1 ≤ a2_ ∧ a2_ ≤ 4 ∧ -2147483648 ≤ wi_ ∧ wi_ ≤ 2147483647 ∧ 0 ≤ ps_ ∧ ps_ ≤ 4 ∧ 0 ≤ ch_ ∧ ch_ ≤ 1) ∧ (S0_.2.2.1 222 0 a1_.toNat = 1) ∧ True) → ((1000000 * (10 - ps_) + 900000).toNat) < nn_ → sm_T (mt_P sc_) 5 449 (64, [some (.inr (.inr (some (13, 0)))), some (.inl a1_), some (.inl a2_), some (.inl wi_), some (.inl ch_), some (.inl ps_), none, none, none], [], S_) (fun ro9_ => ∃ u_ S1_, ro9_ = (.inl u_, S1_, 0) ∧ vq_449 a1_ a2_ S0_ u_ S1_)) ∧ (∀ (wi_ : Int) (ch_ : Int) (ps_ : Int) (i_ : Int) (S_ : sm_S), gi S_ → ai_fr (sx_W vw_449) S0_ S_ → ((jR S_) ∧ (0 ≤ a1_ ∧ a1_ < 4 ∧ 1 ≤ a2_ ∧ a2_ ≤ 4 ∧ -2147483648 ≤ wi_ ∧ wi_ ≤ 2147483647 ∧ 0 ≤ ps_ ∧ ps_ < 4 ∧ 0 ≤ ch_ ∧ ch_ ≤ 1 ∧ 0 ≤ i_ ∧ i_ ≤ 156) ∧ (S0_.2.2.1 222 0 a1_.toNat = 1) ∧ True) → ((1000000 * (10 - ps_) + 1000 * (300 - i_) + 900).toNat) < nn_ → sm_T (mt_P sc_) 5 449 (81, [some (.inr (.inr (some (13, 0)))), some (.inl a1_), some (.inl a2_), some (.inl wi_), some (.inl ch_), some (.inl ps_), some (.inl i_), none, none], [], S_) (fun ro9_ => ∃ u_ S1_, ro9_ = (.inl u_, S1_, 0) ∧ vq_449 a1_ a2_ S0_ u_ S1_)) ∧ (∀ (wi_ : Int) (ch_ : Int) (ps_ : Int) (i_ : Int) (j_ : Int) (S_ : sm_S), gi S_ → ai_fr (sx_W vw_449) S0_ S_ → ((jR S_) ∧ (0 ≤ a1_ ∧ a1_ < 4 ∧ 1 ≤ a2_ ∧ a2_ ≤ 4 ∧ -2147483648 ≤ wi_ ∧ wi_ ≤ 2147483647 ∧ 0 ≤ ps_ ∧ ps_ < 4 ∧ 0 ≤ ch_ ∧ ch_ ≤ 1 ∧ 0 ≤ i_ ∧ i_ < 156 ∧ i_ < S0_.2.2.1 224 0 a1_.toNat + S0_.2.2.1 228 0 a1_.toNat ∧ i_ < j_ ∧ j_ ≤ 157) ∧ (S0_.2.2.1 222 0 a1_.toNat = 1) ∧ True) → ((1000000 * (10 - ps_) + 1000 * (300 - i_) + 800 - j_).toNat) < nn_ → sm_T (mt_P sc_) 5 449 (97, [some (.inr (.inr (some (13, 0)))), some (.inl a1_), some (.inl a2_), some (.inl wi_), some (.inl ch_), some (.inl ps_), some (.inl i_), some (.inl j_), none], [], S_) (fun ro9_ => ∃ u_ S1_, ro9_ = (.inl u_, S1_, 0) ∧ vq_449 a1_ a2_ S0_ u_ S1_)) := by
  intro nn_
  induction nn_ with
  | zero => exact ⟨fun _ _ _ _ _ _ _ h_ => absurd h_ (Nat.not_lt_zero _), fun _ _ _ _ _ _ _ _ h_ => absurd h_ (Nat.not_lt_zero _), fun _ _ _ _ _ _ _ _ _ h_ => absurd h_ (Nat.not_lt_zero _)⟩
  | succ nn_ ih_ =>
    refine ⟨?_, ?_, ?_⟩
    · rintro wi_ ch_ ps_ S_ hI_ hF_ ⟨hj_, h0_, ht_, -⟩ hm_
      have f222_ : S_.2.2.1 222 0 = S0_.2.2.1 222 0 := fr_arr hF_ rfl
      have f224_ : S_.2.2.1 224 0 = S0_.2.2.1 224 0 := fr_arr hF_ rfl
      have f228_ : S_.2.2.1 228 0 = S0_.2.2.1 228 0 := fr_arr hF_ rfl
      have f223_ : S_.2.2.1 223 0 = S0_.2.2.1 223 0 := fr_arr hF_ rfl
      have f234_ : S_.2.2.1 234 0 = S0_.2.2.1 234 0 := fr_arr hF_ rfl
      have f229_ : S_.2.2.1 229 0 = S0_.2.2.1 229 0 := fr_arr hF_ rfl
      have x224_ : S_.2.2.1 224 0 a1_.toNat = S0_.2.2.1 224 0 a1_.toNat := congrFun f224_ _
      have x228_ : S_.2.2.1 228 0 a1_.toNat = S0_.2.2.1 228 0 a1_.toNat := congrFun f228_ _
      have cE_ : 0 ≤ S_.2.2.1 224 0 a1_.toNat ∧ S_.2.2.1 224 0 a1_.toNat ≤ 6 := hI_.2 224 0 _
      have cG_ : 0 ≤ S_.2.2.1 228 0 a1_.toNat ∧ S_.2.2.1 228 0 a1_.toNat ≤ 150 := hI_.2 228 0 _
      have t9_ : S_.2.2.1 222 0 a1_.toNat = 1 := by (rw [f222_]; exact ht_)
      obtain ⟨K1_, K2_, K3_, K4_, K5_, K6_, K7_⟩ := hj_.2 a1_ (by omega) (by omega) t9_
      refine sm_T_go 2 (c1 := (67, [some (.inr (.inr (some (13, 0)))), some (.inl a1_), some (.inl a2_), some (.inl wi_), some (.inl ch_), some (.inl ps_), none, none, none], [.inl a2_, .inl ps_], S_)) rfl ?_
      refine sm_T_br (a := 3) (z := 120) rfl (fun cx1_ => ?_) (fun cx1_ => ?_)
      · have cx1_ : a2_ ≤ ps_ := of_decide_eq_true cx1_
        refine sm_T_go 1 (c1 := (188, [some (.inr (.inr (some (13, 0)))), some (.inl a1_), some (.inl a2_), some (.inl wi_), some (.inl ch_), some (.inl ps_), none, none, none], [.inl wi_], S_)) rfl ?_
        refine sm_T_ri rfl ⟨_, _, rfl, _, rfl, hI_, hF_, ?_⟩
        exact ⟨⟨by omega, by omega⟩, hj_⟩
      · have cx1_ : ¬ (a2_ ≤ ps_) := of_decide_eq_false cx1_
        refine sm_T_go 1 (c1 := (72, [some (.inr (.inr (some (13, 0)))), some (.inl a1_), some (.inl a2_), some (.inl wi_), some (.inl ch_), some (.inl ps_), none, none, none], [.inl ch_], S_)) rfl ?_
        refine sm_T_b0 (a := 0) (z := 115) rfl (fun cx2_ => ?_) (fun cx2_ => ?_)
        · have cx2_ : ch_ = 0 := of_decide_eq_true cx2_
          refine sm_T_go 1 (c1 := (188, [some (.inr (.inr (some (13, 0)))), some (.inl a1_), some (.inl a2_), some (.inl wi_), some (.inl ch_), some (.inl ps_), none, none, none], [.inl wi_], S_)) rfl ?_
          refine sm_T_ri rfl ⟨_, _, rfl, _, rfl, hI_, hF_, ?_⟩
          exact ⟨⟨by omega, by omega⟩, hj_⟩
        · have cx2_ : ¬ (ch_ = 0) := of_decide_eq_false cx2_
          refine sm_T_go 4 (c1 := (81, [some (.inr (.inr (some (13, 0)))), some (.inl a1_), some (.inl a2_), some (.inl wi_), some (.inl 0), some (.inl ps_), some (.inl 0), none, none], [], S_)) rfl ?_
          refine ih_.2.1 wi_ 0 ps_ 0 S_ hI_ hF_ ⟨?_, ?_, ?_, trivial⟩ ?_
          · exact hj_
          · omega
          · exact ht_
          · omega
    · rintro wi_ ch_ ps_ i_ S_ hI_ hF_ ⟨hj_, h0_, ht_, -⟩ hm_
      have f222_ : S_.2.2.1 222 0 = S0_.2.2.1 222 0 := fr_arr hF_ rfl
      have f224_ : S_.2.2.1 224 0 = S0_.2.2.1 224 0 := fr_arr hF_ rfl
      have f228_ : S_.2.2.1 228 0 = S0_.2.2.1 228 0 := fr_arr hF_ rfl
      have f223_ : S_.2.2.1 223 0 = S0_.2.2.1 223 0 := fr_arr hF_ rfl
      have f234_ : S_.2.2.1 234 0 = S0_.2.2.1 234 0 := fr_arr hF_ rfl
      have f229_ : S_.2.2.1 229 0 = S0_.2.2.1 229 0 := fr_arr hF_ rfl
      have x224_ : S_.2.2.1 224 0 a1_.toNat = S0_.2.2.1 224 0 a1_.toNat := congrFun f224_ _
      have x228_ : S_.2.2.1 228 0 a1_.toNat = S0_.2.2.1 228 0 a1_.toNat := congrFun f228_ _
      have cE_ : 0 ≤ S_.2.2.1 224 0 a1_.toNat ∧ S_.2.2.1 224 0 a1_.toNat ≤ 6 := hI_.2 224 0 _
      have cG_ : 0 ≤ S_.2.2.1 228 0 a1_.toNat ∧ S_.2.2.1 228 0 a1_.toNat ≤ 150 := hI_.2 228 0 _
      have t9_ : S_.2.2.1 222 0 a1_.toNat = 1 := by (rw [f222_]; exact ht_)
      obtain ⟨K1_, K2_, K3_, K4_, K5_, K6_, K7_⟩ := hj_.2 a1_ (by omega) (by omega) t9_
      refine sm_T_go 3 (c1 := (85, [some (.inr (.inr (some (13, 0)))), some (.inl a1_), some (.inl a2_), some (.inl wi_), some (.inl ch_), some (.inl ps_), some (.inl i_), none, none], [.inl a1_, .inr (.inr (some (13, 0))), .inl i_], S_)) rfl ?_
      refine sm_T_cal (d1 := 0) (Q1 := vq_423 a1_ S_) rfl rfl (by decide) (vc_423 a1_ S_ hI_ (by omega)) (fun u_ Sx1_ px4_ => ?_)
      obtain ⟨rfl, vx6_, rfl, px4_⟩ := px4_
      refine sm_T_br (a := 3) (z := 93) rfl (fun cx7_ => ?_) (fun cx7_ => ?_)
      · have cx7_ : vx6_ ≤ i_ := of_decide_eq_true cx7_
        refine sm_T_inc (a := 5) (z := 1) (v := ps_) (w := ps_ + 1) rfl rfl (by omega) (by omega) (by omega) ?_ -- pc_ 181
        refine sm_T_go 1 (c1 := (64, [some (.inr (.inr (some (13, 0)))), some (.inl a1_), some (.inl a2_), some (.inl wi_), some (.inl ch_), some (.inl (ps_ + 1)), some (.inl i_), none, none], [], S_)) rfl ?_
        refine sm_T_wk [some (.inr (.inr (some (13, 0)))), some (.inl a1_), some (.inl a2_), some (.inl wi_), some (.inl ch_), some (.inl (ps_ + 1)), none, none, none] (by exact ⟨rfl, rfl, rfl, rfl, rfl, rfl, trivial⟩) ?_
        refine ih_.1 wi_ ch_ (ps_ + 1) S_ hI_ hF_ ⟨?_, ?_, ?_, trivial⟩ ?_
        · exact hj_
        · omega
        · exact ht_
        · omega
      · have cx7_ : ¬ (vx6_ ≤ i_) := of_decide_eq_false cx7_
        refine sm_T_go 2 (c1 := (94, [some (.inr (.inr (some (13, 0)))), some (.inl a1_), some (.inl a2_), some (.inl wi_), some (.inl ch_), some (.inl ps_), some (.inl i_), none, none], [.inl 1, .inl i_], S_)) rfl ?_
        refine sm_T_bin (w := i_ + 1) rfl (bi_add (by omega) (by omega) (by omega)) ?_ -- pc_ 94
        refine sm_T_go 1 (c1 := (97, [some (.inr (.inr (some (13, 0)))), some (.inl a1_), some (.inl a2_), some (.inl wi_), some (.inl ch_), some (.inl ps_), some (.inl i_), some (.inl (i_ + 1)), none], [], S_)) rfl ?_
        refine ih_.2.2 wi_ ch_ ps_ i_ (i_ + 1) S_ hI_ hF_ ⟨?_, ?_, ?_, trivial⟩ ?_
        · exact hj_
        · omega
        · exact ht_
        · omega
    · rintro wi_ ch_ ps_ i_ j_ S_ hI_ hF_ ⟨hj_, h0_, ht_, -⟩ hm_
      have f222_ : S_.2.2.1 222 0 = S0_.2.2.1 222 0 := fr_arr hF_ rfl
      have f224_ : S_.2.2.1 224 0 = S0_.2.2.1 224 0 := fr_arr hF_ rfl
      have f228_ : S_.2.2.1 228 0 = S0_.2.2.1 228 0 := fr_arr hF_ rfl
      have f223_ : S_.2.2.1 223 0 = S0_.2.2.1 223 0 := fr_arr hF_ rfl
      have f234_ : S_.2.2.1 234 0 = S0_.2.2.1 234 0 := fr_arr hF_ rfl
      have f229_ : S_.2.2.1 229 0 = S0_.2.2.1 229 0 := fr_arr hF_ rfl
      have x224_ : S_.2.2.1 224 0 a1_.toNat = S0_.2.2.1 224 0 a1_.toNat := congrFun f224_ _
      have x228_ : S_.2.2.1 228 0 a1_.toNat = S0_.2.2.1 228 0 a1_.toNat := congrFun f228_ _
      have cE_ : 0 ≤ S_.2.2.1 224 0 a1_.toNat ∧ S_.2.2.1 224 0 a1_.toNat ≤ 6 := hI_.2 224 0 _
      have cG_ : 0 ≤ S_.2.2.1 228 0 a1_.toNat ∧ S_.2.2.1 228 0 a1_.toNat ≤ 150 := hI_.2 228 0 _
      have t9_ : S_.2.2.1 222 0 a1_.toNat = 1 := by (rw [f222_]; exact ht_)
      obtain ⟨K1_, K2_, K3_, K4_, K5_, K6_, K7_⟩ := hj_.2 a1_ (by omega) (by omega) t9_
      refine sm_T_go 3 (c1 := (101, [some (.inr (.inr (some (13, 0)))), some (.inl a1_), some (.inl a2_), some (.inl wi_), some (.inl ch_), some (.inl ps_), some (.inl i_), some (.inl j_), none], [.inl a1_, .inr (.inr (some (13, 0))), .inl j_], S_)) rfl ?_
      refine sm_T_cal (d1 := 0) (Q1 := vq_423 a1_ S_) rfl rfl (by decide) (vc_423 a1_ S_ hI_ (by omega)) (fun u_ Sx1_ px4_ => ?_)
      obtain ⟨rfl, vx6_, rfl, px4_⟩ := px4_
      refine sm_T_br (a := 3) (z := 71) rfl (fun cx7_ => ?_) (fun cx7_ => ?_)
      · have cx7_ : vx6_ ≤ j_ := of_decide_eq_true cx7_
        refine sm_T_inc (a := 6) (z := 1) (v := i_) (w := i_ + 1) rfl rfl (by omega) (by omega) (by omega) ?_ -- pc_ 175
        refine sm_T_go 1 (c1 := (81, [some (.inr (.inr (some (13, 0)))), some (.inl a1_), some (.inl a2_), some (.inl wi_), some (.inl ch_), some (.inl ps_), some (.inl (i_ + 1)), some (.inl j_), none], [], S_)) rfl ?_
        refine sm_T_wk [some (.inr (.inr (some (13, 0)))), some (.inl a1_), some (.inl a2_), some (.inl wi_), some (.inl ch_), some (.inl ps_), some (.inl (i_ + 1)), none, none] (by exact ⟨rfl, rfl, rfl, rfl, rfl, rfl, rfl, trivial⟩) ?_
        refine ih_.2.1 wi_ ch_ ps_ (i_ + 1) S_ hI_ hF_ ⟨?_, ?_, ?_, trivial⟩ ?_
        · exact hj_
        · omega
        · exact ht_
        · omega
      · have cx7_ : ¬ (vx6_ ≤ j_) := of_decide_eq_false cx7_
        refine sm_T_go 3 (c1 := (111, [some (.inr (.inr (some (13, 0)))), some (.inl a1_), some (.inl a2_), some (.inl wi_), some (.inl ch_), some (.inl ps_), some (.inl i_), some (.inl j_), none], [.inl i_, .inl a1_, .inr (.inr (some (13, 0)))], S_)) rfl ?_
        refine sm_T_cal (d1 := 1) (Q1 := vq_436 a1_ i_ S_) rfl rfl (by decide) (vc_436 a1_ i_ S_ hI_ (by omega) (by omega)) (fun u_ Sx8_ px11_ => ?_)
        obtain ⟨rfl, vx13_, rfl, px11_⟩ := px11_
        have e111_ := px11_
        refine sm_T_go 3 (c1 := (118, [some (.inr (.inr (some (13, 0)))), some (.inl a1_), some (.inl a2_), some (.inl wi_), some (.inl ch_), some (.inl ps_), some (.inl i_), some (.inl j_), none], [.inl j_, .inl a1_, .inr (.inr (some (13, 0))), .inl vx13_], S_)) rfl ?_
        refine sm_T_cal (d1 := 1) (Q1 := vq_436 a1_ j_ S_) rfl rfl (by decide) (vc_436 a1_ j_ S_ hI_ (by omega) (by omega)) (fun u_ Sx14_ px17_ => ?_)
        obtain ⟨rfl, vx19_, rfl, px17_⟩ := px17_
        have e118_ := px17_
        refine sm_T_br (a := 1) (z := 48) rfl (fun cx20_ => ?_) (fun cx20_ => ?_)
        · have cx20_ : vx13_ ≠ vx19_ := of_decide_eq_true cx20_
          refine sm_T_inc (a := 7) (z := 1) (v := j_) (w := j_ + 1) rfl rfl (by omega) (by omega) (by omega) ?_ -- pc_ 169
          refine sm_T_go 1 (c1 := (97, [some (.inr (.inr (some (13, 0)))), some (.inl a1_), some (.inl a2_), some (.inl wi_), some (.inl ch_), some (.inl ps_), some (.inl i_), some (.inl (j_ + 1)), none], [], S_)) rfl ?_
          refine ih_.2.2 wi_ ch_ ps_ i_ (j_ + 1) S_ hI_ hF_ ⟨?_, ?_, ?_, trivial⟩ ?_
          · first | exact hj_ | exact j154_ | exact j166_
          · omega
          · exact ht_
          · omega
        · have cx20_ : ¬ (vx13_ ≠ vx19_) := of_decide_eq_false cx20_
          refine sm_T_go 4 (c1 := (130, [some (.inr (.inr (some (13, 0)))), some (.inl a1_), some (.inl a2_), some (.inl wi_), some (.inl ch_), some (.inl ps_), some (.inl i_), some (.inl j_), none], [.inl j_, .inl i_, .inl a1_, .inr (.inr (some (13, 0)))], S_)) rfl ?_
          refine sm_T_cal (d1 := 0) (Q1 := vq_448 a1_ i_ j_ S_) rfl rfl (by decide) (vc_448 a1_ i_ j_ S_ hI_ (by omega) (by omega) (by omega)) (fun u_ Sx21_ px24_ => ?_)
          obtain ⟨rfl, hIx22_, hFx23_, px24_⟩ := px24_
          have hFx25_ : ai_fr (sx_W vw_449) S0_ Sx21_ := ai_fr_tr hF_ (fr_le hFx23_ rfl)
          obtain ⟨dx26_, px24_⟩ := px24_
          have x130_ := px24_
          have r130_ : rcf a1_.toNat S_ Sx21_ := dx26_
          have j130_ : jR Sx21_ := jR_xc hj_ hIx22_ t9_ ⟨by omega, by omega⟩ hFx23_ r130_ ⟨by omega, by omega⟩ ⟨by omega, by omega⟩ x130_ (by omega) (by decide) rfl
          have t130_ : Sx21_.2.2.1 222 0 a1_.toNat = 1 := (congrFun (fr_arr (t := 222) (i := 0) hFx23_ rfl) _).trans t9_
          have u224_ : Sx21_.2.2.1 224 0 = S_.2.2.1 224 0 := fr_arr hFx23_ rfl
          have u228_ : Sx21_.2.2.1 228 0 = S_.2.2.1 228 0 := fr_arr hFx23_ rfl
          have u234_ : Sx21_.2.2.1 234 0 = S_.2.2.1 234 0 := fr_arr hFx23_ rfl
          have u229_ : Sx21_.2.2.1 229 0 = S_.2.2.1 229 0 := fr_arr hFx23_ rfl
          obtain ⟨Q1_, Q2_, Q3_, Q4_, Q5_, Q6_, Q7_⟩ := j130_.2 a1_ (by omega) (by omega) t130_
          refine sm_T_go 2 (c1 := (135, [some (.inr (.inr (some (13, 0)))), some (.inl a1_), some (.inl a2_), some (.inl wi_), some (.inl ch_), some (.inl ps_), some (.inl i_), some (.inl j_), none], [.inl a1_, .inr (.inr (some (13, 0)))], Sx21_)) rfl ?_
          refine sm_T_cal (d1 := 4) (Q1 := vq_442 a1_ Sx21_) rfl rfl (by decide) (vc_442 a1_ Sx21_ hIx22_ (by omega) (by exact Q1_) (by exact Q4_) (by exact Q5_)) (fun u_ Sx27_ px30_ => ?_)
          obtain ⟨vx32_, rfl, hIx28_, hFx29_, px30_⟩ := px30_
          have hFx31_ : ai_fr (sx_W vw_449) S0_ Sx27_ := ai_fr_tr hFx25_ (fr_le hFx29_ rfl)
          have j135_ : jR Sx27_ := jR_fr j130_ hIx28_ hFx29_
          have t135_ : Sx27_.2.2.1 222 0 a1_.toNat = 1 := (congrFun (fr_arr (t := 222) (i := 0) hFx29_ rfl) _).trans t130_
          have v224_ : Sx27_.2.2.1 224 0 = S_.2.2.1 224 0 := (fr_arr hFx29_ rfl).trans u224_
          have v228_ : Sx27_.2.2.1 228 0 = S_.2.2.1 228 0 := (fr_arr hFx29_ rfl).trans u228_
          have v234_ : Sx27_.2.2.1 234 0 = S_.2.2.1 234 0 := (fr_arr hFx29_ rfl).trans u234_
          have v229_ : Sx27_.2.2.1 229 0 = S_.2.2.1 229 0 := (fr_arr hFx29_ rfl).trans u229_
          refine sm_T_go 3 (c1 := (143, [some (.inr (.inr (some (13, 0)))), some (.inl a1_), some (.inl a2_), some (.inl wi_), some (.inl ch_), some (.inl ps_), some (.inl i_), some (.inl j_), some (.inl vx32_)], [.inl wi_, .inl vx32_], Sx27_)) rfl ?_
          refine sm_T_br (a := 3) (z := 17) rfl (fun cx33_ => ?_) (fun cx33_ => ?_)
          · have cx33_ : wi_ ≤ vx32_ := of_decide_eq_true cx33_
            refine sm_T_go 4 (c1 := (166, [some (.inr (.inr (some (13, 0)))), some (.inl a1_), some (.inl a2_), some (.inl wi_), some (.inl ch_), some (.inl ps_), some (.inl i_), some (.inl j_), some (.inl vx32_)], [.inl j_, .inl i_, .inl a1_, .inr (.inr (some (13, 0)))], Sx27_)) rfl ?_
            refine sm_T_cal (d1 := 0) (Q1 := vq_448 a1_ i_ j_ Sx27_) rfl rfl (by decide) (vc_448 a1_ i_ j_ Sx27_ hIx28_ (by omega) (by omega) (by omega)) (fun u_ Sx34_ px37_ => ?_)
            obtain ⟨rfl, hIx35_, hFx36_, px37_⟩ := px37_
            have hFx38_ : ai_fr (sx_W vw_449) S0_ Sx34_ := ai_fr_tr hFx31_ (fr_le hFx36_ rfl)
            obtain ⟨dx39_, px37_⟩ := px37_
            have r166_ : rcf a1_.toNat Sx27_ Sx34_ := dx39_
            have j166_ : jR Sx34_ := jR_xc j135_ hIx35_ t135_ ⟨by omega, by omega⟩ hFx36_ r166_ ⟨by omega, by (rw [v224_, v228_]; omega)⟩ ⟨by omega, by (rw [v224_, v228_]; omega)⟩ px37_ (by rw [csz_eq (S_ := S_) v224_ v234_ v229_, csz_eq (S_ := S_) v224_ v234_ v229_]; omega) (by decide) rfl
            refine sm_T_inc (a := 7) (z := 1) (v := j_) (w := j_ + 1) rfl rfl (by omega) (by omega) (by omega) ?_ -- pc_ 169
            refine sm_T_go 1 (c1 := (97, [some (.inr (.inr (some (13, 0)))), some (.inl a1_), some (.inl a2_), some (.inl wi_), some (.inl ch_), some (.inl ps_), some (.inl i_), some (.inl (j_ + 1)), some (.inl vx32_)], [], Sx34_)) rfl ?_
            refine sm_T_wk [some (.inr (.inr (some (13, 0)))), some (.inl a1_), some (.inl a2_), some (.inl wi_), some (.inl ch_), some (.inl ps_), some (.inl i_), some (.inl (j_ + 1)), none] (by exact ⟨rfl, rfl, rfl, rfl, rfl, rfl, rfl, rfl, trivial⟩) ?_
            refine ih_.2.2 wi_ ch_ ps_ i_ (j_ + 1) Sx34_ hIx35_ hFx38_ ⟨?_, ?_, ?_, trivial⟩ ?_
            · first | exact hj_ | exact j154_ | exact j166_
            · omega
            · exact ht_
            · omega
          · have cx33_ : ¬ (wi_ ≤ vx32_) := of_decide_eq_false cx33_
            refine sm_T_go 6 (c1 := (154, [some (.inr (.inr (some (13, 0)))), some (.inl a1_), some (.inl a2_), some (.inl vx32_), some (.inl 1), some (.inl ps_), some (.inl i_), some (.inl j_), some (.inl vx32_)], [.inl a1_, .inr (.inr (some (13, 0)))], Sx27_)) rfl ?_
            refine sm_T_cal (d1 := 0) (Q1 := vq_443 a1_ Sx27_) rfl rfl (by decide) (vc_443 a1_ Sx27_ hIx28_ (by omega)) (fun u_ Sx40_ px43_ => ?_)
            obtain ⟨rfl, hIx41_, hFx42_, px43_⟩ := px43_
            have hFx44_ : ai_fr (sx_W vw_449) S0_ Sx40_ := ai_fr_tr hFx31_ (fr_le hFx42_ rfl)
            obtain ⟨dx45_, px43_⟩ := px43_
            have r154_ : rcf a1_.toNat Sx27_ Sx40_ := dx45_
            have j154_ : jR Sx40_ := jR_lw j135_ hIx41_ t135_ ⟨by omega, by omega⟩ hFx42_ r154_ px43_ (by decide)
            refine sm_T_go 1 (c1 := (169, [some (.inr (.inr (some (13, 0)))), some (.inl a1_), some (.inl a2_), some (.inl vx32_), some (.inl 1), some (.inl ps_), some (.inl i_), some (.inl j_), some (.inl vx32_)], [], Sx40_)) rfl ?_
            refine sm_T_inc (a := 7) (z := 1) (v := j_) (w := j_ + 1) rfl rfl (by omega) (by omega) (by omega) ?_ -- pc_ 169
            refine sm_T_go 1 (c1 := (97, [some (.inr (.inr (some (13, 0)))), some (.inl a1_), some (.inl a2_), some (.inl vx32_), some (.inl 1), some (.inl ps_), some (.inl i_), some (.inl (j_ + 1)), some (.inl vx32_)], [], Sx40_)) rfl ?_
            refine sm_T_wk [some (.inr (.inr (some (13, 0)))), some (.inl a1_), some (.inl a2_), some (.inl vx32_), some (.inl 1), some (.inl ps_), some (.inl i_), some (.inl (j_ + 1)), none] (by exact ⟨rfl, rfl, rfl, rfl, rfl, rfl, rfl, rfl, trivial⟩) ?_
            refine ih_.2.2 vx32_ 1 ps_ i_ (j_ + 1) Sx40_ hIx41_ hFx44_ ⟨?_, ?_, ?_, trivial⟩ ?_
            · first | exact hj_ | exact j154_ | exact j166_
            · omega
            · exact ht_
            · omega
set_option maxHeartbeats 2000000 in
set_option maxRecDepth 20000 in
theorem vc_449 {sc_ : Nat × (Nat → Int)} (a1_ : Int) (a2_ : Int) (S0_ : sm_S) (hI_ : gi S0_) (ha1_ : (-2147483648) ≤ a1_ ∧ a1_ ≤ 2147483647) (ha2_ : (-2147483648) ≤ a2_ ∧ a2_ ≤ 2147483647) (hJ_ : jR S0_) : sm_T (mt_P sc_) 5 449 (0, [some (.inr (.inr (some (13, 0)))), some (.inl a1_), some (.inl a2_), none, none, none, none, none, none], [], S0_) (fun ro9_ => ∃ u_ S1_, ro9_ = (.inl u_, S1_, 0) ∧ vq_449 a1_ a2_ S0_ u_ S1_) := by
  have hF_ : ai_fr (sx_W vw_449) S0_ S0_ := ai_fr_rf
  refine sm_T_go 3 (c1 := (3, [some (.inr (.inr (some (13, 0)))), some (.inl a1_), some (.inl a2_), none, none, none, none, none, none], [.inl a1_, .inr (.inr (some (13, 0))), .inr (.inr (some (13, 0)))], S0_)) rfl ?_
  refine sm_T_cal (d1 := 0) (Q1 := vq_371 a1_ S0_) rfl rfl (by decide) (vc_371 a1_ S0_ hI_ (by omega)) (fun u_ Sx1_ px4_ => ?_)
  obtain ⟨rfl, vx6_, rfl, px4_⟩ := px4_
  have d3_ := px4_
  refine sm_T_b0 (a := 1) (z := 7) rfl (fun cx7_ => ?_) (fun cx7_ => ?_)
  · have cx7_ : vx6_ ≠ 0 := of_decide_eq_true cx7_
    refine sm_T_go 3 (c1 := (16, [some (.inr (.inr (some (13, 0)))), some (.inl a1_), some (.inl a2_), none, none, none, none, none, none], [.inl 4, .inl 1, .inl a2_, .inr (.inr (some (13, 0)))], S0_)) rfl ?_
    refine sm_T_cal (d1 := 0) (Q1 := vq_278 a2_ 1 4 S0_) rfl rfl (by decide) (vc_278 a2_ 1 4 S0_ hI_ ) (fun u_ Sx8_ px11_ => ?_)
    obtain ⟨rfl, vx13_, rfl, px11_⟩ := px11_
    refine sm_T_b0 (a := 1) (z := 7) rfl (fun cx14_ => ?_) (fun cx14_ => ?_)
    · have cx14_ : vx13_ ≠ 0 := of_decide_eq_true cx14_
      refine sm_T_go 3 (c1 := (31, [some (.inr (.inr (some (13, 0)))), some (.inl a1_), some (.inl a2_), none, none, none, none, none, none], [.inl a1_, .inr (.inr (some (240, 0))), .inr (.inr (some (13, 0)))], S0_)) rfl ?_
      refine sm_T_iald (n := 4) rfl rfl (by omega) (by omega) ?_
      have bx15_ : 0 ≤ S0_.2.2.1 240 0 a1_.toNat ∧ S0_.2.2.1 240 0 a1_.toNat ≤ 12 := hI_.2 240 0 _
      refine sm_T_b0 (a := 1) (z := 7) rfl (fun cx16_ => ?_) (fun cx16_ => ?_)
      · have cx16_ : (S0_.2.2.1 240 0 a1_.toNat) ≠ 0 := of_decide_eq_true cx16_
        have K9_ : cRk a1_ S0_ := hJ_.2 a1_ (by omega) (by omega) (by omega)
        obtain ⟨K1_, K2_, K3_, K4_, K5_, K6_, K7_⟩ := K9_
        have hIx17_ : gi (sm_pI S0_ 13 0 0 0) := gi_pI hI_ (show 0 ≤ 0 ∧ 0 ≤ 4 from ⟨by omega, by omega⟩)
        have hFx18_ : ai_fr (sx_W vw_449) S0_ (sm_pI S0_ 13 0 0 0) := ai_fr_tr hF_ (ai_fr_pI rfl)
        refine sm_T_go 7 (c1 := (54, [some (.inr (.inr (some (13, 0)))), some (.inl a1_), some (.inl a2_), none, none, none, none, none, none], [.inl a1_, .inr (.inr (some (13, 0)))], sm_pI S0_ 13 0 0 0)) rfl ?_
        refine sm_T_cal (d1 := 4) (Q1 := vq_442 a1_ (sm_pI S0_ 13 0 0 0)) rfl rfl (by decide) (vc_442 a1_ (sm_pI S0_ 13 0 0 0) hIx17_ (by omega) (by exact K1_) (by exact K4_) (by exact K5_)) (fun u_ Sx19_ px22_ => ?_)
        obtain ⟨vx24_, rfl, hIx20_, hFx21_, px22_⟩ := px22_
        have hFx23_ : ai_fr (sx_W vw_449) S0_ Sx19_ := ai_fr_tr hFx18_ (fr_le hFx21_ rfl)
        have j54_ : jR Sx19_ := jR_fr (S_ := (sm_pI S0_ 13 0 0 0)) hJ_ hIx20_ hFx21_
        refine sm_T_go 5 (c1 := (64, [some (.inr (.inr (some (13, 0)))), some (.inl a1_), some (.inl a2_), some (.inl vx24_), some (.inl 1), some (.inl 0), none, none, none], [], Sx19_)) rfl ?_
        refine (vl_449 a1_ a2_ S0_ ha1_ ha2_ hJ_ _).1 vx24_ 1 0 Sx19_ hIx20_ hFx23_ ⟨?_, ?_, ?_, trivial⟩ (Nat.lt_succ_self _)
        · exact j54_
        · omega
        · omega
      · have cx16_ : ¬ ((S0_.2.2.1 240 0 a1_.toNat) ≠ 0) := of_decide_eq_false cx16_
        have hIx25_ : gi (sm_pI S0_ 13 0 0 3) := gi_pI hI_ (show 0 ≤ 3 ∧ 3 ≤ 4 from ⟨by omega, by omega⟩)
        have hFx26_ : ai_fr (sx_W vw_449) S0_ (sm_pI S0_ 13 0 0 3) := ai_fr_tr hF_ (ai_fr_pI rfl)
        refine sm_T_go 7 (c1 := (51, [some (.inr (.inr (some (13, 0)))), some (.inl a1_), some (.inl a2_), none, none, none, none, none, none], [.inl 0], sm_pI S0_ 13 0 0 3)) rfl ?_
        refine sm_T_ri rfl ⟨_, _, rfl, _, rfl, hIx25_, hFx26_, ?_⟩
        exact ⟨⟨by omega, by omega⟩, hJ_⟩
    · have cx14_ : ¬ (vx13_ ≠ 0) := of_decide_eq_false cx14_
      have hIx27_ : gi (sm_pI S0_ 13 0 0 2) := gi_pI hI_ (show 0 ≤ 2 ∧ 2 ≤ 4 from ⟨by omega, by omega⟩)
      have hFx28_ : ai_fr (sx_W vw_449) S0_ (sm_pI S0_ 13 0 0 2) := ai_fr_tr hF_ (ai_fr_pI rfl)
      refine sm_T_go 7 (c1 := (51, [some (.inr (.inr (some (13, 0)))), some (.inl a1_), some (.inl a2_), none, none, none, none, none, none], [.inl 0], sm_pI S0_ 13 0 0 2)) rfl ?_
      refine sm_T_ri rfl ⟨_, _, rfl, _, rfl, hIx27_, hFx28_, ?_⟩
      exact ⟨⟨by omega, by omega⟩, hJ_⟩
  · have cx7_ : ¬ (vx6_ ≠ 0) := of_decide_eq_false cx7_
    have hIx29_ : gi (sm_pI S0_ 13 0 0 1) := gi_pI hI_ (show 0 ≤ 1 ∧ 1 ≤ 4 from ⟨by omega, by omega⟩)
    have hFx30_ : ai_fr (sx_W vw_449) S0_ (sm_pI S0_ 13 0 0 1) := ai_fr_tr hF_ (ai_fr_pI rfl)
    refine sm_T_go 7 (c1 := (51, [some (.inr (.inr (some (13, 0)))), some (.inl a1_), some (.inl a2_), none, none, none, none, none, none], [.inl 0], sm_pI S0_ 13 0 0 1)) rfl ?_
    refine sm_T_ri rfl ⟨_, _, rfl, _, rfl, hIx29_, hFx30_, ?_⟩
    exact ⟨⟨by omega, by omega⟩, hJ_⟩
end
