/-! chips of the reference; written by wip/p55/gen/vg -/

/-! chips of_ the_ reference -/
def rct (t_ : Nat) : Bool := (decide (222 ≤ t_) && decide (t_ < 238)) || (decide (239 ≤ t_) && decide (t_ < 243)) || t_ == 251
def rcs (t_ : Nat) : Nat := if t_ = 229 then 150 else if t_ = 230 then 450 else if t_ = 231 then 16 else if t_ = 232 then 6 else if 234 ≤ t_ ∧ t_ ≤ 237 then 12 else if t_ = 241 ∨ t_ = 242 then 156 else 1
/-- the_ other chips stay as_ they were -/
def rcf (c_ : Nat) (S_ S'_ : sm_S) : Prop := ∀ t_, rct t_ = true → ∀ j_, (j_ < rcs t_ * c_ ∨ rcs t_ * c_ + rcs t_ ≤ j_) → S'_.2.2.1 t_ 0 j_ = S_.2.2.1 t_ 0 j_
theorem rcf_rf {c_ : Nat} {S_ : sm_S} : rcf c_ S_ S_ := fun _ _ _ _ => rfl
theorem rcf_tr {c_ : Nat} {S_ S'_ S2_ : sm_S} (h_ : rcf c_ S_ S'_) (g_ : rcf c_ S'_ S2_) : rcf c_ S_ S2_ := fun t_ h1_ j_ hj_ => (g_ t_ h1_ j_ hj_).trans (h_ t_ h1_ j_ hj_)
theorem rcf_cg {a_ b_ : Nat} {S_ S'_ : sm_S} (e_ : a_ = b_) (h_ : rcf a_ S_ S'_) : rcf b_ S_ S'_ := e_ ▸ h_
def rwf (w_ : sx_Wl) : Bool := w_.2.1.all (fun t_ => !rct t_)
theorem rwf_0 {w_ : sx_Wl} (h_ : rwf w_ = true) {t_ : Nat} (ht_ : rct t_ = true) : (sx_W w_).2.1 t_ = false := by
  unfold rwf at h_
  unfold sx_W
  rw [List.any_eq_false]
  intro q_ hq_ z_
  have u_ := List.all_eq_true.mp h_ q_ hq_
  have e_ : q_ = t_ := of_decide_eq_true z_
  rw [e_, ht_] at u_
  exact absurd u_ (by decide)
theorem rcf_fr {w_ : sx_Wl} {c_ : Nat} {S_ S'_ : sm_S} (g_ : ai_fr (sx_W w_) S_ S'_) (h_ : rwf w_ = true) : rcf c_ S_ S'_ := fun t_ ht_ j_ _ => congrFun (fr_arr g_ (rwf_0 h_ ht_)) j_
theorem rcf_aI {c_ t_ k_ : Nat} {S_ S'_ : sm_S} {v_ : Int} (h_ : rcf c_ S_ S'_) (g_ : rct t_ = false ∨ (rcs t_ * c_ ≤ k_ ∧ k_ < rcs t_ * c_ + rcs t_)) : rcf c_ S_ (sm_aI S'_ t_ 0 k_ v_) := fun t1_ h1_ j_ hj_ => by
  rw [rd_aa, if_neg (by
    rintro ⟨q1_, -, q3_⟩
    rcases g_ with g_ | g_
    · rw [q1_, g_] at h1_; exact absurd h1_ (by decide)
    · rw [q1_] at hj_; omega)]
  exact h_ t1_ h1_ j_ hj_
/-- gates take nets from below -/
def cgt (c_ : Int) (S_ : sm_S) : Prop := ∀ g_ : Int, 0 ≤ g_ → g_ < S_.2.2.1 228 0 c_.toNat → ∀ k_ : Int, 0 ≤ k_ → k_ < 3 → (k_ = 0 ∨ k_ < S_.2.2.1 234 0 (12 * c_ + S_.2.2.1 229 0 (150 * c_ + g_).toNat).toNat) → 0 ≤ S_.2.2.1 230 0 (450 * c_ + 3 * g_ + k_).toNat ∧ S_.2.2.1 230 0 (450 * c_ + 3 * g_ + k_).toNat < S_.2.2.1 223 0 c_.toNat + S_.2.2.1 224 0 c_.toNat + g_
def con (c_ : Int) (S_ : sm_S) : Prop := (∀ k_ : Int, 0 ≤ k_ → k_ < S_.2.2.1 225 0 c_.toNat → S_.2.2.1 231 0 (16 * c_ + k_).toNat < S_.2.2.1 223 0 c_.toNat + S_.2.2.1 224 0 c_.toNat + S_.2.2.1 228 0 c_.toNat) ∧ ∀ k_ : Int, 0 ≤ k_ → k_ < S_.2.2.1 224 0 c_.toNat → S_.2.2.1 232 0 (6 * c_ + k_).toNat < S_.2.2.1 223 0 c_.toNat + S_.2.2.1 224 0 c_.toNat + S_.2.2.1 228 0 c_.toNat
def csz (c_ : Int) (S_ : sm_S) (e_ : Int) : Int := if e_ < S_.2.2.1 224 0 c_.toNat then 2 else 1 + S_.2.2.1 234 0 (12 * c_ + S_.2.2.1 229 0 (150 * c_ + (e_ - S_.2.2.1 224 0 c_.toNat)).toNat).toNat
def cpl (c_ : Int) (S_ : sm_S) : Prop := imq (1 ≤ S_.2.2.1 240 0 c_.toNat) (4 ≤ S_.2.2.1 239 0 c_.toNat ∧ ∀ e_ : Int, 0 ≤ e_ → e_ < S_.2.2.1 224 0 c_.toNat + S_.2.2.1 228 0 c_.toNat → S_.2.2.1 241 0 (156 * c_ + e_).toNat + csz c_ S_ e_ ≤ S_.2.2.1 239 0 c_.toNat ∧ S_.2.2.1 242 0 (156 * c_ + e_).toNat < S_.2.2.1 240 0 c_.toNat)
def cRk (c_ : Int) (S_ : sm_S) : Prop := S_.2.2.1 223 0 c_.toNat + S_.2.2.1 224 0 c_.toNat ≤ 12 ∧ S_.2.2.1 226 0 c_.toNat < 2 ^ (S_.2.2.1 224 0 c_.toNat).toNat ∧ S_.2.2.1 227 0 c_.toNat < 2 ^ (S_.2.2.1 224 0 c_.toNat).toNat ∧ cgt c_ S_ ∧ con c_ S_ ∧ cpl c_ S_ ∧ imq (S_.2.2.1 251 0 c_.toNat = 1) (1 ≤ S_.2.2.1 240 0 c_.toNat)
/-- a_ slice that stays -/
def sle (c_ : Int) (S_ S'_ : sm_S) : Prop := ∀ t_, rct t_ = true → ∀ j_, rcs t_ * c_.toNat ≤ j_ → j_ < rcs t_ * c_.toNat + rcs t_ → S'_.2.2.1 t_ 0 j_ = S_.2.2.1 t_ 0 j_
theorem sle_fr {w_ : sx_Wl} {c_ : Int} {S_ S'_ : sm_S} (g_ : ai_fr (sx_W w_) S_ S'_) (h_ : rwf w_ = true) : sle c_ S_ S'_ := fun t_ ht_ j_ _ _ => congrFun (fr_arr g_ (rwf_0 h_ ht_)) j_
theorem sle_cf {a_ : Nat} {c_ : Int} {S_ S'_ : sm_S} (g_ : rcf a_ S_ S'_) (h_ : c_.toNat ≠ a_) : sle c_ S_ S'_ := fun t_ ht_ j_ h1_ h2_ => g_ t_ ht_ j_ (by
  rcases Nat.lt_or_gt_of_ne h_ with z_ | z_
  · left
    have := Nat.mul_le_mul_left (rcs t_) (show c_.toNat + 1 ≤ a_ by omega)
    rw [Nat.mul_add] at this
    omega
  · right
    have := Nat.mul_le_mul_left (rcs t_) (show a_ + 1 ≤ c_.toNat by omega)
    rw [Nat.mul_add] at this
    omega)
theorem sle_1 {c_ : Int} {S_ S'_ : sm_S} (q_ : sle c_ S_ S'_) (t_ : Nat) (a_ : rct t_ = true) (b_ : rcs t_ = 1) : S'_.2.2.1 t_ 0 c_.toNat = S_.2.2.1 t_ 0 c_.toNat := q_ t_ a_ _ (by rw [b_]; omega) (by rw [b_]; omega)
/-- bounds of_ a_ slice -/
def scp (c_ : Int) (S_ : sm_S) : Prop := (0 ≤ S_.2.2.1 228 0 c_.toNat ∧ S_.2.2.1 228 0 c_.toNat ≤ 150) ∧ (0 ≤ S_.2.2.1 224 0 c_.toNat ∧ S_.2.2.1 224 0 c_.toNat ≤ 6) ∧ (0 ≤ S_.2.2.1 225 0 c_.toNat ∧ S_.2.2.1 225 0 c_.toNat ≤ 16) ∧ ∀ g_ : Int, 0 ≤ g_ → g_ < 150 → 0 ≤ S_.2.2.1 229 0 (150 * c_ + g_).toNat ∧ S_.2.2.1 229 0 (150 * c_ + g_).toNat ≤ 11
theorem scp_g {c_ : Int} {S_ : sm_S} (h_ : gi S_) : scp c_ S_ := ⟨h_.2 228 0 _, h_.2 224 0 _, h_.2 225 0 _, fun g_ _ _ => h_.2 229 0 _⟩
theorem scp_q {c_ : Int} {S_ S'_ : sm_S} (hc_ : 0 ≤ c_) (h_ : gi S'_) (q_ : sle c_ S_ S'_) : scp c_ S_ := by
  have z_ : scp c_ S'_ := scp_g h_
  obtain ⟨z1_, z2_, z3_, z4_⟩ := z_
  rw [sle_1 q_ 228 rfl rfl] at z1_
  rw [sle_1 q_ 224 rfl rfl] at z2_
  rw [sle_1 q_ 225 rfl rfl] at z3_
  refine ⟨z1_, z2_, z3_, fun g_ h0_ h1_ => ?_⟩
  have y_ := z4_ g_ h0_ h1_
  rw [q_ 229 rfl _ (by rw [show rcs 229 = 150 from rfl]; omega) (by rw [show rcs 229 = 150 from rfl]; omega)] at y_
  exact y_
theorem sle_cl {c_ g_ : Int} {S_ S'_ : sm_S} (q_ : sle c_ S_ S'_) (hc_ : 0 ≤ c_) (hI_ : scp c_ S_) (hg_ : 0 ≤ g_ ∧ g_ < 150) : S'_.2.2.1 229 0 (150 * c_ + g_).toNat = S_.2.2.1 229 0 (150 * c_ + g_).toNat ∧ S'_.2.2.1 234 0 (12 * c_ + S_.2.2.1 229 0 (150 * c_ + g_).toNat).toNat = S_.2.2.1 234 0 (12 * c_ + S_.2.2.1 229 0 (150 * c_ + g_).toNat).toNat := by
  have k_ : 0 ≤ S_.2.2.1 229 0 (150 * c_ + g_).toNat ∧ S_.2.2.1 229 0 (150 * c_ + g_).toNat ≤ 11 := hI_.2.2.2 g_ hg_.1 hg_.2
  exact ⟨q_ 229 rfl _ (by rw [show rcs 229 = 150 from rfl]; omega) (by rw [show rcs 229 = 150 from rfl]; omega), q_ 234 rfl _ (by rw [show rcs 234 = 12 from rfl]; omega) (by rw [show rcs 234 = 12 from rfl]; omega)⟩
theorem cgt_sl {c_ : Int} {S_ S'_ : sm_S} (hc_ : 0 ≤ c_) (hI_ : scp c_ S_) (h_ : cgt c_ S_) (q_ : sle c_ S_ S'_) : cgt c_ S'_ := by
  intro g_ h0_ h1_ k_ k0_ k1_ k2_
  have b_ : 0 ≤ S_.2.2.1 228 0 c_.toNat ∧ S_.2.2.1 228 0 c_.toNat ≤ 150 := hI_.1
  rw [sle_1 q_ 228 rfl rfl] at h1_
  have e_ := sle_cl q_ hc_ hI_ (g_ := g_) (by omega)
  rw [e_.1, e_.2] at k2_
  rw [sle_1 q_ 223 rfl rfl, sle_1 q_ 224 rfl rfl, q_ 230 rfl _ (by rw [show rcs 230 = 450 from rfl]; omega) (by rw [show rcs 230 = 450 from rfl]; omega)]
  exact h_ g_ h0_ h1_ k_ k0_ k1_ k2_
theorem con_sl {c_ : Int} {S_ S'_ : sm_S} (hc_ : 0 ≤ c_) (hI_ : scp c_ S_) (h_ : con c_ S_) (q_ : sle c_ S_ S'_) : con c_ S'_ := by
  have b_ : 0 ≤ S_.2.2.1 225 0 c_.toNat ∧ S_.2.2.1 225 0 c_.toNat ≤ 16 := hI_.2.2.1
  have b2_ : 0 ≤ S_.2.2.1 224 0 c_.toNat ∧ S_.2.2.1 224 0 c_.toNat ≤ 6 := hI_.2.1
  unfold con
  rw [sle_1 q_ 223 rfl rfl, sle_1 q_ 224 rfl rfl, sle_1 q_ 225 rfl rfl, sle_1 q_ 228 rfl rfl]
  refine ⟨fun k_ h0_ h1_ => ?_, fun k_ h0_ h1_ => ?_⟩
  · rw [q_ 231 rfl _ (by rw [show rcs 231 = 16 from rfl]; omega) (by rw [show rcs 231 = 16 from rfl]; omega)]
    exact h_.1 k_ h0_ h1_
  · rw [q_ 232 rfl _ (by rw [show rcs 232 = 6 from rfl]; omega) (by rw [show rcs 232 = 6 from rfl]; omega)]
    exact h_.2 k_ h0_ h1_
theorem csz_sl {c_ e_ : Int} {S_ S'_ : sm_S} (hc_ : 0 ≤ c_) (hI_ : scp c_ S_) (q_ : sle c_ S_ S'_) (h_ : 0 ≤ e_ ∧ e_ < S_.2.2.1 224 0 c_.toNat + S_.2.2.1 228 0 c_.toNat) : csz c_ S'_ e_ = csz c_ S_ e_ := by
  have b_ : 0 ≤ S_.2.2.1 228 0 c_.toNat ∧ S_.2.2.1 228 0 c_.toNat ≤ 150 := hI_.1
  have b2_ : 0 ≤ S_.2.2.1 224 0 c_.toNat ∧ S_.2.2.1 224 0 c_.toNat ≤ 6 := hI_.2.1
  unfold csz
  rw [sle_1 q_ 224 rfl rfl]
  split
  · rfl
  · have z_ := sle_cl q_ hc_ hI_ (g_ := e_ - S_.2.2.1 224 0 c_.toNat) (by omega)
    rw [z_.1, z_.2]
theorem cpl_sl {c_ : Int} {S_ S'_ : sm_S} (hc_ : 0 ≤ c_) (hI_ : scp c_ S_) (h_ : cpl c_ S_) (q_ : sle c_ S_ S'_) : cpl c_ S'_ := by
  have b_ : 0 ≤ S_.2.2.1 228 0 c_.toNat ∧ S_.2.2.1 228 0 c_.toNat ≤ 150 := hI_.1
  have b2_ : 0 ≤ S_.2.2.1 224 0 c_.toNat ∧ S_.2.2.1 224 0 c_.toNat ≤ 6 := hI_.2.1
  unfold cpl
  rw [sle_1 q_ 224 rfl rfl, sle_1 q_ 228 rfl rfl, sle_1 q_ 239 rfl rfl, sle_1 q_ 240 rfl rfl]
  intro p_
  have z_ := h_ p_
  refine ⟨z_.1, fun e_ h0_ h1_ => ?_⟩
  rw [csz_sl hc_ hI_ q_ ⟨h0_, h1_⟩, q_ 241 rfl _ (by rw [show rcs 241 = 156 from rfl]; omega) (by rw [show rcs 241 = 156 from rfl]; omega), q_ 242 rfl _ (by rw [show rcs 242 = 156 from rfl]; omega) (by rw [show rcs 242 = 156 from rfl]; omega)]
  exact z_.2 e_ h0_ h1_
theorem cRk_sl {c_ : Int} {S_ S'_ : sm_S} (hc_ : 0 ≤ c_) (hI_ : scp c_ S_) (h_ : cRk c_ S_) (q_ : sle c_ S_ S'_) : cRk c_ S'_ := by
  obtain ⟨h1_, h2_, h3_, h4_, h5_, h6_, h7_⟩ := h_
  refine ⟨?_, ?_, ?_, cgt_sl hc_ hI_ h4_ q_, con_sl hc_ hI_ h5_ q_, cpl_sl hc_ hI_ h6_ q_, ?_⟩
  · rw [sle_1 q_ 223 rfl rfl, sle_1 q_ 224 rfl rfl]; exact h1_
  · rw [sle_1 q_ 226 rfl rfl, sle_1 q_ 224 rfl rfl]; exact h2_
  · rw [sle_1 q_ 227 rfl rfl, sle_1 q_ 224 rfl rfl]; exact h3_
  · rw [sle_1 q_ 251 rfl rfl, sle_1 q_ 240 rfl rfl]; exact h7_
theorem cRk_fr {w_ : sx_Wl} {c_ : Int} {S_ S'_ : sm_S} (hc_ : 0 ≤ c_) (hI_ : gi S'_) (h_ : cRk c_ S_) (g_ : ai_fr (sx_W w_) S_ S'_) (r_ : rwf w_ = true := by rfl) : cRk c_ S'_ := cRk_sl hc_ (scp_q hc_ hI_ (sle_fr g_ r_)) h_ (sle_fr g_ r_)
/-- what holds between the_ calls of_ the_ reference -/
def drAll (S_ : sm_S) : Prop := ∀ d_ : Nat, d_ < 6 → S_.2.2.1 153 0 d_ = 1 → dRk d_ S_
def rcAll (S_ : sm_S) : Prop := ∀ c_ : Int, 0 ≤ c_ → c_ < 4 → S_.2.2.1 222 0 c_.toNat = 1 → cRk c_ S_
def jR (S_ : sm_S) : Prop := drAll S_ ∧ rcAll S_
def dwf (w_ : sx_Wl) : Bool := w_.2.1.all (fun t_ => !(decide (153 ≤ t_) && decide (t_ < 171)))
theorem dwf_0 {w_ : sx_Wl} (h_ : dwf w_ = true) {t_ : Nat} (h1_ : 153 ≤ t_) (h2_ : t_ < 171) : (sx_W w_).2.1 t_ = false := by
  unfold dwf at h_
  unfold sx_W
  rw [List.any_eq_false]
  intro q_ hq_ z_
  have u_ := List.all_eq_true.mp h_ q_ hq_
  have e_ : q_ = t_ := of_decide_eq_true z_
  rw [e_, decide_eq_true h1_, decide_eq_true h2_] at u_
  exact absurd u_ (by decide)
theorem drAll_fr {w_ : sx_Wl} {S_ S'_ : sm_S} (h_ : drAll S_) (g_ : ai_fr (sx_W w_) S_ S'_) (q_ : dwf w_ = true := by rfl) : drAll S'_ := fun d_ hd_ z_ => by
  rw [fr_arr g_ (dwf_0 q_ (by decide) (by decide))] at z_
  exact dRk_fr (h_ d_ hd_ z_) g_ (fun t_ a_ b_ => dwf_0 q_ (by omega) a_)
theorem rcAll_fr {w_ : sx_Wl} {S_ S'_ : sm_S} (h_ : rcAll S_) (hI_ : gi S'_) (g_ : ai_fr (sx_W w_) S_ S'_) (q_ : rwf w_ = true := by rfl) : rcAll S'_ := fun c_ h0_ h1_ z_ => by
  rw [fr_arr g_ (rwf_0 q_ rfl)] at z_
  exact cRk_fr h0_ hI_ (h_ c_ h0_ h1_ z_) g_ q_
theorem jR_fr {w_ : sx_Wl} {S_ S'_ : sm_S} (h_ : jR S_) (hI_ : gi S'_) (g_ : ai_fr (sx_W w_) S_ S'_) (q_ : dwf w_ = true := by rfl) (r_ : rwf w_ = true := by rfl) : jR S'_ := ⟨drAll_fr h_.1 g_ q_, rcAll_fr h_.2 hI_ g_ r_⟩
/-- one_ chip changes -/
theorem rcAll_cf {a_ : Nat} {S_ S'_ : sm_S} (h_ : rcAll S_) (hI_ : gi S'_) (g_ : rcf a_ S_ S'_) (k_ : S'_.2.2.1 222 0 a_ = 1 → cRk (a_ : Int) S'_) : rcAll S'_ := fun c_ h0_ h1_ z_ => by
  by_cases e_ : c_.toNat = a_
  · have e2_ : c_ = (a_ : Int) := by omega
    rw [e_] at z_
    rw [e2_]
    exact k_ z_
  · rw [sle_1 (sle_cf g_ e_) 222 rfl rfl] at z_
    exact cRk_sl h0_ (scp_q h0_ hI_ (sle_cf g_ e_)) (h_ c_ h0_ h1_ z_) (sle_cf g_ e_)
theorem jR_cf {w_ : sx_Wl} {a_ : Nat} {S_ S'_ : sm_S} (h_ : jR S_) (hI_ : gi S'_) (f_ : ai_fr (sx_W w_) S_ S'_) (q_ : dwf w_ = true) (g_ : rcf a_ S_ S'_) (k_ : S'_.2.2.1 222 0 a_ = 1 → cRk (a_ : Int) S'_) : jR S'_ := ⟨drAll_fr h_.1 f_ q_, rcAll_cf h_.2 hI_ g_ k_⟩
