/-! 99.zr6 -/
section
/-! the reference: the grid, distances; written by wip/p55/gen/vg -/

/-! the_ reference: the_ grid, distances -/
def nxt (W_ H_ p_ k_ : Int) : Int := if k_ = 0 then (if p_ < W_ * H_ ∧ 0 < p_ % W_ then p_ - 1 else -1) else if k_ = 1 then (if p_ < W_ * H_ ∧ p_ % W_ < W_ - 1 then p_ + 1 else -1) else if k_ = 2 then (if W_ * H_ ≤ p_ ∧ 0 < p_ / W_ % H_ then p_ - W_ else -1) else if k_ = 3 then (if W_ * H_ ≤ p_ ∧ p_ / W_ % H_ < H_ - 1 then p_ + W_ else -1) else (if W_ * H_ ≤ p_ then p_ - W_ * H_ else p_ + W_ * H_)
theorem dmu {W_ p_ : Int} (h_ : 0 < W_) : p_ % W_ + W_ * (p_ / W_) = p_ ∧ 0 ≤ p_ % W_ ∧ p_ % W_ < W_ := (Int.ediv_emod_unique h_).mp ⟨rfl, rfl⟩
theorem dmv {W_ p_ x_ y_ : Int} (h_ : 0 < W_) (e_ : x_ + W_ * y_ = p_) (h0_ : 0 ≤ x_) (h1_ : x_ < W_) : p_ / W_ = y_ ∧ p_ % W_ = x_ := (Int.ediv_emod_unique h_).mpr ⟨e_, h0_, h1_⟩
theorem mlt {W_ a_ b_ : Int} (h_ : 0 < W_) (q_ : W_ * a_ < W_ * b_) : a_ < b_ := Int.lt_of_mul_lt_mul_left q_ (by omega)
theorem mle {W_ a_ b_ : Int} (h_ : 0 < W_) (q_ : a_ ≤ b_) : W_ * a_ ≤ W_ * b_ := Int.mul_le_mul_of_nonneg_left q_ (by omega)
/-- rows of_ the_ upper layer -/
theorem upr {W_ H_ p_ : Int} (hW_ : 0 < W_) (hH_ : 0 < H_) (h0_ : W_ * H_ ≤ p_) (h1_ : p_ < 2 * (W_ * H_)) : H_ ≤ p_ / W_ ∧ p_ / W_ < 2 * H_ ∧ p_ / W_ % H_ = p_ / W_ - H_ := by
  obtain ⟨e_, a_, b_⟩ := dmu (p_ := p_) hW_
  have c1_ : H_ ≤ p_ / W_ := by
    have q_ : W_ * H_ < W_ * (p_ / W_ + 1) := by rw [Int.mul_add]; omega
    have := mlt hW_ q_
    omega
  have c2_ : p_ / W_ < 2 * H_ := by
    have q_ : W_ * (p_ / W_) < W_ * (2 * H_) := by rw [Int.mul_left_comm]; omega
    exact mlt hW_ q_
  refine ⟨c1_, c2_, (dmv (y_ := 1) hH_ ?_ (by omega) (by omega)).2⟩
  rw [Int.mul_one]
  omega
theorem nxt_b {W_ H_ p_ : Int} (k_ : Int) (hW_ : 0 < W_) (hH_ : 0 < H_) (h0_ : 0 ≤ p_) (h1_ : p_ < 2 * (W_ * H_)) : nxt W_ H_ p_ k_ = -1 ∨ (0 ≤ nxt W_ H_ p_ k_ ∧ nxt W_ H_ p_ k_ < 2 * (W_ * H_) ∧ nxt W_ H_ p_ k_ ≠ p_) := by
  obtain ⟨e_, a_, b_⟩ := dmu (p_ := p_) hW_
  have wh_ : W_ * 1 ≤ W_ * H_ := mle hW_ (by omega)
  rw [Int.mul_one] at wh_
  unfold nxt
  split
  · split
    · rename_i z_
      have : 0 ≤ p_ / W_ := Int.ediv_nonneg h0_ (by omega)
      have := mle hW_ this
      rw [Int.mul_zero] at this
      omega
    · omega
  · split
    · split <;> omega
    · split
      · split <;> omega
      · split
        · split
          · rename_i z_
            obtain ⟨u1_, u2_, u3_⟩ := upr hW_ hH_ z_.1 h1_
            have : W_ * (p_ / W_ + 2) ≤ W_ * (2 * H_) := mle hW_ (by omega)
            rw [Int.mul_add, Int.mul_left_comm] at this
            omega
          · omega
        · split <;> omega
theorem nxt_s {W_ H_ p_ k_ : Int} (hW_ : 0 < W_) (hH_ : 0 < H_) (h0_ : 0 ≤ p_) (h1_ : p_ < 2 * (W_ * H_)) (hk_ : 0 ≤ k_ ∧ k_ ≤ 4) (hn_ : nxt W_ H_ p_ k_ ≠ -1) : ∃ k1_, (0 ≤ k1_ ∧ k1_ ≤ 4) ∧ nxt W_ H_ (nxt W_ H_ p_ k_) k1_ = p_ := by
  obtain ⟨e_, a_, b_⟩ := dmu (p_ := p_) hW_
  have cs_ : k_ = 0 ∨ k_ = 1 ∨ k_ = 2 ∨ k_ = 3 ∨ k_ = 4 := by omega
  rcases cs_ with c_ | c_ | c_ | c_ | c_ <;> subst c_
  · have d_ : nxt W_ H_ p_ 0 = if p_ < W_ * H_ ∧ 0 < p_ % W_ then p_ - 1 else -1 := by unfold nxt; rw [if_pos rfl]
    rw [d_] at hn_ ⊢
    split at hn_
    · rename_i z_
      rw [if_pos z_]
      refine ⟨1, by omega, ?_⟩
      unfold nxt
      rw [if_neg (by decide), if_pos rfl]
      have q_ := dmv (p_ := p_ - 1) (x_ := p_ % W_ - 1) (y_ := p_ / W_) hW_ (by omega) (by omega) (by omega)
      rw [q_.2, if_pos (by omega)]
      omega
    · exact absurd rfl hn_
  · have d_ : nxt W_ H_ p_ 1 = if p_ < W_ * H_ ∧ p_ % W_ < W_ - 1 then p_ + 1 else -1 := by unfold nxt; rw [if_neg (by decide), if_pos rfl]
    rw [d_] at hn_ ⊢
    split at hn_
    · rename_i z_
      rw [if_pos z_]
      refine ⟨0, by omega, ?_⟩
      unfold nxt
      rw [if_pos rfl]
      have q_ := dmv (p_ := p_ + 1) (x_ := p_ % W_ + 1) (y_ := p_ / W_) hW_ (by omega) (by omega) (by omega)
      have y1_ : p_ / W_ < H_ := mlt hW_ (by omega)
      have y2_ : W_ * (p_ / W_ + 1) ≤ W_ * H_ := mle hW_ (by omega)
      rw [Int.mul_add, Int.mul_one] at y2_
      rw [q_.2, if_pos (by omega)]
      omega
    · exact absurd rfl hn_
  · have d_ : nxt W_ H_ p_ 2 = if W_ * H_ ≤ p_ ∧ 0 < p_ / W_ % H_ then p_ - W_ else -1 := by unfold nxt; rw [if_neg (by decide), if_neg (by decide), if_pos rfl]
    rw [d_] at hn_ ⊢
    split at hn_
    · rename_i z_
      rw [if_pos z_]
      obtain ⟨u1_, u2_, u3_⟩ := upr hW_ hH_ z_.1 h1_
      refine ⟨3, by omega, ?_⟩
      unfold nxt
      rw [if_neg (by decide), if_neg (by decide), if_neg (by decide), if_pos rfl]
      have q_ := dmv (p_ := p_ - W_) (x_ := p_ % W_) (y_ := p_ / W_ - 1) hW_ (by rw [Int.mul_sub, Int.mul_one]; omega) (by omega) (by omega)
      have y2_ : W_ * H_ ≤ W_ * (p_ / W_ - 1) := mle hW_ (by omega)
      rw [Int.mul_sub, Int.mul_one] at y2_
      have v_ := upr (p_ := p_ - W_) hW_ hH_ (by omega) (by omega)
      rw [q_.1] at v_ ⊢
      rw [v_.2.2, if_pos (by omega)]
      omega
    · exact absurd rfl hn_
  · have d_ : nxt W_ H_ p_ 3 = if W_ * H_ ≤ p_ ∧ p_ / W_ % H_ < H_ - 1 then p_ + W_ else -1 := by unfold nxt; rw [if_neg (by decide), if_neg (by decide), if_neg (by decide), if_pos rfl]
    rw [d_] at hn_ ⊢
    split at hn_
    · rename_i z_
      rw [if_pos z_]
      obtain ⟨u1_, u2_, u3_⟩ := upr hW_ hH_ z_.1 h1_
      refine ⟨2, by omega, ?_⟩
      unfold nxt
      rw [if_neg (by decide), if_neg (by decide), if_pos rfl]
      have q_ := dmv (p_ := p_ + W_) (x_ := p_ % W_) (y_ := p_ / W_ + 1) hW_ (by rw [Int.mul_add, Int.mul_one]; omega) (by omega) (by omega)
      have y2_ : W_ * (p_ / W_ + 2) ≤ W_ * (2 * H_) := mle hW_ (by omega)
      rw [Int.mul_add, Int.mul_left_comm] at y2_
      have v_ := upr (p_ := p_ + W_) hW_ hH_ (by omega) (by omega)
      rw [q_.1] at v_ ⊢
      rw [v_.2.2, if_pos (by omega)]
      omega
    · exact absurd rfl hn_
  · have d_ : nxt W_ H_ p_ 4 = if W_ * H_ ≤ p_ then p_ - W_ * H_ else p_ + W_ * H_ := by unfold nxt; rw [if_neg (by decide), if_neg (by decide), if_neg (by decide), if_neg (by decide)]
    rw [d_] at hn_ ⊢
    refine ⟨4, by omega, ?_⟩
    unfold nxt
    rw [if_neg (by decide), if_neg (by decide), if_neg (by decide), if_neg (by decide)]
    split
    · rw [if_neg (by omega)]; omega
    · rw [if_pos (by omega)]; omega
/-- sums of_ distances -/
def sd9 (d_ : Nat → Int) : Nat → Nat
  | 0 => 0
  | n_ + 1 => sd9 d_ n_ + (d_ n_).toNat
theorem sd9_cg {d_ d'_ : Nat → Int} : ∀ {n_ : Nat}, (∀ k_, k_ < n_ → d'_ k_ = d_ k_) → sd9 d'_ n_ = sd9 d_ n_
  | 0, _ => rfl
  | n_ + 1, h_ => by
    show sd9 d'_ n_ + (d'_ n_).toNat = sd9 d_ n_ + (d_ n_).toNat
    rw [sd9_cg (fun k_ hk_ => h_ k_ (by omega)), h_ n_ (by omega)]
theorem sd9_up {d_ d'_ : Nat → Int} {j_ : Nat} (h0_ : 0 ≤ d'_ j_) (h1_ : d'_ j_ < d_ j_) (hg_ : ∀ k_, k_ ≠ j_ → d'_ k_ = d_ k_) : ∀ {n_ : Nat}, j_ < n_ → sd9 d'_ n_ + 1 ≤ sd9 d_ n_
  | 0, h_ => absurd h_ (Nat.not_lt_zero _)
  | n_ + 1, h_ => by
    show sd9 d'_ n_ + (d'_ n_).toNat + 1 ≤ sd9 d_ n_ + (d_ n_).toNat
    by_cases e_ : j_ = n_
    · subst e_
      rw [sd9_cg (fun k_ hk_ => hg_ k_ (by omega))]
      omega
    · have q_ := sd9_up h0_ h1_ hg_ (n_ := n_) (by omega)
      rw [hg_ n_ (fun z_ => e_ z_.symm)]
      omega
theorem cn1_sub {f_ g_ : Nat → Int} {j_ : Nat} (h0_ : f_ j_ = 1) (h1_ : g_ j_ ≠ 1) : ∀ {n_ : Nat}, (∀ k_, k_ < n_ → g_ k_ = 1 → f_ k_ = 1) → j_ < n_ → cn1 g_ n_ + 1 ≤ cn1 f_ n_
  | 0, _, h_ => absurd h_ (Nat.not_lt_zero _)
  | n_ + 1, hs_, h_ => by
    have mono : ∀ {m_ : Nat}, (∀ k_, k_ < m_ → g_ k_ = 1 → f_ k_ = 1) → cn1 g_ m_ ≤ cn1 f_ m_ := by
      intro m_
      induction m_ with
      | zero => intro _; exact Nat.le_refl _
      | succ m_ ih_ =>
        intro hm_
        have q_ := ih_ (fun k_ hk_ => hm_ k_ (by omega))
        show cn1 g_ m_ + (if g_ m_ = 1 then 1 else 0) ≤ cn1 f_ m_ + (if f_ m_ = 1 then 1 else 0)
        by_cases a_ : g_ m_ = 1
        · rw [if_pos a_, if_pos (hm_ m_ (by omega) a_)]; omega
        · rw [if_neg a_]; omega
    show cn1 g_ n_ + (if g_ n_ = 1 then 1 else 0) + 1 ≤ cn1 f_ n_ + (if f_ n_ = 1 then 1 else 0)
    by_cases e_ : j_ = n_
    · subst e_
      rw [if_neg h1_, if_pos h0_]
      have := mono (m_ := j_) (fun k_ hk_ => hs_ k_ (by omega))
      omega
    · have q_ := cn1_sub h0_ h1_ (n_ := n_) (fun k_ hk_ => hs_ k_ (by omega)) (by omega)
      by_cases a_ : g_ n_ = 1
      · rw [if_pos a_, if_pos (hs_ n_ (by omega) a_)]; omega
      · rw [if_neg a_]; omega
theorem cn1_mo {f_ g_ : Nat → Int} : ∀ {n_ : Nat}, (∀ k_, k_ < n_ → g_ k_ = 1 → f_ k_ = 1) → cn1 g_ n_ ≤ cn1 f_ n_
  | 0, _ => Nat.le_refl _
  | n_ + 1, h_ => by
    have q_ := cn1_mo (n_ := n_) (fun k_ hk_ => h_ k_ (by omega))
    show cn1 g_ n_ + (if g_ n_ = 1 then 1 else 0) ≤ cn1 f_ n_ + (if f_ n_ = 1 then 1 else 0)
    by_cases a_ : g_ n_ = 1
    · rw [if_pos a_, if_pos (h_ n_ (by omega) a_)]; omega
    · rw [if_neg a_]; omega
theorem sd9_b {d_ : Nat → Int} {M_ : Nat} (h_ : ∀ k_, d_ k_ ≤ (M_ : Int)) : ∀ n_, sd9 d_ n_ ≤ n_ * M_
  | 0 => Nat.zero_le _
  | n_ + 1 => by
    have q_ := sd9_b h_ n_
    have z_ := h_ n_
    show sd9 d_ n_ + (d_ n_).toNat ≤ (n_ + 1) * M_
    rw [Nat.succ_mul]
    omega
theorem cn1_s (f_ : Nat → Int) (n_ : Nat) : cn1 f_ (n_ + 1) = cn1 f_ n_ + if f_ n_ = 1 then 1 else 0 := rfl
theorem cn1_z {f_ : Nat → Int} : ∀ {n_ : Nat}, cn1 f_ n_ = 0 → ∀ k_, k_ < n_ → f_ k_ ≠ 1
  | 0, _, k_, h_ => absurd h_ (Nat.not_lt_zero _)
  | n_ + 1, z_, k_, h_ => by
    rw [cn1_s] at z_
    by_cases e_ : k_ = n_
    · intro y_
      rw [← e_, y_, if_pos rfl] at z_
      omega
    · exact cn1_z (n_ := n_) (by omega) k_ (by omega)
/-- a_ row_ that goes round -/
def pos9 (A_ b_ j_ : Int) : Int := if b_ + j_ < A_ then b_ + j_ else b_ + j_ - A_
theorem pos9_m {A_ b_ c_ : Int} (hb_ : 0 ≤ b_ ∧ b_ < A_) (hc_ : 0 ≤ c_ ∧ c_ < A_) : (b_ + c_) % A_ = pos9 A_ b_ c_ := by
  unfold pos9
  split
  · exact Int.emod_eq_of_lt (by omega) (by omega)
  · rename_i z_
    exact (dmv (y_ := 1) (by omega) (by rw [Int.mul_one]; omega) (by omega) (by omega)).2
def mQ (A_ : Int) (il_ ln_ : Nat → Int) (b_ c_ : Int) : Prop := (0 ≤ b_ ∧ b_ < A_ ∧ 0 ≤ c_ ∧ c_ ≤ A_) ∧ (∀ j_, 0 ≤ j_ → j_ < c_ → 0 ≤ ln_ (pos9 A_ b_ j_).toNat ∧ ln_ (pos9 A_ b_ j_).toNat < A_ ∧ il_ (ln_ (pos9 A_ b_ j_).toNat).toNat = 1) ∧ (∀ i_ j_, 0 ≤ i_ → i_ < j_ → j_ < c_ → ln_ (pos9 A_ b_ i_).toNat ≠ ln_ (pos9 A_ b_ j_).toNat) ∧ (cn1 il_ A_.toNat : Int) = c_
theorem mQ_pop {A_ b_ b1_ c_ p_ : Int} {il_ il'_ ln_ : Nat → Int} (h_ : mQ A_ il_ ln_ b_ c_) (hc_ : 0 < c_) (hp_ : p_ = ln_ b_.toNat) (hb_ : b1_ = b_ + 1 ∧ b_ + 1 < A_ ∨ b1_ = 0 ∧ b_ + 1 = A_) (hl_ : ∀ k_, il'_ k_ = if k_ = p_.toNat then 0 else il_ k_) : mQ A_ il'_ ln_ b1_ (c_ - 1) := by
  obtain ⟨h1_, h2_, h3_, h4_⟩ := h_
  have p0_ : pos9 A_ b_ 0 = b_ := by unfold pos9; rw [if_pos (by omega)]; omega
  have q0_ := h2_ 0 (by omega) hc_
  rw [p0_, ← hp_] at q0_
  have ps_ : ∀ j_, 0 ≤ j_ → j_ < c_ - 1 → pos9 A_ b1_ j_ = pos9 A_ b_ (j_ + 1) := by
    intro j_ a1_ a2_
    unfold pos9
    split <;> split <;> omega
  refine ⟨by omega, fun j_ a1_ a2_ => ?_, fun i_ j_ a1_ a2_ a3_ => ?_, ?_⟩
  · rw [ps_ j_ a1_ a2_]
    have q_ := h2_ (j_ + 1) (by omega) (by omega)
    have d_ := h3_ 0 (j_ + 1) (by omega) (by omega) (by omega)
    rw [p0_, ← hp_] at d_
    refine ⟨q_.1, q_.2.1, ?_⟩
    rw [hl_, if_neg (by omega)]
    exact q_.2.2
  · rw [ps_ i_ a1_ (by omega), ps_ j_ (by omega) a3_]
    exact h3_ (i_ + 1) (j_ + 1) (by omega) (by omega) (by omega)
  · have u_ := cn1_up (f := il'_) (g := il_) (j := p_.toNat) (by rw [hl_, if_pos rfl]; decide) q0_.2.2 (fun k_ hk_ => by rw [hl_, if_neg hk_]) (n := A_.toNat) (by omega)
    omega
theorem mQ_push {A_ b_ c_ q_ : Int} {il_ il'_ ln_ ln'_ : Nat → Int} (h_ : mQ A_ il_ ln_ b_ c_) (hq_ : 0 ≤ q_ ∧ q_ < A_) (hi_ : il_ q_.toNat ≠ 1) (hl_ : ∀ k_, il'_ k_ = if k_ = q_.toNat then 1 else il_ k_) (hn_ : ∀ k_, ln'_ k_ = if k_ = (pos9 A_ b_ c_).toNat then q_ else ln_ k_) : mQ A_ il'_ ln'_ b_ (c_ + 1) ∧ c_ < A_ := by
  obtain ⟨h1_, h2_, h3_, h4_⟩ := h_
  have lt_ := cn1_lt (f := il_) (j := q_.toNat) hi_ (n := A_.toNat) (by omega)
  have cA_ : c_ < A_ := by omega
  have pn_ : ∀ j_, 0 ≤ j_ → j_ < c_ → (pos9 A_ b_ j_).toNat ≠ (pos9 A_ b_ c_).toNat := by
    intro j_ a1_ a2_
    unfold pos9
    split <;> split <;> omega
  refine ⟨⟨by omega, fun j_ a1_ a2_ => ?_, fun i_ j_ a1_ a2_ a3_ => ?_, ?_⟩, cA_⟩
  · by_cases e_ : j_ = c_
    · rw [e_, hn_, if_pos rfl, hl_, if_pos rfl]
      exact ⟨hq_.1, hq_.2, rfl⟩
    · have z_ := h2_ j_ a1_ (by omega)
      rw [hn_, if_neg (pn_ j_ a1_ (by omega)), hl_]
      refine ⟨z_.1, z_.2.1, ?_⟩
      split
      · rfl
      · exact z_.2.2
  · rw [hn_, if_neg (pn_ i_ a1_ (by omega)), hn_]
    by_cases e_ : j_ = c_
    · rw [e_, if_pos rfl]
      intro y_
      have z_ := h2_ i_ a1_ (by omega)
      rw [y_] at z_
      exact hi_ z_.2.2
    · rw [if_neg (pn_ j_ (by omega) (by omega))]
      exact h3_ i_ j_ a1_ a2_ (by omega)
  · have u_ := cn1_up (f := il_) (g := il'_) (j := q_.toNat) hi_ (by rw [hl_, if_pos rfl]) (fun k_ hk_ => by rw [hl_, if_neg hk_]) (n := A_.toNat) (by omega)
    omega
/-- distances have points before them -/
def mI1 (W_ H_ net_ : Int) (n_ pr_ : Int → Int) (d_ : Nat → Int) : Prop := ∀ q_ : Int, 0 ≤ q_ → q_ < 2 * (W_ * H_) → 0 < d_ q_.toNat → d_ q_.toNat < 1000000000 → n_ q_ ≠ net_ ∧ 0 < pr_ q_ ∧ ∃ k_ : Int, (0 ≤ k_ ∧ k_ ≤ 4) ∧ 0 ≤ nxt W_ H_ q_ k_ ∧ d_ (nxt W_ H_ q_ k_).toNat + pr_ q_ ≤ d_ q_.toNat
/-- points that are_ done have near neighbours -/
def mI2 (W_ H_ net_ : Int) (n_ pr_ : Int → Int) (d_ il_ : Nat → Int) (x_ k0_ : Int) : Prop := ∀ p_ : Int, 0 ≤ p_ → p_ < 2 * (W_ * H_) → d_ p_.toNat < 1000000000 → il_ p_.toNat = 0 → ∀ k_, 0 ≤ k_ → k_ ≤ 4 → (p_ = x_ → k_ < k0_) → 0 ≤ nxt W_ H_ p_ k_ → n_ (nxt W_ H_ p_ k_) ≠ net_ → 0 < pr_ (nxt W_ H_ p_ k_) → d_ (nxt W_ H_ p_ k_).toNat ≤ d_ p_.toNat + pr_ (nxt W_ H_ p_ k_)
def mD1 (W_ H_ net_ : Int) (n_ : Int → Int) (d_ : Nat → Int) : Prop := ∀ p_ : Int, 0 ≤ p_ → p_ < 2 * (W_ * H_) → d_ p_.toNat = 0 → n_ p_ = net_
def mD2 (W_ H_ : Int) (pr_ : Int → Int) (d_ : Nat → Int) : Prop := ∀ q_ : Int, 0 ≤ q_ → q_ < 2 * (W_ * H_) → 0 < d_ q_.toNat → d_ q_.toNat < 1000000000 → 0 < pr_ q_ ∧ ∃ k_ : Int, (0 ≤ k_ ∧ k_ ≤ 4) ∧ 0 ≤ nxt W_ H_ q_ k_ ∧ d_ (nxt W_ H_ q_ k_).toNat = d_ q_.toNat - pr_ q_
theorem mD_of {W_ H_ net_ : Int} {n_ pr_ : Int → Int} {d_ il_ : Nat → Int} (hW_ : 0 < W_) (hH_ : 0 < H_) (h1_ : mI1 W_ H_ net_ n_ pr_ d_) (h2_ : mI2 W_ H_ net_ n_ pr_ d_ il_ (-1) 0) (hz_ : ∀ p_ : Int, 0 ≤ p_ → p_ < 2 * (W_ * H_) → il_ p_.toNat = 0) : mD2 W_ H_ pr_ d_ := by
  intro q_ q0_ q1_ q2_ q3_
  obtain ⟨a1_, a2_, k_, a3_, a4_, a5_⟩ := h1_ q_ q0_ q1_ q2_ q3_
  refine ⟨a2_, k_, a3_, a4_, ?_⟩
  have nb := nxt_b k_ hW_ hH_ q0_ q1_
  obtain ⟨k1_, b1_, b2_⟩ := nxt_s hW_ hH_ q0_ q1_ a3_ (by omega)
  have r_ : nxt W_ H_ q_ k_ < 2 * (W_ * H_) := by omega
  have z_ := h2_ (nxt W_ H_ q_ k_) a4_ r_ (by omega) (hz_ _ a4_ r_) k1_ b1_.1 b1_.2 (by intro y_; omega) (by rw [b2_]; exact q0_) (by rw [b2_]; exact a1_) (by rw [b2_]; exact a2_)
  rw [b2_] at z_
  omega
/-- a_ shorter way_ to_ q_, from p_ -/
theorem mRl {W_ H_ net_ p_ k0_ : Int} {n_ pr_ : Int → Int} {d_ d'_ il_ il'_ : Nat → Int} (hW_ : 0 < W_) (hH_ : 0 < H_) (hp_ : 0 ≤ p_ ∧ p_ < 2 * (W_ * H_)) (hk_ : 0 ≤ k0_ ∧ k0_ ≤ 4) (h0_ : ∀ j_, 0 ≤ d_ j_) (h1_ : mI1 W_ H_ net_ n_ pr_ d_) (h2_ : mI2 W_ H_ net_ n_ pr_ d_ il_ p_ k0_) (hd_ : mD1 W_ H_ net_ n_ d_) (q0_ : 0 ≤ nxt W_ H_ p_ k0_) (qn_ : n_ (nxt W_ H_ p_ k0_) ≠ net_) (qp_ : 0 < pr_ (nxt W_ H_ p_ k0_)) (ql_ : d_ p_.toNat + pr_ (nxt W_ H_ p_ k0_) < d_ (nxt W_ H_ p_ k0_).toNat) (e_ : ∀ j_, d'_ j_ = if j_ = (nxt W_ H_ p_ k0_).toNat then d_ p_.toNat + pr_ (nxt W_ H_ p_ k0_) else d_ j_) (ei_ : il'_ (nxt W_ H_ p_ k0_).toNat = 1) (eo_ : ∀ j_, j_ ≠ (nxt W_ H_ p_ k0_).toNat → il'_ j_ = il_ j_) : mI1 W_ H_ net_ n_ pr_ d'_ ∧ mI2 W_ H_ net_ n_ pr_ d'_ il'_ p_ (k0_ + 1) ∧ mD1 W_ H_ net_ n_ d'_ := by
  have nb := nxt_b k0_ hW_ hH_ hp_.1 hp_.2
  have nb2_ : nxt W_ H_ p_ k0_ < 2 * (W_ * H_) ∧ nxt W_ H_ p_ k0_ ≠ p_ := by omega
  have hq_ := h0_ p_.toNat
  have dle_ : ∀ j_, d'_ j_ ≤ d_ j_ := by
    intro j_
    rw [e_]
    split
    · rename_i z_; rw [z_]; omega
    · exact Int.le_refl _
  have dp_ : d'_ p_.toNat = d_ p_.toNat := by rw [e_, if_neg (by omega)]
  refine ⟨fun x_ x0_ x1_ x2_ x3_ => ?_, fun y_ y0_ y1_ y2_ y3_ k_ k1_ k2_ k3_ k4_ k5_ k6_ => ?_, fun x_ x0_ x1_ x2_ => ?_⟩
  · by_cases c_ : x_ = nxt W_ H_ p_ k0_
    · rw [c_]
      obtain ⟨k1_, b1_, b2_⟩ := nxt_s hW_ hH_ hp_.1 hp_.2 hk_ (by omega)
      refine ⟨qn_, qp_, k1_, b1_, by rw [b2_]; exact hp_.1, ?_⟩
      rw [b2_, dp_, e_, if_pos rfl]
      exact Int.le_refl _
    · have ex_ : d'_ x_.toNat = d_ x_.toNat := by rw [e_, if_neg (by omega)]
      rw [ex_] at x2_ x3_
      obtain ⟨a1_, a2_, k_, a3_, a4_, a5_⟩ := h1_ x_ x0_ x1_ x2_ x3_
      refine ⟨a1_, a2_, k_, a3_, a4_, ?_⟩
      have := dle_ (nxt W_ H_ x_ k_).toNat
      rw [ex_]
      omega
  · have yq_ : y_ ≠ nxt W_ H_ p_ k0_ := by
      intro z_
      rw [z_, ei_] at y3_
      exact absurd y3_ (by decide)
    have ey_ : d'_ y_.toNat = d_ y_.toNat := by rw [e_, if_neg (by omega)]
    rw [ey_] at y2_ ⊢
    rw [eo_ _ (by omega)] at y3_
    by_cases c_ : y_ = p_ ∧ k_ = k0_
    · rw [c_.1, c_.2] at k4_ ⊢
      rw [e_, if_pos rfl]
      exact Int.le_refl _
    · have z_ := h2_ y_ y0_ y1_ y2_ y3_ k_ k1_ k2_ (by intro w_; have := k3_ w_; omega) k4_ k5_ k6_
      have := dle_ (nxt W_ H_ y_ k_).toNat
      omega
  · by_cases c_ : x_ = nxt W_ H_ p_ k0_
    · rw [c_, e_, if_pos rfl] at x2_
      omega
    · rw [e_, if_neg (by omega)] at x2_
      exact hd_ x_ x0_ x1_ x2_
/-- no_ shorter way_ by k0_ -/
theorem mNl {W_ H_ net_ p_ k0_ : Int} {n_ pr_ : Int → Int} {d_ il_ : Nat → Int} (h2_ : mI2 W_ H_ net_ n_ pr_ d_ il_ p_ k0_) (c_ : 0 ≤ nxt W_ H_ p_ k0_ → n_ (nxt W_ H_ p_ k0_) ≠ net_ → 0 < pr_ (nxt W_ H_ p_ k0_) → d_ (nxt W_ H_ p_ k0_).toNat ≤ d_ p_.toNat + pr_ (nxt W_ H_ p_ k0_)) : mI2 W_ H_ net_ n_ pr_ d_ il_ p_ (k0_ + 1) := by
  intro y_ y0_ y1_ y2_ y3_ k_ k1_ k2_ k3_ k4_ k5_ k6_
  by_cases w_ : y_ = p_ ∧ k_ = k0_
  · rw [w_.1, w_.2] at k4_ k5_ k6_ ⊢
    exact c_ k4_ k5_ k6_
  · exact h2_ y_ y0_ y1_ y2_ y3_ k_ k1_ k2_ (by intro z_; have := k3_ z_; omega) k4_ k5_ k6_
theorem mI2_pop {W_ H_ net_ p_ : Int} {n_ pr_ : Int → Int} {d_ il_ il'_ : Nat → Int} (h2_ : mI2 W_ H_ net_ n_ pr_ d_ il_ (-1) 0) (hp_ : 0 ≤ p_) (hl_ : ∀ k_, il'_ k_ = if k_ = p_.toNat then 0 else il_ k_) : mI2 W_ H_ net_ n_ pr_ d_ il'_ p_ 0 := by
  intro y_ y0_ y1_ y2_ y3_ k_ k1_ k2_ k3_ k4_ k5_ k6_
  have yp_ : y_ ≠ p_ := fun z_ => by have := k3_ z_; omega
  rw [hl_, if_neg (by omega)] at y3_
  exact h2_ y_ y0_ y1_ y2_ y3_ k_ k1_ k2_ (by intro z_; omega) k4_ k5_ k6_
theorem mI2_end {W_ H_ net_ p_ k0_ : Int} {n_ pr_ : Int → Int} {d_ il_ : Nat → Int} (h2_ : mI2 W_ H_ net_ n_ pr_ d_ il_ p_ k0_) (hk_ : 4 < k0_) : mI2 W_ H_ net_ n_ pr_ d_ il_ (-1) 0 := by
  intro y_ y0_ y1_ y2_ y3_ k_ k1_ k2_ k3_ k4_ k5_ k6_
  exact h2_ y_ y0_ y1_ y2_ y3_ k_ k1_ k2_ (fun _ => by omega) k4_ k5_ k6_
/-- the_ net_ of_ a_ point, its_ price -/
def nta (S_ : sm_S) (p_ : Int) : Int := S_.2.2.1 252 0 (4712 * S_.1 13 0 177 + p_).toNat
def pcr (kf_ na_ net_ de_ : Int) : Int := if kf_ ≠ -1 ∧ kf_ ≠ net_ then 0 else if na_ = -1 ∨ na_ = net_ then 1 else if de_ ≠ 0 then 11 else 0
def prS (S_ : sm_S) (net_ de_ q_ : Int) : Int := pcr (S_.2.2.1 257 0 q_.toNat) (nta S_ q_) net_ de_
theorem nta_fr {w_ : sx_Wl} {S_ S'_ : sm_S} (g_ : ai_fr (sx_W w_) S_ S'_) (h1_ : (sx_W w_).1 13 177 = false := by rfl) (h2_ : (sx_W w_).2.1 252 = false := by rfl) : nta S'_ = nta S_ := by
  funext p_
  unfold nta
  rw [g_.1 13 0 177 h1_, fr_arr g_ h2_]
theorem prS_fr {w_ : sx_Wl} {S_ S'_ : sm_S} {net_ de_ : Int} (g_ : ai_fr (sx_W w_) S_ S'_) (h1_ : (sx_W w_).1 13 177 = false := by rfl) (h2_ : (sx_W w_).2.1 252 = false := by rfl) (h3_ : (sx_W w_).2.1 257 = false := by rfl) : prS S'_ net_ de_ = prS S_ net_ de_ := by
  funext p_
  unfold prS
  rw [nta_fr g_ h1_ h2_, fr_arr g_ h3_]
/-- the_ grid -/
def grd (S_ : sm_S) : Prop := 6 ≤ S_.1 13 0 174 ∧ S_.1 13 0 174 ≤ 62 ∧ 5 ≤ S_.1 13 0 175 ∧ S_.1 13 0 175 ≤ 38 ∧ S_.1 13 0 176 = 2 * (S_.1 13 0 174 * S_.1 13 0 175)
theorem grd_fr {w_ : sx_Wl} {S_ S'_ : sm_S} (h_ : grd S_) (g_ : ai_fr (sx_W w_) S_ S'_) (h1_ : (sx_W w_).1 13 174 = false := by rfl) (h2_ : (sx_W w_).1 13 175 = false := by rfl) (h3_ : (sx_W w_).1 13 176 = false := by rfl) : grd S'_ := by
  unfold grd
  rw [g_.1 13 0 174 h1_, g_.1 13 0 175 h2_, g_.1 13 0 176 h3_]
  exact h_
theorem grd_m {S_ : sm_S} (h_ : grd S_) : 30 ≤ S_.1 13 0 174 * S_.1 13 0 175 ∧ S_.1 13 0 174 * S_.1 13 0 175 ≤ 2356 := by
  obtain ⟨g1_, g2_, g3_, g4_, g5_⟩ := h_
  have m9_ := mul_b (x_ := S_.1 13 0 174) (y_ := S_.1 13 0 175) (X_ := 62) (Y_ := 38) (Z_ := 2356) (by omega) (by omega) (by decide)
  have mm_ : 6 * 5 ≤ S_.1 13 0 174 * S_.1 13 0 175 := Int.mul_le_mul (by omega) (by omega) (by decide) (by omega)
  omega
/-! M_.layGrid -/
def vw_463 : sx_Wl := ([(13, 174), (13, 175), (13, 176), (13, 177)], [], [])
def vq_463 (c_ : Int) (S0_ : sm_S) (u_ : Option sm_V) (S1_ : sm_S) : Prop := u_ = none ∧ gi S1_ ∧ ai_fr (sx_W vw_463) S0_ S1_ ∧ (grd S1_ ∧ S1_.1 13 0 177 = c_ ∧ S1_.1 13 0 174 = S0_.2.2.1 239 0 c_.toNat + 2 ∧ 3 * S0_.2.2.1 240 0 c_.toNat + 2 ≤ S1_.1 13 0 175 ∧ S0_.2.2.1 223 0 c_.toNat ≤ S1_.1 13 0 175 ∧ S0_.2.2.1 225 0 c_.toNat ≤ S1_.1 13 0 175)
set_option maxHeartbeats 400000 in
set_option maxRecDepth 20000 in
theorem vc_463 {sc_ : Nat × (Nat → Int)} (c_ : Int) (S0_ : sm_S) (hI_ : gi S0_) (hc_ : 0 ≤ c_ ∧ c_ ≤ 3) (hp_ : 1 ≤ S0_.2.2.1 240 0 c_.toNat ∧ 4 ≤ S0_.2.2.1 239 0 c_.toNat) : sm_T (mt_P sc_) 1 463 (0, [some (.inr (.inr (some (13, 0)))), some (.inl c_)], [], S0_) (fun ro9_ => ∃ u_ S1_, ro9_ = (.inl u_, S1_, 0) ∧ vq_463 c_ S0_ u_ S1_) := by
  have hF_ : ai_fr (sx_W vw_463) S0_ S0_ := ai_fr_rf
  have hIx1_ : gi (sm_pI S0_ 13 0 177 c_) := gi_pI hI_ (show 0 ≤ c_ ∧ c_ ≤ 3 from ⟨by omega, by omega⟩)
  have hFx2_ : ai_fr (sx_W vw_463) S0_ (sm_pI S0_ 13 0 177 c_) := ai_fr_tr hF_ (ai_fr_pI rfl)
  refine sm_T_go 7 (c1 := (11, [some (.inr (.inr (some (13, 0)))), some (.inl c_)], [.inl c_, .inr (.inr (some (239, 0))), .inr (.inr (some (13, 0)))], sm_pI S0_ 13 0 177 c_)) rfl ?_
  refine sm_T_iald (n := 4) rfl rfl (by omega) (by omega) ?_
  have bx3_ : 0 ≤ S0_.2.2.1 239 0 c_.toNat ∧ S0_.2.2.1 239 0 c_.toNat ≤ 60 := hI_.2 239 0 _
  refine sm_T_go 1 (c1 := (13, [some (.inr (.inr (some (13, 0)))), some (.inl c_)], [.inl 2, .inl (S0_.2.2.1 239 0 c_.toNat), .inr (.inr (some (13, 0)))], sm_pI S0_ 13 0 177 c_)) rfl ?_
  refine sm_T_bin (w := (S0_.2.2.1 239 0 c_.toNat) + 2) rfl (bi_add (by omega) (by omega) (by omega)) ?_ -- pc_ 13
  have hIx4_ : gi (sm_pI (sm_pI S0_ 13 0 177 c_) 13 0 174 ((S0_.2.2.1 239 0 c_.toNat) + 2)) := gi_pI hIx1_ (show 0 ≤ (S0_.2.2.1 239 0 c_.toNat) + 2 ∧ (S0_.2.2.1 239 0 c_.toNat) + 2 ≤ 62 from ⟨by omega, by omega⟩)
  have hFx5_ : ai_fr (sx_W vw_463) S0_ (sm_pI (sm_pI S0_ 13 0 177 c_) 13 0 174 ((S0_.2.2.1 239 0 c_.toNat) + 2)) := ai_fr_tr hFx2_ (ai_fr_pI rfl)
  refine sm_T_go 4 (c1 := (20, [some (.inr (.inr (some (13, 0)))), some (.inl c_)], [.inl c_, .inr (.inr (some (13, 0))), .inr (.inr (some (13, 0)))], sm_pI (sm_pI S0_ 13 0 177 c_) 13 0 174 ((S0_.2.2.1 239 0 c_.toNat) + 2))) rfl ?_
  refine sm_T_cal (d1 := 0) (Q1 := vq_424 c_ (sm_pI (sm_pI S0_ 13 0 177 c_) 13 0 174 ((S0_.2.2.1 239 0 c_.toNat) + 2))) rfl rfl (by decide) (vc_424 c_ (sm_pI (sm_pI S0_ 13 0 177 c_) 13 0 174 ((S0_.2.2.1 239 0 c_.toNat) + 2)) hIx4_ (by omega)) (fun u_ Sx6_ px9_ => ?_)
  obtain ⟨rfl, vx11_, rfl, px9_⟩ := px9_
  have e20_ : (2 ≤ vx11_ ∧ vx11_ ≤ 38) ∧ (vx11_ = 3 * S0_.2.2.1 240 0 c_.toNat + 2 ∨ vx11_ = S0_.2.2.1 223 0 c_.toNat ∨ vx11_ = S0_.2.2.1 225 0 c_.toNat) ∧ 3 * S0_.2.2.1 240 0 c_.toNat + 2 ≤ vx11_ ∧ S0_.2.2.1 223 0 c_.toNat ≤ vx11_ ∧ S0_.2.2.1 225 0 c_.toNat ≤ vx11_ := px9_
  have hIx12_ : gi (sm_pI (sm_pI (sm_pI S0_ 13 0 177 c_) 13 0 174 ((S0_.2.2.1 239 0 c_.toNat) + 2)) 13 0 175 vx11_) := gi_pI hIx4_ (show 0 ≤ vx11_ ∧ vx11_ ≤ 38 from ⟨by omega, by omega⟩)
  have hFx13_ : ai_fr (sx_W vw_463) S0_ (sm_pI (sm_pI (sm_pI S0_ 13 0 177 c_) 13 0 174 ((S0_.2.2.1 239 0 c_.toNat) + 2)) 13 0 175 vx11_) := ai_fr_tr hFx5_ (ai_fr_pI rfl)
  refine sm_T_go 5 (c1 := (32, [some (.inr (.inr (some (13, 0)))), some (.inl c_)], [.inl ((S0_.2.2.1 239 0 c_.toNat) + 2), .inl 2, .inr (.inr (some (13, 0)))], sm_pI (sm_pI (sm_pI S0_ 13 0 177 c_) 13 0 174 ((S0_.2.2.1 239 0 c_.toNat) + 2)) 13 0 175 vx11_)) rfl ?_
  refine sm_T_bin (w := 2 * (S0_.2.2.1 239 0 c_.toNat) + 4) rfl (bi_mul (by omega) (by omega) (by omega)) ?_ -- pc_ 32
  refine sm_T_go 2 (c1 := (37, [some (.inr (.inr (some (13, 0)))), some (.inl c_)], [.inl vx11_, .inl (2 * (S0_.2.2.1 239 0 c_.toNat) + 4), .inr (.inr (some (13, 0)))], sm_pI (sm_pI (sm_pI S0_ 13 0 177 c_) 13 0 174 ((S0_.2.2.1 239 0 c_.toNat) + 2)) 13 0 175 vx11_)) rfl ?_
  have bx14_ := mul_b (x_ := (2 * (S0_.2.2.1 239 0 c_.toNat) + 4)) (y_ := vx11_) (X_ := 124) (Y_ := 38) (Z_ := 4712) (by omega) (by omega) (by decide)
  refine sm_T_bin (w := ((2 * (S0_.2.2.1 239 0 c_.toNat) + 4) * vx11_)) rfl (bi_mul rfl (by omega) (by omega)) ?_ -- pc_ 37
  have hIx15_ : gi (sm_pI (sm_pI (sm_pI (sm_pI S0_ 13 0 177 c_) 13 0 174 ((S0_.2.2.1 239 0 c_.toNat) + 2)) 13 0 175 vx11_) 13 0 176 ((2 * (S0_.2.2.1 239 0 c_.toNat) + 4) * vx11_)) := gi_pI hIx12_ (show 0 ≤ ((2 * (S0_.2.2.1 239 0 c_.toNat) + 4) * vx11_) ∧ ((2 * (S0_.2.2.1 239 0 c_.toNat) + 4) * vx11_) ≤ 4712 from ⟨by omega, by omega⟩)
  have hFx16_ : ai_fr (sx_W vw_463) S0_ (sm_pI (sm_pI (sm_pI (sm_pI S0_ 13 0 177 c_) 13 0 174 ((S0_.2.2.1 239 0 c_.toNat) + 2)) 13 0 175 vx11_) 13 0 176 ((2 * (S0_.2.2.1 239 0 c_.toNat) + 4) * vx11_)) := ai_fr_tr hFx13_ (ai_fr_pI rfl)
  refine sm_T_go 1 (c1 := (41, [some (.inr (.inr (some (13, 0)))), some (.inl c_)], [], sm_pI (sm_pI (sm_pI (sm_pI S0_ 13 0 177 c_) 13 0 174 ((S0_.2.2.1 239 0 c_.toNat) + 2)) 13 0 175 vx11_) 13 0 176 ((2 * (S0_.2.2.1 239 0 c_.toNat) + 4) * vx11_))) rfl ?_
  refine sm_T_rv rfl ⟨_, _, rfl, rfl, hIx15_, hFx16_, ?_⟩
  obtain ⟨hh_, ehh_⟩ : ∃ hh_, hh_ = (sm_pI (sm_pI (sm_pI (sm_pI S0_ 13 0 177 c_) 13 0 174 ((S0_.2.2.1 239 0 c_.toNat) + 2)) 13 0 175 vx11_) 13 0 176 ((2 * (S0_.2.2.1 239 0 c_.toNat) + 4) * vx11_)).1 13 0 175 := ⟨_, rfl⟩
  unfold grd
  (try simp only [rd_eq, rd_ne, rf_eq, rf_nk, rf_nt, rd_fa, rd_af, rd_fl, rd_al, rd_lf, rd_la, rd_leq, rd_lne, rd_fr, rd_ar, ne_eq, Nat.reduceEqDiff, not_false_eq_true])
  rw [show (2 * (S0_.2.2.1 239 0 c_.toNat) + 4) = 2 * (S0_.2.2.1 239 0 c_.toNat + 2) by omega, Int.mul_assoc]
  refine ⟨⟨?_, ?_, ?_, ?_, ?_⟩, ?_, ?_, ?_, ?_, ?_⟩
  · omega
  · omega
  · omega
  · omega
  · first | rfl | exact trivial | omega
  · first | rfl | exact trivial | omega
  · first | rfl | exact trivial | omega
  · omega
  · omega
  · omega
/-! M_.pointOf -/
def vw_452 : sx_Wl := ([], [], [])
def vq_452 (x_ : Int) (y_ : Int) (S0_ : sm_S) (u_ : Option sm_V) (S1_ : sm_S) : Prop := S0_ = S1_ ∧ ∃ v_ : Int, u_ = some (.inl v_) ∧ (v_ = y_ * S0_.1 13 0 174 + x_)
set_option maxHeartbeats 400000 in
set_option maxRecDepth 20000 in
theorem vc_452 {sc_ : Nat × (Nat → Int)} (x_ : Int) (y_ : Int) (S0_ : sm_S) (hI_ : gi S0_) (hx_ : 0 ≤ x_ ∧ x_ ≤ 200) (hy_ : 0 ≤ y_ ∧ y_ ≤ 40) : sm_T (mt_P sc_) 0 452 (0, [some (.inr (.inr (some (13, 0)))), some (.inl x_), some (.inl y_)], [], S0_) (fun ro9_ => ∃ u_ S1_, ro9_ = (.inl u_, S1_, 0) ∧ vq_452 x_ y_ S0_ u_ S1_) := by
  have hF_ : ai_fr (sx_W vw_452) S0_ S0_ := ai_fr_rf
  have bx1_ : 0 ≤ S0_.1 13 0 174 ∧ S0_.1 13 0 174 ≤ 62 := hI_.1 13 0 174 rfl
  refine sm_T_go 3 (c1 := (5, [some (.inr (.inr (some (13, 0)))), some (.inl x_), some (.inl y_)], [.inl (S0_.1 13 0 174), .inl y_], S0_)) rfl ?_
  have bx2_ := mul_b (x_ := y_) (y_ := (S0_.1 13 0 174)) (X_ := 40) (Y_ := 62) (Z_ := 2480) (by omega) (by omega) (by decide)
  refine sm_T_bin (w := (y_ * (S0_.1 13 0 174))) rfl (bi_mul rfl (by omega) (by omega)) ?_ -- pc_ 5
  refine sm_T_go 1 (c1 := (7, [some (.inr (.inr (some (13, 0)))), some (.inl x_), some (.inl y_)], [.inl x_, .inl (y_ * (S0_.1 13 0 174))], S0_)) rfl ?_
  refine sm_T_bin (w := (y_ * (S0_.1 13 0 174)) + x_) rfl (bi_add (by omega) (by omega) (by omega)) ?_ -- pc_ 7
  refine sm_T_ri rfl ⟨_, _, rfl, rfl, _, rfl, ?_⟩
  first | rfl | omega
/-! M_.netAt -/
def vw_454 : sx_Wl := ([], [], [])
def vq_454 (p_ : Int) (S0_ : sm_S) (u_ : Option sm_V) (S1_ : sm_S) : Prop := S0_ = S1_ ∧ ∃ v_ : Int, u_ = some (.inl v_) ∧ (v_ = nta S0_ p_ ∧ -1 ≤ v_ ∧ v_ ≤ 161)
set_option maxHeartbeats 400000 in
set_option maxRecDepth 20000 in
theorem vc_454 {sc_ : Nat × (Nat → Int)} (p_ : Int) (S0_ : sm_S) (hI_ : gi S0_) (hp_ : 0 ≤ p_ ∧ p_ ≤ 4711) : sm_T (mt_P sc_) 0 454 (0, [some (.inr (.inr (some (13, 0)))), some (.inl p_)], [], S0_) (fun ro9_ => ∃ u_ S1_, ro9_ = (.inl u_, S1_, 0) ∧ vq_454 p_ S0_ u_ S1_) := by
  have hF_ : ai_fr (sx_W vw_454) S0_ S0_ := ai_fr_rf
  have bx1_ : 0 ≤ S0_.1 13 0 177 ∧ S0_.1 13 0 177 ≤ 3 := hI_.1 13 0 177 rfl
  refine sm_T_go 5 (c1 := (11, [some (.inr (.inr (some (13, 0)))), some (.inl p_)], [.inl (S0_.1 13 0 177), .inl 4712, .inr (.inr (some (252, 0)))], S0_)) rfl ?_
  refine sm_T_bin (w := 4712 * (S0_.1 13 0 177)) rfl (bi_mul (by omega) (by omega) (by omega)) ?_ -- pc_ 11
  refine sm_T_go 1 (c1 := (13, [some (.inr (.inr (some (13, 0)))), some (.inl p_)], [.inl p_, .inl (4712 * (S0_.1 13 0 177)), .inr (.inr (some (252, 0)))], S0_)) rfl ?_
  refine sm_T_bin (w := 4712 * (S0_.1 13 0 177) + p_) rfl (bi_add (by omega) (by omega) (by omega)) ?_ -- pc_ 13
  refine sm_T_iald (n := 18848) rfl rfl (by omega) (by omega) ?_
  have bx2_ : (-1) ≤ S0_.2.2.1 252 0 (4712 * (S0_.1 13 0 177) + p_).toNat ∧ S0_.2.2.1 252 0 (4712 * (S0_.1 13 0 177) + p_).toNat ≤ 161 := hI_.2 252 0 _
  refine sm_T_ri rfl ⟨_, _, rfl, rfl, _, rfl, ?_⟩
  exact ⟨rfl, by omega, by omega⟩
/-! M_.price -/
def vw_455 : sx_Wl := ([], [], [])
def vq_455 (p_ : Int) (n_ : Int) (de_ : Int) (S0_ : sm_S) (u_ : Option sm_V) (S1_ : sm_S) : Prop := S0_ = S1_ ∧ ∃ v_ : Int, u_ = some (.inl v_) ∧ (v_ = prS S0_ n_ de_ p_ ∧ 0 ≤ v_ ∧ v_ ≤ 11)
set_option maxHeartbeats 400000 in
set_option maxRecDepth 20000 in
theorem vc_455 {sc_ : Nat × (Nat → Int)} (p_ : Int) (n_ : Int) (de_ : Int) (S0_ : sm_S) (hI_ : gi S0_) (hp_ : 0 ≤ p_ ∧ p_ ≤ 4711) : sm_T (mt_P sc_) 1 455 (0, [some (.inr (.inr (some (13, 0)))), some (.inl p_), some (.inl n_), some (.inl de_)], [], S0_) (fun ro9_ => ∃ u_ S1_, ro9_ = (.inl u_, S1_, 0) ∧ vq_455 p_ n_ de_ S0_ u_ S1_) := by
  have hF_ : ai_fr (sx_W vw_455) S0_ S0_ := ai_fr_rf
  refine sm_T_go 3 (c1 := (5, [some (.inr (.inr (some (13, 0)))), some (.inl p_), some (.inl n_), some (.inl de_)], [.inl p_, .inr (.inr (some (257, 0)))], S0_)) rfl ?_
  refine sm_T_iald (n := 4712) rfl rfl (by omega) (by omega) ?_
  have bx1_ : (-1) ≤ S0_.2.2.1 257 0 p_.toNat ∧ S0_.2.2.1 257 0 p_.toNat ≤ 161 := hI_.2 257 0 _
  refine sm_T_go 1 (c1 := (7, [some (.inr (.inr (some (13, 0)))), some (.inl p_), some (.inl n_), some (.inl de_)], [.inl (-1), .inl (S0_.2.2.1 257 0 p_.toNat)], S0_)) rfl ?_
  refine sm_T_br (a := 0) (z := 15) rfl (fun cx2_ => ?_) (fun cx2_ => ?_)
  · have cx2_ : (S0_.2.2.1 257 0 p_.toNat) = (-1) := of_decide_eq_true cx2_
    refine sm_T_go 2 (c1 := (24, [some (.inr (.inr (some (13, 0)))), some (.inl p_), some (.inl n_), some (.inl de_)], [.inl p_, .inr (.inr (some (13, 0)))], S0_)) rfl ?_
    refine sm_T_cal (d1 := 0) (Q1 := vq_454 p_ S0_) rfl rfl (by decide) (vc_454 p_ S0_ hI_ (by omega)) (fun u_ Sx3_ px6_ => ?_)
    obtain ⟨rfl, vx8_, rfl, px6_⟩ := px6_
    have e24_ := px6_
    refine sm_T_go 1 (c1 := (28, [some (.inr (.inr (some (13, 0)))), some (.inl p_), some (.inl n_), some (.inl de_)], [.inl (-1), .inl vx8_], S0_)) rfl ?_
    refine sm_T_br (a := 0) (z := 12) rfl (fun cx9_ => ?_) (fun cx9_ => ?_)
    · have cx9_ : vx8_ = (-1) := of_decide_eq_true cx9_
      refine sm_T_go 2 (c1 := (54, [some (.inr (.inr (some (13, 0)))), some (.inl p_), some (.inl n_), some (.inl de_)], [.inl 1], S0_)) rfl ?_
      refine sm_T_ri rfl ⟨_, _, rfl, rfl, _, rfl, ?_⟩
      refine ⟨?_, by omega, by omega⟩
      unfold prS pcr
      first | rw [if_pos (by omega)] | (rw [if_neg (by omega)]; first | rw [if_pos (by omega)] | (rw [if_neg (by omega)]; first | rw [if_pos (by omega)] | rw [if_neg (by omega)]))
    · have cx9_ : ¬ (vx8_ = (-1)) := of_decide_eq_false cx9_
      refine sm_T_go 2 (c1 := (33, [some (.inr (.inr (some (13, 0)))), some (.inl p_), some (.inl n_), some (.inl de_)], [.inl p_, .inr (.inr (some (13, 0)))], S0_)) rfl ?_
      refine sm_T_cal (d1 := 0) (Q1 := vq_454 p_ S0_) rfl rfl (by decide) (vc_454 p_ S0_ hI_ (by omega)) (fun u_ Sx10_ px13_ => ?_)
      obtain ⟨rfl, vx15_, rfl, px13_⟩ := px13_
      have e33_ := px13_
      refine sm_T_go 1 (c1 := (37, [some (.inr (.inr (some (13, 0)))), some (.inl p_), some (.inl n_), some (.inl de_)], [.inl n_, .inl vx15_], S0_)) rfl ?_
      refine sm_T_br (a := 1) (z := 7) rfl (fun cx16_ => ?_) (fun cx16_ => ?_)
      · have cx16_ : vx15_ ≠ n_ := of_decide_eq_true cx16_
        refine sm_T_go 1 (c1 := (45, [some (.inr (.inr (some (13, 0)))), some (.inl p_), some (.inl n_), some (.inl de_)], [.inl de_], S0_)) rfl ?_
        refine sm_T_b0 (a := 0) (z := 8) rfl (fun cx17_ => ?_) (fun cx17_ => ?_)
        · have cx17_ : de_ = 0 := of_decide_eq_true cx17_
          refine sm_T_go 1 (c1 := (54, [some (.inr (.inr (some (13, 0)))), some (.inl p_), some (.inl n_), some (.inl de_)], [.inl 0], S0_)) rfl ?_
          refine sm_T_ri rfl ⟨_, _, rfl, rfl, _, rfl, ?_⟩
          refine ⟨?_, by omega, by omega⟩
          unfold prS pcr
          first | rw [if_pos (by omega)] | (rw [if_neg (by omega)]; first | rw [if_pos (by omega)] | (rw [if_neg (by omega)]; first | rw [if_pos (by omega)] | rw [if_neg (by omega)]))
        · have cx17_ : ¬ (de_ = 0) := of_decide_eq_false cx17_
          refine sm_T_go 2 (c1 := (54, [some (.inr (.inr (some (13, 0)))), some (.inl p_), some (.inl n_), some (.inl de_)], [.inl 11], S0_)) rfl ?_
          refine sm_T_ri rfl ⟨_, _, rfl, rfl, _, rfl, ?_⟩
          refine ⟨?_, by omega, by omega⟩
          unfold prS pcr
          first | rw [if_pos (by omega)] | (rw [if_neg (by omega)]; first | rw [if_pos (by omega)] | (rw [if_neg (by omega)]; first | rw [if_pos (by omega)] | rw [if_neg (by omega)]))
      · have cx16_ : ¬ (vx15_ ≠ n_) := of_decide_eq_false cx16_
        refine sm_T_go 2 (c1 := (54, [some (.inr (.inr (some (13, 0)))), some (.inl p_), some (.inl n_), some (.inl de_)], [.inl 1], S0_)) rfl ?_
        refine sm_T_ri rfl ⟨_, _, rfl, rfl, _, rfl, ?_⟩
        refine ⟨?_, by omega, by omega⟩
        unfold prS pcr
        first | rw [if_pos (by omega)] | (rw [if_neg (by omega)]; first | rw [if_pos (by omega)] | (rw [if_neg (by omega)]; first | rw [if_pos (by omega)] | rw [if_neg (by omega)]))
  · have cx2_ : ¬ ((S0_.2.2.1 257 0 p_.toNat) = (-1)) := of_decide_eq_false cx2_
    refine sm_T_go 3 (c1 := (15, [some (.inr (.inr (some (13, 0)))), some (.inl p_), some (.inl n_), some (.inl de_)], [.inl p_, .inr (.inr (some (257, 0)))], S0_)) rfl ?_
    refine sm_T_iald (n := 4712) rfl rfl (by omega) (by omega) ?_
    refine sm_T_go 1 (c1 := (17, [some (.inr (.inr (some (13, 0)))), some (.inl p_), some (.inl n_), some (.inl de_)], [.inl n_, .inl (S0_.2.2.1 257 0 p_.toNat)], S0_)) rfl ?_
    refine sm_T_br (a := 0) (z := 5) rfl (fun cx18_ => ?_) (fun cx18_ => ?_)
    · have cx18_ : (S0_.2.2.1 257 0 p_.toNat) = n_ := of_decide_eq_true cx18_
      refine sm_T_go 2 (c1 := (24, [some (.inr (.inr (some (13, 0)))), some (.inl p_), some (.inl n_), some (.inl de_)], [.inl p_, .inr (.inr (some (13, 0)))], S0_)) rfl ?_
      refine sm_T_cal (d1 := 0) (Q1 := vq_454 p_ S0_) rfl rfl (by decide) (vc_454 p_ S0_ hI_ (by omega)) (fun u_ Sx19_ px22_ => ?_)
      obtain ⟨rfl, vx24_, rfl, px22_⟩ := px22_
      have e24_ := px22_
      refine sm_T_go 1 (c1 := (28, [some (.inr (.inr (some (13, 0)))), some (.inl p_), some (.inl n_), some (.inl de_)], [.inl (-1), .inl vx24_], S0_)) rfl ?_
      refine sm_T_br (a := 0) (z := 12) rfl (fun cx25_ => ?_) (fun cx25_ => ?_)
      · have cx25_ : vx24_ = (-1) := of_decide_eq_true cx25_
        refine sm_T_go 2 (c1 := (54, [some (.inr (.inr (some (13, 0)))), some (.inl p_), some (.inl n_), some (.inl de_)], [.inl 1], S0_)) rfl ?_
        refine sm_T_ri rfl ⟨_, _, rfl, rfl, _, rfl, ?_⟩
        refine ⟨?_, by omega, by omega⟩
        unfold prS pcr
        first | rw [if_pos (by omega)] | (rw [if_neg (by omega)]; first | rw [if_pos (by omega)] | (rw [if_neg (by omega)]; first | rw [if_pos (by omega)] | rw [if_neg (by omega)]))
      · have cx25_ : ¬ (vx24_ = (-1)) := of_decide_eq_false cx25_
        refine sm_T_go 2 (c1 := (33, [some (.inr (.inr (some (13, 0)))), some (.inl p_), some (.inl n_), some (.inl de_)], [.inl p_, .inr (.inr (some (13, 0)))], S0_)) rfl ?_
        refine sm_T_cal (d1 := 0) (Q1 := vq_454 p_ S0_) rfl rfl (by decide) (vc_454 p_ S0_ hI_ (by omega)) (fun u_ Sx26_ px29_ => ?_)
        obtain ⟨rfl, vx31_, rfl, px29_⟩ := px29_
        have e33_ := px29_
        refine sm_T_go 1 (c1 := (37, [some (.inr (.inr (some (13, 0)))), some (.inl p_), some (.inl n_), some (.inl de_)], [.inl n_, .inl vx31_], S0_)) rfl ?_
        refine sm_T_br (a := 1) (z := 7) rfl (fun cx32_ => ?_) (fun cx32_ => ?_)
        · have cx32_ : vx31_ ≠ n_ := of_decide_eq_true cx32_
          refine sm_T_go 1 (c1 := (45, [some (.inr (.inr (some (13, 0)))), some (.inl p_), some (.inl n_), some (.inl de_)], [.inl de_], S0_)) rfl ?_
          refine sm_T_b0 (a := 0) (z := 8) rfl (fun cx33_ => ?_) (fun cx33_ => ?_)
          · have cx33_ : de_ = 0 := of_decide_eq_true cx33_
            refine sm_T_go 1 (c1 := (54, [some (.inr (.inr (some (13, 0)))), some (.inl p_), some (.inl n_), some (.inl de_)], [.inl 0], S0_)) rfl ?_
            refine sm_T_ri rfl ⟨_, _, rfl, rfl, _, rfl, ?_⟩
            refine ⟨?_, by omega, by omega⟩
            unfold prS pcr
            first | rw [if_pos (by omega)] | (rw [if_neg (by omega)]; first | rw [if_pos (by omega)] | (rw [if_neg (by omega)]; first | rw [if_pos (by omega)] | rw [if_neg (by omega)]))
          · have cx33_ : ¬ (de_ = 0) := of_decide_eq_false cx33_
            refine sm_T_go 2 (c1 := (54, [some (.inr (.inr (some (13, 0)))), some (.inl p_), some (.inl n_), some (.inl de_)], [.inl 11], S0_)) rfl ?_
            refine sm_T_ri rfl ⟨_, _, rfl, rfl, _, rfl, ?_⟩
            refine ⟨?_, by omega, by omega⟩
            unfold prS pcr
            first | rw [if_pos (by omega)] | (rw [if_neg (by omega)]; first | rw [if_pos (by omega)] | (rw [if_neg (by omega)]; first | rw [if_pos (by omega)] | rw [if_neg (by omega)]))
        · have cx32_ : ¬ (vx31_ ≠ n_) := of_decide_eq_false cx32_
          refine sm_T_go 2 (c1 := (54, [some (.inr (.inr (some (13, 0)))), some (.inl p_), some (.inl n_), some (.inl de_)], [.inl 1], S0_)) rfl ?_
          refine sm_T_ri rfl ⟨_, _, rfl, rfl, _, rfl, ?_⟩
          refine ⟨?_, by omega, by omega⟩
          unfold prS pcr
          first | rw [if_pos (by omega)] | (rw [if_neg (by omega)]; first | rw [if_pos (by omega)] | (rw [if_neg (by omega)]; first | rw [if_pos (by omega)] | rw [if_neg (by omega)]))
    · have cx18_ : ¬ ((S0_.2.2.1 257 0 p_.toNat) = n_) := of_decide_eq_false cx18_
      refine sm_T_go 1 (c1 := (21, [some (.inr (.inr (some (13, 0)))), some (.inl p_), some (.inl n_), some (.inl de_)], [.inl 0], S0_)) rfl ?_
      refine sm_T_ri rfl ⟨_, _, rfl, rfl, _, rfl, ?_⟩
      refine ⟨?_, by omega, by omega⟩
      unfold prS pcr
      first | rw [if_pos (by omega)] | (rw [if_neg (by omega)]; first | rw [if_pos (by omega)] | (rw [if_neg (by omega)]; first | rw [if_pos (by omega)] | rw [if_neg (by omega)]))
/-! M_.next -/
def vw_453 : sx_Wl := ([], [], [])
def vq_453 (p_ : Int) (k_ : Int) (S0_ : sm_S) (u_ : Option sm_V) (S1_ : sm_S) : Prop := S0_ = S1_ ∧ ∃ v_ : Int, u_ = some (.inl v_) ∧ (v_ = nxt (S0_.1 13 0 174) (S0_.1 13 0 175) p_ k_)
set_option maxHeartbeats 400000 in
set_option maxRecDepth 20000 in
theorem vc_453 {sc_ : Nat × (Nat → Int)} (p_ : Int) (k_ : Int) (S0_ : sm_S) (hI_ : gi S0_) (hgr_ : grd S0_) (hp_ : 0 ≤ p_ ∧ p_ < S0_.1 13 0 176) (hk_ : 0 ≤ k_ ∧ k_ ≤ 4) : sm_T (mt_P sc_) 0 453 (0, [some (.inr (.inr (some (13, 0)))), some (.inl p_), some (.inl k_), none, none, none], [], S0_) (fun ro9_ => ∃ u_ S1_, ro9_ = (.inl u_, S1_, 0) ∧ vq_453 p_ k_ S0_ u_ S1_) := by
  have hF_ : ai_fr (sx_W vw_453) S0_ S0_ := ai_fr_rf
  have gm9_ := grd_m hgr_
  obtain ⟨g1_, g2_, g3_, g4_, g5_⟩ := hgr_
  have r1_ := Int.emod_nonneg p_ (show S0_.1 13 0 174 ≠ 0 by omega)
  have r2_ := Int.emod_lt_of_pos p_ (show 0 < S0_.1 13 0 174 by omega)
  have r3_ := Int.ediv_nonneg hp_.1 (show 0 ≤ S0_.1 13 0 174 by omega)
  have r4_ : p_ / S0_.1 13 0 174 ≤ p_ := Int.ediv_le_self _ hp_.1
  have r5_ := Int.emod_nonneg (p_ / S0_.1 13 0 174) (show S0_.1 13 0 175 ≠ 0 by omega)
  have r6_ := Int.emod_lt_of_pos (p_ / S0_.1 13 0 174) (show 0 < S0_.1 13 0 175 by omega)
  have bx1_ : 0 ≤ S0_.1 13 0 174 ∧ S0_.1 13 0 174 ≤ 62 := hI_.1 13 0 174 rfl
  refine sm_T_go 3 (c1 := (5, [some (.inr (.inr (some (13, 0)))), some (.inl p_), some (.inl k_), none, none, none], [.inl (S0_.1 13 0 174), .inl p_], S0_)) rfl ?_
  refine sm_T_bin (w := (p_ % (S0_.1 13 0 174))) rfl (bi_rem (by omega) (by omega) (by omega) (by omega)) ?_ -- pc_ 5
  refine sm_T_go 4 (c1 := (12, [some (.inr (.inr (some (13, 0)))), some (.inl p_), some (.inl k_), some (.inl (p_ % (S0_.1 13 0 174))), none, none], [.inl (S0_.1 13 0 174), .inl p_], S0_)) rfl ?_
  refine sm_T_bin (w := (p_ / (S0_.1 13 0 174))) rfl (bi_div (by omega) (by omega) (by omega) (by omega)) ?_ -- pc_ 12
  have bx2_ : 0 ≤ S0_.1 13 0 175 ∧ S0_.1 13 0 175 ≤ 38 := hI_.1 13 0 175 rfl
  refine sm_T_go 2 (c1 := (17, [some (.inr (.inr (some (13, 0)))), some (.inl p_), some (.inl k_), some (.inl (p_ % (S0_.1 13 0 174))), none, none], [.inl (S0_.1 13 0 175), .inl (p_ / (S0_.1 13 0 174))], S0_)) rfl ?_
  refine sm_T_bin (w := ((p_ / (S0_.1 13 0 174)) % (S0_.1 13 0 175))) rfl (bi_rem (by omega) (by omega) (by omega) (by omega)) ?_ -- pc_ 17
  refine sm_T_go 6 (c1 := (29, [some (.inr (.inr (some (13, 0)))), some (.inl p_), some (.inl k_), some (.inl (p_ % (S0_.1 13 0 174))), some (.inl ((p_ / (S0_.1 13 0 174)) % (S0_.1 13 0 175))), none], [.inl (S0_.1 13 0 175), .inl (S0_.1 13 0 174), .inl p_], S0_)) rfl ?_
  have bx3_ := mul_b (x_ := (S0_.1 13 0 174)) (y_ := (S0_.1 13 0 175)) (X_ := 62) (Y_ := 38) (Z_ := 2356) (by omega) (by omega) (by decide)
  refine sm_T_bin (w := ((S0_.1 13 0 174) * (S0_.1 13 0 175))) rfl (bi_mul rfl (by omega) (by omega)) ?_ -- pc_ 29
  refine sm_T_br (a := 2) (z := 7) rfl (fun cx4_ => ?_) (fun cx4_ => ?_)
  · have cx4_ : p_ < ((S0_.1 13 0 174) * (S0_.1 13 0 175)) := of_decide_eq_true cx4_
    refine sm_T_go 3 (c1 := (41, [some (.inr (.inr (some (13, 0)))), some (.inl p_), some (.inl k_), some (.inl (p_ % (S0_.1 13 0 174))), some (.inl ((p_ / (S0_.1 13 0 174)) % (S0_.1 13 0 175))), some (.inl 0)], [.inl k_], S0_)) rfl ?_
    by_cases cx5_ : k_ = 0
    · refine sm_T_sw (t := 72) rfl rfl (by rw [cx5_]; rfl) ?_
      refine sm_T_go 3 (c1 := (78, [some (.inr (.inr (some (13, 0)))), some (.inl p_), some (.inl k_), some (.inl (p_ % (S0_.1 13 0 174))), some (.inl ((p_ / (S0_.1 13 0 174)) % (S0_.1 13 0 175))), some (.inl 0)], [.inl (p_ % (S0_.1 13 0 174))], S0_)) rfl ?_
      refine sm_T_b0 (a := 5) (z := 9) rfl (fun cx6_ => ?_) (fun cx6_ => ?_)
      · have cx6_ : (p_ % (S0_.1 13 0 174)) ≤ 0 := of_decide_eq_true cx6_
        refine sm_T_go 1 (c1 := (88, [some (.inr (.inr (some (13, 0)))), some (.inl p_), some (.inl k_), some (.inl (p_ % (S0_.1 13 0 174))), some (.inl ((p_ / (S0_.1 13 0 174)) % (S0_.1 13 0 175))), some (.inl 0)], [.inl (-1)], S0_)) rfl ?_
        refine sm_T_ri rfl ⟨_, _, rfl, rfl, _, rfl, ?_⟩
        unfold nxt
        first | (have y9_ : k_ = 0 := (by omega); rw [if_pos y9_]) | (have y9_ : k_ = 1 := (by omega); rw [if_neg (by omega), if_pos y9_]) | (have y9_ : k_ = 2 := (by omega); rw [if_neg (by omega), if_neg (by omega), if_pos y9_]) | (have y9_ : k_ = 3 := (by omega); rw [if_neg (by omega), if_neg (by omega), if_neg (by omega), if_pos y9_]) | (rw [if_neg (by omega), if_neg (by omega), if_neg (by omega), if_neg (by omega)])
        first | rw [if_pos (by omega)] | rw [if_neg (by omega)]
      · have cx6_ : ¬ ((p_ % (S0_.1 13 0 174)) ≤ 0) := of_decide_eq_false cx6_
        refine sm_T_go 2 (c1 := (83, [some (.inr (.inr (some (13, 0)))), some (.inl p_), some (.inl k_), some (.inl (p_ % (S0_.1 13 0 174))), some (.inl ((p_ / (S0_.1 13 0 174)) % (S0_.1 13 0 175))), some (.inl 0)], [.inl 1, .inl p_], S0_)) rfl ?_
        refine sm_T_bin (w := p_ - 1) rfl (bi_sub (by omega) (by omega) (by omega)) ?_ -- pc_ 83
        refine sm_T_go 1 (c1 := (88, [some (.inr (.inr (some (13, 0)))), some (.inl p_), some (.inl k_), some (.inl (p_ % (S0_.1 13 0 174))), some (.inl ((p_ / (S0_.1 13 0 174)) % (S0_.1 13 0 175))), some (.inl 0)], [.inl (p_ - 1)], S0_)) rfl ?_
        refine sm_T_ri rfl ⟨_, _, rfl, rfl, _, rfl, ?_⟩
        unfold nxt
        first | (have y9_ : k_ = 0 := (by omega); rw [if_pos y9_]) | (have y9_ : k_ = 1 := (by omega); rw [if_neg (by omega), if_pos y9_]) | (have y9_ : k_ = 2 := (by omega); rw [if_neg (by omega), if_neg (by omega), if_pos y9_]) | (have y9_ : k_ = 3 := (by omega); rw [if_neg (by omega), if_neg (by omega), if_neg (by omega), if_pos y9_]) | (rw [if_neg (by omega), if_neg (by omega), if_neg (by omega), if_neg (by omega)])
        first | rw [if_pos (by omega)] | rw [if_neg (by omega)]
    by_cases cx7_ : k_ = 1
    · refine sm_T_sw (t := 89) rfl rfl (by rw [cx7_]; rfl) ?_
      refine sm_T_go 6 (c1 := (100, [some (.inr (.inr (some (13, 0)))), some (.inl p_), some (.inl k_), some (.inl (p_ % (S0_.1 13 0 174))), some (.inl ((p_ / (S0_.1 13 0 174)) % (S0_.1 13 0 175))), some (.inl 0)], [.inl 1, .inl (S0_.1 13 0 174), .inl (p_ % (S0_.1 13 0 174))], S0_)) rfl ?_
      refine sm_T_bin (w := (S0_.1 13 0 174) - 1) rfl (bi_sub (by omega) (by omega) (by omega)) ?_ -- pc_ 100
      refine sm_T_br (a := 3) (z := 9) rfl (fun cx8_ => ?_) (fun cx8_ => ?_)
      · have cx8_ : (S0_.1 13 0 174) - 1 ≤ (p_ % (S0_.1 13 0 174)) := of_decide_eq_true cx8_
        refine sm_T_go 1 (c1 := (111, [some (.inr (.inr (some (13, 0)))), some (.inl p_), some (.inl k_), some (.inl (p_ % (S0_.1 13 0 174))), some (.inl ((p_ / (S0_.1 13 0 174)) % (S0_.1 13 0 175))), some (.inl 0)], [.inl (-1)], S0_)) rfl ?_
        refine sm_T_ri rfl ⟨_, _, rfl, rfl, _, rfl, ?_⟩
        unfold nxt
        first | (have y9_ : k_ = 0 := (by omega); rw [if_pos y9_]) | (have y9_ : k_ = 1 := (by omega); rw [if_neg (by omega), if_pos y9_]) | (have y9_ : k_ = 2 := (by omega); rw [if_neg (by omega), if_neg (by omega), if_pos y9_]) | (have y9_ : k_ = 3 := (by omega); rw [if_neg (by omega), if_neg (by omega), if_neg (by omega), if_pos y9_]) | (rw [if_neg (by omega), if_neg (by omega), if_neg (by omega), if_neg (by omega)])
        first | rw [if_pos (by omega)] | rw [if_neg (by omega)]
      · have cx8_ : ¬ ((S0_.1 13 0 174) - 1 ≤ (p_ % (S0_.1 13 0 174))) := of_decide_eq_false cx8_
        refine sm_T_go 2 (c1 := (106, [some (.inr (.inr (some (13, 0)))), some (.inl p_), some (.inl k_), some (.inl (p_ % (S0_.1 13 0 174))), some (.inl ((p_ / (S0_.1 13 0 174)) % (S0_.1 13 0 175))), some (.inl 0)], [.inl 1, .inl p_], S0_)) rfl ?_
        refine sm_T_bin (w := p_ + 1) rfl (bi_add (by omega) (by omega) (by omega)) ?_ -- pc_ 106
        refine sm_T_go 1 (c1 := (111, [some (.inr (.inr (some (13, 0)))), some (.inl p_), some (.inl k_), some (.inl (p_ % (S0_.1 13 0 174))), some (.inl ((p_ / (S0_.1 13 0 174)) % (S0_.1 13 0 175))), some (.inl 0)], [.inl (p_ + 1)], S0_)) rfl ?_
        refine sm_T_ri rfl ⟨_, _, rfl, rfl, _, rfl, ?_⟩
        unfold nxt
        first | (have y9_ : k_ = 0 := (by omega); rw [if_pos y9_]) | (have y9_ : k_ = 1 := (by omega); rw [if_neg (by omega), if_pos y9_]) | (have y9_ : k_ = 2 := (by omega); rw [if_neg (by omega), if_neg (by omega), if_pos y9_]) | (have y9_ : k_ = 3 := (by omega); rw [if_neg (by omega), if_neg (by omega), if_neg (by omega), if_pos y9_]) | (rw [if_neg (by omega), if_neg (by omega), if_neg (by omega), if_neg (by omega)])
        first | rw [if_pos (by omega)] | rw [if_neg (by omega)]
    by_cases cx9_ : k_ = 2
    · refine sm_T_sw (t := 112) rfl rfl (by rw [cx9_]; rfl) ?_
      refine sm_T_go 3 (c1 := (132, [some (.inr (.inr (some (13, 0)))), some (.inl p_), some (.inl k_), some (.inl (p_ % (S0_.1 13 0 174))), some (.inl ((p_ / (S0_.1 13 0 174)) % (S0_.1 13 0 175))), some (.inl 0)], [.inl (-1)], S0_)) rfl ?_
      refine sm_T_ri rfl ⟨_, _, rfl, rfl, _, rfl, ?_⟩
      unfold nxt
      first | (have y9_ : k_ = 0 := (by omega); rw [if_pos y9_]) | (have y9_ : k_ = 1 := (by omega); rw [if_neg (by omega), if_pos y9_]) | (have y9_ : k_ = 2 := (by omega); rw [if_neg (by omega), if_neg (by omega), if_pos y9_]) | (have y9_ : k_ = 3 := (by omega); rw [if_neg (by omega), if_neg (by omega), if_neg (by omega), if_pos y9_]) | (rw [if_neg (by omega), if_neg (by omega), if_neg (by omega), if_neg (by omega)])
      first | rw [if_pos (by omega)] | rw [if_neg (by omega)]
    by_cases cx10_ : k_ = 3
    · refine sm_T_sw (t := 133) rfl rfl (by rw [cx10_]; rfl) ?_
      refine sm_T_go 3 (c1 := (159, [some (.inr (.inr (some (13, 0)))), some (.inl p_), some (.inl k_), some (.inl (p_ % (S0_.1 13 0 174))), some (.inl ((p_ / (S0_.1 13 0 174)) % (S0_.1 13 0 175))), some (.inl 0)], [.inl (-1)], S0_)) rfl ?_
      refine sm_T_ri rfl ⟨_, _, rfl, rfl, _, rfl, ?_⟩
      unfold nxt
      first | (have y9_ : k_ = 0 := (by omega); rw [if_pos y9_]) | (have y9_ : k_ = 1 := (by omega); rw [if_neg (by omega), if_pos y9_]) | (have y9_ : k_ = 2 := (by omega); rw [if_neg (by omega), if_neg (by omega), if_pos y9_]) | (have y9_ : k_ = 3 := (by omega); rw [if_neg (by omega), if_neg (by omega), if_neg (by omega), if_pos y9_]) | (rw [if_neg (by omega), if_neg (by omega), if_neg (by omega), if_neg (by omega)])
      first | rw [if_pos (by omega)] | rw [if_neg (by omega)]
    refine sm_T_sw (t := 160) rfl rfl (by (have hh_ : k_ < 0 ∨ 4 ≤ k_ := by omega); rcases hh_ with hh_ | hh_; (exact sm_swd (Or.inl hh_)); (exact sm_swd (Or.inr (by simp only [List.length_cons, List.length_nil]; omega)))) ?_
    refine sm_T_go 7 (c1 := (188, [some (.inr (.inr (some (13, 0)))), some (.inl p_), some (.inl k_), some (.inl (p_ % (S0_.1 13 0 174))), some (.inl ((p_ / (S0_.1 13 0 174)) % (S0_.1 13 0 175))), some (.inl 0)], [.inl (S0_.1 13 0 175), .inl (S0_.1 13 0 174), .inl p_], S0_)) rfl ?_
    have bx11_ := mul_b (x_ := (S0_.1 13 0 174)) (y_ := (S0_.1 13 0 175)) (X_ := 62) (Y_ := 38) (Z_ := 2356) (by omega) (by omega) (by decide)
    refine sm_T_bin (w := ((S0_.1 13 0 174) * (S0_.1 13 0 175))) rfl (bi_mul rfl (by omega) (by omega)) ?_ -- pc_ 188
    refine sm_T_bin (w := p_ + ((S0_.1 13 0 174) * (S0_.1 13 0 175))) rfl (bi_add (by omega) (by omega) (by omega)) ?_ -- pc_ 189
    refine sm_T_ri rfl ⟨_, _, rfl, rfl, _, rfl, ?_⟩
    unfold nxt
    first | (have y9_ : k_ = 0 := (by omega); rw [if_pos y9_]) | (have y9_ : k_ = 1 := (by omega); rw [if_neg (by omega), if_pos y9_]) | (have y9_ : k_ = 2 := (by omega); rw [if_neg (by omega), if_neg (by omega), if_pos y9_]) | (have y9_ : k_ = 3 := (by omega); rw [if_neg (by omega), if_neg (by omega), if_neg (by omega), if_pos y9_]) | (rw [if_neg (by omega), if_neg (by omega), if_neg (by omega), if_neg (by omega)])
    first | rw [if_pos (by omega)] | rw [if_neg (by omega)]
  · have cx4_ : ¬ (p_ < ((S0_.1 13 0 174) * (S0_.1 13 0 175))) := of_decide_eq_false cx4_
    refine sm_T_go 4 (c1 := (41, [some (.inr (.inr (some (13, 0)))), some (.inl p_), some (.inl k_), some (.inl (p_ % (S0_.1 13 0 174))), some (.inl ((p_ / (S0_.1 13 0 174)) % (S0_.1 13 0 175))), some (.inl 1)], [.inl k_], S0_)) rfl ?_
    by_cases cx12_ : k_ = 0
    · refine sm_T_sw (t := 72) rfl rfl (by rw [cx12_]; rfl) ?_
      refine sm_T_go 3 (c1 := (88, [some (.inr (.inr (some (13, 0)))), some (.inl p_), some (.inl k_), some (.inl (p_ % (S0_.1 13 0 174))), some (.inl ((p_ / (S0_.1 13 0 174)) % (S0_.1 13 0 175))), some (.inl 1)], [.inl (-1)], S0_)) rfl ?_
      refine sm_T_ri rfl ⟨_, _, rfl, rfl, _, rfl, ?_⟩
      unfold nxt
      first | (have y9_ : k_ = 0 := (by omega); rw [if_pos y9_]) | (have y9_ : k_ = 1 := (by omega); rw [if_neg (by omega), if_pos y9_]) | (have y9_ : k_ = 2 := (by omega); rw [if_neg (by omega), if_neg (by omega), if_pos y9_]) | (have y9_ : k_ = 3 := (by omega); rw [if_neg (by omega), if_neg (by omega), if_neg (by omega), if_pos y9_]) | (rw [if_neg (by omega), if_neg (by omega), if_neg (by omega), if_neg (by omega)])
      first | rw [if_pos (by omega)] | rw [if_neg (by omega)]
    by_cases cx13_ : k_ = 1
    · refine sm_T_sw (t := 89) rfl rfl (by rw [cx13_]; rfl) ?_
      refine sm_T_go 3 (c1 := (111, [some (.inr (.inr (some (13, 0)))), some (.inl p_), some (.inl k_), some (.inl (p_ % (S0_.1 13 0 174))), some (.inl ((p_ / (S0_.1 13 0 174)) % (S0_.1 13 0 175))), some (.inl 1)], [.inl (-1)], S0_)) rfl ?_
      refine sm_T_ri rfl ⟨_, _, rfl, rfl, _, rfl, ?_⟩
      unfold nxt
      first | (have y9_ : k_ = 0 := (by omega); rw [if_pos y9_]) | (have y9_ : k_ = 1 := (by omega); rw [if_neg (by omega), if_pos y9_]) | (have y9_ : k_ = 2 := (by omega); rw [if_neg (by omega), if_neg (by omega), if_pos y9_]) | (have y9_ : k_ = 3 := (by omega); rw [if_neg (by omega), if_neg (by omega), if_neg (by omega), if_pos y9_]) | (rw [if_neg (by omega), if_neg (by omega), if_neg (by omega), if_neg (by omega)])
      first | rw [if_pos (by omega)] | rw [if_neg (by omega)]
    by_cases cx14_ : k_ = 2
    · refine sm_T_sw (t := 112) rfl rfl (by rw [cx14_]; rfl) ?_
      refine sm_T_go 3 (c1 := (119, [some (.inr (.inr (some (13, 0)))), some (.inl p_), some (.inl k_), some (.inl (p_ % (S0_.1 13 0 174))), some (.inl ((p_ / (S0_.1 13 0 174)) % (S0_.1 13 0 175))), some (.inl 1)], [.inl ((p_ / (S0_.1 13 0 174)) % (S0_.1 13 0 175))], S0_)) rfl ?_
      refine sm_T_b0 (a := 5) (z := 12) rfl (fun cx15_ => ?_) (fun cx15_ => ?_)
      · have cx15_ : ((p_ / (S0_.1 13 0 174)) % (S0_.1 13 0 175)) ≤ 0 := of_decide_eq_true cx15_
        refine sm_T_go 1 (c1 := (132, [some (.inr (.inr (some (13, 0)))), some (.inl p_), some (.inl k_), some (.inl (p_ % (S0_.1 13 0 174))), some (.inl ((p_ / (S0_.1 13 0 174)) % (S0_.1 13 0 175))), some (.inl 1)], [.inl (-1)], S0_)) rfl ?_
        refine sm_T_ri rfl ⟨_, _, rfl, rfl, _, rfl, ?_⟩
        unfold nxt
        first | (have y9_ : k_ = 0 := (by omega); rw [if_pos y9_]) | (have y9_ : k_ = 1 := (by omega); rw [if_neg (by omega), if_pos y9_]) | (have y9_ : k_ = 2 := (by omega); rw [if_neg (by omega), if_neg (by omega), if_pos y9_]) | (have y9_ : k_ = 3 := (by omega); rw [if_neg (by omega), if_neg (by omega), if_neg (by omega), if_pos y9_]) | (rw [if_neg (by omega), if_neg (by omega), if_neg (by omega), if_neg (by omega)])
        first | rw [if_pos (by omega)] | rw [if_neg (by omega)]
      · have cx15_ : ¬ (((p_ / (S0_.1 13 0 174)) % (S0_.1 13 0 175)) ≤ 0) := of_decide_eq_false cx15_
        refine sm_T_go 3 (c1 := (127, [some (.inr (.inr (some (13, 0)))), some (.inl p_), some (.inl k_), some (.inl (p_ % (S0_.1 13 0 174))), some (.inl ((p_ / (S0_.1 13 0 174)) % (S0_.1 13 0 175))), some (.inl 1)], [.inl (S0_.1 13 0 174), .inl p_], S0_)) rfl ?_
        refine sm_T_bin (w := p_ - (S0_.1 13 0 174)) rfl (bi_sub (by omega) (by omega) (by omega)) ?_ -- pc_ 127
        refine sm_T_go 1 (c1 := (132, [some (.inr (.inr (some (13, 0)))), some (.inl p_), some (.inl k_), some (.inl (p_ % (S0_.1 13 0 174))), some (.inl ((p_ / (S0_.1 13 0 174)) % (S0_.1 13 0 175))), some (.inl 1)], [.inl (p_ - (S0_.1 13 0 174))], S0_)) rfl ?_
        refine sm_T_ri rfl ⟨_, _, rfl, rfl, _, rfl, ?_⟩
        unfold nxt
        first | (have y9_ : k_ = 0 := (by omega); rw [if_pos y9_]) | (have y9_ : k_ = 1 := (by omega); rw [if_neg (by omega), if_pos y9_]) | (have y9_ : k_ = 2 := (by omega); rw [if_neg (by omega), if_neg (by omega), if_pos y9_]) | (have y9_ : k_ = 3 := (by omega); rw [if_neg (by omega), if_neg (by omega), if_neg (by omega), if_pos y9_]) | (rw [if_neg (by omega), if_neg (by omega), if_neg (by omega), if_neg (by omega)])
        first | rw [if_pos (by omega)] | rw [if_neg (by omega)]
    by_cases cx16_ : k_ = 3
    · refine sm_T_sw (t := 133) rfl rfl (by rw [cx16_]; rfl) ?_
      refine sm_T_go 6 (c1 := (145, [some (.inr (.inr (some (13, 0)))), some (.inl p_), some (.inl k_), some (.inl (p_ % (S0_.1 13 0 174))), some (.inl ((p_ / (S0_.1 13 0 174)) % (S0_.1 13 0 175))), some (.inl 1)], [.inl 1, .inl (S0_.1 13 0 175), .inl ((p_ / (S0_.1 13 0 174)) % (S0_.1 13 0 175))], S0_)) rfl ?_
      refine sm_T_bin (w := (S0_.1 13 0 175) - 1) rfl (bi_sub (by omega) (by omega) (by omega)) ?_ -- pc_ 145
      refine sm_T_br (a := 3) (z := 12) rfl (fun cx17_ => ?_) (fun cx17_ => ?_)
      · have cx17_ : (S0_.1 13 0 175) - 1 ≤ ((p_ / (S0_.1 13 0 174)) % (S0_.1 13 0 175)) := of_decide_eq_true cx17_
        refine sm_T_go 1 (c1 := (159, [some (.inr (.inr (some (13, 0)))), some (.inl p_), some (.inl k_), some (.inl (p_ % (S0_.1 13 0 174))), some (.inl ((p_ / (S0_.1 13 0 174)) % (S0_.1 13 0 175))), some (.inl 1)], [.inl (-1)], S0_)) rfl ?_
        refine sm_T_ri rfl ⟨_, _, rfl, rfl, _, rfl, ?_⟩
        unfold nxt
        first | (have y9_ : k_ = 0 := (by omega); rw [if_pos y9_]) | (have y9_ : k_ = 1 := (by omega); rw [if_neg (by omega), if_pos y9_]) | (have y9_ : k_ = 2 := (by omega); rw [if_neg (by omega), if_neg (by omega), if_pos y9_]) | (have y9_ : k_ = 3 := (by omega); rw [if_neg (by omega), if_neg (by omega), if_neg (by omega), if_pos y9_]) | (rw [if_neg (by omega), if_neg (by omega), if_neg (by omega), if_neg (by omega)])
        first | rw [if_pos (by omega)] | rw [if_neg (by omega)]
      · have cx17_ : ¬ ((S0_.1 13 0 175) - 1 ≤ ((p_ / (S0_.1 13 0 174)) % (S0_.1 13 0 175))) := of_decide_eq_false cx17_
        refine sm_T_go 3 (c1 := (154, [some (.inr (.inr (some (13, 0)))), some (.inl p_), some (.inl k_), some (.inl (p_ % (S0_.1 13 0 174))), some (.inl ((p_ / (S0_.1 13 0 174)) % (S0_.1 13 0 175))), some (.inl 1)], [.inl (S0_.1 13 0 174), .inl p_], S0_)) rfl ?_
        refine sm_T_bin (w := p_ + (S0_.1 13 0 174)) rfl (bi_add (by omega) (by omega) (by omega)) ?_ -- pc_ 154
        refine sm_T_go 1 (c1 := (159, [some (.inr (.inr (some (13, 0)))), some (.inl p_), some (.inl k_), some (.inl (p_ % (S0_.1 13 0 174))), some (.inl ((p_ / (S0_.1 13 0 174)) % (S0_.1 13 0 175))), some (.inl 1)], [.inl (p_ + (S0_.1 13 0 174))], S0_)) rfl ?_
        refine sm_T_ri rfl ⟨_, _, rfl, rfl, _, rfl, ?_⟩
        unfold nxt
        first | (have y9_ : k_ = 0 := (by omega); rw [if_pos y9_]) | (have y9_ : k_ = 1 := (by omega); rw [if_neg (by omega), if_pos y9_]) | (have y9_ : k_ = 2 := (by omega); rw [if_neg (by omega), if_neg (by omega), if_pos y9_]) | (have y9_ : k_ = 3 := (by omega); rw [if_neg (by omega), if_neg (by omega), if_neg (by omega), if_pos y9_]) | (rw [if_neg (by omega), if_neg (by omega), if_neg (by omega), if_neg (by omega)])
        first | rw [if_pos (by omega)] | rw [if_neg (by omega)]
    refine sm_T_sw (t := 160) rfl rfl (by (have hh_ : k_ < 0 ∨ 4 ≤ k_ := by omega); rcases hh_ with hh_ | hh_; (exact sm_swd (Or.inl hh_)); (exact sm_swd (Or.inr (by simp only [List.length_cons, List.length_nil]; omega)))) ?_
    refine sm_T_go 7 (c1 := (174, [some (.inr (.inr (some (13, 0)))), some (.inl p_), some (.inl k_), some (.inl (p_ % (S0_.1 13 0 174))), some (.inl ((p_ / (S0_.1 13 0 174)) % (S0_.1 13 0 175))), some (.inl 1)], [.inl (S0_.1 13 0 175), .inl (S0_.1 13 0 174), .inl p_], S0_)) rfl ?_
    have bx18_ := mul_b (x_ := (S0_.1 13 0 174)) (y_ := (S0_.1 13 0 175)) (X_ := 62) (Y_ := 38) (Z_ := 2356) (by omega) (by omega) (by decide)
    refine sm_T_bin (w := ((S0_.1 13 0 174) * (S0_.1 13 0 175))) rfl (bi_mul rfl (by omega) (by omega)) ?_ -- pc_ 174
    refine sm_T_bin (w := p_ - ((S0_.1 13 0 174) * (S0_.1 13 0 175))) rfl (bi_sub (by omega) (by omega) (by omega)) ?_ -- pc_ 175
    refine sm_T_go 1 (c1 := (190, [some (.inr (.inr (some (13, 0)))), some (.inl p_), some (.inl k_), some (.inl (p_ % (S0_.1 13 0 174))), some (.inl ((p_ / (S0_.1 13 0 174)) % (S0_.1 13 0 175))), some (.inl 1)], [.inl (p_ - ((S0_.1 13 0 174) * (S0_.1 13 0 175)))], S0_)) rfl ?_
    refine sm_T_ri rfl ⟨_, _, rfl, rfl, _, rfl, ?_⟩
    unfold nxt
    first | (have y9_ : k_ = 0 := (by omega); rw [if_pos y9_]) | (have y9_ : k_ = 1 := (by omega); rw [if_neg (by omega), if_pos y9_]) | (have y9_ : k_ = 2 := (by omega); rw [if_neg (by omega), if_neg (by omega), if_pos y9_]) | (have y9_ : k_ = 3 := (by omega); rw [if_neg (by omega), if_neg (by omega), if_neg (by omega), if_pos y9_]) | (rw [if_neg (by omega), if_neg (by omega), if_neg (by omega), if_neg (by omega)])
    first | rw [if_pos (by omega)] | rw [if_neg (by omega)]
/-! M_.measure -/
def vw_456 : sx_Wl := ([], [258, 259, 260], [])
def vq_456 (net_ : Int) (de_ : Int) (S0_ : sm_S) (u_ : Option sm_V) (S1_ : sm_S) : Prop := u_ = none ∧ gi S1_ ∧ ai_fr (sx_W vw_456) S0_ S1_ ∧ (mD1 (S0_.1 13 0 174) (S0_.1 13 0 175) net_ (nta S0_) (S1_.2.2.1 258 0) ∧ mD2 (S0_.1 13 0 174) (S0_.1 13 0 175) (prS S0_ net_ de_) (S1_.2.2.1 258 0))
set_option maxHeartbeats 4000000 in
set_option maxRecDepth 20000 in
theorem vl_456 {sc_ : Nat × (Nat → Int)} (net_ : Int) (de_ : Int) (S0_ : sm_S) (hgr_ : grd S0_) (hn_ : 0 ≤ net_ ∧ net_ ≤ 161) (hde_ : 0 ≤ de_ ∧ de_ ≤ 1) : ∀ nn_ : Nat, (∀ (c_ : Int) (p_ : Int) (S_ : sm_S), gi S_ → ai_fr (sx_W vw_456) S0_ S_ → ((0 ≤ p_ ∧ p_ ≤ S0_.1 13 0 176 ∧ 0 ≤ c_ ∧ c_ ≤ p_) ∧ (∀ x9_ : Int, 0 ≤ x9_ → x9_ < p_ → (S_.2.2.1 260 0 x9_.toNat = 1 ∧ S_.2.2.1 258 0 x9_.toNat = 0 ∧ nta S0_ x9_ = net_) ∨ (S_.2.2.1 260 0 x9_.toNat = 0 ∧ S_.2.2.1 258 0 x9_.toNat = 1000000000)) ∧ (∀ j9_ : Int, 0 ≤ j9_ → j9_ < c_ → 0 ≤ S_.2.2.1 259 0 j9_.toNat ∧ S_.2.2.1 259 0 j9_.toNat < p_ ∧ S_.2.2.1 260 0 (S_.2.2.1 259 0 j9_.toNat).toNat = 1) ∧ (∀ i9_ j9_ : Int, 0 ≤ i9_ → i9_ < j9_ → j9_ < c_ → S_.2.2.1 259 0 i9_.toNat ≠ S_.2.2.1 259 0 j9_.toNat) ∧ ((cn1 (S_.2.2.1 260 0) p_.toNat : Int) = c_) ∧ True) → (200000000000000000 + (5000 - p_).toNat) < nn_ → sm_T (mt_P sc_) 2 456 (5, [some (.inr (.inr (some (13, 0)))), some (.inl net_), some (.inl de_), some (.inl c_), some (.inl p_), none, none, none, none], [], S_) (fun ro9_ => ∃ u_ S1_, ro9_ = (.inl u_, S1_, 0) ∧ vq_456 net_ de_ S0_ u_ S1_)) ∧ (∀ (c_ : Int) (b_ : Int) (S_ : sm_S), gi S_ → ai_fr (sx_W vw_456) S0_ S_ → ((mQ (S0_.1 13 0 176) (S_.2.2.1 260 0) (S_.2.2.1 259 0) b_ c_) ∧ (mD1 (S0_.1 13 0 174) (S0_.1 13 0 175) net_ (nta S0_) (S_.2.2.1 258 0)) ∧ (mI1 (S0_.1 13 0 174) (S0_.1 13 0 175) net_ (nta S0_) (prS S0_ net_ de_) (S_.2.2.1 258 0)) ∧ (mI2 (S0_.1 13 0 174) (S0_.1 13 0 175) net_ (nta S0_) (prS S0_ net_ de_) (S_.2.2.1 258 0) (S_.2.2.1 260 0) (-1) 0) ∧ True) → (10 * (2 * sd9 (S_.2.2.1 258 0) (S0_.1 13 0 176).toNat + c_.toNat)) < nn_ → sm_T (mt_P sc_) 2 456 (84, [some (.inr (.inr (some (13, 0)))), some (.inl net_), some (.inl de_), some (.inl c_), some (.inl b_), none, none, none, none], [], S_) (fun ro9_ => ∃ u_ S1_, ro9_ = (.inl u_, S1_, 0) ∧ vq_456 net_ de_ S0_ u_ S1_)) ∧ (∀ (c_ : Int) (b_ : Int) (p_ : Int) (k_ : Int) (S_ : sm_S), gi S_ → ai_fr (sx_W vw_456) S0_ S_ → ((mQ (S0_.1 13 0 176) (S_.2.2.1 260 0) (S_.2.2.1 259 0) b_ c_) ∧ (mD1 (S0_.1 13 0 174) (S0_.1 13 0 175) net_ (nta S0_) (S_.2.2.1 258 0)) ∧ (mI1 (S0_.1 13 0 174) (S0_.1 13 0 175) net_ (nta S0_) (prS S0_ net_ de_) (S_.2.2.1 258 0)) ∧ (mI2 (S0_.1 13 0 174) (S0_.1 13 0 175) net_ (nta S0_) (prS S0_ net_ de_) (S_.2.2.1 258 0) (S_.2.2.1 260 0) p_ k_) ∧ (0 ≤ p_ ∧ p_ < S0_.1 13 0 176 ∧ 0 ≤ k_ ∧ k_ ≤ 5) ∧ True) → (10 * (2 * sd9 (S_.2.2.1 258 0) (S0_.1 13 0 176).toNat + c_.toNat) + (9 - k_).toNat) < nn_ → sm_T (mt_P sc_) 2 456 (132, [some (.inr (.inr (some (13, 0)))), some (.inl net_), some (.inl de_), some (.inl c_), some (.inl b_), some (.inl p_), some (.inl k_), none, none], [], S_) (fun ro9_ => ∃ u_ S1_, ro9_ = (.inl u_, S1_, 0) ∧ vq_456 net_ de_ S0_ u_ S1_)) := by
  intro nn_
  induction nn_ with
  | zero => exact ⟨fun _ _ _ _ _ _ h_ => absurd h_ (Nat.not_lt_zero _), fun _ _ _ _ _ _ h_ => absurd h_ (Nat.not_lt_zero _), fun _ _ _ _ _ _ _ _ h_ => absurd h_ (Nat.not_lt_zero _)⟩
  | succ nn_ ih_ =>
    refine ⟨?_, ?_, ?_⟩
    · rintro c_ p_ S_ hI_ hF_ ⟨h0_, ha_, hb_, hc_, hd_, -⟩ hm_
      have g174_ : S_.1 13 0 174 = S0_.1 13 0 174 := hF_.1 13 0 174 rfl
      have g175_ : S_.1 13 0 175 = S0_.1 13 0 175 := hF_.1 13 0 175 rfl
      have g176_ : S_.1 13 0 176 = S0_.1 13 0 176 := hF_.1 13 0 176 rfl
      have nt9_ : nta S_ = nta S0_ := nta_fr hF_
      have ps9_ : prS S_ net_ de_ = prS S0_ net_ de_ := prS_fr hF_
      have gr9_ := grd_fr hgr_ hF_
      have gm9_ := grd_m hgr_
      obtain ⟨g1_, g2_, g3_, g4_, g5_⟩ := hgr_
      have d0_ : ∀ j9_, 0 ≤ S_.2.2.1 258 0 j9_ := fun j9_ => (hI_.2 258 0 j9_).1
      have bx1_ : 0 ≤ S_.1 13 0 176 ∧ S_.1 13 0 176 ≤ 4712 := hI_.1 13 0 176 rfl
      refine sm_T_go 3 (c1 := (11, [some (.inr (.inr (some (13, 0)))), some (.inl net_), some (.inl de_), some (.inl c_), some (.inl p_), none, none, none, none], [.inl (S_.1 13 0 176), .inl p_], S_)) rfl ?_
      refine sm_T_br (a := 3) (z := 70) rfl (fun cx2_ => ?_) (fun cx2_ => ?_)
      · have cx2_ : (S_.1 13 0 176) ≤ p_ := of_decide_eq_true cx2_
        refine sm_T_go 2 (c1 := (84, [some (.inr (.inr (some (13, 0)))), some (.inl net_), some (.inl de_), some (.inl c_), some (.inl 0), none, none, none, none], [], S_)) rfl ?_
        refine ih_.2.1 c_ 0 S_ hI_ hF_ ⟨?_, ?_, ?_, ?_, trivial⟩ ?_
        · have pz_ : ∀ j9_ : Int, 0 ≤ j9_ → j9_ < c_ → pos9 (S0_.1 13 0 176) 0 j9_ = j9_ := fun j9_ u0_ u1_ => by (unfold pos9; rw [if_pos (by omega)]; omega)
          have m9_ := mul_b (x_ := S0_.1 13 0 174) (y_ := S0_.1 13 0 175) (X_ := 62) (Y_ := 38) (Z_ := 2356) (by omega) (by omega) (by decide)
          have mm_ : 6 * 5 ≤ S0_.1 13 0 174 * S0_.1 13 0 175 := Int.mul_le_mul (by omega) (by omega) (by decide) (by omega)
          refine ⟨⟨by omega, by omega, by omega, by omega⟩, fun j9_ u0_ u1_ => ?_, fun i9_ j9_ u0_ u1_ u2_ => ?_, ?_⟩
          · rw [pz_ j9_ u0_ u1_]; have w9_ := hb_ j9_ u0_ u1_; exact ⟨w9_.1, by omega, w9_.2.2⟩
          · rw [pz_ i9_ u0_ (by omega), pz_ j9_ (by omega) u2_]; exact hc_ i9_ j9_ u0_ u1_ u2_
          · rw [show (S0_.1 13 0 176).toNat = p_.toNat by omega]; exact hd_
        · intro x9_ u0_ u1_ u2_
          rcases ha_ x9_ u0_ (by omega) with w9_ | w9_
          · exact w9_.2.2
          · exfalso; omega
        · intro x9_ u0_ u1_ u2_ u3_
          rcases ha_ x9_ u0_ (by omega) with w9_ | w9_
          · exfalso; omega
          · exfalso; omega
        · intro x9_ u0_ u1_ u2_ u3_
          rcases ha_ x9_ u0_ (by omega) with w9_ | w9_
          · exfalso; omega
          · exfalso; omega
        · (have b9_ := sd9_b (d_ := S_.2.2.1 258 0) (M_ := 1000000000) (fun k9_ => (hI_.2 258 0 k9_).2) (S0_.1 13 0 176).toNat; have m9_ := mul_b (x_ := S0_.1 13 0 174) (y_ := S0_.1 13 0 175) (X_ := 62) (Y_ := 38) (Z_ := 2356) (by omega) (by omega) (by decide); omega)
      · have cx2_ : ¬ ((S_.1 13 0 176) ≤ p_) := of_decide_eq_false cx2_
        refine sm_T_go 2 (c1 := (17, [some (.inr (.inr (some (13, 0)))), some (.inl net_), some (.inl de_), some (.inl c_), some (.inl p_), none, none, none, none], [.inl p_, .inr (.inr (some (13, 0)))], S_)) rfl ?_
        refine sm_T_cal (d1 := 0) (Q1 := vq_454 p_ S_) rfl rfl (by decide) (vc_454 p_ S_ hI_ (by omega)) (fun u_ Sx3_ px6_ => ?_)
        obtain ⟨rfl, vx8_, rfl, px6_⟩ := px6_
        have e17_ := px6_
        rw [nt9_] at e17_
        refine sm_T_go 1 (c1 := (21, [some (.inr (.inr (some (13, 0)))), some (.inl net_), some (.inl de_), some (.inl c_), some (.inl p_), none, none, none, none], [.inl net_, .inl vx8_], S_)) rfl ?_
        refine sm_T_br (a := 1) (z := 7) rfl (fun cx9_ => ?_) (fun cx9_ => ?_)
        · have cx9_ : vx8_ ≠ net_ := of_decide_eq_true cx9_
          refine sm_T_go 7 (c1 := (46, [some (.inr (.inr (some (13, 0)))), some (.inl net_), some (.inl de_), some (.inl c_), some (.inl p_), some (.inl 0), none, none, none], [.inl p_, .inr (.inr (some (258, 0)))], S_)) rfl ?_
          refine sm_T_nt (u := some (.inl 1000000000)) (S1 := S_) rfl rfl rfl ?_
          refine sm_T_iast (n := 4712) rfl rfl (by omega) (by omega) ?_
          have hIx10_ : gi (sm_aI S_ 258 0 p_.toNat 1000000000) := gi_aI hI_ (show 0 ≤ 1000000000 ∧ 1000000000 ≤ 1000000000 from ⟨by omega, by omega⟩)
          have hFx11_ : ai_fr (sx_W vw_456) S0_ (sm_aI S_ 258 0 p_.toNat 1000000000) := ai_fr_tr hF_ (ai_fr_aI rfl)
          refine sm_T_go 4 (c1 := (58, [some (.inr (.inr (some (13, 0)))), some (.inl net_), some (.inl de_), some (.inl c_), some (.inl p_), some (.inl 0), none, none, none], [.inl 0, .inl p_, .inr (.inr (some (260, 0)))], sm_aI S_ 258 0 p_.toNat 1000000000)) rfl ?_
          refine sm_T_zas1 (n := 4712) rfl rfl (by omega) (by omega) (by omega) ?_
          have hIx12_ : gi (sm_aI (sm_aI S_ 258 0 p_.toNat 1000000000) 260 0 p_.toNat 0) := gi_aI hIx10_ (show 0 ≤ 0 ∧ 0 ≤ 1 from ⟨by omega, by omega⟩)
          have hFx13_ : ai_fr (sx_W vw_456) S0_ (sm_aI (sm_aI S_ 258 0 p_.toNat 1000000000) 260 0 p_.toNat 0) := ai_fr_tr hFx11_ (ai_fr_aI rfl)
          refine sm_T_go 2 (c1 := (75, [some (.inr (.inr (some (13, 0)))), some (.inl net_), some (.inl de_), some (.inl c_), some (.inl p_), some (.inl 0), none, none, none], [], sm_aI (sm_aI S_ 258 0 p_.toNat 1000000000) 260 0 p_.toNat 0)) rfl ?_
          refine sm_T_inc (a := 4) (z := 1) (v := p_) (w := p_ + 1) rfl rfl (by omega) (by omega) (by omega) ?_ -- pc_ 75
          refine sm_T_go 1 (c1 := (5, [some (.inr (.inr (some (13, 0)))), some (.inl net_), some (.inl de_), some (.inl c_), some (.inl (p_ + 1)), some (.inl 0), none, none, none], [], sm_aI (sm_aI S_ 258 0 p_.toNat 1000000000) 260 0 p_.toNat 0)) rfl ?_
          refine sm_T_wk [some (.inr (.inr (some (13, 0)))), some (.inl net_), some (.inl de_), some (.inl c_), some (.inl (p_ + 1)), none, none, none, none] (by exact ⟨rfl, rfl, rfl, rfl, rfl, trivial⟩) ?_
          refine ih_.1 c_ (p_ + 1) (sm_aI (sm_aI S_ 258 0 p_.toNat 1000000000) 260 0 p_.toNat 0) hIx12_ hFx13_ ⟨?_, ?_, ?_, ?_, ?_, trivial⟩ ?_
          · omega
          · intro x9_ u0_ u1_
            (try simp only [rd_eq, rd_ne, rf_eq, rf_nk, rf_nt, rd_fa, rd_af, rd_fl, rd_al, rd_lf, rd_la, rd_leq, rd_lne, rd_fr, rd_ar, ne_eq, Nat.reduceEqDiff, not_false_eq_true])
            by_cases z9_ : x9_.toNat = p_.toNat
            · rw [if_pos z9_, if_pos z9_]; right; exact ⟨rfl, rfl⟩
            · rw [if_neg z9_, if_neg z9_]; exact ha_ x9_ u0_ (by omega)
          · intro j9_ u0_ u1_
            (try simp only [rd_eq, rd_ne, rf_eq, rf_nk, rf_nt, rd_fa, rd_af, rd_fl, rd_al, rd_lf, rd_la, rd_leq, rd_lne, rd_fr, rd_ar, ne_eq, Nat.reduceEqDiff, not_false_eq_true])
            have w9_ := hb_ j9_ u0_ (by omega)
            refine ⟨w9_.1, by omega, ?_⟩
            rw [if_neg (by omega)]
            exact w9_.2.2
          · intro i9_ j9_ u0_ u1_ u2_
            (try simp only [rd_eq, rd_ne, rf_eq, rf_nk, rf_nt, rd_fa, rd_af, rd_fl, rd_al, rd_lf, rd_la, rd_leq, rd_lne, rd_fr, rd_ar, ne_eq, Nat.reduceEqDiff, not_false_eq_true])
            exact hc_ i9_ j9_ u0_ u1_ u2_
          · have y9_ := cn1_s (((sm_aI (sm_aI S_ 258 0 p_.toNat 1000000000) 260 0 p_.toNat 0)).2.2.1 260 0) p_.toNat
            have y8_ := cn1_cg (f := ((sm_aI (sm_aI S_ 258 0 p_.toNat 1000000000) 260 0 p_.toNat 0)).2.2.1 260 0) (g := S_.2.2.1 260 0) (n := p_.toNat) (fun k9_ hk9_ => by ((try simp only [rd_eq, rd_ne, rf_eq, rf_nk, rf_nt, rd_fa, rd_af, rd_fl, rd_al, rd_lf, rd_la, rd_leq, rd_lne, rd_fr, rd_ar, ne_eq, Nat.reduceEqDiff, not_false_eq_true]); rw [if_neg (by omega)]))
            have y7_ : ((sm_aI (sm_aI S_ 258 0 p_.toNat 1000000000) 260 0 p_.toNat 0)).2.2.1 260 0 p_.toNat = 0 := by ((try simp only [rd_eq, rd_ne, rf_eq, rf_nk, rf_nt, rd_fa, rd_af, rd_fl, rd_al, rd_lf, rd_la, rd_leq, rd_lne, rd_fr, rd_ar, ne_eq, Nat.reduceEqDiff, not_false_eq_true]); first | rw [if_pos rfl] | rfl)
            rw [show (p_ + 1).toNat = p_.toNat + 1 by omega, y9_, y8_, y7_, if_neg (by decide)]
            push_cast
            omega
          · omega
        · have cx9_ : ¬ (vx8_ ≠ net_) := of_decide_eq_false cx9_
          refine sm_T_go 10 (c1 := (49, [some (.inr (.inr (some (13, 0)))), some (.inl net_), some (.inl de_), some (.inl c_), some (.inl p_), some (.inl 1), none, none, none], [.inl 0, .inl p_, .inr (.inr (some (258, 0)))], S_)) rfl ?_
          refine sm_T_iast (n := 4712) rfl rfl (by omega) (by omega) ?_
          have hIx14_ : gi (sm_aI S_ 258 0 p_.toNat 0) := gi_aI hI_ (show 0 ≤ 0 ∧ 0 ≤ 1000000000 from ⟨by omega, by omega⟩)
          have hFx15_ : ai_fr (sx_W vw_456) S0_ (sm_aI S_ 258 0 p_.toNat 0) := ai_fr_tr hF_ (ai_fr_aI rfl)
          refine sm_T_go 4 (c1 := (58, [some (.inr (.inr (some (13, 0)))), some (.inl net_), some (.inl de_), some (.inl c_), some (.inl p_), some (.inl 1), none, none, none], [.inl 1, .inl p_, .inr (.inr (some (260, 0)))], sm_aI S_ 258 0 p_.toNat 0)) rfl ?_
          refine sm_T_zas1 (n := 4712) rfl rfl (by omega) (by omega) (by omega) ?_
          have hIx16_ : gi (sm_aI (sm_aI S_ 258 0 p_.toNat 0) 260 0 p_.toNat 1) := gi_aI hIx14_ (show 0 ≤ 1 ∧ 1 ≤ 1 from ⟨by omega, by omega⟩)
          have hFx17_ : ai_fr (sx_W vw_456) S0_ (sm_aI (sm_aI S_ 258 0 p_.toNat 0) 260 0 p_.toNat 1) := ai_fr_tr hFx15_ (ai_fr_aI rfl)
          refine sm_T_go 6 (c1 := (71, [some (.inr (.inr (some (13, 0)))), some (.inl net_), some (.inl de_), some (.inl c_), some (.inl p_), some (.inl 1), none, none, none], [.inl p_, .inl c_, .inr (.inr (some (259, 0)))], sm_aI (sm_aI S_ 258 0 p_.toNat 0) 260 0 p_.toNat 1)) rfl ?_
          refine sm_T_iast (n := 4712) rfl rfl (by omega) (by omega) ?_
          have hIx18_ : gi (sm_aI (sm_aI (sm_aI S_ 258 0 p_.toNat 0) 260 0 p_.toNat 1) 259 0 c_.toNat p_) := gi_aI hIx16_ (show 0 ≤ p_ ∧ p_ ≤ 4711 from ⟨by omega, by omega⟩)
          have hFx19_ : ai_fr (sx_W vw_456) S0_ (sm_aI (sm_aI (sm_aI S_ 258 0 p_.toNat 0) 260 0 p_.toNat 1) 259 0 c_.toNat p_) := ai_fr_tr hFx17_ (ai_fr_aI rfl)
          refine sm_T_inc (a := 3) (z := 1) (v := c_) (w := c_ + 1) rfl rfl (by omega) (by omega) (by omega) ?_ -- pc_ 72
          refine sm_T_inc (a := 4) (z := 1) (v := p_) (w := p_ + 1) rfl rfl (by omega) (by omega) (by omega) ?_ -- pc_ 75
          refine sm_T_go 1 (c1 := (5, [some (.inr (.inr (some (13, 0)))), some (.inl net_), some (.inl de_), some (.inl (c_ + 1)), some (.inl (p_ + 1)), some (.inl 1), none, none, none], [], sm_aI (sm_aI (sm_aI S_ 258 0 p_.toNat 0) 260 0 p_.toNat 1) 259 0 c_.toNat p_)) rfl ?_
          refine sm_T_wk [some (.inr (.inr (some (13, 0)))), some (.inl net_), some (.inl de_), some (.inl (c_ + 1)), some (.inl (p_ + 1)), none, none, none, none] (by exact ⟨rfl, rfl, rfl, rfl, rfl, trivial⟩) ?_
          refine ih_.1 (c_ + 1) (p_ + 1) (sm_aI (sm_aI (sm_aI S_ 258 0 p_.toNat 0) 260 0 p_.toNat 1) 259 0 c_.toNat p_) hIx18_ hFx19_ ⟨?_, ?_, ?_, ?_, ?_, trivial⟩ ?_
          · omega
          · intro x9_ u0_ u1_
            (try simp only [rd_eq, rd_ne, rf_eq, rf_nk, rf_nt, rd_fa, rd_af, rd_fl, rd_al, rd_lf, rd_la, rd_leq, rd_lne, rd_fr, rd_ar, ne_eq, Nat.reduceEqDiff, not_false_eq_true])
            by_cases z9_ : x9_.toNat = p_.toNat
            · rw [if_pos z9_, if_pos z9_]; left; exact ⟨rfl, rfl, by (rw [show x9_ = p_ by omega]; omega)⟩
            · rw [if_neg z9_, if_neg z9_]; exact ha_ x9_ u0_ (by omega)
          · intro j9_ u0_ u1_
            (try simp only [rd_eq, rd_ne, rf_eq, rf_nk, rf_nt, rd_fa, rd_af, rd_fl, rd_al, rd_lf, rd_la, rd_leq, rd_lne, rd_fr, rd_ar, ne_eq, Nat.reduceEqDiff, not_false_eq_true])
            by_cases z9_ : j9_.toNat = c_.toNat
            · rw [if_pos z9_]; refine ⟨by omega, by omega, ?_⟩; rw [if_pos rfl]
            · rw [if_neg z9_]; have w9_ := hb_ j9_ u0_ (by omega); refine ⟨w9_.1, by omega, ?_⟩; rw [if_neg (by omega)]; exact w9_.2.2
          · intro i9_ j9_ u0_ u1_ u2_
            (try simp only [rd_eq, rd_ne, rf_eq, rf_nk, rf_nt, rd_fa, rd_af, rd_fl, rd_al, rd_lf, rd_la, rd_leq, rd_lne, rd_fr, rd_ar, ne_eq, Nat.reduceEqDiff, not_false_eq_true])
            rw [if_neg (by omega)]
            by_cases z9_ : j9_ = c_
            · rw [if_pos (by omega)]; have w9_ := hb_ i9_ u0_ (by omega); omega
            · rw [if_neg (by omega)]; exact hc_ i9_ j9_ u0_ u1_ (by omega)
          · have y9_ := cn1_s (((sm_aI (sm_aI (sm_aI S_ 258 0 p_.toNat 0) 260 0 p_.toNat 1) 259 0 c_.toNat p_)).2.2.1 260 0) p_.toNat
            have y8_ := cn1_cg (f := ((sm_aI (sm_aI (sm_aI S_ 258 0 p_.toNat 0) 260 0 p_.toNat 1) 259 0 c_.toNat p_)).2.2.1 260 0) (g := S_.2.2.1 260 0) (n := p_.toNat) (fun k9_ hk9_ => by ((try simp only [rd_eq, rd_ne, rf_eq, rf_nk, rf_nt, rd_fa, rd_af, rd_fl, rd_al, rd_lf, rd_la, rd_leq, rd_lne, rd_fr, rd_ar, ne_eq, Nat.reduceEqDiff, not_false_eq_true]); rw [if_neg (by omega)]))
            have y7_ : ((sm_aI (sm_aI (sm_aI S_ 258 0 p_.toNat 0) 260 0 p_.toNat 1) 259 0 c_.toNat p_)).2.2.1 260 0 p_.toNat = 1 := by ((try simp only [rd_eq, rd_ne, rf_eq, rf_nk, rf_nt, rd_fa, rd_af, rd_fl, rd_al, rd_lf, rd_la, rd_leq, rd_lne, rd_fr, rd_ar, ne_eq, Nat.reduceEqDiff, not_false_eq_true]); first | rw [if_pos rfl] | rfl)
            rw [show (p_ + 1).toNat = p_.toNat + 1 by omega, y9_, y8_, y7_, if_pos rfl]
            push_cast
            omega
          · omega
    · rintro c_ b_ S_ hI_ hF_ ⟨hQ_, hD_, h1_, h2_, -⟩ hm_
      have g174_ : S_.1 13 0 174 = S0_.1 13 0 174 := hF_.1 13 0 174 rfl
      have g175_ : S_.1 13 0 175 = S0_.1 13 0 175 := hF_.1 13 0 175 rfl
      have g176_ : S_.1 13 0 176 = S0_.1 13 0 176 := hF_.1 13 0 176 rfl
      have nt9_ : nta S_ = nta S0_ := nta_fr hF_
      have ps9_ : prS S_ net_ de_ = prS S0_ net_ de_ := prS_fr hF_
      have gr9_ := grd_fr hgr_ hF_
      have gm9_ := grd_m hgr_
      obtain ⟨g1_, g2_, g3_, g4_, g5_⟩ := hgr_
      have d0_ : ∀ j9_, 0 ≤ S_.2.2.1 258 0 j9_ := fun j9_ => (hI_.2 258 0 j9_).1
      refine sm_T_go 1 (c1 := (85, [some (.inr (.inr (some (13, 0)))), some (.inl net_), some (.inl de_), some (.inl c_), some (.inl b_), none, none, none, none], [.inl c_], S_)) rfl ?_
      refine sm_T_b0 (a := 5) (z := 181) rfl (fun cx1_ => ?_) (fun cx1_ => ?_)
      · have cx1_ : c_ ≤ 0 := of_decide_eq_true cx1_
        refine sm_T_rv rfl ⟨_, _, rfl, rfl, hI_, hF_, ?_⟩
        refine ⟨hD_, mD_of (by omega) (by omega) h1_ h2_ (fun p9_ u0_ u1_ => ?_)⟩
        have z9_ := cn1_z (f_ := S_.2.2.1 260 0) (n_ := (S0_.1 13 0 176).toNat) (by have y9_ := hQ_.2.2.2; have y8_ := hQ_.1; omega) p9_.toNat (by omega)
        have z8_ := hI_.2 260 0 p9_.toNat
        have z7_ : 0 ≤ S_.2.2.1 260 0 p9_.toNat ∧ S_.2.2.1 260 0 p9_.toNat ≤ 1 := z8_
        omega
      · have cx1_ : ¬ (c_ ≤ 0) := of_decide_eq_false cx1_
        have q0_ := hQ_.2.1 0 (by omega) (by omega)
        have p0_ : pos9 (S0_.1 13 0 176) b_ 0 = b_ := by (have q1_ := hQ_.1; unfold pos9; rw [if_pos (by omega)]; omega)
        rw [p0_] at q0_
        have q1_ := hQ_.1
        refine sm_T_go 3 (c1 := (94, [some (.inr (.inr (some (13, 0)))), some (.inl net_), some (.inl de_), some (.inl c_), some (.inl b_), none, none, none, none], [.inl b_, .inr (.inr (some (259, 0)))], S_)) rfl ?_
        refine sm_T_iald (n := 4712) rfl rfl (by omega) (by omega) ?_
        have bx2_ : 0 ≤ S_.2.2.1 259 0 b_.toNat ∧ S_.2.2.1 259 0 b_.toNat ≤ 4711 := hI_.2 259 0 _
        refine sm_T_go 3 (c1 := (100, [some (.inr (.inr (some (13, 0)))), some (.inl net_), some (.inl de_), some (.inl c_), some (.inl b_), some (.inl (S_.2.2.1 259 0 b_.toNat)), none, none, none], [.inl 1, .inl b_], S_)) rfl ?_
        refine sm_T_bin (w := b_ + 1) rfl (bi_add (by omega) (by omega) (by omega)) ?_ -- pc_ 100
        have bx3_ : 0 ≤ S_.1 13 0 176 ∧ S_.1 13 0 176 ≤ 4712 := hI_.1 13 0 176 rfl
        refine sm_T_go 2 (c1 := (105, [some (.inr (.inr (some (13, 0)))), some (.inl net_), some (.inl de_), some (.inl c_), some (.inl b_), some (.inl (S_.2.2.1 259 0 b_.toNat)), none, none, none], [.inl (S_.1 13 0 176), .inl (b_ + 1)], S_)) rfl ?_
        refine sm_T_br (a := 1) (z := 7) rfl (fun cx4_ => ?_) (fun cx4_ => ?_)
        · have cx4_ : b_ + 1 ≠ (S_.1 13 0 176) := of_decide_eq_true cx4_
          refine sm_T_go 2 (c1 := (115, [some (.inr (.inr (some (13, 0)))), some (.inl net_), some (.inl de_), some (.inl c_), some (.inl b_), some (.inl (S_.2.2.1 259 0 b_.toNat)), none, none, none], [.inl 1, .inl b_], S_)) rfl ?_
          refine sm_T_bin (w := b_ + 1) rfl (bi_add (by omega) (by omega) (by omega)) ?_ -- pc_ 115
          refine sm_T_go 1 (c1 := (118, [some (.inr (.inr (some (13, 0)))), some (.inl net_), some (.inl de_), some (.inl c_), some (.inl (b_ + 1)), some (.inl (S_.2.2.1 259 0 b_.toNat)), none, none, none], [], S_)) rfl ?_
          refine sm_T_inc (a := 3) (z := (-1)) (v := c_) (w := c_ - 1) rfl rfl (by omega) (by omega) (by omega) ?_ -- pc_ 118
          refine sm_T_go 4 (c1 := (128, [some (.inr (.inr (some (13, 0)))), some (.inl net_), some (.inl de_), some (.inl (c_ - 1)), some (.inl (b_ + 1)), some (.inl (S_.2.2.1 259 0 b_.toNat)), none, none, none], [.inl 0, .inl (S_.2.2.1 259 0 b_.toNat), .inr (.inr (some (260, 0)))], S_)) rfl ?_
          refine sm_T_zas1 (n := 4712) rfl rfl (by omega) (by omega) (by omega) ?_
          have hIx5_ : gi (sm_aI S_ 260 0 (S_.2.2.1 259 0 b_.toNat).toNat 0) := gi_aI hI_ (show 0 ≤ 0 ∧ 0 ≤ 1 from ⟨by omega, by omega⟩)
          have hFx6_ : ai_fr (sx_W vw_456) S0_ (sm_aI S_ 260 0 (S_.2.2.1 259 0 b_.toNat).toNat 0) := ai_fr_tr hF_ (ai_fr_aI rfl)
          refine sm_T_go 2 (c1 := (132, [some (.inr (.inr (some (13, 0)))), some (.inl net_), some (.inl de_), some (.inl (c_ - 1)), some (.inl (b_ + 1)), some (.inl (S_.2.2.1 259 0 b_.toNat)), some (.inl 0), none, none], [], sm_aI S_ 260 0 (S_.2.2.1 259 0 b_.toNat).toNat 0)) rfl ?_
          refine ih_.2.2 (c_ - 1) (b_ + 1) (S_.2.2.1 259 0 b_.toNat) 0 (sm_aI S_ 260 0 (S_.2.2.1 259 0 b_.toNat).toNat 0) hIx5_ hFx6_ ⟨?_, ?_, ?_, ?_, ?_, trivial⟩ ?_
          · rw [rd_ne_ (show 259 ≠ 260 by decide)]
            exact mQ_pop hQ_ (by omega) rfl (by omega) (fun k9_ => rd_eq)
          · (rw [rd_ne_ (by decide)]; exact hD_)
          · (rw [rd_ne_ (by decide)]; exact h1_)
          · rw [rd_ne_ (show 258 ≠ 260 by decide)]
            exact mI2_pop h2_ (by omega) (fun k9_ => rd_eq)
          · omega
          · (rw [rd_ne_ (by decide)]; omega)
        · have cx4_ : ¬ (b_ + 1 ≠ (S_.1 13 0 176)) := of_decide_eq_false cx4_
          refine sm_T_go 3 (c1 := (118, [some (.inr (.inr (some (13, 0)))), some (.inl net_), some (.inl de_), some (.inl c_), some (.inl 0), some (.inl (S_.2.2.1 259 0 b_.toNat)), none, none, none], [], S_)) rfl ?_
          refine sm_T_inc (a := 3) (z := (-1)) (v := c_) (w := c_ - 1) rfl rfl (by omega) (by omega) (by omega) ?_ -- pc_ 118
          refine sm_T_go 4 (c1 := (128, [some (.inr (.inr (some (13, 0)))), some (.inl net_), some (.inl de_), some (.inl (c_ - 1)), some (.inl 0), some (.inl (S_.2.2.1 259 0 b_.toNat)), none, none, none], [.inl 0, .inl (S_.2.2.1 259 0 b_.toNat), .inr (.inr (some (260, 0)))], S_)) rfl ?_
          refine sm_T_zas1 (n := 4712) rfl rfl (by omega) (by omega) (by omega) ?_
          have hIx7_ : gi (sm_aI S_ 260 0 (S_.2.2.1 259 0 b_.toNat).toNat 0) := gi_aI hI_ (show 0 ≤ 0 ∧ 0 ≤ 1 from ⟨by omega, by omega⟩)
          have hFx8_ : ai_fr (sx_W vw_456) S0_ (sm_aI S_ 260 0 (S_.2.2.1 259 0 b_.toNat).toNat 0) := ai_fr_tr hF_ (ai_fr_aI rfl)
          refine sm_T_go 2 (c1 := (132, [some (.inr (.inr (some (13, 0)))), some (.inl net_), some (.inl de_), some (.inl (c_ - 1)), some (.inl 0), some (.inl (S_.2.2.1 259 0 b_.toNat)), some (.inl 0), none, none], [], sm_aI S_ 260 0 (S_.2.2.1 259 0 b_.toNat).toNat 0)) rfl ?_
          refine ih_.2.2 (c_ - 1) 0 (S_.2.2.1 259 0 b_.toNat) 0 (sm_aI S_ 260 0 (S_.2.2.1 259 0 b_.toNat).toNat 0) hIx7_ hFx8_ ⟨?_, ?_, ?_, ?_, ?_, trivial⟩ ?_
          · rw [rd_ne_ (show 259 ≠ 260 by decide)]
            exact mQ_pop hQ_ (by omega) rfl (by omega) (fun k9_ => rd_eq)
          · (rw [rd_ne_ (by decide)]; exact hD_)
          · (rw [rd_ne_ (by decide)]; exact h1_)
          · rw [rd_ne_ (show 258 ≠ 260 by decide)]
            exact mI2_pop h2_ (by omega) (fun k9_ => rd_eq)
          · omega
          · (rw [rd_ne_ (by decide)]; omega)
    · rintro c_ b_ p_ k_ S_ hI_ hF_ ⟨hQ_, hD_, h1_, h2_, h0_, -⟩ hm_
      have g174_ : S_.1 13 0 174 = S0_.1 13 0 174 := hF_.1 13 0 174 rfl
      have g175_ : S_.1 13 0 175 = S0_.1 13 0 175 := hF_.1 13 0 175 rfl
      have g176_ : S_.1 13 0 176 = S0_.1 13 0 176 := hF_.1 13 0 176 rfl
      have nt9_ : nta S_ = nta S0_ := nta_fr hF_
      have ps9_ : prS S_ net_ de_ = prS S0_ net_ de_ := prS_fr hF_
      have gr9_ := grd_fr hgr_ hF_
      have gm9_ := grd_m hgr_
      obtain ⟨g1_, g2_, g3_, g4_, g5_⟩ := hgr_
      have d0_ : ∀ j9_, 0 ≤ S_.2.2.1 258 0 j9_ := fun j9_ => (hI_.2 258 0 j9_).1
      have q9_ := hQ_.1
      have nb9_ := nxt_b (W_ := S0_.1 13 0 174) (H_ := S0_.1 13 0 175) (p_ := p_) k_ (by omega) (by omega) (by omega) (by omega)
      have dp9_ := hI_.2 258 0 p_.toNat
      have dp8_ : 0 ≤ S_.2.2.1 258 0 p_.toNat ∧ S_.2.2.1 258 0 p_.toNat ≤ 1000000000 := dp9_
      refine sm_T_go 2 (c1 := (135, [some (.inr (.inr (some (13, 0)))), some (.inl net_), some (.inl de_), some (.inl c_), some (.inl b_), some (.inl p_), some (.inl k_), none, none], [.inl 5, .inl k_], S_)) rfl ?_
      refine sm_T_br (a := 3) (z := 128) rfl (fun cx1_ => ?_) (fun cx1_ => ?_)
      · have cx1_ : 5 ≤ k_ := of_decide_eq_true cx1_
        refine sm_T_go 1 (c1 := (84, [some (.inr (.inr (some (13, 0)))), some (.inl net_), some (.inl de_), some (.inl c_), some (.inl b_), some (.inl p_), some (.inl k_), none, none], [], S_)) rfl ?_
        refine sm_T_wk [some (.inr (.inr (some (13, 0)))), some (.inl net_), some (.inl de_), some (.inl c_), some (.inl b_), none, none, none, none] (by exact ⟨rfl, rfl, rfl, rfl, rfl, trivial⟩) ?_
        refine ih_.2.1 c_ b_ S_ hI_ hF_ ⟨?_, ?_, ?_, ?_, trivial⟩ ?_
        · exact hQ_
        · exact hD_
        · exact h1_
        · exact mI2_end h2_ (by omega)
        · omega
      · have cx1_ : ¬ (5 ≤ k_) := of_decide_eq_false cx1_
        refine sm_T_go 3 (c1 := (143, [some (.inr (.inr (some (13, 0)))), some (.inl net_), some (.inl de_), some (.inl c_), some (.inl b_), some (.inl p_), some (.inl k_), none, none], [.inl k_, .inl p_, .inr (.inr (some (13, 0)))], S_)) rfl ?_
        refine sm_T_cal (d1 := 0) (Q1 := vq_453 p_ k_ S_) rfl rfl (by decide) (vc_453 p_ k_ S_ hI_ (by exact gr9_) (by omega) (by omega)) (fun u_ Sx2_ px5_ => ?_)
        obtain ⟨rfl, vx7_, rfl, px5_⟩ := px5_
        have e143_ := px5_
        rw [g174_, g175_] at e143_
        refine sm_T_go 3 (c1 := (151, [some (.inr (.inr (some (13, 0)))), some (.inl net_), some (.inl de_), some (.inl c_), some (.inl b_), some (.inl p_), some (.inl k_), some (.inl vx7_), none], [.inl (-1), .inl vx7_], S_)) rfl ?_
        refine sm_T_br (a := 0) (z := 13) rfl (fun cx8_ => ?_) (fun cx8_ => ?_)
        · have cx8_ : vx7_ = (-1) := of_decide_eq_true cx8_
          refine sm_T_go 5 (c1 := (257, [some (.inr (.inr (some (13, 0)))), some (.inl net_), some (.inl de_), some (.inl c_), some (.inl b_), some (.inl p_), some (.inl k_), some (.inl vx7_), some (.inl 0)], [], S_)) rfl ?_
          refine sm_T_inc (a := 6) (z := 1) (v := k_) (w := k_ + 1) rfl rfl (by omega) (by omega) (by omega) ?_ -- pc_ 257
          refine sm_T_go 1 (c1 := (132, [some (.inr (.inr (some (13, 0)))), some (.inl net_), some (.inl de_), some (.inl c_), some (.inl b_), some (.inl p_), some (.inl (k_ + 1)), some (.inl vx7_), some (.inl 0)], [], S_)) rfl ?_
          refine sm_T_wk [some (.inr (.inr (some (13, 0)))), some (.inl net_), some (.inl de_), some (.inl c_), some (.inl b_), some (.inl p_), some (.inl (k_ + 1)), none, none] (by exact ⟨rfl, rfl, rfl, rfl, rfl, rfl, rfl, trivial⟩) ?_
          refine ih_.2.2 c_ b_ p_ (k_ + 1) S_ hI_ hF_ ⟨?_, ?_, ?_, ?_, ?_, trivial⟩ ?_
          · exact hQ_
          · exact hD_
          · exact h1_
          · refine mNl h2_ (fun a9_ b9_ c9_ => ?_)
            rw [← e143_] at a9_ b9_ c9_ ⊢
            first | omega | (exfalso; omega)
          · omega
          · omega
        · have cx8_ : ¬ (vx7_ = (-1)) := of_decide_eq_false cx8_
          refine sm_T_go 2 (c1 := (157, [some (.inr (.inr (some (13, 0)))), some (.inl net_), some (.inl de_), some (.inl c_), some (.inl b_), some (.inl p_), some (.inl k_), some (.inl vx7_), none], [.inl vx7_, .inr (.inr (some (13, 0)))], S_)) rfl ?_
          refine sm_T_cal (d1 := 0) (Q1 := vq_454 vx7_ S_) rfl rfl (by decide) (vc_454 vx7_ S_ hI_ (by omega)) (fun u_ Sx9_ px12_ => ?_)
          obtain ⟨rfl, vx14_, rfl, px12_⟩ := px12_
          have e157_ := px12_
          rw [nt9_] at e157_
          refine sm_T_go 1 (c1 := (161, [some (.inr (.inr (some (13, 0)))), some (.inl net_), some (.inl de_), some (.inl c_), some (.inl b_), some (.inl p_), some (.inl k_), some (.inl vx7_), none], [.inl net_, .inl vx14_], S_)) rfl ?_
          refine sm_T_br (a := 1) (z := 7) rfl (fun cx15_ => ?_) (fun cx15_ => ?_)
          · have cx15_ : vx14_ ≠ net_ := of_decide_eq_true cx15_
            refine sm_T_go 4 (c1 := (173, [some (.inr (.inr (some (13, 0)))), some (.inl net_), some (.inl de_), some (.inl c_), some (.inl b_), some (.inl p_), some (.inl k_), some (.inl vx7_), none], [.inl de_, .inl net_, .inl vx7_, .inr (.inr (some (13, 0)))], S_)) rfl ?_
            refine sm_T_cal (d1 := 1) (Q1 := vq_455 vx7_ net_ de_ S_) rfl rfl (by decide) (vc_455 vx7_ net_ de_ S_ hI_ (by omega)) (fun u_ Sx16_ px19_ => ?_)
            obtain ⟨rfl, vx21_, rfl, px19_⟩ := px19_
            have e173_ := px19_
            rw [ps9_] at e173_
            refine sm_T_go 2 (c1 := (180, [some (.inr (.inr (some (13, 0)))), some (.inl net_), some (.inl de_), some (.inl c_), some (.inl b_), some (.inl p_), some (.inl k_), some (.inl vx7_), some (.inl vx21_)], [.inl vx21_], S_)) rfl ?_
            refine sm_T_b0 (a := 5) (z := 77) rfl (fun cx22_ => ?_) (fun cx22_ => ?_)
            · have cx22_ : vx21_ ≤ 0 := of_decide_eq_true cx22_
              refine sm_T_inc (a := 6) (z := 1) (v := k_) (w := k_ + 1) rfl rfl (by omega) (by omega) (by omega) ?_ -- pc_ 257
              refine sm_T_go 1 (c1 := (132, [some (.inr (.inr (some (13, 0)))), some (.inl net_), some (.inl de_), some (.inl c_), some (.inl b_), some (.inl p_), some (.inl (k_ + 1)), some (.inl vx7_), some (.inl vx21_)], [], S_)) rfl ?_
              refine sm_T_wk [some (.inr (.inr (some (13, 0)))), some (.inl net_), some (.inl de_), some (.inl c_), some (.inl b_), some (.inl p_), some (.inl (k_ + 1)), none, none] (by exact ⟨rfl, rfl, rfl, rfl, rfl, rfl, rfl, trivial⟩) ?_
              refine ih_.2.2 c_ b_ p_ (k_ + 1) S_ hI_ hF_ ⟨?_, ?_, ?_, ?_, ?_, trivial⟩ ?_
              · exact hQ_
              · exact hD_
              · exact h1_
              · refine mNl h2_ (fun a9_ b9_ c9_ => ?_)
                rw [← e143_] at a9_ b9_ c9_ ⊢
                first | omega | (exfalso; omega)
              · omega
              · omega
            · have cx22_ : ¬ (vx21_ ≤ 0) := of_decide_eq_false cx22_
              refine sm_T_go 3 (c1 := (189, [some (.inr (.inr (some (13, 0)))), some (.inl net_), some (.inl de_), some (.inl c_), some (.inl b_), some (.inl p_), some (.inl k_), some (.inl vx7_), some (.inl vx21_)], [.inl p_, .inr (.inr (some (258, 0)))], S_)) rfl ?_
              refine sm_T_iald (n := 4712) rfl rfl (by omega) (by omega) ?_
              have bx23_ : 0 ≤ S_.2.2.1 258 0 p_.toNat ∧ S_.2.2.1 258 0 p_.toNat ≤ 1000000000 := hI_.2 258 0 _
              refine sm_T_go 1 (c1 := (192, [some (.inr (.inr (some (13, 0)))), some (.inl net_), some (.inl de_), some (.inl c_), some (.inl b_), some (.inl p_), some (.inl k_), some (.inl vx7_), some (.inl vx21_)], [.inl vx21_, .inl (S_.2.2.1 258 0 p_.toNat)], S_)) rfl ?_
              refine sm_T_bin (w := (S_.2.2.1 258 0 p_.toNat) + vx21_) rfl (bi_add (by omega) (by omega) (by omega)) ?_ -- pc_ 192
              refine sm_T_go 3 (c1 := (199, [some (.inr (.inr (some (13, 0)))), some (.inl net_), some (.inl de_), some (.inl c_), some (.inl b_), some (.inl p_), some (.inl k_), some (.inl vx7_), some (.inl vx21_)], [.inl vx7_, .inr (.inr (some (258, 0))), .inl ((S_.2.2.1 258 0 p_.toNat) + vx21_)], S_)) rfl ?_
              refine sm_T_iald (n := 4712) rfl rfl (by omega) (by omega) ?_
              have bx24_ : 0 ≤ S_.2.2.1 258 0 vx7_.toNat ∧ S_.2.2.1 258 0 vx7_.toNat ≤ 1000000000 := hI_.2 258 0 _
              refine sm_T_br (a := 3) (z := 57) rfl (fun cx25_ => ?_) (fun cx25_ => ?_)
              · have cx25_ : (S_.2.2.1 258 0 vx7_.toNat) ≤ (S_.2.2.1 258 0 p_.toNat) + vx21_ := of_decide_eq_true cx25_
                refine sm_T_inc (a := 6) (z := 1) (v := k_) (w := k_ + 1) rfl rfl (by omega) (by omega) (by omega) ?_ -- pc_ 257
                refine sm_T_go 1 (c1 := (132, [some (.inr (.inr (some (13, 0)))), some (.inl net_), some (.inl de_), some (.inl c_), some (.inl b_), some (.inl p_), some (.inl (k_ + 1)), some (.inl vx7_), some (.inl vx21_)], [], S_)) rfl ?_
                refine sm_T_wk [some (.inr (.inr (some (13, 0)))), some (.inl net_), some (.inl de_), some (.inl c_), some (.inl b_), some (.inl p_), some (.inl (k_ + 1)), none, none] (by exact ⟨rfl, rfl, rfl, rfl, rfl, rfl, rfl, trivial⟩) ?_
                refine ih_.2.2 c_ b_ p_ (k_ + 1) S_ hI_ hF_ ⟨?_, ?_, ?_, ?_, ?_, trivial⟩ ?_
                · exact hQ_
                · exact hD_
                · exact h1_
                · refine mNl h2_ (fun a9_ b9_ c9_ => ?_)
                  rw [← e143_] at a9_ b9_ c9_ ⊢
                  first | omega | (exfalso; omega)
                · omega
                · omega
              · have cx25_ : ¬ ((S_.2.2.1 258 0 vx7_.toNat) ≤ (S_.2.2.1 258 0 p_.toNat) + vx21_) := of_decide_eq_false cx25_
                have Q0_ : 0 ≤ (nxt (S0_.1 13 0 174) (S0_.1 13 0 175) p_ k_) := by (rw [← e143_]; omega)
                have Qn_ : nta S0_ (nxt (S0_.1 13 0 174) (S0_.1 13 0 175) p_ k_) ≠ net_ := by (rw [← e143_]; omega)
                have Qp_ : 0 < prS S0_ net_ de_ (nxt (S0_.1 13 0 174) (S0_.1 13 0 175) p_ k_) := by (rw [← e143_, ← e173_.1]; omega)
                have Ql_ : S_.2.2.1 258 0 p_.toNat + prS S0_ net_ de_ (nxt (S0_.1 13 0 174) (S0_.1 13 0 175) p_ k_) < S_.2.2.1 258 0 (nxt (S0_.1 13 0 174) (S0_.1 13 0 175) p_ k_).toNat := by (rw [← e143_, ← e173_.1]; omega)
                refine sm_T_go 6 (c1 := (215, [some (.inr (.inr (some (13, 0)))), some (.inl net_), some (.inl de_), some (.inl c_), some (.inl b_), some (.inl p_), some (.inl k_), some (.inl vx7_), some (.inl vx21_)], [.inl p_, .inr (.inr (some (258, 0))), .inl vx7_, .inr (.inr (some (258, 0)))], S_)) rfl ?_
                refine sm_T_iald (n := 4712) rfl rfl (by omega) (by omega) ?_
                refine sm_T_go 1 (c1 := (218, [some (.inr (.inr (some (13, 0)))), some (.inl net_), some (.inl de_), some (.inl c_), some (.inl b_), some (.inl p_), some (.inl k_), some (.inl vx7_), some (.inl vx21_)], [.inl vx21_, .inl (S_.2.2.1 258 0 p_.toNat), .inl vx7_, .inr (.inr (some (258, 0)))], S_)) rfl ?_
                refine sm_T_bin (w := (S_.2.2.1 258 0 p_.toNat) + vx21_) rfl (bi_add (by omega) (by omega) (by omega)) ?_ -- pc_ 218
                refine sm_T_iast (n := 4712) rfl rfl (by omega) (by omega) ?_
                have hIx26_ : gi (sm_aI S_ 258 0 vx7_.toNat ((S_.2.2.1 258 0 p_.toNat) + vx21_)) := gi_aI hI_ (show 0 ≤ (S_.2.2.1 258 0 p_.toNat) + vx21_ ∧ (S_.2.2.1 258 0 p_.toNat) + vx21_ ≤ 1000000000 from ⟨by omega, by omega⟩)
                have hFx27_ : ai_fr (sx_W vw_456) S0_ (sm_aI S_ 258 0 vx7_.toNat ((S_.2.2.1 258 0 p_.toNat) + vx21_)) := ai_fr_tr hF_ (ai_fr_aI rfl)
                refine sm_T_go 3 (c1 := (226, [some (.inr (.inr (some (13, 0)))), some (.inl net_), some (.inl de_), some (.inl c_), some (.inl b_), some (.inl p_), some (.inl k_), some (.inl vx7_), some (.inl vx21_)], [.inl vx7_, .inr (.inr (some (260, 0)))], sm_aI S_ 258 0 vx7_.toNat ((S_.2.2.1 258 0 p_.toNat) + vx21_))) rfl ?_
                refine sm_T_zald (n := 4712) rfl rfl (by omega) (by omega) ?_
                have bx28_ : 0 ≤ S_.2.2.1 260 0 vx7_.toNat ∧ S_.2.2.1 260 0 vx7_.toNat ≤ 1 := hI_.2 260 0 _
                refine sm_T_go 0 (c1 := (227, [some (.inr (.inr (some (13, 0)))), some (.inl net_), some (.inl de_), some (.inl c_), some (.inl b_), some (.inl p_), some (.inl k_), some (.inl vx7_), some (.inl vx21_)], [.inl (S_.2.2.1 260 0 vx7_.toNat)], sm_aI S_ 258 0 vx7_.toNat ((S_.2.2.1 258 0 p_.toNat) + vx21_))) rfl ?_
                refine sm_T_b0 (a := 1) (z := 30) rfl (fun cx29_ => ?_) (fun cx29_ => ?_)
                · have cx29_ : (S_.2.2.1 260 0 vx7_.toNat) ≠ 0 := of_decide_eq_true cx29_
                  refine sm_T_inc (a := 6) (z := 1) (v := k_) (w := k_ + 1) rfl rfl (by omega) (by omega) (by omega) ?_ -- pc_ 257
                  refine sm_T_go 1 (c1 := (132, [some (.inr (.inr (some (13, 0)))), some (.inl net_), some (.inl de_), some (.inl c_), some (.inl b_), some (.inl p_), some (.inl (k_ + 1)), some (.inl vx7_), some (.inl vx21_)], [], sm_aI S_ 258 0 vx7_.toNat ((S_.2.2.1 258 0 p_.toNat) + vx21_))) rfl ?_
                  refine sm_T_wk [some (.inr (.inr (some (13, 0)))), some (.inl net_), some (.inl de_), some (.inl c_), some (.inl b_), some (.inl p_), some (.inl (k_ + 1)), none, none] (by exact ⟨rfl, rfl, rfl, rfl, rfl, rfl, rfl, trivial⟩) ?_
                  refine ih_.2.2 c_ b_ p_ (k_ + 1) (sm_aI S_ 258 0 vx7_.toNat ((S_.2.2.1 258 0 p_.toNat) + vx21_)) hIx26_ hFx27_ ⟨?_, ?_, ?_, ?_, ?_, trivial⟩ ?_
                  · (rw [rd_ne_ (by decide), rd_ne_ (by decide)]; exact hQ_)
                  · have R9_ := mRl (W_ := S0_.1 13 0 174) (H_ := S0_.1 13 0 175) (p_ := p_) (k0_ := k_) (d'_ := ((sm_aI S_ 258 0 vx7_.toNat ((S_.2.2.1 258 0 p_.toNat) + vx21_))).2.2.1 258 0) (il'_ := ((sm_aI S_ 258 0 vx7_.toNat ((S_.2.2.1 258 0 p_.toNat) + vx21_))).2.2.1 260 0) (by omega) (by omega) ⟨by omega, by omega⟩ ⟨by omega, by omega⟩ d0_ h1_ h2_ hD_ Q0_ Qn_ Qp_ Ql_ (fun j9_ => by ((try simp only [rd_eq, rd_ne, rf_eq, rf_nk, rf_nt, rd_fa, rd_af, rd_fl, rd_al, rd_lf, rd_la, rd_leq, rd_lne, rd_fr, rd_ar, ne_eq, Nat.reduceEqDiff, not_false_eq_true]); rw [← e143_, ← e173_.1])) (by (rw [← e143_]; (try simp only [rd_eq, rd_ne, rf_eq, rf_nk, rf_nt, rd_fa, rd_af, rd_fl, rd_al, rd_lf, rd_la, rd_leq, rd_lne, rd_fr, rd_ar, ne_eq, Nat.reduceEqDiff, not_false_eq_true]); omega)) (fun j9_ _ => by (try simp only [rd_eq, rd_ne, rf_eq, rf_nk, rf_nt, rd_fa, rd_af, rd_fl, rd_al, rd_lf, rd_la, rd_leq, rd_lne, rd_fr, rd_ar, ne_eq, Nat.reduceEqDiff, not_false_eq_true]))
                    exact R9_.2.2
                  · have R9_ := mRl (W_ := S0_.1 13 0 174) (H_ := S0_.1 13 0 175) (p_ := p_) (k0_ := k_) (d'_ := ((sm_aI S_ 258 0 vx7_.toNat ((S_.2.2.1 258 0 p_.toNat) + vx21_))).2.2.1 258 0) (il'_ := ((sm_aI S_ 258 0 vx7_.toNat ((S_.2.2.1 258 0 p_.toNat) + vx21_))).2.2.1 260 0) (by omega) (by omega) ⟨by omega, by omega⟩ ⟨by omega, by omega⟩ d0_ h1_ h2_ hD_ Q0_ Qn_ Qp_ Ql_ (fun j9_ => by ((try simp only [rd_eq, rd_ne, rf_eq, rf_nk, rf_nt, rd_fa, rd_af, rd_fl, rd_al, rd_lf, rd_la, rd_leq, rd_lne, rd_fr, rd_ar, ne_eq, Nat.reduceEqDiff, not_false_eq_true]); rw [← e143_, ← e173_.1])) (by (rw [← e143_]; (try simp only [rd_eq, rd_ne, rf_eq, rf_nk, rf_nt, rd_fa, rd_af, rd_fl, rd_al, rd_lf, rd_la, rd_leq, rd_lne, rd_fr, rd_ar, ne_eq, Nat.reduceEqDiff, not_false_eq_true]); omega)) (fun j9_ _ => by (try simp only [rd_eq, rd_ne, rf_eq, rf_nk, rf_nt, rd_fa, rd_af, rd_fl, rd_al, rd_lf, rd_la, rd_leq, rd_lne, rd_fr, rd_ar, ne_eq, Nat.reduceEqDiff, not_false_eq_true]))
                    exact R9_.1
                  · have R9_ := mRl (W_ := S0_.1 13 0 174) (H_ := S0_.1 13 0 175) (p_ := p_) (k0_ := k_) (d'_ := ((sm_aI S_ 258 0 vx7_.toNat ((S_.2.2.1 258 0 p_.toNat) + vx21_))).2.2.1 258 0) (il'_ := ((sm_aI S_ 258 0 vx7_.toNat ((S_.2.2.1 258 0 p_.toNat) + vx21_))).2.2.1 260 0) (by omega) (by omega) ⟨by omega, by omega⟩ ⟨by omega, by omega⟩ d0_ h1_ h2_ hD_ Q0_ Qn_ Qp_ Ql_ (fun j9_ => by ((try simp only [rd_eq, rd_ne, rf_eq, rf_nk, rf_nt, rd_fa, rd_af, rd_fl, rd_al, rd_lf, rd_la, rd_leq, rd_lne, rd_fr, rd_ar, ne_eq, Nat.reduceEqDiff, not_false_eq_true]); rw [← e143_, ← e173_.1])) (by (rw [← e143_]; (try simp only [rd_eq, rd_ne, rf_eq, rf_nk, rf_nt, rd_fa, rd_af, rd_fl, rd_al, rd_lf, rd_la, rd_leq, rd_lne, rd_fr, rd_ar, ne_eq, Nat.reduceEqDiff, not_false_eq_true]); omega)) (fun j9_ _ => by (try simp only [rd_eq, rd_ne, rf_eq, rf_nk, rf_nt, rd_fa, rd_af, rd_fl, rd_al, rd_lf, rd_la, rd_leq, rd_lne, rd_fr, rd_ar, ne_eq, Nat.reduceEqDiff, not_false_eq_true]))
                    exact R9_.2.1
                  · omega
                  · have s9_ := sd9_up (d_ := S_.2.2.1 258 0) (d'_ := ((sm_aI S_ 258 0 vx7_.toNat ((S_.2.2.1 258 0 p_.toNat) + vx21_))).2.2.1 258 0) (j_ := (nxt (S0_.1 13 0 174) (S0_.1 13 0 175) p_ k_).toNat) (by (rw [← e143_]; (try simp only [rd_eq, rd_ne, rf_eq, rf_nk, rf_nt, rd_fa, rd_af, rd_fl, rd_al, rd_lf, rd_la, rd_leq, rd_lne, rd_fr, rd_ar, ne_eq, Nat.reduceEqDiff, not_false_eq_true]); first | omega | (rw [if_pos rfl]; omega) | (rw [if_pos trivial]; omega))) (by (rw [← e143_]; (try simp only [rd_eq, rd_ne, rf_eq, rf_nk, rf_nt, rd_fa, rd_af, rd_fl, rd_al, rd_lf, rd_la, rd_leq, rd_lne, rd_fr, rd_ar, ne_eq, Nat.reduceEqDiff, not_false_eq_true]); first | omega | (rw [if_pos rfl]; omega) | (rw [if_pos trivial]; omega))) (fun k9_ h9_ => by (rw [← e143_] at h9_; (try simp only [rd_eq, rd_ne, rf_eq, rf_nk, rf_nt, rd_fa, rd_af, rd_fl, rd_al, rd_lf, rd_la, rd_leq, rd_lne, rd_fr, rd_ar, ne_eq, Nat.reduceEqDiff, not_false_eq_true]); rw [if_neg h9_])) (n_ := (S0_.1 13 0 176).toNat) (by omega)
                    omega
                · have cx29_ : ¬ ((S_.2.2.1 260 0 vx7_.toNat) ≠ 0) := of_decide_eq_false cx29_
                  have lt9_ := cn1_lt (f := (S_.2.2.1 260 0)) (j := ((nxt (S0_.1 13 0 174) (S0_.1 13 0 175) p_ k_)).toNat) (by rw [← e143_]; (try simp only [rd_eq, rd_ne, rf_eq, rf_nk, rf_nt, rd_fa, rd_af, rd_fl, rd_al, rd_lf, rd_la, rd_leq, rd_lne, rd_fr, rd_ar, ne_eq, Nat.reduceEqDiff, not_false_eq_true] at *); omega) (n := (S0_.1 13 0 176).toNat) (by omega)
                  have hc9_ : c_ < S0_.1 13 0 176 := by (have y9_ := hQ_.2.2.2; omega)
                  have m9_ := pos9_m (A_ := S0_.1 13 0 176) (b_ := b_) (c_ := c_) (by omega) (by omega)
                  have m8_ : 0 ≤ pos9 (S0_.1 13 0 176) b_ c_ ∧ pos9 (S0_.1 13 0 176) b_ c_ < S0_.1 13 0 176 := by (unfold pos9; split <;> omega)
                  rw [← m9_, ← g176_] at m8_
                  refine sm_T_go 4 (c1 := (237, [some (.inr (.inr (some (13, 0)))), some (.inl net_), some (.inl de_), some (.inl c_), some (.inl b_), some (.inl p_), some (.inl k_), some (.inl vx7_), some (.inl vx21_)], [.inl 1, .inl vx7_, .inr (.inr (some (260, 0)))], sm_aI S_ 258 0 vx7_.toNat ((S_.2.2.1 258 0 p_.toNat) + vx21_))) rfl ?_
                  refine sm_T_zas1 (n := 4712) rfl rfl (by omega) (by omega) (by omega) ?_
                  have hIx30_ : gi (sm_aI (sm_aI S_ 258 0 vx7_.toNat ((S_.2.2.1 258 0 p_.toNat) + vx21_)) 260 0 vx7_.toNat 1) := gi_aI hIx26_ (show 0 ≤ 1 ∧ 1 ≤ 1 from ⟨by omega, by omega⟩)
                  have hFx31_ : ai_fr (sx_W vw_456) S0_ (sm_aI (sm_aI S_ 258 0 vx7_.toNat ((S_.2.2.1 258 0 p_.toNat) + vx21_)) 260 0 vx7_.toNat 1) := ai_fr_tr hFx27_ (ai_fr_aI rfl)
                  refine sm_T_go 4 (c1 := (245, [some (.inr (.inr (some (13, 0)))), some (.inl net_), some (.inl de_), some (.inl c_), some (.inl b_), some (.inl p_), some (.inl k_), some (.inl vx7_), some (.inl vx21_)], [.inl c_, .inl b_, .inr (.inr (some (259, 0)))], sm_aI (sm_aI S_ 258 0 vx7_.toNat ((S_.2.2.1 258 0 p_.toNat) + vx21_)) 260 0 vx7_.toNat 1)) rfl ?_
                  refine sm_T_bin (w := b_ + c_) rfl (bi_add (by omega) (by omega) (by omega)) ?_ -- pc_ 245
                  have bx32_ : 0 ≤ S_.1 13 0 176 ∧ S_.1 13 0 176 ≤ 4712 := hI_.1 13 0 176 rfl
                  refine sm_T_go 2 (c1 := (250, [some (.inr (.inr (some (13, 0)))), some (.inl net_), some (.inl de_), some (.inl c_), some (.inl b_), some (.inl p_), some (.inl k_), some (.inl vx7_), some (.inl vx21_)], [.inl (S_.1 13 0 176), .inl (b_ + c_), .inr (.inr (some (259, 0)))], sm_aI (sm_aI S_ 258 0 vx7_.toNat ((S_.2.2.1 258 0 p_.toNat) + vx21_)) 260 0 vx7_.toNat 1)) rfl ?_
                  refine sm_T_bin (w := ((b_ + c_) % (S_.1 13 0 176))) rfl (bi_rem (by omega) (by omega) (by omega) (by omega)) ?_ -- pc_ 250
                  refine sm_T_go 1 (c1 := (253, [some (.inr (.inr (some (13, 0)))), some (.inl net_), some (.inl de_), some (.inl c_), some (.inl b_), some (.inl p_), some (.inl k_), some (.inl vx7_), some (.inl vx21_)], [.inl vx7_, .inl ((b_ + c_) % (S_.1 13 0 176)), .inr (.inr (some (259, 0)))], sm_aI (sm_aI S_ 258 0 vx7_.toNat ((S_.2.2.1 258 0 p_.toNat) + vx21_)) 260 0 vx7_.toNat 1)) rfl ?_
                  refine sm_T_iast (n := 4712) rfl rfl (by omega) (by omega) ?_
                  have hIx33_ : gi (sm_aI (sm_aI (sm_aI S_ 258 0 vx7_.toNat ((S_.2.2.1 258 0 p_.toNat) + vx21_)) 260 0 vx7_.toNat 1) 259 0 ((b_ + c_) % (S_.1 13 0 176)).toNat vx7_) := gi_aI hIx30_ (show 0 ≤ vx7_ ∧ vx7_ ≤ 4711 from ⟨by omega, by omega⟩)
                  have hFx34_ : ai_fr (sx_W vw_456) S0_ (sm_aI (sm_aI (sm_aI S_ 258 0 vx7_.toNat ((S_.2.2.1 258 0 p_.toNat) + vx21_)) 260 0 vx7_.toNat 1) 259 0 ((b_ + c_) % (S_.1 13 0 176)).toNat vx7_) := ai_fr_tr hFx31_ (ai_fr_aI rfl)
                  refine sm_T_inc (a := 3) (z := 1) (v := c_) (w := c_ + 1) rfl rfl (by omega) (by omega) (by omega) ?_ -- pc_ 254
                  refine sm_T_inc (a := 6) (z := 1) (v := k_) (w := k_ + 1) rfl rfl (by omega) (by omega) (by omega) ?_ -- pc_ 257
                  refine sm_T_go 1 (c1 := (132, [some (.inr (.inr (some (13, 0)))), some (.inl net_), some (.inl de_), some (.inl (c_ + 1)), some (.inl b_), some (.inl p_), some (.inl (k_ + 1)), some (.inl vx7_), some (.inl vx21_)], [], sm_aI (sm_aI (sm_aI S_ 258 0 vx7_.toNat ((S_.2.2.1 258 0 p_.toNat) + vx21_)) 260 0 vx7_.toNat 1) 259 0 ((b_ + c_) % (S_.1 13 0 176)).toNat vx7_)) rfl ?_
                  refine sm_T_wk [some (.inr (.inr (some (13, 0)))), some (.inl net_), some (.inl de_), some (.inl (c_ + 1)), some (.inl b_), some (.inl p_), some (.inl (k_ + 1)), none, none] (by exact ⟨rfl, rfl, rfl, rfl, rfl, rfl, rfl, trivial⟩) ?_
                  refine ih_.2.2 (c_ + 1) b_ p_ (k_ + 1) (sm_aI (sm_aI (sm_aI S_ 258 0 vx7_.toNat ((S_.2.2.1 258 0 p_.toNat) + vx21_)) 260 0 vx7_.toNat 1) 259 0 ((b_ + c_) % (S_.1 13 0 176)).toNat vx7_) hIx33_ hFx34_ ⟨?_, ?_, ?_, ?_, ?_, trivial⟩ ?_
                  · rw [g176_] at *
                    refine (mQ_push hQ_ (q_ := (nxt (S0_.1 13 0 174) (S0_.1 13 0 175) p_ k_)) ⟨by omega, by omega⟩ (by (rw [← e143_]; (try simp only [rd_eq, rd_ne, rf_eq, rf_nk, rf_nt, rd_fa, rd_af, rd_fl, rd_al, rd_lf, rd_la, rd_leq, rd_lne, rd_fr, rd_ar, ne_eq, Nat.reduceEqDiff, not_false_eq_true] at *); omega)) (fun k9_ => by (rw [← e143_]; (try simp only [rd_eq, rd_ne, rf_eq, rf_nk, rf_nt, rd_fa, rd_af, rd_fl, rd_al, rd_lf, rd_la, rd_leq, rd_lne, rd_fr, rd_ar, ne_eq, Nat.reduceEqDiff, not_false_eq_true]))) (fun k9_ => by (rw [← e143_, ← m9_]; (try simp only [rd_eq, rd_ne, rf_eq, rf_nk, rf_nt, rd_fa, rd_af, rd_fl, rd_al, rd_lf, rd_la, rd_leq, rd_lne, rd_fr, rd_ar, ne_eq, Nat.reduceEqDiff, not_false_eq_true])))).1
                  · have R9_ := mRl (W_ := S0_.1 13 0 174) (H_ := S0_.1 13 0 175) (p_ := p_) (k0_ := k_) (d'_ := ((sm_aI (sm_aI (sm_aI S_ 258 0 vx7_.toNat ((S_.2.2.1 258 0 p_.toNat) + vx21_)) 260 0 vx7_.toNat 1) 259 0 ((b_ + c_) % (S_.1 13 0 176)).toNat vx7_)).2.2.1 258 0) (il'_ := ((sm_aI (sm_aI (sm_aI S_ 258 0 vx7_.toNat ((S_.2.2.1 258 0 p_.toNat) + vx21_)) 260 0 vx7_.toNat 1) 259 0 ((b_ + c_) % (S_.1 13 0 176)).toNat vx7_)).2.2.1 260 0) (by omega) (by omega) ⟨by omega, by omega⟩ ⟨by omega, by omega⟩ d0_ h1_ h2_ hD_ Q0_ Qn_ Qp_ Ql_ (fun j9_ => by ((try simp only [rd_eq, rd_ne, rf_eq, rf_nk, rf_nt, rd_fa, rd_af, rd_fl, rd_al, rd_lf, rd_la, rd_leq, rd_lne, rd_fr, rd_ar, ne_eq, Nat.reduceEqDiff, not_false_eq_true]); rw [← e143_, ← e173_.1])) (by (rw [← e143_]; (try simp only [rd_eq, rd_ne, rf_eq, rf_nk, rf_nt, rd_fa, rd_af, rd_fl, rd_al, rd_lf, rd_la, rd_leq, rd_lne, rd_fr, rd_ar, ne_eq, Nat.reduceEqDiff, not_false_eq_true]); first | rfl | rw [if_pos rfl])) (fun j9_ y9_ => by (rw [← e143_] at y9_; (try simp only [rd_eq, rd_ne, rf_eq, rf_nk, rf_nt, rd_fa, rd_af, rd_fl, rd_al, rd_lf, rd_la, rd_leq, rd_lne, rd_fr, rd_ar, ne_eq, Nat.reduceEqDiff, not_false_eq_true]); rw [if_neg y9_]))
                    exact R9_.2.2
                  · have R9_ := mRl (W_ := S0_.1 13 0 174) (H_ := S0_.1 13 0 175) (p_ := p_) (k0_ := k_) (d'_ := ((sm_aI (sm_aI (sm_aI S_ 258 0 vx7_.toNat ((S_.2.2.1 258 0 p_.toNat) + vx21_)) 260 0 vx7_.toNat 1) 259 0 ((b_ + c_) % (S_.1 13 0 176)).toNat vx7_)).2.2.1 258 0) (il'_ := ((sm_aI (sm_aI (sm_aI S_ 258 0 vx7_.toNat ((S_.2.2.1 258 0 p_.toNat) + vx21_)) 260 0 vx7_.toNat 1) 259 0 ((b_ + c_) % (S_.1 13 0 176)).toNat vx7_)).2.2.1 260 0) (by omega) (by omega) ⟨by omega, by omega⟩ ⟨by omega, by omega⟩ d0_ h1_ h2_ hD_ Q0_ Qn_ Qp_ Ql_ (fun j9_ => by ((try simp only [rd_eq, rd_ne, rf_eq, rf_nk, rf_nt, rd_fa, rd_af, rd_fl, rd_al, rd_lf, rd_la, rd_leq, rd_lne, rd_fr, rd_ar, ne_eq, Nat.reduceEqDiff, not_false_eq_true]); rw [← e143_, ← e173_.1])) (by (rw [← e143_]; (try simp only [rd_eq, rd_ne, rf_eq, rf_nk, rf_nt, rd_fa, rd_af, rd_fl, rd_al, rd_lf, rd_la, rd_leq, rd_lne, rd_fr, rd_ar, ne_eq, Nat.reduceEqDiff, not_false_eq_true]); first | rfl | rw [if_pos rfl])) (fun j9_ y9_ => by (rw [← e143_] at y9_; (try simp only [rd_eq, rd_ne, rf_eq, rf_nk, rf_nt, rd_fa, rd_af, rd_fl, rd_al, rd_lf, rd_la, rd_leq, rd_lne, rd_fr, rd_ar, ne_eq, Nat.reduceEqDiff, not_false_eq_true]); rw [if_neg y9_]))
                    exact R9_.1
                  · have R9_ := mRl (W_ := S0_.1 13 0 174) (H_ := S0_.1 13 0 175) (p_ := p_) (k0_ := k_) (d'_ := ((sm_aI (sm_aI (sm_aI S_ 258 0 vx7_.toNat ((S_.2.2.1 258 0 p_.toNat) + vx21_)) 260 0 vx7_.toNat 1) 259 0 ((b_ + c_) % (S_.1 13 0 176)).toNat vx7_)).2.2.1 258 0) (il'_ := ((sm_aI (sm_aI (sm_aI S_ 258 0 vx7_.toNat ((S_.2.2.1 258 0 p_.toNat) + vx21_)) 260 0 vx7_.toNat 1) 259 0 ((b_ + c_) % (S_.1 13 0 176)).toNat vx7_)).2.2.1 260 0) (by omega) (by omega) ⟨by omega, by omega⟩ ⟨by omega, by omega⟩ d0_ h1_ h2_ hD_ Q0_ Qn_ Qp_ Ql_ (fun j9_ => by ((try simp only [rd_eq, rd_ne, rf_eq, rf_nk, rf_nt, rd_fa, rd_af, rd_fl, rd_al, rd_lf, rd_la, rd_leq, rd_lne, rd_fr, rd_ar, ne_eq, Nat.reduceEqDiff, not_false_eq_true]); rw [← e143_, ← e173_.1])) (by (rw [← e143_]; (try simp only [rd_eq, rd_ne, rf_eq, rf_nk, rf_nt, rd_fa, rd_af, rd_fl, rd_al, rd_lf, rd_la, rd_leq, rd_lne, rd_fr, rd_ar, ne_eq, Nat.reduceEqDiff, not_false_eq_true]); first | rfl | rw [if_pos rfl])) (fun j9_ y9_ => by (rw [← e143_] at y9_; (try simp only [rd_eq, rd_ne, rf_eq, rf_nk, rf_nt, rd_fa, rd_af, rd_fl, rd_al, rd_lf, rd_la, rd_leq, rd_lne, rd_fr, rd_ar, ne_eq, Nat.reduceEqDiff, not_false_eq_true]); rw [if_neg y9_]))
                    exact R9_.2.1
                  · omega
                  · have s9_ := sd9_up (d_ := S_.2.2.1 258 0) (d'_ := ((sm_aI (sm_aI (sm_aI S_ 258 0 vx7_.toNat ((S_.2.2.1 258 0 p_.toNat) + vx21_)) 260 0 vx7_.toNat 1) 259 0 ((b_ + c_) % (S_.1 13 0 176)).toNat vx7_)).2.2.1 258 0) (j_ := (nxt (S0_.1 13 0 174) (S0_.1 13 0 175) p_ k_).toNat) (by (rw [← e143_]; (try simp only [rd_eq, rd_ne, rf_eq, rf_nk, rf_nt, rd_fa, rd_af, rd_fl, rd_al, rd_lf, rd_la, rd_leq, rd_lne, rd_fr, rd_ar, ne_eq, Nat.reduceEqDiff, not_false_eq_true]); first | omega | (rw [if_pos rfl]; omega) | (rw [if_pos trivial]; omega))) (by (rw [← e143_]; (try simp only [rd_eq, rd_ne, rf_eq, rf_nk, rf_nt, rd_fa, rd_af, rd_fl, rd_al, rd_lf, rd_la, rd_leq, rd_lne, rd_fr, rd_ar, ne_eq, Nat.reduceEqDiff, not_false_eq_true]); first | omega | (rw [if_pos rfl]; omega) | (rw [if_pos trivial]; omega))) (fun k9_ h9_ => by (rw [← e143_] at h9_; (try simp only [rd_eq, rd_ne, rf_eq, rf_nk, rf_nt, rd_fa, rd_af, rd_fl, rd_al, rd_lf, rd_la, rd_leq, rd_lne, rd_fr, rd_ar, ne_eq, Nat.reduceEqDiff, not_false_eq_true]); rw [if_neg h9_])) (n_ := (S0_.1 13 0 176).toNat) (by omega)
                    omega
          · have cx15_ : ¬ (vx14_ ≠ net_) := of_decide_eq_false cx15_
            refine sm_T_go 5 (c1 := (257, [some (.inr (.inr (some (13, 0)))), some (.inl net_), some (.inl de_), some (.inl c_), some (.inl b_), some (.inl p_), some (.inl k_), some (.inl vx7_), some (.inl 0)], [], S_)) rfl ?_
            refine sm_T_inc (a := 6) (z := 1) (v := k_) (w := k_ + 1) rfl rfl (by omega) (by omega) (by omega) ?_ -- pc_ 257
            refine sm_T_go 1 (c1 := (132, [some (.inr (.inr (some (13, 0)))), some (.inl net_), some (.inl de_), some (.inl c_), some (.inl b_), some (.inl p_), some (.inl (k_ + 1)), some (.inl vx7_), some (.inl 0)], [], S_)) rfl ?_
            refine sm_T_wk [some (.inr (.inr (some (13, 0)))), some (.inl net_), some (.inl de_), some (.inl c_), some (.inl b_), some (.inl p_), some (.inl (k_ + 1)), none, none] (by exact ⟨rfl, rfl, rfl, rfl, rfl, rfl, rfl, trivial⟩) ?_
            refine ih_.2.2 c_ b_ p_ (k_ + 1) S_ hI_ hF_ ⟨?_, ?_, ?_, ?_, ?_, trivial⟩ ?_
            · exact hQ_
            · exact hD_
            · exact h1_
            · refine mNl h2_ (fun a9_ b9_ c9_ => ?_)
              rw [← e143_] at a9_ b9_ c9_ ⊢
              first | omega | (exfalso; omega)
            · omega
            · omega
set_option maxHeartbeats 4000000 in
set_option maxRecDepth 20000 in
theorem vc_456 {sc_ : Nat × (Nat → Int)} (net_ : Int) (de_ : Int) (S0_ : sm_S) (hI_ : gi S0_) (hgr_ : grd S0_) (hn_ : 0 ≤ net_ ∧ net_ ≤ 161) (hde_ : 0 ≤ de_ ∧ de_ ≤ 1) : sm_T (mt_P sc_) 2 456 (0, [some (.inr (.inr (some (13, 0)))), some (.inl net_), some (.inl de_), none, none, none, none, none, none], [], S0_) (fun ro9_ => ∃ u_ S1_, ro9_ = (.inl u_, S1_, 0) ∧ vq_456 net_ de_ S0_ u_ S1_) := by
  have hF_ : ai_fr (sx_W vw_456) S0_ S0_ := ai_fr_rf
  refine sm_T_go 4 (c1 := (5, [some (.inr (.inr (some (13, 0)))), some (.inl net_), some (.inl de_), some (.inl 0), some (.inl 0), none, none, none, none], [], S0_)) rfl ?_
  refine (vl_456 net_ de_ S0_ hgr_ hn_ hde_ _).1 0 0 S0_ hI_ hF_ ⟨?_, ?_, ?_, ?_, ?_, trivial⟩ (Nat.lt_succ_self _)
  · (obtain ⟨g1_, g2_, g3_, g4_, g5_⟩ := hgr_; have m9_ := mul_b (x_ := S0_.1 13 0 174) (y_ := S0_.1 13 0 175) (X_ := 62) (Y_ := 38) (Z_ := 2356) (by omega) (by omega) (by decide); omega)
  · (intro x9_ u0_ u1_; exfalso; omega)
  · (intro x9_ u0_ u1_; exfalso; omega)
  · (intro x9_ y9_ u0_ u1_ u2_; exfalso; omega)
  · rfl
end
/-! 99.zr7 -/
section
/-! the reference: nets connected; written by wip/p55/gen/vg -/

/-! the_ reference: nets connected -/
def ptf (S_ : sm_S) (k_ : Int) : Int := S_.2.2.1 245 0 k_.toNat * S_.1 13 0 174 + S_.2.2.1 244 0 k_.toNat
def hpn (S_ : sm_S) (n_ : Int) : Prop := ∃ k_ : Int, 0 ≤ k_ ∧ k_ < S_.1 13 0 159 ∧ S_.2.2.1 243 0 k_.toNat = n_
def hpk (S_ : sm_S) (n_ k_ : Int) : Prop := ∃ j_ : Int, k_ ≤ j_ ∧ j_ < S_.1 13 0 159 ∧ S_.2.2.1 243 0 j_.toNat = n_
def nbk (S_ : sm_S) (n_ v_ : Int) : Prop := ∃ k_ : Int, 0 ≤ k_ ∧ k_ < S_.1 13 0 159 ∧ S_.2.2.1 243 0 k_.toNat = n_ ∧ ptf S_ k_ = v_
def pnw (S_ : sm_S) : Prop := ∀ k_ : Int, 0 ≤ k_ → k_ < S_.1 13 0 159 → S_.2.2.1 244 0 k_.toNat < S_.1 13 0 174 ∧ S_.2.2.1 245 0 k_.toNat < S_.1 13 0 175
theorem pt_b {S_ : sm_S} {k_ : Int} (hI_ : gi S_) (hg_ : grd S_) (h_ : pnw S_) (h0_ : 0 ≤ k_) (h1_ : k_ < S_.1 13 0 159) : 0 ≤ ptf S_ k_ ∧ ptf S_ k_ < S_.1 13 0 174 * S_.1 13 0 175 := by
  have q_ := h_ k_ h0_ h1_
  have a_ : 0 ≤ S_.2.2.1 244 0 k_.toNat := (hI_.2 244 0 k_.toNat).1
  have b_ : 0 ≤ S_.2.2.1 245 0 k_.toNat := (hI_.2 245 0 k_.toNat).1
  unfold ptf
  have c_ : 0 ≤ S_.2.2.1 245 0 k_.toNat * S_.1 13 0 174 := Int.mul_nonneg b_ (by have := hg_.1; omega)
  have d_ : (S_.2.2.1 245 0 k_.toNat + 1) * S_.1 13 0 174 ≤ S_.1 13 0 175 * S_.1 13 0 174 := Int.mul_le_mul_of_nonneg_right (by omega) (by have := hg_.1; omega)
  rw [Int.add_mul, Int.one_mul, Int.mul_comm (S_.1 13 0 175)] at d_
  omega
theorem ptf_fr {w_ : sx_Wl} {S_ S'_ : sm_S} (g_ : ai_fr (sx_W w_) S_ S'_) (h1_ : (sx_W w_).1 13 174 = false := by rfl) (h2_ : (sx_W w_).2.1 244 = false := by rfl) (h3_ : (sx_W w_).2.1 245 = false := by rfl) : ptf S'_ = ptf S_ := by
  funext k_
  unfold ptf
  rw [g_.1 13 0 174 h1_, fr_arr g_ h2_, fr_arr g_ h3_]
theorem pnw_fr {w_ : sx_Wl} {S_ S'_ : sm_S} (h_ : pnw S_) (g_ : ai_fr (sx_W w_) S_ S'_) (h1_ : (sx_W w_).1 13 174 = false := by rfl) (h2_ : (sx_W w_).2.1 244 = false := by rfl) (h3_ : (sx_W w_).2.1 245 = false := by rfl) (h4_ : (sx_W w_).1 13 175 = false := by rfl) (h5_ : (sx_W w_).1 13 159 = false := by rfl) : pnw S'_ := by
  unfold pnw
  rw [g_.1 13 0 174 h1_, g_.1 13 0 175 h4_, g_.1 13 0 159 h5_, fr_arr g_ h2_, fr_arr g_ h3_]
  exact h_
theorem hpn_fr {w_ : sx_Wl} {S_ S'_ : sm_S} {n_ : Int} (h_ : hpn S_ n_) (g_ : ai_fr (sx_W w_) S_ S'_) (h2_ : (sx_W w_).2.1 243 = false := by rfl) (h5_ : (sx_W w_).1 13 159 = false := by rfl) : hpn S'_ n_ := by
  unfold hpn
  rw [g_.1 13 0 159 h5_, fr_arr g_ h2_]
  exact h_
theorem nbk_fr {w_ : sx_Wl} {S_ S'_ : sm_S} {n_ v_ : Int} (h_ : nbk S_ n_ v_) (g_ : ai_fr (sx_W w_) S_ S'_) (h1_ : (sx_W w_).1 13 174 = false := by rfl) (h2_ : (sx_W w_).2.1 244 = false := by rfl) (h3_ : (sx_W w_).2.1 245 = false := by rfl) (h4_ : (sx_W w_).2.1 243 = false := by rfl) (h5_ : (sx_W w_).1 13 159 = false := by rfl) : nbk S'_ n_ v_ := by
  unfold nbk
  rw [g_.1 13 0 159 h5_, fr_arr g_ h4_, ptf_fr g_ h1_ h2_ h3_]
  exact h_
/-- pins that are_ not connected -/
def uc (S_ : sm_S) (net_ ex_ : Int) (k_ : Nat) : Int := if S_.2.2.1 243 0 k_ = net_ ∧ nta S_ (ptf S_ k_) ≠ net_ ∧ ptf S_ k_ ≠ ex_ then 1 else 0
theorem uc_1 {S_ : sm_S} {net_ ex_ : Int} {k_ : Nat} : uc S_ net_ ex_ k_ = 1 ↔ S_.2.2.1 243 0 k_ = net_ ∧ nta S_ (ptf S_ k_) ≠ net_ ∧ ptf S_ k_ ≠ ex_ := by
  unfold uc
  split
  · rename_i h_
    exact ⟨fun _ => h_, fun _ => rfl⟩
  · rename_i h_
    exact ⟨fun z_ => absurd z_ (by decide), fun z_ => absurd z_ h_⟩
theorem uc_fr {w_ : sx_Wl} {S_ S'_ : sm_S} {net_ ex_ : Int} (g_ : ai_fr (sx_W w_) S_ S'_) (h1_ : (sx_W w_).1 13 174 = false := by rfl) (h2_ : (sx_W w_).2.1 244 = false := by rfl) (h3_ : (sx_W w_).2.1 245 = false := by rfl) (h4_ : (sx_W w_).2.1 243 = false := by rfl) (h5_ : (sx_W w_).1 13 177 = false := by rfl) (h6_ : (sx_W w_).2.1 252 = false := by rfl) : uc S'_ net_ ex_ = uc S_ net_ ex_ := by
  funext k_
  unfold uc
  rw [fr_arr g_ h4_, ptf_fr g_ h1_ h2_ h3_, nta_fr g_ h5_ h6_]
/-- nets of_ others change -/
theorem uc_cg {S_ S'_ : sm_S} {net_ ex_ : Int} (hg_ : grd S_) (hI_ : gi S_) (hp_ : pnw S_) (e1_ : S'_.1 13 0 159 = S_.1 13 0 159) (e2_ : S'_.2.2.1 243 0 = S_.2.2.1 243 0) (e3_ : ptf S'_ = ptf S_) (h_ : ∀ p_, 0 ≤ p_ → p_ < S_.1 13 0 176 → (nta S'_ p_ = net_ ↔ nta S_ p_ = net_)) : cn1 (uc S'_ net_ ex_) (S'_.1 13 0 159).toNat = cn1 (uc S_ net_ ex_) (S_.1 13 0 159).toNat := by
  rw [e1_]
  refine cn1_cg (fun k_ hk_ => ?_)
  have b_ := pt_b (k_ := (k_ : Int)) hI_ hg_ hp_ (by omega) (by omega)
  have q_ := h_ (ptf S_ k_) b_.1 (by have := hg_.2.2.2.2; omega)
  unfold uc
  rw [e2_, e3_]
  by_cases z_ : nta S_ (ptf S_ k_) = net_
  · rw [if_neg (by rintro ⟨-, y_, -⟩; exact y_ (q_.mpr z_)), if_neg (by rintro ⟨-, y_, -⟩; exact y_ z_)]
  · have z2_ : ¬ nta S'_ (ptf S_ k_) = net_ := fun y_ => z_ (q_.mp y_)
    by_cases a_ : S_.2.2.1 243 0 k_ = net_ ∧ ptf S_ k_ ≠ ex_
    · rw [if_pos ⟨a_.1, z2_, a_.2⟩, if_pos ⟨a_.1, z_, a_.2⟩]
    · rw [if_neg (fun y_ => a_ ⟨y_.1, y_.2.2⟩), if_neg (fun y_ => a_ ⟨y_.1, y_.2.2⟩)]
theorem uc_pin {S_ : sm_S} {net_ pin_ : Int} (hg_ : grd S_) (hI_ : gi S_) (hw_ : pnw S_) (h_ : nbk S_ net_ pin_) (hn_ : nta S_ pin_ ≠ net_) (hp_ : pin_ ≠ -1) : cn1 (uc S_ net_ pin_) (S_.1 13 0 159).toNat + 1 ≤ cn1 (uc S_ net_ (-1)) (S_.1 13 0 159).toNat := by
  obtain ⟨k_, a_, b_, c_, d_⟩ := h_
  have e_ : ((k_.toNat : Nat) : Int) = k_ := by omega
  refine cn1_sub (j_ := k_.toNat) (uc_1.mpr ⟨c_, by rw [e_, d_]; exact hn_, by rw [e_, d_]; exact hp_⟩) (fun z_ => (uc_1.mp z_).2.2 (by rw [e_]; exact d_)) (fun k1_ hk1_ z_ => ?_) (by omega)
  have y_ := uc_1.mp z_
  have b_ := pt_b (k_ := (k1_ : Int)) hI_ hg_ hw_ (by omega) (by omega)
  exact uc_1.mpr ⟨y_.1, y_.2.1, by omega⟩
theorem uc_set {S_ S'_ : sm_S} {net_ ex_ : Int} (hg_ : grd S_) (hI_ : gi S_) (hp_ : pnw S_) (e1_ : S'_.1 13 0 159 = S_.1 13 0 159) (e2_ : S'_.2.2.1 243 0 = S_.2.2.1 243 0) (e3_ : ptf S'_ = ptf S_) (h_ : ∀ p_, 0 ≤ p_ → p_ < S_.1 13 0 176 → nta S_ p_ = net_ → nta S'_ p_ = net_) : cn1 (uc S'_ net_ ex_) (S'_.1 13 0 159).toNat ≤ cn1 (uc S_ net_ ex_) (S_.1 13 0 159).toNat := by
  rw [e1_]
  refine cn1_mo (fun k_ hk_ z_ => ?_)
  have b_ := pt_b (k_ := (k_ : Int)) hI_ hg_ hp_ (by omega) (by omega)
  have y_ := uc_1.mp z_
  rw [e2_, e3_] at y_
  exact uc_1.mpr ⟨y_.1, fun q_ => y_.2.1 (h_ _ b_.1 (by have := hg_.2.2.2.2; omega) q_), y_.2.2⟩
theorem uc_done {S_ : sm_S} {net_ pin_ : Int} (h_ : nta S_ pin_ = net_) : cn1 (uc S_ net_ (-1)) (S_.1 13 0 159).toNat ≤ cn1 (uc S_ net_ pin_) (S_.1 13 0 159).toNat := by
  refine cn1_mo (fun k_ hk_ z_ => ?_)
  have y_ := uc_1.mp z_
  exact uc_1.mpr ⟨y_.1, y_.2.1, fun q_ => y_.2.1 (by rw [q_]; exact h_)⟩
/-- what a_ pin_ to_ be_ reached is_ -/
def npk (S_ : sm_S) (net_ de_ v_ : Int) : Prop := (0 ≤ v_ ∧ v_ < S_.1 13 0 174 * S_.1 13 0 175 ∧ S_.2.2.1 258 0 v_.toNat < 1000000000 ∧ nta S_ v_ ≠ net_) ∧ nbk S_ net_ v_ ∧ mD1 (S_.1 13 0 174) (S_.1 13 0 175) net_ (nta S_) (S_.2.2.1 258 0) ∧ mD2 (S_.1 13 0 174) (S_.1 13 0 175) (prS S_ net_ de_) (S_.2.2.1 258 0)
/-- points farther off_ -/
def fro (d_ : Nat → Int) (x_ : Int) (k_ : Nat) : Int := if x_ < d_ k_ then 1 else 0
theorem fro_1 {d_ : Nat → Int} {x_ : Int} {k_ : Nat} : fro d_ x_ k_ = 1 ↔ x_ < d_ k_ := by
  unfold fro
  split
  · rename_i h_
    exact ⟨fun _ => h_, fun _ => rfl⟩
  · rename_i h_
    exact ⟨fun z_ => absurd z_ (by decide), fun z_ => absurd z_ h_⟩
theorem fro_up {d_ : Nat → Int} {x_ y_ : Int} {p_ n_ : Nat} (hp_ : p_ < n_) (h_ : d_ p_ = x_) (hy_ : y_ < x_) : cn1 (fro d_ x_) n_ + 1 ≤ cn1 (fro d_ y_) n_ :=
  cn1_sub (j_ := p_) (fro_1.mpr (by omega)) (fun z_ => by have := fro_1.mp z_; omega) (fun k_ _ z_ => fro_1.mpr (by have := fro_1.mp z_; omega)) hp_
theorem fro_lt {d_ : Nat → Int} {p_ n_ : Nat} (hp_ : p_ < n_) : cn1 (fro d_ (d_ p_)) n_ < n_ := cn1_lt (j := p_) (fun z_ => by have := fro_1.mp z_; omega) hp_
/-- a_ way_ found so_ far_, back to_ a_ point before -/
def wbx (W_ H_ : Int) (d_ : Nat → Int) (p_ bf_ k_ : Int) : Prop := ∃ j_ : Int, (0 ≤ j_ ∧ j_ ≤ k_ ∧ j_ ≤ 4) ∧ 0 ≤ nxt W_ H_ p_ j_ ∧ d_ (nxt W_ H_ p_ j_).toNat = bf_
/-! M_.nearestPin -/
def vw_459 : sx_Wl := ([], [258, 259, 260], [])
def vq_459 (net_ : Int) (de_ : Int) (S0_ : sm_S) (u_ : Option sm_V) (S1_ : sm_S) : Prop := ∃ v_ : Int, u_ = some (.inl v_) ∧ gi S1_ ∧ ai_fr (sx_W vw_459) S0_ S1_ ∧ (v_ = -1 ∨ v_ = -2 ∨ npk S1_ net_ de_ v_)
set_option maxHeartbeats 2000000 in
set_option maxRecDepth 20000 in
theorem vl_459 {sc_ : Nat × (Nat → Int)} (net_ : Int) (de_ : Int) (S0_ : sm_S) (hgr_ : grd S0_) (hn_ : 0 ≤ net_ ∧ net_ ≤ 161) (hde_ : 0 ≤ de_ ∧ de_ ≤ 1) (hpw_ : pnw S0_) : ∀ nn_ : Nat, (∀ (an_ : Int) (k_ : Int) (S_ : sm_S), gi S_ → ai_fr (sx_W vw_459) S0_ S_ → ((0 ≤ k_ ∧ k_ ≤ 700 ∧ (an_ = 0 ∨ an_ = 1)) ∧ True) → ((9000 - k_).toNat) < nn_ → sm_T (mt_P sc_) 3 459 (5, [some (.inr (.inr (some (13, 0)))), some (.inl net_), some (.inl de_), some (.inl an_), some (.inl k_), none, none], [], S_) (fun ro9_ => ∃ u_ S1_, ro9_ = (.inl u_, S1_, 0) ∧ vq_459 net_ de_ S0_ u_ S1_)) ∧ (∀ (b_ : Int) (k_ : Int) (S_ : sm_S), gi S_ → ai_fr (sx_W vw_459) S0_ S_ → ((0 ≤ k_ ∧ k_ ≤ 700 ∧ -2 ≤ b_ ∧ b_ < S_.1 13 0 174 * S_.1 13 0 175) ∧ (b_ = -2 ∨ (0 ≤ b_ ∧ S_.2.2.1 258 0 b_.toNat < 1000000000 ∧ nta S_ b_ ≠ net_)) ∧ (b_ = -2 ∨ nbk S_ net_ b_) ∧ (mD1 (S_.1 13 0 174) (S_.1 13 0 175) net_ (nta S_) (S_.2.2.1 258 0)) ∧ (mD2 (S_.1 13 0 174) (S_.1 13 0 175) (prS S_ net_ de_) (S_.2.2.1 258 0)) ∧ True) → ((5000 - k_).toNat) < nn_ → sm_T (mt_P sc_) 3 459 (86, [some (.inr (.inr (some (13, 0)))), some (.inl net_), some (.inl de_), none, some (.inl b_), some (.inl k_), none], [], S_) (fun ro9_ => ∃ u_ S1_, ro9_ = (.inl u_, S1_, 0) ∧ vq_459 net_ de_ S0_ u_ S1_)) := by
  intro nn_
  induction nn_ with
  | zero => exact ⟨fun _ _ _ _ _ _ h_ => absurd h_ (Nat.not_lt_zero _), fun _ _ _ _ _ _ h_ => absurd h_ (Nat.not_lt_zero _)⟩
  | succ nn_ ih_ =>
    refine ⟨?_, ?_⟩
    · rintro an_ k_ S_ hI_ hF_ ⟨h0_, -⟩ hm_
      have g174_ : S_.1 13 0 174 = S0_.1 13 0 174 := hF_.1 13 0 174 rfl
      have g175_ : S_.1 13 0 175 = S0_.1 13 0 175 := hF_.1 13 0 175 rfl
      have gr9_ := grd_fr hgr_ hF_
      have pw9_ := pnw_fr hpw_ hF_
      have gm9_ := grd_m gr9_
      have g5_ := gr9_.2.2.2.2
      have P9_ : 0 ≤ S_.1 13 0 159 ∧ S_.1 13 0 159 ≤ 700 := hI_.1 13 0 159 rfl
      have bx1_ : 0 ≤ S_.1 13 0 159 ∧ S_.1 13 0 159 ≤ 700 := hI_.1 13 0 159 rfl
      refine sm_T_go 3 (c1 := (11, [some (.inr (.inr (some (13, 0)))), some (.inl net_), some (.inl de_), some (.inl an_), some (.inl k_), none, none], [.inl (S_.1 13 0 159), .inl k_], S_)) rfl ?_
      refine sm_T_br (a := 3) (z := 56) rfl (fun cx2_ => ?_) (fun cx2_ => ?_)
      · have cx2_ : (S_.1 13 0 159) ≤ k_ := of_decide_eq_true cx2_
        refine sm_T_go 1 (c1 := (68, [some (.inr (.inr (some (13, 0)))), some (.inl net_), some (.inl de_), some (.inl an_), some (.inl k_), none, none], [.inl an_], S_)) rfl ?_
        refine sm_T_b0 (a := 1) (z := 5) rfl (fun cx3_ => ?_) (fun cx3_ => ?_)
        · have cx3_ : an_ ≠ 0 := of_decide_eq_true cx3_
          refine sm_T_go 3 (c1 := (76, [some (.inr (.inr (some (13, 0)))), some (.inl net_), some (.inl de_), some (.inl an_), some (.inl k_), none, none], [.inl de_, .inl net_, .inr (.inr (some (13, 0)))], S_)) rfl ?_
          refine sm_T_cal (d1 := 2) (Q1 := vq_456 net_ de_ S_) rfl rfl (by decide) (vc_456 net_ de_ S_ hI_ (by exact gr9_) (by exact hn_) (by exact hde_)) (fun u_ Sx4_ px7_ => ?_)
          obtain ⟨rfl, hIx5_, hFx6_, px7_⟩ := px7_
          have hFx8_ : ai_fr (sx_W vw_459) S0_ Sx4_ := ai_fr_tr hF_ (fr_le hFx6_ rfl)
          have ex9_ : Sx4_.1 13 0 159 = S_.1 13 0 159 := hFx6_.1 13 0 159 rfl
          have m76_ := px7_
          have n76_ := nta_fr hFx6_
          have r76_ := prS_fr (net_ := net_) (de_ := de_) hFx6_
          have y174_ := hFx6_.1 13 0 174 rfl
          have y175_ := hFx6_.1 13 0 175 rfl
          refine sm_T_go 4 (c1 := (86, [some (.inr (.inr (some (13, 0)))), some (.inl net_), some (.inl de_), some (.inl an_), some (.inl (-2)), some (.inl 0), none], [], Sx4_)) rfl ?_
          refine sm_T_wk [some (.inr (.inr (some (13, 0)))), some (.inl net_), some (.inl de_), none, some (.inl (-2)), some (.inl 0), none] (by exact ⟨rfl, rfl, rfl, rfl, rfl, trivial⟩) ?_
          refine ih_.2 (-2) 0 Sx4_ hIx5_ hFx8_ ⟨?_, ?_, ?_, ?_, ?_, trivial⟩ ?_
          · (rw [y174_, y175_]; omega)
          · omega
          · exact Or.inl rfl
          · (rw [y174_, y175_, n76_]; exact m76_.1)
          · (rw [y174_, y175_, r76_]; exact m76_.2)
          · omega
        · have cx3_ : ¬ (an_ ≠ 0) := of_decide_eq_false cx3_
          refine sm_T_go 1 (c1 := (72, [some (.inr (.inr (some (13, 0)))), some (.inl net_), some (.inl de_), some (.inl an_), some (.inl k_), none, none], [.inl (-1)], S_)) rfl ?_
          refine sm_T_ri rfl ⟨_, _, rfl, _, rfl, hI_, hF_, ?_⟩
          first | exact Or.inl rfl | (by_cases z9_ : b_ = -2; exact Or.inr (Or.inl z9_); exact Or.inr (Or.inr ⟨by omega, hk_.resolve_left z9_, hD_, hE_⟩))
      · have cx2_ : ¬ ((S_.1 13 0 159) ≤ k_) := of_decide_eq_false cx2_
        have pb9_ := pt_b (k_ := k_) hI_ gr9_ pw9_ (by omega) (by omega)
        refine sm_T_go 1 (c1 := (15, [some (.inr (.inr (some (13, 0)))), some (.inl net_), some (.inl de_), some (.inl an_), some (.inl k_), none, none], [.inl an_], S_)) rfl ?_
        refine sm_T_b0 (a := 1) (z := 40) rfl (fun cx10_ => ?_) (fun cx10_ => ?_)
        · have cx10_ : an_ ≠ 0 := of_decide_eq_true cx10_
          refine sm_T_go 3 (c1 := (61, [some (.inr (.inr (some (13, 0)))), some (.inl net_), some (.inl de_), some (.inl 1), some (.inl k_), none, none], [], S_)) rfl ?_
          refine sm_T_inc (a := 4) (z := 1) (v := k_) (w := k_ + 1) rfl rfl (by omega) (by omega) (by omega) ?_ -- pc_ 61
          refine sm_T_go 1 (c1 := (5, [some (.inr (.inr (some (13, 0)))), some (.inl net_), some (.inl de_), some (.inl 1), some (.inl (k_ + 1)), none, none], [], S_)) rfl ?_
          refine ih_.1 1 (k_ + 1) S_ hI_ hF_ ⟨?_, trivial⟩ ?_
          · omega
          · omega
        · have cx10_ : ¬ (an_ ≠ 0) := of_decide_eq_false cx10_
          refine sm_T_go 3 (c1 := (24, [some (.inr (.inr (some (13, 0)))), some (.inl net_), some (.inl de_), some (.inl an_), some (.inl k_), none, none], [.inl k_, .inr (.inr (some (243, 0)))], S_)) rfl ?_
          refine sm_T_iald (n := 700) rfl rfl (by omega) (by omega) ?_
          have bx11_ : 0 ≤ S_.2.2.1 243 0 k_.toNat ∧ S_.2.2.1 243 0 k_.toNat ≤ 161 := hI_.2 243 0 _
          refine sm_T_go 1 (c1 := (26, [some (.inr (.inr (some (13, 0)))), some (.inl net_), some (.inl de_), some (.inl an_), some (.inl k_), none, none], [.inl net_, .inl (S_.2.2.1 243 0 k_.toNat)], S_)) rfl ?_
          refine sm_T_br (a := 1) (z := 33) rfl (fun cx12_ => ?_) (fun cx12_ => ?_)
          · have cx12_ : (S_.2.2.1 243 0 k_.toNat) ≠ net_ := of_decide_eq_true cx12_
            refine sm_T_go 2 (c1 := (61, [some (.inr (.inr (some (13, 0)))), some (.inl net_), some (.inl de_), some (.inl 0), some (.inl k_), none, none], [], S_)) rfl ?_
            refine sm_T_inc (a := 4) (z := 1) (v := k_) (w := k_ + 1) rfl rfl (by omega) (by omega) (by omega) ?_ -- pc_ 61
            refine sm_T_go 1 (c1 := (5, [some (.inr (.inr (some (13, 0)))), some (.inl net_), some (.inl de_), some (.inl 0), some (.inl (k_ + 1)), none, none], [], S_)) rfl ?_
            refine ih_.1 0 (k_ + 1) S_ hI_ hF_ ⟨?_, trivial⟩ ?_
            · omega
            · omega
          · have cx12_ : ¬ ((S_.2.2.1 243 0 k_.toNat) ≠ net_) := of_decide_eq_false cx12_
            refine sm_T_go 5 (c1 := (37, [some (.inr (.inr (some (13, 0)))), some (.inl net_), some (.inl de_), some (.inl an_), some (.inl k_), none, none], [.inl k_, .inr (.inr (some (244, 0))), .inr (.inr (some (13, 0))), .inr (.inr (some (13, 0)))], S_)) rfl ?_
            refine sm_T_iald (n := 700) rfl rfl (by omega) (by omega) ?_
            have bx13_ : 0 ≤ S_.2.2.1 244 0 k_.toNat ∧ S_.2.2.1 244 0 k_.toNat ≤ 200 := hI_.2 244 0 _
            refine sm_T_go 3 (c1 := (44, [some (.inr (.inr (some (13, 0)))), some (.inl net_), some (.inl de_), some (.inl an_), some (.inl k_), none, none], [.inl k_, .inr (.inr (some (245, 0))), .inl (S_.2.2.1 244 0 k_.toNat), .inr (.inr (some (13, 0))), .inr (.inr (some (13, 0)))], S_)) rfl ?_
            refine sm_T_iald (n := 700) rfl rfl (by omega) (by omega) ?_
            have bx14_ : 0 ≤ S_.2.2.1 245 0 k_.toNat ∧ S_.2.2.1 245 0 k_.toNat ≤ 40 := hI_.2 245 0 _
            refine sm_T_cal (d1 := 0) (Q1 := vq_452 (S_.2.2.1 244 0 k_.toNat) (S_.2.2.1 245 0 k_.toNat) S_) rfl rfl (by decide) (vc_452 (S_.2.2.1 244 0 k_.toNat) (S_.2.2.1 245 0 k_.toNat) S_ hI_ (by omega) (by omega)) (fun u_ Sx15_ px18_ => ?_)
            obtain ⟨rfl, vx20_, rfl, px18_⟩ := px18_
            have e45_ := px18_
            have t45_ : vx20_ = ptf S_ k_ := e45_
            refine sm_T_cal (d1 := 0) (Q1 := vq_454 vx20_ S_) rfl rfl (by decide) (vc_454 vx20_ S_ hI_ (by omega)) (fun u_ Sx21_ px24_ => ?_)
            obtain ⟨rfl, vx26_, rfl, px24_⟩ := px24_
            have e48_ := px24_
            refine sm_T_go 1 (c1 := (52, [some (.inr (.inr (some (13, 0)))), some (.inl net_), some (.inl de_), some (.inl an_), some (.inl k_), none, none], [.inl net_, .inl vx26_], S_)) rfl ?_
            refine sm_T_br (a := 0) (z := 7) rfl (fun cx27_ => ?_) (fun cx27_ => ?_)
            · have cx27_ : vx26_ = net_ := of_decide_eq_true cx27_
              refine sm_T_go 2 (c1 := (61, [some (.inr (.inr (some (13, 0)))), some (.inl net_), some (.inl de_), some (.inl 0), some (.inl k_), none, none], [], S_)) rfl ?_
              refine sm_T_inc (a := 4) (z := 1) (v := k_) (w := k_ + 1) rfl rfl (by omega) (by omega) (by omega) ?_ -- pc_ 61
              refine sm_T_go 1 (c1 := (5, [some (.inr (.inr (some (13, 0)))), some (.inl net_), some (.inl de_), some (.inl 0), some (.inl (k_ + 1)), none, none], [], S_)) rfl ?_
              refine ih_.1 0 (k_ + 1) S_ hI_ hF_ ⟨?_, trivial⟩ ?_
              · omega
              · omega
            · have cx27_ : ¬ (vx26_ = net_) := of_decide_eq_false cx27_
              refine sm_T_go 3 (c1 := (61, [some (.inr (.inr (some (13, 0)))), some (.inl net_), some (.inl de_), some (.inl 1), some (.inl k_), none, none], [], S_)) rfl ?_
              refine sm_T_inc (a := 4) (z := 1) (v := k_) (w := k_ + 1) rfl rfl (by omega) (by omega) (by omega) ?_ -- pc_ 61
              refine sm_T_go 1 (c1 := (5, [some (.inr (.inr (some (13, 0)))), some (.inl net_), some (.inl de_), some (.inl 1), some (.inl (k_ + 1)), none, none], [], S_)) rfl ?_
              refine ih_.1 1 (k_ + 1) S_ hI_ hF_ ⟨?_, trivial⟩ ?_
              · omega
              · omega
    · rintro b_ k_ S_ hI_ hF_ ⟨h0_, hb_, hk_, hD_, hE_, -⟩ hm_
      have g174_ : S_.1 13 0 174 = S0_.1 13 0 174 := hF_.1 13 0 174 rfl
      have g175_ : S_.1 13 0 175 = S0_.1 13 0 175 := hF_.1 13 0 175 rfl
      have gr9_ := grd_fr hgr_ hF_
      have pw9_ := pnw_fr hpw_ hF_
      have gm9_ := grd_m gr9_
      have g5_ := gr9_.2.2.2.2
      have P9_ : 0 ≤ S_.1 13 0 159 ∧ S_.1 13 0 159 ≤ 700 := hI_.1 13 0 159 rfl
      have bx1_ : 0 ≤ S_.1 13 0 159 ∧ S_.1 13 0 159 ≤ 700 := hI_.1 13 0 159 rfl
      refine sm_T_go 3 (c1 := (92, [some (.inr (.inr (some (13, 0)))), some (.inl net_), some (.inl de_), none, some (.inl b_), some (.inl k_), none], [.inl (S_.1 13 0 159), .inl k_], S_)) rfl ?_
      refine sm_T_br (a := 3) (z := 118) rfl (fun cx2_ => ?_) (fun cx2_ => ?_)
      · have cx2_ : (S_.1 13 0 159) ≤ k_ := of_decide_eq_true cx2_
        refine sm_T_go 1 (c1 := (212, [some (.inr (.inr (some (13, 0)))), some (.inl net_), some (.inl de_), none, some (.inl b_), some (.inl k_), none], [.inl b_], S_)) rfl ?_
        refine sm_T_ri rfl ⟨_, _, rfl, _, rfl, hI_, hF_, ?_⟩
        first | exact Or.inl rfl | (by_cases z9_ : b_ = -2; exact Or.inr (Or.inl z9_); exact Or.inr (Or.inr ⟨by omega, hk_.resolve_left z9_, hD_, hE_⟩))
      · have cx2_ : ¬ ((S_.1 13 0 159) ≤ k_) := of_decide_eq_false cx2_
        have pb9_ := pt_b (k_ := k_) hI_ gr9_ pw9_ (by omega) (by omega)
        refine sm_T_go 4 (c1 := (102, [some (.inr (.inr (some (13, 0)))), some (.inl net_), some (.inl de_), none, some (.inl b_), some (.inl k_), none], [.inl k_, .inr (.inr (some (244, 0))), .inr (.inr (some (13, 0)))], S_)) rfl ?_
        refine sm_T_iald (n := 700) rfl rfl (by omega) (by omega) ?_
        have bx3_ : 0 ≤ S_.2.2.1 244 0 k_.toNat ∧ S_.2.2.1 244 0 k_.toNat ≤ 200 := hI_.2 244 0 _
        refine sm_T_go 3 (c1 := (109, [some (.inr (.inr (some (13, 0)))), some (.inl net_), some (.inl de_), none, some (.inl b_), some (.inl k_), none], [.inl k_, .inr (.inr (some (245, 0))), .inl (S_.2.2.1 244 0 k_.toNat), .inr (.inr (some (13, 0)))], S_)) rfl ?_
        refine sm_T_iald (n := 700) rfl rfl (by omega) (by omega) ?_
        have bx4_ : 0 ≤ S_.2.2.1 245 0 k_.toNat ∧ S_.2.2.1 245 0 k_.toNat ≤ 40 := hI_.2 245 0 _
        refine sm_T_cal (d1 := 0) (Q1 := vq_452 (S_.2.2.1 244 0 k_.toNat) (S_.2.2.1 245 0 k_.toNat) S_) rfl rfl (by decide) (vc_452 (S_.2.2.1 244 0 k_.toNat) (S_.2.2.1 245 0 k_.toNat) S_ hI_ (by omega) (by omega)) (fun u_ Sx5_ px8_ => ?_)
        obtain ⟨rfl, vx10_, rfl, px8_⟩ := px8_
        have e110_ := px8_
        have t110_ : vx10_ = ptf S_ k_ := e110_
        refine sm_T_go 4 (c1 := (121, [some (.inr (.inr (some (13, 0)))), some (.inl net_), some (.inl de_), none, some (.inl b_), some (.inl k_), some (.inl vx10_)], [.inl k_, .inr (.inr (some (243, 0)))], S_)) rfl ?_
        refine sm_T_iald (n := 700) rfl rfl (by omega) (by omega) ?_
        have bx11_ : 0 ≤ S_.2.2.1 243 0 k_.toNat ∧ S_.2.2.1 243 0 k_.toNat ≤ 161 := hI_.2 243 0 _
        refine sm_T_go 1 (c1 := (123, [some (.inr (.inr (some (13, 0)))), some (.inl net_), some (.inl de_), none, some (.inl b_), some (.inl k_), some (.inl vx10_)], [.inl net_, .inl (S_.2.2.1 243 0 k_.toNat)], S_)) rfl ?_
        refine sm_T_br (a := 1) (z := 81) rfl (fun cx12_ => ?_) (fun cx12_ => ?_)
        · have cx12_ : (S_.2.2.1 243 0 k_.toNat) ≠ net_ := of_decide_eq_true cx12_
          refine sm_T_inc (a := 5) (z := 1) (v := k_) (w := k_ + 1) rfl rfl (by omega) (by omega) (by omega) ?_ -- pc_ 204
          refine sm_T_go 1 (c1 := (86, [some (.inr (.inr (some (13, 0)))), some (.inl net_), some (.inl de_), none, some (.inl b_), some (.inl (k_ + 1)), some (.inl vx10_)], [], S_)) rfl ?_
          refine sm_T_wk [some (.inr (.inr (some (13, 0)))), some (.inl net_), some (.inl de_), none, some (.inl b_), some (.inl (k_ + 1)), none] (by exact ⟨rfl, rfl, rfl, rfl, rfl, trivial⟩) ?_
          refine ih_.2 b_ (k_ + 1) S_ hI_ hF_ ⟨?_, ?_, ?_, ?_, ?_, trivial⟩ ?_
          · omega
          · first | exact hb_ | (right; rw [t110_] at *; exact ⟨by omega, by omega, by omega⟩)
          · first | exact hk_ | (right; exact ⟨k_, by omega, by omega, by omega, t110_.symm⟩)
          · exact hD_
          · exact hE_
          · omega
        · have cx12_ : ¬ ((S_.2.2.1 243 0 k_.toNat) ≠ net_) := of_decide_eq_false cx12_
          refine sm_T_go 2 (c1 := (129, [some (.inr (.inr (some (13, 0)))), some (.inl net_), some (.inl de_), none, some (.inl b_), some (.inl k_), some (.inl vx10_)], [.inl vx10_, .inr (.inr (some (13, 0)))], S_)) rfl ?_
          refine sm_T_cal (d1 := 0) (Q1 := vq_454 vx10_ S_) rfl rfl (by decide) (vc_454 vx10_ S_ hI_ (by omega)) (fun u_ Sx13_ px16_ => ?_)
          obtain ⟨rfl, vx18_, rfl, px16_⟩ := px16_
          have e129_ := px16_
          rw [t110_] at e129_
          refine sm_T_go 1 (c1 := (133, [some (.inr (.inr (some (13, 0)))), some (.inl net_), some (.inl de_), none, some (.inl b_), some (.inl k_), some (.inl vx10_)], [.inl net_, .inl vx18_], S_)) rfl ?_
          refine sm_T_br (a := 0) (z := 71) rfl (fun cx19_ => ?_) (fun cx19_ => ?_)
          · have cx19_ : vx18_ = net_ := of_decide_eq_true cx19_
            refine sm_T_inc (a := 5) (z := 1) (v := k_) (w := k_ + 1) rfl rfl (by omega) (by omega) (by omega) ?_ -- pc_ 204
            refine sm_T_go 1 (c1 := (86, [some (.inr (.inr (some (13, 0)))), some (.inl net_), some (.inl de_), none, some (.inl b_), some (.inl (k_ + 1)), some (.inl vx10_)], [], S_)) rfl ?_
            refine sm_T_wk [some (.inr (.inr (some (13, 0)))), some (.inl net_), some (.inl de_), none, some (.inl b_), some (.inl (k_ + 1)), none] (by exact ⟨rfl, rfl, rfl, rfl, rfl, trivial⟩) ?_
            refine ih_.2 b_ (k_ + 1) S_ hI_ hF_ ⟨?_, ?_, ?_, ?_, ?_, trivial⟩ ?_
            · omega
            · first | exact hb_ | (right; rw [t110_] at *; exact ⟨by omega, by omega, by omega⟩)
            · first | exact hk_ | (right; exact ⟨k_, by omega, by omega, by omega, t110_.symm⟩)
            · exact hD_
            · exact hE_
            · omega
          · have cx19_ : ¬ (vx18_ = net_) := of_decide_eq_false cx19_
            refine sm_T_go 3 (c1 := (142, [some (.inr (.inr (some (13, 0)))), some (.inl net_), some (.inl de_), none, some (.inl b_), some (.inl k_), some (.inl vx10_)], [.inl vx10_, .inr (.inr (some (258, 0)))], S_)) rfl ?_
            refine sm_T_iald (n := 4712) rfl rfl (by omega) (by omega) ?_
            have bx20_ : 0 ≤ S_.2.2.1 258 0 vx10_.toNat ∧ S_.2.2.1 258 0 vx10_.toNat ≤ 1000000000 := hI_.2 258 0 _
            refine sm_T_nt (u := some (.inl 1000000000)) (S1 := S_) rfl rfl rfl ?_
            refine sm_T_br (a := 3) (z := 58) rfl (fun cx21_ => ?_) (fun cx21_ => ?_)
            · have cx21_ : 1000000000 ≤ (S_.2.2.1 258 0 vx10_.toNat) := of_decide_eq_true cx21_
              refine sm_T_inc (a := 5) (z := 1) (v := k_) (w := k_ + 1) rfl rfl (by omega) (by omega) (by omega) ?_ -- pc_ 204
              refine sm_T_go 1 (c1 := (86, [some (.inr (.inr (some (13, 0)))), some (.inl net_), some (.inl de_), none, some (.inl b_), some (.inl (k_ + 1)), some (.inl vx10_)], [], S_)) rfl ?_
              refine sm_T_wk [some (.inr (.inr (some (13, 0)))), some (.inl net_), some (.inl de_), none, some (.inl b_), some (.inl (k_ + 1)), none] (by exact ⟨rfl, rfl, rfl, rfl, rfl, trivial⟩) ?_
              refine ih_.2 b_ (k_ + 1) S_ hI_ hF_ ⟨?_, ?_, ?_, ?_, ?_, trivial⟩ ?_
              · omega
              · first | exact hb_ | (right; rw [t110_] at *; exact ⟨by omega, by omega, by omega⟩)
              · first | exact hk_ | (right; exact ⟨k_, by omega, by omega, by omega, t110_.symm⟩)
              · exact hD_
              · exact hE_
              · omega
            · have cx21_ : ¬ (1000000000 ≤ (S_.2.2.1 258 0 vx10_.toNat)) := of_decide_eq_false cx21_
              refine sm_T_go 1 (c1 := (151, [some (.inr (.inr (some (13, 0)))), some (.inl net_), some (.inl de_), none, some (.inl b_), some (.inl k_), some (.inl vx10_)], [.inl b_], S_)) rfl ?_
              refine sm_T_b0 (a := 2) (z := 44) rfl (fun cx22_ => ?_) (fun cx22_ => ?_)
              · have cx22_ : b_ < 0 := of_decide_eq_true cx22_
                refine sm_T_go 3 (c1 := (204, [some (.inr (.inr (some (13, 0)))), some (.inl net_), some (.inl de_), none, some (.inl vx10_), some (.inl k_), some (.inl vx10_)], [], S_)) rfl ?_
                refine sm_T_inc (a := 5) (z := 1) (v := k_) (w := k_ + 1) rfl rfl (by omega) (by omega) (by omega) ?_ -- pc_ 204
                refine sm_T_go 1 (c1 := (86, [some (.inr (.inr (some (13, 0)))), some (.inl net_), some (.inl de_), none, some (.inl vx10_), some (.inl (k_ + 1)), some (.inl vx10_)], [], S_)) rfl ?_
                refine sm_T_wk [some (.inr (.inr (some (13, 0)))), some (.inl net_), some (.inl de_), none, some (.inl vx10_), some (.inl (k_ + 1)), none] (by exact ⟨rfl, rfl, rfl, rfl, rfl, trivial⟩) ?_
                refine ih_.2 vx10_ (k_ + 1) S_ hI_ hF_ ⟨?_, ?_, ?_, ?_, ?_, trivial⟩ ?_
                · omega
                · first | exact hb_ | (right; rw [t110_] at *; exact ⟨by omega, by omega, by omega⟩)
                · first | exact hk_ | (right; exact ⟨k_, by omega, by omega, by omega, t110_.symm⟩)
                · exact hD_
                · exact hE_
                · omega
              · have cx22_ : ¬ (b_ < 0) := of_decide_eq_false cx22_
                refine sm_T_go 3 (c1 := (160, [some (.inr (.inr (some (13, 0)))), some (.inl net_), some (.inl de_), none, some (.inl b_), some (.inl k_), some (.inl vx10_)], [.inl vx10_, .inr (.inr (some (258, 0)))], S_)) rfl ?_
                refine sm_T_iald (n := 4712) rfl rfl (by omega) (by omega) ?_
                refine sm_T_go 3 (c1 := (167, [some (.inr (.inr (some (13, 0)))), some (.inl net_), some (.inl de_), none, some (.inl b_), some (.inl k_), some (.inl vx10_)], [.inl b_, .inr (.inr (some (258, 0))), .inl (S_.2.2.1 258 0 vx10_.toNat)], S_)) rfl ?_
                refine sm_T_iald (n := 4712) rfl rfl (by omega) (by omega) ?_
                have bx23_ : 0 ≤ S_.2.2.1 258 0 b_.toNat ∧ S_.2.2.1 258 0 b_.toNat ≤ 1000000000 := hI_.2 258 0 _
                refine sm_T_br (a := 2) (z := 27) rfl (fun cx24_ => ?_) (fun cx24_ => ?_)
                · have cx24_ : (S_.2.2.1 258 0 vx10_.toNat) < (S_.2.2.1 258 0 b_.toNat) := of_decide_eq_true cx24_
                  refine sm_T_go 3 (c1 := (204, [some (.inr (.inr (some (13, 0)))), some (.inl net_), some (.inl de_), none, some (.inl vx10_), some (.inl k_), some (.inl vx10_)], [], S_)) rfl ?_
                  refine sm_T_inc (a := 5) (z := 1) (v := k_) (w := k_ + 1) rfl rfl (by omega) (by omega) (by omega) ?_ -- pc_ 204
                  refine sm_T_go 1 (c1 := (86, [some (.inr (.inr (some (13, 0)))), some (.inl net_), some (.inl de_), none, some (.inl vx10_), some (.inl (k_ + 1)), some (.inl vx10_)], [], S_)) rfl ?_
                  refine sm_T_wk [some (.inr (.inr (some (13, 0)))), some (.inl net_), some (.inl de_), none, some (.inl vx10_), some (.inl (k_ + 1)), none] (by exact ⟨rfl, rfl, rfl, rfl, rfl, trivial⟩) ?_
                  refine ih_.2 vx10_ (k_ + 1) S_ hI_ hF_ ⟨?_, ?_, ?_, ?_, ?_, trivial⟩ ?_
                  · omega
                  · first | exact hb_ | (right; rw [t110_] at *; exact ⟨by omega, by omega, by omega⟩)
                  · first | exact hk_ | (right; exact ⟨k_, by omega, by omega, by omega, t110_.symm⟩)
                  · exact hD_
                  · exact hE_
                  · omega
                · have cx24_ : ¬ ((S_.2.2.1 258 0 vx10_.toNat) < (S_.2.2.1 258 0 b_.toNat)) := of_decide_eq_false cx24_
                  refine sm_T_go 3 (c1 := (177, [some (.inr (.inr (some (13, 0)))), some (.inl net_), some (.inl de_), none, some (.inl b_), some (.inl k_), some (.inl vx10_)], [.inl vx10_, .inr (.inr (some (258, 0)))], S_)) rfl ?_
                  refine sm_T_iald (n := 4712) rfl rfl (by omega) (by omega) ?_
                  refine sm_T_go 3 (c1 := (184, [some (.inr (.inr (some (13, 0)))), some (.inl net_), some (.inl de_), none, some (.inl b_), some (.inl k_), some (.inl vx10_)], [.inl b_, .inr (.inr (some (258, 0))), .inl (S_.2.2.1 258 0 vx10_.toNat)], S_)) rfl ?_
                  refine sm_T_iald (n := 4712) rfl rfl (by omega) (by omega) ?_
                  refine sm_T_br (a := 1) (z := 15) rfl (fun cx25_ => ?_) (fun cx25_ => ?_)
                  · have cx25_ : (S_.2.2.1 258 0 vx10_.toNat) ≠ (S_.2.2.1 258 0 b_.toNat) := of_decide_eq_true cx25_
                    refine sm_T_go 2 (c1 := (204, [some (.inr (.inr (some (13, 0)))), some (.inl net_), some (.inl de_), none, some (.inl b_), some (.inl k_), some (.inl vx10_)], [], S_)) rfl ?_
                    refine sm_T_inc (a := 5) (z := 1) (v := k_) (w := k_ + 1) rfl rfl (by omega) (by omega) (by omega) ?_ -- pc_ 204
                    refine sm_T_go 1 (c1 := (86, [some (.inr (.inr (some (13, 0)))), some (.inl net_), some (.inl de_), none, some (.inl b_), some (.inl (k_ + 1)), some (.inl vx10_)], [], S_)) rfl ?_
                    refine sm_T_wk [some (.inr (.inr (some (13, 0)))), some (.inl net_), some (.inl de_), none, some (.inl b_), some (.inl (k_ + 1)), none] (by exact ⟨rfl, rfl, rfl, rfl, rfl, trivial⟩) ?_
                    refine ih_.2 b_ (k_ + 1) S_ hI_ hF_ ⟨?_, ?_, ?_, ?_, ?_, trivial⟩ ?_
                    · omega
                    · first | exact hb_ | (right; rw [t110_] at *; exact ⟨by omega, by omega, by omega⟩)
                    · first | exact hk_ | (right; exact ⟨k_, by omega, by omega, by omega, t110_.symm⟩)
                    · exact hD_
                    · exact hE_
                    · omega
                  · have cx25_ : ¬ ((S_.2.2.1 258 0 vx10_.toNat) ≠ (S_.2.2.1 258 0 b_.toNat)) := of_decide_eq_false cx25_
                    refine sm_T_go 2 (c1 := (192, [some (.inr (.inr (some (13, 0)))), some (.inl net_), some (.inl de_), none, some (.inl b_), some (.inl k_), some (.inl vx10_)], [.inl b_, .inl vx10_], S_)) rfl ?_
                    refine sm_T_br (a := 3) (z := 8) rfl (fun cx26_ => ?_) (fun cx26_ => ?_)
                    · have cx26_ : b_ ≤ vx10_ := of_decide_eq_true cx26_
                      refine sm_T_go 2 (c1 := (204, [some (.inr (.inr (some (13, 0)))), some (.inl net_), some (.inl de_), none, some (.inl b_), some (.inl k_), some (.inl vx10_)], [], S_)) rfl ?_
                      refine sm_T_inc (a := 5) (z := 1) (v := k_) (w := k_ + 1) rfl rfl (by omega) (by omega) (by omega) ?_ -- pc_ 204
                      refine sm_T_go 1 (c1 := (86, [some (.inr (.inr (some (13, 0)))), some (.inl net_), some (.inl de_), none, some (.inl b_), some (.inl (k_ + 1)), some (.inl vx10_)], [], S_)) rfl ?_
                      refine sm_T_wk [some (.inr (.inr (some (13, 0)))), some (.inl net_), some (.inl de_), none, some (.inl b_), some (.inl (k_ + 1)), none] (by exact ⟨rfl, rfl, rfl, rfl, rfl, trivial⟩) ?_
                      refine ih_.2 b_ (k_ + 1) S_ hI_ hF_ ⟨?_, ?_, ?_, ?_, ?_, trivial⟩ ?_
                      · omega
                      · first | exact hb_ | (right; rw [t110_] at *; exact ⟨by omega, by omega, by omega⟩)
                      · first | exact hk_ | (right; exact ⟨k_, by omega, by omega, by omega, t110_.symm⟩)
                      · exact hD_
                      · exact hE_
                      · omega
                    · have cx26_ : ¬ (b_ ≤ vx10_) := of_decide_eq_false cx26_
                      refine sm_T_go 3 (c1 := (204, [some (.inr (.inr (some (13, 0)))), some (.inl net_), some (.inl de_), none, some (.inl vx10_), some (.inl k_), some (.inl vx10_)], [], S_)) rfl ?_
                      refine sm_T_inc (a := 5) (z := 1) (v := k_) (w := k_ + 1) rfl rfl (by omega) (by omega) (by omega) ?_ -- pc_ 204
                      refine sm_T_go 1 (c1 := (86, [some (.inr (.inr (some (13, 0)))), some (.inl net_), some (.inl de_), none, some (.inl vx10_), some (.inl (k_ + 1)), some (.inl vx10_)], [], S_)) rfl ?_
                      refine sm_T_wk [some (.inr (.inr (some (13, 0)))), some (.inl net_), some (.inl de_), none, some (.inl vx10_), some (.inl (k_ + 1)), none] (by exact ⟨rfl, rfl, rfl, rfl, rfl, trivial⟩) ?_
                      refine ih_.2 vx10_ (k_ + 1) S_ hI_ hF_ ⟨?_, ?_, ?_, ?_, ?_, trivial⟩ ?_
                      · omega
                      · first | exact hb_ | (right; rw [t110_] at *; exact ⟨by omega, by omega, by omega⟩)
                      · first | exact hk_ | (right; exact ⟨k_, by omega, by omega, by omega, t110_.symm⟩)
                      · exact hD_
                      · exact hE_
                      · omega
set_option maxHeartbeats 2000000 in
set_option maxRecDepth 20000 in
theorem vc_459 {sc_ : Nat × (Nat → Int)} (net_ : Int) (de_ : Int) (S0_ : sm_S) (hI_ : gi S0_) (hgr_ : grd S0_) (hn_ : 0 ≤ net_ ∧ net_ ≤ 161) (hde_ : 0 ≤ de_ ∧ de_ ≤ 1) (hpw_ : pnw S0_) : sm_T (mt_P sc_) 3 459 (0, [some (.inr (.inr (some (13, 0)))), some (.inl net_), some (.inl de_), none, none, none, none], [], S0_) (fun ro9_ => ∃ u_ S1_, ro9_ = (.inl u_, S1_, 0) ∧ vq_459 net_ de_ S0_ u_ S1_) := by
  have hF_ : ai_fr (sx_W vw_459) S0_ S0_ := ai_fr_rf
  refine sm_T_go 4 (c1 := (5, [some (.inr (.inr (some (13, 0)))), some (.inl net_), some (.inl de_), some (.inl 0), some (.inl 0), none, none], [], S0_)) rfl ?_
  refine (vl_459 net_ de_ S0_ hgr_ hn_ hde_ hpw_ _).1 0 0 S0_ hI_ hF_ ⟨?_, trivial⟩ (Nat.lt_succ_self _)
  · omega
/-! M_.step -/
def vw_457 : sx_Wl := ([], [253, 254, 255], [])
def vq_457 (p_ : Int) (q_ : Int) (S0_ : sm_S) (u_ : Option sm_V) (S1_ : sm_S) : Prop := u_ = none ∧ gi S1_ ∧ ai_fr (sx_W vw_457) S0_ S1_ ∧ (True)
set_option maxHeartbeats 400000 in
set_option maxRecDepth 20000 in
theorem vc_457 {sc_ : Nat × (Nat → Int)} (p_ : Int) (q_ : Int) (S0_ : sm_S) (hI_ : gi S0_) (hp_ : 0 ≤ p_ ∧ p_ ≤ 4711) (hq_ : 0 ≤ q_ ∧ q_ ≤ 4711) : sm_T (mt_P sc_) 0 457 (0, [some (.inr (.inr (some (13, 0)))), some (.inl p_), some (.inl q_), none, none], [], S0_) (fun ro9_ => ∃ u_ S1_, ro9_ = (.inl u_, S1_, 0) ∧ vq_457 p_ q_ S0_ u_ S1_) := by
  have hF_ : ai_fr (sx_W vw_457) S0_ S0_ := ai_fr_rf
  have bx1_ : 0 ≤ S0_.1 13 0 177 ∧ S0_.1 13 0 177 ≤ 3 := hI_.1 13 0 177 rfl
  refine sm_T_go 3 (c1 := (7, [some (.inr (.inr (some (13, 0)))), some (.inl p_), some (.inl q_), none, none], [.inl (S0_.1 13 0 177), .inl 4712], S0_)) rfl ?_
  refine sm_T_bin (w := 4712 * (S0_.1 13 0 177)) rfl (bi_mul (by omega) (by omega) (by omega)) ?_ -- pc_ 7
  refine sm_T_go 2 (c1 := (10, [some (.inr (.inr (some (13, 0)))), some (.inl p_), some (.inl q_), none, none], [.inl q_, .inl p_, .inl (4712 * (S0_.1 13 0 177))], S0_)) rfl ?_
  refine sm_T_br (a := 3) (z := 7) rfl (fun cx2_ => ?_) (fun cx2_ => ?_)
  · have cx2_ : q_ ≤ p_ := of_decide_eq_true cx2_
    refine sm_T_go 1 (c1 := (18, [some (.inr (.inr (some (13, 0)))), some (.inl p_), some (.inl q_), none, none], [.inl q_, .inl (4712 * (S0_.1 13 0 177))], S0_)) rfl ?_
    refine sm_T_bin (w := 4712 * (S0_.1 13 0 177) + q_) rfl (bi_add (by omega) (by omega) (by omega)) ?_ -- pc_ 18
    refine sm_T_go 3 (c1 := (22, [some (.inr (.inr (some (13, 0)))), some (.inl p_), some (.inl q_), some (.inl (4712 * (S0_.1 13 0 177) + q_)), none], [.inl q_, .inl p_], S0_)) rfl ?_
    refine sm_T_br (a := 3) (z := 9) rfl (fun cx3_ => ?_) (fun cx3_ => ?_)
    · have cx3_ : q_ ≤ p_ := of_decide_eq_true cx3_
      refine sm_T_go 2 (c1 := (33, [some (.inr (.inr (some (13, 0)))), some (.inl p_), some (.inl q_), some (.inl (4712 * (S0_.1 13 0 177) + q_)), none], [.inl q_, .inl p_], S0_)) rfl ?_
      refine sm_T_bin (w := p_ - q_) rfl (bi_sub (by omega) (by omega) (by omega)) ?_ -- pc_ 33
      have bx4_ : 0 ≤ S0_.1 13 0 174 ∧ S0_.1 13 0 174 ≤ 62 := hI_.1 13 0 174 rfl
      have bx5_ : 0 ≤ S0_.1 13 0 175 ∧ S0_.1 13 0 175 ≤ 38 := hI_.1 13 0 175 rfl
      refine sm_T_go 6 (c1 := (46, [some (.inr (.inr (some (13, 0)))), some (.inl p_), some (.inl q_), some (.inl (4712 * (S0_.1 13 0 177) + q_)), some (.inl (p_ - q_))], [.inl (S0_.1 13 0 175), .inl (S0_.1 13 0 174), .inl (p_ - q_)], S0_)) rfl ?_
      have bx6_ := mul_b (x_ := (S0_.1 13 0 174)) (y_ := (S0_.1 13 0 175)) (X_ := 62) (Y_ := 38) (Z_ := 2356) (by omega) (by omega) (by decide)
      refine sm_T_bin (w := ((S0_.1 13 0 174) * (S0_.1 13 0 175))) rfl (bi_mul rfl (by omega) (by omega)) ?_ -- pc_ 46
      refine sm_T_br (a := 1) (z := 13) rfl (fun cx7_ => ?_) (fun cx7_ => ?_)
      · have cx7_ : p_ - q_ ≠ ((S0_.1 13 0 174) * (S0_.1 13 0 175)) := of_decide_eq_true cx7_
        refine sm_T_go 2 (c1 := (63, [some (.inr (.inr (some (13, 0)))), some (.inl p_), some (.inl q_), some (.inl (4712 * (S0_.1 13 0 177) + q_)), some (.inl (p_ - q_))], [.inl 1, .inl (p_ - q_)], S0_)) rfl ?_
        refine sm_T_br (a := 1) (z := 13) rfl (fun cx8_ => ?_) (fun cx8_ => ?_)
        · have cx8_ : p_ - q_ ≠ 1 := of_decide_eq_true cx8_
          refine sm_T_go 4 (c1 := (82, [some (.inr (.inr (some (13, 0)))), some (.inl p_), some (.inl q_), some (.inl (4712 * (S0_.1 13 0 177) + q_)), some (.inl (p_ - q_))], [.inl 1, .inl (4712 * (S0_.1 13 0 177) + q_), .inr (.inr (some (254, 0)))], S0_)) rfl ?_
          refine sm_T_zas1 (n := 18848) rfl rfl (by omega) (by omega) (by omega) ?_
          have hIx9_ : gi (sm_aI S0_ 254 0 (4712 * (S0_.1 13 0 177) + q_).toNat 1) := gi_aI hI_ (show 0 ≤ 1 ∧ 1 ≤ 1 from ⟨by omega, by omega⟩)
          have hFx10_ : ai_fr (sx_W vw_457) S0_ (sm_aI S0_ 254 0 (4712 * (S0_.1 13 0 177) + q_).toNat 1) := ai_fr_tr hF_ (ai_fr_aI rfl)
          refine sm_T_rv rfl ⟨_, _, rfl, rfl, hIx9_, hFx10_, ?_⟩
          trivial
        · have cx8_ : ¬ (p_ - q_ ≠ 1) := of_decide_eq_false cx8_
          refine sm_T_go 4 (c1 := (72, [some (.inr (.inr (some (13, 0)))), some (.inl p_), some (.inl q_), some (.inl (4712 * (S0_.1 13 0 177) + q_)), some (.inl (p_ - q_))], [.inl 1, .inl (4712 * (S0_.1 13 0 177) + q_), .inr (.inr (some (253, 0)))], S0_)) rfl ?_
          refine sm_T_zas1 (n := 18848) rfl rfl (by omega) (by omega) (by omega) ?_
          have hIx11_ : gi (sm_aI S0_ 253 0 (4712 * (S0_.1 13 0 177) + q_).toNat 1) := gi_aI hI_ (show 0 ≤ 1 ∧ 1 ≤ 1 from ⟨by omega, by omega⟩)
          have hFx12_ : ai_fr (sx_W vw_457) S0_ (sm_aI S0_ 253 0 (4712 * (S0_.1 13 0 177) + q_).toNat 1) := ai_fr_tr hF_ (ai_fr_aI rfl)
          refine sm_T_go 1 (c1 := (83, [some (.inr (.inr (some (13, 0)))), some (.inl p_), some (.inl q_), some (.inl (4712 * (S0_.1 13 0 177) + q_)), some (.inl (p_ - q_))], [], sm_aI S0_ 253 0 (4712 * (S0_.1 13 0 177) + q_).toNat 1)) rfl ?_
          refine sm_T_rv rfl ⟨_, _, rfl, rfl, hIx11_, hFx12_, ?_⟩
          trivial
      · have cx7_ : ¬ (p_ - q_ ≠ ((S0_.1 13 0 174) * (S0_.1 13 0 175))) := of_decide_eq_false cx7_
        refine sm_T_go 4 (c1 := (56, [some (.inr (.inr (some (13, 0)))), some (.inl p_), some (.inl q_), some (.inl (4712 * (S0_.1 13 0 177) + q_)), some (.inl (p_ - q_))], [.inl 1, .inl (4712 * (S0_.1 13 0 177) + q_), .inr (.inr (some (255, 0)))], S0_)) rfl ?_
        refine sm_T_zas1 (n := 18848) rfl rfl (by omega) (by omega) (by omega) ?_
        have hIx13_ : gi (sm_aI S0_ 255 0 (4712 * (S0_.1 13 0 177) + q_).toNat 1) := gi_aI hI_ (show 0 ≤ 1 ∧ 1 ≤ 1 from ⟨by omega, by omega⟩)
        have hFx14_ : ai_fr (sx_W vw_457) S0_ (sm_aI S0_ 255 0 (4712 * (S0_.1 13 0 177) + q_).toNat 1) := ai_fr_tr hF_ (ai_fr_aI rfl)
        refine sm_T_go 1 (c1 := (83, [some (.inr (.inr (some (13, 0)))), some (.inl p_), some (.inl q_), some (.inl (4712 * (S0_.1 13 0 177) + q_)), some (.inl (p_ - q_))], [], sm_aI S0_ 255 0 (4712 * (S0_.1 13 0 177) + q_).toNat 1)) rfl ?_
        refine sm_T_rv rfl ⟨_, _, rfl, rfl, hIx13_, hFx14_, ?_⟩
        trivial
    · have cx3_ : ¬ (q_ ≤ p_) := of_decide_eq_false cx3_
      exfalso; omega
  · have cx2_ : ¬ (q_ ≤ p_) := of_decide_eq_false cx2_
    refine sm_T_go 2 (c1 := (18, [some (.inr (.inr (some (13, 0)))), some (.inl p_), some (.inl q_), none, none], [.inl p_, .inl (4712 * (S0_.1 13 0 177))], S0_)) rfl ?_
    refine sm_T_bin (w := 4712 * (S0_.1 13 0 177) + p_) rfl (bi_add (by omega) (by omega) (by omega)) ?_ -- pc_ 18
    refine sm_T_go 3 (c1 := (22, [some (.inr (.inr (some (13, 0)))), some (.inl p_), some (.inl q_), some (.inl (4712 * (S0_.1 13 0 177) + p_)), none], [.inl q_, .inl p_], S0_)) rfl ?_
    refine sm_T_br (a := 3) (z := 9) rfl (fun cx15_ => ?_) (fun cx15_ => ?_)
    · have cx15_ : q_ ≤ p_ := of_decide_eq_true cx15_
      exfalso; omega
    · have cx15_ : ¬ (q_ ≤ p_) := of_decide_eq_false cx15_
      refine sm_T_go 2 (c1 := (27, [some (.inr (.inr (some (13, 0)))), some (.inl p_), some (.inl q_), some (.inl (4712 * (S0_.1 13 0 177) + p_)), none], [.inl p_, .inl q_], S0_)) rfl ?_
      refine sm_T_bin (w := q_ - p_) rfl (bi_sub (by omega) (by omega) (by omega)) ?_ -- pc_ 27
      have bx16_ : 0 ≤ S0_.1 13 0 174 ∧ S0_.1 13 0 174 ≤ 62 := hI_.1 13 0 174 rfl
      have bx17_ : 0 ≤ S0_.1 13 0 175 ∧ S0_.1 13 0 175 ≤ 38 := hI_.1 13 0 175 rfl
      refine sm_T_go 7 (c1 := (46, [some (.inr (.inr (some (13, 0)))), some (.inl p_), some (.inl q_), some (.inl (4712 * (S0_.1 13 0 177) + p_)), some (.inl (q_ - p_))], [.inl (S0_.1 13 0 175), .inl (S0_.1 13 0 174), .inl (q_ - p_)], S0_)) rfl ?_
      have bx18_ := mul_b (x_ := (S0_.1 13 0 174)) (y_ := (S0_.1 13 0 175)) (X_ := 62) (Y_ := 38) (Z_ := 2356) (by omega) (by omega) (by decide)
      refine sm_T_bin (w := ((S0_.1 13 0 174) * (S0_.1 13 0 175))) rfl (bi_mul rfl (by omega) (by omega)) ?_ -- pc_ 46
      refine sm_T_br (a := 1) (z := 13) rfl (fun cx19_ => ?_) (fun cx19_ => ?_)
      · have cx19_ : q_ - p_ ≠ ((S0_.1 13 0 174) * (S0_.1 13 0 175)) := of_decide_eq_true cx19_
        refine sm_T_go 2 (c1 := (63, [some (.inr (.inr (some (13, 0)))), some (.inl p_), some (.inl q_), some (.inl (4712 * (S0_.1 13 0 177) + p_)), some (.inl (q_ - p_))], [.inl 1, .inl (q_ - p_)], S0_)) rfl ?_
        refine sm_T_br (a := 1) (z := 13) rfl (fun cx20_ => ?_) (fun cx20_ => ?_)
        · have cx20_ : q_ - p_ ≠ 1 := of_decide_eq_true cx20_
          refine sm_T_go 4 (c1 := (82, [some (.inr (.inr (some (13, 0)))), some (.inl p_), some (.inl q_), some (.inl (4712 * (S0_.1 13 0 177) + p_)), some (.inl (q_ - p_))], [.inl 1, .inl (4712 * (S0_.1 13 0 177) + p_), .inr (.inr (some (254, 0)))], S0_)) rfl ?_
          refine sm_T_zas1 (n := 18848) rfl rfl (by omega) (by omega) (by omega) ?_
          have hIx21_ : gi (sm_aI S0_ 254 0 (4712 * (S0_.1 13 0 177) + p_).toNat 1) := gi_aI hI_ (show 0 ≤ 1 ∧ 1 ≤ 1 from ⟨by omega, by omega⟩)
          have hFx22_ : ai_fr (sx_W vw_457) S0_ (sm_aI S0_ 254 0 (4712 * (S0_.1 13 0 177) + p_).toNat 1) := ai_fr_tr hF_ (ai_fr_aI rfl)
          refine sm_T_rv rfl ⟨_, _, rfl, rfl, hIx21_, hFx22_, ?_⟩
          trivial
        · have cx20_ : ¬ (q_ - p_ ≠ 1) := of_decide_eq_false cx20_
          refine sm_T_go 4 (c1 := (72, [some (.inr (.inr (some (13, 0)))), some (.inl p_), some (.inl q_), some (.inl (4712 * (S0_.1 13 0 177) + p_)), some (.inl (q_ - p_))], [.inl 1, .inl (4712 * (S0_.1 13 0 177) + p_), .inr (.inr (some (253, 0)))], S0_)) rfl ?_
          refine sm_T_zas1 (n := 18848) rfl rfl (by omega) (by omega) (by omega) ?_
          have hIx23_ : gi (sm_aI S0_ 253 0 (4712 * (S0_.1 13 0 177) + p_).toNat 1) := gi_aI hI_ (show 0 ≤ 1 ∧ 1 ≤ 1 from ⟨by omega, by omega⟩)
          have hFx24_ : ai_fr (sx_W vw_457) S0_ (sm_aI S0_ 253 0 (4712 * (S0_.1 13 0 177) + p_).toNat 1) := ai_fr_tr hF_ (ai_fr_aI rfl)
          refine sm_T_go 1 (c1 := (83, [some (.inr (.inr (some (13, 0)))), some (.inl p_), some (.inl q_), some (.inl (4712 * (S0_.1 13 0 177) + p_)), some (.inl (q_ - p_))], [], sm_aI S0_ 253 0 (4712 * (S0_.1 13 0 177) + p_).toNat 1)) rfl ?_
          refine sm_T_rv rfl ⟨_, _, rfl, rfl, hIx23_, hFx24_, ?_⟩
          trivial
      · have cx19_ : ¬ (q_ - p_ ≠ ((S0_.1 13 0 174) * (S0_.1 13 0 175))) := of_decide_eq_false cx19_
        refine sm_T_go 4 (c1 := (56, [some (.inr (.inr (some (13, 0)))), some (.inl p_), some (.inl q_), some (.inl (4712 * (S0_.1 13 0 177) + p_)), some (.inl (q_ - p_))], [.inl 1, .inl (4712 * (S0_.1 13 0 177) + p_), .inr (.inr (some (255, 0)))], S0_)) rfl ?_
        refine sm_T_zas1 (n := 18848) rfl rfl (by omega) (by omega) (by omega) ?_
        have hIx25_ : gi (sm_aI S0_ 255 0 (4712 * (S0_.1 13 0 177) + p_).toNat 1) := gi_aI hI_ (show 0 ≤ 1 ∧ 1 ≤ 1 from ⟨by omega, by omega⟩)
        have hFx26_ : ai_fr (sx_W vw_457) S0_ (sm_aI S0_ 255 0 (4712 * (S0_.1 13 0 177) + p_).toNat 1) := ai_fr_tr hF_ (ai_fr_aI rfl)
        refine sm_T_go 1 (c1 := (83, [some (.inr (.inr (some (13, 0)))), some (.inl p_), some (.inl q_), some (.inl (4712 * (S0_.1 13 0 177) + p_)), some (.inl (q_ - p_))], [], sm_aI S0_ 255 0 (4712 * (S0_.1 13 0 177) + p_).toNat 1)) rfl ?_
        refine sm_T_rv rfl ⟨_, _, rfl, rfl, hIx25_, hFx26_, ?_⟩
        trivial
/-! M_.rob -/
def vw_458 : sx_Wl := ([], [252, 253, 254, 255, 256], [])
def vq_458 (net_ : Int) (S0_ : sm_S) (u_ : Option sm_V) (S1_ : sm_S) : Prop := u_ = none ∧ gi S1_ ∧ ai_fr (sx_W vw_458) S0_ S1_ ∧ (∀ x9_ : Int, 0 ≤ x9_ → x9_ < S0_.1 13 0 176 → nta S1_ x9_ = if nta S0_ x9_ = net_ then -1 else nta S0_ x9_)
set_option maxHeartbeats 1000000 in
set_option maxRecDepth 20000 in
theorem vl_458 {sc_ : Nat × (Nat → Int)} (net_ : Int) (S0_ : sm_S) (hn_ : 0 ≤ net_ ∧ net_ ≤ 161) : ∀ nn_ : Nat, (∀ (o_ : Int) (p_ : Int) (S_ : sm_S), gi S_ → ai_fr (sx_W vw_458) S0_ S_ → ((0 ≤ p_ ∧ p_ ≤ 4712 ∧ o_ = 4712 * S0_.1 13 0 177) ∧ (∀ x9_ : Int, 0 ≤ x9_ → x9_ < 4712 → nta S_ x9_ = if x9_ < p_ ∧ nta S0_ x9_ = net_ then -1 else nta S0_ x9_) ∧ True) → ((9000 - p_).toNat) < nn_ → sm_T (mt_P sc_) 1 458 (11, [some (.inr (.inr (some (13, 0)))), some (.inl net_), some (.inl o_), some (.inl p_)], [], S_) (fun ro9_ => ∃ u_ S1_, ro9_ = (.inl u_, S1_, 0) ∧ vq_458 net_ S0_ u_ S1_)) := by
  intro nn_
  induction nn_ with
  | zero => exact fun _ _ _ _ _ _ h_ => absurd h_ (Nat.not_lt_zero _)
  | succ nn_ ih_ =>
    rintro o_ p_ S_ hI_ hF_ ⟨h0_, hr_, -⟩ hm_
    have f177_ : S_.1 13 0 177 = S0_.1 13 0 177 := hF_.1 13 0 177 rfl
    have f176_ : S_.1 13 0 176 = S0_.1 13 0 176 := hF_.1 13 0 176 rfl
    have b177_ : 0 ≤ S_.1 13 0 177 ∧ S_.1 13 0 177 ≤ 3 := hI_.1 13 0 177 rfl
    have b176_ : 0 ≤ S_.1 13 0 176 ∧ S_.1 13 0 176 ≤ 4712 := hI_.1 13 0 176 rfl
    have bx1_ : 0 ≤ S_.1 13 0 176 ∧ S_.1 13 0 176 ≤ 4712 := hI_.1 13 0 176 rfl
    refine sm_T_go 3 (c1 := (16, [some (.inr (.inr (some (13, 0)))), some (.inl net_), some (.inl o_), some (.inl p_)], [.inl (S_.1 13 0 176), .inl p_], S_)) rfl ?_
    refine sm_T_br (a := 3) (z := 54) rfl (fun cx2_ => ?_) (fun cx2_ => ?_)
    · have cx2_ : (S_.1 13 0 176) ≤ p_ := of_decide_eq_true cx2_
      have bx3_ : 0 ≤ S_.1 13 0 177 ∧ S_.1 13 0 177 ≤ 3 := hI_.1 13 0 177 rfl
      refine sm_T_go 5 (c1 := (81, [some (.inr (.inr (some (13, 0)))), some (.inl net_), some (.inl o_), some (.inl p_)], [.inl (S_.1 13 0 177), .inl 256, .inr (.inr (some (256, 0)))], S_)) rfl ?_
      refine sm_T_bin (w := 256 * (S_.1 13 0 177)) rfl (bi_mul (by omega) (by omega) (by omega)) ?_ -- pc_ 81
      refine sm_T_go 1 (c1 := (83, [some (.inr (.inr (some (13, 0)))), some (.inl net_), some (.inl o_), some (.inl p_)], [.inl net_, .inl (256 * (S_.1 13 0 177)), .inr (.inr (some (256, 0)))], S_)) rfl ?_
      refine sm_T_bin (w := 256 * (S_.1 13 0 177) + net_) rfl (bi_add (by omega) (by omega) (by omega)) ?_ -- pc_ 83
      refine sm_T_go 1 (c1 := (85, [some (.inr (.inr (some (13, 0)))), some (.inl net_), some (.inl o_), some (.inl p_)], [.inl 1, .inl (256 * (S_.1 13 0 177) + net_), .inr (.inr (some (256, 0)))], S_)) rfl ?_
      refine sm_T_zas1 (n := 1024) rfl rfl (by omega) (by omega) (by omega) ?_
      have hIx4_ : gi (sm_aI S_ 256 0 (256 * (S_.1 13 0 177) + net_).toNat 1) := gi_aI hI_ (show 0 ≤ 1 ∧ 1 ≤ 1 from ⟨by omega, by omega⟩)
      have hFx5_ : ai_fr (sx_W vw_458) S0_ (sm_aI S_ 256 0 (256 * (S_.1 13 0 177) + net_).toNat 1) := ai_fr_tr hF_ (ai_fr_aI rfl)
      refine sm_T_rv rfl ⟨_, _, rfl, rfl, hIx4_, hFx5_, ?_⟩
      intro x9_ u0_ u1_
      have w9_ := hr_ x9_ u0_ (by omega)
      have e9_ : nta ((sm_aI S_ 256 0 (256 * (S_.1 13 0 177) + net_).toNat 1)) x9_ = nta S_ x9_ := by (unfold nta; (try simp only [rd_eq, rd_ne, rf_eq, rf_nk, rf_nt, rd_fa, rd_af, rd_fl, rd_al, rd_lf, rd_la, rd_leq, rd_lne, rd_fr, rd_ar, ne_eq, Nat.reduceEqDiff, not_false_eq_true]))
      rw [e9_, w9_]
      by_cases z9_ : nta S0_ x9_ = net_
      · rw [if_pos ⟨by omega, z9_⟩, if_pos z9_]
      · rw [if_neg (fun q9_ => z9_ q9_.2), if_neg z9_]
    · have cx2_ : ¬ ((S_.1 13 0 176) ≤ p_) := of_decide_eq_false cx2_
      refine sm_T_go 2 (c1 := (21, [some (.inr (.inr (some (13, 0)))), some (.inl net_), some (.inl o_), some (.inl p_)], [.inl p_, .inr (.inr (some (13, 0)))], S_)) rfl ?_
      refine sm_T_cal (d1 := 0) (Q1 := vq_454 p_ S_) rfl rfl (by decide) (vc_454 p_ S_ hI_ (by omega)) (fun u_ Sx6_ px9_ => ?_)
      obtain ⟨rfl, vx11_, rfl, px9_⟩ := px9_
      have e21_ := px9_
      refine sm_T_go 1 (c1 := (25, [some (.inr (.inr (some (13, 0)))), some (.inl net_), some (.inl o_), some (.inl p_)], [.inl net_, .inl vx11_], S_)) rfl ?_
      refine sm_T_br (a := 1) (z := 39) rfl (fun cx12_ => ?_) (fun cx12_ => ?_)
      · have cx12_ : vx11_ ≠ net_ := of_decide_eq_true cx12_
        refine sm_T_inc (a := 3) (z := 1) (v := p_) (w := p_ + 1) rfl rfl (by omega) (by omega) (by omega) ?_ -- pc_ 64
        refine sm_T_go 1 (c1 := (11, [some (.inr (.inr (some (13, 0)))), some (.inl net_), some (.inl o_), some (.inl (p_ + 1))], [], S_)) rfl ?_
        refine ih_ o_ (p_ + 1) S_ hI_ hF_ ⟨?_, ?_, trivial⟩ ?_
        · omega
        · intro x9_ u0_ u1_
          have r9_ := hr_ p_ h0_.1 (by omega)
          rw [if_neg (by omega)] at r9_
          rw [hr_ x9_ u0_ u1_]
          by_cases z9_ : x9_ = p_
          · rw [z9_, if_neg (by omega), if_neg (by omega)]
          · by_cases y9_ : x9_ < p_ ∧ nta S0_ x9_ = net_
            · rw [if_pos y9_, if_pos ⟨by omega, y9_.2⟩]
            · rw [if_neg y9_, if_neg (fun w9_ => y9_ ⟨by omega, w9_.2⟩)]
        · omega
      · have cx12_ : ¬ (vx11_ ≠ net_) := of_decide_eq_false cx12_
        refine sm_T_go 4 (c1 := (34, [some (.inr (.inr (some (13, 0)))), some (.inl net_), some (.inl o_), some (.inl p_)], [.inl p_, .inl o_, .inr (.inr (some (252, 0)))], S_)) rfl ?_
        refine sm_T_bin (w := o_ + p_) rfl (bi_add (by omega) (by omega) (by omega)) ?_ -- pc_ 34
        refine sm_T_go 1 (c1 := (36, [some (.inr (.inr (some (13, 0)))), some (.inl net_), some (.inl o_), some (.inl p_)], [.inl (-1), .inl (o_ + p_), .inr (.inr (some (252, 0)))], S_)) rfl ?_
        refine sm_T_iast (n := 18848) rfl rfl (by omega) (by omega) ?_
        have hIx13_ : gi (sm_aI S_ 252 0 (o_ + p_).toNat (-1)) := gi_aI hI_ (show (-1) ≤ (-1) ∧ (-1) ≤ 161 from ⟨by omega, by omega⟩)
        have hFx14_ : ai_fr (sx_W vw_458) S0_ (sm_aI S_ 252 0 (o_ + p_).toNat (-1)) := ai_fr_tr hF_ (ai_fr_aI rfl)
        refine sm_T_go 4 (c1 := (43, [some (.inr (.inr (some (13, 0)))), some (.inl net_), some (.inl o_), some (.inl p_)], [.inl p_, .inl o_, .inr (.inr (some (253, 0)))], sm_aI S_ 252 0 (o_ + p_).toNat (-1))) rfl ?_
        refine sm_T_bin (w := o_ + p_) rfl (bi_add (by omega) (by omega) (by omega)) ?_ -- pc_ 43
        refine sm_T_go 1 (c1 := (45, [some (.inr (.inr (some (13, 0)))), some (.inl net_), some (.inl o_), some (.inl p_)], [.inl 0, .inl (o_ + p_), .inr (.inr (some (253, 0)))], sm_aI S_ 252 0 (o_ + p_).toNat (-1))) rfl ?_
        refine sm_T_zas1 (n := 18848) rfl rfl (by omega) (by omega) (by omega) ?_
        have hIx15_ : gi (sm_aI (sm_aI S_ 252 0 (o_ + p_).toNat (-1)) 253 0 (o_ + p_).toNat 0) := gi_aI hIx13_ (show 0 ≤ 0 ∧ 0 ≤ 1 from ⟨by omega, by omega⟩)
        have hFx16_ : ai_fr (sx_W vw_458) S0_ (sm_aI (sm_aI S_ 252 0 (o_ + p_).toNat (-1)) 253 0 (o_ + p_).toNat 0) := ai_fr_tr hFx14_ (ai_fr_aI rfl)
        refine sm_T_go 4 (c1 := (52, [some (.inr (.inr (some (13, 0)))), some (.inl net_), some (.inl o_), some (.inl p_)], [.inl p_, .inl o_, .inr (.inr (some (254, 0)))], sm_aI (sm_aI S_ 252 0 (o_ + p_).toNat (-1)) 253 0 (o_ + p_).toNat 0)) rfl ?_
        refine sm_T_bin (w := o_ + p_) rfl (bi_add (by omega) (by omega) (by omega)) ?_ -- pc_ 52
        refine sm_T_go 1 (c1 := (54, [some (.inr (.inr (some (13, 0)))), some (.inl net_), some (.inl o_), some (.inl p_)], [.inl 0, .inl (o_ + p_), .inr (.inr (some (254, 0)))], sm_aI (sm_aI S_ 252 0 (o_ + p_).toNat (-1)) 253 0 (o_ + p_).toNat 0)) rfl ?_
        refine sm_T_zas1 (n := 18848) rfl rfl (by omega) (by omega) (by omega) ?_
        have hIx17_ : gi (sm_aI (sm_aI (sm_aI S_ 252 0 (o_ + p_).toNat (-1)) 253 0 (o_ + p_).toNat 0) 254 0 (o_ + p_).toNat 0) := gi_aI hIx15_ (show 0 ≤ 0 ∧ 0 ≤ 1 from ⟨by omega, by omega⟩)
        have hFx18_ : ai_fr (sx_W vw_458) S0_ (sm_aI (sm_aI (sm_aI S_ 252 0 (o_ + p_).toNat (-1)) 253 0 (o_ + p_).toNat 0) 254 0 (o_ + p_).toNat 0) := ai_fr_tr hFx16_ (ai_fr_aI rfl)
        refine sm_T_go 4 (c1 := (61, [some (.inr (.inr (some (13, 0)))), some (.inl net_), some (.inl o_), some (.inl p_)], [.inl p_, .inl o_, .inr (.inr (some (255, 0)))], sm_aI (sm_aI (sm_aI S_ 252 0 (o_ + p_).toNat (-1)) 253 0 (o_ + p_).toNat 0) 254 0 (o_ + p_).toNat 0)) rfl ?_
        refine sm_T_bin (w := o_ + p_) rfl (bi_add (by omega) (by omega) (by omega)) ?_ -- pc_ 61
        refine sm_T_go 1 (c1 := (63, [some (.inr (.inr (some (13, 0)))), some (.inl net_), some (.inl o_), some (.inl p_)], [.inl 0, .inl (o_ + p_), .inr (.inr (some (255, 0)))], sm_aI (sm_aI (sm_aI S_ 252 0 (o_ + p_).toNat (-1)) 253 0 (o_ + p_).toNat 0) 254 0 (o_ + p_).toNat 0)) rfl ?_
        refine sm_T_zas1 (n := 18848) rfl rfl (by omega) (by omega) (by omega) ?_
        have hIx19_ : gi (sm_aI (sm_aI (sm_aI (sm_aI S_ 252 0 (o_ + p_).toNat (-1)) 253 0 (o_ + p_).toNat 0) 254 0 (o_ + p_).toNat 0) 255 0 (o_ + p_).toNat 0) := gi_aI hIx17_ (show 0 ≤ 0 ∧ 0 ≤ 1 from ⟨by omega, by omega⟩)
        have hFx20_ : ai_fr (sx_W vw_458) S0_ (sm_aI (sm_aI (sm_aI (sm_aI S_ 252 0 (o_ + p_).toNat (-1)) 253 0 (o_ + p_).toNat 0) 254 0 (o_ + p_).toNat 0) 255 0 (o_ + p_).toNat 0) := ai_fr_tr hFx18_ (ai_fr_aI rfl)
        refine sm_T_inc (a := 3) (z := 1) (v := p_) (w := p_ + 1) rfl rfl (by omega) (by omega) (by omega) ?_ -- pc_ 64
        refine sm_T_go 1 (c1 := (11, [some (.inr (.inr (some (13, 0)))), some (.inl net_), some (.inl o_), some (.inl (p_ + 1))], [], sm_aI (sm_aI (sm_aI (sm_aI S_ 252 0 (o_ + p_).toNat (-1)) 253 0 (o_ + p_).toNat 0) 254 0 (o_ + p_).toNat 0) 255 0 (o_ + p_).toNat 0)) rfl ?_
        refine ih_ o_ (p_ + 1) (sm_aI (sm_aI (sm_aI (sm_aI S_ 252 0 (o_ + p_).toNat (-1)) 253 0 (o_ + p_).toNat 0) 254 0 (o_ + p_).toNat 0) 255 0 (o_ + p_).toNat 0) hIx19_ hFx20_ ⟨?_, ?_, trivial⟩ ?_
        · omega
        · have n9_ : ∀ x9_ : Int, 0 ≤ x9_ → x9_ < 4712 → nta ((sm_aI (sm_aI (sm_aI (sm_aI S_ 252 0 (o_ + p_).toNat (-1)) 253 0 (o_ + p_).toNat 0) 254 0 (o_ + p_).toNat 0) 255 0 (o_ + p_).toNat 0)) x9_ = if x9_ = p_ then -1 else nta S_ x9_ := fun x9_ u0_ u1_ => by (unfold nta; (try simp only [rd_eq, rd_ne, rf_eq, rf_nk, rf_nt, rd_fa, rd_af, rd_fl, rd_al, rd_lf, rd_la, rd_leq, rd_lne, rd_fr, rd_ar, ne_eq, Nat.reduceEqDiff, not_false_eq_true]); have c9_ : 0 ≤ S_.1 13 0 177 := (hI_.1 13 0 177 rfl).1; by_cases z9_ : x9_ = p_; (rw [if_pos (by omega), if_pos z9_]); (rw [if_neg (by omega), if_neg z9_]))
          intro x9_ u0_ u1_
          have r9_ := hr_ p_ h0_.1 (by omega)
          rw [if_neg (by omega)] at r9_
          rw [n9_ x9_ u0_ u1_]
          by_cases z9_ : x9_ = p_
          · rw [if_pos z9_, z9_, if_pos ⟨by omega, by omega⟩]
          · rw [if_neg z9_, hr_ x9_ u0_ u1_]
            by_cases y9_ : x9_ < p_ ∧ nta S0_ x9_ = net_
            · rw [if_pos y9_, if_pos ⟨by omega, y9_.2⟩]
            · rw [if_neg y9_, if_neg (fun w9_ => y9_ ⟨by omega, w9_.2⟩)]
        · omega
set_option maxHeartbeats 1000000 in
set_option maxRecDepth 20000 in
theorem vc_458 {sc_ : Nat × (Nat → Int)} (net_ : Int) (S0_ : sm_S) (hI_ : gi S0_) (hn_ : 0 ≤ net_ ∧ net_ ≤ 161) : sm_T (mt_P sc_) 1 458 (0, [some (.inr (.inr (some (13, 0)))), some (.inl net_), none, none], [], S0_) (fun ro9_ => ∃ u_ S1_, ro9_ = (.inl u_, S1_, 0) ∧ vq_458 net_ S0_ u_ S1_) := by
  have hF_ : ai_fr (sx_W vw_458) S0_ S0_ := ai_fr_rf
  have bx1_ : 0 ≤ S0_.1 13 0 177 ∧ S0_.1 13 0 177 ≤ 3 := hI_.1 13 0 177 rfl
  refine sm_T_go 3 (c1 := (7, [some (.inr (.inr (some (13, 0)))), some (.inl net_), none, none], [.inl (S0_.1 13 0 177), .inl 4712], S0_)) rfl ?_
  refine sm_T_bin (w := 4712 * (S0_.1 13 0 177)) rfl (bi_mul (by omega) (by omega) (by omega)) ?_ -- pc_ 7
  refine sm_T_go 3 (c1 := (11, [some (.inr (.inr (some (13, 0)))), some (.inl net_), some (.inl (4712 * (S0_.1 13 0 177))), some (.inl 0)], [], S0_)) rfl ?_
  refine (vl_458 net_ S0_ hn_ _) (4712 * (S0_.1 13 0 177)) 0 S0_ hI_ hF_ ⟨?_, ?_, trivial⟩ (Nat.lt_succ_self _)
  · omega
  · (intro x9_ u0_ u1_; rw [if_neg (by omega)])
/-! M_.wayBack -/
def vw_460 : sx_Wl := ([], [261], [])
def vq_460 (pin_ : Int) (net_ : Int) (de_ : Int) (S0_ : sm_S) (u_ : Option sm_V) (S1_ : sm_S) : Prop := ∃ v_ : Int, u_ = some (.inl v_) ∧ gi S1_ ∧ ai_fr (sx_W vw_460) S0_ S1_ ∧ (1 ≤ v_ ∧ v_ < S0_.1 13 0 176 ∧ S1_.2.2.1 261 0 0 = pin_ ∧ ∀ j9_ : Int, 0 ≤ j9_ → j9_ ≤ v_ → 0 ≤ S1_.2.2.1 261 0 j9_.toNat ∧ S1_.2.2.1 261 0 j9_.toNat < S0_.1 13 0 176)
set_option maxHeartbeats 3000000 in
set_option maxRecDepth 20000 in
theorem vl_460 {sc_ : Nat × (Nat → Int)} (pin_ : Int) (net_ : Int) (de_ : Int) (S0_ : sm_S) (hgr_ : grd S0_) (hp_ : 0 ≤ pin_ ∧ pin_ < S0_.1 13 0 176 ∧ S0_.2.2.1 258 0 pin_.toNat < 1000000000 ∧ 0 < S0_.2.2.1 258 0 pin_.toNat) (hE_ : mD2 (S0_.1 13 0 174) (S0_.1 13 0 175) (prS S0_ net_ de_) (S0_.2.2.1 258 0)) : ∀ nn_ : Nat, (∀ (n_ : Int) (p_ : Int) (S_ : sm_S), gi S_ → ai_fr (sx_W vw_460) S0_ S_ → ((0 ≤ p_ ∧ p_ < S0_.1 13 0 176 ∧ 0 ≤ n_ ∧ S0_.2.2.1 258 0 p_.toNat < 1000000000) ∧ (∀ j9_ : Int, 0 ≤ j9_ → j9_ < n_ → 0 ≤ S_.2.2.1 261 0 j9_.toNat ∧ S_.2.2.1 261 0 j9_.toNat < S0_.1 13 0 176) ∧ ((n_ = 0 ∧ p_ = pin_) ∨ (0 < n_ ∧ S_.2.2.1 261 0 0 = pin_)) ∧ (n_ ≤ (cn1 (fro (S0_.2.2.1 258 0) (S0_.2.2.1 258 0 p_.toNat)) (S0_.1 13 0 176).toNat : Int)) ∧ True) → ((10 * S0_.2.2.1 258 0 p_.toNat).toNat) < nn_ → sm_T (mt_P sc_) 2 460 (6, [some (.inr (.inr (some (13, 0)))), some (.inl pin_), some (.inl net_), some (.inl de_), some (.inl n_), some (.inl p_), none, none, none, none], [], S_) (fun ro9_ => ∃ u_ S1_, ro9_ = (.inl u_, S1_, 0) ∧ vq_460 pin_ net_ de_ S0_ u_ S1_)) ∧ (∀ (n_ : Int) (p_ : Int) (bf_ : Int) (to_ : Int) (k_ : Int) (S_ : sm_S), gi S_ → ai_fr (sx_W vw_460) S0_ S_ → ((0 ≤ p_ ∧ p_ < S0_.1 13 0 176 ∧ 1 ≤ n_ ∧ S0_.2.2.1 258 0 p_.toNat < 1000000000 ∧ 0 < S0_.2.2.1 258 0 p_.toNat) ∧ (∀ j9_ : Int, 0 ≤ j9_ → j9_ < n_ → 0 ≤ S_.2.2.1 261 0 j9_.toNat ∧ S_.2.2.1 261 0 j9_.toNat < S0_.1 13 0 176) ∧ (S_.2.2.1 261 0 0 = pin_) ∧ (n_ ≤ (cn1 (fro (S0_.2.2.1 258 0) (S0_.2.2.1 258 0 p_.toNat)) (S0_.1 13 0 176).toNat : Int) + 1) ∧ (bf_ = S0_.2.2.1 258 0 p_.toNat - prS S0_ net_ de_ p_ ∧ 0 < prS S0_ net_ de_ p_ ∧ -1 ≤ k_ ∧ k_ ≤ 4) ∧ ((0 ≤ to_ ∧ to_ < S0_.1 13 0 176 ∧ S0_.2.2.1 258 0 to_.toNat = bf_) ∨ (to_ = -1 ∧ wbx (S0_.1 13 0 174) (S0_.1 13 0 175) (S0_.2.2.1 258 0) p_ bf_ k_)) ∧ True) → ((10 * S0_.2.2.1 258 0 p_.toNat - 5 + k_).toNat) < nn_ → sm_T (mt_P sc_) 2 460 (52, [some (.inr (.inr (some (13, 0)))), some (.inl pin_), some (.inl net_), some (.inl de_), some (.inl n_), some (.inl p_), some (.inl bf_), some (.inl to_), some (.inl k_), none], [], S_) (fun ro9_ => ∃ u_ S1_, ro9_ = (.inl u_, S1_, 0) ∧ vq_460 pin_ net_ de_ S0_ u_ S1_)) := by
  intro nn_
  induction nn_ with
  | zero => exact ⟨fun _ _ _ _ _ _ h_ => absurd h_ (Nat.not_lt_zero _), fun _ _ _ _ _ _ _ _ _ h_ => absurd h_ (Nat.not_lt_zero _)⟩
  | succ nn_ ih_ =>
    refine ⟨?_, ?_⟩
    · rintro n_ p_ S_ hI_ hF_ ⟨h0_, hw_, hf_, hc_, -⟩ hm_
      have x258_ : S_.2.2.1 258 0 p_.toNat = S0_.2.2.1 258 0 p_.toNat := congrFun (fr_arr hF_ rfl) _
      have g174_ : S_.1 13 0 174 = S0_.1 13 0 174 := hF_.1 13 0 174 rfl
      have g175_ : S_.1 13 0 175 = S0_.1 13 0 175 := hF_.1 13 0 175 rfl
      have g176_ : S_.1 13 0 176 = S0_.1 13 0 176 := hF_.1 13 0 176 rfl
      have f258_ : S_.2.2.1 258 0 = S0_.2.2.1 258 0 := fr_arr hF_ rfl
      have ps9_ : prS S_ net_ de_ = prS S0_ net_ de_ := prS_fr hF_
      have gr9_ := grd_fr hgr_ hF_
      have gm9_ := grd_m hgr_
      have g5_ := hgr_.2.2.2.2
      have g1_ := hgr_.1
      have g3_ := hgr_.2.2.1
      have lt9_ := fro_lt (d_ := (S0_.2.2.1 258 0)) (p_ := p_.toNat) (n_ := (S0_.1 13 0 176).toNat) (by omega)
      refine sm_T_go 3 (c1 := (12, [some (.inr (.inr (some (13, 0)))), some (.inl pin_), some (.inl net_), some (.inl de_), some (.inl n_), some (.inl p_), none, none, none, none], [.inl p_, .inr (.inr (some (258, 0)))], S_)) rfl ?_
      refine sm_T_iald (n := 4712) rfl rfl (by omega) (by omega) ?_
      have bx1_ : 0 ≤ S_.2.2.1 258 0 p_.toNat ∧ S_.2.2.1 258 0 p_.toNat ≤ 1000000000 := hI_.2 258 0 _
      refine sm_T_b0 (a := 5) (z := 94) rfl (fun cx2_ => ?_) (fun cx2_ => ?_)
      · have cx2_ : (S_.2.2.1 258 0 p_.toNat) ≤ 0 := of_decide_eq_true cx2_
        refine sm_T_go 4 (c1 := (115, [some (.inr (.inr (some (13, 0)))), some (.inl pin_), some (.inl net_), some (.inl de_), some (.inl n_), some (.inl p_), none, none, none, none], [.inl p_, .inl n_, .inr (.inr (some (261, 0)))], S_)) rfl ?_
        refine sm_T_iast (n := 4712) rfl rfl (by omega) (by omega) ?_
        have hIx3_ : gi (sm_aI S_ 261 0 n_.toNat p_) := gi_aI hI_ (show 0 ≤ p_ ∧ p_ ≤ 4711 from ⟨by omega, by omega⟩)
        have hFx4_ : ai_fr (sx_W vw_460) S0_ (sm_aI S_ 261 0 n_.toNat p_) := ai_fr_tr hF_ (ai_fr_aI rfl)
        refine sm_T_go 1 (c1 := (118, [some (.inr (.inr (some (13, 0)))), some (.inl pin_), some (.inl net_), some (.inl de_), some (.inl n_), some (.inl p_), none, none, none, none], [.inl n_], sm_aI S_ 261 0 n_.toNat p_)) rfl ?_
        refine sm_T_ri rfl ⟨_, _, rfl, _, rfl, hIx3_, hFx4_, ?_⟩
        have n1_ : 1 ≤ n_ ∧ S_.2.2.1 261 0 0 = pin_ := by (rcases hf_ with ⟨w1_, rfl⟩ | w9_; (exfalso; omega); exact ⟨by omega, w9_.2⟩)
        refine ⟨by omega, by omega, ?_, fun j9_ u0_ u1_ => ?_⟩
        · rw [rd_eq, if_neg (by omega)]; exact n1_.2
        · rw [rd_eq]; split; omega; exact hw_ j9_ u0_ (by omega)
      · have cx2_ : ¬ ((S_.2.2.1 258 0 p_.toNat) ≤ 0) := of_decide_eq_false cx2_
        have E9_ := hE_ p_ h0_.1 (by omega) (by rw [← f258_]; omega) h0_.2.2.2
        refine sm_T_go 4 (c1 := (24, [some (.inr (.inr (some (13, 0)))), some (.inl pin_), some (.inl net_), some (.inl de_), some (.inl n_), some (.inl p_), none, none, none, none], [.inl p_, .inl n_, .inr (.inr (some (261, 0)))], S_)) rfl ?_
        refine sm_T_iast (n := 4712) rfl rfl (by omega) (by omega) ?_
        have hIx5_ : gi (sm_aI S_ 261 0 n_.toNat p_) := gi_aI hI_ (show 0 ≤ p_ ∧ p_ ≤ 4711 from ⟨by omega, by omega⟩)
        have hFx6_ : ai_fr (sx_W vw_460) S0_ (sm_aI S_ 261 0 n_.toNat p_) := ai_fr_tr hF_ (ai_fr_aI rfl)
        refine sm_T_inc (a := 4) (z := 1) (v := n_) (w := n_ + 1) rfl rfl (by omega) (by omega) (by omega) ?_ -- pc_ 25
        refine sm_T_go 3 (c1 := (34, [some (.inr (.inr (some (13, 0)))), some (.inl pin_), some (.inl net_), some (.inl de_), some (.inl (n_ + 1)), some (.inl p_), none, none, none, none], [.inl p_, .inr (.inr (some (258, 0)))], sm_aI S_ 261 0 n_.toNat p_)) rfl ?_
        refine sm_T_iald (n := 4712) rfl rfl (by omega) (by omega) ?_
        refine sm_T_go 4 (c1 := (40, [some (.inr (.inr (some (13, 0)))), some (.inl pin_), some (.inl net_), some (.inl de_), some (.inl (n_ + 1)), some (.inl p_), none, none, none, none], [.inl de_, .inl net_, .inl p_, .inr (.inr (some (13, 0))), .inl (S_.2.2.1 258 0 p_.toNat)], sm_aI S_ 261 0 n_.toNat p_)) rfl ?_
        refine sm_T_cal (d1 := 1) (Q1 := vq_455 p_ net_ de_ (sm_aI S_ 261 0 n_.toNat p_)) rfl rfl (by decide) (vc_455 p_ net_ de_ (sm_aI S_ 261 0 n_.toNat p_) hIx5_ (by omega)) (fun u_ Sx7_ px10_ => ?_)
        obtain ⟨rfl, vx12_, rfl, px10_⟩ := px10_
        have e40_ := px10_
        have e41_ : vx12_ = prS S0_ net_ de_ p_ := e40_.1.trans (congrFun (by (rw [← ps9_]; exact prS_fr (w_ := ([], [261], [])) (ai_fr_aI rfl))) p_)
        refine sm_T_bin (w := (S_.2.2.1 258 0 p_.toNat) - vx12_) rfl (bi_sub (by omega) (by omega) (by omega)) ?_ -- pc_ 43
        refine sm_T_go 5 (c1 := (52, [some (.inr (.inr (some (13, 0)))), some (.inl pin_), some (.inl net_), some (.inl de_), some (.inl (n_ + 1)), some (.inl p_), some (.inl ((S_.2.2.1 258 0 p_.toNat) - vx12_)), some (.inl (-1)), some (.inl 4), none], [], sm_aI S_ 261 0 n_.toNat p_)) rfl ?_
        refine ih_.2 (n_ + 1) p_ ((S_.2.2.1 258 0 p_.toNat) - vx12_) (-1) 4 (sm_aI S_ 261 0 n_.toNat p_) hIx5_ hFx6_ ⟨?_, ?_, ?_, ?_, ?_, ?_, trivial⟩ ?_
        · omega
        · intro j9_ u0_ u1_
          rw [rd_eq]
          split
          · omega
          · exact hw_ j9_ u0_ (by omega)
        · rw [rd_eq]
          rcases hf_ with w9_ | w9_
          · rw [if_pos (by omega)]; exact w9_.2
          · rw [if_neg (by omega)]; exact w9_.2
        · omega
        · (have y8_ := E9_.1; omega)
        · right
          refine ⟨rfl, ?_⟩
          obtain ⟨k9_, a9_, b9_, c9_⟩ := E9_.2
          exact ⟨k9_, ⟨a9_.1, a9_.2, a9_.2⟩, b9_, by (rw [c9_]; omega)⟩
        · omega
    · rintro n_ p_ bf_ to_ k_ S_ hI_ hF_ ⟨h0_, hw_, hf_, hc_, hb_, ht_, -⟩ hm_
      have x258_ : S_.2.2.1 258 0 p_.toNat = S0_.2.2.1 258 0 p_.toNat := congrFun (fr_arr hF_ rfl) _
      have g174_ : S_.1 13 0 174 = S0_.1 13 0 174 := hF_.1 13 0 174 rfl
      have g175_ : S_.1 13 0 175 = S0_.1 13 0 175 := hF_.1 13 0 175 rfl
      have g176_ : S_.1 13 0 176 = S0_.1 13 0 176 := hF_.1 13 0 176 rfl
      have f258_ : S_.2.2.1 258 0 = S0_.2.2.1 258 0 := fr_arr hF_ rfl
      have ps9_ : prS S_ net_ de_ = prS S0_ net_ de_ := prS_fr hF_
      have gr9_ := grd_fr hgr_ hF_
      have gm9_ := grd_m hgr_
      have g5_ := hgr_.2.2.2.2
      have g1_ := hgr_.1
      have g3_ := hgr_.2.2.1
      have lt9_ := fro_lt (d_ := (S0_.2.2.1 258 0)) (p_ := p_.toNat) (n_ := (S0_.1 13 0 176).toNat) (by omega)
      have nb9_ := nxt_b (W_ := S0_.1 13 0 174) (H_ := S0_.1 13 0 175) (p_ := p_) k_ (by omega) (by omega) (by omega) (by omega)
      refine sm_T_go 1 (c1 := (54, [some (.inr (.inr (some (13, 0)))), some (.inl pin_), some (.inl net_), some (.inl de_), some (.inl n_), some (.inl p_), some (.inl bf_), some (.inl to_), some (.inl k_), none], [.inl k_], S_)) rfl ?_
      refine sm_T_b0 (a := 2) (z := 46) rfl (fun cx1_ => ?_) (fun cx1_ => ?_)
      · have cx1_ : k_ < 0 := of_decide_eq_true cx1_
        refine sm_T_go 3 (c1 := (6, [some (.inr (.inr (some (13, 0)))), some (.inl pin_), some (.inl net_), some (.inl de_), some (.inl n_), some (.inl to_), some (.inl bf_), some (.inl to_), some (.inl k_), none], [], S_)) rfl ?_
        refine sm_T_wk [some (.inr (.inr (some (13, 0)))), some (.inl pin_), some (.inl net_), some (.inl de_), some (.inl n_), some (.inl to_), none, none, none, none] (by exact ⟨rfl, rfl, rfl, rfl, rfl, rfl, trivial⟩) ?_
        refine ih_.1 n_ to_ S_ hI_ hF_ ⟨?_, ?_, ?_, ?_, trivial⟩ ?_
        · (rcases ht_ with w9_ | w9_; omega; (obtain ⟨j9_, a9_, b9_, c9_⟩ := w9_.2; omega))
        · exact hw_
        · exact Or.inr ⟨by omega, hf_⟩
        · rcases ht_ with w9_ | w9_
          · have u9_ := fro_up (d_ := (S0_.2.2.1 258 0)) (p_ := p_.toNat) (n_ := (S0_.1 13 0 176).toNat) (by omega) rfl (show S0_.2.2.1 258 0 to_.toNat < S0_.2.2.1 258 0 p_.toNat by omega)
            omega
          · obtain ⟨j9_, a9_, b9_, c9_⟩ := w9_.2
            omega
        · (rcases ht_ with w9_ | w9_; omega; (obtain ⟨j9_, a9_, b9_, c9_⟩ := w9_.2; omega))
      · have cx1_ : ¬ (k_ < 0) := of_decide_eq_false cx1_
        refine sm_T_go 3 (c1 := (62, [some (.inr (.inr (some (13, 0)))), some (.inl pin_), some (.inl net_), some (.inl de_), some (.inl n_), some (.inl p_), some (.inl bf_), some (.inl to_), some (.inl k_), none], [.inl k_, .inl p_, .inr (.inr (some (13, 0)))], S_)) rfl ?_
        refine sm_T_cal (d1 := 0) (Q1 := vq_453 p_ k_ S_) rfl rfl (by decide) (vc_453 p_ k_ S_ hI_ (by exact gr9_) (by omega) (by omega)) (fun u_ Sx2_ px5_ => ?_)
        obtain ⟨rfl, vx7_, rfl, px5_⟩ := px5_
        have e62_ := px5_
        have x62_ : S_.2.2.1 258 0 vx7_.toNat = S0_.2.2.1 258 0 vx7_.toNat := congrFun f258_ _
        rw [g174_, g175_] at e62_
        refine sm_T_go 3 (c1 := (70, [some (.inr (.inr (some (13, 0)))), some (.inl pin_), some (.inl net_), some (.inl de_), some (.inl n_), some (.inl p_), some (.inl bf_), some (.inl to_), some (.inl k_), some (.inl vx7_)], [.inl (-1), .inl vx7_], S_)) rfl ?_
        refine sm_T_br (a := 0) (z := 20) rfl (fun cx8_ => ?_) (fun cx8_ => ?_)
        · have cx8_ : vx7_ = (-1) := of_decide_eq_true cx8_
          refine sm_T_go 2 (c1 := (94, [some (.inr (.inr (some (13, 0)))), some (.inl pin_), some (.inl net_), some (.inl de_), some (.inl n_), some (.inl p_), some (.inl bf_), some (.inl to_), some (.inl k_), some (.inl vx7_)], [], S_)) rfl ?_
          refine sm_T_inc (a := 8) (z := (-1)) (v := k_) (w := k_ - 1) rfl rfl (by omega) (by omega) (by omega) ?_ -- pc_ 94
          refine sm_T_go 1 (c1 := (52, [some (.inr (.inr (some (13, 0)))), some (.inl pin_), some (.inl net_), some (.inl de_), some (.inl n_), some (.inl p_), some (.inl bf_), some (.inl to_), some (.inl (k_ - 1)), some (.inl vx7_)], [], S_)) rfl ?_
          refine sm_T_wk [some (.inr (.inr (some (13, 0)))), some (.inl pin_), some (.inl net_), some (.inl de_), some (.inl n_), some (.inl p_), some (.inl bf_), some (.inl to_), some (.inl (k_ - 1)), none] (by exact ⟨rfl, rfl, rfl, rfl, rfl, rfl, rfl, rfl, rfl, trivial⟩) ?_
          refine ih_.2 n_ p_ bf_ to_ (k_ - 1) S_ hI_ hF_ ⟨?_, ?_, ?_, ?_, ?_, ?_, trivial⟩ ?_
          · omega
          · exact hw_
          · exact hf_
          · exact hc_
          · omega
          · rcases ht_ with w9_ | w9_
            · first | exact Or.inl w9_ | (left; omega)
            · first | (left; omega) | (right; refine ⟨w9_.1, ?_⟩; obtain ⟨j9_, a9_, b9_, c9_⟩ := w9_.2; by_cases z9_ : j9_ = k_; (exfalso; rw [z9_, ← e62_] at b9_ c9_; omega); exact ⟨j9_, ⟨a9_.1, by omega, a9_.2.2⟩, b9_, c9_⟩)
          · omega
        · have cx8_ : ¬ (vx7_ = (-1)) := of_decide_eq_false cx8_
          refine sm_T_go 3 (c1 := (79, [some (.inr (.inr (some (13, 0)))), some (.inl pin_), some (.inl net_), some (.inl de_), some (.inl n_), some (.inl p_), some (.inl bf_), some (.inl to_), some (.inl k_), some (.inl vx7_)], [.inl vx7_, .inr (.inr (some (258, 0)))], S_)) rfl ?_
          refine sm_T_iald (n := 4712) rfl rfl (by omega) (by omega) ?_
          have bx9_ : 0 ≤ S_.2.2.1 258 0 vx7_.toNat ∧ S_.2.2.1 258 0 vx7_.toNat ≤ 1000000000 := hI_.2 258 0 _
          refine sm_T_go 1 (c1 := (82, [some (.inr (.inr (some (13, 0)))), some (.inl pin_), some (.inl net_), some (.inl de_), some (.inl n_), some (.inl p_), some (.inl bf_), some (.inl to_), some (.inl k_), some (.inl vx7_)], [.inl bf_, .inl (S_.2.2.1 258 0 vx7_.toNat)], S_)) rfl ?_
          refine sm_T_br (a := 1) (z := 8) rfl (fun cx10_ => ?_) (fun cx10_ => ?_)
          · have cx10_ : (S_.2.2.1 258 0 vx7_.toNat) ≠ bf_ := of_decide_eq_true cx10_
            refine sm_T_go 2 (c1 := (94, [some (.inr (.inr (some (13, 0)))), some (.inl pin_), some (.inl net_), some (.inl de_), some (.inl n_), some (.inl p_), some (.inl bf_), some (.inl to_), some (.inl k_), some (.inl vx7_)], [], S_)) rfl ?_
            refine sm_T_inc (a := 8) (z := (-1)) (v := k_) (w := k_ - 1) rfl rfl (by omega) (by omega) (by omega) ?_ -- pc_ 94
            refine sm_T_go 1 (c1 := (52, [some (.inr (.inr (some (13, 0)))), some (.inl pin_), some (.inl net_), some (.inl de_), some (.inl n_), some (.inl p_), some (.inl bf_), some (.inl to_), some (.inl (k_ - 1)), some (.inl vx7_)], [], S_)) rfl ?_
            refine sm_T_wk [some (.inr (.inr (some (13, 0)))), some (.inl pin_), some (.inl net_), some (.inl de_), some (.inl n_), some (.inl p_), some (.inl bf_), some (.inl to_), some (.inl (k_ - 1)), none] (by exact ⟨rfl, rfl, rfl, rfl, rfl, rfl, rfl, rfl, rfl, trivial⟩) ?_
            refine ih_.2 n_ p_ bf_ to_ (k_ - 1) S_ hI_ hF_ ⟨?_, ?_, ?_, ?_, ?_, ?_, trivial⟩ ?_
            · omega
            · exact hw_
            · exact hf_
            · exact hc_
            · omega
            · rcases ht_ with w9_ | w9_
              · first | exact Or.inl w9_ | (left; omega)
              · first | (left; omega) | (right; refine ⟨w9_.1, ?_⟩; obtain ⟨j9_, a9_, b9_, c9_⟩ := w9_.2; by_cases z9_ : j9_ = k_; (exfalso; rw [z9_, ← e62_] at b9_ c9_; omega); exact ⟨j9_, ⟨a9_.1, by omega, a9_.2.2⟩, b9_, c9_⟩)
            · omega
          · have cx10_ : ¬ ((S_.2.2.1 258 0 vx7_.toNat) ≠ bf_) := of_decide_eq_false cx10_
            refine sm_T_go 3 (c1 := (94, [some (.inr (.inr (some (13, 0)))), some (.inl pin_), some (.inl net_), some (.inl de_), some (.inl n_), some (.inl p_), some (.inl bf_), some (.inl vx7_), some (.inl k_), some (.inl vx7_)], [], S_)) rfl ?_
            refine sm_T_inc (a := 8) (z := (-1)) (v := k_) (w := k_ - 1) rfl rfl (by omega) (by omega) (by omega) ?_ -- pc_ 94
            refine sm_T_go 1 (c1 := (52, [some (.inr (.inr (some (13, 0)))), some (.inl pin_), some (.inl net_), some (.inl de_), some (.inl n_), some (.inl p_), some (.inl bf_), some (.inl vx7_), some (.inl (k_ - 1)), some (.inl vx7_)], [], S_)) rfl ?_
            refine sm_T_wk [some (.inr (.inr (some (13, 0)))), some (.inl pin_), some (.inl net_), some (.inl de_), some (.inl n_), some (.inl p_), some (.inl bf_), some (.inl vx7_), some (.inl (k_ - 1)), none] (by exact ⟨rfl, rfl, rfl, rfl, rfl, rfl, rfl, rfl, rfl, trivial⟩) ?_
            refine ih_.2 n_ p_ bf_ vx7_ (k_ - 1) S_ hI_ hF_ ⟨?_, ?_, ?_, ?_, ?_, ?_, trivial⟩ ?_
            · omega
            · exact hw_
            · exact hf_
            · exact hc_
            · omega
            · rcases ht_ with w9_ | w9_
              · first | exact Or.inl w9_ | (left; omega)
              · first | (left; omega) | (right; refine ⟨w9_.1, ?_⟩; obtain ⟨j9_, a9_, b9_, c9_⟩ := w9_.2; by_cases z9_ : j9_ = k_; (exfalso; rw [z9_, ← e62_] at b9_ c9_; omega); exact ⟨j9_, ⟨a9_.1, by omega, a9_.2.2⟩, b9_, c9_⟩)
            · omega
set_option maxHeartbeats 3000000 in
set_option maxRecDepth 20000 in
theorem vc_460 {sc_ : Nat × (Nat → Int)} (pin_ : Int) (net_ : Int) (de_ : Int) (S0_ : sm_S) (hI_ : gi S0_) (hgr_ : grd S0_) (hp_ : 0 ≤ pin_ ∧ pin_ < S0_.1 13 0 176 ∧ S0_.2.2.1 258 0 pin_.toNat < 1000000000 ∧ 0 < S0_.2.2.1 258 0 pin_.toNat) (hE_ : mD2 (S0_.1 13 0 174) (S0_.1 13 0 175) (prS S0_ net_ de_) (S0_.2.2.1 258 0)) : sm_T (mt_P sc_) 2 460 (0, [some (.inr (.inr (some (13, 0)))), some (.inl pin_), some (.inl net_), some (.inl de_), none, none, none, none, none, none], [], S0_) (fun ro9_ => ∃ u_ S1_, ro9_ = (.inl u_, S1_, 0) ∧ vq_460 pin_ net_ de_ S0_ u_ S1_) := by
  have hF_ : ai_fr (sx_W vw_460) S0_ S0_ := ai_fr_rf
  refine sm_T_go 4 (c1 := (6, [some (.inr (.inr (some (13, 0)))), some (.inl pin_), some (.inl net_), some (.inl de_), some (.inl 0), some (.inl pin_), none, none, none, none], [], S0_)) rfl ?_
  refine (vl_460 pin_ net_ de_ S0_ hgr_ hp_ hE_ _).1 0 pin_ S0_ hI_ hF_ ⟨?_, ?_, ?_, ?_, trivial⟩ (Nat.lt_succ_self _)
  · omega
  · (intro j9_ u0_ u1_; exfalso; omega)
  · exact Or.inl ⟨rfl, rfl⟩
  · omega
end
