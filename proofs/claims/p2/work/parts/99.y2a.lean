/-! the reference: names; written by wip/p55/gen/vg -/

/-! names -/
theorem lx_ne_x {b_ : Nat → Int} {n_ : Nat} : ∀ (f_ p_ k_ : Nat), n_ - p_ ≤ f_ → p_ ≤ k_ → k_ < lx_ne b_ n_ p_ → lx_x (b_ k_)
  | 0, p_, k_, hf_, hk_, h_ => by
    rw [lx_e_go, if_neg (by omega)] at h_
    omega
  | f_ + 1, p_, k_, hf_, hk_, h_ => by
    rw [lx_e_go] at h_
    split at h_
    · rename_i g_
      by_cases e_ : k_ = p_
      · rw [e_]; exact g_.2
      · exact lx_ne_x f_ (p_ + 1) k_ (by omega) (by omega) h_
    · omega
theorem nmp_b {b_ : Nat → Int} {n_ p_ : Nat} (h_ : nmp b_ n_ p_) : ∀ j_, j_ < lx_sz b_ n_ p_ → 1 ≤ b_ (p_ + j_) ∧ b_ (p_ + j_) < 128 := by
  intro j_ hj_
  have h1_ := h_.1
  have h2_ := h_.2
  unfold lx_kd at h2_
  unfold lx_sz at hj_
  by_cases g_ : n_ ≤ p_
  · rw [if_pos g_] at h2_; omega
  · rw [if_neg g_] at h2_ hj_
    by_cases g1_ : lx_l (b_ p_)
    · rw [if_pos g1_] at hj_
      exact lx_x_b (lx_ne_x (n_ - p_) p_ (p_ + j_) (Nat.le_refl _) (by omega) (by omega))
    · rw [if_neg g1_] at h2_ hj_
      by_cases g2_ : lx_g (b_ p_)
      · rw [if_pos g2_] at h2_
        split at h2_ <;> omega
      · rw [if_neg g2_] at hj_
        omega
theorem nm_rk {b_ : Nat → Int} {n_ p_ q_ : Nat} (hp_ : nmp b_ n_ p_) (hq_ : nmp b_ n_ q_) : (rk1 b_ p_ (lx_sz b_ n_ p_) = rk1 b_ q_ (lx_sz b_ n_ q_) ∧ rk2 b_ p_ (lx_sz b_ n_ p_) = rk2 b_ q_ (lx_sz b_ n_ q_)) ↔ nm_q b_ n_ p_ q_ = true := by
  rw [rk_eq (nmp_sz hp_).1 (nmp_sz hq_).1 (nmp_b hp_) (nmp_b hq_), nm_q_t]
/-- token t_ is_ the_ name at p_ -/
def rtk (b_ : Nat → Int) (n_ T_ : Nat) (t_ : Int) (p_ : Nat) : Prop := ∃ i_ : Nat, t_ = (i_ : Int) ∧ i_ < T_ ∧ p_ = lxp b_ n_ i_ ∧ nmp b_ n_ p_
theorem rtk_at {b_ : Nat → Int} {n_ T_ p_ : Nat} {t_ : Int} {S_ : sm_S} (h_ : rtab b_ n_ T_ S_) (r_ : rtk b_ n_ T_ t_ p_) : (0 ≤ t_ ∧ t_ ≤ 1280) ∧ nmp b_ n_ p_ ∧ S_.2.2.2 122 0 t_.toNat = rk1 b_ p_ (lx_sz b_ n_ p_) ∧ S_.2.2.1 123 0 t_.toNat = rk2 b_ p_ (lx_sz b_ n_ p_) ∧ S_.2.2.1 120 0 t_.toNat = (p_ : Int) ∧ S_.2.2.1 119 0 t_.toNat = 1 := by
  obtain ⟨i_, h1_, h2_, h3_, h4_⟩ := r_
  have hT_ := h_.2.1
  have t2_ := (h_.2.2.1.1 i_ h2_).2
  rw [← h3_] at t2_
  rw [show t_.toNat = i_ by omega]
  have t3_ := t2_.2.2.2 h4_.2
  refine ⟨by omega, h4_, t3_.1, t3_.2, t2_.1, ?_⟩
  rw [t2_.2.1, h4_.2]
  rfl
def r_s2 (so_ : Int) : Int := if so_ ≤ 3 then so_ + 1 else if so_ = 4 then 4 else 5
def re1 (b_ : Nat → Int) (n_ T_ : Nat) (A_ : pA) (m_ : Nat) (S_ : sm_S) : Prop := S_.2.2.1 126 0 m_ = (A_.1 m_ : Int) ∧ ∀ s_, s_ < A_.1 m_ → rtk b_ n_ T_ (S_.2.2.1 127 0 (40 * m_ + s_)) (A_.2.1 (40 * m_ + s_)) ∧ S_.2.2.1 128 0 (40 * m_ + s_) = r_s2 (A_.2.2.1 (40 * m_ + s_)) ∧ S_.2.2.1 129 0 (40 * m_ + s_) = A_.2.2.2.1 (40 * m_ + s_) ∧ S_.2.2.1 130 0 (40 * m_ + s_) = A_.2.2.2.2 (40 * m_ + s_) ∧ S_.2.2.1 131 0 (40 * m_ + s_) = (if A_.2.2.1 (40 * m_ + s_) = 4 then 1 else 0)
def rnr (b_ : Nat → Int) (n_ T_ : Nat) (N_ : Nat → Nat) (M_ : Nat) (S_ : sm_S) : Prop := M_ ≤ 16 ∧ ∀ m_, m_ < M_ → rtk b_ n_ T_ (S_.2.2.1 124 0 m_) (N_ m_)
