/-! the graph that a right design comes to; written by wip/p55/gen/vg -/

/-! sums of_ all_ modules, and the_ graph that a_ right design comes to_ -/
def sR (A_ : pA) : Nat → Nat → Int
  | 0, _ => 0
  | f_ + 1, m_ => mc (su (t_rg (sR A_ f_) A_ m_) (A_.1 m_))
def sI (A_ : pA) : Nat → Nat → Int
  | 0, _ => 0
  | f_ + 1, m_ => mc (su (t_is (sI A_ f_) A_ m_) (A_.1 m_))
theorem dt_lt {b_ : Nat → Int} {n_ m_ s_ : Nat} {A_ : pA} (h_ : a_ok b_ n_ A_ m_) (hs_ : s_ < A_.1 m_) (h5_ : A_.2.2.1 (40 * m_ + s_) = 5) : (A_.2.2.2.2 (40 * m_ + s_)).toNat < m_ := by
  have := ((h_.2 m_ (Nat.le_refl _)).2 s_ hs_).2.2.2.2.1 h5_
  omega
theorem trg_cg {b_ : Nat → Int} {n_ m_ : Nat} {A_ : pA} {f_ g_ : Nat → Int} (h_ : a_ok b_ n_ A_ m_) (e_ : ∀ d_, d_ < m_ → f_ d_ = g_ d_) : su (t_rg f_ A_ m_) (A_.1 m_) = su (t_rg g_ A_ m_) (A_.1 m_) := su_cg (fun s_ hs_ => by
  unfold t_rg
  by_cases z_ : A_.2.2.1 (40 * m_ + s_) = 3 ∨ A_.2.2.1 (40 * m_ + s_) = 4
  · rw [if_pos z_, if_pos z_]
  · rw [if_neg z_, if_neg z_]
    by_cases z2_ : A_.2.2.1 (40 * m_ + s_) = 5
    · rw [if_pos z2_, if_pos z2_, e_ _ (dt_lt h_ hs_ z2_)]
    · rw [if_neg z2_, if_neg z2_])
theorem tis_cg {b_ : Nat → Int} {n_ m_ : Nat} {A_ : pA} {f_ g_ : Nat → Int} (h_ : a_ok b_ n_ A_ m_) (e_ : ∀ d_, d_ < m_ → f_ d_ = g_ d_) : su (t_is f_ A_ m_) (A_.1 m_) = su (t_is g_ A_ m_) (A_.1 m_) := su_cg (fun s_ hs_ => by
  unfold t_is
  by_cases z2_ : A_.2.2.1 (40 * m_ + s_) = 5
  · rw [if_pos z2_, if_pos z2_, e_ _ (dt_lt h_ hs_ z2_)]
  · rw [if_neg z2_, if_neg z2_])
section SU_
variable {b_ : Nat → Int} {n_ M_ : Nat} {A_ : pA}
theorem sR_st (hA_ : ∀ m_, m_ < M_ → a_ok b_ n_ A_ m_) : ∀ (k_ m_ f_ : Nat), m_ < k_ → m_ < M_ → m_ < f_ → sR A_ f_ m_ = sR A_ (m_ + 1) m_ ∧ sI A_ f_ m_ = sI A_ (m_ + 1) m_
  | 0, _, _, h_, _, _ => absurd h_ (Nat.not_lt_zero _)
  | k_ + 1, m_, f_, hk_, hM_, hf_ => by
    obtain ⟨g_, rfl⟩ : ∃ g_, f_ = g_ + 1 := ⟨f_ - 1, by omega⟩
    constructor
    · show mc (su (t_rg (sR A_ g_) A_ m_) (A_.1 m_)) = mc (su (t_rg (sR A_ m_) A_ m_) (A_.1 m_))
      rw [trg_cg (g_ := sR A_ m_) (hA_ m_ hM_) (fun d_ hd_ => by rw [(sR_st hA_ k_ d_ g_ (by omega) (by omega) (by omega)).1, (sR_st hA_ k_ d_ m_ (by omega) (by omega) (by omega)).1])]
    · show mc (su (t_is (sI A_ g_) A_ m_) (A_.1 m_)) = mc (su (t_is (sI A_ m_) A_ m_) (A_.1 m_))
      rw [tis_cg (g_ := sI A_ m_) (hA_ m_ hM_) (fun d_ hd_ => by rw [(sR_st hA_ k_ d_ g_ (by omega) (by omega) (by omega)).2, (sR_st hA_ k_ d_ m_ (by omega) (by omega) (by omega)).2])]
theorem sR_nn (hA_ : ∀ m_, m_ < M_ → a_ok b_ n_ A_ m_) : ∀ (f_ m_ : Nat), m_ < M_ → 0 ≤ sR A_ f_ m_ ∧ 0 ≤ sI A_ f_ m_
  | 0, _, _ => ⟨Int.le_refl _, Int.le_refl _⟩
  | f_ + 1, m_, hM_ => by
    have a_ := (hA_ m_ hM_).2 m_ (Nat.le_refl _)
    have q1_ := (su_el (f_ := t_rg (sR A_ f_) A_ m_) (k_ := A_.1 m_) (fun s_ hs_ => by
      unfold t_rg
      split
      · exact (a_.2 s_ hs_).2.2.1.1
      · split
        · rename_i z2_
          exact (sR_nn hA_ f_ _ (Nat.lt_trans (dt_lt (hA_ m_ hM_) hs_ z2_) hM_)).1
        · exact Int.le_refl _)).1
    have q2_ := (su_el (f_ := t_is (sI A_ f_) A_ m_) (k_ := A_.1 m_) (fun s_ hs_ => by
      unfold t_is
      split
      · rename_i z2_
        have := (sR_nn hA_ f_ _ (Nat.lt_trans (dt_lt (hA_ m_ hM_) hs_ z2_) hM_)).2
        omega
      · exact Int.le_refl _)).1
    exact ⟨(mc_b q1_).1, (mc_b q2_).1⟩
/-- the_ sums of_ a_ module -/
def gR (A_ : pA) (M_ m_ : Nat) : Int := if m_ < M_ then sR A_ (m_ + 1) m_ else 0
def gI (A_ : pA) (M_ m_ : Nat) : Int := if m_ < M_ then sI A_ (m_ + 1) m_ else 0
theorem g_sum (hA_ : ∀ m_, m_ < M_ → a_ok b_ n_ A_ m_) : (∀ d_, 0 ≤ gR A_ M_ d_ ∧ 0 ≤ gI A_ M_ d_) ∧ ∀ m_, m_ < M_ → gR A_ M_ m_ = mc (su (t_rg (gR A_ M_) A_ m_) (A_.1 m_)) ∧ gI A_ M_ m_ = mc (su (t_is (gI A_ M_) A_ m_) (A_.1 m_)) := by
  refine ⟨fun d_ => ?_, fun m_ hm_ => ?_⟩
  · unfold gR gI
    by_cases z_ : d_ < M_
    · rw [if_pos z_, if_pos z_]
      exact sR_nn hA_ _ d_ z_
    · rw [if_neg z_, if_neg z_]
      exact ⟨Int.le_refl _, Int.le_refl _⟩
  · have e_ : ∀ d_, d_ < m_ → sR A_ m_ d_ = gR A_ M_ d_ ∧ sI A_ m_ d_ = gI A_ M_ d_ := by
      intro d_ hd_
      have q_ := sR_st hA_ (d_ + 1) d_ m_ (by omega) (by omega) hd_
      unfold gR gI
      rw [if_pos (by omega), if_pos (by omega)]
      exact q_
    constructor
    · rw [show gR A_ M_ m_ = mc (su (t_rg (sR A_ m_) A_ m_) (A_.1 m_)) from if_pos hm_, trg_cg (hA_ m_ hm_) (fun d_ hd_ => (e_ d_ hd_).1)]
    · rw [show gI A_ M_ m_ = mc (su (t_is (sI A_ m_) A_ m_) (A_.1 m_)) from if_pos hm_, tis_cg (hA_ m_ hm_) (fun d_ hd_ => (e_ d_ hd_).2)]
/-- sums told in a_ row_ are_ these -/
theorem g_uq (hA_ : ∀ m_, m_ < M_ → a_ok b_ n_ A_ m_) {r_ i_ : Nat → Int} (h_ : ∀ m_, m_ < M_ → r_ m_ = mc (su (t_rg r_ A_ m_) (A_.1 m_)) ∧ i_ m_ = mc (su (t_is i_ A_ m_) (A_.1 m_))) : ∀ (k_ m_ : Nat), m_ < k_ → m_ < M_ → r_ m_ = gR A_ M_ m_ ∧ i_ m_ = gI A_ M_ m_
  | 0, _, h_, _ => absurd h_ (Nat.not_lt_zero _)
  | k_ + 1, m_, hk_, hM_ => by
    have g_ := (g_sum hA_).2 m_ hM_
    rw [(h_ m_ hM_).1, (h_ m_ hM_).2, g_.1, g_.2, trg_cg (hA_ m_ hM_) (fun d_ hd_ => (g_uq hA_ h_ k_ d_ (by omega) (by omega)).1), tis_cg (hA_ m_ hM_) (fun d_ hd_ => (g_uq hA_ h_ k_ d_ (by omega) (by omega)).2)]
    exact ⟨rfl, rfl⟩
end SU_
/-- what a_ right design is_ told to_ be_: the_ number of_ its_ last module, its_ inputs and registers -/
def d_tp (r_ : pD) : Nat := r_.2.2.1 - 1
def d_lm (r_ : pD) : Int := p_lm (gI r_.1 r_.2.2.1 (d_tp r_)) (su (t_in r_.1 0 (d_tp r_)) (r_.1.1 (d_tp r_))) (gR r_.1 r_.2.2.1 (d_tp r_)) (su (t_in r_.1 1 (d_tp r_)) (r_.1.1 (d_tp r_)))
def d_I (r_ : pD) : Nat := (su (t_in r_.1 0 (d_tp r_)) (r_.1.1 (d_tp r_))).toNat
def d_R (r_ : pD) : Nat := (gR r_.1 r_.2.2.1 (d_tp r_)).toNat
theorem lm_0 {i_ x_ g_ o_ : Int} (h_ : p_lm i_ x_ g_ o_ = 0) : i_ ≤ 200 ∧ x_ + g_ ≤ 12 ∧ g_ ≤ 6 ∧ o_ ≠ 0 ∧ o_ ≤ 16 := by
  unfold p_lm at h_
  split at h_
  · exact absurd h_ (by decide)
  · split at h_
    · exact absurd h_ (by decide)
    · split at h_
      · exact absurd h_ (by decide)
      · omega
theorem d_in {b_ : Nat → Int} {n_ : Nat} {r_ : pD} (hn_ : n_ ≤ 1280) (h_ : p_de b_ n_ = .inr r_) : (d_I r_ : Int) = su (t_in r_.1 0 (d_tp r_)) (r_.1.1 (d_tp r_)) ∧ (d_R r_ : Int) = gR r_.1 r_.2.2.1 (d_tp r_) ∧ d_tp r_ < r_.2.2.1 ∧ d_tp r_ ≤ 15 ∧ 0 ≤ su (t_in r_.1 1 (d_tp r_)) (r_.1.1 (d_tp r_)) := by
  obtain ⟨h1_, h2_⟩ := de_ch hn_ h_
  have tp_ : d_tp r_ < r_.2.2.1 := by unfold d_tp; omega
  have a_ := (h1_ (d_tp r_) tp_).2
  have q_ : ∀ so_, 0 ≤ su (t_in r_.1 so_ (d_tp r_)) (r_.1.1 (d_tp r_)) := fun so_ => (su_el (fun s_ hs_ => by
    unfold t_in
    split
    · exact ((a_.2 _ (Nat.le_refl _)).2 s_ hs_).2.2.1.1
    · exact Int.le_refl _)).1
  have g_ := ((g_sum (fun m_ hm_ => (h1_ m_ hm_).2)).1 (d_tp r_)).1
  unfold d_I d_R
  exact ⟨by have := q_ 0; omega, by omega, tp_, a_.1, q_ 1⟩
/-- the_ graph that the_ last module comes to_ -/
theorem d_z {b_ : Nat → Int} {n_ : Nat} {r_ : pD} (hn_ : n_ ≤ 1280) (h_ : p_de b_ n_ = .inr r_) (hl_ : d_lm r_ = 0) : ∃ z_, exm (1 + d_I r_ + d_R r_) (d_I r_) r_.1 (dC r_) 16 (d_tp r_) ([], 0, 1) (ein r_.1 (d_tp r_)) = some z_ := by
  obtain ⟨h1_, h2_⟩ := de_ch hn_ h_
  obtain ⟨i1_, i2_, i3_, i4_, i5_⟩ := d_in hn_ h_
  have l_ := lm_0 hl_
  have g_ := g_sum (fun m_ hm_ => (h1_ m_ hm_).2)
  obtain ⟨G'_, e'_, w_, -⟩ := exm_tot (F_ := 1 + d_I r_ + d_R r_) (I_ := d_I r_) (C_ := dC r_) (N_ := r_.2.1) hn_ (fun m_ hm_ => (h1_ m_ hm_).2) g_.1 g_.2 (fun m_ hm_ => by
    obtain ⟨f_, A_, c0_, u_, ce_, l_, w1_, w2_, w3_, -⟩ := dC_r hn_ (h1_ m_ hm_).1
    exact ⟨f_, A_, c0_, u_, ce_, w1_, w2_, w3_⟩) (d_tp r_ + 1) (d_tp r_) (by omega) i3_ l_.2.2.1 l_.1 16 [] 0 1 (ein r_.1 (d_tp r_)) (by omega) (by simpa using l_.2.2.1) (by have := l_.1; push_cast; omega) (ein_o (h1_ (d_tp r_) i3_).2)
  exact ⟨_, w_⟩
