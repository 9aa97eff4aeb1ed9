/-! paths: beginnings; written by wip/p55/gen/vg -/

/-! paths -/
def tsl (z_ r_ : Nat → Int) (s_ : Nat) : Prop := 1 ≤ z_ s_ ∧ z_ s_ ≤ 152 ∧ r_ (152 * s_) < 12 ∧ (∀ j_ : Nat, (j_ : Int) < z_ s_ - 1 → r_ (152 * s_ + j_) < 162) ∧ (r_ (152 * s_ + (z_ s_ - 1).toNat) < 162 ∨ 10000 ≤ r_ (152 * s_ + (z_ s_ - 1).toNat))
def tph (z_ r_ o_ : Nat → Int) (k_ h_ : Int) : Prop := ∀ i_ : Nat, (i_ : Int) ≤ k_ → (i_ : Int) ≠ h_ → tsl z_ r_ (o_ i_).toNat
def tpo (S_ : sm_S) : Prop := S_.1 11 0 5 ≤ 40 ∧ tph (S_.2.2.1 104 0) (S_.2.2.1 105 0) (S_.2.2.1 102 0) (S_.1 11 0 5) (S_.1 11 0 5)
def ttr (S_ : sm_S) : Prop := (∀ j_ : Nat, (j_ : Int) < S_.1 11 0 11 → S_.2.2.1 106 0 j_ < 162) ∧ (0 < S_.1 11 0 11 → S_.2.2.1 106 0 0 < 12)
theorem tph_mv {z_ r_ o_ o'_ : Nat → Int} {k_ h_ : Int} (g_ : tph z_ r_ o_ k_ h_) (h0_ : 1 ≤ h_ ∧ h_ ≤ k_) (e_ : ∀ i_, o'_ i_ = if i_ = h_.toNat then o_ (h_ - 1).toNat else o_ i_) : tph z_ r_ o'_ k_ (h_ - 1) := by
  intro i_ hi_ hn_
  rw [e_]
  by_cases y_ : i_ = h_.toNat
  · rw [if_pos y_]; exact g_ (h_ - 1).toNat (by omega) (by omega)
  · rw [if_neg y_]; exact g_ i_ hi_ (by omega)
theorem tph_in {z_ r_ o_ o'_ : Nat → Int} {k_ h_ q_ : Int} {s_ : Int} (g_ : tph z_ r_ o_ k_ h_) (hs_ : tsl z_ r_ s_.toNat) (h0_ : 0 ≤ h_ ∧ h_ ≤ k_) (e_ : ∀ i_, o'_ i_ = if i_ = h_.toNat then s_ else o_ i_) (hq_ : q_ ≤ k_ + 1) : tph z_ r_ o'_ q_ q_ := by
  intro i_ hi_ hn_
  rw [e_]
  by_cases y_ : i_ = h_.toNat
  · rw [if_pos y_]; exact hs_
  · rw [if_neg y_]; exact g_ i_ (by omega) (by omega)
/-- what a_ slot that is_ written anew leaves to_ the_ others -/
theorem tsl_ot {z_ z'_ r_ r'_ : Nat → Int} {s_ t_ : Nat} (h_ : tsl z_ r_ s_) (ne_ : s_ ≠ t_) (ez_ : ∀ i_, i_ ≠ t_ → z'_ i_ = z_ i_) (er : ∀ i_, (i_ < 152 * t_ ∨ 152 * t_ + 152 ≤ i_) → r'_ i_ = r_ i_) : tsl z'_ r'_ s_ := by
  obtain ⟨a_, b_, c_, d_, e_⟩ := h_
  have z1_ := ez_ s_ ne_
  have q_ : ∀ j_ : Nat, j_ < 152 → r'_ (152 * s_ + j_) = r_ (152 * s_ + j_) := fun j_ hj_ => er _ (by omega)
  refine ⟨by omega, by omega, ?_, fun j_ hj_ => ?_, ?_⟩
  · have w_ := q_ 0 (by omega)
    rw [Nat.add_zero] at w_
    rw [w_]; exact c_
  · rw [q_ j_ (by omega)]; exact d_ j_ (by omega)
  · rw [z1_, q_ _ (by omega)]; exact e_
/-- a_ slot written: the_ trail and a_ net_ -/
theorem tsl_nw {z'_ r'_ tr_ : Nat → Int} {s_ : Nat} {n_ a_ : Int} (n0_ : 0 ≤ n_ ∧ n_ ≤ 151) (ez_ : z'_ s_ = n_ + 1) (e1_ : ∀ j_ : Nat, (j_ : Int) < n_ → r'_ (152 * s_ + j_) = tr_ j_) (e2_ : r'_ (152 * s_ + n_.toNat) = a_) (h1_ : ∀ j_ : Nat, (j_ : Int) < n_ → tr_ j_ < 162) (h2_ : 0 < n_ → tr_ 0 < 12) (h3_ : n_ = 0 → a_ < 12) (h4_ : a_ < 162 ∨ 10000 ≤ a_) : tsl z'_ r'_ s_ := by
  refine ⟨by omega, by omega, ?_, fun j_ hj_ => ?_, ?_⟩
  · by_cases y_ : n_ = 0
    · have w_ := e2_
      rw [y_, show (0 : Int).toNat = 0 from rfl, Nat.add_zero] at w_
      rw [w_]; exact h3_ y_
    · have w_ := e1_ 0 (by omega)
      rw [Nat.add_zero] at w_
      rw [w_]; exact h2_ (by omega)
  · rw [e1_ j_ (by omega)]; exact h1_ j_ (by omega)
  · rw [ez_, show (n_ + 1 - 1).toNat = n_.toNat by omega, e2_]; exact h4_
theorem cp_at {f_ g_ : Nat → Int} {a_ b_ n_ k_ : Nat} (h_ : b_ ≤ k_) (h2_ : k_ < b_ + n_) : sm_cp f_ g_ a_ b_ n_ k_ = f_ (a_ + (k_ - b_)) := by
  unfold sm_cp
  rw [if_pos ⟨h_, h2_⟩]
theorem cp_ot {f_ g_ : Nat → Int} {a_ b_ n_ k_ : Nat} (h_ : ¬ (b_ ≤ k_ ∧ k_ < b_ + n_)) : sm_cp f_ g_ a_ b_ n_ k_ = g_ k_ := by
  unfold sm_cp
  rw [if_neg h_]
