/-! the reference: settling; written by wip/p55/gen/vg -/

/-! settling -/
def p_ch2 (q_ : Nat) (o_ : List (Int × Nat)) (h_ c_ : List Int) : pE pO := pb (p_ch q_ h_ c_) fun r_ => .inr (o_, r_.1, r_.2)
def p_se2 (mo_ ls_ : Int) (s_ : pO) : pE pO := p_se (mdo mo_) ls_ s_.1 s_.2.1 s_.2.2
def p_sa2 (mo_ : Int) (s_ : pO) : pE pO := p_sa (mdo mo_) s_.1 s_.2.1 s_.2.2
theorem pb_i {α : Type} {e_ : Int × Nat} {f_ : α → pE α} : pb (.inl e_) f_ = .inl e_ := rfl
theorem lt_if {a_ v_ ls_ : Int} (h_ : v_ = if 1 ≤ a_ then a_ else 0) (h1_ : v_ < ls_) (h2_ : 1 ≤ ls_) : a_ < ls_ := by
  split at h_ <;> omega
theorem se2_ap {mo_ ls_ k_ x_ y_ : Int} {q_ : Nat} {o_ : List (Int × Nat)} {g_ c_ : List Int} (h_ : ls_ ≤ k_) : p_se2 mo_ ls_ ((k_, q_) :: o_, y_ :: x_ :: g_, c_) = pb (p_ap2 (mdo mo_) k_ q_ o_ x_ y_ g_ c_) (p_se2 mo_ ls_) := by
  show p_se (mdo mo_) ls_ ((k_, q_) :: o_) (y_ :: x_ :: g_) c_ = _
  rw [p_se, if_pos h_]
  unfold p_ap2
  cases p_ap (mdo mo_) k_ q_ x_ y_ c_ <;> rfl
theorem se2_lt {b_ : Nat → Int} {n_ T_ p_ : Nat} {mo_ : Int} {y_ : pE pO} {S_ : sm_S} (h_ : ry b_ n_ T_ mo_ p_ y_ S_) {s_ : pO} (e_ : pb y_ (p_se2 mo_ 1) = .inr s_) : o_tp s_.1 < 1 := by
  obtain ⟨a_, h1_, h2_⟩ := pb_inr e_
  subst h1_
  exact (p_se_ok (by decide) a_.1 a_.2.1 a_.2.2 s_ h_.2 h2_).2.2.2
theorem sa2_ch {mo_ : Int} {q_ : Nat} {o_ : List (Int × Nat)} {h_ c_ : List Int} : p_sa2 mo_ ((-4, q_) :: o_, h_, c_) = pb (p_ch2 q_ o_ h_ c_) (p_sa2 mo_) := by
  show p_sa (mdo mo_) ((-4, q_) :: o_) h_ c_ = _
  rw [p_sa_4]
  unfold p_ch2
  cases p_ch q_ h_ c_ <;> rfl
theorem sa2_se {mo_ : Int} {y_ : pE pO} : pb y_ (p_sa2 mo_) = pb (pb y_ (p_se2 mo_ 1)) (p_sa2 mo_) := by
  cases y_ with
  | inl e_ => rfl
  | inr s_ => exact p_sa_se (by decide) s_.1 s_.2.1 s_.2.2
