/-! the reference: cells; written by wip/p55/gen/vg -/

/-! cells -/
def y_1 (b_ : Nat → Int) (n_ K_ : Nat) (f_ : Nat → Nat) (p_ : Nat) : pE (Nat × Nat) := pb (p_nd b_ n_ 9 p_) fun q_ => pb (p_nn b_ n_ K_ f_ 12 q_) fun r_ => .inr (q_, r_)
def y_2 (b_ : Nat → Int) (n_ K_ : Nat) (f_ : Nat → Nat) (p_ : Nat) : pE (Nat × Nat) := pb (y_1 b_ n_ K_ f_ p_) fun a_ => pb (p_nd b_ n_ 40 a_.2) fun u_ => .inr (a_.1, u_)
def y_3 (b_ : Nat → Int) (n_ K_ : Nat) (f_ : Nat → Nat) (p_ : Nat) : pE (Nat × pI) := pb (y_2 b_ n_ K_ f_ p_) fun a_ => pb (p_ci b_ n_ 4 0 f_0 a_.2) fun i_ => .inr (a_.1, i_)
def y_4 (b_ : Nat → Int) (n_ K_ : Nat) (f_ : Nat → Nat) (p_ : Nat) : pE ((Nat × pI) × Nat) := pb (y_3 b_ n_ K_ f_ p_) fun a_ => pb (p_nd b_ n_ 41 a_.2.2.2) fun w_ => .inr (a_, w_)
def y_5 (b_ : Nat → Int) (n_ K_ : Nat) (f_ : Nat → Nat) (p_ : Nat) : pE ((Nat × pI) × Nat) := pb (y_4 b_ n_ K_ f_ p_) fun a_ => pb (p_nd b_ n_ 61 a_.2) fun x_ => .inr (a_.1, x_)
def y_6 (b_ : Nat → Int) (n_ K_ : Nat) (f_ : Nat → Nat) (p_ : Nat) : pE ((Nat × pI) × pR) := pb (y_5 b_ n_ K_ f_ p_) fun a_ => pb (p_ex b_ n_ true (p_pl b_ n_ a_.1.2.1 a_.1.2.2.1) [] a_.2) fun y_ => .inr (a_.1, y_)
def y_7 (b_ : Nat → Int) (n_ K_ : Nat) (f_ : Nat → Nat) (p_ : Nat) : pE (((Nat × pI) × pR) × (Nat × Int)) := pb (y_6 b_ n_ K_ f_ p_) fun a_ => pb (pb (p_nd b_ n_ 44 a_.2.1) (p_ms b_ n_ 1000)) fun ar_ => .inr (a_, ar_)
def y_8 (b_ : Nat → Int) (n_ K_ : Nat) (f_ : Nat → Nat) (p_ : Nat) : pE ((((Nat × pI) × pR) × (Nat × Int)) × (Nat × Int)) := pb (y_7 b_ n_ K_ f_ p_) fun a_ => pb (pb (p_nd b_ n_ 44 a_.2.1) (p_ms b_ n_ 100)) fun dl_ => .inr (a_, dl_)
def y_9 (b_ : Nat → Int) (n_ K_ : Nat) (f_ : Nat → Nat) (p_ : Nat) : pE (((((Nat × pI) × pR) × (Nat × Int)) × (Nat × Int)) × Nat) := pb (y_8 b_ n_ K_ f_ p_) fun a_ => pb (p_nd b_ n_ 59 a_.2.1) fun z_ => .inr (a_, z_)
theorem ce_y {b_ : Nat → Int} {n_ K_ p_ : Nat} {f_ : Nat → Nat} : p_ce b_ n_ K_ f_ p_ = pb (y_9 b_ n_ K_ f_ p_) fun a_ => .inr (a_.1.1.1.1.1, a_.1.1.1.1.2.1, p_tb a_.1.1.1.1.2.1 (h_tp a_.1.1.1.2.2.1), a_.1.1.2.2, a_.1.2.2, a_.2) := by
  unfold p_ce y_9 y_8 y_7 y_6 y_5 y_4 y_3 y_2 y_1
  simp only [pb_as, pb_ir]
def g_d {α : Type} (z_ : pE α) (d_ : α) : α := match z_ with
  | .inl _ => d_
  | .inr a_ => a_
theorem y5_1 {b_ : Nat → Int} {n_ K_ p_ : Nat} {f_ : Nat → Nat} {a_ : (Nat × pI) × Nat} (h_ : y_5 b_ n_ K_ f_ p_ = .inr a_) : y_3 b_ n_ K_ f_ p_ = .inr a_.1 := by
  obtain ⟨a4_, h1_, h2_⟩ := pb_inr h_
  obtain ⟨x_, h3_, h4_⟩ := pb_inr h2_
  cases h4_
  obtain ⟨a3_, h5_, h6_⟩ := pb_inr h1_
  obtain ⟨w_, h7_, h8_⟩ := pb_inr h6_
  cases h8_
  exact h5_
theorem y3_1 {b_ : Nat → Int} {n_ K_ p_ : Nat} {f_ : Nat → Nat} {a_ : Nat × pI} (h_ : y_3 b_ n_ K_ f_ p_ = .inr a_) : ∃ u_, y_2 b_ n_ K_ f_ p_ = .inr (a_.1, u_) := by
  obtain ⟨a2_, h1_, h2_⟩ := pb_inr h_
  obtain ⟨i_, h3_, h4_⟩ := pb_inr h2_
  cases h4_
  exact ⟨a2_.2, h1_⟩
theorem y2_1 {b_ : Nat → Int} {n_ K_ p_ : Nat} {f_ : Nat → Nat} {a_ : Nat × Nat} (h_ : y_2 b_ n_ K_ f_ p_ = .inr a_) : p_nd b_ n_ 9 p_ = .inr a_.1 ∧ ∃ r_, p_nn b_ n_ K_ f_ 12 a_.1 = .inr r_ := by
  obtain ⟨a1_, h1_, h2_⟩ := pb_inr h_
  obtain ⟨u_, h3_, h4_⟩ := pb_inr h2_
  cases h4_
  obtain ⟨q_, h5_, h6_⟩ := pb_inr h1_
  obtain ⟨r_, h7_, h8_⟩ := pb_inr h6_
  cases h8_
  exact ⟨h5_, r_, h7_⟩
theorem ex_2 {b_ : Nat → Int} {n_ M_ K_ p_ : Nat} {A_ : pA} {f_ : Nat → Nat} {c_ : List Int} : p_ex b_ n_ (mdo 2) (p_pm b_ n_ (mdo 2) A_ M_ K_ f_) c_ p_ = p_ex b_ n_ true (p_pl b_ n_ K_ f_) c_ p_ := by
  unfold p_pm
  rw [show mdo 2 = true from rfl, if_pos rfl]
theorem pm_2 {b_ : Nat → Int} {n_ M_ K_ : Nat} {A_ : pA} {f_ : Nat → Nat} : pr_ok b_ n_ (p_pm b_ n_ (mdo 2) A_ M_ K_ f_) := by
  unfold p_pm
  rw [show mdo 2 = true from rfl, if_pos rfl]
  exact pl_ok
theorem sh_b {c_ : Int} (h_ : 0 ≤ c_ ∧ c_ ≤ 3) : (0 ≤ i_shl 1 c_ ∧ i_shl 1 c_ ≤ 8) ∧ 1 ≤ i_shl 1 (i_shl 1 c_) ∧ i_shl 1 (i_shl 1 c_) ≤ 256 := by
  have h4_ : c_ = 0 ∨ c_ = 1 ∨ c_ = 2 ∨ c_ = 3 := by omega
  rcases h4_ with e_ | e_ | e_ | e_ <;> (subst e_; decide +kernel)
/-- measures within their bounds -/
def c_dt (K_ : Nat) (S_ : sm_S) : Prop := ∀ k_, k_ < K_ → (0 ≤ S_.2.2.1 181 0 k_ ∧ S_.2.2.1 181 0 k_ ≤ 1000) ∧ (0 ≤ S_.2.2.1 182 0 k_ ∧ S_.2.2.1 182 0 k_ ≤ 100)
def rwc (b_ : Nat → Int) (n_ T_ K_ : Nat) (f_ : Nat → Nat) (S_ : sm_S) : Prop := rw_ b_ n_ T_ 178 83 K_ f_ S_ ∧ c_dt K_ S_
theorem rwc_fr {w_ : sx_Wl} {b_ : Nat → Int} {n_ T_ K_ : Nat} {f_ : Nat → Nat} {S_ S'_ : sm_S} (h_ : rwc b_ n_ T_ K_ f_ S_) (g_ : ai_fr (sx_W w_) S_ S'_) (h0_ : (sx_W w_).1 13 83 = false) (h1_ : (sx_W w_).2.1 178 = false) (h2_ : (sx_W w_).2.1 181 = false) (h3_ : (sx_W w_).2.1 182 = false) : rwc b_ n_ T_ K_ f_ S'_ := by
  refine ⟨rw_fr h_.1 g_ h0_ h1_, ?_⟩
  unfold c_dt
  rw [fr_arr g_ h2_, fr_arr g_ h3_]
  exact h_.2
theorem cdt_up {K_ i_ : Nat} {v_ w_ : Int} {S1_ S2_ S3_ S4_ S5_ : sm_S} (h_ : c_dt K_ S1_) (hi_ : i_ = K_) (hv_ : 1 ≤ v_ ∧ v_ ≤ 1000) (hw_ : 1 ≤ w_ ∧ w_ ≤ 100) (a2_ : S2_.2.2.1 181 0 = S1_.2.2.1 181 0) (d2_ : S2_.2.2.1 182 0 = S1_.2.2.1 182 0) (a3_ : S3_.2.2.1 181 0 = (sm_aI S2_ 181 0 i_ v_).2.2.1 181 0) (d3_ : S3_.2.2.1 182 0 = (sm_aI S2_ 181 0 i_ v_).2.2.1 182 0) (a4_ : S4_.2.2.1 181 0 = (sm_aI S3_ 182 0 i_ w_).2.2.1 181 0) (d4_ : S4_.2.2.1 182 0 = (sm_aI S3_ 182 0 i_ w_).2.2.1 182 0) (a5_ : S5_.2.2.1 181 0 = S4_.2.2.1 181 0) (d5_ : S5_.2.2.1 182 0 = S4_.2.2.1 182 0) : c_dt (K_ + 1) S5_ := by
  intro k_ hk_
  rw [a5_, d5_, a4_, d4_, rd_ne (by decide), rd_eq, a3_, d3_, rd_eq, rd_ne (by decide), a2_, d2_]
  by_cases e_ : k_ = i_
  · rw [if_pos e_, if_pos e_]; omega
  · rw [if_neg e_, if_neg e_]; exact h_ k_ (by omega)
theorem ms_b {b_ : Nat → Int} {n_ p_ : Nat} {mo_ : Int} {x_ : pE Nat} {r_ : Nat × Int} (h_ : pb x_ (p_ms b_ n_ mo_) = .inr r_) : 1 ≤ r_.2 ∧ r_.2 ≤ mo_ := by
  obtain ⟨q_, h1_, h2_⟩ := pb_inr h_
  obtain ⟨v_, h3_, h4_⟩ := pb_inr h2_
  obtain ⟨u_, h5_, h6_⟩ := pb_inr h4_
  cases h6_
  exact (p_nu_ok h3_).2.2
/-- so_ many inputs read, at r_ -/
def y_i (b_ : Nat → Int) (n_ T_ : Nat) (Z_ : pE (Nat × pI)) (S_ : sm_S) : Prop := ∃ q_ K1_ f1_ r_, rg b_ n_ T_ (.inr r_) S_ ∧ inr_ b_ n_ T_ K1_ f1_ S_ ∧ 1 ≤ K1_ ∧ Z_ = (pb (if lx_kd b_ n_ r_ = 44 then pb (p_ad b_ n_ r_) fun q2_ => p_ci b_ n_ (4 - K1_) K1_ f1_ q2_ else .inr (K1_, f1_, r_)) fun i_ => .inr (q_, i_))
def y_w (b_ : Nat → Int) (n_ T_ : Nat) (Z_ : pE (Nat × pI)) (S_ : sm_S) : Prop := ∃ e_, Z_ = .inl e_ ∧ rg b_ n_ T_ (.inl e_) S_
theorem yi_nn {b_ : Nat → Int} {n_ T_ K1_ q_ : Nat} {f1_ : Nat → Nat} {x_ : pE Nat} {Z_ : pE (Nat × pI)} {S_ : sm_S} (hK_ : K1_ ≤ 3) (g_ : rg b_ n_ T_ (pb x_ (p_nn b_ n_ K1_ f1_ 3)) S_) (hi_ : ∀ p_ r_, x_ = .inr p_ → p_nn b_ n_ K1_ f1_ 3 p_ = .inr r_ → inr_ b_ n_ T_ (K1_ + 1) (n_up f1_ K1_ p_) S_) (hZ_ : Z_ = pb (pb x_ fun u_ => p_ci b_ n_ (4 - K1_) K1_ f1_ u_) fun i_ => .inr (q_, i_)) : y_w b_ n_ T_ Z_ S_ ∨ y_i b_ n_ T_ Z_ S_ := by
  cases x_ with
  | inl e_ => left; exact ⟨e_, hZ_, g_⟩
  | inr p_ =>
    have g_ : rg b_ n_ T_ (p_nn b_ n_ K1_ f1_ 3 p_) S_ := g_
    have hZ_ : Z_ = pb (p_ci b_ n_ (4 - K1_) K1_ f1_ p_) fun i_ => .inr (q_, i_) := hZ_
    rw [show 4 - K1_ = (3 - K1_) + 1 by omega, p_ci] at hZ_
    cases hn_ : p_nn b_ n_ K1_ f1_ 3 p_ with
    | inl e_ => rw [hn_] at hZ_ g_; left; exact ⟨e_, hZ_, g_⟩
    | inr r_ =>
      rw [hn_] at hZ_ g_
      right
      refine ⟨q_, K1_ + 1, n_up f1_ K1_ p_, r_, g_, hi_ p_ r_ rfl hn_, by omega, ?_⟩
      rw [show 4 - (K1_ + 1) = 3 - K1_ by omega]
      exact hZ_
def r_m4 (S_ : sm_S) : Nat := if S_.1 13 0 10 ≠ 0 then 1 else (12 - S_.1 13 0 80).toNat
theorem rm4_b {S_ : sm_S} (hI_ : gi S_) : 1 ≤ r_m4 S_ ∧ r_m4 S_ ≤ 12 := by
  have z_ : 0 ≤ S_.1 13 0 80 ∧ S_.1 13 0 80 ≤ 3 := hI_.1 13 0 80 rfl
  unfold r_m4
  split <;> omega
