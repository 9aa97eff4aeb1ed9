/-! 99.yqa -/
section
/-! the reference: modules told; written by wip/p55/gen/vg -/

/-! modules told -/
def z_b3 (b_ : Nat → Int) (n_ : Nat) (N_ : Nat → Nat) (M_ q_ : Nat) : pE Nat := pb (pb (p_nd b_ n_ 3 q_) (p_du b_ n_ 1)) fun r_ => if p_fm b_ n_ N_ M_ r_ = -1 then .inr r_ else .inl (10, r_)
def z_b4 (b_ : Nat → Int) (n_ : Nat) (N_ : Nat → Nat) (M_ q_ : Nat) : pE Nat := pb (z_b3 b_ n_ N_ M_ q_) fun r_ => if M_ = 16 then .inl (15, r_) else .inr r_
def z_b5 (b_ : Nat → Int) (n_ : Nat) (N_ : Nat → Nat) (M_ q_ : Nat) : pE (Nat × Nat) := pb (z_b4 b_ n_ N_ M_ q_) fun r_ => pb (p_ad b_ n_ r_) fun u_ => .inr (r_, u_)
def z_b6 (b_ : Nat → Int) (n_ : Nat) (N_ : Nat → Nat) (M_ q_ : Nat) : pE (Nat × Nat) := pb (z_b5 b_ n_ N_ M_ q_) fun a_ => pb (p_nd b_ n_ 123 a_.2) fun u_ => .inr (a_.1, u_)
theorem bm_eq {b_ : Nat → Int} {n_ M_ q_ : Nat} {A_ : pA} {N_ : Nat → Nat} : p_bm b_ n_ A_ N_ M_ q_ = pb (z_b6 b_ n_ N_ M_ q_) fun a_ => .inr (a_bm A_ M_, n_up N_ M_ a_.1, a_.2) := by
  unfold p_bm z_b6 z_b5 z_b4 z_b3
  simp only [pb_as, pb_ir]
  refine congrArg (pb _) (funext fun r_ => ?_)
  unfold p_du
  by_cases g_ : lx_kd b_ n_ r_ = 1
  · rw [if_pos g_, if_pos g_]
    show _ = pb (if p_fm b_ n_ N_ M_ r_ = -1 then .inr r_ else .inl (10, r_)) _
    by_cases g2_ : p_fm b_ n_ N_ M_ r_ = -1
    · rw [if_pos g2_, if_pos g2_]
      show _ = pb (if M_ = 16 then .inl (15, r_) else .inr r_) _
      by_cases g3_ : M_ = 16
      · rw [if_pos g3_, if_pos g3_]; rfl
      · rw [if_neg g3_, if_neg g3_]; rfl
    · rw [if_neg g2_, if_neg g2_]; rfl
  · rw [if_neg g_, if_neg g_]; rfl
theorem b3_r {b_ : Nat → Int} {n_ M_ q_ r_ : Nat} {N_ : Nat → Nat} (h_ : z_b3 b_ n_ N_ M_ q_ = .inr r_) : pb (p_nd b_ n_ 3 q_) (p_du b_ n_ 1) = .inr r_ ∧ lx_kd b_ n_ r_ = 1 := by
  obtain ⟨r1_, h1_, h2_⟩ := pb_inr h_
  split at h2_
  · cases h2_
    refine ⟨h1_, ?_⟩
    obtain ⟨r2_, h3_, h4_⟩ := pb_inr h1_
    unfold p_du at h4_
    split at h4_
    · rename_i g_
      cases h4_
      exact g_
    · cases h4_
  · cases h2_
theorem b4_r {b_ : Nat → Int} {n_ M_ q_ r_ : Nat} {N_ : Nat → Nat} (h_ : z_b4 b_ n_ N_ M_ q_ = .inr r_) : z_b3 b_ n_ N_ M_ q_ = .inr r_ ∧ M_ ≠ 16 := by
  obtain ⟨r1_, h1_, h2_⟩ := pb_inr h_
  split at h2_
  · cases h2_
  · rename_i g_
    cases h2_
    exact ⟨h1_, g_⟩
theorem b6_r {b_ : Nat → Int} {n_ M_ q_ : Nat} {N_ : Nat → Nat} {a_ : Nat × Nat} (hq_ : q_ ≤ n_) (h_ : z_b6 b_ n_ N_ M_ q_ = .inr a_) : z_b4 b_ n_ N_ M_ q_ = .inr a_.1 ∧ nmp b_ n_ a_.1 ∧ q_ < a_.2 ∧ a_.2 ≤ n_ ∧ pb (p_ad b_ n_ a_.1) (p_nd b_ n_ 123) = .inr a_.2 := by
  obtain ⟨a1_, h1_, h2_⟩ := pb_inr h_
  obtain ⟨u_, h3_, h4_⟩ := pb_inr h2_
  cases h4_
  obtain ⟨r_, h5_, h6_⟩ := pb_inr h1_
  obtain ⟨v_, h7_, h8_⟩ := pb_inr h6_
  cases h8_
  have k1_ := b3_r (b4_r h5_).1
  obtain ⟨r2_, h9_, h10_⟩ := pb_inr k1_.1
  have k2_ := nd_ok hq_ (by decide) h9_
  have e_ : r_ = r2_ := by
    unfold p_du at h10_
    split at h10_
    · cases h10_; rfl
    · cases h10_
  subst e_
  have k3_ := p_ad_ok k2_.2.1 (by omega) h7_
  have k4_ := nd_ok k3_.2.2.1 (by decide) h3_
  have k5_ := k2_.1
  have k6_ := k3_.2.1
  have k7_ : v_ < u_ := k4_.1
  exact ⟨h5_, ⟨k2_.2.1, k1_.2⟩, by show q_ < u_; omega, k4_.2.1, by rw [pb_r h7_]; exact h3_⟩
theorem dl_w {b_ : Nat → Int} {n_ f_ M_ p_ : Nat} {A_ : pA} {N_ mc : Nat → Nat} {c_ : List Int} {e_ : Int × Nat} (hk_ : lx_kd b_ n_ p_ ≠ 125) (h_ : p_i2 b_ n_ A_ N_ M_ c_ p_ = .inl e_) : p_dl b_ n_ (f_ + 1) A_ N_ M_ mc c_ p_ = .inl e_ := by
  unfold p_i2 at h_
  cases hi_ : p_it b_ n_ A_ N_ M_ c_ p_ with
  | some x_ =>
    rw [hi_] at h_
    rw [dl_i hi_]
    have h_ : x_ = .inl e_ := h_
    rw [h_]
    rfl
  | none =>
    rw [hi_] at h_
    rw [dl_n hi_]
    unfold p_en p_nd
    rw [if_neg hk_]
    cases h_
    rfl
theorem dl_r {b_ : Nat → Int} {n_ f_ M_ p_ : Nat} {A_ : pA} {N_ mc : Nat → Nat} {c_ : List Int} {r_ : pT} (h_ : p_i2 b_ n_ A_ N_ M_ c_ p_ = .inr r_) : p_dl b_ n_ (f_ + 1) A_ N_ M_ mc c_ p_ = p_dl b_ n_ f_ r_.1 N_ M_ mc r_.2.1 r_.2.2 := by
  unfold p_i2 at h_
  cases hi_ : p_it b_ n_ A_ N_ M_ c_ p_ with
  | some x_ =>
    rw [hi_] at h_
    rw [dl_i hi_]
    have h_ : x_ = .inr r_ := h_
    rw [h_]
    rfl
  | none =>
    rw [hi_] at h_
    cases h_
theorem dl_e {b_ : Nat → Int} {n_ f_ M_ p_ : Nat} {A_ : pA} {N_ mc : Nat → Nat} {c_ : List Int} (hk_ : lx_kd b_ n_ p_ = 125) : p_dl b_ n_ (f_ + 1) A_ N_ M_ mc c_ p_ = pb (p_nd b_ n_ 125 p_) fun r_ => if lx_kd b_ n_ r_ = 0 then .inr (A_, N_, M_ + 1, n_up mc (M_ + 1) c_.length, c_) else pb (p_bm b_ n_ A_ N_ (M_ + 1) r_) fun x_ => p_dl b_ n_ f_ x_.1 x_.2.1 (M_ + 1) (n_up mc (M_ + 1) c_.length) c_ x_.2.2 := by
  have hi_ : p_it b_ n_ A_ N_ M_ c_ p_ = none := by
    unfold p_it
    rw [if_neg (by omega), if_neg (by omega), if_neg (by omega), if_neg (by omega), if_neg (by omega), if_neg (by omega)]
  rw [dl_n hi_]
  unfold p_en
  rw [pb_as]
  refine congrArg (pb _) (funext fun r_ => ?_)
  by_cases g_ : lx_kd b_ n_ r_ = 0
  · rw [if_pos g_, if_pos g_]; rfl
  · rw [if_neg g_, if_neg g_, pb_as]; rfl
/-- where a_ module's body begins, and its_ token -/
def bdy (b_ : Nat → Int) (n_ T_ : Nat) (N_ : Nat → Nat) (m_ : Nat) (S_ : sm_S) : Prop := ∃ u_ i_, pb (p_ad b_ n_ (N_ m_)) (p_nd b_ n_ 123) = .inr u_ ∧ rp b_ n_ T_ i_ u_ ∧ S_.2.2.1 125 0 m_ = (i_ : Int)
theorem bdy_fr {w_ : sx_Wl} {b_ : Nat → Int} {n_ T_ m_ : Nat} {N_ : Nat → Nat} {S_ S'_ : sm_S} (h_ : bdy b_ n_ T_ N_ m_ S_) (g_ : ai_fr (sx_W w_) S_ S'_) (h0_ : (sx_W w_).2.1 125 = false) : bdy b_ n_ T_ N_ m_ S'_ := by
  unfold bdy at h_ ⊢
  rw [fr_arr g_ h0_]
  exact h_
/-- so_ many modules told -/
def rT (b_ : Nat → Int) (n_ T_ : Nat) (A_ : pA) (N_ : Nat → Nat) (M_ : Nat) (S_ : sm_S) : Prop := S_.1 13 0 12 = (M_ : Int) ∧ M_ ≤ 16 ∧ (∀ m_, m_ < M_ → a_ok b_ n_ A_ m_) ∧ (∀ m_, m_ < M_ → re1 b_ n_ T_ A_ m_ S_) ∧ (∀ m_, m_ < M_ → rs1 A_ m_ S_) ∧ rnr b_ n_ T_ N_ M_ S_ ∧ ∀ m_, m_ < M_ → bdy b_ n_ T_ N_ m_ S_
theorem rnr_fr {w_ : sx_Wl} {b_ : Nat → Int} {n_ T_ M_ : Nat} {N_ : Nat → Nat} {S_ S'_ : sm_S} (h_ : rnr b_ n_ T_ N_ M_ S_) (g_ : ai_fr (sx_W w_) S_ S'_) (h0_ : (sx_W w_).2.1 124 = false) : rnr b_ n_ T_ N_ M_ S'_ := by
  unfold rnr at h_ ⊢
  rw [fr_arr g_ h0_]
  exact h_
theorem rT_fr {w_ : sx_Wl} {b_ : Nat → Int} {n_ T_ M_ : Nat} {A_ : pA} {N_ : Nat → Nat} {S_ S'_ : sm_S} (h_ : rT b_ n_ T_ A_ N_ M_ S_) (g_ : ai_fr (sx_W w_) S_ S'_) (h12_ : (sx_W w_).1 13 12 = false) (h124_ : (sx_W w_).2.1 124 = false) (h126_ : (sx_W w_).2.1 126 = false) (h127_ : (sx_W w_).2.1 127 = false) (h128_ : (sx_W w_).2.1 128 = false) (h129_ : (sx_W w_).2.1 129 = false) (h130_ : (sx_W w_).2.1 130 = false) (h131_ : (sx_W w_).2.1 131 = false) (h132_ : (sx_W w_).2.1 132 = false) (h133_ : (sx_W w_).2.1 133 = false) (h134_ : (sx_W w_).2.1 134 = false) (h135_ : (sx_W w_).2.1 135 = false) (h125_ : (sx_W w_).2.1 125 = false) : rT b_ n_ T_ A_ N_ M_ S'_ :=
  ⟨(g_.1 13 0 12 h12_).trans h_.1, h_.2.1, h_.2.2.1, fun m_ hm_ => re1_fr (h_.2.2.2.1 m_ hm_) g_ h126_ h127_ h128_ h129_ h130_ h131_, fun m_ hm_ => rs1_fr (h_.2.2.2.2.1 m_ hm_) g_ h132_ h133_ h134_ h135_, rnr_fr h_.2.2.2.2.2.1 g_ h124_, fun m_ hm_ => bdy_fr (h_.2.2.2.2.2.2 m_ hm_) g_ h125_⟩
/-- within a_ module -/
def rL (b_ : Nat → Int) (n_ T_ : Nat) (X_ : pE pD) (M_ : Nat) (S_ : sm_S) : Prop := ∃ f_ A_ N_ mc c_ p_, X_ = p_dl b_ n_ f_ A_ N_ M_ mc c_ p_ ∧ n_ < p_ + f_ ∧ rg b_ n_ T_ (.inr p_) S_ ∧ a_ok b_ n_ A_ M_ ∧ (∀ m_, m_ ≤ M_ → re1 b_ n_ T_ A_ m_ S_) ∧ (∀ m_, m_ ≤ M_ → rs1 A_ m_ S_) ∧ rnr b_ n_ T_ N_ M_ S_ ∧ rtk b_ n_ T_ (S_.2.2.1 124 0 M_) (N_ M_) ∧ c_.length ≤ 3 * p_ ∧ ∀ m_, m_ ≤ M_ → bdy b_ n_ T_ N_ m_ S_
def rX (b_ : Nat → Int) (n_ T_ : Nat) (X_ : pE pD) (S_ : sm_S) : Prop := ∃ e_, X_ = .inl e_ ∧ rg b_ n_ T_ (.inl e_) S_
/-- between modules -/
def rN (b_ : Nat → Int) (n_ T_ : Nat) (X_ : pE pD) (S_ : sm_S) : Prop := ∃ A_ N_ M_ mc c_ q_, rg b_ n_ T_ (.inr q_) S_ ∧ rT b_ n_ T_ A_ N_ M_ S_ ∧ 1 ≤ M_ ∧ c_.length ≤ 3 * q_ ∧ ((lx_kd b_ n_ q_ = 0 ∧ X_ = .inr (A_, N_, M_, mc, c_)) ∨ (lx_kd b_ n_ q_ ≠ 0 ∧ ∃ f_, n_ < q_ + f_ ∧ X_ = pb (p_bm b_ n_ A_ N_ M_ q_) fun x_ => p_dl b_ n_ f_ x_.1 x_.2.1 M_ mc c_ x_.2.2))
theorem bm_all {b_ : Nat → Int} {n_ T_ M_ r_ : Nat} {A_ : pA} {N_ : Nat → Nat} {tk_ : Int} {S_ S'_ : sm_S} (h_ : rT b_ n_ T_ A_ N_ M_ S_) (hr_ : rtk b_ n_ T_ tk_ r_) (hM_ : M_ ≤ 15)
  (h0_ : ∀ j_, S'_.2.2.1 124 0 j_ = if j_ = M_ then tk_ else S_.2.2.1 124 0 j_) (h1_ : ∀ j_, S'_.2.2.1 126 0 j_ = if j_ = M_ then 0 else S_.2.2.1 126 0 j_)
  (h2_ : ∀ j_, S'_.2.2.1 132 0 j_ = if j_ = M_ then 0 else S_.2.2.1 132 0 j_) (h3_ : ∀ j_, S'_.2.2.1 133 0 j_ = if j_ = M_ then 0 else S_.2.2.1 133 0 j_) (h4_ : ∀ j_, S'_.2.2.1 134 0 j_ = if j_ = M_ then 0 else S_.2.2.1 134 0 j_) (h5_ : ∀ j_, S'_.2.2.1 135 0 j_ = if j_ = M_ then 0 else S_.2.2.1 135 0 j_)
  (e1_ : S'_.2.2.1 127 0 = S_.2.2.1 127 0) (e2_ : S'_.2.2.1 128 0 = S_.2.2.1 128 0) (e3_ : S'_.2.2.1 129 0 = S_.2.2.1 129 0) (e4_ : S'_.2.2.1 130 0 = S_.2.2.1 130 0) (e5_ : S'_.2.2.1 131 0 = S_.2.2.1 131 0) : a_ok b_ n_ (a_bm A_ M_) M_ ∧ (∀ m_, m_ ≤ M_ → re1 b_ n_ T_ (a_bm A_ M_) m_ S'_) ∧ (∀ m_, m_ ≤ M_ → rs1 (a_bm A_ M_) m_ S'_) ∧ rnr b_ n_ T_ (n_up N_ M_ r_) M_ S'_ ∧ rtk b_ n_ T_ (S'_.2.2.1 124 0 M_) (n_up N_ M_ r_ M_) := by
  obtain ⟨q1_, q2_, q3_, q4_, q5_, q6_, q7_⟩ := h_
  have c0_ : (a_bm A_ M_).1 M_ = 0 := if_pos rfl
  refine ⟨a_bm_ok q3_ hM_, fun m_ hm_ => ?_, fun m_ hm_ => ?_, ⟨by omega, fun m_ hm_ => ?_⟩, ?_⟩
  · by_cases e_ : m_ = M_
    · subst e_
      unfold re1
      rw [c0_, h1_, if_pos rfl]
      exact ⟨rfl, fun s_ hs_ => absurd hs_ (Nat.not_lt_zero _)⟩
    · have k_ := q4_ m_ (by omega)
      have c1_ : (a_bm A_ M_).1 m_ = A_.1 m_ := if_neg e_
      unfold re1 at k_ ⊢
      rw [c1_, h1_, if_neg e_, e1_, e2_, e3_, e4_, e5_]
      exact k_
  · by_cases e_ : m_ = M_
    · subst e_
      unfold rs1
      rw [c0_, h2_, h3_, h4_, h5_, if_pos rfl, if_pos rfl, if_pos rfl, if_pos rfl]
      exact ⟨rfl, rfl, rfl, rfl⟩
    · have k_ := q5_ m_ (by omega)
      have a1_ := q3_ m_ (by omega)
      have c1_ : (a_bm A_ M_).1 m_ = A_.1 m_ := if_neg e_
      unfold rs1 at k_ ⊢
      rw [c1_, h2_, h3_, if_neg e_, if_neg e_]
      have dt_ : ∀ s_, s_ < A_.1 m_ → A_.2.2.1 (40 * m_ + s_) = 5 → (A_.2.2.2.2 (40 * m_ + s_)).toNat ≠ M_ := by
        intro s_ hs1_ h5_
        have := ((a1_.2 m_ (Nat.le_refl m_)).2 s_ hs1_).2.2.2.2.1 h5_
        omega
      refine ⟨k_.1, k_.2.1, ?_, ?_⟩
      · rw [h4_, if_neg e_, k_.2.2.1]
        refine congrArg mn (su_cg fun s_ hs1_ => ?_)
        show t_rg (S_.2.2.1 134 0) A_ m_ s_ = t_rg (S'_.2.2.1 134 0) A_ m_ s_
        unfold t_rg
        by_cases z_ : A_.2.2.1 (40 * m_ + s_) = 3 ∨ A_.2.2.1 (40 * m_ + s_) = 4
        · rw [if_pos z_, if_pos z_]
        · rw [if_neg z_, if_neg z_]
          by_cases z2_ : A_.2.2.1 (40 * m_ + s_) = 5
          · rw [if_pos z2_, if_pos z2_, h4_, if_neg (dt_ s_ hs1_ z2_)]
          · rw [if_neg z2_, if_neg z2_]
      · rw [h5_, if_neg e_, k_.2.2.2]
        refine congrArg mn (su_cg fun s_ hs1_ => ?_)
        show t_is (S_.2.2.1 135 0) A_ m_ s_ = t_is (S'_.2.2.1 135 0) A_ m_ s_
        unfold t_is
        by_cases z2_ : A_.2.2.1 (40 * m_ + s_) = 5
        · rw [if_pos z2_, if_pos z2_, h5_, if_neg (dt_ s_ hs1_ z2_)]
        · rw [if_neg z2_, if_neg z2_]
  · rw [h0_, if_neg (by omega)]
    show rtk b_ n_ T_ _ (if m_ = M_ then r_ else N_ m_)
    rw [if_neg (by omega)]
    exact q6_.2 m_ hm_
  · rw [h0_, if_pos rfl]
    show rtk b_ n_ T_ tk_ (if M_ = M_ then r_ else N_ M_)
    rw [if_pos rfl]
    exact hr_
theorem bm_L {b_ : Nat → Int} {n_ T_ M_ r_ f_ p_ : Nat} {X_ : pE pD} {A_ : pA} {N_ mc : Nat → Nat} {c_ : List Int} {tk_ : Int} {S_ S'_ : sm_S} (h_ : rT b_ n_ T_ A_ N_ M_ S_) (hr_ : rtk b_ n_ T_ tk_ r_) (hM_ : M_ ≤ 15) (hx_ : X_ = p_dl b_ n_ f_ (a_bm A_ M_) (n_up N_ M_ r_) M_ mc c_ p_) (hf_ : n_ < p_ + f_) (hg_ : rg b_ n_ T_ (.inr p_) S'_) (hc_ : c_.length ≤ 3 * p_)
  (h0_ : ∀ j_, S'_.2.2.1 124 0 j_ = if j_ = M_ then tk_ else S_.2.2.1 124 0 j_) (h1_ : ∀ j_, S'_.2.2.1 126 0 j_ = if j_ = M_ then 0 else S_.2.2.1 126 0 j_)
  (h2_ : ∀ j_, S'_.2.2.1 132 0 j_ = if j_ = M_ then 0 else S_.2.2.1 132 0 j_) (h3_ : ∀ j_, S'_.2.2.1 133 0 j_ = if j_ = M_ then 0 else S_.2.2.1 133 0 j_) (h4_ : ∀ j_, S'_.2.2.1 134 0 j_ = if j_ = M_ then 0 else S_.2.2.1 134 0 j_) (h5_ : ∀ j_, S'_.2.2.1 135 0 j_ = if j_ = M_ then 0 else S_.2.2.1 135 0 j_)
  (e1_ : S'_.2.2.1 127 0 = S_.2.2.1 127 0) (e2_ : S'_.2.2.1 128 0 = S_.2.2.1 128 0) (e3_ : S'_.2.2.1 129 0 = S_.2.2.1 129 0) (e4_ : S'_.2.2.1 130 0 = S_.2.2.1 130 0) (e5_ : S'_.2.2.1 131 0 = S_.2.2.1 131 0) (h6_ : ∀ j_, S'_.2.2.1 125 0 j_ = if j_ = M_ then S'_.1 13 0 9 else S_.2.2.1 125 0 j_) (hbo_ : pb (p_ad b_ n_ r_) (p_nd b_ n_ 123) = .inr p_) : rL b_ n_ T_ X_ M_ S'_ := by
  have k_ := bm_all h_ hr_ hM_ h0_ h1_ h2_ h3_ h4_ h5_ e1_ e2_ e3_ e4_ e5_
  obtain ⟨i9_, g1_, g2_⟩ := hg_.2
  have bd_ : ∀ m_, m_ ≤ M_ → bdy b_ n_ T_ (n_up N_ M_ r_) m_ S'_ := by
    intro m_ hm_
    by_cases e_ : m_ = M_
    · refine ⟨p_, i9_, ?_, g2_, ?_⟩
      · rw [show n_up N_ M_ r_ m_ = r_ from if_pos e_]; exact hbo_
      · rw [h6_, if_pos e_]; exact g1_
    · obtain ⟨u_, i_, w1_, w2_, w3_⟩ := h_.2.2.2.2.2.2 m_ (by omega)
      refine ⟨u_, i_, ?_, w2_, ?_⟩
      · rw [show n_up N_ M_ r_ m_ = N_ m_ from if_neg e_]; exact w1_
      · rw [h6_, if_neg e_]; exact w3_
  exact ⟨f_, a_bm A_ M_, n_up N_ M_ r_, mc, c_, p_, hx_, hf_, hg_, k_.1, k_.2.1, k_.2.2.1, k_.2.2.2.1, k_.2.2.2.2, hc_, bd_⟩
theorem rT_nx {b_ : Nat → Int} {n_ T_ M_ : Nat} {A_ : pA} {N_ : Nat → Nat} {S_ : sm_S} {z_ : Int} (hA_ : a_ok b_ n_ A_ M_) (h1_ : ∀ m_, m_ ≤ M_ → re1 b_ n_ T_ A_ m_ S_) (h2_ : ∀ m_, m_ ≤ M_ → rs1 A_ m_ S_) (h3_ : rnr b_ n_ T_ N_ M_ S_) (h4_ : rtk b_ n_ T_ (S_.2.2.1 124 0 M_) (N_ M_)) (h5_ : ∀ m_, m_ ≤ M_ → bdy b_ n_ T_ N_ m_ S_) (hz_ : z_ = (M_ : Int) + 1) : rT b_ n_ T_ A_ N_ (M_ + 1) (sm_pI S_ 13 0 12 z_) := by
  have hM_ := hA_.1
  have f_ : ai_fr (sx_W ([(13, 12)], [], [])) S_ (sm_pI S_ 13 0 12 z_) := ai_fr_pI rfl
  refine ⟨?_, by omega, fun m_ hm_ => a_ok_le hA_ (by omega), fun m_ hm_ => re1_fr (h1_ m_ (by omega)) f_ rfl rfl rfl rfl rfl rfl, fun m_ hm_ => rs1_fr (h2_ m_ (by omega)) f_ rfl rfl rfl rfl, rnr_fr (w_ := ([(13, 12)], [], [])) ⟨by omega, fun m_ hm_ => ?_⟩ f_ rfl, fun m_ hm_ => bdy_fr (h5_ m_ (by omega)) f_ rfl⟩
  · rw [rf_eq, hz_]
    push_cast
    rfl
  · by_cases e_ : m_ = M_
    · rw [e_]; exact h4_
    · exact h3_.2 m_ (by omega)
theorem rms_b {k_ : Int} {S_ : sm_S} (hI_ : gi S_) : r_ms k_ S_ ≤ 1301 := by
  have z_ : 0 ≤ S_.2.2.1 120 0 (S_.1 13 0 9).toNat ∧ S_.2.2.1 120 0 (S_.1 13 0 9).toNat ≤ 1280 := hI_.2 120 0 _
  unfold r_ms
  split <;> omega
theorem rX_z {b_ : Nat → Int} {n_ T_ : Nat} {X_ : pE pD} {S_ : sm_S} (h_ : rX b_ n_ T_ X_ S_) (h0_ : S_.1 13 0 10 = 0) : False := by
  obtain ⟨e_, z1_, z2_⟩ := h_
  exact z2_.2.2 (z2_.1.symm.trans h0_)
/-! M_.tellModule -/
def vw_339 : sx_Wl := ([(13, 9), (13, 10), (13, 11), (13, 12), (13, 25), (13, 26), (13, 28), (13, 32), (13, 33), (13, 34)], [124, 125, 126, 127, 128, 129, 130, 131, 132, 133, 134, 135, 136, 137, 138, 139], [])
def vq_339 (b_ : Nat → Int) (n_ : Nat) (T_ : Nat) (X_ : pE pD) (A_ : pA) (N_ : Nat → Nat) (M_ : Nat) (mc : Nat → Nat) (c_ : List Int) (q_ : Nat) (f_ : Nat) (S0_ : sm_S) (u_ : Option sm_V) (S1_ : sm_S) : Prop := u_ = none ∧ gi S1_ ∧ ai_fr (sx_W vw_339) S0_ S1_ ∧ ((rX b_ n_ T_ X_ S1_ ∨ rN b_ n_ T_ X_ S1_) ∧ ((S1_.1 13 0 10) = 0 → (S1_.1 13 0 12) = (S0_.1 13 0 12) + 1))
set_option maxHeartbeats 2000000 in
set_option maxRecDepth 20000 in
theorem vl_339 {sc_ : Nat × (Nat → Int)} (b_ : Nat → Int) (n_ : Nat) (T_ : Nat) (X_ : pE pD) (A_ : pA) (N_ : Nat → Nat) (M_ : Nat) (mc : Nat → Nat) (c_ : List Int) (q_ : Nat) (f_ : Nat) (S0_ : sm_S) (ht_ : rtab b_ n_ T_ S0_) (hx_ : rg b_ n_ T_ (.inr q_) S0_) (hT_ : rT b_ n_ T_ A_ N_ M_ S0_) (hmo_ : (S0_.1 13 0 27) = 0) (hc_ : c_.length ≤ 3 * q_) (hX_ : X_ = (pb (p_bm b_ n_ A_ N_ M_ q_) fun x_ => p_dl b_ n_ f_ x_.1 x_.2.1 M_ mc c_ x_.2.2)) (hf_ : n_ < q_ + f_) : ∀ nn_ : Nat, (∀ (tk_ : Int) (S_ : sm_S), gi S_ → ai_fr (sx_W vw_339) S0_ S_ → ((rg b_ n_ T_ (z_b3 b_ n_ N_ M_ q_) S_) ∧ (∀ r_, (pb (p_nd b_ n_ 3 q_) (p_du b_ n_ 1)) = .inr r_ → rtk b_ n_ T_ tk_ r_) ∧ (0 ≤ tk_ ∧ tk_ ≤ 1280) ∧ (rT b_ n_ T_ A_ N_ M_ S_) ∧ True) → ((9000 : Nat)) < nn_ → sm_T (mt_P sc_) 10 339 (50, [some (.inr (.inr (some (13, 0)))), some (.inl tk_), none], [], S_) (fun ro9_ => ∃ u_ S1_, ro9_ = (.inl u_, S1_, 0) ∧ vq_339 b_ n_ T_ X_ A_ N_ M_ mc c_ q_ f_ S0_ u_ S1_)) ∧ (∀ (tk_ : Int) (S_ : sm_S), gi S_ → ai_fr (sx_W vw_339) S0_ S_ → ((rg b_ n_ T_ (z_b4 b_ n_ N_ M_ q_) S_) ∧ (∀ r_, (pb (p_nd b_ n_ 3 q_) (p_du b_ n_ 1)) = .inr r_ → rtk b_ n_ T_ tk_ r_) ∧ (0 ≤ tk_ ∧ tk_ ≤ 1280) ∧ (rT b_ n_ T_ A_ N_ M_ S_) ∧ True) → ((8000 : Nat)) < nn_ → sm_T (mt_P sc_) 10 339 (73, [some (.inr (.inr (some (13, 0)))), some (.inl tk_), none], [], S_) (fun ro9_ => ∃ u_ S1_, ro9_ = (.inl u_, S1_, 0) ∧ vq_339 b_ n_ T_ X_ A_ N_ M_ mc c_ q_ f_ S0_ u_ S1_)) ∧ (∀ (k2_ : Int) (S_ : sm_S), gi S_ → ai_fr (sx_W vw_339) S0_ S_ → ((0 ≤ k2_ ∧ k2_ ≤ 15) ∧ ((S_.1 13 0 12) = (M_ : Int)) ∧ (rX b_ n_ T_ X_ S_ ∨ (k2_ = (M_ : Int) ∧ M_ ≤ 15 ∧ (S_.1 13 0 28) = (M_ : Int) ∧ rL b_ n_ T_ X_ M_ S_)) ∧ True) → (r_ms 0 S_) < nn_ → sm_T (mt_P sc_) 10 339 (155, [some (.inr (.inr (some (13, 0)))), none, some (.inl k2_)], [], S_) (fun ro9_ => ∃ u_ S1_, ro9_ = (.inl u_, S1_, 0) ∧ vq_339 b_ n_ T_ X_ A_ N_ M_ mc c_ q_ f_ S0_ u_ S1_)) := by
  intro nn_
  induction nn_ with
  | zero => exact ⟨fun _ _ _ _ _ h_ => absurd h_ (Nat.not_lt_zero _), fun _ _ _ _ _ h_ => absurd h_ (Nat.not_lt_zero _), fun _ _ _ _ _ h_ => absurd h_ (Nat.not_lt_zero _)⟩
  | succ nn_ ih_ =>
    refine ⟨?_, ?_, ?_⟩
    · rintro tk_ S_ hI_ hF_ ⟨g50_, tk50_, tb50_, T50_, -⟩ hm_
      have le0_ := rg_le ht_ hx_
      have hn1_ := ht_.1
      have hM16_ := hT_.2.1
      have t50_ := rtab_fr ht_ hF_ rfl rfl rfl rfl rfl
      refine sm_T_go 1 (c1 := (51, [some (.inr (.inr (some (13, 0)))), some (.inl tk_), none], [.inr (.inr (some (13, 0)))], S_)) rfl ?_
      refine sm_T_cal (d1 := 0) (Q1 := vq_292  S_) rfl rfl (by decide) (vc_292  S_ hI_ ) (fun u_ Sx1_ px4_ => ?_)
      obtain ⟨rfl, vx6_, rfl, px4_⟩ := px4_
      have e51_ := px4_
      refine sm_T_b0 (a := 0) (z := 19) rfl (fun cx7_ => ?_) (fun cx7_ => ?_)
      · have cx7_ : vx6_ = 0 := of_decide_eq_true cx7_
        have hz_ := wr_if e51_ (by omega)
        obtain ⟨e5_, he5_⟩ := rg_w g50_ hz_
        have b4w : (z_b4 b_ n_ N_ M_ q_) = .inl e5_ := by unfold z_b4; rw [he5_]; rfl
        have g4w := g50_
        rw [he5_] at g4w
        refine sm_T_go 0 (c1 := (73, [some (.inr (.inr (some (13, 0)))), some (.inl tk_), none], [], S_)) rfl ?_
        refine ih_.2.1 tk_ S_ hI_ hF_ ⟨?_, ?_, ?_, ?_, trivial⟩ ?_
        · first | exact g70_ | (rw [b4w]; exact g4w) | (rw [b4c, if_neg (by omega)]; exact g4r)
        · exact tk50_
        · omega
        · first | exact T70_ | exact T50_
        · omega
      · have cx7_ : ¬ (vx6_ = 0) := of_decide_eq_false cx7_
        have hz_ := rt_if e51_ (by omega)
        obtain ⟨r2_, i2_, hr2_, hi21_, hi22_⟩ := rg_r g50_ hz_
        have rt2_ := tk50_ r2_ (b3_r hr2_).1
        have pt2_ := rtk_pl t50_ rt2_
        have g4r := g50_
        rw [hr2_] at g4r
        have b4c : (z_b4 b_ n_ N_ M_ q_) = if M_ = 16 then .inl (15, r2_) else .inr r2_ := by unfold z_b4; rw [hr2_]; rfl
        have so2_ : S_.2.2.1 119 0 tk_.toNat ≠ 4 := by obtain ⟨i3_, y1_, y2_, y3_, y4_⟩ := rt2_; have y5_ := (t50_.2.2.1.1 i3_ y2_).2; rw [← y3_] at y5_; rw [y1_, Int.toNat_natCast, y5_.2.1, y4_.2]; decide
        have ms50_ := T50_.1
        have bx8_ : 0 ≤ S_.1 13 0 12 ∧ S_.1 13 0 12 ≤ 16 := hI_.1 13 0 12 rfl
        refine sm_T_go 3 (c1 := (63, [some (.inr (.inr (some (13, 0)))), some (.inl tk_), none], [.inl 16, .inl (S_.1 13 0 12)], S_)) rfl ?_
        refine sm_T_br (a := 1) (z := 10) rfl (fun cx9_ => ?_) (fun cx9_ => ?_)
        · have cx9_ : (S_.1 13 0 12) ≠ 16 := of_decide_eq_true cx9_
          refine sm_T_go 0 (c1 := (73, [some (.inr (.inr (some (13, 0)))), some (.inl tk_), none], [], S_)) rfl ?_
          refine ih_.2.1 tk_ S_ hI_ hF_ ⟨?_, ?_, ?_, ?_, trivial⟩ ?_
          · first | exact g70_ | (rw [b4w]; exact g4w) | (rw [b4c, if_neg (by omega)]; exact g4r)
          · exact tk50_
          · omega
          · first | exact T70_ | exact T50_
          · omega
        · have cx9_ : ¬ ((S_.1 13 0 12) ≠ 16) := of_decide_eq_false cx9_
          refine sm_T_go 3 (c1 := (70, [some (.inr (.inr (some (13, 0)))), some (.inl tk_), none], [.inl tk_, .inl 15, .inr (.inr (some (13, 0)))], S_)) rfl ?_
          refine sm_T_cal (d1 := 0) (Q1 := vq_293 15 tk_ S_) rfl rfl (by decide) (vc_293 15 tk_ S_ hI_ (by decide) (by omega)) (fun u_ Sx10_ px13_ => ?_)
          obtain ⟨rfl, hIx11_, hFx12_, px13_⟩ := px13_
          have hFx14_ : ai_fr (sx_W vw_339) S0_ Sx10_ := ai_fr_tr hF_ (fr_le hFx12_ rfl)
          have ex15_ : Sx10_.1 13 0 12 = S_.1 13 0 12 := hFx12_.1 13 0 12 rfl
          have g70_ : rg b_ n_ T_ (z_b4 b_ n_ N_ M_ q_) Sx10_ := by rw [b4c, if_pos (by omega)]; rcases px13_ with z_ | z_; (exact absurd hz_ z_.1); (exact ⟨z_.2.1.trans (if_neg so2_), z_.2.2.trans pt2_.2, by show (15 : Int) ≠ 0; decide⟩)
          have T70_ := rT_fr T50_ hFx12_ rfl rfl rfl rfl rfl rfl rfl rfl rfl rfl rfl rfl rfl
          refine sm_T_go 0 (c1 := (73, [some (.inr (.inr (some (13, 0)))), some (.inl tk_), none], [], Sx10_)) rfl ?_
          refine ih_.2.1 tk_ Sx10_ hIx11_ hFx14_ ⟨?_, ?_, ?_, ?_, trivial⟩ ?_
          · first | exact g70_ | (rw [b4w]; exact g4w) | (rw [b4c, if_neg (by omega)]; exact g4r)
          · exact tk50_
          · omega
          · first | exact T70_ | exact T50_
          · omega
    · rintro tk_ S_ hI_ hF_ ⟨g73_, tk73_, tb73_, T73_, -⟩ hm_
      have le0_ := rg_le ht_ hx_
      have hn1_ := ht_.1
      have hM16_ := hT_.2.1
      have t73_ := rtab_fr ht_ hF_ rfl rfl rfl rfl rfl
      refine sm_T_go 1 (c1 := (74, [some (.inr (.inr (some (13, 0)))), some (.inl tk_), none], [.inr (.inr (some (13, 0)))], S_)) rfl ?_
      refine sm_T_cal (d1 := 2) (Q1 := vq_297 b_ n_ T_ (z_b4 b_ n_ N_ M_ q_) S_) rfl rfl (by decide) (vc_297 b_ n_ T_ (z_b4 b_ n_ N_ M_ q_) S_ hI_ (by exact t73_) (by exact g73_) (by (intro r_ e_; have z_ := (b3_r (b4_r e_).1).2; omega))) (fun u_ Sx1_ px4_ => ?_)
      obtain ⟨rfl, hIx2_, hFx3_, px4_⟩ := px4_
      have hFx5_ : ai_fr (sx_W vw_339) S0_ Sx1_ := ai_fr_tr hF_ (fr_le hFx3_ rfl)
      have t74_ := rtab_fr t73_ hFx3_ rfl rfl rfl rfl rfl
      have g74_ : rg b_ n_ T_ (pb (z_b5 b_ n_ N_ M_ q_) fun a_ => .inr a_.2) Sx1_ := rg_pb (z_ := (z_b4 b_ n_ N_ M_ q_)) (ps_ := fun a_ => a_) (g_ := p_ad b_ n_) (by rw [pb_id]; exact px4_.1) (fun a_ _ => by rw [pb_as]; exact pb_id.symm)
      have T74_ := rT_fr T73_ hFx3_ rfl rfl rfl rfl rfl rfl rfl rfl rfl rfl rfl rfl rfl
      refine sm_T_go 2 (c1 := (80, [some (.inr (.inr (some (13, 0)))), some (.inl tk_), none], [.inl 123, .inr (.inr (some (13, 0)))], Sx1_)) rfl ?_
      refine sm_T_cal (d1 := 3) (Q1 := vq_300 123 b_ n_ T_ (pb (z_b5 b_ n_ N_ M_ q_) fun a_ => .inr a_.2) Sx1_) rfl rfl (by decide) (vc_300 123 b_ n_ T_ (pb (z_b5 b_ n_ N_ M_ q_) fun a_ => .inr a_.2) Sx1_ hIx2_ (by exact t74_) (by exact g74_) (by decide)) (fun u_ Sx6_ px9_ => ?_)
      obtain ⟨rfl, hIx7_, hFx8_, px9_⟩ := px9_
      have hFx10_ : ai_fr (sx_W vw_339) S0_ Sx6_ := ai_fr_tr hFx5_ (fr_le hFx8_ rfl)
      have t80_ := rtab_fr t74_ hFx8_ rfl rfl rfl rfl rfl
      have g80_ : rg b_ n_ T_ (pb (z_b6 b_ n_ N_ M_ q_) fun a_ => .inr a_.2) Sx6_ := rg_pb px9_ (fun a_ _ => by rw [pb_as]; exact pb_id.symm)
      have T80_ := rT_fr T74_ hFx8_ rfl rfl rfl rfl rfl rfl rfl rfl rfl rfl rfl rfl rfl
      have ms80_ := T80_.1
      have iM_ : M_ ≤ 15 → (Sx6_.1 13 0 12 % 16).toNat = M_ := by omega
      have T80x : rT b_ n_ T_ A_ N_ M_ (sm_pI Sx6_ 13 0 28 (Sx6_.1 13 0 12 % 16)) := rT_fr (w_ := ([(13, 28)], [], [])) T80_ (ai_fr_pI rfl) rfl rfl rfl rfl rfl rfl rfl rfl rfl rfl rfl rfl rfl
      have bx11_ : 0 ≤ Sx6_.1 13 0 12 ∧ Sx6_.1 13 0 12 ≤ 16 := hIx7_.1 13 0 12 rfl
      refine sm_T_go 3 (c1 := (89, [some (.inr (.inr (some (13, 0)))), some (.inl tk_), none], [.inl 16, .inl (Sx6_.1 13 0 12)], Sx6_)) rfl ?_
      refine sm_T_bin (w := ((Sx6_.1 13 0 12) % 16)) rfl (bi_rem (by omega) (by omega) (by omega) (by omega)) ?_
      have hIx12_ : gi (sm_pI Sx6_ 13 0 28 ((Sx6_.1 13 0 12) % 16)) := gi_pI hIx7_ (show 0 ≤ ((Sx6_.1 13 0 12) % 16) ∧ ((Sx6_.1 13 0 12) % 16) ≤ 15 from ⟨by omega, by omega⟩)
      have hFx13_ : ai_fr (sx_W vw_339) S0_ (sm_pI Sx6_ 13 0 28 ((Sx6_.1 13 0 12) % 16)) := ai_fr_tr hFx10_ (ai_fr_pI rfl)
      refine sm_T_go 5 (c1 := (97, [some (.inr (.inr (some (13, 0)))), some (.inl tk_), some (.inl ((Sx6_.1 13 0 12) % 16))], [.inr (.inr (some (13, 0)))], sm_pI Sx6_ 13 0 28 ((Sx6_.1 13 0 12) % 16))) rfl ?_
      refine sm_T_cal (d1 := 0) (Q1 := vq_292  (sm_pI Sx6_ 13 0 28 ((Sx6_.1 13 0 12) % 16))) rfl rfl (by decide) (vc_292  (sm_pI Sx6_ 13 0 28 ((Sx6_.1 13 0 12) % 16)) hIx12_ ) (fun u_ Sx14_ px17_ => ?_)
      obtain ⟨rfl, vx19_, rfl, px17_⟩ := px17_
      have e97_ := px17_
      refine sm_T_b0 (a := 0) (z := 55) rfl (fun cx20_ => ?_) (fun cx20_ => ?_)
      · have cx20_ : vx19_ = 0 := of_decide_eq_true cx20_
        have hz_ := wr_if e97_ (by omega)
        obtain ⟨e5_, he5_⟩ := rg_wr g80_ hz_
        have xw_ : X_ = .inl e5_ := by rw [hX_, bm_eq, he5_]; rfl
        have g6w := g80_
        rw [he5_] at g6w
        refine sm_T_go 0 (c1 := (155, [some (.inr (.inr (some (13, 0)))), some (.inl tk_), some (.inl ((Sx6_.1 13 0 12) % 16))], [], sm_pI Sx6_ 13 0 28 ((Sx6_.1 13 0 12) % 16))) rfl ?_
        refine sm_T_wk [some (.inr (.inr (some (13, 0)))), none, some (.inl ((Sx6_.1 13 0 12) % 16))] (by exact ⟨rfl, rfl, trivial⟩) ?_
        refine ih_.2.2 ((Sx6_.1 13 0 12) % 16) (sm_pI Sx6_ 13 0 28 ((Sx6_.1 13 0 12) % 16)) hIx12_ hFx13_ ⟨?_, ?_, ?_, trivial⟩ ?_
        · omega
        · first | exact ms80_ | exact T80x.1
        · first | (left; exact ⟨e5_, xw_, g6w⟩) | (right; exact ⟨by omega, m15_, by show _ % 16 = (M_ : Int); omega, bm_L T80x rt6_ m15_ xr (by omega) g6r (by omega) (fun j_ => by (try simp only [rd_eq, rd_ne, rf_eq, rf_nk, rf_nt, rd_fa, rd_af, rd_fl, rd_al, rd_lf, rd_la, rd_leq, rd_lne, rd_fr, rd_ar, ne_eq, Nat.reduceEqDiff, not_false_eq_true]); (try simp only [iM2_]); (repeat' split); all_goals omega) (fun j_ => by (try simp only [rd_eq, rd_ne, rf_eq, rf_nk, rf_nt, rd_fa, rd_af, rd_fl, rd_al, rd_lf, rd_la, rd_leq, rd_lne, rd_fr, rd_ar, ne_eq, Nat.reduceEqDiff, not_false_eq_true]); (try simp only [iM2_]); (repeat' split); all_goals omega) (fun j_ => by (try simp only [rd_eq, rd_ne, rf_eq, rf_nk, rf_nt, rd_fa, rd_af, rd_fl, rd_al, rd_lf, rd_la, rd_leq, rd_lne, rd_fr, rd_ar, ne_eq, Nat.reduceEqDiff, not_false_eq_true]); (try simp only [iM2_]); (repeat' split); all_goals omega) (fun j_ => by (try simp only [rd_eq, rd_ne, rf_eq, rf_nk, rf_nt, rd_fa, rd_af, rd_fl, rd_al, rd_lf, rd_la, rd_leq, rd_lne, rd_fr, rd_ar, ne_eq, Nat.reduceEqDiff, not_false_eq_true]); (try simp only [iM2_]); (repeat' split); all_goals omega) (fun j_ => by (try simp only [rd_eq, rd_ne, rf_eq, rf_nk, rf_nt, rd_fa, rd_af, rd_fl, rd_al, rd_lf, rd_la, rd_leq, rd_lne, rd_fr, rd_ar, ne_eq, Nat.reduceEqDiff, not_false_eq_true]); (try simp only [iM2_]); (repeat' split); all_goals omega) (fun j_ => by (try simp only [rd_eq, rd_ne, rf_eq, rf_nk, rf_nt, rd_fa, rd_af, rd_fl, rd_al, rd_lf, rd_la, rd_leq, rd_lne, rd_fr, rd_ar, ne_eq, Nat.reduceEqDiff, not_false_eq_true]); (try simp only [iM2_]); (repeat' split); all_goals omega) rfl rfl rfl rfl rfl (fun j_ => by (try simp only [rd_eq, rd_ne, rf_eq, rf_nk, rf_nt, rd_fa, rd_af, rd_fl, rd_al, rd_lf, rd_la, rd_leq, rd_lne, rd_fr, rd_ar, ne_eq, Nat.reduceEqDiff, not_false_eq_true]); (try simp only [iM2_]); (repeat' split); all_goals omega) b6_.2.2.2.2⟩)
        · exact Nat.lt_of_le_of_lt (rms_b hIx12_) (by omega)
      · have cx20_ : ¬ (vx19_ = 0) := of_decide_eq_false cx20_
        have hz_ := rt_if e97_ (by omega)
        obtain ⟨a6_, ha6_⟩ := rg_rt g80_ hz_
        have b6_ := b6_r le0_.1 ha6_
        have b4_ := b4_r b6_.1
        have m15_ : M_ ≤ 15 := by have := b4_.2; omega
        have iM2_ := iM_ m15_
        have rt6_ := tk73_ a6_.1 (b3_r b4_.1).1
        have g6r := rg_at g80_ ha6_
        have b63_ := b6_.2.2.1
        have xr : X_ = p_dl b_ n_ f_ (a_bm A_ M_) (n_up N_ M_ a6_.1) M_ mc c_ a6_.2 := by rw [hX_, bm_eq, ha6_]; rfl
        refine sm_T_go 4 (c1 := (109, [some (.inr (.inr (some (13, 0)))), some (.inl tk_), some (.inl ((Sx6_.1 13 0 12) % 16))], [.inl tk_, .inl ((Sx6_.1 13 0 12) % 16), .inr (.inr (some (124, 0)))], sm_pI Sx6_ 13 0 28 ((Sx6_.1 13 0 12) % 16))) rfl ?_
        refine sm_T_iast (n := 16) rfl rfl (by omega) (by omega) ?_
        have hIx21_ : gi (sm_aI (sm_pI Sx6_ 13 0 28 ((Sx6_.1 13 0 12) % 16)) 124 0 ((Sx6_.1 13 0 12) % 16).toNat tk_) := gi_aI hIx12_ (show 0 ≤ tk_ ∧ tk_ ≤ 1280 from ⟨by omega, by omega⟩)
        have hFx22_ : ai_fr (sx_W vw_339) S0_ (sm_aI (sm_pI Sx6_ 13 0 28 ((Sx6_.1 13 0 12) % 16)) 124 0 ((Sx6_.1 13 0 12) % 16).toNat tk_) := ai_fr_tr hFx13_ (ai_fr_aI rfl)
        have bx23_ : 0 ≤ Sx6_.1 13 0 9 ∧ Sx6_.1 13 0 9 ≤ 1280 := hIx7_.1 13 0 9 rfl
        refine sm_T_go 5 (c1 := (119, [some (.inr (.inr (some (13, 0)))), some (.inl tk_), some (.inl ((Sx6_.1 13 0 12) % 16))], [.inl (Sx6_.1 13 0 9), .inl ((Sx6_.1 13 0 12) % 16), .inr (.inr (some (125, 0)))], sm_aI (sm_pI Sx6_ 13 0 28 ((Sx6_.1 13 0 12) % 16)) 124 0 ((Sx6_.1 13 0 12) % 16).toNat tk_)) rfl ?_
        refine sm_T_iast (n := 16) rfl rfl (by omega) (by omega) ?_
        have hIx24_ : gi (sm_aI (sm_aI (sm_pI Sx6_ 13 0 28 ((Sx6_.1 13 0 12) % 16)) 124 0 ((Sx6_.1 13 0 12) % 16).toNat tk_) 125 0 ((Sx6_.1 13 0 12) % 16).toNat (Sx6_.1 13 0 9)) := gi_aI hIx21_ (show 0 ≤ (Sx6_.1 13 0 9) ∧ (Sx6_.1 13 0 9) ≤ 1280 from ⟨by omega, by omega⟩)
        have hFx25_ : ai_fr (sx_W vw_339) S0_ (sm_aI (sm_aI (sm_pI Sx6_ 13 0 28 ((Sx6_.1 13 0 12) % 16)) 124 0 ((Sx6_.1 13 0 12) % 16).toNat tk_) 125 0 ((Sx6_.1 13 0 12) % 16).toNat (Sx6_.1 13 0 9)) := ai_fr_tr hFx22_ (ai_fr_aI rfl)
        refine sm_T_go 4 (c1 := (126, [some (.inr (.inr (some (13, 0)))), some (.inl tk_), some (.inl ((Sx6_.1 13 0 12) % 16))], [.inl 0, .inl ((Sx6_.1 13 0 12) % 16), .inr (.inr (some (126, 0)))], sm_aI (sm_aI (sm_pI Sx6_ 13 0 28 ((Sx6_.1 13 0 12) % 16)) 124 0 ((Sx6_.1 13 0 12) % 16).toNat tk_) 125 0 ((Sx6_.1 13 0 12) % 16).toNat (Sx6_.1 13 0 9))) rfl ?_
        refine sm_T_iast (n := 16) rfl rfl (by omega) (by omega) ?_
        have hIx26_ : gi (sm_aI (sm_aI (sm_aI (sm_pI Sx6_ 13 0 28 ((Sx6_.1 13 0 12) % 16)) 124 0 ((Sx6_.1 13 0 12) % 16).toNat tk_) 125 0 ((Sx6_.1 13 0 12) % 16).toNat (Sx6_.1 13 0 9)) 126 0 ((Sx6_.1 13 0 12) % 16).toNat 0) := gi_aI hIx24_ (show 0 ≤ 0 ∧ 0 ≤ 40 from ⟨by omega, by omega⟩)
        have hFx27_ : ai_fr (sx_W vw_339) S0_ (sm_aI (sm_aI (sm_aI (sm_pI Sx6_ 13 0 28 ((Sx6_.1 13 0 12) % 16)) 124 0 ((Sx6_.1 13 0 12) % 16).toNat tk_) 125 0 ((Sx6_.1 13 0 12) % 16).toNat (Sx6_.1 13 0 9)) 126 0 ((Sx6_.1 13 0 12) % 16).toNat 0) := ai_fr_tr hFx25_ (ai_fr_aI rfl)
        refine sm_T_go 4 (c1 := (133, [some (.inr (.inr (some (13, 0)))), some (.inl tk_), some (.inl ((Sx6_.1 13 0 12) % 16))], [.inl 0, .inl ((Sx6_.1 13 0 12) % 16), .inr (.inr (some (132, 0)))], sm_aI (sm_aI (sm_aI (sm_pI Sx6_ 13 0 28 ((Sx6_.1 13 0 12) % 16)) 124 0 ((Sx6_.1 13 0 12) % 16).toNat tk_) 125 0 ((Sx6_.1 13 0 12) % 16).toNat (Sx6_.1 13 0 9)) 126 0 ((Sx6_.1 13 0 12) % 16).toNat 0)) rfl ?_
        refine sm_T_iast (n := 16) rfl rfl (by omega) (by omega) ?_
        have hIx28_ : gi (sm_aI (sm_aI (sm_aI (sm_aI (sm_pI Sx6_ 13 0 28 ((Sx6_.1 13 0 12) % 16)) 124 0 ((Sx6_.1 13 0 12) % 16).toNat tk_) 125 0 ((Sx6_.1 13 0 12) % 16).toNat (Sx6_.1 13 0 9)) 126 0 ((Sx6_.1 13 0 12) % 16).toNat 0) 132 0 ((Sx6_.1 13 0 12) % 16).toNat 0) := gi_aI hIx26_ (show 0 ≤ 0 ∧ 0 ≤ 320 from ⟨by omega, by omega⟩)
        have hFx29_ : ai_fr (sx_W vw_339) S0_ (sm_aI (sm_aI (sm_aI (sm_aI (sm_pI Sx6_ 13 0 28 ((Sx6_.1 13 0 12) % 16)) 124 0 ((Sx6_.1 13 0 12) % 16).toNat tk_) 125 0 ((Sx6_.1 13 0 12) % 16).toNat (Sx6_.1 13 0 9)) 126 0 ((Sx6_.1 13 0 12) % 16).toNat 0) 132 0 ((Sx6_.1 13 0 12) % 16).toNat 0) := ai_fr_tr hFx27_ (ai_fr_aI rfl)
        refine sm_T_go 4 (c1 := (140, [some (.inr (.inr (some (13, 0)))), some (.inl tk_), some (.inl ((Sx6_.1 13 0 12) % 16))], [.inl 0, .inl ((Sx6_.1 13 0 12) % 16), .inr (.inr (some (133, 0)))], sm_aI (sm_aI (sm_aI (sm_aI (sm_pI Sx6_ 13 0 28 ((Sx6_.1 13 0 12) % 16)) 124 0 ((Sx6_.1 13 0 12) % 16).toNat tk_) 125 0 ((Sx6_.1 13 0 12) % 16).toNat (Sx6_.1 13 0 9)) 126 0 ((Sx6_.1 13 0 12) % 16).toNat 0) 132 0 ((Sx6_.1 13 0 12) % 16).toNat 0)) rfl ?_
        refine sm_T_iast (n := 16) rfl rfl (by omega) (by omega) ?_
        have hIx30_ : gi (sm_aI (sm_aI (sm_aI (sm_aI (sm_aI (sm_pI Sx6_ 13 0 28 ((Sx6_.1 13 0 12) % 16)) 124 0 ((Sx6_.1 13 0 12) % 16).toNat tk_) 125 0 ((Sx6_.1 13 0 12) % 16).toNat (Sx6_.1 13 0 9)) 126 0 ((Sx6_.1 13 0 12) % 16).toNat 0) 132 0 ((Sx6_.1 13 0 12) % 16).toNat 0) 133 0 ((Sx6_.1 13 0 12) % 16).toNat 0) := gi_aI hIx28_ (show 0 ≤ 0 ∧ 0 ≤ 320 from ⟨by omega, by omega⟩)
        have hFx31_ : ai_fr (sx_W vw_339) S0_ (sm_aI (sm_aI (sm_aI (sm_aI (sm_aI (sm_pI Sx6_ 13 0 28 ((Sx6_.1 13 0 12) % 16)) 124 0 ((Sx6_.1 13 0 12) % 16).toNat tk_) 125 0 ((Sx6_.1 13 0 12) % 16).toNat (Sx6_.1 13 0 9)) 126 0 ((Sx6_.1 13 0 12) % 16).toNat 0) 132 0 ((Sx6_.1 13 0 12) % 16).toNat 0) 133 0 ((Sx6_.1 13 0 12) % 16).toNat 0) := ai_fr_tr hFx29_ (ai_fr_aI rfl)
        refine sm_T_go 4 (c1 := (147, [some (.inr (.inr (some (13, 0)))), some (.inl tk_), some (.inl ((Sx6_.1 13 0 12) % 16))], [.inl 0, .inl ((Sx6_.1 13 0 12) % 16), .inr (.inr (some (134, 0)))], sm_aI (sm_aI (sm_aI (sm_aI (sm_aI (sm_pI Sx6_ 13 0 28 ((Sx6_.1 13 0 12) % 16)) 124 0 ((Sx6_.1 13 0 12) % 16).toNat tk_) 125 0 ((Sx6_.1 13 0 12) % 16).toNat (Sx6_.1 13 0 9)) 126 0 ((Sx6_.1 13 0 12) % 16).toNat 0) 132 0 ((Sx6_.1 13 0 12) % 16).toNat 0) 133 0 ((Sx6_.1 13 0 12) % 16).toNat 0)) rfl ?_
        refine sm_T_iast (n := 16) rfl rfl (by omega) (by omega) ?_
        have hIx32_ : gi (sm_aI (sm_aI (sm_aI (sm_aI (sm_aI (sm_aI (sm_pI Sx6_ 13 0 28 ((Sx6_.1 13 0 12) % 16)) 124 0 ((Sx6_.1 13 0 12) % 16).toNat tk_) 125 0 ((Sx6_.1 13 0 12) % 16).toNat (Sx6_.1 13 0 9)) 126 0 ((Sx6_.1 13 0 12) % 16).toNat 0) 132 0 ((Sx6_.1 13 0 12) % 16).toNat 0) 133 0 ((Sx6_.1 13 0 12) % 16).toNat 0) 134 0 ((Sx6_.1 13 0 12) % 16).toNat 0) := gi_aI hIx30_ (show 0 ≤ 0 ∧ 0 ≤ 1073741823 from ⟨by omega, by omega⟩)
        have hFx33_ : ai_fr (sx_W vw_339) S0_ (sm_aI (sm_aI (sm_aI (sm_aI (sm_aI (sm_aI (sm_pI Sx6_ 13 0 28 ((Sx6_.1 13 0 12) % 16)) 124 0 ((Sx6_.1 13 0 12) % 16).toNat tk_) 125 0 ((Sx6_.1 13 0 12) % 16).toNat (Sx6_.1 13 0 9)) 126 0 ((Sx6_.1 13 0 12) % 16).toNat 0) 132 0 ((Sx6_.1 13 0 12) % 16).toNat 0) 133 0 ((Sx6_.1 13 0 12) % 16).toNat 0) 134 0 ((Sx6_.1 13 0 12) % 16).toNat 0) := ai_fr_tr hFx31_ (ai_fr_aI rfl)
        refine sm_T_go 4 (c1 := (154, [some (.inr (.inr (some (13, 0)))), some (.inl tk_), some (.inl ((Sx6_.1 13 0 12) % 16))], [.inl 0, .inl ((Sx6_.1 13 0 12) % 16), .inr (.inr (some (135, 0)))], sm_aI (sm_aI (sm_aI (sm_aI (sm_aI (sm_aI (sm_pI Sx6_ 13 0 28 ((Sx6_.1 13 0 12) % 16)) 124 0 ((Sx6_.1 13 0 12) % 16).toNat tk_) 125 0 ((Sx6_.1 13 0 12) % 16).toNat (Sx6_.1 13 0 9)) 126 0 ((Sx6_.1 13 0 12) % 16).toNat 0) 132 0 ((Sx6_.1 13 0 12) % 16).toNat 0) 133 0 ((Sx6_.1 13 0 12) % 16).toNat 0) 134 0 ((Sx6_.1 13 0 12) % 16).toNat 0)) rfl ?_
        refine sm_T_iast (n := 16) rfl rfl (by omega) (by omega) ?_
        have hIx34_ : gi (sm_aI (sm_aI (sm_aI (sm_aI (sm_aI (sm_aI (sm_aI (sm_pI Sx6_ 13 0 28 ((Sx6_.1 13 0 12) % 16)) 124 0 ((Sx6_.1 13 0 12) % 16).toNat tk_) 125 0 ((Sx6_.1 13 0 12) % 16).toNat (Sx6_.1 13 0 9)) 126 0 ((Sx6_.1 13 0 12) % 16).toNat 0) 132 0 ((Sx6_.1 13 0 12) % 16).toNat 0) 133 0 ((Sx6_.1 13 0 12) % 16).toNat 0) 134 0 ((Sx6_.1 13 0 12) % 16).toNat 0) 135 0 ((Sx6_.1 13 0 12) % 16).toNat 0) := gi_aI hIx32_ (show 0 ≤ 0 ∧ 0 ≤ 1073741823 from ⟨by omega, by omega⟩)
        have hFx35_ : ai_fr (sx_W vw_339) S0_ (sm_aI (sm_aI (sm_aI (sm_aI (sm_aI (sm_aI (sm_aI (sm_pI Sx6_ 13 0 28 ((Sx6_.1 13 0 12) % 16)) 124 0 ((Sx6_.1 13 0 12) % 16).toNat tk_) 125 0 ((Sx6_.1 13 0 12) % 16).toNat (Sx6_.1 13 0 9)) 126 0 ((Sx6_.1 13 0 12) % 16).toNat 0) 132 0 ((Sx6_.1 13 0 12) % 16).toNat 0) 133 0 ((Sx6_.1 13 0 12) % 16).toNat 0) 134 0 ((Sx6_.1 13 0 12) % 16).toNat 0) 135 0 ((Sx6_.1 13 0 12) % 16).toNat 0) := ai_fr_tr hFx33_ (ai_fr_aI rfl)
        refine sm_T_go 0 (c1 := (155, [some (.inr (.inr (some (13, 0)))), some (.inl tk_), some (.inl ((Sx6_.1 13 0 12) % 16))], [], sm_aI (sm_aI (sm_aI (sm_aI (sm_aI (sm_aI (sm_aI (sm_pI Sx6_ 13 0 28 ((Sx6_.1 13 0 12) % 16)) 124 0 ((Sx6_.1 13 0 12) % 16).toNat tk_) 125 0 ((Sx6_.1 13 0 12) % 16).toNat (Sx6_.1 13 0 9)) 126 0 ((Sx6_.1 13 0 12) % 16).toNat 0) 132 0 ((Sx6_.1 13 0 12) % 16).toNat 0) 133 0 ((Sx6_.1 13 0 12) % 16).toNat 0) 134 0 ((Sx6_.1 13 0 12) % 16).toNat 0) 135 0 ((Sx6_.1 13 0 12) % 16).toNat 0)) rfl ?_
        refine sm_T_wk [some (.inr (.inr (some (13, 0)))), none, some (.inl ((Sx6_.1 13 0 12) % 16))] (by exact ⟨rfl, rfl, trivial⟩) ?_
        refine ih_.2.2 ((Sx6_.1 13 0 12) % 16) (sm_aI (sm_aI (sm_aI (sm_aI (sm_aI (sm_aI (sm_aI (sm_pI Sx6_ 13 0 28 ((Sx6_.1 13 0 12) % 16)) 124 0 ((Sx6_.1 13 0 12) % 16).toNat tk_) 125 0 ((Sx6_.1 13 0 12) % 16).toNat (Sx6_.1 13 0 9)) 126 0 ((Sx6_.1 13 0 12) % 16).toNat 0) 132 0 ((Sx6_.1 13 0 12) % 16).toNat 0) 133 0 ((Sx6_.1 13 0 12) % 16).toNat 0) 134 0 ((Sx6_.1 13 0 12) % 16).toNat 0) 135 0 ((Sx6_.1 13 0 12) % 16).toNat 0) hIx34_ hFx35_ ⟨?_, ?_, ?_, trivial⟩ ?_
        · omega
        · first | exact ms80_ | exact T80x.1
        · first | (left; exact ⟨e5_, xw_, g6w⟩) | (right; exact ⟨by omega, m15_, by show _ % 16 = (M_ : Int); omega, bm_L T80x rt6_ m15_ xr (by omega) g6r (by omega) (fun j_ => by (try simp only [rd_eq, rd_ne, rf_eq, rf_nk, rf_nt, rd_fa, rd_af, rd_fl, rd_al, rd_lf, rd_la, rd_leq, rd_lne, rd_fr, rd_ar, ne_eq, Nat.reduceEqDiff, not_false_eq_true]); (try simp only [iM2_]); (repeat' split); all_goals omega) (fun j_ => by (try simp only [rd_eq, rd_ne, rf_eq, rf_nk, rf_nt, rd_fa, rd_af, rd_fl, rd_al, rd_lf, rd_la, rd_leq, rd_lne, rd_fr, rd_ar, ne_eq, Nat.reduceEqDiff, not_false_eq_true]); (try simp only [iM2_]); (repeat' split); all_goals omega) (fun j_ => by (try simp only [rd_eq, rd_ne, rf_eq, rf_nk, rf_nt, rd_fa, rd_af, rd_fl, rd_al, rd_lf, rd_la, rd_leq, rd_lne, rd_fr, rd_ar, ne_eq, Nat.reduceEqDiff, not_false_eq_true]); (try simp only [iM2_]); (repeat' split); all_goals omega) (fun j_ => by (try simp only [rd_eq, rd_ne, rf_eq, rf_nk, rf_nt, rd_fa, rd_af, rd_fl, rd_al, rd_lf, rd_la, rd_leq, rd_lne, rd_fr, rd_ar, ne_eq, Nat.reduceEqDiff, not_false_eq_true]); (try simp only [iM2_]); (repeat' split); all_goals omega) (fun j_ => by (try simp only [rd_eq, rd_ne, rf_eq, rf_nk, rf_nt, rd_fa, rd_af, rd_fl, rd_al, rd_lf, rd_la, rd_leq, rd_lne, rd_fr, rd_ar, ne_eq, Nat.reduceEqDiff, not_false_eq_true]); (try simp only [iM2_]); (repeat' split); all_goals omega) (fun j_ => by (try simp only [rd_eq, rd_ne, rf_eq, rf_nk, rf_nt, rd_fa, rd_af, rd_fl, rd_al, rd_lf, rd_la, rd_leq, rd_lne, rd_fr, rd_ar, ne_eq, Nat.reduceEqDiff, not_false_eq_true]); (try simp only [iM2_]); (repeat' split); all_goals omega) rfl rfl rfl rfl rfl (fun j_ => by (try simp only [rd_eq, rd_ne, rf_eq, rf_nk, rf_nt, rd_fa, rd_af, rd_fl, rd_al, rd_lf, rd_la, rd_leq, rd_lne, rd_fr, rd_ar, ne_eq, Nat.reduceEqDiff, not_false_eq_true]); (try simp only [iM2_]); (repeat' split); all_goals omega) b6_.2.2.2.2⟩)
        · exact Nat.lt_of_le_of_lt (rms_b hIx34_) (by omega)
    · rintro k2_ S_ hI_ hF_ ⟨kb_, ms155_, h1_, -⟩ hm_
      have le0_ := rg_le ht_ hx_
      have hn1_ := ht_.1
      have hM16_ := hT_.2.1
      have ms0_ := hT_.1
      have tt_ := rtab_fr ht_ hF_ rfl rfl rfl rfl rfl
      have mo9_ := (hF_.1 13 0 27 rfl).trans hmo_
      refine sm_T_go 1 (c1 := (156, [some (.inr (.inr (some (13, 0)))), none, some (.inl k2_)], [.inr (.inr (some (13, 0)))], S_)) rfl ?_
      refine sm_T_cal (d1 := 0) (Q1 := vq_292  S_) rfl rfl (by decide) (vc_292  S_ hI_ ) (fun u_ Sx1_ px4_ => ?_)
      obtain ⟨rfl, vx6_, rfl, px4_⟩ := px4_
      have e156_ := px4_
      refine sm_T_b0 (a := 0) (z := 20) rfl (fun cx7_ => ?_) (fun cx7_ => ?_)
      · have cx7_ : vx6_ = 0 := of_decide_eq_true cx7_
        have hz_ := wr_if e156_ (by omega)
        have hw_ : rX b_ n_ T_ X_ S_ := by rcases h1_ with z_ | ⟨z1_, z2_, z3_, f1_, A1_, N1_, mc1_, c1_, p1_, y1_, y2_, y3_, y4_⟩; exact z_; (exact absurd y3_.1 hz_)
        obtain ⟨e5_, he5_, ge5_⟩ := hw_
        obtain ⟨x9_, hx9_, hx9b⟩ : ∃ x9_ : pE Nat, rg b_ n_ T_ x9_ S_ ∧ x9_ = .inl e5_ := ⟨_, ge5_, rfl⟩
        refine sm_T_go 2 (c1 := (182, [some (.inr (.inr (some (13, 0)))), none, some (.inl k2_)], [.inl 125, .inr (.inr (some (13, 0)))], S_)) rfl ?_
        refine sm_T_cal (d1 := 3) (Q1 := vq_300 125 b_ n_ T_ x9_ S_) rfl rfl (by decide) (vc_300 125 b_ n_ T_ x9_ S_ hI_ (by exact tt_) (by exact hx9_) (by decide)) (fun u_ Sx8_ px11_ => ?_)
        obtain ⟨rfl, hIx9_, hFx10_, px11_⟩ := px11_
        have hFx12_ : ai_fr (sx_W vw_339) S0_ Sx8_ := ai_fr_tr hF_ (fr_le hFx10_ rfl)
        have g182_ := px11_
        rw [hx9b] at g182_
        have f182_ := hFx10_
        have ms182_ := (hFx10_.1 13 0 12 rfl).trans ms155_
        have bx13_ : 0 ≤ Sx8_.1 13 0 12 ∧ Sx8_.1 13 0 12 ≤ 16 := hIx9_.1 13 0 12 rfl
        refine sm_T_go 4 (c1 := (191, [some (.inr (.inr (some (13, 0)))), none, some (.inl k2_)], [.inr (.inr (some (13, 0))), .inl (Sx8_.1 13 0 12), .inr (.inr (some (13, 0)))], Sx8_)) rfl ?_
        refine sm_T_cal (d1 := 0) (Q1 := vq_292  Sx8_) rfl rfl (by decide) (vc_292  Sx8_ hIx9_ ) (fun u_ Sx14_ px17_ => ?_)
        obtain ⟨rfl, vx19_, rfl, px17_⟩ := px17_
        have e191_ := px17_
        refine sm_T_b0 (a := 0) (z := 7) rfl (fun cx20_ => ?_) (fun cx20_ => ?_)
        · have cx20_ : vx19_ = 0 := of_decide_eq_true cx20_
          have hz9_ := wr_if e191_ (by omega)
          refine sm_T_go 1 (c1 := (202, [some (.inr (.inr (some (13, 0)))), none, some (.inl k2_)], [.inl 0, .inl (Sx8_.1 13 0 12), .inr (.inr (some (13, 0)))], Sx8_)) rfl ?_
          refine sm_T_bin (w := (Sx8_.1 13 0 12)) rfl (bi_add (by omega) (by omega) (by omega)) ?_
          have hIx21_ : gi (sm_pI Sx8_ 13 0 12 (Sx8_.1 13 0 12)) := gi_pI hIx9_ (show 0 ≤ (Sx8_.1 13 0 12) ∧ (Sx8_.1 13 0 12) ≤ 16 from ⟨by omega, by omega⟩)
          have hFx22_ : ai_fr (sx_W vw_339) S0_ (sm_pI Sx8_ 13 0 12 (Sx8_.1 13 0 12)) := ai_fr_tr hFx12_ (ai_fr_pI rfl)
          refine sm_T_go 1 (c1 := (206, [some (.inr (.inr (some (13, 0)))), none, some (.inl k2_)], [], sm_pI Sx8_ 13 0 12 (Sx8_.1 13 0 12))) rfl ?_
          refine sm_T_rv rfl ⟨_, _, rfl, rfl, hIx21_, hFx22_, ?_⟩
          first | (refine ⟨Or.inl ⟨e5_, he5_, g182_⟩, fun z_ => ?_⟩; first | (exact absurd z_ hz9_) | (exact absurd (g182_.1.symm.trans z_) g182_.2.2)) | (cases hq_ : p_nd b_ n_ 125 p1_ with | inl e_ => (have g182_ : rg b_ n_ T_ (p_nd b_ n_ 125 p1_) _ := g182_; rw [hq_] at g182_; refine ⟨Or.inl ⟨e_, by rw [hX1_, hq_]; rfl, g182_⟩, fun z_ => ?_⟩; first | (exact absurd z_ hz9_) | (exact absurd (g182_.1.symm.trans z_) g182_.2.2)) | inr q2_ => (have g182_ : rg b_ n_ T_ (p_nd b_ n_ 125 p1_) _ := g182_; rw [hq_] at g182_; first | (exact absurd g182_.1 hz9_) | (have k9_ := nd_ok le1_.1 (by decide) hq_; have k91_ := k9_.1; refine ⟨Or.inr ⟨A1_, N1_, M_ + 1, n_up mc1_ (M_ + 1) c1_.length, c1_, q2_, g182_, rT_nx a1_ (fun m_ hm_ => re1_fr (re1x m_ hm_) f182_ rfl rfl rfl rfl rfl rfl) (fun m_ hm_ => rs1_fr (rs1x m_ hm_) f182_ rfl rfl rfl rfl) (rnr_fr rn1_ f182_ rfl) (by rw [fr_arr f182_ rfl]; exact tk1_) (fun m_ hm_ => bdy_fr (bd1_ m_ hm_) f182_ rfl) (by omega), by omega, by omega, ?_⟩, fun _ => ?_⟩; (by_cases z_ : lx_kd b_ n_ q2_ = 0; (left; refine ⟨z_, ?_⟩; rw [hX1_, hq_, pb_ir, if_pos z_]); (right; refine ⟨z_, f2_, by omega, ?_⟩; rw [hX1_, hq_, pb_ir, if_neg z_])); (rw [rf_eq]; omega))))
        · have cx20_ : ¬ (vx19_ = 0) := of_decide_eq_false cx20_
          have hz9_ := rt_if e191_ (by omega)
          have mb9_ : M_ ≤ 15 := by first | exact m15_ | (exfalso; exact g182_.2.2 (g182_.1.symm.trans hz9_))
          refine sm_T_go 2 (c1 := (202, [some (.inr (.inr (some (13, 0)))), none, some (.inl k2_)], [.inl 1, .inl (Sx8_.1 13 0 12), .inr (.inr (some (13, 0)))], Sx8_)) rfl ?_
          refine sm_T_bin (w := (Sx8_.1 13 0 12) + 1) rfl (bi_add (by omega) (by omega) (by omega)) ?_
          have hIx23_ : gi (sm_pI Sx8_ 13 0 12 ((Sx8_.1 13 0 12) + 1)) := gi_pI hIx9_ (show 0 ≤ (Sx8_.1 13 0 12) + 1 ∧ (Sx8_.1 13 0 12) + 1 ≤ 16 from ⟨by omega, by omega⟩)
          have hFx24_ : ai_fr (sx_W vw_339) S0_ (sm_pI Sx8_ 13 0 12 ((Sx8_.1 13 0 12) + 1)) := ai_fr_tr hFx12_ (ai_fr_pI rfl)
          refine sm_T_go 1 (c1 := (206, [some (.inr (.inr (some (13, 0)))), none, some (.inl k2_)], [], sm_pI Sx8_ 13 0 12 ((Sx8_.1 13 0 12) + 1))) rfl ?_
          refine sm_T_rv rfl ⟨_, _, rfl, rfl, hIx23_, hFx24_, ?_⟩
          first | (refine ⟨Or.inl ⟨e5_, he5_, g182_⟩, fun z_ => ?_⟩; first | (exact absurd z_ hz9_) | (exact absurd (g182_.1.symm.trans z_) g182_.2.2)) | (cases hq_ : p_nd b_ n_ 125 p1_ with | inl e_ => (have g182_ : rg b_ n_ T_ (p_nd b_ n_ 125 p1_) _ := g182_; rw [hq_] at g182_; refine ⟨Or.inl ⟨e_, by rw [hX1_, hq_]; rfl, g182_⟩, fun z_ => ?_⟩; first | (exact absurd z_ hz9_) | (exact absurd (g182_.1.symm.trans z_) g182_.2.2)) | inr q2_ => (have g182_ : rg b_ n_ T_ (p_nd b_ n_ 125 p1_) _ := g182_; rw [hq_] at g182_; first | (exact absurd g182_.1 hz9_) | (have k9_ := nd_ok le1_.1 (by decide) hq_; have k91_ := k9_.1; refine ⟨Or.inr ⟨A1_, N1_, M_ + 1, n_up mc1_ (M_ + 1) c1_.length, c1_, q2_, g182_, rT_nx a1_ (fun m_ hm_ => re1_fr (re1x m_ hm_) f182_ rfl rfl rfl rfl rfl rfl) (fun m_ hm_ => rs1_fr (rs1x m_ hm_) f182_ rfl rfl rfl rfl) (rnr_fr rn1_ f182_ rfl) (by rw [fr_arr f182_ rfl]; exact tk1_) (fun m_ hm_ => bdy_fr (bd1_ m_ hm_) f182_ rfl) (by omega), by omega, by omega, ?_⟩, fun _ => ?_⟩; (by_cases z_ : lx_kd b_ n_ q2_ = 0; (left; refine ⟨z_, ?_⟩; rw [hX1_, hq_, pb_ir, if_pos z_]); (right; refine ⟨z_, f2_, by omega, ?_⟩; rw [hX1_, hq_, pb_ir, if_neg z_])); (rw [rf_eq]; omega))))
      · have cx7_ : ¬ (vx6_ = 0) := of_decide_eq_false cx7_
        have hz_ := rt_if e156_ (by omega)
        obtain ⟨k2M, m15_, md1_, f1_, A1_, N1_, mc1_, c1_, p1_, hX1_, hf1_, g1_, a1_, re1x, rs1x, rn1_, tk1_, hc1_, bd1_⟩ : k2_ = (M_ : Int) ∧ M_ ≤ 15 ∧ S_.1 13 0 28 = (M_ : Int) ∧ rL b_ n_ T_ X_ M_ S_ := by rcases h1_ with z_ | z_; (exact (rX_z z_ hz_).elim); exact z_
        have le1_ := rg_le tt_ g1_
        obtain ⟨f2_, hf2_⟩ : ∃ f2_, f1_ = f2_ + 1 := ⟨f1_ - 1, by omega⟩
        subst hf2_
        have rms1_ := rms_x (k_ := 0) tt_ g1_ (by decide)
        refine sm_T_go 2 (c1 := (165, [some (.inr (.inr (some (13, 0)))), none, some (.inl k2_)], [.inl 125, .inr (.inr (some (13, 0)))], S_)) rfl ?_
        refine sm_T_cal (d1 := 0) (Q1 := vq_295 125 b_ n_ T_ (.inr p1_) S_) rfl rfl (by decide) (vc_295 125 b_ n_ T_ (.inr p1_) S_ hI_ (by exact tt_) (by exact g1_) (by decide)) (fun u_ Sx25_ px28_ => ?_)
        obtain ⟨rfl, vx30_, rfl, px28_⟩ := px28_
        have e165_ := px28_.2 p1_ rfl
        have r165_ := px28_.1.1
        refine sm_T_b0 (a := 1) (z := 11) rfl (fun cx31_ => ?_) (fun cx31_ => ?_)
        · have cx31_ : vx30_ ≠ 0 := of_decide_eq_true cx31_
          have k125_ : lx_kd b_ n_ p1_ = 125 := e165_.mp (by omega)
          obtain ⟨x9_, hx9_, hx9b⟩ : ∃ x9_ : pE Nat, rg b_ n_ T_ x9_ S_ ∧ x9_ = .inr p1_ := ⟨_, g1_, rfl⟩
          rw [dl_e k125_] at hX1_
          refine sm_T_go 2 (c1 := (182, [some (.inr (.inr (some (13, 0)))), none, some (.inl k2_)], [.inl 125, .inr (.inr (some (13, 0)))], S_)) rfl ?_
          refine sm_T_cal (d1 := 3) (Q1 := vq_300 125 b_ n_ T_ x9_ S_) rfl rfl (by decide) (vc_300 125 b_ n_ T_ x9_ S_ hI_ (by exact tt_) (by exact hx9_) (by decide)) (fun u_ Sx32_ px35_ => ?_)
          obtain ⟨rfl, hIx33_, hFx34_, px35_⟩ := px35_
          have hFx36_ : ai_fr (sx_W vw_339) S0_ Sx32_ := ai_fr_tr hF_ (fr_le hFx34_ rfl)
          have g182_ := px35_
          rw [hx9b] at g182_
          have f182_ := hFx34_
          have ms182_ := (hFx34_.1 13 0 12 rfl).trans ms155_
          have bx37_ : 0 ≤ Sx32_.1 13 0 12 ∧ Sx32_.1 13 0 12 ≤ 16 := hIx33_.1 13 0 12 rfl
          refine sm_T_go 4 (c1 := (191, [some (.inr (.inr (some (13, 0)))), none, some (.inl k2_)], [.inr (.inr (some (13, 0))), .inl (Sx32_.1 13 0 12), .inr (.inr (some (13, 0)))], Sx32_)) rfl ?_
          refine sm_T_cal (d1 := 0) (Q1 := vq_292  Sx32_) rfl rfl (by decide) (vc_292  Sx32_ hIx33_ ) (fun u_ Sx38_ px41_ => ?_)
          obtain ⟨rfl, vx43_, rfl, px41_⟩ := px41_
          have e191_ := px41_
          refine sm_T_b0 (a := 0) (z := 7) rfl (fun cx44_ => ?_) (fun cx44_ => ?_)
          · have cx44_ : vx43_ = 0 := of_decide_eq_true cx44_
            have hz9_ := wr_if e191_ (by omega)
            refine sm_T_go 1 (c1 := (202, [some (.inr (.inr (some (13, 0)))), none, some (.inl k2_)], [.inl 0, .inl (Sx32_.1 13 0 12), .inr (.inr (some (13, 0)))], Sx32_)) rfl ?_
            refine sm_T_bin (w := (Sx32_.1 13 0 12)) rfl (bi_add (by omega) (by omega) (by omega)) ?_
            have hIx45_ : gi (sm_pI Sx32_ 13 0 12 (Sx32_.1 13 0 12)) := gi_pI hIx33_ (show 0 ≤ (Sx32_.1 13 0 12) ∧ (Sx32_.1 13 0 12) ≤ 16 from ⟨by omega, by omega⟩)
            have hFx46_ : ai_fr (sx_W vw_339) S0_ (sm_pI Sx32_ 13 0 12 (Sx32_.1 13 0 12)) := ai_fr_tr hFx36_ (ai_fr_pI rfl)
            refine sm_T_go 1 (c1 := (206, [some (.inr (.inr (some (13, 0)))), none, some (.inl k2_)], [], sm_pI Sx32_ 13 0 12 (Sx32_.1 13 0 12))) rfl ?_
            refine sm_T_rv rfl ⟨_, _, rfl, rfl, hIx45_, hFx46_, ?_⟩
            first | (refine ⟨Or.inl ⟨e5_, he5_, g182_⟩, fun z_ => ?_⟩; first | (exact absurd z_ hz9_) | (exact absurd (g182_.1.symm.trans z_) g182_.2.2)) | (cases hq_ : p_nd b_ n_ 125 p1_ with | inl e_ => (have g182_ : rg b_ n_ T_ (p_nd b_ n_ 125 p1_) _ := g182_; rw [hq_] at g182_; refine ⟨Or.inl ⟨e_, by rw [hX1_, hq_]; rfl, g182_⟩, fun z_ => ?_⟩; first | (exact absurd z_ hz9_) | (exact absurd (g182_.1.symm.trans z_) g182_.2.2)) | inr q2_ => (have g182_ : rg b_ n_ T_ (p_nd b_ n_ 125 p1_) _ := g182_; rw [hq_] at g182_; first | (exact absurd g182_.1 hz9_) | (have k9_ := nd_ok le1_.1 (by decide) hq_; have k91_ := k9_.1; refine ⟨Or.inr ⟨A1_, N1_, M_ + 1, n_up mc1_ (M_ + 1) c1_.length, c1_, q2_, g182_, rT_nx a1_ (fun m_ hm_ => re1_fr (re1x m_ hm_) f182_ rfl rfl rfl rfl rfl rfl) (fun m_ hm_ => rs1_fr (rs1x m_ hm_) f182_ rfl rfl rfl rfl) (rnr_fr rn1_ f182_ rfl) (by rw [fr_arr f182_ rfl]; exact tk1_) (fun m_ hm_ => bdy_fr (bd1_ m_ hm_) f182_ rfl) (by omega), by omega, by omega, ?_⟩, fun _ => ?_⟩; (by_cases z_ : lx_kd b_ n_ q2_ = 0; (left; refine ⟨z_, ?_⟩; rw [hX1_, hq_, pb_ir, if_pos z_]); (right; refine ⟨z_, f2_, by omega, ?_⟩; rw [hX1_, hq_, pb_ir, if_neg z_])); (rw [rf_eq]; omega))))
          · have cx44_ : ¬ (vx43_ = 0) := of_decide_eq_false cx44_
            have hz9_ := rt_if e191_ (by omega)
            have mb9_ : M_ ≤ 15 := by first | exact m15_ | (exfalso; exact g182_.2.2 (g182_.1.symm.trans hz9_))
            refine sm_T_go 2 (c1 := (202, [some (.inr (.inr (some (13, 0)))), none, some (.inl k2_)], [.inl 1, .inl (Sx32_.1 13 0 12), .inr (.inr (some (13, 0)))], Sx32_)) rfl ?_
            refine sm_T_bin (w := (Sx32_.1 13 0 12) + 1) rfl (bi_add (by omega) (by omega) (by omega)) ?_
            have hIx47_ : gi (sm_pI Sx32_ 13 0 12 ((Sx32_.1 13 0 12) + 1)) := gi_pI hIx33_ (show 0 ≤ (Sx32_.1 13 0 12) + 1 ∧ (Sx32_.1 13 0 12) + 1 ≤ 16 from ⟨by omega, by omega⟩)
            have hFx48_ : ai_fr (sx_W vw_339) S0_ (sm_pI Sx32_ 13 0 12 ((Sx32_.1 13 0 12) + 1)) := ai_fr_tr hFx36_ (ai_fr_pI rfl)
            refine sm_T_go 1 (c1 := (206, [some (.inr (.inr (some (13, 0)))), none, some (.inl k2_)], [], sm_pI Sx32_ 13 0 12 ((Sx32_.1 13 0 12) + 1))) rfl ?_
            refine sm_T_rv rfl ⟨_, _, rfl, rfl, hIx47_, hFx48_, ?_⟩
            first | (refine ⟨Or.inl ⟨e5_, he5_, g182_⟩, fun z_ => ?_⟩; first | (exact absurd z_ hz9_) | (exact absurd (g182_.1.symm.trans z_) g182_.2.2)) | (cases hq_ : p_nd b_ n_ 125 p1_ with | inl e_ => (have g182_ : rg b_ n_ T_ (p_nd b_ n_ 125 p1_) _ := g182_; rw [hq_] at g182_; refine ⟨Or.inl ⟨e_, by rw [hX1_, hq_]; rfl, g182_⟩, fun z_ => ?_⟩; first | (exact absurd z_ hz9_) | (exact absurd (g182_.1.symm.trans z_) g182_.2.2)) | inr q2_ => (have g182_ : rg b_ n_ T_ (p_nd b_ n_ 125 p1_) _ := g182_; rw [hq_] at g182_; first | (exact absurd g182_.1 hz9_) | (have k9_ := nd_ok le1_.1 (by decide) hq_; have k91_ := k9_.1; refine ⟨Or.inr ⟨A1_, N1_, M_ + 1, n_up mc1_ (M_ + 1) c1_.length, c1_, q2_, g182_, rT_nx a1_ (fun m_ hm_ => re1_fr (re1x m_ hm_) f182_ rfl rfl rfl rfl rfl rfl) (fun m_ hm_ => rs1_fr (rs1x m_ hm_) f182_ rfl rfl rfl rfl) (rnr_fr rn1_ f182_ rfl) (by rw [fr_arr f182_ rfl]; exact tk1_) (fun m_ hm_ => bdy_fr (bd1_ m_ hm_) f182_ rfl) (by omega), by omega, by omega, ?_⟩, fun _ => ?_⟩; (by_cases z_ : lx_kd b_ n_ q2_ = 0; (left; refine ⟨z_, ?_⟩; rw [hX1_, hq_, pb_ir, if_pos z_]); (right; refine ⟨z_, f2_, by omega, ?_⟩; rw [hX1_, hq_, pb_ir, if_neg z_])); (rw [rf_eq]; omega))))
        · have cx31_ : ¬ (vx30_ ≠ 0) := of_decide_eq_false cx31_
          have k125_ : lx_kd b_ n_ p1_ ≠ 125 := fun z_ => by have := e165_.mpr z_; omega
          refine sm_T_go 2 (c1 := (173, [some (.inr (.inr (some (13, 0)))), none, some (.inl k2_)], [.inl k2_, .inr (.inr (some (13, 0)))], S_)) rfl ?_
          refine sm_T_cal (d1 := 9) (Q1 := vq_334 k2_ b_ n_ T_ A1_ M_ c1_ p1_ N1_ S_) rfl rfl (by decide) (vc_334 k2_ b_ n_ T_ A1_ M_ c1_ p1_ N1_ S_ hI_ (by exact tt_) (by exact g1_) (by exact mo9_) (by exact ⟨k2M, m15_⟩) (by exact md1_) (by exact a1_) (by exact re1x) (by exact rs1x) (by exact hc1_) (by exact ms155_) (by exact rn1_)) (fun u_ Sx49_ px52_ => ?_)
          obtain ⟨rfl, hIx50_, hFx51_, px52_⟩ := px52_
          have hFx53_ : ai_fr (sx_W vw_339) S0_ Sx49_ := ai_fr_tr hF_ (fr_le hFx51_ rfl)
          have e173_ := px52_
          have F173_ := hFx51_
          have t173_ := rtab_fr tt_ hFx51_ rfl rfl rfl rfl rfl
          have rn173_ := rnr_fr rn1_ hFx51_ rfl
          have tk173_ : rtk b_ n_ T_ (Sx49_.2.2.1 124 0 M_) (N1_ M_) := by rw [fr_arr hFx51_ rfl]; exact tk1_
          have md173_ := (hFx51_.1 13 0 28 rfl).trans md1_
          have ms173_ := (hFx51_.1 13 0 12 rfl).trans ms155_
          refine sm_T_go 1 (c1 := (155, [some (.inr (.inr (some (13, 0)))), none, some (.inl k2_)], [], Sx49_)) rfl ?_
          refine ih_.2.2 k2_ Sx49_ hIx50_ hFx53_ ⟨?_, ?_, ?_, trivial⟩ ?_
          · omega
          · exact ms173_
          · cases hq_ : p_i2 b_ n_ A1_ N1_ M_ c1_ p1_ with
            | inl e_ => left; have z_ := e173_.1; rw [hq_] at z_; exact ⟨e_, by rw [hX1_]; exact dl_w k125_ hq_, z_⟩
            | inr r_ => right; have z_ := e173_.1; rw [hq_] at z_; have y_ := e173_.2 r_ hq_; have w_ := i2_ok hn1_ a1_ le1_.1 hc1_ hq_; exact ⟨k2M, m15_, md173_, f2_, r_.1, N1_, mc1_, r_.2.1, r_.2.2, by rw [hX1_]; exact dl_r hq_, by omega, z_, y_.1, y_.2.1, y_.2.2.1, rn173_, tk173_, y_.2.2.2, fun m_ hm_ => bdy_fr (bd1_ m_ hm_) F173_ rfl⟩
          · cases hq_ : p_i2 b_ n_ A1_ N1_ M_ c1_ p1_ with | inl e_ => (have z_ := e173_.1; rw [hq_] at z_; have z2_ := rms_0 (k_ := 0) (Or.inl (show _ ≠ 0 by rw [z_.1]; exact z_.2.2)); omega) | inr r_ => (have z_ := e173_.1; rw [hq_] at z_; have w_ := i2_ok hn1_ a1_ le1_.1 hc1_ hq_; have z2_ := rms_x (k_ := 0) t173_ z_ (by decide); omega)
set_option maxHeartbeats 2000000 in
set_option maxRecDepth 20000 in
theorem vc_339 {sc_ : Nat × (Nat → Int)} (b_ : Nat → Int) (n_ : Nat) (T_ : Nat) (X_ : pE pD) (A_ : pA) (N_ : Nat → Nat) (M_ : Nat) (mc : Nat → Nat) (c_ : List Int) (q_ : Nat) (f_ : Nat) (S0_ : sm_S) (hI_ : gi S0_) (ht_ : rtab b_ n_ T_ S0_) (hx_ : rg b_ n_ T_ (.inr q_) S0_) (hT_ : rT b_ n_ T_ A_ N_ M_ S0_) (hmo_ : (S0_.1 13 0 27) = 0) (hc_ : c_.length ≤ 3 * q_) (hX_ : X_ = (pb (p_bm b_ n_ A_ N_ M_ q_) fun x_ => p_dl b_ n_ f_ x_.1 x_.2.1 M_ mc c_ x_.2.2)) (hf_ : n_ < q_ + f_) : sm_T (mt_P sc_) 10 339 (0, [some (.inr (.inr (some (13, 0)))), none, none], [], S0_) (fun ro9_ => ∃ u_ S1_, ro9_ = (.inl u_, S1_, 0) ∧ vq_339 b_ n_ T_ X_ A_ N_ M_ mc c_ q_ f_ S0_ u_ S1_) := by
  have hF_ : ai_fr (sx_W vw_339) S0_ S0_ := ai_fr_rf
  have le0_ := rg_le ht_ hx_
  have hn1_ := ht_.1
  have hM16_ := hT_.2.1
  refine sm_T_go 2 (c1 := (2, [some (.inr (.inr (some (13, 0)))), none, none], [.inl 1, .inr (.inr (some (13, 0)))], S0_)) rfl ?_
  refine sm_T_cal (d1 := 0) (Q1 := vq_296 1 b_ n_ T_ (.inr q_) S0_) rfl rfl (by decide) (vc_296 1 b_ n_ T_ (.inr q_) S0_ hI_ (by exact ht_) (by exact hx_) (by decide)) (fun u_ Sx1_ px4_ => ?_)
  obtain ⟨rfl, vx6_, rfl, px4_⟩ := px4_
  have e2_ := px4_.2 q_ rfl
  have r2_ := px4_.1
  obtain ⟨i0_, hi01_, hi02_⟩ := id hx_.2
  have ra0_ := rp_at ht_ hi02_
  have rk0_ := r_st_3 (lx_kd_r hi02_.2.2.1)
  refine sm_T_b0 (a := 1) (z := 12) rfl (fun cx7_ => ?_) (fun cx7_ => ?_)
  · have cx7_ : vx6_ ≠ 0 := of_decide_eq_true cx7_
    have k3_ : lx_kd b_ n_ q_ = 3 := by have := e2_.mp (by omega); omega
    have nd3_ : p_nd b_ n_ 3 q_ = p_ad b_ n_ q_ := if_pos k3_
    obtain ⟨x7_, hx7_, hx7b⟩ : ∃ x7_ : pE Nat, rg b_ n_ T_ x7_ _ ∧ x7_ = .inr q_ := ⟨_, hx_, rfl⟩
    have t7_ := ht_
    have T7_ := hT_
    refine sm_T_go 1 (c1 := (18, [some (.inr (.inr (some (13, 0)))), none, none], [.inr (.inr (some (13, 0)))], S0_)) rfl ?_
    refine sm_T_cal (d1 := 2) (Q1 := vq_297 b_ n_ T_ x7_ S0_) rfl rfl (by decide) (vc_297 b_ n_ T_ x7_ S0_ hI_ (by exact t7_) (by exact hx7_) (by (intro z_ e_; rw [hx7b] at e_; first | (cases e_; done) | (cases e_; rw [k3_]; decide)))) (fun u_ Sx8_ px11_ => ?_)
    obtain ⟨rfl, hIx9_, hFx10_, px11_⟩ := px11_
    have hFx12_ : ai_fr (sx_W vw_339) S0_ Sx8_ := ai_fr_tr hF_ (fr_le hFx10_ rfl)
    have z18_ := px11_.1
    rw [hx7b] at z18_
    have g18_ : rg b_ n_ T_ (p_nd b_ n_ 3 q_) Sx8_ := by rw [nd3_]; exact z18_
    have t18_ := rtab_fr t7_ hFx10_ rfl rfl rfl rfl rfl
    have T18_ := rT_fr T7_ hFx10_ rfl rfl rfl rfl rfl rfl rfl rfl rfl rfl rfl rfl rfl
    refine sm_T_go 2 (c1 := (23, [some (.inr (.inr (some (13, 0)))), none, none], [.inl 1, .inr (.inr (some (13, 0)))], Sx8_)) rfl ?_
    refine sm_T_cal (d1 := 1) (Q1 := vq_299 1 b_ n_ T_ (p_nd b_ n_ 3 q_) Sx8_) rfl rfl (by decide) (vc_299 1 b_ n_ T_ (p_nd b_ n_ 3 q_) Sx8_ hIx9_ (by exact t18_) (by exact g18_) (by decide)) (fun u_ Sx13_ px16_ => ?_)
    obtain ⟨vx18_, rfl, hIx14_, hFx15_, px16_⟩ := px16_
    have hFx17_ : ai_fr (sx_W vw_339) S0_ Sx13_ := ai_fr_tr hFx12_ (fr_le hFx15_ rfl)
    have a23_ := px16_.1
    have g23_ := px16_.2
    have t23_ := rtab_fr t18_ hFx15_ rfl rfl rfl rfl rfl
    have at23_ := hFx15_.1 13 0 9 rfl
    have v23b : 0 ≤ vx18_ ∧ vx18_ ≤ 1280 := by rw [a23_, ← at23_]; exact hIx14_.1 13 0 9 rfl
    have rt23_ : ∀ r_, (pb (p_nd b_ n_ 3 q_) (p_du b_ n_ 1)) = .inr r_ → rtk b_ n_ T_ vx18_ r_ ∧ Sx13_.2.2.1 120 0 vx18_.toNat = (r_ : Int) ∧ Sx13_.2.2.1 119 0 vx18_.toNat ≠ 4 := by intro r_ hr_; rw [hr_] at g23_; obtain ⟨i3_, q1_, q2_⟩ := g23_.2; have q3_ : lx_kd b_ n_ r_ = 1 := (by obtain ⟨r2_, h3_, h4_⟩ := pb_inr hr_; unfold p_du at h4_; split at h4_; (rename_i gg_; cases h4_; exact gg_); cases h4_); have q4_ := rp_at t23_ q2_; rw [show vx18_ = (i3_ : Int) by omega, Int.toNat_natCast]; exact ⟨(rp_rtk t23_ q2_ q3_).1, q4_.2.1, by rw [q4_.1, q3_]; decide⟩
    have T23_ := rT_fr T18_ hFx15_ rfl rfl rfl rfl rfl rfl rfl rfl rfl rfl rfl rfl rfl
    refine sm_T_go 2 (c1 := (28, [some (.inr (.inr (some (13, 0)))), some (.inl vx18_), none], [.inr (.inr (some (13, 0)))], Sx13_)) rfl ?_
    refine sm_T_cal (d1 := 0) (Q1 := vq_292  Sx13_) rfl rfl (by decide) (vc_292  Sx13_ hIx14_ ) (fun u_ Sx19_ px22_ => ?_)
    obtain ⟨rfl, vx24_, rfl, px22_⟩ := px22_
    have e28_ := px22_
    refine sm_T_b0 (a := 0) (z := 19) rfl (fun cx25_ => ?_) (fun cx25_ => ?_)
    · have cx25_ : vx24_ = 0 := of_decide_eq_true cx25_
      have hz_ := wr_if e28_ (by omega)
      obtain ⟨e5_, he5_⟩ := rg_w g23_ hz_
      have b3w : (z_b3 b_ n_ N_ M_ q_) = .inl e5_ := by unfold z_b3; rw [he5_]; rfl
      have g3w := g23_
      rw [he5_] at g3w
      refine sm_T_go 0 (c1 := (50, [some (.inr (.inr (some (13, 0)))), some (.inl vx18_), none], [], Sx13_)) rfl ?_
      refine (vl_339 b_ n_ T_ X_ A_ N_ M_ mc c_ q_ f_ S0_ ht_ hx_ hT_ hmo_ hc_ hX_ hf_ _).1 vx18_ Sx13_ hIx14_ hFx17_ ⟨?_, ?_, ?_, ?_, trivial⟩ (Nat.lt_succ_self _)
      · first | exact g47_ | (rw [b3w]; exact g3w) | (rw [b3c, if_pos (by omega)]; exact g3r)
      · exact fun r_ hr_ => (rt23_ r_ hr_).1
      · omega
      · first | exact T47_ | exact T23_
    · have cx25_ : ¬ (vx24_ = 0) := of_decide_eq_false cx25_
      have hz_ := rt_if e28_ (by omega)
      obtain ⟨r2_, i2_, hr2_, hi21_, hi22_⟩ := rg_r g23_ hz_
      have rt2_ := rt23_ r2_ hr2_
      have g3r := g23_
      rw [hr2_] at g3r
      have b3c : (z_b3 b_ n_ N_ M_ q_) = if p_fm b_ n_ N_ M_ r2_ = -1 then .inr r2_ else .inl (10, r2_) := by unfold z_b3; rw [hr2_]; rfl
      refine sm_T_go 2 (c1 := (36, [some (.inr (.inr (some (13, 0)))), some (.inl vx18_), none], [.inl vx18_, .inr (.inr (some (13, 0)))], Sx13_)) rfl ?_
      refine sm_T_cal (d1 := 1) (Q1 := vq_303 vx18_ b_ n_ T_ N_ M_ r2_ Sx13_) rfl rfl (by decide) (vc_303 vx18_ b_ n_ T_ N_ M_ r2_ Sx13_ hIx14_ (by exact t23_) (by exact T23_.1) (by exact T23_.2.2.2.2.2.1) (by exact rt2_.1)) (fun u_ Sx26_ px29_ => ?_)
      obtain ⟨rfl, vx31_, rfl, px29_⟩ := px29_
      have e36_ := px29_
      refine sm_T_go 1 (c1 := (40, [some (.inr (.inr (some (13, 0)))), some (.inl vx18_), none], [.inl (-1), .inl vx31_], Sx13_)) rfl ?_
      refine sm_T_br (a := 0) (z := 10) rfl (fun cx32_ => ?_) (fun cx32_ => ?_)
      · have cx32_ : vx31_ = (-1) := of_decide_eq_true cx32_
        refine sm_T_go 0 (c1 := (50, [some (.inr (.inr (some (13, 0)))), some (.inl vx18_), none], [], Sx13_)) rfl ?_
        refine (vl_339 b_ n_ T_ X_ A_ N_ M_ mc c_ q_ f_ S0_ ht_ hx_ hT_ hmo_ hc_ hX_ hf_ _).1 vx18_ Sx13_ hIx14_ hFx17_ ⟨?_, ?_, ?_, ?_, trivial⟩ (Nat.lt_succ_self _)
        · first | exact g47_ | (rw [b3w]; exact g3w) | (rw [b3c, if_pos (by omega)]; exact g3r)
        · exact fun r_ hr_ => (rt23_ r_ hr_).1
        · omega
        · first | exact T47_ | exact T23_
      · have cx32_ : ¬ (vx31_ = (-1)) := of_decide_eq_false cx32_
        refine sm_T_go 3 (c1 := (47, [some (.inr (.inr (some (13, 0)))), some (.inl vx18_), none], [.inl vx18_, .inl 10, .inr (.inr (some (13, 0)))], Sx13_)) rfl ?_
        refine sm_T_cal (d1 := 0) (Q1 := vq_293 10 vx18_ Sx13_) rfl rfl (by decide) (vc_293 10 vx18_ Sx13_ hIx14_ (by decide) (by omega)) (fun u_ Sx33_ px36_ => ?_)
        obtain ⟨rfl, hIx34_, hFx35_, px36_⟩ := px36_
        have hFx37_ : ai_fr (sx_W vw_339) S0_ Sx33_ := ai_fr_tr hFx17_ (fr_le hFx35_ rfl)
        have g47_ : rg b_ n_ T_ (z_b3 b_ n_ N_ M_ q_) Sx33_ := by rw [b3c, if_neg (by omega)]; rcases px36_ with z_ | z_; (exact absurd hz_ z_.1); (exact ⟨z_.2.1.trans (if_neg rt2_.2.2), z_.2.2.trans rt2_.2.1, by show (10 : Int) ≠ 0; decide⟩)
        have T47_ := rT_fr T23_ hFx35_ rfl rfl rfl rfl rfl rfl rfl rfl rfl rfl rfl rfl rfl
        refine sm_T_go 0 (c1 := (50, [some (.inr (.inr (some (13, 0)))), some (.inl vx18_), none], [], Sx33_)) rfl ?_
        refine (vl_339 b_ n_ T_ X_ A_ N_ M_ mc c_ q_ f_ S0_ ht_ hx_ hT_ hmo_ hc_ hX_ hf_ _).1 vx18_ Sx33_ hIx34_ hFx37_ ⟨?_, ?_, ?_, ?_, trivial⟩ (Nat.lt_succ_self _)
        · first | exact g47_ | (rw [b3w]; exact g3w) | (rw [b3c, if_pos (by omega)]; exact g3r)
        · exact fun r_ hr_ => (rt23_ r_ hr_).1
        · omega
        · first | exact T47_ | exact T23_
  · have cx7_ : ¬ (vx6_ ≠ 0) := of_decide_eq_false cx7_
    have k3_ : lx_kd b_ n_ q_ ≠ 3 := fun z_ => by have := e2_.mpr (by omega); omega
    have nd3_ : p_nd b_ n_ 3 q_ = .inl (2, q_) := if_neg k3_
    have bx38_ : 0 ≤ S0_.1 13 0 9 ∧ S0_.1 13 0 9 ≤ 1280 := hI_.1 13 0 9 rfl
    refine sm_T_go 4 (c1 := (14, [some (.inr (.inr (some (13, 0)))), none, none], [.inl (S0_.1 13 0 9), .inl 2, .inr (.inr (some (13, 0)))], S0_)) rfl ?_
    refine sm_T_cal (d1 := 0) (Q1 := vq_293 2 (S0_.1 13 0 9) S0_) rfl rfl (by decide) (vc_293 2 (S0_.1 13 0 9) S0_ hI_ (by decide) (by omega)) (fun u_ Sx39_ px42_ => ?_)
    obtain ⟨rfl, hIx40_, hFx41_, px42_⟩ := px42_
    have hFx43_ : ai_fr (sx_W vw_339) S0_ Sx39_ := ai_fr_tr hF_ (fr_le hFx41_ rfl)
    have ex44_ : Sx39_.1 13 0 9 = S0_.1 13 0 9 := hFx41_.1 13 0 9 rfl
    have g14_ : rg b_ n_ T_ (.inl (2, q_)) Sx39_ := by rcases px42_ with z_ | z_; (exact absurd hx_.1 z_.1); (refine ⟨z_.2.1.trans (if_neg ?_), z_.2.2.trans ?_, by show (2 : Int) ≠ 0; decide⟩; (rw [hi01_, Int.toNat_natCast, ra0_.1]; exact rk0_.2.2.2.2.2); (rw [hi01_, Int.toNat_natCast]; exact ra0_.2.1))
    obtain ⟨x7_, hx7_, hx7b⟩ : ∃ x7_ : pE Nat, rg b_ n_ T_ x7_ Sx39_ ∧ x7_ = .inl (2, q_) := ⟨_, g14_, rfl⟩
    have t7_ := rtab_fr ht_ hFx41_ rfl rfl rfl rfl rfl
    have T7_ := rT_fr hT_ hFx41_ rfl rfl rfl rfl rfl rfl rfl rfl rfl rfl rfl rfl rfl
    refine sm_T_go 1 (c1 := (18, [some (.inr (.inr (some (13, 0)))), none, none], [.inr (.inr (some (13, 0)))], Sx39_)) rfl ?_
    refine sm_T_cal (d1 := 2) (Q1 := vq_297 b_ n_ T_ x7_ Sx39_) rfl rfl (by decide) (vc_297 b_ n_ T_ x7_ Sx39_ hIx40_ (by exact t7_) (by exact hx7_) (by (intro z_ e_; rw [hx7b] at e_; first | (cases e_; done) | (cases e_; rw [k3_]; decide)))) (fun u_ Sx45_ px48_ => ?_)
    obtain ⟨rfl, hIx46_, hFx47_, px48_⟩ := px48_
    have hFx49_ : ai_fr (sx_W vw_339) S0_ Sx45_ := ai_fr_tr hFx43_ (fr_le hFx47_ rfl)
    have z18_ := px48_.1
    rw [hx7b] at z18_
    have g18_ : rg b_ n_ T_ (p_nd b_ n_ 3 q_) Sx45_ := by rw [nd3_]; exact z18_
    have t18_ := rtab_fr t7_ hFx47_ rfl rfl rfl rfl rfl
    have T18_ := rT_fr T7_ hFx47_ rfl rfl rfl rfl rfl rfl rfl rfl rfl rfl rfl rfl rfl
    refine sm_T_go 2 (c1 := (23, [some (.inr (.inr (some (13, 0)))), none, none], [.inl 1, .inr (.inr (some (13, 0)))], Sx45_)) rfl ?_
    refine sm_T_cal (d1 := 1) (Q1 := vq_299 1 b_ n_ T_ (p_nd b_ n_ 3 q_) Sx45_) rfl rfl (by decide) (vc_299 1 b_ n_ T_ (p_nd b_ n_ 3 q_) Sx45_ hIx46_ (by exact t18_) (by exact g18_) (by decide)) (fun u_ Sx50_ px53_ => ?_)
    obtain ⟨vx55_, rfl, hIx51_, hFx52_, px53_⟩ := px53_
    have hFx54_ : ai_fr (sx_W vw_339) S0_ Sx50_ := ai_fr_tr hFx49_ (fr_le hFx52_ rfl)
    have a23_ := px53_.1
    have g23_ := px53_.2
    have t23_ := rtab_fr t18_ hFx52_ rfl rfl rfl rfl rfl
    have at23_ := hFx52_.1 13 0 9 rfl
    have v23b : 0 ≤ vx55_ ∧ vx55_ ≤ 1280 := by rw [a23_, ← at23_]; exact hIx51_.1 13 0 9 rfl
    have rt23_ : ∀ r_, (pb (p_nd b_ n_ 3 q_) (p_du b_ n_ 1)) = .inr r_ → rtk b_ n_ T_ vx55_ r_ ∧ Sx50_.2.2.1 120 0 vx55_.toNat = (r_ : Int) ∧ Sx50_.2.2.1 119 0 vx55_.toNat ≠ 4 := by intro r_ hr_; rw [hr_] at g23_; obtain ⟨i3_, q1_, q2_⟩ := g23_.2; have q3_ : lx_kd b_ n_ r_ = 1 := (by obtain ⟨r2_, h3_, h4_⟩ := pb_inr hr_; unfold p_du at h4_; split at h4_; (rename_i gg_; cases h4_; exact gg_); cases h4_); have q4_ := rp_at t23_ q2_; rw [show vx55_ = (i3_ : Int) by omega, Int.toNat_natCast]; exact ⟨(rp_rtk t23_ q2_ q3_).1, q4_.2.1, by rw [q4_.1, q3_]; decide⟩
    have T23_ := rT_fr T18_ hFx52_ rfl rfl rfl rfl rfl rfl rfl rfl rfl rfl rfl rfl rfl
    refine sm_T_go 2 (c1 := (28, [some (.inr (.inr (some (13, 0)))), some (.inl vx55_), none], [.inr (.inr (some (13, 0)))], Sx50_)) rfl ?_
    refine sm_T_cal (d1 := 0) (Q1 := vq_292  Sx50_) rfl rfl (by decide) (vc_292  Sx50_ hIx51_ ) (fun u_ Sx56_ px59_ => ?_)
    obtain ⟨rfl, vx61_, rfl, px59_⟩ := px59_
    have e28_ := px59_
    refine sm_T_b0 (a := 0) (z := 19) rfl (fun cx62_ => ?_) (fun cx62_ => ?_)
    · have cx62_ : vx61_ = 0 := of_decide_eq_true cx62_
      have hz_ := wr_if e28_ (by omega)
      obtain ⟨e5_, he5_⟩ := rg_w g23_ hz_
      have b3w : (z_b3 b_ n_ N_ M_ q_) = .inl e5_ := by unfold z_b3; rw [he5_]; rfl
      have g3w := g23_
      rw [he5_] at g3w
      refine sm_T_go 0 (c1 := (50, [some (.inr (.inr (some (13, 0)))), some (.inl vx55_), none], [], Sx50_)) rfl ?_
      refine (vl_339 b_ n_ T_ X_ A_ N_ M_ mc c_ q_ f_ S0_ ht_ hx_ hT_ hmo_ hc_ hX_ hf_ _).1 vx55_ Sx50_ hIx51_ hFx54_ ⟨?_, ?_, ?_, ?_, trivial⟩ (Nat.lt_succ_self _)
      · first | exact g47_ | (rw [b3w]; exact g3w) | (rw [b3c, if_pos (by omega)]; exact g3r)
      · exact fun r_ hr_ => (rt23_ r_ hr_).1
      · omega
      · first | exact T47_ | exact T23_
    · have cx62_ : ¬ (vx61_ = 0) := of_decide_eq_false cx62_
      have hz_ := rt_if e28_ (by omega)
      obtain ⟨r2_, i2_, hr2_, hi21_, hi22_⟩ := rg_r g23_ hz_
      have rt2_ := rt23_ r2_ hr2_
      have g3r := g23_
      rw [hr2_] at g3r
      have b3c : (z_b3 b_ n_ N_ M_ q_) = if p_fm b_ n_ N_ M_ r2_ = -1 then .inr r2_ else .inl (10, r2_) := by unfold z_b3; rw [hr2_]; rfl
      refine sm_T_go 2 (c1 := (36, [some (.inr (.inr (some (13, 0)))), some (.inl vx55_), none], [.inl vx55_, .inr (.inr (some (13, 0)))], Sx50_)) rfl ?_
      refine sm_T_cal (d1 := 1) (Q1 := vq_303 vx55_ b_ n_ T_ N_ M_ r2_ Sx50_) rfl rfl (by decide) (vc_303 vx55_ b_ n_ T_ N_ M_ r2_ Sx50_ hIx51_ (by exact t23_) (by exact T23_.1) (by exact T23_.2.2.2.2.2.1) (by exact rt2_.1)) (fun u_ Sx63_ px66_ => ?_)
      obtain ⟨rfl, vx68_, rfl, px66_⟩ := px66_
      have e36_ := px66_
      refine sm_T_go 1 (c1 := (40, [some (.inr (.inr (some (13, 0)))), some (.inl vx55_), none], [.inl (-1), .inl vx68_], Sx50_)) rfl ?_
      refine sm_T_br (a := 0) (z := 10) rfl (fun cx69_ => ?_) (fun cx69_ => ?_)
      · have cx69_ : vx68_ = (-1) := of_decide_eq_true cx69_
        refine sm_T_go 0 (c1 := (50, [some (.inr (.inr (some (13, 0)))), some (.inl vx55_), none], [], Sx50_)) rfl ?_
        refine (vl_339 b_ n_ T_ X_ A_ N_ M_ mc c_ q_ f_ S0_ ht_ hx_ hT_ hmo_ hc_ hX_ hf_ _).1 vx55_ Sx50_ hIx51_ hFx54_ ⟨?_, ?_, ?_, ?_, trivial⟩ (Nat.lt_succ_self _)
        · first | exact g47_ | (rw [b3w]; exact g3w) | (rw [b3c, if_pos (by omega)]; exact g3r)
        · exact fun r_ hr_ => (rt23_ r_ hr_).1
        · omega
        · first | exact T47_ | exact T23_
      · have cx69_ : ¬ (vx68_ = (-1)) := of_decide_eq_false cx69_
        refine sm_T_go 3 (c1 := (47, [some (.inr (.inr (some (13, 0)))), some (.inl vx55_), none], [.inl vx55_, .inl 10, .inr (.inr (some (13, 0)))], Sx50_)) rfl ?_
        refine sm_T_cal (d1 := 0) (Q1 := vq_293 10 vx55_ Sx50_) rfl rfl (by decide) (vc_293 10 vx55_ Sx50_ hIx51_ (by decide) (by omega)) (fun u_ Sx70_ px73_ => ?_)
        obtain ⟨rfl, hIx71_, hFx72_, px73_⟩ := px73_
        have hFx74_ : ai_fr (sx_W vw_339) S0_ Sx70_ := ai_fr_tr hFx54_ (fr_le hFx72_ rfl)
        have g47_ : rg b_ n_ T_ (z_b3 b_ n_ N_ M_ q_) Sx70_ := by rw [b3c, if_neg (by omega)]; rcases px73_ with z_ | z_; (exact absurd hz_ z_.1); (exact ⟨z_.2.1.trans (if_neg rt2_.2.2), z_.2.2.trans rt2_.2.1, by show (10 : Int) ≠ 0; decide⟩)
        have T47_ := rT_fr T23_ hFx72_ rfl rfl rfl rfl rfl rfl rfl rfl rfl rfl rfl rfl rfl
        refine sm_T_go 0 (c1 := (50, [some (.inr (.inr (some (13, 0)))), some (.inl vx55_), none], [], Sx70_)) rfl ?_
        refine (vl_339 b_ n_ T_ X_ A_ N_ M_ mc c_ q_ f_ S0_ ht_ hx_ hT_ hmo_ hc_ hX_ hf_ _).1 vx55_ Sx70_ hIx71_ hFx74_ ⟨?_, ?_, ?_, ?_, trivial⟩ (Nat.lt_succ_self _)
        · first | exact g47_ | (rw [b3w]; exact g3w) | (rw [b3c, if_pos (by omega)]; exact g3r)
        · exact fun r_ hr_ => (rt23_ r_ hr_).1
        · omega
        · first | exact T47_ | exact T23_
end
/-! 99.yra -/
section
/-! the reference: a design told; written by wip/p55/gen/vg -/

/-! a_ design told -/
theorem rd_0 {b_ : Nat → Int} {n_ T_ : Nat} {S_ : sm_S} (ht_ : rtab b_ n_ T_ S_) : (S_.2.2.1 119 0 0 = 4 → lx_kd b_ n_ (lx_k b_ n_ 0) = -1 ∧ S_.2.2.1 120 0 0 = (lx_k b_ n_ 0 : Nat)) ∧ (S_.2.2.1 119 0 0 ≠ 4 → rp b_ n_ T_ 0 (lx_k b_ n_ 0)) := by
  obtain ⟨h1_, h2_, h3_, h4_, h5_, h6_, h7_, h8_⟩ := ht_
  by_cases g_ : T_ = 0
  · subst g_
    have e_ : lxp b_ n_ 0 = n_ := by
      rcases h7_ with z_ | z_
      · exact z_.1
      · exact absurd z_.1 (by omega)
    have e2_ : lx_k b_ n_ 0 = n_ := e_
    refine ⟨fun z_ => by rw [h4_] at z_; exact absurd z_ (by decide), fun _ => ⟨Nat.le_refl _, rfl, ?_, fun _ => e_⟩⟩
    rw [e2_, lx_kd_n]
    decide
  · have k_ := h3_.1 0 (by omega)
    have k1_ : S_.2.2.1 120 0 0 = (lx_k b_ n_ 0 : Nat) := k_.2.1
    have k2_ : S_.2.2.1 119 0 0 = r_so (lx_kd b_ n_ (lx_k b_ n_ 0)) := k_.2.2.1
    refine ⟨fun z_ => ⟨?_, k1_⟩, fun z_ => ⟨Nat.zero_le _, rfl, ?_, fun z_ => absurd z_.symm g_⟩⟩
    · rw [z_] at k2_
      unfold r_so at k2_
      split at k2_
      · assumption
      · exfalso
        split at k2_
        · omega
        · split at k2_
          · omega
          · split at k2_ <;> omega
    · intro y_
      apply z_
      rw [k2_, y_]
      rfl
def r_mm (S_ : sm_S) : Nat := if S_.1 13 0 10 ≠ 0 then 0 else (20 - S_.1 13 0 12).toNat
/-- the_ limits of_ a_ design -/
def p_lm (is_ ib_ rb ob_ : Int) : Int := if 200 < is_ then 20 else if 12 < ib_ + rb ∨ 6 < rb then 21 else if ob_ = 0 ∨ 16 < ob_ then 22 else 0
def A_0 : pA := (fun _ => 0, fun _ => 0, fun _ => 0, fun _ => 0, fun _ => 0)
def rI (b_ : Nat → Int) (n_ T_ : Nat) (X_ : pE pD) (S_ : sm_S) : Prop := ∃ q_, rg b_ n_ T_ (.inr q_) S_ ∧ S_.1 13 0 12 = 0 ∧ X_ = pb (p_bm b_ n_ A_0 (fun _ => 0) 0 q_) fun x_ => p_dl b_ n_ (n_ + 1) x_.1 x_.2.1 0 (fun _ => 0) [] x_.2.2
/-- what is_ there when a_ design is_ told -/
def rE (b_ : Nat → Int) (n_ T_ : Nat) (X_ : pE pD) (S_ : sm_S) : Prop := ∃ r_, X_ = .inr r_ ∧ rT b_ n_ T_ r_.1 r_.2.1 r_.2.2.1 S_ ∧ 1 ≤ r_.2.2.1 ∧ S_.1 13 0 10 = p_lm (S_.2.2.1 135 0 (r_.2.2.1 - 1)) (S_.2.2.1 132 0 (r_.2.2.1 - 1)) (S_.2.2.1 134 0 (r_.2.2.1 - 1)) (S_.2.2.1 133 0 (r_.2.2.1 - 1)) ∧ (S_.1 13 0 10 ≠ 0 → S_.1 13 0 11 = (r_.2.1 (r_.2.2.1 - 1) : Int))
theorem fb_r {S_ S'_ : sm_S} {f_ pl_ : Int} (h_ : (S_.1 13 0 10 ≠ 0 ∧ S'_.1 13 0 10 = S_.1 13 0 10 ∧ S'_.1 13 0 11 = S_.1 13 0 11) ∨ (S_.1 13 0 10 = 0 ∧ S'_.1 13 0 10 = f_ ∧ S'_.1 13 0 11 = pl_)) (h0_ : S_.1 13 0 10 = 0) : S'_.1 13 0 10 = f_ ∧ S'_.1 13 0 11 = pl_ := by
  rcases h_ with z_ | z_
  · exact absurd h0_ z_.1
  · exact z_.2
theorem rE_f {b_ : Nat → Int} {n_ T_ M_ : Nat} {X_ : pE pD} {A_ : pA} {N_ mc : Nat → Nat} {c_ : List Int} {S_ : sm_S} (hX_ : X_ = .inr (A_, N_, M_, mc, c_)) (hT_ : rT b_ n_ T_ A_ N_ M_ S_) (hM_ : 1 ≤ M_) (h_ : S_.1 13 0 10 = p_lm (S_.2.2.1 135 0 (M_ - 1)) (S_.2.2.1 132 0 (M_ - 1)) (S_.2.2.1 134 0 (M_ - 1)) (S_.2.2.1 133 0 (M_ - 1))) (h2_ : S_.1 13 0 10 ≠ 0 → S_.1 13 0 11 = (N_ (M_ - 1) : Int)) : rE b_ n_ T_ X_ S_ := ⟨_, hX_, hT_, hM_, h_, h2_⟩
theorem rT_0 {b_ : Nat → Int} {n_ T_ : Nat} {N_ : Nat → Nat} {S_ : sm_S} (h_ : S_.1 13 0 12 = 0) : rT b_ n_ T_ A_0 N_ 0 S_ := ⟨h_, by omega, fun m_ hm_ => absurd hm_ (Nat.not_lt_zero _), fun m_ hm_ => absurd hm_ (Nat.not_lt_zero _), fun m_ hm_ => absurd hm_ (Nat.not_lt_zero _), ⟨by omega, fun m_ hm_ => absurd hm_ (Nat.not_lt_zero _)⟩, fun m_ hm_ => absurd hm_ (Nat.not_lt_zero _)⟩
/-! M_.tellDesign -/
def vw_340 : sx_Wl := ([(13, 3), (13, 9), (13, 10), (13, 11), (13, 12), (13, 25), (13, 26), (13, 27), (13, 28), (13, 32), (13, 33), (13, 34)], [119, 120, 121, 122, 123, 124, 125, 126, 127, 128, 129, 130, 131, 132, 133, 134, 135, 136, 137, 138, 139], [])
def vq_340 (b_ : Nat → Int) (n_ : Nat) (S0_ : sm_S) (u_ : Option sm_V) (S1_ : sm_S) : Prop := u_ = none ∧ gi S1_ ∧ ai_fr (sx_W vw_340) S0_ S1_ ∧ (∃ T_, rtab b_ n_ T_ S1_ ∧ (rX b_ n_ T_ (p_de b_ n_) S1_ ∨ rE b_ n_ T_ (p_de b_ n_) S1_))
set_option maxHeartbeats 2000000 in
theorem vl_340 {sc_ : Nat × (Nat → Int)} (b_ : Nat → Int) (n_ : Nat) (S0_ : sm_S) (hb_ : S0_.2.2.1 118 0 = b_) (hn_ : (S0_.1 13 0 2) = (n_ : Int)) (hn1_ : n_ ≤ 1280) : ∀ nn_ : Nat, (∀  (S_ : sm_S), gi S_ → ai_fr (sx_W vw_340) S0_ S_ → ((∃ T_, rtab b_ n_ T_ S_ ∧ (rX b_ n_ T_ (p_de b_ n_) S_ ∨ rN b_ n_ T_ (p_de b_ n_) S_ ∨ rI b_ n_ T_ (p_de b_ n_) S_)) ∧ ((S_.1 13 0 27) = 0) ∧ True) → (r_mm S_) < nn_ → sm_T (mt_P sc_) 11 340 (33, [some (.inr (.inr (some (13, 0)))), none, none], [], S_) (fun ro9_ => ∃ u_ S1_, ro9_ = (.inl u_, S1_, 0) ∧ vq_340 b_ n_ S0_ u_ S1_)) := by
  intro nn_
  induction nn_ with
  | zero => exact fun  _ _ _ _ h_ => absurd h_ (Nat.not_lt_zero _)
  | succ nn_ ih_ =>
    rintro  S_ hI_ hF_ ⟨h1_, mo33_, -⟩ hm_
    obtain ⟨T_, t33_, h1_⟩ := h1_
    refine sm_T_go 1 (c1 := (34, [some (.inr (.inr (some (13, 0)))), none, none], [.inr (.inr (some (13, 0)))], S_)) rfl ?_
    refine sm_T_cal (d1 := 0) (Q1 := vq_292  S_) rfl rfl (by decide) (vc_292  S_ hI_ ) (fun u_ Sx1_ px4_ => ?_)
    obtain ⟨rfl, vx6_, rfl, px4_⟩ := px4_
    have e34_ := px4_
    refine sm_T_b0 (a := 0) (z := 30) rfl (fun cx7_ => ?_) (fun cx7_ => ?_)
    · have cx7_ : vx6_ = 0 := of_decide_eq_true cx7_
      have hz_ := wr_if e34_ (by omega)
      refine sm_T_go 1 (c1 := (68, [some (.inr (.inr (some (13, 0)))), none, none], [.inr (.inr (some (13, 0)))], S_)) rfl ?_
      refine sm_T_cal (d1 := 0) (Q1 := vq_292  S_) rfl rfl (by decide) (vc_292  S_ hI_ ) (fun u_ Sx8_ px11_ => ?_)
      obtain ⟨rfl, vx13_, rfl, px11_⟩ := px11_
      have e68_ := px11_
      refine sm_T_b0 (a := 1) (z := 4) rfl (fun cx14_ => ?_) (fun cx14_ => ?_)
      · have cx14_ : vx13_ ≠ 0 := of_decide_eq_true cx14_
        have hz7_ := rt_if e68_ (by omega)
        have dummy7 := hz7_
        have bx15_ : 0 ≤ S_.1 13 0 12 ∧ S_.1 13 0 12 ≤ 16 := hI_.1 13 0 12 rfl
        refine sm_T_go 3 (c1 := (80, [some (.inr (.inr (some (13, 0)))), none, none], [.inl 1, .inl (S_.1 13 0 12)], S_)) rfl ?_
        refine sm_T_bin (w := (S_.1 13 0 12) - 1) rfl (bi_sub (by omega) (by omega) (by omega)) ?_
        refine sm_T_go 4 (c1 := (87, [some (.inr (.inr (some (13, 0)))), some (.inl ((S_.1 13 0 12) - 1)), none], [.inl ((S_.1 13 0 12) - 1), .inr (.inr (some (135, 0)))], S_)) rfl ?_
        refine sm_T_iald (n := 16) rfl rfl (by omega) (by omega) ?_
        have bx16_ : 0 ≤ S_.2.2.1 135 0 ((S_.1 13 0 12) - 1).toNat ∧ S_.2.2.1 135 0 ((S_.1 13 0 12) - 1).toNat ≤ 1073741823 := hI_.2 135 0 _
        refine sm_T_go 1 (c1 := (91, [some (.inr (.inr (some (13, 0)))), some (.inl ((S_.1 13 0 12) - 1)), none], [.inl 200, .inl (S_.2.2.1 135 0 ((S_.1 13 0 12) - 1).toNat)], S_)) rfl ?_
        refine sm_T_br (a := 5) (z := 8) rfl (fun cx17_ => ?_) (fun cx17_ => ?_)
        · have cx17_ : (S_.2.2.1 135 0 ((S_.1 13 0 12) - 1).toNat) ≤ 200 := of_decide_eq_true cx17_
          refine sm_T_go 3 (c1 := (104, [some (.inr (.inr (some (13, 0)))), some (.inl ((S_.1 13 0 12) - 1)), none], [.inl ((S_.1 13 0 12) - 1), .inr (.inr (some (132, 0)))], S_)) rfl ?_
          refine sm_T_iald (n := 16) rfl rfl (by omega) (by omega) ?_
          have bx18_ : 0 ≤ S_.2.2.1 132 0 ((S_.1 13 0 12) - 1).toNat ∧ S_.2.2.1 132 0 ((S_.1 13 0 12) - 1).toNat ≤ 320 := hI_.2 132 0 _
          refine sm_T_go 3 (c1 := (110, [some (.inr (.inr (some (13, 0)))), some (.inl ((S_.1 13 0 12) - 1)), none], [.inl ((S_.1 13 0 12) - 1), .inr (.inr (some (134, 0))), .inl (S_.2.2.1 132 0 ((S_.1 13 0 12) - 1).toNat)], S_)) rfl ?_
          refine sm_T_iald (n := 16) rfl rfl (by omega) (by omega) ?_
          have bx19_ : 0 ≤ S_.2.2.1 134 0 ((S_.1 13 0 12) - 1).toNat ∧ S_.2.2.1 134 0 ((S_.1 13 0 12) - 1).toNat ≤ 1073741823 := hI_.2 134 0 _
          refine sm_T_bin (w := (S_.2.2.1 132 0 ((S_.1 13 0 12) - 1).toNat) + (S_.2.2.1 134 0 ((S_.1 13 0 12) - 1).toNat)) rfl (bi_add (by omega) (by omega) (by omega)) ?_
          refine sm_T_go 1 (c1 := (114, [some (.inr (.inr (some (13, 0)))), some (.inl ((S_.1 13 0 12) - 1)), none], [.inl 12, .inl ((S_.2.2.1 132 0 ((S_.1 13 0 12) - 1).toNat) + (S_.2.2.1 134 0 ((S_.1 13 0 12) - 1).toNat))], S_)) rfl ?_
          refine sm_T_br (a := 4) (z := 14) rfl (fun cx20_ => ?_) (fun cx20_ => ?_)
          · have cx20_ : 12 < (S_.2.2.1 132 0 ((S_.1 13 0 12) - 1).toNat) + (S_.2.2.1 134 0 ((S_.1 13 0 12) - 1).toNat) := of_decide_eq_true cx20_
            refine sm_T_go 10 (c1 := (171, [some (.inr (.inr (some (13, 0)))), some (.inl ((S_.1 13 0 12) - 1)), some (.inl 21)], [.inl ((S_.1 13 0 12) - 1), .inr (.inr (some (124, 0))), .inl 21, .inr (.inr (some (13, 0)))], S_)) rfl ?_
            refine sm_T_iald (n := 16) rfl rfl (by omega) (by omega) ?_
            have bx21_ : 0 ≤ S_.2.2.1 124 0 ((S_.1 13 0 12) - 1).toNat ∧ S_.2.2.1 124 0 ((S_.1 13 0 12) - 1).toNat ≤ 1280 := hI_.2 124 0 _
            refine sm_T_cal (d1 := 0) (Q1 := vq_294 21 (S_.2.2.1 124 0 ((S_.1 13 0 12) - 1).toNat) S_) rfl rfl (by decide) (vc_294 21 (S_.2.2.1 124 0 ((S_.1 13 0 12) - 1).toNat) S_ hI_ (by decide) (by omega)) (fun u_ Sx22_ px25_ => ?_)
            obtain ⟨rfl, hIx23_, hFx24_, px25_⟩ := px25_
            have hFx26_ : ai_fr (sx_W vw_340) S0_ Sx22_ := ai_fr_tr hF_ (fr_le hFx24_ rfl)
            have ex27_ : Sx22_.1 13 0 12 = S_.1 13 0 12 := hFx24_.1 13 0 12 rfl
            have t172_ := rtab_fr t33_ hFx24_ rfl rfl rfl rfl rfl
            first | (have T172_ := rT_fr T1_ hFx24_ rfl rfl rfl rfl rfl rfl rfl rfl rfl rfl rfl rfl rfl) | skip
            have e172_ := fb_r px25_ hz7_
            have a132_ := fr_arr (t := 132) (i := 0) hFx24_ rfl
            have a133_ := fr_arr (t := 133) (i := 0) hFx24_ rfl
            have a134_ := fr_arr (t := 134) (i := 0) hFx24_ rfl
            have a135_ := fr_arr (t := 135) (i := 0) hFx24_ rfl
            refine sm_T_rv rfl ⟨_, _, rfl, rfl, hIx23_, hFx26_, ?_⟩
            first | (exact absurd hz7_ hz_) | (refine ⟨T_, t172_, Or.inr (rE_f hX1_ T172_ hM1_ ?_ fun _ => ?_)⟩; (rw [a132_, a133_, a134_, a135_, e172_.1, ← mI_]; unfold p_lm; first | (rw [if_pos (by omega)]) | (rw [if_neg (by omega), if_pos (by omega)]) | (rw [if_neg (by omega), if_neg (by omega), if_pos (by omega)])); (rw [e172_.2, ← mI_]; exact pt1_.2)) | (refine ⟨T_, t33_, Or.inr (rE_f hX1_ T1_ hM1_ ?_ fun z_ => absurd hz_ z_)⟩; rw [hz_, ← mI_]; unfold p_lm; rw [if_neg (by omega), if_neg (by omega), if_neg (by omega)])
          · have cx20_ : ¬ (12 < (S_.2.2.1 132 0 ((S_.1 13 0 12) - 1).toNat) + (S_.2.2.1 134 0 ((S_.1 13 0 12) - 1).toNat)) := of_decide_eq_false cx20_
            refine sm_T_go 3 (c1 := (122, [some (.inr (.inr (some (13, 0)))), some (.inl ((S_.1 13 0 12) - 1)), none], [.inl ((S_.1 13 0 12) - 1), .inr (.inr (some (134, 0)))], S_)) rfl ?_
            refine sm_T_iald (n := 16) rfl rfl (by omega) (by omega) ?_
            refine sm_T_go 1 (c1 := (125, [some (.inr (.inr (some (13, 0)))), some (.inl ((S_.1 13 0 12) - 1)), none], [.inl 6, .inl (S_.2.2.1 134 0 ((S_.1 13 0 12) - 1).toNat)], S_)) rfl ?_
            refine sm_T_br (a := 5) (z := 8) rfl (fun cx28_ => ?_) (fun cx28_ => ?_)
            · have cx28_ : (S_.2.2.1 134 0 ((S_.1 13 0 12) - 1).toNat) ≤ 6 := of_decide_eq_true cx28_
              refine sm_T_go 3 (c1 := (138, [some (.inr (.inr (some (13, 0)))), some (.inl ((S_.1 13 0 12) - 1)), none], [.inl ((S_.1 13 0 12) - 1), .inr (.inr (some (133, 0)))], S_)) rfl ?_
              refine sm_T_iald (n := 16) rfl rfl (by omega) (by omega) ?_
              have bx29_ : 0 ≤ S_.2.2.1 133 0 ((S_.1 13 0 12) - 1).toNat ∧ S_.2.2.1 133 0 ((S_.1 13 0 12) - 1).toNat ≤ 320 := hI_.2 133 0 _
              refine sm_T_b0 (a := 0) (z := 14) rfl (fun cx30_ => ?_) (fun cx30_ => ?_)
              · have cx30_ : (S_.2.2.1 133 0 ((S_.1 13 0 12) - 1).toNat) = 0 := of_decide_eq_true cx30_
                refine sm_T_go 10 (c1 := (171, [some (.inr (.inr (some (13, 0)))), some (.inl ((S_.1 13 0 12) - 1)), some (.inl 22)], [.inl ((S_.1 13 0 12) - 1), .inr (.inr (some (124, 0))), .inl 22, .inr (.inr (some (13, 0)))], S_)) rfl ?_
                refine sm_T_iald (n := 16) rfl rfl (by omega) (by omega) ?_
                have bx31_ : 0 ≤ S_.2.2.1 124 0 ((S_.1 13 0 12) - 1).toNat ∧ S_.2.2.1 124 0 ((S_.1 13 0 12) - 1).toNat ≤ 1280 := hI_.2 124 0 _
                refine sm_T_cal (d1 := 0) (Q1 := vq_294 22 (S_.2.2.1 124 0 ((S_.1 13 0 12) - 1).toNat) S_) rfl rfl (by decide) (vc_294 22 (S_.2.2.1 124 0 ((S_.1 13 0 12) - 1).toNat) S_ hI_ (by decide) (by omega)) (fun u_ Sx32_ px35_ => ?_)
                obtain ⟨rfl, hIx33_, hFx34_, px35_⟩ := px35_
                have hFx36_ : ai_fr (sx_W vw_340) S0_ Sx32_ := ai_fr_tr hF_ (fr_le hFx34_ rfl)
                have ex37_ : Sx32_.1 13 0 12 = S_.1 13 0 12 := hFx34_.1 13 0 12 rfl
                have t172_ := rtab_fr t33_ hFx34_ rfl rfl rfl rfl rfl
                first | (have T172_ := rT_fr T1_ hFx34_ rfl rfl rfl rfl rfl rfl rfl rfl rfl rfl rfl rfl rfl) | skip
                have e172_ := fb_r px35_ hz7_
                have a132_ := fr_arr (t := 132) (i := 0) hFx34_ rfl
                have a133_ := fr_arr (t := 133) (i := 0) hFx34_ rfl
                have a134_ := fr_arr (t := 134) (i := 0) hFx34_ rfl
                have a135_ := fr_arr (t := 135) (i := 0) hFx34_ rfl
                refine sm_T_rv rfl ⟨_, _, rfl, rfl, hIx33_, hFx36_, ?_⟩
                first | (exact absurd hz7_ hz_) | (refine ⟨T_, t172_, Or.inr (rE_f hX1_ T172_ hM1_ ?_ fun _ => ?_)⟩; (rw [a132_, a133_, a134_, a135_, e172_.1, ← mI_]; unfold p_lm; first | (rw [if_pos (by omega)]) | (rw [if_neg (by omega), if_pos (by omega)]) | (rw [if_neg (by omega), if_neg (by omega), if_pos (by omega)])); (rw [e172_.2, ← mI_]; exact pt1_.2)) | (refine ⟨T_, t33_, Or.inr (rE_f hX1_ T1_ hM1_ ?_ fun z_ => absurd hz_ z_)⟩; rw [hz_, ← mI_]; unfold p_lm; rw [if_neg (by omega), if_neg (by omega), if_neg (by omega)])
              · have cx30_ : ¬ ((S_.2.2.1 133 0 ((S_.1 13 0 12) - 1).toNat) = 0) := of_decide_eq_false cx30_
                refine sm_T_go 3 (c1 := (147, [some (.inr (.inr (some (13, 0)))), some (.inl ((S_.1 13 0 12) - 1)), none], [.inl ((S_.1 13 0 12) - 1), .inr (.inr (some (133, 0)))], S_)) rfl ?_
                refine sm_T_iald (n := 16) rfl rfl (by omega) (by omega) ?_
                refine sm_T_go 1 (c1 := (150, [some (.inr (.inr (some (13, 0)))), some (.inl ((S_.1 13 0 12) - 1)), none], [.inl 16, .inl (S_.2.2.1 133 0 ((S_.1 13 0 12) - 1).toNat)], S_)) rfl ?_
                refine sm_T_br (a := 5) (z := 8) rfl (fun cx38_ => ?_) (fun cx38_ => ?_)
                · have cx38_ : (S_.2.2.1 133 0 ((S_.1 13 0 12) - 1).toNat) ≤ 16 := of_decide_eq_true cx38_
                  refine sm_T_go 4 (c1 := (175, [some (.inr (.inr (some (13, 0)))), some (.inl ((S_.1 13 0 12) - 1)), some (.inl 0)], [], S_)) rfl ?_
                  refine sm_T_rv rfl ⟨_, _, rfl, rfl, hI_, hF_, ?_⟩
                  first | (exact absurd hz7_ hz_) | (refine ⟨T_, t172_, Or.inr (rE_f hX1_ T172_ hM1_ ?_ fun _ => ?_)⟩; (rw [a132_, a133_, a134_, a135_, e172_.1, ← mI_]; unfold p_lm; first | (rw [if_pos (by omega)]) | (rw [if_neg (by omega), if_pos (by omega)]) | (rw [if_neg (by omega), if_neg (by omega), if_pos (by omega)])); (rw [e172_.2, ← mI_]; exact pt1_.2)) | (refine ⟨T_, t33_, Or.inr (rE_f hX1_ T1_ hM1_ ?_ fun z_ => absurd hz_ z_)⟩; rw [hz_, ← mI_]; unfold p_lm; rw [if_neg (by omega), if_neg (by omega), if_neg (by omega)])
                · have cx38_ : ¬ ((S_.2.2.1 133 0 ((S_.1 13 0 12) - 1).toNat) ≤ 16) := of_decide_eq_false cx38_
                  refine sm_T_go 10 (c1 := (171, [some (.inr (.inr (some (13, 0)))), some (.inl ((S_.1 13 0 12) - 1)), some (.inl 22)], [.inl ((S_.1 13 0 12) - 1), .inr (.inr (some (124, 0))), .inl 22, .inr (.inr (some (13, 0)))], S_)) rfl ?_
                  refine sm_T_iald (n := 16) rfl rfl (by omega) (by omega) ?_
                  have bx39_ : 0 ≤ S_.2.2.1 124 0 ((S_.1 13 0 12) - 1).toNat ∧ S_.2.2.1 124 0 ((S_.1 13 0 12) - 1).toNat ≤ 1280 := hI_.2 124 0 _
                  refine sm_T_cal (d1 := 0) (Q1 := vq_294 22 (S_.2.2.1 124 0 ((S_.1 13 0 12) - 1).toNat) S_) rfl rfl (by decide) (vc_294 22 (S_.2.2.1 124 0 ((S_.1 13 0 12) - 1).toNat) S_ hI_ (by decide) (by omega)) (fun u_ Sx40_ px43_ => ?_)
                  obtain ⟨rfl, hIx41_, hFx42_, px43_⟩ := px43_
                  have hFx44_ : ai_fr (sx_W vw_340) S0_ Sx40_ := ai_fr_tr hF_ (fr_le hFx42_ rfl)
                  have ex45_ : Sx40_.1 13 0 12 = S_.1 13 0 12 := hFx42_.1 13 0 12 rfl
                  have t172_ := rtab_fr t33_ hFx42_ rfl rfl rfl rfl rfl
                  first | (have T172_ := rT_fr T1_ hFx42_ rfl rfl rfl rfl rfl rfl rfl rfl rfl rfl rfl rfl rfl) | skip
                  have e172_ := fb_r px43_ hz7_
                  have a132_ := fr_arr (t := 132) (i := 0) hFx42_ rfl
                  have a133_ := fr_arr (t := 133) (i := 0) hFx42_ rfl
                  have a134_ := fr_arr (t := 134) (i := 0) hFx42_ rfl
                  have a135_ := fr_arr (t := 135) (i := 0) hFx42_ rfl
                  refine sm_T_rv rfl ⟨_, _, rfl, rfl, hIx41_, hFx44_, ?_⟩
                  first | (exact absurd hz7_ hz_) | (refine ⟨T_, t172_, Or.inr (rE_f hX1_ T172_ hM1_ ?_ fun _ => ?_)⟩; (rw [a132_, a133_, a134_, a135_, e172_.1, ← mI_]; unfold p_lm; first | (rw [if_pos (by omega)]) | (rw [if_neg (by omega), if_pos (by omega)]) | (rw [if_neg (by omega), if_neg (by omega), if_pos (by omega)])); (rw [e172_.2, ← mI_]; exact pt1_.2)) | (refine ⟨T_, t33_, Or.inr (rE_f hX1_ T1_ hM1_ ?_ fun z_ => absurd hz_ z_)⟩; rw [hz_, ← mI_]; unfold p_lm; rw [if_neg (by omega), if_neg (by omega), if_neg (by omega)])
            · have cx28_ : ¬ ((S_.2.2.1 134 0 ((S_.1 13 0 12) - 1).toNat) ≤ 6) := of_decide_eq_false cx28_
              refine sm_T_go 10 (c1 := (171, [some (.inr (.inr (some (13, 0)))), some (.inl ((S_.1 13 0 12) - 1)), some (.inl 21)], [.inl ((S_.1 13 0 12) - 1), .inr (.inr (some (124, 0))), .inl 21, .inr (.inr (some (13, 0)))], S_)) rfl ?_
              refine sm_T_iald (n := 16) rfl rfl (by omega) (by omega) ?_
              have bx46_ : 0 ≤ S_.2.2.1 124 0 ((S_.1 13 0 12) - 1).toNat ∧ S_.2.2.1 124 0 ((S_.1 13 0 12) - 1).toNat ≤ 1280 := hI_.2 124 0 _
              refine sm_T_cal (d1 := 0) (Q1 := vq_294 21 (S_.2.2.1 124 0 ((S_.1 13 0 12) - 1).toNat) S_) rfl rfl (by decide) (vc_294 21 (S_.2.2.1 124 0 ((S_.1 13 0 12) - 1).toNat) S_ hI_ (by decide) (by omega)) (fun u_ Sx47_ px50_ => ?_)
              obtain ⟨rfl, hIx48_, hFx49_, px50_⟩ := px50_
              have hFx51_ : ai_fr (sx_W vw_340) S0_ Sx47_ := ai_fr_tr hF_ (fr_le hFx49_ rfl)
              have ex52_ : Sx47_.1 13 0 12 = S_.1 13 0 12 := hFx49_.1 13 0 12 rfl
              have t172_ := rtab_fr t33_ hFx49_ rfl rfl rfl rfl rfl
              first | (have T172_ := rT_fr T1_ hFx49_ rfl rfl rfl rfl rfl rfl rfl rfl rfl rfl rfl rfl rfl) | skip
              have e172_ := fb_r px50_ hz7_
              have a132_ := fr_arr (t := 132) (i := 0) hFx49_ rfl
              have a133_ := fr_arr (t := 133) (i := 0) hFx49_ rfl
              have a134_ := fr_arr (t := 134) (i := 0) hFx49_ rfl
              have a135_ := fr_arr (t := 135) (i := 0) hFx49_ rfl
              refine sm_T_rv rfl ⟨_, _, rfl, rfl, hIx48_, hFx51_, ?_⟩
              first | (exact absurd hz7_ hz_) | (refine ⟨T_, t172_, Or.inr (rE_f hX1_ T172_ hM1_ ?_ fun _ => ?_)⟩; (rw [a132_, a133_, a134_, a135_, e172_.1, ← mI_]; unfold p_lm; first | (rw [if_pos (by omega)]) | (rw [if_neg (by omega), if_pos (by omega)]) | (rw [if_neg (by omega), if_neg (by omega), if_pos (by omega)])); (rw [e172_.2, ← mI_]; exact pt1_.2)) | (refine ⟨T_, t33_, Or.inr (rE_f hX1_ T1_ hM1_ ?_ fun z_ => absurd hz_ z_)⟩; rw [hz_, ← mI_]; unfold p_lm; rw [if_neg (by omega), if_neg (by omega), if_neg (by omega)])
        · have cx17_ : ¬ ((S_.2.2.1 135 0 ((S_.1 13 0 12) - 1).toNat) ≤ 200) := of_decide_eq_false cx17_
          refine sm_T_go 10 (c1 := (171, [some (.inr (.inr (some (13, 0)))), some (.inl ((S_.1 13 0 12) - 1)), some (.inl 20)], [.inl ((S_.1 13 0 12) - 1), .inr (.inr (some (124, 0))), .inl 20, .inr (.inr (some (13, 0)))], S_)) rfl ?_
          refine sm_T_iald (n := 16) rfl rfl (by omega) (by omega) ?_
          have bx53_ : 0 ≤ S_.2.2.1 124 0 ((S_.1 13 0 12) - 1).toNat ∧ S_.2.2.1 124 0 ((S_.1 13 0 12) - 1).toNat ≤ 1280 := hI_.2 124 0 _
          refine sm_T_cal (d1 := 0) (Q1 := vq_294 20 (S_.2.2.1 124 0 ((S_.1 13 0 12) - 1).toNat) S_) rfl rfl (by decide) (vc_294 20 (S_.2.2.1 124 0 ((S_.1 13 0 12) - 1).toNat) S_ hI_ (by decide) (by omega)) (fun u_ Sx54_ px57_ => ?_)
          obtain ⟨rfl, hIx55_, hFx56_, px57_⟩ := px57_
          have hFx58_ : ai_fr (sx_W vw_340) S0_ Sx54_ := ai_fr_tr hF_ (fr_le hFx56_ rfl)
          have ex59_ : Sx54_.1 13 0 12 = S_.1 13 0 12 := hFx56_.1 13 0 12 rfl
          have t172_ := rtab_fr t33_ hFx56_ rfl rfl rfl rfl rfl
          first | (have T172_ := rT_fr T1_ hFx56_ rfl rfl rfl rfl rfl rfl rfl rfl rfl rfl rfl rfl rfl) | skip
          have e172_ := fb_r px57_ hz7_
          have a132_ := fr_arr (t := 132) (i := 0) hFx56_ rfl
          have a133_ := fr_arr (t := 133) (i := 0) hFx56_ rfl
          have a134_ := fr_arr (t := 134) (i := 0) hFx56_ rfl
          have a135_ := fr_arr (t := 135) (i := 0) hFx56_ rfl
          refine sm_T_rv rfl ⟨_, _, rfl, rfl, hIx55_, hFx58_, ?_⟩
          first | (exact absurd hz7_ hz_) | (refine ⟨T_, t172_, Or.inr (rE_f hX1_ T172_ hM1_ ?_ fun _ => ?_)⟩; (rw [a132_, a133_, a134_, a135_, e172_.1, ← mI_]; unfold p_lm; first | (rw [if_pos (by omega)]) | (rw [if_neg (by omega), if_pos (by omega)]) | (rw [if_neg (by omega), if_neg (by omega), if_pos (by omega)])); (rw [e172_.2, ← mI_]; exact pt1_.2)) | (refine ⟨T_, t33_, Or.inr (rE_f hX1_ T1_ hM1_ ?_ fun z_ => absurd hz_ z_)⟩; rw [hz_, ← mI_]; unfold p_lm; rw [if_neg (by omega), if_neg (by omega), if_neg (by omega)])
      · have cx14_ : ¬ (vx13_ ≠ 0) := of_decide_eq_false cx14_
        have hz7_ := wr_if e68_ (by omega)
        refine sm_T_rv rfl ⟨_, _, rfl, rfl, hI_, hF_, ?_⟩
        first | (exact absurd hz_ hz7_) | (refine ⟨T_, t33_, Or.inl ?_⟩; rcases h1_ with z_ | ⟨A1_, N1_, M1_, mc1_, c1_, q1_, z1_, z2_⟩ | ⟨q1_, z1_, z2_⟩; exact z_; (exact absurd z1_.1 hz_); (exact absurd z1_.1 hz_))
    · have cx7_ : ¬ (vx6_ = 0) := of_decide_eq_false cx7_
      have hz_ := rt_if e34_ (by omega)
      have hR_ : rN b_ n_ T_ (p_de b_ n_) S_ ∨ rI b_ n_ T_ (p_de b_ n_) S_ := by rcases h1_ with z_ | z_; (exact (rX_z z_ hz_).elim); exact z_
      have bx60_ : 0 ≤ S_.1 13 0 12 ∧ S_.1 13 0 12 ≤ 16 := hI_.1 13 0 12 rfl
      refine sm_T_go 2 (c1 := (44, [some (.inr (.inr (some (13, 0)))), none, none], [.inl (S_.1 13 0 12)], S_)) rfl ?_
      refine sm_T_b0 (a := 0) (z := 16) rfl (fun cx61_ => ?_) (fun cx61_ => ?_)
      · have cx61_ : (S_.1 13 0 12) = 0 := of_decide_eq_true cx61_
        obtain ⟨A1_, N1_, M1_, mc1_, c1_, q1_, f1_, g1_, T1_, hc1_, hf1_, hX1_⟩ : ∃ A1_ N1_ M1_ mc1_ c1_ q1_ f1_, rg b_ n_ T_ (.inr q1_) S_ ∧ rT b_ n_ T_ A1_ N1_ M1_ S_ ∧ c1_.length ≤ 3 * q1_ ∧ n_ < q1_ + f1_ ∧ (p_de b_ n_) = pb (p_bm b_ n_ A1_ N1_ M1_ q1_) fun x_ => p_dl b_ n_ f1_ x_.1 x_.2.1 M1_ mc1_ c1_ x_.2.2 := by rcases hR_ with ⟨A1_, N1_, M1_, mc1_, c1_, q1_, z1_, z2_, z3_, z4_⟩ | ⟨q1_, z1_, z2_, z3_⟩; (exfalso; have := z2_.1; omega); (exact ⟨A_0, fun _ => 0, 0, fun _ => 0, [], q1_, n_ + 1, z1_, rT_0 z2_, Nat.zero_le _, by omega, z3_⟩)
        refine sm_T_go 1 (c1 := (61, [some (.inr (.inr (some (13, 0)))), none, none], [.inr (.inr (some (13, 0)))], S_)) rfl ?_
        refine sm_T_cal (d1 := 10) (Q1 := vq_339 b_ n_ T_ (p_de b_ n_) A1_ N1_ M1_ mc1_ c1_ q1_ f1_ S_) rfl rfl (by decide) (vc_339 b_ n_ T_ (p_de b_ n_) A1_ N1_ M1_ mc1_ c1_ q1_ f1_ S_ hI_ (by exact t33_) (by exact g1_) (by exact T1_) (by exact mo33_) (by exact hc1_) (by exact hX1_) (by exact hf1_)) (fun u_ Sx62_ px65_ => ?_)
        obtain ⟨rfl, hIx63_, hFx64_, px65_⟩ := px65_
        have hFx66_ : ai_fr (sx_W vw_340) S0_ Sx62_ := ai_fr_tr hF_ (fr_le hFx64_ rfl)
        have e61_ := px65_
        have t61_ := rtab_fr t33_ hFx64_ rfl rfl rfl rfl rfl
        have mo61_ := (hFx64_.1 13 0 27 rfl).trans mo33_
        have ms1_ := T1_.1
        have mle_ := T1_.2.1
        refine sm_T_go 1 (c1 := (33, [some (.inr (.inr (some (13, 0)))), none, none], [], Sx62_)) rfl ?_
        refine ih_  Sx62_ hIx63_ hFx66_ ⟨?_, ?_, trivial⟩ ?_
        · refine ⟨T_, t61_, ?_⟩
          rcases e61_.1 with z_ | z_
          · exact Or.inl z_
          · exact Or.inr (Or.inl z_)
        · exact mo61_
        · (have q1_ : r_mm S_ = (20 - S_.1 13 0 12).toNat := if_neg (by rw [hz_]; exact fun z_ => z_ rfl)); unfold r_mm; split; omega; (rename_i gg_; have gg2_ := e61_.2 (Decidable.byContradiction gg_); omega)
      · have cx61_ : ¬ ((S_.1 13 0 12) = 0) := of_decide_eq_false cx61_
        obtain ⟨A1_, N1_, M1_, mc1_, c1_, q1_, g1_, T1_, hM1_, hc1_, alt1_⟩ : rN b_ n_ T_ (p_de b_ n_) S_ := by rcases hR_ with z_ | ⟨q1_, z1_, z2_, z3_⟩; exact z_; (exfalso; omega)
        obtain ⟨i1_, hi11_, hi12_⟩ := id g1_.2
        have ra1_ := rp_at t33_ hi12_
        have so1_ : S_.2.2.1 119 0 (S_.1 13 0 9).toNat = r_st (lx_kd b_ n_ q1_) := by rw [hi11_, Int.toNat_natCast]; exact ra1_.1
        have bx67_ : 0 ≤ S_.1 13 0 9 ∧ S_.1 13 0 9 ≤ 1280 := hI_.1 13 0 9 rfl
        refine sm_T_go 4 (c1 := (55, [some (.inr (.inr (some (13, 0)))), none, none], [.inl (S_.1 13 0 9), .inr (.inr (some (119, 0)))], S_)) rfl ?_
        refine sm_T_bald (n := 65537) rfl rfl (by omega) (by omega) ?_
        have bx68_ : (-128) ≤ S_.2.2.1 119 0 (S_.1 13 0 9).toNat ∧ S_.2.2.1 119 0 (S_.1 13 0 9).toNat ≤ 127 := hI_.2 119 0 _
        refine sm_T_go 1 (c1 := (57, [some (.inr (.inr (some (13, 0)))), none, none], [.inl 5, .inl (S_.2.2.1 119 0 (S_.1 13 0 9).toNat)], S_)) rfl ?_
        refine sm_T_br (a := 0) (z := 10) rfl (fun cx69_ => ?_) (fun cx69_ => ?_)
        · have cx69_ : (S_.2.2.1 119 0 (S_.1 13 0 9).toNat) = 5 := of_decide_eq_true cx69_
          have k0_ : lx_kd b_ n_ q1_ = 0 := by have z_ := lx_kd_r hi12_.2.2.1; unfold r_st r_so at so1_; by_cases y_ : lx_kd b_ n_ q1_ = 0; exact y_; (rw [if_neg y_] at so1_; split at so1_; omega; (split at so1_; omega; (split at so1_; omega; (split at so1_ <;> omega))))
          have hX1_ : (p_de b_ n_) = .inr (A1_, N1_, M1_, mc1_, c1_) := by rcases alt1_ with z_ | z_; exact z_.2; (exact absurd k0_ z_.1)
          have ms1_ := T1_.1
          have mle_ := T1_.2.1
          have mI_ : (S_.1 13 0 12 - 1).toNat = M1_ - 1 := by omega
          have rtk1_ := T1_.2.2.2.2.2.1.2 (M1_ - 1) (by omega)
          have pt1_ := rtk_pl t33_ rtk1_
          rw [← mI_] at pt1_ rtk1_
          have cl1_ := rs1_b hI_ (T1_.2.2.1 (M1_ - 1) (by omega)) (Nat.le_refl _) (T1_.2.2.2.2.1 (M1_ - 1) (by omega))
          have A40_ := ((T1_.2.2.1 (M1_ - 1) (by omega)).2 (M1_ - 1) (Nat.le_refl _)).1
          rw [← mI_] at cl1_ A40_
          refine sm_T_go 1 (c1 := (68, [some (.inr (.inr (some (13, 0)))), none, none], [.inr (.inr (some (13, 0)))], S_)) rfl ?_
          refine sm_T_cal (d1 := 0) (Q1 := vq_292  S_) rfl rfl (by decide) (vc_292  S_ hI_ ) (fun u_ Sx70_ px73_ => ?_)
          obtain ⟨rfl, vx75_, rfl, px73_⟩ := px73_
          have e68_ := px73_
          refine sm_T_b0 (a := 1) (z := 4) rfl (fun cx76_ => ?_) (fun cx76_ => ?_)
          · have cx76_ : vx75_ ≠ 0 := of_decide_eq_true cx76_
            have hz7_ := rt_if e68_ (by omega)
            have dummy7 := hz7_
            refine sm_T_go 3 (c1 := (80, [some (.inr (.inr (some (13, 0)))), none, none], [.inl 1, .inl (S_.1 13 0 12)], S_)) rfl ?_
            refine sm_T_bin (w := (S_.1 13 0 12) - 1) rfl (bi_sub (by omega) (by omega) (by omega)) ?_
            refine sm_T_go 4 (c1 := (87, [some (.inr (.inr (some (13, 0)))), some (.inl ((S_.1 13 0 12) - 1)), none], [.inl ((S_.1 13 0 12) - 1), .inr (.inr (some (135, 0)))], S_)) rfl ?_
            refine sm_T_iald (n := 16) rfl rfl (by omega) (by omega) ?_
            have bx77_ : 0 ≤ S_.2.2.1 135 0 ((S_.1 13 0 12) - 1).toNat ∧ S_.2.2.1 135 0 ((S_.1 13 0 12) - 1).toNat ≤ 1073741823 := hI_.2 135 0 _
            refine sm_T_go 1 (c1 := (91, [some (.inr (.inr (some (13, 0)))), some (.inl ((S_.1 13 0 12) - 1)), none], [.inl 200, .inl (S_.2.2.1 135 0 ((S_.1 13 0 12) - 1).toNat)], S_)) rfl ?_
            refine sm_T_br (a := 5) (z := 8) rfl (fun cx78_ => ?_) (fun cx78_ => ?_)
            · have cx78_ : (S_.2.2.1 135 0 ((S_.1 13 0 12) - 1).toNat) ≤ 200 := of_decide_eq_true cx78_
              refine sm_T_go 3 (c1 := (104, [some (.inr (.inr (some (13, 0)))), some (.inl ((S_.1 13 0 12) - 1)), none], [.inl ((S_.1 13 0 12) - 1), .inr (.inr (some (132, 0)))], S_)) rfl ?_
              refine sm_T_iald (n := 16) rfl rfl (by omega) (by omega) ?_
              have bx79_ : 0 ≤ S_.2.2.1 132 0 ((S_.1 13 0 12) - 1).toNat ∧ S_.2.2.1 132 0 ((S_.1 13 0 12) - 1).toNat ≤ 320 := hI_.2 132 0 _
              refine sm_T_go 3 (c1 := (110, [some (.inr (.inr (some (13, 0)))), some (.inl ((S_.1 13 0 12) - 1)), none], [.inl ((S_.1 13 0 12) - 1), .inr (.inr (some (134, 0))), .inl (S_.2.2.1 132 0 ((S_.1 13 0 12) - 1).toNat)], S_)) rfl ?_
              refine sm_T_iald (n := 16) rfl rfl (by omega) (by omega) ?_
              have bx80_ : 0 ≤ S_.2.2.1 134 0 ((S_.1 13 0 12) - 1).toNat ∧ S_.2.2.1 134 0 ((S_.1 13 0 12) - 1).toNat ≤ 1073741823 := hI_.2 134 0 _
              refine sm_T_bin (w := (S_.2.2.1 132 0 ((S_.1 13 0 12) - 1).toNat) + (S_.2.2.1 134 0 ((S_.1 13 0 12) - 1).toNat)) rfl (bi_add (by omega) (by omega) (by omega)) ?_
              refine sm_T_go 1 (c1 := (114, [some (.inr (.inr (some (13, 0)))), some (.inl ((S_.1 13 0 12) - 1)), none], [.inl 12, .inl ((S_.2.2.1 132 0 ((S_.1 13 0 12) - 1).toNat) + (S_.2.2.1 134 0 ((S_.1 13 0 12) - 1).toNat))], S_)) rfl ?_
              refine sm_T_br (a := 4) (z := 14) rfl (fun cx81_ => ?_) (fun cx81_ => ?_)
              · have cx81_ : 12 < (S_.2.2.1 132 0 ((S_.1 13 0 12) - 1).toNat) + (S_.2.2.1 134 0 ((S_.1 13 0 12) - 1).toNat) := of_decide_eq_true cx81_
                refine sm_T_go 10 (c1 := (171, [some (.inr (.inr (some (13, 0)))), some (.inl ((S_.1 13 0 12) - 1)), some (.inl 21)], [.inl ((S_.1 13 0 12) - 1), .inr (.inr (some (124, 0))), .inl 21, .inr (.inr (some (13, 0)))], S_)) rfl ?_
                refine sm_T_iald (n := 16) rfl rfl (by omega) (by omega) ?_
                have bx82_ : 0 ≤ S_.2.2.1 124 0 ((S_.1 13 0 12) - 1).toNat ∧ S_.2.2.1 124 0 ((S_.1 13 0 12) - 1).toNat ≤ 1280 := hI_.2 124 0 _
                refine sm_T_cal (d1 := 0) (Q1 := vq_294 21 (S_.2.2.1 124 0 ((S_.1 13 0 12) - 1).toNat) S_) rfl rfl (by decide) (vc_294 21 (S_.2.2.1 124 0 ((S_.1 13 0 12) - 1).toNat) S_ hI_ (by decide) (by omega)) (fun u_ Sx83_ px86_ => ?_)
                obtain ⟨rfl, hIx84_, hFx85_, px86_⟩ := px86_
                have hFx87_ : ai_fr (sx_W vw_340) S0_ Sx83_ := ai_fr_tr hF_ (fr_le hFx85_ rfl)
                have ex88_ : Sx83_.1 13 0 12 = S_.1 13 0 12 := hFx85_.1 13 0 12 rfl
                have ex89_ : Sx83_.1 13 0 9 = S_.1 13 0 9 := hFx85_.1 13 0 9 rfl
                have t172_ := rtab_fr t33_ hFx85_ rfl rfl rfl rfl rfl
                first | (have T172_ := rT_fr T1_ hFx85_ rfl rfl rfl rfl rfl rfl rfl rfl rfl rfl rfl rfl rfl) | skip
                have e172_ := fb_r px86_ hz7_
                have a132_ := fr_arr (t := 132) (i := 0) hFx85_ rfl
                have a133_ := fr_arr (t := 133) (i := 0) hFx85_ rfl
                have a134_ := fr_arr (t := 134) (i := 0) hFx85_ rfl
                have a135_ := fr_arr (t := 135) (i := 0) hFx85_ rfl
                refine sm_T_rv rfl ⟨_, _, rfl, rfl, hIx84_, hFx87_, ?_⟩
                first | (exact absurd hz7_ hz_) | (refine ⟨T_, t172_, Or.inr (rE_f hX1_ T172_ hM1_ ?_ fun _ => ?_)⟩; (rw [a132_, a133_, a134_, a135_, e172_.1, ← mI_]; unfold p_lm; first | (rw [if_pos (by omega)]) | (rw [if_neg (by omega), if_pos (by omega)]) | (rw [if_neg (by omega), if_neg (by omega), if_pos (by omega)])); (rw [e172_.2, ← mI_]; exact pt1_.2)) | (refine ⟨T_, t33_, Or.inr (rE_f hX1_ T1_ hM1_ ?_ fun z_ => absurd hz_ z_)⟩; rw [hz_, ← mI_]; unfold p_lm; rw [if_neg (by omega), if_neg (by omega), if_neg (by omega)])
              · have cx81_ : ¬ (12 < (S_.2.2.1 132 0 ((S_.1 13 0 12) - 1).toNat) + (S_.2.2.1 134 0 ((S_.1 13 0 12) - 1).toNat)) := of_decide_eq_false cx81_
                refine sm_T_go 3 (c1 := (122, [some (.inr (.inr (some (13, 0)))), some (.inl ((S_.1 13 0 12) - 1)), none], [.inl ((S_.1 13 0 12) - 1), .inr (.inr (some (134, 0)))], S_)) rfl ?_
                refine sm_T_iald (n := 16) rfl rfl (by omega) (by omega) ?_
                refine sm_T_go 1 (c1 := (125, [some (.inr (.inr (some (13, 0)))), some (.inl ((S_.1 13 0 12) - 1)), none], [.inl 6, .inl (S_.2.2.1 134 0 ((S_.1 13 0 12) - 1).toNat)], S_)) rfl ?_
                refine sm_T_br (a := 5) (z := 8) rfl (fun cx90_ => ?_) (fun cx90_ => ?_)
                · have cx90_ : (S_.2.2.1 134 0 ((S_.1 13 0 12) - 1).toNat) ≤ 6 := of_decide_eq_true cx90_
                  refine sm_T_go 3 (c1 := (138, [some (.inr (.inr (some (13, 0)))), some (.inl ((S_.1 13 0 12) - 1)), none], [.inl ((S_.1 13 0 12) - 1), .inr (.inr (some (133, 0)))], S_)) rfl ?_
                  refine sm_T_iald (n := 16) rfl rfl (by omega) (by omega) ?_
                  have bx91_ : 0 ≤ S_.2.2.1 133 0 ((S_.1 13 0 12) - 1).toNat ∧ S_.2.2.1 133 0 ((S_.1 13 0 12) - 1).toNat ≤ 320 := hI_.2 133 0 _
                  refine sm_T_b0 (a := 0) (z := 14) rfl (fun cx92_ => ?_) (fun cx92_ => ?_)
                  · have cx92_ : (S_.2.2.1 133 0 ((S_.1 13 0 12) - 1).toNat) = 0 := of_decide_eq_true cx92_
                    refine sm_T_go 10 (c1 := (171, [some (.inr (.inr (some (13, 0)))), some (.inl ((S_.1 13 0 12) - 1)), some (.inl 22)], [.inl ((S_.1 13 0 12) - 1), .inr (.inr (some (124, 0))), .inl 22, .inr (.inr (some (13, 0)))], S_)) rfl ?_
                    refine sm_T_iald (n := 16) rfl rfl (by omega) (by omega) ?_
                    have bx93_ : 0 ≤ S_.2.2.1 124 0 ((S_.1 13 0 12) - 1).toNat ∧ S_.2.2.1 124 0 ((S_.1 13 0 12) - 1).toNat ≤ 1280 := hI_.2 124 0 _
                    refine sm_T_cal (d1 := 0) (Q1 := vq_294 22 (S_.2.2.1 124 0 ((S_.1 13 0 12) - 1).toNat) S_) rfl rfl (by decide) (vc_294 22 (S_.2.2.1 124 0 ((S_.1 13 0 12) - 1).toNat) S_ hI_ (by decide) (by omega)) (fun u_ Sx94_ px97_ => ?_)
                    obtain ⟨rfl, hIx95_, hFx96_, px97_⟩ := px97_
                    have hFx98_ : ai_fr (sx_W vw_340) S0_ Sx94_ := ai_fr_tr hF_ (fr_le hFx96_ rfl)
                    have ex99_ : Sx94_.1 13 0 12 = S_.1 13 0 12 := hFx96_.1 13 0 12 rfl
                    have ex100_ : Sx94_.1 13 0 9 = S_.1 13 0 9 := hFx96_.1 13 0 9 rfl
                    have t172_ := rtab_fr t33_ hFx96_ rfl rfl rfl rfl rfl
                    first | (have T172_ := rT_fr T1_ hFx96_ rfl rfl rfl rfl rfl rfl rfl rfl rfl rfl rfl rfl rfl) | skip
                    have e172_ := fb_r px97_ hz7_
                    have a132_ := fr_arr (t := 132) (i := 0) hFx96_ rfl
                    have a133_ := fr_arr (t := 133) (i := 0) hFx96_ rfl
                    have a134_ := fr_arr (t := 134) (i := 0) hFx96_ rfl
                    have a135_ := fr_arr (t := 135) (i := 0) hFx96_ rfl
                    refine sm_T_rv rfl ⟨_, _, rfl, rfl, hIx95_, hFx98_, ?_⟩
                    first | (exact absurd hz7_ hz_) | (refine ⟨T_, t172_, Or.inr (rE_f hX1_ T172_ hM1_ ?_ fun _ => ?_)⟩; (rw [a132_, a133_, a134_, a135_, e172_.1, ← mI_]; unfold p_lm; first | (rw [if_pos (by omega)]) | (rw [if_neg (by omega), if_pos (by omega)]) | (rw [if_neg (by omega), if_neg (by omega), if_pos (by omega)])); (rw [e172_.2, ← mI_]; exact pt1_.2)) | (refine ⟨T_, t33_, Or.inr (rE_f hX1_ T1_ hM1_ ?_ fun z_ => absurd hz_ z_)⟩; rw [hz_, ← mI_]; unfold p_lm; rw [if_neg (by omega), if_neg (by omega), if_neg (by omega)])
                  · have cx92_ : ¬ ((S_.2.2.1 133 0 ((S_.1 13 0 12) - 1).toNat) = 0) := of_decide_eq_false cx92_
                    refine sm_T_go 3 (c1 := (147, [some (.inr (.inr (some (13, 0)))), some (.inl ((S_.1 13 0 12) - 1)), none], [.inl ((S_.1 13 0 12) - 1), .inr (.inr (some (133, 0)))], S_)) rfl ?_
                    refine sm_T_iald (n := 16) rfl rfl (by omega) (by omega) ?_
                    refine sm_T_go 1 (c1 := (150, [some (.inr (.inr (some (13, 0)))), some (.inl ((S_.1 13 0 12) - 1)), none], [.inl 16, .inl (S_.2.2.1 133 0 ((S_.1 13 0 12) - 1).toNat)], S_)) rfl ?_
                    refine sm_T_br (a := 5) (z := 8) rfl (fun cx101_ => ?_) (fun cx101_ => ?_)
                    · have cx101_ : (S_.2.2.1 133 0 ((S_.1 13 0 12) - 1).toNat) ≤ 16 := of_decide_eq_true cx101_
                      refine sm_T_go 4 (c1 := (175, [some (.inr (.inr (some (13, 0)))), some (.inl ((S_.1 13 0 12) - 1)), some (.inl 0)], [], S_)) rfl ?_
                      refine sm_T_rv rfl ⟨_, _, rfl, rfl, hI_, hF_, ?_⟩
                      first | (exact absurd hz7_ hz_) | (refine ⟨T_, t172_, Or.inr (rE_f hX1_ T172_ hM1_ ?_ fun _ => ?_)⟩; (rw [a132_, a133_, a134_, a135_, e172_.1, ← mI_]; unfold p_lm; first | (rw [if_pos (by omega)]) | (rw [if_neg (by omega), if_pos (by omega)]) | (rw [if_neg (by omega), if_neg (by omega), if_pos (by omega)])); (rw [e172_.2, ← mI_]; exact pt1_.2)) | (refine ⟨T_, t33_, Or.inr (rE_f hX1_ T1_ hM1_ ?_ fun z_ => absurd hz_ z_)⟩; rw [hz_, ← mI_]; unfold p_lm; rw [if_neg (by omega), if_neg (by omega), if_neg (by omega)])
                    · have cx101_ : ¬ ((S_.2.2.1 133 0 ((S_.1 13 0 12) - 1).toNat) ≤ 16) := of_decide_eq_false cx101_
                      refine sm_T_go 10 (c1 := (171, [some (.inr (.inr (some (13, 0)))), some (.inl ((S_.1 13 0 12) - 1)), some (.inl 22)], [.inl ((S_.1 13 0 12) - 1), .inr (.inr (some (124, 0))), .inl 22, .inr (.inr (some (13, 0)))], S_)) rfl ?_
                      refine sm_T_iald (n := 16) rfl rfl (by omega) (by omega) ?_
                      have bx102_ : 0 ≤ S_.2.2.1 124 0 ((S_.1 13 0 12) - 1).toNat ∧ S_.2.2.1 124 0 ((S_.1 13 0 12) - 1).toNat ≤ 1280 := hI_.2 124 0 _
                      refine sm_T_cal (d1 := 0) (Q1 := vq_294 22 (S_.2.2.1 124 0 ((S_.1 13 0 12) - 1).toNat) S_) rfl rfl (by decide) (vc_294 22 (S_.2.2.1 124 0 ((S_.1 13 0 12) - 1).toNat) S_ hI_ (by decide) (by omega)) (fun u_ Sx103_ px106_ => ?_)
                      obtain ⟨rfl, hIx104_, hFx105_, px106_⟩ := px106_
                      have hFx107_ : ai_fr (sx_W vw_340) S0_ Sx103_ := ai_fr_tr hF_ (fr_le hFx105_ rfl)
                      have ex108_ : Sx103_.1 13 0 12 = S_.1 13 0 12 := hFx105_.1 13 0 12 rfl
                      have ex109_ : Sx103_.1 13 0 9 = S_.1 13 0 9 := hFx105_.1 13 0 9 rfl
                      have t172_ := rtab_fr t33_ hFx105_ rfl rfl rfl rfl rfl
                      first | (have T172_ := rT_fr T1_ hFx105_ rfl rfl rfl rfl rfl rfl rfl rfl rfl rfl rfl rfl rfl) | skip
                      have e172_ := fb_r px106_ hz7_
                      have a132_ := fr_arr (t := 132) (i := 0) hFx105_ rfl
                      have a133_ := fr_arr (t := 133) (i := 0) hFx105_ rfl
                      have a134_ := fr_arr (t := 134) (i := 0) hFx105_ rfl
                      have a135_ := fr_arr (t := 135) (i := 0) hFx105_ rfl
                      refine sm_T_rv rfl ⟨_, _, rfl, rfl, hIx104_, hFx107_, ?_⟩
                      first | (exact absurd hz7_ hz_) | (refine ⟨T_, t172_, Or.inr (rE_f hX1_ T172_ hM1_ ?_ fun _ => ?_)⟩; (rw [a132_, a133_, a134_, a135_, e172_.1, ← mI_]; unfold p_lm; first | (rw [if_pos (by omega)]) | (rw [if_neg (by omega), if_pos (by omega)]) | (rw [if_neg (by omega), if_neg (by omega), if_pos (by omega)])); (rw [e172_.2, ← mI_]; exact pt1_.2)) | (refine ⟨T_, t33_, Or.inr (rE_f hX1_ T1_ hM1_ ?_ fun z_ => absurd hz_ z_)⟩; rw [hz_, ← mI_]; unfold p_lm; rw [if_neg (by omega), if_neg (by omega), if_neg (by omega)])
                · have cx90_ : ¬ ((S_.2.2.1 134 0 ((S_.1 13 0 12) - 1).toNat) ≤ 6) := of_decide_eq_false cx90_
                  refine sm_T_go 10 (c1 := (171, [some (.inr (.inr (some (13, 0)))), some (.inl ((S_.1 13 0 12) - 1)), some (.inl 21)], [.inl ((S_.1 13 0 12) - 1), .inr (.inr (some (124, 0))), .inl 21, .inr (.inr (some (13, 0)))], S_)) rfl ?_
                  refine sm_T_iald (n := 16) rfl rfl (by omega) (by omega) ?_
                  have bx110_ : 0 ≤ S_.2.2.1 124 0 ((S_.1 13 0 12) - 1).toNat ∧ S_.2.2.1 124 0 ((S_.1 13 0 12) - 1).toNat ≤ 1280 := hI_.2 124 0 _
                  refine sm_T_cal (d1 := 0) (Q1 := vq_294 21 (S_.2.2.1 124 0 ((S_.1 13 0 12) - 1).toNat) S_) rfl rfl (by decide) (vc_294 21 (S_.2.2.1 124 0 ((S_.1 13 0 12) - 1).toNat) S_ hI_ (by decide) (by omega)) (fun u_ Sx111_ px114_ => ?_)
                  obtain ⟨rfl, hIx112_, hFx113_, px114_⟩ := px114_
                  have hFx115_ : ai_fr (sx_W vw_340) S0_ Sx111_ := ai_fr_tr hF_ (fr_le hFx113_ rfl)
                  have ex116_ : Sx111_.1 13 0 12 = S_.1 13 0 12 := hFx113_.1 13 0 12 rfl
                  have ex117_ : Sx111_.1 13 0 9 = S_.1 13 0 9 := hFx113_.1 13 0 9 rfl
                  have t172_ := rtab_fr t33_ hFx113_ rfl rfl rfl rfl rfl
                  first | (have T172_ := rT_fr T1_ hFx113_ rfl rfl rfl rfl rfl rfl rfl rfl rfl rfl rfl rfl rfl) | skip
                  have e172_ := fb_r px114_ hz7_
                  have a132_ := fr_arr (t := 132) (i := 0) hFx113_ rfl
                  have a133_ := fr_arr (t := 133) (i := 0) hFx113_ rfl
                  have a134_ := fr_arr (t := 134) (i := 0) hFx113_ rfl
                  have a135_ := fr_arr (t := 135) (i := 0) hFx113_ rfl
                  refine sm_T_rv rfl ⟨_, _, rfl, rfl, hIx112_, hFx115_, ?_⟩
                  first | (exact absurd hz7_ hz_) | (refine ⟨T_, t172_, Or.inr (rE_f hX1_ T172_ hM1_ ?_ fun _ => ?_)⟩; (rw [a132_, a133_, a134_, a135_, e172_.1, ← mI_]; unfold p_lm; first | (rw [if_pos (by omega)]) | (rw [if_neg (by omega), if_pos (by omega)]) | (rw [if_neg (by omega), if_neg (by omega), if_pos (by omega)])); (rw [e172_.2, ← mI_]; exact pt1_.2)) | (refine ⟨T_, t33_, Or.inr (rE_f hX1_ T1_ hM1_ ?_ fun z_ => absurd hz_ z_)⟩; rw [hz_, ← mI_]; unfold p_lm; rw [if_neg (by omega), if_neg (by omega), if_neg (by omega)])
            · have cx78_ : ¬ ((S_.2.2.1 135 0 ((S_.1 13 0 12) - 1).toNat) ≤ 200) := of_decide_eq_false cx78_
              refine sm_T_go 10 (c1 := (171, [some (.inr (.inr (some (13, 0)))), some (.inl ((S_.1 13 0 12) - 1)), some (.inl 20)], [.inl ((S_.1 13 0 12) - 1), .inr (.inr (some (124, 0))), .inl 20, .inr (.inr (some (13, 0)))], S_)) rfl ?_
              refine sm_T_iald (n := 16) rfl rfl (by omega) (by omega) ?_
              have bx118_ : 0 ≤ S_.2.2.1 124 0 ((S_.1 13 0 12) - 1).toNat ∧ S_.2.2.1 124 0 ((S_.1 13 0 12) - 1).toNat ≤ 1280 := hI_.2 124 0 _
              refine sm_T_cal (d1 := 0) (Q1 := vq_294 20 (S_.2.2.1 124 0 ((S_.1 13 0 12) - 1).toNat) S_) rfl rfl (by decide) (vc_294 20 (S_.2.2.1 124 0 ((S_.1 13 0 12) - 1).toNat) S_ hI_ (by decide) (by omega)) (fun u_ Sx119_ px122_ => ?_)
              obtain ⟨rfl, hIx120_, hFx121_, px122_⟩ := px122_
              have hFx123_ : ai_fr (sx_W vw_340) S0_ Sx119_ := ai_fr_tr hF_ (fr_le hFx121_ rfl)
              have ex124_ : Sx119_.1 13 0 12 = S_.1 13 0 12 := hFx121_.1 13 0 12 rfl
              have ex125_ : Sx119_.1 13 0 9 = S_.1 13 0 9 := hFx121_.1 13 0 9 rfl
              have t172_ := rtab_fr t33_ hFx121_ rfl rfl rfl rfl rfl
              first | (have T172_ := rT_fr T1_ hFx121_ rfl rfl rfl rfl rfl rfl rfl rfl rfl rfl rfl rfl rfl) | skip
              have e172_ := fb_r px122_ hz7_
              have a132_ := fr_arr (t := 132) (i := 0) hFx121_ rfl
              have a133_ := fr_arr (t := 133) (i := 0) hFx121_ rfl
              have a134_ := fr_arr (t := 134) (i := 0) hFx121_ rfl
              have a135_ := fr_arr (t := 135) (i := 0) hFx121_ rfl
              refine sm_T_rv rfl ⟨_, _, rfl, rfl, hIx120_, hFx123_, ?_⟩
              first | (exact absurd hz7_ hz_) | (refine ⟨T_, t172_, Or.inr (rE_f hX1_ T172_ hM1_ ?_ fun _ => ?_)⟩; (rw [a132_, a133_, a134_, a135_, e172_.1, ← mI_]; unfold p_lm; first | (rw [if_pos (by omega)]) | (rw [if_neg (by omega), if_pos (by omega)]) | (rw [if_neg (by omega), if_neg (by omega), if_pos (by omega)])); (rw [e172_.2, ← mI_]; exact pt1_.2)) | (refine ⟨T_, t33_, Or.inr (rE_f hX1_ T1_ hM1_ ?_ fun z_ => absurd hz_ z_)⟩; rw [hz_, ← mI_]; unfold p_lm; rw [if_neg (by omega), if_neg (by omega), if_neg (by omega)])
          · have cx76_ : ¬ (vx75_ ≠ 0) := of_decide_eq_false cx76_
            have hz7_ := wr_if e68_ (by omega)
            refine sm_T_rv rfl ⟨_, _, rfl, rfl, hI_, hF_, ?_⟩
            first | (exact absurd hz_ hz7_) | (refine ⟨T_, t33_, Or.inl ?_⟩; rcases h1_ with z_ | ⟨A1_, N1_, M1_, mc1_, c1_, q1_, z1_, z2_⟩ | ⟨q1_, z1_, z2_⟩; exact z_; (exact absurd z1_.1 hz_); (exact absurd z1_.1 hz_))
        · have cx69_ : ¬ ((S_.2.2.1 119 0 (S_.1 13 0 9).toNat) = 5) := of_decide_eq_false cx69_
          have k0_ : lx_kd b_ n_ q1_ ≠ 0 := fun y_ => by rw [y_] at so1_; have z_ : r_st 0 = 5 := rfl; omega
          obtain ⟨f1_, hf1_, hX1_⟩ : ∃ f_, n_ < q1_ + f_ ∧ (p_de b_ n_) = pb (p_bm b_ n_ A1_ N1_ M1_ q1_) fun x_ => p_dl b_ n_ f_ x_.1 x_.2.1 M1_ mc1_ c1_ x_.2.2 := by rcases alt1_ with z_ | z_; (exact absurd z_.1 k0_); exact z_.2
          clear alt1_
          refine sm_T_go 1 (c1 := (61, [some (.inr (.inr (some (13, 0)))), none, none], [.inr (.inr (some (13, 0)))], S_)) rfl ?_
          refine sm_T_cal (d1 := 10) (Q1 := vq_339 b_ n_ T_ (p_de b_ n_) A1_ N1_ M1_ mc1_ c1_ q1_ f1_ S_) rfl rfl (by decide) (vc_339 b_ n_ T_ (p_de b_ n_) A1_ N1_ M1_ mc1_ c1_ q1_ f1_ S_ hI_ (by exact t33_) (by exact g1_) (by exact T1_) (by exact mo33_) (by exact hc1_) (by exact hX1_) (by exact hf1_)) (fun u_ Sx126_ px129_ => ?_)
          obtain ⟨rfl, hIx127_, hFx128_, px129_⟩ := px129_
          have hFx130_ : ai_fr (sx_W vw_340) S0_ Sx126_ := ai_fr_tr hF_ (fr_le hFx128_ rfl)
          have e61_ := px129_
          have t61_ := rtab_fr t33_ hFx128_ rfl rfl rfl rfl rfl
          have mo61_ := (hFx128_.1 13 0 27 rfl).trans mo33_
          have ms1_ := T1_.1
          have mle_ := T1_.2.1
          refine sm_T_go 1 (c1 := (33, [some (.inr (.inr (some (13, 0)))), none, none], [], Sx126_)) rfl ?_
          refine ih_  Sx126_ hIx127_ hFx130_ ⟨?_, ?_, trivial⟩ ?_
          · refine ⟨T_, t61_, ?_⟩
            rcases e61_.1 with z_ | z_
            · exact Or.inl z_
            · exact Or.inr (Or.inl z_)
          · exact mo61_
          · (have q1_ : r_mm S_ = (20 - S_.1 13 0 12).toNat := if_neg (by rw [hz_]; exact fun z_ => z_ rfl)); unfold r_mm; split; omega; (rename_i gg_; have gg2_ := e61_.2 (Decidable.byContradiction gg_); omega)
set_option maxHeartbeats 2000000 in
theorem vc_340 {sc_ : Nat × (Nat → Int)} (b_ : Nat → Int) (n_ : Nat) (S0_ : sm_S) (hI_ : gi S0_) (hb_ : S0_.2.2.1 118 0 = b_) (hn_ : (S0_.1 13 0 2) = (n_ : Int)) (hn1_ : n_ ≤ 1280) : sm_T (mt_P sc_) 11 340 (0, [some (.inr (.inr (some (13, 0)))), none, none], [], S0_) (fun ro9_ => ∃ u_ S1_, ro9_ = (.inl u_, S1_, 0) ∧ vq_340 b_ n_ S0_ u_ S1_) := by
  have hF_ : ai_fr (sx_W vw_340) S0_ S0_ := ai_fr_rf
  have hIx1_ : gi (sm_pI S0_ 13 0 27 0) := gi_pI hI_ (show 0 ≤ 0 ∧ 0 ≤ 2 from ⟨by omega, by omega⟩)
  have hFx2_ : ai_fr (sx_W vw_340) S0_ (sm_pI S0_ 13 0 27 0) := ai_fr_tr hF_ (ai_fr_pI rfl)
  have hIx3_ : gi (sm_pI (sm_pI S0_ 13 0 27 0) 13 0 10 0) := gi_pI hIx1_ (show 0 ≤ 0 ∧ 0 ≤ 23 from ⟨by omega, by omega⟩)
  have hFx4_ : ai_fr (sx_W vw_340) S0_ (sm_pI (sm_pI S0_ 13 0 27 0) 13 0 10 0) := ai_fr_tr hFx2_ (ai_fr_pI rfl)
  have hIx5_ : gi (sm_pI (sm_pI (sm_pI S0_ 13 0 27 0) 13 0 10 0) 13 0 11 0) := gi_pI hIx3_ (show 0 ≤ 0 ∧ 0 ≤ 4095 from ⟨by omega, by omega⟩)
  have hFx6_ : ai_fr (sx_W vw_340) S0_ (sm_pI (sm_pI (sm_pI S0_ 13 0 27 0) 13 0 10 0) 13 0 11 0) := ai_fr_tr hFx4_ (ai_fr_pI rfl)
  have hIx7_ : gi (sm_pI (sm_pI (sm_pI (sm_pI S0_ 13 0 27 0) 13 0 10 0) 13 0 11 0) 13 0 9 0) := gi_pI hIx5_ (show 0 ≤ 0 ∧ 0 ≤ 1280 from ⟨by omega, by omega⟩)
  have hFx8_ : ai_fr (sx_W vw_340) S0_ (sm_pI (sm_pI (sm_pI (sm_pI S0_ 13 0 27 0) 13 0 10 0) 13 0 11 0) 13 0 9 0) := ai_fr_tr hFx6_ (ai_fr_pI rfl)
  have hIx9_ : gi (sm_pI (sm_pI (sm_pI (sm_pI (sm_pI S0_ 13 0 27 0) 13 0 10 0) 13 0 11 0) 13 0 9 0) 13 0 12 0) := gi_pI hIx7_ (show 0 ≤ 0 ∧ 0 ≤ 16 from ⟨by omega, by omega⟩)
  have hFx10_ : ai_fr (sx_W vw_340) S0_ (sm_pI (sm_pI (sm_pI (sm_pI (sm_pI S0_ 13 0 27 0) 13 0 10 0) 13 0 11 0) 13 0 9 0) 13 0 12 0) := ai_fr_tr hFx8_ (ai_fr_pI rfl)
  refine sm_T_go 16 (c1 := (26, [some (.inr (.inr (some (13, 0)))), none, none], [.inr (.inr (some (13, 0)))], sm_pI (sm_pI (sm_pI (sm_pI (sm_pI S0_ 13 0 27 0) 13 0 10 0) 13 0 11 0) 13 0 9 0) 13 0 12 0)) rfl ?_
  refine sm_T_cal (d1 := 3) (Q1 := vq_291 b_ n_ (sm_pI (sm_pI (sm_pI (sm_pI (sm_pI S0_ 13 0 27 0) 13 0 10 0) 13 0 11 0) 13 0 9 0) 13 0 12 0)) rfl rfl (by decide) (vc_291 b_ n_ (sm_pI (sm_pI (sm_pI (sm_pI (sm_pI S0_ 13 0 27 0) 13 0 10 0) 13 0 11 0) 13 0 9 0) 13 0 12 0) hIx9_ (by exact hb_) (by exact hn_) (by exact hn1_)) (fun u_ Sx11_ px14_ => ?_)
  obtain ⟨rfl, hIx12_, hFx13_, px14_⟩ := px14_
  have hFx15_ : ai_fr (sx_W vw_340) S0_ Sx11_ := ai_fr_tr hFx10_ (fr_le hFx13_ rfl)
  obtain ⟨T_, tk0_, tk1_, tk2_, tk3_, tk4_, tk5_, tk6_⟩ := px14_
  have hb26_ : Sx11_.2.2.1 118 0 = b_ := (fr_arr hFx13_ rfl).trans hb_
  have ht_ : rtab b_ n_ T_ Sx11_ := ⟨hn1_, tk1_, tk2_, tk3_, tk4_, tk5_, tk6_, fun k_ => by rw [← hb26_]; exact hIx12_.2 118 0 k_⟩
  have mo26_ : Sx11_.1 13 0 27 = 0 := hFx13_.1 13 0 27 rfl
  have at26_ : Sx11_.1 13 0 9 = 0 := hFx13_.1 13 0 9 rfl
  have fa26_ : Sx11_.1 13 0 10 = 0 := hFx13_.1 13 0 10 rfl
  have ms26_ : Sx11_.1 13 0 12 = 0 := hFx13_.1 13 0 12 rfl
  have d0_ := rd_0 ht_
  clear tk6_
  refine sm_T_go 1 (c1 := (30, [some (.inr (.inr (some (13, 0)))), none, none], [.inr (.inr (some (13, 0)))], Sx11_)) rfl ?_
  refine sm_T_cal (d1 := 1) (Q1 := vq_298  Sx11_) rfl rfl (by decide) (vc_298  Sx11_ hIx12_ ) (fun u_ Sx16_ px19_ => ?_)
  obtain ⟨rfl, hIx17_, hFx18_, px19_⟩ := px19_
  have hFx20_ : ai_fr (sx_W vw_340) S0_ Sx16_ := ai_fr_tr hFx15_ (fr_le hFx18_ rfl)
  have t30_ := rtab_fr ht_ hFx18_ rfl rfl rfl rfl rfl
  have e30_ := px19_.2 fa26_
  rw [at26_] at e30_
  have mo30_ := (hFx18_.1 13 0 27 rfl).trans mo26_
  have at30_ := (hFx18_.1 13 0 9 rfl).trans at26_
  have ms30_ := (hFx18_.1 13 0 12 rfl).trans ms26_
  have h30_ : rX b_ n_ T_ (p_de b_ n_) Sx16_ ∨ rI b_ n_ T_ (p_de b_ n_) Sx16_ := by rcases e30_ with ⟨z1_, z2_, z3_⟩ | ⟨z1_, z2_⟩; (left; have y_ := d0_.1 z1_; exact ⟨(1, lx_k b_ n_ 0), by unfold p_de; rw [if_pos y_.1], z2_, z3_.trans y_.2, by show (1 : Int) ≠ 0; decide⟩); (right; have y_ := d0_.2 z1_; exact ⟨lx_k b_ n_ 0, ⟨z2_, 0, at30_, y_⟩, ms30_, by unfold p_de; rw [if_neg y_.2.2.1]; rfl⟩)
  refine sm_T_go 0 (c1 := (33, [some (.inr (.inr (some (13, 0)))), none, none], [], Sx16_)) rfl ?_
  refine (vl_340 b_ n_ S0_ hb_ hn_ hn1_ _)  Sx16_ hIx17_ hFx20_ ⟨?_, ?_, trivial⟩ (Nat.lt_succ_self _)
  · refine ⟨T_, t30_, ?_⟩
    rcases h30_ with z_ | z_
    · exact Or.inl z_
    · exact Or.inr (Or.inr z_)
  · first | rfl | exact mo30_
end
/-! 99.z0a -/
section
/-! the class reader: libraries; written by wip/p55/gen/vg -/

/-! libraries -/
def p_ci (b_ : Nat → Int) (n_ : Nat) : Nat → Nat → (Nat → Nat) → Nat → pE (Nat × (Nat → Nat) × Nat)
  | 0, _, _, _ => .inl (0, 0)
  | u_ + 1, K_, f_, p_ => pb (p_nn b_ n_ K_ f_ 3 p_) fun r_ => if lx_kd b_ n_ r_ = 44 then pb (p_ad b_ n_ r_) fun q_ => p_ci b_ n_ u_ (K_ + 1) (n_up f_ K_ p_) q_ else .inr (K_ + 1, n_up f_ K_ p_, r_)
def p_ms (b_ : Nat → Int) (n_ : Nat) (most : Int) (p_ : Nat) : pE (Nat × Int) := pb (p_nu b_ n_ 1 most p_) fun v_ => pb (p_ad b_ n_ p_) fun q_ => .inr (q_, v_)
def p_tb (K_ : Nat) (v_ : Int) : Int := i_and v_ (2 ^ (2 ^ K_) - 1)
def f_0 : Nat → Nat := fun _ => 0
abbrev pC : Type := Nat × Nat × Int × Int × Int × Nat
def p_ce (b_ : Nat → Int) (n_ K_ : Nat) (f_ : Nat → Nat) (p_ : Nat) : pE pC := pb (p_nd b_ n_ 9 p_) fun q_ => pb (p_nn b_ n_ K_ f_ 12 q_) fun r_ => pb (p_nd b_ n_ 40 r_) fun u_ => pb (p_ci b_ n_ 4 0 f_0 u_) fun i_ => pb (p_nd b_ n_ 41 i_.2.2) fun w_ => pb (p_nd b_ n_ 61 w_) fun x_ => pb (p_ex b_ n_ true (p_pl b_ n_ i_.1 i_.2.1) [] x_) fun y_ => pb (p_nd b_ n_ 44 y_.1) fun a_ => pb (p_ms b_ n_ 1000 a_) fun ar_ => pb (p_nd b_ n_ 44 ar_.1) fun d_ => pb (p_ms b_ n_ 100 d_) fun dl_ => pb (p_nd b_ n_ 59 dl_.1) fun z_ => .inr (q_, i_.1, p_tb i_.1 (h_tp y_.2.1), ar_.2, dl_.2, z_)
abbrev pL : Type := Nat → Int × Int × Int × Int
def l_up (L_ : pL) (K_ : Nat) (c_ : pC) : pL := fun k_ => if k_ = K_ then ((c_.2.1 : Int), c_.2.2.1, c_.2.2.2.1, c_.2.2.2.2.1) else L_ k_
def p_lb (b_ : Nat → Int) (n_ : Nat) : Nat → Nat → (Nat → Nat) → pL → Nat → pE (Nat × pL)
  | 0, _, _, _, _ => .inl (0, 0)
  | u_ + 1, K_, f_, L_, p_ => pb (p_ce b_ n_ K_ f_ p_) fun c_ => if lx_kd b_ n_ c_.2.2.2.2.2 = 0 then .inr (K_ + 1, l_up L_ K_ c_) else p_lb b_ n_ u_ (K_ + 1) (n_up f_ K_ c_.1) (l_up L_ K_ c_) c_.2.2.2.2.2
def p_li (b_ : Nat → Int) (n_ : Nat) : pE (Nat × pL) := if lx_kd b_ n_ (lx_k b_ n_ 0) = -1 then .inl (1, lx_k b_ n_ 0) else p_lb b_ n_ 13 0 f_0 (fun _ => (0, 0, 0, 0)) (lx_k b_ n_ 0)
theorem nmr_up {b_ : Nat → Int} {n_ m_ K_ p_ : Nat} {f_ : Nat → Nat} {S_ S'_ : sm_S} (h_ : nmr b_ n_ m_ K_ f_ S_) (hp_ : nmp b_ n_ p_) (hK_ : K_ < 40) (h0_ : S'_.2.2.1 77 0 m_ = (K_ : Int) + 1) (h1_ : ∀ j_, S'_.2.2.1 78 0 j_ = if j_ = 40 * m_ + K_ then ((16 * p_ + lx_sz b_ n_ p_ : Nat) : Int) else S_.2.2.1 78 0 j_) : nmr b_ n_ m_ (K_ + 1) (n_up f_ K_ p_) S'_ := by
  refine ⟨by rw [h0_]; push_cast; rfl, by omega, h_.2.2.1, fun s_ hs_ => ?_⟩
  rw [h1_]
  unfold n_up
  by_cases e_ : s_ = K_
  · rw [if_pos (by omega), if_pos e_]
    exact ⟨rfl, hp_⟩
  · rw [if_neg (by omega), if_neg e_]
    exact h_.2.2.2 s_ (by omega)
theorem nmr_ot {b_ : Nat → Int} {n_ m_ K_ : Nat} {f_ : Nat → Nat} {S_ S'_ : sm_S} (h_ : nmr b_ n_ m_ K_ f_ S_) (h0_ : S'_.2.2.1 77 0 m_ = S_.2.2.1 77 0 m_) (h1_ : ∀ s_, s_ < K_ → S'_.2.2.1 78 0 (40 * m_ + s_) = S_.2.2.1 78 0 (40 * m_ + s_)) : nmr b_ n_ m_ K_ f_ S'_ := by
  refine ⟨h0_.trans h_.1, h_.2.1, h_.2.2.1, fun s_ hs_ => ?_⟩
  rw [h1_ s_ hs_]
  exact h_.2.2.2 s_ hs_
theorem nn_lt {b_ : Nat → Int} {n_ K_ p_ r_ : Nat} {f_ : Nat → Nat} {w_ : Int} (hp_ : p_ ≤ n_) (h_ : p_nn b_ n_ K_ f_ w_ p_ = .inr r_) : (K_ : Int) ≠ w_ ∧ nmp b_ n_ p_ ∧ p_ < r_ ∧ r_ ≤ n_ ∧ lx_kd b_ n_ r_ ≠ -1 := by
  have k_ := p_nn_ok h_
  have k2_ := p_ad_ok hp_ (by omega) k_.2.2
  exact ⟨k_.1, ⟨hp_, k_.2.1⟩, k2_.2.1, k2_.2.2.1, k2_.2.2.2⟩
theorem ms_x {b_ : Nat → Int} {n_ p_ : Nat} {most : Int} {e_ : Int × Nat} (h_ : p_nu b_ n_ 1 most p_ = .inl e_) : p_ms b_ n_ most p_ = .inl e_ := by
  unfold p_ms
  rw [h_]
  rfl
theorem pb_as3 {α β γ : Type} {z_ : pE α} {f_ : α → pE β} {g_ : β → pE γ} : pb (pb z_ f_) g_ = pb z_ fun a_ => pb (f_ a_) g_ := by cases z_ <;> rfl
theorem sm_up_eq {S_ : sm_S} {t_ i_ k_ : Nat} {y_ : Option Nat} (h_ : True = True) : (sm_pR S_ t_ i_ k_ y_).2.1 t_ i_ k_ = y_ := by
  show (if t_ = t_ ∧ i_ = i_ ∧ k_ = k_ then y_ else S_.2.1 t_ i_ k_) = y_
  rw [if_pos ⟨rfl, rfl, rfl⟩]
theorem i_and_m {x_ y_ : Int} (hx_ : 0 ≤ x_ ∧ x_ ≤ 2047) (hy_ : 0 ≤ y_ ∧ y_ ≤ 255) : 0 ≤ i_and x_ y_ ∧ i_and x_ y_ ≤ 255 := by
  have e3_ : i_and x_ y_ = ((x_.toNat &&& y_.toNat : Nat) : Int) := bt_and_nat hx_.1 (by omega) hy_.1 (by omega)
  have h3_ : (x_.toNat &&& y_.toNat) ≤ y_.toNat := Nat.and_le_right
  rw [e3_]
  omega
theorem pw_tb {K_ : Nat} (h_ : K_ ≤ 3) : i_shl 1 (i_shl 1 (K_ : Int)) = 2 ^ (2 ^ K_) ∧ (0 ≤ i_shl 1 (K_ : Int) ∧ i_shl 1 (K_ : Int) ≤ 8) ∧ (1 : Int) ≤ 2 ^ (2 ^ K_) ∧ (2 : Int) ^ (2 ^ K_) ≤ 256 := by
  have h4_ : K_ = 0 ∨ K_ = 1 ∨ K_ = 2 ∨ K_ = 3 := by omega
  rcases h4_ with e_ | e_ | e_ | e_ <;> (subst e_; decide +kernel)
/-! one_ cell, step by step -/
abbrev pK : Type := pC → pE (Nat × pL)
abbrev pI : Type := Nat × (Nat → Nat) × Nat
def e12 (b_ : Nat → Int) (n_ : Nat) (k_ : pK) (q_ : Nat) (i_ : pI) (tb_ ar_ : Int) (dl_ : Nat × Int) : pE (Nat × pL) := pb (p_nd b_ n_ 59 dl_.1) fun z_ => k_ (q_, i_.1, tb_, ar_, dl_.2, z_)
def e11 (b_ : Nat → Int) (n_ : Nat) (k_ : pK) (q_ : Nat) (i_ : pI) (tb_ ar_ : Int) (d_ : Nat) : pE (Nat × pL) := pb (p_ms b_ n_ 100 d_) fun dl_ => e12 b_ n_ k_ q_ i_ tb_ ar_ dl_
def e10 (b_ : Nat → Int) (n_ : Nat) (k_ : pK) (q_ : Nat) (i_ : pI) (tb_ : Int) (ar_ : Nat × Int) : pE (Nat × pL) := pb (p_nd b_ n_ 44 ar_.1) fun d_ => e11 b_ n_ k_ q_ i_ tb_ ar_.2 d_
def e09 (b_ : Nat → Int) (n_ : Nat) (k_ : pK) (q_ : Nat) (i_ : pI) (tb_ : Int) (a_ : Nat) : pE (Nat × pL) := pb (p_ms b_ n_ 1000 a_) fun ar_ => e10 b_ n_ k_ q_ i_ tb_ ar_
def e08 (b_ : Nat → Int) (n_ : Nat) (k_ : pK) (q_ : Nat) (i_ : pI) (y_ : pR) : pE (Nat × pL) := pb (p_nd b_ n_ 44 y_.1) fun a_ => e09 b_ n_ k_ q_ i_ (p_tb i_.1 (h_tp y_.2.1)) a_
def e07 (b_ : Nat → Int) (n_ : Nat) (k_ : pK) (q_ : Nat) (i_ : pI) (x_ : Nat) : pE (Nat × pL) := pb (p_ex b_ n_ true (p_pl b_ n_ i_.1 i_.2.1) [] x_) fun y_ => e08 b_ n_ k_ q_ i_ y_
def e06 (b_ : Nat → Int) (n_ : Nat) (k_ : pK) (q_ : Nat) (i_ : pI) (w_ : Nat) : pE (Nat × pL) := pb (p_nd b_ n_ 61 w_) fun x_ => e07 b_ n_ k_ q_ i_ x_
def e05 (b_ : Nat → Int) (n_ : Nat) (k_ : pK) (q_ : Nat) (i_ : pI) : pE (Nat × pL) := pb (p_nd b_ n_ 41 i_.2.2) fun w_ => e06 b_ n_ k_ q_ i_ w_
def e04 (b_ : Nat → Int) (n_ : Nat) (k_ : pK) (q_ : Nat) (u_ : Nat) : pE (Nat × pL) := pb (p_ci b_ n_ 4 0 f_0 u_) fun i_ => e05 b_ n_ k_ q_ i_
def e03 (b_ : Nat → Int) (n_ : Nat) (k_ : pK) (q_ : Nat) (r_ : Nat) : pE (Nat × pL) := pb (p_nd b_ n_ 40 r_) fun u_ => e04 b_ n_ k_ q_ u_
def e02 (b_ : Nat → Int) (n_ : Nat) (k_ : pK) (K_ : Nat) (f_ : Nat → Nat) (q_ : Nat) : pE (Nat × pL) := pb (p_nn b_ n_ K_ f_ 12 q_) fun r_ => e03 b_ n_ k_ q_ r_
def e01 (b_ : Nat → Int) (n_ : Nat) (k_ : pK) (K_ : Nat) (f_ : Nat → Nat) (p_ : Nat) : pE (Nat × pL) := pb (p_nd b_ n_ 9 p_) fun q_ => e02 b_ n_ k_ K_ f_ q_
def k_lb (b_ : Nat → Int) (n_ u_ K_ : Nat) (f_ : Nat → Nat) (L_ : pL) : pK := fun c_ => if lx_kd b_ n_ c_.2.2.2.2.2 = 0 then .inr (K_ + 1, l_up L_ K_ c_) else p_lb b_ n_ u_ (K_ + 1) (n_up f_ K_ c_.1) (l_up L_ K_ c_) c_.2.2.2.2.2
theorem ms49 {g_ : Int} {k_ : Nat} (h_ : g_ ≤ 12) (hm_ : (10 * (20 - g_) + 3).toNat < k_ + 1) : (10 * (20 - g_) + 1).toNat < k_ := by omega
theorem ce_k {b_ : Nat → Int} {n_ K_ p_ : Nat} {f_ : Nat → Nat} {k_ : pK} : pb (p_ce b_ n_ K_ f_ p_) k_ = e01 b_ n_ k_ K_ f_ p_ := by
  unfold p_ce e01 e02 e03 e04 e05 e06 e07 e08 e09 e10 e11 e12
  simp only [pb_as3]
  rfl
theorem lb_k {b_ : Nat → Int} {n_ u_ K_ p_ : Nat} {f_ : Nat → Nat} {L_ : pL} : p_lb b_ n_ (u_ + 1) K_ f_ L_ p_ = e01 b_ n_ (k_lb b_ n_ u_ K_ f_ L_) K_ f_ p_ := by
  rw [← ce_k]
  rfl
theorem ci_e2 {b_ : Nat → Int} {n_ q_ u_ : Nat} {k_ : pK} {e_ : Int × Nat} (h_ : (pb (p_ci b_ n_ 4 0 f_0 u_) fun i_ => p_nd b_ n_ 41 i_.2.2) = .inl e_) : e04 b_ n_ k_ q_ u_ = .inl e_ := by
  unfold e04
  cases hP_ : p_ci b_ n_ 4 0 f_0 u_ with
  | inl z_ => rw [hP_] at h_; cases h_; rfl
  | inr a_ =>
    rw [hP_] at h_
    have h1_ : p_nd b_ n_ 41 a_.2.2 = .inl e_ := h_
    show e05 b_ n_ k_ q_ a_ = .inl e_
    unfold e05
    rw [h1_]
    rfl
end
/-! 99.z0b -/
section
/-! Reader.readCellInputs -/
def vw_132 : sx_Wl := ([(10, 2), (10, 3), (10, 4), (10, 5), (10, 6), (10, 7), (10, 8)], [77, 78], [])
def vq_132 (b_ : Nat → Int) (n_ : Nat) (p_ : Nat) (KC_ : Nat) (fC_ : Nat → Nat) (S0_ : sm_S) (u_ : Option sm_V) (S1_ : sm_S) : Prop := u_ = none ∧ gi S1_ ∧ ai_fr (sx_W vw_132) S0_ S1_ ∧ (∃ K_ f_ q_ r_, (p_ci b_ n_ 4 0 f_0 p_) = .inr (K_, f_, q_) ∧ p_nd b_ n_ 41 q_ = .inr r_ ∧ ct b_ n_ r_ S1_ ∧ nmr b_ n_ 1 K_ f_ S1_ ∧ nmr b_ n_ 0 KC_ fC_ S1_ ∧ (1 ≤ K_ ∧ K_ ≤ 3) ∧ p_ < r_)
def vx_132 (b_ : Nat → Int) (n_ : Nat) (p_ : Nat) (KC_ : Nat) (fC_ : Nat → Nat) (S0_ : sm_S) (S1_ : sm_S) : Prop := gi S1_ ∧ ai_fr (sx_W vw_132) S0_ S1_ ∧ (∃ e_, (pb (p_ci b_ n_ 4 0 f_0 p_) fun i_ => p_nd b_ n_ 41 i_.2.2) = .inl e_ ∧ ter S1_ e_)
set_option maxHeartbeats 1000000 in
theorem vl_132 {sc_ : Nat × (Nat → Int)} (b_ : Nat → Int) (n_ : Nat) (p_ : Nat) (KC_ : Nat) (fC_ : Nat → Nat) (S0_ : sm_S) (hc_ : ct b_ n_ p_ S0_) (hKC_ : nmr b_ n_ 0 KC_ fC_ S0_ ∧ KC_ ≤ 12) : ∀ nn_ : Nat, (∀ (mr_ : Int) (g_ : Int) (S_ : sm_S), gi S_ → ai_fr (sx_W vw_132) S0_ S_ → ((0 ≤ g_ ∧ g_ ≤ 4) ∧ ((mr_ = 1 ∧ g_ ≤ 3 ∧ ∃ f1_ p1_, ct b_ n_ p1_ S_ ∧ nmr b_ n_ 1 g_.toNat f1_ S_ ∧ (p_ci b_ n_ 4 0 f_0 p_) = p_ci b_ n_ (4 - g_.toNat) g_.toNat f1_ p1_ ∧ p_ ≤ p1_ ∧ nmr b_ n_ 0 KC_ fC_ S_) ∨ (mr_ = 0 ∧ ∃ K1_ f1_ p1_, ct b_ n_ p1_ S_ ∧ nmr b_ n_ 1 K1_ f1_ S_ ∧ (p_ci b_ n_ 4 0 f_0 p_) = .inr (K1_, f1_, p1_) ∧ p_ < p1_ ∧ nmr b_ n_ 0 KC_ fC_ S_ ∧ 1 ≤ K1_ ∧ K1_ ≤ 3)) ∧ True) → ((10 - g_).toNat) < nn_ → sm_T (mt_P sc_) 3 132 (11, [some (.inr (.inr (some (7, 0)))), some (.inl mr_), some (.inl g_), none], [], S_) (fun r_ => (∃ u_ S1_, r_ = (.inl u_, S1_, 0) ∧ vq_132 b_ n_ p_ KC_ fC_ S0_ u_ S1_) ∨ ∃ S1_, r_ = (.inr 2, S1_, 1) ∧ vx_132 b_ n_ p_ KC_ fC_ S0_ S1_)) := by
  intro nn_
  induction nn_ with
  | zero => exact fun _ _ _ _ _ _ h_ => absurd h_ (Nat.not_lt_zero _)
  | succ nn_ ih_ =>
    rintro mr_ g_ S_ hI_ hF_ ⟨h0_, h1_, -⟩ hm_
    have hn1_ := hc_.2.2.1
    refine sm_T_go 2 (c1 := (13, [some (.inr (.inr (some (7, 0)))), some (.inl mr_), some (.inl g_), none], [.inl 3, .inl g_], S_)) rfl ?_
    refine sm_T_br (a := 4) (z := 74) rfl (fun cx1_ => ?_) (fun cx1_ => ?_)
    · have cx1_ : 3 < g_ := of_decide_eq_true cx1_
      obtain ⟨K1_, f1_, p1_, y1_, y2_, y3_, y4_, y5_, kb1_, kb2_⟩ : ∃ K1_ f1_ p1_, ct b_ n_ p1_ S_ ∧ nmr b_ n_ 1 K1_ f1_ S_ ∧ (p_ci b_ n_ 4 0 f_0 p_) = .inr (K1_, f1_, p1_) ∧ p_ < p1_ ∧ nmr b_ n_ 0 KC_ fC_ S_ ∧ 1 ≤ K1_ ∧ K1_ ≤ 3 := by rcases h1_ with z_ | z_; (exfalso; have z1_ := z_.1; have z2_ := z_.2.1; omega); exact z_.2
      refine sm_T_go 3 (c1 := (93, [some (.inr (.inr (some (7, 0)))), some (.inl mr_), some (.inl g_), none], [.inl 41, .inr (.inr (some (10, 0)))], S_)) rfl ?_
      refine sm_T_calx (d1 := 2) (Q1 := vq_188 41 b_ n_ p1_ S_) (Q2 := vx_188 41 b_ n_ p1_ S_) rfl rfl (by decide) (vc_188 41 b_ n_ p1_ S_ hI_ (by exact y1_)) rfl (fun Sx2_ px5_ => ?_) (fun u_ Sx2_ px5_ => ?_)
      · obtain ⟨hIx3_, hFx4_, px5_⟩ := px5_
        refine Or.inr ⟨_, rfl, hIx3_, ai_fr_tr hF_ (fr_le hFx4_ rfl), ?_⟩
        obtain ⟨e9_, w1_, w2_⟩ := px5_
        refine ⟨e9_, ?_, w2_⟩
        rw [y3_]; exact w1_
      obtain ⟨rfl, hIx3_, hFx4_, px5_⟩ := px5_
      have hFx6_ : ai_fr (sx_W vw_132) S0_ Sx2_ := ai_fr_tr hF_ (fr_le hFx4_ rfl)
      obtain ⟨r9_, a9_, c9_⟩ := px5_
      have k9_ := p_nd_ok (by decide) y1_.2.2.2.1 a9_
      have f93_ := hFx4_
      refine sm_T_rv rfl (Or.inl ⟨_, _, rfl, rfl, hIx3_, hFx6_, ?_⟩)
      refine ⟨K1_, f1_, p1_, r9_, y3_, a9_, c9_, nmr_fr y2_ f93_ rfl rfl, nmr_fr y5_ f93_ rfl rfl, by omega, ?_⟩
      omega
    · have cx1_ : ¬ (3 < g_) := of_decide_eq_false cx1_
      refine sm_T_go 1 (c1 := (17, [some (.inr (.inr (some (7, 0)))), some (.inl mr_), some (.inl g_), none], [.inl mr_], S_)) rfl ?_
      refine sm_T_b0 (a := 0) (z := 70) rfl (fun cx7_ => ?_) (fun cx7_ => ?_)
      · have cx7_ : mr_ = 0 := of_decide_eq_true cx7_
        obtain ⟨K1_, f1_, p1_, y1_, y2_, y3_, y4_, y5_, kb1_, kb2_⟩ : ∃ K1_ f1_ p1_, ct b_ n_ p1_ S_ ∧ nmr b_ n_ 1 K1_ f1_ S_ ∧ (p_ci b_ n_ 4 0 f_0 p_) = .inr (K1_, f1_, p1_) ∧ p_ < p1_ ∧ nmr b_ n_ 0 KC_ fC_ S_ ∧ 1 ≤ K1_ ∧ K1_ ≤ 3 := by rcases h1_ with z_ | z_; (exfalso; have z1_ := z_.1; have z2_ := z_.2.1; omega); exact z_.2
        refine sm_T_go 3 (c1 := (93, [some (.inr (.inr (some (7, 0)))), some (.inl mr_), some (.inl g_), none], [.inl 41, .inr (.inr (some (10, 0)))], S_)) rfl ?_
        refine sm_T_calx (d1 := 2) (Q1 := vq_188 41 b_ n_ p1_ S_) (Q2 := vx_188 41 b_ n_ p1_ S_) rfl rfl (by decide) (vc_188 41 b_ n_ p1_ S_ hI_ (by exact y1_)) rfl (fun Sx8_ px11_ => ?_) (fun u_ Sx8_ px11_ => ?_)
        · obtain ⟨hIx9_, hFx10_, px11_⟩ := px11_
          refine Or.inr ⟨_, rfl, hIx9_, ai_fr_tr hF_ (fr_le hFx10_ rfl), ?_⟩
          obtain ⟨e9_, w1_, w2_⟩ := px11_
          refine ⟨e9_, ?_, w2_⟩
          rw [y3_]; exact w1_
        obtain ⟨rfl, hIx9_, hFx10_, px11_⟩ := px11_
        have hFx12_ : ai_fr (sx_W vw_132) S0_ Sx8_ := ai_fr_tr hF_ (fr_le hFx10_ rfl)
        obtain ⟨r9_, a9_, c9_⟩ := px11_
        have k9_ := p_nd_ok (by decide) y1_.2.2.2.1 a9_
        have f93_ := hFx10_
        refine sm_T_rv rfl (Or.inl ⟨_, _, rfl, rfl, hIx9_, hFx12_, ?_⟩)
        refine ⟨K1_, f1_, p1_, r9_, y3_, a9_, c9_, nmr_fr y2_ f93_ rfl rfl, nmr_fr y5_ f93_ rfl rfl, by omega, ?_⟩
        omega
      · have cx7_ : ¬ (mr_ = 0) := of_decide_eq_false cx7_
        obtain ⟨f1_, p1_, y1_, y2_, y3_, y4_, y5_⟩ : ∃ f1_ p1_, ct b_ n_ p1_ S_ ∧ nmr b_ n_ 1 g_.toNat f1_ S_ ∧ (p_ci b_ n_ 4 0 f_0 p_) = p_ci b_ n_ (4 - g_.toNat) g_.toNat f1_ p1_ ∧ p_ ≤ p1_ ∧ nmr b_ n_ 0 KC_ fC_ S_ := by rcases h1_ with z_ | z_; (exact z_.2.2); (exfalso; have z1_ := z_.1; omega)
        clear h1_
        refine sm_T_go 3 (c1 := (23, [some (.inr (.inr (some (7, 0)))), some (.inl mr_), some (.inl g_), none], [.inl 3, .inl 1, .inr (.inr (some (7, 0)))], S_)) rfl ?_
        refine sm_T_calx (d1 := 2) (Q1 := vq_120 1 3 b_ n_ p1_ 1 g_.toNat f1_ S_) (Q2 := vx_120 1 3 b_ n_ p1_ 1 g_.toNat f1_ S_) rfl rfl (by decide) (vc_120 1 3 b_ n_ p1_ 1 g_.toNat f1_ S_ hI_ (by exact y1_) (by rfl) (by exact y2_)) rfl (fun Sx13_ px16_ => ?_) (fun u_ Sx13_ px16_ => ?_)
        · obtain ⟨hIx14_, hFx15_, px16_⟩ := px16_
          refine Or.inr ⟨_, rfl, hIx14_, ai_fr_tr hF_ (fr_le hFx15_ rfl), ?_⟩
          obtain ⟨e9_, w1_, w2_⟩ := px16_
          refine ⟨e9_, ?_, w2_⟩
          rw [y3_, show 4 - g_.toNat = (3 - g_.toNat) + 1 by omega, p_ci, pb_l w1_]; rfl
        obtain ⟨vx18_, rfl, hIx14_, hFx15_, px16_⟩ := px16_
        have hFx17_ : ai_fr (sx_W vw_132) S0_ Sx13_ := ai_fr_tr hF_ (fr_le hFx15_ rfl)
        obtain ⟨nv_, nk_, r9_, a9_, c9_⟩ := px16_
        have nn9_ := nn_lt y1_.2.2.2.1 a9_
        have gl_ : g_ ≤ 2 := by have := nn9_.1; omega
        have rw9_ := nmr_fr y2_ hFx15_ rfl rfl
        have kc9_ := nmr_fr y5_ hFx15_ rfl rfl
        have kd9_ := c9_.2.2.2.2.2.2.2.1
        have hp9_ := c9_.2.2.2.1
        have cn9_ := rw9_.1
        have cn8_ : Sx13_.2.2.1 77 0 (1 : Int).toNat = g_ := by have z_ : Sx13_.2.2.1 77 0 1 = (g_.toNat : Int) := cn9_; show Sx13_.2.2.1 77 0 1 = g_; omega
        have sz9_ := nmp_sz nn9_.2.1
        have P9_ : (p_ci b_ n_ 4 0 f_0 p_) = if lx_kd b_ n_ r9_ = 44 then pb (p_ad b_ n_ r9_) fun q_ => p_ci b_ n_ (3 - g_.toNat) (g_.toNat + 1) (n_up f1_ g_.toNat p1_) q_ else .inr (g_.toNat + 1, n_up f1_ g_.toNat p1_, r9_) := by rw [y3_, show 4 - g_.toNat = (3 - g_.toNat) + 1 by omega, p_ci, pb_r a9_]
        have KCl_ := kc9_.2.1
        refine sm_T_go 7 (c1 := (38, [some (.inr (.inr (some (7, 0)))), some (.inl mr_), some (.inl g_), some (.inl vx18_)], [.inl 1, .inr (.inr (some (77, 0))), .inl 40, .inr (.inr (some (78, 0)))], Sx13_)) rfl ?_
        refine sm_T_iald (n := 17) rfl rfl (by omega) (by omega) ?_
        have bx19_ : 0 ≤ Sx13_.2.2.1 77 0 (1 : Int).toNat ∧ Sx13_.2.2.1 77 0 (1 : Int).toNat ≤ 40 := hIx14_.2 77 0 _
        refine sm_T_bin (w := (Sx13_.2.2.1 77 0 (1 : Int).toNat) + 40) rfl (bi_add (by omega) (by omega) (by omega)) ?_
        refine sm_T_go 1 (c1 := (41, [some (.inr (.inr (some (7, 0)))), some (.inl mr_), some (.inl g_), some (.inl vx18_)], [.inl vx18_, .inl ((Sx13_.2.2.1 77 0 (1 : Int).toNat) + 40), .inr (.inr (some (78, 0)))], Sx13_)) rfl ?_
        refine sm_T_iast (n := 640) rfl rfl (by omega) (by omega) ?_
        have hIx20_ : gi (sm_aI Sx13_ 78 0 ((Sx13_.2.2.1 77 0 (1 : Int).toNat) + 40).toNat vx18_) := gi_aI hIx14_ (show 0 ≤ vx18_ ∧ vx18_ ≤ 65535 from ⟨by omega, by omega⟩)
        have hFx21_ : ai_fr (sx_W vw_132) S0_ (sm_aI Sx13_ 78 0 ((Sx13_.2.2.1 77 0 (1 : Int).toNat) + 40).toNat vx18_) := ai_fr_tr hFx17_ (ai_fr_aI rfl)
        refine sm_T_go 4 (c1 := (48, [some (.inr (.inr (some (7, 0)))), some (.inl mr_), some (.inl g_), some (.inl vx18_)], [.inl 1, .inr (.inr (some (77, 0))), .inl 1, .inr (.inr (some (77, 0)))], sm_aI Sx13_ 78 0 ((Sx13_.2.2.1 77 0 (1 : Int).toNat) + 40).toNat vx18_)) rfl ?_
        refine sm_T_iald (n := 17) rfl rfl (by omega) (by omega) ?_
        refine sm_T_go 1 (c1 := (50, [some (.inr (.inr (some (7, 0)))), some (.inl mr_), some (.inl g_), some (.inl vx18_)], [.inl 1, .inl (Sx13_.2.2.1 77 0 (1 : Int).toNat), .inl 1, .inr (.inr (some (77, 0)))], sm_aI Sx13_ 78 0 ((Sx13_.2.2.1 77 0 (1 : Int).toNat) + 40).toNat vx18_)) rfl ?_
        refine sm_T_bin (w := (Sx13_.2.2.1 77 0 (1 : Int).toNat) + 1) rfl (bi_add (by omega) (by omega) (by omega)) ?_
        refine sm_T_iast (n := 17) rfl rfl (by omega) (by omega) ?_
        have hIx22_ : gi (sm_aI (sm_aI Sx13_ 78 0 ((Sx13_.2.2.1 77 0 (1 : Int).toNat) + 40).toNat vx18_) 77 0 (1 : Int).toNat ((Sx13_.2.2.1 77 0 (1 : Int).toNat) + 1)) := gi_aI hIx20_ (show 0 ≤ (Sx13_.2.2.1 77 0 (1 : Int).toNat) + 1 ∧ (Sx13_.2.2.1 77 0 (1 : Int).toNat) + 1 ≤ 40 from ⟨by omega, by omega⟩)
        have hFx23_ : ai_fr (sx_W vw_132) S0_ (sm_aI (sm_aI Sx13_ 78 0 ((Sx13_.2.2.1 77 0 (1 : Int).toNat) + 40).toNat vx18_) 77 0 (1 : Int).toNat ((Sx13_.2.2.1 77 0 (1 : Int).toNat) + 1)) := ai_fr_tr hFx21_ (ai_fr_aI rfl)
        have bx24_ : (-128) ≤ Sx13_.1 10 0 2 ∧ Sx13_.1 10 0 2 ≤ 257 := hIx14_.1 10 0 2 rfl
        refine sm_T_go 4 (c1 := (61, [some (.inr (.inr (some (7, 0)))), some (.inl mr_), some (.inl g_), some (.inl vx18_)], [.inl 44, .inl (Sx13_.1 10 0 2)], sm_aI (sm_aI Sx13_ 78 0 ((Sx13_.2.2.1 77 0 (1 : Int).toNat) + 40).toNat vx18_) 77 0 (1 : Int).toNat ((Sx13_.2.2.1 77 0 (1 : Int).toNat) + 1))) rfl ?_
        refine sm_T_br (a := 1) (z := 7) rfl (fun cx25_ => ?_) (fun cx25_ => ?_)
        · have cx25_ : (Sx13_.1 10 0 2) ≠ 44 := of_decide_eq_true cx25_
          refine sm_T_go 4 (c1 := (81, [some (.inr (.inr (some (7, 0)))), some (.inl 0), some (.inl g_), some (.inl vx18_)], [], sm_aI (sm_aI Sx13_ 78 0 ((Sx13_.2.2.1 77 0 (1 : Int).toNat) + 40).toNat vx18_) 77 0 (1 : Int).toNat ((Sx13_.2.2.1 77 0 (1 : Int).toNat) + 1))) rfl ?_
          refine sm_T_inc (a := 2) (z := 1) (v := g_) (w := g_ + 1) rfl rfl (by omega) (by omega) (by omega) ?_
          refine sm_T_go 1 (c1 := (11, [some (.inr (.inr (some (7, 0)))), some (.inl 0), some (.inl (g_ + 1)), some (.inl vx18_)], [], sm_aI (sm_aI Sx13_ 78 0 ((Sx13_.2.2.1 77 0 (1 : Int).toNat) + 40).toNat vx18_) 77 0 (1 : Int).toNat ((Sx13_.2.2.1 77 0 (1 : Int).toNat) + 1))) rfl ?_
          refine sm_T_wk [some (.inr (.inr (some (7, 0)))), some (.inl 0), some (.inl (g_ + 1)), none] (by exact ⟨rfl, rfl, rfl, trivial⟩) ?_
          refine ih_ 0 (g_ + 1) (sm_aI (sm_aI Sx13_ 78 0 ((Sx13_.2.2.1 77 0 (1 : Int).toNat) + 40).toNat vx18_) 77 0 (1 : Int).toNat ((Sx13_.2.2.1 77 0 (1 : Int).toNat) + 1)) hIx22_ hFx23_ ⟨?_, ?_, trivial⟩ ?_
          · omega
          · first | (left; refine ⟨rfl, by omega, n_up f1_ g_.toNat p1_, (lx_nx b_ n_ r9_), c78_, ?_, ?_, by omega, ?_⟩; (rw [show (g_ + 1).toNat = g_.toNat + 1 by omega]; exact nmr_fr (nmr_up (p_ := p1_) rw9_ nn9_.2.1 (by omega) (by (try simp only [rd_eq, rd_ne, rf_eq, rf_nk, rf_nt, rd_fa, rd_af, ne_eq, Nat.reduceEqDiff, not_false_eq_true]); (try rw [if_pos rfl]); (try rw [if_pos (show (1 : Nat) = (1 : Int).toNat from rfl)]); omega) (fun j_ => by (try simp only [rd_eq, rd_ne, rf_eq, rf_nk, rf_nt, rd_fa, rd_af, ne_eq, Nat.reduceEqDiff, not_false_eq_true]); rw [cn8_]; by_cases z_ : j_ = 40 * 1 + g_.toNat; (rw [if_pos (by omega), if_pos z_]; exact nv_); (rw [if_neg (by omega), if_neg z_]))) f78_ rfl rfl); (rw [P9_, if_pos (by omega), a78_, show 4 - (g_ + 1).toNat = 3 - g_.toNat by omega, show (g_ + 1).toNat = g_.toNat + 1 by omega]; rfl); (exact nmr_fr (nmr_ot kc9_ (by (try simp only [rd_eq, rd_ne, rf_eq, rf_nk, rf_nt, rd_fa, rd_af, ne_eq, Nat.reduceEqDiff, not_false_eq_true]); rw [if_neg (by decide)]) (fun s_ hs_ => by (try simp only [rd_eq, rd_ne, rf_eq, rf_nk, rf_nt, rd_fa, rd_af, ne_eq, Nat.reduceEqDiff, not_false_eq_true]); rw [cn8_, if_neg (by omega)])) f78_ rfl rfl)) | (right; refine ⟨rfl, g_.toNat + 1, n_up f1_ g_.toNat p1_, r9_, ct_fr (w_ := ([], [77, 78], [])) c9_ (ai_fr_tr (ai_fr_aI rfl) (ai_fr_aI rfl)) rfl rfl rfl rfl rfl rfl rfl, (nmr_up (p_ := p1_) rw9_ nn9_.2.1 (by omega) (by (try simp only [rd_eq, rd_ne, rf_eq, rf_nk, rf_nt, rd_fa, rd_af, ne_eq, Nat.reduceEqDiff, not_false_eq_true]); (try rw [if_pos rfl]); (try rw [if_pos (show (1 : Nat) = (1 : Int).toNat from rfl)]); omega) (fun j_ => by (try simp only [rd_eq, rd_ne, rf_eq, rf_nk, rf_nt, rd_fa, rd_af, ne_eq, Nat.reduceEqDiff, not_false_eq_true]); rw [cn8_]; by_cases z_ : j_ = 40 * 1 + g_.toNat; (rw [if_pos (by omega), if_pos z_]; exact nv_); (rw [if_neg (by omega), if_neg z_]))), ?_, by omega, (nmr_ot kc9_ (by (try simp only [rd_eq, rd_ne, rf_eq, rf_nk, rf_nt, rd_fa, rd_af, ne_eq, Nat.reduceEqDiff, not_false_eq_true]); rw [if_neg (by decide)]) (fun s_ hs_ => by (try simp only [rd_eq, rd_ne, rf_eq, rf_nk, rf_nt, rd_fa, rd_af, ne_eq, Nat.reduceEqDiff, not_false_eq_true]); rw [cn8_, if_neg (by omega)])), by omega, by omega⟩; rw [P9_, if_neg (by omega)])
          · omega
        · have cx25_ : ¬ ((Sx13_.1 10 0 2) ≠ 44) := of_decide_eq_false cx25_
          refine sm_T_go 7 (c1 := (78, [some (.inr (.inr (some (7, 0)))), some (.inl 1), some (.inl g_), some (.inl vx18_)], [.inr (.inr (some (10, 0)))], sm_aI (sm_aI Sx13_ 78 0 ((Sx13_.2.2.1 77 0 (1 : Int).toNat) + 40).toNat vx18_) 77 0 (1 : Int).toNat ((Sx13_.2.2.1 77 0 (1 : Int).toNat) + 1))) rfl ?_
          refine sm_T_calx (d1 := 1) (Q1 := vq_191 b_ n_ (lx_en b_ n_ r9_) (sm_aI (sm_aI Sx13_ 78 0 ((Sx13_.2.2.1 77 0 (1 : Int).toNat) + 40).toNat vx18_) 77 0 (1 : Int).toNat ((Sx13_.2.2.1 77 0 (1 : Int).toNat) + 1))) (Q2 := vx_191 b_ n_ (lx_en b_ n_ r9_) (sm_aI (sm_aI Sx13_ 78 0 ((Sx13_.2.2.1 77 0 (1 : Int).toNat) + 40).toNat vx18_) 77 0 (1 : Int).toNat ((Sx13_.2.2.1 77 0 (1 : Int).toNat) + 1))) rfl rfl (by decide) (vc_191 b_ n_ (lx_en b_ n_ r9_) (sm_aI (sm_aI Sx13_ 78 0 ((Sx13_.2.2.1 77 0 (1 : Int).toNat) + 40).toNat vx18_) 77 0 (1 : Int).toNat ((Sx13_.2.2.1 77 0 (1 : Int).toNat) + 1)) hIx22_ (by exact c9_.1) (by exact c9_.2.1) (by exact hn1_) (by exact c9_.2.2.2.2.2.2.1) (by exact (lx_en_le (b := b_) hp9_).2)) rfl (fun Sx26_ px29_ => ?_) (fun u_ Sx26_ px29_ => ?_)
          · obtain ⟨hIx27_, hFx28_, px29_⟩ := px29_
            refine Or.inr ⟨_, rfl, hIx27_, ai_fr_tr hFx23_ (fr_le hFx28_ rfl), ?_⟩
            refine ⟨(1, (lx_nx b_ n_ r9_)), ?_, px29_.2⟩
            rw [P9_, if_pos (by omega), p_ad_x px29_.1]; rfl
          obtain ⟨rfl, hIx27_, hFx28_, px29_⟩ := px29_
          have hFx30_ : ai_fr (sx_W vw_132) S0_ Sx26_ := ai_fr_tr hFx23_ (fr_le hFx28_ rfl)
          have c78_ := px29_
          have a78_ := p_ad_c px29_
          have k78_ := p_ad_ok hp9_ (by omega) a78_
          have f78_ := hFx28_
          refine sm_T_inc (a := 2) (z := 1) (v := g_) (w := g_ + 1) rfl rfl (by omega) (by omega) (by omega) ?_
          refine sm_T_go 1 (c1 := (11, [some (.inr (.inr (some (7, 0)))), some (.inl 1), some (.inl (g_ + 1)), some (.inl vx18_)], [], Sx26_)) rfl ?_
          refine sm_T_wk [some (.inr (.inr (some (7, 0)))), some (.inl 1), some (.inl (g_ + 1)), none] (by exact ⟨rfl, rfl, rfl, trivial⟩) ?_
          refine ih_ 1 (g_ + 1) Sx26_ hIx27_ hFx30_ ⟨?_, ?_, trivial⟩ ?_
          · omega
          · first | (left; refine ⟨rfl, by omega, n_up f1_ g_.toNat p1_, (lx_nx b_ n_ r9_), c78_, ?_, ?_, by omega, ?_⟩; (rw [show (g_ + 1).toNat = g_.toNat + 1 by omega]; exact nmr_fr (nmr_up (p_ := p1_) rw9_ nn9_.2.1 (by omega) (by (try simp only [rd_eq, rd_ne, rf_eq, rf_nk, rf_nt, rd_fa, rd_af, ne_eq, Nat.reduceEqDiff, not_false_eq_true]); (try rw [if_pos rfl]); (try rw [if_pos (show (1 : Nat) = (1 : Int).toNat from rfl)]); omega) (fun j_ => by (try simp only [rd_eq, rd_ne, rf_eq, rf_nk, rf_nt, rd_fa, rd_af, ne_eq, Nat.reduceEqDiff, not_false_eq_true]); rw [cn8_]; by_cases z_ : j_ = 40 * 1 + g_.toNat; (rw [if_pos (by omega), if_pos z_]; exact nv_); (rw [if_neg (by omega), if_neg z_]))) f78_ rfl rfl); (rw [P9_, if_pos (by omega), a78_, show 4 - (g_ + 1).toNat = 3 - g_.toNat by omega, show (g_ + 1).toNat = g_.toNat + 1 by omega]; rfl); (exact nmr_fr (nmr_ot kc9_ (by (try simp only [rd_eq, rd_ne, rf_eq, rf_nk, rf_nt, rd_fa, rd_af, ne_eq, Nat.reduceEqDiff, not_false_eq_true]); rw [if_neg (by decide)]) (fun s_ hs_ => by (try simp only [rd_eq, rd_ne, rf_eq, rf_nk, rf_nt, rd_fa, rd_af, ne_eq, Nat.reduceEqDiff, not_false_eq_true]); rw [cn8_, if_neg (by omega)])) f78_ rfl rfl)) | (right; refine ⟨rfl, g_.toNat + 1, n_up f1_ g_.toNat p1_, r9_, ct_fr (w_ := ([], [77, 78], [])) c9_ (ai_fr_tr (ai_fr_aI rfl) (ai_fr_aI rfl)) rfl rfl rfl rfl rfl rfl rfl, (nmr_up (p_ := p1_) rw9_ nn9_.2.1 (by omega) (by (try simp only [rd_eq, rd_ne, rf_eq, rf_nk, rf_nt, rd_fa, rd_af, ne_eq, Nat.reduceEqDiff, not_false_eq_true]); (try rw [if_pos rfl]); (try rw [if_pos (show (1 : Nat) = (1 : Int).toNat from rfl)]); omega) (fun j_ => by (try simp only [rd_eq, rd_ne, rf_eq, rf_nk, rf_nt, rd_fa, rd_af, ne_eq, Nat.reduceEqDiff, not_false_eq_true]); rw [cn8_]; by_cases z_ : j_ = 40 * 1 + g_.toNat; (rw [if_pos (by omega), if_pos z_]; exact nv_); (rw [if_neg (by omega), if_neg z_]))), ?_, by omega, (nmr_ot kc9_ (by (try simp only [rd_eq, rd_ne, rf_eq, rf_nk, rf_nt, rd_fa, rd_af, ne_eq, Nat.reduceEqDiff, not_false_eq_true]); rw [if_neg (by decide)]) (fun s_ hs_ => by (try simp only [rd_eq, rd_ne, rf_eq, rf_nk, rf_nt, rd_fa, rd_af, ne_eq, Nat.reduceEqDiff, not_false_eq_true]); rw [cn8_, if_neg (by omega)])), by omega, by omega⟩; rw [P9_, if_neg (by omega)])
          · omega
set_option maxHeartbeats 1000000 in
theorem vc_132 {sc_ : Nat × (Nat → Int)} (b_ : Nat → Int) (n_ : Nat) (p_ : Nat) (KC_ : Nat) (fC_ : Nat → Nat) (S0_ : sm_S) (hI_ : gi S0_) (hc_ : ct b_ n_ p_ S0_) (hKC_ : nmr b_ n_ 0 KC_ fC_ S0_ ∧ KC_ ≤ 12) : sm_T (mt_P sc_) 3 132 (0, [some (.inr (.inr (some (7, 0)))), none, none, none], [], S0_) (fun r_ => (∃ u_ S1_, r_ = (.inl u_, S1_, 0) ∧ vq_132 b_ n_ p_ KC_ fC_ S0_ u_ S1_) ∨ ∃ S1_, r_ = (.inr 2, S1_, 1) ∧ vx_132 b_ n_ p_ KC_ fC_ S0_ S1_) := by
  have hF_ : ai_fr (sx_W vw_132) S0_ S0_ := ai_fr_rf
  have hn1_ := hc_.2.2.1
  refine sm_T_go 4 (c1 := (6, [some (.inr (.inr (some (7, 0)))), none, none, none], [.inl 0, .inl 1, .inr (.inr (some (77, 0)))], S0_)) rfl ?_
  refine sm_T_iast (n := 17) rfl rfl (by omega) (by omega) ?_
  have hIx1_ : gi (sm_aI S0_ 77 0 (1 : Int).toNat 0) := gi_aI hI_ (show 0 ≤ 0 ∧ 0 ≤ 40 from ⟨by omega, by omega⟩)
  have hFx2_ : ai_fr (sx_W vw_132) S0_ (sm_aI S0_ 77 0 (1 : Int).toNat 0) := ai_fr_tr hF_ (ai_fr_aI rfl)
  refine sm_T_go 4 (c1 := (11, [some (.inr (.inr (some (7, 0)))), some (.inl 1), some (.inl 0), none], [], sm_aI S0_ 77 0 (1 : Int).toNat 0)) rfl ?_
  refine (vl_132 b_ n_ p_ KC_ fC_ S0_ hc_ hKC_ _) 1 0 (sm_aI S0_ 77 0 (1 : Int).toNat 0) hIx1_ hFx2_ ⟨?_, ?_, trivial⟩ (Nat.lt_succ_self _)
  · omega
  · left
    refine ⟨rfl, by decide, f_0, p_, ct_fr (w_ := ([], [77], [])) hc_ (ai_fr_aI rfl) rfl rfl rfl rfl rfl rfl rfl, ⟨by rw [rd_eq, if_pos (show (1 : Nat) = (1 : Int).toNat from rfl)]; rfl, by decide, by decide, fun s_ hs_ => absurd hs_ (Nat.not_lt_zero _)⟩, rfl, Nat.le_refl _, ?_⟩
    exact nmr_ot hKC_.1 (by rw [rd_eq, if_neg (by decide)]) (fun s_ hs_ => rd_ne (by decide))
end
/-! 99.z0c -/
section
/-! Reader.readMeasure -/
def vw_133 : sx_Wl := ([(10, 2), (10, 3), (10, 4), (10, 5), (10, 6), (10, 7), (10, 8)], [], [])
def vq_133 (mo_ : Int) (b_ : Nat → Int) (n_ : Nat) (p_ : Nat) (S0_ : sm_S) (u_ : Option sm_V) (S1_ : sm_S) : Prop := ∃ v_ : Int, u_ = some (.inl v_) ∧ gi S1_ ∧ ai_fr (sx_W vw_133) S0_ S1_ ∧ (∃ q_, p_ms b_ n_ mo_ p_ = .inr (q_, v_) ∧ ct b_ n_ q_ S1_ ∧ p_ < q_ ∧ 1 ≤ v_ ∧ v_ ≤ mo_)
def vx_133 (mo_ : Int) (b_ : Nat → Int) (n_ : Nat) (p_ : Nat) (S0_ : sm_S) (S1_ : sm_S) : Prop := gi S1_ ∧ ai_fr (sx_W vw_133) S0_ S1_ ∧ (∃ e_, p_ms b_ n_ mo_ p_ = .inl e_ ∧ ter S1_ e_)
set_option maxHeartbeats 400000 in
theorem vc_133 {sc_ : Nat × (Nat → Int)} (mo_ : Int) (b_ : Nat → Int) (n_ : Nat) (p_ : Nat) (S0_ : sm_S) (hI_ : gi S0_) (hc_ : ct b_ n_ p_ S0_) : sm_T (mt_P sc_) 2 133 (0, [some (.inr (.inr (some (7, 0)))), some (.inl mo_), none], [], S0_) (fun r_ => (∃ u_ S1_, r_ = (.inl u_, S1_, 0) ∧ vq_133 mo_ b_ n_ p_ S0_ u_ S1_) ∨ ∃ S1_, r_ = (.inr 2, S1_, 1) ∧ vx_133 mo_ b_ n_ p_ S0_ S1_) := by
  have hF_ : ai_fr (sx_W vw_133) S0_ S0_ := ai_fr_rf
  have hn1_ := hc_.2.2.1
  refine sm_T_go 3 (c1 := (3, [some (.inr (.inr (some (7, 0)))), some (.inl mo_), none], [.inl mo_, .inl 1, .inr (.inr (some (7, 0)))], S0_)) rfl ?_
  refine sm_T_calx (d1 := 1) (Q1 := vq_122 1 mo_ b_ n_ p_ S0_) (Q2 := vx_122 1 mo_ b_ n_ p_ S0_) rfl rfl (by decide) (vc_122 1 mo_ b_ n_ p_ S0_ hI_ (by exact hc_)) rfl (fun Sx1_ px4_ => ?_) (fun u_ Sx1_ px4_ => ?_)
  · obtain ⟨hIx2_, hFx3_, px4_⟩ := px4_
    refine Or.inr ⟨_, rfl, hIx2_, ai_fr_tr hF_ (fr_le hFx3_ rfl), ?_⟩
    obtain ⟨e_, w1_, w2_⟩ := px4_
    exact ⟨e_, ms_x w1_, w2_⟩
  obtain ⟨vx6_, rfl, hIx2_, hFx3_, px4_⟩ := px4_
  have hFx5_ : ai_fr (sx_W vw_133) S0_ Sx1_ := ai_fr_tr hF_ (fr_le hFx3_ rfl)
  have a3_ := px4_
  have k3_ := p_nu_ok a3_
  have c3_ := ct_fr hc_ hFx3_ rfl rfl rfl rfl rfl rfl rfl
  refine sm_T_go 3 (c1 := (11, [some (.inr (.inr (some (7, 0)))), some (.inl mo_), some (.inl vx6_)], [.inr (.inr (some (10, 0)))], Sx1_)) rfl ?_
  refine sm_T_calx (d1 := 1) (Q1 := vq_191 b_ n_ (lx_en b_ n_ p_) Sx1_) (Q2 := vx_191 b_ n_ (lx_en b_ n_ p_) Sx1_) rfl rfl (by decide) (vc_191 b_ n_ (lx_en b_ n_ p_) Sx1_ hIx2_ (by exact c3_.1) (by exact c3_.2.1) (by exact c3_.2.2.1) (by exact c3_.2.2.2.2.2.2.1) (by exact (lx_en_le (b := b_) c3_.2.2.2.1).2)) rfl (fun Sx7_ px10_ => ?_) (fun u_ Sx7_ px10_ => ?_)
  · obtain ⟨hIx8_, hFx9_, px10_⟩ := px10_
    refine Or.inr ⟨_, rfl, hIx8_, ai_fr_tr hFx5_ (fr_le hFx9_ rfl), ?_⟩
    refine ⟨(1, (lx_nx b_ n_ p_)), ?_, px10_.2⟩
    unfold p_ms; rw [pb_r a3_, p_ad_x px10_.1]; rfl
  obtain ⟨rfl, hIx8_, hFx9_, px10_⟩ := px10_
  have hFx11_ : ai_fr (sx_W vw_133) S0_ Sx7_ := ai_fr_tr hFx5_ (fr_le hFx9_ rfl)
  have c11_ := px10_
  have a11_ := p_ad_c px10_
  have k11_ := p_ad_ok hc_.2.2.2.1 (by omega) a11_
  refine sm_T_go 1 (c1 := (15, [some (.inr (.inr (some (7, 0)))), some (.inl mo_), some (.inl vx6_)], [.inl vx6_], Sx7_)) rfl ?_
  refine sm_T_ri rfl (Or.inl ⟨_, _, rfl, _, rfl, hIx8_, hFx11_, ?_⟩)
  exact ⟨(lx_nx b_ n_ p_), by unfold p_ms; rw [pb_r a3_, a11_]; rfl, c11_, k11_.2.1, k3_.2.2.1, k3_.2.2.2⟩
end
/-! 99.z0d -/
section
/-! Library.addCell -/
end
/-! 99.z0e -/
section
/-! Library.findInverter -/
end
/-! 99.z0f -/
section
/-! Reader.readLibrary -/
end
/-! 99.z1a -/
section
/-! the reference: inputs of cells; written by wip/p55/gen/vg -/

/-! new_ names of_ cells and their inputs -/
def zn2 (b_ : Nat → Int) (n_ K_ : Nat) (f_ : Nat → Nat) (x_ : pE Nat) : pE Nat := pb (pb x_ (p_du b_ n_ 1)) fun p_ => if p_fd (fun s_ => nm_q b_ n_ (f_ s_) p_) K_ = -1 then .inr p_ else .inl (10, p_)
def zn3 (b_ : Nat → Int) (n_ K_ : Nat) (f_ : Nat → Nat) (w_ : Int) (x_ : pE Nat) : pE Nat := pb (zn2 b_ n_ K_ f_ x_) fun p_ => if (K_ : Int) = w_ then .inl (15, p_) else .inr p_
theorem nn_eq {b_ : Nat → Int} {n_ K_ : Nat} {f_ : Nat → Nat} {w_ : Int} {x_ : pE Nat} : pb (zn3 b_ n_ K_ f_ w_ x_) (p_ad b_ n_) = pb x_ (p_nn b_ n_ K_ f_ w_) := by
  unfold zn3 zn2
  simp only [pb_as]
  refine congrArg (pb _) (funext fun p_ => ?_)
  unfold p_du p_nn
  by_cases g_ : lx_kd b_ n_ p_ = 1
  · rw [if_pos g_, if_pos g_]
    show pb (if p_fd (fun s_ => nm_q b_ n_ (f_ s_) p_) K_ = -1 then .inr p_ else .inl (10, p_)) _ = _
    by_cases g2_ : p_fd (fun s_ => nm_q b_ n_ (f_ s_) p_) K_ = -1
    · rw [if_pos g2_, if_pos g2_]
      show pb (if (K_ : Int) = w_ then .inl (15, p_) else .inr p_) _ = _
      by_cases g3_ : (K_ : Int) = w_
      · rw [if_pos g3_, if_pos g3_]; rfl
      · rw [if_neg g3_, if_neg g3_]; rfl
    · rw [if_neg g2_, if_neg g2_]; rfl
  · rw [if_neg g_, if_neg g_]; rfl
theorem du_r {b_ : Nat → Int} {n_ p_ : Nat} {x_ : pE Nat} (h_ : pb x_ (p_du b_ n_ 1) = .inr p_) : x_ = .inr p_ ∧ lx_kd b_ n_ p_ = 1 := by
  obtain ⟨q_, h1_, h2_⟩ := pb_inr h_
  unfold p_du at h2_
  split at h2_
  · rename_i g_
    cases h2_
    exact ⟨h1_, g_⟩
  · cases h2_
theorem zn2_r {b_ : Nat → Int} {n_ K_ p_ : Nat} {f_ : Nat → Nat} {x_ : pE Nat} (h_ : zn2 b_ n_ K_ f_ x_ = .inr p_) : pb x_ (p_du b_ n_ 1) = .inr p_ ∧ p_fd (fun s_ => nm_q b_ n_ (f_ s_) p_) K_ = -1 := by
  obtain ⟨q_, h1_, h2_⟩ := pb_inr h_
  split at h2_
  · rename_i g_
    cases h2_
    exact ⟨h1_, g_⟩
  · cases h2_
theorem zn3_r {b_ : Nat → Int} {n_ K_ p_ : Nat} {f_ : Nat → Nat} {w_ : Int} {x_ : pE Nat} (h_ : zn3 b_ n_ K_ f_ w_ x_ = .inr p_) : zn2 b_ n_ K_ f_ x_ = .inr p_ ∧ (K_ : Int) ≠ w_ := by
  obtain ⟨q_, h1_, h2_⟩ := pb_inr h_
  split at h2_
  · cases h2_
  · rename_i g_
    cases h2_
    exact ⟨h1_, g_⟩
/-- a_ row_ of_ names -/
def rw_ (b_ : Nat → Int) (n_ T_ t_ k_ K_ : Nat) (f_ : Nat → Nat) (S_ : sm_S) : Prop := S_.1 13 0 k_ = (K_ : Int) ∧ ∀ j_, j_ < K_ → rtk b_ n_ T_ (S_.2.2.1 t_ 0 j_) (f_ j_)
theorem rw_fr {w_ : sx_Wl} {b_ : Nat → Int} {n_ T_ t_ k_ K_ : Nat} {f_ : Nat → Nat} {S_ S'_ : sm_S} (h_ : rw_ b_ n_ T_ t_ k_ K_ f_ S_) (g_ : ai_fr (sx_W w_) S_ S'_) (h0_ : (sx_W w_).1 13 k_ = false) (h1_ : (sx_W w_).2.1 t_ = false) : rw_ b_ n_ T_ t_ k_ K_ f_ S'_ := by
  unfold rw_ at h_ ⊢
  rw [g_.1 13 0 k_ h0_, fr_arr g_ h1_]
  exact h_

theorem inr_fr {w_ : sx_Wl} {b_ : Nat → Int} {n_ T_ K_ : Nat} {f_ : Nat → Nat} {S_ S'_ : sm_S} (h_ : inr_ b_ n_ T_ K_ f_ S_) (g_ : ai_fr (sx_W w_) S_ S'_) (h0_ : (sx_W w_).1 13 80 = false) (h1_ : (sx_W w_).2.1 177 = false) : inr_ b_ n_ T_ K_ f_ S'_ := by
  unfold inr_ at h_ ⊢
  rw [g_.1 13 0 80 h0_, fr_arr g_ h1_]
  exact h_
theorem inr_up {b_ : Nat → Int} {n_ T_ K_ p_ : Nat} {f_ : Nat → Nat} {t_ : Int} {S_ S'_ : sm_S} (h_ : inr_ b_ n_ T_ K_ f_ S_) (hK_ : K_ ≠ 3) (hr_ : rtk b_ n_ T_ t_ p_) (hd_ : p_fd (fun s_ => nm_q b_ n_ (f_ s_) p_) K_ = -1) (h0_ : S'_.1 13 0 80 = (K_ : Int) + 1) (h1_ : ∀ j_, S'_.2.2.1 177 0 j_ = if j_ = K_ then t_ else S_.2.2.1 177 0 j_) : inr_ b_ n_ T_ (K_ + 1) (n_up f_ K_ p_) S'_ := by
  obtain ⟨q1_, q2_, q3_, q4_⟩ := h_
  refine ⟨by rw [h0_]; push_cast; rfl, by omega, fun j_ hj_ => ?_, fun i_ j_ hij_ hj_ => ?_⟩
  · rw [h1_]
    unfold n_up
    by_cases e_ : j_ = K_
    · rw [if_pos e_, if_pos e_]; exact hr_
    · rw [if_neg e_, if_neg e_]; exact q3_ j_ (by omega)
  · unfold n_up
    rw [if_neg (by omega)]
    by_cases e_ : j_ = K_
    · rw [if_pos e_]
      exact p_fd_no hd_ i_ (by omega)
    · rw [if_neg e_]
      exact q4_ i_ j_ hij_ (by omega)
/-! M_.tellInput -/
def vw_364 : sx_Wl := ([(13, 9), (13, 10), (13, 11), (13, 80)], [177], [])
def vq_364 (b_ : Nat → Int) (n_ : Nat) (T_ : Nat) (x_ : pE Nat) (K_ : Nat) (f_ : Nat → Nat) (S0_ : sm_S) (u_ : Option sm_V) (S1_ : sm_S) : Prop := u_ = none ∧ gi S1_ ∧ ai_fr (sx_W vw_364) S0_ S1_ ∧ (rg b_ n_ T_ (pb x_ (p_nn b_ n_ K_ f_ 3)) S1_ ∧ ∀ p_ r_, x_ = .inr p_ → p_nn b_ n_ K_ f_ 3 p_ = .inr r_ → inr_ b_ n_ T_ (K_ + 1) (n_up f_ K_ p_) S1_)
set_option maxHeartbeats 1000000 in
theorem vl_364 {sc_ : Nat × (Nat → Int)} (b_ : Nat → Int) (n_ : Nat) (T_ : Nat) (x_ : pE Nat) (K_ : Nat) (f_ : Nat → Nat) (S0_ : sm_S) (ht_ : rtab b_ n_ T_ S0_) (hx_ : rg b_ n_ T_ x_ S0_) (hin_ : ∀ p_, x_ = .inr p_ → inr_ b_ n_ T_ K_ f_ S0_) : ∀ nn_ : Nat, (∀ (t_ : Int) (i_ : Int) (S_ : sm_S), gi S_ → ai_fr (sx_W vw_364) S0_ S_ → ((0 ≤ i_ ∧ i_ ≤ 12) ∧ ((∃ e_, (zn2 b_ n_ K_ f_ x_) = .inl e_ ∧ rg b_ n_ T_ (.inl e_) S_) ∨ (∃ q0_, (pb x_ (p_du b_ n_ 1)) = .inr q0_ ∧ rg b_ n_ T_ (.inr q0_) S_ ∧ p_fd (fun s_ => nm_q b_ n_ (f_ s_) q0_)  i_.toNat = -1 ∧ i_ ≤ (K_ : Int))) ∧ (0 ≤ t_ ∧ t_ ≤ 1280) ∧ (∀ pq_, (pb x_ (p_du b_ n_ 1)) = .inr pq_ → rtk b_ n_ T_ t_ pq_) ∧ (∀ pq_, x_ = .inr pq_ → inr_ b_ n_ T_ K_ f_ S_) ∧ True) → ((9000 - i_).toNat) < nn_ → sm_T (mt_P sc_) 3 364 (8, [some (.inr (.inr (some (13, 0)))), some (.inl t_), some (.inl i_)], [], S_) (fun r_ => ∃ u_ S1_, r_ = (.inl u_, S1_, 0) ∧ vq_364 b_ n_ T_ x_ K_ f_ S0_ u_ S1_)) ∧ (∀ (t_ : Int) (S_ : sm_S), gi S_ → ai_fr (sx_W vw_364) S0_ S_ → ((rg b_ n_ T_ (zn2 b_ n_ K_ f_ x_) S_) ∧ (0 ≤ t_ ∧ t_ ≤ 1280) ∧ (∀ pq_, (pb x_ (p_du b_ n_ 1)) = .inr pq_ → rtk b_ n_ T_ t_ pq_) ∧ (∀ pq_, x_ = .inr pq_ → inr_ b_ n_ T_ K_ f_ S_) ∧ True) → ((8000 : Nat)) < nn_ → sm_T (mt_P sc_) 3 364 (50, [some (.inr (.inr (some (13, 0)))), some (.inl t_), none], [], S_) (fun r_ => ∃ u_ S1_, r_ = (.inl u_, S1_, 0) ∧ vq_364 b_ n_ T_ x_ K_ f_ S0_ u_ S1_)) ∧ (∀ (t_ : Int) (S_ : sm_S), gi S_ → ai_fr (sx_W vw_364) S0_ S_ → ((rg b_ n_ T_ (zn3 b_ n_ K_ f_ 3 x_) S_) ∧ (0 ≤ t_ ∧ t_ ≤ 1280) ∧ (∀ pq_, (pb x_ (p_du b_ n_ 1)) = .inr pq_ → rtk b_ n_ T_ t_ pq_) ∧ (∀ pq_, x_ = .inr pq_ → inr_ b_ n_ T_ K_ f_ S_) ∧ True) → ((7000 : Nat)) < nn_ → sm_T (mt_P sc_) 3 364 (72, [some (.inr (.inr (some (13, 0)))), some (.inl t_), none], [], S_) (fun r_ => ∃ u_ S1_, r_ = (.inl u_, S1_, 0) ∧ vq_364 b_ n_ T_ x_ K_ f_ S0_ u_ S1_)) := by
  intro nn_
  induction nn_ with
  | zero => exact ⟨fun _ _ _ _ _ _ h_ => absurd h_ (Nat.not_lt_zero _), fun _ _ _ _ _ h_ => absurd h_ (Nat.not_lt_zero _), fun _ _ _ _ _ h_ => absurd h_ (Nat.not_lt_zero _)⟩
  | succ nn_ ih_ =>
    refine ⟨?_, ?_, ?_⟩
    · rintro t_ i_ S_ hI_ hF_ ⟨h0_, h1_, tb_, tk_, row_, -⟩ hm_
      have tt_ := rtab_fr ht_ hF_ rfl rfl rfl rfl rfl
      have cb1_ : 0 ≤ S_.1 13 0 80 ∧ S_.1 13 0 80 ≤ 3 := hI_.1 13 0 80 rfl
      have bx1_ : 0 ≤ S_.1 13 0 80 ∧ S_.1 13 0 80 ≤ 3 := hI_.1 13 0 80 rfl
      refine sm_T_go 3 (c1 := (13, [some (.inr (.inr (some (13, 0)))), some (.inl t_), some (.inl i_)], [.inl (S_.1 13 0 80), .inl i_], S_)) rfl ?_
      refine sm_T_br (a := 3) (z := 37) rfl (fun cx2_ => ?_) (fun cx2_ => ?_)
      · have cx2_ : (S_.1 13 0 80) ≤ i_ := of_decide_eq_true cx2_
        refine sm_T_go 0 (c1 := (50, [some (.inr (.inr (some (13, 0)))), some (.inl t_), some (.inl i_)], [], S_)) rfl ?_
        refine sm_T_wk [some (.inr (.inr (some (13, 0)))), some (.inl t_), none] (by exact ⟨rfl, rfl, trivial⟩) ?_
        refine ih_.2.1 t_ S_ hI_ hF_ ⟨?_, ?_, ?_, ?_, trivial⟩ ?_
        · rcases h1_ with ⟨e_, z1_, z2_⟩ | ⟨q0_, z1_, z2_, z3_, z4_⟩
          · rw [z1_]; exact z2_
          · have rowq := row_ q0_ (du_r z1_).1
            have cnq_ : S_.1 13 0 80 = (K_ : Int) := rowq.1
            first | (exact absurd z2_.1 hz_) | (have e_ : (zn2 b_ n_ K_ f_ x_) = .inr q0_ := (by unfold zn2; rw [z1_]; show (if p_fd (fun s_ => nm_q b_ n_ (f_ s_) q0_) K_ = -1 then _ else _) = _; rw [show K_ = i_.toNat by omega, if_pos z3_]); rw [e_]; exact z2_)
        · omega
        · exact tk_
        · exact row_
        · omega
      · have cx2_ : ¬ ((S_.1 13 0 80) ≤ i_) := of_decide_eq_false cx2_
        refine sm_T_go 1 (c1 := (17, [some (.inr (.inr (some (13, 0)))), some (.inl t_), some (.inl i_)], [.inr (.inr (some (13, 0)))], S_)) rfl ?_
        refine sm_T_cal (d1 := 0) (Q1 := vq_292  S_) rfl rfl (by decide) (vc_292  S_ hI_ ) (fun u_ Sx3_ px6_ => ?_)
        obtain ⟨rfl, vx8_, rfl, px6_⟩ := px6_
        have e1r := px6_
        refine sm_T_b0 (a := 0) (z := 30) rfl (fun cx9_ => ?_) (fun cx9_ => ?_)
        · have cx9_ : vx8_ = 0 := of_decide_eq_true cx9_
          have hz_ := wr_if e1r (by omega)
          refine sm_T_go 0 (c1 := (50, [some (.inr (.inr (some (13, 0)))), some (.inl t_), some (.inl i_)], [], S_)) rfl ?_
          refine sm_T_wk [some (.inr (.inr (some (13, 0)))), some (.inl t_), none] (by exact ⟨rfl, rfl, trivial⟩) ?_
          refine ih_.2.1 t_ S_ hI_ hF_ ⟨?_, ?_, ?_, ?_, trivial⟩ ?_
          · rcases h1_ with ⟨e_, z1_, z2_⟩ | ⟨q0_, z1_, z2_, z3_, z4_⟩
            · rw [z1_]; exact z2_
            · have rowq := row_ q0_ (du_r z1_).1
              have cnq_ : S_.1 13 0 80 = (K_ : Int) := rowq.1
              first | (exact absurd z2_.1 hz_) | (have e_ : (zn2 b_ n_ K_ f_ x_) = .inr q0_ := (by unfold zn2; rw [z1_]; show (if p_fd (fun s_ => nm_q b_ n_ (f_ s_) q0_) K_ = -1 then _ else _) = _; rw [show K_ = i_.toNat by omega, if_pos z3_]); rw [e_]; exact z2_)
          · omega
          · exact tk_
          · exact row_
          · omega
        · have cx9_ : ¬ (vx8_ = 0) := of_decide_eq_false cx9_
          have hz_ := rt_if e1r (by omega)
          obtain ⟨q0_, hq0_, gq0_, fq0_, iq0_⟩ : ∃ q0_, (pb x_ (p_du b_ n_ 1)) = .inr q0_ ∧ rg b_ n_ T_ (.inr q0_) S_ ∧ p_fd (fun s_ => nm_q b_ n_ (f_ s_) q0_)  i_.toNat = -1 ∧ i_ ≤ (K_ : Int) := by rcases h1_ with ⟨e_, z1_, z2_⟩ | z_; (exact absurd (z2_.1.symm.trans hz_) z2_.2.2); exact z_
          have rowq := row_ q0_ (du_r hq0_).1
          have cnq_ : S_.1 13 0 80 = (K_ : Int) := rowq.1
          have rtq_ := rowq.2.2.1 i_.toNat (by omega)
          have tkq_ := tk_ q0_ hq0_
          have ptq_ := rtk_pl tt_ tkq_
          have soq_ : S_.2.2.1 119 0 t_.toNat ≠ 4 := by obtain ⟨i3_, y1_, y2_, y3_, y4_⟩ := tkq_; have y5_ := (tt_.2.2.1.1 i3_ y2_).2; rw [← y3_] at y5_; rw [y1_, Int.toNat_natCast, y5_.2.1, y4_.2]; decide
          refine sm_T_go 4 (c1 := (29, [some (.inr (.inr (some (13, 0)))), some (.inl t_), some (.inl i_)], [.inl i_, .inr (.inr (some (177, 0))), .inr (.inr (some (13, 0)))], S_)) rfl ?_
          refine sm_T_iald (n := 3) rfl rfl (by omega) (by omega) ?_
          have bx10_ : 0 ≤ S_.2.2.1 177 0 i_.toNat ∧ S_.2.2.1 177 0 i_.toNat ≤ 1280 := hI_.2 177 0 _
          refine sm_T_go 1 (c1 := (31, [some (.inr (.inr (some (13, 0)))), some (.inl t_), some (.inl i_)], [.inl t_, .inl (S_.2.2.1 177 0 i_.toNat), .inr (.inr (some (13, 0)))], S_)) rfl ?_
          refine sm_T_cal (d1 := 0) (Q1 := vq_301 (S_.2.2.1 177 0 i_.toNat) t_ b_ n_ T_ (f_ i_.toNat) q0_ S_) rfl rfl (by decide) (vc_301 (S_.2.2.1 177 0 i_.toNat) t_ b_ n_ T_ (f_ i_.toNat) q0_ S_ hI_ (by exact tt_) (by exact rtq_) (by exact tkq_)) (fun u_ Sx11_ px14_ => ?_)
          obtain ⟨rfl, vx16_, rfl, px14_⟩ := px14_
          have esm_ := px14_
          refine sm_T_b0 (a := 0) (z := 10) rfl (fun cx17_ => ?_) (fun cx17_ => ?_)
          · have cx17_ : vx16_ = 0 := of_decide_eq_true cx17_
            have nq_ : nm_q b_ n_ (f_ i_.toNat) q0_ = false := by cases z_ : nm_q b_ n_ (f_ i_.toNat) q0_; rfl; (rw [if_pos z_] at esm_; omega)
            refine sm_T_inc (a := 2) (z := 1) (v := i_) (w := i_ + 1) rfl rfl (by omega) (by omega) (by omega) ?_
            refine sm_T_go 1 (c1 := (8, [some (.inr (.inr (some (13, 0)))), some (.inl t_), some (.inl (i_ + 1))], [], S_)) rfl ?_
            refine ih_.1 t_ (i_ + 1) S_ hI_ hF_ ⟨?_, ?_, ?_, ?_, ?_, trivial⟩ ?_
            · omega
            · first | (left; exact ⟨_, z2e, gw_⟩) | (right; exact ⟨q0_, hq0_, gq0_, by rw [show (i_ + 1).toNat = i_.toNat + 1 by omega]; exact p_fd_nx fq0_ nq_, by omega⟩)
            · omega
            · exact tk_
            · first | exact roww | exact row_
            · omega
          · have cx17_ : ¬ (vx16_ = 0) := of_decide_eq_false cx17_
            have nq_ : nm_q b_ n_ (f_ i_.toNat) q0_ = true := by cases z_ : nm_q b_ n_ (f_ i_.toNat) q0_; (rw [if_neg (by rw [z_]; decide)] at esm_; omega); rfl
            have z2e : (zn2 b_ n_ K_ f_ x_) = .inl (10, q0_) := by unfold zn2; rw [hq0_]; show (if p_fd (fun s_ => nm_q b_ n_ (f_ s_) q0_)  K_ = -1 then _ else _) = _; rw [if_neg (by rw [p_fd_go fq0_ nq_ (show i_.toNat < K_ by omega)]; omega)]
            refine sm_T_go 3 (c1 := (41, [some (.inr (.inr (some (13, 0)))), some (.inl t_), some (.inl i_)], [.inl t_, .inl 10, .inr (.inr (some (13, 0)))], S_)) rfl ?_
            refine sm_T_cal (d1 := 0) (Q1 := vq_293 10 t_ S_) rfl rfl (by decide) (vc_293 10 t_ S_ hI_ (by decide) (by omega)) (fun u_ Sx18_ px21_ => ?_)
            obtain ⟨rfl, hIx19_, hFx20_, px21_⟩ := px21_
            have hFx22_ : ai_fr (sx_W vw_364) S0_ Sx18_ := ai_fr_tr hF_ (fr_le hFx20_ rfl)
            have ex23_ : Sx18_.1 13 0 80 = S_.1 13 0 80 := hFx20_.1 13 0 80 rfl
            have gw_ : rg b_ n_ T_ (.inl (10, q0_)) Sx18_ := by rcases px21_ with z_ | z_; (exact absurd hz_ z_.1); (exact ⟨z_.2.1.trans (if_neg soq_), z_.2.2.trans ptq_.2, by show (10 : Int) ≠ 0; decide⟩)
            have roww : ∀ pq_, x_ = .inr pq_ → inr_ b_ n_ T_ K_ f_ Sx18_ := fun pq_ hp_ => inr_fr (row_ pq_ hp_) hFx20_ rfl rfl
            refine sm_T_inc (a := 2) (z := 1) (v := i_) (w := i_ + 1) rfl rfl (by omega) (by omega) (by omega) ?_
            refine sm_T_go 1 (c1 := (8, [some (.inr (.inr (some (13, 0)))), some (.inl t_), some (.inl (i_ + 1))], [], Sx18_)) rfl ?_
            refine ih_.1 t_ (i_ + 1) Sx18_ hIx19_ hFx22_ ⟨?_, ?_, ?_, ?_, ?_, trivial⟩ ?_
            · omega
            · first | (left; exact ⟨_, z2e, gw_⟩) | (right; exact ⟨q0_, hq0_, gq0_, by rw [show (i_ + 1).toNat = i_.toNat + 1 by omega]; exact p_fd_nx fq0_ nq_, by omega⟩)
            · omega
            · exact tk_
            · first | exact roww | exact row_
            · omega
    · rintro t_ S_ hI_ hF_ ⟨g50_, tb_, tk_, row_, -⟩ hm_
      have tt_ := rtab_fr ht_ hF_ rfl rfl rfl rfl rfl
      refine sm_T_go 1 (c1 := (51, [some (.inr (.inr (some (13, 0)))), some (.inl t_), none], [.inr (.inr (some (13, 0)))], S_)) rfl ?_
      refine sm_T_cal (d1 := 0) (Q1 := vq_292  S_) rfl rfl (by decide) (vc_292  S_ hI_ ) (fun u_ Sx1_ px4_ => ?_)
      obtain ⟨rfl, vx6_, rfl, px4_⟩ := px4_
      have e2r := px4_
      refine sm_T_b0 (a := 0) (z := 18) rfl (fun cx7_ => ?_) (fun cx7_ => ?_)
      · have cx7_ : vx6_ = 0 := of_decide_eq_true cx7_
        have hz_ := wr_if e2r (by omega)
        obtain ⟨e5_, he5_⟩ := rg_w g50_ hz_
        have z3w : (zn3 b_ n_ K_ f_ 3 x_) = .inl e5_ := by unfold zn3; rw [he5_]; rfl
        have g3w := g50_
        rw [he5_] at g3w
        refine sm_T_go 0 (c1 := (72, [some (.inr (.inr (some (13, 0)))), some (.inl t_), none], [], S_)) rfl ?_
        refine ih_.2.2 t_ S_ hI_ hF_ ⟨?_, ?_, ?_, ?_, trivial⟩ ?_
        · first | exact gf_ | (rw [z3w]; exact g3w) | (rw [z3c, if_neg (by omega)]; exact g3r)
        · omega
        · exact tk_
        · first | exact rowf | exact row_
        · omega
      · have cx7_ : ¬ (vx6_ = 0) := of_decide_eq_false cx7_
        have hz_ := rt_if e2r (by omega)
        obtain ⟨q0_, i2_, hq2_, hi21_, hi22_⟩ := rg_r g50_ hz_
        have hq0_ := (zn2_r hq2_).1
        have g3r := g50_
        rw [hq2_] at g3r
        have z3c : (zn3 b_ n_ K_ f_ 3 x_) = if (K_ : Int) = 3 then .inl (15, q0_) else .inr q0_ := by unfold zn3; rw [hq2_]; rfl
        have rowq := row_ q0_ (du_r hq0_).1
        have cnq_ : S_.1 13 0 80 = (K_ : Int) := rowq.1
        have tkq_ := tk_ q0_ hq0_
        have ptq_ := rtk_pl tt_ tkq_
        have soq_ : S_.2.2.1 119 0 t_.toNat ≠ 4 := by obtain ⟨i3_, y1_, y2_, y3_, y4_⟩ := tkq_; have y5_ := (tt_.2.2.1.1 i3_ y2_).2; rw [← y3_] at y5_; rw [y1_, Int.toNat_natCast, y5_.2.1, y4_.2]; decide
        have bx8_ : 0 ≤ S_.1 13 0 80 ∧ S_.1 13 0 80 ≤ 3 := hI_.1 13 0 80 rfl
        refine sm_T_go 3 (c1 := (62, [some (.inr (.inr (some (13, 0)))), some (.inl t_), none], [.inl 3, .inl (S_.1 13 0 80)], S_)) rfl ?_
        refine sm_T_br (a := 1) (z := 10) rfl (fun cx9_ => ?_) (fun cx9_ => ?_)
        · have cx9_ : (S_.1 13 0 80) ≠ 3 := of_decide_eq_true cx9_
          refine sm_T_go 0 (c1 := (72, [some (.inr (.inr (some (13, 0)))), some (.inl t_), none], [], S_)) rfl ?_
          refine ih_.2.2 t_ S_ hI_ hF_ ⟨?_, ?_, ?_, ?_, trivial⟩ ?_
          · first | exact gf_ | (rw [z3w]; exact g3w) | (rw [z3c, if_neg (by omega)]; exact g3r)
          · omega
          · exact tk_
          · first | exact rowf | exact row_
          · omega
        · have cx9_ : ¬ ((S_.1 13 0 80) ≠ 3) := of_decide_eq_false cx9_
          refine sm_T_go 3 (c1 := (69, [some (.inr (.inr (some (13, 0)))), some (.inl t_), none], [.inl t_, .inl 15, .inr (.inr (some (13, 0)))], S_)) rfl ?_
          refine sm_T_cal (d1 := 0) (Q1 := vq_293 15 t_ S_) rfl rfl (by decide) (vc_293 15 t_ S_ hI_ (by decide) (by omega)) (fun u_ Sx10_ px13_ => ?_)
          obtain ⟨rfl, hIx11_, hFx12_, px13_⟩ := px13_
          have hFx14_ : ai_fr (sx_W vw_364) S0_ Sx10_ := ai_fr_tr hF_ (fr_le hFx12_ rfl)
          have ex15_ : Sx10_.1 13 0 80 = S_.1 13 0 80 := hFx12_.1 13 0 80 rfl
          have gf_ : rg b_ n_ T_ (zn3 b_ n_ K_ f_ 3 x_) Sx10_ := by rw [z3c, if_pos (by omega)]; rcases px13_ with z_ | z_; (exact absurd hz_ z_.1); (exact ⟨z_.2.1.trans (if_neg soq_), z_.2.2.trans ptq_.2, by show (15 : Int) ≠ 0; decide⟩)
          have rowf : ∀ pq_, x_ = .inr pq_ → inr_ b_ n_ T_ K_ f_ Sx10_ := fun pq_ hp_ => inr_fr (row_ pq_ hp_) hFx12_ rfl rfl
          refine sm_T_go 0 (c1 := (72, [some (.inr (.inr (some (13, 0)))), some (.inl t_), none], [], Sx10_)) rfl ?_
          refine ih_.2.2 t_ Sx10_ hIx11_ hFx14_ ⟨?_, ?_, ?_, ?_, trivial⟩ ?_
          · first | exact gf_ | (rw [z3w]; exact g3w) | (rw [z3c, if_neg (by omega)]; exact g3r)
          · omega
          · exact tk_
          · first | exact rowf | exact row_
          · omega
    · rintro t_ S_ hI_ hF_ ⟨g72_, tb_, tk_, row_, -⟩ hm_
      have tt_ := rtab_fr ht_ hF_ rfl rfl rfl rfl rfl
      refine sm_T_go 1 (c1 := (73, [some (.inr (.inr (some (13, 0)))), some (.inl t_), none], [.inr (.inr (some (13, 0)))], S_)) rfl ?_
      refine sm_T_cal (d1 := 2) (Q1 := vq_297 b_ n_ T_ (zn3 b_ n_ K_ f_ 3 x_) S_) rfl rfl (by decide) (vc_297 b_ n_ T_ (zn3 b_ n_ K_ f_ 3 x_) S_ hI_ (by exact tt_) (by exact g72_) (by (intro r_ e_; have z_ := (du_r (zn2_r (zn3_r e_).1).1).2; omega))) (fun u_ Sx1_ px4_ => ?_)
      obtain ⟨rfl, hIx2_, hFx3_, px4_⟩ := px4_
      have hFx5_ : ai_fr (sx_W vw_364) S0_ Sx1_ := ai_fr_tr hF_ (fr_le hFx3_ rfl)
      have ggo_ : rg b_ n_ T_ (pb x_ (p_nn b_ n_ K_ f_ 3)) Sx1_ := by rw [← nn_eq]; exact px4_.1
      have tgo_ := rtab_fr tt_ hFx3_ rfl rfl rfl rfl rfl
      have rowg : ∀ pq_, x_ = .inr pq_ → inr_ b_ n_ T_ K_ f_ Sx1_ := fun pq_ hp_ => inr_fr (row_ pq_ hp_) hFx3_ rfl rfl
      refine sm_T_go 1 (c1 := (77, [some (.inr (.inr (some (13, 0)))), some (.inl t_), none], [.inr (.inr (some (13, 0)))], Sx1_)) rfl ?_
      refine sm_T_cal (d1 := 0) (Q1 := vq_292  Sx1_) rfl rfl (by decide) (vc_292  Sx1_ hIx2_ ) (fun u_ Sx6_ px9_ => ?_)
      obtain ⟨rfl, vx11_, rfl, px9_⟩ := px9_
      have e77_ := px9_
      refine sm_T_b0 (a := 0) (z := 23) rfl (fun cx12_ => ?_) (fun cx12_ => ?_)
      · have cx12_ : vx11_ = 0 := of_decide_eq_true cx12_
        have hz7_ := wr_if e77_ (by omega)
        refine sm_T_rv rfl ⟨_, _, rfl, rfl, hIx2_, hFx5_, ?_⟩
        first | (refine ⟨ggo_, fun p_ r_ hp_ hr_ => ?_⟩; rw [hp_] at ggo_; have ggo_ : rg b_ n_ T_ (p_nn b_ n_ K_ f_ 3 p_) _ := ggo_; rw [hr_] at ggo_; exact absurd ggo_.1 hz7_) | (refine ⟨rg_fr (w_ := ([(13, 80)], [177], [])) ggo_ (ai_fr_tr (ai_fr_aI rfl) (ai_fr_pI rfl)) rfl rfl rfl, fun p_ r_ hp_ hr_ => ?_⟩; have e9_ : p7_ = p_ := (by rw [hp7_] at hp_; cases hp_; rfl); subst e9_; exact inr_up row7_ (by omega) tk7_ fd7_ (by rw [rf_eq]; show _ + 1 = _; omega) (fun j_ => by rw [rd_fa, rd_eq]; by_cases z_ : j_ = K_; (rw [if_pos (by omega), if_pos z_]); (rw [if_neg (by omega), if_neg z_])))
      · have cx12_ : ¬ (vx11_ = 0) := of_decide_eq_false cx12_
        have hz7_ := rt_if e77_ (by omega)
        obtain ⟨r7_, i7_, hr7_, hi71_, hi72_⟩ := rg_r ggo_ hz7_
        obtain ⟨p7_, hp7_, hn7_⟩ := pb_inr hr7_
        have row7_ := rowg p7_ hp7_
        have n7_ := p_nn_ok hn7_
        have k7_ := row7_.1
        have k7b := row7_.2.1
        have k7c := n7_.1
        have fd7_ : p_fd (fun s_ => nm_q b_ n_ (f_ s_) p7_) K_ = -1 := by unfold p_nn at hn7_; rw [if_pos n7_.2.1] at hn7_; by_cases z_ : p_fd (fun s_ => nm_q b_ n_ (f_ s_) p7_) K_ = -1; exact z_; (rw [if_neg z_] at hn7_; cases hn7_)
        have tk7_ := tk_ p7_ (by rw [hp7_]; show p_du b_ n_ 1 p7_ = _; unfold p_du; rw [if_pos n7_.2.1])
        have bx13_ : 0 ≤ Sx1_.1 13 0 80 ∧ Sx1_.1 13 0 80 ≤ 3 := hIx2_.1 13 0 80 rfl
        refine sm_T_go 5 (c1 := (92, [some (.inr (.inr (some (13, 0)))), some (.inl t_), none], [.inl t_, .inl (Sx1_.1 13 0 80), .inr (.inr (some (177, 0)))], Sx1_)) rfl ?_
        refine sm_T_iast (n := 3) rfl rfl (by omega) (by omega) ?_
        have hIx14_ : gi (sm_aI Sx1_ 177 0 (Sx1_.1 13 0 80).toNat t_) := gi_aI hIx2_ (show 0 ≤ t_ ∧ t_ ≤ 1280 from ⟨by omega, by omega⟩)
        have hFx15_ : ai_fr (sx_W vw_364) S0_ (sm_aI Sx1_ 177 0 (Sx1_.1 13 0 80).toNat t_) := ai_fr_tr hFx5_ (ai_fr_aI rfl)
        refine sm_T_go 4 (c1 := (99, [some (.inr (.inr (some (13, 0)))), some (.inl t_), none], [.inl 1, .inl (Sx1_.1 13 0 80), .inr (.inr (some (13, 0)))], sm_aI Sx1_ 177 0 (Sx1_.1 13 0 80).toNat t_)) rfl ?_
        refine sm_T_bin (w := (Sx1_.1 13 0 80) + 1) rfl (bi_add (by omega) (by omega) (by omega)) ?_
        have hIx16_ : gi (sm_pI (sm_aI Sx1_ 177 0 (Sx1_.1 13 0 80).toNat t_) 13 0 80 ((Sx1_.1 13 0 80) + 1)) := gi_pI hIx14_ (show 0 ≤ (Sx1_.1 13 0 80) + 1 ∧ (Sx1_.1 13 0 80) + 1 ≤ 3 from ⟨by omega, by omega⟩)
        have hFx17_ : ai_fr (sx_W vw_364) S0_ (sm_pI (sm_aI Sx1_ 177 0 (Sx1_.1 13 0 80).toNat t_) 13 0 80 ((Sx1_.1 13 0 80) + 1)) := ai_fr_tr hFx15_ (ai_fr_pI rfl)
        refine sm_T_go 1 (c1 := (103, [some (.inr (.inr (some (13, 0)))), some (.inl t_), none], [], sm_pI (sm_aI Sx1_ 177 0 (Sx1_.1 13 0 80).toNat t_) 13 0 80 ((Sx1_.1 13 0 80) + 1))) rfl ?_
        refine sm_T_rv rfl ⟨_, _, rfl, rfl, hIx16_, hFx17_, ?_⟩
        first | (refine ⟨ggo_, fun p_ r_ hp_ hr_ => ?_⟩; rw [hp_] at ggo_; have ggo_ : rg b_ n_ T_ (p_nn b_ n_ K_ f_ 3 p_) _ := ggo_; rw [hr_] at ggo_; exact absurd ggo_.1 hz7_) | (refine ⟨rg_fr (w_ := ([(13, 80)], [177], [])) ggo_ (ai_fr_tr (ai_fr_aI rfl) (ai_fr_pI rfl)) rfl rfl rfl, fun p_ r_ hp_ hr_ => ?_⟩; have e9_ : p7_ = p_ := (by rw [hp7_] at hp_; cases hp_; rfl); subst e9_; exact inr_up row7_ (by omega) tk7_ fd7_ (by rw [rf_eq]; show _ + 1 = _; omega) (fun j_ => by rw [rd_fa, rd_eq]; by_cases z_ : j_ = K_; (rw [if_pos (by omega), if_pos z_]); (rw [if_neg (by omega), if_neg z_])))
set_option maxHeartbeats 1000000 in
theorem vc_364 {sc_ : Nat × (Nat → Int)} (b_ : Nat → Int) (n_ : Nat) (T_ : Nat) (x_ : pE Nat) (K_ : Nat) (f_ : Nat → Nat) (S0_ : sm_S) (hI_ : gi S0_) (ht_ : rtab b_ n_ T_ S0_) (hx_ : rg b_ n_ T_ x_ S0_) (hin_ : ∀ p_, x_ = .inr p_ → inr_ b_ n_ T_ K_ f_ S0_) : sm_T (mt_P sc_) 3 364 (0, [some (.inr (.inr (some (13, 0)))), none, none], [], S0_) (fun r_ => ∃ u_ S1_, r_ = (.inl u_, S1_, 0) ∧ vq_364 b_ n_ T_ x_ K_ f_ S0_ u_ S1_) := by
  have hF_ : ai_fr (sx_W vw_364) S0_ S0_ := ai_fr_rf
  refine sm_T_go 2 (c1 := (2, [some (.inr (.inr (some (13, 0)))), none, none], [.inl 1, .inr (.inr (some (13, 0)))], S0_)) rfl ?_
  refine sm_T_cal (d1 := 1) (Q1 := vq_299 1 b_ n_ T_ x_ S0_) rfl rfl (by decide) (vc_299 1 b_ n_ T_ x_ S0_ hI_ (by exact ht_) (by exact hx_) (by decide)) (fun u_ Sx1_ px4_ => ?_)
  obtain ⟨vx6_, rfl, hIx2_, hFx3_, px4_⟩ := px4_
  have hFx5_ : ai_fr (sx_W vw_364) S0_ Sx1_ := ai_fr_tr hF_ (fr_le hFx3_ rfl)
  have a23_ := px4_.1
  have g23_ : rg b_ n_ T_ (pb x_ (p_du b_ n_ 1)) Sx1_ := px4_.2
  have t23_ := rtab_fr ht_ hFx3_ rfl rfl rfl rfl rfl
  have at23_ := hFx3_.1 13 0 9 rfl
  have v23b : 0 ≤ vx6_ ∧ vx6_ ≤ 1280 := by rw [a23_, ← at23_]; exact hIx2_.1 13 0 9 rfl
  have rt23_ : ∀ r_, (pb x_ (p_du b_ n_ 1)) = .inr r_ → rtk b_ n_ T_ vx6_ r_ := by intro r_ hr_; rw [hr_] at g23_; obtain ⟨i3_, q1_, q2_⟩ := g23_.2; rw [show vx6_ = (i3_ : Int) by omega]; exact (rp_rtk t23_ q2_ (du_r hr_).2).1
  have row23_ : ∀ pq_, x_ = .inr pq_ → inr_ b_ n_ T_ K_ f_ Sx1_ := fun pq_ hp_ => inr_fr (hin_ pq_ hp_) hFx3_ rfl rfl
  refine sm_T_go 3 (c1 := (8, [some (.inr (.inr (some (13, 0)))), some (.inl vx6_), some (.inl 0)], [], Sx1_)) rfl ?_
  refine (vl_364 b_ n_ T_ x_ K_ f_ S0_ ht_ hx_ hin_ _).1 vx6_ 0 Sx1_ hIx2_ hFx5_ ⟨?_, ?_, ?_, ?_, ?_, trivial⟩ (Nat.lt_succ_self _)
  · omega
  · cases hq_ : (pb x_ (p_du b_ n_ 1)) with
    | inl e_ => left; rw [hq_] at g23_; exact ⟨e_, by unfold zn2; rw [hq_]; rfl, g23_⟩
    | inr q0_ => right; rw [hq_] at g23_; exact ⟨q0_, rfl, g23_, rfl, by omega⟩
  · omega
  · exact rt23_
  · exact row23_
end
/-! 99.z2a -/
section
/-! the reference: measures of cells; written by wip/p55/gen/vg -/

/-! measures of_ cells -/
theorem ms_w {b_ : Nat → Int} {n_ : Nat} {mo_ : Int} {x_ : pE Nat} {e_ : Int × Nat} (h_ : pb x_ (p_du b_ n_ 2) = .inl e_) : pb x_ (p_ms b_ n_ mo_) = .inl e_ := by
  cases x_ with
  | inl z_ => cases h_; rfl
  | inr q_ =>
    have h_ : p_du b_ n_ 2 q_ = .inl e_ := h_
    show p_ms b_ n_ mo_ q_ = .inl e_
    unfold p_du at h_
    unfold p_ms p_nu
    split at h_
    · cases h_
    · rename_i g_
      cases h_
      rw [if_neg g_]
      rfl
theorem ms_r {b_ : Nat → Int} {n_ q_ : Nat} {mo_ : Int} {x_ : pE Nat} (h_ : pb x_ (p_du b_ n_ 2) = .inr q_) : lx_kd b_ n_ q_ = 2 ∧ pb x_ (p_ms b_ n_ mo_) = if lx_vl b_ n_ q_ < 1 ∨ mo_ < lx_vl b_ n_ q_ then .inl (12, q_) else pb (p_ad b_ n_ q_) fun r_ => .inr (r_, lx_vl b_ n_ q_) := by
  obtain ⟨r_, h1_, h2_⟩ := pb_inr h_
  subst h1_
  unfold p_du at h2_
  split at h2_
  · rename_i g_
    cases h2_
    refine ⟨g_, ?_⟩
    show p_ms b_ n_ mo_ q_ = _
    unfold p_ms p_nu
    rw [if_pos g_]
    split <;> rfl
  · cases h2_
/-! M_.bounded -/
def vw_365 : sx_Wl := ([(13, 9), (13, 10), (13, 11)], [], [])
def vq_365 (mo_ : Int) (b_ : Nat → Int) (n_ : Nat) (T_ : Nat) (x_ : pE Nat) (S0_ : sm_S) (u_ : Option sm_V) (S1_ : sm_S) : Prop := ∃ v_ : Int, u_ = some (.inl v_) ∧ gi S1_ ∧ ai_fr (sx_W vw_365) S0_ S1_ ∧ (rg b_ n_ T_ (pb (pb (pb x_ (p_nd b_ n_ 44)) (p_ms b_ n_ mo_)) fun r_ => .inr r_.1) S1_ ∧ (∀ r_, pb (pb x_ (p_nd b_ n_ 44)) (p_ms b_ n_ mo_) = .inr r_ → v_ = r_.2) ∧ (-2147483648 ≤ v_ ∧ v_ ≤ 2147483647))
set_option maxHeartbeats 1000000 in
theorem vc_365 {sc_ : Nat × (Nat → Int)} (mo_ : Int) (b_ : Nat → Int) (n_ : Nat) (T_ : Nat) (x_ : pE Nat) (S0_ : sm_S) (hI_ : gi S0_) (ht_ : rtab b_ n_ T_ S0_) (hx_ : rg b_ n_ T_ x_ S0_) : sm_T (mt_P sc_) 4 365 (0, [some (.inr (.inr (some (13, 0)))), some (.inl mo_), none], [], S0_) (fun r_ => ∃ u_ S1_, r_ = (.inl u_, S1_, 0) ∧ vq_365 mo_ b_ n_ T_ x_ S0_ u_ S1_) := by
  have hF_ : ai_fr (sx_W vw_365) S0_ S0_ := ai_fr_rf
  refine sm_T_go 2 (c1 := (3, [some (.inr (.inr (some (13, 0)))), some (.inl mo_), none], [.inl 44, .inr (.inr (some (13, 0)))], S0_)) rfl ?_
  refine sm_T_cal (d1 := 3) (Q1 := vq_300 44 b_ n_ T_ x_ S0_) rfl rfl (by decide) (vc_300 44 b_ n_ T_ x_ S0_ hI_ (by exact ht_) (by exact hx_) (by decide)) (fun u_ Sx1_ px4_ => ?_)
  obtain ⟨rfl, hIx2_, hFx3_, px4_⟩ := px4_
  have hFx5_ : ai_fr (sx_W vw_365) S0_ Sx1_ := ai_fr_tr hF_ (fr_le hFx3_ rfl)
  have g3_ : rg b_ n_ T_ (pb x_ (p_nd b_ n_ 44)) Sx1_ := px4_
  have t3_ := rtab_fr ht_ hFx3_ rfl rfl rfl rfl rfl
  refine sm_T_go 2 (c1 := (8, [some (.inr (.inr (some (13, 0)))), some (.inl mo_), none], [.inl 2, .inr (.inr (some (13, 0)))], Sx1_)) rfl ?_
  refine sm_T_cal (d1 := 1) (Q1 := vq_299 2 b_ n_ T_ (pb x_ (p_nd b_ n_ 44)) Sx1_) rfl rfl (by decide) (vc_299 2 b_ n_ T_ (pb x_ (p_nd b_ n_ 44)) Sx1_ hIx2_ (by exact t3_) (by exact g3_) (by decide)) (fun u_ Sx6_ px9_ => ?_)
  obtain ⟨vx11_, rfl, hIx7_, hFx8_, px9_⟩ := px9_
  have hFx10_ : ai_fr (sx_W vw_365) S0_ Sx6_ := ai_fr_tr hFx5_ (fr_le hFx8_ rfl)
  have a8_ := px9_.1
  have g8_ := px9_.2
  have t8_ := rtab_fr t3_ hFx8_ rfl rfl rfl rfl rfl
  have at8_ := hFx8_.1 13 0 9 rfl
  have v8b : 0 ≤ vx11_ ∧ vx11_ ≤ 1280 := by rw [a8_, ← at8_]; exact hIx7_.1 13 0 9 rfl
  have nv17_ : ∀ r_ i3_ : Nat, Sx6_.1 13 0 9 = (i3_ : Int) → rp b_ n_ T_ i3_ r_ → lx_kd b_ n_ r_ = 2 → Sx6_.2.2.1 121 0 vx11_.toNat = lx_vl b_ n_ r_ ∧ Sx6_.2.2.1 120 0 vx11_.toNat = (r_ : Int) ∧ Sx6_.2.2.1 119 0 vx11_.toNat ≠ 4 := by intro r_ i3_ q1_ q2_ q3_; have q4_ := rp_at t8_ q2_; rw [show vx11_.toNat = i3_ by omega, q4_.1, q4_.2.1, q4_.2.2.1, q3_]; exact ⟨rfl, rfl, by decide⟩
  obtain ⟨nz_, hnz_⟩ : ∃ nz_, Sx6_.2.2.1 121 0 vx11_.toNat = nz_ := ⟨_, rfl⟩
  refine sm_T_go 2 (c1 := (13, [some (.inr (.inr (some (13, 0)))), some (.inl mo_), some (.inl vx11_)], [.inr (.inr (some (13, 0)))], Sx6_)) rfl ?_
  refine sm_T_cal (d1 := 0) (Q1 := vq_292  Sx6_) rfl rfl (by decide) (vc_292  Sx6_ hIx7_ ) (fun u_ Sx12_ px15_ => ?_)
  obtain ⟨rfl, vx17_, rfl, px15_⟩ := px15_
  have e13_ := px15_
  refine sm_T_b0 (a := 0) (z := 24) rfl (fun cx18_ => ?_) (fun cx18_ => ?_)
  · have cx18_ : vx17_ = 0 := of_decide_eq_true cx18_
    obtain ⟨e3_, he3_⟩ := rg_w g8_ (wr_if e13_ (by omega))
    have cw3_ := ms_w (mo_ := mo_) he3_
    rw [he3_] at g8_
    obtain ⟨x4_, hx4_, hx4b⟩ : ∃ x4_ : pE Nat, rg b_ n_ T_ x4_ _ ∧ x4_ = .inl e3_ := ⟨_, g8_, rfl⟩
    have t4_ := t8_
    have nz4_ := hnz_
    refine sm_T_go 1 (c1 := (41, [some (.inr (.inr (some (13, 0)))), some (.inl mo_), some (.inl vx11_)], [.inr (.inr (some (13, 0)))], Sx6_)) rfl ?_
    refine sm_T_cal (d1 := 2) (Q1 := vq_297 b_ n_ T_ x4_ Sx6_) rfl rfl (by decide) (vc_297 b_ n_ T_ x4_ Sx6_ hIx7_ (by exact t4_) (by exact hx4_) (by (intro z_ e_; rw [hx4b] at e_; first | (cases e_; done) | (cases e_; rw [cr.1]; decide)))) (fun u_ Sx19_ px22_ => ?_)
    obtain ⟨rfl, hIx20_, hFx21_, px22_⟩ := px22_
    have hFx23_ : ai_fr (sx_W vw_365) S0_ Sx19_ := ai_fr_tr hFx10_ (fr_le hFx21_ rfl)
    have g41_ := px22_.1
    rw [hx4b] at g41_
    have nz5_ : Sx19_.2.2.1 121 0 _ = nz_ := (by rw [fr_arr hFx21_ rfl]; exact nz4_)
    refine sm_T_go 3 (c1 := (49, [some (.inr (.inr (some (13, 0)))), some (.inl mo_), some (.inl vx11_)], [.inl vx11_, .inr (.inr (some (121, 0)))], Sx19_)) rfl ?_
    refine sm_T_iald (n := 65537) rfl rfl (by omega) (by omega) ?_
    have bx24_ : (-2147483648) ≤ Sx19_.2.2.1 121 0 vx11_.toNat ∧ Sx19_.2.2.1 121 0 vx11_.toNat ≤ 2147483647 := hIx20_.2 121 0 _
    refine sm_T_ri rfl ⟨_, _, rfl, _, rfl, hIx20_, hFx23_, ?_⟩
    refine ⟨?_, fun r_ hr_ => ?_, by omega⟩
    · first | (rw [cw3_]; exact g41_) | (rw [crv_]; first | exact g41_ | (rw [pb_as]; have z_ : (pb (p_ad b_ n_ q_) fun a_ => pb (.inr (a_, lx_vl b_ n_ q_)) fun r_ => .inr r_.1) = p_ad b_ n_ q_ := pb_id; rw [z_]; exact g41_))
    · first | (rw [cw3_] at hr_; cases hr_; done) | (rw [crv_] at hr_; first | (cases hr_; done) | (obtain ⟨r9_, z1_, z2_⟩ := pb_inr hr_; cases z2_; rw [nz5_, ← hnz_]; exact nv_.1))
  · have cx18_ : ¬ (vx17_ = 0) := of_decide_eq_false cx18_
    have hz4_ := rt_if e13_ (by omega)
    obtain ⟨q_, i3_, hq3_, e31_, e32_⟩ := rg_r g8_ hz4_
    have cr := ms_r (mo_ := mo_) hq3_
    have nv_ := nv17_ q_ i3_ e31_ e32_ cr.1
    refine sm_T_go 3 (c1 := (24, [some (.inr (.inr (some (13, 0)))), some (.inl mo_), some (.inl vx11_)], [.inl vx11_, .inr (.inr (some (121, 0)))], Sx6_)) rfl ?_
    refine sm_T_iald (n := 65537) rfl rfl (by omega) (by omega) ?_
    have bx25_ : (-2147483648) ≤ Sx6_.2.2.1 121 0 vx11_.toNat ∧ Sx6_.2.2.1 121 0 vx11_.toNat ≤ 2147483647 := hIx7_.2 121 0 _
    refine sm_T_go 2 (c1 := (27, [some (.inr (.inr (some (13, 0)))), some (.inl mo_), some (.inl vx11_)], [.inl mo_, .inl 1, .inl (Sx6_.2.2.1 121 0 vx11_.toNat)], Sx6_)) rfl ?_
    refine sm_T_cal (d1 := 0) (Q1 := vq_278 (Sx6_.2.2.1 121 0 vx11_.toNat) 1 mo_ Sx6_) rfl rfl (by decide) (vc_278 (Sx6_.2.2.1 121 0 vx11_.toNat) 1 mo_ Sx6_ hIx7_ ) (fun u_ Sx26_ px29_ => ?_)
    obtain ⟨rfl, vx31_, rfl, px29_⟩ := px29_
    have e27_ := px29_
    refine sm_T_b0 (a := 1) (z := 10) rfl (fun cx32_ => ?_) (fun cx32_ => ?_)
    · have cx32_ : vx31_ ≠ 0 := of_decide_eq_true cx32_
      rw [hq3_] at g8_
      obtain ⟨x4_, hx4_, hx4b⟩ : ∃ x4_ : pE Nat, rg b_ n_ T_ x4_ _ ∧ x4_ = .inr q_ := ⟨_, g8_, rfl⟩
      have crv_ := cr.2
      have e28_ := e27_.2.mp (by omega)
      rw [if_neg (by omega)] at crv_
      have t4_ := t8_
      have nz4_ := hnz_
      refine sm_T_go 1 (c1 := (41, [some (.inr (.inr (some (13, 0)))), some (.inl mo_), some (.inl vx11_)], [.inr (.inr (some (13, 0)))], Sx6_)) rfl ?_
      refine sm_T_cal (d1 := 2) (Q1 := vq_297 b_ n_ T_ x4_ Sx6_) rfl rfl (by decide) (vc_297 b_ n_ T_ x4_ Sx6_ hIx7_ (by exact t4_) (by exact hx4_) (by (intro z_ e_; rw [hx4b] at e_; first | (cases e_; done) | (cases e_; rw [cr.1]; decide)))) (fun u_ Sx33_ px36_ => ?_)
      obtain ⟨rfl, hIx34_, hFx35_, px36_⟩ := px36_
      have hFx37_ : ai_fr (sx_W vw_365) S0_ Sx33_ := ai_fr_tr hFx10_ (fr_le hFx35_ rfl)
      have g41_ := px36_.1
      rw [hx4b] at g41_
      have nz5_ : Sx33_.2.2.1 121 0 _ = nz_ := (by rw [fr_arr hFx35_ rfl]; exact nz4_)
      refine sm_T_go 3 (c1 := (49, [some (.inr (.inr (some (13, 0)))), some (.inl mo_), some (.inl vx11_)], [.inl vx11_, .inr (.inr (some (121, 0)))], Sx33_)) rfl ?_
      refine sm_T_iald (n := 65537) rfl rfl (by omega) (by omega) ?_
      have bx38_ : (-2147483648) ≤ Sx33_.2.2.1 121 0 vx11_.toNat ∧ Sx33_.2.2.1 121 0 vx11_.toNat ≤ 2147483647 := hIx34_.2 121 0 _
      refine sm_T_ri rfl ⟨_, _, rfl, _, rfl, hIx34_, hFx37_, ?_⟩
      refine ⟨?_, fun r_ hr_ => ?_, by omega⟩
      · first | (rw [cw3_]; exact g41_) | (rw [crv_]; first | exact g41_ | (rw [pb_as]; have z_ : (pb (p_ad b_ n_ q_) fun a_ => pb (.inr (a_, lx_vl b_ n_ q_)) fun r_ => .inr r_.1) = p_ad b_ n_ q_ := pb_id; rw [z_]; exact g41_))
      · first | (rw [cw3_] at hr_; cases hr_; done) | (rw [crv_] at hr_; first | (cases hr_; done) | (obtain ⟨r9_, z1_, z2_⟩ := pb_inr hr_; cases z2_; rw [nz5_, ← hnz_]; exact nv_.1))
    · have cx32_ : ¬ (vx31_ ≠ 0) := of_decide_eq_false cx32_
      have crv_ := cr.2
      have e28_ : ¬ (1 ≤ lx_vl b_ n_ q_ ∧ lx_vl b_ n_ q_ ≤ mo_) := fun z_ => by have := e27_.2.mpr (by omega); omega
      rw [if_pos (by omega)] at crv_
      refine sm_T_go 3 (c1 := (37, [some (.inr (.inr (some (13, 0)))), some (.inl mo_), some (.inl vx11_)], [.inl vx11_, .inl 12, .inr (.inr (some (13, 0)))], Sx6_)) rfl ?_
      refine sm_T_cal (d1 := 0) (Q1 := vq_293 12 vx11_ Sx6_) rfl rfl (by decide) (vc_293 12 vx11_ Sx6_ hIx7_ (by decide) (by omega)) (fun u_ Sx39_ px42_ => ?_)
      obtain ⟨rfl, hIx40_, hFx41_, px42_⟩ := px42_
      have hFx43_ : ai_fr (sx_W vw_365) S0_ Sx39_ := ai_fr_tr hFx10_ (fr_le hFx41_ rfl)
      have g36_ : rg b_ n_ T_ (.inl (12, q_)) Sx39_ := by rcases px42_ with z_ | z_; (exact absurd hz4_ z_.1); (exact ⟨z_.2.1.trans (if_neg nv_.2.2), z_.2.2.trans nv_.2.1, by show (12 : Int) ≠ 0; decide⟩)
      obtain ⟨x4_, hx4_, hx4b⟩ : ∃ x4_ : pE Nat, rg b_ n_ T_ x4_ Sx39_ ∧ x4_ = .inl (12, q_) := ⟨_, g36_, rfl⟩
      have t4_ := rtab_fr t8_ hFx41_ rfl rfl rfl rfl rfl
      have nz4_ : Sx39_.2.2.1 121 0 _ = nz_ := (by rw [fr_arr hFx41_ rfl]; exact hnz_)
      refine sm_T_go 1 (c1 := (41, [some (.inr (.inr (some (13, 0)))), some (.inl mo_), some (.inl vx11_)], [.inr (.inr (some (13, 0)))], Sx39_)) rfl ?_
      refine sm_T_cal (d1 := 2) (Q1 := vq_297 b_ n_ T_ x4_ Sx39_) rfl rfl (by decide) (vc_297 b_ n_ T_ x4_ Sx39_ hIx40_ (by exact t4_) (by exact hx4_) (by (intro z_ e_; rw [hx4b] at e_; first | (cases e_; done) | (cases e_; rw [cr.1]; decide)))) (fun u_ Sx44_ px47_ => ?_)
      obtain ⟨rfl, hIx45_, hFx46_, px47_⟩ := px47_
      have hFx48_ : ai_fr (sx_W vw_365) S0_ Sx44_ := ai_fr_tr hFx43_ (fr_le hFx46_ rfl)
      have g41_ := px47_.1
      rw [hx4b] at g41_
      have nz5_ : Sx44_.2.2.1 121 0 _ = nz_ := (by rw [fr_arr hFx46_ rfl]; exact nz4_)
      refine sm_T_go 3 (c1 := (49, [some (.inr (.inr (some (13, 0)))), some (.inl mo_), some (.inl vx11_)], [.inl vx11_, .inr (.inr (some (121, 0)))], Sx44_)) rfl ?_
      refine sm_T_iald (n := 65537) rfl rfl (by omega) (by omega) ?_
      have bx49_ : (-2147483648) ≤ Sx44_.2.2.1 121 0 vx11_.toNat ∧ Sx44_.2.2.1 121 0 vx11_.toNat ≤ 2147483647 := hIx45_.2 121 0 _
      refine sm_T_ri rfl ⟨_, _, rfl, _, rfl, hIx45_, hFx48_, ?_⟩
      refine ⟨?_, fun r_ hr_ => ?_, by omega⟩
      · first | (rw [cw3_]; exact g41_) | (rw [crv_]; first | exact g41_ | (rw [pb_as]; have z_ : (pb (p_ad b_ n_ q_) fun a_ => pb (.inr (a_, lx_vl b_ n_ q_)) fun r_ => .inr r_.1) = p_ad b_ n_ q_ := pb_id; rw [z_]; exact g41_))
      · first | (rw [cw3_] at hr_; cases hr_; done) | (rw [crv_] at hr_; first | (cases hr_; done) | (obtain ⟨r9_, z1_, z2_⟩ := pb_inr hr_; cases z2_; rw [nz5_, ← hnz_]; exact nv_.1))
end
