/-! the reference: modules told; written by wip/p55/gen/vg -/

/-! modules told -/
def z_b3 (b_ : Nat → Int) (n_ : Nat) (N_ : Nat → Nat) (M_ q_ : Nat) : pE Nat := pb (pb (p_nd b_ n_ 3 q_) (p_du b_ n_ 1)) fun r_ => if p_fm b_ n_ N_ M_ r_ = -1 then .inr r_ else .inl (10, r_)
def z_b4 (b_ : Nat → Int) (n_ : Nat) (N_ : Nat → Nat) (M_ q_ : Nat) : pE Nat := pb (z_b3 b_ n_ N_ M_ q_) fun r_ => if M_ = 16 then .inl (15, r_) else .inr r_
def z_b5 (b_ : Nat → Int) (n_ : Nat) (N_ : Nat → Nat) (M_ q_ : Nat) : pE (Nat × Nat) := pb (z_b4 b_ n_ N_ M_ q_) fun r_ => pb (p_ad b_ n_ r_) fun u_ => .inr (r_, u_)
def z_b6 (b_ : Nat → Int) (n_ : Nat) (N_ : Nat → Nat) (M_ q_ : Nat) : pE (Nat × Nat) := pb (z_b5 b_ n_ N_ M_ q_) fun a_ => pb (p_nd b_ n_ 123 a_.2) fun u_ => .inr (a_.1, u_)
theorem bm_eq {b_ : Nat → Int} {n_ M_ q_ : Nat} {A_ : pA} {N_ : Nat → Nat} : p_bm b_ n_ A_ N_ M_ q_ = pb (z_b6 b_ n_ N_ M_ q_) fun a_ => .inr (a_bm A_ M_, n_up N_ M_ a_.1, a_.2) := by
  unfold p_bm z_b6 z_b5 z_b4 z_b3
  simp only [pb_as, pb_ir]
  refine congrArg (pb _) (funext fun r_ => ?_)
  unfold p_du
  by_cases g_ : lx_kd b_ n_ r_ = 1
  · rw [if_pos g_, if_pos g_]
    show _ = pb (if p_fm b_ n_ N_ M_ r_ = -1 then .inr r_ else .inl (10, r_)) _
    by_cases g2_ : p_fm b_ n_ N_ M_ r_ = -1
    · rw [if_pos g2_, if_pos g2_]
      show _ = pb (if M_ = 16 then .inl (15, r_) else .inr r_) _
      by_cases g3_ : M_ = 16
      · rw [if_pos g3_, if_pos g3_]; rfl
      · rw [if_neg g3_, if_neg g3_]; rfl
    · rw [if_neg g2_, if_neg g2_]; rfl
  · rw [if_neg g_, if_neg g_]; rfl
theorem b3_r {b_ : Nat → Int} {n_ M_ q_ r_ : Nat} {N_ : Nat → Nat} (h_ : z_b3 b_ n_ N_ M_ q_ = .inr r_) : pb (p_nd b_ n_ 3 q_) (p_du b_ n_ 1) = .inr r_ ∧ lx_kd b_ n_ r_ = 1 := by
  obtain ⟨r1_, h1_, h2_⟩ := pb_inr h_
  split at h2_
  · cases h2_
    refine ⟨h1_, ?_⟩
    obtain ⟨r2_, h3_, h4_⟩ := pb_inr h1_
    unfold p_du at h4_
    split at h4_
    · rename_i g_
      cases h4_
      exact g_
    · cases h4_
  · cases h2_
theorem b4_r {b_ : Nat → Int} {n_ M_ q_ r_ : Nat} {N_ : Nat → Nat} (h_ : z_b4 b_ n_ N_ M_ q_ = .inr r_) : z_b3 b_ n_ N_ M_ q_ = .inr r_ ∧ M_ ≠ 16 := by
  obtain ⟨r1_, h1_, h2_⟩ := pb_inr h_
  split at h2_
  · cases h2_
  · rename_i g_
    cases h2_
    exact ⟨h1_, g_⟩
theorem b6_r {b_ : Nat → Int} {n_ M_ q_ : Nat} {N_ : Nat → Nat} {a_ : Nat × Nat} (hq_ : q_ ≤ n_) (h_ : z_b6 b_ n_ N_ M_ q_ = .inr a_) : z_b4 b_ n_ N_ M_ q_ = .inr a_.1 ∧ nmp b_ n_ a_.1 ∧ q_ < a_.2 ∧ a_.2 ≤ n_ ∧ pb (p_ad b_ n_ a_.1) (p_nd b_ n_ 123) = .inr a_.2 := by
  obtain ⟨a1_, h1_, h2_⟩ := pb_inr h_
  obtain ⟨u_, h3_, h4_⟩ := pb_inr h2_
  cases h4_
  obtain ⟨r_, h5_, h6_⟩ := pb_inr h1_
  obtain ⟨v_, h7_, h8_⟩ := pb_inr h6_
  cases h8_
  have k1_ := b3_r (b4_r h5_).1
  obtain ⟨r2_, h9_, h10_⟩ := pb_inr k1_.1
  have k2_ := nd_ok hq_ (by decide) h9_
  have e_ : r_ = r2_ := by
    unfold p_du at h10_
    split at h10_
    · cases h10_; rfl
    · cases h10_
  subst e_
  have k3_ := p_ad_ok k2_.2.1 (by omega) h7_
  have k4_ := nd_ok k3_.2.2.1 (by decide) h3_
  have k5_ := k2_.1
  have k6_ := k3_.2.1
  have k7_ : v_ < u_ := k4_.1
  exact ⟨h5_, ⟨k2_.2.1, k1_.2⟩, by show q_ < u_; omega, k4_.2.1, by rw [pb_r h7_]; exact h3_⟩
theorem dl_w {b_ : Nat → Int} {n_ f_ M_ p_ : Nat} {A_ : pA} {N_ mc : Nat → Nat} {c_ : List Int} {e_ : Int × Nat} (hk_ : lx_kd b_ n_ p_ ≠ 125) (h_ : p_i2 b_ n_ A_ N_ M_ c_ p_ = .inl e_) : p_dl b_ n_ (f_ + 1) A_ N_ M_ mc c_ p_ = .inl e_ := by
  unfold p_i2 at h_
  cases hi_ : p_it b_ n_ A_ N_ M_ c_ p_ with
  | some x_ =>
    rw [hi_] at h_
    rw [dl_i hi_]
    have h_ : x_ = .inl e_ := h_
    rw [h_]
    rfl
  | none =>
    rw [hi_] at h_
    rw [dl_n hi_]
    unfold p_en p_nd
    rw [if_neg hk_]
    cases h_
    rfl
theorem dl_r {b_ : Nat → Int} {n_ f_ M_ p_ : Nat} {A_ : pA} {N_ mc : Nat → Nat} {c_ : List Int} {r_ : pT} (h_ : p_i2 b_ n_ A_ N_ M_ c_ p_ = .inr r_) : p_dl b_ n_ (f_ + 1) A_ N_ M_ mc c_ p_ = p_dl b_ n_ f_ r_.1 N_ M_ mc r_.2.1 r_.2.2 := by
  unfold p_i2 at h_
  cases hi_ : p_it b_ n_ A_ N_ M_ c_ p_ with
  | some x_ =>
    rw [hi_] at h_
    rw [dl_i hi_]
    have h_ : x_ = .inr r_ := h_
    rw [h_]
    rfl
  | none =>
    rw [hi_] at h_
    cases h_
theorem dl_e {b_ : Nat → Int} {n_ f_ M_ p_ : Nat} {A_ : pA} {N_ mc : Nat → Nat} {c_ : List Int} (hk_ : lx_kd b_ n_ p_ = 125) : p_dl b_ n_ (f_ + 1) A_ N_ M_ mc c_ p_ = pb (p_nd b_ n_ 125 p_) fun r_ => if lx_kd b_ n_ r_ = 0 then .inr (A_, N_, M_ + 1, n_up mc (M_ + 1) c_.length, c_) else pb (p_bm b_ n_ A_ N_ (M_ + 1) r_) fun x_ => p_dl b_ n_ f_ x_.1 x_.2.1 (M_ + 1) (n_up mc (M_ + 1) c_.length) c_ x_.2.2 := by
  have hi_ : p_it b_ n_ A_ N_ M_ c_ p_ = none := by
    unfold p_it
    rw [if_neg (by omega), if_neg (by omega), if_neg (by omega), if_neg (by omega), if_neg (by omega), if_neg (by omega)]
  rw [dl_n hi_]
  unfold p_en
  rw [pb_as]
  refine congrArg (pb _) (funext fun r_ => ?_)
  by_cases g_ : lx_kd b_ n_ r_ = 0
  · rw [if_pos g_, if_pos g_]; rfl
  · rw [if_neg g_, if_neg g_, pb_as]; rfl
/-- where a_ module's body begins, and its_ token -/
def bdy (b_ : Nat → Int) (n_ T_ : Nat) (N_ : Nat → Nat) (m_ : Nat) (S_ : sm_S) : Prop := ∃ u_ i_, pb (p_ad b_ n_ (N_ m_)) (p_nd b_ n_ 123) = .inr u_ ∧ rp b_ n_ T_ i_ u_ ∧ S_.2.2.1 125 0 m_ = (i_ : Int)
theorem bdy_fr {w_ : sx_Wl} {b_ : Nat → Int} {n_ T_ m_ : Nat} {N_ : Nat → Nat} {S_ S'_ : sm_S} (h_ : bdy b_ n_ T_ N_ m_ S_) (g_ : ai_fr (sx_W w_) S_ S'_) (h0_ : (sx_W w_).2.1 125 = false) : bdy b_ n_ T_ N_ m_ S'_ := by
  unfold bdy at h_ ⊢
  rw [fr_arr g_ h0_]
  exact h_
/-- so_ many modules told -/
def rT (b_ : Nat → Int) (n_ T_ : Nat) (A_ : pA) (N_ : Nat → Nat) (M_ : Nat) (S_ : sm_S) : Prop := S_.1 13 0 12 = (M_ : Int) ∧ M_ ≤ 16 ∧ (∀ m_, m_ < M_ → a_ok b_ n_ A_ m_) ∧ (∀ m_, m_ < M_ → re1 b_ n_ T_ A_ m_ S_) ∧ (∀ m_, m_ < M_ → rs1 A_ m_ S_) ∧ rnr b_ n_ T_ N_ M_ S_ ∧ ∀ m_, m_ < M_ → bdy b_ n_ T_ N_ m_ S_
theorem rnr_fr {w_ : sx_Wl} {b_ : Nat → Int} {n_ T_ M_ : Nat} {N_ : Nat → Nat} {S_ S'_ : sm_S} (h_ : rnr b_ n_ T_ N_ M_ S_) (g_ : ai_fr (sx_W w_) S_ S'_) (h0_ : (sx_W w_).2.1 124 = false) : rnr b_ n_ T_ N_ M_ S'_ := by
  unfold rnr at h_ ⊢
  rw [fr_arr g_ h0_]
  exact h_
theorem rT_fr {w_ : sx_Wl} {b_ : Nat → Int} {n_ T_ M_ : Nat} {A_ : pA} {N_ : Nat → Nat} {S_ S'_ : sm_S} (h_ : rT b_ n_ T_ A_ N_ M_ S_) (g_ : ai_fr (sx_W w_) S_ S'_) (h12_ : (sx_W w_).1 13 12 = false) (h124_ : (sx_W w_).2.1 124 = false) (h126_ : (sx_W w_).2.1 126 = false) (h127_ : (sx_W w_).2.1 127 = false) (h128_ : (sx_W w_).2.1 128 = false) (h129_ : (sx_W w_).2.1 129 = false) (h130_ : (sx_W w_).2.1 130 = false) (h131_ : (sx_W w_).2.1 131 = false) (h132_ : (sx_W w_).2.1 132 = false) (h133_ : (sx_W w_).2.1 133 = false) (h134_ : (sx_W w_).2.1 134 = false) (h135_ : (sx_W w_).2.1 135 = false) (h125_ : (sx_W w_).2.1 125 = false) : rT b_ n_ T_ A_ N_ M_ S'_ :=
  ⟨(g_.1 13 0 12 h12_).trans h_.1, h_.2.1, h_.2.2.1, fun m_ hm_ => re1_fr (h_.2.2.2.1 m_ hm_) g_ h126_ h127_ h128_ h129_ h130_ h131_, fun m_ hm_ => rs1_fr (h_.2.2.2.2.1 m_ hm_) g_ h132_ h133_ h134_ h135_, rnr_fr h_.2.2.2.2.2.1 g_ h124_, fun m_ hm_ => bdy_fr (h_.2.2.2.2.2.2 m_ hm_) g_ h125_⟩
/-- within a_ module -/
def rL (b_ : Nat → Int) (n_ T_ : Nat) (X_ : pE pD) (M_ : Nat) (S_ : sm_S) : Prop := ∃ f_ A_ N_ mc c_ p_, X_ = p_dl b_ n_ f_ A_ N_ M_ mc c_ p_ ∧ n_ < p_ + f_ ∧ rg b_ n_ T_ (.inr p_) S_ ∧ a_ok b_ n_ A_ M_ ∧ (∀ m_, m_ ≤ M_ → re1 b_ n_ T_ A_ m_ S_) ∧ (∀ m_, m_ ≤ M_ → rs1 A_ m_ S_) ∧ rnr b_ n_ T_ N_ M_ S_ ∧ rtk b_ n_ T_ (S_.2.2.1 124 0 M_) (N_ M_) ∧ c_.length ≤ 3 * p_ ∧ ∀ m_, m_ ≤ M_ → bdy b_ n_ T_ N_ m_ S_
def rX (b_ : Nat → Int) (n_ T_ : Nat) (X_ : pE pD) (S_ : sm_S) : Prop := ∃ e_, X_ = .inl e_ ∧ rg b_ n_ T_ (.inl e_) S_
/-- between modules -/
def rN (b_ : Nat → Int) (n_ T_ : Nat) (X_ : pE pD) (S_ : sm_S) : Prop := ∃ A_ N_ M_ mc c_ q_, rg b_ n_ T_ (.inr q_) S_ ∧ rT b_ n_ T_ A_ N_ M_ S_ ∧ 1 ≤ M_ ∧ c_.length ≤ 3 * q_ ∧ ((lx_kd b_ n_ q_ = 0 ∧ X_ = .inr (A_, N_, M_, mc, c_)) ∨ (lx_kd b_ n_ q_ ≠ 0 ∧ ∃ f_, n_ < q_ + f_ ∧ X_ = pb (p_bm b_ n_ A_ N_ M_ q_) fun x_ => p_dl b_ n_ f_ x_.1 x_.2.1 M_ mc c_ x_.2.2))
theorem bm_all {b_ : Nat → Int} {n_ T_ M_ r_ : Nat} {A_ : pA} {N_ : Nat → Nat} {tk_ : Int} {S_ S'_ : sm_S} (h_ : rT b_ n_ T_ A_ N_ M_ S_) (hr_ : rtk b_ n_ T_ tk_ r_) (hM_ : M_ ≤ 15)
  (h0_ : ∀ j_, S'_.2.2.1 124 0 j_ = if j_ = M_ then tk_ else S_.2.2.1 124 0 j_) (h1_ : ∀ j_, S'_.2.2.1 126 0 j_ = if j_ = M_ then 0 else S_.2.2.1 126 0 j_)
  (h2_ : ∀ j_, S'_.2.2.1 132 0 j_ = if j_ = M_ then 0 else S_.2.2.1 132 0 j_) (h3_ : ∀ j_, S'_.2.2.1 133 0 j_ = if j_ = M_ then 0 else S_.2.2.1 133 0 j_) (h4_ : ∀ j_, S'_.2.2.1 134 0 j_ = if j_ = M_ then 0 else S_.2.2.1 134 0 j_) (h5_ : ∀ j_, S'_.2.2.1 135 0 j_ = if j_ = M_ then 0 else S_.2.2.1 135 0 j_)
  (e1_ : S'_.2.2.1 127 0 = S_.2.2.1 127 0) (e2_ : S'_.2.2.1 128 0 = S_.2.2.1 128 0) (e3_ : S'_.2.2.1 129 0 = S_.2.2.1 129 0) (e4_ : S'_.2.2.1 130 0 = S_.2.2.1 130 0) (e5_ : S'_.2.2.1 131 0 = S_.2.2.1 131 0) : a_ok b_ n_ (a_bm A_ M_) M_ ∧ (∀ m_, m_ ≤ M_ → re1 b_ n_ T_ (a_bm A_ M_) m_ S'_) ∧ (∀ m_, m_ ≤ M_ → rs1 (a_bm A_ M_) m_ S'_) ∧ rnr b_ n_ T_ (n_up N_ M_ r_) M_ S'_ ∧ rtk b_ n_ T_ (S'_.2.2.1 124 0 M_) (n_up N_ M_ r_ M_) := by
  obtain ⟨q1_, q2_, q3_, q4_, q5_, q6_, q7_⟩ := h_
  have c0_ : (a_bm A_ M_).1 M_ = 0 := if_pos rfl
  refine ⟨a_bm_ok q3_ hM_, fun m_ hm_ => ?_, fun m_ hm_ => ?_, ⟨by omega, fun m_ hm_ => ?_⟩, ?_⟩
  · by_cases e_ : m_ = M_
    · subst e_
      unfold re1
      rw [c0_, h1_, if_pos rfl]
      exact ⟨rfl, fun s_ hs_ => absurd hs_ (Nat.not_lt_zero _)⟩
    · have k_ := q4_ m_ (by omega)
      have c1_ : (a_bm A_ M_).1 m_ = A_.1 m_ := if_neg e_
      unfold re1 at k_ ⊢
      rw [c1_, h1_, if_neg e_, e1_, e2_, e3_, e4_, e5_]
      exact k_
  · by_cases e_ : m_ = M_
    · subst e_
      unfold rs1
      rw [c0_, h2_, h3_, h4_, h5_, if_pos rfl, if_pos rfl, if_pos rfl, if_pos rfl]
      exact ⟨rfl, rfl, rfl, rfl⟩
    · have k_ := q5_ m_ (by omega)
      have a1_ := q3_ m_ (by omega)
      have c1_ : (a_bm A_ M_).1 m_ = A_.1 m_ := if_neg e_
      unfold rs1 at k_ ⊢
      rw [c1_, h2_, h3_, if_neg e_, if_neg e_]
      have dt_ : ∀ s_, s_ < A_.1 m_ → A_.2.2.1 (40 * m_ + s_) = 5 → (A_.2.2.2.2 (40 * m_ + s_)).toNat ≠ M_ := by
        intro s_ hs1_ h5_
        have := ((a1_.2 m_ (Nat.le_refl m_)).2 s_ hs1_).2.2.2.2.1 h5_
        omega
      refine ⟨k_.1, k_.2.1, ?_, ?_⟩
      · rw [h4_, if_neg e_, k_.2.2.1]
        refine congrArg mn (su_cg fun s_ hs1_ => ?_)
        show t_rg (S_.2.2.1 134 0) A_ m_ s_ = t_rg (S'_.2.2.1 134 0) A_ m_ s_
        unfold t_rg
        by_cases z_ : A_.2.2.1 (40 * m_ + s_) = 3 ∨ A_.2.2.1 (40 * m_ + s_) = 4
        · rw [if_pos z_, if_pos z_]
        · rw [if_neg z_, if_neg z_]
          by_cases z2_ : A_.2.2.1 (40 * m_ + s_) = 5
          · rw [if_pos z2_, if_pos z2_, h4_, if_neg (dt_ s_ hs1_ z2_)]
          · rw [if_neg z2_, if_neg z2_]
      · rw [h5_, if_neg e_, k_.2.2.2]
        refine congrArg mn (su_cg fun s_ hs1_ => ?_)
        show t_is (S_.2.2.1 135 0) A_ m_ s_ = t_is (S'_.2.2.1 135 0) A_ m_ s_
        unfold t_is
        by_cases z2_ : A_.2.2.1 (40 * m_ + s_) = 5
        · rw [if_pos z2_, if_pos z2_, h5_, if_neg (dt_ s_ hs1_ z2_)]
        · rw [if_neg z2_, if_neg z2_]
  · rw [h0_, if_neg (by omega)]
    show rtk b_ n_ T_ _ (if m_ = M_ then r_ else N_ m_)
    rw [if_neg (by omega)]
    exact q6_.2 m_ hm_
  · rw [h0_, if_pos rfl]
    show rtk b_ n_ T_ tk_ (if M_ = M_ then r_ else N_ M_)
    rw [if_pos rfl]
    exact hr_
theorem bm_L {b_ : Nat → Int} {n_ T_ M_ r_ f_ p_ : Nat} {X_ : pE pD} {A_ : pA} {N_ mc : Nat → Nat} {c_ : List Int} {tk_ : Int} {S_ S'_ : sm_S} (h_ : rT b_ n_ T_ A_ N_ M_ S_) (hr_ : rtk b_ n_ T_ tk_ r_) (hM_ : M_ ≤ 15) (hx_ : X_ = p_dl b_ n_ f_ (a_bm A_ M_) (n_up N_ M_ r_) M_ mc c_ p_) (hf_ : n_ < p_ + f_) (hg_ : rg b_ n_ T_ (.inr p_) S'_) (hc_ : c_.length ≤ 3 * p_)
  (h0_ : ∀ j_, S'_.2.2.1 124 0 j_ = if j_ = M_ then tk_ else S_.2.2.1 124 0 j_) (h1_ : ∀ j_, S'_.2.2.1 126 0 j_ = if j_ = M_ then 0 else S_.2.2.1 126 0 j_)
  (h2_ : ∀ j_, S'_.2.2.1 132 0 j_ = if j_ = M_ then 0 else S_.2.2.1 132 0 j_) (h3_ : ∀ j_, S'_.2.2.1 133 0 j_ = if j_ = M_ then 0 else S_.2.2.1 133 0 j_) (h4_ : ∀ j_, S'_.2.2.1 134 0 j_ = if j_ = M_ then 0 else S_.2.2.1 134 0 j_) (h5_ : ∀ j_, S'_.2.2.1 135 0 j_ = if j_ = M_ then 0 else S_.2.2.1 135 0 j_)
  (e1_ : S'_.2.2.1 127 0 = S_.2.2.1 127 0) (e2_ : S'_.2.2.1 128 0 = S_.2.2.1 128 0) (e3_ : S'_.2.2.1 129 0 = S_.2.2.1 129 0) (e4_ : S'_.2.2.1 130 0 = S_.2.2.1 130 0) (e5_ : S'_.2.2.1 131 0 = S_.2.2.1 131 0) (h6_ : ∀ j_, S'_.2.2.1 125 0 j_ = if j_ = M_ then S'_.1 13 0 9 else S_.2.2.1 125 0 j_) (hbo_ : pb (p_ad b_ n_ r_) (p_nd b_ n_ 123) = .inr p_) : rL b_ n_ T_ X_ M_ S'_ := by
  have k_ := bm_all h_ hr_ hM_ h0_ h1_ h2_ h3_ h4_ h5_ e1_ e2_ e3_ e4_ e5_
  obtain ⟨i9_, g1_, g2_⟩ := hg_.2
  have bd_ : ∀ m_, m_ ≤ M_ → bdy b_ n_ T_ (n_up N_ M_ r_) m_ S'_ := by
    intro m_ hm_
    by_cases e_ : m_ = M_
    · refine ⟨p_, i9_, ?_, g2_, ?_⟩
      · rw [show n_up N_ M_ r_ m_ = r_ from if_pos e_]; exact hbo_
      · rw [h6_, if_pos e_]; exact g1_
    · obtain ⟨u_, i_, w1_, w2_, w3_⟩ := h_.2.2.2.2.2.2 m_ (by omega)
      refine ⟨u_, i_, ?_, w2_, ?_⟩
      · rw [show n_up N_ M_ r_ m_ = N_ m_ from if_neg e_]; exact w1_
      · rw [h6_, if_neg e_]; exact w3_
  exact ⟨f_, a_bm A_ M_, n_up N_ M_ r_, mc, c_, p_, hx_, hf_, hg_, k_.1, k_.2.1, k_.2.2.1, k_.2.2.2.1, k_.2.2.2.2, hc_, bd_⟩
theorem rT_nx {b_ : Nat → Int} {n_ T_ M_ : Nat} {A_ : pA} {N_ : Nat → Nat} {S_ : sm_S} {z_ : Int} (hA_ : a_ok b_ n_ A_ M_) (h1_ : ∀ m_, m_ ≤ M_ → re1 b_ n_ T_ A_ m_ S_) (h2_ : ∀ m_, m_ ≤ M_ → rs1 A_ m_ S_) (h3_ : rnr b_ n_ T_ N_ M_ S_) (h4_ : rtk b_ n_ T_ (S_.2.2.1 124 0 M_) (N_ M_)) (h5_ : ∀ m_, m_ ≤ M_ → bdy b_ n_ T_ N_ m_ S_) (hz_ : z_ = (M_ : Int) + 1) : rT b_ n_ T_ A_ N_ (M_ + 1) (sm_pI S_ 13 0 12 z_) := by
  have hM_ := hA_.1
  have f_ : ai_fr (sx_W ([(13, 12)], [], [])) S_ (sm_pI S_ 13 0 12 z_) := ai_fr_pI rfl
  refine ⟨?_, by omega, fun m_ hm_ => a_ok_le hA_ (by omega), fun m_ hm_ => re1_fr (h1_ m_ (by omega)) f_ rfl rfl rfl rfl rfl rfl, fun m_ hm_ => rs1_fr (h2_ m_ (by omega)) f_ rfl rfl rfl rfl, rnr_fr (w_ := ([(13, 12)], [], [])) ⟨by omega, fun m_ hm_ => ?_⟩ f_ rfl, fun m_ hm_ => bdy_fr (h5_ m_ (by omega)) f_ rfl⟩
  · rw [rf_eq, hz_]
    push_cast
    rfl
  · by_cases e_ : m_ = M_
    · rw [e_]; exact h4_
    · exact h3_.2 m_ (by omega)
theorem rms_b {k_ : Int} {S_ : sm_S} (hI_ : gi S_) : r_ms k_ S_ ≤ 1301 := by
  have z_ : 0 ≤ S_.2.2.1 120 0 (S_.1 13 0 9).toNat ∧ S_.2.2.1 120 0 (S_.1 13 0 9).toNat ≤ 1280 := hI_.2 120 0 _
  unfold r_ms
  split <;> omega
theorem rX_z {b_ : Nat → Int} {n_ T_ : Nat} {X_ : pE pD} {S_ : sm_S} (h_ : rX b_ n_ T_ X_ S_) (h0_ : S_.1 13 0 10 = 0) : False := by
  obtain ⟨e_, z1_, z2_⟩ := h_
  exact z2_.2.2 (z2_.1.symm.trans h0_)
/-! M_.tellModule -/
def vw_339 : sx_Wl := ([(13, 9), (13, 10), (13, 11), (13, 12), (13, 25), (13, 26), (13, 28), (13, 32), (13, 33), (13, 34)], [124, 125, 126, 127, 128, 129, 130, 131, 132, 133, 134, 135, 136, 137, 138, 139], [])
def vq_339 (b_ : Nat → Int) (n_ : Nat) (T_ : Nat) (X_ : pE pD) (A_ : pA) (N_ : Nat → Nat) (M_ : Nat) (mc : Nat → Nat) (c_ : List Int) (q_ : Nat) (f_ : Nat) (S0_ : sm_S) (u_ : Option sm_V) (S1_ : sm_S) : Prop := u_ = none ∧ gi S1_ ∧ ai_fr (sx_W vw_339) S0_ S1_ ∧ ((rX b_ n_ T_ X_ S1_ ∨ rN b_ n_ T_ X_ S1_) ∧ ((S1_.1 13 0 10) = 0 → (S1_.1 13 0 12) = (S0_.1 13 0 12) + 1))
set_option maxHeartbeats 2000000 in
set_option maxRecDepth 20000 in
theorem vl_339 {sc_ : Nat × (Nat → Int)} (b_ : Nat → Int) (n_ : Nat) (T_ : Nat) (X_ : pE pD) (A_ : pA) (N_ : Nat → Nat) (M_ : Nat) (mc : Nat → Nat) (c_ : List Int) (q_ : Nat) (f_ : Nat) (S0_ : sm_S) (ht_ : rtab b_ n_ T_ S0_) (hx_ : rg b_ n_ T_ (.inr q_) S0_) (hT_ : rT b_ n_ T_ A_ N_ M_ S0_) (hmo_ : (S0_.1 13 0 27) = 0) (hc_ : c_.length ≤ 3 * q_) (hX_ : X_ = (pb (p_bm b_ n_ A_ N_ M_ q_) fun x_ => p_dl b_ n_ f_ x_.1 x_.2.1 M_ mc c_ x_.2.2)) (hf_ : n_ < q_ + f_) : ∀ nn_ : Nat, (∀ (tk_ : Int) (S_ : sm_S), gi S_ → ai_fr (sx_W vw_339) S0_ S_ → ((rg b_ n_ T_ (z_b3 b_ n_ N_ M_ q_) S_) ∧ (∀ r_, (pb (p_nd b_ n_ 3 q_) (p_du b_ n_ 1)) = .inr r_ → rtk b_ n_ T_ tk_ r_) ∧ (0 ≤ tk_ ∧ tk_ ≤ 1280) ∧ (rT b_ n_ T_ A_ N_ M_ S_) ∧ True) → ((9000 : Nat)) < nn_ → sm_T (mt_P sc_) 10 339 (50, [some (.inr (.inr (some (13, 0)))), some (.inl tk_), none], [], S_) (fun ro9_ => ∃ u_ S1_, ro9_ = (.inl u_, S1_, 0) ∧ vq_339 b_ n_ T_ X_ A_ N_ M_ mc c_ q_ f_ S0_ u_ S1_)) ∧ (∀ (tk_ : Int) (S_ : sm_S), gi S_ → ai_fr (sx_W vw_339) S0_ S_ → ((rg b_ n_ T_ (z_b4 b_ n_ N_ M_ q_) S_) ∧ (∀ r_, (pb (p_nd b_ n_ 3 q_) (p_du b_ n_ 1)) = .inr r_ → rtk b_ n_ T_ tk_ r_) ∧ (0 ≤ tk_ ∧ tk_ ≤ 1280) ∧ (rT b_ n_ T_ A_ N_ M_ S_) ∧ True) → ((8000 : Nat)) < nn_ → sm_T (mt_P sc_) 10 339 (73, [some (.inr (.inr (some (13, 0)))), some (.inl tk_), none], [], S_) (fun ro9_ => ∃ u_ S1_, ro9_ = (.inl u_, S1_, 0) ∧ vq_339 b_ n_ T_ X_ A_ N_ M_ mc c_ q_ f_ S0_ u_ S1_)) ∧ (∀ (k2_ : Int) (S_ : sm_S), gi S_ → ai_fr (sx_W vw_339) S0_ S_ → ((0 ≤ k2_ ∧ k2_ ≤ 15) ∧ ((S_.1 13 0 12) = (M_ : Int)) ∧ (rX b_ n_ T_ X_ S_ ∨ (k2_ = (M_ : Int) ∧ M_ ≤ 15 ∧ (S_.1 13 0 28) = (M_ : Int) ∧ rL b_ n_ T_ X_ M_ S_)) ∧ True) → (r_ms 0 S_) < nn_ → sm_T (mt_P sc_) 10 339 (155, [some (.inr (.inr (some (13, 0)))), none, some (.inl k2_)], [], S_) (fun ro9_ => ∃ u_ S1_, ro9_ = (.inl u_, S1_, 0) ∧ vq_339 b_ n_ T_ X_ A_ N_ M_ mc c_ q_ f_ S0_ u_ S1_)) := by
  intro nn_
  induction nn_ with
  | zero => exact ⟨fun _ _ _ _ _ h_ => absurd h_ (Nat.not_lt_zero _), fun _ _ _ _ _ h_ => absurd h_ (Nat.not_lt_zero _), fun _ _ _ _ _ h_ => absurd h_ (Nat.not_lt_zero _)⟩
  | succ nn_ ih_ =>
    refine ⟨?_, ?_, ?_⟩
    · rintro tk_ S_ hI_ hF_ ⟨g50_, tk50_, tb50_, T50_, -⟩ hm_
      have le0_ := rg_le ht_ hx_
      have hn1_ := ht_.1
      have hM16_ := hT_.2.1
      have t50_ := rtab_fr ht_ hF_ rfl rfl rfl rfl rfl
      refine sm_T_go 1 (c1 := (51, [some (.inr (.inr (some (13, 0)))), some (.inl tk_), none], [.inr (.inr (some (13, 0)))], S_)) rfl ?_
      refine sm_T_cal (d1 := 0) (Q1 := vq_292  S_) rfl rfl (by decide) (vc_292  S_ hI_ ) (fun u_ Sx1_ px4_ => ?_)
      obtain ⟨rfl, vx6_, rfl, px4_⟩ := px4_
      have e51_ := px4_
      refine sm_T_b0 (a := 0) (z := 19) rfl (fun cx7_ => ?_) (fun cx7_ => ?_)
      · have cx7_ : vx6_ = 0 := of_decide_eq_true cx7_
        have hz_ := wr_if e51_ (by omega)
        obtain ⟨e5_, he5_⟩ := rg_w g50_ hz_
        have b4w : (z_b4 b_ n_ N_ M_ q_) = .inl e5_ := by unfold z_b4; rw [he5_]; rfl
        have g4w := g50_
        rw [he5_] at g4w
        refine sm_T_go 0 (c1 := (73, [some (.inr (.inr (some (13, 0)))), some (.inl tk_), none], [], S_)) rfl ?_
        refine ih_.2.1 tk_ S_ hI_ hF_ ⟨?_, ?_, ?_, ?_, trivial⟩ ?_
        · first | exact g70_ | (rw [b4w]; exact g4w) | (rw [b4c, if_neg (by omega)]; exact g4r)
        · exact tk50_
        · omega
        · first | exact T70_ | exact T50_
        · omega
      · have cx7_ : ¬ (vx6_ = 0) := of_decide_eq_false cx7_
        have hz_ := rt_if e51_ (by omega)
        obtain ⟨r2_, i2_, hr2_, hi21_, hi22_⟩ := rg_r g50_ hz_
        have rt2_ := tk50_ r2_ (b3_r hr2_).1
        have pt2_ := rtk_pl t50_ rt2_
        have g4r := g50_
        rw [hr2_] at g4r
        have b4c : (z_b4 b_ n_ N_ M_ q_) = if M_ = 16 then .inl (15, r2_) else .inr r2_ := by unfold z_b4; rw [hr2_]; rfl
        have so2_ : S_.2.2.1 119 0 tk_.toNat ≠ 4 := by obtain ⟨i3_, y1_, y2_, y3_, y4_⟩ := rt2_; have y5_ := (t50_.2.2.1.1 i3_ y2_).2; rw [← y3_] at y5_; rw [y1_, Int.toNat_natCast, y5_.2.1, y4_.2]; decide
        have ms50_ := T50_.1
        have bx8_ : 0 ≤ S_.1 13 0 12 ∧ S_.1 13 0 12 ≤ 16 := hI_.1 13 0 12 rfl
        refine sm_T_go 3 (c1 := (63, [some (.inr (.inr (some (13, 0)))), some (.inl tk_), none], [.inl 16, .inl (S_.1 13 0 12)], S_)) rfl ?_
        refine sm_T_br (a := 1) (z := 10) rfl (fun cx9_ => ?_) (fun cx9_ => ?_)
        · have cx9_ : (S_.1 13 0 12) ≠ 16 := of_decide_eq_true cx9_
          refine sm_T_go 0 (c1 := (73, [some (.inr (.inr (some (13, 0)))), some (.inl tk_), none], [], S_)) rfl ?_
          refine ih_.2.1 tk_ S_ hI_ hF_ ⟨?_, ?_, ?_, ?_, trivial⟩ ?_
          · first | exact g70_ | (rw [b4w]; exact g4w) | (rw [b4c, if_neg (by omega)]; exact g4r)
          · exact tk50_
          · omega
          · first | exact T70_ | exact T50_
          · omega
        · have cx9_ : ¬ ((S_.1 13 0 12) ≠ 16) := of_decide_eq_false cx9_
          refine sm_T_go 3 (c1 := (70, [some (.inr (.inr (some (13, 0)))), some (.inl tk_), none], [.inl tk_, .inl 15, .inr (.inr (some (13, 0)))], S_)) rfl ?_
          refine sm_T_cal (d1 := 0) (Q1 := vq_293 15 tk_ S_) rfl rfl (by decide) (vc_293 15 tk_ S_ hI_ (by decide) (by omega)) (fun u_ Sx10_ px13_ => ?_)
          obtain ⟨rfl, hIx11_, hFx12_, px13_⟩ := px13_
          have hFx14_ : ai_fr (sx_W vw_339) S0_ Sx10_ := ai_fr_tr hF_ (fr_le hFx12_ rfl)
          have ex15_ : Sx10_.1 13 0 12 = S_.1 13 0 12 := hFx12_.1 13 0 12 rfl
          have g70_ : rg b_ n_ T_ (z_b4 b_ n_ N_ M_ q_) Sx10_ := by rw [b4c, if_pos (by omega)]; rcases px13_ with z_ | z_; (exact absurd hz_ z_.1); (exact ⟨z_.2.1.trans (if_neg so2_), z_.2.2.trans pt2_.2, by show (15 : Int) ≠ 0; decide⟩)
          have T70_ := rT_fr T50_ hFx12_ rfl rfl rfl rfl rfl rfl rfl rfl rfl rfl rfl rfl rfl
          refine sm_T_go 0 (c1 := (73, [some (.inr (.inr (some (13, 0)))), some (.inl tk_), none], [], Sx10_)) rfl ?_
          refine ih_.2.1 tk_ Sx10_ hIx11_ hFx14_ ⟨?_, ?_, ?_, ?_, trivial⟩ ?_
          · first | exact g70_ | (rw [b4w]; exact g4w) | (rw [b4c, if_neg (by omega)]; exact g4r)
          · exact tk50_
          · omega
          · first | exact T70_ | exact T50_
          · omega
    · rintro tk_ S_ hI_ hF_ ⟨g73_, tk73_, tb73_, T73_, -⟩ hm_
      have le0_ := rg_le ht_ hx_
      have hn1_ := ht_.1
      have hM16_ := hT_.2.1
      have t73_ := rtab_fr ht_ hF_ rfl rfl rfl rfl rfl
      refine sm_T_go 1 (c1 := (74, [some (.inr (.inr (some (13, 0)))), some (.inl tk_), none], [.inr (.inr (some (13, 0)))], S_)) rfl ?_
      refine sm_T_cal (d1 := 2) (Q1 := vq_297 b_ n_ T_ (z_b4 b_ n_ N_ M_ q_) S_) rfl rfl (by decide) (vc_297 b_ n_ T_ (z_b4 b_ n_ N_ M_ q_) S_ hI_ (by exact t73_) (by exact g73_) (by (intro r_ e_; have z_ := (b3_r (b4_r e_).1).2; omega))) (fun u_ Sx1_ px4_ => ?_)
      obtain ⟨rfl, hIx2_, hFx3_, px4_⟩ := px4_
      have hFx5_ : ai_fr (sx_W vw_339) S0_ Sx1_ := ai_fr_tr hF_ (fr_le hFx3_ rfl)
      have t74_ := rtab_fr t73_ hFx3_ rfl rfl rfl rfl rfl
      have g74_ : rg b_ n_ T_ (pb (z_b5 b_ n_ N_ M_ q_) fun a_ => .inr a_.2) Sx1_ := rg_pb (z_ := (z_b4 b_ n_ N_ M_ q_)) (ps_ := fun a_ => a_) (g_ := p_ad b_ n_) (by rw [pb_id]; exact px4_.1) (fun a_ _ => by rw [pb_as]; exact pb_id.symm)
      have T74_ := rT_fr T73_ hFx3_ rfl rfl rfl rfl rfl rfl rfl rfl rfl rfl rfl rfl rfl
      refine sm_T_go 2 (c1 := (80, [some (.inr (.inr (some (13, 0)))), some (.inl tk_), none], [.inl 123, .inr (.inr (some (13, 0)))], Sx1_)) rfl ?_
      refine sm_T_cal (d1 := 3) (Q1 := vq_300 123 b_ n_ T_ (pb (z_b5 b_ n_ N_ M_ q_) fun a_ => .inr a_.2) Sx1_) rfl rfl (by decide) (vc_300 123 b_ n_ T_ (pb (z_b5 b_ n_ N_ M_ q_) fun a_ => .inr a_.2) Sx1_ hIx2_ (by exact t74_) (by exact g74_) (by decide)) (fun u_ Sx6_ px9_ => ?_)
      obtain ⟨rfl, hIx7_, hFx8_, px9_⟩ := px9_
      have hFx10_ : ai_fr (sx_W vw_339) S0_ Sx6_ := ai_fr_tr hFx5_ (fr_le hFx8_ rfl)
      have t80_ := rtab_fr t74_ hFx8_ rfl rfl rfl rfl rfl
      have g80_ : rg b_ n_ T_ (pb (z_b6 b_ n_ N_ M_ q_) fun a_ => .inr a_.2) Sx6_ := rg_pb px9_ (fun a_ _ => by rw [pb_as]; exact pb_id.symm)
      have T80_ := rT_fr T74_ hFx8_ rfl rfl rfl rfl rfl rfl rfl rfl rfl rfl rfl rfl rfl
      have ms80_ := T80_.1
      have iM_ : M_ ≤ 15 → (Sx6_.1 13 0 12 % 16).toNat = M_ := by omega
      have T80x : rT b_ n_ T_ A_ N_ M_ (sm_pI Sx6_ 13 0 28 (Sx6_.1 13 0 12 % 16)) := rT_fr (w_ := ([(13, 28)], [], [])) T80_ (ai_fr_pI rfl) rfl rfl rfl rfl rfl rfl rfl rfl rfl rfl rfl rfl rfl
      have bx11_ : 0 ≤ Sx6_.1 13 0 12 ∧ Sx6_.1 13 0 12 ≤ 16 := hIx7_.1 13 0 12 rfl
      refine sm_T_go 3 (c1 := (89, [some (.inr (.inr (some (13, 0)))), some (.inl tk_), none], [.inl 16, .inl (Sx6_.1 13 0 12)], Sx6_)) rfl ?_
      refine sm_T_bin (w := ((Sx6_.1 13 0 12) % 16)) rfl (bi_rem (by omega) (by omega) (by omega) (by omega)) ?_
      have hIx12_ : gi (sm_pI Sx6_ 13 0 28 ((Sx6_.1 13 0 12) % 16)) := gi_pI hIx7_ (show 0 ≤ ((Sx6_.1 13 0 12) % 16) ∧ ((Sx6_.1 13 0 12) % 16) ≤ 15 from ⟨by omega, by omega⟩)
      have hFx13_ : ai_fr (sx_W vw_339) S0_ (sm_pI Sx6_ 13 0 28 ((Sx6_.1 13 0 12) % 16)) := ai_fr_tr hFx10_ (ai_fr_pI rfl)
      refine sm_T_go 5 (c1 := (97, [some (.inr (.inr (some (13, 0)))), some (.inl tk_), some (.inl ((Sx6_.1 13 0 12) % 16))], [.inr (.inr (some (13, 0)))], sm_pI Sx6_ 13 0 28 ((Sx6_.1 13 0 12) % 16))) rfl ?_
      refine sm_T_cal (d1 := 0) (Q1 := vq_292  (sm_pI Sx6_ 13 0 28 ((Sx6_.1 13 0 12) % 16))) rfl rfl (by decide) (vc_292  (sm_pI Sx6_ 13 0 28 ((Sx6_.1 13 0 12) % 16)) hIx12_ ) (fun u_ Sx14_ px17_ => ?_)
      obtain ⟨rfl, vx19_, rfl, px17_⟩ := px17_
      have e97_ := px17_
      refine sm_T_b0 (a := 0) (z := 55) rfl (fun cx20_ => ?_) (fun cx20_ => ?_)
      · have cx20_ : vx19_ = 0 := of_decide_eq_true cx20_
        have hz_ := wr_if e97_ (by omega)
        obtain ⟨e5_, he5_⟩ := rg_wr g80_ hz_
        have xw_ : X_ = .inl e5_ := by rw [hX_, bm_eq, he5_]; rfl
        have g6w := g80_
        rw [he5_] at g6w
        refine sm_T_go 0 (c1 := (155, [some (.inr (.inr (some (13, 0)))), some (.inl tk_), some (.inl ((Sx6_.1 13 0 12) % 16))], [], sm_pI Sx6_ 13 0 28 ((Sx6_.1 13 0 12) % 16))) rfl ?_
        refine sm_T_wk [some (.inr (.inr (some (13, 0)))), none, some (.inl ((Sx6_.1 13 0 12) % 16))] (by exact ⟨rfl, rfl, trivial⟩) ?_
        refine ih_.2.2 ((Sx6_.1 13 0 12) % 16) (sm_pI Sx6_ 13 0 28 ((Sx6_.1 13 0 12) % 16)) hIx12_ hFx13_ ⟨?_, ?_, ?_, trivial⟩ ?_
        · omega
        · first | exact ms80_ | exact T80x.1
        · first | (left; exact ⟨e5_, xw_, g6w⟩) | (right; exact ⟨by omega, m15_, by show _ % 16 = (M_ : Int); omega, bm_L T80x rt6_ m15_ xr (by omega) g6r (by omega) (fun j_ => by (try simp only [rd_eq, rd_ne, rf_eq, rf_nk, rf_nt, rd_fa, rd_af, rd_fl, rd_al, rd_lf, rd_la, rd_leq, rd_lne, rd_fr, rd_ar, ne_eq, Nat.reduceEqDiff, not_false_eq_true]); (try simp only [iM2_]); (repeat' split); all_goals omega) (fun j_ => by (try simp only [rd_eq, rd_ne, rf_eq, rf_nk, rf_nt, rd_fa, rd_af, rd_fl, rd_al, rd_lf, rd_la, rd_leq, rd_lne, rd_fr, rd_ar, ne_eq, Nat.reduceEqDiff, not_false_eq_true]); (try simp only [iM2_]); (repeat' split); all_goals omega) (fun j_ => by (try simp only [rd_eq, rd_ne, rf_eq, rf_nk, rf_nt, rd_fa, rd_af, rd_fl, rd_al, rd_lf, rd_la, rd_leq, rd_lne, rd_fr, rd_ar, ne_eq, Nat.reduceEqDiff, not_false_eq_true]); (try simp only [iM2_]); (repeat' split); all_goals omega) (fun j_ => by (try simp only [rd_eq, rd_ne, rf_eq, rf_nk, rf_nt, rd_fa, rd_af, rd_fl, rd_al, rd_lf, rd_la, rd_leq, rd_lne, rd_fr, rd_ar, ne_eq, Nat.reduceEqDiff, not_false_eq_true]); (try simp only [iM2_]); (repeat' split); all_goals omega) (fun j_ => by (try simp only [rd_eq, rd_ne, rf_eq, rf_nk, rf_nt, rd_fa, rd_af, rd_fl, rd_al, rd_lf, rd_la, rd_leq, rd_lne, rd_fr, rd_ar, ne_eq, Nat.reduceEqDiff, not_false_eq_true]); (try simp only [iM2_]); (repeat' split); all_goals omega) (fun j_ => by (try simp only [rd_eq, rd_ne, rf_eq, rf_nk, rf_nt, rd_fa, rd_af, rd_fl, rd_al, rd_lf, rd_la, rd_leq, rd_lne, rd_fr, rd_ar, ne_eq, Nat.reduceEqDiff, not_false_eq_true]); (try simp only [iM2_]); (repeat' split); all_goals omega) rfl rfl rfl rfl rfl (fun j_ => by (try simp only [rd_eq, rd_ne, rf_eq, rf_nk, rf_nt, rd_fa, rd_af, rd_fl, rd_al, rd_lf, rd_la, rd_leq, rd_lne, rd_fr, rd_ar, ne_eq, Nat.reduceEqDiff, not_false_eq_true]); (try simp only [iM2_]); (repeat' split); all_goals omega) b6_.2.2.2.2⟩)
        · exact Nat.lt_of_le_of_lt (rms_b hIx12_) (by omega)
      · have cx20_ : ¬ (vx19_ = 0) := of_decide_eq_false cx20_
        have hz_ := rt_if e97_ (by omega)
        obtain ⟨a6_, ha6_⟩ := rg_rt g80_ hz_
        have b6_ := b6_r le0_.1 ha6_
        have b4_ := b4_r b6_.1
        have m15_ : M_ ≤ 15 := by have := b4_.2; omega
        have iM2_ := iM_ m15_
        have rt6_ := tk73_ a6_.1 (b3_r b4_.1).1
        have g6r := rg_at g80_ ha6_
        have b63_ := b6_.2.2.1
        have xr : X_ = p_dl b_ n_ f_ (a_bm A_ M_) (n_up N_ M_ a6_.1) M_ mc c_ a6_.2 := by rw [hX_, bm_eq, ha6_]; rfl
        refine sm_T_go 4 (c1 := (109, [some (.inr (.inr (some (13, 0)))), some (.inl tk_), some (.inl ((Sx6_.1 13 0 12) % 16))], [.inl tk_, .inl ((Sx6_.1 13 0 12) % 16), .inr (.inr (some (124, 0)))], sm_pI Sx6_ 13 0 28 ((Sx6_.1 13 0 12) % 16))) rfl ?_
        refine sm_T_iast (n := 16) rfl rfl (by omega) (by omega) ?_
        have hIx21_ : gi (sm_aI (sm_pI Sx6_ 13 0 28 ((Sx6_.1 13 0 12) % 16)) 124 0 ((Sx6_.1 13 0 12) % 16).toNat tk_) := gi_aI hIx12_ (show 0 ≤ tk_ ∧ tk_ ≤ 1280 from ⟨by omega, by omega⟩)
        have hFx22_ : ai_fr (sx_W vw_339) S0_ (sm_aI (sm_pI Sx6_ 13 0 28 ((Sx6_.1 13 0 12) % 16)) 124 0 ((Sx6_.1 13 0 12) % 16).toNat tk_) := ai_fr_tr hFx13_ (ai_fr_aI rfl)
        have bx23_ : 0 ≤ Sx6_.1 13 0 9 ∧ Sx6_.1 13 0 9 ≤ 1280 := hIx7_.1 13 0 9 rfl
        refine sm_T_go 5 (c1 := (119, [some (.inr (.inr (some (13, 0)))), some (.inl tk_), some (.inl ((Sx6_.1 13 0 12) % 16))], [.inl (Sx6_.1 13 0 9), .inl ((Sx6_.1 13 0 12) % 16), .inr (.inr (some (125, 0)))], sm_aI (sm_pI Sx6_ 13 0 28 ((Sx6_.1 13 0 12) % 16)) 124 0 ((Sx6_.1 13 0 12) % 16).toNat tk_)) rfl ?_
        refine sm_T_iast (n := 16) rfl rfl (by omega) (by omega) ?_
        have hIx24_ : gi (sm_aI (sm_aI (sm_pI Sx6_ 13 0 28 ((Sx6_.1 13 0 12) % 16)) 124 0 ((Sx6_.1 13 0 12) % 16).toNat tk_) 125 0 ((Sx6_.1 13 0 12) % 16).toNat (Sx6_.1 13 0 9)) := gi_aI hIx21_ (show 0 ≤ (Sx6_.1 13 0 9) ∧ (Sx6_.1 13 0 9) ≤ 1280 from ⟨by omega, by omega⟩)
        have hFx25_ : ai_fr (sx_W vw_339) S0_ (sm_aI (sm_aI (sm_pI Sx6_ 13 0 28 ((Sx6_.1 13 0 12) % 16)) 124 0 ((Sx6_.1 13 0 12) % 16).toNat tk_) 125 0 ((Sx6_.1 13 0 12) % 16).toNat (Sx6_.1 13 0 9)) := ai_fr_tr hFx22_ (ai_fr_aI rfl)
        refine sm_T_go 4 (c1 := (126, [some (.inr (.inr (some (13, 0)))), some (.inl tk_), some (.inl ((Sx6_.1 13 0 12) % 16))], [.inl 0, .inl ((Sx6_.1 13 0 12) % 16), .inr (.inr (some (126, 0)))], sm_aI (sm_aI (sm_pI Sx6_ 13 0 28 ((Sx6_.1 13 0 12) % 16)) 124 0 ((Sx6_.1 13 0 12) % 16).toNat tk_) 125 0 ((Sx6_.1 13 0 12) % 16).toNat (Sx6_.1 13 0 9))) rfl ?_
        refine sm_T_iast (n := 16) rfl rfl (by omega) (by omega) ?_
        have hIx26_ : gi (sm_aI (sm_aI (sm_aI (sm_pI Sx6_ 13 0 28 ((Sx6_.1 13 0 12) % 16)) 124 0 ((Sx6_.1 13 0 12) % 16).toNat tk_) 125 0 ((Sx6_.1 13 0 12) % 16).toNat (Sx6_.1 13 0 9)) 126 0 ((Sx6_.1 13 0 12) % 16).toNat 0) := gi_aI hIx24_ (show 0 ≤ 0 ∧ 0 ≤ 40 from ⟨by omega, by omega⟩)
        have hFx27_ : ai_fr (sx_W vw_339) S0_ (sm_aI (sm_aI (sm_aI (sm_pI Sx6_ 13 0 28 ((Sx6_.1 13 0 12) % 16)) 124 0 ((Sx6_.1 13 0 12) % 16).toNat tk_) 125 0 ((Sx6_.1 13 0 12) % 16).toNat (Sx6_.1 13 0 9)) 126 0 ((Sx6_.1 13 0 12) % 16).toNat 0) := ai_fr_tr hFx25_ (ai_fr_aI rfl)
        refine sm_T_go 4 (c1 := (133, [some (.inr (.inr (some (13, 0)))), some (.inl tk_), some (.inl ((Sx6_.1 13 0 12) % 16))], [.inl 0, .inl ((Sx6_.1 13 0 12) % 16), .inr (.inr (some (132, 0)))], sm_aI (sm_aI (sm_aI (sm_pI Sx6_ 13 0 28 ((Sx6_.1 13 0 12) % 16)) 124 0 ((Sx6_.1 13 0 12) % 16).toNat tk_) 125 0 ((Sx6_.1 13 0 12) % 16).toNat (Sx6_.1 13 0 9)) 126 0 ((Sx6_.1 13 0 12) % 16).toNat 0)) rfl ?_
        refine sm_T_iast (n := 16) rfl rfl (by omega) (by omega) ?_
        have hIx28_ : gi (sm_aI (sm_aI (sm_aI (sm_aI (sm_pI Sx6_ 13 0 28 ((Sx6_.1 13 0 12) % 16)) 124 0 ((Sx6_.1 13 0 12) % 16).toNat tk_) 125 0 ((Sx6_.1 13 0 12) % 16).toNat (Sx6_.1 13 0 9)) 126 0 ((Sx6_.1 13 0 12) % 16).toNat 0) 132 0 ((Sx6_.1 13 0 12) % 16).toNat 0) := gi_aI hIx26_ (show 0 ≤ 0 ∧ 0 ≤ 320 from ⟨by omega, by omega⟩)
        have hFx29_ : ai_fr (sx_W vw_339) S0_ (sm_aI (sm_aI (sm_aI (sm_aI (sm_pI Sx6_ 13 0 28 ((Sx6_.1 13 0 12) % 16)) 124 0 ((Sx6_.1 13 0 12) % 16).toNat tk_) 125 0 ((Sx6_.1 13 0 12) % 16).toNat (Sx6_.1 13 0 9)) 126 0 ((Sx6_.1 13 0 12) % 16).toNat 0) 132 0 ((Sx6_.1 13 0 12) % 16).toNat 0) := ai_fr_tr hFx27_ (ai_fr_aI rfl)
        refine sm_T_go 4 (c1 := (140, [some (.inr (.inr (some (13, 0)))), some (.inl tk_), some (.inl ((Sx6_.1 13 0 12) % 16))], [.inl 0, .inl ((Sx6_.1 13 0 12) % 16), .inr (.inr (some (133, 0)))], sm_aI (sm_aI (sm_aI (sm_aI (sm_pI Sx6_ 13 0 28 ((Sx6_.1 13 0 12) % 16)) 124 0 ((Sx6_.1 13 0 12) % 16).toNat tk_) 125 0 ((Sx6_.1 13 0 12) % 16).toNat (Sx6_.1 13 0 9)) 126 0 ((Sx6_.1 13 0 12) % 16).toNat 0) 132 0 ((Sx6_.1 13 0 12) % 16).toNat 0)) rfl ?_
        refine sm_T_iast (n := 16) rfl rfl (by omega) (by omega) ?_
        have hIx30_ : gi (sm_aI (sm_aI (sm_aI (sm_aI (sm_aI (sm_pI Sx6_ 13 0 28 ((Sx6_.1 13 0 12) % 16)) 124 0 ((Sx6_.1 13 0 12) % 16).toNat tk_) 125 0 ((Sx6_.1 13 0 12) % 16).toNat (Sx6_.1 13 0 9)) 126 0 ((Sx6_.1 13 0 12) % 16).toNat 0) 132 0 ((Sx6_.1 13 0 12) % 16).toNat 0) 133 0 ((Sx6_.1 13 0 12) % 16).toNat 0) := gi_aI hIx28_ (show 0 ≤ 0 ∧ 0 ≤ 320 from ⟨by omega, by omega⟩)
        have hFx31_ : ai_fr (sx_W vw_339) S0_ (sm_aI (sm_aI (sm_aI (sm_aI (sm_aI (sm_pI Sx6_ 13 0 28 ((Sx6_.1 13 0 12) % 16)) 124 0 ((Sx6_.1 13 0 12) % 16).toNat tk_) 125 0 ((Sx6_.1 13 0 12) % 16).toNat (Sx6_.1 13 0 9)) 126 0 ((Sx6_.1 13 0 12) % 16).toNat 0) 132 0 ((Sx6_.1 13 0 12) % 16).toNat 0) 133 0 ((Sx6_.1 13 0 12) % 16).toNat 0) := ai_fr_tr hFx29_ (ai_fr_aI rfl)
        refine sm_T_go 4 (c1 := (147, [some (.inr (.inr (some (13, 0)))), some (.inl tk_), some (.inl ((Sx6_.1 13 0 12) % 16))], [.inl 0, .inl ((Sx6_.1 13 0 12) % 16), .inr (.inr (some (134, 0)))], sm_aI (sm_aI (sm_aI (sm_aI (sm_aI (sm_pI Sx6_ 13 0 28 ((Sx6_.1 13 0 12) % 16)) 124 0 ((Sx6_.1 13 0 12) % 16).toNat tk_) 125 0 ((Sx6_.1 13 0 12) % 16).toNat (Sx6_.1 13 0 9)) 126 0 ((Sx6_.1 13 0 12) % 16).toNat 0) 132 0 ((Sx6_.1 13 0 12) % 16).toNat 0) 133 0 ((Sx6_.1 13 0 12) % 16).toNat 0)) rfl ?_
        refine sm_T_iast (n := 16) rfl rfl (by omega) (by omega) ?_
        have hIx32_ : gi (sm_aI (sm_aI (sm_aI (sm_aI (sm_aI (sm_aI (sm_pI Sx6_ 13 0 28 ((Sx6_.1 13 0 12) % 16)) 124 0 ((Sx6_.1 13 0 12) % 16).toNat tk_) 125 0 ((Sx6_.1 13 0 12) % 16).toNat (Sx6_.1 13 0 9)) 126 0 ((Sx6_.1 13 0 12) % 16).toNat 0) 132 0 ((Sx6_.1 13 0 12) % 16).toNat 0) 133 0 ((Sx6_.1 13 0 12) % 16).toNat 0) 134 0 ((Sx6_.1 13 0 12) % 16).toNat 0) := gi_aI hIx30_ (show 0 ≤ 0 ∧ 0 ≤ 1073741823 from ⟨by omega, by omega⟩)
        have hFx33_ : ai_fr (sx_W vw_339) S0_ (sm_aI (sm_aI (sm_aI (sm_aI (sm_aI (sm_aI (sm_pI Sx6_ 13 0 28 ((Sx6_.1 13 0 12) % 16)) 124 0 ((Sx6_.1 13 0 12) % 16).toNat tk_) 125 0 ((Sx6_.1 13 0 12) % 16).toNat (Sx6_.1 13 0 9)) 126 0 ((Sx6_.1 13 0 12) % 16).toNat 0) 132 0 ((Sx6_.1 13 0 12) % 16).toNat 0) 133 0 ((Sx6_.1 13 0 12) % 16).toNat 0) 134 0 ((Sx6_.1 13 0 12) % 16).toNat 0) := ai_fr_tr hFx31_ (ai_fr_aI rfl)
        refine sm_T_go 4 (c1 := (154, [some (.inr (.inr (some (13, 0)))), some (.inl tk_), some (.inl ((Sx6_.1 13 0 12) % 16))], [.inl 0, .inl ((Sx6_.1 13 0 12) % 16), .inr (.inr (some (135, 0)))], sm_aI (sm_aI (sm_aI (sm_aI (sm_aI (sm_aI (sm_pI Sx6_ 13 0 28 ((Sx6_.1 13 0 12) % 16)) 124 0 ((Sx6_.1 13 0 12) % 16).toNat tk_) 125 0 ((Sx6_.1 13 0 12) % 16).toNat (Sx6_.1 13 0 9)) 126 0 ((Sx6_.1 13 0 12) % 16).toNat 0) 132 0 ((Sx6_.1 13 0 12) % 16).toNat 0) 133 0 ((Sx6_.1 13 0 12) % 16).toNat 0) 134 0 ((Sx6_.1 13 0 12) % 16).toNat 0)) rfl ?_
        refine sm_T_iast (n := 16) rfl rfl (by omega) (by omega) ?_
        have hIx34_ : gi (sm_aI (sm_aI (sm_aI (sm_aI (sm_aI (sm_aI (sm_aI (sm_pI Sx6_ 13 0 28 ((Sx6_.1 13 0 12) % 16)) 124 0 ((Sx6_.1 13 0 12) % 16).toNat tk_) 125 0 ((Sx6_.1 13 0 12) % 16).toNat (Sx6_.1 13 0 9)) 126 0 ((Sx6_.1 13 0 12) % 16).toNat 0) 132 0 ((Sx6_.1 13 0 12) % 16).toNat 0) 133 0 ((Sx6_.1 13 0 12) % 16).toNat 0) 134 0 ((Sx6_.1 13 0 12) % 16).toNat 0) 135 0 ((Sx6_.1 13 0 12) % 16).toNat 0) := gi_aI hIx32_ (show 0 ≤ 0 ∧ 0 ≤ 1073741823 from ⟨by omega, by omega⟩)
        have hFx35_ : ai_fr (sx_W vw_339) S0_ (sm_aI (sm_aI (sm_aI (sm_aI (sm_aI (sm_aI (sm_aI (sm_pI Sx6_ 13 0 28 ((Sx6_.1 13 0 12) % 16)) 124 0 ((Sx6_.1 13 0 12) % 16).toNat tk_) 125 0 ((Sx6_.1 13 0 12) % 16).toNat (Sx6_.1 13 0 9)) 126 0 ((Sx6_.1 13 0 12) % 16).toNat 0) 132 0 ((Sx6_.1 13 0 12) % 16).toNat 0) 133 0 ((Sx6_.1 13 0 12) % 16).toNat 0) 134 0 ((Sx6_.1 13 0 12) % 16).toNat 0) 135 0 ((Sx6_.1 13 0 12) % 16).toNat 0) := ai_fr_tr hFx33_ (ai_fr_aI rfl)
        refine sm_T_go 0 (c1 := (155, [some (.inr (.inr (some (13, 0)))), some (.inl tk_), some (.inl ((Sx6_.1 13 0 12) % 16))], [], sm_aI (sm_aI (sm_aI (sm_aI (sm_aI (sm_aI (sm_aI (sm_pI Sx6_ 13 0 28 ((Sx6_.1 13 0 12) % 16)) 124 0 ((Sx6_.1 13 0 12) % 16).toNat tk_) 125 0 ((Sx6_.1 13 0 12) % 16).toNat (Sx6_.1 13 0 9)) 126 0 ((Sx6_.1 13 0 12) % 16).toNat 0) 132 0 ((Sx6_.1 13 0 12) % 16).toNat 0) 133 0 ((Sx6_.1 13 0 12) % 16).toNat 0) 134 0 ((Sx6_.1 13 0 12) % 16).toNat 0) 135 0 ((Sx6_.1 13 0 12) % 16).toNat 0)) rfl ?_
        refine sm_T_wk [some (.inr (.inr (some (13, 0)))), none, some (.inl ((Sx6_.1 13 0 12) % 16))] (by exact ⟨rfl, rfl, trivial⟩) ?_
        refine ih_.2.2 ((Sx6_.1 13 0 12) % 16) (sm_aI (sm_aI (sm_aI (sm_aI (sm_aI (sm_aI (sm_aI (sm_pI Sx6_ 13 0 28 ((Sx6_.1 13 0 12) % 16)) 124 0 ((Sx6_.1 13 0 12) % 16).toNat tk_) 125 0 ((Sx6_.1 13 0 12) % 16).toNat (Sx6_.1 13 0 9)) 126 0 ((Sx6_.1 13 0 12) % 16).toNat 0) 132 0 ((Sx6_.1 13 0 12) % 16).toNat 0) 133 0 ((Sx6_.1 13 0 12) % 16).toNat 0) 134 0 ((Sx6_.1 13 0 12) % 16).toNat 0) 135 0 ((Sx6_.1 13 0 12) % 16).toNat 0) hIx34_ hFx35_ ⟨?_, ?_, ?_, trivial⟩ ?_
        · omega
        · first | exact ms80_ | exact T80x.1
        · first | (left; exact ⟨e5_, xw_, g6w⟩) | (right; exact ⟨by omega, m15_, by show _ % 16 = (M_ : Int); omega, bm_L T80x rt6_ m15_ xr (by omega) g6r (by omega) (fun j_ => by (try simp only [rd_eq, rd_ne, rf_eq, rf_nk, rf_nt, rd_fa, rd_af, rd_fl, rd_al, rd_lf, rd_la, rd_leq, rd_lne, rd_fr, rd_ar, ne_eq, Nat.reduceEqDiff, not_false_eq_true]); (try simp only [iM2_]); (repeat' split); all_goals omega) (fun j_ => by (try simp only [rd_eq, rd_ne, rf_eq, rf_nk, rf_nt, rd_fa, rd_af, rd_fl, rd_al, rd_lf, rd_la, rd_leq, rd_lne, rd_fr, rd_ar, ne_eq, Nat.reduceEqDiff, not_false_eq_true]); (try simp only [iM2_]); (repeat' split); all_goals omega) (fun j_ => by (try simp only [rd_eq, rd_ne, rf_eq, rf_nk, rf_nt, rd_fa, rd_af, rd_fl, rd_al, rd_lf, rd_la, rd_leq, rd_lne, rd_fr, rd_ar, ne_eq, Nat.reduceEqDiff, not_false_eq_true]); (try simp only [iM2_]); (repeat' split); all_goals omega) (fun j_ => by (try simp only [rd_eq, rd_ne, rf_eq, rf_nk, rf_nt, rd_fa, rd_af, rd_fl, rd_al, rd_lf, rd_la, rd_leq, rd_lne, rd_fr, rd_ar, ne_eq, Nat.reduceEqDiff, not_false_eq_true]); (try simp only [iM2_]); (repeat' split); all_goals omega) (fun j_ => by (try simp only [rd_eq, rd_ne, rf_eq, rf_nk, rf_nt, rd_fa, rd_af, rd_fl, rd_al, rd_lf, rd_la, rd_leq, rd_lne, rd_fr, rd_ar, ne_eq, Nat.reduceEqDiff, not_false_eq_true]); (try simp only [iM2_]); (repeat' split); all_goals omega) (fun j_ => by (try simp only [rd_eq, rd_ne, rf_eq, rf_nk, rf_nt, rd_fa, rd_af, rd_fl, rd_al, rd_lf, rd_la, rd_leq, rd_lne, rd_fr, rd_ar, ne_eq, Nat.reduceEqDiff, not_false_eq_true]); (try simp only [iM2_]); (repeat' split); all_goals omega) rfl rfl rfl rfl rfl (fun j_ => by (try simp only [rd_eq, rd_ne, rf_eq, rf_nk, rf_nt, rd_fa, rd_af, rd_fl, rd_al, rd_lf, rd_la, rd_leq, rd_lne, rd_fr, rd_ar, ne_eq, Nat.reduceEqDiff, not_false_eq_true]); (try simp only [iM2_]); (repeat' split); all_goals omega) b6_.2.2.2.2⟩)
        · exact Nat.lt_of_le_of_lt (rms_b hIx34_) (by omega)
    · rintro k2_ S_ hI_ hF_ ⟨kb_, ms155_, h1_, -⟩ hm_
      have le0_ := rg_le ht_ hx_
      have hn1_ := ht_.1
      have hM16_ := hT_.2.1
      have ms0_ := hT_.1
      have tt_ := rtab_fr ht_ hF_ rfl rfl rfl rfl rfl
      have mo9_ := (hF_.1 13 0 27 rfl).trans hmo_
      refine sm_T_go 1 (c1 := (156, [some (.inr (.inr (some (13, 0)))), none, some (.inl k2_)], [.inr (.inr (some (13, 0)))], S_)) rfl ?_
      refine sm_T_cal (d1 := 0) (Q1 := vq_292  S_) rfl rfl (by decide) (vc_292  S_ hI_ ) (fun u_ Sx1_ px4_ => ?_)
      obtain ⟨rfl, vx6_, rfl, px4_⟩ := px4_
      have e156_ := px4_
      refine sm_T_b0 (a := 0) (z := 20) rfl (fun cx7_ => ?_) (fun cx7_ => ?_)
      · have cx7_ : vx6_ = 0 := of_decide_eq_true cx7_
        have hz_ := wr_if e156_ (by omega)
        have hw_ : rX b_ n_ T_ X_ S_ := by rcases h1_ with z_ | ⟨z1_, z2_, z3_, f1_, A1_, N1_, mc1_, c1_, p1_, y1_, y2_, y3_, y4_⟩; exact z_; (exact absurd y3_.1 hz_)
        obtain ⟨e5_, he5_, ge5_⟩ := hw_
        obtain ⟨x9_, hx9_, hx9b⟩ : ∃ x9_ : pE Nat, rg b_ n_ T_ x9_ S_ ∧ x9_ = .inl e5_ := ⟨_, ge5_, rfl⟩
        refine sm_T_go 2 (c1 := (182, [some (.inr (.inr (some (13, 0)))), none, some (.inl k2_)], [.inl 125, .inr (.inr (some (13, 0)))], S_)) rfl ?_
        refine sm_T_cal (d1 := 3) (Q1 := vq_300 125 b_ n_ T_ x9_ S_) rfl rfl (by decide) (vc_300 125 b_ n_ T_ x9_ S_ hI_ (by exact tt_) (by exact hx9_) (by decide)) (fun u_ Sx8_ px11_ => ?_)
        obtain ⟨rfl, hIx9_, hFx10_, px11_⟩ := px11_
        have hFx12_ : ai_fr (sx_W vw_339) S0_ Sx8_ := ai_fr_tr hF_ (fr_le hFx10_ rfl)
        have g182_ := px11_
        rw [hx9b] at g182_
        have f182_ := hFx10_
        have ms182_ := (hFx10_.1 13 0 12 rfl).trans ms155_
        have bx13_ : 0 ≤ Sx8_.1 13 0 12 ∧ Sx8_.1 13 0 12 ≤ 16 := hIx9_.1 13 0 12 rfl
        refine sm_T_go 4 (c1 := (191, [some (.inr (.inr (some (13, 0)))), none, some (.inl k2_)], [.inr (.inr (some (13, 0))), .inl (Sx8_.1 13 0 12), .inr (.inr (some (13, 0)))], Sx8_)) rfl ?_
        refine sm_T_cal (d1 := 0) (Q1 := vq_292  Sx8_) rfl rfl (by decide) (vc_292  Sx8_ hIx9_ ) (fun u_ Sx14_ px17_ => ?_)
        obtain ⟨rfl, vx19_, rfl, px17_⟩ := px17_
        have e191_ := px17_
        refine sm_T_b0 (a := 0) (z := 7) rfl (fun cx20_ => ?_) (fun cx20_ => ?_)
        · have cx20_ : vx19_ = 0 := of_decide_eq_true cx20_
          have hz9_ := wr_if e191_ (by omega)
          refine sm_T_go 1 (c1 := (202, [some (.inr (.inr (some (13, 0)))), none, some (.inl k2_)], [.inl 0, .inl (Sx8_.1 13 0 12), .inr (.inr (some (13, 0)))], Sx8_)) rfl ?_
          refine sm_T_bin (w := (Sx8_.1 13 0 12)) rfl (bi_add (by omega) (by omega) (by omega)) ?_
          have hIx21_ : gi (sm_pI Sx8_ 13 0 12 (Sx8_.1 13 0 12)) := gi_pI hIx9_ (show 0 ≤ (Sx8_.1 13 0 12) ∧ (Sx8_.1 13 0 12) ≤ 16 from ⟨by omega, by omega⟩)
          have hFx22_ : ai_fr (sx_W vw_339) S0_ (sm_pI Sx8_ 13 0 12 (Sx8_.1 13 0 12)) := ai_fr_tr hFx12_ (ai_fr_pI rfl)
          refine sm_T_go 1 (c1 := (206, [some (.inr (.inr (some (13, 0)))), none, some (.inl k2_)], [], sm_pI Sx8_ 13 0 12 (Sx8_.1 13 0 12))) rfl ?_
          refine sm_T_rv rfl ⟨_, _, rfl, rfl, hIx21_, hFx22_, ?_⟩
          first | (refine ⟨Or.inl ⟨e5_, he5_, g182_⟩, fun z_ => ?_⟩; first | (exact absurd z_ hz9_) | (exact absurd (g182_.1.symm.trans z_) g182_.2.2)) | (cases hq_ : p_nd b_ n_ 125 p1_ with | inl e_ => (have g182_ : rg b_ n_ T_ (p_nd b_ n_ 125 p1_) _ := g182_; rw [hq_] at g182_; refine ⟨Or.inl ⟨e_, by rw [hX1_, hq_]; rfl, g182_⟩, fun z_ => ?_⟩; first | (exact absurd z_ hz9_) | (exact absurd (g182_.1.symm.trans z_) g182_.2.2)) | inr q2_ => (have g182_ : rg b_ n_ T_ (p_nd b_ n_ 125 p1_) _ := g182_; rw [hq_] at g182_; first | (exact absurd g182_.1 hz9_) | (have k9_ := nd_ok le1_.1 (by decide) hq_; have k91_ := k9_.1; refine ⟨Or.inr ⟨A1_, N1_, M_ + 1, n_up mc1_ (M_ + 1) c1_.length, c1_, q2_, g182_, rT_nx a1_ (fun m_ hm_ => re1_fr (re1x m_ hm_) f182_ rfl rfl rfl rfl rfl rfl) (fun m_ hm_ => rs1_fr (rs1x m_ hm_) f182_ rfl rfl rfl rfl) (rnr_fr rn1_ f182_ rfl) (by rw [fr_arr f182_ rfl]; exact tk1_) (fun m_ hm_ => bdy_fr (bd1_ m_ hm_) f182_ rfl) (by omega), by omega, by omega, ?_⟩, fun _ => ?_⟩; (by_cases z_ : lx_kd b_ n_ q2_ = 0; (left; refine ⟨z_, ?_⟩; rw [hX1_, hq_, pb_ir, if_pos z_]); (right; refine ⟨z_, f2_, by omega, ?_⟩; rw [hX1_, hq_, pb_ir, if_neg z_])); (rw [rf_eq]; omega))))
        · have cx20_ : ¬ (vx19_ = 0) := of_decide_eq_false cx20_
          have hz9_ := rt_if e191_ (by omega)
          have mb9_ : M_ ≤ 15 := by first | exact m15_ | (exfalso; exact g182_.2.2 (g182_.1.symm.trans hz9_))
          refine sm_T_go 2 (c1 := (202, [some (.inr (.inr (some (13, 0)))), none, some (.inl k2_)], [.inl 1, .inl (Sx8_.1 13 0 12), .inr (.inr (some (13, 0)))], Sx8_)) rfl ?_
          refine sm_T_bin (w := (Sx8_.1 13 0 12) + 1) rfl (bi_add (by omega) (by omega) (by omega)) ?_
          have hIx23_ : gi (sm_pI Sx8_ 13 0 12 ((Sx8_.1 13 0 12) + 1)) := gi_pI hIx9_ (show 0 ≤ (Sx8_.1 13 0 12) + 1 ∧ (Sx8_.1 13 0 12) + 1 ≤ 16 from ⟨by omega, by omega⟩)
          have hFx24_ : ai_fr (sx_W vw_339) S0_ (sm_pI Sx8_ 13 0 12 ((Sx8_.1 13 0 12) + 1)) := ai_fr_tr hFx12_ (ai_fr_pI rfl)
          refine sm_T_go 1 (c1 := (206, [some (.inr (.inr (some (13, 0)))), none, some (.inl k2_)], [], sm_pI Sx8_ 13 0 12 ((Sx8_.1 13 0 12) + 1))) rfl ?_
          refine sm_T_rv rfl ⟨_, _, rfl, rfl, hIx23_, hFx24_, ?_⟩
          first | (refine ⟨Or.inl ⟨e5_, he5_, g182_⟩, fun z_ => ?_⟩; first | (exact absurd z_ hz9_) | (exact absurd (g182_.1.symm.trans z_) g182_.2.2)) | (cases hq_ : p_nd b_ n_ 125 p1_ with | inl e_ => (have g182_ : rg b_ n_ T_ (p_nd b_ n_ 125 p1_) _ := g182_; rw [hq_] at g182_; refine ⟨Or.inl ⟨e_, by rw [hX1_, hq_]; rfl, g182_⟩, fun z_ => ?_⟩; first | (exact absurd z_ hz9_) | (exact absurd (g182_.1.symm.trans z_) g182_.2.2)) | inr q2_ => (have g182_ : rg b_ n_ T_ (p_nd b_ n_ 125 p1_) _ := g182_; rw [hq_] at g182_; first | (exact absurd g182_.1 hz9_) | (have k9_ := nd_ok le1_.1 (by decide) hq_; have k91_ := k9_.1; refine ⟨Or.inr ⟨A1_, N1_, M_ + 1, n_up mc1_ (M_ + 1) c1_.length, c1_, q2_, g182_, rT_nx a1_ (fun m_ hm_ => re1_fr (re1x m_ hm_) f182_ rfl rfl rfl rfl rfl rfl) (fun m_ hm_ => rs1_fr (rs1x m_ hm_) f182_ rfl rfl rfl rfl) (rnr_fr rn1_ f182_ rfl) (by rw [fr_arr f182_ rfl]; exact tk1_) (fun m_ hm_ => bdy_fr (bd1_ m_ hm_) f182_ rfl) (by omega), by omega, by omega, ?_⟩, fun _ => ?_⟩; (by_cases z_ : lx_kd b_ n_ q2_ = 0; (left; refine ⟨z_, ?_⟩; rw [hX1_, hq_, pb_ir, if_pos z_]); (right; refine ⟨z_, f2_, by omega, ?_⟩; rw [hX1_, hq_, pb_ir, if_neg z_])); (rw [rf_eq]; omega))))
      · have cx7_ : ¬ (vx6_ = 0) := of_decide_eq_false cx7_
        have hz_ := rt_if e156_ (by omega)
        obtain ⟨k2M, m15_, md1_, f1_, A1_, N1_, mc1_, c1_, p1_, hX1_, hf1_, g1_, a1_, re1x, rs1x, rn1_, tk1_, hc1_, bd1_⟩ : k2_ = (M_ : Int) ∧ M_ ≤ 15 ∧ S_.1 13 0 28 = (M_ : Int) ∧ rL b_ n_ T_ X_ M_ S_ := by rcases h1_ with z_ | z_; (exact (rX_z z_ hz_).elim); exact z_
        have le1_ := rg_le tt_ g1_
        obtain ⟨f2_, hf2_⟩ : ∃ f2_, f1_ = f2_ + 1 := ⟨f1_ - 1, by omega⟩
        subst hf2_
        have rms1_ := rms_x (k_ := 0) tt_ g1_ (by decide)
        refine sm_T_go 2 (c1 := (165, [some (.inr (.inr (some (13, 0)))), none, some (.inl k2_)], [.inl 125, .inr (.inr (some (13, 0)))], S_)) rfl ?_
        refine sm_T_cal (d1 := 0) (Q1 := vq_295 125 b_ n_ T_ (.inr p1_) S_) rfl rfl (by decide) (vc_295 125 b_ n_ T_ (.inr p1_) S_ hI_ (by exact tt_) (by exact g1_) (by decide)) (fun u_ Sx25_ px28_ => ?_)
        obtain ⟨rfl, vx30_, rfl, px28_⟩ := px28_
        have e165_ := px28_.2 p1_ rfl
        have r165_ := px28_.1.1
        refine sm_T_b0 (a := 1) (z := 11) rfl (fun cx31_ => ?_) (fun cx31_ => ?_)
        · have cx31_ : vx30_ ≠ 0 := of_decide_eq_true cx31_
          have k125_ : lx_kd b_ n_ p1_ = 125 := e165_.mp (by omega)
          obtain ⟨x9_, hx9_, hx9b⟩ : ∃ x9_ : pE Nat, rg b_ n_ T_ x9_ S_ ∧ x9_ = .inr p1_ := ⟨_, g1_, rfl⟩
          rw [dl_e k125_] at hX1_
          refine sm_T_go 2 (c1 := (182, [some (.inr (.inr (some (13, 0)))), none, some (.inl k2_)], [.inl 125, .inr (.inr (some (13, 0)))], S_)) rfl ?_
          refine sm_T_cal (d1 := 3) (Q1 := vq_300 125 b_ n_ T_ x9_ S_) rfl rfl (by decide) (vc_300 125 b_ n_ T_ x9_ S_ hI_ (by exact tt_) (by exact hx9_) (by decide)) (fun u_ Sx32_ px35_ => ?_)
          obtain ⟨rfl, hIx33_, hFx34_, px35_⟩ := px35_
          have hFx36_ : ai_fr (sx_W vw_339) S0_ Sx32_ := ai_fr_tr hF_ (fr_le hFx34_ rfl)
          have g182_ := px35_
          rw [hx9b] at g182_
          have f182_ := hFx34_
          have ms182_ := (hFx34_.1 13 0 12 rfl).trans ms155_
          have bx37_ : 0 ≤ Sx32_.1 13 0 12 ∧ Sx32_.1 13 0 12 ≤ 16 := hIx33_.1 13 0 12 rfl
          refine sm_T_go 4 (c1 := (191, [some (.inr (.inr (some (13, 0)))), none, some (.inl k2_)], [.inr (.inr (some (13, 0))), .inl (Sx32_.1 13 0 12), .inr (.inr (some (13, 0)))], Sx32_)) rfl ?_
          refine sm_T_cal (d1 := 0) (Q1 := vq_292  Sx32_) rfl rfl (by decide) (vc_292  Sx32_ hIx33_ ) (fun u_ Sx38_ px41_ => ?_)
          obtain ⟨rfl, vx43_, rfl, px41_⟩ := px41_
          have e191_ := px41_
          refine sm_T_b0 (a := 0) (z := 7) rfl (fun cx44_ => ?_) (fun cx44_ => ?_)
          · have cx44_ : vx43_ = 0 := of_decide_eq_true cx44_
            have hz9_ := wr_if e191_ (by omega)
            refine sm_T_go 1 (c1 := (202, [some (.inr (.inr (some (13, 0)))), none, some (.inl k2_)], [.inl 0, .inl (Sx32_.1 13 0 12), .inr (.inr (some (13, 0)))], Sx32_)) rfl ?_
            refine sm_T_bin (w := (Sx32_.1 13 0 12)) rfl (bi_add (by omega) (by omega) (by omega)) ?_
            have hIx45_ : gi (sm_pI Sx32_ 13 0 12 (Sx32_.1 13 0 12)) := gi_pI hIx33_ (show 0 ≤ (Sx32_.1 13 0 12) ∧ (Sx32_.1 13 0 12) ≤ 16 from ⟨by omega, by omega⟩)
            have hFx46_ : ai_fr (sx_W vw_339) S0_ (sm_pI Sx32_ 13 0 12 (Sx32_.1 13 0 12)) := ai_fr_tr hFx36_ (ai_fr_pI rfl)
            refine sm_T_go 1 (c1 := (206, [some (.inr (.inr (some (13, 0)))), none, some (.inl k2_)], [], sm_pI Sx32_ 13 0 12 (Sx32_.1 13 0 12))) rfl ?_
            refine sm_T_rv rfl ⟨_, _, rfl, rfl, hIx45_, hFx46_, ?_⟩
            first | (refine ⟨Or.inl ⟨e5_, he5_, g182_⟩, fun z_ => ?_⟩; first | (exact absurd z_ hz9_) | (exact absurd (g182_.1.symm.trans z_) g182_.2.2)) | (cases hq_ : p_nd b_ n_ 125 p1_ with | inl e_ => (have g182_ : rg b_ n_ T_ (p_nd b_ n_ 125 p1_) _ := g182_; rw [hq_] at g182_; refine ⟨Or.inl ⟨e_, by rw [hX1_, hq_]; rfl, g182_⟩, fun z_ => ?_⟩; first | (exact absurd z_ hz9_) | (exact absurd (g182_.1.symm.trans z_) g182_.2.2)) | inr q2_ => (have g182_ : rg b_ n_ T_ (p_nd b_ n_ 125 p1_) _ := g182_; rw [hq_] at g182_; first | (exact absurd g182_.1 hz9_) | (have k9_ := nd_ok le1_.1 (by decide) hq_; have k91_ := k9_.1; refine ⟨Or.inr ⟨A1_, N1_, M_ + 1, n_up mc1_ (M_ + 1) c1_.length, c1_, q2_, g182_, rT_nx a1_ (fun m_ hm_ => re1_fr (re1x m_ hm_) f182_ rfl rfl rfl rfl rfl rfl) (fun m_ hm_ => rs1_fr (rs1x m_ hm_) f182_ rfl rfl rfl rfl) (rnr_fr rn1_ f182_ rfl) (by rw [fr_arr f182_ rfl]; exact tk1_) (fun m_ hm_ => bdy_fr (bd1_ m_ hm_) f182_ rfl) (by omega), by omega, by omega, ?_⟩, fun _ => ?_⟩; (by_cases z_ : lx_kd b_ n_ q2_ = 0; (left; refine ⟨z_, ?_⟩; rw [hX1_, hq_, pb_ir, if_pos z_]); (right; refine ⟨z_, f2_, by omega, ?_⟩; rw [hX1_, hq_, pb_ir, if_neg z_])); (rw [rf_eq]; omega))))
          · have cx44_ : ¬ (vx43_ = 0) := of_decide_eq_false cx44_
            have hz9_ := rt_if e191_ (by omega)
            have mb9_ : M_ ≤ 15 := by first | exact m15_ | (exfalso; exact g182_.2.2 (g182_.1.symm.trans hz9_))
            refine sm_T_go 2 (c1 := (202, [some (.inr (.inr (some (13, 0)))), none, some (.inl k2_)], [.inl 1, .inl (Sx32_.1 13 0 12), .inr (.inr (some (13, 0)))], Sx32_)) rfl ?_
            refine sm_T_bin (w := (Sx32_.1 13 0 12) + 1) rfl (bi_add (by omega) (by omega) (by omega)) ?_
            have hIx47_ : gi (sm_pI Sx32_ 13 0 12 ((Sx32_.1 13 0 12) + 1)) := gi_pI hIx33_ (show 0 ≤ (Sx32_.1 13 0 12) + 1 ∧ (Sx32_.1 13 0 12) + 1 ≤ 16 from ⟨by omega, by omega⟩)
            have hFx48_ : ai_fr (sx_W vw_339) S0_ (sm_pI Sx32_ 13 0 12 ((Sx32_.1 13 0 12) + 1)) := ai_fr_tr hFx36_ (ai_fr_pI rfl)
            refine sm_T_go 1 (c1 := (206, [some (.inr (.inr (some (13, 0)))), none, some (.inl k2_)], [], sm_pI Sx32_ 13 0 12 ((Sx32_.1 13 0 12) + 1))) rfl ?_
            refine sm_T_rv rfl ⟨_, _, rfl, rfl, hIx47_, hFx48_, ?_⟩
            first | (refine ⟨Or.inl ⟨e5_, he5_, g182_⟩, fun z_ => ?_⟩; first | (exact absurd z_ hz9_) | (exact absurd (g182_.1.symm.trans z_) g182_.2.2)) | (cases hq_ : p_nd b_ n_ 125 p1_ with | inl e_ => (have g182_ : rg b_ n_ T_ (p_nd b_ n_ 125 p1_) _ := g182_; rw [hq_] at g182_; refine ⟨Or.inl ⟨e_, by rw [hX1_, hq_]; rfl, g182_⟩, fun z_ => ?_⟩; first | (exact absurd z_ hz9_) | (exact absurd (g182_.1.symm.trans z_) g182_.2.2)) | inr q2_ => (have g182_ : rg b_ n_ T_ (p_nd b_ n_ 125 p1_) _ := g182_; rw [hq_] at g182_; first | (exact absurd g182_.1 hz9_) | (have k9_ := nd_ok le1_.1 (by decide) hq_; have k91_ := k9_.1; refine ⟨Or.inr ⟨A1_, N1_, M_ + 1, n_up mc1_ (M_ + 1) c1_.length, c1_, q2_, g182_, rT_nx a1_ (fun m_ hm_ => re1_fr (re1x m_ hm_) f182_ rfl rfl rfl rfl rfl rfl) (fun m_ hm_ => rs1_fr (rs1x m_ hm_) f182_ rfl rfl rfl rfl) (rnr_fr rn1_ f182_ rfl) (by rw [fr_arr f182_ rfl]; exact tk1_) (fun m_ hm_ => bdy_fr (bd1_ m_ hm_) f182_ rfl) (by omega), by omega, by omega, ?_⟩, fun _ => ?_⟩; (by_cases z_ : lx_kd b_ n_ q2_ = 0; (left; refine ⟨z_, ?_⟩; rw [hX1_, hq_, pb_ir, if_pos z_]); (right; refine ⟨z_, f2_, by omega, ?_⟩; rw [hX1_, hq_, pb_ir, if_neg z_])); (rw [rf_eq]; omega))))
        · have cx31_ : ¬ (vx30_ ≠ 0) := of_decide_eq_false cx31_
          have k125_ : lx_kd b_ n_ p1_ ≠ 125 := fun z_ => by have := e165_.mpr z_; omega
          refine sm_T_go 2 (c1 := (173, [some (.inr (.inr (some (13, 0)))), none, some (.inl k2_)], [.inl k2_, .inr (.inr (some (13, 0)))], S_)) rfl ?_
          refine sm_T_cal (d1 := 9) (Q1 := vq_334 k2_ b_ n_ T_ A1_ M_ c1_ p1_ N1_ S_) rfl rfl (by decide) (vc_334 k2_ b_ n_ T_ A1_ M_ c1_ p1_ N1_ S_ hI_ (by exact tt_) (by exact g1_) (by exact mo9_) (by exact ⟨k2M, m15_⟩) (by exact md1_) (by exact a1_) (by exact re1x) (by exact rs1x) (by exact hc1_) (by exact ms155_) (by exact rn1_)) (fun u_ Sx49_ px52_ => ?_)
          obtain ⟨rfl, hIx50_, hFx51_, px52_⟩ := px52_
          have hFx53_ : ai_fr (sx_W vw_339) S0_ Sx49_ := ai_fr_tr hF_ (fr_le hFx51_ rfl)
          have e173_ := px52_
          have F173_ := hFx51_
          have t173_ := rtab_fr tt_ hFx51_ rfl rfl rfl rfl rfl
          have rn173_ := rnr_fr rn1_ hFx51_ rfl
          have tk173_ : rtk b_ n_ T_ (Sx49_.2.2.1 124 0 M_) (N1_ M_) := by rw [fr_arr hFx51_ rfl]; exact tk1_
          have md173_ := (hFx51_.1 13 0 28 rfl).trans md1_
          have ms173_ := (hFx51_.1 13 0 12 rfl).trans ms155_
          refine sm_T_go 1 (c1 := (155, [some (.inr (.inr (some (13, 0)))), none, some (.inl k2_)], [], Sx49_)) rfl ?_
          refine ih_.2.2 k2_ Sx49_ hIx50_ hFx53_ ⟨?_, ?_, ?_, trivial⟩ ?_
          · omega
          · exact ms173_
          · cases hq_ : p_i2 b_ n_ A1_ N1_ M_ c1_ p1_ with
            | inl e_ => left; have z_ := e173_.1; rw [hq_] at z_; exact ⟨e_, by rw [hX1_]; exact dl_w k125_ hq_, z_⟩
            | inr r_ => right; have z_ := e173_.1; rw [hq_] at z_; have y_ := e173_.2 r_ hq_; have w_ := i2_ok hn1_ a1_ le1_.1 hc1_ hq_; exact ⟨k2M, m15_, md173_, f2_, r_.1, N1_, mc1_, r_.2.1, r_.2.2, by rw [hX1_]; exact dl_r hq_, by omega, z_, y_.1, y_.2.1, y_.2.2.1, rn173_, tk173_, y_.2.2.2, fun m_ hm_ => bdy_fr (bd1_ m_ hm_) F173_ rfl⟩
          · cases hq_ : p_i2 b_ n_ A1_ N1_ M_ c1_ p1_ with | inl e_ => (have z_ := e173_.1; rw [hq_] at z_; have z2_ := rms_0 (k_ := 0) (Or.inl (show _ ≠ 0 by rw [z_.1]; exact z_.2.2)); omega) | inr r_ => (have z_ := e173_.1; rw [hq_] at z_; have w_ := i2_ok hn1_ a1_ le1_.1 hc1_ hq_; have z2_ := rms_x (k_ := 0) t173_ z_ (by decide); omega)
set_option maxHeartbeats 2000000 in
set_option maxRecDepth 20000 in
theorem vc_339 {sc_ : Nat × (Nat → Int)} (b_ : Nat → Int) (n_ : Nat) (T_ : Nat) (X_ : pE pD) (A_ : pA) (N_ : Nat → Nat) (M_ : Nat) (mc : Nat → Nat) (c_ : List Int) (q_ : Nat) (f_ : Nat) (S0_ : sm_S) (hI_ : gi S0_) (ht_ : rtab b_ n_ T_ S0_) (hx_ : rg b_ n_ T_ (.inr q_) S0_) (hT_ : rT b_ n_ T_ A_ N_ M_ S0_) (hmo_ : (S0_.1 13 0 27) = 0) (hc_ : c_.length ≤ 3 * q_) (hX_ : X_ = (pb (p_bm b_ n_ A_ N_ M_ q_) fun x_ => p_dl b_ n_ f_ x_.1 x_.2.1 M_ mc c_ x_.2.2)) (hf_ : n_ < q_ + f_) : sm_T (mt_P sc_) 10 339 (0, [some (.inr (.inr (some (13, 0)))), none, none], [], S0_) (fun ro9_ => ∃ u_ S1_, ro9_ = (.inl u_, S1_, 0) ∧ vq_339 b_ n_ T_ X_ A_ N_ M_ mc c_ q_ f_ S0_ u_ S1_) := by
  have hF_ : ai_fr (sx_W vw_339) S0_ S0_ := ai_fr_rf
  have le0_ := rg_le ht_ hx_
  have hn1_ := ht_.1
  have hM16_ := hT_.2.1
  refine sm_T_go 2 (c1 := (2, [some (.inr (.inr (some (13, 0)))), none, none], [.inl 1, .inr (.inr (some (13, 0)))], S0_)) rfl ?_
  refine sm_T_cal (d1 := 0) (Q1 := vq_296 1 b_ n_ T_ (.inr q_) S0_) rfl rfl (by decide) (vc_296 1 b_ n_ T_ (.inr q_) S0_ hI_ (by exact ht_) (by exact hx_) (by decide)) (fun u_ Sx1_ px4_ => ?_)
  obtain ⟨rfl, vx6_, rfl, px4_⟩ := px4_
  have e2_ := px4_.2 q_ rfl
  have r2_ := px4_.1
  obtain ⟨i0_, hi01_, hi02_⟩ := id hx_.2
  have ra0_ := rp_at ht_ hi02_
  have rk0_ := r_st_3 (lx_kd_r hi02_.2.2.1)
  refine sm_T_b0 (a := 1) (z := 12) rfl (fun cx7_ => ?_) (fun cx7_ => ?_)
  · have cx7_ : vx6_ ≠ 0 := of_decide_eq_true cx7_
    have k3_ : lx_kd b_ n_ q_ = 3 := by have := e2_.mp (by omega); omega
    have nd3_ : p_nd b_ n_ 3 q_ = p_ad b_ n_ q_ := if_pos k3_
    obtain ⟨x7_, hx7_, hx7b⟩ : ∃ x7_ : pE Nat, rg b_ n_ T_ x7_ _ ∧ x7_ = .inr q_ := ⟨_, hx_, rfl⟩
    have t7_ := ht_
    have T7_ := hT_
    refine sm_T_go 1 (c1 := (18, [some (.inr (.inr (some (13, 0)))), none, none], [.inr (.inr (some (13, 0)))], S0_)) rfl ?_
    refine sm_T_cal (d1 := 2) (Q1 := vq_297 b_ n_ T_ x7_ S0_) rfl rfl (by decide) (vc_297 b_ n_ T_ x7_ S0_ hI_ (by exact t7_) (by exact hx7_) (by (intro z_ e_; rw [hx7b] at e_; first | (cases e_; done) | (cases e_; rw [k3_]; decide)))) (fun u_ Sx8_ px11_ => ?_)
    obtain ⟨rfl, hIx9_, hFx10_, px11_⟩ := px11_
    have hFx12_ : ai_fr (sx_W vw_339) S0_ Sx8_ := ai_fr_tr hF_ (fr_le hFx10_ rfl)
    have z18_ := px11_.1
    rw [hx7b] at z18_
    have g18_ : rg b_ n_ T_ (p_nd b_ n_ 3 q_) Sx8_ := by rw [nd3_]; exact z18_
    have t18_ := rtab_fr t7_ hFx10_ rfl rfl rfl rfl rfl
    have T18_ := rT_fr T7_ hFx10_ rfl rfl rfl rfl rfl rfl rfl rfl rfl rfl rfl rfl rfl
    refine sm_T_go 2 (c1 := (23, [some (.inr (.inr (some (13, 0)))), none, none], [.inl 1, .inr (.inr (some (13, 0)))], Sx8_)) rfl ?_
    refine sm_T_cal (d1 := 1) (Q1 := vq_299 1 b_ n_ T_ (p_nd b_ n_ 3 q_) Sx8_) rfl rfl (by decide) (vc_299 1 b_ n_ T_ (p_nd b_ n_ 3 q_) Sx8_ hIx9_ (by exact t18_) (by exact g18_) (by decide)) (fun u_ Sx13_ px16_ => ?_)
    obtain ⟨vx18_, rfl, hIx14_, hFx15_, px16_⟩ := px16_
    have hFx17_ : ai_fr (sx_W vw_339) S0_ Sx13_ := ai_fr_tr hFx12_ (fr_le hFx15_ rfl)
    have a23_ := px16_.1
    have g23_ := px16_.2
    have t23_ := rtab_fr t18_ hFx15_ rfl rfl rfl rfl rfl
    have at23_ := hFx15_.1 13 0 9 rfl
    have v23b : 0 ≤ vx18_ ∧ vx18_ ≤ 1280 := by rw [a23_, ← at23_]; exact hIx14_.1 13 0 9 rfl
    have rt23_ : ∀ r_, (pb (p_nd b_ n_ 3 q_) (p_du b_ n_ 1)) = .inr r_ → rtk b_ n_ T_ vx18_ r_ ∧ Sx13_.2.2.1 120 0 vx18_.toNat = (r_ : Int) ∧ Sx13_.2.2.1 119 0 vx18_.toNat ≠ 4 := by intro r_ hr_; rw [hr_] at g23_; obtain ⟨i3_, q1_, q2_⟩ := g23_.2; have q3_ : lx_kd b_ n_ r_ = 1 := (by obtain ⟨r2_, h3_, h4_⟩ := pb_inr hr_; unfold p_du at h4_; split at h4_; (rename_i gg_; cases h4_; exact gg_); cases h4_); have q4_ := rp_at t23_ q2_; rw [show vx18_ = (i3_ : Int) by omega, Int.toNat_natCast]; exact ⟨(rp_rtk t23_ q2_ q3_).1, q4_.2.1, by rw [q4_.1, q3_]; decide⟩
    have T23_ := rT_fr T18_ hFx15_ rfl rfl rfl rfl rfl rfl rfl rfl rfl rfl rfl rfl rfl
    refine sm_T_go 2 (c1 := (28, [some (.inr (.inr (some (13, 0)))), some (.inl vx18_), none], [.inr (.inr (some (13, 0)))], Sx13_)) rfl ?_
    refine sm_T_cal (d1 := 0) (Q1 := vq_292  Sx13_) rfl rfl (by decide) (vc_292  Sx13_ hIx14_ ) (fun u_ Sx19_ px22_ => ?_)
    obtain ⟨rfl, vx24_, rfl, px22_⟩ := px22_
    have e28_ := px22_
    refine sm_T_b0 (a := 0) (z := 19) rfl (fun cx25_ => ?_) (fun cx25_ => ?_)
    · have cx25_ : vx24_ = 0 := of_decide_eq_true cx25_
      have hz_ := wr_if e28_ (by omega)
      obtain ⟨e5_, he5_⟩ := rg_w g23_ hz_
      have b3w : (z_b3 b_ n_ N_ M_ q_) = .inl e5_ := by unfold z_b3; rw [he5_]; rfl
      have g3w := g23_
      rw [he5_] at g3w
      refine sm_T_go 0 (c1 := (50, [some (.inr (.inr (some (13, 0)))), some (.inl vx18_), none], [], Sx13_)) rfl ?_
      refine (vl_339 b_ n_ T_ X_ A_ N_ M_ mc c_ q_ f_ S0_ ht_ hx_ hT_ hmo_ hc_ hX_ hf_ _).1 vx18_ Sx13_ hIx14_ hFx17_ ⟨?_, ?_, ?_, ?_, trivial⟩ (Nat.lt_succ_self _)
      · first | exact g47_ | (rw [b3w]; exact g3w) | (rw [b3c, if_pos (by omega)]; exact g3r)
      · exact fun r_ hr_ => (rt23_ r_ hr_).1
      · omega
      · first | exact T47_ | exact T23_
    · have cx25_ : ¬ (vx24_ = 0) := of_decide_eq_false cx25_
      have hz_ := rt_if e28_ (by omega)
      obtain ⟨r2_, i2_, hr2_, hi21_, hi22_⟩ := rg_r g23_ hz_
      have rt2_ := rt23_ r2_ hr2_
      have g3r := g23_
      rw [hr2_] at g3r
      have b3c : (z_b3 b_ n_ N_ M_ q_) = if p_fm b_ n_ N_ M_ r2_ = -1 then .inr r2_ else .inl (10, r2_) := by unfold z_b3; rw [hr2_]; rfl
      refine sm_T_go 2 (c1 := (36, [some (.inr (.inr (some (13, 0)))), some (.inl vx18_), none], [.inl vx18_, .inr (.inr (some (13, 0)))], Sx13_)) rfl ?_
      refine sm_T_cal (d1 := 1) (Q1 := vq_303 vx18_ b_ n_ T_ N_ M_ r2_ Sx13_) rfl rfl (by decide) (vc_303 vx18_ b_ n_ T_ N_ M_ r2_ Sx13_ hIx14_ (by exact t23_) (by exact T23_.1) (by exact T23_.2.2.2.2.2.1) (by exact rt2_.1)) (fun u_ Sx26_ px29_ => ?_)
      obtain ⟨rfl, vx31_, rfl, px29_⟩ := px29_
      have e36_ := px29_
      refine sm_T_go 1 (c1 := (40, [some (.inr (.inr (some (13, 0)))), some (.inl vx18_), none], [.inl (-1), .inl vx31_], Sx13_)) rfl ?_
      refine sm_T_br (a := 0) (z := 10) rfl (fun cx32_ => ?_) (fun cx32_ => ?_)
      · have cx32_ : vx31_ = (-1) := of_decide_eq_true cx32_
        refine sm_T_go 0 (c1 := (50, [some (.inr (.inr (some (13, 0)))), some (.inl vx18_), none], [], Sx13_)) rfl ?_
        refine (vl_339 b_ n_ T_ X_ A_ N_ M_ mc c_ q_ f_ S0_ ht_ hx_ hT_ hmo_ hc_ hX_ hf_ _).1 vx18_ Sx13_ hIx14_ hFx17_ ⟨?_, ?_, ?_, ?_, trivial⟩ (Nat.lt_succ_self _)
        · first | exact g47_ | (rw [b3w]; exact g3w) | (rw [b3c, if_pos (by omega)]; exact g3r)
        · exact fun r_ hr_ => (rt23_ r_ hr_).1
        · omega
        · first | exact T47_ | exact T23_
      · have cx32_ : ¬ (vx31_ = (-1)) := of_decide_eq_false cx32_
        refine sm_T_go 3 (c1 := (47, [some (.inr (.inr (some (13, 0)))), some (.inl vx18_), none], [.inl vx18_, .inl 10, .inr (.inr (some (13, 0)))], Sx13_)) rfl ?_
        refine sm_T_cal (d1 := 0) (Q1 := vq_293 10 vx18_ Sx13_) rfl rfl (by decide) (vc_293 10 vx18_ Sx13_ hIx14_ (by decide) (by omega)) (fun u_ Sx33_ px36_ => ?_)
        obtain ⟨rfl, hIx34_, hFx35_, px36_⟩ := px36_
        have hFx37_ : ai_fr (sx_W vw_339) S0_ Sx33_ := ai_fr_tr hFx17_ (fr_le hFx35_ rfl)
        have g47_ : rg b_ n_ T_ (z_b3 b_ n_ N_ M_ q_) Sx33_ := by rw [b3c, if_neg (by omega)]; rcases px36_ with z_ | z_; (exact absurd hz_ z_.1); (exact ⟨z_.2.1.trans (if_neg rt2_.2.2), z_.2.2.trans rt2_.2.1, by show (10 : Int) ≠ 0; decide⟩)
        have T47_ := rT_fr T23_ hFx35_ rfl rfl rfl rfl rfl rfl rfl rfl rfl rfl rfl rfl rfl
        refine sm_T_go 0 (c1 := (50, [some (.inr (.inr (some (13, 0)))), some (.inl vx18_), none], [], Sx33_)) rfl ?_
        refine (vl_339 b_ n_ T_ X_ A_ N_ M_ mc c_ q_ f_ S0_ ht_ hx_ hT_ hmo_ hc_ hX_ hf_ _).1 vx18_ Sx33_ hIx34_ hFx37_ ⟨?_, ?_, ?_, ?_, trivial⟩ (Nat.lt_succ_self _)
        · first | exact g47_ | (rw [b3w]; exact g3w) | (rw [b3c, if_pos (by omega)]; exact g3r)
        · exact fun r_ hr_ => (rt23_ r_ hr_).1
        · omega
        · first | exact T47_ | exact T23_
  · have cx7_ : ¬ (vx6_ ≠ 0) := of_decide_eq_false cx7_
    have k3_ : lx_kd b_ n_ q_ ≠ 3 := fun z_ => by have := e2_.mpr (by omega); omega
    have nd3_ : p_nd b_ n_ 3 q_ = .inl (2, q_) := if_neg k3_
    have bx38_ : 0 ≤ S0_.1 13 0 9 ∧ S0_.1 13 0 9 ≤ 1280 := hI_.1 13 0 9 rfl
    refine sm_T_go 4 (c1 := (14, [some (.inr (.inr (some (13, 0)))), none, none], [.inl (S0_.1 13 0 9), .inl 2, .inr (.inr (some (13, 0)))], S0_)) rfl ?_
    refine sm_T_cal (d1 := 0) (Q1 := vq_293 2 (S0_.1 13 0 9) S0_) rfl rfl (by decide) (vc_293 2 (S0_.1 13 0 9) S0_ hI_ (by decide) (by omega)) (fun u_ Sx39_ px42_ => ?_)
    obtain ⟨rfl, hIx40_, hFx41_, px42_⟩ := px42_
    have hFx43_ : ai_fr (sx_W vw_339) S0_ Sx39_ := ai_fr_tr hF_ (fr_le hFx41_ rfl)
    have ex44_ : Sx39_.1 13 0 9 = S0_.1 13 0 9 := hFx41_.1 13 0 9 rfl
    have g14_ : rg b_ n_ T_ (.inl (2, q_)) Sx39_ := by rcases px42_ with z_ | z_; (exact absurd hx_.1 z_.1); (refine ⟨z_.2.1.trans (if_neg ?_), z_.2.2.trans ?_, by show (2 : Int) ≠ 0; decide⟩; (rw [hi01_, Int.toNat_natCast, ra0_.1]; exact rk0_.2.2.2.2.2); (rw [hi01_, Int.toNat_natCast]; exact ra0_.2.1))
    obtain ⟨x7_, hx7_, hx7b⟩ : ∃ x7_ : pE Nat, rg b_ n_ T_ x7_ Sx39_ ∧ x7_ = .inl (2, q_) := ⟨_, g14_, rfl⟩
    have t7_ := rtab_fr ht_ hFx41_ rfl rfl rfl rfl rfl
    have T7_ := rT_fr hT_ hFx41_ rfl rfl rfl rfl rfl rfl rfl rfl rfl rfl rfl rfl rfl
    refine sm_T_go 1 (c1 := (18, [some (.inr (.inr (some (13, 0)))), none, none], [.inr (.inr (some (13, 0)))], Sx39_)) rfl ?_
    refine sm_T_cal (d1 := 2) (Q1 := vq_297 b_ n_ T_ x7_ Sx39_) rfl rfl (by decide) (vc_297 b_ n_ T_ x7_ Sx39_ hIx40_ (by exact t7_) (by exact hx7_) (by (intro z_ e_; rw [hx7b] at e_; first | (cases e_; done) | (cases e_; rw [k3_]; decide)))) (fun u_ Sx45_ px48_ => ?_)
    obtain ⟨rfl, hIx46_, hFx47_, px48_⟩ := px48_
    have hFx49_ : ai_fr (sx_W vw_339) S0_ Sx45_ := ai_fr_tr hFx43_ (fr_le hFx47_ rfl)
    have z18_ := px48_.1
    rw [hx7b] at z18_
    have g18_ : rg b_ n_ T_ (p_nd b_ n_ 3 q_) Sx45_ := by rw [nd3_]; exact z18_
    have t18_ := rtab_fr t7_ hFx47_ rfl rfl rfl rfl rfl
    have T18_ := rT_fr T7_ hFx47_ rfl rfl rfl rfl rfl rfl rfl rfl rfl rfl rfl rfl rfl
    refine sm_T_go 2 (c1 := (23, [some (.inr (.inr (some (13, 0)))), none, none], [.inl 1, .inr (.inr (some (13, 0)))], Sx45_)) rfl ?_
    refine sm_T_cal (d1 := 1) (Q1 := vq_299 1 b_ n_ T_ (p_nd b_ n_ 3 q_) Sx45_) rfl rfl (by decide) (vc_299 1 b_ n_ T_ (p_nd b_ n_ 3 q_) Sx45_ hIx46_ (by exact t18_) (by exact g18_) (by decide)) (fun u_ Sx50_ px53_ => ?_)
    obtain ⟨vx55_, rfl, hIx51_, hFx52_, px53_⟩ := px53_
    have hFx54_ : ai_fr (sx_W vw_339) S0_ Sx50_ := ai_fr_tr hFx49_ (fr_le hFx52_ rfl)
    have a23_ := px53_.1
    have g23_ := px53_.2
    have t23_ := rtab_fr t18_ hFx52_ rfl rfl rfl rfl rfl
    have at23_ := hFx52_.1 13 0 9 rfl
    have v23b : 0 ≤ vx55_ ∧ vx55_ ≤ 1280 := by rw [a23_, ← at23_]; exact hIx51_.1 13 0 9 rfl
    have rt23_ : ∀ r_, (pb (p_nd b_ n_ 3 q_) (p_du b_ n_ 1)) = .inr r_ → rtk b_ n_ T_ vx55_ r_ ∧ Sx50_.2.2.1 120 0 vx55_.toNat = (r_ : Int) ∧ Sx50_.2.2.1 119 0 vx55_.toNat ≠ 4 := by intro r_ hr_; rw [hr_] at g23_; obtain ⟨i3_, q1_, q2_⟩ := g23_.2; have q3_ : lx_kd b_ n_ r_ = 1 := (by obtain ⟨r2_, h3_, h4_⟩ := pb_inr hr_; unfold p_du at h4_; split at h4_; (rename_i gg_; cases h4_; exact gg_); cases h4_); have q4_ := rp_at t23_ q2_; rw [show vx55_ = (i3_ : Int) by omega, Int.toNat_natCast]; exact ⟨(rp_rtk t23_ q2_ q3_).1, q4_.2.1, by rw [q4_.1, q3_]; decide⟩
    have T23_ := rT_fr T18_ hFx52_ rfl rfl rfl rfl rfl rfl rfl rfl rfl rfl rfl rfl rfl
    refine sm_T_go 2 (c1 := (28, [some (.inr (.inr (some (13, 0)))), some (.inl vx55_), none], [.inr (.inr (some (13, 0)))], Sx50_)) rfl ?_
    refine sm_T_cal (d1 := 0) (Q1 := vq_292  Sx50_) rfl rfl (by decide) (vc_292  Sx50_ hIx51_ ) (fun u_ Sx56_ px59_ => ?_)
    obtain ⟨rfl, vx61_, rfl, px59_⟩ := px59_
    have e28_ := px59_
    refine sm_T_b0 (a := 0) (z := 19) rfl (fun cx62_ => ?_) (fun cx62_ => ?_)
    · have cx62_ : vx61_ = 0 := of_decide_eq_true cx62_
      have hz_ := wr_if e28_ (by omega)
      obtain ⟨e5_, he5_⟩ := rg_w g23_ hz_
      have b3w : (z_b3 b_ n_ N_ M_ q_) = .inl e5_ := by unfold z_b3; rw [he5_]; rfl
      have g3w := g23_
      rw [he5_] at g3w
      refine sm_T_go 0 (c1 := (50, [some (.inr (.inr (some (13, 0)))), some (.inl vx55_), none], [], Sx50_)) rfl ?_
      refine (vl_339 b_ n_ T_ X_ A_ N_ M_ mc c_ q_ f_ S0_ ht_ hx_ hT_ hmo_ hc_ hX_ hf_ _).1 vx55_ Sx50_ hIx51_ hFx54_ ⟨?_, ?_, ?_, ?_, trivial⟩ (Nat.lt_succ_self _)
      · first | exact g47_ | (rw [b3w]; exact g3w) | (rw [b3c, if_pos (by omega)]; exact g3r)
      · exact fun r_ hr_ => (rt23_ r_ hr_).1
      · omega
      · first | exact T47_ | exact T23_
    · have cx62_ : ¬ (vx61_ = 0) := of_decide_eq_false cx62_
      have hz_ := rt_if e28_ (by omega)
      obtain ⟨r2_, i2_, hr2_, hi21_, hi22_⟩ := rg_r g23_ hz_
      have rt2_ := rt23_ r2_ hr2_
      have g3r := g23_
      rw [hr2_] at g3r
      have b3c : (z_b3 b_ n_ N_ M_ q_) = if p_fm b_ n_ N_ M_ r2_ = -1 then .inr r2_ else .inl (10, r2_) := by unfold z_b3; rw [hr2_]; rfl
      refine sm_T_go 2 (c1 := (36, [some (.inr (.inr (some (13, 0)))), some (.inl vx55_), none], [.inl vx55_, .inr (.inr (some (13, 0)))], Sx50_)) rfl ?_
      refine sm_T_cal (d1 := 1) (Q1 := vq_303 vx55_ b_ n_ T_ N_ M_ r2_ Sx50_) rfl rfl (by decide) (vc_303 vx55_ b_ n_ T_ N_ M_ r2_ Sx50_ hIx51_ (by exact t23_) (by exact T23_.1) (by exact T23_.2.2.2.2.2.1) (by exact rt2_.1)) (fun u_ Sx63_ px66_ => ?_)
      obtain ⟨rfl, vx68_, rfl, px66_⟩ := px66_
      have e36_ := px66_
      refine sm_T_go 1 (c1 := (40, [some (.inr (.inr (some (13, 0)))), some (.inl vx55_), none], [.inl (-1), .inl vx68_], Sx50_)) rfl ?_
      refine sm_T_br (a := 0) (z := 10) rfl (fun cx69_ => ?_) (fun cx69_ => ?_)
      · have cx69_ : vx68_ = (-1) := of_decide_eq_true cx69_
        refine sm_T_go 0 (c1 := (50, [some (.inr (.inr (some (13, 0)))), some (.inl vx55_), none], [], Sx50_)) rfl ?_
        refine (vl_339 b_ n_ T_ X_ A_ N_ M_ mc c_ q_ f_ S0_ ht_ hx_ hT_ hmo_ hc_ hX_ hf_ _).1 vx55_ Sx50_ hIx51_ hFx54_ ⟨?_, ?_, ?_, ?_, trivial⟩ (Nat.lt_succ_self _)
        · first | exact g47_ | (rw [b3w]; exact g3w) | (rw [b3c, if_pos (by omega)]; exact g3r)
        · exact fun r_ hr_ => (rt23_ r_ hr_).1
        · omega
        · first | exact T47_ | exact T23_
      · have cx69_ : ¬ (vx68_ = (-1)) := of_decide_eq_false cx69_
        refine sm_T_go 3 (c1 := (47, [some (.inr (.inr (some (13, 0)))), some (.inl vx55_), none], [.inl vx55_, .inl 10, .inr (.inr (some (13, 0)))], Sx50_)) rfl ?_
        refine sm_T_cal (d1 := 0) (Q1 := vq_293 10 vx55_ Sx50_) rfl rfl (by decide) (vc_293 10 vx55_ Sx50_ hIx51_ (by decide) (by omega)) (fun u_ Sx70_ px73_ => ?_)
        obtain ⟨rfl, hIx71_, hFx72_, px73_⟩ := px73_
        have hFx74_ : ai_fr (sx_W vw_339) S0_ Sx70_ := ai_fr_tr hFx54_ (fr_le hFx72_ rfl)
        have g47_ : rg b_ n_ T_ (z_b3 b_ n_ N_ M_ q_) Sx70_ := by rw [b3c, if_neg (by omega)]; rcases px73_ with z_ | z_; (exact absurd hz_ z_.1); (exact ⟨z_.2.1.trans (if_neg rt2_.2.2), z_.2.2.trans rt2_.2.1, by show (10 : Int) ≠ 0; decide⟩)
        have T47_ := rT_fr T23_ hFx72_ rfl rfl rfl rfl rfl rfl rfl rfl rfl rfl rfl rfl rfl
        refine sm_T_go 0 (c1 := (50, [some (.inr (.inr (some (13, 0)))), some (.inl vx55_), none], [], Sx70_)) rfl ?_
        refine (vl_339 b_ n_ T_ X_ A_ N_ M_ mc c_ q_ f_ S0_ ht_ hx_ hT_ hmo_ hc_ hX_ hf_ _).1 vx55_ Sx70_ hIx71_ hFx74_ ⟨?_, ?_, ?_, ?_, trivial⟩ (Nat.lt_succ_self _)
        · first | exact g47_ | (rw [b3w]; exact g3w) | (rw [b3c, if_pos (by omega)]; exact g3r)
        · exact fun r_ hr_ => (rt23_ r_ hr_).1
        · omega
        · first | exact T47_ | exact T23_
