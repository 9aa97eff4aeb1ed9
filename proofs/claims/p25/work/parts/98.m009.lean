/-! 99.yna -/
section
/-! the reference: what registers become; written by wip/p55/gen/vg -/

/-! what a_ register becomes -/
def a_d2 (A_ : pA) (K_ : Nat) : pA := if A_.2.2.1 K_ = 3 then a_dr A_ K_ else A_
theorem a_d2_ok {b_ : Nat → Int} {n_ M_ K_ : Nat} {A_ : pA} (h_ : a_ok b_ n_ A_ M_) : a_ok b_ n_ (a_d2 A_ K_) M_ := by
  unfold a_d2
  split
  · rename_i g_
    exact a_dr_ok h_ g_
  · exact h_
theorem d2_1 {A_ : pA} {K_ : Nat} : (a_d2 A_ K_).1 = A_.1 ∧ (a_d2 A_ K_).2.1 = A_.2.1 ∧ (a_d2 A_ K_).2.2.2.1 = A_.2.2.2.1 ∧ (a_d2 A_ K_).2.2.2.2 = A_.2.2.2.2 := by
  unfold a_d2
  split <;> exact ⟨rfl, rfl, rfl, rfl⟩
theorem d2_s {A_ : pA} {K_ : Nat} (i_ : Nat) : (a_d2 A_ K_).2.2.1 i_ = if A_.2.2.1 K_ = 3 ∧ i_ = K_ then 4 else A_.2.2.1 i_ := by
  unfold a_d2
  by_cases g_ : A_.2.2.1 K_ = 3
  · rw [if_pos g_]
    show (if i_ = K_ then 4 else A_.2.2.1 i_) = _
    by_cases g2_ : i_ = K_
    · rw [if_pos g2_, if_pos ⟨g_, g2_⟩]
    · rw [if_neg g2_, if_neg (fun z_ => g2_ z_.2)]
  · rw [if_neg g_, if_neg (fun z_ => g_ z_.1)]
theorem d2_e {A_ : pA} {K_ i_ : Nat} {v_ : Int} (h3_ : v_ ≠ 3) (h4_ : v_ ≠ 4) : ((a_d2 A_ K_).2.2.1 i_ = v_) = (A_.2.2.1 i_ = v_) := by
  rw [d2_s]
  by_cases g_ : A_.2.2.1 K_ = 3 ∧ i_ = K_
  · rw [if_pos g_, g_.2, g_.1]
    exact propext ⟨fun z_ => absurd z_.symm h4_, fun z_ => absurd z_.symm h3_⟩
  · rw [if_neg g_]
theorem d2_fn {b_ : Nat → Int} {n_ m_ p_ K_ : Nat} {A_ : pA} : p_fn b_ n_ (a_d2 A_ K_) m_ p_ = p_fn b_ n_ A_ m_ p_ := by
  unfold p_fn
  rw [d2_1.1, d2_1.2.1]
theorem d2_pa {b_ : Nat → Int} {n_ d_ p_ K_ : Nat} {A_ : pA} {s_ : Int} : p_pa b_ n_ (a_d2 A_ K_) s_ d_ p_ = p_pa b_ n_ A_ s_ d_ p_ := by
  unfold p_pa
  simp only [d2_fn, d2_1.2.2.1, ne_eq, d2_e (show (1 : Int) ≠ 3 by decide) (show (1 : Int) ≠ 4 by decide)]
theorem d2_na {b_ : Nat → Int} {n_ M_ p_ K_ : Nat} {A_ : pA} : p_na b_ n_ (a_d2 A_ K_) M_ p_ = p_na b_ n_ A_ M_ p_ := by
  unfold p_na
  simp only [d2_fn, d2_pa, d2_1.2.2.1, d2_1.2.2.2, ne_eq, d2_e (show (5 : Int) ≠ 3 by decide) (show (5 : Int) ≠ 4 by decide)]
theorem d2_xd {b_ : Nat → Int} {n_ M_ p_ K_ : Nat} {A_ : pA} {c_ : List Int} : p_xd b_ n_ (a_d2 A_ K_) M_ c_ p_ = p_xd b_ n_ A_ M_ c_ p_ := by
  unfold p_xd
  have e_ : p_pd b_ n_ (a_d2 A_ K_) M_ = p_pd b_ n_ A_ M_ := by
    funext q_
    unfold p_pd
    simp only [d2_na]
  rw [e_]
theorem d2_rs {A_ : pA} {K_ m_ : Nat} {S_ : sm_S} (h_ : rs1 A_ m_ S_) : rs1 (a_d2 A_ K_) m_ S_ := by
  unfold rs1 at h_ ⊢
  rw [d2_1.1]
  have e1_ : ∀ v_ : Int, v_ ≠ 3 → v_ ≠ 4 → t_in (a_d2 A_ K_) v_ m_ = t_in A_ v_ m_ := by
    intro v_ h3_ h4_
    funext s_
    unfold t_in
    simp only [d2_1.2.2.1, d2_e h3_ h4_]
  have e2_ : ∀ f_, t_rg f_ (a_d2 A_ K_) m_ = t_rg f_ A_ m_ := by
    intro f_
    funext s_
    unfold t_rg
    have z_ : ((a_d2 A_ K_).2.2.1 (40 * m_ + s_) = 3 ∨ (a_d2 A_ K_).2.2.1 (40 * m_ + s_) = 4) = (A_.2.2.1 (40 * m_ + s_) = 3 ∨ A_.2.2.1 (40 * m_ + s_) = 4) := by
      rw [d2_s]
      by_cases g_ : A_.2.2.1 K_ = 3 ∧ 40 * m_ + s_ = K_
      · rw [if_pos g_, g_.2, g_.1]
        exact propext ⟨fun _ => Or.inl rfl, fun _ => Or.inr rfl⟩
      · rw [if_neg g_]
    simp only [z_, d2_1.2.2.1, d2_1.2.2.2, d2_e (show (5 : Int) ≠ 3 by decide) (show (5 : Int) ≠ 4 by decide)]
  have e3_ : ∀ f_, t_is f_ (a_d2 A_ K_) m_ = t_is f_ A_ m_ := by
    intro f_
    funext s_
    unfold t_is
    simp only [d2_1.2.2.2, d2_e (show (5 : Int) ≠ 3 by decide) (show (5 : Int) ≠ 4 by decide)]
  rw [e1_ 0 (by decide) (by decide), e1_ 1 (by decide) (by decide), e2_, e3_]
  exact h_
theorem d2_re {b_ : Nat → Int} {n_ T_ m_ K_ k_ : Nat} {A_ : pA} {S_ : sm_S} (h_ : re1 b_ n_ T_ A_ m_ S_) (h3_ : A_.2.2.1 K_ = 3) (hk_ : k_ = K_) : re1 b_ n_ T_ (a_d2 A_ K_) m_ (sm_aI S_ 131 0 k_ 1) := by
  subst hk_
  unfold re1 at h_ ⊢
  rw [d2_1.1, d2_1.2.1, d2_1.2.2.1, d2_1.2.2.2]
  refine ⟨(rd_ne (by decide)).trans h_.1, fun s_ hs_ => ?_⟩
  obtain ⟨q1_, q2_, q3_, q4_, q5_⟩ := h_.2 s_ hs_
  rw [rd_ne (by decide), rd_ne (by decide), rd_ne (by decide), rd_ne (by decide), rd_eq, d2_s]
  refine ⟨q1_, ?_, q3_, q4_, ?_⟩
  · rw [q2_]
    by_cases g_ : A_.2.2.1 k_ = 3 ∧ 40 * m_ + s_ = k_
    · rw [if_pos g_, g_.2, g_.1]
      rfl
    · rw [if_neg g_]
  · by_cases g_ : 40 * m_ + s_ = k_
    · have e_ : (if A_.2.2.1 k_ = 3 ∧ 40 * m_ + s_ = k_ then (4 : Int) else A_.2.2.1 (40 * m_ + s_)) = 4 := if_pos ⟨h3_, g_⟩
      rw [e_, if_pos g_, if_pos rfl]
    · have e_ : (if A_.2.2.1 k_ = 3 ∧ 40 * m_ + s_ = k_ then (4 : Int) else A_.2.2.1 (40 * m_ + s_)) = A_.2.2.1 (40 * m_ + s_) := if_neg (fun z_ => g_ z_.2)
      rw [e_, if_neg g_]
      exact q5_
abbrev c_ne (b_ : Nat → Int) (n_ : Nat) (A_ : pA) (M_ p_ : Nat) : Prop := p_fn b_ n_ A_ M_ p_ = -1 ∨ A_.2.2.1 (40 * M_ + (p_fn b_ n_ A_ M_ p_).toNat) ≠ 3
def z_n2 (b_ : Nat → Int) (n_ : Nat) (A_ : pA) (M_ p_ : Nat) : pE Nat := pb (p_du b_ n_ 1 p_) fun p_ => if c_ne b_ n_ A_ M_ p_ then .inl (11, p_) else .inr p_
def z_n4 (b_ : Nat → Int) (n_ : Nat) (A_ : pA) (M_ p_ : Nat) : pE (Nat × Nat) := pb (pb (z_n2 b_ n_ A_ M_ p_) (p_ad b_ n_)) fun q_ => pb (p_nd b_ n_ 256 q_) fun r_ => .inr (q_, r_)
def z_ne (b_ : Nat → Int) (n_ : Nat) (A_ : pA) (M_ : Nat) (c_ : List Int) (p_ : Nat) : pE (Nat × pR) := pb (z_n4 b_ n_ A_ M_ p_) fun a_ => pb (p_xd b_ n_ A_ M_ c_ a_.2) fun x_ => .inr (a_.1, x_)
def z_nc (w_ : Int) (a_ : Nat × pR) : pE (Nat × pR) := if h_tp a_.2.2.1 = w_ then .inr a_ else .inl (13, a_.1)
def z_ns (b_ : Nat → Int) (n_ : Nat) (a_ : Nat × pR) : pE ((Nat × pR) × Nat) := pb (p_nd b_ n_ 59 a_.2.1) fun y_ => .inr (a_, y_)
def k_nx (b_ : Nat → Int) (n_ : Nat) (A_ : pA) (M_ p_ : Nat) : Nat := 40 * M_ + (p_fn b_ n_ A_ M_ p_).toNat
def k_ne (b_ : Nat → Int) (n_ : Nat) (A_ : pA) (M_ p_ : Nat) (a_ : (Nat × pR) × Nat) : pT := (a_dr A_ (k_nx b_ n_ A_ M_ p_), cw 14 (p_fn b_ n_ A_ M_ p_) 0 :: a_.1.2.2.2, a_.2)
theorem n2_p {b_ : Nat → Int} {n_ M_ p_ q_ : Nat} {A_ : pA} (h_ : z_n2 b_ n_ A_ M_ p_ = .inr q_) : q_ = p_ ∧ lx_kd b_ n_ p_ = 1 ∧ ¬ c_ne b_ n_ A_ M_ p_ := by
  obtain ⟨r_, h1_, h2_⟩ := pb_inr h_
  unfold p_du at h1_
  split at h1_
  · rename_i g_
    cases h1_
    split at h2_
    · cases h2_
    · rename_i g2_
      cases h2_
      exact ⟨rfl, g_, g2_⟩
  · cases h1_
theorem ne_eq2 {b_ : Nat → Int} {n_ M_ p_ : Nat} {A_ : pA} {c_ : List Int} : (if lx_kd b_ n_ p_ = 1 then p_ne b_ n_ A_ M_ c_ p_ else .inl (2, p_)) = pb (pb (pb (z_ne b_ n_ A_ M_ c_ p_) (z_nc (A_.2.2.2.1 (k_nx b_ n_ A_ M_ p_)))) (z_ns b_ n_)) fun a_ => .inr (k_ne b_ n_ A_ M_ p_ a_) := by
  unfold z_ne z_n4 z_n2 p_du
  by_cases g_ : lx_kd b_ n_ p_ = 1
  · rw [if_pos g_, if_pos g_]
    simp only [pb_ir]
    unfold p_ne
    by_cases g2_ : c_ne b_ n_ A_ M_ p_
    · rw [if_pos g2_, if_pos g2_]
      rfl
    · rw [if_neg g2_, if_neg g2_]
      simp only [pb_ir, pb_as]
      refine congrArg (pb _) (funext fun q_ => congrArg (pb _) (funext fun r_ => congrArg (pb _) (funext fun x_ => ?_)))
      show _ = pb (z_nc (A_.2.2.2.1 (k_nx b_ n_ A_ M_ p_)) (q_, x_)) _
      unfold z_nc
      by_cases g3_ : h_tp x_.2.1 = A_.2.2.2.1 (40 * M_ + (p_fn b_ n_ A_ M_ p_).toNat)
      · rw [if_pos g3_, if_pos (show h_tp (q_, x_).2.2.1 = A_.2.2.2.1 (k_nx b_ n_ A_ M_ p_) from g3_)]
        show _ = pb (z_ns b_ n_ (q_, x_)) _
        unfold z_ns
        rw [pb_as]
        rfl
      · rw [if_neg g3_, if_neg (show ¬ h_tp (q_, x_).2.2.1 = A_.2.2.2.1 (k_nx b_ n_ A_ M_ p_) from g3_)]
        rfl
  · rw [if_neg g_, if_neg g_]
    rfl
theorem ne_ok {b_ : Nat → Int} {n_ M_ p_ : Nat} {A_ : pA} {c_ : List Int} {r_ : pT} (hn_ : n_ ≤ 1280) (hA_ : a_ok b_ n_ A_ M_) (hp_ : p_ ≤ n_) (hc_ : c_.length ≤ 3 * p_) (h_ : (if lx_kd b_ n_ p_ = 1 then p_ne b_ n_ A_ M_ c_ p_ else .inl (2, p_)) = .inr r_) : a_ok b_ n_ r_.1 M_ ∧ r_.2.1.length ≤ 3 * r_.2.2 ∧ p_ < r_.2.2 ∧ r_.1 = a_d2 A_ (k_nx b_ n_ A_ M_ p_) := by
  rw [ne_eq2] at h_
  obtain ⟨a_, h1_, h_⟩ := pb_inr h_
  cases h_
  obtain ⟨a1_, h2_, h1_⟩ := pb_inr h1_
  obtain ⟨a0_, h3_, h2_⟩ := pb_inr h2_
  obtain ⟨a2_, h4_, h3_⟩ := pb_inr h3_
  obtain ⟨x_, h6_, h3_⟩ := pb_inr h3_
  cases h3_
  obtain ⟨q_, h4b, h5_⟩ := pb_inr h4_
  obtain ⟨r_, h7_, h5_⟩ := pb_inr h5_
  cases h5_
  obtain ⟨p1_, h8_, h4c⟩ := pb_inr h4b
  obtain ⟨e1_, e2_, e3_⟩ := n2_p h8_
  subst e1_
  have k1_ := p_ad_ok hp_ (by omega) h4c
  have k2_ := nd_ok k1_.2.2.1 (by decide) h7_
  have k3_ := xd_ok hn_ hA_ k2_.2.1 k2_.2.2.1 (by have := k2_.1; have := k1_.2.1; show c_.length ≤ 3 * r_; omega) h6_
  have g3_ : A_.2.2.1 (k_nx b_ n_ A_ M_ p1_) = 3 := Decidable.byContradiction fun z_ => e3_ (Or.inr z_)
  unfold z_nc at h2_
  split at h2_
  · cases h2_
    obtain ⟨y_, h9_, h1_⟩ := pb_inr h1_
    cases h1_
    have k4_ := nd_ok k3_.2.1 (by decide) h9_
    have k5_ : x_.1 < y_ := k4_.1
    have k6_ := k3_.2.2.2.2.2
    have k7_ := k3_.1
    have k8_ := k2_.1
    have k9_ := k1_.2.1
    have k7_ : r_ < x_.1 := k7_
    exact ⟨a_dr_ok hA_ g3_, by show x_.2.2.length + 1 ≤ 3 * y_; omega, by show p1_ < y_; omega, by unfold a_d2; rw [if_pos g3_]; rfl⟩
  · cases h2_
/-! M_.tellNext -/
def vw_337 : sx_Wl := ([(13, 9), (13, 10), (13, 11), (13, 32), (13, 33), (13, 34)], [131, 136, 137, 138, 139], [])
def vq_337 (m_ : Int) (b_ : Nat → Int) (n_ : Nat) (T_ : Nat) (A_ : pA) (M_ : Nat) (c_ : List Int) (p_ : Nat) (S0_ : sm_S) (u_ : Option sm_V) (S1_ : sm_S) : Prop := u_ = none ∧ gi S1_ ∧ ai_fr (sx_W vw_337) S0_ S1_ ∧ (rm b_ n_ T_ M_ (if lx_kd b_ n_ p_ = 1 then p_ne b_ n_ A_ M_ c_ p_ else .inl (2, p_)) S1_)
set_option maxHeartbeats 1500000 in
theorem vl_337 {sc_ : Nat × (Nat → Int)} (m_ : Int) (b_ : Nat → Int) (n_ : Nat) (T_ : Nat) (A_ : pA) (M_ : Nat) (c_ : List Int) (p_ : Nat) (S0_ : sm_S) (ht_ : rtab b_ n_ T_ S0_) (hx_ : rg b_ n_ T_ (.inr p_) S0_) (hmo_ : (S0_.1 13 0 27) = 0) (hmm_ : m_ = (M_ : Int) ∧ M_ ≤ 15) (hmd_ : (S0_.1 13 0 28) = (M_ : Int)) (hA_ : a_ok b_ n_ A_ M_) (hre_ : ∀ m_, m_ ≤ M_ → re1 b_ n_ T_ A_ m_ S0_) (hrs_ : ∀ m_, m_ ≤ M_ → rs1 A_ m_ S0_) (hc_ : c_.length ≤ 3 * p_) : ∀ nn_ : Nat, (∀ (k_ : Int) (S_ : sm_S), gi S_ → ai_fr (sx_W vw_337) S0_ S_ → ((rg b_ n_ T_ (z_n2 b_ n_ A_ M_ p_) S_) ∧ (∀ q_, (z_n2 b_ n_ A_ M_ p_) = .inr q_ → k_ = p_fn b_ n_ A_ M_ p_ ∧ 0 ≤ k_ ∧ k_ < (A_.1 M_ : Int) ∧ A_.2.2.1 (k_nx b_ n_ A_ M_ p_) = 3) ∧ (∀ m_, m_ ≤ M_ → re1 b_ n_ T_ A_ m_ S_) ∧ (∀ m_, m_ ≤ M_ → rs1 A_ m_ S_) ∧ True) → ((6 : Nat)) < nn_ → sm_T (mt_P sc_) 8 337 (72, [some (.inr (.inr (some (13, 0)))), some (.inl m_), none, some (.inl k_), none], [], S_) (fun r_ => ∃ u_ S1_, r_ = (.inl u_, S1_, 0) ∧ vq_337 m_ b_ n_ T_ A_ M_ c_ p_ S0_ u_ S1_)) ∧ (∀ (k_ : Int) (t4_ : Int) (S_ : sm_S), gi S_ → ai_fr (sx_W vw_337) S0_ S_ → ((rg b_ n_ T_ (pb (z_n4 b_ n_ A_ M_ p_) fun a_ => .inr a_.2) S_) ∧ (∀ a_, (z_n4 b_ n_ A_ M_ p_) = .inr a_ → k_ = p_fn b_ n_ A_ M_ p_ ∧ 0 ≤ k_ ∧ k_ < (A_.1 M_ : Int) ∧ A_.2.2.1 (k_nx b_ n_ A_ M_ p_) = 3) ∧ (∀ a_, (z_n4 b_ n_ A_ M_ p_) = .inr a_ → ∀ m_, m_ ≤ M_ → re1 b_ n_ T_ (a_d2 A_ (k_nx b_ n_ A_ M_ p_)) m_ S_) ∧ (∀ m_, m_ ≤ M_ → rs1 (a_d2 A_ (k_nx b_ n_ A_ M_ p_)) m_ S_) ∧ (∀ a_, (z_n4 b_ n_ A_ M_ p_) = .inr a_ → (S_.2.2.1 120 0 (t4_.toNat)) = (a_.1 : Int)) ∧ (0 ≤ t4_ ∧ t4_ ≤ 1280) ∧ True) → ((4 : Nat)) < nn_ → sm_T (mt_P sc_) 8 337 (108, [some (.inr (.inr (some (13, 0)))), some (.inl m_), none, some (.inl k_), some (.inl t4_)], [], S_) (fun r_ => ∃ u_ S1_, r_ = (.inl u_, S1_, 0) ∧ vq_337 m_ b_ n_ T_ A_ M_ c_ p_ S0_ u_ S1_)) ∧ (∀  (S_ : sm_S), gi S_ → ai_fr (sx_W vw_337) S0_ S_ → ((rg b_ n_ T_ (pb (pb (z_ne b_ n_ A_ M_ c_ p_) (z_nc (A_.2.2.2.1 (k_nx b_ n_ A_ M_ p_)))) fun a_ => .inr a_.2.1) S_) ∧ (∀ a_, (z_n4 b_ n_ A_ M_ p_) = .inr a_ → ∀ m_, m_ ≤ M_ → re1 b_ n_ T_ (a_d2 A_ (k_nx b_ n_ A_ M_ p_)) m_ S_) ∧ (∀ m_, m_ ≤ M_ → rs1 (a_d2 A_ (k_nx b_ n_ A_ M_ p_)) m_ S_) ∧ True) → ((2 : Nat)) < nn_ → sm_T (mt_P sc_) 8 337 (147, [some (.inr (.inr (some (13, 0)))), none, none, none, none], [], S_) (fun r_ => ∃ u_ S1_, r_ = (.inl u_, S1_, 0) ∧ vq_337 m_ b_ n_ T_ A_ M_ c_ p_ S0_ u_ S1_)) := by
  intro nn_
  induction nn_ with
  | zero => exact ⟨fun _ _ _ _ _ h_ => absurd h_ (Nat.not_lt_zero _), fun _ _ _ _ _ _ h_ => absurd h_ (Nat.not_lt_zero _), fun  _ _ _ _ h_ => absurd h_ (Nat.not_lt_zero _)⟩
  | succ nn_ ih_ =>
    refine ⟨?_, ?_, ?_⟩
    · rintro k_ S_ hI_ hF_ ⟨g72_, k72_, re72_, rs72_, -⟩ hm_
      have le0_ := rg_le ht_ hx_
      have hn1_ := ht_.1
      have hAM_ := (hA_.2 M_ (Nat.le_refl M_)).1
      have t72_ := rtab_fr ht_ hF_ rfl rfl rfl rfl rfl
      refine sm_T_go 1 (c1 := (73, [some (.inr (.inr (some (13, 0)))), some (.inl m_), none, some (.inl k_), none], [.inr (.inr (some (13, 0)))], S_)) rfl ?_
      refine sm_T_cal (d1 := 2) (Q1 := vq_297 b_ n_ T_ (z_n2 b_ n_ A_ M_ p_) S_) rfl rfl (by decide) (vc_297 b_ n_ T_ (z_n2 b_ n_ A_ M_ p_) S_ hI_ (by exact t72_) (by exact g72_) (by (intro q_ e_; have z_ := n2_p e_; rw [z_.1, z_.2.1]; decide))) (fun u_ Sx1_ px4_ => ?_)
      obtain ⟨rfl, hIx2_, hFx3_, px4_⟩ := px4_
      have hFx5_ : ai_fr (sx_W vw_337) S0_ Sx1_ := ai_fr_tr hF_ (fr_le hFx3_ rfl)
      have t73_ := rtab_fr t72_ hFx3_ rfl rfl rfl rfl rfl
      have g73_ : rg b_ n_ T_ (pb (z_n2 b_ n_ A_ M_ p_) (p_ad b_ n_)) Sx1_ := px4_.1
      have re73_ : ∀ m_, m_ ≤ M_ → re1 b_ n_ T_ A_ m_ Sx1_ := fun m_ hm_ => re1_fr (re72_ m_ hm_) hFx3_ rfl rfl rfl rfl rfl rfl
      have rs73_ : ∀ m_, m_ ≤ M_ → rs1 A_ m_ Sx1_ := fun m_ hm_ => rs1_fr (rs72_ m_ hm_) hFx3_ rfl rfl rfl rfl
      have pl73_ : ∀ q_, pb (z_n2 b_ n_ A_ M_ p_) (p_ad b_ n_) = .inr q_ → Sx1_.2.2.1 120 0 (Sx1_.1 13 0 9).toNat = (q_ : Int) := fun q_ hq_ => (rg_le t73_ (by rw [hq_] at g73_; exact g73_)).2.2
      have bx6_ : 0 ≤ Sx1_.1 13 0 9 ∧ Sx1_.1 13 0 9 ≤ 1280 := hIx2_.1 13 0 9 rfl
      refine sm_T_go 5 (c1 := (86, [some (.inr (.inr (some (13, 0)))), some (.inl m_), none, some (.inl k_), some (.inl (Sx1_.1 13 0 9))], [.inl 256, .inr (.inr (some (13, 0)))], Sx1_)) rfl ?_
      refine sm_T_cal (d1 := 3) (Q1 := vq_300 256 b_ n_ T_ (pb (z_n2 b_ n_ A_ M_ p_) (p_ad b_ n_)) Sx1_) rfl rfl (by decide) (vc_300 256 b_ n_ T_ (pb (z_n2 b_ n_ A_ M_ p_) (p_ad b_ n_)) Sx1_ hIx2_ (by exact t73_) (by exact g73_) (by decide)) (fun u_ Sx7_ px10_ => ?_)
      obtain ⟨rfl, hIx8_, hFx9_, px10_⟩ := px10_
      have hFx11_ : ai_fr (sx_W vw_337) S0_ Sx7_ := ai_fr_tr hFx5_ (fr_le hFx9_ rfl)
      have g86_ : rg b_ n_ T_ (pb (z_n4 b_ n_ A_ M_ p_) fun a_ => .inr a_.2) Sx7_ := rg_pb (z_ := pb (z_n2 b_ n_ A_ M_ p_) (p_ad b_ n_)) (ps_ := fun a_ => a_) (g_ := p_nd b_ n_ 256) (by rw [pb_id]; exact px10_) (fun a_ _ => by rw [pb_as]; exact pb_id.symm)
      have re86_ : ∀ m_, m_ ≤ M_ → re1 b_ n_ T_ A_ m_ Sx7_ := fun m_ hm_ => re1_fr (re73_ m_ hm_) hFx9_ rfl rfl rfl rfl rfl rfl
      have rs86_ : ∀ m_, m_ ≤ M_ → rs1 A_ m_ Sx7_ := fun m_ hm_ => rs1_fr (rs73_ m_ hm_) hFx9_ rfl rfl rfl rfl
      have F86_ := hFx9_
      have pl86_ : ∀ a_, (z_n4 b_ n_ A_ M_ p_) = .inr a_ → Sx7_.2.2.1 120 0 (Sx1_.1 13 0 9).toNat = (a_.1 : Int) := fun a_ ha_ => by rw [fr_arr hFx9_ rfl]; obtain ⟨q_, h1_, h2_⟩ := pb_inr ha_; obtain ⟨r_, h3_, h4_⟩ := pb_inr h2_; cases h4_; exact pl73_ q_ h1_
      have k86_ : ∀ a_, (z_n4 b_ n_ A_ M_ p_) = .inr a_ → k_ = p_fn b_ n_ A_ M_ p_ ∧ 0 ≤ k_ ∧ k_ < (A_.1 M_ : Int) ∧ A_.2.2.1 (k_nx b_ n_ A_ M_ p_) = 3 := fun a_ ha_ => by obtain ⟨q_, h1_, h2_⟩ := pb_inr ha_; obtain ⟨q2_, h3_, h4_⟩ := pb_inr h1_; exact k72_ q2_ h3_
      refine sm_T_go 1 (c1 := (90, [some (.inr (.inr (some (13, 0)))), some (.inl m_), none, some (.inl k_), some (.inl (Sx1_.1 13 0 9))], [.inr (.inr (some (13, 0)))], Sx7_)) rfl ?_
      refine sm_T_cal (d1 := 0) (Q1 := vq_292  Sx7_) rfl rfl (by decide) (vc_292  Sx7_ hIx8_ ) (fun u_ Sx12_ px15_ => ?_)
      obtain ⟨rfl, vx17_, rfl, px15_⟩ := px15_
      have e90_ := px15_
      refine sm_T_b0 (a := 0) (z := 15) rfl (fun cx18_ => ?_) (fun cx18_ => ?_)
      · have cx18_ : vx17_ = 0 := of_decide_eq_true cx18_
        have hz_ := wr_if e90_ (by omega)
        obtain ⟨e5_, he5_⟩ := rg_wr g86_ hz_
        refine sm_T_go 0 (c1 := (108, [some (.inr (.inr (some (13, 0)))), some (.inl m_), none, some (.inl k_), some (.inl (Sx1_.1 13 0 9))], [], Sx7_)) rfl ?_
        refine ih_.2.1 k_ (Sx1_.1 13 0 9) Sx7_ hIx8_ hFx11_ ⟨?_, ?_, ?_, ?_, ?_, ?_, trivial⟩ ?_
        · first | exact g86_ | exact rg_fr (w_ := ([], [131], [])) g86_ (ai_fr_aI rfl) rfl rfl rfl
        · exact k86_
        · first | (intro a_ ha_; rw [he5_] at ha_; cases ha_; done) | (intro a_ ha_ m1_ hm1_; exact d2_re (re86_ m1_ hm1_) k54_ (by unfold k_nx; omega))
        · first | (intro m1_ hm1_; exact d2_rs (rs86_ m1_ hm1_)) | (intro m1_ hm1_; exact d2_rs (rs1_fr (w_ := ([], [131], [])) (rs86_ m1_ hm1_) (ai_fr_aI rfl) rfl rfl rfl rfl))
        · first | exact pl86_ | (intro a_ ha_; exact (rd_ne (by decide)).trans (pl86_ a_ ha_))
        · omega
        · omega
      · have cx18_ : ¬ (vx17_ = 0) := of_decide_eq_false cx18_
        have hz_ := rt_if e90_ (by omega)
        obtain ⟨a5_, ha5_⟩ := rg_rt g86_ hz_
        obtain ⟨k51_, k52_, k53_, k54_⟩ := k86_ a5_ ha5_
        refine sm_T_go 4 (c1 := (103, [some (.inr (.inr (some (13, 0)))), some (.inl m_), none, some (.inl k_), some (.inl (Sx1_.1 13 0 9))], [.inl m_, .inl 40, .inr (.inr (some (131, 0)))], Sx7_)) rfl ?_
        refine sm_T_bin (w := 40 * m_) rfl (bi_mul (by omega) (by omega) (by omega)) ?_
        refine sm_T_go 1 (c1 := (105, [some (.inr (.inr (some (13, 0)))), some (.inl m_), none, some (.inl k_), some (.inl (Sx1_.1 13 0 9))], [.inl k_, .inl (40 * m_), .inr (.inr (some (131, 0)))], Sx7_)) rfl ?_
        refine sm_T_bin (w := 40 * m_ + k_) rfl (bi_add (by omega) (by omega) (by omega)) ?_
        refine sm_T_go 1 (c1 := (107, [some (.inr (.inr (some (13, 0)))), some (.inl m_), none, some (.inl k_), some (.inl (Sx1_.1 13 0 9))], [.inl 1, .inl (40 * m_ + k_), .inr (.inr (some (131, 0)))], Sx7_)) rfl ?_
        refine sm_T_zas1 (n := 640) rfl rfl (by omega) (by omega) (by omega) ?_
        have hIx19_ : gi (sm_aI Sx7_ 131 0 (40 * m_ + k_).toNat 1) := gi_aI hIx8_ (show 0 ≤ 1 ∧ 1 ≤ 1 from ⟨by omega, by omega⟩)
        have hFx20_ : ai_fr (sx_W vw_337) S0_ (sm_aI Sx7_ 131 0 (40 * m_ + k_).toNat 1) := ai_fr_tr hFx11_ (ai_fr_aI rfl)
        refine sm_T_go 0 (c1 := (108, [some (.inr (.inr (some (13, 0)))), some (.inl m_), none, some (.inl k_), some (.inl (Sx1_.1 13 0 9))], [], sm_aI Sx7_ 131 0 (40 * m_ + k_).toNat 1)) rfl ?_
        refine ih_.2.1 k_ (Sx1_.1 13 0 9) (sm_aI Sx7_ 131 0 (40 * m_ + k_).toNat 1) hIx19_ hFx20_ ⟨?_, ?_, ?_, ?_, ?_, ?_, trivial⟩ ?_
        · first | exact g86_ | exact rg_fr (w_ := ([], [131], [])) g86_ (ai_fr_aI rfl) rfl rfl rfl
        · exact k86_
        · first | (intro a_ ha_; rw [he5_] at ha_; cases ha_; done) | (intro a_ ha_ m1_ hm1_; exact d2_re (re86_ m1_ hm1_) k54_ (by unfold k_nx; omega))
        · first | (intro m1_ hm1_; exact d2_rs (rs86_ m1_ hm1_)) | (intro m1_ hm1_; exact d2_rs (rs1_fr (w_ := ([], [131], [])) (rs86_ m1_ hm1_) (ai_fr_aI rfl) rfl rfl rfl rfl))
        · first | exact pl86_ | (intro a_ ha_; exact (rd_ne (by decide)).trans (pl86_ a_ ha_))
        · omega
        · omega
    · rintro k_ t4_ S_ hI_ hF_ ⟨g108_, k108_, re108_, rs108_, pl108_, tb_, -⟩ hm_
      have le0_ := rg_le ht_ hx_
      have hn1_ := ht_.1
      have hAM_ := (hA_.2 M_ (Nat.le_refl M_)).1
      have t108_ := rtab_fr ht_ hF_ rfl rfl rfl rfl rfl
      have mo108_ := (hF_.1 13 0 27 rfl).trans hmo_
      have md108_ := (hF_.1 13 0 28 rfl).trans hmd_
      refine sm_T_go 1 (c1 := (109, [some (.inr (.inr (some (13, 0)))), some (.inl m_), none, some (.inl k_), some (.inl t4_)], [.inr (.inr (some (13, 0)))], S_)) rfl ?_
      refine sm_T_cal (d1 := 7) (Q1 := vq_321 b_ n_ T_ 0 (pb (z_n4 b_ n_ A_ M_ p_) fun a_ => .inr a_.2) c_ (a_d2 A_ (k_nx b_ n_ A_ M_ p_)) M_ 0 (fun _ => 0) S_) rfl rfl (by decide) (vc_321 b_ n_ T_ 0 (pb (z_n4 b_ n_ A_ M_ p_) fun a_ => .inr a_.2) c_ (a_d2 A_ (k_nx b_ n_ A_ M_ p_)) M_ 0 (fun _ => 0) S_ hI_ (by exact t108_) (by exact g108_) (by exact Or.inl rfl) (by exact mo108_) (by (intro q_ hq_; obtain ⟨a_, h1_, h2_⟩ := pb_inr hq_; cases h2_; have h0_ := h1_; obtain ⟨q1_, h3_, h4_⟩ := pb_inr h1_; obtain ⟨r_, h5_, h6_⟩ := pb_inr h4_; cases h6_; obtain ⟨p1_, h7_, h8_⟩ := pb_inr h3_; obtain ⟨e1_, e2_, e3_⟩ := n2_p h7_; subst e1_; have k1_ := p_ad_ok le0_.1 (by omega) h8_; have k2_ := nd_ok k1_.2.2.1 (by decide) h5_; have k3_ := k1_.2.1; have k4_ := k2_.1; exact ⟨by show c_.length ≤ 3 * r_; omega, en_0 (a_d2_ok hA_) md108_ (re108_ _ h0_)⟩)) (by exact pm_0 (a_d2_ok hA_))) (fun u_ Sx1_ px4_ => ?_)
      obtain ⟨rfl, hIx2_, hFx3_, px4_⟩ := px4_
      have hFx5_ : ai_fr (sx_W vw_337) S0_ Sx1_ := ai_fr_tr hF_ (fr_le hFx3_ rfl)
      have g109_ : rg b_ n_ T_ (pb (z_ne b_ n_ A_ M_ c_ p_) fun a_ => .inr a_.2.1) Sx1_ := by have z_ := px4_.1; simp only [pb_as, pb_ir, xd_0, d2_xd] at z_; unfold z_ne; simp only [pb_as, pb_ir]; exact z_
      have v109_ : ∀ a_, z_ne b_ n_ A_ M_ c_ p_ = .inr a_ → Sx1_.2.2.1 138 0 (0 : Int).toNat = h_tp a_.2.2.1 := fun a_ ha_ => by obtain ⟨a0_, h1_, h2_⟩ := pb_inr ha_; obtain ⟨r_, h5_, h6_⟩ := pb_inr h2_; cases h6_; have k_ := px4_.2 r_ (by rw [h1_]; simp only [pb_ir]; rw [xd_0, d2_xd]; exact h5_); exact vs_1 k_.1 k_.2
      have z4_ : ∀ a_, z_ne b_ n_ A_ M_ c_ p_ = .inr a_ → ∃ r_, (z_n4 b_ n_ A_ M_ p_) = .inr (a_.1, r_) := fun a_ ha_ => by obtain ⟨a0_, h1_, h2_⟩ := pb_inr ha_; obtain ⟨r_, h5_, h6_⟩ := pb_inr h2_; cases h6_; exact ⟨a0_.2, h1_⟩
      have re109_ : ∀ a_, (z_n4 b_ n_ A_ M_ p_) = .inr a_ → ∀ m_, m_ ≤ M_ → re1 b_ n_ T_ (a_d2 A_ (k_nx b_ n_ A_ M_ p_)) m_ Sx1_ := fun a_ ha_ m_ hm_ => re1_fr (re108_ a_ ha_ m_ hm_) hFx3_ rfl rfl rfl rfl rfl rfl
      have rs109_ : ∀ m_, m_ ≤ M_ → rs1 (a_d2 A_ (k_nx b_ n_ A_ M_ p_)) m_ Sx1_ := fun m_ hm_ => rs1_fr (rs108_ m_ hm_) hFx3_ rfl rfl rfl rfl
      have pl109_ : ∀ a_, (z_n4 b_ n_ A_ M_ p_) = .inr a_ → Sx1_.2.2.1 120 0 t4_.toNat = (a_.1 : Int) := fun a_ ha_ => by rw [fr_arr hFx3_ rfl]; exact pl108_ a_ ha_
      refine sm_T_go 1 (c1 := (113, [some (.inr (.inr (some (13, 0)))), some (.inl m_), none, some (.inl k_), some (.inl t4_)], [.inr (.inr (some (13, 0)))], Sx1_)) rfl ?_
      refine sm_T_cal (d1 := 0) (Q1 := vq_292  Sx1_) rfl rfl (by decide) (vc_292  Sx1_ hIx2_ ) (fun u_ Sx6_ px9_ => ?_)
      obtain ⟨rfl, vx11_, rfl, px9_⟩ := px9_
      have e113_ := px9_
      refine sm_T_b0 (a := 0) (z := 31) rfl (fun cx12_ => ?_) (fun cx12_ => ?_)
      · have cx12_ : vx11_ = 0 := of_decide_eq_true cx12_
        have hz_ := wr_if e113_ (by omega)
        obtain ⟨e5_, he5_⟩ := rg_wr g109_ hz_
        have g6x : rg b_ n_ T_ (pb (pb (z_ne b_ n_ A_ M_ c_ p_) (z_nc (A_.2.2.2.1 (k_nx b_ n_ A_ M_ p_)))) fun a_ => .inr a_.2.1) _ := rg_il g109_ he5_
        have re6_ := re109_
        have rs6_ := rs109_
        refine sm_T_go 0 (c1 := (147, [some (.inr (.inr (some (13, 0)))), some (.inl m_), none, some (.inl k_), some (.inl t4_)], [], Sx1_)) rfl ?_
        refine sm_T_wk [some (.inr (.inr (some (13, 0)))), none, none, none, none] (by exact ⟨rfl, trivial⟩) ?_
        refine ih_.2.2  Sx1_ hIx2_ hFx5_ ⟨?_, ?_, ?_, trivial⟩ ?_
        · exact g6x
        · exact re6_
        · exact rs6_
        · omega
      · have cx12_ : ¬ (vx11_ = 0) := of_decide_eq_false cx12_
        have hz_ := rt_if e113_ (by omega)
        obtain ⟨a5_, ha5_⟩ := rg_rt g109_ hz_
        obtain ⟨r5_, hr5_⟩ := z4_ a5_ ha5_
        have v5_ := v109_ a5_ ha5_
        obtain ⟨k51_, k52_, k53_, k54_⟩ := k108_ _ hr5_
        have wd5_ := ((re109_ _ hr5_ M_ (Nat.le_refl M_)).2 (p_fn b_ n_ A_ M_ p_).toNat (by rw [d2_1.1]; omega)).2.2.1
        rw [d2_1.2.2.1, show 40 * M_ + (p_fn b_ n_ A_ M_ p_).toNat = (40 * m_ + k_).toNat by omega] at wd5_
        have kx5_ : (k_nx b_ n_ A_ M_ p_) = (40 * m_ + k_).toNat := by unfold k_nx; omega
        have pl5_ := pl109_ _ hr5_
        refine sm_T_go 3 (c1 := (124, [some (.inr (.inr (some (13, 0)))), some (.inl m_), none, some (.inl k_), some (.inl t4_)], [.inl 0, .inr (.inr (some (138, 0)))], Sx1_)) rfl ?_
        refine sm_T_iald (n := 1024) rfl rfl (by omega) (by omega) ?_
        have bx13_ : (-2147483648) ≤ Sx1_.2.2.1 138 0 (0 : Int).toNat ∧ Sx1_.2.2.1 138 0 (0 : Int).toNat ≤ 2147483647 := hIx2_.2 138 0 _
        refine sm_T_go 4 (c1 := (132, [some (.inr (.inr (some (13, 0)))), some (.inl m_), none, some (.inl k_), some (.inl t4_)], [.inl m_, .inl 40, .inr (.inr (some (129, 0))), .inl (Sx1_.2.2.1 138 0 (0 : Int).toNat)], Sx1_)) rfl ?_
        refine sm_T_bin (w := 40 * m_) rfl (bi_mul (by omega) (by omega) (by omega)) ?_
        refine sm_T_go 1 (c1 := (134, [some (.inr (.inr (some (13, 0)))), some (.inl m_), none, some (.inl k_), some (.inl t4_)], [.inl k_, .inl (40 * m_), .inr (.inr (some (129, 0))), .inl (Sx1_.2.2.1 138 0 (0 : Int).toNat)], Sx1_)) rfl ?_
        refine sm_T_bin (w := 40 * m_ + k_) rfl (bi_add (by omega) (by omega) (by omega)) ?_
        refine sm_T_iald (n := 640) rfl rfl (by omega) (by omega) ?_
        have bx14_ : 0 ≤ Sx1_.2.2.1 129 0 (40 * m_ + k_).toNat ∧ Sx1_.2.2.1 129 0 (40 * m_ + k_).toNat ≤ 8 := hIx2_.2 129 0 _
        refine sm_T_br (a := 0) (z := 11) rfl (fun cx15_ => ?_) (fun cx15_ => ?_)
        · have cx15_ : (Sx1_.2.2.1 138 0 (0 : Int).toNat) = (Sx1_.2.2.1 129 0 (40 * m_ + k_).toNat) := of_decide_eq_true cx15_
          have g6x : rg b_ n_ T_ (pb (pb (z_ne b_ n_ A_ M_ c_ p_) (z_nc (A_.2.2.2.1 (k_nx b_ n_ A_ M_ p_)))) fun a_ => .inr a_.2.1) _ := rg_ok g109_ (fun a_ ha_ => by rw [ha5_] at ha_; cases ha_; unfold z_nc; rw [if_pos (by rw [kx5_]; omega)])
          have re6_ := re109_
          have rs6_ := rs109_
          refine sm_T_go 0 (c1 := (147, [some (.inr (.inr (some (13, 0)))), some (.inl m_), none, some (.inl k_), some (.inl t4_)], [], Sx1_)) rfl ?_
          refine sm_T_wk [some (.inr (.inr (some (13, 0)))), none, none, none, none] (by exact ⟨rfl, trivial⟩) ?_
          refine ih_.2.2  Sx1_ hIx2_ hFx5_ ⟨?_, ?_, ?_, trivial⟩ ?_
          · exact g6x
          · exact re6_
          · exact rs6_
          · omega
        · have cx15_ : ¬ ((Sx1_.2.2.1 138 0 (0 : Int).toNat) = (Sx1_.2.2.1 129 0 (40 * m_ + k_).toNat)) := of_decide_eq_false cx15_
          refine sm_T_go 3 (c1 := (144, [some (.inr (.inr (some (13, 0)))), some (.inl m_), none, some (.inl k_), some (.inl t4_)], [.inl t4_, .inl 13, .inr (.inr (some (13, 0)))], Sx1_)) rfl ?_
          refine sm_T_cal (d1 := 0) (Q1 := vq_294 13 t4_ Sx1_) rfl rfl (by decide) (vc_294 13 t4_ Sx1_ hIx2_ (by decide) (by omega)) (fun u_ Sx16_ px19_ => ?_)
          obtain ⟨rfl, hIx17_, hFx18_, px19_⟩ := px19_
          have hFx20_ : ai_fr (sx_W vw_337) S0_ Sx16_ := ai_fr_tr hFx5_ (fr_le hFx18_ rfl)
          have g6x : rg b_ n_ T_ (pb (pb (z_ne b_ n_ A_ M_ c_ p_) (z_nc (A_.2.2.2.1 (k_nx b_ n_ A_ M_ p_)))) fun a_ => .inr a_.2.1) Sx16_ := rg_fb (fl_ := 13) (pl_ := a5_.1) g109_ hz_ (fun a_ ha_ => by rw [ha5_] at ha_; cases ha_; unfold z_nc; rw [if_neg (by rw [kx5_]; omega)]) (by decide) (by rcases px19_ with w9_ | w9_; (exact Or.inl w9_); (exact Or.inr ⟨w9_.1, w9_.2.1, w9_.2.2.trans pl5_⟩))
          have re6_ : ∀ a_, (z_n4 b_ n_ A_ M_ p_) = .inr a_ → ∀ m_, m_ ≤ M_ → re1 b_ n_ T_ (a_d2 A_ (k_nx b_ n_ A_ M_ p_)) m_ Sx16_ := fun a_ ha_ m_ hm_ => re1_fr (re109_ a_ ha_ m_ hm_) hFx18_ rfl rfl rfl rfl rfl rfl
          have rs6_ : ∀ m_, m_ ≤ M_ → rs1 (a_d2 A_ (k_nx b_ n_ A_ M_ p_)) m_ Sx16_ := fun m_ hm_ => rs1_fr (rs109_ m_ hm_) hFx18_ rfl rfl rfl rfl
          refine sm_T_go 0 (c1 := (147, [some (.inr (.inr (some (13, 0)))), some (.inl m_), none, some (.inl k_), some (.inl t4_)], [], Sx16_)) rfl ?_
          refine sm_T_wk [some (.inr (.inr (some (13, 0)))), none, none, none, none] (by exact ⟨rfl, trivial⟩) ?_
          refine ih_.2.2  Sx16_ hIx17_ hFx20_ ⟨?_, ?_, ?_, trivial⟩ ?_
          · exact g6x
          · exact re6_
          · exact rs6_
          · omega
    · rintro  S_ hI_ hF_ ⟨g147_, re147_, rs147_, -⟩ hm_
      have le0_ := rg_le ht_ hx_
      have hn1_ := ht_.1
      have hAM_ := (hA_.2 M_ (Nat.le_refl M_)).1
      have t147_ := rtab_fr ht_ hF_ rfl rfl rfl rfl rfl
      refine sm_T_go 2 (c1 := (150, [some (.inr (.inr (some (13, 0)))), none, none, none, none], [.inl 59, .inr (.inr (some (13, 0)))], S_)) rfl ?_
      refine sm_T_cal (d1 := 3) (Q1 := vq_300 59 b_ n_ T_ (pb (pb (z_ne b_ n_ A_ M_ c_ p_) (z_nc (A_.2.2.2.1 (k_nx b_ n_ A_ M_ p_)))) fun a_ => .inr a_.2.1) S_) rfl rfl (by decide) (vc_300 59 b_ n_ T_ (pb (pb (z_ne b_ n_ A_ M_ c_ p_) (z_nc (A_.2.2.2.1 (k_nx b_ n_ A_ M_ p_)))) fun a_ => .inr a_.2.1) S_ hI_ (by exact t147_) (by exact g147_) (by decide)) (fun u_ Sx1_ px4_ => ?_)
      obtain ⟨rfl, hIx2_, hFx3_, px4_⟩ := px4_
      have hFx5_ : ai_fr (sx_W vw_337) S0_ Sx1_ := ai_fr_tr hF_ (fr_le hFx3_ rfl)
      have g150_ : rg b_ n_ T_ (pb (pb (pb (z_ne b_ n_ A_ M_ c_ p_) (z_nc (A_.2.2.2.1 (k_nx b_ n_ A_ M_ p_)))) (z_ns b_ n_)) fun a_ => .inr a_.2) Sx1_ := rg_pb px4_ (fun a_ _ => by unfold z_ns; rw [pb_as]; exact pb_id.symm)
      have F150_ := hFx3_
      refine sm_T_rv rfl ⟨_, _, rfl, rfl, hIx2_, hFx5_, ?_⟩
      refine ⟨?_, fun r_ hr_ => ?_⟩
      · rw [ne_eq2, pb_as]; exact g150_
      · have k_ := ne_ok hn1_ hA_ le0_.1 hc_ hr_
        rw [ne_eq2] at hr_
        obtain ⟨a_, h1_, h2_⟩ := pb_inr hr_
        obtain ⟨a2_, h3_, h4_⟩ := pb_inr h1_
        obtain ⟨a3_, h5_, h6_⟩ := pb_inr h3_
        obtain ⟨a4_, h7_, h8_⟩ := pb_inr h5_
        refine ⟨k_.1, fun m_ hm_ => ?_, fun m_ hm_ => ?_, k_.2.1⟩
        · rw [k_.2.2.2]; exact re1_fr (re147_ a4_ h7_ m_ hm_) F150_ rfl rfl rfl rfl rfl rfl
        · rw [k_.2.2.2]; exact rs1_fr (rs147_ m_ hm_) F150_ rfl rfl rfl rfl
set_option maxHeartbeats 1500000 in
theorem vc_337 {sc_ : Nat × (Nat → Int)} (m_ : Int) (b_ : Nat → Int) (n_ : Nat) (T_ : Nat) (A_ : pA) (M_ : Nat) (c_ : List Int) (p_ : Nat) (S0_ : sm_S) (hI_ : gi S0_) (ht_ : rtab b_ n_ T_ S0_) (hx_ : rg b_ n_ T_ (.inr p_) S0_) (hmo_ : (S0_.1 13 0 27) = 0) (hmm_ : m_ = (M_ : Int) ∧ M_ ≤ 15) (hmd_ : (S0_.1 13 0 28) = (M_ : Int)) (hA_ : a_ok b_ n_ A_ M_) (hre_ : ∀ m_, m_ ≤ M_ → re1 b_ n_ T_ A_ m_ S0_) (hrs_ : ∀ m_, m_ ≤ M_ → rs1 A_ m_ S0_) (hc_ : c_.length ≤ 3 * p_) : sm_T (mt_P sc_) 8 337 (0, [some (.inr (.inr (some (13, 0)))), some (.inl m_), none, none, none], [], S0_) (fun r_ => ∃ u_ S1_, r_ = (.inl u_, S1_, 0) ∧ vq_337 m_ b_ n_ T_ A_ M_ c_ p_ S0_ u_ S1_) := by
  have hF_ : ai_fr (sx_W vw_337) S0_ S0_ := ai_fr_rf
  have le0_ := rg_le ht_ hx_
  have hn1_ := ht_.1
  have hAM_ := (hA_.2 M_ (Nat.le_refl M_)).1
  refine sm_T_go 2 (c1 := (2, [some (.inr (.inr (some (13, 0)))), some (.inl m_), none, none, none], [.inl 1, .inr (.inr (some (13, 0)))], S0_)) rfl ?_
  refine sm_T_cal (d1 := 1) (Q1 := vq_299 1 b_ n_ T_ (.inr p_) S0_) rfl rfl (by decide) (vc_299 1 b_ n_ T_ (.inr p_) S0_ hI_ (by exact ht_) (by exact hx_) (by decide)) (fun u_ Sx1_ px4_ => ?_)
  obtain ⟨vx6_, rfl, hIx2_, hFx3_, px4_⟩ := px4_
  have hFx5_ : ai_fr (sx_W vw_337) S0_ Sx1_ := ai_fr_tr hF_ (fr_le hFx3_ rfl)
  have t2_ := rtab_fr ht_ hFx3_ rfl rfl rfl rfl rfl
  have re2_ : ∀ m_, m_ ≤ M_ → re1 b_ n_ T_ A_ m_ Sx1_ := fun m_ hm_ => re1_fr (hre_ m_ hm_) hFx3_ rfl rfl rfl rfl rfl rfl
  have rs2_ : ∀ m_, m_ ≤ M_ → rs1 A_ m_ Sx1_ := fun m_ hm_ => rs1_fr (hrs_ m_ hm_) hFx3_ rfl rfl rfl rfl
  have mo2_ := (hFx3_.1 13 0 27 rfl).trans hmo_
  have md2_ := (hFx3_.1 13 0 28 rfl).trans hmd_
  have a2_ := px4_.1
  have g2_ : rg b_ n_ T_ (p_du b_ n_ 1 p_) Sx1_ := px4_.2
  have at2_ := hFx3_.1 13 0 9 rfl
  have v2b : 0 ≤ vx6_ ∧ vx6_ ≤ 1280 := by rw [a2_, ← at2_]; exact hIx2_.1 13 0 9 rfl
  obtain ⟨i2_, hi21_, hi22_⟩ := id hx_.2
  have ra2_ := rp_at t2_ hi22_
  have rt2_ : lx_kd b_ n_ p_ = 1 → rtk b_ n_ T_ vx6_ p_ ∧ Sx1_.2.2.1 120 0 vx6_.toNat = (p_ : Int) ∧ Sx1_.2.2.1 119 0 vx6_.toNat ≠ 4 := by intro q3_; rw [show vx6_ = (i2_ : Int) by omega, Int.toNat_natCast]; exact ⟨(rp_rtk t2_ hi22_ q3_).1, ra2_.2.1, by rw [ra2_.1, q3_]; decide⟩
  refine sm_T_go 2 (c1 := (7, [some (.inr (.inr (some (13, 0)))), some (.inl m_), some (.inl vx6_), none, none], [.inr (.inr (some (13, 0)))], Sx1_)) rfl ?_
  refine sm_T_cal (d1 := 0) (Q1 := vq_292  Sx1_) rfl rfl (by decide) (vc_292  Sx1_ hIx2_ ) (fun u_ Sx7_ px10_ => ?_)
  obtain ⟨rfl, vx12_, rfl, px10_⟩ := px10_
  have e7_ := px10_
  refine sm_T_b0 (a := 0) (z := 12) rfl (fun cx13_ => ?_) (fun cx13_ => ?_)
  · have cx13_ : vx12_ = 0 := of_decide_eq_true cx13_
    have hz_ := wr_if e7_ (by omega)
    obtain ⟨e5_, he5_⟩ := rg_w g2_ hz_
    have n2w : (z_n2 b_ n_ A_ M_ p_) = .inl e5_ := by unfold z_n2; rw [he5_]; rfl
    refine sm_T_go 3 (c1 := (25, [some (.inr (.inr (some (13, 0)))), some (.inl m_), some (.inl vx6_), some (.inl (-1)), none], [.inr (.inr (some (13, 0)))], Sx1_)) rfl ?_
    refine sm_T_cal (d1 := 0) (Q1 := vq_292  Sx1_) rfl rfl (by decide) (vc_292  Sx1_ hIx2_ ) (fun u_ Sx14_ px17_ => ?_)
    obtain ⟨rfl, vx19_, rfl, px17_⟩ := px17_
    have e25_ := px17_
    refine sm_T_b0 (a := 0) (z := 44) rfl (fun cx20_ => ?_) (fun cx20_ => ?_)
    · have cx20_ : vx19_ = 0 := of_decide_eq_true cx20_
      have hz3_ := wr_if e25_ (by omega)
      refine sm_T_go 0 (c1 := (72, [some (.inr (.inr (some (13, 0)))), some (.inl m_), some (.inl vx6_), some (.inl (-1)), none], [], Sx1_)) rfl ?_
      refine sm_T_wk [some (.inr (.inr (some (13, 0)))), some (.inl m_), none, some (.inl (-1)), none] (by exact ⟨rfl, rfl, rfl, trivial⟩) ?_
      refine (vl_337 m_ b_ n_ T_ A_ M_ c_ p_ S0_ ht_ hx_ hmo_ hmm_ hmd_ hA_ hre_ hrs_ hc_ _).1 (-1) Sx1_ hIx2_ hFx5_ ⟨?_, ?_, ?_, ?_, trivial⟩ (Nat.lt_succ_self _)
      · first | exact g69_ | (exact absurd hz3_ hz_) | (exact absurd hz_ hz3_) | (rw [n2w]; rw [he5_] at g2_; exact g2_) | (have cn_ : ¬ c_ne b_ n_ A_ M_ p_ := (by unfold c_ne; rintro (z_ | z_); omega; (apply z_; show A_.2.2.1 (k_nx b_ n_ A_ M_ p_) = 3; have z2_ := q33_.1; have z3_ := q33_.2.1; have z4_ := q33_.2.2; by_cases z5_ : A_.2.2.1 (k_nx b_ n_ A_ M_ p_) = 4; (rw [if_pos z5_] at z3_; omega); (unfold r_s2 at z2_; split at z2_ <;> (try split at z2_) <;> omega))); rw [n2c, if_neg cn_]; exact g2r)
      · first | (exact absurd hz3_ hz_) | (exact absurd hz_ hz3_) | (intro q_ hq_; rw [n2w] at hq_; cases hq_; done) | (intro q_ hq_; exfalso; rcases w69_ with z_ | z_; (rw [z_] at hq_; cases hq_); exact z_ rfl) | (intro q_ hq_; have cn_ : ¬ c_ne b_ n_ A_ M_ p_ := (by unfold c_ne; rintro (z_ | z_); omega; (apply z_; show A_.2.2.1 (k_nx b_ n_ A_ M_ p_) = 3; have z2_ := q33_.1; have z3_ := q33_.2.1; have z4_ := q33_.2.2; by_cases z5_ : A_.2.2.1 (k_nx b_ n_ A_ M_ p_) = 4; (rw [if_pos z5_] at z3_; omega); (unfold r_s2 at z2_; split at z2_ <;> (try split at z2_) <;> omega))); exact ⟨e16_, by omega, by omega, Decidable.byContradiction fun z_ => cn_ (Or.inr z_)⟩)
      · first | exact re69_ | exact re2_
      · first | exact rs69_ | exact rs2_
    · have cx20_ : ¬ (vx19_ = 0) := of_decide_eq_false cx20_
      have hz3_ := rt_if e25_ (by omega)
      refine sm_T_go 6 (c1 := (69, [some (.inr (.inr (some (13, 0)))), some (.inl m_), some (.inl vx6_), some (.inl (-1)), none], [.inl vx6_, .inl 11, .inr (.inr (some (13, 0)))], Sx1_)) rfl ?_
      refine sm_T_cal (d1 := 0) (Q1 := vq_293 11 vx6_ Sx1_) rfl rfl (by decide) (vc_293 11 vx6_ Sx1_ hIx2_ (by decide) (by omega)) (fun u_ Sx21_ px24_ => ?_)
      obtain ⟨rfl, hIx22_, hFx23_, px24_⟩ := px24_
      have hFx25_ : ai_fr (sx_W vw_337) S0_ Sx21_ := ai_fr_tr hFx5_ (fr_le hFx23_ rfl)
      have re69_ : ∀ m_, m_ ≤ M_ → re1 b_ n_ T_ A_ m_ Sx21_ := fun m_ hm_ => re1_fr (re2_ m_ hm_) hFx23_ rfl rfl rfl rfl rfl rfl
      have rs69_ : ∀ m_, m_ ≤ M_ → rs1 A_ m_ Sx21_ := fun m_ hm_ => rs1_fr (rs2_ m_ hm_) hFx23_ rfl rfl rfl rfl
      have g69_ : rg b_ n_ T_ (z_n2 b_ n_ A_ M_ p_) Sx21_ := by first | (exact absurd hz3_ hz_) | (have cn_ : c_ne b_ n_ A_ M_ p_ := (by unfold c_ne; first | (left; omega) | (right; intro z_; have z_ : A_.2.2.1 (k_nx b_ n_ A_ M_ p_) = 3 := z_; rw [z_] at q33_; have z1_ : r_s2 3 = 4 := rfl; have z2_ := q33_.1; have z3_ := q33_.2.1; rw [if_neg (by decide)] at z3_; omega)); rw [n2c, if_pos cn_]; rcases px24_ with z_ | z_; (exact absurd hz_ z_.1); (exact ⟨z_.2.1.trans (if_neg rt3_.2.2), z_.2.2.trans rt3_.2.1, by show (11 : Int) ≠ 0; decide⟩))
      have w69_ : (z_n2 b_ n_ A_ M_ p_) = .inl (11, p_) ∨ S0_.1 13 0 10 ≠ S0_.1 13 0 10 := by first | (exact absurd hz3_ hz_) | (have cn_ : c_ne b_ n_ A_ M_ p_ := (by unfold c_ne; first | (left; omega) | (right; intro z_; have z_ : A_.2.2.1 (k_nx b_ n_ A_ M_ p_) = 3 := z_; rw [z_] at q33_; have z1_ : r_s2 3 = 4 := rfl; have z2_ := q33_.1; have z3_ := q33_.2.1; rw [if_neg (by decide)] at z3_; omega)); left; rw [n2c, if_pos cn_])
      refine sm_T_go 0 (c1 := (72, [some (.inr (.inr (some (13, 0)))), some (.inl m_), some (.inl vx6_), some (.inl (-1)), none], [], Sx21_)) rfl ?_
      refine sm_T_wk [some (.inr (.inr (some (13, 0)))), some (.inl m_), none, some (.inl (-1)), none] (by exact ⟨rfl, rfl, rfl, trivial⟩) ?_
      refine (vl_337 m_ b_ n_ T_ A_ M_ c_ p_ S0_ ht_ hx_ hmo_ hmm_ hmd_ hA_ hre_ hrs_ hc_ _).1 (-1) Sx21_ hIx22_ hFx25_ ⟨?_, ?_, ?_, ?_, trivial⟩ (Nat.lt_succ_self _)
      · first | exact g69_ | (exact absurd hz3_ hz_) | (exact absurd hz_ hz3_) | (rw [n2w]; rw [he5_] at g2_; exact g2_) | (have cn_ : ¬ c_ne b_ n_ A_ M_ p_ := (by unfold c_ne; rintro (z_ | z_); omega; (apply z_; show A_.2.2.1 (k_nx b_ n_ A_ M_ p_) = 3; have z2_ := q33_.1; have z3_ := q33_.2.1; have z4_ := q33_.2.2; by_cases z5_ : A_.2.2.1 (k_nx b_ n_ A_ M_ p_) = 4; (rw [if_pos z5_] at z3_; omega); (unfold r_s2 at z2_; split at z2_ <;> (try split at z2_) <;> omega))); rw [n2c, if_neg cn_]; exact g2r)
      · first | (exact absurd hz3_ hz_) | (exact absurd hz_ hz3_) | (intro q_ hq_; rw [n2w] at hq_; cases hq_; done) | (intro q_ hq_; exfalso; rcases w69_ with z_ | z_; (rw [z_] at hq_; cases hq_); exact z_ rfl) | (intro q_ hq_; have cn_ : ¬ c_ne b_ n_ A_ M_ p_ := (by unfold c_ne; rintro (z_ | z_); omega; (apply z_; show A_.2.2.1 (k_nx b_ n_ A_ M_ p_) = 3; have z2_ := q33_.1; have z3_ := q33_.2.1; have z4_ := q33_.2.2; by_cases z5_ : A_.2.2.1 (k_nx b_ n_ A_ M_ p_) = 4; (rw [if_pos z5_] at z3_; omega); (unfold r_s2 at z2_; split at z2_ <;> (try split at z2_) <;> omega))); exact ⟨e16_, by omega, by omega, Decidable.byContradiction fun z_ => cn_ (Or.inr z_)⟩)
      · first | exact re69_ | exact re2_
      · first | exact rs69_ | exact rs2_
  · have cx13_ : ¬ (vx12_ = 0) := of_decide_eq_false cx13_
    have hz_ := rt_if e7_ (by omega)
    have k1_ : lx_kd b_ n_ p_ = 1 := by by_cases z_ : lx_kd b_ n_ p_ = 1; exact z_; (exfalso; rw [show p_du b_ n_ 1 p_ = .inl (2, p_) from if_neg z_] at g2_; exact g2_.2.2 (g2_.1.symm.trans hz_))
    have g2r := g2_
    rw [show p_du b_ n_ 1 p_ = .inr p_ from if_pos k1_] at g2r
    have rt3_ := rt2_ k1_
    have n2c : (z_n2 b_ n_ A_ M_ p_) = if c_ne b_ n_ A_ M_ p_ then .inl (11, p_) else .inr p_ := by unfold z_n2 p_du; rw [if_pos k1_]; rfl
    refine sm_T_go 3 (c1 := (16, [some (.inr (.inr (some (13, 0)))), some (.inl m_), some (.inl vx6_), none, none], [.inl vx6_, .inl m_, .inr (.inr (some (13, 0)))], Sx1_)) rfl ?_
    refine sm_T_cal (d1 := 1) (Q1 := vq_302 m_ vx6_ b_ n_ T_ A_ M_ p_ Sx1_) rfl rfl (by decide) (vc_302 m_ vx6_ b_ n_ T_ A_ M_ p_ Sx1_ hIx2_ (by exact t2_) (by exact hmm_) (by exact re2_ M_ (Nat.le_refl M_)) (by exact hAM_) (by exact rt3_.1)) (fun u_ Sx26_ px29_ => ?_)
    obtain ⟨rfl, vx31_, rfl, px29_⟩ := px29_
    have e16_ := px29_
    have fb_ := p_fd_b (f_ := fun s_ => nm_q b_ n_ (A_.2.1 (40 * M_ + s_)) p_) (A_.1 M_)
    have fb_ : -1 ≤ p_fn b_ n_ A_ M_ p_ ∧ p_fn b_ n_ A_ M_ p_ < (A_.1 M_ : Int) := fb_
    have q16_ : p_fn b_ n_ A_ M_ p_ ≠ -1 → Sx1_.2.2.1 128 0 (40 * m_ + vx31_).toNat = r_s2 (A_.2.2.1 (k_nx b_ n_ A_ M_ p_)) ∧ Sx1_.2.2.1 131 0 (40 * m_ + vx31_).toNat = (if A_.2.2.1 (k_nx b_ n_ A_ M_ p_) = 4 then 1 else 0) ∧ (0 ≤ A_.2.2.1 (k_nx b_ n_ A_ M_ p_) ∧ A_.2.2.1 (k_nx b_ n_ A_ M_ p_) ≤ 5) := by intro z_; rw [show (40 * m_ + vx31_).toNat = 40 * M_ + (p_fn b_ n_ A_ M_ p_).toNat by omega]; have w_ := (re2_ M_ (Nat.le_refl M_)).2 (p_fn b_ n_ A_ M_ p_).toNat (by omega); exact ⟨w_.2.1, w_.2.2.2.2, ((hA_.2 M_ (Nat.le_refl M_)).2 (p_fn b_ n_ A_ M_ p_).toNat (by omega)).2.1⟩
    have v16b : -1 ≤ vx31_ ∧ vx31_ < 40 := by omega
    refine sm_T_go 3 (c1 := (25, [some (.inr (.inr (some (13, 0)))), some (.inl m_), some (.inl vx6_), some (.inl vx31_), none], [.inr (.inr (some (13, 0)))], Sx1_)) rfl ?_
    refine sm_T_cal (d1 := 0) (Q1 := vq_292  Sx1_) rfl rfl (by decide) (vc_292  Sx1_ hIx2_ ) (fun u_ Sx32_ px35_ => ?_)
    obtain ⟨rfl, vx37_, rfl, px35_⟩ := px35_
    have e25_ := px35_
    refine sm_T_b0 (a := 0) (z := 44) rfl (fun cx38_ => ?_) (fun cx38_ => ?_)
    · have cx38_ : vx37_ = 0 := of_decide_eq_true cx38_
      have hz3_ := wr_if e25_ (by omega)
      refine sm_T_go 0 (c1 := (72, [some (.inr (.inr (some (13, 0)))), some (.inl m_), some (.inl vx6_), some (.inl vx31_), none], [], Sx1_)) rfl ?_
      refine sm_T_wk [some (.inr (.inr (some (13, 0)))), some (.inl m_), none, some (.inl vx31_), none] (by exact ⟨rfl, rfl, rfl, trivial⟩) ?_
      refine (vl_337 m_ b_ n_ T_ A_ M_ c_ p_ S0_ ht_ hx_ hmo_ hmm_ hmd_ hA_ hre_ hrs_ hc_ _).1 vx31_ Sx1_ hIx2_ hFx5_ ⟨?_, ?_, ?_, ?_, trivial⟩ (Nat.lt_succ_self _)
      · first | exact g69_ | (exact absurd hz3_ hz_) | (exact absurd hz_ hz3_) | (rw [n2w]; rw [he5_] at g2_; exact g2_) | (have cn_ : ¬ c_ne b_ n_ A_ M_ p_ := (by unfold c_ne; rintro (z_ | z_); omega; (apply z_; show A_.2.2.1 (k_nx b_ n_ A_ M_ p_) = 3; have z2_ := q33_.1; have z3_ := q33_.2.1; have z4_ := q33_.2.2; by_cases z5_ : A_.2.2.1 (k_nx b_ n_ A_ M_ p_) = 4; (rw [if_pos z5_] at z3_; omega); (unfold r_s2 at z2_; split at z2_ <;> (try split at z2_) <;> omega))); rw [n2c, if_neg cn_]; exact g2r)
      · first | (exact absurd hz3_ hz_) | (exact absurd hz_ hz3_) | (intro q_ hq_; rw [n2w] at hq_; cases hq_; done) | (intro q_ hq_; exfalso; rcases w69_ with z_ | z_; (rw [z_] at hq_; cases hq_); exact z_ rfl) | (intro q_ hq_; have cn_ : ¬ c_ne b_ n_ A_ M_ p_ := (by unfold c_ne; rintro (z_ | z_); omega; (apply z_; show A_.2.2.1 (k_nx b_ n_ A_ M_ p_) = 3; have z2_ := q33_.1; have z3_ := q33_.2.1; have z4_ := q33_.2.2; by_cases z5_ : A_.2.2.1 (k_nx b_ n_ A_ M_ p_) = 4; (rw [if_pos z5_] at z3_; omega); (unfold r_s2 at z2_; split at z2_ <;> (try split at z2_) <;> omega))); exact ⟨e16_, by omega, by omega, Decidable.byContradiction fun z_ => cn_ (Or.inr z_)⟩)
      · first | exact re69_ | exact re2_
      · first | exact rs69_ | exact rs2_
    · have cx38_ : ¬ (vx37_ = 0) := of_decide_eq_false cx38_
      have hz3_ := rt_if e25_ (by omega)
      refine sm_T_go 2 (c1 := (33, [some (.inr (.inr (some (13, 0)))), some (.inl m_), some (.inl vx6_), some (.inl vx31_), none], [.inl (-1), .inl vx31_], Sx1_)) rfl ?_
      refine sm_T_br (a := 0) (z := 32) rfl (fun cx39_ => ?_) (fun cx39_ => ?_)
      · have cx39_ : vx31_ = (-1) := of_decide_eq_true cx39_
        refine sm_T_go 3 (c1 := (69, [some (.inr (.inr (some (13, 0)))), some (.inl m_), some (.inl vx6_), some (.inl vx31_), none], [.inl vx6_, .inl 11, .inr (.inr (some (13, 0)))], Sx1_)) rfl ?_
        refine sm_T_cal (d1 := 0) (Q1 := vq_293 11 vx6_ Sx1_) rfl rfl (by decide) (vc_293 11 vx6_ Sx1_ hIx2_ (by decide) (by omega)) (fun u_ Sx40_ px43_ => ?_)
        obtain ⟨rfl, hIx41_, hFx42_, px43_⟩ := px43_
        have hFx44_ : ai_fr (sx_W vw_337) S0_ Sx40_ := ai_fr_tr hFx5_ (fr_le hFx42_ rfl)
        have re69_ : ∀ m_, m_ ≤ M_ → re1 b_ n_ T_ A_ m_ Sx40_ := fun m_ hm_ => re1_fr (re2_ m_ hm_) hFx42_ rfl rfl rfl rfl rfl rfl
        have rs69_ : ∀ m_, m_ ≤ M_ → rs1 A_ m_ Sx40_ := fun m_ hm_ => rs1_fr (rs2_ m_ hm_) hFx42_ rfl rfl rfl rfl
        have g69_ : rg b_ n_ T_ (z_n2 b_ n_ A_ M_ p_) Sx40_ := by first | (exact absurd hz3_ hz_) | (have cn_ : c_ne b_ n_ A_ M_ p_ := (by unfold c_ne; first | (left; omega) | (right; intro z_; have z_ : A_.2.2.1 (k_nx b_ n_ A_ M_ p_) = 3 := z_; rw [z_] at q33_; have z1_ : r_s2 3 = 4 := rfl; have z2_ := q33_.1; have z3_ := q33_.2.1; rw [if_neg (by decide)] at z3_; omega)); rw [n2c, if_pos cn_]; rcases px43_ with z_ | z_; (exact absurd hz_ z_.1); (exact ⟨z_.2.1.trans (if_neg rt3_.2.2), z_.2.2.trans rt3_.2.1, by show (11 : Int) ≠ 0; decide⟩))
        have w69_ : (z_n2 b_ n_ A_ M_ p_) = .inl (11, p_) ∨ S0_.1 13 0 10 ≠ S0_.1 13 0 10 := by first | (exact absurd hz3_ hz_) | (have cn_ : c_ne b_ n_ A_ M_ p_ := (by unfold c_ne; first | (left; omega) | (right; intro z_; have z_ : A_.2.2.1 (k_nx b_ n_ A_ M_ p_) = 3 := z_; rw [z_] at q33_; have z1_ : r_s2 3 = 4 := rfl; have z2_ := q33_.1; have z3_ := q33_.2.1; rw [if_neg (by decide)] at z3_; omega)); left; rw [n2c, if_pos cn_])
        refine sm_T_go 0 (c1 := (72, [some (.inr (.inr (some (13, 0)))), some (.inl m_), some (.inl vx6_), some (.inl vx31_), none], [], Sx40_)) rfl ?_
        refine sm_T_wk [some (.inr (.inr (some (13, 0)))), some (.inl m_), none, some (.inl vx31_), none] (by exact ⟨rfl, rfl, rfl, trivial⟩) ?_
        refine (vl_337 m_ b_ n_ T_ A_ M_ c_ p_ S0_ ht_ hx_ hmo_ hmm_ hmd_ hA_ hre_ hrs_ hc_ _).1 vx31_ Sx40_ hIx41_ hFx44_ ⟨?_, ?_, ?_, ?_, trivial⟩ (Nat.lt_succ_self _)
        · first | exact g69_ | (exact absurd hz3_ hz_) | (exact absurd hz_ hz3_) | (rw [n2w]; rw [he5_] at g2_; exact g2_) | (have cn_ : ¬ c_ne b_ n_ A_ M_ p_ := (by unfold c_ne; rintro (z_ | z_); omega; (apply z_; show A_.2.2.1 (k_nx b_ n_ A_ M_ p_) = 3; have z2_ := q33_.1; have z3_ := q33_.2.1; have z4_ := q33_.2.2; by_cases z5_ : A_.2.2.1 (k_nx b_ n_ A_ M_ p_) = 4; (rw [if_pos z5_] at z3_; omega); (unfold r_s2 at z2_; split at z2_ <;> (try split at z2_) <;> omega))); rw [n2c, if_neg cn_]; exact g2r)
        · first | (exact absurd hz3_ hz_) | (exact absurd hz_ hz3_) | (intro q_ hq_; rw [n2w] at hq_; cases hq_; done) | (intro q_ hq_; exfalso; rcases w69_ with z_ | z_; (rw [z_] at hq_; cases hq_); exact z_ rfl) | (intro q_ hq_; have cn_ : ¬ c_ne b_ n_ A_ M_ p_ := (by unfold c_ne; rintro (z_ | z_); omega; (apply z_; show A_.2.2.1 (k_nx b_ n_ A_ M_ p_) = 3; have z2_ := q33_.1; have z3_ := q33_.2.1; have z4_ := q33_.2.2; by_cases z5_ : A_.2.2.1 (k_nx b_ n_ A_ M_ p_) = 4; (rw [if_pos z5_] at z3_; omega); (unfold r_s2 at z2_; split at z2_ <;> (try split at z2_) <;> omega))); exact ⟨e16_, by omega, by omega, Decidable.byContradiction fun z_ => cn_ (Or.inr z_)⟩)
        · first | exact re69_ | exact re2_
        · first | exact rs69_ | exact rs2_
      · have cx39_ : ¬ (vx31_ = (-1)) := of_decide_eq_false cx39_
        have q33_ := q16_ (by omega)
        refine sm_T_go 4 (c1 := (43, [some (.inr (.inr (some (13, 0)))), some (.inl m_), some (.inl vx6_), some (.inl vx31_), none], [.inl m_, .inl 40, .inr (.inr (some (128, 0)))], Sx1_)) rfl ?_
        refine sm_T_bin (w := 40 * m_) rfl (bi_mul (by omega) (by omega) (by omega)) ?_
        refine sm_T_go 1 (c1 := (45, [some (.inr (.inr (some (13, 0)))), some (.inl m_), some (.inl vx6_), some (.inl vx31_), none], [.inl vx31_, .inl (40 * m_), .inr (.inr (some (128, 0)))], Sx1_)) rfl ?_
        refine sm_T_bin (w := 40 * m_ + vx31_) rfl (bi_add (by omega) (by omega) (by omega)) ?_
        refine sm_T_iald (n := 640) rfl rfl (by omega) (by omega) ?_
        have bx45_ : 0 ≤ Sx1_.2.2.1 128 0 (40 * m_ + vx31_).toNat ∧ Sx1_.2.2.1 128 0 (40 * m_ + vx31_).toNat ≤ 5 := hIx2_.2 128 0 _
        refine sm_T_go 1 (c1 := (48, [some (.inr (.inr (some (13, 0)))), some (.inl m_), some (.inl vx6_), some (.inl vx31_), none], [.inl 4, .inl (Sx1_.2.2.1 128 0 (40 * m_ + vx31_).toNat)], Sx1_)) rfl ?_
        refine sm_T_br (a := 1) (z := 17) rfl (fun cx46_ => ?_) (fun cx46_ => ?_)
        · have cx46_ : (Sx1_.2.2.1 128 0 (40 * m_ + vx31_).toNat) ≠ 4 := of_decide_eq_true cx46_
          refine sm_T_go 3 (c1 := (69, [some (.inr (.inr (some (13, 0)))), some (.inl m_), some (.inl vx6_), some (.inl vx31_), none], [.inl vx6_, .inl 11, .inr (.inr (some (13, 0)))], Sx1_)) rfl ?_
          refine sm_T_cal (d1 := 0) (Q1 := vq_293 11 vx6_ Sx1_) rfl rfl (by decide) (vc_293 11 vx6_ Sx1_ hIx2_ (by decide) (by omega)) (fun u_ Sx47_ px50_ => ?_)
          obtain ⟨rfl, hIx48_, hFx49_, px50_⟩ := px50_
          have hFx51_ : ai_fr (sx_W vw_337) S0_ Sx47_ := ai_fr_tr hFx5_ (fr_le hFx49_ rfl)
          have re69_ : ∀ m_, m_ ≤ M_ → re1 b_ n_ T_ A_ m_ Sx47_ := fun m_ hm_ => re1_fr (re2_ m_ hm_) hFx49_ rfl rfl rfl rfl rfl rfl
          have rs69_ : ∀ m_, m_ ≤ M_ → rs1 A_ m_ Sx47_ := fun m_ hm_ => rs1_fr (rs2_ m_ hm_) hFx49_ rfl rfl rfl rfl
          have g69_ : rg b_ n_ T_ (z_n2 b_ n_ A_ M_ p_) Sx47_ := by first | (exact absurd hz3_ hz_) | (have cn_ : c_ne b_ n_ A_ M_ p_ := (by unfold c_ne; first | (left; omega) | (right; intro z_; have z_ : A_.2.2.1 (k_nx b_ n_ A_ M_ p_) = 3 := z_; rw [z_] at q33_; have z1_ : r_s2 3 = 4 := rfl; have z2_ := q33_.1; have z3_ := q33_.2.1; rw [if_neg (by decide)] at z3_; omega)); rw [n2c, if_pos cn_]; rcases px50_ with z_ | z_; (exact absurd hz_ z_.1); (exact ⟨z_.2.1.trans (if_neg rt3_.2.2), z_.2.2.trans rt3_.2.1, by show (11 : Int) ≠ 0; decide⟩))
          have w69_ : (z_n2 b_ n_ A_ M_ p_) = .inl (11, p_) ∨ S0_.1 13 0 10 ≠ S0_.1 13 0 10 := by first | (exact absurd hz3_ hz_) | (have cn_ : c_ne b_ n_ A_ M_ p_ := (by unfold c_ne; first | (left; omega) | (right; intro z_; have z_ : A_.2.2.1 (k_nx b_ n_ A_ M_ p_) = 3 := z_; rw [z_] at q33_; have z1_ : r_s2 3 = 4 := rfl; have z2_ := q33_.1; have z3_ := q33_.2.1; rw [if_neg (by decide)] at z3_; omega)); left; rw [n2c, if_pos cn_])
          refine sm_T_go 0 (c1 := (72, [some (.inr (.inr (some (13, 0)))), some (.inl m_), some (.inl vx6_), some (.inl vx31_), none], [], Sx47_)) rfl ?_
          refine sm_T_wk [some (.inr (.inr (some (13, 0)))), some (.inl m_), none, some (.inl vx31_), none] (by exact ⟨rfl, rfl, rfl, trivial⟩) ?_
          refine (vl_337 m_ b_ n_ T_ A_ M_ c_ p_ S0_ ht_ hx_ hmo_ hmm_ hmd_ hA_ hre_ hrs_ hc_ _).1 vx31_ Sx47_ hIx48_ hFx51_ ⟨?_, ?_, ?_, ?_, trivial⟩ (Nat.lt_succ_self _)
          · first | exact g69_ | (exact absurd hz3_ hz_) | (exact absurd hz_ hz3_) | (rw [n2w]; rw [he5_] at g2_; exact g2_) | (have cn_ : ¬ c_ne b_ n_ A_ M_ p_ := (by unfold c_ne; rintro (z_ | z_); omega; (apply z_; show A_.2.2.1 (k_nx b_ n_ A_ M_ p_) = 3; have z2_ := q33_.1; have z3_ := q33_.2.1; have z4_ := q33_.2.2; by_cases z5_ : A_.2.2.1 (k_nx b_ n_ A_ M_ p_) = 4; (rw [if_pos z5_] at z3_; omega); (unfold r_s2 at z2_; split at z2_ <;> (try split at z2_) <;> omega))); rw [n2c, if_neg cn_]; exact g2r)
          · first | (exact absurd hz3_ hz_) | (exact absurd hz_ hz3_) | (intro q_ hq_; rw [n2w] at hq_; cases hq_; done) | (intro q_ hq_; exfalso; rcases w69_ with z_ | z_; (rw [z_] at hq_; cases hq_); exact z_ rfl) | (intro q_ hq_; have cn_ : ¬ c_ne b_ n_ A_ M_ p_ := (by unfold c_ne; rintro (z_ | z_); omega; (apply z_; show A_.2.2.1 (k_nx b_ n_ A_ M_ p_) = 3; have z2_ := q33_.1; have z3_ := q33_.2.1; have z4_ := q33_.2.2; by_cases z5_ : A_.2.2.1 (k_nx b_ n_ A_ M_ p_) = 4; (rw [if_pos z5_] at z3_; omega); (unfold r_s2 at z2_; split at z2_ <;> (try split at z2_) <;> omega))); exact ⟨e16_, by omega, by omega, Decidable.byContradiction fun z_ => cn_ (Or.inr z_)⟩)
          · first | exact re69_ | exact re2_
          · first | exact rs69_ | exact rs2_
        · have cx46_ : ¬ ((Sx1_.2.2.1 128 0 (40 * m_ + vx31_).toNat) ≠ 4) := of_decide_eq_false cx46_
          refine sm_T_go 4 (c1 := (58, [some (.inr (.inr (some (13, 0)))), some (.inl m_), some (.inl vx6_), some (.inl vx31_), none], [.inl m_, .inl 40, .inr (.inr (some (131, 0)))], Sx1_)) rfl ?_
          refine sm_T_bin (w := 40 * m_) rfl (bi_mul (by omega) (by omega) (by omega)) ?_
          refine sm_T_go 1 (c1 := (60, [some (.inr (.inr (some (13, 0)))), some (.inl m_), some (.inl vx6_), some (.inl vx31_), none], [.inl vx31_, .inl (40 * m_), .inr (.inr (some (131, 0)))], Sx1_)) rfl ?_
          refine sm_T_bin (w := 40 * m_ + vx31_) rfl (bi_add (by omega) (by omega) (by omega)) ?_
          refine sm_T_zald (n := 640) rfl rfl (by omega) (by omega) ?_
          have bx52_ : 0 ≤ Sx1_.2.2.1 131 0 (40 * m_ + vx31_).toNat ∧ Sx1_.2.2.1 131 0 (40 * m_ + vx31_).toNat ≤ 1 := hIx2_.2 131 0 _
          refine sm_T_b0 (a := 0) (z := 10) rfl (fun cx53_ => ?_) (fun cx53_ => ?_)
          · have cx53_ : (Sx1_.2.2.1 131 0 (40 * m_ + vx31_).toNat) = 0 := of_decide_eq_true cx53_
            refine sm_T_go 0 (c1 := (72, [some (.inr (.inr (some (13, 0)))), some (.inl m_), some (.inl vx6_), some (.inl vx31_), none], [], Sx1_)) rfl ?_
            refine sm_T_wk [some (.inr (.inr (some (13, 0)))), some (.inl m_), none, some (.inl vx31_), none] (by exact ⟨rfl, rfl, rfl, trivial⟩) ?_
            refine (vl_337 m_ b_ n_ T_ A_ M_ c_ p_ S0_ ht_ hx_ hmo_ hmm_ hmd_ hA_ hre_ hrs_ hc_ _).1 vx31_ Sx1_ hIx2_ hFx5_ ⟨?_, ?_, ?_, ?_, trivial⟩ (Nat.lt_succ_self _)
            · first | exact g69_ | (exact absurd hz3_ hz_) | (exact absurd hz_ hz3_) | (rw [n2w]; rw [he5_] at g2_; exact g2_) | (have cn_ : ¬ c_ne b_ n_ A_ M_ p_ := (by unfold c_ne; rintro (z_ | z_); omega; (apply z_; show A_.2.2.1 (k_nx b_ n_ A_ M_ p_) = 3; have z2_ := q33_.1; have z3_ := q33_.2.1; have z4_ := q33_.2.2; by_cases z5_ : A_.2.2.1 (k_nx b_ n_ A_ M_ p_) = 4; (rw [if_pos z5_] at z3_; omega); (unfold r_s2 at z2_; split at z2_ <;> (try split at z2_) <;> omega))); rw [n2c, if_neg cn_]; exact g2r)
            · first | (exact absurd hz3_ hz_) | (exact absurd hz_ hz3_) | (intro q_ hq_; rw [n2w] at hq_; cases hq_; done) | (intro q_ hq_; exfalso; rcases w69_ with z_ | z_; (rw [z_] at hq_; cases hq_); exact z_ rfl) | (intro q_ hq_; have cn_ : ¬ c_ne b_ n_ A_ M_ p_ := (by unfold c_ne; rintro (z_ | z_); omega; (apply z_; show A_.2.2.1 (k_nx b_ n_ A_ M_ p_) = 3; have z2_ := q33_.1; have z3_ := q33_.2.1; have z4_ := q33_.2.2; by_cases z5_ : A_.2.2.1 (k_nx b_ n_ A_ M_ p_) = 4; (rw [if_pos z5_] at z3_; omega); (unfold r_s2 at z2_; split at z2_ <;> (try split at z2_) <;> omega))); exact ⟨e16_, by omega, by omega, Decidable.byContradiction fun z_ => cn_ (Or.inr z_)⟩)
            · first | exact re69_ | exact re2_
            · first | exact rs69_ | exact rs2_
          · have cx53_ : ¬ ((Sx1_.2.2.1 131 0 (40 * m_ + vx31_).toNat) = 0) := of_decide_eq_false cx53_
            refine sm_T_go 3 (c1 := (69, [some (.inr (.inr (some (13, 0)))), some (.inl m_), some (.inl vx6_), some (.inl vx31_), none], [.inl vx6_, .inl 11, .inr (.inr (some (13, 0)))], Sx1_)) rfl ?_
            refine sm_T_cal (d1 := 0) (Q1 := vq_293 11 vx6_ Sx1_) rfl rfl (by decide) (vc_293 11 vx6_ Sx1_ hIx2_ (by decide) (by omega)) (fun u_ Sx54_ px57_ => ?_)
            obtain ⟨rfl, hIx55_, hFx56_, px57_⟩ := px57_
            have hFx58_ : ai_fr (sx_W vw_337) S0_ Sx54_ := ai_fr_tr hFx5_ (fr_le hFx56_ rfl)
            have re69_ : ∀ m_, m_ ≤ M_ → re1 b_ n_ T_ A_ m_ Sx54_ := fun m_ hm_ => re1_fr (re2_ m_ hm_) hFx56_ rfl rfl rfl rfl rfl rfl
            have rs69_ : ∀ m_, m_ ≤ M_ → rs1 A_ m_ Sx54_ := fun m_ hm_ => rs1_fr (rs2_ m_ hm_) hFx56_ rfl rfl rfl rfl
            have g69_ : rg b_ n_ T_ (z_n2 b_ n_ A_ M_ p_) Sx54_ := by first | (exact absurd hz3_ hz_) | (have cn_ : c_ne b_ n_ A_ M_ p_ := (by unfold c_ne; first | (left; omega) | (right; intro z_; have z_ : A_.2.2.1 (k_nx b_ n_ A_ M_ p_) = 3 := z_; rw [z_] at q33_; have z1_ : r_s2 3 = 4 := rfl; have z2_ := q33_.1; have z3_ := q33_.2.1; rw [if_neg (by decide)] at z3_; omega)); rw [n2c, if_pos cn_]; rcases px57_ with z_ | z_; (exact absurd hz_ z_.1); (exact ⟨z_.2.1.trans (if_neg rt3_.2.2), z_.2.2.trans rt3_.2.1, by show (11 : Int) ≠ 0; decide⟩))
            have w69_ : (z_n2 b_ n_ A_ M_ p_) = .inl (11, p_) ∨ S0_.1 13 0 10 ≠ S0_.1 13 0 10 := by first | (exact absurd hz3_ hz_) | (have cn_ : c_ne b_ n_ A_ M_ p_ := (by unfold c_ne; first | (left; omega) | (right; intro z_; have z_ : A_.2.2.1 (k_nx b_ n_ A_ M_ p_) = 3 := z_; rw [z_] at q33_; have z1_ : r_s2 3 = 4 := rfl; have z2_ := q33_.1; have z3_ := q33_.2.1; rw [if_neg (by decide)] at z3_; omega)); left; rw [n2c, if_pos cn_])
            refine sm_T_go 0 (c1 := (72, [some (.inr (.inr (some (13, 0)))), some (.inl m_), some (.inl vx6_), some (.inl vx31_), none], [], Sx54_)) rfl ?_
            refine sm_T_wk [some (.inr (.inr (some (13, 0)))), some (.inl m_), none, some (.inl vx31_), none] (by exact ⟨rfl, rfl, rfl, trivial⟩) ?_
            refine (vl_337 m_ b_ n_ T_ A_ M_ c_ p_ S0_ ht_ hx_ hmo_ hmm_ hmd_ hA_ hre_ hrs_ hc_ _).1 vx31_ Sx54_ hIx55_ hFx58_ ⟨?_, ?_, ?_, ?_, trivial⟩ (Nat.lt_succ_self _)
            · first | exact g69_ | (exact absurd hz3_ hz_) | (exact absurd hz_ hz3_) | (rw [n2w]; rw [he5_] at g2_; exact g2_) | (have cn_ : ¬ c_ne b_ n_ A_ M_ p_ := (by unfold c_ne; rintro (z_ | z_); omega; (apply z_; show A_.2.2.1 (k_nx b_ n_ A_ M_ p_) = 3; have z2_ := q33_.1; have z3_ := q33_.2.1; have z4_ := q33_.2.2; by_cases z5_ : A_.2.2.1 (k_nx b_ n_ A_ M_ p_) = 4; (rw [if_pos z5_] at z3_; omega); (unfold r_s2 at z2_; split at z2_ <;> (try split at z2_) <;> omega))); rw [n2c, if_neg cn_]; exact g2r)
            · first | (exact absurd hz3_ hz_) | (exact absurd hz_ hz3_) | (intro q_ hq_; rw [n2w] at hq_; cases hq_; done) | (intro q_ hq_; exfalso; rcases w69_ with z_ | z_; (rw [z_] at hq_; cases hq_); exact z_ rfl) | (intro q_ hq_; have cn_ : ¬ c_ne b_ n_ A_ M_ p_ := (by unfold c_ne; rintro (z_ | z_); omega; (apply z_; show A_.2.2.1 (k_nx b_ n_ A_ M_ p_) = 3; have z2_ := q33_.1; have z3_ := q33_.2.1; have z4_ := q33_.2.2; by_cases z5_ : A_.2.2.1 (k_nx b_ n_ A_ M_ p_) = 4; (rw [if_pos z5_] at z3_; omega); (unfold r_s2 at z2_; split at z2_ <;> (try split at z2_) <;> omega))); exact ⟨e16_, by omega, by omega, Decidable.byContradiction fun z_ => cn_ (Or.inr z_)⟩)
            · first | exact re69_ | exact re2_
            · first | exact rs69_ | exact rs2_
end
/-! 99.yoa -/
section
/-! the reference: modules used; written by wip/p55/gen/vg -/

/-! modules used -/
theorem rtk_pl {b_ : Nat → Int} {n_ T_ p_ : Nat} {t_ : Int} {S_ : sm_S} (h_ : rtab b_ n_ T_ S_) (r_ : rtk b_ n_ T_ t_ p_) : (0 ≤ t_ ∧ t_ ≤ 1280) ∧ S_.2.2.1 120 0 t_.toNat = (p_ : Int) := by
  obtain ⟨i_, h1_, h2_, h3_, h4_⟩ := r_
  have hT_ := h_.2.1
  have t2_ := (h_.2.2.1.1 i_ h2_).2
  rw [← h3_] at t2_
  rw [show t_.toNat = i_ by omega]
  exact ⟨by omega, t2_.1⟩
theorem ae_ok {b_ : Nat → Int} {n_ pl_ p_ : Nat} {t_ : Bool} {c_ : List Int} {x_ : List Int × Nat} (hp_ : p_ ≤ n_) (h_ : p_ae b_ n_ pl_ t_ c_ p_ = .inr x_) : x_.1 = c_ ∧ p_ < x_.2 ∧ x_.2 ≤ n_ ∧ lx_kd b_ n_ x_.2 ≠ -1 := by
  unfold p_ae at h_
  split at h_
  · cases h_
  · obtain ⟨q_, h1_, h2_⟩ := pb_inr h_
    cases h2_
    have k_ := nd_ok hp_ (by decide) h1_
    exact ⟨rfl, k_.1, k_.2.1, k_.2.2.1⟩
theorem a1_len {A_ : pA} {m_ s_ : Nat} {i_ : Int} {l_ : List Int} : (p_a1 A_ m_ s_ i_ l_).length ≤ l_.length + 1 := by
  unfold p_a1
  split
  · omega
  · simp
theorem ar_ok {b_ : Nat → Int} {n_ M_ m_ s_ pl_ : Nat} {A_ : pA} (hn_ : n_ ≤ 1280) (hA_ : a_ok b_ n_ A_ M_) : ∀ (f_ : Nat) (i_ : Int) (c_ : List Int) (p_ : Nat) (x_ : List Int × Nat), p_ ≤ n_ → lx_kd b_ n_ p_ ≠ -1 → c_.length ≤ 3 * p_ → p_ar b_ n_ A_ M_ m_ s_ pl_ f_ i_ c_ p_ = .inr x_ → x_.1.length ≤ 3 * x_.2 ∧ p_ < x_.2 ∧ x_.2 ≤ n_ ∧ lx_kd b_ n_ x_.2 ≠ -1
  | 0, i_, c_, p_, x_, _, _, _, h_ => by
    unfold p_ar at h_
    cases h_
  | f_ + 1, i_, c_, p_, x_, hp_, hk_, hc_, h_ => by
    rw [p_ar] at h_
    obtain ⟨r_, h1_, h_⟩ := pb_inr h_
    have k1_ := xd_ok hn_ hA_ hp_ hk_ hc_ h1_
    have la_ := a1_len (A_ := A_) (m_ := m_) (s_ := s_) (i_ := i_) (l_ := r_.2.2)
    have k2_ := k1_.2.2.2.2.2
    have k3_ := k1_.1
    split at h_
    · cases h_
    · split at h_
      · split at h_
        · cases h_
        · rename_i g1_ g2_ g3_
          obtain ⟨q_, h2_, h_⟩ := pb_inr h_
          have k4_ := p_ad_ok k1_.2.1 (by omega) h2_
          have k5_ := ar_ok hn_ hA_ f_ _ _ q_ x_ k4_.2.2.1 k4_.2.2.2 (by omega) h_
          exact ⟨k5_.1, by omega, k5_.2.2⟩
      · have k4_ := ae_ok k1_.2.1 h_
        exact ⟨by rw [k4_.1]; omega, by omega, k4_.2.2⟩
theorem ua_ok {b_ : Nat → Int} {n_ M_ m_ s_ pl_ p_ : Nat} {A_ : pA} {c_ : List Int} {x_ : List Int × Nat} (hn_ : n_ ≤ 1280) (hA_ : a_ok b_ n_ A_ M_) (hp_ : p_ ≤ n_) (hk_ : lx_kd b_ n_ p_ ≠ -1) (hc_ : c_.length ≤ 3 * p_) (h_ : p_ua b_ n_ A_ M_ m_ s_ pl_ c_ p_ = .inr x_) : x_.1.length ≤ 3 * x_.2 ∧ p_ < x_.2 ∧ x_.2 ≤ n_ ∧ lx_kd b_ n_ x_.2 ≠ -1 := by
  unfold p_ua at h_
  split at h_
  · have k4_ := ae_ok hp_ h_
    exact ⟨by rw [k4_.1]; omega, k4_.2⟩
  · exact ar_ok hn_ hA_ _ _ _ _ _ hp_ hk_ hc_ h_
def z_u2 (b_ : Nat → Int) (n_ : Nat) (A_ : pA) (M_ p_ : Nat) : pE (Nat × Nat) := pb (z_nw b_ n_ A_ M_ p_) fun a_ => pb (p_du b_ n_ 1 a_.2) fun _ => .inr a_
def z_u3 (b_ : Nat → Int) (n_ : Nat) (A_ : pA) (N_ : Nat → Nat) (M_ p_ : Nat) : pE (Nat × Nat) := pb (z_u2 b_ n_ A_ M_ p_) fun a_ => if p_fm b_ n_ N_ M_ a_.2 = -1 then .inl (11, a_.2) else .inr a_
def z_u4 (b_ : Nat → Int) (n_ : Nat) (A_ : pA) (N_ : Nat → Nat) (M_ p_ : Nat) : pE ((Nat × Nat) × Nat) := pb (z_u3 b_ n_ A_ N_ M_ p_) fun a_ => pb (p_ad b_ n_ a_.2) fun v_ => .inr (a_, v_)
def z_u5 (b_ : Nat → Int) (n_ : Nat) (A_ : pA) (N_ : Nat → Nat) (M_ p_ : Nat) : pE ((Nat × Nat) × Nat) := pb (z_u4 b_ n_ A_ N_ M_ p_) fun a_ => pb (p_nd b_ n_ 40 a_.2) fun v_ => .inr (a_.1, v_)
abbrev pU : Type := (Nat × Nat) × (List Int × Nat)
def z_ua (b_ : Nat → Int) (n_ : Nat) (A_ : pA) (N_ : Nat → Nat) (M_ : Nat) (c_ : List Int) (p_ : Nat) : pE pU := pb (z_u5 b_ n_ A_ N_ M_ p_) fun a_ => pb (p_ua b_ n_ A_ M_ (p_fm b_ n_ N_ M_ a_.1.2).toNat (A_.1 M_) a_.1.1 (cw 15 (A_.1 M_) 0 :: c_) a_.2) fun x_ => .inr (a_.1, x_)
def z_us (b_ : Nat → Int) (n_ : Nat) (a_ : pU) : pE (pU × Nat) := pb (p_nd b_ n_ 59 a_.2.2) fun y_ => .inr (a_, y_)
def k_us (b_ : Nat → Int) (n_ : Nat) (A_ : pA) (N_ : Nat → Nat) (M_ : Nat) (a_ : pU × Nat) : pT := (a_te A_ M_ a_.1.1.1 5 0 (p_fm b_ n_ N_ M_ a_.1.1.2), cw 17 (A_.1 M_) (p_fm b_ n_ N_ M_ a_.1.1.2) :: a_.1.2.1, a_.2)
theorem us_eq {b_ : Nat → Int} {n_ M_ p_ : Nat} {A_ : pA} {N_ : Nat → Nat} {c_ : List Int} : p_us b_ n_ A_ N_ M_ c_ p_ = pb (pb (z_ua b_ n_ A_ N_ M_ c_ p_) (z_us b_ n_)) fun a_ => .inr (k_us b_ n_ A_ N_ M_ a_) := by
  unfold p_us z_ua z_u5 z_u4 z_u3 z_u2 z_nw
  simp only [pb_as, pb_ir]
  refine congrArg (pb _) (funext fun q_ => congrArg (pb _) (funext fun r_ => ?_))
  unfold p_du
  by_cases g_ : lx_kd b_ n_ r_ = 1
  · rw [if_pos g_, if_pos g_]
    show _ = pb (if p_fm b_ n_ N_ M_ r_ = -1 then .inl (11, r_) else .inr (q_, r_)) _
    by_cases g2_ : p_fm b_ n_ N_ M_ r_ = -1
    · rw [if_pos g2_, if_pos g2_]
      rfl
    · rw [if_neg g2_, if_neg g2_]
      show _ = pb (p_ad b_ n_ r_) _
      refine congrArg (pb _) (funext fun u_ => congrArg (pb _) (funext fun v_ => congrArg (pb _) (funext fun x_ => ?_)))
      show _ = pb (z_us b_ n_ ((q_, r_), x_)) _
      unfold z_us
      rw [pb_as]
      rfl
  · rw [if_neg g_, if_neg g_]
    rfl
theorem fm_b {b_ : Nat → Int} {n_ M_ r_ : Nat} {N_ : Nat → Nat} : -1 ≤ p_fm b_ n_ N_ M_ r_ ∧ p_fm b_ n_ N_ M_ r_ < (M_ : Int) := p_fd_b (f_ := fun m_ => nm_q b_ n_ (N_ m_) r_) M_
theorem u5_ok {b_ : Nat → Int} {n_ M_ p_ : Nat} {A_ : pA} {N_ : Nat → Nat} {a_ : (Nat × Nat) × Nat} (hp_ : p_ ≤ n_) (hk_ : lx_kd b_ n_ p_ ≠ 0) (h_ : z_u5 b_ n_ A_ N_ M_ p_ = .inr a_) : z_nw b_ n_ A_ M_ p_ = .inr a_.1 ∧ (0 ≤ p_fm b_ n_ N_ M_ a_.1.2 ∧ p_fm b_ n_ N_ M_ a_.1.2 < (M_ : Int)) ∧ p_ + 3 < a_.2 ∧ a_.2 ≤ n_ ∧ lx_kd b_ n_ a_.2 ≠ -1 := by
  obtain ⟨a4_, h1_, h_⟩ := pb_inr h_
  obtain ⟨v_, h2_, h_⟩ := pb_inr h_
  cases h_
  obtain ⟨a3_, h3_, h1_⟩ := pb_inr h1_
  obtain ⟨u_, h4_, h1_⟩ := pb_inr h1_
  cases h1_
  obtain ⟨a2_, h5_, h3_⟩ := pb_inr h3_
  split at h3_
  · cases h3_
  · rename_i g_
    cases h3_
    obtain ⟨a1_, h6_, h5_⟩ := pb_inr h5_
    obtain ⟨y_, h7_, h5_⟩ := pb_inr h5_
    cases h5_
    have k1_ := z_nw_ok hp_ hk_ h6_
    have k0_ : lx_kd b_ n_ a3_.2 = 1 := by
      unfold p_du at h7_
      split at h7_
      · assumption
      · cases h7_
    have k2_ := p_ad_ok k1_.2.2.2.2.1 (by omega) h4_
    have k3_ := nd_ok k2_.2.2.1 (by decide) h2_
    have k4_ := fm_b (b_ := b_) (n_ := n_) (M_ := M_) (r_ := a3_.2) (N_ := N_)
    have k5_ : u_ < v_ := k3_.1
    have k6_ := k1_.2.2.1
    have k7_ := k1_.2.2.2.1
    have k8_ := k2_.2.1
    exact ⟨h6_, ⟨by show 0 ≤ p_fm b_ n_ N_ M_ a3_.2; omega, k4_.2⟩, by show p_ + 3 < v_; omega, k3_.2.1, k3_.2.2.1⟩
theorem us_ok {b_ : Nat → Int} {n_ M_ p_ : Nat} {A_ : pA} {N_ : Nat → Nat} {c_ : List Int} {r_ : pT} (hn_ : n_ ≤ 1280) (hA_ : a_ok b_ n_ A_ M_) (hp_ : p_ ≤ n_) (hk_ : lx_kd b_ n_ p_ ≠ 0) (hc_ : c_.length ≤ 3 * p_) (h_ : p_us b_ n_ A_ N_ M_ c_ p_ = .inr r_) : a_ok b_ n_ r_.1 M_ ∧ r_.2.1.length ≤ 3 * r_.2.2 ∧ p_ < r_.2.2 := by
  rw [us_eq] at h_
  obtain ⟨a_, h1_, h_⟩ := pb_inr h_
  cases h_
  obtain ⟨a1_, h2_, h1_⟩ := pb_inr h1_
  obtain ⟨a0_, h3_, h2_⟩ := pb_inr h2_
  obtain ⟨x_, h4_, h2_⟩ := pb_inr h2_
  cases h2_
  obtain ⟨y_, h5_, h1_⟩ := pb_inr h1_
  cases h1_
  have k1_ := u5_ok hp_ hk_ h3_
  have k2_ := z_nw_ok hp_ hk_ k1_.1
  have k3_ := ua_ok hn_ hA_ k1_.2.2.2.1 k1_.2.2.2.2 (by have := k1_.2.2.1; simp only [List.length_cons]; omega) h4_
  have k4_ := nd_ok k3_.2.2.1 (by decide) h5_
  have k5_ := (hA_.2 M_ (Nat.le_refl M_)).1
  have k6_ := k2_.2.1
  have k7_ : x_.2 < y_ := k4_.1
  have k8_ := k1_.2.1
  have k9_ := k3_.2.1
  have k10_ := k1_.2.2.1
  have hM_ := hA_.1
  refine ⟨a_te_ok hA_ (by omega) k2_.1 (by decide) (by decide) (fun z_ => absurd rfl z_) (fun _ => k8_) ⟨k8_.1, by show p_fm b_ n_ N_ M_ a0_.1.2 ≤ 255; omega⟩, ?_, ?_⟩
  · show x_.1.length + 1 ≤ 3 * y_
    have := k3_.1
    omega
  · show p_ < y_
    omega
def r_m2 (mr_ : Int) (S_ : sm_S) : Nat := if S_.1 13 0 10 ≠ 0 ∨ mr_ = 0 then 10 else (2622 - 2 * S_.2.2.1 120 0 (S_.1 13 0 9).toNat).toNat
def r_m3 (S_ : sm_S) : Nat := if S_.1 13 0 10 ≠ 0 then 11 else (2623 - 2 * S_.2.2.1 120 0 (S_.1 13 0 9).toNat).toNat
theorem rm2_x {b_ : Nat → Int} {n_ T_ p_ : Nat} {S_ : sm_S} {k_ : Int} (ht_ : rtab b_ n_ T_ S_) (hg_ : rg b_ n_ T_ (.inr p_) S_) (hk_ : k_ ≠ 0) : r_m2 k_ S_ = 2622 - 2 * p_ ∧ p_ ≤ 1280 := by
  have h1_ := rg_le ht_ hg_
  have hn_ := ht_.1
  unfold r_m2
  rw [if_neg (by rintro (z_ | z_); exact z_ hg_.1; exact hk_ z_), h1_.2.2]
  omega
theorem rm3_x {b_ : Nat → Int} {n_ T_ p_ : Nat} {S_ : sm_S} (ht_ : rtab b_ n_ T_ S_) (hg_ : rg b_ n_ T_ (.inr p_) S_) : r_m3 S_ = 2623 - 2 * p_ ∧ p_ ≤ 1280 := by
  have h1_ := rg_le ht_ hg_
  have hn_ := ht_.1
  unfold r_m3
  rw [if_neg (by intro z_; exact z_ hg_.1), h1_.2.2]
  omega
/-- the_ arguments: decided wrong, or so_ many read -/
def u_w (b_ : Nat → Int) (n_ T_ : Nat) (Z_ : pE pU) (S_ : sm_S) : Prop := ∃ e_, Z_ = .inl e_ ∧ rg b_ n_ T_ (.inl e_) S_
def u_r (b_ : Nat → Int) (n_ T_ : Nat) (A_ : pA) (N_ : Nat → Nat) (M_ p_ : Nat) (Z_ : pE pU) (j_ : Nat) (S_ : sm_S) : Prop := ∃ a_ f_ c1_ p1_, z_u5 b_ n_ A_ N_ M_ p_ = .inr a_ ∧ rg b_ n_ T_ (.inr p1_) S_ ∧ Z_ = (pb (p_ar b_ n_ A_ M_ (p_fm b_ n_ N_ M_ a_.1.2).toNat (A_.1 M_) a_.1.1 f_ (p_nth A_ (p_fm b_ n_ N_ M_ a_.1.2).toNat j_) c1_ p1_) fun x_ => .inr (a_.1, x_)) ∧ n_ < p1_ + f_ ∧ c1_.length ≤ 3 * p1_ ∧ j_ ≤ p1_
def u_e (b_ : Nat → Int) (n_ T_ : Nat) (A_ : pA) (N_ : Nat → Nat) (M_ p_ : Nat) (Z_ : pE pU) (t_ : Bool) (S_ : sm_S) : Prop := ∃ a_ c1_ p1_, z_u5 b_ n_ A_ N_ M_ p_ = .inr a_ ∧ rg b_ n_ T_ (.inr p1_) S_ ∧ Z_ = (pb (p_ae b_ n_ a_.1.1 t_ c1_ p1_) fun x_ => .inr (a_.1, x_))
def p_an (b_ : Nat → Int) (n_ : Nat) (A_ : pA) (M_ m_ s_ pl_ f_ : Nat) (i_ : Int) (x_ : pR) : pE (List Int × Nat) := if lx_kd b_ n_ x_.1 = 44 then (if p_a2 A_ m_ i_ = -1 then .inl (14, pl_) else pb (p_ad b_ n_ x_.1) fun q_ => p_ar b_ n_ A_ M_ m_ s_ pl_ f_ (p_a2 A_ m_ i_) (p_a1 A_ m_ s_ i_ x_.2.2) q_) else p_ae b_ n_ pl_ (decide (i_ = -1 ∨ p_a2 A_ m_ i_ ≠ -1)) (p_a1 A_ m_ s_ i_ x_.2.2) x_.1
def u_n (b_ : Nat → Int) (n_ T_ : Nat) (A_ : pA) (N_ : Nat → Nat) (M_ p_ : Nat) (Z_ : pE pU) (j_ : Nat) (S_ : sm_S) : Prop := ∃ a_ f_ x_, z_u5 b_ n_ A_ N_ M_ p_ = .inr a_ ∧ rg b_ n_ T_ (.inr x_.1) S_ ∧ Z_ = (pb (p_an b_ n_ A_ M_ (p_fm b_ n_ N_ M_ a_.1.2).toNat (A_.1 M_) a_.1.1 f_ (p_nth A_ (p_fm b_ n_ N_ M_ a_.1.2).toNat j_) x_) fun x_ => .inr (a_.1, x_)) ∧ n_ < x_.1 + 1 + f_ ∧ x_.2.2.length ≤ 3 * x_.1 ∧ j_ < x_.1

theorem rm2_b {k_ : Int} {S_ : sm_S} (hI_ : gi S_) : r_m2 k_ S_ ≤ 3000 := by
  have z_ : 0 ≤ S_.2.2.1 120 0 (S_.1 13 0 9).toNat ∧ S_.2.2.1 120 0 (S_.1 13 0 9).toNat ≤ 1280 := hI_.2 120 0 _
  unfold r_m2
  split <;> omega
theorem rm2_lo (k_ : Int) (S_ : sm_S) (hI_ : gi S_) : 10 ≤ r_m2 k_ S_ := by
  have z_ : 0 ≤ S_.2.2.1 120 0 (S_.1 13 0 9).toNat ∧ S_.2.2.1 120 0 (S_.1 13 0 9).toNat ≤ 1280 := hI_.2 120 0 _
  unfold r_m2
  split <;> omega
theorem rm2_w {mr_ : Int} {S_ : sm_S} (h_ : S_.1 13 0 10 ≠ 0 ∨ mr_ = 0) : r_m2 mr_ S_ = 10 := if_pos h_
theorem rm3_w {b_ : Nat → Int} {n_ T_ : Nat} {e_ : Int × Nat} {S_ : sm_S} (h_ : rg b_ n_ T_ (.inl e_) S_) : r_m3 S_ = 11 := if_pos (by rw [h_.1]; exact h_.2.2)
theorem ni_t {b_ : Nat → Int} {n_ M_ m_ : Nat} {A_ : pA} {v_ : Int} (h_ : a_ok b_ n_ A_ M_) (hm_ : m_ ≤ M_) (hv_ : v_ = (p_cn (g_in A_ m_) (A_.1 m_) : Nat)) : decide (p_ni A_ m_ 0 ≠ -1) = decide ((0 : Int) ≠ v_) := by
  have z_ : p_ni A_ m_ 0 = -1 ↔ p_cn (g_in A_ m_) (A_.1 m_) ≤ 0 := p_nth_n h_ hm_ 0
  rw [hv_]
  refine decide_eq_decide.mpr ⟨fun y1_ y2_ => y1_ (z_.mpr (by omega)), fun y1_ y2_ => ?_⟩
  have := z_.mp y2_
  omega
theorem nth_t {b_ : Nat → Int} {n_ M_ m_ : Nat} {A_ : pA} (h_ : a_ok b_ n_ A_ M_) (hm_ : m_ ≤ M_) (j_ : Nat) : (p_nth A_ m_ j_ = -1 ∨ p_a2 A_ m_ (p_nth A_ m_ j_) ≠ -1) ↔ p_cn (g_in A_ m_) (A_.1 m_) ≠ j_ + 1 := by
  have h1_ := p_nth_n h_ hm_ j_
  have h2_ : p_a2 A_ m_ (p_nth A_ m_ j_) = -1 ↔ p_cn (g_in A_ m_) (A_.1 m_) ≤ j_ + 1 := p_nth_n h_ hm_ (j_ + 1)
  rw [h1_]
  constructor
  · rintro (z_ | z_) y_
    · omega
    · exact z_ (h2_.mpr (by omega))
  · intro y_
    by_cases g_ : p_cn (g_in A_ m_) (A_.1 m_) ≤ j_
    · exact Or.inl g_
    · exact Or.inr (fun z_ => by have := h2_.mp z_; omega)
/-! M_.tellInstance -/
def vw_338 : sx_Wl := ([(13, 9), (13, 10), (13, 11), (13, 25), (13, 26), (13, 32), (13, 33), (13, 34)], [126, 127, 128, 129, 130, 131, 132, 133, 134, 135, 136, 137, 138, 139], [])
def vq_338 (m_ : Int) (b_ : Nat → Int) (n_ : Nat) (T_ : Nat) (A_ : pA) (M_ : Nat) (c_ : List Int) (p_ : Nat) (N_ : Nat → Nat) (S0_ : sm_S) (u_ : Option sm_V) (S1_ : sm_S) : Prop := u_ = none ∧ gi S1_ ∧ ai_fr (sx_W vw_338) S0_ S1_ ∧ (rm b_ n_ T_ M_ (p_us b_ n_ A_ N_ M_ c_ p_) S1_)
set_option maxHeartbeats 2000000 in
set_option maxRecDepth 20000 in
theorem vl_338 {sc_ : Nat × (Nat → Int)} (m_ : Int) (b_ : Nat → Int) (n_ : Nat) (T_ : Nat) (A_ : pA) (M_ : Nat) (c_ : List Int) (p_ : Nat) (N_ : Nat → Nat) (S0_ : sm_S) (ht_ : rtab b_ n_ T_ S0_) (hx_ : rg b_ n_ T_ (.inr p_) S0_) (hk_ : lx_kd b_ n_ p_ ≠ 0) (hmo_ : (S0_.1 13 0 27) = 0) (hmm_ : m_ = (M_ : Int) ∧ M_ ≤ 15) (hmd_ : (S0_.1 13 0 28) = (M_ : Int)) (hA_ : a_ok b_ n_ A_ M_) (hre_ : ∀ m_, m_ ≤ M_ → re1 b_ n_ T_ A_ m_ S0_) (hrs_ : ∀ m_, m_ ≤ M_ → rs1 A_ m_ S0_) (hc_ : c_.length ≤ 3 * p_) (hms_ : (S0_.1 13 0 12) = (M_ : Int)) (hN_ : rnr b_ n_ T_ N_ M_ S0_) : ∀ nn_ : Nat, (∀ (t2_ : Int) (mi_ : Int) (S_ : sm_S), gi S_ → ai_fr (sx_W vw_338) S0_ S_ → ((rg b_ n_ T_ (pb (z_u3 b_ n_ A_ N_ M_ p_) fun a_ => .inr a_.2) S_) ∧ (∀ a_, (z_u3 b_ n_ A_ N_ M_ p_) = .inr a_ → mi_ = p_fm b_ n_ N_ M_ a_.2) ∧ (∀ a_, z_nw b_ n_ A_ M_ p_ = .inr a_ → rtk b_ n_ T_ t2_ a_.1) ∧ (∀ m_, m_ ≤ M_ → re1 b_ n_ T_ A_ m_ S_) ∧ (∀ m_, m_ ≤ M_ → rs1 A_ m_ S_) ∧ ((0 ≤ t2_ ∧ t2_ ≤ 1280) ∧ (-1 ≤ mi_ ∧ mi_ ≤ 15)) ∧ True) → ((9000 : Nat)) < nn_ → sm_T (mt_P sc_) 8 338 (58, [some (.inr (.inr (some (13, 0)))), some (.inl m_), some (.inl t2_), none, some (.inl mi_), none, none, none, none], [], S_) (fun r_ => ∃ u_ S1_, r_ = (.inl u_, S1_, 0) ∧ vq_338 m_ b_ n_ T_ A_ M_ c_ p_ N_ S0_ u_ S1_)) ∧ (∀ (t2_ : Int) (mi_ : Int) (many : Int) (j_ : Int) (mr_ : Int) (S_ : sm_S), gi S_ → ai_fr (sx_W vw_338) S0_ S_ → ((∀ m_, m_ ≤ M_ → re1 b_ n_ T_ A_ m_ S_) ∧ (∀ m_, m_ ≤ M_ → rs1 A_ m_ S_) ∧ (∀ a_, (z_u5 b_ n_ A_ N_ M_ p_) = .inr a_ → mi_ = p_fm b_ n_ N_ M_ a_.1.2 ∧ (0 ≤ mi_ ∧ mi_ < (M_ : Int)) ∧ many = (p_cn (g_in A_ mi_.toNat) (A_.1 mi_.toNat) : Nat) ∧ rtk b_ n_ T_ t2_ a_.1.1) ∧ ((0 ≤ t2_ ∧ t2_ ≤ 1280) ∧ (-1 ≤ mi_ ∧ mi_ ≤ 15) ∧ (0 ≤ many ∧ many ≤ 40) ∧ 0 ≤ j_ ∧ j_ ≤ 1290) ∧ (u_w b_ n_ T_ (z_ua b_ n_ A_ N_ M_ c_ p_) S_ ∨ (mr_ = 1 ∧ u_r b_ n_ T_ A_ N_ M_ p_ (z_ua b_ n_ A_ N_ M_ c_ p_) j_.toNat S_) ∨ (mr_ = 0 ∧ u_e b_ n_ T_ A_ N_ M_ p_ (z_ua b_ n_ A_ N_ M_ c_ p_) (decide (j_ ≠ many)) S_)) ∧ (mr_ = 0 ∨ mr_ = 1) ∧ True) → (r_m2 mr_ S_) < nn_ → sm_T (mt_P sc_) 8 338 (114, [some (.inr (.inr (some (13, 0)))), some (.inl m_), some (.inl t2_), none, some (.inl mi_), some (.inl many), some (.inl j_), some (.inl mr_), none], [], S_) (fun r_ => ∃ u_ S1_, r_ = (.inl u_, S1_, 0) ∧ vq_338 m_ b_ n_ T_ A_ M_ c_ p_ N_ S0_ u_ S1_)) ∧ (∀ (t2_ : Int) (mi_ : Int) (many : Int) (j_ : Int) (S_ : sm_S), gi S_ → ai_fr (sx_W vw_338) S0_ S_ → ((∀ m_, m_ ≤ M_ → re1 b_ n_ T_ A_ m_ S_) ∧ (∀ m_, m_ ≤ M_ → rs1 A_ m_ S_) ∧ (∀ a_, (z_u5 b_ n_ A_ N_ M_ p_) = .inr a_ → mi_ = p_fm b_ n_ N_ M_ a_.1.2 ∧ (0 ≤ mi_ ∧ mi_ < (M_ : Int)) ∧ many = (p_cn (g_in A_ mi_.toNat) (A_.1 mi_.toNat) : Nat) ∧ rtk b_ n_ T_ t2_ a_.1.1) ∧ ((0 ≤ t2_ ∧ t2_ ≤ 1280) ∧ (-1 ≤ mi_ ∧ mi_ ≤ 15) ∧ (0 ≤ many ∧ many ≤ 40) ∧ 0 ≤ j_ ∧ j_ ≤ 1290) ∧ (u_w b_ n_ T_ (z_ua b_ n_ A_ N_ M_ c_ p_) S_ ∨ u_n b_ n_ T_ A_ N_ M_ p_ (z_ua b_ n_ A_ N_ M_ c_ p_) j_.toNat S_) ∧ (j_ ≤ 1285) ∧ True) → (r_m3 S_) < nn_ → sm_T (mt_P sc_) 8 338 (187, [some (.inr (.inr (some (13, 0)))), some (.inl m_), some (.inl t2_), none, some (.inl mi_), some (.inl many), some (.inl j_), none, none], [], S_) (fun r_ => ∃ u_ S1_, r_ = (.inl u_, S1_, 0) ∧ vq_338 m_ b_ n_ T_ A_ M_ c_ p_ N_ S0_ u_ S1_)) ∧ (∀ (t2_ : Int) (mi_ : Int) (many : Int) (j_ : Int) (S_ : sm_S), gi S_ → ai_fr (sx_W vw_338) S0_ S_ → ((∀ m_, m_ ≤ M_ → re1 b_ n_ T_ A_ m_ S_) ∧ (∀ m_, m_ ≤ M_ → rs1 A_ m_ S_) ∧ (∀ a_, (z_u5 b_ n_ A_ N_ M_ p_) = .inr a_ → mi_ = p_fm b_ n_ N_ M_ a_.1.2 ∧ (0 ≤ mi_ ∧ mi_ < (M_ : Int)) ∧ many = (p_cn (g_in A_ mi_.toNat) (A_.1 mi_.toNat) : Nat) ∧ rtk b_ n_ T_ t2_ a_.1.1) ∧ ((0 ≤ t2_ ∧ t2_ ≤ 1280) ∧ (-1 ≤ mi_ ∧ mi_ ≤ 15) ∧ (0 ≤ many ∧ many ≤ 40) ∧ 0 ≤ j_ ∧ j_ ≤ 1290) ∧ (u_w b_ n_ T_ (z_ua b_ n_ A_ N_ M_ c_ p_) S_ ∨ u_e b_ n_ T_ A_ N_ M_ p_ (z_ua b_ n_ A_ N_ M_ c_ p_) (decide (j_ ≠ many)) S_) ∧ True) → ((6 : Nat)) < nn_ → sm_T (mt_P sc_) 8 338 (244, [some (.inr (.inr (some (13, 0)))), some (.inl m_), some (.inl t2_), none, some (.inl mi_), some (.inl many), some (.inl j_), none, none], [], S_) (fun r_ => ∃ u_ S1_, r_ = (.inl u_, S1_, 0) ∧ vq_338 m_ b_ n_ T_ A_ M_ c_ p_ N_ S0_ u_ S1_)) ∧ (∀ (t2_ : Int) (mi_ : Int) (S_ : sm_S), gi S_ → ai_fr (sx_W vw_338) S0_ S_ → ((∀ m_, m_ ≤ M_ → re1 b_ n_ T_ A_ m_ S_) ∧ (∀ m_, m_ ≤ M_ → rs1 A_ m_ S_) ∧ (∀ a_, (z_u5 b_ n_ A_ N_ M_ p_) = .inr a_ → mi_ = p_fm b_ n_ N_ M_ a_.1.2 ∧ (0 ≤ mi_ ∧ mi_ < (M_ : Int)) ∧ rtk b_ n_ T_ t2_ a_.1.1) ∧ ((0 ≤ t2_ ∧ t2_ ≤ 1280) ∧ (-1 ≤ mi_ ∧ mi_ ≤ 15)) ∧ (∃ x9_, rg b_ n_ T_ x9_ S_ ∧ (pb (z_ua b_ n_ A_ N_ M_ c_ p_) fun a_ => .inr a_.2.2) = pb x9_ (p_nd b_ n_ 41)) ∧ True) → ((4 : Nat)) < nn_ → sm_T (mt_P sc_) 8 338 (274, [some (.inr (.inr (some (13, 0)))), some (.inl m_), some (.inl t2_), none, some (.inl mi_), none, none, none, none], [], S_) (fun r_ => ∃ u_ S1_, r_ = (.inl u_, S1_, 0) ∧ vq_338 m_ b_ n_ T_ A_ M_ c_ p_ N_ S0_ u_ S1_)) := by
  intro nn_
  induction nn_ with
  | zero => exact ⟨fun _ _ _ _ _ _ h_ => absurd h_ (Nat.not_lt_zero _), fun _ _ _ _ _ _ _ _ _ h_ => absurd h_ (Nat.not_lt_zero _), fun _ _ _ _ _ _ _ _ h_ => absurd h_ (Nat.not_lt_zero _), fun _ _ _ _ _ _ _ _ h_ => absurd h_ (Nat.not_lt_zero _), fun _ _ _ _ _ _ h_ => absurd h_ (Nat.not_lt_zero _)⟩
  | succ nn_ ih_ =>
    refine ⟨?_, ?_, ?_, ?_, ?_⟩
    · rintro t2_ mi_ S_ hI_ hF_ ⟨g58_, mi58_, tk58_, re58_, rs58_, tb58_, -⟩ hm_
      have le0_ := rg_le ht_ hx_
      have hn1_ := ht_.1
      have hAM_ := (hA_.2 M_ (Nat.le_refl M_)).1
      have t58_ := rtab_fr ht_ hF_ rfl rfl rfl rfl rfl
      have k1u : ∀ a_, (z_u2 b_ n_ A_ M_ p_) = .inr a_ → lx_kd b_ n_ a_.2 = 1 := fun a_ ha_ => by obtain ⟨a1_, h6_, h5_⟩ := pb_inr ha_; obtain ⟨y_, h7_, h5_⟩ := pb_inr h5_; cases h5_; unfold p_du at h7_; split at h7_; assumption; cases h7_
      refine sm_T_go 1 (c1 := (59, [some (.inr (.inr (some (13, 0)))), some (.inl m_), some (.inl t2_), none, some (.inl mi_), none, none, none, none], [.inr (.inr (some (13, 0)))], S_)) rfl ?_
      refine sm_T_cal (d1 := 2) (Q1 := vq_297 b_ n_ T_ (pb (z_u3 b_ n_ A_ N_ M_ p_) fun a_ => .inr a_.2) S_) rfl rfl (by decide) (vc_297 b_ n_ T_ (pb (z_u3 b_ n_ A_ N_ M_ p_) fun a_ => .inr a_.2) S_ hI_ (by exact t58_) (by exact g58_) (by (intro q_ e_; obtain ⟨a_, h1_, h2_⟩ := pb_inr e_; cases h2_; obtain ⟨a1_, h3_, h4_⟩ := pb_inr h1_; split at h4_; (cases h4_); (cases h4_; have z_ := k1u a_ h3_; omega)))) (fun u_ Sx1_ px4_ => ?_)
      obtain ⟨rfl, hIx2_, hFx3_, px4_⟩ := px4_
      have hFx5_ : ai_fr (sx_W vw_338) S0_ Sx1_ := ai_fr_tr hF_ (fr_le hFx3_ rfl)
      have re59_ : ∀ m_, m_ ≤ M_ → re1 b_ n_ T_ A_ m_ Sx1_ := fun m_ hm_ => re1_fr (re58_ m_ hm_) hFx3_ rfl rfl rfl rfl rfl rfl
      have rs59_ : ∀ m_, m_ ≤ M_ → rs1 A_ m_ Sx1_ := fun m_ hm_ => rs1_fr (rs58_ m_ hm_) hFx3_ rfl rfl rfl rfl
      have t59_ := rtab_fr t58_ hFx3_ rfl rfl rfl rfl rfl
      have g59_ : rg b_ n_ T_ (pb (z_u4 b_ n_ A_ N_ M_ p_) fun a_ => .inr a_.2) Sx1_ := rg_pb px4_.1 (fun a_ _ => by rw [pb_as]; exact pb_id.symm)
      refine sm_T_go 2 (c1 := (65, [some (.inr (.inr (some (13, 0)))), some (.inl m_), some (.inl t2_), none, some (.inl mi_), none, none, none, none], [.inl 40, .inr (.inr (some (13, 0)))], Sx1_)) rfl ?_
      refine sm_T_cal (d1 := 3) (Q1 := vq_300 40 b_ n_ T_ (pb (z_u4 b_ n_ A_ N_ M_ p_) fun a_ => .inr a_.2) Sx1_) rfl rfl (by decide) (vc_300 40 b_ n_ T_ (pb (z_u4 b_ n_ A_ N_ M_ p_) fun a_ => .inr a_.2) Sx1_ hIx2_ (by exact t59_) (by exact g59_) (by decide)) (fun u_ Sx6_ px9_ => ?_)
      obtain ⟨rfl, hIx7_, hFx8_, px9_⟩ := px9_
      have hFx10_ : ai_fr (sx_W vw_338) S0_ Sx6_ := ai_fr_tr hFx5_ (fr_le hFx8_ rfl)
      have re65_ : ∀ m_, m_ ≤ M_ → re1 b_ n_ T_ A_ m_ Sx6_ := fun m_ hm_ => re1_fr (re59_ m_ hm_) hFx8_ rfl rfl rfl rfl rfl rfl
      have rs65_ : ∀ m_, m_ ≤ M_ → rs1 A_ m_ Sx6_ := fun m_ hm_ => rs1_fr (rs59_ m_ hm_) hFx8_ rfl rfl rfl rfl
      have t65_ := rtab_fr t59_ hFx8_ rfl rfl rfl rfl rfl
      have g65_ : rg b_ n_ T_ (pb (z_u5 b_ n_ A_ N_ M_ p_) fun a_ => .inr a_.2) Sx6_ := rg_pb px9_ (fun a_ _ => by rw [pb_as]; exact pb_id.symm)
      have mi65_ : ∀ a_, (z_u5 b_ n_ A_ N_ M_ p_) = .inr a_ → mi_ = p_fm b_ n_ N_ M_ a_.1.2 := fun a_ ha_ => by obtain ⟨a4_, h1_, h_⟩ := pb_inr ha_; obtain ⟨v_, h2_, h_⟩ := pb_inr h_; cases h_; obtain ⟨a3_, h3_, h1_⟩ := pb_inr h1_; obtain ⟨u_, h4_, h1_⟩ := pb_inr h1_; cases h1_; exact mi58_ a3_ h3_
      refine sm_T_go 1 (c1 := (69, [some (.inr (.inr (some (13, 0)))), some (.inl m_), some (.inl t2_), none, some (.inl mi_), none, none, none, none], [.inr (.inr (some (13, 0)))], Sx6_)) rfl ?_
      refine sm_T_cal (d1 := 0) (Q1 := vq_292  Sx6_) rfl rfl (by decide) (vc_292  Sx6_ hIx7_ ) (fun u_ Sx11_ px14_ => ?_)
      obtain ⟨rfl, vx16_, rfl, px14_⟩ := px14_
      have e69_ := px14_
      refine sm_T_b0 (a := 0) (z := 13) rfl (fun cx17_ => ?_) (fun cx17_ => ?_)
      · have cx17_ : vx16_ = 0 := of_decide_eq_true cx17_
        have hz_ := wr_if e69_ (by omega)
        obtain ⟨e5_, he5_⟩ := rg_wr g65_ hz_
        have uaw_ : (z_ua b_ n_ A_ N_ M_ c_ p_) = .inl e5_ := by unfold z_ua; rw [he5_]; rfl
        have g5w := g65_
        rw [he5_] at g5w
        refine sm_T_go 5 (c1 := (92, [some (.inr (.inr (some (13, 0)))), some (.inl m_), some (.inl t2_), none, some (.inl mi_), some (.inl 0), some (.inl 0), none, none], [.inr (.inr (some (13, 0)))], Sx6_)) rfl ?_
        refine sm_T_cal (d1 := 0) (Q1 := vq_292  Sx6_) rfl rfl (by decide) (vc_292  Sx6_ hIx7_ ) (fun u_ Sx18_ px21_ => ?_)
        obtain ⟨rfl, vx23_, rfl, px21_⟩ := px21_
        have e92_ := px21_
        refine sm_T_b0 (a := 0) (z := 16) rfl (fun cx24_ => ?_) (fun cx24_ => ?_)
        · have cx24_ : vx23_ = 0 := of_decide_eq_true cx24_
          have hz3_ := wr_if e92_ (by omega)
          refine sm_T_go 2 (c1 := (114, [some (.inr (.inr (some (13, 0)))), some (.inl m_), some (.inl t2_), none, some (.inl mi_), some (.inl 0), some (.inl 0), some (.inl 0), none], [], Sx6_)) rfl ?_
          refine ih_.2.1 t2_ mi_ 0 0 0 Sx6_ hIx7_ hFx10_ ⟨?_, ?_, ?_, ?_, ?_, ?_, trivial⟩ ?_
          · exact re65_
          · exact rs65_
          · first | (exact absurd hz3_ hz_) | (exact absurd hz_ hz3_) | (intro a_ ha_; rw [he5_] at ha_; cases ha_; done) | (intro a_ ha_; rw [ha5_] at ha_; cases ha_; exact ⟨mi5_, by omega, e79_, tk58_ _ u5_.1⟩)
          · omega
          · first | (exact absurd hz3_ hz_) | (exact absurd hz_ hz3_) | (left; exact ⟨e5_, uaw_, g5w⟩) | (right; left; refine ⟨rfl, a5_, n_ + 1, cw 15 (A_.1 M_) 0 :: c_, a5_.2, ha5_, g5r, ?_, by omega, by simp only [List.length_cons]; omega, Nat.zero_le _⟩; rw [uac_]; unfold p_ua; rw [if_neg (fun z_ => by have := (e101_ a5_.2 (by rw [ha5_]; rfl)).mpr z_; omega)]; rfl) | (right; right; refine ⟨rfl, a5_, cw 15 (A_.1 M_) 0 :: c_, a5_.2, ha5_, g5r, ?_⟩; rw [uac_]; unfold p_ua; rw [if_pos ((e101_ a5_.2 (by rw [ha5_]; rfl)).mp (by omega)), ← mN_, ni_t hA_ (show mi_.toNat ≤ M_ by omega) e79_])
          · first | (left; rfl) | (right; rfl)
          · exact Nat.lt_of_le_of_lt (rm2_b hIx7_) (by omega)
        · have cx24_ : ¬ (vx23_ = 0) := of_decide_eq_false cx24_
          have hz3_ := rt_if e92_ (by omega)
          refine sm_T_go 2 (c1 := (101, [some (.inr (.inr (some (13, 0)))), some (.inl m_), some (.inl t2_), none, some (.inl mi_), some (.inl 0), some (.inl 0), none, none], [.inl 41, .inr (.inr (some (13, 0)))], Sx6_)) rfl ?_
          refine sm_T_cal (d1 := 0) (Q1 := vq_295 41 b_ n_ T_ (pb (z_u5 b_ n_ A_ N_ M_ p_) fun a_ => .inr a_.2) Sx6_) rfl rfl (by decide) (vc_295 41 b_ n_ T_ (pb (z_u5 b_ n_ A_ N_ M_ p_) fun a_ => .inr a_.2) Sx6_ hIx7_ (by exact t65_) (by exact g65_) (by decide)) (fun u_ Sx25_ px28_ => ?_)
          obtain ⟨rfl, vx30_, rfl, px28_⟩ := px28_
          have e101_ := px28_.2
          have r101_ := px28_.1.1
          refine sm_T_b0 (a := 1) (z := 7) rfl (fun cx31_ => ?_) (fun cx31_ => ?_)
          · have cx31_ : vx30_ ≠ 0 := of_decide_eq_true cx31_
            refine sm_T_go 2 (c1 := (114, [some (.inr (.inr (some (13, 0)))), some (.inl m_), some (.inl t2_), none, some (.inl mi_), some (.inl 0), some (.inl 0), some (.inl 0), none], [], Sx6_)) rfl ?_
            refine ih_.2.1 t2_ mi_ 0 0 0 Sx6_ hIx7_ hFx10_ ⟨?_, ?_, ?_, ?_, ?_, ?_, trivial⟩ ?_
            · exact re65_
            · exact rs65_
            · first | (exact absurd hz3_ hz_) | (exact absurd hz_ hz3_) | (intro a_ ha_; rw [he5_] at ha_; cases ha_; done) | (intro a_ ha_; rw [ha5_] at ha_; cases ha_; exact ⟨mi5_, by omega, e79_, tk58_ _ u5_.1⟩)
            · omega
            · first | (exact absurd hz3_ hz_) | (exact absurd hz_ hz3_) | (left; exact ⟨e5_, uaw_, g5w⟩) | (right; left; refine ⟨rfl, a5_, n_ + 1, cw 15 (A_.1 M_) 0 :: c_, a5_.2, ha5_, g5r, ?_, by omega, by simp only [List.length_cons]; omega, Nat.zero_le _⟩; rw [uac_]; unfold p_ua; rw [if_neg (fun z_ => by have := (e101_ a5_.2 (by rw [ha5_]; rfl)).mpr z_; omega)]; rfl) | (right; right; refine ⟨rfl, a5_, cw 15 (A_.1 M_) 0 :: c_, a5_.2, ha5_, g5r, ?_⟩; rw [uac_]; unfold p_ua; rw [if_pos ((e101_ a5_.2 (by rw [ha5_]; rfl)).mp (by omega)), ← mN_, ni_t hA_ (show mi_.toNat ≤ M_ by omega) e79_])
            · first | (left; rfl) | (right; rfl)
            · exact Nat.lt_of_le_of_lt (rm2_b hIx7_) (by omega)
          · have cx31_ : ¬ (vx30_ ≠ 0) := of_decide_eq_false cx31_
            refine sm_T_go 3 (c1 := (114, [some (.inr (.inr (some (13, 0)))), some (.inl m_), some (.inl t2_), none, some (.inl mi_), some (.inl 0), some (.inl 0), some (.inl 1), none], [], Sx6_)) rfl ?_
            refine ih_.2.1 t2_ mi_ 0 0 1 Sx6_ hIx7_ hFx10_ ⟨?_, ?_, ?_, ?_, ?_, ?_, trivial⟩ ?_
            · exact re65_
            · exact rs65_
            · first | (exact absurd hz3_ hz_) | (exact absurd hz_ hz3_) | (intro a_ ha_; rw [he5_] at ha_; cases ha_; done) | (intro a_ ha_; rw [ha5_] at ha_; cases ha_; exact ⟨mi5_, by omega, e79_, tk58_ _ u5_.1⟩)
            · omega
            · first | (exact absurd hz3_ hz_) | (exact absurd hz_ hz3_) | (left; exact ⟨e5_, uaw_, g5w⟩) | (right; left; refine ⟨rfl, a5_, n_ + 1, cw 15 (A_.1 M_) 0 :: c_, a5_.2, ha5_, g5r, ?_, by omega, by simp only [List.length_cons]; omega, Nat.zero_le _⟩; rw [uac_]; unfold p_ua; rw [if_neg (fun z_ => by have := (e101_ a5_.2 (by rw [ha5_]; rfl)).mpr z_; omega)]; rfl) | (right; right; refine ⟨rfl, a5_, cw 15 (A_.1 M_) 0 :: c_, a5_.2, ha5_, g5r, ?_⟩; rw [uac_]; unfold p_ua; rw [if_pos ((e101_ a5_.2 (by rw [ha5_]; rfl)).mp (by omega)), ← mN_, ni_t hA_ (show mi_.toNat ≤ M_ by omega) e79_])
            · first | (left; rfl) | (right; rfl)
            · exact Nat.lt_of_le_of_lt (rm2_b hIx7_) (by omega)
      · have cx17_ : ¬ (vx16_ = 0) := of_decide_eq_false cx17_
        have hz_ := rt_if e69_ (by omega)
        obtain ⟨a5_, ha5_⟩ := rg_rt g65_ hz_
        have g5r := rg_at g65_ ha5_
        have u5_ := u5_ok le0_.1 hk_ ha5_
        have mi5_ := mi65_ a5_ ha5_
        have u5b := u5_.2.1
        have mN_ : mi_.toNat = (p_fm b_ n_ N_ M_ a5_.1.2).toNat := by omega
        have Am_ := (hA_.2 mi_.toNat (by omega)).1
        have uac_ : (z_ua b_ n_ A_ N_ M_ c_ p_) = (pb (p_ua b_ n_ A_ M_ (p_fm b_ n_ N_ M_ a5_.1.2).toNat (A_.1 M_) a5_.1.1 (cw 15 (A_.1 M_) 0 :: c_) a5_.2) fun x_ => .inr (a5_.1, x_)) := by unfold z_ua; rw [ha5_]; rfl
        refine sm_T_go 3 (c1 := (79, [some (.inr (.inr (some (13, 0)))), some (.inl m_), some (.inl t2_), none, some (.inl mi_), none, none, none, none], [.inl 1, .inl mi_, .inr (.inr (some (13, 0)))], Sx6_)) rfl ?_
        refine sm_T_cal (d1 := 0) (Q1 := vq_305 mi_ 1 b_ n_ T_ A_ mi_.toNat Sx6_) rfl rfl (by decide) (vc_305 mi_ 1 b_ n_ T_ A_ mi_.toNat Sx6_ hIx7_ (by omega) (by exact re65_ mi_.toNat (by omega)) (by exact Am_)) (fun u_ Sx32_ px35_ => ?_)
        obtain ⟨rfl, vx37_, rfl, px35_⟩ := px35_
        have e79_ : vx37_ = (p_cn (g_in A_ mi_.toNat) (A_.1 mi_.toNat) : Nat) := px35_
        have cb79_ := p_cn_b (g_ := g_in A_ mi_.toNat) (A_.1 mi_.toNat)
        refine sm_T_go 5 (c1 := (92, [some (.inr (.inr (some (13, 0)))), some (.inl m_), some (.inl t2_), none, some (.inl mi_), some (.inl vx37_), some (.inl 0), none, none], [.inr (.inr (some (13, 0)))], Sx6_)) rfl ?_
        refine sm_T_cal (d1 := 0) (Q1 := vq_292  Sx6_) rfl rfl (by decide) (vc_292  Sx6_ hIx7_ ) (fun u_ Sx38_ px41_ => ?_)
        obtain ⟨rfl, vx43_, rfl, px41_⟩ := px41_
        have e92_ := px41_
        refine sm_T_b0 (a := 0) (z := 16) rfl (fun cx44_ => ?_) (fun cx44_ => ?_)
        · have cx44_ : vx43_ = 0 := of_decide_eq_true cx44_
          have hz3_ := wr_if e92_ (by omega)
          refine sm_T_go 2 (c1 := (114, [some (.inr (.inr (some (13, 0)))), some (.inl m_), some (.inl t2_), none, some (.inl mi_), some (.inl vx37_), some (.inl 0), some (.inl 0), none], [], Sx6_)) rfl ?_
          refine ih_.2.1 t2_ mi_ vx37_ 0 0 Sx6_ hIx7_ hFx10_ ⟨?_, ?_, ?_, ?_, ?_, ?_, trivial⟩ ?_
          · exact re65_
          · exact rs65_
          · first | (exact absurd hz3_ hz_) | (exact absurd hz_ hz3_) | (intro a_ ha_; rw [he5_] at ha_; cases ha_; done) | (intro a_ ha_; rw [ha5_] at ha_; cases ha_; exact ⟨mi5_, by omega, e79_, tk58_ _ u5_.1⟩)
          · omega
          · first | (exact absurd hz3_ hz_) | (exact absurd hz_ hz3_) | (left; exact ⟨e5_, uaw_, g5w⟩) | (right; left; refine ⟨rfl, a5_, n_ + 1, cw 15 (A_.1 M_) 0 :: c_, a5_.2, ha5_, g5r, ?_, by omega, by simp only [List.length_cons]; omega, Nat.zero_le _⟩; rw [uac_]; unfold p_ua; rw [if_neg (fun z_ => by have := (e101_ a5_.2 (by rw [ha5_]; rfl)).mpr z_; omega)]; rfl) | (right; right; refine ⟨rfl, a5_, cw 15 (A_.1 M_) 0 :: c_, a5_.2, ha5_, g5r, ?_⟩; rw [uac_]; unfold p_ua; rw [if_pos ((e101_ a5_.2 (by rw [ha5_]; rfl)).mp (by omega)), ← mN_, ni_t hA_ (show mi_.toNat ≤ M_ by omega) e79_])
          · first | (left; rfl) | (right; rfl)
          · exact Nat.lt_of_le_of_lt (rm2_b hIx7_) (by omega)
        · have cx44_ : ¬ (vx43_ = 0) := of_decide_eq_false cx44_
          have hz3_ := rt_if e92_ (by omega)
          refine sm_T_go 2 (c1 := (101, [some (.inr (.inr (some (13, 0)))), some (.inl m_), some (.inl t2_), none, some (.inl mi_), some (.inl vx37_), some (.inl 0), none, none], [.inl 41, .inr (.inr (some (13, 0)))], Sx6_)) rfl ?_
          refine sm_T_cal (d1 := 0) (Q1 := vq_295 41 b_ n_ T_ (pb (z_u5 b_ n_ A_ N_ M_ p_) fun a_ => .inr a_.2) Sx6_) rfl rfl (by decide) (vc_295 41 b_ n_ T_ (pb (z_u5 b_ n_ A_ N_ M_ p_) fun a_ => .inr a_.2) Sx6_ hIx7_ (by exact t65_) (by exact g65_) (by decide)) (fun u_ Sx45_ px48_ => ?_)
          obtain ⟨rfl, vx50_, rfl, px48_⟩ := px48_
          have e101_ := px48_.2
          have r101_ := px48_.1.1
          refine sm_T_b0 (a := 1) (z := 7) rfl (fun cx51_ => ?_) (fun cx51_ => ?_)
          · have cx51_ : vx50_ ≠ 0 := of_decide_eq_true cx51_
            refine sm_T_go 2 (c1 := (114, [some (.inr (.inr (some (13, 0)))), some (.inl m_), some (.inl t2_), none, some (.inl mi_), some (.inl vx37_), some (.inl 0), some (.inl 0), none], [], Sx6_)) rfl ?_
            refine ih_.2.1 t2_ mi_ vx37_ 0 0 Sx6_ hIx7_ hFx10_ ⟨?_, ?_, ?_, ?_, ?_, ?_, trivial⟩ ?_
            · exact re65_
            · exact rs65_
            · first | (exact absurd hz3_ hz_) | (exact absurd hz_ hz3_) | (intro a_ ha_; rw [he5_] at ha_; cases ha_; done) | (intro a_ ha_; rw [ha5_] at ha_; cases ha_; exact ⟨mi5_, by omega, e79_, tk58_ _ u5_.1⟩)
            · omega
            · first | (exact absurd hz3_ hz_) | (exact absurd hz_ hz3_) | (left; exact ⟨e5_, uaw_, g5w⟩) | (right; left; refine ⟨rfl, a5_, n_ + 1, cw 15 (A_.1 M_) 0 :: c_, a5_.2, ha5_, g5r, ?_, by omega, by simp only [List.length_cons]; omega, Nat.zero_le _⟩; rw [uac_]; unfold p_ua; rw [if_neg (fun z_ => by have := (e101_ a5_.2 (by rw [ha5_]; rfl)).mpr z_; omega)]; rfl) | (right; right; refine ⟨rfl, a5_, cw 15 (A_.1 M_) 0 :: c_, a5_.2, ha5_, g5r, ?_⟩; rw [uac_]; unfold p_ua; rw [if_pos ((e101_ a5_.2 (by rw [ha5_]; rfl)).mp (by omega)), ← mN_, ni_t hA_ (show mi_.toNat ≤ M_ by omega) e79_])
            · first | (left; rfl) | (right; rfl)
            · exact Nat.lt_of_le_of_lt (rm2_b hIx7_) (by omega)
          · have cx51_ : ¬ (vx50_ ≠ 0) := of_decide_eq_false cx51_
            refine sm_T_go 3 (c1 := (114, [some (.inr (.inr (some (13, 0)))), some (.inl m_), some (.inl t2_), none, some (.inl mi_), some (.inl vx37_), some (.inl 0), some (.inl 1), none], [], Sx6_)) rfl ?_
            refine ih_.2.1 t2_ mi_ vx37_ 0 1 Sx6_ hIx7_ hFx10_ ⟨?_, ?_, ?_, ?_, ?_, ?_, trivial⟩ ?_
            · exact re65_
            · exact rs65_
            · first | (exact absurd hz3_ hz_) | (exact absurd hz_ hz3_) | (intro a_ ha_; rw [he5_] at ha_; cases ha_; done) | (intro a_ ha_; rw [ha5_] at ha_; cases ha_; exact ⟨mi5_, by omega, e79_, tk58_ _ u5_.1⟩)
            · omega
            · first | (exact absurd hz3_ hz_) | (exact absurd hz_ hz3_) | (left; exact ⟨e5_, uaw_, g5w⟩) | (right; left; refine ⟨rfl, a5_, n_ + 1, cw 15 (A_.1 M_) 0 :: c_, a5_.2, ha5_, g5r, ?_, by omega, by simp only [List.length_cons]; omega, Nat.zero_le _⟩; rw [uac_]; unfold p_ua; rw [if_neg (fun z_ => by have := (e101_ a5_.2 (by rw [ha5_]; rfl)).mpr z_; omega)]; rfl) | (right; right; refine ⟨rfl, a5_, cw 15 (A_.1 M_) 0 :: c_, a5_.2, ha5_, g5r, ?_⟩; rw [uac_]; unfold p_ua; rw [if_pos ((e101_ a5_.2 (by rw [ha5_]; rfl)).mp (by omega)), ← mN_, ni_t hA_ (show mi_.toNat ≤ M_ by omega) e79_])
            · first | (left; rfl) | (right; rfl)
            · exact Nat.lt_of_le_of_lt (rm2_b hIx7_) (by omega)
    · rintro t2_ mi_ many j_ mr_ S_ hI_ hF_ ⟨re114_, rs114_, mi114_, tb114_, h1_, mrb_, -⟩ hm_
      have le0_ := rg_le ht_ hx_
      have hn1_ := ht_.1
      have hAM_ := (hA_.2 M_ (Nat.le_refl M_)).1
      have tt_ := rtab_fr ht_ hF_ rfl rfl rfl rfl rfl
      have mo9_ := (hF_.1 13 0 27 rfl).trans hmo_
      have md9_ := (hF_.1 13 0 28 rfl).trans hmd_
      refine sm_T_go 1 (c1 := (115, [some (.inr (.inr (some (13, 0)))), some (.inl m_), some (.inl t2_), none, some (.inl mi_), some (.inl many), some (.inl j_), some (.inl mr_), none], [.inr (.inr (some (13, 0)))], S_)) rfl ?_
      refine sm_T_cal (d1 := 0) (Q1 := vq_292  S_) rfl rfl (by decide) (vc_292  S_ hI_ ) (fun u_ Sx1_ px4_ => ?_)
      obtain ⟨rfl, vx6_, rfl, px4_⟩ := px4_
      have e115_ := px4_
      refine sm_T_b0 (a := 0) (z := 126) rfl (fun cx7_ => ?_) (fun cx7_ => ?_)
      · have cx7_ : vx6_ = 0 := of_decide_eq_true cx7_
        have hz_ := wr_if e115_ (by omega)
        have hw_ : u_w b_ n_ T_ (z_ua b_ n_ A_ N_ M_ c_ p_) S_ := by rcases h1_ with z_ | ⟨z1_, a_, f_, c1_, p1_, z2_, z3_, z4_⟩ | ⟨z1_, a_, c1_, p1_, z2_, z3_, z4_⟩; exact z_; (exact absurd z3_.1 hz_); (exact absurd z3_.1 hz_)
        refine sm_T_go 0 (c1 := (244, [some (.inr (.inr (some (13, 0)))), some (.inl m_), some (.inl t2_), none, some (.inl mi_), some (.inl many), some (.inl j_), some (.inl mr_), none], [], S_)) rfl ?_
        refine sm_T_wk [some (.inr (.inr (some (13, 0)))), some (.inl m_), some (.inl t2_), none, some (.inl mi_), some (.inl many), some (.inl j_), none, none] (by exact ⟨rfl, rfl, rfl, rfl, rfl, rfl, trivial⟩) ?_
        refine ih_.2.2.2.1 t2_ mi_ many j_ S_ hI_ hF_ ⟨?_, ?_, ?_, ?_, ?_, trivial⟩ ?_
        · exact re114_
        · exact rs114_
        · exact mi114_
        · omega
        · first | (left; exact hw_) | (right; exact he_)
        · (have z_ := rm2_lo mr_ S_ hI_); omega
      · have cx7_ : ¬ (vx6_ = 0) := of_decide_eq_false cx7_
        have hz_ := rt_if e115_ (by omega)
        refine sm_T_go 1 (c1 := (123, [some (.inr (.inr (some (13, 0)))), some (.inl m_), some (.inl t2_), none, some (.inl mi_), some (.inl many), some (.inl j_), some (.inl mr_), none], [.inl mr_], S_)) rfl ?_
        refine sm_T_b0 (a := 0) (z := 121) rfl (fun cx8_ => ?_) (fun cx8_ => ?_)
        · have cx8_ : mr_ = 0 := of_decide_eq_true cx8_
          have he_ : u_e b_ n_ T_ A_ N_ M_ p_ (z_ua b_ n_ A_ N_ M_ c_ p_) (decide (j_ ≠ many)) S_ := by rcases h1_ with ⟨e_, z1_, z2_⟩ | ⟨z1_, z2_⟩ | ⟨z1_, z2_⟩; (exact absurd (z2_.1.symm.trans hz_) z2_.2.2); (exfalso; omega); exact z2_
          refine sm_T_go 0 (c1 := (244, [some (.inr (.inr (some (13, 0)))), some (.inl m_), some (.inl t2_), none, some (.inl mi_), some (.inl many), some (.inl j_), some (.inl mr_), none], [], S_)) rfl ?_
          refine sm_T_wk [some (.inr (.inr (some (13, 0)))), some (.inl m_), some (.inl t2_), none, some (.inl mi_), some (.inl many), some (.inl j_), none, none] (by exact ⟨rfl, rfl, rfl, rfl, rfl, rfl, trivial⟩) ?_
          refine ih_.2.2.2.1 t2_ mi_ many j_ S_ hI_ hF_ ⟨?_, ?_, ?_, ?_, ?_, trivial⟩ ?_
          · exact re114_
          · exact rs114_
          · exact mi114_
          · omega
          · first | (left; exact hw_) | (right; exact he_)
          · (have z_ := rm2_lo mr_ S_ hI_); omega
        · have cx8_ : ¬ (mr_ = 0) := of_decide_eq_false cx8_
          obtain ⟨a5_, f5_, c5_, p5_, ha5_, g5_, hU5_, hf5_, hc5_, hj5_⟩ : u_r b_ n_ T_ A_ N_ M_ p_ (z_ua b_ n_ A_ N_ M_ c_ p_) j_.toNat S_ := by rcases h1_ with ⟨e_, z1_, z2_⟩ | ⟨z1_, z2_⟩ | ⟨z1_, z2_⟩; (exact absurd (z2_.1.symm.trans hz_) z2_.2.2); exact z2_; (exfalso; omega)
          obtain ⟨mi5_, mib_, mny_, rt5_⟩ := mi114_ a5_ ha5_
          have mN_ : mi_.toNat = (p_fm b_ n_ N_ M_ a5_.1.2).toNat := by omega
          have le5_ := rg_le tt_ g5_
          have Am_ := (hA_.2 mi_.toNat (by omega)).1
          have nn5_ := p_nth_n hA_ (show mi_.toNat ≤ M_ by omega) j_.toNat
          obtain ⟨f6_, hf6_⟩ : ∃ f6_, f5_ = f6_ + 1 := ⟨f5_ - 1, by omega⟩
          subst hf6_
          rw [p_ar] at hU5_
          rw [← mN_] at hU5_
          have rms_ := rm2_x (k_ := mr_) tt_ g5_ (by omega)
          have bx9_ : 0 ≤ S_.1 13 0 9 ∧ S_.1 13 0 9 ≤ 1280 := hI_.1 13 0 9 rfl
          refine sm_T_go 4 (c1 := (133, [some (.inr (.inr (some (13, 0)))), some (.inl m_), some (.inl t2_), none, some (.inl mi_), some (.inl many), some (.inl j_), some (.inl mr_), some (.inl (S_.1 13 0 9))], [.inr (.inr (some (13, 0)))], S_)) rfl ?_
          refine sm_T_cal (d1 := 7) (Q1 := vq_321 b_ n_ T_ 0 (.inr p5_) c5_ A_ M_ 0 (fun _ => 0) S_) rfl rfl (by decide) (vc_321 b_ n_ T_ 0 (.inr p5_) c5_ A_ M_ 0 (fun _ => 0) S_ hI_ (by exact tt_) (by exact g5_) (by exact Or.inl rfl) (by exact mo9_) (by (intro q_ hq_; cases hq_; exact ⟨hc5_, en_0 hA_ md9_ re114_⟩)) (by exact pm_0 hA_)) (fun u_ Sx10_ px13_ => ?_)
          obtain ⟨rfl, hIx11_, hFx12_, px13_⟩ := px13_
          have hFx14_ : ai_fr (sx_W vw_338) S0_ Sx10_ := ai_fr_tr hF_ (fr_le hFx12_ rfl)
          have re133_ : ∀ m_, m_ ≤ M_ → re1 b_ n_ T_ A_ m_ Sx10_ := fun m_ hm_ => re1_fr (re114_ m_ hm_) hFx12_ rfl rfl rfl rfl rfl rfl
          have rs133_ : ∀ m_, m_ ≤ M_ → rs1 A_ m_ Sx10_ := fun m_ hm_ => rs1_fr (rs114_ m_ hm_) hFx12_ rfl rfl rfl rfl
          have t133_ := rtab_fr tt_ hFx12_ rfl rfl rfl rfl rfl
          have pl133_ := fr_arr (t := 120) (i := 0) hFx12_ rfl
          have g133_ : rg b_ n_ T_ (pb (p_xd b_ n_ A_ M_ c5_ p5_) fun r_ => .inr r_.1) Sx10_ := by have z_ := px13_.1; simp only [pb_ir, xd_0] at z_; exact z_
          have v133_ : ∀ r_, p_xd b_ n_ A_ M_ c5_ p5_ = .inr r_ → Sx10_.2.2.1 138 0 (0 : Int).toNat = h_tp r_.2.1 := fun r_ hr_ => by have k_ := px13_.2 r_ (by simp only [pb_ir]; rw [xd_0]; exact hr_); exact vs_1 k_.1 k_.2
          refine sm_T_go 1 (c1 := (137, [some (.inr (.inr (some (13, 0)))), some (.inl m_), some (.inl t2_), none, some (.inl mi_), some (.inl many), some (.inl j_), some (.inl mr_), some (.inl (S_.1 13 0 9))], [.inr (.inr (some (13, 0)))], Sx10_)) rfl ?_
          refine sm_T_cal (d1 := 0) (Q1 := vq_292  Sx10_) rfl rfl (by decide) (vc_292  Sx10_ hIx11_ ) (fun u_ Sx15_ px18_ => ?_)
          obtain ⟨rfl, vx20_, rfl, px18_⟩ := px18_
          have e137_ := px18_
          refine sm_T_b0 (a := 0) (z := 47) rfl (fun cx21_ => ?_) (fun cx21_ => ?_)
          · have cx21_ : vx20_ = 0 := of_decide_eq_true cx21_
            have hz4_ := wr_if e137_ (by omega)
            obtain ⟨e6_, he6_⟩ := rg_wr g133_ hz4_
            have hw6_ : u_w b_ n_ T_ (z_ua b_ n_ A_ N_ M_ c_ p_) _ := ⟨e6_, by rw [hU5_, he6_]; rfl, by rw [he6_] at g133_; exact g133_⟩
            have t6x := t133_
            refine sm_T_go 0 (c1 := (187, [some (.inr (.inr (some (13, 0)))), some (.inl m_), some (.inl t2_), none, some (.inl mi_), some (.inl many), some (.inl j_), some (.inl mr_), some (.inl (S_.1 13 0 9))], [], Sx10_)) rfl ?_
            refine sm_T_wk [some (.inr (.inr (some (13, 0)))), some (.inl m_), some (.inl t2_), none, some (.inl mi_), some (.inl many), some (.inl j_), none, none] (by exact ⟨rfl, rfl, rfl, rfl, rfl, rfl, trivial⟩) ?_
            refine ih_.2.2.1 t2_ mi_ many j_ Sx10_ hIx11_ hFx14_ ⟨?_, ?_, ?_, ?_, ?_, ?_, trivial⟩ ?_
            · first | exact re184_ | exact re133_
            · first | exact rs184_ | exact rs133_
            · exact mi114_
            · omega
            · first | (left; exact hw6_) | (right; exact hn6_)
            · omega
            · first | (have z_ := rm3_x t6x g6_; omega) | (obtain ⟨e7_, y1_, y2_⟩ := hw6_; have z_ := rm3_w y2_; omega)
          · have cx21_ : ¬ (vx20_ = 0) := of_decide_eq_false cx21_
            have hz4_ := rt_if e137_ (by omega)
            obtain ⟨x6_, hx6_⟩ := rg_rt g133_ hz4_
            have v6_ := v133_ x6_ hx6_
            have g6_ := rg_at g133_ hx6_
            have k6_ := xd_ok hn1_ hA_ le5_.1 le5_.2.1 hc5_ hx6_
            have k61_ := k6_.1
            have k62_ := k6_.2.2.2.2.2
            rw [hx6_] at hU5_
            have t6x := t133_
            refine sm_T_go 2 (c1 := (147, [some (.inr (.inr (some (13, 0)))), some (.inl m_), some (.inl t2_), none, some (.inl mi_), some (.inl many), some (.inl j_), some (.inl mr_), some (.inl (S_.1 13 0 9))], [.inl many, .inl j_], Sx10_)) rfl ?_
            refine sm_T_br (a := 3) (z := 40) rfl (fun cx22_ => ?_) (fun cx22_ => ?_)
            · have cx22_ : many ≤ j_ := of_decide_eq_true cx22_
              have i6_ : p_nth A_ mi_.toNat j_.toNat = -1 := nn5_.mpr (by omega)
              have hn6_ : u_n b_ n_ T_ A_ N_ M_ p_ (z_ua b_ n_ A_ N_ M_ c_ p_) j_.toNat _ := ⟨a5_, f6_, x6_, ha5_, g6_, by rw [hU5_, ← mN_]; unfold p_an; simp only [pb_ir]; rw [if_neg (fun z_ => z_.1 i6_)], by omega, k62_, by omega⟩
              refine sm_T_go 0 (c1 := (187, [some (.inr (.inr (some (13, 0)))), some (.inl m_), some (.inl t2_), none, some (.inl mi_), some (.inl many), some (.inl j_), some (.inl mr_), some (.inl (S_.1 13 0 9))], [], Sx10_)) rfl ?_
              refine sm_T_wk [some (.inr (.inr (some (13, 0)))), some (.inl m_), some (.inl t2_), none, some (.inl mi_), some (.inl many), some (.inl j_), none, none] (by exact ⟨rfl, rfl, rfl, rfl, rfl, rfl, trivial⟩) ?_
              refine ih_.2.2.1 t2_ mi_ many j_ Sx10_ hIx11_ hFx14_ ⟨?_, ?_, ?_, ?_, ?_, ?_, trivial⟩ ?_
              · first | exact re184_ | exact re133_
              · first | exact rs184_ | exact rs133_
              · exact mi114_
              · omega
              · first | (left; exact hw6_) | (right; exact hn6_)
              · omega
              · first | (have z_ := rm3_x t6x g6_; omega) | (obtain ⟨e7_, y1_, y2_⟩ := hw6_; have z_ := rm3_w y2_; omega)
            · have cx22_ : ¬ (many ≤ j_) := of_decide_eq_false cx22_
              have i6_ : p_nth A_ mi_.toNat j_.toNat ≠ -1 := fun z_ => by have := nn5_.mp z_; omega
              obtain ⟨s6_, hs6_, hs7_, hs8_, hs9_⟩ : ∃ v_ : Nat, p_nth A_ mi_.toNat j_.toNat = (v_ : Int) ∧ v_ < A_.1 mi_.toNat ∧ g_in A_ mi_.toNat v_ = true ∧ p_cn (g_in A_ mi_.toNat) v_ = j_.toNat   := by rcases p_nth_r hA_ (show mi_.toNat ≤ M_ by omega) j_.toNat with z_ | z_; (exact absurd z_.1 i6_); exact z_
              refine sm_T_go 3 (c1 := (155, [some (.inr (.inr (some (13, 0)))), some (.inl m_), some (.inl t2_), none, some (.inl mi_), some (.inl many), some (.inl j_), some (.inl mr_), some (.inl (S_.1 13 0 9))], [.inl 0, .inr (.inr (some (138, 0)))], Sx10_)) rfl ?_
              refine sm_T_iald (n := 1024) rfl rfl (by omega) (by omega) ?_
              have bx23_ : (-2147483648) ≤ Sx10_.2.2.1 138 0 (0 : Int).toNat ∧ Sx10_.2.2.1 138 0 (0 : Int).toNat ≤ 2147483647 := hIx11_.2 138 0 _
              refine sm_T_go 4 (c1 := (164, [some (.inr (.inr (some (13, 0)))), some (.inl m_), some (.inl t2_), none, some (.inl mi_), some (.inl many), some (.inl j_), some (.inl mr_), some (.inl (S_.1 13 0 9))], [.inl mi_, .inl 40, .inr (.inr (some (129, 0))), .inl (Sx10_.2.2.1 138 0 (0 : Int).toNat)], Sx10_)) rfl ?_
              refine sm_T_bin (w := 40 * mi_) rfl (bi_mul (by omega) (by omega) (by omega)) ?_
              refine sm_T_go 4 (c1 := (171, [some (.inr (.inr (some (13, 0)))), some (.inl m_), some (.inl t2_), none, some (.inl mi_), some (.inl many), some (.inl j_), some (.inl mr_), some (.inl (S_.1 13 0 9))], [.inl j_, .inl 1, .inl mi_, .inr (.inr (some (13, 0))), .inl (40 * mi_), .inr (.inr (some (129, 0))), .inl (Sx10_.2.2.1 138 0 (0 : Int).toNat)], Sx10_)) rfl ?_
              refine sm_T_cal (d1 := 0) (Q1 := vq_304 mi_ 1 j_ b_ n_ T_ A_ mi_.toNat Sx10_) rfl rfl (by decide) (vc_304 mi_ 1 j_ b_ n_ T_ A_ mi_.toNat Sx10_ hIx11_ (by omega) (by exact re133_ mi_.toNat (by omega)) (by exact Am_) (by omega)) (fun u_ Sx24_ px27_ => ?_)
              obtain ⟨rfl, vx29_, rfl, px27_⟩ := px27_
              have e171_ : vx29_ = (s6_ : Int) := by rcases px27_ with ⟨z1_, z2_⟩ | ⟨u_, z1_, z2_, z3_, z4_⟩; (exfalso; have z2_ : (p_cn (g_in A_ mi_.toNat) (A_.1 mi_.toNat) : Int) ≤ j_ := z2_; omega); (rw [z1_]; have z5_ := p_cn_u (g_ := g_in A_ mi_.toNat) (u_ := u_) (v_ := s6_) z3_ hs8_ (by have z4_ : (p_cn (g_in A_ mi_.toNat) u_ : Int) = j_ := z4_; omega); rw [z5_])
              clear px27_
              have wd6_ := ((re133_ mi_.toNat (by omega)).2 s6_ hs7_).2.2.1
              have wd7_ : Sx10_.2.2.1 129 0 (40 * mi_ + vx29_).toNat = A_.2.2.2.1 (40 * mi_.toNat + s6_) := by rw [show (40 * mi_ + vx29_).toNat = 40 * mi_.toNat + s6_ by omega]; exact wd6_
              refine sm_T_bin (w := 40 * mi_ + vx29_) rfl (bi_add (by omega) (by omega) (by omega)) ?_
              refine sm_T_iald (n := 640) rfl rfl (by omega) (by omega) ?_
              have bx30_ : 0 ≤ Sx10_.2.2.1 129 0 (40 * mi_ + vx29_).toNat ∧ Sx10_.2.2.1 129 0 (40 * mi_ + vx29_).toNat ≤ 8 := hIx11_.2 129 0 _
              refine sm_T_br (a := 0) (z := 11) rfl (fun cx31_ => ?_) (fun cx31_ => ?_)
              · have cx31_ : (Sx10_.2.2.1 138 0 (0 : Int).toNat) = (Sx10_.2.2.1 129 0 (40 * mi_ + vx29_).toNat) := of_decide_eq_true cx31_
                have hn6_ : u_n b_ n_ T_ A_ N_ M_ p_ (z_ua b_ n_ A_ N_ M_ c_ p_) j_.toNat _ := ⟨a5_, f6_, x6_, ha5_, g6_, by rw [hU5_, ← mN_]; unfold p_an; simp only [pb_ir]; rw [if_neg (fun z_ => z_.2 (by rw [hs6_, Int.toNat_natCast]; omega))], by omega, k62_, by omega⟩
                refine sm_T_go 0 (c1 := (187, [some (.inr (.inr (some (13, 0)))), some (.inl m_), some (.inl t2_), none, some (.inl mi_), some (.inl many), some (.inl j_), some (.inl mr_), some (.inl (S_.1 13 0 9))], [], Sx10_)) rfl ?_
                refine sm_T_wk [some (.inr (.inr (some (13, 0)))), some (.inl m_), some (.inl t2_), none, some (.inl mi_), some (.inl many), some (.inl j_), none, none] (by exact ⟨rfl, rfl, rfl, rfl, rfl, rfl, trivial⟩) ?_
                refine ih_.2.2.1 t2_ mi_ many j_ Sx10_ hIx11_ hFx14_ ⟨?_, ?_, ?_, ?_, ?_, ?_, trivial⟩ ?_
                · first | exact re184_ | exact re133_
                · first | exact rs184_ | exact rs133_
                · exact mi114_
                · omega
                · first | (left; exact hw6_) | (right; exact hn6_)
                · omega
                · first | (have z_ := rm3_x t6x g6_; omega) | (obtain ⟨e7_, y1_, y2_⟩ := hw6_; have z_ := rm3_w y2_; omega)
              · have cx31_ : ¬ ((Sx10_.2.2.1 138 0 (0 : Int).toNat) = (Sx10_.2.2.1 129 0 (40 * mi_ + vx29_).toNat)) := of_decide_eq_false cx31_
                refine sm_T_go 3 (c1 := (184, [some (.inr (.inr (some (13, 0)))), some (.inl m_), some (.inl t2_), none, some (.inl mi_), some (.inl many), some (.inl j_), some (.inl mr_), some (.inl (S_.1 13 0 9))], [.inl (S_.1 13 0 9), .inl 13, .inr (.inr (some (13, 0)))], Sx10_)) rfl ?_
                refine sm_T_cal (d1 := 0) (Q1 := vq_294 13 (S_.1 13 0 9) Sx10_) rfl rfl (by decide) (vc_294 13 (S_.1 13 0 9) Sx10_ hIx11_ (by decide) (by omega)) (fun u_ Sx32_ px35_ => ?_)
                obtain ⟨rfl, hIx33_, hFx34_, px35_⟩ := px35_
                have hFx36_ : ai_fr (sx_W vw_338) S0_ Sx32_ := ai_fr_tr hFx14_ (fr_le hFx34_ rfl)
                have re184_ : ∀ m_, m_ ≤ M_ → re1 b_ n_ T_ A_ m_ Sx32_ := fun m_ hm_ => re1_fr (re133_ m_ hm_) hFx34_ rfl rfl rfl rfl rfl rfl
                have rs184_ : ∀ m_, m_ ≤ M_ → rs1 A_ m_ Sx32_ := fun m_ hm_ => rs1_fr (rs133_ m_ hm_) hFx34_ rfl rfl rfl rfl
                have hw6_ : u_w b_ n_ T_ (z_ua b_ n_ A_ N_ M_ c_ p_) Sx32_ := ⟨(13, p5_), by rw [hU5_]; simp only [pb_ir]; rw [if_pos ⟨i6_, by rw [hs6_, Int.toNat_natCast]; omega⟩]; rfl, by rcases px35_ with z_ | z_; (exact absurd hz4_ z_.1); (refine ⟨z_.2.1, z_.2.2.trans ?_, by show (13 : Int) ≠ 0; decide⟩; rw [pl133_]; exact le5_.2.2)⟩
                have t6y := rtab_fr t133_ hFx34_ rfl rfl rfl rfl rfl
                refine sm_T_go 0 (c1 := (187, [some (.inr (.inr (some (13, 0)))), some (.inl m_), some (.inl t2_), none, some (.inl mi_), some (.inl many), some (.inl j_), some (.inl mr_), some (.inl (S_.1 13 0 9))], [], Sx32_)) rfl ?_
                refine sm_T_wk [some (.inr (.inr (some (13, 0)))), some (.inl m_), some (.inl t2_), none, some (.inl mi_), some (.inl many), some (.inl j_), none, none] (by exact ⟨rfl, rfl, rfl, rfl, rfl, rfl, trivial⟩) ?_
                refine ih_.2.2.1 t2_ mi_ many j_ Sx32_ hIx33_ hFx36_ ⟨?_, ?_, ?_, ?_, ?_, ?_, trivial⟩ ?_
                · first | exact re184_ | exact re133_
                · first | exact rs184_ | exact rs133_
                · exact mi114_
                · omega
                · first | (left; exact hw6_) | (right; exact hn6_)
                · omega
                · first | (have z_ := rm3_x t6x g6_; omega) | (obtain ⟨e7_, y1_, y2_⟩ := hw6_; have z_ := rm3_w y2_; omega)
    · rintro t2_ mi_ many j_ S_ hI_ hF_ ⟨re187_, rs187_, mi187_, tb187_, h1_, jb_, -⟩ hm_
      have le0_ := rg_le ht_ hx_
      have hn1_ := ht_.1
      have hAM_ := (hA_.2 M_ (Nat.le_refl M_)).1
      have tt_ := rtab_fr ht_ hF_ rfl rfl rfl rfl rfl
      have mo9_ := (hF_.1 13 0 27 rfl).trans hmo_
      have md9_ := (hF_.1 13 0 28 rfl).trans hmd_
      refine sm_T_inc (a := 6) (z := 1) (v := j_) (w := j_ + 1) rfl rfl (by omega) (by omega) (by omega) ?_
      refine sm_T_go 1 (c1 := (191, [some (.inr (.inr (some (13, 0)))), some (.inl m_), some (.inl t2_), none, some (.inl mi_), some (.inl many), some (.inl (j_ + 1)), none, none], [.inr (.inr (some (13, 0)))], S_)) rfl ?_
      refine sm_T_cal (d1 := 0) (Q1 := vq_292  S_) rfl rfl (by decide) (vc_292  S_ hI_ ) (fun u_ Sx1_ px4_ => ?_)
      obtain ⟨rfl, vx6_, rfl, px4_⟩ := px4_
      have e191_ := px4_
      refine sm_T_b0 (a := 0) (z := 16) rfl (fun cx7_ => ?_) (fun cx7_ => ?_)
      · have cx7_ : vx6_ = 0 := of_decide_eq_true cx7_
        have hz_ := wr_if e191_ (by omega)
        have hw_ : u_w b_ n_ T_ (z_ua b_ n_ A_ N_ M_ c_ p_) S_ := by rcases h1_ with z_ | ⟨a_, f_, x_, z2_, z3_, z4_⟩; exact z_; (exact absurd z3_.1 hz_)
        refine sm_T_go 7 (c1 := (114, [some (.inr (.inr (some (13, 0)))), some (.inl m_), some (.inl t2_), none, some (.inl mi_), some (.inl many), some (.inl (j_ + 1)), some (.inl 0), none], [], S_)) rfl ?_
        refine ih_.2.1 t2_ mi_ many (j_ + 1) 0 S_ hI_ hF_ ⟨?_, ?_, ?_, ?_, ?_, ?_, trivial⟩ ?_
        · first | exact re238_ | exact re187_
        · first | exact rs238_ | exact rs187_
        · exact mi187_
        · omega
        · rw [show (j_ + 1).toNat = j_.toNat + 1 by omega]
          first | (left; exact hw_) | (right; right; exact ⟨rfl, he_⟩) | (left; exact ⟨_, hU6_, g238_⟩) | (cases hq_ : p_ad b_ n_ x6_.1 with | inl e_ => (left; rw [pb_ir, hq_] at g238_; exact ⟨e_, by rw [hU6_, hq_]; rfl, g238_⟩) | inr q_ => (right; left; rw [pb_ir, hq_] at g238_; have k7_ := p_ad_ok le6_.1 (by omega) hq_; have k8_ := k7_.2.1; rw [hq_] at hU6_; exact ⟨rfl, a5_, f6_, _, q_, ha5_, g238_, by rw [← mN_]; exact hU6_, by omega, by omega, by omega⟩))
        · first | (left; rfl) | (right; rfl)
        · first | (obtain ⟨e7_, y1_, y2_⟩ := hw_; have z_ := rm3_w y2_; have z2_ : r_m2 0 S_ = 10 := rm2_w (Or.inr rfl); omega) | (have z2_ : r_m2 0 S_ = 10 := rm2_w (Or.inr rfl); omega) | (have z2_ := rm2_w (mr_ := 1) (Or.inl (show _ ≠ 0 by rw [g238_.1]; exact g238_.2.2)); omega) | (cases hq_ : p_ad b_ n_ x6_.1 with | inl e_ => (rw [pb_ir, hq_] at g238_; have z2_ := rm2_w (mr_ := 1) (Or.inl (show _ ≠ 0 by rw [g238_.1]; exact g238_.2.2)); omega) | inr q_ => (rw [pb_ir, hq_] at g238_; have k7_ := p_ad_ok le6_.1 (by omega) hq_; have k8_ := k7_.2.1; have z2_ := rm2_x (k_ := 1) t238_ g238_ (by decide); omega))
      · have cx7_ : ¬ (vx6_ = 0) := of_decide_eq_false cx7_
        have hz_ := rt_if e191_ (by omega)
        obtain ⟨a5_, f6_, x6_, ha5_, g6_, hU5_, hf6_, hl6_, hj6_⟩ : u_n b_ n_ T_ A_ N_ M_ p_ (z_ua b_ n_ A_ N_ M_ c_ p_) j_.toNat S_ := by rcases h1_ with ⟨e_, z1_, z2_⟩ | z_; (exact absurd (z2_.1.symm.trans hz_) z2_.2.2); exact z_
        obtain ⟨mi5_, mib_, mny_, rt5_⟩ := mi187_ a5_ ha5_
        have mN_ : mi_.toNat = (p_fm b_ n_ N_ M_ a5_.1.2).toNat := by omega
        rw [← mN_] at hU5_
        have le6_ := rg_le tt_ g6_
        have nn6_ := p_nth_n hA_ (show mi_.toNat ≤ M_ by omega) (j_.toNat + 1)
        have nt6_ := nth_t hA_ (show mi_.toNat ≤ M_ by omega) j_.toNat
        have rms_ := rm3_x tt_ g6_
        have la_ := a1_len (A_ := A_) (m_ := mi_.toNat) (s_ := A_.1 M_) (i_ := p_nth A_ mi_.toNat j_.toNat) (l_ := x6_.2.2)
        have pt5_ := rtk_pl tt_ rt5_
        refine sm_T_go 2 (c1 := (200, [some (.inr (.inr (some (13, 0)))), some (.inl m_), some (.inl t2_), none, some (.inl mi_), some (.inl many), some (.inl (j_ + 1)), none, none], [.inl 44, .inr (.inr (some (13, 0)))], S_)) rfl ?_
        refine sm_T_cal (d1 := 0) (Q1 := vq_295 44 b_ n_ T_ (.inr x6_.1) S_) rfl rfl (by decide) (vc_295 44 b_ n_ T_ (.inr x6_.1) S_ hI_ (by exact tt_) (by exact g6_) (by decide)) (fun u_ Sx8_ px11_ => ?_)
        obtain ⟨rfl, vx13_, rfl, px11_⟩ := px11_
        have e200_ := px11_.2 x6_.1 rfl
        have r200_ := px11_.1.1
        refine sm_T_b0 (a := 0) (z := 7) rfl (fun cx14_ => ?_) (fun cx14_ => ?_)
        · have cx14_ : vx13_ = 0 := of_decide_eq_true cx14_
          have n44_ : lx_kd b_ n_ x6_.1 ≠ 44 := fun z_ => by have := e200_.mpr z_; omega
          have he_ : u_e b_ n_ T_ A_ N_ M_ p_ (z_ua b_ n_ A_ N_ M_ c_ p_) (decide (j_ + 1 ≠ many)) S_ := ⟨a5_, _, x6_.1, ha5_, g6_, by rw [hU5_]; unfold p_an; rw [if_neg n44_, show decide (p_nth A_ mi_.toNat j_.toNat = -1 ∨ p_a2 A_ mi_.toNat (p_nth A_ mi_.toNat j_.toNat) ≠ -1) = decide (j_ + 1 ≠ many) from decide_eq_decide.mpr (nt6_.trans (by omega))]⟩
          refine sm_T_go 7 (c1 := (114, [some (.inr (.inr (some (13, 0)))), some (.inl m_), some (.inl t2_), none, some (.inl mi_), some (.inl many), some (.inl (j_ + 1)), some (.inl 0), none], [], S_)) rfl ?_
          refine ih_.2.1 t2_ mi_ many (j_ + 1) 0 S_ hI_ hF_ ⟨?_, ?_, ?_, ?_, ?_, ?_, trivial⟩ ?_
          · first | exact re238_ | exact re187_
          · first | exact rs238_ | exact rs187_
          · exact mi187_
          · omega
          · rw [show (j_ + 1).toNat = j_.toNat + 1 by omega]
            first | (left; exact hw_) | (right; right; exact ⟨rfl, he_⟩) | (left; exact ⟨_, hU6_, g238_⟩) | (cases hq_ : p_ad b_ n_ x6_.1 with | inl e_ => (left; rw [pb_ir, hq_] at g238_; exact ⟨e_, by rw [hU6_, hq_]; rfl, g238_⟩) | inr q_ => (right; left; rw [pb_ir, hq_] at g238_; have k7_ := p_ad_ok le6_.1 (by omega) hq_; have k8_ := k7_.2.1; rw [hq_] at hU6_; exact ⟨rfl, a5_, f6_, _, q_, ha5_, g238_, by rw [← mN_]; exact hU6_, by omega, by omega, by omega⟩))
          · first | (left; rfl) | (right; rfl)
          · first | (obtain ⟨e7_, y1_, y2_⟩ := hw_; have z_ := rm3_w y2_; have z2_ : r_m2 0 S_ = 10 := rm2_w (Or.inr rfl); omega) | (have z2_ : r_m2 0 S_ = 10 := rm2_w (Or.inr rfl); omega) | (have z2_ := rm2_w (mr_ := 1) (Or.inl (show _ ≠ 0 by rw [g238_.1]; exact g238_.2.2)); omega) | (cases hq_ : p_ad b_ n_ x6_.1 with | inl e_ => (rw [pb_ir, hq_] at g238_; have z2_ := rm2_w (mr_ := 1) (Or.inl (show _ ≠ 0 by rw [g238_.1]; exact g238_.2.2)); omega) | inr q_ => (rw [pb_ir, hq_] at g238_; have k7_ := p_ad_ok le6_.1 (by omega) hq_; have k8_ := k7_.2.1; have z2_ := rm2_x (k_ := 1) t238_ g238_ (by decide); omega))
        · have cx14_ : ¬ (vx13_ = 0) := of_decide_eq_false cx14_
          have k44_ : lx_kd b_ n_ x6_.1 = 44 := e200_.mp (by omega)
          have hU6_ : (z_ua b_ n_ A_ N_ M_ c_ p_) = (pb (if p_a2 A_ mi_.toNat (p_nth A_ mi_.toNat j_.toNat) = -1 then .inl (14, a5_.1.1) else pb (p_ad b_ n_ x6_.1) fun q_ => p_ar b_ n_ A_ M_ mi_.toNat (A_.1 M_) a5_.1.1 f6_ (p_a2 A_ mi_.toNat (p_nth A_ mi_.toNat j_.toNat)) (p_a1 A_ mi_.toNat (A_.1 M_) (p_nth A_ mi_.toNat j_.toNat) x6_.2.2) q_) fun x_ => .inr (a5_.1, x_)) := by rw [hU5_]; unfold p_an; rw [if_pos k44_]
          refine sm_T_go 7 (c1 := (222, [some (.inr (.inr (some (13, 0)))), some (.inl m_), some (.inl t2_), none, some (.inl mi_), some (.inl many), some (.inl (j_ + 1)), some (.inl 1), none], [.inl many, .inl (j_ + 1)], S_)) rfl ?_
          refine sm_T_br (a := 2) (z := 10) rfl (fun cx15_ => ?_) (fun cx15_ => ?_)
          · have cx15_ : j_ + 1 < many := of_decide_eq_true cx15_
            have i7_ : p_a2 A_ mi_.toNat (p_nth A_ mi_.toNat j_.toNat) ≠ -1 := fun z_ => by have z2_ := nn6_.mp z_; omega
            rw [if_neg i7_] at hU6_
            obtain ⟨x7_, hx7_, hx7b⟩ : ∃ x7_ : pE Nat, rg b_ n_ T_ x7_ _ ∧ x7_ = .inr x6_.1 := ⟨_, g6_, rfl⟩
            have t7_ := tt_
            have re7_ := re187_
            have rs7_ := rs187_
            refine sm_T_go 3 (c1 := (238, [some (.inr (.inr (some (13, 0)))), some (.inl m_), some (.inl t2_), none, some (.inl mi_), some (.inl many), some (.inl (j_ + 1)), some (.inl 1), none], [.inr (.inr (some (13, 0)))], S_)) rfl ?_
            refine sm_T_cal (d1 := 2) (Q1 := vq_297 b_ n_ T_ x7_ S_) rfl rfl (by decide) (vc_297 b_ n_ T_ x7_ S_ hI_ (by exact t7_) (by exact hx7_) (by (intro z_ e_; rw [hx7b] at e_; first | (cases e_; done) | (cases e_; rw [k44_]; decide)))) (fun u_ Sx16_ px19_ => ?_)
            obtain ⟨rfl, hIx17_, hFx18_, px19_⟩ := px19_
            have hFx20_ : ai_fr (sx_W vw_338) S0_ Sx16_ := ai_fr_tr hF_ (fr_le hFx18_ rfl)
            have re238_ : ∀ m_, m_ ≤ M_ → re1 b_ n_ T_ A_ m_ Sx16_ := fun m_ hm_ => re1_fr (re7_ m_ hm_) hFx18_ rfl rfl rfl rfl rfl rfl
            have rs238_ : ∀ m_, m_ ≤ M_ → rs1 A_ m_ Sx16_ := fun m_ hm_ => rs1_fr (rs7_ m_ hm_) hFx18_ rfl rfl rfl rfl
            have t238_ := rtab_fr t7_ hFx18_ rfl rfl rfl rfl rfl
            have g238_ := px19_.1
            rw [hx7b] at g238_
            refine sm_T_go 1 (c1 := (114, [some (.inr (.inr (some (13, 0)))), some (.inl m_), some (.inl t2_), none, some (.inl mi_), some (.inl many), some (.inl (j_ + 1)), some (.inl 1), none], [], Sx16_)) rfl ?_
            refine ih_.2.1 t2_ mi_ many (j_ + 1) 1 Sx16_ hIx17_ hFx20_ ⟨?_, ?_, ?_, ?_, ?_, ?_, trivial⟩ ?_
            · first | exact re238_ | exact re187_
            · first | exact rs238_ | exact rs187_
            · exact mi187_
            · omega
            · rw [show (j_ + 1).toNat = j_.toNat + 1 by omega]
              first | (left; exact hw_) | (right; right; exact ⟨rfl, he_⟩) | (left; exact ⟨_, hU6_, g238_⟩) | (cases hq_ : p_ad b_ n_ x6_.1 with | inl e_ => (left; rw [pb_ir, hq_] at g238_; exact ⟨e_, by rw [hU6_, hq_]; rfl, g238_⟩) | inr q_ => (right; left; rw [pb_ir, hq_] at g238_; have k7_ := p_ad_ok le6_.1 (by omega) hq_; have k8_ := k7_.2.1; rw [hq_] at hU6_; exact ⟨rfl, a5_, f6_, _, q_, ha5_, g238_, by rw [← mN_]; exact hU6_, by omega, by omega, by omega⟩))
            · first | (left; rfl) | (right; rfl)
            · first | (obtain ⟨e7_, y1_, y2_⟩ := hw_; have z_ := rm3_w y2_; have z2_ : r_m2 0 S_ = 10 := rm2_w (Or.inr rfl); omega) | (have z2_ : r_m2 0 S_ = 10 := rm2_w (Or.inr rfl); omega) | (have z2_ := rm2_w (mr_ := 1) (Or.inl (show _ ≠ 0 by rw [g238_.1]; exact g238_.2.2)); omega) | (cases hq_ : p_ad b_ n_ x6_.1 with | inl e_ => (rw [pb_ir, hq_] at g238_; have z2_ := rm2_w (mr_ := 1) (Or.inl (show _ ≠ 0 by rw [g238_.1]; exact g238_.2.2)); omega) | inr q_ => (rw [pb_ir, hq_] at g238_; have k7_ := p_ad_ok le6_.1 (by omega) hq_; have k8_ := k7_.2.1; have z2_ := rm2_x (k_ := 1) t238_ g238_ (by decide); omega))
          · have cx15_ : ¬ (j_ + 1 < many) := of_decide_eq_false cx15_
            have i7_ : p_a2 A_ mi_.toNat (p_nth A_ mi_.toNat j_.toNat) = -1 := nn6_.mpr (by omega)
            rw [if_pos i7_] at hU6_
            refine sm_T_go 3 (c1 := (229, [some (.inr (.inr (some (13, 0)))), some (.inl m_), some (.inl t2_), none, some (.inl mi_), some (.inl many), some (.inl (j_ + 1)), some (.inl 1), none], [.inl t2_, .inl 14, .inr (.inr (some (13, 0)))], S_)) rfl ?_
            refine sm_T_cal (d1 := 0) (Q1 := vq_294 14 t2_ S_) rfl rfl (by decide) (vc_294 14 t2_ S_ hI_ (by decide) (by omega)) (fun u_ Sx21_ px24_ => ?_)
            obtain ⟨rfl, hIx22_, hFx23_, px24_⟩ := px24_
            have hFx25_ : ai_fr (sx_W vw_338) S0_ Sx21_ := ai_fr_tr hF_ (fr_le hFx23_ rfl)
            have re7_ : ∀ m_, m_ ≤ M_ → re1 b_ n_ T_ A_ m_ Sx21_ := fun m_ hm_ => re1_fr (re187_ m_ hm_) hFx23_ rfl rfl rfl rfl rfl rfl
            have rs7_ : ∀ m_, m_ ≤ M_ → rs1 A_ m_ Sx21_ := fun m_ hm_ => rs1_fr (rs187_ m_ hm_) hFx23_ rfl rfl rfl rfl
            have g229_ : rg b_ n_ T_ (.inl (14, a5_.1.1)) Sx21_ := by rcases px24_ with z_ | z_; (exact absurd hz_ z_.1); (exact ⟨z_.2.1, z_.2.2.trans pt5_.2, by show (14 : Int) ≠ 0; decide⟩)
            obtain ⟨x7_, hx7_, hx7b⟩ : ∃ x7_ : pE Nat, rg b_ n_ T_ x7_ Sx21_ ∧ x7_ = .inl (14, a5_.1.1) := ⟨_, g229_, rfl⟩
            have t7_ := rtab_fr tt_ hFx23_ rfl rfl rfl rfl rfl
            refine sm_T_go 3 (c1 := (238, [some (.inr (.inr (some (13, 0)))), some (.inl m_), some (.inl t2_), none, some (.inl mi_), some (.inl many), some (.inl (j_ + 1)), some (.inl 1), none], [.inr (.inr (some (13, 0)))], Sx21_)) rfl ?_
            refine sm_T_cal (d1 := 2) (Q1 := vq_297 b_ n_ T_ x7_ Sx21_) rfl rfl (by decide) (vc_297 b_ n_ T_ x7_ Sx21_ hIx22_ (by exact t7_) (by exact hx7_) (by (intro z_ e_; rw [hx7b] at e_; first | (cases e_; done) | (cases e_; rw [k44_]; decide)))) (fun u_ Sx26_ px29_ => ?_)
            obtain ⟨rfl, hIx27_, hFx28_, px29_⟩ := px29_
            have hFx30_ : ai_fr (sx_W vw_338) S0_ Sx26_ := ai_fr_tr hFx25_ (fr_le hFx28_ rfl)
            have re238_ : ∀ m_, m_ ≤ M_ → re1 b_ n_ T_ A_ m_ Sx26_ := fun m_ hm_ => re1_fr (re7_ m_ hm_) hFx28_ rfl rfl rfl rfl rfl rfl
            have rs238_ : ∀ m_, m_ ≤ M_ → rs1 A_ m_ Sx26_ := fun m_ hm_ => rs1_fr (rs7_ m_ hm_) hFx28_ rfl rfl rfl rfl
            have t238_ := rtab_fr t7_ hFx28_ rfl rfl rfl rfl rfl
            have g238_ := px29_.1
            rw [hx7b] at g238_
            refine sm_T_go 1 (c1 := (114, [some (.inr (.inr (some (13, 0)))), some (.inl m_), some (.inl t2_), none, some (.inl mi_), some (.inl many), some (.inl (j_ + 1)), some (.inl 1), none], [], Sx26_)) rfl ?_
            refine ih_.2.1 t2_ mi_ many (j_ + 1) 1 Sx26_ hIx27_ hFx30_ ⟨?_, ?_, ?_, ?_, ?_, ?_, trivial⟩ ?_
            · first | exact re238_ | exact re187_
            · first | exact rs238_ | exact rs187_
            · exact mi187_
            · omega
            · rw [show (j_ + 1).toNat = j_.toNat + 1 by omega]
              first | (left; exact hw_) | (right; right; exact ⟨rfl, he_⟩) | (left; exact ⟨_, hU6_, g238_⟩) | (cases hq_ : p_ad b_ n_ x6_.1 with | inl e_ => (left; rw [pb_ir, hq_] at g238_; exact ⟨e_, by rw [hU6_, hq_]; rfl, g238_⟩) | inr q_ => (right; left; rw [pb_ir, hq_] at g238_; have k7_ := p_ad_ok le6_.1 (by omega) hq_; have k8_ := k7_.2.1; rw [hq_] at hU6_; exact ⟨rfl, a5_, f6_, _, q_, ha5_, g238_, by rw [← mN_]; exact hU6_, by omega, by omega, by omega⟩))
            · first | (left; rfl) | (right; rfl)
            · first | (obtain ⟨e7_, y1_, y2_⟩ := hw_; have z_ := rm3_w y2_; have z2_ : r_m2 0 S_ = 10 := rm2_w (Or.inr rfl); omega) | (have z2_ : r_m2 0 S_ = 10 := rm2_w (Or.inr rfl); omega) | (have z2_ := rm2_w (mr_ := 1) (Or.inl (show _ ≠ 0 by rw [g238_.1]; exact g238_.2.2)); omega) | (cases hq_ : p_ad b_ n_ x6_.1 with | inl e_ => (rw [pb_ir, hq_] at g238_; have z2_ := rm2_w (mr_ := 1) (Or.inl (show _ ≠ 0 by rw [g238_.1]; exact g238_.2.2)); omega) | inr q_ => (rw [pb_ir, hq_] at g238_; have k7_ := p_ad_ok le6_.1 (by omega) hq_; have k8_ := k7_.2.1; have z2_ := rm2_x (k_ := 1) t238_ g238_ (by decide); omega))
    · rintro t2_ mi_ many j_ S_ hI_ hF_ ⟨re244_, rs244_, mi244_, tb244_, h1_, -⟩ hm_
      have le0_ := rg_le ht_ hx_
      have hn1_ := ht_.1
      have hAM_ := (hA_.2 M_ (Nat.le_refl M_)).1
      have tt_ := rtab_fr ht_ hF_ rfl rfl rfl rfl rfl
      have mo9_ := (hF_.1 13 0 27 rfl).trans hmo_
      have md9_ := (hF_.1 13 0 28 rfl).trans hmd_
      refine sm_T_go 1 (c1 := (245, [some (.inr (.inr (some (13, 0)))), some (.inl m_), some (.inl t2_), none, some (.inl mi_), some (.inl many), some (.inl j_), none, none], [.inr (.inr (some (13, 0)))], S_)) rfl ?_
      refine sm_T_cal (d1 := 0) (Q1 := vq_292  S_) rfl rfl (by decide) (vc_292  S_ hI_ ) (fun u_ Sx1_ px4_ => ?_)
      obtain ⟨rfl, vx6_, rfl, px4_⟩ := px4_
      have e245_ := px4_
      refine sm_T_b0 (a := 0) (z := 26) rfl (fun cx7_ => ?_) (fun cx7_ => ?_)
      · have cx7_ : vx6_ = 0 := of_decide_eq_true cx7_
        have hz_ := wr_if e245_ (by omega)
        obtain ⟨e6_, he6_, ge6_⟩ : u_w b_ n_ T_ (z_ua b_ n_ A_ N_ M_ c_ p_) S_ := by rcases h1_ with z_ | ⟨a_, c1_, p1_, z2_, z3_, z4_⟩; exact z_; (exact absurd z3_.1 hz_)
        refine sm_T_go 0 (c1 := (274, [some (.inr (.inr (some (13, 0)))), some (.inl m_), some (.inl t2_), none, some (.inl mi_), some (.inl many), some (.inl j_), none, none], [], S_)) rfl ?_
        refine sm_T_wk [some (.inr (.inr (some (13, 0)))), some (.inl m_), some (.inl t2_), none, some (.inl mi_), none, none, none, none] (by exact ⟨rfl, rfl, rfl, rfl, trivial⟩) ?_
        refine ih_.2.2.2.2 t2_ mi_ S_ hI_ hF_ ⟨?_, ?_, ?_, ?_, ?_, trivial⟩ ?_
        · first | exact re271_ | exact re244_
        · first | exact rs271_ | exact rs244_
        · exact fun a_ ha_ => ⟨(mi244_ a_ ha_).1, (mi244_ a_ ha_).2.1, (mi244_ a_ ha_).2.2.2⟩
        · omega
        · first | (exact ⟨.inl e6_, ge6_, by rw [he6_]; rfl⟩) | (exact ⟨.inl _, g271_, by rw [hU7_]; rfl⟩) | (exact ⟨.inr p5_, g5_, by rw [hU6_]; simp only [pb_as, pb_ir]; exact pb_id⟩)
        · omega
      · have cx7_ : ¬ (vx6_ = 0) := of_decide_eq_false cx7_
        have hz_ := rt_if e245_ (by omega)
        obtain ⟨a5_, c5_, p5_, ha5_, g5_, hU5_⟩ : u_e b_ n_ T_ A_ N_ M_ p_ (z_ua b_ n_ A_ N_ M_ c_ p_) (decide (j_ ≠ many)) S_ := by rcases h1_ with ⟨e_, z1_, z2_⟩ | z_; (exact absurd (z2_.1.symm.trans hz_) z2_.2.2); exact z_
        obtain ⟨mi5_, mib_, mny_, rt5_⟩ := mi244_ a5_ ha5_
        have pt5_ := rtk_pl tt_ rt5_
        refine sm_T_go 2 (c1 := (254, [some (.inr (.inr (some (13, 0)))), some (.inl m_), some (.inl t2_), none, some (.inl mi_), some (.inl many), some (.inl j_), none, none], [.inl 41, .inr (.inr (some (13, 0)))], S_)) rfl ?_
        refine sm_T_cal (d1 := 0) (Q1 := vq_295 41 b_ n_ T_ (.inr p5_) S_) rfl rfl (by decide) (vc_295 41 b_ n_ T_ (.inr p5_) S_ hI_ (by exact tt_) (by exact g5_) (by decide)) (fun u_ Sx8_ px11_ => ?_)
        obtain ⟨rfl, vx13_, rfl, px11_⟩ := px11_
        have e254_ := px11_.2 p5_ rfl
        have r254_ := px11_.1.1
        refine sm_T_b0 (a := 0) (z := 17) rfl (fun cx14_ => ?_) (fun cx14_ => ?_)
        · have cx14_ : vx13_ = 0 := of_decide_eq_true cx14_
          have n41_ : lx_kd b_ n_ p5_ ≠ 41 := fun z_ => by have := e254_.mpr z_; omega
          have hU6_ : (z_ua b_ n_ A_ N_ M_ c_ p_) = (pb (pb (p_nd b_ n_ 41 p5_) fun q_ => .inr (c5_, q_)) fun x_ => .inr (a5_.1, x_)) := by rw [hU5_]; unfold p_ae; rw [if_neg (fun z_ => n41_ z_.1)]
          refine sm_T_go 0 (c1 := (274, [some (.inr (.inr (some (13, 0)))), some (.inl m_), some (.inl t2_), none, some (.inl mi_), some (.inl many), some (.inl j_), none, none], [], S_)) rfl ?_
          refine sm_T_wk [some (.inr (.inr (some (13, 0)))), some (.inl m_), some (.inl t2_), none, some (.inl mi_), none, none, none, none] (by exact ⟨rfl, rfl, rfl, rfl, trivial⟩) ?_
          refine ih_.2.2.2.2 t2_ mi_ S_ hI_ hF_ ⟨?_, ?_, ?_, ?_, ?_, trivial⟩ ?_
          · first | exact re271_ | exact re244_
          · first | exact rs271_ | exact rs244_
          · exact fun a_ ha_ => ⟨(mi244_ a_ ha_).1, (mi244_ a_ ha_).2.1, (mi244_ a_ ha_).2.2.2⟩
          · omega
          · first | (exact ⟨.inl e6_, ge6_, by rw [he6_]; rfl⟩) | (exact ⟨.inl _, g271_, by rw [hU7_]; rfl⟩) | (exact ⟨.inr p5_, g5_, by rw [hU6_]; simp only [pb_as, pb_ir]; exact pb_id⟩)
          · omega
        · have cx14_ : ¬ (vx13_ = 0) := of_decide_eq_false cx14_
          have k41_ : lx_kd b_ n_ p5_ = 41 := e254_.mp (by omega)
          refine sm_T_go 2 (c1 := (264, [some (.inr (.inr (some (13, 0)))), some (.inl m_), some (.inl t2_), none, some (.inl mi_), some (.inl many), some (.inl j_), none, none], [.inl many, .inl j_], S_)) rfl ?_
          refine sm_T_br (a := 0) (z := 10) rfl (fun cx15_ => ?_) (fun cx15_ => ?_)
          · have cx15_ : j_ = many := of_decide_eq_true cx15_
            have hU6_ : (z_ua b_ n_ A_ N_ M_ c_ p_) = (pb (pb (p_nd b_ n_ 41 p5_) fun q_ => .inr (c5_, q_)) fun x_ => .inr (a5_.1, x_)) := by rw [hU5_]; unfold p_ae; rw [if_neg (fun z_ => absurd (of_decide_eq_true z_.2) (by omega))]
            refine sm_T_go 0 (c1 := (274, [some (.inr (.inr (some (13, 0)))), some (.inl m_), some (.inl t2_), none, some (.inl mi_), some (.inl many), some (.inl j_), none, none], [], S_)) rfl ?_
            refine sm_T_wk [some (.inr (.inr (some (13, 0)))), some (.inl m_), some (.inl t2_), none, some (.inl mi_), none, none, none, none] (by exact ⟨rfl, rfl, rfl, rfl, trivial⟩) ?_
            refine ih_.2.2.2.2 t2_ mi_ S_ hI_ hF_ ⟨?_, ?_, ?_, ?_, ?_, trivial⟩ ?_
            · first | exact re271_ | exact re244_
            · first | exact rs271_ | exact rs244_
            · exact fun a_ ha_ => ⟨(mi244_ a_ ha_).1, (mi244_ a_ ha_).2.1, (mi244_ a_ ha_).2.2.2⟩
            · omega
            · first | (exact ⟨.inl e6_, ge6_, by rw [he6_]; rfl⟩) | (exact ⟨.inl _, g271_, by rw [hU7_]; rfl⟩) | (exact ⟨.inr p5_, g5_, by rw [hU6_]; simp only [pb_as, pb_ir]; exact pb_id⟩)
            · omega
          · have cx15_ : ¬ (j_ = many) := of_decide_eq_false cx15_
            refine sm_T_go 3 (c1 := (271, [some (.inr (.inr (some (13, 0)))), some (.inl m_), some (.inl t2_), none, some (.inl mi_), some (.inl many), some (.inl j_), none, none], [.inl t2_, .inl 14, .inr (.inr (some (13, 0)))], S_)) rfl ?_
            refine sm_T_cal (d1 := 0) (Q1 := vq_294 14 t2_ S_) rfl rfl (by decide) (vc_294 14 t2_ S_ hI_ (by decide) (by omega)) (fun u_ Sx16_ px19_ => ?_)
            obtain ⟨rfl, hIx17_, hFx18_, px19_⟩ := px19_
            have hFx20_ : ai_fr (sx_W vw_338) S0_ Sx16_ := ai_fr_tr hF_ (fr_le hFx18_ rfl)
            have re271_ : ∀ m_, m_ ≤ M_ → re1 b_ n_ T_ A_ m_ Sx16_ := fun m_ hm_ => re1_fr (re244_ m_ hm_) hFx18_ rfl rfl rfl rfl rfl rfl
            have rs271_ : ∀ m_, m_ ≤ M_ → rs1 A_ m_ Sx16_ := fun m_ hm_ => rs1_fr (rs244_ m_ hm_) hFx18_ rfl rfl rfl rfl
            have hU7_ : (z_ua b_ n_ A_ N_ M_ c_ p_) = .inl (14, a5_.1.1) := by rw [hU5_]; unfold p_ae; rw [if_pos ⟨k41_, decide_eq_true (by omega)⟩]; rfl
            have g271_ : rg b_ n_ T_ (.inl (14, a5_.1.1)) Sx16_ := by rcases px19_ with z_ | z_; (exact absurd hz_ z_.1); (exact ⟨z_.2.1, z_.2.2.trans pt5_.2, by show (14 : Int) ≠ 0; decide⟩)
            refine sm_T_go 0 (c1 := (274, [some (.inr (.inr (some (13, 0)))), some (.inl m_), some (.inl t2_), none, some (.inl mi_), some (.inl many), some (.inl j_), none, none], [], Sx16_)) rfl ?_
            refine sm_T_wk [some (.inr (.inr (some (13, 0)))), some (.inl m_), some (.inl t2_), none, some (.inl mi_), none, none, none, none] (by exact ⟨rfl, rfl, rfl, rfl, trivial⟩) ?_
            refine ih_.2.2.2.2 t2_ mi_ Sx16_ hIx17_ hFx20_ ⟨?_, ?_, ?_, ?_, ?_, trivial⟩ ?_
            · first | exact re271_ | exact re244_
            · first | exact rs271_ | exact rs244_
            · exact fun a_ ha_ => ⟨(mi244_ a_ ha_).1, (mi244_ a_ ha_).2.1, (mi244_ a_ ha_).2.2.2⟩
            · omega
            · first | (exact ⟨.inl e6_, ge6_, by rw [he6_]; rfl⟩) | (exact ⟨.inl _, g271_, by rw [hU7_]; rfl⟩) | (exact ⟨.inr p5_, g5_, by rw [hU6_]; simp only [pb_as, pb_ir]; exact pb_id⟩)
            · omega
    · rintro t2_ mi_ S_ hI_ hF_ ⟨re274_, rs274_, mi274_, tb274_, h1_, -⟩ hm_
      have le0_ := rg_le ht_ hx_
      have hn1_ := ht_.1
      have hAM_ := (hA_.2 M_ (Nat.le_refl M_)).1
      have tt_ := rtab_fr ht_ hF_ rfl rfl rfl rfl rfl
      have mo9_ := (hF_.1 13 0 27 rfl).trans hmo_
      have md9_ := (hF_.1 13 0 28 rfl).trans hmd_
      obtain ⟨x9_, hx9_, hz9_⟩ := h1_
      refine sm_T_go 2 (c1 := (277, [some (.inr (.inr (some (13, 0)))), some (.inl m_), some (.inl t2_), none, some (.inl mi_), none, none, none, none], [.inl 41, .inr (.inr (some (13, 0)))], S_)) rfl ?_
      refine sm_T_cal (d1 := 3) (Q1 := vq_300 41 b_ n_ T_ x9_ S_) rfl rfl (by decide) (vc_300 41 b_ n_ T_ x9_ S_ hI_ (by exact tt_) (by exact hx9_) (by decide)) (fun u_ Sx1_ px4_ => ?_)
      obtain ⟨rfl, hIx2_, hFx3_, px4_⟩ := px4_
      have hFx5_ : ai_fr (sx_W vw_338) S0_ Sx1_ := ai_fr_tr hF_ (fr_le hFx3_ rfl)
      have re277_ : ∀ m_, m_ ≤ M_ → re1 b_ n_ T_ A_ m_ Sx1_ := fun m_ hm_ => re1_fr (re274_ m_ hm_) hFx3_ rfl rfl rfl rfl rfl rfl
      have rs277_ : ∀ m_, m_ ≤ M_ → rs1 A_ m_ Sx1_ := fun m_ hm_ => rs1_fr (rs274_ m_ hm_) hFx3_ rfl rfl rfl rfl
      have t277_ := rtab_fr tt_ hFx3_ rfl rfl rfl rfl rfl
      have g277_ : rg b_ n_ T_ (pb (z_ua b_ n_ A_ N_ M_ c_ p_) fun a_ => .inr a_.2.2) Sx1_ := by rw [hz9_]; exact px4_
      refine sm_T_go 2 (c1 := (283, [some (.inr (.inr (some (13, 0)))), some (.inl m_), some (.inl t2_), none, some (.inl mi_), none, none, none, none], [.inl 59, .inr (.inr (some (13, 0)))], Sx1_)) rfl ?_
      refine sm_T_cal (d1 := 3) (Q1 := vq_300 59 b_ n_ T_ (pb (z_ua b_ n_ A_ N_ M_ c_ p_) fun a_ => .inr a_.2.2) Sx1_) rfl rfl (by decide) (vc_300 59 b_ n_ T_ (pb (z_ua b_ n_ A_ N_ M_ c_ p_) fun a_ => .inr a_.2.2) Sx1_ hIx2_ (by exact t277_) (by exact g277_) (by decide)) (fun u_ Sx6_ px9_ => ?_)
      obtain ⟨rfl, hIx7_, hFx8_, px9_⟩ := px9_
      have hFx10_ : ai_fr (sx_W vw_338) S0_ Sx6_ := ai_fr_tr hFx5_ (fr_le hFx8_ rfl)
      have re283_ : ∀ m_, m_ ≤ M_ → re1 b_ n_ T_ A_ m_ Sx6_ := fun m_ hm_ => re1_fr (re277_ m_ hm_) hFx8_ rfl rfl rfl rfl rfl rfl
      have rs283_ : ∀ m_, m_ ≤ M_ → rs1 A_ m_ Sx6_ := fun m_ hm_ => rs1_fr (rs277_ m_ hm_) hFx8_ rfl rfl rfl rfl
      have g283_ : rg b_ n_ T_ (pb (pb (z_ua b_ n_ A_ N_ M_ c_ p_) (z_us b_ n_)) fun a_ => .inr a_.2) Sx6_ := rg_pb px9_ (fun a_ _ => by unfold z_us; rw [pb_as]; exact pb_id.symm)
      have hIx11_ : gi (sm_pI Sx6_ 13 0 25 t2_) := gi_pI hIx7_ (show 0 ≤ t2_ ∧ t2_ ≤ 1280 from ⟨by omega, by omega⟩)
      have hFx12_ : ai_fr (sx_W vw_338) S0_ (sm_pI Sx6_ 13 0 25 t2_) := ai_fr_tr hFx10_ (ai_fr_pI rfl)
      have hIx13_ : gi (sm_pI (sm_pI Sx6_ 13 0 25 t2_) 13 0 26 0) := gi_pI hIx11_ (show (-2147483648) ≤ 0 ∧ 0 ≤ 2147483647 from ⟨by omega, by omega⟩)
      have hFx14_ : ai_fr (sx_W vw_338) S0_ (sm_pI (sm_pI Sx6_ 13 0 25 t2_) 13 0 26 0) := ai_fr_tr hFx12_ (ai_fr_pI rfl)
      refine sm_T_go 10 (c1 := (301, [some (.inr (.inr (some (13, 0)))), some (.inl m_), some (.inl t2_), none, some (.inl mi_), none, none, none, none], [.inl mi_, .inl 5, .inl m_, .inr (.inr (some (13, 0)))], sm_pI (sm_pI Sx6_ 13 0 25 t2_) 13 0 26 0)) rfl ?_
      refine sm_T_cal (d1 := 1) (Q1 := vq_308 m_ 5 mi_ b_ n_ T_ (pb (pb (z_ua b_ n_ A_ N_ M_ c_ p_) (z_us b_ n_)) fun a_ => .inr a_.2) A_ M_ 5 (sm_pI (sm_pI Sx6_ 13 0 25 t2_) 13 0 26 0)) rfl rfl (by decide) (vc_308 m_ 5 mi_ b_ n_ T_ (pb (pb (z_ua b_ n_ A_ N_ M_ c_ p_) (z_us b_ n_)) fun a_ => .inr a_.2) A_ M_ 5 (sm_pI (sm_pI Sx6_ 13 0 25 t2_) 13 0 26 0) hIx13_ (by exact hIx13_) (by exact rg_fr (w_ := ([(13, 25), (13, 26)], [], [])) g283_ (ai_fr_tr (ai_fr_pI rfl) (ai_fr_pI rfl)) rfl rfl rfl) (by exact hmm_) (by exact ⟨rfl, by decide, by decide, by decide⟩) (by (intro p9_ hp9_; obtain ⟨a_, h1_, h2_⟩ := pb_inr hp9_; obtain ⟨a2_, h3_, h4_⟩ := pb_inr h1_; obtain ⟨a3_, h5_, h6_⟩ := pb_inr h3_; have k1_ := u5_ok le0_.1 hk_ h5_; have k2_ := z_nw_ok le0_.1 hk_ k1_.1; have k3_ := k2_.2.1; obtain ⟨m1_, m2_, m3_⟩ := mi274_ a3_ h5_; exact ⟨hA_, fun m_ hm_ => re1_fr (w_ := ([(13, 25), (13, 26)], [], [])) (re283_ m_ hm_) (ai_fr_tr (ai_fr_pI rfl) (ai_fr_pI rfl)) rfl rfl rfl rfl rfl rfl, fun m_ hm_ => rs1_fr (w_ := ([(13, 25), (13, 26)], [], [])) (rs283_ m_ hm_) (ai_fr_tr (ai_fr_pI rfl) (ai_fr_pI rfl)) rfl rfl rfl rfl, by omega, by show (0 : Int) ≤ 0 ∧ (0 : Int) ≤ 8; decide, by omega, fun _ => m2_.2⟩))) (fun u_ Sx15_ px18_ => ?_)
      obtain ⟨rfl, hIx16_, hFx17_, px18_⟩ := px18_
      have hFx19_ : ai_fr (sx_W vw_338) S0_ Sx15_ := ai_fr_tr hFx14_ (fr_le hFx17_ rfl)
      have e301_ := px18_
      refine sm_T_rv rfl ⟨_, _, rfl, rfl, hIx16_, hFx19_, ?_⟩
      refine ⟨?_, fun r_ hr_ => ?_⟩
      · rw [us_eq, pb_as]; exact e301_.1
      · have k_ := us_ok hn1_ hA_ le0_.1 hk_ hc_ hr_
        rw [us_eq] at hr_
        obtain ⟨a_, h1_, h2_⟩ := pb_inr hr_
        cases h2_
        obtain ⟨a2_, h3_, h4_⟩ := pb_inr h1_
        obtain ⟨a3_, h5_, h6_⟩ := pb_inr h3_
        obtain ⟨m1_, m2_, m3_⟩ := mi274_ a3_ h5_
        obtain ⟨x_, h7_, h8_⟩ := pb_inr h6_
        cases h8_
        unfold z_us at h4_
        obtain ⟨y_, h8_, h9_⟩ := pb_inr h4_
        cases h9_
        have e_ := e301_.2 y_ a3_.1.1 (by rw [h1_]; rfl) m3_
        have e_ : (∀ m_, m_ ≤ M_ → re1 b_ n_ T_ (a_te A_ M_ a3_.1.1 5 0 mi_) m_ _) ∧ (∀ m_, m_ ≤ M_ → rs1 (a_te A_ M_ a3_.1.1 5 0 mi_) m_ _) := e_
        rw [m1_] at e_
        exact ⟨k_.1, e_.1, e_.2, k_.2.1⟩
set_option maxHeartbeats 2000000 in
set_option maxRecDepth 20000 in
theorem vc_338 {sc_ : Nat × (Nat → Int)} (m_ : Int) (b_ : Nat → Int) (n_ : Nat) (T_ : Nat) (A_ : pA) (M_ : Nat) (c_ : List Int) (p_ : Nat) (N_ : Nat → Nat) (S0_ : sm_S) (hI_ : gi S0_) (ht_ : rtab b_ n_ T_ S0_) (hx_ : rg b_ n_ T_ (.inr p_) S0_) (hk_ : lx_kd b_ n_ p_ ≠ 0) (hmo_ : (S0_.1 13 0 27) = 0) (hmm_ : m_ = (M_ : Int) ∧ M_ ≤ 15) (hmd_ : (S0_.1 13 0 28) = (M_ : Int)) (hA_ : a_ok b_ n_ A_ M_) (hre_ : ∀ m_, m_ ≤ M_ → re1 b_ n_ T_ A_ m_ S0_) (hrs_ : ∀ m_, m_ ≤ M_ → rs1 A_ m_ S0_) (hc_ : c_.length ≤ 3 * p_) (hms_ : (S0_.1 13 0 12) = (M_ : Int)) (hN_ : rnr b_ n_ T_ N_ M_ S0_) : sm_T (mt_P sc_) 8 338 (0, [some (.inr (.inr (some (13, 0)))), some (.inl m_), none, none, none, none, none, none, none], [], S0_) (fun r_ => ∃ u_ S1_, r_ = (.inl u_, S1_, 0) ∧ vq_338 m_ b_ n_ T_ A_ M_ c_ p_ N_ S0_ u_ S1_) := by
  have hF_ : ai_fr (sx_W vw_338) S0_ S0_ := ai_fr_rf
  have le0_ := rg_le ht_ hx_
  have hn1_ := ht_.1
  have hAM_ := (hA_.2 M_ (Nat.le_refl M_)).1
  refine sm_T_go 1 (c1 := (1, [some (.inr (.inr (some (13, 0)))), some (.inl m_), none, none, none, none, none, none, none], [.inr (.inr (some (13, 0)))], S0_)) rfl ?_
  refine sm_T_cal (d1 := 2) (Q1 := vq_297 b_ n_ T_ (.inr p_) S0_) rfl rfl (by decide) (vc_297 b_ n_ T_ (.inr p_) S0_ hI_ (by exact ht_) (by exact hx_) (by (intro q_ e_; cases e_; exact hk_))) (fun u_ Sx1_ px4_ => ?_)
  obtain ⟨rfl, hIx2_, hFx3_, px4_⟩ := px4_
  have hFx5_ : ai_fr (sx_W vw_338) S0_ Sx1_ := ai_fr_tr hF_ (fr_le hFx3_ rfl)
  have t1_ := rtab_fr ht_ hFx3_ rfl rfl rfl rfl rfl
  have re1x : ∀ m_, m_ ≤ M_ → re1 b_ n_ T_ A_ m_ Sx1_ := fun m_ hm_ => re1_fr (hre_ m_ hm_) hFx3_ rfl rfl rfl rfl rfl rfl
  have rs1x : ∀ m_, m_ ≤ M_ → rs1 A_ m_ Sx1_ := fun m_ hm_ => rs1_fr (hrs_ m_ hm_) hFx3_ rfl rfl rfl rfl
  have mo1_ := (hFx3_.1 13 0 27 rfl).trans hmo_
  have md1_ := (hFx3_.1 13 0 28 rfl).trans hmd_
  have g1_ : rg b_ n_ T_ (p_ad b_ n_ p_) Sx1_ := px4_.1
  refine sm_T_go 2 (c1 := (6, [some (.inr (.inr (some (13, 0)))), some (.inl m_), none, none, none, none, none, none, none], [.inl m_, .inr (.inr (some (13, 0)))], Sx1_)) rfl ?_
  refine sm_T_cal (d1 := 3) (Q1 := vq_306 m_ b_ n_ T_ (p_ad b_ n_ p_) A_ M_ Sx1_) rfl rfl (by decide) (vc_306 m_ b_ n_ T_ (p_ad b_ n_ p_) A_ M_ Sx1_ hIx2_ (by exact t1_) (by exact g1_) (by exact hmm_) (by exact re1x M_ (Nat.le_refl M_)) (by exact hAM_)) (fun u_ Sx6_ px9_ => ?_)
  obtain ⟨rfl, hIx7_, hFx8_, px9_⟩ := px9_
  have hFx10_ : ai_fr (sx_W vw_338) S0_ Sx6_ := ai_fr_tr hFx5_ (fr_le hFx8_ rfl)
  have t6_ := rtab_fr t1_ hFx8_ rfl rfl rfl rfl rfl
  have re6_ : ∀ m_, m_ ≤ M_ → re1 b_ n_ T_ A_ m_ Sx6_ := fun m_ hm_ => re1_fr (re1x m_ hm_) hFx8_ rfl rfl rfl rfl rfl rfl
  have rs6_ : ∀ m_, m_ ≤ M_ → rs1 A_ m_ Sx6_ := fun m_ hm_ => rs1_fr (rs1x m_ hm_) hFx8_ rfl rfl rfl rfl
  have mo6_ := (hFx8_.1 13 0 27 rfl).trans mo1_
  have md6_ := (hFx8_.1 13 0 28 rfl).trans md1_
  have g6_ : rg b_ n_ T_ (pb (z_nw b_ n_ A_ M_ p_) fun a_ => .inr a_.2) Sx6_ := rg_pb (z_ := p_ad b_ n_ p_) (ps_ := fun a_ => a_) (g_ := p_nw b_ n_ A_ M_) (by rw [pb_id]; exact px9_.1) (fun a_ _ => by rw [pb_as]; exact pb_id.symm)
  have tk6_ : ∀ a_, z_nw b_ n_ A_ M_ p_ = .inr a_ → rtk b_ n_ T_ (Sx6_.1 13 0 25) a_.1 := fun a_ ha_ => by obtain ⟨q_, h1_, h2_⟩ := pb_inr ha_; obtain ⟨r_, h3_, h4_⟩ := pb_inr h2_; cases h4_; exact px9_.2 q_ r_ h1_ h3_
  have bx11_ : 0 ≤ Sx6_.1 13 0 25 ∧ Sx6_.1 13 0 25 ≤ 1280 := hIx7_.1 13 0 25 rfl
  refine sm_T_go 5 (c1 := (16, [some (.inr (.inr (some (13, 0)))), some (.inl m_), some (.inl (Sx6_.1 13 0 25)), none, none, none, none, none, none], [.inl 1, .inr (.inr (some (13, 0)))], Sx6_)) rfl ?_
  refine sm_T_cal (d1 := 1) (Q1 := vq_299 1 b_ n_ T_ (pb (z_nw b_ n_ A_ M_ p_) fun a_ => .inr a_.2) Sx6_) rfl rfl (by decide) (vc_299 1 b_ n_ T_ (pb (z_nw b_ n_ A_ M_ p_) fun a_ => .inr a_.2) Sx6_ hIx7_ (by exact t6_) (by exact g6_) (by decide)) (fun u_ Sx12_ px15_ => ?_)
  obtain ⟨vx17_, rfl, hIx13_, hFx14_, px15_⟩ := px15_
  have hFx16_ : ai_fr (sx_W vw_338) S0_ Sx12_ := ai_fr_tr hFx10_ (fr_le hFx14_ rfl)
  have ex18_ : Sx12_.1 13 0 25 = Sx6_.1 13 0 25 := hFx14_.1 13 0 25 rfl
  have t16_ := rtab_fr t6_ hFx14_ rfl rfl rfl rfl rfl
  have re16_ : ∀ m_, m_ ≤ M_ → re1 b_ n_ T_ A_ m_ Sx12_ := fun m_ hm_ => re1_fr (re6_ m_ hm_) hFx14_ rfl rfl rfl rfl rfl rfl
  have rs16_ : ∀ m_, m_ ≤ M_ → rs1 A_ m_ Sx12_ := fun m_ hm_ => rs1_fr (rs6_ m_ hm_) hFx14_ rfl rfl rfl rfl
  have mo16_ := (hFx14_.1 13 0 27 rfl).trans mo6_
  have md16_ := (hFx14_.1 13 0 28 rfl).trans md6_
  have a16_ := px15_.1
  have g16_ : rg b_ n_ T_ (pb (z_u2 b_ n_ A_ M_ p_) fun a_ => .inr a_.2) Sx12_ := rg_pb px15_.2 (fun a_ _ => by rw [pb_as]; unfold p_du; split <;> rfl)
  have at16_ := hFx14_.1 13 0 9 rfl
  have v16b : 0 ≤ vx17_ ∧ vx17_ ≤ 1280 := by rw [a16_, ← at16_]; exact hIx13_.1 13 0 9 rfl
  have z16_ : ∀ a_, (z_u2 b_ n_ A_ M_ p_) = .inr a_ → z_nw b_ n_ A_ M_ p_ = .inr a_ ∧ lx_kd b_ n_ a_.2 = 1 := fun a_ ha_ => by obtain ⟨a1_, h6_, h5_⟩ := pb_inr ha_; obtain ⟨y_, h7_, h5_⟩ := pb_inr h5_; cases h5_; refine ⟨h6_, ?_⟩; unfold p_du at h7_; split at h7_; assumption; cases h7_
  have rt16_ : ∀ a_, (z_u2 b_ n_ A_ M_ p_) = .inr a_ → rtk b_ n_ T_ vx17_ a_.2 ∧ Sx12_.2.2.1 120 0 vx17_.toNat = (a_.2 : Int) ∧ Sx12_.2.2.1 119 0 vx17_.toNat ≠ 4 := by intro a_ ha_; obtain ⟨i3_, q1_, q2_⟩ := (rg_at g16_ ha_).2; have q3_ := (z16_ a_ ha_).2; have q4_ := rp_at t16_ q2_; rw [show vx17_ = (i3_ : Int) by omega, Int.toNat_natCast]; exact ⟨(rp_rtk t16_ q2_ q3_).1, q4_.2.1, by rw [q4_.1, q3_]; decide⟩
  have ms16_ : Sx12_.1 13 0 12 = (M_ : Int) := (hFx16_.1 13 0 12 rfl).trans hms_
  have N16_ : rnr b_ n_ T_ N_ M_ Sx12_ := by unfold rnr at hN_ ⊢; rw [fr_arr hFx16_ rfl]; exact hN_
  refine sm_T_go 2 (c1 := (21, [some (.inr (.inr (some (13, 0)))), some (.inl m_), some (.inl (Sx6_.1 13 0 25)), some (.inl vx17_), none, none, none, none, none], [.inr (.inr (some (13, 0)))], Sx12_)) rfl ?_
  refine sm_T_cal (d1 := 0) (Q1 := vq_292  Sx12_) rfl rfl (by decide) (vc_292  Sx12_ hIx13_ ) (fun u_ Sx19_ px22_ => ?_)
  obtain ⟨rfl, vx24_, rfl, px22_⟩ := px22_
  have e21_ := px22_
  refine sm_T_b0 (a := 0) (z := 11) rfl (fun cx25_ => ?_) (fun cx25_ => ?_)
  · have cx25_ : vx24_ = 0 := of_decide_eq_true cx25_
    have hz_ := wr_if e21_ (by omega)
    obtain ⟨e5_, he5_⟩ := rg_wr g16_ hz_
    have u3w : (z_u3 b_ n_ A_ N_ M_ p_) = .inl e5_ := by unfold z_u3; rw [he5_]; rfl
    have g3w := g16_
    rw [he5_] at g3w
    refine sm_T_go 3 (c1 := (39, [some (.inr (.inr (some (13, 0)))), some (.inl m_), some (.inl (Sx6_.1 13 0 25)), some (.inl vx17_), some (.inl (-1)), none, none, none, none], [.inr (.inr (some (13, 0)))], Sx12_)) rfl ?_
    refine sm_T_cal (d1 := 0) (Q1 := vq_292  Sx12_) rfl rfl (by decide) (vc_292  Sx12_ hIx13_ ) (fun u_ Sx26_ px29_ => ?_)
    obtain ⟨rfl, vx31_, rfl, px29_⟩ := px29_
    have e39_ := px29_
    refine sm_T_b0 (a := 0) (z := 16) rfl (fun cx32_ => ?_) (fun cx32_ => ?_)
    · have cx32_ : vx31_ = 0 := of_decide_eq_true cx32_
      have hz3_ := wr_if e39_ (by omega)
      refine sm_T_go 0 (c1 := (58, [some (.inr (.inr (some (13, 0)))), some (.inl m_), some (.inl (Sx6_.1 13 0 25)), some (.inl vx17_), some (.inl (-1)), none, none, none, none], [], Sx12_)) rfl ?_
      refine sm_T_wk [some (.inr (.inr (some (13, 0)))), some (.inl m_), some (.inl (Sx6_.1 13 0 25)), none, some (.inl (-1)), none, none, none, none] (by exact ⟨rfl, rfl, rfl, rfl, trivial⟩) ?_
      refine (vl_338 m_ b_ n_ T_ A_ M_ c_ p_ N_ S0_ ht_ hx_ hk_ hmo_ hmm_ hmd_ hA_ hre_ hrs_ hc_ hms_ hN_ _).1 (Sx6_.1 13 0 25) (-1) Sx12_ hIx13_ hFx16_ ⟨?_, ?_, ?_, ?_, ?_, ?_, trivial⟩ (Nat.lt_succ_self _)
      · first | exact g55_ | (exact absurd hz3_ hz_) | (exact absurd hz_ hz3_) | (rw [u3w]; exact g3w) | (rw [u3c, if_neg (by omega)]; exact g2r)
      · first | (exact absurd hz3_ hz_) | (exact absurd hz_ hz3_) | (intro a_ ha_; exact (w55_ a_ ha_).elim) | (intro a_ ha_; rw [u3w] at ha_; cases ha_; done) | (intro a_ ha_; rw [u3c, if_neg (by omega)] at ha_; cases ha_; exact e29_)
      · exact tk6_
      · first | exact re55_ | exact re16_
      · first | exact rs55_ | exact rs16_
      · omega
    · have cx32_ : ¬ (vx31_ = 0) := of_decide_eq_false cx32_
      have hz3_ := rt_if e39_ (by omega)
      refine sm_T_go 6 (c1 := (55, [some (.inr (.inr (some (13, 0)))), some (.inl m_), some (.inl (Sx6_.1 13 0 25)), some (.inl vx17_), some (.inl (-1)), none, none, none, none], [.inl vx17_, .inl 11, .inr (.inr (some (13, 0)))], Sx12_)) rfl ?_
      refine sm_T_cal (d1 := 0) (Q1 := vq_293 11 vx17_ Sx12_) rfl rfl (by decide) (vc_293 11 vx17_ Sx12_ hIx13_ (by decide) (by omega)) (fun u_ Sx33_ px36_ => ?_)
      obtain ⟨rfl, hIx34_, hFx35_, px36_⟩ := px36_
      have hFx37_ : ai_fr (sx_W vw_338) S0_ Sx33_ := ai_fr_tr hFx16_ (fr_le hFx35_ rfl)
      have re55_ : ∀ m_, m_ ≤ M_ → re1 b_ n_ T_ A_ m_ Sx33_ := fun m_ hm_ => re1_fr (re16_ m_ hm_) hFx35_ rfl rfl rfl rfl rfl rfl
      have rs55_ : ∀ m_, m_ ≤ M_ → rs1 A_ m_ Sx33_ := fun m_ hm_ => rs1_fr (rs16_ m_ hm_) hFx35_ rfl rfl rfl rfl
      have g55_ : rg b_ n_ T_ (pb (z_u3 b_ n_ A_ N_ M_ p_) fun a_ => .inr a_.2) Sx33_ := by first | (exact absurd hz3_ hz_) | (rw [u3c, if_pos (by omega)]; rcases px36_ with z_ | z_; (exact absurd hz_ z_.1); (exact ⟨z_.2.1.trans (if_neg rt2_.2.2), z_.2.2.trans rt2_.2.1, by show (11 : Int) ≠ 0; decide⟩))
      have w55_ : ∀ a_, (z_u3 b_ n_ A_ N_ M_ p_) = .inr a_ → False := by first | (exact absurd hz3_ hz_) | (intro a_ ha_; rw [u3c, if_pos (by omega)] at ha_; cases ha_)
      refine sm_T_go 0 (c1 := (58, [some (.inr (.inr (some (13, 0)))), some (.inl m_), some (.inl (Sx6_.1 13 0 25)), some (.inl vx17_), some (.inl (-1)), none, none, none, none], [], Sx33_)) rfl ?_
      refine sm_T_wk [some (.inr (.inr (some (13, 0)))), some (.inl m_), some (.inl (Sx6_.1 13 0 25)), none, some (.inl (-1)), none, none, none, none] (by exact ⟨rfl, rfl, rfl, rfl, trivial⟩) ?_
      refine (vl_338 m_ b_ n_ T_ A_ M_ c_ p_ N_ S0_ ht_ hx_ hk_ hmo_ hmm_ hmd_ hA_ hre_ hrs_ hc_ hms_ hN_ _).1 (Sx6_.1 13 0 25) (-1) Sx33_ hIx34_ hFx37_ ⟨?_, ?_, ?_, ?_, ?_, ?_, trivial⟩ (Nat.lt_succ_self _)
      · first | exact g55_ | (exact absurd hz3_ hz_) | (exact absurd hz_ hz3_) | (rw [u3w]; exact g3w) | (rw [u3c, if_neg (by omega)]; exact g2r)
      · first | (exact absurd hz3_ hz_) | (exact absurd hz_ hz3_) | (intro a_ ha_; exact (w55_ a_ ha_).elim) | (intro a_ ha_; rw [u3w] at ha_; cases ha_; done) | (intro a_ ha_; rw [u3c, if_neg (by omega)] at ha_; cases ha_; exact e29_)
      · exact tk6_
      · first | exact re55_ | exact re16_
      · first | exact rs55_ | exact rs16_
      · omega
  · have cx25_ : ¬ (vx24_ = 0) := of_decide_eq_false cx25_
    have hz_ := rt_if e21_ (by omega)
    obtain ⟨a2_, ha2_⟩ := rg_rt g16_ hz_
    have rt2_ := rt16_ a2_ ha2_
    have g2r := rg_at g16_ ha2_
    have u3c : (z_u3 b_ n_ A_ N_ M_ p_) = if p_fm b_ n_ N_ M_ a2_.2 = -1 then .inl (11, a2_.2) else .inr a2_ := by unfold z_u3; rw [ha2_]; rfl
    refine sm_T_go 2 (c1 := (29, [some (.inr (.inr (some (13, 0)))), some (.inl m_), some (.inl (Sx6_.1 13 0 25)), some (.inl vx17_), none, none, none, none, none], [.inl vx17_, .inr (.inr (some (13, 0)))], Sx12_)) rfl ?_
    refine sm_T_cal (d1 := 1) (Q1 := vq_303 vx17_ b_ n_ T_ N_ M_ a2_.2 Sx12_) rfl rfl (by decide) (vc_303 vx17_ b_ n_ T_ N_ M_ a2_.2 Sx12_ hIx13_ (by exact t16_) (by exact ms16_) (by exact N16_) (by exact rt2_.1)) (fun u_ Sx38_ px41_ => ?_)
    obtain ⟨rfl, vx43_, rfl, px41_⟩ := px41_
    have e29_ := px41_
    have fb_ := fm_b (b_ := b_) (n_ := n_) (M_ := M_) (r_ := a2_.2) (N_ := N_)
    refine sm_T_go 3 (c1 := (39, [some (.inr (.inr (some (13, 0)))), some (.inl m_), some (.inl (Sx6_.1 13 0 25)), some (.inl vx17_), some (.inl vx43_), none, none, none, none], [.inr (.inr (some (13, 0)))], Sx12_)) rfl ?_
    refine sm_T_cal (d1 := 0) (Q1 := vq_292  Sx12_) rfl rfl (by decide) (vc_292  Sx12_ hIx13_ ) (fun u_ Sx44_ px47_ => ?_)
    obtain ⟨rfl, vx49_, rfl, px47_⟩ := px47_
    have e39_ := px47_
    refine sm_T_b0 (a := 0) (z := 16) rfl (fun cx50_ => ?_) (fun cx50_ => ?_)
    · have cx50_ : vx49_ = 0 := of_decide_eq_true cx50_
      have hz3_ := wr_if e39_ (by omega)
      refine sm_T_go 0 (c1 := (58, [some (.inr (.inr (some (13, 0)))), some (.inl m_), some (.inl (Sx6_.1 13 0 25)), some (.inl vx17_), some (.inl vx43_), none, none, none, none], [], Sx12_)) rfl ?_
      refine sm_T_wk [some (.inr (.inr (some (13, 0)))), some (.inl m_), some (.inl (Sx6_.1 13 0 25)), none, some (.inl vx43_), none, none, none, none] (by exact ⟨rfl, rfl, rfl, rfl, trivial⟩) ?_
      refine (vl_338 m_ b_ n_ T_ A_ M_ c_ p_ N_ S0_ ht_ hx_ hk_ hmo_ hmm_ hmd_ hA_ hre_ hrs_ hc_ hms_ hN_ _).1 (Sx6_.1 13 0 25) vx43_ Sx12_ hIx13_ hFx16_ ⟨?_, ?_, ?_, ?_, ?_, ?_, trivial⟩ (Nat.lt_succ_self _)
      · first | exact g55_ | (exact absurd hz3_ hz_) | (exact absurd hz_ hz3_) | (rw [u3w]; exact g3w) | (rw [u3c, if_neg (by omega)]; exact g2r)
      · first | (exact absurd hz3_ hz_) | (exact absurd hz_ hz3_) | (intro a_ ha_; exact (w55_ a_ ha_).elim) | (intro a_ ha_; rw [u3w] at ha_; cases ha_; done) | (intro a_ ha_; rw [u3c, if_neg (by omega)] at ha_; cases ha_; exact e29_)
      · exact tk6_
      · first | exact re55_ | exact re16_
      · first | exact rs55_ | exact rs16_
      · omega
    · have cx50_ : ¬ (vx49_ = 0) := of_decide_eq_false cx50_
      have hz3_ := rt_if e39_ (by omega)
      refine sm_T_go 2 (c1 := (48, [some (.inr (.inr (some (13, 0)))), some (.inl m_), some (.inl (Sx6_.1 13 0 25)), some (.inl vx17_), some (.inl vx43_), none, none, none, none], [.inl (-1), .inl vx43_], Sx12_)) rfl ?_
      refine sm_T_br (a := 1) (z := 10) rfl (fun cx51_ => ?_) (fun cx51_ => ?_)
      · have cx51_ : vx43_ ≠ (-1) := of_decide_eq_true cx51_
        refine sm_T_go 0 (c1 := (58, [some (.inr (.inr (some (13, 0)))), some (.inl m_), some (.inl (Sx6_.1 13 0 25)), some (.inl vx17_), some (.inl vx43_), none, none, none, none], [], Sx12_)) rfl ?_
        refine sm_T_wk [some (.inr (.inr (some (13, 0)))), some (.inl m_), some (.inl (Sx6_.1 13 0 25)), none, some (.inl vx43_), none, none, none, none] (by exact ⟨rfl, rfl, rfl, rfl, trivial⟩) ?_
        refine (vl_338 m_ b_ n_ T_ A_ M_ c_ p_ N_ S0_ ht_ hx_ hk_ hmo_ hmm_ hmd_ hA_ hre_ hrs_ hc_ hms_ hN_ _).1 (Sx6_.1 13 0 25) vx43_ Sx12_ hIx13_ hFx16_ ⟨?_, ?_, ?_, ?_, ?_, ?_, trivial⟩ (Nat.lt_succ_self _)
        · first | exact g55_ | (exact absurd hz3_ hz_) | (exact absurd hz_ hz3_) | (rw [u3w]; exact g3w) | (rw [u3c, if_neg (by omega)]; exact g2r)
        · first | (exact absurd hz3_ hz_) | (exact absurd hz_ hz3_) | (intro a_ ha_; exact (w55_ a_ ha_).elim) | (intro a_ ha_; rw [u3w] at ha_; cases ha_; done) | (intro a_ ha_; rw [u3c, if_neg (by omega)] at ha_; cases ha_; exact e29_)
        · exact tk6_
        · first | exact re55_ | exact re16_
        · first | exact rs55_ | exact rs16_
        · omega
      · have cx51_ : ¬ (vx43_ ≠ (-1)) := of_decide_eq_false cx51_
        refine sm_T_go 3 (c1 := (55, [some (.inr (.inr (some (13, 0)))), some (.inl m_), some (.inl (Sx6_.1 13 0 25)), some (.inl vx17_), some (.inl vx43_), none, none, none, none], [.inl vx17_, .inl 11, .inr (.inr (some (13, 0)))], Sx12_)) rfl ?_
        refine sm_T_cal (d1 := 0) (Q1 := vq_293 11 vx17_ Sx12_) rfl rfl (by decide) (vc_293 11 vx17_ Sx12_ hIx13_ (by decide) (by omega)) (fun u_ Sx52_ px55_ => ?_)
        obtain ⟨rfl, hIx53_, hFx54_, px55_⟩ := px55_
        have hFx56_ : ai_fr (sx_W vw_338) S0_ Sx52_ := ai_fr_tr hFx16_ (fr_le hFx54_ rfl)
        have re55_ : ∀ m_, m_ ≤ M_ → re1 b_ n_ T_ A_ m_ Sx52_ := fun m_ hm_ => re1_fr (re16_ m_ hm_) hFx54_ rfl rfl rfl rfl rfl rfl
        have rs55_ : ∀ m_, m_ ≤ M_ → rs1 A_ m_ Sx52_ := fun m_ hm_ => rs1_fr (rs16_ m_ hm_) hFx54_ rfl rfl rfl rfl
        have g55_ : rg b_ n_ T_ (pb (z_u3 b_ n_ A_ N_ M_ p_) fun a_ => .inr a_.2) Sx52_ := by first | (exact absurd hz3_ hz_) | (rw [u3c, if_pos (by omega)]; rcases px55_ with z_ | z_; (exact absurd hz_ z_.1); (exact ⟨z_.2.1.trans (if_neg rt2_.2.2), z_.2.2.trans rt2_.2.1, by show (11 : Int) ≠ 0; decide⟩))
        have w55_ : ∀ a_, (z_u3 b_ n_ A_ N_ M_ p_) = .inr a_ → False := by first | (exact absurd hz3_ hz_) | (intro a_ ha_; rw [u3c, if_pos (by omega)] at ha_; cases ha_)
        refine sm_T_go 0 (c1 := (58, [some (.inr (.inr (some (13, 0)))), some (.inl m_), some (.inl (Sx6_.1 13 0 25)), some (.inl vx17_), some (.inl vx43_), none, none, none, none], [], Sx52_)) rfl ?_
        refine sm_T_wk [some (.inr (.inr (some (13, 0)))), some (.inl m_), some (.inl (Sx6_.1 13 0 25)), none, some (.inl vx43_), none, none, none, none] (by exact ⟨rfl, rfl, rfl, rfl, trivial⟩) ?_
        refine (vl_338 m_ b_ n_ T_ A_ M_ c_ p_ N_ S0_ ht_ hx_ hk_ hmo_ hmm_ hmd_ hA_ hre_ hrs_ hc_ hms_ hN_ _).1 (Sx6_.1 13 0 25) vx43_ Sx52_ hIx53_ hFx56_ ⟨?_, ?_, ?_, ?_, ?_, ?_, trivial⟩ (Nat.lt_succ_self _)
        · first | exact g55_ | (exact absurd hz3_ hz_) | (exact absurd hz_ hz3_) | (rw [u3w]; exact g3w) | (rw [u3c, if_neg (by omega)]; exact g2r)
        · first | (exact absurd hz3_ hz_) | (exact absurd hz_ hz3_) | (intro a_ ha_; exact (w55_ a_ ha_).elim) | (intro a_ ha_; rw [u3w] at ha_; cases ha_; done) | (intro a_ ha_; rw [u3c, if_neg (by omega)] at ha_; cases ha_; exact e29_)
        · exact tk6_
        · first | exact re55_ | exact re16_
        · first | exact rs55_ | exact rs16_
        · omega
end
/-! 99.ypa -/
section
/-! the reference: items; written by wip/p55/gen/vg -/

/-! items -/
def z_is (b_ : Nat → Int) (n_ : Nat) (a_ : Nat × Nat × Int) : pE ((Nat × Nat × Int) × Nat) := pb (p_nd b_ n_ 59 a_.2.1) fun y_ => .inr (a_, y_)
def k_in (A_ : pA) (M_ : Nat) (c_ : List Int) (a_ : (Nat × Nat × Int) × Nat) : pT := (a_te A_ M_ a_.1.1 0 a_.1.2.2 0, c_, a_.2)
theorem in_eq {b_ : Nat → Int} {n_ M_ p_ : Nat} {A_ : pA} {c_ : List Int} : p_in b_ n_ A_ M_ c_ p_ = pb (pb (z_wi b_ n_ A_ M_ p_) (z_is b_ n_)) fun a_ => .inr (k_in A_ M_ c_ a_) := by
  unfold p_in z_wi z_nw
  simp only [pb_as, pb_ir]
  refine congrArg (pb (p_ad b_ n_ p_)) (funext fun q_ => congrArg (pb _) (funext fun r_ => congrArg (pb _) (funext fun u_ => ?_)))
  show _ = pb (z_is b_ n_ (q_, u_)) _
  unfold z_is
  rw [pb_as]
  rfl
theorem in_ok {b_ : Nat → Int} {n_ M_ p_ : Nat} {A_ : pA} {c_ : List Int} {r_ : pT} (hA_ : a_ok b_ n_ A_ M_) (hp_ : p_ ≤ n_) (hk_ : lx_kd b_ n_ p_ ≠ 0) (hc_ : c_.length ≤ 3 * p_) (h_ : p_in b_ n_ A_ M_ c_ p_ = .inr r_) : a_ok b_ n_ r_.1 M_ ∧ r_.2.1.length ≤ 3 * r_.2.2 ∧ p_ < r_.2.2 := by
  rw [in_eq] at h_
  obtain ⟨a_, h1_, h_⟩ := pb_inr h_
  cases h_
  obtain ⟨a0_, h3_, h1_⟩ := pb_inr h1_
  obtain ⟨y_, h5_, h1_⟩ := pb_inr h1_
  cases h1_
  have k1_ := z_wi_ok hp_ hk_ h3_
  have k3_ := nd_ok k1_.2.2.2.1 (by decide) h5_
  have k5_ := (hA_.2 M_ (Nat.le_refl M_)).1
  have k6_ := k1_.2.1
  have k7_ : a0_.2.1 < y_ := k3_.1
  have k8_ := k1_.2.2.1
  refine ⟨a_te_ok hA_ (by omega) k1_.1 (by decide) ⟨by have := k1_.2.2.2.2.2.1; show (0 : Int) ≤ a0_.2.2; omega, k1_.2.2.2.2.2.2⟩ (fun _ => k1_.2.2.2.2.2.1) (fun z_ => absurd z_ (by decide)) (by decide), ?_, ?_⟩
  · show c_.length ≤ 3 * y_
    omega
  · show p_ < y_
    omega
def p_i2 (b_ : Nat → Int) (n_ : Nat) (A_ : pA) (N_ : Nat → Nat) (M_ : Nat) (c_ : List Int) (p_ : Nat) : pE pT := (p_it b_ n_ A_ N_ M_ c_ p_).getD (.inl (2, p_))
theorem i2_1 {b_ : Nat → Int} {n_ M_ p_ : Nat} {A_ : pA} {N_ : Nat → Nat} {c_ : List Int} (h_ : lx_kd b_ n_ p_ = 4) : p_i2 b_ n_ A_ N_ M_ c_ p_ = p_in b_ n_ A_ M_ c_ p_ := by
  unfold p_i2 p_it
  rw [if_pos h_]
  rfl
theorem i2_2 {b_ : Nat → Int} {n_ M_ p_ : Nat} {A_ : pA} {N_ : Nat → Nat} {c_ : List Int} (h_ : lx_kd b_ n_ p_ = 5) : p_i2 b_ n_ A_ N_ M_ c_ p_ = p_va b_ n_ A_ M_ 1 c_ p_ := by
  unfold p_i2 p_it
  rw [if_neg (by omega), if_pos h_]
  rfl
theorem i2_3 {b_ : Nat → Int} {n_ M_ p_ : Nat} {A_ : pA} {N_ : Nat → Nat} {c_ : List Int} (h_ : lx_kd b_ n_ p_ = 6) : p_i2 b_ n_ A_ N_ M_ c_ p_ = p_va b_ n_ A_ M_ 2 c_ p_ := by
  unfold p_i2 p_it
  rw [if_neg (by omega), if_neg (by omega), if_pos h_]
  rfl
theorem i2_4 {b_ : Nat → Int} {n_ M_ p_ : Nat} {A_ : pA} {N_ : Nat → Nat} {c_ : List Int} (h_ : lx_kd b_ n_ p_ = 7) : p_i2 b_ n_ A_ N_ M_ c_ p_ = p_re b_ n_ A_ M_ c_ p_ := by
  unfold p_i2 p_it
  rw [if_neg (by omega), if_neg (by omega), if_neg (by omega), if_pos h_]
  rfl
theorem i2_5 {b_ : Nat → Int} {n_ M_ p_ : Nat} {A_ : pA} {N_ : Nat → Nat} {c_ : List Int} (h_ : lx_kd b_ n_ p_ = 8) : p_i2 b_ n_ A_ N_ M_ c_ p_ = p_us b_ n_ A_ N_ M_ c_ p_ := by
  unfold p_i2 p_it
  rw [if_neg (by omega), if_neg (by omega), if_neg (by omega), if_neg (by omega), if_pos h_]
  rfl
theorem i2_6 {b_ : Nat → Int} {n_ M_ p_ : Nat} {A_ : pA} {N_ : Nat → Nat} {c_ : List Int} (h_ : ∀ k_ : Int, 4 ≤ k_ → k_ ≤ 8 → lx_kd b_ n_ p_ ≠ k_) : p_i2 b_ n_ A_ N_ M_ c_ p_ = if lx_kd b_ n_ p_ = 1 then p_ne b_ n_ A_ M_ c_ p_ else .inl (2, p_) := by
  unfold p_i2 p_it
  rw [if_neg (h_ 4 (by decide) (by decide)), if_neg (h_ 5 (by decide) (by decide)), if_neg (h_ 6 (by decide) (by decide)), if_neg (h_ 7 (by decide) (by decide)), if_neg (h_ 8 (by decide) (by decide))]
  split <;> rfl
theorem i2_ok {b_ : Nat → Int} {n_ M_ p_ : Nat} {A_ : pA} {N_ : Nat → Nat} {c_ : List Int} {r_ : pT} (hn_ : n_ ≤ 1280) (hA_ : a_ok b_ n_ A_ M_) (hp_ : p_ ≤ n_) (hc_ : c_.length ≤ 3 * p_) (h_ : p_i2 b_ n_ A_ N_ M_ c_ p_ = .inr r_) : p_ < r_.2.2 := by
  by_cases g4_ : lx_kd b_ n_ p_ = 4
  · rw [i2_1 g4_] at h_; exact (in_ok hA_ hp_ (by omega) hc_ h_).2.2
  · by_cases g5_ : lx_kd b_ n_ p_ = 5
    · rw [i2_2 g5_] at h_; exact (va_ok hn_ hA_ (by decide) hp_ (by omega) hc_ h_).2.2
    · by_cases g6_ : lx_kd b_ n_ p_ = 6
      · rw [i2_3 g6_] at h_; exact (va_ok hn_ hA_ (by decide) hp_ (by omega) hc_ h_).2.2
      · by_cases g7_ : lx_kd b_ n_ p_ = 7
        · rw [i2_4 g7_] at h_; exact (re_ok hA_ hp_ (by omega) hc_ h_).2.2
        · by_cases g8_ : lx_kd b_ n_ p_ = 8
          · rw [i2_5 g8_] at h_; exact (us_ok hn_ hA_ hp_ (by omega) hc_ h_).2.2
          · rw [i2_6 (fun k_ h1_ h2_ => by omega)] at h_
            exact (ne_ok hn_ hA_ hp_ hc_ h_).2.2.1
end
/-! 99.ypb -/
section
/-! M_.tellItem -/
def vw_334 : sx_Wl := ([(13, 9), (13, 10), (13, 11), (13, 25), (13, 26), (13, 32), (13, 33), (13, 34)], [126, 127, 128, 129, 130, 131, 132, 133, 134, 135, 136, 137, 138, 139], [])
def vq_334 (m_ : Int) (b_ : Nat → Int) (n_ : Nat) (T_ : Nat) (A_ : pA) (M_ : Nat) (c_ : List Int) (p_ : Nat) (N_ : Nat → Nat) (S0_ : sm_S) (u_ : Option sm_V) (S1_ : sm_S) : Prop := u_ = none ∧ gi S1_ ∧ ai_fr (sx_W vw_334) S0_ S1_ ∧ (rm b_ n_ T_ M_ (p_i2 b_ n_ A_ N_ M_ c_ p_) S1_)
set_option maxHeartbeats 2000000 in
theorem vc_334 {sc_ : Nat × (Nat → Int)} (m_ : Int) (b_ : Nat → Int) (n_ : Nat) (T_ : Nat) (A_ : pA) (M_ : Nat) (c_ : List Int) (p_ : Nat) (N_ : Nat → Nat) (S0_ : sm_S) (hI_ : gi S0_) (ht_ : rtab b_ n_ T_ S0_) (hx_ : rg b_ n_ T_ (.inr p_) S0_) (hmo_ : (S0_.1 13 0 27) = 0) (hmm_ : m_ = (M_ : Int) ∧ M_ ≤ 15) (hmd_ : (S0_.1 13 0 28) = (M_ : Int)) (hA_ : a_ok b_ n_ A_ M_) (hre_ : ∀ m_, m_ ≤ M_ → re1 b_ n_ T_ A_ m_ S0_) (hrs_ : ∀ m_, m_ ≤ M_ → rs1 A_ m_ S0_) (hc_ : c_.length ≤ 3 * p_) (hms_ : (S0_.1 13 0 12) = (M_ : Int)) (hN_ : rnr b_ n_ T_ N_ M_ S0_) : sm_T (mt_P sc_) 9 334 (0, [some (.inr (.inr (some (13, 0)))), some (.inl m_)], [], S0_) (fun r_ => ∃ u_ S1_, r_ = (.inl u_, S1_, 0) ∧ vq_334 m_ b_ n_ T_ A_ M_ c_ p_ N_ S0_ u_ S1_) := by
  have hF_ : ai_fr (sx_W vw_334) S0_ S0_ := ai_fr_rf
  have le0_ := rg_le ht_ hx_
  have hn1_ := ht_.1
  have hAM_ := (hA_.2 M_ (Nat.le_refl M_)).1
  refine sm_T_go 2 (c1 := (2, [some (.inr (.inr (some (13, 0)))), some (.inl m_)], [.inl 2, .inr (.inr (some (13, 0)))], S0_)) rfl ?_
  refine sm_T_cal (d1 := 0) (Q1 := vq_296 2 b_ n_ T_ (.inr p_) S0_) rfl rfl (by decide) (vc_296 2 b_ n_ T_ (.inr p_) S0_ hI_ (by exact ht_) (by exact hx_) (by decide)) (fun u_ Sx1_ px4_ => ?_)
  obtain ⟨rfl, vx6_, rfl, px4_⟩ := px4_
  have w2_ := px4_.2 p_ rfl
  have q2_ := px4_.1
  refine sm_T_b0 (a := 0) (z := 32) rfl (fun cx7_ => ?_) (fun cx7_ => ?_)
  · have cx7_ : vx6_ = 0 := of_decide_eq_true cx7_
    have nk4_ : lx_kd b_ n_ p_ ≠ 4 := fun z_ => by have := w2_.mpr (by omega); omega
    refine sm_T_go 2 (c1 := (39, [some (.inr (.inr (some (13, 0)))), some (.inl m_)], [.inl 3, .inr (.inr (some (13, 0)))], S0_)) rfl ?_
    refine sm_T_cal (d1 := 0) (Q1 := vq_296 3 b_ n_ T_ (.inr p_) S0_) rfl rfl (by decide) (vc_296 3 b_ n_ T_ (.inr p_) S0_ hI_ (by exact ht_) (by exact hx_) (by decide)) (fun u_ Sx8_ px11_ => ?_)
    obtain ⟨rfl, vx13_, rfl, px11_⟩ := px11_
    have w39_ := px11_.2 p_ rfl
    have q39_ := px11_.1
    refine sm_T_b0 (a := 0) (z := 12) rfl (fun cx14_ => ?_) (fun cx14_ => ?_)
    · have cx14_ : vx13_ = 0 := of_decide_eq_true cx14_
      have nk5_ : lx_kd b_ n_ p_ ≠ 5 := fun z_ => by have := w39_.mpr (by omega); omega
      refine sm_T_go 2 (c1 := (56, [some (.inr (.inr (some (13, 0)))), some (.inl m_)], [.inl 4, .inr (.inr (some (13, 0)))], S0_)) rfl ?_
      refine sm_T_cal (d1 := 0) (Q1 := vq_296 4 b_ n_ T_ (.inr p_) S0_) rfl rfl (by decide) (vc_296 4 b_ n_ T_ (.inr p_) S0_ hI_ (by exact ht_) (by exact hx_) (by decide)) (fun u_ Sx15_ px18_ => ?_)
      obtain ⟨rfl, vx20_, rfl, px18_⟩ := px18_
      have w56_ := px18_.2 p_ rfl
      have q56_ := px18_.1
      refine sm_T_b0 (a := 0) (z := 12) rfl (fun cx21_ => ?_) (fun cx21_ => ?_)
      · have cx21_ : vx20_ = 0 := of_decide_eq_true cx21_
        have nk6_ : lx_kd b_ n_ p_ ≠ 6 := fun z_ => by have := w56_.mpr (by omega); omega
        refine sm_T_go 2 (c1 := (73, [some (.inr (.inr (some (13, 0)))), some (.inl m_)], [.inl 5, .inr (.inr (some (13, 0)))], S0_)) rfl ?_
        refine sm_T_cal (d1 := 0) (Q1 := vq_296 5 b_ n_ T_ (.inr p_) S0_) rfl rfl (by decide) (vc_296 5 b_ n_ T_ (.inr p_) S0_ hI_ (by exact ht_) (by exact hx_) (by decide)) (fun u_ Sx22_ px25_ => ?_)
        obtain ⟨rfl, vx27_, rfl, px25_⟩ := px25_
        have w73_ := px25_.2 p_ rfl
        have q73_ := px25_.1
        refine sm_T_b0 (a := 0) (z := 11) rfl (fun cx28_ => ?_) (fun cx28_ => ?_)
        · have cx28_ : vx27_ = 0 := of_decide_eq_true cx28_
          have nk7_ : lx_kd b_ n_ p_ ≠ 7 := fun z_ => by have := w73_.mpr (by omega); omega
          refine sm_T_go 2 (c1 := (90, [some (.inr (.inr (some (13, 0)))), some (.inl m_)], [.inl 6, .inr (.inr (some (13, 0)))], S0_)) rfl ?_
          refine sm_T_cal (d1 := 0) (Q1 := vq_296 6 b_ n_ T_ (.inr p_) S0_) rfl rfl (by decide) (vc_296 6 b_ n_ T_ (.inr p_) S0_ hI_ (by exact ht_) (by exact hx_) (by decide)) (fun u_ Sx29_ px32_ => ?_)
          obtain ⟨rfl, vx34_, rfl, px32_⟩ := px32_
          have w90_ := px32_.2 p_ rfl
          have q90_ := px32_.1
          refine sm_T_b0 (a := 0) (z := 11) rfl (fun cx35_ => ?_) (fun cx35_ => ?_)
          · have cx35_ : vx34_ = 0 := of_decide_eq_true cx35_
            have nk8_ : lx_kd b_ n_ p_ ≠ 8 := fun z_ => by have := w90_.mpr (by omega); omega
            refine sm_T_go 2 (c1 := (106, [some (.inr (.inr (some (13, 0)))), some (.inl m_)], [.inl m_, .inr (.inr (some (13, 0)))], S0_)) rfl ?_
            refine sm_T_cal (d1 := 8) (Q1 := vq_337 m_ b_ n_ T_ A_ M_ c_ p_ S0_) rfl rfl (by decide) (vc_337 m_ b_ n_ T_ A_ M_ c_ p_ S0_ hI_ (by exact ht_) (by exact hx_) (by exact hmo_) (by exact hmm_) (by exact hmd_) (by exact hA_) (by exact hre_) (by exact hrs_) (by exact hc_)) (fun u_ Sx36_ px39_ => ?_)
            obtain ⟨rfl, hIx37_, hFx38_, px39_⟩ := px39_
            have hFx40_ : ai_fr (sx_W vw_334) S0_ Sx36_ := ai_fr_tr hF_ (fr_le hFx38_ rfl)
            have e9_ := px39_
            rw [← i2_6 (N_ := N_) (fun k_ h1_ h2_ => by omega)] at e9_
            refine sm_T_rv rfl ⟨_, _, rfl, rfl, hIx37_, hFx40_, ?_⟩
            exact e9_
          · have cx35_ : ¬ (vx34_ = 0) := of_decide_eq_false cx35_
            have kd_ : lx_kd b_ n_ p_ = 8 := by have := w90_.mp (by omega); omega
            refine sm_T_go 2 (c1 := (98, [some (.inr (.inr (some (13, 0)))), some (.inl m_)], [.inl m_, .inr (.inr (some (13, 0)))], S0_)) rfl ?_
            refine sm_T_cal (d1 := 8) (Q1 := vq_338 m_ b_ n_ T_ A_ M_ c_ p_ N_ S0_) rfl rfl (by decide) (vc_338 m_ b_ n_ T_ A_ M_ c_ p_ N_ S0_ hI_ (by exact ht_) (by exact hx_) (by omega) (by exact hmo_) (by exact hmm_) (by exact hmd_) (by exact hA_) (by exact hre_) (by exact hrs_) (by exact hc_) (by exact hms_) (by exact hN_)) (fun u_ Sx41_ px44_ => ?_)
            obtain ⟨rfl, hIx42_, hFx43_, px44_⟩ := px44_
            have hFx45_ : ai_fr (sx_W vw_334) S0_ Sx41_ := ai_fr_tr hF_ (fr_le hFx43_ rfl)
            have e9_ := px44_
            rw [← i2_5 kd_] at e9_
            refine sm_T_go 1 (c1 := (109, [some (.inr (.inr (some (13, 0)))), some (.inl m_)], [], Sx41_)) rfl ?_
            refine sm_T_rv rfl ⟨_, _, rfl, rfl, hIx42_, hFx45_, ?_⟩
            exact e9_
        · have cx28_ : ¬ (vx27_ = 0) := of_decide_eq_false cx28_
          have kd_ : lx_kd b_ n_ p_ = 7 := by have := w73_.mp (by omega); omega
          refine sm_T_go 2 (c1 := (81, [some (.inr (.inr (some (13, 0)))), some (.inl m_)], [.inl m_, .inr (.inr (some (13, 0)))], S0_)) rfl ?_
          refine sm_T_cal (d1 := 8) (Q1 := vq_336 m_ b_ n_ T_ A_ M_ c_ p_ S0_) rfl rfl (by decide) (vc_336 m_ b_ n_ T_ A_ M_ c_ p_ S0_ hI_ (by exact ht_) (by exact hx_) (by omega) (by exact hmo_) (by exact hmm_) (by exact hmd_) (by exact hA_) (by exact hre_) (by exact hrs_) (by exact hc_)) (fun u_ Sx46_ px49_ => ?_)
          obtain ⟨rfl, hIx47_, hFx48_, px49_⟩ := px49_
          have hFx50_ : ai_fr (sx_W vw_334) S0_ Sx46_ := ai_fr_tr hF_ (fr_le hFx48_ rfl)
          have e9_ := px49_
          rw [← i2_4 (N_ := N_) kd_] at e9_
          refine sm_T_go 1 (c1 := (109, [some (.inr (.inr (some (13, 0)))), some (.inl m_)], [], Sx46_)) rfl ?_
          refine sm_T_rv rfl ⟨_, _, rfl, rfl, hIx47_, hFx50_, ?_⟩
          exact e9_
      · have cx21_ : ¬ (vx20_ = 0) := of_decide_eq_false cx21_
        have kd_ : lx_kd b_ n_ p_ = 6 := by have := w56_.mp (by omega); omega
        refine sm_T_go 3 (c1 := (65, [some (.inr (.inr (some (13, 0)))), some (.inl m_)], [.inl 3, .inl m_, .inr (.inr (some (13, 0)))], S0_)) rfl ?_
        refine sm_T_cal (d1 := 8) (Q1 := vq_335 m_ 3 b_ n_ T_ A_ M_ c_ p_ 2 S0_) rfl rfl (by decide) (vc_335 m_ 3 b_ n_ T_ A_ M_ c_ p_ 2 S0_ hI_ (by exact ht_) (by exact hx_) (by omega) (by exact hmo_) (by exact hmm_) (by exact hmd_) (by exact hA_) (by exact hre_) (by exact hrs_) (by exact hc_) (by decide)) (fun u_ Sx51_ px54_ => ?_)
        obtain ⟨rfl, hIx52_, hFx53_, px54_⟩ := px54_
        have hFx55_ : ai_fr (sx_W vw_334) S0_ Sx51_ := ai_fr_tr hF_ (fr_le hFx53_ rfl)
        have e9_ := px54_
        rw [← i2_3 (N_ := N_) kd_] at e9_
        refine sm_T_go 1 (c1 := (109, [some (.inr (.inr (some (13, 0)))), some (.inl m_)], [], Sx51_)) rfl ?_
        refine sm_T_rv rfl ⟨_, _, rfl, rfl, hIx52_, hFx55_, ?_⟩
        exact e9_
    · have cx14_ : ¬ (vx13_ = 0) := of_decide_eq_false cx14_
      have kd_ : lx_kd b_ n_ p_ = 5 := by have := w39_.mp (by omega); omega
      refine sm_T_go 3 (c1 := (48, [some (.inr (.inr (some (13, 0)))), some (.inl m_)], [.inl 2, .inl m_, .inr (.inr (some (13, 0)))], S0_)) rfl ?_
      refine sm_T_cal (d1 := 8) (Q1 := vq_335 m_ 2 b_ n_ T_ A_ M_ c_ p_ 1 S0_) rfl rfl (by decide) (vc_335 m_ 2 b_ n_ T_ A_ M_ c_ p_ 1 S0_ hI_ (by exact ht_) (by exact hx_) (by omega) (by exact hmo_) (by exact hmm_) (by exact hmd_) (by exact hA_) (by exact hre_) (by exact hrs_) (by exact hc_) (by decide)) (fun u_ Sx56_ px59_ => ?_)
      obtain ⟨rfl, hIx57_, hFx58_, px59_⟩ := px59_
      have hFx60_ : ai_fr (sx_W vw_334) S0_ Sx56_ := ai_fr_tr hF_ (fr_le hFx58_ rfl)
      have e9_ := px59_
      rw [← i2_2 (N_ := N_) kd_] at e9_
      refine sm_T_go 1 (c1 := (109, [some (.inr (.inr (some (13, 0)))), some (.inl m_)], [], Sx56_)) rfl ?_
      refine sm_T_rv rfl ⟨_, _, rfl, rfl, hIx57_, hFx60_, ?_⟩
      exact e9_
  · have cx7_ : ¬ (vx6_ = 0) := of_decide_eq_false cx7_
    have kd_ : lx_kd b_ n_ p_ = 4 := by have := w2_.mp (by omega); omega
    refine sm_T_go 1 (c1 := (9, [some (.inr (.inr (some (13, 0)))), some (.inl m_)], [.inr (.inr (some (13, 0)))], S0_)) rfl ?_
    refine sm_T_cal (d1 := 2) (Q1 := vq_297 b_ n_ T_ (.inr p_) S0_) rfl rfl (by decide) (vc_297 b_ n_ T_ (.inr p_) S0_ hI_ (by exact ht_) (by exact hx_) (by (intro q_ e_; cases e_; omega))) (fun u_ Sx61_ px64_ => ?_)
    obtain ⟨rfl, hIx62_, hFx63_, px64_⟩ := px64_
    have hFx65_ : ai_fr (sx_W vw_334) S0_ Sx61_ := ai_fr_tr hF_ (fr_le hFx63_ rfl)
    have t1_ := rtab_fr ht_ hFx63_ rfl rfl rfl rfl rfl
    have re1x : ∀ m_, m_ ≤ M_ → re1 b_ n_ T_ A_ m_ Sx61_ := fun m_ hm_ => re1_fr (hre_ m_ hm_) hFx63_ rfl rfl rfl rfl rfl rfl
    have rs1x : ∀ m_, m_ ≤ M_ → rs1 A_ m_ Sx61_ := fun m_ hm_ => rs1_fr (hrs_ m_ hm_) hFx63_ rfl rfl rfl rfl
    have mo1_ := (hFx63_.1 13 0 27 rfl).trans hmo_
    have md1_ := (hFx63_.1 13 0 28 rfl).trans hmd_
    have g1_ : rg b_ n_ T_ (p_ad b_ n_ p_) Sx61_ := px64_.1
    refine sm_T_go 2 (c1 := (14, [some (.inr (.inr (some (13, 0)))), some (.inl m_)], [.inl m_, .inr (.inr (some (13, 0)))], Sx61_)) rfl ?_
    refine sm_T_cal (d1 := 3) (Q1 := vq_306 m_ b_ n_ T_ (p_ad b_ n_ p_) A_ M_ Sx61_) rfl rfl (by decide) (vc_306 m_ b_ n_ T_ (p_ad b_ n_ p_) A_ M_ Sx61_ hIx62_ (by exact t1_) (by exact g1_) (by exact hmm_) (by exact re1x M_ (Nat.le_refl M_)) (by exact hAM_)) (fun u_ Sx66_ px69_ => ?_)
    obtain ⟨rfl, hIx67_, hFx68_, px69_⟩ := px69_
    have hFx70_ : ai_fr (sx_W vw_334) S0_ Sx66_ := ai_fr_tr hFx65_ (fr_le hFx68_ rfl)
    have t6_ := rtab_fr t1_ hFx68_ rfl rfl rfl rfl rfl
    have re6_ : ∀ m_, m_ ≤ M_ → re1 b_ n_ T_ A_ m_ Sx66_ := fun m_ hm_ => re1_fr (re1x m_ hm_) hFx68_ rfl rfl rfl rfl rfl rfl
    have rs6_ : ∀ m_, m_ ≤ M_ → rs1 A_ m_ Sx66_ := fun m_ hm_ => rs1_fr (rs1x m_ hm_) hFx68_ rfl rfl rfl rfl
    have mo6_ := (hFx68_.1 13 0 27 rfl).trans mo1_
    have md6_ := (hFx68_.1 13 0 28 rfl).trans md1_
    have g6_ : rg b_ n_ T_ (pb (z_nw b_ n_ A_ M_ p_) fun a_ => .inr a_.2) Sx66_ := rg_pb (z_ := p_ad b_ n_ p_) (ps_ := fun a_ => a_) (g_ := p_nw b_ n_ A_ M_) (by rw [pb_id]; exact px69_.1) (fun a_ _ => by rw [pb_as]; exact pb_id.symm)
    have tk6_ : ∀ a_, z_nw b_ n_ A_ M_ p_ = .inr a_ → rtk b_ n_ T_ (Sx66_.1 13 0 25) a_.1 := fun a_ ha_ => by obtain ⟨q_, h1_, h2_⟩ := pb_inr ha_; obtain ⟨r_, h3_, h4_⟩ := pb_inr h2_; cases h4_; exact px69_.2 q_ r_ h1_ h3_
    refine sm_T_go 1 (c1 := (18, [some (.inr (.inr (some (13, 0)))), some (.inl m_)], [.inr (.inr (some (13, 0)))], Sx66_)) rfl ?_
    refine sm_T_cal (d1 := 3) (Q1 := vq_307 b_ n_ T_ (pb (z_nw b_ n_ A_ M_ p_) fun a_ => .inr a_.2) Sx66_) rfl rfl (by decide) (vc_307 b_ n_ T_ (pb (z_nw b_ n_ A_ M_ p_) fun a_ => .inr a_.2) Sx66_ hIx67_ (by exact t6_) (by exact g6_)) (fun u_ Sx71_ px74_ => ?_)
    obtain ⟨rfl, hIx72_, hFx73_, px74_⟩ := px74_
    have hFx75_ : ai_fr (sx_W vw_334) S0_ Sx71_ := ai_fr_tr hFx70_ (fr_le hFx73_ rfl)
    have t10_ := rtab_fr t6_ hFx73_ rfl rfl rfl rfl rfl
    have re10_ : ∀ m_, m_ ≤ M_ → re1 b_ n_ T_ A_ m_ Sx71_ := fun m_ hm_ => re1_fr (re6_ m_ hm_) hFx73_ rfl rfl rfl rfl rfl rfl
    have rs10_ : ∀ m_, m_ ≤ M_ → rs1 A_ m_ Sx71_ := fun m_ hm_ => rs1_fr (rs6_ m_ hm_) hFx73_ rfl rfl rfl rfl
    have mo10_ := (hFx73_.1 13 0 27 rfl).trans mo6_
    have md10_ := (hFx73_.1 13 0 28 rfl).trans md6_
    have g10_ : rg b_ n_ T_ (pb (z_wi b_ n_ A_ M_ p_) fun a_ => .inr a_.2.1) Sx71_ := rg_pb px74_.1 (fun a_ _ => by unfold p_w1; rw [pb_as]; rfl)
    have tk10_ : ∀ a_, z_wi b_ n_ A_ M_ p_ = .inr a_ → rtk b_ n_ T_ (Sx71_.1 13 0 25) a_.1 := fun a_ ha_ => by rw [hFx73_.1 13 0 25 rfl]; obtain ⟨q_, h1_, h2_⟩ := pb_inr ha_; obtain ⟨r_, h3_, h4_⟩ := pb_inr h2_; cases h4_; exact tk6_ q_ h1_
    have wd10_ : ∀ a_, z_wi b_ n_ A_ M_ p_ = .inr a_ → Sx71_.1 13 0 26 = a_.2.2 := fun a_ ha_ => by obtain ⟨q_, h1_, h2_⟩ := pb_inr ha_; obtain ⟨r_, h3_, h4_⟩ := pb_inr h2_; cases h4_; exact px74_.2 q_.2 r_ (by rw [h1_]; rfl) h3_
    have pl10_ : ∀ a_, z_wi b_ n_ A_ M_ p_ = .inr a_ → Sx71_.2.2.1 120 0 (Sx71_.1 13 0 9).toNat = (a_.2.1 : Int) := fun a_ ha_ => (rg_le t10_ (rg_at g10_ ha_)).2.2
    refine sm_T_go 2 (c1 := (24, [some (.inr (.inr (some (13, 0)))), some (.inl m_)], [.inl 59, .inr (.inr (some (13, 0)))], Sx71_)) rfl ?_
    refine sm_T_cal (d1 := 3) (Q1 := vq_300 59 b_ n_ T_ (pb (z_wi b_ n_ A_ M_ p_) fun a_ => .inr a_.2.1) Sx71_) rfl rfl (by decide) (vc_300 59 b_ n_ T_ (pb (z_wi b_ n_ A_ M_ p_) fun a_ => .inr a_.2.1) Sx71_ hIx72_ (by exact t10_) (by exact g10_) (by decide)) (fun u_ Sx76_ px79_ => ?_)
    obtain ⟨rfl, hIx77_, hFx78_, px79_⟩ := px79_
    have hFx80_ : ai_fr (sx_W vw_334) S0_ Sx76_ := ai_fr_tr hFx75_ (fr_le hFx78_ rfl)
    have t24_ := rtab_fr t10_ hFx78_ rfl rfl rfl rfl rfl
    have re24_ : ∀ m_, m_ ≤ M_ → re1 b_ n_ T_ A_ m_ Sx76_ := fun m_ hm_ => re1_fr (re10_ m_ hm_) hFx78_ rfl rfl rfl rfl rfl rfl
    have rs24_ : ∀ m_, m_ ≤ M_ → rs1 A_ m_ Sx76_ := fun m_ hm_ => rs1_fr (rs10_ m_ hm_) hFx78_ rfl rfl rfl rfl
    have mo24_ := (hFx78_.1 13 0 27 rfl).trans mo10_
    have md24_ := (hFx78_.1 13 0 28 rfl).trans md10_
    have g24_ : rg b_ n_ T_ (pb (pb (z_wi b_ n_ A_ M_ p_) (z_is b_ n_)) fun a_ => .inr a_.2) Sx76_ := rg_pb px79_ (fun a_ _ => by unfold z_is; rw [pb_as]; exact pb_id.symm)
    have tk24_ : ∀ a_, z_wi b_ n_ A_ M_ p_ = .inr a_ → rtk b_ n_ T_ (Sx76_.1 13 0 25) a_.1 := fun a_ ha_ => by rw [hFx78_.1 13 0 25 rfl]; exact tk10_ a_ ha_
    have wd24_ : ∀ a_, z_wi b_ n_ A_ M_ p_ = .inr a_ → Sx76_.1 13 0 26 = a_.2.2 := fun a_ ha_ => (hFx78_.1 13 0 26 rfl).trans (wd10_ a_ ha_)
    refine sm_T_go 4 (c1 := (31, [some (.inr (.inr (some (13, 0)))), some (.inl m_)], [.inl 0, .inl 1, .inl m_, .inr (.inr (some (13, 0)))], Sx76_)) rfl ?_
    refine sm_T_cal (d1 := 1) (Q1 := vq_308 m_ 1 0 b_ n_ T_ (pb (pb (z_wi b_ n_ A_ M_ p_) (z_is b_ n_)) fun a_ => .inr a_.2) A_ M_ 0 Sx76_) rfl rfl (by decide) (vc_308 m_ 1 0 b_ n_ T_ (pb (pb (z_wi b_ n_ A_ M_ p_) (z_is b_ n_)) fun a_ => .inr a_.2) A_ M_ 0 Sx76_ hIx77_ (by exact hIx77_) (by exact g24_) (by exact hmm_) (by exact ⟨rfl, by decide, by decide, by decide⟩) (by (intro p9_ hp9_; obtain ⟨a_, h1_, h2_⟩ := pb_inr hp9_; obtain ⟨a2_, h3_, h4_⟩ := pb_inr h1_; have k1_ := z_wi_ok le0_.1 (by omega) h3_; have k2_ := wd24_ a2_ h3_; have k3_ := k1_.2.1; have k4_ := k1_.2.2.2.2.2; exact ⟨hA_, re24_, rs24_, by omega, by omega, by decide, fun z_ => absurd z_ (by decide)⟩))) (fun u_ Sx81_ px84_ => ?_)
    obtain ⟨rfl, hIx82_, hFx83_, px84_⟩ := px84_
    have hFx85_ : ai_fr (sx_W vw_334) S0_ Sx81_ := ai_fr_tr hFx80_ (fr_le hFx83_ rfl)
    have e31_ := px84_
    have e9_ : rm b_ n_ T_ M_ (p_i2 b_ n_ A_ N_ M_ c_ p_) Sx81_ := by rw [i2_1 kd_]; refine ⟨?_, fun r_ hr_ => ?_⟩; (rw [in_eq, pb_as]; exact e31_.1); (have k_ := in_ok hA_ le0_.1 (by omega) hc_ hr_; rw [in_eq] at hr_; obtain ⟨a_, h1_, h2_⟩ := pb_inr hr_; cases h2_; obtain ⟨a2_, h3_, h4_⟩ := pb_inr h1_; have k5_ := tk24_ a2_ h3_; have k6_ := wd24_ a2_ h3_; unfold z_is at h4_; obtain ⟨y_, h8_, h9_⟩ := pb_inr h4_; cases h9_; have e_ := e31_.2 y_ a2_.1 (by rw [h1_]; rfl) k5_; rw [k6_] at e_; exact ⟨k_.1, e_.1, e_.2, k_.2.1⟩)
    refine sm_T_go 1 (c1 := (109, [some (.inr (.inr (some (13, 0)))), some (.inl m_)], [], Sx81_)) rfl ?_
    refine sm_T_rv rfl ⟨_, _, rfl, rfl, hIx82_, hFx85_, ?_⟩
    exact e9_
end
