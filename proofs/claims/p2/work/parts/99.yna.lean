/-! the reference: what registers become; written by wip/p55/gen/vg -/

/-! what a_ register becomes -/
def a_d2 (A_ : pA) (K_ : Nat) : pA := if A_.2.2.1 K_ = 3 then a_dr A_ K_ else A_
theorem a_d2_ok {b_ : Nat → Int} {n_ M_ K_ : Nat} {A_ : pA} (h_ : a_ok b_ n_ A_ M_) : a_ok b_ n_ (a_d2 A_ K_) M_ := by
  unfold a_d2
  split
  · rename_i g_
    exact a_dr_ok h_ g_
  · exact h_
theorem d2_1 {A_ : pA} {K_ : Nat} : (a_d2 A_ K_).1 = A_.1 ∧ (a_d2 A_ K_).2.1 = A_.2.1 ∧ (a_d2 A_ K_).2.2.2.1 = A_.2.2.2.1 ∧ (a_d2 A_ K_).2.2.2.2 = A_.2.2.2.2 := by
  unfold a_d2
  split <;> exact ⟨rfl, rfl, rfl, rfl⟩
theorem d2_s {A_ : pA} {K_ : Nat} (i_ : Nat) : (a_d2 A_ K_).2.2.1 i_ = if A_.2.2.1 K_ = 3 ∧ i_ = K_ then 4 else A_.2.2.1 i_ := by
  unfold a_d2
  by_cases g_ : A_.2.2.1 K_ = 3
  · rw [if_pos g_]
    show (if i_ = K_ then 4 else A_.2.2.1 i_) = _
    by_cases g2_ : i_ = K_
    · rw [if_pos g2_, if_pos ⟨g_, g2_⟩]
    · rw [if_neg g2_, if_neg (fun z_ => g2_ z_.2)]
  · rw [if_neg g_, if_neg (fun z_ => g_ z_.1)]
theorem d2_e {A_ : pA} {K_ i_ : Nat} {v_ : Int} (h3_ : v_ ≠ 3) (h4_ : v_ ≠ 4) : ((a_d2 A_ K_).2.2.1 i_ = v_) = (A_.2.2.1 i_ = v_) := by
  rw [d2_s]
  by_cases g_ : A_.2.2.1 K_ = 3 ∧ i_ = K_
  · rw [if_pos g_, g_.2, g_.1]
    exact propext ⟨fun z_ => absurd z_.symm h4_, fun z_ => absurd z_.symm h3_⟩
  · rw [if_neg g_]
theorem d2_fn {b_ : Nat → Int} {n_ m_ p_ K_ : Nat} {A_ : pA} : p_fn b_ n_ (a_d2 A_ K_) m_ p_ = p_fn b_ n_ A_ m_ p_ := by
  unfold p_fn
  rw [d2_1.1, d2_1.2.1]
theorem d2_pa {b_ : Nat → Int} {n_ d_ p_ K_ : Nat} {A_ : pA} {s_ : Int} : p_pa b_ n_ (a_d2 A_ K_) s_ d_ p_ = p_pa b_ n_ A_ s_ d_ p_ := by
  unfold p_pa
  simp only [d2_fn, d2_1.2.2.1, ne_eq, d2_e (show (1 : Int) ≠ 3 by decide) (show (1 : Int) ≠ 4 by decide)]
theorem d2_na {b_ : Nat → Int} {n_ M_ p_ K_ : Nat} {A_ : pA} : p_na b_ n_ (a_d2 A_ K_) M_ p_ = p_na b_ n_ A_ M_ p_ := by
  unfold p_na
  simp only [d2_fn, d2_pa, d2_1.2.2.1, d2_1.2.2.2, ne_eq, d2_e (show (5 : Int) ≠ 3 by decide) (show (5 : Int) ≠ 4 by decide)]
theorem d2_xd {b_ : Nat → Int} {n_ M_ p_ K_ : Nat} {A_ : pA} {c_ : List Int} : p_xd b_ n_ (a_d2 A_ K_) M_ c_ p_ = p_xd b_ n_ A_ M_ c_ p_ := by
  unfold p_xd
  have e_ : p_pd b_ n_ (a_d2 A_ K_) M_ = p_pd b_ n_ A_ M_ := by
    funext q_
    unfold p_pd
    simp only [d2_na]
  rw [e_]
theorem d2_rs {A_ : pA} {K_ m_ : Nat} {S_ : sm_S} (h_ : rs1 A_ m_ S_) : rs1 (a_d2 A_ K_) m_ S_ := by
  unfold rs1 at h_ ⊢
  rw [d2_1.1]
  have e1_ : ∀ v_ : Int, v_ ≠ 3 → v_ ≠ 4 → t_in (a_d2 A_ K_) v_ m_ = t_in A_ v_ m_ := by
    intro v_ h3_ h4_
    funext s_
    unfold t_in
    simp only [d2_1.2.2.1, d2_e h3_ h4_]
  have e2_ : ∀ f_, t_rg f_ (a_d2 A_ K_) m_ = t_rg f_ A_ m_ := by
    intro f_
    funext s_
    unfold t_rg
    have z_ : ((a_d2 A_ K_).2.2.1 (40 * m_ + s_) = 3 ∨ (a_d2 A_ K_).2.2.1 (40 * m_ + s_) = 4) = (A_.2.2.1 (40 * m_ + s_) = 3 ∨ A_.2.2.1 (40 * m_ + s_) = 4) := by
      rw [d2_s]
      by_cases g_ : A_.2.2.1 K_ = 3 ∧ 40 * m_ + s_ = K_
      · rw [if_pos g_, g_.2, g_.1]
        exact propext ⟨fun _ => Or.inl rfl, fun _ => Or.inr rfl⟩
      · rw [if_neg g_]
    simp only [z_, d2_1.2.2.1, d2_1.2.2.2, d2_e (show (5 : Int) ≠ 3 by decide) (show (5 : Int) ≠ 4 by decide)]
  have e3_ : ∀ f_, t_is f_ (a_d2 A_ K_) m_ = t_is f_ A_ m_ := by
    intro f_
    funext s_
    unfold t_is
    simp only [d2_1.2.2.2, d2_e (show (5 : Int) ≠ 3 by decide) (show (5 : Int) ≠ 4 by decide)]
  rw [e1_ 0 (by decide) (by decide), e1_ 1 (by decide) (by decide), e2_, e3_]
  exact h_
theorem d2_re {b_ : Nat → Int} {n_ T_ m_ K_ k_ : Nat} {A_ : pA} {S_ : sm_S} (h_ : re1 b_ n_ T_ A_ m_ S_) (h3_ : A_.2.2.1 K_ = 3) (hk_ : k_ = K_) : re1 b_ n_ T_ (a_d2 A_ K_) m_ (sm_aI S_ 131 0 k_ 1) := by
  subst hk_
  unfold re1 at h_ ⊢
  rw [d2_1.1, d2_1.2.1, d2_1.2.2.1, d2_1.2.2.2]
  refine ⟨(rd_ne (by decide)).trans h_.1, fun s_ hs_ => ?_⟩
  obtain ⟨q1_, q2_, q3_, q4_, q5_⟩ := h_.2 s_ hs_
  rw [rd_ne (by decide), rd_ne (by decide), rd_ne (by decide), rd_ne (by decide), rd_eq, d2_s]
  refine ⟨q1_, ?_, q3_, q4_, ?_⟩
  · rw [q2_]
    by_cases g_ : A_.2.2.1 k_ = 3 ∧ 40 * m_ + s_ = k_
    · rw [if_pos g_, g_.2, g_.1]
      rfl
    · rw [if_neg g_]
  · by_cases g_ : 40 * m_ + s_ = k_
    · have e_ : (if A_.2.2.1 k_ = 3 ∧ 40 * m_ + s_ = k_ then (4 : Int) else A_.2.2.1 (40 * m_ + s_)) = 4 := if_pos ⟨h3_, g_⟩
      rw [e_, if_pos g_, if_pos rfl]
    · have e_ : (if A_.2.2.1 k_ = 3 ∧ 40 * m_ + s_ = k_ then (4 : Int) else A_.2.2.1 (40 * m_ + s_)) = A_.2.2.1 (40 * m_ + s_) := if_neg (fun z_ => g_ z_.2)
      rw [e_, if_neg g_]
      exact q5_
abbrev c_ne (b_ : Nat → Int) (n_ : Nat) (A_ : pA) (M_ p_ : Nat) : Prop := p_fn b_ n_ A_ M_ p_ = -1 ∨ A_.2.2.1 (40 * M_ + (p_fn b_ n_ A_ M_ p_).toNat) ≠ 3
def z_n2 (b_ : Nat → Int) (n_ : Nat) (A_ : pA) (M_ p_ : Nat) : pE Nat := pb (p_du b_ n_ 1 p_) fun p_ => if c_ne b_ n_ A_ M_ p_ then .inl (11, p_) else .inr p_
def z_n4 (b_ : Nat → Int) (n_ : Nat) (A_ : pA) (M_ p_ : Nat) : pE (Nat × Nat) := pb (pb (z_n2 b_ n_ A_ M_ p_) (p_ad b_ n_)) fun q_ => pb (p_nd b_ n_ 256 q_) fun r_ => .inr (q_, r_)
def z_ne (b_ : Nat → Int) (n_ : Nat) (A_ : pA) (M_ : Nat) (c_ : List Int) (p_ : Nat) : pE (Nat × pR) := pb (z_n4 b_ n_ A_ M_ p_) fun a_ => pb (p_xd b_ n_ A_ M_ c_ a_.2) fun x_ => .inr (a_.1, x_)
def z_nc (w_ : Int) (a_ : Nat × pR) : pE (Nat × pR) := if h_tp a_.2.2.1 = w_ then .inr a_ else .inl (13, a_.1)
def z_ns (b_ : Nat → Int) (n_ : Nat) (a_ : Nat × pR) : pE ((Nat × pR) × Nat) := pb (p_nd b_ n_ 59 a_.2.1) fun y_ => .inr (a_, y_)
def k_nx (b_ : Nat → Int) (n_ : Nat) (A_ : pA) (M_ p_ : Nat) : Nat := 40 * M_ + (p_fn b_ n_ A_ M_ p_).toNat
def k_ne (b_ : Nat → Int) (n_ : Nat) (A_ : pA) (M_ p_ : Nat) (a_ : (Nat × pR) × Nat) : pT := (a_dr A_ (k_nx b_ n_ A_ M_ p_), cw 14 (p_fn b_ n_ A_ M_ p_) 0 :: a_.1.2.2.2, a_.2)
theorem n2_p {b_ : Nat → Int} {n_ M_ p_ q_ : Nat} {A_ : pA} (h_ : z_n2 b_ n_ A_ M_ p_ = .inr q_) : q_ = p_ ∧ lx_kd b_ n_ p_ = 1 ∧ ¬ c_ne b_ n_ A_ M_ p_ := by
  obtain ⟨r_, h1_, h2_⟩ := pb_inr h_
  unfold p_du at h1_
  split at h1_
  · rename_i g_
    cases h1_
    split at h2_
    · cases h2_
    · rename_i g2_
      cases h2_
      exact ⟨rfl, g_, g2_⟩
  · cases h1_
theorem ne_eq2 {b_ : Nat → Int} {n_ M_ p_ : Nat} {A_ : pA} {c_ : List Int} : (if lx_kd b_ n_ p_ = 1 then p_ne b_ n_ A_ M_ c_ p_ else .inl (2, p_)) = pb (pb (pb (z_ne b_ n_ A_ M_ c_ p_) (z_nc (A_.2.2.2.1 (k_nx b_ n_ A_ M_ p_)))) (z_ns b_ n_)) fun a_ => .inr (k_ne b_ n_ A_ M_ p_ a_) := by
  unfold z_ne z_n4 z_n2 p_du
  by_cases g_ : lx_kd b_ n_ p_ = 1
  · rw [if_pos g_, if_pos g_]
    simp only [pb_ir]
    unfold p_ne
    by_cases g2_ : c_ne b_ n_ A_ M_ p_
    · rw [if_pos g2_, if_pos g2_]
      rfl
    · rw [if_neg g2_, if_neg g2_]
      simp only [pb_ir, pb_as]
      refine congrArg (pb _) (funext fun q_ => congrArg (pb _) (funext fun r_ => congrArg (pb _) (funext fun x_ => ?_)))
      show _ = pb (z_nc (A_.2.2.2.1 (k_nx b_ n_ A_ M_ p_)) (q_, x_)) _
      unfold z_nc
      by_cases g3_ : h_tp x_.2.1 = A_.2.2.2.1 (40 * M_ + (p_fn b_ n_ A_ M_ p_).toNat)
      · rw [if_pos g3_, if_pos (show h_tp (q_, x_).2.2.1 = A_.2.2.2.1 (k_nx b_ n_ A_ M_ p_) from g3_)]
        show _ = pb (z_ns b_ n_ (q_, x_)) _
        unfold z_ns
        rw [pb_as]
        rfl
      · rw [if_neg g3_, if_neg (show ¬ h_tp (q_, x_).2.2.1 = A_.2.2.2.1 (k_nx b_ n_ A_ M_ p_) from g3_)]
        rfl
  · rw [if_neg g_, if_neg g_]
    rfl
theorem ne_ok {b_ : Nat → Int} {n_ M_ p_ : Nat} {A_ : pA} {c_ : List Int} {r_ : pT} (hn_ : n_ ≤ 1280) (hA_ : a_ok b_ n_ A_ M_) (hp_ : p_ ≤ n_) (hc_ : c_.length ≤ 3 * p_) (h_ : (if lx_kd b_ n_ p_ = 1 then p_ne b_ n_ A_ M_ c_ p_ else .inl (2, p_)) = .inr r_) : a_ok b_ n_ r_.1 M_ ∧ r_.2.1.length ≤ 3 * r_.2.2 ∧ p_ < r_.2.2 ∧ r_.1 = a_d2 A_ (k_nx b_ n_ A_ M_ p_) := by
  rw [ne_eq2] at h_
  obtain ⟨a_, h1_, h_⟩ := pb_inr h_
  cases h_
  obtain ⟨a1_, h2_, h1_⟩ := pb_inr h1_
  obtain ⟨a0_, h3_, h2_⟩ := pb_inr h2_
  obtain ⟨a2_, h4_, h3_⟩ := pb_inr h3_
  obtain ⟨x_, h6_, h3_⟩ := pb_inr h3_
  cases h3_
  obtain ⟨q_, h4b, h5_⟩ := pb_inr h4_
  obtain ⟨r_, h7_, h5_⟩ := pb_inr h5_
  cases h5_
  obtain ⟨p1_, h8_, h4c⟩ := pb_inr h4b
  obtain ⟨e1_, e2_, e3_⟩ := n2_p h8_
  subst e1_
  have k1_ := p_ad_ok hp_ (by omega) h4c
  have k2_ := nd_ok k1_.2.2.1 (by decide) h7_
  have k3_ := xd_ok hn_ hA_ k2_.2.1 k2_.2.2.1 (by have := k2_.1; have := k1_.2.1; show c_.length ≤ 3 * r_; omega) h6_
  have g3_ : A_.2.2.1 (k_nx b_ n_ A_ M_ p1_) = 3 := Decidable.byContradiction fun z_ => e3_ (Or.inr z_)
  unfold z_nc at h2_
  split at h2_
  · cases h2_
    obtain ⟨y_, h9_, h1_⟩ := pb_inr h1_
    cases h1_
    have k4_ := nd_ok k3_.2.1 (by decide) h9_
    have k5_ : x_.1 < y_ := k4_.1
    have k6_ := k3_.2.2.2.2.2
    have k7_ := k3_.1
    have k8_ := k2_.1
    have k9_ := k1_.2.1
    have k7_ : r_ < x_.1 := k7_
    exact ⟨a_dr_ok hA_ g3_, by show x_.2.2.length + 1 ≤ 3 * y_; omega, by show p1_ < y_; omega, by unfold a_d2; rw [if_pos g3_]; rfl⟩
  · cases h2_
/-! M_.tellNext -/
def vw_337 : sx_Wl := ([(13, 9), (13, 10), (13, 11), (13, 32), (13, 33), (13, 34)], [131, 136, 137, 138, 139], [])
def vq_337 (m_ : Int) (b_ : Nat → Int) (n_ : Nat) (T_ : Nat) (A_ : pA) (M_ : Nat) (c_ : List Int) (p_ : Nat) (S0_ : sm_S) (u_ : Option sm_V) (S1_ : sm_S) : Prop := u_ = none ∧ gi S1_ ∧ ai_fr (sx_W vw_337) S0_ S1_ ∧ (rm b_ n_ T_ M_ (if lx_kd b_ n_ p_ = 1 then p_ne b_ n_ A_ M_ c_ p_ else .inl (2, p_)) S1_)
set_option maxHeartbeats 1500000 in
theorem vl_337 {sc_ : Nat × (Nat → Int)} (m_ : Int) (b_ : Nat → Int) (n_ : Nat) (T_ : Nat) (A_ : pA) (M_ : Nat) (c_ : List Int) (p_ : Nat) (S0_ : sm_S) (ht_ : rtab b_ n_ T_ S0_) (hx_ : rg b_ n_ T_ (.inr p_) S0_) (hmo_ : (S0_.1 13 0 27) = 0) (hmm_ : m_ = (M_ : Int) ∧ M_ ≤ 15) (hmd_ : (S0_.1 13 0 28) = (M_ : Int)) (hA_ : a_ok b_ n_ A_ M_) (hre_ : ∀ m_, m_ ≤ M_ → re1 b_ n_ T_ A_ m_ S0_) (hrs_ : ∀ m_, m_ ≤ M_ → rs1 A_ m_ S0_) (hc_ : c_.length ≤ 3 * p_) : ∀ nn_ : Nat, (∀ (k_ : Int) (S_ : sm_S), gi S_ → ai_fr (sx_W vw_337) S0_ S_ → ((rg b_ n_ T_ (z_n2 b_ n_ A_ M_ p_) S_) ∧ (∀ q_, (z_n2 b_ n_ A_ M_ p_) = .inr q_ → k_ = p_fn b_ n_ A_ M_ p_ ∧ 0 ≤ k_ ∧ k_ < (A_.1 M_ : Int) ∧ A_.2.2.1 (k_nx b_ n_ A_ M_ p_) = 3) ∧ (∀ m_, m_ ≤ M_ → re1 b_ n_ T_ A_ m_ S_) ∧ (∀ m_, m_ ≤ M_ → rs1 A_ m_ S_) ∧ True) → ((6 : Nat)) < nn_ → sm_T (mt_P sc_) 8 337 (72, [some (.inr (.inr (some (13, 0)))), some (.inl m_), none, some (.inl k_), none], [], S_) (fun r_ => ∃ u_ S1_, r_ = (.inl u_, S1_, 0) ∧ vq_337 m_ b_ n_ T_ A_ M_ c_ p_ S0_ u_ S1_)) ∧ (∀ (k_ : Int) (t4_ : Int) (S_ : sm_S), gi S_ → ai_fr (sx_W vw_337) S0_ S_ → ((rg b_ n_ T_ (pb (z_n4 b_ n_ A_ M_ p_) fun a_ => .inr a_.2) S_) ∧ (∀ a_, (z_n4 b_ n_ A_ M_ p_) = .inr a_ → k_ = p_fn b_ n_ A_ M_ p_ ∧ 0 ≤ k_ ∧ k_ < (A_.1 M_ : Int) ∧ A_.2.2.1 (k_nx b_ n_ A_ M_ p_) = 3) ∧ (∀ a_, (z_n4 b_ n_ A_ M_ p_) = .inr a_ → ∀ m_, m_ ≤ M_ → re1 b_ n_ T_ (a_d2 A_ (k_nx b_ n_ A_ M_ p_)) m_ S_) ∧ (∀ m_, m_ ≤ M_ → rs1 (a_d2 A_ (k_nx b_ n_ A_ M_ p_)) m_ S_) ∧ (∀ a_, (z_n4 b_ n_ A_ M_ p_) = .inr a_ → (S_.2.2.1 120 0 (t4_.toNat)) = (a_.1 : Int)) ∧ (0 ≤ t4_ ∧ t4_ ≤ 1280) ∧ True) → ((4 : Nat)) < nn_ → sm_T (mt_P sc_) 8 337 (108, [some (.inr (.inr (some (13, 0)))), some (.inl m_), none, some (.inl k_), some (.inl t4_)], [], S_) (fun r_ => ∃ u_ S1_, r_ = (.inl u_, S1_, 0) ∧ vq_337 m_ b_ n_ T_ A_ M_ c_ p_ S0_ u_ S1_)) ∧ (∀  (S_ : sm_S), gi S_ → ai_fr (sx_W vw_337) S0_ S_ → ((rg b_ n_ T_ (pb (pb (z_ne b_ n_ A_ M_ c_ p_) (z_nc (A_.2.2.2.1 (k_nx b_ n_ A_ M_ p_)))) fun a_ => .inr a_.2.1) S_) ∧ (∀ a_, (z_n4 b_ n_ A_ M_ p_) = .inr a_ → ∀ m_, m_ ≤ M_ → re1 b_ n_ T_ (a_d2 A_ (k_nx b_ n_ A_ M_ p_)) m_ S_) ∧ (∀ m_, m_ ≤ M_ → rs1 (a_d2 A_ (k_nx b_ n_ A_ M_ p_)) m_ S_) ∧ True) → ((2 : Nat)) < nn_ → sm_T (mt_P sc_) 8 337 (147, [some (.inr (.inr (some (13, 0)))), none, none, none, none], [], S_) (fun r_ => ∃ u_ S1_, r_ = (.inl u_, S1_, 0) ∧ vq_337 m_ b_ n_ T_ A_ M_ c_ p_ S0_ u_ S1_)) := by
  intro nn_
  induction nn_ with
  | zero => exact ⟨fun _ _ _ _ _ h_ => absurd h_ (Nat.not_lt_zero _), fun _ _ _ _ _ _ h_ => absurd h_ (Nat.not_lt_zero _), fun  _ _ _ _ h_ => absurd h_ (Nat.not_lt_zero _)⟩
  | succ nn_ ih_ =>
    refine ⟨?_, ?_, ?_⟩
    · rintro k_ S_ hI_ hF_ ⟨g72_, k72_, re72_, rs72_, -⟩ hm_
      have le0_ := rg_le ht_ hx_
      have hn1_ := ht_.1
      have hAM_ := (hA_.2 M_ (Nat.le_refl M_)).1
      have t72_ := rtab_fr ht_ hF_ rfl rfl rfl rfl rfl
      refine sm_T_go 1 (c1 := (73, [some (.inr (.inr (some (13, 0)))), some (.inl m_), none, some (.inl k_), none], [.inr (.inr (some (13, 0)))], S_)) rfl ?_
      refine sm_T_cal (d1 := 2) (Q1 := vq_297 b_ n_ T_ (z_n2 b_ n_ A_ M_ p_) S_) rfl rfl (by decide) (vc_297 b_ n_ T_ (z_n2 b_ n_ A_ M_ p_) S_ hI_ (by exact t72_) (by exact g72_) (by (intro q_ e_; have z_ := n2_p e_; rw [z_.1, z_.2.1]; decide))) (fun u_ Sx1_ px4_ => ?_)
      obtain ⟨rfl, hIx2_, hFx3_, px4_⟩ := px4_
      have hFx5_ : ai_fr (sx_W vw_337) S0_ Sx1_ := ai_fr_tr hF_ (fr_le hFx3_ rfl)
      have t73_ := rtab_fr t72_ hFx3_ rfl rfl rfl rfl rfl
      have g73_ : rg b_ n_ T_ (pb (z_n2 b_ n_ A_ M_ p_) (p_ad b_ n_)) Sx1_ := px4_.1
      have re73_ : ∀ m_, m_ ≤ M_ → re1 b_ n_ T_ A_ m_ Sx1_ := fun m_ hm_ => re1_fr (re72_ m_ hm_) hFx3_ rfl rfl rfl rfl rfl rfl
      have rs73_ : ∀ m_, m_ ≤ M_ → rs1 A_ m_ Sx1_ := fun m_ hm_ => rs1_fr (rs72_ m_ hm_) hFx3_ rfl rfl rfl rfl
      have pl73_ : ∀ q_, pb (z_n2 b_ n_ A_ M_ p_) (p_ad b_ n_) = .inr q_ → Sx1_.2.2.1 120 0 (Sx1_.1 13 0 9).toNat = (q_ : Int) := fun q_ hq_ => (rg_le t73_ (by rw [hq_] at g73_; exact g73_)).2.2
      have bx6_ : 0 ≤ Sx1_.1 13 0 9 ∧ Sx1_.1 13 0 9 ≤ 1280 := hIx2_.1 13 0 9 rfl
      refine sm_T_go 5 (c1 := (86, [some (.inr (.inr (some (13, 0)))), some (.inl m_), none, some (.inl k_), some (.inl (Sx1_.1 13 0 9))], [.inl 256, .inr (.inr (some (13, 0)))], Sx1_)) rfl ?_
      refine sm_T_cal (d1 := 3) (Q1 := vq_300 256 b_ n_ T_ (pb (z_n2 b_ n_ A_ M_ p_) (p_ad b_ n_)) Sx1_) rfl rfl (by decide) (vc_300 256 b_ n_ T_ (pb (z_n2 b_ n_ A_ M_ p_) (p_ad b_ n_)) Sx1_ hIx2_ (by exact t73_) (by exact g73_) (by decide)) (fun u_ Sx7_ px10_ => ?_)
      obtain ⟨rfl, hIx8_, hFx9_, px10_⟩ := px10_
      have hFx11_ : ai_fr (sx_W vw_337) S0_ Sx7_ := ai_fr_tr hFx5_ (fr_le hFx9_ rfl)
      have g86_ : rg b_ n_ T_ (pb (z_n4 b_ n_ A_ M_ p_) fun a_ => .inr a_.2) Sx7_ := rg_pb (z_ := pb (z_n2 b_ n_ A_ M_ p_) (p_ad b_ n_)) (ps_ := fun a_ => a_) (g_ := p_nd b_ n_ 256) (by rw [pb_id]; exact px10_) (fun a_ _ => by rw [pb_as]; exact pb_id.symm)
      have re86_ : ∀ m_, m_ ≤ M_ → re1 b_ n_ T_ A_ m_ Sx7_ := fun m_ hm_ => re1_fr (re73_ m_ hm_) hFx9_ rfl rfl rfl rfl rfl rfl
      have rs86_ : ∀ m_, m_ ≤ M_ → rs1 A_ m_ Sx7_ := fun m_ hm_ => rs1_fr (rs73_ m_ hm_) hFx9_ rfl rfl rfl rfl
      have F86_ := hFx9_
      have pl86_ : ∀ a_, (z_n4 b_ n_ A_ M_ p_) = .inr a_ → Sx7_.2.2.1 120 0 (Sx1_.1 13 0 9).toNat = (a_.1 : Int) := fun a_ ha_ => by rw [fr_arr hFx9_ rfl]; obtain ⟨q_, h1_, h2_⟩ := pb_inr ha_; obtain ⟨r_, h3_, h4_⟩ := pb_inr h2_; cases h4_; exact pl73_ q_ h1_
      have k86_ : ∀ a_, (z_n4 b_ n_ A_ M_ p_) = .inr a_ → k_ = p_fn b_ n_ A_ M_ p_ ∧ 0 ≤ k_ ∧ k_ < (A_.1 M_ : Int) ∧ A_.2.2.1 (k_nx b_ n_ A_ M_ p_) = 3 := fun a_ ha_ => by obtain ⟨q_, h1_, h2_⟩ := pb_inr ha_; obtain ⟨q2_, h3_, h4_⟩ := pb_inr h1_; exact k72_ q2_ h3_
      refine sm_T_go 1 (c1 := (90, [some (.inr (.inr (some (13, 0)))), some (.inl m_), none, some (.inl k_), some (.inl (Sx1_.1 13 0 9))], [.inr (.inr (some (13, 0)))], Sx7_)) rfl ?_
      refine sm_T_cal (d1 := 0) (Q1 := vq_292  Sx7_) rfl rfl (by decide) (vc_292  Sx7_ hIx8_ ) (fun u_ Sx12_ px15_ => ?_)
      obtain ⟨rfl, vx17_, rfl, px15_⟩ := px15_
      have e90_ := px15_
      refine sm_T_b0 (a := 0) (z := 15) rfl (fun cx18_ => ?_) (fun cx18_ => ?_)
      · have cx18_ : vx17_ = 0 := of_decide_eq_true cx18_
        have hz_ := wr_if e90_ (by omega)
        obtain ⟨e5_, he5_⟩ := rg_wr g86_ hz_
        refine sm_T_go 0 (c1 := (108, [some (.inr (.inr (some (13, 0)))), some (.inl m_), none, some (.inl k_), some (.inl (Sx1_.1 13 0 9))], [], Sx7_)) rfl ?_
        refine ih_.2.1 k_ (Sx1_.1 13 0 9) Sx7_ hIx8_ hFx11_ ⟨?_, ?_, ?_, ?_, ?_, ?_, trivial⟩ ?_
        · first | exact g86_ | exact rg_fr (w_ := ([], [131], [])) g86_ (ai_fr_aI rfl) rfl rfl rfl
        · exact k86_
        · first | (intro a_ ha_; rw [he5_] at ha_; cases ha_; done) | (intro a_ ha_ m1_ hm1_; exact d2_re (re86_ m1_ hm1_) k54_ (by unfold k_nx; omega))
        · first | (intro m1_ hm1_; exact d2_rs (rs86_ m1_ hm1_)) | (intro m1_ hm1_; exact d2_rs (rs1_fr (w_ := ([], [131], [])) (rs86_ m1_ hm1_) (ai_fr_aI rfl) rfl rfl rfl rfl))
        · first | exact pl86_ | (intro a_ ha_; exact (rd_ne (by decide)).trans (pl86_ a_ ha_))
        · omega
        · omega
      · have cx18_ : ¬ (vx17_ = 0) := of_decide_eq_false cx18_
        have hz_ := rt_if e90_ (by omega)
        obtain ⟨a5_, ha5_⟩ := rg_rt g86_ hz_
        obtain ⟨k51_, k52_, k53_, k54_⟩ := k86_ a5_ ha5_
        refine sm_T_go 4 (c1 := (103, [some (.inr (.inr (some (13, 0)))), some (.inl m_), none, some (.inl k_), some (.inl (Sx1_.1 13 0 9))], [.inl m_, .inl 40, .inr (.inr (some (131, 0)))], Sx7_)) rfl ?_
        refine sm_T_bin (w := 40 * m_) rfl (bi_mul (by omega) (by omega) (by omega)) ?_
        refine sm_T_go 1 (c1 := (105, [some (.inr (.inr (some (13, 0)))), some (.inl m_), none, some (.inl k_), some (.inl (Sx1_.1 13 0 9))], [.inl k_, .inl (40 * m_), .inr (.inr (some (131, 0)))], Sx7_)) rfl ?_
        refine sm_T_bin (w := 40 * m_ + k_) rfl (bi_add (by omega) (by omega) (by omega)) ?_
        refine sm_T_go 1 (c1 := (107, [some (.inr (.inr (some (13, 0)))), some (.inl m_), none, some (.inl k_), some (.inl (Sx1_.1 13 0 9))], [.inl 1, .inl (40 * m_ + k_), .inr (.inr (some (131, 0)))], Sx7_)) rfl ?_
        refine sm_T_zas1 (n := 640) rfl rfl (by omega) (by omega) (by omega) ?_
        have hIx19_ : gi (sm_aI Sx7_ 131 0 (40 * m_ + k_).toNat 1) := gi_aI hIx8_ (show 0 ≤ 1 ∧ 1 ≤ 1 from ⟨by omega, by omega⟩)
        have hFx20_ : ai_fr (sx_W vw_337) S0_ (sm_aI Sx7_ 131 0 (40 * m_ + k_).toNat 1) := ai_fr_tr hFx11_ (ai_fr_aI rfl)
        refine sm_T_go 0 (c1 := (108, [some (.inr (.inr (some (13, 0)))), some (.inl m_), none, some (.inl k_), some (.inl (Sx1_.1 13 0 9))], [], sm_aI Sx7_ 131 0 (40 * m_ + k_).toNat 1)) rfl ?_
        refine ih_.2.1 k_ (Sx1_.1 13 0 9) (sm_aI Sx7_ 131 0 (40 * m_ + k_).toNat 1) hIx19_ hFx20_ ⟨?_, ?_, ?_, ?_, ?_, ?_, trivial⟩ ?_
        · first | exact g86_ | exact rg_fr (w_ := ([], [131], [])) g86_ (ai_fr_aI rfl) rfl rfl rfl
        · exact k86_
        · first | (intro a_ ha_; rw [he5_] at ha_; cases ha_; done) | (intro a_ ha_ m1_ hm1_; exact d2_re (re86_ m1_ hm1_) k54_ (by unfold k_nx; omega))
        · first | (intro m1_ hm1_; exact d2_rs (rs86_ m1_ hm1_)) | (intro m1_ hm1_; exact d2_rs (rs1_fr (w_ := ([], [131], [])) (rs86_ m1_ hm1_) (ai_fr_aI rfl) rfl rfl rfl rfl))
        · first | exact pl86_ | (intro a_ ha_; exact (rd_ne (by decide)).trans (pl86_ a_ ha_))
        · omega
        · omega
    · rintro k_ t4_ S_ hI_ hF_ ⟨g108_, k108_, re108_, rs108_, pl108_, tb_, -⟩ hm_
      have le0_ := rg_le ht_ hx_
      have hn1_ := ht_.1
      have hAM_ := (hA_.2 M_ (Nat.le_refl M_)).1
      have t108_ := rtab_fr ht_ hF_ rfl rfl rfl rfl rfl
      have mo108_ := (hF_.1 13 0 27 rfl).trans hmo_
      have md108_ := (hF_.1 13 0 28 rfl).trans hmd_
      refine sm_T_go 1 (c1 := (109, [some (.inr (.inr (some (13, 0)))), some (.inl m_), none, some (.inl k_), some (.inl t4_)], [.inr (.inr (some (13, 0)))], S_)) rfl ?_
      refine sm_T_cal (d1 := 7) (Q1 := vq_321 b_ n_ T_ 0 (pb (z_n4 b_ n_ A_ M_ p_) fun a_ => .inr a_.2) c_ (a_d2 A_ (k_nx b_ n_ A_ M_ p_)) M_ 0 (fun _ => 0) S_) rfl rfl (by decide) (vc_321 b_ n_ T_ 0 (pb (z_n4 b_ n_ A_ M_ p_) fun a_ => .inr a_.2) c_ (a_d2 A_ (k_nx b_ n_ A_ M_ p_)) M_ 0 (fun _ => 0) S_ hI_ (by exact t108_) (by exact g108_) (by exact Or.inl rfl) (by exact mo108_) (by (intro q_ hq_; obtain ⟨a_, h1_, h2_⟩ := pb_inr hq_; cases h2_; have h0_ := h1_; obtain ⟨q1_, h3_, h4_⟩ := pb_inr h1_; obtain ⟨r_, h5_, h6_⟩ := pb_inr h4_; cases h6_; obtain ⟨p1_, h7_, h8_⟩ := pb_inr h3_; obtain ⟨e1_, e2_, e3_⟩ := n2_p h7_; subst e1_; have k1_ := p_ad_ok le0_.1 (by omega) h8_; have k2_ := nd_ok k1_.2.2.1 (by decide) h5_; have k3_ := k1_.2.1; have k4_ := k2_.1; exact ⟨by show c_.length ≤ 3 * r_; omega, en_0 (a_d2_ok hA_) md108_ (re108_ _ h0_)⟩)) (by exact pm_0 (a_d2_ok hA_))) (fun u_ Sx1_ px4_ => ?_)
      obtain ⟨rfl, hIx2_, hFx3_, px4_⟩ := px4_
      have hFx5_ : ai_fr (sx_W vw_337) S0_ Sx1_ := ai_fr_tr hF_ (fr_le hFx3_ rfl)
      have g109_ : rg b_ n_ T_ (pb (z_ne b_ n_ A_ M_ c_ p_) fun a_ => .inr a_.2.1) Sx1_ := by have z_ := px4_.1; simp only [pb_as, pb_ir, xd_0, d2_xd] at z_; unfold z_ne; simp only [pb_as, pb_ir]; exact z_
      have v109_ : ∀ a_, z_ne b_ n_ A_ M_ c_ p_ = .inr a_ → Sx1_.2.2.1 138 0 (0 : Int).toNat = h_tp a_.2.2.1 := fun a_ ha_ => by obtain ⟨a0_, h1_, h2_⟩ := pb_inr ha_; obtain ⟨r_, h5_, h6_⟩ := pb_inr h2_; cases h6_; have k_ := px4_.2 r_ (by rw [h1_]; simp only [pb_ir]; rw [xd_0, d2_xd]; exact h5_); exact vs_1 k_.1 k_.2
      have z4_ : ∀ a_, z_ne b_ n_ A_ M_ c_ p_ = .inr a_ → ∃ r_, (z_n4 b_ n_ A_ M_ p_) = .inr (a_.1, r_) := fun a_ ha_ => by obtain ⟨a0_, h1_, h2_⟩ := pb_inr ha_; obtain ⟨r_, h5_, h6_⟩ := pb_inr h2_; cases h6_; exact ⟨a0_.2, h1_⟩
      have re109_ : ∀ a_, (z_n4 b_ n_ A_ M_ p_) = .inr a_ → ∀ m_, m_ ≤ M_ → re1 b_ n_ T_ (a_d2 A_ (k_nx b_ n_ A_ M_ p_)) m_ Sx1_ := fun a_ ha_ m_ hm_ => re1_fr (re108_ a_ ha_ m_ hm_) hFx3_ rfl rfl rfl rfl rfl rfl
      have rs109_ : ∀ m_, m_ ≤ M_ → rs1 (a_d2 A_ (k_nx b_ n_ A_ M_ p_)) m_ Sx1_ := fun m_ hm_ => rs1_fr (rs108_ m_ hm_) hFx3_ rfl rfl rfl rfl
      have pl109_ : ∀ a_, (z_n4 b_ n_ A_ M_ p_) = .inr a_ → Sx1_.2.2.1 120 0 t4_.toNat = (a_.1 : Int) := fun a_ ha_ => by rw [fr_arr hFx3_ rfl]; exact pl108_ a_ ha_
      refine sm_T_go 1 (c1 := (113, [some (.inr (.inr (some (13, 0)))), some (.inl m_), none, some (.inl k_), some (.inl t4_)], [.inr (.inr (some (13, 0)))], Sx1_)) rfl ?_
      refine sm_T_cal (d1 := 0) (Q1 := vq_292  Sx1_) rfl rfl (by decide) (vc_292  Sx1_ hIx2_ ) (fun u_ Sx6_ px9_ => ?_)
      obtain ⟨rfl, vx11_, rfl, px9_⟩ := px9_
      have e113_ := px9_
      refine sm_T_b0 (a := 0) (z := 31) rfl (fun cx12_ => ?_) (fun cx12_ => ?_)
      · have cx12_ : vx11_ = 0 := of_decide_eq_true cx12_
        have hz_ := wr_if e113_ (by omega)
        obtain ⟨e5_, he5_⟩ := rg_wr g109_ hz_
        have g6x : rg b_ n_ T_ (pb (pb (z_ne b_ n_ A_ M_ c_ p_) (z_nc (A_.2.2.2.1 (k_nx b_ n_ A_ M_ p_)))) fun a_ => .inr a_.2.1) _ := rg_il g109_ he5_
        have re6_ := re109_
        have rs6_ := rs109_
        refine sm_T_go 0 (c1 := (147, [some (.inr (.inr (some (13, 0)))), some (.inl m_), none, some (.inl k_), some (.inl t4_)], [], Sx1_)) rfl ?_
        refine sm_T_wk [some (.inr (.inr (some (13, 0)))), none, none, none, none] (by exact ⟨rfl, trivial⟩) ?_
        refine ih_.2.2  Sx1_ hIx2_ hFx5_ ⟨?_, ?_, ?_, trivial⟩ ?_
        · exact g6x
        · exact re6_
        · exact rs6_
        · omega
      · have cx12_ : ¬ (vx11_ = 0) := of_decide_eq_false cx12_
        have hz_ := rt_if e113_ (by omega)
        obtain ⟨a5_, ha5_⟩ := rg_rt g109_ hz_
        obtain ⟨r5_, hr5_⟩ := z4_ a5_ ha5_
        have v5_ := v109_ a5_ ha5_
        obtain ⟨k51_, k52_, k53_, k54_⟩ := k108_ _ hr5_
        have wd5_ := ((re109_ _ hr5_ M_ (Nat.le_refl M_)).2 (p_fn b_ n_ A_ M_ p_).toNat (by rw [d2_1.1]; omega)).2.2.1
        rw [d2_1.2.2.1, show 40 * M_ + (p_fn b_ n_ A_ M_ p_).toNat = (40 * m_ + k_).toNat by omega] at wd5_
        have kx5_ : (k_nx b_ n_ A_ M_ p_) = (40 * m_ + k_).toNat := by unfold k_nx; omega
        have pl5_ := pl109_ _ hr5_
        refine sm_T_go 3 (c1 := (124, [some (.inr (.inr (some (13, 0)))), some (.inl m_), none, some (.inl k_), some (.inl t4_)], [.inl 0, .inr (.inr (some (138, 0)))], Sx1_)) rfl ?_
        refine sm_T_iald (n := 1024) rfl rfl (by omega) (by omega) ?_
        have bx13_ : (-2147483648) ≤ Sx1_.2.2.1 138 0 (0 : Int).toNat ∧ Sx1_.2.2.1 138 0 (0 : Int).toNat ≤ 2147483647 := hIx2_.2 138 0 _
        refine sm_T_go 4 (c1 := (132, [some (.inr (.inr (some (13, 0)))), some (.inl m_), none, some (.inl k_), some (.inl t4_)], [.inl m_, .inl 40, .inr (.inr (some (129, 0))), .inl (Sx1_.2.2.1 138 0 (0 : Int).toNat)], Sx1_)) rfl ?_
        refine sm_T_bin (w := 40 * m_) rfl (bi_mul (by omega) (by omega) (by omega)) ?_
        refine sm_T_go 1 (c1 := (134, [some (.inr (.inr (some (13, 0)))), some (.inl m_), none, some (.inl k_), some (.inl t4_)], [.inl k_, .inl (40 * m_), .inr (.inr (some (129, 0))), .inl (Sx1_.2.2.1 138 0 (0 : Int).toNat)], Sx1_)) rfl ?_
        refine sm_T_bin (w := 40 * m_ + k_) rfl (bi_add (by omega) (by omega) (by omega)) ?_
        refine sm_T_iald (n := 640) rfl rfl (by omega) (by omega) ?_
        have bx14_ : 0 ≤ Sx1_.2.2.1 129 0 (40 * m_ + k_).toNat ∧ Sx1_.2.2.1 129 0 (40 * m_ + k_).toNat ≤ 8 := hIx2_.2 129 0 _
        refine sm_T_br (a := 0) (z := 11) rfl (fun cx15_ => ?_) (fun cx15_ => ?_)
        · have cx15_ : (Sx1_.2.2.1 138 0 (0 : Int).toNat) = (Sx1_.2.2.1 129 0 (40 * m_ + k_).toNat) := of_decide_eq_true cx15_
          have g6x : rg b_ n_ T_ (pb (pb (z_ne b_ n_ A_ M_ c_ p_) (z_nc (A_.2.2.2.1 (k_nx b_ n_ A_ M_ p_)))) fun a_ => .inr a_.2.1) _ := rg_ok g109_ (fun a_ ha_ => by rw [ha5_] at ha_; cases ha_; unfold z_nc; rw [if_pos (by rw [kx5_]; omega)])
          have re6_ := re109_
          have rs6_ := rs109_
          refine sm_T_go 0 (c1 := (147, [some (.inr (.inr (some (13, 0)))), some (.inl m_), none, some (.inl k_), some (.inl t4_)], [], Sx1_)) rfl ?_
          refine sm_T_wk [some (.inr (.inr (some (13, 0)))), none, none, none, none] (by exact ⟨rfl, trivial⟩) ?_
          refine ih_.2.2  Sx1_ hIx2_ hFx5_ ⟨?_, ?_, ?_, trivial⟩ ?_
          · exact g6x
          · exact re6_
          · exact rs6_
          · omega
        · have cx15_ : ¬ ((Sx1_.2.2.1 138 0 (0 : Int).toNat) = (Sx1_.2.2.1 129 0 (40 * m_ + k_).toNat)) := of_decide_eq_false cx15_
          refine sm_T_go 3 (c1 := (144, [some (.inr (.inr (some (13, 0)))), some (.inl m_), none, some (.inl k_), some (.inl t4_)], [.inl t4_, .inl 13, .inr (.inr (some (13, 0)))], Sx1_)) rfl ?_
          refine sm_T_cal (d1 := 0) (Q1 := vq_294 13 t4_ Sx1_) rfl rfl (by decide) (vc_294 13 t4_ Sx1_ hIx2_ (by decide) (by omega)) (fun u_ Sx16_ px19_ => ?_)
          obtain ⟨rfl, hIx17_, hFx18_, px19_⟩ := px19_
          have hFx20_ : ai_fr (sx_W vw_337) S0_ Sx16_ := ai_fr_tr hFx5_ (fr_le hFx18_ rfl)
          have g6x : rg b_ n_ T_ (pb (pb (z_ne b_ n_ A_ M_ c_ p_) (z_nc (A_.2.2.2.1 (k_nx b_ n_ A_ M_ p_)))) fun a_ => .inr a_.2.1) Sx16_ := rg_fb (fl_ := 13) (pl_ := a5_.1) g109_ hz_ (fun a_ ha_ => by rw [ha5_] at ha_; cases ha_; unfold z_nc; rw [if_neg (by rw [kx5_]; omega)]) (by decide) (by rcases px19_ with w9_ | w9_; (exact Or.inl w9_); (exact Or.inr ⟨w9_.1, w9_.2.1, w9_.2.2.trans pl5_⟩))
          have re6_ : ∀ a_, (z_n4 b_ n_ A_ M_ p_) = .inr a_ → ∀ m_, m_ ≤ M_ → re1 b_ n_ T_ (a_d2 A_ (k_nx b_ n_ A_ M_ p_)) m_ Sx16_ := fun a_ ha_ m_ hm_ => re1_fr (re109_ a_ ha_ m_ hm_) hFx18_ rfl rfl rfl rfl rfl rfl
          have rs6_ : ∀ m_, m_ ≤ M_ → rs1 (a_d2 A_ (k_nx b_ n_ A_ M_ p_)) m_ Sx16_ := fun m_ hm_ => rs1_fr (rs109_ m_ hm_) hFx18_ rfl rfl rfl rfl
          refine sm_T_go 0 (c1 := (147, [some (.inr (.inr (some (13, 0)))), some (.inl m_), none, some (.inl k_), some (.inl t4_)], [], Sx16_)) rfl ?_
          refine sm_T_wk [some (.inr (.inr (some (13, 0)))), none, none, none, none] (by exact ⟨rfl, trivial⟩) ?_
          refine ih_.2.2  Sx16_ hIx17_ hFx20_ ⟨?_, ?_, ?_, trivial⟩ ?_
          · exact g6x
          · exact re6_
          · exact rs6_
          · omega
    · rintro  S_ hI_ hF_ ⟨g147_, re147_, rs147_, -⟩ hm_
      have le0_ := rg_le ht_ hx_
      have hn1_ := ht_.1
      have hAM_ := (hA_.2 M_ (Nat.le_refl M_)).1
      have t147_ := rtab_fr ht_ hF_ rfl rfl rfl rfl rfl
      refine sm_T_go 2 (c1 := (150, [some (.inr (.inr (some (13, 0)))), none, none, none, none], [.inl 59, .inr (.inr (some (13, 0)))], S_)) rfl ?_
      refine sm_T_cal (d1 := 3) (Q1 := vq_300 59 b_ n_ T_ (pb (pb (z_ne b_ n_ A_ M_ c_ p_) (z_nc (A_.2.2.2.1 (k_nx b_ n_ A_ M_ p_)))) fun a_ => .inr a_.2.1) S_) rfl rfl (by decide) (vc_300 59 b_ n_ T_ (pb (pb (z_ne b_ n_ A_ M_ c_ p_) (z_nc (A_.2.2.2.1 (k_nx b_ n_ A_ M_ p_)))) fun a_ => .inr a_.2.1) S_ hI_ (by exact t147_) (by exact g147_) (by decide)) (fun u_ Sx1_ px4_ => ?_)
      obtain ⟨rfl, hIx2_, hFx3_, px4_⟩ := px4_
      have hFx5_ : ai_fr (sx_W vw_337) S0_ Sx1_ := ai_fr_tr hF_ (fr_le hFx3_ rfl)
      have g150_ : rg b_ n_ T_ (pb (pb (pb (z_ne b_ n_ A_ M_ c_ p_) (z_nc (A_.2.2.2.1 (k_nx b_ n_ A_ M_ p_)))) (z_ns b_ n_)) fun a_ => .inr a_.2) Sx1_ := rg_pb px4_ (fun a_ _ => by unfold z_ns; rw [pb_as]; exact pb_id.symm)
      have F150_ := hFx3_
      refine sm_T_rv rfl ⟨_, _, rfl, rfl, hIx2_, hFx5_, ?_⟩
      refine ⟨?_, fun r_ hr_ => ?_⟩
      · rw [ne_eq2, pb_as]; exact g150_
      · have k_ := ne_ok hn1_ hA_ le0_.1 hc_ hr_
        rw [ne_eq2] at hr_
        obtain ⟨a_, h1_, h2_⟩ := pb_inr hr_
        obtain ⟨a2_, h3_, h4_⟩ := pb_inr h1_
        obtain ⟨a3_, h5_, h6_⟩ := pb_inr h3_
        obtain ⟨a4_, h7_, h8_⟩ := pb_inr h5_
        refine ⟨k_.1, fun m_ hm_ => ?_, fun m_ hm_ => ?_, k_.2.1⟩
        · rw [k_.2.2.2]; exact re1_fr (re147_ a4_ h7_ m_ hm_) F150_ rfl rfl rfl rfl rfl rfl
        · rw [k_.2.2.2]; exact rs1_fr (rs147_ m_ hm_) F150_ rfl rfl rfl rfl
set_option maxHeartbeats 1500000 in
theorem vc_337 {sc_ : Nat × (Nat → Int)} (m_ : Int) (b_ : Nat → Int) (n_ : Nat) (T_ : Nat) (A_ : pA) (M_ : Nat) (c_ : List Int) (p_ : Nat) (S0_ : sm_S) (hI_ : gi S0_) (ht_ : rtab b_ n_ T_ S0_) (hx_ : rg b_ n_ T_ (.inr p_) S0_) (hmo_ : (S0_.1 13 0 27) = 0) (hmm_ : m_ = (M_ : Int) ∧ M_ ≤ 15) (hmd_ : (S0_.1 13 0 28) = (M_ : Int)) (hA_ : a_ok b_ n_ A_ M_) (hre_ : ∀ m_, m_ ≤ M_ → re1 b_ n_ T_ A_ m_ S0_) (hrs_ : ∀ m_, m_ ≤ M_ → rs1 A_ m_ S0_) (hc_ : c_.length ≤ 3 * p_) : sm_T (mt_P sc_) 8 337 (0, [some (.inr (.inr (some (13, 0)))), some (.inl m_), none, none, none], [], S0_) (fun r_ => ∃ u_ S1_, r_ = (.inl u_, S1_, 0) ∧ vq_337 m_ b_ n_ T_ A_ M_ c_ p_ S0_ u_ S1_) := by
  have hF_ : ai_fr (sx_W vw_337) S0_ S0_ := ai_fr_rf
  have le0_ := rg_le ht_ hx_
  have hn1_ := ht_.1
  have hAM_ := (hA_.2 M_ (Nat.le_refl M_)).1
  refine sm_T_go 2 (c1 := (2, [some (.inr (.inr (some (13, 0)))), some (.inl m_), none, none, none], [.inl 1, .inr (.inr (some (13, 0)))], S0_)) rfl ?_
  refine sm_T_cal (d1 := 1) (Q1 := vq_299 1 b_ n_ T_ (.inr p_) S0_) rfl rfl (by decide) (vc_299 1 b_ n_ T_ (.inr p_) S0_ hI_ (by exact ht_) (by exact hx_) (by decide)) (fun u_ Sx1_ px4_ => ?_)
  obtain ⟨vx6_, rfl, hIx2_, hFx3_, px4_⟩ := px4_
  have hFx5_ : ai_fr (sx_W vw_337) S0_ Sx1_ := ai_fr_tr hF_ (fr_le hFx3_ rfl)
  have t2_ := rtab_fr ht_ hFx3_ rfl rfl rfl rfl rfl
  have re2_ : ∀ m_, m_ ≤ M_ → re1 b_ n_ T_ A_ m_ Sx1_ := fun m_ hm_ => re1_fr (hre_ m_ hm_) hFx3_ rfl rfl rfl rfl rfl rfl
  have rs2_ : ∀ m_, m_ ≤ M_ → rs1 A_ m_ Sx1_ := fun m_ hm_ => rs1_fr (hrs_ m_ hm_) hFx3_ rfl rfl rfl rfl
  have mo2_ := (hFx3_.1 13 0 27 rfl).trans hmo_
  have md2_ := (hFx3_.1 13 0 28 rfl).trans hmd_
  have a2_ := px4_.1
  have g2_ : rg b_ n_ T_ (p_du b_ n_ 1 p_) Sx1_ := px4_.2
  have at2_ := hFx3_.1 13 0 9 rfl
  have v2b : 0 ≤ vx6_ ∧ vx6_ ≤ 1280 := by rw [a2_, ← at2_]; exact hIx2_.1 13 0 9 rfl
  obtain ⟨i2_, hi21_, hi22_⟩ := id hx_.2
  have ra2_ := rp_at t2_ hi22_
  have rt2_ : lx_kd b_ n_ p_ = 1 → rtk b_ n_ T_ vx6_ p_ ∧ Sx1_.2.2.1 120 0 vx6_.toNat = (p_ : Int) ∧ Sx1_.2.2.1 119 0 vx6_.toNat ≠ 4 := by intro q3_; rw [show vx6_ = (i2_ : Int) by omega, Int.toNat_natCast]; exact ⟨(rp_rtk t2_ hi22_ q3_).1, ra2_.2.1, by rw [ra2_.1, q3_]; decide⟩
  refine sm_T_go 2 (c1 := (7, [some (.inr (.inr (some (13, 0)))), some (.inl m_), some (.inl vx6_), none, none], [.inr (.inr (some (13, 0)))], Sx1_)) rfl ?_
  refine sm_T_cal (d1 := 0) (Q1 := vq_292  Sx1_) rfl rfl (by decide) (vc_292  Sx1_ hIx2_ ) (fun u_ Sx7_ px10_ => ?_)
  obtain ⟨rfl, vx12_, rfl, px10_⟩ := px10_
  have e7_ := px10_
  refine sm_T_b0 (a := 0) (z := 12) rfl (fun cx13_ => ?_) (fun cx13_ => ?_)
  · have cx13_ : vx12_ = 0 := of_decide_eq_true cx13_
    have hz_ := wr_if e7_ (by omega)
    obtain ⟨e5_, he5_⟩ := rg_w g2_ hz_
    have n2w : (z_n2 b_ n_ A_ M_ p_) = .inl e5_ := by unfold z_n2; rw [he5_]; rfl
    refine sm_T_go 3 (c1 := (25, [some (.inr (.inr (some (13, 0)))), some (.inl m_), some (.inl vx6_), some (.inl (-1)), none], [.inr (.inr (some (13, 0)))], Sx1_)) rfl ?_
    refine sm_T_cal (d1 := 0) (Q1 := vq_292  Sx1_) rfl rfl (by decide) (vc_292  Sx1_ hIx2_ ) (fun u_ Sx14_ px17_ => ?_)
    obtain ⟨rfl, vx19_, rfl, px17_⟩ := px17_
    have e25_ := px17_
    refine sm_T_b0 (a := 0) (z := 44) rfl (fun cx20_ => ?_) (fun cx20_ => ?_)
    · have cx20_ : vx19_ = 0 := of_decide_eq_true cx20_
      have hz3_ := wr_if e25_ (by omega)
      refine sm_T_go 0 (c1 := (72, [some (.inr (.inr (some (13, 0)))), some (.inl m_), some (.inl vx6_), some (.inl (-1)), none], [], Sx1_)) rfl ?_
      refine sm_T_wk [some (.inr (.inr (some (13, 0)))), some (.inl m_), none, some (.inl (-1)), none] (by exact ⟨rfl, rfl, rfl, trivial⟩) ?_
      refine (vl_337 m_ b_ n_ T_ A_ M_ c_ p_ S0_ ht_ hx_ hmo_ hmm_ hmd_ hA_ hre_ hrs_ hc_ _).1 (-1) Sx1_ hIx2_ hFx5_ ⟨?_, ?_, ?_, ?_, trivial⟩ (Nat.lt_succ_self _)
      · first | exact g69_ | (exact absurd hz3_ hz_) | (exact absurd hz_ hz3_) | (rw [n2w]; rw [he5_] at g2_; exact g2_) | (have cn_ : ¬ c_ne b_ n_ A_ M_ p_ := (by unfold c_ne; rintro (z_ | z_); omega; (apply z_; show A_.2.2.1 (k_nx b_ n_ A_ M_ p_) = 3; have z2_ := q33_.1; have z3_ := q33_.2.1; have z4_ := q33_.2.2; by_cases z5_ : A_.2.2.1 (k_nx b_ n_ A_ M_ p_) = 4; (rw [if_pos z5_] at z3_; omega); (unfold r_s2 at z2_; split at z2_ <;> (try split at z2_) <;> omega))); rw [n2c, if_neg cn_]; exact g2r)
      · first | (exact absurd hz3_ hz_) | (exact absurd hz_ hz3_) | (intro q_ hq_; rw [n2w] at hq_; cases hq_; done) | (intro q_ hq_; exfalso; rcases w69_ with z_ | z_; (rw [z_] at hq_; cases hq_); exact z_ rfl) | (intro q_ hq_; have cn_ : ¬ c_ne b_ n_ A_ M_ p_ := (by unfold c_ne; rintro (z_ | z_); omega; (apply z_; show A_.2.2.1 (k_nx b_ n_ A_ M_ p_) = 3; have z2_ := q33_.1; have z3_ := q33_.2.1; have z4_ := q33_.2.2; by_cases z5_ : A_.2.2.1 (k_nx b_ n_ A_ M_ p_) = 4; (rw [if_pos z5_] at z3_; omega); (unfold r_s2 at z2_; split at z2_ <;> (try split at z2_) <;> omega))); exact ⟨e16_, by omega, by omega, Decidable.byContradiction fun z_ => cn_ (Or.inr z_)⟩)
      · first | exact re69_ | exact re2_
      · first | exact rs69_ | exact rs2_
    · have cx20_ : ¬ (vx19_ = 0) := of_decide_eq_false cx20_
      have hz3_ := rt_if e25_ (by omega)
      refine sm_T_go 6 (c1 := (69, [some (.inr (.inr (some (13, 0)))), some (.inl m_), some (.inl vx6_), some (.inl (-1)), none], [.inl vx6_, .inl 11, .inr (.inr (some (13, 0)))], Sx1_)) rfl ?_
      refine sm_T_cal (d1 := 0) (Q1 := vq_293 11 vx6_ Sx1_) rfl rfl (by decide) (vc_293 11 vx6_ Sx1_ hIx2_ (by decide) (by omega)) (fun u_ Sx21_ px24_ => ?_)
      obtain ⟨rfl, hIx22_, hFx23_, px24_⟩ := px24_
      have hFx25_ : ai_fr (sx_W vw_337) S0_ Sx21_ := ai_fr_tr hFx5_ (fr_le hFx23_ rfl)
      have re69_ : ∀ m_, m_ ≤ M_ → re1 b_ n_ T_ A_ m_ Sx21_ := fun m_ hm_ => re1_fr (re2_ m_ hm_) hFx23_ rfl rfl rfl rfl rfl rfl
      have rs69_ : ∀ m_, m_ ≤ M_ → rs1 A_ m_ Sx21_ := fun m_ hm_ => rs1_fr (rs2_ m_ hm_) hFx23_ rfl rfl rfl rfl
      have g69_ : rg b_ n_ T_ (z_n2 b_ n_ A_ M_ p_) Sx21_ := by first | (exact absurd hz3_ hz_) | (have cn_ : c_ne b_ n_ A_ M_ p_ := (by unfold c_ne; first | (left; omega) | (right; intro z_; have z_ : A_.2.2.1 (k_nx b_ n_ A_ M_ p_) = 3 := z_; rw [z_] at q33_; have z1_ : r_s2 3 = 4 := rfl; have z2_ := q33_.1; have z3_ := q33_.2.1; rw [if_neg (by decide)] at z3_; omega)); rw [n2c, if_pos cn_]; rcases px24_ with z_ | z_; (exact absurd hz_ z_.1); (exact ⟨z_.2.1.trans (if_neg rt3_.2.2), z_.2.2.trans rt3_.2.1, by show (11 : Int) ≠ 0; decide⟩))
      have w69_ : (z_n2 b_ n_ A_ M_ p_) = .inl (11, p_) ∨ S0_.1 13 0 10 ≠ S0_.1 13 0 10 := by first | (exact absurd hz3_ hz_) | (have cn_ : c_ne b_ n_ A_ M_ p_ := (by unfold c_ne; first | (left; omega) | (right; intro z_; have z_ : A_.2.2.1 (k_nx b_ n_ A_ M_ p_) = 3 := z_; rw [z_] at q33_; have z1_ : r_s2 3 = 4 := rfl; have z2_ := q33_.1; have z3_ := q33_.2.1; rw [if_neg (by decide)] at z3_; omega)); left; rw [n2c, if_pos cn_])
      refine sm_T_go 0 (c1 := (72, [some (.inr (.inr (some (13, 0)))), some (.inl m_), some (.inl vx6_), some (.inl (-1)), none], [], Sx21_)) rfl ?_
      refine sm_T_wk [some (.inr (.inr (some (13, 0)))), some (.inl m_), none, some (.inl (-1)), none] (by exact ⟨rfl, rfl, rfl, trivial⟩) ?_
      refine (vl_337 m_ b_ n_ T_ A_ M_ c_ p_ S0_ ht_ hx_ hmo_ hmm_ hmd_ hA_ hre_ hrs_ hc_ _).1 (-1) Sx21_ hIx22_ hFx25_ ⟨?_, ?_, ?_, ?_, trivial⟩ (Nat.lt_succ_self _)
      · first | exact g69_ | (exact absurd hz3_ hz_) | (exact absurd hz_ hz3_) | (rw [n2w]; rw [he5_] at g2_; exact g2_) | (have cn_ : ¬ c_ne b_ n_ A_ M_ p_ := (by unfold c_ne; rintro (z_ | z_); omega; (apply z_; show A_.2.2.1 (k_nx b_ n_ A_ M_ p_) = 3; have z2_ := q33_.1; have z3_ := q33_.2.1; have z4_ := q33_.2.2; by_cases z5_ : A_.2.2.1 (k_nx b_ n_ A_ M_ p_) = 4; (rw [if_pos z5_] at z3_; omega); (unfold r_s2 at z2_; split at z2_ <;> (try split at z2_) <;> omega))); rw [n2c, if_neg cn_]; exact g2r)
      · first | (exact absurd hz3_ hz_) | (exact absurd hz_ hz3_) | (intro q_ hq_; rw [n2w] at hq_; cases hq_; done) | (intro q_ hq_; exfalso; rcases w69_ with z_ | z_; (rw [z_] at hq_; cases hq_); exact z_ rfl) | (intro q_ hq_; have cn_ : ¬ c_ne b_ n_ A_ M_ p_ := (by unfold c_ne; rintro (z_ | z_); omega; (apply z_; show A_.2.2.1 (k_nx b_ n_ A_ M_ p_) = 3; have z2_ := q33_.1; have z3_ := q33_.2.1; have z4_ := q33_.2.2; by_cases z5_ : A_.2.2.1 (k_nx b_ n_ A_ M_ p_) = 4; (rw [if_pos z5_] at z3_; omega); (unfold r_s2 at z2_; split at z2_ <;> (try split at z2_) <;> omega))); exact ⟨e16_, by omega, by omega, Decidable.byContradiction fun z_ => cn_ (Or.inr z_)⟩)
      · first | exact re69_ | exact re2_
      · first | exact rs69_ | exact rs2_
  · have cx13_ : ¬ (vx12_ = 0) := of_decide_eq_false cx13_
    have hz_ := rt_if e7_ (by omega)
    have k1_ : lx_kd b_ n_ p_ = 1 := by by_cases z_ : lx_kd b_ n_ p_ = 1; exact z_; (exfalso; rw [show p_du b_ n_ 1 p_ = .inl (2, p_) from if_neg z_] at g2_; exact g2_.2.2 (g2_.1.symm.trans hz_))
    have g2r := g2_
    rw [show p_du b_ n_ 1 p_ = .inr p_ from if_pos k1_] at g2r
    have rt3_ := rt2_ k1_
    have n2c : (z_n2 b_ n_ A_ M_ p_) = if c_ne b_ n_ A_ M_ p_ then .inl (11, p_) else .inr p_ := by unfold z_n2 p_du; rw [if_pos k1_]; rfl
    refine sm_T_go 3 (c1 := (16, [some (.inr (.inr (some (13, 0)))), some (.inl m_), some (.inl vx6_), none, none], [.inl vx6_, .inl m_, .inr (.inr (some (13, 0)))], Sx1_)) rfl ?_
    refine sm_T_cal (d1 := 1) (Q1 := vq_302 m_ vx6_ b_ n_ T_ A_ M_ p_ Sx1_) rfl rfl (by decide) (vc_302 m_ vx6_ b_ n_ T_ A_ M_ p_ Sx1_ hIx2_ (by exact t2_) (by exact hmm_) (by exact re2_ M_ (Nat.le_refl M_)) (by exact hAM_) (by exact rt3_.1)) (fun u_ Sx26_ px29_ => ?_)
    obtain ⟨rfl, vx31_, rfl, px29_⟩ := px29_
    have e16_ := px29_
    have fb_ := p_fd_b (f_ := fun s_ => nm_q b_ n_ (A_.2.1 (40 * M_ + s_)) p_) (A_.1 M_)
    have fb_ : -1 ≤ p_fn b_ n_ A_ M_ p_ ∧ p_fn b_ n_ A_ M_ p_ < (A_.1 M_ : Int) := fb_
    have q16_ : p_fn b_ n_ A_ M_ p_ ≠ -1 → Sx1_.2.2.1 128 0 (40 * m_ + vx31_).toNat = r_s2 (A_.2.2.1 (k_nx b_ n_ A_ M_ p_)) ∧ Sx1_.2.2.1 131 0 (40 * m_ + vx31_).toNat = (if A_.2.2.1 (k_nx b_ n_ A_ M_ p_) = 4 then 1 else 0) ∧ (0 ≤ A_.2.2.1 (k_nx b_ n_ A_ M_ p_) ∧ A_.2.2.1 (k_nx b_ n_ A_ M_ p_) ≤ 5) := by intro z_; rw [show (40 * m_ + vx31_).toNat = 40 * M_ + (p_fn b_ n_ A_ M_ p_).toNat by omega]; have w_ := (re2_ M_ (Nat.le_refl M_)).2 (p_fn b_ n_ A_ M_ p_).toNat (by omega); exact ⟨w_.2.1, w_.2.2.2.2, ((hA_.2 M_ (Nat.le_refl M_)).2 (p_fn b_ n_ A_ M_ p_).toNat (by omega)).2.1⟩
    have v16b : -1 ≤ vx31_ ∧ vx31_ < 40 := by omega
    refine sm_T_go 3 (c1 := (25, [some (.inr (.inr (some (13, 0)))), some (.inl m_), some (.inl vx6_), some (.inl vx31_), none], [.inr (.inr (some (13, 0)))], Sx1_)) rfl ?_
    refine sm_T_cal (d1 := 0) (Q1 := vq_292  Sx1_) rfl rfl (by decide) (vc_292  Sx1_ hIx2_ ) (fun u_ Sx32_ px35_ => ?_)
    obtain ⟨rfl, vx37_, rfl, px35_⟩ := px35_
    have e25_ := px35_
    refine sm_T_b0 (a := 0) (z := 44) rfl (fun cx38_ => ?_) (fun cx38_ => ?_)
    · have cx38_ : vx37_ = 0 := of_decide_eq_true cx38_
      have hz3_ := wr_if e25_ (by omega)
      refine sm_T_go 0 (c1 := (72, [some (.inr (.inr (some (13, 0)))), some (.inl m_), some (.inl vx6_), some (.inl vx31_), none], [], Sx1_)) rfl ?_
      refine sm_T_wk [some (.inr (.inr (some (13, 0)))), some (.inl m_), none, some (.inl vx31_), none] (by exact ⟨rfl, rfl, rfl, trivial⟩) ?_
      refine (vl_337 m_ b_ n_ T_ A_ M_ c_ p_ S0_ ht_ hx_ hmo_ hmm_ hmd_ hA_ hre_ hrs_ hc_ _).1 vx31_ Sx1_ hIx2_ hFx5_ ⟨?_, ?_, ?_, ?_, trivial⟩ (Nat.lt_succ_self _)
      · first | exact g69_ | (exact absurd hz3_ hz_) | (exact absurd hz_ hz3_) | (rw [n2w]; rw [he5_] at g2_; exact g2_) | (have cn_ : ¬ c_ne b_ n_ A_ M_ p_ := (by unfold c_ne; rintro (z_ | z_); omega; (apply z_; show A_.2.2.1 (k_nx b_ n_ A_ M_ p_) = 3; have z2_ := q33_.1; have z3_ := q33_.2.1; have z4_ := q33_.2.2; by_cases z5_ : A_.2.2.1 (k_nx b_ n_ A_ M_ p_) = 4; (rw [if_pos z5_] at z3_; omega); (unfold r_s2 at z2_; split at z2_ <;> (try split at z2_) <;> omega))); rw [n2c, if_neg cn_]; exact g2r)
      · first | (exact absurd hz3_ hz_) | (exact absurd hz_ hz3_) | (intro q_ hq_; rw [n2w] at hq_; cases hq_; done) | (intro q_ hq_; exfalso; rcases w69_ with z_ | z_; (rw [z_] at hq_; cases hq_); exact z_ rfl) | (intro q_ hq_; have cn_ : ¬ c_ne b_ n_ A_ M_ p_ := (by unfold c_ne; rintro (z_ | z_); omega; (apply z_; show A_.2.2.1 (k_nx b_ n_ A_ M_ p_) = 3; have z2_ := q33_.1; have z3_ := q33_.2.1; have z4_ := q33_.2.2; by_cases z5_ : A_.2.2.1 (k_nx b_ n_ A_ M_ p_) = 4; (rw [if_pos z5_] at z3_; omega); (unfold r_s2 at z2_; split at z2_ <;> (try split at z2_) <;> omega))); exact ⟨e16_, by omega, by omega, Decidable.byContradiction fun z_ => cn_ (Or.inr z_)⟩)
      · first | exact re69_ | exact re2_
      · first | exact rs69_ | exact rs2_
    · have cx38_ : ¬ (vx37_ = 0) := of_decide_eq_false cx38_
      have hz3_ := rt_if e25_ (by omega)
      refine sm_T_go 2 (c1 := (33, [some (.inr (.inr (some (13, 0)))), some (.inl m_), some (.inl vx6_), some (.inl vx31_), none], [.inl (-1), .inl vx31_], Sx1_)) rfl ?_
      refine sm_T_br (a := 0) (z := 32) rfl (fun cx39_ => ?_) (fun cx39_ => ?_)
      · have cx39_ : vx31_ = (-1) := of_decide_eq_true cx39_
        refine sm_T_go 3 (c1 := (69, [some (.inr (.inr (some (13, 0)))), some (.inl m_), some (.inl vx6_), some (.inl vx31_), none], [.inl vx6_, .inl 11, .inr (.inr (some (13, 0)))], Sx1_)) rfl ?_
        refine sm_T_cal (d1 := 0) (Q1 := vq_293 11 vx6_ Sx1_) rfl rfl (by decide) (vc_293 11 vx6_ Sx1_ hIx2_ (by decide) (by omega)) (fun u_ Sx40_ px43_ => ?_)
        obtain ⟨rfl, hIx41_, hFx42_, px43_⟩ := px43_
        have hFx44_ : ai_fr (sx_W vw_337) S0_ Sx40_ := ai_fr_tr hFx5_ (fr_le hFx42_ rfl)
        have re69_ : ∀ m_, m_ ≤ M_ → re1 b_ n_ T_ A_ m_ Sx40_ := fun m_ hm_ => re1_fr (re2_ m_ hm_) hFx42_ rfl rfl rfl rfl rfl rfl
        have rs69_ : ∀ m_, m_ ≤ M_ → rs1 A_ m_ Sx40_ := fun m_ hm_ => rs1_fr (rs2_ m_ hm_) hFx42_ rfl rfl rfl rfl
        have g69_ : rg b_ n_ T_ (z_n2 b_ n_ A_ M_ p_) Sx40_ := by first | (exact absurd hz3_ hz_) | (have cn_ : c_ne b_ n_ A_ M_ p_ := (by unfold c_ne; first | (left; omega) | (right; intro z_; have z_ : A_.2.2.1 (k_nx b_ n_ A_ M_ p_) = 3 := z_; rw [z_] at q33_; have z1_ : r_s2 3 = 4 := rfl; have z2_ := q33_.1; have z3_ := q33_.2.1; rw [if_neg (by decide)] at z3_; omega)); rw [n2c, if_pos cn_]; rcases px43_ with z_ | z_; (exact absurd hz_ z_.1); (exact ⟨z_.2.1.trans (if_neg rt3_.2.2), z_.2.2.trans rt3_.2.1, by show (11 : Int) ≠ 0; decide⟩))
        have w69_ : (z_n2 b_ n_ A_ M_ p_) = .inl (11, p_) ∨ S0_.1 13 0 10 ≠ S0_.1 13 0 10 := by first | (exact absurd hz3_ hz_) | (have cn_ : c_ne b_ n_ A_ M_ p_ := (by unfold c_ne; first | (left; omega) | (right; intro z_; have z_ : A_.2.2.1 (k_nx b_ n_ A_ M_ p_) = 3 := z_; rw [z_] at q33_; have z1_ : r_s2 3 = 4 := rfl; have z2_ := q33_.1; have z3_ := q33_.2.1; rw [if_neg (by decide)] at z3_; omega)); left; rw [n2c, if_pos cn_])
        refine sm_T_go 0 (c1 := (72, [some (.inr (.inr (some (13, 0)))), some (.inl m_), some (.inl vx6_), some (.inl vx31_), none], [], Sx40_)) rfl ?_
        refine sm_T_wk [some (.inr (.inr (some (13, 0)))), some (.inl m_), none, some (.inl vx31_), none] (by exact ⟨rfl, rfl, rfl, trivial⟩) ?_
        refine (vl_337 m_ b_ n_ T_ A_ M_ c_ p_ S0_ ht_ hx_ hmo_ hmm_ hmd_ hA_ hre_ hrs_ hc_ _).1 vx31_ Sx40_ hIx41_ hFx44_ ⟨?_, ?_, ?_, ?_, trivial⟩ (Nat.lt_succ_self _)
        · first | exact g69_ | (exact absurd hz3_ hz_) | (exact absurd hz_ hz3_) | (rw [n2w]; rw [he5_] at g2_; exact g2_) | (have cn_ : ¬ c_ne b_ n_ A_ M_ p_ := (by unfold c_ne; rintro (z_ | z_); omega; (apply z_; show A_.2.2.1 (k_nx b_ n_ A_ M_ p_) = 3; have z2_ := q33_.1; have z3_ := q33_.2.1; have z4_ := q33_.2.2; by_cases z5_ : A_.2.2.1 (k_nx b_ n_ A_ M_ p_) = 4; (rw [if_pos z5_] at z3_; omega); (unfold r_s2 at z2_; split at z2_ <;> (try split at z2_) <;> omega))); rw [n2c, if_neg cn_]; exact g2r)
        · first | (exact absurd hz3_ hz_) | (exact absurd hz_ hz3_) | (intro q_ hq_; rw [n2w] at hq_; cases hq_; done) | (intro q_ hq_; exfalso; rcases w69_ with z_ | z_; (rw [z_] at hq_; cases hq_); exact z_ rfl) | (intro q_ hq_; have cn_ : ¬ c_ne b_ n_ A_ M_ p_ := (by unfold c_ne; rintro (z_ | z_); omega; (apply z_; show A_.2.2.1 (k_nx b_ n_ A_ M_ p_) = 3; have z2_ := q33_.1; have z3_ := q33_.2.1; have z4_ := q33_.2.2; by_cases z5_ : A_.2.2.1 (k_nx b_ n_ A_ M_ p_) = 4; (rw [if_pos z5_] at z3_; omega); (unfold r_s2 at z2_; split at z2_ <;> (try split at z2_) <;> omega))); exact ⟨e16_, by omega, by omega, Decidable.byContradiction fun z_ => cn_ (Or.inr z_)⟩)
        · first | exact re69_ | exact re2_
        · first | exact rs69_ | exact rs2_
      · have cx39_ : ¬ (vx31_ = (-1)) := of_decide_eq_false cx39_
        have q33_ := q16_ (by omega)
        refine sm_T_go 4 (c1 := (43, [some (.inr (.inr (some (13, 0)))), some (.inl m_), some (.inl vx6_), some (.inl vx31_), none], [.inl m_, .inl 40, .inr (.inr (some (128, 0)))], Sx1_)) rfl ?_
        refine sm_T_bin (w := 40 * m_) rfl (bi_mul (by omega) (by omega) (by omega)) ?_
        refine sm_T_go 1 (c1 := (45, [some (.inr (.inr (some (13, 0)))), some (.inl m_), some (.inl vx6_), some (.inl vx31_), none], [.inl vx31_, .inl (40 * m_), .inr (.inr (some (128, 0)))], Sx1_)) rfl ?_
        refine sm_T_bin (w := 40 * m_ + vx31_) rfl (bi_add (by omega) (by omega) (by omega)) ?_
        refine sm_T_iald (n := 640) rfl rfl (by omega) (by omega) ?_
        have bx45_ : 0 ≤ Sx1_.2.2.1 128 0 (40 * m_ + vx31_).toNat ∧ Sx1_.2.2.1 128 0 (40 * m_ + vx31_).toNat ≤ 5 := hIx2_.2 128 0 _
        refine sm_T_go 1 (c1 := (48, [some (.inr (.inr (some (13, 0)))), some (.inl m_), some (.inl vx6_), some (.inl vx31_), none], [.inl 4, .inl (Sx1_.2.2.1 128 0 (40 * m_ + vx31_).toNat)], Sx1_)) rfl ?_
        refine sm_T_br (a := 1) (z := 17) rfl (fun cx46_ => ?_) (fun cx46_ => ?_)
        · have cx46_ : (Sx1_.2.2.1 128 0 (40 * m_ + vx31_).toNat) ≠ 4 := of_decide_eq_true cx46_
          refine sm_T_go 3 (c1 := (69, [some (.inr (.inr (some (13, 0)))), some (.inl m_), some (.inl vx6_), some (.inl vx31_), none], [.inl vx6_, .inl 11, .inr (.inr (some (13, 0)))], Sx1_)) rfl ?_
          refine sm_T_cal (d1 := 0) (Q1 := vq_293 11 vx6_ Sx1_) rfl rfl (by decide) (vc_293 11 vx6_ Sx1_ hIx2_ (by decide) (by omega)) (fun u_ Sx47_ px50_ => ?_)
          obtain ⟨rfl, hIx48_, hFx49_, px50_⟩ := px50_
          have hFx51_ : ai_fr (sx_W vw_337) S0_ Sx47_ := ai_fr_tr hFx5_ (fr_le hFx49_ rfl)
          have re69_ : ∀ m_, m_ ≤ M_ → re1 b_ n_ T_ A_ m_ Sx47_ := fun m_ hm_ => re1_fr (re2_ m_ hm_) hFx49_ rfl rfl rfl rfl rfl rfl
          have rs69_ : ∀ m_, m_ ≤ M_ → rs1 A_ m_ Sx47_ := fun m_ hm_ => rs1_fr (rs2_ m_ hm_) hFx49_ rfl rfl rfl rfl
          have g69_ : rg b_ n_ T_ (z_n2 b_ n_ A_ M_ p_) Sx47_ := by first | (exact absurd hz3_ hz_) | (have cn_ : c_ne b_ n_ A_ M_ p_ := (by unfold c_ne; first | (left; omega) | (right; intro z_; have z_ : A_.2.2.1 (k_nx b_ n_ A_ M_ p_) = 3 := z_; rw [z_] at q33_; have z1_ : r_s2 3 = 4 := rfl; have z2_ := q33_.1; have z3_ := q33_.2.1; rw [if_neg (by decide)] at z3_; omega)); rw [n2c, if_pos cn_]; rcases px50_ with z_ | z_; (exact absurd hz_ z_.1); (exact ⟨z_.2.1.trans (if_neg rt3_.2.2), z_.2.2.trans rt3_.2.1, by show (11 : Int) ≠ 0; decide⟩))
          have w69_ : (z_n2 b_ n_ A_ M_ p_) = .inl (11, p_) ∨ S0_.1 13 0 10 ≠ S0_.1 13 0 10 := by first | (exact absurd hz3_ hz_) | (have cn_ : c_ne b_ n_ A_ M_ p_ := (by unfold c_ne; first | (left; omega) | (right; intro z_; have z_ : A_.2.2.1 (k_nx b_ n_ A_ M_ p_) = 3 := z_; rw [z_] at q33_; have z1_ : r_s2 3 = 4 := rfl; have z2_ := q33_.1; have z3_ := q33_.2.1; rw [if_neg (by decide)] at z3_; omega)); left; rw [n2c, if_pos cn_])
          refine sm_T_go 0 (c1 := (72, [some (.inr (.inr (some (13, 0)))), some (.inl m_), some (.inl vx6_), some (.inl vx31_), none], [], Sx47_)) rfl ?_
          refine sm_T_wk [some (.inr (.inr (some (13, 0)))), some (.inl m_), none, some (.inl vx31_), none] (by exact ⟨rfl, rfl, rfl, trivial⟩) ?_
          refine (vl_337 m_ b_ n_ T_ A_ M_ c_ p_ S0_ ht_ hx_ hmo_ hmm_ hmd_ hA_ hre_ hrs_ hc_ _).1 vx31_ Sx47_ hIx48_ hFx51_ ⟨?_, ?_, ?_, ?_, trivial⟩ (Nat.lt_succ_self _)
          · first | exact g69_ | (exact absurd hz3_ hz_) | (exact absurd hz_ hz3_) | (rw [n2w]; rw [he5_] at g2_; exact g2_) | (have cn_ : ¬ c_ne b_ n_ A_ M_ p_ := (by unfold c_ne; rintro (z_ | z_); omega; (apply z_; show A_.2.2.1 (k_nx b_ n_ A_ M_ p_) = 3; have z2_ := q33_.1; have z3_ := q33_.2.1; have z4_ := q33_.2.2; by_cases z5_ : A_.2.2.1 (k_nx b_ n_ A_ M_ p_) = 4; (rw [if_pos z5_] at z3_; omega); (unfold r_s2 at z2_; split at z2_ <;> (try split at z2_) <;> omega))); rw [n2c, if_neg cn_]; exact g2r)
          · first | (exact absurd hz3_ hz_) | (exact absurd hz_ hz3_) | (intro q_ hq_; rw [n2w] at hq_; cases hq_; done) | (intro q_ hq_; exfalso; rcases w69_ with z_ | z_; (rw [z_] at hq_; cases hq_); exact z_ rfl) | (intro q_ hq_; have cn_ : ¬ c_ne b_ n_ A_ M_ p_ := (by unfold c_ne; rintro (z_ | z_); omega; (apply z_; show A_.2.2.1 (k_nx b_ n_ A_ M_ p_) = 3; have z2_ := q33_.1; have z3_ := q33_.2.1; have z4_ := q33_.2.2; by_cases z5_ : A_.2.2.1 (k_nx b_ n_ A_ M_ p_) = 4; (rw [if_pos z5_] at z3_; omega); (unfold r_s2 at z2_; split at z2_ <;> (try split at z2_) <;> omega))); exact ⟨e16_, by omega, by omega, Decidable.byContradiction fun z_ => cn_ (Or.inr z_)⟩)
          · first | exact re69_ | exact re2_
          · first | exact rs69_ | exact rs2_
        · have cx46_ : ¬ ((Sx1_.2.2.1 128 0 (40 * m_ + vx31_).toNat) ≠ 4) := of_decide_eq_false cx46_
          refine sm_T_go 4 (c1 := (58, [some (.inr (.inr (some (13, 0)))), some (.inl m_), some (.inl vx6_), some (.inl vx31_), none], [.inl m_, .inl 40, .inr (.inr (some (131, 0)))], Sx1_)) rfl ?_
          refine sm_T_bin (w := 40 * m_) rfl (bi_mul (by omega) (by omega) (by omega)) ?_
          refine sm_T_go 1 (c1 := (60, [some (.inr (.inr (some (13, 0)))), some (.inl m_), some (.inl vx6_), some (.inl vx31_), none], [.inl vx31_, .inl (40 * m_), .inr (.inr (some (131, 0)))], Sx1_)) rfl ?_
          refine sm_T_bin (w := 40 * m_ + vx31_) rfl (bi_add (by omega) (by omega) (by omega)) ?_
          refine sm_T_zald (n := 640) rfl rfl (by omega) (by omega) ?_
          have bx52_ : 0 ≤ Sx1_.2.2.1 131 0 (40 * m_ + vx31_).toNat ∧ Sx1_.2.2.1 131 0 (40 * m_ + vx31_).toNat ≤ 1 := hIx2_.2 131 0 _
          refine sm_T_b0 (a := 0) (z := 10) rfl (fun cx53_ => ?_) (fun cx53_ => ?_)
          · have cx53_ : (Sx1_.2.2.1 131 0 (40 * m_ + vx31_).toNat) = 0 := of_decide_eq_true cx53_
            refine sm_T_go 0 (c1 := (72, [some (.inr (.inr (some (13, 0)))), some (.inl m_), some (.inl vx6_), some (.inl vx31_), none], [], Sx1_)) rfl ?_
            refine sm_T_wk [some (.inr (.inr (some (13, 0)))), some (.inl m_), none, some (.inl vx31_), none] (by exact ⟨rfl, rfl, rfl, trivial⟩) ?_
            refine (vl_337 m_ b_ n_ T_ A_ M_ c_ p_ S0_ ht_ hx_ hmo_ hmm_ hmd_ hA_ hre_ hrs_ hc_ _).1 vx31_ Sx1_ hIx2_ hFx5_ ⟨?_, ?_, ?_, ?_, trivial⟩ (Nat.lt_succ_self _)
            · first | exact g69_ | (exact absurd hz3_ hz_) | (exact absurd hz_ hz3_) | (rw [n2w]; rw [he5_] at g2_; exact g2_) | (have cn_ : ¬ c_ne b_ n_ A_ M_ p_ := (by unfold c_ne; rintro (z_ | z_); omega; (apply z_; show A_.2.2.1 (k_nx b_ n_ A_ M_ p_) = 3; have z2_ := q33_.1; have z3_ := q33_.2.1; have z4_ := q33_.2.2; by_cases z5_ : A_.2.2.1 (k_nx b_ n_ A_ M_ p_) = 4; (rw [if_pos z5_] at z3_; omega); (unfold r_s2 at z2_; split at z2_ <;> (try split at z2_) <;> omega))); rw [n2c, if_neg cn_]; exact g2r)
            · first | (exact absurd hz3_ hz_) | (exact absurd hz_ hz3_) | (intro q_ hq_; rw [n2w] at hq_; cases hq_; done) | (intro q_ hq_; exfalso; rcases w69_ with z_ | z_; (rw [z_] at hq_; cases hq_); exact z_ rfl) | (intro q_ hq_; have cn_ : ¬ c_ne b_ n_ A_ M_ p_ := (by unfold c_ne; rintro (z_ | z_); omega; (apply z_; show A_.2.2.1 (k_nx b_ n_ A_ M_ p_) = 3; have z2_ := q33_.1; have z3_ := q33_.2.1; have z4_ := q33_.2.2; by_cases z5_ : A_.2.2.1 (k_nx b_ n_ A_ M_ p_) = 4; (rw [if_pos z5_] at z3_; omega); (unfold r_s2 at z2_; split at z2_ <;> (try split at z2_) <;> omega))); exact ⟨e16_, by omega, by omega, Decidable.byContradiction fun z_ => cn_ (Or.inr z_)⟩)
            · first | exact re69_ | exact re2_
            · first | exact rs69_ | exact rs2_
          · have cx53_ : ¬ ((Sx1_.2.2.1 131 0 (40 * m_ + vx31_).toNat) = 0) := of_decide_eq_false cx53_
            refine sm_T_go 3 (c1 := (69, [some (.inr (.inr (some (13, 0)))), some (.inl m_), some (.inl vx6_), some (.inl vx31_), none], [.inl vx6_, .inl 11, .inr (.inr (some (13, 0)))], Sx1_)) rfl ?_
            refine sm_T_cal (d1 := 0) (Q1 := vq_293 11 vx6_ Sx1_) rfl rfl (by decide) (vc_293 11 vx6_ Sx1_ hIx2_ (by decide) (by omega)) (fun u_ Sx54_ px57_ => ?_)
            obtain ⟨rfl, hIx55_, hFx56_, px57_⟩ := px57_
            have hFx58_ : ai_fr (sx_W vw_337) S0_ Sx54_ := ai_fr_tr hFx5_ (fr_le hFx56_ rfl)
            have re69_ : ∀ m_, m_ ≤ M_ → re1 b_ n_ T_ A_ m_ Sx54_ := fun m_ hm_ => re1_fr (re2_ m_ hm_) hFx56_ rfl rfl rfl rfl rfl rfl
            have rs69_ : ∀ m_, m_ ≤ M_ → rs1 A_ m_ Sx54_ := fun m_ hm_ => rs1_fr (rs2_ m_ hm_) hFx56_ rfl rfl rfl rfl
            have g69_ : rg b_ n_ T_ (z_n2 b_ n_ A_ M_ p_) Sx54_ := by first | (exact absurd hz3_ hz_) | (have cn_ : c_ne b_ n_ A_ M_ p_ := (by unfold c_ne; first | (left; omega) | (right; intro z_; have z_ : A_.2.2.1 (k_nx b_ n_ A_ M_ p_) = 3 := z_; rw [z_] at q33_; have z1_ : r_s2 3 = 4 := rfl; have z2_ := q33_.1; have z3_ := q33_.2.1; rw [if_neg (by decide)] at z3_; omega)); rw [n2c, if_pos cn_]; rcases px57_ with z_ | z_; (exact absurd hz_ z_.1); (exact ⟨z_.2.1.trans (if_neg rt3_.2.2), z_.2.2.trans rt3_.2.1, by show (11 : Int) ≠ 0; decide⟩))
            have w69_ : (z_n2 b_ n_ A_ M_ p_) = .inl (11, p_) ∨ S0_.1 13 0 10 ≠ S0_.1 13 0 10 := by first | (exact absurd hz3_ hz_) | (have cn_ : c_ne b_ n_ A_ M_ p_ := (by unfold c_ne; first | (left; omega) | (right; intro z_; have z_ : A_.2.2.1 (k_nx b_ n_ A_ M_ p_) = 3 := z_; rw [z_] at q33_; have z1_ : r_s2 3 = 4 := rfl; have z2_ := q33_.1; have z3_ := q33_.2.1; rw [if_neg (by decide)] at z3_; omega)); left; rw [n2c, if_pos cn_])
            refine sm_T_go 0 (c1 := (72, [some (.inr (.inr (some (13, 0)))), some (.inl m_), some (.inl vx6_), some (.inl vx31_), none], [], Sx54_)) rfl ?_
            refine sm_T_wk [some (.inr (.inr (some (13, 0)))), some (.inl m_), none, some (.inl vx31_), none] (by exact ⟨rfl, rfl, rfl, trivial⟩) ?_
            refine (vl_337 m_ b_ n_ T_ A_ M_ c_ p_ S0_ ht_ hx_ hmo_ hmm_ hmd_ hA_ hre_ hrs_ hc_ _).1 vx31_ Sx54_ hIx55_ hFx58_ ⟨?_, ?_, ?_, ?_, trivial⟩ (Nat.lt_succ_self _)
            · first | exact g69_ | (exact absurd hz3_ hz_) | (exact absurd hz_ hz3_) | (rw [n2w]; rw [he5_] at g2_; exact g2_) | (have cn_ : ¬ c_ne b_ n_ A_ M_ p_ := (by unfold c_ne; rintro (z_ | z_); omega; (apply z_; show A_.2.2.1 (k_nx b_ n_ A_ M_ p_) = 3; have z2_ := q33_.1; have z3_ := q33_.2.1; have z4_ := q33_.2.2; by_cases z5_ : A_.2.2.1 (k_nx b_ n_ A_ M_ p_) = 4; (rw [if_pos z5_] at z3_; omega); (unfold r_s2 at z2_; split at z2_ <;> (try split at z2_) <;> omega))); rw [n2c, if_neg cn_]; exact g2r)
            · first | (exact absurd hz3_ hz_) | (exact absurd hz_ hz3_) | (intro q_ hq_; rw [n2w] at hq_; cases hq_; done) | (intro q_ hq_; exfalso; rcases w69_ with z_ | z_; (rw [z_] at hq_; cases hq_); exact z_ rfl) | (intro q_ hq_; have cn_ : ¬ c_ne b_ n_ A_ M_ p_ := (by unfold c_ne; rintro (z_ | z_); omega; (apply z_; show A_.2.2.1 (k_nx b_ n_ A_ M_ p_) = 3; have z2_ := q33_.1; have z3_ := q33_.2.1; have z4_ := q33_.2.2; by_cases z5_ : A_.2.2.1 (k_nx b_ n_ A_ M_ p_) = 4; (rw [if_pos z5_] at z3_; omega); (unfold r_s2 at z2_; split at z2_ <;> (try split at z2_) <;> omega))); exact ⟨e16_, by omega, by omega, Decidable.byContradiction fun z_ => cn_ (Or.inr z_)⟩)
            · first | exact re69_ | exact re2_
            · first | exact rs69_ | exact rs2_
