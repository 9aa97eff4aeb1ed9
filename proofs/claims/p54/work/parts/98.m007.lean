/-! 99.yoa -/
section
/-! the reference: modules used; written by wip/p55/gen/vg -/

/-! modules used -/
theorem rtk_pl {b_ : Nat → Int} {n_ T_ p_ : Nat} {t_ : Int} {S_ : sm_S} (h_ : rtab b_ n_ T_ S_) (r_ : rtk b_ n_ T_ t_ p_) : (0 ≤ t_ ∧ t_ ≤ 1280) ∧ S_.2.2.1 120 0 t_.toNat = (p_ : Int) := by
  obtain ⟨i_, h1_, h2_, h3_, h4_⟩ := r_
  have hT_ := h_.2.1
  have t2_ := (h_.2.2.1.1 i_ h2_).2
  rw [← h3_] at t2_
  rw [show t_.toNat = i_ by omega]
  exact ⟨by omega, t2_.1⟩
theorem ae_ok {b_ : Nat → Int} {n_ pl_ p_ : Nat} {t_ : Bool} {c_ : List Int} {x_ : List Int × Nat} (hp_ : p_ ≤ n_) (h_ : p_ae b_ n_ pl_ t_ c_ p_ = .inr x_) : x_.1 = c_ ∧ p_ < x_.2 ∧ x_.2 ≤ n_ ∧ lx_kd b_ n_ x_.2 ≠ -1 := by
  unfold p_ae at h_
  split at h_
  · cases h_
  · obtain ⟨q_, h1_, h2_⟩ := pb_inr h_
    cases h2_
    have k_ := nd_ok hp_ (by decide) h1_
    exact ⟨rfl, k_.1, k_.2.1, k_.2.2.1⟩
theorem a1_len {A_ : pA} {m_ s_ : Nat} {i_ : Int} {l_ : List Int} : (p_a1 A_ m_ s_ i_ l_).length ≤ l_.length + 1 := by
  unfold p_a1
  split
  · omega
  · simp
theorem ar_ok {b_ : Nat → Int} {n_ M_ m_ s_ pl_ : Nat} {A_ : pA} (hn_ : n_ ≤ 1280) (hA_ : a_ok b_ n_ A_ M_) : ∀ (f_ : Nat) (i_ : Int) (c_ : List Int) (p_ : Nat) (x_ : List Int × Nat), p_ ≤ n_ → lx_kd b_ n_ p_ ≠ -1 → c_.length ≤ 3 * p_ → p_ar b_ n_ A_ M_ m_ s_ pl_ f_ i_ c_ p_ = .inr x_ → x_.1.length ≤ 3 * x_.2 ∧ p_ < x_.2 ∧ x_.2 ≤ n_ ∧ lx_kd b_ n_ x_.2 ≠ -1
  | 0, i_, c_, p_, x_, _, _, _, h_ => by
    unfold p_ar at h_
    cases h_
  | f_ + 1, i_, c_, p_, x_, hp_, hk_, hc_, h_ => by
    rw [p_ar] at h_
    obtain ⟨r_, h1_, h_⟩ := pb_inr h_
    have k1_ := xd_ok hn_ hA_ hp_ hk_ hc_ h1_
    have la_ := a1_len (A_ := A_) (m_ := m_) (s_ := s_) (i_ := i_) (l_ := r_.2.2)
    have k2_ := k1_.2.2.2.2.2
    have k3_ := k1_.1
    split at h_
    · cases h_
    · split at h_
      · split at h_
        · cases h_
        · rename_i g1_ g2_ g3_
          obtain ⟨q_, h2_, h_⟩ := pb_inr h_
          have k4_ := p_ad_ok k1_.2.1 (by omega) h2_
          have k5_ := ar_ok hn_ hA_ f_ _ _ q_ x_ k4_.2.2.1 k4_.2.2.2 (by omega) h_
          exact ⟨k5_.1, by omega, k5_.2.2⟩
      · have k4_ := ae_ok k1_.2.1 h_
        exact ⟨by rw [k4_.1]; omega, by omega, k4_.2.2⟩
theorem ua_ok {b_ : Nat → Int} {n_ M_ m_ s_ pl_ p_ : Nat} {A_ : pA} {c_ : List Int} {x_ : List Int × Nat} (hn_ : n_ ≤ 1280) (hA_ : a_ok b_ n_ A_ M_) (hp_ : p_ ≤ n_) (hk_ : lx_kd b_ n_ p_ ≠ -1) (hc_ : c_.length ≤ 3 * p_) (h_ : p_ua b_ n_ A_ M_ m_ s_ pl_ c_ p_ = .inr x_) : x_.1.length ≤ 3 * x_.2 ∧ p_ < x_.2 ∧ x_.2 ≤ n_ ∧ lx_kd b_ n_ x_.2 ≠ -1 := by
  unfold p_ua at h_
  split at h_
  · have k4_ := ae_ok hp_ h_
    exact ⟨by rw [k4_.1]; omega, k4_.2⟩
  · exact ar_ok hn_ hA_ _ _ _ _ _ hp_ hk_ hc_ h_
def z_u2 (b_ : Nat → Int) (n_ : Nat) (A_ : pA) (M_ p_ : Nat) : pE (Nat × Nat) := pb (z_nw b_ n_ A_ M_ p_) fun a_ => pb (p_du b_ n_ 1 a_.2) fun _ => .inr a_
def z_u3 (b_ : Nat → Int) (n_ : Nat) (A_ : pA) (N_ : Nat → Nat) (M_ p_ : Nat) : pE (Nat × Nat) := pb (z_u2 b_ n_ A_ M_ p_) fun a_ => if p_fm b_ n_ N_ M_ a_.2 = -1 then .inl (11, a_.2) else .inr a_
def z_u4 (b_ : Nat → Int) (n_ : Nat) (A_ : pA) (N_ : Nat → Nat) (M_ p_ : Nat) : pE ((Nat × Nat) × Nat) := pb (z_u3 b_ n_ A_ N_ M_ p_) fun a_ => pb (p_ad b_ n_ a_.2) fun v_ => .inr (a_, v_)
def z_u5 (b_ : Nat → Int) (n_ : Nat) (A_ : pA) (N_ : Nat → Nat) (M_ p_ : Nat) : pE ((Nat × Nat) × Nat) := pb (z_u4 b_ n_ A_ N_ M_ p_) fun a_ => pb (p_nd b_ n_ 40 a_.2) fun v_ => .inr (a_.1, v_)
abbrev pU : Type := (Nat × Nat) × (List Int × Nat)
def z_ua (b_ : Nat → Int) (n_ : Nat) (A_ : pA) (N_ : Nat → Nat) (M_ : Nat) (c_ : List Int) (p_ : Nat) : pE pU := pb (z_u5 b_ n_ A_ N_ M_ p_) fun a_ => pb (p_ua b_ n_ A_ M_ (p_fm b_ n_ N_ M_ a_.1.2).toNat (A_.1 M_) a_.1.1 (cw 15 (A_.1 M_) 0 :: c_) a_.2) fun x_ => .inr (a_.1, x_)
def z_us (b_ : Nat → Int) (n_ : Nat) (a_ : pU) : pE (pU × Nat) := pb (p_nd b_ n_ 59 a_.2.2) fun y_ => .inr (a_, y_)
def k_us (b_ : Nat → Int) (n_ : Nat) (A_ : pA) (N_ : Nat → Nat) (M_ : Nat) (a_ : pU × Nat) : pT := (a_te A_ M_ a_.1.1.1 5 0 (p_fm b_ n_ N_ M_ a_.1.1.2), cw 17 (A_.1 M_) (p_fm b_ n_ N_ M_ a_.1.1.2) :: a_.1.2.1, a_.2)
theorem us_eq {b_ : Nat → Int} {n_ M_ p_ : Nat} {A_ : pA} {N_ : Nat → Nat} {c_ : List Int} : p_us b_ n_ A_ N_ M_ c_ p_ = pb (pb (z_ua b_ n_ A_ N_ M_ c_ p_) (z_us b_ n_)) fun a_ => .inr (k_us b_ n_ A_ N_ M_ a_) := by
  unfold p_us z_ua z_u5 z_u4 z_u3 z_u2 z_nw
  simp only [pb_as, pb_ir]
  refine congrArg (pb _) (funext fun q_ => congrArg (pb _) (funext fun r_ => ?_))
  unfold p_du
  by_cases g_ : lx_kd b_ n_ r_ = 1
  · rw [if_pos g_, if_pos g_]
    show _ = pb (if p_fm b_ n_ N_ M_ r_ = -1 then .inl (11, r_) else .inr (q_, r_)) _
    by_cases g2_ : p_fm b_ n_ N_ M_ r_ = -1
    · rw [if_pos g2_, if_pos g2_]
      rfl
    · rw [if_neg g2_, if_neg g2_]
      show _ = pb (p_ad b_ n_ r_) _
      refine congrArg (pb _) (funext fun u_ => congrArg (pb _) (funext fun v_ => congrArg (pb _) (funext fun x_ => ?_)))
      show _ = pb (z_us b_ n_ ((q_, r_), x_)) _
      unfold z_us
      rw [pb_as]
      rfl
  · rw [if_neg g_, if_neg g_]
    rfl
theorem fm_b {b_ : Nat → Int} {n_ M_ r_ : Nat} {N_ : Nat → Nat} : -1 ≤ p_fm b_ n_ N_ M_ r_ ∧ p_fm b_ n_ N_ M_ r_ < (M_ : Int) := p_fd_b (f_ := fun m_ => nm_q b_ n_ (N_ m_) r_) M_
theorem u5_ok {b_ : Nat → Int} {n_ M_ p_ : Nat} {A_ : pA} {N_ : Nat → Nat} {a_ : (Nat × Nat) × Nat} (hp_ : p_ ≤ n_) (hk_ : lx_kd b_ n_ p_ ≠ 0) (h_ : z_u5 b_ n_ A_ N_ M_ p_ = .inr a_) : z_nw b_ n_ A_ M_ p_ = .inr a_.1 ∧ (0 ≤ p_fm b_ n_ N_ M_ a_.1.2 ∧ p_fm b_ n_ N_ M_ a_.1.2 < (M_ : Int)) ∧ p_ + 3 < a_.2 ∧ a_.2 ≤ n_ ∧ lx_kd b_ n_ a_.2 ≠ -1 := by
  obtain ⟨a4_, h1_, h_⟩ := pb_inr h_
  obtain ⟨v_, h2_, h_⟩ := pb_inr h_
  cases h_
  obtain ⟨a3_, h3_, h1_⟩ := pb_inr h1_
  obtain ⟨u_, h4_, h1_⟩ := pb_inr h1_
  cases h1_
  obtain ⟨a2_, h5_, h3_⟩ := pb_inr h3_
  split at h3_
  · cases h3_
  · rename_i g_
    cases h3_
    obtain ⟨a1_, h6_, h5_⟩ := pb_inr h5_
    obtain ⟨y_, h7_, h5_⟩ := pb_inr h5_
    cases h5_
    have k1_ := z_nw_ok hp_ hk_ h6_
    have k0_ : lx_kd b_ n_ a3_.2 = 1 := by
      unfold p_du at h7_
      split at h7_
      · assumption
      · cases h7_
    have k2_ := p_ad_ok k1_.2.2.2.2.1 (by omega) h4_
    have k3_ := nd_ok k2_.2.2.1 (by decide) h2_
    have k4_ := fm_b (b_ := b_) (n_ := n_) (M_ := M_) (r_ := a3_.2) (N_ := N_)
    have k5_ : u_ < v_ := k3_.1
    have k6_ := k1_.2.2.1
    have k7_ := k1_.2.2.2.1
    have k8_ := k2_.2.1
    exact ⟨h6_, ⟨by show 0 ≤ p_fm b_ n_ N_ M_ a3_.2; omega, k4_.2⟩, by show p_ + 3 < v_; omega, k3_.2.1, k3_.2.2.1⟩
theorem us_ok {b_ : Nat → Int} {n_ M_ p_ : Nat} {A_ : pA} {N_ : Nat → Nat} {c_ : List Int} {r_ : pT} (hn_ : n_ ≤ 1280) (hA_ : a_ok b_ n_ A_ M_) (hp_ : p_ ≤ n_) (hk_ : lx_kd b_ n_ p_ ≠ 0) (hc_ : c_.length ≤ 3 * p_) (h_ : p_us b_ n_ A_ N_ M_ c_ p_ = .inr r_) : a_ok b_ n_ r_.1 M_ ∧ r_.2.1.length ≤ 3 * r_.2.2 ∧ p_ < r_.2.2 := by
  rw [us_eq] at h_
  obtain ⟨a_, h1_, h_⟩ := pb_inr h_
  cases h_
  obtain ⟨a1_, h2_, h1_⟩ := pb_inr h1_
  obtain ⟨a0_, h3_, h2_⟩ := pb_inr h2_
  obtain ⟨x_, h4_, h2_⟩ := pb_inr h2_
  cases h2_
  obtain ⟨y_, h5_, h1_⟩ := pb_inr h1_
  cases h1_
  have k1_ := u5_ok hp_ hk_ h3_
  have k2_ := z_nw_ok hp_ hk_ k1_.1
  have k3_ := ua_ok hn_ hA_ k1_.2.2.2.1 k1_.2.2.2.2 (by have := k1_.2.2.1; simp only [List.length_cons]; omega) h4_
  have k4_ := nd_ok k3_.2.2.1 (by decide) h5_
  have k5_ := (hA_.2 M_ (Nat.le_refl M_)).1
  have k6_ := k2_.2.1
  have k7_ : x_.2 < y_ := k4_.1
  have k8_ := k1_.2.1
  have k9_ := k3_.2.1
  have k10_ := k1_.2.2.1
  have hM_ := hA_.1
  refine ⟨a_te_ok hA_ (by omega) k2_.1 (by decide) (by decide) (fun z_ => absurd rfl z_) (fun _ => k8_) ⟨k8_.1, by show p_fm b_ n_ N_ M_ a0_.1.2 ≤ 255; omega⟩, ?_, ?_⟩
  · show x_.1.length + 1 ≤ 3 * y_
    have := k3_.1
    omega
  · show p_ < y_
    omega
def r_m2 (mr_ : Int) (S_ : sm_S) : Nat := if S_.1 13 0 10 ≠ 0 ∨ mr_ = 0 then 10 else (2622 - 2 * S_.2.2.1 120 0 (S_.1 13 0 9).toNat).toNat
def r_m3 (S_ : sm_S) : Nat := if S_.1 13 0 10 ≠ 0 then 11 else (2623 - 2 * S_.2.2.1 120 0 (S_.1 13 0 9).toNat).toNat
theorem rm2_x {b_ : Nat → Int} {n_ T_ p_ : Nat} {S_ : sm_S} {k_ : Int} (ht_ : rtab b_ n_ T_ S_) (hg_ : rg b_ n_ T_ (.inr p_) S_) (hk_ : k_ ≠ 0) : r_m2 k_ S_ = 2622 - 2 * p_ ∧ p_ ≤ 1280 := by
  have h1_ := rg_le ht_ hg_
  have hn_ := ht_.1
  unfold r_m2
  rw [if_neg (by rintro (z_ | z_); exact z_ hg_.1; exact hk_ z_), h1_.2.2]
  omega
theorem rm3_x {b_ : Nat → Int} {n_ T_ p_ : Nat} {S_ : sm_S} (ht_ : rtab b_ n_ T_ S_) (hg_ : rg b_ n_ T_ (.inr p_) S_) : r_m3 S_ = 2623 - 2 * p_ ∧ p_ ≤ 1280 := by
  have h1_ := rg_le ht_ hg_
  have hn_ := ht_.1
  unfold r_m3
  rw [if_neg (by intro z_; exact z_ hg_.1), h1_.2.2]
  omega
/-- the_ arguments: decided wrong, or so_ many read -/
def u_w (b_ : Nat → Int) (n_ T_ : Nat) (Z_ : pE pU) (S_ : sm_S) : Prop := ∃ e_, Z_ = .inl e_ ∧ rg b_ n_ T_ (.inl e_) S_
def u_r (b_ : Nat → Int) (n_ T_ : Nat) (A_ : pA) (N_ : Nat → Nat) (M_ p_ : Nat) (Z_ : pE pU) (j_ : Nat) (S_ : sm_S) : Prop := ∃ a_ f_ c1_ p1_, z_u5 b_ n_ A_ N_ M_ p_ = .inr a_ ∧ rg b_ n_ T_ (.inr p1_) S_ ∧ Z_ = (pb (p_ar b_ n_ A_ M_ (p_fm b_ n_ N_ M_ a_.1.2).toNat (A_.1 M_) a_.1.1 f_ (p_nth A_ (p_fm b_ n_ N_ M_ a_.1.2).toNat j_) c1_ p1_) fun x_ => .inr (a_.1, x_)) ∧ n_ < p1_ + f_ ∧ c1_.length ≤ 3 * p1_ ∧ j_ ≤ p1_
def u_e (b_ : Nat → Int) (n_ T_ : Nat) (A_ : pA) (N_ : Nat → Nat) (M_ p_ : Nat) (Z_ : pE pU) (t_ : Bool) (S_ : sm_S) : Prop := ∃ a_ c1_ p1_, z_u5 b_ n_ A_ N_ M_ p_ = .inr a_ ∧ rg b_ n_ T_ (.inr p1_) S_ ∧ Z_ = (pb (p_ae b_ n_ a_.1.1 t_ c1_ p1_) fun x_ => .inr (a_.1, x_))
def p_an (b_ : Nat → Int) (n_ : Nat) (A_ : pA) (M_ m_ s_ pl_ f_ : Nat) (i_ : Int) (x_ : pR) : pE (List Int × Nat) := if lx_kd b_ n_ x_.1 = 44 then (if p_a2 A_ m_ i_ = -1 then .inl (14, pl_) else pb (p_ad b_ n_ x_.1) fun q_ => p_ar b_ n_ A_ M_ m_ s_ pl_ f_ (p_a2 A_ m_ i_) (p_a1 A_ m_ s_ i_ x_.2.2) q_) else p_ae b_ n_ pl_ (decide (i_ = -1 ∨ p_a2 A_ m_ i_ ≠ -1)) (p_a1 A_ m_ s_ i_ x_.2.2) x_.1
def u_n (b_ : Nat → Int) (n_ T_ : Nat) (A_ : pA) (N_ : Nat → Nat) (M_ p_ : Nat) (Z_ : pE pU) (j_ : Nat) (S_ : sm_S) : Prop := ∃ a_ f_ x_, z_u5 b_ n_ A_ N_ M_ p_ = .inr a_ ∧ rg b_ n_ T_ (.inr x_.1) S_ ∧ Z_ = (pb (p_an b_ n_ A_ M_ (p_fm b_ n_ N_ M_ a_.1.2).toNat (A_.1 M_) a_.1.1 f_ (p_nth A_ (p_fm b_ n_ N_ M_ a_.1.2).toNat j_) x_) fun x_ => .inr (a_.1, x_)) ∧ n_ < x_.1 + 1 + f_ ∧ x_.2.2.length ≤ 3 * x_.1 ∧ j_ < x_.1

theorem rm2_b {k_ : Int} {S_ : sm_S} (hI_ : gi S_) : r_m2 k_ S_ ≤ 3000 := by
  have z_ : 0 ≤ S_.2.2.1 120 0 (S_.1 13 0 9).toNat ∧ S_.2.2.1 120 0 (S_.1 13 0 9).toNat ≤ 1280 := hI_.2 120 0 _
  unfold r_m2
  split <;> omega
theorem rm2_lo (k_ : Int) (S_ : sm_S) (hI_ : gi S_) : 10 ≤ r_m2 k_ S_ := by
  have z_ : 0 ≤ S_.2.2.1 120 0 (S_.1 13 0 9).toNat ∧ S_.2.2.1 120 0 (S_.1 13 0 9).toNat ≤ 1280 := hI_.2 120 0 _
  unfold r_m2
  split <;> omega
theorem rm2_w {mr_ : Int} {S_ : sm_S} (h_ : S_.1 13 0 10 ≠ 0 ∨ mr_ = 0) : r_m2 mr_ S_ = 10 := if_pos h_
theorem rm3_w {b_ : Nat → Int} {n_ T_ : Nat} {e_ : Int × Nat} {S_ : sm_S} (h_ : rg b_ n_ T_ (.inl e_) S_) : r_m3 S_ = 11 := if_pos (by rw [h_.1]; exact h_.2.2)
theorem ni_t {b_ : Nat → Int} {n_ M_ m_ : Nat} {A_ : pA} {v_ : Int} (h_ : a_ok b_ n_ A_ M_) (hm_ : m_ ≤ M_) (hv_ : v_ = (p_cn (g_in A_ m_) (A_.1 m_) : Nat)) : decide (p_ni A_ m_ 0 ≠ -1) = decide ((0 : Int) ≠ v_) := by
  have z_ : p_ni A_ m_ 0 = -1 ↔ p_cn (g_in A_ m_) (A_.1 m_) ≤ 0 := p_nth_n h_ hm_ 0
  rw [hv_]
  refine decide_eq_decide.mpr ⟨fun y1_ y2_ => y1_ (z_.mpr (by omega)), fun y1_ y2_ => ?_⟩
  have := z_.mp y2_
  omega
theorem nth_t {b_ : Nat → Int} {n_ M_ m_ : Nat} {A_ : pA} (h_ : a_ok b_ n_ A_ M_) (hm_ : m_ ≤ M_) (j_ : Nat) : (p_nth A_ m_ j_ = -1 ∨ p_a2 A_ m_ (p_nth A_ m_ j_) ≠ -1) ↔ p_cn (g_in A_ m_) (A_.1 m_) ≠ j_ + 1 := by
  have h1_ := p_nth_n h_ hm_ j_
  have h2_ : p_a2 A_ m_ (p_nth A_ m_ j_) = -1 ↔ p_cn (g_in A_ m_) (A_.1 m_) ≤ j_ + 1 := p_nth_n h_ hm_ (j_ + 1)
  rw [h1_]
  constructor
  · rintro (z_ | z_) y_
    · omega
    · exact z_ (h2_.mpr (by omega))
  · intro y_
    by_cases g_ : p_cn (g_in A_ m_) (A_.1 m_) ≤ j_
    · exact Or.inl g_
    · exact Or.inr (fun z_ => by have := h2_.mp z_; omega)
/-! M_.tellInstance -/
def vw_338 : sx_Wl := ([(13, 9), (13, 10), (13, 11), (13, 25), (13, 26), (13, 32), (13, 33), (13, 34)], [126, 127, 128, 129, 130, 131, 132, 133, 134, 135, 136, 137, 138, 139], [])
def vq_338 (m_ : Int) (b_ : Nat → Int) (n_ : Nat) (T_ : Nat) (A_ : pA) (M_ : Nat) (c_ : List Int) (p_ : Nat) (N_ : Nat → Nat) (S0_ : sm_S) (u_ : Option sm_V) (S1_ : sm_S) : Prop := u_ = none ∧ gi S1_ ∧ ai_fr (sx_W vw_338) S0_ S1_ ∧ (rm b_ n_ T_ M_ (p_us b_ n_ A_ N_ M_ c_ p_) S1_)
set_option maxHeartbeats 2000000 in
set_option maxRecDepth 20000 in
theorem vl_338 {sc_ : Nat × (Nat → Int)} (m_ : Int) (b_ : Nat → Int) (n_ : Nat) (T_ : Nat) (A_ : pA) (M_ : Nat) (c_ : List Int) (p_ : Nat) (N_ : Nat → Nat) (S0_ : sm_S) (ht_ : rtab b_ n_ T_ S0_) (hx_ : rg b_ n_ T_ (.inr p_) S0_) (hk_ : lx_kd b_ n_ p_ ≠ 0) (hmo_ : (S0_.1 13 0 27) = 0) (hmm_ : m_ = (M_ : Int) ∧ M_ ≤ 15) (hmd_ : (S0_.1 13 0 28) = (M_ : Int)) (hA_ : a_ok b_ n_ A_ M_) (hre_ : ∀ m_, m_ ≤ M_ → re1 b_ n_ T_ A_ m_ S0_) (hrs_ : ∀ m_, m_ ≤ M_ → rs1 A_ m_ S0_) (hc_ : c_.length ≤ 3 * p_) (hms_ : (S0_.1 13 0 12) = (M_ : Int)) (hN_ : rnr b_ n_ T_ N_ M_ S0_) : ∀ nn_ : Nat, (∀ (t2_ : Int) (mi_ : Int) (S_ : sm_S), gi S_ → ai_fr (sx_W vw_338) S0_ S_ → ((rg b_ n_ T_ (pb (z_u3 b_ n_ A_ N_ M_ p_) fun a_ => .inr a_.2) S_) ∧ (∀ a_, (z_u3 b_ n_ A_ N_ M_ p_) = .inr a_ → mi_ = p_fm b_ n_ N_ M_ a_.2) ∧ (∀ a_, z_nw b_ n_ A_ M_ p_ = .inr a_ → rtk b_ n_ T_ t2_ a_.1) ∧ (∀ m_, m_ ≤ M_ → re1 b_ n_ T_ A_ m_ S_) ∧ (∀ m_, m_ ≤ M_ → rs1 A_ m_ S_) ∧ ((0 ≤ t2_ ∧ t2_ ≤ 1280) ∧ (-1 ≤ mi_ ∧ mi_ ≤ 15)) ∧ True) → ((9000 : Nat)) < nn_ → sm_T (mt_P sc_) 8 338 (58, [some (.inr (.inr (some (13, 0)))), some (.inl m_), some (.inl t2_), none, some (.inl mi_), none, none, none, none], [], S_) (fun r_ => ∃ u_ S1_, r_ = (.inl u_, S1_, 0) ∧ vq_338 m_ b_ n_ T_ A_ M_ c_ p_ N_ S0_ u_ S1_)) ∧ (∀ (t2_ : Int) (mi_ : Int) (many : Int) (j_ : Int) (mr_ : Int) (S_ : sm_S), gi S_ → ai_fr (sx_W vw_338) S0_ S_ → ((∀ m_, m_ ≤ M_ → re1 b_ n_ T_ A_ m_ S_) ∧ (∀ m_, m_ ≤ M_ → rs1 A_ m_ S_) ∧ (∀ a_, (z_u5 b_ n_ A_ N_ M_ p_) = .inr a_ → mi_ = p_fm b_ n_ N_ M_ a_.1.2 ∧ (0 ≤ mi_ ∧ mi_ < (M_ : Int)) ∧ many = (p_cn (g_in A_ mi_.toNat) (A_.1 mi_.toNat) : Nat) ∧ rtk b_ n_ T_ t2_ a_.1.1) ∧ ((0 ≤ t2_ ∧ t2_ ≤ 1280) ∧ (-1 ≤ mi_ ∧ mi_ ≤ 15) ∧ (0 ≤ many ∧ many ≤ 40) ∧ 0 ≤ j_ ∧ j_ ≤ 1290) ∧ (u_w b_ n_ T_ (z_ua b_ n_ A_ N_ M_ c_ p_) S_ ∨ (mr_ = 1 ∧ u_r b_ n_ T_ A_ N_ M_ p_ (z_ua b_ n_ A_ N_ M_ c_ p_) j_.toNat S_) ∨ (mr_ = 0 ∧ u_e b_ n_ T_ A_ N_ M_ p_ (z_ua b_ n_ A_ N_ M_ c_ p_) (decide (j_ ≠ many)) S_)) ∧ (mr_ = 0 ∨ mr_ = 1) ∧ True) → (r_m2 mr_ S_) < nn_ → sm_T (mt_P sc_) 8 338 (114, [some (.inr (.inr (some (13, 0)))), some (.inl m_), some (.inl t2_), none, some (.inl mi_), some (.inl many), some (.inl j_), some (.inl mr_), none], [], S_) (fun r_ => ∃ u_ S1_, r_ = (.inl u_, S1_, 0) ∧ vq_338 m_ b_ n_ T_ A_ M_ c_ p_ N_ S0_ u_ S1_)) ∧ (∀ (t2_ : Int) (mi_ : Int) (many : Int) (j_ : Int) (S_ : sm_S), gi S_ → ai_fr (sx_W vw_338) S0_ S_ → ((∀ m_, m_ ≤ M_ → re1 b_ n_ T_ A_ m_ S_) ∧ (∀ m_, m_ ≤ M_ → rs1 A_ m_ S_) ∧ (∀ a_, (z_u5 b_ n_ A_ N_ M_ p_) = .inr a_ → mi_ = p_fm b_ n_ N_ M_ a_.1.2 ∧ (0 ≤ mi_ ∧ mi_ < (M_ : Int)) ∧ many = (p_cn (g_in A_ mi_.toNat) (A_.1 mi_.toNat) : Nat) ∧ rtk b_ n_ T_ t2_ a_.1.1) ∧ ((0 ≤ t2_ ∧ t2_ ≤ 1280) ∧ (-1 ≤ mi_ ∧ mi_ ≤ 15) ∧ (0 ≤ many ∧ many ≤ 40) ∧ 0 ≤ j_ ∧ j_ ≤ 1290) ∧ (u_w b_ n_ T_ (z_ua b_ n_ A_ N_ M_ c_ p_) S_ ∨ u_n b_ n_ T_ A_ N_ M_ p_ (z_ua b_ n_ A_ N_ M_ c_ p_) j_.toNat S_) ∧ (j_ ≤ 1285) ∧ True) → (r_m3 S_) < nn_ → sm_T (mt_P sc_) 8 338 (187, [some (.inr (.inr (some (13, 0)))), some (.inl m_), some (.inl t2_), none, some (.inl mi_), some (.inl many), some (.inl j_), none, none], [], S_) (fun r_ => ∃ u_ S1_, r_ = (.inl u_, S1_, 0) ∧ vq_338 m_ b_ n_ T_ A_ M_ c_ p_ N_ S0_ u_ S1_)) ∧ (∀ (t2_ : Int) (mi_ : Int) (many : Int) (j_ : Int) (S_ : sm_S), gi S_ → ai_fr (sx_W vw_338) S0_ S_ → ((∀ m_, m_ ≤ M_ → re1 b_ n_ T_ A_ m_ S_) ∧ (∀ m_, m_ ≤ M_ → rs1 A_ m_ S_) ∧ (∀ a_, (z_u5 b_ n_ A_ N_ M_ p_) = .inr a_ → mi_ = p_fm b_ n_ N_ M_ a_.1.2 ∧ (0 ≤ mi_ ∧ mi_ < (M_ : Int)) ∧ many = (p_cn (g_in A_ mi_.toNat) (A_.1 mi_.toNat) : Nat) ∧ rtk b_ n_ T_ t2_ a_.1.1) ∧ ((0 ≤ t2_ ∧ t2_ ≤ 1280) ∧ (-1 ≤ mi_ ∧ mi_ ≤ 15) ∧ (0 ≤ many ∧ many ≤ 40) ∧ 0 ≤ j_ ∧ j_ ≤ 1290) ∧ (u_w b_ n_ T_ (z_ua b_ n_ A_ N_ M_ c_ p_) S_ ∨ u_e b_ n_ T_ A_ N_ M_ p_ (z_ua b_ n_ A_ N_ M_ c_ p_) (decide (j_ ≠ many)) S_) ∧ True) → ((6 : Nat)) < nn_ → sm_T (mt_P sc_) 8 338 (244, [some (.inr (.inr (some (13, 0)))), some (.inl m_), some (.inl t2_), none, some (.inl mi_), some (.inl many), some (.inl j_), none, none], [], S_) (fun r_ => ∃ u_ S1_, r_ = (.inl u_, S1_, 0) ∧ vq_338 m_ b_ n_ T_ A_ M_ c_ p_ N_ S0_ u_ S1_)) ∧ (∀ (t2_ : Int) (mi_ : Int) (S_ : sm_S), gi S_ → ai_fr (sx_W vw_338) S0_ S_ → ((∀ m_, m_ ≤ M_ → re1 b_ n_ T_ A_ m_ S_) ∧ (∀ m_, m_ ≤ M_ → rs1 A_ m_ S_) ∧ (∀ a_, (z_u5 b_ n_ A_ N_ M_ p_) = .inr a_ → mi_ = p_fm b_ n_ N_ M_ a_.1.2 ∧ (0 ≤ mi_ ∧ mi_ < (M_ : Int)) ∧ rtk b_ n_ T_ t2_ a_.1.1) ∧ ((0 ≤ t2_ ∧ t2_ ≤ 1280) ∧ (-1 ≤ mi_ ∧ mi_ ≤ 15)) ∧ (∃ x9_, rg b_ n_ T_ x9_ S_ ∧ (pb (z_ua b_ n_ A_ N_ M_ c_ p_) fun a_ => .inr a_.2.2) = pb x9_ (p_nd b_ n_ 41)) ∧ True) → ((4 : Nat)) < nn_ → sm_T (mt_P sc_) 8 338 (274, [some (.inr (.inr (some (13, 0)))), some (.inl m_), some (.inl t2_), none, some (.inl mi_), none, none, none, none], [], S_) (fun r_ => ∃ u_ S1_, r_ = (.inl u_, S1_, 0) ∧ vq_338 m_ b_ n_ T_ A_ M_ c_ p_ N_ S0_ u_ S1_)) := by
  intro nn_
  induction nn_ with
  | zero => exact ⟨fun _ _ _ _ _ _ h_ => absurd h_ (Nat.not_lt_zero _), fun _ _ _ _ _ _ _ _ _ h_ => absurd h_ (Nat.not_lt_zero _), fun _ _ _ _ _ _ _ _ h_ => absurd h_ (Nat.not_lt_zero _), fun _ _ _ _ _ _ _ _ h_ => absurd h_ (Nat.not_lt_zero _), fun _ _ _ _ _ _ h_ => absurd h_ (Nat.not_lt_zero _)⟩
  | succ nn_ ih_ =>
    refine ⟨?_, ?_, ?_, ?_, ?_⟩
    · rintro t2_ mi_ S_ hI_ hF_ ⟨g58_, mi58_, tk58_, re58_, rs58_, tb58_, -⟩ hm_
      have le0_ := rg_le ht_ hx_
      have hn1_ := ht_.1
      have hAM_ := (hA_.2 M_ (Nat.le_refl M_)).1
      have t58_ := rtab_fr ht_ hF_ rfl rfl rfl rfl rfl
      have k1u : ∀ a_, (z_u2 b_ n_ A_ M_ p_) = .inr a_ → lx_kd b_ n_ a_.2 = 1 := fun a_ ha_ => by obtain ⟨a1_, h6_, h5_⟩ := pb_inr ha_; obtain ⟨y_, h7_, h5_⟩ := pb_inr h5_; cases h5_; unfold p_du at h7_; split at h7_; assumption; cases h7_
      refine sm_T_go 1 (c1 := (59, [some (.inr (.inr (some (13, 0)))), some (.inl m_), some (.inl t2_), none, some (.inl mi_), none, none, none, none], [.inr (.inr (some (13, 0)))], S_)) rfl ?_
      refine sm_T_cal (d1 := 2) (Q1 := vq_297 b_ n_ T_ (pb (z_u3 b_ n_ A_ N_ M_ p_) fun a_ => .inr a_.2) S_) rfl rfl (by decide) (vc_297 b_ n_ T_ (pb (z_u3 b_ n_ A_ N_ M_ p_) fun a_ => .inr a_.2) S_ hI_ (by exact t58_) (by exact g58_) (by (intro q_ e_; obtain ⟨a_, h1_, h2_⟩ := pb_inr e_; cases h2_; obtain ⟨a1_, h3_, h4_⟩ := pb_inr h1_; split at h4_; (cases h4_); (cases h4_; have z_ := k1u a_ h3_; omega)))) (fun u_ Sx1_ px4_ => ?_)
      obtain ⟨rfl, hIx2_, hFx3_, px4_⟩ := px4_
      have hFx5_ : ai_fr (sx_W vw_338) S0_ Sx1_ := ai_fr_tr hF_ (fr_le hFx3_ rfl)
      have re59_ : ∀ m_, m_ ≤ M_ → re1 b_ n_ T_ A_ m_ Sx1_ := fun m_ hm_ => re1_fr (re58_ m_ hm_) hFx3_ rfl rfl rfl rfl rfl rfl
      have rs59_ : ∀ m_, m_ ≤ M_ → rs1 A_ m_ Sx1_ := fun m_ hm_ => rs1_fr (rs58_ m_ hm_) hFx3_ rfl rfl rfl rfl
      have t59_ := rtab_fr t58_ hFx3_ rfl rfl rfl rfl rfl
      have g59_ : rg b_ n_ T_ (pb (z_u4 b_ n_ A_ N_ M_ p_) fun a_ => .inr a_.2) Sx1_ := rg_pb px4_.1 (fun a_ _ => by rw [pb_as]; exact pb_id.symm)
      refine sm_T_go 2 (c1 := (65, [some (.inr (.inr (some (13, 0)))), some (.inl m_), some (.inl t2_), none, some (.inl mi_), none, none, none, none], [.inl 40, .inr (.inr (some (13, 0)))], Sx1_)) rfl ?_
      refine sm_T_cal (d1 := 3) (Q1 := vq_300 40 b_ n_ T_ (pb (z_u4 b_ n_ A_ N_ M_ p_) fun a_ => .inr a_.2) Sx1_) rfl rfl (by decide) (vc_300 40 b_ n_ T_ (pb (z_u4 b_ n_ A_ N_ M_ p_) fun a_ => .inr a_.2) Sx1_ hIx2_ (by exact t59_) (by exact g59_) (by decide)) (fun u_ Sx6_ px9_ => ?_)
      obtain ⟨rfl, hIx7_, hFx8_, px9_⟩ := px9_
      have hFx10_ : ai_fr (sx_W vw_338) S0_ Sx6_ := ai_fr_tr hFx5_ (fr_le hFx8_ rfl)
      have re65_ : ∀ m_, m_ ≤ M_ → re1 b_ n_ T_ A_ m_ Sx6_ := fun m_ hm_ => re1_fr (re59_ m_ hm_) hFx8_ rfl rfl rfl rfl rfl rfl
      have rs65_ : ∀ m_, m_ ≤ M_ → rs1 A_ m_ Sx6_ := fun m_ hm_ => rs1_fr (rs59_ m_ hm_) hFx8_ rfl rfl rfl rfl
      have t65_ := rtab_fr t59_ hFx8_ rfl rfl rfl rfl rfl
      have g65_ : rg b_ n_ T_ (pb (z_u5 b_ n_ A_ N_ M_ p_) fun a_ => .inr a_.2) Sx6_ := rg_pb px9_ (fun a_ _ => by rw [pb_as]; exact pb_id.symm)
      have mi65_ : ∀ a_, (z_u5 b_ n_ A_ N_ M_ p_) = .inr a_ → mi_ = p_fm b_ n_ N_ M_ a_.1.2 := fun a_ ha_ => by obtain ⟨a4_, h1_, h_⟩ := pb_inr ha_; obtain ⟨v_, h2_, h_⟩ := pb_inr h_; cases h_; obtain ⟨a3_, h3_, h1_⟩ := pb_inr h1_; obtain ⟨u_, h4_, h1_⟩ := pb_inr h1_; cases h1_; exact mi58_ a3_ h3_
      refine sm_T_go 1 (c1 := (69, [some (.inr (.inr (some (13, 0)))), some (.inl m_), some (.inl t2_), none, some (.inl mi_), none, none, none, none], [.inr (.inr (some (13, 0)))], Sx6_)) rfl ?_
      refine sm_T_cal (d1 := 0) (Q1 := vq_292  Sx6_) rfl rfl (by decide) (vc_292  Sx6_ hIx7_ ) (fun u_ Sx11_ px14_ => ?_)
      obtain ⟨rfl, vx16_, rfl, px14_⟩ := px14_
      have e69_ := px14_
      refine sm_T_b0 (a := 0) (z := 13) rfl (fun cx17_ => ?_) (fun cx17_ => ?_)
      · have cx17_ : vx16_ = 0 := of_decide_eq_true cx17_
        have hz_ := wr_if e69_ (by omega)
        obtain ⟨e5_, he5_⟩ := rg_wr g65_ hz_
        have uaw_ : (z_ua b_ n_ A_ N_ M_ c_ p_) = .inl e5_ := by unfold z_ua; rw [he5_]; rfl
        have g5w := g65_
        rw [he5_] at g5w
        refine sm_T_go 5 (c1 := (92, [some (.inr (.inr (some (13, 0)))), some (.inl m_), some (.inl t2_), none, some (.inl mi_), some (.inl 0), some (.inl 0), none, none], [.inr (.inr (some (13, 0)))], Sx6_)) rfl ?_
        refine sm_T_cal (d1 := 0) (Q1 := vq_292  Sx6_) rfl rfl (by decide) (vc_292  Sx6_ hIx7_ ) (fun u_ Sx18_ px21_ => ?_)
        obtain ⟨rfl, vx23_, rfl, px21_⟩ := px21_
        have e92_ := px21_
        refine sm_T_b0 (a := 0) (z := 16) rfl (fun cx24_ => ?_) (fun cx24_ => ?_)
        · have cx24_ : vx23_ = 0 := of_decide_eq_true cx24_
          have hz3_ := wr_if e92_ (by omega)
          refine sm_T_go 2 (c1 := (114, [some (.inr (.inr (some (13, 0)))), some (.inl m_), some (.inl t2_), none, some (.inl mi_), some (.inl 0), some (.inl 0), some (.inl 0), none], [], Sx6_)) rfl ?_
          refine ih_.2.1 t2_ mi_ 0 0 0 Sx6_ hIx7_ hFx10_ ⟨?_, ?_, ?_, ?_, ?_, ?_, trivial⟩ ?_
          · exact re65_
          · exact rs65_
          · first | (exact absurd hz3_ hz_) | (exact absurd hz_ hz3_) | (intro a_ ha_; rw [he5_] at ha_; cases ha_; done) | (intro a_ ha_; rw [ha5_] at ha_; cases ha_; exact ⟨mi5_, by omega, e79_, tk58_ _ u5_.1⟩)
          · omega
          · first | (exact absurd hz3_ hz_) | (exact absurd hz_ hz3_) | (left; exact ⟨e5_, uaw_, g5w⟩) | (right; left; refine ⟨rfl, a5_, n_ + 1, cw 15 (A_.1 M_) 0 :: c_, a5_.2, ha5_, g5r, ?_, by omega, by simp only [List.length_cons]; omega, Nat.zero_le _⟩; rw [uac_]; unfold p_ua; rw [if_neg (fun z_ => by have := (e101_ a5_.2 (by rw [ha5_]; rfl)).mpr z_; omega)]; rfl) | (right; right; refine ⟨rfl, a5_, cw 15 (A_.1 M_) 0 :: c_, a5_.2, ha5_, g5r, ?_⟩; rw [uac_]; unfold p_ua; rw [if_pos ((e101_ a5_.2 (by rw [ha5_]; rfl)).mp (by omega)), ← mN_, ni_t hA_ (show mi_.toNat ≤ M_ by omega) e79_])
          · first | (left; rfl) | (right; rfl)
          · exact Nat.lt_of_le_of_lt (rm2_b hIx7_) (by omega)
        · have cx24_ : ¬ (vx23_ = 0) := of_decide_eq_false cx24_
          have hz3_ := rt_if e92_ (by omega)
          refine sm_T_go 2 (c1 := (101, [some (.inr (.inr (some (13, 0)))), some (.inl m_), some (.inl t2_), none, some (.inl mi_), some (.inl 0), some (.inl 0), none, none], [.inl 41, .inr (.inr (some (13, 0)))], Sx6_)) rfl ?_
          refine sm_T_cal (d1 := 0) (Q1 := vq_295 41 b_ n_ T_ (pb (z_u5 b_ n_ A_ N_ M_ p_) fun a_ => .inr a_.2) Sx6_) rfl rfl (by decide) (vc_295 41 b_ n_ T_ (pb (z_u5 b_ n_ A_ N_ M_ p_) fun a_ => .inr a_.2) Sx6_ hIx7_ (by exact t65_) (by exact g65_) (by decide)) (fun u_ Sx25_ px28_ => ?_)
          obtain ⟨rfl, vx30_, rfl, px28_⟩ := px28_
          have e101_ := px28_.2
          have r101_ := px28_.1.1
          refine sm_T_b0 (a := 1) (z := 7) rfl (fun cx31_ => ?_) (fun cx31_ => ?_)
          · have cx31_ : vx30_ ≠ 0 := of_decide_eq_true cx31_
            refine sm_T_go 2 (c1 := (114, [some (.inr (.inr (some (13, 0)))), some (.inl m_), some (.inl t2_), none, some (.inl mi_), some (.inl 0), some (.inl 0), some (.inl 0), none], [], Sx6_)) rfl ?_
            refine ih_.2.1 t2_ mi_ 0 0 0 Sx6_ hIx7_ hFx10_ ⟨?_, ?_, ?_, ?_, ?_, ?_, trivial⟩ ?_
            · exact re65_
            · exact rs65_
            · first | (exact absurd hz3_ hz_) | (exact absurd hz_ hz3_) | (intro a_ ha_; rw [he5_] at ha_; cases ha_; done) | (intro a_ ha_; rw [ha5_] at ha_; cases ha_; exact ⟨mi5_, by omega, e79_, tk58_ _ u5_.1⟩)
            · omega
            · first | (exact absurd hz3_ hz_) | (exact absurd hz_ hz3_) | (left; exact ⟨e5_, uaw_, g5w⟩) | (right; left; refine ⟨rfl, a5_, n_ + 1, cw 15 (A_.1 M_) 0 :: c_, a5_.2, ha5_, g5r, ?_, by omega, by simp only [List.length_cons]; omega, Nat.zero_le _⟩; rw [uac_]; unfold p_ua; rw [if_neg (fun z_ => by have := (e101_ a5_.2 (by rw [ha5_]; rfl)).mpr z_; omega)]; rfl) | (right; right; refine ⟨rfl, a5_, cw 15 (A_.1 M_) 0 :: c_, a5_.2, ha5_, g5r, ?_⟩; rw [uac_]; unfold p_ua; rw [if_pos ((e101_ a5_.2 (by rw [ha5_]; rfl)).mp (by omega)), ← mN_, ni_t hA_ (show mi_.toNat ≤ M_ by omega) e79_])
            · first | (left; rfl) | (right; rfl)
            · exact Nat.lt_of_le_of_lt (rm2_b hIx7_) (by omega)
          · have cx31_ : ¬ (vx30_ ≠ 0) := of_decide_eq_false cx31_
            refine sm_T_go 3 (c1 := (114, [some (.inr (.inr (some (13, 0)))), some (.inl m_), some (.inl t2_), none, some (.inl mi_), some (.inl 0), some (.inl 0), some (.inl 1), none], [], Sx6_)) rfl ?_
            refine ih_.2.1 t2_ mi_ 0 0 1 Sx6_ hIx7_ hFx10_ ⟨?_, ?_, ?_, ?_, ?_, ?_, trivial⟩ ?_
            · exact re65_
            · exact rs65_
            · first | (exact absurd hz3_ hz_) | (exact absurd hz_ hz3_) | (intro a_ ha_; rw [he5_] at ha_; cases ha_; done) | (intro a_ ha_; rw [ha5_] at ha_; cases ha_; exact ⟨mi5_, by omega, e79_, tk58_ _ u5_.1⟩)
            · omega
            · first | (exact absurd hz3_ hz_) | (exact absurd hz_ hz3_) | (left; exact ⟨e5_, uaw_, g5w⟩) | (right; left; refine ⟨rfl, a5_, n_ + 1, cw 15 (A_.1 M_) 0 :: c_, a5_.2, ha5_, g5r, ?_, by omega, by simp only [List.length_cons]; omega, Nat.zero_le _⟩; rw [uac_]; unfold p_ua; rw [if_neg (fun z_ => by have := (e101_ a5_.2 (by rw [ha5_]; rfl)).mpr z_; omega)]; rfl) | (right; right; refine ⟨rfl, a5_, cw 15 (A_.1 M_) 0 :: c_, a5_.2, ha5_, g5r, ?_⟩; rw [uac_]; unfold p_ua; rw [if_pos ((e101_ a5_.2 (by rw [ha5_]; rfl)).mp (by omega)), ← mN_, ni_t hA_ (show mi_.toNat ≤ M_ by omega) e79_])
            · first | (left; rfl) | (right; rfl)
            · exact Nat.lt_of_le_of_lt (rm2_b hIx7_) (by omega)
      · have cx17_ : ¬ (vx16_ = 0) := of_decide_eq_false cx17_
        have hz_ := rt_if e69_ (by omega)
        obtain ⟨a5_, ha5_⟩ := rg_rt g65_ hz_
        have g5r := rg_at g65_ ha5_
        have u5_ := u5_ok le0_.1 hk_ ha5_
        have mi5_ := mi65_ a5_ ha5_
        have u5b := u5_.2.1
        have mN_ : mi_.toNat = (p_fm b_ n_ N_ M_ a5_.1.2).toNat := by omega
        have Am_ := (hA_.2 mi_.toNat (by omega)).1
        have uac_ : (z_ua b_ n_ A_ N_ M_ c_ p_) = (pb (p_ua b_ n_ A_ M_ (p_fm b_ n_ N_ M_ a5_.1.2).toNat (A_.1 M_) a5_.1.1 (cw 15 (A_.1 M_) 0 :: c_) a5_.2) fun x_ => .inr (a5_.1, x_)) := by unfold z_ua; rw [ha5_]; rfl
        refine sm_T_go 3 (c1 := (79, [some (.inr (.inr (some (13, 0)))), some (.inl m_), some (.inl t2_), none, some (.inl mi_), none, none, none, none], [.inl 1, .inl mi_, .inr (.inr (some (13, 0)))], Sx6_)) rfl ?_
        refine sm_T_cal (d1 := 0) (Q1 := vq_305 mi_ 1 b_ n_ T_ A_ mi_.toNat Sx6_) rfl rfl (by decide) (vc_305 mi_ 1 b_ n_ T_ A_ mi_.toNat Sx6_ hIx7_ (by omega) (by exact re65_ mi_.toNat (by omega)) (by exact Am_)) (fun u_ Sx32_ px35_ => ?_)
        obtain ⟨rfl, vx37_, rfl, px35_⟩ := px35_
        have e79_ : vx37_ = (p_cn (g_in A_ mi_.toNat) (A_.1 mi_.toNat) : Nat) := px35_
        have cb79_ := p_cn_b (g_ := g_in A_ mi_.toNat) (A_.1 mi_.toNat)
        refine sm_T_go 5 (c1 := (92, [some (.inr (.inr (some (13, 0)))), some (.inl m_), some (.inl t2_), none, some (.inl mi_), some (.inl vx37_), some (.inl 0), none, none], [.inr (.inr (some (13, 0)))], Sx6_)) rfl ?_
        refine sm_T_cal (d1 := 0) (Q1 := vq_292  Sx6_) rfl rfl (by decide) (vc_292  Sx6_ hIx7_ ) (fun u_ Sx38_ px41_ => ?_)
        obtain ⟨rfl, vx43_, rfl, px41_⟩ := px41_
        have e92_ := px41_
        refine sm_T_b0 (a := 0) (z := 16) rfl (fun cx44_ => ?_) (fun cx44_ => ?_)
        · have cx44_ : vx43_ = 0 := of_decide_eq_true cx44_
          have hz3_ := wr_if e92_ (by omega)
          refine sm_T_go 2 (c1 := (114, [some (.inr (.inr (some (13, 0)))), some (.inl m_), some (.inl t2_), none, some (.inl mi_), some (.inl vx37_), some (.inl 0), some (.inl 0), none], [], Sx6_)) rfl ?_
          refine ih_.2.1 t2_ mi_ vx37_ 0 0 Sx6_ hIx7_ hFx10_ ⟨?_, ?_, ?_, ?_, ?_, ?_, trivial⟩ ?_
          · exact re65_
          · exact rs65_
          · first | (exact absurd hz3_ hz_) | (exact absurd hz_ hz3_) | (intro a_ ha_; rw [he5_] at ha_; cases ha_; done) | (intro a_ ha_; rw [ha5_] at ha_; cases ha_; exact ⟨mi5_, by omega, e79_, tk58_ _ u5_.1⟩)
          · omega
          · first | (exact absurd hz3_ hz_) | (exact absurd hz_ hz3_) | (left; exact ⟨e5_, uaw_, g5w⟩) | (right; left; refine ⟨rfl, a5_, n_ + 1, cw 15 (A_.1 M_) 0 :: c_, a5_.2, ha5_, g5r, ?_, by omega, by simp only [List.length_cons]; omega, Nat.zero_le _⟩; rw [uac_]; unfold p_ua; rw [if_neg (fun z_ => by have := (e101_ a5_.2 (by rw [ha5_]; rfl)).mpr z_; omega)]; rfl) | (right; right; refine ⟨rfl, a5_, cw 15 (A_.1 M_) 0 :: c_, a5_.2, ha5_, g5r, ?_⟩; rw [uac_]; unfold p_ua; rw [if_pos ((e101_ a5_.2 (by rw [ha5_]; rfl)).mp (by omega)), ← mN_, ni_t hA_ (show mi_.toNat ≤ M_ by omega) e79_])
          · first | (left; rfl) | (right; rfl)
          · exact Nat.lt_of_le_of_lt (rm2_b hIx7_) (by omega)
        · have cx44_ : ¬ (vx43_ = 0) := of_decide_eq_false cx44_
          have hz3_ := rt_if e92_ (by omega)
          refine sm_T_go 2 (c1 := (101, [some (.inr (.inr (some (13, 0)))), some (.inl m_), some (.inl t2_), none, some (.inl mi_), some (.inl vx37_), some (.inl 0), none, none], [.inl 41, .inr (.inr (some (13, 0)))], Sx6_)) rfl ?_
          refine sm_T_cal (d1 := 0) (Q1 := vq_295 41 b_ n_ T_ (pb (z_u5 b_ n_ A_ N_ M_ p_) fun a_ => .inr a_.2) Sx6_) rfl rfl (by decide) (vc_295 41 b_ n_ T_ (pb (z_u5 b_ n_ A_ N_ M_ p_) fun a_ => .inr a_.2) Sx6_ hIx7_ (by exact t65_) (by exact g65_) (by decide)) (fun u_ Sx45_ px48_ => ?_)
          obtain ⟨rfl, vx50_, rfl, px48_⟩ := px48_
          have e101_ := px48_.2
          have r101_ := px48_.1.1
          refine sm_T_b0 (a := 1) (z := 7) rfl (fun cx51_ => ?_) (fun cx51_ => ?_)
          · have cx51_ : vx50_ ≠ 0 := of_decide_eq_true cx51_
            refine sm_T_go 2 (c1 := (114, [some (.inr (.inr (some (13, 0)))), some (.inl m_), some (.inl t2_), none, some (.inl mi_), some (.inl vx37_), some (.inl 0), some (.inl 0), none], [], Sx6_)) rfl ?_
            refine ih_.2.1 t2_ mi_ vx37_ 0 0 Sx6_ hIx7_ hFx10_ ⟨?_, ?_, ?_, ?_, ?_, ?_, trivial⟩ ?_
            · exact re65_
            · exact rs65_
            · first | (exact absurd hz3_ hz_) | (exact absurd hz_ hz3_) | (intro a_ ha_; rw [he5_] at ha_; cases ha_; done) | (intro a_ ha_; rw [ha5_] at ha_; cases ha_; exact ⟨mi5_, by omega, e79_, tk58_ _ u5_.1⟩)
            · omega
            · first | (exact absurd hz3_ hz_) | (exact absurd hz_ hz3_) | (left; exact ⟨e5_, uaw_, g5w⟩) | (right; left; refine ⟨rfl, a5_, n_ + 1, cw 15 (A_.1 M_) 0 :: c_, a5_.2, ha5_, g5r, ?_, by omega, by simp only [List.length_cons]; omega, Nat.zero_le _⟩; rw [uac_]; unfold p_ua; rw [if_neg (fun z_ => by have := (e101_ a5_.2 (by rw [ha5_]; rfl)).mpr z_; omega)]; rfl) | (right; right; refine ⟨rfl, a5_, cw 15 (A_.1 M_) 0 :: c_, a5_.2, ha5_, g5r, ?_⟩; rw [uac_]; unfold p_ua; rw [if_pos ((e101_ a5_.2 (by rw [ha5_]; rfl)).mp (by omega)), ← mN_, ni_t hA_ (show mi_.toNat ≤ M_ by omega) e79_])
            · first | (left; rfl) | (right; rfl)
            · exact Nat.lt_of_le_of_lt (rm2_b hIx7_) (by omega)
          · have cx51_ : ¬ (vx50_ ≠ 0) := of_decide_eq_false cx51_
            refine sm_T_go 3 (c1 := (114, [some (.inr (.inr (some (13, 0)))), some (.inl m_), some (.inl t2_), none, some (.inl mi_), some (.inl vx37_), some (.inl 0), some (.inl 1), none], [], Sx6_)) rfl ?_
            refine ih_.2.1 t2_ mi_ vx37_ 0 1 Sx6_ hIx7_ hFx10_ ⟨?_, ?_, ?_, ?_, ?_, ?_, trivial⟩ ?_
            · exact re65_
            · exact rs65_
            · first | (exact absurd hz3_ hz_) | (exact absurd hz_ hz3_) | (intro a_ ha_; rw [he5_] at ha_; cases ha_; done) | (intro a_ ha_; rw [ha5_] at ha_; cases ha_; exact ⟨mi5_, by omega, e79_, tk58_ _ u5_.1⟩)
            · omega
            · first | (exact absurd hz3_ hz_) | (exact absurd hz_ hz3_) | (left; exact ⟨e5_, uaw_, g5w⟩) | (right; left; refine ⟨rfl, a5_, n_ + 1, cw 15 (A_.1 M_) 0 :: c_, a5_.2, ha5_, g5r, ?_, by omega, by simp only [List.length_cons]; omega, Nat.zero_le _⟩; rw [uac_]; unfold p_ua; rw [if_neg (fun z_ => by have := (e101_ a5_.2 (by rw [ha5_]; rfl)).mpr z_; omega)]; rfl) | (right; right; refine ⟨rfl, a5_, cw 15 (A_.1 M_) 0 :: c_, a5_.2, ha5_, g5r, ?_⟩; rw [uac_]; unfold p_ua; rw [if_pos ((e101_ a5_.2 (by rw [ha5_]; rfl)).mp (by omega)), ← mN_, ni_t hA_ (show mi_.toNat ≤ M_ by omega) e79_])
            · first | (left; rfl) | (right; rfl)
            · exact Nat.lt_of_le_of_lt (rm2_b hIx7_) (by omega)
    · rintro t2_ mi_ many j_ mr_ S_ hI_ hF_ ⟨re114_, rs114_, mi114_, tb114_, h1_, mrb_, -⟩ hm_
      have le0_ := rg_le ht_ hx_
      have hn1_ := ht_.1
      have hAM_ := (hA_.2 M_ (Nat.le_refl M_)).1
      have tt_ := rtab_fr ht_ hF_ rfl rfl rfl rfl rfl
      have mo9_ := (hF_.1 13 0 27 rfl).trans hmo_
      have md9_ := (hF_.1 13 0 28 rfl).trans hmd_
      refine sm_T_go 1 (c1 := (115, [some (.inr (.inr (some (13, 0)))), some (.inl m_), some (.inl t2_), none, some (.inl mi_), some (.inl many), some (.inl j_), some (.inl mr_), none], [.inr (.inr (some (13, 0)))], S_)) rfl ?_
      refine sm_T_cal (d1 := 0) (Q1 := vq_292  S_) rfl rfl (by decide) (vc_292  S_ hI_ ) (fun u_ Sx1_ px4_ => ?_)
      obtain ⟨rfl, vx6_, rfl, px4_⟩ := px4_
      have e115_ := px4_
      refine sm_T_b0 (a := 0) (z := 126) rfl (fun cx7_ => ?_) (fun cx7_ => ?_)
      · have cx7_ : vx6_ = 0 := of_decide_eq_true cx7_
        have hz_ := wr_if e115_ (by omega)
        have hw_ : u_w b_ n_ T_ (z_ua b_ n_ A_ N_ M_ c_ p_) S_ := by rcases h1_ with z_ | ⟨z1_, a_, f_, c1_, p1_, z2_, z3_, z4_⟩ | ⟨z1_, a_, c1_, p1_, z2_, z3_, z4_⟩; exact z_; (exact absurd z3_.1 hz_); (exact absurd z3_.1 hz_)
        refine sm_T_go 0 (c1 := (244, [some (.inr (.inr (some (13, 0)))), some (.inl m_), some (.inl t2_), none, some (.inl mi_), some (.inl many), some (.inl j_), some (.inl mr_), none], [], S_)) rfl ?_
        refine sm_T_wk [some (.inr (.inr (some (13, 0)))), some (.inl m_), some (.inl t2_), none, some (.inl mi_), some (.inl many), some (.inl j_), none, none] (by exact ⟨rfl, rfl, rfl, rfl, rfl, rfl, trivial⟩) ?_
        refine ih_.2.2.2.1 t2_ mi_ many j_ S_ hI_ hF_ ⟨?_, ?_, ?_, ?_, ?_, trivial⟩ ?_
        · exact re114_
        · exact rs114_
        · exact mi114_
        · omega
        · first | (left; exact hw_) | (right; exact he_)
        · (have z_ := rm2_lo mr_ S_ hI_); omega
      · have cx7_ : ¬ (vx6_ = 0) := of_decide_eq_false cx7_
        have hz_ := rt_if e115_ (by omega)
        refine sm_T_go 1 (c1 := (123, [some (.inr (.inr (some (13, 0)))), some (.inl m_), some (.inl t2_), none, some (.inl mi_), some (.inl many), some (.inl j_), some (.inl mr_), none], [.inl mr_], S_)) rfl ?_
        refine sm_T_b0 (a := 0) (z := 121) rfl (fun cx8_ => ?_) (fun cx8_ => ?_)
        · have cx8_ : mr_ = 0 := of_decide_eq_true cx8_
          have he_ : u_e b_ n_ T_ A_ N_ M_ p_ (z_ua b_ n_ A_ N_ M_ c_ p_) (decide (j_ ≠ many)) S_ := by rcases h1_ with ⟨e_, z1_, z2_⟩ | ⟨z1_, z2_⟩ | ⟨z1_, z2_⟩; (exact absurd (z2_.1.symm.trans hz_) z2_.2.2); (exfalso; omega); exact z2_
          refine sm_T_go 0 (c1 := (244, [some (.inr (.inr (some (13, 0)))), some (.inl m_), some (.inl t2_), none, some (.inl mi_), some (.inl many), some (.inl j_), some (.inl mr_), none], [], S_)) rfl ?_
          refine sm_T_wk [some (.inr (.inr (some (13, 0)))), some (.inl m_), some (.inl t2_), none, some (.inl mi_), some (.inl many), some (.inl j_), none, none] (by exact ⟨rfl, rfl, rfl, rfl, rfl, rfl, trivial⟩) ?_
          refine ih_.2.2.2.1 t2_ mi_ many j_ S_ hI_ hF_ ⟨?_, ?_, ?_, ?_, ?_, trivial⟩ ?_
          · exact re114_
          · exact rs114_
          · exact mi114_
          · omega
          · first | (left; exact hw_) | (right; exact he_)
          · (have z_ := rm2_lo mr_ S_ hI_); omega
        · have cx8_ : ¬ (mr_ = 0) := of_decide_eq_false cx8_
          obtain ⟨a5_, f5_, c5_, p5_, ha5_, g5_, hU5_, hf5_, hc5_, hj5_⟩ : u_r b_ n_ T_ A_ N_ M_ p_ (z_ua b_ n_ A_ N_ M_ c_ p_) j_.toNat S_ := by rcases h1_ with ⟨e_, z1_, z2_⟩ | ⟨z1_, z2_⟩ | ⟨z1_, z2_⟩; (exact absurd (z2_.1.symm.trans hz_) z2_.2.2); exact z2_; (exfalso; omega)
          obtain ⟨mi5_, mib_, mny_, rt5_⟩ := mi114_ a5_ ha5_
          have mN_ : mi_.toNat = (p_fm b_ n_ N_ M_ a5_.1.2).toNat := by omega
          have le5_ := rg_le tt_ g5_
          have Am_ := (hA_.2 mi_.toNat (by omega)).1
          have nn5_ := p_nth_n hA_ (show mi_.toNat ≤ M_ by omega) j_.toNat
          obtain ⟨f6_, hf6_⟩ : ∃ f6_, f5_ = f6_ + 1 := ⟨f5_ - 1, by omega⟩
          subst hf6_
          rw [p_ar] at hU5_
          rw [← mN_] at hU5_
          have rms_ := rm2_x (k_ := mr_) tt_ g5_ (by omega)
          have bx9_ : 0 ≤ S_.1 13 0 9 ∧ S_.1 13 0 9 ≤ 1280 := hI_.1 13 0 9 rfl
          refine sm_T_go 4 (c1 := (133, [some (.inr (.inr (some (13, 0)))), some (.inl m_), some (.inl t2_), none, some (.inl mi_), some (.inl many), some (.inl j_), some (.inl mr_), some (.inl (S_.1 13 0 9))], [.inr (.inr (some (13, 0)))], S_)) rfl ?_
          refine sm_T_cal (d1 := 7) (Q1 := vq_321 b_ n_ T_ 0 (.inr p5_) c5_ A_ M_ 0 (fun _ => 0) S_) rfl rfl (by decide) (vc_321 b_ n_ T_ 0 (.inr p5_) c5_ A_ M_ 0 (fun _ => 0) S_ hI_ (by exact tt_) (by exact g5_) (by exact Or.inl rfl) (by exact mo9_) (by (intro q_ hq_; cases hq_; exact ⟨hc5_, en_0 hA_ md9_ re114_⟩)) (by exact pm_0 hA_)) (fun u_ Sx10_ px13_ => ?_)
          obtain ⟨rfl, hIx11_, hFx12_, px13_⟩ := px13_
          have hFx14_ : ai_fr (sx_W vw_338) S0_ Sx10_ := ai_fr_tr hF_ (fr_le hFx12_ rfl)
          have re133_ : ∀ m_, m_ ≤ M_ → re1 b_ n_ T_ A_ m_ Sx10_ := fun m_ hm_ => re1_fr (re114_ m_ hm_) hFx12_ rfl rfl rfl rfl rfl rfl
          have rs133_ : ∀ m_, m_ ≤ M_ → rs1 A_ m_ Sx10_ := fun m_ hm_ => rs1_fr (rs114_ m_ hm_) hFx12_ rfl rfl rfl rfl
          have t133_ := rtab_fr tt_ hFx12_ rfl rfl rfl rfl rfl
          have pl133_ := fr_arr (t := 120) (i := 0) hFx12_ rfl
          have g133_ : rg b_ n_ T_ (pb (p_xd b_ n_ A_ M_ c5_ p5_) fun r_ => .inr r_.1) Sx10_ := by have z_ := px13_.1; simp only [pb_ir, xd_0] at z_; exact z_
          have v133_ : ∀ r_, p_xd b_ n_ A_ M_ c5_ p5_ = .inr r_ → Sx10_.2.2.1 138 0 (0 : Int).toNat = h_tp r_.2.1 := fun r_ hr_ => by have k_ := px13_.2 r_ (by simp only [pb_ir]; rw [xd_0]; exact hr_); exact vs_1 k_.1 k_.2
          refine sm_T_go 1 (c1 := (137, [some (.inr (.inr (some (13, 0)))), some (.inl m_), some (.inl t2_), none, some (.inl mi_), some (.inl many), some (.inl j_), some (.inl mr_), some (.inl (S_.1 13 0 9))], [.inr (.inr (some (13, 0)))], Sx10_)) rfl ?_
          refine sm_T_cal (d1 := 0) (Q1 := vq_292  Sx10_) rfl rfl (by decide) (vc_292  Sx10_ hIx11_ ) (fun u_ Sx15_ px18_ => ?_)
          obtain ⟨rfl, vx20_, rfl, px18_⟩ := px18_
          have e137_ := px18_
          refine sm_T_b0 (a := 0) (z := 47) rfl (fun cx21_ => ?_) (fun cx21_ => ?_)
          · have cx21_ : vx20_ = 0 := of_decide_eq_true cx21_
            have hz4_ := wr_if e137_ (by omega)
            obtain ⟨e6_, he6_⟩ := rg_wr g133_ hz4_
            have hw6_ : u_w b_ n_ T_ (z_ua b_ n_ A_ N_ M_ c_ p_) _ := ⟨e6_, by rw [hU5_, he6_]; rfl, by rw [he6_] at g133_; exact g133_⟩
            have t6x := t133_
            refine sm_T_go 0 (c1 := (187, [some (.inr (.inr (some (13, 0)))), some (.inl m_), some (.inl t2_), none, some (.inl mi_), some (.inl many), some (.inl j_), some (.inl mr_), some (.inl (S_.1 13 0 9))], [], Sx10_)) rfl ?_
            refine sm_T_wk [some (.inr (.inr (some (13, 0)))), some (.inl m_), some (.inl t2_), none, some (.inl mi_), some (.inl many), some (.inl j_), none, none] (by exact ⟨rfl, rfl, rfl, rfl, rfl, rfl, trivial⟩) ?_
            refine ih_.2.2.1 t2_ mi_ many j_ Sx10_ hIx11_ hFx14_ ⟨?_, ?_, ?_, ?_, ?_, ?_, trivial⟩ ?_
            · first | exact re184_ | exact re133_
            · first | exact rs184_ | exact rs133_
            · exact mi114_
            · omega
            · first | (left; exact hw6_) | (right; exact hn6_)
            · omega
            · first | (have z_ := rm3_x t6x g6_; omega) | (obtain ⟨e7_, y1_, y2_⟩ := hw6_; have z_ := rm3_w y2_; omega)
          · have cx21_ : ¬ (vx20_ = 0) := of_decide_eq_false cx21_
            have hz4_ := rt_if e137_ (by omega)
            obtain ⟨x6_, hx6_⟩ := rg_rt g133_ hz4_
            have v6_ := v133_ x6_ hx6_
            have g6_ := rg_at g133_ hx6_
            have k6_ := xd_ok hn1_ hA_ le5_.1 le5_.2.1 hc5_ hx6_
            have k61_ := k6_.1
            have k62_ := k6_.2.2.2.2.2
            rw [hx6_] at hU5_
            have t6x := t133_
            refine sm_T_go 2 (c1 := (147, [some (.inr (.inr (some (13, 0)))), some (.inl m_), some (.inl t2_), none, some (.inl mi_), some (.inl many), some (.inl j_), some (.inl mr_), some (.inl (S_.1 13 0 9))], [.inl many, .inl j_], Sx10_)) rfl ?_
            refine sm_T_br (a := 3) (z := 40) rfl (fun cx22_ => ?_) (fun cx22_ => ?_)
            · have cx22_ : many ≤ j_ := of_decide_eq_true cx22_
              have i6_ : p_nth A_ mi_.toNat j_.toNat = -1 := nn5_.mpr (by omega)
              have hn6_ : u_n b_ n_ T_ A_ N_ M_ p_ (z_ua b_ n_ A_ N_ M_ c_ p_) j_.toNat _ := ⟨a5_, f6_, x6_, ha5_, g6_, by rw [hU5_, ← mN_]; unfold p_an; simp only [pb_ir]; rw [if_neg (fun z_ => z_.1 i6_)], by omega, k62_, by omega⟩
              refine sm_T_go 0 (c1 := (187, [some (.inr (.inr (some (13, 0)))), some (.inl m_), some (.inl t2_), none, some (.inl mi_), some (.inl many), some (.inl j_), some (.inl mr_), some (.inl (S_.1 13 0 9))], [], Sx10_)) rfl ?_
              refine sm_T_wk [some (.inr (.inr (some (13, 0)))), some (.inl m_), some (.inl t2_), none, some (.inl mi_), some (.inl many), some (.inl j_), none, none] (by exact ⟨rfl, rfl, rfl, rfl, rfl, rfl, trivial⟩) ?_
              refine ih_.2.2.1 t2_ mi_ many j_ Sx10_ hIx11_ hFx14_ ⟨?_, ?_, ?_, ?_, ?_, ?_, trivial⟩ ?_
              · first | exact re184_ | exact re133_
              · first | exact rs184_ | exact rs133_
              · exact mi114_
              · omega
              · first | (left; exact hw6_) | (right; exact hn6_)
              · omega
              · first | (have z_ := rm3_x t6x g6_; omega) | (obtain ⟨e7_, y1_, y2_⟩ := hw6_; have z_ := rm3_w y2_; omega)
            · have cx22_ : ¬ (many ≤ j_) := of_decide_eq_false cx22_
              have i6_ : p_nth A_ mi_.toNat j_.toNat ≠ -1 := fun z_ => by have := nn5_.mp z_; omega
              obtain ⟨s6_, hs6_, hs7_, hs8_, hs9_⟩ : ∃ v_ : Nat, p_nth A_ mi_.toNat j_.toNat = (v_ : Int) ∧ v_ < A_.1 mi_.toNat ∧ g_in A_ mi_.toNat v_ = true ∧ p_cn (g_in A_ mi_.toNat) v_ = j_.toNat   := by rcases p_nth_r hA_ (show mi_.toNat ≤ M_ by omega) j_.toNat with z_ | z_; (exact absurd z_.1 i6_); exact z_
              refine sm_T_go 3 (c1 := (155, [some (.inr (.inr (some (13, 0)))), some (.inl m_), some (.inl t2_), none, some (.inl mi_), some (.inl many), some (.inl j_), some (.inl mr_), some (.inl (S_.1 13 0 9))], [.inl 0, .inr (.inr (some (138, 0)))], Sx10_)) rfl ?_
              refine sm_T_iald (n := 1024) rfl rfl (by omega) (by omega) ?_
              have bx23_ : (-2147483648) ≤ Sx10_.2.2.1 138 0 (0 : Int).toNat ∧ Sx10_.2.2.1 138 0 (0 : Int).toNat ≤ 2147483647 := hIx11_.2 138 0 _
              refine sm_T_go 4 (c1 := (164, [some (.inr (.inr (some (13, 0)))), some (.inl m_), some (.inl t2_), none, some (.inl mi_), some (.inl many), some (.inl j_), some (.inl mr_), some (.inl (S_.1 13 0 9))], [.inl mi_, .inl 40, .inr (.inr (some (129, 0))), .inl (Sx10_.2.2.1 138 0 (0 : Int).toNat)], Sx10_)) rfl ?_
              refine sm_T_bin (w := 40 * mi_) rfl (bi_mul (by omega) (by omega) (by omega)) ?_
              refine sm_T_go 4 (c1 := (171, [some (.inr (.inr (some (13, 0)))), some (.inl m_), some (.inl t2_), none, some (.inl mi_), some (.inl many), some (.inl j_), some (.inl mr_), some (.inl (S_.1 13 0 9))], [.inl j_, .inl 1, .inl mi_, .inr (.inr (some (13, 0))), .inl (40 * mi_), .inr (.inr (some (129, 0))), .inl (Sx10_.2.2.1 138 0 (0 : Int).toNat)], Sx10_)) rfl ?_
              refine sm_T_cal (d1 := 0) (Q1 := vq_304 mi_ 1 j_ b_ n_ T_ A_ mi_.toNat Sx10_) rfl rfl (by decide) (vc_304 mi_ 1 j_ b_ n_ T_ A_ mi_.toNat Sx10_ hIx11_ (by omega) (by exact re133_ mi_.toNat (by omega)) (by exact Am_) (by omega)) (fun u_ Sx24_ px27_ => ?_)
              obtain ⟨rfl, vx29_, rfl, px27_⟩ := px27_
              have e171_ : vx29_ = (s6_ : Int) := by rcases px27_ with ⟨z1_, z2_⟩ | ⟨u_, z1_, z2_, z3_, z4_⟩; (exfalso; have z2_ : (p_cn (g_in A_ mi_.toNat) (A_.1 mi_.toNat) : Int) ≤ j_ := z2_; omega); (rw [z1_]; have z5_ := p_cn_u (g_ := g_in A_ mi_.toNat) (u_ := u_) (v_ := s6_) z3_ hs8_ (by have z4_ : (p_cn (g_in A_ mi_.toNat) u_ : Int) = j_ := z4_; omega); rw [z5_])
              clear px27_
              have wd6_ := ((re133_ mi_.toNat (by omega)).2 s6_ hs7_).2.2.1
              have wd7_ : Sx10_.2.2.1 129 0 (40 * mi_ + vx29_).toNat = A_.2.2.2.1 (40 * mi_.toNat + s6_) := by rw [show (40 * mi_ + vx29_).toNat = 40 * mi_.toNat + s6_ by omega]; exact wd6_
              refine sm_T_bin (w := 40 * mi_ + vx29_) rfl (bi_add (by omega) (by omega) (by omega)) ?_
              refine sm_T_iald (n := 640) rfl rfl (by omega) (by omega) ?_
              have bx30_ : 0 ≤ Sx10_.2.2.1 129 0 (40 * mi_ + vx29_).toNat ∧ Sx10_.2.2.1 129 0 (40 * mi_ + vx29_).toNat ≤ 8 := hIx11_.2 129 0 _
              refine sm_T_br (a := 0) (z := 11) rfl (fun cx31_ => ?_) (fun cx31_ => ?_)
              · have cx31_ : (Sx10_.2.2.1 138 0 (0 : Int).toNat) = (Sx10_.2.2.1 129 0 (40 * mi_ + vx29_).toNat) := of_decide_eq_true cx31_
                have hn6_ : u_n b_ n_ T_ A_ N_ M_ p_ (z_ua b_ n_ A_ N_ M_ c_ p_) j_.toNat _ := ⟨a5_, f6_, x6_, ha5_, g6_, by rw [hU5_, ← mN_]; unfold p_an; simp only [pb_ir]; rw [if_neg (fun z_ => z_.2 (by rw [hs6_, Int.toNat_natCast]; omega))], by omega, k62_, by omega⟩
                refine sm_T_go 0 (c1 := (187, [some (.inr (.inr (some (13, 0)))), some (.inl m_), some (.inl t2_), none, some (.inl mi_), some (.inl many), some (.inl j_), some (.inl mr_), some (.inl (S_.1 13 0 9))], [], Sx10_)) rfl ?_
                refine sm_T_wk [some (.inr (.inr (some (13, 0)))), some (.inl m_), some (.inl t2_), none, some (.inl mi_), some (.inl many), some (.inl j_), none, none] (by exact ⟨rfl, rfl, rfl, rfl, rfl, rfl, trivial⟩) ?_
                refine ih_.2.2.1 t2_ mi_ many j_ Sx10_ hIx11_ hFx14_ ⟨?_, ?_, ?_, ?_, ?_, ?_, trivial⟩ ?_
                · first | exact re184_ | exact re133_
                · first | exact rs184_ | exact rs133_
                · exact mi114_
                · omega
                · first | (left; exact hw6_) | (right; exact hn6_)
                · omega
                · first | (have z_ := rm3_x t6x g6_; omega) | (obtain ⟨e7_, y1_, y2_⟩ := hw6_; have z_ := rm3_w y2_; omega)
              · have cx31_ : ¬ ((Sx10_.2.2.1 138 0 (0 : Int).toNat) = (Sx10_.2.2.1 129 0 (40 * mi_ + vx29_).toNat)) := of_decide_eq_false cx31_
                refine sm_T_go 3 (c1 := (184, [some (.inr (.inr (some (13, 0)))), some (.inl m_), some (.inl t2_), none, some (.inl mi_), some (.inl many), some (.inl j_), some (.inl mr_), some (.inl (S_.1 13 0 9))], [.inl (S_.1 13 0 9), .inl 13, .inr (.inr (some (13, 0)))], Sx10_)) rfl ?_
                refine sm_T_cal (d1 := 0) (Q1 := vq_294 13 (S_.1 13 0 9) Sx10_) rfl rfl (by decide) (vc_294 13 (S_.1 13 0 9) Sx10_ hIx11_ (by decide) (by omega)) (fun u_ Sx32_ px35_ => ?_)
                obtain ⟨rfl, hIx33_, hFx34_, px35_⟩ := px35_
                have hFx36_ : ai_fr (sx_W vw_338) S0_ Sx32_ := ai_fr_tr hFx14_ (fr_le hFx34_ rfl)
                have re184_ : ∀ m_, m_ ≤ M_ → re1 b_ n_ T_ A_ m_ Sx32_ := fun m_ hm_ => re1_fr (re133_ m_ hm_) hFx34_ rfl rfl rfl rfl rfl rfl
                have rs184_ : ∀ m_, m_ ≤ M_ → rs1 A_ m_ Sx32_ := fun m_ hm_ => rs1_fr (rs133_ m_ hm_) hFx34_ rfl rfl rfl rfl
                have hw6_ : u_w b_ n_ T_ (z_ua b_ n_ A_ N_ M_ c_ p_) Sx32_ := ⟨(13, p5_), by rw [hU5_]; simp only [pb_ir]; rw [if_pos ⟨i6_, by rw [hs6_, Int.toNat_natCast]; omega⟩]; rfl, by rcases px35_ with z_ | z_; (exact absurd hz4_ z_.1); (refine ⟨z_.2.1, z_.2.2.trans ?_, by show (13 : Int) ≠ 0; decide⟩; rw [pl133_]; exact le5_.2.2)⟩
                have t6y := rtab_fr t133_ hFx34_ rfl rfl rfl rfl rfl
                refine sm_T_go 0 (c1 := (187, [some (.inr (.inr (some (13, 0)))), some (.inl m_), some (.inl t2_), none, some (.inl mi_), some (.inl many), some (.inl j_), some (.inl mr_), some (.inl (S_.1 13 0 9))], [], Sx32_)) rfl ?_
                refine sm_T_wk [some (.inr (.inr (some (13, 0)))), some (.inl m_), some (.inl t2_), none, some (.inl mi_), some (.inl many), some (.inl j_), none, none] (by exact ⟨rfl, rfl, rfl, rfl, rfl, rfl, trivial⟩) ?_
                refine ih_.2.2.1 t2_ mi_ many j_ Sx32_ hIx33_ hFx36_ ⟨?_, ?_, ?_, ?_, ?_, ?_, trivial⟩ ?_
                · first | exact re184_ | exact re133_
                · first | exact rs184_ | exact rs133_
                · exact mi114_
                · omega
                · first | (left; exact hw6_) | (right; exact hn6_)
                · omega
                · first | (have z_ := rm3_x t6x g6_; omega) | (obtain ⟨e7_, y1_, y2_⟩ := hw6_; have z_ := rm3_w y2_; omega)
    · rintro t2_ mi_ many j_ S_ hI_ hF_ ⟨re187_, rs187_, mi187_, tb187_, h1_, jb_, -⟩ hm_
      have le0_ := rg_le ht_ hx_
      have hn1_ := ht_.1
      have hAM_ := (hA_.2 M_ (Nat.le_refl M_)).1
      have tt_ := rtab_fr ht_ hF_ rfl rfl rfl rfl rfl
      have mo9_ := (hF_.1 13 0 27 rfl).trans hmo_
      have md9_ := (hF_.1 13 0 28 rfl).trans hmd_
      refine sm_T_inc (a := 6) (z := 1) (v := j_) (w := j_ + 1) rfl rfl (by omega) (by omega) (by omega) ?_
      refine sm_T_go 1 (c1 := (191, [some (.inr (.inr (some (13, 0)))), some (.inl m_), some (.inl t2_), none, some (.inl mi_), some (.inl many), some (.inl (j_ + 1)), none, none], [.inr (.inr (some (13, 0)))], S_)) rfl ?_
      refine sm_T_cal (d1 := 0) (Q1 := vq_292  S_) rfl rfl (by decide) (vc_292  S_ hI_ ) (fun u_ Sx1_ px4_ => ?_)
      obtain ⟨rfl, vx6_, rfl, px4_⟩ := px4_
      have e191_ := px4_
      refine sm_T_b0 (a := 0) (z := 16) rfl (fun cx7_ => ?_) (fun cx7_ => ?_)
      · have cx7_ : vx6_ = 0 := of_decide_eq_true cx7_
        have hz_ := wr_if e191_ (by omega)
        have hw_ : u_w b_ n_ T_ (z_ua b_ n_ A_ N_ M_ c_ p_) S_ := by rcases h1_ with z_ | ⟨a_, f_, x_, z2_, z3_, z4_⟩; exact z_; (exact absurd z3_.1 hz_)
        refine sm_T_go 7 (c1 := (114, [some (.inr (.inr (some (13, 0)))), some (.inl m_), some (.inl t2_), none, some (.inl mi_), some (.inl many), some (.inl (j_ + 1)), some (.inl 0), none], [], S_)) rfl ?_
        refine ih_.2.1 t2_ mi_ many (j_ + 1) 0 S_ hI_ hF_ ⟨?_, ?_, ?_, ?_, ?_, ?_, trivial⟩ ?_
        · first | exact re238_ | exact re187_
        · first | exact rs238_ | exact rs187_
        · exact mi187_
        · omega
        · rw [show (j_ + 1).toNat = j_.toNat + 1 by omega]
          first | (left; exact hw_) | (right; right; exact ⟨rfl, he_⟩) | (left; exact ⟨_, hU6_, g238_⟩) | (cases hq_ : p_ad b_ n_ x6_.1 with | inl e_ => (left; rw [pb_ir, hq_] at g238_; exact ⟨e_, by rw [hU6_, hq_]; rfl, g238_⟩) | inr q_ => (right; left; rw [pb_ir, hq_] at g238_; have k7_ := p_ad_ok le6_.1 (by omega) hq_; have k8_ := k7_.2.1; rw [hq_] at hU6_; exact ⟨rfl, a5_, f6_, _, q_, ha5_, g238_, by rw [← mN_]; exact hU6_, by omega, by omega, by omega⟩))
        · first | (left; rfl) | (right; rfl)
        · first | (obtain ⟨e7_, y1_, y2_⟩ := hw_; have z_ := rm3_w y2_; have z2_ : r_m2 0 S_ = 10 := rm2_w (Or.inr rfl); omega) | (have z2_ : r_m2 0 S_ = 10 := rm2_w (Or.inr rfl); omega) | (have z2_ := rm2_w (mr_ := 1) (Or.inl (show _ ≠ 0 by rw [g238_.1]; exact g238_.2.2)); omega) | (cases hq_ : p_ad b_ n_ x6_.1 with | inl e_ => (rw [pb_ir, hq_] at g238_; have z2_ := rm2_w (mr_ := 1) (Or.inl (show _ ≠ 0 by rw [g238_.1]; exact g238_.2.2)); omega) | inr q_ => (rw [pb_ir, hq_] at g238_; have k7_ := p_ad_ok le6_.1 (by omega) hq_; have k8_ := k7_.2.1; have z2_ := rm2_x (k_ := 1) t238_ g238_ (by decide); omega))
      · have cx7_ : ¬ (vx6_ = 0) := of_decide_eq_false cx7_
        have hz_ := rt_if e191_ (by omega)
        obtain ⟨a5_, f6_, x6_, ha5_, g6_, hU5_, hf6_, hl6_, hj6_⟩ : u_n b_ n_ T_ A_ N_ M_ p_ (z_ua b_ n_ A_ N_ M_ c_ p_) j_.toNat S_ := by rcases h1_ with ⟨e_, z1_, z2_⟩ | z_; (exact absurd (z2_.1.symm.trans hz_) z2_.2.2); exact z_
        obtain ⟨mi5_, mib_, mny_, rt5_⟩ := mi187_ a5_ ha5_
        have mN_ : mi_.toNat = (p_fm b_ n_ N_ M_ a5_.1.2).toNat := by omega
        rw [← mN_] at hU5_
        have le6_ := rg_le tt_ g6_
        have nn6_ := p_nth_n hA_ (show mi_.toNat ≤ M_ by omega) (j_.toNat + 1)
        have nt6_ := nth_t hA_ (show mi_.toNat ≤ M_ by omega) j_.toNat
        have rms_ := rm3_x tt_ g6_
        have la_ := a1_len (A_ := A_) (m_ := mi_.toNat) (s_ := A_.1 M_) (i_ := p_nth A_ mi_.toNat j_.toNat) (l_ := x6_.2.2)
        have pt5_ := rtk_pl tt_ rt5_
        refine sm_T_go 2 (c1 := (200, [some (.inr (.inr (some (13, 0)))), some (.inl m_), some (.inl t2_), none, some (.inl mi_), some (.inl many), some (.inl (j_ + 1)), none, none], [.inl 44, .inr (.inr (some (13, 0)))], S_)) rfl ?_
        refine sm_T_cal (d1 := 0) (Q1 := vq_295 44 b_ n_ T_ (.inr x6_.1) S_) rfl rfl (by decide) (vc_295 44 b_ n_ T_ (.inr x6_.1) S_ hI_ (by exact tt_) (by exact g6_) (by decide)) (fun u_ Sx8_ px11_ => ?_)
        obtain ⟨rfl, vx13_, rfl, px11_⟩ := px11_
        have e200_ := px11_.2 x6_.1 rfl
        have r200_ := px11_.1.1
        refine sm_T_b0 (a := 0) (z := 7) rfl (fun cx14_ => ?_) (fun cx14_ => ?_)
        · have cx14_ : vx13_ = 0 := of_decide_eq_true cx14_
          have n44_ : lx_kd b_ n_ x6_.1 ≠ 44 := fun z_ => by have := e200_.mpr z_; omega
          have he_ : u_e b_ n_ T_ A_ N_ M_ p_ (z_ua b_ n_ A_ N_ M_ c_ p_) (decide (j_ + 1 ≠ many)) S_ := ⟨a5_, _, x6_.1, ha5_, g6_, by rw [hU5_]; unfold p_an; rw [if_neg n44_, show decide (p_nth A_ mi_.toNat j_.toNat = -1 ∨ p_a2 A_ mi_.toNat (p_nth A_ mi_.toNat j_.toNat) ≠ -1) = decide (j_ + 1 ≠ many) from decide_eq_decide.mpr (nt6_.trans (by omega))]⟩
          refine sm_T_go 7 (c1 := (114, [some (.inr (.inr (some (13, 0)))), some (.inl m_), some (.inl t2_), none, some (.inl mi_), some (.inl many), some (.inl (j_ + 1)), some (.inl 0), none], [], S_)) rfl ?_
          refine ih_.2.1 t2_ mi_ many (j_ + 1) 0 S_ hI_ hF_ ⟨?_, ?_, ?_, ?_, ?_, ?_, trivial⟩ ?_
          · first | exact re238_ | exact re187_
          · first | exact rs238_ | exact rs187_
          · exact mi187_
          · omega
          · rw [show (j_ + 1).toNat = j_.toNat + 1 by omega]
            first | (left; exact hw_) | (right; right; exact ⟨rfl, he_⟩) | (left; exact ⟨_, hU6_, g238_⟩) | (cases hq_ : p_ad b_ n_ x6_.1 with | inl e_ => (left; rw [pb_ir, hq_] at g238_; exact ⟨e_, by rw [hU6_, hq_]; rfl, g238_⟩) | inr q_ => (right; left; rw [pb_ir, hq_] at g238_; have k7_ := p_ad_ok le6_.1 (by omega) hq_; have k8_ := k7_.2.1; rw [hq_] at hU6_; exact ⟨rfl, a5_, f6_, _, q_, ha5_, g238_, by rw [← mN_]; exact hU6_, by omega, by omega, by omega⟩))
          · first | (left; rfl) | (right; rfl)
          · first | (obtain ⟨e7_, y1_, y2_⟩ := hw_; have z_ := rm3_w y2_; have z2_ : r_m2 0 S_ = 10 := rm2_w (Or.inr rfl); omega) | (have z2_ : r_m2 0 S_ = 10 := rm2_w (Or.inr rfl); omega) | (have z2_ := rm2_w (mr_ := 1) (Or.inl (show _ ≠ 0 by rw [g238_.1]; exact g238_.2.2)); omega) | (cases hq_ : p_ad b_ n_ x6_.1 with | inl e_ => (rw [pb_ir, hq_] at g238_; have z2_ := rm2_w (mr_ := 1) (Or.inl (show _ ≠ 0 by rw [g238_.1]; exact g238_.2.2)); omega) | inr q_ => (rw [pb_ir, hq_] at g238_; have k7_ := p_ad_ok le6_.1 (by omega) hq_; have k8_ := k7_.2.1; have z2_ := rm2_x (k_ := 1) t238_ g238_ (by decide); omega))
        · have cx14_ : ¬ (vx13_ = 0) := of_decide_eq_false cx14_
          have k44_ : lx_kd b_ n_ x6_.1 = 44 := e200_.mp (by omega)
          have hU6_ : (z_ua b_ n_ A_ N_ M_ c_ p_) = (pb (if p_a2 A_ mi_.toNat (p_nth A_ mi_.toNat j_.toNat) = -1 then .inl (14, a5_.1.1) else pb (p_ad b_ n_ x6_.1) fun q_ => p_ar b_ n_ A_ M_ mi_.toNat (A_.1 M_) a5_.1.1 f6_ (p_a2 A_ mi_.toNat (p_nth A_ mi_.toNat j_.toNat)) (p_a1 A_ mi_.toNat (A_.1 M_) (p_nth A_ mi_.toNat j_.toNat) x6_.2.2) q_) fun x_ => .inr (a5_.1, x_)) := by rw [hU5_]; unfold p_an; rw [if_pos k44_]
          refine sm_T_go 7 (c1 := (222, [some (.inr (.inr (some (13, 0)))), some (.inl m_), some (.inl t2_), none, some (.inl mi_), some (.inl many), some (.inl (j_ + 1)), some (.inl 1), none], [.inl many, .inl (j_ + 1)], S_)) rfl ?_
          refine sm_T_br (a := 2) (z := 10) rfl (fun cx15_ => ?_) (fun cx15_ => ?_)
          · have cx15_ : j_ + 1 < many := of_decide_eq_true cx15_
            have i7_ : p_a2 A_ mi_.toNat (p_nth A_ mi_.toNat j_.toNat) ≠ -1 := fun z_ => by have z2_ := nn6_.mp z_; omega
            rw [if_neg i7_] at hU6_
            obtain ⟨x7_, hx7_, hx7b⟩ : ∃ x7_ : pE Nat, rg b_ n_ T_ x7_ _ ∧ x7_ = .inr x6_.1 := ⟨_, g6_, rfl⟩
            have t7_ := tt_
            have re7_ := re187_
            have rs7_ := rs187_
            refine sm_T_go 3 (c1 := (238, [some (.inr (.inr (some (13, 0)))), some (.inl m_), some (.inl t2_), none, some (.inl mi_), some (.inl many), some (.inl (j_ + 1)), some (.inl 1), none], [.inr (.inr (some (13, 0)))], S_)) rfl ?_
            refine sm_T_cal (d1 := 2) (Q1 := vq_297 b_ n_ T_ x7_ S_) rfl rfl (by decide) (vc_297 b_ n_ T_ x7_ S_ hI_ (by exact t7_) (by exact hx7_) (by (intro z_ e_; rw [hx7b] at e_; first | (cases e_; done) | (cases e_; rw [k44_]; decide)))) (fun u_ Sx16_ px19_ => ?_)
            obtain ⟨rfl, hIx17_, hFx18_, px19_⟩ := px19_
            have hFx20_ : ai_fr (sx_W vw_338) S0_ Sx16_ := ai_fr_tr hF_ (fr_le hFx18_ rfl)
            have re238_ : ∀ m_, m_ ≤ M_ → re1 b_ n_ T_ A_ m_ Sx16_ := fun m_ hm_ => re1_fr (re7_ m_ hm_) hFx18_ rfl rfl rfl rfl rfl rfl
            have rs238_ : ∀ m_, m_ ≤ M_ → rs1 A_ m_ Sx16_ := fun m_ hm_ => rs1_fr (rs7_ m_ hm_) hFx18_ rfl rfl rfl rfl
            have t238_ := rtab_fr t7_ hFx18_ rfl rfl rfl rfl rfl
            have g238_ := px19_.1
            rw [hx7b] at g238_
            refine sm_T_go 1 (c1 := (114, [some (.inr (.inr (some (13, 0)))), some (.inl m_), some (.inl t2_), none, some (.inl mi_), some (.inl many), some (.inl (j_ + 1)), some (.inl 1), none], [], Sx16_)) rfl ?_
            refine ih_.2.1 t2_ mi_ many (j_ + 1) 1 Sx16_ hIx17_ hFx20_ ⟨?_, ?_, ?_, ?_, ?_, ?_, trivial⟩ ?_
            · first | exact re238_ | exact re187_
            · first | exact rs238_ | exact rs187_
            · exact mi187_
            · omega
            · rw [show (j_ + 1).toNat = j_.toNat + 1 by omega]
              first | (left; exact hw_) | (right; right; exact ⟨rfl, he_⟩) | (left; exact ⟨_, hU6_, g238_⟩) | (cases hq_ : p_ad b_ n_ x6_.1 with | inl e_ => (left; rw [pb_ir, hq_] at g238_; exact ⟨e_, by rw [hU6_, hq_]; rfl, g238_⟩) | inr q_ => (right; left; rw [pb_ir, hq_] at g238_; have k7_ := p_ad_ok le6_.1 (by omega) hq_; have k8_ := k7_.2.1; rw [hq_] at hU6_; exact ⟨rfl, a5_, f6_, _, q_, ha5_, g238_, by rw [← mN_]; exact hU6_, by omega, by omega, by omega⟩))
            · first | (left; rfl) | (right; rfl)
            · first | (obtain ⟨e7_, y1_, y2_⟩ := hw_; have z_ := rm3_w y2_; have z2_ : r_m2 0 S_ = 10 := rm2_w (Or.inr rfl); omega) | (have z2_ : r_m2 0 S_ = 10 := rm2_w (Or.inr rfl); omega) | (have z2_ := rm2_w (mr_ := 1) (Or.inl (show _ ≠ 0 by rw [g238_.1]; exact g238_.2.2)); omega) | (cases hq_ : p_ad b_ n_ x6_.1 with | inl e_ => (rw [pb_ir, hq_] at g238_; have z2_ := rm2_w (mr_ := 1) (Or.inl (show _ ≠ 0 by rw [g238_.1]; exact g238_.2.2)); omega) | inr q_ => (rw [pb_ir, hq_] at g238_; have k7_ := p_ad_ok le6_.1 (by omega) hq_; have k8_ := k7_.2.1; have z2_ := rm2_x (k_ := 1) t238_ g238_ (by decide); omega))
          · have cx15_ : ¬ (j_ + 1 < many) := of_decide_eq_false cx15_
            have i7_ : p_a2 A_ mi_.toNat (p_nth A_ mi_.toNat j_.toNat) = -1 := nn6_.mpr (by omega)
            rw [if_pos i7_] at hU6_
            refine sm_T_go 3 (c1 := (229, [some (.inr (.inr (some (13, 0)))), some (.inl m_), some (.inl t2_), none, some (.inl mi_), some (.inl many), some (.inl (j_ + 1)), some (.inl 1), none], [.inl t2_, .inl 14, .inr (.inr (some (13, 0)))], S_)) rfl ?_
            refine sm_T_cal (d1 := 0) (Q1 := vq_294 14 t2_ S_) rfl rfl (by decide) (vc_294 14 t2_ S_ hI_ (by decide) (by omega)) (fun u_ Sx21_ px24_ => ?_)
            obtain ⟨rfl, hIx22_, hFx23_, px24_⟩ := px24_
            have hFx25_ : ai_fr (sx_W vw_338) S0_ Sx21_ := ai_fr_tr hF_ (fr_le hFx23_ rfl)
            have re7_ : ∀ m_, m_ ≤ M_ → re1 b_ n_ T_ A_ m_ Sx21_ := fun m_ hm_ => re1_fr (re187_ m_ hm_) hFx23_ rfl rfl rfl rfl rfl rfl
            have rs7_ : ∀ m_, m_ ≤ M_ → rs1 A_ m_ Sx21_ := fun m_ hm_ => rs1_fr (rs187_ m_ hm_) hFx23_ rfl rfl rfl rfl
            have g229_ : rg b_ n_ T_ (.inl (14, a5_.1.1)) Sx21_ := by rcases px24_ with z_ | z_; (exact absurd hz_ z_.1); (exact ⟨z_.2.1, z_.2.2.trans pt5_.2, by show (14 : Int) ≠ 0; decide⟩)
            obtain ⟨x7_, hx7_, hx7b⟩ : ∃ x7_ : pE Nat, rg b_ n_ T_ x7_ Sx21_ ∧ x7_ = .inl (14, a5_.1.1) := ⟨_, g229_, rfl⟩
            have t7_ := rtab_fr tt_ hFx23_ rfl rfl rfl rfl rfl
            refine sm_T_go 3 (c1 := (238, [some (.inr (.inr (some (13, 0)))), some (.inl m_), some (.inl t2_), none, some (.inl mi_), some (.inl many), some (.inl (j_ + 1)), some (.inl 1), none], [.inr (.inr (some (13, 0)))], Sx21_)) rfl ?_
            refine sm_T_cal (d1 := 2) (Q1 := vq_297 b_ n_ T_ x7_ Sx21_) rfl rfl (by decide) (vc_297 b_ n_ T_ x7_ Sx21_ hIx22_ (by exact t7_) (by exact hx7_) (by (intro z_ e_; rw [hx7b] at e_; first | (cases e_; done) | (cases e_; rw [k44_]; decide)))) (fun u_ Sx26_ px29_ => ?_)
            obtain ⟨rfl, hIx27_, hFx28_, px29_⟩ := px29_
            have hFx30_ : ai_fr (sx_W vw_338) S0_ Sx26_ := ai_fr_tr hFx25_ (fr_le hFx28_ rfl)
            have re238_ : ∀ m_, m_ ≤ M_ → re1 b_ n_ T_ A_ m_ Sx26_ := fun m_ hm_ => re1_fr (re7_ m_ hm_) hFx28_ rfl rfl rfl rfl rfl rfl
            have rs238_ : ∀ m_, m_ ≤ M_ → rs1 A_ m_ Sx26_ := fun m_ hm_ => rs1_fr (rs7_ m_ hm_) hFx28_ rfl rfl rfl rfl
            have t238_ := rtab_fr t7_ hFx28_ rfl rfl rfl rfl rfl
            have g238_ := px29_.1
            rw [hx7b] at g238_
            refine sm_T_go 1 (c1 := (114, [some (.inr (.inr (some (13, 0)))), some (.inl m_), some (.inl t2_), none, some (.inl mi_), some (.inl many), some (.inl (j_ + 1)), some (.inl 1), none], [], Sx26_)) rfl ?_
            refine ih_.2.1 t2_ mi_ many (j_ + 1) 1 Sx26_ hIx27_ hFx30_ ⟨?_, ?_, ?_, ?_, ?_, ?_, trivial⟩ ?_
            · first | exact re238_ | exact re187_
            · first | exact rs238_ | exact rs187_
            · exact mi187_
            · omega
            · rw [show (j_ + 1).toNat = j_.toNat + 1 by omega]
              first | (left; exact hw_) | (right; right; exact ⟨rfl, he_⟩) | (left; exact ⟨_, hU6_, g238_⟩) | (cases hq_ : p_ad b_ n_ x6_.1 with | inl e_ => (left; rw [pb_ir, hq_] at g238_; exact ⟨e_, by rw [hU6_, hq_]; rfl, g238_⟩) | inr q_ => (right; left; rw [pb_ir, hq_] at g238_; have k7_ := p_ad_ok le6_.1 (by omega) hq_; have k8_ := k7_.2.1; rw [hq_] at hU6_; exact ⟨rfl, a5_, f6_, _, q_, ha5_, g238_, by rw [← mN_]; exact hU6_, by omega, by omega, by omega⟩))
            · first | (left; rfl) | (right; rfl)
            · first | (obtain ⟨e7_, y1_, y2_⟩ := hw_; have z_ := rm3_w y2_; have z2_ : r_m2 0 S_ = 10 := rm2_w (Or.inr rfl); omega) | (have z2_ : r_m2 0 S_ = 10 := rm2_w (Or.inr rfl); omega) | (have z2_ := rm2_w (mr_ := 1) (Or.inl (show _ ≠ 0 by rw [g238_.1]; exact g238_.2.2)); omega) | (cases hq_ : p_ad b_ n_ x6_.1 with | inl e_ => (rw [pb_ir, hq_] at g238_; have z2_ := rm2_w (mr_ := 1) (Or.inl (show _ ≠ 0 by rw [g238_.1]; exact g238_.2.2)); omega) | inr q_ => (rw [pb_ir, hq_] at g238_; have k7_ := p_ad_ok le6_.1 (by omega) hq_; have k8_ := k7_.2.1; have z2_ := rm2_x (k_ := 1) t238_ g238_ (by decide); omega))
    · rintro t2_ mi_ many j_ S_ hI_ hF_ ⟨re244_, rs244_, mi244_, tb244_, h1_, -⟩ hm_
      have le0_ := rg_le ht_ hx_
      have hn1_ := ht_.1
      have hAM_ := (hA_.2 M_ (Nat.le_refl M_)).1
      have tt_ := rtab_fr ht_ hF_ rfl rfl rfl rfl rfl
      have mo9_ := (hF_.1 13 0 27 rfl).trans hmo_
      have md9_ := (hF_.1 13 0 28 rfl).trans hmd_
      refine sm_T_go 1 (c1 := (245, [some (.inr (.inr (some (13, 0)))), some (.inl m_), some (.inl t2_), none, some (.inl mi_), some (.inl many), some (.inl j_), none, none], [.inr (.inr (some (13, 0)))], S_)) rfl ?_
      refine sm_T_cal (d1 := 0) (Q1 := vq_292  S_) rfl rfl (by decide) (vc_292  S_ hI_ ) (fun u_ Sx1_ px4_ => ?_)
      obtain ⟨rfl, vx6_, rfl, px4_⟩ := px4_
      have e245_ := px4_
      refine sm_T_b0 (a := 0) (z := 26) rfl (fun cx7_ => ?_) (fun cx7_ => ?_)
      · have cx7_ : vx6_ = 0 := of_decide_eq_true cx7_
        have hz_ := wr_if e245_ (by omega)
        obtain ⟨e6_, he6_, ge6_⟩ : u_w b_ n_ T_ (z_ua b_ n_ A_ N_ M_ c_ p_) S_ := by rcases h1_ with z_ | ⟨a_, c1_, p1_, z2_, z3_, z4_⟩; exact z_; (exact absurd z3_.1 hz_)
        refine sm_T_go 0 (c1 := (274, [some (.inr (.inr (some (13, 0)))), some (.inl m_), some (.inl t2_), none, some (.inl mi_), some (.inl many), some (.inl j_), none, none], [], S_)) rfl ?_
        refine sm_T_wk [some (.inr (.inr (some (13, 0)))), some (.inl m_), some (.inl t2_), none, some (.inl mi_), none, none, none, none] (by exact ⟨rfl, rfl, rfl, rfl, trivial⟩) ?_
        refine ih_.2.2.2.2 t2_ mi_ S_ hI_ hF_ ⟨?_, ?_, ?_, ?_, ?_, trivial⟩ ?_
        · first | exact re271_ | exact re244_
        · first | exact rs271_ | exact rs244_
        · exact fun a_ ha_ => ⟨(mi244_ a_ ha_).1, (mi244_ a_ ha_).2.1, (mi244_ a_ ha_).2.2.2⟩
        · omega
        · first | (exact ⟨.inl e6_, ge6_, by rw [he6_]; rfl⟩) | (exact ⟨.inl _, g271_, by rw [hU7_]; rfl⟩) | (exact ⟨.inr p5_, g5_, by rw [hU6_]; simp only [pb_as, pb_ir]; exact pb_id⟩)
        · omega
      · have cx7_ : ¬ (vx6_ = 0) := of_decide_eq_false cx7_
        have hz_ := rt_if e245_ (by omega)
        obtain ⟨a5_, c5_, p5_, ha5_, g5_, hU5_⟩ : u_e b_ n_ T_ A_ N_ M_ p_ (z_ua b_ n_ A_ N_ M_ c_ p_) (decide (j_ ≠ many)) S_ := by rcases h1_ with ⟨e_, z1_, z2_⟩ | z_; (exact absurd (z2_.1.symm.trans hz_) z2_.2.2); exact z_
        obtain ⟨mi5_, mib_, mny_, rt5_⟩ := mi244_ a5_ ha5_
        have pt5_ := rtk_pl tt_ rt5_
        refine sm_T_go 2 (c1 := (254, [some (.inr (.inr (some (13, 0)))), some (.inl m_), some (.inl t2_), none, some (.inl mi_), some (.inl many), some (.inl j_), none, none], [.inl 41, .inr (.inr (some (13, 0)))], S_)) rfl ?_
        refine sm_T_cal (d1 := 0) (Q1 := vq_295 41 b_ n_ T_ (.inr p5_) S_) rfl rfl (by decide) (vc_295 41 b_ n_ T_ (.inr p5_) S_ hI_ (by exact tt_) (by exact g5_) (by decide)) (fun u_ Sx8_ px11_ => ?_)
        obtain ⟨rfl, vx13_, rfl, px11_⟩ := px11_
        have e254_ := px11_.2 p5_ rfl
        have r254_ := px11_.1.1
        refine sm_T_b0 (a := 0) (z := 17) rfl (fun cx14_ => ?_) (fun cx14_ => ?_)
        · have cx14_ : vx13_ = 0 := of_decide_eq_true cx14_
          have n41_ : lx_kd b_ n_ p5_ ≠ 41 := fun z_ => by have := e254_.mpr z_; omega
          have hU6_ : (z_ua b_ n_ A_ N_ M_ c_ p_) = (pb (pb (p_nd b_ n_ 41 p5_) fun q_ => .inr (c5_, q_)) fun x_ => .inr (a5_.1, x_)) := by rw [hU5_]; unfold p_ae; rw [if_neg (fun z_ => n41_ z_.1)]
          refine sm_T_go 0 (c1 := (274, [some (.inr (.inr (some (13, 0)))), some (.inl m_), some (.inl t2_), none, some (.inl mi_), some (.inl many), some (.inl j_), none, none], [], S_)) rfl ?_
          refine sm_T_wk [some (.inr (.inr (some (13, 0)))), some (.inl m_), some (.inl t2_), none, some (.inl mi_), none, none, none, none] (by exact ⟨rfl, rfl, rfl, rfl, trivial⟩) ?_
          refine ih_.2.2.2.2 t2_ mi_ S_ hI_ hF_ ⟨?_, ?_, ?_, ?_, ?_, trivial⟩ ?_
          · first | exact re271_ | exact re244_
          · first | exact rs271_ | exact rs244_
          · exact fun a_ ha_ => ⟨(mi244_ a_ ha_).1, (mi244_ a_ ha_).2.1, (mi244_ a_ ha_).2.2.2⟩
          · omega
          · first | (exact ⟨.inl e6_, ge6_, by rw [he6_]; rfl⟩) | (exact ⟨.inl _, g271_, by rw [hU7_]; rfl⟩) | (exact ⟨.inr p5_, g5_, by rw [hU6_]; simp only [pb_as, pb_ir]; exact pb_id⟩)
          · omega
        · have cx14_ : ¬ (vx13_ = 0) := of_decide_eq_false cx14_
          have k41_ : lx_kd b_ n_ p5_ = 41 := e254_.mp (by omega)
          refine sm_T_go 2 (c1 := (264, [some (.inr (.inr (some (13, 0)))), some (.inl m_), some (.inl t2_), none, some (.inl mi_), some (.inl many), some (.inl j_), none, none], [.inl many, .inl j_], S_)) rfl ?_
          refine sm_T_br (a := 0) (z := 10) rfl (fun cx15_ => ?_) (fun cx15_ => ?_)
          · have cx15_ : j_ = many := of_decide_eq_true cx15_
            have hU6_ : (z_ua b_ n_ A_ N_ M_ c_ p_) = (pb (pb (p_nd b_ n_ 41 p5_) fun q_ => .inr (c5_, q_)) fun x_ => .inr (a5_.1, x_)) := by rw [hU5_]; unfold p_ae; rw [if_neg (fun z_ => absurd (of_decide_eq_true z_.2) (by omega))]
            refine sm_T_go 0 (c1 := (274, [some (.inr (.inr (some (13, 0)))), some (.inl m_), some (.inl t2_), none, some (.inl mi_), some (.inl many), some (.inl j_), none, none], [], S_)) rfl ?_
            refine sm_T_wk [some (.inr (.inr (some (13, 0)))), some (.inl m_), some (.inl t2_), none, some (.inl mi_), none, none, none, none] (by exact ⟨rfl, rfl, rfl, rfl, trivial⟩) ?_
            refine ih_.2.2.2.2 t2_ mi_ S_ hI_ hF_ ⟨?_, ?_, ?_, ?_, ?_, trivial⟩ ?_
            · first | exact re271_ | exact re244_
            · first | exact rs271_ | exact rs244_
            · exact fun a_ ha_ => ⟨(mi244_ a_ ha_).1, (mi244_ a_ ha_).2.1, (mi244_ a_ ha_).2.2.2⟩
            · omega
            · first | (exact ⟨.inl e6_, ge6_, by rw [he6_]; rfl⟩) | (exact ⟨.inl _, g271_, by rw [hU7_]; rfl⟩) | (exact ⟨.inr p5_, g5_, by rw [hU6_]; simp only [pb_as, pb_ir]; exact pb_id⟩)
            · omega
          · have cx15_ : ¬ (j_ = many) := of_decide_eq_false cx15_
            refine sm_T_go 3 (c1 := (271, [some (.inr (.inr (some (13, 0)))), some (.inl m_), some (.inl t2_), none, some (.inl mi_), some (.inl many), some (.inl j_), none, none], [.inl t2_, .inl 14, .inr (.inr (some (13, 0)))], S_)) rfl ?_
            refine sm_T_cal (d1 := 0) (Q1 := vq_294 14 t2_ S_) rfl rfl (by decide) (vc_294 14 t2_ S_ hI_ (by decide) (by omega)) (fun u_ Sx16_ px19_ => ?_)
            obtain ⟨rfl, hIx17_, hFx18_, px19_⟩ := px19_
            have hFx20_ : ai_fr (sx_W vw_338) S0_ Sx16_ := ai_fr_tr hF_ (fr_le hFx18_ rfl)
            have re271_ : ∀ m_, m_ ≤ M_ → re1 b_ n_ T_ A_ m_ Sx16_ := fun m_ hm_ => re1_fr (re244_ m_ hm_) hFx18_ rfl rfl rfl rfl rfl rfl
            have rs271_ : ∀ m_, m_ ≤ M_ → rs1 A_ m_ Sx16_ := fun m_ hm_ => rs1_fr (rs244_ m_ hm_) hFx18_ rfl rfl rfl rfl
            have hU7_ : (z_ua b_ n_ A_ N_ M_ c_ p_) = .inl (14, a5_.1.1) := by rw [hU5_]; unfold p_ae; rw [if_pos ⟨k41_, decide_eq_true (by omega)⟩]; rfl
            have g271_ : rg b_ n_ T_ (.inl (14, a5_.1.1)) Sx16_ := by rcases px19_ with z_ | z_; (exact absurd hz_ z_.1); (exact ⟨z_.2.1, z_.2.2.trans pt5_.2, by show (14 : Int) ≠ 0; decide⟩)
            refine sm_T_go 0 (c1 := (274, [some (.inr (.inr (some (13, 0)))), some (.inl m_), some (.inl t2_), none, some (.inl mi_), some (.inl many), some (.inl j_), none, none], [], Sx16_)) rfl ?_
            refine sm_T_wk [some (.inr (.inr (some (13, 0)))), some (.inl m_), some (.inl t2_), none, some (.inl mi_), none, none, none, none] (by exact ⟨rfl, rfl, rfl, rfl, trivial⟩) ?_
            refine ih_.2.2.2.2 t2_ mi_ Sx16_ hIx17_ hFx20_ ⟨?_, ?_, ?_, ?_, ?_, trivial⟩ ?_
            · first | exact re271_ | exact re244_
            · first | exact rs271_ | exact rs244_
            · exact fun a_ ha_ => ⟨(mi244_ a_ ha_).1, (mi244_ a_ ha_).2.1, (mi244_ a_ ha_).2.2.2⟩
            · omega
            · first | (exact ⟨.inl e6_, ge6_, by rw [he6_]; rfl⟩) | (exact ⟨.inl _, g271_, by rw [hU7_]; rfl⟩) | (exact ⟨.inr p5_, g5_, by rw [hU6_]; simp only [pb_as, pb_ir]; exact pb_id⟩)
            · omega
    · rintro t2_ mi_ S_ hI_ hF_ ⟨re274_, rs274_, mi274_, tb274_, h1_, -⟩ hm_
      have le0_ := rg_le ht_ hx_
      have hn1_ := ht_.1
      have hAM_ := (hA_.2 M_ (Nat.le_refl M_)).1
      have tt_ := rtab_fr ht_ hF_ rfl rfl rfl rfl rfl
      have mo9_ := (hF_.1 13 0 27 rfl).trans hmo_
      have md9_ := (hF_.1 13 0 28 rfl).trans hmd_
      obtain ⟨x9_, hx9_, hz9_⟩ := h1_
      refine sm_T_go 2 (c1 := (277, [some (.inr (.inr (some (13, 0)))), some (.inl m_), some (.inl t2_), none, some (.inl mi_), none, none, none, none], [.inl 41, .inr (.inr (some (13, 0)))], S_)) rfl ?_
      refine sm_T_cal (d1 := 3) (Q1 := vq_300 41 b_ n_ T_ x9_ S_) rfl rfl (by decide) (vc_300 41 b_ n_ T_ x9_ S_ hI_ (by exact tt_) (by exact hx9_) (by decide)) (fun u_ Sx1_ px4_ => ?_)
      obtain ⟨rfl, hIx2_, hFx3_, px4_⟩ := px4_
      have hFx5_ : ai_fr (sx_W vw_338) S0_ Sx1_ := ai_fr_tr hF_ (fr_le hFx3_ rfl)
      have re277_ : ∀ m_, m_ ≤ M_ → re1 b_ n_ T_ A_ m_ Sx1_ := fun m_ hm_ => re1_fr (re274_ m_ hm_) hFx3_ rfl rfl rfl rfl rfl rfl
      have rs277_ : ∀ m_, m_ ≤ M_ → rs1 A_ m_ Sx1_ := fun m_ hm_ => rs1_fr (rs274_ m_ hm_) hFx3_ rfl rfl rfl rfl
      have t277_ := rtab_fr tt_ hFx3_ rfl rfl rfl rfl rfl
      have g277_ : rg b_ n_ T_ (pb (z_ua b_ n_ A_ N_ M_ c_ p_) fun a_ => .inr a_.2.2) Sx1_ := by rw [hz9_]; exact px4_
      refine sm_T_go 2 (c1 := (283, [some (.inr (.inr (some (13, 0)))), some (.inl m_), some (.inl t2_), none, some (.inl mi_), none, none, none, none], [.inl 59, .inr (.inr (some (13, 0)))], Sx1_)) rfl ?_
      refine sm_T_cal (d1 := 3) (Q1 := vq_300 59 b_ n_ T_ (pb (z_ua b_ n_ A_ N_ M_ c_ p_) fun a_ => .inr a_.2.2) Sx1_) rfl rfl (by decide) (vc_300 59 b_ n_ T_ (pb (z_ua b_ n_ A_ N_ M_ c_ p_) fun a_ => .inr a_.2.2) Sx1_ hIx2_ (by exact t277_) (by exact g277_) (by decide)) (fun u_ Sx6_ px9_ => ?_)
      obtain ⟨rfl, hIx7_, hFx8_, px9_⟩ := px9_
      have hFx10_ : ai_fr (sx_W vw_338) S0_ Sx6_ := ai_fr_tr hFx5_ (fr_le hFx8_ rfl)
      have re283_ : ∀ m_, m_ ≤ M_ → re1 b_ n_ T_ A_ m_ Sx6_ := fun m_ hm_ => re1_fr (re277_ m_ hm_) hFx8_ rfl rfl rfl rfl rfl rfl
      have rs283_ : ∀ m_, m_ ≤ M_ → rs1 A_ m_ Sx6_ := fun m_ hm_ => rs1_fr (rs277_ m_ hm_) hFx8_ rfl rfl rfl rfl
      have g283_ : rg b_ n_ T_ (pb (pb (z_ua b_ n_ A_ N_ M_ c_ p_) (z_us b_ n_)) fun a_ => .inr a_.2) Sx6_ := rg_pb px9_ (fun a_ _ => by unfold z_us; rw [pb_as]; exact pb_id.symm)
      have hIx11_ : gi (sm_pI Sx6_ 13 0 25 t2_) := gi_pI hIx7_ (show 0 ≤ t2_ ∧ t2_ ≤ 1280 from ⟨by omega, by omega⟩)
      have hFx12_ : ai_fr (sx_W vw_338) S0_ (sm_pI Sx6_ 13 0 25 t2_) := ai_fr_tr hFx10_ (ai_fr_pI rfl)
      have hIx13_ : gi (sm_pI (sm_pI Sx6_ 13 0 25 t2_) 13 0 26 0) := gi_pI hIx11_ (show (-2147483648) ≤ 0 ∧ 0 ≤ 2147483647 from ⟨by omega, by omega⟩)
      have hFx14_ : ai_fr (sx_W vw_338) S0_ (sm_pI (sm_pI Sx6_ 13 0 25 t2_) 13 0 26 0) := ai_fr_tr hFx12_ (ai_fr_pI rfl)
      refine sm_T_go 10 (c1 := (301, [some (.inr (.inr (some (13, 0)))), some (.inl m_), some (.inl t2_), none, some (.inl mi_), none, none, none, none], [.inl mi_, .inl 5, .inl m_, .inr (.inr (some (13, 0)))], sm_pI (sm_pI Sx6_ 13 0 25 t2_) 13 0 26 0)) rfl ?_
      refine sm_T_cal (d1 := 1) (Q1 := vq_308 m_ 5 mi_ b_ n_ T_ (pb (pb (z_ua b_ n_ A_ N_ M_ c_ p_) (z_us b_ n_)) fun a_ => .inr a_.2) A_ M_ 5 (sm_pI (sm_pI Sx6_ 13 0 25 t2_) 13 0 26 0)) rfl rfl (by decide) (vc_308 m_ 5 mi_ b_ n_ T_ (pb (pb (z_ua b_ n_ A_ N_ M_ c_ p_) (z_us b_ n_)) fun a_ => .inr a_.2) A_ M_ 5 (sm_pI (sm_pI Sx6_ 13 0 25 t2_) 13 0 26 0) hIx13_ (by exact hIx13_) (by exact rg_fr (w_ := ([(13, 25), (13, 26)], [], [])) g283_ (ai_fr_tr (ai_fr_pI rfl) (ai_fr_pI rfl)) rfl rfl rfl) (by exact hmm_) (by exact ⟨rfl, by decide, by decide, by decide⟩) (by (intro p9_ hp9_; obtain ⟨a_, h1_, h2_⟩ := pb_inr hp9_; obtain ⟨a2_, h3_, h4_⟩ := pb_inr h1_; obtain ⟨a3_, h5_, h6_⟩ := pb_inr h3_; have k1_ := u5_ok le0_.1 hk_ h5_; have k2_ := z_nw_ok le0_.1 hk_ k1_.1; have k3_ := k2_.2.1; obtain ⟨m1_, m2_, m3_⟩ := mi274_ a3_ h5_; exact ⟨hA_, fun m_ hm_ => re1_fr (w_ := ([(13, 25), (13, 26)], [], [])) (re283_ m_ hm_) (ai_fr_tr (ai_fr_pI rfl) (ai_fr_pI rfl)) rfl rfl rfl rfl rfl rfl, fun m_ hm_ => rs1_fr (w_ := ([(13, 25), (13, 26)], [], [])) (rs283_ m_ hm_) (ai_fr_tr (ai_fr_pI rfl) (ai_fr_pI rfl)) rfl rfl rfl rfl, by omega, by show (0 : Int) ≤ 0 ∧ (0 : Int) ≤ 8; decide, by omega, fun _ => m2_.2⟩))) (fun u_ Sx15_ px18_ => ?_)
      obtain ⟨rfl, hIx16_, hFx17_, px18_⟩ := px18_
      have hFx19_ : ai_fr (sx_W vw_338) S0_ Sx15_ := ai_fr_tr hFx14_ (fr_le hFx17_ rfl)
      have e301_ := px18_
      refine sm_T_rv rfl ⟨_, _, rfl, rfl, hIx16_, hFx19_, ?_⟩
      refine ⟨?_, fun r_ hr_ => ?_⟩
      · rw [us_eq, pb_as]; exact e301_.1
      · have k_ := us_ok hn1_ hA_ le0_.1 hk_ hc_ hr_
        rw [us_eq] at hr_
        obtain ⟨a_, h1_, h2_⟩ := pb_inr hr_
        cases h2_
        obtain ⟨a2_, h3_, h4_⟩ := pb_inr h1_
        obtain ⟨a3_, h5_, h6_⟩ := pb_inr h3_
        obtain ⟨m1_, m2_, m3_⟩ := mi274_ a3_ h5_
        obtain ⟨x_, h7_, h8_⟩ := pb_inr h6_
        cases h8_
        unfold z_us at h4_
        obtain ⟨y_, h8_, h9_⟩ := pb_inr h4_
        cases h9_
        have e_ := e301_.2 y_ a3_.1.1 (by rw [h1_]; rfl) m3_
        have e_ : (∀ m_, m_ ≤ M_ → re1 b_ n_ T_ (a_te A_ M_ a3_.1.1 5 0 mi_) m_ _) ∧ (∀ m_, m_ ≤ M_ → rs1 (a_te A_ M_ a3_.1.1 5 0 mi_) m_ _) := e_
        rw [m1_] at e_
        exact ⟨k_.1, e_.1, e_.2, k_.2.1⟩
set_option maxHeartbeats 2000000 in
set_option maxRecDepth 20000 in
theorem vc_338 {sc_ : Nat × (Nat → Int)} (m_ : Int) (b_ : Nat → Int) (n_ : Nat) (T_ : Nat) (A_ : pA) (M_ : Nat) (c_ : List Int) (p_ : Nat) (N_ : Nat → Nat) (S0_ : sm_S) (hI_ : gi S0_) (ht_ : rtab b_ n_ T_ S0_) (hx_ : rg b_ n_ T_ (.inr p_) S0_) (hk_ : lx_kd b_ n_ p_ ≠ 0) (hmo_ : (S0_.1 13 0 27) = 0) (hmm_ : m_ = (M_ : Int) ∧ M_ ≤ 15) (hmd_ : (S0_.1 13 0 28) = (M_ : Int)) (hA_ : a_ok b_ n_ A_ M_) (hre_ : ∀ m_, m_ ≤ M_ → re1 b_ n_ T_ A_ m_ S0_) (hrs_ : ∀ m_, m_ ≤ M_ → rs1 A_ m_ S0_) (hc_ : c_.length ≤ 3 * p_) (hms_ : (S0_.1 13 0 12) = (M_ : Int)) (hN_ : rnr b_ n_ T_ N_ M_ S0_) : sm_T (mt_P sc_) 8 338 (0, [some (.inr (.inr (some (13, 0)))), some (.inl m_), none, none, none, none, none, none, none], [], S0_) (fun r_ => ∃ u_ S1_, r_ = (.inl u_, S1_, 0) ∧ vq_338 m_ b_ n_ T_ A_ M_ c_ p_ N_ S0_ u_ S1_) := by
  have hF_ : ai_fr (sx_W vw_338) S0_ S0_ := ai_fr_rf
  have le0_ := rg_le ht_ hx_
  have hn1_ := ht_.1
  have hAM_ := (hA_.2 M_ (Nat.le_refl M_)).1
  refine sm_T_go 1 (c1 := (1, [some (.inr (.inr (some (13, 0)))), some (.inl m_), none, none, none, none, none, none, none], [.inr (.inr (some (13, 0)))], S0_)) rfl ?_
  refine sm_T_cal (d1 := 2) (Q1 := vq_297 b_ n_ T_ (.inr p_) S0_) rfl rfl (by decide) (vc_297 b_ n_ T_ (.inr p_) S0_ hI_ (by exact ht_) (by exact hx_) (by (intro q_ e_; cases e_; exact hk_))) (fun u_ Sx1_ px4_ => ?_)
  obtain ⟨rfl, hIx2_, hFx3_, px4_⟩ := px4_
  have hFx5_ : ai_fr (sx_W vw_338) S0_ Sx1_ := ai_fr_tr hF_ (fr_le hFx3_ rfl)
  have t1_ := rtab_fr ht_ hFx3_ rfl rfl rfl rfl rfl
  have re1x : ∀ m_, m_ ≤ M_ → re1 b_ n_ T_ A_ m_ Sx1_ := fun m_ hm_ => re1_fr (hre_ m_ hm_) hFx3_ rfl rfl rfl rfl rfl rfl
  have rs1x : ∀ m_, m_ ≤ M_ → rs1 A_ m_ Sx1_ := fun m_ hm_ => rs1_fr (hrs_ m_ hm_) hFx3_ rfl rfl rfl rfl
  have mo1_ := (hFx3_.1 13 0 27 rfl).trans hmo_
  have md1_ := (hFx3_.1 13 0 28 rfl).trans hmd_
  have g1_ : rg b_ n_ T_ (p_ad b_ n_ p_) Sx1_ := px4_.1
  refine sm_T_go 2 (c1 := (6, [some (.inr (.inr (some (13, 0)))), some (.inl m_), none, none, none, none, none, none, none], [.inl m_, .inr (.inr (some (13, 0)))], Sx1_)) rfl ?_
  refine sm_T_cal (d1 := 3) (Q1 := vq_306 m_ b_ n_ T_ (p_ad b_ n_ p_) A_ M_ Sx1_) rfl rfl (by decide) (vc_306 m_ b_ n_ T_ (p_ad b_ n_ p_) A_ M_ Sx1_ hIx2_ (by exact t1_) (by exact g1_) (by exact hmm_) (by exact re1x M_ (Nat.le_refl M_)) (by exact hAM_)) (fun u_ Sx6_ px9_ => ?_)
  obtain ⟨rfl, hIx7_, hFx8_, px9_⟩ := px9_
  have hFx10_ : ai_fr (sx_W vw_338) S0_ Sx6_ := ai_fr_tr hFx5_ (fr_le hFx8_ rfl)
  have t6_ := rtab_fr t1_ hFx8_ rfl rfl rfl rfl rfl
  have re6_ : ∀ m_, m_ ≤ M_ → re1 b_ n_ T_ A_ m_ Sx6_ := fun m_ hm_ => re1_fr (re1x m_ hm_) hFx8_ rfl rfl rfl rfl rfl rfl
  have rs6_ : ∀ m_, m_ ≤ M_ → rs1 A_ m_ Sx6_ := fun m_ hm_ => rs1_fr (rs1x m_ hm_) hFx8_ rfl rfl rfl rfl
  have mo6_ := (hFx8_.1 13 0 27 rfl).trans mo1_
  have md6_ := (hFx8_.1 13 0 28 rfl).trans md1_
  have g6_ : rg b_ n_ T_ (pb (z_nw b_ n_ A_ M_ p_) fun a_ => .inr a_.2) Sx6_ := rg_pb (z_ := p_ad b_ n_ p_) (ps_ := fun a_ => a_) (g_ := p_nw b_ n_ A_ M_) (by rw [pb_id]; exact px9_.1) (fun a_ _ => by rw [pb_as]; exact pb_id.symm)
  have tk6_ : ∀ a_, z_nw b_ n_ A_ M_ p_ = .inr a_ → rtk b_ n_ T_ (Sx6_.1 13 0 25) a_.1 := fun a_ ha_ => by obtain ⟨q_, h1_, h2_⟩ := pb_inr ha_; obtain ⟨r_, h3_, h4_⟩ := pb_inr h2_; cases h4_; exact px9_.2 q_ r_ h1_ h3_
  have bx11_ : 0 ≤ Sx6_.1 13 0 25 ∧ Sx6_.1 13 0 25 ≤ 1280 := hIx7_.1 13 0 25 rfl
  refine sm_T_go 5 (c1 := (16, [some (.inr (.inr (some (13, 0)))), some (.inl m_), some (.inl (Sx6_.1 13 0 25)), none, none, none, none, none, none], [.inl 1, .inr (.inr (some (13, 0)))], Sx6_)) rfl ?_
  refine sm_T_cal (d1 := 1) (Q1 := vq_299 1 b_ n_ T_ (pb (z_nw b_ n_ A_ M_ p_) fun a_ => .inr a_.2) Sx6_) rfl rfl (by decide) (vc_299 1 b_ n_ T_ (pb (z_nw b_ n_ A_ M_ p_) fun a_ => .inr a_.2) Sx6_ hIx7_ (by exact t6_) (by exact g6_) (by decide)) (fun u_ Sx12_ px15_ => ?_)
  obtain ⟨vx17_, rfl, hIx13_, hFx14_, px15_⟩ := px15_
  have hFx16_ : ai_fr (sx_W vw_338) S0_ Sx12_ := ai_fr_tr hFx10_ (fr_le hFx14_ rfl)
  have ex18_ : Sx12_.1 13 0 25 = Sx6_.1 13 0 25 := hFx14_.1 13 0 25 rfl
  have t16_ := rtab_fr t6_ hFx14_ rfl rfl rfl rfl rfl
  have re16_ : ∀ m_, m_ ≤ M_ → re1 b_ n_ T_ A_ m_ Sx12_ := fun m_ hm_ => re1_fr (re6_ m_ hm_) hFx14_ rfl rfl rfl rfl rfl rfl
  have rs16_ : ∀ m_, m_ ≤ M_ → rs1 A_ m_ Sx12_ := fun m_ hm_ => rs1_fr (rs6_ m_ hm_) hFx14_ rfl rfl rfl rfl
  have mo16_ := (hFx14_.1 13 0 27 rfl).trans mo6_
  have md16_ := (hFx14_.1 13 0 28 rfl).trans md6_
  have a16_ := px15_.1
  have g16_ : rg b_ n_ T_ (pb (z_u2 b_ n_ A_ M_ p_) fun a_ => .inr a_.2) Sx12_ := rg_pb px15_.2 (fun a_ _ => by rw [pb_as]; unfold p_du; split <;> rfl)
  have at16_ := hFx14_.1 13 0 9 rfl
  have v16b : 0 ≤ vx17_ ∧ vx17_ ≤ 1280 := by rw [a16_, ← at16_]; exact hIx13_.1 13 0 9 rfl
  have z16_ : ∀ a_, (z_u2 b_ n_ A_ M_ p_) = .inr a_ → z_nw b_ n_ A_ M_ p_ = .inr a_ ∧ lx_kd b_ n_ a_.2 = 1 := fun a_ ha_ => by obtain ⟨a1_, h6_, h5_⟩ := pb_inr ha_; obtain ⟨y_, h7_, h5_⟩ := pb_inr h5_; cases h5_; refine ⟨h6_, ?_⟩; unfold p_du at h7_; split at h7_; assumption; cases h7_
  have rt16_ : ∀ a_, (z_u2 b_ n_ A_ M_ p_) = .inr a_ → rtk b_ n_ T_ vx17_ a_.2 ∧ Sx12_.2.2.1 120 0 vx17_.toNat = (a_.2 : Int) ∧ Sx12_.2.2.1 119 0 vx17_.toNat ≠ 4 := by intro a_ ha_; obtain ⟨i3_, q1_, q2_⟩ := (rg_at g16_ ha_).2; have q3_ := (z16_ a_ ha_).2; have q4_ := rp_at t16_ q2_; rw [show vx17_ = (i3_ : Int) by omega, Int.toNat_natCast]; exact ⟨(rp_rtk t16_ q2_ q3_).1, q4_.2.1, by rw [q4_.1, q3_]; decide⟩
  have ms16_ : Sx12_.1 13 0 12 = (M_ : Int) := (hFx16_.1 13 0 12 rfl).trans hms_
  have N16_ : rnr b_ n_ T_ N_ M_ Sx12_ := by unfold rnr at hN_ ⊢; rw [fr_arr hFx16_ rfl]; exact hN_
  refine sm_T_go 2 (c1 := (21, [some (.inr (.inr (some (13, 0)))), some (.inl m_), some (.inl (Sx6_.1 13 0 25)), some (.inl vx17_), none, none, none, none, none], [.inr (.inr (some (13, 0)))], Sx12_)) rfl ?_
  refine sm_T_cal (d1 := 0) (Q1 := vq_292  Sx12_) rfl rfl (by decide) (vc_292  Sx12_ hIx13_ ) (fun u_ Sx19_ px22_ => ?_)
  obtain ⟨rfl, vx24_, rfl, px22_⟩ := px22_
  have e21_ := px22_
  refine sm_T_b0 (a := 0) (z := 11) rfl (fun cx25_ => ?_) (fun cx25_ => ?_)
  · have cx25_ : vx24_ = 0 := of_decide_eq_true cx25_
    have hz_ := wr_if e21_ (by omega)
    obtain ⟨e5_, he5_⟩ := rg_wr g16_ hz_
    have u3w : (z_u3 b_ n_ A_ N_ M_ p_) = .inl e5_ := by unfold z_u3; rw [he5_]; rfl
    have g3w := g16_
    rw [he5_] at g3w
    refine sm_T_go 3 (c1 := (39, [some (.inr (.inr (some (13, 0)))), some (.inl m_), some (.inl (Sx6_.1 13 0 25)), some (.inl vx17_), some (.inl (-1)), none, none, none, none], [.inr (.inr (some (13, 0)))], Sx12_)) rfl ?_
    refine sm_T_cal (d1 := 0) (Q1 := vq_292  Sx12_) rfl rfl (by decide) (vc_292  Sx12_ hIx13_ ) (fun u_ Sx26_ px29_ => ?_)
    obtain ⟨rfl, vx31_, rfl, px29_⟩ := px29_
    have e39_ := px29_
    refine sm_T_b0 (a := 0) (z := 16) rfl (fun cx32_ => ?_) (fun cx32_ => ?_)
    · have cx32_ : vx31_ = 0 := of_decide_eq_true cx32_
      have hz3_ := wr_if e39_ (by omega)
      refine sm_T_go 0 (c1 := (58, [some (.inr (.inr (some (13, 0)))), some (.inl m_), some (.inl (Sx6_.1 13 0 25)), some (.inl vx17_), some (.inl (-1)), none, none, none, none], [], Sx12_)) rfl ?_
      refine sm_T_wk [some (.inr (.inr (some (13, 0)))), some (.inl m_), some (.inl (Sx6_.1 13 0 25)), none, some (.inl (-1)), none, none, none, none] (by exact ⟨rfl, rfl, rfl, rfl, trivial⟩) ?_
      refine (vl_338 m_ b_ n_ T_ A_ M_ c_ p_ N_ S0_ ht_ hx_ hk_ hmo_ hmm_ hmd_ hA_ hre_ hrs_ hc_ hms_ hN_ _).1 (Sx6_.1 13 0 25) (-1) Sx12_ hIx13_ hFx16_ ⟨?_, ?_, ?_, ?_, ?_, ?_, trivial⟩ (Nat.lt_succ_self _)
      · first | exact g55_ | (exact absurd hz3_ hz_) | (exact absurd hz_ hz3_) | (rw [u3w]; exact g3w) | (rw [u3c, if_neg (by omega)]; exact g2r)
      · first | (exact absurd hz3_ hz_) | (exact absurd hz_ hz3_) | (intro a_ ha_; exact (w55_ a_ ha_).elim) | (intro a_ ha_; rw [u3w] at ha_; cases ha_; done) | (intro a_ ha_; rw [u3c, if_neg (by omega)] at ha_; cases ha_; exact e29_)
      · exact tk6_
      · first | exact re55_ | exact re16_
      · first | exact rs55_ | exact rs16_
      · omega
    · have cx32_ : ¬ (vx31_ = 0) := of_decide_eq_false cx32_
      have hz3_ := rt_if e39_ (by omega)
      refine sm_T_go 6 (c1 := (55, [some (.inr (.inr (some (13, 0)))), some (.inl m_), some (.inl (Sx6_.1 13 0 25)), some (.inl vx17_), some (.inl (-1)), none, none, none, none], [.inl vx17_, .inl 11, .inr (.inr (some (13, 0)))], Sx12_)) rfl ?_
      refine sm_T_cal (d1 := 0) (Q1 := vq_293 11 vx17_ Sx12_) rfl rfl (by decide) (vc_293 11 vx17_ Sx12_ hIx13_ (by decide) (by omega)) (fun u_ Sx33_ px36_ => ?_)
      obtain ⟨rfl, hIx34_, hFx35_, px36_⟩ := px36_
      have hFx37_ : ai_fr (sx_W vw_338) S0_ Sx33_ := ai_fr_tr hFx16_ (fr_le hFx35_ rfl)
      have re55_ : ∀ m_, m_ ≤ M_ → re1 b_ n_ T_ A_ m_ Sx33_ := fun m_ hm_ => re1_fr (re16_ m_ hm_) hFx35_ rfl rfl rfl rfl rfl rfl
      have rs55_ : ∀ m_, m_ ≤ M_ → rs1 A_ m_ Sx33_ := fun m_ hm_ => rs1_fr (rs16_ m_ hm_) hFx35_ rfl rfl rfl rfl
      have g55_ : rg b_ n_ T_ (pb (z_u3 b_ n_ A_ N_ M_ p_) fun a_ => .inr a_.2) Sx33_ := by first | (exact absurd hz3_ hz_) | (rw [u3c, if_pos (by omega)]; rcases px36_ with z_ | z_; (exact absurd hz_ z_.1); (exact ⟨z_.2.1.trans (if_neg rt2_.2.2), z_.2.2.trans rt2_.2.1, by show (11 : Int) ≠ 0; decide⟩))
      have w55_ : ∀ a_, (z_u3 b_ n_ A_ N_ M_ p_) = .inr a_ → False := by first | (exact absurd hz3_ hz_) | (intro a_ ha_; rw [u3c, if_pos (by omega)] at ha_; cases ha_)
      refine sm_T_go 0 (c1 := (58, [some (.inr (.inr (some (13, 0)))), some (.inl m_), some (.inl (Sx6_.1 13 0 25)), some (.inl vx17_), some (.inl (-1)), none, none, none, none], [], Sx33_)) rfl ?_
      refine sm_T_wk [some (.inr (.inr (some (13, 0)))), some (.inl m_), some (.inl (Sx6_.1 13 0 25)), none, some (.inl (-1)), none, none, none, none] (by exact ⟨rfl, rfl, rfl, rfl, trivial⟩) ?_
      refine (vl_338 m_ b_ n_ T_ A_ M_ c_ p_ N_ S0_ ht_ hx_ hk_ hmo_ hmm_ hmd_ hA_ hre_ hrs_ hc_ hms_ hN_ _).1 (Sx6_.1 13 0 25) (-1) Sx33_ hIx34_ hFx37_ ⟨?_, ?_, ?_, ?_, ?_, ?_, trivial⟩ (Nat.lt_succ_self _)
      · first | exact g55_ | (exact absurd hz3_ hz_) | (exact absurd hz_ hz3_) | (rw [u3w]; exact g3w) | (rw [u3c, if_neg (by omega)]; exact g2r)
      · first | (exact absurd hz3_ hz_) | (exact absurd hz_ hz3_) | (intro a_ ha_; exact (w55_ a_ ha_).elim) | (intro a_ ha_; rw [u3w] at ha_; cases ha_; done) | (intro a_ ha_; rw [u3c, if_neg (by omega)] at ha_; cases ha_; exact e29_)
      · exact tk6_
      · first | exact re55_ | exact re16_
      · first | exact rs55_ | exact rs16_
      · omega
  · have cx25_ : ¬ (vx24_ = 0) := of_decide_eq_false cx25_
    have hz_ := rt_if e21_ (by omega)
    obtain ⟨a2_, ha2_⟩ := rg_rt g16_ hz_
    have rt2_ := rt16_ a2_ ha2_
    have g2r := rg_at g16_ ha2_
    have u3c : (z_u3 b_ n_ A_ N_ M_ p_) = if p_fm b_ n_ N_ M_ a2_.2 = -1 then .inl (11, a2_.2) else .inr a2_ := by unfold z_u3; rw [ha2_]; rfl
    refine sm_T_go 2 (c1 := (29, [some (.inr (.inr (some (13, 0)))), some (.inl m_), some (.inl (Sx6_.1 13 0 25)), some (.inl vx17_), none, none, none, none, none], [.inl vx17_, .inr (.inr (some (13, 0)))], Sx12_)) rfl ?_
    refine sm_T_cal (d1 := 1) (Q1 := vq_303 vx17_ b_ n_ T_ N_ M_ a2_.2 Sx12_) rfl rfl (by decide) (vc_303 vx17_ b_ n_ T_ N_ M_ a2_.2 Sx12_ hIx13_ (by exact t16_) (by exact ms16_) (by exact N16_) (by exact rt2_.1)) (fun u_ Sx38_ px41_ => ?_)
    obtain ⟨rfl, vx43_, rfl, px41_⟩ := px41_
    have e29_ := px41_
    have fb_ := fm_b (b_ := b_) (n_ := n_) (M_ := M_) (r_ := a2_.2) (N_ := N_)
    refine sm_T_go 3 (c1 := (39, [some (.inr (.inr (some (13, 0)))), some (.inl m_), some (.inl (Sx6_.1 13 0 25)), some (.inl vx17_), some (.inl vx43_), none, none, none, none], [.inr (.inr (some (13, 0)))], Sx12_)) rfl ?_
    refine sm_T_cal (d1 := 0) (Q1 := vq_292  Sx12_) rfl rfl (by decide) (vc_292  Sx12_ hIx13_ ) (fun u_ Sx44_ px47_ => ?_)
    obtain ⟨rfl, vx49_, rfl, px47_⟩ := px47_
    have e39_ := px47_
    refine sm_T_b0 (a := 0) (z := 16) rfl (fun cx50_ => ?_) (fun cx50_ => ?_)
    · have cx50_ : vx49_ = 0 := of_decide_eq_true cx50_
      have hz3_ := wr_if e39_ (by omega)
      refine sm_T_go 0 (c1 := (58, [some (.inr (.inr (some (13, 0)))), some (.inl m_), some (.inl (Sx6_.1 13 0 25)), some (.inl vx17_), some (.inl vx43_), none, none, none, none], [], Sx12_)) rfl ?_
      refine sm_T_wk [some (.inr (.inr (some (13, 0)))), some (.inl m_), some (.inl (Sx6_.1 13 0 25)), none, some (.inl vx43_), none, none, none, none] (by exact ⟨rfl, rfl, rfl, rfl, trivial⟩) ?_
      refine (vl_338 m_ b_ n_ T_ A_ M_ c_ p_ N_ S0_ ht_ hx_ hk_ hmo_ hmm_ hmd_ hA_ hre_ hrs_ hc_ hms_ hN_ _).1 (Sx6_.1 13 0 25) vx43_ Sx12_ hIx13_ hFx16_ ⟨?_, ?_, ?_, ?_, ?_, ?_, trivial⟩ (Nat.lt_succ_self _)
      · first | exact g55_ | (exact absurd hz3_ hz_) | (exact absurd hz_ hz3_) | (rw [u3w]; exact g3w) | (rw [u3c, if_neg (by omega)]; exact g2r)
      · first | (exact absurd hz3_ hz_) | (exact absurd hz_ hz3_) | (intro a_ ha_; exact (w55_ a_ ha_).elim) | (intro a_ ha_; rw [u3w] at ha_; cases ha_; done) | (intro a_ ha_; rw [u3c, if_neg (by omega)] at ha_; cases ha_; exact e29_)
      · exact tk6_
      · first | exact re55_ | exact re16_
      · first | exact rs55_ | exact rs16_
      · omega
    · have cx50_ : ¬ (vx49_ = 0) := of_decide_eq_false cx50_
      have hz3_ := rt_if e39_ (by omega)
      refine sm_T_go 2 (c1 := (48, [some (.inr (.inr (some (13, 0)))), some (.inl m_), some (.inl (Sx6_.1 13 0 25)), some (.inl vx17_), some (.inl vx43_), none, none, none, none], [.inl (-1), .inl vx43_], Sx12_)) rfl ?_
      refine sm_T_br (a := 1) (z := 10) rfl (fun cx51_ => ?_) (fun cx51_ => ?_)
      · have cx51_ : vx43_ ≠ (-1) := of_decide_eq_true cx51_
        refine sm_T_go 0 (c1 := (58, [some (.inr (.inr (some (13, 0)))), some (.inl m_), some (.inl (Sx6_.1 13 0 25)), some (.inl vx17_), some (.inl vx43_), none, none, none, none], [], Sx12_)) rfl ?_
        refine sm_T_wk [some (.inr (.inr (some (13, 0)))), some (.inl m_), some (.inl (Sx6_.1 13 0 25)), none, some (.inl vx43_), none, none, none, none] (by exact ⟨rfl, rfl, rfl, rfl, trivial⟩) ?_
        refine (vl_338 m_ b_ n_ T_ A_ M_ c_ p_ N_ S0_ ht_ hx_ hk_ hmo_ hmm_ hmd_ hA_ hre_ hrs_ hc_ hms_ hN_ _).1 (Sx6_.1 13 0 25) vx43_ Sx12_ hIx13_ hFx16_ ⟨?_, ?_, ?_, ?_, ?_, ?_, trivial⟩ (Nat.lt_succ_self _)
        · first | exact g55_ | (exact absurd hz3_ hz_) | (exact absurd hz_ hz3_) | (rw [u3w]; exact g3w) | (rw [u3c, if_neg (by omega)]; exact g2r)
        · first | (exact absurd hz3_ hz_) | (exact absurd hz_ hz3_) | (intro a_ ha_; exact (w55_ a_ ha_).elim) | (intro a_ ha_; rw [u3w] at ha_; cases ha_; done) | (intro a_ ha_; rw [u3c, if_neg (by omega)] at ha_; cases ha_; exact e29_)
        · exact tk6_
        · first | exact re55_ | exact re16_
        · first | exact rs55_ | exact rs16_
        · omega
      · have cx51_ : ¬ (vx43_ ≠ (-1)) := of_decide_eq_false cx51_
        refine sm_T_go 3 (c1 := (55, [some (.inr (.inr (some (13, 0)))), some (.inl m_), some (.inl (Sx6_.1 13 0 25)), some (.inl vx17_), some (.inl vx43_), none, none, none, none], [.inl vx17_, .inl 11, .inr (.inr (some (13, 0)))], Sx12_)) rfl ?_
        refine sm_T_cal (d1 := 0) (Q1 := vq_293 11 vx17_ Sx12_) rfl rfl (by decide) (vc_293 11 vx17_ Sx12_ hIx13_ (by decide) (by omega)) (fun u_ Sx52_ px55_ => ?_)
        obtain ⟨rfl, hIx53_, hFx54_, px55_⟩ := px55_
        have hFx56_ : ai_fr (sx_W vw_338) S0_ Sx52_ := ai_fr_tr hFx16_ (fr_le hFx54_ rfl)
        have re55_ : ∀ m_, m_ ≤ M_ → re1 b_ n_ T_ A_ m_ Sx52_ := fun m_ hm_ => re1_fr (re16_ m_ hm_) hFx54_ rfl rfl rfl rfl rfl rfl
        have rs55_ : ∀ m_, m_ ≤ M_ → rs1 A_ m_ Sx52_ := fun m_ hm_ => rs1_fr (rs16_ m_ hm_) hFx54_ rfl rfl rfl rfl
        have g55_ : rg b_ n_ T_ (pb (z_u3 b_ n_ A_ N_ M_ p_) fun a_ => .inr a_.2) Sx52_ := by first | (exact absurd hz3_ hz_) | (rw [u3c, if_pos (by omega)]; rcases px55_ with z_ | z_; (exact absurd hz_ z_.1); (exact ⟨z_.2.1.trans (if_neg rt2_.2.2), z_.2.2.trans rt2_.2.1, by show (11 : Int) ≠ 0; decide⟩))
        have w55_ : ∀ a_, (z_u3 b_ n_ A_ N_ M_ p_) = .inr a_ → False := by first | (exact absurd hz3_ hz_) | (intro a_ ha_; rw [u3c, if_pos (by omega)] at ha_; cases ha_)
        refine sm_T_go 0 (c1 := (58, [some (.inr (.inr (some (13, 0)))), some (.inl m_), some (.inl (Sx6_.1 13 0 25)), some (.inl vx17_), some (.inl vx43_), none, none, none, none], [], Sx52_)) rfl ?_
        refine sm_T_wk [some (.inr (.inr (some (13, 0)))), some (.inl m_), some (.inl (Sx6_.1 13 0 25)), none, some (.inl vx43_), none, none, none, none] (by exact ⟨rfl, rfl, rfl, rfl, trivial⟩) ?_
        refine (vl_338 m_ b_ n_ T_ A_ M_ c_ p_ N_ S0_ ht_ hx_ hk_ hmo_ hmm_ hmd_ hA_ hre_ hrs_ hc_ hms_ hN_ _).1 (Sx6_.1 13 0 25) vx43_ Sx52_ hIx53_ hFx56_ ⟨?_, ?_, ?_, ?_, ?_, ?_, trivial⟩ (Nat.lt_succ_self _)
        · first | exact g55_ | (exact absurd hz3_ hz_) | (exact absurd hz_ hz3_) | (rw [u3w]; exact g3w) | (rw [u3c, if_neg (by omega)]; exact g2r)
        · first | (exact absurd hz3_ hz_) | (exact absurd hz_ hz3_) | (intro a_ ha_; exact (w55_ a_ ha_).elim) | (intro a_ ha_; rw [u3w] at ha_; cases ha_; done) | (intro a_ ha_; rw [u3c, if_neg (by omega)] at ha_; cases ha_; exact e29_)
        · exact tk6_
        · first | exact re55_ | exact re16_
        · first | exact rs55_ | exact rs16_
        · omega
end
/-! 99.ypa -/
section
/-! the reference: items; written by wip/p55/gen/vg -/

/-! items -/
def z_is (b_ : Nat → Int) (n_ : Nat) (a_ : Nat × Nat × Int) : pE ((Nat × Nat × Int) × Nat) := pb (p_nd b_ n_ 59 a_.2.1) fun y_ => .inr (a_, y_)
def k_in (A_ : pA) (M_ : Nat) (c_ : List Int) (a_ : (Nat × Nat × Int) × Nat) : pT := (a_te A_ M_ a_.1.1 0 a_.1.2.2 0, c_, a_.2)
theorem in_eq {b_ : Nat → Int} {n_ M_ p_ : Nat} {A_ : pA} {c_ : List Int} : p_in b_ n_ A_ M_ c_ p_ = pb (pb (z_wi b_ n_ A_ M_ p_) (z_is b_ n_)) fun a_ => .inr (k_in A_ M_ c_ a_) := by
  unfold p_in z_wi z_nw
  simp only [pb_as, pb_ir]
  refine congrArg (pb (p_ad b_ n_ p_)) (funext fun q_ => congrArg (pb _) (funext fun r_ => congrArg (pb _) (funext fun u_ => ?_)))
  show _ = pb (z_is b_ n_ (q_, u_)) _
  unfold z_is
  rw [pb_as]
  rfl
theorem in_ok {b_ : Nat → Int} {n_ M_ p_ : Nat} {A_ : pA} {c_ : List Int} {r_ : pT} (hA_ : a_ok b_ n_ A_ M_) (hp_ : p_ ≤ n_) (hk_ : lx_kd b_ n_ p_ ≠ 0) (hc_ : c_.length ≤ 3 * p_) (h_ : p_in b_ n_ A_ M_ c_ p_ = .inr r_) : a_ok b_ n_ r_.1 M_ ∧ r_.2.1.length ≤ 3 * r_.2.2 ∧ p_ < r_.2.2 := by
  rw [in_eq] at h_
  obtain ⟨a_, h1_, h_⟩ := pb_inr h_
  cases h_
  obtain ⟨a0_, h3_, h1_⟩ := pb_inr h1_
  obtain ⟨y_, h5_, h1_⟩ := pb_inr h1_
  cases h1_
  have k1_ := z_wi_ok hp_ hk_ h3_
  have k3_ := nd_ok k1_.2.2.2.1 (by decide) h5_
  have k5_ := (hA_.2 M_ (Nat.le_refl M_)).1
  have k6_ := k1_.2.1
  have k7_ : a0_.2.1 < y_ := k3_.1
  have k8_ := k1_.2.2.1
  refine ⟨a_te_ok hA_ (by omega) k1_.1 (by decide) ⟨by have := k1_.2.2.2.2.2.1; show (0 : Int) ≤ a0_.2.2; omega, k1_.2.2.2.2.2.2⟩ (fun _ => k1_.2.2.2.2.2.1) (fun z_ => absurd z_ (by decide)) (by decide), ?_, ?_⟩
  · show c_.length ≤ 3 * y_
    omega
  · show p_ < y_
    omega
def p_i2 (b_ : Nat → Int) (n_ : Nat) (A_ : pA) (N_ : Nat → Nat) (M_ : Nat) (c_ : List Int) (p_ : Nat) : pE pT := (p_it b_ n_ A_ N_ M_ c_ p_).getD (.inl (2, p_))
theorem i2_1 {b_ : Nat → Int} {n_ M_ p_ : Nat} {A_ : pA} {N_ : Nat → Nat} {c_ : List Int} (h_ : lx_kd b_ n_ p_ = 4) : p_i2 b_ n_ A_ N_ M_ c_ p_ = p_in b_ n_ A_ M_ c_ p_ := by
  unfold p_i2 p_it
  rw [if_pos h_]
  rfl
theorem i2_2 {b_ : Nat → Int} {n_ M_ p_ : Nat} {A_ : pA} {N_ : Nat → Nat} {c_ : List Int} (h_ : lx_kd b_ n_ p_ = 5) : p_i2 b_ n_ A_ N_ M_ c_ p_ = p_va b_ n_ A_ M_ 1 c_ p_ := by
  unfold p_i2 p_it
  rw [if_neg (by omega), if_pos h_]
  rfl
theorem i2_3 {b_ : Nat → Int} {n_ M_ p_ : Nat} {A_ : pA} {N_ : Nat → Nat} {c_ : List Int} (h_ : lx_kd b_ n_ p_ = 6) : p_i2 b_ n_ A_ N_ M_ c_ p_ = p_va b_ n_ A_ M_ 2 c_ p_ := by
  unfold p_i2 p_it
  rw [if_neg (by omega), if_neg (by omega), if_pos h_]
  rfl
theorem i2_4 {b_ : Nat → Int} {n_ M_ p_ : Nat} {A_ : pA} {N_ : Nat → Nat} {c_ : List Int} (h_ : lx_kd b_ n_ p_ = 7) : p_i2 b_ n_ A_ N_ M_ c_ p_ = p_re b_ n_ A_ M_ c_ p_ := by
  unfold p_i2 p_it
  rw [if_neg (by omega), if_neg (by omega), if_neg (by omega), if_pos h_]
  rfl
theorem i2_5 {b_ : Nat → Int} {n_ M_ p_ : Nat} {A_ : pA} {N_ : Nat → Nat} {c_ : List Int} (h_ : lx_kd b_ n_ p_ = 8) : p_i2 b_ n_ A_ N_ M_ c_ p_ = p_us b_ n_ A_ N_ M_ c_ p_ := by
  unfold p_i2 p_it
  rw [if_neg (by omega), if_neg (by omega), if_neg (by omega), if_neg (by omega), if_pos h_]
  rfl
theorem i2_6 {b_ : Nat → Int} {n_ M_ p_ : Nat} {A_ : pA} {N_ : Nat → Nat} {c_ : List Int} (h_ : ∀ k_ : Int, 4 ≤ k_ → k_ ≤ 8 → lx_kd b_ n_ p_ ≠ k_) : p_i2 b_ n_ A_ N_ M_ c_ p_ = if lx_kd b_ n_ p_ = 1 then p_ne b_ n_ A_ M_ c_ p_ else .inl (2, p_) := by
  unfold p_i2 p_it
  rw [if_neg (h_ 4 (by decide) (by decide)), if_neg (h_ 5 (by decide) (by decide)), if_neg (h_ 6 (by decide) (by decide)), if_neg (h_ 7 (by decide) (by decide)), if_neg (h_ 8 (by decide) (by decide))]
  split <;> rfl
theorem i2_ok {b_ : Nat → Int} {n_ M_ p_ : Nat} {A_ : pA} {N_ : Nat → Nat} {c_ : List Int} {r_ : pT} (hn_ : n_ ≤ 1280) (hA_ : a_ok b_ n_ A_ M_) (hp_ : p_ ≤ n_) (hc_ : c_.length ≤ 3 * p_) (h_ : p_i2 b_ n_ A_ N_ M_ c_ p_ = .inr r_) : p_ < r_.2.2 := by
  by_cases g4_ : lx_kd b_ n_ p_ = 4
  · rw [i2_1 g4_] at h_; exact (in_ok hA_ hp_ (by omega) hc_ h_).2.2
  · by_cases g5_ : lx_kd b_ n_ p_ = 5
    · rw [i2_2 g5_] at h_; exact (va_ok hn_ hA_ (by decide) hp_ (by omega) hc_ h_).2.2
    · by_cases g6_ : lx_kd b_ n_ p_ = 6
      · rw [i2_3 g6_] at h_; exact (va_ok hn_ hA_ (by decide) hp_ (by omega) hc_ h_).2.2
      · by_cases g7_ : lx_kd b_ n_ p_ = 7
        · rw [i2_4 g7_] at h_; exact (re_ok hA_ hp_ (by omega) hc_ h_).2.2
        · by_cases g8_ : lx_kd b_ n_ p_ = 8
          · rw [i2_5 g8_] at h_; exact (us_ok hn_ hA_ hp_ (by omega) hc_ h_).2.2
          · rw [i2_6 (fun k_ h1_ h2_ => by omega)] at h_
            exact (ne_ok hn_ hA_ hp_ hc_ h_).2.2.1
end
/-! 99.ypb -/
section
/-! M_.tellItem -/
def vw_334 : sx_Wl := ([(13, 9), (13, 10), (13, 11), (13, 25), (13, 26), (13, 32), (13, 33), (13, 34)], [126, 127, 128, 129, 130, 131, 132, 133, 134, 135, 136, 137, 138, 139], [])
def vq_334 (m_ : Int) (b_ : Nat → Int) (n_ : Nat) (T_ : Nat) (A_ : pA) (M_ : Nat) (c_ : List Int) (p_ : Nat) (N_ : Nat → Nat) (S0_ : sm_S) (u_ : Option sm_V) (S1_ : sm_S) : Prop := u_ = none ∧ gi S1_ ∧ ai_fr (sx_W vw_334) S0_ S1_ ∧ (rm b_ n_ T_ M_ (p_i2 b_ n_ A_ N_ M_ c_ p_) S1_)
set_option maxHeartbeats 2000000 in
theorem vc_334 {sc_ : Nat × (Nat → Int)} (m_ : Int) (b_ : Nat → Int) (n_ : Nat) (T_ : Nat) (A_ : pA) (M_ : Nat) (c_ : List Int) (p_ : Nat) (N_ : Nat → Nat) (S0_ : sm_S) (hI_ : gi S0_) (ht_ : rtab b_ n_ T_ S0_) (hx_ : rg b_ n_ T_ (.inr p_) S0_) (hmo_ : (S0_.1 13 0 27) = 0) (hmm_ : m_ = (M_ : Int) ∧ M_ ≤ 15) (hmd_ : (S0_.1 13 0 28) = (M_ : Int)) (hA_ : a_ok b_ n_ A_ M_) (hre_ : ∀ m_, m_ ≤ M_ → re1 b_ n_ T_ A_ m_ S0_) (hrs_ : ∀ m_, m_ ≤ M_ → rs1 A_ m_ S0_) (hc_ : c_.length ≤ 3 * p_) (hms_ : (S0_.1 13 0 12) = (M_ : Int)) (hN_ : rnr b_ n_ T_ N_ M_ S0_) : sm_T (mt_P sc_) 9 334 (0, [some (.inr (.inr (some (13, 0)))), some (.inl m_)], [], S0_) (fun r_ => ∃ u_ S1_, r_ = (.inl u_, S1_, 0) ∧ vq_334 m_ b_ n_ T_ A_ M_ c_ p_ N_ S0_ u_ S1_) := by
  have hF_ : ai_fr (sx_W vw_334) S0_ S0_ := ai_fr_rf
  have le0_ := rg_le ht_ hx_
  have hn1_ := ht_.1
  have hAM_ := (hA_.2 M_ (Nat.le_refl M_)).1
  refine sm_T_go 2 (c1 := (2, [some (.inr (.inr (some (13, 0)))), some (.inl m_)], [.inl 2, .inr (.inr (some (13, 0)))], S0_)) rfl ?_
  refine sm_T_cal (d1 := 0) (Q1 := vq_296 2 b_ n_ T_ (.inr p_) S0_) rfl rfl (by decide) (vc_296 2 b_ n_ T_ (.inr p_) S0_ hI_ (by exact ht_) (by exact hx_) (by decide)) (fun u_ Sx1_ px4_ => ?_)
  obtain ⟨rfl, vx6_, rfl, px4_⟩ := px4_
  have w2_ := px4_.2 p_ rfl
  have q2_ := px4_.1
  refine sm_T_b0 (a := 0) (z := 32) rfl (fun cx7_ => ?_) (fun cx7_ => ?_)
  · have cx7_ : vx6_ = 0 := of_decide_eq_true cx7_
    have nk4_ : lx_kd b_ n_ p_ ≠ 4 := fun z_ => by have := w2_.mpr (by omega); omega
    refine sm_T_go 2 (c1 := (39, [some (.inr (.inr (some (13, 0)))), some (.inl m_)], [.inl 3, .inr (.inr (some (13, 0)))], S0_)) rfl ?_
    refine sm_T_cal (d1 := 0) (Q1 := vq_296 3 b_ n_ T_ (.inr p_) S0_) rfl rfl (by decide) (vc_296 3 b_ n_ T_ (.inr p_) S0_ hI_ (by exact ht_) (by exact hx_) (by decide)) (fun u_ Sx8_ px11_ => ?_)
    obtain ⟨rfl, vx13_, rfl, px11_⟩ := px11_
    have w39_ := px11_.2 p_ rfl
    have q39_ := px11_.1
    refine sm_T_b0 (a := 0) (z := 12) rfl (fun cx14_ => ?_) (fun cx14_ => ?_)
    · have cx14_ : vx13_ = 0 := of_decide_eq_true cx14_
      have nk5_ : lx_kd b_ n_ p_ ≠ 5 := fun z_ => by have := w39_.mpr (by omega); omega
      refine sm_T_go 2 (c1 := (56, [some (.inr (.inr (some (13, 0)))), some (.inl m_)], [.inl 4, .inr (.inr (some (13, 0)))], S0_)) rfl ?_
      refine sm_T_cal (d1 := 0) (Q1 := vq_296 4 b_ n_ T_ (.inr p_) S0_) rfl rfl (by decide) (vc_296 4 b_ n_ T_ (.inr p_) S0_ hI_ (by exact ht_) (by exact hx_) (by decide)) (fun u_ Sx15_ px18_ => ?_)
      obtain ⟨rfl, vx20_, rfl, px18_⟩ := px18_
      have w56_ := px18_.2 p_ rfl
      have q56_ := px18_.1
      refine sm_T_b0 (a := 0) (z := 12) rfl (fun cx21_ => ?_) (fun cx21_ => ?_)
      · have cx21_ : vx20_ = 0 := of_decide_eq_true cx21_
        have nk6_ : lx_kd b_ n_ p_ ≠ 6 := fun z_ => by have := w56_.mpr (by omega); omega
        refine sm_T_go 2 (c1 := (73, [some (.inr (.inr (some (13, 0)))), some (.inl m_)], [.inl 5, .inr (.inr (some (13, 0)))], S0_)) rfl ?_
        refine sm_T_cal (d1 := 0) (Q1 := vq_296 5 b_ n_ T_ (.inr p_) S0_) rfl rfl (by decide) (vc_296 5 b_ n_ T_ (.inr p_) S0_ hI_ (by exact ht_) (by exact hx_) (by decide)) (fun u_ Sx22_ px25_ => ?_)
        obtain ⟨rfl, vx27_, rfl, px25_⟩ := px25_
        have w73_ := px25_.2 p_ rfl
        have q73_ := px25_.1
        refine sm_T_b0 (a := 0) (z := 11) rfl (fun cx28_ => ?_) (fun cx28_ => ?_)
        · have cx28_ : vx27_ = 0 := of_decide_eq_true cx28_
          have nk7_ : lx_kd b_ n_ p_ ≠ 7 := fun z_ => by have := w73_.mpr (by omega); omega
          refine sm_T_go 2 (c1 := (90, [some (.inr (.inr (some (13, 0)))), some (.inl m_)], [.inl 6, .inr (.inr (some (13, 0)))], S0_)) rfl ?_
          refine sm_T_cal (d1 := 0) (Q1 := vq_296 6 b_ n_ T_ (.inr p_) S0_) rfl rfl (by decide) (vc_296 6 b_ n_ T_ (.inr p_) S0_ hI_ (by exact ht_) (by exact hx_) (by decide)) (fun u_ Sx29_ px32_ => ?_)
          obtain ⟨rfl, vx34_, rfl, px32_⟩ := px32_
          have w90_ := px32_.2 p_ rfl
          have q90_ := px32_.1
          refine sm_T_b0 (a := 0) (z := 11) rfl (fun cx35_ => ?_) (fun cx35_ => ?_)
          · have cx35_ : vx34_ = 0 := of_decide_eq_true cx35_
            have nk8_ : lx_kd b_ n_ p_ ≠ 8 := fun z_ => by have := w90_.mpr (by omega); omega
            refine sm_T_go 2 (c1 := (106, [some (.inr (.inr (some (13, 0)))), some (.inl m_)], [.inl m_, .inr (.inr (some (13, 0)))], S0_)) rfl ?_
            refine sm_T_cal (d1 := 8) (Q1 := vq_337 m_ b_ n_ T_ A_ M_ c_ p_ S0_) rfl rfl (by decide) (vc_337 m_ b_ n_ T_ A_ M_ c_ p_ S0_ hI_ (by exact ht_) (by exact hx_) (by exact hmo_) (by exact hmm_) (by exact hmd_) (by exact hA_) (by exact hre_) (by exact hrs_) (by exact hc_)) (fun u_ Sx36_ px39_ => ?_)
            obtain ⟨rfl, hIx37_, hFx38_, px39_⟩ := px39_
            have hFx40_ : ai_fr (sx_W vw_334) S0_ Sx36_ := ai_fr_tr hF_ (fr_le hFx38_ rfl)
            have e9_ := px39_
            rw [← i2_6 (N_ := N_) (fun k_ h1_ h2_ => by omega)] at e9_
            refine sm_T_rv rfl ⟨_, _, rfl, rfl, hIx37_, hFx40_, ?_⟩
            exact e9_
          · have cx35_ : ¬ (vx34_ = 0) := of_decide_eq_false cx35_
            have kd_ : lx_kd b_ n_ p_ = 8 := by have := w90_.mp (by omega); omega
            refine sm_T_go 2 (c1 := (98, [some (.inr (.inr (some (13, 0)))), some (.inl m_)], [.inl m_, .inr (.inr (some (13, 0)))], S0_)) rfl ?_
            refine sm_T_cal (d1 := 8) (Q1 := vq_338 m_ b_ n_ T_ A_ M_ c_ p_ N_ S0_) rfl rfl (by decide) (vc_338 m_ b_ n_ T_ A_ M_ c_ p_ N_ S0_ hI_ (by exact ht_) (by exact hx_) (by omega) (by exact hmo_) (by exact hmm_) (by exact hmd_) (by exact hA_) (by exact hre_) (by exact hrs_) (by exact hc_) (by exact hms_) (by exact hN_)) (fun u_ Sx41_ px44_ => ?_)
            obtain ⟨rfl, hIx42_, hFx43_, px44_⟩ := px44_
            have hFx45_ : ai_fr (sx_W vw_334) S0_ Sx41_ := ai_fr_tr hF_ (fr_le hFx43_ rfl)
            have e9_ := px44_
            rw [← i2_5 kd_] at e9_
            refine sm_T_go 1 (c1 := (109, [some (.inr (.inr (some (13, 0)))), some (.inl m_)], [], Sx41_)) rfl ?_
            refine sm_T_rv rfl ⟨_, _, rfl, rfl, hIx42_, hFx45_, ?_⟩
            exact e9_
        · have cx28_ : ¬ (vx27_ = 0) := of_decide_eq_false cx28_
          have kd_ : lx_kd b_ n_ p_ = 7 := by have := w73_.mp (by omega); omega
          refine sm_T_go 2 (c1 := (81, [some (.inr (.inr (some (13, 0)))), some (.inl m_)], [.inl m_, .inr (.inr (some (13, 0)))], S0_)) rfl ?_
          refine sm_T_cal (d1 := 8) (Q1 := vq_336 m_ b_ n_ T_ A_ M_ c_ p_ S0_) rfl rfl (by decide) (vc_336 m_ b_ n_ T_ A_ M_ c_ p_ S0_ hI_ (by exact ht_) (by exact hx_) (by omega) (by exact hmo_) (by exact hmm_) (by exact hmd_) (by exact hA_) (by exact hre_) (by exact hrs_) (by exact hc_)) (fun u_ Sx46_ px49_ => ?_)
          obtain ⟨rfl, hIx47_, hFx48_, px49_⟩ := px49_
          have hFx50_ : ai_fr (sx_W vw_334) S0_ Sx46_ := ai_fr_tr hF_ (fr_le hFx48_ rfl)
          have e9_ := px49_
          rw [← i2_4 (N_ := N_) kd_] at e9_
          refine sm_T_go 1 (c1 := (109, [some (.inr (.inr (some (13, 0)))), some (.inl m_)], [], Sx46_)) rfl ?_
          refine sm_T_rv rfl ⟨_, _, rfl, rfl, hIx47_, hFx50_, ?_⟩
          exact e9_
      · have cx21_ : ¬ (vx20_ = 0) := of_decide_eq_false cx21_
        have kd_ : lx_kd b_ n_ p_ = 6 := by have := w56_.mp (by omega); omega
        refine sm_T_go 3 (c1 := (65, [some (.inr (.inr (some (13, 0)))), some (.inl m_)], [.inl 3, .inl m_, .inr (.inr (some (13, 0)))], S0_)) rfl ?_
        refine sm_T_cal (d1 := 8) (Q1 := vq_335 m_ 3 b_ n_ T_ A_ M_ c_ p_ 2 S0_) rfl rfl (by decide) (vc_335 m_ 3 b_ n_ T_ A_ M_ c_ p_ 2 S0_ hI_ (by exact ht_) (by exact hx_) (by omega) (by exact hmo_) (by exact hmm_) (by exact hmd_) (by exact hA_) (by exact hre_) (by exact hrs_) (by exact hc_) (by decide)) (fun u_ Sx51_ px54_ => ?_)
        obtain ⟨rfl, hIx52_, hFx53_, px54_⟩ := px54_
        have hFx55_ : ai_fr (sx_W vw_334) S0_ Sx51_ := ai_fr_tr hF_ (fr_le hFx53_ rfl)
        have e9_ := px54_
        rw [← i2_3 (N_ := N_) kd_] at e9_
        refine sm_T_go 1 (c1 := (109, [some (.inr (.inr (some (13, 0)))), some (.inl m_)], [], Sx51_)) rfl ?_
        refine sm_T_rv rfl ⟨_, _, rfl, rfl, hIx52_, hFx55_, ?_⟩
        exact e9_
    · have cx14_ : ¬ (vx13_ = 0) := of_decide_eq_false cx14_
      have kd_ : lx_kd b_ n_ p_ = 5 := by have := w39_.mp (by omega); omega
      refine sm_T_go 3 (c1 := (48, [some (.inr (.inr (some (13, 0)))), some (.inl m_)], [.inl 2, .inl m_, .inr (.inr (some (13, 0)))], S0_)) rfl ?_
      refine sm_T_cal (d1 := 8) (Q1 := vq_335 m_ 2 b_ n_ T_ A_ M_ c_ p_ 1 S0_) rfl rfl (by decide) (vc_335 m_ 2 b_ n_ T_ A_ M_ c_ p_ 1 S0_ hI_ (by exact ht_) (by exact hx_) (by omega) (by exact hmo_) (by exact hmm_) (by exact hmd_) (by exact hA_) (by exact hre_) (by exact hrs_) (by exact hc_) (by decide)) (fun u_ Sx56_ px59_ => ?_)
      obtain ⟨rfl, hIx57_, hFx58_, px59_⟩ := px59_
      have hFx60_ : ai_fr (sx_W vw_334) S0_ Sx56_ := ai_fr_tr hF_ (fr_le hFx58_ rfl)
      have e9_ := px59_
      rw [← i2_2 (N_ := N_) kd_] at e9_
      refine sm_T_go 1 (c1 := (109, [some (.inr (.inr (some (13, 0)))), some (.inl m_)], [], Sx56_)) rfl ?_
      refine sm_T_rv rfl ⟨_, _, rfl, rfl, hIx57_, hFx60_, ?_⟩
      exact e9_
  · have cx7_ : ¬ (vx6_ = 0) := of_decide_eq_false cx7_
    have kd_ : lx_kd b_ n_ p_ = 4 := by have := w2_.mp (by omega); omega
    refine sm_T_go 1 (c1 := (9, [some (.inr (.inr (some (13, 0)))), some (.inl m_)], [.inr (.inr (some (13, 0)))], S0_)) rfl ?_
    refine sm_T_cal (d1 := 2) (Q1 := vq_297 b_ n_ T_ (.inr p_) S0_) rfl rfl (by decide) (vc_297 b_ n_ T_ (.inr p_) S0_ hI_ (by exact ht_) (by exact hx_) (by (intro q_ e_; cases e_; omega))) (fun u_ Sx61_ px64_ => ?_)
    obtain ⟨rfl, hIx62_, hFx63_, px64_⟩ := px64_
    have hFx65_ : ai_fr (sx_W vw_334) S0_ Sx61_ := ai_fr_tr hF_ (fr_le hFx63_ rfl)
    have t1_ := rtab_fr ht_ hFx63_ rfl rfl rfl rfl rfl
    have re1x : ∀ m_, m_ ≤ M_ → re1 b_ n_ T_ A_ m_ Sx61_ := fun m_ hm_ => re1_fr (hre_ m_ hm_) hFx63_ rfl rfl rfl rfl rfl rfl
    have rs1x : ∀ m_, m_ ≤ M_ → rs1 A_ m_ Sx61_ := fun m_ hm_ => rs1_fr (hrs_ m_ hm_) hFx63_ rfl rfl rfl rfl
    have mo1_ := (hFx63_.1 13 0 27 rfl).trans hmo_
    have md1_ := (hFx63_.1 13 0 28 rfl).trans hmd_
    have g1_ : rg b_ n_ T_ (p_ad b_ n_ p_) Sx61_ := px64_.1
    refine sm_T_go 2 (c1 := (14, [some (.inr (.inr (some (13, 0)))), some (.inl m_)], [.inl m_, .inr (.inr (some (13, 0)))], Sx61_)) rfl ?_
    refine sm_T_cal (d1 := 3) (Q1 := vq_306 m_ b_ n_ T_ (p_ad b_ n_ p_) A_ M_ Sx61_) rfl rfl (by decide) (vc_306 m_ b_ n_ T_ (p_ad b_ n_ p_) A_ M_ Sx61_ hIx62_ (by exact t1_) (by exact g1_) (by exact hmm_) (by exact re1x M_ (Nat.le_refl M_)) (by exact hAM_)) (fun u_ Sx66_ px69_ => ?_)
    obtain ⟨rfl, hIx67_, hFx68_, px69_⟩ := px69_
    have hFx70_ : ai_fr (sx_W vw_334) S0_ Sx66_ := ai_fr_tr hFx65_ (fr_le hFx68_ rfl)
    have t6_ := rtab_fr t1_ hFx68_ rfl rfl rfl rfl rfl
    have re6_ : ∀ m_, m_ ≤ M_ → re1 b_ n_ T_ A_ m_ Sx66_ := fun m_ hm_ => re1_fr (re1x m_ hm_) hFx68_ rfl rfl rfl rfl rfl rfl
    have rs6_ : ∀ m_, m_ ≤ M_ → rs1 A_ m_ Sx66_ := fun m_ hm_ => rs1_fr (rs1x m_ hm_) hFx68_ rfl rfl rfl rfl
    have mo6_ := (hFx68_.1 13 0 27 rfl).trans mo1_
    have md6_ := (hFx68_.1 13 0 28 rfl).trans md1_
    have g6_ : rg b_ n_ T_ (pb (z_nw b_ n_ A_ M_ p_) fun a_ => .inr a_.2) Sx66_ := rg_pb (z_ := p_ad b_ n_ p_) (ps_ := fun a_ => a_) (g_ := p_nw b_ n_ A_ M_) (by rw [pb_id]; exact px69_.1) (fun a_ _ => by rw [pb_as]; exact pb_id.symm)
    have tk6_ : ∀ a_, z_nw b_ n_ A_ M_ p_ = .inr a_ → rtk b_ n_ T_ (Sx66_.1 13 0 25) a_.1 := fun a_ ha_ => by obtain ⟨q_, h1_, h2_⟩ := pb_inr ha_; obtain ⟨r_, h3_, h4_⟩ := pb_inr h2_; cases h4_; exact px69_.2 q_ r_ h1_ h3_
    refine sm_T_go 1 (c1 := (18, [some (.inr (.inr (some (13, 0)))), some (.inl m_)], [.inr (.inr (some (13, 0)))], Sx66_)) rfl ?_
    refine sm_T_cal (d1 := 3) (Q1 := vq_307 b_ n_ T_ (pb (z_nw b_ n_ A_ M_ p_) fun a_ => .inr a_.2) Sx66_) rfl rfl (by decide) (vc_307 b_ n_ T_ (pb (z_nw b_ n_ A_ M_ p_) fun a_ => .inr a_.2) Sx66_ hIx67_ (by exact t6_) (by exact g6_)) (fun u_ Sx71_ px74_ => ?_)
    obtain ⟨rfl, hIx72_, hFx73_, px74_⟩ := px74_
    have hFx75_ : ai_fr (sx_W vw_334) S0_ Sx71_ := ai_fr_tr hFx70_ (fr_le hFx73_ rfl)
    have t10_ := rtab_fr t6_ hFx73_ rfl rfl rfl rfl rfl
    have re10_ : ∀ m_, m_ ≤ M_ → re1 b_ n_ T_ A_ m_ Sx71_ := fun m_ hm_ => re1_fr (re6_ m_ hm_) hFx73_ rfl rfl rfl rfl rfl rfl
    have rs10_ : ∀ m_, m_ ≤ M_ → rs1 A_ m_ Sx71_ := fun m_ hm_ => rs1_fr (rs6_ m_ hm_) hFx73_ rfl rfl rfl rfl
    have mo10_ := (hFx73_.1 13 0 27 rfl).trans mo6_
    have md10_ := (hFx73_.1 13 0 28 rfl).trans md6_
    have g10_ : rg b_ n_ T_ (pb (z_wi b_ n_ A_ M_ p_) fun a_ => .inr a_.2.1) Sx71_ := rg_pb px74_.1 (fun a_ _ => by unfold p_w1; rw [pb_as]; rfl)
    have tk10_ : ∀ a_, z_wi b_ n_ A_ M_ p_ = .inr a_ → rtk b_ n_ T_ (Sx71_.1 13 0 25) a_.1 := fun a_ ha_ => by rw [hFx73_.1 13 0 25 rfl]; obtain ⟨q_, h1_, h2_⟩ := pb_inr ha_; obtain ⟨r_, h3_, h4_⟩ := pb_inr h2_; cases h4_; exact tk6_ q_ h1_
    have wd10_ : ∀ a_, z_wi b_ n_ A_ M_ p_ = .inr a_ → Sx71_.1 13 0 26 = a_.2.2 := fun a_ ha_ => by obtain ⟨q_, h1_, h2_⟩ := pb_inr ha_; obtain ⟨r_, h3_, h4_⟩ := pb_inr h2_; cases h4_; exact px74_.2 q_.2 r_ (by rw [h1_]; rfl) h3_
    have pl10_ : ∀ a_, z_wi b_ n_ A_ M_ p_ = .inr a_ → Sx71_.2.2.1 120 0 (Sx71_.1 13 0 9).toNat = (a_.2.1 : Int) := fun a_ ha_ => (rg_le t10_ (rg_at g10_ ha_)).2.2
    refine sm_T_go 2 (c1 := (24, [some (.inr (.inr (some (13, 0)))), some (.inl m_)], [.inl 59, .inr (.inr (some (13, 0)))], Sx71_)) rfl ?_
    refine sm_T_cal (d1 := 3) (Q1 := vq_300 59 b_ n_ T_ (pb (z_wi b_ n_ A_ M_ p_) fun a_ => .inr a_.2.1) Sx71_) rfl rfl (by decide) (vc_300 59 b_ n_ T_ (pb (z_wi b_ n_ A_ M_ p_) fun a_ => .inr a_.2.1) Sx71_ hIx72_ (by exact t10_) (by exact g10_) (by decide)) (fun u_ Sx76_ px79_ => ?_)
    obtain ⟨rfl, hIx77_, hFx78_, px79_⟩ := px79_
    have hFx80_ : ai_fr (sx_W vw_334) S0_ Sx76_ := ai_fr_tr hFx75_ (fr_le hFx78_ rfl)
    have t24_ := rtab_fr t10_ hFx78_ rfl rfl rfl rfl rfl
    have re24_ : ∀ m_, m_ ≤ M_ → re1 b_ n_ T_ A_ m_ Sx76_ := fun m_ hm_ => re1_fr (re10_ m_ hm_) hFx78_ rfl rfl rfl rfl rfl rfl
    have rs24_ : ∀ m_, m_ ≤ M_ → rs1 A_ m_ Sx76_ := fun m_ hm_ => rs1_fr (rs10_ m_ hm_) hFx78_ rfl rfl rfl rfl
    have mo24_ := (hFx78_.1 13 0 27 rfl).trans mo10_
    have md24_ := (hFx78_.1 13 0 28 rfl).trans md10_
    have g24_ : rg b_ n_ T_ (pb (pb (z_wi b_ n_ A_ M_ p_) (z_is b_ n_)) fun a_ => .inr a_.2) Sx76_ := rg_pb px79_ (fun a_ _ => by unfold z_is; rw [pb_as]; exact pb_id.symm)
    have tk24_ : ∀ a_, z_wi b_ n_ A_ M_ p_ = .inr a_ → rtk b_ n_ T_ (Sx76_.1 13 0 25) a_.1 := fun a_ ha_ => by rw [hFx78_.1 13 0 25 rfl]; exact tk10_ a_ ha_
    have wd24_ : ∀ a_, z_wi b_ n_ A_ M_ p_ = .inr a_ → Sx76_.1 13 0 26 = a_.2.2 := fun a_ ha_ => (hFx78_.1 13 0 26 rfl).trans (wd10_ a_ ha_)
    refine sm_T_go 4 (c1 := (31, [some (.inr (.inr (some (13, 0)))), some (.inl m_)], [.inl 0, .inl 1, .inl m_, .inr (.inr (some (13, 0)))], Sx76_)) rfl ?_
    refine sm_T_cal (d1 := 1) (Q1 := vq_308 m_ 1 0 b_ n_ T_ (pb (pb (z_wi b_ n_ A_ M_ p_) (z_is b_ n_)) fun a_ => .inr a_.2) A_ M_ 0 Sx76_) rfl rfl (by decide) (vc_308 m_ 1 0 b_ n_ T_ (pb (pb (z_wi b_ n_ A_ M_ p_) (z_is b_ n_)) fun a_ => .inr a_.2) A_ M_ 0 Sx76_ hIx77_ (by exact hIx77_) (by exact g24_) (by exact hmm_) (by exact ⟨rfl, by decide, by decide, by decide⟩) (by (intro p9_ hp9_; obtain ⟨a_, h1_, h2_⟩ := pb_inr hp9_; obtain ⟨a2_, h3_, h4_⟩ := pb_inr h1_; have k1_ := z_wi_ok le0_.1 (by omega) h3_; have k2_ := wd24_ a2_ h3_; have k3_ := k1_.2.1; have k4_ := k1_.2.2.2.2.2; exact ⟨hA_, re24_, rs24_, by omega, by omega, by decide, fun z_ => absurd z_ (by decide)⟩))) (fun u_ Sx81_ px84_ => ?_)
    obtain ⟨rfl, hIx82_, hFx83_, px84_⟩ := px84_
    have hFx85_ : ai_fr (sx_W vw_334) S0_ Sx81_ := ai_fr_tr hFx80_ (fr_le hFx83_ rfl)
    have e31_ := px84_
    have e9_ : rm b_ n_ T_ M_ (p_i2 b_ n_ A_ N_ M_ c_ p_) Sx81_ := by rw [i2_1 kd_]; refine ⟨?_, fun r_ hr_ => ?_⟩; (rw [in_eq, pb_as]; exact e31_.1); (have k_ := in_ok hA_ le0_.1 (by omega) hc_ hr_; rw [in_eq] at hr_; obtain ⟨a_, h1_, h2_⟩ := pb_inr hr_; cases h2_; obtain ⟨a2_, h3_, h4_⟩ := pb_inr h1_; have k5_ := tk24_ a2_ h3_; have k6_ := wd24_ a2_ h3_; unfold z_is at h4_; obtain ⟨y_, h8_, h9_⟩ := pb_inr h4_; cases h9_; have e_ := e31_.2 y_ a2_.1 (by rw [h1_]; rfl) k5_; rw [k6_] at e_; exact ⟨k_.1, e_.1, e_.2, k_.2.1⟩)
    refine sm_T_go 1 (c1 := (109, [some (.inr (.inr (some (13, 0)))), some (.inl m_)], [], Sx81_)) rfl ?_
    refine sm_T_rv rfl ⟨_, _, rfl, rfl, hIx82_, hFx85_, ?_⟩
    exact e9_
end
/-! 99.yqa -/
section
/-! the reference: modules told; written by wip/p55/gen/vg -/

/-! modules told -/
def z_b3 (b_ : Nat → Int) (n_ : Nat) (N_ : Nat → Nat) (M_ q_ : Nat) : pE Nat := pb (pb (p_nd b_ n_ 3 q_) (p_du b_ n_ 1)) fun r_ => if p_fm b_ n_ N_ M_ r_ = -1 then .inr r_ else .inl (10, r_)
def z_b4 (b_ : Nat → Int) (n_ : Nat) (N_ : Nat → Nat) (M_ q_ : Nat) : pE Nat := pb (z_b3 b_ n_ N_ M_ q_) fun r_ => if M_ = 16 then .inl (15, r_) else .inr r_
def z_b5 (b_ : Nat → Int) (n_ : Nat) (N_ : Nat → Nat) (M_ q_ : Nat) : pE (Nat × Nat) := pb (z_b4 b_ n_ N_ M_ q_) fun r_ => pb (p_ad b_ n_ r_) fun u_ => .inr (r_, u_)
def z_b6 (b_ : Nat → Int) (n_ : Nat) (N_ : Nat → Nat) (M_ q_ : Nat) : pE (Nat × Nat) := pb (z_b5 b_ n_ N_ M_ q_) fun a_ => pb (p_nd b_ n_ 123 a_.2) fun u_ => .inr (a_.1, u_)
theorem bm_eq {b_ : Nat → Int} {n_ M_ q_ : Nat} {A_ : pA} {N_ : Nat → Nat} : p_bm b_ n_ A_ N_ M_ q_ = pb (z_b6 b_ n_ N_ M_ q_) fun a_ => .inr (a_bm A_ M_, n_up N_ M_ a_.1, a_.2) := by
  unfold p_bm z_b6 z_b5 z_b4 z_b3
  simp only [pb_as, pb_ir]
  refine congrArg (pb _) (funext fun r_ => ?_)
  unfold p_du
  by_cases g_ : lx_kd b_ n_ r_ = 1
  · rw [if_pos g_, if_pos g_]
    show _ = pb (if p_fm b_ n_ N_ M_ r_ = -1 then .inr r_ else .inl (10, r_)) _
    by_cases g2_ : p_fm b_ n_ N_ M_ r_ = -1
    · rw [if_pos g2_, if_pos g2_]
      show _ = pb (if M_ = 16 then .inl (15, r_) else .inr r_) _
      by_cases g3_ : M_ = 16
      · rw [if_pos g3_, if_pos g3_]; rfl
      · rw [if_neg g3_, if_neg g3_]; rfl
    · rw [if_neg g2_, if_neg g2_]; rfl
  · rw [if_neg g_, if_neg g_]; rfl
theorem b3_r {b_ : Nat → Int} {n_ M_ q_ r_ : Nat} {N_ : Nat → Nat} (h_ : z_b3 b_ n_ N_ M_ q_ = .inr r_) : pb (p_nd b_ n_ 3 q_) (p_du b_ n_ 1) = .inr r_ ∧ lx_kd b_ n_ r_ = 1 := by
  obtain ⟨r1_, h1_, h2_⟩ := pb_inr h_
  split at h2_
  · cases h2_
    refine ⟨h1_, ?_⟩
    obtain ⟨r2_, h3_, h4_⟩ := pb_inr h1_
    unfold p_du at h4_
    split at h4_
    · rename_i g_
      cases h4_
      exact g_
    · cases h4_
  · cases h2_
theorem b4_r {b_ : Nat → Int} {n_ M_ q_ r_ : Nat} {N_ : Nat → Nat} (h_ : z_b4 b_ n_ N_ M_ q_ = .inr r_) : z_b3 b_ n_ N_ M_ q_ = .inr r_ ∧ M_ ≠ 16 := by
  obtain ⟨r1_, h1_, h2_⟩ := pb_inr h_
  split at h2_
  · cases h2_
  · rename_i g_
    cases h2_
    exact ⟨h1_, g_⟩
theorem b6_r {b_ : Nat → Int} {n_ M_ q_ : Nat} {N_ : Nat → Nat} {a_ : Nat × Nat} (hq_ : q_ ≤ n_) (h_ : z_b6 b_ n_ N_ M_ q_ = .inr a_) : z_b4 b_ n_ N_ M_ q_ = .inr a_.1 ∧ nmp b_ n_ a_.1 ∧ q_ < a_.2 ∧ a_.2 ≤ n_ ∧ pb (p_ad b_ n_ a_.1) (p_nd b_ n_ 123) = .inr a_.2 := by
  obtain ⟨a1_, h1_, h2_⟩ := pb_inr h_
  obtain ⟨u_, h3_, h4_⟩ := pb_inr h2_
  cases h4_
  obtain ⟨r_, h5_, h6_⟩ := pb_inr h1_
  obtain ⟨v_, h7_, h8_⟩ := pb_inr h6_
  cases h8_
  have k1_ := b3_r (b4_r h5_).1
  obtain ⟨r2_, h9_, h10_⟩ := pb_inr k1_.1
  have k2_ := nd_ok hq_ (by decide) h9_
  have e_ : r_ = r2_ := by
    unfold p_du at h10_
    split at h10_
    · cases h10_; rfl
    · cases h10_
  subst e_
  have k3_ := p_ad_ok k2_.2.1 (by omega) h7_
  have k4_ := nd_ok k3_.2.2.1 (by decide) h3_
  have k5_ := k2_.1
  have k6_ := k3_.2.1
  have k7_ : v_ < u_ := k4_.1
  exact ⟨h5_, ⟨k2_.2.1, k1_.2⟩, by show q_ < u_; omega, k4_.2.1, by rw [pb_r h7_]; exact h3_⟩
theorem dl_w {b_ : Nat → Int} {n_ f_ M_ p_ : Nat} {A_ : pA} {N_ mc : Nat → Nat} {c_ : List Int} {e_ : Int × Nat} (hk_ : lx_kd b_ n_ p_ ≠ 125) (h_ : p_i2 b_ n_ A_ N_ M_ c_ p_ = .inl e_) : p_dl b_ n_ (f_ + 1) A_ N_ M_ mc c_ p_ = .inl e_ := by
  unfold p_i2 at h_
  cases hi_ : p_it b_ n_ A_ N_ M_ c_ p_ with
  | some x_ =>
    rw [hi_] at h_
    rw [dl_i hi_]
    have h_ : x_ = .inl e_ := h_
    rw [h_]
    rfl
  | none =>
    rw [hi_] at h_
    rw [dl_n hi_]
    unfold p_en p_nd
    rw [if_neg hk_]
    cases h_
    rfl
theorem dl_r {b_ : Nat → Int} {n_ f_ M_ p_ : Nat} {A_ : pA} {N_ mc : Nat → Nat} {c_ : List Int} {r_ : pT} (h_ : p_i2 b_ n_ A_ N_ M_ c_ p_ = .inr r_) : p_dl b_ n_ (f_ + 1) A_ N_ M_ mc c_ p_ = p_dl b_ n_ f_ r_.1 N_ M_ mc r_.2.1 r_.2.2 := by
  unfold p_i2 at h_
  cases hi_ : p_it b_ n_ A_ N_ M_ c_ p_ with
  | some x_ =>
    rw [hi_] at h_
    rw [dl_i hi_]
    have h_ : x_ = .inr r_ := h_
    rw [h_]
    rfl
  | none =>
    rw [hi_] at h_
    cases h_
theorem dl_e {b_ : Nat → Int} {n_ f_ M_ p_ : Nat} {A_ : pA} {N_ mc : Nat → Nat} {c_ : List Int} (hk_ : lx_kd b_ n_ p_ = 125) : p_dl b_ n_ (f_ + 1) A_ N_ M_ mc c_ p_ = pb (p_nd b_ n_ 125 p_) fun r_ => if lx_kd b_ n_ r_ = 0 then .inr (A_, N_, M_ + 1, n_up mc (M_ + 1) c_.length, c_) else pb (p_bm b_ n_ A_ N_ (M_ + 1) r_) fun x_ => p_dl b_ n_ f_ x_.1 x_.2.1 (M_ + 1) (n_up mc (M_ + 1) c_.length) c_ x_.2.2 := by
  have hi_ : p_it b_ n_ A_ N_ M_ c_ p_ = none := by
    unfold p_it
    rw [if_neg (by omega), if_neg (by omega), if_neg (by omega), if_neg (by omega), if_neg (by omega), if_neg (by omega)]
  rw [dl_n hi_]
  unfold p_en
  rw [pb_as]
  refine congrArg (pb _) (funext fun r_ => ?_)
  by_cases g_ : lx_kd b_ n_ r_ = 0
  · rw [if_pos g_, if_pos g_]; rfl
  · rw [if_neg g_, if_neg g_, pb_as]; rfl
/-- where a_ module's body begins, and its_ token -/
def bdy (b_ : Nat → Int) (n_ T_ : Nat) (N_ : Nat → Nat) (m_ : Nat) (S_ : sm_S) : Prop := ∃ u_ i_, pb (p_ad b_ n_ (N_ m_)) (p_nd b_ n_ 123) = .inr u_ ∧ rp b_ n_ T_ i_ u_ ∧ S_.2.2.1 125 0 m_ = (i_ : Int)
theorem bdy_fr {w_ : sx_Wl} {b_ : Nat → Int} {n_ T_ m_ : Nat} {N_ : Nat → Nat} {S_ S'_ : sm_S} (h_ : bdy b_ n_ T_ N_ m_ S_) (g_ : ai_fr (sx_W w_) S_ S'_) (h0_ : (sx_W w_).2.1 125 = false) : bdy b_ n_ T_ N_ m_ S'_ := by
  unfold bdy at h_ ⊢
  rw [fr_arr g_ h0_]
  exact h_
/-- so_ many modules told -/
def rT (b_ : Nat → Int) (n_ T_ : Nat) (A_ : pA) (N_ : Nat → Nat) (M_ : Nat) (S_ : sm_S) : Prop := S_.1 13 0 12 = (M_ : Int) ∧ M_ ≤ 16 ∧ (∀ m_, m_ < M_ → a_ok b_ n_ A_ m_) ∧ (∀ m_, m_ < M_ → re1 b_ n_ T_ A_ m_ S_) ∧ (∀ m_, m_ < M_ → rs1 A_ m_ S_) ∧ rnr b_ n_ T_ N_ M_ S_ ∧ ∀ m_, m_ < M_ → bdy b_ n_ T_ N_ m_ S_
theorem rnr_fr {w_ : sx_Wl} {b_ : Nat → Int} {n_ T_ M_ : Nat} {N_ : Nat → Nat} {S_ S'_ : sm_S} (h_ : rnr b_ n_ T_ N_ M_ S_) (g_ : ai_fr (sx_W w_) S_ S'_) (h0_ : (sx_W w_).2.1 124 = false) : rnr b_ n_ T_ N_ M_ S'_ := by
  unfold rnr at h_ ⊢
  rw [fr_arr g_ h0_]
  exact h_
theorem rT_fr {w_ : sx_Wl} {b_ : Nat → Int} {n_ T_ M_ : Nat} {A_ : pA} {N_ : Nat → Nat} {S_ S'_ : sm_S} (h_ : rT b_ n_ T_ A_ N_ M_ S_) (g_ : ai_fr (sx_W w_) S_ S'_) (h12_ : (sx_W w_).1 13 12 = false) (h124_ : (sx_W w_).2.1 124 = false) (h126_ : (sx_W w_).2.1 126 = false) (h127_ : (sx_W w_).2.1 127 = false) (h128_ : (sx_W w_).2.1 128 = false) (h129_ : (sx_W w_).2.1 129 = false) (h130_ : (sx_W w_).2.1 130 = false) (h131_ : (sx_W w_).2.1 131 = false) (h132_ : (sx_W w_).2.1 132 = false) (h133_ : (sx_W w_).2.1 133 = false) (h134_ : (sx_W w_).2.1 134 = false) (h135_ : (sx_W w_).2.1 135 = false) (h125_ : (sx_W w_).2.1 125 = false) : rT b_ n_ T_ A_ N_ M_ S'_ :=
  ⟨(g_.1 13 0 12 h12_).trans h_.1, h_.2.1, h_.2.2.1, fun m_ hm_ => re1_fr (h_.2.2.2.1 m_ hm_) g_ h126_ h127_ h128_ h129_ h130_ h131_, fun m_ hm_ => rs1_fr (h_.2.2.2.2.1 m_ hm_) g_ h132_ h133_ h134_ h135_, rnr_fr h_.2.2.2.2.2.1 g_ h124_, fun m_ hm_ => bdy_fr (h_.2.2.2.2.2.2 m_ hm_) g_ h125_⟩
/-- within a_ module -/
def rL (b_ : Nat → Int) (n_ T_ : Nat) (X_ : pE pD) (M_ : Nat) (S_ : sm_S) : Prop := ∃ f_ A_ N_ mc c_ p_, X_ = p_dl b_ n_ f_ A_ N_ M_ mc c_ p_ ∧ n_ < p_ + f_ ∧ rg b_ n_ T_ (.inr p_) S_ ∧ a_ok b_ n_ A_ M_ ∧ (∀ m_, m_ ≤ M_ → re1 b_ n_ T_ A_ m_ S_) ∧ (∀ m_, m_ ≤ M_ → rs1 A_ m_ S_) ∧ rnr b_ n_ T_ N_ M_ S_ ∧ rtk b_ n_ T_ (S_.2.2.1 124 0 M_) (N_ M_) ∧ c_.length ≤ 3 * p_ ∧ ∀ m_, m_ ≤ M_ → bdy b_ n_ T_ N_ m_ S_
def rX (b_ : Nat → Int) (n_ T_ : Nat) (X_ : pE pD) (S_ : sm_S) : Prop := ∃ e_, X_ = .inl e_ ∧ rg b_ n_ T_ (.inl e_) S_
/-- between modules -/
def rN (b_ : Nat → Int) (n_ T_ : Nat) (X_ : pE pD) (S_ : sm_S) : Prop := ∃ A_ N_ M_ mc c_ q_, rg b_ n_ T_ (.inr q_) S_ ∧ rT b_ n_ T_ A_ N_ M_ S_ ∧ 1 ≤ M_ ∧ c_.length ≤ 3 * q_ ∧ ((lx_kd b_ n_ q_ = 0 ∧ X_ = .inr (A_, N_, M_, mc, c_)) ∨ (lx_kd b_ n_ q_ ≠ 0 ∧ ∃ f_, n_ < q_ + f_ ∧ X_ = pb (p_bm b_ n_ A_ N_ M_ q_) fun x_ => p_dl b_ n_ f_ x_.1 x_.2.1 M_ mc c_ x_.2.2))
theorem bm_all {b_ : Nat → Int} {n_ T_ M_ r_ : Nat} {A_ : pA} {N_ : Nat → Nat} {tk_ : Int} {S_ S'_ : sm_S} (h_ : rT b_ n_ T_ A_ N_ M_ S_) (hr_ : rtk b_ n_ T_ tk_ r_) (hM_ : M_ ≤ 15)
  (h0_ : ∀ j_, S'_.2.2.1 124 0 j_ = if j_ = M_ then tk_ else S_.2.2.1 124 0 j_) (h1_ : ∀ j_, S'_.2.2.1 126 0 j_ = if j_ = M_ then 0 else S_.2.2.1 126 0 j_)
  (h2_ : ∀ j_, S'_.2.2.1 132 0 j_ = if j_ = M_ then 0 else S_.2.2.1 132 0 j_) (h3_ : ∀ j_, S'_.2.2.1 133 0 j_ = if j_ = M_ then 0 else S_.2.2.1 133 0 j_) (h4_ : ∀ j_, S'_.2.2.1 134 0 j_ = if j_ = M_ then 0 else S_.2.2.1 134 0 j_) (h5_ : ∀ j_, S'_.2.2.1 135 0 j_ = if j_ = M_ then 0 else S_.2.2.1 135 0 j_)
  (e1_ : S'_.2.2.1 127 0 = S_.2.2.1 127 0) (e2_ : S'_.2.2.1 128 0 = S_.2.2.1 128 0) (e3_ : S'_.2.2.1 129 0 = S_.2.2.1 129 0) (e4_ : S'_.2.2.1 130 0 = S_.2.2.1 130 0) (e5_ : S'_.2.2.1 131 0 = S_.2.2.1 131 0) : a_ok b_ n_ (a_bm A_ M_) M_ ∧ (∀ m_, m_ ≤ M_ → re1 b_ n_ T_ (a_bm A_ M_) m_ S'_) ∧ (∀ m_, m_ ≤ M_ → rs1 (a_bm A_ M_) m_ S'_) ∧ rnr b_ n_ T_ (n_up N_ M_ r_) M_ S'_ ∧ rtk b_ n_ T_ (S'_.2.2.1 124 0 M_) (n_up N_ M_ r_ M_) := by
  obtain ⟨q1_, q2_, q3_, q4_, q5_, q6_, q7_⟩ := h_
  have c0_ : (a_bm A_ M_).1 M_ = 0 := if_pos rfl
  refine ⟨a_bm_ok q3_ hM_, fun m_ hm_ => ?_, fun m_ hm_ => ?_, ⟨by omega, fun m_ hm_ => ?_⟩, ?_⟩
  · by_cases e_ : m_ = M_
    · subst e_
      unfold re1
      rw [c0_, h1_, if_pos rfl]
      exact ⟨rfl, fun s_ hs_ => absurd hs_ (Nat.not_lt_zero _)⟩
    · have k_ := q4_ m_ (by omega)
      have c1_ : (a_bm A_ M_).1 m_ = A_.1 m_ := if_neg e_
      unfold re1 at k_ ⊢
      rw [c1_, h1_, if_neg e_, e1_, e2_, e3_, e4_, e5_]
      exact k_
  · by_cases e_ : m_ = M_
    · subst e_
      unfold rs1
      rw [c0_, h2_, h3_, h4_, h5_, if_pos rfl, if_pos rfl, if_pos rfl, if_pos rfl]
      exact ⟨rfl, rfl, rfl, rfl⟩
    · have k_ := q5_ m_ (by omega)
      have a1_ := q3_ m_ (by omega)
      have c1_ : (a_bm A_ M_).1 m_ = A_.1 m_ := if_neg e_
      unfold rs1 at k_ ⊢
      rw [c1_, h2_, h3_, if_neg e_, if_neg e_]
      have dt_ : ∀ s_, s_ < A_.1 m_ → A_.2.2.1 (40 * m_ + s_) = 5 → (A_.2.2.2.2 (40 * m_ + s_)).toNat ≠ M_ := by
        intro s_ hs1_ h5_
        have := ((a1_.2 m_ (Nat.le_refl m_)).2 s_ hs1_).2.2.2.2.1 h5_
        omega
      refine ⟨k_.1, k_.2.1, ?_, ?_⟩
      · rw [h4_, if_neg e_, k_.2.2.1]
        refine congrArg mn (su_cg fun s_ hs1_ => ?_)
        show t_rg (S_.2.2.1 134 0) A_ m_ s_ = t_rg (S'_.2.2.1 134 0) A_ m_ s_
        unfold t_rg
        by_cases z_ : A_.2.2.1 (40 * m_ + s_) = 3 ∨ A_.2.2.1 (40 * m_ + s_) = 4
        · rw [if_pos z_, if_pos z_]
        · rw [if_neg z_, if_neg z_]
          by_cases z2_ : A_.2.2.1 (40 * m_ + s_) = 5
          · rw [if_pos z2_, if_pos z2_, h4_, if_neg (dt_ s_ hs1_ z2_)]
          · rw [if_neg z2_, if_neg z2_]
      · rw [h5_, if_neg e_, k_.2.2.2]
        refine congrArg mn (su_cg fun s_ hs1_ => ?_)
        show t_is (S_.2.2.1 135 0) A_ m_ s_ = t_is (S'_.2.2.1 135 0) A_ m_ s_
        unfold t_is
        by_cases z2_ : A_.2.2.1 (40 * m_ + s_) = 5
        · rw [if_pos z2_, if_pos z2_, h5_, if_neg (dt_ s_ hs1_ z2_)]
        · rw [if_neg z2_, if_neg z2_]
  · rw [h0_, if_neg (by omega)]
    show rtk b_ n_ T_ _ (if m_ = M_ then r_ else N_ m_)
    rw [if_neg (by omega)]
    exact q6_.2 m_ hm_
  · rw [h0_, if_pos rfl]
    show rtk b_ n_ T_ tk_ (if M_ = M_ then r_ else N_ M_)
    rw [if_pos rfl]
    exact hr_
theorem bm_L {b_ : Nat → Int} {n_ T_ M_ r_ f_ p_ : Nat} {X_ : pE pD} {A_ : pA} {N_ mc : Nat → Nat} {c_ : List Int} {tk_ : Int} {S_ S'_ : sm_S} (h_ : rT b_ n_ T_ A_ N_ M_ S_) (hr_ : rtk b_ n_ T_ tk_ r_) (hM_ : M_ ≤ 15) (hx_ : X_ = p_dl b_ n_ f_ (a_bm A_ M_) (n_up N_ M_ r_) M_ mc c_ p_) (hf_ : n_ < p_ + f_) (hg_ : rg b_ n_ T_ (.inr p_) S'_) (hc_ : c_.length ≤ 3 * p_)
  (h0_ : ∀ j_, S'_.2.2.1 124 0 j_ = if j_ = M_ then tk_ else S_.2.2.1 124 0 j_) (h1_ : ∀ j_, S'_.2.2.1 126 0 j_ = if j_ = M_ then 0 else S_.2.2.1 126 0 j_)
  (h2_ : ∀ j_, S'_.2.2.1 132 0 j_ = if j_ = M_ then 0 else S_.2.2.1 132 0 j_) (h3_ : ∀ j_, S'_.2.2.1 133 0 j_ = if j_ = M_ then 0 else S_.2.2.1 133 0 j_) (h4_ : ∀ j_, S'_.2.2.1 134 0 j_ = if j_ = M_ then 0 else S_.2.2.1 134 0 j_) (h5_ : ∀ j_, S'_.2.2.1 135 0 j_ = if j_ = M_ then 0 else S_.2.2.1 135 0 j_)
  (e1_ : S'_.2.2.1 127 0 = S_.2.2.1 127 0) (e2_ : S'_.2.2.1 128 0 = S_.2.2.1 128 0) (e3_ : S'_.2.2.1 129 0 = S_.2.2.1 129 0) (e4_ : S'_.2.2.1 130 0 = S_.2.2.1 130 0) (e5_ : S'_.2.2.1 131 0 = S_.2.2.1 131 0) (h6_ : ∀ j_, S'_.2.2.1 125 0 j_ = if j_ = M_ then S'_.1 13 0 9 else S_.2.2.1 125 0 j_) (hbo_ : pb (p_ad b_ n_ r_) (p_nd b_ n_ 123) = .inr p_) : rL b_ n_ T_ X_ M_ S'_ := by
  have k_ := bm_all h_ hr_ hM_ h0_ h1_ h2_ h3_ h4_ h5_ e1_ e2_ e3_ e4_ e5_
  obtain ⟨i9_, g1_, g2_⟩ := hg_.2
  have bd_ : ∀ m_, m_ ≤ M_ → bdy b_ n_ T_ (n_up N_ M_ r_) m_ S'_ := by
    intro m_ hm_
    by_cases e_ : m_ = M_
    · refine ⟨p_, i9_, ?_, g2_, ?_⟩
      · rw [show n_up N_ M_ r_ m_ = r_ from if_pos e_]; exact hbo_
      · rw [h6_, if_pos e_]; exact g1_
    · obtain ⟨u_, i_, w1_, w2_, w3_⟩ := h_.2.2.2.2.2.2 m_ (by omega)
      refine ⟨u_, i_, ?_, w2_, ?_⟩
      · rw [show n_up N_ M_ r_ m_ = N_ m_ from if_neg e_]; exact w1_
      · rw [h6_, if_neg e_]; exact w3_
  exact ⟨f_, a_bm A_ M_, n_up N_ M_ r_, mc, c_, p_, hx_, hf_, hg_, k_.1, k_.2.1, k_.2.2.1, k_.2.2.2.1, k_.2.2.2.2, hc_, bd_⟩
theorem rT_nx {b_ : Nat → Int} {n_ T_ M_ : Nat} {A_ : pA} {N_ : Nat → Nat} {S_ : sm_S} {z_ : Int} (hA_ : a_ok b_ n_ A_ M_) (h1_ : ∀ m_, m_ ≤ M_ → re1 b_ n_ T_ A_ m_ S_) (h2_ : ∀ m_, m_ ≤ M_ → rs1 A_ m_ S_) (h3_ : rnr b_ n_ T_ N_ M_ S_) (h4_ : rtk b_ n_ T_ (S_.2.2.1 124 0 M_) (N_ M_)) (h5_ : ∀ m_, m_ ≤ M_ → bdy b_ n_ T_ N_ m_ S_) (hz_ : z_ = (M_ : Int) + 1) : rT b_ n_ T_ A_ N_ (M_ + 1) (sm_pI S_ 13 0 12 z_) := by
  have hM_ := hA_.1
  have f_ : ai_fr (sx_W ([(13, 12)], [], [])) S_ (sm_pI S_ 13 0 12 z_) := ai_fr_pI rfl
  refine ⟨?_, by omega, fun m_ hm_ => a_ok_le hA_ (by omega), fun m_ hm_ => re1_fr (h1_ m_ (by omega)) f_ rfl rfl rfl rfl rfl rfl, fun m_ hm_ => rs1_fr (h2_ m_ (by omega)) f_ rfl rfl rfl rfl, rnr_fr (w_ := ([(13, 12)], [], [])) ⟨by omega, fun m_ hm_ => ?_⟩ f_ rfl, fun m_ hm_ => bdy_fr (h5_ m_ (by omega)) f_ rfl⟩
  · rw [rf_eq, hz_]
    push_cast
    rfl
  · by_cases e_ : m_ = M_
    · rw [e_]; exact h4_
    · exact h3_.2 m_ (by omega)
theorem rms_b {k_ : Int} {S_ : sm_S} (hI_ : gi S_) : r_ms k_ S_ ≤ 1301 := by
  have z_ : 0 ≤ S_.2.2.1 120 0 (S_.1 13 0 9).toNat ∧ S_.2.2.1 120 0 (S_.1 13 0 9).toNat ≤ 1280 := hI_.2 120 0 _
  unfold r_ms
  split <;> omega
theorem rX_z {b_ : Nat → Int} {n_ T_ : Nat} {X_ : pE pD} {S_ : sm_S} (h_ : rX b_ n_ T_ X_ S_) (h0_ : S_.1 13 0 10 = 0) : False := by
  obtain ⟨e_, z1_, z2_⟩ := h_
  exact z2_.2.2 (z2_.1.symm.trans h0_)
/-! M_.tellModule -/
def vw_339 : sx_Wl := ([(13, 9), (13, 10), (13, 11), (13, 12), (13, 25), (13, 26), (13, 28), (13, 32), (13, 33), (13, 34)], [124, 125, 126, 127, 128, 129, 130, 131, 132, 133, 134, 135, 136, 137, 138, 139], [])
def vq_339 (b_ : Nat → Int) (n_ : Nat) (T_ : Nat) (X_ : pE pD) (A_ : pA) (N_ : Nat → Nat) (M_ : Nat) (mc : Nat → Nat) (c_ : List Int) (q_ : Nat) (f_ : Nat) (S0_ : sm_S) (u_ : Option sm_V) (S1_ : sm_S) : Prop := u_ = none ∧ gi S1_ ∧ ai_fr (sx_W vw_339) S0_ S1_ ∧ ((rX b_ n_ T_ X_ S1_ ∨ rN b_ n_ T_ X_ S1_) ∧ ((S1_.1 13 0 10) = 0 → (S1_.1 13 0 12) = (S0_.1 13 0 12) + 1))
set_option maxHeartbeats 2000000 in
set_option maxRecDepth 20000 in
theorem vl_339 {sc_ : Nat × (Nat → Int)} (b_ : Nat → Int) (n_ : Nat) (T_ : Nat) (X_ : pE pD) (A_ : pA) (N_ : Nat → Nat) (M_ : Nat) (mc : Nat → Nat) (c_ : List Int) (q_ : Nat) (f_ : Nat) (S0_ : sm_S) (ht_ : rtab b_ n_ T_ S0_) (hx_ : rg b_ n_ T_ (.inr q_) S0_) (hT_ : rT b_ n_ T_ A_ N_ M_ S0_) (hmo_ : (S0_.1 13 0 27) = 0) (hc_ : c_.length ≤ 3 * q_) (hX_ : X_ = (pb (p_bm b_ n_ A_ N_ M_ q_) fun x_ => p_dl b_ n_ f_ x_.1 x_.2.1 M_ mc c_ x_.2.2)) (hf_ : n_ < q_ + f_) : ∀ nn_ : Nat, (∀ (tk_ : Int) (S_ : sm_S), gi S_ → ai_fr (sx_W vw_339) S0_ S_ → ((rg b_ n_ T_ (z_b3 b_ n_ N_ M_ q_) S_) ∧ (∀ r_, (pb (p_nd b_ n_ 3 q_) (p_du b_ n_ 1)) = .inr r_ → rtk b_ n_ T_ tk_ r_) ∧ (0 ≤ tk_ ∧ tk_ ≤ 1280) ∧ (rT b_ n_ T_ A_ N_ M_ S_) ∧ True) → ((9000 : Nat)) < nn_ → sm_T (mt_P sc_) 10 339 (50, [some (.inr (.inr (some (13, 0)))), some (.inl tk_), none], [], S_) (fun ro9_ => ∃ u_ S1_, ro9_ = (.inl u_, S1_, 0) ∧ vq_339 b_ n_ T_ X_ A_ N_ M_ mc c_ q_ f_ S0_ u_ S1_)) ∧ (∀ (tk_ : Int) (S_ : sm_S), gi S_ → ai_fr (sx_W vw_339) S0_ S_ → ((rg b_ n_ T_ (z_b4 b_ n_ N_ M_ q_) S_) ∧ (∀ r_, (pb (p_nd b_ n_ 3 q_) (p_du b_ n_ 1)) = .inr r_ → rtk b_ n_ T_ tk_ r_) ∧ (0 ≤ tk_ ∧ tk_ ≤ 1280) ∧ (rT b_ n_ T_ A_ N_ M_ S_) ∧ True) → ((8000 : Nat)) < nn_ → sm_T (mt_P sc_) 10 339 (73, [some (.inr (.inr (some (13, 0)))), some (.inl tk_), none], [], S_) (fun ro9_ => ∃ u_ S1_, ro9_ = (.inl u_, S1_, 0) ∧ vq_339 b_ n_ T_ X_ A_ N_ M_ mc c_ q_ f_ S0_ u_ S1_)) ∧ (∀ (k2_ : Int) (S_ : sm_S), gi S_ → ai_fr (sx_W vw_339) S0_ S_ → ((0 ≤ k2_ ∧ k2_ ≤ 15) ∧ ((S_.1 13 0 12) = (M_ : Int)) ∧ (rX b_ n_ T_ X_ S_ ∨ (k2_ = (M_ : Int) ∧ M_ ≤ 15 ∧ (S_.1 13 0 28) = (M_ : Int) ∧ rL b_ n_ T_ X_ M_ S_)) ∧ True) → (r_ms 0 S_) < nn_ → sm_T (mt_P sc_) 10 339 (155, [some (.inr (.inr (some (13, 0)))), none, some (.inl k2_)], [], S_) (fun ro9_ => ∃ u_ S1_, ro9_ = (.inl u_, S1_, 0) ∧ vq_339 b_ n_ T_ X_ A_ N_ M_ mc c_ q_ f_ S0_ u_ S1_)) := by
  intro nn_
  induction nn_ with
  | zero => exact ⟨fun _ _ _ _ _ h_ => absurd h_ (Nat.not_lt_zero _), fun _ _ _ _ _ h_ => absurd h_ (Nat.not_lt_zero _), fun _ _ _ _ _ h_ => absurd h_ (Nat.not_lt_zero _)⟩
  | succ nn_ ih_ =>
    refine ⟨?_, ?_, ?_⟩
    · rintro tk_ S_ hI_ hF_ ⟨g50_, tk50_, tb50_, T50_, -⟩ hm_
      have le0_ := rg_le ht_ hx_
      have hn1_ := ht_.1
      have hM16_ := hT_.2.1
      have t50_ := rtab_fr ht_ hF_ rfl rfl rfl rfl rfl
      refine sm_T_go 1 (c1 := (51, [some (.inr (.inr (some (13, 0)))), some (.inl tk_), none], [.inr (.inr (some (13, 0)))], S_)) rfl ?_
      refine sm_T_cal (d1 := 0) (Q1 := vq_292  S_) rfl rfl (by decide) (vc_292  S_ hI_ ) (fun u_ Sx1_ px4_ => ?_)
      obtain ⟨rfl, vx6_, rfl, px4_⟩ := px4_
      have e51_ := px4_
      refine sm_T_b0 (a := 0) (z := 19) rfl (fun cx7_ => ?_) (fun cx7_ => ?_)
      · have cx7_ : vx6_ = 0 := of_decide_eq_true cx7_
        have hz_ := wr_if e51_ (by omega)
        obtain ⟨e5_, he5_⟩ := rg_w g50_ hz_
        have b4w : (z_b4 b_ n_ N_ M_ q_) = .inl e5_ := by unfold z_b4; rw [he5_]; rfl
        have g4w := g50_
        rw [he5_] at g4w
        refine sm_T_go 0 (c1 := (73, [some (.inr (.inr (some (13, 0)))), some (.inl tk_), none], [], S_)) rfl ?_
        refine ih_.2.1 tk_ S_ hI_ hF_ ⟨?_, ?_, ?_, ?_, trivial⟩ ?_
        · first | exact g70_ | (rw [b4w]; exact g4w) | (rw [b4c, if_neg (by omega)]; exact g4r)
        · exact tk50_
        · omega
        · first | exact T70_ | exact T50_
        · omega
      · have cx7_ : ¬ (vx6_ = 0) := of_decide_eq_false cx7_
        have hz_ := rt_if e51_ (by omega)
        obtain ⟨r2_, i2_, hr2_, hi21_, hi22_⟩ := rg_r g50_ hz_
        have rt2_ := tk50_ r2_ (b3_r hr2_).1
        have pt2_ := rtk_pl t50_ rt2_
        have g4r := g50_
        rw [hr2_] at g4r
        have b4c : (z_b4 b_ n_ N_ M_ q_) = if M_ = 16 then .inl (15, r2_) else .inr r2_ := by unfold z_b4; rw [hr2_]; rfl
        have so2_ : S_.2.2.1 119 0 tk_.toNat ≠ 4 := by obtain ⟨i3_, y1_, y2_, y3_, y4_⟩ := rt2_; have y5_ := (t50_.2.2.1.1 i3_ y2_).2; rw [← y3_] at y5_; rw [y1_, Int.toNat_natCast, y5_.2.1, y4_.2]; decide
        have ms50_ := T50_.1
        have bx8_ : 0 ≤ S_.1 13 0 12 ∧ S_.1 13 0 12 ≤ 16 := hI_.1 13 0 12 rfl
        refine sm_T_go 3 (c1 := (63, [some (.inr (.inr (some (13, 0)))), some (.inl tk_), none], [.inl 16, .inl (S_.1 13 0 12)], S_)) rfl ?_
        refine sm_T_br (a := 1) (z := 10) rfl (fun cx9_ => ?_) (fun cx9_ => ?_)
        · have cx9_ : (S_.1 13 0 12) ≠ 16 := of_decide_eq_true cx9_
          refine sm_T_go 0 (c1 := (73, [some (.inr (.inr (some (13, 0)))), some (.inl tk_), none], [], S_)) rfl ?_
          refine ih_.2.1 tk_ S_ hI_ hF_ ⟨?_, ?_, ?_, ?_, trivial⟩ ?_
          · first | exact g70_ | (rw [b4w]; exact g4w) | (rw [b4c, if_neg (by omega)]; exact g4r)
          · exact tk50_
          · omega
          · first | exact T70_ | exact T50_
          · omega
        · have cx9_ : ¬ ((S_.1 13 0 12) ≠ 16) := of_decide_eq_false cx9_
          refine sm_T_go 3 (c1 := (70, [some (.inr (.inr (some (13, 0)))), some (.inl tk_), none], [.inl tk_, .inl 15, .inr (.inr (some (13, 0)))], S_)) rfl ?_
          refine sm_T_cal (d1 := 0) (Q1 := vq_293 15 tk_ S_) rfl rfl (by decide) (vc_293 15 tk_ S_ hI_ (by decide) (by omega)) (fun u_ Sx10_ px13_ => ?_)
          obtain ⟨rfl, hIx11_, hFx12_, px13_⟩ := px13_
          have hFx14_ : ai_fr (sx_W vw_339) S0_ Sx10_ := ai_fr_tr hF_ (fr_le hFx12_ rfl)
          have ex15_ : Sx10_.1 13 0 12 = S_.1 13 0 12 := hFx12_.1 13 0 12 rfl
          have g70_ : rg b_ n_ T_ (z_b4 b_ n_ N_ M_ q_) Sx10_ := by rw [b4c, if_pos (by omega)]; rcases px13_ with z_ | z_; (exact absurd hz_ z_.1); (exact ⟨z_.2.1.trans (if_neg so2_), z_.2.2.trans pt2_.2, by show (15 : Int) ≠ 0; decide⟩)
          have T70_ := rT_fr T50_ hFx12_ rfl rfl rfl rfl rfl rfl rfl rfl rfl rfl rfl rfl rfl
          refine sm_T_go 0 (c1 := (73, [some (.inr (.inr (some (13, 0)))), some (.inl tk_), none], [], Sx10_)) rfl ?_
          refine ih_.2.1 tk_ Sx10_ hIx11_ hFx14_ ⟨?_, ?_, ?_, ?_, trivial⟩ ?_
          · first | exact g70_ | (rw [b4w]; exact g4w) | (rw [b4c, if_neg (by omega)]; exact g4r)
          · exact tk50_
          · omega
          · first | exact T70_ | exact T50_
          · omega
    · rintro tk_ S_ hI_ hF_ ⟨g73_, tk73_, tb73_, T73_, -⟩ hm_
      have le0_ := rg_le ht_ hx_
      have hn1_ := ht_.1
      have hM16_ := hT_.2.1
      have t73_ := rtab_fr ht_ hF_ rfl rfl rfl rfl rfl
      refine sm_T_go 1 (c1 := (74, [some (.inr (.inr (some (13, 0)))), some (.inl tk_), none], [.inr (.inr (some (13, 0)))], S_)) rfl ?_
      refine sm_T_cal (d1 := 2) (Q1 := vq_297 b_ n_ T_ (z_b4 b_ n_ N_ M_ q_) S_) rfl rfl (by decide) (vc_297 b_ n_ T_ (z_b4 b_ n_ N_ M_ q_) S_ hI_ (by exact t73_) (by exact g73_) (by (intro r_ e_; have z_ := (b3_r (b4_r e_).1).2; omega))) (fun u_ Sx1_ px4_ => ?_)
      obtain ⟨rfl, hIx2_, hFx3_, px4_⟩ := px4_
      have hFx5_ : ai_fr (sx_W vw_339) S0_ Sx1_ := ai_fr_tr hF_ (fr_le hFx3_ rfl)
      have t74_ := rtab_fr t73_ hFx3_ rfl rfl rfl rfl rfl
      have g74_ : rg b_ n_ T_ (pb (z_b5 b_ n_ N_ M_ q_) fun a_ => .inr a_.2) Sx1_ := rg_pb (z_ := (z_b4 b_ n_ N_ M_ q_)) (ps_ := fun a_ => a_) (g_ := p_ad b_ n_) (by rw [pb_id]; exact px4_.1) (fun a_ _ => by rw [pb_as]; exact pb_id.symm)
      have T74_ := rT_fr T73_ hFx3_ rfl rfl rfl rfl rfl rfl rfl rfl rfl rfl rfl rfl rfl
      refine sm_T_go 2 (c1 := (80, [some (.inr (.inr (some (13, 0)))), some (.inl tk_), none], [.inl 123, .inr (.inr (some (13, 0)))], Sx1_)) rfl ?_
      refine sm_T_cal (d1 := 3) (Q1 := vq_300 123 b_ n_ T_ (pb (z_b5 b_ n_ N_ M_ q_) fun a_ => .inr a_.2) Sx1_) rfl rfl (by decide) (vc_300 123 b_ n_ T_ (pb (z_b5 b_ n_ N_ M_ q_) fun a_ => .inr a_.2) Sx1_ hIx2_ (by exact t74_) (by exact g74_) (by decide)) (fun u_ Sx6_ px9_ => ?_)
      obtain ⟨rfl, hIx7_, hFx8_, px9_⟩ := px9_
      have hFx10_ : ai_fr (sx_W vw_339) S0_ Sx6_ := ai_fr_tr hFx5_ (fr_le hFx8_ rfl)
      have t80_ := rtab_fr t74_ hFx8_ rfl rfl rfl rfl rfl
      have g80_ : rg b_ n_ T_ (pb (z_b6 b_ n_ N_ M_ q_) fun a_ => .inr a_.2) Sx6_ := rg_pb px9_ (fun a_ _ => by rw [pb_as]; exact pb_id.symm)
      have T80_ := rT_fr T74_ hFx8_ rfl rfl rfl rfl rfl rfl rfl rfl rfl rfl rfl rfl rfl
      have ms80_ := T80_.1
      have iM_ : M_ ≤ 15 → (Sx6_.1 13 0 12 % 16).toNat = M_ := by omega
      have T80x : rT b_ n_ T_ A_ N_ M_ (sm_pI Sx6_ 13 0 28 (Sx6_.1 13 0 12 % 16)) := rT_fr (w_ := ([(13, 28)], [], [])) T80_ (ai_fr_pI rfl) rfl rfl rfl rfl rfl rfl rfl rfl rfl rfl rfl rfl rfl
      have bx11_ : 0 ≤ Sx6_.1 13 0 12 ∧ Sx6_.1 13 0 12 ≤ 16 := hIx7_.1 13 0 12 rfl
      refine sm_T_go 3 (c1 := (89, [some (.inr (.inr (some (13, 0)))), some (.inl tk_), none], [.inl 16, .inl (Sx6_.1 13 0 12)], Sx6_)) rfl ?_
      refine sm_T_bin (w := ((Sx6_.1 13 0 12) % 16)) rfl (bi_rem (by omega) (by omega) (by omega) (by omega)) ?_
      have hIx12_ : gi (sm_pI Sx6_ 13 0 28 ((Sx6_.1 13 0 12) % 16)) := gi_pI hIx7_ (show 0 ≤ ((Sx6_.1 13 0 12) % 16) ∧ ((Sx6_.1 13 0 12) % 16) ≤ 15 from ⟨by omega, by omega⟩)
      have hFx13_ : ai_fr (sx_W vw_339) S0_ (sm_pI Sx6_ 13 0 28 ((Sx6_.1 13 0 12) % 16)) := ai_fr_tr hFx10_ (ai_fr_pI rfl)
      refine sm_T_go 5 (c1 := (97, [some (.inr (.inr (some (13, 0)))), some (.inl tk_), some (.inl ((Sx6_.1 13 0 12) % 16))], [.inr (.inr (some (13, 0)))], sm_pI Sx6_ 13 0 28 ((Sx6_.1 13 0 12) % 16))) rfl ?_
      refine sm_T_cal (d1 := 0) (Q1 := vq_292  (sm_pI Sx6_ 13 0 28 ((Sx6_.1 13 0 12) % 16))) rfl rfl (by decide) (vc_292  (sm_pI Sx6_ 13 0 28 ((Sx6_.1 13 0 12) % 16)) hIx12_ ) (fun u_ Sx14_ px17_ => ?_)
      obtain ⟨rfl, vx19_, rfl, px17_⟩ := px17_
      have e97_ := px17_
      refine sm_T_b0 (a := 0) (z := 55) rfl (fun cx20_ => ?_) (fun cx20_ => ?_)
      · have cx20_ : vx19_ = 0 := of_decide_eq_true cx20_
        have hz_ := wr_if e97_ (by omega)
        obtain ⟨e5_, he5_⟩ := rg_wr g80_ hz_
        have xw_ : X_ = .inl e5_ := by rw [hX_, bm_eq, he5_]; rfl
        have g6w := g80_
        rw [he5_] at g6w
        refine sm_T_go 0 (c1 := (155, [some (.inr (.inr (some (13, 0)))), some (.inl tk_), some (.inl ((Sx6_.1 13 0 12) % 16))], [], sm_pI Sx6_ 13 0 28 ((Sx6_.1 13 0 12) % 16))) rfl ?_
        refine sm_T_wk [some (.inr (.inr (some (13, 0)))), none, some (.inl ((Sx6_.1 13 0 12) % 16))] (by exact ⟨rfl, rfl, trivial⟩) ?_
        refine ih_.2.2 ((Sx6_.1 13 0 12) % 16) (sm_pI Sx6_ 13 0 28 ((Sx6_.1 13 0 12) % 16)) hIx12_ hFx13_ ⟨?_, ?_, ?_, trivial⟩ ?_
        · omega
        · first | exact ms80_ | exact T80x.1
        · first | (left; exact ⟨e5_, xw_, g6w⟩) | (right; exact ⟨by omega, m15_, by show _ % 16 = (M_ : Int); omega, bm_L T80x rt6_ m15_ xr (by omega) g6r (by omega) (fun j_ => by (try simp only [rd_eq, rd_ne, rf_eq, rf_nk, rf_nt, rd_fa, rd_af, rd_fl, rd_al, rd_lf, rd_la, rd_leq, rd_lne, rd_fr, rd_ar, ne_eq, Nat.reduceEqDiff, not_false_eq_true]); (try simp only [iM2_]); (repeat' split); all_goals omega) (fun j_ => by (try simp only [rd_eq, rd_ne, rf_eq, rf_nk, rf_nt, rd_fa, rd_af, rd_fl, rd_al, rd_lf, rd_la, rd_leq, rd_lne, rd_fr, rd_ar, ne_eq, Nat.reduceEqDiff, not_false_eq_true]); (try simp only [iM2_]); (repeat' split); all_goals omega) (fun j_ => by (try simp only [rd_eq, rd_ne, rf_eq, rf_nk, rf_nt, rd_fa, rd_af, rd_fl, rd_al, rd_lf, rd_la, rd_leq, rd_lne, rd_fr, rd_ar, ne_eq, Nat.reduceEqDiff, not_false_eq_true]); (try simp only [iM2_]); (repeat' split); all_goals omega) (fun j_ => by (try simp only [rd_eq, rd_ne, rf_eq, rf_nk, rf_nt, rd_fa, rd_af, rd_fl, rd_al, rd_lf, rd_la, rd_leq, rd_lne, rd_fr, rd_ar, ne_eq, Nat.reduceEqDiff, not_false_eq_true]); (try simp only [iM2_]); (repeat' split); all_goals omega) (fun j_ => by (try simp only [rd_eq, rd_ne, rf_eq, rf_nk, rf_nt, rd_fa, rd_af, rd_fl, rd_al, rd_lf, rd_la, rd_leq, rd_lne, rd_fr, rd_ar, ne_eq, Nat.reduceEqDiff, not_false_eq_true]); (try simp only [iM2_]); (repeat' split); all_goals omega) (fun j_ => by (try simp only [rd_eq, rd_ne, rf_eq, rf_nk, rf_nt, rd_fa, rd_af, rd_fl, rd_al, rd_lf, rd_la, rd_leq, rd_lne, rd_fr, rd_ar, ne_eq, Nat.reduceEqDiff, not_false_eq_true]); (try simp only [iM2_]); (repeat' split); all_goals omega) rfl rfl rfl rfl rfl (fun j_ => by (try simp only [rd_eq, rd_ne, rf_eq, rf_nk, rf_nt, rd_fa, rd_af, rd_fl, rd_al, rd_lf, rd_la, rd_leq, rd_lne, rd_fr, rd_ar, ne_eq, Nat.reduceEqDiff, not_false_eq_true]); (try simp only [iM2_]); (repeat' split); all_goals omega) b6_.2.2.2.2⟩)
        · exact Nat.lt_of_le_of_lt (rms_b hIx12_) (by omega)
      · have cx20_ : ¬ (vx19_ = 0) := of_decide_eq_false cx20_
        have hz_ := rt_if e97_ (by omega)
        obtain ⟨a6_, ha6_⟩ := rg_rt g80_ hz_
        have b6_ := b6_r le0_.1 ha6_
        have b4_ := b4_r b6_.1
        have m15_ : M_ ≤ 15 := by have := b4_.2; omega
        have iM2_ := iM_ m15_
        have rt6_ := tk73_ a6_.1 (b3_r b4_.1).1
        have g6r := rg_at g80_ ha6_
        have b63_ := b6_.2.2.1
        have xr : X_ = p_dl b_ n_ f_ (a_bm A_ M_) (n_up N_ M_ a6_.1) M_ mc c_ a6_.2 := by rw [hX_, bm_eq, ha6_]; rfl
        refine sm_T_go 4 (c1 := (109, [some (.inr (.inr (some (13, 0)))), some (.inl tk_), some (.inl ((Sx6_.1 13 0 12) % 16))], [.inl tk_, .inl ((Sx6_.1 13 0 12) % 16), .inr (.inr (some (124, 0)))], sm_pI Sx6_ 13 0 28 ((Sx6_.1 13 0 12) % 16))) rfl ?_
        refine sm_T_iast (n := 16) rfl rfl (by omega) (by omega) ?_
        have hIx21_ : gi (sm_aI (sm_pI Sx6_ 13 0 28 ((Sx6_.1 13 0 12) % 16)) 124 0 ((Sx6_.1 13 0 12) % 16).toNat tk_) := gi_aI hIx12_ (show 0 ≤ tk_ ∧ tk_ ≤ 1280 from ⟨by omega, by omega⟩)
        have hFx22_ : ai_fr (sx_W vw_339) S0_ (sm_aI (sm_pI Sx6_ 13 0 28 ((Sx6_.1 13 0 12) % 16)) 124 0 ((Sx6_.1 13 0 12) % 16).toNat tk_) := ai_fr_tr hFx13_ (ai_fr_aI rfl)
        have bx23_ : 0 ≤ Sx6_.1 13 0 9 ∧ Sx6_.1 13 0 9 ≤ 1280 := hIx7_.1 13 0 9 rfl
        refine sm_T_go 5 (c1 := (119, [some (.inr (.inr (some (13, 0)))), some (.inl tk_), some (.inl ((Sx6_.1 13 0 12) % 16))], [.inl (Sx6_.1 13 0 9), .inl ((Sx6_.1 13 0 12) % 16), .inr (.inr (some (125, 0)))], sm_aI (sm_pI Sx6_ 13 0 28 ((Sx6_.1 13 0 12) % 16)) 124 0 ((Sx6_.1 13 0 12) % 16).toNat tk_)) rfl ?_
        refine sm_T_iast (n := 16) rfl rfl (by omega) (by omega) ?_
        have hIx24_ : gi (sm_aI (sm_aI (sm_pI Sx6_ 13 0 28 ((Sx6_.1 13 0 12) % 16)) 124 0 ((Sx6_.1 13 0 12) % 16).toNat tk_) 125 0 ((Sx6_.1 13 0 12) % 16).toNat (Sx6_.1 13 0 9)) := gi_aI hIx21_ (show 0 ≤ (Sx6_.1 13 0 9) ∧ (Sx6_.1 13 0 9) ≤ 1280 from ⟨by omega, by omega⟩)
        have hFx25_ : ai_fr (sx_W vw_339) S0_ (sm_aI (sm_aI (sm_pI Sx6_ 13 0 28 ((Sx6_.1 13 0 12) % 16)) 124 0 ((Sx6_.1 13 0 12) % 16).toNat tk_) 125 0 ((Sx6_.1 13 0 12) % 16).toNat (Sx6_.1 13 0 9)) := ai_fr_tr hFx22_ (ai_fr_aI rfl)
        refine sm_T_go 4 (c1 := (126, [some (.inr (.inr (some (13, 0)))), some (.inl tk_), some (.inl ((Sx6_.1 13 0 12) % 16))], [.inl 0, .inl ((Sx6_.1 13 0 12) % 16), .inr (.inr (some (126, 0)))], sm_aI (sm_aI (sm_pI Sx6_ 13 0 28 ((Sx6_.1 13 0 12) % 16)) 124 0 ((Sx6_.1 13 0 12) % 16).toNat tk_) 125 0 ((Sx6_.1 13 0 12) % 16).toNat (Sx6_.1 13 0 9))) rfl ?_
        refine sm_T_iast (n := 16) rfl rfl (by omega) (by omega) ?_
        have hIx26_ : gi (sm_aI (sm_aI (sm_aI (sm_pI Sx6_ 13 0 28 ((Sx6_.1 13 0 12) % 16)) 124 0 ((Sx6_.1 13 0 12) % 16).toNat tk_) 125 0 ((Sx6_.1 13 0 12) % 16).toNat (Sx6_.1 13 0 9)) 126 0 ((Sx6_.1 13 0 12) % 16).toNat 0) := gi_aI hIx24_ (show 0 ≤ 0 ∧ 0 ≤ 40 from ⟨by omega, by omega⟩)
        have hFx27_ : ai_fr (sx_W vw_339) S0_ (sm_aI (sm_aI (sm_aI (sm_pI Sx6_ 13 0 28 ((Sx6_.1 13 0 12) % 16)) 124 0 ((Sx6_.1 13 0 12) % 16).toNat tk_) 125 0 ((Sx6_.1 13 0 12) % 16).toNat (Sx6_.1 13 0 9)) 126 0 ((Sx6_.1 13 0 12) % 16).toNat 0) := ai_fr_tr hFx25_ (ai_fr_aI rfl)
        refine sm_T_go 4 (c1 := (133, [some (.inr (.inr (some (13, 0)))), some (.inl tk_), some (.inl ((Sx6_.1 13 0 12) % 16))], [.inl 0, .inl ((Sx6_.1 13 0 12) % 16), .inr (.inr (some (132, 0)))], sm_aI (sm_aI (sm_aI (sm_pI Sx6_ 13 0 28 ((Sx6_.1 13 0 12) % 16)) 124 0 ((Sx6_.1 13 0 12) % 16).toNat tk_) 125 0 ((Sx6_.1 13 0 12) % 16).toNat (Sx6_.1 13 0 9)) 126 0 ((Sx6_.1 13 0 12) % 16).toNat 0)) rfl ?_
        refine sm_T_iast (n := 16) rfl rfl (by omega) (by omega) ?_
        have hIx28_ : gi (sm_aI (sm_aI (sm_aI (sm_aI (sm_pI Sx6_ 13 0 28 ((Sx6_.1 13 0 12) % 16)) 124 0 ((Sx6_.1 13 0 12) % 16).toNat tk_) 125 0 ((Sx6_.1 13 0 12) % 16).toNat (Sx6_.1 13 0 9)) 126 0 ((Sx6_.1 13 0 12) % 16).toNat 0) 132 0 ((Sx6_.1 13 0 12) % 16).toNat 0) := gi_aI hIx26_ (show 0 ≤ 0 ∧ 0 ≤ 320 from ⟨by omega, by omega⟩)
        have hFx29_ : ai_fr (sx_W vw_339) S0_ (sm_aI (sm_aI (sm_aI (sm_aI (sm_pI Sx6_ 13 0 28 ((Sx6_.1 13 0 12) % 16)) 124 0 ((Sx6_.1 13 0 12) % 16).toNat tk_) 125 0 ((Sx6_.1 13 0 12) % 16).toNat (Sx6_.1 13 0 9)) 126 0 ((Sx6_.1 13 0 12) % 16).toNat 0) 132 0 ((Sx6_.1 13 0 12) % 16).toNat 0) := ai_fr_tr hFx27_ (ai_fr_aI rfl)
        refine sm_T_go 4 (c1 := (140, [some (.inr (.inr (some (13, 0)))), some (.inl tk_), some (.inl ((Sx6_.1 13 0 12) % 16))], [.inl 0, .inl ((Sx6_.1 13 0 12) % 16), .inr (.inr (some (133, 0)))], sm_aI (sm_aI (sm_aI (sm_aI (sm_pI Sx6_ 13 0 28 ((Sx6_.1 13 0 12) % 16)) 124 0 ((Sx6_.1 13 0 12) % 16).toNat tk_) 125 0 ((Sx6_.1 13 0 12) % 16).toNat (Sx6_.1 13 0 9)) 126 0 ((Sx6_.1 13 0 12) % 16).toNat 0) 132 0 ((Sx6_.1 13 0 12) % 16).toNat 0)) rfl ?_
        refine sm_T_iast (n := 16) rfl rfl (by omega) (by omega) ?_
        have hIx30_ : gi (sm_aI (sm_aI (sm_aI (sm_aI (sm_aI (sm_pI Sx6_ 13 0 28 ((Sx6_.1 13 0 12) % 16)) 124 0 ((Sx6_.1 13 0 12) % 16).toNat tk_) 125 0 ((Sx6_.1 13 0 12) % 16).toNat (Sx6_.1 13 0 9)) 126 0 ((Sx6_.1 13 0 12) % 16).toNat 0) 132 0 ((Sx6_.1 13 0 12) % 16).toNat 0) 133 0 ((Sx6_.1 13 0 12) % 16).toNat 0) := gi_aI hIx28_ (show 0 ≤ 0 ∧ 0 ≤ 320 from ⟨by omega, by omega⟩)
        have hFx31_ : ai_fr (sx_W vw_339) S0_ (sm_aI (sm_aI (sm_aI (sm_aI (sm_aI (sm_pI Sx6_ 13 0 28 ((Sx6_.1 13 0 12) % 16)) 124 0 ((Sx6_.1 13 0 12) % 16).toNat tk_) 125 0 ((Sx6_.1 13 0 12) % 16).toNat (Sx6_.1 13 0 9)) 126 0 ((Sx6_.1 13 0 12) % 16).toNat 0) 132 0 ((Sx6_.1 13 0 12) % 16).toNat 0) 133 0 ((Sx6_.1 13 0 12) % 16).toNat 0) := ai_fr_tr hFx29_ (ai_fr_aI rfl)
        refine sm_T_go 4 (c1 := (147, [some (.inr (.inr (some (13, 0)))), some (.inl tk_), some (.inl ((Sx6_.1 13 0 12) % 16))], [.inl 0, .inl ((Sx6_.1 13 0 12) % 16), .inr (.inr (some (134, 0)))], sm_aI (sm_aI (sm_aI (sm_aI (sm_aI (sm_pI Sx6_ 13 0 28 ((Sx6_.1 13 0 12) % 16)) 124 0 ((Sx6_.1 13 0 12) % 16).toNat tk_) 125 0 ((Sx6_.1 13 0 12) % 16).toNat (Sx6_.1 13 0 9)) 126 0 ((Sx6_.1 13 0 12) % 16).toNat 0) 132 0 ((Sx6_.1 13 0 12) % 16).toNat 0) 133 0 ((Sx6_.1 13 0 12) % 16).toNat 0)) rfl ?_
        refine sm_T_iast (n := 16) rfl rfl (by omega) (by omega) ?_
        have hIx32_ : gi (sm_aI (sm_aI (sm_aI (sm_aI (sm_aI (sm_aI (sm_pI Sx6_ 13 0 28 ((Sx6_.1 13 0 12) % 16)) 124 0 ((Sx6_.1 13 0 12) % 16).toNat tk_) 125 0 ((Sx6_.1 13 0 12) % 16).toNat (Sx6_.1 13 0 9)) 126 0 ((Sx6_.1 13 0 12) % 16).toNat 0) 132 0 ((Sx6_.1 13 0 12) % 16).toNat 0) 133 0 ((Sx6_.1 13 0 12) % 16).toNat 0) 134 0 ((Sx6_.1 13 0 12) % 16).toNat 0) := gi_aI hIx30_ (show 0 ≤ 0 ∧ 0 ≤ 1073741823 from ⟨by omega, by omega⟩)
        have hFx33_ : ai_fr (sx_W vw_339) S0_ (sm_aI (sm_aI (sm_aI (sm_aI (sm_aI (sm_aI (sm_pI Sx6_ 13 0 28 ((Sx6_.1 13 0 12) % 16)) 124 0 ((Sx6_.1 13 0 12) % 16).toNat tk_) 125 0 ((Sx6_.1 13 0 12) % 16).toNat (Sx6_.1 13 0 9)) 126 0 ((Sx6_.1 13 0 12) % 16).toNat 0) 132 0 ((Sx6_.1 13 0 12) % 16).toNat 0) 133 0 ((Sx6_.1 13 0 12) % 16).toNat 0) 134 0 ((Sx6_.1 13 0 12) % 16).toNat 0) := ai_fr_tr hFx31_ (ai_fr_aI rfl)
        refine sm_T_go 4 (c1 := (154, [some (.inr (.inr (some (13, 0)))), some (.inl tk_), some (.inl ((Sx6_.1 13 0 12) % 16))], [.inl 0, .inl ((Sx6_.1 13 0 12) % 16), .inr (.inr (some (135, 0)))], sm_aI (sm_aI (sm_aI (sm_aI (sm_aI (sm_aI (sm_pI Sx6_ 13 0 28 ((Sx6_.1 13 0 12) % 16)) 124 0 ((Sx6_.1 13 0 12) % 16).toNat tk_) 125 0 ((Sx6_.1 13 0 12) % 16).toNat (Sx6_.1 13 0 9)) 126 0 ((Sx6_.1 13 0 12) % 16).toNat 0) 132 0 ((Sx6_.1 13 0 12) % 16).toNat 0) 133 0 ((Sx6_.1 13 0 12) % 16).toNat 0) 134 0 ((Sx6_.1 13 0 12) % 16).toNat 0)) rfl ?_
        refine sm_T_iast (n := 16) rfl rfl (by omega) (by omega) ?_
        have hIx34_ : gi (sm_aI (sm_aI (sm_aI (sm_aI (sm_aI (sm_aI (sm_aI (sm_pI Sx6_ 13 0 28 ((Sx6_.1 13 0 12) % 16)) 124 0 ((Sx6_.1 13 0 12) % 16).toNat tk_) 125 0 ((Sx6_.1 13 0 12) % 16).toNat (Sx6_.1 13 0 9)) 126 0 ((Sx6_.1 13 0 12) % 16).toNat 0) 132 0 ((Sx6_.1 13 0 12) % 16).toNat 0) 133 0 ((Sx6_.1 13 0 12) % 16).toNat 0) 134 0 ((Sx6_.1 13 0 12) % 16).toNat 0) 135 0 ((Sx6_.1 13 0 12) % 16).toNat 0) := gi_aI hIx32_ (show 0 ≤ 0 ∧ 0 ≤ 1073741823 from ⟨by omega, by omega⟩)
        have hFx35_ : ai_fr (sx_W vw_339) S0_ (sm_aI (sm_aI (sm_aI (sm_aI (sm_aI (sm_aI (sm_aI (sm_pI Sx6_ 13 0 28 ((Sx6_.1 13 0 12) % 16)) 124 0 ((Sx6_.1 13 0 12) % 16).toNat tk_) 125 0 ((Sx6_.1 13 0 12) % 16).toNat (Sx6_.1 13 0 9)) 126 0 ((Sx6_.1 13 0 12) % 16).toNat 0) 132 0 ((Sx6_.1 13 0 12) % 16).toNat 0) 133 0 ((Sx6_.1 13 0 12) % 16).toNat 0) 134 0 ((Sx6_.1 13 0 12) % 16).toNat 0) 135 0 ((Sx6_.1 13 0 12) % 16).toNat 0) := ai_fr_tr hFx33_ (ai_fr_aI rfl)
        refine sm_T_go 0 (c1 := (155, [some (.inr (.inr (some (13, 0)))), some (.inl tk_), some (.inl ((Sx6_.1 13 0 12) % 16))], [], sm_aI (sm_aI (sm_aI (sm_aI (sm_aI (sm_aI (sm_aI (sm_pI Sx6_ 13 0 28 ((Sx6_.1 13 0 12) % 16)) 124 0 ((Sx6_.1 13 0 12) % 16).toNat tk_) 125 0 ((Sx6_.1 13 0 12) % 16).toNat (Sx6_.1 13 0 9)) 126 0 ((Sx6_.1 13 0 12) % 16).toNat 0) 132 0 ((Sx6_.1 13 0 12) % 16).toNat 0) 133 0 ((Sx6_.1 13 0 12) % 16).toNat 0) 134 0 ((Sx6_.1 13 0 12) % 16).toNat 0) 135 0 ((Sx6_.1 13 0 12) % 16).toNat 0)) rfl ?_
        refine sm_T_wk [some (.inr (.inr (some (13, 0)))), none, some (.inl ((Sx6_.1 13 0 12) % 16))] (by exact ⟨rfl, rfl, trivial⟩) ?_
        refine ih_.2.2 ((Sx6_.1 13 0 12) % 16) (sm_aI (sm_aI (sm_aI (sm_aI (sm_aI (sm_aI (sm_aI (sm_pI Sx6_ 13 0 28 ((Sx6_.1 13 0 12) % 16)) 124 0 ((Sx6_.1 13 0 12) % 16).toNat tk_) 125 0 ((Sx6_.1 13 0 12) % 16).toNat (Sx6_.1 13 0 9)) 126 0 ((Sx6_.1 13 0 12) % 16).toNat 0) 132 0 ((Sx6_.1 13 0 12) % 16).toNat 0) 133 0 ((Sx6_.1 13 0 12) % 16).toNat 0) 134 0 ((Sx6_.1 13 0 12) % 16).toNat 0) 135 0 ((Sx6_.1 13 0 12) % 16).toNat 0) hIx34_ hFx35_ ⟨?_, ?_, ?_, trivial⟩ ?_
        · omega
        · first | exact ms80_ | exact T80x.1
        · first | (left; exact ⟨e5_, xw_, g6w⟩) | (right; exact ⟨by omega, m15_, by show _ % 16 = (M_ : Int); omega, bm_L T80x rt6_ m15_ xr (by omega) g6r (by omega) (fun j_ => by (try simp only [rd_eq, rd_ne, rf_eq, rf_nk, rf_nt, rd_fa, rd_af, rd_fl, rd_al, rd_lf, rd_la, rd_leq, rd_lne, rd_fr, rd_ar, ne_eq, Nat.reduceEqDiff, not_false_eq_true]); (try simp only [iM2_]); (repeat' split); all_goals omega) (fun j_ => by (try simp only [rd_eq, rd_ne, rf_eq, rf_nk, rf_nt, rd_fa, rd_af, rd_fl, rd_al, rd_lf, rd_la, rd_leq, rd_lne, rd_fr, rd_ar, ne_eq, Nat.reduceEqDiff, not_false_eq_true]); (try simp only [iM2_]); (repeat' split); all_goals omega) (fun j_ => by (try simp only [rd_eq, rd_ne, rf_eq, rf_nk, rf_nt, rd_fa, rd_af, rd_fl, rd_al, rd_lf, rd_la, rd_leq, rd_lne, rd_fr, rd_ar, ne_eq, Nat.reduceEqDiff, not_false_eq_true]); (try simp only [iM2_]); (repeat' split); all_goals omega) (fun j_ => by (try simp only [rd_eq, rd_ne, rf_eq, rf_nk, rf_nt, rd_fa, rd_af, rd_fl, rd_al, rd_lf, rd_la, rd_leq, rd_lne, rd_fr, rd_ar, ne_eq, Nat.reduceEqDiff, not_false_eq_true]); (try simp only [iM2_]); (repeat' split); all_goals omega) (fun j_ => by (try simp only [rd_eq, rd_ne, rf_eq, rf_nk, rf_nt, rd_fa, rd_af, rd_fl, rd_al, rd_lf, rd_la, rd_leq, rd_lne, rd_fr, rd_ar, ne_eq, Nat.reduceEqDiff, not_false_eq_true]); (try simp only [iM2_]); (repeat' split); all_goals omega) (fun j_ => by (try simp only [rd_eq, rd_ne, rf_eq, rf_nk, rf_nt, rd_fa, rd_af, rd_fl, rd_al, rd_lf, rd_la, rd_leq, rd_lne, rd_fr, rd_ar, ne_eq, Nat.reduceEqDiff, not_false_eq_true]); (try simp only [iM2_]); (repeat' split); all_goals omega) rfl rfl rfl rfl rfl (fun j_ => by (try simp only [rd_eq, rd_ne, rf_eq, rf_nk, rf_nt, rd_fa, rd_af, rd_fl, rd_al, rd_lf, rd_la, rd_leq, rd_lne, rd_fr, rd_ar, ne_eq, Nat.reduceEqDiff, not_false_eq_true]); (try simp only [iM2_]); (repeat' split); all_goals omega) b6_.2.2.2.2⟩)
        · exact Nat.lt_of_le_of_lt (rms_b hIx34_) (by omega)
    · rintro k2_ S_ hI_ hF_ ⟨kb_, ms155_, h1_, -⟩ hm_
      have le0_ := rg_le ht_ hx_
      have hn1_ := ht_.1
      have hM16_ := hT_.2.1
      have ms0_ := hT_.1
      have tt_ := rtab_fr ht_ hF_ rfl rfl rfl rfl rfl
      have mo9_ := (hF_.1 13 0 27 rfl).trans hmo_
      refine sm_T_go 1 (c1 := (156, [some (.inr (.inr (some (13, 0)))), none, some (.inl k2_)], [.inr (.inr (some (13, 0)))], S_)) rfl ?_
      refine sm_T_cal (d1 := 0) (Q1 := vq_292  S_) rfl rfl (by decide) (vc_292  S_ hI_ ) (fun u_ Sx1_ px4_ => ?_)
      obtain ⟨rfl, vx6_, rfl, px4_⟩ := px4_
      have e156_ := px4_
      refine sm_T_b0 (a := 0) (z := 20) rfl (fun cx7_ => ?_) (fun cx7_ => ?_)
      · have cx7_ : vx6_ = 0 := of_decide_eq_true cx7_
        have hz_ := wr_if e156_ (by omega)
        have hw_ : rX b_ n_ T_ X_ S_ := by rcases h1_ with z_ | ⟨z1_, z2_, z3_, f1_, A1_, N1_, mc1_, c1_, p1_, y1_, y2_, y3_, y4_⟩; exact z_; (exact absurd y3_.1 hz_)
        obtain ⟨e5_, he5_, ge5_⟩ := hw_
        obtain ⟨x9_, hx9_, hx9b⟩ : ∃ x9_ : pE Nat, rg b_ n_ T_ x9_ S_ ∧ x9_ = .inl e5_ := ⟨_, ge5_, rfl⟩
        refine sm_T_go 2 (c1 := (182, [some (.inr (.inr (some (13, 0)))), none, some (.inl k2_)], [.inl 125, .inr (.inr (some (13, 0)))], S_)) rfl ?_
        refine sm_T_cal (d1 := 3) (Q1 := vq_300 125 b_ n_ T_ x9_ S_) rfl rfl (by decide) (vc_300 125 b_ n_ T_ x9_ S_ hI_ (by exact tt_) (by exact hx9_) (by decide)) (fun u_ Sx8_ px11_ => ?_)
        obtain ⟨rfl, hIx9_, hFx10_, px11_⟩ := px11_
        have hFx12_ : ai_fr (sx_W vw_339) S0_ Sx8_ := ai_fr_tr hF_ (fr_le hFx10_ rfl)
        have g182_ := px11_
        rw [hx9b] at g182_
        have f182_ := hFx10_
        have ms182_ := (hFx10_.1 13 0 12 rfl).trans ms155_
        have bx13_ : 0 ≤ Sx8_.1 13 0 12 ∧ Sx8_.1 13 0 12 ≤ 16 := hIx9_.1 13 0 12 rfl
        refine sm_T_go 4 (c1 := (191, [some (.inr (.inr (some (13, 0)))), none, some (.inl k2_)], [.inr (.inr (some (13, 0))), .inl (Sx8_.1 13 0 12), .inr (.inr (some (13, 0)))], Sx8_)) rfl ?_
        refine sm_T_cal (d1 := 0) (Q1 := vq_292  Sx8_) rfl rfl (by decide) (vc_292  Sx8_ hIx9_ ) (fun u_ Sx14_ px17_ => ?_)
        obtain ⟨rfl, vx19_, rfl, px17_⟩ := px17_
        have e191_ := px17_
        refine sm_T_b0 (a := 0) (z := 7) rfl (fun cx20_ => ?_) (fun cx20_ => ?_)
        · have cx20_ : vx19_ = 0 := of_decide_eq_true cx20_
          have hz9_ := wr_if e191_ (by omega)
          refine sm_T_go 1 (c1 := (202, [some (.inr (.inr (some (13, 0)))), none, some (.inl k2_)], [.inl 0, .inl (Sx8_.1 13 0 12), .inr (.inr (some (13, 0)))], Sx8_)) rfl ?_
          refine sm_T_bin (w := (Sx8_.1 13 0 12)) rfl (bi_add (by omega) (by omega) (by omega)) ?_
          have hIx21_ : gi (sm_pI Sx8_ 13 0 12 (Sx8_.1 13 0 12)) := gi_pI hIx9_ (show 0 ≤ (Sx8_.1 13 0 12) ∧ (Sx8_.1 13 0 12) ≤ 16 from ⟨by omega, by omega⟩)
          have hFx22_ : ai_fr (sx_W vw_339) S0_ (sm_pI Sx8_ 13 0 12 (Sx8_.1 13 0 12)) := ai_fr_tr hFx12_ (ai_fr_pI rfl)
          refine sm_T_go 1 (c1 := (206, [some (.inr (.inr (some (13, 0)))), none, some (.inl k2_)], [], sm_pI Sx8_ 13 0 12 (Sx8_.1 13 0 12))) rfl ?_
          refine sm_T_rv rfl ⟨_, _, rfl, rfl, hIx21_, hFx22_, ?_⟩
          first | (refine ⟨Or.inl ⟨e5_, he5_, g182_⟩, fun z_ => ?_⟩; first | (exact absurd z_ hz9_) | (exact absurd (g182_.1.symm.trans z_) g182_.2.2)) | (cases hq_ : p_nd b_ n_ 125 p1_ with | inl e_ => (have g182_ : rg b_ n_ T_ (p_nd b_ n_ 125 p1_) _ := g182_; rw [hq_] at g182_; refine ⟨Or.inl ⟨e_, by rw [hX1_, hq_]; rfl, g182_⟩, fun z_ => ?_⟩; first | (exact absurd z_ hz9_) | (exact absurd (g182_.1.symm.trans z_) g182_.2.2)) | inr q2_ => (have g182_ : rg b_ n_ T_ (p_nd b_ n_ 125 p1_) _ := g182_; rw [hq_] at g182_; first | (exact absurd g182_.1 hz9_) | (have k9_ := nd_ok le1_.1 (by decide) hq_; have k91_ := k9_.1; refine ⟨Or.inr ⟨A1_, N1_, M_ + 1, n_up mc1_ (M_ + 1) c1_.length, c1_, q2_, g182_, rT_nx a1_ (fun m_ hm_ => re1_fr (re1x m_ hm_) f182_ rfl rfl rfl rfl rfl rfl) (fun m_ hm_ => rs1_fr (rs1x m_ hm_) f182_ rfl rfl rfl rfl) (rnr_fr rn1_ f182_ rfl) (by rw [fr_arr f182_ rfl]; exact tk1_) (fun m_ hm_ => bdy_fr (bd1_ m_ hm_) f182_ rfl) (by omega), by omega, by omega, ?_⟩, fun _ => ?_⟩; (by_cases z_ : lx_kd b_ n_ q2_ = 0; (left; refine ⟨z_, ?_⟩; rw [hX1_, hq_, pb_ir, if_pos z_]); (right; refine ⟨z_, f2_, by omega, ?_⟩; rw [hX1_, hq_, pb_ir, if_neg z_])); (rw [rf_eq]; omega))))
        · have cx20_ : ¬ (vx19_ = 0) := of_decide_eq_false cx20_
          have hz9_ := rt_if e191_ (by omega)
          have mb9_ : M_ ≤ 15 := by first | exact m15_ | (exfalso; exact g182_.2.2 (g182_.1.symm.trans hz9_))
          refine sm_T_go 2 (c1 := (202, [some (.inr (.inr (some (13, 0)))), none, some (.inl k2_)], [.inl 1, .inl (Sx8_.1 13 0 12), .inr (.inr (some (13, 0)))], Sx8_)) rfl ?_
          refine sm_T_bin (w := (Sx8_.1 13 0 12) + 1) rfl (bi_add (by omega) (by omega) (by omega)) ?_
          have hIx23_ : gi (sm_pI Sx8_ 13 0 12 ((Sx8_.1 13 0 12) + 1)) := gi_pI hIx9_ (show 0 ≤ (Sx8_.1 13 0 12) + 1 ∧ (Sx8_.1 13 0 12) + 1 ≤ 16 from ⟨by omega, by omega⟩)
          have hFx24_ : ai_fr (sx_W vw_339) S0_ (sm_pI Sx8_ 13 0 12 ((Sx8_.1 13 0 12) + 1)) := ai_fr_tr hFx12_ (ai_fr_pI rfl)
          refine sm_T_go 1 (c1 := (206, [some (.inr (.inr (some (13, 0)))), none, some (.inl k2_)], [], sm_pI Sx8_ 13 0 12 ((Sx8_.1 13 0 12) + 1))) rfl ?_
          refine sm_T_rv rfl ⟨_, _, rfl, rfl, hIx23_, hFx24_, ?_⟩
          first | (refine ⟨Or.inl ⟨e5_, he5_, g182_⟩, fun z_ => ?_⟩; first | (exact absurd z_ hz9_) | (exact absurd (g182_.1.symm.trans z_) g182_.2.2)) | (cases hq_ : p_nd b_ n_ 125 p1_ with | inl e_ => (have g182_ : rg b_ n_ T_ (p_nd b_ n_ 125 p1_) _ := g182_; rw [hq_] at g182_; refine ⟨Or.inl ⟨e_, by rw [hX1_, hq_]; rfl, g182_⟩, fun z_ => ?_⟩; first | (exact absurd z_ hz9_) | (exact absurd (g182_.1.symm.trans z_) g182_.2.2)) | inr q2_ => (have g182_ : rg b_ n_ T_ (p_nd b_ n_ 125 p1_) _ := g182_; rw [hq_] at g182_; first | (exact absurd g182_.1 hz9_) | (have k9_ := nd_ok le1_.1 (by decide) hq_; have k91_ := k9_.1; refine ⟨Or.inr ⟨A1_, N1_, M_ + 1, n_up mc1_ (M_ + 1) c1_.length, c1_, q2_, g182_, rT_nx a1_ (fun m_ hm_ => re1_fr (re1x m_ hm_) f182_ rfl rfl rfl rfl rfl rfl) (fun m_ hm_ => rs1_fr (rs1x m_ hm_) f182_ rfl rfl rfl rfl) (rnr_fr rn1_ f182_ rfl) (by rw [fr_arr f182_ rfl]; exact tk1_) (fun m_ hm_ => bdy_fr (bd1_ m_ hm_) f182_ rfl) (by omega), by omega, by omega, ?_⟩, fun _ => ?_⟩; (by_cases z_ : lx_kd b_ n_ q2_ = 0; (left; refine ⟨z_, ?_⟩; rw [hX1_, hq_, pb_ir, if_pos z_]); (right; refine ⟨z_, f2_, by omega, ?_⟩; rw [hX1_, hq_, pb_ir, if_neg z_])); (rw [rf_eq]; omega))))
      · have cx7_ : ¬ (vx6_ = 0) := of_decide_eq_false cx7_
        have hz_ := rt_if e156_ (by omega)
        obtain ⟨k2M, m15_, md1_, f1_, A1_, N1_, mc1_, c1_, p1_, hX1_, hf1_, g1_, a1_, re1x, rs1x, rn1_, tk1_, hc1_, bd1_⟩ : k2_ = (M_ : Int) ∧ M_ ≤ 15 ∧ S_.1 13 0 28 = (M_ : Int) ∧ rL b_ n_ T_ X_ M_ S_ := by rcases h1_ with z_ | z_; (exact (rX_z z_ hz_).elim); exact z_
        have le1_ := rg_le tt_ g1_
        obtain ⟨f2_, hf2_⟩ : ∃ f2_, f1_ = f2_ + 1 := ⟨f1_ - 1, by omega⟩
        subst hf2_
        have rms1_ := rms_x (k_ := 0) tt_ g1_ (by decide)
        refine sm_T_go 2 (c1 := (165, [some (.inr (.inr (some (13, 0)))), none, some (.inl k2_)], [.inl 125, .inr (.inr (some (13, 0)))], S_)) rfl ?_
        refine sm_T_cal (d1 := 0) (Q1 := vq_295 125 b_ n_ T_ (.inr p1_) S_) rfl rfl (by decide) (vc_295 125 b_ n_ T_ (.inr p1_) S_ hI_ (by exact tt_) (by exact g1_) (by decide)) (fun u_ Sx25_ px28_ => ?_)
        obtain ⟨rfl, vx30_, rfl, px28_⟩ := px28_
        have e165_ := px28_.2 p1_ rfl
        have r165_ := px28_.1.1
        refine sm_T_b0 (a := 1) (z := 11) rfl (fun cx31_ => ?_) (fun cx31_ => ?_)
        · have cx31_ : vx30_ ≠ 0 := of_decide_eq_true cx31_
          have k125_ : lx_kd b_ n_ p1_ = 125 := e165_.mp (by omega)
          obtain ⟨x9_, hx9_, hx9b⟩ : ∃ x9_ : pE Nat, rg b_ n_ T_ x9_ S_ ∧ x9_ = .inr p1_ := ⟨_, g1_, rfl⟩
          rw [dl_e k125_] at hX1_
          refine sm_T_go 2 (c1 := (182, [some (.inr (.inr (some (13, 0)))), none, some (.inl k2_)], [.inl 125, .inr (.inr (some (13, 0)))], S_)) rfl ?_
          refine sm_T_cal (d1 := 3) (Q1 := vq_300 125 b_ n_ T_ x9_ S_) rfl rfl (by decide) (vc_300 125 b_ n_ T_ x9_ S_ hI_ (by exact tt_) (by exact hx9_) (by decide)) (fun u_ Sx32_ px35_ => ?_)
          obtain ⟨rfl, hIx33_, hFx34_, px35_⟩ := px35_
          have hFx36_ : ai_fr (sx_W vw_339) S0_ Sx32_ := ai_fr_tr hF_ (fr_le hFx34_ rfl)
          have g182_ := px35_
          rw [hx9b] at g182_
          have f182_ := hFx34_
          have ms182_ := (hFx34_.1 13 0 12 rfl).trans ms155_
          have bx37_ : 0 ≤ Sx32_.1 13 0 12 ∧ Sx32_.1 13 0 12 ≤ 16 := hIx33_.1 13 0 12 rfl
          refine sm_T_go 4 (c1 := (191, [some (.inr (.inr (some (13, 0)))), none, some (.inl k2_)], [.inr (.inr (some (13, 0))), .inl (Sx32_.1 13 0 12), .inr (.inr (some (13, 0)))], Sx32_)) rfl ?_
          refine sm_T_cal (d1 := 0) (Q1 := vq_292  Sx32_) rfl rfl (by decide) (vc_292  Sx32_ hIx33_ ) (fun u_ Sx38_ px41_ => ?_)
          obtain ⟨rfl, vx43_, rfl, px41_⟩ := px41_
          have e191_ := px41_
          refine sm_T_b0 (a := 0) (z := 7) rfl (fun cx44_ => ?_) (fun cx44_ => ?_)
          · have cx44_ : vx43_ = 0 := of_decide_eq_true cx44_
            have hz9_ := wr_if e191_ (by omega)
            refine sm_T_go 1 (c1 := (202, [some (.inr (.inr (some (13, 0)))), none, some (.inl k2_)], [.inl 0, .inl (Sx32_.1 13 0 12), .inr (.inr (some (13, 0)))], Sx32_)) rfl ?_
            refine sm_T_bin (w := (Sx32_.1 13 0 12)) rfl (bi_add (by omega) (by omega) (by omega)) ?_
            have hIx45_ : gi (sm_pI Sx32_ 13 0 12 (Sx32_.1 13 0 12)) := gi_pI hIx33_ (show 0 ≤ (Sx32_.1 13 0 12) ∧ (Sx32_.1 13 0 12) ≤ 16 from ⟨by omega, by omega⟩)
            have hFx46_ : ai_fr (sx_W vw_339) S0_ (sm_pI Sx32_ 13 0 12 (Sx32_.1 13 0 12)) := ai_fr_tr hFx36_ (ai_fr_pI rfl)
            refine sm_T_go 1 (c1 := (206, [some (.inr (.inr (some (13, 0)))), none, some (.inl k2_)], [], sm_pI Sx32_ 13 0 12 (Sx32_.1 13 0 12))) rfl ?_
            refine sm_T_rv rfl ⟨_, _, rfl, rfl, hIx45_, hFx46_, ?_⟩
            first | (refine ⟨Or.inl ⟨e5_, he5_, g182_⟩, fun z_ => ?_⟩; first | (exact absurd z_ hz9_) | (exact absurd (g182_.1.symm.trans z_) g182_.2.2)) | (cases hq_ : p_nd b_ n_ 125 p1_ with | inl e_ => (have g182_ : rg b_ n_ T_ (p_nd b_ n_ 125 p1_) _ := g182_; rw [hq_] at g182_; refine ⟨Or.inl ⟨e_, by rw [hX1_, hq_]; rfl, g182_⟩, fun z_ => ?_⟩; first | (exact absurd z_ hz9_) | (exact absurd (g182_.1.symm.trans z_) g182_.2.2)) | inr q2_ => (have g182_ : rg b_ n_ T_ (p_nd b_ n_ 125 p1_) _ := g182_; rw [hq_] at g182_; first | (exact absurd g182_.1 hz9_) | (have k9_ := nd_ok le1_.1 (by decide) hq_; have k91_ := k9_.1; refine ⟨Or.inr ⟨A1_, N1_, M_ + 1, n_up mc1_ (M_ + 1) c1_.length, c1_, q2_, g182_, rT_nx a1_ (fun m_ hm_ => re1_fr (re1x m_ hm_) f182_ rfl rfl rfl rfl rfl rfl) (fun m_ hm_ => rs1_fr (rs1x m_ hm_) f182_ rfl rfl rfl rfl) (rnr_fr rn1_ f182_ rfl) (by rw [fr_arr f182_ rfl]; exact tk1_) (fun m_ hm_ => bdy_fr (bd1_ m_ hm_) f182_ rfl) (by omega), by omega, by omega, ?_⟩, fun _ => ?_⟩; (by_cases z_ : lx_kd b_ n_ q2_ = 0; (left; refine ⟨z_, ?_⟩; rw [hX1_, hq_, pb_ir, if_pos z_]); (right; refine ⟨z_, f2_, by omega, ?_⟩; rw [hX1_, hq_, pb_ir, if_neg z_])); (rw [rf_eq]; omega))))
          · have cx44_ : ¬ (vx43_ = 0) := of_decide_eq_false cx44_
            have hz9_ := rt_if e191_ (by omega)
            have mb9_ : M_ ≤ 15 := by first | exact m15_ | (exfalso; exact g182_.2.2 (g182_.1.symm.trans hz9_))
            refine sm_T_go 2 (c1 := (202, [some (.inr (.inr (some (13, 0)))), none, some (.inl k2_)], [.inl 1, .inl (Sx32_.1 13 0 12), .inr (.inr (some (13, 0)))], Sx32_)) rfl ?_
            refine sm_T_bin (w := (Sx32_.1 13 0 12) + 1) rfl (bi_add (by omega) (by omega) (by omega)) ?_
            have hIx47_ : gi (sm_pI Sx32_ 13 0 12 ((Sx32_.1 13 0 12) + 1)) := gi_pI hIx33_ (show 0 ≤ (Sx32_.1 13 0 12) + 1 ∧ (Sx32_.1 13 0 12) + 1 ≤ 16 from ⟨by omega, by omega⟩)
            have hFx48_ : ai_fr (sx_W vw_339) S0_ (sm_pI Sx32_ 13 0 12 ((Sx32_.1 13 0 12) + 1)) := ai_fr_tr hFx36_ (ai_fr_pI rfl)
            refine sm_T_go 1 (c1 := (206, [some (.inr (.inr (some (13, 0)))), none, some (.inl k2_)], [], sm_pI Sx32_ 13 0 12 ((Sx32_.1 13 0 12) + 1))) rfl ?_
            refine sm_T_rv rfl ⟨_, _, rfl, rfl, hIx47_, hFx48_, ?_⟩
            first | (refine ⟨Or.inl ⟨e5_, he5_, g182_⟩, fun z_ => ?_⟩; first | (exact absurd z_ hz9_) | (exact absurd (g182_.1.symm.trans z_) g182_.2.2)) | (cases hq_ : p_nd b_ n_ 125 p1_ with | inl e_ => (have g182_ : rg b_ n_ T_ (p_nd b_ n_ 125 p1_) _ := g182_; rw [hq_] at g182_; refine ⟨Or.inl ⟨e_, by rw [hX1_, hq_]; rfl, g182_⟩, fun z_ => ?_⟩; first | (exact absurd z_ hz9_) | (exact absurd (g182_.1.symm.trans z_) g182_.2.2)) | inr q2_ => (have g182_ : rg b_ n_ T_ (p_nd b_ n_ 125 p1_) _ := g182_; rw [hq_] at g182_; first | (exact absurd g182_.1 hz9_) | (have k9_ := nd_ok le1_.1 (by decide) hq_; have k91_ := k9_.1; refine ⟨Or.inr ⟨A1_, N1_, M_ + 1, n_up mc1_ (M_ + 1) c1_.length, c1_, q2_, g182_, rT_nx a1_ (fun m_ hm_ => re1_fr (re1x m_ hm_) f182_ rfl rfl rfl rfl rfl rfl) (fun m_ hm_ => rs1_fr (rs1x m_ hm_) f182_ rfl rfl rfl rfl) (rnr_fr rn1_ f182_ rfl) (by rw [fr_arr f182_ rfl]; exact tk1_) (fun m_ hm_ => bdy_fr (bd1_ m_ hm_) f182_ rfl) (by omega), by omega, by omega, ?_⟩, fun _ => ?_⟩; (by_cases z_ : lx_kd b_ n_ q2_ = 0; (left; refine ⟨z_, ?_⟩; rw [hX1_, hq_, pb_ir, if_pos z_]); (right; refine ⟨z_, f2_, by omega, ?_⟩; rw [hX1_, hq_, pb_ir, if_neg z_])); (rw [rf_eq]; omega))))
        · have cx31_ : ¬ (vx30_ ≠ 0) := of_decide_eq_false cx31_
          have k125_ : lx_kd b_ n_ p1_ ≠ 125 := fun z_ => by have := e165_.mpr z_; omega
          refine sm_T_go 2 (c1 := (173, [some (.inr (.inr (some (13, 0)))), none, some (.inl k2_)], [.inl k2_, .inr (.inr (some (13, 0)))], S_)) rfl ?_
          refine sm_T_cal (d1 := 9) (Q1 := vq_334 k2_ b_ n_ T_ A1_ M_ c1_ p1_ N1_ S_) rfl rfl (by decide) (vc_334 k2_ b_ n_ T_ A1_ M_ c1_ p1_ N1_ S_ hI_ (by exact tt_) (by exact g1_) (by exact mo9_) (by exact ⟨k2M, m15_⟩) (by exact md1_) (by exact a1_) (by exact re1x) (by exact rs1x) (by exact hc1_) (by exact ms155_) (by exact rn1_)) (fun u_ Sx49_ px52_ => ?_)
          obtain ⟨rfl, hIx50_, hFx51_, px52_⟩ := px52_
          have hFx53_ : ai_fr (sx_W vw_339) S0_ Sx49_ := ai_fr_tr hF_ (fr_le hFx51_ rfl)
          have e173_ := px52_
          have F173_ := hFx51_
          have t173_ := rtab_fr tt_ hFx51_ rfl rfl rfl rfl rfl
          have rn173_ := rnr_fr rn1_ hFx51_ rfl
          have tk173_ : rtk b_ n_ T_ (Sx49_.2.2.1 124 0 M_) (N1_ M_) := by rw [fr_arr hFx51_ rfl]; exact tk1_
          have md173_ := (hFx51_.1 13 0 28 rfl).trans md1_
          have ms173_ := (hFx51_.1 13 0 12 rfl).trans ms155_
          refine sm_T_go 1 (c1 := (155, [some (.inr (.inr (some (13, 0)))), none, some (.inl k2_)], [], Sx49_)) rfl ?_
          refine ih_.2.2 k2_ Sx49_ hIx50_ hFx53_ ⟨?_, ?_, ?_, trivial⟩ ?_
          · omega
          · exact ms173_
          · cases hq_ : p_i2 b_ n_ A1_ N1_ M_ c1_ p1_ with
            | inl e_ => left; have z_ := e173_.1; rw [hq_] at z_; exact ⟨e_, by rw [hX1_]; exact dl_w k125_ hq_, z_⟩
            | inr r_ => right; have z_ := e173_.1; rw [hq_] at z_; have y_ := e173_.2 r_ hq_; have w_ := i2_ok hn1_ a1_ le1_.1 hc1_ hq_; exact ⟨k2M, m15_, md173_, f2_, r_.1, N1_, mc1_, r_.2.1, r_.2.2, by rw [hX1_]; exact dl_r hq_, by omega, z_, y_.1, y_.2.1, y_.2.2.1, rn173_, tk173_, y_.2.2.2, fun m_ hm_ => bdy_fr (bd1_ m_ hm_) F173_ rfl⟩
          · cases hq_ : p_i2 b_ n_ A1_ N1_ M_ c1_ p1_ with | inl e_ => (have z_ := e173_.1; rw [hq_] at z_; have z2_ := rms_0 (k_ := 0) (Or.inl (show _ ≠ 0 by rw [z_.1]; exact z_.2.2)); omega) | inr r_ => (have z_ := e173_.1; rw [hq_] at z_; have w_ := i2_ok hn1_ a1_ le1_.1 hc1_ hq_; have z2_ := rms_x (k_ := 0) t173_ z_ (by decide); omega)
set_option maxHeartbeats 2000000 in
set_option maxRecDepth 20000 in
theorem vc_339 {sc_ : Nat × (Nat → Int)} (b_ : Nat → Int) (n_ : Nat) (T_ : Nat) (X_ : pE pD) (A_ : pA) (N_ : Nat → Nat) (M_ : Nat) (mc : Nat → Nat) (c_ : List Int) (q_ : Nat) (f_ : Nat) (S0_ : sm_S) (hI_ : gi S0_) (ht_ : rtab b_ n_ T_ S0_) (hx_ : rg b_ n_ T_ (.inr q_) S0_) (hT_ : rT b_ n_ T_ A_ N_ M_ S0_) (hmo_ : (S0_.1 13 0 27) = 0) (hc_ : c_.length ≤ 3 * q_) (hX_ : X_ = (pb (p_bm b_ n_ A_ N_ M_ q_) fun x_ => p_dl b_ n_ f_ x_.1 x_.2.1 M_ mc c_ x_.2.2)) (hf_ : n_ < q_ + f_) : sm_T (mt_P sc_) 10 339 (0, [some (.inr (.inr (some (13, 0)))), none, none], [], S0_) (fun ro9_ => ∃ u_ S1_, ro9_ = (.inl u_, S1_, 0) ∧ vq_339 b_ n_ T_ X_ A_ N_ M_ mc c_ q_ f_ S0_ u_ S1_) := by
  have hF_ : ai_fr (sx_W vw_339) S0_ S0_ := ai_fr_rf
  have le0_ := rg_le ht_ hx_
  have hn1_ := ht_.1
  have hM16_ := hT_.2.1
  refine sm_T_go 2 (c1 := (2, [some (.inr (.inr (some (13, 0)))), none, none], [.inl 1, .inr (.inr (some (13, 0)))], S0_)) rfl ?_
  refine sm_T_cal (d1 := 0) (Q1 := vq_296 1 b_ n_ T_ (.inr q_) S0_) rfl rfl (by decide) (vc_296 1 b_ n_ T_ (.inr q_) S0_ hI_ (by exact ht_) (by exact hx_) (by decide)) (fun u_ Sx1_ px4_ => ?_)
  obtain ⟨rfl, vx6_, rfl, px4_⟩ := px4_
  have e2_ := px4_.2 q_ rfl
  have r2_ := px4_.1
  obtain ⟨i0_, hi01_, hi02_⟩ := id hx_.2
  have ra0_ := rp_at ht_ hi02_
  have rk0_ := r_st_3 (lx_kd_r hi02_.2.2.1)
  refine sm_T_b0 (a := 1) (z := 12) rfl (fun cx7_ => ?_) (fun cx7_ => ?_)
  · have cx7_ : vx6_ ≠ 0 := of_decide_eq_true cx7_
    have k3_ : lx_kd b_ n_ q_ = 3 := by have := e2_.mp (by omega); omega
    have nd3_ : p_nd b_ n_ 3 q_ = p_ad b_ n_ q_ := if_pos k3_
    obtain ⟨x7_, hx7_, hx7b⟩ : ∃ x7_ : pE Nat, rg b_ n_ T_ x7_ _ ∧ x7_ = .inr q_ := ⟨_, hx_, rfl⟩
    have t7_ := ht_
    have T7_ := hT_
    refine sm_T_go 1 (c1 := (18, [some (.inr (.inr (some (13, 0)))), none, none], [.inr (.inr (some (13, 0)))], S0_)) rfl ?_
    refine sm_T_cal (d1 := 2) (Q1 := vq_297 b_ n_ T_ x7_ S0_) rfl rfl (by decide) (vc_297 b_ n_ T_ x7_ S0_ hI_ (by exact t7_) (by exact hx7_) (by (intro z_ e_; rw [hx7b] at e_; first | (cases e_; done) | (cases e_; rw [k3_]; decide)))) (fun u_ Sx8_ px11_ => ?_)
    obtain ⟨rfl, hIx9_, hFx10_, px11_⟩ := px11_
    have hFx12_ : ai_fr (sx_W vw_339) S0_ Sx8_ := ai_fr_tr hF_ (fr_le hFx10_ rfl)
    have z18_ := px11_.1
    rw [hx7b] at z18_
    have g18_ : rg b_ n_ T_ (p_nd b_ n_ 3 q_) Sx8_ := by rw [nd3_]; exact z18_
    have t18_ := rtab_fr t7_ hFx10_ rfl rfl rfl rfl rfl
    have T18_ := rT_fr T7_ hFx10_ rfl rfl rfl rfl rfl rfl rfl rfl rfl rfl rfl rfl rfl
    refine sm_T_go 2 (c1 := (23, [some (.inr (.inr (some (13, 0)))), none, none], [.inl 1, .inr (.inr (some (13, 0)))], Sx8_)) rfl ?_
    refine sm_T_cal (d1 := 1) (Q1 := vq_299 1 b_ n_ T_ (p_nd b_ n_ 3 q_) Sx8_) rfl rfl (by decide) (vc_299 1 b_ n_ T_ (p_nd b_ n_ 3 q_) Sx8_ hIx9_ (by exact t18_) (by exact g18_) (by decide)) (fun u_ Sx13_ px16_ => ?_)
    obtain ⟨vx18_, rfl, hIx14_, hFx15_, px16_⟩ := px16_
    have hFx17_ : ai_fr (sx_W vw_339) S0_ Sx13_ := ai_fr_tr hFx12_ (fr_le hFx15_ rfl)
    have a23_ := px16_.1
    have g23_ := px16_.2
    have t23_ := rtab_fr t18_ hFx15_ rfl rfl rfl rfl rfl
    have at23_ := hFx15_.1 13 0 9 rfl
    have v23b : 0 ≤ vx18_ ∧ vx18_ ≤ 1280 := by rw [a23_, ← at23_]; exact hIx14_.1 13 0 9 rfl
    have rt23_ : ∀ r_, (pb (p_nd b_ n_ 3 q_) (p_du b_ n_ 1)) = .inr r_ → rtk b_ n_ T_ vx18_ r_ ∧ Sx13_.2.2.1 120 0 vx18_.toNat = (r_ : Int) ∧ Sx13_.2.2.1 119 0 vx18_.toNat ≠ 4 := by intro r_ hr_; rw [hr_] at g23_; obtain ⟨i3_, q1_, q2_⟩ := g23_.2; have q3_ : lx_kd b_ n_ r_ = 1 := (by obtain ⟨r2_, h3_, h4_⟩ := pb_inr hr_; unfold p_du at h4_; split at h4_; (rename_i gg_; cases h4_; exact gg_); cases h4_); have q4_ := rp_at t23_ q2_; rw [show vx18_ = (i3_ : Int) by omega, Int.toNat_natCast]; exact ⟨(rp_rtk t23_ q2_ q3_).1, q4_.2.1, by rw [q4_.1, q3_]; decide⟩
    have T23_ := rT_fr T18_ hFx15_ rfl rfl rfl rfl rfl rfl rfl rfl rfl rfl rfl rfl rfl
    refine sm_T_go 2 (c1 := (28, [some (.inr (.inr (some (13, 0)))), some (.inl vx18_), none], [.inr (.inr (some (13, 0)))], Sx13_)) rfl ?_
    refine sm_T_cal (d1 := 0) (Q1 := vq_292  Sx13_) rfl rfl (by decide) (vc_292  Sx13_ hIx14_ ) (fun u_ Sx19_ px22_ => ?_)
    obtain ⟨rfl, vx24_, rfl, px22_⟩ := px22_
    have e28_ := px22_
    refine sm_T_b0 (a := 0) (z := 19) rfl (fun cx25_ => ?_) (fun cx25_ => ?_)
    · have cx25_ : vx24_ = 0 := of_decide_eq_true cx25_
      have hz_ := wr_if e28_ (by omega)
      obtain ⟨e5_, he5_⟩ := rg_w g23_ hz_
      have b3w : (z_b3 b_ n_ N_ M_ q_) = .inl e5_ := by unfold z_b3; rw [he5_]; rfl
      have g3w := g23_
      rw [he5_] at g3w
      refine sm_T_go 0 (c1 := (50, [some (.inr (.inr (some (13, 0)))), some (.inl vx18_), none], [], Sx13_)) rfl ?_
      refine (vl_339 b_ n_ T_ X_ A_ N_ M_ mc c_ q_ f_ S0_ ht_ hx_ hT_ hmo_ hc_ hX_ hf_ _).1 vx18_ Sx13_ hIx14_ hFx17_ ⟨?_, ?_, ?_, ?_, trivial⟩ (Nat.lt_succ_self _)
      · first | exact g47_ | (rw [b3w]; exact g3w) | (rw [b3c, if_pos (by omega)]; exact g3r)
      · exact fun r_ hr_ => (rt23_ r_ hr_).1
      · omega
      · first | exact T47_ | exact T23_
    · have cx25_ : ¬ (vx24_ = 0) := of_decide_eq_false cx25_
      have hz_ := rt_if e28_ (by omega)
      obtain ⟨r2_, i2_, hr2_, hi21_, hi22_⟩ := rg_r g23_ hz_
      have rt2_ := rt23_ r2_ hr2_
      have g3r := g23_
      rw [hr2_] at g3r
      have b3c : (z_b3 b_ n_ N_ M_ q_) = if p_fm b_ n_ N_ M_ r2_ = -1 then .inr r2_ else .inl (10, r2_) := by unfold z_b3; rw [hr2_]; rfl
      refine sm_T_go 2 (c1 := (36, [some (.inr (.inr (some (13, 0)))), some (.inl vx18_), none], [.inl vx18_, .inr (.inr (some (13, 0)))], Sx13_)) rfl ?_
      refine sm_T_cal (d1 := 1) (Q1 := vq_303 vx18_ b_ n_ T_ N_ M_ r2_ Sx13_) rfl rfl (by decide) (vc_303 vx18_ b_ n_ T_ N_ M_ r2_ Sx13_ hIx14_ (by exact t23_) (by exact T23_.1) (by exact T23_.2.2.2.2.2.1) (by exact rt2_.1)) (fun u_ Sx26_ px29_ => ?_)
      obtain ⟨rfl, vx31_, rfl, px29_⟩ := px29_
      have e36_ := px29_
      refine sm_T_go 1 (c1 := (40, [some (.inr (.inr (some (13, 0)))), some (.inl vx18_), none], [.inl (-1), .inl vx31_], Sx13_)) rfl ?_
      refine sm_T_br (a := 0) (z := 10) rfl (fun cx32_ => ?_) (fun cx32_ => ?_)
      · have cx32_ : vx31_ = (-1) := of_decide_eq_true cx32_
        refine sm_T_go 0 (c1 := (50, [some (.inr (.inr (some (13, 0)))), some (.inl vx18_), none], [], Sx13_)) rfl ?_
        refine (vl_339 b_ n_ T_ X_ A_ N_ M_ mc c_ q_ f_ S0_ ht_ hx_ hT_ hmo_ hc_ hX_ hf_ _).1 vx18_ Sx13_ hIx14_ hFx17_ ⟨?_, ?_, ?_, ?_, trivial⟩ (Nat.lt_succ_self _)
        · first | exact g47_ | (rw [b3w]; exact g3w) | (rw [b3c, if_pos (by omega)]; exact g3r)
        · exact fun r_ hr_ => (rt23_ r_ hr_).1
        · omega
        · first | exact T47_ | exact T23_
      · have cx32_ : ¬ (vx31_ = (-1)) := of_decide_eq_false cx32_
        refine sm_T_go 3 (c1 := (47, [some (.inr (.inr (some (13, 0)))), some (.inl vx18_), none], [.inl vx18_, .inl 10, .inr (.inr (some (13, 0)))], Sx13_)) rfl ?_
        refine sm_T_cal (d1 := 0) (Q1 := vq_293 10 vx18_ Sx13_) rfl rfl (by decide) (vc_293 10 vx18_ Sx13_ hIx14_ (by decide) (by omega)) (fun u_ Sx33_ px36_ => ?_)
        obtain ⟨rfl, hIx34_, hFx35_, px36_⟩ := px36_
        have hFx37_ : ai_fr (sx_W vw_339) S0_ Sx33_ := ai_fr_tr hFx17_ (fr_le hFx35_ rfl)
        have g47_ : rg b_ n_ T_ (z_b3 b_ n_ N_ M_ q_) Sx33_ := by rw [b3c, if_neg (by omega)]; rcases px36_ with z_ | z_; (exact absurd hz_ z_.1); (exact ⟨z_.2.1.trans (if_neg rt2_.2.2), z_.2.2.trans rt2_.2.1, by show (10 : Int) ≠ 0; decide⟩)
        have T47_ := rT_fr T23_ hFx35_ rfl rfl rfl rfl rfl rfl rfl rfl rfl rfl rfl rfl rfl
        refine sm_T_go 0 (c1 := (50, [some (.inr (.inr (some (13, 0)))), some (.inl vx18_), none], [], Sx33_)) rfl ?_
        refine (vl_339 b_ n_ T_ X_ A_ N_ M_ mc c_ q_ f_ S0_ ht_ hx_ hT_ hmo_ hc_ hX_ hf_ _).1 vx18_ Sx33_ hIx34_ hFx37_ ⟨?_, ?_, ?_, ?_, trivial⟩ (Nat.lt_succ_self _)
        · first | exact g47_ | (rw [b3w]; exact g3w) | (rw [b3c, if_pos (by omega)]; exact g3r)
        · exact fun r_ hr_ => (rt23_ r_ hr_).1
        · omega
        · first | exact T47_ | exact T23_
  · have cx7_ : ¬ (vx6_ ≠ 0) := of_decide_eq_false cx7_
    have k3_ : lx_kd b_ n_ q_ ≠ 3 := fun z_ => by have := e2_.mpr (by omega); omega
    have nd3_ : p_nd b_ n_ 3 q_ = .inl (2, q_) := if_neg k3_
    have bx38_ : 0 ≤ S0_.1 13 0 9 ∧ S0_.1 13 0 9 ≤ 1280 := hI_.1 13 0 9 rfl
    refine sm_T_go 4 (c1 := (14, [some (.inr (.inr (some (13, 0)))), none, none], [.inl (S0_.1 13 0 9), .inl 2, .inr (.inr (some (13, 0)))], S0_)) rfl ?_
    refine sm_T_cal (d1 := 0) (Q1 := vq_293 2 (S0_.1 13 0 9) S0_) rfl rfl (by decide) (vc_293 2 (S0_.1 13 0 9) S0_ hI_ (by decide) (by omega)) (fun u_ Sx39_ px42_ => ?_)
    obtain ⟨rfl, hIx40_, hFx41_, px42_⟩ := px42_
    have hFx43_ : ai_fr (sx_W vw_339) S0_ Sx39_ := ai_fr_tr hF_ (fr_le hFx41_ rfl)
    have ex44_ : Sx39_.1 13 0 9 = S0_.1 13 0 9 := hFx41_.1 13 0 9 rfl
    have g14_ : rg b_ n_ T_ (.inl (2, q_)) Sx39_ := by rcases px42_ with z_ | z_; (exact absurd hx_.1 z_.1); (refine ⟨z_.2.1.trans (if_neg ?_), z_.2.2.trans ?_, by show (2 : Int) ≠ 0; decide⟩; (rw [hi01_, Int.toNat_natCast, ra0_.1]; exact rk0_.2.2.2.2.2); (rw [hi01_, Int.toNat_natCast]; exact ra0_.2.1))
    obtain ⟨x7_, hx7_, hx7b⟩ : ∃ x7_ : pE Nat, rg b_ n_ T_ x7_ Sx39_ ∧ x7_ = .inl (2, q_) := ⟨_, g14_, rfl⟩
    have t7_ := rtab_fr ht_ hFx41_ rfl rfl rfl rfl rfl
    have T7_ := rT_fr hT_ hFx41_ rfl rfl rfl rfl rfl rfl rfl rfl rfl rfl rfl rfl rfl
    refine sm_T_go 1 (c1 := (18, [some (.inr (.inr (some (13, 0)))), none, none], [.inr (.inr (some (13, 0)))], Sx39_)) rfl ?_
    refine sm_T_cal (d1 := 2) (Q1 := vq_297 b_ n_ T_ x7_ Sx39_) rfl rfl (by decide) (vc_297 b_ n_ T_ x7_ Sx39_ hIx40_ (by exact t7_) (by exact hx7_) (by (intro z_ e_; rw [hx7b] at e_; first | (cases e_; done) | (cases e_; rw [k3_]; decide)))) (fun u_ Sx45_ px48_ => ?_)
    obtain ⟨rfl, hIx46_, hFx47_, px48_⟩ := px48_
    have hFx49_ : ai_fr (sx_W vw_339) S0_ Sx45_ := ai_fr_tr hFx43_ (fr_le hFx47_ rfl)
    have z18_ := px48_.1
    rw [hx7b] at z18_
    have g18_ : rg b_ n_ T_ (p_nd b_ n_ 3 q_) Sx45_ := by rw [nd3_]; exact z18_
    have t18_ := rtab_fr t7_ hFx47_ rfl rfl rfl rfl rfl
    have T18_ := rT_fr T7_ hFx47_ rfl rfl rfl rfl rfl rfl rfl rfl rfl rfl rfl rfl rfl
    refine sm_T_go 2 (c1 := (23, [some (.inr (.inr (some (13, 0)))), none, none], [.inl 1, .inr (.inr (some (13, 0)))], Sx45_)) rfl ?_
    refine sm_T_cal (d1 := 1) (Q1 := vq_299 1 b_ n_ T_ (p_nd b_ n_ 3 q_) Sx45_) rfl rfl (by decide) (vc_299 1 b_ n_ T_ (p_nd b_ n_ 3 q_) Sx45_ hIx46_ (by exact t18_) (by exact g18_) (by decide)) (fun u_ Sx50_ px53_ => ?_)
    obtain ⟨vx55_, rfl, hIx51_, hFx52_, px53_⟩ := px53_
    have hFx54_ : ai_fr (sx_W vw_339) S0_ Sx50_ := ai_fr_tr hFx49_ (fr_le hFx52_ rfl)
    have a23_ := px53_.1
    have g23_ := px53_.2
    have t23_ := rtab_fr t18_ hFx52_ rfl rfl rfl rfl rfl
    have at23_ := hFx52_.1 13 0 9 rfl
    have v23b : 0 ≤ vx55_ ∧ vx55_ ≤ 1280 := by rw [a23_, ← at23_]; exact hIx51_.1 13 0 9 rfl
    have rt23_ : ∀ r_, (pb (p_nd b_ n_ 3 q_) (p_du b_ n_ 1)) = .inr r_ → rtk b_ n_ T_ vx55_ r_ ∧ Sx50_.2.2.1 120 0 vx55_.toNat = (r_ : Int) ∧ Sx50_.2.2.1 119 0 vx55_.toNat ≠ 4 := by intro r_ hr_; rw [hr_] at g23_; obtain ⟨i3_, q1_, q2_⟩ := g23_.2; have q3_ : lx_kd b_ n_ r_ = 1 := (by obtain ⟨r2_, h3_, h4_⟩ := pb_inr hr_; unfold p_du at h4_; split at h4_; (rename_i gg_; cases h4_; exact gg_); cases h4_); have q4_ := rp_at t23_ q2_; rw [show vx55_ = (i3_ : Int) by omega, Int.toNat_natCast]; exact ⟨(rp_rtk t23_ q2_ q3_).1, q4_.2.1, by rw [q4_.1, q3_]; decide⟩
    have T23_ := rT_fr T18_ hFx52_ rfl rfl rfl rfl rfl rfl rfl rfl rfl rfl rfl rfl rfl
    refine sm_T_go 2 (c1 := (28, [some (.inr (.inr (some (13, 0)))), some (.inl vx55_), none], [.inr (.inr (some (13, 0)))], Sx50_)) rfl ?_
    refine sm_T_cal (d1 := 0) (Q1 := vq_292  Sx50_) rfl rfl (by decide) (vc_292  Sx50_ hIx51_ ) (fun u_ Sx56_ px59_ => ?_)
    obtain ⟨rfl, vx61_, rfl, px59_⟩ := px59_
    have e28_ := px59_
    refine sm_T_b0 (a := 0) (z := 19) rfl (fun cx62_ => ?_) (fun cx62_ => ?_)
    · have cx62_ : vx61_ = 0 := of_decide_eq_true cx62_
      have hz_ := wr_if e28_ (by omega)
      obtain ⟨e5_, he5_⟩ := rg_w g23_ hz_
      have b3w : (z_b3 b_ n_ N_ M_ q_) = .inl e5_ := by unfold z_b3; rw [he5_]; rfl
      have g3w := g23_
      rw [he5_] at g3w
      refine sm_T_go 0 (c1 := (50, [some (.inr (.inr (some (13, 0)))), some (.inl vx55_), none], [], Sx50_)) rfl ?_
      refine (vl_339 b_ n_ T_ X_ A_ N_ M_ mc c_ q_ f_ S0_ ht_ hx_ hT_ hmo_ hc_ hX_ hf_ _).1 vx55_ Sx50_ hIx51_ hFx54_ ⟨?_, ?_, ?_, ?_, trivial⟩ (Nat.lt_succ_self _)
      · first | exact g47_ | (rw [b3w]; exact g3w) | (rw [b3c, if_pos (by omega)]; exact g3r)
      · exact fun r_ hr_ => (rt23_ r_ hr_).1
      · omega
      · first | exact T47_ | exact T23_
    · have cx62_ : ¬ (vx61_ = 0) := of_decide_eq_false cx62_
      have hz_ := rt_if e28_ (by omega)
      obtain ⟨r2_, i2_, hr2_, hi21_, hi22_⟩ := rg_r g23_ hz_
      have rt2_ := rt23_ r2_ hr2_
      have g3r := g23_
      rw [hr2_] at g3r
      have b3c : (z_b3 b_ n_ N_ M_ q_) = if p_fm b_ n_ N_ M_ r2_ = -1 then .inr r2_ else .inl (10, r2_) := by unfold z_b3; rw [hr2_]; rfl
      refine sm_T_go 2 (c1 := (36, [some (.inr (.inr (some (13, 0)))), some (.inl vx55_), none], [.inl vx55_, .inr (.inr (some (13, 0)))], Sx50_)) rfl ?_
      refine sm_T_cal (d1 := 1) (Q1 := vq_303 vx55_ b_ n_ T_ N_ M_ r2_ Sx50_) rfl rfl (by decide) (vc_303 vx55_ b_ n_ T_ N_ M_ r2_ Sx50_ hIx51_ (by exact t23_) (by exact T23_.1) (by exact T23_.2.2.2.2.2.1) (by exact rt2_.1)) (fun u_ Sx63_ px66_ => ?_)
      obtain ⟨rfl, vx68_, rfl, px66_⟩ := px66_
      have e36_ := px66_
      refine sm_T_go 1 (c1 := (40, [some (.inr (.inr (some (13, 0)))), some (.inl vx55_), none], [.inl (-1), .inl vx68_], Sx50_)) rfl ?_
      refine sm_T_br (a := 0) (z := 10) rfl (fun cx69_ => ?_) (fun cx69_ => ?_)
      · have cx69_ : vx68_ = (-1) := of_decide_eq_true cx69_
        refine sm_T_go 0 (c1 := (50, [some (.inr (.inr (some (13, 0)))), some (.inl vx55_), none], [], Sx50_)) rfl ?_
        refine (vl_339 b_ n_ T_ X_ A_ N_ M_ mc c_ q_ f_ S0_ ht_ hx_ hT_ hmo_ hc_ hX_ hf_ _).1 vx55_ Sx50_ hIx51_ hFx54_ ⟨?_, ?_, ?_, ?_, trivial⟩ (Nat.lt_succ_self _)
        · first | exact g47_ | (rw [b3w]; exact g3w) | (rw [b3c, if_pos (by omega)]; exact g3r)
        · exact fun r_ hr_ => (rt23_ r_ hr_).1
        · omega
        · first | exact T47_ | exact T23_
      · have cx69_ : ¬ (vx68_ = (-1)) := of_decide_eq_false cx69_
        refine sm_T_go 3 (c1 := (47, [some (.inr (.inr (some (13, 0)))), some (.inl vx55_), none], [.inl vx55_, .inl 10, .inr (.inr (some (13, 0)))], Sx50_)) rfl ?_
        refine sm_T_cal (d1 := 0) (Q1 := vq_293 10 vx55_ Sx50_) rfl rfl (by decide) (vc_293 10 vx55_ Sx50_ hIx51_ (by decide) (by omega)) (fun u_ Sx70_ px73_ => ?_)
        obtain ⟨rfl, hIx71_, hFx72_, px73_⟩ := px73_
        have hFx74_ : ai_fr (sx_W vw_339) S0_ Sx70_ := ai_fr_tr hFx54_ (fr_le hFx72_ rfl)
        have g47_ : rg b_ n_ T_ (z_b3 b_ n_ N_ M_ q_) Sx70_ := by rw [b3c, if_neg (by omega)]; rcases px73_ with z_ | z_; (exact absurd hz_ z_.1); (exact ⟨z_.2.1.trans (if_neg rt2_.2.2), z_.2.2.trans rt2_.2.1, by show (10 : Int) ≠ 0; decide⟩)
        have T47_ := rT_fr T23_ hFx72_ rfl rfl rfl rfl rfl rfl rfl rfl rfl rfl rfl rfl rfl
        refine sm_T_go 0 (c1 := (50, [some (.inr (.inr (some (13, 0)))), some (.inl vx55_), none], [], Sx70_)) rfl ?_
        refine (vl_339 b_ n_ T_ X_ A_ N_ M_ mc c_ q_ f_ S0_ ht_ hx_ hT_ hmo_ hc_ hX_ hf_ _).1 vx55_ Sx70_ hIx71_ hFx74_ ⟨?_, ?_, ?_, ?_, trivial⟩ (Nat.lt_succ_self _)
        · first | exact g47_ | (rw [b3w]; exact g3w) | (rw [b3c, if_pos (by omega)]; exact g3r)
        · exact fun r_ hr_ => (rt23_ r_ hr_).1
        · omega
        · first | exact T47_ | exact T23_
end
/-! 99.yra -/
section
/-! the reference: a design told; written by wip/p55/gen/vg -/

/-! a_ design told -/
theorem rd_0 {b_ : Nat → Int} {n_ T_ : Nat} {S_ : sm_S} (ht_ : rtab b_ n_ T_ S_) : (S_.2.2.1 119 0 0 = 4 → lx_kd b_ n_ (lx_k b_ n_ 0) = -1 ∧ S_.2.2.1 120 0 0 = (lx_k b_ n_ 0 : Nat)) ∧ (S_.2.2.1 119 0 0 ≠ 4 → rp b_ n_ T_ 0 (lx_k b_ n_ 0)) := by
  obtain ⟨h1_, h2_, h3_, h4_, h5_, h6_, h7_, h8_⟩ := ht_
  by_cases g_ : T_ = 0
  · subst g_
    have e_ : lxp b_ n_ 0 = n_ := by
      rcases h7_ with z_ | z_
      · exact z_.1
      · exact absurd z_.1 (by omega)
    have e2_ : lx_k b_ n_ 0 = n_ := e_
    refine ⟨fun z_ => by rw [h4_] at z_; exact absurd z_ (by decide), fun _ => ⟨Nat.le_refl _, rfl, ?_, fun _ => e_⟩⟩
    rw [e2_, lx_kd_n]
    decide
  · have k_ := h3_.1 0 (by omega)
    have k1_ : S_.2.2.1 120 0 0 = (lx_k b_ n_ 0 : Nat) := k_.2.1
    have k2_ : S_.2.2.1 119 0 0 = r_so (lx_kd b_ n_ (lx_k b_ n_ 0)) := k_.2.2.1
    refine ⟨fun z_ => ⟨?_, k1_⟩, fun z_ => ⟨Nat.zero_le _, rfl, ?_, fun z_ => absurd z_.symm g_⟩⟩
    · rw [z_] at k2_
      unfold r_so at k2_
      split at k2_
      · assumption
      · exfalso
        split at k2_
        · omega
        · split at k2_
          · omega
          · split at k2_ <;> omega
    · intro y_
      apply z_
      rw [k2_, y_]
      rfl
def r_mm (S_ : sm_S) : Nat := if S_.1 13 0 10 ≠ 0 then 0 else (20 - S_.1 13 0 12).toNat
/-- the_ limits of_ a_ design -/
def p_lm (is_ ib_ rb ob_ : Int) : Int := if 200 < is_ then 20 else if 12 < ib_ + rb ∨ 6 < rb then 21 else if ob_ = 0 ∨ 16 < ob_ then 22 else 0
def A_0 : pA := (fun _ => 0, fun _ => 0, fun _ => 0, fun _ => 0, fun _ => 0)
def rI (b_ : Nat → Int) (n_ T_ : Nat) (X_ : pE pD) (S_ : sm_S) : Prop := ∃ q_, rg b_ n_ T_ (.inr q_) S_ ∧ S_.1 13 0 12 = 0 ∧ X_ = pb (p_bm b_ n_ A_0 (fun _ => 0) 0 q_) fun x_ => p_dl b_ n_ (n_ + 1) x_.1 x_.2.1 0 (fun _ => 0) [] x_.2.2
/-- what is_ there when a_ design is_ told -/
def rE (b_ : Nat → Int) (n_ T_ : Nat) (X_ : pE pD) (S_ : sm_S) : Prop := ∃ r_, X_ = .inr r_ ∧ rT b_ n_ T_ r_.1 r_.2.1 r_.2.2.1 S_ ∧ 1 ≤ r_.2.2.1 ∧ S_.1 13 0 10 = p_lm (S_.2.2.1 135 0 (r_.2.2.1 - 1)) (S_.2.2.1 132 0 (r_.2.2.1 - 1)) (S_.2.2.1 134 0 (r_.2.2.1 - 1)) (S_.2.2.1 133 0 (r_.2.2.1 - 1)) ∧ (S_.1 13 0 10 ≠ 0 → S_.1 13 0 11 = (r_.2.1 (r_.2.2.1 - 1) : Int))
theorem fb_r {S_ S'_ : sm_S} {f_ pl_ : Int} (h_ : (S_.1 13 0 10 ≠ 0 ∧ S'_.1 13 0 10 = S_.1 13 0 10 ∧ S'_.1 13 0 11 = S_.1 13 0 11) ∨ (S_.1 13 0 10 = 0 ∧ S'_.1 13 0 10 = f_ ∧ S'_.1 13 0 11 = pl_)) (h0_ : S_.1 13 0 10 = 0) : S'_.1 13 0 10 = f_ ∧ S'_.1 13 0 11 = pl_ := by
  rcases h_ with z_ | z_
  · exact absurd h0_ z_.1
  · exact z_.2
theorem rE_f {b_ : Nat → Int} {n_ T_ M_ : Nat} {X_ : pE pD} {A_ : pA} {N_ mc : Nat → Nat} {c_ : List Int} {S_ : sm_S} (hX_ : X_ = .inr (A_, N_, M_, mc, c_)) (hT_ : rT b_ n_ T_ A_ N_ M_ S_) (hM_ : 1 ≤ M_) (h_ : S_.1 13 0 10 = p_lm (S_.2.2.1 135 0 (M_ - 1)) (S_.2.2.1 132 0 (M_ - 1)) (S_.2.2.1 134 0 (M_ - 1)) (S_.2.2.1 133 0 (M_ - 1))) (h2_ : S_.1 13 0 10 ≠ 0 → S_.1 13 0 11 = (N_ (M_ - 1) : Int)) : rE b_ n_ T_ X_ S_ := ⟨_, hX_, hT_, hM_, h_, h2_⟩
theorem rT_0 {b_ : Nat → Int} {n_ T_ : Nat} {N_ : Nat → Nat} {S_ : sm_S} (h_ : S_.1 13 0 12 = 0) : rT b_ n_ T_ A_0 N_ 0 S_ := ⟨h_, by omega, fun m_ hm_ => absurd hm_ (Nat.not_lt_zero _), fun m_ hm_ => absurd hm_ (Nat.not_lt_zero _), fun m_ hm_ => absurd hm_ (Nat.not_lt_zero _), ⟨by omega, fun m_ hm_ => absurd hm_ (Nat.not_lt_zero _)⟩, fun m_ hm_ => absurd hm_ (Nat.not_lt_zero _)⟩
/-! M_.tellDesign -/
def vw_340 : sx_Wl := ([(13, 3), (13, 9), (13, 10), (13, 11), (13, 12), (13, 25), (13, 26), (13, 27), (13, 28), (13, 32), (13, 33), (13, 34)], [119, 120, 121, 122, 123, 124, 125, 126, 127, 128, 129, 130, 131, 132, 133, 134, 135, 136, 137, 138, 139], [])
def vq_340 (b_ : Nat → Int) (n_ : Nat) (S0_ : sm_S) (u_ : Option sm_V) (S1_ : sm_S) : Prop := u_ = none ∧ gi S1_ ∧ ai_fr (sx_W vw_340) S0_ S1_ ∧ (∃ T_, rtab b_ n_ T_ S1_ ∧ (rX b_ n_ T_ (p_de b_ n_) S1_ ∨ rE b_ n_ T_ (p_de b_ n_) S1_))
set_option maxHeartbeats 2000000 in
theorem vl_340 {sc_ : Nat × (Nat → Int)} (b_ : Nat → Int) (n_ : Nat) (S0_ : sm_S) (hb_ : S0_.2.2.1 118 0 = b_) (hn_ : (S0_.1 13 0 2) = (n_ : Int)) (hn1_ : n_ ≤ 1280) : ∀ nn_ : Nat, (∀  (S_ : sm_S), gi S_ → ai_fr (sx_W vw_340) S0_ S_ → ((∃ T_, rtab b_ n_ T_ S_ ∧ (rX b_ n_ T_ (p_de b_ n_) S_ ∨ rN b_ n_ T_ (p_de b_ n_) S_ ∨ rI b_ n_ T_ (p_de b_ n_) S_)) ∧ ((S_.1 13 0 27) = 0) ∧ True) → (r_mm S_) < nn_ → sm_T (mt_P sc_) 11 340 (33, [some (.inr (.inr (some (13, 0)))), none, none], [], S_) (fun ro9_ => ∃ u_ S1_, ro9_ = (.inl u_, S1_, 0) ∧ vq_340 b_ n_ S0_ u_ S1_)) := by
  intro nn_
  induction nn_ with
  | zero => exact fun  _ _ _ _ h_ => absurd h_ (Nat.not_lt_zero _)
  | succ nn_ ih_ =>
    rintro  S_ hI_ hF_ ⟨h1_, mo33_, -⟩ hm_
    obtain ⟨T_, t33_, h1_⟩ := h1_
    refine sm_T_go 1 (c1 := (34, [some (.inr (.inr (some (13, 0)))), none, none], [.inr (.inr (some (13, 0)))], S_)) rfl ?_
    refine sm_T_cal (d1 := 0) (Q1 := vq_292  S_) rfl rfl (by decide) (vc_292  S_ hI_ ) (fun u_ Sx1_ px4_ => ?_)
    obtain ⟨rfl, vx6_, rfl, px4_⟩ := px4_
    have e34_ := px4_
    refine sm_T_b0 (a := 0) (z := 30) rfl (fun cx7_ => ?_) (fun cx7_ => ?_)
    · have cx7_ : vx6_ = 0 := of_decide_eq_true cx7_
      have hz_ := wr_if e34_ (by omega)
      refine sm_T_go 1 (c1 := (68, [some (.inr (.inr (some (13, 0)))), none, none], [.inr (.inr (some (13, 0)))], S_)) rfl ?_
      refine sm_T_cal (d1 := 0) (Q1 := vq_292  S_) rfl rfl (by decide) (vc_292  S_ hI_ ) (fun u_ Sx8_ px11_ => ?_)
      obtain ⟨rfl, vx13_, rfl, px11_⟩ := px11_
      have e68_ := px11_
      refine sm_T_b0 (a := 1) (z := 4) rfl (fun cx14_ => ?_) (fun cx14_ => ?_)
      · have cx14_ : vx13_ ≠ 0 := of_decide_eq_true cx14_
        have hz7_ := rt_if e68_ (by omega)
        have dummy7 := hz7_
        have bx15_ : 0 ≤ S_.1 13 0 12 ∧ S_.1 13 0 12 ≤ 16 := hI_.1 13 0 12 rfl
        refine sm_T_go 3 (c1 := (80, [some (.inr (.inr (some (13, 0)))), none, none], [.inl 1, .inl (S_.1 13 0 12)], S_)) rfl ?_
        refine sm_T_bin (w := (S_.1 13 0 12) - 1) rfl (bi_sub (by omega) (by omega) (by omega)) ?_
        refine sm_T_go 4 (c1 := (87, [some (.inr (.inr (some (13, 0)))), some (.inl ((S_.1 13 0 12) - 1)), none], [.inl ((S_.1 13 0 12) - 1), .inr (.inr (some (135, 0)))], S_)) rfl ?_
        refine sm_T_iald (n := 16) rfl rfl (by omega) (by omega) ?_
        have bx16_ : 0 ≤ S_.2.2.1 135 0 ((S_.1 13 0 12) - 1).toNat ∧ S_.2.2.1 135 0 ((S_.1 13 0 12) - 1).toNat ≤ 1073741823 := hI_.2 135 0 _
        refine sm_T_go 1 (c1 := (91, [some (.inr (.inr (some (13, 0)))), some (.inl ((S_.1 13 0 12) - 1)), none], [.inl 200, .inl (S_.2.2.1 135 0 ((S_.1 13 0 12) - 1).toNat)], S_)) rfl ?_
        refine sm_T_br (a := 5) (z := 8) rfl (fun cx17_ => ?_) (fun cx17_ => ?_)
        · have cx17_ : (S_.2.2.1 135 0 ((S_.1 13 0 12) - 1).toNat) ≤ 200 := of_decide_eq_true cx17_
          refine sm_T_go 3 (c1 := (104, [some (.inr (.inr (some (13, 0)))), some (.inl ((S_.1 13 0 12) - 1)), none], [.inl ((S_.1 13 0 12) - 1), .inr (.inr (some (132, 0)))], S_)) rfl ?_
          refine sm_T_iald (n := 16) rfl rfl (by omega) (by omega) ?_
          have bx18_ : 0 ≤ S_.2.2.1 132 0 ((S_.1 13 0 12) - 1).toNat ∧ S_.2.2.1 132 0 ((S_.1 13 0 12) - 1).toNat ≤ 320 := hI_.2 132 0 _
          refine sm_T_go 3 (c1 := (110, [some (.inr (.inr (some (13, 0)))), some (.inl ((S_.1 13 0 12) - 1)), none], [.inl ((S_.1 13 0 12) - 1), .inr (.inr (some (134, 0))), .inl (S_.2.2.1 132 0 ((S_.1 13 0 12) - 1).toNat)], S_)) rfl ?_
          refine sm_T_iald (n := 16) rfl rfl (by omega) (by omega) ?_
          have bx19_ : 0 ≤ S_.2.2.1 134 0 ((S_.1 13 0 12) - 1).toNat ∧ S_.2.2.1 134 0 ((S_.1 13 0 12) - 1).toNat ≤ 1073741823 := hI_.2 134 0 _
          refine sm_T_bin (w := (S_.2.2.1 132 0 ((S_.1 13 0 12) - 1).toNat) + (S_.2.2.1 134 0 ((S_.1 13 0 12) - 1).toNat)) rfl (bi_add (by omega) (by omega) (by omega)) ?_
          refine sm_T_go 1 (c1 := (114, [some (.inr (.inr (some (13, 0)))), some (.inl ((S_.1 13 0 12) - 1)), none], [.inl 12, .inl ((S_.2.2.1 132 0 ((S_.1 13 0 12) - 1).toNat) + (S_.2.2.1 134 0 ((S_.1 13 0 12) - 1).toNat))], S_)) rfl ?_
          refine sm_T_br (a := 4) (z := 14) rfl (fun cx20_ => ?_) (fun cx20_ => ?_)
          · have cx20_ : 12 < (S_.2.2.1 132 0 ((S_.1 13 0 12) - 1).toNat) + (S_.2.2.1 134 0 ((S_.1 13 0 12) - 1).toNat) := of_decide_eq_true cx20_
            refine sm_T_go 10 (c1 := (171, [some (.inr (.inr (some (13, 0)))), some (.inl ((S_.1 13 0 12) - 1)), some (.inl 21)], [.inl ((S_.1 13 0 12) - 1), .inr (.inr (some (124, 0))), .inl 21, .inr (.inr (some (13, 0)))], S_)) rfl ?_
            refine sm_T_iald (n := 16) rfl rfl (by omega) (by omega) ?_
            have bx21_ : 0 ≤ S_.2.2.1 124 0 ((S_.1 13 0 12) - 1).toNat ∧ S_.2.2.1 124 0 ((S_.1 13 0 12) - 1).toNat ≤ 1280 := hI_.2 124 0 _
            refine sm_T_cal (d1 := 0) (Q1 := vq_294 21 (S_.2.2.1 124 0 ((S_.1 13 0 12) - 1).toNat) S_) rfl rfl (by decide) (vc_294 21 (S_.2.2.1 124 0 ((S_.1 13 0 12) - 1).toNat) S_ hI_ (by decide) (by omega)) (fun u_ Sx22_ px25_ => ?_)
            obtain ⟨rfl, hIx23_, hFx24_, px25_⟩ := px25_
            have hFx26_ : ai_fr (sx_W vw_340) S0_ Sx22_ := ai_fr_tr hF_ (fr_le hFx24_ rfl)
            have ex27_ : Sx22_.1 13 0 12 = S_.1 13 0 12 := hFx24_.1 13 0 12 rfl
            have t172_ := rtab_fr t33_ hFx24_ rfl rfl rfl rfl rfl
            first | (have T172_ := rT_fr T1_ hFx24_ rfl rfl rfl rfl rfl rfl rfl rfl rfl rfl rfl rfl rfl) | skip
            have e172_ := fb_r px25_ hz7_
            have a132_ := fr_arr (t := 132) (i := 0) hFx24_ rfl
            have a133_ := fr_arr (t := 133) (i := 0) hFx24_ rfl
            have a134_ := fr_arr (t := 134) (i := 0) hFx24_ rfl
            have a135_ := fr_arr (t := 135) (i := 0) hFx24_ rfl
            refine sm_T_rv rfl ⟨_, _, rfl, rfl, hIx23_, hFx26_, ?_⟩
            first | (exact absurd hz7_ hz_) | (refine ⟨T_, t172_, Or.inr (rE_f hX1_ T172_ hM1_ ?_ fun _ => ?_)⟩; (rw [a132_, a133_, a134_, a135_, e172_.1, ← mI_]; unfold p_lm; first | (rw [if_pos (by omega)]) | (rw [if_neg (by omega), if_pos (by omega)]) | (rw [if_neg (by omega), if_neg (by omega), if_pos (by omega)])); (rw [e172_.2, ← mI_]; exact pt1_.2)) | (refine ⟨T_, t33_, Or.inr (rE_f hX1_ T1_ hM1_ ?_ fun z_ => absurd hz_ z_)⟩; rw [hz_, ← mI_]; unfold p_lm; rw [if_neg (by omega), if_neg (by omega), if_neg (by omega)])
          · have cx20_ : ¬ (12 < (S_.2.2.1 132 0 ((S_.1 13 0 12) - 1).toNat) + (S_.2.2.1 134 0 ((S_.1 13 0 12) - 1).toNat)) := of_decide_eq_false cx20_
            refine sm_T_go 3 (c1 := (122, [some (.inr (.inr (some (13, 0)))), some (.inl ((S_.1 13 0 12) - 1)), none], [.inl ((S_.1 13 0 12) - 1), .inr (.inr (some (134, 0)))], S_)) rfl ?_
            refine sm_T_iald (n := 16) rfl rfl (by omega) (by omega) ?_
            refine sm_T_go 1 (c1 := (125, [some (.inr (.inr (some (13, 0)))), some (.inl ((S_.1 13 0 12) - 1)), none], [.inl 6, .inl (S_.2.2.1 134 0 ((S_.1 13 0 12) - 1).toNat)], S_)) rfl ?_
            refine sm_T_br (a := 5) (z := 8) rfl (fun cx28_ => ?_) (fun cx28_ => ?_)
            · have cx28_ : (S_.2.2.1 134 0 ((S_.1 13 0 12) - 1).toNat) ≤ 6 := of_decide_eq_true cx28_
              refine sm_T_go 3 (c1 := (138, [some (.inr (.inr (some (13, 0)))), some (.inl ((S_.1 13 0 12) - 1)), none], [.inl ((S_.1 13 0 12) - 1), .inr (.inr (some (133, 0)))], S_)) rfl ?_
              refine sm_T_iald (n := 16) rfl rfl (by omega) (by omega) ?_
              have bx29_ : 0 ≤ S_.2.2.1 133 0 ((S_.1 13 0 12) - 1).toNat ∧ S_.2.2.1 133 0 ((S_.1 13 0 12) - 1).toNat ≤ 320 := hI_.2 133 0 _
              refine sm_T_b0 (a := 0) (z := 14) rfl (fun cx30_ => ?_) (fun cx30_ => ?_)
              · have cx30_ : (S_.2.2.1 133 0 ((S_.1 13 0 12) - 1).toNat) = 0 := of_decide_eq_true cx30_
                refine sm_T_go 10 (c1 := (171, [some (.inr (.inr (some (13, 0)))), some (.inl ((S_.1 13 0 12) - 1)), some (.inl 22)], [.inl ((S_.1 13 0 12) - 1), .inr (.inr (some (124, 0))), .inl 22, .inr (.inr (some (13, 0)))], S_)) rfl ?_
                refine sm_T_iald (n := 16) rfl rfl (by omega) (by omega) ?_
                have bx31_ : 0 ≤ S_.2.2.1 124 0 ((S_.1 13 0 12) - 1).toNat ∧ S_.2.2.1 124 0 ((S_.1 13 0 12) - 1).toNat ≤ 1280 := hI_.2 124 0 _
                refine sm_T_cal (d1 := 0) (Q1 := vq_294 22 (S_.2.2.1 124 0 ((S_.1 13 0 12) - 1).toNat) S_) rfl rfl (by decide) (vc_294 22 (S_.2.2.1 124 0 ((S_.1 13 0 12) - 1).toNat) S_ hI_ (by decide) (by omega)) (fun u_ Sx32_ px35_ => ?_)
                obtain ⟨rfl, hIx33_, hFx34_, px35_⟩ := px35_
                have hFx36_ : ai_fr (sx_W vw_340) S0_ Sx32_ := ai_fr_tr hF_ (fr_le hFx34_ rfl)
                have ex37_ : Sx32_.1 13 0 12 = S_.1 13 0 12 := hFx34_.1 13 0 12 rfl
                have t172_ := rtab_fr t33_ hFx34_ rfl rfl rfl rfl rfl
                first | (have T172_ := rT_fr T1_ hFx34_ rfl rfl rfl rfl rfl rfl rfl rfl rfl rfl rfl rfl rfl) | skip
                have e172_ := fb_r px35_ hz7_
                have a132_ := fr_arr (t := 132) (i := 0) hFx34_ rfl
                have a133_ := fr_arr (t := 133) (i := 0) hFx34_ rfl
                have a134_ := fr_arr (t := 134) (i := 0) hFx34_ rfl
                have a135_ := fr_arr (t := 135) (i := 0) hFx34_ rfl
                refine sm_T_rv rfl ⟨_, _, rfl, rfl, hIx33_, hFx36_, ?_⟩
                first | (exact absurd hz7_ hz_) | (refine ⟨T_, t172_, Or.inr (rE_f hX1_ T172_ hM1_ ?_ fun _ => ?_)⟩; (rw [a132_, a133_, a134_, a135_, e172_.1, ← mI_]; unfold p_lm; first | (rw [if_pos (by omega)]) | (rw [if_neg (by omega), if_pos (by omega)]) | (rw [if_neg (by omega), if_neg (by omega), if_pos (by omega)])); (rw [e172_.2, ← mI_]; exact pt1_.2)) | (refine ⟨T_, t33_, Or.inr (rE_f hX1_ T1_ hM1_ ?_ fun z_ => absurd hz_ z_)⟩; rw [hz_, ← mI_]; unfold p_lm; rw [if_neg (by omega), if_neg (by omega), if_neg (by omega)])
              · have cx30_ : ¬ ((S_.2.2.1 133 0 ((S_.1 13 0 12) - 1).toNat) = 0) := of_decide_eq_false cx30_
                refine sm_T_go 3 (c1 := (147, [some (.inr (.inr (some (13, 0)))), some (.inl ((S_.1 13 0 12) - 1)), none], [.inl ((S_.1 13 0 12) - 1), .inr (.inr (some (133, 0)))], S_)) rfl ?_
                refine sm_T_iald (n := 16) rfl rfl (by omega) (by omega) ?_
                refine sm_T_go 1 (c1 := (150, [some (.inr (.inr (some (13, 0)))), some (.inl ((S_.1 13 0 12) - 1)), none], [.inl 16, .inl (S_.2.2.1 133 0 ((S_.1 13 0 12) - 1).toNat)], S_)) rfl ?_
                refine sm_T_br (a := 5) (z := 8) rfl (fun cx38_ => ?_) (fun cx38_ => ?_)
                · have cx38_ : (S_.2.2.1 133 0 ((S_.1 13 0 12) - 1).toNat) ≤ 16 := of_decide_eq_true cx38_
                  refine sm_T_go 4 (c1 := (175, [some (.inr (.inr (some (13, 0)))), some (.inl ((S_.1 13 0 12) - 1)), some (.inl 0)], [], S_)) rfl ?_
                  refine sm_T_rv rfl ⟨_, _, rfl, rfl, hI_, hF_, ?_⟩
                  first | (exact absurd hz7_ hz_) | (refine ⟨T_, t172_, Or.inr (rE_f hX1_ T172_ hM1_ ?_ fun _ => ?_)⟩; (rw [a132_, a133_, a134_, a135_, e172_.1, ← mI_]; unfold p_lm; first | (rw [if_pos (by omega)]) | (rw [if_neg (by omega), if_pos (by omega)]) | (rw [if_neg (by omega), if_neg (by omega), if_pos (by omega)])); (rw [e172_.2, ← mI_]; exact pt1_.2)) | (refine ⟨T_, t33_, Or.inr (rE_f hX1_ T1_ hM1_ ?_ fun z_ => absurd hz_ z_)⟩; rw [hz_, ← mI_]; unfold p_lm; rw [if_neg (by omega), if_neg (by omega), if_neg (by omega)])
                · have cx38_ : ¬ ((S_.2.2.1 133 0 ((S_.1 13 0 12) - 1).toNat) ≤ 16) := of_decide_eq_false cx38_
                  refine sm_T_go 10 (c1 := (171, [some (.inr (.inr (some (13, 0)))), some (.inl ((S_.1 13 0 12) - 1)), some (.inl 22)], [.inl ((S_.1 13 0 12) - 1), .inr (.inr (some (124, 0))), .inl 22, .inr (.inr (some (13, 0)))], S_)) rfl ?_
                  refine sm_T_iald (n := 16) rfl rfl (by omega) (by omega) ?_
                  have bx39_ : 0 ≤ S_.2.2.1 124 0 ((S_.1 13 0 12) - 1).toNat ∧ S_.2.2.1 124 0 ((S_.1 13 0 12) - 1).toNat ≤ 1280 := hI_.2 124 0 _
                  refine sm_T_cal (d1 := 0) (Q1 := vq_294 22 (S_.2.2.1 124 0 ((S_.1 13 0 12) - 1).toNat) S_) rfl rfl (by decide) (vc_294 22 (S_.2.2.1 124 0 ((S_.1 13 0 12) - 1).toNat) S_ hI_ (by decide) (by omega)) (fun u_ Sx40_ px43_ => ?_)
                  obtain ⟨rfl, hIx41_, hFx42_, px43_⟩ := px43_
                  have hFx44_ : ai_fr (sx_W vw_340) S0_ Sx40_ := ai_fr_tr hF_ (fr_le hFx42_ rfl)
                  have ex45_ : Sx40_.1 13 0 12 = S_.1 13 0 12 := hFx42_.1 13 0 12 rfl
                  have t172_ := rtab_fr t33_ hFx42_ rfl rfl rfl rfl rfl
                  first | (have T172_ := rT_fr T1_ hFx42_ rfl rfl rfl rfl rfl rfl rfl rfl rfl rfl rfl rfl rfl) | skip
                  have e172_ := fb_r px43_ hz7_
                  have a132_ := fr_arr (t := 132) (i := 0) hFx42_ rfl
                  have a133_ := fr_arr (t := 133) (i := 0) hFx42_ rfl
                  have a134_ := fr_arr (t := 134) (i := 0) hFx42_ rfl
                  have a135_ := fr_arr (t := 135) (i := 0) hFx42_ rfl
                  refine sm_T_rv rfl ⟨_, _, rfl, rfl, hIx41_, hFx44_, ?_⟩
                  first | (exact absurd hz7_ hz_) | (refine ⟨T_, t172_, Or.inr (rE_f hX1_ T172_ hM1_ ?_ fun _ => ?_)⟩; (rw [a132_, a133_, a134_, a135_, e172_.1, ← mI_]; unfold p_lm; first | (rw [if_pos (by omega)]) | (rw [if_neg (by omega), if_pos (by omega)]) | (rw [if_neg (by omega), if_neg (by omega), if_pos (by omega)])); (rw [e172_.2, ← mI_]; exact pt1_.2)) | (refine ⟨T_, t33_, Or.inr (rE_f hX1_ T1_ hM1_ ?_ fun z_ => absurd hz_ z_)⟩; rw [hz_, ← mI_]; unfold p_lm; rw [if_neg (by omega), if_neg (by omega), if_neg (by omega)])
            · have cx28_ : ¬ ((S_.2.2.1 134 0 ((S_.1 13 0 12) - 1).toNat) ≤ 6) := of_decide_eq_false cx28_
              refine sm_T_go 10 (c1 := (171, [some (.inr (.inr (some (13, 0)))), some (.inl ((S_.1 13 0 12) - 1)), some (.inl 21)], [.inl ((S_.1 13 0 12) - 1), .inr (.inr (some (124, 0))), .inl 21, .inr (.inr (some (13, 0)))], S_)) rfl ?_
              refine sm_T_iald (n := 16) rfl rfl (by omega) (by omega) ?_
              have bx46_ : 0 ≤ S_.2.2.1 124 0 ((S_.1 13 0 12) - 1).toNat ∧ S_.2.2.1 124 0 ((S_.1 13 0 12) - 1).toNat ≤ 1280 := hI_.2 124 0 _
              refine sm_T_cal (d1 := 0) (Q1 := vq_294 21 (S_.2.2.1 124 0 ((S_.1 13 0 12) - 1).toNat) S_) rfl rfl (by decide) (vc_294 21 (S_.2.2.1 124 0 ((S_.1 13 0 12) - 1).toNat) S_ hI_ (by decide) (by omega)) (fun u_ Sx47_ px50_ => ?_)
              obtain ⟨rfl, hIx48_, hFx49_, px50_⟩ := px50_
              have hFx51_ : ai_fr (sx_W vw_340) S0_ Sx47_ := ai_fr_tr hF_ (fr_le hFx49_ rfl)
              have ex52_ : Sx47_.1 13 0 12 = S_.1 13 0 12 := hFx49_.1 13 0 12 rfl
              have t172_ := rtab_fr t33_ hFx49_ rfl rfl rfl rfl rfl
              first | (have T172_ := rT_fr T1_ hFx49_ rfl rfl rfl rfl rfl rfl rfl rfl rfl rfl rfl rfl rfl) | skip
              have e172_ := fb_r px50_ hz7_
              have a132_ := fr_arr (t := 132) (i := 0) hFx49_ rfl
              have a133_ := fr_arr (t := 133) (i := 0) hFx49_ rfl
              have a134_ := fr_arr (t := 134) (i := 0) hFx49_ rfl
              have a135_ := fr_arr (t := 135) (i := 0) hFx49_ rfl
              refine sm_T_rv rfl ⟨_, _, rfl, rfl, hIx48_, hFx51_, ?_⟩
              first | (exact absurd hz7_ hz_) | (refine ⟨T_, t172_, Or.inr (rE_f hX1_ T172_ hM1_ ?_ fun _ => ?_)⟩; (rw [a132_, a133_, a134_, a135_, e172_.1, ← mI_]; unfold p_lm; first | (rw [if_pos (by omega)]) | (rw [if_neg (by omega), if_pos (by omega)]) | (rw [if_neg (by omega), if_neg (by omega), if_pos (by omega)])); (rw [e172_.2, ← mI_]; exact pt1_.2)) | (refine ⟨T_, t33_, Or.inr (rE_f hX1_ T1_ hM1_ ?_ fun z_ => absurd hz_ z_)⟩; rw [hz_, ← mI_]; unfold p_lm; rw [if_neg (by omega), if_neg (by omega), if_neg (by omega)])
        · have cx17_ : ¬ ((S_.2.2.1 135 0 ((S_.1 13 0 12) - 1).toNat) ≤ 200) := of_decide_eq_false cx17_
          refine sm_T_go 10 (c1 := (171, [some (.inr (.inr (some (13, 0)))), some (.inl ((S_.1 13 0 12) - 1)), some (.inl 20)], [.inl ((S_.1 13 0 12) - 1), .inr (.inr (some (124, 0))), .inl 20, .inr (.inr (some (13, 0)))], S_)) rfl ?_
          refine sm_T_iald (n := 16) rfl rfl (by omega) (by omega) ?_
          have bx53_ : 0 ≤ S_.2.2.1 124 0 ((S_.1 13 0 12) - 1).toNat ∧ S_.2.2.1 124 0 ((S_.1 13 0 12) - 1).toNat ≤ 1280 := hI_.2 124 0 _
          refine sm_T_cal (d1 := 0) (Q1 := vq_294 20 (S_.2.2.1 124 0 ((S_.1 13 0 12) - 1).toNat) S_) rfl rfl (by decide) (vc_294 20 (S_.2.2.1 124 0 ((S_.1 13 0 12) - 1).toNat) S_ hI_ (by decide) (by omega)) (fun u_ Sx54_ px57_ => ?_)
          obtain ⟨rfl, hIx55_, hFx56_, px57_⟩ := px57_
          have hFx58_ : ai_fr (sx_W vw_340) S0_ Sx54_ := ai_fr_tr hF_ (fr_le hFx56_ rfl)
          have ex59_ : Sx54_.1 13 0 12 = S_.1 13 0 12 := hFx56_.1 13 0 12 rfl
          have t172_ := rtab_fr t33_ hFx56_ rfl rfl rfl rfl rfl
          first | (have T172_ := rT_fr T1_ hFx56_ rfl rfl rfl rfl rfl rfl rfl rfl rfl rfl rfl rfl rfl) | skip
          have e172_ := fb_r px57_ hz7_
          have a132_ := fr_arr (t := 132) (i := 0) hFx56_ rfl
          have a133_ := fr_arr (t := 133) (i := 0) hFx56_ rfl
          have a134_ := fr_arr (t := 134) (i := 0) hFx56_ rfl
          have a135_ := fr_arr (t := 135) (i := 0) hFx56_ rfl
          refine sm_T_rv rfl ⟨_, _, rfl, rfl, hIx55_, hFx58_, ?_⟩
          first | (exact absurd hz7_ hz_) | (refine ⟨T_, t172_, Or.inr (rE_f hX1_ T172_ hM1_ ?_ fun _ => ?_)⟩; (rw [a132_, a133_, a134_, a135_, e172_.1, ← mI_]; unfold p_lm; first | (rw [if_pos (by omega)]) | (rw [if_neg (by omega), if_pos (by omega)]) | (rw [if_neg (by omega), if_neg (by omega), if_pos (by omega)])); (rw [e172_.2, ← mI_]; exact pt1_.2)) | (refine ⟨T_, t33_, Or.inr (rE_f hX1_ T1_ hM1_ ?_ fun z_ => absurd hz_ z_)⟩; rw [hz_, ← mI_]; unfold p_lm; rw [if_neg (by omega), if_neg (by omega), if_neg (by omega)])
      · have cx14_ : ¬ (vx13_ ≠ 0) := of_decide_eq_false cx14_
        have hz7_ := wr_if e68_ (by omega)
        refine sm_T_rv rfl ⟨_, _, rfl, rfl, hI_, hF_, ?_⟩
        first | (exact absurd hz_ hz7_) | (refine ⟨T_, t33_, Or.inl ?_⟩; rcases h1_ with z_ | ⟨A1_, N1_, M1_, mc1_, c1_, q1_, z1_, z2_⟩ | ⟨q1_, z1_, z2_⟩; exact z_; (exact absurd z1_.1 hz_); (exact absurd z1_.1 hz_))
    · have cx7_ : ¬ (vx6_ = 0) := of_decide_eq_false cx7_
      have hz_ := rt_if e34_ (by omega)
      have hR_ : rN b_ n_ T_ (p_de b_ n_) S_ ∨ rI b_ n_ T_ (p_de b_ n_) S_ := by rcases h1_ with z_ | z_; (exact (rX_z z_ hz_).elim); exact z_
      have bx60_ : 0 ≤ S_.1 13 0 12 ∧ S_.1 13 0 12 ≤ 16 := hI_.1 13 0 12 rfl
      refine sm_T_go 2 (c1 := (44, [some (.inr (.inr (some (13, 0)))), none, none], [.inl (S_.1 13 0 12)], S_)) rfl ?_
      refine sm_T_b0 (a := 0) (z := 16) rfl (fun cx61_ => ?_) (fun cx61_ => ?_)
      · have cx61_ : (S_.1 13 0 12) = 0 := of_decide_eq_true cx61_
        obtain ⟨A1_, N1_, M1_, mc1_, c1_, q1_, f1_, g1_, T1_, hc1_, hf1_, hX1_⟩ : ∃ A1_ N1_ M1_ mc1_ c1_ q1_ f1_, rg b_ n_ T_ (.inr q1_) S_ ∧ rT b_ n_ T_ A1_ N1_ M1_ S_ ∧ c1_.length ≤ 3 * q1_ ∧ n_ < q1_ + f1_ ∧ (p_de b_ n_) = pb (p_bm b_ n_ A1_ N1_ M1_ q1_) fun x_ => p_dl b_ n_ f1_ x_.1 x_.2.1 M1_ mc1_ c1_ x_.2.2 := by rcases hR_ with ⟨A1_, N1_, M1_, mc1_, c1_, q1_, z1_, z2_, z3_, z4_⟩ | ⟨q1_, z1_, z2_, z3_⟩; (exfalso; have := z2_.1; omega); (exact ⟨A_0, fun _ => 0, 0, fun _ => 0, [], q1_, n_ + 1, z1_, rT_0 z2_, Nat.zero_le _, by omega, z3_⟩)
        refine sm_T_go 1 (c1 := (61, [some (.inr (.inr (some (13, 0)))), none, none], [.inr (.inr (some (13, 0)))], S_)) rfl ?_
        refine sm_T_cal (d1 := 10) (Q1 := vq_339 b_ n_ T_ (p_de b_ n_) A1_ N1_ M1_ mc1_ c1_ q1_ f1_ S_) rfl rfl (by decide) (vc_339 b_ n_ T_ (p_de b_ n_) A1_ N1_ M1_ mc1_ c1_ q1_ f1_ S_ hI_ (by exact t33_) (by exact g1_) (by exact T1_) (by exact mo33_) (by exact hc1_) (by exact hX1_) (by exact hf1_)) (fun u_ Sx62_ px65_ => ?_)
        obtain ⟨rfl, hIx63_, hFx64_, px65_⟩ := px65_
        have hFx66_ : ai_fr (sx_W vw_340) S0_ Sx62_ := ai_fr_tr hF_ (fr_le hFx64_ rfl)
        have e61_ := px65_
        have t61_ := rtab_fr t33_ hFx64_ rfl rfl rfl rfl rfl
        have mo61_ := (hFx64_.1 13 0 27 rfl).trans mo33_
        have ms1_ := T1_.1
        have mle_ := T1_.2.1
        refine sm_T_go 1 (c1 := (33, [some (.inr (.inr (some (13, 0)))), none, none], [], Sx62_)) rfl ?_
        refine ih_  Sx62_ hIx63_ hFx66_ ⟨?_, ?_, trivial⟩ ?_
        · refine ⟨T_, t61_, ?_⟩
          rcases e61_.1 with z_ | z_
          · exact Or.inl z_
          · exact Or.inr (Or.inl z_)
        · exact mo61_
        · (have q1_ : r_mm S_ = (20 - S_.1 13 0 12).toNat := if_neg (by rw [hz_]; exact fun z_ => z_ rfl)); unfold r_mm; split; omega; (rename_i gg_; have gg2_ := e61_.2 (Decidable.byContradiction gg_); omega)
      · have cx61_ : ¬ ((S_.1 13 0 12) = 0) := of_decide_eq_false cx61_
        obtain ⟨A1_, N1_, M1_, mc1_, c1_, q1_, g1_, T1_, hM1_, hc1_, alt1_⟩ : rN b_ n_ T_ (p_de b_ n_) S_ := by rcases hR_ with z_ | ⟨q1_, z1_, z2_, z3_⟩; exact z_; (exfalso; omega)
        obtain ⟨i1_, hi11_, hi12_⟩ := id g1_.2
        have ra1_ := rp_at t33_ hi12_
        have so1_ : S_.2.2.1 119 0 (S_.1 13 0 9).toNat = r_st (lx_kd b_ n_ q1_) := by rw [hi11_, Int.toNat_natCast]; exact ra1_.1
        have bx67_ : 0 ≤ S_.1 13 0 9 ∧ S_.1 13 0 9 ≤ 1280 := hI_.1 13 0 9 rfl
        refine sm_T_go 4 (c1 := (55, [some (.inr (.inr (some (13, 0)))), none, none], [.inl (S_.1 13 0 9), .inr (.inr (some (119, 0)))], S_)) rfl ?_
        refine sm_T_bald (n := 65537) rfl rfl (by omega) (by omega) ?_
        have bx68_ : (-128) ≤ S_.2.2.1 119 0 (S_.1 13 0 9).toNat ∧ S_.2.2.1 119 0 (S_.1 13 0 9).toNat ≤ 127 := hI_.2 119 0 _
        refine sm_T_go 1 (c1 := (57, [some (.inr (.inr (some (13, 0)))), none, none], [.inl 5, .inl (S_.2.2.1 119 0 (S_.1 13 0 9).toNat)], S_)) rfl ?_
        refine sm_T_br (a := 0) (z := 10) rfl (fun cx69_ => ?_) (fun cx69_ => ?_)
        · have cx69_ : (S_.2.2.1 119 0 (S_.1 13 0 9).toNat) = 5 := of_decide_eq_true cx69_
          have k0_ : lx_kd b_ n_ q1_ = 0 := by have z_ := lx_kd_r hi12_.2.2.1; unfold r_st r_so at so1_; by_cases y_ : lx_kd b_ n_ q1_ = 0; exact y_; (rw [if_neg y_] at so1_; split at so1_; omega; (split at so1_; omega; (split at so1_; omega; (split at so1_ <;> omega))))
          have hX1_ : (p_de b_ n_) = .inr (A1_, N1_, M1_, mc1_, c1_) := by rcases alt1_ with z_ | z_; exact z_.2; (exact absurd k0_ z_.1)
          have ms1_ := T1_.1
          have mle_ := T1_.2.1
          have mI_ : (S_.1 13 0 12 - 1).toNat = M1_ - 1 := by omega
          have rtk1_ := T1_.2.2.2.2.2.1.2 (M1_ - 1) (by omega)
          have pt1_ := rtk_pl t33_ rtk1_
          rw [← mI_] at pt1_ rtk1_
          have cl1_ := rs1_b hI_ (T1_.2.2.1 (M1_ - 1) (by omega)) (Nat.le_refl _) (T1_.2.2.2.2.1 (M1_ - 1) (by omega))
          have A40_ := ((T1_.2.2.1 (M1_ - 1) (by omega)).2 (M1_ - 1) (Nat.le_refl _)).1
          rw [← mI_] at cl1_ A40_
          refine sm_T_go 1 (c1 := (68, [some (.inr (.inr (some (13, 0)))), none, none], [.inr (.inr (some (13, 0)))], S_)) rfl ?_
          refine sm_T_cal (d1 := 0) (Q1 := vq_292  S_) rfl rfl (by decide) (vc_292  S_ hI_ ) (fun u_ Sx70_ px73_ => ?_)
          obtain ⟨rfl, vx75_, rfl, px73_⟩ := px73_
          have e68_ := px73_
          refine sm_T_b0 (a := 1) (z := 4) rfl (fun cx76_ => ?_) (fun cx76_ => ?_)
          · have cx76_ : vx75_ ≠ 0 := of_decide_eq_true cx76_
            have hz7_ := rt_if e68_ (by omega)
            have dummy7 := hz7_
            refine sm_T_go 3 (c1 := (80, [some (.inr (.inr (some (13, 0)))), none, none], [.inl 1, .inl (S_.1 13 0 12)], S_)) rfl ?_
            refine sm_T_bin (w := (S_.1 13 0 12) - 1) rfl (bi_sub (by omega) (by omega) (by omega)) ?_
            refine sm_T_go 4 (c1 := (87, [some (.inr (.inr (some (13, 0)))), some (.inl ((S_.1 13 0 12) - 1)), none], [.inl ((S_.1 13 0 12) - 1), .inr (.inr (some (135, 0)))], S_)) rfl ?_
            refine sm_T_iald (n := 16) rfl rfl (by omega) (by omega) ?_
            have bx77_ : 0 ≤ S_.2.2.1 135 0 ((S_.1 13 0 12) - 1).toNat ∧ S_.2.2.1 135 0 ((S_.1 13 0 12) - 1).toNat ≤ 1073741823 := hI_.2 135 0 _
            refine sm_T_go 1 (c1 := (91, [some (.inr (.inr (some (13, 0)))), some (.inl ((S_.1 13 0 12) - 1)), none], [.inl 200, .inl (S_.2.2.1 135 0 ((S_.1 13 0 12) - 1).toNat)], S_)) rfl ?_
            refine sm_T_br (a := 5) (z := 8) rfl (fun cx78_ => ?_) (fun cx78_ => ?_)
            · have cx78_ : (S_.2.2.1 135 0 ((S_.1 13 0 12) - 1).toNat) ≤ 200 := of_decide_eq_true cx78_
              refine sm_T_go 3 (c1 := (104, [some (.inr (.inr (some (13, 0)))), some (.inl ((S_.1 13 0 12) - 1)), none], [.inl ((S_.1 13 0 12) - 1), .inr (.inr (some (132, 0)))], S_)) rfl ?_
              refine sm_T_iald (n := 16) rfl rfl (by omega) (by omega) ?_
              have bx79_ : 0 ≤ S_.2.2.1 132 0 ((S_.1 13 0 12) - 1).toNat ∧ S_.2.2.1 132 0 ((S_.1 13 0 12) - 1).toNat ≤ 320 := hI_.2 132 0 _
              refine sm_T_go 3 (c1 := (110, [some (.inr (.inr (some (13, 0)))), some (.inl ((S_.1 13 0 12) - 1)), none], [.inl ((S_.1 13 0 12) - 1), .inr (.inr (some (134, 0))), .inl (S_.2.2.1 132 0 ((S_.1 13 0 12) - 1).toNat)], S_)) rfl ?_
              refine sm_T_iald (n := 16) rfl rfl (by omega) (by omega) ?_
              have bx80_ : 0 ≤ S_.2.2.1 134 0 ((S_.1 13 0 12) - 1).toNat ∧ S_.2.2.1 134 0 ((S_.1 13 0 12) - 1).toNat ≤ 1073741823 := hI_.2 134 0 _
              refine sm_T_bin (w := (S_.2.2.1 132 0 ((S_.1 13 0 12) - 1).toNat) + (S_.2.2.1 134 0 ((S_.1 13 0 12) - 1).toNat)) rfl (bi_add (by omega) (by omega) (by omega)) ?_
              refine sm_T_go 1 (c1 := (114, [some (.inr (.inr (some (13, 0)))), some (.inl ((S_.1 13 0 12) - 1)), none], [.inl 12, .inl ((S_.2.2.1 132 0 ((S_.1 13 0 12) - 1).toNat) + (S_.2.2.1 134 0 ((S_.1 13 0 12) - 1).toNat))], S_)) rfl ?_
              refine sm_T_br (a := 4) (z := 14) rfl (fun cx81_ => ?_) (fun cx81_ => ?_)
              · have cx81_ : 12 < (S_.2.2.1 132 0 ((S_.1 13 0 12) - 1).toNat) + (S_.2.2.1 134 0 ((S_.1 13 0 12) - 1).toNat) := of_decide_eq_true cx81_
                refine sm_T_go 10 (c1 := (171, [some (.inr (.inr (some (13, 0)))), some (.inl ((S_.1 13 0 12) - 1)), some (.inl 21)], [.inl ((S_.1 13 0 12) - 1), .inr (.inr (some (124, 0))), .inl 21, .inr (.inr (some (13, 0)))], S_)) rfl ?_
                refine sm_T_iald (n := 16) rfl rfl (by omega) (by omega) ?_
                have bx82_ : 0 ≤ S_.2.2.1 124 0 ((S_.1 13 0 12) - 1).toNat ∧ S_.2.2.1 124 0 ((S_.1 13 0 12) - 1).toNat ≤ 1280 := hI_.2 124 0 _
                refine sm_T_cal (d1 := 0) (Q1 := vq_294 21 (S_.2.2.1 124 0 ((S_.1 13 0 12) - 1).toNat) S_) rfl rfl (by decide) (vc_294 21 (S_.2.2.1 124 0 ((S_.1 13 0 12) - 1).toNat) S_ hI_ (by decide) (by omega)) (fun u_ Sx83_ px86_ => ?_)
                obtain ⟨rfl, hIx84_, hFx85_, px86_⟩ := px86_
                have hFx87_ : ai_fr (sx_W vw_340) S0_ Sx83_ := ai_fr_tr hF_ (fr_le hFx85_ rfl)
                have ex88_ : Sx83_.1 13 0 12 = S_.1 13 0 12 := hFx85_.1 13 0 12 rfl
                have ex89_ : Sx83_.1 13 0 9 = S_.1 13 0 9 := hFx85_.1 13 0 9 rfl
                have t172_ := rtab_fr t33_ hFx85_ rfl rfl rfl rfl rfl
                first | (have T172_ := rT_fr T1_ hFx85_ rfl rfl rfl rfl rfl rfl rfl rfl rfl rfl rfl rfl rfl) | skip
                have e172_ := fb_r px86_ hz7_
                have a132_ := fr_arr (t := 132) (i := 0) hFx85_ rfl
                have a133_ := fr_arr (t := 133) (i := 0) hFx85_ rfl
                have a134_ := fr_arr (t := 134) (i := 0) hFx85_ rfl
                have a135_ := fr_arr (t := 135) (i := 0) hFx85_ rfl
                refine sm_T_rv rfl ⟨_, _, rfl, rfl, hIx84_, hFx87_, ?_⟩
                first | (exact absurd hz7_ hz_) | (refine ⟨T_, t172_, Or.inr (rE_f hX1_ T172_ hM1_ ?_ fun _ => ?_)⟩; (rw [a132_, a133_, a134_, a135_, e172_.1, ← mI_]; unfold p_lm; first | (rw [if_pos (by omega)]) | (rw [if_neg (by omega), if_pos (by omega)]) | (rw [if_neg (by omega), if_neg (by omega), if_pos (by omega)])); (rw [e172_.2, ← mI_]; exact pt1_.2)) | (refine ⟨T_, t33_, Or.inr (rE_f hX1_ T1_ hM1_ ?_ fun z_ => absurd hz_ z_)⟩; rw [hz_, ← mI_]; unfold p_lm; rw [if_neg (by omega), if_neg (by omega), if_neg (by omega)])
              · have cx81_ : ¬ (12 < (S_.2.2.1 132 0 ((S_.1 13 0 12) - 1).toNat) + (S_.2.2.1 134 0 ((S_.1 13 0 12) - 1).toNat)) := of_decide_eq_false cx81_
                refine sm_T_go 3 (c1 := (122, [some (.inr (.inr (some (13, 0)))), some (.inl ((S_.1 13 0 12) - 1)), none], [.inl ((S_.1 13 0 12) - 1), .inr (.inr (some (134, 0)))], S_)) rfl ?_
                refine sm_T_iald (n := 16) rfl rfl (by omega) (by omega) ?_
                refine sm_T_go 1 (c1 := (125, [some (.inr (.inr (some (13, 0)))), some (.inl ((S_.1 13 0 12) - 1)), none], [.inl 6, .inl (S_.2.2.1 134 0 ((S_.1 13 0 12) - 1).toNat)], S_)) rfl ?_
                refine sm_T_br (a := 5) (z := 8) rfl (fun cx90_ => ?_) (fun cx90_ => ?_)
                · have cx90_ : (S_.2.2.1 134 0 ((S_.1 13 0 12) - 1).toNat) ≤ 6 := of_decide_eq_true cx90_
                  refine sm_T_go 3 (c1 := (138, [some (.inr (.inr (some (13, 0)))), some (.inl ((S_.1 13 0 12) - 1)), none], [.inl ((S_.1 13 0 12) - 1), .inr (.inr (some (133, 0)))], S_)) rfl ?_
                  refine sm_T_iald (n := 16) rfl rfl (by omega) (by omega) ?_
                  have bx91_ : 0 ≤ S_.2.2.1 133 0 ((S_.1 13 0 12) - 1).toNat ∧ S_.2.2.1 133 0 ((S_.1 13 0 12) - 1).toNat ≤ 320 := hI_.2 133 0 _
                  refine sm_T_b0 (a := 0) (z := 14) rfl (fun cx92_ => ?_) (fun cx92_ => ?_)
                  · have cx92_ : (S_.2.2.1 133 0 ((S_.1 13 0 12) - 1).toNat) = 0 := of_decide_eq_true cx92_
                    refine sm_T_go 10 (c1 := (171, [some (.inr (.inr (some (13, 0)))), some (.inl ((S_.1 13 0 12) - 1)), some (.inl 22)], [.inl ((S_.1 13 0 12) - 1), .inr (.inr (some (124, 0))), .inl 22, .inr (.inr (some (13, 0)))], S_)) rfl ?_
                    refine sm_T_iald (n := 16) rfl rfl (by omega) (by omega) ?_
                    have bx93_ : 0 ≤ S_.2.2.1 124 0 ((S_.1 13 0 12) - 1).toNat ∧ S_.2.2.1 124 0 ((S_.1 13 0 12) - 1).toNat ≤ 1280 := hI_.2 124 0 _
                    refine sm_T_cal (d1 := 0) (Q1 := vq_294 22 (S_.2.2.1 124 0 ((S_.1 13 0 12) - 1).toNat) S_) rfl rfl (by decide) (vc_294 22 (S_.2.2.1 124 0 ((S_.1 13 0 12) - 1).toNat) S_ hI_ (by decide) (by omega)) (fun u_ Sx94_ px97_ => ?_)
                    obtain ⟨rfl, hIx95_, hFx96_, px97_⟩ := px97_
                    have hFx98_ : ai_fr (sx_W vw_340) S0_ Sx94_ := ai_fr_tr hF_ (fr_le hFx96_ rfl)
                    have ex99_ : Sx94_.1 13 0 12 = S_.1 13 0 12 := hFx96_.1 13 0 12 rfl
                    have ex100_ : Sx94_.1 13 0 9 = S_.1 13 0 9 := hFx96_.1 13 0 9 rfl
                    have t172_ := rtab_fr t33_ hFx96_ rfl rfl rfl rfl rfl
                    first | (have T172_ := rT_fr T1_ hFx96_ rfl rfl rfl rfl rfl rfl rfl rfl rfl rfl rfl rfl rfl) | skip
                    have e172_ := fb_r px97_ hz7_
                    have a132_ := fr_arr (t := 132) (i := 0) hFx96_ rfl
                    have a133_ := fr_arr (t := 133) (i := 0) hFx96_ rfl
                    have a134_ := fr_arr (t := 134) (i := 0) hFx96_ rfl
                    have a135_ := fr_arr (t := 135) (i := 0) hFx96_ rfl
                    refine sm_T_rv rfl ⟨_, _, rfl, rfl, hIx95_, hFx98_, ?_⟩
                    first | (exact absurd hz7_ hz_) | (refine ⟨T_, t172_, Or.inr (rE_f hX1_ T172_ hM1_ ?_ fun _ => ?_)⟩; (rw [a132_, a133_, a134_, a135_, e172_.1, ← mI_]; unfold p_lm; first | (rw [if_pos (by omega)]) | (rw [if_neg (by omega), if_pos (by omega)]) | (rw [if_neg (by omega), if_neg (by omega), if_pos (by omega)])); (rw [e172_.2, ← mI_]; exact pt1_.2)) | (refine ⟨T_, t33_, Or.inr (rE_f hX1_ T1_ hM1_ ?_ fun z_ => absurd hz_ z_)⟩; rw [hz_, ← mI_]; unfold p_lm; rw [if_neg (by omega), if_neg (by omega), if_neg (by omega)])
                  · have cx92_ : ¬ ((S_.2.2.1 133 0 ((S_.1 13 0 12) - 1).toNat) = 0) := of_decide_eq_false cx92_
                    refine sm_T_go 3 (c1 := (147, [some (.inr (.inr (some (13, 0)))), some (.inl ((S_.1 13 0 12) - 1)), none], [.inl ((S_.1 13 0 12) - 1), .inr (.inr (some (133, 0)))], S_)) rfl ?_
                    refine sm_T_iald (n := 16) rfl rfl (by omega) (by omega) ?_
                    refine sm_T_go 1 (c1 := (150, [some (.inr (.inr (some (13, 0)))), some (.inl ((S_.1 13 0 12) - 1)), none], [.inl 16, .inl (S_.2.2.1 133 0 ((S_.1 13 0 12) - 1).toNat)], S_)) rfl ?_
                    refine sm_T_br (a := 5) (z := 8) rfl (fun cx101_ => ?_) (fun cx101_ => ?_)
                    · have cx101_ : (S_.2.2.1 133 0 ((S_.1 13 0 12) - 1).toNat) ≤ 16 := of_decide_eq_true cx101_
                      refine sm_T_go 4 (c1 := (175, [some (.inr (.inr (some (13, 0)))), some (.inl ((S_.1 13 0 12) - 1)), some (.inl 0)], [], S_)) rfl ?_
                      refine sm_T_rv rfl ⟨_, _, rfl, rfl, hI_, hF_, ?_⟩
                      first | (exact absurd hz7_ hz_) | (refine ⟨T_, t172_, Or.inr (rE_f hX1_ T172_ hM1_ ?_ fun _ => ?_)⟩; (rw [a132_, a133_, a134_, a135_, e172_.1, ← mI_]; unfold p_lm; first | (rw [if_pos (by omega)]) | (rw [if_neg (by omega), if_pos (by omega)]) | (rw [if_neg (by omega), if_neg (by omega), if_pos (by omega)])); (rw [e172_.2, ← mI_]; exact pt1_.2)) | (refine ⟨T_, t33_, Or.inr (rE_f hX1_ T1_ hM1_ ?_ fun z_ => absurd hz_ z_)⟩; rw [hz_, ← mI_]; unfold p_lm; rw [if_neg (by omega), if_neg (by omega), if_neg (by omega)])
                    · have cx101_ : ¬ ((S_.2.2.1 133 0 ((S_.1 13 0 12) - 1).toNat) ≤ 16) := of_decide_eq_false cx101_
                      refine sm_T_go 10 (c1 := (171, [some (.inr (.inr (some (13, 0)))), some (.inl ((S_.1 13 0 12) - 1)), some (.inl 22)], [.inl ((S_.1 13 0 12) - 1), .inr (.inr (some (124, 0))), .inl 22, .inr (.inr (some (13, 0)))], S_)) rfl ?_
                      refine sm_T_iald (n := 16) rfl rfl (by omega) (by omega) ?_
                      have bx102_ : 0 ≤ S_.2.2.1 124 0 ((S_.1 13 0 12) - 1).toNat ∧ S_.2.2.1 124 0 ((S_.1 13 0 12) - 1).toNat ≤ 1280 := hI_.2 124 0 _
                      refine sm_T_cal (d1 := 0) (Q1 := vq_294 22 (S_.2.2.1 124 0 ((S_.1 13 0 12) - 1).toNat) S_) rfl rfl (by decide) (vc_294 22 (S_.2.2.1 124 0 ((S_.1 13 0 12) - 1).toNat) S_ hI_ (by decide) (by omega)) (fun u_ Sx103_ px106_ => ?_)
                      obtain ⟨rfl, hIx104_, hFx105_, px106_⟩ := px106_
                      have hFx107_ : ai_fr (sx_W vw_340) S0_ Sx103_ := ai_fr_tr hF_ (fr_le hFx105_ rfl)
                      have ex108_ : Sx103_.1 13 0 12 = S_.1 13 0 12 := hFx105_.1 13 0 12 rfl
                      have ex109_ : Sx103_.1 13 0 9 = S_.1 13 0 9 := hFx105_.1 13 0 9 rfl
                      have t172_ := rtab_fr t33_ hFx105_ rfl rfl rfl rfl rfl
                      first | (have T172_ := rT_fr T1_ hFx105_ rfl rfl rfl rfl rfl rfl rfl rfl rfl rfl rfl rfl rfl) | skip
                      have e172_ := fb_r px106_ hz7_
                      have a132_ := fr_arr (t := 132) (i := 0) hFx105_ rfl
                      have a133_ := fr_arr (t := 133) (i := 0) hFx105_ rfl
                      have a134_ := fr_arr (t := 134) (i := 0) hFx105_ rfl
                      have a135_ := fr_arr (t := 135) (i := 0) hFx105_ rfl
                      refine sm_T_rv rfl ⟨_, _, rfl, rfl, hIx104_, hFx107_, ?_⟩
                      first | (exact absurd hz7_ hz_) | (refine ⟨T_, t172_, Or.inr (rE_f hX1_ T172_ hM1_ ?_ fun _ => ?_)⟩; (rw [a132_, a133_, a134_, a135_, e172_.1, ← mI_]; unfold p_lm; first | (rw [if_pos (by omega)]) | (rw [if_neg (by omega), if_pos (by omega)]) | (rw [if_neg (by omega), if_neg (by omega), if_pos (by omega)])); (rw [e172_.2, ← mI_]; exact pt1_.2)) | (refine ⟨T_, t33_, Or.inr (rE_f hX1_ T1_ hM1_ ?_ fun z_ => absurd hz_ z_)⟩; rw [hz_, ← mI_]; unfold p_lm; rw [if_neg (by omega), if_neg (by omega), if_neg (by omega)])
                · have cx90_ : ¬ ((S_.2.2.1 134 0 ((S_.1 13 0 12) - 1).toNat) ≤ 6) := of_decide_eq_false cx90_
                  refine sm_T_go 10 (c1 := (171, [some (.inr (.inr (some (13, 0)))), some (.inl ((S_.1 13 0 12) - 1)), some (.inl 21)], [.inl ((S_.1 13 0 12) - 1), .inr (.inr (some (124, 0))), .inl 21, .inr (.inr (some (13, 0)))], S_)) rfl ?_
                  refine sm_T_iald (n := 16) rfl rfl (by omega) (by omega) ?_
                  have bx110_ : 0 ≤ S_.2.2.1 124 0 ((S_.1 13 0 12) - 1).toNat ∧ S_.2.2.1 124 0 ((S_.1 13 0 12) - 1).toNat ≤ 1280 := hI_.2 124 0 _
                  refine sm_T_cal (d1 := 0) (Q1 := vq_294 21 (S_.2.2.1 124 0 ((S_.1 13 0 12) - 1).toNat) S_) rfl rfl (by decide) (vc_294 21 (S_.2.2.1 124 0 ((S_.1 13 0 12) - 1).toNat) S_ hI_ (by decide) (by omega)) (fun u_ Sx111_ px114_ => ?_)
                  obtain ⟨rfl, hIx112_, hFx113_, px114_⟩ := px114_
                  have hFx115_ : ai_fr (sx_W vw_340) S0_ Sx111_ := ai_fr_tr hF_ (fr_le hFx113_ rfl)
                  have ex116_ : Sx111_.1 13 0 12 = S_.1 13 0 12 := hFx113_.1 13 0 12 rfl
                  have ex117_ : Sx111_.1 13 0 9 = S_.1 13 0 9 := hFx113_.1 13 0 9 rfl
                  have t172_ := rtab_fr t33_ hFx113_ rfl rfl rfl rfl rfl
                  first | (have T172_ := rT_fr T1_ hFx113_ rfl rfl rfl rfl rfl rfl rfl rfl rfl rfl rfl rfl rfl) | skip
                  have e172_ := fb_r px114_ hz7_
                  have a132_ := fr_arr (t := 132) (i := 0) hFx113_ rfl
                  have a133_ := fr_arr (t := 133) (i := 0) hFx113_ rfl
                  have a134_ := fr_arr (t := 134) (i := 0) hFx113_ rfl
                  have a135_ := fr_arr (t := 135) (i := 0) hFx113_ rfl
                  refine sm_T_rv rfl ⟨_, _, rfl, rfl, hIx112_, hFx115_, ?_⟩
                  first | (exact absurd hz7_ hz_) | (refine ⟨T_, t172_, Or.inr (rE_f hX1_ T172_ hM1_ ?_ fun _ => ?_)⟩; (rw [a132_, a133_, a134_, a135_, e172_.1, ← mI_]; unfold p_lm; first | (rw [if_pos (by omega)]) | (rw [if_neg (by omega), if_pos (by omega)]) | (rw [if_neg (by omega), if_neg (by omega), if_pos (by omega)])); (rw [e172_.2, ← mI_]; exact pt1_.2)) | (refine ⟨T_, t33_, Or.inr (rE_f hX1_ T1_ hM1_ ?_ fun z_ => absurd hz_ z_)⟩; rw [hz_, ← mI_]; unfold p_lm; rw [if_neg (by omega), if_neg (by omega), if_neg (by omega)])
            · have cx78_ : ¬ ((S_.2.2.1 135 0 ((S_.1 13 0 12) - 1).toNat) ≤ 200) := of_decide_eq_false cx78_
              refine sm_T_go 10 (c1 := (171, [some (.inr (.inr (some (13, 0)))), some (.inl ((S_.1 13 0 12) - 1)), some (.inl 20)], [.inl ((S_.1 13 0 12) - 1), .inr (.inr (some (124, 0))), .inl 20, .inr (.inr (some (13, 0)))], S_)) rfl ?_
              refine sm_T_iald (n := 16) rfl rfl (by omega) (by omega) ?_
              have bx118_ : 0 ≤ S_.2.2.1 124 0 ((S_.1 13 0 12) - 1).toNat ∧ S_.2.2.1 124 0 ((S_.1 13 0 12) - 1).toNat ≤ 1280 := hI_.2 124 0 _
              refine sm_T_cal (d1 := 0) (Q1 := vq_294 20 (S_.2.2.1 124 0 ((S_.1 13 0 12) - 1).toNat) S_) rfl rfl (by decide) (vc_294 20 (S_.2.2.1 124 0 ((S_.1 13 0 12) - 1).toNat) S_ hI_ (by decide) (by omega)) (fun u_ Sx119_ px122_ => ?_)
              obtain ⟨rfl, hIx120_, hFx121_, px122_⟩ := px122_
              have hFx123_ : ai_fr (sx_W vw_340) S0_ Sx119_ := ai_fr_tr hF_ (fr_le hFx121_ rfl)
              have ex124_ : Sx119_.1 13 0 12 = S_.1 13 0 12 := hFx121_.1 13 0 12 rfl
              have ex125_ : Sx119_.1 13 0 9 = S_.1 13 0 9 := hFx121_.1 13 0 9 rfl
              have t172_ := rtab_fr t33_ hFx121_ rfl rfl rfl rfl rfl
              first | (have T172_ := rT_fr T1_ hFx121_ rfl rfl rfl rfl rfl rfl rfl rfl rfl rfl rfl rfl rfl) | skip
              have e172_ := fb_r px122_ hz7_
              have a132_ := fr_arr (t := 132) (i := 0) hFx121_ rfl
              have a133_ := fr_arr (t := 133) (i := 0) hFx121_ rfl
              have a134_ := fr_arr (t := 134) (i := 0) hFx121_ rfl
              have a135_ := fr_arr (t := 135) (i := 0) hFx121_ rfl
              refine sm_T_rv rfl ⟨_, _, rfl, rfl, hIx120_, hFx123_, ?_⟩
              first | (exact absurd hz7_ hz_) | (refine ⟨T_, t172_, Or.inr (rE_f hX1_ T172_ hM1_ ?_ fun _ => ?_)⟩; (rw [a132_, a133_, a134_, a135_, e172_.1, ← mI_]; unfold p_lm; first | (rw [if_pos (by omega)]) | (rw [if_neg (by omega), if_pos (by omega)]) | (rw [if_neg (by omega), if_neg (by omega), if_pos (by omega)])); (rw [e172_.2, ← mI_]; exact pt1_.2)) | (refine ⟨T_, t33_, Or.inr (rE_f hX1_ T1_ hM1_ ?_ fun z_ => absurd hz_ z_)⟩; rw [hz_, ← mI_]; unfold p_lm; rw [if_neg (by omega), if_neg (by omega), if_neg (by omega)])
          · have cx76_ : ¬ (vx75_ ≠ 0) := of_decide_eq_false cx76_
            have hz7_ := wr_if e68_ (by omega)
            refine sm_T_rv rfl ⟨_, _, rfl, rfl, hI_, hF_, ?_⟩
            first | (exact absurd hz_ hz7_) | (refine ⟨T_, t33_, Or.inl ?_⟩; rcases h1_ with z_ | ⟨A1_, N1_, M1_, mc1_, c1_, q1_, z1_, z2_⟩ | ⟨q1_, z1_, z2_⟩; exact z_; (exact absurd z1_.1 hz_); (exact absurd z1_.1 hz_))
        · have cx69_ : ¬ ((S_.2.2.1 119 0 (S_.1 13 0 9).toNat) = 5) := of_decide_eq_false cx69_
          have k0_ : lx_kd b_ n_ q1_ ≠ 0 := fun y_ => by rw [y_] at so1_; have z_ : r_st 0 = 5 := rfl; omega
          obtain ⟨f1_, hf1_, hX1_⟩ : ∃ f_, n_ < q1_ + f_ ∧ (p_de b_ n_) = pb (p_bm b_ n_ A1_ N1_ M1_ q1_) fun x_ => p_dl b_ n_ f_ x_.1 x_.2.1 M1_ mc1_ c1_ x_.2.2 := by rcases alt1_ with z_ | z_; (exact absurd z_.1 k0_); exact z_.2
          clear alt1_
          refine sm_T_go 1 (c1 := (61, [some (.inr (.inr (some (13, 0)))), none, none], [.inr (.inr (some (13, 0)))], S_)) rfl ?_
          refine sm_T_cal (d1 := 10) (Q1 := vq_339 b_ n_ T_ (p_de b_ n_) A1_ N1_ M1_ mc1_ c1_ q1_ f1_ S_) rfl rfl (by decide) (vc_339 b_ n_ T_ (p_de b_ n_) A1_ N1_ M1_ mc1_ c1_ q1_ f1_ S_ hI_ (by exact t33_) (by exact g1_) (by exact T1_) (by exact mo33_) (by exact hc1_) (by exact hX1_) (by exact hf1_)) (fun u_ Sx126_ px129_ => ?_)
          obtain ⟨rfl, hIx127_, hFx128_, px129_⟩ := px129_
          have hFx130_ : ai_fr (sx_W vw_340) S0_ Sx126_ := ai_fr_tr hF_ (fr_le hFx128_ rfl)
          have e61_ := px129_
          have t61_ := rtab_fr t33_ hFx128_ rfl rfl rfl rfl rfl
          have mo61_ := (hFx128_.1 13 0 27 rfl).trans mo33_
          have ms1_ := T1_.1
          have mle_ := T1_.2.1
          refine sm_T_go 1 (c1 := (33, [some (.inr (.inr (some (13, 0)))), none, none], [], Sx126_)) rfl ?_
          refine ih_  Sx126_ hIx127_ hFx130_ ⟨?_, ?_, trivial⟩ ?_
          · refine ⟨T_, t61_, ?_⟩
            rcases e61_.1 with z_ | z_
            · exact Or.inl z_
            · exact Or.inr (Or.inl z_)
          · exact mo61_
          · (have q1_ : r_mm S_ = (20 - S_.1 13 0 12).toNat := if_neg (by rw [hz_]; exact fun z_ => z_ rfl)); unfold r_mm; split; omega; (rename_i gg_; have gg2_ := e61_.2 (Decidable.byContradiction gg_); omega)
set_option maxHeartbeats 2000000 in
theorem vc_340 {sc_ : Nat × (Nat → Int)} (b_ : Nat → Int) (n_ : Nat) (S0_ : sm_S) (hI_ : gi S0_) (hb_ : S0_.2.2.1 118 0 = b_) (hn_ : (S0_.1 13 0 2) = (n_ : Int)) (hn1_ : n_ ≤ 1280) : sm_T (mt_P sc_) 11 340 (0, [some (.inr (.inr (some (13, 0)))), none, none], [], S0_) (fun ro9_ => ∃ u_ S1_, ro9_ = (.inl u_, S1_, 0) ∧ vq_340 b_ n_ S0_ u_ S1_) := by
  have hF_ : ai_fr (sx_W vw_340) S0_ S0_ := ai_fr_rf
  have hIx1_ : gi (sm_pI S0_ 13 0 27 0) := gi_pI hI_ (show 0 ≤ 0 ∧ 0 ≤ 2 from ⟨by omega, by omega⟩)
  have hFx2_ : ai_fr (sx_W vw_340) S0_ (sm_pI S0_ 13 0 27 0) := ai_fr_tr hF_ (ai_fr_pI rfl)
  have hIx3_ : gi (sm_pI (sm_pI S0_ 13 0 27 0) 13 0 10 0) := gi_pI hIx1_ (show 0 ≤ 0 ∧ 0 ≤ 23 from ⟨by omega, by omega⟩)
  have hFx4_ : ai_fr (sx_W vw_340) S0_ (sm_pI (sm_pI S0_ 13 0 27 0) 13 0 10 0) := ai_fr_tr hFx2_ (ai_fr_pI rfl)
  have hIx5_ : gi (sm_pI (sm_pI (sm_pI S0_ 13 0 27 0) 13 0 10 0) 13 0 11 0) := gi_pI hIx3_ (show 0 ≤ 0 ∧ 0 ≤ 4095 from ⟨by omega, by omega⟩)
  have hFx6_ : ai_fr (sx_W vw_340) S0_ (sm_pI (sm_pI (sm_pI S0_ 13 0 27 0) 13 0 10 0) 13 0 11 0) := ai_fr_tr hFx4_ (ai_fr_pI rfl)
  have hIx7_ : gi (sm_pI (sm_pI (sm_pI (sm_pI S0_ 13 0 27 0) 13 0 10 0) 13 0 11 0) 13 0 9 0) := gi_pI hIx5_ (show 0 ≤ 0 ∧ 0 ≤ 1280 from ⟨by omega, by omega⟩)
  have hFx8_ : ai_fr (sx_W vw_340) S0_ (sm_pI (sm_pI (sm_pI (sm_pI S0_ 13 0 27 0) 13 0 10 0) 13 0 11 0) 13 0 9 0) := ai_fr_tr hFx6_ (ai_fr_pI rfl)
  have hIx9_ : gi (sm_pI (sm_pI (sm_pI (sm_pI (sm_pI S0_ 13 0 27 0) 13 0 10 0) 13 0 11 0) 13 0 9 0) 13 0 12 0) := gi_pI hIx7_ (show 0 ≤ 0 ∧ 0 ≤ 16 from ⟨by omega, by omega⟩)
  have hFx10_ : ai_fr (sx_W vw_340) S0_ (sm_pI (sm_pI (sm_pI (sm_pI (sm_pI S0_ 13 0 27 0) 13 0 10 0) 13 0 11 0) 13 0 9 0) 13 0 12 0) := ai_fr_tr hFx8_ (ai_fr_pI rfl)
  refine sm_T_go 16 (c1 := (26, [some (.inr (.inr (some (13, 0)))), none, none], [.inr (.inr (some (13, 0)))], sm_pI (sm_pI (sm_pI (sm_pI (sm_pI S0_ 13 0 27 0) 13 0 10 0) 13 0 11 0) 13 0 9 0) 13 0 12 0)) rfl ?_
  refine sm_T_cal (d1 := 3) (Q1 := vq_291 b_ n_ (sm_pI (sm_pI (sm_pI (sm_pI (sm_pI S0_ 13 0 27 0) 13 0 10 0) 13 0 11 0) 13 0 9 0) 13 0 12 0)) rfl rfl (by decide) (vc_291 b_ n_ (sm_pI (sm_pI (sm_pI (sm_pI (sm_pI S0_ 13 0 27 0) 13 0 10 0) 13 0 11 0) 13 0 9 0) 13 0 12 0) hIx9_ (by exact hb_) (by exact hn_) (by exact hn1_)) (fun u_ Sx11_ px14_ => ?_)
  obtain ⟨rfl, hIx12_, hFx13_, px14_⟩ := px14_
  have hFx15_ : ai_fr (sx_W vw_340) S0_ Sx11_ := ai_fr_tr hFx10_ (fr_le hFx13_ rfl)
  obtain ⟨T_, tk0_, tk1_, tk2_, tk3_, tk4_, tk5_, tk6_⟩ := px14_
  have hb26_ : Sx11_.2.2.1 118 0 = b_ := (fr_arr hFx13_ rfl).trans hb_
  have ht_ : rtab b_ n_ T_ Sx11_ := ⟨hn1_, tk1_, tk2_, tk3_, tk4_, tk5_, tk6_, fun k_ => by rw [← hb26_]; exact hIx12_.2 118 0 k_⟩
  have mo26_ : Sx11_.1 13 0 27 = 0 := hFx13_.1 13 0 27 rfl
  have at26_ : Sx11_.1 13 0 9 = 0 := hFx13_.1 13 0 9 rfl
  have fa26_ : Sx11_.1 13 0 10 = 0 := hFx13_.1 13 0 10 rfl
  have ms26_ : Sx11_.1 13 0 12 = 0 := hFx13_.1 13 0 12 rfl
  have d0_ := rd_0 ht_
  clear tk6_
  refine sm_T_go 1 (c1 := (30, [some (.inr (.inr (some (13, 0)))), none, none], [.inr (.inr (some (13, 0)))], Sx11_)) rfl ?_
  refine sm_T_cal (d1 := 1) (Q1 := vq_298  Sx11_) rfl rfl (by decide) (vc_298  Sx11_ hIx12_ ) (fun u_ Sx16_ px19_ => ?_)
  obtain ⟨rfl, hIx17_, hFx18_, px19_⟩ := px19_
  have hFx20_ : ai_fr (sx_W vw_340) S0_ Sx16_ := ai_fr_tr hFx15_ (fr_le hFx18_ rfl)
  have t30_ := rtab_fr ht_ hFx18_ rfl rfl rfl rfl rfl
  have e30_ := px19_.2 fa26_
  rw [at26_] at e30_
  have mo30_ := (hFx18_.1 13 0 27 rfl).trans mo26_
  have at30_ := (hFx18_.1 13 0 9 rfl).trans at26_
  have ms30_ := (hFx18_.1 13 0 12 rfl).trans ms26_
  have h30_ : rX b_ n_ T_ (p_de b_ n_) Sx16_ ∨ rI b_ n_ T_ (p_de b_ n_) Sx16_ := by rcases e30_ with ⟨z1_, z2_, z3_⟩ | ⟨z1_, z2_⟩; (left; have y_ := d0_.1 z1_; exact ⟨(1, lx_k b_ n_ 0), by unfold p_de; rw [if_pos y_.1], z2_, z3_.trans y_.2, by show (1 : Int) ≠ 0; decide⟩); (right; have y_ := d0_.2 z1_; exact ⟨lx_k b_ n_ 0, ⟨z2_, 0, at30_, y_⟩, ms30_, by unfold p_de; rw [if_neg y_.2.2.1]; rfl⟩)
  refine sm_T_go 0 (c1 := (33, [some (.inr (.inr (some (13, 0)))), none, none], [], Sx16_)) rfl ?_
  refine (vl_340 b_ n_ S0_ hb_ hn_ hn1_ _)  Sx16_ hIx17_ hFx20_ ⟨?_, ?_, trivial⟩ (Nat.lt_succ_self _)
  · refine ⟨T_, t30_, ?_⟩
    rcases h30_ with z_ | z_
    · exact Or.inl z_
    · exact Or.inr (Or.inr z_)
  · first | rfl | exact mo30_
end
/-! 99.z0a -/
section
/-! the class reader: libraries; written by wip/p55/gen/vg -/

/-! libraries -/
def p_ci (b_ : Nat → Int) (n_ : Nat) : Nat → Nat → (Nat → Nat) → Nat → pE (Nat × (Nat → Nat) × Nat)
  | 0, _, _, _ => .inl (0, 0)
  | u_ + 1, K_, f_, p_ => pb (p_nn b_ n_ K_ f_ 3 p_) fun r_ => if lx_kd b_ n_ r_ = 44 then pb (p_ad b_ n_ r_) fun q_ => p_ci b_ n_ u_ (K_ + 1) (n_up f_ K_ p_) q_ else .inr (K_ + 1, n_up f_ K_ p_, r_)
def p_ms (b_ : Nat → Int) (n_ : Nat) (most : Int) (p_ : Nat) : pE (Nat × Int) := pb (p_nu b_ n_ 1 most p_) fun v_ => pb (p_ad b_ n_ p_) fun q_ => .inr (q_, v_)
def p_tb (K_ : Nat) (v_ : Int) : Int := i_and v_ (2 ^ (2 ^ K_) - 1)
def f_0 : Nat → Nat := fun _ => 0
abbrev pC : Type := Nat × Nat × Int × Int × Int × Nat
def p_ce (b_ : Nat → Int) (n_ K_ : Nat) (f_ : Nat → Nat) (p_ : Nat) : pE pC := pb (p_nd b_ n_ 9 p_) fun q_ => pb (p_nn b_ n_ K_ f_ 12 q_) fun r_ => pb (p_nd b_ n_ 40 r_) fun u_ => pb (p_ci b_ n_ 4 0 f_0 u_) fun i_ => pb (p_nd b_ n_ 41 i_.2.2) fun w_ => pb (p_nd b_ n_ 61 w_) fun x_ => pb (p_ex b_ n_ true (p_pl b_ n_ i_.1 i_.2.1) [] x_) fun y_ => pb (p_nd b_ n_ 44 y_.1) fun a_ => pb (p_ms b_ n_ 1000 a_) fun ar_ => pb (p_nd b_ n_ 44 ar_.1) fun d_ => pb (p_ms b_ n_ 100 d_) fun dl_ => pb (p_nd b_ n_ 59 dl_.1) fun z_ => .inr (q_, i_.1, p_tb i_.1 (h_tp y_.2.1), ar_.2, dl_.2, z_)
abbrev pL : Type := Nat → Int × Int × Int × Int
def l_up (L_ : pL) (K_ : Nat) (c_ : pC) : pL := fun k_ => if k_ = K_ then ((c_.2.1 : Int), c_.2.2.1, c_.2.2.2.1, c_.2.2.2.2.1) else L_ k_
def p_lb (b_ : Nat → Int) (n_ : Nat) : Nat → Nat → (Nat → Nat) → pL → Nat → pE (Nat × pL)
  | 0, _, _, _, _ => .inl (0, 0)
  | u_ + 1, K_, f_, L_, p_ => pb (p_ce b_ n_ K_ f_ p_) fun c_ => if lx_kd b_ n_ c_.2.2.2.2.2 = 0 then .inr (K_ + 1, l_up L_ K_ c_) else p_lb b_ n_ u_ (K_ + 1) (n_up f_ K_ c_.1) (l_up L_ K_ c_) c_.2.2.2.2.2
def p_li (b_ : Nat → Int) (n_ : Nat) : pE (Nat × pL) := if lx_kd b_ n_ (lx_k b_ n_ 0) = -1 then .inl (1, lx_k b_ n_ 0) else p_lb b_ n_ 13 0 f_0 (fun _ => (0, 0, 0, 0)) (lx_k b_ n_ 0)
theorem nmr_up {b_ : Nat → Int} {n_ m_ K_ p_ : Nat} {f_ : Nat → Nat} {S_ S'_ : sm_S} (h_ : nmr b_ n_ m_ K_ f_ S_) (hp_ : nmp b_ n_ p_) (hK_ : K_ < 40) (h0_ : S'_.2.2.1 77 0 m_ = (K_ : Int) + 1) (h1_ : ∀ j_, S'_.2.2.1 78 0 j_ = if j_ = 40 * m_ + K_ then ((16 * p_ + lx_sz b_ n_ p_ : Nat) : Int) else S_.2.2.1 78 0 j_) : nmr b_ n_ m_ (K_ + 1) (n_up f_ K_ p_) S'_ := by
  refine ⟨by rw [h0_]; push_cast; rfl, by omega, h_.2.2.1, fun s_ hs_ => ?_⟩
  rw [h1_]
  unfold n_up
  by_cases e_ : s_ = K_
  · rw [if_pos (by omega), if_pos e_]
    exact ⟨rfl, hp_⟩
  · rw [if_neg (by omega), if_neg e_]
    exact h_.2.2.2 s_ (by omega)
theorem nmr_ot {b_ : Nat → Int} {n_ m_ K_ : Nat} {f_ : Nat → Nat} {S_ S'_ : sm_S} (h_ : nmr b_ n_ m_ K_ f_ S_) (h0_ : S'_.2.2.1 77 0 m_ = S_.2.2.1 77 0 m_) (h1_ : ∀ s_, s_ < K_ → S'_.2.2.1 78 0 (40 * m_ + s_) = S_.2.2.1 78 0 (40 * m_ + s_)) : nmr b_ n_ m_ K_ f_ S'_ := by
  refine ⟨h0_.trans h_.1, h_.2.1, h_.2.2.1, fun s_ hs_ => ?_⟩
  rw [h1_ s_ hs_]
  exact h_.2.2.2 s_ hs_
theorem nn_lt {b_ : Nat → Int} {n_ K_ p_ r_ : Nat} {f_ : Nat → Nat} {w_ : Int} (hp_ : p_ ≤ n_) (h_ : p_nn b_ n_ K_ f_ w_ p_ = .inr r_) : (K_ : Int) ≠ w_ ∧ nmp b_ n_ p_ ∧ p_ < r_ ∧ r_ ≤ n_ ∧ lx_kd b_ n_ r_ ≠ -1 := by
  have k_ := p_nn_ok h_
  have k2_ := p_ad_ok hp_ (by omega) k_.2.2
  exact ⟨k_.1, ⟨hp_, k_.2.1⟩, k2_.2.1, k2_.2.2.1, k2_.2.2.2⟩
theorem ms_x {b_ : Nat → Int} {n_ p_ : Nat} {most : Int} {e_ : Int × Nat} (h_ : p_nu b_ n_ 1 most p_ = .inl e_) : p_ms b_ n_ most p_ = .inl e_ := by
  unfold p_ms
  rw [h_]
  rfl
theorem pb_as3 {α β γ : Type} {z_ : pE α} {f_ : α → pE β} {g_ : β → pE γ} : pb (pb z_ f_) g_ = pb z_ fun a_ => pb (f_ a_) g_ := by cases z_ <;> rfl
theorem sm_up_eq {S_ : sm_S} {t_ i_ k_ : Nat} {y_ : Option Nat} (h_ : True = True) : (sm_pR S_ t_ i_ k_ y_).2.1 t_ i_ k_ = y_ := by
  show (if t_ = t_ ∧ i_ = i_ ∧ k_ = k_ then y_ else S_.2.1 t_ i_ k_) = y_
  rw [if_pos ⟨rfl, rfl, rfl⟩]
theorem i_and_m {x_ y_ : Int} (hx_ : 0 ≤ x_ ∧ x_ ≤ 2047) (hy_ : 0 ≤ y_ ∧ y_ ≤ 255) : 0 ≤ i_and x_ y_ ∧ i_and x_ y_ ≤ 255 := by
  have e3_ : i_and x_ y_ = ((x_.toNat &&& y_.toNat : Nat) : Int) := bt_and_nat hx_.1 (by omega) hy_.1 (by omega)
  have h3_ : (x_.toNat &&& y_.toNat) ≤ y_.toNat := Nat.and_le_right
  rw [e3_]
  omega
theorem pw_tb {K_ : Nat} (h_ : K_ ≤ 3) : i_shl 1 (i_shl 1 (K_ : Int)) = 2 ^ (2 ^ K_) ∧ (0 ≤ i_shl 1 (K_ : Int) ∧ i_shl 1 (K_ : Int) ≤ 8) ∧ (1 : Int) ≤ 2 ^ (2 ^ K_) ∧ (2 : Int) ^ (2 ^ K_) ≤ 256 := by
  have h4_ : K_ = 0 ∨ K_ = 1 ∨ K_ = 2 ∨ K_ = 3 := by omega
  rcases h4_ with e_ | e_ | e_ | e_ <;> (subst e_; decide +kernel)
/-! one_ cell, step by step -/
abbrev pK : Type := pC → pE (Nat × pL)
abbrev pI : Type := Nat × (Nat → Nat) × Nat
def e12 (b_ : Nat → Int) (n_ : Nat) (k_ : pK) (q_ : Nat) (i_ : pI) (tb_ ar_ : Int) (dl_ : Nat × Int) : pE (Nat × pL) := pb (p_nd b_ n_ 59 dl_.1) fun z_ => k_ (q_, i_.1, tb_, ar_, dl_.2, z_)
def e11 (b_ : Nat → Int) (n_ : Nat) (k_ : pK) (q_ : Nat) (i_ : pI) (tb_ ar_ : Int) (d_ : Nat) : pE (Nat × pL) := pb (p_ms b_ n_ 100 d_) fun dl_ => e12 b_ n_ k_ q_ i_ tb_ ar_ dl_
def e10 (b_ : Nat → Int) (n_ : Nat) (k_ : pK) (q_ : Nat) (i_ : pI) (tb_ : Int) (ar_ : Nat × Int) : pE (Nat × pL) := pb (p_nd b_ n_ 44 ar_.1) fun d_ => e11 b_ n_ k_ q_ i_ tb_ ar_.2 d_
def e09 (b_ : Nat → Int) (n_ : Nat) (k_ : pK) (q_ : Nat) (i_ : pI) (tb_ : Int) (a_ : Nat) : pE (Nat × pL) := pb (p_ms b_ n_ 1000 a_) fun ar_ => e10 b_ n_ k_ q_ i_ tb_ ar_
def e08 (b_ : Nat → Int) (n_ : Nat) (k_ : pK) (q_ : Nat) (i_ : pI) (y_ : pR) : pE (Nat × pL) := pb (p_nd b_ n_ 44 y_.1) fun a_ => e09 b_ n_ k_ q_ i_ (p_tb i_.1 (h_tp y_.2.1)) a_
def e07 (b_ : Nat → Int) (n_ : Nat) (k_ : pK) (q_ : Nat) (i_ : pI) (x_ : Nat) : pE (Nat × pL) := pb (p_ex b_ n_ true (p_pl b_ n_ i_.1 i_.2.1) [] x_) fun y_ => e08 b_ n_ k_ q_ i_ y_
def e06 (b_ : Nat → Int) (n_ : Nat) (k_ : pK) (q_ : Nat) (i_ : pI) (w_ : Nat) : pE (Nat × pL) := pb (p_nd b_ n_ 61 w_) fun x_ => e07 b_ n_ k_ q_ i_ x_
def e05 (b_ : Nat → Int) (n_ : Nat) (k_ : pK) (q_ : Nat) (i_ : pI) : pE (Nat × pL) := pb (p_nd b_ n_ 41 i_.2.2) fun w_ => e06 b_ n_ k_ q_ i_ w_
def e04 (b_ : Nat → Int) (n_ : Nat) (k_ : pK) (q_ : Nat) (u_ : Nat) : pE (Nat × pL) := pb (p_ci b_ n_ 4 0 f_0 u_) fun i_ => e05 b_ n_ k_ q_ i_
def e03 (b_ : Nat → Int) (n_ : Nat) (k_ : pK) (q_ : Nat) (r_ : Nat) : pE (Nat × pL) := pb (p_nd b_ n_ 40 r_) fun u_ => e04 b_ n_ k_ q_ u_
def e02 (b_ : Nat → Int) (n_ : Nat) (k_ : pK) (K_ : Nat) (f_ : Nat → Nat) (q_ : Nat) : pE (Nat × pL) := pb (p_nn b_ n_ K_ f_ 12 q_) fun r_ => e03 b_ n_ k_ q_ r_
def e01 (b_ : Nat → Int) (n_ : Nat) (k_ : pK) (K_ : Nat) (f_ : Nat → Nat) (p_ : Nat) : pE (Nat × pL) := pb (p_nd b_ n_ 9 p_) fun q_ => e02 b_ n_ k_ K_ f_ q_
def k_lb (b_ : Nat → Int) (n_ u_ K_ : Nat) (f_ : Nat → Nat) (L_ : pL) : pK := fun c_ => if lx_kd b_ n_ c_.2.2.2.2.2 = 0 then .inr (K_ + 1, l_up L_ K_ c_) else p_lb b_ n_ u_ (K_ + 1) (n_up f_ K_ c_.1) (l_up L_ K_ c_) c_.2.2.2.2.2
theorem ms49 {g_ : Int} {k_ : Nat} (h_ : g_ ≤ 12) (hm_ : (10 * (20 - g_) + 3).toNat < k_ + 1) : (10 * (20 - g_) + 1).toNat < k_ := by omega
theorem ce_k {b_ : Nat → Int} {n_ K_ p_ : Nat} {f_ : Nat → Nat} {k_ : pK} : pb (p_ce b_ n_ K_ f_ p_) k_ = e01 b_ n_ k_ K_ f_ p_ := by
  unfold p_ce e01 e02 e03 e04 e05 e06 e07 e08 e09 e10 e11 e12
  simp only [pb_as3]
  rfl
theorem lb_k {b_ : Nat → Int} {n_ u_ K_ p_ : Nat} {f_ : Nat → Nat} {L_ : pL} : p_lb b_ n_ (u_ + 1) K_ f_ L_ p_ = e01 b_ n_ (k_lb b_ n_ u_ K_ f_ L_) K_ f_ p_ := by
  rw [← ce_k]
  rfl
theorem ci_e2 {b_ : Nat → Int} {n_ q_ u_ : Nat} {k_ : pK} {e_ : Int × Nat} (h_ : (pb (p_ci b_ n_ 4 0 f_0 u_) fun i_ => p_nd b_ n_ 41 i_.2.2) = .inl e_) : e04 b_ n_ k_ q_ u_ = .inl e_ := by
  unfold e04
  cases hP_ : p_ci b_ n_ 4 0 f_0 u_ with
  | inl z_ => rw [hP_] at h_; cases h_; rfl
  | inr a_ =>
    rw [hP_] at h_
    have h1_ : p_nd b_ n_ 41 a_.2.2 = .inl e_ := h_
    show e05 b_ n_ k_ q_ a_ = .inl e_
    unfold e05
    rw [h1_]
    rfl
end
/-! 99.z0b -/
section
/-! Reader.readCellInputs -/
def vw_132 : sx_Wl := ([(10, 2), (10, 3), (10, 4), (10, 5), (10, 6), (10, 7), (10, 8)], [77, 78], [])
def vq_132 (b_ : Nat → Int) (n_ : Nat) (p_ : Nat) (KC_ : Nat) (fC_ : Nat → Nat) (S0_ : sm_S) (u_ : Option sm_V) (S1_ : sm_S) : Prop := u_ = none ∧ gi S1_ ∧ ai_fr (sx_W vw_132) S0_ S1_ ∧ (∃ K_ f_ q_ r_, (p_ci b_ n_ 4 0 f_0 p_) = .inr (K_, f_, q_) ∧ p_nd b_ n_ 41 q_ = .inr r_ ∧ ct b_ n_ r_ S1_ ∧ nmr b_ n_ 1 K_ f_ S1_ ∧ nmr b_ n_ 0 KC_ fC_ S1_ ∧ (1 ≤ K_ ∧ K_ ≤ 3) ∧ p_ < r_)
def vx_132 (b_ : Nat → Int) (n_ : Nat) (p_ : Nat) (KC_ : Nat) (fC_ : Nat → Nat) (S0_ : sm_S) (S1_ : sm_S) : Prop := gi S1_ ∧ ai_fr (sx_W vw_132) S0_ S1_ ∧ (∃ e_, (pb (p_ci b_ n_ 4 0 f_0 p_) fun i_ => p_nd b_ n_ 41 i_.2.2) = .inl e_ ∧ ter S1_ e_)
set_option maxHeartbeats 1000000 in
theorem vl_132 {sc_ : Nat × (Nat → Int)} (b_ : Nat → Int) (n_ : Nat) (p_ : Nat) (KC_ : Nat) (fC_ : Nat → Nat) (S0_ : sm_S) (hc_ : ct b_ n_ p_ S0_) (hKC_ : nmr b_ n_ 0 KC_ fC_ S0_ ∧ KC_ ≤ 12) : ∀ nn_ : Nat, (∀ (mr_ : Int) (g_ : Int) (S_ : sm_S), gi S_ → ai_fr (sx_W vw_132) S0_ S_ → ((0 ≤ g_ ∧ g_ ≤ 4) ∧ ((mr_ = 1 ∧ g_ ≤ 3 ∧ ∃ f1_ p1_, ct b_ n_ p1_ S_ ∧ nmr b_ n_ 1 g_.toNat f1_ S_ ∧ (p_ci b_ n_ 4 0 f_0 p_) = p_ci b_ n_ (4 - g_.toNat) g_.toNat f1_ p1_ ∧ p_ ≤ p1_ ∧ nmr b_ n_ 0 KC_ fC_ S_) ∨ (mr_ = 0 ∧ ∃ K1_ f1_ p1_, ct b_ n_ p1_ S_ ∧ nmr b_ n_ 1 K1_ f1_ S_ ∧ (p_ci b_ n_ 4 0 f_0 p_) = .inr (K1_, f1_, p1_) ∧ p_ < p1_ ∧ nmr b_ n_ 0 KC_ fC_ S_ ∧ 1 ≤ K1_ ∧ K1_ ≤ 3)) ∧ True) → ((10 - g_).toNat) < nn_ → sm_T (mt_P sc_) 3 132 (11, [some (.inr (.inr (some (7, 0)))), some (.inl mr_), some (.inl g_), none], [], S_) (fun r_ => (∃ u_ S1_, r_ = (.inl u_, S1_, 0) ∧ vq_132 b_ n_ p_ KC_ fC_ S0_ u_ S1_) ∨ ∃ S1_, r_ = (.inr 2, S1_, 1) ∧ vx_132 b_ n_ p_ KC_ fC_ S0_ S1_)) := by
  intro nn_
  induction nn_ with
  | zero => exact fun _ _ _ _ _ _ h_ => absurd h_ (Nat.not_lt_zero _)
  | succ nn_ ih_ =>
    rintro mr_ g_ S_ hI_ hF_ ⟨h0_, h1_, -⟩ hm_
    have hn1_ := hc_.2.2.1
    refine sm_T_go 2 (c1 := (13, [some (.inr (.inr (some (7, 0)))), some (.inl mr_), some (.inl g_), none], [.inl 3, .inl g_], S_)) rfl ?_
    refine sm_T_br (a := 4) (z := 74) rfl (fun cx1_ => ?_) (fun cx1_ => ?_)
    · have cx1_ : 3 < g_ := of_decide_eq_true cx1_
      obtain ⟨K1_, f1_, p1_, y1_, y2_, y3_, y4_, y5_, kb1_, kb2_⟩ : ∃ K1_ f1_ p1_, ct b_ n_ p1_ S_ ∧ nmr b_ n_ 1 K1_ f1_ S_ ∧ (p_ci b_ n_ 4 0 f_0 p_) = .inr (K1_, f1_, p1_) ∧ p_ < p1_ ∧ nmr b_ n_ 0 KC_ fC_ S_ ∧ 1 ≤ K1_ ∧ K1_ ≤ 3 := by rcases h1_ with z_ | z_; (exfalso; have z1_ := z_.1; have z2_ := z_.2.1; omega); exact z_.2
      refine sm_T_go 3 (c1 := (93, [some (.inr (.inr (some (7, 0)))), some (.inl mr_), some (.inl g_), none], [.inl 41, .inr (.inr (some (10, 0)))], S_)) rfl ?_
      refine sm_T_calx (d1 := 2) (Q1 := vq_188 41 b_ n_ p1_ S_) (Q2 := vx_188 41 b_ n_ p1_ S_) rfl rfl (by decide) (vc_188 41 b_ n_ p1_ S_ hI_ (by exact y1_)) rfl (fun Sx2_ px5_ => ?_) (fun u_ Sx2_ px5_ => ?_)
      · obtain ⟨hIx3_, hFx4_, px5_⟩ := px5_
        refine Or.inr ⟨_, rfl, hIx3_, ai_fr_tr hF_ (fr_le hFx4_ rfl), ?_⟩
        obtain ⟨e9_, w1_, w2_⟩ := px5_
        refine ⟨e9_, ?_, w2_⟩
        rw [y3_]; exact w1_
      obtain ⟨rfl, hIx3_, hFx4_, px5_⟩ := px5_
      have hFx6_ : ai_fr (sx_W vw_132) S0_ Sx2_ := ai_fr_tr hF_ (fr_le hFx4_ rfl)
      obtain ⟨r9_, a9_, c9_⟩ := px5_
      have k9_ := p_nd_ok (by decide) y1_.2.2.2.1 a9_
      have f93_ := hFx4_
      refine sm_T_rv rfl (Or.inl ⟨_, _, rfl, rfl, hIx3_, hFx6_, ?_⟩)
      refine ⟨K1_, f1_, p1_, r9_, y3_, a9_, c9_, nmr_fr y2_ f93_ rfl rfl, nmr_fr y5_ f93_ rfl rfl, by omega, ?_⟩
      omega
    · have cx1_ : ¬ (3 < g_) := of_decide_eq_false cx1_
      refine sm_T_go 1 (c1 := (17, [some (.inr (.inr (some (7, 0)))), some (.inl mr_), some (.inl g_), none], [.inl mr_], S_)) rfl ?_
      refine sm_T_b0 (a := 0) (z := 70) rfl (fun cx7_ => ?_) (fun cx7_ => ?_)
      · have cx7_ : mr_ = 0 := of_decide_eq_true cx7_
        obtain ⟨K1_, f1_, p1_, y1_, y2_, y3_, y4_, y5_, kb1_, kb2_⟩ : ∃ K1_ f1_ p1_, ct b_ n_ p1_ S_ ∧ nmr b_ n_ 1 K1_ f1_ S_ ∧ (p_ci b_ n_ 4 0 f_0 p_) = .inr (K1_, f1_, p1_) ∧ p_ < p1_ ∧ nmr b_ n_ 0 KC_ fC_ S_ ∧ 1 ≤ K1_ ∧ K1_ ≤ 3 := by rcases h1_ with z_ | z_; (exfalso; have z1_ := z_.1; have z2_ := z_.2.1; omega); exact z_.2
        refine sm_T_go 3 (c1 := (93, [some (.inr (.inr (some (7, 0)))), some (.inl mr_), some (.inl g_), none], [.inl 41, .inr (.inr (some (10, 0)))], S_)) rfl ?_
        refine sm_T_calx (d1 := 2) (Q1 := vq_188 41 b_ n_ p1_ S_) (Q2 := vx_188 41 b_ n_ p1_ S_) rfl rfl (by decide) (vc_188 41 b_ n_ p1_ S_ hI_ (by exact y1_)) rfl (fun Sx8_ px11_ => ?_) (fun u_ Sx8_ px11_ => ?_)
        · obtain ⟨hIx9_, hFx10_, px11_⟩ := px11_
          refine Or.inr ⟨_, rfl, hIx9_, ai_fr_tr hF_ (fr_le hFx10_ rfl), ?_⟩
          obtain ⟨e9_, w1_, w2_⟩ := px11_
          refine ⟨e9_, ?_, w2_⟩
          rw [y3_]; exact w1_
        obtain ⟨rfl, hIx9_, hFx10_, px11_⟩ := px11_
        have hFx12_ : ai_fr (sx_W vw_132) S0_ Sx8_ := ai_fr_tr hF_ (fr_le hFx10_ rfl)
        obtain ⟨r9_, a9_, c9_⟩ := px11_
        have k9_ := p_nd_ok (by decide) y1_.2.2.2.1 a9_
        have f93_ := hFx10_
        refine sm_T_rv rfl (Or.inl ⟨_, _, rfl, rfl, hIx9_, hFx12_, ?_⟩)
        refine ⟨K1_, f1_, p1_, r9_, y3_, a9_, c9_, nmr_fr y2_ f93_ rfl rfl, nmr_fr y5_ f93_ rfl rfl, by omega, ?_⟩
        omega
      · have cx7_ : ¬ (mr_ = 0) := of_decide_eq_false cx7_
        obtain ⟨f1_, p1_, y1_, y2_, y3_, y4_, y5_⟩ : ∃ f1_ p1_, ct b_ n_ p1_ S_ ∧ nmr b_ n_ 1 g_.toNat f1_ S_ ∧ (p_ci b_ n_ 4 0 f_0 p_) = p_ci b_ n_ (4 - g_.toNat) g_.toNat f1_ p1_ ∧ p_ ≤ p1_ ∧ nmr b_ n_ 0 KC_ fC_ S_ := by rcases h1_ with z_ | z_; (exact z_.2.2); (exfalso; have z1_ := z_.1; omega)
        clear h1_
        refine sm_T_go 3 (c1 := (23, [some (.inr (.inr (some (7, 0)))), some (.inl mr_), some (.inl g_), none], [.inl 3, .inl 1, .inr (.inr (some (7, 0)))], S_)) rfl ?_
        refine sm_T_calx (d1 := 2) (Q1 := vq_120 1 3 b_ n_ p1_ 1 g_.toNat f1_ S_) (Q2 := vx_120 1 3 b_ n_ p1_ 1 g_.toNat f1_ S_) rfl rfl (by decide) (vc_120 1 3 b_ n_ p1_ 1 g_.toNat f1_ S_ hI_ (by exact y1_) (by rfl) (by exact y2_)) rfl (fun Sx13_ px16_ => ?_) (fun u_ Sx13_ px16_ => ?_)
        · obtain ⟨hIx14_, hFx15_, px16_⟩ := px16_
          refine Or.inr ⟨_, rfl, hIx14_, ai_fr_tr hF_ (fr_le hFx15_ rfl), ?_⟩
          obtain ⟨e9_, w1_, w2_⟩ := px16_
          refine ⟨e9_, ?_, w2_⟩
          rw [y3_, show 4 - g_.toNat = (3 - g_.toNat) + 1 by omega, p_ci, pb_l w1_]; rfl
        obtain ⟨vx18_, rfl, hIx14_, hFx15_, px16_⟩ := px16_
        have hFx17_ : ai_fr (sx_W vw_132) S0_ Sx13_ := ai_fr_tr hF_ (fr_le hFx15_ rfl)
        obtain ⟨nv_, nk_, r9_, a9_, c9_⟩ := px16_
        have nn9_ := nn_lt y1_.2.2.2.1 a9_
        have gl_ : g_ ≤ 2 := by have := nn9_.1; omega
        have rw9_ := nmr_fr y2_ hFx15_ rfl rfl
        have kc9_ := nmr_fr y5_ hFx15_ rfl rfl
        have kd9_ := c9_.2.2.2.2.2.2.2.1
        have hp9_ := c9_.2.2.2.1
        have cn9_ := rw9_.1
        have cn8_ : Sx13_.2.2.1 77 0 (1 : Int).toNat = g_ := by have z_ : Sx13_.2.2.1 77 0 1 = (g_.toNat : Int) := cn9_; show Sx13_.2.2.1 77 0 1 = g_; omega
        have sz9_ := nmp_sz nn9_.2.1
        have P9_ : (p_ci b_ n_ 4 0 f_0 p_) = if lx_kd b_ n_ r9_ = 44 then pb (p_ad b_ n_ r9_) fun q_ => p_ci b_ n_ (3 - g_.toNat) (g_.toNat + 1) (n_up f1_ g_.toNat p1_) q_ else .inr (g_.toNat + 1, n_up f1_ g_.toNat p1_, r9_) := by rw [y3_, show 4 - g_.toNat = (3 - g_.toNat) + 1 by omega, p_ci, pb_r a9_]
        have KCl_ := kc9_.2.1
        refine sm_T_go 7 (c1 := (38, [some (.inr (.inr (some (7, 0)))), some (.inl mr_), some (.inl g_), some (.inl vx18_)], [.inl 1, .inr (.inr (some (77, 0))), .inl 40, .inr (.inr (some (78, 0)))], Sx13_)) rfl ?_
        refine sm_T_iald (n := 17) rfl rfl (by omega) (by omega) ?_
        have bx19_ : 0 ≤ Sx13_.2.2.1 77 0 (1 : Int).toNat ∧ Sx13_.2.2.1 77 0 (1 : Int).toNat ≤ 40 := hIx14_.2 77 0 _
        refine sm_T_bin (w := (Sx13_.2.2.1 77 0 (1 : Int).toNat) + 40) rfl (bi_add (by omega) (by omega) (by omega)) ?_
        refine sm_T_go 1 (c1 := (41, [some (.inr (.inr (some (7, 0)))), some (.inl mr_), some (.inl g_), some (.inl vx18_)], [.inl vx18_, .inl ((Sx13_.2.2.1 77 0 (1 : Int).toNat) + 40), .inr (.inr (some (78, 0)))], Sx13_)) rfl ?_
        refine sm_T_iast (n := 640) rfl rfl (by omega) (by omega) ?_
        have hIx20_ : gi (sm_aI Sx13_ 78 0 ((Sx13_.2.2.1 77 0 (1 : Int).toNat) + 40).toNat vx18_) := gi_aI hIx14_ (show 0 ≤ vx18_ ∧ vx18_ ≤ 65535 from ⟨by omega, by omega⟩)
        have hFx21_ : ai_fr (sx_W vw_132) S0_ (sm_aI Sx13_ 78 0 ((Sx13_.2.2.1 77 0 (1 : Int).toNat) + 40).toNat vx18_) := ai_fr_tr hFx17_ (ai_fr_aI rfl)
        refine sm_T_go 4 (c1 := (48, [some (.inr (.inr (some (7, 0)))), some (.inl mr_), some (.inl g_), some (.inl vx18_)], [.inl 1, .inr (.inr (some (77, 0))), .inl 1, .inr (.inr (some (77, 0)))], sm_aI Sx13_ 78 0 ((Sx13_.2.2.1 77 0 (1 : Int).toNat) + 40).toNat vx18_)) rfl ?_
        refine sm_T_iald (n := 17) rfl rfl (by omega) (by omega) ?_
        refine sm_T_go 1 (c1 := (50, [some (.inr (.inr (some (7, 0)))), some (.inl mr_), some (.inl g_), some (.inl vx18_)], [.inl 1, .inl (Sx13_.2.2.1 77 0 (1 : Int).toNat), .inl 1, .inr (.inr (some (77, 0)))], sm_aI Sx13_ 78 0 ((Sx13_.2.2.1 77 0 (1 : Int).toNat) + 40).toNat vx18_)) rfl ?_
        refine sm_T_bin (w := (Sx13_.2.2.1 77 0 (1 : Int).toNat) + 1) rfl (bi_add (by omega) (by omega) (by omega)) ?_
        refine sm_T_iast (n := 17) rfl rfl (by omega) (by omega) ?_
        have hIx22_ : gi (sm_aI (sm_aI Sx13_ 78 0 ((Sx13_.2.2.1 77 0 (1 : Int).toNat) + 40).toNat vx18_) 77 0 (1 : Int).toNat ((Sx13_.2.2.1 77 0 (1 : Int).toNat) + 1)) := gi_aI hIx20_ (show 0 ≤ (Sx13_.2.2.1 77 0 (1 : Int).toNat) + 1 ∧ (Sx13_.2.2.1 77 0 (1 : Int).toNat) + 1 ≤ 40 from ⟨by omega, by omega⟩)
        have hFx23_ : ai_fr (sx_W vw_132) S0_ (sm_aI (sm_aI Sx13_ 78 0 ((Sx13_.2.2.1 77 0 (1 : Int).toNat) + 40).toNat vx18_) 77 0 (1 : Int).toNat ((Sx13_.2.2.1 77 0 (1 : Int).toNat) + 1)) := ai_fr_tr hFx21_ (ai_fr_aI rfl)
        have bx24_ : (-128) ≤ Sx13_.1 10 0 2 ∧ Sx13_.1 10 0 2 ≤ 257 := hIx14_.1 10 0 2 rfl
        refine sm_T_go 4 (c1 := (61, [some (.inr (.inr (some (7, 0)))), some (.inl mr_), some (.inl g_), some (.inl vx18_)], [.inl 44, .inl (Sx13_.1 10 0 2)], sm_aI (sm_aI Sx13_ 78 0 ((Sx13_.2.2.1 77 0 (1 : Int).toNat) + 40).toNat vx18_) 77 0 (1 : Int).toNat ((Sx13_.2.2.1 77 0 (1 : Int).toNat) + 1))) rfl ?_
        refine sm_T_br (a := 1) (z := 7) rfl (fun cx25_ => ?_) (fun cx25_ => ?_)
        · have cx25_ : (Sx13_.1 10 0 2) ≠ 44 := of_decide_eq_true cx25_
          refine sm_T_go 4 (c1 := (81, [some (.inr (.inr (some (7, 0)))), some (.inl 0), some (.inl g_), some (.inl vx18_)], [], sm_aI (sm_aI Sx13_ 78 0 ((Sx13_.2.2.1 77 0 (1 : Int).toNat) + 40).toNat vx18_) 77 0 (1 : Int).toNat ((Sx13_.2.2.1 77 0 (1 : Int).toNat) + 1))) rfl ?_
          refine sm_T_inc (a := 2) (z := 1) (v := g_) (w := g_ + 1) rfl rfl (by omega) (by omega) (by omega) ?_
          refine sm_T_go 1 (c1 := (11, [some (.inr (.inr (some (7, 0)))), some (.inl 0), some (.inl (g_ + 1)), some (.inl vx18_)], [], sm_aI (sm_aI Sx13_ 78 0 ((Sx13_.2.2.1 77 0 (1 : Int).toNat) + 40).toNat vx18_) 77 0 (1 : Int).toNat ((Sx13_.2.2.1 77 0 (1 : Int).toNat) + 1))) rfl ?_
          refine sm_T_wk [some (.inr (.inr (some (7, 0)))), some (.inl 0), some (.inl (g_ + 1)), none] (by exact ⟨rfl, rfl, rfl, trivial⟩) ?_
          refine ih_ 0 (g_ + 1) (sm_aI (sm_aI Sx13_ 78 0 ((Sx13_.2.2.1 77 0 (1 : Int).toNat) + 40).toNat vx18_) 77 0 (1 : Int).toNat ((Sx13_.2.2.1 77 0 (1 : Int).toNat) + 1)) hIx22_ hFx23_ ⟨?_, ?_, trivial⟩ ?_
          · omega
          · first | (left; refine ⟨rfl, by omega, n_up f1_ g_.toNat p1_, (lx_nx b_ n_ r9_), c78_, ?_, ?_, by omega, ?_⟩; (rw [show (g_ + 1).toNat = g_.toNat + 1 by omega]; exact nmr_fr (nmr_up (p_ := p1_) rw9_ nn9_.2.1 (by omega) (by (try simp only [rd_eq, rd_ne, rf_eq, rf_nk, rf_nt, rd_fa, rd_af, ne_eq, Nat.reduceEqDiff, not_false_eq_true]); (try rw [if_pos rfl]); (try rw [if_pos (show (1 : Nat) = (1 : Int).toNat from rfl)]); omega) (fun j_ => by (try simp only [rd_eq, rd_ne, rf_eq, rf_nk, rf_nt, rd_fa, rd_af, ne_eq, Nat.reduceEqDiff, not_false_eq_true]); rw [cn8_]; by_cases z_ : j_ = 40 * 1 + g_.toNat; (rw [if_pos (by omega), if_pos z_]; exact nv_); (rw [if_neg (by omega), if_neg z_]))) f78_ rfl rfl); (rw [P9_, if_pos (by omega), a78_, show 4 - (g_ + 1).toNat = 3 - g_.toNat by omega, show (g_ + 1).toNat = g_.toNat + 1 by omega]; rfl); (exact nmr_fr (nmr_ot kc9_ (by (try simp only [rd_eq, rd_ne, rf_eq, rf_nk, rf_nt, rd_fa, rd_af, ne_eq, Nat.reduceEqDiff, not_false_eq_true]); rw [if_neg (by decide)]) (fun s_ hs_ => by (try simp only [rd_eq, rd_ne, rf_eq, rf_nk, rf_nt, rd_fa, rd_af, ne_eq, Nat.reduceEqDiff, not_false_eq_true]); rw [cn8_, if_neg (by omega)])) f78_ rfl rfl)) | (right; refine ⟨rfl, g_.toNat + 1, n_up f1_ g_.toNat p1_, r9_, ct_fr (w_ := ([], [77, 78], [])) c9_ (ai_fr_tr (ai_fr_aI rfl) (ai_fr_aI rfl)) rfl rfl rfl rfl rfl rfl rfl, (nmr_up (p_ := p1_) rw9_ nn9_.2.1 (by omega) (by (try simp only [rd_eq, rd_ne, rf_eq, rf_nk, rf_nt, rd_fa, rd_af, ne_eq, Nat.reduceEqDiff, not_false_eq_true]); (try rw [if_pos rfl]); (try rw [if_pos (show (1 : Nat) = (1 : Int).toNat from rfl)]); omega) (fun j_ => by (try simp only [rd_eq, rd_ne, rf_eq, rf_nk, rf_nt, rd_fa, rd_af, ne_eq, Nat.reduceEqDiff, not_false_eq_true]); rw [cn8_]; by_cases z_ : j_ = 40 * 1 + g_.toNat; (rw [if_pos (by omega), if_pos z_]; exact nv_); (rw [if_neg (by omega), if_neg z_]))), ?_, by omega, (nmr_ot kc9_ (by (try simp only [rd_eq, rd_ne, rf_eq, rf_nk, rf_nt, rd_fa, rd_af, ne_eq, Nat.reduceEqDiff, not_false_eq_true]); rw [if_neg (by decide)]) (fun s_ hs_ => by (try simp only [rd_eq, rd_ne, rf_eq, rf_nk, rf_nt, rd_fa, rd_af, ne_eq, Nat.reduceEqDiff, not_false_eq_true]); rw [cn8_, if_neg (by omega)])), by omega, by omega⟩; rw [P9_, if_neg (by omega)])
          · omega
        · have cx25_ : ¬ ((Sx13_.1 10 0 2) ≠ 44) := of_decide_eq_false cx25_
          refine sm_T_go 7 (c1 := (78, [some (.inr (.inr (some (7, 0)))), some (.inl 1), some (.inl g_), some (.inl vx18_)], [.inr (.inr (some (10, 0)))], sm_aI (sm_aI Sx13_ 78 0 ((Sx13_.2.2.1 77 0 (1 : Int).toNat) + 40).toNat vx18_) 77 0 (1 : Int).toNat ((Sx13_.2.2.1 77 0 (1 : Int).toNat) + 1))) rfl ?_
          refine sm_T_calx (d1 := 1) (Q1 := vq_191 b_ n_ (lx_en b_ n_ r9_) (sm_aI (sm_aI Sx13_ 78 0 ((Sx13_.2.2.1 77 0 (1 : Int).toNat) + 40).toNat vx18_) 77 0 (1 : Int).toNat ((Sx13_.2.2.1 77 0 (1 : Int).toNat) + 1))) (Q2 := vx_191 b_ n_ (lx_en b_ n_ r9_) (sm_aI (sm_aI Sx13_ 78 0 ((Sx13_.2.2.1 77 0 (1 : Int).toNat) + 40).toNat vx18_) 77 0 (1 : Int).toNat ((Sx13_.2.2.1 77 0 (1 : Int).toNat) + 1))) rfl rfl (by decide) (vc_191 b_ n_ (lx_en b_ n_ r9_) (sm_aI (sm_aI Sx13_ 78 0 ((Sx13_.2.2.1 77 0 (1 : Int).toNat) + 40).toNat vx18_) 77 0 (1 : Int).toNat ((Sx13_.2.2.1 77 0 (1 : Int).toNat) + 1)) hIx22_ (by exact c9_.1) (by exact c9_.2.1) (by exact hn1_) (by exact c9_.2.2.2.2.2.2.1) (by exact (lx_en_le (b := b_) hp9_).2)) rfl (fun Sx26_ px29_ => ?_) (fun u_ Sx26_ px29_ => ?_)
          · obtain ⟨hIx27_, hFx28_, px29_⟩ := px29_
            refine Or.inr ⟨_, rfl, hIx27_, ai_fr_tr hFx23_ (fr_le hFx28_ rfl), ?_⟩
            refine ⟨(1, (lx_nx b_ n_ r9_)), ?_, px29_.2⟩
            rw [P9_, if_pos (by omega), p_ad_x px29_.1]; rfl
          obtain ⟨rfl, hIx27_, hFx28_, px29_⟩ := px29_
          have hFx30_ : ai_fr (sx_W vw_132) S0_ Sx26_ := ai_fr_tr hFx23_ (fr_le hFx28_ rfl)
          have c78_ := px29_
          have a78_ := p_ad_c px29_
          have k78_ := p_ad_ok hp9_ (by omega) a78_
          have f78_ := hFx28_
          refine sm_T_inc (a := 2) (z := 1) (v := g_) (w := g_ + 1) rfl rfl (by omega) (by omega) (by omega) ?_
          refine sm_T_go 1 (c1 := (11, [some (.inr (.inr (some (7, 0)))), some (.inl 1), some (.inl (g_ + 1)), some (.inl vx18_)], [], Sx26_)) rfl ?_
          refine sm_T_wk [some (.inr (.inr (some (7, 0)))), some (.inl 1), some (.inl (g_ + 1)), none] (by exact ⟨rfl, rfl, rfl, trivial⟩) ?_
          refine ih_ 1 (g_ + 1) Sx26_ hIx27_ hFx30_ ⟨?_, ?_, trivial⟩ ?_
          · omega
          · first | (left; refine ⟨rfl, by omega, n_up f1_ g_.toNat p1_, (lx_nx b_ n_ r9_), c78_, ?_, ?_, by omega, ?_⟩; (rw [show (g_ + 1).toNat = g_.toNat + 1 by omega]; exact nmr_fr (nmr_up (p_ := p1_) rw9_ nn9_.2.1 (by omega) (by (try simp only [rd_eq, rd_ne, rf_eq, rf_nk, rf_nt, rd_fa, rd_af, ne_eq, Nat.reduceEqDiff, not_false_eq_true]); (try rw [if_pos rfl]); (try rw [if_pos (show (1 : Nat) = (1 : Int).toNat from rfl)]); omega) (fun j_ => by (try simp only [rd_eq, rd_ne, rf_eq, rf_nk, rf_nt, rd_fa, rd_af, ne_eq, Nat.reduceEqDiff, not_false_eq_true]); rw [cn8_]; by_cases z_ : j_ = 40 * 1 + g_.toNat; (rw [if_pos (by omega), if_pos z_]; exact nv_); (rw [if_neg (by omega), if_neg z_]))) f78_ rfl rfl); (rw [P9_, if_pos (by omega), a78_, show 4 - (g_ + 1).toNat = 3 - g_.toNat by omega, show (g_ + 1).toNat = g_.toNat + 1 by omega]; rfl); (exact nmr_fr (nmr_ot kc9_ (by (try simp only [rd_eq, rd_ne, rf_eq, rf_nk, rf_nt, rd_fa, rd_af, ne_eq, Nat.reduceEqDiff, not_false_eq_true]); rw [if_neg (by decide)]) (fun s_ hs_ => by (try simp only [rd_eq, rd_ne, rf_eq, rf_nk, rf_nt, rd_fa, rd_af, ne_eq, Nat.reduceEqDiff, not_false_eq_true]); rw [cn8_, if_neg (by omega)])) f78_ rfl rfl)) | (right; refine ⟨rfl, g_.toNat + 1, n_up f1_ g_.toNat p1_, r9_, ct_fr (w_ := ([], [77, 78], [])) c9_ (ai_fr_tr (ai_fr_aI rfl) (ai_fr_aI rfl)) rfl rfl rfl rfl rfl rfl rfl, (nmr_up (p_ := p1_) rw9_ nn9_.2.1 (by omega) (by (try simp only [rd_eq, rd_ne, rf_eq, rf_nk, rf_nt, rd_fa, rd_af, ne_eq, Nat.reduceEqDiff, not_false_eq_true]); (try rw [if_pos rfl]); (try rw [if_pos (show (1 : Nat) = (1 : Int).toNat from rfl)]); omega) (fun j_ => by (try simp only [rd_eq, rd_ne, rf_eq, rf_nk, rf_nt, rd_fa, rd_af, ne_eq, Nat.reduceEqDiff, not_false_eq_true]); rw [cn8_]; by_cases z_ : j_ = 40 * 1 + g_.toNat; (rw [if_pos (by omega), if_pos z_]; exact nv_); (rw [if_neg (by omega), if_neg z_]))), ?_, by omega, (nmr_ot kc9_ (by (try simp only [rd_eq, rd_ne, rf_eq, rf_nk, rf_nt, rd_fa, rd_af, ne_eq, Nat.reduceEqDiff, not_false_eq_true]); rw [if_neg (by decide)]) (fun s_ hs_ => by (try simp only [rd_eq, rd_ne, rf_eq, rf_nk, rf_nt, rd_fa, rd_af, ne_eq, Nat.reduceEqDiff, not_false_eq_true]); rw [cn8_, if_neg (by omega)])), by omega, by omega⟩; rw [P9_, if_neg (by omega)])
          · omega
set_option maxHeartbeats 1000000 in
theorem vc_132 {sc_ : Nat × (Nat → Int)} (b_ : Nat → Int) (n_ : Nat) (p_ : Nat) (KC_ : Nat) (fC_ : Nat → Nat) (S0_ : sm_S) (hI_ : gi S0_) (hc_ : ct b_ n_ p_ S0_) (hKC_ : nmr b_ n_ 0 KC_ fC_ S0_ ∧ KC_ ≤ 12) : sm_T (mt_P sc_) 3 132 (0, [some (.inr (.inr (some (7, 0)))), none, none, none], [], S0_) (fun r_ => (∃ u_ S1_, r_ = (.inl u_, S1_, 0) ∧ vq_132 b_ n_ p_ KC_ fC_ S0_ u_ S1_) ∨ ∃ S1_, r_ = (.inr 2, S1_, 1) ∧ vx_132 b_ n_ p_ KC_ fC_ S0_ S1_) := by
  have hF_ : ai_fr (sx_W vw_132) S0_ S0_ := ai_fr_rf
  have hn1_ := hc_.2.2.1
  refine sm_T_go 4 (c1 := (6, [some (.inr (.inr (some (7, 0)))), none, none, none], [.inl 0, .inl 1, .inr (.inr (some (77, 0)))], S0_)) rfl ?_
  refine sm_T_iast (n := 17) rfl rfl (by omega) (by omega) ?_
  have hIx1_ : gi (sm_aI S0_ 77 0 (1 : Int).toNat 0) := gi_aI hI_ (show 0 ≤ 0 ∧ 0 ≤ 40 from ⟨by omega, by omega⟩)
  have hFx2_ : ai_fr (sx_W vw_132) S0_ (sm_aI S0_ 77 0 (1 : Int).toNat 0) := ai_fr_tr hF_ (ai_fr_aI rfl)
  refine sm_T_go 4 (c1 := (11, [some (.inr (.inr (some (7, 0)))), some (.inl 1), some (.inl 0), none], [], sm_aI S0_ 77 0 (1 : Int).toNat 0)) rfl ?_
  refine (vl_132 b_ n_ p_ KC_ fC_ S0_ hc_ hKC_ _) 1 0 (sm_aI S0_ 77 0 (1 : Int).toNat 0) hIx1_ hFx2_ ⟨?_, ?_, trivial⟩ (Nat.lt_succ_self _)
  · omega
  · left
    refine ⟨rfl, by decide, f_0, p_, ct_fr (w_ := ([], [77], [])) hc_ (ai_fr_aI rfl) rfl rfl rfl rfl rfl rfl rfl, ⟨by rw [rd_eq, if_pos (show (1 : Nat) = (1 : Int).toNat from rfl)]; rfl, by decide, by decide, fun s_ hs_ => absurd hs_ (Nat.not_lt_zero _)⟩, rfl, Nat.le_refl _, ?_⟩
    exact nmr_ot hKC_.1 (by rw [rd_eq, if_neg (by decide)]) (fun s_ hs_ => rd_ne (by decide))
end
/-! 99.z0c -/
section
/-! Reader.readMeasure -/
def vw_133 : sx_Wl := ([(10, 2), (10, 3), (10, 4), (10, 5), (10, 6), (10, 7), (10, 8)], [], [])
def vq_133 (mo_ : Int) (b_ : Nat → Int) (n_ : Nat) (p_ : Nat) (S0_ : sm_S) (u_ : Option sm_V) (S1_ : sm_S) : Prop := ∃ v_ : Int, u_ = some (.inl v_) ∧ gi S1_ ∧ ai_fr (sx_W vw_133) S0_ S1_ ∧ (∃ q_, p_ms b_ n_ mo_ p_ = .inr (q_, v_) ∧ ct b_ n_ q_ S1_ ∧ p_ < q_ ∧ 1 ≤ v_ ∧ v_ ≤ mo_)
def vx_133 (mo_ : Int) (b_ : Nat → Int) (n_ : Nat) (p_ : Nat) (S0_ : sm_S) (S1_ : sm_S) : Prop := gi S1_ ∧ ai_fr (sx_W vw_133) S0_ S1_ ∧ (∃ e_, p_ms b_ n_ mo_ p_ = .inl e_ ∧ ter S1_ e_)
set_option maxHeartbeats 400000 in
theorem vc_133 {sc_ : Nat × (Nat → Int)} (mo_ : Int) (b_ : Nat → Int) (n_ : Nat) (p_ : Nat) (S0_ : sm_S) (hI_ : gi S0_) (hc_ : ct b_ n_ p_ S0_) : sm_T (mt_P sc_) 2 133 (0, [some (.inr (.inr (some (7, 0)))), some (.inl mo_), none], [], S0_) (fun r_ => (∃ u_ S1_, r_ = (.inl u_, S1_, 0) ∧ vq_133 mo_ b_ n_ p_ S0_ u_ S1_) ∨ ∃ S1_, r_ = (.inr 2, S1_, 1) ∧ vx_133 mo_ b_ n_ p_ S0_ S1_) := by
  have hF_ : ai_fr (sx_W vw_133) S0_ S0_ := ai_fr_rf
  have hn1_ := hc_.2.2.1
  refine sm_T_go 3 (c1 := (3, [some (.inr (.inr (some (7, 0)))), some (.inl mo_), none], [.inl mo_, .inl 1, .inr (.inr (some (7, 0)))], S0_)) rfl ?_
  refine sm_T_calx (d1 := 1) (Q1 := vq_122 1 mo_ b_ n_ p_ S0_) (Q2 := vx_122 1 mo_ b_ n_ p_ S0_) rfl rfl (by decide) (vc_122 1 mo_ b_ n_ p_ S0_ hI_ (by exact hc_)) rfl (fun Sx1_ px4_ => ?_) (fun u_ Sx1_ px4_ => ?_)
  · obtain ⟨hIx2_, hFx3_, px4_⟩ := px4_
    refine Or.inr ⟨_, rfl, hIx2_, ai_fr_tr hF_ (fr_le hFx3_ rfl), ?_⟩
    obtain ⟨e_, w1_, w2_⟩ := px4_
    exact ⟨e_, ms_x w1_, w2_⟩
  obtain ⟨vx6_, rfl, hIx2_, hFx3_, px4_⟩ := px4_
  have hFx5_ : ai_fr (sx_W vw_133) S0_ Sx1_ := ai_fr_tr hF_ (fr_le hFx3_ rfl)
  have a3_ := px4_
  have k3_ := p_nu_ok a3_
  have c3_ := ct_fr hc_ hFx3_ rfl rfl rfl rfl rfl rfl rfl
  refine sm_T_go 3 (c1 := (11, [some (.inr (.inr (some (7, 0)))), some (.inl mo_), some (.inl vx6_)], [.inr (.inr (some (10, 0)))], Sx1_)) rfl ?_
  refine sm_T_calx (d1 := 1) (Q1 := vq_191 b_ n_ (lx_en b_ n_ p_) Sx1_) (Q2 := vx_191 b_ n_ (lx_en b_ n_ p_) Sx1_) rfl rfl (by decide) (vc_191 b_ n_ (lx_en b_ n_ p_) Sx1_ hIx2_ (by exact c3_.1) (by exact c3_.2.1) (by exact c3_.2.2.1) (by exact c3_.2.2.2.2.2.2.1) (by exact (lx_en_le (b := b_) c3_.2.2.2.1).2)) rfl (fun Sx7_ px10_ => ?_) (fun u_ Sx7_ px10_ => ?_)
  · obtain ⟨hIx8_, hFx9_, px10_⟩ := px10_
    refine Or.inr ⟨_, rfl, hIx8_, ai_fr_tr hFx5_ (fr_le hFx9_ rfl), ?_⟩
    refine ⟨(1, (lx_nx b_ n_ p_)), ?_, px10_.2⟩
    unfold p_ms; rw [pb_r a3_, p_ad_x px10_.1]; rfl
  obtain ⟨rfl, hIx8_, hFx9_, px10_⟩ := px10_
  have hFx11_ : ai_fr (sx_W vw_133) S0_ Sx7_ := ai_fr_tr hFx5_ (fr_le hFx9_ rfl)
  have c11_ := px10_
  have a11_ := p_ad_c px10_
  have k11_ := p_ad_ok hc_.2.2.2.1 (by omega) a11_
  refine sm_T_go 1 (c1 := (15, [some (.inr (.inr (some (7, 0)))), some (.inl mo_), some (.inl vx6_)], [.inl vx6_], Sx7_)) rfl ?_
  refine sm_T_ri rfl (Or.inl ⟨_, _, rfl, _, rfl, hIx8_, hFx11_, ?_⟩)
  exact ⟨(lx_nx b_ n_ p_), by unfold p_ms; rw [pb_r a3_, a11_]; rfl, c11_, k11_.2.1, k3_.2.2.1, k3_.2.2.2⟩
end
