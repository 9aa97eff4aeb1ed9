/-! 99.z3a -/
section
/-! the reference: cells; written by wip/p55/gen/vg -/

/-! cells -/
def y_1 (b_ : Nat → Int) (n_ K_ : Nat) (f_ : Nat → Nat) (p_ : Nat) : pE (Nat × Nat) := pb (p_nd b_ n_ 9 p_) fun q_ => pb (p_nn b_ n_ K_ f_ 12 q_) fun r_ => .inr (q_, r_)
def y_2 (b_ : Nat → Int) (n_ K_ : Nat) (f_ : Nat → Nat) (p_ : Nat) : pE (Nat × Nat) := pb (y_1 b_ n_ K_ f_ p_) fun a_ => pb (p_nd b_ n_ 40 a_.2) fun u_ => .inr (a_.1, u_)
def y_3 (b_ : Nat → Int) (n_ K_ : Nat) (f_ : Nat → Nat) (p_ : Nat) : pE (Nat × pI) := pb (y_2 b_ n_ K_ f_ p_) fun a_ => pb (p_ci b_ n_ 4 0 f_0 a_.2) fun i_ => .inr (a_.1, i_)
def y_4 (b_ : Nat → Int) (n_ K_ : Nat) (f_ : Nat → Nat) (p_ : Nat) : pE ((Nat × pI) × Nat) := pb (y_3 b_ n_ K_ f_ p_) fun a_ => pb (p_nd b_ n_ 41 a_.2.2.2) fun w_ => .inr (a_, w_)
def y_5 (b_ : Nat → Int) (n_ K_ : Nat) (f_ : Nat → Nat) (p_ : Nat) : pE ((Nat × pI) × Nat) := pb (y_4 b_ n_ K_ f_ p_) fun a_ => pb (p_nd b_ n_ 61 a_.2) fun x_ => .inr (a_.1, x_)
def y_6 (b_ : Nat → Int) (n_ K_ : Nat) (f_ : Nat → Nat) (p_ : Nat) : pE ((Nat × pI) × pR) := pb (y_5 b_ n_ K_ f_ p_) fun a_ => pb (p_ex b_ n_ true (p_pl b_ n_ a_.1.2.1 a_.1.2.2.1) [] a_.2) fun y_ => .inr (a_.1, y_)
def y_7 (b_ : Nat → Int) (n_ K_ : Nat) (f_ : Nat → Nat) (p_ : Nat) : pE (((Nat × pI) × pR) × (Nat × Int)) := pb (y_6 b_ n_ K_ f_ p_) fun a_ => pb (pb (p_nd b_ n_ 44 a_.2.1) (p_ms b_ n_ 1000)) fun ar_ => .inr (a_, ar_)
def y_8 (b_ : Nat → Int) (n_ K_ : Nat) (f_ : Nat → Nat) (p_ : Nat) : pE ((((Nat × pI) × pR) × (Nat × Int)) × (Nat × Int)) := pb (y_7 b_ n_ K_ f_ p_) fun a_ => pb (pb (p_nd b_ n_ 44 a_.2.1) (p_ms b_ n_ 100)) fun dl_ => .inr (a_, dl_)
def y_9 (b_ : Nat → Int) (n_ K_ : Nat) (f_ : Nat → Nat) (p_ : Nat) : pE (((((Nat × pI) × pR) × (Nat × Int)) × (Nat × Int)) × Nat) := pb (y_8 b_ n_ K_ f_ p_) fun a_ => pb (p_nd b_ n_ 59 a_.2.1) fun z_ => .inr (a_, z_)
theorem ce_y {b_ : Nat → Int} {n_ K_ p_ : Nat} {f_ : Nat → Nat} : p_ce b_ n_ K_ f_ p_ = pb (y_9 b_ n_ K_ f_ p_) fun a_ => .inr (a_.1.1.1.1.1, a_.1.1.1.1.2.1, p_tb a_.1.1.1.1.2.1 (h_tp a_.1.1.1.2.2.1), a_.1.1.2.2, a_.1.2.2, a_.2) := by
  unfold p_ce y_9 y_8 y_7 y_6 y_5 y_4 y_3 y_2 y_1
  simp only [pb_as, pb_ir]
def g_d {α : Type} (z_ : pE α) (d_ : α) : α := match z_ with
  | .inl _ => d_
  | .inr a_ => a_
theorem y5_1 {b_ : Nat → Int} {n_ K_ p_ : Nat} {f_ : Nat → Nat} {a_ : (Nat × pI) × Nat} (h_ : y_5 b_ n_ K_ f_ p_ = .inr a_) : y_3 b_ n_ K_ f_ p_ = .inr a_.1 := by
  obtain ⟨a4_, h1_, h2_⟩ := pb_inr h_
  obtain ⟨x_, h3_, h4_⟩ := pb_inr h2_
  cases h4_
  obtain ⟨a3_, h5_, h6_⟩ := pb_inr h1_
  obtain ⟨w_, h7_, h8_⟩ := pb_inr h6_
  cases h8_
  exact h5_
theorem y3_1 {b_ : Nat → Int} {n_ K_ p_ : Nat} {f_ : Nat → Nat} {a_ : Nat × pI} (h_ : y_3 b_ n_ K_ f_ p_ = .inr a_) : ∃ u_, y_2 b_ n_ K_ f_ p_ = .inr (a_.1, u_) := by
  obtain ⟨a2_, h1_, h2_⟩ := pb_inr h_
  obtain ⟨i_, h3_, h4_⟩ := pb_inr h2_
  cases h4_
  exact ⟨a2_.2, h1_⟩
theorem y2_1 {b_ : Nat → Int} {n_ K_ p_ : Nat} {f_ : Nat → Nat} {a_ : Nat × Nat} (h_ : y_2 b_ n_ K_ f_ p_ = .inr a_) : p_nd b_ n_ 9 p_ = .inr a_.1 ∧ ∃ r_, p_nn b_ n_ K_ f_ 12 a_.1 = .inr r_ := by
  obtain ⟨a1_, h1_, h2_⟩ := pb_inr h_
  obtain ⟨u_, h3_, h4_⟩ := pb_inr h2_
  cases h4_
  obtain ⟨q_, h5_, h6_⟩ := pb_inr h1_
  obtain ⟨r_, h7_, h8_⟩ := pb_inr h6_
  cases h8_
  exact ⟨h5_, r_, h7_⟩
theorem ex_2 {b_ : Nat → Int} {n_ M_ K_ p_ : Nat} {A_ : pA} {f_ : Nat → Nat} {c_ : List Int} : p_ex b_ n_ (mdo 2) (p_pm b_ n_ (mdo 2) A_ M_ K_ f_) c_ p_ = p_ex b_ n_ true (p_pl b_ n_ K_ f_) c_ p_ := by
  unfold p_pm
  rw [show mdo 2 = true from rfl, if_pos rfl]
theorem pm_2 {b_ : Nat → Int} {n_ M_ K_ : Nat} {A_ : pA} {f_ : Nat → Nat} : pr_ok b_ n_ (p_pm b_ n_ (mdo 2) A_ M_ K_ f_) := by
  unfold p_pm
  rw [show mdo 2 = true from rfl, if_pos rfl]
  exact pl_ok
theorem sh_b {c_ : Int} (h_ : 0 ≤ c_ ∧ c_ ≤ 3) : (0 ≤ i_shl 1 c_ ∧ i_shl 1 c_ ≤ 8) ∧ 1 ≤ i_shl 1 (i_shl 1 c_) ∧ i_shl 1 (i_shl 1 c_) ≤ 256 := by
  have h4_ : c_ = 0 ∨ c_ = 1 ∨ c_ = 2 ∨ c_ = 3 := by omega
  rcases h4_ with e_ | e_ | e_ | e_ <;> (subst e_; decide +kernel)
/-- measures within their bounds -/
def c_dt (K_ : Nat) (S_ : sm_S) : Prop := ∀ k_, k_ < K_ → (0 ≤ S_.2.2.1 181 0 k_ ∧ S_.2.2.1 181 0 k_ ≤ 1000) ∧ (0 ≤ S_.2.2.1 182 0 k_ ∧ S_.2.2.1 182 0 k_ ≤ 100)
theorem cdt_up {K_ i_ : Nat} {v_ w_ : Int} {S1_ S2_ S3_ S4_ S5_ : sm_S} (h_ : c_dt K_ S1_) (hi_ : i_ = K_) (hv_ : 1 ≤ v_ ∧ v_ ≤ 1000) (hw_ : 1 ≤ w_ ∧ w_ ≤ 100) (a2_ : S2_.2.2.1 181 0 = S1_.2.2.1 181 0) (d2_ : S2_.2.2.1 182 0 = S1_.2.2.1 182 0) (a3_ : S3_.2.2.1 181 0 = (sm_aI S2_ 181 0 i_ v_).2.2.1 181 0) (d3_ : S3_.2.2.1 182 0 = (sm_aI S2_ 181 0 i_ v_).2.2.1 182 0) (a4_ : S4_.2.2.1 181 0 = (sm_aI S3_ 182 0 i_ w_).2.2.1 181 0) (d4_ : S4_.2.2.1 182 0 = (sm_aI S3_ 182 0 i_ w_).2.2.1 182 0) (a5_ : S5_.2.2.1 181 0 = S4_.2.2.1 181 0) (d5_ : S5_.2.2.1 182 0 = S4_.2.2.1 182 0) : c_dt (K_ + 1) S5_ := by
  intro k_ hk_
  rw [a5_, d5_, a4_, d4_, rd_ne (by decide), rd_eq, a3_, d3_, rd_eq, rd_ne (by decide), a2_, d2_]
  by_cases e_ : k_ = i_
  · rw [if_pos e_, if_pos e_]; omega
  · rw [if_neg e_, if_neg e_]; exact h_ k_ (by omega)
theorem ms_b {b_ : Nat → Int} {n_ p_ : Nat} {mo_ : Int} {x_ : pE Nat} {r_ : Nat × Int} (h_ : pb x_ (p_ms b_ n_ mo_) = .inr r_) : 1 ≤ r_.2 ∧ r_.2 ≤ mo_ := by
  obtain ⟨q_, h1_, h2_⟩ := pb_inr h_
  obtain ⟨v_, h3_, h4_⟩ := pb_inr h2_
  obtain ⟨u_, h5_, h6_⟩ := pb_inr h4_
  cases h6_
  exact (p_nu_ok h3_).2.2
/-- so_ many inputs read, at r_ -/
def y_i (b_ : Nat → Int) (n_ T_ : Nat) (Z_ : pE (Nat × pI)) (S_ : sm_S) : Prop := ∃ q_ K1_ f1_ r_, rg b_ n_ T_ (.inr r_) S_ ∧ inr_ b_ n_ T_ K1_ f1_ S_ ∧ 1 ≤ K1_ ∧ Z_ = (pb (if lx_kd b_ n_ r_ = 44 then pb (p_ad b_ n_ r_) fun q2_ => p_ci b_ n_ (4 - K1_) K1_ f1_ q2_ else .inr (K1_, f1_, r_)) fun i_ => .inr (q_, i_))
def y_w (b_ : Nat → Int) (n_ T_ : Nat) (Z_ : pE (Nat × pI)) (S_ : sm_S) : Prop := ∃ e_, Z_ = .inl e_ ∧ rg b_ n_ T_ (.inl e_) S_
theorem yi_nn {b_ : Nat → Int} {n_ T_ K1_ q_ : Nat} {f1_ : Nat → Nat} {x_ : pE Nat} {Z_ : pE (Nat × pI)} {S_ : sm_S} (hK_ : K1_ ≤ 3) (g_ : rg b_ n_ T_ (pb x_ (p_nn b_ n_ K1_ f1_ 3)) S_) (hi_ : ∀ p_ r_, x_ = .inr p_ → p_nn b_ n_ K1_ f1_ 3 p_ = .inr r_ → inr_ b_ n_ T_ (K1_ + 1) (n_up f1_ K1_ p_) S_) (hZ_ : Z_ = pb (pb x_ fun u_ => p_ci b_ n_ (4 - K1_) K1_ f1_ u_) fun i_ => .inr (q_, i_)) : y_w b_ n_ T_ Z_ S_ ∨ y_i b_ n_ T_ Z_ S_ := by
  cases x_ with
  | inl e_ => left; exact ⟨e_, hZ_, g_⟩
  | inr p_ =>
    have g_ : rg b_ n_ T_ (p_nn b_ n_ K1_ f1_ 3 p_) S_ := g_
    have hZ_ : Z_ = pb (p_ci b_ n_ (4 - K1_) K1_ f1_ p_) fun i_ => .inr (q_, i_) := hZ_
    rw [show 4 - K1_ = (3 - K1_) + 1 by omega, p_ci] at hZ_
    cases hn_ : p_nn b_ n_ K1_ f1_ 3 p_ with
    | inl e_ => rw [hn_] at hZ_ g_; left; exact ⟨e_, hZ_, g_⟩
    | inr r_ =>
      rw [hn_] at hZ_ g_
      right
      refine ⟨q_, K1_ + 1, n_up f1_ K1_ p_, r_, g_, hi_ p_ r_ rfl hn_, by omega, ?_⟩
      rw [show 4 - (K1_ + 1) = 3 - K1_ by omega]
      exact hZ_
def r_m4 (S_ : sm_S) : Nat := if S_.1 13 0 10 ≠ 0 then 1 else (12 - S_.1 13 0 80).toNat
theorem rm4_b {S_ : sm_S} (hI_ : gi S_) : 1 ≤ r_m4 S_ ∧ r_m4 S_ ≤ 12 := by
  have z_ : 0 ≤ S_.1 13 0 80 ∧ S_.1 13 0 80 ≤ 3 := hI_.1 13 0 80 rfl
  unfold r_m4
  split <;> omega
end
/-! 99.z3b -/
section
/-! M_.tellCell -/
end
/-! 99.z4a -/
section
/-! the reference: free places; written by wip/p55/gen/vg -/
/-! M_.free -/
def vw_362l : sx_Wl := ([], [], [])
def vq_362l (k_ : Int) (S0_ : sm_S) (u_ : Option sm_V) (S1_ : sm_S) : Prop := S0_ = S1_ ∧ ∃ v_ : Int, u_ = some (.inl v_) ∧ ((v_ = -1 ∧ ∀ j_ : Nat, j_ < 3 → (S1_.2.2.1 183 0 (j_)) = 1) ∨ (∃ u_ : Nat, v_ = (u_ : Int) ∧ u_ < 3 ∧ (S1_.2.2.1 183 0 (u_)) = 0 ∧ ∀ j_ : Nat, j_ < u_ → (S1_.2.2.1 183 0 (j_)) = 1))
set_option maxHeartbeats 400000 in
theorem vl_362l {sc_ : Nat × (Nat → Int)} (k_ : Int) (S0_ : sm_S) (hk_ : k_ = 3) : ∀ nn_ : Nat, (∀ (i_ : Int) (S_ : sm_S), gi S_ → ai_fr (sx_W vw_362l) S0_ S_ → ((0 ≤ i_ ∧ i_ ≤ 3) ∧ (∀ j_ : Nat, j_ < i_.toNat → (S_.2.2.1 183 0 (j_)) = 1) ∧ (S_ = S0_) ∧ True) → ((20 - i_).toNat) < nn_ → sm_T (mt_P sc_) 0 362 (2, [some (.inr (.inr (some (183, 0)))), some (.inl k_), some (.inl i_)], [], S_) (fun r_ => ∃ u_ S1_, r_ = (.inl u_, S1_, 0) ∧ vq_362l k_ S0_ u_ S1_)) := by
  intro nn_
  induction nn_ with
  | zero => exact fun _ _ _ _ _ h_ => absurd h_ (Nat.not_lt_zero _)
  | succ nn_ ih_ =>
    rintro i_ S_ hI_ hF_ ⟨h0_, h1_, hS_, -⟩ hm_
    refine sm_T_go 2 (c1 := (4, [some (.inr (.inr (some (183, 0)))), some (.inl k_), some (.inl i_)], [.inl k_, .inl i_], S_)) rfl ?_
    refine sm_T_br (a := 3) (z := 17) rfl (fun cx1_ => ?_) (fun cx1_ => ?_)
    · have cx1_ : k_ ≤ i_ := of_decide_eq_true cx1_
      refine sm_T_go 1 (c1 := (22, [some (.inr (.inr (some (183, 0)))), some (.inl k_), some (.inl i_)], [.inl (-1)], S_)) rfl ?_
      refine sm_T_ri rfl ⟨_, _, rfl, (by first | rfl | exact hS_.symm), _, rfl, ?_⟩
      left
      refine ⟨rfl, fun j_ hj_ => ?_⟩
      exact h1_ j_ (by omega)
    · have cx1_ : ¬ (k_ ≤ i_) := of_decide_eq_false cx1_
      refine sm_T_go 2 (c1 := (9, [some (.inr (.inr (some (183, 0)))), some (.inl k_), some (.inl i_)], [.inl i_, .inr (.inr (some (183, 0)))], S_)) rfl ?_
      refine sm_T_zald (n := 3) rfl rfl (by omega) (by omega) ?_
      have bx2_ : 0 ≤ S_.2.2.1 183 0 i_.toNat ∧ S_.2.2.1 183 0 i_.toNat ≤ 1 := hI_.2 183 0 _
      refine sm_T_b0 (a := 1) (z := 5) rfl (fun cx3_ => ?_) (fun cx3_ => ?_)
      · have cx3_ : (S_.2.2.1 183 0 i_.toNat) ≠ 0 := of_decide_eq_true cx3_
        refine sm_T_inc (a := 2) (z := 1) (v := i_) (w := i_ + 1) rfl rfl (by omega) (by omega) (by omega) ?_
        refine sm_T_go 1 (c1 := (2, [some (.inr (.inr (some (183, 0)))), some (.inl k_), some (.inl (i_ + 1))], [], S_)) rfl ?_
        refine ih_ (i_ + 1) S_ hI_ hF_ ⟨?_, ?_, ?_, trivial⟩ ?_
        · omega
        · intro j_ hj_
          by_cases z_ : j_ = i_.toNat
          · rw [z_]; omega
          · exact h1_ j_ (by omega)
        · first | rfl | exact hS_
        · omega
      · have cx3_ : ¬ ((S_.2.2.1 183 0 i_.toNat) ≠ 0) := of_decide_eq_false cx3_
        refine sm_T_go 1 (c1 := (14, [some (.inr (.inr (some (183, 0)))), some (.inl k_), some (.inl i_)], [.inl i_], S_)) rfl ?_
        refine sm_T_ri rfl ⟨_, _, rfl, (by first | rfl | exact hS_.symm), _, rfl, ?_⟩
        right
        exact ⟨i_.toNat, by omega, by omega, by omega, h1_⟩
set_option maxHeartbeats 400000 in
theorem vc_362l {sc_ : Nat × (Nat → Int)} (k_ : Int) (S0_ : sm_S) (hI_ : gi S0_) (hk_ : k_ = 3) : sm_T (mt_P sc_) 0 362 (0, [some (.inr (.inr (some (183, 0)))), some (.inl k_), none], [], S0_) (fun r_ => ∃ u_ S1_, r_ = (.inl u_, S1_, 0) ∧ vq_362l k_ S0_ u_ S1_) := by
  have hF_ : ai_fr (sx_W vw_362l) S0_ S0_ := ai_fr_rf
  refine sm_T_go 2 (c1 := (2, [some (.inr (.inr (some (183, 0)))), some (.inl k_), some (.inl 0)], [], S0_)) rfl ?_
  refine (vl_362l k_ S0_ hk_ _) 0 S0_ hI_ hF_ ⟨?_, ?_, ?_, trivial⟩ (Nat.lt_succ_self _)
  · omega
  · (intro j_ hj_; exact absurd hj_ (Nat.not_lt_zero _))
  · first | rfl | exact hS_
end
/-! 99.z4b -/
section
/-! M_.free -/
def vw_362d : sx_Wl := ([], [], [])
def vq_362d (k_ : Int) (S0_ : sm_S) (u_ : Option sm_V) (S1_ : sm_S) : Prop := S0_ = S1_ ∧ ∃ v_ : Int, u_ = some (.inl v_) ∧ ((v_ = -1 ∧ ∀ j_ : Nat, j_ < 6 → (S1_.2.2.1 153 0 (j_)) = 1) ∨ (∃ u_ : Nat, v_ = (u_ : Int) ∧ u_ < 6 ∧ (S1_.2.2.1 153 0 (u_)) = 0 ∧ ∀ j_ : Nat, j_ < u_ → (S1_.2.2.1 153 0 (j_)) = 1))
set_option maxHeartbeats 400000 in
theorem vl_362d {sc_ : Nat × (Nat → Int)} (k_ : Int) (S0_ : sm_S) (hk_ : k_ = 6) : ∀ nn_ : Nat, (∀ (i_ : Int) (S_ : sm_S), gi S_ → ai_fr (sx_W vw_362d) S0_ S_ → ((0 ≤ i_ ∧ i_ ≤ 6) ∧ (∀ j_ : Nat, j_ < i_.toNat → (S_.2.2.1 153 0 (j_)) = 1) ∧ (S_ = S0_) ∧ True) → ((20 - i_).toNat) < nn_ → sm_T (mt_P sc_) 0 362 (2, [some (.inr (.inr (some (153, 0)))), some (.inl k_), some (.inl i_)], [], S_) (fun r_ => ∃ u_ S1_, r_ = (.inl u_, S1_, 0) ∧ vq_362d k_ S0_ u_ S1_)) := by
  intro nn_
  induction nn_ with
  | zero => exact fun _ _ _ _ _ h_ => absurd h_ (Nat.not_lt_zero _)
  | succ nn_ ih_ =>
    rintro i_ S_ hI_ hF_ ⟨h0_, h1_, hS_, -⟩ hm_
    refine sm_T_go 2 (c1 := (4, [some (.inr (.inr (some (153, 0)))), some (.inl k_), some (.inl i_)], [.inl k_, .inl i_], S_)) rfl ?_
    refine sm_T_br (a := 3) (z := 17) rfl (fun cx1_ => ?_) (fun cx1_ => ?_)
    · have cx1_ : k_ ≤ i_ := of_decide_eq_true cx1_
      refine sm_T_go 1 (c1 := (22, [some (.inr (.inr (some (153, 0)))), some (.inl k_), some (.inl i_)], [.inl (-1)], S_)) rfl ?_
      refine sm_T_ri rfl ⟨_, _, rfl, (by first | rfl | exact hS_.symm), _, rfl, ?_⟩
      left
      refine ⟨rfl, fun j_ hj_ => ?_⟩
      exact h1_ j_ (by omega)
    · have cx1_ : ¬ (k_ ≤ i_) := of_decide_eq_false cx1_
      refine sm_T_go 2 (c1 := (9, [some (.inr (.inr (some (153, 0)))), some (.inl k_), some (.inl i_)], [.inl i_, .inr (.inr (some (153, 0)))], S_)) rfl ?_
      refine sm_T_zald (n := 6) rfl rfl (by omega) (by omega) ?_
      have bx2_ : 0 ≤ S_.2.2.1 153 0 i_.toNat ∧ S_.2.2.1 153 0 i_.toNat ≤ 1 := hI_.2 153 0 _
      refine sm_T_b0 (a := 1) (z := 5) rfl (fun cx3_ => ?_) (fun cx3_ => ?_)
      · have cx3_ : (S_.2.2.1 153 0 i_.toNat) ≠ 0 := of_decide_eq_true cx3_
        refine sm_T_inc (a := 2) (z := 1) (v := i_) (w := i_ + 1) rfl rfl (by omega) (by omega) (by omega) ?_
        refine sm_T_go 1 (c1 := (2, [some (.inr (.inr (some (153, 0)))), some (.inl k_), some (.inl (i_ + 1))], [], S_)) rfl ?_
        refine ih_ (i_ + 1) S_ hI_ hF_ ⟨?_, ?_, ?_, trivial⟩ ?_
        · omega
        · intro j_ hj_
          by_cases z_ : j_ = i_.toNat
          · rw [z_]; omega
          · exact h1_ j_ (by omega)
        · first | rfl | exact hS_
        · omega
      · have cx3_ : ¬ ((S_.2.2.1 153 0 i_.toNat) ≠ 0) := of_decide_eq_false cx3_
        refine sm_T_go 1 (c1 := (14, [some (.inr (.inr (some (153, 0)))), some (.inl k_), some (.inl i_)], [.inl i_], S_)) rfl ?_
        refine sm_T_ri rfl ⟨_, _, rfl, (by first | rfl | exact hS_.symm), _, rfl, ?_⟩
        right
        exact ⟨i_.toNat, by omega, by omega, by omega, h1_⟩
set_option maxHeartbeats 400000 in
theorem vc_362d {sc_ : Nat × (Nat → Int)} (k_ : Int) (S0_ : sm_S) (hI_ : gi S0_) (hk_ : k_ = 6) : sm_T (mt_P sc_) 0 362 (0, [some (.inr (.inr (some (153, 0)))), some (.inl k_), none], [], S0_) (fun r_ => ∃ u_ S1_, r_ = (.inl u_, S1_, 0) ∧ vq_362d k_ S0_ u_ S1_) := by
  have hF_ : ai_fr (sx_W vw_362d) S0_ S0_ := ai_fr_rf
  refine sm_T_go 2 (c1 := (2, [some (.inr (.inr (some (153, 0)))), some (.inl k_), some (.inl 0)], [], S0_)) rfl ?_
  refine (vl_362d k_ S0_ hk_ _) 0 S0_ hI_ hF_ ⟨?_, ?_, ?_, trivial⟩ (Nat.lt_succ_self _)
  · omega
  · (intro j_ hj_; exact absurd hj_ (Nat.not_lt_zero _))
  · first | rfl | exact hS_
end
/-! 99.z4c -/
section
/-! M_.free -/
def vw_362c : sx_Wl := ([], [], [])
def vq_362c (k_ : Int) (S0_ : sm_S) (u_ : Option sm_V) (S1_ : sm_S) : Prop := S0_ = S1_ ∧ ∃ v_ : Int, u_ = some (.inl v_) ∧ ((v_ = -1 ∧ ∀ j_ : Nat, j_ < 4 → (S1_.2.2.1 222 0 (j_)) = 1) ∨ (∃ u_ : Nat, v_ = (u_ : Int) ∧ u_ < 4 ∧ (S1_.2.2.1 222 0 (u_)) = 0 ∧ ∀ j_ : Nat, j_ < u_ → (S1_.2.2.1 222 0 (j_)) = 1))
set_option maxHeartbeats 400000 in
theorem vl_362c {sc_ : Nat × (Nat → Int)} (k_ : Int) (S0_ : sm_S) (hk_ : k_ = 4) : ∀ nn_ : Nat, (∀ (i_ : Int) (S_ : sm_S), gi S_ → ai_fr (sx_W vw_362c) S0_ S_ → ((0 ≤ i_ ∧ i_ ≤ 4) ∧ (∀ j_ : Nat, j_ < i_.toNat → (S_.2.2.1 222 0 (j_)) = 1) ∧ (S_ = S0_) ∧ True) → ((20 - i_).toNat) < nn_ → sm_T (mt_P sc_) 0 362 (2, [some (.inr (.inr (some (222, 0)))), some (.inl k_), some (.inl i_)], [], S_) (fun r_ => ∃ u_ S1_, r_ = (.inl u_, S1_, 0) ∧ vq_362c k_ S0_ u_ S1_)) := by
  intro nn_
  induction nn_ with
  | zero => exact fun _ _ _ _ _ h_ => absurd h_ (Nat.not_lt_zero _)
  | succ nn_ ih_ =>
    rintro i_ S_ hI_ hF_ ⟨h0_, h1_, hS_, -⟩ hm_
    refine sm_T_go 2 (c1 := (4, [some (.inr (.inr (some (222, 0)))), some (.inl k_), some (.inl i_)], [.inl k_, .inl i_], S_)) rfl ?_
    refine sm_T_br (a := 3) (z := 17) rfl (fun cx1_ => ?_) (fun cx1_ => ?_)
    · have cx1_ : k_ ≤ i_ := of_decide_eq_true cx1_
      refine sm_T_go 1 (c1 := (22, [some (.inr (.inr (some (222, 0)))), some (.inl k_), some (.inl i_)], [.inl (-1)], S_)) rfl ?_
      refine sm_T_ri rfl ⟨_, _, rfl, (by first | rfl | exact hS_.symm), _, rfl, ?_⟩
      left
      refine ⟨rfl, fun j_ hj_ => ?_⟩
      exact h1_ j_ (by omega)
    · have cx1_ : ¬ (k_ ≤ i_) := of_decide_eq_false cx1_
      refine sm_T_go 2 (c1 := (9, [some (.inr (.inr (some (222, 0)))), some (.inl k_), some (.inl i_)], [.inl i_, .inr (.inr (some (222, 0)))], S_)) rfl ?_
      refine sm_T_zald (n := 4) rfl rfl (by omega) (by omega) ?_
      have bx2_ : 0 ≤ S_.2.2.1 222 0 i_.toNat ∧ S_.2.2.1 222 0 i_.toNat ≤ 1 := hI_.2 222 0 _
      refine sm_T_b0 (a := 1) (z := 5) rfl (fun cx3_ => ?_) (fun cx3_ => ?_)
      · have cx3_ : (S_.2.2.1 222 0 i_.toNat) ≠ 0 := of_decide_eq_true cx3_
        refine sm_T_inc (a := 2) (z := 1) (v := i_) (w := i_ + 1) rfl rfl (by omega) (by omega) (by omega) ?_
        refine sm_T_go 1 (c1 := (2, [some (.inr (.inr (some (222, 0)))), some (.inl k_), some (.inl (i_ + 1))], [], S_)) rfl ?_
        refine ih_ (i_ + 1) S_ hI_ hF_ ⟨?_, ?_, ?_, trivial⟩ ?_
        · omega
        · intro j_ hj_
          by_cases z_ : j_ = i_.toNat
          · rw [z_]; omega
          · exact h1_ j_ (by omega)
        · first | rfl | exact hS_
        · omega
      · have cx3_ : ¬ ((S_.2.2.1 222 0 i_.toNat) ≠ 0) := of_decide_eq_false cx3_
        refine sm_T_go 1 (c1 := (14, [some (.inr (.inr (some (222, 0)))), some (.inl k_), some (.inl i_)], [.inl i_], S_)) rfl ?_
        refine sm_T_ri rfl ⟨_, _, rfl, (by first | rfl | exact hS_.symm), _, rfl, ?_⟩
        right
        exact ⟨i_.toNat, by omega, by omega, by omega, h1_⟩
set_option maxHeartbeats 400000 in
theorem vc_362c {sc_ : Nat × (Nat → Int)} (k_ : Int) (S0_ : sm_S) (hI_ : gi S0_) (hk_ : k_ = 4) : sm_T (mt_P sc_) 0 362 (0, [some (.inr (.inr (some (222, 0)))), some (.inl k_), none], [], S0_) (fun r_ => ∃ u_ S1_, r_ = (.inl u_, S1_, 0) ∧ vq_362c k_ S0_ u_ S1_) := by
  have hF_ : ai_fr (sx_W vw_362c) S0_ S0_ := ai_fr_rf
  refine sm_T_go 2 (c1 := (2, [some (.inr (.inr (some (222, 0)))), some (.inl k_), some (.inl 0)], [], S0_)) rfl ?_
  refine (vl_362c k_ S0_ hk_ _) 0 S0_ hI_ hF_ ⟨?_, ?_, ?_, trivial⟩ (Nat.lt_succ_self _)
  · omega
  · (intro j_ hj_; exact absurd hj_ (Nat.not_lt_zero _))
  · first | rfl | exact hS_
end
/-! 99.z5a -/
section
/-! the reference: libraries; written by wip/p55/gen/vg -/

/-! a_ library told -/
def lX (b_ : Nat → Int) (n_ T_ : Nat) (S_ : sm_S) : Prop := ∃ e_, p_li b_ n_ = .inl e_ ∧ rg b_ n_ T_ (.inl e_) S_
def lE (b_ : Nat → Int) (n_ : Nat) (S_ : sm_S) : Prop := ∃ K_ L_, p_li b_ n_ = .inr (K_, L_) ∧ S_.1 13 0 10 = 0 ∧ S_.1 13 0 83 = (K_ : Int) ∧ c_dt K_ S_
def lW (b_ : Nat → Int) (n_ : Nat) (S_ : sm_S) : Prop := ∃ e_, p_li b_ n_ = .inl e_ ∧ S_.1 13 0 10 = e_.1 ∧ S_.1 13 0 11 = (e_.2 : Int) ∧ e_.1 ≠ 0
def r_mc (S_ : sm_S) : Nat := if S_.1 13 0 10 ≠ 0 then 1 else (20 - S_.1 13 0 83).toNat
theorem lb_u {b_ : Nat → Int} {n_ K_ p_ : Nat} {f_ : Nat → Nat} {L_ : pL} (hK_ : K_ ≤ 12) : p_lb b_ n_ (13 - K_) K_ f_ L_ p_ = pb (p_ce b_ n_ K_ f_ p_) (k_lb b_ n_ (12 - K_) K_ f_ L_) := by
  rw [show 13 - K_ = (12 - K_) + 1 by omega]
  rfl
/-! M_.library -/
def vw_367 : sx_Wl := ([(13, 0), (13, 2), (13, 3), (13, 9), (13, 10), (13, 11), (13, 27), (13, 32), (13, 33), (13, 34), (13, 79), (13, 80), (13, 83)], [119, 120, 121, 122, 123, 136, 137, 138, 139, 177, 178, 179, 180, 181, 182, 183, 184, 185, 186, 187, 188], [])
def vq_367 (b_ : Nat → Int) (n_ : Nat) (S0_ : sm_S) (u_ : Option sm_V) (S1_ : sm_S) : Prop := ∃ v_ : Int, u_ = some (.inl v_) ∧ gi S1_ ∧ ai_fr (sx_W vw_367) S0_ S1_ ∧ (((S1_.1 13 0 0) = 1 ∧ (∀ j_ : Nat, j_ < 3 → (S0_.2.2.1 183 0 (j_)) = 1) ∧ (S1_.1 13 0 2) = (S0_.1 13 0 2) ∧ ∀ j_ : Nat, (S1_.2.2.1 183 0 (j_)) = (S0_.2.2.1 183 0 (j_))) ∨ ((S1_.1 13 0 0) = 0 ∧ ∃ sl_ : Nat, sl_ < 3 ∧ (S0_.2.2.1 183 0 (sl_)) = 0 ∧ (∀ j_ : Nat, j_ < sl_ → (S0_.2.2.1 183 0 (j_)) = 1) ∧ (S1_.1 13 0 2) = 0 ∧ ((∃ e_, p_li b_ n_ = .inl e_ ∧ v_ = -1 - (e_.2 : Int) ∧ (S1_.1 13 0 79) = e_.1 ∧ ∀ j_ : Nat, (S1_.2.2.1 183 0 (j_)) = (S0_.2.2.1 183 0 (j_))) ∨ ((∃ r_, p_li b_ n_ = .inr r_) ∧ v_ = (sl_ : Int) ∧ (S1_.1 13 0 79) = 0 ∧ ∀ j_ : Nat, (S1_.2.2.1 183 0 (j_)) = if j_ = sl_ then 1 else (S0_.2.2.1 183 0 (j_))))))
end
/-! 99.z6a -/
section
/-! the class: libraries; written by wip/p55/gen/vg -/

/-! calls that throw, where a_ handler is_ or where others are_ -/
theorem sm_T_calg {P_ : sm_P} {d_ d1_ mid_ pc_ n0_ a_ b_ v_ ex_ : Nat} {z_ : Int} {L_ : sm_L} {st_ : List sm_V} {S_ : sm_S} {Q_ : sm_R → Prop} {Q1_ : Option sm_V → sm_S → Prop} {Q2_ : sm_S → Prop} (hx_ : P_.1 mid_ pc_ = some (40, n0_, a_, b_, v_, z_))
    (hc_ : (L_.length = (P_.2.1 mid_).2 && (st_.take b_).length = b_ && ((st_.drop b_).map sm_cat).sum ≤ 8 && (v_ = 1 || sm_rcv (P_.2.1 a_).1 (st_.take b_).reverse) && (sm_vsl (st_.take b_).reverse).length ≤ (P_.2.1 a_).2) = true)
    (hd_ : d1_ ≤ d_) (hsub : sm_T P_ d1_ a_ (0, sm_ent (P_.2.1 a_).2 (st_.take b_).reverse, [], S_) (fun r_ => (∃ u_ S1_, r_ = (.inl u_, S1_, 0) ∧ Q1_ u_ S1_) ∨ ∃ S1_, r_ = (.inr ex_, S1_, 1) ∧ Q2_ S1_))
    (hh_ : sm_fh (P_.2.2.1 mid_) pc_ ex_ = none) (hv_ : sm_cov (P_.2.2.1 mid_) pc_ = false) (kx_ : ∀ S1_, Q2_ S1_ → Q_ (.inr ex_, S1_, 1))
    (kn_ : ∀ u_ S1_, Q1_ u_ S1_ → sm_T P_ (d_ + 1) mid_ (pc_ + 3, L_, u_.toList ++ st_.drop b_, S1_) Q_) : sm_T P_ (d_ + 1) mid_ (pc_, L_, st_, S_) Q_ := by
  refine sm_T_call hx_ hc_ (hsub.deep hd_) (fun u_ S1_ k1_ q_ => ?_) (fun ex2_ S1_ k1_ q_ => ?_)
  · rcases q_ with ⟨u'_, S1'_, e_, q_⟩ | ⟨S1'_, e_, q_⟩
    · cases e_
      exact (kn_ _ _ q_).mono (fun r_ h_ => by rw [sm_add_0]; exact h_)
    · cases e_
  · rcases q_ with ⟨u'_, S1'_, e_, q_⟩ | ⟨S1'_, e_, q_⟩
    · cases e_
    · cases e_
      rw [hh_]
      exact ⟨hv_, kx_ _ q_⟩
theorem sm_T_calh {P_ : sm_P} {d_ d1_ mid_ pc_ n0_ a_ b_ v_ ex_ h_ n'_ a'_ b'_ v'_ : Nat} {z_ z'_ : Int} {L_ : sm_L} {st_ : List sm_V} {S_ : sm_S} {Q_ : sm_R → Prop} {Q1_ : Option sm_V → sm_S → Prop} {Q2_ : sm_S → Prop} (hx_ : P_.1 mid_ pc_ = some (40, n0_, a_, b_, v_, z_))
    (hc_ : (L_.length = (P_.2.1 mid_).2 && (st_.take b_).length = b_ && ((st_.drop b_).map sm_cat).sum ≤ 8 && (v_ = 1 || sm_rcv (P_.2.1 a_).1 (st_.take b_).reverse) && (sm_vsl (st_.take b_).reverse).length ≤ (P_.2.1 a_).2) = true)
    (hd_ : d1_ ≤ d_) (hsub : sm_T P_ d1_ a_ (0, sm_ent (P_.2.1 a_).2 (st_.take b_).reverse, [], S_) (fun r_ => (∃ u_ S1_, r_ = (.inl u_, S1_, 0) ∧ Q1_ u_ S1_) ∨ ∃ S1_, r_ = (.inr ex_, S1_, 1) ∧ Q2_ S1_))
    (hh_ : sm_fh (P_.2.2.1 mid_) pc_ ex_ = some h_) (h7_ : P_.1 mid_ h_ = some (7, n'_, a'_, b'_, v'_, z'_)) (ha_ : a'_ < L_.length) (kx_ : ∀ S1_, Q2_ S1_ → sm_T P_ (d_ + 1) mid_ (h_ + n'_, sm_s0 L_ a'_, [], S1_) (fun r_ => Q_ (sm_add 1 r_)))
    (kn_ : ∀ u_ S1_, Q1_ u_ S1_ → sm_T P_ (d_ + 1) mid_ (pc_ + 3, L_, u_.toList ++ st_.drop b_, S1_) Q_) : sm_T P_ (d_ + 1) mid_ (pc_, L_, st_, S_) Q_ := by
  refine sm_T_call hx_ hc_ (hsub.deep hd_) (fun u_ S1_ k1_ q_ => ?_) (fun ex2_ S1_ k1_ q_ => ?_)
  · rcases q_ with ⟨u'_, S1'_, e_, q_⟩ | ⟨S1'_, e_, q_⟩
    · cases e_
      exact (kn_ _ _ q_).mono (fun r_ h_ => by rw [sm_add_0]; exact h_)
    · cases e_
  · rcases q_ with ⟨u'_, S1'_, e_, q_⟩ | ⟨S1'_, e_, q_⟩
    · cases e_
    · cases e_
      rw [hh_]
      exact ⟨_, _, _, _, _, h7_, ha_, kx_ _ q_⟩
/-! ChipFlow.freeLibrary -/
def vw_274 : sx_Wl := ([], [], [])
def vq_274  (S0_ : sm_S) (u_ : Option sm_V) (S1_ : sm_S) : Prop := S0_ = S1_ ∧ ∃ v_ : Int, u_ = some (.inl v_) ∧ ((v_ = -1 ∧ ∀ j_ : Nat, j_ < 3 → S1_.1 5 j_ 0 = 1) ∨ (∃ u_ : Nat, v_ = (u_ : Int) ∧ u_ < 3 ∧ S1_.1 5 u_ 0 = 0 ∧ ∀ j_ : Nat, j_ < u_ → S1_.1 5 j_ 0 = 1))
set_option maxHeartbeats 400000 in
theorem vl_274 {sc_ : Nat × (Nat → Int)}  (S0_ : sm_S)  : ∀ nn_ : Nat, (∀ (i_ : Int) (S_ : sm_S), gi S_ → ai_fr (sx_W vw_274) S0_ S_ → ((0 ≤ i_ ∧ i_ ≤ 3) ∧ (∀ j_ : Nat, j_ < i_.toNat → S_.1 5 j_ 0 = 1) ∧ (S_ = S0_) ∧ True) → ((20 - i_).toNat) < nn_ → sm_T (mt_P sc_) 0 274 (2, [some (.inr (.inr (some (12, 0)))), some (.inl i_)], [], S_) (fun r_ => ∃ u_ S1_, r_ = (.inl u_, S1_, 0) ∧ vq_274  S0_ u_ S1_)) := by
  intro nn_
  induction nn_ with
  | zero => exact fun _ _ _ _ _ h_ => absurd h_ (Nat.not_lt_zero _)
  | succ nn_ ih_ =>
    rintro i_ S_ hI_ hF_ ⟨h0_, h1_, hS_, -⟩ hm_
    refine sm_T_go 2 (c1 := (4, [some (.inr (.inr (some (12, 0)))), some (.inl i_)], [.inl 3, .inl i_], S_)) rfl ?_
    refine sm_T_br (a := 3) (z := 23) rfl (fun cx1_ => ?_) (fun cx1_ => ?_)
    · have cx1_ : 3 ≤ i_ := of_decide_eq_true cx1_
      refine sm_T_go 1 (c1 := (28, [some (.inr (.inr (some (12, 0)))), some (.inl i_)], [.inl (-1)], S_)) rfl ?_
      refine sm_T_ri rfl ⟨_, _, rfl, (by first | rfl | exact hS_.symm), _, rfl, ?_⟩
      left
      exact ⟨rfl, fun j_ hj_ => h1_ j_ (by omega)⟩
    · have cx1_ : ¬ (3 ≤ i_) := of_decide_eq_false cx1_
      refine sm_T_go 3 (c1 := (12, [some (.inr (.inr (some (12, 0)))), some (.inl i_)], [.inl i_, .inr (.inr (some (111, 0)))], S_)) rfl ?_
      refine sm_T_aald (t0 := 5) (n := 3) rfl rfl (by omega) (by omega) ?_
      have bx2_ : 0 ≤ S_.1 5 i_.toNat 0 ∧ S_.1 5 i_.toNat 0 ≤ 1 := hI_.1 5 i_.toNat 0 rfl
      refine sm_T_go 1 (c1 := (16, [some (.inr (.inr (some (12, 0)))), some (.inl i_)], [.inl (S_.1 5 i_.toNat 0)], S_)) rfl ?_
      refine sm_T_b0 (a := 1) (z := 5) rfl (fun cx3_ => ?_) (fun cx3_ => ?_)
      · have cx3_ : (S_.1 5 i_.toNat 0) ≠ 0 := of_decide_eq_true cx3_
        refine sm_T_inc (a := 1) (z := 1) (v := i_) (w := i_ + 1) rfl rfl (by omega) (by omega) (by omega) ?_
        refine sm_T_go 1 (c1 := (2, [some (.inr (.inr (some (12, 0)))), some (.inl (i_ + 1))], [], S_)) rfl ?_
        refine ih_ (i_ + 1) S_ hI_ hF_ ⟨?_, ?_, ?_, trivial⟩ ?_
        · omega
        · intro j_ hj_
          by_cases z_ : j_ = i_.toNat
          · rw [z_]; omega
          · exact h1_ j_ (by omega)
        · first | rfl | exact hS_
        · omega
      · have cx3_ : ¬ ((S_.1 5 i_.toNat 0) ≠ 0) := of_decide_eq_false cx3_
        refine sm_T_go 1 (c1 := (20, [some (.inr (.inr (some (12, 0)))), some (.inl i_)], [.inl i_], S_)) rfl ?_
        refine sm_T_ri rfl ⟨_, _, rfl, (by first | rfl | exact hS_.symm), _, rfl, ?_⟩
        right
        exact ⟨i_.toNat, by omega, by omega, by omega, h1_⟩
set_option maxHeartbeats 400000 in
theorem vc_274 {sc_ : Nat × (Nat → Int)}  (S0_ : sm_S) (hI_ : gi S0_)  : sm_T (mt_P sc_) 0 274 (0, [some (.inr (.inr (some (12, 0)))), none], [], S0_) (fun r_ => ∃ u_ S1_, r_ = (.inl u_, S1_, 0) ∧ vq_274  S0_ u_ S1_) := by
  have hF_ : ai_fr (sx_W vw_274) S0_ S0_ := ai_fr_rf
  refine sm_T_go 2 (c1 := (2, [some (.inr (.inr (some (12, 0)))), some (.inl 0)], [], S0_)) rfl ?_
  refine (vl_274 S0_ _) 0 S0_ hI_ hF_ ⟨?_, ?_, ?_, trivial⟩ (Nat.lt_succ_self _)
  · omega
  · (intro j_ hj_; exact absurd hj_ (Nat.not_lt_zero _))
  · first | rfl | exact hS_
end
/-! 99.z6b -/
section
/-! ChipFlow.freeDesign -/
def vw_273 : sx_Wl := ([], [], [])
def vq_273  (S0_ : sm_S) (u_ : Option sm_V) (S1_ : sm_S) : Prop := S0_ = S1_ ∧ ∃ v_ : Int, u_ = some (.inl v_) ∧ ((v_ = -1 ∧ ∀ j_ : Nat, j_ < 6 → S1_.1 3 j_ 0 = 1) ∨ (∃ u_ : Nat, v_ = (u_ : Int) ∧ u_ < 6 ∧ S1_.1 3 u_ 0 = 0 ∧ ∀ j_ : Nat, j_ < u_ → S1_.1 3 j_ 0 = 1))
set_option maxHeartbeats 400000 in
theorem vl_273 {sc_ : Nat × (Nat → Int)}  (S0_ : sm_S)  : ∀ nn_ : Nat, (∀ (i_ : Int) (S_ : sm_S), gi S_ → ai_fr (sx_W vw_273) S0_ S_ → ((0 ≤ i_ ∧ i_ ≤ 6) ∧ (∀ j_ : Nat, j_ < i_.toNat → S_.1 3 j_ 0 = 1) ∧ (S_ = S0_) ∧ True) → ((20 - i_).toNat) < nn_ → sm_T (mt_P sc_) 0 273 (2, [some (.inr (.inr (some (12, 0)))), some (.inl i_)], [], S_) (fun r_ => ∃ u_ S1_, r_ = (.inl u_, S1_, 0) ∧ vq_273  S0_ u_ S1_)) := by
  intro nn_
  induction nn_ with
  | zero => exact fun _ _ _ _ _ h_ => absurd h_ (Nat.not_lt_zero _)
  | succ nn_ ih_ =>
    rintro i_ S_ hI_ hF_ ⟨h0_, h1_, hS_, -⟩ hm_
    refine sm_T_go 2 (c1 := (5, [some (.inr (.inr (some (12, 0)))), some (.inl i_)], [.inl 6, .inl i_], S_)) rfl ?_
    refine sm_T_br (a := 3) (z := 23) rfl (fun cx1_ => ?_) (fun cx1_ => ?_)
    · have cx1_ : 6 ≤ i_ := of_decide_eq_true cx1_
      refine sm_T_go 1 (c1 := (29, [some (.inr (.inr (some (12, 0)))), some (.inl i_)], [.inl (-1)], S_)) rfl ?_
      refine sm_T_ri rfl ⟨_, _, rfl, (by first | rfl | exact hS_.symm), _, rfl, ?_⟩
      left
      exact ⟨rfl, fun j_ hj_ => h1_ j_ (by omega)⟩
    · have cx1_ : ¬ (6 ≤ i_) := of_decide_eq_false cx1_
      refine sm_T_go 3 (c1 := (13, [some (.inr (.inr (some (12, 0)))), some (.inl i_)], [.inl i_, .inr (.inr (some (110, 0)))], S_)) rfl ?_
      refine sm_T_aald (t0 := 4) (n := 6) rfl rfl (by omega) (by omega) ?_
      have bx2_ : 0 ≤ S_.1 3 i_.toNat 0 ∧ S_.1 3 i_.toNat 0 ≤ 1 := hI_.1 3 i_.toNat 0 rfl
      refine sm_T_go 1 (c1 := (17, [some (.inr (.inr (some (12, 0)))), some (.inl i_)], [.inl (S_.1 3 i_.toNat 0)], S_)) rfl ?_
      refine sm_T_b0 (a := 1) (z := 5) rfl (fun cx3_ => ?_) (fun cx3_ => ?_)
      · have cx3_ : (S_.1 3 i_.toNat 0) ≠ 0 := of_decide_eq_true cx3_
        refine sm_T_inc (a := 1) (z := 1) (v := i_) (w := i_ + 1) rfl rfl (by omega) (by omega) (by omega) ?_
        refine sm_T_go 1 (c1 := (2, [some (.inr (.inr (some (12, 0)))), some (.inl (i_ + 1))], [], S_)) rfl ?_
        refine ih_ (i_ + 1) S_ hI_ hF_ ⟨?_, ?_, ?_, trivial⟩ ?_
        · omega
        · intro j_ hj_
          by_cases z_ : j_ = i_.toNat
          · rw [z_]; omega
          · exact h1_ j_ (by omega)
        · first | rfl | exact hS_
        · omega
      · have cx3_ : ¬ ((S_.1 3 i_.toNat 0) ≠ 0) := of_decide_eq_false cx3_
        refine sm_T_go 1 (c1 := (21, [some (.inr (.inr (some (12, 0)))), some (.inl i_)], [.inl i_], S_)) rfl ?_
        refine sm_T_ri rfl ⟨_, _, rfl, (by first | rfl | exact hS_.symm), _, rfl, ?_⟩
        right
        exact ⟨i_.toNat, by omega, by omega, by omega, h1_⟩
set_option maxHeartbeats 400000 in
theorem vc_273 {sc_ : Nat × (Nat → Int)}  (S0_ : sm_S) (hI_ : gi S0_)  : sm_T (mt_P sc_) 0 273 (0, [some (.inr (.inr (some (12, 0)))), none], [], S0_) (fun r_ => ∃ u_ S1_, r_ = (.inl u_, S1_, 0) ∧ vq_273  S0_ u_ S1_) := by
  have hF_ : ai_fr (sx_W vw_273) S0_ S0_ := ai_fr_rf
  refine sm_T_go 2 (c1 := (2, [some (.inr (.inr (some (12, 0)))), some (.inl 0)], [], S0_)) rfl ?_
  refine (vl_273 S0_ _) 0 S0_ hI_ hF_ ⟨?_, ?_, ?_, trivial⟩ (Nat.lt_succ_self _)
  · omega
  · (intro j_ hj_; exact absurd hj_ (Nat.not_lt_zero _))
  · first | rfl | exact hS_
end
/-! 99.z6c -/
section
/-! ChipFlow.needRoom -/
def vw_268 : sx_Wl := ([], [], [])
def vq_268 (k_ : Int) (S0_ : sm_S) (u_ : Option sm_V) (S1_ : sm_S) : Prop := u_ = none ∧ gi S1_ ∧ ai_fr (sx_W vw_268) S0_ S1_ ∧ (k_ ≠ 0)
def vx_268 (k_ : Int) (S0_ : sm_S) (S1_ : sm_S) : Prop := gi S1_ ∧ ai_fr (sx_W vw_268) S0_ S1_ ∧ (k_ = 0 ∧ S1_ = S0_)
set_option maxHeartbeats 400000 in
theorem vc_268 {sc_ : Nat × (Nat → Int)} (k_ : Int) (S0_ : sm_S) (hI_ : gi S0_)  : sm_T (mt_P sc_) 0 268 (0, [some (.inl k_)], [], S0_) (fun r_ => (∃ u_ S1_, r_ = (.inl u_, S1_, 0) ∧ vq_268 k_ S0_ u_ S1_) ∨ ∃ S1_, r_ = (.inr 3, S1_, 1) ∧ vx_268 k_ S0_ S1_) := by
  have hF_ : ai_fr (sx_W vw_268) S0_ S0_ := ai_fr_rf
  refine sm_T_go 1 (c1 := (1, [some (.inl k_)], [.inl k_], S0_)) rfl ?_
  refine sm_T_b0 (a := 1) (z := 11) rfl (fun cx1_ => ?_) (fun cx1_ => ?_)
  · have cx1_ : k_ ≠ 0 := of_decide_eq_true cx1_
    refine sm_T_rv rfl (Or.inl ⟨_, _, rfl, rfl, hI_, hF_, ?_⟩)
    omega
  · have cx1_ : ¬ (k_ ≠ 0) := of_decide_eq_false cx1_
    refine sm_T_th rfl rfl (Or.inr ⟨_, rfl, hI_, hF_, ?_⟩)
    exact ⟨by omega, rfl⟩
end
/-! 99.z6d -/
section
/-! ChipFlow.library -/
def vw_214 : sx_Wl := ([(5, 0), (5, 1), (5, 2), (7, 2), (7, 14), (7, 16), (7, 17), (10, 1), (10, 2), (10, 3), (10, 4), (10, 5), (10, 6), (10, 7), (10, 8), (12, 10)], [55, 56, 57, 58, 74, 77, 78, 82, 83, 84], [(7, 11)])
def vq_214 (b_ : Nat → Int) (n_ : Nat) (S0_ : sm_S) (u_ : Option sm_V) (S1_ : sm_S) : Prop := ∃ v_ : Int, u_ = some (.inl v_) ∧ gi S1_ ∧ ai_fr (sx_W vw_214) S0_ S1_ ∧ (∃ sl_ : Nat, sl_ < 3 ∧ S0_.1 5 sl_ 0 = 0 ∧ (∀ j_ : Nat, j_ < sl_ → S0_.1 5 j_ 0 = 1) ∧ (S1_.1 10 0 1) = 0 ∧ ((∃ e_, p_li b_ n_ = .inl e_ ∧ v_ = -1 - (e_.2 : Int) ∧ (S1_.1 12 0 10) = e_.1 ∧ ∀ j_ : Nat, S1_.1 5 j_ 0 = S0_.1 5 j_ 0) ∨ ((∃ r_, p_li b_ n_ = .inr r_) ∧ v_ = (sl_ : Int) ∧ (S1_.1 12 0 10) = 0 ∧ ∀ j_ : Nat, S1_.1 5 j_ 0 = if j_ = sl_ then 1 else S0_.1 5 j_ 0)))
end
/-! 99.z7a -/
section
/-! the class: limits; written by wip/p55/gen/vg -/

/-! sums that are_ cut_ off_ at different heights -/
def mc (x_ : Int) : Int := if 100000 < x_ then 100000 else x_
theorem mc_b {x_ : Int} (h_ : 0 ≤ x_) : 0 ≤ mc x_ ∧ mc x_ ≤ 100000 := by
  unfold mc
  split <;> omega
theorem mn_mc {x_ : Int} : mn (mc x_) = mn x_ := by
  unfold mn mc
  repeat' split
  all_goals omega
theorem mn_ad {x_ y_ z_ w_ : Int} (hx_ : 0 ≤ x_) (hy_ : 0 ≤ y_) (hz_ : 0 ≤ z_) (hw_ : 0 ≤ w_) (h1_ : mn x_ = mn z_) (h2_ : mn y_ = mn w_) : mn (x_ + y_) = mn (z_ + w_) := by
  unfold mn at h1_ h2_ ⊢
  repeat' split at h1_
  all_goals repeat' split at h2_
  all_goals repeat' split
  all_goals omega
theorem su_mn {f_ g_ : Nat → Int} : ∀ {k_ : Nat}, (∀ j_, j_ < k_ → 0 ≤ f_ j_ ∧ 0 ≤ g_ j_ ∧ mn (f_ j_) = mn (g_ j_)) → 0 ≤ su f_ k_ ∧ 0 ≤ su g_ k_ ∧ mn (su f_ k_) = mn (su g_ k_)
  | 0, _ => ⟨Int.le_refl _, Int.le_refl _, rfl⟩
  | k_ + 1, h_ => by
    have h1_ := su_mn (f_ := f_) (g_ := g_) (k_ := k_) (fun j_ hj_ => h_ j_ (by omega))
    have h2_ := h_ k_ (by omega)
    refine ⟨?_, ?_, ?_⟩
    · show 0 ≤ su f_ k_ + f_ k_
      omega
    · show 0 ≤ su g_ k_ + g_ k_
      omega
    · exact mn_ad h1_.1 h2_.1 h1_.2.1 h2_.2.1 h1_.2.2 h2_.2.2
/-- both tables of_ a_ module's sums are_ the_ same below a_ thousand -/
theorem sat_eq {b_ : Nat → Int} {n_ M_ : Nat} {A_ : pA} {r1_ r2_ i1_ i2_ : Nat → Int} (hA_ : ∀ m_, m_ < M_ → a_ok b_ n_ A_ m_) (h1_ : ∀ m_, m_ < M_ → r1_ m_ = mn (su (t_rg r1_ A_ m_) (A_.1 m_))) (h2_ : ∀ m_, m_ < M_ → r2_ m_ = mc (su (t_rg r2_ A_ m_) (A_.1 m_))) (h3_ : ∀ m_, m_ < M_ → i1_ m_ = mn (su (t_is i1_ A_ m_) (A_.1 m_))) (h4_ : ∀ m_, m_ < M_ → i2_ m_ = mc (su (t_is i2_ A_ m_) (A_.1 m_))) : ∀ k_ m_, m_ < k_ → m_ < M_ → (r1_ m_ = mn (r2_ m_) ∧ 0 ≤ r2_ m_) ∧ (i1_ m_ = mn (i2_ m_) ∧ 0 ≤ i2_ m_) := by
  intro k_
  induction k_ with
  | zero => intro m_ hm_; exact absurd hm_ (Nat.not_lt_zero _)
  | succ k_ ih_ =>
    intro m_ hm_ hM_
    have a1_ := (hA_ m_ hM_).2 m_ (Nat.le_refl m_)
    have dt_ : ∀ s_, s_ < A_.1 m_ → A_.2.2.1 (40 * m_ + s_) = 5 → (A_.2.2.2.2 (40 * m_ + s_)).toNat < m_ := by
      intro s_ hs_ h5_
      have := (a1_.2 s_ hs_).2.2.2.2.1 h5_
      omega
    have q1_ := su_mn (f_ := t_rg r1_ A_ m_) (g_ := t_rg r2_ A_ m_) (k_ := A_.1 m_) (fun s_ hs_ => by
      have w_ := (a1_.2 s_ hs_).2.2.1
      unfold t_rg
      by_cases z_ : A_.2.2.1 (40 * m_ + s_) = 3 ∨ A_.2.2.1 (40 * m_ + s_) = 4
      · rw [if_pos z_, if_pos z_]; exact ⟨w_.1, w_.1, rfl⟩
      · rw [if_neg z_, if_neg z_]
        by_cases z2_ : A_.2.2.1 (40 * m_ + s_) = 5
        · have d_ := dt_ s_ hs_ z2_
          have e_ := (ih_ (A_.2.2.2.2 (40 * m_ + s_)).toNat (by omega) (by omega)).1
          rw [if_pos z2_, if_pos z2_, e_.1]
          have mb_ := mn_b e_.2
          refine ⟨mb_.1, e_.2, ?_⟩
          unfold mn
          repeat' split
          all_goals omega
        · rw [if_neg z2_, if_neg z2_]; exact ⟨Int.le_refl _, Int.le_refl _, rfl⟩)
    have q2_ := su_mn (f_ := t_is i1_ A_ m_) (g_ := t_is i2_ A_ m_) (k_ := A_.1 m_) (fun s_ hs_ => by
      unfold t_is
      by_cases z2_ : A_.2.2.1 (40 * m_ + s_) = 5
      · have d_ := dt_ s_ hs_ z2_
        have e_ := (ih_ (A_.2.2.2.2 (40 * m_ + s_)).toNat (by omega) (by omega)).2
        rw [if_pos z2_, if_pos z2_, e_.1]
        have mb_ := mn_b e_.2
        refine ⟨by omega, by omega, ?_⟩
        unfold mn
        repeat' split
        all_goals omega
      · rw [if_neg z2_, if_neg z2_]; exact ⟨Int.le_refl _, Int.le_refl _, rfl⟩)
    rw [h1_ m_ hM_, h2_ m_ hM_, h3_ m_ hM_, h4_ m_ hM_, mn_mc, mn_mc]
    exact ⟨⟨q1_.2.2, (mc_b q1_.2.1).1⟩, q2_.2.2, (mc_b q2_.2.1).1⟩
theorem lm_sat {i_ r_ x_ y_ : Int} (hi_ : 0 ≤ i_) (hr_ : 0 ≤ r_) (hx_ : 0 ≤ x_) : p_lm (mn i_) x_ (mn r_) y_ = p_lm i_ x_ r_ y_ := by
  unfold p_lm mn
  repeat' split
  all_goals first | rfl | (exfalso; omega)
/-! Builder.bitsOf -/
def vw_33 : sx_Wl := ([], [], [])
def vq_33 (m_ : Int) (so_ : Int) (b_ : Nat → Int) (n_ : Nat) (A_ : pA) (mm_ : Nat) (S0_ : sm_S) (u_ : Option sm_V) (S1_ : sm_S) : Prop := S0_ = S1_ ∧ ∃ v_ : Int, u_ = some (.inl v_) ∧ (v_ = su (t_in A_ so_ mm_) (A_.1 mm_) ∧ 0 ≤ v_ ∧ v_ ≤ 320)
set_option maxHeartbeats 400000 in
theorem vl_33 {sc_ : Nat × (Nat → Int)} (m_ : Int) (so_ : Int) (b_ : Nat → Int) (n_ : Nat) (A_ : pA) (mm_ : Nat) (S0_ : sm_S) (hm1_ : m_ = (mm_ : Int) ∧ mm_ ≤ 15) (hr_ : er1 b_ n_ A_ mm_ S0_) (hA_ : a_ok b_ n_ A_ mm_) : ∀ nn_ : Nat, (∀ (c_ : Int) (k_ : Int) (S_ : sm_S), gi S_ → ai_fr (sx_W vw_33) S0_ S_ → ((0 ≤ k_ ∧ k_ ≤ (A_.1 mm_ : Int)) ∧ (c_ = su (t_in A_ so_ mm_) k_.toNat) ∧ (S_ = S0_) ∧ True) → (((A_.1 mm_ : Int) - k_).toNat) < nn_ → sm_T (mt_P sc_) 0 33 (5, [some (.inr (.inr (some (1, 0)))), some (.inl m_), some (.inl so_), some (.inl c_), some (.inl k_)], [], S_) (fun r_ => ∃ u_ S1_, r_ = (.inl u_, S1_, 0) ∧ vq_33 m_ so_ b_ n_ A_ mm_ S0_ u_ S1_)) := by
  intro nn_
  induction nn_ with
  | zero => exact fun _ _ _ _ _ _ h_ => absurd h_ (Nat.not_lt_zero _)
  | succ nn_ ih_ =>
    rintro c_ k_ S_ hI_ hF_ ⟨h0_, h1_, hS_, -⟩ hm_
    have A40_ := (hA_.2 mm_ (Nat.le_refl _)).1
    have hK_ : S_.2.2.1 77 0 m_.toNat = (A_.1 mm_ : Int) := by rw [hS_, show m_.toNat = mm_ by omega]; exact hr_.1
    have cb_ := su_b (f_ := t_in A_ so_ mm_) (c_ := 8) (k_ := k_.toNat) (fun j_ hj_ => by have z_ := ((hA_.2 mm_ (Nat.le_refl _)).2 j_ (by omega)).2.2.1; unfold t_in; split <;> omega)
    have sv_ : k_ < (A_.1 mm_ : Int) → S_.2.2.1 79 0 (40 * m_ + k_).toNat = A_.2.2.1 (40 * mm_ + k_.toNat) ∧ S_.2.2.1 80 0 (40 * m_ + k_).toNat = A_.2.2.2.1 (40 * mm_ + k_.toNat) := by intro z_; rw [hS_, show (40 * m_ + k_).toNat = 40 * mm_ + k_.toNat by omega]; exact ⟨(hr_.2 k_.toNat (by omega)).2.1, (hr_.2 k_.toNat (by omega)).2.2.1⟩
    refine sm_T_go 5 (c1 := (15, [some (.inr (.inr (some (1, 0)))), some (.inl m_), some (.inl so_), some (.inl c_), some (.inl k_)], [.inl m_, .inr (.inr (some (77, 0))), .inl k_], S_)) rfl ?_
    refine sm_T_iald (n := 17) rfl rfl (by omega) (by omega) ?_
    have bx1_ : 0 ≤ S_.2.2.1 77 0 m_.toNat ∧ S_.2.2.1 77 0 m_.toNat ≤ 40 := hI_.2 77 0 _
    refine sm_T_br (a := 3) (z := 46) rfl (fun cx2_ => ?_) (fun cx2_ => ?_)
    · have cx2_ : (S_.2.2.1 77 0 m_.toNat) ≤ k_ := of_decide_eq_true cx2_
      refine sm_T_go 1 (c1 := (63, [some (.inr (.inr (some (1, 0)))), some (.inl m_), some (.inl so_), some (.inl c_), some (.inl k_)], [.inl c_], S_)) rfl ?_
      refine sm_T_ri rfl ⟨_, _, rfl, (by first | rfl | exact hS_.symm), _, rfl, ?_⟩
      refine ⟨?_, by omega, by omega⟩
      rw [show A_.1 mm_ = k_.toNat by omega]
      exact h1_
    · have cx2_ : ¬ ((S_.2.2.1 77 0 m_.toNat) ≤ k_) := of_decide_eq_false cx2_
      refine sm_T_go 5 (c1 := (29, [some (.inr (.inr (some (1, 0)))), some (.inl m_), some (.inl so_), some (.inl c_), some (.inl k_)], [.inl 40, .inl m_, .inr (.inr (some (79, 0)))], S_)) rfl ?_
      refine sm_T_bin (w := 40 * m_) rfl (bi_mul (by omega) (by omega) (by omega)) ?_
      refine sm_T_go 1 (c1 := (32, [some (.inr (.inr (some (1, 0)))), some (.inl m_), some (.inl so_), some (.inl c_), some (.inl k_)], [.inl k_, .inl (40 * m_), .inr (.inr (some (79, 0)))], S_)) rfl ?_
      refine sm_T_bin (w := 40 * m_ + k_) rfl (bi_add (by omega) (by omega) (by omega)) ?_
      refine sm_T_iald (n := 640) rfl rfl (by omega) (by omega) ?_
      have bx3_ : 0 ≤ S_.2.2.1 79 0 (40 * m_ + k_).toNat ∧ S_.2.2.1 79 0 (40 * m_ + k_).toNat ≤ 5 := hI_.2 79 0 _
      refine sm_T_go 1 (c1 := (35, [some (.inr (.inr (some (1, 0)))), some (.inl m_), some (.inl so_), some (.inl c_), some (.inl k_)], [.inl so_, .inl (S_.2.2.1 79 0 (40 * m_ + k_).toNat)], S_)) rfl ?_
      refine sm_T_br (a := 1) (z := 21) rfl (fun cx4_ => ?_) (fun cx4_ => ?_)
      · have cx4_ : (S_.2.2.1 79 0 (40 * m_ + k_).toNat) ≠ so_ := of_decide_eq_true cx4_
        refine sm_T_inc (a := 4) (z := 1) (v := k_) (w := k_ + 1) rfl rfl (by omega) (by omega) (by omega) ?_
        refine sm_T_go 1 (c1 := (5, [some (.inr (.inr (some (1, 0)))), some (.inl m_), some (.inl so_), some (.inl c_), some (.inl (k_ + 1))], [], S_)) rfl ?_
        refine ih_ c_ (k_ + 1) S_ hI_ hF_ ⟨?_, ?_, ?_, trivial⟩ ?_
        · omega
        · have s9_ := sv_ (by omega)
          rw [show (k_ + 1).toNat = k_.toNat + 1 by omega]
          show _ = su (t_in A_ so_ mm_) k_.toNat + (if A_.2.2.1 (40 * mm_ + k_.toNat) = so_ then A_.2.2.2.1 (40 * mm_ + k_.toNat) else 0)
          first | (rw [if_pos (by omega)]; omega) | (rw [if_neg (by omega)]; omega)
        · first | rfl | exact hS_
        · omega
      · have cx4_ : ¬ ((S_.2.2.1 79 0 (40 * m_ + k_).toNat) ≠ so_) := of_decide_eq_false cx4_
        refine sm_T_go 6 (c1 := (49, [some (.inr (.inr (some (1, 0)))), some (.inl m_), some (.inl so_), some (.inl c_), some (.inl k_)], [.inl 40, .inl m_, .inr (.inr (some (80, 0))), .inl c_], S_)) rfl ?_
        refine sm_T_bin (w := 40 * m_) rfl (bi_mul (by omega) (by omega) (by omega)) ?_
        refine sm_T_go 1 (c1 := (52, [some (.inr (.inr (some (1, 0)))), some (.inl m_), some (.inl so_), some (.inl c_), some (.inl k_)], [.inl k_, .inl (40 * m_), .inr (.inr (some (80, 0))), .inl c_], S_)) rfl ?_
        refine sm_T_bin (w := 40 * m_ + k_) rfl (bi_add (by omega) (by omega) (by omega)) ?_
        refine sm_T_iald (n := 640) rfl rfl (by omega) (by omega) ?_
        have bx5_ : 0 ≤ S_.2.2.1 80 0 (40 * m_ + k_).toNat ∧ S_.2.2.1 80 0 (40 * m_ + k_).toNat ≤ 8 := hI_.2 80 0 _
        refine sm_T_bin (w := c_ + (S_.2.2.1 80 0 (40 * m_ + k_).toNat)) rfl (bi_add (by omega) (by omega) (by omega)) ?_
        refine sm_T_go 1 (c1 := (56, [some (.inr (.inr (some (1, 0)))), some (.inl m_), some (.inl so_), some (.inl (c_ + (S_.2.2.1 80 0 (40 * m_ + k_).toNat))), some (.inl k_)], [], S_)) rfl ?_
        refine sm_T_inc (a := 4) (z := 1) (v := k_) (w := k_ + 1) rfl rfl (by omega) (by omega) (by omega) ?_
        refine sm_T_go 1 (c1 := (5, [some (.inr (.inr (some (1, 0)))), some (.inl m_), some (.inl so_), some (.inl (c_ + (S_.2.2.1 80 0 (40 * m_ + k_).toNat))), some (.inl (k_ + 1))], [], S_)) rfl ?_
        refine ih_ (c_ + (S_.2.2.1 80 0 (40 * m_ + k_).toNat)) (k_ + 1) S_ hI_ hF_ ⟨?_, ?_, ?_, trivial⟩ ?_
        · omega
        · have s9_ := sv_ (by omega)
          rw [show (k_ + 1).toNat = k_.toNat + 1 by omega]
          show _ = su (t_in A_ so_ mm_) k_.toNat + (if A_.2.2.1 (40 * mm_ + k_.toNat) = so_ then A_.2.2.2.1 (40 * mm_ + k_.toNat) else 0)
          first | (rw [if_pos (by omega)]; omega) | (rw [if_neg (by omega)]; omega)
        · first | rfl | exact hS_
        · omega
set_option maxHeartbeats 400000 in
theorem vc_33 {sc_ : Nat × (Nat → Int)} (m_ : Int) (so_ : Int) (b_ : Nat → Int) (n_ : Nat) (A_ : pA) (mm_ : Nat) (S0_ : sm_S) (hI_ : gi S0_) (hm1_ : m_ = (mm_ : Int) ∧ mm_ ≤ 15) (hr_ : er1 b_ n_ A_ mm_ S0_) (hA_ : a_ok b_ n_ A_ mm_) : sm_T (mt_P sc_) 0 33 (0, [some (.inr (.inr (some (1, 0)))), some (.inl m_), some (.inl so_), none, none], [], S0_) (fun r_ => ∃ u_ S1_, r_ = (.inl u_, S1_, 0) ∧ vq_33 m_ so_ b_ n_ A_ mm_ S0_ u_ S1_) := by
  have hF_ : ai_fr (sx_W vw_33) S0_ S0_ := ai_fr_rf
  refine sm_T_go 4 (c1 := (5, [some (.inr (.inr (some (1, 0)))), some (.inl m_), some (.inl so_), some (.inl 0), some (.inl 0)], [], S0_)) rfl ?_
  refine (vl_33 m_ so_ b_ n_ A_ mm_ S0_ hm1_ hr_ hA_ _) 0 0 S0_ hI_ hF_ ⟨?_, ?_, ?_, trivial⟩ (Nat.lt_succ_self _)
  · omega
  · rfl
  · first | rfl | exact hS_
end
/-! 99.z8a -/
section
/-! the class: limits told; written by wip/p55/gen/vg -/

/-! limits -/
def lt1 (A_ : pA) (m_ : Nat) (S_ : sm_S) : Prop := S_.2.2.1 30 0 m_ = mc (su (t_is (S_.2.2.1 30 0) A_ m_) (A_.1 m_)) ∧ S_.2.2.1 31 0 m_ = mc (su (t_rg (S_.2.2.1 31 0) A_ m_) (A_.1 m_))
theorem er1_fr {w_ : sx_Wl} {b_ : Nat → Int} {n_ m_ : Nat} {A_ : pA} {S_ S'_ : sm_S} (y_ : er1 b_ n_ A_ m_ S_) (f_ : ai_fr (sx_W w_) S_ S'_) (h0_ : (sx_W w_).2.1 77 = false) (h1_ : (sx_W w_).2.1 78 = false) (h2_ : (sx_W w_).2.1 79 = false) (h3_ : (sx_W w_).2.1 80 = false) (h4_ : (sx_W w_).2.1 81 = false) : er1 b_ n_ A_ m_ S'_ := by
  unfold er1 at y_ ⊢
  rw [fr_arr f_ h0_, fr_arr f_ h1_, fr_arr f_ h2_, fr_arr f_ h3_, fr_arr f_ h4_]
  exact y_
theorem sm_mc (x_ : Int) : sm_mn x_ 100000 = mc x_ := by
  have z_ := sm_mn_d x_ 100000
  unfold mc
  split <;> omega
theorem lt1_up {b_ : Nat → Int} {n_ m_ : Nat} {A_ : pA} {S_ S'_ : sm_S} (hA_ : a_ok b_ n_ A_ m_) (h_ : ∀ k_, k_ < m_ → lt1 A_ k_ S_) (h0_ : ∀ j_, S'_.2.2.1 30 0 j_ = if j_ = m_ then mc (su (t_is (S_.2.2.1 30 0) A_ m_) (A_.1 m_)) else S_.2.2.1 30 0 j_) (h1_ : ∀ j_, S'_.2.2.1 31 0 j_ = if j_ = m_ then mc (su (t_rg (S_.2.2.1 31 0) A_ m_) (A_.1 m_)) else S_.2.2.1 31 0 j_) : ∀ k_, k_ < m_ + 1 → lt1 A_ k_ S'_ := by
  intro k_ hk_
  have dt_ : ∀ s_, s_ < A_.1 k_ → A_.2.2.1 (40 * k_ + s_) = 5 → (A_.2.2.2.2 (40 * k_ + s_)).toNat ≠ m_ := by
    intro s_ hs_ h5_
    have := ((hA_.2 k_ (by omega)).2 s_ hs_).2.2.2.2.1 h5_
    omega
  have e0_ : su (t_is (S'_.2.2.1 30 0) A_ k_) (A_.1 k_) = su (t_is (S_.2.2.1 30 0) A_ k_) (A_.1 k_) := su_cg (fun s_ hs_ => by
    unfold t_is
    by_cases z2_ : A_.2.2.1 (40 * k_ + s_) = 5
    · rw [if_pos z2_, if_pos z2_, h0_, if_neg (dt_ s_ hs_ z2_)]
    · rw [if_neg z2_, if_neg z2_])
  have e1_ : su (t_rg (S'_.2.2.1 31 0) A_ k_) (A_.1 k_) = su (t_rg (S_.2.2.1 31 0) A_ k_) (A_.1 k_) := su_cg (fun s_ hs_ => by
    unfold t_rg
    by_cases z_ : A_.2.2.1 (40 * k_ + s_) = 3 ∨ A_.2.2.1 (40 * k_ + s_) = 4
    · rw [if_pos z_, if_pos z_]
    · rw [if_neg z_, if_neg z_]
      by_cases z2_ : A_.2.2.1 (40 * k_ + s_) = 5
      · rw [if_pos z2_, if_pos z2_, h1_, if_neg (dt_ s_ hs_ z2_)]
      · rw [if_neg z2_, if_neg z2_])
  unfold lt1
  rw [e0_, e1_, h0_, h1_]
  by_cases e_ : k_ = m_
  · rw [if_pos e_, if_pos e_, e_]
    exact ⟨rfl, rfl⟩
  · rw [if_neg e_, if_neg e_]
    exact h_ k_ (by omega)
end
/-! 99.z8b -/
section
/-! Builder.limitFault -/
end
/-! 99.za0 -/
section
/-! the graph, abstractly; written by wip/p55/gen/vg -/

/-! the_ graph: pairs of_ literals, the_ lesser first, in the_ order in which they are_ made -/
abbrev pGr : Type := List (Int × Int)
def g_fd (x_ y_ : Int) : pGr → Nat → Option Nat
  | [], _ => none
  | p_ :: l_, k_ => if p_.1 = x_ ∧ p_.2 = y_ then some k_ else g_fd x_ y_ l_ (k_ + 1)
def g_a2 (F_ : Nat) (G_ : pGr) (x_ y_ : Int) : Int × pGr := if x_ = 0 ∨ x_ = i_xor y_ 1 then (0, G_) else if x_ = 1 ∨ x_ = y_ then (y_, G_) else match g_fd x_ y_ G_ 0 with
  | some k_ => (2 * ((F_ + k_ : Nat) : Int), G_)
  | none => (2 * ((F_ + G_.length : Nat) : Int), G_ ++ [(x_, y_)])
/-- both, either, one_ alone; each with the_ graph behind it_ -/
def g_an (F_ : Nat) (G_ : pGr) (a_ b_ : Int) : Int × pGr := if a_ < b_ then g_a2 F_ G_ a_ b_ else g_a2 F_ G_ b_ a_
def g_or (F_ : Nat) (G_ : pGr) (a_ b_ : Int) : Int × pGr := (i_xor (g_an F_ G_ (i_xor a_ 1) (i_xor b_ 1)).1 1, (g_an F_ G_ (i_xor a_ 1) (i_xor b_ 1)).2)
def g_xo (F_ : Nat) (G_ : pGr) (a_ b_ : Int) : Int × pGr := g_or F_ (g_an F_ (g_an F_ G_ a_ (i_xor b_ 1)).2 (i_xor a_ 1) b_).2 (g_an F_ G_ a_ (i_xor b_ 1)).1 (g_an F_ (g_an F_ G_ a_ (i_xor b_ 1)).2 (i_xor a_ 1) b_).1
theorem g_fd_b {x_ y_ : Int} : ∀ {l_ : pGr} {k_ i_ : Nat}, g_fd x_ y_ l_ k_ = some i_ → k_ ≤ i_ ∧ i_ < k_ + l_.length ∧ l_[i_ - k_]? = some (x_, y_)
  | [], k_, i_, h_ => by cases h_
  | p_ :: l_, k_, i_, h_ => by
    unfold g_fd at h_
    split at h_
    · rename_i g_
      cases h_
      refine ⟨Nat.le_refl _, by simp, ?_⟩
      rw [Nat.sub_self]
      show some p_ = _
      rw [← g_.1, ← g_.2]
    · have k1_ := g_fd_b h_
      refine ⟨by omega, by simp only [List.length_cons]; omega, ?_⟩
      rw [show i_ - k_ = (i_ - (k_ + 1)) + 1 by omega, List.getElem?_cons_succ]
      exact k1_.2.2
theorem g_a2_le {F_ : Nat} {G_ : pGr} {x_ y_ : Int} : G_.length ≤ (g_a2 F_ G_ x_ y_).2.length ∧ (g_a2 F_ G_ x_ y_).2.length ≤ G_.length + 1 := by
  unfold g_a2
  split
  · exact ⟨Nat.le_refl _, Nat.le_succ _⟩
  · split
    · exact ⟨Nat.le_refl _, Nat.le_succ _⟩
    · split
      · exact ⟨Nat.le_refl _, Nat.le_succ _⟩
      · simp
theorem g_an_le {F_ : Nat} {G_ : pGr} {a_ b_ : Int} : G_.length ≤ (g_an F_ G_ a_ b_).2.length ∧ (g_an F_ G_ a_ b_).2.length ≤ G_.length + 1 := by
  unfold g_an
  split <;> exact g_a2_le
end
/-! 99.za1 -/
section
/-! the graph in the class; written by wip/p55/gen/vg -/

/-! the_ graph in the_ class: open addressing -/
theorem i_x1f : ∀ k_ : Fin 2048, i_xor (k_.val : Int) 1 = (k_.val : Int) + 1 - 2 * ((k_.val : Int) % 2) := by decide +kernel
theorem i_x1 {x_ : Int} (h_ : 0 ≤ x_ ∧ x_ ≤ 2047) : i_xor x_ 1 = x_ + 1 - 2 * (x_ % 2) := by
  have k_ := i_x1f ⟨x_.toNat, by omega⟩
  rw [show ((⟨x_.toNat, by omega⟩ : Fin 2048).val : Int) = x_ from Int.toNat_of_nonneg h_.1] at k_
  exact k_
theorem i_xc {x_ y_ : Int} : i_xor x_ y_ = i_xor y_ x_ := by
  unfold i_xor
  rw [Int32.xor_comm]
/-- an_ implication that omega doesn't look into -/
def imq (p_ q_ : Prop) : Prop := p_ → q_
def nz (u_ : Nat → Int) : Nat → Int := fun j_ => if u_ j_ = 0 then 0 else 1
def hpl (x_ y_ : Int) (j_ : Nat) : Nat := ((2027 * x_ + 31 * y_ + (j_ : Int)) % 4096).toNat
def gnd (G_ : pGr) : Prop := ∀ (i_ j_ : Nat) (p_ : Int × Int), G_[i_]? = some p_ → G_[j_]? = some p_ → i_ = j_
def bkr (F_ : Nat) (G_ : pGr) (u_ : Nat → Int) : Prop := (∀ j_, j_ < 4096 → u_ j_ = 0 ∨ ∃ k_, k_ < G_.length ∧ u_ j_ = ((F_ + k_ : Nat) : Int)) ∧ (∀ (k_ : Nat) (x_ y_ : Int), G_[k_]? = some (x_, y_) → ∃ j_, j_ < 4096 ∧ u_ (hpl x_ y_ j_) = ((F_ + k_ : Nat) : Int) ∧ ∀ i_, i_ < j_ → u_ (hpl x_ y_ i_) ≠ 0) ∧ cn1 (nz u_) 4096 = G_.length
theorem cn1_all {f_ : Nat → Int} : ∀ {n_ : Nat}, (∀ k_, k_ < n_ → f_ k_ = 1) → cn1 f_ n_ = n_
  | 0, _ => rfl
  | n_ + 1, h_ => by
    unfold cn1
    rw [cn1_all (fun k_ hk_ => h_ k_ (by omega)), if_pos (h_ n_ (by omega))]
theorem hpl_lt {x_ y_ : Int} {j_ : Nat} : hpl x_ y_ j_ < 4096 := by
  unfold hpl
  omega
theorem hpl_su {x_ y_ : Int} (q_ : Nat) (hq_ : q_ < 4096) : ∃ i_, i_ < 4096 ∧ hpl x_ y_ i_ = q_ := by
  refine ⟨(((q_ : Int) - (2027 * x_ + 31 * y_)) % 4096).toNat, by omega, ?_⟩
  unfold hpl
  omega
theorem g_fd_n {x_ y_ : Int} : ∀ {l_ : pGr} {k_ : Nat}, g_fd x_ y_ l_ k_ = none → ∀ i_ : Nat, l_[i_]? ≠ some (x_, y_)
  | [], k_, _, i_ => by simp
  | p_ :: l_, k_, h_, i_ => by
    unfold g_fd at h_
    split at h_
    · cases h_
    · rename_i g_
      cases i_ with
      | zero => intro e_; rw [List.getElem?_cons_zero] at e_; cases e_; exact g_ ⟨rfl, rfl⟩
      | succ i_ => rw [List.getElem?_cons_succ]; exact g_fd_n h_ i_
theorem g_fd_s {x_ y_ : Int} {G_ : pGr} (hn_ : gnd G_) {k_ : Nat} (h_ : G_[k_]? = some (x_, y_)) : g_fd x_ y_ G_ 0 = some k_ := by
  cases e_ : g_fd x_ y_ G_ 0 with
  | none => exact absurd h_ (g_fd_n e_ k_)
  | some i_ =>
    have q_ := (g_fd_b e_).2.2
    rw [Nat.sub_zero] at q_
    rw [hn_ i_ k_ _ q_ h_]
theorem bk_fd {F_ : Nat} {G_ : pGr} {u_ : Nat → Int} {a_ b_ : Int} {j_ : Nat} (h_ : bkr F_ G_ u_) (hG_ : G_.length ≤ 1000) (hF_ : 1 ≤ F_) (hj_ : j_ ≤ 4096) (h1_ : ∀ i_, i_ < j_ → u_ (hpl a_ b_ i_) ≠ 0 ∧ ∀ k_ : Nat, u_ (hpl a_ b_ i_) = ((F_ + k_ : Nat) : Int) → G_[k_]? ≠ some (a_, b_)) (h2_ : j_ = 4096 ∨ u_ (hpl a_ b_ j_) = 0) : u_ (hpl a_ b_ j_) = 0 ∧ j_ < 4096 ∧ g_fd a_ b_ G_ 0 = none := by
  have h3_ : j_ < 4096 := by
    by_cases z_ : j_ < 4096
    · exact z_
    · exfalso
      have e_ : cn1 (nz u_) 4096 = 4096 := cn1_all (fun k_ hk_ => by
        obtain ⟨i_, hi_, e_⟩ := hpl_su (x_ := a_) (y_ := b_) k_ hk_
        have q_ := (h1_ i_ (by omega)).1
        rw [e_] at q_
        exact if_neg q_)
      have := h_.2.2
      omega
  have h4_ : u_ (hpl a_ b_ j_) = 0 := by
    rcases h2_ with z_ | z_
    · omega
    · exact z_
  refine ⟨h4_, h3_, ?_⟩
  cases e_ : g_fd a_ b_ G_ 0 with
  | none => rfl
  | some k_ =>
    exfalso
    have q_ := (g_fd_b e_).2.2
    rw [Nat.sub_zero] at q_
    obtain ⟨i_, hi_, q1_, q2_⟩ := h_.2.1 k_ a_ b_ q_
    by_cases z_ : i_ < j_
    · exact (h1_ i_ z_).2 k_ q1_ q_
    · by_cases z2_ : i_ = j_
      · rw [z2_, h4_] at q1_
        omega
      · exact q2_ j_ (by omega) h4_
theorem gnd_ap {G_ : pGr} {a_ b_ : Int} (h_ : gnd G_) (hn_ : g_fd a_ b_ G_ 0 = none) : gnd (G_ ++ [(a_, b_)]) := by
  have key_ : ∀ (i_ : Nat) (p_ : Int × Int), (G_ ++ [(a_, b_)])[i_]? = some p_ → (i_ < G_.length ∧ G_[i_]? = some p_) ∨ (i_ = G_.length ∧ p_ = (a_, b_)) := by
    intro i_ p_ e_
    by_cases z_ : i_ < G_.length
    · rw [List.getElem?_append_left z_] at e_
      exact Or.inl ⟨z_, e_⟩
    · rw [List.getElem?_append_right (by omega)] at e_
      by_cases z2_ : i_ = G_.length
      · rw [z2_, Nat.sub_self, List.getElem?_cons_zero] at e_
        cases e_
        exact Or.inr ⟨z2_, rfl⟩
      · rw [show i_ - G_.length = (i_ - G_.length - 1) + 1 by omega, List.getElem?_cons_succ] at e_
        simp at e_
  intro i_ j_ p_ hi_ hj_
  rcases key_ i_ p_ hi_ with ⟨z1_, z2_⟩ | ⟨z1_, z2_⟩
  · rcases key_ j_ p_ hj_ with ⟨w1_, w2_⟩ | ⟨w1_, w2_⟩
    · exact h_ i_ j_ p_ z2_ w2_
    · rw [w2_] at z2_
      exact absurd z2_ (g_fd_n hn_ i_)
  · rcases key_ j_ p_ hj_ with ⟨w1_, w2_⟩ | ⟨w1_, w2_⟩
    · rw [z2_] at w2_
      exact absurd w2_ (g_fd_n hn_ j_)
    · omega
theorem ap_get {G_ : pGr} {a_ b_ x_ y_ : Int} {k_ : Nat} (e_ : (G_ ++ [(a_, b_)])[k_]? = some (x_, y_)) : (k_ < G_.length ∧ G_[k_]? = some (x_, y_)) ∨ (k_ = G_.length ∧ x_ = a_ ∧ y_ = b_) := by
  by_cases z_ : k_ < G_.length
  · rw [List.getElem?_append_left z_] at e_
    exact Or.inl ⟨z_, e_⟩
  · rw [List.getElem?_append_right (by omega)] at e_
    by_cases z2_ : k_ = G_.length
    · rw [z2_, Nat.sub_self, List.getElem?_cons_zero] at e_
      cases e_
      exact Or.inr ⟨z2_, rfl, rfl⟩
    · rw [show k_ - G_.length = (k_ - G_.length - 1) + 1 by omega, List.getElem?_cons_succ] at e_
      simp at e_
theorem bk_put {F_ : Nat} {G_ : pGr} {u_ w_ : Nat → Int} {a_ b_ : Int} {j_ : Nat} (h_ : bkr F_ G_ u_) (hF_ : 1 ≤ F_) (hj_ : j_ < 4096) (h1_ : ∀ i_, i_ < j_ → u_ (hpl a_ b_ i_) ≠ 0) (h2_ : u_ (hpl a_ b_ j_) = 0) (hw_ : ∀ k_, w_ k_ = if k_ = hpl a_ b_ j_ then ((F_ + G_.length : Nat) : Int) else u_ k_) : bkr F_ (G_ ++ [(a_, b_)]) w_ := by
  have hz_ : ∀ k_, u_ k_ ≠ 0 → w_ k_ = u_ k_ := fun k_ z_ => by
    rw [hw_ k_, if_neg (fun e_ => z_ (by rw [e_]; exact h2_))]
  refine ⟨fun k_ hk_ => ?_, fun k_ x_ y_ e_ => ?_, ?_⟩
  · rw [hw_ k_]
    by_cases e_ : k_ = hpl a_ b_ j_
    · rw [if_pos e_]
      exact Or.inr ⟨G_.length, by simp, rfl⟩
    · rw [if_neg e_]
      rcases h_.1 k_ hk_ with z_ | ⟨i_, z1_, z2_⟩
      · exact Or.inl z_
      · exact Or.inr ⟨i_, by simp only [List.length_append, List.length_cons, List.length_nil]; omega, z2_⟩
  · rcases ap_get e_ with ⟨z1_, z2_⟩ | ⟨z1_, z2_, z3_⟩
    · obtain ⟨i_, q1_, q2_, q3_⟩ := h_.2.1 k_ x_ y_ z2_
      refine ⟨i_, q1_, ?_, fun i1_ hi1_ => ?_⟩
      · rw [hz_ _ (by rw [q2_]; omega)]
        exact q2_
      · rw [hz_ _ (q3_ i1_ hi1_)]
        exact q3_ i1_ hi1_
    · rw [z1_, z2_, z3_]
      refine ⟨j_, hj_, by rw [hw_, if_pos rfl], fun i_ hi_ => ?_⟩
      rw [hz_ _ (h1_ i_ hi_)]
      exact h1_ i_ hi_
  · rw [cn1_up (f := nz u_) (g := nz w_) (j := hpl a_ b_ j_) (by unfold nz; rw [if_pos h2_]; decide) (by unfold nz; rw [hw_, if_pos rfl, if_neg (by omega)]) (fun k_ hk_ => by unfold nz; rw [hw_ k_, if_neg hk_]) hpl_lt, h_.2.2]
    simp
/-- the_ other designs are_ as_ they were -/
def idf (dd_ : Nat) (S_ S'_ : sm_S) : Prop := ∀ i_, i_ ≠ dd_ → (∀ k_, k_ < 10 → S'_.1 3 i_ k_ = S_.1 3 i_ k_) ∧ ∀ t_, t_ < 48 → 42 ≤ t_ → S'_.2.2.1 t_ (0 + i_) = S_.2.2.1 t_ (0 + i_)
theorem idf_rf {dd_ : Nat} {S_ : sm_S} : idf dd_ S_ S_ := fun _ _ => ⟨fun _ _ => rfl, fun _ _ _ => rfl⟩
theorem idf_tr {dd_ : Nat} {S_ S'_ S2_ : sm_S} (h_ : idf dd_ S_ S'_) (g_ : idf dd_ S'_ S2_) : idf dd_ S_ S2_ := fun i_ hi_ => ⟨fun k_ hk_ => ((g_ i_ hi_).1 k_ hk_).trans ((h_ i_ hi_).1 k_ hk_), fun t_ h1_ h2_ => ((g_ i_ hi_).2 t_ h1_ h2_).trans ((h_ i_ hi_).2 t_ h1_ h2_)⟩
theorem idf_fr {w_ : sx_Wl} {dd_ : Nat} {S_ S'_ : sm_S} (g_ : ai_fr (sx_W w_) S_ S'_) (h1_ : ∀ k_, k_ < 10 → (sx_W w_).1 3 k_ = false) (h2_ : ∀ t_, t_ < 48 → 42 ≤ t_ → (sx_W w_).2.1 t_ = false) : idf dd_ S_ S'_ := fun i_ _ => ⟨fun k_ hk_ => g_.1 3 i_ k_ (h1_ k_ hk_), fun t_ q1_ q2_ => fr_arr g_ (h2_ t_ q1_ q2_)⟩
theorem idf_pI {dd_ t_ i_ k_ : Nat} {S_ S'_ : sm_S} {v_ : Int} (h_ : idf dd_ S_ S'_) (g_ : t_ ≠ 3 ∨ i_ = dd_) : idf dd_ S_ (sm_pI S'_ t_ i_ k_ v_) := fun j_ hj_ => ⟨fun k1_ hk_ => by
  rw [← (h_ j_ hj_).1 k1_ hk_]
  exact sm_up_ne (fun z_ => by
    rcases g_ with g_ | g_
    · exact g_ z_.1.symm
    · exact hj_ (z_.2.1.trans g_)), (h_ j_ hj_).2⟩
theorem idf_aI {dd_ t_ i_ k_ : Nat} {S_ S'_ : sm_S} {v_ : Int} (h_ : idf dd_ S_ S'_) (g_ : (t_ < 42 ∨ 47 < t_) ∨ i_ = 0 + dd_) : idf dd_ S_ (sm_aI S'_ t_ i_ k_ v_) := fun j_ hj_ => ⟨(h_ j_ hj_).1, fun t1_ q1_ q2_ => by
  rw [← (h_ j_ hj_).2 t1_ q1_ q2_]
  funext k1_
  exact sm_up_ne (fun z_ => by
    rcases g_ with g_ | g_
    · have := z_.1
      omega
    · have := z_.2.1
      omega)⟩
theorem idf_aL {dd_ t_ i_ k_ : Nat} {S_ S'_ : sm_S} {v_ : Int} (h_ : idf dd_ S_ S'_) : idf dd_ S_ (sm_aL S'_ t_ i_ k_ v_) := h_
theorem idf_pR {dd_ t_ i_ k_ : Nat} {S_ S'_ : sm_S} {v_ : Option Nat} (h_ : idf dd_ S_ S'_) : idf dd_ S_ (sm_pR S'_ t_ i_ k_ v_) := h_
theorem idf_ac {dd_ t_ i_ t1_ i1_ a_ c_ k_ : Nat} {S_ S'_ : sm_S} (h_ : idf dd_ S_ S'_) (g_ : (t1_ < 42 ∨ 47 < t1_) ∨ i1_ = 0 + dd_) : idf dd_ S_ (sm_acI S'_ t_ i_ t1_ i1_ a_ c_ k_) := fun j_ hj_ => ⟨(h_ j_ hj_).1, fun t2_ q1_ q2_ => by
  rw [← (h_ j_ hj_).2 t2_ q1_ q2_]
  exact sm_acI_ne (fun z_ => by
    rcases g_ with g_ | g_
    · have := z_.1
      omega
    · have := z_.2
      omega)⟩
/-- the_ class's graph -/
def cgx (dd_ F_ : Nat) (G_ : pGr) (S_ : sm_S) : Prop := S_.2.1 1 0 1 = some dd_ ∧ (F_ : Int) = 1 + S_.1 3 dd_ 1 + S_.1 3 dd_ 2 ∧ (1 ≤ F_ ∧ F_ ≤ 13) ∧ S_.1 3 dd_ 4 = ((F_ + G_.length : Nat) : Int) ∧ G_.length ≤ 1000 ∧ (∀ (k_ : Nat) (x_ y_ : Int), G_[k_]? = some (x_, y_) → S_.2.2.1 42 (0 + dd_) (F_ + k_) = x_ ∧ S_.2.2.1 43 (0 + dd_) (F_ + k_) = y_) ∧ gnd G_ ∧ bkr F_ G_ (S_.2.2.1 29 0)
def cgl (dd_ F_ : Nat) (G_ : pGr) (S_ : sm_S) : Prop := ∃ G1_, cgx dd_ F_ G1_ S_ ∧ ((G_.length ≤ 1000 ∧ G1_ = G_ ∧ S_.1 1 0 8 = 0) ∨ (1000 < G_.length ∧ G1_.length = 1000 ∧ S_.1 1 0 8 = 1))
theorem cgx_up {dd_ F_ : Nat} {G_ : pGr} {S_ S'_ : sm_S} {a_ b_ : Int} {j_ : Nat} (h_ : cgx dd_ F_ G_ S_) (hl_ : G_.length < 1000) (hj_ : j_ < 4096) (h1_ : ∀ i_, i_ < j_ → S_.2.2.1 29 0 (hpl a_ b_ i_) ≠ 0) (h2_ : S_.2.2.1 29 0 (hpl a_ b_ j_) = 0) (hn_ : g_fd a_ b_ G_ 0 = none) (e0_ : S'_.2.1 1 0 1 = S_.2.1 1 0 1) (e1_ : S'_.1 3 dd_ 1 = S_.1 3 dd_ 1) (e2_ : S'_.1 3 dd_ 2 = S_.1 3 dd_ 2) (e4_ : S'_.1 3 dd_ 4 = S_.1 3 dd_ 4 + 1) (e29_ : ∀ k_, S'_.2.2.1 29 0 k_ = if k_ = hpl a_ b_ j_ then ((F_ + G_.length : Nat) : Int) else S_.2.2.1 29 0 k_) (e42_ : ∀ k_, S'_.2.2.1 42 (0 + dd_) k_ = if k_ = F_ + G_.length then a_ else S_.2.2.1 42 (0 + dd_) k_) (e43_ : ∀ k_, S'_.2.2.1 43 (0 + dd_) k_ = if k_ = F_ + G_.length then b_ else S_.2.2.1 43 (0 + dd_) k_) : cgx dd_ F_ (G_ ++ [(a_, b_)]) S'_ := by
  obtain ⟨x1_, x2_, x3_, x4_, x5_, x6_, x7_, x8_⟩ := h_
  refine ⟨e0_.trans x1_, by rw [e1_, e2_]; exact x2_, x3_, ?_, ?_, fun k_ x_ y_ e_ => ?_, gnd_ap x7_ hn_, bk_put x8_ x3_.1 hj_ h1_ h2_ e29_⟩
  · rw [e4_, x4_]
    simp only [List.length_append, List.length_cons, List.length_nil]
    push_cast
    omega
  · simp only [List.length_append, List.length_cons, List.length_nil]
    omega
  · rw [e42_, e43_]
    rcases ap_get e_ with ⟨z1_, z2_⟩ | ⟨z1_, z2_, z3_⟩
    · rw [if_neg (by omega), if_neg (by omega)]
      exact x6_ k_ x_ y_ z2_
    · rw [if_pos (by omega), if_pos (by omega)]
      exact ⟨z2_.symm, z3_.symm⟩
/-- the_ same graph, if nothing of_ it_ was_ written -/
theorem cgx_cg {dd_ F_ : Nat} {G_ : pGr} {S_ S'_ : sm_S} (h_ : cgx dd_ F_ G_ S_) (e0_ : S'_.2.1 1 0 1 = S_.2.1 1 0 1) (e1_ : S'_.1 3 dd_ 1 = S_.1 3 dd_ 1) (e2_ : S'_.1 3 dd_ 2 = S_.1 3 dd_ 2) (e4_ : S'_.1 3 dd_ 4 = S_.1 3 dd_ 4) (e29_ : S'_.2.2.1 29 0 = S_.2.2.1 29 0) (e42_ : S'_.2.2.1 42 (0 + dd_) = S_.2.2.1 42 (0 + dd_)) (e43_ : S'_.2.2.1 43 (0 + dd_) = S_.2.2.1 43 (0 + dd_)) : cgx dd_ F_ G_ S'_ := by
  unfold cgx at h_ ⊢
  rw [e0_, e1_, e2_, e4_, e29_, e42_, e43_]
  exact h_
theorem cgl_fr {w_ : sx_Wl} {dd_ F_ : Nat} {G_ : pGr} {S_ S'_ : sm_S} (h_ : cgl dd_ F_ G_ S_) (g_ : ai_fr (sx_W w_) S_ S'_) (h0_ : (sx_W w_).2.2 1 1 = false) (h1_ : (sx_W w_).1 3 1 = false) (h2_ : (sx_W w_).1 3 2 = false) (h3_ : (sx_W w_).1 3 4 = false) (h4_ : (sx_W w_).2.1 29 = false) (h5_ : (sx_W w_).2.1 42 = false) (h6_ : (sx_W w_).2.1 43 = false) (h7_ : (sx_W w_).1 1 8 = false) : cgl dd_ F_ G_ S'_ := by
  obtain ⟨G1_, x1_, x2_⟩ := h_
  refine ⟨G1_, cgx_cg x1_ (g_.2.1 1 0 1 h0_) (g_.1 3 dd_ 1 h1_) (g_.1 3 dd_ 2 h2_) (g_.1 3 dd_ 4 h3_) (fr_arr g_ h4_) (fr_arr g_ h5_) (fr_arr g_ h6_), ?_⟩
  rw [g_.1 1 0 8 h7_]
  exact x2_
theorem cgl_d {dd_ F_ : Nat} {G_ : pGr} {S_ : sm_S} (h_ : cgl dd_ F_ G_ S_) : S_.2.1 1 0 1 = some dd_ := by
  obtain ⟨G1_, x_, _⟩ := h_
  exact x_.1
theorem cgl_f {dd_ F_ : Nat} {G_ : pGr} {S_ : sm_S} (h_ : cgl dd_ F_ G_ S_) : (S_.1 1 0 8 = 0 ↔ G_.length ≤ 1000) ∧ (S_.1 1 0 8 = 0 ∨ S_.1 1 0 8 = 1) := by
  obtain ⟨G1_, _, x_⟩ := h_
  rcases x_ with x_ | x_ <;> omega
/-- what an_ AND_ gives: out_ of_ the_ exact graph -/
theorem an_go {dd_ F_ : Nat} {G_ G1_ : pGr} {S_ S1_ : sm_S} {A_ B_ x_ y_ v_ : Int} (hx_ : cgx dd_ F_ G1_ S_) (h0_ : (G_.length ≤ 1000 ∧ G1_ = G_ ∧ S_.1 1 0 8 = 0) ∨ (1000 < G_.length ∧ G1_.length = 1000 ∧ S_.1 1 0 8 = 1)) (hab_ : G_.length ≤ 1000 → x_ = A_ ∧ y_ = B_) (hr_ : (cgx dd_ F_ (g_an F_ G1_ x_ y_).2 S1_ ∧ v_ = (g_an F_ G1_ x_ y_).1 ∧ S1_.1 1 0 8 = S_.1 1 0 8) ∨ (G1_.length = 1000 ∧ (g_an F_ G1_ x_ y_).2.length = 1001 ∧ cgx dd_ F_ G1_ S1_ ∧ S1_.1 1 0 8 = 1)) : cgl dd_ F_ (g_an F_ G_ A_ B_).2 S1_ ∧ ((g_an F_ G_ A_ B_).2.length ≤ 1000 → v_ = (g_an F_ G_ A_ B_).1) := by
  have hm_ := g_an_le (F_ := F_) (G_ := G_) (a_ := A_) (b_ := B_)
  have hm1_ := g_an_le (F_ := F_) (G_ := G1_) (a_ := x_) (b_ := y_)
  rcases h0_ with ⟨z1_, z2_, z3_⟩ | ⟨z1_, z2_, z3_⟩
  · obtain ⟨e1_, e2_⟩ := hab_ z1_
    subst z2_
    subst e1_
    subst e2_
    rcases hr_ with ⟨r1_, r2_, r3_⟩ | ⟨r1_, r2_, r3_, r4_⟩
    · exact ⟨⟨_, r1_, Or.inl ⟨r1_.2.2.2.2.1, rfl, r3_.trans z3_⟩⟩, fun _ => r2_⟩
    · exact ⟨⟨_, r3_, Or.inr ⟨by omega, r1_, r4_⟩⟩, fun z_ => by omega⟩
  · refine ⟨?_, fun z_ => by omega⟩
    rcases hr_ with ⟨r1_, r2_, r3_⟩ | ⟨r1_, r2_, r3_, r4_⟩
    · have := r1_.2.2.2.2.1
      exact ⟨_, r1_, Or.inr ⟨by omega, by omega, r3_.trans z3_⟩⟩
    · exact ⟨_, r3_, Or.inr ⟨by omega, r1_, r4_⟩⟩
theorem g_an_mn {F_ : Nat} {G_ : pGr} {x_ y_ a_ b_ : Int} (h_ : (x_ < y_ ∧ a_ = x_ ∧ b_ = y_) ∨ (y_ ≤ x_ ∧ a_ = y_ ∧ b_ = x_)) : g_an F_ G_ x_ y_ = g_a2 F_ G_ a_ b_ := by
  unfold g_an
  rcases h_ with ⟨h1_, h2_, h3_⟩ | ⟨h1_, h2_, h3_⟩
  · rw [if_pos h1_, h2_, h3_]
  · rw [if_neg (by omega), h2_, h3_]
theorem g_a2_f {F_ k_ : Nat} {G_ : pGr} {x_ y_ : Int} (h0_ : ¬ (x_ = 0 ∨ x_ = i_xor y_ 1)) (h1_ : ¬ (x_ = 1 ∨ x_ = y_)) (h_ : g_fd x_ y_ G_ 0 = some k_) : g_a2 F_ G_ x_ y_ = (2 * ((F_ + k_ : Nat) : Int), G_) := by
  unfold g_a2
  rw [if_neg h0_, if_neg h1_, h_]
theorem g_a2_n {F_ : Nat} {G_ : pGr} {x_ y_ : Int} (h0_ : ¬ (x_ = 0 ∨ x_ = i_xor y_ 1)) (h1_ : ¬ (x_ = 1 ∨ x_ = y_)) (h_ : g_fd x_ y_ G_ 0 = none) : g_a2 F_ G_ x_ y_ = (2 * ((F_ + G_.length : Nat) : Int), G_ ++ [(x_, y_)]) := by
  unfold g_a2
  rw [if_neg h0_, if_neg h1_, h_]
end
/-! 99.za2 -/
section
/-! evaluation of code; written by wip/p55/gen/vg -/

/-! evaluation of_ code -/
abbrev gV : Type := List (List Int)
abbrev gE : Type := Nat → List Int
abbrev gO : Type := Nat → Option (Nat → List Int)
abbrev gQ : Type := pGr × Nat × Nat
abbrev gS : Type := gQ × gE × gO × gV
def g_z2 (op_ : pGr → Int → Int → Int × pGr) : pGr → List Int → List Int → List Int × pGr
  | G_, a_ :: x_, b_ :: y_ => ((op_ G_ a_ b_).1 :: (g_z2 op_ (op_ G_ a_ b_).2 x_ y_).1, (g_z2 op_ (op_ G_ a_ b_).2 x_ y_).2)
  | G_, _, _ => ([], G_)
/-- one_ bit_ of_ a_ sum_: the_ bit_, the_ carry, the_ graph -/
def g_s3 (F_ : Nat) (G_ : pGr) (c_ a_ b_ : Int) : Int × Int × pGr :=
  let h_ := g_xo F_ G_ a_ b_
  let s_ := g_xo F_ h_.2 h_.1 c_
  let m_ := g_an F_ s_.2 a_ b_
  let t_ := g_an F_ m_.2 h_.1 c_
  let o_ := g_or F_ t_.2 m_.1 t_.1
  (s_.1, o_.1, o_.2)
def g_su (F_ : Nat) : pGr → Int → List Int → List Int → List Int × pGr
  | G_, c_, a_ :: x_, b_ :: y_ => ((g_s3 F_ G_ c_ a_ b_).1 :: (g_su F_ (g_s3 F_ G_ c_ a_ b_).2.2 (g_s3 F_ G_ c_ a_ b_).2.1 x_ y_).1, (g_su F_ (g_s3 F_ G_ c_ a_ b_).2.2 (g_s3 F_ G_ c_ a_ b_).2.1 x_ y_).2)
  | G_, _, _, _ => ([], G_)
def g_e3 (F_ : Nat) (G_ : pGr) (s_ a_ b_ : Int) : Int × pGr := g_an F_ (g_xo F_ G_ a_ b_).2 s_ (i_xor (g_xo F_ G_ a_ b_).1 1)
def g_s1 (F_ : Nat) : pGr → Int → List Int → List Int → Int × pGr
  | G_, s_, a_ :: x_, b_ :: y_ => g_s1 F_ (g_e3 F_ G_ s_ a_ b_).2 (g_e3 F_ G_ s_ a_ b_).1 x_ y_
  | G_, s_, _, _ => (s_, G_)
def g_sa (F_ : Nat) (G_ : pGr) : List Int → List Int → List Int × pGr
  | a_ :: x_, b_ :: y_ => ([(g_s1 F_ (g_xo F_ G_ a_ b_).2 (i_xor (g_xo F_ G_ a_ b_).1 1) x_ y_).1], (g_s1 F_ (g_xo F_ G_ a_ b_).2 (i_xor (g_xo F_ G_ a_ b_).1 1) x_ y_).2)
  | _, _ => ([], G_)
/-- one_ bit_ of_ a_ choice -/
def g_c3 (F_ : Nat) (G_ : pGr) (c_ a_ b_ : Int) : Int × pGr := g_or F_ (g_an F_ (g_an F_ G_ c_ a_).2 (i_xor c_ 1) b_).2 (g_an F_ G_ c_ a_).1 (g_an F_ (g_an F_ G_ c_ a_).2 (i_xor c_ 1) b_).1
def g_ch (F_ : Nat) (c_ : Int) : pGr → List Int → List Int → List Int × pGr := g_z2 (fun G_ a_ b_ => g_c3 F_ G_ c_ a_ b_)
def g_bw (F_ : Nat) (k_ : Int) : pGr → Int → Int → Int × pGr := if k_ = 3 then g_an F_ else if k_ = 1 then g_or F_ else g_xo F_
def g_op (F_ : Nat) (k_ : Int) (G_ : pGr) (x_ y_ : List Int) : List Int × pGr := if k_ = 5 then g_su F_ G_ 0 x_ y_ else if k_ = 4 then g_sa F_ G_ x_ y_ else g_z2 (g_bw F_ k_) G_ x_ y_
def e_op (F_ : Nat) (k_ : Int) (G_ : pGr) (V_ : gV) : Option (pGr × gV) :=
  if k_ = 6 then (match V_ with
    | x_ :: l_ => some (G_, x_.map (fun z_ => i_xor z_ 1) :: l_)
    | _ => none)
  else if k_ = 7 then (match V_ with
    | e_ :: a_ :: [c_] :: l_ => if a_.length = e_.length ∧ 1 ≤ a_.length then some ((g_ch F_ c_ G_ a_ e_).2, (g_ch F_ c_ G_ a_ e_).1 :: l_) else none
    | _ => none)
  else if 1 ≤ k_ ∧ k_ ≤ 5 then (match V_ with
    | y_ :: x_ :: l_ => if x_.length = y_.length ∧ 1 ≤ x_.length then some ((g_op F_ k_ G_ x_ y_).2, (g_op F_ k_ G_ x_ y_).1 :: l_) else none
    | _ => none)
  else none
def c_bt (a_ : Nat) (d_ : Int) : List Int := (List.range a_).map fun (j_ : Nat) => i_shr d_ (j_ : Int) % 2
def e_ld (A_ : pA) (m_ : Nat) (k_ : Int) (a_ : Nat) (d_ : Int) (E_ : gE) (O_ : gO) (V_ : gV) : Option gV :=
  if k_ = 11 then (match V_ with
    | x_ :: l_ => if a_ < x_.length then some ([x_.getD a_ 0] :: l_) else none
    | _ => none)
  else if 512 ≤ V_.length then none
  else if k_ = 8 then (if 1 ≤ a_ ∧ a_ ≤ 8 ∧ 0 ≤ d_ then some (c_bt a_ d_ :: V_) else none)
  else if k_ = 9 then (if a_ < A_.1 m_ ∧ 1 ≤ (E_ a_).length ∧ (E_ a_).length ≤ 8 ∧ ((E_ a_).length : Int) = A_.2.2.2.1 (40 * m_ + a_) then some (E_ a_ :: V_) else none)
  else if k_ = 10 then (match O_ a_ with
    | some o_ => if a_ < A_.1 m_ ∧ 0 ≤ d_ ∧ d_ < A_.1 (A_.2.2.2.2 (40 * m_ + a_)).toNat ∧ 0 ≤ A_.2.2.2.2 (40 * m_ + a_) ∧ A_.2.2.2.2 (40 * m_ + a_) < m_ ∧ 1 ≤ (o_ d_.toNat).length ∧ (o_ d_.toNat).length ≤ 8 ∧ ((o_ d_.toNat).length : Int) = A_.2.2.2.1 (40 * (A_.2.2.2.2 (40 * m_ + a_)).toNat + d_.toNat) then some (o_ d_.toNat :: V_) else none
    | none => none)
  else none
def r_bt (I_ R_ wd_ : Nat) : List Int := (List.range wd_).map fun (j_ : Nat) => 2 * ((1 + I_ + R_ + j_ : Nat) : Int)
def up1 {α : Type} (f_ : Nat → α) (a_ : Nat) (v_ : α) : Nat → α := fun k_ => if k_ = a_ then v_ else f_ k_
def e_st (I_ : Nat) (A_ : pA) (m_ : Nat) (k_ : Int) (a_ : Nat) (d_ : Int) (s_ : gS) : Option gS :=
  if A_.1 m_ ≤ a_ then none
  else if k_ = 15 then (if s_.1.2.2 ≤ 200 ∧ s_.2.1 a_ = [] ∧ s_.2.2.1 a_ = none then some ((s_.1.1, s_.1.2.1, s_.1.2.2 + 1), s_.2.1, up1 s_.2.2.1 a_ (some fun _ => []), s_.2.2.2) else none)
  else if k_ = 13 then (if s_.2.2.1 a_ = none ∧ 1 ≤ A_.2.2.2.1 (40 * m_ + a_) ∧ A_.2.2.2.1 (40 * m_ + a_) ≤ 8 ∧ s_.1.2.1 + (A_.2.2.2.1 (40 * m_ + a_)).toNat ≤ 6 then some ((s_.1.1, s_.1.2.1 + (A_.2.2.2.1 (40 * m_ + a_)).toNat, s_.1.2.2), up1 s_.2.1 a_ (r_bt I_ s_.1.2.1 (A_.2.2.2.1 (40 * m_ + a_)).toNat), s_.2.2.1, s_.2.2.2) else none)
  else match s_.2.2.2 with
    | [] => none
    | x_ :: l_ => if k_ = 12 then (if s_.2.2.1 a_ = none ∧ x_.length ≤ 8 then some (s_.1, up1 s_.2.1 a_ x_, s_.2.2.1, l_) else none)
      else if k_ = 14 then (match s_.2.1 a_ with
        | [] => none
        | z_ :: _ => if 2 * (1 + (I_ : Int)) ≤ z_ ∧ z_ / 2 - 1 - I_ + x_.length ≤ 6 then some (s_.1, s_.2.1, s_.2.2.1, l_) else none)
      else if k_ = 16 then (match s_.2.2.1 a_ with
        | some o_ => if 0 ≤ d_ ∧ d_ < 40 ∧ x_.length ≤ 8 then some (s_.1, s_.2.1, up1 s_.2.2.1 a_ (some (up1 o_ d_.toNat x_)), l_) else none
        | none => none)
      else none
def ew (F_ I_ : Nat) (A_ : pA) (X_ : Nat → gQ → gE → Option (gQ × gE)) (m_ : Nat) (w_ : Int) (s_ : gS) : Option gS :=
  if w_ % 32 = 17 then (match s_.2.2.1 (w_ / 32 % 64).toNat, s_.2.2.2 with
    | some o_, [] => if (w_ / 32 % 64).toNat < A_.1 m_ ∧ 0 ≤ w_ / 2048 ∧ w_ / 2048 < m_ then (match X_ (w_ / 2048).toNat s_.1 o_ with
        | some r_ => some (r_.1, s_.2.1, up1 s_.2.2.1 (w_ / 32 % 64).toNat (some r_.2), [])
        | none => none) else none
    | _, _ => none)
  else if w_ % 32 ≤ 7 then (match e_op F_ (w_ % 32) s_.1.1 s_.2.2.2 with
    | some r_ => some ((r_.1, s_.1.2), s_.2.1, s_.2.2.1, r_.2)
    | none => none)
  else if w_ % 32 ≤ 11 then (match e_ld A_ m_ (w_ % 32) (w_ / 32 % 64).toNat (w_ / 2048) s_.2.1 s_.2.2.1 s_.2.2.2 with
    | some V_ => some (s_.1, s_.2.1, s_.2.2.1, V_)
    | none => none)
  else e_st I_ A_ m_ (w_ % 32) (w_ / 32 % 64).toNat (w_ / 2048) s_
def ec (F_ I_ : Nat) (A_ : pA) (X_ : Nat → gQ → gE → Option (gQ × gE)) (m_ : Nat) : List Int → gS → Option gS
  | [], s_ => some s_
  | w_ :: c_, s_ => match ew F_ I_ A_ X_ m_ w_ s_ with
    | some s1_ => ec F_ I_ A_ X_ m_ c_ s1_
    | none => none
def exm (F_ I_ : Nat) (A_ : pA) (C_ : Nat → List Int) : Nat → Nat → gQ → gE → Option (gQ × gE)
  | 0, _, _, _ => none
  | f_ + 1, d_, q_, e_ => match ec F_ I_ A_ (exm F_ I_ A_ C_ f_) d_ (C_ d_) (q_, e_, fun _ => none, []) with
    | some s_ => match s_.2.2.2 with
      | [] => some (s_.1, s_.2.1)
      | _ => none
    | none => none
/-! the_ graph only grows -/
theorem g_or_le {F_ : Nat} {G_ : pGr} {a_ b_ : Int} : G_.length ≤ (g_or F_ G_ a_ b_).2.length := g_an_le.1
theorem g_xo_le {F_ : Nat} {G_ : pGr} {a_ b_ : Int} : G_.length ≤ (g_xo F_ G_ a_ b_).2.length :=
  Nat.le_trans g_an_le.1 (Nat.le_trans g_an_le.1 g_or_le)
theorem g_z2_le {op_ : pGr → Int → Int → Int × pGr} (h_ : ∀ G_ a_ b_, G_.length ≤ (op_ G_ a_ b_).2.length) : ∀ (x_ y_ : List Int) (G_ : pGr), G_.length ≤ (g_z2 op_ G_ x_ y_).2.length
  | [], _, G_ => Nat.le_refl _
  | _ :: _, [], G_ => Nat.le_refl _
  | a_ :: x_, b_ :: y_, G_ => Nat.le_trans (h_ G_ a_ b_) (g_z2_le h_ x_ y_ _)
theorem g_s3_le {F_ : Nat} {G_ : pGr} {c_ a_ b_ : Int} : G_.length ≤ (g_s3 F_ G_ c_ a_ b_).2.2.length :=
  Nat.le_trans g_xo_le (Nat.le_trans g_xo_le (Nat.le_trans g_an_le.1 (Nat.le_trans g_an_le.1 g_or_le)))
theorem g_su_le {F_ : Nat} : ∀ (x_ y_ : List Int) (G_ : pGr) (c_ : Int), G_.length ≤ (g_su F_ G_ c_ x_ y_).2.length
  | [], _, G_, _ => Nat.le_refl _
  | _ :: _, [], G_, _ => Nat.le_refl _
  | a_ :: x_, b_ :: y_, G_, c_ => Nat.le_trans g_s3_le (g_su_le x_ y_ _ _)
theorem g_e3_le {F_ : Nat} {G_ : pGr} {s_ a_ b_ : Int} : G_.length ≤ (g_e3 F_ G_ s_ a_ b_).2.length := Nat.le_trans g_xo_le g_an_le.1
theorem g_s1_le {F_ : Nat} : ∀ (x_ y_ : List Int) (G_ : pGr) (c_ : Int), G_.length ≤ (g_s1 F_ G_ c_ x_ y_).2.length
  | [], _, G_, _ => Nat.le_refl _
  | _ :: _, [], G_, _ => Nat.le_refl _
  | a_ :: x_, b_ :: y_, G_, c_ => Nat.le_trans g_e3_le (g_s1_le x_ y_ _ _)
theorem g_sa_le {F_ : Nat} : ∀ (x_ y_ : List Int) (G_ : pGr), G_.length ≤ (g_sa F_ G_ x_ y_).2.length
  | [], _, G_ => Nat.le_refl _
  | _ :: _, [], G_ => Nat.le_refl _
  | a_ :: x_, b_ :: y_, G_ => Nat.le_trans g_xo_le (g_s1_le x_ y_ _ _)
theorem g_c3_le {F_ : Nat} {G_ : pGr} {c_ a_ b_ : Int} : G_.length ≤ (g_c3 F_ G_ c_ a_ b_).2.length := Nat.le_trans g_an_le.1 (Nat.le_trans g_an_le.1 g_or_le)
theorem g_bw_le {F_ : Nat} {k_ : Int} : ∀ G_ a_ b_, G_.length ≤ (g_bw F_ k_ G_ a_ b_).2.length := by
  intro G_ a_ b_
  unfold g_bw
  split
  · exact g_an_le.1
  · split
    · exact g_or_le
    · exact g_xo_le
theorem g_op_le {F_ : Nat} {k_ : Int} {x_ y_ : List Int} {G_ : pGr} : G_.length ≤ (g_op F_ k_ G_ x_ y_).2.length := by
  unfold g_op
  split
  · exact g_su_le x_ y_ G_ 0
  · split
    · exact g_sa_le x_ y_ G_
    · exact g_z2_le g_bw_le x_ y_ G_
theorem e_op_le {F_ : Nat} {k_ : Int} {G_ : pGr} {V_ : gV} {r_ : pGr × gV} (h_ : e_op F_ k_ G_ V_ = some r_) : G_.length ≤ r_.1.length := by
  unfold e_op at h_
  split at h_
  · split at h_
    · cases h_; exact Nat.le_refl _
    · cases h_
  · split at h_
    · split at h_
      · split at h_
        · cases h_; exact g_z2_le (fun G_ a_ b_ => g_c3_le) _ _ _
        · cases h_
      · cases h_
    · split at h_
      · split at h_
        · split at h_
          · cases h_; exact g_op_le
          · cases h_
        · cases h_
      · cases h_
theorem e_st_g {I_ : Nat} {A_ : pA} {m_ : Nat} {k_ : Int} {a_ : Nat} {d_ : Int} {s_ r_ : gS} (h_ : e_st I_ A_ m_ k_ a_ d_ s_ = some r_) : r_.1.1 = s_.1.1 := by
  unfold e_st at h_
  split at h_
  · cases h_
  · split at h_
    · split at h_
      · cases h_; rfl
      · cases h_
    · split at h_
      · split at h_
        · cases h_; rfl
        · cases h_
      · split at h_
        · cases h_
        · split at h_
          · split at h_
            · cases h_; rfl
            · cases h_
          · split at h_
            · split at h_
              · cases h_
              · split at h_
                · cases h_; rfl
                · cases h_
            · split at h_
              · split at h_
                · split at h_
                  · cases h_; rfl
                  · cases h_
                · cases h_
              · cases h_
theorem ew_le {F_ I_ : Nat} {A_ : pA} {X_ : Nat → gQ → gE → Option (gQ × gE)} {m_ : Nat} {w_ : Int} {s_ r_ : gS} (hX_ : ∀ d_ q_ e_ z_, X_ d_ q_ e_ = some z_ → q_.1.length ≤ z_.1.1.length) (h_ : ew F_ I_ A_ X_ m_ w_ s_ = some r_) : s_.1.1.length ≤ r_.1.1.length := by
  unfold ew at h_
  split at h_
  · split at h_
    · split at h_
      · split at h_
        · rename_i e_
          cases h_
          exact hX_ _ _ _ _ e_
        · cases h_
      · cases h_
    · cases h_
  · split at h_
    · split at h_
      · rename_i e_
        cases h_
        exact e_op_le e_
      · cases h_
    · split at h_
      · split at h_
        · cases h_; exact Nat.le_refl _
        · cases h_
      · rw [e_st_g h_]
        exact Nat.le_refl _
theorem ec_le {F_ I_ : Nat} {A_ : pA} {X_ : Nat → gQ → gE → Option (gQ × gE)} {m_ : Nat} (hX_ : ∀ d_ q_ e_ z_, X_ d_ q_ e_ = some z_ → q_.1.length ≤ z_.1.1.length) : ∀ (c_ : List Int) (s_ r_ : gS), ec F_ I_ A_ X_ m_ c_ s_ = some r_ → s_.1.1.length ≤ r_.1.1.length
  | [], s_, r_, h_ => by cases h_; exact Nat.le_refl _
  | w_ :: c_, s_, r_, h_ => by
    rw [ec] at h_
    split at h_
    · rename_i e_
      exact Nat.le_trans (ew_le hX_ e_) (ec_le hX_ c_ _ _ h_)
    · cases h_
theorem exm_le {F_ I_ : Nat} {A_ : pA} {C_ : Nat → List Int} : ∀ (f_ d_ : Nat) (q_ : gQ) (e_ : gE) (z_ : gQ × gE), exm F_ I_ A_ C_ f_ d_ q_ e_ = some z_ → q_.1.length ≤ z_.1.1.length
  | 0, _, _, _, _, h_ => by cases h_
  | f_ + 1, d_, q_, e_, z_, h_ => by
    rw [exm] at h_
    split at h_
    · rename_i e1_
      split at h_
      · cases h_
        exact ec_le (fun d_ q_ e_ z_ => exm_le f_ d_ q_ e_ z_) _ _ _ e1_
      · cases h_
    · cases h_
theorem ec_ap {F_ I_ : Nat} {A_ : pA} {X_ : Nat → gQ → gE → Option (gQ × gE)} {m_ : Nat} : ∀ (c_ d_ : List Int) (s_ : gS), ec F_ I_ A_ X_ m_ (c_ ++ d_) s_ = match ec F_ I_ A_ X_ m_ c_ s_ with
    | some s1_ => ec F_ I_ A_ X_ m_ d_ s1_
    | none => none
  | [], d_, s_ => rfl
  | w_ :: c_, d_, s_ => by
    rw [List.cons_append, ec, ec]
    cases ew F_ I_ A_ X_ m_ w_ s_ with
    | none => rfl
    | some s1_ => exact ec_ap c_ d_ s1_
/-! rows that hold values -/
def rwv (st_ : Nat → Int) (p_ : Nat) (v_ : List Int) : Prop := ∀ (k_ : Nat) (z_ : Int), v_[k_]? = some z_ → st_ (p_ + k_) = z_
def svl (ok_ : Prop) (st_ wd_ : Nat → Int) : gV → Prop
  | [] => True
  | v_ :: l_ => wd_ l_.length = (v_.length : Int) ∧ (1 ≤ v_.length ∧ v_.length ≤ 8) ∧ (ok_ → rwv st_ (8 * l_.length) v_) ∧ svl ok_ st_ wd_ l_
theorem svl_up {ok_ ok'_ : Prop} {st_ st'_ wd_ wd'_ : Nat → Int} : ∀ {l_ : gV}, svl ok_ st_ wd_ l_ → (ok'_ → ok_) → (∀ j_, j_ < 8 * l_.length → st'_ j_ = st_ j_) → (∀ j_, j_ < l_.length → wd'_ j_ = wd_ j_) → svl ok'_ st'_ wd'_ l_
  | [], _, _, _, _ => trivial
  | v_ :: l_, h_, h0_, h1_, h2_ => by
    refine ⟨?_, h_.2.1, fun z_ k_ x_ e_ => ?_, svl_up h_.2.2.2 h0_ (fun j_ hj_ => h1_ j_ (by simp only [List.length_cons]; omega)) (fun j_ hj_ => h2_ j_ (by simp only [List.length_cons]; omega))⟩
    · rw [h2_ l_.length (by simp)]
      exact h_.1
    · have hk_ : k_ < v_.length := by
        by_cases g_ : k_ < v_.length
        · exact g_
        · rw [List.getElem?_eq_none (by omega)] at e_; cases e_
      have := h_.2.1
      rw [h1_ _ (by simp only [List.length_cons]; omega)]
      exact h_.2.2.1 (h0_ z_) k_ x_ e_
theorem rwv_cg {st_ st'_ : Nat → Int} {p_ : Nat} {v_ : List Int} (h_ : rwv st_ p_ v_) (h1_ : ∀ k_, k_ < v_.length → st'_ (p_ + k_) = st_ (p_ + k_)) : rwv st'_ p_ v_ := by
  intro k_ z_ e_
  have hk_ : k_ < v_.length := by
    by_cases g_ : k_ < v_.length
    · exact g_
    · rw [List.getElem?_eq_none (by omega)] at e_; cases e_
  rw [h1_ k_ hk_]
  exact h_ k_ z_ e_
theorem rwv_g {st_ : Nat → Int} {p_ k_ : Nat} {v_ : List Int} (h_ : rwv st_ p_ v_) (hk_ : k_ < v_.length) : st_ (p_ + k_) = v_.getD k_ 0 := by
  refine h_ k_ _ ?_
  rw [List.getD_eq_getElem?_getD, List.getElem?_eq_getElem hk_]
  rfl
theorem rwv_m {st_ : Nat → Int} {p_ : Nat} {d_ r_ : List Int} {a_ : Int} (h_ : rwv st_ p_ (d_ ++ a_ :: r_)) : st_ (p_ + d_.length) = a_ := h_ d_.length a_ (by rw [List.getElem?_append_right (Nat.le_refl _), Nat.sub_self, List.getElem?_cons_zero])
theorem rwv_set {st_ st'_ : Nat → Int} {p_ q_ : Nat} {d_ r_ : List Int} {a_ z_ : Int} (h_ : rwv st_ p_ (d_ ++ a_ :: r_)) (hq_ : q_ = p_ + d_.length) (hs_ : ∀ k_, st'_ k_ = if k_ = q_ then z_ else st_ k_) : rwv st'_ p_ ((d_ ++ [z_]) ++ r_) := by
  intro k_ x_ e_
  rw [hs_]
  by_cases g_ : k_ = d_.length
  · rw [if_pos (by omega)]
    rw [List.append_assoc, List.getElem?_append_right (by omega), show k_ - d_.length = 0 by omega] at e_
    exact Option.some.inj e_
  · rw [if_neg (by omega)]
    refine h_ k_ x_ ?_
    by_cases g2_ : k_ < d_.length
    · rw [List.append_assoc, List.getElem?_append_left g2_] at e_
      rw [List.getElem?_append_left g2_]
      exact e_
    · rw [List.append_assoc, List.getElem?_append_right (by omega)] at e_
      rw [List.getElem?_append_right (by omega)]
      rw [show k_ - d_.length = (k_ - d_.length - 1) + 1 by omega] at e_ ⊢
      exact e_
theorem g_z2_ln {op_ : pGr → Int → Int → Int × pGr} : ∀ (x_ y_ : List Int) (G_ : pGr), x_.length = y_.length → (g_z2 op_ G_ x_ y_).1.length = x_.length
  | [], _, G_, _ => by unfold g_z2; rfl
  | _ :: _, [], G_, h_ => by cases h_
  | a_ :: x_, b_ :: y_, G_, h_ => by
    rw [g_z2, List.length_cons, List.length_cons, g_z2_ln x_ y_ _ (by simpa using h_)]
theorem g_su_ln {F_ : Nat} : ∀ (x_ y_ : List Int) (G_ : pGr) (c_ : Int), x_.length = y_.length → (g_su F_ G_ c_ x_ y_).1.length = x_.length
  | [], _, G_, _, _ => by unfold g_su; rfl
  | _ :: _, [], G_, _, h_ => by cases h_
  | a_ :: x_, b_ :: y_, G_, c_, h_ => by
    rw [g_su, List.length_cons, List.length_cons, g_su_ln x_ y_ _ _ (by simpa using h_)]
theorem g_op_ln {F_ : Nat} {k_ : Int} {x_ y_ : List Int} {G_ : pGr} (h_ : x_.length = y_.length) (h1_ : 1 ≤ x_.length) : (g_op F_ k_ G_ x_ y_).1.length = if k_ = 4 then 1 else x_.length := by
  unfold g_op
  by_cases g5_ : k_ = 5
  · rw [if_pos g5_, if_neg (by omega), g_su_ln x_ y_ G_ 0 h_]
  · rw [if_neg g5_]
    by_cases g4_ : k_ = 4
    · rw [if_pos g4_, if_pos g4_]
      cases x_ with
      | nil => simp at h1_
      | cons a_ x_ =>
        cases y_ with
        | nil => cases h_
        | cons b_ y_ => rfl
    · rw [if_neg g4_, if_neg g4_, g_z2_ln x_ y_ G_ h_]
end
/-! 99.za3 -/
section
/-! frames; written by wip/p55/gen/vg -/

/-! frames -/
def cfr (f_ fc0_ fc_ : Nat) (E_ : gE) (O_ : gO) (fr_ : Nat → Int) : Prop := (∀ s_, s_ < 40 → rwv fr_ (8 * (40 * f_ + s_)) (E_ s_) ∧ (E_ s_).length ≤ 8) ∧ ∃ P_ : Nat → Nat, ∀ a_, a_ < 40 → ∀ o_, O_ a_ = some o_ → fr_ (8 * (40 * f_ + a_)) = (P_ a_ : Int) ∧ (fc0_ ≤ P_ a_ ∧ P_ a_ < fc_) ∧ (∀ a1_, a1_ < 40 → a1_ ≠ a_ → O_ a1_ ≠ none → P_ a1_ ≠ P_ a_) ∧ ∀ o1_, o1_ < 40 → rwv fr_ (8 * (40 * P_ a_ + o1_)) (o_ o1_) ∧ (o_ o1_).length ≤ 8
theorem rwv_cp {g_ h_ : Nat → Int} {p_ q_ : Nat} {v_ : List Int} (hv_ : rwv g_ p_ v_) (hl_ : v_.length ≤ 8) : rwv (sm_cp g_ h_ p_ q_ 8) q_ v_ := by
  intro k_ z_ e_
  have hk_ : k_ < v_.length := by
    by_cases w_ : k_ < v_.length
    · exact w_
    · rw [List.getElem?_eq_none (by omega)] at e_; cases e_
  show (if q_ ≤ q_ + k_ ∧ q_ + k_ < q_ + 8 then g_ (p_ + (q_ + k_ - q_)) else h_ (q_ + k_)) = z_
  rw [if_pos (by omega), show q_ + k_ - q_ = k_ by omega]
  exact hv_ k_ z_ e_
theorem sm_cp_o {g_ h_ : Nat → Int} {p_ q_ n_ j_ : Nat} (hj_ : j_ < q_ ∨ q_ + n_ ≤ j_) : sm_cp g_ h_ p_ q_ n_ j_ = h_ j_ := by
  show (if q_ ≤ j_ ∧ j_ < q_ + n_ then _ else _) = _
  rw [if_neg (by omega)]
theorem cfr_st {f_ fc0_ fc_ a_ : Nat} {E_ : gE} {O_ : gO} {fr_ fr'_ : Nat → Int} {v_ : List Int} (h_ : cfr f_ fc0_ fc_ E_ O_ fr_) (hf_ : f_ < fc0_) (ha_ : a_ < 40) (hO_ : O_ a_ = none) (hv_ : v_.length ≤ 8) (h1_ : rwv fr'_ (8 * (40 * f_ + a_)) v_) (h2_ : ∀ j_, j_ < 8 * (40 * f_ + a_) ∨ 8 * (40 * f_ + a_) + 8 ≤ j_ → fr'_ j_ = fr_ j_) : cfr f_ fc0_ fc_ (up1 E_ a_ v_) O_ fr'_ := by
  obtain ⟨x1_, P_, x2_⟩ := h_
  refine ⟨fun s_ hs_ => ?_, P_, fun a1_ ha1_ o_ ho_ => ?_⟩
  · unfold up1
    by_cases e_ : s_ = a_
    · rw [if_pos e_, e_]
      exact ⟨h1_, hv_⟩
    · rw [if_neg e_]
      have q_ := x1_ s_ hs_
      exact ⟨rwv_cg q_.1 (fun k_ hk_ => h2_ _ (by omega)), q_.2⟩
  · have q_ := x2_ a1_ ha1_ o_ ho_
    have e_ : a1_ ≠ a_ := fun e_ => by rw [e_, hO_] at ho_; cases ho_
    refine ⟨by rw [h2_ _ (by omega)]; exact q_.1, q_.2.1, q_.2.2.1, fun o1_ ho1_ => ?_⟩
    have w_ := q_.2.2.2 o1_ ho1_
    have := q_.2.1
    exact ⟨rwv_cg w_.1 (fun k_ hk_ => h2_ _ (by omega)), w_.2⟩
theorem cfr_bg {f_ fc0_ fc_ a_ : Nat} {E_ : gE} {O_ : gO} {fr_ fr'_ : Nat → Int} (h_ : cfr f_ fc0_ fc_ E_ O_ fr_) (hf_ : f_ < fc0_) (hc_ : fc0_ ≤ fc_) (ha_ : a_ < 40) (hE_ : E_ a_ = []) (hO_ : O_ a_ = none) (h2_ : ∀ j_, fr'_ j_ = if j_ = 8 * (40 * f_ + a_) then (fc_ : Int) else fr_ j_) : cfr f_ fc0_ (fc_ + 1) E_ (up1 O_ a_ (some fun _ => [])) fr'_ := by
  obtain ⟨x1_, P_, x2_⟩ := h_
  refine ⟨fun s_ hs_ => ?_, up1 P_ a_ fc_, fun a1_ ha1_ o_ ho_ => ?_⟩
  · have q_ := x1_ s_ hs_
    by_cases e_ : s_ = a_
    · rw [e_, hE_]
      exact ⟨fun k_ z_ w_ => by simp at w_, by simp⟩
    · exact ⟨rwv_cg q_.1 (fun k_ hk_ => by rw [h2_, if_neg (by omega)]), q_.2⟩
  · unfold up1 at ho_ ⊢
    by_cases e_ : a1_ = a_
    · rw [if_pos e_] at ho_
      cases ho_
      rw [if_pos e_, h2_, if_pos (by rw [e_])]
      refine ⟨rfl, by omega, fun a2_ ha2_ e2_ w_ => ?_, fun o1_ ho1_ => ⟨fun k_ z_ w_ => by simp at w_, by simp⟩⟩
      rw [if_neg (by omega)] at w_ ⊢
      obtain ⟨o2_, w2_⟩ : ∃ o2_, O_ a2_ = some o2_ := by
        cases z_ : O_ a2_ with
        | none => exact absurd z_ w_
        | some o2_ => exact ⟨o2_, rfl⟩
      have := (x2_ a2_ ha2_ o2_ w2_).2.1
      omega
    · rw [if_neg e_] at ho_
      have q_ := x2_ a1_ ha1_ o_ ho_
      rw [if_neg e_, h2_, if_neg (by omega)]
      have q1_ := q_.2.1
      refine ⟨q_.1, by omega, fun a2_ ha2_ e2_ w_ => ?_, fun o1_ ho1_ => ?_⟩
      · by_cases e3_ : a2_ = a_
        · rw [if_pos e3_]; omega
        · rw [if_neg e3_] at w_ ⊢
          exact q_.2.2.1 a2_ ha2_ e2_ w_
      · have w_ := q_.2.2.2 o1_ ho1_
        exact ⟨rwv_cg w_.1 (fun k_ hk_ => by rw [h2_, if_neg (by omega)]), w_.2⟩
/-- an_ argument: into the_ frame that is_ begun -/
theorem cfr_ag {f_ fc0_ fc_ a_ d_ p_ : Nat} {E_ : gE} {O_ : gO} {o_ : Nat → List Int} {fr_ fr'_ : Nat → Int} {v_ : List Int} (h_ : cfr f_ fc0_ fc_ E_ O_ fr_) (hf_ : f_ < fc0_) (ha_ : a_ < 40) (hO_ : O_ a_ = some o_) (hd_ : d_ < 40) (hv_ : v_.length ≤ 8) (hp_ : fr_ (8 * (40 * f_ + a_)) = (p_ : Int)) (h1_ : rwv fr'_ (8 * (40 * p_ + d_)) v_) (h2_ : ∀ j_, j_ < 8 * (40 * p_ + d_) ∨ 8 * (40 * p_ + d_) + 8 ≤ j_ → fr'_ j_ = fr_ j_) : cfr f_ fc0_ fc_ E_ (up1 O_ a_ (some (up1 o_ d_ v_))) fr'_ := by
  obtain ⟨x1_, P_, x2_⟩ := h_
  have y_ := x2_ a_ ha_ o_ hO_
  have py_ : p_ = P_ a_ := by have := y_.1; omega
  subst py_
  have y1_ := y_.2.1
  refine ⟨fun s_ hs_ => ?_, P_, fun a1_ ha1_ o1_ ho1_ => ?_⟩
  · have q_ := x1_ s_ hs_
    exact ⟨rwv_cg q_.1 (fun k_ hk_ => h2_ _ (by omega)), q_.2⟩
  · have hx_ : ∀ a2_, up1 O_ a_ (some (up1 o_ d_ v_)) a2_ ≠ none → O_ a2_ ≠ none := by
      intro a2_ w_
      unfold up1 at w_
      by_cases e_ : a2_ = a_
      · rw [e_, hO_]; exact fun z_ => by cases z_
      · rw [if_neg e_] at w_; exact w_
    by_cases e_ : a1_ = a_
    · have q0_ : o1_ = up1 o_ d_ v_ := by
        unfold up1 at ho1_
        rw [if_pos e_] at ho1_
        exact (Option.some.inj ho1_).symm
      rw [e_, q0_]
      refine ⟨by rw [h2_ _ (by omega)]; exact y_.1, y1_, fun a2_ ha2_ e2_ w_ => y_.2.2.1 a2_ ha2_ e2_ (hx_ a2_ w_), fun o2_ ho2_ => ?_⟩
      unfold up1
      by_cases e3_ : o2_ = d_
      · rw [if_pos e3_, e3_]
        exact ⟨h1_, hv_⟩
      · rw [if_neg e3_]
        have w_ := y_.2.2.2 o2_ ho2_
        exact ⟨rwv_cg w_.1 (fun k_ hk_ => h2_ _ (by omega)), w_.2⟩
    · have q0_ : O_ a1_ = some o1_ := by
        unfold up1 at ho1_
        rw [if_neg e_] at ho1_
        exact ho1_
      have q_ := x2_ a1_ ha1_ o1_ q0_
      have q1_ := q_.2.1
      have ne_ := q_.2.2.1 a_ ha_ (fun z_ => e_ z_.symm) (by rw [hO_]; exact fun z_ => by cases z_)
      refine ⟨by rw [h2_ _ (by omega)]; exact q_.1, q_.2.1, fun a2_ ha2_ e2_ w_ => q_.2.2.1 a2_ ha2_ e2_ (hx_ a2_ w_), fun o2_ ho2_ => ?_⟩
      have w_ := q_.2.2.2 o2_ ho2_
      exact ⟨rwv_cg w_.1 (fun k_ hk_ => h2_ _ (by omega)), w_.2⟩
/-- a_ call: the_ frame that was_ begun holds all_ names -/
theorem cfr_cl {f_ fc0_ fc_ fc1_ a_ p_ : Nat} {E_ e1_ : gE} {O_ : gO} {o_ : Nat → List Int} {fr_ fr'_ : Nat → Int} (h_ : cfr f_ fc0_ fc_ E_ O_ fr_) (hf_ : f_ < fc0_) (ha_ : a_ < 40) (hO_ : O_ a_ = some o_) (hp_ : fr_ (8 * (40 * f_ + a_)) = (p_ : Int)) (hc_ : fc_ ≤ fc1_) (h1_ : ∀ s_, s_ < 40 → rwv fr'_ (8 * (40 * p_ + s_)) (e1_ s_) ∧ (e1_ s_).length ≤ 8) (h2_ : ∀ j_, j_ < 8 * (40 * fc_) → j_ < 8 * (40 * p_) ∨ 8 * (40 * p_) + 320 ≤ j_ → fr'_ j_ = fr_ j_) (hf2_ : fc0_ ≤ fc_) : cfr f_ fc0_ fc1_ E_ (up1 O_ a_ (some e1_)) fr'_ := by
  obtain ⟨x1_, P_, x2_⟩ := h_
  have y_ := x2_ a_ ha_ o_ hO_
  have py_ : p_ = P_ a_ := by have := y_.1; omega
  subst py_
  have y1_ := y_.2.1
  refine ⟨fun s_ hs_ => ?_, P_, fun a1_ ha1_ o1_ ho1_ => ?_⟩
  · have q_ := x1_ s_ hs_
    exact ⟨rwv_cg q_.1 (fun k_ hk_ => h2_ _ (by omega) (by omega)), q_.2⟩
  · have hx_ : ∀ a2_, up1 O_ a_ (some e1_) a2_ ≠ none → O_ a2_ ≠ none := by
      intro a2_ w_
      unfold up1 at w_
      by_cases e_ : a2_ = a_
      · rw [e_, hO_]; exact fun z_ => by cases z_
      · rw [if_neg e_] at w_; exact w_
    by_cases e_ : a1_ = a_
    · have q0_ : o1_ = e1_ := by
        unfold up1 at ho1_
        rw [if_pos e_] at ho1_
        exact (Option.some.inj ho1_).symm
      rw [e_, q0_]
      exact ⟨by rw [h2_ _ (by omega) (by omega)]; exact y_.1, by omega, fun a2_ ha2_ e2_ w_ => y_.2.2.1 a2_ ha2_ e2_ (hx_ a2_ w_), fun o2_ ho2_ => h1_ o2_ ho2_⟩
    · have q0_ : O_ a1_ = some o1_ := by
        unfold up1 at ho1_
        rw [if_neg e_] at ho1_
        exact ho1_
      have q_ := x2_ a1_ ha1_ o1_ q0_
      have q1_ := q_.2.1
      have ne_ := q_.2.2.1 a_ ha_ (fun z_ => e_ z_.symm) (by rw [hO_]; exact fun z_ => by cases z_)
      refine ⟨by rw [h2_ _ (by omega) (by omega)]; exact q_.1, by omega, fun a2_ ha2_ e2_ w_ => q_.2.2.1 a2_ ha2_ e2_ (hx_ a2_ w_), fun o2_ ho2_ => ?_⟩
      have w_ := q_.2.2.2 o2_ ho2_
      exact ⟨rwv_cg w_.1 (fun k_ hk_ => h2_ _ (by omega) (by omega)), w_.2⟩
theorem c_bt_s {j_ : Nat} {d_ : Int} : c_bt (j_ + 1) d_ = c_bt j_ d_ ++ [i_shr d_ (j_ : Int) % 2] := by
  unfold c_bt
  rw [List.range_succ, List.map_append]
  rfl
theorem c_bt_l {j_ : Nat} {d_ : Int} : (c_bt j_ d_).length = j_ := by
  unfold c_bt
  rw [List.length_map, List.length_range]
theorem r_bt_s {I_ R_ j_ : Nat} : r_bt I_ R_ (j_ + 1) = r_bt I_ R_ j_ ++ [2 * ((1 + I_ + R_ + j_ : Nat) : Int)] := by
  unfold r_bt
  rw [List.range_succ, List.map_append]
  rfl
theorem r_bt_l {I_ R_ j_ : Nat} : (r_bt I_ R_ j_).length = j_ := by
  unfold r_bt
  rw [List.length_map, List.length_range]
theorem i_o63 : ∀ x_ y_ : Fin 64, 0 ≤ i_or (x_.val : Int) (y_.val : Int) ∧ i_or (x_.val : Int) (y_.val : Int) ≤ 63 := by decide +kernel
theorem i_orb {x_ y_ : Int} (hx_ : 0 ≤ x_ ∧ x_ ≤ 63) (hy_ : 0 ≤ y_ ∧ y_ ≤ 63) : 0 ≤ i_or x_ y_ ∧ i_or x_ y_ ≤ 63 := by
  have k_ := i_o63 ⟨x_.toNat, by omega⟩ ⟨y_.toNat, by omega⟩
  rw [show ((⟨x_.toNat, by omega⟩ : Fin 64).val : Int) = x_ from Int.toNat_of_nonneg hx_.1, show ((⟨y_.toNat, by omega⟩ : Fin 64).val : Int) = y_ from Int.toNat_of_nonneg hy_.1] at k_
  exact k_
theorem i_s63 : ∀ (x_ : Fin 2) (y_ : Fin 6), 0 ≤ i_shl (x_.val : Int) (y_.val : Int) ∧ i_shl (x_.val : Int) (y_.val : Int) ≤ 63 := by decide +kernel
theorem i_shb {x_ y_ : Int} (hx_ : 0 ≤ x_ ∧ x_ ≤ 1) (hy_ : 0 ≤ y_ ∧ y_ ≤ 5) : 0 ≤ i_shl x_ y_ ∧ i_shl x_ y_ ≤ 63 := by
  have k_ := i_s63 ⟨x_.toNat, by omega⟩ ⟨y_.toNat, by omega⟩
  rw [show ((⟨x_.toNat, by omega⟩ : Fin 2).val : Int) = x_ from Int.toNat_of_nonneg hx_.1, show ((⟨y_.toNat, by omega⟩ : Fin 6).val : Int) = y_ from Int.toNat_of_nonneg hy_.1] at k_
  exact k_
end
