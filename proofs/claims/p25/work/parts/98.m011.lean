/-! 99.z3a -/
section
/-! the reference: cells; written by wip/p55/gen/vg -/

/-! cells -/
def y_1 (b_ : Nat → Int) (n_ K_ : Nat) (f_ : Nat → Nat) (p_ : Nat) : pE (Nat × Nat) := pb (p_nd b_ n_ 9 p_) fun q_ => pb (p_nn b_ n_ K_ f_ 12 q_) fun r_ => .inr (q_, r_)
def y_2 (b_ : Nat → Int) (n_ K_ : Nat) (f_ : Nat → Nat) (p_ : Nat) : pE (Nat × Nat) := pb (y_1 b_ n_ K_ f_ p_) fun a_ => pb (p_nd b_ n_ 40 a_.2) fun u_ => .inr (a_.1, u_)
def y_3 (b_ : Nat → Int) (n_ K_ : Nat) (f_ : Nat → Nat) (p_ : Nat) : pE (Nat × pI) := pb (y_2 b_ n_ K_ f_ p_) fun a_ => pb (p_ci b_ n_ 4 0 f_0 a_.2) fun i_ => .inr (a_.1, i_)
def y_4 (b_ : Nat → Int) (n_ K_ : Nat) (f_ : Nat → Nat) (p_ : Nat) : pE ((Nat × pI) × Nat) := pb (y_3 b_ n_ K_ f_ p_) fun a_ => pb (p_nd b_ n_ 41 a_.2.2.2) fun w_ => .inr (a_, w_)
def y_5 (b_ : Nat → Int) (n_ K_ : Nat) (f_ : Nat → Nat) (p_ : Nat) : pE ((Nat × pI) × Nat) := pb (y_4 b_ n_ K_ f_ p_) fun a_ => pb (p_nd b_ n_ 61 a_.2) fun x_ => .inr (a_.1, x_)
def y_6 (b_ : Nat → Int) (n_ K_ : Nat) (f_ : Nat → Nat) (p_ : Nat) : pE ((Nat × pI) × pR) := pb (y_5 b_ n_ K_ f_ p_) fun a_ => pb (p_ex b_ n_ true (p_pl b_ n_ a_.1.2.1 a_.1.2.2.1) [] a_.2) fun y_ => .inr (a_.1, y_)
def y_7 (b_ : Nat → Int) (n_ K_ : Nat) (f_ : Nat → Nat) (p_ : Nat) : pE (((Nat × pI) × pR) × (Nat × Int)) := pb (y_6 b_ n_ K_ f_ p_) fun a_ => pb (pb (p_nd b_ n_ 44 a_.2.1) (p_ms b_ n_ 1000)) fun ar_ => .inr (a_, ar_)
def y_8 (b_ : Nat → Int) (n_ K_ : Nat) (f_ : Nat → Nat) (p_ : Nat) : pE ((((Nat × pI) × pR) × (Nat × Int)) × (Nat × Int)) := pb (y_7 b_ n_ K_ f_ p_) fun a_ => pb (pb (p_nd b_ n_ 44 a_.2.1) (p_ms b_ n_ 100)) fun dl_ => .inr (a_, dl_)
def y_9 (b_ : Nat → Int) (n_ K_ : Nat) (f_ : Nat → Nat) (p_ : Nat) : pE (((((Nat × pI) × pR) × (Nat × Int)) × (Nat × Int)) × Nat) := pb (y_8 b_ n_ K_ f_ p_) fun a_ => pb (p_nd b_ n_ 59 a_.2.1) fun z_ => .inr (a_, z_)
theorem ce_y {b_ : Nat → Int} {n_ K_ p_ : Nat} {f_ : Nat → Nat} : p_ce b_ n_ K_ f_ p_ = pb (y_9 b_ n_ K_ f_ p_) fun a_ => .inr (a_.1.1.1.1.1, a_.1.1.1.1.2.1, p_tb a_.1.1.1.1.2.1 (h_tp a_.1.1.1.2.2.1), a_.1.1.2.2, a_.1.2.2, a_.2) := by
  unfold p_ce y_9 y_8 y_7 y_6 y_5 y_4 y_3 y_2 y_1
  simp only [pb_as, pb_ir]
def g_d {α : Type} (z_ : pE α) (d_ : α) : α := match z_ with
  | .inl _ => d_
  | .inr a_ => a_
theorem y5_1 {b_ : Nat → Int} {n_ K_ p_ : Nat} {f_ : Nat → Nat} {a_ : (Nat × pI) × Nat} (h_ : y_5 b_ n_ K_ f_ p_ = .inr a_) : y_3 b_ n_ K_ f_ p_ = .inr a_.1 := by
  obtain ⟨a4_, h1_, h2_⟩ := pb_inr h_
  obtain ⟨x_, h3_, h4_⟩ := pb_inr h2_
  cases h4_
  obtain ⟨a3_, h5_, h6_⟩ := pb_inr h1_
  obtain ⟨w_, h7_, h8_⟩ := pb_inr h6_
  cases h8_
  exact h5_
theorem y3_1 {b_ : Nat → Int} {n_ K_ p_ : Nat} {f_ : Nat → Nat} {a_ : Nat × pI} (h_ : y_3 b_ n_ K_ f_ p_ = .inr a_) : ∃ u_, y_2 b_ n_ K_ f_ p_ = .inr (a_.1, u_) := by
  obtain ⟨a2_, h1_, h2_⟩ := pb_inr h_
  obtain ⟨i_, h3_, h4_⟩ := pb_inr h2_
  cases h4_
  exact ⟨a2_.2, h1_⟩
theorem y2_1 {b_ : Nat → Int} {n_ K_ p_ : Nat} {f_ : Nat → Nat} {a_ : Nat × Nat} (h_ : y_2 b_ n_ K_ f_ p_ = .inr a_) : p_nd b_ n_ 9 p_ = .inr a_.1 ∧ ∃ r_, p_nn b_ n_ K_ f_ 12 a_.1 = .inr r_ := by
  obtain ⟨a1_, h1_, h2_⟩ := pb_inr h_
  obtain ⟨u_, h3_, h4_⟩ := pb_inr h2_
  cases h4_
  obtain ⟨q_, h5_, h6_⟩ := pb_inr h1_
  obtain ⟨r_, h7_, h8_⟩ := pb_inr h6_
  cases h8_
  exact ⟨h5_, r_, h7_⟩
theorem ex_2 {b_ : Nat → Int} {n_ M_ K_ p_ : Nat} {A_ : pA} {f_ : Nat → Nat} {c_ : List Int} : p_ex b_ n_ (mdo 2) (p_pm b_ n_ (mdo 2) A_ M_ K_ f_) c_ p_ = p_ex b_ n_ true (p_pl b_ n_ K_ f_) c_ p_ := by
  unfold p_pm
  rw [show mdo 2 = true from rfl, if_pos rfl]
theorem pm_2 {b_ : Nat → Int} {n_ M_ K_ : Nat} {A_ : pA} {f_ : Nat → Nat} : pr_ok b_ n_ (p_pm b_ n_ (mdo 2) A_ M_ K_ f_) := by
  unfold p_pm
  rw [show mdo 2 = true from rfl, if_pos rfl]
  exact pl_ok
theorem sh_b {c_ : Int} (h_ : 0 ≤ c_ ∧ c_ ≤ 3) : (0 ≤ i_shl 1 c_ ∧ i_shl 1 c_ ≤ 8) ∧ 1 ≤ i_shl 1 (i_shl 1 c_) ∧ i_shl 1 (i_shl 1 c_) ≤ 256 := by
  have h4_ : c_ = 0 ∨ c_ = 1 ∨ c_ = 2 ∨ c_ = 3 := by omega
  rcases h4_ with e_ | e_ | e_ | e_ <;> (subst e_; decide +kernel)
/-- measures within their bounds -/
def c_dt (K_ : Nat) (S_ : sm_S) : Prop := ∀ k_, k_ < K_ → (0 ≤ S_.2.2.1 181 0 k_ ∧ S_.2.2.1 181 0 k_ ≤ 1000) ∧ (0 ≤ S_.2.2.1 182 0 k_ ∧ S_.2.2.1 182 0 k_ ≤ 100)
def rwc (b_ : Nat → Int) (n_ T_ K_ : Nat) (f_ : Nat → Nat) (S_ : sm_S) : Prop := rw_ b_ n_ T_ 178 83 K_ f_ S_ ∧ c_dt K_ S_
theorem rwc_fr {w_ : sx_Wl} {b_ : Nat → Int} {n_ T_ K_ : Nat} {f_ : Nat → Nat} {S_ S'_ : sm_S} (h_ : rwc b_ n_ T_ K_ f_ S_) (g_ : ai_fr (sx_W w_) S_ S'_) (h0_ : (sx_W w_).1 13 83 = false) (h1_ : (sx_W w_).2.1 178 = false) (h2_ : (sx_W w_).2.1 181 = false) (h3_ : (sx_W w_).2.1 182 = false) : rwc b_ n_ T_ K_ f_ S'_ := by
  refine ⟨rw_fr h_.1 g_ h0_ h1_, ?_⟩
  unfold c_dt
  rw [fr_arr g_ h2_, fr_arr g_ h3_]
  exact h_.2
theorem cdt_up {K_ i_ : Nat} {v_ w_ : Int} {S1_ S2_ S3_ S4_ S5_ : sm_S} (h_ : c_dt K_ S1_) (hi_ : i_ = K_) (hv_ : 1 ≤ v_ ∧ v_ ≤ 1000) (hw_ : 1 ≤ w_ ∧ w_ ≤ 100) (a2_ : S2_.2.2.1 181 0 = S1_.2.2.1 181 0) (d2_ : S2_.2.2.1 182 0 = S1_.2.2.1 182 0) (a3_ : S3_.2.2.1 181 0 = (sm_aI S2_ 181 0 i_ v_).2.2.1 181 0) (d3_ : S3_.2.2.1 182 0 = (sm_aI S2_ 181 0 i_ v_).2.2.1 182 0) (a4_ : S4_.2.2.1 181 0 = (sm_aI S3_ 182 0 i_ w_).2.2.1 181 0) (d4_ : S4_.2.2.1 182 0 = (sm_aI S3_ 182 0 i_ w_).2.2.1 182 0) (a5_ : S5_.2.2.1 181 0 = S4_.2.2.1 181 0) (d5_ : S5_.2.2.1 182 0 = S4_.2.2.1 182 0) : c_dt (K_ + 1) S5_ := by
  intro k_ hk_
  rw [a5_, d5_, a4_, d4_, rd_ne (by decide), rd_eq, a3_, d3_, rd_eq, rd_ne (by decide), a2_, d2_]
  by_cases e_ : k_ = i_
  · rw [if_pos e_, if_pos e_]; omega
  · rw [if_neg e_, if_neg e_]; exact h_ k_ (by omega)
theorem ms_b {b_ : Nat → Int} {n_ p_ : Nat} {mo_ : Int} {x_ : pE Nat} {r_ : Nat × Int} (h_ : pb x_ (p_ms b_ n_ mo_) = .inr r_) : 1 ≤ r_.2 ∧ r_.2 ≤ mo_ := by
  obtain ⟨q_, h1_, h2_⟩ := pb_inr h_
  obtain ⟨v_, h3_, h4_⟩ := pb_inr h2_
  obtain ⟨u_, h5_, h6_⟩ := pb_inr h4_
  cases h6_
  exact (p_nu_ok h3_).2.2
/-- so_ many inputs read, at r_ -/
def y_i (b_ : Nat → Int) (n_ T_ : Nat) (Z_ : pE (Nat × pI)) (S_ : sm_S) : Prop := ∃ q_ K1_ f1_ r_, rg b_ n_ T_ (.inr r_) S_ ∧ inr_ b_ n_ T_ K1_ f1_ S_ ∧ 1 ≤ K1_ ∧ Z_ = (pb (if lx_kd b_ n_ r_ = 44 then pb (p_ad b_ n_ r_) fun q2_ => p_ci b_ n_ (4 - K1_) K1_ f1_ q2_ else .inr (K1_, f1_, r_)) fun i_ => .inr (q_, i_))
def y_w (b_ : Nat → Int) (n_ T_ : Nat) (Z_ : pE (Nat × pI)) (S_ : sm_S) : Prop := ∃ e_, Z_ = .inl e_ ∧ rg b_ n_ T_ (.inl e_) S_
theorem yi_nn {b_ : Nat → Int} {n_ T_ K1_ q_ : Nat} {f1_ : Nat → Nat} {x_ : pE Nat} {Z_ : pE (Nat × pI)} {S_ : sm_S} (hK_ : K1_ ≤ 3) (g_ : rg b_ n_ T_ (pb x_ (p_nn b_ n_ K1_ f1_ 3)) S_) (hi_ : ∀ p_ r_, x_ = .inr p_ → p_nn b_ n_ K1_ f1_ 3 p_ = .inr r_ → inr_ b_ n_ T_ (K1_ + 1) (n_up f1_ K1_ p_) S_) (hZ_ : Z_ = pb (pb x_ fun u_ => p_ci b_ n_ (4 - K1_) K1_ f1_ u_) fun i_ => .inr (q_, i_)) : y_w b_ n_ T_ Z_ S_ ∨ y_i b_ n_ T_ Z_ S_ := by
  cases x_ with
  | inl e_ => left; exact ⟨e_, hZ_, g_⟩
  | inr p_ =>
    have g_ : rg b_ n_ T_ (p_nn b_ n_ K1_ f1_ 3 p_) S_ := g_
    have hZ_ : Z_ = pb (p_ci b_ n_ (4 - K1_) K1_ f1_ p_) fun i_ => .inr (q_, i_) := hZ_
    rw [show 4 - K1_ = (3 - K1_) + 1 by omega, p_ci] at hZ_
    cases hn_ : p_nn b_ n_ K1_ f1_ 3 p_ with
    | inl e_ => rw [hn_] at hZ_ g_; left; exact ⟨e_, hZ_, g_⟩
    | inr r_ =>
      rw [hn_] at hZ_ g_
      right
      refine ⟨q_, K1_ + 1, n_up f1_ K1_ p_, r_, g_, hi_ p_ r_ rfl hn_, by omega, ?_⟩
      rw [show 4 - (K1_ + 1) = 3 - K1_ by omega]
      exact hZ_
def r_m4 (S_ : sm_S) : Nat := if S_.1 13 0 10 ≠ 0 then 1 else (12 - S_.1 13 0 80).toNat
theorem rm4_b {S_ : sm_S} (hI_ : gi S_) : 1 ≤ r_m4 S_ ∧ r_m4 S_ ≤ 12 := by
  have z_ : 0 ≤ S_.1 13 0 80 ∧ S_.1 13 0 80 ≤ 3 := hI_.1 13 0 80 rfl
  unfold r_m4
  split <;> omega
end
/-! 99.z3b -/
section
/-! M_.tellCell -/
def vw_366 : sx_Wl := ([(13, 9), (13, 10), (13, 11), (13, 32), (13, 33), (13, 34), (13, 80), (13, 83)], [136, 137, 138, 139, 177, 178, 179, 180, 181, 182], [])
def vq_366 (b_ : Nat → Int) (n_ : Nat) (T_ : Nat) (p_ : Nat) (K_ : Nat) (f_ : Nat → Nat) (S0_ : sm_S) (u_ : Option sm_V) (S1_ : sm_S) : Prop := u_ = none ∧ gi S1_ ∧ ai_fr (sx_W vw_366) S0_ S1_ ∧ (rg b_ n_ T_ (pb (p_ce b_ n_ K_ f_ p_) fun c_ => .inr c_.2.2.2.2.2) S1_ ∧ ∀ c_, p_ce b_ n_ K_ f_ p_ = .inr c_ → rwc b_ n_ T_ (K_ + 1) (n_up f_ K_ c_.1) S1_)
set_option maxHeartbeats 2000000 in
set_option maxRecDepth 20000 in
theorem vl_366 {sc_ : Nat × (Nat → Int)} (b_ : Nat → Int) (n_ : Nat) (T_ : Nat) (p_ : Nat) (K_ : Nat) (f_ : Nat → Nat) (S0_ : sm_S) (ht_ : rtab b_ n_ T_ S0_) (hx_ : rg b_ n_ T_ (.inr p_) S0_) (hmo_ : (S0_.1 13 0 27) = 2) (hrow : rwc b_ n_ T_ K_ f_ S0_) : ∀ nn_ : Nat, (∀ (t_ : Int) (i_ : Int) (S_ : sm_S), gi S_ → ai_fr (sx_W vw_366) S0_ S_ → ((0 ≤ i_ ∧ i_ ≤ 12) ∧ ((∃ e_, (zn2 b_ n_ K_ f_ (p_nd b_ n_ 9 p_)) = .inl e_ ∧ rg b_ n_ T_ (.inl e_) S_) ∨ (∃ q0_, (pb (p_nd b_ n_ 9 p_) (p_du b_ n_ 1)) = .inr q0_ ∧ rg b_ n_ T_ (.inr q0_) S_ ∧ p_fd (fun s_ => nm_q b_ n_ (f_ s_) q0_)  i_.toNat = -1 ∧ i_ ≤ (K_ : Int))) ∧ (0 ≤ t_ ∧ t_ ≤ 1280) ∧ (∀ pq_, (pb (p_nd b_ n_ 9 p_) (p_du b_ n_ 1)) = .inr pq_ → rtk b_ n_ T_ t_ pq_) ∧ (∀ pq_, (p_nd b_ n_ 9 p_) = .inr pq_ → rwc b_ n_ T_ K_ f_ S_) ∧ True) → ((9000 - i_).toNat) < nn_ → sm_T (mt_P sc_) 8 366 (30, [some (.inr (.inr (some (13, 0)))), some (.inl t_), some (.inl i_)], [], S_) (fun r_ => ∃ u_ S1_, r_ = (.inl u_, S1_, 0) ∧ vq_366 b_ n_ T_ p_ K_ f_ S0_ u_ S1_)) ∧ (∀ (t_ : Int) (S_ : sm_S), gi S_ → ai_fr (sx_W vw_366) S0_ S_ → ((rg b_ n_ T_ (zn2 b_ n_ K_ f_ (p_nd b_ n_ 9 p_)) S_) ∧ (0 ≤ t_ ∧ t_ ≤ 1280) ∧ (∀ pq_, (pb (p_nd b_ n_ 9 p_) (p_du b_ n_ 1)) = .inr pq_ → rtk b_ n_ T_ t_ pq_) ∧ (∀ pq_, (p_nd b_ n_ 9 p_) = .inr pq_ → rwc b_ n_ T_ K_ f_ S_) ∧ True) → ((8000 : Nat)) < nn_ → sm_T (mt_P sc_) 8 366 (72, [some (.inr (.inr (some (13, 0)))), some (.inl t_), none], [], S_) (fun r_ => ∃ u_ S1_, r_ = (.inl u_, S1_, 0) ∧ vq_366 b_ n_ T_ p_ K_ f_ S0_ u_ S1_)) ∧ (∀ (t_ : Int) (S_ : sm_S), gi S_ → ai_fr (sx_W vw_366) S0_ S_ → ((rg b_ n_ T_ (zn3 b_ n_ K_ f_ 12 (p_nd b_ n_ 9 p_)) S_) ∧ (0 ≤ t_ ∧ t_ ≤ 1280) ∧ (∀ pq_, (pb (p_nd b_ n_ 9 p_) (p_du b_ n_ 1)) = .inr pq_ → rtk b_ n_ T_ t_ pq_) ∧ (∀ pq_, (p_nd b_ n_ 9 p_) = .inr pq_ → rwc b_ n_ T_ K_ f_ S_) ∧ True) → ((7000 : Nat)) < nn_ → sm_T (mt_P sc_) 8 366 (95, [some (.inr (.inr (some (13, 0)))), some (.inl t_), none], [], S_) (fun r_ => ∃ u_ S1_, r_ = (.inl u_, S1_, 0) ∧ vq_366 b_ n_ T_ p_ K_ f_ S0_ u_ S1_)) ∧ (∀ (t_ : Int) (S_ : sm_S), gi S_ → ai_fr (sx_W vw_366) S0_ S_ → ((y_w b_ n_ T_ (y_3 b_ n_ K_ f_ p_) S_ ∨ y_i b_ n_ T_ (y_3 b_ n_ K_ f_ p_) S_) ∧ (0 ≤ t_ ∧ t_ ≤ 1280) ∧ (∀ q_, (pb (p_nd b_ n_ 9 p_) (p_du b_ n_ 1)) = .inr q_ → rtk b_ n_ T_ t_ q_) ∧ (∀ r_, p_nd b_ n_ 9 p_ = .inr r_ → rwc b_ n_ T_ K_ f_ S_) ∧ True) → (r_m4 S_) < nn_ → sm_T (mt_P sc_) 8 366 (114, [some (.inr (.inr (some (13, 0)))), some (.inl t_), none], [], S_) (fun r_ => ∃ u_ S1_, r_ = (.inl u_, S1_, 0) ∧ vq_366 b_ n_ T_ p_ K_ f_ S0_ u_ S1_)) ∧ (∀ (t_ : Int) (S_ : sm_S), gi S_ → ai_fr (sx_W vw_366) S0_ S_ → ((rg b_ n_ T_ (pb (y_3 b_ n_ K_ f_ p_) fun a_ => .inr a_.2.2.2) S_) ∧ (∀ a_, (y_3 b_ n_ K_ f_ p_) = .inr a_ → inr_ b_ n_ T_ a_.2.1 a_.2.2.1 S_) ∧ (0 ≤ t_ ∧ t_ ≤ 1280) ∧ (∀ q_, (pb (p_nd b_ n_ 9 p_) (p_du b_ n_ 1)) = .inr q_ → rtk b_ n_ T_ t_ q_) ∧ (∀ r_, p_nd b_ n_ 9 p_ = .inr r_ → rwc b_ n_ T_ K_ f_ S_) ∧ True) → ((0 : Nat)) < nn_ → sm_T (mt_P sc_) 8 366 (141, [some (.inr (.inr (some (13, 0)))), some (.inl t_), none], [], S_) (fun r_ => ∃ u_ S1_, r_ = (.inl u_, S1_, 0) ∧ vq_366 b_ n_ T_ p_ K_ f_ S0_ u_ S1_)) := by
  intro nn_
  induction nn_ with
  | zero => exact ⟨fun _ _ _ _ _ _ h_ => absurd h_ (Nat.not_lt_zero _), fun _ _ _ _ _ h_ => absurd h_ (Nat.not_lt_zero _), fun _ _ _ _ _ h_ => absurd h_ (Nat.not_lt_zero _), fun _ _ _ _ _ h_ => absurd h_ (Nat.not_lt_zero _), fun _ _ _ _ _ h_ => absurd h_ (Nat.not_lt_zero _)⟩
  | succ nn_ ih_ =>
    refine ⟨?_, ?_, ?_, ?_, ?_⟩
    · rintro t_ i_ S_ hI_ hF_ ⟨h0_, h1_, tb_, tk_, row_, -⟩ hm_
      have le0_ := rg_le ht_ hx_
      have hn1_ := ht_.1
      have tt_ := rtab_fr ht_ hF_ rfl rfl rfl rfl rfl
      have cb1_ : 0 ≤ S_.1 13 0 83 ∧ S_.1 13 0 83 ≤ 12 := hI_.1 13 0 83 rfl
      have bx1_ : 0 ≤ S_.1 13 0 83 ∧ S_.1 13 0 83 ≤ 12 := hI_.1 13 0 83 rfl
      refine sm_T_go 3 (c1 := (35, [some (.inr (.inr (some (13, 0)))), some (.inl t_), some (.inl i_)], [.inl (S_.1 13 0 83), .inl i_], S_)) rfl ?_
      refine sm_T_br (a := 3) (z := 37) rfl (fun cx2_ => ?_) (fun cx2_ => ?_)
      · have cx2_ : (S_.1 13 0 83) ≤ i_ := of_decide_eq_true cx2_
        refine sm_T_go 0 (c1 := (72, [some (.inr (.inr (some (13, 0)))), some (.inl t_), some (.inl i_)], [], S_)) rfl ?_
        refine sm_T_wk [some (.inr (.inr (some (13, 0)))), some (.inl t_), none] (by exact ⟨rfl, rfl, trivial⟩) ?_
        refine ih_.2.1 t_ S_ hI_ hF_ ⟨?_, ?_, ?_, ?_, trivial⟩ ?_
        · rcases h1_ with ⟨e_, z1_, z2_⟩ | ⟨q0_, z1_, z2_, z3_, z4_⟩
          · rw [z1_]; exact z2_
          · have rowq := row_ q0_ (du_r z1_).1
            have cnq_ : S_.1 13 0 83 = (K_ : Int) := rowq.1.1
            first | (exact absurd z2_.1 hz_) | (have e_ : (zn2 b_ n_ K_ f_ (p_nd b_ n_ 9 p_)) = .inr q0_ := (by unfold zn2; rw [z1_]; show (if p_fd (fun s_ => nm_q b_ n_ (f_ s_) q0_) K_ = -1 then _ else _) = _; rw [show K_ = i_.toNat by omega, if_pos z3_]); rw [e_]; exact z2_)
        · omega
        · exact tk_
        · exact row_
        · omega
      · have cx2_ : ¬ ((S_.1 13 0 83) ≤ i_) := of_decide_eq_false cx2_
        refine sm_T_go 1 (c1 := (39, [some (.inr (.inr (some (13, 0)))), some (.inl t_), some (.inl i_)], [.inr (.inr (some (13, 0)))], S_)) rfl ?_
        refine sm_T_cal (d1 := 0) (Q1 := vq_292  S_) rfl rfl (by decide) (vc_292  S_ hI_ ) (fun u_ Sx3_ px6_ => ?_)
        obtain ⟨rfl, vx8_, rfl, px6_⟩ := px6_
        have e1r := px6_
        refine sm_T_b0 (a := 0) (z := 30) rfl (fun cx9_ => ?_) (fun cx9_ => ?_)
        · have cx9_ : vx8_ = 0 := of_decide_eq_true cx9_
          have hz_ := wr_if e1r (by omega)
          refine sm_T_go 0 (c1 := (72, [some (.inr (.inr (some (13, 0)))), some (.inl t_), some (.inl i_)], [], S_)) rfl ?_
          refine sm_T_wk [some (.inr (.inr (some (13, 0)))), some (.inl t_), none] (by exact ⟨rfl, rfl, trivial⟩) ?_
          refine ih_.2.1 t_ S_ hI_ hF_ ⟨?_, ?_, ?_, ?_, trivial⟩ ?_
          · rcases h1_ with ⟨e_, z1_, z2_⟩ | ⟨q0_, z1_, z2_, z3_, z4_⟩
            · rw [z1_]; exact z2_
            · have rowq := row_ q0_ (du_r z1_).1
              have cnq_ : S_.1 13 0 83 = (K_ : Int) := rowq.1.1
              first | (exact absurd z2_.1 hz_) | (have e_ : (zn2 b_ n_ K_ f_ (p_nd b_ n_ 9 p_)) = .inr q0_ := (by unfold zn2; rw [z1_]; show (if p_fd (fun s_ => nm_q b_ n_ (f_ s_) q0_) K_ = -1 then _ else _) = _; rw [show K_ = i_.toNat by omega, if_pos z3_]); rw [e_]; exact z2_)
          · omega
          · exact tk_
          · exact row_
          · omega
        · have cx9_ : ¬ (vx8_ = 0) := of_decide_eq_false cx9_
          have hz_ := rt_if e1r (by omega)
          obtain ⟨q0_, hq0_, gq0_, fq0_, iq0_⟩ : ∃ q0_, (pb (p_nd b_ n_ 9 p_) (p_du b_ n_ 1)) = .inr q0_ ∧ rg b_ n_ T_ (.inr q0_) S_ ∧ p_fd (fun s_ => nm_q b_ n_ (f_ s_) q0_)  i_.toNat = -1 ∧ i_ ≤ (K_ : Int) := by rcases h1_ with ⟨e_, z1_, z2_⟩ | z_; (exact absurd (z2_.1.symm.trans hz_) z2_.2.2); exact z_
          have rowq := row_ q0_ (du_r hq0_).1
          have cnq_ : S_.1 13 0 83 = (K_ : Int) := rowq.1.1
          have rtq_ := rowq.1.2 i_.toNat (by omega)
          have tkq_ := tk_ q0_ hq0_
          have ptq_ := rtk_pl tt_ tkq_
          have soq_ : S_.2.2.1 119 0 t_.toNat ≠ 4 := by obtain ⟨i3_, y1_, y2_, y3_, y4_⟩ := tkq_; have y5_ := (tt_.2.2.1.1 i3_ y2_).2; rw [← y3_] at y5_; rw [y1_, Int.toNat_natCast, y5_.2.1, y4_.2]; decide
          refine sm_T_go 4 (c1 := (51, [some (.inr (.inr (some (13, 0)))), some (.inl t_), some (.inl i_)], [.inl i_, .inr (.inr (some (178, 0))), .inr (.inr (some (13, 0)))], S_)) rfl ?_
          refine sm_T_iald (n := 12) rfl rfl (by omega) (by omega) ?_
          have bx10_ : 0 ≤ S_.2.2.1 178 0 i_.toNat ∧ S_.2.2.1 178 0 i_.toNat ≤ 1280 := hI_.2 178 0 _
          refine sm_T_go 1 (c1 := (53, [some (.inr (.inr (some (13, 0)))), some (.inl t_), some (.inl i_)], [.inl t_, .inl (S_.2.2.1 178 0 i_.toNat), .inr (.inr (some (13, 0)))], S_)) rfl ?_
          refine sm_T_cal (d1 := 0) (Q1 := vq_301 (S_.2.2.1 178 0 i_.toNat) t_ b_ n_ T_ (f_ i_.toNat) q0_ S_) rfl rfl (by decide) (vc_301 (S_.2.2.1 178 0 i_.toNat) t_ b_ n_ T_ (f_ i_.toNat) q0_ S_ hI_ (by exact tt_) (by exact rtq_) (by exact tkq_)) (fun u_ Sx11_ px14_ => ?_)
          obtain ⟨rfl, vx16_, rfl, px14_⟩ := px14_
          have esm_ := px14_
          refine sm_T_b0 (a := 0) (z := 10) rfl (fun cx17_ => ?_) (fun cx17_ => ?_)
          · have cx17_ : vx16_ = 0 := of_decide_eq_true cx17_
            have nq_ : nm_q b_ n_ (f_ i_.toNat) q0_ = false := by cases z_ : nm_q b_ n_ (f_ i_.toNat) q0_; rfl; (rw [if_pos z_] at esm_; omega)
            refine sm_T_inc (a := 2) (z := 1) (v := i_) (w := i_ + 1) rfl rfl (by omega) (by omega) (by omega) ?_
            refine sm_T_go 1 (c1 := (30, [some (.inr (.inr (some (13, 0)))), some (.inl t_), some (.inl (i_ + 1))], [], S_)) rfl ?_
            refine ih_.1 t_ (i_ + 1) S_ hI_ hF_ ⟨?_, ?_, ?_, ?_, ?_, trivial⟩ ?_
            · omega
            · first | (left; exact ⟨_, z2e, gw_⟩) | (right; exact ⟨q0_, hq0_, gq0_, by rw [show (i_ + 1).toNat = i_.toNat + 1 by omega]; exact p_fd_nx fq0_ nq_, by omega⟩)
            · omega
            · exact tk_
            · first | exact roww | exact row_
            · omega
          · have cx17_ : ¬ (vx16_ = 0) := of_decide_eq_false cx17_
            have nq_ : nm_q b_ n_ (f_ i_.toNat) q0_ = true := by cases z_ : nm_q b_ n_ (f_ i_.toNat) q0_; (rw [if_neg (by rw [z_]; decide)] at esm_; omega); rfl
            have z2e : (zn2 b_ n_ K_ f_ (p_nd b_ n_ 9 p_)) = .inl (10, q0_) := by unfold zn2; rw [hq0_]; show (if p_fd (fun s_ => nm_q b_ n_ (f_ s_) q0_)  K_ = -1 then _ else _) = _; rw [if_neg (by rw [p_fd_go fq0_ nq_ (show i_.toNat < K_ by omega)]; omega)]
            refine sm_T_go 3 (c1 := (63, [some (.inr (.inr (some (13, 0)))), some (.inl t_), some (.inl i_)], [.inl t_, .inl 10, .inr (.inr (some (13, 0)))], S_)) rfl ?_
            refine sm_T_cal (d1 := 0) (Q1 := vq_293 10 t_ S_) rfl rfl (by decide) (vc_293 10 t_ S_ hI_ (by decide) (by omega)) (fun u_ Sx18_ px21_ => ?_)
            obtain ⟨rfl, hIx19_, hFx20_, px21_⟩ := px21_
            have hFx22_ : ai_fr (sx_W vw_366) S0_ Sx18_ := ai_fr_tr hF_ (fr_le hFx20_ rfl)
            have ex23_ : Sx18_.1 13 0 83 = S_.1 13 0 83 := hFx20_.1 13 0 83 rfl
            have gw_ : rg b_ n_ T_ (.inl (10, q0_)) Sx18_ := by rcases px21_ with z_ | z_; (exact absurd hz_ z_.1); (exact ⟨z_.2.1.trans (if_neg soq_), z_.2.2.trans ptq_.2, by show (10 : Int) ≠ 0; decide⟩)
            have roww : ∀ pq_, (p_nd b_ n_ 9 p_) = .inr pq_ → rwc b_ n_ T_ K_ f_ Sx18_ := fun pq_ hp_ => rwc_fr (row_ pq_ hp_) hFx20_ rfl rfl rfl rfl
            refine sm_T_inc (a := 2) (z := 1) (v := i_) (w := i_ + 1) rfl rfl (by omega) (by omega) (by omega) ?_
            refine sm_T_go 1 (c1 := (30, [some (.inr (.inr (some (13, 0)))), some (.inl t_), some (.inl (i_ + 1))], [], Sx18_)) rfl ?_
            refine ih_.1 t_ (i_ + 1) Sx18_ hIx19_ hFx22_ ⟨?_, ?_, ?_, ?_, ?_, trivial⟩ ?_
            · omega
            · first | (left; exact ⟨_, z2e, gw_⟩) | (right; exact ⟨q0_, hq0_, gq0_, by rw [show (i_ + 1).toNat = i_.toNat + 1 by omega]; exact p_fd_nx fq0_ nq_, by omega⟩)
            · omega
            · exact tk_
            · first | exact roww | exact row_
            · omega
    · rintro t_ S_ hI_ hF_ ⟨g50_, tb_, tk_, row_, -⟩ hm_
      have le0_ := rg_le ht_ hx_
      have hn1_ := ht_.1
      have tt_ := rtab_fr ht_ hF_ rfl rfl rfl rfl rfl
      refine sm_T_go 1 (c1 := (73, [some (.inr (.inr (some (13, 0)))), some (.inl t_), none], [.inr (.inr (some (13, 0)))], S_)) rfl ?_
      refine sm_T_cal (d1 := 0) (Q1 := vq_292  S_) rfl rfl (by decide) (vc_292  S_ hI_ ) (fun u_ Sx1_ px4_ => ?_)
      obtain ⟨rfl, vx6_, rfl, px4_⟩ := px4_
      have e2r := px4_
      refine sm_T_b0 (a := 0) (z := 19) rfl (fun cx7_ => ?_) (fun cx7_ => ?_)
      · have cx7_ : vx6_ = 0 := of_decide_eq_true cx7_
        have hz_ := wr_if e2r (by omega)
        obtain ⟨e5_, he5_⟩ := rg_w g50_ hz_
        have z3w : (zn3 b_ n_ K_ f_ 12 (p_nd b_ n_ 9 p_)) = .inl e5_ := by unfold zn3; rw [he5_]; rfl
        have g3w := g50_
        rw [he5_] at g3w
        refine sm_T_go 0 (c1 := (95, [some (.inr (.inr (some (13, 0)))), some (.inl t_), none], [], S_)) rfl ?_
        refine ih_.2.2.1 t_ S_ hI_ hF_ ⟨?_, ?_, ?_, ?_, trivial⟩ ?_
        · first | exact gf_ | (rw [z3w]; exact g3w) | (rw [z3c, if_neg (by omega)]; exact g3r)
        · omega
        · exact tk_
        · first | exact rowf | exact row_
        · omega
      · have cx7_ : ¬ (vx6_ = 0) := of_decide_eq_false cx7_
        have hz_ := rt_if e2r (by omega)
        obtain ⟨q0_, i2_, hq2_, hi21_, hi22_⟩ := rg_r g50_ hz_
        have hq0_ := (zn2_r hq2_).1
        have g3r := g50_
        rw [hq2_] at g3r
        have z3c : (zn3 b_ n_ K_ f_ 12 (p_nd b_ n_ 9 p_)) = if (K_ : Int) = 12 then .inl (15, q0_) else .inr q0_ := by unfold zn3; rw [hq2_]; rfl
        have rowq := row_ q0_ (du_r hq0_).1
        have cnq_ : S_.1 13 0 83 = (K_ : Int) := rowq.1.1
        have tkq_ := tk_ q0_ hq0_
        have ptq_ := rtk_pl tt_ tkq_
        have soq_ : S_.2.2.1 119 0 t_.toNat ≠ 4 := by obtain ⟨i3_, y1_, y2_, y3_, y4_⟩ := tkq_; have y5_ := (tt_.2.2.1.1 i3_ y2_).2; rw [← y3_] at y5_; rw [y1_, Int.toNat_natCast, y5_.2.1, y4_.2]; decide
        have bx8_ : 0 ≤ S_.1 13 0 83 ∧ S_.1 13 0 83 ≤ 12 := hI_.1 13 0 83 rfl
        refine sm_T_go 3 (c1 := (85, [some (.inr (.inr (some (13, 0)))), some (.inl t_), none], [.inl 12, .inl (S_.1 13 0 83)], S_)) rfl ?_
        refine sm_T_br (a := 1) (z := 10) rfl (fun cx9_ => ?_) (fun cx9_ => ?_)
        · have cx9_ : (S_.1 13 0 83) ≠ 12 := of_decide_eq_true cx9_
          refine sm_T_go 0 (c1 := (95, [some (.inr (.inr (some (13, 0)))), some (.inl t_), none], [], S_)) rfl ?_
          refine ih_.2.2.1 t_ S_ hI_ hF_ ⟨?_, ?_, ?_, ?_, trivial⟩ ?_
          · first | exact gf_ | (rw [z3w]; exact g3w) | (rw [z3c, if_neg (by omega)]; exact g3r)
          · omega
          · exact tk_
          · first | exact rowf | exact row_
          · omega
        · have cx9_ : ¬ ((S_.1 13 0 83) ≠ 12) := of_decide_eq_false cx9_
          refine sm_T_go 3 (c1 := (92, [some (.inr (.inr (some (13, 0)))), some (.inl t_), none], [.inl t_, .inl 15, .inr (.inr (some (13, 0)))], S_)) rfl ?_
          refine sm_T_cal (d1 := 0) (Q1 := vq_293 15 t_ S_) rfl rfl (by decide) (vc_293 15 t_ S_ hI_ (by decide) (by omega)) (fun u_ Sx10_ px13_ => ?_)
          obtain ⟨rfl, hIx11_, hFx12_, px13_⟩ := px13_
          have hFx14_ : ai_fr (sx_W vw_366) S0_ Sx10_ := ai_fr_tr hF_ (fr_le hFx12_ rfl)
          have ex15_ : Sx10_.1 13 0 83 = S_.1 13 0 83 := hFx12_.1 13 0 83 rfl
          have gf_ : rg b_ n_ T_ (zn3 b_ n_ K_ f_ 12 (p_nd b_ n_ 9 p_)) Sx10_ := by rw [z3c, if_pos (by omega)]; rcases px13_ with z_ | z_; (exact absurd hz_ z_.1); (exact ⟨z_.2.1.trans (if_neg soq_), z_.2.2.trans ptq_.2, by show (15 : Int) ≠ 0; decide⟩)
          have rowf : ∀ pq_, (p_nd b_ n_ 9 p_) = .inr pq_ → rwc b_ n_ T_ K_ f_ Sx10_ := fun pq_ hp_ => rwc_fr (row_ pq_ hp_) hFx12_ rfl rfl rfl rfl
          refine sm_T_go 0 (c1 := (95, [some (.inr (.inr (some (13, 0)))), some (.inl t_), none], [], Sx10_)) rfl ?_
          refine ih_.2.2.1 t_ Sx10_ hIx11_ hFx14_ ⟨?_, ?_, ?_, ?_, trivial⟩ ?_
          · first | exact gf_ | (rw [z3w]; exact g3w) | (rw [z3c, if_neg (by omega)]; exact g3r)
          · omega
          · exact tk_
          · first | exact rowf | exact row_
          · omega
    · rintro t_ S_ hI_ hF_ ⟨g72_, tb_, tk_, row_, -⟩ hm_
      have le0_ := rg_le ht_ hx_
      have hn1_ := ht_.1
      have tt_ := rtab_fr ht_ hF_ rfl rfl rfl rfl rfl
      refine sm_T_go 1 (c1 := (96, [some (.inr (.inr (some (13, 0)))), some (.inl t_), none], [.inr (.inr (some (13, 0)))], S_)) rfl ?_
      refine sm_T_cal (d1 := 2) (Q1 := vq_297 b_ n_ T_ (zn3 b_ n_ K_ f_ 12 (p_nd b_ n_ 9 p_)) S_) rfl rfl (by decide) (vc_297 b_ n_ T_ (zn3 b_ n_ K_ f_ 12 (p_nd b_ n_ 9 p_)) S_ hI_ (by exact tt_) (by exact g72_) (by (intro r_ e_; have z_ := (du_r (zn2_r (zn3_r e_).1).1).2; omega))) (fun u_ Sx1_ px4_ => ?_)
      obtain ⟨rfl, hIx2_, hFx3_, px4_⟩ := px4_
      have hFx5_ : ai_fr (sx_W vw_366) S0_ Sx1_ := ai_fr_tr hF_ (fr_le hFx3_ rfl)
      have ggo_ : rg b_ n_ T_ (pb (p_nd b_ n_ 9 p_) (p_nn b_ n_ K_ f_ 12)) Sx1_ := by rw [← nn_eq]; exact px4_.1
      have tgo_ := rtab_fr tt_ hFx3_ rfl rfl rfl rfl rfl
      have rowg : ∀ pq_, (p_nd b_ n_ 9 p_) = .inr pq_ → rwc b_ n_ T_ K_ f_ Sx1_ := fun pq_ hp_ => rwc_fr (row_ pq_ hp_) hFx3_ rfl rfl rfl rfl
      have g96_ : rg b_ n_ T_ (pb (y_1 b_ n_ K_ f_ p_) fun a_ => .inr a_.2) Sx1_ := by unfold y_1; cases hy_ : p_nd b_ n_ 9 p_ with | inl e_ => (rw [hy_] at ggo_; exact ggo_) | inr q_ => (rw [hy_] at ggo_; rw [pb_ir, pb_as]; have z_ : (pb (p_nn b_ n_ K_ f_ 12 q_) fun a_ => pb (.inr (q_, a_)) fun a_ => .inr a_.2) = p_nn b_ n_ K_ f_ 12 q_ := pb_id; rw [z_]; exact ggo_)
      refine sm_T_go 2 (c1 := (102, [some (.inr (.inr (some (13, 0)))), some (.inl t_), none], [.inl 40, .inr (.inr (some (13, 0)))], Sx1_)) rfl ?_
      refine sm_T_cal (d1 := 3) (Q1 := vq_300 40 b_ n_ T_ (pb (y_1 b_ n_ K_ f_ p_) fun a_ => .inr a_.2) Sx1_) rfl rfl (by decide) (vc_300 40 b_ n_ T_ (pb (y_1 b_ n_ K_ f_ p_) fun a_ => .inr a_.2) Sx1_ hIx2_ (by exact tgo_) (by exact g96_) (by decide)) (fun u_ Sx6_ px9_ => ?_)
      obtain ⟨rfl, hIx7_, hFx8_, px9_⟩ := px9_
      have hFx10_ : ai_fr (sx_W vw_366) S0_ Sx6_ := ai_fr_tr hFx5_ (fr_le hFx8_ rfl)
      have t102_ := rtab_fr tgo_ hFx8_ rfl rfl rfl rfl rfl
      have g102_ : rg b_ n_ T_ (pb (y_2 b_ n_ K_ f_ p_) fun a_ => .inr a_.2) Sx6_ := rg_pb px9_ (fun a_ _ => by rw [pb_as]; exact pb_id.symm)
      have row102_ : ∀ r_, p_nd b_ n_ 9 p_ = .inr r_ → rwc b_ n_ T_ K_ f_ Sx6_ := fun r_ hr_ => rwc_fr (rowg r_ hr_) hFx8_ rfl rfl rfl rfl
      have hIx11_ : gi (sm_pI Sx6_ 13 0 80 0) := gi_pI hIx7_ (show 0 ≤ 0 ∧ 0 ≤ 3 from ⟨by omega, by omega⟩)
      have hFx12_ : ai_fr (sx_W vw_366) S0_ (sm_pI Sx6_ 13 0 80 0) := ai_fr_tr hFx10_ (ai_fr_pI rfl)
      refine sm_T_go 4 (c1 := (111, [some (.inr (.inr (some (13, 0)))), some (.inl t_), none], [.inr (.inr (some (13, 0)))], sm_pI Sx6_ 13 0 80 0)) rfl ?_
      refine sm_T_cal (d1 := 3) (Q1 := vq_364 b_ n_ T_ (pb (y_2 b_ n_ K_ f_ p_) fun a_ => .inr a_.2) 0 f_0 (sm_pI Sx6_ 13 0 80 0)) rfl rfl (by decide) (vc_364 b_ n_ T_ (pb (y_2 b_ n_ K_ f_ p_) fun a_ => .inr a_.2) 0 f_0 (sm_pI Sx6_ 13 0 80 0) hIx11_ (by exact rtab_fr (w_ := ([(13, 80)], [], [])) t102_ (ai_fr_pI rfl) rfl rfl rfl rfl rfl) (by exact rg_fr (w_ := ([(13, 80)], [], [])) g102_ (ai_fr_pI rfl) rfl rfl rfl) (by (intro q_ hq_; exact ⟨rf_eq, by decide, fun j_ hj_ => absurd hj_ (Nat.not_lt_zero _), fun i_ j_ _ hj_ => absurd hj_ (Nat.not_lt_zero _)⟩))) (fun u_ Sx13_ px16_ => ?_)
      obtain ⟨rfl, hIx14_, hFx15_, px16_⟩ := px16_
      have hFx17_ : ai_fr (sx_W vw_366) S0_ Sx13_ := ai_fr_tr hFx12_ (fr_le hFx15_ rfl)
      have e111_ := px16_
      have row111_ : ∀ r_, p_nd b_ n_ 9 p_ = .inr r_ → rwc b_ n_ T_ K_ f_ Sx13_ := fun r_ hr_ => rwc_fr (S_ := (sm_pI Sx6_ 13 0 80 0)) (rwc_fr (w_ := ([(13, 80)], [], [])) (row102_ r_ hr_) (ai_fr_pI rfl) rfl rfl rfl rfl) hFx15_ rfl rfl rfl rfl
      have h111_ : y_w b_ n_ T_ (y_3 b_ n_ K_ f_ p_) Sx13_ ∨ y_i b_ n_ T_ (y_3 b_ n_ K_ f_ p_) Sx13_ := by cases hy_ : (y_2 b_ n_ K_ f_ p_) with | inl e_ => (left; rw [hy_] at e111_; exact ⟨e_, by unfold y_3; rw [hy_]; rfl, e111_.1⟩) | inr a_ => (rw [hy_] at e111_; exact yi_nn (x_ := .inr a_.2) (q_ := a_.1) (by decide) e111_.1 e111_.2 (by unfold y_3; rw [hy_]; rfl))
      refine sm_T_go 0 (c1 := (114, [some (.inr (.inr (some (13, 0)))), some (.inl t_), none], [], Sx13_)) rfl ?_
      refine ih_.2.2.2.1 t_ Sx13_ hIx14_ hFx17_ ⟨?_, ?_, ?_, ?_, trivial⟩ ?_
      · exact h111_
      · omega
      · exact tk_
      · exact row111_
      · exact Nat.lt_of_le_of_lt (rm4_b hIx14_).2 (by omega)
    · rintro t_ S_ hI_ hF_ ⟨h1_, tb_, tk_, row_, -⟩ hm_
      have le0_ := rg_le ht_ hx_
      have hn1_ := ht_.1
      have tt_ := rtab_fr ht_ hF_ rfl rfl rfl rfl rfl
      refine sm_T_go 1 (c1 := (115, [some (.inr (.inr (some (13, 0)))), some (.inl t_), none], [.inr (.inr (some (13, 0)))], S_)) rfl ?_
      refine sm_T_cal (d1 := 0) (Q1 := vq_292  S_) rfl rfl (by decide) (vc_292  S_ hI_ ) (fun u_ Sx1_ px4_ => ?_)
      obtain ⟨rfl, vx6_, rfl, px4_⟩ := px4_
      have e115_ := px4_
      refine sm_T_b0 (a := 0) (z := 23) rfl (fun cx7_ => ?_) (fun cx7_ => ?_)
      · have cx7_ : vx6_ = 0 := of_decide_eq_true cx7_
        have hz_ := wr_if e115_ (by omega)
        have hw_ : y_w b_ n_ T_ (y_3 b_ n_ K_ f_ p_) S_ := by rcases h1_ with z_ | ⟨q_, K1_, f1_, r_, z1_, z2_⟩; exact z_; (exact absurd z1_.1 hz_)
        refine sm_T_go 0 (c1 := (141, [some (.inr (.inr (some (13, 0)))), some (.inl t_), none], [], S_)) rfl ?_
        refine ih_.2.2.2.2 t_ S_ hI_ hF_ ⟨?_, ?_, ?_, ?_, ?_, trivial⟩ ?_
        · first | (obtain ⟨e9_, z1_, z2_⟩ := hw_; rw [z1_]; exact z2_) | (rw [hZ1_]; exact g1_)
        · first | (obtain ⟨e9_, z1_, z2_⟩ := hw_; intro a_ ha_; rw [z1_] at ha_; cases ha_; done) | (intro a_ ha_; rw [hZ1_] at ha_; cases ha_; exact in1_)
        · omega
        · exact tk_
        · exact row_
        · (have z_ := (rm4_b hI_).1); omega
      · have cx7_ : ¬ (vx6_ = 0) := of_decide_eq_false cx7_
        have hz_ := rt_if e115_ (by omega)
        obtain ⟨q1_, K1_, f1_, r1_, g1_, in1_, hK1_, hZ1_⟩ : y_i b_ n_ T_ (y_3 b_ n_ K_ f_ p_) S_ := by rcases h1_ with ⟨e_, z1_, z2_⟩ | z_; (exact absurd (z2_.1.symm.trans hz_) z2_.2.2); exact z_
        have in1a := in1_.1
        have in1b := in1_.2.1
        have le1_ := rg_le tt_ g1_
        refine sm_T_go 2 (c1 := (124, [some (.inr (.inr (some (13, 0)))), some (.inl t_), none], [.inl 44, .inr (.inr (some (13, 0)))], S_)) rfl ?_
        refine sm_T_cal (d1 := 0) (Q1 := vq_295 44 b_ n_ T_ (.inr r1_) S_) rfl rfl (by decide) (vc_295 44 b_ n_ T_ (.inr r1_) S_ hI_ (by exact tt_) (by exact g1_) (by decide)) (fun u_ Sx8_ px11_ => ?_)
        obtain ⟨rfl, vx13_, rfl, px11_⟩ := px11_
        have e124_ := px11_.2 r1_ rfl
        have r124_ := px11_.1.1
        refine sm_T_b0 (a := 0) (z := 14) rfl (fun cx14_ => ?_) (fun cx14_ => ?_)
        · have cx14_ : vx13_ = 0 := of_decide_eq_true cx14_
          have n44_ : lx_kd b_ n_ r1_ ≠ 44 := fun z_ => by have := e124_.mpr z_; omega
          rw [if_neg n44_] at hZ1_
          refine sm_T_go 0 (c1 := (141, [some (.inr (.inr (some (13, 0)))), some (.inl t_), none], [], S_)) rfl ?_
          refine ih_.2.2.2.2 t_ S_ hI_ hF_ ⟨?_, ?_, ?_, ?_, ?_, trivial⟩ ?_
          · first | (obtain ⟨e9_, z1_, z2_⟩ := hw_; rw [z1_]; exact z2_) | (rw [hZ1_]; exact g1_)
          · first | (obtain ⟨e9_, z1_, z2_⟩ := hw_; intro a_ ha_; rw [z1_] at ha_; cases ha_; done) | (intro a_ ha_; rw [hZ1_] at ha_; cases ha_; exact in1_)
          · omega
          · exact tk_
          · exact row_
          · (have z_ := (rm4_b hI_).1); omega
        · have cx14_ : ¬ (vx13_ = 0) := of_decide_eq_false cx14_
          have k44_ : lx_kd b_ n_ r1_ = 44 := e124_.mp (by omega)
          rw [if_pos k44_] at hZ1_
          refine sm_T_go 1 (c1 := (131, [some (.inr (.inr (some (13, 0)))), some (.inl t_), none], [.inr (.inr (some (13, 0)))], S_)) rfl ?_
          refine sm_T_cal (d1 := 2) (Q1 := vq_297 b_ n_ T_ (.inr r1_) S_) rfl rfl (by decide) (vc_297 b_ n_ T_ (.inr r1_) S_ hI_ (by exact tt_) (by exact g1_) (by (intro z_ e_; cases e_; rw [k44_]; decide))) (fun u_ Sx15_ px18_ => ?_)
          obtain ⟨rfl, hIx16_, hFx17_, px18_⟩ := px18_
          have hFx19_ : ai_fr (sx_W vw_366) S0_ Sx15_ := ai_fr_tr hF_ (fr_le hFx17_ rfl)
          have g131_ : rg b_ n_ T_ (p_ad b_ n_ r1_) Sx15_ := px18_.1
          have t131_ := rtab_fr tt_ hFx17_ rfl rfl rfl rfl rfl
          have in131_ := inr_fr in1_ hFx17_ rfl rfl
          have row131_ : ∀ r_, p_nd b_ n_ 9 p_ = .inr r_ → rwc b_ n_ T_ K_ f_ Sx15_ := fun r_ hr_ => rwc_fr (row_ r_ hr_) hFx17_ rfl rfl rfl rfl
          have ci131_ := hFx17_.1 13 0 80 rfl
          refine sm_T_go 1 (c1 := (135, [some (.inr (.inr (some (13, 0)))), some (.inl t_), none], [.inr (.inr (some (13, 0)))], Sx15_)) rfl ?_
          refine sm_T_cal (d1 := 3) (Q1 := vq_364 b_ n_ T_ (p_ad b_ n_ r1_) K1_ f1_ Sx15_) rfl rfl (by decide) (vc_364 b_ n_ T_ (p_ad b_ n_ r1_) K1_ f1_ Sx15_ hIx16_ (by exact t131_) (by exact g131_) (by exact fun _ _ => in131_)) (fun u_ Sx20_ px23_ => ?_)
          obtain ⟨rfl, hIx21_, hFx22_, px23_⟩ := px23_
          have hFx24_ : ai_fr (sx_W vw_366) S0_ Sx20_ := ai_fr_tr hFx19_ (fr_le hFx22_ rfl)
          have e135_ := px23_
          have row135_ : ∀ r_, p_nd b_ n_ 9 p_ = .inr r_ → rwc b_ n_ T_ K_ f_ Sx20_ := fun r_ hr_ => rwc_fr (row131_ r_ hr_) hFx22_ rfl rfl rfl rfl
          have h135_ : y_w b_ n_ T_ (y_3 b_ n_ K_ f_ p_) Sx20_ ∨ y_i b_ n_ T_ (y_3 b_ n_ K_ f_ p_) Sx20_ := yi_nn in1b e135_.1 e135_.2 hZ1_
          have in135_ : Sx20_.1 13 0 10 = 0 → Sx20_.1 13 0 80 = (K1_ : Int) + 1 := fun z_ => by obtain ⟨r9_, i9_, hr9_, -⟩ := rg_r e135_.1 z_; obtain ⟨p9_, hp9_, hn9_⟩ := pb_inr hr9_; have w9_ := (e135_.2 p9_ r9_ hp9_ hn9_).1; rw [w9_]; push_cast; rfl
          refine sm_T_go 1 (c1 := (114, [some (.inr (.inr (some (13, 0)))), some (.inl t_), none], [], Sx20_)) rfl ?_
          refine ih_.2.2.2.1 t_ Sx20_ hIx21_ hFx24_ ⟨?_, ?_, ?_, ?_, trivial⟩ ?_
          · exact h135_
          · omega
          · exact tk_
          · exact row135_
          · (have z_ : r_m4 S_ = (12 - S_.1 13 0 80).toNat := if_neg (by rw [hz_]; exact fun y_ => y_ rfl)); unfold r_m4; split; omega; (rename_i gg_; have w_ := in135_ (Decidable.byContradiction gg_); omega)
    · rintro t_ S_ hI_ hF_ ⟨g141_, in141_, tb_, tk_, row_, -⟩ hm_
      have le0_ := rg_le ht_ hx_
      have hn1_ := ht_.1
      have tt_ := rtab_fr ht_ hF_ rfl rfl rfl rfl rfl
      refine sm_T_go 2 (c1 := (144, [some (.inr (.inr (some (13, 0)))), some (.inl t_), none], [.inl 41, .inr (.inr (some (13, 0)))], S_)) rfl ?_
      refine sm_T_cal (d1 := 3) (Q1 := vq_300 41 b_ n_ T_ (pb (y_3 b_ n_ K_ f_ p_) fun a_ => .inr a_.2.2.2) S_) rfl rfl (by decide) (vc_300 41 b_ n_ T_ (pb (y_3 b_ n_ K_ f_ p_) fun a_ => .inr a_.2.2.2) S_ hI_ (by exact tt_) (by exact g141_) (by decide)) (fun u_ Sx1_ px4_ => ?_)
      obtain ⟨rfl, hIx2_, hFx3_, px4_⟩ := px4_
      have hFx5_ : ai_fr (sx_W vw_366) S0_ Sx1_ := ai_fr_tr hF_ (fr_le hFx3_ rfl)
      have t144_ := rtab_fr tt_ hFx3_ rfl rfl rfl rfl rfl
      have g144_ : rg b_ n_ T_ (pb (y_4 b_ n_ K_ f_ p_) fun a_ => .inr a_.2) Sx1_ := rg_pb px4_ (fun a_ _ => by rw [pb_as]; exact pb_id.symm)
      have in144_ : ∀ a_, (y_3 b_ n_ K_ f_ p_) = .inr a_ → inr_ b_ n_ T_ a_.2.1 a_.2.2.1 Sx1_ := fun a_ ha_ => inr_fr (in141_ a_ ha_) hFx3_ rfl rfl
      have row144_ : ∀ r_, p_nd b_ n_ 9 p_ = .inr r_ → rwc b_ n_ T_ K_ f_ Sx1_ := fun r_ hr_ => rwc_fr (row_ r_ hr_) hFx3_ rfl rfl rfl rfl
      refine sm_T_go 2 (c1 := (150, [some (.inr (.inr (some (13, 0)))), some (.inl t_), none], [.inl 61, .inr (.inr (some (13, 0)))], Sx1_)) rfl ?_
      refine sm_T_cal (d1 := 3) (Q1 := vq_300 61 b_ n_ T_ (pb (y_4 b_ n_ K_ f_ p_) fun a_ => .inr a_.2) Sx1_) rfl rfl (by decide) (vc_300 61 b_ n_ T_ (pb (y_4 b_ n_ K_ f_ p_) fun a_ => .inr a_.2) Sx1_ hIx2_ (by exact t144_) (by exact g144_) (by decide)) (fun u_ Sx6_ px9_ => ?_)
      obtain ⟨rfl, hIx7_, hFx8_, px9_⟩ := px9_
      have hFx10_ : ai_fr (sx_W vw_366) S0_ Sx6_ := ai_fr_tr hFx5_ (fr_le hFx8_ rfl)
      have t150_ := rtab_fr t144_ hFx8_ rfl rfl rfl rfl rfl
      have g150_ : rg b_ n_ T_ (pb (y_5 b_ n_ K_ f_ p_) fun a_ => .inr a_.2) Sx6_ := rg_pb px9_ (fun a_ _ => by rw [pb_as]; exact pb_id.symm)
      have in150_ : ∀ a_, (y_3 b_ n_ K_ f_ p_) = .inr a_ → inr_ b_ n_ T_ a_.2.1 a_.2.2.1 Sx6_ := fun a_ ha_ => inr_fr (in144_ a_ ha_) hFx8_ rfl rfl
      have row150_ : ∀ r_, p_nd b_ n_ 9 p_ = .inr r_ → rwc b_ n_ T_ K_ f_ Sx6_ := fun r_ hr_ => rwc_fr (row144_ r_ hr_) hFx8_ rfl rfl rfl rfl
      have mo150_ : Sx6_.1 13 0 27 = 2 := (hFx10_.1 13 0 27 rfl).trans hmo_
      refine sm_T_go 1 (c1 := (154, [some (.inr (.inr (some (13, 0)))), some (.inl t_), none], [.inr (.inr (some (13, 0)))], Sx6_)) rfl ?_
      refine sm_T_cal (d1 := 7) (Q1 := vq_321 b_ n_ T_ 2 (pb (y_5 b_ n_ K_ f_ p_) fun a_ => .inr a_.2) [] A_0 0 (g_d (y_5 b_ n_ K_ f_ p_) ((0, (0, f_0, 0)), 0)).1.2.1 (g_d (y_5 b_ n_ K_ f_ p_) ((0, (0, f_0, 0)), 0)).1.2.2.1 Sx6_) rfl rfl (by decide) (vc_321 b_ n_ T_ 2 (pb (y_5 b_ n_ K_ f_ p_) fun a_ => .inr a_.2) [] A_0 0 (g_d (y_5 b_ n_ K_ f_ p_) ((0, (0, f_0, 0)), 0)).1.2.1 (g_d (y_5 b_ n_ K_ f_ p_) ((0, (0, f_0, 0)), 0)).1.2.2.1 Sx6_ hIx7_ (by exact t150_) (by exact g150_) (by exact Or.inr rfl) (by exact mo150_) (by (intro q_ hq_; obtain ⟨a_, h1_, h2_⟩ := pb_inr hq_; refine ⟨Nat.zero_le _, fun z_ => absurd z_ (by decide), fun _ => ?_⟩; rw [h1_]; exact in150_ a_.1 (y5_1 h1_))) (by exact pm_2)) (fun u_ Sx11_ px14_ => ?_)
      obtain ⟨rfl, hIx12_, hFx13_, px14_⟩ := px14_
      have hFx15_ : ai_fr (sx_W vw_366) S0_ Sx11_ := ai_fr_tr hFx10_ (fr_le hFx13_ rfl)
      have t154_ := rtab_fr t150_ hFx13_ rfl rfl rfl rfl rfl
      have g154_ : rg b_ n_ T_ (pb (y_6 b_ n_ K_ f_ p_) fun a_ => .inr a_.2.1) Sx11_ := by have z_ := px14_.1; simp only [ex_2] at z_; unfold y_6; cases hy_ : (y_5 b_ n_ K_ f_ p_) with | inl e_ => (rw [hy_] at z_; exact z_) | inr a_ => (rw [hy_] at z_; rw [pb_ir, pb_as]; exact z_)
      have row154_ : ∀ r_, p_nd b_ n_ 9 p_ = .inr r_ → rwc b_ n_ T_ K_ f_ Sx11_ := fun r_ hr_ => rwc_fr (row150_ r_ hr_) hFx13_ rfl rfl rfl rfl
      have cb154_ : 0 ≤ Sx11_.1 13 0 80 ∧ Sx11_.1 13 0 80 ≤ 3 := hIx12_.1 13 0 80 rfl
      have nb154_ : 0 ≤ Sx11_.1 13 0 83 ∧ Sx11_.1 13 0 83 ≤ 12 := hIx12_.1 13 0 83 rfl
      have shb_ := sh_b cb154_
      obtain ⟨nc, hnc_⟩ : ∃ nc, Sx11_.1 13 0 83 = nc := ⟨_, rfl⟩
      have bx16_ : 0 ≤ Sx11_.1 13 0 83 ∧ Sx11_.1 13 0 83 ≤ 12 := hIx12_.1 13 0 83 rfl
      refine sm_T_go 3 (c1 := (163, [some (.inr (.inr (some (13, 0)))), some (.inl t_), none], [.inl 12, .inl (Sx11_.1 13 0 83)], Sx11_)) rfl ?_
      refine sm_T_bin (w := ((Sx11_.1 13 0 83) % 12)) rfl (bi_rem (by omega) (by omega) (by omega) (by omega)) ?_
      refine sm_T_go 7 (c1 := (175, [some (.inr (.inr (some (13, 0)))), some (.inl t_), some (.inl ((Sx11_.1 13 0 83) % 12))], [.inl 0, .inr (.inr (some (139, 0))), .inl ((Sx11_.1 13 0 83) % 12), .inr (.inr (some (180, 0)))], Sx11_)) rfl ?_
      refine sm_T_iald (n := 8192) rfl rfl (by omega) (by omega) ?_
      have bx17_ : 0 ≤ Sx11_.2.2.1 139 0 (0 : Int).toNat ∧ Sx11_.2.2.1 139 0 (0 : Int).toNat ≤ 2047 := hIx12_.2 139 0 _
      have bx18_ : 0 ≤ Sx11_.1 13 0 80 ∧ Sx11_.1 13 0 80 ≤ 3 := hIx12_.1 13 0 80 rfl
      refine sm_T_go 4 (c1 := (182, [some (.inr (.inr (some (13, 0)))), some (.inl t_), some (.inl ((Sx11_.1 13 0 83) % 12))], [.inl (Sx11_.1 13 0 80), .inl 1, .inl 1, .inl (Sx11_.2.2.1 139 0 (0 : Int).toNat), .inl ((Sx11_.1 13 0 83) % 12), .inr (.inr (some (180, 0)))], Sx11_)) rfl ?_
      refine sm_T_bin (w := (i_shl 1 (Sx11_.1 13 0 80))) rfl rfl ?_
      refine sm_T_bin (w := (i_shl 1 (i_shl 1 (Sx11_.1 13 0 80)))) rfl rfl ?_
      refine sm_T_go 1 (c1 := (185, [some (.inr (.inr (some (13, 0)))), some (.inl t_), some (.inl ((Sx11_.1 13 0 83) % 12))], [.inl 1, .inl (i_shl 1 (i_shl 1 (Sx11_.1 13 0 80))), .inl (Sx11_.2.2.1 139 0 (0 : Int).toNat), .inl ((Sx11_.1 13 0 83) % 12), .inr (.inr (some (180, 0)))], Sx11_)) rfl ?_
      refine sm_T_bin (w := (i_shl 1 (i_shl 1 (Sx11_.1 13 0 80))) - 1) rfl (bi_sub (by omega) (by omega) (by omega)) ?_
      refine sm_T_bin (w := (i_and (Sx11_.2.2.1 139 0 (0 : Int).toNat) ((i_shl 1 (i_shl 1 (Sx11_.1 13 0 80))) - 1))) rfl rfl ?_
      have bx19_ := i_and_m (x_ := (Sx11_.2.2.1 139 0 (0 : Int).toNat)) (y_ := ((i_shl 1 (i_shl 1 (Sx11_.1 13 0 80))) - 1)) (by omega) (by omega)
      refine sm_T_iast (n := 12) rfl rfl (by omega) (by omega) ?_
      have hIx20_ : gi (sm_aI Sx11_ 180 0 ((Sx11_.1 13 0 83) % 12).toNat (i_and (Sx11_.2.2.1 139 0 (0 : Int).toNat) ((i_shl 1 (i_shl 1 (Sx11_.1 13 0 80))) - 1))) := gi_aI hIx12_ (show 0 ≤ (i_and (Sx11_.2.2.1 139 0 (0 : Int).toNat) ((i_shl 1 (i_shl 1 (Sx11_.1 13 0 80))) - 1)) ∧ (i_and (Sx11_.2.2.1 139 0 (0 : Int).toNat) ((i_shl 1 (i_shl 1 (Sx11_.1 13 0 80))) - 1)) ≤ 255 from ⟨by omega, by omega⟩)
      have hFx21_ : ai_fr (sx_W vw_366) S0_ (sm_aI Sx11_ 180 0 ((Sx11_.1 13 0 83) % 12).toNat (i_and (Sx11_.2.2.1 139 0 (0 : Int).toNat) ((i_shl 1 (i_shl 1 (Sx11_.1 13 0 80))) - 1))) := ai_fr_tr hFx15_ (ai_fr_aI rfl)
      refine sm_T_go 5 (c1 := (197, [some (.inr (.inr (some (13, 0)))), some (.inl t_), some (.inl ((Sx11_.1 13 0 83) % 12))], [.inl (Sx11_.1 13 0 80), .inl ((Sx11_.1 13 0 83) % 12), .inr (.inr (some (179, 0)))], sm_aI Sx11_ 180 0 ((Sx11_.1 13 0 83) % 12).toNat (i_and (Sx11_.2.2.1 139 0 (0 : Int).toNat) ((i_shl 1 (i_shl 1 (Sx11_.1 13 0 80))) - 1)))) rfl ?_
      refine sm_T_iast (n := 12) rfl rfl (by omega) (by omega) ?_
      have hIx22_ : gi (sm_aI (sm_aI Sx11_ 180 0 ((Sx11_.1 13 0 83) % 12).toNat (i_and (Sx11_.2.2.1 139 0 (0 : Int).toNat) ((i_shl 1 (i_shl 1 (Sx11_.1 13 0 80))) - 1))) 179 0 ((Sx11_.1 13 0 83) % 12).toNat (Sx11_.1 13 0 80)) := gi_aI hIx20_ (show 0 ≤ (Sx11_.1 13 0 80) ∧ (Sx11_.1 13 0 80) ≤ 3 from ⟨by omega, by omega⟩)
      have hFx23_ : ai_fr (sx_W vw_366) S0_ (sm_aI (sm_aI Sx11_ 180 0 ((Sx11_.1 13 0 83) % 12).toNat (i_and (Sx11_.2.2.1 139 0 (0 : Int).toNat) ((i_shl 1 (i_shl 1 (Sx11_.1 13 0 80))) - 1))) 179 0 ((Sx11_.1 13 0 83) % 12).toNat (Sx11_.1 13 0 80)) := ai_fr_tr hFx21_ (ai_fr_aI rfl)
      refine sm_T_go 5 (c1 := (207, [some (.inr (.inr (some (13, 0)))), some (.inl t_), some (.inl ((Sx11_.1 13 0 83) % 12))], [.inl 1000, .inr (.inr (some (13, 0))), .inl ((Sx11_.1 13 0 83) % 12), .inr (.inr (some (181, 0)))], sm_aI (sm_aI Sx11_ 180 0 ((Sx11_.1 13 0 83) % 12).toNat (i_and (Sx11_.2.2.1 139 0 (0 : Int).toNat) ((i_shl 1 (i_shl 1 (Sx11_.1 13 0 80))) - 1))) 179 0 ((Sx11_.1 13 0 83) % 12).toNat (Sx11_.1 13 0 80))) rfl ?_
      refine sm_T_cal (d1 := 4) (Q1 := vq_365 1000 b_ n_ T_ (pb (y_6 b_ n_ K_ f_ p_) fun a_ => .inr a_.2.1) (sm_aI (sm_aI Sx11_ 180 0 ((Sx11_.1 13 0 83) % 12).toNat (i_and (Sx11_.2.2.1 139 0 (0 : Int).toNat) ((i_shl 1 (i_shl 1 (Sx11_.1 13 0 80))) - 1))) 179 0 ((Sx11_.1 13 0 83) % 12).toNat (Sx11_.1 13 0 80))) rfl rfl (by decide) (vc_365 1000 b_ n_ T_ (pb (y_6 b_ n_ K_ f_ p_) fun a_ => .inr a_.2.1) (sm_aI (sm_aI Sx11_ 180 0 ((Sx11_.1 13 0 83) % 12).toNat (i_and (Sx11_.2.2.1 139 0 (0 : Int).toNat) ((i_shl 1 (i_shl 1 (Sx11_.1 13 0 80))) - 1))) 179 0 ((Sx11_.1 13 0 83) % 12).toNat (Sx11_.1 13 0 80)) hIx22_ (by exact rtab_fr (w_ := ([], [179, 180], [])) t154_ (ai_fr_tr (ai_fr_aI rfl) (ai_fr_aI rfl)) rfl rfl rfl rfl rfl) (by exact rg_fr (w_ := ([], [179, 180], [])) g154_ (ai_fr_tr (ai_fr_aI rfl) (ai_fr_aI rfl)) rfl rfl rfl)) (fun u_ Sx24_ px27_ => ?_)
      obtain ⟨vx29_, rfl, hIx25_, hFx26_, px27_⟩ := px27_
      have hFx28_ : ai_fr (sx_W vw_366) S0_ Sx24_ := ai_fr_tr hFx23_ (fr_le hFx26_ rfl)
      have t207_ := rtab_fr (S_ := (sm_aI (sm_aI Sx11_ 180 0 ((Sx11_.1 13 0 83) % 12).toNat (i_and (Sx11_.2.2.1 139 0 (0 : Int).toNat) ((i_shl 1 (i_shl 1 (Sx11_.1 13 0 80))) - 1))) 179 0 ((Sx11_.1 13 0 83) % 12).toNat (Sx11_.1 13 0 80))) (rtab_fr (w_ := ([], [179, 180], [])) t154_ (ai_fr_tr (ai_fr_aI rfl) (ai_fr_aI rfl)) rfl rfl rfl rfl rfl) hFx26_ rfl rfl rfl rfl rfl
      have g207_ : rg b_ n_ T_ (pb (y_7 b_ n_ K_ f_ p_) fun a_ => .inr a_.2.1) Sx24_ := by have z_ := px27_.1; unfold y_7; cases hy_ : (y_6 b_ n_ K_ f_ p_) with | inl e_ => (rw [hy_] at z_; exact z_) | inr a_ => (rw [hy_] at z_; rw [pb_ir, pb_as]; exact z_)
      have row207_ : ∀ r_, p_nd b_ n_ 9 p_ = .inr r_ → rw_ b_ n_ T_ 178 83 K_ f_ Sx24_ := fun r_ hr_ => rw_fr (S_ := (sm_aI (sm_aI Sx11_ 180 0 ((Sx11_.1 13 0 83) % 12).toNat (i_and (Sx11_.2.2.1 139 0 (0 : Int).toNat) ((i_shl 1 (i_shl 1 (Sx11_.1 13 0 80))) - 1))) 179 0 ((Sx11_.1 13 0 83) % 12).toNat (Sx11_.1 13 0 80))) (rw_fr (w_ := ([], [179, 180], [])) (row154_ r_ hr_).1 (ai_fr_tr (ai_fr_aI rfl) (ai_fr_aI rfl)) rfl rfl) hFx26_ rfl rfl
      have v207_ := px27_.2.2
      have ar207_ := fr_arr (t := 181) (i := 0) hFx26_ rfl
      have dl207_ := fr_arr (t := 182) (i := 0) hFx26_ rfl
      have vv207_ : ∀ a_, (y_7 b_ n_ K_ f_ p_) = .inr a_ → vx29_ = a_.2.2 ∧ 1 ≤ a_.2.2 ∧ a_.2.2 ≤ 1000 := fun a_ ha_ => by obtain ⟨a6_, h1_, h2_⟩ := pb_inr ha_; obtain ⟨r_, h3_, h4_⟩ := pb_inr h2_; cases h4_; exact ⟨px27_.2.1 r_ (by rw [h1_]; exact h3_), ms_b (p_ := 0) h3_⟩
      have hnc207_ : Sx24_.1 13 0 83 = nc := (hFx26_.1 13 0 83 rfl).trans hnc_
      refine sm_T_iast (n := 12) rfl rfl (by omega) (by omega) ?_
      have hIx30_ : gi (sm_aI Sx24_ 181 0 ((Sx11_.1 13 0 83) % 12).toNat vx29_) := gi_aI hIx25_ (show (-2147483648) ≤ vx29_ ∧ vx29_ ≤ 2147483647 from ⟨by omega, by omega⟩)
      have hFx31_ : ai_fr (sx_W vw_366) S0_ (sm_aI Sx24_ 181 0 ((Sx11_.1 13 0 83) % 12).toNat vx29_) := ai_fr_tr hFx28_ (ai_fr_aI rfl)
      refine sm_T_go 5 (c1 := (219, [some (.inr (.inr (some (13, 0)))), some (.inl t_), some (.inl ((Sx11_.1 13 0 83) % 12))], [.inl 100, .inr (.inr (some (13, 0))), .inl ((Sx11_.1 13 0 83) % 12), .inr (.inr (some (182, 0)))], sm_aI Sx24_ 181 0 ((Sx11_.1 13 0 83) % 12).toNat vx29_)) rfl ?_
      refine sm_T_cal (d1 := 4) (Q1 := vq_365 100 b_ n_ T_ (pb (y_7 b_ n_ K_ f_ p_) fun a_ => .inr a_.2.1) (sm_aI Sx24_ 181 0 ((Sx11_.1 13 0 83) % 12).toNat vx29_)) rfl rfl (by decide) (vc_365 100 b_ n_ T_ (pb (y_7 b_ n_ K_ f_ p_) fun a_ => .inr a_.2.1) (sm_aI Sx24_ 181 0 ((Sx11_.1 13 0 83) % 12).toNat vx29_) hIx30_ (by exact rtab_fr (w_ := ([], [181], [])) t207_ (ai_fr_aI rfl) rfl rfl rfl rfl rfl) (by exact rg_fr (w_ := ([], [181], [])) g207_ (ai_fr_aI rfl) rfl rfl rfl)) (fun u_ Sx32_ px35_ => ?_)
      obtain ⟨vx37_, rfl, hIx33_, hFx34_, px35_⟩ := px35_
      have hFx36_ : ai_fr (sx_W vw_366) S0_ Sx32_ := ai_fr_tr hFx31_ (fr_le hFx34_ rfl)
      have t219_ := rtab_fr (S_ := (sm_aI Sx24_ 181 0 ((Sx11_.1 13 0 83) % 12).toNat vx29_)) (rtab_fr (w_ := ([], [181], [])) t207_ (ai_fr_aI rfl) rfl rfl rfl rfl rfl) hFx34_ rfl rfl rfl rfl rfl
      have g219_ : rg b_ n_ T_ (pb (y_8 b_ n_ K_ f_ p_) fun a_ => .inr a_.2.1) Sx32_ := by have z_ := px35_.1; unfold y_8; cases hy_ : (y_7 b_ n_ K_ f_ p_) with | inl e_ => (rw [hy_] at z_; exact z_) | inr a_ => (rw [hy_] at z_; rw [pb_ir, pb_as]; exact z_)
      have row219_ : ∀ r_, p_nd b_ n_ 9 p_ = .inr r_ → rw_ b_ n_ T_ 178 83 K_ f_ Sx32_ := fun r_ hr_ => rw_fr (S_ := (sm_aI Sx24_ 181 0 ((Sx11_.1 13 0 83) % 12).toNat vx29_)) (rw_fr (w_ := ([], [181], [])) (row207_ r_ hr_) (ai_fr_aI rfl) rfl rfl) hFx34_ rfl rfl
      have v219_ := px35_.2.2
      have ar219_ := fr_arr (t := 181) (i := 0) hFx34_ rfl
      have dl219_ := fr_arr (t := 182) (i := 0) hFx34_ rfl
      have vv219_ : ∀ a_, (y_8 b_ n_ K_ f_ p_) = .inr a_ → vx37_ = a_.2.2 ∧ 1 ≤ a_.2.2 ∧ a_.2.2 ≤ 100 := fun a_ ha_ => by obtain ⟨a6_, h1_, h2_⟩ := pb_inr ha_; obtain ⟨r_, h3_, h4_⟩ := pb_inr h2_; cases h4_; exact ⟨px35_.2.1 r_ (by rw [h1_]; exact h3_), ms_b (p_ := 0) h3_⟩
      have hnc219_ : Sx32_.1 13 0 83 = nc := (hFx34_.1 13 0 83 rfl).trans hnc207_
      refine sm_T_iast (n := 12) rfl rfl (by omega) (by omega) ?_
      have hIx38_ : gi (sm_aI Sx32_ 182 0 ((Sx11_.1 13 0 83) % 12).toNat vx37_) := gi_aI hIx33_ (show (-2147483648) ≤ vx37_ ∧ vx37_ ≤ 2147483647 from ⟨by omega, by omega⟩)
      have hFx39_ : ai_fr (sx_W vw_366) S0_ (sm_aI Sx32_ 182 0 ((Sx11_.1 13 0 83) % 12).toNat vx37_) := ai_fr_tr hFx36_ (ai_fr_aI rfl)
      refine sm_T_go 2 (c1 := (226, [some (.inr (.inr (some (13, 0)))), some (.inl t_), some (.inl ((Sx11_.1 13 0 83) % 12))], [.inl 59, .inr (.inr (some (13, 0)))], sm_aI Sx32_ 182 0 ((Sx11_.1 13 0 83) % 12).toNat vx37_)) rfl ?_
      refine sm_T_cal (d1 := 3) (Q1 := vq_300 59 b_ n_ T_ (pb (y_8 b_ n_ K_ f_ p_) fun a_ => .inr a_.2.1) (sm_aI Sx32_ 182 0 ((Sx11_.1 13 0 83) % 12).toNat vx37_)) rfl rfl (by decide) (vc_300 59 b_ n_ T_ (pb (y_8 b_ n_ K_ f_ p_) fun a_ => .inr a_.2.1) (sm_aI Sx32_ 182 0 ((Sx11_.1 13 0 83) % 12).toNat vx37_) hIx38_ (by exact rtab_fr (w_ := ([], [182], [])) t219_ (ai_fr_aI rfl) rfl rfl rfl rfl rfl) (by exact rg_fr (w_ := ([], [182], [])) g219_ (ai_fr_aI rfl) rfl rfl rfl) (by decide)) (fun u_ Sx40_ px43_ => ?_)
      obtain ⟨rfl, hIx41_, hFx42_, px43_⟩ := px43_
      have hFx44_ : ai_fr (sx_W vw_366) S0_ Sx40_ := ai_fr_tr hFx39_ (fr_le hFx42_ rfl)
      have g226_ : rg b_ n_ T_ (pb (y_9 b_ n_ K_ f_ p_) fun a_ => .inr a_.2) Sx40_ := rg_pb px43_ (fun a_ _ => by rw [pb_as]; exact pb_id.symm)
      have row226_ : ∀ r_, p_nd b_ n_ 9 p_ = .inr r_ → rw_ b_ n_ T_ 178 83 K_ f_ Sx40_ := fun r_ hr_ => rw_fr (S_ := (sm_aI Sx32_ 182 0 ((Sx11_.1 13 0 83) % 12).toNat vx37_)) (rw_fr (w_ := ([], [182], [])) (row219_ r_ hr_) (ai_fr_aI rfl) rfl rfl) hFx42_ rfl rfl
      have ar226_ := fr_arr (t := 181) (i := 0) hFx42_ rfl
      have dl226_ := fr_arr (t := 182) (i := 0) hFx42_ rfl
      have y98_ : ∀ a_, (y_9 b_ n_ K_ f_ p_) = .inr a_ → (y_8 b_ n_ K_ f_ p_) = .inr a_.1 ∧ (y_7 b_ n_ K_ f_ p_) = .inr a_.1.1 := fun a_ ha_ => by obtain ⟨a8_, i1_, j1_⟩ := pb_inr ha_; obtain ⟨z9_, j2_, j3_⟩ := pb_inr j1_; cases j3_; refine ⟨i1_, ?_⟩; obtain ⟨a7_, i2_, j4_⟩ := pb_inr i1_; obtain ⟨z8_, j5_, j6_⟩ := pb_inr j4_; cases j6_; exact i2_
      have hnc226_ : Sx40_.1 13 0 83 = nc := (hFx42_.1 13 0 83 rfl).trans hnc219_
      have nb226_ : 0 ≤ Sx40_.1 13 0 83 ∧ Sx40_.1 13 0 83 ≤ 12 := hIx41_.1 13 0 83 rfl
      have y91_ : ∀ a_, (y_9 b_ n_ K_ f_ p_) = .inr a_ → ∃ q_, p_nd b_ n_ 9 p_ = .inr q_ ∧ q_ = a_.1.1.1.1.1 ∧ ∃ r_, p_nn b_ n_ K_ f_ 12 q_ = .inr r_ := fun a_ ha_ => by obtain ⟨a8_, i1_, j1_⟩ := pb_inr ha_; obtain ⟨z9_, j2_, j3_⟩ := pb_inr j1_; cases j3_; obtain ⟨a7_, i2_, j4_⟩ := pb_inr i1_; obtain ⟨z8_, j5_, j6_⟩ := pb_inr j4_; cases j6_; obtain ⟨a6_, i3_, j7_⟩ := pb_inr i2_; obtain ⟨z7_, j8_, j9_⟩ := pb_inr j7_; cases j9_; obtain ⟨a5_, i4_, j10_⟩ := pb_inr i3_; obtain ⟨z6_, j11_, j12_⟩ := pb_inr j10_; cases j12_; obtain ⟨u_, h4_⟩ := y3_1 (y5_1 i4_); obtain ⟨h5_, r_, h6_⟩ := y2_1 h4_; exact ⟨_, h5_, rfl, r_, h6_⟩
      refine sm_T_go 4 (c1 := (235, [some (.inr (.inr (some (13, 0)))), some (.inl t_), some (.inl ((Sx11_.1 13 0 83) % 12))], [.inl t_, .inl ((Sx11_.1 13 0 83) % 12), .inr (.inr (some (178, 0)))], Sx40_)) rfl ?_
      refine sm_T_iast (n := 12) rfl rfl (by omega) (by omega) ?_
      have hIx45_ : gi (sm_aI Sx40_ 178 0 ((Sx11_.1 13 0 83) % 12).toNat t_) := gi_aI hIx41_ (show 0 ≤ t_ ∧ t_ ≤ 1280 from ⟨by omega, by omega⟩)
      have hFx46_ : ai_fr (sx_W vw_366) S0_ (sm_aI Sx40_ 178 0 ((Sx11_.1 13 0 83) % 12).toNat t_) := ai_fr_tr hFx44_ (ai_fr_aI rfl)
      have bx47_ : 0 ≤ Sx40_.1 13 0 83 ∧ Sx40_.1 13 0 83 ≤ 12 := hIx41_.1 13 0 83 rfl
      refine sm_T_go 4 (c1 := (242, [some (.inr (.inr (some (13, 0)))), some (.inl t_), some (.inl ((Sx11_.1 13 0 83) % 12))], [.inr (.inr (some (13, 0))), .inl (Sx40_.1 13 0 83), .inr (.inr (some (13, 0)))], sm_aI Sx40_ 178 0 ((Sx11_.1 13 0 83) % 12).toNat t_)) rfl ?_
      refine sm_T_cal (d1 := 0) (Q1 := vq_292  (sm_aI Sx40_ 178 0 ((Sx11_.1 13 0 83) % 12).toNat t_)) rfl rfl (by decide) (vc_292  (sm_aI Sx40_ 178 0 ((Sx11_.1 13 0 83) % 12).toNat t_) hIx45_ ) (fun u_ Sx48_ px51_ => ?_)
      obtain ⟨rfl, vx53_, rfl, px51_⟩ := px51_
      have e242_ := px51_
      refine sm_T_b0 (a := 0) (z := 7) rfl (fun cx54_ => ?_) (fun cx54_ => ?_)
      · have cx54_ : vx53_ = 0 := of_decide_eq_true cx54_
        have hz9_ := wr_if e242_ (by omega)
        refine sm_T_go 1 (c1 := (253, [some (.inr (.inr (some (13, 0)))), some (.inl t_), some (.inl ((Sx11_.1 13 0 83) % 12))], [.inl 0, .inl (Sx40_.1 13 0 83), .inr (.inr (some (13, 0)))], sm_aI Sx40_ 178 0 ((Sx11_.1 13 0 83) % 12).toNat t_)) rfl ?_
        refine sm_T_bin (w := (Sx40_.1 13 0 83)) rfl (bi_add (by omega) (by omega) (by omega)) ?_
        have hIx55_ : gi (sm_pI (sm_aI Sx40_ 178 0 ((Sx11_.1 13 0 83) % 12).toNat t_) 13 0 83 (Sx40_.1 13 0 83)) := gi_pI hIx45_ (show 0 ≤ (Sx40_.1 13 0 83) ∧ (Sx40_.1 13 0 83) ≤ 12 from ⟨by omega, by omega⟩)
        have hFx56_ : ai_fr (sx_W vw_366) S0_ (sm_pI (sm_aI Sx40_ 178 0 ((Sx11_.1 13 0 83) % 12).toNat t_) 13 0 83 (Sx40_.1 13 0 83)) := ai_fr_tr hFx46_ (ai_fr_pI rfl)
        refine sm_T_go 1 (c1 := (257, [some (.inr (.inr (some (13, 0)))), some (.inl t_), some (.inl ((Sx11_.1 13 0 83) % 12))], [], sm_pI (sm_aI Sx40_ 178 0 ((Sx11_.1 13 0 83) % 12).toNat t_) 13 0 83 (Sx40_.1 13 0 83))) rfl ?_
        refine sm_T_rv rfl ⟨_, _, rfl, rfl, hIx55_, hFx56_, ?_⟩
        refine ⟨?_, fun c_ hc_ => ?_⟩
        · rw [ce_y, pb_as]; exact rg_fr (w_ := ([(13, 83)], [178], [])) g226_ (ai_fr_tr (ai_fr_aI rfl) (ai_fr_pI rfl)) rfl rfl rfl
        · rw [ce_y] at hc_; obtain ⟨a8_, h8_, hc_⟩ := pb_inr hc_; cases hc_; first | (exfalso; rw [h8_] at g226_; exact hz9_ g226_.1) | (rw [ha9_] at h8_; cases h8_; refine ⟨⟨by rw [rf_eq]; push_cast; show _ = (K_ : Int) + 1; omega, fun j_ hj_ => ?_⟩, ?_⟩; (rw [rd_fa, rd_eq]; unfold n_up; by_cases z_ : j_ = K_; (rw [if_pos (by omega), if_pos z_]; show rtk b_ n_ T_ t_ a9_.1.1.1.1.1; rw [← hqe_]; exact tk9_); (rw [if_neg (by omega), if_neg z_]; exact row9_.2 j_ (by omega))); (exact cdt_up cd9_ (by omega) (by omega) (by omega) ar207_ dl207_ ar219_ dl219_ ar226_ dl226_ rfl rfl))
      · have cx54_ : ¬ (vx53_ = 0) := of_decide_eq_false cx54_
        have hz9_ := rt_if e242_ (by omega)
        obtain ⟨a9_, ha9_⟩ := rg_rt g226_ hz9_
        obtain ⟨q9_, hq9_, hqe_, r9_, hr9_⟩ := y91_ a9_ ha9_
        have row9_ := row226_ q9_ hq9_
        have cd9_ := (row154_ q9_ hq9_).2
        obtain ⟨y98a, y98b⟩ := y98_ a9_ ha9_
        have vv7_ := vv207_ _ y98b
        have vv8_ := vv219_ _ y98a
        have nn9_ := (p_nn_ok hr9_).1
        have nc9_ := row9_.1
        have tk9_ := tk_ q9_ (by rw [hq9_]; show p_du b_ n_ 1 q9_ = _; unfold p_du; rw [if_pos (p_nn_ok hr9_).2.1])
        refine sm_T_go 2 (c1 := (253, [some (.inr (.inr (some (13, 0)))), some (.inl t_), some (.inl ((Sx11_.1 13 0 83) % 12))], [.inl 1, .inl (Sx40_.1 13 0 83), .inr (.inr (some (13, 0)))], sm_aI Sx40_ 178 0 ((Sx11_.1 13 0 83) % 12).toNat t_)) rfl ?_
        refine sm_T_bin (w := (Sx40_.1 13 0 83) + 1) rfl (bi_add (by omega) (by omega) (by omega)) ?_
        have hIx57_ : gi (sm_pI (sm_aI Sx40_ 178 0 ((Sx11_.1 13 0 83) % 12).toNat t_) 13 0 83 ((Sx40_.1 13 0 83) + 1)) := gi_pI hIx45_ (show 0 ≤ (Sx40_.1 13 0 83) + 1 ∧ (Sx40_.1 13 0 83) + 1 ≤ 12 from ⟨by omega, by omega⟩)
        have hFx58_ : ai_fr (sx_W vw_366) S0_ (sm_pI (sm_aI Sx40_ 178 0 ((Sx11_.1 13 0 83) % 12).toNat t_) 13 0 83 ((Sx40_.1 13 0 83) + 1)) := ai_fr_tr hFx46_ (ai_fr_pI rfl)
        refine sm_T_go 1 (c1 := (257, [some (.inr (.inr (some (13, 0)))), some (.inl t_), some (.inl ((Sx11_.1 13 0 83) % 12))], [], sm_pI (sm_aI Sx40_ 178 0 ((Sx11_.1 13 0 83) % 12).toNat t_) 13 0 83 ((Sx40_.1 13 0 83) + 1))) rfl ?_
        refine sm_T_rv rfl ⟨_, _, rfl, rfl, hIx57_, hFx58_, ?_⟩
        refine ⟨?_, fun c_ hc_ => ?_⟩
        · rw [ce_y, pb_as]; exact rg_fr (w_ := ([(13, 83)], [178], [])) g226_ (ai_fr_tr (ai_fr_aI rfl) (ai_fr_pI rfl)) rfl rfl rfl
        · rw [ce_y] at hc_; obtain ⟨a8_, h8_, hc_⟩ := pb_inr hc_; cases hc_; first | (exfalso; rw [h8_] at g226_; exact hz9_ g226_.1) | (rw [ha9_] at h8_; cases h8_; refine ⟨⟨by rw [rf_eq]; push_cast; show _ = (K_ : Int) + 1; omega, fun j_ hj_ => ?_⟩, ?_⟩; (rw [rd_fa, rd_eq]; unfold n_up; by_cases z_ : j_ = K_; (rw [if_pos (by omega), if_pos z_]; show rtk b_ n_ T_ t_ a9_.1.1.1.1.1; rw [← hqe_]; exact tk9_); (rw [if_neg (by omega), if_neg z_]; exact row9_.2 j_ (by omega))); (exact cdt_up cd9_ (by omega) (by omega) (by omega) ar207_ dl207_ ar219_ dl219_ ar226_ dl226_ rfl rfl))
set_option maxHeartbeats 2000000 in
set_option maxRecDepth 20000 in
theorem vc_366 {sc_ : Nat × (Nat → Int)} (b_ : Nat → Int) (n_ : Nat) (T_ : Nat) (p_ : Nat) (K_ : Nat) (f_ : Nat → Nat) (S0_ : sm_S) (hI_ : gi S0_) (ht_ : rtab b_ n_ T_ S0_) (hx_ : rg b_ n_ T_ (.inr p_) S0_) (hmo_ : (S0_.1 13 0 27) = 2) (hrow : rwc b_ n_ T_ K_ f_ S0_) : sm_T (mt_P sc_) 8 366 (0, [some (.inr (.inr (some (13, 0)))), none, none], [], S0_) (fun r_ => ∃ u_ S1_, r_ = (.inl u_, S1_, 0) ∧ vq_366 b_ n_ T_ p_ K_ f_ S0_ u_ S1_) := by
  have hF_ : ai_fr (sx_W vw_366) S0_ S0_ := ai_fr_rf
  have le0_ := rg_le ht_ hx_
  have hn1_ := ht_.1
  refine sm_T_go 2 (c1 := (3, [some (.inr (.inr (some (13, 0)))), none, none], [.inl 7, .inr (.inr (some (13, 0)))], S0_)) rfl ?_
  refine sm_T_cal (d1 := 0) (Q1 := vq_296 7 b_ n_ T_ (.inr p_) S0_) rfl rfl (by decide) (vc_296 7 b_ n_ T_ (.inr p_) S0_ hI_ (by exact ht_) (by exact hx_) (by decide)) (fun u_ Sx1_ px4_ => ?_)
  obtain ⟨rfl, vx6_, rfl, px4_⟩ := px4_
  have e3_ := px4_.2 p_ rfl
  have r3_ := px4_.1
  obtain ⟨i0_, hi01_, hi02_⟩ := id hx_.2
  have ra0_ := rp_at ht_ hi02_
  have rk0_ := r_st_3 (lx_kd_r hi02_.2.2.1)
  refine sm_T_b0 (a := 1) (z := 12) rfl (fun cx7_ => ?_) (fun cx7_ => ?_)
  · have cx7_ : vx6_ ≠ 0 := of_decide_eq_true cx7_
    have k9_ : lx_kd b_ n_ p_ = 9 := by have := e3_.mp (by omega); omega
    have nd9_ : p_nd b_ n_ 9 p_ = p_ad b_ n_ p_ := if_pos k9_
    obtain ⟨x7_, hx7_, hx7b⟩ : ∃ x7_ : pE Nat, rg b_ n_ T_ x7_ _ ∧ x7_ = .inr p_ := ⟨_, hx_, rfl⟩
    have t7_ := ht_
    have row7_ := hrow
    refine sm_T_go 1 (c1 := (19, [some (.inr (.inr (some (13, 0)))), none, none], [.inr (.inr (some (13, 0)))], S0_)) rfl ?_
    refine sm_T_cal (d1 := 2) (Q1 := vq_297 b_ n_ T_ x7_ S0_) rfl rfl (by decide) (vc_297 b_ n_ T_ x7_ S0_ hI_ (by exact t7_) (by exact hx7_) (by (intro z_ e_; rw [hx7b] at e_; first | (cases e_; done) | (cases e_; rw [k9_]; decide)))) (fun u_ Sx8_ px11_ => ?_)
    obtain ⟨rfl, hIx9_, hFx10_, px11_⟩ := px11_
    have hFx12_ : ai_fr (sx_W vw_366) S0_ Sx8_ := ai_fr_tr hF_ (fr_le hFx10_ rfl)
    have z19_ := px11_.1
    rw [hx7b] at z19_
    have g19_ : rg b_ n_ T_ (p_nd b_ n_ 9 p_) Sx8_ := by rw [nd9_]; exact z19_
    have t19_ := rtab_fr t7_ hFx10_ rfl rfl rfl rfl rfl
    have row19_ : ∀ r_, p_nd b_ n_ 9 p_ = .inr r_ → rwc b_ n_ T_ K_ f_ Sx8_ := fun _ _ => rwc_fr row7_ hFx10_ rfl rfl rfl rfl
    refine sm_T_go 2 (c1 := (24, [some (.inr (.inr (some (13, 0)))), none, none], [.inl 1, .inr (.inr (some (13, 0)))], Sx8_)) rfl ?_
    refine sm_T_cal (d1 := 1) (Q1 := vq_299 1 b_ n_ T_ (p_nd b_ n_ 9 p_) Sx8_) rfl rfl (by decide) (vc_299 1 b_ n_ T_ (p_nd b_ n_ 9 p_) Sx8_ hIx9_ (by exact t19_) (by exact g19_) (by decide)) (fun u_ Sx13_ px16_ => ?_)
    obtain ⟨vx18_, rfl, hIx14_, hFx15_, px16_⟩ := px16_
    have hFx17_ : ai_fr (sx_W vw_366) S0_ Sx13_ := ai_fr_tr hFx12_ (fr_le hFx15_ rfl)
    have a23_ := px16_.1
    have g23_ : rg b_ n_ T_ (pb (p_nd b_ n_ 9 p_) (p_du b_ n_ 1)) Sx13_ := px16_.2
    have t23_ := rtab_fr t19_ hFx15_ rfl rfl rfl rfl rfl
    have at23_ := hFx15_.1 13 0 9 rfl
    have v23b : 0 ≤ vx18_ ∧ vx18_ ≤ 1280 := by rw [a23_, ← at23_]; exact hIx14_.1 13 0 9 rfl
    have rt23_ : ∀ r_, (pb (p_nd b_ n_ 9 p_) (p_du b_ n_ 1)) = .inr r_ → rtk b_ n_ T_ vx18_ r_ := by intro r_ hr_; rw [hr_] at g23_; obtain ⟨i3_, q1_, q2_⟩ := g23_.2; rw [show vx18_ = (i3_ : Int) by omega]; exact (rp_rtk t23_ q2_ (du_r hr_).2).1
    have row23_ : ∀ pq_, (p_nd b_ n_ 9 p_) = .inr pq_ → rwc b_ n_ T_ K_ f_ Sx13_ := fun pq_ hp_ => rwc_fr (row19_ pq_ hp_) hFx15_ rfl rfl rfl rfl
    refine sm_T_go 3 (c1 := (30, [some (.inr (.inr (some (13, 0)))), some (.inl vx18_), some (.inl 0)], [], Sx13_)) rfl ?_
    refine (vl_366 b_ n_ T_ p_ K_ f_ S0_ ht_ hx_ hmo_ hrow _).1 vx18_ 0 Sx13_ hIx14_ hFx17_ ⟨?_, ?_, ?_, ?_, ?_, trivial⟩ (Nat.lt_succ_self _)
    · omega
    · cases hq_ : (pb (p_nd b_ n_ 9 p_) (p_du b_ n_ 1)) with
      | inl e_ => left; rw [hq_] at g23_; exact ⟨e_, by unfold zn2; rw [hq_]; rfl, g23_⟩
      | inr q0_ => right; rw [hq_] at g23_; exact ⟨q0_, rfl, g23_, rfl, by omega⟩
    · omega
    · exact rt23_
    · exact row23_
  · have cx7_ : ¬ (vx6_ ≠ 0) := of_decide_eq_false cx7_
    have k9_ : lx_kd b_ n_ p_ ≠ 9 := fun z_ => by have := e3_.mpr (by omega); omega
    have nd9_ : p_nd b_ n_ 9 p_ = .inl (2, p_) := if_neg k9_
    have bx19_ : 0 ≤ S0_.1 13 0 9 ∧ S0_.1 13 0 9 ≤ 1280 := hI_.1 13 0 9 rfl
    refine sm_T_go 4 (c1 := (15, [some (.inr (.inr (some (13, 0)))), none, none], [.inl (S0_.1 13 0 9), .inl 2, .inr (.inr (some (13, 0)))], S0_)) rfl ?_
    refine sm_T_cal (d1 := 0) (Q1 := vq_293 2 (S0_.1 13 0 9) S0_) rfl rfl (by decide) (vc_293 2 (S0_.1 13 0 9) S0_ hI_ (by decide) (by omega)) (fun u_ Sx20_ px23_ => ?_)
    obtain ⟨rfl, hIx21_, hFx22_, px23_⟩ := px23_
    have hFx24_ : ai_fr (sx_W vw_366) S0_ Sx20_ := ai_fr_tr hF_ (fr_le hFx22_ rfl)
    have ex25_ : Sx20_.1 13 0 9 = S0_.1 13 0 9 := hFx22_.1 13 0 9 rfl
    have g14_ : rg b_ n_ T_ (.inl (2, p_)) Sx20_ := by rcases px23_ with z_ | z_; (exact absurd hx_.1 z_.1); (refine ⟨z_.2.1.trans (if_neg ?_), z_.2.2.trans ?_, by show (2 : Int) ≠ 0; decide⟩; (rw [hi01_, Int.toNat_natCast, ra0_.1]; exact rk0_.2.2.2.2.2); (rw [hi01_, Int.toNat_natCast]; exact ra0_.2.1))
    obtain ⟨x7_, hx7_, hx7b⟩ : ∃ x7_ : pE Nat, rg b_ n_ T_ x7_ Sx20_ ∧ x7_ = .inl (2, p_) := ⟨_, g14_, rfl⟩
    have t7_ := rtab_fr ht_ hFx22_ rfl rfl rfl rfl rfl
    have row7_ := rwc_fr hrow hFx22_ rfl rfl rfl rfl
    refine sm_T_go 1 (c1 := (19, [some (.inr (.inr (some (13, 0)))), none, none], [.inr (.inr (some (13, 0)))], Sx20_)) rfl ?_
    refine sm_T_cal (d1 := 2) (Q1 := vq_297 b_ n_ T_ x7_ Sx20_) rfl rfl (by decide) (vc_297 b_ n_ T_ x7_ Sx20_ hIx21_ (by exact t7_) (by exact hx7_) (by (intro z_ e_; rw [hx7b] at e_; first | (cases e_; done) | (cases e_; rw [k9_]; decide)))) (fun u_ Sx26_ px29_ => ?_)
    obtain ⟨rfl, hIx27_, hFx28_, px29_⟩ := px29_
    have hFx30_ : ai_fr (sx_W vw_366) S0_ Sx26_ := ai_fr_tr hFx24_ (fr_le hFx28_ rfl)
    have z19_ := px29_.1
    rw [hx7b] at z19_
    have g19_ : rg b_ n_ T_ (p_nd b_ n_ 9 p_) Sx26_ := by rw [nd9_]; exact z19_
    have t19_ := rtab_fr t7_ hFx28_ rfl rfl rfl rfl rfl
    have row19_ : ∀ r_, p_nd b_ n_ 9 p_ = .inr r_ → rwc b_ n_ T_ K_ f_ Sx26_ := fun _ _ => rwc_fr row7_ hFx28_ rfl rfl rfl rfl
    refine sm_T_go 2 (c1 := (24, [some (.inr (.inr (some (13, 0)))), none, none], [.inl 1, .inr (.inr (some (13, 0)))], Sx26_)) rfl ?_
    refine sm_T_cal (d1 := 1) (Q1 := vq_299 1 b_ n_ T_ (p_nd b_ n_ 9 p_) Sx26_) rfl rfl (by decide) (vc_299 1 b_ n_ T_ (p_nd b_ n_ 9 p_) Sx26_ hIx27_ (by exact t19_) (by exact g19_) (by decide)) (fun u_ Sx31_ px34_ => ?_)
    obtain ⟨vx36_, rfl, hIx32_, hFx33_, px34_⟩ := px34_
    have hFx35_ : ai_fr (sx_W vw_366) S0_ Sx31_ := ai_fr_tr hFx30_ (fr_le hFx33_ rfl)
    have a23_ := px34_.1
    have g23_ : rg b_ n_ T_ (pb (p_nd b_ n_ 9 p_) (p_du b_ n_ 1)) Sx31_ := px34_.2
    have t23_ := rtab_fr t19_ hFx33_ rfl rfl rfl rfl rfl
    have at23_ := hFx33_.1 13 0 9 rfl
    have v23b : 0 ≤ vx36_ ∧ vx36_ ≤ 1280 := by rw [a23_, ← at23_]; exact hIx32_.1 13 0 9 rfl
    have rt23_ : ∀ r_, (pb (p_nd b_ n_ 9 p_) (p_du b_ n_ 1)) = .inr r_ → rtk b_ n_ T_ vx36_ r_ := by intro r_ hr_; rw [hr_] at g23_; obtain ⟨i3_, q1_, q2_⟩ := g23_.2; rw [show vx36_ = (i3_ : Int) by omega]; exact (rp_rtk t23_ q2_ (du_r hr_).2).1
    have row23_ : ∀ pq_, (p_nd b_ n_ 9 p_) = .inr pq_ → rwc b_ n_ T_ K_ f_ Sx31_ := fun pq_ hp_ => rwc_fr (row19_ pq_ hp_) hFx33_ rfl rfl rfl rfl
    refine sm_T_go 3 (c1 := (30, [some (.inr (.inr (some (13, 0)))), some (.inl vx36_), some (.inl 0)], [], Sx31_)) rfl ?_
    refine (vl_366 b_ n_ T_ p_ K_ f_ S0_ ht_ hx_ hmo_ hrow _).1 vx36_ 0 Sx31_ hIx32_ hFx35_ ⟨?_, ?_, ?_, ?_, ?_, trivial⟩ (Nat.lt_succ_self _)
    · omega
    · cases hq_ : (pb (p_nd b_ n_ 9 p_) (p_du b_ n_ 1)) with
      | inl e_ => left; rw [hq_] at g23_; exact ⟨e_, by unfold zn2; rw [hq_]; rfl, g23_⟩
      | inr q0_ => right; rw [hq_] at g23_; exact ⟨q0_, rfl, g23_, rfl, by omega⟩
    · omega
    · exact rt23_
    · exact row23_
end
/-! 99.z4a -/
section
/-! the reference: free places; written by wip/p55/gen/vg -/
/-! M_.free -/
def vw_362l : sx_Wl := ([], [], [])
def vq_362l (k_ : Int) (S0_ : sm_S) (u_ : Option sm_V) (S1_ : sm_S) : Prop := S0_ = S1_ ∧ ∃ v_ : Int, u_ = some (.inl v_) ∧ ((v_ = -1 ∧ ∀ j_ : Nat, j_ < 3 → (S1_.2.2.1 183 0 (j_)) = 1) ∨ (∃ u_ : Nat, v_ = (u_ : Int) ∧ u_ < 3 ∧ (S1_.2.2.1 183 0 (u_)) = 0 ∧ ∀ j_ : Nat, j_ < u_ → (S1_.2.2.1 183 0 (j_)) = 1))
set_option maxHeartbeats 400000 in
theorem vl_362l {sc_ : Nat × (Nat → Int)} (k_ : Int) (S0_ : sm_S) (hk_ : k_ = 3) : ∀ nn_ : Nat, (∀ (i_ : Int) (S_ : sm_S), gi S_ → ai_fr (sx_W vw_362l) S0_ S_ → ((0 ≤ i_ ∧ i_ ≤ 3) ∧ (∀ j_ : Nat, j_ < i_.toNat → (S_.2.2.1 183 0 (j_)) = 1) ∧ (S_ = S0_) ∧ True) → ((20 - i_).toNat) < nn_ → sm_T (mt_P sc_) 0 362 (2, [some (.inr (.inr (some (183, 0)))), some (.inl k_), some (.inl i_)], [], S_) (fun r_ => ∃ u_ S1_, r_ = (.inl u_, S1_, 0) ∧ vq_362l k_ S0_ u_ S1_)) := by
  intro nn_
  induction nn_ with
  | zero => exact fun _ _ _ _ _ h_ => absurd h_ (Nat.not_lt_zero _)
  | succ nn_ ih_ =>
    rintro i_ S_ hI_ hF_ ⟨h0_, h1_, hS_, -⟩ hm_
    refine sm_T_go 2 (c1 := (4, [some (.inr (.inr (some (183, 0)))), some (.inl k_), some (.inl i_)], [.inl k_, .inl i_], S_)) rfl ?_
    refine sm_T_br (a := 3) (z := 17) rfl (fun cx1_ => ?_) (fun cx1_ => ?_)
    · have cx1_ : k_ ≤ i_ := of_decide_eq_true cx1_
      refine sm_T_go 1 (c1 := (22, [some (.inr (.inr (some (183, 0)))), some (.inl k_), some (.inl i_)], [.inl (-1)], S_)) rfl ?_
      refine sm_T_ri rfl ⟨_, _, rfl, (by first | rfl | exact hS_.symm), _, rfl, ?_⟩
      left
      refine ⟨rfl, fun j_ hj_ => ?_⟩
      exact h1_ j_ (by omega)
    · have cx1_ : ¬ (k_ ≤ i_) := of_decide_eq_false cx1_
      refine sm_T_go 2 (c1 := (9, [some (.inr (.inr (some (183, 0)))), some (.inl k_), some (.inl i_)], [.inl i_, .inr (.inr (some (183, 0)))], S_)) rfl ?_
      refine sm_T_zald (n := 3) rfl rfl (by omega) (by omega) ?_
      have bx2_ : 0 ≤ S_.2.2.1 183 0 i_.toNat ∧ S_.2.2.1 183 0 i_.toNat ≤ 1 := hI_.2 183 0 _
      refine sm_T_b0 (a := 1) (z := 5) rfl (fun cx3_ => ?_) (fun cx3_ => ?_)
      · have cx3_ : (S_.2.2.1 183 0 i_.toNat) ≠ 0 := of_decide_eq_true cx3_
        refine sm_T_inc (a := 2) (z := 1) (v := i_) (w := i_ + 1) rfl rfl (by omega) (by omega) (by omega) ?_
        refine sm_T_go 1 (c1 := (2, [some (.inr (.inr (some (183, 0)))), some (.inl k_), some (.inl (i_ + 1))], [], S_)) rfl ?_
        refine ih_ (i_ + 1) S_ hI_ hF_ ⟨?_, ?_, ?_, trivial⟩ ?_
        · omega
        · intro j_ hj_
          by_cases z_ : j_ = i_.toNat
          · rw [z_]; omega
          · exact h1_ j_ (by omega)
        · first | rfl | exact hS_
        · omega
      · have cx3_ : ¬ ((S_.2.2.1 183 0 i_.toNat) ≠ 0) := of_decide_eq_false cx3_
        refine sm_T_go 1 (c1 := (14, [some (.inr (.inr (some (183, 0)))), some (.inl k_), some (.inl i_)], [.inl i_], S_)) rfl ?_
        refine sm_T_ri rfl ⟨_, _, rfl, (by first | rfl | exact hS_.symm), _, rfl, ?_⟩
        right
        exact ⟨i_.toNat, by omega, by omega, by omega, h1_⟩
set_option maxHeartbeats 400000 in
theorem vc_362l {sc_ : Nat × (Nat → Int)} (k_ : Int) (S0_ : sm_S) (hI_ : gi S0_) (hk_ : k_ = 3) : sm_T (mt_P sc_) 0 362 (0, [some (.inr (.inr (some (183, 0)))), some (.inl k_), none], [], S0_) (fun r_ => ∃ u_ S1_, r_ = (.inl u_, S1_, 0) ∧ vq_362l k_ S0_ u_ S1_) := by
  have hF_ : ai_fr (sx_W vw_362l) S0_ S0_ := ai_fr_rf
  refine sm_T_go 2 (c1 := (2, [some (.inr (.inr (some (183, 0)))), some (.inl k_), some (.inl 0)], [], S0_)) rfl ?_
  refine (vl_362l k_ S0_ hk_ _) 0 S0_ hI_ hF_ ⟨?_, ?_, ?_, trivial⟩ (Nat.lt_succ_self _)
  · omega
  · (intro j_ hj_; exact absurd hj_ (Nat.not_lt_zero _))
  · first | rfl | exact hS_
end
/-! 99.z4b -/
section
/-! M_.free -/
def vw_362d : sx_Wl := ([], [], [])
def vq_362d (k_ : Int) (S0_ : sm_S) (u_ : Option sm_V) (S1_ : sm_S) : Prop := S0_ = S1_ ∧ ∃ v_ : Int, u_ = some (.inl v_) ∧ ((v_ = -1 ∧ ∀ j_ : Nat, j_ < 6 → (S1_.2.2.1 153 0 (j_)) = 1) ∨ (∃ u_ : Nat, v_ = (u_ : Int) ∧ u_ < 6 ∧ (S1_.2.2.1 153 0 (u_)) = 0 ∧ ∀ j_ : Nat, j_ < u_ → (S1_.2.2.1 153 0 (j_)) = 1))
set_option maxHeartbeats 400000 in
theorem vl_362d {sc_ : Nat × (Nat → Int)} (k_ : Int) (S0_ : sm_S) (hk_ : k_ = 6) : ∀ nn_ : Nat, (∀ (i_ : Int) (S_ : sm_S), gi S_ → ai_fr (sx_W vw_362d) S0_ S_ → ((0 ≤ i_ ∧ i_ ≤ 6) ∧ (∀ j_ : Nat, j_ < i_.toNat → (S_.2.2.1 153 0 (j_)) = 1) ∧ (S_ = S0_) ∧ True) → ((20 - i_).toNat) < nn_ → sm_T (mt_P sc_) 0 362 (2, [some (.inr (.inr (some (153, 0)))), some (.inl k_), some (.inl i_)], [], S_) (fun r_ => ∃ u_ S1_, r_ = (.inl u_, S1_, 0) ∧ vq_362d k_ S0_ u_ S1_)) := by
  intro nn_
  induction nn_ with
  | zero => exact fun _ _ _ _ _ h_ => absurd h_ (Nat.not_lt_zero _)
  | succ nn_ ih_ =>
    rintro i_ S_ hI_ hF_ ⟨h0_, h1_, hS_, -⟩ hm_
    refine sm_T_go 2 (c1 := (4, [some (.inr (.inr (some (153, 0)))), some (.inl k_), some (.inl i_)], [.inl k_, .inl i_], S_)) rfl ?_
    refine sm_T_br (a := 3) (z := 17) rfl (fun cx1_ => ?_) (fun cx1_ => ?_)
    · have cx1_ : k_ ≤ i_ := of_decide_eq_true cx1_
      refine sm_T_go 1 (c1 := (22, [some (.inr (.inr (some (153, 0)))), some (.inl k_), some (.inl i_)], [.inl (-1)], S_)) rfl ?_
      refine sm_T_ri rfl ⟨_, _, rfl, (by first | rfl | exact hS_.symm), _, rfl, ?_⟩
      left
      refine ⟨rfl, fun j_ hj_ => ?_⟩
      exact h1_ j_ (by omega)
    · have cx1_ : ¬ (k_ ≤ i_) := of_decide_eq_false cx1_
      refine sm_T_go 2 (c1 := (9, [some (.inr (.inr (some (153, 0)))), some (.inl k_), some (.inl i_)], [.inl i_, .inr (.inr (some (153, 0)))], S_)) rfl ?_
      refine sm_T_zald (n := 6) rfl rfl (by omega) (by omega) ?_
      have bx2_ : 0 ≤ S_.2.2.1 153 0 i_.toNat ∧ S_.2.2.1 153 0 i_.toNat ≤ 1 := hI_.2 153 0 _
      refine sm_T_b0 (a := 1) (z := 5) rfl (fun cx3_ => ?_) (fun cx3_ => ?_)
      · have cx3_ : (S_.2.2.1 153 0 i_.toNat) ≠ 0 := of_decide_eq_true cx3_
        refine sm_T_inc (a := 2) (z := 1) (v := i_) (w := i_ + 1) rfl rfl (by omega) (by omega) (by omega) ?_
        refine sm_T_go 1 (c1 := (2, [some (.inr (.inr (some (153, 0)))), some (.inl k_), some (.inl (i_ + 1))], [], S_)) rfl ?_
        refine ih_ (i_ + 1) S_ hI_ hF_ ⟨?_, ?_, ?_, trivial⟩ ?_
        · omega
        · intro j_ hj_
          by_cases z_ : j_ = i_.toNat
          · rw [z_]; omega
          · exact h1_ j_ (by omega)
        · first | rfl | exact hS_
        · omega
      · have cx3_ : ¬ ((S_.2.2.1 153 0 i_.toNat) ≠ 0) := of_decide_eq_false cx3_
        refine sm_T_go 1 (c1 := (14, [some (.inr (.inr (some (153, 0)))), some (.inl k_), some (.inl i_)], [.inl i_], S_)) rfl ?_
        refine sm_T_ri rfl ⟨_, _, rfl, (by first | rfl | exact hS_.symm), _, rfl, ?_⟩
        right
        exact ⟨i_.toNat, by omega, by omega, by omega, h1_⟩
set_option maxHeartbeats 400000 in
theorem vc_362d {sc_ : Nat × (Nat → Int)} (k_ : Int) (S0_ : sm_S) (hI_ : gi S0_) (hk_ : k_ = 6) : sm_T (mt_P sc_) 0 362 (0, [some (.inr (.inr (some (153, 0)))), some (.inl k_), none], [], S0_) (fun r_ => ∃ u_ S1_, r_ = (.inl u_, S1_, 0) ∧ vq_362d k_ S0_ u_ S1_) := by
  have hF_ : ai_fr (sx_W vw_362d) S0_ S0_ := ai_fr_rf
  refine sm_T_go 2 (c1 := (2, [some (.inr (.inr (some (153, 0)))), some (.inl k_), some (.inl 0)], [], S0_)) rfl ?_
  refine (vl_362d k_ S0_ hk_ _) 0 S0_ hI_ hF_ ⟨?_, ?_, ?_, trivial⟩ (Nat.lt_succ_self _)
  · omega
  · (intro j_ hj_; exact absurd hj_ (Nat.not_lt_zero _))
  · first | rfl | exact hS_
end
/-! 99.z4c -/
section
/-! M_.free -/
def vw_362c : sx_Wl := ([], [], [])
def vq_362c (k_ : Int) (S0_ : sm_S) (u_ : Option sm_V) (S1_ : sm_S) : Prop := S0_ = S1_ ∧ ∃ v_ : Int, u_ = some (.inl v_) ∧ ((v_ = -1 ∧ ∀ j_ : Nat, j_ < 4 → (S1_.2.2.1 222 0 (j_)) = 1) ∨ (∃ u_ : Nat, v_ = (u_ : Int) ∧ u_ < 4 ∧ (S1_.2.2.1 222 0 (u_)) = 0 ∧ ∀ j_ : Nat, j_ < u_ → (S1_.2.2.1 222 0 (j_)) = 1))
set_option maxHeartbeats 400000 in
theorem vl_362c {sc_ : Nat × (Nat → Int)} (k_ : Int) (S0_ : sm_S) (hk_ : k_ = 4) : ∀ nn_ : Nat, (∀ (i_ : Int) (S_ : sm_S), gi S_ → ai_fr (sx_W vw_362c) S0_ S_ → ((0 ≤ i_ ∧ i_ ≤ 4) ∧ (∀ j_ : Nat, j_ < i_.toNat → (S_.2.2.1 222 0 (j_)) = 1) ∧ (S_ = S0_) ∧ True) → ((20 - i_).toNat) < nn_ → sm_T (mt_P sc_) 0 362 (2, [some (.inr (.inr (some (222, 0)))), some (.inl k_), some (.inl i_)], [], S_) (fun r_ => ∃ u_ S1_, r_ = (.inl u_, S1_, 0) ∧ vq_362c k_ S0_ u_ S1_)) := by
  intro nn_
  induction nn_ with
  | zero => exact fun _ _ _ _ _ h_ => absurd h_ (Nat.not_lt_zero _)
  | succ nn_ ih_ =>
    rintro i_ S_ hI_ hF_ ⟨h0_, h1_, hS_, -⟩ hm_
    refine sm_T_go 2 (c1 := (4, [some (.inr (.inr (some (222, 0)))), some (.inl k_), some (.inl i_)], [.inl k_, .inl i_], S_)) rfl ?_
    refine sm_T_br (a := 3) (z := 17) rfl (fun cx1_ => ?_) (fun cx1_ => ?_)
    · have cx1_ : k_ ≤ i_ := of_decide_eq_true cx1_
      refine sm_T_go 1 (c1 := (22, [some (.inr (.inr (some (222, 0)))), some (.inl k_), some (.inl i_)], [.inl (-1)], S_)) rfl ?_
      refine sm_T_ri rfl ⟨_, _, rfl, (by first | rfl | exact hS_.symm), _, rfl, ?_⟩
      left
      refine ⟨rfl, fun j_ hj_ => ?_⟩
      exact h1_ j_ (by omega)
    · have cx1_ : ¬ (k_ ≤ i_) := of_decide_eq_false cx1_
      refine sm_T_go 2 (c1 := (9, [some (.inr (.inr (some (222, 0)))), some (.inl k_), some (.inl i_)], [.inl i_, .inr (.inr (some (222, 0)))], S_)) rfl ?_
      refine sm_T_zald (n := 4) rfl rfl (by omega) (by omega) ?_
      have bx2_ : 0 ≤ S_.2.2.1 222 0 i_.toNat ∧ S_.2.2.1 222 0 i_.toNat ≤ 1 := hI_.2 222 0 _
      refine sm_T_b0 (a := 1) (z := 5) rfl (fun cx3_ => ?_) (fun cx3_ => ?_)
      · have cx3_ : (S_.2.2.1 222 0 i_.toNat) ≠ 0 := of_decide_eq_true cx3_
        refine sm_T_inc (a := 2) (z := 1) (v := i_) (w := i_ + 1) rfl rfl (by omega) (by omega) (by omega) ?_
        refine sm_T_go 1 (c1 := (2, [some (.inr (.inr (some (222, 0)))), some (.inl k_), some (.inl (i_ + 1))], [], S_)) rfl ?_
        refine ih_ (i_ + 1) S_ hI_ hF_ ⟨?_, ?_, ?_, trivial⟩ ?_
        · omega
        · intro j_ hj_
          by_cases z_ : j_ = i_.toNat
          · rw [z_]; omega
          · exact h1_ j_ (by omega)
        · first | rfl | exact hS_
        · omega
      · have cx3_ : ¬ ((S_.2.2.1 222 0 i_.toNat) ≠ 0) := of_decide_eq_false cx3_
        refine sm_T_go 1 (c1 := (14, [some (.inr (.inr (some (222, 0)))), some (.inl k_), some (.inl i_)], [.inl i_], S_)) rfl ?_
        refine sm_T_ri rfl ⟨_, _, rfl, (by first | rfl | exact hS_.symm), _, rfl, ?_⟩
        right
        exact ⟨i_.toNat, by omega, by omega, by omega, h1_⟩
set_option maxHeartbeats 400000 in
theorem vc_362c {sc_ : Nat × (Nat → Int)} (k_ : Int) (S0_ : sm_S) (hI_ : gi S0_) (hk_ : k_ = 4) : sm_T (mt_P sc_) 0 362 (0, [some (.inr (.inr (some (222, 0)))), some (.inl k_), none], [], S0_) (fun r_ => ∃ u_ S1_, r_ = (.inl u_, S1_, 0) ∧ vq_362c k_ S0_ u_ S1_) := by
  have hF_ : ai_fr (sx_W vw_362c) S0_ S0_ := ai_fr_rf
  refine sm_T_go 2 (c1 := (2, [some (.inr (.inr (some (222, 0)))), some (.inl k_), some (.inl 0)], [], S0_)) rfl ?_
  refine (vl_362c k_ S0_ hk_ _) 0 S0_ hI_ hF_ ⟨?_, ?_, ?_, trivial⟩ (Nat.lt_succ_self _)
  · omega
  · (intro j_ hj_; exact absurd hj_ (Nat.not_lt_zero _))
  · first | rfl | exact hS_
end
/-! 99.z5a -/
section
/-! the reference: libraries; written by wip/p55/gen/vg -/

/-! a_ library told -/
def lX (b_ : Nat → Int) (n_ T_ : Nat) (S_ : sm_S) : Prop := ∃ e_, p_li b_ n_ = .inl e_ ∧ rg b_ n_ T_ (.inl e_) S_
def lR (b_ : Nat → Int) (n_ T_ : Nat) (S_ : sm_S) : Prop := ∃ K_ f_ L_ q_, rg b_ n_ T_ (.inr q_) S_ ∧ rwc b_ n_ T_ K_ f_ S_ ∧ ((K_ = 0 ∨ lx_kd b_ n_ q_ ≠ 0) → p_li b_ n_ = p_lb b_ n_ (13 - K_) K_ f_ L_ q_) ∧ (K_ ≠ 0 → lx_kd b_ n_ q_ = 0 → p_li b_ n_ = .inr (K_, L_))
def lE (b_ : Nat → Int) (n_ : Nat) (S_ : sm_S) : Prop := ∃ K_ L_, p_li b_ n_ = .inr (K_, L_) ∧ S_.1 13 0 10 = 0 ∧ S_.1 13 0 83 = (K_ : Int) ∧ c_dt K_ S_
def lW (b_ : Nat → Int) (n_ : Nat) (S_ : sm_S) : Prop := ∃ e_, p_li b_ n_ = .inl e_ ∧ S_.1 13 0 10 = e_.1 ∧ S_.1 13 0 11 = (e_.2 : Int) ∧ e_.1 ≠ 0
def r_mc (S_ : sm_S) : Nat := if S_.1 13 0 10 ≠ 0 then 1 else (20 - S_.1 13 0 83).toNat
theorem rmc_b {S_ : sm_S} (hI_ : gi S_) : 1 ≤ r_mc S_ ∧ r_mc S_ ≤ 20 := by
  have z_ : 0 ≤ S_.1 13 0 83 ∧ S_.1 13 0 83 ≤ 12 := hI_.1 13 0 83 rfl
  unfold r_mc
  split <;> omega
theorem lb_u {b_ : Nat → Int} {n_ K_ p_ : Nat} {f_ : Nat → Nat} {L_ : pL} (hK_ : K_ ≤ 12) : p_lb b_ n_ (13 - K_) K_ f_ L_ p_ = pb (p_ce b_ n_ K_ f_ p_) (k_lb b_ n_ (12 - K_) K_ f_ L_) := by
  rw [show 13 - K_ = (12 - K_) + 1 by omega]
  rfl
theorem lR_st {b_ : Nat → Int} {n_ T_ K_ q_ : Nat} {f_ : Nat → Nat} {L_ : pL} {S_ : sm_S} (hK_ : K_ ≤ 12) (hX_ : p_li b_ n_ = p_lb b_ n_ (13 - K_) K_ f_ L_ q_) (g_ : rg b_ n_ T_ (pb (p_ce b_ n_ K_ f_ q_) fun c_ => .inr c_.2.2.2.2.2) S_) (hr_ : ∀ c_, p_ce b_ n_ K_ f_ q_ = .inr c_ → rwc b_ n_ T_ (K_ + 1) (n_up f_ K_ c_.1) S_) : lX b_ n_ T_ S_ ∨ lR b_ n_ T_ S_ := by
  rw [lb_u hK_] at hX_
  cases hc_ : p_ce b_ n_ K_ f_ q_ with
  | inl e_ => rw [hc_] at hX_ g_; left; exact ⟨e_, hX_, g_⟩
  | inr c_ =>
    rw [hc_] at hX_ g_
    right
    refine ⟨K_ + 1, n_up f_ K_ c_.1, l_up L_ K_ c_, c_.2.2.2.2.2, g_, hr_ c_ hc_, fun z_ => ?_, fun _ z_ => ?_⟩
    · rw [hX_, show 13 - (K_ + 1) = 12 - K_ by omega]
      show (if lx_kd b_ n_ c_.2.2.2.2.2 = 0 then _ else _) = _
      rw [if_neg (by rcases z_ with z_ | z_; omega; exact z_)]
    · rw [hX_]
      show (if lx_kd b_ n_ c_.2.2.2.2.2 = 0 then _ else _) = _
      rw [if_pos z_]
theorem lR_k {b_ : Nat → Int} {n_ T_ : Nat} {S_ : sm_S} (h_ : lR b_ n_ T_ S_) (h5_ : S_.2.2.1 119 0 (S_.1 13 0 9).toNat = 5) (ht_ : rtab b_ n_ T_ S_) (hk_ : S_.1 13 0 83 ≠ 0) : lE b_ n_ S_ := by
  obtain ⟨K_, f_, L_, q_, g_, hr_, -, h2_⟩ := h_
  obtain ⟨i_, z1_, z2_⟩ := g_.2
  have ra_ := (rp_at ht_ z2_).1
  rw [show (S_.1 13 0 9).toNat = i_ by omega, ra_] at h5_
  have k0_ : lx_kd b_ n_ q_ = 0 := by
    unfold r_st r_so at h5_
    by_cases y_ : lx_kd b_ n_ q_ = 0
    · exact y_
    · exfalso
      rw [if_neg y_] at h5_
      split at h5_
      · omega
      · split at h5_
        · omega
        · split at h5_
          · omega
          · split at h5_ <;> omega
  have c1_ := hr_.1.1
  exact ⟨K_, L_, h2_ (by omega) k0_, g_.1, c1_, hr_.2⟩
theorem lR_n {b_ : Nat → Int} {n_ T_ : Nat} {S_ : sm_S} (h_ : lR b_ n_ T_ S_) (ht_ : rtab b_ n_ T_ S_) (h5_ : S_.1 13 0 83 = 0 ∨ S_.2.2.1 119 0 (S_.1 13 0 9).toNat ≠ 5) : ∃ K_ f_ L_ q_, rg b_ n_ T_ (.inr q_) S_ ∧ rwc b_ n_ T_ K_ f_ S_ ∧ p_li b_ n_ = p_lb b_ n_ (13 - K_) K_ f_ L_ q_ := by
  obtain ⟨K_, f_, L_, q_, g_, hr_, h1_, -⟩ := h_
  refine ⟨K_, f_, L_, q_, g_, hr_, h1_ ?_⟩
  have c1_ := hr_.1.1
  rcases h5_ with z_ | z_
  · left; omega
  · right
    intro y_
    apply z_
    obtain ⟨i_, z1_, z2_⟩ := g_.2
    have ra_ := (rp_at ht_ z2_).1
    rw [show (S_.1 13 0 9).toNat = i_ by omega, ra_, y_]
    rfl
theorem lR_0 {b_ : Nat → Int} {n_ T_ : Nat} {S_ : sm_S} (hz_ : S_.1 13 0 10 = 0) (ha_ : S_.1 13 0 9 = 0) (hn_ : S_.1 13 0 83 = 0) (hp_ : rp b_ n_ T_ 0 (lx_k b_ n_ 0)) : lR b_ n_ T_ S_ := by
  refine ⟨0, f_0, fun _ => (0, 0, 0, 0), lx_k b_ n_ 0, ⟨hz_, 0, ha_, hp_⟩, ⟨⟨hn_, fun j_ hj_ => absurd hj_ (Nat.not_lt_zero _)⟩, fun k_ hk_ => absurd hk_ (Nat.not_lt_zero _)⟩, fun _ => ?_, fun z_ => absurd rfl z_⟩
  unfold p_li
  rw [if_neg hp_.2.2.1]
/-! M_.library -/
def vw_367 : sx_Wl := ([(13, 0), (13, 2), (13, 3), (13, 9), (13, 10), (13, 11), (13, 27), (13, 32), (13, 33), (13, 34), (13, 79), (13, 80), (13, 83)], [119, 120, 121, 122, 123, 136, 137, 138, 139, 177, 178, 179, 180, 181, 182, 183, 184, 185, 186, 187, 188], [])
def vq_367 (b_ : Nat → Int) (n_ : Nat) (S0_ : sm_S) (u_ : Option sm_V) (S1_ : sm_S) : Prop := ∃ v_ : Int, u_ = some (.inl v_) ∧ gi S1_ ∧ ai_fr (sx_W vw_367) S0_ S1_ ∧ (((S1_.1 13 0 0) = 1 ∧ (∀ j_ : Nat, j_ < 3 → (S0_.2.2.1 183 0 (j_)) = 1) ∧ (S1_.1 13 0 2) = (S0_.1 13 0 2) ∧ ∀ j_ : Nat, (S1_.2.2.1 183 0 (j_)) = (S0_.2.2.1 183 0 (j_))) ∨ ((S1_.1 13 0 0) = 0 ∧ ∃ sl_ : Nat, sl_ < 3 ∧ (S0_.2.2.1 183 0 (sl_)) = 0 ∧ (∀ j_ : Nat, j_ < sl_ → (S0_.2.2.1 183 0 (j_)) = 1) ∧ (S1_.1 13 0 2) = 0 ∧ ((∃ e_, p_li b_ n_ = .inl e_ ∧ v_ = -1 - (e_.2 : Int) ∧ (S1_.1 13 0 79) = e_.1 ∧ ∀ j_ : Nat, (S1_.2.2.1 183 0 (j_)) = (S0_.2.2.1 183 0 (j_))) ∨ ((∃ r_, p_li b_ n_ = .inr r_) ∧ v_ = (sl_ : Int) ∧ (S1_.1 13 0 79) = 0 ∧ ∀ j_ : Nat, (S1_.2.2.1 183 0 (j_)) = if j_ = sl_ then 1 else (S0_.2.2.1 183 0 (j_))))))
set_option maxHeartbeats 2000000 in
set_option maxRecDepth 20000 in
theorem vl_367 {sc_ : Nat × (Nat → Int)} (b_ : Nat → Int) (n_ : Nat) (S0_ : sm_S) (hb_ : S0_.2.2.1 118 0 = b_) (hn_ : (S0_.1 13 0 2) = (n_ : Int)) (hn1_ : n_ ≤ 1280) : ∀ nn_ : Nat, (∀ (sv_ : Int) (S_ : sm_S), gi S_ → ai_fr (sx_W vw_367) S0_ S_ → ((∃ T_, rtab b_ n_ T_ S_ ∧ (lX b_ n_ T_ S_ ∨ lR b_ n_ T_ S_)) ∧ (0 ≤ sv_ ∧ sv_ < 3 ∧ S0_.2.2.1 183 0 sv_.toNat = 0 ∧ ∀ j_ : Nat, j_ < sv_.toNat → S0_.2.2.1 183 0 j_ = 1) ∧ ((S_.1 13 0 27) = 2) ∧ ((S_.1 13 0 0) = 0) ∧ (S_.2.2.1 183 0 = S0_.2.2.1 183 0) ∧ True) → (r_mc S_ + 100) < nn_ → sm_T (mt_P sc_) 9 367 (65, [some (.inr (.inr (some (13, 0)))), some (.inl sv_), none], [], S_) (fun r_ => ∃ u_ S1_, r_ = (.inl u_, S1_, 0) ∧ vq_367 b_ n_ S0_ u_ S1_)) ∧ (∀ (sv_ : Int) (S_ : sm_S), gi S_ → ai_fr (sx_W vw_367) S0_ S_ → ((lW b_ n_ S_ ∨ lE b_ n_ S_) ∧ (0 ≤ sv_ ∧ sv_ < 3 ∧ S0_.2.2.1 183 0 sv_.toNat = 0 ∧ ∀ j_ : Nat, j_ < sv_.toNat → S0_.2.2.1 183 0 j_ = 1) ∧ ((S_.1 13 0 0) = 0) ∧ (S_.2.2.1 183 0 = S0_.2.2.1 183 0) ∧ True) → ((90 : Nat)) < nn_ → sm_T (mt_P sc_) 9 367 (99, [some (.inr (.inr (some (13, 0)))), some (.inl sv_), none], [], S_) (fun r_ => ∃ u_ S1_, r_ = (.inl u_, S1_, 0) ∧ vq_367 b_ n_ S0_ u_ S1_)) ∧ (∀ (sv_ : Int) (k_ : Int) (S_ : sm_S), gi S_ → ai_fr (sx_W vw_367) S0_ S_ → ((0 ≤ k_ ∧ k_ ≤ 12) ∧ (0 ≤ sv_ ∧ sv_ < 3 ∧ S0_.2.2.1 183 0 sv_.toNat = 0 ∧ ∀ j_ : Nat, j_ < sv_.toNat → S0_.2.2.1 183 0 j_ = 1) ∧ ((S_.1 13 0 0) = 0) ∧ ((S_.1 13 0 2) = 0) ∧ ((S_.1 13 0 79) = 0) ∧ (∃ r_, p_li b_ n_ = .inr r_) ∧ (∀ j_ : Nat, S_.2.2.1 183 0 j_ = if j_ = sv_.toNat then 1 else S0_.2.2.1 183 0 j_) ∧ (c_dt ((S_.1 13 0 83)).toNat S_) ∧ True) → ((20 - k_).toNat) < nn_ → sm_T (mt_P sc_) 9 367 (145, [some (.inr (.inr (some (13, 0)))), some (.inl sv_), some (.inl k_)], [], S_) (fun r_ => ∃ u_ S1_, r_ = (.inl u_, S1_, 0) ∧ vq_367 b_ n_ S0_ u_ S1_)) := by
  intro nn_
  induction nn_ with
  | zero => exact ⟨fun _ _ _ _ _ h_ => absurd h_ (Nat.not_lt_zero _), fun _ _ _ _ _ h_ => absurd h_ (Nat.not_lt_zero _), fun _ _ _ _ _ _ h_ => absurd h_ (Nat.not_lt_zero _)⟩
  | succ nn_ ih_ =>
    refine ⟨?_, ?_, ?_⟩
    · rintro sv_ S_ hI_ hF_ ⟨h1_, sb_, mo65_, cd65_, th65_, -⟩ hm_
      obtain ⟨T_, t65_, h1_⟩ := h1_
      refine sm_T_go 1 (c1 := (66, [some (.inr (.inr (some (13, 0)))), some (.inl sv_), none], [.inr (.inr (some (13, 0)))], S_)) rfl ?_
      refine sm_T_cal (d1 := 0) (Q1 := vq_292  S_) rfl rfl (by decide) (vc_292  S_ hI_ ) (fun u_ Sx1_ px4_ => ?_)
      obtain ⟨rfl, vx6_, rfl, px4_⟩ := px4_
      have e66_ := px4_
      refine sm_T_b0 (a := 0) (z := 30) rfl (fun cx7_ => ?_) (fun cx7_ => ?_)
      · have cx7_ : vx6_ = 0 := of_decide_eq_true cx7_
        have hz_ := wr_if e66_ (by omega)
        refine sm_T_go 0 (c1 := (99, [some (.inr (.inr (some (13, 0)))), some (.inl sv_), none], [], S_)) rfl ?_
        refine ih_.2.1 sv_ S_ hI_ hF_ ⟨?_, ?_, ?_, ?_, trivial⟩ ?_
        · first | (right; exact hE_) | (left; rcases h1_ with ⟨e_, z1_, z2_⟩ | ⟨K_, f_, L_, q_, z1_, z2_⟩; (exact ⟨e_, z1_, z2_.1, z2_.2.1, z2_.2.2⟩); (exact absurd z1_.1 hz_))
        · exact sb_
        · exact cd65_
        · exact th65_
        · omega
      · have cx7_ : ¬ (vx6_ = 0) := of_decide_eq_false cx7_
        have hz_ := rt_if e66_ (by omega)
        have hR_ : lR b_ n_ T_ S_ := by rcases h1_ with ⟨e_, z1_, z2_⟩ | z_; (exact absurd (z2_.1.symm.trans hz_) z2_.2.2); exact z_
        have bx8_ : 0 ≤ S_.1 13 0 83 ∧ S_.1 13 0 83 ≤ 12 := hI_.1 13 0 83 rfl
        refine sm_T_go 2 (c1 := (76, [some (.inr (.inr (some (13, 0)))), some (.inl sv_), none], [.inl (S_.1 13 0 83)], S_)) rfl ?_
        refine sm_T_b0 (a := 0) (z := 16) rfl (fun cx9_ => ?_) (fun cx9_ => ?_)
        · have cx9_ : (S_.1 13 0 83) = 0 := of_decide_eq_true cx9_
          obtain ⟨K1_, f1_, L1_, q1_, g1_, rw1_, hX1_⟩ := lR_n hR_ t65_ (Or.inl (by omega))
          have rw1a := rw1_.1.1
          refine sm_T_go 1 (c1 := (93, [some (.inr (.inr (some (13, 0)))), some (.inl sv_), none], [.inr (.inr (some (13, 0)))], S_)) rfl ?_
          refine sm_T_cal (d1 := 8) (Q1 := vq_366 b_ n_ T_ q1_ K1_ f1_ S_) rfl rfl (by decide) (vc_366 b_ n_ T_ q1_ K1_ f1_ S_ hI_ (by exact t65_) (by exact g1_) (by exact mo65_) (by exact rw1_)) (fun u_ Sx10_ px13_ => ?_)
          obtain ⟨rfl, hIx11_, hFx12_, px13_⟩ := px13_
          have hFx14_ : ai_fr (sx_W vw_367) S0_ Sx10_ := ai_fr_tr hF_ (fr_le hFx12_ rfl)
          have e93_ := px13_
          have t93_ := rtab_fr t65_ hFx12_ rfl rfl rfl rfl rfl
          have mo93_ := (hFx12_.1 13 0 27 rfl).trans mo65_
          have cd93_ := (hFx12_.1 13 0 0 rfl).trans cd65_
          have th93_ := (fr_arr (t := 183) (i := 0) hFx12_ rfl).trans th65_
          have nb93_ : 0 ≤ S_.1 13 0 83 ∧ S_.1 13 0 83 ≤ 12 := hI_.1 13 0 83 rfl
          have st93_ := lR_st (by omega) hX1_ e93_.1 e93_.2
          have nc93_ : Sx10_.1 13 0 10 = 0 → Sx10_.1 13 0 83 = (K1_ : Int) + 1 := fun z_ => by cases hc_ : p_ce b_ n_ K1_ f1_ q1_ with | inl e_ => (have y_ := e93_.1; rw [hc_] at y_; exact absurd (y_.1.symm.trans z_) y_.2.2) | inr c_ => (have y_ := (e93_.2 c_ hc_).1.1; rw [y_]; push_cast; rfl)
          refine sm_T_go 1 (c1 := (65, [some (.inr (.inr (some (13, 0)))), some (.inl sv_), none], [], Sx10_)) rfl ?_
          refine ih_.1 sv_ Sx10_ hIx11_ hFx14_ ⟨?_, ?_, ?_, ?_, ?_, trivial⟩ ?_
          · exact ⟨T_, t93_, st93_⟩
          · exact sb_
          · exact mo93_
          · exact cd93_
          · exact th93_
          · (have z_ : r_mc S_ = (20 - S_.1 13 0 83).toNat := if_neg (by rw [hz_]; exact fun y_ => y_ rfl)); unfold r_mc; split; omega; (rename_i gg_; have w_ := nc93_ (Decidable.byContradiction gg_); omega)
        · have cx9_ : ¬ ((S_.1 13 0 83) = 0) := of_decide_eq_false cx9_
          have bx15_ : 0 ≤ S_.1 13 0 9 ∧ S_.1 13 0 9 ≤ 1280 := hI_.1 13 0 9 rfl
          refine sm_T_go 4 (c1 := (87, [some (.inr (.inr (some (13, 0)))), some (.inl sv_), none], [.inl (S_.1 13 0 9), .inr (.inr (some (119, 0)))], S_)) rfl ?_
          refine sm_T_bald (n := 65537) rfl rfl (by omega) (by omega) ?_
          have bx16_ : (-128) ≤ S_.2.2.1 119 0 (S_.1 13 0 9).toNat ∧ S_.2.2.1 119 0 (S_.1 13 0 9).toNat ≤ 127 := hI_.2 119 0 _
          refine sm_T_go 1 (c1 := (89, [some (.inr (.inr (some (13, 0)))), some (.inl sv_), none], [.inl 5, .inl (S_.2.2.1 119 0 (S_.1 13 0 9).toNat)], S_)) rfl ?_
          refine sm_T_br (a := 0) (z := 10) rfl (fun cx17_ => ?_) (fun cx17_ => ?_)
          · have cx17_ : (S_.2.2.1 119 0 (S_.1 13 0 9).toNat) = 5 := of_decide_eq_true cx17_
            have hE_ := lR_k hR_ (by omega) t65_ (by omega)
            refine sm_T_go 0 (c1 := (99, [some (.inr (.inr (some (13, 0)))), some (.inl sv_), none], [], S_)) rfl ?_
            refine ih_.2.1 sv_ S_ hI_ hF_ ⟨?_, ?_, ?_, ?_, trivial⟩ ?_
            · first | (right; exact hE_) | (left; rcases h1_ with ⟨e_, z1_, z2_⟩ | ⟨K_, f_, L_, q_, z1_, z2_⟩; (exact ⟨e_, z1_, z2_.1, z2_.2.1, z2_.2.2⟩); (exact absurd z1_.1 hz_))
            · exact sb_
            · exact cd65_
            · exact th65_
            · omega
          · have cx17_ : ¬ ((S_.2.2.1 119 0 (S_.1 13 0 9).toNat) = 5) := of_decide_eq_false cx17_
            obtain ⟨K1_, f1_, L1_, q1_, g1_, rw1_, hX1_⟩ := lR_n hR_ t65_ (Or.inr (by omega))
            have rw1a := rw1_.1.1
            refine sm_T_go 1 (c1 := (93, [some (.inr (.inr (some (13, 0)))), some (.inl sv_), none], [.inr (.inr (some (13, 0)))], S_)) rfl ?_
            refine sm_T_cal (d1 := 8) (Q1 := vq_366 b_ n_ T_ q1_ K1_ f1_ S_) rfl rfl (by decide) (vc_366 b_ n_ T_ q1_ K1_ f1_ S_ hI_ (by exact t65_) (by exact g1_) (by exact mo65_) (by exact rw1_)) (fun u_ Sx18_ px21_ => ?_)
            obtain ⟨rfl, hIx19_, hFx20_, px21_⟩ := px21_
            have hFx22_ : ai_fr (sx_W vw_367) S0_ Sx18_ := ai_fr_tr hF_ (fr_le hFx20_ rfl)
            have e93_ := px21_
            have t93_ := rtab_fr t65_ hFx20_ rfl rfl rfl rfl rfl
            have mo93_ := (hFx20_.1 13 0 27 rfl).trans mo65_
            have cd93_ := (hFx20_.1 13 0 0 rfl).trans cd65_
            have th93_ := (fr_arr (t := 183) (i := 0) hFx20_ rfl).trans th65_
            have nb93_ : 0 ≤ S_.1 13 0 83 ∧ S_.1 13 0 83 ≤ 12 := hI_.1 13 0 83 rfl
            have st93_ := lR_st (by omega) hX1_ e93_.1 e93_.2
            have nc93_ : Sx18_.1 13 0 10 = 0 → Sx18_.1 13 0 83 = (K1_ : Int) + 1 := fun z_ => by cases hc_ : p_ce b_ n_ K1_ f1_ q1_ with | inl e_ => (have y_ := e93_.1; rw [hc_] at y_; exact absurd (y_.1.symm.trans z_) y_.2.2) | inr c_ => (have y_ := (e93_.2 c_ hc_).1.1; rw [y_]; push_cast; rfl)
            refine sm_T_go 1 (c1 := (65, [some (.inr (.inr (some (13, 0)))), some (.inl sv_), none], [], Sx18_)) rfl ?_
            refine ih_.1 sv_ Sx18_ hIx19_ hFx22_ ⟨?_, ?_, ?_, ?_, ?_, trivial⟩ ?_
            · exact ⟨T_, t93_, st93_⟩
            · exact sb_
            · exact mo93_
            · exact cd93_
            · exact th93_
            · (have z_ : r_mc S_ = (20 - S_.1 13 0 83).toNat := if_neg (by rw [hz_]; exact fun y_ => y_ rfl)); unfold r_mc; split; omega; (rename_i gg_; have w_ := nc93_ (Decidable.byContradiction gg_); omega)
    · rintro sv_ S_ hI_ hF_ ⟨h1_, sb_, cd99_, th99_, -⟩ hm_
      have hIx1_ : gi (sm_pI S_ 13 0 2 0) := gi_pI hI_ (show 0 ≤ 0 ∧ 0 ≤ 1280 from ⟨by omega, by omega⟩)
      have hFx2_ : ai_fr (sx_W vw_367) S0_ (sm_pI S_ 13 0 2 0) := ai_fr_tr hF_ (ai_fr_pI rfl)
      have bx3_ : 0 ≤ S_.1 13 0 10 ∧ S_.1 13 0 10 ≤ 23 := hI_.1 13 0 10 rfl
      have hIx4_ : gi (sm_pI (sm_pI S_ 13 0 2 0) 13 0 79 (S_.1 13 0 10)) := gi_pI hIx1_ (show 0 ≤ (S_.1 13 0 10) ∧ (S_.1 13 0 10) ≤ 23 from ⟨by omega, by omega⟩)
      have hFx5_ : ai_fr (sx_W vw_367) S0_ (sm_pI (sm_pI S_ 13 0 2 0) 13 0 79 (S_.1 13 0 10)) := ai_fr_tr hFx2_ (ai_fr_pI rfl)
      refine sm_T_go 8 (c1 := (113, [some (.inr (.inr (some (13, 0)))), some (.inl sv_), none], [.inr (.inr (some (13, 0)))], sm_pI (sm_pI S_ 13 0 2 0) 13 0 79 (S_.1 13 0 10))) rfl ?_
      refine sm_T_cal (d1 := 0) (Q1 := vq_292  (sm_pI (sm_pI S_ 13 0 2 0) 13 0 79 (S_.1 13 0 10))) rfl rfl (by decide) (vc_292  (sm_pI (sm_pI S_ 13 0 2 0) 13 0 79 (S_.1 13 0 10)) hIx4_ ) (fun u_ Sx6_ px9_ => ?_)
      obtain ⟨rfl, vx11_, rfl, px9_⟩ := px9_
      have e113_ := px9_
      refine sm_T_b0 (a := 1) (z := 10) rfl (fun cx12_ => ?_) (fun cx12_ => ?_)
      · have cx12_ : vx11_ ≠ 0 := of_decide_eq_true cx12_
        have hz_ := rt_if e113_ (by omega)
        obtain ⟨K1_, L1_, hX1_, hz1_, nc1_, cdt1_⟩ : lE b_ n_ S_ := by rcases h1_ with ⟨e_, z1_, z2_, z3_, z4_⟩ | z_; (exact absurd (z2_.symm.trans hz_) z4_); exact z_
        have nb1_ : 0 ≤ S_.1 13 0 83 ∧ S_.1 13 0 83 ≤ 12 := hI_.1 13 0 83 rfl
        refine sm_T_go 4 (c1 := (132, [some (.inr (.inr (some (13, 0)))), some (.inl sv_), none], [.inl 1, .inl sv_, .inr (.inr (some (183, 0)))], sm_pI (sm_pI S_ 13 0 2 0) 13 0 79 (S_.1 13 0 10))) rfl ?_
        refine sm_T_zas1 (n := 3) rfl rfl (by omega) (by omega) (by omega) ?_
        have hIx13_ : gi (sm_aI (sm_pI (sm_pI S_ 13 0 2 0) 13 0 79 (S_.1 13 0 10)) 183 0 sv_.toNat 1) := gi_aI hIx4_ (show 0 ≤ 1 ∧ 1 ≤ 1 from ⟨by omega, by omega⟩)
        have hFx14_ : ai_fr (sx_W vw_367) S0_ (sm_aI (sm_pI (sm_pI S_ 13 0 2 0) 13 0 79 (S_.1 13 0 10)) 183 0 sv_.toNat 1) := ai_fr_tr hFx5_ (ai_fr_aI rfl)
        have bx15_ : 0 ≤ S_.1 13 0 83 ∧ S_.1 13 0 83 ≤ 12 := hI_.1 13 0 83 rfl
        refine sm_T_go 5 (c1 := (142, [some (.inr (.inr (some (13, 0)))), some (.inl sv_), none], [.inl (S_.1 13 0 83), .inl sv_, .inr (.inr (some (184, 0)))], sm_aI (sm_pI (sm_pI S_ 13 0 2 0) 13 0 79 (S_.1 13 0 10)) 183 0 sv_.toNat 1)) rfl ?_
        refine sm_T_iast (n := 3) rfl rfl (by omega) (by omega) ?_
        have hIx16_ : gi (sm_aI (sm_aI (sm_pI (sm_pI S_ 13 0 2 0) 13 0 79 (S_.1 13 0 10)) 183 0 sv_.toNat 1) 184 0 sv_.toNat (S_.1 13 0 83)) := gi_aI hIx13_ (show 0 ≤ (S_.1 13 0 83) ∧ (S_.1 13 0 83) ≤ 12 from ⟨by omega, by omega⟩)
        have hFx17_ : ai_fr (sx_W vw_367) S0_ (sm_aI (sm_aI (sm_pI (sm_pI S_ 13 0 2 0) 13 0 79 (S_.1 13 0 10)) 183 0 sv_.toNat 1) 184 0 sv_.toNat (S_.1 13 0 83)) := ai_fr_tr hFx14_ (ai_fr_aI rfl)
        refine sm_T_go 2 (c1 := (145, [some (.inr (.inr (some (13, 0)))), some (.inl sv_), some (.inl 0)], [], sm_aI (sm_aI (sm_pI (sm_pI S_ 13 0 2 0) 13 0 79 (S_.1 13 0 10)) 183 0 sv_.toNat 1) 184 0 sv_.toNat (S_.1 13 0 83))) rfl ?_
        refine ih_.2.2 sv_ 0 (sm_aI (sm_aI (sm_pI (sm_pI S_ 13 0 2 0) 13 0 79 (S_.1 13 0 10)) 183 0 sv_.toNat 1) 184 0 sv_.toNat (S_.1 13 0 83)) hIx16_ hFx17_ ⟨?_, ?_, ?_, ?_, ?_, ?_, ?_, ?_, trivial⟩ ?_
        · omega
        · exact sb_
        · exact cd99_
        · rfl
        · exact hz1_
        · exact ⟨_, hX1_⟩
        · intro j_
          rw [rd_ne (by decide), rd_eq]
          show (if j_ = sv_.toNat then 1 else S_.2.2.1 183 0 j_) = _
          rw [th99_]
        · show c_dt (S_.1 13 0 83).toNat _
          rw [show (S_.1 13 0 83).toNat = K1_ by omega]
          exact cdt1_
        · omega
      · have cx12_ : ¬ (vx11_ ≠ 0) := of_decide_eq_false cx12_
        have hz_ := wr_if e113_ (by omega)
        have bx18_ : 0 ≤ S_.1 13 0 11 ∧ S_.1 13 0 11 ≤ 4095 := hI_.1 13 0 11 rfl
        refine sm_T_go 3 (c1 := (124, [some (.inr (.inr (some (13, 0)))), some (.inl sv_), none], [.inl (S_.1 13 0 11), .inl (-1)], sm_pI (sm_pI S_ 13 0 2 0) 13 0 79 (S_.1 13 0 10))) rfl ?_
        refine sm_T_bin (w := -(S_.1 13 0 11) - 1) rfl (bi_sub (by omega) (by omega) (by omega)) ?_
        refine sm_T_ri rfl ⟨_, _, rfl, _, rfl, hIx4_, hFx5_, ?_⟩
        right
        obtain ⟨e_, z1_, z2_, z3_, z4_⟩ : lW b_ n_ S_ := by rcases h1_ with z_ | ⟨K_, L_, z1_, z2_, z3_⟩; exact z_; (exact absurd z2_ hz_)
        refine ⟨cd99_, sv_.toNat, by omega, sb_.2.2.1, sb_.2.2.2, rfl, Or.inl ⟨e_, z1_, ?_, ?_, fun j_ => ?_⟩⟩
        · rw [← z3_]; omega
        · rw [← z2_]; rfl
        · show S_.2.2.1 183 0 j_ = _; rw [th99_]
    · rintro sv_ k_ S_ hI_ hF_ ⟨kb_, sb_, cd145_, si145_, lf145_, hX145_, th145_, cdt_, -⟩ hm_
      have nb1_ : 0 ≤ S_.1 13 0 83 ∧ S_.1 13 0 83 ≤ 12 := hI_.1 13 0 83 rfl
      have ck_ : k_ < S_.1 13 0 83 → (0 ≤ S_.2.2.1 181 0 k_.toNat ∧ S_.2.2.1 181 0 k_.toNat ≤ 1000) ∧ (0 ≤ S_.2.2.1 182 0 k_.toNat ∧ S_.2.2.1 182 0 k_.toNat ≤ 100) := fun z_ => cdt_ k_.toNat (by omega)
      have bx1_ : 0 ≤ S_.1 13 0 83 ∧ S_.1 13 0 83 ≤ 12 := hI_.1 13 0 83 rfl
      refine sm_T_go 3 (c1 := (150, [some (.inr (.inr (some (13, 0)))), some (.inl sv_), some (.inl k_)], [.inl (S_.1 13 0 83), .inl k_], S_)) rfl ?_
      refine sm_T_br (a := 3) (z := 77) rfl (fun cx2_ => ?_) (fun cx2_ => ?_)
      · have cx2_ : (S_.1 13 0 83) ≤ k_ := of_decide_eq_true cx2_
        refine sm_T_go 1 (c1 := (228, [some (.inr (.inr (some (13, 0)))), some (.inl sv_), some (.inl k_)], [.inl sv_], S_)) rfl ?_
        refine sm_T_ri rfl ⟨_, _, rfl, _, rfl, hI_, hF_, ?_⟩
        right
        exact ⟨cd145_, sv_.toNat, by omega, sb_.2.2.1, sb_.2.2.2, si145_, Or.inr ⟨hX145_, by omega, lf145_, th145_⟩⟩
      · have cx2_ : ¬ ((S_.1 13 0 83) ≤ k_) := of_decide_eq_false cx2_
        refine sm_T_go 4 (c1 := (160, [some (.inr (.inr (some (13, 0)))), some (.inl sv_), some (.inl k_)], [.inl sv_, .inl 12, .inr (.inr (some (185, 0)))], S_)) rfl ?_
        refine sm_T_bin (w := 12 * sv_) rfl (bi_mul (by omega) (by omega) (by omega)) ?_
        refine sm_T_go 1 (c1 := (162, [some (.inr (.inr (some (13, 0)))), some (.inl sv_), some (.inl k_)], [.inl k_, .inl (12 * sv_), .inr (.inr (some (185, 0)))], S_)) rfl ?_
        refine sm_T_bin (w := 12 * sv_ + k_) rfl (bi_add (by omega) (by omega) (by omega)) ?_
        refine sm_T_go 3 (c1 := (168, [some (.inr (.inr (some (13, 0)))), some (.inl sv_), some (.inl k_)], [.inl k_, .inr (.inr (some (179, 0))), .inl (12 * sv_ + k_), .inr (.inr (some (185, 0)))], S_)) rfl ?_
        refine sm_T_iald (n := 12) rfl rfl (by omega) (by omega) ?_
        have bx3_ : 0 ≤ S_.2.2.1 179 0 k_.toNat ∧ S_.2.2.1 179 0 k_.toNat ≤ 3 := hI_.2 179 0 _
        refine sm_T_iast (n := 36) rfl rfl (by omega) (by omega) ?_
        have hIx4_ : gi (sm_aI S_ 185 0 (12 * sv_ + k_).toNat (S_.2.2.1 179 0 k_.toNat)) := gi_aI hI_ (show 0 ≤ (S_.2.2.1 179 0 k_.toNat) ∧ (S_.2.2.1 179 0 k_.toNat) ≤ 3 from ⟨by omega, by omega⟩)
        have hFx5_ : ai_fr (sx_W vw_367) S0_ (sm_aI S_ 185 0 (12 * sv_ + k_).toNat (S_.2.2.1 179 0 k_.toNat)) := ai_fr_tr hF_ (ai_fr_aI rfl)
        refine sm_T_go 4 (c1 := (177, [some (.inr (.inr (some (13, 0)))), some (.inl sv_), some (.inl k_)], [.inl sv_, .inl 12, .inr (.inr (some (186, 0)))], sm_aI S_ 185 0 (12 * sv_ + k_).toNat (S_.2.2.1 179 0 k_.toNat))) rfl ?_
        refine sm_T_bin (w := 12 * sv_) rfl (bi_mul (by omega) (by omega) (by omega)) ?_
        refine sm_T_go 1 (c1 := (179, [some (.inr (.inr (some (13, 0)))), some (.inl sv_), some (.inl k_)], [.inl k_, .inl (12 * sv_), .inr (.inr (some (186, 0)))], sm_aI S_ 185 0 (12 * sv_ + k_).toNat (S_.2.2.1 179 0 k_.toNat))) rfl ?_
        refine sm_T_bin (w := 12 * sv_ + k_) rfl (bi_add (by omega) (by omega) (by omega)) ?_
        refine sm_T_go 3 (c1 := (185, [some (.inr (.inr (some (13, 0)))), some (.inl sv_), some (.inl k_)], [.inl k_, .inr (.inr (some (180, 0))), .inl (12 * sv_ + k_), .inr (.inr (some (186, 0)))], sm_aI S_ 185 0 (12 * sv_ + k_).toNat (S_.2.2.1 179 0 k_.toNat))) rfl ?_
        refine sm_T_iald (n := 12) rfl rfl (by omega) (by omega) ?_
        have bx6_ : 0 ≤ S_.2.2.1 180 0 k_.toNat ∧ S_.2.2.1 180 0 k_.toNat ≤ 255 := hI_.2 180 0 _
        refine sm_T_go 0 (c1 := (186, [some (.inr (.inr (some (13, 0)))), some (.inl sv_), some (.inl k_)], [.inl (S_.2.2.1 180 0 k_.toNat), .inl (12 * sv_ + k_), .inr (.inr (some (186, 0)))], sm_aI S_ 185 0 (12 * sv_ + k_).toNat (S_.2.2.1 179 0 k_.toNat))) rfl ?_
        refine sm_T_iast (n := 36) rfl rfl (by omega) (by omega) ?_
        have hIx7_ : gi (sm_aI (sm_aI S_ 185 0 (12 * sv_ + k_).toNat (S_.2.2.1 179 0 k_.toNat)) 186 0 (12 * sv_ + k_).toNat (S_.2.2.1 180 0 k_.toNat)) := gi_aI hIx4_ (show 0 ≤ (S_.2.2.1 180 0 k_.toNat) ∧ (S_.2.2.1 180 0 k_.toNat) ≤ 255 from ⟨by omega, by omega⟩)
        have hFx8_ : ai_fr (sx_W vw_367) S0_ (sm_aI (sm_aI S_ 185 0 (12 * sv_ + k_).toNat (S_.2.2.1 179 0 k_.toNat)) 186 0 (12 * sv_ + k_).toNat (S_.2.2.1 180 0 k_.toNat)) := ai_fr_tr hFx5_ (ai_fr_aI rfl)
        refine sm_T_go 4 (c1 := (194, [some (.inr (.inr (some (13, 0)))), some (.inl sv_), some (.inl k_)], [.inl sv_, .inl 12, .inr (.inr (some (187, 0)))], sm_aI (sm_aI S_ 185 0 (12 * sv_ + k_).toNat (S_.2.2.1 179 0 k_.toNat)) 186 0 (12 * sv_ + k_).toNat (S_.2.2.1 180 0 k_.toNat))) rfl ?_
        refine sm_T_bin (w := 12 * sv_) rfl (bi_mul (by omega) (by omega) (by omega)) ?_
        refine sm_T_go 1 (c1 := (196, [some (.inr (.inr (some (13, 0)))), some (.inl sv_), some (.inl k_)], [.inl k_, .inl (12 * sv_), .inr (.inr (some (187, 0)))], sm_aI (sm_aI S_ 185 0 (12 * sv_ + k_).toNat (S_.2.2.1 179 0 k_.toNat)) 186 0 (12 * sv_ + k_).toNat (S_.2.2.1 180 0 k_.toNat))) rfl ?_
        refine sm_T_bin (w := 12 * sv_ + k_) rfl (bi_add (by omega) (by omega) (by omega)) ?_
        refine sm_T_go 3 (c1 := (202, [some (.inr (.inr (some (13, 0)))), some (.inl sv_), some (.inl k_)], [.inl k_, .inr (.inr (some (181, 0))), .inl (12 * sv_ + k_), .inr (.inr (some (187, 0)))], sm_aI (sm_aI S_ 185 0 (12 * sv_ + k_).toNat (S_.2.2.1 179 0 k_.toNat)) 186 0 (12 * sv_ + k_).toNat (S_.2.2.1 180 0 k_.toNat))) rfl ?_
        refine sm_T_iald (n := 12) rfl rfl (by omega) (by omega) ?_
        have bx9_ : (-2147483648) ≤ S_.2.2.1 181 0 k_.toNat ∧ S_.2.2.1 181 0 k_.toNat ≤ 2147483647 := hI_.2 181 0 _
        refine sm_T_go 0 (c1 := (203, [some (.inr (.inr (some (13, 0)))), some (.inl sv_), some (.inl k_)], [.inl (S_.2.2.1 181 0 k_.toNat), .inl (12 * sv_ + k_), .inr (.inr (some (187, 0)))], sm_aI (sm_aI S_ 185 0 (12 * sv_ + k_).toNat (S_.2.2.1 179 0 k_.toNat)) 186 0 (12 * sv_ + k_).toNat (S_.2.2.1 180 0 k_.toNat))) rfl ?_
        refine sm_T_iast (n := 36) rfl rfl (by omega) (by omega) ?_
        have hIx10_ : gi (sm_aI (sm_aI (sm_aI S_ 185 0 (12 * sv_ + k_).toNat (S_.2.2.1 179 0 k_.toNat)) 186 0 (12 * sv_ + k_).toNat (S_.2.2.1 180 0 k_.toNat)) 187 0 (12 * sv_ + k_).toNat (S_.2.2.1 181 0 k_.toNat)) := gi_aI hIx7_ (show 0 ≤ (S_.2.2.1 181 0 k_.toNat) ∧ (S_.2.2.1 181 0 k_.toNat) ≤ 1000 from ⟨by omega, by omega⟩)
        have hFx11_ : ai_fr (sx_W vw_367) S0_ (sm_aI (sm_aI (sm_aI S_ 185 0 (12 * sv_ + k_).toNat (S_.2.2.1 179 0 k_.toNat)) 186 0 (12 * sv_ + k_).toNat (S_.2.2.1 180 0 k_.toNat)) 187 0 (12 * sv_ + k_).toNat (S_.2.2.1 181 0 k_.toNat)) := ai_fr_tr hFx8_ (ai_fr_aI rfl)
        refine sm_T_go 4 (c1 := (211, [some (.inr (.inr (some (13, 0)))), some (.inl sv_), some (.inl k_)], [.inl sv_, .inl 12, .inr (.inr (some (188, 0)))], sm_aI (sm_aI (sm_aI S_ 185 0 (12 * sv_ + k_).toNat (S_.2.2.1 179 0 k_.toNat)) 186 0 (12 * sv_ + k_).toNat (S_.2.2.1 180 0 k_.toNat)) 187 0 (12 * sv_ + k_).toNat (S_.2.2.1 181 0 k_.toNat))) rfl ?_
        refine sm_T_bin (w := 12 * sv_) rfl (bi_mul (by omega) (by omega) (by omega)) ?_
        refine sm_T_go 1 (c1 := (213, [some (.inr (.inr (some (13, 0)))), some (.inl sv_), some (.inl k_)], [.inl k_, .inl (12 * sv_), .inr (.inr (some (188, 0)))], sm_aI (sm_aI (sm_aI S_ 185 0 (12 * sv_ + k_).toNat (S_.2.2.1 179 0 k_.toNat)) 186 0 (12 * sv_ + k_).toNat (S_.2.2.1 180 0 k_.toNat)) 187 0 (12 * sv_ + k_).toNat (S_.2.2.1 181 0 k_.toNat))) rfl ?_
        refine sm_T_bin (w := 12 * sv_ + k_) rfl (bi_add (by omega) (by omega) (by omega)) ?_
        refine sm_T_go 3 (c1 := (219, [some (.inr (.inr (some (13, 0)))), some (.inl sv_), some (.inl k_)], [.inl k_, .inr (.inr (some (182, 0))), .inl (12 * sv_ + k_), .inr (.inr (some (188, 0)))], sm_aI (sm_aI (sm_aI S_ 185 0 (12 * sv_ + k_).toNat (S_.2.2.1 179 0 k_.toNat)) 186 0 (12 * sv_ + k_).toNat (S_.2.2.1 180 0 k_.toNat)) 187 0 (12 * sv_ + k_).toNat (S_.2.2.1 181 0 k_.toNat))) rfl ?_
        refine sm_T_iald (n := 12) rfl rfl (by omega) (by omega) ?_
        have bx12_ : (-2147483648) ≤ S_.2.2.1 182 0 k_.toNat ∧ S_.2.2.1 182 0 k_.toNat ≤ 2147483647 := hI_.2 182 0 _
        refine sm_T_go 0 (c1 := (220, [some (.inr (.inr (some (13, 0)))), some (.inl sv_), some (.inl k_)], [.inl (S_.2.2.1 182 0 k_.toNat), .inl (12 * sv_ + k_), .inr (.inr (some (188, 0)))], sm_aI (sm_aI (sm_aI S_ 185 0 (12 * sv_ + k_).toNat (S_.2.2.1 179 0 k_.toNat)) 186 0 (12 * sv_ + k_).toNat (S_.2.2.1 180 0 k_.toNat)) 187 0 (12 * sv_ + k_).toNat (S_.2.2.1 181 0 k_.toNat))) rfl ?_
        refine sm_T_iast (n := 36) rfl rfl (by omega) (by omega) ?_
        have hIx13_ : gi (sm_aI (sm_aI (sm_aI (sm_aI S_ 185 0 (12 * sv_ + k_).toNat (S_.2.2.1 179 0 k_.toNat)) 186 0 (12 * sv_ + k_).toNat (S_.2.2.1 180 0 k_.toNat)) 187 0 (12 * sv_ + k_).toNat (S_.2.2.1 181 0 k_.toNat)) 188 0 (12 * sv_ + k_).toNat (S_.2.2.1 182 0 k_.toNat)) := gi_aI hIx10_ (show 0 ≤ (S_.2.2.1 182 0 k_.toNat) ∧ (S_.2.2.1 182 0 k_.toNat) ≤ 100 from ⟨by omega, by omega⟩)
        have hFx14_ : ai_fr (sx_W vw_367) S0_ (sm_aI (sm_aI (sm_aI (sm_aI S_ 185 0 (12 * sv_ + k_).toNat (S_.2.2.1 179 0 k_.toNat)) 186 0 (12 * sv_ + k_).toNat (S_.2.2.1 180 0 k_.toNat)) 187 0 (12 * sv_ + k_).toNat (S_.2.2.1 181 0 k_.toNat)) 188 0 (12 * sv_ + k_).toNat (S_.2.2.1 182 0 k_.toNat)) := ai_fr_tr hFx11_ (ai_fr_aI rfl)
        refine sm_T_inc (a := 2) (z := 1) (v := k_) (w := k_ + 1) rfl rfl (by omega) (by omega) (by omega) ?_
        refine sm_T_go 1 (c1 := (145, [some (.inr (.inr (some (13, 0)))), some (.inl sv_), some (.inl (k_ + 1))], [], sm_aI (sm_aI (sm_aI (sm_aI S_ 185 0 (12 * sv_ + k_).toNat (S_.2.2.1 179 0 k_.toNat)) 186 0 (12 * sv_ + k_).toNat (S_.2.2.1 180 0 k_.toNat)) 187 0 (12 * sv_ + k_).toNat (S_.2.2.1 181 0 k_.toNat)) 188 0 (12 * sv_ + k_).toNat (S_.2.2.1 182 0 k_.toNat))) rfl ?_
        refine ih_.2.2 sv_ (k_ + 1) (sm_aI (sm_aI (sm_aI (sm_aI S_ 185 0 (12 * sv_ + k_).toNat (S_.2.2.1 179 0 k_.toNat)) 186 0 (12 * sv_ + k_).toNat (S_.2.2.1 180 0 k_.toNat)) 187 0 (12 * sv_ + k_).toNat (S_.2.2.1 181 0 k_.toNat)) 188 0 (12 * sv_ + k_).toNat (S_.2.2.1 182 0 k_.toNat)) hIx13_ hFx14_ ⟨?_, ?_, ?_, ?_, ?_, ?_, ?_, ?_, trivial⟩ ?_
        · omega
        · exact sb_
        · exact cd145_
        · exact si145_
        · exact lf145_
        · exact hX145_
        · intro j_
          rw [rd_ne (by decide), rd_ne (by decide), rd_ne (by decide), rd_ne (by decide)]
          exact th145_ j_
        · intro j_ hj_
          rw [rd_ne (by decide), rd_ne (by decide), rd_ne (by decide), rd_ne (by decide), rd_ne (by decide), rd_ne (by decide), rd_ne (by decide), rd_ne (by decide)]
          exact cdt_ j_ hj_
        · omega
set_option maxHeartbeats 2000000 in
set_option maxRecDepth 20000 in
theorem vc_367 {sc_ : Nat × (Nat → Int)} (b_ : Nat → Int) (n_ : Nat) (S0_ : sm_S) (hI_ : gi S0_) (hb_ : S0_.2.2.1 118 0 = b_) (hn_ : (S0_.1 13 0 2) = (n_ : Int)) (hn1_ : n_ ≤ 1280) : sm_T (mt_P sc_) 9 367 (0, [some (.inr (.inr (some (13, 0)))), none, none], [], S0_) (fun r_ => ∃ u_ S1_, r_ = (.inl u_, S1_, 0) ∧ vq_367 b_ n_ S0_ u_ S1_) := by
  have hF_ : ai_fr (sx_W vw_367) S0_ S0_ := ai_fr_rf
  refine sm_T_go 3 (c1 := (5, [some (.inr (.inr (some (13, 0)))), none, none], [.inl 3, .inr (.inr (some (183, 0)))], S0_)) rfl ?_
  refine sm_T_cal (d1 := 0) (Q1 := vq_362l 3 S0_) rfl rfl (by decide) (vc_362l 3 S0_ hI_ (by rfl)) (fun u_ Sx1_ px4_ => ?_)
  obtain ⟨rfl, vx6_, rfl, px4_⟩ := px4_
  obtain ⟨sl_, hsl_⟩ : ∃ sl_ : Nat, (vx6_ = -1 ∧ ∀ j_ : Nat, j_ < 3 → S0_.2.2.1 183 0 j_ = 1) ∨ (vx6_ = (sl_ : Int) ∧ sl_ < 3 ∧ S0_.2.2.1 183 0 sl_ = 0 ∧ ∀ j_ : Nat, j_ < sl_ → S0_.2.2.1 183 0 j_ = 1) := by rcases px4_ with z_ | ⟨u_, z_⟩; exact ⟨0, Or.inl z_⟩; exact ⟨u_, Or.inr z_⟩
  clear px4_
  refine sm_T_go 4 (c1 := (12, [some (.inr (.inr (some (13, 0)))), some (.inl vx6_), none], [.inl (-1), .inl vx6_, .inr (.inr (some (13, 0)))], S0_)) rfl ?_
  refine sm_T_br (a := 1) (z := 7) rfl (fun cx7_ => ?_) (fun cx7_ => ?_)
  · have cx7_ : vx6_ ≠ (-1) := of_decide_eq_true cx7_
    obtain ⟨hs1_, hs2_, hs3_, hs4_⟩ : _ = (sl_ : Int) ∧ sl_ < 3 ∧ S0_.2.2.1 183 0 sl_ = 0 ∧ ∀ j_ : Nat, j_ < sl_ → S0_.2.2.1 183 0 j_ = 1 := by rcases hsl_ with z_ | z_; (exact absurd z_.1 cx7_); exact z_
    clear hsl_
    have hIx8_ : gi (sm_pI S0_ 13 0 0 0) := gi_pI hI_ (show 0 ≤ 0 ∧ 0 ≤ 4 from ⟨by omega, by omega⟩)
    have hFx9_ : ai_fr (sx_W vw_367) S0_ (sm_pI S0_ 13 0 0 0) := ai_fr_tr hF_ (ai_fr_pI rfl)
    have hIx10_ : gi (sm_pI (sm_pI S0_ 13 0 0 0) 13 0 27 2) := gi_pI hIx8_ (show 0 ≤ 2 ∧ 2 ≤ 2 from ⟨by omega, by omega⟩)
    have hFx11_ : ai_fr (sx_W vw_367) S0_ (sm_pI (sm_pI S0_ 13 0 0 0) 13 0 27 2) := ai_fr_tr hFx9_ (ai_fr_pI rfl)
    have hIx12_ : gi (sm_pI (sm_pI (sm_pI S0_ 13 0 0 0) 13 0 27 2) 13 0 10 0) := gi_pI hIx10_ (show 0 ≤ 0 ∧ 0 ≤ 23 from ⟨by omega, by omega⟩)
    have hFx13_ : ai_fr (sx_W vw_367) S0_ (sm_pI (sm_pI (sm_pI S0_ 13 0 0 0) 13 0 27 2) 13 0 10 0) := ai_fr_tr hFx11_ (ai_fr_pI rfl)
    have hIx14_ : gi (sm_pI (sm_pI (sm_pI (sm_pI S0_ 13 0 0 0) 13 0 27 2) 13 0 10 0) 13 0 11 0) := gi_pI hIx12_ (show 0 ≤ 0 ∧ 0 ≤ 4095 from ⟨by omega, by omega⟩)
    have hFx15_ : ai_fr (sx_W vw_367) S0_ (sm_pI (sm_pI (sm_pI (sm_pI S0_ 13 0 0 0) 13 0 27 2) 13 0 10 0) 13 0 11 0) := ai_fr_tr hFx13_ (ai_fr_pI rfl)
    have hIx16_ : gi (sm_pI (sm_pI (sm_pI (sm_pI (sm_pI S0_ 13 0 0 0) 13 0 27 2) 13 0 10 0) 13 0 11 0) 13 0 9 0) := gi_pI hIx14_ (show 0 ≤ 0 ∧ 0 ≤ 1280 from ⟨by omega, by omega⟩)
    have hFx17_ : ai_fr (sx_W vw_367) S0_ (sm_pI (sm_pI (sm_pI (sm_pI (sm_pI S0_ 13 0 0 0) 13 0 27 2) 13 0 10 0) 13 0 11 0) 13 0 9 0) := ai_fr_tr hFx15_ (ai_fr_pI rfl)
    have hIx18_ : gi (sm_pI (sm_pI (sm_pI (sm_pI (sm_pI (sm_pI S0_ 13 0 0 0) 13 0 27 2) 13 0 10 0) 13 0 11 0) 13 0 9 0) 13 0 83 0) := gi_pI hIx16_ (show 0 ≤ 0 ∧ 0 ≤ 12 from ⟨by omega, by omega⟩)
    have hFx19_ : ai_fr (sx_W vw_367) S0_ (sm_pI (sm_pI (sm_pI (sm_pI (sm_pI (sm_pI S0_ 13 0 0 0) 13 0 27 2) 13 0 10 0) 13 0 11 0) 13 0 9 0) 13 0 83 0) := ai_fr_tr hFx17_ (ai_fr_pI rfl)
    refine sm_T_go 21 (c1 := (58, [some (.inr (.inr (some (13, 0)))), some (.inl vx6_), none], [.inr (.inr (some (13, 0)))], sm_pI (sm_pI (sm_pI (sm_pI (sm_pI (sm_pI S0_ 13 0 0 0) 13 0 27 2) 13 0 10 0) 13 0 11 0) 13 0 9 0) 13 0 83 0)) rfl ?_
    refine sm_T_cal (d1 := 3) (Q1 := vq_291 b_ n_ (sm_pI (sm_pI (sm_pI (sm_pI (sm_pI (sm_pI S0_ 13 0 0 0) 13 0 27 2) 13 0 10 0) 13 0 11 0) 13 0 9 0) 13 0 83 0)) rfl rfl (by decide) (vc_291 b_ n_ (sm_pI (sm_pI (sm_pI (sm_pI (sm_pI (sm_pI S0_ 13 0 0 0) 13 0 27 2) 13 0 10 0) 13 0 11 0) 13 0 9 0) 13 0 83 0) hIx18_ (by exact hb_) (by exact hn_) (by exact hn1_)) (fun u_ Sx20_ px23_ => ?_)
    obtain ⟨rfl, hIx21_, hFx22_, px23_⟩ := px23_
    have hFx24_ : ai_fr (sx_W vw_367) S0_ Sx20_ := ai_fr_tr hFx19_ (fr_le hFx22_ rfl)
    obtain ⟨T_, tk0_, tk1_, tk2_, tk3_, tk4_, tk5_, tk6_⟩ := px23_
    have hb58_ : Sx20_.2.2.1 118 0 = b_ := (fr_arr hFx22_ rfl).trans hb_
    have ht_ : rtab b_ n_ T_ Sx20_ := ⟨hn1_, tk1_, tk2_, tk3_, tk4_, tk5_, tk6_, fun k_ => by rw [← hb58_]; exact hIx21_.2 118 0 k_⟩
    have mo58_ : Sx20_.1 13 0 27 = 2 := hFx22_.1 13 0 27 rfl
    have at58_ : Sx20_.1 13 0 9 = 0 := hFx22_.1 13 0 9 rfl
    have fa58_ : Sx20_.1 13 0 10 = 0 := hFx22_.1 13 0 10 rfl
    have nc58_ : Sx20_.1 13 0 83 = 0 := hFx22_.1 13 0 83 rfl
    have cd58_ : Sx20_.1 13 0 0 = 0 := hFx22_.1 13 0 0 rfl
    have th58_ := fr_arr (t := 183) (i := 0) hFx22_ rfl
    have d0_ := rd_0 ht_
    clear tk6_
    refine sm_T_go 1 (c1 := (62, [some (.inr (.inr (some (13, 0)))), some (.inl vx6_), none], [.inr (.inr (some (13, 0)))], Sx20_)) rfl ?_
    refine sm_T_cal (d1 := 1) (Q1 := vq_298  Sx20_) rfl rfl (by decide) (vc_298  Sx20_ hIx21_ ) (fun u_ Sx25_ px28_ => ?_)
    obtain ⟨rfl, hIx26_, hFx27_, px28_⟩ := px28_
    have hFx29_ : ai_fr (sx_W vw_367) S0_ Sx25_ := ai_fr_tr hFx24_ (fr_le hFx27_ rfl)
    have t62_ := rtab_fr ht_ hFx27_ rfl rfl rfl rfl rfl
    have e62_ := px28_.2 fa58_
    rw [at58_] at e62_
    have at62_ := (hFx27_.1 13 0 9 rfl).trans at58_
    have nc62_ := (hFx27_.1 13 0 83 rfl).trans nc58_
    have mo62_ := (hFx27_.1 13 0 27 rfl).trans mo58_
    have cd62_ := (hFx27_.1 13 0 0 rfl).trans cd58_
    have th62_ := (fr_arr (t := 183) (i := 0) hFx27_ rfl).trans th58_
    have h62_ : lX b_ n_ T_ Sx25_ ∨ lR b_ n_ T_ Sx25_ := by rcases e62_ with ⟨z1_, z2_, z3_⟩ | ⟨z1_, z2_⟩; (left; have y_ := d0_.1 z1_; exact ⟨(1, lx_k b_ n_ 0), by unfold p_li; rw [if_pos y_.1], z2_, z3_.trans y_.2, by show (1 : Int) ≠ 0; decide⟩); (right; exact lR_0 z2_ at62_ nc62_ (d0_.2 z1_))
    refine sm_T_go 0 (c1 := (65, [some (.inr (.inr (some (13, 0)))), some (.inl vx6_), none], [], Sx25_)) rfl ?_
    refine (vl_367 b_ n_ S0_ hb_ hn_ hn1_ _).1 vx6_ Sx25_ hIx26_ hFx29_ ⟨?_, ?_, ?_, ?_, ?_, trivial⟩ (Nat.lt_succ_self _)
    · exact ⟨T_, t62_, h62_⟩
    · rw [hs1_]
      exact ⟨by omega, by omega, hs3_, hs4_⟩
    · exact mo62_
    · exact cd62_
    · exact th62_
  · have cx7_ : ¬ (vx6_ ≠ (-1)) := of_decide_eq_false cx7_
    have hIx30_ : gi (sm_pI S0_ 13 0 0 1) := gi_pI hI_ (show 0 ≤ 1 ∧ 1 ≤ 4 from ⟨by omega, by omega⟩)
    have hFx31_ : ai_fr (sx_W vw_367) S0_ (sm_pI S0_ 13 0 0 1) := ai_fr_tr hF_ (ai_fr_pI rfl)
    refine sm_T_go 7 (c1 := (31, [some (.inr (.inr (some (13, 0)))), some (.inl vx6_), none], [.inl 0], sm_pI S0_ 13 0 0 1)) rfl ?_
    refine sm_T_ri rfl ⟨_, _, rfl, _, rfl, hIx30_, hFx31_, ?_⟩
    left
    refine ⟨rfl, ?_, rfl, fun j_ => rfl⟩
    rcases hsl_ with z_ | z_
    · exact z_.2
    · exfalso; have := z_.1; omega
end
/-! 99.z6a -/
section
/-! the class: libraries; written by wip/p55/gen/vg -/

/-! calls that throw, where a_ handler is_ or where others are_ -/
theorem sm_T_calg {P_ : sm_P} {d_ d1_ mid_ pc_ n0_ a_ b_ v_ ex_ : Nat} {z_ : Int} {L_ : sm_L} {st_ : List sm_V} {S_ : sm_S} {Q_ : sm_R → Prop} {Q1_ : Option sm_V → sm_S → Prop} {Q2_ : sm_S → Prop} (hx_ : P_.1 mid_ pc_ = some (40, n0_, a_, b_, v_, z_))
    (hc_ : (L_.length = (P_.2.1 mid_).2 && (st_.take b_).length = b_ && ((st_.drop b_).map sm_cat).sum ≤ 8 && (v_ = 1 || sm_rcv (P_.2.1 a_).1 (st_.take b_).reverse) && (sm_vsl (st_.take b_).reverse).length ≤ (P_.2.1 a_).2) = true)
    (hd_ : d1_ ≤ d_) (hsub : sm_T P_ d1_ a_ (0, sm_ent (P_.2.1 a_).2 (st_.take b_).reverse, [], S_) (fun r_ => (∃ u_ S1_, r_ = (.inl u_, S1_, 0) ∧ Q1_ u_ S1_) ∨ ∃ S1_, r_ = (.inr ex_, S1_, 1) ∧ Q2_ S1_))
    (hh_ : sm_fh (P_.2.2.1 mid_) pc_ ex_ = none) (hv_ : sm_cov (P_.2.2.1 mid_) pc_ = false) (kx_ : ∀ S1_, Q2_ S1_ → Q_ (.inr ex_, S1_, 1))
    (kn_ : ∀ u_ S1_, Q1_ u_ S1_ → sm_T P_ (d_ + 1) mid_ (pc_ + 3, L_, u_.toList ++ st_.drop b_, S1_) Q_) : sm_T P_ (d_ + 1) mid_ (pc_, L_, st_, S_) Q_ := by
  refine sm_T_call hx_ hc_ (hsub.deep hd_) (fun u_ S1_ k1_ q_ => ?_) (fun ex2_ S1_ k1_ q_ => ?_)
  · rcases q_ with ⟨u'_, S1'_, e_, q_⟩ | ⟨S1'_, e_, q_⟩
    · cases e_
      exact (kn_ _ _ q_).mono (fun r_ h_ => by rw [sm_add_0]; exact h_)
    · cases e_
  · rcases q_ with ⟨u'_, S1'_, e_, q_⟩ | ⟨S1'_, e_, q_⟩
    · cases e_
    · cases e_
      rw [hh_]
      exact ⟨hv_, kx_ _ q_⟩
theorem sm_T_calh {P_ : sm_P} {d_ d1_ mid_ pc_ n0_ a_ b_ v_ ex_ h_ n'_ a'_ b'_ v'_ : Nat} {z_ z'_ : Int} {L_ : sm_L} {st_ : List sm_V} {S_ : sm_S} {Q_ : sm_R → Prop} {Q1_ : Option sm_V → sm_S → Prop} {Q2_ : sm_S → Prop} (hx_ : P_.1 mid_ pc_ = some (40, n0_, a_, b_, v_, z_))
    (hc_ : (L_.length = (P_.2.1 mid_).2 && (st_.take b_).length = b_ && ((st_.drop b_).map sm_cat).sum ≤ 8 && (v_ = 1 || sm_rcv (P_.2.1 a_).1 (st_.take b_).reverse) && (sm_vsl (st_.take b_).reverse).length ≤ (P_.2.1 a_).2) = true)
    (hd_ : d1_ ≤ d_) (hsub : sm_T P_ d1_ a_ (0, sm_ent (P_.2.1 a_).2 (st_.take b_).reverse, [], S_) (fun r_ => (∃ u_ S1_, r_ = (.inl u_, S1_, 0) ∧ Q1_ u_ S1_) ∨ ∃ S1_, r_ = (.inr ex_, S1_, 1) ∧ Q2_ S1_))
    (hh_ : sm_fh (P_.2.2.1 mid_) pc_ ex_ = some h_) (h7_ : P_.1 mid_ h_ = some (7, n'_, a'_, b'_, v'_, z'_)) (ha_ : a'_ < L_.length) (kx_ : ∀ S1_, Q2_ S1_ → sm_T P_ (d_ + 1) mid_ (h_ + n'_, sm_s0 L_ a'_, [], S1_) (fun r_ => Q_ (sm_add 1 r_)))
    (kn_ : ∀ u_ S1_, Q1_ u_ S1_ → sm_T P_ (d_ + 1) mid_ (pc_ + 3, L_, u_.toList ++ st_.drop b_, S1_) Q_) : sm_T P_ (d_ + 1) mid_ (pc_, L_, st_, S_) Q_ := by
  refine sm_T_call hx_ hc_ (hsub.deep hd_) (fun u_ S1_ k1_ q_ => ?_) (fun ex2_ S1_ k1_ q_ => ?_)
  · rcases q_ with ⟨u'_, S1'_, e_, q_⟩ | ⟨S1'_, e_, q_⟩
    · cases e_
      exact (kn_ _ _ q_).mono (fun r_ h_ => by rw [sm_add_0]; exact h_)
    · cases e_
  · rcases q_ with ⟨u'_, S1'_, e_, q_⟩ | ⟨S1'_, e_, q_⟩
    · cases e_
    · cases e_
      rw [hh_]
      exact ⟨_, _, _, _, _, h7_, ha_, kx_ _ q_⟩
/-! ChipFlow.freeLibrary -/
def vw_274 : sx_Wl := ([], [], [])
def vq_274  (S0_ : sm_S) (u_ : Option sm_V) (S1_ : sm_S) : Prop := S0_ = S1_ ∧ ∃ v_ : Int, u_ = some (.inl v_) ∧ ((v_ = -1 ∧ ∀ j_ : Nat, j_ < 3 → S1_.1 5 j_ 0 = 1) ∨ (∃ u_ : Nat, v_ = (u_ : Int) ∧ u_ < 3 ∧ S1_.1 5 u_ 0 = 0 ∧ ∀ j_ : Nat, j_ < u_ → S1_.1 5 j_ 0 = 1))
set_option maxHeartbeats 400000 in
theorem vl_274 {sc_ : Nat × (Nat → Int)}  (S0_ : sm_S)  : ∀ nn_ : Nat, (∀ (i_ : Int) (S_ : sm_S), gi S_ → ai_fr (sx_W vw_274) S0_ S_ → ((0 ≤ i_ ∧ i_ ≤ 3) ∧ (∀ j_ : Nat, j_ < i_.toNat → S_.1 5 j_ 0 = 1) ∧ (S_ = S0_) ∧ True) → ((20 - i_).toNat) < nn_ → sm_T (mt_P sc_) 0 274 (2, [some (.inr (.inr (some (12, 0)))), some (.inl i_)], [], S_) (fun r_ => ∃ u_ S1_, r_ = (.inl u_, S1_, 0) ∧ vq_274  S0_ u_ S1_)) := by
  intro nn_
  induction nn_ with
  | zero => exact fun _ _ _ _ _ h_ => absurd h_ (Nat.not_lt_zero _)
  | succ nn_ ih_ =>
    rintro i_ S_ hI_ hF_ ⟨h0_, h1_, hS_, -⟩ hm_
    refine sm_T_go 2 (c1 := (4, [some (.inr (.inr (some (12, 0)))), some (.inl i_)], [.inl 3, .inl i_], S_)) rfl ?_
    refine sm_T_br (a := 3) (z := 23) rfl (fun cx1_ => ?_) (fun cx1_ => ?_)
    · have cx1_ : 3 ≤ i_ := of_decide_eq_true cx1_
      refine sm_T_go 1 (c1 := (28, [some (.inr (.inr (some (12, 0)))), some (.inl i_)], [.inl (-1)], S_)) rfl ?_
      refine sm_T_ri rfl ⟨_, _, rfl, (by first | rfl | exact hS_.symm), _, rfl, ?_⟩
      left
      exact ⟨rfl, fun j_ hj_ => h1_ j_ (by omega)⟩
    · have cx1_ : ¬ (3 ≤ i_) := of_decide_eq_false cx1_
      refine sm_T_go 3 (c1 := (12, [some (.inr (.inr (some (12, 0)))), some (.inl i_)], [.inl i_, .inr (.inr (some (111, 0)))], S_)) rfl ?_
      refine sm_T_aald (t0 := 5) (n := 3) rfl rfl (by omega) (by omega) ?_
      have bx2_ : 0 ≤ S_.1 5 i_.toNat 0 ∧ S_.1 5 i_.toNat 0 ≤ 1 := hI_.1 5 i_.toNat 0 rfl
      refine sm_T_go 1 (c1 := (16, [some (.inr (.inr (some (12, 0)))), some (.inl i_)], [.inl (S_.1 5 i_.toNat 0)], S_)) rfl ?_
      refine sm_T_b0 (a := 1) (z := 5) rfl (fun cx3_ => ?_) (fun cx3_ => ?_)
      · have cx3_ : (S_.1 5 i_.toNat 0) ≠ 0 := of_decide_eq_true cx3_
        refine sm_T_inc (a := 1) (z := 1) (v := i_) (w := i_ + 1) rfl rfl (by omega) (by omega) (by omega) ?_
        refine sm_T_go 1 (c1 := (2, [some (.inr (.inr (some (12, 0)))), some (.inl (i_ + 1))], [], S_)) rfl ?_
        refine ih_ (i_ + 1) S_ hI_ hF_ ⟨?_, ?_, ?_, trivial⟩ ?_
        · omega
        · intro j_ hj_
          by_cases z_ : j_ = i_.toNat
          · rw [z_]; omega
          · exact h1_ j_ (by omega)
        · first | rfl | exact hS_
        · omega
      · have cx3_ : ¬ ((S_.1 5 i_.toNat 0) ≠ 0) := of_decide_eq_false cx3_
        refine sm_T_go 1 (c1 := (20, [some (.inr (.inr (some (12, 0)))), some (.inl i_)], [.inl i_], S_)) rfl ?_
        refine sm_T_ri rfl ⟨_, _, rfl, (by first | rfl | exact hS_.symm), _, rfl, ?_⟩
        right
        exact ⟨i_.toNat, by omega, by omega, by omega, h1_⟩
set_option maxHeartbeats 400000 in
theorem vc_274 {sc_ : Nat × (Nat → Int)}  (S0_ : sm_S) (hI_ : gi S0_)  : sm_T (mt_P sc_) 0 274 (0, [some (.inr (.inr (some (12, 0)))), none], [], S0_) (fun r_ => ∃ u_ S1_, r_ = (.inl u_, S1_, 0) ∧ vq_274  S0_ u_ S1_) := by
  have hF_ : ai_fr (sx_W vw_274) S0_ S0_ := ai_fr_rf
  refine sm_T_go 2 (c1 := (2, [some (.inr (.inr (some (12, 0)))), some (.inl 0)], [], S0_)) rfl ?_
  refine (vl_274 S0_ _) 0 S0_ hI_ hF_ ⟨?_, ?_, ?_, trivial⟩ (Nat.lt_succ_self _)
  · omega
  · (intro j_ hj_; exact absurd hj_ (Nat.not_lt_zero _))
  · first | rfl | exact hS_
end
/-! 99.z6b -/
section
/-! ChipFlow.freeDesign -/
def vw_273 : sx_Wl := ([], [], [])
def vq_273  (S0_ : sm_S) (u_ : Option sm_V) (S1_ : sm_S) : Prop := S0_ = S1_ ∧ ∃ v_ : Int, u_ = some (.inl v_) ∧ ((v_ = -1 ∧ ∀ j_ : Nat, j_ < 6 → S1_.1 3 j_ 0 = 1) ∨ (∃ u_ : Nat, v_ = (u_ : Int) ∧ u_ < 6 ∧ S1_.1 3 u_ 0 = 0 ∧ ∀ j_ : Nat, j_ < u_ → S1_.1 3 j_ 0 = 1))
set_option maxHeartbeats 400000 in
theorem vl_273 {sc_ : Nat × (Nat → Int)}  (S0_ : sm_S)  : ∀ nn_ : Nat, (∀ (i_ : Int) (S_ : sm_S), gi S_ → ai_fr (sx_W vw_273) S0_ S_ → ((0 ≤ i_ ∧ i_ ≤ 6) ∧ (∀ j_ : Nat, j_ < i_.toNat → S_.1 3 j_ 0 = 1) ∧ (S_ = S0_) ∧ True) → ((20 - i_).toNat) < nn_ → sm_T (mt_P sc_) 0 273 (2, [some (.inr (.inr (some (12, 0)))), some (.inl i_)], [], S_) (fun r_ => ∃ u_ S1_, r_ = (.inl u_, S1_, 0) ∧ vq_273  S0_ u_ S1_)) := by
  intro nn_
  induction nn_ with
  | zero => exact fun _ _ _ _ _ h_ => absurd h_ (Nat.not_lt_zero _)
  | succ nn_ ih_ =>
    rintro i_ S_ hI_ hF_ ⟨h0_, h1_, hS_, -⟩ hm_
    refine sm_T_go 2 (c1 := (5, [some (.inr (.inr (some (12, 0)))), some (.inl i_)], [.inl 6, .inl i_], S_)) rfl ?_
    refine sm_T_br (a := 3) (z := 23) rfl (fun cx1_ => ?_) (fun cx1_ => ?_)
    · have cx1_ : 6 ≤ i_ := of_decide_eq_true cx1_
      refine sm_T_go 1 (c1 := (29, [some (.inr (.inr (some (12, 0)))), some (.inl i_)], [.inl (-1)], S_)) rfl ?_
      refine sm_T_ri rfl ⟨_, _, rfl, (by first | rfl | exact hS_.symm), _, rfl, ?_⟩
      left
      exact ⟨rfl, fun j_ hj_ => h1_ j_ (by omega)⟩
    · have cx1_ : ¬ (6 ≤ i_) := of_decide_eq_false cx1_
      refine sm_T_go 3 (c1 := (13, [some (.inr (.inr (some (12, 0)))), some (.inl i_)], [.inl i_, .inr (.inr (some (110, 0)))], S_)) rfl ?_
      refine sm_T_aald (t0 := 4) (n := 6) rfl rfl (by omega) (by omega) ?_
      have bx2_ : 0 ≤ S_.1 3 i_.toNat 0 ∧ S_.1 3 i_.toNat 0 ≤ 1 := hI_.1 3 i_.toNat 0 rfl
      refine sm_T_go 1 (c1 := (17, [some (.inr (.inr (some (12, 0)))), some (.inl i_)], [.inl (S_.1 3 i_.toNat 0)], S_)) rfl ?_
      refine sm_T_b0 (a := 1) (z := 5) rfl (fun cx3_ => ?_) (fun cx3_ => ?_)
      · have cx3_ : (S_.1 3 i_.toNat 0) ≠ 0 := of_decide_eq_true cx3_
        refine sm_T_inc (a := 1) (z := 1) (v := i_) (w := i_ + 1) rfl rfl (by omega) (by omega) (by omega) ?_
        refine sm_T_go 1 (c1 := (2, [some (.inr (.inr (some (12, 0)))), some (.inl (i_ + 1))], [], S_)) rfl ?_
        refine ih_ (i_ + 1) S_ hI_ hF_ ⟨?_, ?_, ?_, trivial⟩ ?_
        · omega
        · intro j_ hj_
          by_cases z_ : j_ = i_.toNat
          · rw [z_]; omega
          · exact h1_ j_ (by omega)
        · first | rfl | exact hS_
        · omega
      · have cx3_ : ¬ ((S_.1 3 i_.toNat 0) ≠ 0) := of_decide_eq_false cx3_
        refine sm_T_go 1 (c1 := (21, [some (.inr (.inr (some (12, 0)))), some (.inl i_)], [.inl i_], S_)) rfl ?_
        refine sm_T_ri rfl ⟨_, _, rfl, (by first | rfl | exact hS_.symm), _, rfl, ?_⟩
        right
        exact ⟨i_.toNat, by omega, by omega, by omega, h1_⟩
set_option maxHeartbeats 400000 in
theorem vc_273 {sc_ : Nat × (Nat → Int)}  (S0_ : sm_S) (hI_ : gi S0_)  : sm_T (mt_P sc_) 0 273 (0, [some (.inr (.inr (some (12, 0)))), none], [], S0_) (fun r_ => ∃ u_ S1_, r_ = (.inl u_, S1_, 0) ∧ vq_273  S0_ u_ S1_) := by
  have hF_ : ai_fr (sx_W vw_273) S0_ S0_ := ai_fr_rf
  refine sm_T_go 2 (c1 := (2, [some (.inr (.inr (some (12, 0)))), some (.inl 0)], [], S0_)) rfl ?_
  refine (vl_273 S0_ _) 0 S0_ hI_ hF_ ⟨?_, ?_, ?_, trivial⟩ (Nat.lt_succ_self _)
  · omega
  · (intro j_ hj_; exact absurd hj_ (Nat.not_lt_zero _))
  · first | rfl | exact hS_
end
/-! 99.z6c -/
section
/-! ChipFlow.needRoom -/
def vw_268 : sx_Wl := ([], [], [])
def vq_268 (k_ : Int) (S0_ : sm_S) (u_ : Option sm_V) (S1_ : sm_S) : Prop := u_ = none ∧ gi S1_ ∧ ai_fr (sx_W vw_268) S0_ S1_ ∧ (k_ ≠ 0)
def vx_268 (k_ : Int) (S0_ : sm_S) (S1_ : sm_S) : Prop := gi S1_ ∧ ai_fr (sx_W vw_268) S0_ S1_ ∧ (k_ = 0 ∧ S1_ = S0_)
set_option maxHeartbeats 400000 in
theorem vc_268 {sc_ : Nat × (Nat → Int)} (k_ : Int) (S0_ : sm_S) (hI_ : gi S0_)  : sm_T (mt_P sc_) 0 268 (0, [some (.inl k_)], [], S0_) (fun r_ => (∃ u_ S1_, r_ = (.inl u_, S1_, 0) ∧ vq_268 k_ S0_ u_ S1_) ∨ ∃ S1_, r_ = (.inr 3, S1_, 1) ∧ vx_268 k_ S0_ S1_) := by
  have hF_ : ai_fr (sx_W vw_268) S0_ S0_ := ai_fr_rf
  refine sm_T_go 1 (c1 := (1, [some (.inl k_)], [.inl k_], S0_)) rfl ?_
  refine sm_T_b0 (a := 1) (z := 11) rfl (fun cx1_ => ?_) (fun cx1_ => ?_)
  · have cx1_ : k_ ≠ 0 := of_decide_eq_true cx1_
    refine sm_T_rv rfl (Or.inl ⟨_, _, rfl, rfl, hI_, hF_, ?_⟩)
    omega
  · have cx1_ : ¬ (k_ ≠ 0) := of_decide_eq_false cx1_
    refine sm_T_th rfl rfl (Or.inr ⟨_, rfl, hI_, hF_, ?_⟩)
    exact ⟨by omega, rfl⟩
end
/-! 99.z6d -/
section
/-! ChipFlow.library -/
def vw_214 : sx_Wl := ([(5, 0), (5, 1), (5, 2), (7, 2), (7, 14), (7, 16), (7, 17), (10, 1), (10, 2), (10, 3), (10, 4), (10, 5), (10, 6), (10, 7), (10, 8), (12, 10)], [55, 56, 57, 58, 74, 77, 78, 82, 83, 84], [(7, 11)])
def vq_214 (b_ : Nat → Int) (n_ : Nat) (S0_ : sm_S) (u_ : Option sm_V) (S1_ : sm_S) : Prop := ∃ v_ : Int, u_ = some (.inl v_) ∧ gi S1_ ∧ ai_fr (sx_W vw_214) S0_ S1_ ∧ (∃ sl_ : Nat, sl_ < 3 ∧ S0_.1 5 sl_ 0 = 0 ∧ (∀ j_ : Nat, j_ < sl_ → S0_.1 5 j_ 0 = 1) ∧ (S1_.1 10 0 1) = 0 ∧ ((∃ e_, p_li b_ n_ = .inl e_ ∧ v_ = -1 - (e_.2 : Int) ∧ (S1_.1 12 0 10) = e_.1 ∧ ∀ j_ : Nat, S1_.1 5 j_ 0 = S0_.1 5 j_ 0) ∨ ((∃ r_, p_li b_ n_ = .inr r_) ∧ v_ = (sl_ : Int) ∧ (S1_.1 12 0 10) = 0 ∧ ∀ j_ : Nat, S1_.1 5 j_ 0 = if j_ = sl_ then 1 else S0_.1 5 j_ 0)))
def vx_214 (b_ : Nat → Int) (n_ : Nat) (S0_ : sm_S) (S1_ : sm_S) : Prop := gi S1_ ∧ ai_fr (sx_W vw_214) S0_ S1_ ∧ ((∀ j_ : Nat, j_ < 3 → S0_.1 5 j_ 0 = 1) ∧ (S1_.1 10 0 1) = (S0_.1 10 0 1) ∧ ∀ j_ : Nat, S1_.1 5 j_ 0 = S0_.1 5 j_ 0)
set_option maxHeartbeats 1000000 in
theorem vc_214 {sc_ : Nat × (Nat → Int)} (b_ : Nat → Int) (n_ : Nat) (S0_ : sm_S) (hI_ : gi S0_) (hb_ : S0_.2.2.1 98 0 = b_) (hn_ : (S0_.1 10 0 1) = (n_ : Int)) (hn1_ : n_ ≤ 1280) : sm_T (mt_P sc_) 6 214 (0, [some (.inr (.inr (some (12, 0)))), none, none, none], [], S0_) (fun r_ => (∃ u_ S1_ k9_, r_ = (.inl u_, S1_, k9_) ∧ k9_ ≤ 1 ∧ vq_214 b_ n_ S0_ u_ S1_) ∨ ∃ S1_, r_ = (.inr 3, S1_, 1) ∧ vx_214 b_ n_ S0_ S1_) := by
  have hF_ : ai_fr (sx_W vw_214) S0_ S0_ := ai_fr_rf
  refine sm_T_go 1 (c1 := (1, [some (.inr (.inr (some (12, 0)))), none, none, none], [.inr (.inr (some (12, 0)))], S0_)) rfl ?_
  refine sm_T_cal (d1 := 0) (Q1 := vq_274  S0_) rfl rfl (by decide) (vc_274  S0_ hI_ ) (fun u_ Sx1_ px4_ => ?_)
  obtain ⟨rfl, vx6_, rfl, px4_⟩ := px4_
  obtain ⟨sl_, hsl_⟩ : ∃ sl_ : Nat, (vx6_ = -1 ∧ ∀ j_ : Nat, j_ < 3 → S0_.1 5 j_ 0 = 1) ∨ (vx6_ = (sl_ : Int) ∧ sl_ < 3 ∧ S0_.1 5 sl_ 0 = 0 ∧ ∀ j_ : Nat, j_ < sl_ → S0_.1 5 j_ 0 = 1) := by rcases px4_ with z_ | ⟨u_, z_⟩; exact ⟨0, Or.inl z_⟩; exact ⟨u_, Or.inr z_⟩
  clear px4_
  refine sm_T_go 3 (c1 := (7, [some (.inr (.inr (some (12, 0)))), some (.inl vx6_), none, none], [.inl (-1), .inl vx6_], S0_)) rfl ?_
  refine sm_T_br (a := 0) (z := 7) rfl (fun cx7_ => ?_) (fun cx7_ => ?_)
  · have cx7_ : vx6_ = (-1) := of_decide_eq_true cx7_
    have ha0_ : ∀ j_ : Nat, j_ < 3 → S0_.1 5 j_ 0 = 1 := by rcases hsl_ with z_ | z_; exact z_.2; (exfalso; have := z_.1; omega)
    clear hsl_
    refine sm_T_go 1 (c1 := (15, [some (.inr (.inr (some (12, 0)))), some (.inl vx6_), none, none], [.inl 0], S0_)) rfl ?_
    refine sm_T_calg (d1_ := 0) (ex_ := 3) (Q1_ := vq_268 0 S0_) (Q2_ := vx_268 0 S0_) rfl rfl (by decide) (vc_268 0 S0_ hI_ ) rfl rfl (fun Sx8_ px11_ => ?_) (fun u_ Sx8_ px11_ => ?_)
    · obtain ⟨hIx9_, hFx10_, px11_⟩ := px11_
      refine Or.inr ⟨_, rfl, hIx9_, ai_fr_tr hF_ (fr_le hFx10_ rfl), ?_⟩
      obtain ⟨z1_, rfl⟩ := px11_
      first | (exact absurd z1_ (by decide)) | (exact ⟨ha0_, rfl, fun j_ => rfl⟩)
    obtain ⟨rfl, hIx9_, hFx10_, px11_⟩ := px11_
    have hFx12_ : ai_fr (sx_W vw_214) S0_ Sx8_ := ai_fr_tr hF_ (fr_le hFx10_ rfl)
    have e15_ := px11_
    have hb15_ := (fr_arr (t := 98) (i := 0) hFx10_ rfl).trans hb_
    have hn15_ := (hFx10_.1 10 0 1 rfl).trans hn_
    have us15_ : ∀ j_ : Nat, Sx8_.1 5 j_ 0 = S0_.1 5 j_ 0 := fun j_ => hFx10_.1 5 j_ 0 rfl
    have hIx13_ : gi (sm_pI Sx8_ 12 0 10 0) := gi_pI hIx9_ (show 0 ≤ 0 ∧ 0 ≤ 23 from ⟨by omega, by omega⟩)
    have hFx14_ : ai_fr (sx_W vw_214) S0_ (sm_pI Sx8_ 12 0 10 0) := ai_fr_tr hFx12_ (ai_fr_pI rfl)
    refine sm_T_go 10 (c1 := (34, [some (.inr (.inr (some (12, 0)))), some (.inl vx6_), some (.inl vx6_), none], [.inl vx6_, .inr (.inr (some (111, 0))), .inr (.inr (some (7, 0)))], sm_pI Sx8_ 12 0 10 0)) rfl ?_
    refine sm_T_aald (t0 := 5) (n := 3) rfl rfl (by omega) (by omega) ?_
    refine sm_T_calh (d1_ := 5) (ex_ := 2) (Q1_ := vq_131 b_ n_ vx6_.toNat (sm_pI Sx8_ 12 0 10 0)) (Q2_ := vx_131 b_ n_ vx6_.toNat (sm_pI Sx8_ 12 0 10 0)) rfl rfl (by decide) (vc_131 b_ n_ vx6_.toNat (sm_pI Sx8_ 12 0 10 0) hIx13_ (by exact hb15_) (by exact hn15_) (by exact hn1_)) rfl rfl (Nat.le_of_ble_eq_true rfl) (fun Sx15_ px18_ => ?_) (fun u_ Sx15_ px18_ => ?_)
    · obtain ⟨hIx16_, hFx17_, px18_⟩ := px18_
      have hFx19_ : ai_fr (sx_W vw_214) S0_ Sx15_ := ai_fr_tr hFx14_ (fr_le hFx17_ rfl)
      obtain ⟨e9_, w1_, w2_, w3_⟩ := px18_
      have ee_ := w2_
      refine sm_T_go 0 (c1 := (42, [some (.inr (.inr (some (12, 0)))), some (.inl vx6_), some (.inl vx6_), none], [], Sx15_)) rfl ?_
      have bx20_ : 0 ≤ Sx15_.1 10 0 6 ∧ Sx15_.1 10 0 6 ≤ 23 := hIx16_.1 10 0 6 rfl
      have hIx21_ : gi (sm_pI Sx15_ 12 0 10 (Sx15_.1 10 0 6)) := gi_pI hIx16_ (show 0 ≤ (Sx15_.1 10 0 6) ∧ (Sx15_.1 10 0 6) ≤ 23 from ⟨by omega, by omega⟩)
      have hFx22_ : ai_fr (sx_W vw_214) S0_ (sm_pI Sx15_ 12 0 10 (Sx15_.1 10 0 6)) := ai_fr_tr hFx19_ (ai_fr_pI rfl)
      have bx23_ : 0 ≤ Sx15_.1 10 0 7 ∧ Sx15_.1 10 0 7 ≤ 4095 := hIx16_.1 10 0 7 rfl
      refine sm_T_go 9 (c1 := (61, [some (.inr (.inr (some (12, 0)))), some (.inl vx6_), some (.inl vx6_), none], [.inl (Sx15_.1 10 0 7), .inl (-1)], sm_pI Sx15_ 12 0 10 (Sx15_.1 10 0 6))) rfl ?_
      refine sm_T_bin (w := -(Sx15_.1 10 0 7) - 1) rfl (bi_sub (by omega) (by omega) (by omega)) ?_
      have hIx24_ : gi (sm_pI (sm_pI Sx15_ 12 0 10 (Sx15_.1 10 0 6)) 10 0 1 0) := gi_pI hIx21_ (show 0 ≤ 0 ∧ 0 ≤ 1280 from ⟨by omega, by omega⟩)
      have hFx25_ : ai_fr (sx_W vw_214) S0_ (sm_pI (sm_pI Sx15_ 12 0 10 (Sx15_.1 10 0 6)) 10 0 1 0) := ai_fr_tr hFx22_ (ai_fr_pI rfl)
      refine sm_T_go 6 (c1 := (72, [some (.inr (.inr (some (12, 0)))), some (.inl vx6_), some (.inl (-(Sx15_.1 10 0 7) - 1)), none], [.inl (-(Sx15_.1 10 0 7) - 1)], sm_pI (sm_pI Sx15_ 12 0 10 (Sx15_.1 10 0 6)) 10 0 1 0)) rfl ?_
      refine sm_T_ri rfl (Or.inl ⟨_, _, _, rfl, Nat.le_of_ble_eq_true rfl, _, rfl, hIx24_, hFx25_, ?_⟩)
      first | (exact absurd rfl e15_) | (refine ⟨sl_, hs2_, hs3_, hs4_, rf_eq, Or.inr ⟨⟨r9_, w1_⟩, hs1_, ?_, fun j_ => ?_⟩⟩; (exact (rf_nt (by decide)).trans (lf35_.trans rf_eq)); (refine (rf_nt (by decide)).trans ((w3_ j_).trans ?_); rw [hs1_, Int.toNat_natCast]; by_cases z_ : j_ = sl_; (rw [if_pos z_, if_pos z_]); (rw [if_neg z_, if_neg z_]; exact (rf_nt (by decide)).trans (us15_ j_)))) | (refine ⟨sl_, hs2_, hs3_, hs4_, rf_eq, Or.inl ⟨e9_, w1_, ?_, ?_, fun j_ => ?_⟩⟩; (rw [← ee_.2]; omega); (refine (rf_nt (by decide)).trans (rf_eq.trans ee_.1)); (refine (rf_nt (by decide)).trans ((rf_nt (by decide)).trans ((w3_ j_).trans ((rf_nt (by decide)).trans (us15_ j_))))))
    obtain ⟨rfl, hIx16_, hFx17_, px18_⟩ := px18_
    have hFx19_ : ai_fr (sx_W vw_214) S0_ Sx15_ := ai_fr_tr hFx14_ (fr_le hFx17_ rfl)
    obtain ⟨r9_, w1_, w3_⟩ := px18_
    have lf35_ := hFx17_.1 12 0 10 rfl
    have hIx26_ : gi (sm_pI Sx15_ 10 0 1 0) := gi_pI hIx16_ (show 0 ≤ 0 ∧ 0 ≤ 1280 from ⟨by omega, by omega⟩)
    have hFx27_ : ai_fr (sx_W vw_214) S0_ (sm_pI Sx15_ 10 0 1 0) := ai_fr_tr hFx19_ (ai_fr_pI rfl)
    refine sm_T_go 6 (c1 := (72, [some (.inr (.inr (some (12, 0)))), some (.inl vx6_), some (.inl vx6_), none], [.inl vx6_], sm_pI Sx15_ 10 0 1 0)) rfl ?_
    refine sm_T_ri rfl (Or.inl ⟨_, _, _, rfl, Nat.le_of_ble_eq_true rfl, _, rfl, hIx26_, hFx27_, ?_⟩)
    first | (exact absurd rfl e15_) | (refine ⟨sl_, hs2_, hs3_, hs4_, rf_eq, Or.inr ⟨⟨r9_, w1_⟩, hs1_, ?_, fun j_ => ?_⟩⟩; (exact (rf_nt (by decide)).trans (lf35_.trans rf_eq)); (refine (rf_nt (by decide)).trans ((w3_ j_).trans ?_); rw [hs1_, Int.toNat_natCast]; by_cases z_ : j_ = sl_; (rw [if_pos z_, if_pos z_]); (rw [if_neg z_, if_neg z_]; exact (rf_nt (by decide)).trans (us15_ j_)))) | (refine ⟨sl_, hs2_, hs3_, hs4_, rf_eq, Or.inl ⟨e9_, w1_, ?_, ?_, fun j_ => ?_⟩⟩; (rw [← ee_.2]; omega); (refine (rf_nt (by decide)).trans (rf_eq.trans ee_.1)); (refine (rf_nt (by decide)).trans ((rf_nt (by decide)).trans ((w3_ j_).trans ((rf_nt (by decide)).trans (us15_ j_))))))
  · have cx7_ : ¬ (vx6_ = (-1)) := of_decide_eq_false cx7_
    obtain ⟨hs1_, hs2_, hs3_, hs4_⟩ : _ = (sl_ : Int) ∧ sl_ < 3 ∧ S0_.1 5 sl_ 0 = 0 ∧ ∀ j_ : Nat, j_ < sl_ → S0_.1 5 j_ 0 = 1 := by rcases hsl_ with z_ | z_; (exact absurd z_.1 cx7_); exact z_
    clear hsl_
    refine sm_T_go 2 (c1 := (15, [some (.inr (.inr (some (12, 0)))), some (.inl vx6_), none, none], [.inl 1], S0_)) rfl ?_
    refine sm_T_calg (d1_ := 0) (ex_ := 3) (Q1_ := vq_268 1 S0_) (Q2_ := vx_268 1 S0_) rfl rfl (by decide) (vc_268 1 S0_ hI_ ) rfl rfl (fun Sx28_ px31_ => ?_) (fun u_ Sx28_ px31_ => ?_)
    · obtain ⟨hIx29_, hFx30_, px31_⟩ := px31_
      refine Or.inr ⟨_, rfl, hIx29_, ai_fr_tr hF_ (fr_le hFx30_ rfl), ?_⟩
      obtain ⟨z1_, rfl⟩ := px31_
      first | (exact absurd z1_ (by decide)) | (exact ⟨ha0_, rfl, fun j_ => rfl⟩)
    obtain ⟨rfl, hIx29_, hFx30_, px31_⟩ := px31_
    have hFx32_ : ai_fr (sx_W vw_214) S0_ Sx28_ := ai_fr_tr hF_ (fr_le hFx30_ rfl)
    have e15_ := px31_
    have hb15_ := (fr_arr (t := 98) (i := 0) hFx30_ rfl).trans hb_
    have hn15_ := (hFx30_.1 10 0 1 rfl).trans hn_
    have us15_ : ∀ j_ : Nat, Sx28_.1 5 j_ 0 = S0_.1 5 j_ 0 := fun j_ => hFx30_.1 5 j_ 0 rfl
    have hIx33_ : gi (sm_pI Sx28_ 12 0 10 0) := gi_pI hIx29_ (show 0 ≤ 0 ∧ 0 ≤ 23 from ⟨by omega, by omega⟩)
    have hFx34_ : ai_fr (sx_W vw_214) S0_ (sm_pI Sx28_ 12 0 10 0) := ai_fr_tr hFx32_ (ai_fr_pI rfl)
    refine sm_T_go 10 (c1 := (34, [some (.inr (.inr (some (12, 0)))), some (.inl vx6_), some (.inl vx6_), none], [.inl vx6_, .inr (.inr (some (111, 0))), .inr (.inr (some (7, 0)))], sm_pI Sx28_ 12 0 10 0)) rfl ?_
    refine sm_T_aald (t0 := 5) (n := 3) rfl rfl (by omega) (by omega) ?_
    refine sm_T_calh (d1_ := 5) (ex_ := 2) (Q1_ := vq_131 b_ n_ vx6_.toNat (sm_pI Sx28_ 12 0 10 0)) (Q2_ := vx_131 b_ n_ vx6_.toNat (sm_pI Sx28_ 12 0 10 0)) rfl rfl (by decide) (vc_131 b_ n_ vx6_.toNat (sm_pI Sx28_ 12 0 10 0) hIx33_ (by exact hb15_) (by exact hn15_) (by exact hn1_)) rfl rfl (Nat.le_of_ble_eq_true rfl) (fun Sx35_ px38_ => ?_) (fun u_ Sx35_ px38_ => ?_)
    · obtain ⟨hIx36_, hFx37_, px38_⟩ := px38_
      have hFx39_ : ai_fr (sx_W vw_214) S0_ Sx35_ := ai_fr_tr hFx34_ (fr_le hFx37_ rfl)
      obtain ⟨e9_, w1_, w2_, w3_⟩ := px38_
      have ee_ := w2_
      refine sm_T_go 0 (c1 := (42, [some (.inr (.inr (some (12, 0)))), some (.inl vx6_), some (.inl vx6_), none], [], Sx35_)) rfl ?_
      have bx40_ : 0 ≤ Sx35_.1 10 0 6 ∧ Sx35_.1 10 0 6 ≤ 23 := hIx36_.1 10 0 6 rfl
      have hIx41_ : gi (sm_pI Sx35_ 12 0 10 (Sx35_.1 10 0 6)) := gi_pI hIx36_ (show 0 ≤ (Sx35_.1 10 0 6) ∧ (Sx35_.1 10 0 6) ≤ 23 from ⟨by omega, by omega⟩)
      have hFx42_ : ai_fr (sx_W vw_214) S0_ (sm_pI Sx35_ 12 0 10 (Sx35_.1 10 0 6)) := ai_fr_tr hFx39_ (ai_fr_pI rfl)
      have bx43_ : 0 ≤ Sx35_.1 10 0 7 ∧ Sx35_.1 10 0 7 ≤ 4095 := hIx36_.1 10 0 7 rfl
      refine sm_T_go 9 (c1 := (61, [some (.inr (.inr (some (12, 0)))), some (.inl vx6_), some (.inl vx6_), none], [.inl (Sx35_.1 10 0 7), .inl (-1)], sm_pI Sx35_ 12 0 10 (Sx35_.1 10 0 6))) rfl ?_
      refine sm_T_bin (w := -(Sx35_.1 10 0 7) - 1) rfl (bi_sub (by omega) (by omega) (by omega)) ?_
      have hIx44_ : gi (sm_pI (sm_pI Sx35_ 12 0 10 (Sx35_.1 10 0 6)) 10 0 1 0) := gi_pI hIx41_ (show 0 ≤ 0 ∧ 0 ≤ 1280 from ⟨by omega, by omega⟩)
      have hFx45_ : ai_fr (sx_W vw_214) S0_ (sm_pI (sm_pI Sx35_ 12 0 10 (Sx35_.1 10 0 6)) 10 0 1 0) := ai_fr_tr hFx42_ (ai_fr_pI rfl)
      refine sm_T_go 6 (c1 := (72, [some (.inr (.inr (some (12, 0)))), some (.inl vx6_), some (.inl (-(Sx35_.1 10 0 7) - 1)), none], [.inl (-(Sx35_.1 10 0 7) - 1)], sm_pI (sm_pI Sx35_ 12 0 10 (Sx35_.1 10 0 6)) 10 0 1 0)) rfl ?_
      refine sm_T_ri rfl (Or.inl ⟨_, _, _, rfl, Nat.le_of_ble_eq_true rfl, _, rfl, hIx44_, hFx45_, ?_⟩)
      first | (exact absurd rfl e15_) | (refine ⟨sl_, hs2_, hs3_, hs4_, rf_eq, Or.inr ⟨⟨r9_, w1_⟩, hs1_, ?_, fun j_ => ?_⟩⟩; (exact (rf_nt (by decide)).trans (lf35_.trans rf_eq)); (refine (rf_nt (by decide)).trans ((w3_ j_).trans ?_); rw [hs1_, Int.toNat_natCast]; by_cases z_ : j_ = sl_; (rw [if_pos z_, if_pos z_]); (rw [if_neg z_, if_neg z_]; exact (rf_nt (by decide)).trans (us15_ j_)))) | (refine ⟨sl_, hs2_, hs3_, hs4_, rf_eq, Or.inl ⟨e9_, w1_, ?_, ?_, fun j_ => ?_⟩⟩; (rw [← ee_.2]; omega); (refine (rf_nt (by decide)).trans (rf_eq.trans ee_.1)); (refine (rf_nt (by decide)).trans ((rf_nt (by decide)).trans ((w3_ j_).trans ((rf_nt (by decide)).trans (us15_ j_))))))
    obtain ⟨rfl, hIx36_, hFx37_, px38_⟩ := px38_
    have hFx39_ : ai_fr (sx_W vw_214) S0_ Sx35_ := ai_fr_tr hFx34_ (fr_le hFx37_ rfl)
    obtain ⟨r9_, w1_, w3_⟩ := px38_
    have lf35_ := hFx37_.1 12 0 10 rfl
    have hIx46_ : gi (sm_pI Sx35_ 10 0 1 0) := gi_pI hIx36_ (show 0 ≤ 0 ∧ 0 ≤ 1280 from ⟨by omega, by omega⟩)
    have hFx47_ : ai_fr (sx_W vw_214) S0_ (sm_pI Sx35_ 10 0 1 0) := ai_fr_tr hFx39_ (ai_fr_pI rfl)
    refine sm_T_go 6 (c1 := (72, [some (.inr (.inr (some (12, 0)))), some (.inl vx6_), some (.inl vx6_), none], [.inl vx6_], sm_pI Sx35_ 10 0 1 0)) rfl ?_
    refine sm_T_ri rfl (Or.inl ⟨_, _, _, rfl, Nat.le_of_ble_eq_true rfl, _, rfl, hIx46_, hFx47_, ?_⟩)
    first | (exact absurd rfl e15_) | (refine ⟨sl_, hs2_, hs3_, hs4_, rf_eq, Or.inr ⟨⟨r9_, w1_⟩, hs1_, ?_, fun j_ => ?_⟩⟩; (exact (rf_nt (by decide)).trans (lf35_.trans rf_eq)); (refine (rf_nt (by decide)).trans ((w3_ j_).trans ?_); rw [hs1_, Int.toNat_natCast]; by_cases z_ : j_ = sl_; (rw [if_pos z_, if_pos z_]); (rw [if_neg z_, if_neg z_]; exact (rf_nt (by decide)).trans (us15_ j_)))) | (refine ⟨sl_, hs2_, hs3_, hs4_, rf_eq, Or.inl ⟨e9_, w1_, ?_, ?_, fun j_ => ?_⟩⟩; (rw [← ee_.2]; omega); (refine (rf_nt (by decide)).trans (rf_eq.trans ee_.1)); (refine (rf_nt (by decide)).trans ((rf_nt (by decide)).trans ((w3_ j_).trans ((rf_nt (by decide)).trans (us15_ j_))))))
end
/-! 99.z7a -/
section
/-! the class: limits; written by wip/p55/gen/vg -/

/-! sums that are_ cut_ off_ at different heights -/
def mc (x_ : Int) : Int := if 100000 < x_ then 100000 else x_
theorem mc_b {x_ : Int} (h_ : 0 ≤ x_) : 0 ≤ mc x_ ∧ mc x_ ≤ 100000 := by
  unfold mc
  split <;> omega
theorem mn_mc {x_ : Int} : mn (mc x_) = mn x_ := by
  unfold mn mc
  repeat' split
  all_goals omega
theorem mn_ad {x_ y_ z_ w_ : Int} (hx_ : 0 ≤ x_) (hy_ : 0 ≤ y_) (hz_ : 0 ≤ z_) (hw_ : 0 ≤ w_) (h1_ : mn x_ = mn z_) (h2_ : mn y_ = mn w_) : mn (x_ + y_) = mn (z_ + w_) := by
  unfold mn at h1_ h2_ ⊢
  repeat' split at h1_
  all_goals repeat' split at h2_
  all_goals repeat' split
  all_goals omega
theorem su_mn {f_ g_ : Nat → Int} : ∀ {k_ : Nat}, (∀ j_, j_ < k_ → 0 ≤ f_ j_ ∧ 0 ≤ g_ j_ ∧ mn (f_ j_) = mn (g_ j_)) → 0 ≤ su f_ k_ ∧ 0 ≤ su g_ k_ ∧ mn (su f_ k_) = mn (su g_ k_)
  | 0, _ => ⟨Int.le_refl _, Int.le_refl _, rfl⟩
  | k_ + 1, h_ => by
    have h1_ := su_mn (f_ := f_) (g_ := g_) (k_ := k_) (fun j_ hj_ => h_ j_ (by omega))
    have h2_ := h_ k_ (by omega)
    refine ⟨?_, ?_, ?_⟩
    · show 0 ≤ su f_ k_ + f_ k_
      omega
    · show 0 ≤ su g_ k_ + g_ k_
      omega
    · exact mn_ad h1_.1 h2_.1 h1_.2.1 h2_.2.1 h1_.2.2 h2_.2.2
/-- both tables of_ a_ module's sums are_ the_ same below a_ thousand -/
theorem sat_eq {b_ : Nat → Int} {n_ M_ : Nat} {A_ : pA} {r1_ r2_ i1_ i2_ : Nat → Int} (hA_ : ∀ m_, m_ < M_ → a_ok b_ n_ A_ m_) (h1_ : ∀ m_, m_ < M_ → r1_ m_ = mn (su (t_rg r1_ A_ m_) (A_.1 m_))) (h2_ : ∀ m_, m_ < M_ → r2_ m_ = mc (su (t_rg r2_ A_ m_) (A_.1 m_))) (h3_ : ∀ m_, m_ < M_ → i1_ m_ = mn (su (t_is i1_ A_ m_) (A_.1 m_))) (h4_ : ∀ m_, m_ < M_ → i2_ m_ = mc (su (t_is i2_ A_ m_) (A_.1 m_))) : ∀ k_ m_, m_ < k_ → m_ < M_ → (r1_ m_ = mn (r2_ m_) ∧ 0 ≤ r2_ m_) ∧ (i1_ m_ = mn (i2_ m_) ∧ 0 ≤ i2_ m_) := by
  intro k_
  induction k_ with
  | zero => intro m_ hm_; exact absurd hm_ (Nat.not_lt_zero _)
  | succ k_ ih_ =>
    intro m_ hm_ hM_
    have a1_ := (hA_ m_ hM_).2 m_ (Nat.le_refl m_)
    have dt_ : ∀ s_, s_ < A_.1 m_ → A_.2.2.1 (40 * m_ + s_) = 5 → (A_.2.2.2.2 (40 * m_ + s_)).toNat < m_ := by
      intro s_ hs_ h5_
      have := (a1_.2 s_ hs_).2.2.2.2.1 h5_
      omega
    have q1_ := su_mn (f_ := t_rg r1_ A_ m_) (g_ := t_rg r2_ A_ m_) (k_ := A_.1 m_) (fun s_ hs_ => by
      have w_ := (a1_.2 s_ hs_).2.2.1
      unfold t_rg
      by_cases z_ : A_.2.2.1 (40 * m_ + s_) = 3 ∨ A_.2.2.1 (40 * m_ + s_) = 4
      · rw [if_pos z_, if_pos z_]; exact ⟨w_.1, w_.1, rfl⟩
      · rw [if_neg z_, if_neg z_]
        by_cases z2_ : A_.2.2.1 (40 * m_ + s_) = 5
        · have d_ := dt_ s_ hs_ z2_
          have e_ := (ih_ (A_.2.2.2.2 (40 * m_ + s_)).toNat (by omega) (by omega)).1
          rw [if_pos z2_, if_pos z2_, e_.1]
          have mb_ := mn_b e_.2
          refine ⟨mb_.1, e_.2, ?_⟩
          unfold mn
          repeat' split
          all_goals omega
        · rw [if_neg z2_, if_neg z2_]; exact ⟨Int.le_refl _, Int.le_refl _, rfl⟩)
    have q2_ := su_mn (f_ := t_is i1_ A_ m_) (g_ := t_is i2_ A_ m_) (k_ := A_.1 m_) (fun s_ hs_ => by
      unfold t_is
      by_cases z2_ : A_.2.2.1 (40 * m_ + s_) = 5
      · have d_ := dt_ s_ hs_ z2_
        have e_ := (ih_ (A_.2.2.2.2 (40 * m_ + s_)).toNat (by omega) (by omega)).2
        rw [if_pos z2_, if_pos z2_, e_.1]
        have mb_ := mn_b e_.2
        refine ⟨by omega, by omega, ?_⟩
        unfold mn
        repeat' split
        all_goals omega
      · rw [if_neg z2_, if_neg z2_]; exact ⟨Int.le_refl _, Int.le_refl _, rfl⟩)
    rw [h1_ m_ hM_, h2_ m_ hM_, h3_ m_ hM_, h4_ m_ hM_, mn_mc, mn_mc]
    exact ⟨⟨q1_.2.2, (mc_b q1_.2.1).1⟩, q2_.2.2, (mc_b q2_.2.1).1⟩
theorem lm_sat {i_ r_ x_ y_ : Int} (hi_ : 0 ≤ i_) (hr_ : 0 ≤ r_) (hx_ : 0 ≤ x_) : p_lm (mn i_) x_ (mn r_) y_ = p_lm i_ x_ r_ y_ := by
  unfold p_lm mn
  repeat' split
  all_goals first | rfl | (exfalso; omega)
/-! Builder.bitsOf -/
def vw_33 : sx_Wl := ([], [], [])
def vq_33 (m_ : Int) (so_ : Int) (b_ : Nat → Int) (n_ : Nat) (A_ : pA) (mm_ : Nat) (S0_ : sm_S) (u_ : Option sm_V) (S1_ : sm_S) : Prop := S0_ = S1_ ∧ ∃ v_ : Int, u_ = some (.inl v_) ∧ (v_ = su (t_in A_ so_ mm_) (A_.1 mm_) ∧ 0 ≤ v_ ∧ v_ ≤ 320)
set_option maxHeartbeats 400000 in
theorem vl_33 {sc_ : Nat × (Nat → Int)} (m_ : Int) (so_ : Int) (b_ : Nat → Int) (n_ : Nat) (A_ : pA) (mm_ : Nat) (S0_ : sm_S) (hm1_ : m_ = (mm_ : Int) ∧ mm_ ≤ 15) (hr_ : er1 b_ n_ A_ mm_ S0_) (hA_ : a_ok b_ n_ A_ mm_) : ∀ nn_ : Nat, (∀ (c_ : Int) (k_ : Int) (S_ : sm_S), gi S_ → ai_fr (sx_W vw_33) S0_ S_ → ((0 ≤ k_ ∧ k_ ≤ (A_.1 mm_ : Int)) ∧ (c_ = su (t_in A_ so_ mm_) k_.toNat) ∧ (S_ = S0_) ∧ True) → (((A_.1 mm_ : Int) - k_).toNat) < nn_ → sm_T (mt_P sc_) 0 33 (5, [some (.inr (.inr (some (1, 0)))), some (.inl m_), some (.inl so_), some (.inl c_), some (.inl k_)], [], S_) (fun r_ => ∃ u_ S1_, r_ = (.inl u_, S1_, 0) ∧ vq_33 m_ so_ b_ n_ A_ mm_ S0_ u_ S1_)) := by
  intro nn_
  induction nn_ with
  | zero => exact fun _ _ _ _ _ _ h_ => absurd h_ (Nat.not_lt_zero _)
  | succ nn_ ih_ =>
    rintro c_ k_ S_ hI_ hF_ ⟨h0_, h1_, hS_, -⟩ hm_
    have A40_ := (hA_.2 mm_ (Nat.le_refl _)).1
    have hK_ : S_.2.2.1 77 0 m_.toNat = (A_.1 mm_ : Int) := by rw [hS_, show m_.toNat = mm_ by omega]; exact hr_.1
    have cb_ := su_b (f_ := t_in A_ so_ mm_) (c_ := 8) (k_ := k_.toNat) (fun j_ hj_ => by have z_ := ((hA_.2 mm_ (Nat.le_refl _)).2 j_ (by omega)).2.2.1; unfold t_in; split <;> omega)
    have sv_ : k_ < (A_.1 mm_ : Int) → S_.2.2.1 79 0 (40 * m_ + k_).toNat = A_.2.2.1 (40 * mm_ + k_.toNat) ∧ S_.2.2.1 80 0 (40 * m_ + k_).toNat = A_.2.2.2.1 (40 * mm_ + k_.toNat) := by intro z_; rw [hS_, show (40 * m_ + k_).toNat = 40 * mm_ + k_.toNat by omega]; exact ⟨(hr_.2 k_.toNat (by omega)).2.1, (hr_.2 k_.toNat (by omega)).2.2.1⟩
    refine sm_T_go 5 (c1 := (15, [some (.inr (.inr (some (1, 0)))), some (.inl m_), some (.inl so_), some (.inl c_), some (.inl k_)], [.inl m_, .inr (.inr (some (77, 0))), .inl k_], S_)) rfl ?_
    refine sm_T_iald (n := 17) rfl rfl (by omega) (by omega) ?_
    have bx1_ : 0 ≤ S_.2.2.1 77 0 m_.toNat ∧ S_.2.2.1 77 0 m_.toNat ≤ 40 := hI_.2 77 0 _
    refine sm_T_br (a := 3) (z := 46) rfl (fun cx2_ => ?_) (fun cx2_ => ?_)
    · have cx2_ : (S_.2.2.1 77 0 m_.toNat) ≤ k_ := of_decide_eq_true cx2_
      refine sm_T_go 1 (c1 := (63, [some (.inr (.inr (some (1, 0)))), some (.inl m_), some (.inl so_), some (.inl c_), some (.inl k_)], [.inl c_], S_)) rfl ?_
      refine sm_T_ri rfl ⟨_, _, rfl, (by first | rfl | exact hS_.symm), _, rfl, ?_⟩
      refine ⟨?_, by omega, by omega⟩
      rw [show A_.1 mm_ = k_.toNat by omega]
      exact h1_
    · have cx2_ : ¬ ((S_.2.2.1 77 0 m_.toNat) ≤ k_) := of_decide_eq_false cx2_
      refine sm_T_go 5 (c1 := (29, [some (.inr (.inr (some (1, 0)))), some (.inl m_), some (.inl so_), some (.inl c_), some (.inl k_)], [.inl 40, .inl m_, .inr (.inr (some (79, 0)))], S_)) rfl ?_
      refine sm_T_bin (w := 40 * m_) rfl (bi_mul (by omega) (by omega) (by omega)) ?_
      refine sm_T_go 1 (c1 := (32, [some (.inr (.inr (some (1, 0)))), some (.inl m_), some (.inl so_), some (.inl c_), some (.inl k_)], [.inl k_, .inl (40 * m_), .inr (.inr (some (79, 0)))], S_)) rfl ?_
      refine sm_T_bin (w := 40 * m_ + k_) rfl (bi_add (by omega) (by omega) (by omega)) ?_
      refine sm_T_iald (n := 640) rfl rfl (by omega) (by omega) ?_
      have bx3_ : 0 ≤ S_.2.2.1 79 0 (40 * m_ + k_).toNat ∧ S_.2.2.1 79 0 (40 * m_ + k_).toNat ≤ 5 := hI_.2 79 0 _
      refine sm_T_go 1 (c1 := (35, [some (.inr (.inr (some (1, 0)))), some (.inl m_), some (.inl so_), some (.inl c_), some (.inl k_)], [.inl so_, .inl (S_.2.2.1 79 0 (40 * m_ + k_).toNat)], S_)) rfl ?_
      refine sm_T_br (a := 1) (z := 21) rfl (fun cx4_ => ?_) (fun cx4_ => ?_)
      · have cx4_ : (S_.2.2.1 79 0 (40 * m_ + k_).toNat) ≠ so_ := of_decide_eq_true cx4_
        refine sm_T_inc (a := 4) (z := 1) (v := k_) (w := k_ + 1) rfl rfl (by omega) (by omega) (by omega) ?_
        refine sm_T_go 1 (c1 := (5, [some (.inr (.inr (some (1, 0)))), some (.inl m_), some (.inl so_), some (.inl c_), some (.inl (k_ + 1))], [], S_)) rfl ?_
        refine ih_ c_ (k_ + 1) S_ hI_ hF_ ⟨?_, ?_, ?_, trivial⟩ ?_
        · omega
        · have s9_ := sv_ (by omega)
          rw [show (k_ + 1).toNat = k_.toNat + 1 by omega]
          show _ = su (t_in A_ so_ mm_) k_.toNat + (if A_.2.2.1 (40 * mm_ + k_.toNat) = so_ then A_.2.2.2.1 (40 * mm_ + k_.toNat) else 0)
          first | (rw [if_pos (by omega)]; omega) | (rw [if_neg (by omega)]; omega)
        · first | rfl | exact hS_
        · omega
      · have cx4_ : ¬ ((S_.2.2.1 79 0 (40 * m_ + k_).toNat) ≠ so_) := of_decide_eq_false cx4_
        refine sm_T_go 6 (c1 := (49, [some (.inr (.inr (some (1, 0)))), some (.inl m_), some (.inl so_), some (.inl c_), some (.inl k_)], [.inl 40, .inl m_, .inr (.inr (some (80, 0))), .inl c_], S_)) rfl ?_
        refine sm_T_bin (w := 40 * m_) rfl (bi_mul (by omega) (by omega) (by omega)) ?_
        refine sm_T_go 1 (c1 := (52, [some (.inr (.inr (some (1, 0)))), some (.inl m_), some (.inl so_), some (.inl c_), some (.inl k_)], [.inl k_, .inl (40 * m_), .inr (.inr (some (80, 0))), .inl c_], S_)) rfl ?_
        refine sm_T_bin (w := 40 * m_ + k_) rfl (bi_add (by omega) (by omega) (by omega)) ?_
        refine sm_T_iald (n := 640) rfl rfl (by omega) (by omega) ?_
        have bx5_ : 0 ≤ S_.2.2.1 80 0 (40 * m_ + k_).toNat ∧ S_.2.2.1 80 0 (40 * m_ + k_).toNat ≤ 8 := hI_.2 80 0 _
        refine sm_T_bin (w := c_ + (S_.2.2.1 80 0 (40 * m_ + k_).toNat)) rfl (bi_add (by omega) (by omega) (by omega)) ?_
        refine sm_T_go 1 (c1 := (56, [some (.inr (.inr (some (1, 0)))), some (.inl m_), some (.inl so_), some (.inl (c_ + (S_.2.2.1 80 0 (40 * m_ + k_).toNat))), some (.inl k_)], [], S_)) rfl ?_
        refine sm_T_inc (a := 4) (z := 1) (v := k_) (w := k_ + 1) rfl rfl (by omega) (by omega) (by omega) ?_
        refine sm_T_go 1 (c1 := (5, [some (.inr (.inr (some (1, 0)))), some (.inl m_), some (.inl so_), some (.inl (c_ + (S_.2.2.1 80 0 (40 * m_ + k_).toNat))), some (.inl (k_ + 1))], [], S_)) rfl ?_
        refine ih_ (c_ + (S_.2.2.1 80 0 (40 * m_ + k_).toNat)) (k_ + 1) S_ hI_ hF_ ⟨?_, ?_, ?_, trivial⟩ ?_
        · omega
        · have s9_ := sv_ (by omega)
          rw [show (k_ + 1).toNat = k_.toNat + 1 by omega]
          show _ = su (t_in A_ so_ mm_) k_.toNat + (if A_.2.2.1 (40 * mm_ + k_.toNat) = so_ then A_.2.2.2.1 (40 * mm_ + k_.toNat) else 0)
          first | (rw [if_pos (by omega)]; omega) | (rw [if_neg (by omega)]; omega)
        · first | rfl | exact hS_
        · omega
set_option maxHeartbeats 400000 in
theorem vc_33 {sc_ : Nat × (Nat → Int)} (m_ : Int) (so_ : Int) (b_ : Nat → Int) (n_ : Nat) (A_ : pA) (mm_ : Nat) (S0_ : sm_S) (hI_ : gi S0_) (hm1_ : m_ = (mm_ : Int) ∧ mm_ ≤ 15) (hr_ : er1 b_ n_ A_ mm_ S0_) (hA_ : a_ok b_ n_ A_ mm_) : sm_T (mt_P sc_) 0 33 (0, [some (.inr (.inr (some (1, 0)))), some (.inl m_), some (.inl so_), none, none], [], S0_) (fun r_ => ∃ u_ S1_, r_ = (.inl u_, S1_, 0) ∧ vq_33 m_ so_ b_ n_ A_ mm_ S0_ u_ S1_) := by
  have hF_ : ai_fr (sx_W vw_33) S0_ S0_ := ai_fr_rf
  refine sm_T_go 4 (c1 := (5, [some (.inr (.inr (some (1, 0)))), some (.inl m_), some (.inl so_), some (.inl 0), some (.inl 0)], [], S0_)) rfl ?_
  refine (vl_33 m_ so_ b_ n_ A_ mm_ S0_ hm1_ hr_ hA_ _) 0 0 S0_ hI_ hF_ ⟨?_, ?_, ?_, trivial⟩ (Nat.lt_succ_self _)
  · omega
  · rfl
  · first | rfl | exact hS_
end
/-! 99.z8a -/
section
/-! the class: limits told; written by wip/p55/gen/vg -/

/-! limits -/
def lt1 (A_ : pA) (m_ : Nat) (S_ : sm_S) : Prop := S_.2.2.1 30 0 m_ = mc (su (t_is (S_.2.2.1 30 0) A_ m_) (A_.1 m_)) ∧ S_.2.2.1 31 0 m_ = mc (su (t_rg (S_.2.2.1 31 0) A_ m_) (A_.1 m_))
theorem er1_fr {w_ : sx_Wl} {b_ : Nat → Int} {n_ m_ : Nat} {A_ : pA} {S_ S'_ : sm_S} (y_ : er1 b_ n_ A_ m_ S_) (f_ : ai_fr (sx_W w_) S_ S'_) (h0_ : (sx_W w_).2.1 77 = false) (h1_ : (sx_W w_).2.1 78 = false) (h2_ : (sx_W w_).2.1 79 = false) (h3_ : (sx_W w_).2.1 80 = false) (h4_ : (sx_W w_).2.1 81 = false) : er1 b_ n_ A_ m_ S'_ := by
  unfold er1 at y_ ⊢
  rw [fr_arr f_ h0_, fr_arr f_ h1_, fr_arr f_ h2_, fr_arr f_ h3_, fr_arr f_ h4_]
  exact y_
theorem sm_mc (x_ : Int) : sm_mn x_ 100000 = mc x_ := by
  have z_ := sm_mn_d x_ 100000
  unfold mc
  split <;> omega
theorem lm_both {b_ : Nat → Int} {n_ M_ : Nat} {A_ : pA} {S_ S'_ : sm_S} (hA_ : ∀ m_, m_ < M_ → a_ok b_ n_ A_ m_) (h1_ : ∀ m_, m_ < M_ → rs1 A_ m_ S_) (h2_ : ∀ m_, m_ < M_ → lt1 A_ m_ S'_) (hM_ : 1 ≤ M_) : p_lm (S_.2.2.1 135 0 (M_ - 1)) (S_.2.2.1 132 0 (M_ - 1)) (S_.2.2.1 134 0 (M_ - 1)) (S_.2.2.1 133 0 (M_ - 1)) = p_lm (S'_.2.2.1 30 0 (M_ - 1)) (su (t_in A_ 0 (M_ - 1)) (A_.1 (M_ - 1))) (S'_.2.2.1 31 0 (M_ - 1)) (su (t_in A_ 1 (M_ - 1)) (A_.1 (M_ - 1))) := by
  have k_ := sat_eq (r1_ := S_.2.2.1 134 0) (r2_ := S'_.2.2.1 31 0) (i1_ := S_.2.2.1 135 0) (i2_ := S'_.2.2.1 30 0) hA_ (fun m_ hm_ => (h1_ m_ hm_).2.2.1) (fun m_ hm_ => (h2_ m_ hm_).2) (fun m_ hm_ => (h1_ m_ hm_).2.2.2) (fun m_ hm_ => (h2_ m_ hm_).1) M_ (M_ - 1) (by omega) (by omega)
  have q_ := h1_ (M_ - 1) (by omega)
  have a_ := (hA_ (M_ - 1) (by omega)).2 (M_ - 1) (Nat.le_refl _)
  have c_ := su_b (f_ := t_in A_ 0 (M_ - 1)) (c_ := 8) (k_ := A_.1 (M_ - 1)) (fun j_ hj_ => by
    have z_ := (a_.2 j_ hj_).2.2.1
    unfold t_in
    split <;> omega)
  rw [k_.1.1, k_.2.1, q_.1, q_.2.1, lm_sat k_.2.2 k_.1.2 c_.1]
theorem lt1_up {b_ : Nat → Int} {n_ m_ : Nat} {A_ : pA} {S_ S'_ : sm_S} (hA_ : a_ok b_ n_ A_ m_) (h_ : ∀ k_, k_ < m_ → lt1 A_ k_ S_) (h0_ : ∀ j_, S'_.2.2.1 30 0 j_ = if j_ = m_ then mc (su (t_is (S_.2.2.1 30 0) A_ m_) (A_.1 m_)) else S_.2.2.1 30 0 j_) (h1_ : ∀ j_, S'_.2.2.1 31 0 j_ = if j_ = m_ then mc (su (t_rg (S_.2.2.1 31 0) A_ m_) (A_.1 m_)) else S_.2.2.1 31 0 j_) : ∀ k_, k_ < m_ + 1 → lt1 A_ k_ S'_ := by
  intro k_ hk_
  have dt_ : ∀ s_, s_ < A_.1 k_ → A_.2.2.1 (40 * k_ + s_) = 5 → (A_.2.2.2.2 (40 * k_ + s_)).toNat ≠ m_ := by
    intro s_ hs_ h5_
    have := ((hA_.2 k_ (by omega)).2 s_ hs_).2.2.2.2.1 h5_
    omega
  have e0_ : su (t_is (S'_.2.2.1 30 0) A_ k_) (A_.1 k_) = su (t_is (S_.2.2.1 30 0) A_ k_) (A_.1 k_) := su_cg (fun s_ hs_ => by
    unfold t_is
    by_cases z2_ : A_.2.2.1 (40 * k_ + s_) = 5
    · rw [if_pos z2_, if_pos z2_, h0_, if_neg (dt_ s_ hs_ z2_)]
    · rw [if_neg z2_, if_neg z2_])
  have e1_ : su (t_rg (S'_.2.2.1 31 0) A_ k_) (A_.1 k_) = su (t_rg (S_.2.2.1 31 0) A_ k_) (A_.1 k_) := su_cg (fun s_ hs_ => by
    unfold t_rg
    by_cases z_ : A_.2.2.1 (40 * k_ + s_) = 3 ∨ A_.2.2.1 (40 * k_ + s_) = 4
    · rw [if_pos z_, if_pos z_]
    · rw [if_neg z_, if_neg z_]
      by_cases z2_ : A_.2.2.1 (40 * k_ + s_) = 5
      · rw [if_pos z2_, if_pos z2_, h1_, if_neg (dt_ s_ hs_ z2_)]
      · rw [if_neg z2_, if_neg z2_])
  unfold lt1
  rw [e0_, e1_, h0_, h1_]
  by_cases e_ : k_ = m_
  · rw [if_pos e_, if_pos e_, e_]
    exact ⟨rfl, rfl⟩
  · rw [if_neg e_, if_neg e_]
    exact h_ k_ (by omega)
end
/-! 99.z8b -/
section
/-! Builder.limitFault -/
def vw_32 : sx_Wl := ([(3, 1), (3, 2), (3, 3)], [30, 31], [])
def vq_32 (mx_ : Int) (b_ : Nat → Int) (n_ : Nat) (A_ : pA) (mm_ : Nat) (dd_ : Nat) (S0_ : sm_S) (u_ : Option sm_V) (S1_ : sm_S) : Prop := ∃ v_ : Int, u_ = some (.inl v_) ∧ gi S1_ ∧ ai_fr (sx_W vw_32) S0_ S1_ ∧ (v_ = p_lm (S1_.2.2.1 30 0 mm_) (su (t_in A_ 0 mm_) (A_.1 mm_)) (S1_.2.2.1 31 0 mm_) (su (t_in A_ 1 mm_) (A_.1 mm_)) ∧ (∀ k_ : Nat, k_ < mm_ + 1 → lt1 A_ k_ S1_) ∧ (v_ ≠ 20 → S1_.1 3 dd_ 1 = su (t_in A_ 0 mm_) (A_.1 mm_) ∧ S1_.1 3 dd_ 2 = S1_.2.2.1 31 0 mm_ ∧ S1_.1 3 dd_ 3 = su (t_in A_ 1 mm_) (A_.1 mm_)))
set_option maxHeartbeats 1500000 in
set_option maxRecDepth 20000 in
theorem vl_32 {sc_ : Nat × (Nat → Int)} (mx_ : Int) (b_ : Nat → Int) (n_ : Nat) (A_ : pA) (mm_ : Nat) (dd_ : Nat) (S0_ : sm_S) (hmx_ : mx_ = (mm_ : Int) ∧ mm_ ≤ 15) (her_ : ∀ k_, k_ ≤ mm_ → er1 b_ n_ A_ k_ S0_) (hA_ : a_ok b_ n_ A_ mm_) (hd_ : S0_.2.1 1 0 1 = some dd_) : ∀ nn_ : Nat, (∀ (m_ : Int) (S_ : sm_S), gi S_ → ai_fr (sx_W vw_32) S0_ S_ → ((0 ≤ m_ ∧ m_ ≤ mx_ + 1) ∧ (∀ k_ : Nat, k_ < m_.toNat → lt1 A_ k_ S_) ∧ True) → ((100 * (20 - m_) + 50).toNat) < nn_ → sm_T (mt_P sc_) 1 32 (2, [some (.inr (.inr (some (1, 0)))), some (.inl mx_), some (.inl m_), none, none, none, none], [], S_) (fun r_ => ∃ u_ S1_, r_ = (.inl u_, S1_, 0) ∧ vq_32 mx_ b_ n_ A_ mm_ dd_ S0_ u_ S1_)) ∧ (∀ (m_ : Int) (us_ : Int) (bi_ : Int) (s_ : Int) (S_ : sm_S), gi S_ → ai_fr (sx_W vw_32) S0_ S_ → ((0 ≤ m_ ∧ m_ ≤ mx_) ∧ (0 ≤ s_ ∧ s_ ≤ (A_.1 m_.toNat : Int)) ∧ (us_ = su (t_is (S_.2.2.1 30 0) A_ m_.toNat) s_.toNat) ∧ (bi_ = su (t_rg (S_.2.2.1 31 0) A_ m_.toNat) s_.toNat) ∧ ((0 ≤ us_ ∧ us_ ≤ 100001 * s_) ∧ (0 ≤ bi_ ∧ bi_ ≤ 100000 * s_)) ∧ (∀ k_ : Nat, k_ < m_.toNat → lt1 A_ k_ S_) ∧ True) → ((100 * (20 - m_) + 45 - s_).toNat) < nn_ → sm_T (mt_P sc_) 1 32 (15, [some (.inr (.inr (some (1, 0)))), some (.inl mx_), some (.inl m_), some (.inl us_), some (.inl bi_), some (.inl s_), none], [], S_) (fun r_ => ∃ u_ S1_, r_ = (.inl u_, S1_, 0) ∧ vq_32 mx_ b_ n_ A_ mm_ dd_ S0_ u_ S1_)) := by
  intro nn_
  induction nn_ with
  | zero => exact ⟨fun _ _ _ _ _ h_ => absurd h_ (Nat.not_lt_zero _), fun _ _ _ _ _ _ _ _ h_ => absurd h_ (Nat.not_lt_zero _)⟩
  | succ nn_ ih_ =>
    refine ⟨?_, ?_⟩
    · rintro m_ S_ hI_ hF_ ⟨h0_, h1_, -⟩ hm_
      have her1_ : ∀ k_, k_ ≤ mm_ → er1 b_ n_ A_ k_ S_ := fun k_ hk_ => er1_fr (her_ k_ hk_) hF_ rfl rfl rfl rfl rfl
      have dsg_ : S_.2.1 1 0 1 = some dd_ := (hF_.2.1 1 0 1 rfl).trans hd_
      refine sm_T_go 2 (c1 := (4, [some (.inr (.inr (some (1, 0)))), some (.inl mx_), some (.inl m_), none, none, none, none], [.inl mx_, .inl m_], S_)) rfl ?_
      refine sm_T_br (a := 4) (z := 171) rfl (fun cx1_ => ?_) (fun cx1_ => ?_)
      · have cx1_ : mx_ < m_ := of_decide_eq_true cx1_
        have tb_ : ∀ k_ : Nat, k_ < mm_ + 1 → lt1 A_ k_ S_ := fun k_ hk_ => h1_ k_ (by omega)
        have mI_ : mx_.toNat = mm_ := by omega
        refine sm_T_go 3 (c1 := (180, [some (.inr (.inr (some (1, 0)))), some (.inl mx_), some (.inl m_), none, none, none, none], [.inl mx_, .inr (.inr (some (30, 0)))], S_)) rfl ?_
        refine sm_T_iald (n := 16) rfl rfl (by omega) (by omega) ?_
        have bx2_ : 0 ≤ S_.2.2.1 30 0 mx_.toNat ∧ S_.2.2.1 30 0 mx_.toNat ≤ 100000 := hI_.2 30 0 _
        refine sm_T_go 1 (c1 := (184, [some (.inr (.inr (some (1, 0)))), some (.inl mx_), some (.inl m_), none, none, none, none], [.inl 200, .inl (S_.2.2.1 30 0 mx_.toNat)], S_)) rfl ?_
        refine sm_T_br (a := 5) (z := 6) rfl (fun cx3_ => ?_) (fun cx3_ => ?_)
        · have cx3_ : (S_.2.2.1 30 0 mx_.toNat) ≤ 200 := of_decide_eq_true cx3_
          refine sm_T_go 1 (c1 := (191, [some (.inr (.inr (some (1, 0)))), some (.inl mx_), some (.inl m_), none, none, none, none], [.inr (.inr (some (1, 0)))], S_)) rfl ?_
          cases qx4_ : S_.2.1 1 0 1 with
          | none =>
            exfalso; (rw [dsg_] at qx4_; cases qx4_)
          | some jx5_ =>
            refine sm_T_gr rfl rfl qx4_ ?_
            have jd_ : dd_ = jx5_ := by rw [dsg_] at qx4_; exact Option.some.inj qx4_
            refine sm_T_go 3 (c1 := (197, [some (.inr (.inr (some (1, 0)))), some (.inl mx_), some (.inl m_), none, none, none, none], [.inl 0, .inl mx_, .inr (.inr (some (1, 0))), .inr (.inr (some (3, jx5_)))], S_)) rfl ?_
            refine sm_T_cal (d1 := 0) (Q1 := vq_33 mx_ 0 b_ n_ A_ mm_ S_) rfl rfl (by decide) (vc_33 mx_ 0 b_ n_ A_ mm_ S_ hI_ (by omega) (by first | exact her1_ mm_ (Nat.le_refl _) | exact er1_fr (her_ mm_ (Nat.le_refl _)) hF_ rfl rfl rfl rfl rfl) (by exact hA_)) (fun u_ Sx6_ px9_ => ?_)
            obtain ⟨rfl, vx11_, rfl, px9_⟩ := px9_
            have b197_ := px9_
            have hIx12_ : gi (sm_pI S_ 3 jx5_ 1 vx11_) := gi_pI hI_ (show 0 ≤ vx11_ ∧ vx11_ ≤ 320 from ⟨by omega, by omega⟩)
            have hFx13_ : ai_fr (sx_W vw_32) S0_ (sm_pI S_ 3 jx5_ 1 vx11_) := ai_fr_tr hF_ (ai_fr_pI rfl)
            refine sm_T_go 2 (c1 := (204, [some (.inr (.inr (some (1, 0)))), some (.inl mx_), some (.inl m_), none, none, none, none], [.inr (.inr (some (1, 0)))], sm_pI S_ 3 jx5_ 1 vx11_)) rfl ?_
            refine sm_T_gr rfl rfl qx4_ ?_
            refine sm_T_go 3 (c1 := (212, [some (.inr (.inr (some (1, 0)))), some (.inl mx_), some (.inl m_), none, none, none, none], [.inl mx_, .inr (.inr (some (31, 0))), .inr (.inr (some (3, jx5_)))], sm_pI S_ 3 jx5_ 1 vx11_)) rfl ?_
            refine sm_T_iald (n := 16) rfl rfl (by omega) (by omega) ?_
            have bx14_ : 0 ≤ S_.2.2.1 31 0 mx_.toNat ∧ S_.2.2.1 31 0 mx_.toNat ≤ 100000 := hI_.2 31 0 _
            have hIx15_ : gi (sm_pI (sm_pI S_ 3 jx5_ 1 vx11_) 3 jx5_ 2 (S_.2.2.1 31 0 mx_.toNat)) := gi_pI hIx12_ (show 0 ≤ (S_.2.2.1 31 0 mx_.toNat) ∧ (S_.2.2.1 31 0 mx_.toNat) ≤ 100000 from ⟨by omega, by omega⟩)
            have hFx16_ : ai_fr (sx_W vw_32) S0_ (sm_pI (sm_pI S_ 3 jx5_ 1 vx11_) 3 jx5_ 2 (S_.2.2.1 31 0 mx_.toNat)) := ai_fr_tr hFx13_ (ai_fr_pI rfl)
            refine sm_T_go 2 (c1 := (217, [some (.inr (.inr (some (1, 0)))), some (.inl mx_), some (.inl m_), none, none, none, none], [.inr (.inr (some (1, 0)))], sm_pI (sm_pI S_ 3 jx5_ 1 vx11_) 3 jx5_ 2 (S_.2.2.1 31 0 mx_.toNat))) rfl ?_
            refine sm_T_gr rfl rfl qx4_ ?_
            refine sm_T_go 3 (c1 := (223, [some (.inr (.inr (some (1, 0)))), some (.inl mx_), some (.inl m_), none, none, none, none], [.inl 1, .inl mx_, .inr (.inr (some (1, 0))), .inr (.inr (some (3, jx5_)))], sm_pI (sm_pI S_ 3 jx5_ 1 vx11_) 3 jx5_ 2 (S_.2.2.1 31 0 mx_.toNat))) rfl ?_
            refine sm_T_cal (d1 := 0) (Q1 := vq_33 mx_ 1 b_ n_ A_ mm_ (sm_pI (sm_pI S_ 3 jx5_ 1 vx11_) 3 jx5_ 2 (S_.2.2.1 31 0 mx_.toNat))) rfl rfl (by decide) (vc_33 mx_ 1 b_ n_ A_ mm_ (sm_pI (sm_pI S_ 3 jx5_ 1 vx11_) 3 jx5_ 2 (S_.2.2.1 31 0 mx_.toNat)) hIx15_ (by omega) (by first | exact her1_ mm_ (Nat.le_refl _) | exact er1_fr (her_ mm_ (Nat.le_refl _)) hFx16_ rfl rfl rfl rfl rfl) (by exact hA_)) (fun u_ Sx17_ px20_ => ?_)
            obtain ⟨rfl, vx22_, rfl, px20_⟩ := px20_
            have b223_ := px20_
            have hIx23_ : gi (sm_pI (sm_pI (sm_pI S_ 3 jx5_ 1 vx11_) 3 jx5_ 2 (S_.2.2.1 31 0 mx_.toNat)) 3 jx5_ 3 vx22_) := gi_pI hIx15_ (show 0 ≤ vx22_ ∧ vx22_ ≤ 320 from ⟨by omega, by omega⟩)
            have hFx24_ : ai_fr (sx_W vw_32) S0_ (sm_pI (sm_pI (sm_pI S_ 3 jx5_ 1 vx11_) 3 jx5_ 2 (S_.2.2.1 31 0 mx_.toNat)) 3 jx5_ 3 vx22_) := ai_fr_tr hFx16_ (ai_fr_pI rfl)
            refine sm_T_go 2 (c1 := (230, [some (.inr (.inr (some (1, 0)))), some (.inl mx_), some (.inl m_), none, none, none, none], [.inr (.inr (some (1, 0)))], sm_pI (sm_pI (sm_pI S_ 3 jx5_ 1 vx11_) 3 jx5_ 2 (S_.2.2.1 31 0 mx_.toNat)) 3 jx5_ 3 vx22_)) rfl ?_
            refine sm_T_gr rfl rfl qx4_ ?_
            have ex25_ : (sm_pI (sm_pI (sm_pI S_ 3 jx5_ 1 vx11_) 3 jx5_ 2 (S_.2.2.1 31 0 mx_.toNat)) 3 jx5_ 3 vx22_).1 3 jx5_ 2 = (S_.2.2.1 31 0 mx_.toNat) := by (try simp only [rf_eq, rf_nk, rf_nt, rd_fa, rd_af, ne_eq, Nat.reduceEqDiff, not_false_eq_true])
            refine sm_T_go 2 (c1 := (238, [some (.inr (.inr (some (1, 0)))), some (.inl mx_), some (.inl m_), none, none, none, none], [.inl 6, .inl ((sm_pI (sm_pI (sm_pI S_ 3 jx5_ 1 vx11_) 3 jx5_ 2 (S_.2.2.1 31 0 mx_.toNat)) 3 jx5_ 3 vx22_).1 3 jx5_ 2)], sm_pI (sm_pI (sm_pI S_ 3 jx5_ 1 vx11_) 3 jx5_ 2 (S_.2.2.1 31 0 mx_.toNat)) 3 jx5_ 3 vx22_)) rfl ?_
            refine sm_T_br (a := 4) (z := 23) rfl (fun cx26_ => ?_) (fun cx26_ => ?_)
            · have cx26_ : 6 < ((sm_pI (sm_pI (sm_pI S_ 3 jx5_ 1 vx11_) 3 jx5_ 2 (S_.2.2.1 31 0 mx_.toNat)) 3 jx5_ 3 vx22_).1 3 jx5_ 2) := of_decide_eq_true cx26_
              refine sm_T_go 1 (c1 := (263, [some (.inr (.inr (some (1, 0)))), some (.inl mx_), some (.inl m_), none, none, none, none], [.inl 21], sm_pI (sm_pI (sm_pI S_ 3 jx5_ 1 vx11_) 3 jx5_ 2 (S_.2.2.1 31 0 mx_.toNat)) 3 jx5_ 3 vx22_)) rfl ?_
              refine sm_T_ri rfl ⟨_, _, rfl, _, rfl, hIx23_, hFx24_, ?_⟩
              refine ⟨?_, ?_, fun _ => ⟨?_, ?_, ?_⟩⟩
              · show _ = p_lm (S_.2.2.1 30 0 mm_) _ (S_.2.2.1 31 0 mm_) _
                unfold p_lm
                rw [← b197_.1, ← b223_.1, ← mI_]
                first | (rw [if_neg (by omega), if_pos (by omega)]) | (rw [if_neg (by omega), if_neg (by omega), if_pos (by omega)]) | (rw [if_neg (by omega), if_neg (by omega), if_neg (by omega)])
              · exact tb_
              · rw [jd_]; (try simp only [rd_eq, rd_ne, rf_eq, rf_nk, rf_nt, rd_fa, rd_af, rd_fl, rd_al, rd_lf, rd_la, rd_leq, rd_lne, rd_fr, rd_ar, ne_eq, Nat.reduceEqDiff, not_false_eq_true]); exact b197_.1
              · rw [jd_]; (try simp only [rd_eq, rd_ne, rf_eq, rf_nk, rf_nt, rd_fa, rd_af, rd_fl, rd_al, rd_lf, rd_la, rd_leq, rd_lne, rd_fr, rd_ar, ne_eq, Nat.reduceEqDiff, not_false_eq_true]); rw [mI_]
              · rw [jd_]; (try simp only [rd_eq, rd_ne, rf_eq, rf_nk, rf_nt, rd_fa, rd_af, rd_fl, rd_al, rd_lf, rd_la, rd_leq, rd_lne, rd_fr, rd_ar, ne_eq, Nat.reduceEqDiff, not_false_eq_true]); exact b223_.1
            · have cx26_ : ¬ (6 < ((sm_pI (sm_pI (sm_pI S_ 3 jx5_ 1 vx11_) 3 jx5_ 2 (S_.2.2.1 31 0 mx_.toNat)) 3 jx5_ 3 vx22_).1 3 jx5_ 2)) := of_decide_eq_false cx26_
              refine sm_T_go 1 (c1 := (242, [some (.inr (.inr (some (1, 0)))), some (.inl mx_), some (.inl m_), none, none, none, none], [.inr (.inr (some (1, 0)))], sm_pI (sm_pI (sm_pI S_ 3 jx5_ 1 vx11_) 3 jx5_ 2 (S_.2.2.1 31 0 mx_.toNat)) 3 jx5_ 3 vx22_)) rfl ?_
              refine sm_T_gr rfl rfl qx4_ ?_
              have ex27_ : (sm_pI (sm_pI (sm_pI S_ 3 jx5_ 1 vx11_) 3 jx5_ 2 (S_.2.2.1 31 0 mx_.toNat)) 3 jx5_ 3 vx22_).1 3 jx5_ 1 = vx11_ := by (try simp only [rf_eq, rf_nk, rf_nt, rd_fa, rd_af, ne_eq, Nat.reduceEqDiff, not_false_eq_true])
              refine sm_T_go 2 (c1 := (249, [some (.inr (.inr (some (1, 0)))), some (.inl mx_), some (.inl m_), none, none, none, none], [.inr (.inr (some (1, 0))), .inl ((sm_pI (sm_pI (sm_pI S_ 3 jx5_ 1 vx11_) 3 jx5_ 2 (S_.2.2.1 31 0 mx_.toNat)) 3 jx5_ 3 vx22_).1 3 jx5_ 1)], sm_pI (sm_pI (sm_pI S_ 3 jx5_ 1 vx11_) 3 jx5_ 2 (S_.2.2.1 31 0 mx_.toNat)) 3 jx5_ 3 vx22_)) rfl ?_
              refine sm_T_gr rfl rfl qx4_ ?_
              have ex28_ : (sm_pI (sm_pI (sm_pI S_ 3 jx5_ 1 vx11_) 3 jx5_ 2 (S_.2.2.1 31 0 mx_.toNat)) 3 jx5_ 3 vx22_).1 3 jx5_ 2 = (S_.2.2.1 31 0 mx_.toNat) := by (try simp only [rf_eq, rf_nk, rf_nt, rd_fa, rd_af, ne_eq, Nat.reduceEqDiff, not_false_eq_true])
              refine sm_T_go 1 (c1 := (255, [some (.inr (.inr (some (1, 0)))), some (.inl mx_), some (.inl m_), none, none, none, none], [.inl ((sm_pI (sm_pI (sm_pI S_ 3 jx5_ 1 vx11_) 3 jx5_ 2 (S_.2.2.1 31 0 mx_.toNat)) 3 jx5_ 3 vx22_).1 3 jx5_ 2), .inl ((sm_pI (sm_pI (sm_pI S_ 3 jx5_ 1 vx11_) 3 jx5_ 2 (S_.2.2.1 31 0 mx_.toNat)) 3 jx5_ 3 vx22_).1 3 jx5_ 1)], sm_pI (sm_pI (sm_pI S_ 3 jx5_ 1 vx11_) 3 jx5_ 2 (S_.2.2.1 31 0 mx_.toNat)) 3 jx5_ 3 vx22_)) rfl ?_
              refine sm_T_bin (w := ((sm_pI (sm_pI (sm_pI S_ 3 jx5_ 1 vx11_) 3 jx5_ 2 (S_.2.2.1 31 0 mx_.toNat)) 3 jx5_ 3 vx22_).1 3 jx5_ 1) + ((sm_pI (sm_pI (sm_pI S_ 3 jx5_ 1 vx11_) 3 jx5_ 2 (S_.2.2.1 31 0 mx_.toNat)) 3 jx5_ 3 vx22_).1 3 jx5_ 2)) rfl (bi_add (by omega) (by omega) (by omega)) ?_
              refine sm_T_go 1 (c1 := (258, [some (.inr (.inr (some (1, 0)))), some (.inl mx_), some (.inl m_), none, none, none, none], [.inl 12, .inl (((sm_pI (sm_pI (sm_pI S_ 3 jx5_ 1 vx11_) 3 jx5_ 2 (S_.2.2.1 31 0 mx_.toNat)) 3 jx5_ 3 vx22_).1 3 jx5_ 1) + ((sm_pI (sm_pI (sm_pI S_ 3 jx5_ 1 vx11_) 3 jx5_ 2 (S_.2.2.1 31 0 mx_.toNat)) 3 jx5_ 3 vx22_).1 3 jx5_ 2))], sm_pI (sm_pI (sm_pI S_ 3 jx5_ 1 vx11_) 3 jx5_ 2 (S_.2.2.1 31 0 mx_.toNat)) 3 jx5_ 3 vx22_)) rfl ?_
              refine sm_T_br (a := 5) (z := 6) rfl (fun cx29_ => ?_) (fun cx29_ => ?_)
              · have cx29_ : ((sm_pI (sm_pI (sm_pI S_ 3 jx5_ 1 vx11_) 3 jx5_ 2 (S_.2.2.1 31 0 mx_.toNat)) 3 jx5_ 3 vx22_).1 3 jx5_ 1) + ((sm_pI (sm_pI (sm_pI S_ 3 jx5_ 1 vx11_) 3 jx5_ 2 (S_.2.2.1 31 0 mx_.toNat)) 3 jx5_ 3 vx22_).1 3 jx5_ 2) ≤ 12 := of_decide_eq_true cx29_
                refine sm_T_go 1 (c1 := (265, [some (.inr (.inr (some (1, 0)))), some (.inl mx_), some (.inl m_), none, none, none, none], [.inr (.inr (some (1, 0)))], sm_pI (sm_pI (sm_pI S_ 3 jx5_ 1 vx11_) 3 jx5_ 2 (S_.2.2.1 31 0 mx_.toNat)) 3 jx5_ 3 vx22_)) rfl ?_
                refine sm_T_gr rfl rfl qx4_ ?_
                have ex30_ : (sm_pI (sm_pI (sm_pI S_ 3 jx5_ 1 vx11_) 3 jx5_ 2 (S_.2.2.1 31 0 mx_.toNat)) 3 jx5_ 3 vx22_).1 3 jx5_ 3 = vx22_ := by (try simp only [rf_eq, rf_nk, rf_nt, rd_fa, rd_af, ne_eq, Nat.reduceEqDiff, not_false_eq_true])
                refine sm_T_go 2 (c1 := (272, [some (.inr (.inr (some (1, 0)))), some (.inl mx_), some (.inl m_), none, none, none, none], [.inl 1, .inl ((sm_pI (sm_pI (sm_pI S_ 3 jx5_ 1 vx11_) 3 jx5_ 2 (S_.2.2.1 31 0 mx_.toNat)) 3 jx5_ 3 vx22_).1 3 jx5_ 3)], sm_pI (sm_pI (sm_pI S_ 3 jx5_ 1 vx11_) 3 jx5_ 2 (S_.2.2.1 31 0 mx_.toNat)) 3 jx5_ 3 vx22_)) rfl ?_
                refine sm_T_br (a := 2) (z := 15) rfl (fun cx31_ => ?_) (fun cx31_ => ?_)
                · have cx31_ : ((sm_pI (sm_pI (sm_pI S_ 3 jx5_ 1 vx11_) 3 jx5_ 2 (S_.2.2.1 31 0 mx_.toNat)) 3 jx5_ 3 vx22_).1 3 jx5_ 3) < 1 := of_decide_eq_true cx31_
                  refine sm_T_go 2 (c1 := (293, [some (.inr (.inr (some (1, 0)))), some (.inl mx_), some (.inl m_), none, none, none, none], [.inl 22], sm_pI (sm_pI (sm_pI S_ 3 jx5_ 1 vx11_) 3 jx5_ 2 (S_.2.2.1 31 0 mx_.toNat)) 3 jx5_ 3 vx22_)) rfl ?_
                  refine sm_T_ri rfl ⟨_, _, rfl, _, rfl, hIx23_, hFx24_, ?_⟩
                  refine ⟨?_, ?_, fun _ => ⟨?_, ?_, ?_⟩⟩
                  · show _ = p_lm (S_.2.2.1 30 0 mm_) _ (S_.2.2.1 31 0 mm_) _
                    unfold p_lm
                    rw [← b197_.1, ← b223_.1, ← mI_]
                    first | (rw [if_neg (by omega), if_pos (by omega)]) | (rw [if_neg (by omega), if_neg (by omega), if_pos (by omega)]) | (rw [if_neg (by omega), if_neg (by omega), if_neg (by omega)])
                  · exact tb_
                  · rw [jd_]; (try simp only [rd_eq, rd_ne, rf_eq, rf_nk, rf_nt, rd_fa, rd_af, rd_fl, rd_al, rd_lf, rd_la, rd_leq, rd_lne, rd_fr, rd_ar, ne_eq, Nat.reduceEqDiff, not_false_eq_true]); exact b197_.1
                  · rw [jd_]; (try simp only [rd_eq, rd_ne, rf_eq, rf_nk, rf_nt, rd_fa, rd_af, rd_fl, rd_al, rd_lf, rd_la, rd_leq, rd_lne, rd_fr, rd_ar, ne_eq, Nat.reduceEqDiff, not_false_eq_true]); rw [mI_]
                  · rw [jd_]; (try simp only [rd_eq, rd_ne, rf_eq, rf_nk, rf_nt, rd_fa, rd_af, rd_fl, rd_al, rd_lf, rd_la, rd_leq, rd_lne, rd_fr, rd_ar, ne_eq, Nat.reduceEqDiff, not_false_eq_true]); exact b223_.1
                · have cx31_ : ¬ (((sm_pI (sm_pI (sm_pI S_ 3 jx5_ 1 vx11_) 3 jx5_ 2 (S_.2.2.1 31 0 mx_.toNat)) 3 jx5_ 3 vx22_).1 3 jx5_ 3) < 1) := of_decide_eq_false cx31_
                  refine sm_T_go 1 (c1 := (276, [some (.inr (.inr (some (1, 0)))), some (.inl mx_), some (.inl m_), none, none, none, none], [.inr (.inr (some (1, 0)))], sm_pI (sm_pI (sm_pI S_ 3 jx5_ 1 vx11_) 3 jx5_ 2 (S_.2.2.1 31 0 mx_.toNat)) 3 jx5_ 3 vx22_)) rfl ?_
                  refine sm_T_gr rfl rfl qx4_ ?_
                  have ex32_ : (sm_pI (sm_pI (sm_pI S_ 3 jx5_ 1 vx11_) 3 jx5_ 2 (S_.2.2.1 31 0 mx_.toNat)) 3 jx5_ 3 vx22_).1 3 jx5_ 3 = vx22_ := by (try simp only [rf_eq, rf_nk, rf_nt, rd_fa, rd_af, ne_eq, Nat.reduceEqDiff, not_false_eq_true])
                  refine sm_T_go 2 (c1 := (284, [some (.inr (.inr (some (1, 0)))), some (.inl mx_), some (.inl m_), none, none, none, none], [.inl 16, .inl ((sm_pI (sm_pI (sm_pI S_ 3 jx5_ 1 vx11_) 3 jx5_ 2 (S_.2.2.1 31 0 mx_.toNat)) 3 jx5_ 3 vx22_).1 3 jx5_ 3)], sm_pI (sm_pI (sm_pI S_ 3 jx5_ 1 vx11_) 3 jx5_ 2 (S_.2.2.1 31 0 mx_.toNat)) 3 jx5_ 3 vx22_)) rfl ?_
                  refine sm_T_br (a := 5) (z := 8) rfl (fun cx33_ => ?_) (fun cx33_ => ?_)
                  · have cx33_ : ((sm_pI (sm_pI (sm_pI S_ 3 jx5_ 1 vx11_) 3 jx5_ 2 (S_.2.2.1 31 0 mx_.toNat)) 3 jx5_ 3 vx22_).1 3 jx5_ 3) ≤ 16 := of_decide_eq_true cx33_
                    refine sm_T_go 1 (c1 := (293, [some (.inr (.inr (some (1, 0)))), some (.inl mx_), some (.inl m_), none, none, none, none], [.inl 0], sm_pI (sm_pI (sm_pI S_ 3 jx5_ 1 vx11_) 3 jx5_ 2 (S_.2.2.1 31 0 mx_.toNat)) 3 jx5_ 3 vx22_)) rfl ?_
                    refine sm_T_ri rfl ⟨_, _, rfl, _, rfl, hIx23_, hFx24_, ?_⟩
                    refine ⟨?_, ?_, fun _ => ⟨?_, ?_, ?_⟩⟩
                    · show _ = p_lm (S_.2.2.1 30 0 mm_) _ (S_.2.2.1 31 0 mm_) _
                      unfold p_lm
                      rw [← b197_.1, ← b223_.1, ← mI_]
                      first | (rw [if_neg (by omega), if_pos (by omega)]) | (rw [if_neg (by omega), if_neg (by omega), if_pos (by omega)]) | (rw [if_neg (by omega), if_neg (by omega), if_neg (by omega)])
                    · exact tb_
                    · rw [jd_]; (try simp only [rd_eq, rd_ne, rf_eq, rf_nk, rf_nt, rd_fa, rd_af, rd_fl, rd_al, rd_lf, rd_la, rd_leq, rd_lne, rd_fr, rd_ar, ne_eq, Nat.reduceEqDiff, not_false_eq_true]); exact b197_.1
                    · rw [jd_]; (try simp only [rd_eq, rd_ne, rf_eq, rf_nk, rf_nt, rd_fa, rd_af, rd_fl, rd_al, rd_lf, rd_la, rd_leq, rd_lne, rd_fr, rd_ar, ne_eq, Nat.reduceEqDiff, not_false_eq_true]); rw [mI_]
                    · rw [jd_]; (try simp only [rd_eq, rd_ne, rf_eq, rf_nk, rf_nt, rd_fa, rd_af, rd_fl, rd_al, rd_lf, rd_la, rd_leq, rd_lne, rd_fr, rd_ar, ne_eq, Nat.reduceEqDiff, not_false_eq_true]); exact b223_.1
                  · have cx33_ : ¬ (((sm_pI (sm_pI (sm_pI S_ 3 jx5_ 1 vx11_) 3 jx5_ 2 (S_.2.2.1 31 0 mx_.toNat)) 3 jx5_ 3 vx22_).1 3 jx5_ 3) ≤ 16) := of_decide_eq_false cx33_
                    refine sm_T_go 2 (c1 := (293, [some (.inr (.inr (some (1, 0)))), some (.inl mx_), some (.inl m_), none, none, none, none], [.inl 22], sm_pI (sm_pI (sm_pI S_ 3 jx5_ 1 vx11_) 3 jx5_ 2 (S_.2.2.1 31 0 mx_.toNat)) 3 jx5_ 3 vx22_)) rfl ?_
                    refine sm_T_ri rfl ⟨_, _, rfl, _, rfl, hIx23_, hFx24_, ?_⟩
                    refine ⟨?_, ?_, fun _ => ⟨?_, ?_, ?_⟩⟩
                    · show _ = p_lm (S_.2.2.1 30 0 mm_) _ (S_.2.2.1 31 0 mm_) _
                      unfold p_lm
                      rw [← b197_.1, ← b223_.1, ← mI_]
                      first | (rw [if_neg (by omega), if_pos (by omega)]) | (rw [if_neg (by omega), if_neg (by omega), if_pos (by omega)]) | (rw [if_neg (by omega), if_neg (by omega), if_neg (by omega)])
                    · exact tb_
                    · rw [jd_]; (try simp only [rd_eq, rd_ne, rf_eq, rf_nk, rf_nt, rd_fa, rd_af, rd_fl, rd_al, rd_lf, rd_la, rd_leq, rd_lne, rd_fr, rd_ar, ne_eq, Nat.reduceEqDiff, not_false_eq_true]); exact b197_.1
                    · rw [jd_]; (try simp only [rd_eq, rd_ne, rf_eq, rf_nk, rf_nt, rd_fa, rd_af, rd_fl, rd_al, rd_lf, rd_la, rd_leq, rd_lne, rd_fr, rd_ar, ne_eq, Nat.reduceEqDiff, not_false_eq_true]); rw [mI_]
                    · rw [jd_]; (try simp only [rd_eq, rd_ne, rf_eq, rf_nk, rf_nt, rd_fa, rd_af, rd_fl, rd_al, rd_lf, rd_la, rd_leq, rd_lne, rd_fr, rd_ar, ne_eq, Nat.reduceEqDiff, not_false_eq_true]); exact b223_.1
              · have cx29_ : ¬ (((sm_pI (sm_pI (sm_pI S_ 3 jx5_ 1 vx11_) 3 jx5_ 2 (S_.2.2.1 31 0 mx_.toNat)) 3 jx5_ 3 vx22_).1 3 jx5_ 1) + ((sm_pI (sm_pI (sm_pI S_ 3 jx5_ 1 vx11_) 3 jx5_ 2 (S_.2.2.1 31 0 mx_.toNat)) 3 jx5_ 3 vx22_).1 3 jx5_ 2) ≤ 12) := of_decide_eq_false cx29_
                refine sm_T_go 1 (c1 := (263, [some (.inr (.inr (some (1, 0)))), some (.inl mx_), some (.inl m_), none, none, none, none], [.inl 21], sm_pI (sm_pI (sm_pI S_ 3 jx5_ 1 vx11_) 3 jx5_ 2 (S_.2.2.1 31 0 mx_.toNat)) 3 jx5_ 3 vx22_)) rfl ?_
                refine sm_T_ri rfl ⟨_, _, rfl, _, rfl, hIx23_, hFx24_, ?_⟩
                refine ⟨?_, ?_, fun _ => ⟨?_, ?_, ?_⟩⟩
                · show _ = p_lm (S_.2.2.1 30 0 mm_) _ (S_.2.2.1 31 0 mm_) _
                  unfold p_lm
                  rw [← b197_.1, ← b223_.1, ← mI_]
                  first | (rw [if_neg (by omega), if_pos (by omega)]) | (rw [if_neg (by omega), if_neg (by omega), if_pos (by omega)]) | (rw [if_neg (by omega), if_neg (by omega), if_neg (by omega)])
                · exact tb_
                · rw [jd_]; (try simp only [rd_eq, rd_ne, rf_eq, rf_nk, rf_nt, rd_fa, rd_af, rd_fl, rd_al, rd_lf, rd_la, rd_leq, rd_lne, rd_fr, rd_ar, ne_eq, Nat.reduceEqDiff, not_false_eq_true]); exact b197_.1
                · rw [jd_]; (try simp only [rd_eq, rd_ne, rf_eq, rf_nk, rf_nt, rd_fa, rd_af, rd_fl, rd_al, rd_lf, rd_la, rd_leq, rd_lne, rd_fr, rd_ar, ne_eq, Nat.reduceEqDiff, not_false_eq_true]); rw [mI_]
                · rw [jd_]; (try simp only [rd_eq, rd_ne, rf_eq, rf_nk, rf_nt, rd_fa, rd_af, rd_fl, rd_al, rd_lf, rd_la, rd_leq, rd_lne, rd_fr, rd_ar, ne_eq, Nat.reduceEqDiff, not_false_eq_true]); exact b223_.1
        · have cx3_ : ¬ ((S_.2.2.1 30 0 mx_.toNat) ≤ 200) := of_decide_eq_false cx3_
          refine sm_T_go 1 (c1 := (189, [some (.inr (.inr (some (1, 0)))), some (.inl mx_), some (.inl m_), none, none, none, none], [.inl 20], S_)) rfl ?_
          refine sm_T_ri rfl ⟨_, _, rfl, _, rfl, hI_, hF_, ?_⟩
          refine ⟨?_, tb_, fun z_ => absurd rfl z_⟩
          unfold p_lm; rw [← mI_, if_pos (by omega)]
      · have cx1_ : ¬ (mx_ < m_) := of_decide_eq_false cx1_
        refine sm_T_go 6 (c1 := (15, [some (.inr (.inr (some (1, 0)))), some (.inl mx_), some (.inl m_), some (.inl 0), some (.inl 0), some (.inl 0), none], [], S_)) rfl ?_
        refine ih_.2 m_ 0 0 0 S_ hI_ hF_ ⟨?_, ?_, ?_, ?_, ?_, ?_, trivial⟩ ?_
        · omega
        · omega
        · rfl
        · rfl
        · omega
        · exact h1_
        · omega
    · rintro m_ us_ bi_ s_ S_ hI_ hF_ ⟨h0_, hs_, hu_, hb_, hub_, h1_, -⟩ hm_
      have her1_ : ∀ k_, k_ ≤ mm_ → er1 b_ n_ A_ k_ S_ := fun k_ hk_ => er1_fr (her_ k_ hk_) hF_ rfl rfl rfl rfl rfl
      have dsg_ : S_.2.1 1 0 1 = some dd_ := (hF_.2.1 1 0 1 rfl).trans hd_
      have cn_ : S_.2.2.1 77 0 m_.toNat = (A_.1 m_.toNat : Int) := (her1_ m_.toNat (by omega)).1
      have aM_ := hA_.2 m_.toNat (by omega)
      have A40_ := aM_.1
      have rw1_ : s_ < (A_.1 m_.toNat : Int) → S_.2.2.1 79 0 (40 * m_ + s_).toNat = A_.2.2.1 (40 * m_.toNat + s_.toNat) ∧ S_.2.2.1 80 0 (40 * m_ + s_).toNat = A_.2.2.2.1 (40 * m_.toNat + s_.toNat) ∧ S_.2.2.1 81 0 (40 * m_ + s_).toNat = A_.2.2.2.2 (40 * m_.toNat + s_.toNat) := by intro z_; rw [show (40 * m_ + s_).toNat = 40 * m_.toNat + s_.toNat by omega]; exact ((her1_ m_.toNat (by omega)).2 s_.toNat (by omega)).2
      have ok1_ : s_ < (A_.1 m_.toNat : Int) → (A_.2.2.1 (40 * m_.toNat + s_.toNat) = 5 → 0 ≤ A_.2.2.2.2 (40 * m_.toNat + s_.toNat) ∧ A_.2.2.2.2 (40 * m_.toNat + s_.toNat) < m_) ∧ 0 ≤ A_.2.2.2.1 (40 * m_.toNat + s_.toNat) ∧ A_.2.2.2.1 (40 * m_.toNat + s_.toNat) ≤ 8 := by intro z_; have y_ := aM_.2 s_.toNat (by omega); exact ⟨fun w_ => by have := y_.2.2.2.2.1 w_; omega, y_.2.2.1⟩
      refine sm_T_go 5 (c1 := (25, [some (.inr (.inr (some (1, 0)))), some (.inl mx_), some (.inl m_), some (.inl us_), some (.inl bi_), some (.inl s_), none], [.inl m_, .inr (.inr (some (77, 0))), .inl s_], S_)) rfl ?_
      refine sm_T_iald (n := 17) rfl rfl (by omega) (by omega) ?_
      have bx1_ : 0 ≤ S_.2.2.1 77 0 m_.toNat ∧ S_.2.2.1 77 0 m_.toNat ≤ 40 := hI_.2 77 0 _
      refine sm_T_br (a := 3) (z := 118) rfl (fun cx2_ => ?_) (fun cx2_ => ?_)
      · have cx2_ : (S_.2.2.1 77 0 m_.toNat) ≤ s_ := of_decide_eq_true cx2_
        refine sm_T_go 4 (c1 := (150, [some (.inr (.inr (some (1, 0)))), some (.inl mx_), some (.inl m_), some (.inl us_), some (.inl bi_), some (.inl s_), none], [.inl us_, .inl m_, .inr (.inr (some (30, 0)))], S_)) rfl ?_
        refine sm_T_nt (u := some (.inl 100000)) (S1 := S_) rfl rfl rfl ?_
        refine sm_T_nt (u := some (.inl (sm_mn us_ 100000))) (S1 := S_) rfl rfl rfl ?_
        have bx3_ := sm_mn_d us_ 100000
        refine sm_T_iast (n := 16) rfl rfl (by omega) (by omega) ?_
        have hIx4_ : gi (sm_aI S_ 30 0 m_.toNat (sm_mn us_ 100000)) := gi_aI hI_ (show 0 ≤ (sm_mn us_ 100000) ∧ (sm_mn us_ 100000) ≤ 100000 from ⟨by omega, by omega⟩)
        have hFx5_ : ai_fr (sx_W vw_32) S0_ (sm_aI S_ 30 0 m_.toNat (sm_mn us_ 100000)) := ai_fr_tr hF_ (ai_fr_aI rfl)
        refine sm_T_go 4 (c1 := (163, [some (.inr (.inr (some (1, 0)))), some (.inl mx_), some (.inl m_), some (.inl us_), some (.inl bi_), some (.inl s_), none], [.inl bi_, .inl m_, .inr (.inr (some (31, 0)))], sm_aI S_ 30 0 m_.toNat (sm_mn us_ 100000))) rfl ?_
        refine sm_T_nt (u := some (.inl 100000)) (S1 := sm_aI S_ 30 0 m_.toNat (sm_mn us_ 100000)) rfl rfl rfl ?_
        refine sm_T_nt (u := some (.inl (sm_mn bi_ 100000))) (S1 := sm_aI S_ 30 0 m_.toNat (sm_mn us_ 100000)) rfl rfl rfl ?_
        have bx6_ := sm_mn_d bi_ 100000
        refine sm_T_iast (n := 16) rfl rfl (by omega) (by omega) ?_
        have hIx7_ : gi (sm_aI (sm_aI S_ 30 0 m_.toNat (sm_mn us_ 100000)) 31 0 m_.toNat (sm_mn bi_ 100000)) := gi_aI hIx4_ (show 0 ≤ (sm_mn bi_ 100000) ∧ (sm_mn bi_ 100000) ≤ 100000 from ⟨by omega, by omega⟩)
        have hFx8_ : ai_fr (sx_W vw_32) S0_ (sm_aI (sm_aI S_ 30 0 m_.toNat (sm_mn us_ 100000)) 31 0 m_.toNat (sm_mn bi_ 100000)) := ai_fr_tr hFx5_ (ai_fr_aI rfl)
        refine sm_T_inc (a := 2) (z := 1) (v := m_) (w := m_ + 1) rfl rfl (by omega) (by omega) (by omega) ?_
        refine sm_T_go 1 (c1 := (2, [some (.inr (.inr (some (1, 0)))), some (.inl mx_), some (.inl (m_ + 1)), some (.inl us_), some (.inl bi_), some (.inl s_), none], [], sm_aI (sm_aI S_ 30 0 m_.toNat (sm_mn us_ 100000)) 31 0 m_.toNat (sm_mn bi_ 100000))) rfl ?_
        refine sm_T_wk [some (.inr (.inr (some (1, 0)))), some (.inl mx_), some (.inl (m_ + 1)), none, none, none, none] (by exact ⟨rfl, rfl, rfl, trivial⟩) ?_
        refine ih_.1 (m_ + 1) (sm_aI (sm_aI S_ 30 0 m_.toNat (sm_mn us_ 100000)) 31 0 m_.toNat (sm_mn bi_ 100000)) hIx7_ hFx8_ ⟨?_, ?_, trivial⟩ ?_
        · omega
        · rw [show (m_ + 1).toNat = m_.toNat + 1 by omega]
          have es_ : s_.toNat = A_.1 m_.toNat := by omega
          rw [es_] at hu_ hb_
          exact lt1_up (a_ok_le hA_ (by omega)) h1_ (fun j_ => by rw [rd_ne (by decide), rd_eq, sm_mc, hu_]) (fun j_ => by rw [rd_eq, rd_ne (by decide), sm_mc, hb_])
        · omega
      · have cx2_ : ¬ ((S_.2.2.1 77 0 m_.toNat) ≤ s_) := of_decide_eq_false cx2_
        obtain ⟨r79_, r80_, r81_⟩ := rw1_ (by omega)
        obtain ⟨ok5_, okw_⟩ := ok1_ (by omega)
        refine sm_T_go 2 (c1 := (32, [some (.inr (.inr (some (1, 0)))), some (.inl mx_), some (.inl m_), some (.inl us_), some (.inl bi_), some (.inl s_), none], [.inl 40, .inl m_], S_)) rfl ?_
        refine sm_T_bin (w := 40 * m_) rfl (bi_mul (by omega) (by omega) (by omega)) ?_
        refine sm_T_go 1 (c1 := (35, [some (.inr (.inr (some (1, 0)))), some (.inl mx_), some (.inl m_), some (.inl us_), some (.inl bi_), some (.inl s_), none], [.inl s_, .inl (40 * m_)], S_)) rfl ?_
        refine sm_T_bin (w := 40 * m_ + s_) rfl (bi_add (by omega) (by omega) (by omega)) ?_
        refine sm_T_go 5 (c1 := (47, [some (.inr (.inr (some (1, 0)))), some (.inl mx_), some (.inl m_), some (.inl us_), some (.inl bi_), some (.inl s_), some (.inl (40 * m_ + s_))], [.inl (40 * m_ + s_), .inr (.inr (some (79, 0)))], S_)) rfl ?_
        refine sm_T_iald (n := 640) rfl rfl (by omega) (by omega) ?_
        have bx9_ : 0 ≤ S_.2.2.1 79 0 (40 * m_ + s_).toNat ∧ S_.2.2.1 79 0 (40 * m_ + s_).toNat ≤ 5 := hI_.2 79 0 _
        refine sm_T_go 1 (c1 := (49, [some (.inr (.inr (some (1, 0)))), some (.inl mx_), some (.inl m_), some (.inl us_), some (.inl bi_), some (.inl s_), some (.inl (40 * m_ + s_))], [.inl 5, .inl (S_.2.2.1 79 0 (40 * m_ + s_).toNat)], S_)) rfl ?_
        refine sm_T_br (a := 1) (z := 46) rfl (fun cx10_ => ?_) (fun cx10_ => ?_)
        · have cx10_ : (S_.2.2.1 79 0 (40 * m_ + s_).toNat) ≠ 5 := of_decide_eq_true cx10_
          refine sm_T_go 4 (c1 := (104, [some (.inr (.inr (some (1, 0)))), some (.inl mx_), some (.inl m_), some (.inl us_), some (.inl bi_), some (.inl s_), some (.inl (40 * m_ + s_))], [.inl (40 * m_ + s_), .inr (.inr (some (79, 0)))], S_)) rfl ?_
          refine sm_T_iald (n := 640) rfl rfl (by omega) (by omega) ?_
          refine sm_T_go 1 (c1 := (106, [some (.inr (.inr (some (1, 0)))), some (.inl mx_), some (.inl m_), some (.inl us_), some (.inl bi_), some (.inl s_), some (.inl (40 * m_ + s_))], [.inl 3, .inl (S_.2.2.1 79 0 (40 * m_ + s_).toNat)], S_)) rfl ?_
          refine sm_T_br (a := 0) (z := 17) rfl (fun cx11_ => ?_) (fun cx11_ => ?_)
          · have cx11_ : (S_.2.2.1 79 0 (40 * m_ + s_).toNat) = 3 := of_decide_eq_true cx11_
            refine sm_T_go 5 (c1 := (134, [some (.inr (.inr (some (1, 0)))), some (.inl mx_), some (.inl m_), some (.inl us_), some (.inl bi_), some (.inl s_), some (.inl (40 * m_ + s_))], [.inl (40 * m_ + s_), .inr (.inr (some (80, 0))), .inl bi_], S_)) rfl ?_
            refine sm_T_iald (n := 640) rfl rfl (by omega) (by omega) ?_
            have bx12_ : 0 ≤ S_.2.2.1 80 0 (40 * m_ + s_).toNat ∧ S_.2.2.1 80 0 (40 * m_ + s_).toNat ≤ 8 := hI_.2 80 0 _
            refine sm_T_bin (w := bi_ + (S_.2.2.1 80 0 (40 * m_ + s_).toNat)) rfl (bi_add (by omega) (by omega) (by omega)) ?_
            refine sm_T_go 1 (c1 := (138, [some (.inr (.inr (some (1, 0)))), some (.inl mx_), some (.inl m_), some (.inl us_), some (.inl (bi_ + (S_.2.2.1 80 0 (40 * m_ + s_).toNat))), some (.inl s_), some (.inl (40 * m_ + s_))], [], S_)) rfl ?_
            refine sm_T_inc (a := 5) (z := 1) (v := s_) (w := s_ + 1) rfl rfl (by omega) (by omega) (by omega) ?_
            refine sm_T_go 1 (c1 := (15, [some (.inr (.inr (some (1, 0)))), some (.inl mx_), some (.inl m_), some (.inl us_), some (.inl (bi_ + (S_.2.2.1 80 0 (40 * m_ + s_).toNat))), some (.inl (s_ + 1)), some (.inl (40 * m_ + s_))], [], S_)) rfl ?_
            refine sm_T_wk [some (.inr (.inr (some (1, 0)))), some (.inl mx_), some (.inl m_), some (.inl us_), some (.inl (bi_ + (S_.2.2.1 80 0 (40 * m_ + s_).toNat))), some (.inl (s_ + 1)), none] (by exact ⟨rfl, rfl, rfl, rfl, rfl, rfl, trivial⟩) ?_
            refine ih_.2 m_ us_ (bi_ + (S_.2.2.1 80 0 (40 * m_ + s_).toNat)) (s_ + 1) S_ hI_ hF_ ⟨?_, ?_, ?_, ?_, ?_, ?_, trivial⟩ ?_
            · omega
            · omega
            · rw [show (s_ + 1).toNat = s_.toNat + 1 by omega]
              show _ = su (t_is (S_.2.2.1 30 0) A_ m_.toNat) s_.toNat + (if A_.2.2.1 (40 * m_.toNat + s_.toNat) = 5 then 1 + S_.2.2.1 30 0 (A_.2.2.2.2 (40 * m_.toNat + s_.toNat)).toNat else 0)
              first | (rw [if_pos (by omega), ← r81_]; omega) | (rw [if_neg (by omega)]; omega)
            · rw [show (s_ + 1).toNat = s_.toNat + 1 by omega]
              show _ = su (t_rg (S_.2.2.1 31 0) A_ m_.toNat) s_.toNat + (if A_.2.2.1 (40 * m_.toNat + s_.toNat) = 3 ∨ A_.2.2.1 (40 * m_.toNat + s_.toNat) = 4 then A_.2.2.2.1 (40 * m_.toNat + s_.toNat) else if A_.2.2.1 (40 * m_.toNat + s_.toNat) = 5 then S_.2.2.1 31 0 (A_.2.2.2.2 (40 * m_.toNat + s_.toNat)).toNat else 0)
              first | (rw [if_pos (by omega)]; omega) | (rw [if_neg (by omega), if_pos (by omega), ← r81_]; omega) | (rw [if_neg (by omega), if_neg (by omega)]; omega)
            · omega
            · exact h1_
            · omega
          · have cx11_ : ¬ ((S_.2.2.1 79 0 (40 * m_ + s_).toNat) = 3) := of_decide_eq_false cx11_
            refine sm_T_go 4 (c1 := (118, [some (.inr (.inr (some (1, 0)))), some (.inl mx_), some (.inl m_), some (.inl us_), some (.inl bi_), some (.inl s_), some (.inl (40 * m_ + s_))], [.inl (40 * m_ + s_), .inr (.inr (some (79, 0)))], S_)) rfl ?_
            refine sm_T_iald (n := 640) rfl rfl (by omega) (by omega) ?_
            refine sm_T_go 1 (c1 := (120, [some (.inr (.inr (some (1, 0)))), some (.inl mx_), some (.inl m_), some (.inl us_), some (.inl bi_), some (.inl s_), some (.inl (40 * m_ + s_))], [.inl 4, .inl (S_.2.2.1 79 0 (40 * m_ + s_).toNat)], S_)) rfl ?_
            refine sm_T_br (a := 1) (z := 18) rfl (fun cx13_ => ?_) (fun cx13_ => ?_)
            · have cx13_ : (S_.2.2.1 79 0 (40 * m_ + s_).toNat) ≠ 4 := of_decide_eq_true cx13_
              refine sm_T_inc (a := 5) (z := 1) (v := s_) (w := s_ + 1) rfl rfl (by omega) (by omega) (by omega) ?_
              refine sm_T_go 1 (c1 := (15, [some (.inr (.inr (some (1, 0)))), some (.inl mx_), some (.inl m_), some (.inl us_), some (.inl bi_), some (.inl (s_ + 1)), some (.inl (40 * m_ + s_))], [], S_)) rfl ?_
              refine sm_T_wk [some (.inr (.inr (some (1, 0)))), some (.inl mx_), some (.inl m_), some (.inl us_), some (.inl bi_), some (.inl (s_ + 1)), none] (by exact ⟨rfl, rfl, rfl, rfl, rfl, rfl, trivial⟩) ?_
              refine ih_.2 m_ us_ bi_ (s_ + 1) S_ hI_ hF_ ⟨?_, ?_, ?_, ?_, ?_, ?_, trivial⟩ ?_
              · omega
              · omega
              · rw [show (s_ + 1).toNat = s_.toNat + 1 by omega]
                show _ = su (t_is (S_.2.2.1 30 0) A_ m_.toNat) s_.toNat + (if A_.2.2.1 (40 * m_.toNat + s_.toNat) = 5 then 1 + S_.2.2.1 30 0 (A_.2.2.2.2 (40 * m_.toNat + s_.toNat)).toNat else 0)
                first | (rw [if_pos (by omega), ← r81_]; omega) | (rw [if_neg (by omega)]; omega)
              · rw [show (s_ + 1).toNat = s_.toNat + 1 by omega]
                show _ = su (t_rg (S_.2.2.1 31 0) A_ m_.toNat) s_.toNat + (if A_.2.2.1 (40 * m_.toNat + s_.toNat) = 3 ∨ A_.2.2.1 (40 * m_.toNat + s_.toNat) = 4 then A_.2.2.2.1 (40 * m_.toNat + s_.toNat) else if A_.2.2.1 (40 * m_.toNat + s_.toNat) = 5 then S_.2.2.1 31 0 (A_.2.2.2.2 (40 * m_.toNat + s_.toNat)).toNat else 0)
                first | (rw [if_pos (by omega)]; omega) | (rw [if_neg (by omega), if_pos (by omega), ← r81_]; omega) | (rw [if_neg (by omega), if_neg (by omega)]; omega)
              · omega
              · exact h1_
              · omega
            · have cx13_ : ¬ ((S_.2.2.1 79 0 (40 * m_ + s_).toNat) ≠ 4) := of_decide_eq_false cx13_
              refine sm_T_go 5 (c1 := (134, [some (.inr (.inr (some (1, 0)))), some (.inl mx_), some (.inl m_), some (.inl us_), some (.inl bi_), some (.inl s_), some (.inl (40 * m_ + s_))], [.inl (40 * m_ + s_), .inr (.inr (some (80, 0))), .inl bi_], S_)) rfl ?_
              refine sm_T_iald (n := 640) rfl rfl (by omega) (by omega) ?_
              have bx14_ : 0 ≤ S_.2.2.1 80 0 (40 * m_ + s_).toNat ∧ S_.2.2.1 80 0 (40 * m_ + s_).toNat ≤ 8 := hI_.2 80 0 _
              refine sm_T_bin (w := bi_ + (S_.2.2.1 80 0 (40 * m_ + s_).toNat)) rfl (bi_add (by omega) (by omega) (by omega)) ?_
              refine sm_T_go 1 (c1 := (138, [some (.inr (.inr (some (1, 0)))), some (.inl mx_), some (.inl m_), some (.inl us_), some (.inl (bi_ + (S_.2.2.1 80 0 (40 * m_ + s_).toNat))), some (.inl s_), some (.inl (40 * m_ + s_))], [], S_)) rfl ?_
              refine sm_T_inc (a := 5) (z := 1) (v := s_) (w := s_ + 1) rfl rfl (by omega) (by omega) (by omega) ?_
              refine sm_T_go 1 (c1 := (15, [some (.inr (.inr (some (1, 0)))), some (.inl mx_), some (.inl m_), some (.inl us_), some (.inl (bi_ + (S_.2.2.1 80 0 (40 * m_ + s_).toNat))), some (.inl (s_ + 1)), some (.inl (40 * m_ + s_))], [], S_)) rfl ?_
              refine sm_T_wk [some (.inr (.inr (some (1, 0)))), some (.inl mx_), some (.inl m_), some (.inl us_), some (.inl (bi_ + (S_.2.2.1 80 0 (40 * m_ + s_).toNat))), some (.inl (s_ + 1)), none] (by exact ⟨rfl, rfl, rfl, rfl, rfl, rfl, trivial⟩) ?_
              refine ih_.2 m_ us_ (bi_ + (S_.2.2.1 80 0 (40 * m_ + s_).toNat)) (s_ + 1) S_ hI_ hF_ ⟨?_, ?_, ?_, ?_, ?_, ?_, trivial⟩ ?_
              · omega
              · omega
              · rw [show (s_ + 1).toNat = s_.toNat + 1 by omega]
                show _ = su (t_is (S_.2.2.1 30 0) A_ m_.toNat) s_.toNat + (if A_.2.2.1 (40 * m_.toNat + s_.toNat) = 5 then 1 + S_.2.2.1 30 0 (A_.2.2.2.2 (40 * m_.toNat + s_.toNat)).toNat else 0)
                first | (rw [if_pos (by omega), ← r81_]; omega) | (rw [if_neg (by omega)]; omega)
              · rw [show (s_ + 1).toNat = s_.toNat + 1 by omega]
                show _ = su (t_rg (S_.2.2.1 31 0) A_ m_.toNat) s_.toNat + (if A_.2.2.1 (40 * m_.toNat + s_.toNat) = 3 ∨ A_.2.2.1 (40 * m_.toNat + s_.toNat) = 4 then A_.2.2.2.1 (40 * m_.toNat + s_.toNat) else if A_.2.2.1 (40 * m_.toNat + s_.toNat) = 5 then S_.2.2.1 31 0 (A_.2.2.2.2 (40 * m_.toNat + s_.toNat)).toNat else 0)
                first | (rw [if_pos (by omega)]; omega) | (rw [if_neg (by omega), if_pos (by omega), ← r81_]; omega) | (rw [if_neg (by omega), if_neg (by omega)]; omega)
              · omega
              · exact h1_
              · omega
        · have cx10_ : ¬ ((S_.2.2.1 79 0 (40 * m_ + s_).toNat) ≠ 5) := of_decide_eq_false cx10_
          have s5_ : A_.2.2.1 (40 * m_.toNat + s_.toNat) = 5 := by omega
          have d5_ := ok5_ s5_
          refine sm_T_go 8 (c1 := (67, [some (.inr (.inr (some (1, 0)))), some (.inl mx_), some (.inl m_), some (.inl us_), some (.inl bi_), some (.inl s_), some (.inl (40 * m_ + s_))], [.inl (40 * m_ + s_), .inr (.inr (some (81, 0))), .inr (.inr (some (30, 0))), .inl 1, .inl us_], S_)) rfl ?_
          refine sm_T_iald (n := 640) rfl rfl (by omega) (by omega) ?_
          have bx15_ : 0 ≤ S_.2.2.1 81 0 (40 * m_ + s_).toNat ∧ S_.2.2.1 81 0 (40 * m_ + s_).toNat ≤ 255 := hI_.2 81 0 _
          refine sm_T_iald (n := 16) rfl rfl (by omega) (by omega) ?_
          have bx16_ : 0 ≤ S_.2.2.1 30 0 (S_.2.2.1 81 0 (40 * m_ + s_).toNat).toNat ∧ S_.2.2.1 30 0 (S_.2.2.1 81 0 (40 * m_ + s_).toNat).toNat ≤ 100000 := hI_.2 30 0 _
          refine sm_T_bin (w := (S_.2.2.1 30 0 (S_.2.2.1 81 0 (40 * m_ + s_).toNat).toNat) + 1) rfl (bi_add (by omega) (by omega) (by omega)) ?_
          refine sm_T_bin (w := us_ + (S_.2.2.1 30 0 (S_.2.2.1 81 0 (40 * m_ + s_).toNat).toNat) + 1) rfl (bi_add (by omega) (by omega) (by omega)) ?_
          refine sm_T_go 8 (c1 := (87, [some (.inr (.inr (some (1, 0)))), some (.inl mx_), some (.inl m_), some (.inl (us_ + (S_.2.2.1 30 0 (S_.2.2.1 81 0 (40 * m_ + s_).toNat).toNat) + 1)), some (.inl bi_), some (.inl s_), some (.inl (40 * m_ + s_))], [.inl (40 * m_ + s_), .inr (.inr (some (81, 0))), .inr (.inr (some (31, 0))), .inl bi_], S_)) rfl ?_
          refine sm_T_iald (n := 640) rfl rfl (by omega) (by omega) ?_
          refine sm_T_iald (n := 16) rfl rfl (by omega) (by omega) ?_
          have bx17_ : 0 ≤ S_.2.2.1 31 0 (S_.2.2.1 81 0 (40 * m_ + s_).toNat).toNat ∧ S_.2.2.1 31 0 (S_.2.2.1 81 0 (40 * m_ + s_).toNat).toNat ≤ 100000 := hI_.2 31 0 _
          refine sm_T_bin (w := bi_ + (S_.2.2.1 31 0 (S_.2.2.1 81 0 (40 * m_ + s_).toNat).toNat)) rfl (bi_add (by omega) (by omega) (by omega)) ?_
          refine sm_T_go 2 (c1 := (138, [some (.inr (.inr (some (1, 0)))), some (.inl mx_), some (.inl m_), some (.inl (us_ + (S_.2.2.1 30 0 (S_.2.2.1 81 0 (40 * m_ + s_).toNat).toNat) + 1)), some (.inl (bi_ + (S_.2.2.1 31 0 (S_.2.2.1 81 0 (40 * m_ + s_).toNat).toNat))), some (.inl s_), some (.inl (40 * m_ + s_))], [], S_)) rfl ?_
          refine sm_T_inc (a := 5) (z := 1) (v := s_) (w := s_ + 1) rfl rfl (by omega) (by omega) (by omega) ?_
          refine sm_T_go 1 (c1 := (15, [some (.inr (.inr (some (1, 0)))), some (.inl mx_), some (.inl m_), some (.inl (us_ + (S_.2.2.1 30 0 (S_.2.2.1 81 0 (40 * m_ + s_).toNat).toNat) + 1)), some (.inl (bi_ + (S_.2.2.1 31 0 (S_.2.2.1 81 0 (40 * m_ + s_).toNat).toNat))), some (.inl (s_ + 1)), some (.inl (40 * m_ + s_))], [], S_)) rfl ?_
          refine sm_T_wk [some (.inr (.inr (some (1, 0)))), some (.inl mx_), some (.inl m_), some (.inl (us_ + (S_.2.2.1 30 0 (S_.2.2.1 81 0 (40 * m_ + s_).toNat).toNat) + 1)), some (.inl (bi_ + (S_.2.2.1 31 0 (S_.2.2.1 81 0 (40 * m_ + s_).toNat).toNat))), some (.inl (s_ + 1)), none] (by exact ⟨rfl, rfl, rfl, rfl, rfl, rfl, trivial⟩) ?_
          refine ih_.2 m_ (us_ + (S_.2.2.1 30 0 (S_.2.2.1 81 0 (40 * m_ + s_).toNat).toNat) + 1) (bi_ + (S_.2.2.1 31 0 (S_.2.2.1 81 0 (40 * m_ + s_).toNat).toNat)) (s_ + 1) S_ hI_ hF_ ⟨?_, ?_, ?_, ?_, ?_, ?_, trivial⟩ ?_
          · omega
          · omega
          · rw [show (s_ + 1).toNat = s_.toNat + 1 by omega]
            show _ = su (t_is (S_.2.2.1 30 0) A_ m_.toNat) s_.toNat + (if A_.2.2.1 (40 * m_.toNat + s_.toNat) = 5 then 1 + S_.2.2.1 30 0 (A_.2.2.2.2 (40 * m_.toNat + s_.toNat)).toNat else 0)
            first | (rw [if_pos (by omega), ← r81_]; omega) | (rw [if_neg (by omega)]; omega)
          · rw [show (s_ + 1).toNat = s_.toNat + 1 by omega]
            show _ = su (t_rg (S_.2.2.1 31 0) A_ m_.toNat) s_.toNat + (if A_.2.2.1 (40 * m_.toNat + s_.toNat) = 3 ∨ A_.2.2.1 (40 * m_.toNat + s_.toNat) = 4 then A_.2.2.2.1 (40 * m_.toNat + s_.toNat) else if A_.2.2.1 (40 * m_.toNat + s_.toNat) = 5 then S_.2.2.1 31 0 (A_.2.2.2.2 (40 * m_.toNat + s_.toNat)).toNat else 0)
            first | (rw [if_pos (by omega)]; omega) | (rw [if_neg (by omega), if_pos (by omega), ← r81_]; omega) | (rw [if_neg (by omega), if_neg (by omega)]; omega)
          · omega
          · exact h1_
          · omega
set_option maxHeartbeats 1500000 in
set_option maxRecDepth 20000 in
theorem vc_32 {sc_ : Nat × (Nat → Int)} (mx_ : Int) (b_ : Nat → Int) (n_ : Nat) (A_ : pA) (mm_ : Nat) (dd_ : Nat) (S0_ : sm_S) (hI_ : gi S0_) (hmx_ : mx_ = (mm_ : Int) ∧ mm_ ≤ 15) (her_ : ∀ k_, k_ ≤ mm_ → er1 b_ n_ A_ k_ S0_) (hA_ : a_ok b_ n_ A_ mm_) (hd_ : S0_.2.1 1 0 1 = some dd_) : sm_T (mt_P sc_) 1 32 (0, [some (.inr (.inr (some (1, 0)))), some (.inl mx_), none, none, none, none, none], [], S0_) (fun r_ => ∃ u_ S1_, r_ = (.inl u_, S1_, 0) ∧ vq_32 mx_ b_ n_ A_ mm_ dd_ S0_ u_ S1_) := by
  have hF_ : ai_fr (sx_W vw_32) S0_ S0_ := ai_fr_rf
  refine sm_T_go 2 (c1 := (2, [some (.inr (.inr (some (1, 0)))), some (.inl mx_), some (.inl 0), none, none, none, none], [], S0_)) rfl ?_
  refine (vl_32 mx_ b_ n_ A_ mm_ dd_ S0_ hmx_ her_ hA_ hd_ _).1 0 S0_ hI_ hF_ ⟨?_, ?_, trivial⟩ (Nat.lt_succ_self _)
  · omega
  · (intro k_ hk_; exact absurd hk_ (Nat.not_lt_zero _))
end
/-! 99.za0 -/
section
/-! the graph, abstractly; written by wip/p55/gen/vg -/

/-! the_ graph: pairs of_ literals, the_ lesser first, in the_ order in which they are_ made -/
abbrev pGr : Type := List (Int × Int)
def g_fd (x_ y_ : Int) : pGr → Nat → Option Nat
  | [], _ => none
  | p_ :: l_, k_ => if p_.1 = x_ ∧ p_.2 = y_ then some k_ else g_fd x_ y_ l_ (k_ + 1)
def g_a2 (F_ : Nat) (G_ : pGr) (x_ y_ : Int) : Int × pGr := if x_ = 0 ∨ x_ = i_xor y_ 1 then (0, G_) else if x_ = 1 ∨ x_ = y_ then (y_, G_) else match g_fd x_ y_ G_ 0 with
  | some k_ => (2 * ((F_ + k_ : Nat) : Int), G_)
  | none => (2 * ((F_ + G_.length : Nat) : Int), G_ ++ [(x_, y_)])
/-- both, either, one_ alone; each with the_ graph behind it_ -/
def g_an (F_ : Nat) (G_ : pGr) (a_ b_ : Int) : Int × pGr := if a_ < b_ then g_a2 F_ G_ a_ b_ else g_a2 F_ G_ b_ a_
def g_or (F_ : Nat) (G_ : pGr) (a_ b_ : Int) : Int × pGr := (i_xor (g_an F_ G_ (i_xor a_ 1) (i_xor b_ 1)).1 1, (g_an F_ G_ (i_xor a_ 1) (i_xor b_ 1)).2)
def g_xo (F_ : Nat) (G_ : pGr) (a_ b_ : Int) : Int × pGr := g_or F_ (g_an F_ (g_an F_ G_ a_ (i_xor b_ 1)).2 (i_xor a_ 1) b_).2 (g_an F_ G_ a_ (i_xor b_ 1)).1 (g_an F_ (g_an F_ G_ a_ (i_xor b_ 1)).2 (i_xor a_ 1) b_).1
theorem g_fd_b {x_ y_ : Int} : ∀ {l_ : pGr} {k_ i_ : Nat}, g_fd x_ y_ l_ k_ = some i_ → k_ ≤ i_ ∧ i_ < k_ + l_.length ∧ l_[i_ - k_]? = some (x_, y_)
  | [], k_, i_, h_ => by cases h_
  | p_ :: l_, k_, i_, h_ => by
    unfold g_fd at h_
    split at h_
    · rename_i g_
      cases h_
      refine ⟨Nat.le_refl _, by simp, ?_⟩
      rw [Nat.sub_self]
      show some p_ = _
      rw [← g_.1, ← g_.2]
    · have k1_ := g_fd_b h_
      refine ⟨by omega, by simp only [List.length_cons]; omega, ?_⟩
      rw [show i_ - k_ = (i_ - (k_ + 1)) + 1 by omega, List.getElem?_cons_succ]
      exact k1_.2.2
theorem g_a2_le {F_ : Nat} {G_ : pGr} {x_ y_ : Int} : G_.length ≤ (g_a2 F_ G_ x_ y_).2.length ∧ (g_a2 F_ G_ x_ y_).2.length ≤ G_.length + 1 := by
  unfold g_a2
  split
  · exact ⟨Nat.le_refl _, Nat.le_succ _⟩
  · split
    · exact ⟨Nat.le_refl _, Nat.le_succ _⟩
    · split
      · exact ⟨Nat.le_refl _, Nat.le_succ _⟩
      · simp
theorem g_an_le {F_ : Nat} {G_ : pGr} {a_ b_ : Int} : G_.length ≤ (g_an F_ G_ a_ b_).2.length ∧ (g_an F_ G_ a_ b_).2.length ≤ G_.length + 1 := by
  unfold g_an
  split <;> exact g_a2_le
end
/-! 99.za1 -/
section
/-! the graph in the class; written by wip/p55/gen/vg -/

/-! the_ graph in the_ class: open addressing -/
theorem i_x1f : ∀ k_ : Fin 2048, i_xor (k_.val : Int) 1 = (k_.val : Int) + 1 - 2 * ((k_.val : Int) % 2) := by decide +kernel
theorem i_x1 {x_ : Int} (h_ : 0 ≤ x_ ∧ x_ ≤ 2047) : i_xor x_ 1 = x_ + 1 - 2 * (x_ % 2) := by
  have k_ := i_x1f ⟨x_.toNat, by omega⟩
  rw [show ((⟨x_.toNat, by omega⟩ : Fin 2048).val : Int) = x_ from Int.toNat_of_nonneg h_.1] at k_
  exact k_
theorem i_xc {x_ y_ : Int} : i_xor x_ y_ = i_xor y_ x_ := by
  unfold i_xor
  rw [Int32.xor_comm]
/-- an_ implication that omega doesn't look into -/
def imq (p_ q_ : Prop) : Prop := p_ → q_
def nz (u_ : Nat → Int) : Nat → Int := fun j_ => if u_ j_ = 0 then 0 else 1
def hpl (x_ y_ : Int) (j_ : Nat) : Nat := ((2027 * x_ + 31 * y_ + (j_ : Int)) % 4096).toNat
def gnd (G_ : pGr) : Prop := ∀ (i_ j_ : Nat) (p_ : Int × Int), G_[i_]? = some p_ → G_[j_]? = some p_ → i_ = j_
def bkr (F_ : Nat) (G_ : pGr) (u_ : Nat → Int) : Prop := (∀ j_, j_ < 4096 → u_ j_ = 0 ∨ ∃ k_, k_ < G_.length ∧ u_ j_ = ((F_ + k_ : Nat) : Int)) ∧ (∀ (k_ : Nat) (x_ y_ : Int), G_[k_]? = some (x_, y_) → ∃ j_, j_ < 4096 ∧ u_ (hpl x_ y_ j_) = ((F_ + k_ : Nat) : Int) ∧ ∀ i_, i_ < j_ → u_ (hpl x_ y_ i_) ≠ 0) ∧ cn1 (nz u_) 4096 = G_.length
theorem cn1_all {f_ : Nat → Int} : ∀ {n_ : Nat}, (∀ k_, k_ < n_ → f_ k_ = 1) → cn1 f_ n_ = n_
  | 0, _ => rfl
  | n_ + 1, h_ => by
    unfold cn1
    rw [cn1_all (fun k_ hk_ => h_ k_ (by omega)), if_pos (h_ n_ (by omega))]
theorem hpl_lt {x_ y_ : Int} {j_ : Nat} : hpl x_ y_ j_ < 4096 := by
  unfold hpl
  omega
theorem hpl_su {x_ y_ : Int} (q_ : Nat) (hq_ : q_ < 4096) : ∃ i_, i_ < 4096 ∧ hpl x_ y_ i_ = q_ := by
  refine ⟨(((q_ : Int) - (2027 * x_ + 31 * y_)) % 4096).toNat, by omega, ?_⟩
  unfold hpl
  omega
theorem g_fd_n {x_ y_ : Int} : ∀ {l_ : pGr} {k_ : Nat}, g_fd x_ y_ l_ k_ = none → ∀ i_ : Nat, l_[i_]? ≠ some (x_, y_)
  | [], k_, _, i_ => by simp
  | p_ :: l_, k_, h_, i_ => by
    unfold g_fd at h_
    split at h_
    · cases h_
    · rename_i g_
      cases i_ with
      | zero => intro e_; rw [List.getElem?_cons_zero] at e_; cases e_; exact g_ ⟨rfl, rfl⟩
      | succ i_ => rw [List.getElem?_cons_succ]; exact g_fd_n h_ i_
theorem g_fd_s {x_ y_ : Int} {G_ : pGr} (hn_ : gnd G_) {k_ : Nat} (h_ : G_[k_]? = some (x_, y_)) : g_fd x_ y_ G_ 0 = some k_ := by
  cases e_ : g_fd x_ y_ G_ 0 with
  | none => exact absurd h_ (g_fd_n e_ k_)
  | some i_ =>
    have q_ := (g_fd_b e_).2.2
    rw [Nat.sub_zero] at q_
    rw [hn_ i_ k_ _ q_ h_]
theorem bk_fd {F_ : Nat} {G_ : pGr} {u_ : Nat → Int} {a_ b_ : Int} {j_ : Nat} (h_ : bkr F_ G_ u_) (hG_ : G_.length ≤ 1000) (hF_ : 1 ≤ F_) (hj_ : j_ ≤ 4096) (h1_ : ∀ i_, i_ < j_ → u_ (hpl a_ b_ i_) ≠ 0 ∧ ∀ k_ : Nat, u_ (hpl a_ b_ i_) = ((F_ + k_ : Nat) : Int) → G_[k_]? ≠ some (a_, b_)) (h2_ : j_ = 4096 ∨ u_ (hpl a_ b_ j_) = 0) : u_ (hpl a_ b_ j_) = 0 ∧ j_ < 4096 ∧ g_fd a_ b_ G_ 0 = none := by
  have h3_ : j_ < 4096 := by
    by_cases z_ : j_ < 4096
    · exact z_
    · exfalso
      have e_ : cn1 (nz u_) 4096 = 4096 := cn1_all (fun k_ hk_ => by
        obtain ⟨i_, hi_, e_⟩ := hpl_su (x_ := a_) (y_ := b_) k_ hk_
        have q_ := (h1_ i_ (by omega)).1
        rw [e_] at q_
        exact if_neg q_)
      have := h_.2.2
      omega
  have h4_ : u_ (hpl a_ b_ j_) = 0 := by
    rcases h2_ with z_ | z_
    · omega
    · exact z_
  refine ⟨h4_, h3_, ?_⟩
  cases e_ : g_fd a_ b_ G_ 0 with
  | none => rfl
  | some k_ =>
    exfalso
    have q_ := (g_fd_b e_).2.2
    rw [Nat.sub_zero] at q_
    obtain ⟨i_, hi_, q1_, q2_⟩ := h_.2.1 k_ a_ b_ q_
    by_cases z_ : i_ < j_
    · exact (h1_ i_ z_).2 k_ q1_ q_
    · by_cases z2_ : i_ = j_
      · rw [z2_, h4_] at q1_
        omega
      · exact q2_ j_ (by omega) h4_
theorem gnd_ap {G_ : pGr} {a_ b_ : Int} (h_ : gnd G_) (hn_ : g_fd a_ b_ G_ 0 = none) : gnd (G_ ++ [(a_, b_)]) := by
  have key_ : ∀ (i_ : Nat) (p_ : Int × Int), (G_ ++ [(a_, b_)])[i_]? = some p_ → (i_ < G_.length ∧ G_[i_]? = some p_) ∨ (i_ = G_.length ∧ p_ = (a_, b_)) := by
    intro i_ p_ e_
    by_cases z_ : i_ < G_.length
    · rw [List.getElem?_append_left z_] at e_
      exact Or.inl ⟨z_, e_⟩
    · rw [List.getElem?_append_right (by omega)] at e_
      by_cases z2_ : i_ = G_.length
      · rw [z2_, Nat.sub_self, List.getElem?_cons_zero] at e_
        cases e_
        exact Or.inr ⟨z2_, rfl⟩
      · rw [show i_ - G_.length = (i_ - G_.length - 1) + 1 by omega, List.getElem?_cons_succ] at e_
        simp at e_
  intro i_ j_ p_ hi_ hj_
  rcases key_ i_ p_ hi_ with ⟨z1_, z2_⟩ | ⟨z1_, z2_⟩
  · rcases key_ j_ p_ hj_ with ⟨w1_, w2_⟩ | ⟨w1_, w2_⟩
    · exact h_ i_ j_ p_ z2_ w2_
    · rw [w2_] at z2_
      exact absurd z2_ (g_fd_n hn_ i_)
  · rcases key_ j_ p_ hj_ with ⟨w1_, w2_⟩ | ⟨w1_, w2_⟩
    · rw [z2_] at w2_
      exact absurd w2_ (g_fd_n hn_ j_)
    · omega
theorem ap_get {G_ : pGr} {a_ b_ x_ y_ : Int} {k_ : Nat} (e_ : (G_ ++ [(a_, b_)])[k_]? = some (x_, y_)) : (k_ < G_.length ∧ G_[k_]? = some (x_, y_)) ∨ (k_ = G_.length ∧ x_ = a_ ∧ y_ = b_) := by
  by_cases z_ : k_ < G_.length
  · rw [List.getElem?_append_left z_] at e_
    exact Or.inl ⟨z_, e_⟩
  · rw [List.getElem?_append_right (by omega)] at e_
    by_cases z2_ : k_ = G_.length
    · rw [z2_, Nat.sub_self, List.getElem?_cons_zero] at e_
      cases e_
      exact Or.inr ⟨z2_, rfl, rfl⟩
    · rw [show k_ - G_.length = (k_ - G_.length - 1) + 1 by omega, List.getElem?_cons_succ] at e_
      simp at e_
theorem bk_put {F_ : Nat} {G_ : pGr} {u_ w_ : Nat → Int} {a_ b_ : Int} {j_ : Nat} (h_ : bkr F_ G_ u_) (hF_ : 1 ≤ F_) (hj_ : j_ < 4096) (h1_ : ∀ i_, i_ < j_ → u_ (hpl a_ b_ i_) ≠ 0) (h2_ : u_ (hpl a_ b_ j_) = 0) (hw_ : ∀ k_, w_ k_ = if k_ = hpl a_ b_ j_ then ((F_ + G_.length : Nat) : Int) else u_ k_) : bkr F_ (G_ ++ [(a_, b_)]) w_ := by
  have hz_ : ∀ k_, u_ k_ ≠ 0 → w_ k_ = u_ k_ := fun k_ z_ => by
    rw [hw_ k_, if_neg (fun e_ => z_ (by rw [e_]; exact h2_))]
  refine ⟨fun k_ hk_ => ?_, fun k_ x_ y_ e_ => ?_, ?_⟩
  · rw [hw_ k_]
    by_cases e_ : k_ = hpl a_ b_ j_
    · rw [if_pos e_]
      exact Or.inr ⟨G_.length, by simp, rfl⟩
    · rw [if_neg e_]
      rcases h_.1 k_ hk_ with z_ | ⟨i_, z1_, z2_⟩
      · exact Or.inl z_
      · exact Or.inr ⟨i_, by simp only [List.length_append, List.length_cons, List.length_nil]; omega, z2_⟩
  · rcases ap_get e_ with ⟨z1_, z2_⟩ | ⟨z1_, z2_, z3_⟩
    · obtain ⟨i_, q1_, q2_, q3_⟩ := h_.2.1 k_ x_ y_ z2_
      refine ⟨i_, q1_, ?_, fun i1_ hi1_ => ?_⟩
      · rw [hz_ _ (by rw [q2_]; omega)]
        exact q2_
      · rw [hz_ _ (q3_ i1_ hi1_)]
        exact q3_ i1_ hi1_
    · rw [z1_, z2_, z3_]
      refine ⟨j_, hj_, by rw [hw_, if_pos rfl], fun i_ hi_ => ?_⟩
      rw [hz_ _ (h1_ i_ hi_)]
      exact h1_ i_ hi_
  · rw [cn1_up (f := nz u_) (g := nz w_) (j := hpl a_ b_ j_) (by unfold nz; rw [if_pos h2_]; decide) (by unfold nz; rw [hw_, if_pos rfl, if_neg (by omega)]) (fun k_ hk_ => by unfold nz; rw [hw_ k_, if_neg hk_]) hpl_lt, h_.2.2]
    simp
/-- the_ other designs are_ as_ they were -/
def idf (dd_ : Nat) (S_ S'_ : sm_S) : Prop := ∀ i_, i_ ≠ dd_ → (∀ k_, k_ < 10 → S'_.1 3 i_ k_ = S_.1 3 i_ k_) ∧ ∀ t_, t_ < 48 → 42 ≤ t_ → S'_.2.2.1 t_ (0 + i_) = S_.2.2.1 t_ (0 + i_)
theorem idf_rf {dd_ : Nat} {S_ : sm_S} : idf dd_ S_ S_ := fun _ _ => ⟨fun _ _ => rfl, fun _ _ _ => rfl⟩
theorem idf_tr {dd_ : Nat} {S_ S'_ S2_ : sm_S} (h_ : idf dd_ S_ S'_) (g_ : idf dd_ S'_ S2_) : idf dd_ S_ S2_ := fun i_ hi_ => ⟨fun k_ hk_ => ((g_ i_ hi_).1 k_ hk_).trans ((h_ i_ hi_).1 k_ hk_), fun t_ h1_ h2_ => ((g_ i_ hi_).2 t_ h1_ h2_).trans ((h_ i_ hi_).2 t_ h1_ h2_)⟩
theorem idf_fr {w_ : sx_Wl} {dd_ : Nat} {S_ S'_ : sm_S} (g_ : ai_fr (sx_W w_) S_ S'_) (h1_ : ∀ k_, k_ < 10 → (sx_W w_).1 3 k_ = false) (h2_ : ∀ t_, t_ < 48 → 42 ≤ t_ → (sx_W w_).2.1 t_ = false) : idf dd_ S_ S'_ := fun i_ _ => ⟨fun k_ hk_ => g_.1 3 i_ k_ (h1_ k_ hk_), fun t_ q1_ q2_ => fr_arr g_ (h2_ t_ q1_ q2_)⟩
theorem idf_pI {dd_ t_ i_ k_ : Nat} {S_ S'_ : sm_S} {v_ : Int} (h_ : idf dd_ S_ S'_) (g_ : t_ ≠ 3 ∨ i_ = dd_) : idf dd_ S_ (sm_pI S'_ t_ i_ k_ v_) := fun j_ hj_ => ⟨fun k1_ hk_ => by
  rw [← (h_ j_ hj_).1 k1_ hk_]
  exact sm_up_ne (fun z_ => by
    rcases g_ with g_ | g_
    · exact g_ z_.1.symm
    · exact hj_ (z_.2.1.trans g_)), (h_ j_ hj_).2⟩
theorem idf_aI {dd_ t_ i_ k_ : Nat} {S_ S'_ : sm_S} {v_ : Int} (h_ : idf dd_ S_ S'_) (g_ : (t_ < 42 ∨ 47 < t_) ∨ i_ = 0 + dd_) : idf dd_ S_ (sm_aI S'_ t_ i_ k_ v_) := fun j_ hj_ => ⟨(h_ j_ hj_).1, fun t1_ q1_ q2_ => by
  rw [← (h_ j_ hj_).2 t1_ q1_ q2_]
  funext k1_
  exact sm_up_ne (fun z_ => by
    rcases g_ with g_ | g_
    · have := z_.1
      omega
    · have := z_.2.1
      omega)⟩
theorem idf_aL {dd_ t_ i_ k_ : Nat} {S_ S'_ : sm_S} {v_ : Int} (h_ : idf dd_ S_ S'_) : idf dd_ S_ (sm_aL S'_ t_ i_ k_ v_) := h_
theorem idf_pR {dd_ t_ i_ k_ : Nat} {S_ S'_ : sm_S} {v_ : Option Nat} (h_ : idf dd_ S_ S'_) : idf dd_ S_ (sm_pR S'_ t_ i_ k_ v_) := h_
theorem idf_ac {dd_ t_ i_ t1_ i1_ a_ c_ k_ : Nat} {S_ S'_ : sm_S} (h_ : idf dd_ S_ S'_) (g_ : (t1_ < 42 ∨ 47 < t1_) ∨ i1_ = 0 + dd_) : idf dd_ S_ (sm_acI S'_ t_ i_ t1_ i1_ a_ c_ k_) := fun j_ hj_ => ⟨(h_ j_ hj_).1, fun t2_ q1_ q2_ => by
  rw [← (h_ j_ hj_).2 t2_ q1_ q2_]
  exact sm_acI_ne (fun z_ => by
    rcases g_ with g_ | g_
    · have := z_.1
      omega
    · have := z_.2
      omega)⟩
theorem idf_acL {dd_ t_ i_ t1_ i1_ a_ c_ k_ : Nat} {S_ S'_ : sm_S} (h_ : idf dd_ S_ S'_) : idf dd_ S_ (sm_acL S'_ t_ i_ t1_ i1_ a_ c_ k_) := h_
/-- the_ class's graph -/
def cgx (dd_ F_ : Nat) (G_ : pGr) (S_ : sm_S) : Prop := S_.2.1 1 0 1 = some dd_ ∧ (F_ : Int) = 1 + S_.1 3 dd_ 1 + S_.1 3 dd_ 2 ∧ (1 ≤ F_ ∧ F_ ≤ 13) ∧ S_.1 3 dd_ 4 = ((F_ + G_.length : Nat) : Int) ∧ G_.length ≤ 1000 ∧ (∀ (k_ : Nat) (x_ y_ : Int), G_[k_]? = some (x_, y_) → S_.2.2.1 42 (0 + dd_) (F_ + k_) = x_ ∧ S_.2.2.1 43 (0 + dd_) (F_ + k_) = y_) ∧ gnd G_ ∧ bkr F_ G_ (S_.2.2.1 29 0)
def cgl (dd_ F_ : Nat) (G_ : pGr) (S_ : sm_S) : Prop := ∃ G1_, cgx dd_ F_ G1_ S_ ∧ ((G_.length ≤ 1000 ∧ G1_ = G_ ∧ S_.1 1 0 8 = 0) ∨ (1000 < G_.length ∧ G1_.length = 1000 ∧ S_.1 1 0 8 = 1))
theorem cgx_up {dd_ F_ : Nat} {G_ : pGr} {S_ S'_ : sm_S} {a_ b_ : Int} {j_ : Nat} (h_ : cgx dd_ F_ G_ S_) (hl_ : G_.length < 1000) (hj_ : j_ < 4096) (h1_ : ∀ i_, i_ < j_ → S_.2.2.1 29 0 (hpl a_ b_ i_) ≠ 0) (h2_ : S_.2.2.1 29 0 (hpl a_ b_ j_) = 0) (hn_ : g_fd a_ b_ G_ 0 = none) (e0_ : S'_.2.1 1 0 1 = S_.2.1 1 0 1) (e1_ : S'_.1 3 dd_ 1 = S_.1 3 dd_ 1) (e2_ : S'_.1 3 dd_ 2 = S_.1 3 dd_ 2) (e4_ : S'_.1 3 dd_ 4 = S_.1 3 dd_ 4 + 1) (e29_ : ∀ k_, S'_.2.2.1 29 0 k_ = if k_ = hpl a_ b_ j_ then ((F_ + G_.length : Nat) : Int) else S_.2.2.1 29 0 k_) (e42_ : ∀ k_, S'_.2.2.1 42 (0 + dd_) k_ = if k_ = F_ + G_.length then a_ else S_.2.2.1 42 (0 + dd_) k_) (e43_ : ∀ k_, S'_.2.2.1 43 (0 + dd_) k_ = if k_ = F_ + G_.length then b_ else S_.2.2.1 43 (0 + dd_) k_) : cgx dd_ F_ (G_ ++ [(a_, b_)]) S'_ := by
  obtain ⟨x1_, x2_, x3_, x4_, x5_, x6_, x7_, x8_⟩ := h_
  refine ⟨e0_.trans x1_, by rw [e1_, e2_]; exact x2_, x3_, ?_, ?_, fun k_ x_ y_ e_ => ?_, gnd_ap x7_ hn_, bk_put x8_ x3_.1 hj_ h1_ h2_ e29_⟩
  · rw [e4_, x4_]
    simp only [List.length_append, List.length_cons, List.length_nil]
    push_cast
    omega
  · simp only [List.length_append, List.length_cons, List.length_nil]
    omega
  · rw [e42_, e43_]
    rcases ap_get e_ with ⟨z1_, z2_⟩ | ⟨z1_, z2_, z3_⟩
    · rw [if_neg (by omega), if_neg (by omega)]
      exact x6_ k_ x_ y_ z2_
    · rw [if_pos (by omega), if_pos (by omega)]
      exact ⟨z2_.symm, z3_.symm⟩
/-- the_ same graph, if nothing of_ it_ was_ written -/
theorem cgx_cg {dd_ F_ : Nat} {G_ : pGr} {S_ S'_ : sm_S} (h_ : cgx dd_ F_ G_ S_) (e0_ : S'_.2.1 1 0 1 = S_.2.1 1 0 1) (e1_ : S'_.1 3 dd_ 1 = S_.1 3 dd_ 1) (e2_ : S'_.1 3 dd_ 2 = S_.1 3 dd_ 2) (e4_ : S'_.1 3 dd_ 4 = S_.1 3 dd_ 4) (e29_ : S'_.2.2.1 29 0 = S_.2.2.1 29 0) (e42_ : S'_.2.2.1 42 (0 + dd_) = S_.2.2.1 42 (0 + dd_)) (e43_ : S'_.2.2.1 43 (0 + dd_) = S_.2.2.1 43 (0 + dd_)) : cgx dd_ F_ G_ S'_ := by
  unfold cgx at h_ ⊢
  rw [e0_, e1_, e2_, e4_, e29_, e42_, e43_]
  exact h_
theorem cgl_fr {w_ : sx_Wl} {dd_ F_ : Nat} {G_ : pGr} {S_ S'_ : sm_S} (h_ : cgl dd_ F_ G_ S_) (g_ : ai_fr (sx_W w_) S_ S'_) (h0_ : (sx_W w_).2.2 1 1 = false) (h1_ : (sx_W w_).1 3 1 = false) (h2_ : (sx_W w_).1 3 2 = false) (h3_ : (sx_W w_).1 3 4 = false) (h4_ : (sx_W w_).2.1 29 = false) (h5_ : (sx_W w_).2.1 42 = false) (h6_ : (sx_W w_).2.1 43 = false) (h7_ : (sx_W w_).1 1 8 = false) : cgl dd_ F_ G_ S'_ := by
  obtain ⟨G1_, x1_, x2_⟩ := h_
  refine ⟨G1_, cgx_cg x1_ (g_.2.1 1 0 1 h0_) (g_.1 3 dd_ 1 h1_) (g_.1 3 dd_ 2 h2_) (g_.1 3 dd_ 4 h3_) (fr_arr g_ h4_) (fr_arr g_ h5_) (fr_arr g_ h6_), ?_⟩
  rw [g_.1 1 0 8 h7_]
  exact x2_
theorem cgl_d {dd_ F_ : Nat} {G_ : pGr} {S_ : sm_S} (h_ : cgl dd_ F_ G_ S_) : S_.2.1 1 0 1 = some dd_ := by
  obtain ⟨G1_, x_, _⟩ := h_
  exact x_.1
theorem cgl_f {dd_ F_ : Nat} {G_ : pGr} {S_ : sm_S} (h_ : cgl dd_ F_ G_ S_) : (S_.1 1 0 8 = 0 ↔ G_.length ≤ 1000) ∧ (S_.1 1 0 8 = 0 ∨ S_.1 1 0 8 = 1) := by
  obtain ⟨G1_, _, x_⟩ := h_
  rcases x_ with x_ | x_ <;> omega
/-- what an_ AND_ gives: out_ of_ the_ exact graph -/
theorem an_go {dd_ F_ : Nat} {G_ G1_ : pGr} {S_ S1_ : sm_S} {A_ B_ x_ y_ v_ : Int} (hx_ : cgx dd_ F_ G1_ S_) (h0_ : (G_.length ≤ 1000 ∧ G1_ = G_ ∧ S_.1 1 0 8 = 0) ∨ (1000 < G_.length ∧ G1_.length = 1000 ∧ S_.1 1 0 8 = 1)) (hab_ : G_.length ≤ 1000 → x_ = A_ ∧ y_ = B_) (hr_ : (cgx dd_ F_ (g_an F_ G1_ x_ y_).2 S1_ ∧ v_ = (g_an F_ G1_ x_ y_).1 ∧ S1_.1 1 0 8 = S_.1 1 0 8) ∨ (G1_.length = 1000 ∧ (g_an F_ G1_ x_ y_).2.length = 1001 ∧ cgx dd_ F_ G1_ S1_ ∧ S1_.1 1 0 8 = 1)) : cgl dd_ F_ (g_an F_ G_ A_ B_).2 S1_ ∧ ((g_an F_ G_ A_ B_).2.length ≤ 1000 → v_ = (g_an F_ G_ A_ B_).1) := by
  have hm_ := g_an_le (F_ := F_) (G_ := G_) (a_ := A_) (b_ := B_)
  have hm1_ := g_an_le (F_ := F_) (G_ := G1_) (a_ := x_) (b_ := y_)
  rcases h0_ with ⟨z1_, z2_, z3_⟩ | ⟨z1_, z2_, z3_⟩
  · obtain ⟨e1_, e2_⟩ := hab_ z1_
    subst z2_
    subst e1_
    subst e2_
    rcases hr_ with ⟨r1_, r2_, r3_⟩ | ⟨r1_, r2_, r3_, r4_⟩
    · exact ⟨⟨_, r1_, Or.inl ⟨r1_.2.2.2.2.1, rfl, r3_.trans z3_⟩⟩, fun _ => r2_⟩
    · exact ⟨⟨_, r3_, Or.inr ⟨by omega, r1_, r4_⟩⟩, fun z_ => by omega⟩
  · refine ⟨?_, fun z_ => by omega⟩
    rcases hr_ with ⟨r1_, r2_, r3_⟩ | ⟨r1_, r2_, r3_, r4_⟩
    · have := r1_.2.2.2.2.1
      exact ⟨_, r1_, Or.inr ⟨by omega, by omega, r3_.trans z3_⟩⟩
    · exact ⟨_, r3_, Or.inr ⟨by omega, r1_, r4_⟩⟩
theorem g_an_mn {F_ : Nat} {G_ : pGr} {x_ y_ a_ b_ : Int} (h_ : (x_ < y_ ∧ a_ = x_ ∧ b_ = y_) ∨ (y_ ≤ x_ ∧ a_ = y_ ∧ b_ = x_)) : g_an F_ G_ x_ y_ = g_a2 F_ G_ a_ b_ := by
  unfold g_an
  rcases h_ with ⟨h1_, h2_, h3_⟩ | ⟨h1_, h2_, h3_⟩
  · rw [if_pos h1_, h2_, h3_]
  · rw [if_neg (by omega), h2_, h3_]
theorem g_a2_f {F_ k_ : Nat} {G_ : pGr} {x_ y_ : Int} (h0_ : ¬ (x_ = 0 ∨ x_ = i_xor y_ 1)) (h1_ : ¬ (x_ = 1 ∨ x_ = y_)) (h_ : g_fd x_ y_ G_ 0 = some k_) : g_a2 F_ G_ x_ y_ = (2 * ((F_ + k_ : Nat) : Int), G_) := by
  unfold g_a2
  rw [if_neg h0_, if_neg h1_, h_]
theorem g_a2_n {F_ : Nat} {G_ : pGr} {x_ y_ : Int} (h0_ : ¬ (x_ = 0 ∨ x_ = i_xor y_ 1)) (h1_ : ¬ (x_ = 1 ∨ x_ = y_)) (h_ : g_fd x_ y_ G_ 0 = none) : g_a2 F_ G_ x_ y_ = (2 * ((F_ + G_.length : Nat) : Int), G_ ++ [(x_, y_)]) := by
  unfold g_a2
  rw [if_neg h0_, if_neg h1_, h_]
end
/-! 99.za2 -/
section
/-! evaluation of code; written by wip/p55/gen/vg -/

/-! evaluation of_ code -/
abbrev gV : Type := List (List Int)
abbrev gE : Type := Nat → List Int
abbrev gO : Type := Nat → Option (Nat → List Int)
abbrev gQ : Type := pGr × Nat × Nat
abbrev gS : Type := gQ × gE × gO × gV
def g_z2 (op_ : pGr → Int → Int → Int × pGr) : pGr → List Int → List Int → List Int × pGr
  | G_, a_ :: x_, b_ :: y_ => ((op_ G_ a_ b_).1 :: (g_z2 op_ (op_ G_ a_ b_).2 x_ y_).1, (g_z2 op_ (op_ G_ a_ b_).2 x_ y_).2)
  | G_, _, _ => ([], G_)
/-- one_ bit_ of_ a_ sum_: the_ bit_, the_ carry, the_ graph -/
def g_s3 (F_ : Nat) (G_ : pGr) (c_ a_ b_ : Int) : Int × Int × pGr :=
  let h_ := g_xo F_ G_ a_ b_
  let s_ := g_xo F_ h_.2 h_.1 c_
  let m_ := g_an F_ s_.2 a_ b_
  let t_ := g_an F_ m_.2 h_.1 c_
  let o_ := g_or F_ t_.2 m_.1 t_.1
  (s_.1, o_.1, o_.2)
def g_su (F_ : Nat) : pGr → Int → List Int → List Int → List Int × pGr
  | G_, c_, a_ :: x_, b_ :: y_ => ((g_s3 F_ G_ c_ a_ b_).1 :: (g_su F_ (g_s3 F_ G_ c_ a_ b_).2.2 (g_s3 F_ G_ c_ a_ b_).2.1 x_ y_).1, (g_su F_ (g_s3 F_ G_ c_ a_ b_).2.2 (g_s3 F_ G_ c_ a_ b_).2.1 x_ y_).2)
  | G_, _, _, _ => ([], G_)
def g_e3 (F_ : Nat) (G_ : pGr) (s_ a_ b_ : Int) : Int × pGr := g_an F_ (g_xo F_ G_ a_ b_).2 s_ (i_xor (g_xo F_ G_ a_ b_).1 1)
def g_s1 (F_ : Nat) : pGr → Int → List Int → List Int → Int × pGr
  | G_, s_, a_ :: x_, b_ :: y_ => g_s1 F_ (g_e3 F_ G_ s_ a_ b_).2 (g_e3 F_ G_ s_ a_ b_).1 x_ y_
  | G_, s_, _, _ => (s_, G_)
def g_sa (F_ : Nat) (G_ : pGr) : List Int → List Int → List Int × pGr
  | a_ :: x_, b_ :: y_ => ([(g_s1 F_ (g_xo F_ G_ a_ b_).2 (i_xor (g_xo F_ G_ a_ b_).1 1) x_ y_).1], (g_s1 F_ (g_xo F_ G_ a_ b_).2 (i_xor (g_xo F_ G_ a_ b_).1 1) x_ y_).2)
  | _, _ => ([], G_)
/-- one_ bit_ of_ a_ choice -/
def g_c3 (F_ : Nat) (G_ : pGr) (c_ a_ b_ : Int) : Int × pGr := g_or F_ (g_an F_ (g_an F_ G_ c_ a_).2 (i_xor c_ 1) b_).2 (g_an F_ G_ c_ a_).1 (g_an F_ (g_an F_ G_ c_ a_).2 (i_xor c_ 1) b_).1
def g_ch (F_ : Nat) (c_ : Int) : pGr → List Int → List Int → List Int × pGr := g_z2 (fun G_ a_ b_ => g_c3 F_ G_ c_ a_ b_)
def g_bw (F_ : Nat) (k_ : Int) : pGr → Int → Int → Int × pGr := if k_ = 3 then g_an F_ else if k_ = 1 then g_or F_ else g_xo F_
def g_op (F_ : Nat) (k_ : Int) (G_ : pGr) (x_ y_ : List Int) : List Int × pGr := if k_ = 5 then g_su F_ G_ 0 x_ y_ else if k_ = 4 then g_sa F_ G_ x_ y_ else g_z2 (g_bw F_ k_) G_ x_ y_
def e_op (F_ : Nat) (k_ : Int) (G_ : pGr) (V_ : gV) : Option (pGr × gV) :=
  if k_ = 6 then (match V_ with
    | x_ :: l_ => some (G_, x_.map (fun z_ => i_xor z_ 1) :: l_)
    | _ => none)
  else if k_ = 7 then (match V_ with
    | e_ :: a_ :: [c_] :: l_ => if a_.length = e_.length ∧ 1 ≤ a_.length then some ((g_ch F_ c_ G_ a_ e_).2, (g_ch F_ c_ G_ a_ e_).1 :: l_) else none
    | _ => none)
  else if 1 ≤ k_ ∧ k_ ≤ 5 then (match V_ with
    | y_ :: x_ :: l_ => if x_.length = y_.length ∧ 1 ≤ x_.length then some ((g_op F_ k_ G_ x_ y_).2, (g_op F_ k_ G_ x_ y_).1 :: l_) else none
    | _ => none)
  else none
def c_bt (a_ : Nat) (d_ : Int) : List Int := (List.range a_).map fun (j_ : Nat) => i_shr d_ (j_ : Int) % 2
def e_ld (A_ : pA) (m_ : Nat) (k_ : Int) (a_ : Nat) (d_ : Int) (E_ : gE) (O_ : gO) (V_ : gV) : Option gV :=
  if k_ = 11 then (match V_ with
    | x_ :: l_ => if a_ < x_.length then some ([x_.getD a_ 0] :: l_) else none
    | _ => none)
  else if 512 ≤ V_.length then none
  else if k_ = 8 then (if 1 ≤ a_ ∧ a_ ≤ 8 ∧ 0 ≤ d_ then some (c_bt a_ d_ :: V_) else none)
  else if k_ = 9 then (if a_ < A_.1 m_ ∧ 1 ≤ (E_ a_).length ∧ (E_ a_).length ≤ 8 ∧ ((E_ a_).length : Int) = A_.2.2.2.1 (40 * m_ + a_) then some (E_ a_ :: V_) else none)
  else if k_ = 10 then (match O_ a_ with
    | some o_ => if a_ < A_.1 m_ ∧ 0 ≤ d_ ∧ d_ < A_.1 (A_.2.2.2.2 (40 * m_ + a_)).toNat ∧ 0 ≤ A_.2.2.2.2 (40 * m_ + a_) ∧ A_.2.2.2.2 (40 * m_ + a_) < m_ ∧ 1 ≤ (o_ d_.toNat).length ∧ (o_ d_.toNat).length ≤ 8 ∧ ((o_ d_.toNat).length : Int) = A_.2.2.2.1 (40 * (A_.2.2.2.2 (40 * m_ + a_)).toNat + d_.toNat) then some (o_ d_.toNat :: V_) else none
    | none => none)
  else none
def r_bt (I_ R_ wd_ : Nat) : List Int := (List.range wd_).map fun (j_ : Nat) => 2 * ((1 + I_ + R_ + j_ : Nat) : Int)
def up1 {α : Type} (f_ : Nat → α) (a_ : Nat) (v_ : α) : Nat → α := fun k_ => if k_ = a_ then v_ else f_ k_
def e_st (I_ : Nat) (A_ : pA) (m_ : Nat) (k_ : Int) (a_ : Nat) (d_ : Int) (s_ : gS) : Option gS :=
  if A_.1 m_ ≤ a_ then none
  else if k_ = 15 then (if s_.1.2.2 ≤ 200 ∧ s_.2.1 a_ = [] ∧ s_.2.2.1 a_ = none then some ((s_.1.1, s_.1.2.1, s_.1.2.2 + 1), s_.2.1, up1 s_.2.2.1 a_ (some fun _ => []), s_.2.2.2) else none)
  else if k_ = 13 then (if s_.2.2.1 a_ = none ∧ 1 ≤ A_.2.2.2.1 (40 * m_ + a_) ∧ A_.2.2.2.1 (40 * m_ + a_) ≤ 8 ∧ s_.1.2.1 + (A_.2.2.2.1 (40 * m_ + a_)).toNat ≤ 6 then some ((s_.1.1, s_.1.2.1 + (A_.2.2.2.1 (40 * m_ + a_)).toNat, s_.1.2.2), up1 s_.2.1 a_ (r_bt I_ s_.1.2.1 (A_.2.2.2.1 (40 * m_ + a_)).toNat), s_.2.2.1, s_.2.2.2) else none)
  else match s_.2.2.2 with
    | [] => none
    | x_ :: l_ => if k_ = 12 then (if s_.2.2.1 a_ = none ∧ x_.length ≤ 8 then some (s_.1, up1 s_.2.1 a_ x_, s_.2.2.1, l_) else none)
      else if k_ = 14 then (match s_.2.1 a_ with
        | [] => none
        | z_ :: _ => if 2 * (1 + (I_ : Int)) ≤ z_ ∧ z_ / 2 - 1 - I_ + x_.length ≤ 6 then some (s_.1, s_.2.1, s_.2.2.1, l_) else none)
      else if k_ = 16 then (match s_.2.2.1 a_ with
        | some o_ => if 0 ≤ d_ ∧ d_ < 40 ∧ x_.length ≤ 8 then some (s_.1, s_.2.1, up1 s_.2.2.1 a_ (some (up1 o_ d_.toNat x_)), l_) else none
        | none => none)
      else none
def ew (F_ I_ : Nat) (A_ : pA) (X_ : Nat → gQ → gE → Option (gQ × gE)) (m_ : Nat) (w_ : Int) (s_ : gS) : Option gS :=
  if w_ % 32 = 17 then (match s_.2.2.1 (w_ / 32 % 64).toNat, s_.2.2.2 with
    | some o_, [] => if (w_ / 32 % 64).toNat < A_.1 m_ ∧ 0 ≤ w_ / 2048 ∧ w_ / 2048 < m_ then (match X_ (w_ / 2048).toNat s_.1 o_ with
        | some r_ => some (r_.1, s_.2.1, up1 s_.2.2.1 (w_ / 32 % 64).toNat (some r_.2), [])
        | none => none) else none
    | _, _ => none)
  else if w_ % 32 ≤ 7 then (match e_op F_ (w_ % 32) s_.1.1 s_.2.2.2 with
    | some r_ => some ((r_.1, s_.1.2), s_.2.1, s_.2.2.1, r_.2)
    | none => none)
  else if w_ % 32 ≤ 11 then (match e_ld A_ m_ (w_ % 32) (w_ / 32 % 64).toNat (w_ / 2048) s_.2.1 s_.2.2.1 s_.2.2.2 with
    | some V_ => some (s_.1, s_.2.1, s_.2.2.1, V_)
    | none => none)
  else e_st I_ A_ m_ (w_ % 32) (w_ / 32 % 64).toNat (w_ / 2048) s_
def ec (F_ I_ : Nat) (A_ : pA) (X_ : Nat → gQ → gE → Option (gQ × gE)) (m_ : Nat) : List Int → gS → Option gS
  | [], s_ => some s_
  | w_ :: c_, s_ => match ew F_ I_ A_ X_ m_ w_ s_ with
    | some s1_ => ec F_ I_ A_ X_ m_ c_ s1_
    | none => none
def exm (F_ I_ : Nat) (A_ : pA) (C_ : Nat → List Int) : Nat → Nat → gQ → gE → Option (gQ × gE)
  | 0, _, _, _ => none
  | f_ + 1, d_, q_, e_ => match ec F_ I_ A_ (exm F_ I_ A_ C_ f_) d_ (C_ d_) (q_, e_, fun _ => none, []) with
    | some s_ => match s_.2.2.2 with
      | [] => some (s_.1, s_.2.1)
      | _ => none
    | none => none
/-! the_ graph only grows -/
theorem g_or_le {F_ : Nat} {G_ : pGr} {a_ b_ : Int} : G_.length ≤ (g_or F_ G_ a_ b_).2.length := g_an_le.1
theorem g_xo_le {F_ : Nat} {G_ : pGr} {a_ b_ : Int} : G_.length ≤ (g_xo F_ G_ a_ b_).2.length :=
  Nat.le_trans g_an_le.1 (Nat.le_trans g_an_le.1 g_or_le)
theorem g_z2_le {op_ : pGr → Int → Int → Int × pGr} (h_ : ∀ G_ a_ b_, G_.length ≤ (op_ G_ a_ b_).2.length) : ∀ (x_ y_ : List Int) (G_ : pGr), G_.length ≤ (g_z2 op_ G_ x_ y_).2.length
  | [], _, G_ => Nat.le_refl _
  | _ :: _, [], G_ => Nat.le_refl _
  | a_ :: x_, b_ :: y_, G_ => Nat.le_trans (h_ G_ a_ b_) (g_z2_le h_ x_ y_ _)
theorem g_s3_le {F_ : Nat} {G_ : pGr} {c_ a_ b_ : Int} : G_.length ≤ (g_s3 F_ G_ c_ a_ b_).2.2.length :=
  Nat.le_trans g_xo_le (Nat.le_trans g_xo_le (Nat.le_trans g_an_le.1 (Nat.le_trans g_an_le.1 g_or_le)))
theorem g_su_le {F_ : Nat} : ∀ (x_ y_ : List Int) (G_ : pGr) (c_ : Int), G_.length ≤ (g_su F_ G_ c_ x_ y_).2.length
  | [], _, G_, _ => Nat.le_refl _
  | _ :: _, [], G_, _ => Nat.le_refl _
  | a_ :: x_, b_ :: y_, G_, c_ => Nat.le_trans g_s3_le (g_su_le x_ y_ _ _)
theorem g_e3_le {F_ : Nat} {G_ : pGr} {s_ a_ b_ : Int} : G_.length ≤ (g_e3 F_ G_ s_ a_ b_).2.length := Nat.le_trans g_xo_le g_an_le.1
theorem g_s1_le {F_ : Nat} : ∀ (x_ y_ : List Int) (G_ : pGr) (c_ : Int), G_.length ≤ (g_s1 F_ G_ c_ x_ y_).2.length
  | [], _, G_, _ => Nat.le_refl _
  | _ :: _, [], G_, _ => Nat.le_refl _
  | a_ :: x_, b_ :: y_, G_, c_ => Nat.le_trans g_e3_le (g_s1_le x_ y_ _ _)
theorem g_sa_le {F_ : Nat} : ∀ (x_ y_ : List Int) (G_ : pGr), G_.length ≤ (g_sa F_ G_ x_ y_).2.length
  | [], _, G_ => Nat.le_refl _
  | _ :: _, [], G_ => Nat.le_refl _
  | a_ :: x_, b_ :: y_, G_ => Nat.le_trans g_xo_le (g_s1_le x_ y_ _ _)
theorem g_c3_le {F_ : Nat} {G_ : pGr} {c_ a_ b_ : Int} : G_.length ≤ (g_c3 F_ G_ c_ a_ b_).2.length := Nat.le_trans g_an_le.1 (Nat.le_trans g_an_le.1 g_or_le)
theorem g_bw_le {F_ : Nat} {k_ : Int} : ∀ G_ a_ b_, G_.length ≤ (g_bw F_ k_ G_ a_ b_).2.length := by
  intro G_ a_ b_
  unfold g_bw
  split
  · exact g_an_le.1
  · split
    · exact g_or_le
    · exact g_xo_le
theorem g_op_le {F_ : Nat} {k_ : Int} {x_ y_ : List Int} {G_ : pGr} : G_.length ≤ (g_op F_ k_ G_ x_ y_).2.length := by
  unfold g_op
  split
  · exact g_su_le x_ y_ G_ 0
  · split
    · exact g_sa_le x_ y_ G_
    · exact g_z2_le g_bw_le x_ y_ G_
theorem e_op_le {F_ : Nat} {k_ : Int} {G_ : pGr} {V_ : gV} {r_ : pGr × gV} (h_ : e_op F_ k_ G_ V_ = some r_) : G_.length ≤ r_.1.length := by
  unfold e_op at h_
  split at h_
  · split at h_
    · cases h_; exact Nat.le_refl _
    · cases h_
  · split at h_
    · split at h_
      · split at h_
        · cases h_; exact g_z2_le (fun G_ a_ b_ => g_c3_le) _ _ _
        · cases h_
      · cases h_
    · split at h_
      · split at h_
        · split at h_
          · cases h_; exact g_op_le
          · cases h_
        · cases h_
      · cases h_
theorem e_st_g {I_ : Nat} {A_ : pA} {m_ : Nat} {k_ : Int} {a_ : Nat} {d_ : Int} {s_ r_ : gS} (h_ : e_st I_ A_ m_ k_ a_ d_ s_ = some r_) : r_.1.1 = s_.1.1 := by
  unfold e_st at h_
  split at h_
  · cases h_
  · split at h_
    · split at h_
      · cases h_; rfl
      · cases h_
    · split at h_
      · split at h_
        · cases h_; rfl
        · cases h_
      · split at h_
        · cases h_
        · split at h_
          · split at h_
            · cases h_; rfl
            · cases h_
          · split at h_
            · split at h_
              · cases h_
              · split at h_
                · cases h_; rfl
                · cases h_
            · split at h_
              · split at h_
                · split at h_
                  · cases h_; rfl
                  · cases h_
                · cases h_
              · cases h_
theorem ew_le {F_ I_ : Nat} {A_ : pA} {X_ : Nat → gQ → gE → Option (gQ × gE)} {m_ : Nat} {w_ : Int} {s_ r_ : gS} (hX_ : ∀ d_ q_ e_ z_, X_ d_ q_ e_ = some z_ → q_.1.length ≤ z_.1.1.length) (h_ : ew F_ I_ A_ X_ m_ w_ s_ = some r_) : s_.1.1.length ≤ r_.1.1.length := by
  unfold ew at h_
  split at h_
  · split at h_
    · split at h_
      · split at h_
        · rename_i e_
          cases h_
          exact hX_ _ _ _ _ e_
        · cases h_
      · cases h_
    · cases h_
  · split at h_
    · split at h_
      · rename_i e_
        cases h_
        exact e_op_le e_
      · cases h_
    · split at h_
      · split at h_
        · cases h_; exact Nat.le_refl _
        · cases h_
      · rw [e_st_g h_]
        exact Nat.le_refl _
theorem ec_le {F_ I_ : Nat} {A_ : pA} {X_ : Nat → gQ → gE → Option (gQ × gE)} {m_ : Nat} (hX_ : ∀ d_ q_ e_ z_, X_ d_ q_ e_ = some z_ → q_.1.length ≤ z_.1.1.length) : ∀ (c_ : List Int) (s_ r_ : gS), ec F_ I_ A_ X_ m_ c_ s_ = some r_ → s_.1.1.length ≤ r_.1.1.length
  | [], s_, r_, h_ => by cases h_; exact Nat.le_refl _
  | w_ :: c_, s_, r_, h_ => by
    rw [ec] at h_
    split at h_
    · rename_i e_
      exact Nat.le_trans (ew_le hX_ e_) (ec_le hX_ c_ _ _ h_)
    · cases h_
theorem exm_le {F_ I_ : Nat} {A_ : pA} {C_ : Nat → List Int} : ∀ (f_ d_ : Nat) (q_ : gQ) (e_ : gE) (z_ : gQ × gE), exm F_ I_ A_ C_ f_ d_ q_ e_ = some z_ → q_.1.length ≤ z_.1.1.length
  | 0, _, _, _, _, h_ => by cases h_
  | f_ + 1, d_, q_, e_, z_, h_ => by
    rw [exm] at h_
    split at h_
    · rename_i e1_
      split at h_
      · cases h_
        exact ec_le (fun d_ q_ e_ z_ => exm_le f_ d_ q_ e_ z_) _ _ _ e1_
      · cases h_
    · cases h_
theorem ec_ap {F_ I_ : Nat} {A_ : pA} {X_ : Nat → gQ → gE → Option (gQ × gE)} {m_ : Nat} : ∀ (c_ d_ : List Int) (s_ : gS), ec F_ I_ A_ X_ m_ (c_ ++ d_) s_ = match ec F_ I_ A_ X_ m_ c_ s_ with
    | some s1_ => ec F_ I_ A_ X_ m_ d_ s1_
    | none => none
  | [], d_, s_ => rfl
  | w_ :: c_, d_, s_ => by
    rw [List.cons_append, ec, ec]
    cases ew F_ I_ A_ X_ m_ w_ s_ with
    | none => rfl
    | some s1_ => exact ec_ap c_ d_ s1_
/-! rows that hold values -/
def rwv (st_ : Nat → Int) (p_ : Nat) (v_ : List Int) : Prop := ∀ (k_ : Nat) (z_ : Int), v_[k_]? = some z_ → st_ (p_ + k_) = z_
def svl (ok_ : Prop) (st_ wd_ : Nat → Int) : gV → Prop
  | [] => True
  | v_ :: l_ => wd_ l_.length = (v_.length : Int) ∧ (1 ≤ v_.length ∧ v_.length ≤ 8) ∧ (ok_ → rwv st_ (8 * l_.length) v_) ∧ svl ok_ st_ wd_ l_
theorem svl_up {ok_ ok'_ : Prop} {st_ st'_ wd_ wd'_ : Nat → Int} : ∀ {l_ : gV}, svl ok_ st_ wd_ l_ → (ok'_ → ok_) → (∀ j_, j_ < 8 * l_.length → st'_ j_ = st_ j_) → (∀ j_, j_ < l_.length → wd'_ j_ = wd_ j_) → svl ok'_ st'_ wd'_ l_
  | [], _, _, _, _ => trivial
  | v_ :: l_, h_, h0_, h1_, h2_ => by
    refine ⟨?_, h_.2.1, fun z_ k_ x_ e_ => ?_, svl_up h_.2.2.2 h0_ (fun j_ hj_ => h1_ j_ (by simp only [List.length_cons]; omega)) (fun j_ hj_ => h2_ j_ (by simp only [List.length_cons]; omega))⟩
    · rw [h2_ l_.length (by simp)]
      exact h_.1
    · have hk_ : k_ < v_.length := by
        by_cases g_ : k_ < v_.length
        · exact g_
        · rw [List.getElem?_eq_none (by omega)] at e_; cases e_
      have := h_.2.1
      rw [h1_ _ (by simp only [List.length_cons]; omega)]
      exact h_.2.2.1 (h0_ z_) k_ x_ e_
theorem rwv_cg {st_ st'_ : Nat → Int} {p_ : Nat} {v_ : List Int} (h_ : rwv st_ p_ v_) (h1_ : ∀ k_, k_ < v_.length → st'_ (p_ + k_) = st_ (p_ + k_)) : rwv st'_ p_ v_ := by
  intro k_ z_ e_
  have hk_ : k_ < v_.length := by
    by_cases g_ : k_ < v_.length
    · exact g_
    · rw [List.getElem?_eq_none (by omega)] at e_; cases e_
  rw [h1_ k_ hk_]
  exact h_ k_ z_ e_
theorem rwv_g {st_ : Nat → Int} {p_ k_ : Nat} {v_ : List Int} (h_ : rwv st_ p_ v_) (hk_ : k_ < v_.length) : st_ (p_ + k_) = v_.getD k_ 0 := by
  refine h_ k_ _ ?_
  rw [List.getD_eq_getElem?_getD, List.getElem?_eq_getElem hk_]
  rfl
theorem rwv_m {st_ : Nat → Int} {p_ : Nat} {d_ r_ : List Int} {a_ : Int} (h_ : rwv st_ p_ (d_ ++ a_ :: r_)) : st_ (p_ + d_.length) = a_ := h_ d_.length a_ (by rw [List.getElem?_append_right (Nat.le_refl _), Nat.sub_self, List.getElem?_cons_zero])
theorem rwv_set {st_ st'_ : Nat → Int} {p_ q_ : Nat} {d_ r_ : List Int} {a_ z_ : Int} (h_ : rwv st_ p_ (d_ ++ a_ :: r_)) (hq_ : q_ = p_ + d_.length) (hs_ : ∀ k_, st'_ k_ = if k_ = q_ then z_ else st_ k_) : rwv st'_ p_ ((d_ ++ [z_]) ++ r_) := by
  intro k_ x_ e_
  rw [hs_]
  by_cases g_ : k_ = d_.length
  · rw [if_pos (by omega)]
    rw [List.append_assoc, List.getElem?_append_right (by omega), show k_ - d_.length = 0 by omega] at e_
    exact Option.some.inj e_
  · rw [if_neg (by omega)]
    refine h_ k_ x_ ?_
    by_cases g2_ : k_ < d_.length
    · rw [List.append_assoc, List.getElem?_append_left g2_] at e_
      rw [List.getElem?_append_left g2_]
      exact e_
    · rw [List.append_assoc, List.getElem?_append_right (by omega)] at e_
      rw [List.getElem?_append_right (by omega)]
      rw [show k_ - d_.length = (k_ - d_.length - 1) + 1 by omega] at e_ ⊢
      exact e_
theorem g_z2_ln {op_ : pGr → Int → Int → Int × pGr} : ∀ (x_ y_ : List Int) (G_ : pGr), x_.length = y_.length → (g_z2 op_ G_ x_ y_).1.length = x_.length
  | [], _, G_, _ => by unfold g_z2; rfl
  | _ :: _, [], G_, h_ => by cases h_
  | a_ :: x_, b_ :: y_, G_, h_ => by
    rw [g_z2, List.length_cons, List.length_cons, g_z2_ln x_ y_ _ (by simpa using h_)]
theorem g_su_ln {F_ : Nat} : ∀ (x_ y_ : List Int) (G_ : pGr) (c_ : Int), x_.length = y_.length → (g_su F_ G_ c_ x_ y_).1.length = x_.length
  | [], _, G_, _, _ => by unfold g_su; rfl
  | _ :: _, [], G_, _, h_ => by cases h_
  | a_ :: x_, b_ :: y_, G_, c_, h_ => by
    rw [g_su, List.length_cons, List.length_cons, g_su_ln x_ y_ _ _ (by simpa using h_)]
theorem g_op_ln {F_ : Nat} {k_ : Int} {x_ y_ : List Int} {G_ : pGr} (h_ : x_.length = y_.length) (h1_ : 1 ≤ x_.length) : (g_op F_ k_ G_ x_ y_).1.length = if k_ = 4 then 1 else x_.length := by
  unfold g_op
  by_cases g5_ : k_ = 5
  · rw [if_pos g5_, if_neg (by omega), g_su_ln x_ y_ G_ 0 h_]
  · rw [if_neg g5_]
    by_cases g4_ : k_ = 4
    · rw [if_pos g4_, if_pos g4_]
      cases x_ with
      | nil => simp at h1_
      | cons a_ x_ =>
        cases y_ with
        | nil => cases h_
        | cons b_ y_ => rfl
    · rw [if_neg g4_, if_neg g4_, g_z2_ln x_ y_ G_ h_]
end
/-! 99.za3 -/
section
/-! frames; written by wip/p55/gen/vg -/

/-! frames -/
def cfr (f_ fc0_ fc_ : Nat) (E_ : gE) (O_ : gO) (fr_ : Nat → Int) : Prop := (∀ s_, s_ < 40 → rwv fr_ (8 * (40 * f_ + s_)) (E_ s_) ∧ (E_ s_).length ≤ 8) ∧ ∃ P_ : Nat → Nat, ∀ a_, a_ < 40 → ∀ o_, O_ a_ = some o_ → fr_ (8 * (40 * f_ + a_)) = (P_ a_ : Int) ∧ (fc0_ ≤ P_ a_ ∧ P_ a_ < fc_) ∧ (∀ a1_, a1_ < 40 → a1_ ≠ a_ → O_ a1_ ≠ none → P_ a1_ ≠ P_ a_) ∧ ∀ o1_, o1_ < 40 → rwv fr_ (8 * (40 * P_ a_ + o1_)) (o_ o1_) ∧ (o_ o1_).length ≤ 8
theorem rwv_cp {g_ h_ : Nat → Int} {p_ q_ : Nat} {v_ : List Int} (hv_ : rwv g_ p_ v_) (hl_ : v_.length ≤ 8) : rwv (sm_cp g_ h_ p_ q_ 8) q_ v_ := by
  intro k_ z_ e_
  have hk_ : k_ < v_.length := by
    by_cases w_ : k_ < v_.length
    · exact w_
    · rw [List.getElem?_eq_none (by omega)] at e_; cases e_
  show (if q_ ≤ q_ + k_ ∧ q_ + k_ < q_ + 8 then g_ (p_ + (q_ + k_ - q_)) else h_ (q_ + k_)) = z_
  rw [if_pos (by omega), show q_ + k_ - q_ = k_ by omega]
  exact hv_ k_ z_ e_
theorem sm_cp_o {g_ h_ : Nat → Int} {p_ q_ n_ j_ : Nat} (hj_ : j_ < q_ ∨ q_ + n_ ≤ j_) : sm_cp g_ h_ p_ q_ n_ j_ = h_ j_ := by
  show (if q_ ≤ j_ ∧ j_ < q_ + n_ then _ else _) = _
  rw [if_neg (by omega)]
theorem cfr_st {f_ fc0_ fc_ a_ : Nat} {E_ : gE} {O_ : gO} {fr_ fr'_ : Nat → Int} {v_ : List Int} (h_ : cfr f_ fc0_ fc_ E_ O_ fr_) (hf_ : f_ < fc0_) (ha_ : a_ < 40) (hO_ : O_ a_ = none) (hv_ : v_.length ≤ 8) (h1_ : rwv fr'_ (8 * (40 * f_ + a_)) v_) (h2_ : ∀ j_, j_ < 8 * (40 * f_ + a_) ∨ 8 * (40 * f_ + a_) + 8 ≤ j_ → fr'_ j_ = fr_ j_) : cfr f_ fc0_ fc_ (up1 E_ a_ v_) O_ fr'_ := by
  obtain ⟨x1_, P_, x2_⟩ := h_
  refine ⟨fun s_ hs_ => ?_, P_, fun a1_ ha1_ o_ ho_ => ?_⟩
  · unfold up1
    by_cases e_ : s_ = a_
    · rw [if_pos e_, e_]
      exact ⟨h1_, hv_⟩
    · rw [if_neg e_]
      have q_ := x1_ s_ hs_
      exact ⟨rwv_cg q_.1 (fun k_ hk_ => h2_ _ (by omega)), q_.2⟩
  · have q_ := x2_ a1_ ha1_ o_ ho_
    have e_ : a1_ ≠ a_ := fun e_ => by rw [e_, hO_] at ho_; cases ho_
    refine ⟨by rw [h2_ _ (by omega)]; exact q_.1, q_.2.1, q_.2.2.1, fun o1_ ho1_ => ?_⟩
    have w_ := q_.2.2.2 o1_ ho1_
    have := q_.2.1
    exact ⟨rwv_cg w_.1 (fun k_ hk_ => h2_ _ (by omega)), w_.2⟩
theorem cfr_bg {f_ fc0_ fc_ a_ : Nat} {E_ : gE} {O_ : gO} {fr_ fr'_ : Nat → Int} (h_ : cfr f_ fc0_ fc_ E_ O_ fr_) (hf_ : f_ < fc0_) (hc_ : fc0_ ≤ fc_) (ha_ : a_ < 40) (hE_ : E_ a_ = []) (hO_ : O_ a_ = none) (h2_ : ∀ j_, fr'_ j_ = if j_ = 8 * (40 * f_ + a_) then (fc_ : Int) else fr_ j_) : cfr f_ fc0_ (fc_ + 1) E_ (up1 O_ a_ (some fun _ => [])) fr'_ := by
  obtain ⟨x1_, P_, x2_⟩ := h_
  refine ⟨fun s_ hs_ => ?_, up1 P_ a_ fc_, fun a1_ ha1_ o_ ho_ => ?_⟩
  · have q_ := x1_ s_ hs_
    by_cases e_ : s_ = a_
    · rw [e_, hE_]
      exact ⟨fun k_ z_ w_ => by simp at w_, by simp⟩
    · exact ⟨rwv_cg q_.1 (fun k_ hk_ => by rw [h2_, if_neg (by omega)]), q_.2⟩
  · unfold up1 at ho_ ⊢
    by_cases e_ : a1_ = a_
    · rw [if_pos e_] at ho_
      cases ho_
      rw [if_pos e_, h2_, if_pos (by rw [e_])]
      refine ⟨rfl, by omega, fun a2_ ha2_ e2_ w_ => ?_, fun o1_ ho1_ => ⟨fun k_ z_ w_ => by simp at w_, by simp⟩⟩
      rw [if_neg (by omega)] at w_ ⊢
      obtain ⟨o2_, w2_⟩ : ∃ o2_, O_ a2_ = some o2_ := by
        cases z_ : O_ a2_ with
        | none => exact absurd z_ w_
        | some o2_ => exact ⟨o2_, rfl⟩
      have := (x2_ a2_ ha2_ o2_ w2_).2.1
      omega
    · rw [if_neg e_] at ho_
      have q_ := x2_ a1_ ha1_ o_ ho_
      rw [if_neg e_, h2_, if_neg (by omega)]
      have q1_ := q_.2.1
      refine ⟨q_.1, by omega, fun a2_ ha2_ e2_ w_ => ?_, fun o1_ ho1_ => ?_⟩
      · by_cases e3_ : a2_ = a_
        · rw [if_pos e3_]; omega
        · rw [if_neg e3_] at w_ ⊢
          exact q_.2.2.1 a2_ ha2_ e2_ w_
      · have w_ := q_.2.2.2 o1_ ho1_
        exact ⟨rwv_cg w_.1 (fun k_ hk_ => by rw [h2_, if_neg (by omega)]), w_.2⟩
/-- an_ argument: into the_ frame that is_ begun -/
theorem cfr_ag {f_ fc0_ fc_ a_ d_ p_ : Nat} {E_ : gE} {O_ : gO} {o_ : Nat → List Int} {fr_ fr'_ : Nat → Int} {v_ : List Int} (h_ : cfr f_ fc0_ fc_ E_ O_ fr_) (hf_ : f_ < fc0_) (ha_ : a_ < 40) (hO_ : O_ a_ = some o_) (hd_ : d_ < 40) (hv_ : v_.length ≤ 8) (hp_ : fr_ (8 * (40 * f_ + a_)) = (p_ : Int)) (h1_ : rwv fr'_ (8 * (40 * p_ + d_)) v_) (h2_ : ∀ j_, j_ < 8 * (40 * p_ + d_) ∨ 8 * (40 * p_ + d_) + 8 ≤ j_ → fr'_ j_ = fr_ j_) : cfr f_ fc0_ fc_ E_ (up1 O_ a_ (some (up1 o_ d_ v_))) fr'_ := by
  obtain ⟨x1_, P_, x2_⟩ := h_
  have y_ := x2_ a_ ha_ o_ hO_
  have py_ : p_ = P_ a_ := by have := y_.1; omega
  subst py_
  have y1_ := y_.2.1
  refine ⟨fun s_ hs_ => ?_, P_, fun a1_ ha1_ o1_ ho1_ => ?_⟩
  · have q_ := x1_ s_ hs_
    exact ⟨rwv_cg q_.1 (fun k_ hk_ => h2_ _ (by omega)), q_.2⟩
  · have hx_ : ∀ a2_, up1 O_ a_ (some (up1 o_ d_ v_)) a2_ ≠ none → O_ a2_ ≠ none := by
      intro a2_ w_
      unfold up1 at w_
      by_cases e_ : a2_ = a_
      · rw [e_, hO_]; exact fun z_ => by cases z_
      · rw [if_neg e_] at w_; exact w_
    by_cases e_ : a1_ = a_
    · have q0_ : o1_ = up1 o_ d_ v_ := by
        unfold up1 at ho1_
        rw [if_pos e_] at ho1_
        exact (Option.some.inj ho1_).symm
      rw [e_, q0_]
      refine ⟨by rw [h2_ _ (by omega)]; exact y_.1, y1_, fun a2_ ha2_ e2_ w_ => y_.2.2.1 a2_ ha2_ e2_ (hx_ a2_ w_), fun o2_ ho2_ => ?_⟩
      unfold up1
      by_cases e3_ : o2_ = d_
      · rw [if_pos e3_, e3_]
        exact ⟨h1_, hv_⟩
      · rw [if_neg e3_]
        have w_ := y_.2.2.2 o2_ ho2_
        exact ⟨rwv_cg w_.1 (fun k_ hk_ => h2_ _ (by omega)), w_.2⟩
    · have q0_ : O_ a1_ = some o1_ := by
        unfold up1 at ho1_
        rw [if_neg e_] at ho1_
        exact ho1_
      have q_ := x2_ a1_ ha1_ o1_ q0_
      have q1_ := q_.2.1
      have ne_ := q_.2.2.1 a_ ha_ (fun z_ => e_ z_.symm) (by rw [hO_]; exact fun z_ => by cases z_)
      refine ⟨by rw [h2_ _ (by omega)]; exact q_.1, q_.2.1, fun a2_ ha2_ e2_ w_ => q_.2.2.1 a2_ ha2_ e2_ (hx_ a2_ w_), fun o2_ ho2_ => ?_⟩
      have w_ := q_.2.2.2 o2_ ho2_
      exact ⟨rwv_cg w_.1 (fun k_ hk_ => h2_ _ (by omega)), w_.2⟩
/-- a_ call: the_ frame that was_ begun holds all_ names -/
theorem cfr_cl {f_ fc0_ fc_ fc1_ a_ p_ : Nat} {E_ e1_ : gE} {O_ : gO} {o_ : Nat → List Int} {fr_ fr'_ : Nat → Int} (h_ : cfr f_ fc0_ fc_ E_ O_ fr_) (hf_ : f_ < fc0_) (ha_ : a_ < 40) (hO_ : O_ a_ = some o_) (hp_ : fr_ (8 * (40 * f_ + a_)) = (p_ : Int)) (hc_ : fc_ ≤ fc1_) (h1_ : ∀ s_, s_ < 40 → rwv fr'_ (8 * (40 * p_ + s_)) (e1_ s_) ∧ (e1_ s_).length ≤ 8) (h2_ : ∀ j_, j_ < 8 * (40 * fc_) → j_ < 8 * (40 * p_) ∨ 8 * (40 * p_) + 320 ≤ j_ → fr'_ j_ = fr_ j_) (hf2_ : fc0_ ≤ fc_) : cfr f_ fc0_ fc1_ E_ (up1 O_ a_ (some e1_)) fr'_ := by
  obtain ⟨x1_, P_, x2_⟩ := h_
  have y_ := x2_ a_ ha_ o_ hO_
  have py_ : p_ = P_ a_ := by have := y_.1; omega
  subst py_
  have y1_ := y_.2.1
  refine ⟨fun s_ hs_ => ?_, P_, fun a1_ ha1_ o1_ ho1_ => ?_⟩
  · have q_ := x1_ s_ hs_
    exact ⟨rwv_cg q_.1 (fun k_ hk_ => h2_ _ (by omega) (by omega)), q_.2⟩
  · have hx_ : ∀ a2_, up1 O_ a_ (some e1_) a2_ ≠ none → O_ a2_ ≠ none := by
      intro a2_ w_
      unfold up1 at w_
      by_cases e_ : a2_ = a_
      · rw [e_, hO_]; exact fun z_ => by cases z_
      · rw [if_neg e_] at w_; exact w_
    by_cases e_ : a1_ = a_
    · have q0_ : o1_ = e1_ := by
        unfold up1 at ho1_
        rw [if_pos e_] at ho1_
        exact (Option.some.inj ho1_).symm
      rw [e_, q0_]
      exact ⟨by rw [h2_ _ (by omega) (by omega)]; exact y_.1, by omega, fun a2_ ha2_ e2_ w_ => y_.2.2.1 a2_ ha2_ e2_ (hx_ a2_ w_), fun o2_ ho2_ => h1_ o2_ ho2_⟩
    · have q0_ : O_ a1_ = some o1_ := by
        unfold up1 at ho1_
        rw [if_neg e_] at ho1_
        exact ho1_
      have q_ := x2_ a1_ ha1_ o1_ q0_
      have q1_ := q_.2.1
      have ne_ := q_.2.2.1 a_ ha_ (fun z_ => e_ z_.symm) (by rw [hO_]; exact fun z_ => by cases z_)
      refine ⟨by rw [h2_ _ (by omega) (by omega)]; exact q_.1, by omega, fun a2_ ha2_ e2_ w_ => q_.2.2.1 a2_ ha2_ e2_ (hx_ a2_ w_), fun o2_ ho2_ => ?_⟩
      have w_ := q_.2.2.2 o2_ ho2_
      exact ⟨rwv_cg w_.1 (fun k_ hk_ => h2_ _ (by omega) (by omega)), w_.2⟩
theorem c_bt_s {j_ : Nat} {d_ : Int} : c_bt (j_ + 1) d_ = c_bt j_ d_ ++ [i_shr d_ (j_ : Int) % 2] := by
  unfold c_bt
  rw [List.range_succ, List.map_append]
  rfl
theorem c_bt_l {j_ : Nat} {d_ : Int} : (c_bt j_ d_).length = j_ := by
  unfold c_bt
  rw [List.length_map, List.length_range]
theorem r_bt_s {I_ R_ j_ : Nat} : r_bt I_ R_ (j_ + 1) = r_bt I_ R_ j_ ++ [2 * ((1 + I_ + R_ + j_ : Nat) : Int)] := by
  unfold r_bt
  rw [List.range_succ, List.map_append]
  rfl
theorem r_bt_l {I_ R_ j_ : Nat} : (r_bt I_ R_ j_).length = j_ := by
  unfold r_bt
  rw [List.length_map, List.length_range]
theorem i_o63 : ∀ x_ y_ : Fin 64, 0 ≤ i_or (x_.val : Int) (y_.val : Int) ∧ i_or (x_.val : Int) (y_.val : Int) ≤ 63 := by decide +kernel
theorem i_orb {x_ y_ : Int} (hx_ : 0 ≤ x_ ∧ x_ ≤ 63) (hy_ : 0 ≤ y_ ∧ y_ ≤ 63) : 0 ≤ i_or x_ y_ ∧ i_or x_ y_ ≤ 63 := by
  have k_ := i_o63 ⟨x_.toNat, by omega⟩ ⟨y_.toNat, by omega⟩
  rw [show ((⟨x_.toNat, by omega⟩ : Fin 64).val : Int) = x_ from Int.toNat_of_nonneg hx_.1, show ((⟨y_.toNat, by omega⟩ : Fin 64).val : Int) = y_ from Int.toNat_of_nonneg hy_.1] at k_
  exact k_
theorem i_s63 : ∀ (x_ : Fin 2) (y_ : Fin 6), 0 ≤ i_shl (x_.val : Int) (y_.val : Int) ∧ i_shl (x_.val : Int) (y_.val : Int) ≤ 63 := by decide +kernel
theorem i_shb {x_ y_ : Int} (hx_ : 0 ≤ x_ ∧ x_ ≤ 1) (hy_ : 0 ≤ y_ ∧ y_ ≤ 5) : 0 ≤ i_shl x_ y_ ∧ i_shl x_ y_ ≤ 63 := by
  have k_ := i_s63 ⟨x_.toNat, by omega⟩ ⟨y_.toNat, by omega⟩
  rw [show ((⟨x_.toNat, by omega⟩ : Fin 2).val : Int) = x_ from Int.toNat_of_nonneg hx_.1, show ((⟨y_.toNat, by omega⟩ : Fin 6).val : Int) = y_ from Int.toNat_of_nonneg hy_.1] at k_
  exact k_
end
