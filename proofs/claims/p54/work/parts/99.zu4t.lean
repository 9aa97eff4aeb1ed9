/-! calls that use the tester, alike on both sides -/
theorem tgo_of {n_ : Nat} {S_ : sm_S} (J_ : jB n_ S_) : tgo S_ := fun c_ hc_ u_ => by
  have K_ := J_.2.2.2.2.2.1.2.1
  have T_ := J_.2.2.2.2.2.1.2.2.2
  have h3_ : S_.2.2.1 222 0 c_ = 1 := (K_.2.1 c_ hc_).symm.trans u_
  have k_ := K_.2.2 c_ hc_ u_
  have rk_ := J_.2.2.1.2 (c_ : Int) (by omega) (by omega) (by rw [Int.toNat_natCast]; exact h3_)
  have a_ := (J_.1.1 2 c_ 1 rfl).1
  have b_ := (J_.1.1 2 c_ 2 rfl).1
  have d_ := (J_.1.1 2 c_ 8 rfl).1
  exact ⟨⟨(J_.2.1.2.1 c_ hc_ u_).1.1, fun g_ hg_ => re_g k_ rk_.2.2.2.1 ⟨a_, b_⟩ (by omega), a_, b_, d_⟩, (T_ c_ hc_ u_).1⟩
theorem lsk_q {w_ : sx_Wl} {S_ S'_ : sm_S} (h_ : lsk S_) (g_ : ai_fr (sx_W w_) S_ S'_) (e_ : ∀ j_ : Nat, S'_.2.2.1 294 0 j_ = S_.2.2.1 294 0 j_) (r_ : rwf w_ = true := by rfl) : lsk S'_ := fun c_ h1_ h2_ h3_ f_ f1_ f2_ => by
  rw [fr_arr (t := 222) (i := 0) g_ (rwf_0 r_ rfl)] at h3_
  rw [fco_fr g_ r_] at f2_
  rw [e_]
  exact fun z_ => (rsl_fr g_ r_).mpr (h_ c_ h1_ h2_ h3_ f_ f1_ f2_ z_)
theorem rB9_fr {w_ : sx_Wl} {c_ : Int} {S_ S'_ : sm_S} (g_ : ai_fr (sx_W w_) S_ S'_) (r_ : rwf w_ = true := by rfl) : rB9 c_ S'_ = rB9 c_ S_ := by
  unfold rB9
  rw [fr_arr (t := 223) (i := 0) g_ (rwf_0 r_ rfl), fr_arr (t := 224) (i := 0) g_ (rwf_0 r_ rfl)]
theorem rleU_fr {w_ : sx_Wl} {c_ : Int} {S_ S'_ : sm_S} {le_ : Nat → Int} (h_ : rleU c_ S_ le_) (g_ : ai_fr (sx_W w_) S_ S'_) (r_ : rwf w_ = true := by rfl) : rleU c_ S'_ le_ := fun f_ v_ h1_ h2_ => h_ f_ v_ (by rw [← fco_fr g_ r_]; exact h1_) ((rsl_fr g_ r_).mp h2_)
theorem rlt9_fr {w_ : sx_Wl} {c_ : Int} {S_ S'_ : sm_S} {P_ : Nat → Nat → Bool} {L_ : List Nat} (h_ : rlt9 c_ S_ P_ L_) (g_ : ai_fr (sx_W w_) S_ S'_) (r_ : rwf w_ = true := by rfl) (a_ : (sx_W w_).2.1 289 = false := by rfl) (b_ : (sx_W w_).2.1 290 = false := by rfl) (d_ : (sx_W w_).2.1 292 = false := by rfl) : rlt9 c_ S'_ P_ L_ := by
  refine ⟨by rw [fr_arr (t := 289) (i := 0) g_ a_]; exact h_.1, fun k_ x_ hx_ => ?_⟩
  obtain ⟨h1_, h2_, h3_⟩ := h_.2 k_ x_ hx_
  refine ⟨by rw [fr_arr (t := 290) (i := 0) g_ b_]; exact h1_, by rw [rB9_fr g_ r_]; exact h2_, fun f_ hf_ => ?_⟩
  rw [fco_fr g_ r_] at hf_
  have y_ := h3_ f_ hf_
  unfold rbw at y_ ⊢
  rw [fr_lon (t_ := 292) (i_ := 0) g_ d_]
  exact y_
/-- what calls that use the tester leave of sets -/
def jts (w_ : sx_Wl) : Bool := ([(2, 1), (2, 2), (2, 3), (2, 8), (2, 15)] : List (Nat × Nat)).all (fun q_ => !((sx_W w_).1 q_.1 q_.2)) && ([35, 36, 37, 38, 40, 41, 55, 56, 289, 290, 291, 292] : List Nat).all (fun t_ => !((sx_W w_).2.1 t_))
theorem jts_f {w_ : sx_Wl} (h_ : jts w_ = true) {t_ k_ : Nat} (q_ : (t_, k_) ∈ ([(2, 1), (2, 2), (2, 3), (2, 8), (2, 15)] : List (Nat × Nat))) : (sx_W w_).1 t_ k_ = false := nb9 (List.all_eq_true.mp (Bool.and_eq_true_iff.mp h_).1 _ q_)
theorem jts_a {w_ : sx_Wl} (h_ : jts w_ = true) {t_ : Nat} (q_ : t_ ∈ ([35, 36, 37, 38, 40, 41, 55, 56, 289, 290, 291, 292] : List Nat)) : (sx_W w_).2.1 t_ = false := nb9 (List.all_eq_true.mp (Bool.and_eq_true_iff.mp h_).2 _ q_)
theorem stq9_fr {w_ : sx_Wl} {c_ : Nat} {S_ S'_ : sm_S} (h_ : stq9 c_ S_) (g_ : ai_fr (sx_W w_) S_ S'_) (q_ : jts w_ = true := by rfl) : stq9 c_ S'_ := by
  have e0_ := congrFun (fr_arr (t := 290) (i := 0) g_ (jts_a q_ (by decide)))
  have e1_ := congrFun (fr_arr (t := 291) (i := 0) g_ (jts_a q_ (by decide)))
  have e2_ := congrFun (fr_lon (t_ := 292) (i_ := 0) g_ (jts_a q_ (by decide)))
  have e9_ := congrFun (fr_arr (t := 289) (i := 0) g_ (jts_a q_ (by decide)))
  exact stq9_eq h_ ⟨⟨g_.1 2 c_ 1 (jts_f q_ (by decide)), g_.1 2 c_ 2 (jts_f q_ (by decide)), g_.1 2 c_ 3 (jts_f q_ (by decide)), g_.1 2 c_ 8 (jts_f q_ (by decide))⟩, ta35 (fr_arr g_ (jts_a q_ (by decide))) (fr_arr g_ (jts_a q_ (by decide))) (fr_arr g_ (jts_a q_ (by decide))) (fr_arr g_ (jts_a q_ (by decide))), ta55 (fr_arr g_ (jts_a q_ (by decide))) (fr_arr g_ (jts_a q_ (by decide)))⟩ (g_.1 2 c_ 15 (jts_f q_ (by decide))) (fr_arr g_ (jts_a q_ (by decide))) (fr_arr g_ (jts_a q_ (by decide))) (e9_ _) (fun k_ _ => ⟨e0_ _, e1_ _⟩) (fun k_ f_ _ _ => e2_ _)
theorem tkk_o {S0_ S_ : sm_S} {y_ : Int} (h_ : tkk S0_ S_) : tkk S0_ (sm_aL S_ 295 0 0 y_) := ⟨fun c_ z_ a_ b_ => tok_o (h_.1 c_ z_ a_ b_), h_.2⟩
theorem tkk_r {S_ : sm_S} : tkk S_ S_ := ⟨fun _ h_ => h_, fun h_ => h_⟩
/-- both sides behind a call that uses the tester -/
theorem pK_t {w1_ w2_ : sx_Wl} {n_ : Nat} {S_ S1_ S2_ : sm_S} (J_ : jB n_ S_) (g_ : ai_fr (sx_W w1_) S_ S1_) (f_ : ai_fr (sx_W w2_) S1_ S2_) (t_ : tkk S_ S1_) (i_ : gi S2_) (r_ : jR S2_) (k_ : lsk S2_) (s_ : ∀ c_ : Nat, c_ < 4 → S_.1 2 c_ 0 = 1 → stq9 c_ S2_) (a1_ : jkq w1_ = true := by rfl) (a2_ : jkq w2_ = true := by rfl) (u1_ : (sx_W w1_).1 2 0 = false := by rfl) (u2_ : (sx_W w2_).1 2 0 = false := by rfl) (v1_ : (sx_W w1_).2.1 222 = false := by rfl) (v2_ : (sx_W w2_).2.1 222 = false := by rfl) (c2_ : (sx_W w2_).2.2 9 0 = false := by rfl) (d1_ : (sx_W w2_).1 9 1 = false := by rfl) (d2_ : (sx_W w2_).1 9 2 = false := by rfl) (d3_ : (sx_W w2_).1 9 3 = false := by rfl) (d4_ : (sx_W w2_).2.1 92 = false := by rfl) (d5_ : (sx_W w2_).2.1 95 = false := by rfl) (d6_ : (sx_W w2_).2.1 96 = false := by rfl) (l_ : ∀ c_ : Nat, cleq c_ S1_ S2_) : jK n_ S2_ := by
  have K_ := J_.2.2.2.2.2.1.2.1
  have PJ_ := J_.2.2.2.2.2.1.2.2.1
  have T_ := J_.2.2.2.2.2.1.2.2.2
  have K2_ := jK0_fr (jK0_fr K_ g_ (jkq_0 a1_) u1_ v1_) f_ (jkq_0 a2_) u2_ v2_
  have ts_ := t_.2 PJ_.1.2
  have v_ : ∀ c_ : Nat, c_ < 4 → S1_.1 2 c_ 0 = 1 → S_.1 2 c_ 0 = 1 := fun c_ _ z_ => (g_.1 2 c_ 0 u1_).symm.trans z_
  have v'_ : ∀ c_ : Nat, c_ < 4 → S2_.1 2 c_ 0 = 1 → S1_.1 2 c_ 0 = 1 := fun c_ _ z_ => (f_.1 2 c_ 0 u2_).symm.trans z_
  have e19_ : ∀ c_ : Nat, S2_.1 2 c_ 19 = S1_.1 2 c_ 19 := fun c_ => f_.1 2 c_ 19 (jkq_19 a2_)
  refine ⟨K2_, jP_q (jP_q PJ_ g_ ts_ v_ a1_) f_ (tsa_fr ts_ f_ c2_ d1_ (jkq_19 a2_)) v'_ a2_, fun c_ hc_ z_ => ⟨?_, s_ c_ hc_ (v_ c_ hc_ (v'_ c_ hc_ z_)), lsc_o i_ r_ K2_ hc_ z_ k_⟩⟩
  exact tkp_eq (t_.1 c_ (T_ c_ hc_ (v_ c_ hc_ (v'_ c_ hc_ z_))).1) (l_ c_) ⟨⟨f_.2.1 9 0 0 c2_, f_.1 9 0 1 d1_, f_.1 9 0 2 d2_, f_.1 9 0 3 d3_⟩, fr_lon (t_ := 92) (i_ := 0) f_ d4_, fr_lon (t_ := 95) (i_ := 0) f_ d5_, fr_arr (t := 96) (i := 0) f_ d6_⟩ (e19_ c_)
/-- the ghosts of a call: what patterns show, least patterns, the set, what failed -/
def tqs (a_ : Int) (S_ : sm_S) (P_ : Nat → Nat → Bool) (le_ : Nat → Int) (L_ : List Nat) (fa_ : Nat → Bool) : Prop := ((shU a_.toNat S_ P_ ∧ leU a_.toNat S_ le_ ∧ rshU a_ S_ P_ ∧ rleU a_ S_ le_) ∧ (fco a_ S_ = cfu9 a_.toNat S_ ∧ rB9 a_ S_ = cB9 a_.toNat S_)) ∧ (imq (S_.1 2 a_.toNat 15 ≠ -1) (tls a_.toNat S_ L_ ∧ rlt9 a_ S_ P_ L_) ∧ imq (S_.1 2 a_.toNat 15 = -1) (L_ = [])) ∧ ∀ k_ : Nat, (k_ : Int) < S_.1 2 a_.toNat 15 → fa_ k_ = decide (S_.2.2.1 41 (0 + a_.toNat) k_ ≠ 0) ∧ fa_ k_ = decide (S_.2.2.1 291 0 (1280 * a_.toNat + k_) ≠ 0)
theorem rng9 {f_ : Nat → Nat} {n_ k_ x_ : Nat} (h_ : ((List.range n_).map f_)[k_]? = some x_) : k_ < n_ ∧ x_ = f_ k_ := by
  rw [List.getElem?_map] at h_
  by_cases y_ : k_ < n_
  · rw [List.getElem?_range y_] at h_
    exact ⟨y_, (Option.some.inj h_).symm⟩
  · rw [List.getElem?_eq_none (by rw [List.length_range]; omega)] at h_
    cases h_
theorem tq_set {n_ : Nat} {S_ : sm_S} (J_ : jB n_ S_) (a_ : Int) : ∃ (P_ : Nat → Nat → Bool) (le_ : Nat → Int) (L_ : List Nat) (fa_ : Nat → Bool), (0 ≤ a_ ∧ a_ < 4 ∧ S_.1 2 a_.toNat 0 = 1) → tqs a_ S_ P_ le_ L_ fa_ := by
  obtain ⟨P_, le_, h_⟩ := tq_chip (a_ := a_) J_.1 J_.2.2.1 J_.2.2.2.2.2.1.2.1
  refine ⟨P_, le_, (List.range (S_.1 2 a_.toNat 15).toNat).map (fun k_ => (S_.2.2.1 40 (0 + a_.toNat) k_).toNat), fun k_ => decide (S_.2.2.1 41 (0 + a_.toNat) k_ ≠ 0), fun c_ => ?_⟩
  have q_ := (J_.2.2.2.2.2.1.2.2.2 a_.toNat (by omega) c_.2.2).2.1
  have H_ := h_ c_
  obtain ⟨⟨q1_, q2_, -⟩, q3_⟩ := q_
  refine ⟨H_, ⟨fun z_ => ⟨⟨?_, fun k_ x_ hx_ => ?_⟩, ?_, fun k_ x_ hx_ => ?_⟩, fun z_ => ?_⟩, fun k_ hk_ => ⟨rfl, ?_⟩⟩
  · rw [List.length_map, List.length_range]
    omega
  · obtain ⟨y1_, y2_⟩ := rng9 hx_
    obtain ⟨p1_, p2_, -⟩ := q3_ k_ (by omega)
    omega
  · rw [List.length_map, List.length_range]
    omega
  · obtain ⟨y1_, y2_⟩ := rng9 hx_
    obtain ⟨p1_, p2_, p3_, p4_⟩ := q3_ k_ (by omega)
    refine ⟨by omega, by (rw [H_.2.2]; omega), fun f_ hf_ => ?_⟩
    rw [H_.2.1] at hf_
    have b_ := H_.1.1 f_ _ _ hf_ (by omega) (p4_ f_ hf_)
    rw [← y2_] at b_
    rw [← b_]
    unfold rbw
    rw [Int.toNat_natCast]
  · rw [z_]
    rfl
  · show decide (S_.2.2.1 41 (0 + a_.toNat) k_ ≠ 0) = decide (S_.2.2.1 291 0 (1280 * a_.toNat + k_) ≠ 0)
    rw [(q3_ k_ hk_).2.2.1]
    by_cases y_ : S_.2.2.1 41 (0 + a_.toNat) k_ ≠ 0
    · rw [if_pos y_, decide_eq_true y_]
      rfl
    · rw [if_neg y_, decide_eq_false y_]
      rfl
/-- a chip is there on both sides or on none; as many faults and patterns -/
theorem usd {w_ : sx_Wl} {n_ : Nat} {a_ : Int} {S_ S1_ : sm_S} (J_ : jB n_ S_) (g_ : ai_fr (sx_W w_) S_ S1_) (r_ : rwf w_ = true := by rfl) : (0 ≤ a_ ∧ a_ < 4 ∧ S_.1 2 a_.toNat 0 = 1) ↔ (0 ≤ a_ ∧ a_ < 4 ∧ S1_.2.2.1 222 0 a_.toNat = 1) := by
  have K_ := J_.2.2.2.2.2.1.2.1
  rw [fr_arr (t := 222) (i := 0) g_ (rwf_0 r_ rfl)]
  constructor
  · rintro ⟨h1_, h2_, h3_⟩
    exact ⟨h1_, h2_, by rw [← K_.2.1 a_.toNat (by omega)]; exact h3_⟩
  · rintro ⟨h1_, h2_, h3_⟩
    exact ⟨h1_, h2_, (K_.2.1 a_.toNat (by omega)).trans h3_⟩
theorem usf {w_ : sx_Wl} {n_ : Nat} {a_ : Int} {S_ S1_ : sm_S} (J_ : jB n_ S_) (g_ : ai_fr (sx_W w_) S_ S1_) (h_ : 0 ≤ a_ ∧ a_ < 4 ∧ S_.1 2 a_.toNat 0 = 1) (r_ : rwf w_ = true := by rfl) : fco a_ S1_ = cfu9 a_.toNat S_ ∧ rB9 a_ S1_ = cB9 a_.toNat S_ := by
  have K_ := J_.2.2.2.2.2.1.2.1
  have k_ := K_.2.2 a_.toNat (by omega) h_.2.2
  have e_ := cfu_e k_
  rw [show ((a_.toNat : Nat) : Int) = a_ by omega] at e_
  rw [fco_fr g_ r_, rB9_fr g_ r_]
  refine ⟨e_, ?_⟩
  unfold rB9 cB9
  rw [k_.1.1, k_.1.2.1]
/-- what is kept of the least patterns, for the reference's call -/
theorem lsk_s {w_ : sx_Wl} {n_ : Nat} {S_ S1_ : sm_S} (J_ : jB n_ S_) (g_ : ai_fr (sx_W w_) S_ S1_) (r_ : rwf w_ = true := by rfl) (a_ : (sx_W w_).2.1 294 = false := by rfl) : lsk S1_ := lsk_fr (lsk_o J_.1 J_.2.2.1 J_.2.2.2.2.2.1.2.1 J_.2.1.2.1 J_.2.2.2.2.2.1.2.2.2) g_ r_ a_
theorem fcb_s {w_ : sx_Wl} {n_ : Nat} {S_ S1_ : sm_S} (J_ : jB n_ S_) (g_ : ai_fr (sx_W w_) S_ S1_) (r_ : rwf w_ = true := by rfl) : ∀ c9_ : Int, 0 ≤ c9_ → c9_ < 4 → S1_.2.2.1 222 0 c9_.toNat = 1 → fco c9_ S1_ ≤ 1280 := fun c_ h1_ h2_ h3_ => by
  rw [fr_arr (t := 222) (i := 0) g_ (rwf_0 r_ rfl)] at h3_
  have x_ := fco_b (c_ := c_) J_.1 (J_.2.2.1.2 c_ h1_ h2_ h3_).1
  rw [fco_fr g_ r_]
  omega
theorem k_test {n_ : Nat} {a_ b_ v_ w_ : Int} {S_ S1_ S2_ : sm_S} (J_ : jB n_ S_) (q_ : lhq vw_258t S_ S1_) (E_ : tkk S_ S1_ ∧ ((v_ = 0 ∧ okc_test a_ b_ S_ ∧ ∃ x_, S1_.2.2.2 295 0 0 = l_i2l x_ ∧ csl a_.toNat S_ b_ x_) ∨ (v_ = 1 ∧ ¬ okc_test a_ b_ S_ ∧ S1_ = S_))) (i_ : gi S2_) (f_ : ai_fr (sx_W vw_522t) S1_ S2_) (r2_ : jR S2_) (P_ : (S2_.1 13 0 0 = 1 ∧ ¬ okr_test a_ b_ S1_ ∧ ∀ j9_, S2_.2.2.1 294 0 j9_ = S1_.2.2.1 294 0 j9_) ∨ (S2_.1 13 0 0 = 0 ∧ okr_test a_ b_ S1_ ∧ rsl a_ S1_ b_ w_ ∧ S2_.2.2.1 294 0 (1280 * a_ + b_).toNat = w_ + 2 ∧ ∀ j9_, j9_ ≠ (1280 * a_ + b_).toNat → S2_.2.2.1 294 0 j9_ = S1_.2.2.1 294 0 j9_)) : (S2_.1 13 0 0 = v_ ∧ (v_ = 0 → S1_.2.2.2 295 0 0 = l_i2l w_)) ∧ jK n_ S2_ := by
  obtain ⟨t_, E_⟩ := E_
  have K_ := J_.2.2.2.2.2.1.2.1
  have ls_ : lsk S1_ := lsk_s J_ q_.2.1
  have ok_ : okc_test a_ b_ S_ ↔ okr_test a_ b_ S1_ := by
    unfold okc_test okr_test
    rw [← usd J_ q_.2.1]
    constructor
    · rintro ⟨h1_, h2_⟩
      exact ⟨h1_, by rw [(usf J_ q_.2.1 h1_).1]; exact h2_⟩
    · rintro ⟨h1_, h2_⟩
      exact ⟨h1_, by rw [← (usf J_ q_.2.1 h1_).1]; exact h2_⟩
  have kk_ : lsk S2_ → jK n_ S2_ := fun l_ => pK_t J_ q_.2.1 f_ t_ i_ r2_ l_ (fun c_ hc_ u_ => stq9_fr (stq9_fr (J_.2.2.2.2.2.1.2.2.2 c_ hc_ u_).2.1 q_.2.1) f_) (l_ := fun c_ => cleq_fr f_ rfl)
  rcases E_ with ⟨e1_, e2_, x_, e3_, e4_⟩ | ⟨e1_, e2_, -⟩
  · rcases P_ with ⟨p1_, p2_, -⟩ | ⟨p1_, p2_, p3_, p4_, p5_⟩
    · exact absurd (ok_.mp e2_) p2_
    · refine ⟨⟨p1_.trans e1_.symm, fun _ => ?_⟩, kk_ (lsk_up ls_ f_ ⟨p2_.1.1, p2_.1.2.1⟩ p2_.2 p3_ p4_ p5_ (fcb_s J_ q_.2.1) rfl p2_.1.2.2)⟩
      obtain ⟨h1_, h2_, h3_⟩ := id e2_.1
      have k_ := K_.2.2 a_.toNat (by omega) h3_
      have ea_ : ((a_.toNat : Nat) : Int) = a_ := by omega
      have rk_ := J_.2.2.1.2 a_ h1_ h2_ ((K_.2.1 a_.toNat (by omega)).symm.trans h3_)
      have F0_ : 0 ≤ S_.1 2 a_.toNat 1 ∧ 0 ≤ S_.1 2 a_.toNat 2 ∧ 0 ≤ S_.1 2 a_.toNat 8 ∧ 0 ≤ S_.1 2 a_.toNat 3 := ⟨(J_.1.1 2 _ 1 rfl).1, (J_.1.1 2 _ 2 rfl).1, (J_.1.1 2 _ 8 rfl).1, (J_.1.1 2 _ 3 rfl).1⟩
      rw [e3_, csl_e J_.1 k_ (by rw [ea_]; exact rk_.2.2.2.1) (by rw [ea_]; exact rk_.2.2.2.2.1) F0_ e4_ (by rw [ea_]; exact (rsl_fr q_.2.1 rfl).mp p3_)]
  · rcases P_ with ⟨p1_, p2_, p3_⟩ | ⟨p1_, p2_, -⟩
    · exact ⟨⟨p1_.trans e1_.symm, fun z_ => absurd (e1_.symm.trans z_) (by decide)⟩, kk_ (lsk_q ls_ f_ p3_)⟩
    · exact absurd (ok_.mpr p2_) e2_
theorem k_shows {n_ : Nat} {a_ b_ d_ v_ w_ : Int} {S_ S1_ S2_ : sm_S} (J_ : jB n_ S_) (q_ : lhq vw_259t S_ S1_) (E_ : tkk S_ S1_ ∧ ((v_ = 0 ∧ okc_shows a_ b_ d_ S_ ∧ ∃ x_, S1_.2.2.2 295 0 0 = l_i2l x_ ∧ (x_ = 0 ∨ x_ = 1) ∧ cshq a_.toNat S_ d_ b_.toNat (decide (x_ = 1))) ∨ (v_ = 1 ∧ ¬ oka_shows a_ b_ d_ S_ ∧ S1_ = S_) ∨ (v_ = 2 ∧ oka_shows a_ b_ d_ S_ ∧ ¬ okc_shows a_ b_ d_ S_ ∧ S1_ = S_))) (i_ : gi S2_) (f_ : ai_fr (sx_W vw_523t) S1_ S2_) (r2_ : jR S2_) (P_ : (S2_.1 13 0 0 = 1 ∧ ¬ ora_shows a_ b_ d_ S1_) ∨ (S2_.1 13 0 0 = 2 ∧ ora_shows a_ b_ d_ S1_ ∧ ¬ okr_shows a_ b_ d_ S1_) ∨ (S2_.1 13 0 0 = 0 ∧ okr_shows a_ b_ d_ S1_ ∧ (w_ = 0 ∨ w_ = 1) ∧ rshq a_ S1_ d_ b_.toNat (decide (w_ = 1)))) : (S2_.1 13 0 0 = v_ ∧ (v_ = 0 → S1_.2.2.2 295 0 0 = l_i2l w_)) ∧ jK n_ S2_ ∧ (v_ = 0 → w_ = 0 ∨ w_ = 1) := by
  obtain ⟨t_, E_⟩ := E_
  have K_ := J_.2.2.2.2.2.1.2.1
  have ls_ : lsk S2_ := lsk_fr (lsk_s J_ q_.2.1) f_
  have oa_ : oka_shows a_ b_ d_ S_ ↔ ora_shows a_ b_ d_ S1_ := by
    unfold oka_shows ora_shows
    rw [← usd J_ q_.2.1]
    constructor
    · rintro ⟨h1_, h2_⟩
      exact ⟨h1_, by rw [(usf J_ q_.2.1 h1_).1]; exact h2_⟩
    · rintro ⟨h1_, h2_⟩
      exact ⟨h1_, by rw [← (usf J_ q_.2.1 h1_).1]; exact h2_⟩
  have ok_ : okc_shows a_ b_ d_ S_ ↔ okr_shows a_ b_ d_ S1_ := by
    constructor
    · rintro ⟨h1_, h2_⟩
      have y_ := (usf J_ q_.2.1 h1_.1).2
      unfold rB9 at y_
      exact ⟨oa_.mp h1_, by rw [y_]; exact h2_⟩
    · rintro ⟨h1_, h2_⟩
      have y_ := (usf J_ q_.2.1 (oa_.mpr h1_).1).2
      unfold rB9 at y_
      exact ⟨oa_.mpr h1_, by rw [← y_]; exact h2_⟩
  have kk_ : jK n_ S2_ := pK_t J_ q_.2.1 f_ t_ i_ r2_ ls_ (fun c_ hc_ u_ => stq9_fr (stq9_fr (J_.2.2.2.2.2.1.2.2.2 c_ hc_ u_).2.1 q_.2.1) f_) (l_ := fun c_ => cleq_fr f_ rfl)
  rcases E_ with ⟨e1_, e2_, x_, e3_, e5_, e4_⟩ | ⟨e1_, e2_, -⟩ | ⟨e1_, e2_, e3_, -⟩
  · rcases P_ with ⟨p1_, p2_⟩ | ⟨p1_, p2_, p3_⟩ | ⟨p1_, p2_, p3_, p4_⟩
    · exact absurd (oa_.mp e2_.1) p2_
    · exact absurd (ok_.mp e2_) p3_
    · refine ⟨⟨p1_.trans e1_.symm, fun _ => ?_⟩, kk_, fun _ => p3_⟩
      obtain ⟨h1_, h2_, h3_⟩ := id e2_.1.1
      have k_ := K_.2.2 a_.toNat (by omega) h3_
      have ea_ : ((a_.toNat : Nat) : Int) = a_ := by omega
      have rk_ := J_.2.2.1.2 a_ h1_ h2_ ((K_.2.1 a_.toNat (by omega)).symm.trans h3_)
      have F0_ : 0 ≤ S_.1 2 a_.toNat 1 ∧ 0 ≤ S_.1 2 a_.toNat 2 ∧ 0 ≤ S_.1 2 a_.toNat 8 ∧ 0 ≤ S_.1 2 a_.toNat 3 := ⟨(J_.1.1 2 _ 1 rfl).1, (J_.1.1 2 _ 2 rfl).1, (J_.1.1 2 _ 8 rfl).1, (J_.1.1 2 _ 3 rfl).1⟩
      have b9_ := csh_e J_.1 k_ (by rw [ea_]; exact rk_.2.2.2.1) (by rw [ea_]; exact rk_.2.2.2.2.1) F0_ e4_ (by rw [ea_]; exact (rsh_fr q_.2.1 rfl).mp p4_)
      have xw_ : x_ = w_ := by
        rcases e5_ with rfl | rfl <;> rcases p3_ with rfl | rfl
        · rfl
        · exact absurd b9_ (by decide)
        · exact absurd b9_ (by decide)
        · rfl
      rw [e3_, xw_]
  · rcases P_ with ⟨p1_, p2_⟩ | ⟨p1_, p2_, p3_⟩ | ⟨p1_, p2_, -⟩
    · exact ⟨⟨p1_.trans e1_.symm, fun z_ => absurd (e1_.symm.trans z_) (by decide)⟩, kk_, fun z_ => absurd (e1_.symm.trans z_) (by decide)⟩
    · exact absurd (oa_.mpr p2_) e2_
    · exact absurd (oa_.mpr p2_.1) e2_
  · rcases P_ with ⟨p1_, p2_⟩ | ⟨p1_, p2_, p3_⟩ | ⟨p1_, p2_, -⟩
    · exact absurd (oa_.mp e2_) p2_
    · exact ⟨⟨p1_.trans e1_.symm, fun z_ => absurd (e1_.symm.trans z_) (by decide)⟩, kk_, fun z_ => absurd (e1_.symm.trans z_) (by decide)⟩
    · exact absurd (ok_.mpr p2_) e3_
theorem ssz {w_ : sx_Wl} {n_ : Nat} {a_ : Int} {S_ S1_ : sm_S} (J_ : jB n_ S_) (g_ : ai_fr (sx_W w_) S_ S1_) (h_ : 0 ≤ a_ ∧ a_ < 4 ∧ S_.1 2 a_.toNat 0 = 1) (r_ : (sx_W w_).2.1 289 = false := by rfl) : S1_.2.2.1 289 0 a_.toNat = S_.1 2 a_.toNat 15 := by
  rw [fr_arr (t := 289) (i := 0) g_ r_]
  exact (J_.2.2.2.2.2.1.2.2.2 a_.toNat (by omega) h_.2.2).2.1.1.1.symm
theorem k_suspect {n_ : Nat} {a_ b_ v_ w_ : Int} {P9_ : Nat → Nat → Bool} {L_ : List Nat} {fa_ : Nat → Bool} {S_ S1_ S2_ : sm_S} (J_ : jB n_ S_) (q_ : lhq vw_263t S_ S1_) (E_ : tkk S_ S1_ ∧ ((v_ = 0 ∧ okc_suspect a_ b_ S_ ∧ ∃ x_, S1_.2.2.2 295 0 0 = l_i2l x_ ∧ kth9 (sus9 P9_ L_ fa_) (cfu9 a_.toNat S_).toNat b_ x_) ∨ (v_ = 1 ∧ ¬ oka_suspect a_ b_ S_ ∧ S1_ = S_) ∨ (v_ = 2 ∧ oka_suspect a_ b_ S_ ∧ ¬ okc_suspect a_ b_ S_ ∧ S1_ = S_))) (i_ : gi S2_) (f_ : ai_fr (sx_W vw_533t) S1_ S2_) (r2_ : jR S2_) (P_ : (S2_.1 13 0 0 = 1 ∧ ¬ ora_suspect a_ b_ S1_) ∨ (S2_.1 13 0 0 = 2 ∧ ora_suspect a_ b_ S1_ ∧ ¬ okr_suspect a_ b_ S1_) ∨ (S2_.1 13 0 0 = 0 ∧ okr_suspect a_ b_ S1_ ∧ kth9 (sus9 P9_ L_ fa_) (fco a_ S1_).toNat b_ w_)) : (S2_.1 13 0 0 = v_ ∧ (v_ = 0 → S1_.2.2.2 295 0 0 = l_i2l w_)) ∧ jK n_ S2_ := by
  obtain ⟨t_, E_⟩ := E_
  have oa_ : oka_suspect a_ b_ S_ ↔ ora_suspect a_ b_ S1_ := by
    unfold oka_suspect ora_suspect
    rw [← usd J_ q_.2.1]
  have ok_ : okc_suspect a_ b_ S_ ↔ okr_suspect a_ b_ S1_ := by
    constructor
    · rintro ⟨h1_, h2_⟩
      exact ⟨oa_.mp h1_, by rw [ssz J_ q_.2.1 h1_.1]; exact h2_⟩
    · rintro ⟨h1_, h2_⟩
      exact ⟨oa_.mpr h1_, by rw [← ssz J_ q_.2.1 (oa_.mpr h1_).1]; exact h2_⟩
  have kk_ : jK n_ S2_ := pK_t J_ q_.2.1 f_ t_ i_ r2_ (lsk_fr (lsk_s J_ q_.2.1) f_) (fun c_ hc_ u_ => stq9_fr (stq9_fr (J_.2.2.2.2.2.1.2.2.2 c_ hc_ u_).2.1 q_.2.1) f_) (l_ := fun c_ => cleq_fr f_ rfl)
  rcases E_ with ⟨e1_, e2_, x_, e3_, e4_⟩ | ⟨e1_, e2_, -⟩ | ⟨e1_, e2_, e3_, -⟩
  · rcases P_ with ⟨p1_, p2_⟩ | ⟨p1_, p2_, p3_⟩ | ⟨p1_, p2_, p3_⟩
    · exact absurd (oa_.mp e2_.1) p2_
    · exact absurd (ok_.mp e2_) p3_
    · refine ⟨⟨p1_.trans e1_.symm, fun _ => ?_⟩, kk_⟩
      rw [(usf J_ q_.2.1 e2_.1.1).1] at p3_
      rw [e3_, kth9_u e4_ p3_]
  · rcases P_ with ⟨p1_, p2_⟩ | ⟨p1_, p2_, p3_⟩ | ⟨p1_, p2_, -⟩
    · exact ⟨⟨p1_.trans e1_.symm, fun z_ => absurd (e1_.symm.trans z_) (by decide)⟩, kk_⟩
    · exact absurd (oa_.mpr p2_) e2_
    · exact absurd (oa_.mpr p2_.1) e2_
  · rcases P_ with ⟨p1_, p2_⟩ | ⟨p1_, p2_, p3_⟩ | ⟨p1_, p2_, -⟩
    · exact absurd (oa_.mp e2_) p2_
    · exact ⟨⟨p1_.trans e1_.symm, fun z_ => absurd (e1_.symm.trans z_) (by decide)⟩, kk_⟩
    · exact absurd (ok_.mpr p2_) e3_
theorem k_faults {n_ : Nat} {a_ b_ v_ w_ : Int} {P9_ : Nat → Nat → Bool} {L_ : List Nat} {le_ : Nat → Int} {S_ S1_ S2_ : sm_S} (J_ : jB n_ S_) (q_ : lhq vw_264t S_ S1_) (E_ : tkk S_ S1_ ∧ ((v_ = 0 ∧ okc_faults a_ b_ S_ ∧ ∃ x_, S1_.2.2.2 295 0 0 = l_i2l x_ ∧ x_ = vac_faults a_ b_ P9_ L_ le_ S_) ∨ (v_ = 1 ∧ ¬ oka_faults a_ b_ S_ ∧ S1_ = S_) ∨ (v_ = 2 ∧ oka_faults a_ b_ S_ ∧ ¬ okc_faults a_ b_ S_ ∧ S1_ = S_))) (i_ : gi S2_) (f_ : ai_fr (sx_W vw_534t) S1_ S2_) (r2_ : jR S2_) (ls_ : lsk S2_) (P_ : (S2_.1 13 0 0 = 1 ∧ ¬ ora_faults a_ b_ S1_) ∨ (S2_.1 13 0 0 = 2 ∧ ora_faults a_ b_ S1_ ∧ ¬ okr_faults a_ b_ S1_) ∨ (S2_.1 13 0 0 = 0 ∧ okr_faults a_ b_ S1_ ∧ w_ = var_faults a_ b_ P9_ L_ le_ S1_)) : (S2_.1 13 0 0 = v_ ∧ (v_ = 0 → S1_.2.2.2 295 0 0 = l_i2l w_)) ∧ jK n_ S2_ := by
  obtain ⟨t_, E_⟩ := E_
  have oa_ : oka_faults a_ b_ S_ ↔ ora_faults a_ b_ S1_ := by
    unfold oka_faults ora_faults
    rw [← usd J_ q_.2.1]
  have ok_ : okc_faults a_ b_ S_ ↔ okr_faults a_ b_ S1_ := ⟨fun h_ => ⟨oa_.mp h_.1, h_.2⟩, fun h_ => ⟨oa_.mpr h_.1, h_.2⟩⟩
  have kk_ : jK n_ S2_ := pK_t J_ q_.2.1 f_ t_ i_ r2_ ls_ (fun c_ hc_ u_ => stq9_fr (stq9_fr (J_.2.2.2.2.2.1.2.2.2 c_ hc_ u_).2.1 q_.2.1) f_) (l_ := fun c_ => cleq_fr f_ rfl)
  rcases E_ with ⟨e1_, e2_, x_, e3_, e4_⟩ | ⟨e1_, e2_, -⟩ | ⟨e1_, e2_, e3_, -⟩
  · rcases P_ with ⟨p1_, p2_⟩ | ⟨p1_, p2_, p3_⟩ | ⟨p1_, p2_, p3_⟩
    · exact absurd (oa_.mp e2_.1) p2_
    · exact absurd (ok_.mp e2_) p3_
    · refine ⟨⟨p1_.trans e1_.symm, fun _ => ?_⟩, kk_⟩
      unfold var_faults at p3_
      unfold vac_faults at e4_
      rw [(usf J_ q_.2.1 e2_.1).1, ssz J_ q_.2.1 e2_.1] at p3_
      rw [e3_, e4_, p3_]
  · rcases P_ with ⟨p1_, p2_⟩ | ⟨p1_, p2_, p3_⟩ | ⟨p1_, p2_, -⟩
    · exact ⟨⟨p1_.trans e1_.symm, fun z_ => absurd (e1_.symm.trans z_) (by decide)⟩, kk_⟩
    · exact absurd (oa_.mpr p2_) e2_
    · exact absurd (oa_.mpr p2_.1) e2_
  · rcases P_ with ⟨p1_, p2_⟩ | ⟨p1_, p2_, p3_⟩ | ⟨p1_, p2_, -⟩
    · exact absurd (oa_.mp e2_) p2_
    · exact ⟨⟨p1_.trans e1_.symm, fun z_ => absurd (e1_.symm.trans z_) (by decide)⟩, kk_⟩
    · exact absurd (ok_.mpr p2_) e3_
theorem tkk_f {S_ S1_ : sm_S} (g_ : ai_fr (sx_W vw_262t) S_ S1_) : tkk S_ S1_ := ⟨fun c_ h_ x_ y_ => tok_f9 (h_ ((g_.2.1 9 0 0 rfl).symm.trans x_) (((g_.1 9 0 1 rfl).symm.trans y_).trans (g_.1 2 c_ 19 rfl))) g_, fun h_ => tsa_fr h_ g_⟩
theorem stq9_2 {c_ : Nat} {S_ S'_ : sm_S} (q_ : stq9 c_ S_) (h_ : cleq c_ S_ S'_) (e_ : S'_.1 2 c_ 15 = S_.1 2 c_ 15) (a_ : S'_.2.2.1 40 (0 + c_) = S_.2.2.1 40 (0 + c_)) (r1_ : S'_.2.2.1 289 0 c_ = S_.2.2.1 289 0 c_) (r0_ : S'_.2.2.1 290 0 = S_.2.2.1 290 0) (r3_ : S'_.2.2.2 292 0 = S_.2.2.2 292 0) (m_ : ∀ k_ : Nat, (k_ : Int) < S_.1 2 c_ 15 → S'_.2.2.1 291 0 (1280 * c_ + k_) = if S'_.2.2.1 41 (0 + c_) k_ ≠ 0 then 1 else 0) : stq9 c_ S'_ := by
  have cb_ := cleq_b h_
  refine ⟨by rw [e_, r1_]; exact q_.1, fun k_ hk_ => ?_⟩
  rw [e_] at hk_
  obtain ⟨z1_, z2_, z3_, z4_⟩ := q_.2 k_ hk_
  rw [a_, r0_, cb_.1, cb_.2]
  refine ⟨z1_, z2_, m_ k_ hk_, fun f_ hf_ => (cleq_s h_).mpr ?_⟩
  have y_ := z4_ f_ hf_
  unfold rbw at y_ ⊢
  rw [r3_]
  exact y_
theorem k_fails {n_ : Nat} {a_ b_ d_ v_ w_ : Int} {S_ S1_ S2_ : sm_S} (J_ : jB n_ S_) (q_ : lhq vw_262t S_ S1_) (hd_ : d_ = 0 ∨ d_ = 1) (E_ : tkk S_ S1_ ∧ ((v_ = 0 ∧ okc_pattern a_ b_ S_ ∧ ∃ x_, S1_.2.2.2 295 0 0 = l_i2l x_ ∧ cdf a_.toNat S_ S1_ ∧ x_ = (if S_.2.2.1 41 (0 + a_.toNat) b_.toNat ≠ 0 then 1 else 0) ∧ ∀ j9_ : Nat, S1_.2.2.1 41 (0 + a_.toNat) j9_ = if j9_ = b_.toNat then (if d_ ≠ 0 then 1 else 0) else S_.2.2.1 41 (0 + a_.toNat) j9_) ∨ (v_ = 1 ∧ ¬ oka_pattern a_ b_ S_ ∧ S1_ = S_) ∨ (v_ = 2 ∧ oka_pattern a_ b_ S_ ∧ ¬ okc_pattern a_ b_ S_ ∧ S1_ = S_))) (i_ : gi S2_) (f_ : ai_fr (sx_W vw_531t) S1_ S2_) (r2_ : jR S2_) (P_ : (S2_.1 13 0 0 = 1 ∧ ¬ ora_pattern a_ b_ S1_ ∧ ∀ j9_ : Nat, S2_.2.2.1 291 0 j9_ = S1_.2.2.1 291 0 j9_) ∨ (S2_.1 13 0 0 = 2 ∧ ora_pattern a_ b_ S1_ ∧ ¬ okr_pattern a_ b_ S1_ ∧ ∀ j9_ : Nat, S2_.2.2.1 291 0 j9_ = S1_.2.2.1 291 0 j9_) ∨ (S2_.1 13 0 0 = 0 ∧ okr_pattern a_ b_ S1_ ∧ w_ = S1_.2.2.1 291 0 (1280 * a_ + b_).toNat ∧ ∀ j9_ : Nat, S2_.2.2.1 291 0 j9_ = if j9_ = (1280 * a_ + b_).toNat then d_ else S1_.2.2.1 291 0 j9_)) : (S2_.1 13 0 0 = v_ ∧ (v_ = 0 → S1_.2.2.2 295 0 0 = l_i2l w_)) ∧ jK n_ S2_ ∧ (v_ = 0 → w_ = 0 ∨ w_ = 1) := by
  obtain ⟨t_, E_⟩ := E_
  have T_ := J_.2.2.2.2.2.1.2.2.2
  have g_ := q_.2.1
  have x1_ : S1_.2.2.1 291 0 = S_.2.2.1 291 0 := fr_arr g_ rfl
  have oa_ : oka_pattern a_ b_ S_ ↔ ora_pattern a_ b_ S1_ := by
    constructor
    · rintro ⟨h1_, h2_⟩
      exact ⟨(usd J_ g_).mp h1_, by rw [ssz J_ g_ h1_]; exact h2_⟩
    · rintro ⟨h1_, h2_⟩
      have h3_ := (usd J_ g_).mpr h1_
      exact ⟨h3_, by rw [← ssz J_ g_ h3_]; exact h2_⟩
  have ok_ : okc_pattern a_ b_ S_ ↔ okr_pattern a_ b_ S1_ := by
    constructor
    · rintro ⟨h1_, h2_⟩
      exact ⟨oa_.mp h1_, by rw [ssz J_ g_ h1_.1]; exact h2_⟩
    · rintro ⟨h1_, h2_⟩
      exact ⟨oa_.mpr h1_, by rw [← ssz J_ g_ (oa_.mpr h1_).1]; exact h2_⟩
  have l_ : ∀ c_ : Nat, cleq c_ S1_ S2_ := fun c_ => cleq_fr f_ rfl
  have l1_ : ∀ c_ : Nat, cleq c_ S_ S2_ := fun c_ => cleq_tr ⟨⟨g_.1 2 c_ 1 rfl, g_.1 2 c_ 2 rfl, g_.1 2 c_ 3 rfl, g_.1 2 c_ 8 rfl⟩, ta35 (fr_arr g_ rfl) (fr_arr g_ rfl) (fr_arr g_ rfl) (fr_arr g_ rfl), ta55 (fr_arr g_ rfl) (fr_arr g_ rfl)⟩ (l_ c_)
  have x41_ : ∀ c_ : Nat, S2_.2.2.1 41 (0 + c_) = S1_.2.2.1 41 (0 + c_) := fun c_ => fr_arr f_ rfl
  have kk_ : (∀ c_ : Nat, c_ < 4 → S_.1 2 c_ 0 = 1 → ∀ k_ : Nat, (k_ : Int) < S_.1 2 c_ 15 → S2_.2.2.1 291 0 (1280 * c_ + k_) = if S2_.2.2.1 41 (0 + c_) k_ ≠ 0 then 1 else 0) → jK n_ S2_ := fun m_ => pK_t J_ g_ f_ t_ i_ r2_ (lsk_fr (lsk_s J_ g_) f_) (fun c_ hc_ u_ => stq9_2 (T_ c_ hc_ u_).2.1 (l1_ c_) ((f_.1 2 c_ 15 rfl).trans (g_.1 2 c_ 15 rfl)) ((fr_arr f_ rfl).trans (fr_arr g_ rfl)) (congrFun ((fr_arr (t := 289) (i := 0) f_ rfl).trans (fr_arr g_ rfl)) _) ((fr_arr f_ rfl).trans (fr_arr g_ rfl)) ((fr_lon f_ rfl).trans (fr_lon g_ rfl)) (m_ c_ hc_ u_)) (l_ := l_)
  have km_ : S1_ = S_ → (∀ j9_ : Nat, S2_.2.2.1 291 0 j9_ = S1_.2.2.1 291 0 j9_) → jK n_ S2_ := fun e_ h_ => kk_ (fun c_ hc_ u_ k_ hk_ => by
    rw [h_, x1_, x41_, e_]
    exact ((T_ c_ hc_ u_).2.1.2 k_ hk_).2.2.1)
  rcases E_ with ⟨e1_, e2_, x_, e3_, cd_, e4_, e5_⟩ | ⟨e1_, e2_, e9_⟩ | ⟨e1_, e2_, e3_, e9_⟩
  · rcases P_ with ⟨p1_, p2_, -⟩ | ⟨p1_, p2_, p3_, -⟩ | ⟨p1_, p2_, p3_, p4_⟩
    · exact absurd (oa_.mp e2_.1) p2_
    · exact absurd (ok_.mp e2_) p3_
    · obtain ⟨⟨h1_, h2_, h3_⟩, h4_, h5_⟩ := id e2_.1
      have h6_ := e2_.2
      have sz_ := (T_ a_.toNat (by omega) h3_).2.1
      have s9_ := sz_.1.2.2
      have ix_ : (1280 * a_ + b_).toNat = 1280 * a_.toNat + b_.toNat := by omega
      have ob_ := (sz_.2 b_.toNat (by omega)).2.2.1
      rw [ix_, x1_, ob_, ← e4_] at p3_
      rw [ix_] at p4_
      refine ⟨⟨p1_.trans e1_.symm, fun _ => by rw [e3_, p3_]⟩, kk_ (fun c_ hc_ u_ k_ hk_ => ?_), fun _ => ?_⟩
      · have o_ := (T_ c_ hc_ u_).2.1
        have s8_ := o_.1.2.2
        rw [p4_, x41_, x1_]
        by_cases y_ : c_ = a_.toNat
        · subst y_
          rw [e5_]
          by_cases z_ : k_ = b_.toNat
          · rw [if_pos (by omega), if_pos z_]
            rcases hd_ with rfl | rfl <;> rfl
          · rw [if_neg (by omega), if_neg z_]
            exact (o_.2 k_ hk_).2.2.1
        · rw [if_neg (by omega), (cd_ 41 rfl _ (by rw [show cof 41 = 0 from rfl]; omega)).2]
          exact (o_.2 k_ hk_).2.2.1
      · rw [p3_, e4_]
        split
        · exact Or.inr rfl
        · exact Or.inl rfl
  · rcases P_ with ⟨p1_, p2_, p3_⟩ | ⟨p1_, p2_, p3_, -⟩ | ⟨p1_, p2_, -⟩
    · exact ⟨⟨p1_.trans e1_.symm, fun z_ => absurd (e1_.symm.trans z_) (by decide)⟩, km_ e9_ p3_, fun z_ => absurd (e1_.symm.trans z_) (by decide)⟩
    · exact absurd (oa_.mpr p2_) e2_
    · exact absurd (oa_.mpr p2_.1) e2_
  · rcases P_ with ⟨p1_, p2_, -⟩ | ⟨p1_, p2_, p3_, p4_⟩ | ⟨p1_, p2_, -⟩
    · exact absurd (oa_.mp e2_) p2_
    · exact ⟨⟨p1_.trans e1_.symm, fun z_ => absurd (e1_.symm.trans z_) (by decide)⟩, km_ e9_ p4_, fun z_ => absurd (e1_.symm.trans z_) (by decide)⟩
    · exact absurd (ok_.mpr p2_) e3_
/-- a set that was made -/
theorem stq9_n {a_ : Int} {P_ : Nat → Nat → Bool} {L_ : List Nat} {S_ S1_ S2_ : sm_S} (hU_ : shU a_.toNat S_ P_) (l_ : cleq a_.toNat S_ S2_) (ef_ : fco a_ S2_ = cfu9 a_.toNat S_) (b_ : L_.length ≤ 1224) (e_ : S2_.1 2 a_.toNat 15 = S1_.1 2 a_.toNat 15) (a40_ : S2_.2.2.1 40 (0 + a_.toNat) = S1_.2.2.1 40 (0 + a_.toNat)) (eb_ : cB9 a_.toNat S1_ = cB9 a_.toNat S_) (h_ : tls a_.toNat S1_ L_) (r_ : rlt9 a_ S2_ P_ L_) (z1_ : ∀ k9_ : Nat, k9_ < 1224 → S2_.2.2.1 41 (0 + a_.toNat) k9_ = 0) (z2_ : ∀ k9_ : Nat, (k9_ : Int) < S2_.2.2.1 289 0 a_.toNat → S2_.2.2.1 291 0 (1280 * a_.toNat + k9_) = 0) : stq9 a_.toNat S2_ := by
  have cb_ := cleq_b l_
  have h1_ := h_.1
  have r1_ := r_.1
  refine ⟨⟨by omega, by omega, by omega⟩, fun k_ hk_ => ?_⟩
  have kl_ : k_ < L_.length := by omega
  obtain ⟨h2_, h3_⟩ := h_.2 k_ _ (List.getElem?_eq_getElem kl_)
  obtain ⟨r2_, r3_, r4_⟩ := r_.2 k_ _ (List.getElem?_eq_getElem kl_)
  rw [a40_, h2_, r2_, cb_.1, cb_.2, z1_ k_ (by omega), z2_ k_ (by omega)]
  rw [eb_] at h3_
  refine ⟨rfl, ⟨by omega, h3_⟩, rfl, fun f_ hf_ => (cleq_s l_).mpr ?_⟩
  obtain ⟨x_, hx_⟩ := csh_x (cc_ := a_.toNat) (S_ := S_) (f_ := (f_ : Int)) L_[k_] hf_
  have y_ := hU_ f_ _ _ hf_ h3_ hx_
  have w_ := r4_ f_ (by rw [ef_]; exact hf_)
  have e2_ : rbw ((a_.toNat : Nat) : Int) S2_ k_ f_ = rbw a_ S2_ k_ f_ := by
    unfold rbw
    rw [Int.toNat_natCast]
  rw [e2_, w_, ← y_, Int.toNat_natCast]
  exact hx_
theorem k_tests {n_ : Nat} {a_ v_ w_ : Int} {P9_ : Nat → Nat → Bool} {le_ : Nat → Int} {L_ : List Nat} {fa_ : Nat → Bool} {S_ S1_ S2_ : sm_S} (J_ : jB n_ S_) (H_ : (0 ≤ a_ ∧ a_ < 4 ∧ S_.1 2 a_.toNat 0 = 1) → tqs a_ S_ P9_ le_ L_ fa_) (q_ : lhq vw_260t S_ S1_) (E_ : tkk S_ S1_ ∧ ((v_ = 0 ∧ okc_tests a_ S_ ∧ ∃ x_, S1_.2.2.2 295 0 0 = l_i2l x_ ∧ cdf a_.toNat S_ S1_ ∧ tls a_.toNat S1_ (tst9 P9_ le_ (cfu9 a_.toNat S_).toNat) ∧ x_ = S1_.1 2 a_.toNat 15 ∧ ∀ k9_ : Nat, k9_ < 1224 → S1_.2.2.1 41 (0 + a_.toNat) k9_ = 0) ∨ (v_ = 1 ∧ ¬ okc_tests a_ S_ ∧ S1_ = S_))) (i_ : gi S2_) (f_ : ai_fr (sx_W vw_528t) S1_ S2_) (r2_ : jR S2_) (x_ : rsx a_ S1_ S2_) (ls_ : lsk S2_) (P_ : (S2_.1 13 0 0 = 1 ∧ ¬ okr_tests a_ S1_ ∧ S2_.2.2.1 = S1_.2.2.1 ∧ S2_.2.2.2 = S1_.2.2.2) ∨ (S2_.1 13 0 0 = 0 ∧ okr_tests a_ S1_ ∧ rlt9 a_ S2_ P9_ (tst9 P9_ le_ (fco a_ S1_).toNat) ∧ w_ = S2_.2.2.1 289 0 a_.toNat ∧ ∀ k9_ : Nat, (k9_ : Int) < S2_.2.2.1 289 0 a_.toNat → S2_.2.2.1 291 0 (1280 * a_.toNat + k9_) = 0)) : (S2_.1 13 0 0 = v_ ∧ (v_ = 0 → S1_.2.2.2 295 0 0 = l_i2l w_)) ∧ jK n_ S2_ := by
  obtain ⟨t_, E_⟩ := E_
  have T_ := J_.2.2.2.2.2.1.2.2.2
  have g_ := q_.2.1
  have ok_ : okc_tests a_ S_ ↔ okr_tests a_ S1_ := usd J_ g_
  have l_ : ∀ c_ : Nat, cleq c_ S1_ S2_ := fun c_ => cleq_fr f_ rfl
  have l1_ : ∀ c_ : Nat, cleq c_ S_ S1_ := fun c_ => ⟨⟨g_.1 2 c_ 1 rfl, g_.1 2 c_ 2 rfl, g_.1 2 c_ 3 rfl, g_.1 2 c_ 8 rfl⟩, ta35 (fr_arr g_ rfl) (fr_arr g_ rfl) (fr_arr g_ rfl) (fr_arr g_ rfl), ta55 (fr_arr g_ rfl) (fr_arr g_ rfl)⟩
  have y9_ : S1_.2.2.1 289 0 = S_.2.2.1 289 0 := fr_arr g_ rfl
  have y0_ : S1_.2.2.1 290 0 = S_.2.2.1 290 0 := fr_arr g_ rfl
  have y1_ : S1_.2.2.1 291 0 = S_.2.2.1 291 0 := fr_arr g_ rfl
  have y2_ : S1_.2.2.2 292 0 = S_.2.2.2 292 0 := fr_lon g_ rfl
  rcases E_ with ⟨e1_, e2_, z_, e3_, cd_, tl_, e4_, e5_⟩ | ⟨e1_, e2_, e9_⟩
  · rcases P_ with ⟨p1_, p2_, -⟩ | ⟨p1_, p2_, p3_, p4_, p5_⟩
    · exact absurd (ok_.mp e2_) p2_
    · have u9_ := usf J_ g_ e2_
      rw [u9_.1] at p3_
      have s1_ := tl_.1
      have s2_ := p3_.1
      refine ⟨⟨p1_.trans e1_.symm, fun _ => ?_⟩, pK_t J_ g_ f_ t_ i_ r2_ ls_ (fun c_ hc_ u_ => ?_) (l_ := l_)⟩
      · rw [e3_, e4_, p4_, ← s1_, ← s2_]
      · by_cases yc_ : c_ = a_.toNat
        · subst yc_
          have c9_ := cfu_b J_.1 J_.2.2.1 J_.2.2.2.2.2.1.2.1 hc_ u_
          have f9_ := fco_b (c_ := a_) J_.1 (J_.2.2.1.2 a_ e2_.1 e2_.2.1 (((usd J_ g_).mp e2_).2.2 ▸ congrFun (fr_arr (t := 222) (i := 0) g_ rfl).symm _)).1
          have f8_ := fco_fr (c_ := a_) g_ rfl
          have ll_ : (tst9 P9_ le_ (cfu9 a_.toNat S_).toNat).length ≤ 1224 := by
            have a1_ := prn9_l (P_ := P9_) (N_ := (cfu9 a_.toNat S_).toNat) (bst9 P9_ le_ (cfu9 a_.toNat S_).toNat).length (bst9 P9_ le_ (cfu9 a_.toNat S_).toNat)
            have a2_ := bst9_l (P_ := P9_) (le_ := le_) (cfu9 a_.toNat S_).toNat
            unfold tst9
            have a3_ := u9_.1
            omega
          exact stq9_n (H_ e2_).1.1.1 (cleq_tr (l1_ _) (l_ _)) ((fco_fr f_ rfl).trans u9_.1) ll_ (f_.1 2 _ 15 rfl) (fr_arr f_ rfl) (cleq_b (l1_ _)).2 tl_ p3_ (fun k9_ h9_ => by rw [fr_arr (t := 41) f_ rfl]; exact e5_ k9_ h9_) p5_
        · have o_ := (T_ c_ hc_ u_).2.1
          have s9_ := o_.1.2.2
          have e_ := (cd_ 2 rfl c_ (by rw [show cof 2 = 0 from rfl]; omega)).1
          have v9_ := e2_.1
          have v8_ := e2_.2.1
          refine stq9_eq o_ (cleq_tr (l1_ _) (l_ _)) ((f_.1 2 c_ 15 rfl).trans (e_ 15)) ((fr_arr f_ rfl).trans (cd_ 40 rfl _ (by rw [show cof 40 = 0 from rfl]; omega)).2) ((fr_arr f_ rfl).trans (cd_ 41 rfl _ (by rw [show cof 41 = 0 from rfl]; omega)).2) ((x_.1 c_ yc_).trans (congrFun y9_ _)) (fun k_ hk_ => ?_) (fun k_ f9_ hk_ hf_ => ?_)
          · have w9_ := x_.2.1 (1280 * c_ + k_) (by omega)
            exact ⟨w9_.1.trans (congrFun y0_ _), w9_.2.trans (congrFun y1_ _)⟩
          · have c9_ := cfu_b J_.1 J_.2.2.1 J_.2.2.2.2.2.1.2.1 hc_ u_
            exact (x_.2.2 (20 * (1280 * c_ + k_) + f9_ / 64) (by omega)).trans (congrFun y2_ _)
  · rcases P_ with ⟨p1_, p2_, p3_, p4_⟩ | ⟨p1_, p2_, -⟩
    · refine ⟨⟨p1_.trans e1_.symm, fun z_ => absurd (e1_.symm.trans z_) (by decide)⟩, pK_t J_ g_ f_ t_ i_ r2_ ls_ (fun c_ hc_ u_ => ?_) (l_ := l_)⟩
      subst e9_
      exact stq9_eq (T_ c_ hc_ u_).2.1 (l_ c_) (f_.1 2 c_ 15 rfl) (fr_arr f_ rfl) (fr_arr f_ rfl) (by rw [p3_]) (fun k_ _ => by rw [p3_]; exact ⟨rfl, rfl⟩) (fun k_ f9_ _ _ => by rw [p4_])
    · exact absurd (ok_.mpr p2_) e2_
theorem rL_sus {w_ : sx_Wl} {n_ : Nat} {a_ b_ : Int} {P9_ : Nat → Nat → Bool} {le_ : Nat → Int} {L_ : List Nat} {fa_ : Nat → Bool} {S_ S1_ : sm_S} (J_ : jB n_ S_) (H_ : (0 ≤ a_ ∧ a_ < 4 ∧ S_.1 2 a_.toNat 0 = 1) → tqs a_ S_ P9_ le_ L_ fa_) (g_ : ai_fr (sx_W w_) S_ S1_) (r_ : rwf w_ = true := by rfl) (r9_ : (sx_W w_).2.1 289 = false := by rfl) (r0_ : (sx_W w_).2.1 290 = false := by rfl) (r1_ : (sx_W w_).2.1 291 = false := by rfl) (r2_ : (sx_W w_).2.1 292 = false := by rfl) : okr_suspect a_ b_ S1_ → rlt9 a_ S1_ P9_ L_ ∧ ∀ k9_ : Nat, (k9_ : Int) < S1_.2.2.1 289 0 a_.toNat → fa_ k9_ = decide (S1_.2.2.1 291 0 (1280 * a_.toNat + k9_) ≠ 0) := fun z_ => by
  have u_ := (usd J_ g_ r_).mpr z_.1.1
  have e_ := ssz J_ g_ u_ r9_
  have h_ := H_ u_
  refine ⟨rlt9_fr (h_.2.1.1 (by rw [← e_]; exact z_.2)).2 g_ r_ r9_ r0_ r2_, fun k_ hk_ => ?_⟩
  rw [e_] at hk_
  rw [fr_arr (t := 291) (i := 0) g_ r1_]
  exact (h_.2.2 k_ hk_).2
theorem rL_fau {w_ : sx_Wl} {n_ : Nat} {a_ b_ : Int} {P9_ : Nat → Nat → Bool} {le_ : Nat → Int} {L_ : List Nat} {fa_ : Nat → Bool} {S_ S1_ : sm_S} (J_ : jB n_ S_) (H_ : (0 ≤ a_ ∧ a_ < 4 ∧ S_.1 2 a_.toNat 0 = 1) → tqs a_ S_ P9_ le_ L_ fa_) (g_ : ai_fr (sx_W w_) S_ S1_) (r_ : rwf w_ = true := by rfl) (r9_ : (sx_W w_).2.1 289 = false := by rfl) (r0_ : (sx_W w_).2.1 290 = false := by rfl) (r2_ : (sx_W w_).2.1 292 = false := by rfl) : ora_faults a_ b_ S1_ → imq (0 ≤ S1_.2.2.1 289 0 a_.toNat) (rlt9 a_ S1_ P9_ L_) ∧ imq (S1_.2.2.1 289 0 a_.toNat < 0) (L_ = []) := fun z_ => by
  have u_ := (usd J_ g_ r_).mpr z_
  have e_ := ssz J_ g_ u_ r9_
  have h_ := H_ u_
  have s_ := (J_.2.2.2.2.2.1.2.2.2 a_.toNat (by omega) u_.2.2).2.1.1.2.1
  exact ⟨fun y_ => rlt9_fr (h_.2.1.1 (by omega)).2 g_ r_ r9_ r0_ r2_, fun y_ => h_.2.1.2 (by omega)⟩
theorem lh_580k {sc_ : Nat × (Nat → Int)} (kk_ : Int) (f_ : Int) (S0_ : sm_S) (hI_ : gi S0_) (hJ_ : jC S0_) (hg9_ : tgo S0_) : sm_T (mt_P sc_) 7 580 (0, [some (.inr (.inr (some (12, 0)))), some (.inl kk_), some (.inl f_), some (.inr (.inr (some (295, 0)))), none], [], S0_) (fun r_ => ∃ v_ S1_ k8_, r_ = (.inl (some (.inl v_)), S1_, k8_) ∧ k8_ ≤ 2 ∧ lhq vw_258t S0_ S1_ ∧ tkk S0_ S1_ ∧ ((v_ = 0 ∧ okc_test kk_ f_ S0_ ∧ ∃ x_, S1_.2.2.2 295 0 0 = l_i2l x_ ∧ csl kk_.toNat S0_ f_ x_) ∨ (v_ = 1 ∧ ¬ okc_test kk_ f_ S0_ ∧ S1_ = S0_))) := by
  refine sm_T_go 5 (c1 := (5, [some (.inr (.inr (some (12, 0)))), some (.inl kk_), some (.inl f_), some (.inr (.inr (some (295, 0)))), none], [.inl f_, .inl kk_, .inr (.inr (some (12, 0))), .inl 0, .inr (.inr (some (295, 0)))], S0_)) rfl ?_
  refine sm_T_call rfl rfl (vc_258t kk_ f_ S0_ hI_ hJ_ hg9_) (fun u_ S1_ k1_ qz9_ => ?_) (fun ex_ S1_ k1_ qz9_ => ?_)
  · rcases qz9_ with ⟨u2_, S2_, ez9_, qz9_⟩ | ⟨ex2_, S2_, ez9_, mz9_, qz9_⟩
    · cases ez9_
      obtain ⟨v_, rfl, iz9_, fz9_, j9_, t9_, q1_, q2_⟩ := qz9_
      refine sm_T_go 4 (c1 := (18, [some (.inr (.inr (some (12, 0)))), some (.inl kk_), some (.inl f_), some (.inr (.inr (some (295, 0)))), none], [.inl 0], _)) rfl ?_
      exact sm_T_ri rfl ⟨_, _, _, rfl, Nat.le_of_ble_eq_true rfl, lhq_o iz9_ fz9_ j9_ rfl rfl, tkk_o t9_, Or.inl ⟨rfl, q1_, v_, rd_ll.trans (if_pos ⟨rfl, rfl, rfl⟩), q2_⟩⟩
    · cases ez9_
  · rcases qz9_ with ⟨u2_, S2_, ez9_, qz9_⟩ | ⟨ex2_, S2_, ez9_, mz9_, qz9_⟩
    · cases ez9_
    · cases ez9_
      obtain ⟨iz9_, fz9_, rfl, q1_⟩ := qz9_
      simp only [List.mem_cons, List.not_mem_nil, or_false] at mz9_
      subst mz9_
      refine ⟨_, _, _, _, _, rfl, Nat.le_of_ble_eq_true rfl, ?_⟩
      refine sm_T_go 1 (c1 := (_, _, [.inl _], _)) rfl ?_
      exact sm_T_ri rfl ⟨_, _, _, rfl, Nat.le_of_ble_eq_true rfl, lhq_x iz9_ fz9_ hJ_ rfl, tkk_r, Or.inr ⟨rfl, q1_, rfl⟩⟩
theorem lh_581k {sc_ : Nat × (Nat → Int)} (kk_ : Int) (p_ : Int) (f_ : Int) (S0_ : sm_S) (hI_ : gi S0_) (hJ_ : jC S0_) (hg9_ : tgo S0_) : sm_T (mt_P sc_) 7 581 (0, [some (.inr (.inr (some (12, 0)))), some (.inl kk_), some (.inl p_), some (.inl f_), some (.inr (.inr (some (295, 0)))), none], [], S0_) (fun r_ => ∃ v_ S1_ k8_, r_ = (.inl (some (.inl v_)), S1_, k8_) ∧ k8_ ≤ 2 ∧ lhq vw_259t S0_ S1_ ∧ tkk S0_ S1_ ∧ ((v_ = 0 ∧ okc_shows kk_ p_ f_ S0_ ∧ ∃ x_, S1_.2.2.2 295 0 0 = l_i2l x_ ∧ (x_ = 0 ∨ x_ = 1) ∧ cshq kk_.toNat S0_ f_ p_.toNat (decide (x_ = 1))) ∨ (v_ = 1 ∧ ¬ oka_shows kk_ p_ f_ S0_ ∧ S1_ = S0_) ∨ (v_ = 2 ∧ oka_shows kk_ p_ f_ S0_ ∧ ¬ okc_shows kk_ p_ f_ S0_ ∧ S1_ = S0_))) := by
  refine sm_T_go 6 (c1 := (7, [some (.inr (.inr (some (12, 0)))), some (.inl kk_), some (.inl p_), some (.inl f_), some (.inr (.inr (some (295, 0)))), none], [.inl f_, .inl p_, .inl kk_, .inr (.inr (some (12, 0))), .inl 0, .inr (.inr (some (295, 0)))], S0_)) rfl ?_
  refine sm_T_call rfl rfl (vc_259t kk_ p_ f_ S0_ hI_ hJ_ hg9_) (fun u_ S1_ k1_ qz9_ => ?_) (fun ex_ S1_ k1_ qz9_ => ?_)
  · rcases qz9_ with ⟨u2_, S2_, ez9_, qz9_⟩ | ⟨ex2_, S2_, ez9_, mz9_, qz9_⟩
    · cases ez9_
      obtain ⟨v_, rfl, iz9_, fz9_, j9_, t9_, q1_, q2_⟩ := qz9_
      have h01_ : v_ = 0 ∨ v_ = 1 := q2_.1
      refine sm_T_b0 (a := 0) (z := 7) rfl (fun c_ => ?_) (fun c_ => ?_)
      · have e9_ : v_ = 0 := of_decide_eq_true c_
        subst e9_
        refine sm_T_go 4 (c1 := (31, [some (.inr (.inr (some (12, 0)))), some (.inl kk_), some (.inl p_), some (.inl f_), some (.inr (.inr (some (295, 0)))), none], [.inl 0], _)) rfl ?_
        exact sm_T_ri rfl ⟨_, _, _, rfl, Nat.le_of_ble_eq_true rfl, lhq_o iz9_ fz9_ j9_ rfl rfl, tkk_o t9_, Or.inl ⟨rfl, q1_, 0, (rd_ll.trans (if_pos ⟨rfl, rfl, rfl⟩)).trans (l_i2l_s (by decide) (by decide)).symm, q2_⟩⟩
      · have e9_ : v_ = 1 := h01_.resolve_left (of_decide_eq_false c_)
        subst e9_
        refine sm_T_go 5 (c1 := (31, [some (.inr (.inr (some (12, 0)))), some (.inl kk_), some (.inl p_), some (.inl f_), some (.inr (.inr (some (295, 0)))), none], [.inl 0], _)) rfl ?_
        exact sm_T_ri rfl ⟨_, _, _, rfl, Nat.le_of_ble_eq_true rfl, lhq_o iz9_ fz9_ j9_ rfl rfl, tkk_o t9_, Or.inl ⟨rfl, q1_, 1, (rd_ll.trans (if_pos ⟨rfl, rfl, rfl⟩)).trans (l_i2l_s (by decide) (by decide)).symm, q2_⟩⟩
    · cases ez9_
  · rcases qz9_ with ⟨u2_, S2_, ez9_, qz9_⟩ | ⟨ex2_, S2_, ez9_, mz9_, qz9_⟩
    · cases ez9_
    · cases ez9_
      obtain ⟨iz9_, fz9_, rfl, q1_⟩ := qz9_
      simp only [List.mem_cons, List.not_mem_nil, or_false] at mz9_
      rcases mz9_ with rfl | rfl
      · refine ⟨_, _, _, _, _, rfl, Nat.le_of_ble_eq_true rfl, ?_⟩
        refine sm_T_go 1 (c1 := (_, _, [.inl _], _)) rfl ?_
        exact sm_T_ri rfl ⟨_, _, _, rfl, Nat.le_of_ble_eq_true rfl, lhq_x iz9_ fz9_ hJ_ rfl, tkk_r, Or.inr (Or.inl ⟨rfl, (q1_.resolve_right (fun z_ => absurd z_.1 (by decide))).2, rfl⟩)⟩
      · refine ⟨_, _, _, _, _, rfl, Nat.le_of_ble_eq_true rfl, ?_⟩
        refine sm_T_go 1 (c1 := (_, _, [.inl _], _)) rfl ?_
        exact sm_T_ri rfl ⟨_, _, _, rfl, Nat.le_of_ble_eq_true rfl, lhq_x iz9_ fz9_ hJ_ rfl, tkk_r, Or.inr (Or.inr ⟨rfl, (q1_.resolve_left (fun z_ => absurd z_.1 (by decide))).2.1, (q1_.resolve_left (fun z_ => absurd z_.1 (by decide))).2.2, rfl⟩)⟩
theorem lh_582k {sc_ : Nat × (Nat → Int)} (kk_ : Int) (P_ : Nat → Nat → Bool) (le_ : Nat → Int) (S0_ : sm_S) (hI_ : gi S0_) (hJ_ : jC S0_) (hg9_ : tgo S0_) (hU_ : okc_tests kk_ S0_ → shU kk_.toNat S0_ P_) (hle_ : okc_tests kk_ S0_ → leU kk_.toNat S0_ le_) : sm_T (mt_P sc_) 8 582 (0, [some (.inr (.inr (some (12, 0)))), some (.inl kk_), some (.inr (.inr (some (295, 0)))), none], [], S0_) (fun r_ => ∃ v_ S1_ k8_, r_ = (.inl (some (.inl v_)), S1_, k8_) ∧ k8_ ≤ 2 ∧ lhq vw_260t S0_ S1_ ∧ tkk S0_ S1_ ∧ ((v_ = 0 ∧ okc_tests kk_ S0_ ∧ ∃ x_, S1_.2.2.2 295 0 0 = l_i2l x_ ∧ cdf kk_.toNat S0_ S1_ ∧ tls kk_.toNat S1_ (tst9 P_ le_ (cfu9 kk_.toNat S0_).toNat) ∧ x_ = S1_.1 2 kk_.toNat 15 ∧ ∀ k9_ : Nat, k9_ < 1224 → S1_.2.2.1 41 (0 + kk_.toNat) k9_ = 0) ∨ (v_ = 1 ∧ ¬ okc_tests kk_ S0_ ∧ S1_ = S0_))) := by
  refine sm_T_go 4 (c1 := (4, [some (.inr (.inr (some (12, 0)))), some (.inl kk_), some (.inr (.inr (some (295, 0)))), none], [.inl kk_, .inr (.inr (some (12, 0))), .inl 0, .inr (.inr (some (295, 0)))], S0_)) rfl ?_
  refine sm_T_call rfl rfl (vc_260t kk_ P_ le_ S0_ hI_ hJ_ hg9_ hU_ hle_) (fun u_ S1_ k1_ qz9_ => ?_) (fun ex_ S1_ k1_ qz9_ => ?_)
  · rcases qz9_ with ⟨u2_, S2_, ez9_, qz9_⟩ | ⟨ex2_, S2_, ez9_, mz9_, qz9_⟩
    · cases ez9_
      obtain ⟨v_, rfl, iz9_, fz9_, j9_, t9_, cd_, q1_, q2_⟩ := qz9_
      refine sm_T_go 4 (c1 := (16, [some (.inr (.inr (some (12, 0)))), some (.inl kk_), some (.inr (.inr (some (295, 0)))), none], [.inl 0], _)) rfl ?_
      exact sm_T_ri rfl ⟨_, _, _, rfl, Nat.le_of_ble_eq_true rfl, lhq_o iz9_ fz9_ j9_ rfl rfl, tkk_o t9_, Or.inl ⟨rfl, q1_, v_, rd_ll.trans (if_pos ⟨rfl, rfl, rfl⟩), cd_, q2_⟩⟩
    · cases ez9_
  · rcases qz9_ with ⟨u2_, S2_, ez9_, qz9_⟩ | ⟨ex2_, S2_, ez9_, mz9_, qz9_⟩
    · cases ez9_
    · cases ez9_
      obtain ⟨iz9_, fz9_, rfl, q1_⟩ := qz9_
      simp only [List.mem_cons, List.not_mem_nil, or_false] at mz9_
      subst mz9_
      refine ⟨_, _, _, _, _, rfl, Nat.le_of_ble_eq_true rfl, ?_⟩
      refine sm_T_go 1 (c1 := (_, _, [.inl _], _)) rfl ?_
      exact sm_T_ri rfl ⟨_, _, _, rfl, Nat.le_of_ble_eq_true rfl, lhq_x iz9_ fz9_ hJ_ rfl, tkk_r, Or.inr ⟨rfl, q1_, rfl⟩⟩
theorem lh_584k {sc_ : Nat × (Nat → Int)} (kk_ : Int) (k_ : Int) (is_ : Int) (S0_ : sm_S) (hI_ : gi S0_) (hJ_ : jC S0_) : sm_T (mt_P sc_) 3 584 (0, [some (.inr (.inr (some (12, 0)))), some (.inl kk_), some (.inl k_), some (.inl is_), some (.inr (.inr (some (295, 0)))), none], [], S0_) (fun r_ => ∃ v_ S1_ k8_, r_ = (.inl (some (.inl v_)), S1_, k8_) ∧ k8_ ≤ 2 ∧ lhq vw_262t S0_ S1_ ∧ tkk S0_ S1_ ∧ ((v_ = 0 ∧ okc_pattern kk_ k_ S0_ ∧ ∃ x_, S1_.2.2.2 295 0 0 = l_i2l x_ ∧ cdf kk_.toNat S0_ S1_ ∧ x_ = (if S0_.2.2.1 41 (0 + kk_.toNat) k_.toNat ≠ 0 then 1 else 0) ∧ ∀ j9_ : Nat, S1_.2.2.1 41 (0 + kk_.toNat) j9_ = if j9_ = k_.toNat then (if is_ ≠ 0 then 1 else 0) else S0_.2.2.1 41 (0 + kk_.toNat) j9_) ∨ (v_ = 1 ∧ ¬ oka_pattern kk_ k_ S0_ ∧ S1_ = S0_) ∨ (v_ = 2 ∧ oka_pattern kk_ k_ S0_ ∧ ¬ okc_pattern kk_ k_ S0_ ∧ S1_ = S0_))) := by
  refine sm_T_go 6 (c1 := (7, [some (.inr (.inr (some (12, 0)))), some (.inl kk_), some (.inl k_), some (.inl is_), some (.inr (.inr (some (295, 0)))), none], [.inl is_, .inl k_, .inl kk_, .inr (.inr (some (12, 0))), .inl 0, .inr (.inr (some (295, 0)))], S0_)) rfl ?_
  refine sm_T_call rfl rfl (vc_262t kk_ k_ is_ S0_ hI_ hJ_) (fun u_ S1_ k1_ qz9_ => ?_) (fun ex_ S1_ k1_ qz9_ => ?_)
  · rcases qz9_ with ⟨u2_, S2_, ez9_, qz9_⟩ | ⟨ex2_, S2_, ez9_, mz9_, qz9_⟩
    · cases ez9_
      obtain ⟨v_, rfl, iz9_, fz9_, cd_, j9_, q1_, q2_⟩ := qz9_
      have t9_ := tkk_f fz9_
      have h01_ : v_ = 0 ∨ v_ = 1 := (show v_ = 0 ∨ v_ = 1 by (rw [q2_.1]; split; exact Or.inr rfl; exact Or.inl rfl))
      refine sm_T_b0 (a := 0) (z := 7) rfl (fun c_ => ?_) (fun c_ => ?_)
      · have e9_ : v_ = 0 := of_decide_eq_true c_
        subst e9_
        refine sm_T_go 4 (c1 := (31, [some (.inr (.inr (some (12, 0)))), some (.inl kk_), some (.inl k_), some (.inl is_), some (.inr (.inr (some (295, 0)))), none], [.inl 0], _)) rfl ?_
        exact sm_T_ri rfl ⟨_, _, _, rfl, Nat.le_of_ble_eq_true rfl, lhq_o iz9_ fz9_ j9_ rfl rfl, tkk_o t9_, Or.inl ⟨rfl, q1_, 0, (rd_ll.trans (if_pos ⟨rfl, rfl, rfl⟩)).trans (l_i2l_s (by decide) (by decide)).symm, cd_, q2_⟩⟩
      · have e9_ : v_ = 1 := h01_.resolve_left (of_decide_eq_false c_)
        subst e9_
        refine sm_T_go 5 (c1 := (31, [some (.inr (.inr (some (12, 0)))), some (.inl kk_), some (.inl k_), some (.inl is_), some (.inr (.inr (some (295, 0)))), none], [.inl 0], _)) rfl ?_
        exact sm_T_ri rfl ⟨_, _, _, rfl, Nat.le_of_ble_eq_true rfl, lhq_o iz9_ fz9_ j9_ rfl rfl, tkk_o t9_, Or.inl ⟨rfl, q1_, 1, (rd_ll.trans (if_pos ⟨rfl, rfl, rfl⟩)).trans (l_i2l_s (by decide) (by decide)).symm, cd_, q2_⟩⟩
    · cases ez9_
  · rcases qz9_ with ⟨u2_, S2_, ez9_, qz9_⟩ | ⟨ex2_, S2_, ez9_, mz9_, qz9_⟩
    · cases ez9_
    · cases ez9_
      obtain ⟨iz9_, fz9_, rfl, q1_⟩ := qz9_
      simp only [List.mem_cons, List.not_mem_nil, or_false] at mz9_
      rcases mz9_ with rfl | rfl
      · refine ⟨_, _, _, _, _, rfl, Nat.le_of_ble_eq_true rfl, ?_⟩
        refine sm_T_go 1 (c1 := (_, _, [.inl _], _)) rfl ?_
        exact sm_T_ri rfl ⟨_, _, _, rfl, Nat.le_of_ble_eq_true rfl, lhq_x iz9_ fz9_ hJ_ rfl, tkk_r, Or.inr (Or.inl ⟨rfl, (q1_.resolve_right (fun z_ => absurd z_.1 (by decide))).2, rfl⟩)⟩
      · refine ⟨_, _, _, _, _, rfl, Nat.le_of_ble_eq_true rfl, ?_⟩
        refine sm_T_go 1 (c1 := (_, _, [.inl _], _)) rfl ?_
        exact sm_T_ri rfl ⟨_, _, _, rfl, Nat.le_of_ble_eq_true rfl, lhq_x iz9_ fz9_ hJ_ rfl, tkk_r, Or.inr (Or.inr ⟨rfl, (q1_.resolve_left (fun z_ => absurd z_.1 (by decide))).2.1, (q1_.resolve_left (fun z_ => absurd z_.1 (by decide))).2.2, rfl⟩)⟩
theorem lh_585k {sc_ : Nat × (Nat → Int)} (kk_ : Int) (k_ : Int) (P_ : Nat → Nat → Bool) (L_ : List Nat) (fa_ : Nat → Bool) (S0_ : sm_S) (hI_ : gi S0_) (hJ_ : jC S0_) (hg9_ : tgo S0_) (hk9_ : -2147483648 ≤ k_ ∧ k_ ≤ 2147483647) (hL_ : okc_suspect kk_ k_ S0_ → shU kk_.toNat S0_ P_ ∧ tls kk_.toNat S0_ L_ ∧ ∀ k9_ : Nat, (k9_ : Int) < S0_.1 2 kk_.toNat 15 → fa_ k9_ = decide (S0_.2.2.1 41 (0 + kk_.toNat) k9_ ≠ 0)) : sm_T (mt_P sc_) 7 585 (0, [some (.inr (.inr (some (12, 0)))), some (.inl kk_), some (.inl k_), some (.inr (.inr (some (295, 0)))), none], [], S0_) (fun r_ => ∃ v_ S1_ k8_, r_ = (.inl (some (.inl v_)), S1_, k8_) ∧ k8_ ≤ 2 ∧ lhq vw_263t S0_ S1_ ∧ tkk S0_ S1_ ∧ ((v_ = 0 ∧ okc_suspect kk_ k_ S0_ ∧ ∃ x_, S1_.2.2.2 295 0 0 = l_i2l x_ ∧ kth9 (sus9 P_ L_ fa_) (cfu9 kk_.toNat S0_).toNat k_ x_) ∨ (v_ = 1 ∧ ¬ oka_suspect kk_ k_ S0_ ∧ S1_ = S0_) ∨ (v_ = 2 ∧ oka_suspect kk_ k_ S0_ ∧ ¬ okc_suspect kk_ k_ S0_ ∧ S1_ = S0_))) := by
  refine sm_T_go 5 (c1 := (5, [some (.inr (.inr (some (12, 0)))), some (.inl kk_), some (.inl k_), some (.inr (.inr (some (295, 0)))), none], [.inl k_, .inl kk_, .inr (.inr (some (12, 0))), .inl 0, .inr (.inr (some (295, 0)))], S0_)) rfl ?_
  refine sm_T_call rfl rfl (vc_263t kk_ k_ P_ L_ fa_ S0_ hI_ hJ_ hg9_ hk9_ hL_) (fun u_ S1_ k1_ qz9_ => ?_) (fun ex_ S1_ k1_ qz9_ => ?_)
  · rcases qz9_ with ⟨u2_, S2_, ez9_, qz9_⟩ | ⟨ex2_, S2_, ez9_, mz9_, qz9_⟩
    · cases ez9_
      obtain ⟨v_, rfl, iz9_, fz9_, j9_, t9_, q1_, q2_⟩ := qz9_
      refine sm_T_go 4 (c1 := (22, [some (.inr (.inr (some (12, 0)))), some (.inl kk_), some (.inl k_), some (.inr (.inr (some (295, 0)))), none], [.inl 0], _)) rfl ?_
      exact sm_T_ri rfl ⟨_, _, _, rfl, Nat.le_of_ble_eq_true rfl, lhq_o iz9_ fz9_ j9_ rfl rfl, tkk_o t9_, Or.inl ⟨rfl, q1_, v_, rd_ll.trans (if_pos ⟨rfl, rfl, rfl⟩), q2_⟩⟩
    · cases ez9_
  · rcases qz9_ with ⟨u2_, S2_, ez9_, qz9_⟩ | ⟨ex2_, S2_, ez9_, mz9_, qz9_⟩
    · cases ez9_
    · cases ez9_
      obtain ⟨iz9_, fz9_, rfl, q1_⟩ := qz9_
      simp only [List.mem_cons, List.not_mem_nil, or_false] at mz9_
      rcases mz9_ with rfl | rfl
      · refine ⟨_, _, _, _, _, rfl, Nat.le_of_ble_eq_true rfl, ?_⟩
        refine sm_T_go 1 (c1 := (_, _, [.inl _], _)) rfl ?_
        exact sm_T_ri rfl ⟨_, _, _, rfl, Nat.le_of_ble_eq_true rfl, lhq_x iz9_ fz9_ hJ_ rfl, tkk_r, Or.inr (Or.inl ⟨rfl, (q1_.resolve_right (fun z_ => absurd z_.1 (by decide))).2, rfl⟩)⟩
      · refine ⟨_, _, _, _, _, rfl, Nat.le_of_ble_eq_true rfl, ?_⟩
        refine sm_T_go 1 (c1 := (_, _, [.inl _], _)) rfl ?_
        exact sm_T_ri rfl ⟨_, _, _, rfl, Nat.le_of_ble_eq_true rfl, lhq_x iz9_ fz9_ hJ_ rfl, tkk_r, Or.inr (Or.inr ⟨rfl, (q1_.resolve_left (fun z_ => absurd z_.1 (by decide))).2.1, (q1_.resolve_left (fun z_ => absurd z_.1 (by decide))).2.2, rfl⟩)⟩
theorem lh_586k {sc_ : Nat × (Nat → Int)} (kk_ : Int) (wh_ : Int) (P_ : Nat → Nat → Bool) (L_ : List Nat) (le_ : Nat → Int) (S0_ : sm_S) (hI_ : gi S0_) (hJ_ : jC S0_) (hg9_ : tgo S0_) (hle_ : oka_faults kk_ wh_ S0_ → leU kk_.toNat S0_ le_) (hL_ : oka_faults kk_ wh_ S0_ → S0_.1 2 kk_.toNat 15 ≠ -1 → shU kk_.toNat S0_ P_ ∧ tls kk_.toNat S0_ L_) : sm_T (mt_P sc_) 8 586 (0, [some (.inr (.inr (some (12, 0)))), some (.inl kk_), some (.inl wh_), some (.inr (.inr (some (295, 0)))), none], [], S0_) (fun r_ => ∃ v_ S1_ k8_, r_ = (.inl (some (.inl v_)), S1_, k8_) ∧ k8_ ≤ 2 ∧ lhq vw_264t S0_ S1_ ∧ tkk S0_ S1_ ∧ ((v_ = 0 ∧ okc_faults kk_ wh_ S0_ ∧ ∃ x_, S1_.2.2.2 295 0 0 = l_i2l x_ ∧ x_ = vac_faults kk_ wh_ P_ L_ le_ S0_) ∨ (v_ = 1 ∧ ¬ oka_faults kk_ wh_ S0_ ∧ S1_ = S0_) ∨ (v_ = 2 ∧ oka_faults kk_ wh_ S0_ ∧ ¬ okc_faults kk_ wh_ S0_ ∧ S1_ = S0_))) := by
  refine sm_T_go 5 (c1 := (5, [some (.inr (.inr (some (12, 0)))), some (.inl kk_), some (.inl wh_), some (.inr (.inr (some (295, 0)))), none], [.inl wh_, .inl kk_, .inr (.inr (some (12, 0))), .inl 0, .inr (.inr (some (295, 0)))], S0_)) rfl ?_
  refine sm_T_call rfl rfl (vc_264t kk_ wh_ P_ L_ le_ S0_ hI_ hJ_ hg9_ hle_ hL_) (fun u_ S1_ k1_ qz9_ => ?_) (fun ex_ S1_ k1_ qz9_ => ?_)
  · rcases qz9_ with ⟨u2_, S2_, ez9_, qz9_⟩ | ⟨ex2_, S2_, ez9_, mz9_, qz9_⟩
    · cases ez9_
      obtain ⟨v_, rfl, iz9_, fz9_, j9_, t9_, q1_, q2_⟩ := qz9_
      refine sm_T_go 4 (c1 := (22, [some (.inr (.inr (some (12, 0)))), some (.inl kk_), some (.inl wh_), some (.inr (.inr (some (295, 0)))), none], [.inl 0], _)) rfl ?_
      exact sm_T_ri rfl ⟨_, _, _, rfl, Nat.le_of_ble_eq_true rfl, lhq_o iz9_ fz9_ j9_ rfl rfl, tkk_o t9_, Or.inl ⟨rfl, q1_, v_, rd_ll.trans (if_pos ⟨rfl, rfl, rfl⟩), q2_⟩⟩
    · cases ez9_
  · rcases qz9_ with ⟨u2_, S2_, ez9_, qz9_⟩ | ⟨ex2_, S2_, ez9_, mz9_, qz9_⟩
    · cases ez9_
    · cases ez9_
      obtain ⟨iz9_, fz9_, rfl, q1_⟩ := qz9_
      simp only [List.mem_cons, List.not_mem_nil, or_false] at mz9_
      rcases mz9_ with rfl | rfl
      · refine ⟨_, _, _, _, _, rfl, Nat.le_of_ble_eq_true rfl, ?_⟩
        refine sm_T_go 1 (c1 := (_, _, [.inl _], _)) rfl ?_
        exact sm_T_ri rfl ⟨_, _, _, rfl, Nat.le_of_ble_eq_true rfl, lhq_x iz9_ fz9_ hJ_ rfl, tkk_r, Or.inr (Or.inl ⟨rfl, (q1_.resolve_right (fun z_ => absurd z_.1 (by decide))).2, rfl⟩)⟩
      · refine ⟨_, _, _, _, _, rfl, Nat.le_of_ble_eq_true rfl, ?_⟩
        refine sm_T_go 1 (c1 := (_, _, [.inl _], _)) rfl ?_
        exact sm_T_ri rfl ⟨_, _, _, rfl, Nat.le_of_ble_eq_true rfl, lhq_x iz9_ fz9_ hJ_ rfl, tkk_r, Or.inr (Or.inr ⟨rfl, (q1_.resolve_left (fun z_ => absurd z_.1 (by decide))).2.1, (q1_.resolve_left (fun z_ => absurd z_.1 (by decide))).2.2, rfl⟩)⟩
theorem jX_test {n_ : Nat} {S_ S1_ S2_ : sm_S} (h_ : jB n_ S_) (q_ : lhq vw_258t S_ S1_) (i_ : gi S2_) (f_ : ai_fr (sx_W vw_522t) S1_ S2_) (r_ : jR S2_) (K_ : jK n_ S2_) : jB n_ S2_ := by
  obtain ⟨a1_, a2_, a3_, a4_, a5_, a6_, a7_, a8_, a9_⟩ := h_
  obtain ⟨i1_, f1_, j1_⟩ := q_
  refine ⟨i_, jC_fr j1_ f_ (by decide) (by decide) (by decide) (by decide) (by decide) rfl rfl rfl rfl rfl rfl, r_, ?_, ?_, ⟨?_, K_⟩, fun k_ hk_ => ?_, fun k_ hk_ => ?_, jG_fr (jG_fr a9_ f1_) f_⟩
  · rw [fr_arr (t := 98) (i := 0) f_ rfl, fr_arr (t := 98) (i := 0) f1_ rfl, fr_arr (t := 118) (i := 0) f_ rfl, fr_arr (t := 118) (i := 0) f1_ rfl]; exact a4_
  · rw [f_.1 10 0 1 rfl, f1_.1 10 0 1 rfl, f_.1 13 0 2 rfl, f1_.1 13 0 2 rfl]; exact a5_
  · rw [f_.1 10 0 1 rfl, f1_.1 10 0 1 rfl]
    exact a6_.1
  · rw [f_.1 3 k_ 0 rfl, f1_.1 3 k_ 0 rfl, fr_arr (t := 153) (i := 0) f_ rfl, fr_arr (t := 153) (i := 0) f1_ rfl]; exact a7_ k_ hk_
  · rw [f_.1 5 k_ 0 rfl, f1_.1 5 k_ 0 rfl, fr_arr (t := 183) (i := 0) f_ rfl, fr_arr (t := 183) (i := 0) f1_ rfl]; exact a8_ k_ hk_
theorem jX_shows {n_ : Nat} {S_ S1_ S2_ : sm_S} (h_ : jB n_ S_) (q_ : lhq vw_259t S_ S1_) (i_ : gi S2_) (f_ : ai_fr (sx_W vw_523t) S1_ S2_) (r_ : jR S2_) (K_ : jK n_ S2_) : jB n_ S2_ := by
  obtain ⟨a1_, a2_, a3_, a4_, a5_, a6_, a7_, a8_, a9_⟩ := h_
  obtain ⟨i1_, f1_, j1_⟩ := q_
  refine ⟨i_, jC_fr j1_ f_ (by decide) (by decide) (by decide) (by decide) (by decide) rfl rfl rfl rfl rfl rfl, r_, ?_, ?_, ⟨?_, K_⟩, fun k_ hk_ => ?_, fun k_ hk_ => ?_, jG_fr (jG_fr a9_ f1_) f_⟩
  · rw [fr_arr (t := 98) (i := 0) f_ rfl, fr_arr (t := 98) (i := 0) f1_ rfl, fr_arr (t := 118) (i := 0) f_ rfl, fr_arr (t := 118) (i := 0) f1_ rfl]; exact a4_
  · rw [f_.1 10 0 1 rfl, f1_.1 10 0 1 rfl, f_.1 13 0 2 rfl, f1_.1 13 0 2 rfl]; exact a5_
  · rw [f_.1 10 0 1 rfl, f1_.1 10 0 1 rfl]
    exact a6_.1
  · rw [f_.1 3 k_ 0 rfl, f1_.1 3 k_ 0 rfl, fr_arr (t := 153) (i := 0) f_ rfl, fr_arr (t := 153) (i := 0) f1_ rfl]; exact a7_ k_ hk_
  · rw [f_.1 5 k_ 0 rfl, f1_.1 5 k_ 0 rfl, fr_arr (t := 183) (i := 0) f_ rfl, fr_arr (t := 183) (i := 0) f1_ rfl]; exact a8_ k_ hk_
theorem jX_tests {n_ : Nat} {S_ S1_ S2_ : sm_S} (h_ : jB n_ S_) (q_ : lhq vw_260t S_ S1_) (i_ : gi S2_) (f_ : ai_fr (sx_W vw_528t) S1_ S2_) (r_ : jR S2_) (K_ : jK n_ S2_) : jB n_ S2_ := by
  obtain ⟨a1_, a2_, a3_, a4_, a5_, a6_, a7_, a8_, a9_⟩ := h_
  obtain ⟨i1_, f1_, j1_⟩ := q_
  refine ⟨i_, jC_fr j1_ f_ (by decide) (by decide) (by decide) (by decide) (by decide) rfl rfl rfl rfl rfl rfl, r_, ?_, ?_, ⟨?_, K_⟩, fun k_ hk_ => ?_, fun k_ hk_ => ?_, jG_fr (jG_fr a9_ f1_) f_⟩
  · rw [fr_arr (t := 98) (i := 0) f_ rfl, fr_arr (t := 98) (i := 0) f1_ rfl, fr_arr (t := 118) (i := 0) f_ rfl, fr_arr (t := 118) (i := 0) f1_ rfl]; exact a4_
  · rw [f_.1 10 0 1 rfl, f1_.1 10 0 1 rfl, f_.1 13 0 2 rfl, f1_.1 13 0 2 rfl]; exact a5_
  · rw [f_.1 10 0 1 rfl, f1_.1 10 0 1 rfl]
    exact a6_.1
  · rw [f_.1 3 k_ 0 rfl, f1_.1 3 k_ 0 rfl, fr_arr (t := 153) (i := 0) f_ rfl, fr_arr (t := 153) (i := 0) f1_ rfl]; exact a7_ k_ hk_
  · rw [f_.1 5 k_ 0 rfl, f1_.1 5 k_ 0 rfl, fr_arr (t := 183) (i := 0) f_ rfl, fr_arr (t := 183) (i := 0) f1_ rfl]; exact a8_ k_ hk_
theorem jX_fails {n_ : Nat} {S_ S1_ S2_ : sm_S} (h_ : jB n_ S_) (q_ : lhq vw_262t S_ S1_) (i_ : gi S2_) (f_ : ai_fr (sx_W vw_531t) S1_ S2_) (r_ : jR S2_) (K_ : jK n_ S2_) : jB n_ S2_ := by
  obtain ⟨a1_, a2_, a3_, a4_, a5_, a6_, a7_, a8_, a9_⟩ := h_
  obtain ⟨i1_, f1_, j1_⟩ := q_
  refine ⟨i_, jC_fr j1_ f_ (by decide) (by decide) (by decide) (by decide) (by decide) rfl rfl rfl rfl rfl rfl, r_, ?_, ?_, ⟨?_, K_⟩, fun k_ hk_ => ?_, fun k_ hk_ => ?_, jG_fr (jG_fr a9_ f1_) f_⟩
  · rw [fr_arr (t := 98) (i := 0) f_ rfl, fr_arr (t := 98) (i := 0) f1_ rfl, fr_arr (t := 118) (i := 0) f_ rfl, fr_arr (t := 118) (i := 0) f1_ rfl]; exact a4_
  · rw [f_.1 10 0 1 rfl, f1_.1 10 0 1 rfl, f_.1 13 0 2 rfl, f1_.1 13 0 2 rfl]; exact a5_
  · rw [f_.1 10 0 1 rfl, f1_.1 10 0 1 rfl]
    exact a6_.1
  · rw [f_.1 3 k_ 0 rfl, f1_.1 3 k_ 0 rfl, fr_arr (t := 153) (i := 0) f_ rfl, fr_arr (t := 153) (i := 0) f1_ rfl]; exact a7_ k_ hk_
  · rw [f_.1 5 k_ 0 rfl, f1_.1 5 k_ 0 rfl, fr_arr (t := 183) (i := 0) f_ rfl, fr_arr (t := 183) (i := 0) f1_ rfl]; exact a8_ k_ hk_
theorem jX_suspect {n_ : Nat} {S_ S1_ S2_ : sm_S} (h_ : jB n_ S_) (q_ : lhq vw_263t S_ S1_) (i_ : gi S2_) (f_ : ai_fr (sx_W vw_533t) S1_ S2_) (r_ : jR S2_) (K_ : jK n_ S2_) : jB n_ S2_ := by
  obtain ⟨a1_, a2_, a3_, a4_, a5_, a6_, a7_, a8_, a9_⟩ := h_
  obtain ⟨i1_, f1_, j1_⟩ := q_
  refine ⟨i_, jC_fr j1_ f_ (by decide) (by decide) (by decide) (by decide) (by decide) rfl rfl rfl rfl rfl rfl, r_, ?_, ?_, ⟨?_, K_⟩, fun k_ hk_ => ?_, fun k_ hk_ => ?_, jG_fr (jG_fr a9_ f1_) f_⟩
  · rw [fr_arr (t := 98) (i := 0) f_ rfl, fr_arr (t := 98) (i := 0) f1_ rfl, fr_arr (t := 118) (i := 0) f_ rfl, fr_arr (t := 118) (i := 0) f1_ rfl]; exact a4_
  · rw [f_.1 10 0 1 rfl, f1_.1 10 0 1 rfl, f_.1 13 0 2 rfl, f1_.1 13 0 2 rfl]; exact a5_
  · rw [f_.1 10 0 1 rfl, f1_.1 10 0 1 rfl]
    exact a6_.1
  · rw [f_.1 3 k_ 0 rfl, f1_.1 3 k_ 0 rfl, fr_arr (t := 153) (i := 0) f_ rfl, fr_arr (t := 153) (i := 0) f1_ rfl]; exact a7_ k_ hk_
  · rw [f_.1 5 k_ 0 rfl, f1_.1 5 k_ 0 rfl, fr_arr (t := 183) (i := 0) f_ rfl, fr_arr (t := 183) (i := 0) f1_ rfl]; exact a8_ k_ hk_
theorem jX_faults {n_ : Nat} {S_ S1_ S2_ : sm_S} (h_ : jB n_ S_) (q_ : lhq vw_264t S_ S1_) (i_ : gi S2_) (f_ : ai_fr (sx_W vw_534t) S1_ S2_) (r_ : jR S2_) (K_ : jK n_ S2_) : jB n_ S2_ := by
  obtain ⟨a1_, a2_, a3_, a4_, a5_, a6_, a7_, a8_, a9_⟩ := h_
  obtain ⟨i1_, f1_, j1_⟩ := q_
  refine ⟨i_, jC_fr j1_ f_ (by decide) (by decide) (by decide) (by decide) (by decide) rfl rfl rfl rfl rfl rfl, r_, ?_, ?_, ⟨?_, K_⟩, fun k_ hk_ => ?_, fun k_ hk_ => ?_, jG_fr (jG_fr a9_ f1_) f_⟩
  · rw [fr_arr (t := 98) (i := 0) f_ rfl, fr_arr (t := 98) (i := 0) f1_ rfl, fr_arr (t := 118) (i := 0) f_ rfl, fr_arr (t := 118) (i := 0) f1_ rfl]; exact a4_
  · rw [f_.1 10 0 1 rfl, f1_.1 10 0 1 rfl, f_.1 13 0 2 rfl, f1_.1 13 0 2 rfl]; exact a5_
  · rw [f_.1 10 0 1 rfl, f1_.1 10 0 1 rfl]
    exact a6_.1
  · rw [f_.1 3 k_ 0 rfl, f1_.1 3 k_ 0 rfl, fr_arr (t := 153) (i := 0) f_ rfl, fr_arr (t := 153) (i := 0) f1_ rfl]; exact a7_ k_ hk_
  · rw [f_.1 5 k_ 0 rfl, f1_.1 5 k_ 0 rfl, fr_arr (t := 183) (i := 0) f_ rfl, fr_arr (t := 183) (i := 0) f1_ rfl]; exact a8_ k_ hk_
