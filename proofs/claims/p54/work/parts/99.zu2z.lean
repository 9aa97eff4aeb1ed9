/-! chips, alike on both sides -/
theorem swd_ce {F_ N_ : Nat} {lo_ hi_ sf_ lo'_ hi'_ sf'_ : Nat → Int} (e_ : ∀ n_, F_ ≤ n_ → n_ < N_ → lo'_ n_ = lo_ n_ ∧ hi'_ n_ = hi_ n_) (s_ : ∀ m_, m_ < N_ → sf'_ m_ = sf_ m_) (h_ : swd F_ N_ lo_ hi_ sf_) : swd F_ N_ lo'_ hi'_ sf'_ := by
  obtain ⟨bi_, W_, mk_, R_, h1_, h2_, h3_, h4_⟩ := h_
  refine ⟨bi_, W_, mk_, R_, h1_, h2_, fun n_ hn_ => ⟨fun j_ hj_ => ?_, (h3_ n_ hn_).2⟩, fun m_ hm_ => ?_⟩
  · have q_ := (h3_ n_ hn_).1 j_ hj_
    refine ⟨q_.1, fun f_ => ?_, q_.2.2⟩
    rw [(e_ n_ f_ hn_).1, (e_ n_ f_ hn_).2]
    exact q_.2.1 f_
  · rcases h4_ m_ hm_ with ⟨q1_, q2_⟩ | ⟨p_, t_, q1_, q2_, q3_, q4_⟩
    · exact Or.inl ⟨(s_ m_ hm_).trans q1_, fun p_ hp_ => q2_ p_ ⟨hp_.1, (s_ p_ (by have := hp_.1; omega)).symm.trans hp_.2⟩⟩
    · exact Or.inr ⟨p_, t_, ⟨q1_.1, (s_ p_ (by have := q1_.1; omega)).trans q1_.2⟩, q2_, q3_, (s_ m_ hm_).trans q4_⟩
/-- the reference's round and its marks -/
def jkr (n_ : Nat) (S_ : sm_S) : Prop := (0 ≤ S_.1 13 0 127 ∧ S_.1 13 0 127 ≤ 65000 * (n_ : Int)) ∧ ∀ x_ : Nat, -(S_.1 13 0 127) ≤ S_.2.2.1 213 0 x_ ∧ S_.2.2.1 213 0 x_ ≤ S_.1 13 0 127
/-- chip c_ is the same on both sides -/
def chq (c_ : Nat) (S_ : sm_S) : Prop := chk c_ S_ S_
/-- what both sides keep alike of chips -/
def jK0 (n_ : Nat) (S_ : sm_S) : Prop := jkr n_ S_ ∧ (∀ c_ : Nat, c_ < 4 → S_.1 2 c_ 0 = S_.2.2.1 222 0 c_) ∧ ∀ c_ : Nat, c_ < 4 → S_.1 2 c_ 0 = 1 → chq c_ S_
def jkF : List (Nat × Nat) := [(2, 1), (2, 2), (2, 3), (2, 4), (2, 8), (5, 1), (13, 127)]
def jkA : List Nat := [35, 36, 37, 38, 55, 56, 57, 58, 213, 223, 224, 225, 226, 228, 229, 230, 231, 232, 233, 234, 235, 236, 237]
def jkw0 (w_ : sx_Wl) : Bool := jkF.all (fun q_ => !((sx_W w_).1 q_.1 q_.2)) && jkA.all (fun t_ => !((sx_W w_).2.1 t_))
theorem jkw0_f {w_ : sx_Wl} (h_ : jkw0 w_ = true) {t_ k_ : Nat} (q_ : (t_, k_) ∈ jkF) : (sx_W w_).1 t_ k_ = false := by
  have a_ := List.all_eq_true.mp (Bool.and_eq_true_iff.mp h_).1 _ q_
  revert a_
  cases (sx_W w_).1 t_ k_ <;> simp
theorem jkw0_a {w_ : sx_Wl} (h_ : jkw0 w_ = true) {t_ : Nat} (q_ : t_ ∈ jkA) : (sx_W w_).2.1 t_ = false := by
  have a_ := List.all_eq_true.mp (Bool.and_eq_true_iff.mp h_).2 _ q_
  revert a_
  cases (sx_W w_).2.1 t_ <;> simp
theorem chq_fr {w_ : sx_Wl} {c_ : Nat} {S_ S'_ : sm_S} (h_ : chq c_ S_) (g_ : ai_fr (sx_W w_) S_ S'_) (q_ : jkw0 w_ = true) : chq c_ S'_ := by
  unfold chq chk
  rw [g_.1 2 c_ 1 (jkw0_f q_ (by decide)), g_.1 2 c_ 2 (jkw0_f q_ (by decide)), g_.1 2 c_ 3 (jkw0_f q_ (by decide)), g_.1 2 c_ 4 (jkw0_f q_ (by decide)), g_.1 2 c_ 8 (jkw0_f q_ (by decide)), g_.1 5 (3 + c_) 1 (jkw0_f q_ (by decide)), fr_arr (t := 35) g_ (jkw0_a q_ (by decide)), fr_arr (t := 36) g_ (jkw0_a q_ (by decide)), fr_arr (t := 37) g_ (jkw0_a q_ (by decide)), fr_arr (t := 38) g_ (jkw0_a q_ (by decide)), fr_arr (t := 55) g_ (jkw0_a q_ (by decide)), fr_arr (t := 56) g_ (jkw0_a q_ (by decide)), fr_arr (t := 57) g_ (jkw0_a q_ (by decide)), fr_arr (t := 58) g_ (jkw0_a q_ (by decide)), fr_arr (t := 223) g_ (jkw0_a q_ (by decide)), fr_arr (t := 224) g_ (jkw0_a q_ (by decide)), fr_arr (t := 225) g_ (jkw0_a q_ (by decide)), fr_arr (t := 226) g_ (jkw0_a q_ (by decide)), fr_arr (t := 228) g_ (jkw0_a q_ (by decide)), fr_arr (t := 229) g_ (jkw0_a q_ (by decide)), fr_arr (t := 230) g_ (jkw0_a q_ (by decide)), fr_arr (t := 231) g_ (jkw0_a q_ (by decide)), fr_arr (t := 232) g_ (jkw0_a q_ (by decide)), fr_arr (t := 233) g_ (jkw0_a q_ (by decide)), fr_arr (t := 234) g_ (jkw0_a q_ (by decide)), fr_arr (t := 235) g_ (jkw0_a q_ (by decide)), fr_arr (t := 236) g_ (jkw0_a q_ (by decide)), fr_arr (t := 237) g_ (jkw0_a q_ (by decide))]
  exact h_
theorem jkr_fr {w_ : sx_Wl} {n_ : Nat} {S_ S'_ : sm_S} (h_ : jkr n_ S_) (g_ : ai_fr (sx_W w_) S_ S'_) (q_ : jkw0 w_ = true) : jkr n_ S'_ := by
  unfold jkr
  rw [g_.1 13 0 127 (jkw0_f q_ (by decide)), fr_arr (t := 213) g_ (jkw0_a q_ (by decide))]
  exact h_
theorem jK0_up {n_ : Nat} {S_ : sm_S} (h_ : jK0 n_ S_) : jK0 (n_ + 1) S_ := ⟨⟨⟨h_.1.1.1, by have := h_.1.1.2; omega⟩, h_.1.2⟩, h_.2⟩
/-- chips go at most -/
theorem jK0_dn {w_ : sx_Wl} {n_ : Nat} {S_ S'_ : sm_S} (h_ : jK0 n_ S_) (g_ : ai_fr (sx_W w_) S_ S'_) (u_ : ∀ c_ : Nat, c_ < 4 → S'_.1 2 c_ 0 = S'_.2.2.1 222 0 c_) (v_ : ∀ c_ : Nat, c_ < 4 → S'_.1 2 c_ 0 = 1 → S_.1 2 c_ 0 = 1) (q_ : jkw0 w_ = true := by rfl) : jK0 n_ S'_ := ⟨jkr_fr h_.1 g_ q_, u_, fun c_ hc_ z_ => chq_fr (h_.2.2 c_ hc_ (v_ c_ hc_ z_)) g_ q_⟩
theorem jK0_fr {w_ : sx_Wl} {n_ : Nat} {S_ S'_ : sm_S} (h_ : jK0 n_ S_) (g_ : ai_fr (sx_W w_) S_ S'_) (q_ : jkw0 w_ = true := by rfl) (a_ : (sx_W w_).1 2 0 = false := by rfl) (b_ : (sx_W w_).2.1 222 = false := by rfl) : jK0 n_ S'_ := jK0_dn h_ g_ (fun c_ hc_ => by rw [g_.1 2 c_ 0 a_, fr_arr (t := 222) g_ b_]; exact h_.2.1 c_ hc_) (fun c_ _ z_ => (g_.1 2 c_ 0 a_).symm.trans z_) q_
/-- a chip's rows in a state behind -/
theorem chq_eq {c_ : Nat} {S_ S'_ : sm_S} (h_ : chq c_ S_) (e_ : ∀ k_, k_ < 9 → S'_.1 2 c_ k_ = S_.1 2 c_ k_) (l_ : S'_.1 5 (3 + c_) 1 = S_.1 5 (3 + c_) 1) (a_ : ∀ t_, t_ < 39 → 35 ≤ t_ → S'_.2.2.1 t_ (0 + c_) = S_.2.2.1 t_ (0 + c_)) (b_ : ∀ t_, t_ < 59 → 55 ≤ t_ → S'_.2.2.1 t_ (0 + (3 + c_)) = S_.2.2.1 t_ (0 + (3 + c_))) (hI_ : gi S_) (r_ : ∀ t_, rct t_ = true → ∀ j_, rcs t_ * c_ ≤ j_ → j_ < rcs t_ * c_ + rcs t_ → S'_.2.2.1 t_ 0 j_ = S_.2.2.1 t_ 0 j_) : chq c_ S'_ := by
  obtain ⟨⟨h1_, h2_, h3_, h4_, h5_⟩, ⟨g1_, g2_, g3_⟩, g4_, g5_, g6_⟩ := h_
  have o_ : ∀ t_, rct t_ = true → rcs t_ = 1 → S'_.2.2.1 t_ 0 c_ = S_.2.2.1 t_ 0 c_ := fun t_ x_ y_ => r_ t_ x_ c_ (by rw [y_]; omega) (by rw [y_]; omega)
  have i2_ : S_.1 2 c_ 2 ≤ 6 := (hI_.1 2 c_ 2 rfl).2
  have i3_ : S_.1 2 c_ 3 ≤ 16 := (hI_.1 2 c_ 3 rfl).2
  have i8_ : S_.1 2 c_ 8 ≤ 150 := (hI_.1 2 c_ 8 rfl).2
  refine ⟨⟨?_, ?_, ?_, ?_, ?_⟩, ⟨?_, ?_, fun k_ hk_ => ?_⟩, fun g_ hg_ => ?_, fun k_ hk_ => ?_, fun k_ hk_ => ?_⟩
  · rw [e_ 1 (by decide), o_ 223 rfl rfl]; exact h1_
  · rw [e_ 2 (by decide), o_ 224 rfl rfl]; exact h2_
  · rw [e_ 3 (by decide), o_ 225 rfl rfl]; exact h3_
  · rw [e_ 4 (by decide), o_ 226 rfl rfl]; exact h4_
  · rw [e_ 8 (by decide), o_ 228 rfl rfl]; exact h5_
  · rw [l_, o_ 233 rfl rfl]; exact g1_
  · rw [l_]; exact g2_
  · rw [l_] at hk_
    rw [b_ 55 (by decide) (by decide), b_ 56 (by decide) (by decide), b_ 57 (by decide) (by decide), b_ 58 (by decide) (by decide), r_ 234 rfl _ (by rw [show rcs 234 = 12 from rfl]; omega) (by rw [show rcs 234 = 12 from rfl]; omega), r_ 235 rfl _ (by rw [show rcs 235 = 12 from rfl]; omega) (by rw [show rcs 235 = 12 from rfl]; omega), r_ 236 rfl _ (by rw [show rcs 236 = 12 from rfl]; omega) (by rw [show rcs 236 = 12 from rfl]; omega), r_ 237 rfl _ (by rw [show rcs 237 = 12 from rfl]; omega) (by rw [show rcs 237 = 12 from rfl]; omega)]
    exact g3_ k_ hk_
  · rw [e_ 8 (by decide)] at hg_
    have q_ := g4_ g_ hg_
    refine ⟨?_, fun k_ hk_ => ?_⟩
    · rw [a_ 35 (by decide) (by decide), l_, r_ 229 rfl _ (by rw [show rcs 229 = 150 from rfl]; omega) (by rw [show rcs 229 = 150 from rfl]; omega)]
      exact q_.1
    · rw [a_ 35 (by decide) (by decide), a_ 36 (by decide) (by decide), b_ 55 (by decide) (by decide), r_ 230 rfl _ (by rw [show rcs 230 = 450 from rfl]; omega) (by rw [show rcs 230 = 450 from rfl]; omega)]
      exact q_.2 k_ hk_
  · rw [e_ 3 (by decide)] at hk_
    rw [a_ 37 (by decide) (by decide), r_ 231 rfl _ (by rw [show rcs 231 = 16 from rfl]; omega) (by rw [show rcs 231 = 16 from rfl]; omega)]
    exact g5_ k_ hk_
  · rw [e_ 2 (by decide)] at hk_
    rw [a_ 38 (by decide) (by decide), r_ 232 rfl _ (by rw [show rcs 232 = 6 from rfl]; omega) (by rw [show rcs 232 = 6 from rfl]; omega)]
    exact g6_ k_ hk_

/-! what chips do, alike on both sides -/
def vac_reset (kk_ : Int) (S_ : sm_S) : Int := S_.1 2 kk_.toNat 5
def nwc_reset (kk_ : Int) (S_ : sm_S) : Int := S_.1 2 kk_.toNat 4
/-- the table tells what the chip does; the state is the reference's -/
def chp (c_ : Nat) (S_ : sm_S) : Prop := kctb c_ S_ ∧ S_.1 2 c_ 5 = S_.2.2.1 227 0 c_
/-- stamps -/
def jpr (n_ : Nat) (S_ : sm_S) : Prop := (∀ c_ : Nat, 0 ≤ S_.1 2 c_ 19 ∧ S_.1 2 c_ 19 ≤ (n_ : Int)) ∧ tsa S_
def jP (n_ : Nat) (S_ : sm_S) : Prop := jpr n_ S_ ∧ ∀ c_ : Nat, c_ < 4 → S_.1 2 c_ 0 = 1 → chp c_ S_
/-- states of chips are alike -/
def jsq (S_ : sm_S) : Prop := ∀ c_ : Nat, c_ < 4 → S_.1 2 c_ 0 = 1 → S_.1 2 c_ 5 = S_.2.2.1 227 0 c_
def jqw (w_ : sx_Wl) : Bool := (!((sx_W w_).1 2 5) && !((sx_W w_).1 2 19)) && (!((sx_W w_).2.1 34) && !((sx_W w_).2.1 227))
def jtw (w_ : sx_Wl) : Bool := !((sx_W w_).1 9 1) && !((sx_W w_).2.2 9 0)
def jkq (w_ : sx_Wl) : Bool := jkw0 w_ && jqw w_
def jkwp (w_ : sx_Wl) : Bool := jkq w_ && jtw w_
theorem nb9 {b_ : Bool} (h_ : (!b_) = true) : b_ = false := by
  cases b_
  · rfl
  · exact absurd h_ (by decide)
theorem jkq_0 {w_ : sx_Wl} (h_ : jkq w_ = true) : jkw0 w_ = true := (Bool.and_eq_true_iff.mp h_).1
theorem jkq_5 {w_ : sx_Wl} (h_ : jkq w_ = true) : (sx_W w_).1 2 5 = false := nb9 (Bool.and_eq_true_iff.mp (Bool.and_eq_true_iff.mp (Bool.and_eq_true_iff.mp h_).2).1).1
theorem jkq_19 {w_ : sx_Wl} (h_ : jkq w_ = true) : (sx_W w_).1 2 19 = false := nb9 (Bool.and_eq_true_iff.mp (Bool.and_eq_true_iff.mp (Bool.and_eq_true_iff.mp h_).2).1).2
theorem jkq_34 {w_ : sx_Wl} (h_ : jkq w_ = true) : (sx_W w_).2.1 34 = false := nb9 (Bool.and_eq_true_iff.mp (Bool.and_eq_true_iff.mp (Bool.and_eq_true_iff.mp h_).2).2).1
theorem jkq_227 {w_ : sx_Wl} (h_ : jkq w_ = true) : (sx_W w_).2.1 227 = false := nb9 (Bool.and_eq_true_iff.mp (Bool.and_eq_true_iff.mp (Bool.and_eq_true_iff.mp h_).2).2).2
theorem jkwp_q {w_ : sx_Wl} (h_ : jkwp w_ = true) : jkq w_ = true := (Bool.and_eq_true_iff.mp h_).1
theorem jkwp_91 {w_ : sx_Wl} (h_ : jkwp w_ = true) : (sx_W w_).1 9 1 = false := nb9 (Bool.and_eq_true_iff.mp (Bool.and_eq_true_iff.mp h_).2).1
theorem jkwp_90 {w_ : sx_Wl} (h_ : jkwp w_ = true) : (sx_W w_).2.2 9 0 = false := nb9 (Bool.and_eq_true_iff.mp (Bool.and_eq_true_iff.mp h_).2).2
theorem kctb_q {w_ : sx_Wl} {c_ : Nat} {S_ S'_ : sm_S} (h_ : kctb c_ S_) (g_ : ai_fr (sx_W w_) S_ S'_) (z_ : jkw0 w_ = true) (q_ : (sx_W w_).2.1 34 = false) : kctb c_ S'_ := kctb_fr h_ g_ (jkw0_a z_ (by decide)) (jkw0_a z_ (by decide)) (jkw0_a z_ (by decide)) (jkw0_a z_ (by decide)) (jkw0_f z_ (by decide)) (jkw0_f z_ (by decide)) (jkw0_f z_ (by decide)) (jkw0_f z_ (by decide)) q_ (jkw0_a z_ (by decide)) (jkw0_a z_ (by decide))
theorem chp_fr {w_ : sx_Wl} {c_ : Nat} {S_ S'_ : sm_S} (h_ : chp c_ S_) (g_ : ai_fr (sx_W w_) S_ S'_) (q_ : jkq w_ = true) : chp c_ S'_ := by
  refine ⟨kctb_q h_.1 g_ (jkq_0 q_) (jkq_34 q_), ?_⟩
  rw [g_.1 2 c_ 5 (jkq_5 q_), fr_arr (t := 227) (i := 0) g_ (jkq_227 q_)]
  exact h_.2
theorem jP_q {w_ : sx_Wl} {n_ : Nat} {S_ S'_ : sm_S} (h_ : jP n_ S_) (g_ : ai_fr (sx_W w_) S_ S'_) (t_ : tsa S'_) (v_ : ∀ c_ : Nat, c_ < 4 → S'_.1 2 c_ 0 = 1 → S_.1 2 c_ 0 = 1) (q_ : jkq w_ = true := by rfl) : jP n_ S'_ := ⟨⟨fun c_ => by rw [g_.1 2 c_ 19 (jkq_19 q_)]; exact h_.1.1 c_, t_⟩, fun c_ hc_ z_ => chp_fr (h_.2 c_ hc_ (v_ c_ hc_ z_)) g_ q_⟩
theorem jP_dn {w_ : sx_Wl} {n_ : Nat} {S_ S'_ : sm_S} (h_ : jP n_ S_) (g_ : ai_fr (sx_W w_) S_ S'_) (v_ : ∀ c_ : Nat, c_ < 4 → S'_.1 2 c_ 0 = 1 → S_.1 2 c_ 0 = 1) (q_ : jkwp w_ = true := by rfl) : jP n_ S'_ := jP_q h_ g_ (tsa_fr h_.1.2 g_ (jkwp_90 q_) (jkwp_91 q_) (jkq_19 (jkwp_q q_))) v_ (jkwp_q q_)
theorem jP_up {n_ : Nat} {S_ : sm_S} (h_ : jP n_ S_) : jP (n_ + 1) S_ := ⟨⟨fun c_ => ⟨(h_.1.1 c_).1, by have := (h_.1.1 c_).2; omega⟩, h_.1.2⟩, h_.2⟩
theorem tsk_of {n_ c_ : Nat} {S_ : sm_S} (h_ : jpr n_ S_) (hn_ : n_ ≤ 1000) : tsk c_ S_ := ⟨⟨(h_.1 c_).1, by have := (h_.1 c_).2; omega⟩, h_.2 c_⟩
/-- a table in a state behind -/
theorem kctb_eq {c_ : Nat} {S_ S'_ : sm_S} (h_ : kctb c_ S_) (e_ : ∀ k_, k_ < 9 → S'_.1 2 c_ k_ = S_.1 2 c_ k_) (a_ : ∀ t_, t_ < 39 → 34 ≤ t_ → S'_.2.2.1 t_ (0 + c_) = S_.2.2.1 t_ (0 + c_)) (b_ : ∀ t_, t_ < 59 → 55 ≤ t_ → S'_.2.2.1 t_ (0 + (3 + c_)) = S_.2.2.1 t_ (0 + (3 + c_))) : kctb c_ S'_ := by
  have k1_ : kcT c_ S'_ = kcT c_ S_ := by
    funext g_
    unfold kcT
    rw [a_ 35 (by decide) (by decide), b_ 56 (by decide) (by decide)]
  have k2_ : kcN c_ S'_ = kcN c_ S_ := by
    funext g_
    unfold kcN
    rw [a_ 35 (by decide) (by decide), b_ 55 (by decide) (by decide)]
  have k3_ : kcA c_ S'_ = kcA c_ S_ := by
    funext g_ k_
    unfold kcA
    rw [a_ 36 (by decide) (by decide)]
  unfold kctb
  rw [k1_, k2_, k3_, e_ 1 (by decide), e_ 2 (by decide), e_ 3 (by decide), e_ 8 (by decide), a_ 34 (by decide) (by decide), a_ 37 (by decide) (by decide), a_ 38 (by decide) (by decide)]
  exact h_
theorem kctb_cd {c_ j_ : Nat} {S_ S'_ : sm_S} (h_ : kctb j_ S_) (g_ : cdf c_ S_ S'_) (n_ : j_ ≠ c_) : kctb j_ S'_ := by
  refine kctb_eq h_ (fun k_ _ => (g_ 2 rfl j_ (by rw [show cof 2 = 0 from rfl]; omega)).1 k_) (fun t_ x1_ x2_ => ?_) (fun t_ x1_ x2_ => ?_)
  · have y_ : t_ = 34 ∨ t_ = 35 ∨ t_ = 36 ∨ t_ = 37 ∨ t_ = 38 := by omega
    rcases y_ with rfl | rfl | rfl | rfl | rfl
    · exact (g_ 34 rfl _ (by rw [show cof 34 = 0 from rfl]; omega)).2
    · exact (g_ 35 rfl _ (by rw [show cof 35 = 0 from rfl]; omega)).2
    · exact (g_ 36 rfl _ (by rw [show cof 36 = 0 from rfl]; omega)).2
    · exact (g_ 37 rfl _ (by rw [show cof 37 = 0 from rfl]; omega)).2
    · exact (g_ 38 rfl _ (by rw [show cof 38 = 0 from rfl]; omega)).2
  · have y_ : t_ = 55 ∨ t_ = 56 ∨ t_ = 57 ∨ t_ = 58 := by omega
    rcases y_ with rfl | rfl | rfl | rfl
    · exact (g_ 55 rfl _ (by rw [show cof 55 = 3 from rfl]; omega)).2
    · exact (g_ 56 rfl _ (by rw [show cof 56 = 3 from rfl]; omega)).2
    · exact (g_ 57 rfl _ (by rw [show cof 57 = 3 from rfl]; omega)).2
    · exact (g_ 58 rfl _ (by rw [show cof 58 = 3 from rfl]; omega)).2
/-- what map leaves of tables and stamps, and alter -/
def emp9 (S0_ S1_ : sm_S) : Prop := (∃ c_ : Nat, cdf c_ S0_ S1_ ∧ mpt c_ S0_ S1_) ∨ S1_ = S0_
def eap9 (a_ : Nat) (S0_ S1_ : sm_S) : Prop := (tsf a_ S1_ ∧ S1_.1 2 a_ 19 = S0_.1 2 a_ 19 + 1 ∧ cdf a_ S0_ S1_) ∨ S1_ = S0_
theorem mpt_o {c_ : Nat} {S0_ S_ : sm_S} {y_ : Int} (h_ : mpt c_ S0_ S_) : mpt c_ S0_ (sm_aL S_ 295 0 0 y_) := h_

/-! tests, alike on both sides -/
/-- the logic of chip c_ is the same in both states -/
def cleq (c_ : Nat) (S_ S'_ : sm_S) : Prop := (S'_.1 2 c_ 1 = S_.1 2 c_ 1 ∧ S'_.1 2 c_ 2 = S_.1 2 c_ 2 ∧ S'_.1 2 c_ 3 = S_.1 2 c_ 3 ∧ S'_.1 2 c_ 8 = S_.1 2 c_ 8) ∧ (∀ t_, t_ < 39 → 35 ≤ t_ → S'_.2.2.1 t_ (0 + c_) = S_.2.2.1 t_ (0 + c_)) ∧ ∀ t_, t_ < 57 → 55 ≤ t_ → S'_.2.2.1 t_ (0 + (3 + c_)) = S_.2.2.1 t_ (0 + (3 + c_))
theorem cleq_k {c_ : Nat} {S_ S'_ : sm_S} (h_ : cleq c_ S_ S'_) : kcT c_ S'_ = kcT c_ S_ ∧ kcN c_ S'_ = kcN c_ S_ ∧ kcA c_ S'_ = kcA c_ S_ := by
  obtain ⟨-, a_, b_⟩ := h_
  refine ⟨?_, ?_, ?_⟩
  · funext g_
    unfold kcT
    rw [a_ 35 (by decide) (by decide), b_ 56 (by decide) (by decide)]
  · funext g_
    unfold kcN
    rw [a_ 35 (by decide) (by decide), b_ 55 (by decide) (by decide)]
  · funext g_ k_
    unfold kcA
    rw [a_ 36 (by decide) (by decide)]
theorem cleq_b {c_ : Nat} {S_ S'_ : sm_S} (h_ : cleq c_ S_ S'_) : cfu9 c_ S'_ = cfu9 c_ S_ ∧ cB9 c_ S'_ = cB9 c_ S_ := by
  have k_ := cleq_k h_
  unfold cfu9 cnc cB9 cgs
  rw [k_.2.1, h_.1.1, h_.1.2.1, h_.1.2.2.2]
  exact ⟨rfl, rfl⟩
theorem cleq_s {c_ : Nat} {S_ S'_ : sm_S} (h_ : cleq c_ S_ S'_) {f_ : Int} {p_ : Nat} {b_ : Bool} : cshq c_ S'_ f_ p_ b_ ↔ cshq c_ S_ f_ p_ b_ := by
  have k_ := cleq_k h_
  unfold cshq cnc cgs
  rw [k_.1, k_.2.1, k_.2.2, h_.1.1, h_.1.2.1, h_.1.2.2.1, h_.1.2.2.2, h_.2.1 37 (by decide) (by decide), h_.2.1 38 (by decide) (by decide)]
theorem cleq_l {c_ : Nat} {S_ S'_ : sm_S} (h_ : cleq c_ S_ S'_) {f_ v_ : Int} (q_ : csl c_ S_ f_ v_) : csl c_ S'_ f_ v_ := by
  unfold csl at q_ ⊢
  rw [h_.1.1, h_.1.2.1]
  rcases q_ with ⟨a1_, a2_⟩ | ⟨q_, a1_, a2_, a3_, a4_⟩
  · exact Or.inl ⟨a1_, fun p_ hp_ => (cleq_s h_).mpr (a2_ p_ hp_)⟩
  · exact Or.inr ⟨q_, a1_, a2_, (cleq_s h_).mpr a3_, fun p_ hp_ => (cleq_s h_).mpr (a4_ p_ hp_)⟩
/-- the sets of chip c_ are the same; what the reference keeps of them is right -/
def stq9 (c_ : Nat) (S_ : sm_S) : Prop := (S_.1 2 c_ 15 = S_.2.2.1 289 0 c_ ∧ -1 ≤ S_.1 2 c_ 15 ∧ S_.1 2 c_ 15 ≤ 1224) ∧ ∀ k_ : Nat, (k_ : Int) < S_.1 2 c_ 15 → S_.2.2.1 40 (0 + c_) k_ = S_.2.2.1 290 0 (1280 * c_ + k_) ∧ (0 ≤ S_.2.2.1 40 (0 + c_) k_ ∧ S_.2.2.1 40 (0 + c_) k_ < cB9 c_ S_) ∧ (S_.2.2.1 291 0 (1280 * c_ + k_) = if S_.2.2.1 41 (0 + c_) k_ ≠ 0 then 1 else 0) ∧ ∀ f_ : Nat, (f_ : Int) < cfu9 c_ S_ → cshq c_ S_ (f_ : Int) (S_.2.2.1 40 (0 + c_) k_).toNat (rbw (c_ : Int) S_ k_ f_)
/-- what the reference keeps of the least patterns is right -/
def lsc (c_ : Nat) (S_ : sm_S) : Prop := ∀ f_ : Nat, (f_ : Int) < cfu9 c_ S_ → imq (S_.2.2.1 294 0 (1280 * c_ + f_) ≠ 0) (csl c_ S_ (f_ : Int) (S_.2.2.1 294 0 (1280 * c_ + f_) - 2))
def jT (S_ : sm_S) : Prop := ∀ c_ : Nat, c_ < 4 → S_.1 2 c_ 0 = 1 → tkp c_ S_ ∧ stq9 c_ S_ ∧ lsc c_ S_
theorem stq9_eq {c_ : Nat} {S_ S'_ : sm_S} (q_ : stq9 c_ S_) (h_ : cleq c_ S_ S'_) (e_ : S'_.1 2 c_ 15 = S_.1 2 c_ 15) (a_ : S'_.2.2.1 40 (0 + c_) = S_.2.2.1 40 (0 + c_)) (b_ : S'_.2.2.1 41 (0 + c_) = S_.2.2.1 41 (0 + c_)) (r1_ : S'_.2.2.1 289 0 c_ = S_.2.2.1 289 0 c_) (r2_ : ∀ k_ : Nat, (k_ : Int) < S_.1 2 c_ 15 → S'_.2.2.1 290 0 (1280 * c_ + k_) = S_.2.2.1 290 0 (1280 * c_ + k_) ∧ S'_.2.2.1 291 0 (1280 * c_ + k_) = S_.2.2.1 291 0 (1280 * c_ + k_)) (r3_ : ∀ k_ f_ : Nat, (k_ : Int) < S_.1 2 c_ 15 → (f_ : Int) < cfu9 c_ S_ → S'_.2.2.2 292 0 (20 * (1280 * c_ + k_) + f_ / 64) = S_.2.2.2 292 0 (20 * (1280 * c_ + k_) + f_ / 64)) : stq9 c_ S'_ := by
  have cb_ := cleq_b h_
  refine ⟨by rw [e_, r1_]; exact q_.1, fun k_ hk_ => ?_⟩
  rw [e_] at hk_
  obtain ⟨z1_, z2_, z3_, z4_⟩ := q_.2 k_ hk_
  have r_ := r2_ k_ hk_
  rw [a_, b_, r_.1, r_.2, cb_.1, cb_.2]
  refine ⟨z1_, z2_, z3_, fun f_ hf_ => (cleq_s h_).mpr ?_⟩
  have y_ := z4_ f_ hf_
  unfold rbw at y_ ⊢
  rw [Int.toNat_natCast] at y_ ⊢
  rw [r3_ k_ f_ hk_ hf_]
  exact y_
theorem lsc_eq {c_ : Nat} {S_ S'_ : sm_S} (q_ : lsc c_ S_) (h_ : cleq c_ S_ S'_) (r_ : ∀ f_ : Nat, (f_ : Int) < cfu9 c_ S_ → S'_.2.2.1 294 0 (1280 * c_ + f_) = S_.2.2.1 294 0 (1280 * c_ + f_)) : lsc c_ S'_ := fun f_ hf_ z_ => by
  rw [(cleq_b h_).1] at hf_
  rw [r_ f_ hf_] at z_ ⊢
  exact cleq_l h_ (q_ f_ hf_ z_)
/-- the tester is the same in both states -/
def teq (S_ S'_ : sm_S) : Prop := (S'_.2.1 9 0 0 = S_.2.1 9 0 0 ∧ S'_.1 9 0 1 = S_.1 9 0 1 ∧ S'_.1 9 0 2 = S_.1 9 0 2 ∧ S'_.1 9 0 3 = S_.1 9 0 3) ∧ S'_.2.2.2 92 0 = S_.2.2.2 92 0 ∧ S'_.2.2.2 95 0 = S_.2.2.2 95 0 ∧ S'_.2.2.1 96 0 = S_.2.2.1 96 0
theorem tok_eq {c_ : Nat} {S_ S'_ : sm_S} (q_ : tok9 c_ S_) (h_ : cleq c_ S_ S'_) (t_ : teq S_ S'_) : tok9 c_ S'_ := by
  have k_ := cleq_k h_
  obtain ⟨⟨-, -, u2_, u3_⟩, u4_, u5_, u6_⟩ := t_
  obtain ⟨q1_, q2_, q3_⟩ := q_
  refine ⟨?_, ?_, fun f_ hf_ hr_ => ?_⟩
  · unfold kcv at q1_ ⊢
    rw [k_.1, k_.2.1, k_.2.2, h_.1.1, h_.1.2.1, h_.1.2.2.2, u2_, u4_]
    exact q1_
  · unfold mkq at q2_ ⊢
    rw [h_.1.1, h_.1.2.1, u2_, u3_]
    exact q2_
  · rw [(cleq_b h_).1] at hf_
    rw [u6_] at hr_
    have a_ := q3_ f_ hf_ hr_
    refine ⟨fun p_ hp_ => ?_, fun w_ i_ hw_ hi_ hn_ => ?_⟩
    · rw [h_.1.1, h_.1.2.1] at hp_
      rw [u5_]
      exact (cleq_s h_).mpr (a_.1 p_ hp_)
    · rw [h_.1.1, h_.1.2.1] at hn_
      rw [u5_]
      exact a_.2 w_ i_ hw_ hi_ hn_
theorem tkp_eq {c_ : Nat} {S_ S'_ : sm_S} (q_ : tkp c_ S_) (h_ : cleq c_ S_ S'_) (t_ : teq S_ S'_) (e_ : S'_.1 2 c_ 19 = S_.1 2 c_ 19) : tkp c_ S'_ := fun x_ y_ => by
  rw [t_.1.1] at x_
  rw [t_.1.2.1, e_] at y_
  exact tok_eq (q_ x_ y_) h_ t_
/-- what calls that don't touch tests leave alone -/
def jtF : List (Nat × Nat) := [(2, 1), (2, 2), (2, 3), (2, 8), (2, 15), (2, 19), (9, 1), (9, 2), (9, 3)]
def jtA : List Nat := [35, 36, 37, 38, 40, 41, 55, 56, 92, 95, 96]
def jtR : List Nat := [289, 290, 291, 292, 294]
def jtc (w_ : sx_Wl) : Bool := (jtF.all (fun q_ => !((sx_W w_).1 q_.1 q_.2)) && jtA.all (fun t_ => !((sx_W w_).2.1 t_))) && !((sx_W w_).2.2 9 0)
def jtt (w_ : sx_Wl) : Bool := jtc w_ && jtR.all (fun t_ => !((sx_W w_).2.1 t_))
theorem jtt_c {w_ : sx_Wl} (h_ : jtt w_ = true) : jtc w_ = true := (Bool.and_eq_true_iff.mp h_).1
theorem jtc_f {w_ : sx_Wl} (h_ : jtc w_ = true) {t_ k_ : Nat} (q_ : (t_, k_) ∈ jtF) : (sx_W w_).1 t_ k_ = false := nb9 (List.all_eq_true.mp (Bool.and_eq_true_iff.mp (Bool.and_eq_true_iff.mp h_).1).1 _ q_)
theorem jtc_a {w_ : sx_Wl} (h_ : jtc w_ = true) {t_ : Nat} (q_ : t_ ∈ jtA) : (sx_W w_).2.1 t_ = false := nb9 (List.all_eq_true.mp (Bool.and_eq_true_iff.mp (Bool.and_eq_true_iff.mp h_).1).2 _ q_)
theorem jtc_r {w_ : sx_Wl} (h_ : jtc w_ = true) : (sx_W w_).2.2 9 0 = false := nb9 (Bool.and_eq_true_iff.mp h_).2
theorem jtt_a {w_ : sx_Wl} (h_ : jtt w_ = true) {t_ : Nat} (q_ : t_ ∈ jtR) : (sx_W w_).2.1 t_ = false := nb9 (List.all_eq_true.mp (Bool.and_eq_true_iff.mp h_).2 _ q_)
theorem ta35 {P_ : Nat → Prop} (h1_ : P_ 35) (h2_ : P_ 36) (h3_ : P_ 37) (h4_ : P_ 38) : ∀ t_, t_ < 39 → 35 ≤ t_ → P_ t_ := fun t_ x_ y_ => by
  have z_ : t_ = 35 ∨ t_ = 36 ∨ t_ = 37 ∨ t_ = 38 := by omega
  rcases z_ with rfl | rfl | rfl | rfl
  · exact h1_
  · exact h2_
  · exact h3_
  · exact h4_
theorem ta55 {P_ : Nat → Prop} (h1_ : P_ 55) (h2_ : P_ 56) : ∀ t_, t_ < 57 → 55 ≤ t_ → P_ t_ := fun t_ x_ y_ => by
  have z_ : t_ = 55 ∨ t_ = 56 := by omega
  rcases z_ with rfl | rfl
  · exact h1_
  · exact h2_
theorem cleq_fr {w_ : sx_Wl} {c_ : Nat} {S_ S'_ : sm_S} (g_ : ai_fr (sx_W w_) S_ S'_) (q_ : jtc w_ = true) : cleq c_ S_ S'_ := ⟨⟨g_.1 2 c_ 1 (jtc_f q_ (by decide)), g_.1 2 c_ 2 (jtc_f q_ (by decide)), g_.1 2 c_ 3 (jtc_f q_ (by decide)), g_.1 2 c_ 8 (jtc_f q_ (by decide))⟩, ta35 (fr_arr g_ (jtc_a q_ (by decide))) (fr_arr g_ (jtc_a q_ (by decide))) (fr_arr g_ (jtc_a q_ (by decide))) (fr_arr g_ (jtc_a q_ (by decide))), ta55 (fr_arr g_ (jtc_a q_ (by decide))) (fr_arr g_ (jtc_a q_ (by decide)))⟩
theorem teq_fr {w_ : sx_Wl} {S_ S'_ : sm_S} (g_ : ai_fr (sx_W w_) S_ S'_) (q_ : jtc w_ = true) : teq S_ S'_ := ⟨⟨g_.2.1 9 0 0 (jtc_r q_), g_.1 9 0 1 (jtc_f q_ (by decide)), g_.1 9 0 2 (jtc_f q_ (by decide)), g_.1 9 0 3 (jtc_f q_ (by decide))⟩, fr_lon (t_ := 92) (i_ := 0) g_ (jtc_a q_ (by decide)), fr_lon (t_ := 95) (i_ := 0) g_ (jtc_a q_ (by decide)), fr_arr (t := 96) (i := 0) g_ (jtc_a q_ (by decide))⟩
theorem cleq_tr {c_ : Nat} {S_ S'_ S2_ : sm_S} (h_ : cleq c_ S_ S'_) (g_ : cleq c_ S'_ S2_) : cleq c_ S_ S2_ := ⟨⟨g_.1.1.trans h_.1.1, g_.1.2.1.trans h_.1.2.1, g_.1.2.2.1.trans h_.1.2.2.1, g_.1.2.2.2.trans h_.1.2.2.2⟩, fun t_ a_ b_ => (g_.2.1 t_ a_ b_).trans (h_.2.1 t_ a_ b_), fun t_ a_ b_ => (g_.2.2 t_ a_ b_).trans (h_.2.2 t_ a_ b_)⟩
theorem teq_tr {S_ S'_ S2_ : sm_S} (h_ : teq S_ S'_) (g_ : teq S'_ S2_) : teq S_ S2_ := ⟨⟨g_.1.1.trans h_.1.1, g_.1.2.1.trans h_.1.2.1, g_.1.2.2.1.trans h_.1.2.2.1, g_.1.2.2.2.trans h_.1.2.2.2⟩, g_.2.1.trans h_.2.1, g_.2.2.1.trans h_.2.2.1, g_.2.2.2.trans h_.2.2.2⟩
theorem cleq_cd {c_ j_ : Nat} {S_ S'_ : sm_S} (g_ : cdf c_ S_ S'_) (n_ : j_ ≠ c_) : cleq j_ S_ S'_ := by
  have e_ := (g_ 2 rfl j_ (by rw [show cof 2 = 0 from rfl]; omega)).1
  exact ⟨⟨e_ 1, e_ 2, e_ 3, e_ 8⟩, ta35 (g_ 35 rfl _ (by rw [show cof 35 = 0 from rfl]; omega)).2 (g_ 36 rfl _ (by rw [show cof 36 = 0 from rfl]; omega)).2 (g_ 37 rfl _ (by rw [show cof 37 = 0 from rfl]; omega)).2 (g_ 38 rfl _ (by rw [show cof 38 = 0 from rfl]; omega)).2, ta55 (g_ 55 rfl _ (by rw [show cof 55 = 3 from rfl]; omega)).2 (g_ 56 rfl _ (by rw [show cof 56 = 3 from rfl]; omega)).2⟩
theorem jT_dn {w_ : sx_Wl} {S_ S'_ : sm_S} (h_ : jT S_) (g_ : ai_fr (sx_W w_) S_ S'_) (v_ : ∀ c_ : Nat, c_ < 4 → S'_.1 2 c_ 0 = 1 → S_.1 2 c_ 0 = 1) (q_ : jtt w_ = true := by rfl) : jT S'_ := fun c_ hc_ z_ => by
  obtain ⟨t1_, t2_, t3_⟩ := h_ c_ hc_ (v_ c_ hc_ z_)
  have e0_ := congrFun (fr_arr (t := 290) (i := 0) g_ (jtt_a q_ (by decide)))
  have e1_ := congrFun (fr_arr (t := 291) (i := 0) g_ (jtt_a q_ (by decide)))
  have e2_ := congrFun (fr_lon (t_ := 292) (i_ := 0) g_ (jtt_a q_ (by decide)))
  have e4_ := congrFun (fr_arr (t := 294) (i := 0) g_ (jtt_a q_ (by decide)))
  have e9_ := congrFun (fr_arr (t := 289) (i := 0) g_ (jtt_a q_ (by decide)))
  have k_ := jtt_c q_
  exact ⟨tkp_eq t1_ (cleq_fr g_ k_) (teq_fr g_ k_) (g_.1 2 c_ 19 (jtc_f k_ (by decide))), stq9_eq t2_ (cleq_fr g_ k_) (g_.1 2 c_ 15 (jtc_f k_ (by decide))) (fr_arr g_ (jtc_a k_ (by decide))) (fr_arr g_ (jtc_a k_ (by decide))) (e9_ _) (fun k_ _ => ⟨e0_ _, e1_ _⟩) (fun k_ f_ _ _ => e2_ _), lsc_eq t3_ (cleq_fr g_ k_) (fun f_ _ => e4_ _)⟩
/-- a chip that stays -/
theorem jT_one {c_ : Nat} {S_ S'_ : sm_S} (h_ : tkp c_ S_ ∧ stq9 c_ S_ ∧ lsc c_ S_) (l_ : cleq c_ S_ S'_) (b_ : cfu9 c_ S_ ≤ 1280) (e15_ : S'_.1 2 c_ 15 = S_.1 2 c_ 15) (e19_ : S'_.1 2 c_ 19 = S_.1 2 c_ 19) (a40_ : S'_.2.2.1 40 (0 + c_) = S_.2.2.1 40 (0 + c_)) (a41_ : S'_.2.2.1 41 (0 + c_) = S_.2.2.1 41 (0 + c_)) (t_ : teq S_ S'_ ∨ ∃ d_ : Nat, d_ ≠ c_ ∧ S'_.2.1 9 0 0 = some d_) (r9_ : S'_.2.2.1 289 0 c_ = S_.2.2.1 289 0 c_) (r0_ : S'_.2.2.1 290 0 = S_.2.2.1 290 0) (r1_ : S'_.2.2.1 291 0 = S_.2.2.1 291 0) (r2_ : S'_.2.2.2 292 0 = S_.2.2.2 292 0) (r4_ : ∀ f_ : Nat, f_ < 1280 → S'_.2.2.1 294 0 (1280 * c_ + f_) = S_.2.2.1 294 0 (1280 * c_ + f_)) : tkp c_ S'_ ∧ stq9 c_ S'_ ∧ lsc c_ S'_ := by
  refine ⟨?_, stq9_eq h_.2.1 l_ e15_ a40_ a41_ r9_ (fun k_ _ => ⟨congrFun r0_ _, congrFun r1_ _⟩) (fun k_ f_ _ _ => congrFun r2_ _), lsc_eq h_.2.2 l_ (fun f_ hf_ => r4_ f_ (by omega))⟩
  rcases t_ with t_ | ⟨d_, hd_, hs_⟩
  · exact tkp_eq h_.1 l_ t_ e19_
  · intro x_ y_
    rw [hs_] at x_
    exact absurd (Option.some.inj x_) hd_
/-- a chip that is new -/
theorem jT_new {c_ : Nat} {S_ : sm_S} (h_ : tok9 c_ S_) (e_ : S_.1 2 c_ 15 = -1) (b_ : cfu9 c_ S_ ≤ 1280) (r9_ : S_.2.2.1 289 0 c_ = -1) (r4_ : ∀ f_ : Nat, f_ < 1280 → S_.2.2.1 294 0 (1280 * c_ + f_) = 0) : tkp c_ S_ ∧ stq9 c_ S_ ∧ lsc c_ S_ := ⟨fun _ _ => h_, ⟨⟨e_.trans r9_.symm, by omega, by omega⟩, fun k_ hk_ => by omega⟩, fun f_ hf_ z_ => absurd (r4_ f_ (by omega)) z_⟩
theorem cfu_b {S_ : sm_S} {n_ d_ : Nat} (i_ : gi S_) (r_ : jR S_) (K_ : jK0 n_ S_) (hd_ : d_ < 4) (u_ : S_.1 2 d_ 0 = 1) : cfu9 d_ S_ ≤ 1280 := by
  have h3_ : S_.2.2.1 222 0 d_ = 1 := (K_.2.1 d_ hd_).symm.trans u_
  have rk_ := r_.2 (d_ : Int) (by omega) (by omega) (by rw [Int.toNat_natCast]; exact h3_)
  have x_ := fco_b (c_ := (d_ : Int)) i_ rk_.1
  have e_ := cfu_e (K_.2.2 d_ hd_ u_)
  omega
/-- what both sides keep alike of chips and tests -/
def jK (n_ : Nat) (S_ : sm_S) : Prop := jK0 n_ S_ ∧ jP n_ S_ ∧ jT S_
def jkw (w_ : sx_Wl) : Bool := jkwp w_ && jtt w_
theorem jkw_p {w_ : sx_Wl} (h_ : jkw w_ = true) : jkwp w_ = true := (Bool.and_eq_true_iff.mp h_).1
theorem jkw_t {w_ : sx_Wl} (h_ : jkw w_ = true) : jtt w_ = true := (Bool.and_eq_true_iff.mp h_).2
theorem jK_up {n_ : Nat} {S_ : sm_S} (h_ : jK n_ S_) : jK (n_ + 1) S_ := ⟨jK0_up h_.1, jP_up h_.2.1, h_.2.2⟩
theorem jK_fr {w_ : sx_Wl} {n_ : Nat} {S_ S'_ : sm_S} (h_ : jK n_ S_) (g_ : ai_fr (sx_W w_) S_ S'_) (q_ : jkw w_ = true := by rfl) (a_ : (sx_W w_).1 2 0 = false := by rfl) (b_ : (sx_W w_).2.1 222 = false := by rfl) : jK n_ S'_ := ⟨jK0_fr h_.1 g_ (jkq_0 (jkwp_q (jkw_p q_))) a_ b_, jP_dn h_.2.1 g_ (fun c_ _ z_ => (g_.1 2 c_ 0 a_).symm.trans z_) (jkw_p q_), jT_dn h_.2.2 g_ (fun c_ _ z_ => (g_.1 2 c_ 0 a_).symm.trans z_) (jkw_t q_)⟩
/-- what map leaves of the tester, and alter -/
def emt9 (a_ b_ : Int) (S0_ S1_ : sm_S) (v_ : Int) : Prop := (v_ = 0 ∧ ∃ (c_ F_ : Nat) (x_ : Int), fch c_ S0_ ∧ mpc a_.toNat F_ b_.toNat c_ S0_ S1_ x_ ∧ S1_.2.2.2 295 0 0 = l_i2l x_ ∧ mpt c_ S0_ S1_ ∧ mpu c_ S0_ S1_) ∨ (v_ ≠ 0 ∧ S1_ = S0_)
def eat9 (a_ : Nat) (S0_ S1_ : sm_S) (v_ : Int) : Prop := (v_ = 0 ∧ (tok9 a_ S1_ ∧ S1_.1 2 a_ 15 = -1) ∧ S1_.2.1 9 0 0 = some a_ ∧ cdf a_ S0_ S1_) ∨ (v_ ≠ 0 ∧ S1_ = S0_)
theorem lo92 {t_ : Nat} {S_ : sm_S} {y_ : Int} (h_ : t_ ≠ 295) : (sm_aL S_ 295 0 0 y_).2.2.2 t_ 0 = S_.2.2.2 t_ 0 := funext fun j_ => rd_ll.trans (if_neg (fun z_ => h_ z_.1))
theorem tok_o {c_ : Nat} {S_ : sm_S} {y_ : Int} (h_ : tok9 c_ S_) : tok9 c_ (sm_aL S_ 295 0 0 y_) := tok_f9 (w_ := ([], [295], [])) h_ (ai_fr_aL rfl)
theorem mpu_o {c_ : Nat} {S0_ S_ : sm_S} {y_ : Int} (h_ : mpu c_ S0_ S_) : mpu c_ S0_ (sm_aL S_ 295 0 0 y_) := by
  rcases h_ with ⟨a1_, a2_, a3_, a4_, a5_, a6_⟩ | ⟨⟨a1_, a2_⟩, a3_, a4_⟩
  · exact Or.inl ⟨a1_, a2_, a3_, (lo92 (by decide)).trans a4_, (lo92 (by decide)).trans a5_, a6_⟩
  · exact Or.inr ⟨⟨tok_o a1_, a2_⟩, a3_, a4_⟩
theorem rsl_x {c_ f_ : Int} {S_ : sm_S} (h_ : f_ < fco c_ S_) : ∃ v_ : Int, rsl c_ S_ f_ v_ := by
  obtain ⟨P_, hP_⟩ := chs9 (α := Nat) (β := Bool) false (A_ := fun _ => True) (Q_ := fun p_ b_ => rshq c_ S_ f_ p_ b_) (fun p_ _ => rsh_x p_ h_)
  obtain ⟨v_, hv_⟩ := lsP_x (fun _ => P_) (2 ^ (S_.2.2.1 223 0 c_.toNat + S_.2.2.1 224 0 c_.toNat).toNat) 0
  refine ⟨v_, ?_⟩
  rcases hv_ with ⟨a1_, a2_⟩ | ⟨q_, a1_, a2_, a3_, a4_⟩
  · exact Or.inl ⟨a1_, fun p_ hp_ => a2_ p_ hp_ ▸ hP_ p_ trivial⟩
  · exact Or.inr ⟨q_, a1_, a2_, a3_ ▸ hP_ q_ trivial, fun p_ hp_ => a4_ p_ hp_ ▸ hP_ p_ trivial⟩
theorem csl_x {c_ : Nat} {f_ : Int} {S_ : sm_S} (h_ : f_ < cfu9 c_ S_) : ∃ v_ : Int, csl c_ S_ f_ v_ := by
  obtain ⟨P_, hP_⟩ := chs9 (α := Nat) (β := Bool) false (A_ := fun _ => True) (Q_ := fun p_ b_ => cshq c_ S_ f_ p_ b_) (fun p_ _ => csh_x p_ h_)
  obtain ⟨v_, hv_⟩ := lsP_x (fun _ => P_) (2 ^ (S_.1 2 c_ 1 + S_.1 2 c_ 2).toNat) 0
  refine ⟨v_, ?_⟩
  rcases hv_ with ⟨a1_, a2_⟩ | ⟨q_, a1_, a2_, a3_, a4_⟩
  · exact Or.inl ⟨a1_, fun p_ hp_ => a2_ p_ hp_ ▸ hP_ p_ trivial⟩
  · exact Or.inr ⟨q_, a1_, a2_, a3_ ▸ hP_ q_ trivial, fun p_ hp_ => a4_ p_ hp_ ▸ hP_ p_ trivial⟩
/-- what is kept, on the reference's side -/
theorem lsk_o {S_ : sm_S} {n_ : Nat} (i_ : gi S_) (r_ : jR S_) (K_ : jK0 n_ S_) (C_ : cAll S_) (h_ : jT S_) : lsk S_ := fun c_ h1_ h2_ h3_ f_ f1_ f2_ z_ => by
  obtain ⟨d_, rfl⟩ : ∃ d_ : Nat, c_ = (d_ : Int) := ⟨c_.toNat, by omega⟩
  rw [Int.toNat_natCast] at h3_
  have u_ : S_.1 2 d_ 0 = 1 := (K_.2.1 d_ (by omega)).trans h3_
  have k_ := K_.2.2 d_ (by omega) u_
  have rk_ := r_.2 (d_ : Int) h1_ h2_ (by rw [Int.toNat_natCast]; exact h3_)
  have F0_ : 0 ≤ S_.1 2 d_ 1 ∧ 0 ≤ S_.1 2 d_ 2 ∧ 0 ≤ S_.1 2 d_ 8 ∧ 0 ≤ S_.1 2 d_ 3 := ⟨(i_.1 2 d_ 1 rfl).1, (i_.1 2 d_ 2 rfl).1, (i_.1 2 d_ 8 rfl).1, (i_.1 2 d_ 3 rfl).1⟩
  have e_ := cfu_e k_
  have q_ := (h_ d_ (by omega) u_).2.2 f_.toNat (by rw [← e_]; omega)
  rw [show 1280 * d_ + f_.toNat = (1280 * (d_ : Int) + f_).toNat by omega, show ((f_.toNat : Nat) : Int) = f_ by omega] at q_
  obtain ⟨w_, hw_⟩ := rsl_x (c_ := (d_ : Int)) (S_ := S_) (f_ := f_) f2_
  have v_ := csl_e i_ k_ rk_.2.2.2.1 rk_.2.2.2.2.1 F0_ (q_ z_) hw_
  rw [v_]
  exact hw_
/-- .. and back -/
theorem lsc_o {S_ : sm_S} {n_ d_ : Nat} (i_ : gi S_) (r_ : jR S_) (K_ : jK0 n_ S_) (hd_ : d_ < 4) (u_ : S_.1 2 d_ 0 = 1) (h_ : lsk S_) : lsc d_ S_ := fun f_ hf_ z_ => by
  have h3_ : S_.2.2.1 222 0 d_ = 1 := (K_.2.1 d_ hd_).symm.trans u_
  have k_ := K_.2.2 d_ hd_ u_
  have rk_ := r_.2 (d_ : Int) (by omega) (by omega) (by rw [Int.toNat_natCast]; exact h3_)
  have F0_ : 0 ≤ S_.1 2 d_ 1 ∧ 0 ≤ S_.1 2 d_ 2 ∧ 0 ≤ S_.1 2 d_ 8 ∧ 0 ≤ S_.1 2 d_ 3 := ⟨(i_.1 2 d_ 1 rfl).1, (i_.1 2 d_ 2 rfl).1, (i_.1 2 d_ 8 rfl).1, (i_.1 2 d_ 3 rfl).1⟩
  have e_ := cfu_e k_
  have q_ := h_ (d_ : Int) (by omega) (by omega) (by rw [Int.toNat_natCast]; exact h3_) (f_ : Int) (by omega) (by rw [e_]; exact hf_)
  rw [show (1280 * (d_ : Int) + (f_ : Int)).toNat = 1280 * d_ + f_ by omega] at q_
  obtain ⟨w_, hw_⟩ := csl_x (c_ := d_) (S_ := S_) (f_ := (f_ : Int)) hf_
  have v_ := csl_e i_ k_ rk_.2.2.2.1 rk_.2.2.2.2.1 F0_ hw_ (q_ z_)
  rw [← v_]
  exact hw_
/-- what patterns show, which are the least, the set: for a chip that is there -/
theorem tq_chip {S_ : sm_S} {n_ : Nat} {a_ : Int} (i_ : gi S_) (r_ : jR S_) (K_ : jK0 n_ S_) : ∃ (P_ : Nat → Nat → Bool) (le_ : Nat → Int), (0 ≤ a_ ∧ a_ < 4 ∧ S_.1 2 a_.toNat 0 = 1) → (shU a_.toNat S_ P_ ∧ leU a_.toNat S_ le_ ∧ rshU a_ S_ P_ ∧ rleU a_ S_ le_) ∧ (fco a_ S_ = cfu9 a_.toNat S_ ∧ rB9 a_ S_ = cB9 a_.toNat S_) := by
  by_cases t_ : 0 ≤ a_ ∧ a_ < 4 ∧ S_.1 2 a_.toNat 0 = 1
  · obtain ⟨d_, rfl⟩ : ∃ d_ : Nat, a_ = (d_ : Int) := ⟨a_.toNat, by omega⟩
    rw [Int.toNat_natCast] at t_ ⊢
    have h3_ : S_.2.2.1 222 0 d_ = 1 := (K_.2.1 d_ (by omega)).symm.trans t_.2.2
    have k_ := K_.2.2 d_ (by omega) t_.2.2
    have rk_ := r_.2 (d_ : Int) (by omega) (by omega) (by rw [Int.toNat_natCast]; exact h3_)
    have F0_ : 0 ≤ S_.1 2 d_ 1 ∧ 0 ≤ S_.1 2 d_ 2 ∧ 0 ≤ S_.1 2 d_ 8 ∧ 0 ≤ S_.1 2 d_ 3 := ⟨(i_.1 2 d_ 1 rfl).1, (i_.1 2 d_ 2 rfl).1, (i_.1 2 d_ 8 rfl).1, (i_.1 2 d_ 3 rfl).1⟩
    have e_ := cfu_e k_
    have eb_ : rB9 (d_ : Int) S_ = cB9 d_ S_ := by
      unfold rB9 cB9
      rw [Int.toNat_natCast, k_.1.1, k_.1.2.1]
    have ce_ : ∀ {f_ : Int} {p_ : Nat} {b_ b'_ : Bool}, cshq d_ S_ f_ p_ b_ → rshq (d_ : Int) S_ f_ p_ b'_ → b_ = b'_ := fun x_ y_ => csh_e i_ k_ rk_.2.2.2.1 rk_.2.2.2.2.1 F0_ x_ y_
    obtain ⟨Q_, hQ_⟩ := chs9 (α := Nat × Nat) (β := Bool) false (A_ := fun q_ => (q_.1 : Int) < fco (d_ : Int) S_) (Q_ := fun q_ b_ => rshq (d_ : Int) S_ (q_.1 : Int) q_.2 b_) (fun q_ h_ => rsh_x q_.2 h_)
    have U1_ : shU d_ S_ (fun f_ p_ => Q_ (f_, p_)) := fun f_ p_ b_ h1_ _ h3_ => ce_ h3_ (hQ_ (f_, p_) (by rw [e_]; exact h1_))
    have U2_ : rshU (d_ : Int) S_ (fun f_ p_ => Q_ (f_, p_)) := fun f_ p_ b_ h1_ h2_ h3_ => by
      obtain ⟨x_, hx_⟩ := csh_x (cc_ := d_) (S_ := S_) (f_ := (f_ : Int)) p_ (by rw [← e_]; exact h1_)
      rw [← ce_ hx_ h3_]
      exact ce_ hx_ (hQ_ (f_, p_) h1_)
    obtain ⟨le_, hle_⟩ := chs9 (α := Nat) (β := Int) 0 (A_ := fun _ => True) (Q_ := fun f_ v_ => lsP (fun f_ p_ => Q_ (f_, p_)) (cB9 d_ S_) f_ v_) (fun f_ _ => lsP_x _ _ f_)
    refine ⟨fun f_ p_ => Q_ (f_, p_), le_, fun _ => ⟨⟨U1_, fun f_ v_ h1_ h2_ => lsP_u (csl_P U1_ h1_ h2_) (hle_ f_ trivial), U2_, fun f_ v_ h1_ h2_ => ?_⟩, e_, eb_⟩⟩
    refine lsP_u ?_ (hle_ f_ trivial)
    rw [← eb_]
    rcases h2_ with ⟨a1_, a2_⟩ | ⟨q_, a1_, a2_, a3_, a4_⟩
    · exact Or.inl ⟨a1_, fun p_ hp_ => (U2_ f_ p_ false h1_ hp_ (a2_ p_ hp_)).symm⟩
    · exact Or.inr ⟨q_, a1_, a2_, (U2_ f_ q_ true h1_ a2_ a3_).symm, fun p_ hp_ => (U2_ f_ p_ false h1_ (by unfold rB9; omega) (a4_ p_ hp_)).symm⟩
  · exact ⟨fun _ _ => false, fun _ => 0, fun h_ => absurd h_ t_⟩
