/-! chips, alike on both sides -/
theorem swd_ce {F_ N_ : Nat} {lo_ hi_ sf_ lo'_ hi'_ sf'_ : Nat → Int} (e_ : ∀ n_, F_ ≤ n_ → n_ < N_ → lo'_ n_ = lo_ n_ ∧ hi'_ n_ = hi_ n_) (s_ : ∀ m_, m_ < N_ → sf'_ m_ = sf_ m_) (h_ : swd F_ N_ lo_ hi_ sf_) : swd F_ N_ lo'_ hi'_ sf'_ := by
  obtain ⟨bi_, W_, mk_, R_, h1_, h2_, h3_, h4_⟩ := h_
  refine ⟨bi_, W_, mk_, R_, h1_, h2_, fun n_ hn_ => ⟨fun j_ hj_ => ?_, (h3_ n_ hn_).2⟩, fun m_ hm_ => ?_⟩
  · have q_ := (h3_ n_ hn_).1 j_ hj_
    refine ⟨q_.1, fun f_ => ?_, q_.2.2⟩
    rw [(e_ n_ f_ hn_).1, (e_ n_ f_ hn_).2]
    exact q_.2.1 f_
  · rcases h4_ m_ hm_ with ⟨q1_, q2_⟩ | ⟨p_, t_, q1_, q2_, q3_, q4_⟩
    · exact Or.inl ⟨(s_ m_ hm_).trans q1_, fun p_ hp_ => q2_ p_ ⟨hp_.1, (s_ p_ (by have := hp_.1; omega)).symm.trans hp_.2⟩⟩
    · exact Or.inr ⟨p_, t_, ⟨q1_.1, (s_ p_ (by have := q1_.1; omega)).trans q1_.2⟩, q2_, q3_, (s_ m_ hm_).trans q4_⟩
/-- the reference's round and its marks -/
def jkr (n_ : Nat) (S_ : sm_S) : Prop := (0 ≤ S_.1 13 0 127 ∧ S_.1 13 0 127 ≤ 65000 * (n_ : Int)) ∧ ∀ x_ : Nat, -(S_.1 13 0 127) ≤ S_.2.2.1 213 0 x_ ∧ S_.2.2.1 213 0 x_ ≤ S_.1 13 0 127
/-- chip c_ is the same on both sides -/
def chq (c_ : Nat) (S_ : sm_S) : Prop := chk c_ S_ S_
/-- what both sides keep alike of chips -/
def jK (n_ : Nat) (S_ : sm_S) : Prop := jkr n_ S_ ∧ (∀ c_ : Nat, c_ < 4 → S_.1 2 c_ 0 = S_.2.2.1 222 0 c_) ∧ ∀ c_ : Nat, c_ < 4 → S_.1 2 c_ 0 = 1 → chq c_ S_
def jkF : List (Nat × Nat) := [(2, 1), (2, 2), (2, 3), (2, 4), (2, 8), (5, 1), (13, 127)]
def jkA : List Nat := [35, 36, 37, 38, 55, 56, 57, 58, 213, 223, 224, 225, 226, 228, 229, 230, 231, 232, 233, 234, 235, 236, 237]
def jkw (w_ : sx_Wl) : Bool := jkF.all (fun q_ => !((sx_W w_).1 q_.1 q_.2)) && jkA.all (fun t_ => !((sx_W w_).2.1 t_))
theorem jkw_f {w_ : sx_Wl} (h_ : jkw w_ = true) {t_ k_ : Nat} (q_ : (t_, k_) ∈ jkF) : (sx_W w_).1 t_ k_ = false := by
  have a_ := List.all_eq_true.mp (Bool.and_eq_true_iff.mp h_).1 _ q_
  revert a_
  cases (sx_W w_).1 t_ k_ <;> simp
theorem jkw_a {w_ : sx_Wl} (h_ : jkw w_ = true) {t_ : Nat} (q_ : t_ ∈ jkA) : (sx_W w_).2.1 t_ = false := by
  have a_ := List.all_eq_true.mp (Bool.and_eq_true_iff.mp h_).2 _ q_
  revert a_
  cases (sx_W w_).2.1 t_ <;> simp
theorem chq_fr {w_ : sx_Wl} {c_ : Nat} {S_ S'_ : sm_S} (h_ : chq c_ S_) (g_ : ai_fr (sx_W w_) S_ S'_) (q_ : jkw w_ = true) : chq c_ S'_ := by
  unfold chq chk
  rw [g_.1 2 c_ 1 (jkw_f q_ (by decide)), g_.1 2 c_ 2 (jkw_f q_ (by decide)), g_.1 2 c_ 3 (jkw_f q_ (by decide)), g_.1 2 c_ 4 (jkw_f q_ (by decide)), g_.1 2 c_ 8 (jkw_f q_ (by decide)), g_.1 5 (3 + c_) 1 (jkw_f q_ (by decide)), fr_arr (t := 35) g_ (jkw_a q_ (by decide)), fr_arr (t := 36) g_ (jkw_a q_ (by decide)), fr_arr (t := 37) g_ (jkw_a q_ (by decide)), fr_arr (t := 38) g_ (jkw_a q_ (by decide)), fr_arr (t := 55) g_ (jkw_a q_ (by decide)), fr_arr (t := 56) g_ (jkw_a q_ (by decide)), fr_arr (t := 57) g_ (jkw_a q_ (by decide)), fr_arr (t := 58) g_ (jkw_a q_ (by decide)), fr_arr (t := 223) g_ (jkw_a q_ (by decide)), fr_arr (t := 224) g_ (jkw_a q_ (by decide)), fr_arr (t := 225) g_ (jkw_a q_ (by decide)), fr_arr (t := 226) g_ (jkw_a q_ (by decide)), fr_arr (t := 228) g_ (jkw_a q_ (by decide)), fr_arr (t := 229) g_ (jkw_a q_ (by decide)), fr_arr (t := 230) g_ (jkw_a q_ (by decide)), fr_arr (t := 231) g_ (jkw_a q_ (by decide)), fr_arr (t := 232) g_ (jkw_a q_ (by decide)), fr_arr (t := 233) g_ (jkw_a q_ (by decide)), fr_arr (t := 234) g_ (jkw_a q_ (by decide)), fr_arr (t := 235) g_ (jkw_a q_ (by decide)), fr_arr (t := 236) g_ (jkw_a q_ (by decide)), fr_arr (t := 237) g_ (jkw_a q_ (by decide))]
  exact h_
theorem jkr_fr {w_ : sx_Wl} {n_ : Nat} {S_ S'_ : sm_S} (h_ : jkr n_ S_) (g_ : ai_fr (sx_W w_) S_ S'_) (q_ : jkw w_ = true) : jkr n_ S'_ := by
  unfold jkr
  rw [g_.1 13 0 127 (jkw_f q_ (by decide)), fr_arr (t := 213) g_ (jkw_a q_ (by decide))]
  exact h_
theorem jK_up {n_ : Nat} {S_ : sm_S} (h_ : jK n_ S_) : jK (n_ + 1) S_ := ⟨⟨⟨h_.1.1.1, by have := h_.1.1.2; omega⟩, h_.1.2⟩, h_.2⟩
/-- chips go at most -/
theorem jK_dn {w_ : sx_Wl} {n_ : Nat} {S_ S'_ : sm_S} (h_ : jK n_ S_) (g_ : ai_fr (sx_W w_) S_ S'_) (u_ : ∀ c_ : Nat, c_ < 4 → S'_.1 2 c_ 0 = S'_.2.2.1 222 0 c_) (v_ : ∀ c_ : Nat, c_ < 4 → S'_.1 2 c_ 0 = 1 → S_.1 2 c_ 0 = 1) (q_ : jkw w_ = true := by rfl) : jK n_ S'_ := ⟨jkr_fr h_.1 g_ q_, u_, fun c_ hc_ z_ => chq_fr (h_.2.2 c_ hc_ (v_ c_ hc_ z_)) g_ q_⟩
theorem jK_fr {w_ : sx_Wl} {n_ : Nat} {S_ S'_ : sm_S} (h_ : jK n_ S_) (g_ : ai_fr (sx_W w_) S_ S'_) (q_ : jkw w_ = true := by rfl) (a_ : (sx_W w_).1 2 0 = false := by rfl) (b_ : (sx_W w_).2.1 222 = false := by rfl) : jK n_ S'_ := jK_dn h_ g_ (fun c_ hc_ => by rw [g_.1 2 c_ 0 a_, fr_arr (t := 222) g_ b_]; exact h_.2.1 c_ hc_) (fun c_ _ z_ => (g_.1 2 c_ 0 a_).symm.trans z_) q_
/-- a chip's rows in a state behind -/
theorem chq_eq {c_ : Nat} {S_ S'_ : sm_S} (h_ : chq c_ S_) (e_ : ∀ k_, k_ < 9 → S'_.1 2 c_ k_ = S_.1 2 c_ k_) (l_ : S'_.1 5 (3 + c_) 1 = S_.1 5 (3 + c_) 1) (a_ : ∀ t_, t_ < 39 → 35 ≤ t_ → S'_.2.2.1 t_ (0 + c_) = S_.2.2.1 t_ (0 + c_)) (b_ : ∀ t_, t_ < 59 → 55 ≤ t_ → S'_.2.2.1 t_ (0 + (3 + c_)) = S_.2.2.1 t_ (0 + (3 + c_))) (hI_ : gi S_) (r_ : ∀ t_, rct t_ = true → ∀ j_, rcs t_ * c_ ≤ j_ → j_ < rcs t_ * c_ + rcs t_ → S'_.2.2.1 t_ 0 j_ = S_.2.2.1 t_ 0 j_) : chq c_ S'_ := by
  obtain ⟨⟨h1_, h2_, h3_, h4_, h5_⟩, ⟨g1_, g2_, g3_⟩, g4_, g5_, g6_⟩ := h_
  have o_ : ∀ t_, rct t_ = true → rcs t_ = 1 → S'_.2.2.1 t_ 0 c_ = S_.2.2.1 t_ 0 c_ := fun t_ x_ y_ => r_ t_ x_ c_ (by rw [y_]; omega) (by rw [y_]; omega)
  have i2_ : S_.1 2 c_ 2 ≤ 6 := (hI_.1 2 c_ 2 rfl).2
  have i3_ : S_.1 2 c_ 3 ≤ 16 := (hI_.1 2 c_ 3 rfl).2
  have i8_ : S_.1 2 c_ 8 ≤ 150 := (hI_.1 2 c_ 8 rfl).2
  refine ⟨⟨?_, ?_, ?_, ?_, ?_⟩, ⟨?_, ?_, fun k_ hk_ => ?_⟩, fun g_ hg_ => ?_, fun k_ hk_ => ?_, fun k_ hk_ => ?_⟩
  · rw [e_ 1 (by decide), o_ 223 rfl rfl]; exact h1_
  · rw [e_ 2 (by decide), o_ 224 rfl rfl]; exact h2_
  · rw [e_ 3 (by decide), o_ 225 rfl rfl]; exact h3_
  · rw [e_ 4 (by decide), o_ 226 rfl rfl]; exact h4_
  · rw [e_ 8 (by decide), o_ 228 rfl rfl]; exact h5_
  · rw [l_, o_ 233 rfl rfl]; exact g1_
  · rw [l_]; exact g2_
  · rw [l_] at hk_
    rw [b_ 55 (by decide) (by decide), b_ 56 (by decide) (by decide), b_ 57 (by decide) (by decide), b_ 58 (by decide) (by decide), r_ 234 rfl _ (by rw [show rcs 234 = 12 from rfl]; omega) (by rw [show rcs 234 = 12 from rfl]; omega), r_ 235 rfl _ (by rw [show rcs 235 = 12 from rfl]; omega) (by rw [show rcs 235 = 12 from rfl]; omega), r_ 236 rfl _ (by rw [show rcs 236 = 12 from rfl]; omega) (by rw [show rcs 236 = 12 from rfl]; omega), r_ 237 rfl _ (by rw [show rcs 237 = 12 from rfl]; omega) (by rw [show rcs 237 = 12 from rfl]; omega)]
    exact g3_ k_ hk_
  · rw [e_ 8 (by decide)] at hg_
    have q_ := g4_ g_ hg_
    refine ⟨?_, fun k_ hk_ => ?_⟩
    · rw [a_ 35 (by decide) (by decide), l_, r_ 229 rfl _ (by rw [show rcs 229 = 150 from rfl]; omega) (by rw [show rcs 229 = 150 from rfl]; omega)]
      exact q_.1
    · rw [a_ 35 (by decide) (by decide), a_ 36 (by decide) (by decide), b_ 55 (by decide) (by decide), r_ 230 rfl _ (by rw [show rcs 230 = 450 from rfl]; omega) (by rw [show rcs 230 = 450 from rfl]; omega)]
      exact q_.2 k_ hk_
  · rw [e_ 3 (by decide)] at hk_
    rw [a_ 37 (by decide) (by decide), r_ 231 rfl _ (by rw [show rcs 231 = 16 from rfl]; omega) (by rw [show rcs 231 = 16 from rfl]; omega)]
    exact g5_ k_ hk_
  · rw [e_ 2 (by decide)] at hk_
    rw [a_ 38 (by decide) (by decide), r_ 232 rfl _ (by rw [show rcs 232 = 6 from rfl]; omega) (by rw [show rcs 232 = 6 from rfl]; omega)]
    exact g6_ k_ hk_
