/-! the class: a fault worked out, what stays; written by wip/p55/gen/vg -/

/-- what stays while fault x_ is_ worked out_ -/
def bas9 (cc_ : Nat) (x_ : Int) (S0_ S_ : sm_S) : Prop := (S_.2.1 9 0 0 = some cc_ ∧ S_.1 9 0 1 = S0_.1 2 cc_ 19) ∧ kcv cc_ S_ ∧ mkq cc_ S_ ∧ (∀ f_ : Nat, (f_ : Int) < cfu9 cc_ S_ → (f_ : Int) ≠ x_ → S_.2.2.1 96 0 f_ ≠ 0 → shk9 cc_ S_ f_) ∧ S_.2.2.1 96 0 x_.toNat ≠ 0
theorem cfu_fr {w_ : sx_Wl} {cc_ : Nat} {S_ S'_ : sm_S} (f_ : ai_fr (sx_W w_) S_ S'_) (h1_ : (sx_W w_).2.1 35 = false := by rfl) (h2_ : (sx_W w_).2.1 36 = false := by rfl) (h3_ : (sx_W w_).2.1 55 = false := by rfl) (h4_ : (sx_W w_).2.1 56 = false := by rfl) (h5_ : (sx_W w_).1 2 1 = false := by rfl) (h6_ : (sx_W w_).1 2 2 = false := by rfl) (h7_ : (sx_W w_).1 2 8 = false := by rfl) : cfu9 cc_ S'_ = cfu9 cc_ S_ ∧ cgs cc_ S'_ = cgs cc_ S_ ∧ cnc cc_ S'_ = cnc cc_ S_ := by
  have k_ := kcX_fr (cc_ := cc_) f_ h1_ h2_ h3_ h4_
  have e_ : cgs cc_ S'_ = cgs cc_ S_ := by
    funext g_
    unfold cgs
    rw [k_.2.1]
  have n_ : cnc cc_ S'_ = cnc cc_ S_ := by
    unfold cnc
    rw [f_.1 2 cc_ 1 h5_, f_.1 2 cc_ 2 h6_, f_.1 2 cc_ 8 h7_]
  refine ⟨?_, e_, n_⟩
  unfold cfu9
  rw [e_, n_, f_.1 2 cc_ 8 h7_]
theorem shk_fr {w_ : sx_Wl} {cc_ : Nat} {S_ S'_ : sm_S} (f_ : ai_fr (sx_W w_) S_ S'_) {x_ : Nat} (h_ : shk9 cc_ S_ x_) (e_ : ∀ j_, j_ < 64 → S'_.2.2.2 95 0 (64 * x_ + j_) = S_.2.2.2 95 0 (64 * x_ + j_)) (h1_ : (sx_W w_).2.1 35 = false := by rfl) (h2_ : (sx_W w_).2.1 36 = false := by rfl) (h3_ : (sx_W w_).2.1 55 = false := by rfl) (h4_ : (sx_W w_).2.1 56 = false := by rfl) (h5_ : (sx_W w_).1 2 1 = false := by rfl) (h6_ : (sx_W w_).1 2 2 = false := by rfl) (h7_ : (sx_W w_).1 2 8 = false := by rfl) (h8_ : (sx_W w_).1 2 3 = false := by rfl) (h9_ : (sx_W w_).2.1 37 = false := by rfl) (ha_ : (sx_W w_).2.1 38 = false := by rfl) (hb_ : S_.1 2 cc_ 1 + S_.1 2 cc_ 2 ≤ 12) : shk9 cc_ S'_ x_ := by
  have q1_ := f_.1 2 cc_ 1 h5_
  have q2_ := f_.1 2 cc_ 2 h6_
  have w9_ := pw_le (n := (S_.1 2 cc_ 1 + S_.1 2 cc_ 2).toNat) (m := 12) (by omega)
  have w9_ : (2 : Int) ^ (S_.1 2 cc_ 1 + S_.1 2 cc_ 2).toNat ≤ 4096 := w9_
  refine ⟨fun p_ hp_ => ?_, fun v_ i_ hv_ hi_ z_ => ?_⟩
  · rw [q1_, q2_] at hp_
    rw [e_ (p_ / 64) (by omega)]
    exact (csh_fr f_ h1_ h2_ h3_ h4_ h5_ h6_ h7_ h8_ h9_ ha_).mpr (h_.1 p_ hp_)
  · rw [q1_, q2_] at z_
    rw [e_ v_ hv_]
    exact h_.2 v_ i_ hv_ hi_ z_
theorem bas_fr {w_ : sx_Wl} {cc_ : Nat} {x_ : Int} {S0_ S_ S'_ : sm_S} (h_ : bas9 cc_ x_ S0_ S_) (f_ : ai_fr (sx_W w_) S_ S'_) (hb_ : S_.1 2 cc_ 1 + S_.1 2 cc_ 2 ≤ 12) (h1_ : (sx_W w_).2.1 35 = false := by rfl) (h2_ : (sx_W w_).2.1 36 = false := by rfl) (h3_ : (sx_W w_).2.1 55 = false := by rfl) (h4_ : (sx_W w_).2.1 56 = false := by rfl) (h5_ : (sx_W w_).1 2 1 = false := by rfl) (h6_ : (sx_W w_).1 2 2 = false := by rfl) (h7_ : (sx_W w_).1 2 8 = false := by rfl) (h8_ : (sx_W w_).1 2 3 = false := by rfl) (h9_ : (sx_W w_).2.1 37 = false := by rfl) (ha_ : (sx_W w_).2.1 38 = false := by rfl) (hc_ : (sx_W w_).2.1 92 = false := by rfl) (hd_ : (sx_W w_).2.1 95 = false := by rfl) (he_ : (sx_W w_).2.1 96 = false := by rfl) (hf_ : (sx_W w_).1 9 1 = false := by rfl) (hg_ : (sx_W w_).1 9 2 = false := by rfl) (hh_ : (sx_W w_).1 9 3 = false := by rfl) (hi_ : (sx_W w_).2.2 9 0 = false := by rfl) : bas9 cc_ x_ S0_ S'_ := by
  obtain ⟨⟨a1_, a2_⟩, a3_, a4_, a5_, a6_⟩ := h_
  have k_ := cfu_fr (cc_ := cc_) f_ h1_ h2_ h3_ h4_ h5_ h6_ h7_
  refine ⟨⟨(f_.2.1 9 0 0 hi_).trans a1_, (f_.1 9 0 1 hf_).trans a2_⟩, kcv_fr a3_ f_ h1_ h2_ h3_ h4_ hg_ h5_ h6_ h7_ hc_, ?_, fun j_ q1_ q2_ q3_ => ?_, ?_⟩
  · unfold mkq
    rw [f_.1 9 0 3 hh_, f_.1 9 0 2 hg_, f_.1 2 cc_ 1 h5_, f_.1 2 cc_ 2 h6_]
    exact a4_
  · rw [k_.1] at q1_
    rw [fr_arr (t := 96) (i := 0) f_ he_] at q3_
    exact shk_fr f_ (a5_ j_ q1_ q2_ q3_) (fun y_ _ => congrFun (fr_lon (t_ := 95) (i_ := 0) f_ hd_) _) h1_ h2_ h3_ h4_ h5_ h6_ h7_ h8_ h9_ ha_ hb_
  · rw [fr_arr (t := 96) (i := 0) f_ he_]
    exact a6_
/-- the_ first g_ gates are_ worked out_ under fault x_ -/
def fwz (cc_ : Nat) (x_ : Int) (S0_ S_ : sm_S) (g_ : Nat) : Prop := ∃ st_ pn_ : Int, fdq (cnc cc_ S0_) (cgs cc_ S0_) (S0_.1 2 cc_ 8).toNat x_ st_ pn_ ∧ st_ < ((S0_.1 2 cc_ 1 + S0_.1 2 cc_ 2).toNat : Int) + (g_ : Int) ∧ pn_ < 3 * (g_ : Int) ∧ fw9 (S0_.1 2 cc_ 1 + S0_.1 2 cc_ 2).toNat g_ (kcT cc_ S0_) (kcN cc_ S0_) (kcA cc_ S0_) st_ pn_ (decide (x_ % 2 = 1)) (S_.1 9 0 2) (S_.1 9 0 3) (S_.2.2.1 94 0) (S_.2.2.2 93 0) (S_.2.2.2 92 0)
/-- the_ right words, in S0's terms -/
theorem kcv_q {w_ : sx_Wl} {cc_ : Nat} {S0_ S_ : sm_S} (h_ : kcv cc_ S_) (f_ : ai_fr (sx_W w_) S0_ S_) (h1_ : (sx_W w_).2.1 35 = false := by rfl) (h2_ : (sx_W w_).2.1 36 = false := by rfl) (h3_ : (sx_W w_).2.1 55 = false := by rfl) (h4_ : (sx_W w_).2.1 56 = false := by rfl) (h5_ : (sx_W w_).1 2 1 = false := by rfl) (h6_ : (sx_W w_).1 2 2 = false := by rfl) (h7_ : (sx_W w_).1 2 8 = false := by rfl) : S_.1 9 0 2 ≤ 64 ∧ ∀ q_ : Nat, ((q_ / 64 : Nat) : Int) < S_.1 9 0 2 → cvq (S0_.1 2 cc_ 1 + S0_.1 2 cc_ 2).toNat (S0_.1 2 cc_ 8).toNat (kcT cc_ S0_) (kcN cc_ S0_) (kcA cc_ S0_) q_ (fun n_ => pvl (S_.2.2.2 92 0) n_ q_) := by
  have k_ := kcX_fr (cc_ := cc_) f_ h1_ h2_ h3_ h4_
  refine ⟨h_.1.1, fun q_ hq_ => ?_⟩
  have z_ := h_.2 q_ hq_
  rw [k_.1, k_.2.1, k_.2.2, f_.1 2 cc_ 1 h5_, f_.1 2 cc_ 2 h6_, f_.1 2 cc_ 8 h7_] at z_
  exact z_
