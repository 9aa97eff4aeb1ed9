/-! the class: what is kept of a fault; written by wip/p55/gen/vg -/

/-- what is_ kept of_ the_ fault is_ right -/
theorem shk_of {w_ : sx_Wl} {cc_ : Nat} {x_ : Int} {S0_ S_ S1_ : sm_S} (f_ : ai_fr (sx_W w_) S0_ S_) (hx_ : 0 ≤ x_) (hb_ : S0_.1 2 cc_ 1 + S0_.1 2 cc_ 2 ≤ 12) (h0_ : 0 ≤ S0_.1 2 cc_ 1 ∧ 0 ≤ S0_.1 2 cc_ 2 ∧ 0 ≤ S0_.1 2 cc_ 3) (hv_ : kcv cc_ S_) (hm_ : mkq cc_ S_) (hf_ : fwz cc_ x_ S0_ S_ (S0_.1 2 cc_ 8).toNat) (hen_ : ∀ e_ : Nat, e_ < (S0_.1 2 cc_ 3).toNat + (S0_.1 2 cc_ 2).toNat → -2 ≤ ket cc_ S0_ e_) (hs_ : ∀ w9_ i9_ : Nat, w9_ < 64 → i9_ < 64 → (lbt (S1_.2.2.2 95 0 (64 * x_.toNat + w9_)) i9_ = true ↔ (w9_ : Int) < S_.1 9 0 2 ∧ lbt (S_.1 9 0 3) i9_ = true ∧ exo S_ (ket cc_ S0_) w9_ i9_ ((S0_.1 2 cc_ 3).toNat + (S0_.1 2 cc_ 2).toNat))) {v_ : sx_Wl} (g_ : ai_fr (sx_W v_) S_ S1_) (h1_ : (sx_W w_).2.1 35 = false := by rfl) (h2_ : (sx_W w_).2.1 36 = false := by rfl) (h3_ : (sx_W w_).2.1 55 = false := by rfl) (h4_ : (sx_W w_).2.1 56 = false := by rfl) (h5_ : (sx_W w_).1 2 1 = false := by rfl) (h6_ : (sx_W w_).1 2 2 = false := by rfl) (h7_ : (sx_W w_).1 2 8 = false := by rfl) (h8_ : (sx_W w_).1 2 3 = false := by rfl) (h9_ : (sx_W w_).2.1 37 = false := by rfl) (ha_ : (sx_W w_).2.1 38 = false := by rfl) (k1_ : (sx_W v_).2.1 35 = false := by rfl) (k2_ : (sx_W v_).2.1 36 = false := by rfl) (k3_ : (sx_W v_).2.1 55 = false := by rfl) (k4_ : (sx_W v_).2.1 56 = false := by rfl) (k5_ : (sx_W v_).1 2 1 = false := by rfl) (k6_ : (sx_W v_).1 2 2 = false := by rfl) (k7_ : (sx_W v_).1 2 8 = false := by rfl) (k8_ : (sx_W v_).1 2 3 = false := by rfl) (k9_ : (sx_W v_).2.1 37 = false := by rfl) (ka_ : (sx_W v_).2.1 38 = false := by rfl) : shk9 cc_ S1_ x_.toNat := by
  have q1_ : S_.1 2 cc_ 1 = S0_.1 2 cc_ 1 := f_.1 2 cc_ 1 h5_
  have q2_ : S_.1 2 cc_ 2 = S0_.1 2 cc_ 2 := f_.1 2 cc_ 2 h6_
  have r1_ : S1_.1 2 cc_ 1 = S0_.1 2 cc_ 1 := (g_.1 2 cc_ 1 k5_).trans q1_
  have r2_ : S1_.1 2 cc_ 2 = S0_.1 2 cc_ 2 := (g_.1 2 cc_ 2 k6_).trans q2_
  obtain ⟨m1_, m2_, m3⟩ := hm_
  rw [q1_, q2_] at m1_ m2_ m3
  have kv_ := kcv_q hv_ f_ h1_ h2_ h3_ h4_ h5_ h6_ h7_
  have w9_ := pw_le (n := (S0_.1 2 cc_ 1 + S0_.1 2 cc_ 2).toNat) (m := 12) (by omega)
  have w9_ : (2 : Int) ^ (S0_.1 2 cc_ 1 + S0_.1 2 cc_ 2).toNat ≤ 4096 := w9_
  refine ⟨fun p_ hp_ => ?_, fun y_ i_ hy_ hi_ z_ => ?_⟩
  · rw [r1_, r2_] at hp_
    rw [show ((x_.toNat : Nat) : Int) = x_ by omega]
    refine (csh_fr g_ k1_ k2_ k3_ k4_ k5_ k6_ k7_ k8_ k9_ ka_).mpr ((csh_fr f_ h1_ h2_ h3_ h4_ h5_ h6_ h7_ h8_ h9_ ha_).mpr ?_)
    have mt_ : lbt (S_.1 9 0 3) (p_ % 64) = true := by
      rw [m1_ (p_ % 64) (Nat.mod_lt _ (by decide))]
      refine decide_eq_true ?_
      by_cases c_ : 6 ≤ S0_.1 2 cc_ 1 + S0_.1 2 cc_ 2
      · exact Or.inr c_
      · left
        have w8_ := pw_le (n := (S0_.1 2 cc_ 1 + S0_.1 2 cc_ 2).toNat) (m := 6) (by omega)
        have w8_ : (2 : Int) ^ (S0_.1 2 cc_ 1 + S0_.1 2 cc_ 2).toNat ≤ 64 := w8_
        omega
    have wt : ((p_ / 64 : Nat) : Int) < S_.1 9 0 2 := by
      have z_ := hv_.1.2
      rw [q1_, q2_] at z_
      omega
    obtain ⟨st_, pn_, d1_, -, -, d4_⟩ := hf_
    refine ⟨st_, pn_, _, _, d1_, kv_.2 p_ wt, d4_.2 p_ wt mt_, ?_⟩
    rw [hs_ (p_ / 64) (p_ % 64) (by omega) (Nat.mod_lt _ (by decide))]
    refine (Iff.intro (fun z_ => z_.2.2) (fun z_ => ⟨wt, mt_, z_⟩)).trans ?_
    refine exo_shd (fun e_ he_ => ?_) (fun e_ he_ => ?_) hen_
    · unfold ket
      rw [if_pos (by omega)]
    · unfold ket
      rw [if_neg (by omega), show (S0_.1 2 cc_ 3).toNat + e_ - (S0_.1 2 cc_ 3).toNat = e_ by omega]
  · rw [r1_, r2_] at z_
    cases c_ : lbt (S1_.2.2.2 95 0 (64 * x_.toNat + y_)) i_
    · rfl
    · have q_ := ((hs_ y_ i_ hy_ hi_).mp c_).2.1
      rw [m1_ i_ hi_, decide_eq_false z_] at q_
      exact absurd q_ (by decide)
