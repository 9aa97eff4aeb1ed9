/-! the class: a chip prepared; written by wip/p55/gen/vg -/

theorem pkw {b_ : Int} (h_ : 6 ≤ b_) : (2 : Int) ^ b_.toNat = 64 * 2 ^ (b_ - 6).toNat := by
  obtain ⟨c_, rfl⟩ : ∃ c_ : Nat, b_ = 6 + (c_ : Int) := ⟨(b_ - 6).toNat, by omega⟩
  rw [show (6 + (c_ : Int)).toNat = 6 + c_ by omega, show (6 + (c_ : Int) - 6).toNat = c_ by omega, Int.pow_add, show (2 : Int) ^ 6 = 64 from rfl]
/-- a_ gate more -/
theorem kpv_s {F_ g_ q_ W_ : Nat} {T_ m_ : Nat → Int} {a_ : Nat → Nat → Int} {R_ B_ R'_ : Nat → Int} (h_ : cvq F_ g_ T_ m_ a_ q_ (fun n_ => pvl R_ n_ q_)) (hq_ : q_ / 64 < W_) (hW_ : W_ ≤ 64) (hr_ : ∀ k_, R'_ k_ = if 64 * (F_ + g_) ≤ k_ ∧ k_ < 64 * (F_ + g_) + W_ then B_ k_ else R_ k_) (hb_ : lbt (B_ (64 * (F_ + g_) + q_ / 64)) (q_ % 64) = gvl (fun n_ => lbt (R_ (64 * n_ + q_ / 64)) (q_ % 64)) (T_ g_) (m_ g_) (a_ g_)) : cvq F_ (g_ + 1) T_ m_ a_ q_ (fun n_ => pvl R'_ n_ q_) := by
  have lo_ : ∀ n_, n_ < F_ + g_ → pvl R'_ n_ q_ = pvl R_ n_ q_ := fun n_ hn_ => by
    unfold pvl
    rw [hr_, if_neg (by omega)]
  refine cvq_s (cvq_cg h_ lo_) (fun o_ => ?_)
  show lbt (R'_ (64 * (F_ + g_) + q_ / 64)) (q_ % 64) = _
  rw [hr_, if_pos (by omega), hb_]
  exact gvl_cg o_ (fun n_ hn_ => (lo_ n_ hn_).symm)
/-- all_ nets of_ a_ chip, at all_ patterns -/
def kcv (cc_ : Nat) (S_ : sm_S) : Prop := (S_.1 9 0 2 ≤ 64 ∧ (2 : Int) ^ (S_.1 2 cc_ 1 + S_.1 2 cc_ 2).toNat ≤ 64 * S_.1 9 0 2) ∧ ∀ q_ : Nat, ((q_ / 64 : Nat) : Int) < S_.1 9 0 2 → cvq (S_.1 2 cc_ 1 + S_.1 2 cc_ 2).toNat (S_.1 2 cc_ 8).toNat (kcT cc_ S_) (kcN cc_ S_) (kcA cc_ S_) q_ (fun n_ => pvl (S_.2.2.2 92 0) n_ q_)
theorem kcX_fr {w_ : sx_Wl} {cc_ : Nat} {S_ S'_ : sm_S} (f_ : ai_fr (sx_W w_) S_ S'_) (h1_ : (sx_W w_).2.1 35 = false := by rfl) (h2_ : (sx_W w_).2.1 36 = false := by rfl) (h3_ : (sx_W w_).2.1 55 = false := by rfl) (h4_ : (sx_W w_).2.1 56 = false := by rfl) : kcT cc_ S'_ = kcT cc_ S_ ∧ kcN cc_ S'_ = kcN cc_ S_ ∧ kcA cc_ S'_ = kcA cc_ S_ := by
  refine ⟨funext fun g_ => ?_, funext fun g_ => ?_, funext fun g_ => funext fun k_ => ?_⟩
  · unfold kcT
    rw [fr_arr (t := 35) (i := 0 + cc_) f_ h1_, fr_arr (t := 56) (i := 0 + (3 + cc_)) f_ h4_]
  · unfold kcN
    rw [fr_arr (t := 35) (i := 0 + cc_) f_ h1_, fr_arr (t := 55) (i := 0 + (3 + cc_)) f_ h3_]
  · unfold kcA
    rw [fr_arr (t := 36) (i := 0 + cc_) f_ h2_]
/-! Tester.prepare -/
