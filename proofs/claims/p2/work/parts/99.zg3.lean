/-! bits; written by wip/p55/gen/vg -/

/-! bits -/
theorem i_shlv {x_ e_ : Int} (h0_ : 0 ≤ e_) (h1_ : e_ ≤ 31) (hx_ : 0 ≤ x_) (h_ : x_ * 2 ^ e_.toNat ≤ 2147483647) : i_shl x_ e_ = x_ * 2 ^ e_.toNat := by
  obtain ⟨k_, rfl⟩ : ∃ k_ : Nat, e_ = (k_ : Int) := ⟨e_.toNat, by omega⟩
  rw [Int.toNat_natCast] at h_ ⊢
  have p0_ : 0 ≤ x_ * 2 ^ k_ := Int.mul_nonneg hx_ (Int.le_of_lt (pw_pos k_))
  exact bs_shl (k := k_) (x := x_) (by omega) ⟨by omega, by omega⟩
theorem pw_tn {x_ : Int} {k_ : Nat} (h0_ : 0 ≤ x_) (h_ : x_ < 2 ^ k_) : x_.toNat < 2 ^ k_ := by
  have hpn_ : (2 : Int) ^ k_ = ((2 ^ k_ : Nat) : Int) := by push_cast; rfl
  rw [hpn_] at h_
  omega
theorem pw_31 {k_ : Nat} (hk_ : k_ ≤ 31) : (2 : Int) ^ k_ ≤ 2147483648 := pw_le hk_
theorem i_orp {x_ y_ : Int} {k_ : Nat} (hk_ : k_ ≤ 31) (hx_ : 0 ≤ x_ ∧ x_ < 2 ^ k_) (hy_ : 0 ≤ y_ ∧ y_ < 2 ^ k_) : 0 ≤ i_or x_ y_ ∧ i_or x_ y_ < 2 ^ k_ := by
  have p_ := pw_31 hk_
  have e_ : i_or x_ y_ = ((x_.toNat ||| y_.toNat : Nat) : Int) := bt_or_nat hx_.1 (by omega) hy_.1 (by omega)
  have h_ := Nat.or_lt_two_pow (pw_tn hx_.1 hx_.2) (pw_tn hy_.1 hy_.2)
  rw [e_]
  refine ⟨Int.natCast_nonneg _, ?_⟩
  exact_mod_cast h_
theorem i_xrp {x_ y_ : Int} {k_ : Nat} (hk_ : k_ ≤ 31) (hx_ : 0 ≤ x_ ∧ x_ < 2 ^ k_) (hy_ : 0 ≤ y_ ∧ y_ < 2 ^ k_) : 0 ≤ i_xor x_ y_ ∧ i_xor x_ y_ < 2 ^ k_ := by
  have p_ := pw_31 hk_
  have e_ : i_xor x_ y_ = ((x_.toNat ^^^ y_.toNat : Nat) : Int) := bt_xor_nat hx_.1 (by omega) hy_.1 (by omega)
  have h_ := Nat.xor_lt_two_pow (pw_tn hx_.1 hx_.2) (pw_tn hy_.1 hy_.2)
  rw [e_]
  refine ⟨Int.natCast_nonneg _, ?_⟩
  exact_mod_cast h_
theorem i_xz {x_ : Int} (h_ : 0 ≤ x_ ∧ x_ ≤ 2147483647) : i_xor x_ 0 = x_ := by
  have e_ : i_xor x_ 0 = ((x_.toNat ^^^ (0 : Int).toNat : Nat) : Int) := bt_xor_nat h_.1 h_.2 (by decide) (by decide)
  rw [e_, show (0 : Int).toNat = 0 from rfl, Nat.xor_zero]
  omega
theorem i_xb {x_ b_ : Int} (h_ : 0 ≤ x_ ∧ x_ ≤ 2047) (hb_ : 0 ≤ b_ ∧ b_ ≤ 1) : 2 * (x_ / 2) ≤ i_xor x_ b_ ∧ i_xor x_ b_ ≤ 2 * (x_ / 2) + 1 := by
  by_cases z_ : b_ = 0
  · rw [z_, i_xz ⟨h_.1, by omega⟩]
    omega
  · rw [show b_ = 1 by omega, i_x1 h_]
    omega
/-- a_ state and an_ input together are_ a_ pattern -/
theorem pat_b {s_ i_ : Int} {R_ I_ : Nat} (hs_ : 0 ≤ s_ ∧ s_ < 2 ^ R_) (hi_ : 0 ≤ i_ ∧ i_ < 2 ^ I_) (h_ : R_ + I_ ≤ 12) : 0 ≤ i_shl s_ (I_ : Int) ∧ 0 ≤ i_or (i_shl s_ (I_ : Int)) i_ ∧ i_or (i_shl s_ (I_ : Int)) i_ < 2 ^ (R_ + I_) := by
  have pI := pw_pos I_
  have e1_ : s_ * 2 ^ I_ + 2 ^ I_ ≤ 2 ^ (R_ + I_) := by
    rw [pw_add, show s_ * 2 ^ I_ + 2 ^ I_ = (s_ + 1) * 2 ^ I_ by rw [Int.add_mul, Int.one_mul]]
    exact Int.mul_le_mul_of_nonneg_right (by omega) (Int.le_of_lt pI)
  have e2_ : (2 : Int) ^ (R_ + I_) ≤ 4096 := pw_le (m := 12) h_
  have e0_ : 0 ≤ s_ * 2 ^ I_ := Int.mul_nonneg hs_.1 (Int.le_of_lt pI)
  have e3_ : i_shl s_ (I_ : Int) = s_ * 2 ^ I_ := by
    rw [i_shlv (by omega) (by omega) hs_.1 (by rw [Int.toNat_natCast]; omega), Int.toNat_natCast]
  rw [e3_]
  have e4_ : i_or (s_ * 2 ^ I_) i_ = s_ * 2 ^ I_ + i_ := i_or_add (s := I_) e0_ hi_.1 hi_.2 (by omega) ⟨s_, Int.mul_comm _ _⟩
  rw [e4_]
  omega
