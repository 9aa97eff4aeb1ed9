/-! the class: equal, never; written by wip/p55/gen/vg -/

theorem nx_z {a_ b_ : Nat} : a_ ^^^ b_ = 0 ↔ a_ = b_ := by
  constructor
  · intro h_
    have e_ : a_ = (a_ ^^^ b_) ^^^ b_ := by rw [Nat.xor_assoc, Nat.xor_self, Nat.xor_zero]
    rw [e_, h_, Nat.zero_xor]
  · intro h_
    rw [h_, Nat.xor_self]
theorem xm16 {x_ y_ : Int} (hx_ : 0 ≤ x_ ∧ x_ ≤ 2147483647) (hy_ : 0 ≤ y_ ∧ y_ ≤ 2147483647) : i_and (i_xor x_ y_) 65535 ≠ 0 ↔ x_ % 65536 ≠ y_ % 65536 := by
  have e1_ : i_and (i_xor x_ y_) 65535 = i_xor x_ y_ % 65536 := bt_mask (k := 16) (x := i_xor x_ y_) (by decide)
  have e2_ : i_xor x_ y_ = ((x_.toNat ^^^ y_.toNat : Nat) : Int) := bt_xor_nat hx_.1 hx_.2 hy_.1 hy_.2
  have e3_ : (x_.toNat ^^^ y_.toNat) % 65536 = x_.toNat % 65536 ^^^ y_.toNat % 65536 := Nat.xor_mod_two_pow (n := 16)
  have e4_ := nx_z (a_ := x_.toNat % 65536) (b_ := y_.toNat % 65536)
  rw [e1_, e2_]
  constructor
  · intro h_ z_
    apply h_
    have q_ : x_.toNat % 65536 = y_.toNat % 65536 := by omega
    have w_ := e4_.mpr q_
    omega
  · intro h_ z_
    apply h_
    have q_ : x_.toNat % 65536 ^^^ y_.toNat % 65536 = 0 := by omega
    have w_ := e4_.mp q_
    omega
/-! ChipFlow.equal -/
/-! ChipFlow.never -/
