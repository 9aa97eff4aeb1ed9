/-! shifts, quotients -/
theorem bs_amt : ∀ k, k < 32 → ((Int32.ofInt (k : Nat) &&& 31).toBitVec.smod 32).toNat = k := by decide
theorem bs_shr {k : Nat} {x : Int} (hk : k < 32) (hx : sm_ni x) : (Int32.ofInt x >>> (Int32.ofInt (k : Nat) &&& 31)).toInt = x / 2 ^ k := by
  have h1 : (Int32.ofInt x >>> (Int32.ofInt (k : Nat) &&& 31)).toInt = ((Int32.ofInt x).toBitVec.sshiftRight ((Int32.ofInt (k : Nat) &&& 31).toBitVec.smod 32).toNat).toInt := rfl
  rw [h1, bs_amt k hk, BitVec.toInt_sshiftRight]
  have h2 : (Int32.ofInt x).toBitVec.toInt = x := sm_ti hx
  rw [h2, Int.shiftRight_eq_div_pow]
  push_cast
  rfl
theorem bs_shl {k : Nat} {x : Int} (hk : k < 32) (hr : sm_ni (x * 2 ^ k)) : (Int32.ofInt x <<< (Int32.ofInt (k : Nat) &&& 31)).toInt = x * 2 ^ k := by
  have h1 : (Int32.ofInt x <<< (Int32.ofInt (k : Nat) &&& 31)).toBitVec.toNat = ((Int32.ofInt x).toBitVec <<< ((Int32.ofInt (k : Nat) &&& 31).toBitVec.smod 32).toNat).toNat := rfl
  rw [bs_amt k hk, BitVec.toNat_shiftLeft, Nat.shiftLeft_eq] at h1
  have h2 := bt_nat (Int32.ofInt x <<< (Int32.ofInt (k : Nat) &&& 31))
  rw [h1] at h2
  have h3 := bt_of x
  have h4 := sm_ni_toInt (Int32.ofInt x <<< (Int32.ofInt (k : Nat) &&& 31))
  generalize (Int32.ofInt x <<< (Int32.ofInt (k : Nat) &&& 31)).toInt = v at h2 h4 ⊢
  have h5 : (((Int32.ofInt x).toBitVec.toNat * 2 ^ k % 2 ^ 32 : Nat) : Int) = x * 2 ^ k % 4294967296 := by
    rw [Int.natCast_emod, Int.natCast_mul, h3]
    show x % 4294967296 * ((2 ^ k : Nat) : Int) % 4294967296 = _
    rw [Int.mul_emod, Int.emod_emod, ← Int.mul_emod]
    push_cast
    rfl
  rw [h5] at h2
  unfold sm_ni at hr h4
  generalize x * 2 ^ k = w at h2 hr ⊢
  omega
theorem bs_div {x y : Int} (hx0 : 0 ≤ x) (hx : x ≤ 2147483647) (hy0 : 0 < y) (hy : y ≤ 2147483647) : (Int32.ofInt x / Int32.ofInt y).toInt = x / y := by
  have nx : sm_ni x := by unfold sm_ni; omega
  have ny : sm_ni y := by unfold sm_ni; omega
  rw [Int32.toInt_div, sm_ti nx, sm_ti ny, Int.tdiv_eq_ediv_of_nonneg hx0]
  have h1 : 0 ≤ x / y := Int.ediv_nonneg hx0 (by omega)
  have h2 : x / y ≤ x := Int.ediv_le_self y hx0
  exact Int.bmod_eq_of_le (by omega) (by omega)
theorem bs_rem {x y : Int} (hx0 : 0 ≤ x) (hx : x ≤ 2147483647) (hy0 : 0 < y) (hy : y ≤ 2147483647) : (Int32.ofInt x - Int32.ofInt x / Int32.ofInt y * Int32.ofInt y).toInt = x % y := by
  have e1 : Int32.ofInt x / Int32.ofInt y = Int32.ofInt (x / y) := by rw [← bs_div hx0 hx hy0 hy, Int32.ofInt_toInt]
  rw [e1, ← Int32.ofInt_mul, ← Int32.ofInt_sub]
  have h3 : x - x / y * y = x % y := by have := Int.emod_def x y; rw [Int.mul_comm] at this; omega
  rw [h3]
  have h4 : 0 ≤ x % y := Int.emod_nonneg x (by omega)
  have h5 : x % y < y := Int.emod_lt_of_pos x hy0
  exact sm_ti (by unfold sm_ni; omega)
