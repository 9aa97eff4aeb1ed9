/-! bits of numbers -/
theorem bt_nat (v : Int32) : ((v.toBitVec).toNat : Int) = v.toInt % 4294967296 := by
  have h : v.toInt = v.toBitVec.toInt := rfl
  rw [h, BitVec.toInt_eq_toNat_cond]
  have := v.toBitVec.isLt
  split <;> omega
theorem bt_of (z : Int) : ((Int32.ofInt z).toBitVec.toNat : Int) = z % 4294967296 := by
  rw [bt_nat, Int32.toInt_ofInt]
  exact Int.bmod_emod (m := 4294967296)
/-- an int that is a natural number's bits, below 2 to the 31 -/
theorem bt_low {v : Int32} {n : Nat} (h : v.toBitVec.toNat = n) (hn : n < 2147483648) : v.toInt = (n : Int) := by
  have h1 : v.toInt = v.toBitVec.toInt := rfl
  rw [h1, BitVec.toInt_eq_toNat_of_lt (by omega), h]
theorem bt_and_nat {x y : Int} (hx0 : 0 ≤ x) (hx : x ≤ 2147483647) (hy0 : 0 ≤ y) (hy : y ≤ 2147483647) : (Int32.ofInt x &&& Int32.ofInt y).toInt = ((x.toNat &&& y.toNat : Nat) : Int) := by
  have e : (Int32.ofInt x &&& Int32.ofInt y).toBitVec.toNat = (Int32.ofInt x).toBitVec.toNat &&& (Int32.ofInt y).toBitVec.toNat := by rw [Int32.toBitVec_and, BitVec.toNat_and]
  have h1 := bt_of x
  have h2 := bt_of y
  have e1 : (Int32.ofInt x).toBitVec.toNat = x.toNat := by omega
  have e2 : (Int32.ofInt y).toBitVec.toNat = y.toNat := by omega
  rw [e1, e2] at e
  have hle : x.toNat &&& y.toNat ≤ y.toNat := Nat.and_le_right
  exact bt_low e (by omega)
theorem bt_or_nat {x y : Int} (hx0 : 0 ≤ x) (hx : x ≤ 2147483647) (hy0 : 0 ≤ y) (hy : y ≤ 2147483647) : (Int32.ofInt x ||| Int32.ofInt y).toInt = ((x.toNat ||| y.toNat : Nat) : Int) := by
  have e : (Int32.ofInt x ||| Int32.ofInt y).toBitVec.toNat = (Int32.ofInt x).toBitVec.toNat ||| (Int32.ofInt y).toBitVec.toNat := by rw [Int32.toBitVec_or, BitVec.toNat_or]
  have h1 := bt_of x
  have h2 := bt_of y
  have e1 : (Int32.ofInt x).toBitVec.toNat = x.toNat := by omega
  have e2 : (Int32.ofInt y).toBitVec.toNat = y.toNat := by omega
  rw [e1, e2] at e
  have hle : x.toNat ||| y.toNat < 2 ^ 31 := Nat.or_lt_two_pow (by omega) (by omega)
  exact bt_low e (by omega)
theorem bt_xor_nat {x y : Int} (hx0 : 0 ≤ x) (hx : x ≤ 2147483647) (hy0 : 0 ≤ y) (hy : y ≤ 2147483647) : (Int32.ofInt x ^^^ Int32.ofInt y).toInt = ((x.toNat ^^^ y.toNat : Nat) : Int) := by
  have e : (Int32.ofInt x ^^^ Int32.ofInt y).toBitVec.toNat = (Int32.ofInt x).toBitVec.toNat ^^^ (Int32.ofInt y).toBitVec.toNat := by rw [Int32.toBitVec_xor, BitVec.toNat_xor]
  have h1 := bt_of x
  have h2 := bt_of y
  have e1 : (Int32.ofInt x).toBitVec.toNat = x.toNat := by omega
  have e2 : (Int32.ofInt y).toBitVec.toNat = y.toNat := by omega
  rw [e1, e2] at e
  have hle : x.toNat ^^^ y.toNat < 2 ^ 31 := Nat.xor_lt_two_pow (by omega) (by omega)
  exact bt_low e (by omega)
/-- the lowest k bits -/
theorem bt_mask {k : Nat} {x : Int} (hk : k ≤ 31) : (Int32.ofInt x &&& Int32.ofInt (2 ^ k - 1)).toInt = x % 2 ^ k := by
  have hp : (2 : Nat) ^ k ≤ 2 ^ 31 := Nat.pow_le_pow_right (by decide) hk
  have hp1 : 0 < (2 : Nat) ^ k := Nat.pow_pos (by decide)
  have hpi : (2 : Int) ^ k = ((2 ^ k : Nat) : Int) := by push_cast; rfl
  have e : (Int32.ofInt x &&& Int32.ofInt (2 ^ k - 1)).toBitVec.toNat = (Int32.ofInt x).toBitVec.toNat &&& (Int32.ofInt (2 ^ k - 1)).toBitVec.toNat := by rw [Int32.toBitVec_and, BitVec.toNat_and]
  have h2 := bt_of (2 ^ k - 1)
  have e2 : (Int32.ofInt (2 ^ k - 1)).toBitVec.toNat = 2 ^ k - 1 := by rw [hpi] at h2 ⊢; omega
  rw [e2, Nat.and_two_pow_sub_one_eq_mod] at e
  have hlt : (Int32.ofInt x).toBitVec.toNat % 2 ^ k < 2 ^ k := Nat.mod_lt _ hp1
  rw [bt_low e (by omega), Int.natCast_emod, bt_of x, ← hpi]
  exact Int.emod_emod_of_dvd x (by
    obtain ⟨c, hc⟩ := Nat.pow_dvd_pow 2 (show k ≤ 32 by omega)
    have h32 : (4294967296 : Int) = ((2 ^ 32 : Nat) : Int) := rfl
    exact ⟨(c : Int), by rw [hpi, h32, hc, Int.natCast_mul]⟩)
