/-! letters packed by sevens and by eights -/
theorem lt_nat (v : Int64) : ((v.toBitVec).toNat : Int) = v.toInt % 18446744073709551616 := by
  have h : v.toInt = v.toBitVec.toInt := rfl
  rw [h, BitVec.toInt_eq_toNat_cond]
  have := v.toBitVec.isLt
  split <;> omega
theorem lt_of (z : Int) : ((Int64.ofInt z).toBitVec.toNat : Int) = z % 18446744073709551616 := by
  rw [lt_nat, Int64.toInt_ofInt]
  exact Int.bmod_emod (m := 18446744073709551616)
theorem lt_low {v : Int64} {n : Nat} (h : v.toBitVec.toNat = n) (hn : n < 9223372036854775808) : v.toInt = (n : Int) := by
  have h1 : v.toInt = v.toBitVec.toInt := rfl
  rw [h1, BitVec.toInt_eq_toNat_of_lt (by omega), h]
theorem l_or_nat {x y : Int} (hx0 : 0 ≤ x) (hx : x < 9223372036854775808) (hy0 : 0 ≤ y) (hy : y < 9223372036854775808) : l_4 x y = ((x.toNat ||| y.toNat : Nat) : Int) := by
  unfold l_4
  have e : (Int64.ofInt x ||| Int64.ofInt y).toBitVec.toNat = (Int64.ofInt x).toBitVec.toNat ||| (Int64.ofInt y).toBitVec.toNat := by rw [Int64.toBitVec_or, BitVec.toNat_or]
  have h1 := lt_of x
  have h2 := lt_of y
  have e1 : (Int64.ofInt x).toBitVec.toNat = x.toNat := by omega
  have e2 : (Int64.ofInt y).toBitVec.toNat = y.toNat := by omega
  rw [e1, e2] at e
  have hle : x.toNat ||| y.toNat < 2 ^ 63 := Nat.or_lt_two_pow (by omega) (by omega)
  exact lt_low e (by omega)
/-- the lower part beside a multiple -/
theorem l_or_add {x y : Int} {s : Nat} (hx0 : 0 ≤ x) (hy0 : 0 ≤ y) (hy : y < 2 ^ s) (hs : x + y < 9223372036854775808) (hd : ((2 : Int) ^ s) ∣ x) : l_4 x y = x + y := by
  rw [l_or_nat hx0 (by omega) hy0 (by omega)]
  obtain ⟨c, hc⟩ := hd
  have hp : (0 : Int) < 2 ^ s := pw_pos s
  have hc0 : 0 ≤ c := by
    by_cases q : 0 ≤ c
    · exact q
    · exfalso
      have : (2 : Int) ^ s * c < 0 := Int.mul_neg_of_pos_of_neg hp (by omega)
      omega
  obtain ⟨m, rfl⟩ : ∃ m : Nat, c = (m : Int) := ⟨c.toNat, by omega⟩
  have hpn : (2 : Int) ^ s = ((2 ^ s : Nat) : Int) := by push_cast; rfl
  have e1 : x.toNat = m <<< s := by
    rw [Nat.shiftLeft_eq, Nat.mul_comm]
    rw [hc, hpn]
    rw [← Int.natCast_mul, Int.toNat_natCast]
  have hyn : y.toNat < 2 ^ s := by
    have : ((y.toNat : Nat) : Int) < ((2 ^ s : Nat) : Int) := by rw [← hpn]; omega
    exact_mod_cast this
  rw [e1, ← Nat.shiftLeft_add_eq_or_of_lt hyn, ← e1]
  omega
theorem l_i2l_s {x : Int} (h0 : -2147483648 ≤ x) (h1 : x ≤ 2147483647) : l_i2l x = x := by
  unfold l_i2l
  rw [Int32.toInt_toInt64, sm_ti ⟨h0, h1⟩]
theorem l_amt : ∀ k, k < 64 → (((Int32.ofInt (k : Nat)).toInt64 &&& 63).toBitVec.smod 64).toNat = k := by decide +kernel
theorem l_shl {k : Nat} {x : Int} (hk : k < 64) (h0 : 0 ≤ x) (hr : x * 2 ^ k < 9223372036854775808) : l_s0 x (k : Nat) = x * 2 ^ k := by
  have hp : (0 : Int) < 2 ^ k := pw_pos k
  have hm : 0 ≤ x * 2 ^ k := Int.mul_nonneg h0 (by omega)
  have hx : x ≤ x * 2 ^ k := by
    have := Int.mul_le_mul_of_nonneg_left (show (1 : Int) ≤ 2 ^ k by omega) h0
    omega
  have h1 : (Int64.ofInt x <<< ((Int32.ofInt (k : Nat)).toInt64 &&& 63)).toBitVec.toNat = ((Int64.ofInt x).toBitVec <<< (((Int32.ofInt (k : Nat)).toInt64 &&& 63).toBitVec.smod 64).toNat).toNat := rfl
  rw [l_amt k hk, BitVec.toNat_shiftLeft, Nat.shiftLeft_eq] at h1
  have h3 := lt_of x
  have e1 : (Int64.ofInt x).toBitVec.toNat = x.toNat := by omega
  rw [e1] at h1
  have e2 : ((x.toNat * 2 ^ k : Nat) : Int) = x * 2 ^ k := by
    rw [Int.natCast_mul]
    rw [Int.toNat_of_nonneg h0]
    push_cast
    rfl
  have e3 : x.toNat * 2 ^ k < 2 ^ 63 := by
    have : ((x.toNat * 2 ^ k : Nat) : Int) < ((2 ^ 63 : Nat) : Int) := by rw [e2]; exact hr
    exact_mod_cast this
  rw [Nat.mod_eq_of_lt (by omega)] at h1
  unfold l_s0
  rw [lt_low h1 (by omega), e2]
/-- digits, the first one highest -/
def dg (B : Int) (f : Nat → Int) : Nat → Int
  | 0 => 0
  | i + 1 => B * dg B f i + f i
theorem dg_b {B : Int} {f : Nat → Int} (hB : 0 < B) : ∀ {i : Nat}, (∀ j, j < i → 0 ≤ f j ∧ f j < B) → 0 ≤ dg B f i ∧ dg B f i < B ^ i
  | 0, _ => ⟨Int.le_refl 0, by rw [Int.pow_zero]; show (0 : Int) < 1; omega⟩
  | i + 1, h => by
    have h1 := dg_b hB (i := i) (fun j hj => h j (by omega))
    have h2 := h i (by omega)
    unfold dg
    have a1 : 0 ≤ B * dg B f i := Int.mul_nonneg (by omega) h1.1
    have a2 : B * (dg B f i + 1) ≤ B * B ^ i := Int.mul_le_mul_of_nonneg_left (by omega) (by omega)
    rw [Int.mul_add, Int.mul_one] at a2
    rw [Int.pow_succ, Int.mul_comm (B ^ i) B]
    omega
theorem dg_inj {B : Int} {f g : Nat → Int} (hB : 0 < B) : ∀ {i : Nat}, (∀ j, j < i → 0 ≤ f j ∧ f j < B) → (∀ j, j < i → 0 ≤ g j ∧ g j < B) → dg B f i = dg B g i → ∀ j, j < i → f j = g j
  | 0, _, _, _, j, hj => absurd hj (Nat.not_lt_zero _)
  | i + 1, hf, hg, h, j, hj => by
    unfold dg at h
    have f1 := hf i (by omega)
    have g1 := hg i (by omega)
    have e1 : f i = g i := by
      have a := congrArg (· % B) h
      simp only [Int.mul_add_emod_self_left] at a
      rw [Int.emod_eq_of_lt f1.1 f1.2, Int.emod_eq_of_lt g1.1 g1.2] at a
      exact a
    have e2 : dg B f i = dg B g i := by
      rw [e1] at h
      exact Int.eq_of_mul_eq_mul_left (by omega) (show B * dg B f i = B * dg B g i by omega)
    by_cases q : j = i
    · rw [q]; exact e1
    · exact dg_inj hB (fun j hj => hf j (by omega)) (fun j hj => hg j (by omega)) e2 j (by omega)
theorem lx_pk_v {b : Nat → Int} {p : Nat} : ∀ {k : Nat}, k ≤ 8 → (∀ j, j < k → 0 ≤ b (p + j) ∧ b (p + j) < 128) → lx_pk b p k = dg 128 (fun j => b (p + j)) k
  | 0, _, _ => rfl
  | k + 1, hk, h => by
    have i1 := lx_pk_v (k := k) (by omega) (fun j hj => h j (by omega))
    have h1 := dg_b (B := 128) (f := fun j => b (p + j)) (by decide) (i := k) (fun j hj => h j (by omega))
    have h2 := h k (by omega)
    have h3 : (128 : Int) ^ k ≤ 128 ^ 7 := by exact_mod_cast Nat.pow_le_pow_right (by decide) (show k ≤ 7 by omega)
    have h4 : (128 : Int) ^ 7 = 562949953421312 := by decide
    unfold lx_pk dg
    rw [if_pos (by omega), i1, l_i2l_s (by omega) (by omega)]
    have e1 : l_s0 (dg 128 (fun j => b (p + j)) k) 7 = dg 128 (fun j => b (p + j)) k * 2 ^ 7 := l_shl (k := 7) (by decide) h1.1 (by omega)
    rw [e1, l_or_add (s := 7) (by omega) h2.1 (by have : (2 : Int) ^ 7 = 128 := by decide
                                                  omega) (by omega) ⟨dg 128 (fun j => b (p + j)) k, by omega⟩]
    omega
theorem rk_step {D c : Int} {s : Nat} (hs : s < 64) (hc0 : 0 ≤ c) (hc : c < 128) (hD : 0 ≤ D) (hb : (256 * D + c) * 2 ^ s < 9223372036854775808) : l_4 (D * 2 ^ (s + 8)) (l_s0 c (s : Nat)) = (256 * D + c) * 2 ^ s := by
  have hp : (0 : Int) < 2 ^ s := pw_pos s
  have e0 : (2 : Int) ^ (s + 8) = 256 * 2 ^ s := by rw [pw_add, Int.mul_comm]; rfl
  have e1 : (256 * D + c) * 2 ^ s = D * (256 * 2 ^ s) + c * 2 ^ s := by rw [Int.add_mul, Int.mul_comm 256 D, Int.mul_assoc]
  have h1 : 0 ≤ c * 2 ^ s := Int.mul_nonneg hc0 (by omega)
  have h2 : 0 ≤ D * (256 * 2 ^ s) := Int.mul_nonneg hD (by omega)
  have h3 : c * 2 ^ s ≤ 127 * 2 ^ s := Int.mul_le_mul_of_nonneg_right (by omega) (by omega)
  rw [l_shl hs hc0 (by omega), e0, l_or_add (s := s + 8) h2 h1 (by rw [e0]; omega) (by omega) (by rw [e0]; exact ⟨D, Int.mul_comm _ _⟩), e1]
theorem dg_h {f : Nat → Int} : ∀ {i : Nat}, (∀ j, j < i → 0 ≤ f j ∧ f j < 128) → 2 * dg 256 f i + 1 ≤ 256 ^ i
  | 0, _ => by show (2 : Int) * 0 + 1 ≤ 1; omega
  | i + 1, h => by
    have h1 := dg_h (i := i) (fun j hj => h j (by omega))
    have h2 := h i (by omega)
    unfold dg
    rw [Int.pow_succ]
    omega
/-- the reference's first eight letters, the next four -/
def rk1 (b : Nat → Int) (p : Nat) : Nat → Int
  | 0 => 0
  | i + 1 => if i < 8 then l_4 (rk1 b p i) (l_s0 (l_i2l (b (p + i))) (56 - 8 * i)) else rk1 b p i
def rk2 (b : Nat → Int) (p : Nat) : Nat → Int
  | 0 => 0
  | i + 1 => if 8 ≤ i ∧ i < 12 then i_or (rk2 b p i) (i_shl (b (p + i)) (24 - 8 * (i - 8))) else rk2 b p i
theorem rk1_v {b : Nat → Int} {p : Nat} : ∀ {i : Nat}, i ≤ 8 → (∀ j, j < i → 0 ≤ b (p + j) ∧ b (p + j) < 128) → rk1 b p i = dg 256 (fun j => b (p + j)) i * 2 ^ (64 - 8 * i)
  | 0, _, _ => by show (0 : Int) = 0 * _; rw [Int.zero_mul]
  | i + 1, hi, h => by
    have i1 := rk1_v (i := i) (by omega) (fun j hj => h j (by omega))
    have h1 := dg_b (B := 256) (f := fun j => b (p + j)) (by decide) (i := i) (fun j hj => by have := h j (by omega); omega)
    have h2 := h i (by omega)
    have h3 := dg_h (f := fun j => b (p + j)) (i := i + 1) h
    obtain ⟨s, hs⟩ : ∃ s : Nat, s = 56 - 8 * i := ⟨_, rfl⟩
    have e1 : (56 : Int) - 8 * (i : Int) = (s : Nat) := by omega
    have e2 : 64 - 8 * i = s + 8 := by omega
    have e3 : 64 - 8 * (i + 1) = s := by omega
    have e4 : (256 : Int) ^ (i + 1) * 2 ^ s = 18446744073709551616 := by
      have a1 : (256 : Int) = 2 ^ 8 := by decide
      rw [a1, ← Int.pow_mul, ← pw_add, show 8 * (i + 1) + s = 64 by omega]
      decide
    unfold dg at h3 ⊢
    conv => lhs; unfold rk1
    rw [if_pos (by omega), i1, l_i2l_s (by omega) (by omega), e1, e2, e3]
    refine rk_step (by omega) h2.1 h2.2 h1.1 ?_
    have hp : (0 : Int) < 2 ^ s := pw_pos s
    have a2 : (2 * (256 * dg 256 (fun j => b (p + j)) i + b (p + i)) + 1) * 2 ^ s ≤ 256 ^ (i + 1) * 2 ^ s := Int.mul_le_mul_of_nonneg_right h3 (by omega)
    rw [e4, Int.add_mul, Int.mul_assoc] at a2
    omega
theorem rk1_8 {b : Nat → Int} {p : Nat} : ∀ {i : Nat}, 8 ≤ i → rk1 b p i = rk1 b p 8
  | 0, h => by omega
  | i + 1, h => by
    by_cases q : i + 1 = 8
    · rw [q]
    · conv => lhs; unfold rk1
      rw [if_neg (by omega)]
      exact rk1_8 (by omega)
/-- eight digits, those behind a name's end are 0 -/
def f8 (b : Nat → Int) (p L j : Nat) : Int := if j < L then b (p + j) else 0
theorem dg_cg {B : Int} {f g : Nat → Int} : ∀ {i : Nat}, (∀ j, j < i → f j = g j) → dg B f i = dg B g i
  | 0, _ => rfl
  | i + 1, h => by
    unfold dg
    rw [dg_cg (fun j hj => h j (by omega)), h i (by omega)]
theorem dg_z {B : Int} {f : Nat → Int} {L : Nat} : ∀ {i : Nat}, L ≤ i → (∀ j, L ≤ j → j < i → f j = 0) → dg B f i = dg B f L * B ^ (i - L)
  | 0, h, _ => by
    have : L = 0 := by omega
    subst this
    show (0 : Int) = 0 * _
    rw [Int.zero_mul]
  | i + 1, h, hz => by
    by_cases q : L = i + 1
    · subst q
      rw [Nat.sub_self, Int.pow_zero, Int.mul_one]
    · conv => lhs; unfold dg
      rw [dg_z (i := i) (by omega) (fun j a c => hz j a (by omega)), hz i (by omega) (by omega), show i + 1 - L = (i - L) + 1 by omega, Int.pow_succ]
      rw [Int.add_zero, Int.mul_comm B, Int.mul_assoc]
theorem rk1_f {b : Nat → Int} {p L : Nat} (h : ∀ j, j < L → 0 ≤ b (p + j) ∧ b (p + j) < 128) : rk1 b p L = dg 256 (f8 b p L) 8 := by
  by_cases q : L ≤ 8
  · rw [rk1_v q h, dg_z (L := L) q (fun j a _ => by unfold f8; exact if_neg (by omega)), dg_cg (f := f8 b p L) (g := fun j => b (p + j)) (fun j hj => by unfold f8; exact if_pos hj)]
    have a1 : (256 : Int) = 2 ^ 8 := by decide
    conv => rhs; rw [a1]
    rw [← Int.pow_mul, show 8 * (8 - L) = 64 - 8 * L by omega]
    rfl
  · rw [rk1_8 (by omega), rk1_v (Nat.le_refl 8) (fun j hj => h j (by omega))]
    rw [dg_cg (f := f8 b p L) (g := fun j => b (p + j)) (fun j hj => by unfold f8; exact if_pos (by omega))]
    show _ * (1 : Int) = _
    rw [Int.mul_one]
theorem i_or_add {x y : Int} {s : Nat} (hx0 : 0 ≤ x) (hy0 : 0 ≤ y) (hy : y < 2 ^ s) (hs : x + y ≤ 2147483647) (hd : ((2 : Int) ^ s) ∣ x) : i_or x y = x + y := by
  have h0 : i_or x y = ((x.toNat ||| y.toNat : Nat) : Int) := bt_or_nat hx0 (by omega) hy0 (by omega)
  rw [h0]
  obtain ⟨c, hc⟩ := hd
  have hp : (0 : Int) < 2 ^ s := pw_pos s
  have hc0 : 0 ≤ c := by
    by_cases q : 0 ≤ c
    · exact q
    · exfalso
      have : (2 : Int) ^ s * c < 0 := Int.mul_neg_of_pos_of_neg hp (by omega)
      omega
  obtain ⟨m, rfl⟩ : ∃ m : Nat, c = (m : Int) := ⟨c.toNat, by omega⟩
  have hpn : (2 : Int) ^ s = ((2 ^ s : Nat) : Int) := by push_cast; rfl
  have e1 : x.toNat = m <<< s := by
    rw [Nat.shiftLeft_eq, Nat.mul_comm]
    rw [hc, hpn]
    rw [← Int.natCast_mul, Int.toNat_natCast]
  have hyn : y.toNat < 2 ^ s := by
    have : ((y.toNat : Nat) : Int) < ((2 ^ s : Nat) : Int) := by rw [← hpn]; omega
    exact_mod_cast this
  rw [e1, ← Nat.shiftLeft_add_eq_or_of_lt hyn, ← e1]
  omega
theorem rk2_step {D c : Int} {s : Nat} (hs : s < 32) (hc0 : 0 ≤ c) (hc : c < 128) (hD : 0 ≤ D) (hb : (256 * D + c) * 2 ^ s ≤ 2147483647) : i_or (D * 2 ^ (s + 8)) (i_shl c (s : Nat)) = (256 * D + c) * 2 ^ s := by
  have hp : (0 : Int) < 2 ^ s := pw_pos s
  have e0 : (2 : Int) ^ (s + 8) = 256 * 2 ^ s := by rw [pw_add, Int.mul_comm]; rfl
  have e1 : (256 * D + c) * 2 ^ s = D * (256 * 2 ^ s) + c * 2 ^ s := by rw [Int.add_mul, Int.mul_comm 256 D, Int.mul_assoc]
  have h1 : 0 ≤ c * 2 ^ s := Int.mul_nonneg hc0 (by omega)
  have h2 : 0 ≤ D * (256 * 2 ^ s) := Int.mul_nonneg hD (by omega)
  have h3 : c * 2 ^ s ≤ 127 * 2 ^ s := Int.mul_le_mul_of_nonneg_right (by omega) (by omega)
  have e2 : i_shl c (s : Nat) = c * 2 ^ s := bs_shl hs ⟨by omega, by omega⟩
  rw [e2, e0, i_or_add (s := s + 8) h2 h1 (by rw [e0]; omega) (by omega) (by rw [e0]; exact ⟨D, Int.mul_comm _ _⟩), e1]
theorem rk2_0 {b : Nat → Int} {p : Nat} : ∀ {i : Nat}, i ≤ 8 → rk2 b p i = 0
  | 0, _ => rfl
  | i + 1, h => by
    unfold rk2
    rw [if_neg (by omega)]
    exact rk2_0 (by omega)
theorem rk2_v {b : Nat → Int} {p : Nat} : ∀ {i : Nat}, i ≤ 4 → (∀ j, j < i → 0 ≤ b (p + 8 + j) ∧ b (p + 8 + j) < 128) → rk2 b p (8 + i) = dg 256 (fun j => b (p + 8 + j)) i * 2 ^ (32 - 8 * i)
  | 0, _, _ => by rw [rk2_0 (by omega)]; show (0 : Int) = 0 * _; rw [Int.zero_mul]
  | i + 1, hi, h => by
    have i1 := rk2_v (i := i) (by omega) (fun j hj => h j (by omega))
    have h1 := dg_b (B := 256) (f := fun j => b (p + 8 + j)) (by decide) (i := i) (fun j hj => by have := h j (by omega); omega)
    have h2 := h i (by omega)
    have h3 := dg_h (f := fun j => b (p + 8 + j)) (i := i + 1) h
    obtain ⟨s, hs⟩ : ∃ s : Nat, s = 24 - 8 * i := ⟨_, rfl⟩
    have e1 : (24 : Int) - 8 * (((8 + i : Nat) : Int) - 8) = (s : Nat) := by omega
    have e2 : 32 - 8 * i = s + 8 := by omega
    have e3 : 32 - 8 * (i + 1) = s := by omega
    have e4 : (256 : Int) ^ (i + 1) * 2 ^ s = 4294967296 := by
      have a1 : (256 : Int) = 2 ^ 8 := by decide
      rw [a1, ← Int.pow_mul, ← pw_add, show 8 * (i + 1) + s = 32 by omega]
      decide
    rw [show 8 + (i + 1) = (8 + i) + 1 by omega]
    unfold dg at h3 ⊢
    conv => lhs; unfold rk2
    rw [if_pos (by omega), i1, e1, e2, e3, show p + (8 + i) = p + 8 + i by omega]
    refine rk2_step (by omega) h2.1 h2.2 h1.1 ?_
    have hp : (0 : Int) < 2 ^ s := pw_pos s
    have a2 : (2 * (256 * dg 256 (fun j => b (p + 8 + j)) i + b (p + 8 + i)) + 1) * 2 ^ s ≤ 256 ^ (i + 1) * 2 ^ s := Int.mul_le_mul_of_nonneg_right h3 (by omega)
    rw [e4, Int.add_mul, Int.mul_assoc] at a2
    omega
theorem rk2_f {b : Nat → Int} {p L : Nat} (hL : L ≤ 12) (h : ∀ j, j < L → 0 ≤ b (p + j) ∧ b (p + j) < 128) : rk2 b p L = dg 256 (fun j => f8 b p L (8 + j)) 4 := by
  by_cases q : L ≤ 8
  · rw [rk2_0 q]
    have : dg 256 (fun j => f8 b p L (8 + j)) 4 = dg 256 (fun _ => 0) 4 := dg_cg (fun j hj => by show f8 b p L (8 + j) = 0; unfold f8; exact if_neg (by omega))
    rw [this]
    rfl
  · obtain ⟨i, rfl⟩ : ∃ i, L = 8 + i := ⟨L - 8, by omega⟩
    rw [rk2_v (i := i) (by omega) (fun j hj => by have := h (8 + j) (by omega); rw [← Nat.add_assoc] at this; exact this)]
    rw [dg_z (L := i) (i := 4) (by omega) (fun j a _ => by show f8 b p _ (8 + j) = 0; unfold f8; exact if_neg (by omega))]
    rw [dg_cg (f := fun j => f8 b p (8 + i) (8 + j)) (g := fun j => b (p + 8 + j)) (fun j hj => by show f8 b p _ (8 + j) = _; unfold f8; rw [if_pos (by omega), ← Nat.add_assoc])]
    have a1 : (256 : Int) = 2 ^ 8 := by decide
    conv => rhs; rw [a1]
    rw [← Int.pow_mul, show 8 * (4 - i) = 32 - 8 * i by omega]
    rfl
/-- two names are the same if both numbers are -/
theorem rk_eq {b : Nat → Int} {p q L M : Nat} (hL : L ≤ 12) (hM : M ≤ 12) (h : ∀ j, j < L → 1 ≤ b (p + j) ∧ b (p + j) < 128) (g : ∀ j, j < M → 1 ≤ b (q + j) ∧ b (q + j) < 128) : (rk1 b p L = rk1 b q M ∧ rk2 b p L = rk2 b q M) ↔ (L = M ∧ ∀ j, j < L → b (p + j) = b (q + j)) := by
  have h' : ∀ j, j < L → 0 ≤ b (p + j) ∧ b (p + j) < 128 := fun j hj => by have := h j hj; omega
  have g' : ∀ j, j < M → 0 ≤ b (q + j) ∧ b (q + j) < 128 := fun j hj => by have := g j hj; omega
  have bp : ∀ j, 0 ≤ f8 b p L j ∧ f8 b p L j < 256 := fun j => by
    unfold f8
    split
    · rename_i hj; have := h j hj; omega
    · omega
  have bq : ∀ j, 0 ≤ f8 b q M j ∧ f8 b q M j < 256 := fun j => by
    unfold f8
    split
    · rename_i hj; have := g j hj; omega
    · omega
  rw [rk1_f h', rk1_f g', rk2_f hL h', rk2_f hM g']
  constructor
  · rintro ⟨e1, e2⟩
    have d1 := dg_inj (by decide) (fun j _ => bp j) (fun j _ => bq j) e1
    have d2 := dg_inj (by decide) (fun j _ => bp (8 + j)) (fun j _ => bq (8 + j)) e2
    have d : ∀ j, j < 12 → f8 b p L j = f8 b q M j := fun j hj => by
      by_cases c : j < 8
      · exact d1 j c
      · have := d2 (j - 8) (by omega)
        rw [show 8 + (j - 8) = j by omega] at this
        exact this
    have hLM : L = M := by
      by_cases c : L < M
      · exfalso
        have := d L (by omega)
        have hg := g L c
        unfold f8 at this
        rw [if_neg (by omega), if_pos c] at this
        omega
      · by_cases c2 : M < L
        · exfalso
          have := d M (by omega)
          have hh := h M c2
          unfold f8 at this
          rw [if_pos c2, if_neg (by omega)] at this
          omega
        · omega
    refine ⟨hLM, fun j hj => ?_⟩
    have := d j (by omega)
    unfold f8 at this
    rw [if_pos hj, if_pos (by omega)] at this
    exact this
  · rintro ⟨rfl, e⟩
    have d : ∀ j, f8 b p L j = f8 b q L j := fun j => by
      unfold f8
      split
      · rename_i hj; exact e j hj
      · rfl
    exact ⟨dg_cg (fun j _ => d j), dg_cg (fun j _ => d (8 + j))⟩
theorem dg_lo {B : Int} {f : Nat → Int} (hB : 0 < B) : ∀ {i : Nat}, (∀ j, j < i + 1 → 1 ≤ f j ∧ f j < B) → B ^ i ≤ dg B f (i + 1)
  | 0, h => by
    have := h 0 (by omega)
    rw [Int.pow_zero]
    show (1 : Int) ≤ B * 0 + f 0
    omega
  | i + 1, h => by
    have h1 := dg_lo hB (i := i) (fun j hj => h j (by omega))
    have h2 := h (i + 1) (by omega)
    unfold dg
    have : B * B ^ i ≤ B * dg B f (i + 1) := Int.mul_le_mul_of_nonneg_left h1 (by omega)
    rw [Int.pow_succ, Int.mul_comm]
    omega
theorem dg_len {B : Int} {f g : Nat → Int} {L M : Nat} (hB : 1 < B) (hf : ∀ j, j < L → 1 ≤ f j ∧ f j < B) (hg : ∀ j, j < M → 1 ≤ g j ∧ g j < B) (e : dg B f L = dg B g M) : L = M := by
  have key : ∀ {f g : Nat → Int} {L M : Nat}, (∀ j, j < L → 1 ≤ f j ∧ f j < B) → (∀ j, j < M → 1 ≤ g j ∧ g j < B) → L < M → dg B f L < dg B g M := by
    intro f g L M hf hg hlt
    obtain ⟨m, rfl⟩ : ∃ m, M = m + 1 := ⟨M - 1, by omega⟩
    have a1 := (dg_b (B := B) (f := f) (by omega) (i := L) (fun j hj => by have := hf j hj; omega)).2
    have a2 := dg_lo (B := B) (f := g) (by omega) (i := m) hg
    have a3 : B ^ L ≤ B ^ m := by
      obtain ⟨c, rfl⟩ : ∃ c : Nat, B = (c : Int) := ⟨B.toNat, by omega⟩
      exact_mod_cast Nat.pow_le_pow_right (by omega) (show L ≤ m by omega)
    omega
  by_cases c : L < M
  · have := key hf hg c; omega
  · by_cases c2 : M < L
    · have := key hg hf c2; omega
    · omega
abbrev wsp (b : Nat → Int) (p L : Nat) (l : List Int) : Prop := L = l.length ∧ ∀ j, j < L → b (p + j) = l.getD j 0
def wch : List (List Int) := [[109, 111, 100, 117, 108, 101], [105, 110], [111, 117, 116], [108, 101, 116], [114, 101, 103], [117, 115, 101], [99, 101, 108, 108]]
/-- a word's number in the reference -/
def wcs : List Int := [7885631928041537536, 7597009621420605440, 8031453053833969664, 7810776672092815360, 8243107942669221888, 8463219175433699328, 7162249993514909696]
def wo (x : Int) : Nat → Int
  | 0 => 0
  | k + 1 => if x = wcs.getD (7 - (k + 1)) 0 then 7 - k else wo x k
theorem wch_b : ∀ k, k < 7 → ∀ j, j < (wch.getD k []).length → 1 ≤ (wch.getD k []).getD j 0 ∧ (wch.getD k []).getD j 0 < 128 := by decide +kernel
theorem wch_l : ∀ k, k < 7 → (wch.getD k []).length ≤ 8 := by decide +kernel
theorem wch_7 : ∀ k, k < 7 → lx_ws.getD k 0 = dg 128 (fun j => (wch.getD k []).getD j 0) (wch.getD k []).length := by decide +kernel
theorem wch_8 : ∀ k, k < 7 → wcs.getD k 0 = dg 256 (fun j => (wch.getD k []).getD j 0) 8 := by decide +kernel
section WRD
variable {b : Nat → Int} {p L : Nat}
theorem w_cls {k : Nat} (hk : k < 7) (h : ∀ j, j < L → 1 ≤ b (p + j) ∧ b (p + j) < 128) : lx_pk b p L = lx_ws.getD k 0 ↔ wsp b p L (wch.getD k []) := by
  have hb := wch_b k hk
  by_cases q : L ≤ 8
  · rw [lx_pk_v q (fun j hj => by have := h j hj; omega), wch_7 k hk]
    constructor
    · intro e
      have hl := dg_len (by decide) h hb e
      refine ⟨hl, fun j hj => ?_⟩
      rw [← hl] at e
      exact dg_inj (by decide) (fun j hj => by have := h j hj; omega) (fun j hj => by have := hb j (by omega); omega) e j hj
    · rintro ⟨hl, e⟩
      rw [← hl]
      exact dg_cg e
  · constructor
    · intro e
      exfalso
      obtain ⟨m, rfl⟩ : ∃ m, L = m + 1 := ⟨L - 1, by omega⟩
      unfold lx_pk at e
      rw [if_neg (by omega)] at e
      have : ∀ k, k < 7 → (0 : Int) ≠ lx_ws.getD k 0 := by decide +kernel
      exact this k hk e
    · rintro ⟨hl, _⟩
      have := wch_l k hk
      omega
theorem w_ref {k : Nat} (hk : k < 7) (hL : L ≤ 12) (h : ∀ j, j < L → 1 ≤ b (p + j) ∧ b (p + j) < 128) : (rk2 b p L = 0 ∧ rk1 b p L = wcs.getD k 0) ↔ wsp b p L (wch.getD k []) := by
  have hb := wch_b k hk
  have hl8 := wch_l k hk
  have h' : ∀ j, j < L → 0 ≤ b (p + j) ∧ b (p + j) < 128 := fun j hj => by have := h j hj; omega
  have bp : ∀ j, 0 ≤ f8 b p L j ∧ f8 b p L j < 256 := fun j => by
    unfold f8
    split
    · rename_i hj; have := h j hj; omega
    · omega
  have bw : ∀ j, 0 ≤ (wch.getD k []).getD j 0 ∧ (wch.getD k []).getD j 0 < 256 := fun j => by
    by_cases q : j < (wch.getD k []).length
    · have := hb j q; omega
    · rw [List.getD_eq_getElem?_getD, List.getElem?_eq_none (by omega)]
      decide
  have bz : ∀ j, (wch.getD k []).length ≤ j → (wch.getD k []).getD j 0 = 0 := fun j hj => by
    rw [List.getD_eq_getElem?_getD, List.getElem?_eq_none hj]
    rfl
  have z4 : (0 : Int) = dg 256 (fun _ => 0) 4 := rfl
  rw [rk1_f h', rk2_f hL h', wch_8 k hk]
  constructor
  · rintro ⟨e2, e1⟩
    rw [z4] at e2
    have d1 := dg_inj (by decide) (fun j _ => bp j) (fun j _ => bw j) e1
    have d2 := dg_inj (by decide) (fun j _ => bp (8 + j)) (fun j _ => by decide) e2
    have hL8 : L ≤ 8 := by
      by_cases c : L ≤ 8
      · exact c
      · exfalso
        have := d2 0 (by omega)
        have hh := h 8 (by omega)
        unfold f8 at this
        rw [if_pos (by omega)] at this
        have : b (p + (8 + 0)) = 0 := this
        rw [Nat.add_zero] at this
        omega
    have hl : L = (wch.getD k []).length := by
      by_cases c : L < (wch.getD k []).length
      · exfalso
        have := d1 L (by omega)
        have hg := hb L c
        unfold f8 at this
        rw [if_neg (by omega)] at this
        omega
      · by_cases c2 : (wch.getD k []).length < L
        · exfalso
          have := d1 _ (show (wch.getD k []).length < 8 by omega)
          have hh := h _ c2
          rw [bz _ (Nat.le_refl _)] at this
          unfold f8 at this
          rw [if_pos c2] at this
          omega
        · omega
    refine ⟨hl, fun j hj => ?_⟩
    have := d1 j (by omega)
    unfold f8 at this
    rw [if_pos hj] at this
    exact this
  · rintro ⟨hl, e⟩
    refine ⟨?_, dg_cg (fun j _ => ?_)⟩
    · rw [z4]
      refine dg_cg (fun j _ => ?_)
      show f8 b p L (8 + j) = 0
      unfold f8
      exact if_neg (by omega)
    · unfold f8
      split
      · rename_i hj; exact e j hj
      · exact (bz j (by omega)).symm
/-- both sides see the same words -/
theorem w_both (hL : L ≤ 12) (h : ∀ j, j < L → 1 ≤ b (p + j) ∧ b (p + j) < 128) : (if rk2 b p L = 0 then wo (rk1 b p L) 7 else 0) = if lx_wk (lx_pk b p L) 7 = 1 then 0 else lx_wk (lx_pk b p L) 7 - 2 := by
  have a : ∀ k, k < 7 → ((rk2 b p L = 0 ∧ rk1 b p L = wcs.getD k 0) ↔ lx_pk b p L = lx_ws.getD k 0) := fun k hk => (w_ref hk hL h).trans (w_cls hk h).symm
  have dl : ∀ i, i < 7 → ∀ j, j < 7 → lx_ws.getD i 0 = lx_ws.getD j 0 → i = j := by decide +kernel
  generalize rk2 b p L = y at a ⊢
  generalize rk1 b p L = x at a ⊢
  generalize lx_pk b p L = z at a ⊢
  by_cases q : ∃ k, k < 7 ∧ z = lx_ws.getD k 0
  · obtain ⟨k, hk, hz⟩ := q
    have hx := (a k hk).mpr hz
    rw [if_pos hx.1, hx.2, hz]
    have : ∀ k, k < 7 → wo (wcs.getD k 0) 7 = if lx_wk (lx_ws.getD k 0) 7 = 1 then 0 else lx_wk (lx_ws.getD k 0) 7 - 2 := by decide +kernel
    exact this k hk
  · have hn : ∀ k, k < 7 → z ≠ lx_ws.getD k 0 := fun k hk e => q ⟨k, hk, e⟩
    have e1 : lx_wk z 7 = 1 := by
      have n0 := hn 0 (by decide); have n1 := hn 1 (by decide); have n2 := hn 2 (by decide); have n3 := hn 3 (by decide); have n4 := hn 4 (by decide); have n5 := hn 5 (by decide); have n6 := hn 6 (by decide)
      simp only [lx_wk]
      rw [if_neg n6, if_neg n5, if_neg n4, if_neg n3, if_neg n2, if_neg n1, if_neg n0]
    rw [e1, if_pos rfl]
    split
    · rename_i hy
      have hm : ∀ k, k < 7 → x ≠ wcs.getD k 0 := fun k hk e => hn k hk ((a k hk).mp ⟨hy, e⟩)
      have n0 := hm 0 (by decide); have n1 := hm 1 (by decide); have n2 := hm 2 (by decide); have n3 := hm 3 (by decide); have n4 := hm 4 (by decide); have n5 := hm 5 (by decide); have n6 := hm 6 (by decide)
      simp only [wo]
      rw [if_neg n0, if_neg n1, if_neg n2, if_neg n3, if_neg n4, if_neg n5, if_neg n6]
    · rfl
end WRD
