/-! numbers and single steps for walks -/
theorem ar_add {x y : Int} (h : sm_ni (x + y)) : (Int32.ofInt x + Int32.ofInt y).toInt = x + y := by rw [← Int32.ofInt_add, sm_ti h]
theorem ar_sub {x y : Int} (h : sm_ni (x - y)) : (Int32.ofInt x - Int32.ofInt y).toInt = x - y := by rw [← Int32.ofInt_sub, sm_ti h]
theorem ar_mul {x y : Int} (h : sm_ni (x * y)) : (Int32.ofInt x * Int32.ofInt y).toInt = x * y := by rw [← Int32.ofInt_mul, sm_ti h]
section ART
variable {P : sm_P} {d mid pc n0 a b v : Nat} {z : Int} {L : sm_L} {r : List sm_V} {S : sm_S} {Q : sm_R → Prop} {t i n : Nat} {k x y : Int}
theorem sm_T_br (hx : P.1 mid pc = some (18, 3, a, b, v, z)) (kt : sm_cnd a x y = true → sm_T P d mid (((pc : Int) + z).toNat, L, r, S) Q) (kf : sm_cnd a x y = false → sm_T P d mid (pc + 3, L, r, S) Q) : sm_T P d mid (pc, L, .inl y :: .inl x :: r, S) Q := by
  cases hc : sm_cnd a x y with
  | true => exact sm_T_stp hx (Nat.le_of_ble_eq_true rfl) (c1 := (((pc : Int) + z).toNat, L, r, S)) (by simp only [sm_stp, hc]; rfl) (kt hc)
  | false => exact sm_T_stp hx (Nat.le_of_ble_eq_true rfl) (c1 := (pc + 3, L, r, S)) (by simp only [sm_stp, hc]; rfl) (kf hc)
theorem sm_T_b0 (hx : P.1 mid pc = some (17, 3, a, b, v, z)) (kt : sm_cnd a x 0 = true → sm_T P d mid (((pc : Int) + z).toNat, L, r, S) Q) (kf : sm_cnd a x 0 = false → sm_T P d mid (pc + 3, L, r, S) Q) : sm_T P d mid (pc, L, .inl x :: r, S) Q := by
  cases hc : sm_cnd a x 0 with
  | true => exact sm_T_stp hx (Nat.le_of_ble_eq_true rfl) (c1 := (((pc : Int) + z).toNat, L, r, S)) (by simp only [sm_stp, hc]; rfl) (kt hc)
  | false => exact sm_T_stp hx (Nat.le_of_ble_eq_true rfl) (c1 := (pc + 3, L, r, S)) (by simp only [sm_stp, hc]; rfl) (kf hc)
theorem sm_T_iald (hx : P.1 mid pc = some (28, n0, a, b, v, z)) (hkd : sh_kd t = (1, 0, n)) (h0 : 0 ≤ k) (h1 : k < n) (kk : sm_T P d mid (pc + 1, L, .inl (S.2.2.1 t i k.toNat) :: r, S) Q) : sm_T P d mid (pc, L, .inl k :: .inr (.inr (some (t, i))) :: r, S) Q :=
  sm_T_stp hx (Nat.le_of_ble_eq_true rfl) (by simp only [sm_stp, hkd]; rw [if_pos (by simp [h0, h1])]) kk
theorem sm_T_bald (hx : P.1 mid pc = some (29, n0, a, b, v, z)) (hkd : sh_kd t = (2, 1, n)) (h0 : 0 ≤ k) (h1 : k < n) (kk : sm_T P d mid (pc + 1, L, .inl (S.2.2.1 t i k.toNat) :: r, S) Q) : sm_T P d mid (pc, L, .inl k :: .inr (.inr (some (t, i))) :: r, S) Q :=
  sm_T_stp hx (Nat.le_of_ble_eq_true rfl) (by simp only [sm_stp, hkd]; rw [if_pos (by simp [h0, h1])]) kk
theorem sm_T_zald (hx : P.1 mid pc = some (30, n0, a, b, v, z)) (hkd : sh_kd t = (3, 2, n)) (h0 : 0 ≤ k) (h1 : k < n) (kk : sm_T P d mid (pc + 1, L, .inl (S.2.2.1 t i k.toNat) :: r, S) Q) : sm_T P d mid (pc, L, .inl k :: .inr (.inr (some (t, i))) :: r, S) Q :=
  sm_T_stp hx (Nat.le_of_ble_eq_true rfl) (by simp only [sm_stp, hkd]; rw [if_pos (by simp [h0, h1])]) kk
theorem sm_T_lald (hx : P.1 mid pc = some (31, n0, a, b, v, z)) (hkd : sh_kd t = (4, 3, n)) (h0 : 0 ≤ k) (h1 : k < n) (kk : sm_T P d mid (pc + 1, L, .inr (.inl (S.2.2.2 t i k.toNat)) :: r, S) Q) : sm_T P d mid (pc, L, .inl k :: .inr (.inr (some (t, i))) :: r, S) Q :=
  sm_T_stp hx (Nat.le_of_ble_eq_true rfl) (by simp only [sm_stp, hkd]; rw [if_pos (by simp [h0, h1])]) kk
theorem sm_T_aald {t0 : Nat} (hx : P.1 mid pc = some (32, n0, a, b, v, z)) (hkd : sh_kd t = (5, t0, n)) (h0 : 0 ≤ k) (h1 : k < n) (kk : sm_T P d mid (pc + 1, L, .inr (.inr (some (sh_rk t, k.toNat))) :: r, S) Q) : sm_T P d mid (pc, L, .inl k :: .inr (.inr (some (t, i))) :: r, S) Q :=
  sm_T_stp hx (Nat.le_of_ble_eq_true rfl) (by simp only [sm_stp, hkd]; rw [if_pos (by simp [h0, h1])]) kk
theorem sm_T_iast (hx : P.1 mid pc = some (33, n0, a, b, v, z)) (hkd : sh_kd t = (1, 0, n)) (h0 : 0 ≤ k) (h1 : k < n) (kk : sm_T P d mid (pc + 1, L, r, sm_aI S t i k.toNat x) Q) : sm_T P d mid (pc, L, .inl x :: .inl k :: .inr (.inr (some (t, i))) :: r, S) Q :=
  sm_T_stp hx (Nat.le_of_ble_eq_true rfl) (by simp only [sm_stp, hkd]; rw [if_pos (by simp [h0, h1])]) kk
theorem sm_T_bast (hx : P.1 mid pc = some (34, n0, a, b, v, z)) (hkd : sh_kd t = (2, 1, n)) (h0 : 0 ≤ k) (h1 : k < n) (kk : sm_T P d mid (pc + 1, L, r, sm_aI S t i k.toNat (vp_nar .byte (Int32.ofInt x)).toInt) Q) : sm_T P d mid (pc, L, .inl x :: .inl k :: .inr (.inr (some (t, i))) :: r, S) Q :=
  sm_T_stp hx (Nat.le_of_ble_eq_true rfl) (by simp only [sm_stp, hkd]; rw [if_pos (by simp [h0, h1])]) kk
theorem sm_T_zast (hx : P.1 mid pc = some (35, n0, a, b, v, z)) (hkd : sh_kd t = (3, 2, n)) (h0 : 0 ≤ k) (h1 : k < n) (kk : sm_T P d mid (pc + 1, L, r, sm_aI S t i k.toNat (vp_nar .boolean (Int32.ofInt x)).toInt) Q) : sm_T P d mid (pc, L, .inl x :: .inl k :: .inr (.inr (some (t, i))) :: r, S) Q :=
  sm_T_stp hx (Nat.le_of_ble_eq_true rfl) (by simp only [sm_stp, hkd]; rw [if_pos (by simp [h0, h1])]) kk
theorem sm_T_last (hx : P.1 mid pc = some (36, n0, a, b, v, z)) (hkd : sh_kd t = (4, 3, n)) (h0 : 0 ≤ k) (h1 : k < n) (kk : sm_T P d mid (pc + 1, L, r, sm_aL S t i k.toNat x) Q) : sm_T P d mid (pc, L, .inr (.inl x) :: .inl k :: .inr (.inr (some (t, i))) :: r, S) Q :=
  sm_T_stp hx (Nat.le_of_ble_eq_true rfl) (by simp only [sm_stp, hkd]; rw [if_pos (by simp [h0, h1])]) kk
end ART
