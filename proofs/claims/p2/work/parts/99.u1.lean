/-! intervals of fields and of arrays; written by wip/p55/gen/vg/u1.py -/
def cap_FL : List (List (Int × Int)) := [[(0, 60), (0, 12), (0, 38), (0, 0), (0, 0), (0, 0), (0, 0), (0, 0), (0, 0), (0, 0), (0, 0), (0, 1), (0, 0), (0, 0), (0, 0), (0, 0), ((-2147483648), 2147483647), (0, 0), (0, 8)], [(0, 0), (0, 0), (0, 0), (0, 201), (0, 0), (0, 0), (0, 512), (0, 0), (0, 1), (0, 6), (0, 0), (0, 0), (0, 0), (0, 64), (0, 0)], [(0, 1), (0, 12), (0, 6), (0, 16), (0, 63), (0, 63), (0, 0), (0, 0), (0, 150), (0, 0), (0, 0), (0, 0), (0, 0), (0, 0), (0, 40), ((-1), 1224), (0, 0), (0, 0), (0, 0), ((-2147483648), 2147483647)], [(0, 1), (0, 320), (0, 100000), (0, 320), (0, 1013), (0, 63), (0, 63), (0, 1000), (0, 1000), (0, 64), (0, 0), (0, 0), (0, 0), (0, 0), (0, 0), (0, 0)], [(0, 1), (0, 2000), (0, 0), (0, 1073741823), (0, 1073741823), (0, 100000), (0, 2652), ((-700), 2000), (0, 2000), (0, 1), (0, 1), (0, 1), (0, 0), (0, 0), (0, 0), (0, 0), (0, 0), (0, 0)], [(0, 1), (0, 12), ((-1), 11), (0, 0), (0, 0), (0, 0), (0, 0)], [(0, 0), (0, 0), (0, 0), (0, 0), (0, 0), (0, 0), (0, 0), (0, 0), (0, 0), (0, 0), (0, 0), (0, 1024), (0, 0), (0, 4), (0, 0), (0, 0), (0, 0), (0, 0), (0, 0)], [(0, 0), (0, 0), (0, 65536), (0, 16), (0, 0), (0, 0), (0, 0), (0, 0), (0, 0), (0, 0), (0, 0), (0, 0), (0, 0), (0, 0), (0, 488), (0, 0), (0, 488), (0, 60)], [(0, 0), (0, 62), (0, 2356), (0, 0), (0, 0), (0, 0), (0, 4712), (0, 0), (0, 4712), (0, 0), (0, 0), (0, 4712), (0, 0), (0, 162)], [(0, 0), ((-2147483648), 2147483647), (0, 64), (0, 0), (0, 0), (0, 0), (0, 0), (0, 0), (0, 0), (0, 0)], [(0, 0), (0, 1280), ((-128), 257), (0, 1280), (0, 1280), (0, 999999), (0, 23), (0, 4095), (0, 1280)], [(0, 0), (0, 0), (0, 0), (0, 0), ((-2147483648), 2147483647), (0, 41), (0, 0), (0, 0), (0, 0), (0, 0), (0, 0), (0, 152), (0, 0), ((-2147483648), 2147483647), (0, 4095), (0, 4095), (0, 1), (0, 0), (0, 0), (0, 0)], [(0, 0), (0, 0), (0, 0), (0, 0), (0, 0), (0, 0), (0, 0), (0, 0), (0, 0), (0, 0), (0, 23), (0, 0), (0, 0), (0, 0), (0, 0), (0, 0), (0, 4096)], [(0, 4), (0, 0), (0, 1280), (0, 1280), (0, 0), (0, 0), (0, 0), (0, 0), (0, 0), (0, 1280), (0, 23), (0, 4095), (0, 16), (0, 0), (0, 0), (0, 0), (0, 0), (0, 0), (0, 0), (0, 0), (0, 0), (0, 0), (0, 0), (0, 0), (0, 0), (0, 1280), ((-2147483648), 2147483647), (0, 2), (0, 15), (0, 16), (0, 0), (0, 0), (0, 1023), (0, 60), (0, 1023), (0, 0), (0, 0), (0, 1014), (0, 19), (0, 6), (0, 0), (0, 0), (0, 0), (0, 0), (0, 0), (0, 0), (0, 0), (0, 0), (0, 0), (0, 0), (0, 0), (0, 0), (0, 63), (0, 6), (0, 0), (0, 0), (0, 0), (0, 0), (0, 0), (0, 0), (0, 0), (0, 0), (0, 0), (0, 0), (0, 0), (0, 0), (0, 0), (0, 0), (0, 0), (0, 0), (0, 0), (0, 0), (0, 0), (0, 0), (0, 0), (0, 0), (0, 0), (0, 0), (0, 0), (0, 23), (0, 3), (0, 0), (0, 0), (0, 12), (0, 0), (0, 0), (0, 0), (0, 0), (0, 0), (0, 0), (0, 0), (0, 0), (0, 0), (0, 0), (0, 0), (0, 4097), (0, 0), (0, 0), (0, 0), (0, 0), (0, 0), (0, 0), (0, 0), (0, 0), (0, 0), (0, 5), (0, 2), ((-1), 11), (0, 1000000000), (0, 0), (0, 0), (0, 0), (0, 0), (0, 0), (0, 64), (0, 0), (0, 0), (0, 0), (0, 0), (0, 0), (0, 0), (0, 0), (0, 0), (0, 8), (0, 0), (0, 0), (0, 0), ((-2147483648), 2147483647), (0, 0), (0, 8191), (0, 0), (0, 0), (0, 0), (0, 0), (0, 1), (0, 0), (0, 0), (0, 8191), (0, 0), (0, 0), (0, 0), (0, 0), (0, 0), (0, 0), (0, 0), (0, 0), (0, 0), (0, 0), (0, 0), (0, 0), (0, 0), (0, 0), (0, 0), (0, 0), (0, 0), (0, 0), (0, 0), (0, 0), (0, 0), (0, 700), (0, 0), (0, 0), (0, 0), (0, 0), (0, 0), (0, 0), (0, 0), (0, 0), (0, 0), (0, 0), (0, 0), (0, 0), (0, 0), (0, 0), (0, 62), (0, 38), (0, 4712), (0, 3), (0, 0), (0, 0), (0, 0), (0, 0), (0, 0), (0, 0), (0, 162), (0, 0), (0, 0), (0, 0), (0, 2000000), (0, 1), (0, 2000), ((-1), 2000), (0, 0), (0, 0), (0, 0), (0, 0), (0, 0), (0, 0), (0, 0), (0, 0), (0, 0), (0, 0), (0, 0), (0, 0), (0, 0), (0, 0), (0, 40), (0, 0), (0, 0), (0, 0), (0, 0), (0, 0), (0, 0), (0, 0), (0, 20001), (0, 0), (0, 0), (0, 0), (0, 0), (0, 0), (0, 0), ((-1), 161), ((-1), 460), (0, 0), (0, 0)]]
def cap_AL : List (List (Int × Int)) := [[(0, 0), (0, 0), (0, 0), (0, 0), (0, 0), (0, 0), (0, 0), (0, 0), (0, 0), (0, 0), (0, 0), (0, 0), (0, 0), (0, 0), (0, 60), (0, 12)], [(0, 4), ((-1), 161), (0, 651), (0, 652), (0, 652), ((-9999), 20000), ((-1), 161), (0, 7), (0, 1), ((-1), 161), (0, 2025), (0, 2025), (0, 8), ((-1), 1012), (0, 100000), (0, 100000)], [(0, 0), (0, 1012), (0, 4194303), (0, 11), (0, 161), ((-2), 161), ((-2), 161), (0, 4194303), (0, 4095), (0, 1), (0, 2025), (0, 2025), (0, 2025), (0, 2025), (0, 2025), (0, 4194303)], [((-1000), 1000), (0, 20000), ((-2147483648), 2147483647), (0, 1999), ((-652), 1999), (0, 1), (0, 0), (0, 3), (0, 255), (0, 1000), (0, 100), (0, 1), ((-2147483648), 2147483647), (0, 268435456), ((-2), 11), (0, 15)], [(0, 1012), ((-1), 1012), (0, 1023), (0, 255), (0, 1012), (0, 255), (0, 1012), ((-2147483648), 2147483647), ((-1), 161), (0, 3039), (0, 2147483647), (0, 65535), (0, 65536), (0, 40), (0, 65535), (0, 5)], [(0, 8), (0, 255), ((-4), 5), (0, 1280), (0, 255), ((-1), 161), ((-1), 100000), (0, 4711), (0, 4711), (0, 4711), (0, 4711), (0, 161), (0, 0), (0, 0), (0, 1), (0, 0)], [((-2147483648), 2147483647), ((-2147483648), 2147483647), ((-128), 127), ((-2147483648), 2147483647), ((-2147483648), 2147483647), ((-2147483648), 2147483647), (0, 40), ((-2147483648), 2147483647), (0, 152), (0, 10161), (0, 10161), (0, 1), (0, 20000), ((-2147483648), 2147483647), (0, 0), (0, 0)], [(0, 0), ((-2), 4095), (0, 4095), (0, 4095), (0, 0), (0, 4095), ((-128), 127), ((-128), 127), (0, 1280), ((-2147483648), 2147483647), (0, 0), ((-2147483648), 2147483647), (0, 1280), (0, 1280), (0, 40), (0, 1280)], [(0, 5), (0, 8), (0, 2147483647), (0, 1), (0, 320), (0, 320), (0, 1073741823), (0, 1073741823), ((-2147483648), 2147483647), (0, 1280), ((-2147483648), 2147483647), (0, 2047), (0, 2047), (0, 2047), (0, 1023), (0, 1023)], [(0, 2047), (0, 2047), (0, 15), (0, 1280), (0, 639), (0, 40), (0, 6), (0, 2047), (0, 2047), (0, 1), (0, 12), (0, 6), (0, 16), (0, 63), (0, 63), (0, 1013)], [(0, 19), (0, 1000), (0, 1000), (0, 64), (0, 2047), (0, 2047), (0, 2025), (0, 2047), (0, 2047), (0, 65535), (0, 63), (0, 0), (0, 2025), (0, 1), (0, 1000), (0, 2047)], [(0, 1), (0, 1280), (0, 1280), (0, 3), (0, 255), ((-2147483648), 2147483647), ((-2147483648), 2147483647), (0, 1), (0, 12), (0, 3), (0, 255), (0, 1000), (0, 100), (0, 4095), (0, 65535), (0, 63)], [(0, 65535), (0, 63), (0, 4095), (0, 4095), (0, 4095), (0, 4095), (0, 1), (0, 2025), (0, 2025), ((-2147483648), 2147483647), (0, 1), (0, 1), (0, 3), (0, 1012), (0, 1000000000), ((-1), 11)], [(0, 2047), (0, 7), (0, 1000000000), (0, 1), (0, 1012), ((-2147483648), 2147483647), (0, 255), (0, 255), ((-1), 11), ((-2), 9000), ((-2), 9000), ((-2), 9000), (0, 4095), (0, 1), (0, 1), (0, 12)], [(0, 6), (0, 16), (0, 63), (0, 63), (0, 150), (0, 11), ((-1), 161), ((-2), 9000), ((-2), 9000), (0, 12), (0, 3), (0, 255), (0, 1000), (0, 100), (0, 0), (0, 60)], [(0, 12), (0, 60), (0, 12), (0, 161), (0, 200), (0, 40), (0, 700), (0, 200), (0, 200), (0, 40), (0, 40), (0, 1), ((-1), 161), (0, 1), (0, 1), (0, 1)], [(0, 1), ((-1), 161), (0, 1000000000), (0, 4711), (0, 1), (0, 4711), (0, 161), (0, 1), (0, 2000), ((-1000), 1000), (0, 2699), (0, 1), (0, 1), (0, 1), ((-2147483648), 2147483647), ((-2147483648), 2147483647)], [(0, 40), (0, 161), (0, 22), (0, 40), ((-2147483648), 2147483647), (0, 10200), (0, 39), (0, 42), (0, 15), (0, 21), (0, 39), (0, 40), (0, 1), ((-2147483648), 2147483647), (0, 20010), (0, 20010)], [(0, 1), ((-1), 1224), (0, 4095), (0, 1), (0, 0), (0, 0), (0, 4097), (0, 0)]]
def cap_F (t k : Nat) : Int × Int := (cap_FL.getD t []).getD k (0, 0)
def cap_A (t : Nat) : Int × Int := (cap_AL.getD (t / 16) []).getD (t % 16) (0, 0)
abbrev gi (S : sm_S) : Prop := ai_GI cap_F cap_A S
theorem gi_pI {S : sm_S} {t i k : Nat} {y : Int} (hG : gi S) (h : (cap_F t k).1 ≤ y ∧ y ≤ (cap_F t k).2) : gi (sm_pI S t i k y) := ai_GI_pI (E := (cap_F, cap_A, (fun _ _ => true, fun _ => true, fun _ _ => true))) hG h
theorem gi_pJ {S : sm_S} {t i k : Nat} {y : Int} (hG : gi S) (h : (sh_fk t k).1 = 3) : gi (sm_pI S t i k y) := ai_GI_pJ (E := (cap_F, cap_A, (fun _ _ => true, fun _ => true, fun _ _ => true))) hG h
theorem gi_aI {S : sm_S} {t i k : Nat} {y : Int} (hG : gi S) (h : (cap_A t).1 ≤ y ∧ y ≤ (cap_A t).2) : gi (sm_aI S t i k y) := ai_GI_aI (E := (cap_F, cap_A, (fun _ _ => true, fun _ => true, fun _ _ => true))) hG h
theorem gi_aL {S : sm_S} {t i k : Nat} {y : Int} (hG : gi S) : gi (sm_aL S t i k y) := hG
theorem gi_pR {S : sm_S} {t i k : Nat} {y : Option Nat} (hG : gi S) : gi (sm_pR S t i k y) := hG
theorem fr_le {w w' : sx_Wl} {S S' : sm_S} (h : ai_fr (sx_W w') S S') (hw : sx_wle w' w = true) : ai_fr (sx_W w) S S' := by
  unfold sx_wle at hw
  simp only [Bool.and_eq_true] at hw
  obtain ⟨⟨h1, h2⟩, h3⟩ := hw
  refine ⟨fun t i k q => h.1 t i k ?_, fun t i k q => h.2.1 t i k ?_, fun t q => h.2.2 t ?_⟩
  · cases g : (sx_W w').1 t k with
    | false => rfl
    | true =>
      obtain ⟨p, hp, e⟩ := List.any_eq_true.mp g
      simp only [Bool.and_eq_true, decide_eq_true_eq] at e
      have := List.all_eq_true.mp h1 p hp
      rw [e.1, e.2, q] at this
      cases this
  · cases g : (sx_W w').2.2 t k with
    | false => rfl
    | true =>
      obtain ⟨p, hp, e⟩ := List.any_eq_true.mp g
      simp only [Bool.and_eq_true, decide_eq_true_eq] at e
      have := List.all_eq_true.mp h3 p hp
      rw [e.1, e.2, q] at this
      cases this
  · cases g : (sx_W w').2.1 t with
    | false => rfl
    | true =>
      obtain ⟨p, hp, e⟩ := List.any_eq_true.mp g
      simp only [decide_eq_true_eq] at e
      have := List.all_eq_true.mp h2 p hp
      rw [e, q] at this
      cases this
/-! numbers -/
def i_and (x y : Int) : Int := (Int32.ofInt x &&& Int32.ofInt y).toInt
def i_or (x y : Int) : Int := (Int32.ofInt x ||| Int32.ofInt y).toInt
def i_xor (x y : Int) : Int := (Int32.ofInt x ^^^ Int32.ofInt y).toInt
def i_shl (x y : Int) : Int := (Int32.ofInt x <<< (Int32.ofInt y &&& 31)).toInt
def i_shr (x y : Int) : Int := (Int32.ofInt x >>> (Int32.ofInt y &&& 31)).toInt
def i_ushr (x y : Int) : Int := ((Int32.ofInt x).toUInt32 >>> ((Int32.ofInt y).toUInt32 &&& Int32.toUInt32 31)).toInt32.toInt
def i_i2b (x : Int) : Int := (Int32.ofInt x).toInt8.toInt32.toInt
def i_i2c (x : Int) : Int := ((Int32.ofInt x).toUInt32 % 65536).toInt32.toInt
def l_0 (x y : Int) : Int := (Int64.ofInt x + Int64.ofInt y).toInt
def l_1 (x y : Int) : Int := (Int64.ofInt x - Int64.ofInt y).toInt
def l_2 (x y : Int) : Int := (Int64.ofInt x * Int64.ofInt y).toInt
def l_3 (x y : Int) : Int := (Int64.ofInt x &&& Int64.ofInt y).toInt
def l_4 (x y : Int) : Int := (Int64.ofInt x ||| Int64.ofInt y).toInt
def l_5 (x y : Int) : Int := (Int64.ofInt x ^^^ Int64.ofInt y).toInt
def l_s0 (x y : Int) : Int := (Int64.ofInt x <<< ((Int32.ofInt y).toInt64 &&& 63)).toInt
def l_s1 (x y : Int) : Int := (Int64.ofInt x >>> ((Int32.ofInt y).toInt64 &&& 63)).toInt
def l_s2 (x y : Int) : Int := ((Int64.ofInt x).toUInt64 >>> ((Int32.ofInt y).toInt64.toUInt64 &&& Int64.toUInt64 63)).toInt64.toInt
def l_i2l (x : Int) : Int := (Int32.ofInt x).toInt64.toInt
def l_l2i (x : Int) : Int := (Int64.ofInt x).toInt32.toInt
section UA
variable {x y w : Int}
theorem bi_add (h : x + y = w) (h1 : -2147483648 ≤ w) (h2 : w ≤ 2147483647) : sm_bin 0 x y = some w := by
  subst h
  show some _ = some _
  rw [ar_add ⟨h1, h2⟩]
theorem bi_sub (h : x - y = w) (h1 : -2147483648 ≤ w) (h2 : w ≤ 2147483647) : sm_bin 1 x y = some w := by
  subst h
  show some _ = some _
  rw [ar_sub ⟨h1, h2⟩]
theorem bi_mul (h : x * y = w) (h1 : -2147483648 ≤ w) (h2 : w ≤ 2147483647) : sm_bin 2 x y = some w := by
  subst h
  show some _ = some _
  rw [ar_mul ⟨h1, h2⟩]
theorem bi_msk {m : Int} {k : Nat} (hk : k ≤ 31 ∧ m = 2 ^ k - 1) : sm_bin 3 x m = some (x % 2 ^ k) := by
  rw [hk.2]
  show some _ = some _
  rw [bt_mask hk.1]
theorem bi_shl {k : Nat} (hk : k < 32) (h : x * 2 ^ k = w) (h1 : -2147483648 ≤ w) (h2 : w ≤ 2147483647) : sm_bin 6 x (k : Nat) = some w := by
  subst h
  show some _ = some _
  rw [bs_shl hk ⟨h1, h2⟩]
theorem bi_shr {k : Nat} (hk : k < 32) (h1 : -2147483648 ≤ x) (h2 : x ≤ 2147483647) : sm_bin 7 x (k : Nat) = some (x / 2 ^ k) := by
  show some _ = some _
  rw [bs_shr hk ⟨h1, h2⟩]
theorem bi_n0 (hy0 : 0 < y) (hy : y ≤ 2147483647) : ¬ Int32.ofInt y = 0 := by
  intro h
  have h : Int32.ofInt y = Int32.ofInt 0 := h
  rw [sm_eq ⟨by omega, by omega⟩ sm_n0] at h
  omega
theorem bi_div (hx0 : 0 ≤ x) (hx : x ≤ 2147483647) (hy0 : 0 < y) (hy : y ≤ 2147483647) : sm_bin 8 x y = some (x / y) := by
  show (if Int32.ofInt y = 0 then none else some _) = some _
  rw [if_neg (bi_n0 hy0 hy), bs_div hx0 hx hy0 hy]
theorem bi_rem (hx0 : 0 ≤ x) (hx : x ≤ 2147483647) (hy0 : 0 < y) (hy : y ≤ 2147483647) : sm_bin 9 x y = some (x % y) := by
  show (if Int32.ofInt y = 0 then none else some _) = some _
  rw [if_neg (bi_n0 hy0 hy), bs_rem hx0 hx hy0 hy]
theorem sm_mx_d (x y : Int) : x ≤ sm_mx x y ∧ y ≤ sm_mx x y ∧ (sm_mx x y = x ∨ sm_mx x y = y) := by unfold sm_mx; split <;> omega
theorem sm_mn_d (x y : Int) : sm_mn x y ≤ x ∧ sm_mn x y ≤ y ∧ (sm_mn x y = x ∨ sm_mn x y = y) := by unfold sm_mn; split <;> omega
end UA
section UT
variable {P : sm_P} {d mid pc n0 a b e : Nat} {z : Int} {L : sm_L} {r st : List sm_V} {S : sm_S} {Q : sm_R → Prop} {t i n : Nat} {k x y v w : Int}
theorem sm_T_bin (hx : P.1 mid pc = some (9, n0, a, b, e, z)) (hw : sm_bin a x y = some w) (k : sm_T P d mid (pc + n0, L, .inl w :: r, S) Q) : sm_T P d mid (pc, L, .inl y :: .inl x :: r, S) Q := sm_T_stp hx (Nat.le_of_ble_eq_true rfl) (by simp only [sm_stp, hw]; rfl) k
theorem sm_T_inc (hx : P.1 mid pc = some (8, n0, a, b, e, z)) (hL : L.getD a none = some (.inl v)) (hw : v + z = w) (h1 : -2147483648 ≤ w) (h2 : w ≤ 2147483647) (k : sm_T P d mid (pc + n0, sm_s1 L a (.inl w), st, S) Q) : sm_T P d mid (pc, L, st, S) Q := by
  refine sm_T_stp hx (Nat.le_of_ble_eq_true rfl) ?_ k
  simp only [sm_stp, hL]
  rw [ar_add (by subst hw; exact ⟨h1, h2⟩), hw]
theorem sm_T_neg (hx : P.1 mid pc = some (13, n0, 4, b, e, z)) (hw : - x = w) (h1 : -2147483648 ≤ w) (h2 : w ≤ 2147483647) (k : sm_T P d mid (pc + n0, L, .inl w :: r, S) Q) : sm_T P d mid (pc, L, .inl x :: r, S) Q := by
  refine sm_T_stp hx (Nat.le_of_ble_eq_true rfl) ?_ k
  simp only [sm_stp]
  show some (pc + n0, L, (.inl (-(Int32.ofInt x)).toInt : sm_V) :: r, S) = _
  have : (-(Int32.ofInt x)).toInt = w := by
    rw [← Int32.ofInt_neg, hw, sm_ti ⟨h1, h2⟩]
  rw [this]
theorem sm_T_pz (hx : P.1 mid pc = some (25, n0, a, b, e, z)) (hv : v = 0 ∨ v = 1) (k : sm_T P d mid (pc + 3, L, r, sm_pI S b i e v) Q) : sm_T P d mid (pc, L, .inl v :: .inr (.inr (some (b, i))) :: r, S) Q := by
  refine sm_T_stp hx (Nat.le_of_ble_eq_true rfl) ?_ k
  simp only [sm_stp]
  rw [if_pos (by simpa using hv)]
theorem sm_narz (hv : v = 0 ∨ v = 1) : (vp_nar .boolean (Int32.ofInt v)).toInt = v := by rcases hv with rfl | rfl <;> decide
theorem sm_T_zas1 (hx : P.1 mid pc = some (35, n0, a, b, e, z)) (hkd : sh_kd t = (3, 2, n)) (h0 : 0 ≤ k) (h1 : k < n) (hv : x = 0 ∨ x = 1) (kk : sm_T P d mid (pc + 1, L, r, sm_aI S t i k.toNat x) Q) : sm_T P d mid (pc, L, .inl x :: .inl k :: .inr (.inr (some (t, i))) :: r, S) Q :=
  sm_T_zast hx hkd h0 h1 (by rw [sm_narz hv]; exact kk)
theorem nt_acI {sc : Nat × (Nat → Int)} {t' i' n1 : Nat} {m : Int} (hk : sh_kd t = (1, 0, n)) (hk1 : sh_kd t' = (1, 0, n1)) (h0 : 0 ≤ x) (h1 : 0 ≤ y) (h2 : 0 ≤ m) (h3 : x + m ≤ n) (h4 : y + m ≤ n1) : mt_nat sc 2 [.inr (.inr (some (t, i))), .inl x, .inr (.inr (some (t', i'))), .inl y, .inl m] S = some (none, sm_acI S t i t' i' x.toNat y.toNat m.toNat) := by
  unfold mt_nat
  rw [if_pos rfl]
  simp only [hk, hk1]
  rw [if_pos (by simp [h0, h1, h2, h3, h4])]
  rfl
theorem nt_acL {sc : Nat × (Nat → Int)} {t' i' n1 : Nat} {m : Int} (hk : sh_kd t = (4, 3, n)) (hk1 : sh_kd t' = (4, 3, n1)) (h0 : 0 ≤ x) (h1 : 0 ≤ y) (h2 : 0 ≤ m) (h3 : x + m ≤ n) (h4 : y + m ≤ n1) : mt_nat sc 2 [.inr (.inr (some (t, i))), .inl x, .inr (.inr (some (t', i'))), .inl y, .inl m] S = some (none, sm_acL S t i t' i' x.toNat y.toNat m.toNat) := by
  unfold mt_nat
  rw [if_pos rfl]
  simp only [hk, hk1]
  rw [if_pos (by simp [h0, h1, h2, h3, h4])]
  rfl
theorem gi_ac {t' i' a b m : Nat} (hG : gi S) (h1 : (cap_A t').1 ≤ (cap_A t).1) (h2 : (cap_A t).2 ≤ (cap_A t').2) : gi (sm_acI S t i t' i' a b m) := by
  refine ⟨hG.1, fun t2 i2 k2 => ?_⟩
  show (cap_A t2).1 ≤ (if t2 = t' ∧ i2 = i' then sm_cp (S.2.2.1 t i) (S.2.2.1 t' i') a b m else S.2.2.1 t2 i2) k2 ∧ (if t2 = t' ∧ i2 = i' then sm_cp (S.2.2.1 t i) (S.2.2.1 t' i') a b m else S.2.2.1 t2 i2) k2 ≤ (cap_A t2).2
  split
  · rename_i q
    obtain ⟨rfl, rfl⟩ := q
    unfold sm_cp
    split
    · have := hG.2 t i (a + (k2 - b))
      omega
    · exact hG.2 t2 i2 k2
  · exact hG.2 t2 i2 k2
theorem fr_ac {W : ai_W} {t' i' a b m : Nat} (h : W.2.1 t' = true) : ai_fr W S (sm_acI S t i t' i' a b m) := ⟨fun _ _ _ _ => rfl, fun _ _ _ _ => rfl, fun t2 q i2 k2 => ⟨by
  rw [sm_acI_ne (fun g => by obtain ⟨rfl, rfl⟩ := g; rw [h] at q; cases q)], rfl⟩⟩
theorem fr_acL {W : ai_W} {t' i' a b m : Nat} (h : W.2.1 t' = true) : ai_fr W S (sm_acL S t i t' i' a b m) := ⟨fun _ _ _ _ => rfl, fun _ _ _ _ => rfl, fun t2 q i2 k2 => ⟨rfl, by
  show (if t2 = t' ∧ i2 = i' then sm_cp (S.2.2.2 t i) (S.2.2.2 t' i') a b m else S.2.2.2 t2 i2) k2 = _
  rw [if_neg (fun g => by obtain ⟨rfl, rfl⟩ := g; rw [h] at q; cases q)]⟩⟩
theorem sm_swd {lo : Int} {ts : List Nat} {df : Nat} (h' : x < lo ∨ lo + (ts.length : Nat) ≤ x) : (if x < lo then none else ts[(x - lo).toNat]?).getD df = df := by
  by_cases q : x < lo
  · rw [if_pos q]; rfl
  · rw [if_neg q]
    rcases h' with h' | h'
    · omega
    · rw [List.getElem?_eq_none (by omega)]; rfl
theorem rd_ff {t' i' k' t i k : Nat} {z : Int} : (sm_pI S t i k z).1 t' i' k' = if t' = t ∧ i' = i ∧ k' = k then z else S.1 t' i' k' := rfl
theorem rd_fa {t i k : Nat} {z : Int} : (sm_pI S t i k z).2.2.1 = S.2.2.1 := rfl
theorem rd_af {t i k : Nat} {z : Int} : (sm_aI S t i k z).1 = S.1 := rfl
theorem rd_aa {t' i' k' t i k : Nat} {z : Int} : (sm_aI S t i k z).2.2.1 t' i' k' = if t' = t ∧ i' = i ∧ k' = k then z else S.2.2.1 t' i' k' := rfl
theorem rd_eq {i k' t k : Nat} {z : Int} : (sm_aI S t i k z).2.2.1 t i k' = if k' = k then z else S.2.2.1 t i k' := by
  rw [rd_aa]
  by_cases q : k' = k
  · rw [if_pos ⟨rfl, rfl, q⟩, if_pos q]
  · rw [if_neg (fun h => q h.2.2), if_neg q]
theorem rd_ne {t' i' k' t i k : Nat} {z : Int} (h : t' ≠ t) : (sm_aI S t i k z).2.2.1 t' i' k' = S.2.2.1 t' i' k' := by
  rw [rd_aa, if_neg (fun q => h q.1)]
theorem rf_eq {t i k : Nat} {z : Int} : (sm_pI S t i k z).1 t i k = z := by rw [rd_ff, if_pos ⟨rfl, rfl, rfl⟩]
theorem rf_nk {t' i' k' t i k : Nat} {z : Int} (h : k' ≠ k) : (sm_pI S t i k z).1 t' i' k' = S.1 t' i' k' := by rw [rd_ff, if_neg (fun q => h q.2.2)]
theorem rf_nt {t' i' k' t i k : Nat} {z : Int} (h : t' ≠ t) : (sm_pI S t i k z).1 t' i' k' = S.1 t' i' k' := by rw [rd_ff, if_neg (fun q => h q.1)]
theorem rd_fl {t i k : Nat} {z : Int} : (sm_pI S t i k z).2.2.2 = S.2.2.2 := rfl
theorem rd_al {t i k : Nat} {z : Int} : (sm_aI S t i k z).2.2.2 = S.2.2.2 := rfl
theorem rd_lf {t i k : Nat} {z : Int} : (sm_aL S t i k z).1 = S.1 := rfl
theorem rd_la {t i k : Nat} {z : Int} : (sm_aL S t i k z).2.2.1 = S.2.2.1 := rfl
theorem rd_ll {t' i' k' t i k : Nat} {z : Int} : (sm_aL S t i k z).2.2.2 t' i' k' = if t' = t ∧ i' = i ∧ k' = k then z else S.2.2.2 t' i' k' := rfl
theorem rd_fr {t i k : Nat} {z : Int} : (sm_pI S t i k z).2.1 = S.2.1 := rfl
theorem rd_ar {t i k : Nat} {z : Int} : (sm_aI S t i k z).2.1 = S.2.1 := rfl
end UT
