/-! abstract arithmetic -/
def ai_full : ai_I := (-2147483648, 2147483647, none, none)
def ai_rng (lo hi : Int) (rel : Option (Nat × Int × Int)) : ai_I := if -2147483648 ≤ lo ∧ hi ≤ 2147483647 then (lo, hi, rel, none) else ai_full
/-- the powers of two above a number -/
def ai_pw (n : Int) : Int := if n < 2 then 2 else if n < 4 then 4 else if n < 8 then 8 else if n < 16 then 16 else if n < 64 then 64 else if n < 256 then 256 else if n < 4096 then 4096 else if n < 65536 then 65536 else if n < 16777216 then 16777216 else 2147483648
def ai_adr (a b : ai_I) : Option (Nat × Int × Int) := match a.2.2.1 with
  | some (j, x, y) => some (j, x + b.1, y + b.2.1)
  | none => match b.2.2.1 with
    | some (j, x, y) => some (j, x + a.1, y + a.2.1)
    | none => none
def ai_sbr (a b : ai_I) : Option (Nat × Int × Int) := match a.2.2.1 with
  | some (j, x, y) => some (j, x - b.2.1, y - b.1)
  | none => none
def ai_bin (k : Nat) (a b : ai_I) : Option ai_I := match k with
  | 0 => some (ai_rng (a.1 + b.1) (a.2.1 + b.2.1) (ai_adr a b))
  | 1 => some (ai_rng (a.1 - b.2.1) (a.2.1 - b.1) (ai_sbr a b))
  | 2 => if 0 ≤ a.1 ∧ 0 ≤ b.1 then some (ai_rng (a.1 * b.1) (a.2.1 * b.2.1) none) else some ai_full
  | 3 => if 0 ≤ b.1 ∧ b.2.1 ≤ 2147483647 then some (0, b.2.1, none, none) else if 0 ≤ a.1 ∧ a.2.1 ≤ 2147483647 then some (0, a.2.1, none, none) else some ai_full
  | 4 => if 0 ≤ a.1 ∧ 0 ≤ b.1 ∧ a.2.1 < ai_pw (max a.2.1 b.2.1) ∧ b.2.1 < ai_pw (max a.2.1 b.2.1) then some (0, ai_pw (max a.2.1 b.2.1) - 1, none, none) else some ai_full
  | 5 => if 0 ≤ a.1 ∧ 0 ≤ b.1 ∧ a.2.1 < ai_pw (max a.2.1 b.2.1) ∧ b.2.1 < ai_pw (max a.2.1 b.2.1) then some (0, ai_pw (max a.2.1 b.2.1) - 1, none, none) else some ai_full
  | 6 => if 0 ≤ a.1 ∧ 0 ≤ b.1 ∧ b.2.1 ≤ 31 then some (ai_rng (a.1 * 2 ^ b.1.toNat) (a.2.1 * 2 ^ b.2.1.toNat) none) else some ai_full
  | 7 => if 0 ≤ b.1 ∧ b.2.1 ≤ 31 ∧ 0 ≤ a.1 ∧ a.2.1 ≤ 2147483647 then some (0, a.2.1 / 2 ^ b.1.toNat, none, none) else some ai_full
  | 8 => if 0 ≤ a.1 ∧ a.2.1 ≤ 2147483647 ∧ 0 < b.1 ∧ b.2.1 ≤ 2147483647 then some (0, a.2.1 / b.1, none, none) else none
  | 9 => if 0 ≤ a.1 ∧ a.2.1 ≤ 2147483647 ∧ 0 < b.1 ∧ b.2.1 ≤ 2147483647 then some (0, b.2.1 - 1, none, none) else none
  | 10 => some ai_full
  | _ => none
def ai_in (a : ai_I) (z : Int) : Prop := a.1 ≤ z ∧ z ≤ a.2.1
def ai_rl (L0 : sm_L) (a : ai_I) (z : Int) : Prop := ∀ j x y, a.2.2.1 = some (j, x, y) → ∃ z0, L0.getD j none = some (.inl z0) ∧ z0 + x ≤ z ∧ z ≤ z0 + y
theorem ai_full_g (L0 : sm_L) (v : Int32) : ai_in ai_full v.toInt ∧ ai_rl L0 ai_full v.toInt := by
  have h := sm_ni_toInt v
  unfold sm_ni at h
  exact ⟨h, fun j x y hj => by cases hj⟩
theorem ai_rng_g {L0 : sm_L} {lo hi z : Int} {rel : Option (Nat × Int × Int)} {v : Int32} (hv : sm_ni z → v.toInt = z) (h1 : lo ≤ z) (h2 : z ≤ hi) (hr : ∀ j x y, rel = some (j, x, y) → ∃ z0, L0.getD j none = some (.inl z0) ∧ z0 + x ≤ z ∧ z ≤ z0 + y) : ai_in (ai_rng lo hi rel) v.toInt ∧ ai_rl L0 (ai_rng lo hi rel) v.toInt := by
  unfold ai_rng
  split
  · rename_i hc
    rw [hv (by unfold sm_ni; omega)]
    exact ⟨⟨h1, h2⟩, hr⟩
  · exact ai_full_g L0 v
theorem ai_pw_is (n : Int) : ∃ k, k ≤ 31 ∧ ai_pw n = 2 ^ k := by
  unfold ai_pw
  split
  · exact ⟨1, by omega, rfl⟩
  split
  · exact ⟨2, by omega, rfl⟩
  split
  · exact ⟨3, by omega, rfl⟩
  split
  · exact ⟨4, by omega, rfl⟩
  split
  · exact ⟨6, by omega, rfl⟩
  split
  · exact ⟨8, by omega, rfl⟩
  split
  · exact ⟨12, by omega, rfl⟩
  split
  · exact ⟨16, by omega, rfl⟩
  split
  · exact ⟨24, by omega, rfl⟩
  · exact ⟨31, by omega, rfl⟩
theorem ai_pos {x : Int} {b : ai_I} (h : ai_in b x) (h0 : 0 < b.1) (h1 : b.2.1 ≤ 2147483647) : ¬ Int32.ofInt x = 0 := by
  rw [sm_i0, sm_eq (by unfold sm_ni ai_in at *; omega) sm_n0]
  unfold ai_in at h
  omega
theorem ai_pow_mono {a b : Nat} (h : a ≤ b) : (2 : Int) ^ a ≤ 2 ^ b := by exact_mod_cast Nat.pow_le_pow_right (by decide) h
theorem ai_pow_pos (a : Nat) : (0 : Int) < 2 ^ a := by exact_mod_cast Nat.pow_pos (by decide)
theorem ai_bin_g {L0 : sm_L} {k : Nat} {a b c : ai_I} {x y : Int} (h : ai_bin k a b = some c) (hx : ai_in a x) (hy : ai_in b y) (rx : ai_rl L0 a x) (ry : ai_rl L0 b y) (nx : sm_ni x) (ny : sm_ni y) : ∃ v, sm_bin k x y = some v ∧ ai_in c v ∧ ai_rl L0 c v := by
  unfold ai_bin at h
  have hx' := hx
  have hy' := hy
  unfold ai_in at hx' hy'
  split at h
  · cases h
    refine ⟨_, rfl, ai_rng_g (fun q => ar_add q) (by omega) (by omega) (fun j u w hj => ?_)⟩
    unfold ai_adr at hj
    split at hj
    · rename_i j' x' y' hr
      cases hj
      obtain ⟨z0, q1, q2, q3⟩ := rx _ _ _ hr
      exact ⟨z0, q1, by omega, by omega⟩
    · split at hj
      · rename_i j' x' y' hr
        cases hj
        obtain ⟨z0, q1, q2, q3⟩ := ry _ _ _ hr
        exact ⟨z0, q1, by omega, by omega⟩
      · cases hj
  · cases h
    refine ⟨_, rfl, ai_rng_g (fun q => ar_sub q) (by omega) (by omega) (fun j u w hj => ?_)⟩
    unfold ai_sbr at hj
    split at hj
    · rename_i j' x' y' hr
      cases hj
      obtain ⟨z0, q1, q2, q3⟩ := rx _ _ _ hr
      exact ⟨z0, q1, by omega, by omega⟩
    · cases hj
  · refine ⟨_, rfl, ?_⟩
    split at h
    · rename_i hc
      cases h
      refine ai_rng_g (fun q => ar_mul q) ?_ ?_ (fun j u w hj => by cases hj)
      · exact Int.mul_le_mul hx'.1 hy'.1 hc.2 (by omega)
      · exact Int.mul_le_mul hx'.2 hy'.2 (by omega) (by omega)
    · cases h
      exact ai_full_g L0 _
  · refine ⟨_, rfl, ?_⟩
    split at h
    · rename_i hc
      cases h
      have q := bt_and (x := x) (y := y) (by omega) (by omega)
      exact ⟨⟨q.1, by show _ ≤ b.2.1; omega⟩, fun j u w hj => by cases hj⟩
    · split at h
      · rename_i hc
        cases h
        have q := bt_and (x := y) (y := x) (by omega) (by omega)
        rw [Int32.and_comm] at q
        exact ⟨⟨q.1, by show _ ≤ a.2.1; omega⟩, fun j u w hj => by cases hj⟩
      · cases h
        exact ai_full_g L0 _
  · refine ⟨_, rfl, ?_⟩
    split at h
    · rename_i hc
      cases h
      obtain ⟨n, hn, hp⟩ := ai_pw_is (max a.2.1 b.2.1)
      have q := bt_or (k := n) (x := x) (y := y) hn (by omega) (by rw [← hp]; omega) (by omega) (by rw [← hp]; omega)
      rw [← hp] at q
      exact ⟨⟨q.1, by show _ ≤ ai_pw (max a.2.1 b.2.1) - 1; omega⟩, fun j u w hj => by cases hj⟩
    · cases h
      exact ai_full_g L0 _
  · refine ⟨_, rfl, ?_⟩
    split at h
    · rename_i hc
      cases h
      obtain ⟨n, hn, hp⟩ := ai_pw_is (max a.2.1 b.2.1)
      have q := bt_xor (k := n) (x := x) (y := y) hn (by omega) (by rw [← hp]; omega) (by omega) (by rw [← hp]; omega)
      rw [← hp] at q
      exact ⟨⟨q.1, by show _ ≤ ai_pw (max a.2.1 b.2.1) - 1; omega⟩, fun j u w hj => by cases hj⟩
    · cases h
      exact ai_full_g L0 _
  · refine ⟨_, rfl, ?_⟩
    split at h
    · rename_i hc
      cases h
      have hyn : y = ((y.toNat : Nat) : Int) := by omega
      refine ai_rng_g (z := x * 2 ^ y.toNat) (fun q => ?_) ?_ ?_ (fun j u w hj => by cases hj)
      · rw [hyn]
        have := bs_shl (k := y.toNat) (x := x) (by omega) q
        exact this
      · exact Int.mul_le_mul hx'.1 (ai_pow_mono (by omega)) (Int.le_of_lt (ai_pow_pos _)) (by omega)
      · exact Int.mul_le_mul hx'.2 (ai_pow_mono (by omega)) (Int.le_of_lt (ai_pow_pos _)) (by omega)
    · cases h
      exact ai_full_g L0 _
  · refine ⟨_, rfl, ?_⟩
    split at h
    · rename_i hc
      cases h
      have hyn : y = ((y.toNat : Nat) : Int) := by omega
      have e : (Int32.ofInt x >>> (Int32.ofInt y &&& 31)).toInt = x / 2 ^ y.toNat := by
        rw [hyn]
        exact bs_shr (k := y.toNat) (x := x) (by omega) nx
      rw [e]
      refine ⟨⟨Int.ediv_nonneg (by omega) (Int.le_of_lt (ai_pow_pos _)), ?_⟩, fun j u w hj => by cases hj⟩
      show x / 2 ^ y.toNat ≤ a.2.1 / 2 ^ b.1.toNat
      refine Int.le_trans (Int.ediv_le_ediv (ai_pow_pos _) hx'.2) ?_
      refine (Int.le_ediv_iff_mul_le (ai_pow_pos _)).mpr ?_
      refine Int.le_trans (Int.mul_le_mul_of_nonneg_left (ai_pow_mono (show b.1.toNat ≤ y.toNat by omega)) (Int.ediv_nonneg (by omega) (Int.le_of_lt (ai_pow_pos _)))) ?_
      exact Int.ediv_mul_le _ (by have := ai_pow_pos y.toNat; omega)
    · cases h
      exact ai_full_g L0 _
  · split at h
    · rename_i hc
      cases h
      have q := ai_pos hy (by omega) (by omega)
      refine ⟨_, by simp only [sm_bin]; rw [if_neg q], ?_⟩
      rw [bs_div (by omega) (by omega) (by omega) (by omega)]
      refine ⟨⟨Int.ediv_nonneg (by omega) (by omega), ?_⟩, fun j u w hj => by cases hj⟩
      show x / y ≤ a.2.1 / b.1
      refine Int.le_trans (Int.ediv_le_ediv (by omega) hx'.2) ?_
      refine (Int.le_ediv_iff_mul_le (by omega)).mpr ?_
      refine Int.le_trans (Int.mul_le_mul_of_nonneg_left hy'.1 (Int.ediv_nonneg (by omega) (by omega))) ?_
      exact Int.ediv_mul_le _ (by omega)
    · cases h
  · split at h
    · rename_i hc
      cases h
      have q := ai_pos hy (by omega) (by omega)
      refine ⟨_, by simp only [sm_bin]; rw [if_neg q], ?_⟩
      rw [bs_rem (by omega) (by omega) (by omega) (by omega)]
      have q2 : x % y < y := Int.emod_lt_of_pos x (by omega)
      exact ⟨⟨Int.emod_nonneg x (by omega), by show x % y ≤ b.2.1 - 1; omega⟩, fun j u w hj => by cases hj⟩
    · cases h
  · cases h
    exact ⟨_, rfl, ai_full_g L0 _⟩
  · cases h
