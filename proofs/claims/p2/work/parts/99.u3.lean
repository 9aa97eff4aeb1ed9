/-! texts: blanks, names, numbers, signs -/
abbrev lx_l (c : Int) : Prop := (97 ≤ c ∧ c ≤ 122) ∨ (65 ≤ c ∧ c ≤ 90) ∨ c = 95
abbrev lx_g (c : Int) : Prop := 48 ≤ c ∧ c ≤ 57
abbrev lx_x (c : Int) : Prop := lx_l c ∨ lx_g c
def lx_s (b : Nat → Int) (n : Nat) : Nat → Bool → Nat → Nat
  | 0, _, p => p
  | f + 1, cm, p => if p < n then (if b p = 35 then lx_s b n f true (p + 1) else if b p = 10 then lx_s b n f false (p + 1) else if cm = true ∨ b p = 9 ∨ b p = 13 ∨ b p = 32 then lx_s b n f cm (p + 1) else p) else p
/-- behind blanks and comments -/
def lx_k (b : Nat → Int) (n p : Nat) : Nat := lx_s b n (n - p) false p
theorem lx_s_end {b : Nat → Int} {n p f : Nat} {cm : Bool} (h : n ≤ p) : lx_s b n f cm p = p := by
  cases f with
  | zero => rfl
  | succ f => unfold lx_s; rw [if_neg (by omega)]
/-- one step -/
theorem lx_s_go {b : Nat → Int} {n p : Nat} {cm : Bool} (h : p < n) : lx_s b n (n - p) cm p = if b p = 35 then lx_s b n (n - (p + 1)) true (p + 1) else if b p = 10 then lx_s b n (n - (p + 1)) false (p + 1) else if cm = true ∨ b p = 9 ∨ b p = 13 ∨ b p = 32 then lx_s b n (n - (p + 1)) cm (p + 1) else p := by
  obtain ⟨f, e⟩ : ∃ f, n - p = f + 1 := ⟨n - p - 1, by omega⟩
  have e2 : n - (p + 1) = f := by omega
  rw [e, e2]
  conv => lhs; unfold lx_s
  rw [if_pos h]
theorem lx_s_le {b : Nat → Int} {n : Nat} : ∀ (f : Nat) (cm : Bool) (p : Nat), p ≤ n → p ≤ lx_s b n f cm p ∧ lx_s b n f cm p ≤ n
  | 0, _, p, h => ⟨Nat.le_refl _, h⟩
  | f + 1, cm, p, h => by
    unfold lx_s
    by_cases q : p < n
    · rw [if_pos q]
      have i1 := lx_s_le (b := b) f true (p + 1) q
      have i2 := lx_s_le (b := b) f false (p + 1) q
      have i3 := lx_s_le (b := b) f cm (p + 1) q
      split
      · omega
      · split
        · omega
        · split <;> omega
    · rw [if_neg q]
      omega
theorem lx_k_le {b : Nat → Int} {n p : Nat} (h : p ≤ n) : p ≤ lx_k b n p ∧ lx_k b n p ≤ n := lx_s_le _ _ _ h
/-- the end of a row of letters and digits -/
def lx_e (b : Nat → Int) (n : Nat) : Nat → Nat → Nat
  | 0, p => p
  | f + 1, p => if p < n ∧ lx_x (b p) then lx_e b n f (p + 1) else p
def lx_ne (b : Nat → Int) (n p : Nat) : Nat := lx_e b n (n - p) p
theorem lx_e_go {b : Nat → Int} {n p : Nat} : lx_ne b n p = if p < n ∧ lx_x (b p) then lx_ne b n (p + 1) else p := by
  unfold lx_ne
  by_cases h : p < n
  · obtain ⟨f, e⟩ : ∃ f, n - p = f + 1 := ⟨n - p - 1, by omega⟩
    have e2 : n - (p + 1) = f := by omega
    rw [e, e2]
    conv => lhs; unfold lx_e
  · rw [if_neg (by omega)]
    have : n - p = 0 := by omega
    rw [this]
    rfl
theorem lx_e_le {b : Nat → Int} {n : Nat} : ∀ (f p : Nat), p ≤ n → p ≤ lx_e b n f p ∧ lx_e b n f p ≤ n
  | 0, p, h => ⟨Nat.le_refl _, h⟩
  | f + 1, p, h => by
    unfold lx_e
    split
    · rename_i q
      have := lx_e_le (b := b) f (p + 1) q.1
      omega
    · omega
theorem lx_ne_le {b : Nat → Int} {n p : Nat} (h : p ≤ n) : p ≤ lx_ne b n p ∧ lx_ne b n p ≤ n := lx_e_le _ _ h
/-- the end of a row of digits -/
def lx_f (b : Nat → Int) (n : Nat) : Nat → Nat → Nat
  | 0, p => p
  | f + 1, p => if p < n ∧ lx_g (b p) then lx_f b n f (p + 1) else p
def lx_de (b : Nat → Int) (n p : Nat) : Nat := lx_f b n (n - p) p
theorem lx_f_go {b : Nat → Int} {n p : Nat} : lx_de b n p = if p < n ∧ lx_g (b p) then lx_de b n (p + 1) else p := by
  unfold lx_de
  by_cases h : p < n
  · obtain ⟨f, e⟩ : ∃ f, n - p = f + 1 := ⟨n - p - 1, by omega⟩
    have e2 : n - (p + 1) = f := by omega
    rw [e, e2]
    conv => lhs; unfold lx_f
  · rw [if_neg (by omega)]
    have : n - p = 0 := by omega
    rw [this]
    rfl
theorem lx_f_le {b : Nat → Int} {n : Nat} : ∀ (f p : Nat), p ≤ n → p ≤ lx_f b n f p ∧ lx_f b n f p ≤ n
  | 0, p, h => ⟨Nat.le_refl _, h⟩
  | f + 1, p, h => by
    unfold lx_f
    split
    · rename_i q
      have := lx_f_le (b := b) f (p + 1) q.1
      omega
    · omega
theorem lx_de_le {b : Nat → Int} {n p : Nat} (h : p ≤ n) : p ≤ lx_de b n p ∧ lx_de b n p ≤ n := lx_f_le _ _ h
/-- the number of the first k digits -/
def lx_v (b : Nat → Int) (p : Nat) : Nat → Int
  | 0 => 0
  | k + 1 => 10 * lx_v b p k + b (p + k) - 48
/-- letters packed by sevens, eight at most -/
def lx_pk (b : Nat → Int) (p : Nat) : Nat → Int
  | 0 => 0
  | k + 1 => if k < 8 then l_4 (l_s0 (lx_pk b p k) 7) (l_i2l (b (p + k))) else 0
def lx_ws : List Int := [3775219463781, 13550, 1833716, 1782516, 1880807, 1931749, 209286764]
/-- which word, 3 and on, or 1 -/
def lx_wk (x : Int) : Nat → Int
  | 0 => 1
  | k + 1 => if x = lx_ws.getD k 0 then 3 + k else lx_wk x k
theorem lx_wk_b (x : Int) : ∀ k, 1 ≤ lx_wk x k ∧ lx_wk x k ≤ 2 + k
  | 0 => ⟨Int.le_refl 1, by show (1 : Int) ≤ 2 + 0; omega⟩
  | k + 1 => by
    have := lx_wk_b x k
    unfold lx_wk
    split
    · push_cast; omega
    · push_cast; omega
abbrev lx_sg (c : Int) : Prop := c = 40 ∨ c = 41 ∨ c = 123 ∨ c = 125 ∨ c = 59 ∨ c = 44 ∨ c = 61 ∨ c = 46 ∨ c = 58 ∨ c = 38 ∨ c = 124 ∨ c = 94 ∨ c = 33 ∨ c = 43 ∨ c = 63 ∨ c = 64
theorem lx_sg_ix {x : Int} : lx_sg x ↔ 0 ≤ mt_ix mt_sgn x 0 := by
  unfold mt_sgn
  simp only [mt_ix]
  repeat' split
  all_goals first | omega | (constructor <;> intro h <;> omega)
theorem i_i2c_s {x : Int} (h0 : 0 ≤ x) (h1 : x ≤ 127) : i_i2c x = x := by
  obtain ⟨k, rfl⟩ : ∃ k : Nat, x = (k : Int) := ⟨x.toNat, by omega⟩
  have : ∀ k : Nat, k < 128 → i_i2c (k : Int) = (k : Int) := by decide
  exact this k (by omega)
/-- a letter, by its lower form -/
theorem lx_or {x : Int} (h0 : -128 ≤ x) (h1 : x ≤ 127) : (97 ≤ i_or x 32 ∧ i_or x 32 ≤ 122) ↔ (97 ≤ x ∧ x ≤ 122) ∨ (65 ≤ x ∧ x ≤ 90) := by
  obtain ⟨k, rfl⟩ : ∃ k : Nat, x = (k : Int) - 128 := ⟨(x + 128).toNat, by omega⟩
  have : ∀ k : Nat, k < 256 → ((97 ≤ i_or ((k : Int) - 128) 32 ∧ i_or ((k : Int) - 128) 32 ≤ 122) ↔ (97 ≤ ((k : Int) - 128) ∧ ((k : Int) - 128) ≤ 122) ∨ (65 ≤ ((k : Int) - 128) ∧ ((k : Int) - 128) ≤ 90)) := by decide +kernel
  exact this k (by omega)
/-! static rows -/
def st_at (j : Nat) (x : Int) : Int := ((sm_stv.getD j [])[x.toNat]?).getD 0
theorem nt_st0 {sc : Nat × (Nat → Int)} {S : sm_S} {j n : Nat} {x : Int} (hj : j < 10) (hl : (sm_stv.getD j []).length = n) (h0 : 0 ≤ x) (h1 : x < n) : mt_nat sc (320 + j) [.inr (.inr (some (296 + j, 0))), .inl x] S = some (some (if sm_stl j then .inr (.inl (st_at j x)) else .inl (st_at j x)), S) := by
  have e1 : 320 + j - 320 = j := by omega
  unfold mt_nat
  rw [if_neg (by omega), if_neg (by omega), if_neg (by omega), if_neg (by omega), if_neg (by omega), if_neg (by omega), if_neg (by omega), if_neg (by omega), if_neg (by omega), if_pos (by omega)]
  simp only [e1]
  rw [if_pos (by simp [h0])]
  have hx : x.toNat < (sm_stv.getD j []).length := by rw [hl]; omega
  unfold st_at
  rw [List.getElem?_eq_getElem hx]
  rfl
theorem nt_stl {sc : Nat × (Nat → Int)} {S : sm_S} {j n : Nat} {x : Int} (hj : j < 10) (hs : sm_stl j = true) (hl : (sm_stv.getD j []).length = n) (h0 : 0 ≤ x) (h1 : x < n) : mt_nat sc (320 + j) [.inr (.inr (some (296 + j, 0))), .inl x] S = some (some (.inr (.inl (st_at j x))), S) := by
  rw [nt_st0 hj hl h0 h1, hs]
  rfl
theorem nt_st {sc : Nat × (Nat → Int)} {S : sm_S} {j n : Nat} {x : Int} (hj : j < 10) (hs : sm_stl j = false) (hl : (sm_stv.getD j []).length = n) (h0 : 0 ≤ x) (h1 : x < n) : mt_nat sc (320 + j) [.inr (.inr (some (296 + j, 0))), .inl x] S = some (some (.inl (st_at j x)), S) := by
  rw [nt_st0 hj hl h0 h1, hs]
  rfl
theorem nt_sg {sc : Nat × (Nat → Int)} {S : sm_S} {x : Int} (h0 : 0 ≤ x) (h1 : x < 65536) : mt_nat sc 10 [.inr (.inr (some (301, 0))), .inl x] S = some (some (.inl (mt_ix mt_sgn x 0)), S) := by
  unfold mt_nat
  rw [if_neg (by decide), if_neg (by decide), if_neg (by decide), if_pos rfl]
  simp [h0, h1]
theorem st_ws : ∀ k : Nat, k < 7 → st_at 0 (k : Int) = lx_ws.getD k 0 := by decide +kernel
theorem lcmp0 {x y : Int} : sm_lcmp x y = 0 ↔ x = y := by
  unfold sm_lcmp
  split
  · constructor <;> intro h <;> omega
  · split
    · constructor <;> intro h <;> omega
    · constructor <;> intro h <;> omega
theorem lx_v_b {b : Nat → Int} {p : Nat} : ∀ {k : Nat}, k ≤ 6 → (∀ j, j < k → lx_g (b (p + j))) → 0 ≤ lx_v b p k ∧ lx_v b p k < 10 ^ k
  | 0, _, _ => ⟨Int.le_refl 0, by show (0 : Int) < 1; omega⟩
  | k + 1, hk, h => by
    have i := lx_v_b (k := k) (by omega) (fun j hj => h j (by omega))
    have g := h k (by omega)
    unfold lx_v
    rw [Int.pow_succ]
    omega
theorem lx_v_c {b : Nat → Int} {p k : Nat} (hk : k < 6) (h4 : ∀ j, j < k → lx_g (b (p + j))) (g : lx_g (b (p + k))) : 0 ≤ 10 * lx_v b p k + b (p + k) - 48 ∧ 10 * lx_v b p k + b (p + k) - 48 ≤ 999999 := by
  have hw := lx_v_b (b := b) (p := p) (k := k + 1) (by omega) (fun j hj => by
    by_cases q : j = k
    · rw [q]; exact g
    · exact h4 j (by omega))
  have hw2 : (10 : Int) ^ (k + 1) ≤ 10 ^ 6 := by exact_mod_cast Nat.pow_le_pow_right (by decide) (show k + 1 ≤ 6 by omega)
  have hw3 : (10 : Int) ^ 6 = 1000000 := by decide
  unfold lx_v at hw
  omega
/-- a sign's kind, or 0; and where it ends -/
def lx_sk (b : Nat → Int) (n p : Nat) : Int := if b p = 60 ∧ p + 1 < n ∧ b (p + 1) = 45 then 256 else if b p = 61 ∧ p + 1 < n ∧ b (p + 1) = 61 then 257 else if lx_sg (b p) then b p else 0
def lx_sn (b : Nat → Int) (n p : Nat) : Nat := if b p = 60 ∧ p + 1 < n ∧ b (p + 1) = 45 then p + 2 else if b p = 61 ∧ p + 1 < n ∧ b (p + 1) = 61 then p + 2 else p + 1
theorem lx_sn_le {b : Nat → Int} {n p : Nat} (h : p < n) : p < lx_sn b n p ∧ lx_sn b n p ≤ n := by
  unfold lx_sn
  split
  · omega
  · split <;> omega
