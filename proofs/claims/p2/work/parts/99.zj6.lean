/-! how many places of a row hold a value -/
def cne (f : Nat → Int) (c : Int) : Nat → Nat
  | 0 => 0
  | n + 1 => cne f c n + if f n = c then 1 else 0
theorem cne_s (f : Nat → Int) (c : Int) (n : Nat) : cne f c (n + 1) = cne f c n + if f n = c then 1 else 0 := rfl
theorem cne_le (f : Nat → Int) (c : Int) : ∀ n, cne f c n ≤ n
  | 0 => Nat.le_refl _
  | n + 1 => by
    have := cne_le f c n
    rw [cne_s]
    split <;> omega
theorem cne_mo {f : Nat → Int} {c : Int} {n : Nat} : ∀ {m : Nat}, n ≤ m → cne f c n ≤ cne f c m
  | 0, h => by rw [show n = 0 by omega]; exact Nat.le_refl _
  | m + 1, h => by
    by_cases z : n = m + 1
    · rw [z]; exact Nat.le_refl _
    · have := cne_mo (f := f) (c := c) (n := n) (m := m) (by omega)
      rw [cne_s]
      exact Nat.le_trans this (Nat.le_add_right _ _)
theorem cne_cg {f g : Nat → Int} {c : Int} : ∀ {n : Nat}, (∀ k, k < n → f k = g k) → cne f c n = cne g c n
  | 0, _ => rfl
  | n + 1, h => by
    rw [cne_s, cne_s, cne_cg (fun k hk => h k (by omega)), h n (by omega)]
theorem cne_up {f g : Nat → Int} {c : Int} {j : Nat} (h0 : f j ≠ c) (h1 : g j = c) (hg : ∀ k, k ≠ j → g k = f k) : ∀ {n : Nat}, j < n → cne g c n = cne f c n + 1
  | 0, h => absurd h (Nat.not_lt_zero _)
  | n + 1, h => by
    rw [cne_s, cne_s]
    by_cases z : j = n
    · subst z
      rw [cne_cg (g := f) (fun k hk => hg k (by omega)), if_pos h1, if_neg h0]
    · rw [cne_up h0 h1 hg (n := n) (by omega), hg n (fun e => z e.symm)]
      omega
theorem cne_ot {f g : Nat → Int} {c : Int} {j : Nat} (h0 : f j ≠ c) (h1 : g j ≠ c) (hg : ∀ k, k ≠ j → g k = f k) : ∀ {n : Nat}, cne g c n = cne f c n
  | 0 => rfl
  | n + 1 => by
    rw [cne_s, cne_s, cne_ot h0 h1 hg (n := n)]
    by_cases z : n = j
    · rw [z, if_neg h1, if_neg h0]
    · rw [hg n z]
theorem cne_lt {f : Nat → Int} {c : Int} {j : Nat} (h0 : f j ≠ c) : ∀ {n : Nat}, j < n → cne f c n < n
  | 0, h => absurd h (Nat.not_lt_zero _)
  | n + 1, h => by
    rw [cne_s]
    by_cases z : j = n
    · subst z
      have := cne_le f c j
      rw [if_neg h0]
      omega
    · have := cne_lt h0 (n := n) (by omega)
      split <;> omega
theorem cne_st {f : Nat → Int} {c : Int} {j : Nat} (h1 : f j = c) {n : Nat} (h : j < n) : cne f c j < cne f c n := by
  have q := cne_mo (f := f) (c := c) (n := j + 1) (m := n) h
  rw [cne_s] at q
  rw [if_pos h1] at q
  omega
theorem cne_0 {f : Nat → Int} {c : Int} : ∀ {n : Nat}, (∀ k, k < n → f k ≠ c) → cne f c n = 0
  | 0, _ => rfl
  | n + 1, h => by
    rw [cne_s, cne_0 (fun k hk => h k (by omega)), if_neg (h n (by omega))]
/-- the places of all values below m -/
def scn (f : Nat → Int) (n : Nat) : Nat → Nat
  | 0 => 0
  | m + 1 => scn f n m + cne f (m : Int) n
theorem scn_s {f : Nat → Int} {n : Nat} : ∀ (m : Nat), scn f (n + 1) m = scn f n m + if 0 ≤ f n ∧ f n < (m : Int) then 1 else 0
  | 0 => by
    show 0 = 0 + _
    rw [if_neg (by omega)]
  | m + 1 => by
    show scn f (n + 1) m + cne f (m : Int) (n + 1) = scn f n m + cne f (m : Int) n + _
    rw [scn_s m]
    rw [cne_s]
    by_cases z : f n = (m : Int)
    · rw [if_pos z, if_neg (by omega), if_pos (by omega)]
      omega
    · rw [if_neg z]
      by_cases y : 0 ≤ f n ∧ f n < (m : Int)
      · rw [if_pos y, if_pos (by omega)]; omega
      · rw [if_neg y, if_neg (by omega)]; omega
theorem scn_0 {f : Nat → Int} : ∀ (m : Nat), scn f 0 m = 0
  | 0 => rfl
  | m + 1 => by
    show scn f 0 m + 0 = 0
    rw [scn_0 m]
theorem scn_le {f : Nat → Int} (m : Nat) : ∀ (n : Nat), scn f n m ≤ n
  | 0 => by rw [scn_0]; exact Nat.le_refl _
  | n + 1 => by
    have := scn_le (f := f) m n
    rw [scn_s]
    split <;> omega
theorem scn_mo {f : Nat → Int} {n a : Nat} : ∀ {b : Nat}, a < b → scn f n a + cne f (a : Int) n ≤ scn f n b
  | 0, h => absurd h (Nat.not_lt_zero _)
  | b + 1, h => by
    show _ ≤ scn f n b + cne f (b : Int) n
    by_cases z : a = b
    · rw [z]; exact Nat.le_refl _
    · have := scn_mo (f := f) (n := n) (a := a) (b := b) (by omega)
      omega
