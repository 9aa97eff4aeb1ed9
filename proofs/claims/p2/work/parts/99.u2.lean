/-! shifts by a number, counting -/
theorem i_shl1 {e : Int} (h0 : 0 ≤ e) (h1 : e ≤ 30) : i_shl 1 e = 2 ^ e.toNat := by
  obtain ⟨k, rfl⟩ : ∃ k : Nat, e = (k : Int) := ⟨e.toNat, by omega⟩
  have hp : (2 : Nat) ^ k ≤ 2 ^ 30 := Nat.pow_le_pow_right (by decide) (by omega)
  have hp1 : (2 : Int) ^ k = ((2 ^ k : Nat) : Int) := by push_cast; rfl
  have hp2 : (2 : Int) ^ k ≤ 2 ^ 30 := by rw [hp1]; exact_mod_cast hp
  have hp3 : (0 : Int) ≤ 2 ^ k := by rw [hp1]; exact Int.natCast_nonneg _
  have hp4 : (2 : Int) ^ k ≤ 1073741824 := hp2
  have := bs_shl (k := k) (x := 1) (by omega) ⟨by omega, by omega⟩
  unfold i_shl
  rw [this, Int.toNat_natCast, Int.one_mul]
theorem i_shrv {x e : Int} (h0 : 0 ≤ e) (h1 : e ≤ 31) (hx : -2147483648 ≤ x ∧ x ≤ 2147483647) : i_shr x e = x / 2 ^ e.toNat := by
  obtain ⟨k, rfl⟩ : ∃ k : Nat, e = (k : Int) := ⟨e.toNat, by omega⟩
  have := bs_shr (k := k) (x := x) (by omega) hx
  unfold i_shr
  rw [this, Int.toNat_natCast]
theorem pw_pos (n : Nat) : (0 : Int) < 2 ^ n := by
  have : 0 < (2 : Nat) ^ n := Nat.pow_pos (by decide)
  exact_mod_cast this
theorem pw_le {n m : Nat} (h : n ≤ m) : (2 : Int) ^ n ≤ 2 ^ m := by
  have : (2 : Nat) ^ n ≤ 2 ^ m := Nat.pow_le_pow_right (by decide) h
  exact_mod_cast this
theorem pw_add (n m : Nat) : (2 : Int) ^ (n + m) = 2 ^ n * 2 ^ m := Int.pow_add 2 n m
/-- x below 2 to the a + b: its part above the lowest a bits is below 2 to the b -/
theorem shr_lt {x a b : Int} (hx : 0 ≤ x) (ha : 0 ≤ a) (hb : 0 ≤ b) (h : x < 2 ^ (a + b).toNat) : 0 ≤ x / 2 ^ a.toNat ∧ x / 2 ^ a.toNat < 2 ^ b.toNat := by
  have e : (a + b).toNat = a.toNat + b.toNat := by omega
  rw [e, pw_add] at h
  refine ⟨Int.ediv_nonneg hx (Int.le_of_lt (pw_pos _)), ?_⟩
  rw [Int.ediv_lt_iff_lt_mul (pw_pos _), Int.mul_comm]
  exact h
def cn1 (f : Nat → Int) : Nat → Nat
  | 0 => 0
  | n + 1 => cn1 f n + if f n = 1 then 1 else 0
theorem cn1_le (f : Nat → Int) : ∀ n, cn1 f n ≤ n
  | 0 => Nat.le_refl _
  | n + 1 => by
    have := cn1_le f n
    unfold cn1
    split <;> omega
theorem cn1_cg {f g : Nat → Int} : ∀ {n : Nat}, (∀ k, k < n → f k = g k) → cn1 f n = cn1 g n
  | 0, _ => rfl
  | n + 1, h => by
    unfold cn1
    rw [cn1_cg (fun k hk => h k (by omega)), h n (by omega)]
theorem cn1_up {f g : Nat → Int} {j : Nat} (h0 : f j ≠ 1) (h1 : g j = 1) (hg : ∀ k, k ≠ j → g k = f k) : ∀ {n : Nat}, j < n → cn1 g n = cn1 f n + 1
  | 0, h => absurd h (Nat.not_lt_zero _)
  | n + 1, h => by
    unfold cn1
    by_cases q : j = n
    · subst q
      rw [cn1_cg (fun k hk => hg k (by omega)), if_pos h1, if_neg h0]
    · rw [cn1_up h0 h1 hg (by omega), hg n (fun e => q e.symm)]
      omega
/-- with a place that is not 1 there are less than n -/
theorem cn1_lt {f : Nat → Int} {j : Nat} (h0 : f j ≠ 1) : ∀ {n : Nat}, j < n → cn1 f n < n
  | 0, h => absurd h (Nat.not_lt_zero _)
  | n + 1, h => by
    unfold cn1
    by_cases q : j = n
    · subst q
      have := cn1_le f j
      rw [if_neg h0]
      omega
    · have := cn1_lt h0 (n := n) (by omega)
      split <;> omega
/-- just one place is 1 -/
theorem cn1_one {f : Nat → Int} {j : Nat} (h : ∀ k, f k = 1 ↔ k = j) : ∀ n, cn1 f n = if j < n then 1 else 0
  | 0 => rfl
  | n + 1 => by
    unfold cn1
    rw [cn1_one h n]
    by_cases q : n = j
    · subst q
      rw [if_pos ((h n).mpr rfl), if_neg (by omega), if_pos (by omega)]
    · rw [if_neg (fun e => q ((h n).mp e))]
      by_cases g : j < n
      · rw [if_pos g, if_pos (by omega)]
      · rw [if_neg g, if_neg (by omega)]
/-! a call that returns or throws, where no handler is -/
theorem sm_T_calx {P : sm_P} {d d1 mid pc n0 a b v : Nat} {z : Int} {L : sm_L} {st : List sm_V} {S : sm_S} {Q : sm_R → Prop} {Q1 : Option sm_V → sm_S → Prop} {Q2 : sm_S → Prop} (hx : P.1 mid pc = some (40, n0, a, b, v, z))
    (hc : (L.length = (P.2.1 mid).2 && (st.take b).length = b && ((st.drop b).map sm_cat).sum ≤ 8 && (v = 1 || sm_rcv (P.2.1 a).1 (st.take b).reverse) && (sm_vsl (st.take b).reverse).length ≤ (P.2.1 a).2) = true)
    (hd : d1 ≤ d) (hsub : sm_T P d1 a (0, sm_ent (P.2.1 a).2 (st.take b).reverse, [], S) (fun r => (∃ u S1, r = (.inl u, S1, 0) ∧ Q1 u S1) ∨ ∃ S1, r = (.inr 2, S1, 1) ∧ Q2 S1))
    (hh : P.2.2.1 mid = []) (kx : ∀ S1, Q2 S1 → Q (.inr 2, S1, 1))
    (kn : ∀ u S1, Q1 u S1 → sm_T P (d + 1) mid (pc + 3, L, u.toList ++ st.drop b, S1) Q) : sm_T P (d + 1) mid (pc, L, st, S) Q := by
  refine sm_T_call hx hc (hsub.deep hd) (fun u S1 k1 q => ?_) (fun ex S1 k1 q => ?_)
  · rcases q with ⟨u', S1', e, q⟩ | ⟨S1', e, q⟩
    · cases e
      exact (kn _ _ q).mono (fun r h => by rw [sm_add_0]; exact h)
    · cases e
  · rcases q with ⟨u', S1', e, q⟩ | ⟨S1', e, q⟩
    · cases e
    · cases e
      rw [hh]
      exact ⟨rfl, kx _ q⟩
theorem fr_arr {W : ai_W} {S S' : sm_S} {t i : Nat} (h : ai_fr W S S') (ht : W.2.1 t = false) : S'.2.2.1 t i = S.2.2.1 t i := funext fun k => (h.2.2 t ht i k).1
theorem fr_arl {W : ai_W} {S S' : sm_S} {t i : Nat} (h : ai_fr W S S') (ht : W.2.1 t = false) : S'.2.2.2 t i = S.2.2.2 t i := funext fun k => (h.2.2 t ht i k).2
