/-! tokens by their places: kind (0 the end, -1 bad, 1 a name, 2 a number, 3 .. 9 words, else a sign), end, size, value, the next one's place -/
def lx_kd (b : Nat → Int) (n p : Nat) : Int := if n ≤ p then 0 else if lx_l (b p) then (if lx_ne b n p - p ≤ 12 then lx_wk (lx_pk b p (lx_ne b n p - p)) 7 else -1) else if lx_g (b p) then (if lx_de b n p - p ≤ 6 then 2 else -1) else if lx_sk b n p = 0 then -1 else lx_sk b n p
def lx_en (b : Nat → Int) (n p : Nat) : Nat := if n ≤ p then p else if lx_l (b p) then lx_ne b n p else if lx_g (b p) then lx_de b n p else lx_sn b n p
def lx_sz (b : Nat → Int) (n p : Nat) : Nat := if n ≤ p then 0 else if lx_l (b p) then lx_ne b n p - p else if lx_g (b p) then lx_de b n p - p else 0
def lx_vl (b : Nat → Int) (n p : Nat) : Int := lx_v b p (min (lx_de b n p - p) 6)
def lx_nx (b : Nat → Int) (n p : Nat) : Nat := lx_k b n (lx_en b n p)
theorem lx_en_le {b : Nat → Int} {n p : Nat} (h : p ≤ n) : p ≤ lx_en b n p ∧ lx_en b n p ≤ n := by
  have h1 := lx_ne_le (b := b) h
  have h2 := lx_de_le (b := b) h
  unfold lx_en
  split
  · omega
  · rename_i q
    have h3 := lx_sn_le (b := b) (show p < n by omega)
    split
    · omega
    · split <;> omega
theorem lx_nx_le {b : Nat → Int} {n p : Nat} (h : p ≤ n) : p ≤ lx_nx b n p ∧ lx_nx b n p ≤ n := by
  have h1 := lx_en_le (b := b) h
  have h2 := lx_k_le (b := b) h1.2
  unfold lx_nx
  omega
theorem lx_wk_7 (x : Int) : 1 ≤ lx_wk x 7 ∧ lx_wk x 7 ≤ 9 ∧ lx_wk x 7 ≠ 2 := by
  have h := lx_wk_b x 7
  refine ⟨h.1, h.2, ?_⟩
  simp only [lx_wk]
  repeat' split
  all_goals decide
theorem lx_sk_b {b : Nat → Int} {n p : Nat} : lx_sk b n p = 0 ∨ 33 ≤ lx_sk b n p := by
  unfold lx_sk
  split
  · omega
  · split
    · omega
    · split
      · rename_i h; right; rcases h with h | h | h | h | h | h | h | h | h | h | h | h | h | h | h | h <;> omega
      · left; rfl
/-- errors: a code and a place; or what comes of it -/
abbrev pE (α : Type) : Type := (Int × Nat) ⊕ α
def pb {α β : Type} (x : pE α) (f : α → pE β) : pE β := match x with
  | .inl e => .inl e
  | .inr a => f a
/-- the next token is taken -/
def p_ad (b : Nat → Int) (n p : Nat) : pE Nat := if lx_kd b n (lx_nx b n p) = -1 then .inl (1, lx_nx b n p) else .inr (lx_nx b n p)
def p_nd (b : Nat → Int) (n : Nat) (w : Int) (p : Nat) : pE Nat := if lx_kd b n p = w then p_ad b n p else .inl (2, p)
/-- the class's token at hand is that at p -/
def ct (b : Nat → Int) (n p : Nat) (S : sm_S) : Prop := S.2.2.1 98 0 = b ∧ S.1 10 0 1 = (n : Int) ∧ n ≤ 1280 ∧ p ≤ n ∧ lx_kd b n p ≠ -1 ∧ S.1 10 0 3 = (p : Int) ∧ S.1 10 0 8 = (lx_en b n p : Nat) ∧ S.1 10 0 2 = lx_kd b n p ∧ S.1 10 0 4 = (lx_sz b n p : Nat) ∧ (lx_kd b n p = 2 → S.1 10 0 5 = lx_vl b n p)
def ter (S : sm_S) (e : Int × Nat) : Prop := S.1 10 0 6 = e.1 ∧ S.1 10 0 7 = (e.2 : Int)
/-! rows of longs, bytes that are stored -/
theorem rd_leq {S : sm_S} {i k' t k : Nat} {z : Int} : (sm_aL S t i k z).2.2.2 t i k' = if k' = k then z else S.2.2.2 t i k' := by
  rw [rd_ll]
  by_cases q : k' = k
  · rw [if_pos ⟨rfl, rfl, q⟩, if_pos q]
  · rw [if_neg (fun h => q h.2.2), if_neg q]
theorem rd_lne {S : sm_S} {t' i' k' t i k : Nat} {z : Int} (h : t' ≠ t) : (sm_aL S t i k z).2.2.2 t' i' k' = S.2.2.2 t' i' k' := by
  rw [rd_ll, if_neg (fun q => h q.1)]
theorem sm_narb {x : Int} (hv : -128 ≤ x ∧ x ≤ 127) : (vp_nar .byte (Int32.ofInt x)).toInt = x := by
  obtain ⟨k, rfl⟩ : ∃ k : Nat, x = (k : Int) - 128 := ⟨(x + 128).toNat, by omega⟩
  have : ∀ k : Nat, k < 256 → (vp_nar .byte (Int32.ofInt ((k : Int) - 128))).toInt = (k : Int) - 128 := by decide +kernel
  exact this k (by omega)
theorem sm_T_bas1 {P : sm_P} {d mid pc n0 a b e : Nat} {z : Int} {L : sm_L} {r : List sm_V} {S : sm_S} {Q : sm_R → Prop} {t i n : Nat} {k x : Int} (hx : P.1 mid pc = some (34, n0, a, b, e, z)) (hkd : sh_kd t = (2, 1, n)) (h0 : 0 ≤ k) (h1 : k < n) (hv : -128 ≤ x ∧ x ≤ 127) (kk : sm_T P d mid (pc + 1, L, r, sm_aI S t i k.toNat x) Q) : sm_T P d mid (pc, L, .inl x :: .inl k :: .inr (.inr (some (t, i))) :: r, S) Q :=
  sm_T_bast hx hkd h0 h1 (by rw [sm_narb hv]; exact kk)
/-! the reference's tokens -/
def rb (b : Nat → Int) (n k : Nat) : Int := if k < n then b k % 256 else -1
theorem rb_l {b : Nat → Int} {n k : Nat} (hb : -128 ≤ b k ∧ b k ≤ 127) : lx_l (rb b n k) ↔ k < n ∧ lx_l (b k) := by
  unfold rb
  split
  · constructor <;> intro h <;> omega
  · constructor <;> intro h <;> omega
theorem rb_g {b : Nat → Int} {n k : Nat} (hb : -128 ≤ b k ∧ b k ≤ 127) : lx_g (rb b n k) ↔ k < n ∧ lx_g (b k) := by
  unfold rb
  split
  · constructor <;> intro h <;> omega
  · constructor <;> intro h <;> omega
/-- a small character -/
theorem rb_c {b : Nat → Int} {n k : Nat} {c : Int} (hb : -128 ≤ b k ∧ b k ≤ 127) (hc : 0 ≤ c ∧ c ≤ 127) : rb b n k = c ↔ k < n ∧ b k = c := by
  unfold rb
  split
  · constructor <;> intro h <;> omega
  · constructor <;> intro h <;> omega
def r_so (kd : Int) : Int := if kd = -1 then 4 else if kd = 1 then 1 else if kd = 2 then 2 else if kd ≤ 9 then 6 else 3
def r_nu (kd vl : Int) : Int := if kd = 1 then 0 else if kd = 2 then vl else if kd ≤ 9 then kd - 2 else kd
