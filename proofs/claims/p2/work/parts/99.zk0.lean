/-! points and their neighbours -/
def nb (w L p d : Int) : Int := if p < L then (if d = 0 then (if 0 < p % w then p - 1 else -1) else if d = 1 then (if p % w < w - 1 then p + 1 else -1) else if d = 2 ∨ d = 3 then -1 else p + L) else (if d = 0 ∨ d = 1 then -1 else if d = 2 then (if w ≤ p - L then p - w else -1) else if d = 3 then (if p - L < L - w then p + w else -1) else p - L)
theorem em_up {p w : Int} (hw : 0 < w) (h : p % w < w - 1) : (p + 1) % w = p % w + 1 := by
  have e := Int.mul_ediv_add_emod p w
  have q := Int.emod_nonneg p (show w ≠ 0 by omega)
  have z : p + 1 = (p % w + 1) + w * (p / w) := by omega
  rw [z, Int.add_mul_emod_self_left, Int.emod_eq_of_lt (by omega) (by omega)]
theorem em_dn {p w : Int} (hw : 0 < w) (h : 0 < p % w) : (p - 1) % w = p % w - 1 := by
  have e := Int.mul_ediv_add_emod p w
  have q := Int.emod_lt_of_pos p hw
  have z : p - 1 = (p % w - 1) + w * (p / w) := by omega
  rw [z, Int.add_mul_emod_self_left, Int.emod_eq_of_lt (by omega) (by omega)]
theorem nb_0 {w L p : Int} (hp : p < L) (h : 0 < p % w) : nb w L p 0 = p - 1 := by
  unfold nb; rw [if_pos hp, if_pos rfl, if_pos h]
theorem nb_1 {w L p : Int} (hp : p < L) (h : p % w < w - 1) : nb w L p 1 = p + 1 := by
  unfold nb; rw [if_pos hp, if_neg (by decide), if_pos rfl, if_pos h]
theorem nb_4 {w L p : Int} (hp : p < L) : nb w L p 4 = p + L := by
  unfold nb; rw [if_pos hp, if_neg (by decide), if_neg (by decide), if_neg (by decide)]
theorem nb_2 {w L p : Int} (hp : L ≤ p) (h : w ≤ p - L) : nb w L p 2 = p - w := by
  unfold nb; rw [if_neg (by omega), if_neg (by decide), if_pos rfl, if_pos h]
theorem nb_3 {w L p : Int} (hp : L ≤ p) (h : p - L < L - w) : nb w L p 3 = p + w := by
  unfold nb; rw [if_neg (by omega), if_neg (by decide), if_neg (by decide), if_pos rfl, if_pos h]
theorem nb_5 {w L p : Int} (hp : L ≤ p) : nb w L p 4 = p - L := by
  unfold nb; rw [if_neg (by omega), if_neg (by decide), if_neg (by decide), if_neg (by decide)]
theorem em_p {p w : Int} (hp : 0 ≤ p) (h : 0 < p % w) : 1 ≤ p := by
  by_cases z : p = 0
  · rw [z, Int.zero_emod] at h
    exact absurd h (by decide)
  · omega
/-- a neighbour is a point -/
theorem nb_r {w L p d : Int} (hw : 0 < w) (hL : 0 < L) (hp : 0 ≤ p ∧ p < 2 * L) : nb w L p d = -1 ∨ (0 ≤ nb w L p d ∧ nb w L p d < 2 * L) := by
  unfold nb
  by_cases a : p < L
  · rw [if_pos a]
    by_cases b : d = 0
    · rw [if_pos b]
      by_cases c : 0 < p % w
      · rw [if_pos c]
        have := em_p hp.1 c
        right; omega
      · rw [if_neg c]; left; rfl
    · rw [if_neg b]
      by_cases e : d = 1
      · rw [if_pos e]
        split
        · right; omega
        · left; rfl
      · rw [if_neg e]
        split
        · left; rfl
        · right; omega
  · rw [if_neg a]
    by_cases b : d = 0 ∨ d = 1
    · rw [if_pos b]; left; rfl
    · rw [if_neg b]
      by_cases e : d = 2
      · rw [if_pos e]
        split
        · right; omega
        · left; rfl
      · rw [if_neg e]
        by_cases g : d = 3
        · rw [if_pos g]
          split
          · right; omega
          · left; rfl
        · rw [if_neg g]; right; omega
/-- the ways back -/
theorem nb_b0 {w L p : Int} (hw : 0 < w) (hp : p < L) (h : 0 < p % w) : nb w L (p - 1) 1 = p := by
  have q := Int.emod_lt_of_pos p hw
  rw [nb_1 (by omega) (by rw [em_dn hw h]; omega)]
  omega
theorem nb_b1 {w L p k : Int} (hw : 0 < w) (hp : p < L) (hk : L = k * w) (h : p % w < w - 1) : p + 1 < L ∧ nb w L (p + 1) 0 = p := by
  have q := Int.emod_nonneg p (show w ≠ 0 by omega)
  have e := em_up hw h
  have l : p + 1 < L := by
    by_cases z : p + 1 = L
    · rw [z, hk, Int.mul_emod_left] at e
      omega
    · omega
  refine ⟨l, ?_⟩
  rw [nb_0 l (by omega)]
  omega
def prc (o : Nat → Int) (t : Int) (p : Nat) : Int := if o p = -1 ∨ o p = t then 1 else 11
theorem prc_p (o : Nat → Int) (t : Int) (p : Nat) : 1 ≤ prc o t p := by
  unfold prc
  split <;> decide
/-- what has spread: distances f from the points of net t (owners o), rows nr, fr of points -/
def rsf (w L t : Int) (o f nr fr : Nat → Int) (nt ft : Int) : Prop :=
  (∀ p : Nat, (p : Int) < 2 * L → (f p = 0 ↔ o p = t)) ∧
  (∀ p : Nat, (p : Int) < 2 * L → 0 < f p → prc o t p ≤ f p ∧ ∃ d, (0 ≤ d ∧ d < 5) ∧ (0 ≤ nb w L p d ∧ nb w L p d < 2 * L) ∧ f (nb w L p d).toNat = f p - prc o t p) ∧
  nt + ft + (cne f (-1) (2 * L).toNat : Int) = 2 * L ∧
  (∀ i : Nat, (i : Int) < nt → (0 ≤ nr i ∧ nr i < 2 * L) ∧ 0 ≤ f (nr i).toNat) ∧
  (∀ i : Nat, (i : Int) < ft → (0 ≤ fr i ∧ fr i < 2 * L) ∧ 0 ≤ f (fr i).toNat) ∧
  ∀ p : Nat, (p : Int) < 2 * L → -1 ≤ f p ∧ f p ≤ 11 * (nt + ft)
theorem rsf_a {w L t q s b nt ft nt' ft' : Int} {o f nr fr f' nr' fr' : Nat → Int} (h : rsf w L t o f nr fr nt ft) (ht : 0 ≤ t) (hq : 0 ≤ q ∧ q < 2 * L) (hs : 0 ≤ s ∧ s < 2 * L) (hf : f q.toNat = -1) (hb : f s.toNat = b) (hb0 : 0 ≤ b) (hn : ∃ d, (0 ≤ d ∧ d < 5) ∧ nb w L q d = s) (hf' : ∀ k, f' k = if k = q.toNat then b + prc o t q.toNat else f k) (hx : nt' + ft' = nt + ft + 1)
    (h1 : ∀ i : Nat, (i : Int) < nt' → nr' i = q ∨ ((i : Int) < nt ∧ nr' i = nr i)) (h2 : ∀ i : Nat, (i : Int) < ft' → fr' i = q ∨ ((i : Int) < ft ∧ fr' i = fr i)) : rsf w L t o f' nr' fr' nt' ft' := by
  obtain ⟨A, B, C, D, E, G⟩ := h
  have pq := prc_p o t q.toNat
  have pq' : prc o t q.toNat ≤ 11 := by unfold prc; split <;> decide
  have fq : f' q.toNat = b + prc o t q.toNat := by rw [hf', if_pos rfl]
  have fo : ∀ k, f k ≠ -1 → f' k = f k := fun k hk => by
    rw [hf', if_neg (fun z => hk (by rw [z]; exact hf))]
  refine ⟨fun p hp => ?_, fun p hp h0 => ?_, ?_, fun i hi => ?_, fun i hi => ?_, fun p hp => ?_⟩
  · by_cases z : p = q.toNat
    · rw [z, fq, ← A q.toNat (by omega), hf]
      constructor
      · intro y; omega
      · intro y; omega
    · rw [hf', if_neg z]
      exact A p hp
  · by_cases z : p = q.toNat
    · rw [z, fq]
      refine ⟨by omega, ?_⟩
      obtain ⟨d, hd, e⟩ := hn
      refine ⟨d, hd, ?_⟩
      rw [show ((q.toNat : Nat) : Int) = q by omega, e]
      refine ⟨hs, ?_⟩
      rw [fo _ (by rw [hb]; omega), hb]
      omega
    · rw [hf', if_neg z] at h0 ⊢
      obtain ⟨x, d, hd, y, e⟩ := B p hp h0
      refine ⟨x, d, hd, y, ?_⟩
      rw [fo _ (by rw [e]; omega), e]
  · have u := cne_up (f := f') (g := f) (c := -1) (j := q.toNat) (by rw [fq]; omega) hf (fun k hk => by rw [hf', if_neg hk]) (n := (2 * L).toNat) (by omega)
    rw [u] at C
    push_cast at C
    omega
  · rcases h1 i hi with z | ⟨z, y⟩
    · rw [z, fq]; omega
    · have x := D i z
      rw [y, fo _ (by omega)]
      exact x
  · rcases h2 i hi with z | ⟨z, y⟩
    · rw [z, fq]; omega
    · have x := E i z
      rw [y, fo _ (by omega)]
      exact x
  · have g := G p hp
    rw [hf']
    split
    · have g2 := G s.toNat (by omega)
      rw [hb] at g2
      omega
    · omega
/-- points nearer than d -/
def cnd (f : Nat → Int) (d : Int) : Nat → Nat
  | 0 => 0
  | n + 1 => cnd f d n + if 0 ≤ f n ∧ f n < d then 1 else 0
theorem cnd_le (f : Nat → Int) (d : Int) : ∀ n, cnd f d n ≤ n
  | 0 => Nat.le_refl _
  | n + 1 => by
    have := cnd_le f d n
    show cnd f d n + _ ≤ _
    split <;> omega
theorem cnd_mo {f : Nat → Int} {d e : Int} (h : d ≤ e) : ∀ n, cnd f d n ≤ cnd f e n
  | 0 => Nat.le_refl _
  | n + 1 => by
    have := cnd_mo (f := f) h n
    show cnd f d n + _ ≤ cnd f e n + _
    by_cases a : 0 ≤ f n ∧ f n < d
    · rw [if_pos a, if_pos (by omega)]; omega
    · rw [if_neg a]; omega
theorem cnd_lt {f : Nat → Int} {d e : Int} {j : Nat} (h : d ≤ e) (h0 : 0 ≤ f j) (h1 : d ≤ f j) (h2 : f j < e) : ∀ {n : Nat}, j < n → cnd f d n < cnd f e n
  | 0, hj => absurd hj (Nat.not_lt_zero _)
  | n + 1, hj => by
    show cnd f d n + _ < cnd f e n + _
    by_cases z : j = n
    · subst z
      have := cnd_mo (f := f) h j
      rw [if_neg (by omega), if_pos ⟨h0, h2⟩]; omega
    · have := cnd_lt h h0 h1 h2 (n := n) (by omega)
      by_cases a : 0 ≤ f n ∧ f n < d
      · rw [if_pos a, if_pos (by omega)]; omega
      · rw [if_neg a]; omega
/-- a row and its rest -/
theorem cne_cp {f g : Nat → Int} {c d : Int} : ∀ {n : Nat}, (∀ k, k < n → (f k = c ↔ ¬ g k = d)) → cne f c n + cne g d n = n
  | 0, _ => rfl
  | n + 1, h => by
    have u := cne_cp (f := f) (g := g) (c := c) (d := d) (n := n) (fun k hk => h k (by omega))
    have v := h n (by omega)
    rw [cne_s, cne_s]
    by_cases z : g n = d
    · rw [if_pos z, if_neg (fun y => v.mp y z)]; omega
    · rw [if_neg z, if_pos (v.mpr z)]; omega
