/-! arithmetic -/
def sx_ok (iv : sx_I) (fs : List sx_E) (e : sx_E) : Bool := decide (-2147483648 ≤ sx_low iv fs e) && decide (sx_hi iv fs e ≤ 2147483647)
/-- a fresh atom -/
def sx_new (lo hi : Int) (a : sx_C) : sx_E × sx_C := match a with
  | (pc, aL, st, m, nn, iv, fs, k, t) => (sx_a iv.length, (pc, aL, st, m, nn, iv ++ [(lo, hi)], fs, k, t))
/-- an expression, if it can't wrap; else any number -/
def sx_rg (e : sx_E) (a : sx_C) : sx_E × sx_C := if sx_ok a.2.2.2.2.2.1 a.2.2.2.2.2.2.1 e then (e, a) else sx_new (-2147483648) 2147483647 a
/-- a fresh atom with two facts -/
def sx_new2 (lo hi : Int) (f1 f2 : sx_E) (a : sx_C) : sx_E × sx_C := match a with
  | (pc, aL, st, m, nn, iv, fs, k, t) => (sx_a iv.length, (pc, aL, st, m, nn, iv ++ [(lo, hi)], f1 :: f2 :: fs, k, t))
/-- x divided by c > 0, down to the next integer -/
def sx_dv (x : sx_E) (c : Int) (a : sx_C) : sx_E × sx_C := sx_new2 (sx_low a.2.2.2.2.2.1 a.2.2.2.2.2.2.1 x / c) (sx_hi a.2.2.2.2.2.1 a.2.2.2.2.2.2.1 x / c) (sx_ad (-c) x (sx_a a.2.2.2.2.2.1.length)) (sx_ad (-1) (sx_ad c (c - 1, []) (sx_a a.2.2.2.2.2.1.length)) x) a
def sx_ai (a : sx_C) (e : sx_E) : ai_I := (sx_low a.2.2.2.2.2.1 a.2.2.2.2.2.2.1 e, sx_hi a.2.2.2.2.2.1 a.2.2.2.2.2.2.1 e, none, none)
/-- x is a number, y a bit -/
def sx_bit (a : sx_C) (x y : sx_E) : Bool := decide (0 ≤ sx_low a.2.2.2.2.2.1 a.2.2.2.2.2.2.1 x) && decide (0 ≤ sx_low a.2.2.2.2.2.1 a.2.2.2.2.2.2.1 y) && decide (sx_hi a.2.2.2.2.2.1 a.2.2.2.2.2.2.1 y ≤ 1)
theorem sx_xor1 {x y : Int} (hx0 : 0 ≤ x) (hx : x ≤ 2147483647) (hy0 : 0 ≤ y) (hy : y ≤ 1) : x - x % 2 ≤ (Int32.ofInt x ^^^ Int32.ofInt y).toInt ∧ (Int32.ofInt x ^^^ Int32.ofInt y).toInt ≤ x - x % 2 + 1 := by
  rw [bt_xor_nat hx0 hx hy0 (by omega)]
  have h1 := Nat.xor_div_two (a := x.toNat) (b := y.toNat)
  have h2 : y.toNat / 2 = 0 := by omega
  rw [h2, Nat.xor_zero] at h1
  omega
/-- bits that two numbers need -/
def sx_lg (n : Int) : Nat → Nat → Nat
  | 0, k => k
  | f + 1, k => if n < 2 ^ k then k else sx_lg n f (k + 1)
def sx_lg2 (a : sx_C) (x y : sx_E) : Nat := sx_lg (max (sx_hi a.2.2.2.2.2.1 a.2.2.2.2.2.2.1 x) (sx_hi a.2.2.2.2.2.1 a.2.2.2.2.2.2.1 y)) 31 0
def sx_two2 (a : sx_C) (x y : sx_E) : Bool := decide (0 ≤ sx_low a.2.2.2.2.2.1 a.2.2.2.2.2.2.1 x) && decide (0 ≤ sx_low a.2.2.2.2.2.1 a.2.2.2.2.2.2.1 y) && decide (sx_lg2 a x y ≤ 31) && decide (sx_hi a.2.2.2.2.2.1 a.2.2.2.2.2.2.1 x < 2 ^ sx_lg2 a x y) && decide (sx_hi a.2.2.2.2.2.1 a.2.2.2.2.2.2.1 y < 2 ^ sx_lg2 a x y)
def sx_bi (k : Nat) (x y : sx_E) (a : sx_C) : Option (sx_E × sx_C) :=
  if k = 0 then some (sx_rg (sx_ad 1 x y) a)
  else if k = 1 then some (sx_rg (sx_ad (-1) x y) a)
  else if k = 2 && y.2 = [] then some (sx_rg (sx_sc y.1 x) a)
  else if k = 2 && x.2 = [] then some (sx_rg (sx_sc x.1 y) a)
  else if k = 6 && y.2 = [] && decide (0 ≤ y.1) && decide (y.1 ≤ 31) then some (sx_rg (sx_sc (2 ^ y.1.toNat) x) a)
  else if k = 7 && y.2 = [] && decide (0 ≤ y.1) && decide (y.1 ≤ 31) then some (sx_dv x (2 ^ y.1.toNat) a)
  else if k = 8 && y.2 = [] && decide (0 < y.1) && decide (y.1 ≤ 2147483647) && decide (0 ≤ sx_low a.2.2.2.2.2.1 a.2.2.2.2.2.2.1 x) then some (sx_dv x y.1 a)
  else if k = 5 && sx_bit a x y then some (sx_new (sx_low a.2.2.2.2.2.1 a.2.2.2.2.2.2.1 x - sx_low a.2.2.2.2.2.1 a.2.2.2.2.2.2.1 x % 2) (sx_hi a.2.2.2.2.2.1 a.2.2.2.2.2.2.1 x + 1 - sx_hi a.2.2.2.2.2.1 a.2.2.2.2.2.2.1 x % 2) a)
  else if k = 5 && sx_bit a y x then some (sx_new (sx_low a.2.2.2.2.2.1 a.2.2.2.2.2.2.1 y - sx_low a.2.2.2.2.2.1 a.2.2.2.2.2.2.1 y % 2) (sx_hi a.2.2.2.2.2.1 a.2.2.2.2.2.2.1 y + 1 - sx_hi a.2.2.2.2.2.1 a.2.2.2.2.2.2.1 y % 2) a)
  else if (k = 4 || k = 5) && sx_two2 a x y then some (sx_new 0 (2 ^ sx_lg2 a x y - 1) a)
  else match ai_bin k (sx_ai a x) (sx_ai a y) with
    | some r => some (sx_new r.1 r.2.1 a)
    | none => none
section SD
variable {ρ : Nat → Int} {τ : Nat → Nat}
theorem sx_bd {a : sx_C} {c : sm_C} {e : sx_E} (g : sx_gC ρ τ a c) (we : sx_wf a.2.2.2.2.2.1.length e) : sx_low a.2.2.2.2.2.1 a.2.2.2.2.2.2.1 e ≤ sx_ev ρ e ∧ sx_ev ρ e ≤ sx_hi a.2.2.2.2.2.1 a.2.2.2.2.2.2.1 e := by
  obtain ⟨pc, aL, st, m, nn, iv, fs, kk, t⟩ := a
  obtain ⟨-, -, -, -, -, gi, gf, -, -⟩ := g
  exact ⟨sx_low_le gi gf we, sx_hi_le gi gf we⟩
/-- what is promised of a new value: an old valuation goes on to a new one, in which it has the value -/
def sx_nv (ρ : Nat → Int) (τ : Nat → Nat) (a : sx_C) (c : sm_C) (r : sx_E × sx_C) (v : Int) : Prop := ∃ ρ', sx_lk a.2.2.2.2.2.1.length a.2.2.2.2.2.2.2.2 ρ ρ' τ τ ∧ sx_gC ρ' τ r.2 c ∧ sx_ev ρ' r.1 = v ∧ sx_wf r.2.2.2.2.2.2.1.length r.1 ∧ a.2.2.2.2.2.1.length ≤ r.2.2.2.2.2.2.1.length ∧ r.2.1 = a.1 ∧ r.2.2.1 = a.2.1 ∧ r.2.2.2.1 = a.2.2.1 ∧ r.2.2.2.2.2.2.2.2.2 = a.2.2.2.2.2.2.2.2
theorem sx_new_g {a : sx_C} {c : sm_C} {lo hi v : Int} (g : sx_gC ρ τ a c) (h1 : lo ≤ v) (h2 : v ≤ hi) : sx_nv ρ τ a c (sx_new lo hi a) v := by
  obtain ⟨pc, aL, st, m, nn, iv, fs, k, t⟩ := a
  obtain ⟨ρ', l, e, g'⟩ := sx_fresh g h1 h2
  have hl : (iv ++ [(lo, hi)]).length = iv.length + 1 := by rw [List.length_append]; rfl
  refine ⟨ρ', l, g', e, ?_, ?_, rfl, rfl, rfl, rfl⟩
  · show sx_wf (iv ++ [(lo, hi)]).length (sx_a iv.length)
    rw [hl]
    exact sx_a_wf (Nat.lt_succ_self _)
  · show iv.length ≤ (iv ++ [(lo, hi)]).length
    omega
theorem sx_new2_g {a : sx_C} {c : sm_C} {lo hi v : Int} {f1 f2 : sx_E} (g : sx_gC ρ τ a c) (h1 : lo ≤ v) (h2 : v ≤ hi) (w1 : sx_wf (a.2.2.2.2.2.1.length + 1) f1) (w2 : sx_wf (a.2.2.2.2.2.1.length + 1) f2) (hf : ∀ ρ', sx_lk a.2.2.2.2.2.1.length a.2.2.2.2.2.2.2.2 ρ ρ' τ τ → ρ' a.2.2.2.2.2.1.length = v → 0 ≤ sx_ev ρ' f1 ∧ 0 ≤ sx_ev ρ' f2) : sx_nv ρ τ a c (sx_new2 lo hi f1 f2 a) v := by
  obtain ⟨pc, aL, st, m, nn, iv, fs, k, t⟩ := a
  obtain ⟨ρ', l, e, ⟨q0, q1, q2, q3, q4, q5, q6, q7⟩⟩ := sx_fresh g h1 h2
  have hl : (iv ++ [(lo, hi)]).length = iv.length + 1 := by rw [List.length_append]; rfl
  have e' := e
  rw [sx_a_ev] at e'
  have hf' := hf ρ' l e'
  refine ⟨ρ', l, ⟨q0, q1, q2, q3, q4, q5, fun f hf' => ?_, q7⟩, e, ?_, ?_, rfl, rfl, rfl, rfl⟩
  · rcases List.mem_cons.mp hf' with rfl | hf'
    · exact ⟨(by show sx_wf (iv ++ [(lo, hi)]).length _; rw [hl]; exact w1), (hf ρ' l e').1⟩
    · rcases List.mem_cons.mp hf' with rfl | hf'
      · exact ⟨(by show sx_wf (iv ++ [(lo, hi)]).length _; rw [hl]; exact w2), (hf ρ' l e').2⟩
      · exact q6 f hf'
  · show sx_wf (iv ++ [(lo, hi)]).length (sx_a iv.length)
    rw [hl]
    exact sx_a_wf (Nat.lt_succ_self _)
  · show iv.length ≤ (iv ++ [(lo, hi)]).length
    omega
theorem sx_dv_g {a : sx_C} {c : sm_C} {x : sx_E} {d : Int} (g : sx_gC ρ τ a c) (wx : sx_wf a.2.2.2.2.2.1.length x) (hd : 0 < d) : sx_nv ρ τ a c (sx_dv x d a) (sx_ev ρ x / d) := by
  have hb := sx_bd g wx
  have wx' := sx_wf_mono (Nat.le_succ _) wx
  have wa : sx_wf (a.2.2.2.2.2.1.length + 1) (sx_a a.2.2.2.2.2.1.length) := sx_a_wf (Nat.lt_succ_self _)
  refine sx_new2_g g (Int.ediv_le_ediv hd hb.1) (Int.ediv_le_ediv hd hb.2) (sx_ad_wf wx' wa) (sx_ad_wf (sx_ad_wf (fun _ h => absurd h List.not_mem_nil) wa) wx') (fun ρ' l e => ?_)
  have h1 := Int.mul_ediv_add_emod (sx_ev ρ x) d
  have h2 := Int.emod_nonneg (sx_ev ρ x) (Int.ne_of_gt hd)
  have h3 := Int.emod_lt_of_pos (sx_ev ρ x) hd
  rw [sx_ad_ev, sx_ad_ev, sx_ad_ev, sx_a_ev, e, sx_ev_up l.1 wx]
  have h4 : sx_ev ρ' ((d - 1, []) : sx_E) = d - 1 := Int.add_zero _
  rw [h4, Int.neg_mul]
  omega
theorem sx_rg_g {a : sx_C} {c : sm_C} {e : sx_E} {v : Int} (g : sx_gC ρ τ a c) (we : sx_wf a.2.2.2.2.2.1.length e) (h1 : sm_ni (sx_ev ρ e) → v = sx_ev ρ e) (h2 : sm_ni v) : sx_nv ρ τ a c (sx_rg e a) v := by
  unfold sx_rg
  split
  · rename_i h
    unfold sx_ok at h
    simp only [Bool.and_eq_true, decide_eq_true_eq] at h
    have hb := sx_bd g we
    exact ⟨ρ, ⟨fun _ _ => rfl, fun _ _ => rfl⟩, g, (h1 (by unfold sm_ni; omega)).symm, we, Nat.le_refl _, rfl, rfl, rfl, rfl⟩
  · unfold sm_ni at h2
    exact sx_new_g g h2.1 h2.2
theorem sx_cst {e : sx_E} (h : e.2 = []) : sx_ev ρ e = e.1 := by
  unfold sx_ev
  rw [h]
  exact Int.add_zero _
theorem sx_bi_g {k : Nat} {x y : sx_E} {a : sx_C} {c : sm_C} {r : sx_E × sx_C} (h : sx_bi k x y a = some r) (g : sx_gC ρ τ a c) (wx : sx_wf a.2.2.2.2.2.1.length x) (wy : sx_wf a.2.2.2.2.2.1.length y) (nx : sm_ni (sx_ev ρ x)) (ny : sm_ni (sx_ev ρ y)) : ∃ v, sm_bin k (sx_ev ρ x) (sx_ev ρ y) = some v ∧ sx_nv ρ τ a c r v := by
  unfold sx_bi at h
  split at h
  · rename_i e
    subst e
    cases h
    refine ⟨_, rfl, sx_rg_g g (sx_ad_wf wx wy) (fun q => ?_) (sm_ni_toInt _)⟩
    rw [sx_ad_ev, Int.one_mul] at q ⊢
    exact ar_add q
  split at h
  · rename_i e
    subst e
    cases h
    refine ⟨_, rfl, sx_rg_g g (sx_ad_wf wx wy) (fun q => ?_) (sm_ni_toInt _)⟩
    rw [sx_ad_ev, show sx_ev ρ x + -1 * sx_ev ρ y = sx_ev ρ x - sx_ev ρ y by omega] at q ⊢
    exact ar_sub q
  split at h
  · rename_i e
    simp only [Bool.and_eq_true, decide_eq_true_eq] at e
    obtain ⟨rfl, e⟩ := e
    cases h
    refine ⟨_, rfl, sx_rg_g g (sx_sc_wf wx) (fun q => ?_) (sm_ni_toInt _)⟩
    rw [sx_sc_ev, ← sx_cst (ρ := ρ) e, Int.mul_comm] at q ⊢
    exact ar_mul q
  split at h
  · rename_i e
    simp only [Bool.and_eq_true, decide_eq_true_eq] at e
    obtain ⟨rfl, e⟩ := e
    cases h
    refine ⟨_, rfl, sx_rg_g g (sx_sc_wf wy) (fun q => ?_) (sm_ni_toInt _)⟩
    rw [sx_sc_ev, ← sx_cst (ρ := ρ) e] at q ⊢
    exact ar_mul q
  split at h
  · rename_i e
    simp only [Bool.and_eq_true, decide_eq_true_eq] at e
    obtain ⟨⟨⟨rfl, e⟩, e1⟩, e2⟩ := e
    cases h
    refine ⟨_, rfl, sx_rg_g g (sx_sc_wf wx) (fun q => ?_) (sm_ni_toInt _)⟩
    rw [sx_sc_ev, Int.mul_comm] at q ⊢
    rw [sx_cst (ρ := ρ) e]
    have hy : y.1 = ((y.1.toNat : Nat) : Int) := by omega
    have := bs_shl (k := y.1.toNat) (x := sx_ev ρ x) (by omega) q
    rw [← hy] at this
    exact this
  split at h
  · rename_i e
    simp only [Bool.and_eq_true, decide_eq_true_eq] at e
    obtain ⟨⟨⟨rfl, e⟩, e1⟩, e2⟩ := e
    cases h
    have hy : y.1 = ((y.1.toNat : Nat) : Int) := by omega
    have hs := bs_shr (k := y.1.toNat) (x := sx_ev ρ x) (by omega) nx
    rw [← hy] at hs
    refine ⟨_, ?_, sx_dv_g g wx (ai_pow_pos _)⟩
    rw [sx_cst (ρ := ρ) e]
    exact congrArg some hs
  split at h
  · rename_i e
    simp only [Bool.and_eq_true, decide_eq_true_eq] at e
    obtain ⟨⟨⟨⟨rfl, e⟩, e1⟩, e2⟩, e3⟩ := e
    cases h
    have hx := sx_bd g wx
    unfold sm_ni at nx ny
    refine ⟨_, ?_, sx_dv_g g wx e1⟩
    rw [sx_cst (ρ := ρ) e]
    show (if Int32.ofInt y.1 = 0 then none else some (Int32.ofInt (sx_ev ρ x) / Int32.ofInt y.1).toInt) = _
    rw [if_neg (by rw [sm_i0, sm_eq (by unfold sm_ni; omega) sm_n0]; omega), bs_div (by omega) (by omega) e1 (by omega)]
  split at h
  · rename_i e
    simp only [Bool.and_eq_true, decide_eq_true_eq] at e
    obtain ⟨rfl, e⟩ := e
    unfold sx_bit at e
    simp only [Bool.and_eq_true, decide_eq_true_eq] at e
    cases h
    have hx := sx_bd g wx
    have hy := sx_bd g wy
    unfold sm_ni at nx ny
    have hv := sx_xor1 (x := sx_ev ρ x) (y := sx_ev ρ y) (by omega) (by omega) (by omega) (by omega)
    exact ⟨_, rfl, sx_new_g g (by omega) (by omega)⟩
  split at h
  · rename_i e
    simp only [Bool.and_eq_true, decide_eq_true_eq] at e
    obtain ⟨rfl, e⟩ := e
    unfold sx_bit at e
    simp only [Bool.and_eq_true, decide_eq_true_eq] at e
    cases h
    have hx := sx_bd g wx
    have hy := sx_bd g wy
    unfold sm_ni at nx ny
    have hv := sx_xor1 (x := sx_ev ρ y) (y := sx_ev ρ x) (by omega) (by omega) (by omega) (by omega)
    refine ⟨_, rfl, sx_new_g g ?_ ?_⟩
    · rw [Int32.xor_comm]
      omega
    · rw [Int32.xor_comm]
      omega
  split at h
  · rename_i e
    simp only [Bool.and_eq_true, Bool.or_eq_true, decide_eq_true_eq] at e
    obtain ⟨ek, e⟩ := e
    unfold sx_two2 at e
    simp only [Bool.and_eq_true, decide_eq_true_eq] at e
    obtain ⟨⟨⟨⟨e1, e2⟩, e3⟩, e4⟩, e5⟩ := e
    cases h
    have hx := sx_bd g wx
    have hy := sx_bd g wy
    rcases ek with rfl | rfl
    · have hv := bt_or (k := sx_lg2 a x y) (x := sx_ev ρ x) (y := sx_ev ρ y) e3 (by omega) (by omega) (by omega) (by omega)
      exact ⟨_, rfl, sx_new_g g hv.1 (by omega)⟩
    · have hv := bt_xor (k := sx_lg2 a x y) (x := sx_ev ρ x) (y := sx_ev ρ y) e3 (by omega) (by omega) (by omega) (by omega)
      exact ⟨_, rfl, sx_new_g g hv.1 (by omega)⟩
  · split at h
    · rename_i r0 hr
      cases h
      have hx := sx_bd g wx
      have hy := sx_bd g wy
      obtain ⟨v, e1, e2, -⟩ := ai_bin_g (L0 := []) hr (show ai_in (sx_ai a x) (sx_ev ρ x) from hx) (show ai_in (sx_ai a y) (sx_ev ρ y) from hy) (fun j u w hj => nomatch hj) (fun j u w hj => nomatch hj) nx ny
      exact ⟨v, e1, sx_new_g g e2.1 e2.2⟩
    · cases h
end SD
