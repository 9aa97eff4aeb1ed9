/-! arithmetic -/
def sx_ok (iv : sx_I) (fs : List sx_E) (e : sx_E) : Bool := decide (-2147483648 ≤ sx_low iv fs e) && decide (sx_hi iv fs e ≤ 2147483647)
/-- a fresh atom -/
def sx_new (lo hi : Int) (a : sx_C) : sx_E × sx_C := match a with
  | (pc, aL, st, m, nn, iv, fs, k, t) => (sx_a iv.length, (pc, aL, st, m, nn, iv ++ [(lo, hi)], fs, k, t))
/-- an expression, if it can't wrap; else any number -/
def sx_rg (e : sx_E) (a : sx_C) : sx_E × sx_C := if sx_ok a.2.2.2.2.2.1 a.2.2.2.2.2.2.1 e then (e, a) else sx_new (-2147483648) 2147483647 a
def sx_ai (a : sx_C) (e : sx_E) : ai_I := (sx_low a.2.2.2.2.2.1 a.2.2.2.2.2.2.1 e, sx_hi a.2.2.2.2.2.1 a.2.2.2.2.2.2.1 e, none, none)
def sx_bi (k : Nat) (x y : sx_E) (a : sx_C) : Option (sx_E × sx_C) :=
  if k = 0 then some (sx_rg (sx_ad 1 x y) a)
  else if k = 1 then some (sx_rg (sx_ad (-1) x y) a)
  else if k = 2 && y.2 = [] then some (sx_rg (sx_sc y.1 x) a)
  else if k = 2 && x.2 = [] then some (sx_rg (sx_sc x.1 y) a)
  else if k = 6 && y.2 = [] && decide (0 ≤ y.1) && decide (y.1 ≤ 31) then some (sx_rg (sx_sc (2 ^ y.1.toNat) x) a)
  else match ai_bin k (sx_ai a x) (sx_ai a y) with
    | some r => some (sx_new r.1 r.2.1 a)
    | none => none
section SD
variable {ρ : Nat → Int} {τ : Nat → Nat}
theorem sx_bd {a : sx_C} {c : sm_C} {e : sx_E} (g : sx_gC ρ τ a c) (we : sx_wf a.2.2.2.2.2.1.length e) : sx_low a.2.2.2.2.2.1 a.2.2.2.2.2.2.1 e ≤ sx_ev ρ e ∧ sx_ev ρ e ≤ sx_hi a.2.2.2.2.2.1 a.2.2.2.2.2.2.1 e := by
  obtain ⟨pc, aL, st, m, nn, iv, fs, kk, t⟩ := a
  obtain ⟨-, -, -, -, -, gi, gf, -, -⟩ := g
  exact ⟨sx_low_le gi gf we, sx_hi_le gi gf we⟩
/-- what is promised of a new value: an old valuation goes on to a new one, in which it has the value -/
def sx_nv (ρ : Nat → Int) (τ : Nat → Nat) (a : sx_C) (c : sm_C) (r : sx_E × sx_C) (v : Int) : Prop := ∃ ρ', sx_lk a.2.2.2.2.2.1.length a.2.2.2.2.2.2.2.2 ρ ρ' τ τ ∧ sx_gC ρ' τ r.2 c ∧ sx_ev ρ' r.1 = v ∧ sx_wf r.2.2.2.2.2.2.1.length r.1 ∧ a.2.2.2.2.2.1.length ≤ r.2.2.2.2.2.2.1.length ∧ r.2.1 = a.1 ∧ r.2.2.1 = a.2.1 ∧ r.2.2.2.1 = a.2.2.1 ∧ r.2.2.2.2.2.2.2.2.2 = a.2.2.2.2.2.2.2.2
theorem sx_new_g {a : sx_C} {c : sm_C} {lo hi v : Int} (g : sx_gC ρ τ a c) (h1 : lo ≤ v) (h2 : v ≤ hi) : sx_nv ρ τ a c (sx_new lo hi a) v := by
  obtain ⟨pc, aL, st, m, nn, iv, fs, k, t⟩ := a
  obtain ⟨ρ', l, e, g'⟩ := sx_fresh g h1 h2
  have hl : (iv ++ [(lo, hi)]).length = iv.length + 1 := by rw [List.length_append]; rfl
  refine ⟨ρ', l, g', e, ?_, ?_, rfl, rfl, rfl, rfl⟩
  · show sx_wf (iv ++ [(lo, hi)]).length (sx_a iv.length)
    rw [hl]
    exact sx_a_wf (Nat.lt_succ_self _)
  · show iv.length ≤ (iv ++ [(lo, hi)]).length
    omega
theorem sx_rg_g {a : sx_C} {c : sm_C} {e : sx_E} {v : Int} (g : sx_gC ρ τ a c) (we : sx_wf a.2.2.2.2.2.1.length e) (h1 : sm_ni (sx_ev ρ e) → v = sx_ev ρ e) (h2 : sm_ni v) : sx_nv ρ τ a c (sx_rg e a) v := by
  unfold sx_rg
  split
  · rename_i h
    unfold sx_ok at h
    simp only [Bool.and_eq_true, decide_eq_true_eq] at h
    have hb := sx_bd g we
    exact ⟨ρ, ⟨fun _ _ => rfl, fun _ _ => rfl⟩, g, (h1 (by unfold sm_ni; omega)).symm, we, Nat.le_refl _, rfl, rfl, rfl, rfl⟩
  · unfold sm_ni at h2
    exact sx_new_g g h2.1 h2.2
theorem sx_cst {e : sx_E} (h : e.2 = []) : sx_ev ρ e = e.1 := by
  unfold sx_ev
  rw [h]
  exact Int.add_zero _
theorem sx_bi_g {k : Nat} {x y : sx_E} {a : sx_C} {c : sm_C} {r : sx_E × sx_C} (h : sx_bi k x y a = some r) (g : sx_gC ρ τ a c) (wx : sx_wf a.2.2.2.2.2.1.length x) (wy : sx_wf a.2.2.2.2.2.1.length y) (nx : sm_ni (sx_ev ρ x)) (ny : sm_ni (sx_ev ρ y)) : ∃ v, sm_bin k (sx_ev ρ x) (sx_ev ρ y) = some v ∧ sx_nv ρ τ a c r v := by
  unfold sx_bi at h
  split at h
  · rename_i e
    subst e
    cases h
    refine ⟨_, rfl, sx_rg_g g (sx_ad_wf wx wy) (fun q => ?_) (sm_ni_toInt _)⟩
    rw [sx_ad_ev, Int.one_mul] at q ⊢
    exact ar_add q
  split at h
  · rename_i e
    subst e
    cases h
    refine ⟨_, rfl, sx_rg_g g (sx_ad_wf wx wy) (fun q => ?_) (sm_ni_toInt _)⟩
    rw [sx_ad_ev, show sx_ev ρ x + -1 * sx_ev ρ y = sx_ev ρ x - sx_ev ρ y by omega] at q ⊢
    exact ar_sub q
  split at h
  · rename_i e
    simp only [Bool.and_eq_true, decide_eq_true_eq] at e
    obtain ⟨rfl, e⟩ := e
    cases h
    refine ⟨_, rfl, sx_rg_g g (sx_sc_wf wx) (fun q => ?_) (sm_ni_toInt _)⟩
    rw [sx_sc_ev, ← sx_cst (ρ := ρ) e, Int.mul_comm] at q ⊢
    exact ar_mul q
  split at h
  · rename_i e
    simp only [Bool.and_eq_true, decide_eq_true_eq] at e
    obtain ⟨rfl, e⟩ := e
    cases h
    refine ⟨_, rfl, sx_rg_g g (sx_sc_wf wy) (fun q => ?_) (sm_ni_toInt _)⟩
    rw [sx_sc_ev, ← sx_cst (ρ := ρ) e] at q ⊢
    exact ar_mul q
  split at h
  · rename_i e
    simp only [Bool.and_eq_true, decide_eq_true_eq] at e
    obtain ⟨⟨⟨rfl, e⟩, e1⟩, e2⟩ := e
    cases h
    refine ⟨_, rfl, sx_rg_g g (sx_sc_wf wx) (fun q => ?_) (sm_ni_toInt _)⟩
    rw [sx_sc_ev, Int.mul_comm] at q ⊢
    rw [sx_cst (ρ := ρ) e]
    have hy : y.1 = ((y.1.toNat : Nat) : Int) := by omega
    have := bs_shl (k := y.1.toNat) (x := sx_ev ρ x) (by omega) q
    rw [← hy] at this
    exact this
  · split at h
    · rename_i r0 hr
      cases h
      have hx := sx_bd g wx
      have hy := sx_bd g wy
      obtain ⟨v, e1, e2, -⟩ := ai_bin_g (L0 := []) hr (show ai_in (sx_ai a x) (sx_ev ρ x) from hx) (show ai_in (sx_ai a y) (sx_ev ρ y) from hy) (fun j u w hj => nomatch hj) (fun j u w hj => nomatch hj) nx ny
      exact ⟨v, e1, sx_new_g g e2.1 e2.2⟩
    · cases h
end SD
