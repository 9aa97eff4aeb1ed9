/-! symbolic steps that leave the heap alone -/
def sx_nn (z : Int) : Bool := decide (-2147483648 ≤ z) && decide (z ≤ 2147483647)
def sx_oke (a : sx_C) (e : sx_E) : Bool := sx_ok a.2.2.2.2.2.1 a.2.2.2.2.2.2.1 e
def sx_st1 (x : sm_I) (a : sx_C) : Option (List sx_C) := match x, a with
  | (op, n, p, _, _, z), (pc, aL, st, R) => match op with
    | 0 => if sx_nn z then some [(pc + n, aL, .inl (sx_c z) :: st, R)] else none
    | 1 => some [(pc + n, aL, .inr (.inl ()) :: st, R)]
    | 2 => match aL.getD p none with
      | some (.inl e) => some [(pc + n, aL, .inl e :: st, R)]
      | _ => none
    | 3 => match aL.getD p none with
      | some (.inr (.inl u)) => some [(pc + n, aL, .inr (.inl u) :: st, R)]
      | _ => none
    | 4 => match aL.getD p none with
      | some (.inr (.inr r)) => some [(pc + n, aL, .inr (.inr r) :: st, R)]
      | _ => none
    | 5 => match st with
      | .inl e :: r => if p < aL.length then some [(pc + n, sx_s1 aL p (.inl e), r, R)] else none
      | _ => none
    | 6 => match st with
      | .inr (.inl u) :: r => if p + 1 < aL.length then some [(pc + n, sx_s2 aL p (.inr (.inl u)), r, R)] else none
      | _ => none
    | 7 => match st with
      | .inr (.inr e) :: r => if p < aL.length then some [(pc + n, sx_s1 aL p (.inr (.inr e)), r, R)] else none
      | _ => none
    | 19 => some [(((pc : Int) + z).toNat, aL, st, R)]
    | _ => none
section SF
variable {ρ : Nat → Int} {τ : Nat → Nat}
theorem sx_mk {pc pc0 pc' : Nat} {aL aL' : sx_L} {st st' : List sx_V} {R : sx_M × sx_N × sx_I × List sx_E × sx_K × Nat} {L L' : sm_L} {vs vs' : List sm_V} {S : sm_S} (g : sx_gC ρ τ (pc, aL, st, R) (pc0, L, vs, S)) (hL : sx_gL ρ τ aL' L') (wL : sx_wL R.2.2.1.length R.2.2.2.2.2 aL') (hS : sx_gS ρ τ st' vs') (wS : sx_wS R.2.2.1.length R.2.2.2.2.2 st') : sx_gC ρ τ (pc', aL', st', R) (pc', L', vs', S) := by
  obtain ⟨m, nn, iv, fs, k, t⟩ := R
  obtain ⟨-, -, -, g1⟩ := g
  exact ⟨rfl, ⟨hL, wL⟩, ⟨hS, wS⟩, g1⟩
theorem sx_un {pc pc0 : Nat} {aL : sx_L} {st : List sx_V} {R : sx_M × sx_N × sx_I × List sx_E × sx_K × Nat} {L : sm_L} {vs : List sm_V} {S : sm_S} (g : sx_gC ρ τ (pc, aL, st, R) (pc0, L, vs, S)) : pc = pc0 ∧ (sx_gL ρ τ aL L ∧ sx_wL R.2.2.1.length R.2.2.2.2.2 aL) ∧ sx_gS ρ τ st vs ∧ sx_wS R.2.2.1.length R.2.2.2.2.2 st := by
  obtain ⟨m, nn, iv, fs, k, t⟩ := R
  obtain ⟨g0, g1, g2, -⟩ := g
  exact ⟨g0, g1, g2⟩
theorem sx_st1_g {x : sm_I} {a : sx_C} {cs : List sx_C} {c : sm_C} (h : sx_st1 x a = some cs) (g : sx_gC ρ τ a c) : ∃ c1 a1, sm_stp x c.1 c.2.1 c.2.2.1 c.2.2.2 = some c1 ∧ a1 ∈ cs ∧ sx_gC ρ τ a1 c1 ∧ c1.2.2.2 = c.2.2.2 := by
  obtain ⟨op, n, p, b, d, z⟩ := x
  obtain ⟨pc, aL, st, R⟩ := a
  obtain ⟨pc0, L, vs, S⟩ := c
  obtain ⟨rfl, ⟨gL, wL⟩, gS, wS⟩ := sx_un g
  unfold sx_st1 at h
  dsimp only at h ⊢
  split at h
  · split at h
    · cases h
      exact ⟨_, _, rfl, List.mem_singleton.mpr rfl, sx_mk g gL wL ⟨sx_c_ev ρ z, gS⟩ (sx_wS_cons (sx_c_wf _ _) wS), rfl⟩
    · cases h
  · cases h
    exact ⟨_, _, rfl, List.mem_singleton.mpr rfl, sx_mk g gL wL ⟨trivial, gS⟩ (sx_wS_cons trivial wS), rfl⟩
  · split at h
    · rename_i e hj
      cases h
      obtain ⟨v, h1, h2⟩ := gL.2 p _ hj
      rcases v with v | v | v
      · exact ⟨(pc + n, L, .inl v :: vs, S), _, by simp only [sm_stp, h1], List.mem_singleton.mpr rfl, sx_mk g gL wL ⟨h2, gS⟩ (sx_wS_cons (wL p _ hj) wS), rfl⟩
      · exact h2.elim
      · exact h2.elim
    · cases h
  · split at h
    · rename_i e hj
      cases h
      obtain ⟨v, h1, h2⟩ := gL.2 p _ hj
      rcases v with v | v | v
      · exact h2.elim
      · exact ⟨(pc + n, L, .inr (.inl v) :: vs, S), _, by simp only [sm_stp, h1], List.mem_singleton.mpr rfl, sx_mk g gL wL ⟨h2, gS⟩ (sx_wS_cons (wL p _ hj) wS), rfl⟩
      · exact h2.elim
    · cases h
  · split at h
    · rename_i e hj
      cases h
      obtain ⟨v, h1, h2⟩ := gL.2 p _ hj
      rcases v with v | v | v
      · exact h2.elim
      · exact h2.elim
      · exact ⟨(pc + n, L, .inr (.inr v) :: vs, S), _, by simp only [sm_stp, h1], List.mem_singleton.mpr rfl, sx_mk g gL wL ⟨h2, gS⟩ (sx_wS_cons (wL p _ hj) wS), rfl⟩
    · cases h
  · split at h
    · rename_i e r
      split at h
      · rename_i hp
        cases h
        obtain ⟨w, rfl, g2⟩ := sx_inv_i gS
        exact ⟨_, _, by simp only [sm_stp]; rw [if_pos (by rw [← gL.1]; exact hp)], List.mem_singleton.mpr rfl, sx_mk g (sx_s1_g gL (v := .inl (sx_ev ρ e)) (rfl : sx_ev ρ e = sx_ev ρ e)) (sx_s1_w wL (sx_wS_hd wS)) g2 (sx_wS_tl wS), rfl⟩
      · cases h
    · cases h
  · split at h
    · rename_i e r
      split at h
      · rename_i hp
        cases h
        obtain ⟨z0, w, rfl, g2⟩ := sx_inv_l gS
        exact ⟨_, _, by simp only [sm_stp]; rw [if_pos (by rw [← gL.1]; exact hp)], List.mem_singleton.mpr rfl, sx_mk g (sx_s2_g gL (v := .inr (.inl z0)) trivial) (sx_s2_w wL trivial) g2 (sx_wS_tl wS), rfl⟩
      · cases h
    · cases h
  · split at h
    · rename_i e r
      split at h
      · rename_i hp
        cases h
        obtain ⟨w, rfl, g2⟩ := sx_inv_r gS
        exact ⟨_, _, by simp only [sm_stp]; rw [if_pos (by rw [← gL.1]; exact hp)], List.mem_singleton.mpr rfl, sx_mk g (sx_s1_g gL (v := .inr (.inr _)) gS.1) (sx_s1_w wL (sx_wS_hd wS)) g2 (sx_wS_tl wS), rfl⟩
      · cases h
    · cases h
  · cases h
    exact ⟨_, _, rfl, List.mem_singleton.mpr rfl, sx_mk g gL wL gS wS, rfl⟩
  · cases h
end SF
