/-! special steps: reading and writing fields of which invariants speak -/
def sx_ufl (E : ai_E) (r : Nat × Nat × Nat) : sx_O → sx_C → sx_C
  | [], a => a
  | o :: O, a => sx_ufl E r O (sx_uf1 E r o a)
def sx_big (a b : sx_C) : Bool := decide (a.2.2.2.2.2.1.length ≤ b.2.2.2.2.2.1.length) && decide (a.2.2.2.2.2.2.2.2 ≤ b.2.2.2.2.2.2.2.2)
/-- each object's facts in turn; none: something went wrong -/
def sx_ufo (E : ai_E) (r : Nat × Nat × Nat) : sx_O → sx_C → Option sx_C
  | [], a => some a
  | o :: O, a => if sx_big a (sx_uf1 E r o a) then sx_ufo E r O (sx_uf1 E r o a) else none
theorem sx_ufo_g {E : ai_E} {τ : Nat → Nat} {r : Nat × Nat × Nat} {c : sm_C} (hG : ai_GI E.1 E.2.1 c.2.2.2) : ∀ {O : sx_O} {ρ : Nat → Int} {a b : sx_C}, sx_gO O c.2.2.2 → sx_ufo E r O a = some b → sx_gC ρ τ a c → ∃ ρ', sx_lk a.2.2.2.2.2.1.length a.2.2.2.2.2.2.2.2 ρ ρ' τ τ ∧ sx_gC ρ' τ b c ∧ a.2.2.2.2.2.1.length ≤ b.2.2.2.2.2.1.length ∧ a.2.2.2.2.2.2.2.2 ≤ b.2.2.2.2.2.2.2.2
  | [], ρ, a, b, _, h, g => by
    cases h
    exact ⟨ρ, ⟨fun _ _ => rfl, fun _ _ => rfl⟩, g, Nat.le_refl _, Nat.le_refl _⟩
  | o :: O, ρ, a, b, hO, h, g => by
    unfold sx_ufo at h
    split at h
    · rename_i hs
      unfold sx_big at hs
      simp only [Bool.and_eq_true, decide_eq_true_eq] at hs
      obtain ⟨ρ1, l1, g1⟩ := sx_uf1_g (r := r) (o := o) g hG (fun i e => hO o List.mem_cons_self i e)
      obtain ⟨ρ2, l2, g2, m2, t2⟩ := sx_ufo_g hG (fun x hx => hO x (List.mem_cons_of_mem _ hx)) h g1
      exact ⟨ρ2, sx_lk_tr l1 l2 hs.1 hs.2, g2, Nat.le_trans hs.1 m2, Nat.le_trans hs.2 t2⟩
    · cases h
/-- a field is read: first the facts are taken up -/
def sx_oir (G : sx_G) (O : sx_O) (w : sx_Wl) (x : sm_I) (a : sx_C) : Option (List sx_C) := match a.2.2.1 with
  | .inr (.inr (t0, tk, o, false)) :: _ => match sx_look (t0, tk, o) x.2.2.2.2.1 a.2.2.2.1 with
    | some _ => sx_st (sx_EE G w) x a
    | none => match sx_ufo (sx_EE G w) (t0, tk, o) O a with
      | some b => sx_st (sx_EE G w) x b
      | none => none
  | _ => none
/-- memory tells that the field hasn't the value -/
def sx_nk (r : Nat × Nat × Nat) (o : sx_O1) (b : sx_C) : Bool := match o.2.1 with
  | none => false
  | some g => match sx_look r g.1 b.2.2.2.1 with
    | some e => decide (g.2 < sx_low b.2.2.2.2.2.1 b.2.2.2.2.2.2.1 e) || decide (sx_hi b.2.2.2.2.2.1 b.2.2.2.2.2.2.1 e < g.2)
    | none => false
/-- an object keeps an invariant, as memory tells -/
def sx_oc1 (r : Nat × Nat × Nat) (o : sx_O1) (b : sx_C) : Bool := sx_nk r o b || (sx_hv r b.2.2.2.1 o.2.2.1 32 && sx_inK o.2.2.1 o.2.2.2 && (sx_sl r b.2.2.2.1 32).all (sx_wfb b.2.2.2.2.2.1.length) && sx_sbK (sx_sl r b.2.2.2.1 32) b o.2.2.2)
theorem sx_oc1_g {ρ : Nat → Int} {τ : Nat → Nat} {r : Nat × Nat × Nat} {o : sx_O1} {b : sx_C} {c : sm_C} (g : sx_gC ρ τ b c) (hr : r.1 = o.1) (h : sx_oc1 r o b = true) : sx_gd o c.2.2.2 (τ r.2.1 + r.2.2) → sx_gK (fun k => c.2.2.2.1 o.1 (τ r.2.1 + r.2.2) k) o.2.2.2 := by
  intro hval
  unfold sx_oc1 at h
  simp only [Bool.or_eq_true] at h
  rcases h with h | h
  · exfalso
    unfold sx_nk at h
    unfold sx_gd at hval
    split at h
    · cases h
    · rename_i q e0
      try rw [e0] at hval
      try dsimp only at hval
      split at h
      · rename_i e he
        obtain ⟨pc, aL, st, m, nn, iv, fs, k, t⟩ := b
        obtain ⟨-, -, -, ⟨gM, wM⟩, -, gi, gf, -, -⟩ := g
        have h1 := gM _ (sx_look_mem he)
        have we := (wM _ (sx_look_mem he)).2
        dsimp only at h1 h we
        have h2 := sx_low_le gi gf we
        have h3 := sx_hi_le gi gf we
        rw [hr, hval] at h1
        simp only [Bool.or_eq_true, decide_eq_true_eq] at h
        omega
      · cases h
  · simp only [Bool.and_eq_true] at h
    obtain ⟨⟨⟨h1, h2⟩, h3⟩, h4⟩ := h
    have hK := sx_sbK_g h4 h3 g
    obtain ⟨pc, aL, st, m, nn, iv, fs, k, t⟩ := b
    obtain ⟨-, -, -, ⟨gM, wM⟩, -⟩ := g
    have hag := sx_sl_g gM h1
    exact sx_gK_ag h2 (fun x hx => by rw [hag x hx, hr]) hK
/-- a field is written: the object must keep its invariants -/
def sx_oiw (G : sx_G) (O : sx_O) (w : sx_Wl) (x : sm_I) (a : sx_C) : Option (List sx_C) := match a.2.2.1 with
  | .inl _ :: .inr (.inr (t0, tk, o, false)) :: _ => match sx_st3 (G.1, G.2.1, sx_W w) x a with
    | some [b] => if decide (t0 = x.2.2.2.1) && O.all (fun q => decide (q.1 ≠ t0) || sx_oc1 (t0, tk, o) q b) then some [b] else none
    | _ => none
  | _ => none
def sx_oiX (G : sx_G) (O : sx_O) (mid : Nat) (w : sx_Wl) : sx_X := fun pc => match mt_in mid pc with
  | some x => if decide (x.1 = 23) && O.any (fun o => decide (o.1 = x.2.2.2.1) && o.2.2.1.any fun k => decide (k = x.2.2.2.2.1)) then some (sx_oir G O w x)
    else if (decide (x.1 = 24) || decide (x.1 = 25)) && (sx_W G.2.2).1 x.2.2.2.1 x.2.2.2.2.1 then some (sx_oiw G O w x) else none
  | none => none
theorem sx_oiX_g {sc : Nat × (Nat → Int)} {G : sx_G} {O : sx_O} {d mid : Nat} {w : sx_Wl} (hO : sx_okO O G.2.2 = true) : sx_hX sc (sx_IO G O) (sx_oiX G O mid w) d mid w := by
  intro pc f hf ρ τ a c cs Q hcs hpc g hz hI k
  have hIO := sx_IO_hI hO
  unfold sx_oiX at hf
  split at hf
  · rename_i x hx
    have hpc2 : a.1 = c.1 := by
      obtain ⟨pc, aL, st, m, nn, iv, fs, k, t⟩ := a
      exact g.1
    have hx' : (mt_P sc).1 mid c.1 = some x := by
      rw [← hpc2, hpc]
      exact hx
    split at hf
    · cases hf
      unfold sx_oir at hcs
      split at hcs
      · rename_i t0 tk o r hst
        have step : ∀ (ρ1 : Nat → Int) (b : sx_C), sx_st (sx_EE G w) x b = some cs → sx_gC ρ1 τ b c → sx_lk a.2.2.2.2.2.1.length a.2.2.2.2.2.2.2.2 ρ ρ1 τ τ → a.2.2.2.2.2.1.length ≤ b.2.2.2.2.2.1.length → a.2.2.2.2.2.2.2.2 ≤ b.2.2.2.2.2.2.2.2 → sm_T (mt_P sc) (d + 1) mid c Q := by
          intro ρ1 b hb gb lb m1 t1
          obtain ⟨hop, c1, a1, ρ', τ', e1, e2, e3, e4, e5, e6⟩ := sx_st_g hb gb hI.1
          obtain ⟨pc0, L, vs, S⟩ := c
          exact sm_T_stp hx' hop e1 (k a1 c1 ρ' τ' e2 e3 (sx_lk_tr lb e4 m1 t1) (hIO.2 _ _ hI e5 (sx_EE_n e6)) (sx_EE_w e6))
        split at hcs
        · exact step ρ a hcs g ⟨fun _ _ => rfl, fun _ _ => rfl⟩ (Nat.le_refl _) (Nat.le_refl _)
        · split at hcs
          · rename_i b hb
            obtain ⟨ρ1, l1, g1, m1, t1⟩ := sx_ufo_g (E := sx_EE G w) hI.1 hI.2 hb g
            exact step ρ1 b hcs g1 l1 m1 t1
          · cases hcs
      · cases hcs
    · split at hf
      · rename_i hops
        cases hf
        unfold sx_oiw at hcs
        split at hcs
        · rename_i e0 t0 tk o r hst
          split at hcs
          · rename_i b hb
            split at hcs
            · rename_i hc
              cases hcs
              simp only [Bool.and_eq_true, decide_eq_true_eq] at hc
              obtain ⟨ht, hall⟩ := hc
              obtain ⟨c1, a1, ρ', e1, e2, e3, e4, e5, e6⟩ := sx_st3_g hb g hI.1
              have e2' := List.mem_singleton.mp e2
              subst e2'
              have hop : x.1 < 40 := by
                simp only [Bool.and_eq_true, Bool.or_eq_true, decide_eq_true_eq] at hops
                rcases hops.1 with q | q <;> omega
              -- what was written
              have hS : c1.2.2.2 = sm_pI c.2.2.2 t0 (τ tk + o) x.2.2.2.2.1 (sx_ev ρ e0) := by
                obtain ⟨op, n, p, b', d', z⟩ := x
                obtain ⟨pcA, aL, st, R⟩ := a
                obtain ⟨pc0, L, vs, S⟩ := c
                obtain ⟨-, -, gS, -⟩ := sx_un g
                dsimp only at hst ht e1 hops ⊢
                subst hst
                subst ht
                obtain ⟨v1, rfl, gS1⟩ := sx_inv_i gS
                obtain ⟨v2, rfl, gS2⟩ := sx_inv_n gS1
                simp only [Bool.and_eq_true, Bool.or_eq_true, decide_eq_true_eq] at hops
                rcases hops.1 with q | q
                · subst q
                  simp only [sm_stp] at e1
                  rw [if_pos trivial] at e1
                  cases e1
                  rfl
                · subst q
                  simp only [sm_stp] at e1
                  split at e1
                  · cases e1
                    rfl
                  · cases e1
              have hl : sx_lk a.2.2.2.2.2.1.length a.2.2.2.2.2.2.2.2 ρ ρ' τ τ := e4
              have hI1 : sx_IO G O c1.2.2.2 := by
                refine ⟨e5, fun q hq i => ?_⟩
                by_cases hk : q.1 = t0 ∧ i = τ tk + o
                · obtain ⟨k1, k2⟩ := hk
                  have h9 := List.all_eq_true.mp hall q hq
                  simp only [Bool.or_eq_true, decide_eq_true_eq] at h9
                  rcases h9 with h9 | h9
                  · exact absurd k1 h9
                  · have := sx_oc1_g (r := (t0, tk, o)) e3 k1.symm h9
                    rw [k2]
                    exact this
                · have hne : ∀ k', c1.2.2.2.1 q.1 i k' = c.2.2.2.1 q.1 i k' := by
                    intro k'
                    rw [hS]
                    exact sm_up_ne (fun y => hk ⟨y.1, y.2.1⟩)
                  intro hv
                  have := hI.2 q hq i (sx_gd_eq (S := c.2.2.2) (fun g _ => hne g.1) hv)
                  rw [show (fun k' => c1.2.2.2.1 q.1 i k') = fun k' => c.2.2.2.1 q.1 i k' from funext hne]
                  exact this
              obtain ⟨pc0, L, vs, S⟩ := c
              exact sm_T_stp hx' hop e1 (k _ c1 ρ' τ (List.mem_singleton.mpr rfl) e3 hl hI1 e6)
            · cases hcs
          · cases hcs
        · cases hcs
      · cases hf
  · cases hf
