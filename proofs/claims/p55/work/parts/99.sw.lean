/-! special steps: all values of a number, one by one -/
def sx_spl (F : sx_C → Option (List sx_C)) (e : sx_E) (a : sx_C) : Nat → Int → Option (List sx_C)
  | 0, _ => some []
  | n + 1, z => match sx_cd 0 e (sx_c z) a with
    | none => sx_spl F e a n (z + 1)
    | some b => if sx_big a b then match F b, sx_spl F e a n (z + 1) with
      | some l, some l' => some (l ++ l')
      | _, _ => none
      else none
theorem sx_spl_g {F : sx_C → Option (List sx_C)} {e : sx_E} {a : sx_C} {c : sm_C} {ρ : Nat → Int} {τ : Nat → Nat} (g : sx_gC ρ τ a c) (we : sx_wf a.2.2.2.2.2.1.length e) : ∀ {n : Nat} {z : Int} {cs : List sx_C}, sx_spl F e a n z = some cs → z ≤ sx_ev ρ e → sx_ev ρ e < z + n → ∃ b l, F b = some l ∧ (∀ y ∈ l, y ∈ cs) ∧ sx_gC ρ τ b c ∧ b.1 = a.1 ∧ a.2.2.2.2.2.1.length ≤ b.2.2.2.2.2.1.length ∧ a.2.2.2.2.2.2.2.2 ≤ b.2.2.2.2.2.2.2.2
  | 0, z, cs, _, h1, h2 => by omega
  | n + 1, z, cs, h, h1, h2 => by
    unfold sx_spl at h
    by_cases q : sx_ev ρ e = z
    · obtain ⟨b, b1, b2, b3⟩ := sx_cd_g (k := 0) (x := e) (y := sx_c z) g we (sx_c_wf _ _) (by rw [sx_c_ev]; exact decide_eq_true q)
      rw [b1] at h
      dsimp only at h
      split at h
      · rename_i hs
        unfold sx_big at hs
        simp only [Bool.and_eq_true, decide_eq_true_eq] at hs
        split at h
        · rename_i l l' hl hl'
          cases h
          exact ⟨b, l, hl, fun y hy => List.mem_append_left _ hy, b2, b3.1, hs.1, hs.2⟩
        · cases h
      · cases h
    · have h2' : sx_ev ρ e < z + 1 + n := by omega
      split at h
      · obtain ⟨b, l, r⟩ := sx_spl_g g we h (by omega) h2'
        exact ⟨b, l, r⟩
      · split at h
        · split at h
          · rename_i l l' hl hl'
            cases h
            obtain ⟨b, l2, r1, r2, r3⟩ := sx_spl_g g we hl' (by omega) h2'
            exact ⟨b, l2, r1, fun y hy => List.mem_append_right _ (r2 y hy), r3⟩
          · cases h
        · cases h
/-- which number: of a local, of the stack, of a field of the object in a local -/
def sx_sel (s : Nat × Nat × Nat) (a : sx_C) : Option sx_E := match s.1 with
  | 0 => match a.2.1.getD s.2.1 none with
    | some (.inl e) => some e
    | _ => none
  | 1 => match a.2.2.1[s.2.1]? with
    | some (.inl e) => some e
    | _ => none
  | _ => match a.2.1.getD s.2.1 none with
    | some (.inr (.inr r)) => sx_look (r.1, r.2.1, r.2.2.1) s.2.2 a.2.2.2.1
    | _ => none
def sx_spF (s : Nat × Nat × Nat) (F : sx_C → Option (List sx_C)) (a : sx_C) : Option (List sx_C) := match sx_sel s a with
  | some e => if sx_wfb a.2.2.2.2.2.1.length e && decide (sx_hi a.2.2.2.2.2.1 a.2.2.2.2.2.2.1 e - sx_low a.2.2.2.2.2.1 a.2.2.2.2.2.2.1 e < 64) then sx_spl F e a (sx_hi a.2.2.2.2.2.1 a.2.2.2.2.2.2.1 e - sx_low a.2.2.2.2.2.1 a.2.2.2.2.2.2.1 e + 1).toNat (sx_low a.2.2.2.2.2.1 a.2.2.2.2.2.2.1 e) else none
  | none => none
def sx_spX (G : sx_G) (mid : Nat) (w : sx_Wl) (sel : List (Nat × Nat × Nat × Nat)) (X : sx_X) : sx_X := fun pc => match sel.lookup pc with
  | none => X pc
  | some s => match X pc with
    | some f => some (sx_spF s f)
    | none => match mt_in mid pc with
      | some x => some (sx_spF s (sx_st (sx_EE G w) x))
      | none => none
theorem sx_spX_g {sc : Nat × (Nat → Int)} {G : sx_G} {I : sm_S → Prop} {d mid : Nat} {w : sx_Wl} {sel : List (Nat × Nat × Nat × Nat)} {X : sx_X} (hI : sx_hI G I) (hX : sx_hX sc I X d mid w) : sx_hX sc I (sx_spX G mid w sel X) d mid w := by
  intro pc f hf ρ τ a c cs Q hcs hpc g hz hIc k
  -- a split, for any step that is sound
  have core : ∀ (s : Nat × Nat × Nat) (F : sx_C → Option (List sx_C)), sx_spF s F a = some cs → (∀ b l, F b = some l → b.1 = pc → sx_gC ρ τ b c → (∀ a1 c1 ρ' τ', a1 ∈ l → sx_gC ρ' τ' a1 c1 → sx_lk b.2.2.2.2.2.1.length b.2.2.2.2.2.2.2.2 ρ ρ' τ τ' → I c1.2.2.2 → ai_fr (sx_W w) c.2.2.2 c1.2.2.2 → sm_T (mt_P sc) (d + 1) mid c1 Q) → sm_T (mt_P sc) (d + 1) mid c Q) → sm_T (mt_P sc) (d + 1) mid c Q := by
    intro s F hs hF
    unfold sx_spF at hs
    split at hs
    · rename_i e he
      split at hs
      · rename_i hc
        simp only [Bool.and_eq_true, decide_eq_true_eq] at hc
        have we := sx_wfb_g hc.1
        have hb := sx_bd g we
        obtain ⟨b, l, r1, r2, r3, r4, r5, r6⟩ := sx_spl_g g we hs hb.1 (by omega)
        exact hF b l r1 (r4.trans hpc) r3 (fun a1 c1 ρ' τ' m1 g1 l1 i1 f1 => k a1 c1 ρ' τ' (r2 a1 m1) g1 (sx_lk_mono l1 r5 r6) i1 f1)
      · cases hs
    · cases hs
  unfold sx_spX at hf
  split at hf
  · exact hX pc f hf ρ τ a c cs Q hcs hpc g hz hIc k
  · rename_i s hs
    split at hf
    · rename_i f0 hf0
      cases hf
      exact core s f0 hcs (fun b l hb hbp gb kb => hX pc f0 hf0 ρ τ b c l Q hb hbp gb hz hIc kb)
    · split at hf
      · rename_i x hx
        cases hf
        refine core s _ hcs (fun b l hb hbp gb kb => ?_)
        have hpc2 : a.1 = c.1 := by
          obtain ⟨pc, aL, st, m, nn, iv, fs, k, t⟩ := a
          exact g.1
        have hx' : (mt_P sc).1 mid c.1 = some x := by
          rw [← hpc2, hpc]
          exact hx
        obtain ⟨hop, c1, a1, ρ', τ', e1, e2, e3, e4, e5, e6⟩ := sx_st_g hb gb (hI.1 _ hIc)
        obtain ⟨pc0, L, vs, S⟩ := c
        exact sm_T_stp hx' hop e1 (kb a1 c1 ρ' τ' e2 e3 e4 (hI.2 _ _ hIc e5 (sx_EE_n e6)) (sx_EE_w e6))
      · cases hf
