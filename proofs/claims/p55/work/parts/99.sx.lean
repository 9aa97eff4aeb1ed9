/-! special steps: some steps in one go, at whose end the invariants of the objects written hold again -/
def sx_mop (n : Nat) : Bool := n = 0 || n = 2 || n = 4 || n = 9 || n = 23 || n = 24 || n = 25
/-- the object that is written -/
def sx_wro (x : sm_I) (a : sx_C) : List (Nat × Nat × Nat) := if x.1 = 24 || x.1 = 25 then match a.2.2.1 with
  | .inl _ :: .inr (.inr (t0, tk, o, false)) :: _ => [(t0, tk, o)]
  | _ => []
  else []
def sx_mc (G : sx_G) (w : sx_Wl) (mid : Nat) : Nat → sx_C → List (Nat × Nat × Nat) → Option (sx_C × List (Nat × Nat × Nat))
  | 0, a, l => some (a, l)
  | n + 1, a, l => match mt_in mid a.1 with
    | none => none
    | some x => if sx_mop x.1 then match sx_st (G.1, G.2.1, sx_W w) x a with
      | some [b] => if sx_big a b then sx_mc G w mid n b (sx_wro x a ++ l) else none
      | _ => none
      else none
/-- what the steps write -/
theorem sx_mop_S {ρ : Nat → Int} {τ : Nat → Nat} {E : ai_E} {x : sm_I} {a : sx_C} {cs : List sx_C} {c c1 : sm_C} (hm : sx_mop x.1 = true) (hs : sx_st E x a = some cs) (g : sx_gC ρ τ a c) (h : sm_stp x c.1 c.2.1 c.2.2.1 c.2.2.2 = some c1) : ∀ q i, (∀ r ∈ sx_wro x a, ¬ (r.1 = q ∧ i = τ r.2.1 + r.2.2)) → ∀ k, c1.2.2.2.1 q i k = c.2.2.2.1 q i k := by
  obtain ⟨op, n, p, b, d, z⟩ := x
  obtain ⟨pcA, aL, st, R⟩ := a
  obtain ⟨pc0, L, vs, S⟩ := c
  obtain ⟨-, -, gS, -⟩ := sx_un g
  intro q i hr k
  dsimp only at hm h ⊢
  unfold sx_mop at hm
  simp only [Bool.or_eq_true, decide_eq_true_eq] at hm
  have wr : ∀ (y : Int) (e : sx_E) (t0 tk o : Nat) (r : List sx_V), st = .inl e :: .inr (.inr (t0, tk, o, false)) :: r → (op = 24 ∨ op = 25) → (sm_pI S t0 (τ tk + o) d y).1 q i k = S.1 q i k := by
    intro y e t0 tk o r hst hop
    refine sm_up_ne (fun hq => ?_)
    refine hr (t0, tk, o) ?_ ⟨hq.1.symm, hq.2.1⟩
    unfold sx_wro
    rw [if_pos (by simpa using hop)]
    dsimp only
    rw [hst]
    exact List.mem_singleton.mpr rfl
  -- what stands on the stack where a field is written
  have shape : (op = 24 ∨ op = 25) → ∃ e t0 tk o r, st = .inl e :: .inr (.inr (t0, tk, o, false)) :: r ∧ t0 = b := by
    intro hop
    have h3 : ∃ cs', sx_st3 E (op, n, p, b, d, z) (pcA, aL, st, R) = some cs' := by
      unfold sx_st at hs
      rcases hop with rfl | rfl
      all_goals
        split at hs
        · simp only [sx_st1, sx_st2] at hs
          split at hs
          · rename_i r0 hr0
            exact ⟨_, hr0⟩
          · simp only [sx_st4, sx_st5, sx_st6] at hs
            cases hs
        · cases hs
    obtain ⟨cs', h3⟩ := h3
    obtain ⟨m, nn, iv, fs, kk, t⟩ := R
    rcases hop with rfl | rfl
    · simp only [sx_st3] at h3
      split at h3
      · rename_i e t0 tk o r
        split at h3
        · rename_i hc
          simp only [Bool.and_eq_true, decide_eq_true_eq] at hc
          exact ⟨e, t0, tk, o, r, rfl, hc.1.1⟩
        · cases h3
      · cases h3
    · simp only [sx_st3] at h3
      split at h3
      · rename_i e t0 tk o r
        split at h3
        · rename_i hc
          simp only [Bool.and_eq_true, decide_eq_true_eq] at hc
          exact ⟨e, t0, tk, o, r, rfl, hc.1.1.1⟩
        · cases h3
      · cases h3
  rcases hm with ((((((rfl | rfl) | rfl) | rfl) | rfl) | rfl) | rfl)
  · simp only [sm_stp] at h
    cases h
    rfl
  · simp only [sm_stp] at h
    split at h
    · cases h
      rfl
    · cases h
  · simp only [sm_stp] at h
    split at h
    · cases h
      rfl
    · cases h
  · simp only [sm_stp] at h
    split at h
    · rw [Option.map_eq_some_iff] at h
      obtain ⟨v, -, rfl⟩ := h
      rfl
    · cases h
  · simp only [sm_stp] at h
    split at h
    · split at h
      · cases h
        rfl
      · cases h
    · cases h
  · obtain ⟨e, t0, tk, o, r, hst, rfl⟩ := shape (Or.inl rfl)
    have hw := wr
    subst hst
    obtain ⟨v1, rfl, gS1⟩ := sx_inv_i gS
    obtain ⟨v2, rfl, gS2⟩ := sx_inv_n gS1
    simp only [sm_stp] at h
    rw [if_pos trivial] at h
    cases h
    exact hw _ e t0 tk o r rfl (Or.inl rfl)
  · obtain ⟨e, t0, tk, o, r, hst, rfl⟩ := shape (Or.inr rfl)
    have hw := wr
    subst hst
    obtain ⟨v1, rfl, gS1⟩ := sx_inv_i gS
    obtain ⟨v2, rfl, gS2⟩ := sx_inv_n gS1
    simp only [sm_stp] at h
    split at h
    · cases h
      exact hw _ e t0 tk o r rfl (Or.inr rfl)
    · cases h
theorem sx_mc_g {sc : Nat × (Nat → Int)} {G : sx_G} {w : sx_Wl} {d mid : Nat} {S0 : sm_S} {Q : sm_R → Prop} : ∀ {n : Nat} {a b : sx_C} {l l' : List (Nat × Nat × Nat)} {c : sm_C} {ρ : Nat → Int} {τ : Nat → Nat}, sx_mc G w mid n a l = some (b, l') → sx_gC ρ τ a c → ai_GI G.1 G.2.1 c.2.2.2 → (∀ r ∈ l, r.2.1 < a.2.2.2.2.2.2.2.2) → (∀ q i, (∀ r ∈ l, ¬ (r.1 = q ∧ i = τ r.2.1 + r.2.2)) → ∀ k, c.2.2.2.1 q i k = S0.1 q i k) →
    (∀ c1 ρ1 τ1, sx_gC ρ1 τ1 b c1 → sx_lk a.2.2.2.2.2.1.length a.2.2.2.2.2.2.2.2 ρ ρ1 τ τ1 → ai_GI G.1 G.2.1 c1.2.2.2 → ai_fr (sx_W w) c.2.2.2 c1.2.2.2 → (∀ q i, (∀ r ∈ l', ¬ (r.1 = q ∧ i = τ1 r.2.1 + r.2.2)) → ∀ k, c1.2.2.2.1 q i k = S0.1 q i k) → sm_T (mt_P sc) (d + 1) mid c1 Q) → sm_T (mt_P sc) (d + 1) mid c Q
  | 0, a, b, l, l', c, ρ, τ, h, g, hG, _, hS, k => by
    cases h
    exact k c ρ τ g ⟨fun _ _ => rfl, fun _ _ => rfl⟩ hG ai_fr_rf hS
  | n + 1, a, b, l, l', c, ρ, τ, h, g, hG, hl, hS, k => by
    unfold sx_mc at h
    split at h
    · cases h
    · rename_i x hx
      split at h
      · rename_i hm
        split at h
        · rename_i b1 hb1
          split at h
          · rename_i hbig
            unfold sx_big at hbig
            simp only [Bool.and_eq_true, decide_eq_true_eq] at hbig
            obtain ⟨hop, c1, a1, ρ', τ', e1, e2, e3, e4, e5, e6⟩ := sx_st_g hb1 g hG
            have e2' := List.mem_singleton.mp e2
            subst e2'
            have hw : ∀ r ∈ sx_wro x a, r.2.1 < a.2.2.2.2.2.2.2.2 := by
              intro r hr
              unfold sx_wro at hr
              split at hr
              · split at hr
                · rename_i e0 t0 tk o r0 hst
                  rw [List.mem_singleton.mp hr]
                  obtain ⟨pcA, aL, st, R⟩ := a
                  obtain ⟨pc0, L, vs, S⟩ := c
                  obtain ⟨-, -, -, wS⟩ := sx_un g
                  dsimp only at hst ⊢
                  rw [hst] at wS
                  exact sx_wS_hd (sx_wS_tl wS)
                · exact absurd hr List.not_mem_nil
              · exact absurd hr List.not_mem_nil
            have hstep := sx_mop_S hm hb1 g e1
            have hx' : (mt_P sc).1 mid c.1 = some x := by
              have : a.1 = c.1 := by
                obtain ⟨pc, aL, st, m, nn, iv, fs, k, t⟩ := a
                exact g.1
              rw [← this]
              exact hx
            have hT : sm_T (mt_P sc) (d + 1) mid c1 Q := by
              refine sx_mc_g h e3 e5 (fun r hr => ?_) (fun q i hq kk => ?_) (fun c2 ρ2 τ2 g2 l2 i2 f2 s2 => k c2 ρ2 τ2 g2 (sx_lk_tr e4 l2 hbig.1 hbig.2) i2 (ai_fr_tr e6 f2) s2)
              · rcases List.mem_append.mp hr with hr | hr
                · exact Nat.lt_of_lt_of_le (hw r hr) hbig.2
                · exact Nat.lt_of_lt_of_le (hl r hr) hbig.2
              · rw [hstep q i (fun r hr hc => hq r (List.mem_append_left _ hr) (by rw [e4.2 _ (hw r hr)]; exact hc)) kk]
                exact hS q i (fun r hr hc => hq r (List.mem_append_right _ hr) (by rw [e4.2 _ (hl r hr)]; exact hc)) kk
            obtain ⟨pc0, L, vs, S⟩ := c
            exact sm_T_stp hx' hop e1 hT
          · cases h
        · cases h
      · cases h
def sx_mcF (G : sx_G) (O : sx_O) (mid : Nat) (w : sx_Wl) (n : Nat) (a : sx_C) : Option (List sx_C) := match sx_mc G w mid n a [] with
  | some (b, l) => if l.all (fun r => O.all fun o => decide (o.1 ≠ r.1) || sx_oc1 r o b) then some [b] else none
  | none => none
def sx_mcX (G : sx_G) (O : sx_O) (mid : Nat) (w : sx_Wl) (mac : List (Nat × Nat)) (X : sx_X) : sx_X := fun pc => match mac.lookup pc with
  | none => X pc
  | some n => some (sx_mcF G O mid w n)
theorem sx_mcX_g {sc : Nat × (Nat → Int)} {G : sx_G} {O : sx_O} {d mid : Nat} {w : sx_Wl} {mac : List (Nat × Nat)} {X : sx_X} (hX : sx_hX sc (sx_IO G O) X d mid w) : sx_hX sc (sx_IO G O) (sx_mcX G O mid w mac X) d mid w := by
  intro pc f hf ρ τ a c cs Q hcs hpc g hz hI k
  unfold sx_mcX at hf
  split at hf
  · exact hX pc f hf ρ τ a c cs Q hcs hpc g hz hI k
  · rename_i n hn
    cases hf
    unfold sx_mcF at hcs
    split at hcs
    · rename_i b l hb
      split at hcs
      · rename_i hall
        cases hcs
        refine sx_mc_g (S0 := c.2.2.2) hb g hI.1 (fun r hr => absurd hr List.not_mem_nil) (fun _ _ _ _ => rfl) (fun c1 ρ1 τ1 g1 l1 i1 f1 s1 => ?_)
        refine k b c1 ρ1 τ1 (List.mem_singleton.mpr rfl) g1 l1 ⟨i1, fun o ho i hv => ?_⟩ f1
        by_cases hk : ∃ r ∈ l, r.1 = o.1 ∧ i = τ1 r.2.1 + r.2.2
        · obtain ⟨r, hr, k1, k2⟩ := hk
          have h9 := List.all_eq_true.mp (List.all_eq_true.mp hall r hr) o ho
          simp only [Bool.or_eq_true, decide_eq_true_eq] at h9
          rcases h9 with h9 | h9
          · exact absurd k1.symm h9
          · have := sx_oc1_g (r := r) g1 k1 h9
            rw [k2] at hv ⊢
            exact this hv
        · have hne : ∀ k', c1.2.2.2.1 o.1 i k' = c.2.2.2.1 o.1 i k' := s1 o.1 i (fun r hr hc => hk ⟨r, hr, hc⟩)
          have := hI.2 o ho i (sx_gd_eq (S := c.2.2.2) (fun g _ => hne g.1) hv)
          rw [show (fun k' => c1.2.2.2.1 o.1 i k') = fun k' => c.2.2.2.1 o.1 i k' from funext hne]
          exact this
      · cases hcs
    · cases hcs
