/-! symbolic steps: arrays -/
def sx_eqE (x y : sx_E) : Bool := decide (x.1 = y.1) && decide (x.2 = y.2)
theorem sx_eqE_g {x y : sx_E} (h : sx_eqE x y = true) : x = y := by
  obtain ⟨x1, x2⟩ := x
  obtain ⟨y1, y2⟩ := y
  unfold sx_eqE at h
  simp only [Bool.and_eq_true, decide_eq_true_eq] at h
  obtain ⟨rfl, rfl⟩ := h
  rfl
def sx_lookA (r : Nat × Nat × Nat) (e : sx_E) : List ((Nat × Nat × Nat) × sx_E × sx_E) → Option sx_E
  | [] => none
  | q :: m => if decide (q.1 = r) && sx_eqE q.2.1 e then some q.2.2 else sx_lookA r e m
theorem sx_lookA_mem {r : Nat × Nat × Nat} {e v : sx_E} : ∀ {m : List ((Nat × Nat × Nat) × sx_E × sx_E)}, sx_lookA r e m = some v → (r, e, v) ∈ m
  | [], h => by cases h
  | q :: m, h => by
    unfold sx_lookA at h
    split at h
    · rename_i c
      simp only [Bool.and_eq_true, decide_eq_true_eq] at c
      cases h
      obtain ⟨q1, q2, q3⟩ := q
      obtain ⟨rfl, c2⟩ := c
      have c2 := sx_eqE_g c2
      dsimp only at c2
      subst c2
      exact List.mem_cons_self
    · exact List.mem_cons_of_mem _ (sx_lookA_mem h)
theorem sx_k9 {t : Nat} (h : (sh_kd t).1 ≠ 9) : t ≠ 999 := by
  intro e
  subst e
  exact h (by decide +kernel)
/-- the object at a place that was met before -/
def sx_lookO (e : sx_E) : List ((Nat × Nat × Nat) × sx_E × sx_E) → Option (Nat × Nat)
  | [] => none
  | q :: m => if decide (q.1.1 = 999) && sx_eqE q.2.1 e then some q.1.2 else sx_lookO e m
theorem sx_lookO_mem {e : sx_E} {r : Nat × Nat} : ∀ {m : List ((Nat × Nat × Nat) × sx_E × sx_E)}, sx_lookO e m = some r → ∃ v, ((999, r), e, v) ∈ m
  | [], h => by cases h
  | q :: m, h => by
    unfold sx_lookO at h
    split at h
    · rename_i c
      simp only [Bool.and_eq_true, decide_eq_true_eq] at c
      cases h
      obtain ⟨⟨q1, q2⟩, q3, q4⟩ := q
      obtain ⟨c1, c2⟩ := c
      have c3 := sx_eqE_g c2
      dsimp only at c1 c3 ⊢
      subst c1
      subst c3
      exact ⟨q4, List.mem_cons_self⟩
    · obtain ⟨v, hv⟩ := sx_lookO_mem h
      exact ⟨v, List.mem_cons_of_mem _ hv⟩
def sx_drA (t : Nat) (m : sx_N) : sx_N := (m.1, m.2.filter fun q => !decide (q.1.1 = t))
/-- what is read is kept -/
def sx_rdA (E : ai_E) (t0 tk of : Nat) (e : sx_E) (pc : Nat) (aL : sx_L) (r : List sx_V) (m : sx_M) (nn : sx_N) (iv : sx_I) (fs : List sx_E) (k : sx_K) (t : Nat) : sx_C := match sx_lookA (t0, tk, of) e nn.2 with
  | some v => (pc, aL, .inl v :: r, m, nn, iv, fs, k, t)
  | none => (pc, aL, .inl (sx_a iv.length) :: r, m, (nn.1, ((t0, tk, of), e, sx_a iv.length) :: nn.2), iv ++ [E.2.1 t0], fs, k, t)
def sx_ix (iv : sx_I) (fs : List sx_E) (t : Nat) (e : sx_E) : Bool := sx_in iv fs e (0, ((sh_kd t).2.2 : Int) - 1)
def sx_st6 (E : ai_E) (x : sm_I) (a : sx_C) : Option (List sx_C) := match x, a with
  | (op, _, _, _, _, _), (pc, aL, st, m, nn, iv, fs, k, t) => match op with
    | 28 => match st with
      | .inl e :: .inr (.inr (t0, tk, of, false)) :: r => if (sh_kd t0).1 = 1 && (sh_kd t0).2.1 = 0 && sx_ix iv fs t0 e then some [sx_rdA E t0 tk of e (pc + 1) aL r m nn iv fs k t] else none
      | _ => none
    | 29 => match st with
      | .inl e :: .inr (.inr (t0, tk, of, false)) :: r => if (sh_kd t0).1 = 2 && (sh_kd t0).2.1 = 1 && sx_ix iv fs t0 e then some [sx_rdA E t0 tk of e (pc + 1) aL r m nn iv fs k t] else none
      | _ => none
    | 30 => match st with
      | .inl e :: .inr (.inr (t0, tk, of, false)) :: r => if (sh_kd t0).1 = 3 && (sh_kd t0).2.1 = 2 && sx_ix iv fs t0 e then some [sx_rdA E t0 tk of e (pc + 1) aL r m nn iv fs k t] else none
      | _ => none
    | 31 => match st with
      | .inl e :: .inr (.inr (t0, _, _, false)) :: r => if (sh_kd t0).1 = 4 && (sh_kd t0).2.1 = 3 && sx_ix iv fs t0 e then some [(pc + 1, aL, .inr (.inl ()) :: r, m, nn, iv, fs, k, t)] else none
      | _ => none
    | 32 => match st with
      | .inl e :: .inr (.inr (t0, _, _, false)) :: r => if (sh_kd t0).1 = 5 && sx_ix iv fs t0 e then (match sx_lookO e nn.2 with
        | some q => some [(pc + 1, aL, .inr (.inr (sh_rk t0, q.1, q.2, false)) :: r, m, nn, iv, fs, k, t)]
        | none => some [(pc + 1, aL, .inr (.inr (sh_rk t0, t, 0, false)) :: r, m, (nn.1, ((999, t, 0), e, (0, [])) :: nn.2), iv, fs, k, t + 1)]) else none
      | _ => none
    | 33 => match st with
      | .inl v :: .inl e :: .inr (.inr (t0, tk, of, false)) :: r => if (sh_kd t0).1 = 1 && (sh_kd t0).2.1 = 0 && sx_ix iv fs t0 e && sx_in iv fs v (E.2.1 t0) && E.2.2.2.1 t0 then some [(pc + 1, aL, r, m, (nn.1, ((t0, tk, of), e, v) :: (sx_drA t0 nn).2), iv, fs, k, t)] else none
      | _ => none
    | 34 => match st with
      | .inl _ :: .inl e :: .inr (.inr (t0, _, _, false)) :: r => if (sh_kd t0).1 = 2 && (sh_kd t0).2.1 = 1 && sx_ix iv fs t0 e && decide ((E.2.1 t0).1 ≤ -128) && decide (127 ≤ (E.2.1 t0).2) && E.2.2.2.1 t0 then some [(pc + 1, aL, r, m, sx_drA t0 nn, iv, fs, k, t)] else none
      | _ => none
    | 35 => match st with
      | .inl _ :: .inl e :: .inr (.inr (t0, _, _, false)) :: r => if (sh_kd t0).1 = 3 && (sh_kd t0).2.1 = 2 && sx_ix iv fs t0 e && decide ((E.2.1 t0).1 ≤ 0) && decide (1 ≤ (E.2.1 t0).2) && E.2.2.2.1 t0 then some [(pc + 1, aL, r, m, sx_drA t0 nn, iv, fs, k, t)] else none
      | _ => none
    | 36 => match st with
      | .inr (.inl _) :: .inl e :: .inr (.inr (t0, _, _, false)) :: r => if (sh_kd t0).1 = 4 && (sh_kd t0).2.1 = 3 && sx_ix iv fs t0 e && E.2.2.2.1 t0 then some [(pc + 1, aL, r, m, nn, iv, fs, k, t)] else none
      | _ => none
    | 37 => match st with
      | .inr (.inr (t0, _, _, false)) :: r => if 1 ≤ (sh_kd t0).1 && (sh_kd t0).1 ≤ 5 then some [(pc + 1, aL, .inl (sx_c ((sh_kd t0).2.2 : Int)) :: r, m, nn, iv, fs, k, t)] else none
      | _ => none
    | _ => none
section SL
variable {ρ : Nat → Int} {τ : Nat → Nat}
theorem sx_ix_g {iv : sx_I} {fs : List sx_E} {t : Nat} {e : sx_E} (h : sx_iv ρ iv) (hf : sx_fs ρ iv.length fs) (he : sx_wf iv.length e) (hi : sx_ix iv fs t e = true) : 0 ≤ sx_ev ρ e ∧ sx_ev ρ e < (sh_kd t).2.2 := by
  have h1 := sx_in_g h hf he hi
  dsimp only at h1
  omega
/-- long arrays hold no part of the memory -/
theorem sx_gC_S {pc pc' t : Nat} {aL : sx_L} {st : List sx_V} {m : sx_M} {nn : sx_N} {iv : sx_I} {fs : List sx_E} {k : sx_K} {L : sm_L} {vs : List sm_V} {S S' : sm_S} (g : sx_gC ρ τ (pc, aL, st, m, nn, iv, fs, k, t) (pc', L, vs, S)) (h1 : S'.1 = S.1) (h2 : S'.2.1 = S.2.1) (h3 : S'.2.2.1 = S.2.2.1) : sx_gC ρ τ (pc, aL, st, m, nn, iv, fs, k, t) (pc', L, vs, S') := by
  obtain ⟨e, gL, gS, ⟨gM, wM⟩, ⟨gN, wN⟩, g1⟩ := g
  refine ⟨e, gL, gS, ⟨fun q hq => ?_, wM⟩, ⟨⟨fun q hq => ?_, fun q hq => ?_⟩, wN⟩, g1⟩
  · dsimp only
    rw [h1]
    exact gM q hq
  · dsimp only
    rw [h2]
    exact gN.1 q hq
  · have := gN.2 q hq
    unfold sx_gA at this ⊢
    dsimp only at this ⊢
    rw [h3]
    exact this
/-- arrays of one kind are written: what was known of them goes -/
theorem sx_gC_dA {pc pc' t t0 : Nat} {aL : sx_L} {st : List sx_V} {m : sx_M} {nn : sx_N} {iv : sx_I} {fs : List sx_E} {k : sx_K} {L : sm_L} {vs : List sm_V} {S S' : sm_S} (g : sx_gC ρ τ (pc, aL, st, m, nn, iv, fs, k, t) (pc', L, vs, S)) (h1 : S'.1 = S.1) (h2 : S'.2.1 = S.2.1) (h3 : ∀ t1 i j, t1 ≠ t0 → S'.2.2.1 t1 i j = S.2.2.1 t1 i j) : sx_gC ρ τ (pc, aL, st, m, sx_drA t0 nn, iv, fs, k, t) (pc', L, vs, S') := by
  obtain ⟨e, gL, gS, ⟨gM, wM⟩, ⟨gN, wN⟩, g1⟩ := g
  refine ⟨e, gL, gS, ⟨fun q hq => ?_, wM⟩, ⟨⟨fun q hq => ?_, fun q hq => ?_⟩, ⟨wN.1, fun q hq => wN.2 q (List.mem_filter.mp hq).1⟩⟩, g1⟩
  · dsimp only
    rw [h1]
    exact gM q hq
  · dsimp only
    rw [h2]
    exact gN.1 q hq
  · obtain ⟨m1, m2⟩ := List.mem_filter.mp hq
    have := gN.2 q m1
    unfold sx_gA at this ⊢
    dsimp only at this ⊢
    rw [h3 _ _ _ (by simpa using m2)]
    exact this
theorem sx_addA {pc pc' t t0 tk o : Nat} {aL : sx_L} {st : List sx_V} {m : sx_M} {nn : sx_N} {iv : sx_I} {fs : List sx_E} {k : sx_K} {L : sm_L} {vs : List sm_V} {S : sm_S} {e v : sx_E} (g : sx_gC ρ τ (pc, aL, st, m, nn, iv, fs, k, t) (pc', L, vs, S)) (wt : tk < t) (we : sx_wf iv.length e) (wv : sx_wf iv.length v) (h : sx_gA ρ τ S ((t0, tk, o), e, v)) : sx_gC ρ τ (pc, aL, st, m, (nn.1, ((t0, tk, o), e, v) :: nn.2), iv, fs, k, t) (pc', L, vs, S) := by
  obtain ⟨e0, gL, gS, gM, ⟨gN, wN⟩, g1⟩ := g
  refine ⟨e0, gL, gS, gM, ⟨⟨gN.1, fun q hq => ?_⟩, ⟨wN.1, fun q hq => ?_⟩⟩, g1⟩
  · rcases List.mem_cons.mp hq with rfl | hq
    · exact h
    · exact gN.2 q hq
  · rcases List.mem_cons.mp hq with rfl | hq
    · exact ⟨wt, we, wv⟩
    · exact wN.2 q hq
theorem sx_rdA_g {E : ai_E} {pc pc' t t0 tk o : Nat} {aL : sx_L} {st r : List sx_V} {m : sx_M} {nn : sx_N} {iv : sx_I} {fs : List sx_E} {k : sx_K} {L : sm_L} {vs w : List sm_V} {S : sm_S} {e : sx_E} (g : sx_gC ρ τ (pc, aL, st, m, nn, iv, fs, k, t) (pc, L, vs, S)) (hS : sx_gS ρ τ r w) (wS : sx_wS iv.length t r) (wt : tk < t) (we : sx_wf iv.length e) (hG : ai_GI E.1 E.2.1 S) (h9 : t0 ≠ 999) : ∃ ρ', sx_gC ρ' τ (sx_rdA E t0 tk o e pc' aL r m nn iv fs k t) (pc', L, .inl (S.2.2.1 t0 (τ tk + o) (sx_ev ρ e).toNat) :: w, S) ∧ sx_lk iv.length t ρ ρ' τ τ := by
  unfold sx_rdA
  split
  · rename_i v hv
    have hm := sx_lookA_mem hv
    obtain ⟨-, ⟨gL, wL⟩, -, gM, ⟨gN, wN⟩, g1⟩ := id g
    have h1 := gN.2 _ hm
    unfold sx_gA at h1
    rw [if_neg h9] at h1
    dsimp only at h1
    refine ⟨ρ, ⟨rfl, ⟨gL, wL⟩, ⟨⟨?_, hS⟩, sx_wS_cons (wN.2 _ hm).2.2 wS⟩, gM, ⟨gN, wN⟩, g1⟩, ⟨fun _ _ => rfl, fun _ _ => rfl⟩⟩
    exact h1.symm
  · have hv := hG.2 t0 (τ tk + o) (sx_ev ρ e).toNat
    obtain ⟨ρ', q1, q2⟩ := sx_pushI (pc' := pc') g hS wS hv.1 hv.2
    have hl : (iv ++ [((E.2.1 t0).1, (E.2.1 t0).2)]).length = iv.length + 1 := by rw [List.length_append]; rfl
    have wa : sx_wf (iv ++ [((E.2.1 t0).1, (E.2.1 t0).2)]).length (sx_a iv.length) := by rw [hl]; exact sx_a_wf (Nat.lt_succ_self _)
    have ea : sx_ev ρ' (sx_a iv.length) = S.2.2.1 t0 (τ tk + o) (sx_ev ρ e).toNat := by
      obtain ⟨-, -, ⟨gS', -⟩, -⟩ := q1
      exact gS'.1
    refine ⟨ρ', sx_addA q1 wt (by rw [hl]; exact sx_wf_mono (Nat.le_succ _) we) wa ?_, q2⟩
    unfold sx_gA
    rw [if_neg h9, ea]
    dsimp only
    rw [sx_ev_up q2.1 we]
theorem sx_st6_g {E : ai_E} {x : sm_I} {a : sx_C} {cs : List sx_C} {c : sm_C} (h : sx_st6 E x a = some cs) (g : sx_gC ρ τ a c) (hG : ai_GI E.1 E.2.1 c.2.2.2) : ∃ c1 a1 ρ' τ', sm_stp x c.1 c.2.1 c.2.2.1 c.2.2.2 = some c1 ∧ a1 ∈ cs ∧ sx_gC ρ' τ' a1 c1 ∧ sx_lk a.2.2.2.2.2.1.length a.2.2.2.2.2.2.2.2 ρ ρ' τ τ' ∧ ai_GI E.1 E.2.1 c1.2.2.2 ∧ ai_fr E.2.2 c.2.2.2 c1.2.2.2 := by
  obtain ⟨op, n, p, b, d, z⟩ := x
  obtain ⟨pc, aL, st, m, nn, iv, fs, k, t⟩ := a
  obtain ⟨pc0, L, vs, S⟩ := c
  obtain ⟨rfl, ⟨gL, wL⟩, ⟨gS, wS⟩, gM, gN, gi, gf, gk⟩ := id g
  have rf : sx_lk iv.length t ρ ρ τ τ := ⟨fun _ _ => rfl, fun _ _ => rfl⟩
  unfold sx_st6 at h
  dsimp only at h ⊢ gL gS hG
  split at h
  · split at h
    · rename_i e t0 tk of r
      split at h
      · rename_i hc
        simp only [Bool.and_eq_true, decide_eq_true_eq] at hc
        obtain ⟨⟨c1, c2⟩, c3⟩ := hc
        cases h
        obtain ⟨w, rfl, g2⟩ := sx_inv_i gS
        obtain ⟨w, rfl, g4⟩ := sx_inv_n g2
        have hi := sx_ix_g gi gf (sx_wS_hd wS) c3
        obtain ⟨ρ', q1, q2⟩ := sx_rdA_g (pc' := pc + 1) (t0 := t0) (tk := tk) (o := of) g g4 (sx_wS_tl (sx_wS_tl wS)) (sx_wS_hd (sx_wS_tl wS)) (sx_wS_hd wS) hG (sx_k9 (by rw [c1]; decide))
        exact ⟨(pc + 1, L, .inl (S.2.2.1 t0 (τ tk + of) (sx_ev ρ e).toNat) :: w, S), _, ρ', τ, by simp only [sm_stp]; rw [if_pos (by simp only [Bool.and_eq_true, decide_eq_true_eq]; exact ⟨⟨⟨c1, c2⟩, hi.1⟩, hi.2⟩)], List.mem_singleton.mpr rfl, q1, q2, hG, ai_fr_rf⟩
      · cases h
    · cases h
  · split at h
    · rename_i e t0 tk of r
      split at h
      · rename_i hc
        simp only [Bool.and_eq_true, decide_eq_true_eq] at hc
        obtain ⟨⟨c1, c2⟩, c3⟩ := hc
        cases h
        obtain ⟨w, rfl, g2⟩ := sx_inv_i gS
        obtain ⟨w, rfl, g4⟩ := sx_inv_n g2
        have hi := sx_ix_g gi gf (sx_wS_hd wS) c3
        obtain ⟨ρ', q1, q2⟩ := sx_rdA_g (pc' := pc + 1) (t0 := t0) (tk := tk) (o := of) g g4 (sx_wS_tl (sx_wS_tl wS)) (sx_wS_hd (sx_wS_tl wS)) (sx_wS_hd wS) hG (sx_k9 (by rw [c1]; decide))
        exact ⟨(pc + 1, L, .inl (S.2.2.1 t0 (τ tk + of) (sx_ev ρ e).toNat) :: w, S), _, ρ', τ, by simp only [sm_stp]; rw [if_pos (by simp only [Bool.and_eq_true, decide_eq_true_eq]; exact ⟨⟨⟨c1, c2⟩, hi.1⟩, hi.2⟩)], List.mem_singleton.mpr rfl, q1, q2, hG, ai_fr_rf⟩
      · cases h
    · cases h
  · split at h
    · rename_i e t0 tk of r
      split at h
      · rename_i hc
        simp only [Bool.and_eq_true, decide_eq_true_eq] at hc
        obtain ⟨⟨c1, c2⟩, c3⟩ := hc
        cases h
        obtain ⟨w, rfl, g2⟩ := sx_inv_i gS
        obtain ⟨w, rfl, g4⟩ := sx_inv_n g2
        have hi := sx_ix_g gi gf (sx_wS_hd wS) c3
        obtain ⟨ρ', q1, q2⟩ := sx_rdA_g (pc' := pc + 1) (t0 := t0) (tk := tk) (o := of) g g4 (sx_wS_tl (sx_wS_tl wS)) (sx_wS_hd (sx_wS_tl wS)) (sx_wS_hd wS) hG (sx_k9 (by rw [c1]; decide))
        exact ⟨(pc + 1, L, .inl (S.2.2.1 t0 (τ tk + of) (sx_ev ρ e).toNat) :: w, S), _, ρ', τ, by simp only [sm_stp]; rw [if_pos (by simp only [Bool.and_eq_true, decide_eq_true_eq]; exact ⟨⟨⟨c1, c2⟩, hi.1⟩, hi.2⟩)], List.mem_singleton.mpr rfl, q1, q2, hG, ai_fr_rf⟩
      · cases h
    · cases h
  · split at h
    · rename_i e t0 tk of r
      split at h
      · rename_i hc
        simp only [Bool.and_eq_true, decide_eq_true_eq] at hc
        obtain ⟨⟨c1, c2⟩, c3⟩ := hc
        cases h
        obtain ⟨w, rfl, g2⟩ := sx_inv_i gS
        obtain ⟨w, rfl, g4⟩ := sx_inv_n g2
        have hi := sx_ix_g gi gf (sx_wS_hd wS) c3
        exact ⟨(pc + 1, L, .inr (.inl (S.2.2.2 t0 (τ tk + of) (sx_ev ρ e).toNat)) :: w, S), _, ρ, τ, by simp only [sm_stp]; rw [if_pos (by simp only [Bool.and_eq_true, decide_eq_true_eq]; exact ⟨⟨⟨c1, c2⟩, hi.1⟩, hi.2⟩)], List.mem_singleton.mpr rfl, sx_mk g gL wL ⟨trivial, g4⟩ (sx_wS_cons trivial (sx_wS_tl (sx_wS_tl wS))), rf, hG, ai_fr_rf⟩
      · cases h
    · cases h
  · split at h
    · rename_i e t0 tk of r
      split at h
      · rename_i hc
        simp only [Bool.and_eq_true, decide_eq_true_eq] at hc
        obtain ⟨c1, c3⟩ := hc
        obtain ⟨w, rfl, g2⟩ := sx_inv_i gS
        obtain ⟨w, rfl, g4⟩ := sx_inv_n g2
        have hi := sx_ix_g gi gf (sx_wS_hd wS) c3
        have we : sx_wf iv.length e := sx_wS_hd wS
        have hst : sm_stp (32, n, p, b, d, z) pc L (.inl (sx_ev ρ e) :: .inr (.inr (some (t0, τ tk + of))) :: w) S = some (pc + 1, L, .inr (.inr (some (sh_rk t0, (sx_ev ρ e).toNat))) :: w, S) := by
          simp only [sm_stp]
          rw [if_pos (by simp only [Bool.and_eq_true, decide_eq_true_eq]; exact ⟨⟨c1, hi.1⟩, hi.2⟩)]
        split at h
        · rename_i q hq
          cases h
          obtain ⟨v, hv⟩ := sx_lookO_mem hq
          have h1 := gN.1.2 _ hv
          have w1 := (gN.2.2 _ hv).1
          unfold sx_gA at h1
          rw [if_pos rfl] at h1
          dsimp only at h1 w1
          refine ⟨_, _, ρ, τ, hst, List.mem_singleton.mpr rfl, sx_mk g gL wL ⟨?_, g4⟩ (sx_wS_cons w1 (sx_wS_tl (sx_wS_tl wS))), rf, hG, ai_fr_rf⟩
          show some (sh_rk t0, (sx_ev ρ e).toNat) = some (sh_rk t0, τ q.1 + q.2)
          rw [h1]
        · cases h
          obtain ⟨τ', l1, l2, g9⟩ := sx_token (sx_mk (pc' := pc + 1) g gL wL g4 (sx_wS_tl (sx_wS_tl wS))) (sx_ev ρ e).toNat
          obtain ⟨-, ⟨gL', wL'⟩, ⟨gS', wS'⟩, g5⟩ := sx_addA (t0 := 999) (tk := t) (o := 0) (e := e) (v := (0, [])) g9 (Nat.lt_succ_self t) we (fun _ h => absurd h List.not_mem_nil) (by
            unfold sx_gA
            rw [if_pos rfl]
            show (sx_ev ρ e).toNat = τ' t + 0
            rw [l2]
            rfl)
          refine ⟨_, _, ρ, τ', hst, List.mem_singleton.mpr rfl, ⟨rfl, ⟨gL', wL'⟩, ⟨⟨?_, gS'⟩, sx_wS_cons (Nat.lt_succ_self t) wS'⟩, g5⟩, l1, hG, ai_fr_rf⟩
          show some (sh_rk t0, (sx_ev ρ e).toNat) = some (sh_rk t0, τ' t + 0)
          rw [l2]
          rfl
      · cases h
    · cases h
  · split at h
    · rename_i v e t0 tk of r
      split at h
      · rename_i hc
        simp only [Bool.and_eq_true, decide_eq_true_eq] at hc
        obtain ⟨⟨⟨⟨c1, c2⟩, c3⟩, c4⟩, c5⟩ := hc
        cases h
        obtain ⟨w, rfl, g2⟩ := sx_inv_i gS
        obtain ⟨w, rfl, g3⟩ := sx_inv_i g2
        obtain ⟨w, rfl, g4⟩ := sx_inv_n g3
        have hi := sx_ix_g gi gf (sx_wS_hd (sx_wS_tl wS)) c3
        have hv := sx_in_g gi gf (sx_wS_hd wS) c4
        exact ⟨(pc + 1, L, w, sm_aI S t0 (τ tk + of) (sx_ev ρ e).toNat (sx_ev ρ v)), _, ρ, τ, by simp only [sm_stp]; rw [if_pos (by simp only [Bool.and_eq_true, decide_eq_true_eq]; exact ⟨⟨⟨c1, c2⟩, hi.1⟩, hi.2⟩)], List.mem_singleton.mpr rfl, sx_addA (sx_gC_dA (t0 := t0) (S' := sm_aI S t0 (τ tk + of) (sx_ev ρ e).toNat (sx_ev ρ v)) (sx_mk g gL wL g4 (sx_wS_tl (sx_wS_tl (sx_wS_tl wS)))) rfl rfl (fun t1 i j hne => sm_up_ne (fun q => hne q.1))) (sx_wS_hd (sx_wS_tl (sx_wS_tl wS))) (sx_wS_hd (sx_wS_tl wS)) (sx_wS_hd wS) (by unfold sx_gA; rw [if_neg (sx_k9 (by rw [c1]; decide))]; exact sm_up_self), rf, ai_GI_aI hG hv, ai_fr_aI c5⟩
      · cases h
    · cases h
  · split at h
    · rename_i v e t0 tk of r
      split at h
      · rename_i hc
        simp only [Bool.and_eq_true, decide_eq_true_eq] at hc
        obtain ⟨⟨⟨⟨⟨c1, c2⟩, c3⟩, c4⟩, c6⟩, c5⟩ := hc
        cases h
        obtain ⟨w, rfl, g2⟩ := sx_inv_i gS
        obtain ⟨w, rfl, g3⟩ := sx_inv_i g2
        obtain ⟨w, rfl, g4⟩ := sx_inv_n g3
        have hi := sx_ix_g gi gf (sx_wS_hd (sx_wS_tl wS)) c3
        have hv := ai_nar_b (Int32.ofInt (sx_ev ρ v))
        exact ⟨(pc + 1, L, w, sm_aI S t0 (τ tk + of) (sx_ev ρ e).toNat (vp_nar .byte (Int32.ofInt (sx_ev ρ v))).toInt), _, ρ, τ, by simp only [sm_stp]; rw [if_pos (by simp only [Bool.and_eq_true, decide_eq_true_eq]; exact ⟨⟨⟨c1, c2⟩, hi.1⟩, hi.2⟩)], List.mem_singleton.mpr rfl, sx_gC_dA (t0 := t0) (sx_mk g gL wL g4 (sx_wS_tl (sx_wS_tl (sx_wS_tl wS)))) rfl rfl (fun t1 i j hne => sm_up_ne (fun q => hne q.1)), rf, ai_GI_aI hG ⟨by omega, by omega⟩, ai_fr_aI c5⟩
      · cases h
    · cases h
  · split at h
    · rename_i v e t0 tk of r
      split at h
      · rename_i hc
        simp only [Bool.and_eq_true, decide_eq_true_eq] at hc
        obtain ⟨⟨⟨⟨⟨c1, c2⟩, c3⟩, c4⟩, c6⟩, c5⟩ := hc
        cases h
        obtain ⟨w, rfl, g2⟩ := sx_inv_i gS
        obtain ⟨w, rfl, g3⟩ := sx_inv_i g2
        obtain ⟨w, rfl, g4⟩ := sx_inv_n g3
        have hi := sx_ix_g gi gf (sx_wS_hd (sx_wS_tl wS)) c3
        have hv := ai_nar_z (Int32.ofInt (sx_ev ρ v))
        exact ⟨(pc + 1, L, w, sm_aI S t0 (τ tk + of) (sx_ev ρ e).toNat (vp_nar .boolean (Int32.ofInt (sx_ev ρ v))).toInt), _, ρ, τ, by simp only [sm_stp]; rw [if_pos (by simp only [Bool.and_eq_true, decide_eq_true_eq]; exact ⟨⟨⟨c1, c2⟩, hi.1⟩, hi.2⟩)], List.mem_singleton.mpr rfl, sx_gC_dA (t0 := t0) (sx_mk g gL wL g4 (sx_wS_tl (sx_wS_tl (sx_wS_tl wS)))) rfl rfl (fun t1 i j hne => sm_up_ne (fun q => hne q.1)), rf, ai_GI_aI hG ⟨by omega, by omega⟩, ai_fr_aI c5⟩
      · cases h
    · cases h
  · split at h
    · rename_i e t0 tk of r
      split at h
      · rename_i hc
        simp only [Bool.and_eq_true, decide_eq_true_eq] at hc
        obtain ⟨⟨⟨c1, c2⟩, c3⟩, c5⟩ := hc
        cases h
        obtain ⟨y, w, rfl, g2⟩ := sx_inv_l gS
        obtain ⟨w, rfl, g3⟩ := sx_inv_i g2
        obtain ⟨w, rfl, g4⟩ := sx_inv_n g3
        have hi := sx_ix_g gi gf (sx_wS_hd (sx_wS_tl wS)) c3
        exact ⟨(pc + 1, L, w, sm_aL S t0 (τ tk + of) (sx_ev ρ e).toNat y), _, ρ, τ, by simp only [sm_stp]; rw [if_pos (by simp only [Bool.and_eq_true, decide_eq_true_eq]; exact ⟨⟨⟨c1, c2⟩, hi.1⟩, hi.2⟩)], List.mem_singleton.mpr rfl, sx_gC_S (sx_mk g gL wL g4 (sx_wS_tl (sx_wS_tl (sx_wS_tl wS)))) rfl rfl rfl, rf, hG, ai_fr_aL c5⟩
      · cases h
    · cases h
  · split at h
    · rename_i t0 tk of r
      split at h
      · rename_i hc
        simp only [Bool.and_eq_true, decide_eq_true_eq] at hc
        cases h
        obtain ⟨w, rfl, g2⟩ := sx_inv_n gS
        exact ⟨(pc + 1, L, .inl ((sh_kd t0).2.2 : Int) :: w, S), _, ρ, τ, by simp only [sm_stp]; rw [if_pos (by simp only [Bool.and_eq_true, decide_eq_true_eq]; exact hc)], List.mem_singleton.mpr rfl, sx_mk g gL wL ⟨sx_c_ev ρ _, g2⟩ (sx_wS_cons (sx_c_wf _ _) (sx_wS_tl wS)), rf, hG, ai_fr_rf⟩
      · cases h
    · cases h
  · cases h
end SL
