/-! runs of the small machine: calls, returns, throws, handlers, switches, and what the JDK's own methods do -/
abbrev sm_O : Type := Option sm_V ⊕ Nat
abbrev sm_R : Type := sm_O × sm_S × Nat
/-- a program: instructions by method and place; a method's class and locals; its handlers (from, to, handler, which exception); its switches (lowest, default, targets, as places); the JDK's own methods -/
abbrev sm_P : Type := (Nat → Nat → Option sm_I) × (Nat → Nat × Nat) × (Nat → List (Nat × Nat × Nat × Nat)) × (Nat → Nat → Option (Int × Nat × List Nat)) × (Nat → List sm_V → sm_S → Option (Option sm_V × sm_S))
def sm_vis (v : sm_V) : sm_L := match v with
  | .inr (.inl z) => [some (.inr (.inl z)), none]
  | v => [some v]
def sm_vsl (vs : List sm_V) : sm_L := vs.flatMap sm_vis
def sm_ent (maxL : Nat) (vs : List sm_V) : sm_L := sm_vsl vs ++ List.replicate (maxL - (sm_vsl vs).length) none
def sm_cat (v : sm_V) : Nat := match v with
  | .inr (.inl _) => 2
  | _ => 1
def sm_s0 (L : sm_L) (i : Nat) : sm_L := (List.range L.length).map fun j => if j = i then none else if j + 1 = i && sm_isl (L.getD j none) then none else L.getD j none
def sm_fh (hh : List (Nat × Nat × Nat × Nat)) (pc ex : Nat) : Option Nat := match hh with
  | [] => none
  | (f, t, h, e) :: r => if f ≤ pc && pc < t && e = ex then some h else sm_fh r pc ex
def sm_cov (hh : List (Nat × Nat × Nat × Nat)) (pc : Nat) : Bool := hh.any fun h => decide (h.1 ≤ pc) && decide (pc < h.2.1)
def sm_add (k : Nat) (r : sm_R) : sm_R := (r.1, r.2.1, k + r.2.2)
/-- which methods of the program are instance methods: the first argument's kind must be the class -/
def sm_rcv (own : Nat) (vs : List sm_V) : Bool := match vs with
  | .inr (.inr (some r)) :: _ => decide (r.1 = own)
  | _ => false
def sm_bd (P : sm_P) (rec : Nat → Nat → sm_C → Option sm_R) (d mid : Nat) (c : sm_C) : Option sm_R := match c with
  | (pc, L, st, S) => match P.1 mid pc with
    | none => none
    | some (op, n, a, b, v, z) => match op with
      | 40 => match d with
        | 0 => none
        | d + 1 =>
          if L.length = (P.2.1 mid).2 && (st.take b).length = b && ((st.drop b).map sm_cat).sum ≤ 8 && (v = 1 || sm_rcv (P.2.1 a).1 (st.take b).reverse) && (sm_vsl (st.take b).reverse).length ≤ (P.2.1 a).2 then
            match rec d a (0, sm_ent (P.2.1 a).2 (st.take b).reverse, [], S) with
            | none => none
            | some (.inl u, S', k) => (rec (d + 1) mid (pc + 3, L, u.toList ++ st.drop b, S')).map (sm_add k)
            | some (.inr ex, S', k) => match sm_fh (P.2.2.1 mid) pc ex with
              | none => if sm_cov (P.2.2.1 mid) pc then none else some (.inr ex, S', k)
              | some h => match P.1 mid h with
                | some (7, n', a', b', v', z') => if a' < L.length then (rec (d + 1) mid (h + n', sm_s0 L a', [], S')).map (sm_add k) else none
                | _ => none
          else none
      | 41 => match b, st with
        | 0, [.inl u] => some (.inl (some (.inl u)), S, 0)
        | 1, [.inl u] => if u = 0 || u = 1 then some (.inl (some (.inl u)), S, 0) else none
        | _, _ => none
      | 42 => match st with
        | [.inr (.inl u)] => some (.inl (some (.inr (.inl u))), S, 0)
        | _ => none
      | 43 => match st with
        | [.inr (.inr u)] => some (.inl (some (.inr (.inr u))), S, 0)
        | _ => none
      | 44 => match st with
        | [] => some (.inl none, S, 0)
        | _ => none
      | 45 => match st with
        | [] => if L.length = (P.2.1 mid).2 then some (.inr a, S, 1) else none
        | _ => none
      | 46 => match st with
        | .inl x :: r => match P.2.2.2.1 mid pc with
          | some (lo, df, ts) => match (if x < lo then none else ts[(x - lo).toNat]?) with
            | some t => rec d mid (t, L, r, S)
            | none => rec d mid (df, L, r, S)
          | none => none
        | _ => none
      | 49 => if (st.take b).length = b && L.length = (P.2.1 mid).2 && ((st.drop b).map sm_cat).sum ≤ 8 then
          match P.2.2.2.2 a (st.take b).reverse S with
          | some (u, S') => rec d mid (pc + n, L, u.toList ++ st.drop b, S')
          | none => none
        else none
      | _ => match sm_stp (op, n, a, b, v, z) pc L st S with
        | some c' => rec d mid c'
        | none => none
def sm_run (P : sm_P) : Nat → Nat → Nat → sm_C → Option sm_R
  | 0 => fun _ _ _ => none
  | n + 1 => sm_bd P (sm_run P n)
/-! more time changes no result -/
theorem sm_bd_mono {P : sm_P} {f g : Nat → Nat → sm_C → Option sm_R} (h : ∀ d mid c r, f d mid c = some r → g d mid c = some r) {d mid : Nat} {c : sm_C} {r : sm_R} (hr : sm_bd P f d mid c = some r) : sm_bd P g d mid c = some r := by
  obtain ⟨pc, L, st, S⟩ := c
  simp only [sm_bd] at hr ⊢
  split at hr
  · cases hr
  · split at hr
    · split at hr
      · cases hr
      · split at hr
        · rename_i hc
          rw [if_pos hc]
          split at hr
          · cases hr
          · rename_i hq
            rw [h _ _ _ _ hq]
            rw [Option.map_eq_some_iff] at hr ⊢
            obtain ⟨q, h1, h2⟩ := hr
            exact ⟨q, h _ _ _ _ h1, h2⟩
          · rename_i hq
            rw [h _ _ _ _ hq]
            dsimp only
            split at hr
            · exact hr
            · split at hr
              · split at hr
                · rename_i hl
                  rw [if_pos hl]
                  rw [Option.map_eq_some_iff] at hr ⊢
                  obtain ⟨q, h1, h2⟩ := hr
                  exact ⟨q, h _ _ _ _ h1, h2⟩
                · cases hr
              · cases hr
        · cases hr
    · exact hr
    · exact hr
    · exact hr
    · exact hr
    · exact hr
    · split at hr
      · split at hr
        · split at hr
          · exact h _ _ _ _ hr
          · exact h _ _ _ _ hr
        · cases hr
      · cases hr
    · split at hr
      · rename_i hc
        rw [if_pos hc]
        split at hr
        · exact h _ _ _ _ hr
        · cases hr
      · cases hr
    · split at hr
      · exact h _ _ _ _ hr
      · cases hr
theorem sm_run_mono {P : sm_P} {n : Nat} : ∀ {n' d mid : Nat} {c : sm_C} {r : sm_R}, n ≤ n' → sm_run P n d mid c = some r → sm_run P n' d mid c = some r := by
  induction n with
  | zero => intro n' d mid c r _ h; cases h
  | succ n ih =>
    intro n' d mid c r hn h
    cases n' with
    | zero => omega
    | succ n' => exact sm_bd_mono (fun _ _ _ _ q => ih (by omega) q) h
