/-! rules for runs -/
def sm_T (P : sm_P) (d mid : Nat) (c : sm_C) (Q : sm_R → Prop) : Prop := ∃ n r, sm_run P n d mid c = some r ∧ Q r
theorem sm_T.mono {P : sm_P} {d mid : Nat} {c : sm_C} {Q Q' : sm_R → Prop} (h : sm_T P d mid c Q) (hq : ∀ r, Q r → Q' r) : sm_T P d mid c Q' := by
  obtain ⟨n, r, h1, h2⟩ := h
  exact ⟨n, r, h1, hq r h2⟩
theorem sm_bd_d {P : sm_P} {f : Nat → Nat → sm_C → Option sm_R} (h : ∀ d mid c r, f d mid c = some r → f (d + 1) mid c = some r) {d mid : Nat} {c : sm_C} {r : sm_R} (hr : sm_bd P f d mid c = some r) : sm_bd P f (d + 1) mid c = some r := by
  obtain ⟨pc, L, st, S⟩ := c
  simp only [sm_bd] at hr ⊢
  split at hr
  · cases hr
  · split at hr
    · split at hr
      · cases hr
      · split at hr
        · rename_i hc
          rw [if_pos hc]
          split at hr
          · cases hr
          · rename_i hq
            rw [h _ _ _ _ hq]
            rw [Option.map_eq_some_iff] at hr ⊢
            obtain ⟨q, h1, h2⟩ := hr
            exact ⟨q, h _ _ _ _ h1, h2⟩
          · rename_i hq
            rw [h _ _ _ _ hq]
            dsimp only
            split at hr
            · exact hr
            · split at hr
              · split at hr
                · rename_i hl
                  rw [if_pos hl]
                  rw [Option.map_eq_some_iff] at hr ⊢
                  obtain ⟨q, h1, h2⟩ := hr
                  exact ⟨q, h _ _ _ _ h1, h2⟩
                · cases hr
              · cases hr
        · cases hr
    · exact hr
    · exact hr
    · exact hr
    · exact hr
    · exact hr
    · split at hr
      · split at hr
        · split at hr
          · exact h _ _ _ _ hr
          · exact h _ _ _ _ hr
        · cases hr
      · cases hr
    · split at hr
      · rename_i hc
        rw [if_pos hc]
        split at hr
        · exact h _ _ _ _ hr
        · cases hr
      · cases hr
    · split at hr
      · exact h _ _ _ _ hr
      · cases hr
theorem sm_run_d {P : sm_P} : ∀ {n d mid : Nat} {c : sm_C} {r : sm_R}, sm_run P n d mid c = some r → sm_run P n (d + 1) mid c = some r := by
  intro n
  induction n with
  | zero => intro d mid c r h; cases h
  | succ n ih => intro d mid c r h; exact sm_bd_d (fun _ _ _ _ q => ih q) h
/-- more depth changes no result -/
theorem sm_T.deep {P : sm_P} {d d' mid : Nat} {c : sm_C} {Q : sm_R → Prop} (h : sm_T P d mid c Q) (hd : d ≤ d') : sm_T P d' mid c Q := by
  obtain ⟨k, rfl⟩ : ∃ k, d' = d + k := ⟨d' - d, by omega⟩
  clear hd
  induction k with
  | zero => exact h
  | succ k ih =>
    obtain ⟨n, r, h1, h2⟩ := ih
    exact ⟨n, r, sm_run_d h1, h2⟩
theorem sm_T_stp {P : sm_P} {d mid pc : Nat} {L : sm_L} {st : List sm_V} {S : sm_S} {x : sm_I} {c1 : sm_C} {Q : sm_R → Prop} (hx : P.1 mid pc = some x) (hop : x.1 < 40) (hs : sm_stp x pc L st S = some c1) (k : sm_T P d mid c1 Q) : sm_T P d mid (pc, L, st, S) Q := by
  obtain ⟨n, r, hr, hq⟩ := k
  refine ⟨n + 1, r, ?_, hq⟩
  show sm_bd P (sm_run P n) d mid (pc, L, st, S) = some r
  obtain ⟨op, n0, a, b, v, z⟩ := x
  have hop : op < 40 := hop
  simp only [sm_bd, hx]
  split
  · omega
  · omega
  · omega
  · omega
  · omega
  · omega
  · omega
  · omega
  · rw [hs]; exact hr
def sm_go (P : sm_P) (mid : Nat) : Nat → sm_C → Option sm_C
  | 0, c => some c
  | k + 1, (pc, L, st, S) => match P.1 mid pc with
    | some x => if x.1 < 40 then match sm_stp x pc L st S with
      | some c1 => sm_go P mid k c1
      | none => none
      else none
    | none => none
theorem sm_T_go {P : sm_P} {d mid : Nat} {Q : sm_R → Prop} (k : Nat) : ∀ {c c1 : sm_C}, sm_go P mid k c = some c1 → sm_T P d mid c1 Q → sm_T P d mid c Q := by
  induction k with
  | zero => intro c c1 h hT; cases h; exact hT
  | succ k ih =>
    intro c c1 h hT
    obtain ⟨pc, L, st, S⟩ := c
    simp only [sm_go] at h
    split at h
    · rename_i x hx
      split at h
      · rename_i hop
        split at h
        · rename_i c2 hs
          exact sm_T_stp hx hop hs (ih h hT)
        · cases h
      · cases h
    · cases h
theorem sm_T_call {P : sm_P} {d mid pc n0 a b v : Nat} {z : Int} {L : sm_L} {st : List sm_V} {S : sm_S} {Q Q1 : sm_R → Prop} (hx : P.1 mid pc = some (40, n0, a, b, v, z))
    (hc : (L.length = (P.2.1 mid).2 && (st.take b).length = b && ((st.drop b).map sm_cat).sum ≤ 8 && (v = 1 || sm_rcv (P.2.1 a).1 (st.take b).reverse) && (sm_vsl (st.take b).reverse).length ≤ (P.2.1 a).2) = true)
    (hsub : sm_T P d a (0, sm_ent (P.2.1 a).2 (st.take b).reverse, [], S) Q1)
    (kn : ∀ u S1 k1, Q1 (.inl u, S1, k1) → sm_T P (d + 1) mid (pc + 3, L, u.toList ++ st.drop b, S1) (fun r => Q (sm_add k1 r)))
    (kx : ∀ ex S1 k1, Q1 (.inr ex, S1, k1) → match sm_fh (P.2.2.1 mid) pc ex with
      | none => sm_cov (P.2.2.1 mid) pc = false ∧ Q (.inr ex, S1, k1)
      | some h => ∃ n' a' b' v' z', P.1 mid h = some (7, n', a', b', v', z') ∧ a' < L.length ∧ sm_T P (d + 1) mid (h + n', sm_s0 L a', [], S1) (fun r => Q (sm_add k1 r))) :
    sm_T P (d + 1) mid (pc, L, st, S) Q := by
  obtain ⟨n1, ⟨o1, S1, k1⟩, h1, q1⟩ := hsub
  rcases o1 with u | ex
  · obtain ⟨n2, r2, h2, q2⟩ := kn u S1 k1 q1
    refine ⟨max n1 n2 + 1, sm_add k1 r2, ?_, q2⟩
    show sm_bd P (sm_run P (max n1 n2)) (d + 1) mid (pc, L, st, S) = _
    simp only [sm_bd, hx]
    rw [if_pos hc, sm_run_mono (Nat.le_max_left n1 n2) h1]
    dsimp only
    rw [sm_run_mono (Nat.le_max_right n1 n2) h2]
    rfl
  · have kx := kx ex S1 k1 q1
    cases hf : sm_fh (P.2.2.1 mid) pc ex with
    | none =>
      rw [hf] at kx
      obtain ⟨c1, c2⟩ := kx
      refine ⟨n1 + 1, _, ?_, c2⟩
      show sm_bd P (sm_run P n1) (d + 1) mid (pc, L, st, S) = _
      simp only [sm_bd, hx]
      rw [if_pos hc, h1]
      try dsimp only
      rw [hf]
      try dsimp only
      rw [if_neg (by rw [c1]; decide)]
    | some h =>
      rw [hf] at kx
      obtain ⟨n', a', b', v', z', e1, e2, n2, r2, h2, q2⟩ := kx
      refine ⟨max n1 n2 + 1, sm_add k1 r2, ?_, q2⟩
      show sm_bd P (sm_run P (max n1 n2)) (d + 1) mid (pc, L, st, S) = _
      simp only [sm_bd, hx]
      rw [if_pos hc, sm_run_mono (Nat.le_max_left n1 n2) h1]
      try dsimp only
      rw [hf]
      try dsimp only
      rw [e1]
      change (if a' < L.length then (sm_run P (max n1 n2) (d + 1) mid (h + n', sm_s0 L a', [], S1)).map (sm_add k1) else none) = _
      rw [if_pos e2, sm_run_mono (Nat.le_max_right n1 n2) h2]
      rfl
/-- a call that returns and makes nothing -/
theorem sm_T_cal {P : sm_P} {d d1 mid pc n0 a b v : Nat} {z : Int} {L : sm_L} {st : List sm_V} {S : sm_S} {Q : sm_R → Prop} {Q1 : Option sm_V → sm_S → Prop} (hx : P.1 mid pc = some (40, n0, a, b, v, z))
    (hc : (L.length = (P.2.1 mid).2 && (st.take b).length = b && ((st.drop b).map sm_cat).sum ≤ 8 && (v = 1 || sm_rcv (P.2.1 a).1 (st.take b).reverse) && (sm_vsl (st.take b).reverse).length ≤ (P.2.1 a).2) = true)
    (hd : d1 ≤ d) (hsub : sm_T P d1 a (0, sm_ent (P.2.1 a).2 (st.take b).reverse, [], S) (fun r => ∃ u S1, r = (.inl u, S1, 0) ∧ Q1 u S1))
    (kn : ∀ u S1, Q1 u S1 → sm_T P (d + 1) mid (pc + 3, L, u.toList ++ st.drop b, S1) Q) : sm_T P (d + 1) mid (pc, L, st, S) Q := by
  refine sm_T_call hx hc (hsub.deep hd) (fun u S1 k1 q => ?_) (fun ex S1 k1 q => ?_)
  · obtain ⟨u', S1', e, q⟩ := q
    cases e
    exact (kn _ _ q).mono (fun r h => by rw [sm_add_0]; exact h)
  · obtain ⟨u', S1', e, q⟩ := q
    cases e
theorem sm_T_ri {P : sm_P} {d mid pc n0 a v : Nat} {z u : Int} {L : sm_L} {S : sm_S} {Q : sm_R → Prop} (hx : P.1 mid pc = some (41, n0, a, 0, v, z)) (q : Q (.inl (some (.inl u)), S, 0)) : sm_T P d mid (pc, L, [.inl u], S) Q := ⟨1, _, by show sm_bd P (sm_run P 0) d mid _ = _; simp only [sm_bd, hx], q⟩
theorem sm_T_rz {P : sm_P} {d mid pc n0 a v : Nat} {z u : Int} {L : sm_L} {S : sm_S} {Q : sm_R → Prop} (hx : P.1 mid pc = some (41, n0, a, 1, v, z)) (hu : u = 0 ∨ u = 1) (q : Q (.inl (some (.inl u)), S, 0)) : sm_T P d mid (pc, L, [.inl u], S) Q := ⟨1, _, by show sm_bd P (sm_run P 0) d mid _ = _; simp only [sm_bd, hx]; rw [if_pos (by simpa using hu)], q⟩
theorem sm_T_rl {P : sm_P} {d mid pc n0 a b v : Nat} {z u : Int} {L : sm_L} {S : sm_S} {Q : sm_R → Prop} (hx : P.1 mid pc = some (42, n0, a, b, v, z)) (q : Q (.inl (some (.inr (.inl u))), S, 0)) : sm_T P d mid (pc, L, [.inr (.inl u)], S) Q := ⟨1, _, by show sm_bd P (sm_run P 0) d mid _ = _; simp only [sm_bd, hx], q⟩
theorem sm_T_ra {P : sm_P} {d mid pc n0 a b v : Nat} {z : Int} {u : Option (Nat × Nat)} {L : sm_L} {S : sm_S} {Q : sm_R → Prop} (hx : P.1 mid pc = some (43, n0, a, b, v, z)) (q : Q (.inl (some (.inr (.inr u))), S, 0)) : sm_T P d mid (pc, L, [.inr (.inr u)], S) Q := ⟨1, _, by show sm_bd P (sm_run P 0) d mid _ = _; simp only [sm_bd, hx], q⟩
theorem sm_T_rv {P : sm_P} {d mid pc n0 a b v : Nat} {z : Int} {L : sm_L} {S : sm_S} {Q : sm_R → Prop} (hx : P.1 mid pc = some (44, n0, a, b, v, z)) (q : Q (.inl none, S, 0)) : sm_T P d mid (pc, L, [], S) Q := ⟨1, _, by show sm_bd P (sm_run P 0) d mid _ = _; simp only [sm_bd, hx], q⟩
theorem sm_T_th {P : sm_P} {d mid pc n0 a b v : Nat} {z : Int} {L : sm_L} {S : sm_S} {Q : sm_R → Prop} (hx : P.1 mid pc = some (45, n0, a, b, v, z)) (hL : L.length = (P.2.1 mid).2) (q : Q (.inr a, S, 1)) : sm_T P d mid (pc, L, [], S) Q := ⟨1, _, by show sm_bd P (sm_run P 0) d mid _ = _; simp only [sm_bd, hx]; rw [if_pos hL], q⟩
theorem sm_T_sw {P : sm_P} {d mid pc n0 a b v t df : Nat} {z x lo : Int} {ts : List Nat} {L : sm_L} {r : List sm_V} {S : sm_S} {Q : sm_R → Prop} (hx : P.1 mid pc = some (46, n0, a, b, v, z)) (hs : P.2.2.2.1 mid pc = some (lo, df, ts)) (ht : (if x < lo then none else ts[(x - lo).toNat]?).getD df = t) (k : sm_T P d mid (t, L, r, S) Q) : sm_T P d mid (pc, L, .inl x :: r, S) Q := by
  obtain ⟨n, q, hr, hq⟩ := k
  refine ⟨n + 1, q, ?_, hq⟩
  show sm_bd P (sm_run P n) d mid _ = _
  simp only [sm_bd, hx, hs]
  split
  · rename_i t' h'
    rw [h'] at ht
    subst ht
    exact hr
  · rename_i h'
    rw [h'] at ht
    subst ht
    exact hr
theorem sm_T_nt {P : sm_P} {d mid pc n0 a b v : Nat} {z : Int} {L : sm_L} {st : List sm_V} {S S1 : sm_S} {u : Option sm_V} {Q : sm_R → Prop} (hx : P.1 mid pc = some (49, n0, a, b, v, z)) (hb : ((st.take b).length = b && L.length = (P.2.1 mid).2 && ((st.drop b).map sm_cat).sum ≤ 8) = true) (hn : P.2.2.2.2 a (st.take b).reverse S = some (u, S1)) (k : sm_T P d mid (pc + n0, L, u.toList ++ st.drop b, S1) Q) : sm_T P d mid (pc, L, st, S) Q := by
  obtain ⟨n, q, hr, hq⟩ := k
  refine ⟨n + 1, q, ?_, hq⟩
  show sm_bd P (sm_run P n) d mid _ = _
  simp only [sm_bd, hx]
  rw [if_pos hb, hn]
  exact hr
