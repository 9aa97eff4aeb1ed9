/-! the program's own names, and what is known of its instructions -/
abbrev sm_M : Type := (Nat → MethodName) × (Nat → ByteArray) × (Nat → Option FieldType) × (Nat → List (Nat × Nat × Nat × Nat)) × (Nat × (Nat → Int))
def sm_hok (own : Nat) : List (Nat × Nat × Nat × Nat) → List (Nat × Nat × Nat × Nat) → Prop
  | [], [] => True
  | (f, t, h, ct) :: r, (f', t', h', e) :: r' => (f = f' ∧ t = t' ∧ h = h') ∧ ct ≠ 0 ∧ (∃ E, exs[e]? = some E ∧ Cond.classLink (sh_R own) ct E ∈ BG) ∧ sm_hok own r r'
  | _, _ => False
def sm_cw (P : sm_P) (M : sm_M) (mid : Nat) : Cond := match M.2.2.2.1 mid with
  | [] => .code (M.1 mid) (M.2.1 mid) (P.2.1 mid).2 (M.2.2.1 mid)
  | h :: r => .codeWith (M.1 mid) (M.2.1 mid) (P.2.1 mid).2 (M.2.2.1 mid) (h :: r)
def sm_mok (P : sm_P) (M : sm_M) (mid : Nat) : Prop := sm_cw P M mid ∈ BG ∧ (M.1 mid).cls = sh_R (P.2.1 mid).1 ∧ plainName (M.1 mid).cls = true ∧ Cond.initialized (M.1 mid).cls ∈ BG ∧ ((M.1 mid).cls ≠ "java/lang/invoke/MethodHandle" ∧ (M.1 mid).cls ≠ "java/lang/invoke/VarHandle") ∧ (P.2.1 mid).2 ≤ 80 ∧ sm_hok (P.2.1 mid).1 (M.2.2.2.1 mid) (P.2.2.1 mid)
def sm_cx (P : sm_P) (M : sm_M) (mid : Nat) (p : Program) (l : Launch) (s : State) (m : MethodId) (args : Array Value) (meth : Method) (c : Code) (ad : Nat → Nat → Nat) (D : va_G) (K : Nat → ClassId) : Prop :=
  p.tables.exec = Jvm.exec ∧ c.code = M.2.1 mid ∧ (∀ w ∈ BG, w.before args s = true) ∧ s.vm.findClass (sh_R (P.2.1 mid).1) = some m.cls ∧ va_K D CL (sm_tys K) s ∧ c.maxLocals = (P.2.1 mid).2 ∧ meth.sig.returnType = M.2.2.1 mid ∧ meth.locks = false ∧ sm_ev M.2.2.2.2 ad (sm_A ad s.heap.size) s s.heap ∧ l.stackTraces = false ∧ c.exceptionTable.toList = tableOf (M.2.2.2.1 mid) ∧ sm_hok (P.2.1 mid).1 (M.2.2.2.1 mid) (P.2.2.1 mid)
/-- the world behind a run -/
def sm_Qn (D : va_G) (K : Nat → ClassId) (ad : Nat → Nat → Nat) (A : Nat → Prop) (r : sm_R) : Array Value → State → Outcome → State → Prop := fun _ st oc t => (∃ v, r.1 = .inl v ∧ oc = .returned (v.map (sm_tr ad)) ∧ ∀ u, v = some u → sm_nz sh_cz u) ∧ va_P D CL (sm_ws K ad r.2.1) t.heap ∧ sm_nS r.2.1 ∧ va_F A st t
def sm_Qx (D : va_G) (K : Nat → ClassId) (ad : Nat → Nat → Nat) (A : Nat → Prop) (r : sm_R) : String → State → State → Prop := fun E st t => (∃ x, r.1 = .inr x ∧ exs[x]? = some E) ∧ va_P D CL (sm_ws K ad r.2.1) t.heap ∧ sm_nS r.2.1 ∧ va_F A st t
/-- one place leads to another, whatever is around -/
def sm_loc (P : sm_P) (M : sm_M) (mid : Nat) (c0 c1 : sm_C) : Prop := ∀ (p : Program) (l : Launch) (e : Env) (R : Room) (s : State) (m : MethodId) (args : Array Value) (below : List Frame) (meth : Method) (c : Code) (cells slots : Nat) (Q : State → Prop) (ad : Nat → Nat → Nat) (D : va_G) (K : Nat → ClassId), sm_cx P M mid p l s m args meth c ad D K → 6 ≤ R.frames → 150 ≤ R.locals → cells ≤ R.cells → slots ≤ R.slots → sm_G p l e R s m args below meth c cells slots Q ad D K (sm_A ad s.heap.size) s.heap c1 → sm_G p l e R s m args below meth c cells slots Q ad D K (sm_A ad s.heap.size) s.heap c0
def sm_thr (P : sm_P) (M : sm_M) (mid pc a : Nat) : Prop := ∀ (p : Program) (l : Launch) (e : Env) (R : Room) (s : State) (m : MethodId) (args : Array Value) (below : List Frame) (meth : Method) (c : Code) (cells slots mc ms : Nat) (ad : Nat → Nat → Nat) (D : va_G) (K : Nat → ClassId) (L : sm_L) (S : sm_S) (k : Nat), sm_cx P M mid p l s m args meth c ad D K → L.length = (P.2.1 mid).2 → 6 ≤ R.frames → 150 ≤ R.locals → cells + 1 ≤ R.cells → slots + 6 ≤ R.slots → cells + 1 ≤ mc → slots + 6 ≤ ms →
  sm_G p l e R s m args below meth c cells slots (vx_MQ below (sm_Qn D K ad (sm_A ad s.heap.size) (.inr a, S, k)) (sm_Qx D K ad (sm_A ad s.heap.size) (.inr a, S, k)) args s mc ms (sm_A ad s.heap.size)) ad D K (sm_A ad s.heap.size) s.heap (pc, L, [], S)
def sm_iok (P : sm_P) (M : sm_M) (mid pc : Nat) (x : sm_I) : Prop :=
  (x.1 < 40 → decode (M.2.1 mid) pc = .ok (sm_dec x, x.2.1) ∧ sm_chk (P.2.1 mid).1 x = true ∧ (17 ≤ x.1 → x.1 ≤ 22 → 0 ≤ (pc : Int) + x.2.2.2.2.2)) ∧
  (x.1 = 40 → sm_mok P M x.2.2.1 ∧ Cond.methodLink (sh_R (P.2.1 mid).1) x.2.2.2.2.2.toNat (M.1 x.2.2.1) ∈ BG ∧
    (x.2.2.2.2.1 ≠ 1 → decode (M.2.1 mid) pc = .ok (.invokevirtual x.2.2.2.2.2.toNat, 3) ∧ Cond.instanceMethod (M.1 x.2.2.1) ∈ BG ∧ Cond.selects (M.1 x.2.2.1).cls (M.1 x.2.2.1) (M.1 x.2.2.1) ∈ BG ∧ (parseMethodDescriptor (M.1 x.2.2.1).desc).map (fun d => d.parameters.length + 1) = some x.2.2.2.1 ∧ (P.2.1 x.2.2.1).1 < 14) ∧
    (x.2.2.2.2.1 = 1 → decode (M.2.1 mid) pc = .ok (.invokestatic x.2.2.2.2.2.toNat, 3) ∧ Cond.static (M.1 x.2.2.1) ∈ BG ∧ (parseMethodDescriptor (M.1 x.2.2.1).desc).map (fun d => d.parameters.length) = some x.2.2.2.1)) ∧
  (x.1 = 41 → decode (M.2.1 mid) pc = .ok (.ireturn, 1) ∧ (x.2.2.2.1 = 0 → M.2.2.1 mid = some .int) ∧ (x.2.2.2.1 = 1 → M.2.2.1 mid = some .boolean)) ∧
  (x.1 = 42 → decode (M.2.1 mid) pc = .ok (.lreturn, 1) ∧ M.2.2.1 mid = some .long) ∧
  (x.1 = 43 → decode (M.2.1 mid) pc = .ok (.areturn, 1) ∧ ∃ n, M.2.2.1 mid = some (.object n)) ∧
  (x.1 = 44 → decode (M.2.1 mid) pc = .ok (.return_, 1) ∧ M.2.2.1 mid = none) ∧
  (x.1 = 45 → sm_thr P M mid pc x.2.2.1) ∧
  (x.1 = 46 → ∀ (lo : Int) (df : Nat) (ts : List Nat) (y : Int) (L : sm_L) (r : List sm_V) (S : sm_S), P.2.2.2.1 mid pc = some (lo, df, ts) → sm_loc P M mid (pc, L, .inl y :: r, S) ((if y < lo then none else ts[(y - lo).toNat]?).getD df, L, r, S)) ∧
  (x.1 = 49 → ∀ (L : sm_L) (st : List sm_V) (S S' : sm_S) (u : Option sm_V), (st.take x.2.2.2.1).length = x.2.2.2.1 → L.length = (P.2.1 mid).2 → ((st.drop x.2.2.2.1).map sm_cat).sum ≤ 8 → P.2.2.2.2 x.2.2.1 (st.take x.2.2.2.1).reverse S = some (u, S') → sm_loc P M mid (pc, L, st, S) (pc + x.2.1, L, u.toList ++ st.drop x.2.2.2.1, S'))
def sm_ok (P : sm_P) (M : sm_M) : Prop := ∀ mid pc x, P.1 mid pc = some x → sm_iok P M mid pc x
/-! handlers -/
theorem sm_fh_some {own pc ex h : Nat} {E : String} (hE : exs[ex]? = some E) : ∀ {raw hh : List (Nat × Nat × Nat × Nat)}, sm_hok own raw hh → sm_fh hh pc ex = some h →
    ∃ pre x suf, tableOf raw = pre ++ x :: suf ∧ (∀ z ∈ pre, covers z pc = false ∨ (z.catchType ≠ 0 ∧ ∃ nm, Cond.classLink (sh_R own) z.catchType nm ∈ BG ∧ nm ∈ exs ∧ E ≠ nm)) ∧ covers x pc = true ∧ x.catchType ≠ 0 ∧ Cond.classLink (sh_R own) x.catchType E ∈ BG ∧ x.handlerPc = h := by
  intro raw
  induction raw with
  | nil =>
    intro hh hok hf
    cases hh with
    | nil => cases hf
    | cons _ _ => cases hok
  | cons q raw ih =>
    intro hh hok hf
    obtain ⟨f, t, h0, ct⟩ := q
    cases hh with
    | nil => cases hok
    | cons q' hh =>
      obtain ⟨f', t', h', e'⟩ := q'
      obtain ⟨⟨rfl, rfl, rfl⟩, hct, ⟨E', hE', hlk⟩, hok⟩ := hok
      unfold sm_fh at hf
      split at hf
      · rename_i hc
        simp only [Bool.and_eq_true, decide_eq_true_eq] at hc
        obtain ⟨⟨c1, c2⟩, rfl⟩ := hc
        cases hf
        cases Option.some.inj (hE.symm.trans hE')
        exact ⟨[], ⟨f, t, h, ct⟩, tableOf raw, rfl, fun _ q => absurd q List.not_mem_nil, by simp [covers, c1, c2], hct, hlk, rfl⟩
      · rename_i hc
        obtain ⟨pre, x, suf, g1, g2, g3⟩ := ih hok hf
        refine ⟨⟨f, t, h0, ct⟩ :: pre, x, suf, by show _ :: tableOf raw = _; rw [g1]; rfl, fun z hz => ?_, g3⟩
        rcases List.mem_cons.mp hz with rfl | hz
        · by_cases hcov : covers ⟨f, t, h0, ct⟩ pc = true
          · right
            refine ⟨hct, E', hlk, List.mem_of_getElem? hE', fun hEE => hc ?_⟩
            subst hEE
            have hee : e' = ex := by
              have h1 := hE.trans hE'.symm
              have hn : exs.Nodup := by decide
              have l1 := (List.getElem?_eq_some_iff.mp hE).1
              exact ((List.getElem?_inj (i := ex) (j := e') l1 hn).mp h1).symm
            simp only [covers, Bool.and_eq_true, decide_eq_true_eq] at hcov
            simp only [Bool.and_eq_true, decide_eq_true_eq]
            exact ⟨⟨hcov.1, hcov.2⟩, hee⟩
          · left; simpa using hcov
        · exact g2 z hz
theorem sm_cov_none {own pc : Nat} : ∀ {raw hh : List (Nat × Nat × Nat × Nat)}, sm_hok own raw hh → sm_cov hh pc = false → ∀ x ∈ tableOf raw, covers x pc = false := by
  intro raw
  induction raw with
  | nil => intro hh _ _ x hx; cases hx
  | cons q raw ih =>
    intro hh hok hc x hx
    obtain ⟨f, t, h0, ct⟩ := q
    cases hh with
    | nil => cases hok
    | cons q' hh =>
      obtain ⟨f', t', h', e'⟩ := q'
      obtain ⟨⟨rfl, rfl, rfl⟩, -, -, hok⟩ := hok
      unfold sm_cov at hc
      rw [List.any_cons, Bool.or_eq_false_iff] at hc
      rcases List.mem_cons.mp hx with rfl | hx
      · simp only [covers]
        simpa using hc.1
      · exact ih hok hc.2 x hx
