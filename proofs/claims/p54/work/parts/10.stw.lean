/-! a step of the small machine is a step of the machine -/
section STW
variable {p : Program} {l : Launch} {e : Env} {R : Room} {s : State} {m : MethodId} {args : Array Value} {below : List Frame} {meth : Method} {c : Code} {cells slots : Nat} {Q : State → Prop}
variable {cc : ByteArray} {ad : Nat → Nat → Nat} {D : va_G} {K : Nat → ClassId} {A : Nat → Prop} {H0 : Heap}
/-- from these places of the small machine on the machine comes to Q -/
def sm_G (p : Program) (l : Launch) (e : Env) (R : Room) (s : State) (m : MethodId) (args : Array Value) (below : List Frame) (meth : Method) (c : Code) (cells slots : Nat) (Q : State → Prop) (ad : Nat → Nat → Nat) (D : va_G) (K : Nat → ClassId) (A : Nat → Prop) (H0 : Heap) (r : sm_C) : Prop :=
  ∀ (ls : Array Slot) (H : Heap) (locs : List Loc), sm_hl ad r.2.1 ls → sm_wd D K ad A H0 H locs r.2.2.2 → sm_nst r.2.2.1 → sm_nL r.2.1 → sm_nS r.2.2.2 → W p l e R s m args below meth c H locs cells slots Q (F0 m r.1 ls (r.2.2.1.map (sm_tr ad)))
theorem sm_nst_cons {v : sm_V} {st : List sm_V} (h : sm_nz sh_cz v) (h2 : sm_nst st) : sm_nst (v :: st) := fun u hu => by
  rcases List.mem_cons.mp hu with rfl | q
  · exact h
  · exact h2 u q
theorem sm_nst_tl {v : sm_V} {st : List sm_V} (h : sm_nst (v :: st)) : sm_nst st := fun u hu => h u (List.mem_cons_of_mem _ hu)
theorem sm_nst_hd {v : sm_V} {st : List sm_V} (h : sm_nst (v :: st)) : sm_nz sh_cz v := h v List.mem_cons_self
theorem sm_nL_s1 {L : sm_L} {a : Nat} {v : sm_V} (h : sm_nL L) (hv : sm_nz sh_cz v) : sm_nL (sm_s1 L a v) := by
  intro j u hu
  by_cases hj : j < L.length
  · unfold sm_s1 at hu
    rw [sm_map_getD hj] at hu
    split at hu
    · cases hu; exact hv
    · split at hu
      · cases hu
      · exact h j u hu
  · rw [List.getD_eq_getElem?_getD, List.getElem?_eq_none (by unfold sm_s1; simp; omega)] at hu
    cases hu
theorem sm_nL_s2 {L : sm_L} {a : Nat} {v : sm_V} (h : sm_nL L) (hv : sm_nz sh_cz v) : sm_nL (sm_s2 L a v) := by
  intro j u hu
  by_cases hj : j < L.length
  · unfold sm_s2 at hu
    rw [sm_map_getD hj] at hu
    split at hu
    · cases hu; exact hv
    · split at hu
      · cases hu
      · split at hu
        · cases hu
        · exact h j u hu
  · rw [List.getD_eq_getElem?_getD, List.getElem?_eq_none (by unfold sm_s2; simp; omega)] at hu
    cases hu
theorem sm_len {L : sm_L} {j : Nat} {v : sm_V} (hj : L.getD j none = some v) : j < L.length := by
  by_cases q : j < L.length
  · exact q
  · rw [List.getD_eq_getElem?_getD, List.getElem?_eq_none (by omega)] at hj
    cases hj
theorem sm_f4v {a : Nat} (h : a < 4) : ((sm_f4 a : Fin 4) : Nat) = a := Nat.mod_eq_of_lt h
variable {own : Nat}
variable {pc : Nat} {L : sm_L} {st : List sm_V} {S : sm_S} {n a b d : Nat} {z : Int} {r : sm_C}
theorem sm_q0 (hx : p.tables.exec = Jvm.exec) (hb : c.code = cc) (hst : sm_stp (0, n, a, b, d, z) pc L st S = some r) (hck : sm_chk own (0, n, a, b, d, z) = true) (hdg : decode cc pc = .ok (sm_dec (0, n, a, b, d, z), n)) (G : sm_G p l e R s m args below meth c cells slots Q ad D K A H0 r) : sm_G p l e R s m args below meth c cells slots Q ad D K A H0 (pc, L, st, S) := by
  intro ls H locs hl hw h1 h2 h3
  simp only [sm_stp, Option.some.injEq] at hst
  subst hst
  simp only [sm_chk, Bool.and_eq_true, decide_eq_true_eq] at hck
  obtain ⟨⟨z1, z2⟩, hck⟩ := hck
  have nz : sm_nz sh_cz (.inl z) := ⟨z1, z2⟩
  have k := G ls H locs hl hw (sm_nst_cons nz h1) h2 h3
  rcases b with _ | _ | _ | b
  · simp only [decide_eq_true_eq] at hck
    subst hck
    exact lv_iconst hx hb hdg rfl k
  · simp only [Bool.and_eq_true, decide_eq_true_eq] at hck
    obtain ⟨rfl, q⟩ := hck
    exact lv_bipush hx hb hdg q k
  · simp only [Bool.and_eq_true, decide_eq_true_eq] at hck
    obtain ⟨rfl, q⟩ := hck
    exact lv_sipush hx hb hdg q k
  · cases hck
theorem sm_q1 (hx : p.tables.exec = Jvm.exec) (hb : c.code = cc) (hst : sm_stp (1, n, a, b, d, z) pc L st S = some r) (hck : sm_chk own (1, n, a, b, d, z) = true) (hdg : decode cc pc = .ok (sm_dec (1, n, a, b, d, z), n)) (G : sm_G p l e R s m args below meth c cells slots Q ad D K A H0 r) : sm_G p l e R s m args below meth c cells slots Q ad D K A H0 (pc, L, st, S) := by
  intro ls H locs hl hw h1 h2 h3
  simp only [sm_stp, Option.some.injEq] at hst
  subst hst
  simp only [sm_chk, Bool.and_eq_true, decide_eq_true_eq] at hck
  obtain ⟨⟨z1, z2⟩, hck⟩ := hck
  have nz : sm_nz sh_cz (.inr (.inl z)) := ⟨z1, z2⟩
  have k := G ls H locs hl hw (sm_nst_cons nz h1) h2 h3
  rcases b with _ | b
  · simp only [Bool.and_eq_true, decide_eq_true_eq] at hck
    obtain ⟨rfl, q⟩ := hck
    exact lv_lconst hx hb hdg q k
  · cases hck
theorem sm_q2 (hx : p.tables.exec = Jvm.exec) (hb : c.code = cc) (hst : sm_stp (2, n, a, b, d, z) pc L st S = some r) (hck : sm_chk own (2, n, a, b, d, z) = true) (hdg : decode cc pc = .ok (sm_dec (2, n, a, b, d, z), n)) (G : sm_G p l e R s m args below meth c cells slots Q ad D K A H0 r) : sm_G p l e R s m args below meth c cells slots Q ad D K A H0 (pc, L, st, S) := by
  intro ls H locs hl hw h1 h2 h3
  simp only [sm_stp] at hst
  split at hst
  · rename_i v hv
    cases hst
    have k := G ls H locs hl hw (sm_nst_cons (h2 a _ hv) h1) h2 h3
    rcases b with _ | b
    · simp only [sm_chk, Bool.and_eq_true, decide_eq_true_eq] at hck
      obtain ⟨rfl, q⟩ := hck
      exact lv_iload_n hx hb hdg (sm_f4v q) (sm_hl_at hl hv) k
    · simp only [sm_chk, decide_eq_true_eq] at hck
      subst hck
      exact lv_iload hx hb hdg (sm_hl_at hl hv) k
  · cases hst
theorem sm_q3 (hx : p.tables.exec = Jvm.exec) (hb : c.code = cc) (hst : sm_stp (3, n, a, b, d, z) pc L st S = some r) (hck : sm_chk own (3, n, a, b, d, z) = true) (hdg : decode cc pc = .ok (sm_dec (3, n, a, b, d, z), n)) (G : sm_G p l e R s m args below meth c cells slots Q ad D K A H0 r) : sm_G p l e R s m args below meth c cells slots Q ad D K A H0 (pc, L, st, S) := by
  intro ls H locs hl hw h1 h2 h3
  simp only [sm_stp] at hst
  split at hst
  · rename_i v hv
    cases hst
    have k := G ls H locs hl hw (sm_nst_cons (h2 a _ hv) h1) h2 h3
    rcases b with _ | b
    · simp only [sm_chk, Bool.and_eq_true, decide_eq_true_eq] at hck
      obtain ⟨rfl, q⟩ := hck
      exact lv_lload_n hx hb hdg (sm_f4v q) (sm_hl_at hl hv) k
    · simp only [sm_chk, decide_eq_true_eq] at hck
      subst hck
      exact lv_lload hx hb hdg (sm_hl_at hl hv) k
  · cases hst
theorem sm_q4 (hx : p.tables.exec = Jvm.exec) (hb : c.code = cc) (hst : sm_stp (4, n, a, b, d, z) pc L st S = some r) (hck : sm_chk own (4, n, a, b, d, z) = true) (hdg : decode cc pc = .ok (sm_dec (4, n, a, b, d, z), n)) (G : sm_G p l e R s m args below meth c cells slots Q ad D K A H0 r) : sm_G p l e R s m args below meth c cells slots Q ad D K A H0 (pc, L, st, S) := by
  intro ls H locs hl hw h1 h2 h3
  simp only [sm_stp] at hst
  split at hst
  · rename_i v hv
    cases hst
    have k := G ls H locs hl hw (sm_nst_cons (h2 a _ hv) h1) h2 h3
    rcases b with _ | b
    · simp only [sm_chk, Bool.and_eq_true, decide_eq_true_eq] at hck
      obtain ⟨rfl, q⟩ := hck
      rcases v with _ | v
      · exact lv_aload_nN hx hb hdg (sm_f4v q) (sm_hl_at hl hv) k
      · exact lv_aload_n hx hb hdg (sm_f4v q) (sm_hl_at hl hv) k
    · simp only [sm_chk, decide_eq_true_eq] at hck
      subst hck
      rcases v with _ | v
      · exact lv_aloadN hx hb hdg (sm_hl_at hl hv) k
      · exact lv_aload hx hb hdg (sm_hl_at hl hv) k
  · cases hst
theorem sm_q5 (hx : p.tables.exec = Jvm.exec) (hb : c.code = cc) (hst : sm_stp (5, n, a, b, d, z) pc L st S = some r) (hck : sm_chk own (5, n, a, b, d, z) = true) (hdg : decode cc pc = .ok (sm_dec (5, n, a, b, d, z), n)) (G : sm_G p l e R s m args below meth c cells slots Q ad D K A H0 r) : sm_G p l e R s m args below meth c cells slots Q ad D K A H0 (pc, L, st, S) := by
  intro ls H locs hl hw h1 h2 h3
  simp only [sm_stp] at hst
  split at hst
  · rename_i v r0
    split at hst
    · rename_i ha
      cases hst
      have k := fun ls' (h : lv_has ls' L.length ((a, sm_tr ad (.inl v)) :: (sm_lv ad L).filter (fun q => !(q.1 == a) && !(q.1 + 1 == a && q.2.category == 2)))) => G ls' H locs (sm_hl_s1 h) hw (sm_nst_tl h1) (sm_nL_s1 h2 (sm_nst_hd h1)) h3
      rcases b with _ | b
      · simp only [sm_chk, Bool.and_eq_true, decide_eq_true_eq] at hck
        obtain ⟨rfl, q⟩ := hck
        exact lv_istore_n hx hb hdg (sm_f4v q) hl ha rfl k
      · simp only [sm_chk, decide_eq_true_eq] at hck
        subst hck
        exact lv_istore hx hb hdg hl ha rfl k
    · cases hst
  · cases hst
theorem sm_q6 (hx : p.tables.exec = Jvm.exec) (hb : c.code = cc) (hst : sm_stp (6, n, a, b, d, z) pc L st S = some r) (hck : sm_chk own (6, n, a, b, d, z) = true) (hdg : decode cc pc = .ok (sm_dec (6, n, a, b, d, z), n)) (G : sm_G p l e R s m args below meth c cells slots Q ad D K A H0 r) : sm_G p l e R s m args below meth c cells slots Q ad D K A H0 (pc, L, st, S) := by
  intro ls H locs hl hw h1 h2 h3
  simp only [sm_stp] at hst
  split at hst
  · rename_i v r0
    split at hst
    · rename_i ha
      cases hst
      have k := fun ls' (h : lv_has ls' L.length ((a, sm_tr ad (.inr (.inl v))) :: (sm_lv ad L).filter (fun q => !(q.1 == a) && (!(q.1 == a + 1) && !(q.1 + 1 == a && q.2.category == 2))))) => G ls' H locs (sm_hl_s2 h) hw (sm_nst_tl h1) (sm_nL_s2 h2 (sm_nst_hd h1)) h3
      rcases b with _ | b
      · simp only [sm_chk, Bool.and_eq_true, decide_eq_true_eq] at hck
        obtain ⟨rfl, q⟩ := hck
        exact lv_lstore_n hx hb hdg (sm_f4v q) hl ha rfl k
      · simp only [sm_chk, decide_eq_true_eq] at hck
        subst hck
        exact lv_lstore hx hb hdg hl ha rfl k
    · cases hst
  · cases hst
theorem sm_q7 (hx : p.tables.exec = Jvm.exec) (hb : c.code = cc) (hst : sm_stp (7, n, a, b, d, z) pc L st S = some r) (hck : sm_chk own (7, n, a, b, d, z) = true) (hdg : decode cc pc = .ok (sm_dec (7, n, a, b, d, z), n)) (G : sm_G p l e R s m args below meth c cells slots Q ad D K A H0 r) : sm_G p l e R s m args below meth c cells slots Q ad D K A H0 (pc, L, st, S) := by
  intro ls H locs hl hw h1 h2 h3
  simp only [sm_stp] at hst
  split at hst
  · rename_i v r0
    split at hst
    · rename_i ha
      cases hst
      have k := fun ls' (h : lv_has ls' L.length ((a, sm_tr ad (.inr (.inr v))) :: (sm_lv ad L).filter (fun q => !(q.1 == a) && !(q.1 + 1 == a && q.2.category == 2)))) => G ls' H locs (sm_hl_s1 h) hw (sm_nst_tl h1) (sm_nL_s1 h2 (sm_nst_hd h1)) h3
      rcases b with _ | b
      · simp only [sm_chk, Bool.and_eq_true, decide_eq_true_eq] at hck
        obtain ⟨rfl, q⟩ := hck
        rcases v with _ | v
        · exact lv_astore_nN hx hb hdg (sm_f4v q) hl ha rfl k
        · exact lv_astore_n hx hb hdg (sm_f4v q) hl ha rfl k
      · simp only [sm_chk, decide_eq_true_eq] at hck
        subst hck
        rcases v with _ | v
        · exact lv_astoreN hx hb hdg hl ha rfl k
        · exact lv_astore hx hb hdg hl ha rfl k
    · cases hst
  · cases hst
theorem sm_q8 (hx : p.tables.exec = Jvm.exec) (hb : c.code = cc) (hst : sm_stp (8, n, a, b, d, z) pc L st S = some r) (hck : sm_chk own (8, n, a, b, d, z) = true) (hdg : decode cc pc = .ok (sm_dec (8, n, a, b, d, z), n)) (G : sm_G p l e R s m args below meth c cells slots Q ad D K A H0 r) : sm_G p l e R s m args below meth c cells slots Q ad D K A H0 (pc, L, st, S) := by
  intro ls H locs hl hw h1 h2 h3
  simp only [sm_stp] at hst
  split at hst
  · rename_i v hv
    cases hst
    simp only [sm_chk, decide_eq_true_eq] at hck
    subst hck
    have ha := sm_len hv
    obtain ⟨k0, hk0⟩ := List.getElem?_of_mem (sm_lv_mem.mpr ⟨ha, _, hv, rfl⟩ : (a, sm_tr ad (.inl v)) ∈ sm_lv ad L)
    refine lv_iinc hx hb hdg hl hk0 rfl ha rfl (fun ls' h => ?_)
    refine G ls' H locs (sm_hl_s1 ?_) hw h1 (sm_nL_s1 h2 (sm_ni_toInt _)) h3
    simp only [sm_tr, Int32.ofInt_toInt]
    exact h
  · cases hst
theorem sm_q9 (hx : p.tables.exec = Jvm.exec) (hb : c.code = cc) (hst : sm_stp (9, n, a, b, d, z) pc L st S = some r) (hck : sm_chk own (9, n, a, b, d, z) = true) (hdg : decode cc pc = .ok (sm_dec (9, n, a, b, d, z), n)) (G : sm_G p l e R s m args below meth c cells slots Q ad D K A H0 r) : sm_G p l e R s m args below meth c cells slots Q ad D K A H0 (pc, L, st, S) := by
  intro ls H locs hl hw h1 h2 h3
  simp only [sm_stp] at hst
  split at hst
  · rename_i y x r0
    rw [Option.map_eq_some_iff] at hst
    obtain ⟨v, hv, rfl⟩ := hst
    simp only [sm_chk, decide_eq_true_eq] at hck
    subst hck
    exact sm_w_bin hx hb hv hdg (G ls H locs hl hw (sm_nst_cons (sm_bin_nz hv) (sm_nst_tl (sm_nst_tl h1))) h2 h3)
  · cases hst
theorem sm_q10 (hx : p.tables.exec = Jvm.exec) (hb : c.code = cc) (hst : sm_stp (10, n, a, b, d, z) pc L st S = some r) (hck : sm_chk own (10, n, a, b, d, z) = true) (hdg : decode cc pc = .ok (sm_dec (10, n, a, b, d, z), n)) (G : sm_G p l e R s m args below meth c cells slots Q ad D K A H0 r) : sm_G p l e R s m args below meth c cells slots Q ad D K A H0 (pc, L, st, S) := by
  intro ls H locs hl hw h1 h2 h3
  simp only [sm_stp] at hst
  split at hst
  · rename_i y x r0
    rw [Option.map_eq_some_iff] at hst
    obtain ⟨v, hv, rfl⟩ := hst
    simp only [sm_chk, decide_eq_true_eq] at hck
    subst hck
    exact sm_w_lbin hx hb hv hdg (G ls H locs hl hw (sm_nst_cons (sm_lbin_nz hv) (sm_nst_tl (sm_nst_tl h1))) h2 h3)
  · cases hst
theorem sm_q11 (hx : p.tables.exec = Jvm.exec) (hb : c.code = cc) (hst : sm_stp (11, n, a, b, d, z) pc L st S = some r) (hck : sm_chk own (11, n, a, b, d, z) = true) (hdg : decode cc pc = .ok (sm_dec (11, n, a, b, d, z), n)) (G : sm_G p l e R s m args below meth c cells slots Q ad D K A H0 r) : sm_G p l e R s m args below meth c cells slots Q ad D K A H0 (pc, L, st, S) := by
  intro ls H locs hl hw h1 h2 h3
  simp only [sm_stp] at hst
  split at hst
  · rename_i y x r0
    rw [Option.map_eq_some_iff] at hst
    obtain ⟨v, hv, rfl⟩ := hst
    simp only [sm_chk, decide_eq_true_eq] at hck
    subst hck
    exact sm_w_lsh hx hb hv hdg (G ls H locs hl hw (sm_nst_cons (sm_lsh_nz hv) (sm_nst_tl (sm_nst_tl h1))) h2 h3)
  · cases hst
theorem sm_q13 (hx : p.tables.exec = Jvm.exec) (hb : c.code = cc) (hst : sm_stp (13, n, a, b, d, z) pc L st S = some r) (hck : sm_chk own (13, n, a, b, d, z) = true) (hdg : decode cc pc = .ok (sm_dec (13, n, a, b, d, z), n)) (G : sm_G p l e R s m args below meth c cells slots Q ad D K A H0 r) : sm_G p l e R s m args below meth c cells slots Q ad D K A H0 (pc, L, st, S) := by
  intro ls H locs hl hw h1 h2 h3
  simp only [sm_stp] at hst
  split at hst
  · rename_i x r0
    rw [Option.map_eq_some_iff] at hst
    obtain ⟨v, hv, rfl⟩ := hst
    simp only [sm_chk, decide_eq_true_eq] at hck
    subst hck
    exact sm_w_cnv hx hb hv hdg (G ls H locs hl hw (sm_nst_cons (sm_cnv_nz hv) (sm_nst_tl h1)) h2 h3)
  · cases hst
end STW
