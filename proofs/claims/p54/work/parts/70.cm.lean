/-! making objects: the worlds of constructors -/
abbrev cm_D : Type := (Nat × Nat) ⊕ (Nat × List (Option Nat)) ⊕ (Nat × List (Option Nat))
def cm_f (adr : Nat → Nat) (ci : Nat) (fl : List (Option Nat)) : List Value := (List.range fl.length).map fun k => match fl.getD k none with
  | some j => .ref (adr j)
  | none => defaultValue (sh_ty ci k)
def cm_e (K : Nat → ClassId) (adr : Nat → Nat) (d : cm_D) : va_E := match d with
  | .inl (ty, n) => .inl (K ty, n, if ty = 3 then .inr (.inl fun _ => 0) else .inl fun _ => 0)
  | .inr (.inl (ci, fl)) => .inr (ci, cm_f adr ci fl)
  | .inr (.inr (ty, el)) => .inl (K ty, el.length, .inr (.inr (.inr (.inr fun k => (el.getD k none).map adr))))
def cm_W (K : Nat → ClassId) (adr : Nat → Nat) (w : List cm_D) : va_W := (List.range w.length).map fun i => (adr i, cm_e K adr (w.getD i (.inl (0, 0))))
/-- the references of a cell lie below a number -/
def cm_dr (n : Nat) (d : cm_D) : Prop := match d with
  | .inl _ => True
  | .inr (.inl (_, fl)) => ∀ (k j : Nat), fl.getD k none = some j → j < n
  | .inr (.inr (_, el)) => ∀ (k j : Nat), el.getD k none = some j → j < n
def cm_wf (w : List cm_D) : Prop := ∀ d ∈ w, cm_dr w.length d
def cm_ad (adr : Nat → Nat) (n q : Nat) : Nat → Nat := fun i => if i = n then q else adr i
theorem cm_e_ext {K : Nat → ClassId} {adr adr' : Nat → Nat} {n : Nat} {d : cm_D} (h : cm_dr n d) (ha : ∀ i, i < n → adr' i = adr i) : cm_e K adr' d = cm_e K adr d := by
  rcases d with ⟨ty, n0⟩ | ⟨ci, fl⟩ | ⟨ty, el⟩
  · rfl
  · show (Sum.inr (ci, cm_f adr' ci fl) : va_E) = Sum.inr (ci, cm_f adr ci fl)
    congr 2
    unfold cm_f
    refine List.map_congr_left fun k _ => ?_
    cases hk : fl.getD k none with
    | none => rfl
    | some j =>
      show Value.ref (adr' j) = Value.ref (adr j)
      rw [ha j (h k j hk)]
  · show (Sum.inl (K ty, el.length, .inr (.inr (.inr (.inr fun k => (el.getD k none).map adr')))) : va_E) = Sum.inl (K ty, el.length, .inr (.inr (.inr (.inr fun k => (el.getD k none).map adr))))
    have e : (fun k => (el.getD k none).map adr') = (fun k => (el.getD k none).map adr) := by
      funext k
      cases hk : el.getD k none with
      | none => rfl
      | some j =>
        show some (adr' j) = some (adr j)
        rw [ha j (h k j hk)]
    rw [e]
theorem cm_gD {w : List cm_D} {i : Nat} (h : i < w.length) : w.getD i (.inl (0, 0)) ∈ w := by
  rw [List.getD_eq_getElem?_getD, List.getElem?_eq_getElem h]
  exact List.getElem_mem h
theorem cm_W_ext {K : Nat → ClassId} {adr adr' : Nat → Nat} {w : List cm_D} (h : cm_wf w) (ha : ∀ i, i < w.length → adr' i = adr i) : cm_W K adr' w = cm_W K adr w := by
  unfold cm_W
  refine List.map_congr_left fun i hi => ?_
  have hi := List.mem_range.mp hi
  rw [ha i hi, cm_e_ext (h _ (cm_gD hi)) ha]
theorem cm_W_snoc {K : Nat → ClassId} {adr : Nat → Nat} {w : List cm_D} {q : Nat} {d : cm_D} (h : cm_wf w) : cm_W K adr w ++ [(q, cm_e K (cm_ad adr w.length q) d)] = cm_W K (cm_ad adr w.length q) (w ++ [d]) := by
  have e1 : cm_W K adr w = cm_W K (cm_ad adr w.length q) w := (cm_W_ext h (fun i hi => if_neg (by omega))).symm
  rw [e1]
  unfold cm_W
  rw [List.length_append, List.length_singleton, List.range_succ, List.map_append]
  congr 1
  · refine List.map_congr_left fun i hi => ?_
    have hi := List.mem_range.mp hi
    rw [List.getD_eq_getElem?_getD, List.getD_eq_getElem?_getD, List.getElem?_append_left hi]
  · show [_] = [_]
    have e2 : (w ++ [d]).getD w.length (.inl (0, 0)) = d := by
      rw [List.getD_eq_getElem?_getD, List.getElem?_append_right (Nat.le_refl _), Nat.sub_self]
      rfl
    have e3 : cm_ad adr w.length q w.length = q := if_pos rfl
    show [(q, cm_e K (cm_ad adr w.length q) d)] = [(cm_ad adr w.length q w.length, cm_e K (cm_ad adr w.length q) ((w ++ [d]).getD w.length (.inl (0, 0))))]
    rw [e2, e3]
theorem cm_W_at {K : Nat → ClassId} {adr : Nat → Nat} {w : List cm_D} {i : Nat} {d : cm_D} (h : w[i]? = some d) : (cm_W K adr w)[i]? = some (adr i, cm_e K adr d) := by
  have hi : i < w.length := (List.getElem?_eq_some_iff.mp h).1
  unfold cm_W
  rw [List.getElem?_map, List.getElem?_range hi]
  show some (adr i, cm_e K adr (w.getD i (.inl (0, 0)))) = _
  rw [List.getD_eq_getElem?_getD, h]
  rfl
theorem cm_W_set {K : Nat → ClassId} {adr : Nat → Nat} {w : List cm_D} {i : Nat} {d : cm_D} (hi : i < w.length) : (cm_W K adr w).set i (adr i, cm_e K adr d) = cm_W K adr (w.set i d) := by
  refine List.ext_getElem? fun j => ?_
  have hl : (cm_W K adr w).length = w.length := by unfold cm_W; rw [List.length_map, List.length_range]
  have hl2 : (cm_W K adr (w.set i d)).length = w.length := by unfold cm_W; rw [List.length_map, List.length_range, List.length_set]
  by_cases hij : i = j
  · subst hij
    rw [List.getElem?_set_self (by rw [hl]; exact hi), cm_W_at (d := d) (List.getElem?_set_self hi)]
  · rw [List.getElem?_set_ne hij]
    by_cases hj : j < w.length
    · rw [cm_W_at (List.getElem?_eq_getElem hj), cm_W_at (d := w[j]) (by rw [List.getElem?_set_ne hij]; exact List.getElem?_eq_getElem hj)]
    · rw [List.getElem?_eq_none (by rw [hl]; omega), List.getElem?_eq_none (by rw [hl2]; omega)]
theorem cm_f_set {adr : Nat → Nat} {ci k j : Nat} {fl : List (Option Nat)} (hk : k < fl.length) : (cm_f adr ci fl).set k (.ref (adr j)) = cm_f adr ci (fl.set k (some j)) := by
  refine List.ext_getElem? fun i => ?_
  have hl : (cm_f adr ci fl).length = fl.length := by unfold cm_f; rw [List.length_map, List.length_range]
  have at_ : ∀ (g : List (Option Nat)) (i : Nat), i < g.length → (cm_f adr ci g)[i]? = some (match g.getD i none with | some j => .ref (adr j) | none => defaultValue (sh_ty ci i)) := by
    intro g i hi
    unfold cm_f
    rw [List.getElem?_map, List.getElem?_range hi]
    rfl
  by_cases hik : k = i
  · subst hik
    rw [List.getElem?_set_self (by rw [hl]; exact hk), at_ _ _ (by rw [List.length_set]; exact hk)]
    rw [List.getD_eq_getElem?_getD, List.getElem?_set_self hk]
    rfl
  · rw [List.getElem?_set_ne hik]
    by_cases hi : i < fl.length
    · rw [at_ _ _ hi, at_ _ _ (by rw [List.length_set]; exact hi), List.getD_eq_getElem?_getD, List.getD_eq_getElem?_getD, List.getElem?_set_ne hik]
    · rw [List.getElem?_eq_none (by rw [hl]; omega), List.getElem?_eq_none (by unfold cm_f; rw [List.length_map, List.length_range, List.length_set]; omega)]
theorem cm_getD_set {fl : List (Option Nat)} {k i j : Nat} {v : Nat} (h : (fl.set k (some v)).getD i none = some j) : j = v ∨ fl.getD i none = some j := by
  rw [List.getD_eq_getElem?_getD] at h
  by_cases hik : k = i
  · subst hik
    by_cases hk : k < fl.length
    · rw [List.getElem?_set_self hk] at h
      exact Or.inl (Option.some.inj h).symm
    · rw [List.getElem?_eq_none (by rw [List.length_set]; omega)] at h
      cases h
  · rw [List.getElem?_set_ne hik, ← List.getD_eq_getElem?_getD] at h
    exact Or.inr h
theorem cm_dr_mono {n n' : Nat} (h : n ≤ n') {d : cm_D} (hd : cm_dr n d) : cm_dr n' d := by
  rcases d with ⟨ty, n0⟩ | ⟨ci, fl⟩ | ⟨ty, el⟩
  · trivial
  · exact fun k j hj => Nat.lt_of_lt_of_le (hd k j hj) h
  · exact fun k j hj => Nat.lt_of_lt_of_le (hd k j hj) h
theorem cm_wf_snoc {w : List cm_D} {d : cm_D} (h : cm_wf w) (hd : cm_dr 0 d) : cm_wf (w ++ [d]) := by
  intro x hx
  rw [List.length_append, List.length_singleton]
  rcases List.mem_append.mp hx with hx | hx
  · exact cm_dr_mono (by omega) (h x hx)
  · rw [List.mem_singleton.mp hx]
    exact cm_dr_mono (by omega) hd
theorem cm_wf_set {w : List cm_D} {i : Nat} {d : cm_D} (h : cm_wf w) (hd : cm_dr w.length d) : cm_wf (w.set i d) := by
  intro x hx
  rw [List.length_set]
  rcases List.mem_or_eq_of_mem_set hx with hx | hx
  · exact h x hx
  · rw [hx]
    exact hd
theorem cm_rep {n k : Nat} : (List.replicate n (none : Option Nat)).getD k none = none := by
  rw [List.getD_eq_getElem?_getD]
  cases h : (List.replicate n (none : Option Nat))[k]? with
  | none => rfl
  | some x =>
    have := List.mem_of_getElem? h
    rw [(List.mem_replicate.mp this).2]
    rfl
/-- a new object -/
def cm_o (ci : Nat) : cm_D := .inr (.inl (ci, List.replicate (sh_kd ci).2.2 none))
theorem cm_o_dr (ci : Nat) : cm_dr 0 (cm_o ci) := fun k j h => by rw [cm_rep] at h; cases h
def cm_wd (D : va_G) (K : Nat → ClassId) (adr : Nat → Nat) (w : List cm_D) (A : Nat → Prop) (H0 H : Heap) (locs : List Loc) : Prop := va_P D CL (cm_W K adr w) H ∧ va_D A (cm_W K adr w) ∧ va_S A H0 H locs ∧ cm_wf w
/-- what the tables say beside the good words: links among nest mates, classes of rows of objects -/
def ne (U : State) : Prop := (∀ q ∈ cm_nl, va_Nw (.methodLinkNest (sh_R q.1) q.2.1 (cm_y q.2.2) "ChipFlow") U) ∧ va_AO "ChipFlow$Design" U ∧ va_AO "ChipFlow$Library" U ∧ va_AO "ChipFlow$Chip" U
theorem ne.same {u U : State} (h : u.vm = U.vm) (q : ne u) : ne U := ⟨fun x hx => va_Nw.same rfl h (q.1 x hx), va_AO.moved (by rw [h]; exact Vm.Alike.refl _) q.2.1, va_AO.moved (by rw [h]; exact Vm.Alike.refl _) q.2.2.1, va_AO.moved (by rw [h]; exact Vm.Alike.refl _) q.2.2.2⟩
theorem ne.warm {s U : State} (hW : s.WarmedH U.vm) (q : ne s) : ne U := ⟨fun x hx => va_Nw.warmM hW (q.1 x hx), va_AO.moved hW.alike q.2.1, va_AO.moved hW.alike q.2.2.1, va_AO.moved hW.alike q.2.2.2⟩
/-- the constructor's surroundings -/
def cm_cx (own : Nat) (cc : ByteArray) (p : Program) (s : State) (m : MethodId) (args : Array Value) (meth : Method) (c : Code) (D : va_G) (K : Nat → ClassId) : Prop := p.tables.exec = Jvm.exec ∧ c.code = cc ∧ (∀ w ∈ BG, w.before args s = true) ∧ s.vm.findClass (sh_R own) = some m.cls ∧ va_K D CL (sm_tys K) s ∧ ne s
