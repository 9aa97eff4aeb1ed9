/-! objects of many fields, of which some are known -/
def fx (fs : List Value) (N : Nat) (F : List (Nat × Value)) : Prop := fs.length = N ∧ ∀ z ∈ F, fs[z.1]? = some z.2
theorem fx.get {fs : List Value} {N : Nat} {F : List (Nat × Value)} (h : fx fs N F) (i : Nat) {k : Nat} {v : Value} (hi : F[i]? = some (k, v)) : fs[k]? = some v := h.2 _ (List.mem_of_getElem? hi)
theorem fx.put {fs : List Value} {N : Nat} {F : List (Nat × Value)} (h : fx fs N F) {k : Nat} (hk : k < N) (v : Value) {F' : List (Nat × Value)} (hF : F' = (k, v) :: F.filter (fun z => z.1 != k)) : fx (fs.set k v) N F' := by
  subst hF
  refine ⟨by rw [List.length_set]; exact h.1, fun z hz => ?_⟩
  rcases List.mem_cons.mp hz with rfl | hz
  · show (fs.set k v)[k]? = some v
    rw [List.getElem?_set_self (by rw [h.1]; exact hk)]
  · obtain ⟨h1, h2⟩ := List.mem_filter.mp hz
    have h3 : z.1 ≠ k := by simpa using h2
    rw [List.getElem?_set_ne (fun e => h3 e.symm)]
    exact h.2 z h1
theorem fx.sub {fs : List Value} {N : Nat} {F F' : List (Nat × Value)} (h : fx fs N F) (is : List Nat) (hs : is.map (fun i => F[i]?) = F'.map some) : fx fs N F' := by
  refine ⟨h.1, fun z hz => ?_⟩
  obtain ⟨j, hj⟩ := List.getElem?_of_mem hz
  have h1 : (is.map (fun i => F[i]?))[j]? = some (some z) := by rw [hs, List.getElem?_map, hj]; rfl
  rw [List.getElem?_map] at h1
  cases hi : is[j]? with
  | none => rw [hi] at h1; cases h1
  | some i =>
    rw [hi] at h1
    exact h.2 z (List.mem_of_getElem? (Option.some.inj h1))
theorem fx.of {f : Nat → Value} {N : Nat} {F : List (Nat × Value)} (h : ∀ z ∈ F, z.1 < N ∧ f z.1 = z.2) : fx ((List.range N).map f) N F := by
  refine ⟨by simp, fun z hz => ?_⟩
  obtain ⟨h1, h2⟩ := h z hz
  rw [List.getElem?_map, List.getElem?_range h1, ← h2]
  rfl
theorem fx.dflt (N : Nat) (ty : Nat → FieldType) : ∀ j, j < N → defaultValue (ty j) = vp_V ((List.range N).map fun j => defaultValue (ty j)) j := by
  intro j hj
  have h : ((List.range N).map fun j => defaultValue (ty j))[j]? = some (defaultValue (ty j)) := by rw [List.getElem?_map, List.getElem?_range hj]; rfl
  show _ = List.getD _ j Value.null
  rw [List.getD_eq_getElem?_getD, h]
  rfl
/-- the words: those of the tables that hold at every later time -/
def BG : List Cond := lw_tbl.filter goodWord
theorem bg_good : ∀ w ∈ BG, (w.onTables && w.keeps) = true ∨ ∃ ty, w = .arrayClass ty := fun _ h => good_of_word (List.mem_filter.mp h).2
theorem bg_cons {w : Cond} (h : w ∈ BG) : ∀ v ∈ w :: BG, v ∈ BG := fun v hv => (List.mem_cons.mp hv).elim (fun e => e ▸ h) id
theorem bg_tb {t : List Cond} (ht : ∀ w ∈ t, w ∈ lw_tbl) {w : Cond} (i : Nat) (h : t[i]? = some w) (g : goodWord w = true) : w ∈ BG := List.mem_filter.mpr ⟨ht w (List.mem_of_getElem? h), g⟩
/-- one list's words among another's, in their order -/
def sb_l : List Cond → List Cond → Bool
  | [], _ => true
  | _ :: _, [] => false
  | a :: as, b :: bs => if a = b then sb_l as bs else sb_l (a :: as) bs
theorem sb_l_in : ∀ (bs as : List Cond), sb_l as bs = true → ∀ w ∈ as, w ∈ bs
  | [], [], _, _, hw => hw
  | [], _ :: _, h, _, _ => by simp [sb_l] at h
  | b :: bs, [], _, _, hw => by cases hw
  | b :: bs, a :: as, h, w, hw => by
    rw [sb_l] at h
    split at h
    · rename_i e
      rcases List.mem_cons.mp hw with r | r
      · rw [r, e]; exact List.mem_cons_self
      · exact List.mem_cons_of_mem _ (sb_l_in bs as h w r)
    · exact List.mem_cons_of_mem _ (sb_l_in bs (a :: as) h w hw)
theorem bg_sb {t ws : List Cond} (ht : ∀ w ∈ t, w ∈ lw_tbl) (h : sb_l ws t = true) (g : ws.all goodWord = true) : ∀ w ∈ ws, w ∈ BG := fun w hw => List.mem_filter.mpr ⟨ht w (sb_l_in t ws h w hw), List.all_eq_true.mp g w hw⟩
theorem tb_app {t1 t2 : List Cond} (h1 : ∀ w ∈ t1, w ∈ lw_tbl) (h2 : ∀ w ∈ t2, w ∈ lw_tbl) : ∀ w ∈ t1 ++ t2, w ∈ lw_tbl := fun w h => (List.mem_append.mp h).elim (h1 w) (h2 w)
theorem po_ai (n : Nat) (ty : FieldType) (h : defaultValue ty = .int 0) : ∀ cA : ClassId, vp_cell cA (n, .inl (fun _ => 0)) = arrV cA n (fun _ => defaultValue ty) := fun cA => by rw [vp_cell_i, h]
theorem po_al (n : Nat) (ty : FieldType) (h : defaultValue ty = .long 0) : ∀ cA : ClassId, vp_cell cA (n, .inr (.inl (fun _ => 0))) = arrV cA n (fun _ => defaultValue ty) := fun cA => by rw [vp_cell_l, h]
section PO
variable {p : Program} {l : Launch} {e : Env} {R : Room} {s : State} {m : MethodId} {args : Array Value} {below : List Frame} {meth : Method} {c : Code} {H : Heap} {locs : List Loc} {cells slots : Nat} {Q : State → Prop}
variable {cc : ByteArray} {pc : Nat} {ls : Array Slot} {rest : List Value} {D : va_G} {cl : List vw_C} {A : Nat → Prop} {a : Nat} {tys : List (ClassId × FieldType)} {wr : va_W} {H0 : Heap} {fs : List Value} {F : List (Nat × Value)}
end PO
