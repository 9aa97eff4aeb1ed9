/-! objects of many fields, of which some are known -/
def fx (fs : List Value) (N : Nat) (F : List (Nat × Value)) : Prop := fs.length = N ∧ ∀ z ∈ F, fs[z.1]? = some z.2
theorem fx.get {fs : List Value} {N : Nat} {F : List (Nat × Value)} (h : fx fs N F) (i : Nat) {k : Nat} {v : Value} (hi : F[i]? = some (k, v)) : fs[k]? = some v := h.2 _ (List.mem_of_getElem? hi)
theorem fx.put {fs : List Value} {N : Nat} {F : List (Nat × Value)} (h : fx fs N F) {k : Nat} (hk : k < N) (v : Value) {F' : List (Nat × Value)} (hF : F' = (k, v) :: F.filter (fun z => z.1 != k)) : fx (fs.set k v) N F' := by
  subst hF
  refine ⟨by rw [List.length_set]; exact h.1, fun z hz => ?_⟩
  rcases List.mem_cons.mp hz with rfl | hz
  · show (fs.set k v)[k]? = some v
    rw [List.getElem?_set_self (by rw [h.1]; exact hk)]
  · obtain ⟨h1, h2⟩ := List.mem_filter.mp hz
    have h3 : z.1 ≠ k := by simpa using h2
    rw [List.getElem?_set_ne (fun e => h3 e.symm)]
    exact h.2 z h1
theorem fx.sub {fs : List Value} {N : Nat} {F F' : List (Nat × Value)} (h : fx fs N F) (is : List Nat) (hs : is.map (fun i => F[i]?) = F'.map some) : fx fs N F' := by
  refine ⟨h.1, fun z hz => ?_⟩
  obtain ⟨j, hj⟩ := List.getElem?_of_mem hz
  have h1 : (is.map (fun i => F[i]?))[j]? = some (some z) := by rw [hs, List.getElem?_map, hj]; rfl
  rw [List.getElem?_map] at h1
  cases hi : is[j]? with
  | none => rw [hi] at h1; cases h1
  | some i =>
    rw [hi] at h1
    exact h.2 z (List.mem_of_getElem? (Option.some.inj h1))
theorem fx.of {f : Nat → Value} {N : Nat} {F : List (Nat × Value)} (h : ∀ z ∈ F, z.1 < N ∧ f z.1 = z.2) : fx ((List.range N).map f) N F := by
  refine ⟨by simp, fun z hz => ?_⟩
  obtain ⟨h1, h2⟩ := h z hz
  rw [List.getElem?_map, List.getElem?_range h1, ← h2]
  rfl
theorem fx.dflt (N : Nat) (ty : Nat → FieldType) : ∀ j, j < N → defaultValue (ty j) = vp_V ((List.range N).map fun j => defaultValue (ty j)) j := by
  intro j hj
  have h : ((List.range N).map fun j => defaultValue (ty j))[j]? = some (defaultValue (ty j)) := by rw [List.getElem?_map, List.getElem?_range hj]; rfl
  show _ = List.getD _ j Value.null
  rw [List.getD_eq_getElem?_getD, h]
  rfl
theorem po_Pl {D : va_G} {cl : List vw_C} {w1 w2 : va_W} {H : Heap} (h : va_P D cl (w1 ++ w2) H) : va_P D cl w1 H := fun k q hk => h k q (by rw [List.getElem?_append_left (List.getElem?_eq_some_iff.mp hk).1]; exact hk)
theorem po_Dl {A : Nat → Prop} {w1 w2 : va_W} (h : va_D A (w1 ++ w2)) : va_D A w1 := by
  have lift : ∀ (k : Nat) (q : Nat × va_E), w1[k]? = some q → (w1 ++ w2)[k]? = some q := fun k q hk => by rw [List.getElem?_append_left (List.getElem?_eq_some_iff.mp hk).1]; exact hk
  exact ⟨fun i j p q hi hj => h.1 i j p q (lift i p hi) (lift j q hj), fun k q hk => h.2 k q (lift k q hk)⟩
theorem po_Kl {D : va_G} {cl : List vw_C} {t1 t2 : List (ClassId × FieldType)} {U : State} (h : va_K D cl (t1 ++ t2) U) : va_K D cl t1 U := ⟨h.1, fun k q hk => h.2 k q (by rw [List.getElem?_append_left (List.getElem?_eq_some_iff.mp hk).1]; exact hk)⟩
/-- the words: those of the tables that hold at every later time -/
def BG : List Cond := lw_tbl.filter goodWord
theorem bg_mem {w : Cond} (i : Nat) (h : lw_tbl[i]? = some w) (g : goodWord w = true) : w ∈ BG := List.mem_filter.mpr ⟨List.mem_of_getElem? h, g⟩
theorem bg_good : ∀ w ∈ BG, (w.onTables && w.keeps) = true ∨ ∃ ty, w = .arrayClass ty := fun _ h => good_of_word (List.mem_filter.mp h).2
theorem bg_in {a : Cond} {ws : List Cond} (h : ∀ w ∈ ws, w ∈ BG) : GoodIn (a :: BG) ws := fun w hw => ⟨List.mem_cons_of_mem _ (h w hw), bg_good w (h w hw)⟩
theorem bg_cons {w : Cond} (h : w ∈ BG) : ∀ v ∈ w :: BG, v ∈ BG := fun v hv => (List.mem_cons.mp hv).elim (fun e => e ▸ h) id
theorem bg_tb {t : List Cond} (ht : ∀ w ∈ t, w ∈ lw_tbl) {w : Cond} (i : Nat) (h : t[i]? = some w) (g : goodWord w = true) : w ∈ BG := List.mem_filter.mpr ⟨ht w (List.mem_of_getElem? h), g⟩
/-- one list's words among another's, in their order -/
def sb_l : List Cond → List Cond → Bool
  | [], _ => true
  | _ :: _, [] => false
  | a :: as, b :: bs => if a = b then sb_l as bs else sb_l (a :: as) bs
theorem sb_l_in : ∀ (bs as : List Cond), sb_l as bs = true → ∀ w ∈ as, w ∈ bs
  | [], [], _, _, hw => hw
  | [], _ :: _, h, _, _ => by simp [sb_l] at h
  | b :: bs, [], _, _, hw => by cases hw
  | b :: bs, a :: as, h, w, hw => by
    rw [sb_l] at h
    split at h
    · rename_i e
      rcases List.mem_cons.mp hw with r | r
      · rw [r, e]; exact List.mem_cons_self
      · exact List.mem_cons_of_mem _ (sb_l_in bs as h w r)
    · exact List.mem_cons_of_mem _ (sb_l_in bs (a :: as) h w hw)
theorem bg_sb {t ws : List Cond} (ht : ∀ w ∈ t, w ∈ lw_tbl) (h : sb_l ws t = true) (g : ws.all goodWord = true) : ∀ w ∈ ws, w ∈ BG := fun w hw => List.mem_filter.mpr ⟨ht w (sb_l_in t ws h w hw), List.all_eq_true.mp g w hw⟩
theorem tb_app {t1 t2 : List Cond} (h1 : ∀ w ∈ t1, w ∈ lw_tbl) (h2 : ∀ w ∈ t2, w ∈ lw_tbl) : ∀ w ∈ t1 ++ t2, w ∈ lw_tbl := fun w h => (List.mem_append.mp h).elim (h1 w) (h2 w)
theorem bg_us {C : String} {T : u_T} {N : Nat} (ps : List Nat) (hp : u_ws C T N = ps.filterMap (fun i => lw_tbl[i]?)) (h : (u_ws C T N).all goodWord = true) : ∀ w ∈ u_ws C T N, w ∈ BG := by
  intro w hw
  have h1 := List.all_eq_true.mp h w hw
  rw [hp] at hw
  obtain ⟨i, -, hi⟩ := List.mem_filterMap.mp hw
  exact bg_mem i hi h1
theorem po_ai (n : Nat) (ty : FieldType) (h : defaultValue ty = .int 0) : ∀ cA : ClassId, vp_cell cA (n, .inl (fun _ => 0)) = arrV cA n (fun _ => defaultValue ty) := fun cA => by rw [vp_cell_i, h]
theorem po_al (n : Nat) (ty : FieldType) (h : defaultValue ty = .long 0) : ∀ cA : ClassId, vp_cell cA (n, .inr (.inl (fun _ => 0))) = arrV cA n (fun _ => defaultValue ty) := fun cA => by rw [vp_cell_l, h]
section PO
variable {p : Program} {l : Launch} {e : Env} {R : Room} {s : State} {m : MethodId} {args : Array Value} {below : List Frame} {meth : Method} {c : Code} {H : Heap} {locs : List Loc} {cells slots : Nat} {Q : State → Prop}
variable {cc : ByteArray} {pc : Nat} {ls : Array Slot} {rest : List Value} {D : va_G} {cl : List vw_C} {A : Nat → Prop} {a : Nat} {tys : List (ClassId × FieldType)} {wr : va_W} {H0 : Heap} {fs : List Value} {F : List (Nat × Value)}
/-- newarray; putfield of a final field: the array stays in the world -/
theorem po_nap (hexec : p.tables.exec = Jvm.exec) (hb : c.code = cc) {own C : String} {T : u_T} {N ci index : Nat} {Ts : List Cond} (hts : ∀ w ∈ Ts, w.before args s = true) (hin : ∀ w ∈ u_ws C T N, w ∈ Ts) (ty0 : Nat → FieldType) (hty : ∀ k, k < N → parseFieldDescriptor (T k).2.2.1 = some (ty0 k)) (hnm : ∀ a, a < N → ∀ b, b < N → a ≠ b → (T a).2.1 ≠ (T b).2.1) (hown : s.vm.findClass own = some m.cls)
    (hK : va_K D cl tys s) (hP : va_P D cl ((a, .inr (ci, fs)) :: wr) H) (hD : va_D A ((a, .inr (ci, fs)) :: wr)) (hS : va_S A H0 H locs) (hA : ∀ q, H0.size ≤ q → A q) (hc : cl[ci]? = some (C, T, N)) (hf : fx fs N F) (hin2 : meth.name = "<init>")
    {atype : ArrayType} (harr : (Cond.arrayClass (newarray.typeOf atype)).before args s = true) {ty : FieldType} (htyA : newarray.typeOf atype = ty) {n : Int32} {N' : Nat} {a0 : vp_A} (ha : ∀ cA : ClassId, vp_cell cA a0 = arrV cA N' (fun _ => defaultValue ty)) (hn : ¬ n < 0) (hN : n.toNatClampNeg = N') (hbytes : N' * componentBytes ty ≤ 536870912) (hcells : cells + 1 ≤ R.cells) (hslots : slots + N' ≤ R.slots) (d1 : decode cc pc = .ok (.newarray atype, 2))
    (k : Nat) (hk : k < N) (hlink : (Cond.fieldLink own index (T k).1 (T k).2.1 (T k).2.2.1).before args s = true) (hfin : (T k).2.2.2 = true) (hdecl : (T k).1 = own) (hd : parseFieldDescriptor (T k).2.2.1 = some (.array ty)) (d2 : decode cc (pc + 2) = .ok (.putfield index, 3)) {k1 n1 : Nat} (h1 : cells + 1 ≤ k1) (h2 : slots + N' ≤ n1)
    (kk : ∀ (q : Nat) (cA : ClassId) (fs1 : List Value) (H1 : Heap) (locs1 : List Loc), fx fs1 N ((k, .ref q) :: F.filter (fun z => z.1 != k)) → va_K D cl (tys ++ [(cA, ty)]) s → va_P D cl (((a, .inr (ci, fs1)) :: wr) ++ [(q, .inl (cA, a0))]) H1 → va_D A (((a, .inr (ci, fs1)) :: wr) ++ [(q, .inl (cA, a0))]) → va_S A H0 H1 locs1 → W p l e R s m args below meth c H1 locs1 k1 n1 Q (F0 m (pc + 5) ls rest)) :
    W p l e R s m args below meth c H locs cells slots Q (F0 m pc ls (.int n :: .ref a :: rest)) := by
  refine va_newa hexec hb harr htyA hK hP hD hS hA ha hn hN hbytes hcells hslots d1 (fun q cA H1 hK1 hP1 hD1 hS1 => ?_)
  refine W.widen h1 h2 ?_
  refine va_putF (v := .ref q) (ty := .array ty) hexec hb hts hin ty0 hty hnm hown hK1 hP1 hD1 hS1 0 rfl hc k hk hlink (fun _ h => h) hfin hin2 hdecl hd rfl rfl (by rw [hf.1]; exact hk) d2 (fun H2 locs2 hP2 hD2 hS2 => ?_)
  exact kk q cA _ H2 locs2 (hf.put hk _ rfl) hK1 hP2 hD2 hS2
/-- newarray; putfield of a final field: the array is forgotten -/
theorem po_nax (hexec : p.tables.exec = Jvm.exec) (hb : c.code = cc) {own C : String} {T : u_T} {N ci index : Nat} {Ts : List Cond} (hts : ∀ w ∈ Ts, w.before args s = true) (hin : ∀ w ∈ u_ws C T N, w ∈ Ts) (ty0 : Nat → FieldType) (hty : ∀ k, k < N → parseFieldDescriptor (T k).2.2.1 = some (ty0 k)) (hnm : ∀ a, a < N → ∀ b, b < N → a ≠ b → (T a).2.1 ≠ (T b).2.1) (hown : s.vm.findClass own = some m.cls)
    (hK : va_K D cl tys s) (hP : va_P D cl ((a, .inr (ci, fs)) :: wr) H) (hD : va_D A ((a, .inr (ci, fs)) :: wr)) (hS : va_S A H0 H locs) (hA : ∀ q, H0.size ≤ q → A q) (hc : cl[ci]? = some (C, T, N)) (hf : fx fs N F) (hin2 : meth.name = "<init>")
    {atype : ArrayType} (harr : (Cond.arrayClass (newarray.typeOf atype)).before args s = true) {ty : FieldType} (htyA : newarray.typeOf atype = ty) {n : Int32} {N' : Nat} {a0 : vp_A} (ha : ∀ cA : ClassId, vp_cell cA a0 = arrV cA N' (fun _ => defaultValue ty)) (hn : ¬ n < 0) (hN : n.toNatClampNeg = N') (hbytes : N' * componentBytes ty ≤ 536870912) (hcells : cells + 1 ≤ R.cells) (hslots : slots + N' ≤ R.slots) (d1 : decode cc pc = .ok (.newarray atype, 2))
    (k : Nat) (hk : k < N) (hlink : (Cond.fieldLink own index (T k).1 (T k).2.1 (T k).2.2.1).before args s = true) (hfin : (T k).2.2.2 = true) (hdecl : (T k).1 = own) (hd : parseFieldDescriptor (T k).2.2.1 = some (.array ty)) (d2 : decode cc (pc + 2) = .ok (.putfield index, 3)) {k1 n1 : Nat} (h1 : cells + 1 ≤ k1) (h2 : slots + N' ≤ n1)
    (hkF : F.filter (fun z => z.1 != k) = F)
    (kk : ∀ (fs1 : List Value) (H1 : Heap) (locs1 : List Loc), fx fs1 N F → va_P D cl ((a, .inr (ci, fs1)) :: wr) H1 → va_D A ((a, .inr (ci, fs1)) :: wr) → va_S A H0 H1 locs1 → W p l e R s m args below meth c H1 locs1 k1 n1 Q (F0 m (pc + 5) ls rest)) :
    W p l e R s m args below meth c H locs cells slots Q (F0 m pc ls (.int n :: .ref a :: rest)) :=
  po_nap hexec hb hts hin ty0 hty hnm hown hK hP hD hS hA hc hf hin2 harr htyA ha hn hN hbytes hcells hslots d1 k hk hlink hfin hdecl hd d2 h1 h2 (fun q cA fs1 H1 locs1 hf1 _ hP1 hD1 hS1 =>
    kk fs1 H1 locs1 ⟨hf1.1, fun z hz => hf1.2 z (List.mem_cons_of_mem _ (by rw [hkF]; exact hz))⟩ (po_Pl hP1) (po_Dl hD1) hS1)
end PO
