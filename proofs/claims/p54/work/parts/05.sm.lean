/-! THE SMALL MACHINE: ints and longs as integers, references as a kind and a number, a world of fixed shape -/
abbrev sm_V : Type := Int ⊕ (Int ⊕ Option (Nat × Nat))
abbrev sm_L : Type := List (Option sm_V)
abbrev sm_S : Type := (Nat → Nat → Nat → Int) × (Nat → Nat → Nat → Option Nat) × (Nat → Nat → Nat → Int) × (Nat → Nat → Nat → Int)
def sm_tr (ad : Nat → Nat → Nat) : sm_V → Value
  | .inl z => .int (Int32.ofInt z)
  | .inr (.inl z) => .long (Int64.ofInt z)
  | .inr (.inr none) => .null
  | .inr (.inr (some r)) => .ref (ad r.1 r.2)
def sm_ni (z : Int) : Prop := -2147483648 ≤ z ∧ z ≤ 2147483647
def sm_nl (z : Int) : Prop := -9223372036854775808 ≤ z ∧ z ≤ 9223372036854775807
def sm_nz (cn : Nat → Nat) : sm_V → Prop
  | .inl z => sm_ni z
  | .inr (.inl z) => sm_nl z
  | .inr (.inr none) => True
  | .inr (.inr (some r)) => r.2 < cn r.1
theorem sm_ni_toInt (x : Int32) : sm_ni x.toInt := by
  have h1 := x.toInt_lt
  have h2 := x.le_toInt
  unfold sm_ni
  omega
theorem sm_nl_toInt (x : Int64) : sm_nl x.toInt := by
  have h1 := x.toInt_lt
  have h2 := x.le_toInt
  unfold sm_nl
  omega
theorem sm_ti {z : Int} (h : sm_ni z) : (Int32.ofInt z).toInt = z := Int32.toInt_ofInt_of_le (by unfold sm_ni at h; omega) (by unfold sm_ni at h; omega)
theorem sm_tl {z : Int} (h : sm_nl z) : (Int64.ofInt z).toInt = z := Int64.toInt_ofInt_of_le (by unfold sm_nl at h; omega) (by unfold sm_nl at h; omega)
theorem sm_tn {z : Int} (h : sm_ni z) : (Int32.ofInt z).toNatClampNeg = z.toNat := Int32.toNatClampNeg_ofInt_of_le (by unfold sm_ni at h; omega) (by unfold sm_ni at h; omega)
theorem sm_lt {x y : Int} (hx : sm_ni x) (hy : sm_ni y) : Int32.ofInt x < Int32.ofInt y ↔ x < y := by rw [Int32.lt_iff_toInt_lt, sm_ti hx, sm_ti hy]
theorem sm_le {x y : Int} (hx : sm_ni x) (hy : sm_ni y) : Int32.ofInt x ≤ Int32.ofInt y ↔ x ≤ y := by rw [Int32.le_iff_toInt_le, sm_ti hx, sm_ti hy]
theorem sm_eq {x y : Int} (hx : sm_ni x) (hy : sm_ni y) : Int32.ofInt x = Int32.ofInt y ↔ x = y := by rw [← Int32.toInt_inj, sm_ti hx, sm_ti hy]
theorem sm_i0 : (0 : Int32) = Int32.ofInt 0 := rfl
theorem sm_n0 : sm_ni 0 := by unfold sm_ni; omega
theorem sm_in {z : Int} {n : Nat} (h : sm_ni z) (h0 : 0 ≤ z) (h1 : z < n) : vp_in (Int32.ofInt z) n := by
  intro q
  rcases q with q | q
  · rw [sm_i0, sm_lt h sm_n0] at q
    omega
  · rw [sm_tn h] at q
    omega
/-! locals -/
def sm_lv (ad : Nat → Nat → Nat) (L : sm_L) : List (Nat × Value) := (List.range L.length).filterMap fun j => (L.getD j none).map fun v => (j, sm_tr ad v)
theorem sm_lv_mem {ad : Nat → Nat → Nat} {L : sm_L} {j : Nat} {w : Value} : (j, w) ∈ sm_lv ad L ↔ j < L.length ∧ ∃ v, L.getD j none = some v ∧ sm_tr ad v = w := by
  unfold sm_lv
  rw [List.mem_filterMap]
  constructor
  · rintro ⟨i, hi, h⟩
    rw [Option.map_eq_some_iff] at h
    obtain ⟨v, h1, h2⟩ := h
    cases h2
    exact ⟨List.mem_range.mp hi, v, h1, rfl⟩
  · rintro ⟨h0, v, h1, h2⟩
    exact ⟨j, List.mem_range.mpr h0, by rw [h1, ← h2]; rfl⟩
def sm_hl (ad : Nat → Nat → Nat) (L : sm_L) (ls : Array Slot) : Prop := lv_has ls L.length (sm_lv ad L)
theorem sm_hl_at {ad : Nat → Nat → Nat} {L : sm_L} {ls : Array Slot} (h : sm_hl ad L ls) {j : Nat} {v : sm_V} (hj : L.getD j none = some v) : ls[j]? = some (.val (sm_tr ad v)) := by
  refine h.2.2 (j, sm_tr ad v) (sm_lv_mem.mpr ⟨?_, v, hj, rfl⟩)
  by_cases q : j < L.length
  · exact q
  · rw [List.getD_eq_getElem?_getD, List.getElem?_eq_none (by omega)] at hj
    cases hj
def sm_isl : Option sm_V → Bool
  | some (.inr (.inl _)) => true
  | _ => false
def sm_s1 (L : sm_L) (i : Nat) (v : sm_V) : sm_L := (List.range L.length).map fun j => if j = i then some v else if j + 1 = i && sm_isl (L.getD j none) then none else L.getD j none
def sm_s2 (L : sm_L) (i : Nat) (v : sm_V) : sm_L := (List.range L.length).map fun j => if j = i then some v else if j = i + 1 then none else if j + 1 = i && sm_isl (L.getD j none) then none else L.getD j none
theorem sm_cat2 {ad : Nat → Nat → Nat} {v : sm_V} : (sm_tr ad v).category = 2 → sm_isl (some v) = true := by
  rcases v with z | z | _ | r
  · intro h; cases h
  · intro _; rfl
  · intro h; cases h
  · intro h; cases h
theorem sm_map_getD {n j : Nat} {f : Nat → Option sm_V} (h : j < n) : ((List.range n).map f).getD j none = f j := by
  rw [List.getD_eq_getElem?_getD, List.getElem?_map, List.getElem?_range h]
  rfl
theorem sm_hl_s1 {ad : Nat → Nat → Nat} {L : sm_L} {ls : Array Slot} {i : Nat} {v : sm_V} (h : lv_has ls L.length ((i, sm_tr ad v) :: (sm_lv ad L).filter (fun q => !(q.1 == i) && !(q.1 + 1 == i && q.2.category == 2)))) : sm_hl ad (sm_s1 L i v) ls := by
  have hlen : (sm_s1 L i v).length = L.length := by unfold sm_s1; simp
  refine ⟨by rw [hlen]; exact h.1, h.2.1, ?_⟩
  rintro ⟨j, w⟩ hq
  obtain ⟨h0, u, h1, h2⟩ := sm_lv_mem.mp hq
  rw [hlen] at h0
  unfold sm_s1 at h1
  rw [sm_map_getD h0] at h1
  refine h.2.2 (j, w) ?_
  split at h1
  · rename_i e
    cases h1
    subst e
    subst h2
    exact List.mem_cons_self
  · rename_i e
    split at h1
    · cases h1
    · rename_i g
      refine List.mem_cons_of_mem _ (List.mem_filter.mpr ⟨sm_lv_mem.mpr ⟨h0, u, h1, h2⟩, ?_⟩)
      simp only [Bool.and_eq_true, Bool.not_eq_true', beq_eq_false_iff_ne, ne_eq, Bool.and_eq_false_iff]
      refine ⟨e, ?_⟩
      by_cases q : j + 1 = i
      · right
        intro k
        have k : w.category = 2 := k
        rw [← h2] at k
        apply g
        rw [h1, sm_cat2 k]
        simp [q]
      · left; exact q
theorem sm_hl_s2 {ad : Nat → Nat → Nat} {L : sm_L} {ls : Array Slot} {i : Nat} {v : sm_V} (h : lv_has ls L.length ((i, sm_tr ad v) :: (sm_lv ad L).filter (fun q => !(q.1 == i) && (!(q.1 == i + 1) && !(q.1 + 1 == i && q.2.category == 2))))) : sm_hl ad (sm_s2 L i v) ls := by
  have hlen : (sm_s2 L i v).length = L.length := by unfold sm_s2; simp
  refine ⟨by rw [hlen]; exact h.1, h.2.1, ?_⟩
  rintro ⟨j, w⟩ hq
  obtain ⟨h0, u, h1, h2⟩ := sm_lv_mem.mp hq
  rw [hlen] at h0
  unfold sm_s2 at h1
  rw [sm_map_getD h0] at h1
  refine h.2.2 (j, w) ?_
  split at h1
  · rename_i e
    cases h1
    subst e
    subst h2
    exact List.mem_cons_self
  · rename_i e
    split at h1
    · cases h1
    · rename_i e2
      split at h1
      · cases h1
      · rename_i g
        refine List.mem_cons_of_mem _ (List.mem_filter.mpr ⟨sm_lv_mem.mpr ⟨h0, u, h1, h2⟩, ?_⟩)
        simp only [Bool.and_eq_true, Bool.not_eq_true', beq_eq_false_iff_ne, ne_eq, Bool.and_eq_false_iff]
        refine ⟨e, e2, ?_⟩
        by_cases q : j + 1 = i
        · right
          intro k
          have k : w.category = 2 := k
          rw [← h2] at k
          apply g
          rw [h1, sm_cat2 k]
          simp [q]
        · left; exact q
/-! arithmetic -/
def sm_bin (k : Nat) (x y : Int) : Option Int := match k with
  | 0 => some (Int32.ofInt x + Int32.ofInt y).toInt
  | 1 => some (Int32.ofInt x - Int32.ofInt y).toInt
  | 2 => some (Int32.ofInt x * Int32.ofInt y).toInt
  | 3 => some (Int32.ofInt x &&& Int32.ofInt y).toInt
  | 4 => some (Int32.ofInt x ||| Int32.ofInt y).toInt
  | 5 => some (Int32.ofInt x ^^^ Int32.ofInt y).toInt
  | 6 => some (Int32.ofInt x <<< (Int32.ofInt y &&& 31)).toInt
  | 7 => some (Int32.ofInt x >>> (Int32.ofInt y &&& 31)).toInt
  | 8 => if Int32.ofInt y = 0 then none else some (Int32.ofInt x / Int32.ofInt y).toInt
  | 9 => if Int32.ofInt y = 0 then none else some (Int32.ofInt x - Int32.ofInt x / Int32.ofInt y * Int32.ofInt y).toInt
  | 10 => some ((Int32.ofInt x).toUInt32 >>> ((Int32.ofInt y).toUInt32 &&& Int32.toUInt32 31)).toInt32.toInt
  | _ => none
def sm_binI (k : Nat) : ClassFile.Instr := match k with
  | 0 => .iadd
  | 1 => .isub
  | 2 => .imul
  | 3 => .iand
  | 4 => .ior
  | 5 => .ixor
  | 6 => .ishl
  | 7 => .ishr
  | 8 => .idiv
  | 9 => .irem
  | 10 => .iushr
  | _ => .nop
def sm_lbin (k : Nat) (x y : Int) : Option Int := match k with
  | 0 => some (Int64.ofInt x + Int64.ofInt y).toInt
  | 1 => some (Int64.ofInt x - Int64.ofInt y).toInt
  | 2 => some (Int64.ofInt x * Int64.ofInt y).toInt
  | 3 => some (Int64.ofInt x &&& Int64.ofInt y).toInt
  | 4 => some (Int64.ofInt x ||| Int64.ofInt y).toInt
  | 5 => some (Int64.ofInt x ^^^ Int64.ofInt y).toInt
  | _ => none
def sm_lbinI (k : Nat) : ClassFile.Instr := match k with
  | 0 => .ladd
  | 1 => .lsub
  | 2 => .lmul
  | 3 => .land
  | 4 => .lor
  | 5 => .lxor
  | _ => .nop
def sm_lsh (k : Nat) (x y : Int) : Option Int := match k with
  | 0 => some (Int64.ofInt x <<< ((Int32.ofInt y).toInt64 &&& 63)).toInt
  | 1 => some (Int64.ofInt x >>> ((Int32.ofInt y).toInt64 &&& 63)).toInt
  | 2 => some ((Int64.ofInt x).toUInt64 >>> ((Int32.ofInt y).toInt64.toUInt64 &&& Int64.toUInt64 63)).toInt64.toInt
  | _ => none
def sm_lshI (k : Nat) : ClassFile.Instr := match k with
  | 0 => .lshl
  | 1 => .lshr
  | 2 => .lushr
  | _ => .nop
/-- conversions: i2l, l2i, i2b, i2c, ineg -/
def sm_cnv (k : Nat) (v : sm_V) : Option sm_V := match k, v with
  | 0, .inl x => some (.inr (.inl (Int32.ofInt x).toInt64.toInt))
  | 1, .inr (.inl x) => some (.inl (Int64.ofInt x).toInt32.toInt)
  | 2, .inl x => some (.inl (Int32.ofInt x).toInt8.toInt32.toInt)
  | 3, .inl x => some (.inl ((Int32.ofInt x).toUInt32 % 65536).toInt32.toInt)
  | 4, .inl x => some (.inl (-(Int32.ofInt x)).toInt)
  | _, _ => none
def sm_cnvI (k : Nat) : ClassFile.Instr := match k with
  | 0 => .i2l
  | 1 => .l2i
  | 2 => .i2b
  | 3 => .i2c
  | 4 => .ineg
  | _ => .nop
/-- conditions: eq ne lt ge gt le, of x against y -/
def sm_cnd (k : Nat) (x y : Int) : Bool := match k with
  | 0 => decide (x = y)
  | 1 => decide (x ≠ y)
  | 2 => decide (x < y)
  | 3 => decide (y ≤ x)
  | 4 => decide (y < x)
  | _ => decide (x ≤ y)
def sm_cndI (k : Nat) : ClassFile.Cond := match k with
  | 0 => .eq
  | 1 => .ne
  | 2 => .lt
  | 3 => .ge
  | 4 => .gt
  | _ => .le
theorem sm_bin_nz {k : Nat} {x y v : Int} (h : sm_bin k x y = some v) : sm_ni v := by
  unfold sm_bin at h
  split at h
  all_goals first | (cases h; done) | (cases h; exact sm_ni_toInt _) | (split at h <;> first | (cases h; done) | (cases h; exact sm_ni_toInt _))
theorem sm_lbin_nz {k : Nat} {x y v : Int} (h : sm_lbin k x y = some v) : sm_nl v := by
  unfold sm_lbin at h
  split at h
  all_goals first | (cases h; done) | (cases h; exact sm_nl_toInt _)
theorem sm_lsh_nz {k : Nat} {x y v : Int} (h : sm_lsh k x y = some v) : sm_nl v := by
  unfold sm_lsh at h
  split at h
  all_goals first | (cases h; done) | (cases h; exact sm_nl_toInt _)
theorem sm_cnv_nz {cn : Nat → Nat} {k : Nat} {u v : sm_V} (h : sm_cnv k u = some v) : sm_nz cn v := by
  unfold sm_cnv at h
  split at h
  all_goals first | (cases h; done) | (cases h; exact sm_ni_toInt _) | (cases h; exact sm_nl_toInt _)
section SMW
variable {p : Program} {l : Launch} {e : Env} {R : Room} {s : State} {m : MethodId} {args : Array Value} {below : List Frame} {meth : Method} {c : Code} {H : Heap} {locs : List Loc} {cells slots : Nat} {Q : State → Prop}
variable {cc : ByteArray} {pc : Nat} {ls : Array Slot} {rest : List Value} {ad : Nat → Nat → Nat}
theorem sm_w_bin (hx : p.tables.exec = Jvm.exec) (hb : c.code = cc) {k : Nat} {x y v : Int} (hv : sm_bin k x y = some v) (hdg : decode cc pc = .ok (sm_binI k, 1))
    (kk : W p l e R s m args below meth c H locs cells slots Q (F0 m (pc + 1) ls (sm_tr ad (.inl v) :: rest))) : W p l e R s m args below meth c H locs cells slots Q (F0 m pc ls (sm_tr ad (.inl y) :: sm_tr ad (.inl x) :: rest)) := by
  unfold sm_bin at hv
  unfold sm_binI at hdg
  simp only [sm_tr] at kk ⊢
  split at hv
  · cases hv; (try dsimp only at hdg); rw [Int32.ofInt_toInt] at kk; exact lv_iadd hx hb hdg kk
  · cases hv; (try dsimp only at hdg); rw [Int32.ofInt_toInt] at kk; exact lv_isub hx hb hdg kk
  · cases hv; (try dsimp only at hdg); rw [Int32.ofInt_toInt] at kk; exact lv_imul hx hb hdg kk
  · cases hv; (try dsimp only at hdg); rw [Int32.ofInt_toInt] at kk; exact lv_iand hx hb hdg kk
  · cases hv; (try dsimp only at hdg); rw [Int32.ofInt_toInt] at kk; exact lv_ior hx hb hdg kk
  · cases hv; (try dsimp only at hdg); rw [Int32.ofInt_toInt] at kk; exact lv_ixor hx hb hdg kk
  · cases hv; (try dsimp only at hdg); rw [Int32.ofInt_toInt] at kk; exact lv_ishl hx hb hdg kk
  · cases hv; (try dsimp only at hdg); rw [Int32.ofInt_toInt] at kk; exact lv_ishr hx hb hdg kk
  · split at hv
    · cases hv
    · rename_i g; cases hv; (try dsimp only at hdg); rw [Int32.ofInt_toInt] at kk; exact lv_idiv hx hb hdg g kk
  · split at hv
    · cases hv
    · rename_i g; cases hv; (try dsimp only at hdg); rw [Int32.ofInt_toInt] at kk; exact lv_irem hx hb hdg g kk
  · cases hv; (try dsimp only at hdg); rw [Int32.ofInt_toInt] at kk; exact lv_iushr hx hb hdg rfl kk
  · cases hv
theorem sm_w_lbin (hx : p.tables.exec = Jvm.exec) (hb : c.code = cc) {k : Nat} {x y v : Int} (hv : sm_lbin k x y = some v) (hdg : decode cc pc = .ok (sm_lbinI k, 1))
    (kk : W p l e R s m args below meth c H locs cells slots Q (F0 m (pc + 1) ls (sm_tr ad (.inr (.inl v)) :: rest))) : W p l e R s m args below meth c H locs cells slots Q (F0 m pc ls (sm_tr ad (.inr (.inl y)) :: sm_tr ad (.inr (.inl x)) :: rest)) := by
  unfold sm_lbin at hv
  unfold sm_lbinI at hdg
  simp only [sm_tr] at kk ⊢
  split at hv
  · cases hv; (try dsimp only at hdg); rw [Int64.ofInt_toInt] at kk; exact lv_ladd hx hb hdg kk
  · cases hv; (try dsimp only at hdg); rw [Int64.ofInt_toInt] at kk; exact lv_lsub hx hb hdg kk
  · cases hv; (try dsimp only at hdg); rw [Int64.ofInt_toInt] at kk; exact lv_lmul hx hb hdg kk
  · cases hv; (try dsimp only at hdg); rw [Int64.ofInt_toInt] at kk; exact lv_land hx hb hdg kk
  · cases hv; (try dsimp only at hdg); rw [Int64.ofInt_toInt] at kk; exact lv_lor hx hb hdg kk
  · cases hv; (try dsimp only at hdg); rw [Int64.ofInt_toInt] at kk; exact lv_lxor hx hb hdg kk
  · cases hv
theorem sm_w_lsh (hx : p.tables.exec = Jvm.exec) (hb : c.code = cc) {k : Nat} {x y v : Int} (hv : sm_lsh k x y = some v) (hdg : decode cc pc = .ok (sm_lshI k, 1))
    (kk : W p l e R s m args below meth c H locs cells slots Q (F0 m (pc + 1) ls (sm_tr ad (.inr (.inl v)) :: rest))) : W p l e R s m args below meth c H locs cells slots Q (F0 m pc ls (sm_tr ad (.inl y) :: sm_tr ad (.inr (.inl x)) :: rest)) := by
  unfold sm_lsh at hv
  unfold sm_lshI at hdg
  simp only [sm_tr] at kk ⊢
  split at hv
  · cases hv; (try dsimp only at hdg); rw [Int64.ofInt_toInt] at kk; exact lv_lshl hx hb hdg rfl kk
  · cases hv; (try dsimp only at hdg); rw [Int64.ofInt_toInt] at kk; exact lv_lshr hx hb hdg rfl kk
  · cases hv; (try dsimp only at hdg); rw [Int64.ofInt_toInt] at kk; exact lv_lushr hx hb hdg rfl kk
  · cases hv
theorem sm_w_cnv (hx : p.tables.exec = Jvm.exec) (hb : c.code = cc) {k : Nat} {u v : sm_V} (hv : sm_cnv k u = some v) (hdg : decode cc pc = .ok (sm_cnvI k, 1))
    (kk : W p l e R s m args below meth c H locs cells slots Q (F0 m (pc + 1) ls (sm_tr ad v :: rest))) : W p l e R s m args below meth c H locs cells slots Q (F0 m pc ls (sm_tr ad u :: rest)) := by
  unfold sm_cnv at hv
  unfold sm_cnvI at hdg
  split at hv
  · cases hv; (try dsimp only at hdg); simp only [sm_tr] at kk ⊢; (try dsimp only at kk); rw [Int64.ofInt_toInt] at kk; exact lv_i2l hx hb hdg rfl kk
  · cases hv; (try dsimp only at hdg); simp only [sm_tr] at kk ⊢; (try dsimp only at kk); rw [Int32.ofInt_toInt] at kk; exact lv_l2i hx hb hdg rfl kk
  · cases hv; (try dsimp only at hdg); simp only [sm_tr] at kk ⊢; (try dsimp only at kk); rw [Int32.ofInt_toInt] at kk; exact lv_i2b hx hb hdg rfl kk
  · cases hv; (try dsimp only at hdg); simp only [sm_tr] at kk ⊢; (try dsimp only at kk); rw [Int32.ofInt_toInt] at kk; exact lv_i2c hx hb hdg rfl kk
  · cases hv; (try dsimp only at hdg); simp only [sm_tr] at kk ⊢; (try dsimp only at kk); rw [Int32.ofInt_toInt] at kk; exact lv_ineg hx hb hdg kk
  · cases hv
theorem sm_w_icmp (hx : p.tables.exec = Jvm.exec) (hb : c.code = cc) {k : Nat} {x y : Int} (nx : sm_ni x) (ny : sm_ni y) {off : Int} {tgt : Nat} (hdg : decode cc pc = .ok (.if_icmp (sm_cndI k) off, 3)) (ht : (pc : Int) + off = (tgt : Int))
    (kk : W p l e R s m args below meth c H locs cells slots Q (F0 m (if sm_cnd k x y then tgt else pc + 3) ls rest)) : W p l e R s m args below meth c H locs cells slots Q (F0 m pc ls (sm_tr ad (.inl y) :: sm_tr ad (.inl x) :: rest)) := by
  simp only [sm_tr]
  rcases k with _ | _ | _ | _ | _ | k
  · refine lv_icmp_eq hx hb hdg ht (fun h => ?_) (fun h => ?_)
    · rw [sm_eq nx ny] at h; rw [if_pos (by simpa [sm_cnd] using h)] at kk; exact kk
    · rw [sm_eq nx ny] at h; rw [if_neg (by simpa [sm_cnd] using h)] at kk; exact kk
  · refine lv_icmp_ne hx hb hdg ht (fun h => ?_) (fun h => ?_)
    · have h : ¬ Int32.ofInt x = Int32.ofInt y := h
      rw [sm_eq nx ny] at h; rw [if_pos (by simpa [sm_cnd] using h)] at kk; exact kk
    · rw [sm_eq nx ny] at h; rw [if_neg (by simpa [sm_cnd] using h)] at kk; exact kk
  · refine lv_icmp_lt hx hb hdg ht (fun h => ?_) (fun h => ?_)
    · rw [sm_lt nx ny] at h; rw [if_pos (by simpa [sm_cnd] using h)] at kk; exact kk
    · rw [sm_lt nx ny] at h; rw [if_neg (by simpa [sm_cnd] using h)] at kk; exact kk
  · refine lv_icmp_ge hx hb hdg ht (fun h => ?_) (fun h => ?_)
    · rw [sm_le ny nx] at h; rw [if_pos (by simpa [sm_cnd] using h)] at kk; exact kk
    · rw [sm_le ny nx] at h; rw [if_neg (by simpa [sm_cnd] using h)] at kk; exact kk
  · refine lv_icmp_gt hx hb hdg ht (fun h => ?_) (fun h => ?_)
    · rw [sm_lt ny nx] at h; rw [if_pos (by simpa [sm_cnd] using h)] at kk; exact kk
    · rw [sm_lt ny nx] at h; rw [if_neg (by simpa [sm_cnd] using h)] at kk; exact kk
  · refine lv_icmp_le hx hb hdg ht (fun h => ?_) (fun h => ?_)
    · rw [sm_le nx ny] at h; rw [if_pos (by simpa [sm_cnd] using h)] at kk; exact kk
    · rw [sm_le nx ny] at h; rw [if_neg (by simpa [sm_cnd] using h)] at kk; exact kk
theorem sm_w_ifc (hx : p.tables.exec = Jvm.exec) (hb : c.code = cc) {k : Nat} {x : Int} (nx : sm_ni x) {off : Int} {tgt : Nat} (hdg : decode cc pc = .ok (.ifCond (sm_cndI k) off, 3)) (ht : (pc : Int) + off = (tgt : Int))
    (kk : W p l e R s m args below meth c H locs cells slots Q (F0 m (if sm_cnd k x 0 then tgt else pc + 3) ls rest)) : W p l e R s m args below meth c H locs cells slots Q (F0 m pc ls (sm_tr ad (.inl x) :: rest)) := by
  simp only [sm_tr]
  have ny := sm_n0
  rcases k with _ | _ | _ | _ | _ | k
  · refine lv_if_eq hx hb hdg ht (fun h => ?_) (fun h => ?_)
    · rw [sm_i0, sm_eq nx ny] at h; rw [if_pos (by simpa [sm_cnd] using h)] at kk; exact kk
    · rw [sm_i0, sm_eq nx ny] at h; rw [if_neg (by simpa [sm_cnd] using h)] at kk; exact kk
  · refine lv_if_ne hx hb hdg ht (fun h => ?_) (fun h => ?_)
    · have h : ¬ Int32.ofInt x = 0 := h
      rw [sm_i0, sm_eq nx ny] at h; rw [if_pos (by simpa [sm_cnd] using h)] at kk; exact kk
    · rw [sm_i0, sm_eq nx ny] at h; rw [if_neg (by simpa [sm_cnd] using h)] at kk; exact kk
  · refine lv_if_lt hx hb hdg ht (fun h => ?_) (fun h => ?_)
    · rw [sm_i0, sm_lt nx ny] at h; rw [if_pos (by simpa [sm_cnd] using h)] at kk; exact kk
    · rw [sm_i0, sm_lt nx ny] at h; rw [if_neg (by simpa [sm_cnd] using h)] at kk; exact kk
  · refine lv_if_ge hx hb hdg ht (fun h => ?_) (fun h => ?_)
    · rw [sm_i0, sm_le ny nx] at h; rw [if_pos (by simpa [sm_cnd] using h)] at kk; exact kk
    · rw [sm_i0, sm_le ny nx] at h; rw [if_neg (by simpa [sm_cnd] using h)] at kk; exact kk
  · refine lv_if_gt hx hb hdg ht (fun h => ?_) (fun h => ?_)
    · rw [sm_i0, sm_lt ny nx] at h; rw [if_pos (by simpa [sm_cnd] using h)] at kk; exact kk
    · rw [sm_i0, sm_lt ny nx] at h; rw [if_neg (by simpa [sm_cnd] using h)] at kk; exact kk
  · refine lv_if_le hx hb hdg ht (fun h => ?_) (fun h => ?_)
    · rw [sm_i0, sm_le nx ny] at h; rw [if_pos (by simpa [sm_cnd] using h)] at kk; exact kk
    · rw [sm_i0, sm_le nx ny] at h; rw [if_neg (by simpa [sm_cnd] using h)] at kk; exact kk
end SMW
