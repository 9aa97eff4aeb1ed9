/-! the world of the small machine -/
def sm_fu (S : sm_S) (t i k : Nat) : sm_V := match (sh_fk t k).1 with
  | 0 => .inl (S.1 t i k)
  | 3 => .inr (.inl (S.1 t i k))
  | 1 => .inr (.inr (some ((sh_fk t k).2.1, (sh_fk t k).2.2 + i)))
  | _ => .inr (.inr ((S.2.1 t i k).map fun j => ((sh_fk t k).2.1, j)))
def sm_cell (K : Nat → ClassId) (ad : Nat → Nat → Nat) (S : sm_S) (t i : Nat) : va_E := match (sh_kd t).1 with
  | 0 => .inr ((sh_kd t).2.1, (List.range (sh_kd t).2.2).map fun k => sm_tr ad (sm_fu S t i k))
  | 4 => .inl (K (sh_kd t).2.1, (sh_kd t).2.2, .inr (.inl fun j => Int64.ofInt (S.2.2.2 t i j)))
  | 5 => .inl (K (sh_kd t).2.1, (sh_kd t).2.2, .inr (.inr (.inr (.inr fun j => some (ad (sh_rk t) j)))))
  | _ => .inl (K (sh_kd t).2.1, (sh_kd t).2.2, .inl fun j => Int32.ofInt (S.2.2.1 t i j))
def sm_ws (K : Nat → ClassId) (ad : Nat → Nat → Nat) (S : sm_S) : va_W := (List.range sh_N).map fun q => (ad (sh_kt q) (sh_ki q), sm_cell K ad S (sh_kt q) (sh_ki q))
theorem sm_ws_at {K : Nat → ClassId} {ad : Nat → Nat → Nat} {S : sm_S} {t i : Nat} (h : i < sh_cn t) : (sm_ws K ad S)[sh_bs t + i]? = some (ad t i, sm_cell K ad S t i) := by
  obtain ⟨h1, h2, h3⟩ := sh_pos h
  unfold sm_ws
  rw [List.getElem?_map, List.getElem?_range h1, Option.map_some, h2, h3]
theorem sm_ws_set {K : Nat → ClassId} {ad : Nat → Nat → Nat} {S S' : sm_S} {t i : Nat} (h : i < sh_cn t) {e : va_E} (he : e = sm_cell K ad S' t i) (hne : ∀ t' i', ¬ (t' = t ∧ i' = i) → sm_cell K ad S' t' i' = sm_cell K ad S t' i') : (sm_ws K ad S).set (sh_bs t + i) (ad t i, e) = sm_ws K ad S' := by
  obtain ⟨h1, h2, h3⟩ := sh_pos h
  subst he
  apply List.ext_getElem?
  intro q
  rw [List.getElem?_set]
  have hlen : ∀ X : sm_S, (sm_ws K ad X).length = sh_N := fun X => by unfold sm_ws; simp
  by_cases g : sh_bs t + i = q
  · subst g
    rw [if_pos rfl, if_pos (by rw [hlen]; exact h1), sm_ws_at h]
  · rw [if_neg g]
    by_cases hq : q < sh_N
    · unfold sm_ws
      rw [List.getElem?_map, List.getElem?_map, List.getElem?_range hq, Option.map_some, Option.map_some, hne]
      rintro ⟨e1, e2⟩
      exact g (by rw [← e1, ← e2]; exact sh_inv hq)
    · rw [List.getElem?_eq_none (by rw [hlen]; omega), List.getElem?_eq_none (by rw [hlen]; omega)]
def sm_up {α : Type} (f : Nat → Nat → Nat → α) (t i k : Nat) (v : α) : Nat → Nat → Nat → α := fun t' i' k' => if t' = t ∧ i' = i ∧ k' = k then v else f t' i' k'
theorem sm_up_self {α : Type} {f : Nat → Nat → Nat → α} {t i k : Nat} {v : α} : sm_up f t i k v t i k = v := if_pos ⟨rfl, rfl, rfl⟩
theorem sm_up_ne {α : Type} {f : Nat → Nat → Nat → α} {t i k t' i' k' : Nat} {v : α} (h : ¬ (t' = t ∧ i' = i ∧ k' = k)) : sm_up f t i k v t' i' k' = f t' i' k' := if_neg h
/-- a cell's picture depends on its own places alone -/
theorem sm_cell_eq {K : Nat → ClassId} {ad : Nat → Nat → Nat} {S S' : sm_S} {t i : Nat} (h1 : ∀ k, S'.1 t i k = S.1 t i k) (h2 : ∀ k, S'.2.1 t i k = S.2.1 t i k) (h3 : ∀ k, S'.2.2.1 t i k = S.2.2.1 t i k) (h4 : ∀ k, S'.2.2.2 t i k = S.2.2.2 t i k) : sm_cell K ad S' t i = sm_cell K ad S t i := by
  unfold sm_cell
  split
  · simp only [sm_fu, h1, h2]
  · simp only [h4]
  · rfl
  · simp only [h3]
def sm_pI (S : sm_S) (t i k : Nat) (z : Int) : sm_S := (sm_up S.1 t i k z, S.2)
def sm_pR (S : sm_S) (t i k : Nat) (j : Option Nat) : sm_S := (S.1, sm_up S.2.1 t i k j, S.2.2)
def sm_aI (S : sm_S) (t i k : Nat) (z : Int) : sm_S := (S.1, S.2.1, sm_up S.2.2.1 t i k z, S.2.2.2)
def sm_aL (S : sm_S) (t i k : Nat) (z : Int) : sm_S := (S.1, S.2.1, S.2.2.1, sm_up S.2.2.2 t i k z)
theorem sm_off {t i t' i' k k' : Nat} (h : ¬ (t' = t ∧ i' = i)) : ¬ (t' = t ∧ i' = i ∧ k' = k) := fun q => h ⟨q.1, q.2.1⟩
theorem sm_cell_pI {K : Nat → ClassId} {ad : Nat → Nat → Nat} {S : sm_S} {t i k : Nat} {z : Int} {t' i' : Nat} (h : ¬ (t' = t ∧ i' = i)) : sm_cell K ad (sm_pI S t i k z) t' i' = sm_cell K ad S t' i' := sm_cell_eq (fun _ => sm_up_ne (sm_off h)) (fun _ => rfl) (fun _ => rfl) (fun _ => rfl)
theorem sm_cell_pR {K : Nat → ClassId} {ad : Nat → Nat → Nat} {S : sm_S} {t i k : Nat} {z : Option Nat} {t' i' : Nat} (h : ¬ (t' = t ∧ i' = i)) : sm_cell K ad (sm_pR S t i k z) t' i' = sm_cell K ad S t' i' := sm_cell_eq (fun _ => rfl) (fun _ => sm_up_ne (sm_off h)) (fun _ => rfl) (fun _ => rfl)
theorem sm_cell_aI {K : Nat → ClassId} {ad : Nat → Nat → Nat} {S : sm_S} {t i k : Nat} {z : Int} {t' i' : Nat} (h : ¬ (t' = t ∧ i' = i)) : sm_cell K ad (sm_aI S t i k z) t' i' = sm_cell K ad S t' i' := sm_cell_eq (fun _ => rfl) (fun _ => rfl) (fun _ => sm_up_ne (sm_off h)) (fun _ => rfl)
theorem sm_cell_aL {K : Nat → ClassId} {ad : Nat → Nat → Nat} {S : sm_S} {t i k : Nat} {z : Int} {t' i' : Nat} (h : ¬ (t' = t ∧ i' = i)) : sm_cell K ad (sm_aL S t i k z) t' i' = sm_cell K ad S t' i' := sm_cell_eq (fun _ => rfl) (fun _ => rfl) (fun _ => rfl) (fun _ => sm_up_ne (sm_off h))
theorem sm_cell_o {K : Nat → ClassId} {ad : Nat → Nat → Nat} {S : sm_S} {t i ci n : Nat} (h : sh_kd t = (0, ci, n)) : sm_cell K ad S t i = .inr (ci, (List.range n).map fun k => sm_tr ad (sm_fu S t i k)) := by unfold sm_cell; rw [h]; rfl
theorem sm_cell_l {K : Nat → ClassId} {ad : Nat → Nat → Nat} {S : sm_S} {t i t0 n : Nat} (h : sh_kd t = (4, t0, n)) : sm_cell K ad S t i = .inl (K t0, n, .inr (.inl fun j => Int64.ofInt (S.2.2.2 t i j))) := by unfold sm_cell; rw [h]; rfl
theorem sm_cell_r {K : Nat → ClassId} {ad : Nat → Nat → Nat} {S : sm_S} {t i t0 n : Nat} (h : sh_kd t = (5, t0, n)) : sm_cell K ad S t i = .inl (K t0, n, .inr (.inr (.inr (.inr fun j => some (ad (sh_rk t) j))))) := by unfold sm_cell; rw [h]; rfl
theorem sm_cell_i {K : Nat → ClassId} {ad : Nat → Nat → Nat} {S : sm_S} {t i a t0 n : Nat} (h : sh_kd t = (a + 1, t0, n)) (ha : a < 3) : sm_cell K ad S t i = .inl (K t0, n, .inl fun j => Int32.ofInt (S.2.2.1 t i j)) := by
  unfold sm_cell
  rw [h]
  rcases a with _ | _ | _ | a
  · rfl
  · rfl
  · rfl
  · omega
theorem sm_fields_set {n k : Nat} (hk : k < n) {f g : Nat → Value} (hg : ∀ j, j ≠ k → g j = f j) : ((List.range n).map f).set k (g k) = (List.range n).map g := by
  apply List.ext_getElem?
  intro q
  rw [List.getElem?_set]
  by_cases e : k = q
  · subst e
    rw [if_pos rfl, if_pos (by simpa using hk), List.getElem?_map, List.getElem?_range hk]
    rfl
  · rw [if_neg e]
    by_cases hq : q < n
    · rw [List.getElem?_map, List.getElem?_map, List.getElem?_range hq, Option.map_some, Option.map_some, hg q (fun h => e h.symm)]
    · rw [List.getElem?_eq_none (by simp; omega), List.getElem?_eq_none (by simp; omega)]
def sm_wd (D : va_G) (K : Nat → ClassId) (ad : Nat → Nat → Nat) (A : Nat → Prop) (H0 H : Heap) (locs : List Loc) (S : sm_S) : Prop := va_P D CL (sm_ws K ad S) H ∧ va_D A (sm_ws K ad S) ∧ va_S A H0 H locs
/-- the classes of arrays: int, byte, boolean, long, and of Design, Library, Chip -/
def sm_tys (K : Nat → ClassId) : List (ClassId × FieldType) := [(K 0, .int), (K 1, .byte), (K 2, .boolean), (K 3, .long), (K 4, .object "ChipFlow$Design"), (K 5, .object "ChipFlow$Library"), (K 6, .object "ChipFlow$Chip")]
section SMH
variable {p : Program} {l : Launch} {e : Env} {R : Room} {s : State} {m : MethodId} {args : Array Value} {below : List Frame} {meth : Method} {c : Code} {H : Heap} {locs : List Loc} {cells slots : Nat} {Q : State → Prop}
variable {cc : ByteArray} {pc : Nat} {ls : Array Slot} {rest : List Value} {ad : Nat → Nat → Nat} {D : va_G} {K : Nat → ClassId} {A : Nat → Prop} {H0 : Heap} {S : sm_S} {t i : Nat}
theorem sm_w_get (hx : p.tables.exec = Jvm.exec) (hb : c.code = cc) (hts : ∀ w ∈ BG, w.before args s = true) {own C : String} {T : u_T} {n k index : Nat} (hown : s.vm.findClass own = some m.cls) (hK : va_K D CL (sm_tys K) s) (hw : sm_wd D K ad A H0 H locs S)
    (hc : CL[t]? = some (C, T, n)) (hkd : sh_kd t = (0, t, n)) (hin : ∀ w ∈ u_ws C T n, w ∈ BG) (hi : i < sh_cn t) (hk : k < n) (hlink : Cond.fieldLink own index (T k).1 (T k).2.1 (T k).2.2.1 ∈ BG) (hdg : decode cc pc = .ok (.getfield index, 3))
    (kk : W p l e R s m args below meth c H locs cells slots Q (F0 m (pc + 3) ls (sm_tr ad (sm_fu S t i k) :: rest))) : W p l e R s m args below meth c H locs cells slots Q (F0 m pc ls (.ref (ad t i) :: rest)) := by
  have he := sm_ws_at (K := K) (ad := ad) (S := S) hi
  rw [sm_cell_o hkd] at he
  refine va_get hx hb hts hin hown hK hw.1 _ he hc k hk (hts _ hlink) (fun _ h => h) ?_ hdg kk
  rw [List.getElem?_map, List.getElem?_range hk]
  rfl
theorem sm_w_put (hx : p.tables.exec = Jvm.exec) (hb : c.code = cc) (hts : ∀ w ∈ BG, w.before args s = true) {own C : String} {T : u_T} {n k index : Nat} (hown : s.vm.findClass own = some m.cls) (hK : va_K D CL (sm_tys K) s) (hw : sm_wd D K ad A H0 H locs S)
    (hc : CL[t]? = some (C, T, n)) (hkd : sh_kd t = (0, t, n)) (hin : ∀ w ∈ u_ws C T n, w ∈ BG) (ty0 : Nat → FieldType) (hty : ∀ k, k < n → parseFieldDescriptor (T k).2.2.1 = some (ty0 k)) (hnm : ∀ a, a < n → ∀ b, b < n → a ≠ b → (T a).2.1 ≠ (T b).2.1)
    (hi : i < sh_cn t) (hk : k < n) (hlink : Cond.fieldLink own index (T k).1 (T k).2.1 (T k).2.2.1 ∈ BG) (hfin : (T k).2.2.2 = false) {v : sm_V} {S' : sm_S} (hn : narrow (ty0 k) (sm_tr ad v) = sm_tr ad v) (hfit : fits (ty0 k) (sm_tr ad v) = true)
    (hv : sm_fu S' t i k = v) (hs : ∀ j, j ≠ k → sm_fu S' t i j = sm_fu S t i j) (ho : ∀ t' i', ¬ (t' = t ∧ i' = i) → sm_cell K ad S' t' i' = sm_cell K ad S t' i') (hdg : decode cc pc = .ok (.putfield index, 3))
    (kk : ∀ (H1 : Heap) (locs1 : List Loc), sm_wd D K ad A H0 H1 locs1 S' → W p l e R s m args below meth c H1 locs1 cells slots Q (F0 m (pc + 3) ls rest)) : W p l e R s m args below meth c H locs cells slots Q (F0 m pc ls (sm_tr ad v :: .ref (ad t i) :: rest)) := by
  have he := sm_ws_at (K := K) (ad := ad) (S := S) hi
  rw [sm_cell_o hkd] at he
  have hset : (sm_ws K ad S).set (sh_bs t + i) (ad t i, .inr (t, ((List.range n).map fun k => sm_tr ad (sm_fu S t i k)).set k (sm_tr ad v))) = sm_ws K ad S' := by
    refine sm_ws_set hi ?_ ho
    rw [sm_cell_o hkd, ← hv, sm_fields_set hk (g := fun k => sm_tr ad (sm_fu S' t i k)) (fun j hj => by rw [hs j hj])]
  refine va_put hx hb hts hin ty0 hty hnm hown hK hw.1 hw.2.1 hw.2.2 _ he hc k hk (hts _ hlink) (fun _ h => h) hfin (hty k hk) hn hfit (by simpa using hk) hdg (fun H1 locs1 h1 h2 h3 => ?_)
  rw [hset] at h1 h2
  exact kk H1 locs1 ⟨h1, h2, h3⟩
theorem sm_w_iald (hx : p.tables.exec = Jvm.exec) (hb : c.code = cc) (hK : va_K D CL (sm_tys K) s) (hw : sm_wd D K ad A H0 H locs S) {n : Nat} (hkd : sh_kd t = (1, 0, n)) (hi : i < sh_cn t) {z : Int} (nz : sm_ni z) (h0 : 0 ≤ z) (h1 : z < n) (hdg : decode cc pc = .ok (.iaload, 1))
    (kk : W p l e R s m args below meth c H locs cells slots Q (F0 m (pc + 1) ls (sm_tr ad (.inl (S.2.2.1 t i z.toNat)) :: rest))) : W p l e R s m args below meth c H locs cells slots Q (F0 m pc ls (sm_tr ad (.inl z) :: .ref (ad t i) :: rest)) := by
  have he := sm_ws_at (K := K) (ad := ad) (S := S) hi
  rw [sm_cell_i hkd (by omega)] at he
  refine va_iald hx hb hK hw.1 _ 0 he rfl (sm_in nz h0 h1) hdg ?_
  rw [sm_tn nz]
  exact kk
theorem sm_w_bald (hx : p.tables.exec = Jvm.exec) (hb : c.code = cc) (hK : va_K D CL (sm_tys K) s) (hw : sm_wd D K ad A H0 H locs S) {n : Nat} (hkd : sh_kd t = (2, 1, n)) (hi : i < sh_cn t) {z : Int} (nz : sm_ni z) (h0 : 0 ≤ z) (h1 : z < n) (hdg : decode cc pc = .ok (.baload, 1))
    (kk : W p l e R s m args below meth c H locs cells slots Q (F0 m (pc + 1) ls (sm_tr ad (.inl (S.2.2.1 t i z.toNat)) :: rest))) : W p l e R s m args below meth c H locs cells slots Q (F0 m pc ls (sm_tr ad (.inl z) :: .ref (ad t i) :: rest)) := by
  have he := sm_ws_at (K := K) (ad := ad) (S := S) hi
  rw [sm_cell_i hkd (by omega)] at he
  refine va_bald hx hb hK hw.1 _ 1 he rfl (sm_in nz h0 h1) hdg ?_
  rw [sm_tn nz]
  exact kk
theorem sm_w_zald (hx : p.tables.exec = Jvm.exec) (hb : c.code = cc) (hK : va_K D CL (sm_tys K) s) (hw : sm_wd D K ad A H0 H locs S) {n : Nat} (hkd : sh_kd t = (3, 2, n)) (hi : i < sh_cn t) {z : Int} (nz : sm_ni z) (h0 : 0 ≤ z) (h1 : z < n) (hdg : decode cc pc = .ok (.baload, 1))
    (kk : W p l e R s m args below meth c H locs cells slots Q (F0 m (pc + 1) ls (sm_tr ad (.inl (S.2.2.1 t i z.toNat)) :: rest))) : W p l e R s m args below meth c H locs cells slots Q (F0 m pc ls (sm_tr ad (.inl z) :: .ref (ad t i) :: rest)) := by
  have he := sm_ws_at (K := K) (ad := ad) (S := S) hi
  rw [sm_cell_i hkd (by omega)] at he
  refine va_zald hx hb hK hw.1 _ 2 he rfl (sm_in nz h0 h1) hdg ?_
  rw [sm_tn nz]
  exact kk
theorem sm_w_lald (hx : p.tables.exec = Jvm.exec) (hb : c.code = cc) (hK : va_K D CL (sm_tys K) s) (hw : sm_wd D K ad A H0 H locs S) {n : Nat} (hkd : sh_kd t = (4, 3, n)) (hi : i < sh_cn t) {z : Int} (nz : sm_ni z) (h0 : 0 ≤ z) (h1 : z < n) (hdg : decode cc pc = .ok (.laload, 1))
    (kk : W p l e R s m args below meth c H locs cells slots Q (F0 m (pc + 1) ls (sm_tr ad (.inr (.inl (S.2.2.2 t i z.toNat))) :: rest))) : W p l e R s m args below meth c H locs cells slots Q (F0 m pc ls (sm_tr ad (.inl z) :: .ref (ad t i) :: rest)) := by
  have he := sm_ws_at (K := K) (ad := ad) (S := S) hi
  rw [sm_cell_l hkd] at he
  refine va_lald hx hb hK hw.1 _ 3 he rfl (sm_in nz h0 h1) hdg ?_
  rw [sm_tn nz]
  exact kk
theorem sm_w_aald (hx : p.tables.exec = Jvm.exec) (hb : c.code = cc) (hK : va_K D CL (sm_tys K) s) (hw : sm_wd D K ad A H0 H locs S) {n t0 : Nat} {Cn : String} (hkd : sh_kd t = (5, t0, n)) (ht0 : (sm_tys K)[t0]? = some (K t0, .object Cn)) (hi : i < sh_cn t) {z : Int} (nz : sm_ni z) (h0 : 0 ≤ z) (h1 : z < n) (hdg : decode cc pc = .ok (.aaload, 1))
    (kk : W p l e R s m args below meth c H locs cells slots Q (F0 m (pc + 1) ls (sm_tr ad (.inr (.inr (some (sh_rk t, z.toNat)))) :: rest))) : W p l e R s m args below meth c H locs cells slots Q (F0 m pc ls (sm_tr ad (.inl z) :: .ref (ad t i) :: rest)) := by
  have he := sm_ws_at (K := K) (ad := ad) (S := S) hi
  rw [sm_cell_r hkd] at he
  refine va_aldq hx hb hK hw.1 _ t0 he ht0 (sm_in nz h0 h1) hdg ?_
  rw [sm_tn nz]
  exact kk
theorem sm_w_iast (hx : p.tables.exec = Jvm.exec) (hb : c.code = cc) (hK : va_K D CL (sm_tys K) s) (hw : sm_wd D K ad A H0 H locs S) {n : Nat} (hkd : sh_kd t = (1, 0, n)) (hi : i < sh_cn t) {z x : Int} (nz : sm_ni z) (h0 : 0 ≤ z) (h1 : z < n) (hdg : decode cc pc = .ok (.iastore, 1))
    (kk : ∀ (H1 : Heap) (locs1 : List Loc), sm_wd D K ad A H0 H1 locs1 (sm_aI S t i z.toNat x) → W p l e R s m args below meth c H1 locs1 cells slots Q (F0 m (pc + 1) ls rest)) : W p l e R s m args below meth c H locs cells slots Q (F0 m pc ls (sm_tr ad (.inl x) :: sm_tr ad (.inl z) :: .ref (ad t i) :: rest)) := by
  have he := sm_ws_at (K := K) (ad := ad) (S := S) hi
  rw [sm_cell_i hkd (by omega)] at he
  refine va_iast hx hb hK hw.1 hw.2.1 hw.2.2 _ 0 he rfl (sm_in nz h0 h1) hdg (fun H1 locs1 g1 g2 g3 => ?_)
  rw [sm_ws_set (S' := sm_aI S t i z.toNat x) hi (by rw [sm_cell_i hkd (by omega), sm_tn nz]; congr 3; congr 1; funext j; unfold upd sm_aI; by_cases hj : j = z.toNat <;> simp [sm_up, hj]) (fun _ _ h => sm_cell_aI h)] at g1 g2
  exact kk H1 locs1 ⟨g1, g2, g3⟩
theorem sm_w_bast (hx : p.tables.exec = Jvm.exec) (hb : c.code = cc) (hK : va_K D CL (sm_tys K) s) (hw : sm_wd D K ad A H0 H locs S) {n : Nat} (hkd : sh_kd t = (2, 1, n)) (hi : i < sh_cn t) {z x : Int} (nz : sm_ni z) (h0 : 0 ≤ z) (h1 : z < n) (hdg : decode cc pc = .ok (.bastore, 1))
    (kk : ∀ (H1 : Heap) (locs1 : List Loc), sm_wd D K ad A H0 H1 locs1 (sm_aI S t i z.toNat (vp_nar .byte (Int32.ofInt x)).toInt) → W p l e R s m args below meth c H1 locs1 cells slots Q (F0 m (pc + 1) ls rest)) : W p l e R s m args below meth c H locs cells slots Q (F0 m pc ls (sm_tr ad (.inl x) :: sm_tr ad (.inl z) :: .ref (ad t i) :: rest)) := by
  have he := sm_ws_at (K := K) (ad := ad) (S := S) hi
  rw [sm_cell_i hkd (by omega)] at he
  refine va_bast hx hb hK hw.1 hw.2.1 hw.2.2 _ 1 he rfl (sm_in nz h0 h1) hdg (fun H1 locs1 g1 g2 g3 => ?_)
  rw [sm_ws_set (S' := sm_aI S t i z.toNat (vp_nar .byte (Int32.ofInt x)).toInt) hi (by rw [sm_cell_i hkd (by omega), sm_tn nz]; congr 3; congr 1; funext j; unfold upd sm_aI; by_cases hj : j = z.toNat <;> simp [sm_up, hj]) (fun _ _ h => sm_cell_aI h)] at g1 g2
  exact kk H1 locs1 ⟨g1, g2, g3⟩
theorem sm_w_zast (hx : p.tables.exec = Jvm.exec) (hb : c.code = cc) (hK : va_K D CL (sm_tys K) s) (hw : sm_wd D K ad A H0 H locs S) {n : Nat} (hkd : sh_kd t = (3, 2, n)) (hi : i < sh_cn t) {z x : Int} (nz : sm_ni z) (h0 : 0 ≤ z) (h1 : z < n) (hdg : decode cc pc = .ok (.bastore, 1))
    (kk : ∀ (H1 : Heap) (locs1 : List Loc), sm_wd D K ad A H0 H1 locs1 (sm_aI S t i z.toNat (vp_nar .boolean (Int32.ofInt x)).toInt) → W p l e R s m args below meth c H1 locs1 cells slots Q (F0 m (pc + 1) ls rest)) : W p l e R s m args below meth c H locs cells slots Q (F0 m pc ls (sm_tr ad (.inl x) :: sm_tr ad (.inl z) :: .ref (ad t i) :: rest)) := by
  have he := sm_ws_at (K := K) (ad := ad) (S := S) hi
  rw [sm_cell_i hkd (by omega)] at he
  refine va_zast hx hb hK hw.1 hw.2.1 hw.2.2 _ 2 he rfl (sm_in nz h0 h1) hdg (fun H1 locs1 g1 g2 g3 => ?_)
  rw [sm_ws_set (S' := sm_aI S t i z.toNat (vp_nar .boolean (Int32.ofInt x)).toInt) hi (by rw [sm_cell_i hkd (by omega), sm_tn nz]; congr 3; congr 1; funext j; unfold upd sm_aI; by_cases hj : j = z.toNat <;> simp [sm_up, hj]) (fun _ _ h => sm_cell_aI h)] at g1 g2
  exact kk H1 locs1 ⟨g1, g2, g3⟩
theorem sm_w_last (hx : p.tables.exec = Jvm.exec) (hb : c.code = cc) (hK : va_K D CL (sm_tys K) s) (hw : sm_wd D K ad A H0 H locs S) {n : Nat} (hkd : sh_kd t = (4, 3, n)) (hi : i < sh_cn t) {z x : Int} (nz : sm_ni z) (h0 : 0 ≤ z) (h1 : z < n) (hdg : decode cc pc = .ok (.lastore, 1))
    (kk : ∀ (H1 : Heap) (locs1 : List Loc), sm_wd D K ad A H0 H1 locs1 (sm_aL S t i z.toNat x) → W p l e R s m args below meth c H1 locs1 cells slots Q (F0 m (pc + 1) ls rest)) : W p l e R s m args below meth c H locs cells slots Q (F0 m pc ls (sm_tr ad (.inr (.inl x)) :: sm_tr ad (.inl z) :: .ref (ad t i) :: rest)) := by
  have he := sm_ws_at (K := K) (ad := ad) (S := S) hi
  rw [sm_cell_l hkd] at he
  refine va_last hx hb hK hw.1 hw.2.1 hw.2.2 _ 3 he rfl (sm_in nz h0 h1) hdg (fun H1 locs1 g1 g2 g3 => ?_)
  rw [sm_ws_set (S' := sm_aL S t i z.toNat x) hi (by rw [sm_cell_l hkd, sm_tn nz]; congr 4; congr 1; funext j; unfold vp_updL sm_aL; by_cases hj : j = z.toNat <;> simp [sm_up, hj]) (fun _ _ h => sm_cell_aL h)] at g1 g2
  exact kk H1 locs1 ⟨g1, g2, g3⟩
theorem sm_w_alen (hx : p.tables.exec = Jvm.exec) (hb : c.code = cc) (hK : va_K D CL (sm_tys K) s) (hw : sm_wd D K ad A H0 H locs S) {a n t0 : Nat} {ty : FieldType} (hkd : sh_kd t = (a + 1, t0, n)) (ht0 : (sm_tys K)[t0]? = some (K t0, ty)) (hi : i < sh_cn t) (hdg : decode cc pc = .ok (.arraylength, 1))
    (kk : W p l e R s m args below meth c H locs cells slots Q (F0 m (pc + 1) ls (sm_tr ad (.inl (n : Int)) :: rest))) : W p l e R s m args below meth c H locs cells slots Q (F0 m pc ls (.ref (ad t i) :: rest)) := by
  have he := sm_ws_at (K := K) (ad := ad) (S := S) hi
  have hx2 : ∃ y, sm_cell K ad S t i = .inl (K t0, n, y) := by
    unfold sm_cell
    rw [hkd]
    dsimp only
    split
    · rename_i q; omega
    · exact ⟨_, rfl⟩
    · exact ⟨_, rfl⟩
    · exact ⟨_, rfl⟩
  obtain ⟨y, hy⟩ := hx2
  rw [hy] at he
  exact va_alen hx hb hK hw.1 _ t0 he ht0 (v := Int32.ofInt (n : Int)) rfl hdg kk
end SMH
