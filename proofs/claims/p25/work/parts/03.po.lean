/-! objects of many fields, of which some are known -/
def fx (fs : List Value) (N : Nat) (F : List (Nat × Value)) : Prop := fs.length = N ∧ ∀ z ∈ F, fs[z.1]? = some z.2
/-- the words: those of the tables that hold at every later time -/
def BG : List Cond := lw_tbl.filter goodWord
theorem bg_good : ∀ w ∈ BG, (w.onTables && w.keeps) = true ∨ ∃ ty, w = .arrayClass ty := fun _ h => good_of_word (List.mem_filter.mp h).2
theorem bg_cons {w : Cond} (h : w ∈ BG) : ∀ v ∈ w :: BG, v ∈ BG := fun v hv => (List.mem_cons.mp hv).elim (fun e => e ▸ h) id
theorem bg_tb {t : List Cond} (ht : ∀ w ∈ t, w ∈ lw_tbl) {w : Cond} (i : Nat) (h : t[i]? = some w) (g : goodWord w = true) : w ∈ BG := List.mem_filter.mpr ⟨ht w (List.mem_of_getElem? h), g⟩
/-- one list's words among another's, in their order -/
def sb_l : List Cond → List Cond → Bool
  | [], _ => true
  | _ :: _, [] => false
  | a :: as, b :: bs => if a = b then sb_l as bs else sb_l (a :: as) bs
theorem sb_l_in : ∀ (bs as : List Cond), sb_l as bs = true → ∀ w ∈ as, w ∈ bs
  | [], [], _, _, hw => hw
  | [], _ :: _, h, _, _ => by simp [sb_l] at h
  | b :: bs, [], _, _, hw => by cases hw
  | b :: bs, a :: as, h, w, hw => by
    rw [sb_l] at h
    split at h
    · rename_i e
      rcases List.mem_cons.mp hw with r | r
      · rw [r, e]; exact List.mem_cons_self
      · exact List.mem_cons_of_mem _ (sb_l_in bs as h w r)
    · exact List.mem_cons_of_mem _ (sb_l_in bs (a :: as) h w hw)
theorem bg_sb {t ws : List Cond} (ht : ∀ w ∈ t, w ∈ lw_tbl) (h : sb_l ws t = true) (g : ws.all goodWord = true) : ∀ w ∈ ws, w ∈ BG := fun w hw => List.mem_filter.mpr ⟨ht w (sb_l_in t ws h w hw), List.all_eq_true.mp g w hw⟩
theorem tb_app {t1 t2 : List Cond} (h1 : ∀ w ∈ t1, w ∈ lw_tbl) (h2 : ∀ w ∈ t2, w ∈ lw_tbl) : ∀ w ∈ t1 ++ t2, w ∈ lw_tbl := fun w h => (List.mem_append.mp h).elim (h1 w) (h2 w)
theorem po_ai (n : Nat) (ty : FieldType) (h : defaultValue ty = .int 0) : ∀ cA : ClassId, vp_cell cA (n, .inl (fun _ => 0)) = arrV cA n (fun _ => defaultValue ty) := fun cA => by rw [vp_cell_i, h]
theorem po_al (n : Nat) (ty : FieldType) (h : defaultValue ty = .long 0) : ∀ cA : ClassId, vp_cell cA (n, .inr (.inl (fun _ => 0))) = arrV cA n (fun _ => defaultValue ty) := fun cA => by rw [vp_cell_l, h]
section PO
variable {p : Program} {l : Launch} {e : Env} {R : Room} {s : State} {m : MethodId} {args : Array Value} {below : List Frame} {meth : Method} {c : Code} {H : Heap} {locs : List Loc} {cells slots : Nat} {Q : State → Prop}
variable {cc : ByteArray} {pc : Nat} {ls : Array Slot} {rest : List Value} {D : va_G} {cl : List vw_C} {A : Nat → Prop} {a : Nat} {tys : List (ClassId × FieldType)} {wr : va_W} {H0 : Heap} {fs : List Value} {F : List (Nat × Value)}
end PO
