/-! steps of constructors -/
def cm_aty (ty : Nat) : ArrayType := if ty = 0 then .int else if ty = 1 then .byte else if ty = 2 then .boolean else .long
def cm_fty (ty : Nat) : FieldType := if ty = 0 then .int else if ty = 1 then .byte else if ty = 2 then .boolean else .long
theorem cm_wrd {ty : Nat} (h : ty < 4) : Cond.arrayClass (newarray.typeOf (cm_aty ty)) ∈ BG := by
  rcases ty with _ | _ | _ | _ | ty
  · exact cm_wa0
  · exact cm_wa1
  · exact cm_wa2
  · exact cm_wa3
  · omega
theorem cm_K {D : va_G} {K : Nat → ClassId} {s : State} {ty : Nat} {cA : ClassId} (h : ty < 4) (hK : va_K D CL (sm_tys K) s) (h1 : va_K D CL (sm_tys K ++ [(cA, cm_fty ty)]) s) : cA = K ty := by
  have h2 := (h1.2 7 (cA, cm_fty ty) rfl).2
  rcases ty with _ | _ | _ | _ | ty
  · exact Option.some.inj (h2.symm.trans (hK.2 0 _ rfl).2)
  · exact Option.some.inj (h2.symm.trans (hK.2 1 _ rfl).2)
  · exact Option.some.inj (h2.symm.trans (hK.2 2 _ rfl).2)
  · exact Option.some.inj (h2.symm.trans (hK.2 3 _ rfl).2)
  · omega
def cm_cn (ty : Nat) : String := if ty = 4 then "ChipFlow$Design" else if ty = 5 then "ChipFlow$Library" else "ChipFlow$Chip"
theorem cm_Kq {D : va_G} {K : Nat → ClassId} {s : State} {ty : Nat} {cA : ClassId} (h : ty = 4 ∨ ty = 5 ∨ ty = 6) (hK : va_K D CL (sm_tys K) s) (h1 : va_K D CL (sm_tys K ++ [(cA, .object (cm_cn ty))]) s) : cA = K ty := by
  obtain ⟨_, _, _, _, _, h2⟩ := (h1.2 7 (cA, .object (cm_cn ty)) rfl).2
  rcases h with rfl | rfl | rfl
  · obtain ⟨_, _, _, _, _, h3⟩ := (hK.2 4 _ rfl).2
    exact Option.some.inj (h2.symm.trans h3)
  · obtain ⟨_, _, _, _, _, h3⟩ := (hK.2 5 _ rfl).2
    exact Option.some.inj (h2.symm.trans h3)
  · obtain ⟨_, _, _, _, _, h3⟩ := (hK.2 6 _ rfl).2
    exact Option.some.inj (h2.symm.trans h3)
section CM
variable {p : Program} {l : Launch} {e : Env} {R : Room} {s : State} {m : MethodId} {args : Array Value} {below : List Frame} {meth : Method} {c : Code} {H : Heap} {locs : List Loc} {cells slots : Nat} {Q : State → Prop}
variable {cc : ByteArray} {pc : Nat} {ls : Array Slot} {rest : List Value} {D : va_G} {A : Nat → Prop} {K : Nat → ClassId} {adr : Nat → Nat} {w : List cm_D} {own : Nat}
theorem cm_narr (hcx : cm_cx own cc p s m args meth c D K) (hw : cm_wd D K adr w A s.heap H locs) (hA : ∀ q, s.heap.size ≤ q → A q) {ty N : Nat} (hty : ty < 4) (hN : N ≤ 67108864) (hcells : cells + 1 ≤ R.cells) (hslots : slots + N ≤ R.slots) (hdg : decode cc pc = .ok (.newarray (cm_aty ty), 2))
    (kk : ∀ (q : Nat) (H1 : Heap), cm_wd D K (cm_ad adr w.length q) (w ++ [.inl (ty, N)]) A s.heap H1 locs → W p l e R s m args below meth c H1 locs (cells + 1) (slots + N) Q (F0 m (pc + 2) ls (.ref q :: rest))) : W p l e R s m args below meth c H locs cells slots Q (F0 m pc ls (.int (Int32.ofInt (N : Int)) :: rest)) := by
  obtain ⟨hx, hb, hts, hown, hK, hne⟩ := hcx
  obtain ⟨hP, hD, hS, hwf⟩ := hw
  have nN : sm_ni (N : Int) := by unfold sm_ni; omega
  have e0 : newarray.typeOf (cm_aty ty) = cm_fty ty := by
    rcases ty with _ | _ | _ | _ | ty
    · rfl
    · rfl
    · rfl
    · rfl
    · omega
  have ha : ∀ cA : ClassId, vp_cell cA (N, if ty = 3 then .inr (.inl fun _ => 0) else .inl fun _ => 0) = arrV cA N (fun _ => defaultValue (cm_fty ty)) := by
    rcases ty with _ | _ | _ | _ | ty
    · exact po_ai N _ rfl
    · exact po_ai N _ rfl
    · exact po_ai N _ rfl
    · exact po_al N _ rfl
    · omega
  have hby : N * componentBytes (cm_fty ty) ≤ 536870912 := by
    rcases ty with _ | _ | _ | _ | ty
    · show N * 4 ≤ _; omega
    · show N * 1 ≤ _; omega
    · show N * 1 ≤ _; omega
    · show N * 8 ≤ _; omega
    · omega
  refine va_newa hx hb (hts _ (cm_wrd hty)) e0 hK hP hD hS hA ha (sm_nlt nN (by omega)) (by rw [sm_tn nN]; rfl) hby hcells hslots hdg (fun q cA H1 hK1 hP1 hD1 hS1 => ?_)
  have e1 := cm_K hty hK hK1
  subst e1
  have e2 : (Sum.inl (K ty, N, if ty = 3 then .inr (.inl fun _ => 0) else .inl fun _ => 0) : va_E) = cm_e K (cm_ad adr w.length q) (.inl (ty, N)) := rfl
  rw [e2, cm_W_snoc hwf] at hP1 hD1
  exact kk q H1 ⟨hP1, hD1, hS1, cm_wf_snoc hwf trivial⟩
theorem cm_nrow (hcx : cm_cx own cc p s m args meth c D K) (hw : cm_wd D K adr w A s.heap H locs) (hA : ∀ q, s.heap.size ≤ q → A q) {ty N ix : Nat} (hty : ty = 4 ∨ ty = 5 ∨ ty = 6) (hN : N ≤ 1000) (w1 : Cond.classLink (sh_R own) ix (cm_cn ty) ∈ BG) (hcells : cells + 1 ≤ R.cells) (hslots : slots + N ≤ R.slots) (hdg : decode cc pc = .ok (.anewarray ix, 3))
    (kk : ∀ (q : Nat) (H1 : Heap), cm_wd D K (cm_ad adr w.length q) (w ++ [.inr (.inr (ty, List.replicate N none))]) A s.heap H1 locs → W p l e R s m args below meth c H1 locs (cells + 1) (slots + N) Q (F0 m (pc + 3) ls (.ref q :: rest))) : W p l e R s m args below meth c H locs cells slots Q (F0 m pc ls (.int (Int32.ofInt (N : Int)) :: rest)) := by
  obtain ⟨hx, hb, hts, hown, hK, hne⟩ := hcx
  obtain ⟨hP, hD, hS, hwf⟩ := hw
  have nN : sm_ni (N : Int) := by unfold sm_ni; omega
  have hao : va_AO (cm_cn ty) s := by
    rcases hty with rfl | rfl | rfl
    · exact hne.2.1
    · exact hne.2.2.1
    · exact hne.2.2.2
  refine va_newq hx hb hown (hts _ w1) hao hK hP hD hS hA (sm_nlt nN (by omega)) (by rw [sm_tn nN]; rfl) (by omega) hcells hslots hdg (fun q cA H1 hK1 hP1 hD1 hS1 => ?_)
  have e1 := cm_Kq hty hK hK1
  subst e1
  have e3 : (Sum.inl (K ty, N, .inr (.inr (.inr (.inr (fun _ => none))))) : va_E) = cm_e K (cm_ad adr w.length q) (.inr (.inr (ty, List.replicate N none))) := by
    show _ = (Sum.inl (K ty, (List.replicate N (none : Option Nat)).length, .inr (.inr (.inr (.inr fun k => ((List.replicate N none).getD k none).map (cm_ad adr w.length q))))) : va_E)
    rw [List.length_replicate]
    have e4 : (fun k => (((List.replicate N (none : Option Nat)).getD k none).map (cm_ad adr w.length q))) = fun _ => none := by
      funext k
      rw [cm_rep]
      rfl
    rw [e4]
  rw [e3, cm_W_snoc hwf] at hP1 hD1
  exact kk q H1 ⟨hP1, hD1, hS1, cm_wf_snoc hwf (fun k j h => by rw [cm_rep] at h; cases h)⟩
theorem cm_nobj (hcx : cm_cx own cc p s m args meth c D K) (hw : cm_wd D K adr w A s.heap H locs) (hA : ∀ q, s.heap.size ≤ q → A q) {ci ix : Nat} (hci : ci < 14) (w1 : Cond.classLink (sh_R own) ix (sh_R ci) ∈ BG) (w2 : Cond.instantiable (sh_R ci) (sh_kd ci).2.2 ∈ BG) (w3 : Cond.initialized (sh_R ci) ∈ BG) (hcells : cells + 1 ≤ R.cells) (hslots : slots + (sh_kd ci).2.2 ≤ R.slots) (hdg : decode cc pc = .ok (.new ix, 3))
    (kk : ∀ (q : Nat) (H1 : Heap), cm_wd D K (cm_ad adr w.length q) (w ++ [cm_o ci]) A s.heap H1 locs → W p l e R s m args below meth c H1 locs (cells + 1) (slots + (sh_kd ci).2.2) Q (F0 m (pc + 3) ls (.ref q :: rest))) : W p l e R s m args below meth c H locs cells slots Q (F0 m pc ls rest) := by
  obtain ⟨hx, hb, hts, hown, hK, hne⟩ := hcx
  obtain ⟨hP, hD, hS, hwf⟩ := hw
  obtain ⟨o1, o2, o3, o4, o5⟩ := sh_oks hci
  refine va_new (ci := ci) (fs := ((List.range (sh_kd ci).2.2).map fun j => defaultValue (sh_ty ci j))) hx hb hts o3 (sh_ty ci) o4 hown (hts _ w1) (hts _ w2) (hts _ w3) hK hP hD hS hA o1 (fx.dflt _ _) hcells hslots hdg (fun q H1 hP1 hD1 hS1 => ?_)
  have e3 : (Sum.inr (ci, (List.range (sh_kd ci).2.2).map fun j => defaultValue (sh_ty ci j)) : va_E) = cm_e K (cm_ad adr w.length q) (cm_o ci) := by
    show _ = (Sum.inr (ci, cm_f (cm_ad adr w.length q) ci (List.replicate (sh_kd ci).2.2 none)) : va_E)
    congr 2
    unfold cm_f
    rw [List.length_replicate]
    refine List.map_congr_left fun k _ => ?_
    rw [cm_rep]
  rw [e3, cm_W_snoc hwf] at hP1 hD1
  exact kk q H1 ⟨hP1, hD1, hS1, cm_wf_snoc hwf (cm_o_dr ci)⟩
theorem cm_putf (hcx : cm_cx own cc p s m args meth c D K) (hw : cm_wd D K adr w A s.heap H locs) (hin : meth.name = "<init>") {i0 k j ix : Nat} {fl : List (Option Nat)} (h0 : w[i0]? = some (.inr (.inl (own, fl)))) (hl : fl.length = (sh_kd own).2.2) (hk : k < fl.length) (hj : j < w.length) (h14 : own < 14) (w1 : Cond.fieldLink (sh_R own) ix (sh_T own k).1 (sh_T own k).2.1 (sh_T own k).2.2.1 ∈ BG) (hfin : (sh_T own k).2.2.2 = true) (hdecl : (sh_T own k).1 = sh_R own) {ty : FieldType} (hty : parseFieldDescriptor (sh_T own k).2.2.1 = some ty) (hfit : fits ty (.ref 0) = true) (hdg : decode cc pc = .ok (.putfield ix, 3))
    (kk : ∀ (H1 : Heap) (locs1 : List Loc), cm_wd D K adr (w.set i0 (.inr (.inl (own, fl.set k (some j))))) A s.heap H1 locs1 → W p l e R s m args below meth c H1 locs1 cells slots Q (F0 m (pc + 3) ls rest)) : W p l e R s m args below meth c H locs cells slots Q (F0 m pc ls (.ref (adr j) :: .ref (adr i0) :: rest)) := by
  obtain ⟨hx, hb, hts, hown, hK, hne⟩ := hcx
  obtain ⟨hP, hD, hS, hwf⟩ := hw
  obtain ⟨o1, o2, o3, o4, o5⟩ := sh_oks h14
  have hi0 : i0 < w.length := (List.getElem?_eq_some_iff.mp h0).1
  have hfit2 : fits ty (.ref (adr j)) = true := by
    cases ty <;> first | exact hfit | cases hfit
  have hnar : narrow ty (.ref (adr j)) = .ref (adr j) := by
    cases ty <;> rfl
  refine va_putF hx hb hts o3 (sh_ty own) o4 o5 hown hK hP hD hS i0 (cm_W_at h0) o1 k (by rw [← hl]; exact hk) (hts _ w1) (fun _ h => h) hfin hin hdecl hty hnar hfit2 (by unfold cm_f; rw [List.length_map, List.length_range]; exact hk) hdg (fun H1 locs1 hP1 hD1 hS1 => ?_)
  rw [cm_f_set hk] at hP1 hD1
  have e1 : (cm_W K adr w).set i0 (adr i0, Sum.inr (own, cm_f adr own (fl.set k (some j)))) = cm_W K adr (w.set i0 (.inr (.inl (own, fl.set k (some j))))) := cm_W_set (d := .inr (.inl (own, fl.set k (some j)))) hi0
  rw [e1] at hP1 hD1
  refine kk H1 locs1 ⟨hP1, hD1, hS1, cm_wf_set hwf (fun k' j' h' => ?_)⟩
  rcases cm_getD_set h' with rfl | h2
  · exact hj
  · exact hwf _ (List.mem_of_getElem? h0) k' j' h2
theorem cm_getf (hcx : cm_cx own cc p s m args meth c D K) (hw : cm_wd D K adr w A s.heap H locs) {i0 k j ix : Nat} {fl : List (Option Nat)} (h0 : w[i0]? = some (.inr (.inl (own, fl)))) (hl : fl.length = (sh_kd own).2.2) (hk : k < fl.length) (hj : fl.getD k none = some j) (h14 : own < 14) (w1 : Cond.fieldLink (sh_R own) ix (sh_T own k).1 (sh_T own k).2.1 (sh_T own k).2.2.1 ∈ BG) (hdg : decode cc pc = .ok (.getfield ix, 3))
    (kk : W p l e R s m args below meth c H locs cells slots Q (F0 m (pc + 3) ls (.ref (adr j) :: rest))) : W p l e R s m args below meth c H locs cells slots Q (F0 m pc ls (.ref (adr i0) :: rest)) := by
  obtain ⟨hx, hb, hts, hown, hK, hne⟩ := hcx
  obtain ⟨hP, hD, hS, hwf⟩ := hw
  obtain ⟨o1, o2, o3, o4, o5⟩ := sh_oks h14
  refine va_get hx hb hts o3 hown hK hP i0 (cm_W_at h0) o1 k (by rw [← hl]; exact hk) (hts _ w1) (fun _ h => h) (v := .ref (adr j)) ?_ hdg kk
  unfold cm_f
  rw [List.getElem?_map, List.getElem?_range hk]
  show some (match fl.getD k none with | some j => Value.ref (adr j) | none => defaultValue (sh_ty own k)) = _
  rw [hj]
theorem cm_ast (hcx : cm_cx own cc p s m args meth c D K) (hw : cm_wd D K adr w A s.heap H locs) {ra v ty ci pl : Nat} {el fl : List (Option Nat)} (h0 : w[ra]? = some (.inr (.inr (ty, el)))) (hv : w[v]? = some (.inr (.inl (ci, fl)))) (hpl : pl < el.length) (hle : el.length ≤ 1000) (hty : ty = 4 ∧ ci = 3 ∨ ty = 5 ∧ ci = 5 ∨ ty = 6 ∧ ci = 2) (hdg : decode cc pc = .ok (.aastore, 1))
    (kk : ∀ (H1 : Heap) (locs1 : List Loc), cm_wd D K adr (w.set ra (.inr (.inr (ty, el.set pl (some v))))) A s.heap H1 locs1 → W p l e R s m args below meth c H1 locs1 cells slots Q (F0 m (pc + 1) ls rest)) : W p l e R s m args below meth c H locs cells slots Q (F0 m pc ls (.ref (adr v) :: .int (Int32.ofInt (pl : Int)) :: .ref (adr ra) :: rest)) := by
  obtain ⟨hx, hb, hts, hown, hK, hne⟩ := hcx
  obtain ⟨hP, hD, hS, hwf⟩ := hw
  have np : sm_ni (pl : Int) := by unfold sm_ni; omega
  have hra : ra < w.length := (List.getElem?_eq_some_iff.mp h0).1
  have hci : ci < 14 := by omega
  obtain ⟨o1, o2, o3, o4, o5⟩ := sh_oks hci
  have htt : (sm_tys K)[ty]? = some (K ty, .object (sh_R ci)) := by
    rcases hty with ⟨rfl, rfl⟩ | ⟨rfl, rfl⟩ | ⟨rfl, rfl⟩
    · rfl
    · rfl
    · rfl
  refine va_astq (r := (sh_R ci, sh_T ci, (sh_kd ci).2.2)) hx hb hK hP hD hS ra ty v ci (cm_W_at h0) htt (cm_W_at hv) o1 (i := Int32.ofInt (pl : Int)) (sm_in np (by omega) (by omega)) hdg (fun H1 locs1 hP1 hD1 hS1 => ?_)
  rw [sm_tn np, Int.toNat_natCast] at hP1 hD1
  have e2 : va_up (fun k => (el.getD k none).map adr) pl (some (adr v)) = fun k => ((el.set pl (some v)).getD k none).map adr := by
    funext k
    unfold va_up
    by_cases hk : k = pl
    · subst hk
      rw [if_pos rfl, List.getD_eq_getElem?_getD, List.getElem?_set_self hpl]
      rfl
    · rw [if_neg hk]
      show (el.getD k none).map adr = ((el.set pl (some v)).getD k none).map adr
      rw [List.getD_eq_getElem?_getD, List.getD_eq_getElem?_getD, List.getElem?_set_ne (fun q => hk q.symm)]
  rw [e2] at hP1 hD1
  have e3 : (adr ra, (Sum.inl (K ty, el.length, .inr (.inr (.inr (.inr fun k => ((el.set pl (some v)).getD k none).map adr)))) : va_E)) = (adr ra, cm_e K adr (.inr (.inr (ty, el.set pl (some v))))) := by
    show _ = (adr ra, (Sum.inl (K ty, (el.set pl (some v)).length, .inr (.inr (.inr (.inr fun k => ((el.set pl (some v)).getD k none).map adr)))) : va_E))
    rw [List.length_set]
  rw [e3, cm_W_set hra] at hP1 hD1
  refine kk H1 locs1 ⟨hP1, hD1, hS1, cm_wf_set hwf (fun k' j' h' => ?_)⟩
  rcases cm_getD_set h' with rfl | h2
  · exact (List.getElem?_eq_some_iff.mp hv).1
  · exact hwf _ (List.mem_of_getElem? h0) k' j' h2
/-- pushing a number: 0 iconst, 1 bipush, 2 sipush, 3 ldc, 4 ldc_w -/
def cm_pl (k : Nat) : Nat := if k = 0 then 1 else if k = 1 then 2 else if k = 2 then 3 else if k = 3 then 2 else 3
def cm_pd (cc : ByteArray) (own pc k n ix : Nat) : Bool :=
  if k = 0 then decide (decode cc pc = .ok (.iconst (n : Int), 1)) && true
  else if k = 1 then decide (decode cc pc = .ok (.bipush (n : Int), 2)) && decide ((Int8.ofInt (n : Int)).toInt32 = Int32.ofInt (n : Int))
  else if k = 2 then decide (decode cc pc = .ok (.sipush (n : Int), 3)) && decide ((Int16.ofInt (n : Int)).toInt32 = Int32.ofInt (n : Int))
  else if k = 3 then decide (decode cc pc = .ok (.ldc ix, 2)) && cm_kw own ix n
  else decide (decode cc pc = .ok (.ldc_w ix, 3)) && cm_kw own ix n
theorem cm_push (hcx : cm_cx own cc p s m args meth c D K) {k n ix : Nat} (h : cm_pd cc own pc k n ix = true) (kk : W p l e R s m args below meth c H locs cells slots Q (F0 m (pc + cm_pl k) ls (.int (Int32.ofInt (n : Int)) :: rest))) : W p l e R s m args below meth c H locs cells slots Q (F0 m pc ls rest) := by
  obtain ⟨hx, hb, hts, hown, hK, hne⟩ := hcx
  unfold cm_pd at h
  unfold cm_pl at kk
  split at h
  · rename_i q
    rw [if_pos q] at kk
    rw [Bool.and_true] at h
    exact lv_iconst hx hb (of_decide_eq_true h) rfl kk
  · rename_i q0
    rw [if_neg q0] at kk
    split at h
    · rename_i q
      rw [if_pos q] at kk
      simp only [Bool.and_eq_true, decide_eq_true_eq] at h
      refine lv_bipush hx hb h.1 ?_ kk
      exact h.2
    · rename_i q1
      rw [if_neg q1] at kk
      split at h
      · rename_i q
        rw [if_pos q] at kk
        simp only [Bool.and_eq_true, decide_eq_true_eq] at h
        refine lv_sipush hx hb h.1 ?_ kk
        exact h.2
      · rename_i q2
        rw [if_neg q2] at kk
        split at h
        · rename_i q
          rw [if_pos q] at kk
          simp only [Bool.and_eq_true, decide_eq_true_eq] at h
          exact lv_ldc hx hb hown (hts _ (cm_kw_in h.2)) h.1 kk
        · rename_i q3
          rw [if_neg q3] at kk
          simp only [Bool.and_eq_true, decide_eq_true_eq] at h
          exact lv_ldcw hx hb hown (hts _ (cm_kw_in h.2)) h.1 kk
end CM
