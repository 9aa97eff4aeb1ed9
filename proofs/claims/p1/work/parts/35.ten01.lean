set_option maxHeartbeats 4000000 in
set_option maxRecDepth 100000 in
theorem gx28_L_witness (l : Launch) (hlt : l.stackTraces = false) (dC : Nat → ClassId) (dI : Nat → Nat → Nat) (sz : Nat) (p0 : Int32) (x oA : Nat) (xg : List Value) (h_x : fx xg 17 [(16, .int 0)]) (oAC : ClassId) (oAf : Nat → Int64) (h_oA : fa oAf []) (zn : ¬ p0 < 0) (zp : 0 ≤ p0) : Met l yL_witness (Cond.codeWith yL_witness cL_witness 4 (some .int) [(0, 9, 12, 32)] :: BG) ({ frames := 8, cells := 1, slots := 6, locals := 151 }) (va_Pc [.ref x, .int p0, .ref oA] (fun U => U.heap.size = sz ∧ va_P (dC, dI) CL [(x, .inr (12, xg)), (oA, .inl (oAC, (1, .inr (.inl oAf))))] U.heap ∧ va_K (dC, dI) CL [(oAC, .long)] U ∧ va_D (fun _ => True) [(x, .inr (12, xg)), (oA, .inl (oAC, (1, .inr (.inl oAf))))] ∧ th (va_A [(x, .inr (12, xg)), (oA, .inl (oAC, (1, .inr (.inl oAf))))] sz) U U.heap)) (va_Qi (fun (r : Int32) (_ : Unit) => r = 1) (fun _ t => ∃ (xy : List Value) (oAy : Nat → Int64), fx xy 17 [(16, .int 0)] ∧ fa oAy [] ∧ va_P (dC, dI) CL [(x, .inr (12, xy)), (oA, .inl (oAC, (1, .inr (.inl oAy))))] t.heap ∧ va_K (dC, dI) CL [(oAC, .long)] t ∧ va_D (va_A [(x, .inr (12, xg)), (oA, .inl (oAC, (1, .inr (.inl oAf))))] sz) [(x, .inr (12, xy)), (oA, .inl (oAC, (1, .inr (.inl oAy))))]) (va_A [(x, .inr (12, xg)), (oA, .inl (oAC, (1, .inr (.inl oAf))))] sz)) 1 6 (va_A [(x, .inr (12, xg)), (oA, .inl (oAC, (1, .inr (.inl oAf))))] sz) := by
  refine va_MetW (hh := [(0, 9, 12, 32)]) (cc := cL_witness) (maxL := 4) (ret := (some .int)) (by decide) rfl ?_
  intro p e s m args below meth c s₁ B hml hv
  obtain ⟨rfl, hsz, hP, hK, hD0, hth⟩ := hv
  have hx := B.exec
  have hb := B.bytes
  have hr := B.returns
  have hts : ∀ w ∈ BG, w.before _ s = true := fun w h => atoms_spec (ws := Cond.codeWith yL_witness cL_witness 4 (some .int) [(0, 9, 12, 32)] :: BG) B.pre w (List.mem_cons_of_mem _ h)
  have hown : s.vm.findClass RL = some m.cls := findClass_of_methodNamed B.named
  have hlocks := B.notSynchronized
  subst hsz
  have hD := hD0.self (sz := s.heap.size)
  generalize hAe : va_A [(x, .inr (12, xg)), (oA, .inl (oAC, (1, .inr (.inl oAf))))] s.heap.size = A at hD hth ⊢
  have hA : ∀ q : Nat, s.heap.size ≤ q → A q := fun q h => by rw [← hAe]; exact Or.inr h
  have hS : va_S A s.heap s.heap [] := va_S.rf
  have hl := lv_entry ([.ref x, .int p0, .ref oA]) (n := 4) (Nat.le_of_ble_eq_true rfl)
  rw [lg_entry_eq]
  generalize (lg_sl ([.ref x, .int p0, .ref oA]) ++ List.replicate (4 - (lg_sl ([.ref x, .int p0, .ref oA])).length) Slot.unset).toArray = ls at hl ⊢
  have hl : lv_has ls 4 [(0, .ref x), (1, .int p0), (2, .ref oA)] := hl
  obtain ⟨H, eH⟩ : ∃ z, z = s.heap := ⟨_, rfl⟩
  have hP : va_P (dC, dI) CL [(x, .inr (12, xg)), (oA, .inl (oAC, (1, .inr (.inl oAf))))] H := by rw [eH]; exact hP
  have hS : va_S A s.heap H [] := by rw [eH]; exact hS
  rw [← eH]
  have hT : c.exceptionTable.toList = tableOf [(0, 9, 12, 32)] := vx_table (x := yL_witness) B (atoms_spec (ws := Cond.codeWith yL_witness cL_witness 4 (some .int) [(0, 9, 12, 32)] :: BG) B.pre _ List.mem_cons_self)
  refine lv_aload_n hx hb dL_witness_0 rfl (lv_at hl 2 rfl) ?_
  refine lv_iconst (v := 0) hx hb dL_witness_1 (by decide +kernel) ?_
  refine lv_aload_n hx hb dL_witness_2 rfl (lv_at hl 0 rfl) ?_
  refine lv_iload_n hx hb dL_witness_3 rfl (lv_at hl 1 rfl) ?_
  have hFc := va_free (wc := [(x, .inr (12, xg)), (oA, .inl (oAC, (1, .inr (.inl oAf))))]) hD hS hA [0, 1] rfl
  refine vq_thr (vx_runV (As := [.int p0]) (rest := [.int 0, .ref oA]) ⟨hx, hb, hml, hown, hts⟩ (gx29_X12_witness l hlt dC dI _ p0 x oA xg h_x oAC oAf h_oA zn zp) (cwV 1 hts (gi_V wd_1930 wd_1931 wd_1932 wd_327 wd_1933) rfl rfl rfl (by decide +kernel) ⟨(Nat.le_of_ble_eq_true rfl), (Nat.le_of_ble_eq_true rfl)⟩) ⟨fun a U g mk q => by obtain ⟨q0, q1, qP, qK, qD, qT⟩ := q; exact ⟨q0, q1, qP, va_K.moved (u := U) (U := U.calling g mk a) (Vm.Alike.refl U.vm) qK, qD, th.moved (u := U) (U := U.calling g mk a) (Vm.Alike.refl U.vm) qT⟩, va_recv hK hP (ci := 12) (q0 := 0) rfl rfl, fun U hU hW => ⟨rfl, by rw [hU], by rw [hU]; exact hP, va_K.moved hW.alike hK, hD.weaken (fun _ _ _ _ => trivial), by rw [hU]; exact ((hth.kept hS.2.1).narrow hFc).moved hW.alike⟩⟩ rfl rfl hl.1 rfl (lv_room (Nat.le_of_ble_eq_true rfl)) dL_witness_4 ⟨(Nat.le_of_ble_eq_true rfl), (Nat.le_of_ble_eq_true rfl)⟩) (fun _ _ _ h => h) hS hFc (fun q _ h => hFc q h) (fun E ce q9 u t H1 locs ht hvm hp hB hz hk hS hce hcv hcl => ?_)
  obtain ⟨hE, hB⟩ := hB
  subst hE
  obtain ⟨fs_1, f_2, h_x, h_oA, hP1, hK1, hD1⟩ := hB
  rw [ht] at hP1
  have hD := hD1.weaken (fun k q _ h => hFc q.1 h)
  have hP := hP1
  generalize H1 = H at hP hS hce ⊢
  have hP : va_P (dC, dI) CL [(x, .inr (12, fs_1)), (oA, .inl (oAC, (1, .inr (.inl f_2))))] H := hP
  have hD : va_D A [(x, .inr (12, fs_1)), (oA, .inl (oAC, (1, .inr (.inl f_2))))] := hD
  refine vx_catch (own := RL) (name := "java/lang/IndexOutOfBoundsException") hown [] { startPc := 0, endPc := 9, handlerPc := 12, catchType := 32 } [] (by rw [hT]; rfl) (fun _ h => nomatch h) (by decide) (by decide) (hts (.classLink RL 32 "java/lang/IndexOutOfBoundsException") wd_1804) (hth.cast (by decide)) hce hcv hcl ?_
  refine W.widen (k := 1) (n := 6) (Nat.le_of_ble_eq_true rfl) (Nat.le_of_ble_eq_true rfl) ?_
  refine lv_astore_n (lv' := [(3, .ref q9), (0, .ref x), (1, .int p0), (2, .ref oA)]) hx hb dL_witness_12 rfl hl (by decide) rfl (fun ls hl => ?_)
  refine lv_iconst (v := 1) hx hb dL_witness_13 (by decide +kernel) ?_
  refine W.widen (k := 1) (n := 6) (Nat.le_of_ble_eq_true rfl) (Nat.le_of_ble_eq_true rfl) ?_
  exact W.iret (v := 1) hx hb hr (fun t ht hW => ⟨⟨1, (), rfl, rfl, fs_1, f_2, h_x, h_oA, by rw [ht]; exact hP, va_K.moved hW.alike hK, hD⟩, hS.F ht⟩) hS.2.2 dL_witness_14
set_option maxHeartbeats 4000000 in
set_option maxRecDepth 100000 in
theorem gx30_X13_witness (l : Launch) (hlt : l.stackTraces = false) (dC : Nat → ClassId) (dI : Nat → Nat → Nat) (sz : Nat) (p0 : Int32) (m0 : Nat) (m0g : List Value) (h_m0 : fx m0g 225 [(0, .int 0), (2, .int 0), (3, .int 0), (9, .int 0), (10, .int 0), (11, .int 0), (12, .int 0), (27, .int 0), (79, .int 0), (83, .int 0), (95, .int 0)]) (zn : ¬ p0 < 0) (zp : 0 ≤ p0) : Met l yX13_witness (Cond.code yX13_witness cX13_witness 2 (some .int) :: BG) ({ frames := 1, cells := 0, slots := 0, locals := 12 }) (va_Pc [.ref m0, .int p0] (fun U => U.heap.size = sz ∧ va_P (dC, dI) CL [(m0, .inr (13, m0g))] U.heap ∧ va_K (dC, dI) CL [] U ∧ va_D (fun _ => True) [(m0, .inr (13, m0g))] ∧ th (va_A [(m0, .inr (13, m0g))] sz) U U.heap)) (va_Qi (fun (r : Int32) (_ : Unit) => r = 0) (fun _ t => ∃ (m0y : List Value), fx m0y 225 [(0, .int 1), (2, .int 0), (3, .int 0), (9, .int 0), (10, .int 0), (11, .int 0), (12, .int 0), (27, .int 0), (79, .int 0), (83, .int 0), (95, .int 0)] ∧ va_P (dC, dI) CL [(m0, .inr (13, m0y))] t.heap ∧ va_K (dC, dI) CL [] t ∧ va_D (va_A [(m0, .inr (13, m0g))] sz) [(m0, .inr (13, m0y))]) (va_A [(m0, .inr (13, m0g))] sz)) 0 0 (va_A [(m0, .inr (13, m0g))] sz) := by
  refine Met.ofW (cc := cX13_witness) (maxL := 2) (ret := (some .int)) (by decide) rfl ?_
  intro p e s m args below meth c s₁ B hml hv
  obtain ⟨rfl, hsz, hP, hK, hD0, hth⟩ := hv
  have hx := B.exec
  have hb := B.bytes
  have hr := B.returns
  have hts : ∀ w ∈ BG, w.before _ s = true := fun w h => atoms_spec (ws := Cond.code yX13_witness cX13_witness 2 (some .int) :: BG) B.pre w (List.mem_cons_of_mem _ h)
  have hown : s.vm.findClass RX13 = some m.cls := findClass_of_methodNamed B.named
  have hlocks := B.notSynchronized
  subst hsz
  have hD := hD0.self (sz := s.heap.size)
  generalize hAe : va_A [(m0, .inr (13, m0g))] s.heap.size = A at hD hth ⊢
  have hA : ∀ q : Nat, s.heap.size ≤ q → A q := fun q h => by rw [← hAe]; exact Or.inr h
  have hS : va_S A s.heap s.heap [] := va_S.rf
  have hl := lv_entry ([.ref m0, .int p0]) (n := 2) (Nat.le_of_ble_eq_true rfl)
  rw [lg_entry_eq]
  generalize (lg_sl ([.ref m0, .int p0]) ++ List.replicate (2 - (lg_sl ([.ref m0, .int p0])).length) Slot.unset).toArray = ls at hl ⊢
  have hl : lv_has ls 2 [(0, .ref m0), (1, .int p0)] := hl
  obtain ⟨H, eH⟩ : ∃ z, z = s.heap := ⟨_, rfl⟩
  have hP : va_P (dC, dI) CL [(m0, .inr (13, m0g))] H := by rw [eH]; exact hP
  have hS : va_S A s.heap H [] := by rw [eH]; exact hS
  rw [← eH]
  refine lv_aload_n hx hb dX13_witness_0 rfl (lv_at hl 0 rfl) ?_
  refine lv_iload_n hx hb dX13_witness_1 rfl (lv_at hl 1 rfl) ?_
  refine lv_if_lt (tgt := 13) hx hb dX13_witness_2 (by decide) (fun c9 => ?_) (fun c9 => ?_)
  · first | exact absurd c9 zn | exact absurd zn c9
  refine lv_iload_n hx hb dX13_witness_5 rfl (lv_at hl 1 rfl) ?_
  refine lv_aload_n hx hb dX13_witness_6 rfl (lv_at hl 0 rfl) ?_
  refine va_get (D := (dC, dI)) (ci := 13) (v := .int 0) (C := RX13) (T := TX13) (N := 225) hx hb hts inX13 hown hK hP 0 rfl rfl 95 (by decide) (hts (.fieldLink RX13 921 "ChipFlowModel" "witnessCount" "I") wd_3126) (fun _ h9 => h9) (h_m0.get 10 rfl) dX13_witness_7 ?_
  refine lv_icmp_lt (tgt := 17) hx hb dX13_witness_10 (by decide) (fun c9 => ?_) (fun c9 => ?_)
  · first | exact absurd c9 zn | exact absurd zn c9
  refine lv_iconst (v := 1) hx hb dX13_witness_13 (by decide +kernel) ?_
  refine lv_goto (tgt := 18) hx hb dX13_witness_14 (by decide) ?_
  refine va_put (D := (dC, dI)) (ci := 13) (v := .int 1) (ty := tyX13 0) (C := RX13) (T := TX13) (N := 225) hx hb hts inX13 tyX13 tyX13_ok nmX13 hown hK hP hD hS 0 rfl rfl 0 (by decide) (hts (.fieldLink RX13 1 "ChipFlowModel" "code" "I") wd_3032) (fun _ h9 => h9) rfl (by decide +kernel) rfl rfl (by rw [h_m0.1]; decide) dX13_witness_18 (fun H locs hP hD hS => ?_)
  obtain ⟨fs_1, e9⟩ : ∃ z, z = m0g.set 0 (.int 1) := ⟨_, rfl⟩
  have h_m0 : fx fs_1 225 [(0, .int 1), (2, .int 0), (3, .int 0), (9, .int 0), (10, .int 0), (11, .int 0), (12, .int 0), (27, .int 0), (79, .int 0), (83, .int 0), (95, .int 0)] := by rw [e9]; exact (h_m0.put (F' := [(0, .int 1), (2, .int 0), (3, .int 0), (9, .int 0), (10, .int 0), (11, .int 0), (12, .int 0), (27, .int 0), (79, .int 0), (83, .int 0), (95, .int 0)]) (by decide) _ rfl).sub [0, 1, 2, 3, 4, 5, 6, 7, 8, 9, 10] rfl
  have hP : va_P (dC, dI) CL [(m0, .inr (13, fs_1))] H := by rw [e9]; exact hP
  have hD : va_D A [(m0, .inr (13, fs_1))] := by rw [e9]; exact hD
  clear e9
  refine lv_aload_n hx hb dX13_witness_21 rfl (lv_at hl 0 rfl) ?_
  refine va_get (D := (dC, dI)) (ci := 13) (v := .int 1) (C := RX13) (T := TX13) (N := 225) hx hb hts inX13 hown hK hP 0 rfl rfl 0 (by decide) (hts (.fieldLink RX13 1 "ChipFlowModel" "code" "I") wd_3032) (fun _ h9 => h9) (h_m0.get 0 rfl) dX13_witness_22 ?_
  refine lv_if_le (tgt := 32) hx hb dX13_witness_25 (by decide) (fun c9 => ?_) (fun c9 => ?_)
  · first | exact absurd c9 (by decide +kernel) | exact absurd (by decide +kernel) c9
  refine lv_iconst (v := 0) hx hb dX13_witness_28 (by decide +kernel) ?_
  refine lv_goto (tgt := 38) hx hb dX13_witness_29 (by decide) ?_
  exact W.iret (v := 0) hx hb hr (fun t ht hW => ⟨⟨0, (), rfl, rfl, fs_1, h_m0, by rw [ht]; exact hP, va_K.moved hW.alike hK, hD⟩, hS.F ht⟩) hS.2.2 dX13_witness_38
set_option maxHeartbeats 4000000 in
set_option maxRecDepth 100000 in
theorem gx32_X12_map (l : Launch) (hlt : l.stackTraces = false) (dC : Nat → ClassId) (dI : Nat → Nat → Nat) (sz : Nat) (p0 : Int32) (p1 : Int32) (x deA de0 de1 de2 de3 de4 de5 : Nat) (xg : List Value) (h_x : fx xg 17 [(7, .ref deA)]) (deAC : ClassId) (deAF : Nat → Option Nat) (de0g : List Value) (h_de0 : fx de0g 16 [(0, .int 0)]) (de1g : List Value) (h_de1 : fx de1g 16 [(0, .int 0)]) (de2g : List Value) (h_de2 : fx de2g 16 [(0, .int 0)]) (de3g : List Value) (h_de3 : fx de3g 16 [(0, .int 0)]) (de4g : List Value) (h_de4 : fx de4g 16 [(0, .int 0)]) (de5g : List Value) (h_de5 : fx de5g 16 [(0, .int 0)]) (h_deA0 : deAF 0 = some de0) (h_deA1 : deAF 1 = some de1) (h_deA2 : deAF 2 = some de2) (h_deA3 : deAF 3 = some de3) (h_deA4 : deAF 4 = some de4) (h_deA5 : deAF 5 = some de5) : vx_Met l yX12_map (Cond.code yX12_map cX12_map 7 (some .int) :: BG) ({ frames := 8, cells := 1, slots := 6, locals := 151 }) (va_Pc [.ref x, .int p0, .int p1] (fun U => U.heap.size = sz ∧ va_P (dC, dI) CL [(x, .inr (12, xg)), (deA, .inl (deAC, (6, .inr (.inr (.inr (.inr deAF)))))), (de0, .inr (3, de0g)), (de1, .inr (3, de1g)), (de2, .inr (3, de2g)), (de3, .inr (3, de3g)), (de4, .inr (3, de4g)), (de5, .inr (3, de5g))] U.heap ∧ va_K (dC, dI) CL [(deAC, .object "ChipFlow$Design")] U ∧ va_D (fun _ => True) [(x, .inr (12, xg)), (deA, .inl (deAC, (6, .inr (.inr (.inr (.inr deAF)))))), (de0, .inr (3, de0g)), (de1, .inr (3, de1g)), (de2, .inr (3, de2g)), (de3, .inr (3, de3g)), (de4, .inr (3, de4g)), (de5, .inr (3, de5g))] ∧ th (va_A [(x, .inr (12, xg)), (deA, .inl (deAC, (6, .inr (.inr (.inr (.inr deAF)))))), (de0, .inr (3, de0g)), (de1, .inr (3, de1g)), (de2, .inr (3, de2g)), (de3, .inr (3, de3g)), (de4, .inr (3, de4g)), (de5, .inr (3, de5g))] sz) U U.heap)) (fun _ _ _ _ => False) (vx_X (fun _ : Unit => True) (fun E _ t => E = "java/lang/IndexOutOfBoundsException" ∧ va_P (dC, dI) CL [] t.heap ∧ va_K (dC, dI) CL [] t ∧ va_D (va_A [(x, .inr (12, xg)), (deA, .inl (deAC, (6, .inr (.inr (.inr (.inr deAF)))))), (de0, .inr (3, de0g)), (de1, .inr (3, de1g)), (de2, .inr (3, de2g)), (de3, .inr (3, de3g)), (de4, .inr (3, de4g)), (de5, .inr (3, de5g))] sz) []) (va_A [(x, .inr (12, xg)), (deA, .inl (deAC, (6, .inr (.inr (.inr (.inr deAF)))))), (de0, .inr (3, de0g)), (de1, .inr (3, de1g)), (de2, .inr (3, de2g)), (de3, .inr (3, de3g)), (de4, .inr (3, de4g)), (de5, .inr (3, de5g))] sz)) 1 6 (va_A [(x, .inr (12, xg)), (deA, .inl (deAC, (6, .inr (.inr (.inr (.inr deAF)))))), (de0, .inr (3, de0g)), (de1, .inr (3, de1g)), (de2, .inr (3, de2g)), (de3, .inr (3, de3g)), (de4, .inr (3, de4g)), (de5, .inr (3, de5g))] sz) := by
  refine vx_ofW (cc := cX12_map) (maxL := 7) (ret := (some .int)) (by decide) rfl ?_
  intro p e s m args below meth c s₁ B hml ht0 hv
  obtain ⟨rfl, hsz, hP, hK, hD0, hth⟩ := hv
  have hx := B.exec
  have hb := B.bytes
  have hr := B.returns
  have hts : ∀ w ∈ BG, w.before _ s = true := fun w h => atoms_spec (ws := Cond.code yX12_map cX12_map 7 (some .int) :: BG) B.pre w (List.mem_cons_of_mem _ h)
  have hown : s.vm.findClass RX12 = some m.cls := findClass_of_methodNamed B.named
  have hlocks := B.notSynchronized
  subst hsz
  have hD := hD0.self (sz := s.heap.size)
  generalize hAe : va_A [(x, .inr (12, xg)), (deA, .inl (deAC, (6, .inr (.inr (.inr (.inr deAF)))))), (de0, .inr (3, de0g)), (de1, .inr (3, de1g)), (de2, .inr (3, de2g)), (de3, .inr (3, de3g)), (de4, .inr (3, de4g)), (de5, .inr (3, de5g))] s.heap.size = A at hD hth ⊢
  have hA : ∀ q : Nat, s.heap.size ≤ q → A q := fun q h => by rw [← hAe]; exact Or.inr h
  have hS : va_S A s.heap s.heap [] := va_S.rf
  have hl := lv_entry ([.ref x, .int p0, .int p1]) (n := 7) (Nat.le_of_ble_eq_true rfl)
  rw [lg_entry_eq]
  generalize (lg_sl ([.ref x, .int p0, .int p1]) ++ List.replicate (7 - (lg_sl ([.ref x, .int p0, .int p1])).length) Slot.unset).toArray = ls at hl ⊢
  have hl : lv_has ls 7 [(0, .ref x), (1, .int p0), (2, .int p1)] := hl
  obtain ⟨H, eH⟩ : ∃ z, z = s.heap := ⟨_, rfl⟩
  have hP : va_P (dC, dI) CL [(x, .inr (12, xg)), (deA, .inl (deAC, (6, .inr (.inr (.inr (.inr deAF)))))), (de0, .inr (3, de0g)), (de1, .inr (3, de1g)), (de2, .inr (3, de2g)), (de3, .inr (3, de3g)), (de4, .inr (3, de4g)), (de5, .inr (3, de5g))] H := by rw [eH]; exact hP
  have hS : va_S A s.heap H [] := by rw [eH]; exact hS
  rw [← eH]
  refine lv_aload_n hx hb dX12_map_0 rfl (lv_at hl 0 rfl) ?_
  refine lv_iload_n hx hb dX12_map_1 rfl (lv_at hl 1 rfl) ?_
  have hFc := va_free (wc := [(x, .inr (12, xg)), (deA, .inl (deAC, (6, .inr (.inr (.inr (.inr deAF)))))), (de0, .inr (3, de0g)), (de1, .inr (3, de1g)), (de2, .inr (3, de2g)), (de3, .inr (3, de3g)), (de4, .inr (3, de4g)), (de5, .inr (3, de5g))]) hD hS hA [0, 1, 2, 3, 4, 5, 6, 7] rfl
  refine vq_thr (vx_runV (As := [.int p0]) (rest := []) ⟨hx, hb, hml, hown, hts⟩ (ct_X12_designAt l hlt dC dI _ p0 x xg deA deAC deAF de0 de1 de2 de3 de4 de5 de0g de1g de2g de3g de4g de5g (h_de0.sub [0] rfl) h_deA0 (h_de1.sub [0] rfl) h_deA1 (h_de2.sub [0] rfl) h_deA2 (h_de3.sub [0] rfl) h_deA3 (h_de4.sub [0] rfl) h_deA4 (h_de5.sub [0] rfl) h_deA5 (h_x.sub [0] rfl)) (cwV 1 hts (gi_V wd_1809 wd_1811 wd_62 wd_327 wd_1812) rfl rfl rfl (by decide +kernel) ⟨(Nat.le_of_ble_eq_true rfl), (Nat.le_of_ble_eq_true rfl)⟩) ⟨fun a U g mk q => by obtain ⟨q0, q1, qP, qK, qD, qT⟩ := q; exact ⟨q0, q1, qP, va_K.moved (u := U) (U := U.calling g mk a) (Vm.Alike.refl U.vm) qK, qD, th.moved (u := U) (U := U.calling g mk a) (Vm.Alike.refl U.vm) qT⟩, va_recv hK hP (ci := 12) (q0 := 0) rfl rfl, fun U hU hW => ⟨rfl, by rw [hU], by rw [hU]; exact hP, va_K.moved hW.alike hK, hD.weaken (fun _ _ _ _ => trivial), by rw [hU]; exact ((hth.kept hS.2.1).narrow hFc).moved hW.alike⟩⟩ rfl rfl hl.1 rfl (lv_room (Nat.le_of_ble_eq_true rfl)) dX12_map_2 ⟨(Nat.le_of_ble_eq_true rfl), (Nat.le_of_ble_eq_true rfl)⟩) (fun _ _ _ h => h) hS hFc (fun q _ h => hFc q h) (fun E ce q9 u t H1 locs ht hvm hp hB hz hk hS hce hcv hcl => ?_)
  subst hB
  have hD : va_D A [] := po_nilD
  have hP : va_P (dC, dI) CL [] H1 := po_nilP
  have hK := hK.sub (tys' := []) [] rfl
  generalize H1 = H at hP hS hce ⊢
  have hP : va_P (dC, dI) CL [] H := hP
  have hD : va_D A [] := hD
  exact vx_out (fun x h9 => (ht0 x h9).elim) hlocks hce hcv hcl (fun t ht hvm9 => ⟨(), trivial, ⟨rfl, by rw [ht]; exact hP, va_K.moved hvm9 hK, hD⟩, hS.F ht⟩) hS.2.2 (Nat.le_of_ble_eq_true rfl) (Nat.le_of_ble_eq_true rfl)
set_option maxHeartbeats 4000000 in
set_option maxRecDepth 100000 in
theorem gx31_L_map (l : Launch) (hlt : l.stackTraces = false) (dC : Nat → ClassId) (dI : Nat → Nat → Nat) (sz : Nat) (p0 : Int32) (p1 : Int32) (x deA de0 de1 de2 de3 de4 de5 oA : Nat) (xg : List Value) (h_x : fx xg 17 [(7, .ref deA)]) (deAC : ClassId) (deAF : Nat → Option Nat) (de0g : List Value) (h_de0 : fx de0g 16 [(0, .int 0)]) (de1g : List Value) (h_de1 : fx de1g 16 [(0, .int 0)]) (de2g : List Value) (h_de2 : fx de2g 16 [(0, .int 0)]) (de3g : List Value) (h_de3 : fx de3g 16 [(0, .int 0)]) (de4g : List Value) (h_de4 : fx de4g 16 [(0, .int 0)]) (de5g : List Value) (h_de5 : fx de5g 16 [(0, .int 0)]) (h_deA0 : deAF 0 = some de0) (h_deA1 : deAF 1 = some de1) (h_deA2 : deAF 2 = some de2) (h_deA3 : deAF 3 = some de3) (h_deA4 : deAF 4 = some de4) (h_deA5 : deAF 5 = some de5) : Met l yL_map (Cond.codeWith yL_map cL_map 5 (some .int) [(0, 10, 13, 32), (0, 10, 17, 13)] :: BG) ({ frames := 9, cells := 1, slots := 6, locals := 177 }) (va_Pc [.ref x, .int p0, .int p1, .ref oA] (fun U => U.heap.size = sz ∧ va_P (dC, dI) CL [(x, .inr (12, xg)), (deA, .inl (deAC, (6, .inr (.inr (.inr (.inr deAF)))))), (de0, .inr (3, de0g)), (de1, .inr (3, de1g)), (de2, .inr (3, de2g)), (de3, .inr (3, de3g)), (de4, .inr (3, de4g)), (de5, .inr (3, de5g))] U.heap ∧ va_K (dC, dI) CL [(deAC, .object "ChipFlow$Design")] U ∧ va_D (fun _ => True) [(x, .inr (12, xg)), (deA, .inl (deAC, (6, .inr (.inr (.inr (.inr deAF)))))), (de0, .inr (3, de0g)), (de1, .inr (3, de1g)), (de2, .inr (3, de2g)), (de3, .inr (3, de3g)), (de4, .inr (3, de4g)), (de5, .inr (3, de5g))] ∧ th (va_A [(x, .inr (12, xg)), (deA, .inl (deAC, (6, .inr (.inr (.inr (.inr deAF)))))), (de0, .inr (3, de0g)), (de1, .inr (3, de1g)), (de2, .inr (3, de2g)), (de3, .inr (3, de3g)), (de4, .inr (3, de4g)), (de5, .inr (3, de5g))] sz) U U.heap)) (va_Qi (fun (r : Int32) (_ : Unit) => r = 1) (fun _ t => va_P (dC, dI) CL [] t.heap ∧ va_K (dC, dI) CL [] t ∧ va_D (va_A [(x, .inr (12, xg)), (deA, .inl (deAC, (6, .inr (.inr (.inr (.inr deAF)))))), (de0, .inr (3, de0g)), (de1, .inr (3, de1g)), (de2, .inr (3, de2g)), (de3, .inr (3, de3g)), (de4, .inr (3, de4g)), (de5, .inr (3, de5g))] sz) []) (va_A [(x, .inr (12, xg)), (deA, .inl (deAC, (6, .inr (.inr (.inr (.inr deAF)))))), (de0, .inr (3, de0g)), (de1, .inr (3, de1g)), (de2, .inr (3, de2g)), (de3, .inr (3, de3g)), (de4, .inr (3, de4g)), (de5, .inr (3, de5g))] sz)) 1 6 (va_A [(x, .inr (12, xg)), (deA, .inl (deAC, (6, .inr (.inr (.inr (.inr deAF)))))), (de0, .inr (3, de0g)), (de1, .inr (3, de1g)), (de2, .inr (3, de2g)), (de3, .inr (3, de3g)), (de4, .inr (3, de4g)), (de5, .inr (3, de5g))] sz) := by
  refine va_MetW (hh := [(0, 10, 13, 32), (0, 10, 17, 13)]) (cc := cL_map) (maxL := 5) (ret := (some .int)) (by decide) rfl ?_
  intro p e s m args below meth c s₁ B hml hv
  obtain ⟨rfl, hsz, hP, hK, hD0, hth⟩ := hv
  have hx := B.exec
  have hb := B.bytes
  have hr := B.returns
  have hts : ∀ w ∈ BG, w.before _ s = true := fun w h => atoms_spec (ws := Cond.codeWith yL_map cL_map 5 (some .int) [(0, 10, 13, 32), (0, 10, 17, 13)] :: BG) B.pre w (List.mem_cons_of_mem _ h)
  have hown : s.vm.findClass RL = some m.cls := findClass_of_methodNamed B.named
  have hlocks := B.notSynchronized
  subst hsz
  have hD := hD0.self (sz := s.heap.size)
  generalize hAe : va_A [(x, .inr (12, xg)), (deA, .inl (deAC, (6, .inr (.inr (.inr (.inr deAF)))))), (de0, .inr (3, de0g)), (de1, .inr (3, de1g)), (de2, .inr (3, de2g)), (de3, .inr (3, de3g)), (de4, .inr (3, de4g)), (de5, .inr (3, de5g))] s.heap.size = A at hD hth ⊢
  have hA : ∀ q : Nat, s.heap.size ≤ q → A q := fun q h => by rw [← hAe]; exact Or.inr h
  have hS : va_S A s.heap s.heap [] := va_S.rf
  have hl := lv_entry ([.ref x, .int p0, .int p1, .ref oA]) (n := 5) (Nat.le_of_ble_eq_true rfl)
  rw [lg_entry_eq]
  generalize (lg_sl ([.ref x, .int p0, .int p1, .ref oA]) ++ List.replicate (5 - (lg_sl ([.ref x, .int p0, .int p1, .ref oA])).length) Slot.unset).toArray = ls at hl ⊢
  have hl : lv_has ls 5 [(0, .ref x), (1, .int p0), (2, .int p1), (3, .ref oA)] := hl
  obtain ⟨H, eH⟩ : ∃ z, z = s.heap := ⟨_, rfl⟩
  have hP : va_P (dC, dI) CL [(x, .inr (12, xg)), (deA, .inl (deAC, (6, .inr (.inr (.inr (.inr deAF)))))), (de0, .inr (3, de0g)), (de1, .inr (3, de1g)), (de2, .inr (3, de2g)), (de3, .inr (3, de3g)), (de4, .inr (3, de4g)), (de5, .inr (3, de5g))] H := by rw [eH]; exact hP
  have hS : va_S A s.heap H [] := by rw [eH]; exact hS
  rw [← eH]
  have hT : c.exceptionTable.toList = tableOf [(0, 10, 13, 32), (0, 10, 17, 13)] := vx_table (x := yL_map) B (atoms_spec (ws := Cond.codeWith yL_map cL_map 5 (some .int) [(0, 10, 13, 32), (0, 10, 17, 13)] :: BG) B.pre _ List.mem_cons_self)
  refine lv_aload_n hx hb dL_map_0 rfl (lv_at hl 3 rfl) ?_
  refine lv_iconst (v := 0) hx hb dL_map_1 (by decide +kernel) ?_
  refine lv_aload_n hx hb dL_map_2 rfl (lv_at hl 0 rfl) ?_
  refine lv_iload_n hx hb dL_map_3 rfl (lv_at hl 1 rfl) ?_
  refine lv_iload_n hx hb dL_map_4 rfl (lv_at hl 2 rfl) ?_
  have hFc := va_free (wc := [(x, .inr (12, xg)), (deA, .inl (deAC, (6, .inr (.inr (.inr (.inr deAF)))))), (de0, .inr (3, de0g)), (de1, .inr (3, de1g)), (de2, .inr (3, de2g)), (de3, .inr (3, de3g)), (de4, .inr (3, de4g)), (de5, .inr (3, de5g))]) hD hS hA [0, 1, 2, 3, 4, 5, 6, 7] rfl
  refine vq_thr (vx_runV (As := [.int p0, .int p1]) (rest := [.int 0, .ref oA]) ⟨hx, hb, hml, hown, hts⟩ (gx32_X12_map l hlt dC dI _ p0 p1 x deA de0 de1 de2 de3 de4 de5 xg h_x deAC deAF de0g h_de0 de1g h_de1 de2g h_de2 de3g h_de3 de4g h_de4 de5g h_de5 h_deA0 h_deA1 h_deA2 h_deA3 h_deA4 h_deA5) (cwV 2 hts (gi_V wd_1937 wd_1938 wd_1939 wd_327 wd_1940) rfl rfl rfl (by decide +kernel) ⟨(Nat.le_of_ble_eq_true rfl), (Nat.le_of_ble_eq_true rfl)⟩) ⟨fun a U g mk q => by obtain ⟨q0, q1, qP, qK, qD, qT⟩ := q; exact ⟨q0, q1, qP, va_K.moved (u := U) (U := U.calling g mk a) (Vm.Alike.refl U.vm) qK, qD, th.moved (u := U) (U := U.calling g mk a) (Vm.Alike.refl U.vm) qT⟩, va_recv hK hP (ci := 12) (q0 := 0) rfl rfl, fun U hU hW => ⟨rfl, by rw [hU], by rw [hU]; exact hP, va_K.moved hW.alike hK, hD.weaken (fun _ _ _ _ => trivial), by rw [hU]; exact ((hth.kept hS.2.1).narrow hFc).moved hW.alike⟩⟩ rfl rfl hl.1 rfl (lv_room (Nat.le_of_ble_eq_true rfl)) dL_map_5 ⟨(Nat.le_of_ble_eq_true rfl), (Nat.le_of_ble_eq_true rfl)⟩) (fun _ _ _ h => h) hS hFc (fun q _ h => hFc q h) (fun E ce q9 u t H1 locs ht hvm hp hB hz hk hS hce hcv hcl => ?_)
  obtain ⟨hE, hB⟩ := hB
  subst hE
  obtain ⟨hP1, hK1, hD1⟩ := hB
  rw [ht] at hP1
  have hD := hD1.weaken (fun k q _ h => hFc q.1 h)
  have hP := hP1
  have hK := hK.sub (tys' := []) [] rfl
  generalize H1 = H at hP hS hce ⊢
  have hP : va_P (dC, dI) CL [] H := hP
  have hD : va_D A [] := hD
  refine vx_catch (own := RL) (name := "java/lang/IndexOutOfBoundsException") hown [] { startPc := 0, endPc := 10, handlerPc := 13, catchType := 32 } [{ startPc := 0, endPc := 10, handlerPc := 17, catchType := 13 }] (by rw [hT]; rfl) (fun _ h => nomatch h) (by decide) (by decide) (hts (.classLink RL 32 "java/lang/IndexOutOfBoundsException") wd_1804) (hth.cast (by decide)) hce hcv hcl ?_
  refine W.widen (k := 1) (n := 6) (Nat.le_of_ble_eq_true rfl) (Nat.le_of_ble_eq_true rfl) ?_
  refine lv_astore (lv' := [(4, .ref q9), (0, .ref x), (1, .int p0), (2, .int p1), (3, .ref oA)]) hx hb dL_map_13 hl (by decide) rfl (fun ls hl => ?_)
  refine lv_iconst (v := 1) hx hb dL_map_15 (by decide +kernel) ?_
  refine W.widen (k := 1) (n := 6) (Nat.le_of_ble_eq_true rfl) (Nat.le_of_ble_eq_true rfl) ?_
  exact W.iret (v := 1) hx hb hr (fun t ht hW => ⟨⟨1, (), rfl, rfl, by rw [ht]; exact hP, va_K.moved hW.alike hK, hD⟩, hS.F ht⟩) hS.2.2 dL_map_16
set_option maxHeartbeats 4000000 in
set_option maxRecDepth 100000 in
theorem gx34_X13_free (l : Launch) (hlt : l.stackTraces = false) (dC : Nat → ClassId) (dI : Nat → Nat → Nat) (sz : Nat) (m0 md mch : Nat) (m0g : List Value) (h_m0 : fx m0g 225 [(0, .int 0), (2, .int 0), (3, .int 0), (9, .int 0), (10, .int 0), (11, .int 0), (12, .int 0), (27, .int 0), (55, .ref md), (79, .int 0), (83, .int 0), (95, .int 0), (138, .ref mch)]) (mdC : ClassId) (mchC : ClassId) : Met l yX13_free (Cond.code yX13_free cX13_free 3 (some .int) :: BG) ({ frames := 1, cells := 0, slots := 0, locals := 12 }) (va_Pc [.ref mch, .int 4] (fun U => U.heap.size = sz ∧ va_P (dC, dI) CL [(m0, .inr (13, m0g)), (md, .inl (mdC, (6, .inl (fun _ => 0)))), (mch, .inl (mchC, (4, .inl (fun _ => 0))))] U.heap ∧ va_K (dC, dI) CL [(mdC, .boolean), (mchC, .boolean)] U ∧ va_D (fun _ => True) [(m0, .inr (13, m0g)), (md, .inl (mdC, (6, .inl (fun _ => 0)))), (mch, .inl (mchC, (4, .inl (fun _ => 0))))] ∧ th (va_A [(m0, .inr (13, m0g)), (md, .inl (mdC, (6, .inl (fun _ => 0)))), (mch, .inl (mchC, (4, .inl (fun _ => 0))))] sz) U U.heap)) (va_Qi (fun (r : Int32) (_ : Unit) => r = 0) (fun _ t => ∃ (m0y : List Value), fx m0y 225 [(0, .int 0), (2, .int 0), (3, .int 0), (9, .int 0), (10, .int 0), (11, .int 0), (12, .int 0), (27, .int 0), (55, .ref md), (79, .int 0), (83, .int 0), (95, .int 0), (138, .ref mch)] ∧ va_P (dC, dI) CL [(m0, .inr (13, m0y)), (md, .inl (mdC, (6, .inl (fun _ => 0)))), (mch, .inl (mchC, (4, .inl (fun _ => 0))))] t.heap ∧ va_K (dC, dI) CL [(mdC, .boolean), (mchC, .boolean)] t ∧ va_D (va_A [(m0, .inr (13, m0g)), (md, .inl (mdC, (6, .inl (fun _ => 0)))), (mch, .inl (mchC, (4, .inl (fun _ => 0))))] sz) [(m0, .inr (13, m0y)), (md, .inl (mdC, (6, .inl (fun _ => 0)))), (mch, .inl (mchC, (4, .inl (fun _ => 0))))]) (va_A [(m0, .inr (13, m0g)), (md, .inl (mdC, (6, .inl (fun _ => 0)))), (mch, .inl (mchC, (4, .inl (fun _ => 0))))] sz)) 0 0 (va_A [(m0, .inr (13, m0g)), (md, .inl (mdC, (6, .inl (fun _ => 0)))), (mch, .inl (mchC, (4, .inl (fun _ => 0))))] sz) := by
  refine Met.ofW (cc := cX13_free) (maxL := 3) (ret := (some .int)) (by decide) rfl ?_
  intro p e s m args below meth c s₁ B hml hv
  obtain ⟨rfl, hsz, hP, hK, hD0, hth⟩ := hv
  have hx := B.exec
  have hb := B.bytes
  have hr := B.returns
  have hts : ∀ w ∈ BG, w.before _ s = true := fun w h => atoms_spec (ws := Cond.code yX13_free cX13_free 3 (some .int) :: BG) B.pre w (List.mem_cons_of_mem _ h)
  have hown : s.vm.findClass RX13 = some m.cls := findClass_of_methodNamed B.named
  have hlocks := B.notSynchronized
  subst hsz
  have hD := hD0.self (sz := s.heap.size)
  generalize hAe : va_A [(m0, .inr (13, m0g)), (md, .inl (mdC, (6, .inl (fun _ => 0)))), (mch, .inl (mchC, (4, .inl (fun _ => 0))))] s.heap.size = A at hD hth ⊢
  have hA : ∀ q : Nat, s.heap.size ≤ q → A q := fun q h => by rw [← hAe]; exact Or.inr h
  have hS : va_S A s.heap s.heap [] := va_S.rf
  have hl := lv_entry ([.ref mch, .int 4]) (n := 3) (Nat.le_of_ble_eq_true rfl)
  rw [lg_entry_eq]
  generalize (lg_sl ([.ref mch, .int 4]) ++ List.replicate (3 - (lg_sl ([.ref mch, .int 4])).length) Slot.unset).toArray = ls at hl ⊢
  have hl : lv_has ls 3 [(0, .ref mch), (1, .int 4)] := hl
  obtain ⟨H, eH⟩ : ∃ z, z = s.heap := ⟨_, rfl⟩
  have hP : va_P (dC, dI) CL [(m0, .inr (13, m0g)), (md, .inl (mdC, (6, .inl (fun _ => 0)))), (mch, .inl (mchC, (4, .inl (fun _ => 0))))] H := by rw [eH]; exact hP
  have hS : va_S A s.heap H [] := by rw [eH]; exact hS
  rw [← eH]
  refine lv_iconst (v := 0) hx hb dX13_free_0 (by decide +kernel) ?_
  refine lv_istore_n (lv' := [(2, .int 0), (0, .ref mch), (1, .int 4)]) hx hb dX13_free_1 rfl hl (by decide) rfl (fun ls hl => ?_)
  refine lv_iload_n hx hb dX13_free_2 rfl (lv_at hl 0 rfl) ?_
  refine lv_iload_n hx hb dX13_free_3 rfl (lv_at hl 2 rfl) ?_
  refine lv_icmp_ge (tgt := 21) hx hb dX13_free_4 (by decide) (fun c9 => ?_) (fun c9 => ?_)
  · first | exact absurd c9 (by decide +kernel) | exact absurd (by decide +kernel) c9
  refine lv_aload_n hx hb dX13_free_7 rfl (lv_at hl 1 rfl) ?_
  refine lv_iload_n hx hb dX13_free_8 rfl (lv_at hl 0 rfl) ?_
  refine va_zald hx hb hK hP 2 1 rfl rfl (vp_in_nI (n := 0) (N := 4) (by decide) (by decide)) dX13_free_9 ?_
  refine lv_topi (fun v9 e9 => ?_)
  obtain rfl : v9 = 0 := e9
  refine lv_if_ne (tgt := 15) hx hb dX13_free_10 (by decide) (fun c9 => ?_) (fun c9 => ?_)
  · first | exact absurd c9 (by decide +kernel) | exact absurd (by decide +kernel) c9
  refine lv_iload_n hx hb dX13_free_13 rfl (lv_at hl 0 rfl) ?_
  exact W.iret (v := 0) hx hb hr (fun t ht hW => ⟨⟨0, (), rfl, rfl, m0g, h_m0, by rw [ht]; exact hP, va_K.moved hW.alike hK, hD⟩, hS.F ht⟩) hS.2.2 dX13_free_14
set_option maxHeartbeats 4000000 in
set_option maxRecDepth 100000 in
theorem gx33_X13_map (l : Launch) (hlt : l.stackTraces = false) (dC : Nat → ClassId) (dI : Nat → Nat → Nat) (sz : Nat) (p0 : Int32) (p1 : Int32) (m0 md mch : Nat) (m0g : List Value) (h_m0 : fx m0g 225 [(0, .int 0), (2, .int 0), (3, .int 0), (9, .int 0), (10, .int 0), (11, .int 0), (12, .int 0), (27, .int 0), (55, .ref md), (79, .int 0), (83, .int 0), (95, .int 0), (138, .ref mch)]) (mdC : ClassId) (mchC : ClassId) : Met l yX13_map (Cond.code yX13_map cX13_map 6 (some .int) :: BG) ({ frames := 2, cells := 0, slots := 0, locals := 34 }) (va_Pc [.ref m0, .int p0, .int p1] (fun U => U.heap.size = sz ∧ va_P (dC, dI) CL [(m0, .inr (13, m0g)), (md, .inl (mdC, (6, .inl (fun _ => 0)))), (mch, .inl (mchC, (4, .inl (fun _ => 0))))] U.heap ∧ va_K (dC, dI) CL [(mdC, .boolean), (mchC, .boolean)] U ∧ va_D (fun _ => True) [(m0, .inr (13, m0g)), (md, .inl (mdC, (6, .inl (fun _ => 0)))), (mch, .inl (mchC, (4, .inl (fun _ => 0))))] ∧ th (va_A [(m0, .inr (13, m0g)), (md, .inl (mdC, (6, .inl (fun _ => 0)))), (mch, .inl (mchC, (4, .inl (fun _ => 0))))] sz) U U.heap)) (va_Qi (fun (r : Int32) (_ : Unit) => r = 0) (fun _ t => ∃ (m0y : List Value), fx m0y 225 [(0, .int 1), (2, .int 0), (3, .int 0), (9, .int 0), (10, .int 0), (11, .int 0), (12, .int 0), (27, .int 0), (55, .ref md), (79, .int 0), (83, .int 0), (95, .int 0), (138, .ref mch)] ∧ va_P (dC, dI) CL [(m0, .inr (13, m0y)), (md, .inl (mdC, (6, .inl (fun _ => 0)))), (mch, .inl (mchC, (4, .inl (fun _ => 0))))] t.heap ∧ va_K (dC, dI) CL [(mdC, .boolean), (mchC, .boolean)] t ∧ va_D (va_A [(m0, .inr (13, m0g)), (md, .inl (mdC, (6, .inl (fun _ => 0)))), (mch, .inl (mchC, (4, .inl (fun _ => 0))))] sz) [(m0, .inr (13, m0y)), (md, .inl (mdC, (6, .inl (fun _ => 0)))), (mch, .inl (mchC, (4, .inl (fun _ => 0))))]) (va_A [(m0, .inr (13, m0g)), (md, .inl (mdC, (6, .inl (fun _ => 0)))), (mch, .inl (mchC, (4, .inl (fun _ => 0))))] sz)) 0 0 (va_A [(m0, .inr (13, m0g)), (md, .inl (mdC, (6, .inl (fun _ => 0)))), (mch, .inl (mchC, (4, .inl (fun _ => 0))))] sz) := by
  refine Met.ofW (cc := cX13_map) (maxL := 6) (ret := (some .int)) (by decide) rfl ?_
  intro p e s m args below meth c s₁ B hml hv
  obtain ⟨rfl, hsz, hP, hK, hD0, hth⟩ := hv
  have hx := B.exec
  have hb := B.bytes
  have hr := B.returns
  have hts : ∀ w ∈ BG, w.before _ s = true := fun w h => atoms_spec (ws := Cond.code yX13_map cX13_map 6 (some .int) :: BG) B.pre w (List.mem_cons_of_mem _ h)
  have hown : s.vm.findClass RX13 = some m.cls := findClass_of_methodNamed B.named
  have hlocks := B.notSynchronized
  subst hsz
  have hD := hD0.self (sz := s.heap.size)
  generalize hAe : va_A [(m0, .inr (13, m0g)), (md, .inl (mdC, (6, .inl (fun _ => 0)))), (mch, .inl (mchC, (4, .inl (fun _ => 0))))] s.heap.size = A at hD hth ⊢
  have hA : ∀ q : Nat, s.heap.size ≤ q → A q := fun q h => by rw [← hAe]; exact Or.inr h
  have hS : va_S A s.heap s.heap [] := va_S.rf
  have hl := lv_entry ([.ref m0, .int p0, .int p1]) (n := 6) (Nat.le_of_ble_eq_true rfl)
  rw [lg_entry_eq]
  generalize (lg_sl ([.ref m0, .int p0, .int p1]) ++ List.replicate (6 - (lg_sl ([.ref m0, .int p0, .int p1])).length) Slot.unset).toArray = ls at hl ⊢
  have hl : lv_has ls 6 [(0, .ref m0), (1, .int p0), (2, .int p1)] := hl
  obtain ⟨H, eH⟩ : ∃ z, z = s.heap := ⟨_, rfl⟩
  have hP : va_P (dC, dI) CL [(m0, .inr (13, m0g)), (md, .inl (mdC, (6, .inl (fun _ => 0)))), (mch, .inl (mchC, (4, .inl (fun _ => 0))))] H := by rw [eH]; exact hP
  have hS : va_S A s.heap H [] := by rw [eH]; exact hS
  rw [← eH]
  refine lv_aload_n hx hb dX13_map_0 rfl (lv_at hl 0 rfl) ?_
  refine va_get (D := (dC, dI)) (ci := 13) (v := .ref mch) (C := RX13) (T := TX13) (N := 225) hx hb hts inX13 hown hK hP 0 rfl rfl 138 (by decide) (hts (.fieldLink RX13 333 "ChipFlowModel" "chipThere" "[Z") wd_3169) (fun _ h9 => h9) (h_m0.get 12 rfl) dX13_map_1 ?_
  refine lv_iconst (v := 4) hx hb dX13_map_4 (by decide +kernel) ?_
  have hFc := va_free (wc := [(m0, .inr (13, m0g)), (md, .inl (mdC, (6, .inl (fun _ => 0)))), (mch, .inl (mchC, (4, .inl (fun _ => 0))))]) hD hS hA [0, 1, 2] rfl
  refine va_calli (va_runS (As := [.ref mch, .int 4]) (rest := []) ⟨hx, hb, hml, hown, hts⟩ (gx34_X13_free l hlt dC dI _ m0 md mch m0g h_m0 mdC mchC) (cwS 2 hts (gi_S wd_3724 wd_3725 wd_340 wd_3726) rfl rfl rfl (by decide +kernel) ⟨(Nat.le_of_ble_eq_true rfl), (Nat.le_of_ble_eq_true rfl)⟩) ⟨fun a U g mk q => by obtain ⟨q0, q1, qP, qK, qD, qT⟩ := q; exact ⟨q0, q1, qP, va_K.moved (u := U) (U := U.calling g mk a) (Vm.Alike.refl U.vm) qK, qD, th.moved (u := U) (U := U.calling g mk a) (Vm.Alike.refl U.vm) qT⟩, fun U hU hW => ⟨rfl, by rw [hU], by rw [hU]; exact hP, va_K.moved hW.alike hK, hD.weaken (fun _ _ _ _ => trivial), by rw [hU]; exact ((hth.kept hS.2.1).narrow hFc).moved hW.alike⟩⟩ rfl rfl hl.1 rfl (lv_room (Nat.le_of_ble_eq_true rfl)) dX13_map_5 ⟨(Nat.le_of_ble_eq_true rfl), (Nat.le_of_ble_eq_true rfl)⟩) hS (fun q _ h => hFc q h) hFc (fun r u t H1 locs ht hvm hw hB hz1 hk1 hS => ?_)
  subst hw
  obtain ⟨fs_1, h_m0, hP1, hK1, hD1⟩ := hB
  rw [ht] at hP1
  have hD := hD1.weaken (fun k q _ h => hFc q.1 h)
  have hP := hP1
  generalize H1 = H at hP hS ⊢
  have hP : va_P (dC, dI) CL [(m0, .inr (13, fs_1)), (md, .inl (mdC, (6, .inl (fun _ => 0)))), (mch, .inl (mchC, (4, .inl (fun _ => 0))))] H := hP
  have hD : va_D A [(m0, .inr (13, fs_1)), (md, .inl (mdC, (6, .inl (fun _ => 0)))), (mch, .inl (mchC, (4, .inl (fun _ => 0))))] := hD
  refine lv_istore_n (lv' := [(3, .int 0), (0, .ref m0), (1, .int p0), (2, .int p1)]) hx hb dX13_map_8 rfl hl (by decide) rfl (fun ls hl => ?_)
  refine lv_aload_n hx hb dX13_map_9 rfl (lv_at hl 1 rfl) ?_
  refine lv_aload_n hx hb dX13_map_10 rfl (lv_at hl 1 rfl) ?_
  refine lv_iload_n hx hb dX13_map_11 rfl (lv_at hl 2 rfl) ?_
  have hPc := hP.sub (ws' := [(m0, .inr (13, fs_1)), (md, .inl (mdC, (6, .inl (fun _ => 0))))]) [0, 1] rfl
  have hDc := hD.sub (ws' := [(m0, .inr (13, fs_1)), (md, .inl (mdC, (6, .inl (fun _ => 0))))]) [0, 1] (by decide) rfl
  have hKc := hK.sub (tys' := [(mdC, .boolean)]) [0] rfl
  have hFc := va_free (wc := [(m0, .inr (13, fs_1)), (md, .inl (mdC, (6, .inl (fun _ => 0))))]) hD hS hA [0, 1] rfl
  refine va_calli (va_runV (As := [.int p0]) (rest := [.ref m0]) ⟨hx, hb, hml, hown, hts⟩ (ct_X13_isDesign l dC dI _ p0 m0 fs_1 md mdC (h_m0.sub [8] rfl)) (cwV 1 hts (gi_V wd_4076 wd_4078 wd_215 wd_340 wd_4079) rfl rfl rfl (by decide +kernel) ⟨(Nat.le_of_ble_eq_true rfl), (Nat.le_of_ble_eq_true rfl)⟩) ⟨fun a U g mk q => by obtain ⟨q0, q1, qP, qK, qD⟩ := q; exact ⟨q0, q1, qP, va_K.moved (u := U) (U := U.calling g mk a) (Vm.Alike.refl U.vm) qK, qD⟩, va_recv hKc hPc (ci := 13) (q0 := 0) rfl rfl, fun U hU hW => ⟨rfl, by rw [hU], by rw [hU]; exact hPc, va_K.moved hW.alike hKc, hDc.weaken (fun _ _ _ _ => trivial)⟩⟩ rfl rfl hl.1 rfl (lv_room (Nat.le_of_ble_eq_true rfl)) dX13_map_12 ⟨(Nat.le_of_ble_eq_true rfl), (Nat.le_of_ble_eq_true rfl)⟩) hS (fun q _ h => hFc q h) hFc (fun r u t H1 locs ht hvm hw hB hz1 hk1 hS => ?_)
  subst hw
  obtain ⟨hP1, hK1, hD1⟩ := hB
  rw [ht] at hP1
  obtain ⟨hP, hD⟩ := va_join (wr := [(mch, .inl (mchC, (4, .inl (fun _ => 0))))]) (w1 := [(m0, .inr (13, fs_1)), (md, .inl (mdC, (6, .inl (fun _ => 0))))]) hP hD [0, 1] [2] rfl rfl (by decide) (by decide) hk1 hFc hP1 hD1
  have hP := hP.sub (ws' := [(m0, .inr (13, fs_1)), (md, .inl (mdC, (6, .inl (fun _ => 0)))), (mch, .inl (mchC, (4, .inl (fun _ => 0))))]) [1, 2, 0] rfl
  have hD := hD.sub (ws' := [(m0, .inr (13, fs_1)), (md, .inl (mdC, (6, .inl (fun _ => 0)))), (mch, .inl (mchC, (4, .inl (fun _ => 0))))]) [1, 2, 0] (by decide) rfl
  generalize H1 = H at hP hS ⊢
  have hP : va_P (dC, dI) CL [(m0, .inr (13, fs_1)), (md, .inl (mdC, (6, .inl (fun _ => 0)))), (mch, .inl (mchC, (4, .inl (fun _ => 0))))] H := hP
  have hD : va_D A [(m0, .inr (13, fs_1)), (md, .inl (mdC, (6, .inl (fun _ => 0)))), (mch, .inl (mchC, (4, .inl (fun _ => 0))))] := hD
  refine lv_if_eq (tgt := 26) hx hb dX13_map_15 (by decide) (fun c9 => ?_) (fun c9 => ?_)
  rotate_left
  · first | exact absurd c9 (by decide +kernel) | exact absurd (by decide +kernel) c9
  refine lv_iconst (v := 1) hx hb dX13_map_26 (by decide +kernel) ?_
  refine lv_goto (tgt := 40) hx hb dX13_map_27 (by decide) ?_
  refine va_put (D := (dC, dI)) (ci := 13) (v := .int 1) (ty := tyX13 0) (C := RX13) (T := TX13) (N := 225) hx hb hts inX13 tyX13 tyX13_ok nmX13 hown hK hP hD hS 0 rfl rfl 0 (by decide) (hts (.fieldLink RX13 1 "ChipFlowModel" "code" "I") wd_3032) (fun _ h9 => h9) rfl (by decide +kernel) rfl rfl (by rw [h_m0.1]; decide) dX13_map_40 (fun H locs hP hD hS => ?_)
  obtain ⟨fs_2, e9⟩ : ∃ z, z = fs_1.set 0 (.int 1) := ⟨_, rfl⟩
  have h_m0 : fx fs_2 225 [(0, .int 1), (2, .int 0), (3, .int 0), (9, .int 0), (10, .int 0), (11, .int 0), (12, .int 0), (27, .int 0), (55, .ref md), (79, .int 0), (83, .int 0), (95, .int 0), (138, .ref mch)] := by rw [e9]; exact (h_m0.put (F' := [(0, .int 1), (2, .int 0), (3, .int 0), (9, .int 0), (10, .int 0), (11, .int 0), (12, .int 0), (27, .int 0), (55, .ref md), (79, .int 0), (83, .int 0), (95, .int 0), (138, .ref mch)]) (by decide) _ rfl).sub [0, 1, 2, 3, 4, 5, 6, 7, 8, 9, 10, 11, 12] rfl
  have hP : va_P (dC, dI) CL [(m0, .inr (13, fs_2)), (md, .inl (mdC, (6, .inl (fun _ => 0)))), (mch, .inl (mchC, (4, .inl (fun _ => 0))))] H := by rw [e9]; exact hP
  have hD : va_D A [(m0, .inr (13, fs_2)), (md, .inl (mdC, (6, .inl (fun _ => 0)))), (mch, .inl (mchC, (4, .inl (fun _ => 0))))] := by rw [e9]; exact hD
  clear e9
  refine lv_aload_n hx hb dX13_map_43 rfl (lv_at hl 1 rfl) ?_
  refine va_get (D := (dC, dI)) (ci := 13) (v := .int 1) (C := RX13) (T := TX13) (N := 225) hx hb hts inX13 hown hK hP 0 rfl rfl 0 (by decide) (hts (.fieldLink RX13 1 "ChipFlowModel" "code" "I") wd_3032) (fun _ h9 => h9) (h_m0.get 0 rfl) dX13_map_44 ?_
  refine lv_if_le (tgt := 52) hx hb dX13_map_47 (by decide) (fun c9 => ?_) (fun c9 => ?_)
  · first | exact absurd c9 (by decide +kernel) | exact absurd (by decide +kernel) c9
  refine lv_iconst (v := 0) hx hb dX13_map_50 (by decide +kernel) ?_
  exact W.iret (v := 0) hx hb hr (fun t ht hW => ⟨⟨0, (), rfl, rfl, fs_2, h_m0, by rw [ht]; exact hP, va_K.moved hW.alike hK, hD⟩, hS.F ht⟩) hS.2.2 dX13_map_51
set_option maxHeartbeats 4000000 in
set_option maxRecDepth 100000 in
theorem gx35_X13_thrown (l : Launch) (hlt : l.stackTraces = false) (dC : Nat → ClassId) (dI : Nat → Nat → Nat) (sz : Nat) (m0 md mch : Nat) (m0g : List Value) (h_m0 : fx m0g 225 [(0, .int 1), (2, .int 0), (3, .int 0), (9, .int 0), (10, .int 0), (11, .int 0), (12, .int 0), (27, .int 0), (55, .ref md), (79, .int 0), (83, .int 0), (95, .int 0), (138, .ref mch)]) : Met l yX13_thrown (Cond.code yX13_thrown cX13_thrown 1 (some .int) :: BG) ({ frames := 1, cells := 0, slots := 0, locals := 12 }) (va_Pc [.ref m0] (fun U => U.heap.size = sz ∧ va_P (dC, dI) CL [(m0, .inr (13, m0g))] U.heap ∧ va_K (dC, dI) CL [] U ∧ va_D (fun _ => True) [(m0, .inr (13, m0g))] ∧ th (va_A [(m0, .inr (13, m0g))] sz) U U.heap)) (va_Qi (fun (r : Int32) (_ : Unit) => r = 1) (fun _ t => ∃ (m0y : List Value), fx m0y 225 [(0, .int 1), (2, .int 0), (3, .int 0), (9, .int 0), (10, .int 0), (11, .int 0), (12, .int 0), (27, .int 0), (55, .ref md), (79, .int 0), (83, .int 0), (95, .int 0), (138, .ref mch)] ∧ va_P (dC, dI) CL [(m0, .inr (13, m0y))] t.heap ∧ va_K (dC, dI) CL [] t ∧ va_D (va_A [(m0, .inr (13, m0g))] sz) [(m0, .inr (13, m0y))]) (va_A [(m0, .inr (13, m0g))] sz)) 0 0 (va_A [(m0, .inr (13, m0g))] sz) := by
  refine Met.ofW (cc := cX13_thrown) (maxL := 1) (ret := (some .int)) (by decide) rfl ?_
  intro p e s m args below meth c s₁ B hml hv
  obtain ⟨rfl, hsz, hP, hK, hD0, hth⟩ := hv
  have hx := B.exec
  have hb := B.bytes
  have hr := B.returns
  have hts : ∀ w ∈ BG, w.before _ s = true := fun w h => atoms_spec (ws := Cond.code yX13_thrown cX13_thrown 1 (some .int) :: BG) B.pre w (List.mem_cons_of_mem _ h)
  have hown : s.vm.findClass RX13 = some m.cls := findClass_of_methodNamed B.named
  have hlocks := B.notSynchronized
  subst hsz
  have hD := hD0.self (sz := s.heap.size)
  generalize hAe : va_A [(m0, .inr (13, m0g))] s.heap.size = A at hD hth ⊢
  have hA : ∀ q : Nat, s.heap.size ≤ q → A q := fun q h => by rw [← hAe]; exact Or.inr h
  have hS : va_S A s.heap s.heap [] := va_S.rf
  have hl := lv_entry ([.ref m0]) (n := 1) (Nat.le_of_ble_eq_true rfl)
  rw [lg_entry_eq]
  generalize (lg_sl ([.ref m0]) ++ List.replicate (1 - (lg_sl ([.ref m0])).length) Slot.unset).toArray = ls at hl ⊢
  have hl : lv_has ls 1 [(0, .ref m0)] := hl
  obtain ⟨H, eH⟩ : ∃ z, z = s.heap := ⟨_, rfl⟩
  have hP : va_P (dC, dI) CL [(m0, .inr (13, m0g))] H := by rw [eH]; exact hP
  have hS : va_S A s.heap H [] := by rw [eH]; exact hS
  rw [← eH]
  refine lv_aload_n hx hb dX13_thrown_0 rfl (lv_at hl 0 rfl) ?_
  refine va_get (D := (dC, dI)) (ci := 13) (v := .int 1) (C := RX13) (T := TX13) (N := 225) hx hb hts inX13 hown hK hP 0 rfl rfl 0 (by decide) (hts (.fieldLink RX13 1 "ChipFlowModel" "code" "I") wd_3032) (fun _ h9 => h9) (h_m0.get 0 rfl) dX13_thrown_1 ?_
  exact W.iret (v := 1) hx hb hr (fun t ht hW => ⟨⟨1, (), rfl, rfl, m0g, h_m0, by rw [ht]; exact hP, va_K.moved hW.alike hK, hD⟩, hS.F ht⟩) hS.2.2 dX13_thrown_4
set_option maxHeartbeats 4000000 in
set_option maxRecDepth 100000 in
theorem gx37_X12_drop (l : Launch) (hlt : l.stackTraces = false) (dC : Nat → ClassId) (dI : Nat → Nat → Nat) (sz : Nat) (p0 : Int32) (p1 : Int32) (x deA liA chA : Nat) (xg : List Value) (h_x : fx xg 17 [(7, .ref deA), (8, .ref liA), (9, .ref chA)]) (zn : p0 < 0) : vx_Met l yX12_drop (Cond.code yX12_drop cX12_drop 3 none :: BG) ({ frames := 7, cells := 1, slots := 6, locals := 130 }) (va_Pc [.ref x, .int p0, .int p1] (fun U => U.heap.size = sz ∧ va_P (dC, dI) CL [(x, .inr (12, xg))] U.heap ∧ va_K (dC, dI) CL [] U ∧ va_D (fun _ => True) [(x, .inr (12, xg))] ∧ th (va_A [(x, .inr (12, xg))] sz) U U.heap)) (fun _ _ _ _ => False) (vx_X (fun _ : Unit => True) (fun E _ t => E = "java/lang/IllegalArgumentException" ∧ ∃ (xy : List Value), fx xy 17 [(7, .ref deA), (8, .ref liA), (9, .ref chA)] ∧ va_P (dC, dI) CL [(x, .inr (12, xy))] t.heap ∧ va_K (dC, dI) CL [] t ∧ va_D (va_A [(x, .inr (12, xg))] sz) [(x, .inr (12, xy))]) (va_A [(x, .inr (12, xg))] sz)) 1 6 (va_A [(x, .inr (12, xg))] sz) := by
  refine vx_ofW (cc := cX12_drop) (maxL := 3) (ret := none) (by decide) rfl ?_
  intro p e s m args below meth c s₁ B hml ht0 hv
  obtain ⟨rfl, hsz, hP, hK, hD0, hth⟩ := hv
  have hx := B.exec
  have hb := B.bytes
  have hr := B.returns
  have hts : ∀ w ∈ BG, w.before _ s = true := fun w h => atoms_spec (ws := Cond.code yX12_drop cX12_drop 3 none :: BG) B.pre w (List.mem_cons_of_mem _ h)
  have hown : s.vm.findClass RX12 = some m.cls := findClass_of_methodNamed B.named
  have hlocks := B.notSynchronized
  subst hsz
  have hD := hD0.self (sz := s.heap.size)
  generalize hAe : va_A [(x, .inr (12, xg))] s.heap.size = A at hD hth ⊢
  have hA : ∀ q : Nat, s.heap.size ≤ q → A q := fun q h => by rw [← hAe]; exact Or.inr h
  have hS : va_S A s.heap s.heap [] := va_S.rf
  have hl := lv_entry ([.ref x, .int p0, .int p1]) (n := 3) (Nat.le_of_ble_eq_true rfl)
  rw [lg_entry_eq]
  generalize (lg_sl ([.ref x, .int p0, .int p1]) ++ List.replicate (3 - (lg_sl ([.ref x, .int p0, .int p1])).length) Slot.unset).toArray = ls at hl ⊢
  have hl : lv_has ls 3 [(0, .ref x), (1, .int p0), (2, .int p1)] := hl
  obtain ⟨H, eH⟩ : ∃ z, z = s.heap := ⟨_, rfl⟩
  have hP : va_P (dC, dI) CL [(x, .inr (12, xg))] H := by rw [eH]; exact hP
  have hS : va_S A s.heap H [] := by rw [eH]; exact hS
  rw [← eH]
  refine lv_iload_n hx hb dX12_drop_0 rfl (lv_at hl 1 rfl) ?_
  refine lv_if_lt (tgt := 13) hx hb dX12_drop_1 (by decide) (fun c9 => ?_) (fun c9 => ?_)
  rotate_left
  · first | exact absurd c9 zn | exact absurd zn c9
  refine lv_iconst (v := 0) hx hb dX12_drop_13 (by decide +kernel) ?_
  have hF0 : ∀ q, va_A [] H.size q → A q := fun q h => h.elim (fun ⟨k9, e9, h9⟩ => by simp at h9) (fun h9 => hA q (Nat.le_trans hS.1 h9))
  refine vx_callv (vx_runS (As := [.int 0]) (rest := []) ⟨hx, hb, hml, hown, hts⟩ (ct_X12_needRange l hlt H.size 0) (cwS 1 hts (gi_S wd_1328 wd_1329 wd_327 wd_1330) rfl rfl rfl (by decide +kernel) ⟨(Nat.le_of_ble_eq_true rfl), (Nat.le_of_ble_eq_true rfl)⟩) ⟨fun a U g mk q => ⟨q.1, q.2.1, th.moved (u := U) (U := U.calling g mk a) (Vm.Alike.refl U.vm) q.2.2⟩, fun U hU hW => ⟨rfl, by rw [hU], by rw [hU]; exact ((hth.kept hS.2.1).narrow hF0).moved hW.alike⟩⟩ rfl rfl hl.1 rfl (lv_room (Nat.le_of_ble_eq_true rfl)) dX12_drop_14 ⟨(Nat.le_of_ble_eq_true rfl), (Nat.le_of_ble_eq_true rfl)⟩) hS (fun q _ h => hF0 q h) hF0 (fun q _ h => hF0 q h) (fun E ce q9 u t H1 locs ht hvm hp hB hz hk hS hce hcv hcl => ?_) (fun u t H1 locs ht hvm hp hB hz hk hS => absurd rfl hp)
  subst hB
  have hP : va_P (dC, dI) CL [(x, .inr (12, xg))] H1 := hP.kept (fun k q h9 => hk _ (vx_lt hP h9) (fun h8 => h8.elim (fun ⟨k9, e9, h7⟩ => by simp at h7) (fun h7 => absurd (vx_lt hP h9) (Nat.not_lt.mpr h7))))
  generalize H1 = H at hP hS hce ⊢
  exact vx_out (fun x h9 => (ht0 x h9).elim) hlocks hce hcv hcl (fun t ht hvm9 => ⟨(), trivial, ⟨rfl, xg, h_x, by rw [ht]; exact hP, va_K.moved hvm9 hK, hD⟩, hS.F ht⟩) hS.2.2 (Nat.le_of_ble_eq_true rfl) (Nat.le_of_ble_eq_true rfl)
set_option maxHeartbeats 4000000 in
set_option maxRecDepth 100000 in
theorem gx36_L_drop (l : Launch) (hlt : l.stackTraces = false) (dC : Nat → ClassId) (dI : Nat → Nat → Nat) (sz : Nat) (p0 : Int32) (p1 : Int32) (x deA liA chA : Nat) (xg : List Value) (h_x : fx xg 17 [(7, .ref deA), (8, .ref liA), (9, .ref chA)]) (zn : p0 < 0) : Met l yL_drop (Cond.codeWith yL_drop cL_drop 4 (some .int) [(0, 6, 9, 19), (0, 6, 12, 32)] :: BG) ({ frames := 8, cells := 1, slots := 6, locals := 152 }) (va_Pc [.ref x, .int p0, .int p1] (fun U => U.heap.size = sz ∧ va_P (dC, dI) CL [(x, .inr (12, xg))] U.heap ∧ va_K (dC, dI) CL [] U ∧ va_D (fun _ => True) [(x, .inr (12, xg))] ∧ th (va_A [(x, .inr (12, xg))] sz) U U.heap)) (va_Qi (fun (r : Int32) (_ : Unit) => r = 1) (fun _ t => ∃ (xy : List Value), fx xy 17 [(7, .ref deA), (8, .ref liA), (9, .ref chA)] ∧ va_P (dC, dI) CL [(x, .inr (12, xy))] t.heap ∧ va_K (dC, dI) CL [] t ∧ va_D (va_A [(x, .inr (12, xg))] sz) [(x, .inr (12, xy))]) (va_A [(x, .inr (12, xg))] sz)) 1 6 (va_A [(x, .inr (12, xg))] sz) := by
  refine va_MetW (hh := [(0, 6, 9, 19), (0, 6, 12, 32)]) (cc := cL_drop) (maxL := 4) (ret := (some .int)) (by decide) rfl ?_
  intro p e s m args below meth c s₁ B hml hv
  obtain ⟨rfl, hsz, hP, hK, hD0, hth⟩ := hv
  have hx := B.exec
  have hb := B.bytes
  have hr := B.returns
  have hts : ∀ w ∈ BG, w.before _ s = true := fun w h => atoms_spec (ws := Cond.codeWith yL_drop cL_drop 4 (some .int) [(0, 6, 9, 19), (0, 6, 12, 32)] :: BG) B.pre w (List.mem_cons_of_mem _ h)
  have hown : s.vm.findClass RL = some m.cls := findClass_of_methodNamed B.named
  have hlocks := B.notSynchronized
  subst hsz
  have hD := hD0.self (sz := s.heap.size)
  generalize hAe : va_A [(x, .inr (12, xg))] s.heap.size = A at hD hth ⊢
  have hA : ∀ q : Nat, s.heap.size ≤ q → A q := fun q h => by rw [← hAe]; exact Or.inr h
  have hS : va_S A s.heap s.heap [] := va_S.rf
  have hl := lv_entry ([.ref x, .int p0, .int p1]) (n := 4) (Nat.le_of_ble_eq_true rfl)
  rw [lg_entry_eq]
  generalize (lg_sl ([.ref x, .int p0, .int p1]) ++ List.replicate (4 - (lg_sl ([.ref x, .int p0, .int p1])).length) Slot.unset).toArray = ls at hl ⊢
  have hl : lv_has ls 4 [(0, .ref x), (1, .int p0), (2, .int p1)] := hl
  obtain ⟨H, eH⟩ : ∃ z, z = s.heap := ⟨_, rfl⟩
  have hP : va_P (dC, dI) CL [(x, .inr (12, xg))] H := by rw [eH]; exact hP
  have hS : va_S A s.heap H [] := by rw [eH]; exact hS
  rw [← eH]
  have hT : c.exceptionTable.toList = tableOf [(0, 6, 9, 19), (0, 6, 12, 32)] := vx_table (x := yL_drop) B (atoms_spec (ws := Cond.codeWith yL_drop cL_drop 4 (some .int) [(0, 6, 9, 19), (0, 6, 12, 32)] :: BG) B.pre _ List.mem_cons_self)
  refine lv_aload_n hx hb dL_drop_0 rfl (lv_at hl 0 rfl) ?_
  refine lv_iload_n hx hb dL_drop_1 rfl (lv_at hl 1 rfl) ?_
  refine lv_iload_n hx hb dL_drop_2 rfl (lv_at hl 2 rfl) ?_
  have hFc := va_free (wc := [(x, .inr (12, xg))]) hD hS hA [0] rfl
  refine vq_thr (vx_runV (As := [.int p0, .int p1]) (rest := []) ⟨hx, hb, hml, hown, hts⟩ (gx37_X12_drop l hlt dC dI _ p0 p1 x deA liA chA xg h_x zn) (cwV 2 hts (gi_V wd_1805 wd_1806 wd_1807 wd_327 wd_1808) rfl rfl rfl (by decide +kernel) ⟨(Nat.le_of_ble_eq_true rfl), (Nat.le_of_ble_eq_true rfl)⟩) ⟨fun a U g mk q => by obtain ⟨q0, q1, qP, qK, qD, qT⟩ := q; exact ⟨q0, q1, qP, va_K.moved (u := U) (U := U.calling g mk a) (Vm.Alike.refl U.vm) qK, qD, th.moved (u := U) (U := U.calling g mk a) (Vm.Alike.refl U.vm) qT⟩, va_recv hK hP (ci := 12) (q0 := 0) rfl rfl, fun U hU hW => ⟨rfl, by rw [hU], by rw [hU]; exact hP, va_K.moved hW.alike hK, hD.weaken (fun _ _ _ _ => trivial), by rw [hU]; exact ((hth.kept hS.2.1).narrow hFc).moved hW.alike⟩⟩ rfl rfl hl.1 rfl (lv_room (Nat.le_of_ble_eq_true rfl)) dL_drop_3 ⟨(Nat.le_of_ble_eq_true rfl), (Nat.le_of_ble_eq_true rfl)⟩) (fun _ _ _ h => h) hS hFc (fun q _ h => hFc q h) (fun E ce q9 u t H1 locs ht hvm hp hB hz hk hS hce hcv hcl => ?_)
  obtain ⟨hE, hB⟩ := hB
  subst hE
  obtain ⟨fs_1, h_x, hP1, hK1, hD1⟩ := hB
  rw [ht] at hP1
  have hD := hD1.weaken (fun k q _ h => hFc q.1 h)
  have hP := hP1
  generalize H1 = H at hP hS hce ⊢
  have hP : va_P (dC, dI) CL [(x, .inr (12, fs_1))] H := hP
  have hD : va_D A [(x, .inr (12, fs_1))] := hD
  refine vx_catch (own := RL) (name := "java/lang/IllegalArgumentException") hown [] { startPc := 0, endPc := 6, handlerPc := 9, catchType := 19 } [{ startPc := 0, endPc := 6, handlerPc := 12, catchType := 32 }] (by rw [hT]; rfl) (fun _ h => nomatch h) (by decide) (by decide) (hts (.classLink RL 19 "java/lang/IllegalArgumentException") wd_1323) (hth.cast (by decide)) hce hcv hcl ?_
  refine W.widen (k := 1) (n := 6) (Nat.le_of_ble_eq_true rfl) (Nat.le_of_ble_eq_true rfl) ?_
  refine lv_astore_n (lv' := [(3, .ref q9), (0, .ref x), (1, .int p0), (2, .int p1)]) hx hb dL_drop_9 rfl hl (by decide) rfl (fun ls hl => ?_)
  refine lv_iconst (v := 1) hx hb dL_drop_10 (by decide +kernel) ?_
  refine W.widen (k := 1) (n := 6) (Nat.le_of_ble_eq_true rfl) (Nat.le_of_ble_eq_true rfl) ?_
  exact W.iret (v := 1) hx hb hr (fun t ht hW => ⟨⟨1, (), rfl, rfl, fs_1, h_x, by rw [ht]; exact hP, va_K.moved hW.alike hK, hD⟩, hS.F ht⟩) hS.2.2 dL_drop_11
set_option maxHeartbeats 4000000 in
set_option maxRecDepth 100000 in
theorem gx39_X13_within (l : Launch) (hlt : l.stackTraces = false) (dC : Nat → ClassId) (dI : Nat → Nat → Nat) (sz : Nat) (p0 : Int32) (m0 md ml mch : Nat) (m0g : List Value) (h_m0 : fx m0g 225 [(0, .int 0), (2, .int 0), (3, .int 0), (9, .int 0), (10, .int 0), (11, .int 0), (12, .int 0), (27, .int 0), (55, .ref md), (79, .int 0), (83, .int 0), (88, .ref ml), (95, .int 0), (138, .ref mch)]) (zn : p0 < 0) : Met l yX13_within (Cond.code yX13_within cX13_within 3 (some .boolean) :: BG) ({ frames := 1, cells := 0, slots := 0, locals := 12 }) (va_Pc [.int p0, .int 0, .int 2] (fun U => U.heap.size = sz ∧ va_P (dC, dI) CL [(m0, .inr (13, m0g))] U.heap ∧ va_K (dC, dI) CL [] U ∧ va_D (fun _ => True) [(m0, .inr (13, m0g))] ∧ th (va_A [(m0, .inr (13, m0g))] sz) U U.heap)) (va_Qi (fun (r : Int32) (_ : Unit) => r = 0) (fun _ t => ∃ (m0y : List Value), fx m0y 225 [(0, .int 0), (2, .int 0), (3, .int 0), (9, .int 0), (10, .int 0), (11, .int 0), (12, .int 0), (27, .int 0), (55, .ref md), (79, .int 0), (83, .int 0), (88, .ref ml), (95, .int 0), (138, .ref mch)] ∧ va_P (dC, dI) CL [(m0, .inr (13, m0y))] t.heap ∧ va_K (dC, dI) CL [] t ∧ va_D (va_A [(m0, .inr (13, m0g))] sz) [(m0, .inr (13, m0y))]) (va_A [(m0, .inr (13, m0g))] sz)) 0 0 (va_A [(m0, .inr (13, m0g))] sz) := by
  refine Met.ofW (cc := cX13_within) (maxL := 3) (ret := (some .boolean)) (by decide) rfl ?_
  intro p e s m args below meth c s₁ B hml hv
  obtain ⟨rfl, hsz, hP, hK, hD0, hth⟩ := hv
  have hx := B.exec
  have hb := B.bytes
  have hr := B.returns
  have hts : ∀ w ∈ BG, w.before _ s = true := fun w h => atoms_spec (ws := Cond.code yX13_within cX13_within 3 (some .boolean) :: BG) B.pre w (List.mem_cons_of_mem _ h)
  have hown : s.vm.findClass RX13 = some m.cls := findClass_of_methodNamed B.named
  have hlocks := B.notSynchronized
  subst hsz
  have hD := hD0.self (sz := s.heap.size)
  generalize hAe : va_A [(m0, .inr (13, m0g))] s.heap.size = A at hD hth ⊢
  have hA : ∀ q : Nat, s.heap.size ≤ q → A q := fun q h => by rw [← hAe]; exact Or.inr h
  have hS : va_S A s.heap s.heap [] := va_S.rf
  have hl := lv_entry ([.int p0, .int 0, .int 2]) (n := 3) (Nat.le_of_ble_eq_true rfl)
  rw [lg_entry_eq]
  generalize (lg_sl ([.int p0, .int 0, .int 2]) ++ List.replicate (3 - (lg_sl ([.int p0, .int 0, .int 2])).length) Slot.unset).toArray = ls at hl ⊢
  have hl : lv_has ls 3 [(0, .int p0), (1, .int 0), (2, .int 2)] := hl
  obtain ⟨H, eH⟩ : ∃ z, z = s.heap := ⟨_, rfl⟩
  have hP : va_P (dC, dI) CL [(m0, .inr (13, m0g))] H := by rw [eH]; exact hP
  have hS : va_S A s.heap H [] := by rw [eH]; exact hS
  rw [← eH]
  refine lv_iload_n hx hb dX13_within_0 rfl (lv_at hl 0 rfl) ?_
  refine lv_iload_n hx hb dX13_within_1 rfl (lv_at hl 1 rfl) ?_
  refine lv_icmp_lt (tgt := 14) hx hb dX13_within_2 (by decide) (fun c9 => ?_) (fun c9 => ?_)
  rotate_left
  · first | exact absurd c9 zn | exact absurd zn c9
  refine lv_iconst (v := 0) hx hb dX13_within_14 (by decide +kernel) ?_
  exact W.zret (v := 0) hx hb hr rfl (fun t ht hW => ⟨⟨0, (), rfl, rfl, m0g, h_m0, by rw [ht]; exact hP, va_K.moved hW.alike hK, hD⟩, hS.F ht⟩) hS.2.2 dX13_within_15
set_option maxHeartbeats 4000000 in
set_option maxRecDepth 100000 in
theorem gx38_X13_drop (l : Launch) (hlt : l.stackTraces = false) (dC : Nat → ClassId) (dI : Nat → Nat → Nat) (sz : Nat) (p0 : Int32) (p1 : Int32) (m0 md ml mch : Nat) (m0g : List Value) (h_m0 : fx m0g 225 [(0, .int 0), (2, .int 0), (3, .int 0), (9, .int 0), (10, .int 0), (11, .int 0), (12, .int 0), (27, .int 0), (55, .ref md), (79, .int 0), (83, .int 0), (88, .ref ml), (95, .int 0), (138, .ref mch)]) (zn : p0 < 0) : Met l yX13_drop (Cond.code yX13_drop cX13_drop 3 none :: BG) ({ frames := 2, cells := 0, slots := 0, locals := 34 }) (va_Pc [.ref m0, .int p0, .int p1] (fun U => U.heap.size = sz ∧ va_P (dC, dI) CL [(m0, .inr (13, m0g))] U.heap ∧ va_K (dC, dI) CL [] U ∧ va_D (fun _ => True) [(m0, .inr (13, m0g))] ∧ th (va_A [(m0, .inr (13, m0g))] sz) U U.heap)) (va_Qv (fun _ : Unit => True) (fun _ t => ∃ (m0y : List Value), fx m0y 225 [(0, .int 1), (2, .int 0), (3, .int 0), (9, .int 0), (10, .int 0), (11, .int 0), (12, .int 0), (27, .int 0), (55, .ref md), (79, .int 0), (83, .int 0), (88, .ref ml), (95, .int 0), (138, .ref mch)] ∧ va_P (dC, dI) CL [(m0, .inr (13, m0y))] t.heap ∧ va_K (dC, dI) CL [] t ∧ va_D (va_A [(m0, .inr (13, m0g))] sz) [(m0, .inr (13, m0y))]) (va_A [(m0, .inr (13, m0g))] sz)) 0 0 (va_A [(m0, .inr (13, m0g))] sz) := by
  refine Met.ofW (cc := cX13_drop) (maxL := 3) (ret := none) (by decide) rfl ?_
  intro p e s m args below meth c s₁ B hml hv
  obtain ⟨rfl, hsz, hP, hK, hD0, hth⟩ := hv
  have hx := B.exec
  have hb := B.bytes
  have hr := B.returns
  have hts : ∀ w ∈ BG, w.before _ s = true := fun w h => atoms_spec (ws := Cond.code yX13_drop cX13_drop 3 none :: BG) B.pre w (List.mem_cons_of_mem _ h)
  have hown : s.vm.findClass RX13 = some m.cls := findClass_of_methodNamed B.named
  have hlocks := B.notSynchronized
  subst hsz
  have hD := hD0.self (sz := s.heap.size)
  generalize hAe : va_A [(m0, .inr (13, m0g))] s.heap.size = A at hD hth ⊢
  have hA : ∀ q : Nat, s.heap.size ≤ q → A q := fun q h => by rw [← hAe]; exact Or.inr h
  have hS : va_S A s.heap s.heap [] := va_S.rf
  have hl := lv_entry ([.ref m0, .int p0, .int p1]) (n := 3) (Nat.le_of_ble_eq_true rfl)
  rw [lg_entry_eq]
  generalize (lg_sl ([.ref m0, .int p0, .int p1]) ++ List.replicate (3 - (lg_sl ([.ref m0, .int p0, .int p1])).length) Slot.unset).toArray = ls at hl ⊢
  have hl : lv_has ls 3 [(0, .ref m0), (1, .int p0), (2, .int p1)] := hl
  obtain ⟨H, eH⟩ : ∃ z, z = s.heap := ⟨_, rfl⟩
  have hP : va_P (dC, dI) CL [(m0, .inr (13, m0g))] H := by rw [eH]; exact hP
  have hS : va_S A s.heap H [] := by rw [eH]; exact hS
  rw [← eH]
  refine lv_aload_n hx hb dX13_drop_0 rfl (lv_at hl 0 rfl) ?_
  refine lv_iload_n hx hb dX13_drop_1 rfl (lv_at hl 1 rfl) ?_
  refine lv_iconst (v := 0) hx hb dX13_drop_2 (by decide +kernel) ?_
  refine lv_iconst (v := 2) hx hb dX13_drop_3 (by decide +kernel) ?_
  have hFc := va_free (wc := [(m0, .inr (13, m0g))]) hD hS hA [0] rfl
  refine va_calli (va_runS (As := [.int p0, .int 0, .int 2]) (rest := [.ref m0]) ⟨hx, hb, hml, hown, hts⟩ (gx39_X13_within l hlt dC dI _ p0 m0 md ml mch m0g h_m0 zn) (cwS 3 hts (gi_S wd_3825 wd_3826 wd_340 wd_3827) rfl rfl rfl (by decide +kernel) ⟨(Nat.le_of_ble_eq_true rfl), (Nat.le_of_ble_eq_true rfl)⟩) ⟨fun a U g mk q => by obtain ⟨q0, q1, qP, qK, qD, qT⟩ := q; exact ⟨q0, q1, qP, va_K.moved (u := U) (U := U.calling g mk a) (Vm.Alike.refl U.vm) qK, qD, th.moved (u := U) (U := U.calling g mk a) (Vm.Alike.refl U.vm) qT⟩, fun U hU hW => ⟨rfl, by rw [hU], by rw [hU]; exact hP, va_K.moved hW.alike hK, hD.weaken (fun _ _ _ _ => trivial), by rw [hU]; exact ((hth.kept hS.2.1).narrow hFc).moved hW.alike⟩⟩ rfl rfl hl.1 rfl (lv_room (Nat.le_of_ble_eq_true rfl)) dX13_drop_4 ⟨(Nat.le_of_ble_eq_true rfl), (Nat.le_of_ble_eq_true rfl)⟩) hS (fun q _ h => hFc q h) hFc (fun r u t H1 locs ht hvm hw hB hz1 hk1 hS => ?_)
  subst hw
  obtain ⟨fs_1, h_m0, hP1, hK1, hD1⟩ := hB
  rw [ht] at hP1
  have hD := hD1.weaken (fun k q _ h => hFc q.1 h)
  have hP := hP1
  generalize H1 = H at hP hS ⊢
  have hP : va_P (dC, dI) CL [(m0, .inr (13, fs_1))] H := hP
  have hD : va_D A [(m0, .inr (13, fs_1))] := hD
  refine lv_if_ne (tgt := 14) hx hb dX13_drop_7 (by decide) (fun c9 => ?_) (fun c9 => ?_)
  · first | exact absurd c9 (by decide +kernel) | exact absurd (by decide +kernel) c9
  refine lv_iconst (v := 1) hx hb dX13_drop_10 (by decide +kernel) ?_
  refine lv_goto (tgt := 28) hx hb dX13_drop_11 (by decide) ?_
  refine va_put (D := (dC, dI)) (ci := 13) (v := .int 1) (ty := tyX13 0) (C := RX13) (T := TX13) (N := 225) hx hb hts inX13 tyX13 tyX13_ok nmX13 hown hK hP hD hS 0 rfl rfl 0 (by decide) (hts (.fieldLink RX13 1 "ChipFlowModel" "code" "I") wd_3032) (fun _ h9 => h9) rfl (by decide +kernel) rfl rfl (by rw [h_m0.1]; decide) dX13_drop_28 (fun H locs hP hD hS => ?_)
  obtain ⟨fs_2, e9⟩ : ∃ z, z = fs_1.set 0 (.int 1) := ⟨_, rfl⟩
  have h_m0 : fx fs_2 225 [(0, .int 1), (2, .int 0), (3, .int 0), (9, .int 0), (10, .int 0), (11, .int 0), (12, .int 0), (27, .int 0), (55, .ref md), (79, .int 0), (83, .int 0), (88, .ref ml), (95, .int 0), (138, .ref mch)] := by rw [e9]; exact (h_m0.put (F' := [(0, .int 1), (2, .int 0), (3, .int 0), (9, .int 0), (10, .int 0), (11, .int 0), (12, .int 0), (27, .int 0), (55, .ref md), (79, .int 0), (83, .int 0), (88, .ref ml), (95, .int 0), (138, .ref mch)]) (by decide) _ rfl).sub [0, 1, 2, 3, 4, 5, 6, 7, 8, 9, 10, 11, 12, 13] rfl
  have hP : va_P (dC, dI) CL [(m0, .inr (13, fs_2))] H := by rw [e9]; exact hP
  have hD : va_D A [(m0, .inr (13, fs_2))] := by rw [e9]; exact hD
  clear e9
  refine lv_aload_n hx hb dX13_drop_31 rfl (lv_at hl 0 rfl) ?_
  refine va_get (D := (dC, dI)) (ci := 13) (v := .int 1) (C := RX13) (T := TX13) (N := 225) hx hb hts inX13 hown hK hP 0 rfl rfl 0 (by decide) (hts (.fieldLink RX13 1 "ChipFlowModel" "code" "I") wd_3032) (fun _ h9 => h9) (h_m0.get 0 rfl) dX13_drop_32 ?_
  refine lv_if_le (tgt := 39) hx hb dX13_drop_35 (by decide) (fun c9 => ?_) (fun c9 => ?_)
  · first | exact absurd c9 (by decide +kernel) | exact absurd (by decide +kernel) c9
  exact W.vret hx hb hr (fun t ht hW => ⟨⟨(), rfl, trivial, fs_2, h_m0, by rw [ht]; exact hP, va_K.moved hW.alike hK, hD⟩, hS.F ht⟩) hS.2.2 dX13_drop_38
set_option maxHeartbeats 4000000 in
set_option maxRecDepth 100000 in
theorem gx40_X13_thrown (l : Launch) (hlt : l.stackTraces = false) (dC : Nat → ClassId) (dI : Nat → Nat → Nat) (sz : Nat) (m0 md ml mch : Nat) (m0g : List Value) (h_m0 : fx m0g 225 [(0, .int 1), (2, .int 0), (3, .int 0), (9, .int 0), (10, .int 0), (11, .int 0), (12, .int 0), (27, .int 0), (55, .ref md), (79, .int 0), (83, .int 0), (88, .ref ml), (95, .int 0), (138, .ref mch)]) : Met l yX13_thrown (Cond.code yX13_thrown cX13_thrown 1 (some .int) :: BG) ({ frames := 1, cells := 0, slots := 0, locals := 12 }) (va_Pc [.ref m0] (fun U => U.heap.size = sz ∧ va_P (dC, dI) CL [(m0, .inr (13, m0g))] U.heap ∧ va_K (dC, dI) CL [] U ∧ va_D (fun _ => True) [(m0, .inr (13, m0g))] ∧ th (va_A [(m0, .inr (13, m0g))] sz) U U.heap)) (va_Qi (fun (r : Int32) (_ : Unit) => r = 1) (fun _ t => ∃ (m0y : List Value), fx m0y 225 [(0, .int 1), (2, .int 0), (3, .int 0), (9, .int 0), (10, .int 0), (11, .int 0), (12, .int 0), (27, .int 0), (55, .ref md), (79, .int 0), (83, .int 0), (88, .ref ml), (95, .int 0), (138, .ref mch)] ∧ va_P (dC, dI) CL [(m0, .inr (13, m0y))] t.heap ∧ va_K (dC, dI) CL [] t ∧ va_D (va_A [(m0, .inr (13, m0g))] sz) [(m0, .inr (13, m0y))]) (va_A [(m0, .inr (13, m0g))] sz)) 0 0 (va_A [(m0, .inr (13, m0g))] sz) := by
  refine Met.ofW (cc := cX13_thrown) (maxL := 1) (ret := (some .int)) (by decide) rfl ?_
  intro p e s m args below meth c s₁ B hml hv
  obtain ⟨rfl, hsz, hP, hK, hD0, hth⟩ := hv
  have hx := B.exec
  have hb := B.bytes
  have hr := B.returns
  have hts : ∀ w ∈ BG, w.before _ s = true := fun w h => atoms_spec (ws := Cond.code yX13_thrown cX13_thrown 1 (some .int) :: BG) B.pre w (List.mem_cons_of_mem _ h)
  have hown : s.vm.findClass RX13 = some m.cls := findClass_of_methodNamed B.named
  have hlocks := B.notSynchronized
  subst hsz
  have hD := hD0.self (sz := s.heap.size)
  generalize hAe : va_A [(m0, .inr (13, m0g))] s.heap.size = A at hD hth ⊢
  have hA : ∀ q : Nat, s.heap.size ≤ q → A q := fun q h => by rw [← hAe]; exact Or.inr h
  have hS : va_S A s.heap s.heap [] := va_S.rf
  have hl := lv_entry ([.ref m0]) (n := 1) (Nat.le_of_ble_eq_true rfl)
  rw [lg_entry_eq]
  generalize (lg_sl ([.ref m0]) ++ List.replicate (1 - (lg_sl ([.ref m0])).length) Slot.unset).toArray = ls at hl ⊢
  have hl : lv_has ls 1 [(0, .ref m0)] := hl
  obtain ⟨H, eH⟩ : ∃ z, z = s.heap := ⟨_, rfl⟩
  have hP : va_P (dC, dI) CL [(m0, .inr (13, m0g))] H := by rw [eH]; exact hP
  have hS : va_S A s.heap H [] := by rw [eH]; exact hS
  rw [← eH]
  refine lv_aload_n hx hb dX13_thrown_0 rfl (lv_at hl 0 rfl) ?_
  refine va_get (D := (dC, dI)) (ci := 13) (v := .int 1) (C := RX13) (T := TX13) (N := 225) hx hb hts inX13 hown hK hP 0 rfl rfl 0 (by decide) (hts (.fieldLink RX13 1 "ChipFlowModel" "code" "I") wd_3032) (fun _ h9 => h9) (h_m0.get 0 rfl) dX13_thrown_1 ?_
  exact W.iret (v := 1) hx hb hr (fun t ht hW => ⟨⟨1, (), rfl, rfl, m0g, h_m0, by rw [ht]; exact hP, va_K.moved hW.alike hK, hD⟩, hS.F ht⟩) hS.2.2 dX13_thrown_4
set_option maxHeartbeats 4000000 in
set_option maxRecDepth 100000 in
theorem gx42_X12_drop (l : Launch) (hlt : l.stackTraces = false) (dC : Nat → ClassId) (dI : Nat → Nat → Nat) (sz : Nat) (p0 : Int32) (p1 : Int32) (x deA liA chA : Nat) (xg : List Value) (h_x : fx xg 17 [(7, .ref deA), (8, .ref liA), (9, .ref chA)]) (zn : ¬ p0 < 0) (zp : 2 < p0) (zq : ¬ p0 ≤ 2) : vx_Met l yX12_drop (Cond.code yX12_drop cX12_drop 3 none :: BG) ({ frames := 7, cells := 1, slots := 6, locals := 130 }) (va_Pc [.ref x, .int p0, .int p1] (fun U => U.heap.size = sz ∧ va_P (dC, dI) CL [(x, .inr (12, xg))] U.heap ∧ va_K (dC, dI) CL [] U ∧ va_D (fun _ => True) [(x, .inr (12, xg))] ∧ th (va_A [(x, .inr (12, xg))] sz) U U.heap)) (fun _ _ _ _ => False) (vx_X (fun _ : Unit => True) (fun E _ t => E = "java/lang/IllegalArgumentException" ∧ ∃ (xy : List Value), fx xy 17 [(7, .ref deA), (8, .ref liA), (9, .ref chA)] ∧ va_P (dC, dI) CL [(x, .inr (12, xy))] t.heap ∧ va_K (dC, dI) CL [] t ∧ va_D (va_A [(x, .inr (12, xg))] sz) [(x, .inr (12, xy))]) (va_A [(x, .inr (12, xg))] sz)) 1 6 (va_A [(x, .inr (12, xg))] sz) := by
  refine vx_ofW (cc := cX12_drop) (maxL := 3) (ret := none) (by decide) rfl ?_
  intro p e s m args below meth c s₁ B hml ht0 hv
  obtain ⟨rfl, hsz, hP, hK, hD0, hth⟩ := hv
  have hx := B.exec
  have hb := B.bytes
  have hr := B.returns
  have hts : ∀ w ∈ BG, w.before _ s = true := fun w h => atoms_spec (ws := Cond.code yX12_drop cX12_drop 3 none :: BG) B.pre w (List.mem_cons_of_mem _ h)
  have hown : s.vm.findClass RX12 = some m.cls := findClass_of_methodNamed B.named
  have hlocks := B.notSynchronized
  subst hsz
  have hD := hD0.self (sz := s.heap.size)
  generalize hAe : va_A [(x, .inr (12, xg))] s.heap.size = A at hD hth ⊢
  have hA : ∀ q : Nat, s.heap.size ≤ q → A q := fun q h => by rw [← hAe]; exact Or.inr h
  have hS : va_S A s.heap s.heap [] := va_S.rf
  have hl := lv_entry ([.ref x, .int p0, .int p1]) (n := 3) (Nat.le_of_ble_eq_true rfl)
  rw [lg_entry_eq]
  generalize (lg_sl ([.ref x, .int p0, .int p1]) ++ List.replicate (3 - (lg_sl ([.ref x, .int p0, .int p1])).length) Slot.unset).toArray = ls at hl ⊢
  have hl : lv_has ls 3 [(0, .ref x), (1, .int p0), (2, .int p1)] := hl
  obtain ⟨H, eH⟩ : ∃ z, z = s.heap := ⟨_, rfl⟩
  have hP : va_P (dC, dI) CL [(x, .inr (12, xg))] H := by rw [eH]; exact hP
  have hS : va_S A s.heap H [] := by rw [eH]; exact hS
  rw [← eH]
  refine lv_iload_n hx hb dX12_drop_0 rfl (lv_at hl 1 rfl) ?_
  refine lv_if_lt (tgt := 13) hx hb dX12_drop_1 (by decide) (fun c9 => ?_) (fun c9 => ?_)
  · first | exact absurd c9 zn | exact absurd zn c9
  refine lv_iload_n hx hb dX12_drop_4 rfl (lv_at hl 1 rfl) ?_
  refine lv_iconst (v := 2) hx hb dX12_drop_5 (by decide +kernel) ?_
  refine lv_icmp_gt (tgt := 13) hx hb dX12_drop_6 (by decide) (fun c9 => ?_) (fun c9 => ?_)
  rotate_left
  · first | exact absurd c9 zp | exact absurd zp c9
  refine lv_iconst (v := 0) hx hb dX12_drop_13 (by decide +kernel) ?_
  have hF0 : ∀ q, va_A [] H.size q → A q := fun q h => h.elim (fun ⟨k9, e9, h9⟩ => by simp at h9) (fun h9 => hA q (Nat.le_trans hS.1 h9))
  refine vx_callv (vx_runS (As := [.int 0]) (rest := []) ⟨hx, hb, hml, hown, hts⟩ (ct_X12_needRange l hlt H.size 0) (cwS 1 hts (gi_S wd_1328 wd_1329 wd_327 wd_1330) rfl rfl rfl (by decide +kernel) ⟨(Nat.le_of_ble_eq_true rfl), (Nat.le_of_ble_eq_true rfl)⟩) ⟨fun a U g mk q => ⟨q.1, q.2.1, th.moved (u := U) (U := U.calling g mk a) (Vm.Alike.refl U.vm) q.2.2⟩, fun U hU hW => ⟨rfl, by rw [hU], by rw [hU]; exact ((hth.kept hS.2.1).narrow hF0).moved hW.alike⟩⟩ rfl rfl hl.1 rfl (lv_room (Nat.le_of_ble_eq_true rfl)) dX12_drop_14 ⟨(Nat.le_of_ble_eq_true rfl), (Nat.le_of_ble_eq_true rfl)⟩) hS (fun q _ h => hF0 q h) hF0 (fun q _ h => hF0 q h) (fun E ce q9 u t H1 locs ht hvm hp hB hz hk hS hce hcv hcl => ?_) (fun u t H1 locs ht hvm hp hB hz hk hS => absurd rfl hp)
  subst hB
  have hP : va_P (dC, dI) CL [(x, .inr (12, xg))] H1 := hP.kept (fun k q h9 => hk _ (vx_lt hP h9) (fun h8 => h8.elim (fun ⟨k9, e9, h7⟩ => by simp at h7) (fun h7 => absurd (vx_lt hP h9) (Nat.not_lt.mpr h7))))
  generalize H1 = H at hP hS hce ⊢
  exact vx_out (fun x h9 => (ht0 x h9).elim) hlocks hce hcv hcl (fun t ht hvm9 => ⟨(), trivial, ⟨rfl, xg, h_x, by rw [ht]; exact hP, va_K.moved hvm9 hK, hD⟩, hS.F ht⟩) hS.2.2 (Nat.le_of_ble_eq_true rfl) (Nat.le_of_ble_eq_true rfl)
set_option maxHeartbeats 4000000 in
set_option maxRecDepth 100000 in
theorem gx41_L_drop (l : Launch) (hlt : l.stackTraces = false) (dC : Nat → ClassId) (dI : Nat → Nat → Nat) (sz : Nat) (p0 : Int32) (p1 : Int32) (x deA liA chA : Nat) (xg : List Value) (h_x : fx xg 17 [(7, .ref deA), (8, .ref liA), (9, .ref chA)]) (zn : ¬ p0 < 0) (zp : 2 < p0) (zq : ¬ p0 ≤ 2) : Met l yL_drop (Cond.codeWith yL_drop cL_drop 4 (some .int) [(0, 6, 9, 19), (0, 6, 12, 32)] :: BG) ({ frames := 8, cells := 1, slots := 6, locals := 152 }) (va_Pc [.ref x, .int p0, .int p1] (fun U => U.heap.size = sz ∧ va_P (dC, dI) CL [(x, .inr (12, xg))] U.heap ∧ va_K (dC, dI) CL [] U ∧ va_D (fun _ => True) [(x, .inr (12, xg))] ∧ th (va_A [(x, .inr (12, xg))] sz) U U.heap)) (va_Qi (fun (r : Int32) (_ : Unit) => r = 1) (fun _ t => ∃ (xy : List Value), fx xy 17 [(7, .ref deA), (8, .ref liA), (9, .ref chA)] ∧ va_P (dC, dI) CL [(x, .inr (12, xy))] t.heap ∧ va_K (dC, dI) CL [] t ∧ va_D (va_A [(x, .inr (12, xg))] sz) [(x, .inr (12, xy))]) (va_A [(x, .inr (12, xg))] sz)) 1 6 (va_A [(x, .inr (12, xg))] sz) := by
  refine va_MetW (hh := [(0, 6, 9, 19), (0, 6, 12, 32)]) (cc := cL_drop) (maxL := 4) (ret := (some .int)) (by decide) rfl ?_
  intro p e s m args below meth c s₁ B hml hv
  obtain ⟨rfl, hsz, hP, hK, hD0, hth⟩ := hv
  have hx := B.exec
  have hb := B.bytes
  have hr := B.returns
  have hts : ∀ w ∈ BG, w.before _ s = true := fun w h => atoms_spec (ws := Cond.codeWith yL_drop cL_drop 4 (some .int) [(0, 6, 9, 19), (0, 6, 12, 32)] :: BG) B.pre w (List.mem_cons_of_mem _ h)
  have hown : s.vm.findClass RL = some m.cls := findClass_of_methodNamed B.named
  have hlocks := B.notSynchronized
  subst hsz
  have hD := hD0.self (sz := s.heap.size)
  generalize hAe : va_A [(x, .inr (12, xg))] s.heap.size = A at hD hth ⊢
  have hA : ∀ q : Nat, s.heap.size ≤ q → A q := fun q h => by rw [← hAe]; exact Or.inr h
  have hS : va_S A s.heap s.heap [] := va_S.rf
  have hl := lv_entry ([.ref x, .int p0, .int p1]) (n := 4) (Nat.le_of_ble_eq_true rfl)
  rw [lg_entry_eq]
  generalize (lg_sl ([.ref x, .int p0, .int p1]) ++ List.replicate (4 - (lg_sl ([.ref x, .int p0, .int p1])).length) Slot.unset).toArray = ls at hl ⊢
  have hl : lv_has ls 4 [(0, .ref x), (1, .int p0), (2, .int p1)] := hl
  obtain ⟨H, eH⟩ : ∃ z, z = s.heap := ⟨_, rfl⟩
  have hP : va_P (dC, dI) CL [(x, .inr (12, xg))] H := by rw [eH]; exact hP
  have hS : va_S A s.heap H [] := by rw [eH]; exact hS
  rw [← eH]
  have hT : c.exceptionTable.toList = tableOf [(0, 6, 9, 19), (0, 6, 12, 32)] := vx_table (x := yL_drop) B (atoms_spec (ws := Cond.codeWith yL_drop cL_drop 4 (some .int) [(0, 6, 9, 19), (0, 6, 12, 32)] :: BG) B.pre _ List.mem_cons_self)
  refine lv_aload_n hx hb dL_drop_0 rfl (lv_at hl 0 rfl) ?_
  refine lv_iload_n hx hb dL_drop_1 rfl (lv_at hl 1 rfl) ?_
  refine lv_iload_n hx hb dL_drop_2 rfl (lv_at hl 2 rfl) ?_
  have hFc := va_free (wc := [(x, .inr (12, xg))]) hD hS hA [0] rfl
  refine vq_thr (vx_runV (As := [.int p0, .int p1]) (rest := []) ⟨hx, hb, hml, hown, hts⟩ (gx42_X12_drop l hlt dC dI _ p0 p1 x deA liA chA xg h_x zn zp zq) (cwV 2 hts (gi_V wd_1805 wd_1806 wd_1807 wd_327 wd_1808) rfl rfl rfl (by decide +kernel) ⟨(Nat.le_of_ble_eq_true rfl), (Nat.le_of_ble_eq_true rfl)⟩) ⟨fun a U g mk q => by obtain ⟨q0, q1, qP, qK, qD, qT⟩ := q; exact ⟨q0, q1, qP, va_K.moved (u := U) (U := U.calling g mk a) (Vm.Alike.refl U.vm) qK, qD, th.moved (u := U) (U := U.calling g mk a) (Vm.Alike.refl U.vm) qT⟩, va_recv hK hP (ci := 12) (q0 := 0) rfl rfl, fun U hU hW => ⟨rfl, by rw [hU], by rw [hU]; exact hP, va_K.moved hW.alike hK, hD.weaken (fun _ _ _ _ => trivial), by rw [hU]; exact ((hth.kept hS.2.1).narrow hFc).moved hW.alike⟩⟩ rfl rfl hl.1 rfl (lv_room (Nat.le_of_ble_eq_true rfl)) dL_drop_3 ⟨(Nat.le_of_ble_eq_true rfl), (Nat.le_of_ble_eq_true rfl)⟩) (fun _ _ _ h => h) hS hFc (fun q _ h => hFc q h) (fun E ce q9 u t H1 locs ht hvm hp hB hz hk hS hce hcv hcl => ?_)
  obtain ⟨hE, hB⟩ := hB
  subst hE
  obtain ⟨fs_1, h_x, hP1, hK1, hD1⟩ := hB
  rw [ht] at hP1
  have hD := hD1.weaken (fun k q _ h => hFc q.1 h)
  have hP := hP1
  generalize H1 = H at hP hS hce ⊢
  have hP : va_P (dC, dI) CL [(x, .inr (12, fs_1))] H := hP
  have hD : va_D A [(x, .inr (12, fs_1))] := hD
  refine vx_catch (own := RL) (name := "java/lang/IllegalArgumentException") hown [] { startPc := 0, endPc := 6, handlerPc := 9, catchType := 19 } [{ startPc := 0, endPc := 6, handlerPc := 12, catchType := 32 }] (by rw [hT]; rfl) (fun _ h => nomatch h) (by decide) (by decide) (hts (.classLink RL 19 "java/lang/IllegalArgumentException") wd_1323) (hth.cast (by decide)) hce hcv hcl ?_
  refine W.widen (k := 1) (n := 6) (Nat.le_of_ble_eq_true rfl) (Nat.le_of_ble_eq_true rfl) ?_
  refine lv_astore_n (lv' := [(3, .ref q9), (0, .ref x), (1, .int p0), (2, .int p1)]) hx hb dL_drop_9 rfl hl (by decide) rfl (fun ls hl => ?_)
  refine lv_iconst (v := 1) hx hb dL_drop_10 (by decide +kernel) ?_
  refine W.widen (k := 1) (n := 6) (Nat.le_of_ble_eq_true rfl) (Nat.le_of_ble_eq_true rfl) ?_
  exact W.iret (v := 1) hx hb hr (fun t ht hW => ⟨⟨1, (), rfl, rfl, fs_1, h_x, by rw [ht]; exact hP, va_K.moved hW.alike hK, hD⟩, hS.F ht⟩) hS.2.2 dL_drop_11
set_option maxHeartbeats 4000000 in
set_option maxRecDepth 100000 in
theorem gx44_X13_within (l : Launch) (hlt : l.stackTraces = false) (dC : Nat → ClassId) (dI : Nat → Nat → Nat) (sz : Nat) (p0 : Int32) (m0 md ml mch : Nat) (m0g : List Value) (h_m0 : fx m0g 225 [(0, .int 0), (2, .int 0), (3, .int 0), (9, .int 0), (10, .int 0), (11, .int 0), (12, .int 0), (27, .int 0), (55, .ref md), (79, .int 0), (83, .int 0), (88, .ref ml), (95, .int 0), (138, .ref mch)]) (zn : ¬ p0 < 0) (zp : 2 < p0) (zq : ¬ p0 ≤ 2) : Met l yX13_within (Cond.code yX13_within cX13_within 3 (some .boolean) :: BG) ({ frames := 1, cells := 0, slots := 0, locals := 12 }) (va_Pc [.int p0, .int 0, .int 2] (fun U => U.heap.size = sz ∧ va_P (dC, dI) CL [(m0, .inr (13, m0g))] U.heap ∧ va_K (dC, dI) CL [] U ∧ va_D (fun _ => True) [(m0, .inr (13, m0g))] ∧ th (va_A [(m0, .inr (13, m0g))] sz) U U.heap)) (va_Qi (fun (r : Int32) (_ : Unit) => r = 0) (fun _ t => ∃ (m0y : List Value), fx m0y 225 [(0, .int 0), (2, .int 0), (3, .int 0), (9, .int 0), (10, .int 0), (11, .int 0), (12, .int 0), (27, .int 0), (55, .ref md), (79, .int 0), (83, .int 0), (88, .ref ml), (95, .int 0), (138, .ref mch)] ∧ va_P (dC, dI) CL [(m0, .inr (13, m0y))] t.heap ∧ va_K (dC, dI) CL [] t ∧ va_D (va_A [(m0, .inr (13, m0g))] sz) [(m0, .inr (13, m0y))]) (va_A [(m0, .inr (13, m0g))] sz)) 0 0 (va_A [(m0, .inr (13, m0g))] sz) := by
  refine Met.ofW (cc := cX13_within) (maxL := 3) (ret := (some .boolean)) (by decide) rfl ?_
  intro p e s m args below meth c s₁ B hml hv
  obtain ⟨rfl, hsz, hP, hK, hD0, hth⟩ := hv
  have hx := B.exec
  have hb := B.bytes
  have hr := B.returns
  have hts : ∀ w ∈ BG, w.before _ s = true := fun w h => atoms_spec (ws := Cond.code yX13_within cX13_within 3 (some .boolean) :: BG) B.pre w (List.mem_cons_of_mem _ h)
  have hown : s.vm.findClass RX13 = some m.cls := findClass_of_methodNamed B.named
  have hlocks := B.notSynchronized
  subst hsz
  have hD := hD0.self (sz := s.heap.size)
  generalize hAe : va_A [(m0, .inr (13, m0g))] s.heap.size = A at hD hth ⊢
  have hA : ∀ q : Nat, s.heap.size ≤ q → A q := fun q h => by rw [← hAe]; exact Or.inr h
  have hS : va_S A s.heap s.heap [] := va_S.rf
  have hl := lv_entry ([.int p0, .int 0, .int 2]) (n := 3) (Nat.le_of_ble_eq_true rfl)
  rw [lg_entry_eq]
  generalize (lg_sl ([.int p0, .int 0, .int 2]) ++ List.replicate (3 - (lg_sl ([.int p0, .int 0, .int 2])).length) Slot.unset).toArray = ls at hl ⊢
  have hl : lv_has ls 3 [(0, .int p0), (1, .int 0), (2, .int 2)] := hl
  obtain ⟨H, eH⟩ : ∃ z, z = s.heap := ⟨_, rfl⟩
  have hP : va_P (dC, dI) CL [(m0, .inr (13, m0g))] H := by rw [eH]; exact hP
  have hS : va_S A s.heap H [] := by rw [eH]; exact hS
  rw [← eH]
  refine lv_iload_n hx hb dX13_within_0 rfl (lv_at hl 0 rfl) ?_
  refine lv_iload_n hx hb dX13_within_1 rfl (lv_at hl 1 rfl) ?_
  refine lv_icmp_lt (tgt := 14) hx hb dX13_within_2 (by decide) (fun c9 => ?_) (fun c9 => ?_)
  · first | exact absurd c9 zn | exact absurd zn c9
  refine lv_iload_n hx hb dX13_within_5 rfl (lv_at hl 0 rfl) ?_
  refine lv_iload_n hx hb dX13_within_6 rfl (lv_at hl 2 rfl) ?_
  refine lv_icmp_gt (tgt := 14) hx hb dX13_within_7 (by decide) (fun c9 => ?_) (fun c9 => ?_)
  rotate_left
  · first | exact absurd c9 zp | exact absurd zp c9
  refine lv_iconst (v := 0) hx hb dX13_within_14 (by decide +kernel) ?_
  exact W.zret (v := 0) hx hb hr rfl (fun t ht hW => ⟨⟨0, (), rfl, rfl, m0g, h_m0, by rw [ht]; exact hP, va_K.moved hW.alike hK, hD⟩, hS.F ht⟩) hS.2.2 dX13_within_15
set_option maxHeartbeats 4000000 in
set_option maxRecDepth 100000 in
theorem gx43_X13_drop (l : Launch) (hlt : l.stackTraces = false) (dC : Nat → ClassId) (dI : Nat → Nat → Nat) (sz : Nat) (p0 : Int32) (p1 : Int32) (m0 md ml mch : Nat) (m0g : List Value) (h_m0 : fx m0g 225 [(0, .int 0), (2, .int 0), (3, .int 0), (9, .int 0), (10, .int 0), (11, .int 0), (12, .int 0), (27, .int 0), (55, .ref md), (79, .int 0), (83, .int 0), (88, .ref ml), (95, .int 0), (138, .ref mch)]) (zn : ¬ p0 < 0) (zp : 2 < p0) (zq : ¬ p0 ≤ 2) : Met l yX13_drop (Cond.code yX13_drop cX13_drop 3 none :: BG) ({ frames := 2, cells := 0, slots := 0, locals := 34 }) (va_Pc [.ref m0, .int p0, .int p1] (fun U => U.heap.size = sz ∧ va_P (dC, dI) CL [(m0, .inr (13, m0g))] U.heap ∧ va_K (dC, dI) CL [] U ∧ va_D (fun _ => True) [(m0, .inr (13, m0g))] ∧ th (va_A [(m0, .inr (13, m0g))] sz) U U.heap)) (va_Qv (fun _ : Unit => True) (fun _ t => ∃ (m0y : List Value), fx m0y 225 [(0, .int 1), (2, .int 0), (3, .int 0), (9, .int 0), (10, .int 0), (11, .int 0), (12, .int 0), (27, .int 0), (55, .ref md), (79, .int 0), (83, .int 0), (88, .ref ml), (95, .int 0), (138, .ref mch)] ∧ va_P (dC, dI) CL [(m0, .inr (13, m0y))] t.heap ∧ va_K (dC, dI) CL [] t ∧ va_D (va_A [(m0, .inr (13, m0g))] sz) [(m0, .inr (13, m0y))]) (va_A [(m0, .inr (13, m0g))] sz)) 0 0 (va_A [(m0, .inr (13, m0g))] sz) := by
  refine Met.ofW (cc := cX13_drop) (maxL := 3) (ret := none) (by decide) rfl ?_
  intro p e s m args below meth c s₁ B hml hv
  obtain ⟨rfl, hsz, hP, hK, hD0, hth⟩ := hv
  have hx := B.exec
  have hb := B.bytes
  have hr := B.returns
  have hts : ∀ w ∈ BG, w.before _ s = true := fun w h => atoms_spec (ws := Cond.code yX13_drop cX13_drop 3 none :: BG) B.pre w (List.mem_cons_of_mem _ h)
  have hown : s.vm.findClass RX13 = some m.cls := findClass_of_methodNamed B.named
  have hlocks := B.notSynchronized
  subst hsz
  have hD := hD0.self (sz := s.heap.size)
  generalize hAe : va_A [(m0, .inr (13, m0g))] s.heap.size = A at hD hth ⊢
  have hA : ∀ q : Nat, s.heap.size ≤ q → A q := fun q h => by rw [← hAe]; exact Or.inr h
  have hS : va_S A s.heap s.heap [] := va_S.rf
  have hl := lv_entry ([.ref m0, .int p0, .int p1]) (n := 3) (Nat.le_of_ble_eq_true rfl)
  rw [lg_entry_eq]
  generalize (lg_sl ([.ref m0, .int p0, .int p1]) ++ List.replicate (3 - (lg_sl ([.ref m0, .int p0, .int p1])).length) Slot.unset).toArray = ls at hl ⊢
  have hl : lv_has ls 3 [(0, .ref m0), (1, .int p0), (2, .int p1)] := hl
  obtain ⟨H, eH⟩ : ∃ z, z = s.heap := ⟨_, rfl⟩
  have hP : va_P (dC, dI) CL [(m0, .inr (13, m0g))] H := by rw [eH]; exact hP
  have hS : va_S A s.heap H [] := by rw [eH]; exact hS
  rw [← eH]
  refine lv_aload_n hx hb dX13_drop_0 rfl (lv_at hl 0 rfl) ?_
  refine lv_iload_n hx hb dX13_drop_1 rfl (lv_at hl 1 rfl) ?_
  refine lv_iconst (v := 0) hx hb dX13_drop_2 (by decide +kernel) ?_
  refine lv_iconst (v := 2) hx hb dX13_drop_3 (by decide +kernel) ?_
  have hFc := va_free (wc := [(m0, .inr (13, m0g))]) hD hS hA [0] rfl
  refine va_calli (va_runS (As := [.int p0, .int 0, .int 2]) (rest := [.ref m0]) ⟨hx, hb, hml, hown, hts⟩ (gx44_X13_within l hlt dC dI _ p0 m0 md ml mch m0g h_m0 zn zp zq) (cwS 3 hts (gi_S wd_3825 wd_3826 wd_340 wd_3827) rfl rfl rfl (by decide +kernel) ⟨(Nat.le_of_ble_eq_true rfl), (Nat.le_of_ble_eq_true rfl)⟩) ⟨fun a U g mk q => by obtain ⟨q0, q1, qP, qK, qD, qT⟩ := q; exact ⟨q0, q1, qP, va_K.moved (u := U) (U := U.calling g mk a) (Vm.Alike.refl U.vm) qK, qD, th.moved (u := U) (U := U.calling g mk a) (Vm.Alike.refl U.vm) qT⟩, fun U hU hW => ⟨rfl, by rw [hU], by rw [hU]; exact hP, va_K.moved hW.alike hK, hD.weaken (fun _ _ _ _ => trivial), by rw [hU]; exact ((hth.kept hS.2.1).narrow hFc).moved hW.alike⟩⟩ rfl rfl hl.1 rfl (lv_room (Nat.le_of_ble_eq_true rfl)) dX13_drop_4 ⟨(Nat.le_of_ble_eq_true rfl), (Nat.le_of_ble_eq_true rfl)⟩) hS (fun q _ h => hFc q h) hFc (fun r u t H1 locs ht hvm hw hB hz1 hk1 hS => ?_)
  subst hw
  obtain ⟨fs_1, h_m0, hP1, hK1, hD1⟩ := hB
  rw [ht] at hP1
  have hD := hD1.weaken (fun k q _ h => hFc q.1 h)
  have hP := hP1
  generalize H1 = H at hP hS ⊢
  have hP : va_P (dC, dI) CL [(m0, .inr (13, fs_1))] H := hP
  have hD : va_D A [(m0, .inr (13, fs_1))] := hD
  refine lv_if_ne (tgt := 14) hx hb dX13_drop_7 (by decide) (fun c9 => ?_) (fun c9 => ?_)
  · first | exact absurd c9 (by decide +kernel) | exact absurd (by decide +kernel) c9
  refine lv_iconst (v := 1) hx hb dX13_drop_10 (by decide +kernel) ?_
  refine lv_goto (tgt := 28) hx hb dX13_drop_11 (by decide) ?_
  refine va_put (D := (dC, dI)) (ci := 13) (v := .int 1) (ty := tyX13 0) (C := RX13) (T := TX13) (N := 225) hx hb hts inX13 tyX13 tyX13_ok nmX13 hown hK hP hD hS 0 rfl rfl 0 (by decide) (hts (.fieldLink RX13 1 "ChipFlowModel" "code" "I") wd_3032) (fun _ h9 => h9) rfl (by decide +kernel) rfl rfl (by rw [h_m0.1]; decide) dX13_drop_28 (fun H locs hP hD hS => ?_)
  obtain ⟨fs_2, e9⟩ : ∃ z, z = fs_1.set 0 (.int 1) := ⟨_, rfl⟩
  have h_m0 : fx fs_2 225 [(0, .int 1), (2, .int 0), (3, .int 0), (9, .int 0), (10, .int 0), (11, .int 0), (12, .int 0), (27, .int 0), (55, .ref md), (79, .int 0), (83, .int 0), (88, .ref ml), (95, .int 0), (138, .ref mch)] := by rw [e9]; exact (h_m0.put (F' := [(0, .int 1), (2, .int 0), (3, .int 0), (9, .int 0), (10, .int 0), (11, .int 0), (12, .int 0), (27, .int 0), (55, .ref md), (79, .int 0), (83, .int 0), (88, .ref ml), (95, .int 0), (138, .ref mch)]) (by decide) _ rfl).sub [0, 1, 2, 3, 4, 5, 6, 7, 8, 9, 10, 11, 12, 13] rfl
  have hP : va_P (dC, dI) CL [(m0, .inr (13, fs_2))] H := by rw [e9]; exact hP
  have hD : va_D A [(m0, .inr (13, fs_2))] := by rw [e9]; exact hD
  clear e9
  refine lv_aload_n hx hb dX13_drop_31 rfl (lv_at hl 0 rfl) ?_
  refine va_get (D := (dC, dI)) (ci := 13) (v := .int 1) (C := RX13) (T := TX13) (N := 225) hx hb hts inX13 hown hK hP 0 rfl rfl 0 (by decide) (hts (.fieldLink RX13 1 "ChipFlowModel" "code" "I") wd_3032) (fun _ h9 => h9) (h_m0.get 0 rfl) dX13_drop_32 ?_
  refine lv_if_le (tgt := 39) hx hb dX13_drop_35 (by decide) (fun c9 => ?_) (fun c9 => ?_)
  · first | exact absurd c9 (by decide +kernel) | exact absurd (by decide +kernel) c9
  exact W.vret hx hb hr (fun t ht hW => ⟨⟨(), rfl, trivial, fs_2, h_m0, by rw [ht]; exact hP, va_K.moved hW.alike hK, hD⟩, hS.F ht⟩) hS.2.2 dX13_drop_38
set_option maxHeartbeats 4000000 in
set_option maxRecDepth 100000 in
theorem gx46_X12_drop (l : Launch) (hlt : l.stackTraces = false) (dC : Nat → ClassId) (dI : Nat → Nat → Nat) (sz : Nat) (p1 : Int32) (x deA de0 de1 de2 de3 de4 de5 liA chA : Nat) (xg : List Value) (h_x : fx xg 17 [(7, .ref deA), (8, .ref liA), (9, .ref chA)]) (deAC : ClassId) (deAF : Nat → Option Nat) (de0g : List Value) (h_de0 : fx de0g 16 [(0, .int 0)]) (de1g : List Value) (h_de1 : fx de1g 16 [(0, .int 0)]) (de2g : List Value) (h_de2 : fx de2g 16 [(0, .int 0)]) (de3g : List Value) (h_de3 : fx de3g 16 [(0, .int 0)]) (de4g : List Value) (h_de4 : fx de4g 16 [(0, .int 0)]) (de5g : List Value) (h_de5 : fx de5g 16 [(0, .int 0)]) (h_deA0 : deAF 0 = some de0) (h_deA1 : deAF 1 = some de1) (h_deA2 : deAF 2 = some de2) (h_deA3 : deAF 3 = some de3) (h_deA4 : deAF 4 = some de4) (h_deA5 : deAF 5 = some de5) : vx_Met l yX12_drop (Cond.code yX12_drop cX12_drop 3 none :: BG) ({ frames := 8, cells := 2, slots := 12, locals := 151 }) (va_Pc [.ref x, .int 0, .int p1] (fun U => U.heap.size = sz ∧ va_P (dC, dI) CL [(x, .inr (12, xg)), (deA, .inl (deAC, (6, .inr (.inr (.inr (.inr deAF)))))), (de0, .inr (3, de0g)), (de1, .inr (3, de1g)), (de2, .inr (3, de2g)), (de3, .inr (3, de3g)), (de4, .inr (3, de4g)), (de5, .inr (3, de5g))] U.heap ∧ va_K (dC, dI) CL [(deAC, .object "ChipFlow$Design")] U ∧ va_D (fun _ => True) [(x, .inr (12, xg)), (deA, .inl (deAC, (6, .inr (.inr (.inr (.inr deAF)))))), (de0, .inr (3, de0g)), (de1, .inr (3, de1g)), (de2, .inr (3, de2g)), (de3, .inr (3, de3g)), (de4, .inr (3, de4g)), (de5, .inr (3, de5g))] ∧ th (va_A [(x, .inr (12, xg)), (deA, .inl (deAC, (6, .inr (.inr (.inr (.inr deAF)))))), (de0, .inr (3, de0g)), (de1, .inr (3, de1g)), (de2, .inr (3, de2g)), (de3, .inr (3, de3g)), (de4, .inr (3, de4g)), (de5, .inr (3, de5g))] sz) U U.heap)) (fun _ _ _ _ => False) (vx_X (fun _ : Unit => True) (fun E _ t => E = "java/lang/IndexOutOfBoundsException" ∧ va_P (dC, dI) CL [] t.heap ∧ va_K (dC, dI) CL [] t ∧ va_D (va_A [(x, .inr (12, xg)), (deA, .inl (deAC, (6, .inr (.inr (.inr (.inr deAF)))))), (de0, .inr (3, de0g)), (de1, .inr (3, de1g)), (de2, .inr (3, de2g)), (de3, .inr (3, de3g)), (de4, .inr (3, de4g)), (de5, .inr (3, de5g))] sz) []) (va_A [(x, .inr (12, xg)), (deA, .inl (deAC, (6, .inr (.inr (.inr (.inr deAF)))))), (de0, .inr (3, de0g)), (de1, .inr (3, de1g)), (de2, .inr (3, de2g)), (de3, .inr (3, de3g)), (de4, .inr (3, de4g)), (de5, .inr (3, de5g))] sz)) 2 12 (va_A [(x, .inr (12, xg)), (deA, .inl (deAC, (6, .inr (.inr (.inr (.inr deAF)))))), (de0, .inr (3, de0g)), (de1, .inr (3, de1g)), (de2, .inr (3, de2g)), (de3, .inr (3, de3g)), (de4, .inr (3, de4g)), (de5, .inr (3, de5g))] sz) := by
  refine vx_ofW (cc := cX12_drop) (maxL := 3) (ret := none) (by decide) rfl ?_
  intro p e s m args below meth c s₁ B hml ht0 hv
  obtain ⟨rfl, hsz, hP, hK, hD0, hth⟩ := hv
  have hx := B.exec
  have hb := B.bytes
  have hr := B.returns
  have hts : ∀ w ∈ BG, w.before _ s = true := fun w h => atoms_spec (ws := Cond.code yX12_drop cX12_drop 3 none :: BG) B.pre w (List.mem_cons_of_mem _ h)
  have hown : s.vm.findClass RX12 = some m.cls := findClass_of_methodNamed B.named
  have hlocks := B.notSynchronized
  subst hsz
  have hD := hD0.self (sz := s.heap.size)
  generalize hAe : va_A [(x, .inr (12, xg)), (deA, .inl (deAC, (6, .inr (.inr (.inr (.inr deAF)))))), (de0, .inr (3, de0g)), (de1, .inr (3, de1g)), (de2, .inr (3, de2g)), (de3, .inr (3, de3g)), (de4, .inr (3, de4g)), (de5, .inr (3, de5g))] s.heap.size = A at hD hth ⊢
  have hA : ∀ q : Nat, s.heap.size ≤ q → A q := fun q h => by rw [← hAe]; exact Or.inr h
  have hS : va_S A s.heap s.heap [] := va_S.rf
  have hl := lv_entry ([.ref x, .int 0, .int p1]) (n := 3) (Nat.le_of_ble_eq_true rfl)
  rw [lg_entry_eq]
  generalize (lg_sl ([.ref x, .int 0, .int p1]) ++ List.replicate (3 - (lg_sl ([.ref x, .int 0, .int p1])).length) Slot.unset).toArray = ls at hl ⊢
  have hl : lv_has ls 3 [(0, .ref x), (1, .int 0), (2, .int p1)] := hl
  obtain ⟨H, eH⟩ : ∃ z, z = s.heap := ⟨_, rfl⟩
  have hP : va_P (dC, dI) CL [(x, .inr (12, xg)), (deA, .inl (deAC, (6, .inr (.inr (.inr (.inr deAF)))))), (de0, .inr (3, de0g)), (de1, .inr (3, de1g)), (de2, .inr (3, de2g)), (de3, .inr (3, de3g)), (de4, .inr (3, de4g)), (de5, .inr (3, de5g))] H := by rw [eH]; exact hP
  have hS : va_S A s.heap H [] := by rw [eH]; exact hS
  rw [← eH]
  refine lv_iload_n hx hb dX12_drop_0 rfl (lv_at hl 1 rfl) ?_
  refine lv_if_lt (tgt := 13) hx hb dX12_drop_1 (by decide) (fun c9 => ?_) (fun c9 => ?_)
  · first | exact absurd c9 (by decide +kernel) | exact absurd (by decide +kernel) c9
  refine lv_iload_n hx hb dX12_drop_4 rfl (lv_at hl 1 rfl) ?_
  refine lv_iconst (v := 2) hx hb dX12_drop_5 (by decide +kernel) ?_
  refine lv_icmp_gt (tgt := 13) hx hb dX12_drop_6 (by decide) (fun c9 => ?_) (fun c9 => ?_)
  · first | exact absurd c9 (by decide +kernel) | exact absurd (by decide +kernel) c9
  refine lv_iconst (v := 1) hx hb dX12_drop_9 (by decide +kernel) ?_
  refine lv_goto (tgt := 14) hx hb dX12_drop_10 (by decide) ?_
  have hF0 : ∀ q, va_A [] H.size q → A q := fun q h => h.elim (fun ⟨k9, e9, h9⟩ => by simp at h9) (fun h9 => hA q (Nat.le_trans hS.1 h9))
  refine vx_callv (vx_runS (As := [.int 1]) (rest := []) ⟨hx, hb, hml, hown, hts⟩ (ct_X12_needRange l hlt H.size 1) (cwS 1 hts (gi_S wd_1328 wd_1329 wd_327 wd_1330) rfl rfl rfl (by decide +kernel) ⟨(Nat.le_of_ble_eq_true rfl), (Nat.le_of_ble_eq_true rfl)⟩) ⟨fun a U g mk q => ⟨q.1, q.2.1, th.moved (u := U) (U := U.calling g mk a) (Vm.Alike.refl U.vm) q.2.2⟩, fun U hU hW => ⟨rfl, by rw [hU], by rw [hU]; exact ((hth.kept hS.2.1).narrow hF0).moved hW.alike⟩⟩ rfl rfl hl.1 rfl (lv_room (Nat.le_of_ble_eq_true rfl)) dX12_drop_14 ⟨(Nat.le_of_ble_eq_true rfl), (Nat.le_of_ble_eq_true rfl)⟩) hS (fun q _ h => hF0 q h) hF0 (fun q _ h => hF0 q h) (fun E ce q9 u t H1 locs ht hvm hp hB hz hk hS hce hcv hcl => absurd hp (by decide +kernel)) (fun u t H1 locs ht hvm hp hB hz hk hS => ?_)
  have hP : va_P (dC, dI) CL [(x, .inr (12, xg)), (deA, .inl (deAC, (6, .inr (.inr (.inr (.inr deAF)))))), (de0, .inr (3, de0g)), (de1, .inr (3, de1g)), (de2, .inr (3, de2g)), (de3, .inr (3, de3g)), (de4, .inr (3, de4g)), (de5, .inr (3, de5g))] H1 := hP.kept (fun k q h9 => hk _ (vx_lt hP h9) (fun h8 => h8.elim (fun ⟨k9, e9, h7⟩ => by simp at h7) (fun h7 => absurd (vx_lt hP h9) (Nat.not_lt.mpr h7))))
  generalize H1 = H at hP hS ⊢
  refine W.widen (k := 1) (n := 6) (Nat.le_of_ble_eq_true rfl) (Nat.le_of_ble_eq_true rfl) ?_
  refine lv_iload_n hx hb dX12_drop_17 rfl (lv_at hl 1 rfl) ?_
  refine lv_if_ne (tgt := 33) hx hb dX12_drop_18 (by decide) (fun c9 => ?_) (fun c9 => ?_)
  · first | exact absurd c9 (by decide +kernel) | exact absurd (by decide +kernel) c9
  refine lv_aload_n hx hb dX12_drop_21 rfl (lv_at hl 0 rfl) ?_
  refine lv_iload_n hx hb dX12_drop_22 rfl (lv_at hl 2 rfl) ?_
  have hFc := va_free (wc := [(x, .inr (12, xg)), (deA, .inl (deAC, (6, .inr (.inr (.inr (.inr deAF)))))), (de0, .inr (3, de0g)), (de1, .inr (3, de1g)), (de2, .inr (3, de2g)), (de3, .inr (3, de3g)), (de4, .inr (3, de4g)), (de5, .inr (3, de5g))]) hD hS hA [0, 1, 2, 3, 4, 5, 6, 7] rfl
  refine vq_thr (vx_runV (As := [.int p1]) (rest := []) ⟨hx, hb, hml, hown, hts⟩ (ct_X12_designAt l hlt dC dI _ p1 x xg deA deAC deAF de0 de1 de2 de3 de4 de5 de0g de1g de2g de3g de4g de5g (h_de0.sub [0] rfl) h_deA0 (h_de1.sub [0] rfl) h_deA1 (h_de2.sub [0] rfl) h_deA2 (h_de3.sub [0] rfl) h_deA3 (h_de4.sub [0] rfl) h_deA4 (h_de5.sub [0] rfl) h_deA5 (h_x.sub [0] rfl)) (cwV 1 hts (gi_V wd_1809 wd_1811 wd_62 wd_327 wd_1812) rfl rfl rfl (by decide +kernel) ⟨(Nat.le_of_ble_eq_true rfl), (Nat.le_of_ble_eq_true rfl)⟩) ⟨fun a U g mk q => by obtain ⟨q0, q1, qP, qK, qD, qT⟩ := q; exact ⟨q0, q1, qP, va_K.moved (u := U) (U := U.calling g mk a) (Vm.Alike.refl U.vm) qK, qD, th.moved (u := U) (U := U.calling g mk a) (Vm.Alike.refl U.vm) qT⟩, va_recv hK hP (ci := 12) (q0 := 0) rfl rfl, fun U hU hW => ⟨rfl, by rw [hU], by rw [hU]; exact hP, va_K.moved hW.alike hK, hD.weaken (fun _ _ _ _ => trivial), by rw [hU]; exact ((hth.kept hS.2.1).narrow hFc).moved hW.alike⟩⟩ rfl rfl hl.1 rfl (lv_room (Nat.le_of_ble_eq_true rfl)) dX12_drop_23 ⟨(Nat.le_of_ble_eq_true rfl), (Nat.le_of_ble_eq_true rfl)⟩) (fun _ _ _ h => h) hS hFc (fun q _ h => hFc q h) (fun E ce q9 u t H1 locs ht hvm hp hB hz hk hS hce hcv hcl => ?_)
  subst hB
  have hD : va_D A [] := po_nilD
  have hP : va_P (dC, dI) CL [] H1 := po_nilP
  have hK := hK.sub (tys' := []) [] rfl
  generalize H1 = H at hP hS hce ⊢
  have hP : va_P (dC, dI) CL [] H := hP
  have hD : va_D A [] := hD
  exact vx_out (fun x h9 => (ht0 x h9).elim) hlocks hce hcv hcl (fun t ht hvm9 => ⟨(), trivial, ⟨rfl, by rw [ht]; exact hP, va_K.moved hvm9 hK, hD⟩, hS.F ht⟩) hS.2.2 (Nat.le_of_ble_eq_true rfl) (Nat.le_of_ble_eq_true rfl)
set_option maxHeartbeats 4000000 in
set_option maxRecDepth 100000 in
theorem gx45_L_drop (l : Launch) (hlt : l.stackTraces = false) (dC : Nat → ClassId) (dI : Nat → Nat → Nat) (sz : Nat) (p1 : Int32) (x deA de0 de1 de2 de3 de4 de5 liA chA : Nat) (xg : List Value) (h_x : fx xg 17 [(7, .ref deA), (8, .ref liA), (9, .ref chA)]) (deAC : ClassId) (deAF : Nat → Option Nat) (de0g : List Value) (h_de0 : fx de0g 16 [(0, .int 0)]) (de1g : List Value) (h_de1 : fx de1g 16 [(0, .int 0)]) (de2g : List Value) (h_de2 : fx de2g 16 [(0, .int 0)]) (de3g : List Value) (h_de3 : fx de3g 16 [(0, .int 0)]) (de4g : List Value) (h_de4 : fx de4g 16 [(0, .int 0)]) (de5g : List Value) (h_de5 : fx de5g 16 [(0, .int 0)]) (h_deA0 : deAF 0 = some de0) (h_deA1 : deAF 1 = some de1) (h_deA2 : deAF 2 = some de2) (h_deA3 : deAF 3 = some de3) (h_deA4 : deAF 4 = some de4) (h_deA5 : deAF 5 = some de5) : Met l yL_drop (Cond.codeWith yL_drop cL_drop 4 (some .int) [(0, 6, 9, 19), (0, 6, 12, 32)] :: BG) ({ frames := 9, cells := 2, slots := 12, locals := 173 }) (va_Pc [.ref x, .int 0, .int p1] (fun U => U.heap.size = sz ∧ va_P (dC, dI) CL [(x, .inr (12, xg)), (deA, .inl (deAC, (6, .inr (.inr (.inr (.inr deAF)))))), (de0, .inr (3, de0g)), (de1, .inr (3, de1g)), (de2, .inr (3, de2g)), (de3, .inr (3, de3g)), (de4, .inr (3, de4g)), (de5, .inr (3, de5g))] U.heap ∧ va_K (dC, dI) CL [(deAC, .object "ChipFlow$Design")] U ∧ va_D (fun _ => True) [(x, .inr (12, xg)), (deA, .inl (deAC, (6, .inr (.inr (.inr (.inr deAF)))))), (de0, .inr (3, de0g)), (de1, .inr (3, de1g)), (de2, .inr (3, de2g)), (de3, .inr (3, de3g)), (de4, .inr (3, de4g)), (de5, .inr (3, de5g))] ∧ th (va_A [(x, .inr (12, xg)), (deA, .inl (deAC, (6, .inr (.inr (.inr (.inr deAF)))))), (de0, .inr (3, de0g)), (de1, .inr (3, de1g)), (de2, .inr (3, de2g)), (de3, .inr (3, de3g)), (de4, .inr (3, de4g)), (de5, .inr (3, de5g))] sz) U U.heap)) (va_Qi (fun (r : Int32) (_ : Unit) => r = 2) (fun _ t => va_P (dC, dI) CL [] t.heap ∧ va_K (dC, dI) CL [] t ∧ va_D (va_A [(x, .inr (12, xg)), (deA, .inl (deAC, (6, .inr (.inr (.inr (.inr deAF)))))), (de0, .inr (3, de0g)), (de1, .inr (3, de1g)), (de2, .inr (3, de2g)), (de3, .inr (3, de3g)), (de4, .inr (3, de4g)), (de5, .inr (3, de5g))] sz) []) (va_A [(x, .inr (12, xg)), (deA, .inl (deAC, (6, .inr (.inr (.inr (.inr deAF)))))), (de0, .inr (3, de0g)), (de1, .inr (3, de1g)), (de2, .inr (3, de2g)), (de3, .inr (3, de3g)), (de4, .inr (3, de4g)), (de5, .inr (3, de5g))] sz)) 2 12 (va_A [(x, .inr (12, xg)), (deA, .inl (deAC, (6, .inr (.inr (.inr (.inr deAF)))))), (de0, .inr (3, de0g)), (de1, .inr (3, de1g)), (de2, .inr (3, de2g)), (de3, .inr (3, de3g)), (de4, .inr (3, de4g)), (de5, .inr (3, de5g))] sz) := by
  refine va_MetW (hh := [(0, 6, 9, 19), (0, 6, 12, 32)]) (cc := cL_drop) (maxL := 4) (ret := (some .int)) (by decide) rfl ?_
  intro p e s m args below meth c s₁ B hml hv
  obtain ⟨rfl, hsz, hP, hK, hD0, hth⟩ := hv
  have hx := B.exec
  have hb := B.bytes
  have hr := B.returns
  have hts : ∀ w ∈ BG, w.before _ s = true := fun w h => atoms_spec (ws := Cond.codeWith yL_drop cL_drop 4 (some .int) [(0, 6, 9, 19), (0, 6, 12, 32)] :: BG) B.pre w (List.mem_cons_of_mem _ h)
  have hown : s.vm.findClass RL = some m.cls := findClass_of_methodNamed B.named
  have hlocks := B.notSynchronized
  subst hsz
  have hD := hD0.self (sz := s.heap.size)
  generalize hAe : va_A [(x, .inr (12, xg)), (deA, .inl (deAC, (6, .inr (.inr (.inr (.inr deAF)))))), (de0, .inr (3, de0g)), (de1, .inr (3, de1g)), (de2, .inr (3, de2g)), (de3, .inr (3, de3g)), (de4, .inr (3, de4g)), (de5, .inr (3, de5g))] s.heap.size = A at hD hth ⊢
  have hA : ∀ q : Nat, s.heap.size ≤ q → A q := fun q h => by rw [← hAe]; exact Or.inr h
  have hS : va_S A s.heap s.heap [] := va_S.rf
  have hl := lv_entry ([.ref x, .int 0, .int p1]) (n := 4) (Nat.le_of_ble_eq_true rfl)
  rw [lg_entry_eq]
  generalize (lg_sl ([.ref x, .int 0, .int p1]) ++ List.replicate (4 - (lg_sl ([.ref x, .int 0, .int p1])).length) Slot.unset).toArray = ls at hl ⊢
  have hl : lv_has ls 4 [(0, .ref x), (1, .int 0), (2, .int p1)] := hl
  obtain ⟨H, eH⟩ : ∃ z, z = s.heap := ⟨_, rfl⟩
  have hP : va_P (dC, dI) CL [(x, .inr (12, xg)), (deA, .inl (deAC, (6, .inr (.inr (.inr (.inr deAF)))))), (de0, .inr (3, de0g)), (de1, .inr (3, de1g)), (de2, .inr (3, de2g)), (de3, .inr (3, de3g)), (de4, .inr (3, de4g)), (de5, .inr (3, de5g))] H := by rw [eH]; exact hP
  have hS : va_S A s.heap H [] := by rw [eH]; exact hS
  rw [← eH]
  have hT : c.exceptionTable.toList = tableOf [(0, 6, 9, 19), (0, 6, 12, 32)] := vx_table (x := yL_drop) B (atoms_spec (ws := Cond.codeWith yL_drop cL_drop 4 (some .int) [(0, 6, 9, 19), (0, 6, 12, 32)] :: BG) B.pre _ List.mem_cons_self)
  refine lv_aload_n hx hb dL_drop_0 rfl (lv_at hl 0 rfl) ?_
  refine lv_iload_n hx hb dL_drop_1 rfl (lv_at hl 1 rfl) ?_
  refine lv_iload_n hx hb dL_drop_2 rfl (lv_at hl 2 rfl) ?_
  have hFc := va_free (wc := [(x, .inr (12, xg)), (deA, .inl (deAC, (6, .inr (.inr (.inr (.inr deAF)))))), (de0, .inr (3, de0g)), (de1, .inr (3, de1g)), (de2, .inr (3, de2g)), (de3, .inr (3, de3g)), (de4, .inr (3, de4g)), (de5, .inr (3, de5g))]) hD hS hA [0, 1, 2, 3, 4, 5, 6, 7] rfl
  refine vq_thr (vx_runV (As := [.int 0, .int p1]) (rest := []) ⟨hx, hb, hml, hown, hts⟩ (gx46_X12_drop l hlt dC dI _ p1 x deA de0 de1 de2 de3 de4 de5 liA chA xg h_x deAC deAF de0g h_de0 de1g h_de1 de2g h_de2 de3g h_de3 de4g h_de4 de5g h_de5 h_deA0 h_deA1 h_deA2 h_deA3 h_deA4 h_deA5) (cwV 2 hts (gi_V wd_1805 wd_1806 wd_1807 wd_327 wd_1808) rfl rfl rfl (by decide +kernel) ⟨(Nat.le_of_ble_eq_true rfl), (Nat.le_of_ble_eq_true rfl)⟩) ⟨fun a U g mk q => by obtain ⟨q0, q1, qP, qK, qD, qT⟩ := q; exact ⟨q0, q1, qP, va_K.moved (u := U) (U := U.calling g mk a) (Vm.Alike.refl U.vm) qK, qD, th.moved (u := U) (U := U.calling g mk a) (Vm.Alike.refl U.vm) qT⟩, va_recv hK hP (ci := 12) (q0 := 0) rfl rfl, fun U hU hW => ⟨rfl, by rw [hU], by rw [hU]; exact hP, va_K.moved hW.alike hK, hD.weaken (fun _ _ _ _ => trivial), by rw [hU]; exact ((hth.kept hS.2.1).narrow hFc).moved hW.alike⟩⟩ rfl rfl hl.1 rfl (lv_room (Nat.le_of_ble_eq_true rfl)) dL_drop_3 ⟨(Nat.le_of_ble_eq_true rfl), (Nat.le_of_ble_eq_true rfl)⟩) (fun _ _ _ h => h) hS hFc (fun q _ h => hFc q h) (fun E ce q9 u t H1 locs ht hvm hp hB hz hk hS hce hcv hcl => ?_)
  obtain ⟨hE, hB⟩ := hB
  subst hE
  obtain ⟨hP1, hK1, hD1⟩ := hB
  rw [ht] at hP1
  have hD := hD1.weaken (fun k q _ h => hFc q.1 h)
  have hP := hP1
  have hK := hK.sub (tys' := []) [] rfl
  generalize H1 = H at hP hS hce ⊢
  have hP : va_P (dC, dI) CL [] H := hP
  have hD : va_D A [] := hD
  refine vx_catch (own := RL) (name := "java/lang/IndexOutOfBoundsException") hown [{ startPc := 0, endPc := 6, handlerPc := 9, catchType := 19 }] { startPc := 0, endPc := 6, handlerPc := 12, catchType := 32 } [] (by rw [hT]; rfl) (List.forall_mem_cons.mpr ⟨Or.inr ⟨by decide, "java/lang/IllegalArgumentException", hts (.classLink RL 19 "java/lang/IllegalArgumentException") wd_1323, hth.2.2.2.1 _ (by decide) _ (by decide) (by decide)⟩, fun _ h => nomatch h⟩) (by decide) (by decide) (hts (.classLink RL 32 "java/lang/IndexOutOfBoundsException") wd_1804) (hth.cast (by decide)) hce hcv hcl ?_
  refine W.widen (k := 2) (n := 12) (Nat.le_of_ble_eq_true rfl) (Nat.le_of_ble_eq_true rfl) ?_
  refine lv_astore_n (lv' := [(3, .ref q9), (0, .ref x), (1, .int 0), (2, .int p1)]) hx hb dL_drop_12 rfl hl (by decide) rfl (fun ls hl => ?_)
  refine lv_iconst (v := 2) hx hb dL_drop_13 (by decide +kernel) ?_
  refine W.widen (k := 2) (n := 12) (Nat.le_of_ble_eq_true rfl) (Nat.le_of_ble_eq_true rfl) ?_
  exact W.iret (v := 2) hx hb hr (fun t ht hW => ⟨⟨2, (), rfl, rfl, by rw [ht]; exact hP, va_K.moved hW.alike hK, hD⟩, hS.F ht⟩) hS.2.2 dL_drop_14
set_option maxHeartbeats 4000000 in
set_option maxRecDepth 100000 in
theorem gx48_X13_within (l : Launch) (hlt : l.stackTraces = false) (dC : Nat → ClassId) (dI : Nat → Nat → Nat) (sz : Nat) (m0 md ml mch : Nat) (m0g : List Value) (h_m0 : fx m0g 225 [(0, .int 0), (2, .int 0), (3, .int 0), (9, .int 0), (10, .int 0), (11, .int 0), (12, .int 0), (27, .int 0), (55, .ref md), (79, .int 0), (83, .int 0), (88, .ref ml), (95, .int 0), (138, .ref mch)]) (mdC : ClassId) : Met l yX13_within (Cond.code yX13_within cX13_within 3 (some .boolean) :: BG) ({ frames := 1, cells := 0, slots := 0, locals := 12 }) (va_Pc [.int 0, .int 0, .int 2] (fun U => U.heap.size = sz ∧ va_P (dC, dI) CL [(m0, .inr (13, m0g)), (md, .inl (mdC, (6, .inl (fun _ => 0))))] U.heap ∧ va_K (dC, dI) CL [(mdC, .boolean)] U ∧ va_D (fun _ => True) [(m0, .inr (13, m0g)), (md, .inl (mdC, (6, .inl (fun _ => 0))))] ∧ th (va_A [(m0, .inr (13, m0g)), (md, .inl (mdC, (6, .inl (fun _ => 0))))] sz) U U.heap)) (va_Qi (fun (r : Int32) (_ : Unit) => r = 1) (fun _ t => ∃ (m0y : List Value), fx m0y 225 [(0, .int 0), (2, .int 0), (3, .int 0), (9, .int 0), (10, .int 0), (11, .int 0), (12, .int 0), (27, .int 0), (55, .ref md), (79, .int 0), (83, .int 0), (88, .ref ml), (95, .int 0), (138, .ref mch)] ∧ va_P (dC, dI) CL [(m0, .inr (13, m0y)), (md, .inl (mdC, (6, .inl (fun _ => 0))))] t.heap ∧ va_K (dC, dI) CL [(mdC, .boolean)] t ∧ va_D (va_A [(m0, .inr (13, m0g)), (md, .inl (mdC, (6, .inl (fun _ => 0))))] sz) [(m0, .inr (13, m0y)), (md, .inl (mdC, (6, .inl (fun _ => 0))))]) (va_A [(m0, .inr (13, m0g)), (md, .inl (mdC, (6, .inl (fun _ => 0))))] sz)) 0 0 (va_A [(m0, .inr (13, m0g)), (md, .inl (mdC, (6, .inl (fun _ => 0))))] sz) := by
  refine Met.ofW (cc := cX13_within) (maxL := 3) (ret := (some .boolean)) (by decide) rfl ?_
  intro p e s m args below meth c s₁ B hml hv
  obtain ⟨rfl, hsz, hP, hK, hD0, hth⟩ := hv
  have hx := B.exec
  have hb := B.bytes
  have hr := B.returns
  have hts : ∀ w ∈ BG, w.before _ s = true := fun w h => atoms_spec (ws := Cond.code yX13_within cX13_within 3 (some .boolean) :: BG) B.pre w (List.mem_cons_of_mem _ h)
  have hown : s.vm.findClass RX13 = some m.cls := findClass_of_methodNamed B.named
  have hlocks := B.notSynchronized
  subst hsz
  have hD := hD0.self (sz := s.heap.size)
  generalize hAe : va_A [(m0, .inr (13, m0g)), (md, .inl (mdC, (6, .inl (fun _ => 0))))] s.heap.size = A at hD hth ⊢
  have hA : ∀ q : Nat, s.heap.size ≤ q → A q := fun q h => by rw [← hAe]; exact Or.inr h
  have hS : va_S A s.heap s.heap [] := va_S.rf
  have hl := lv_entry ([.int 0, .int 0, .int 2]) (n := 3) (Nat.le_of_ble_eq_true rfl)
  rw [lg_entry_eq]
  generalize (lg_sl ([.int 0, .int 0, .int 2]) ++ List.replicate (3 - (lg_sl ([.int 0, .int 0, .int 2])).length) Slot.unset).toArray = ls at hl ⊢
  have hl : lv_has ls 3 [(0, .int 0), (1, .int 0), (2, .int 2)] := hl
  obtain ⟨H, eH⟩ : ∃ z, z = s.heap := ⟨_, rfl⟩
  have hP : va_P (dC, dI) CL [(m0, .inr (13, m0g)), (md, .inl (mdC, (6, .inl (fun _ => 0))))] H := by rw [eH]; exact hP
  have hS : va_S A s.heap H [] := by rw [eH]; exact hS
  rw [← eH]
  refine lv_iload_n hx hb dX13_within_0 rfl (lv_at hl 0 rfl) ?_
  refine lv_iload_n hx hb dX13_within_1 rfl (lv_at hl 1 rfl) ?_
  refine lv_icmp_lt (tgt := 14) hx hb dX13_within_2 (by decide) (fun c9 => ?_) (fun c9 => ?_)
  · first | exact absurd c9 (by decide +kernel) | exact absurd (by decide +kernel) c9
  refine lv_iload_n hx hb dX13_within_5 rfl (lv_at hl 0 rfl) ?_
  refine lv_iload_n hx hb dX13_within_6 rfl (lv_at hl 2 rfl) ?_
  refine lv_icmp_gt (tgt := 14) hx hb dX13_within_7 (by decide) (fun c9 => ?_) (fun c9 => ?_)
  · first | exact absurd c9 (by decide +kernel) | exact absurd (by decide +kernel) c9
  refine lv_iconst (v := 1) hx hb dX13_within_10 (by decide +kernel) ?_
  refine lv_goto (tgt := 15) hx hb dX13_within_11 (by decide) ?_
  exact W.zret (v := 1) hx hb hr rfl (fun t ht hW => ⟨⟨1, (), rfl, rfl, m0g, h_m0, by rw [ht]; exact hP, va_K.moved hW.alike hK, hD⟩, hS.F ht⟩) hS.2.2 dX13_within_15
set_option maxHeartbeats 4000000 in
set_option maxRecDepth 100000 in
theorem gx49_X13_isOne (l : Launch) (hlt : l.stackTraces = false) (dC : Nat → ClassId) (dI : Nat → Nat → Nat) (sz : Nat) (p1 : Int32) (m0 md ml mch : Nat) (m0g : List Value) (h_m0 : fx m0g 225 [(0, .int 0), (2, .int 0), (3, .int 0), (9, .int 0), (10, .int 0), (11, .int 0), (12, .int 0), (27, .int 0), (55, .ref md), (79, .int 0), (83, .int 0), (88, .ref ml), (95, .int 0), (138, .ref mch)]) (mdC : ClassId) : Met l yX13_isOne (Cond.code yX13_isOne cX13_isOne 3 (some .boolean) :: BG) ({ frames := 2, cells := 0, slots := 0, locals := 33 }) (va_Pc [.ref m0, .int 0, .int p1] (fun U => U.heap.size = sz ∧ va_P (dC, dI) CL [(m0, .inr (13, m0g)), (md, .inl (mdC, (6, .inl (fun _ => 0))))] U.heap ∧ va_K (dC, dI) CL [(mdC, .boolean)] U ∧ va_D (fun _ => True) [(m0, .inr (13, m0g)), (md, .inl (mdC, (6, .inl (fun _ => 0))))] ∧ th (va_A [(m0, .inr (13, m0g)), (md, .inl (mdC, (6, .inl (fun _ => 0))))] sz) U U.heap)) (va_Qi (fun (r : Int32) (_ : Unit) => r = 0) (fun _ t => ∃ (m0y : List Value), fx m0y 225 [(0, .int 0), (2, .int 0), (3, .int 0), (9, .int 0), (10, .int 0), (11, .int 0), (12, .int 0), (27, .int 0), (55, .ref md), (79, .int 0), (83, .int 0), (88, .ref ml), (95, .int 0), (138, .ref mch)] ∧ va_P (dC, dI) CL [(m0, .inr (13, m0y)), (md, .inl (mdC, (6, .inl (fun _ => 0))))] t.heap ∧ va_K (dC, dI) CL [(mdC, .boolean)] t ∧ va_D (va_A [(m0, .inr (13, m0g)), (md, .inl (mdC, (6, .inl (fun _ => 0))))] sz) [(m0, .inr (13, m0y)), (md, .inl (mdC, (6, .inl (fun _ => 0))))]) (va_A [(m0, .inr (13, m0g)), (md, .inl (mdC, (6, .inl (fun _ => 0))))] sz)) 0 0 (va_A [(m0, .inr (13, m0g)), (md, .inl (mdC, (6, .inl (fun _ => 0))))] sz) := by
  refine Met.ofW (cc := cX13_isOne) (maxL := 3) (ret := (some .boolean)) (by decide) rfl ?_
  intro p e s m args below meth c s₁ B hml hv
  obtain ⟨rfl, hsz, hP, hK, hD0, hth⟩ := hv
  have hx := B.exec
  have hb := B.bytes
  have hr := B.returns
  have hts : ∀ w ∈ BG, w.before _ s = true := fun w h => atoms_spec (ws := Cond.code yX13_isOne cX13_isOne 3 (some .boolean) :: BG) B.pre w (List.mem_cons_of_mem _ h)
  have hown : s.vm.findClass RX13 = some m.cls := findClass_of_methodNamed B.named
  have hlocks := B.notSynchronized
  subst hsz
  have hD := hD0.self (sz := s.heap.size)
  generalize hAe : va_A [(m0, .inr (13, m0g)), (md, .inl (mdC, (6, .inl (fun _ => 0))))] s.heap.size = A at hD hth ⊢
  have hA : ∀ q : Nat, s.heap.size ≤ q → A q := fun q h => by rw [← hAe]; exact Or.inr h
  have hS : va_S A s.heap s.heap [] := va_S.rf
  have hl := lv_entry ([.ref m0, .int 0, .int p1]) (n := 3) (Nat.le_of_ble_eq_true rfl)
  rw [lg_entry_eq]
  generalize (lg_sl ([.ref m0, .int 0, .int p1]) ++ List.replicate (3 - (lg_sl ([.ref m0, .int 0, .int p1])).length) Slot.unset).toArray = ls at hl ⊢
  have hl : lv_has ls 3 [(0, .ref m0), (1, .int 0), (2, .int p1)] := hl
  obtain ⟨H, eH⟩ : ∃ z, z = s.heap := ⟨_, rfl⟩
  have hP : va_P (dC, dI) CL [(m0, .inr (13, m0g)), (md, .inl (mdC, (6, .inl (fun _ => 0))))] H := by rw [eH]; exact hP
  have hS : va_S A s.heap H [] := by rw [eH]; exact hS
  rw [← eH]
  refine lv_iload_n hx hb dX13_isOne_0 rfl (lv_at hl 1 rfl) ?_
  refine lv_if_ne (tgt := 12) hx hb dX13_isOne_1 (by decide) (fun c9 => ?_) (fun c9 => ?_)
  · first | exact absurd c9 (by decide +kernel) | exact absurd (by decide +kernel) c9
  refine lv_aload_n hx hb dX13_isOne_4 rfl (lv_at hl 0 rfl) ?_
  refine lv_iload_n hx hb dX13_isOne_5 rfl (lv_at hl 2 rfl) ?_
  have hFc := va_free (wc := [(m0, .inr (13, m0g)), (md, .inl (mdC, (6, .inl (fun _ => 0))))]) hD hS hA [0, 1] rfl
  refine va_calli (va_runV (As := [.int p1]) (rest := []) ⟨hx, hb, hml, hown, hts⟩ (ct_X13_isDesign l dC dI _ p1 m0 m0g md mdC (h_m0.sub [8] rfl)) (cwV 1 hts (gi_V wd_4076 wd_4078 wd_215 wd_340 wd_4079) rfl rfl rfl (by decide +kernel) ⟨(Nat.le_of_ble_eq_true rfl), (Nat.le_of_ble_eq_true rfl)⟩) ⟨fun a U g mk q => by obtain ⟨q0, q1, qP, qK, qD⟩ := q; exact ⟨q0, q1, qP, va_K.moved (u := U) (U := U.calling g mk a) (Vm.Alike.refl U.vm) qK, qD⟩, va_recv hK hP (ci := 13) (q0 := 0) rfl rfl, fun U hU hW => ⟨rfl, by rw [hU], by rw [hU]; exact hP, va_K.moved hW.alike hK, hD.weaken (fun _ _ _ _ => trivial)⟩⟩ rfl rfl hl.1 rfl (lv_room (Nat.le_of_ble_eq_true rfl)) dX13_isOne_6 ⟨(Nat.le_of_ble_eq_true rfl), (Nat.le_of_ble_eq_true rfl)⟩) hS (fun q _ h => hFc q h) hFc (fun r u t H1 locs ht hvm hw hB hz1 hk1 hS => ?_)
  subst hw
  obtain ⟨hP1, hK1, hD1⟩ := hB
  rw [ht] at hP1
  have hD := hD1.weaken (fun k q _ h => hFc q.1 h)
  have hP := hP1
  generalize H1 = H at hP hS ⊢
  have hP : va_P (dC, dI) CL [(m0, .inr (13, m0g)), (md, .inl (mdC, (6, .inl (fun _ => 0))))] H := hP
  have hD : va_D A [(m0, .inr (13, m0g)), (md, .inl (mdC, (6, .inl (fun _ => 0))))] := hD
  refine lv_goto (tgt := 30) hx hb dX13_isOne_9 (by decide) ?_
  exact W.zret (v := 0) hx hb hr rfl (fun t ht hW => ⟨⟨0, (), rfl, rfl, m0g, h_m0, by rw [ht]; exact hP, va_K.moved hW.alike hK, hD⟩, hS.F ht⟩) hS.2.2 dX13_isOne_30
set_option maxHeartbeats 4000000 in
set_option maxRecDepth 100000 in
theorem gx47_X13_drop (l : Launch) (hlt : l.stackTraces = false) (dC : Nat → ClassId) (dI : Nat → Nat → Nat) (sz : Nat) (p1 : Int32) (m0 md ml mch : Nat) (m0g : List Value) (h_m0 : fx m0g 225 [(0, .int 0), (2, .int 0), (3, .int 0), (9, .int 0), (10, .int 0), (11, .int 0), (12, .int 0), (27, .int 0), (55, .ref md), (79, .int 0), (83, .int 0), (88, .ref ml), (95, .int 0), (138, .ref mch)]) (mdC : ClassId) : Met l yX13_drop (Cond.code yX13_drop cX13_drop 3 none :: BG) ({ frames := 3, cells := 0, slots := 0, locals := 55 }) (va_Pc [.ref m0, .int 0, .int p1] (fun U => U.heap.size = sz ∧ va_P (dC, dI) CL [(m0, .inr (13, m0g)), (md, .inl (mdC, (6, .inl (fun _ => 0))))] U.heap ∧ va_K (dC, dI) CL [(mdC, .boolean)] U ∧ va_D (fun _ => True) [(m0, .inr (13, m0g)), (md, .inl (mdC, (6, .inl (fun _ => 0))))] ∧ th (va_A [(m0, .inr (13, m0g)), (md, .inl (mdC, (6, .inl (fun _ => 0))))] sz) U U.heap)) (va_Qv (fun _ : Unit => True) (fun _ t => ∃ (m0y : List Value), fx m0y 225 [(0, .int 2), (2, .int 0), (3, .int 0), (9, .int 0), (10, .int 0), (11, .int 0), (12, .int 0), (27, .int 0), (55, .ref md), (79, .int 0), (83, .int 0), (88, .ref ml), (95, .int 0), (138, .ref mch)] ∧ va_P (dC, dI) CL [(m0, .inr (13, m0y)), (md, .inl (mdC, (6, .inl (fun _ => 0))))] t.heap ∧ va_K (dC, dI) CL [(mdC, .boolean)] t ∧ va_D (va_A [(m0, .inr (13, m0g)), (md, .inl (mdC, (6, .inl (fun _ => 0))))] sz) [(m0, .inr (13, m0y)), (md, .inl (mdC, (6, .inl (fun _ => 0))))]) (va_A [(m0, .inr (13, m0g)), (md, .inl (mdC, (6, .inl (fun _ => 0))))] sz)) 0 0 (va_A [(m0, .inr (13, m0g)), (md, .inl (mdC, (6, .inl (fun _ => 0))))] sz) := by
  refine Met.ofW (cc := cX13_drop) (maxL := 3) (ret := none) (by decide) rfl ?_
  intro p e s m args below meth c s₁ B hml hv
  obtain ⟨rfl, hsz, hP, hK, hD0, hth⟩ := hv
  have hx := B.exec
  have hb := B.bytes
  have hr := B.returns
  have hts : ∀ w ∈ BG, w.before _ s = true := fun w h => atoms_spec (ws := Cond.code yX13_drop cX13_drop 3 none :: BG) B.pre w (List.mem_cons_of_mem _ h)
  have hown : s.vm.findClass RX13 = some m.cls := findClass_of_methodNamed B.named
  have hlocks := B.notSynchronized
  subst hsz
  have hD := hD0.self (sz := s.heap.size)
  generalize hAe : va_A [(m0, .inr (13, m0g)), (md, .inl (mdC, (6, .inl (fun _ => 0))))] s.heap.size = A at hD hth ⊢
  have hA : ∀ q : Nat, s.heap.size ≤ q → A q := fun q h => by rw [← hAe]; exact Or.inr h
  have hS : va_S A s.heap s.heap [] := va_S.rf
  have hl := lv_entry ([.ref m0, .int 0, .int p1]) (n := 3) (Nat.le_of_ble_eq_true rfl)
  rw [lg_entry_eq]
  generalize (lg_sl ([.ref m0, .int 0, .int p1]) ++ List.replicate (3 - (lg_sl ([.ref m0, .int 0, .int p1])).length) Slot.unset).toArray = ls at hl ⊢
  have hl : lv_has ls 3 [(0, .ref m0), (1, .int 0), (2, .int p1)] := hl
  obtain ⟨H, eH⟩ : ∃ z, z = s.heap := ⟨_, rfl⟩
  have hP : va_P (dC, dI) CL [(m0, .inr (13, m0g)), (md, .inl (mdC, (6, .inl (fun _ => 0))))] H := by rw [eH]; exact hP
  have hS : va_S A s.heap H [] := by rw [eH]; exact hS
  rw [← eH]
  refine lv_aload_n hx hb dX13_drop_0 rfl (lv_at hl 0 rfl) ?_
  refine lv_iload_n hx hb dX13_drop_1 rfl (lv_at hl 1 rfl) ?_
  refine lv_iconst (v := 0) hx hb dX13_drop_2 (by decide +kernel) ?_
  refine lv_iconst (v := 2) hx hb dX13_drop_3 (by decide +kernel) ?_
  have hFc := va_free (wc := [(m0, .inr (13, m0g)), (md, .inl (mdC, (6, .inl (fun _ => 0))))]) hD hS hA [0, 1] rfl
  refine va_calli (va_runS (As := [.int 0, .int 0, .int 2]) (rest := [.ref m0]) ⟨hx, hb, hml, hown, hts⟩ (gx48_X13_within l hlt dC dI _ m0 md ml mch m0g h_m0 mdC) (cwS 3 hts (gi_S wd_3825 wd_3826 wd_340 wd_3827) rfl rfl rfl (by decide +kernel) ⟨(Nat.le_of_ble_eq_true rfl), (Nat.le_of_ble_eq_true rfl)⟩) ⟨fun a U g mk q => by obtain ⟨q0, q1, qP, qK, qD, qT⟩ := q; exact ⟨q0, q1, qP, va_K.moved (u := U) (U := U.calling g mk a) (Vm.Alike.refl U.vm) qK, qD, th.moved (u := U) (U := U.calling g mk a) (Vm.Alike.refl U.vm) qT⟩, fun U hU hW => ⟨rfl, by rw [hU], by rw [hU]; exact hP, va_K.moved hW.alike hK, hD.weaken (fun _ _ _ _ => trivial), by rw [hU]; exact ((hth.kept hS.2.1).narrow hFc).moved hW.alike⟩⟩ rfl rfl hl.1 rfl (lv_room (Nat.le_of_ble_eq_true rfl)) dX13_drop_4 ⟨(Nat.le_of_ble_eq_true rfl), (Nat.le_of_ble_eq_true rfl)⟩) hS (fun q _ h => hFc q h) hFc (fun r u t H1 locs ht hvm hw hB hz1 hk1 hS => ?_)
  subst hw
  obtain ⟨fs_1, h_m0, hP1, hK1, hD1⟩ := hB
  rw [ht] at hP1
  have hD := hD1.weaken (fun k q _ h => hFc q.1 h)
  have hP := hP1
  generalize H1 = H at hP hS ⊢
  have hP : va_P (dC, dI) CL [(m0, .inr (13, fs_1)), (md, .inl (mdC, (6, .inl (fun _ => 0))))] H := hP
  have hD : va_D A [(m0, .inr (13, fs_1)), (md, .inl (mdC, (6, .inl (fun _ => 0))))] := hD
  refine lv_if_ne (tgt := 14) hx hb dX13_drop_7 (by decide) (fun c9 => ?_) (fun c9 => ?_)
  rotate_left
  · first | exact absurd c9 (by decide +kernel) | exact absurd (by decide +kernel) c9
  refine lv_aload_n hx hb dX13_drop_14 rfl (lv_at hl 0 rfl) ?_
  refine lv_iload_n hx hb dX13_drop_15 rfl (lv_at hl 1 rfl) ?_
  refine lv_iload_n hx hb dX13_drop_16 rfl (lv_at hl 2 rfl) ?_
  have hFc := va_free (wc := [(m0, .inr (13, fs_1)), (md, .inl (mdC, (6, .inl (fun _ => 0))))]) hD hS hA [0, 1] rfl
  refine va_calli (va_runV (As := [.int 0, .int p1]) (rest := [.ref m0]) ⟨hx, hb, hml, hown, hts⟩ (gx49_X13_isOne l hlt dC dI _ p1 m0 md ml mch fs_1 h_m0 mdC) (cwV 2 hts (gi_V wd_4072 wd_4074 wd_214 wd_340 wd_4075) rfl rfl rfl (by decide +kernel) ⟨(Nat.le_of_ble_eq_true rfl), (Nat.le_of_ble_eq_true rfl)⟩) ⟨fun a U g mk q => by obtain ⟨q0, q1, qP, qK, qD, qT⟩ := q; exact ⟨q0, q1, qP, va_K.moved (u := U) (U := U.calling g mk a) (Vm.Alike.refl U.vm) qK, qD, th.moved (u := U) (U := U.calling g mk a) (Vm.Alike.refl U.vm) qT⟩, va_recv hK hP (ci := 13) (q0 := 0) rfl rfl, fun U hU hW => ⟨rfl, by rw [hU], by rw [hU]; exact hP, va_K.moved hW.alike hK, hD.weaken (fun _ _ _ _ => trivial), by rw [hU]; exact ((hth.kept hS.2.1).narrow hFc).moved hW.alike⟩⟩ rfl rfl hl.1 rfl (lv_room (Nat.le_of_ble_eq_true rfl)) dX13_drop_17 ⟨(Nat.le_of_ble_eq_true rfl), (Nat.le_of_ble_eq_true rfl)⟩) hS (fun q _ h => hFc q h) hFc (fun r u t H1 locs ht hvm hw hB hz1 hk1 hS => ?_)
  subst hw
  obtain ⟨fs_2, h_m0, hP1, hK1, hD1⟩ := hB
  rw [ht] at hP1
  have hD := hD1.weaken (fun k q _ h => hFc q.1 h)
  have hP := hP1
  generalize H1 = H at hP hS ⊢
  have hP : va_P (dC, dI) CL [(m0, .inr (13, fs_2)), (md, .inl (mdC, (6, .inl (fun _ => 0))))] H := hP
  have hD : va_D A [(m0, .inr (13, fs_2)), (md, .inl (mdC, (6, .inl (fun _ => 0))))] := hD
  refine lv_if_ne (tgt := 27) hx hb dX13_drop_20 (by decide) (fun c9 => ?_) (fun c9 => ?_)
  · first | exact absurd c9 (by decide +kernel) | exact absurd (by decide +kernel) c9
  refine lv_iconst (v := 2) hx hb dX13_drop_23 (by decide +kernel) ?_
  refine lv_goto (tgt := 28) hx hb dX13_drop_24 (by decide) ?_
  refine va_put (D := (dC, dI)) (ci := 13) (v := .int 2) (ty := tyX13 0) (C := RX13) (T := TX13) (N := 225) hx hb hts inX13 tyX13 tyX13_ok nmX13 hown hK hP hD hS 0 rfl rfl 0 (by decide) (hts (.fieldLink RX13 1 "ChipFlowModel" "code" "I") wd_3032) (fun _ h9 => h9) rfl (by decide +kernel) rfl rfl (by rw [h_m0.1]; decide) dX13_drop_28 (fun H locs hP hD hS => ?_)
  obtain ⟨fs_3, e9⟩ : ∃ z, z = fs_2.set 0 (.int 2) := ⟨_, rfl⟩
  have h_m0 : fx fs_3 225 [(0, .int 2), (2, .int 0), (3, .int 0), (9, .int 0), (10, .int 0), (11, .int 0), (12, .int 0), (27, .int 0), (55, .ref md), (79, .int 0), (83, .int 0), (88, .ref ml), (95, .int 0), (138, .ref mch)] := by rw [e9]; exact (h_m0.put (F' := [(0, .int 2), (2, .int 0), (3, .int 0), (9, .int 0), (10, .int 0), (11, .int 0), (12, .int 0), (27, .int 0), (55, .ref md), (79, .int 0), (83, .int 0), (88, .ref ml), (95, .int 0), (138, .ref mch)]) (by decide) _ rfl).sub [0, 1, 2, 3, 4, 5, 6, 7, 8, 9, 10, 11, 12, 13] rfl
  have hP : va_P (dC, dI) CL [(m0, .inr (13, fs_3)), (md, .inl (mdC, (6, .inl (fun _ => 0))))] H := by rw [e9]; exact hP
  have hD : va_D A [(m0, .inr (13, fs_3)), (md, .inl (mdC, (6, .inl (fun _ => 0))))] := by rw [e9]; exact hD
  clear e9
  refine lv_aload_n hx hb dX13_drop_31 rfl (lv_at hl 0 rfl) ?_
  refine va_get (D := (dC, dI)) (ci := 13) (v := .int 2) (C := RX13) (T := TX13) (N := 225) hx hb hts inX13 hown hK hP 0 rfl rfl 0 (by decide) (hts (.fieldLink RX13 1 "ChipFlowModel" "code" "I") wd_3032) (fun _ h9 => h9) (h_m0.get 0 rfl) dX13_drop_32 ?_
  refine lv_if_le (tgt := 39) hx hb dX13_drop_35 (by decide) (fun c9 => ?_) (fun c9 => ?_)
  · first | exact absurd c9 (by decide +kernel) | exact absurd (by decide +kernel) c9
  exact W.vret hx hb hr (fun t ht hW => ⟨⟨(), rfl, trivial, fs_3, h_m0, by rw [ht]; exact hP, va_K.moved hW.alike hK, hD⟩, hS.F ht⟩) hS.2.2 dX13_drop_38
set_option maxHeartbeats 4000000 in
set_option maxRecDepth 100000 in
theorem gx50_X13_thrown (l : Launch) (hlt : l.stackTraces = false) (dC : Nat → ClassId) (dI : Nat → Nat → Nat) (sz : Nat) (m0 md ml mch : Nat) (m0g : List Value) (h_m0 : fx m0g 225 [(0, .int 2), (2, .int 0), (3, .int 0), (9, .int 0), (10, .int 0), (11, .int 0), (12, .int 0), (27, .int 0), (55, .ref md), (79, .int 0), (83, .int 0), (88, .ref ml), (95, .int 0), (138, .ref mch)]) : Met l yX13_thrown (Cond.code yX13_thrown cX13_thrown 1 (some .int) :: BG) ({ frames := 1, cells := 0, slots := 0, locals := 12 }) (va_Pc [.ref m0] (fun U => U.heap.size = sz ∧ va_P (dC, dI) CL [(m0, .inr (13, m0g))] U.heap ∧ va_K (dC, dI) CL [] U ∧ va_D (fun _ => True) [(m0, .inr (13, m0g))] ∧ th (va_A [(m0, .inr (13, m0g))] sz) U U.heap)) (va_Qi (fun (r : Int32) (_ : Unit) => r = 2) (fun _ t => ∃ (m0y : List Value), fx m0y 225 [(0, .int 2), (2, .int 0), (3, .int 0), (9, .int 0), (10, .int 0), (11, .int 0), (12, .int 0), (27, .int 0), (55, .ref md), (79, .int 0), (83, .int 0), (88, .ref ml), (95, .int 0), (138, .ref mch)] ∧ va_P (dC, dI) CL [(m0, .inr (13, m0y))] t.heap ∧ va_K (dC, dI) CL [] t ∧ va_D (va_A [(m0, .inr (13, m0g))] sz) [(m0, .inr (13, m0y))]) (va_A [(m0, .inr (13, m0g))] sz)) 0 0 (va_A [(m0, .inr (13, m0g))] sz) := by
  refine Met.ofW (cc := cX13_thrown) (maxL := 1) (ret := (some .int)) (by decide) rfl ?_
  intro p e s m args below meth c s₁ B hml hv
  obtain ⟨rfl, hsz, hP, hK, hD0, hth⟩ := hv
  have hx := B.exec
  have hb := B.bytes
  have hr := B.returns
  have hts : ∀ w ∈ BG, w.before _ s = true := fun w h => atoms_spec (ws := Cond.code yX13_thrown cX13_thrown 1 (some .int) :: BG) B.pre w (List.mem_cons_of_mem _ h)
  have hown : s.vm.findClass RX13 = some m.cls := findClass_of_methodNamed B.named
  have hlocks := B.notSynchronized
  subst hsz
  have hD := hD0.self (sz := s.heap.size)
  generalize hAe : va_A [(m0, .inr (13, m0g))] s.heap.size = A at hD hth ⊢
  have hA : ∀ q : Nat, s.heap.size ≤ q → A q := fun q h => by rw [← hAe]; exact Or.inr h
  have hS : va_S A s.heap s.heap [] := va_S.rf
  have hl := lv_entry ([.ref m0]) (n := 1) (Nat.le_of_ble_eq_true rfl)
  rw [lg_entry_eq]
  generalize (lg_sl ([.ref m0]) ++ List.replicate (1 - (lg_sl ([.ref m0])).length) Slot.unset).toArray = ls at hl ⊢
  have hl : lv_has ls 1 [(0, .ref m0)] := hl
  obtain ⟨H, eH⟩ : ∃ z, z = s.heap := ⟨_, rfl⟩
  have hP : va_P (dC, dI) CL [(m0, .inr (13, m0g))] H := by rw [eH]; exact hP
  have hS : va_S A s.heap H [] := by rw [eH]; exact hS
  rw [← eH]
  refine lv_aload_n hx hb dX13_thrown_0 rfl (lv_at hl 0 rfl) ?_
  refine va_get (D := (dC, dI)) (ci := 13) (v := .int 2) (C := RX13) (T := TX13) (N := 225) hx hb hts inX13 hown hK hP 0 rfl rfl 0 (by decide) (hts (.fieldLink RX13 1 "ChipFlowModel" "code" "I") wd_3032) (fun _ h9 => h9) (h_m0.get 0 rfl) dX13_thrown_1 ?_
  exact W.iret (v := 2) hx hb hr (fun t ht hW => ⟨⟨2, (), rfl, rfl, m0g, h_m0, by rw [ht]; exact hP, va_K.moved hW.alike hK, hD⟩, hS.F ht⟩) hS.2.2 dX13_thrown_4
set_option maxHeartbeats 4000000 in
set_option maxRecDepth 100000 in
theorem gx52_X12_drop (l : Launch) (hlt : l.stackTraces = false) (dC : Nat → ClassId) (dI : Nat → Nat → Nat) (sz : Nat) (p1 : Int32) (x liA li0 li1 li2 deA chA : Nat) (xg : List Value) (h_x : fx xg 17 [(7, .ref deA), (8, .ref liA), (9, .ref chA)]) (liAC : ClassId) (liAF : Nat → Option Nat) (li0g : List Value) (h_li0 : fx li0g 7 [(0, .int 0)]) (li1g : List Value) (h_li1 : fx li1g 7 [(0, .int 0)]) (li2g : List Value) (h_li2 : fx li2g 7 [(0, .int 0)]) (h_liA0 : liAF 0 = some li0) (h_liA1 : liAF 1 = some li1) (h_liA2 : liAF 2 = some li2) : vx_Met l yX12_drop (Cond.code yX12_drop cX12_drop 3 none :: BG) ({ frames := 8, cells := 2, slots := 12, locals := 151 }) (va_Pc [.ref x, .int 1, .int p1] (fun U => U.heap.size = sz ∧ va_P (dC, dI) CL [(x, .inr (12, xg)), (liA, .inl (liAC, (3, .inr (.inr (.inr (.inr liAF)))))), (li0, .inr (5, li0g)), (li1, .inr (5, li1g)), (li2, .inr (5, li2g))] U.heap ∧ va_K (dC, dI) CL [(liAC, .object "ChipFlow$Library")] U ∧ va_D (fun _ => True) [(x, .inr (12, xg)), (liA, .inl (liAC, (3, .inr (.inr (.inr (.inr liAF)))))), (li0, .inr (5, li0g)), (li1, .inr (5, li1g)), (li2, .inr (5, li2g))] ∧ th (va_A [(x, .inr (12, xg)), (liA, .inl (liAC, (3, .inr (.inr (.inr (.inr liAF)))))), (li0, .inr (5, li0g)), (li1, .inr (5, li1g)), (li2, .inr (5, li2g))] sz) U U.heap)) (fun _ _ _ _ => False) (vx_X (fun _ : Unit => True) (fun E _ t => E = "java/lang/IndexOutOfBoundsException" ∧ va_P (dC, dI) CL [] t.heap ∧ va_K (dC, dI) CL [] t ∧ va_D (va_A [(x, .inr (12, xg)), (liA, .inl (liAC, (3, .inr (.inr (.inr (.inr liAF)))))), (li0, .inr (5, li0g)), (li1, .inr (5, li1g)), (li2, .inr (5, li2g))] sz) []) (va_A [(x, .inr (12, xg)), (liA, .inl (liAC, (3, .inr (.inr (.inr (.inr liAF)))))), (li0, .inr (5, li0g)), (li1, .inr (5, li1g)), (li2, .inr (5, li2g))] sz)) 2 12 (va_A [(x, .inr (12, xg)), (liA, .inl (liAC, (3, .inr (.inr (.inr (.inr liAF)))))), (li0, .inr (5, li0g)), (li1, .inr (5, li1g)), (li2, .inr (5, li2g))] sz) := by
  refine vx_ofW (cc := cX12_drop) (maxL := 3) (ret := none) (by decide) rfl ?_
  intro p e s m args below meth c s₁ B hml ht0 hv
  obtain ⟨rfl, hsz, hP, hK, hD0, hth⟩ := hv
  have hx := B.exec
  have hb := B.bytes
  have hr := B.returns
  have hts : ∀ w ∈ BG, w.before _ s = true := fun w h => atoms_spec (ws := Cond.code yX12_drop cX12_drop 3 none :: BG) B.pre w (List.mem_cons_of_mem _ h)
  have hown : s.vm.findClass RX12 = some m.cls := findClass_of_methodNamed B.named
  have hlocks := B.notSynchronized
  subst hsz
  have hD := hD0.self (sz := s.heap.size)
  generalize hAe : va_A [(x, .inr (12, xg)), (liA, .inl (liAC, (3, .inr (.inr (.inr (.inr liAF)))))), (li0, .inr (5, li0g)), (li1, .inr (5, li1g)), (li2, .inr (5, li2g))] s.heap.size = A at hD hth ⊢
  have hA : ∀ q : Nat, s.heap.size ≤ q → A q := fun q h => by rw [← hAe]; exact Or.inr h
  have hS : va_S A s.heap s.heap [] := va_S.rf
  have hl := lv_entry ([.ref x, .int 1, .int p1]) (n := 3) (Nat.le_of_ble_eq_true rfl)
  rw [lg_entry_eq]
  generalize (lg_sl ([.ref x, .int 1, .int p1]) ++ List.replicate (3 - (lg_sl ([.ref x, .int 1, .int p1])).length) Slot.unset).toArray = ls at hl ⊢
  have hl : lv_has ls 3 [(0, .ref x), (1, .int 1), (2, .int p1)] := hl
  obtain ⟨H, eH⟩ : ∃ z, z = s.heap := ⟨_, rfl⟩
  have hP : va_P (dC, dI) CL [(x, .inr (12, xg)), (liA, .inl (liAC, (3, .inr (.inr (.inr (.inr liAF)))))), (li0, .inr (5, li0g)), (li1, .inr (5, li1g)), (li2, .inr (5, li2g))] H := by rw [eH]; exact hP
  have hS : va_S A s.heap H [] := by rw [eH]; exact hS
  rw [← eH]
  refine lv_iload_n hx hb dX12_drop_0 rfl (lv_at hl 1 rfl) ?_
  refine lv_if_lt (tgt := 13) hx hb dX12_drop_1 (by decide) (fun c9 => ?_) (fun c9 => ?_)
  · first | exact absurd c9 (by decide +kernel) | exact absurd (by decide +kernel) c9
  refine lv_iload_n hx hb dX12_drop_4 rfl (lv_at hl 1 rfl) ?_
  refine lv_iconst (v := 2) hx hb dX12_drop_5 (by decide +kernel) ?_
  refine lv_icmp_gt (tgt := 13) hx hb dX12_drop_6 (by decide) (fun c9 => ?_) (fun c9 => ?_)
  · first | exact absurd c9 (by decide +kernel) | exact absurd (by decide +kernel) c9
  refine lv_iconst (v := 1) hx hb dX12_drop_9 (by decide +kernel) ?_
  refine lv_goto (tgt := 14) hx hb dX12_drop_10 (by decide) ?_
  have hF0 : ∀ q, va_A [] H.size q → A q := fun q h => h.elim (fun ⟨k9, e9, h9⟩ => by simp at h9) (fun h9 => hA q (Nat.le_trans hS.1 h9))
  refine vx_callv (vx_runS (As := [.int 1]) (rest := []) ⟨hx, hb, hml, hown, hts⟩ (ct_X12_needRange l hlt H.size 1) (cwS 1 hts (gi_S wd_1328 wd_1329 wd_327 wd_1330) rfl rfl rfl (by decide +kernel) ⟨(Nat.le_of_ble_eq_true rfl), (Nat.le_of_ble_eq_true rfl)⟩) ⟨fun a U g mk q => ⟨q.1, q.2.1, th.moved (u := U) (U := U.calling g mk a) (Vm.Alike.refl U.vm) q.2.2⟩, fun U hU hW => ⟨rfl, by rw [hU], by rw [hU]; exact ((hth.kept hS.2.1).narrow hF0).moved hW.alike⟩⟩ rfl rfl hl.1 rfl (lv_room (Nat.le_of_ble_eq_true rfl)) dX12_drop_14 ⟨(Nat.le_of_ble_eq_true rfl), (Nat.le_of_ble_eq_true rfl)⟩) hS (fun q _ h => hF0 q h) hF0 (fun q _ h => hF0 q h) (fun E ce q9 u t H1 locs ht hvm hp hB hz hk hS hce hcv hcl => absurd hp (by decide +kernel)) (fun u t H1 locs ht hvm hp hB hz hk hS => ?_)
  have hP : va_P (dC, dI) CL [(x, .inr (12, xg)), (liA, .inl (liAC, (3, .inr (.inr (.inr (.inr liAF)))))), (li0, .inr (5, li0g)), (li1, .inr (5, li1g)), (li2, .inr (5, li2g))] H1 := hP.kept (fun k q h9 => hk _ (vx_lt hP h9) (fun h8 => h8.elim (fun ⟨k9, e9, h7⟩ => by simp at h7) (fun h7 => absurd (vx_lt hP h9) (Nat.not_lt.mpr h7))))
  generalize H1 = H at hP hS ⊢
  refine W.widen (k := 1) (n := 6) (Nat.le_of_ble_eq_true rfl) (Nat.le_of_ble_eq_true rfl) ?_
  refine lv_iload_n hx hb dX12_drop_17 rfl (lv_at hl 1 rfl) ?_
  refine lv_if_ne (tgt := 33) hx hb dX12_drop_18 (by decide) (fun c9 => ?_) (fun c9 => ?_)
  rotate_left
  · first | exact absurd c9 (by decide +kernel) | exact absurd (by decide +kernel) c9
  refine lv_iload_n hx hb dX12_drop_33 rfl (lv_at hl 1 rfl) ?_
  refine lv_iconst (v := 1) hx hb dX12_drop_34 (by decide +kernel) ?_
  refine lv_icmp_ne (tgt := 50) hx hb dX12_drop_35 (by decide) (fun c9 => ?_) (fun c9 => ?_)
  · first | exact absurd c9 (by decide +kernel) | exact absurd (by decide +kernel) c9
  refine lv_aload_n hx hb dX12_drop_38 rfl (lv_at hl 0 rfl) ?_
  refine lv_iload_n hx hb dX12_drop_39 rfl (lv_at hl 2 rfl) ?_
  have hFc := va_free (wc := [(x, .inr (12, xg)), (liA, .inl (liAC, (3, .inr (.inr (.inr (.inr liAF)))))), (li0, .inr (5, li0g)), (li1, .inr (5, li1g)), (li2, .inr (5, li2g))]) hD hS hA [0, 1, 2, 3, 4] rfl
  refine vq_thr (vx_runV (As := [.int p1]) (rest := []) ⟨hx, hb, hml, hown, hts⟩ (ct_X12_libraryAt l hlt dC dI _ p1 x xg liA liAC liAF li0 li1 li2 li0g li1g li2g (h_li0.sub [0] rfl) h_liA0 (h_li1.sub [0] rfl) h_liA1 (h_li2.sub [0] rfl) h_liA2 (h_x.sub [1] rfl)) (cwV 1 hts (gi_V wd_1831 wd_1833 wd_63 wd_327 wd_1834) rfl rfl rfl (by decide +kernel) ⟨(Nat.le_of_ble_eq_true rfl), (Nat.le_of_ble_eq_true rfl)⟩) ⟨fun a U g mk q => by obtain ⟨q0, q1, qP, qK, qD, qT⟩ := q; exact ⟨q0, q1, qP, va_K.moved (u := U) (U := U.calling g mk a) (Vm.Alike.refl U.vm) qK, qD, th.moved (u := U) (U := U.calling g mk a) (Vm.Alike.refl U.vm) qT⟩, va_recv hK hP (ci := 12) (q0 := 0) rfl rfl, fun U hU hW => ⟨rfl, by rw [hU], by rw [hU]; exact hP, va_K.moved hW.alike hK, hD.weaken (fun _ _ _ _ => trivial), by rw [hU]; exact ((hth.kept hS.2.1).narrow hFc).moved hW.alike⟩⟩ rfl rfl hl.1 rfl (lv_room (Nat.le_of_ble_eq_true rfl)) dX12_drop_40 ⟨(Nat.le_of_ble_eq_true rfl), (Nat.le_of_ble_eq_true rfl)⟩) (fun _ _ _ h => h) hS hFc (fun q _ h => hFc q h) (fun E ce q9 u t H1 locs ht hvm hp hB hz hk hS hce hcv hcl => ?_)
  subst hB
  have hD : va_D A [] := po_nilD
  have hP : va_P (dC, dI) CL [] H1 := po_nilP
  have hK := hK.sub (tys' := []) [] rfl
  generalize H1 = H at hP hS hce ⊢
  have hP : va_P (dC, dI) CL [] H := hP
  have hD : va_D A [] := hD
  exact vx_out (fun x h9 => (ht0 x h9).elim) hlocks hce hcv hcl (fun t ht hvm9 => ⟨(), trivial, ⟨rfl, by rw [ht]; exact hP, va_K.moved hvm9 hK, hD⟩, hS.F ht⟩) hS.2.2 (Nat.le_of_ble_eq_true rfl) (Nat.le_of_ble_eq_true rfl)
set_option maxHeartbeats 4000000 in
set_option maxRecDepth 100000 in
theorem gx51_L_drop (l : Launch) (hlt : l.stackTraces = false) (dC : Nat → ClassId) (dI : Nat → Nat → Nat) (sz : Nat) (p1 : Int32) (x liA li0 li1 li2 deA chA : Nat) (xg : List Value) (h_x : fx xg 17 [(7, .ref deA), (8, .ref liA), (9, .ref chA)]) (liAC : ClassId) (liAF : Nat → Option Nat) (li0g : List Value) (h_li0 : fx li0g 7 [(0, .int 0)]) (li1g : List Value) (h_li1 : fx li1g 7 [(0, .int 0)]) (li2g : List Value) (h_li2 : fx li2g 7 [(0, .int 0)]) (h_liA0 : liAF 0 = some li0) (h_liA1 : liAF 1 = some li1) (h_liA2 : liAF 2 = some li2) : Met l yL_drop (Cond.codeWith yL_drop cL_drop 4 (some .int) [(0, 6, 9, 19), (0, 6, 12, 32)] :: BG) ({ frames := 9, cells := 2, slots := 12, locals := 173 }) (va_Pc [.ref x, .int 1, .int p1] (fun U => U.heap.size = sz ∧ va_P (dC, dI) CL [(x, .inr (12, xg)), (liA, .inl (liAC, (3, .inr (.inr (.inr (.inr liAF)))))), (li0, .inr (5, li0g)), (li1, .inr (5, li1g)), (li2, .inr (5, li2g))] U.heap ∧ va_K (dC, dI) CL [(liAC, .object "ChipFlow$Library")] U ∧ va_D (fun _ => True) [(x, .inr (12, xg)), (liA, .inl (liAC, (3, .inr (.inr (.inr (.inr liAF)))))), (li0, .inr (5, li0g)), (li1, .inr (5, li1g)), (li2, .inr (5, li2g))] ∧ th (va_A [(x, .inr (12, xg)), (liA, .inl (liAC, (3, .inr (.inr (.inr (.inr liAF)))))), (li0, .inr (5, li0g)), (li1, .inr (5, li1g)), (li2, .inr (5, li2g))] sz) U U.heap)) (va_Qi (fun (r : Int32) (_ : Unit) => r = 2) (fun _ t => va_P (dC, dI) CL [] t.heap ∧ va_K (dC, dI) CL [] t ∧ va_D (va_A [(x, .inr (12, xg)), (liA, .inl (liAC, (3, .inr (.inr (.inr (.inr liAF)))))), (li0, .inr (5, li0g)), (li1, .inr (5, li1g)), (li2, .inr (5, li2g))] sz) []) (va_A [(x, .inr (12, xg)), (liA, .inl (liAC, (3, .inr (.inr (.inr (.inr liAF)))))), (li0, .inr (5, li0g)), (li1, .inr (5, li1g)), (li2, .inr (5, li2g))] sz)) 2 12 (va_A [(x, .inr (12, xg)), (liA, .inl (liAC, (3, .inr (.inr (.inr (.inr liAF)))))), (li0, .inr (5, li0g)), (li1, .inr (5, li1g)), (li2, .inr (5, li2g))] sz) := by
  refine va_MetW (hh := [(0, 6, 9, 19), (0, 6, 12, 32)]) (cc := cL_drop) (maxL := 4) (ret := (some .int)) (by decide) rfl ?_
  intro p e s m args below meth c s₁ B hml hv
  obtain ⟨rfl, hsz, hP, hK, hD0, hth⟩ := hv
  have hx := B.exec
  have hb := B.bytes
  have hr := B.returns
  have hts : ∀ w ∈ BG, w.before _ s = true := fun w h => atoms_spec (ws := Cond.codeWith yL_drop cL_drop 4 (some .int) [(0, 6, 9, 19), (0, 6, 12, 32)] :: BG) B.pre w (List.mem_cons_of_mem _ h)
  have hown : s.vm.findClass RL = some m.cls := findClass_of_methodNamed B.named
  have hlocks := B.notSynchronized
  subst hsz
  have hD := hD0.self (sz := s.heap.size)
  generalize hAe : va_A [(x, .inr (12, xg)), (liA, .inl (liAC, (3, .inr (.inr (.inr (.inr liAF)))))), (li0, .inr (5, li0g)), (li1, .inr (5, li1g)), (li2, .inr (5, li2g))] s.heap.size = A at hD hth ⊢
  have hA : ∀ q : Nat, s.heap.size ≤ q → A q := fun q h => by rw [← hAe]; exact Or.inr h
  have hS : va_S A s.heap s.heap [] := va_S.rf
  have hl := lv_entry ([.ref x, .int 1, .int p1]) (n := 4) (Nat.le_of_ble_eq_true rfl)
  rw [lg_entry_eq]
  generalize (lg_sl ([.ref x, .int 1, .int p1]) ++ List.replicate (4 - (lg_sl ([.ref x, .int 1, .int p1])).length) Slot.unset).toArray = ls at hl ⊢
  have hl : lv_has ls 4 [(0, .ref x), (1, .int 1), (2, .int p1)] := hl
  obtain ⟨H, eH⟩ : ∃ z, z = s.heap := ⟨_, rfl⟩
  have hP : va_P (dC, dI) CL [(x, .inr (12, xg)), (liA, .inl (liAC, (3, .inr (.inr (.inr (.inr liAF)))))), (li0, .inr (5, li0g)), (li1, .inr (5, li1g)), (li2, .inr (5, li2g))] H := by rw [eH]; exact hP
  have hS : va_S A s.heap H [] := by rw [eH]; exact hS
  rw [← eH]
  have hT : c.exceptionTable.toList = tableOf [(0, 6, 9, 19), (0, 6, 12, 32)] := vx_table (x := yL_drop) B (atoms_spec (ws := Cond.codeWith yL_drop cL_drop 4 (some .int) [(0, 6, 9, 19), (0, 6, 12, 32)] :: BG) B.pre _ List.mem_cons_self)
  refine lv_aload_n hx hb dL_drop_0 rfl (lv_at hl 0 rfl) ?_
  refine lv_iload_n hx hb dL_drop_1 rfl (lv_at hl 1 rfl) ?_
  refine lv_iload_n hx hb dL_drop_2 rfl (lv_at hl 2 rfl) ?_
  have hFc := va_free (wc := [(x, .inr (12, xg)), (liA, .inl (liAC, (3, .inr (.inr (.inr (.inr liAF)))))), (li0, .inr (5, li0g)), (li1, .inr (5, li1g)), (li2, .inr (5, li2g))]) hD hS hA [0, 1, 2, 3, 4] rfl
  refine vq_thr (vx_runV (As := [.int 1, .int p1]) (rest := []) ⟨hx, hb, hml, hown, hts⟩ (gx52_X12_drop l hlt dC dI _ p1 x liA li0 li1 li2 deA chA xg h_x liAC liAF li0g h_li0 li1g h_li1 li2g h_li2 h_liA0 h_liA1 h_liA2) (cwV 2 hts (gi_V wd_1805 wd_1806 wd_1807 wd_327 wd_1808) rfl rfl rfl (by decide +kernel) ⟨(Nat.le_of_ble_eq_true rfl), (Nat.le_of_ble_eq_true rfl)⟩) ⟨fun a U g mk q => by obtain ⟨q0, q1, qP, qK, qD, qT⟩ := q; exact ⟨q0, q1, qP, va_K.moved (u := U) (U := U.calling g mk a) (Vm.Alike.refl U.vm) qK, qD, th.moved (u := U) (U := U.calling g mk a) (Vm.Alike.refl U.vm) qT⟩, va_recv hK hP (ci := 12) (q0 := 0) rfl rfl, fun U hU hW => ⟨rfl, by rw [hU], by rw [hU]; exact hP, va_K.moved hW.alike hK, hD.weaken (fun _ _ _ _ => trivial), by rw [hU]; exact ((hth.kept hS.2.1).narrow hFc).moved hW.alike⟩⟩ rfl rfl hl.1 rfl (lv_room (Nat.le_of_ble_eq_true rfl)) dL_drop_3 ⟨(Nat.le_of_ble_eq_true rfl), (Nat.le_of_ble_eq_true rfl)⟩) (fun _ _ _ h => h) hS hFc (fun q _ h => hFc q h) (fun E ce q9 u t H1 locs ht hvm hp hB hz hk hS hce hcv hcl => ?_)
  obtain ⟨hE, hB⟩ := hB
  subst hE
  obtain ⟨hP1, hK1, hD1⟩ := hB
  rw [ht] at hP1
  have hD := hD1.weaken (fun k q _ h => hFc q.1 h)
  have hP := hP1
  have hK := hK.sub (tys' := []) [] rfl
  generalize H1 = H at hP hS hce ⊢
  have hP : va_P (dC, dI) CL [] H := hP
  have hD : va_D A [] := hD
  refine vx_catch (own := RL) (name := "java/lang/IndexOutOfBoundsException") hown [{ startPc := 0, endPc := 6, handlerPc := 9, catchType := 19 }] { startPc := 0, endPc := 6, handlerPc := 12, catchType := 32 } [] (by rw [hT]; rfl) (List.forall_mem_cons.mpr ⟨Or.inr ⟨by decide, "java/lang/IllegalArgumentException", hts (.classLink RL 19 "java/lang/IllegalArgumentException") wd_1323, hth.2.2.2.1 _ (by decide) _ (by decide) (by decide)⟩, fun _ h => nomatch h⟩) (by decide) (by decide) (hts (.classLink RL 32 "java/lang/IndexOutOfBoundsException") wd_1804) (hth.cast (by decide)) hce hcv hcl ?_
  refine W.widen (k := 2) (n := 12) (Nat.le_of_ble_eq_true rfl) (Nat.le_of_ble_eq_true rfl) ?_
  refine lv_astore_n (lv' := [(3, .ref q9), (0, .ref x), (1, .int 1), (2, .int p1)]) hx hb dL_drop_12 rfl hl (by decide) rfl (fun ls hl => ?_)
  refine lv_iconst (v := 2) hx hb dL_drop_13 (by decide +kernel) ?_
  refine W.widen (k := 2) (n := 12) (Nat.le_of_ble_eq_true rfl) (Nat.le_of_ble_eq_true rfl) ?_
  exact W.iret (v := 2) hx hb hr (fun t ht hW => ⟨⟨2, (), rfl, rfl, by rw [ht]; exact hP, va_K.moved hW.alike hK, hD⟩, hS.F ht⟩) hS.2.2 dL_drop_14
set_option maxHeartbeats 4000000 in
set_option maxRecDepth 100000 in
theorem gx54_X13_within (l : Launch) (hlt : l.stackTraces = false) (dC : Nat → ClassId) (dI : Nat → Nat → Nat) (sz : Nat) (m0 ml md mch : Nat) (m0g : List Value) (h_m0 : fx m0g 225 [(0, .int 0), (2, .int 0), (3, .int 0), (9, .int 0), (10, .int 0), (11, .int 0), (12, .int 0), (27, .int 0), (55, .ref md), (79, .int 0), (83, .int 0), (88, .ref ml), (95, .int 0), (138, .ref mch)]) (mlC : ClassId) : Met l yX13_within (Cond.code yX13_within cX13_within 3 (some .boolean) :: BG) ({ frames := 1, cells := 0, slots := 0, locals := 12 }) (va_Pc [.int 1, .int 0, .int 2] (fun U => U.heap.size = sz ∧ va_P (dC, dI) CL [(m0, .inr (13, m0g)), (ml, .inl (mlC, (3, .inl (fun _ => 0))))] U.heap ∧ va_K (dC, dI) CL [(mlC, .boolean)] U ∧ va_D (fun _ => True) [(m0, .inr (13, m0g)), (ml, .inl (mlC, (3, .inl (fun _ => 0))))] ∧ th (va_A [(m0, .inr (13, m0g)), (ml, .inl (mlC, (3, .inl (fun _ => 0))))] sz) U U.heap)) (va_Qi (fun (r : Int32) (_ : Unit) => r = 1) (fun _ t => ∃ (m0y : List Value), fx m0y 225 [(0, .int 0), (2, .int 0), (3, .int 0), (9, .int 0), (10, .int 0), (11, .int 0), (12, .int 0), (27, .int 0), (55, .ref md), (79, .int 0), (83, .int 0), (88, .ref ml), (95, .int 0), (138, .ref mch)] ∧ va_P (dC, dI) CL [(m0, .inr (13, m0y)), (ml, .inl (mlC, (3, .inl (fun _ => 0))))] t.heap ∧ va_K (dC, dI) CL [(mlC, .boolean)] t ∧ va_D (va_A [(m0, .inr (13, m0g)), (ml, .inl (mlC, (3, .inl (fun _ => 0))))] sz) [(m0, .inr (13, m0y)), (ml, .inl (mlC, (3, .inl (fun _ => 0))))]) (va_A [(m0, .inr (13, m0g)), (ml, .inl (mlC, (3, .inl (fun _ => 0))))] sz)) 0 0 (va_A [(m0, .inr (13, m0g)), (ml, .inl (mlC, (3, .inl (fun _ => 0))))] sz) := by
  refine Met.ofW (cc := cX13_within) (maxL := 3) (ret := (some .boolean)) (by decide) rfl ?_
  intro p e s m args below meth c s₁ B hml hv
  obtain ⟨rfl, hsz, hP, hK, hD0, hth⟩ := hv
  have hx := B.exec
  have hb := B.bytes
  have hr := B.returns
  have hts : ∀ w ∈ BG, w.before _ s = true := fun w h => atoms_spec (ws := Cond.code yX13_within cX13_within 3 (some .boolean) :: BG) B.pre w (List.mem_cons_of_mem _ h)
  have hown : s.vm.findClass RX13 = some m.cls := findClass_of_methodNamed B.named
  have hlocks := B.notSynchronized
  subst hsz
  have hD := hD0.self (sz := s.heap.size)
  generalize hAe : va_A [(m0, .inr (13, m0g)), (ml, .inl (mlC, (3, .inl (fun _ => 0))))] s.heap.size = A at hD hth ⊢
  have hA : ∀ q : Nat, s.heap.size ≤ q → A q := fun q h => by rw [← hAe]; exact Or.inr h
  have hS : va_S A s.heap s.heap [] := va_S.rf
  have hl := lv_entry ([.int 1, .int 0, .int 2]) (n := 3) (Nat.le_of_ble_eq_true rfl)
  rw [lg_entry_eq]
  generalize (lg_sl ([.int 1, .int 0, .int 2]) ++ List.replicate (3 - (lg_sl ([.int 1, .int 0, .int 2])).length) Slot.unset).toArray = ls at hl ⊢
  have hl : lv_has ls 3 [(0, .int 1), (1, .int 0), (2, .int 2)] := hl
  obtain ⟨H, eH⟩ : ∃ z, z = s.heap := ⟨_, rfl⟩
  have hP : va_P (dC, dI) CL [(m0, .inr (13, m0g)), (ml, .inl (mlC, (3, .inl (fun _ => 0))))] H := by rw [eH]; exact hP
  have hS : va_S A s.heap H [] := by rw [eH]; exact hS
  rw [← eH]
  refine lv_iload_n hx hb dX13_within_0 rfl (lv_at hl 0 rfl) ?_
  refine lv_iload_n hx hb dX13_within_1 rfl (lv_at hl 1 rfl) ?_
  refine lv_icmp_lt (tgt := 14) hx hb dX13_within_2 (by decide) (fun c9 => ?_) (fun c9 => ?_)
  · first | exact absurd c9 (by decide +kernel) | exact absurd (by decide +kernel) c9
  refine lv_iload_n hx hb dX13_within_5 rfl (lv_at hl 0 rfl) ?_
  refine lv_iload_n hx hb dX13_within_6 rfl (lv_at hl 2 rfl) ?_
  refine lv_icmp_gt (tgt := 14) hx hb dX13_within_7 (by decide) (fun c9 => ?_) (fun c9 => ?_)
  · first | exact absurd c9 (by decide +kernel) | exact absurd (by decide +kernel) c9
  refine lv_iconst (v := 1) hx hb dX13_within_10 (by decide +kernel) ?_
  refine lv_goto (tgt := 15) hx hb dX13_within_11 (by decide) ?_
  exact W.zret (v := 1) hx hb hr rfl (fun t ht hW => ⟨⟨1, (), rfl, rfl, m0g, h_m0, by rw [ht]; exact hP, va_K.moved hW.alike hK, hD⟩, hS.F ht⟩) hS.2.2 dX13_within_15
set_option maxHeartbeats 4000000 in
set_option maxRecDepth 100000 in
theorem gx55_X13_isOne (l : Launch) (hlt : l.stackTraces = false) (dC : Nat → ClassId) (dI : Nat → Nat → Nat) (sz : Nat) (p1 : Int32) (m0 ml md mch : Nat) (m0g : List Value) (h_m0 : fx m0g 225 [(0, .int 0), (2, .int 0), (3, .int 0), (9, .int 0), (10, .int 0), (11, .int 0), (12, .int 0), (27, .int 0), (55, .ref md), (79, .int 0), (83, .int 0), (88, .ref ml), (95, .int 0), (138, .ref mch)]) (mlC : ClassId) : Met l yX13_isOne (Cond.code yX13_isOne cX13_isOne 3 (some .boolean) :: BG) ({ frames := 2, cells := 0, slots := 0, locals := 33 }) (va_Pc [.ref m0, .int 1, .int p1] (fun U => U.heap.size = sz ∧ va_P (dC, dI) CL [(m0, .inr (13, m0g)), (ml, .inl (mlC, (3, .inl (fun _ => 0))))] U.heap ∧ va_K (dC, dI) CL [(mlC, .boolean)] U ∧ va_D (fun _ => True) [(m0, .inr (13, m0g)), (ml, .inl (mlC, (3, .inl (fun _ => 0))))] ∧ th (va_A [(m0, .inr (13, m0g)), (ml, .inl (mlC, (3, .inl (fun _ => 0))))] sz) U U.heap)) (va_Qi (fun (r : Int32) (_ : Unit) => r = 0) (fun _ t => ∃ (m0y : List Value), fx m0y 225 [(0, .int 0), (2, .int 0), (3, .int 0), (9, .int 0), (10, .int 0), (11, .int 0), (12, .int 0), (27, .int 0), (55, .ref md), (79, .int 0), (83, .int 0), (88, .ref ml), (95, .int 0), (138, .ref mch)] ∧ va_P (dC, dI) CL [(m0, .inr (13, m0y)), (ml, .inl (mlC, (3, .inl (fun _ => 0))))] t.heap ∧ va_K (dC, dI) CL [(mlC, .boolean)] t ∧ va_D (va_A [(m0, .inr (13, m0g)), (ml, .inl (mlC, (3, .inl (fun _ => 0))))] sz) [(m0, .inr (13, m0y)), (ml, .inl (mlC, (3, .inl (fun _ => 0))))]) (va_A [(m0, .inr (13, m0g)), (ml, .inl (mlC, (3, .inl (fun _ => 0))))] sz)) 0 0 (va_A [(m0, .inr (13, m0g)), (ml, .inl (mlC, (3, .inl (fun _ => 0))))] sz) := by
  refine Met.ofW (cc := cX13_isOne) (maxL := 3) (ret := (some .boolean)) (by decide) rfl ?_
  intro p e s m args below meth c s₁ B hml hv
  obtain ⟨rfl, hsz, hP, hK, hD0, hth⟩ := hv
  have hx := B.exec
  have hb := B.bytes
  have hr := B.returns
  have hts : ∀ w ∈ BG, w.before _ s = true := fun w h => atoms_spec (ws := Cond.code yX13_isOne cX13_isOne 3 (some .boolean) :: BG) B.pre w (List.mem_cons_of_mem _ h)
  have hown : s.vm.findClass RX13 = some m.cls := findClass_of_methodNamed B.named
  have hlocks := B.notSynchronized
  subst hsz
  have hD := hD0.self (sz := s.heap.size)
  generalize hAe : va_A [(m0, .inr (13, m0g)), (ml, .inl (mlC, (3, .inl (fun _ => 0))))] s.heap.size = A at hD hth ⊢
  have hA : ∀ q : Nat, s.heap.size ≤ q → A q := fun q h => by rw [← hAe]; exact Or.inr h
  have hS : va_S A s.heap s.heap [] := va_S.rf
  have hl := lv_entry ([.ref m0, .int 1, .int p1]) (n := 3) (Nat.le_of_ble_eq_true rfl)
  rw [lg_entry_eq]
  generalize (lg_sl ([.ref m0, .int 1, .int p1]) ++ List.replicate (3 - (lg_sl ([.ref m0, .int 1, .int p1])).length) Slot.unset).toArray = ls at hl ⊢
  have hl : lv_has ls 3 [(0, .ref m0), (1, .int 1), (2, .int p1)] := hl
  obtain ⟨H, eH⟩ : ∃ z, z = s.heap := ⟨_, rfl⟩
  have hP : va_P (dC, dI) CL [(m0, .inr (13, m0g)), (ml, .inl (mlC, (3, .inl (fun _ => 0))))] H := by rw [eH]; exact hP
  have hS : va_S A s.heap H [] := by rw [eH]; exact hS
  rw [← eH]
  refine lv_iload_n hx hb dX13_isOne_0 rfl (lv_at hl 1 rfl) ?_
  refine lv_if_ne (tgt := 12) hx hb dX13_isOne_1 (by decide) (fun c9 => ?_) (fun c9 => ?_)
  rotate_left
  · first | exact absurd c9 (by decide +kernel) | exact absurd (by decide +kernel) c9
  refine lv_iload_n hx hb dX13_isOne_12 rfl (lv_at hl 1 rfl) ?_
  refine lv_iconst (v := 1) hx hb dX13_isOne_13 (by decide +kernel) ?_
  refine lv_icmp_ne (tgt := 25) hx hb dX13_isOne_14 (by decide) (fun c9 => ?_) (fun c9 => ?_)
  · first | exact absurd c9 (by decide +kernel) | exact absurd (by decide +kernel) c9
  refine lv_aload_n hx hb dX13_isOne_17 rfl (lv_at hl 0 rfl) ?_
  refine lv_iload_n hx hb dX13_isOne_18 rfl (lv_at hl 2 rfl) ?_
  have hFc := va_free (wc := [(m0, .inr (13, m0g)), (ml, .inl (mlC, (3, .inl (fun _ => 0))))]) hD hS hA [0, 1] rfl
  refine va_calli (va_runV (As := [.int p1]) (rest := []) ⟨hx, hb, hml, hown, hts⟩ (ct_X13_isLibrary l dC dI _ p1 m0 m0g ml mlC (h_m0.sub [11] rfl)) (cwV 1 hts (gi_V wd_4080 wd_4082 wd_216 wd_340 wd_4083) rfl rfl rfl (by decide +kernel) ⟨(Nat.le_of_ble_eq_true rfl), (Nat.le_of_ble_eq_true rfl)⟩) ⟨fun a U g mk q => by obtain ⟨q0, q1, qP, qK, qD⟩ := q; exact ⟨q0, q1, qP, va_K.moved (u := U) (U := U.calling g mk a) (Vm.Alike.refl U.vm) qK, qD⟩, va_recv hK hP (ci := 13) (q0 := 0) rfl rfl, fun U hU hW => ⟨rfl, by rw [hU], by rw [hU]; exact hP, va_K.moved hW.alike hK, hD.weaken (fun _ _ _ _ => trivial)⟩⟩ rfl rfl hl.1 rfl (lv_room (Nat.le_of_ble_eq_true rfl)) dX13_isOne_19 ⟨(Nat.le_of_ble_eq_true rfl), (Nat.le_of_ble_eq_true rfl)⟩) hS (fun q _ h => hFc q h) hFc (fun r u t H1 locs ht hvm hw hB hz1 hk1 hS => ?_)
  subst hw
  obtain ⟨hP1, hK1, hD1⟩ := hB
  rw [ht] at hP1
  have hD := hD1.weaken (fun k q _ h => hFc q.1 h)
  have hP := hP1
  generalize H1 = H at hP hS ⊢
  have hP : va_P (dC, dI) CL [(m0, .inr (13, m0g)), (ml, .inl (mlC, (3, .inl (fun _ => 0))))] H := hP
  have hD : va_D A [(m0, .inr (13, m0g)), (ml, .inl (mlC, (3, .inl (fun _ => 0))))] := hD
  refine lv_goto (tgt := 30) hx hb dX13_isOne_22 (by decide) ?_
  exact W.zret (v := 0) hx hb hr rfl (fun t ht hW => ⟨⟨0, (), rfl, rfl, m0g, h_m0, by rw [ht]; exact hP, va_K.moved hW.alike hK, hD⟩, hS.F ht⟩) hS.2.2 dX13_isOne_30
set_option maxHeartbeats 4000000 in
set_option maxRecDepth 100000 in
theorem gx53_X13_drop (l : Launch) (hlt : l.stackTraces = false) (dC : Nat → ClassId) (dI : Nat → Nat → Nat) (sz : Nat) (p1 : Int32) (m0 ml md mch : Nat) (m0g : List Value) (h_m0 : fx m0g 225 [(0, .int 0), (2, .int 0), (3, .int 0), (9, .int 0), (10, .int 0), (11, .int 0), (12, .int 0), (27, .int 0), (55, .ref md), (79, .int 0), (83, .int 0), (88, .ref ml), (95, .int 0), (138, .ref mch)]) (mlC : ClassId) : Met l yX13_drop (Cond.code yX13_drop cX13_drop 3 none :: BG) ({ frames := 3, cells := 0, slots := 0, locals := 55 }) (va_Pc [.ref m0, .int 1, .int p1] (fun U => U.heap.size = sz ∧ va_P (dC, dI) CL [(m0, .inr (13, m0g)), (ml, .inl (mlC, (3, .inl (fun _ => 0))))] U.heap ∧ va_K (dC, dI) CL [(mlC, .boolean)] U ∧ va_D (fun _ => True) [(m0, .inr (13, m0g)), (ml, .inl (mlC, (3, .inl (fun _ => 0))))] ∧ th (va_A [(m0, .inr (13, m0g)), (ml, .inl (mlC, (3, .inl (fun _ => 0))))] sz) U U.heap)) (va_Qv (fun _ : Unit => True) (fun _ t => ∃ (m0y : List Value), fx m0y 225 [(0, .int 2), (2, .int 0), (3, .int 0), (9, .int 0), (10, .int 0), (11, .int 0), (12, .int 0), (27, .int 0), (55, .ref md), (79, .int 0), (83, .int 0), (88, .ref ml), (95, .int 0), (138, .ref mch)] ∧ va_P (dC, dI) CL [(m0, .inr (13, m0y)), (ml, .inl (mlC, (3, .inl (fun _ => 0))))] t.heap ∧ va_K (dC, dI) CL [(mlC, .boolean)] t ∧ va_D (va_A [(m0, .inr (13, m0g)), (ml, .inl (mlC, (3, .inl (fun _ => 0))))] sz) [(m0, .inr (13, m0y)), (ml, .inl (mlC, (3, .inl (fun _ => 0))))]) (va_A [(m0, .inr (13, m0g)), (ml, .inl (mlC, (3, .inl (fun _ => 0))))] sz)) 0 0 (va_A [(m0, .inr (13, m0g)), (ml, .inl (mlC, (3, .inl (fun _ => 0))))] sz) := by
  refine Met.ofW (cc := cX13_drop) (maxL := 3) (ret := none) (by decide) rfl ?_
  intro p e s m args below meth c s₁ B hml hv
  obtain ⟨rfl, hsz, hP, hK, hD0, hth⟩ := hv
  have hx := B.exec
  have hb := B.bytes
  have hr := B.returns
  have hts : ∀ w ∈ BG, w.before _ s = true := fun w h => atoms_spec (ws := Cond.code yX13_drop cX13_drop 3 none :: BG) B.pre w (List.mem_cons_of_mem _ h)
  have hown : s.vm.findClass RX13 = some m.cls := findClass_of_methodNamed B.named
  have hlocks := B.notSynchronized
  subst hsz
  have hD := hD0.self (sz := s.heap.size)
  generalize hAe : va_A [(m0, .inr (13, m0g)), (ml, .inl (mlC, (3, .inl (fun _ => 0))))] s.heap.size = A at hD hth ⊢
  have hA : ∀ q : Nat, s.heap.size ≤ q → A q := fun q h => by rw [← hAe]; exact Or.inr h
  have hS : va_S A s.heap s.heap [] := va_S.rf
  have hl := lv_entry ([.ref m0, .int 1, .int p1]) (n := 3) (Nat.le_of_ble_eq_true rfl)
  rw [lg_entry_eq]
  generalize (lg_sl ([.ref m0, .int 1, .int p1]) ++ List.replicate (3 - (lg_sl ([.ref m0, .int 1, .int p1])).length) Slot.unset).toArray = ls at hl ⊢
  have hl : lv_has ls 3 [(0, .ref m0), (1, .int 1), (2, .int p1)] := hl
  obtain ⟨H, eH⟩ : ∃ z, z = s.heap := ⟨_, rfl⟩
  have hP : va_P (dC, dI) CL [(m0, .inr (13, m0g)), (ml, .inl (mlC, (3, .inl (fun _ => 0))))] H := by rw [eH]; exact hP
  have hS : va_S A s.heap H [] := by rw [eH]; exact hS
  rw [← eH]
  refine lv_aload_n hx hb dX13_drop_0 rfl (lv_at hl 0 rfl) ?_
  refine lv_iload_n hx hb dX13_drop_1 rfl (lv_at hl 1 rfl) ?_
  refine lv_iconst (v := 0) hx hb dX13_drop_2 (by decide +kernel) ?_
  refine lv_iconst (v := 2) hx hb dX13_drop_3 (by decide +kernel) ?_
  have hFc := va_free (wc := [(m0, .inr (13, m0g)), (ml, .inl (mlC, (3, .inl (fun _ => 0))))]) hD hS hA [0, 1] rfl
  refine va_calli (va_runS (As := [.int 1, .int 0, .int 2]) (rest := [.ref m0]) ⟨hx, hb, hml, hown, hts⟩ (gx54_X13_within l hlt dC dI _ m0 ml md mch m0g h_m0 mlC) (cwS 3 hts (gi_S wd_3825 wd_3826 wd_340 wd_3827) rfl rfl rfl (by decide +kernel) ⟨(Nat.le_of_ble_eq_true rfl), (Nat.le_of_ble_eq_true rfl)⟩) ⟨fun a U g mk q => by obtain ⟨q0, q1, qP, qK, qD, qT⟩ := q; exact ⟨q0, q1, qP, va_K.moved (u := U) (U := U.calling g mk a) (Vm.Alike.refl U.vm) qK, qD, th.moved (u := U) (U := U.calling g mk a) (Vm.Alike.refl U.vm) qT⟩, fun U hU hW => ⟨rfl, by rw [hU], by rw [hU]; exact hP, va_K.moved hW.alike hK, hD.weaken (fun _ _ _ _ => trivial), by rw [hU]; exact ((hth.kept hS.2.1).narrow hFc).moved hW.alike⟩⟩ rfl rfl hl.1 rfl (lv_room (Nat.le_of_ble_eq_true rfl)) dX13_drop_4 ⟨(Nat.le_of_ble_eq_true rfl), (Nat.le_of_ble_eq_true rfl)⟩) hS (fun q _ h => hFc q h) hFc (fun r u t H1 locs ht hvm hw hB hz1 hk1 hS => ?_)
  subst hw
  obtain ⟨fs_1, h_m0, hP1, hK1, hD1⟩ := hB
  rw [ht] at hP1
  have hD := hD1.weaken (fun k q _ h => hFc q.1 h)
  have hP := hP1
  generalize H1 = H at hP hS ⊢
  have hP : va_P (dC, dI) CL [(m0, .inr (13, fs_1)), (ml, .inl (mlC, (3, .inl (fun _ => 0))))] H := hP
  have hD : va_D A [(m0, .inr (13, fs_1)), (ml, .inl (mlC, (3, .inl (fun _ => 0))))] := hD
  refine lv_if_ne (tgt := 14) hx hb dX13_drop_7 (by decide) (fun c9 => ?_) (fun c9 => ?_)
  rotate_left
  · first | exact absurd c9 (by decide +kernel) | exact absurd (by decide +kernel) c9
  refine lv_aload_n hx hb dX13_drop_14 rfl (lv_at hl 0 rfl) ?_
  refine lv_iload_n hx hb dX13_drop_15 rfl (lv_at hl 1 rfl) ?_
  refine lv_iload_n hx hb dX13_drop_16 rfl (lv_at hl 2 rfl) ?_
  have hFc := va_free (wc := [(m0, .inr (13, fs_1)), (ml, .inl (mlC, (3, .inl (fun _ => 0))))]) hD hS hA [0, 1] rfl
  refine va_calli (va_runV (As := [.int 1, .int p1]) (rest := [.ref m0]) ⟨hx, hb, hml, hown, hts⟩ (gx55_X13_isOne l hlt dC dI _ p1 m0 ml md mch fs_1 h_m0 mlC) (cwV 2 hts (gi_V wd_4072 wd_4074 wd_214 wd_340 wd_4075) rfl rfl rfl (by decide +kernel) ⟨(Nat.le_of_ble_eq_true rfl), (Nat.le_of_ble_eq_true rfl)⟩) ⟨fun a U g mk q => by obtain ⟨q0, q1, qP, qK, qD, qT⟩ := q; exact ⟨q0, q1, qP, va_K.moved (u := U) (U := U.calling g mk a) (Vm.Alike.refl U.vm) qK, qD, th.moved (u := U) (U := U.calling g mk a) (Vm.Alike.refl U.vm) qT⟩, va_recv hK hP (ci := 13) (q0 := 0) rfl rfl, fun U hU hW => ⟨rfl, by rw [hU], by rw [hU]; exact hP, va_K.moved hW.alike hK, hD.weaken (fun _ _ _ _ => trivial), by rw [hU]; exact ((hth.kept hS.2.1).narrow hFc).moved hW.alike⟩⟩ rfl rfl hl.1 rfl (lv_room (Nat.le_of_ble_eq_true rfl)) dX13_drop_17 ⟨(Nat.le_of_ble_eq_true rfl), (Nat.le_of_ble_eq_true rfl)⟩) hS (fun q _ h => hFc q h) hFc (fun r u t H1 locs ht hvm hw hB hz1 hk1 hS => ?_)
  subst hw
  obtain ⟨fs_2, h_m0, hP1, hK1, hD1⟩ := hB
  rw [ht] at hP1
  have hD := hD1.weaken (fun k q _ h => hFc q.1 h)
  have hP := hP1
  generalize H1 = H at hP hS ⊢
  have hP : va_P (dC, dI) CL [(m0, .inr (13, fs_2)), (ml, .inl (mlC, (3, .inl (fun _ => 0))))] H := hP
  have hD : va_D A [(m0, .inr (13, fs_2)), (ml, .inl (mlC, (3, .inl (fun _ => 0))))] := hD
  refine lv_if_ne (tgt := 27) hx hb dX13_drop_20 (by decide) (fun c9 => ?_) (fun c9 => ?_)
  · first | exact absurd c9 (by decide +kernel) | exact absurd (by decide +kernel) c9
  refine lv_iconst (v := 2) hx hb dX13_drop_23 (by decide +kernel) ?_
  refine lv_goto (tgt := 28) hx hb dX13_drop_24 (by decide) ?_
  refine va_put (D := (dC, dI)) (ci := 13) (v := .int 2) (ty := tyX13 0) (C := RX13) (T := TX13) (N := 225) hx hb hts inX13 tyX13 tyX13_ok nmX13 hown hK hP hD hS 0 rfl rfl 0 (by decide) (hts (.fieldLink RX13 1 "ChipFlowModel" "code" "I") wd_3032) (fun _ h9 => h9) rfl (by decide +kernel) rfl rfl (by rw [h_m0.1]; decide) dX13_drop_28 (fun H locs hP hD hS => ?_)
  obtain ⟨fs_3, e9⟩ : ∃ z, z = fs_2.set 0 (.int 2) := ⟨_, rfl⟩
  have h_m0 : fx fs_3 225 [(0, .int 2), (2, .int 0), (3, .int 0), (9, .int 0), (10, .int 0), (11, .int 0), (12, .int 0), (27, .int 0), (55, .ref md), (79, .int 0), (83, .int 0), (88, .ref ml), (95, .int 0), (138, .ref mch)] := by rw [e9]; exact (h_m0.put (F' := [(0, .int 2), (2, .int 0), (3, .int 0), (9, .int 0), (10, .int 0), (11, .int 0), (12, .int 0), (27, .int 0), (55, .ref md), (79, .int 0), (83, .int 0), (88, .ref ml), (95, .int 0), (138, .ref mch)]) (by decide) _ rfl).sub [0, 1, 2, 3, 4, 5, 6, 7, 8, 9, 10, 11, 12, 13] rfl
  have hP : va_P (dC, dI) CL [(m0, .inr (13, fs_3)), (ml, .inl (mlC, (3, .inl (fun _ => 0))))] H := by rw [e9]; exact hP
  have hD : va_D A [(m0, .inr (13, fs_3)), (ml, .inl (mlC, (3, .inl (fun _ => 0))))] := by rw [e9]; exact hD
  clear e9
  refine lv_aload_n hx hb dX13_drop_31 rfl (lv_at hl 0 rfl) ?_
  refine va_get (D := (dC, dI)) (ci := 13) (v := .int 2) (C := RX13) (T := TX13) (N := 225) hx hb hts inX13 hown hK hP 0 rfl rfl 0 (by decide) (hts (.fieldLink RX13 1 "ChipFlowModel" "code" "I") wd_3032) (fun _ h9 => h9) (h_m0.get 0 rfl) dX13_drop_32 ?_
  refine lv_if_le (tgt := 39) hx hb dX13_drop_35 (by decide) (fun c9 => ?_) (fun c9 => ?_)
  · first | exact absurd c9 (by decide +kernel) | exact absurd (by decide +kernel) c9
  exact W.vret hx hb hr (fun t ht hW => ⟨⟨(), rfl, trivial, fs_3, h_m0, by rw [ht]; exact hP, va_K.moved hW.alike hK, hD⟩, hS.F ht⟩) hS.2.2 dX13_drop_38
set_option maxHeartbeats 4000000 in
set_option maxRecDepth 100000 in
theorem gx57_X12_drop (l : Launch) (hlt : l.stackTraces = false) (dC : Nat → ClassId) (dI : Nat → Nat → Nat) (sz : Nat) (p1 : Int32) (x chA ch0 ch1 ch2 ch3 deA liA : Nat) (xg : List Value) (h_x : fx xg 17 [(7, .ref deA), (8, .ref liA), (9, .ref chA)]) (chAC : ClassId) (chAF : Nat → Option Nat) (ch0g : List Value) (h_ch0 : fx ch0g 20 [(0, .int 0)]) (ch1g : List Value) (h_ch1 : fx ch1g 20 [(0, .int 0)]) (ch2g : List Value) (h_ch2 : fx ch2g 20 [(0, .int 0)]) (ch3g : List Value) (h_ch3 : fx ch3g 20 [(0, .int 0)]) (h_chA0 : chAF 0 = some ch0) (h_chA1 : chAF 1 = some ch1) (h_chA2 : chAF 2 = some ch2) (h_chA3 : chAF 3 = some ch3) : vx_Met l yX12_drop (Cond.code yX12_drop cX12_drop 3 none :: BG) ({ frames := 8, cells := 2, slots := 12, locals := 151 }) (va_Pc [.ref x, .int 2, .int p1] (fun U => U.heap.size = sz ∧ va_P (dC, dI) CL [(x, .inr (12, xg)), (chA, .inl (chAC, (4, .inr (.inr (.inr (.inr chAF)))))), (ch0, .inr (2, ch0g)), (ch1, .inr (2, ch1g)), (ch2, .inr (2, ch2g)), (ch3, .inr (2, ch3g))] U.heap ∧ va_K (dC, dI) CL [(chAC, .object "ChipFlow$Chip")] U ∧ va_D (fun _ => True) [(x, .inr (12, xg)), (chA, .inl (chAC, (4, .inr (.inr (.inr (.inr chAF)))))), (ch0, .inr (2, ch0g)), (ch1, .inr (2, ch1g)), (ch2, .inr (2, ch2g)), (ch3, .inr (2, ch3g))] ∧ th (va_A [(x, .inr (12, xg)), (chA, .inl (chAC, (4, .inr (.inr (.inr (.inr chAF)))))), (ch0, .inr (2, ch0g)), (ch1, .inr (2, ch1g)), (ch2, .inr (2, ch2g)), (ch3, .inr (2, ch3g))] sz) U U.heap)) (fun _ _ _ _ => False) (vx_X (fun _ : Unit => True) (fun E _ t => E = "java/lang/IndexOutOfBoundsException" ∧ va_P (dC, dI) CL [] t.heap ∧ va_K (dC, dI) CL [] t ∧ va_D (va_A [(x, .inr (12, xg)), (chA, .inl (chAC, (4, .inr (.inr (.inr (.inr chAF)))))), (ch0, .inr (2, ch0g)), (ch1, .inr (2, ch1g)), (ch2, .inr (2, ch2g)), (ch3, .inr (2, ch3g))] sz) []) (va_A [(x, .inr (12, xg)), (chA, .inl (chAC, (4, .inr (.inr (.inr (.inr chAF)))))), (ch0, .inr (2, ch0g)), (ch1, .inr (2, ch1g)), (ch2, .inr (2, ch2g)), (ch3, .inr (2, ch3g))] sz)) 2 12 (va_A [(x, .inr (12, xg)), (chA, .inl (chAC, (4, .inr (.inr (.inr (.inr chAF)))))), (ch0, .inr (2, ch0g)), (ch1, .inr (2, ch1g)), (ch2, .inr (2, ch2g)), (ch3, .inr (2, ch3g))] sz) := by
  refine vx_ofW (cc := cX12_drop) (maxL := 3) (ret := none) (by decide) rfl ?_
  intro p e s m args below meth c s₁ B hml ht0 hv
  obtain ⟨rfl, hsz, hP, hK, hD0, hth⟩ := hv
  have hx := B.exec
  have hb := B.bytes
  have hr := B.returns
  have hts : ∀ w ∈ BG, w.before _ s = true := fun w h => atoms_spec (ws := Cond.code yX12_drop cX12_drop 3 none :: BG) B.pre w (List.mem_cons_of_mem _ h)
  have hown : s.vm.findClass RX12 = some m.cls := findClass_of_methodNamed B.named
  have hlocks := B.notSynchronized
  subst hsz
  have hD := hD0.self (sz := s.heap.size)
  generalize hAe : va_A [(x, .inr (12, xg)), (chA, .inl (chAC, (4, .inr (.inr (.inr (.inr chAF)))))), (ch0, .inr (2, ch0g)), (ch1, .inr (2, ch1g)), (ch2, .inr (2, ch2g)), (ch3, .inr (2, ch3g))] s.heap.size = A at hD hth ⊢
  have hA : ∀ q : Nat, s.heap.size ≤ q → A q := fun q h => by rw [← hAe]; exact Or.inr h
  have hS : va_S A s.heap s.heap [] := va_S.rf
  have hl := lv_entry ([.ref x, .int 2, .int p1]) (n := 3) (Nat.le_of_ble_eq_true rfl)
  rw [lg_entry_eq]
  generalize (lg_sl ([.ref x, .int 2, .int p1]) ++ List.replicate (3 - (lg_sl ([.ref x, .int 2, .int p1])).length) Slot.unset).toArray = ls at hl ⊢
  have hl : lv_has ls 3 [(0, .ref x), (1, .int 2), (2, .int p1)] := hl
  obtain ⟨H, eH⟩ : ∃ z, z = s.heap := ⟨_, rfl⟩
  have hP : va_P (dC, dI) CL [(x, .inr (12, xg)), (chA, .inl (chAC, (4, .inr (.inr (.inr (.inr chAF)))))), (ch0, .inr (2, ch0g)), (ch1, .inr (2, ch1g)), (ch2, .inr (2, ch2g)), (ch3, .inr (2, ch3g))] H := by rw [eH]; exact hP
  have hS : va_S A s.heap H [] := by rw [eH]; exact hS
  rw [← eH]
  refine lv_iload_n hx hb dX12_drop_0 rfl (lv_at hl 1 rfl) ?_
  refine lv_if_lt (tgt := 13) hx hb dX12_drop_1 (by decide) (fun c9 => ?_) (fun c9 => ?_)
  · first | exact absurd c9 (by decide +kernel) | exact absurd (by decide +kernel) c9
  refine lv_iload_n hx hb dX12_drop_4 rfl (lv_at hl 1 rfl) ?_
  refine lv_iconst (v := 2) hx hb dX12_drop_5 (by decide +kernel) ?_
  refine lv_icmp_gt (tgt := 13) hx hb dX12_drop_6 (by decide) (fun c9 => ?_) (fun c9 => ?_)
  · first | exact absurd c9 (by decide +kernel) | exact absurd (by decide +kernel) c9
  refine lv_iconst (v := 1) hx hb dX12_drop_9 (by decide +kernel) ?_
  refine lv_goto (tgt := 14) hx hb dX12_drop_10 (by decide) ?_
  have hF0 : ∀ q, va_A [] H.size q → A q := fun q h => h.elim (fun ⟨k9, e9, h9⟩ => by simp at h9) (fun h9 => hA q (Nat.le_trans hS.1 h9))
  refine vx_callv (vx_runS (As := [.int 1]) (rest := []) ⟨hx, hb, hml, hown, hts⟩ (ct_X12_needRange l hlt H.size 1) (cwS 1 hts (gi_S wd_1328 wd_1329 wd_327 wd_1330) rfl rfl rfl (by decide +kernel) ⟨(Nat.le_of_ble_eq_true rfl), (Nat.le_of_ble_eq_true rfl)⟩) ⟨fun a U g mk q => ⟨q.1, q.2.1, th.moved (u := U) (U := U.calling g mk a) (Vm.Alike.refl U.vm) q.2.2⟩, fun U hU hW => ⟨rfl, by rw [hU], by rw [hU]; exact ((hth.kept hS.2.1).narrow hF0).moved hW.alike⟩⟩ rfl rfl hl.1 rfl (lv_room (Nat.le_of_ble_eq_true rfl)) dX12_drop_14 ⟨(Nat.le_of_ble_eq_true rfl), (Nat.le_of_ble_eq_true rfl)⟩) hS (fun q _ h => hF0 q h) hF0 (fun q _ h => hF0 q h) (fun E ce q9 u t H1 locs ht hvm hp hB hz hk hS hce hcv hcl => absurd hp (by decide +kernel)) (fun u t H1 locs ht hvm hp hB hz hk hS => ?_)
  have hP : va_P (dC, dI) CL [(x, .inr (12, xg)), (chA, .inl (chAC, (4, .inr (.inr (.inr (.inr chAF)))))), (ch0, .inr (2, ch0g)), (ch1, .inr (2, ch1g)), (ch2, .inr (2, ch2g)), (ch3, .inr (2, ch3g))] H1 := hP.kept (fun k q h9 => hk _ (vx_lt hP h9) (fun h8 => h8.elim (fun ⟨k9, e9, h7⟩ => by simp at h7) (fun h7 => absurd (vx_lt hP h9) (Nat.not_lt.mpr h7))))
  generalize H1 = H at hP hS ⊢
  refine W.widen (k := 1) (n := 6) (Nat.le_of_ble_eq_true rfl) (Nat.le_of_ble_eq_true rfl) ?_
  refine lv_iload_n hx hb dX12_drop_17 rfl (lv_at hl 1 rfl) ?_
  refine lv_if_ne (tgt := 33) hx hb dX12_drop_18 (by decide) (fun c9 => ?_) (fun c9 => ?_)
  rotate_left
  · first | exact absurd c9 (by decide +kernel) | exact absurd (by decide +kernel) c9
  refine lv_iload_n hx hb dX12_drop_33 rfl (lv_at hl 1 rfl) ?_
  refine lv_iconst (v := 1) hx hb dX12_drop_34 (by decide +kernel) ?_
  refine lv_icmp_ne (tgt := 50) hx hb dX12_drop_35 (by decide) (fun c9 => ?_) (fun c9 => ?_)
  rotate_left
  · first | exact absurd c9 (by decide +kernel) | exact absurd (by decide +kernel) c9
  refine lv_aload_n hx hb dX12_drop_50 rfl (lv_at hl 0 rfl) ?_
  refine lv_iload_n hx hb dX12_drop_51 rfl (lv_at hl 2 rfl) ?_
  have hFc := va_free (wc := [(x, .inr (12, xg)), (chA, .inl (chAC, (4, .inr (.inr (.inr (.inr chAF)))))), (ch0, .inr (2, ch0g)), (ch1, .inr (2, ch1g)), (ch2, .inr (2, ch2g)), (ch3, .inr (2, ch3g))]) hD hS hA [0, 1, 2, 3, 4, 5] rfl
  refine vq_thr (vx_runV (As := [.int p1]) (rest := []) ⟨hx, hb, hml, hown, hts⟩ (ct_X12_chipAt l hlt dC dI _ p1 x xg chA chAC chAF ch0 ch1 ch2 ch3 ch0g ch1g ch2g ch3g (h_ch0.sub [0] rfl) h_chA0 (h_ch1.sub [0] rfl) h_chA1 (h_ch2.sub [0] rfl) h_chA2 (h_ch3.sub [0] rfl) h_chA3 (h_x.sub [2] rfl)) (cwV 1 hts (gi_V wd_1835 wd_1837 wd_64 wd_327 wd_1838) rfl rfl rfl (by decide +kernel) ⟨(Nat.le_of_ble_eq_true rfl), (Nat.le_of_ble_eq_true rfl)⟩) ⟨fun a U g mk q => by obtain ⟨q0, q1, qP, qK, qD, qT⟩ := q; exact ⟨q0, q1, qP, va_K.moved (u := U) (U := U.calling g mk a) (Vm.Alike.refl U.vm) qK, qD, th.moved (u := U) (U := U.calling g mk a) (Vm.Alike.refl U.vm) qT⟩, va_recv hK hP (ci := 12) (q0 := 0) rfl rfl, fun U hU hW => ⟨rfl, by rw [hU], by rw [hU]; exact hP, va_K.moved hW.alike hK, hD.weaken (fun _ _ _ _ => trivial), by rw [hU]; exact ((hth.kept hS.2.1).narrow hFc).moved hW.alike⟩⟩ rfl rfl hl.1 rfl (lv_room (Nat.le_of_ble_eq_true rfl)) dX12_drop_52 ⟨(Nat.le_of_ble_eq_true rfl), (Nat.le_of_ble_eq_true rfl)⟩) (fun _ _ _ h => h) hS hFc (fun q _ h => hFc q h) (fun E ce q9 u t H1 locs ht hvm hp hB hz hk hS hce hcv hcl => ?_)
  subst hB
  have hD : va_D A [] := po_nilD
  have hP : va_P (dC, dI) CL [] H1 := po_nilP
  have hK := hK.sub (tys' := []) [] rfl
  generalize H1 = H at hP hS hce ⊢
  have hP : va_P (dC, dI) CL [] H := hP
  have hD : va_D A [] := hD
  exact vx_out (fun x h9 => (ht0 x h9).elim) hlocks hce hcv hcl (fun t ht hvm9 => ⟨(), trivial, ⟨rfl, by rw [ht]; exact hP, va_K.moved hvm9 hK, hD⟩, hS.F ht⟩) hS.2.2 (Nat.le_of_ble_eq_true rfl) (Nat.le_of_ble_eq_true rfl)
set_option maxHeartbeats 4000000 in
set_option maxRecDepth 100000 in
theorem gx56_L_drop (l : Launch) (hlt : l.stackTraces = false) (dC : Nat → ClassId) (dI : Nat → Nat → Nat) (sz : Nat) (p1 : Int32) (x chA ch0 ch1 ch2 ch3 deA liA : Nat) (xg : List Value) (h_x : fx xg 17 [(7, .ref deA), (8, .ref liA), (9, .ref chA)]) (chAC : ClassId) (chAF : Nat → Option Nat) (ch0g : List Value) (h_ch0 : fx ch0g 20 [(0, .int 0)]) (ch1g : List Value) (h_ch1 : fx ch1g 20 [(0, .int 0)]) (ch2g : List Value) (h_ch2 : fx ch2g 20 [(0, .int 0)]) (ch3g : List Value) (h_ch3 : fx ch3g 20 [(0, .int 0)]) (h_chA0 : chAF 0 = some ch0) (h_chA1 : chAF 1 = some ch1) (h_chA2 : chAF 2 = some ch2) (h_chA3 : chAF 3 = some ch3) : Met l yL_drop (Cond.codeWith yL_drop cL_drop 4 (some .int) [(0, 6, 9, 19), (0, 6, 12, 32)] :: BG) ({ frames := 9, cells := 2, slots := 12, locals := 173 }) (va_Pc [.ref x, .int 2, .int p1] (fun U => U.heap.size = sz ∧ va_P (dC, dI) CL [(x, .inr (12, xg)), (chA, .inl (chAC, (4, .inr (.inr (.inr (.inr chAF)))))), (ch0, .inr (2, ch0g)), (ch1, .inr (2, ch1g)), (ch2, .inr (2, ch2g)), (ch3, .inr (2, ch3g))] U.heap ∧ va_K (dC, dI) CL [(chAC, .object "ChipFlow$Chip")] U ∧ va_D (fun _ => True) [(x, .inr (12, xg)), (chA, .inl (chAC, (4, .inr (.inr (.inr (.inr chAF)))))), (ch0, .inr (2, ch0g)), (ch1, .inr (2, ch1g)), (ch2, .inr (2, ch2g)), (ch3, .inr (2, ch3g))] ∧ th (va_A [(x, .inr (12, xg)), (chA, .inl (chAC, (4, .inr (.inr (.inr (.inr chAF)))))), (ch0, .inr (2, ch0g)), (ch1, .inr (2, ch1g)), (ch2, .inr (2, ch2g)), (ch3, .inr (2, ch3g))] sz) U U.heap)) (va_Qi (fun (r : Int32) (_ : Unit) => r = 2) (fun _ t => va_P (dC, dI) CL [] t.heap ∧ va_K (dC, dI) CL [] t ∧ va_D (va_A [(x, .inr (12, xg)), (chA, .inl (chAC, (4, .inr (.inr (.inr (.inr chAF)))))), (ch0, .inr (2, ch0g)), (ch1, .inr (2, ch1g)), (ch2, .inr (2, ch2g)), (ch3, .inr (2, ch3g))] sz) []) (va_A [(x, .inr (12, xg)), (chA, .inl (chAC, (4, .inr (.inr (.inr (.inr chAF)))))), (ch0, .inr (2, ch0g)), (ch1, .inr (2, ch1g)), (ch2, .inr (2, ch2g)), (ch3, .inr (2, ch3g))] sz)) 2 12 (va_A [(x, .inr (12, xg)), (chA, .inl (chAC, (4, .inr (.inr (.inr (.inr chAF)))))), (ch0, .inr (2, ch0g)), (ch1, .inr (2, ch1g)), (ch2, .inr (2, ch2g)), (ch3, .inr (2, ch3g))] sz) := by
  refine va_MetW (hh := [(0, 6, 9, 19), (0, 6, 12, 32)]) (cc := cL_drop) (maxL := 4) (ret := (some .int)) (by decide) rfl ?_
  intro p e s m args below meth c s₁ B hml hv
  obtain ⟨rfl, hsz, hP, hK, hD0, hth⟩ := hv
  have hx := B.exec
  have hb := B.bytes
  have hr := B.returns
  have hts : ∀ w ∈ BG, w.before _ s = true := fun w h => atoms_spec (ws := Cond.codeWith yL_drop cL_drop 4 (some .int) [(0, 6, 9, 19), (0, 6, 12, 32)] :: BG) B.pre w (List.mem_cons_of_mem _ h)
  have hown : s.vm.findClass RL = some m.cls := findClass_of_methodNamed B.named
  have hlocks := B.notSynchronized
  subst hsz
  have hD := hD0.self (sz := s.heap.size)
  generalize hAe : va_A [(x, .inr (12, xg)), (chA, .inl (chAC, (4, .inr (.inr (.inr (.inr chAF)))))), (ch0, .inr (2, ch0g)), (ch1, .inr (2, ch1g)), (ch2, .inr (2, ch2g)), (ch3, .inr (2, ch3g))] s.heap.size = A at hD hth ⊢
  have hA : ∀ q : Nat, s.heap.size ≤ q → A q := fun q h => by rw [← hAe]; exact Or.inr h
  have hS : va_S A s.heap s.heap [] := va_S.rf
  have hl := lv_entry ([.ref x, .int 2, .int p1]) (n := 4) (Nat.le_of_ble_eq_true rfl)
  rw [lg_entry_eq]
  generalize (lg_sl ([.ref x, .int 2, .int p1]) ++ List.replicate (4 - (lg_sl ([.ref x, .int 2, .int p1])).length) Slot.unset).toArray = ls at hl ⊢
  have hl : lv_has ls 4 [(0, .ref x), (1, .int 2), (2, .int p1)] := hl
  obtain ⟨H, eH⟩ : ∃ z, z = s.heap := ⟨_, rfl⟩
  have hP : va_P (dC, dI) CL [(x, .inr (12, xg)), (chA, .inl (chAC, (4, .inr (.inr (.inr (.inr chAF)))))), (ch0, .inr (2, ch0g)), (ch1, .inr (2, ch1g)), (ch2, .inr (2, ch2g)), (ch3, .inr (2, ch3g))] H := by rw [eH]; exact hP
  have hS : va_S A s.heap H [] := by rw [eH]; exact hS
  rw [← eH]
  have hT : c.exceptionTable.toList = tableOf [(0, 6, 9, 19), (0, 6, 12, 32)] := vx_table (x := yL_drop) B (atoms_spec (ws := Cond.codeWith yL_drop cL_drop 4 (some .int) [(0, 6, 9, 19), (0, 6, 12, 32)] :: BG) B.pre _ List.mem_cons_self)
  refine lv_aload_n hx hb dL_drop_0 rfl (lv_at hl 0 rfl) ?_
  refine lv_iload_n hx hb dL_drop_1 rfl (lv_at hl 1 rfl) ?_
  refine lv_iload_n hx hb dL_drop_2 rfl (lv_at hl 2 rfl) ?_
  have hFc := va_free (wc := [(x, .inr (12, xg)), (chA, .inl (chAC, (4, .inr (.inr (.inr (.inr chAF)))))), (ch0, .inr (2, ch0g)), (ch1, .inr (2, ch1g)), (ch2, .inr (2, ch2g)), (ch3, .inr (2, ch3g))]) hD hS hA [0, 1, 2, 3, 4, 5] rfl
  refine vq_thr (vx_runV (As := [.int 2, .int p1]) (rest := []) ⟨hx, hb, hml, hown, hts⟩ (gx57_X12_drop l hlt dC dI _ p1 x chA ch0 ch1 ch2 ch3 deA liA xg h_x chAC chAF ch0g h_ch0 ch1g h_ch1 ch2g h_ch2 ch3g h_ch3 h_chA0 h_chA1 h_chA2 h_chA3) (cwV 2 hts (gi_V wd_1805 wd_1806 wd_1807 wd_327 wd_1808) rfl rfl rfl (by decide +kernel) ⟨(Nat.le_of_ble_eq_true rfl), (Nat.le_of_ble_eq_true rfl)⟩) ⟨fun a U g mk q => by obtain ⟨q0, q1, qP, qK, qD, qT⟩ := q; exact ⟨q0, q1, qP, va_K.moved (u := U) (U := U.calling g mk a) (Vm.Alike.refl U.vm) qK, qD, th.moved (u := U) (U := U.calling g mk a) (Vm.Alike.refl U.vm) qT⟩, va_recv hK hP (ci := 12) (q0 := 0) rfl rfl, fun U hU hW => ⟨rfl, by rw [hU], by rw [hU]; exact hP, va_K.moved hW.alike hK, hD.weaken (fun _ _ _ _ => trivial), by rw [hU]; exact ((hth.kept hS.2.1).narrow hFc).moved hW.alike⟩⟩ rfl rfl hl.1 rfl (lv_room (Nat.le_of_ble_eq_true rfl)) dL_drop_3 ⟨(Nat.le_of_ble_eq_true rfl), (Nat.le_of_ble_eq_true rfl)⟩) (fun _ _ _ h => h) hS hFc (fun q _ h => hFc q h) (fun E ce q9 u t H1 locs ht hvm hp hB hz hk hS hce hcv hcl => ?_)
  obtain ⟨hE, hB⟩ := hB
  subst hE
  obtain ⟨hP1, hK1, hD1⟩ := hB
  rw [ht] at hP1
  have hD := hD1.weaken (fun k q _ h => hFc q.1 h)
  have hP := hP1
  have hK := hK.sub (tys' := []) [] rfl
  generalize H1 = H at hP hS hce ⊢
  have hP : va_P (dC, dI) CL [] H := hP
  have hD : va_D A [] := hD
  refine vx_catch (own := RL) (name := "java/lang/IndexOutOfBoundsException") hown [{ startPc := 0, endPc := 6, handlerPc := 9, catchType := 19 }] { startPc := 0, endPc := 6, handlerPc := 12, catchType := 32 } [] (by rw [hT]; rfl) (List.forall_mem_cons.mpr ⟨Or.inr ⟨by decide, "java/lang/IllegalArgumentException", hts (.classLink RL 19 "java/lang/IllegalArgumentException") wd_1323, hth.2.2.2.1 _ (by decide) _ (by decide) (by decide)⟩, fun _ h => nomatch h⟩) (by decide) (by decide) (hts (.classLink RL 32 "java/lang/IndexOutOfBoundsException") wd_1804) (hth.cast (by decide)) hce hcv hcl ?_
  refine W.widen (k := 2) (n := 12) (Nat.le_of_ble_eq_true rfl) (Nat.le_of_ble_eq_true rfl) ?_
  refine lv_astore_n (lv' := [(3, .ref q9), (0, .ref x), (1, .int 2), (2, .int p1)]) hx hb dL_drop_12 rfl hl (by decide) rfl (fun ls hl => ?_)
  refine lv_iconst (v := 2) hx hb dL_drop_13 (by decide +kernel) ?_
  refine W.widen (k := 2) (n := 12) (Nat.le_of_ble_eq_true rfl) (Nat.le_of_ble_eq_true rfl) ?_
  exact W.iret (v := 2) hx hb hr (fun t ht hW => ⟨⟨2, (), rfl, rfl, by rw [ht]; exact hP, va_K.moved hW.alike hK, hD⟩, hS.F ht⟩) hS.2.2 dL_drop_14
set_option maxHeartbeats 4000000 in
set_option maxRecDepth 100000 in
theorem gx59_X13_within (l : Launch) (hlt : l.stackTraces = false) (dC : Nat → ClassId) (dI : Nat → Nat → Nat) (sz : Nat) (m0 mch md ml : Nat) (m0g : List Value) (h_m0 : fx m0g 225 [(0, .int 0), (2, .int 0), (3, .int 0), (9, .int 0), (10, .int 0), (11, .int 0), (12, .int 0), (27, .int 0), (55, .ref md), (79, .int 0), (83, .int 0), (88, .ref ml), (95, .int 0), (138, .ref mch)]) (mchC : ClassId) : Met l yX13_within (Cond.code yX13_within cX13_within 3 (some .boolean) :: BG) ({ frames := 1, cells := 0, slots := 0, locals := 12 }) (va_Pc [.int 2, .int 0, .int 2] (fun U => U.heap.size = sz ∧ va_P (dC, dI) CL [(m0, .inr (13, m0g)), (mch, .inl (mchC, (4, .inl (fun _ => 0))))] U.heap ∧ va_K (dC, dI) CL [(mchC, .boolean)] U ∧ va_D (fun _ => True) [(m0, .inr (13, m0g)), (mch, .inl (mchC, (4, .inl (fun _ => 0))))] ∧ th (va_A [(m0, .inr (13, m0g)), (mch, .inl (mchC, (4, .inl (fun _ => 0))))] sz) U U.heap)) (va_Qi (fun (r : Int32) (_ : Unit) => r = 1) (fun _ t => ∃ (m0y : List Value), fx m0y 225 [(0, .int 0), (2, .int 0), (3, .int 0), (9, .int 0), (10, .int 0), (11, .int 0), (12, .int 0), (27, .int 0), (55, .ref md), (79, .int 0), (83, .int 0), (88, .ref ml), (95, .int 0), (138, .ref mch)] ∧ va_P (dC, dI) CL [(m0, .inr (13, m0y)), (mch, .inl (mchC, (4, .inl (fun _ => 0))))] t.heap ∧ va_K (dC, dI) CL [(mchC, .boolean)] t ∧ va_D (va_A [(m0, .inr (13, m0g)), (mch, .inl (mchC, (4, .inl (fun _ => 0))))] sz) [(m0, .inr (13, m0y)), (mch, .inl (mchC, (4, .inl (fun _ => 0))))]) (va_A [(m0, .inr (13, m0g)), (mch, .inl (mchC, (4, .inl (fun _ => 0))))] sz)) 0 0 (va_A [(m0, .inr (13, m0g)), (mch, .inl (mchC, (4, .inl (fun _ => 0))))] sz) := by
  refine Met.ofW (cc := cX13_within) (maxL := 3) (ret := (some .boolean)) (by decide) rfl ?_
  intro p e s m args below meth c s₁ B hml hv
  obtain ⟨rfl, hsz, hP, hK, hD0, hth⟩ := hv
  have hx := B.exec
  have hb := B.bytes
  have hr := B.returns
  have hts : ∀ w ∈ BG, w.before _ s = true := fun w h => atoms_spec (ws := Cond.code yX13_within cX13_within 3 (some .boolean) :: BG) B.pre w (List.mem_cons_of_mem _ h)
  have hown : s.vm.findClass RX13 = some m.cls := findClass_of_methodNamed B.named
  have hlocks := B.notSynchronized
  subst hsz
  have hD := hD0.self (sz := s.heap.size)
  generalize hAe : va_A [(m0, .inr (13, m0g)), (mch, .inl (mchC, (4, .inl (fun _ => 0))))] s.heap.size = A at hD hth ⊢
  have hA : ∀ q : Nat, s.heap.size ≤ q → A q := fun q h => by rw [← hAe]; exact Or.inr h
  have hS : va_S A s.heap s.heap [] := va_S.rf
  have hl := lv_entry ([.int 2, .int 0, .int 2]) (n := 3) (Nat.le_of_ble_eq_true rfl)
  rw [lg_entry_eq]
  generalize (lg_sl ([.int 2, .int 0, .int 2]) ++ List.replicate (3 - (lg_sl ([.int 2, .int 0, .int 2])).length) Slot.unset).toArray = ls at hl ⊢
  have hl : lv_has ls 3 [(0, .int 2), (1, .int 0), (2, .int 2)] := hl
  obtain ⟨H, eH⟩ : ∃ z, z = s.heap := ⟨_, rfl⟩
  have hP : va_P (dC, dI) CL [(m0, .inr (13, m0g)), (mch, .inl (mchC, (4, .inl (fun _ => 0))))] H := by rw [eH]; exact hP
  have hS : va_S A s.heap H [] := by rw [eH]; exact hS
  rw [← eH]
  refine lv_iload_n hx hb dX13_within_0 rfl (lv_at hl 0 rfl) ?_
  refine lv_iload_n hx hb dX13_within_1 rfl (lv_at hl 1 rfl) ?_
  refine lv_icmp_lt (tgt := 14) hx hb dX13_within_2 (by decide) (fun c9 => ?_) (fun c9 => ?_)
  · first | exact absurd c9 (by decide +kernel) | exact absurd (by decide +kernel) c9
  refine lv_iload_n hx hb dX13_within_5 rfl (lv_at hl 0 rfl) ?_
  refine lv_iload_n hx hb dX13_within_6 rfl (lv_at hl 2 rfl) ?_
  refine lv_icmp_gt (tgt := 14) hx hb dX13_within_7 (by decide) (fun c9 => ?_) (fun c9 => ?_)
  · first | exact absurd c9 (by decide +kernel) | exact absurd (by decide +kernel) c9
  refine lv_iconst (v := 1) hx hb dX13_within_10 (by decide +kernel) ?_
  refine lv_goto (tgt := 15) hx hb dX13_within_11 (by decide) ?_
  exact W.zret (v := 1) hx hb hr rfl (fun t ht hW => ⟨⟨1, (), rfl, rfl, m0g, h_m0, by rw [ht]; exact hP, va_K.moved hW.alike hK, hD⟩, hS.F ht⟩) hS.2.2 dX13_within_15
set_option maxHeartbeats 4000000 in
set_option maxRecDepth 100000 in
theorem gx60_X13_isOne (l : Launch) (hlt : l.stackTraces = false) (dC : Nat → ClassId) (dI : Nat → Nat → Nat) (sz : Nat) (p1 : Int32) (m0 mch md ml : Nat) (m0g : List Value) (h_m0 : fx m0g 225 [(0, .int 0), (2, .int 0), (3, .int 0), (9, .int 0), (10, .int 0), (11, .int 0), (12, .int 0), (27, .int 0), (55, .ref md), (79, .int 0), (83, .int 0), (88, .ref ml), (95, .int 0), (138, .ref mch)]) (mchC : ClassId) : Met l yX13_isOne (Cond.code yX13_isOne cX13_isOne 3 (some .boolean) :: BG) ({ frames := 2, cells := 0, slots := 0, locals := 33 }) (va_Pc [.ref m0, .int 2, .int p1] (fun U => U.heap.size = sz ∧ va_P (dC, dI) CL [(m0, .inr (13, m0g)), (mch, .inl (mchC, (4, .inl (fun _ => 0))))] U.heap ∧ va_K (dC, dI) CL [(mchC, .boolean)] U ∧ va_D (fun _ => True) [(m0, .inr (13, m0g)), (mch, .inl (mchC, (4, .inl (fun _ => 0))))] ∧ th (va_A [(m0, .inr (13, m0g)), (mch, .inl (mchC, (4, .inl (fun _ => 0))))] sz) U U.heap)) (va_Qi (fun (r : Int32) (_ : Unit) => r = 0) (fun _ t => ∃ (m0y : List Value), fx m0y 225 [(0, .int 0), (2, .int 0), (3, .int 0), (9, .int 0), (10, .int 0), (11, .int 0), (12, .int 0), (27, .int 0), (55, .ref md), (79, .int 0), (83, .int 0), (88, .ref ml), (95, .int 0), (138, .ref mch)] ∧ va_P (dC, dI) CL [(m0, .inr (13, m0y)), (mch, .inl (mchC, (4, .inl (fun _ => 0))))] t.heap ∧ va_K (dC, dI) CL [(mchC, .boolean)] t ∧ va_D (va_A [(m0, .inr (13, m0g)), (mch, .inl (mchC, (4, .inl (fun _ => 0))))] sz) [(m0, .inr (13, m0y)), (mch, .inl (mchC, (4, .inl (fun _ => 0))))]) (va_A [(m0, .inr (13, m0g)), (mch, .inl (mchC, (4, .inl (fun _ => 0))))] sz)) 0 0 (va_A [(m0, .inr (13, m0g)), (mch, .inl (mchC, (4, .inl (fun _ => 0))))] sz) := by
  refine Met.ofW (cc := cX13_isOne) (maxL := 3) (ret := (some .boolean)) (by decide) rfl ?_
  intro p e s m args below meth c s₁ B hml hv
  obtain ⟨rfl, hsz, hP, hK, hD0, hth⟩ := hv
  have hx := B.exec
  have hb := B.bytes
  have hr := B.returns
  have hts : ∀ w ∈ BG, w.before _ s = true := fun w h => atoms_spec (ws := Cond.code yX13_isOne cX13_isOne 3 (some .boolean) :: BG) B.pre w (List.mem_cons_of_mem _ h)
  have hown : s.vm.findClass RX13 = some m.cls := findClass_of_methodNamed B.named
  have hlocks := B.notSynchronized
  subst hsz
  have hD := hD0.self (sz := s.heap.size)
  generalize hAe : va_A [(m0, .inr (13, m0g)), (mch, .inl (mchC, (4, .inl (fun _ => 0))))] s.heap.size = A at hD hth ⊢
  have hA : ∀ q : Nat, s.heap.size ≤ q → A q := fun q h => by rw [← hAe]; exact Or.inr h
  have hS : va_S A s.heap s.heap [] := va_S.rf
  have hl := lv_entry ([.ref m0, .int 2, .int p1]) (n := 3) (Nat.le_of_ble_eq_true rfl)
  rw [lg_entry_eq]
  generalize (lg_sl ([.ref m0, .int 2, .int p1]) ++ List.replicate (3 - (lg_sl ([.ref m0, .int 2, .int p1])).length) Slot.unset).toArray = ls at hl ⊢
  have hl : lv_has ls 3 [(0, .ref m0), (1, .int 2), (2, .int p1)] := hl
  obtain ⟨H, eH⟩ : ∃ z, z = s.heap := ⟨_, rfl⟩
  have hP : va_P (dC, dI) CL [(m0, .inr (13, m0g)), (mch, .inl (mchC, (4, .inl (fun _ => 0))))] H := by rw [eH]; exact hP
  have hS : va_S A s.heap H [] := by rw [eH]; exact hS
  rw [← eH]
  refine lv_iload_n hx hb dX13_isOne_0 rfl (lv_at hl 1 rfl) ?_
  refine lv_if_ne (tgt := 12) hx hb dX13_isOne_1 (by decide) (fun c9 => ?_) (fun c9 => ?_)
  rotate_left
  · first | exact absurd c9 (by decide +kernel) | exact absurd (by decide +kernel) c9
  refine lv_iload_n hx hb dX13_isOne_12 rfl (lv_at hl 1 rfl) ?_
  refine lv_iconst (v := 1) hx hb dX13_isOne_13 (by decide +kernel) ?_
  refine lv_icmp_ne (tgt := 25) hx hb dX13_isOne_14 (by decide) (fun c9 => ?_) (fun c9 => ?_)
  rotate_left
  · first | exact absurd c9 (by decide +kernel) | exact absurd (by decide +kernel) c9
  refine lv_aload_n hx hb dX13_isOne_25 rfl (lv_at hl 0 rfl) ?_
  refine lv_iload_n hx hb dX13_isOne_26 rfl (lv_at hl 2 rfl) ?_
  have hFc := va_free (wc := [(m0, .inr (13, m0g)), (mch, .inl (mchC, (4, .inl (fun _ => 0))))]) hD hS hA [0, 1] rfl
  refine va_calli (va_runV (As := [.int p1]) (rest := []) ⟨hx, hb, hml, hown, hts⟩ (ct_X13_isChip l dC dI _ p1 m0 m0g mch mchC (h_m0.sub [13] rfl)) (cwV 1 hts (gi_V wd_4084 wd_4086 wd_217 wd_340 wd_4087) rfl rfl rfl (by decide +kernel) ⟨(Nat.le_of_ble_eq_true rfl), (Nat.le_of_ble_eq_true rfl)⟩) ⟨fun a U g mk q => by obtain ⟨q0, q1, qP, qK, qD⟩ := q; exact ⟨q0, q1, qP, va_K.moved (u := U) (U := U.calling g mk a) (Vm.Alike.refl U.vm) qK, qD⟩, va_recv hK hP (ci := 13) (q0 := 0) rfl rfl, fun U hU hW => ⟨rfl, by rw [hU], by rw [hU]; exact hP, va_K.moved hW.alike hK, hD.weaken (fun _ _ _ _ => trivial)⟩⟩ rfl rfl hl.1 rfl (lv_room (Nat.le_of_ble_eq_true rfl)) dX13_isOne_27 ⟨(Nat.le_of_ble_eq_true rfl), (Nat.le_of_ble_eq_true rfl)⟩) hS (fun q _ h => hFc q h) hFc (fun r u t H1 locs ht hvm hw hB hz1 hk1 hS => ?_)
  subst hw
  obtain ⟨hP1, hK1, hD1⟩ := hB
  rw [ht] at hP1
  have hD := hD1.weaken (fun k q _ h => hFc q.1 h)
  have hP := hP1
  generalize H1 = H at hP hS ⊢
  have hP : va_P (dC, dI) CL [(m0, .inr (13, m0g)), (mch, .inl (mchC, (4, .inl (fun _ => 0))))] H := hP
  have hD : va_D A [(m0, .inr (13, m0g)), (mch, .inl (mchC, (4, .inl (fun _ => 0))))] := hD
  exact W.zret (v := 0) hx hb hr rfl (fun t ht hW => ⟨⟨0, (), rfl, rfl, m0g, h_m0, by rw [ht]; exact hP, va_K.moved hW.alike hK, hD⟩, hS.F ht⟩) hS.2.2 dX13_isOne_30
set_option maxHeartbeats 4000000 in
set_option maxRecDepth 100000 in
theorem gx58_X13_drop (l : Launch) (hlt : l.stackTraces = false) (dC : Nat → ClassId) (dI : Nat → Nat → Nat) (sz : Nat) (p1 : Int32) (m0 mch md ml : Nat) (m0g : List Value) (h_m0 : fx m0g 225 [(0, .int 0), (2, .int 0), (3, .int 0), (9, .int 0), (10, .int 0), (11, .int 0), (12, .int 0), (27, .int 0), (55, .ref md), (79, .int 0), (83, .int 0), (88, .ref ml), (95, .int 0), (138, .ref mch)]) (mchC : ClassId) : Met l yX13_drop (Cond.code yX13_drop cX13_drop 3 none :: BG) ({ frames := 3, cells := 0, slots := 0, locals := 55 }) (va_Pc [.ref m0, .int 2, .int p1] (fun U => U.heap.size = sz ∧ va_P (dC, dI) CL [(m0, .inr (13, m0g)), (mch, .inl (mchC, (4, .inl (fun _ => 0))))] U.heap ∧ va_K (dC, dI) CL [(mchC, .boolean)] U ∧ va_D (fun _ => True) [(m0, .inr (13, m0g)), (mch, .inl (mchC, (4, .inl (fun _ => 0))))] ∧ th (va_A [(m0, .inr (13, m0g)), (mch, .inl (mchC, (4, .inl (fun _ => 0))))] sz) U U.heap)) (va_Qv (fun _ : Unit => True) (fun _ t => ∃ (m0y : List Value), fx m0y 225 [(0, .int 2), (2, .int 0), (3, .int 0), (9, .int 0), (10, .int 0), (11, .int 0), (12, .int 0), (27, .int 0), (55, .ref md), (79, .int 0), (83, .int 0), (88, .ref ml), (95, .int 0), (138, .ref mch)] ∧ va_P (dC, dI) CL [(m0, .inr (13, m0y)), (mch, .inl (mchC, (4, .inl (fun _ => 0))))] t.heap ∧ va_K (dC, dI) CL [(mchC, .boolean)] t ∧ va_D (va_A [(m0, .inr (13, m0g)), (mch, .inl (mchC, (4, .inl (fun _ => 0))))] sz) [(m0, .inr (13, m0y)), (mch, .inl (mchC, (4, .inl (fun _ => 0))))]) (va_A [(m0, .inr (13, m0g)), (mch, .inl (mchC, (4, .inl (fun _ => 0))))] sz)) 0 0 (va_A [(m0, .inr (13, m0g)), (mch, .inl (mchC, (4, .inl (fun _ => 0))))] sz) := by
  refine Met.ofW (cc := cX13_drop) (maxL := 3) (ret := none) (by decide) rfl ?_
  intro p e s m args below meth c s₁ B hml hv
  obtain ⟨rfl, hsz, hP, hK, hD0, hth⟩ := hv
  have hx := B.exec
  have hb := B.bytes
  have hr := B.returns
  have hts : ∀ w ∈ BG, w.before _ s = true := fun w h => atoms_spec (ws := Cond.code yX13_drop cX13_drop 3 none :: BG) B.pre w (List.mem_cons_of_mem _ h)
  have hown : s.vm.findClass RX13 = some m.cls := findClass_of_methodNamed B.named
  have hlocks := B.notSynchronized
  subst hsz
  have hD := hD0.self (sz := s.heap.size)
  generalize hAe : va_A [(m0, .inr (13, m0g)), (mch, .inl (mchC, (4, .inl (fun _ => 0))))] s.heap.size = A at hD hth ⊢
  have hA : ∀ q : Nat, s.heap.size ≤ q → A q := fun q h => by rw [← hAe]; exact Or.inr h
  have hS : va_S A s.heap s.heap [] := va_S.rf
  have hl := lv_entry ([.ref m0, .int 2, .int p1]) (n := 3) (Nat.le_of_ble_eq_true rfl)
  rw [lg_entry_eq]
  generalize (lg_sl ([.ref m0, .int 2, .int p1]) ++ List.replicate (3 - (lg_sl ([.ref m0, .int 2, .int p1])).length) Slot.unset).toArray = ls at hl ⊢
  have hl : lv_has ls 3 [(0, .ref m0), (1, .int 2), (2, .int p1)] := hl
  obtain ⟨H, eH⟩ : ∃ z, z = s.heap := ⟨_, rfl⟩
  have hP : va_P (dC, dI) CL [(m0, .inr (13, m0g)), (mch, .inl (mchC, (4, .inl (fun _ => 0))))] H := by rw [eH]; exact hP
  have hS : va_S A s.heap H [] := by rw [eH]; exact hS
  rw [← eH]
  refine lv_aload_n hx hb dX13_drop_0 rfl (lv_at hl 0 rfl) ?_
  refine lv_iload_n hx hb dX13_drop_1 rfl (lv_at hl 1 rfl) ?_
  refine lv_iconst (v := 0) hx hb dX13_drop_2 (by decide +kernel) ?_
  refine lv_iconst (v := 2) hx hb dX13_drop_3 (by decide +kernel) ?_
  have hFc := va_free (wc := [(m0, .inr (13, m0g)), (mch, .inl (mchC, (4, .inl (fun _ => 0))))]) hD hS hA [0, 1] rfl
  refine va_calli (va_runS (As := [.int 2, .int 0, .int 2]) (rest := [.ref m0]) ⟨hx, hb, hml, hown, hts⟩ (gx59_X13_within l hlt dC dI _ m0 mch md ml m0g h_m0 mchC) (cwS 3 hts (gi_S wd_3825 wd_3826 wd_340 wd_3827) rfl rfl rfl (by decide +kernel) ⟨(Nat.le_of_ble_eq_true rfl), (Nat.le_of_ble_eq_true rfl)⟩) ⟨fun a U g mk q => by obtain ⟨q0, q1, qP, qK, qD, qT⟩ := q; exact ⟨q0, q1, qP, va_K.moved (u := U) (U := U.calling g mk a) (Vm.Alike.refl U.vm) qK, qD, th.moved (u := U) (U := U.calling g mk a) (Vm.Alike.refl U.vm) qT⟩, fun U hU hW => ⟨rfl, by rw [hU], by rw [hU]; exact hP, va_K.moved hW.alike hK, hD.weaken (fun _ _ _ _ => trivial), by rw [hU]; exact ((hth.kept hS.2.1).narrow hFc).moved hW.alike⟩⟩ rfl rfl hl.1 rfl (lv_room (Nat.le_of_ble_eq_true rfl)) dX13_drop_4 ⟨(Nat.le_of_ble_eq_true rfl), (Nat.le_of_ble_eq_true rfl)⟩) hS (fun q _ h => hFc q h) hFc (fun r u t H1 locs ht hvm hw hB hz1 hk1 hS => ?_)
  subst hw
  obtain ⟨fs_1, h_m0, hP1, hK1, hD1⟩ := hB
  rw [ht] at hP1
  have hD := hD1.weaken (fun k q _ h => hFc q.1 h)
  have hP := hP1
  generalize H1 = H at hP hS ⊢
  have hP : va_P (dC, dI) CL [(m0, .inr (13, fs_1)), (mch, .inl (mchC, (4, .inl (fun _ => 0))))] H := hP
  have hD : va_D A [(m0, .inr (13, fs_1)), (mch, .inl (mchC, (4, .inl (fun _ => 0))))] := hD
  refine lv_if_ne (tgt := 14) hx hb dX13_drop_7 (by decide) (fun c9 => ?_) (fun c9 => ?_)
  rotate_left
  · first | exact absurd c9 (by decide +kernel) | exact absurd (by decide +kernel) c9
  refine lv_aload_n hx hb dX13_drop_14 rfl (lv_at hl 0 rfl) ?_
  refine lv_iload_n hx hb dX13_drop_15 rfl (lv_at hl 1 rfl) ?_
  refine lv_iload_n hx hb dX13_drop_16 rfl (lv_at hl 2 rfl) ?_
  have hFc := va_free (wc := [(m0, .inr (13, fs_1)), (mch, .inl (mchC, (4, .inl (fun _ => 0))))]) hD hS hA [0, 1] rfl
  refine va_calli (va_runV (As := [.int 2, .int p1]) (rest := [.ref m0]) ⟨hx, hb, hml, hown, hts⟩ (gx60_X13_isOne l hlt dC dI _ p1 m0 mch md ml fs_1 h_m0 mchC) (cwV 2 hts (gi_V wd_4072 wd_4074 wd_214 wd_340 wd_4075) rfl rfl rfl (by decide +kernel) ⟨(Nat.le_of_ble_eq_true rfl), (Nat.le_of_ble_eq_true rfl)⟩) ⟨fun a U g mk q => by obtain ⟨q0, q1, qP, qK, qD, qT⟩ := q; exact ⟨q0, q1, qP, va_K.moved (u := U) (U := U.calling g mk a) (Vm.Alike.refl U.vm) qK, qD, th.moved (u := U) (U := U.calling g mk a) (Vm.Alike.refl U.vm) qT⟩, va_recv hK hP (ci := 13) (q0 := 0) rfl rfl, fun U hU hW => ⟨rfl, by rw [hU], by rw [hU]; exact hP, va_K.moved hW.alike hK, hD.weaken (fun _ _ _ _ => trivial), by rw [hU]; exact ((hth.kept hS.2.1).narrow hFc).moved hW.alike⟩⟩ rfl rfl hl.1 rfl (lv_room (Nat.le_of_ble_eq_true rfl)) dX13_drop_17 ⟨(Nat.le_of_ble_eq_true rfl), (Nat.le_of_ble_eq_true rfl)⟩) hS (fun q _ h => hFc q h) hFc (fun r u t H1 locs ht hvm hw hB hz1 hk1 hS => ?_)
  subst hw
  obtain ⟨fs_2, h_m0, hP1, hK1, hD1⟩ := hB
  rw [ht] at hP1
  have hD := hD1.weaken (fun k q _ h => hFc q.1 h)
  have hP := hP1
  generalize H1 = H at hP hS ⊢
  have hP : va_P (dC, dI) CL [(m0, .inr (13, fs_2)), (mch, .inl (mchC, (4, .inl (fun _ => 0))))] H := hP
  have hD : va_D A [(m0, .inr (13, fs_2)), (mch, .inl (mchC, (4, .inl (fun _ => 0))))] := hD
  refine lv_if_ne (tgt := 27) hx hb dX13_drop_20 (by decide) (fun c9 => ?_) (fun c9 => ?_)
  · first | exact absurd c9 (by decide +kernel) | exact absurd (by decide +kernel) c9
  refine lv_iconst (v := 2) hx hb dX13_drop_23 (by decide +kernel) ?_
  refine lv_goto (tgt := 28) hx hb dX13_drop_24 (by decide) ?_
  refine va_put (D := (dC, dI)) (ci := 13) (v := .int 2) (ty := tyX13 0) (C := RX13) (T := TX13) (N := 225) hx hb hts inX13 tyX13 tyX13_ok nmX13 hown hK hP hD hS 0 rfl rfl 0 (by decide) (hts (.fieldLink RX13 1 "ChipFlowModel" "code" "I") wd_3032) (fun _ h9 => h9) rfl (by decide +kernel) rfl rfl (by rw [h_m0.1]; decide) dX13_drop_28 (fun H locs hP hD hS => ?_)
  obtain ⟨fs_3, e9⟩ : ∃ z, z = fs_2.set 0 (.int 2) := ⟨_, rfl⟩
  have h_m0 : fx fs_3 225 [(0, .int 2), (2, .int 0), (3, .int 0), (9, .int 0), (10, .int 0), (11, .int 0), (12, .int 0), (27, .int 0), (55, .ref md), (79, .int 0), (83, .int 0), (88, .ref ml), (95, .int 0), (138, .ref mch)] := by rw [e9]; exact (h_m0.put (F' := [(0, .int 2), (2, .int 0), (3, .int 0), (9, .int 0), (10, .int 0), (11, .int 0), (12, .int 0), (27, .int 0), (55, .ref md), (79, .int 0), (83, .int 0), (88, .ref ml), (95, .int 0), (138, .ref mch)]) (by decide) _ rfl).sub [0, 1, 2, 3, 4, 5, 6, 7, 8, 9, 10, 11, 12, 13] rfl
  have hP : va_P (dC, dI) CL [(m0, .inr (13, fs_3)), (mch, .inl (mchC, (4, .inl (fun _ => 0))))] H := by rw [e9]; exact hP
  have hD : va_D A [(m0, .inr (13, fs_3)), (mch, .inl (mchC, (4, .inl (fun _ => 0))))] := by rw [e9]; exact hD
  clear e9
  refine lv_aload_n hx hb dX13_drop_31 rfl (lv_at hl 0 rfl) ?_
  refine va_get (D := (dC, dI)) (ci := 13) (v := .int 2) (C := RX13) (T := TX13) (N := 225) hx hb hts inX13 hown hK hP 0 rfl rfl 0 (by decide) (hts (.fieldLink RX13 1 "ChipFlowModel" "code" "I") wd_3032) (fun _ h9 => h9) (h_m0.get 0 rfl) dX13_drop_32 ?_
  refine lv_if_le (tgt := 39) hx hb dX13_drop_35 (by decide) (fun c9 => ?_) (fun c9 => ?_)
  · first | exact absurd c9 (by decide +kernel) | exact absurd (by decide +kernel) c9
  exact W.vret hx hb hr (fun t ht hW => ⟨⟨(), rfl, trivial, fs_3, h_m0, by rw [ht]; exact hP, va_K.moved hW.alike hK, hD⟩, hS.F ht⟩) hS.2.2 dX13_drop_38
set_option maxHeartbeats 4000000 in
set_option maxRecDepth 100000 in
theorem gx62_X12_isThere (l : Launch) (hlt : l.stackTraces = false) (dC : Nat → ClassId) (dI : Nat → Nat → Nat) (sz : Nat) (p0 : Int32) (p1 : Int32) (x oA deA liA chA : Nat) (xg : List Value) (h_x : fx xg 17 [(7, .ref deA), (8, .ref liA), (9, .ref chA)]) (oAC : ClassId) (oAf : Nat → Int64) (h_oA : fa oAf []) (zn : p0 < 0) : vx_Met l yX12_isThere (Cond.code yX12_isThere cX12_isThere 3 (some .boolean) :: BG) ({ frames := 7, cells := 1, slots := 6, locals := 130 }) (va_Pc [.ref x, .int p0, .int p1] (fun U => U.heap.size = sz ∧ va_P (dC, dI) CL [(x, .inr (12, xg)), (oA, .inl (oAC, (1, .inr (.inl oAf))))] U.heap ∧ va_K (dC, dI) CL [(oAC, .long)] U ∧ va_D (fun _ => True) [(x, .inr (12, xg)), (oA, .inl (oAC, (1, .inr (.inl oAf))))] ∧ th (va_A [(x, .inr (12, xg)), (oA, .inl (oAC, (1, .inr (.inl oAf))))] sz) U U.heap)) (fun _ _ _ _ => False) (vx_X (fun _ : Unit => True) (fun E _ t => E = "java/lang/IllegalArgumentException" ∧ ∃ (xy : List Value) (oAy : Nat → Int64), fx xy 17 [(7, .ref deA), (8, .ref liA), (9, .ref chA)] ∧ fa oAy [] ∧ va_P (dC, dI) CL [(x, .inr (12, xy)), (oA, .inl (oAC, (1, .inr (.inl oAy))))] t.heap ∧ va_K (dC, dI) CL [(oAC, .long)] t ∧ va_D (va_A [(x, .inr (12, xg)), (oA, .inl (oAC, (1, .inr (.inl oAf))))] sz) [(x, .inr (12, xy)), (oA, .inl (oAC, (1, .inr (.inl oAy))))]) (va_A [(x, .inr (12, xg)), (oA, .inl (oAC, (1, .inr (.inl oAf))))] sz)) 1 6 (va_A [(x, .inr (12, xg)), (oA, .inl (oAC, (1, .inr (.inl oAf))))] sz) := by
  refine vx_ofW (cc := cX12_isThere) (maxL := 3) (ret := (some .boolean)) (by decide) rfl ?_
  intro p e s m args below meth c s₁ B hml ht0 hv
  obtain ⟨rfl, hsz, hP, hK, hD0, hth⟩ := hv
  have hx := B.exec
  have hb := B.bytes
  have hr := B.returns
  have hts : ∀ w ∈ BG, w.before _ s = true := fun w h => atoms_spec (ws := Cond.code yX12_isThere cX12_isThere 3 (some .boolean) :: BG) B.pre w (List.mem_cons_of_mem _ h)
  have hown : s.vm.findClass RX12 = some m.cls := findClass_of_methodNamed B.named
  have hlocks := B.notSynchronized
  subst hsz
  have hD := hD0.self (sz := s.heap.size)
  generalize hAe : va_A [(x, .inr (12, xg)), (oA, .inl (oAC, (1, .inr (.inl oAf))))] s.heap.size = A at hD hth ⊢
  have hA : ∀ q : Nat, s.heap.size ≤ q → A q := fun q h => by rw [← hAe]; exact Or.inr h
  have hS : va_S A s.heap s.heap [] := va_S.rf
  have hl := lv_entry ([.ref x, .int p0, .int p1]) (n := 3) (Nat.le_of_ble_eq_true rfl)
  rw [lg_entry_eq]
  generalize (lg_sl ([.ref x, .int p0, .int p1]) ++ List.replicate (3 - (lg_sl ([.ref x, .int p0, .int p1])).length) Slot.unset).toArray = ls at hl ⊢
  have hl : lv_has ls 3 [(0, .ref x), (1, .int p0), (2, .int p1)] := hl
  obtain ⟨H, eH⟩ : ∃ z, z = s.heap := ⟨_, rfl⟩
  have hP : va_P (dC, dI) CL [(x, .inr (12, xg)), (oA, .inl (oAC, (1, .inr (.inl oAf))))] H := by rw [eH]; exact hP
  have hS : va_S A s.heap H [] := by rw [eH]; exact hS
  rw [← eH]
  refine lv_iload_n hx hb dX12_isThere_0 rfl (lv_at hl 1 rfl) ?_
  refine lv_if_lt (tgt := 13) hx hb dX12_isThere_1 (by decide) (fun c9 => ?_) (fun c9 => ?_)
  rotate_left
  · first | exact absurd c9 zn | exact absurd zn c9
  refine lv_iconst (v := 0) hx hb dX12_isThere_13 (by decide +kernel) ?_
  have hF0 : ∀ q, va_A [] H.size q → A q := fun q h => h.elim (fun ⟨k9, e9, h9⟩ => by simp at h9) (fun h9 => hA q (Nat.le_trans hS.1 h9))
  refine vx_callv (vx_runS (As := [.int 0]) (rest := []) ⟨hx, hb, hml, hown, hts⟩ (ct_X12_needRange l hlt H.size 0) (cwS 1 hts (gi_S wd_1328 wd_1329 wd_327 wd_1330) rfl rfl rfl (by decide +kernel) ⟨(Nat.le_of_ble_eq_true rfl), (Nat.le_of_ble_eq_true rfl)⟩) ⟨fun a U g mk q => ⟨q.1, q.2.1, th.moved (u := U) (U := U.calling g mk a) (Vm.Alike.refl U.vm) q.2.2⟩, fun U hU hW => ⟨rfl, by rw [hU], by rw [hU]; exact ((hth.kept hS.2.1).narrow hF0).moved hW.alike⟩⟩ rfl rfl hl.1 rfl (lv_room (Nat.le_of_ble_eq_true rfl)) dX12_isThere_14 ⟨(Nat.le_of_ble_eq_true rfl), (Nat.le_of_ble_eq_true rfl)⟩) hS (fun q _ h => hF0 q h) hF0 (fun q _ h => hF0 q h) (fun E ce q9 u t H1 locs ht hvm hp hB hz hk hS hce hcv hcl => ?_) (fun u t H1 locs ht hvm hp hB hz hk hS => absurd rfl hp)
  subst hB
  have hP : va_P (dC, dI) CL [(x, .inr (12, xg)), (oA, .inl (oAC, (1, .inr (.inl oAf))))] H1 := hP.kept (fun k q h9 => hk _ (vx_lt hP h9) (fun h8 => h8.elim (fun ⟨k9, e9, h7⟩ => by simp at h7) (fun h7 => absurd (vx_lt hP h9) (Nat.not_lt.mpr h7))))
  generalize H1 = H at hP hS hce ⊢
  exact vx_out (fun x h9 => (ht0 x h9).elim) hlocks hce hcv hcl (fun t ht hvm9 => ⟨(), trivial, ⟨rfl, xg, oAf, h_x, h_oA, by rw [ht]; exact hP, va_K.moved hvm9 hK, hD⟩, hS.F ht⟩) hS.2.2 (Nat.le_of_ble_eq_true rfl) (Nat.le_of_ble_eq_true rfl)
set_option maxHeartbeats 4000000 in
set_option maxRecDepth 100000 in
theorem gx61_L_isThere (l : Launch) (hlt : l.stackTraces = false) (dC : Nat → ClassId) (dI : Nat → Nat → Nat) (sz : Nat) (p0 : Int32) (p1 : Int32) (x oA deA liA chA : Nat) (xg : List Value) (h_x : fx xg 17 [(7, .ref deA), (8, .ref liA), (9, .ref chA)]) (oAC : ClassId) (oAf : Nat → Int64) (h_oA : fa oAf []) (zn : p0 < 0) : Met l yL_isThere (Cond.codeWith yL_isThere cL_isThere 5 (some .int) [(0, 17, 20, 19)] :: BG) ({ frames := 8, cells := 1, slots := 6, locals := 152 }) (va_Pc [.ref x, .int p0, .int p1, .ref oA] (fun U => U.heap.size = sz ∧ va_P (dC, dI) CL [(x, .inr (12, xg)), (oA, .inl (oAC, (1, .inr (.inl oAf))))] U.heap ∧ va_K (dC, dI) CL [(oAC, .long)] U ∧ va_D (fun _ => True) [(x, .inr (12, xg)), (oA, .inl (oAC, (1, .inr (.inl oAf))))] ∧ th (va_A [(x, .inr (12, xg)), (oA, .inl (oAC, (1, .inr (.inl oAf))))] sz) U U.heap)) (va_Qi (fun (r : Int32) (_ : Unit) => r = 1) (fun _ t => ∃ (xy : List Value) (oAy : Nat → Int64), fx xy 17 [(7, .ref deA), (8, .ref liA), (9, .ref chA)] ∧ fa oAy [] ∧ va_P (dC, dI) CL [(x, .inr (12, xy)), (oA, .inl (oAC, (1, .inr (.inl oAy))))] t.heap ∧ va_K (dC, dI) CL [(oAC, .long)] t ∧ va_D (va_A [(x, .inr (12, xg)), (oA, .inl (oAC, (1, .inr (.inl oAf))))] sz) [(x, .inr (12, xy)), (oA, .inl (oAC, (1, .inr (.inl oAy))))]) (va_A [(x, .inr (12, xg)), (oA, .inl (oAC, (1, .inr (.inl oAf))))] sz)) 1 6 (va_A [(x, .inr (12, xg)), (oA, .inl (oAC, (1, .inr (.inl oAf))))] sz) := by
  refine va_MetW (hh := [(0, 17, 20, 19)]) (cc := cL_isThere) (maxL := 5) (ret := (some .int)) (by decide) rfl ?_
  intro p e s m args below meth c s₁ B hml hv
  obtain ⟨rfl, hsz, hP, hK, hD0, hth⟩ := hv
  have hx := B.exec
  have hb := B.bytes
  have hr := B.returns
  have hts : ∀ w ∈ BG, w.before _ s = true := fun w h => atoms_spec (ws := Cond.codeWith yL_isThere cL_isThere 5 (some .int) [(0, 17, 20, 19)] :: BG) B.pre w (List.mem_cons_of_mem _ h)
  have hown : s.vm.findClass RL = some m.cls := findClass_of_methodNamed B.named
  have hlocks := B.notSynchronized
  subst hsz
  have hD := hD0.self (sz := s.heap.size)
  generalize hAe : va_A [(x, .inr (12, xg)), (oA, .inl (oAC, (1, .inr (.inl oAf))))] s.heap.size = A at hD hth ⊢
  have hA : ∀ q : Nat, s.heap.size ≤ q → A q := fun q h => by rw [← hAe]; exact Or.inr h
  have hS : va_S A s.heap s.heap [] := va_S.rf
  have hl := lv_entry ([.ref x, .int p0, .int p1, .ref oA]) (n := 5) (Nat.le_of_ble_eq_true rfl)
  rw [lg_entry_eq]
  generalize (lg_sl ([.ref x, .int p0, .int p1, .ref oA]) ++ List.replicate (5 - (lg_sl ([.ref x, .int p0, .int p1, .ref oA])).length) Slot.unset).toArray = ls at hl ⊢
  have hl : lv_has ls 5 [(0, .ref x), (1, .int p0), (2, .int p1), (3, .ref oA)] := hl
  obtain ⟨H, eH⟩ : ∃ z, z = s.heap := ⟨_, rfl⟩
  have hP : va_P (dC, dI) CL [(x, .inr (12, xg)), (oA, .inl (oAC, (1, .inr (.inl oAf))))] H := by rw [eH]; exact hP
  have hS : va_S A s.heap H [] := by rw [eH]; exact hS
  rw [← eH]
  have hT : c.exceptionTable.toList = tableOf [(0, 17, 20, 19)] := vx_table (x := yL_isThere) B (atoms_spec (ws := Cond.codeWith yL_isThere cL_isThere 5 (some .int) [(0, 17, 20, 19)] :: BG) B.pre _ List.mem_cons_self)
  refine lv_aload_n hx hb dL_isThere_0 rfl (lv_at hl 3 rfl) ?_
  refine lv_iconst (v := 0) hx hb dL_isThere_1 (by decide +kernel) ?_
  refine lv_aload_n hx hb dL_isThere_2 rfl (lv_at hl 0 rfl) ?_
  refine lv_iload_n hx hb dL_isThere_3 rfl (lv_at hl 1 rfl) ?_
  refine lv_iload_n hx hb dL_isThere_4 rfl (lv_at hl 2 rfl) ?_
  have hFc := va_free (wc := [(x, .inr (12, xg)), (oA, .inl (oAC, (1, .inr (.inl oAf))))]) hD hS hA [0, 1] rfl
  refine vq_thr (vx_runV (As := [.int p0, .int p1]) (rest := [.int 0, .ref oA]) ⟨hx, hb, hml, hown, hts⟩ (gx62_X12_isThere l hlt dC dI _ p0 p1 x oA deA liA chA xg h_x oAC oAf h_oA zn) (cwV 2 hts (gi_V wd_1842 wd_1843 wd_1844 wd_327 wd_1845) rfl rfl rfl (by decide +kernel) ⟨(Nat.le_of_ble_eq_true rfl), (Nat.le_of_ble_eq_true rfl)⟩) ⟨fun a U g mk q => by obtain ⟨q0, q1, qP, qK, qD, qT⟩ := q; exact ⟨q0, q1, qP, va_K.moved (u := U) (U := U.calling g mk a) (Vm.Alike.refl U.vm) qK, qD, th.moved (u := U) (U := U.calling g mk a) (Vm.Alike.refl U.vm) qT⟩, va_recv hK hP (ci := 12) (q0 := 0) rfl rfl, fun U hU hW => ⟨rfl, by rw [hU], by rw [hU]; exact hP, va_K.moved hW.alike hK, hD.weaken (fun _ _ _ _ => trivial), by rw [hU]; exact ((hth.kept hS.2.1).narrow hFc).moved hW.alike⟩⟩ rfl rfl hl.1 rfl (lv_room (Nat.le_of_ble_eq_true rfl)) dL_isThere_5 ⟨(Nat.le_of_ble_eq_true rfl), (Nat.le_of_ble_eq_true rfl)⟩) (fun _ _ _ h => h) hS hFc (fun q _ h => hFc q h) (fun E ce q9 u t H1 locs ht hvm hp hB hz hk hS hce hcv hcl => ?_)
  obtain ⟨hE, hB⟩ := hB
  subst hE
  obtain ⟨fs_1, f_2, h_x, h_oA, hP1, hK1, hD1⟩ := hB
  rw [ht] at hP1
  have hD := hD1.weaken (fun k q _ h => hFc q.1 h)
  have hP := hP1
  generalize H1 = H at hP hS hce ⊢
  have hP : va_P (dC, dI) CL [(x, .inr (12, fs_1)), (oA, .inl (oAC, (1, .inr (.inl f_2))))] H := hP
  have hD : va_D A [(x, .inr (12, fs_1)), (oA, .inl (oAC, (1, .inr (.inl f_2))))] := hD
  refine vx_catch (own := RL) (name := "java/lang/IllegalArgumentException") hown [] { startPc := 0, endPc := 17, handlerPc := 20, catchType := 19 } [] (by rw [hT]; rfl) (fun _ h => nomatch h) (by decide) (by decide) (hts (.classLink RL 19 "java/lang/IllegalArgumentException") wd_1323) (hth.cast (by decide)) hce hcv hcl ?_
  refine W.widen (k := 1) (n := 6) (Nat.le_of_ble_eq_true rfl) (Nat.le_of_ble_eq_true rfl) ?_
  refine lv_astore (lv' := [(4, .ref q9), (0, .ref x), (1, .int p0), (2, .int p1), (3, .ref oA)]) hx hb dL_isThere_20 hl (by decide) rfl (fun ls hl => ?_)
  refine lv_iconst (v := 1) hx hb dL_isThere_22 (by decide +kernel) ?_
  refine W.widen (k := 1) (n := 6) (Nat.le_of_ble_eq_true rfl) (Nat.le_of_ble_eq_true rfl) ?_
  exact W.iret (v := 1) hx hb hr (fun t ht hW => ⟨⟨1, (), rfl, rfl, fs_1, f_2, h_x, h_oA, by rw [ht]; exact hP, va_K.moved hW.alike hK, hD⟩, hS.F ht⟩) hS.2.2 dL_isThere_23
set_option maxHeartbeats 4000000 in
set_option maxRecDepth 100000 in
theorem gx63_X13_isThere (l : Launch) (hlt : l.stackTraces = false) (dC : Nat → ClassId) (dI : Nat → Nat → Nat) (sz : Nat) (p0 : Int32) (p1 : Int32) (m0 md ml mch : Nat) (m0g : List Value) (h_m0 : fx m0g 225 [(0, .int 0), (2, .int 0), (3, .int 0), (9, .int 0), (10, .int 0), (11, .int 0), (12, .int 0), (27, .int 0), (55, .ref md), (79, .int 0), (83, .int 0), (88, .ref ml), (95, .int 0), (138, .ref mch)]) (zn : p0 < 0) : Met l yX13_isThere (Cond.code yX13_isThere cX13_isThere 3 (some .boolean) :: BG) ({ frames := 2, cells := 0, slots := 0, locals := 34 }) (va_Pc [.ref m0, .int p0, .int p1] (fun U => U.heap.size = sz ∧ va_P (dC, dI) CL [(m0, .inr (13, m0g))] U.heap ∧ va_K (dC, dI) CL [] U ∧ va_D (fun _ => True) [(m0, .inr (13, m0g))] ∧ th (va_A [(m0, .inr (13, m0g))] sz) U U.heap)) (va_Qi (fun (r : Int32) (_ : Unit) => r = 0) (fun _ t => ∃ (m0y : List Value), fx m0y 225 [(0, .int 1), (2, .int 0), (3, .int 0), (9, .int 0), (10, .int 0), (11, .int 0), (12, .int 0), (27, .int 0), (55, .ref md), (79, .int 0), (83, .int 0), (88, .ref ml), (95, .int 0), (138, .ref mch)] ∧ va_P (dC, dI) CL [(m0, .inr (13, m0y))] t.heap ∧ va_K (dC, dI) CL [] t ∧ va_D (va_A [(m0, .inr (13, m0g))] sz) [(m0, .inr (13, m0y))]) (va_A [(m0, .inr (13, m0g))] sz)) 0 0 (va_A [(m0, .inr (13, m0g))] sz) := by
  refine Met.ofW (cc := cX13_isThere) (maxL := 3) (ret := (some .boolean)) (by decide) rfl ?_
  intro p e s m args below meth c s₁ B hml hv
  obtain ⟨rfl, hsz, hP, hK, hD0, hth⟩ := hv
  have hx := B.exec
  have hb := B.bytes
  have hr := B.returns
  have hts : ∀ w ∈ BG, w.before _ s = true := fun w h => atoms_spec (ws := Cond.code yX13_isThere cX13_isThere 3 (some .boolean) :: BG) B.pre w (List.mem_cons_of_mem _ h)
  have hown : s.vm.findClass RX13 = some m.cls := findClass_of_methodNamed B.named
  have hlocks := B.notSynchronized
  subst hsz
  have hD := hD0.self (sz := s.heap.size)
  generalize hAe : va_A [(m0, .inr (13, m0g))] s.heap.size = A at hD hth ⊢
  have hA : ∀ q : Nat, s.heap.size ≤ q → A q := fun q h => by rw [← hAe]; exact Or.inr h
  have hS : va_S A s.heap s.heap [] := va_S.rf
  have hl := lv_entry ([.ref m0, .int p0, .int p1]) (n := 3) (Nat.le_of_ble_eq_true rfl)
  rw [lg_entry_eq]
  generalize (lg_sl ([.ref m0, .int p0, .int p1]) ++ List.replicate (3 - (lg_sl ([.ref m0, .int p0, .int p1])).length) Slot.unset).toArray = ls at hl ⊢
  have hl : lv_has ls 3 [(0, .ref m0), (1, .int p0), (2, .int p1)] := hl
  obtain ⟨H, eH⟩ : ∃ z, z = s.heap := ⟨_, rfl⟩
  have hP : va_P (dC, dI) CL [(m0, .inr (13, m0g))] H := by rw [eH]; exact hP
  have hS : va_S A s.heap H [] := by rw [eH]; exact hS
  rw [← eH]
  refine lv_aload_n hx hb dX13_isThere_0 rfl (lv_at hl 0 rfl) ?_
  refine lv_iload_n hx hb dX13_isThere_1 rfl (lv_at hl 1 rfl) ?_
  refine lv_iconst (v := 0) hx hb dX13_isThere_2 (by decide +kernel) ?_
  refine lv_iconst (v := 2) hx hb dX13_isThere_3 (by decide +kernel) ?_
  have hFc := va_free (wc := [(m0, .inr (13, m0g))]) hD hS hA [0] rfl
  refine va_calli (va_runS (As := [.int p0, .int 0, .int 2]) (rest := [.ref m0]) ⟨hx, hb, hml, hown, hts⟩ (gx39_X13_within l hlt dC dI _ p0 m0 md ml mch m0g h_m0 zn) (cwS 3 hts (gi_S wd_3825 wd_3826 wd_340 wd_3827) rfl rfl rfl (by decide +kernel) ⟨(Nat.le_of_ble_eq_true rfl), (Nat.le_of_ble_eq_true rfl)⟩) ⟨fun a U g mk q => by obtain ⟨q0, q1, qP, qK, qD, qT⟩ := q; exact ⟨q0, q1, qP, va_K.moved (u := U) (U := U.calling g mk a) (Vm.Alike.refl U.vm) qK, qD, th.moved (u := U) (U := U.calling g mk a) (Vm.Alike.refl U.vm) qT⟩, fun U hU hW => ⟨rfl, by rw [hU], by rw [hU]; exact hP, va_K.moved hW.alike hK, hD.weaken (fun _ _ _ _ => trivial), by rw [hU]; exact ((hth.kept hS.2.1).narrow hFc).moved hW.alike⟩⟩ rfl rfl hl.1 rfl (lv_room (Nat.le_of_ble_eq_true rfl)) dX13_isThere_4 ⟨(Nat.le_of_ble_eq_true rfl), (Nat.le_of_ble_eq_true rfl)⟩) hS (fun q _ h => hFc q h) hFc (fun r u t H1 locs ht hvm hw hB hz1 hk1 hS => ?_)
  subst hw
  obtain ⟨fs_1, h_m0, hP1, hK1, hD1⟩ := hB
  rw [ht] at hP1
  have hD := hD1.weaken (fun k q _ h => hFc q.1 h)
  have hP := hP1
  generalize H1 = H at hP hS ⊢
  have hP : va_P (dC, dI) CL [(m0, .inr (13, fs_1))] H := hP
  have hD : va_D A [(m0, .inr (13, fs_1))] := hD
  refine lv_if_eq (tgt := 14) hx hb dX13_isThere_7 (by decide) (fun c9 => ?_) (fun c9 => ?_)
  rotate_left
  · first | exact absurd c9 (by decide +kernel) | exact absurd (by decide +kernel) c9
  refine lv_iconst (v := 1) hx hb dX13_isThere_14 (by decide +kernel) ?_
  refine va_put (D := (dC, dI)) (ci := 13) (v := .int 1) (ty := tyX13 0) (C := RX13) (T := TX13) (N := 225) hx hb hts inX13 tyX13 tyX13_ok nmX13 hown hK hP hD hS 0 rfl rfl 0 (by decide) (hts (.fieldLink RX13 1 "ChipFlowModel" "code" "I") wd_3032) (fun _ h9 => h9) rfl (by decide +kernel) rfl rfl (by rw [h_m0.1]; decide) dX13_isThere_15 (fun H locs hP hD hS => ?_)
  obtain ⟨fs_2, e9⟩ : ∃ z, z = fs_1.set 0 (.int 1) := ⟨_, rfl⟩
  have h_m0 : fx fs_2 225 [(0, .int 1), (2, .int 0), (3, .int 0), (9, .int 0), (10, .int 0), (11, .int 0), (12, .int 0), (27, .int 0), (55, .ref md), (79, .int 0), (83, .int 0), (88, .ref ml), (95, .int 0), (138, .ref mch)] := by rw [e9]; exact (h_m0.put (F' := [(0, .int 1), (2, .int 0), (3, .int 0), (9, .int 0), (10, .int 0), (11, .int 0), (12, .int 0), (27, .int 0), (55, .ref md), (79, .int 0), (83, .int 0), (88, .ref ml), (95, .int 0), (138, .ref mch)]) (by decide) _ rfl).sub [0, 1, 2, 3, 4, 5, 6, 7, 8, 9, 10, 11, 12, 13] rfl
  have hP : va_P (dC, dI) CL [(m0, .inr (13, fs_2))] H := by rw [e9]; exact hP
  have hD : va_D A [(m0, .inr (13, fs_2))] := by rw [e9]; exact hD
  clear e9
  refine lv_aload_n hx hb dX13_isThere_18 rfl (lv_at hl 0 rfl) ?_
  refine va_get (D := (dC, dI)) (ci := 13) (v := .int 1) (C := RX13) (T := TX13) (N := 225) hx hb hts inX13 hown hK hP 0 rfl rfl 0 (by decide) (hts (.fieldLink RX13 1 "ChipFlowModel" "code" "I") wd_3032) (fun _ h9 => h9) (h_m0.get 0 rfl) dX13_isThere_19 ?_
  refine lv_if_ne (tgt := 38) hx hb dX13_isThere_22 (by decide) (fun c9 => ?_) (fun c9 => ?_)
  rotate_left
  · first | exact absurd c9 (by decide +kernel) | exact absurd (by decide +kernel) c9
  refine lv_iconst (v := 0) hx hb dX13_isThere_38 (by decide +kernel) ?_
  exact W.zret (v := 0) hx hb hr rfl (fun t ht hW => ⟨⟨0, (), rfl, rfl, fs_2, h_m0, by rw [ht]; exact hP, va_K.moved hW.alike hK, hD⟩, hS.F ht⟩) hS.2.2 dX13_isThere_39
set_option maxHeartbeats 4000000 in
set_option maxRecDepth 100000 in
theorem gx65_X12_isThere (l : Launch) (hlt : l.stackTraces = false) (dC : Nat → ClassId) (dI : Nat → Nat → Nat) (sz : Nat) (p0 : Int32) (p1 : Int32) (x oA deA liA chA : Nat) (xg : List Value) (h_x : fx xg 17 [(7, .ref deA), (8, .ref liA), (9, .ref chA)]) (oAC : ClassId) (oAf : Nat → Int64) (h_oA : fa oAf []) (zn : ¬ p0 < 0) (zp : 2 < p0) (zq : ¬ p0 ≤ 2) : vx_Met l yX12_isThere (Cond.code yX12_isThere cX12_isThere 3 (some .boolean) :: BG) ({ frames := 7, cells := 1, slots := 6, locals := 130 }) (va_Pc [.ref x, .int p0, .int p1] (fun U => U.heap.size = sz ∧ va_P (dC, dI) CL [(x, .inr (12, xg)), (oA, .inl (oAC, (1, .inr (.inl oAf))))] U.heap ∧ va_K (dC, dI) CL [(oAC, .long)] U ∧ va_D (fun _ => True) [(x, .inr (12, xg)), (oA, .inl (oAC, (1, .inr (.inl oAf))))] ∧ th (va_A [(x, .inr (12, xg)), (oA, .inl (oAC, (1, .inr (.inl oAf))))] sz) U U.heap)) (fun _ _ _ _ => False) (vx_X (fun _ : Unit => True) (fun E _ t => E = "java/lang/IllegalArgumentException" ∧ ∃ (xy : List Value) (oAy : Nat → Int64), fx xy 17 [(7, .ref deA), (8, .ref liA), (9, .ref chA)] ∧ fa oAy [] ∧ va_P (dC, dI) CL [(x, .inr (12, xy)), (oA, .inl (oAC, (1, .inr (.inl oAy))))] t.heap ∧ va_K (dC, dI) CL [(oAC, .long)] t ∧ va_D (va_A [(x, .inr (12, xg)), (oA, .inl (oAC, (1, .inr (.inl oAf))))] sz) [(x, .inr (12, xy)), (oA, .inl (oAC, (1, .inr (.inl oAy))))]) (va_A [(x, .inr (12, xg)), (oA, .inl (oAC, (1, .inr (.inl oAf))))] sz)) 1 6 (va_A [(x, .inr (12, xg)), (oA, .inl (oAC, (1, .inr (.inl oAf))))] sz) := by
  refine vx_ofW (cc := cX12_isThere) (maxL := 3) (ret := (some .boolean)) (by decide) rfl ?_
  intro p e s m args below meth c s₁ B hml ht0 hv
  obtain ⟨rfl, hsz, hP, hK, hD0, hth⟩ := hv
  have hx := B.exec
  have hb := B.bytes
  have hr := B.returns
  have hts : ∀ w ∈ BG, w.before _ s = true := fun w h => atoms_spec (ws := Cond.code yX12_isThere cX12_isThere 3 (some .boolean) :: BG) B.pre w (List.mem_cons_of_mem _ h)
  have hown : s.vm.findClass RX12 = some m.cls := findClass_of_methodNamed B.named
  have hlocks := B.notSynchronized
  subst hsz
  have hD := hD0.self (sz := s.heap.size)
  generalize hAe : va_A [(x, .inr (12, xg)), (oA, .inl (oAC, (1, .inr (.inl oAf))))] s.heap.size = A at hD hth ⊢
  have hA : ∀ q : Nat, s.heap.size ≤ q → A q := fun q h => by rw [← hAe]; exact Or.inr h
  have hS : va_S A s.heap s.heap [] := va_S.rf
  have hl := lv_entry ([.ref x, .int p0, .int p1]) (n := 3) (Nat.le_of_ble_eq_true rfl)
  rw [lg_entry_eq]
  generalize (lg_sl ([.ref x, .int p0, .int p1]) ++ List.replicate (3 - (lg_sl ([.ref x, .int p0, .int p1])).length) Slot.unset).toArray = ls at hl ⊢
  have hl : lv_has ls 3 [(0, .ref x), (1, .int p0), (2, .int p1)] := hl
  obtain ⟨H, eH⟩ : ∃ z, z = s.heap := ⟨_, rfl⟩
  have hP : va_P (dC, dI) CL [(x, .inr (12, xg)), (oA, .inl (oAC, (1, .inr (.inl oAf))))] H := by rw [eH]; exact hP
  have hS : va_S A s.heap H [] := by rw [eH]; exact hS
  rw [← eH]
  refine lv_iload_n hx hb dX12_isThere_0 rfl (lv_at hl 1 rfl) ?_
  refine lv_if_lt (tgt := 13) hx hb dX12_isThere_1 (by decide) (fun c9 => ?_) (fun c9 => ?_)
  · first | exact absurd c9 zn | exact absurd zn c9
  refine lv_iload_n hx hb dX12_isThere_4 rfl (lv_at hl 1 rfl) ?_
  refine lv_iconst (v := 2) hx hb dX12_isThere_5 (by decide +kernel) ?_
  refine lv_icmp_gt (tgt := 13) hx hb dX12_isThere_6 (by decide) (fun c9 => ?_) (fun c9 => ?_)
  rotate_left
  · first | exact absurd c9 zp | exact absurd zp c9
  refine lv_iconst (v := 0) hx hb dX12_isThere_13 (by decide +kernel) ?_
  have hF0 : ∀ q, va_A [] H.size q → A q := fun q h => h.elim (fun ⟨k9, e9, h9⟩ => by simp at h9) (fun h9 => hA q (Nat.le_trans hS.1 h9))
  refine vx_callv (vx_runS (As := [.int 0]) (rest := []) ⟨hx, hb, hml, hown, hts⟩ (ct_X12_needRange l hlt H.size 0) (cwS 1 hts (gi_S wd_1328 wd_1329 wd_327 wd_1330) rfl rfl rfl (by decide +kernel) ⟨(Nat.le_of_ble_eq_true rfl), (Nat.le_of_ble_eq_true rfl)⟩) ⟨fun a U g mk q => ⟨q.1, q.2.1, th.moved (u := U) (U := U.calling g mk a) (Vm.Alike.refl U.vm) q.2.2⟩, fun U hU hW => ⟨rfl, by rw [hU], by rw [hU]; exact ((hth.kept hS.2.1).narrow hF0).moved hW.alike⟩⟩ rfl rfl hl.1 rfl (lv_room (Nat.le_of_ble_eq_true rfl)) dX12_isThere_14 ⟨(Nat.le_of_ble_eq_true rfl), (Nat.le_of_ble_eq_true rfl)⟩) hS (fun q _ h => hF0 q h) hF0 (fun q _ h => hF0 q h) (fun E ce q9 u t H1 locs ht hvm hp hB hz hk hS hce hcv hcl => ?_) (fun u t H1 locs ht hvm hp hB hz hk hS => absurd rfl hp)
  subst hB
  have hP : va_P (dC, dI) CL [(x, .inr (12, xg)), (oA, .inl (oAC, (1, .inr (.inl oAf))))] H1 := hP.kept (fun k q h9 => hk _ (vx_lt hP h9) (fun h8 => h8.elim (fun ⟨k9, e9, h7⟩ => by simp at h7) (fun h7 => absurd (vx_lt hP h9) (Nat.not_lt.mpr h7))))
  generalize H1 = H at hP hS hce ⊢
  exact vx_out (fun x h9 => (ht0 x h9).elim) hlocks hce hcv hcl (fun t ht hvm9 => ⟨(), trivial, ⟨rfl, xg, oAf, h_x, h_oA, by rw [ht]; exact hP, va_K.moved hvm9 hK, hD⟩, hS.F ht⟩) hS.2.2 (Nat.le_of_ble_eq_true rfl) (Nat.le_of_ble_eq_true rfl)
set_option maxHeartbeats 4000000 in
set_option maxRecDepth 100000 in
theorem gx64_L_isThere (l : Launch) (hlt : l.stackTraces = false) (dC : Nat → ClassId) (dI : Nat → Nat → Nat) (sz : Nat) (p0 : Int32) (p1 : Int32) (x oA deA liA chA : Nat) (xg : List Value) (h_x : fx xg 17 [(7, .ref deA), (8, .ref liA), (9, .ref chA)]) (oAC : ClassId) (oAf : Nat → Int64) (h_oA : fa oAf []) (zn : ¬ p0 < 0) (zp : 2 < p0) (zq : ¬ p0 ≤ 2) : Met l yL_isThere (Cond.codeWith yL_isThere cL_isThere 5 (some .int) [(0, 17, 20, 19)] :: BG) ({ frames := 8, cells := 1, slots := 6, locals := 152 }) (va_Pc [.ref x, .int p0, .int p1, .ref oA] (fun U => U.heap.size = sz ∧ va_P (dC, dI) CL [(x, .inr (12, xg)), (oA, .inl (oAC, (1, .inr (.inl oAf))))] U.heap ∧ va_K (dC, dI) CL [(oAC, .long)] U ∧ va_D (fun _ => True) [(x, .inr (12, xg)), (oA, .inl (oAC, (1, .inr (.inl oAf))))] ∧ th (va_A [(x, .inr (12, xg)), (oA, .inl (oAC, (1, .inr (.inl oAf))))] sz) U U.heap)) (va_Qi (fun (r : Int32) (_ : Unit) => r = 1) (fun _ t => ∃ (xy : List Value) (oAy : Nat → Int64), fx xy 17 [(7, .ref deA), (8, .ref liA), (9, .ref chA)] ∧ fa oAy [] ∧ va_P (dC, dI) CL [(x, .inr (12, xy)), (oA, .inl (oAC, (1, .inr (.inl oAy))))] t.heap ∧ va_K (dC, dI) CL [(oAC, .long)] t ∧ va_D (va_A [(x, .inr (12, xg)), (oA, .inl (oAC, (1, .inr (.inl oAf))))] sz) [(x, .inr (12, xy)), (oA, .inl (oAC, (1, .inr (.inl oAy))))]) (va_A [(x, .inr (12, xg)), (oA, .inl (oAC, (1, .inr (.inl oAf))))] sz)) 1 6 (va_A [(x, .inr (12, xg)), (oA, .inl (oAC, (1, .inr (.inl oAf))))] sz) := by
  refine va_MetW (hh := [(0, 17, 20, 19)]) (cc := cL_isThere) (maxL := 5) (ret := (some .int)) (by decide) rfl ?_
  intro p e s m args below meth c s₁ B hml hv
  obtain ⟨rfl, hsz, hP, hK, hD0, hth⟩ := hv
  have hx := B.exec
  have hb := B.bytes
  have hr := B.returns
  have hts : ∀ w ∈ BG, w.before _ s = true := fun w h => atoms_spec (ws := Cond.codeWith yL_isThere cL_isThere 5 (some .int) [(0, 17, 20, 19)] :: BG) B.pre w (List.mem_cons_of_mem _ h)
  have hown : s.vm.findClass RL = some m.cls := findClass_of_methodNamed B.named
  have hlocks := B.notSynchronized
  subst hsz
  have hD := hD0.self (sz := s.heap.size)
  generalize hAe : va_A [(x, .inr (12, xg)), (oA, .inl (oAC, (1, .inr (.inl oAf))))] s.heap.size = A at hD hth ⊢
  have hA : ∀ q : Nat, s.heap.size ≤ q → A q := fun q h => by rw [← hAe]; exact Or.inr h
  have hS : va_S A s.heap s.heap [] := va_S.rf
  have hl := lv_entry ([.ref x, .int p0, .int p1, .ref oA]) (n := 5) (Nat.le_of_ble_eq_true rfl)
  rw [lg_entry_eq]
  generalize (lg_sl ([.ref x, .int p0, .int p1, .ref oA]) ++ List.replicate (5 - (lg_sl ([.ref x, .int p0, .int p1, .ref oA])).length) Slot.unset).toArray = ls at hl ⊢
  have hl : lv_has ls 5 [(0, .ref x), (1, .int p0), (2, .int p1), (3, .ref oA)] := hl
  obtain ⟨H, eH⟩ : ∃ z, z = s.heap := ⟨_, rfl⟩
  have hP : va_P (dC, dI) CL [(x, .inr (12, xg)), (oA, .inl (oAC, (1, .inr (.inl oAf))))] H := by rw [eH]; exact hP
  have hS : va_S A s.heap H [] := by rw [eH]; exact hS
  rw [← eH]
  have hT : c.exceptionTable.toList = tableOf [(0, 17, 20, 19)] := vx_table (x := yL_isThere) B (atoms_spec (ws := Cond.codeWith yL_isThere cL_isThere 5 (some .int) [(0, 17, 20, 19)] :: BG) B.pre _ List.mem_cons_self)
  refine lv_aload_n hx hb dL_isThere_0 rfl (lv_at hl 3 rfl) ?_
  refine lv_iconst (v := 0) hx hb dL_isThere_1 (by decide +kernel) ?_
  refine lv_aload_n hx hb dL_isThere_2 rfl (lv_at hl 0 rfl) ?_
  refine lv_iload_n hx hb dL_isThere_3 rfl (lv_at hl 1 rfl) ?_
  refine lv_iload_n hx hb dL_isThere_4 rfl (lv_at hl 2 rfl) ?_
  have hFc := va_free (wc := [(x, .inr (12, xg)), (oA, .inl (oAC, (1, .inr (.inl oAf))))]) hD hS hA [0, 1] rfl
  refine vq_thr (vx_runV (As := [.int p0, .int p1]) (rest := [.int 0, .ref oA]) ⟨hx, hb, hml, hown, hts⟩ (gx65_X12_isThere l hlt dC dI _ p0 p1 x oA deA liA chA xg h_x oAC oAf h_oA zn zp zq) (cwV 2 hts (gi_V wd_1842 wd_1843 wd_1844 wd_327 wd_1845) rfl rfl rfl (by decide +kernel) ⟨(Nat.le_of_ble_eq_true rfl), (Nat.le_of_ble_eq_true rfl)⟩) ⟨fun a U g mk q => by obtain ⟨q0, q1, qP, qK, qD, qT⟩ := q; exact ⟨q0, q1, qP, va_K.moved (u := U) (U := U.calling g mk a) (Vm.Alike.refl U.vm) qK, qD, th.moved (u := U) (U := U.calling g mk a) (Vm.Alike.refl U.vm) qT⟩, va_recv hK hP (ci := 12) (q0 := 0) rfl rfl, fun U hU hW => ⟨rfl, by rw [hU], by rw [hU]; exact hP, va_K.moved hW.alike hK, hD.weaken (fun _ _ _ _ => trivial), by rw [hU]; exact ((hth.kept hS.2.1).narrow hFc).moved hW.alike⟩⟩ rfl rfl hl.1 rfl (lv_room (Nat.le_of_ble_eq_true rfl)) dL_isThere_5 ⟨(Nat.le_of_ble_eq_true rfl), (Nat.le_of_ble_eq_true rfl)⟩) (fun _ _ _ h => h) hS hFc (fun q _ h => hFc q h) (fun E ce q9 u t H1 locs ht hvm hp hB hz hk hS hce hcv hcl => ?_)
  obtain ⟨hE, hB⟩ := hB
  subst hE
  obtain ⟨fs_1, f_2, h_x, h_oA, hP1, hK1, hD1⟩ := hB
  rw [ht] at hP1
  have hD := hD1.weaken (fun k q _ h => hFc q.1 h)
  have hP := hP1
  generalize H1 = H at hP hS hce ⊢
  have hP : va_P (dC, dI) CL [(x, .inr (12, fs_1)), (oA, .inl (oAC, (1, .inr (.inl f_2))))] H := hP
  have hD : va_D A [(x, .inr (12, fs_1)), (oA, .inl (oAC, (1, .inr (.inl f_2))))] := hD
  refine vx_catch (own := RL) (name := "java/lang/IllegalArgumentException") hown [] { startPc := 0, endPc := 17, handlerPc := 20, catchType := 19 } [] (by rw [hT]; rfl) (fun _ h => nomatch h) (by decide) (by decide) (hts (.classLink RL 19 "java/lang/IllegalArgumentException") wd_1323) (hth.cast (by decide)) hce hcv hcl ?_
  refine W.widen (k := 1) (n := 6) (Nat.le_of_ble_eq_true rfl) (Nat.le_of_ble_eq_true rfl) ?_
  refine lv_astore (lv' := [(4, .ref q9), (0, .ref x), (1, .int p0), (2, .int p1), (3, .ref oA)]) hx hb dL_isThere_20 hl (by decide) rfl (fun ls hl => ?_)
  refine lv_iconst (v := 1) hx hb dL_isThere_22 (by decide +kernel) ?_
  refine W.widen (k := 1) (n := 6) (Nat.le_of_ble_eq_true rfl) (Nat.le_of_ble_eq_true rfl) ?_
  exact W.iret (v := 1) hx hb hr (fun t ht hW => ⟨⟨1, (), rfl, rfl, fs_1, f_2, h_x, h_oA, by rw [ht]; exact hP, va_K.moved hW.alike hK, hD⟩, hS.F ht⟩) hS.2.2 dL_isThere_23
set_option maxHeartbeats 4000000 in
set_option maxRecDepth 100000 in
theorem gx66_X13_isThere (l : Launch) (hlt : l.stackTraces = false) (dC : Nat → ClassId) (dI : Nat → Nat → Nat) (sz : Nat) (p0 : Int32) (p1 : Int32) (m0 md ml mch : Nat) (m0g : List Value) (h_m0 : fx m0g 225 [(0, .int 0), (2, .int 0), (3, .int 0), (9, .int 0), (10, .int 0), (11, .int 0), (12, .int 0), (27, .int 0), (55, .ref md), (79, .int 0), (83, .int 0), (88, .ref ml), (95, .int 0), (138, .ref mch)]) (zn : ¬ p0 < 0) (zp : 2 < p0) (zq : ¬ p0 ≤ 2) : Met l yX13_isThere (Cond.code yX13_isThere cX13_isThere 3 (some .boolean) :: BG) ({ frames := 2, cells := 0, slots := 0, locals := 34 }) (va_Pc [.ref m0, .int p0, .int p1] (fun U => U.heap.size = sz ∧ va_P (dC, dI) CL [(m0, .inr (13, m0g))] U.heap ∧ va_K (dC, dI) CL [] U ∧ va_D (fun _ => True) [(m0, .inr (13, m0g))] ∧ th (va_A [(m0, .inr (13, m0g))] sz) U U.heap)) (va_Qi (fun (r : Int32) (_ : Unit) => r = 0) (fun _ t => ∃ (m0y : List Value), fx m0y 225 [(0, .int 1), (2, .int 0), (3, .int 0), (9, .int 0), (10, .int 0), (11, .int 0), (12, .int 0), (27, .int 0), (55, .ref md), (79, .int 0), (83, .int 0), (88, .ref ml), (95, .int 0), (138, .ref mch)] ∧ va_P (dC, dI) CL [(m0, .inr (13, m0y))] t.heap ∧ va_K (dC, dI) CL [] t ∧ va_D (va_A [(m0, .inr (13, m0g))] sz) [(m0, .inr (13, m0y))]) (va_A [(m0, .inr (13, m0g))] sz)) 0 0 (va_A [(m0, .inr (13, m0g))] sz) := by
  refine Met.ofW (cc := cX13_isThere) (maxL := 3) (ret := (some .boolean)) (by decide) rfl ?_
  intro p e s m args below meth c s₁ B hml hv
  obtain ⟨rfl, hsz, hP, hK, hD0, hth⟩ := hv
  have hx := B.exec
  have hb := B.bytes
  have hr := B.returns
  have hts : ∀ w ∈ BG, w.before _ s = true := fun w h => atoms_spec (ws := Cond.code yX13_isThere cX13_isThere 3 (some .boolean) :: BG) B.pre w (List.mem_cons_of_mem _ h)
  have hown : s.vm.findClass RX13 = some m.cls := findClass_of_methodNamed B.named
  have hlocks := B.notSynchronized
  subst hsz
  have hD := hD0.self (sz := s.heap.size)
  generalize hAe : va_A [(m0, .inr (13, m0g))] s.heap.size = A at hD hth ⊢
  have hA : ∀ q : Nat, s.heap.size ≤ q → A q := fun q h => by rw [← hAe]; exact Or.inr h
  have hS : va_S A s.heap s.heap [] := va_S.rf
  have hl := lv_entry ([.ref m0, .int p0, .int p1]) (n := 3) (Nat.le_of_ble_eq_true rfl)
  rw [lg_entry_eq]
  generalize (lg_sl ([.ref m0, .int p0, .int p1]) ++ List.replicate (3 - (lg_sl ([.ref m0, .int p0, .int p1])).length) Slot.unset).toArray = ls at hl ⊢
  have hl : lv_has ls 3 [(0, .ref m0), (1, .int p0), (2, .int p1)] := hl
  obtain ⟨H, eH⟩ : ∃ z, z = s.heap := ⟨_, rfl⟩
  have hP : va_P (dC, dI) CL [(m0, .inr (13, m0g))] H := by rw [eH]; exact hP
  have hS : va_S A s.heap H [] := by rw [eH]; exact hS
  rw [← eH]
  refine lv_aload_n hx hb dX13_isThere_0 rfl (lv_at hl 0 rfl) ?_
  refine lv_iload_n hx hb dX13_isThere_1 rfl (lv_at hl 1 rfl) ?_
  refine lv_iconst (v := 0) hx hb dX13_isThere_2 (by decide +kernel) ?_
  refine lv_iconst (v := 2) hx hb dX13_isThere_3 (by decide +kernel) ?_
  have hFc := va_free (wc := [(m0, .inr (13, m0g))]) hD hS hA [0] rfl
  refine va_calli (va_runS (As := [.int p0, .int 0, .int 2]) (rest := [.ref m0]) ⟨hx, hb, hml, hown, hts⟩ (gx44_X13_within l hlt dC dI _ p0 m0 md ml mch m0g h_m0 zn zp zq) (cwS 3 hts (gi_S wd_3825 wd_3826 wd_340 wd_3827) rfl rfl rfl (by decide +kernel) ⟨(Nat.le_of_ble_eq_true rfl), (Nat.le_of_ble_eq_true rfl)⟩) ⟨fun a U g mk q => by obtain ⟨q0, q1, qP, qK, qD, qT⟩ := q; exact ⟨q0, q1, qP, va_K.moved (u := U) (U := U.calling g mk a) (Vm.Alike.refl U.vm) qK, qD, th.moved (u := U) (U := U.calling g mk a) (Vm.Alike.refl U.vm) qT⟩, fun U hU hW => ⟨rfl, by rw [hU], by rw [hU]; exact hP, va_K.moved hW.alike hK, hD.weaken (fun _ _ _ _ => trivial), by rw [hU]; exact ((hth.kept hS.2.1).narrow hFc).moved hW.alike⟩⟩ rfl rfl hl.1 rfl (lv_room (Nat.le_of_ble_eq_true rfl)) dX13_isThere_4 ⟨(Nat.le_of_ble_eq_true rfl), (Nat.le_of_ble_eq_true rfl)⟩) hS (fun q _ h => hFc q h) hFc (fun r u t H1 locs ht hvm hw hB hz1 hk1 hS => ?_)
  subst hw
  obtain ⟨fs_1, h_m0, hP1, hK1, hD1⟩ := hB
  rw [ht] at hP1
  have hD := hD1.weaken (fun k q _ h => hFc q.1 h)
  have hP := hP1
  generalize H1 = H at hP hS ⊢
  have hP : va_P (dC, dI) CL [(m0, .inr (13, fs_1))] H := hP
  have hD : va_D A [(m0, .inr (13, fs_1))] := hD
  refine lv_if_eq (tgt := 14) hx hb dX13_isThere_7 (by decide) (fun c9 => ?_) (fun c9 => ?_)
  rotate_left
  · first | exact absurd c9 (by decide +kernel) | exact absurd (by decide +kernel) c9
  refine lv_iconst (v := 1) hx hb dX13_isThere_14 (by decide +kernel) ?_
  refine va_put (D := (dC, dI)) (ci := 13) (v := .int 1) (ty := tyX13 0) (C := RX13) (T := TX13) (N := 225) hx hb hts inX13 tyX13 tyX13_ok nmX13 hown hK hP hD hS 0 rfl rfl 0 (by decide) (hts (.fieldLink RX13 1 "ChipFlowModel" "code" "I") wd_3032) (fun _ h9 => h9) rfl (by decide +kernel) rfl rfl (by rw [h_m0.1]; decide) dX13_isThere_15 (fun H locs hP hD hS => ?_)
  obtain ⟨fs_2, e9⟩ : ∃ z, z = fs_1.set 0 (.int 1) := ⟨_, rfl⟩
  have h_m0 : fx fs_2 225 [(0, .int 1), (2, .int 0), (3, .int 0), (9, .int 0), (10, .int 0), (11, .int 0), (12, .int 0), (27, .int 0), (55, .ref md), (79, .int 0), (83, .int 0), (88, .ref ml), (95, .int 0), (138, .ref mch)] := by rw [e9]; exact (h_m0.put (F' := [(0, .int 1), (2, .int 0), (3, .int 0), (9, .int 0), (10, .int 0), (11, .int 0), (12, .int 0), (27, .int 0), (55, .ref md), (79, .int 0), (83, .int 0), (88, .ref ml), (95, .int 0), (138, .ref mch)]) (by decide) _ rfl).sub [0, 1, 2, 3, 4, 5, 6, 7, 8, 9, 10, 11, 12, 13] rfl
  have hP : va_P (dC, dI) CL [(m0, .inr (13, fs_2))] H := by rw [e9]; exact hP
  have hD : va_D A [(m0, .inr (13, fs_2))] := by rw [e9]; exact hD
  clear e9
  refine lv_aload_n hx hb dX13_isThere_18 rfl (lv_at hl 0 rfl) ?_
  refine va_get (D := (dC, dI)) (ci := 13) (v := .int 1) (C := RX13) (T := TX13) (N := 225) hx hb hts inX13 hown hK hP 0 rfl rfl 0 (by decide) (hts (.fieldLink RX13 1 "ChipFlowModel" "code" "I") wd_3032) (fun _ h9 => h9) (h_m0.get 0 rfl) dX13_isThere_19 ?_
  refine lv_if_ne (tgt := 38) hx hb dX13_isThere_22 (by decide) (fun c9 => ?_) (fun c9 => ?_)
  rotate_left
  · first | exact absurd c9 (by decide +kernel) | exact absurd (by decide +kernel) c9
  refine lv_iconst (v := 0) hx hb dX13_isThere_38 (by decide +kernel) ?_
  exact W.zret (v := 0) hx hb hr rfl (fun t ht hW => ⟨⟨0, (), rfl, rfl, fs_2, h_m0, by rw [ht]; exact hP, va_K.moved hW.alike hK, hD⟩, hS.F ht⟩) hS.2.2 dX13_isThere_39
set_option maxHeartbeats 4000000 in
set_option maxRecDepth 100000 in
theorem gx68_X12_isThere (l : Launch) (hlt : l.stackTraces = false) (dC : Nat → ClassId) (dI : Nat → Nat → Nat) (sz : Nat) (p1 : Int32) (x deA de0 de1 de2 de3 de4 de5 oA liA chA : Nat) (xg : List Value) (h_x : fx xg 17 [(7, .ref deA), (8, .ref liA), (9, .ref chA)]) (deAC : ClassId) (deAF : Nat → Option Nat) (de0g : List Value) (h_de0 : fx de0g 16 [(0, .int 0)]) (de1g : List Value) (h_de1 : fx de1g 16 [(0, .int 0)]) (de2g : List Value) (h_de2 : fx de2g 16 [(0, .int 0)]) (de3g : List Value) (h_de3 : fx de3g 16 [(0, .int 0)]) (de4g : List Value) (h_de4 : fx de4g 16 [(0, .int 0)]) (de5g : List Value) (h_de5 : fx de5g 16 [(0, .int 0)]) (oAC : ClassId) (oAf : Nat → Int64) (h_oA : fa oAf []) (h_deA0 : deAF 0 = some de0) (h_deA1 : deAF 1 = some de1) (h_deA2 : deAF 2 = some de2) (h_deA3 : deAF 3 = some de3) (h_deA4 : deAF 4 = some de4) (h_deA5 : deAF 5 = some de5) (zk : p1 < 0) : Met l yX12_isThere (Cond.code yX12_isThere cX12_isThere 3 (some .boolean) :: BG) ({ frames := 7, cells := 1, slots := 6, locals := 130 }) (va_Pc [.ref x, .int 0, .int p1] (fun U => U.heap.size = sz ∧ va_P (dC, dI) CL [(x, .inr (12, xg)), (deA, .inl (deAC, (6, .inr (.inr (.inr (.inr deAF)))))), (de0, .inr (3, de0g)), (de1, .inr (3, de1g)), (de2, .inr (3, de2g)), (de3, .inr (3, de3g)), (de4, .inr (3, de4g)), (de5, .inr (3, de5g)), (oA, .inl (oAC, (1, .inr (.inl oAf))))] U.heap ∧ va_K (dC, dI) CL [(deAC, .object "ChipFlow$Design"), (oAC, .long)] U ∧ va_D (fun _ => True) [(x, .inr (12, xg)), (deA, .inl (deAC, (6, .inr (.inr (.inr (.inr deAF)))))), (de0, .inr (3, de0g)), (de1, .inr (3, de1g)), (de2, .inr (3, de2g)), (de3, .inr (3, de3g)), (de4, .inr (3, de4g)), (de5, .inr (3, de5g)), (oA, .inl (oAC, (1, .inr (.inl oAf))))] ∧ th (va_A [(x, .inr (12, xg)), (deA, .inl (deAC, (6, .inr (.inr (.inr (.inr deAF)))))), (de0, .inr (3, de0g)), (de1, .inr (3, de1g)), (de2, .inr (3, de2g)), (de3, .inr (3, de3g)), (de4, .inr (3, de4g)), (de5, .inr (3, de5g)), (oA, .inl (oAC, (1, .inr (.inl oAf))))] sz) U U.heap)) (va_Qi (fun (r : Int32) (_ : Unit) => r = 0) (fun _ t => ∃ (xy : List Value) (de0y : List Value) (de1y : List Value) (de2y : List Value) (de3y : List Value) (de4y : List Value) (de5y : List Value) (oAy : Nat → Int64), fx xy 17 [(7, .ref deA), (8, .ref liA), (9, .ref chA)] ∧ fx de0y 16 [(0, .int 0)] ∧ fx de1y 16 [(0, .int 0)] ∧ fx de2y 16 [(0, .int 0)] ∧ fx de3y 16 [(0, .int 0)] ∧ fx de4y 16 [(0, .int 0)] ∧ fx de5y 16 [(0, .int 0)] ∧ fa oAy [] ∧ va_P (dC, dI) CL [(x, .inr (12, xy)), (deA, .inl (deAC, (6, .inr (.inr (.inr (.inr deAF)))))), (de0, .inr (3, de0y)), (de1, .inr (3, de1y)), (de2, .inr (3, de2y)), (de3, .inr (3, de3y)), (de4, .inr (3, de4y)), (de5, .inr (3, de5y)), (oA, .inl (oAC, (1, .inr (.inl oAy))))] t.heap ∧ va_K (dC, dI) CL [(deAC, .object "ChipFlow$Design"), (oAC, .long)] t ∧ va_D (va_A [(x, .inr (12, xg)), (deA, .inl (deAC, (6, .inr (.inr (.inr (.inr deAF)))))), (de0, .inr (3, de0g)), (de1, .inr (3, de1g)), (de2, .inr (3, de2g)), (de3, .inr (3, de3g)), (de4, .inr (3, de4g)), (de5, .inr (3, de5g)), (oA, .inl (oAC, (1, .inr (.inl oAf))))] sz) [(x, .inr (12, xy)), (deA, .inl (deAC, (6, .inr (.inr (.inr (.inr deAF)))))), (de0, .inr (3, de0y)), (de1, .inr (3, de1y)), (de2, .inr (3, de2y)), (de3, .inr (3, de3y)), (de4, .inr (3, de4y)), (de5, .inr (3, de5y)), (oA, .inl (oAC, (1, .inr (.inl oAy))))]) (va_A [(x, .inr (12, xg)), (deA, .inl (deAC, (6, .inr (.inr (.inr (.inr deAF)))))), (de0, .inr (3, de0g)), (de1, .inr (3, de1g)), (de2, .inr (3, de2g)), (de3, .inr (3, de3g)), (de4, .inr (3, de4g)), (de5, .inr (3, de5g)), (oA, .inl (oAC, (1, .inr (.inl oAf))))] sz)) 1 6 (va_A [(x, .inr (12, xg)), (deA, .inl (deAC, (6, .inr (.inr (.inr (.inr deAF)))))), (de0, .inr (3, de0g)), (de1, .inr (3, de1g)), (de2, .inr (3, de2g)), (de3, .inr (3, de3g)), (de4, .inr (3, de4g)), (de5, .inr (3, de5g)), (oA, .inl (oAC, (1, .inr (.inl oAf))))] sz) := by
  refine Met.ofW (cc := cX12_isThere) (maxL := 3) (ret := (some .boolean)) (by decide) rfl ?_
  intro p e s m args below meth c s₁ B hml hv
  obtain ⟨rfl, hsz, hP, hK, hD0, hth⟩ := hv
  have hx := B.exec
  have hb := B.bytes
  have hr := B.returns
  have hts : ∀ w ∈ BG, w.before _ s = true := fun w h => atoms_spec (ws := Cond.code yX12_isThere cX12_isThere 3 (some .boolean) :: BG) B.pre w (List.mem_cons_of_mem _ h)
  have hown : s.vm.findClass RX12 = some m.cls := findClass_of_methodNamed B.named
  have hlocks := B.notSynchronized
  subst hsz
  have hD := hD0.self (sz := s.heap.size)
  generalize hAe : va_A [(x, .inr (12, xg)), (deA, .inl (deAC, (6, .inr (.inr (.inr (.inr deAF)))))), (de0, .inr (3, de0g)), (de1, .inr (3, de1g)), (de2, .inr (3, de2g)), (de3, .inr (3, de3g)), (de4, .inr (3, de4g)), (de5, .inr (3, de5g)), (oA, .inl (oAC, (1, .inr (.inl oAf))))] s.heap.size = A at hD hth ⊢
  have hA : ∀ q : Nat, s.heap.size ≤ q → A q := fun q h => by rw [← hAe]; exact Or.inr h
  have hS : va_S A s.heap s.heap [] := va_S.rf
  have hl := lv_entry ([.ref x, .int 0, .int p1]) (n := 3) (Nat.le_of_ble_eq_true rfl)
  rw [lg_entry_eq]
  generalize (lg_sl ([.ref x, .int 0, .int p1]) ++ List.replicate (3 - (lg_sl ([.ref x, .int 0, .int p1])).length) Slot.unset).toArray = ls at hl ⊢
  have hl : lv_has ls 3 [(0, .ref x), (1, .int 0), (2, .int p1)] := hl
  obtain ⟨H, eH⟩ : ∃ z, z = s.heap := ⟨_, rfl⟩
  have hP : va_P (dC, dI) CL [(x, .inr (12, xg)), (deA, .inl (deAC, (6, .inr (.inr (.inr (.inr deAF)))))), (de0, .inr (3, de0g)), (de1, .inr (3, de1g)), (de2, .inr (3, de2g)), (de3, .inr (3, de3g)), (de4, .inr (3, de4g)), (de5, .inr (3, de5g)), (oA, .inl (oAC, (1, .inr (.inl oAf))))] H := by rw [eH]; exact hP
  have hS : va_S A s.heap H [] := by rw [eH]; exact hS
  rw [← eH]
  refine lv_iload_n hx hb dX12_isThere_0 rfl (lv_at hl 1 rfl) ?_
  refine lv_if_lt (tgt := 13) hx hb dX12_isThere_1 (by decide) (fun c9 => ?_) (fun c9 => ?_)
  · first | exact absurd c9 (by decide +kernel) | exact absurd (by decide +kernel) c9
  refine lv_iload_n hx hb dX12_isThere_4 rfl (lv_at hl 1 rfl) ?_
  refine lv_iconst (v := 2) hx hb dX12_isThere_5 (by decide +kernel) ?_
  refine lv_icmp_gt (tgt := 13) hx hb dX12_isThere_6 (by decide) (fun c9 => ?_) (fun c9 => ?_)
  · first | exact absurd c9 (by decide +kernel) | exact absurd (by decide +kernel) c9
  refine lv_iconst (v := 1) hx hb dX12_isThere_9 (by decide +kernel) ?_
  refine lv_goto (tgt := 14) hx hb dX12_isThere_10 (by decide) ?_
  have hF0 : ∀ q, va_A [] H.size q → A q := fun q h => h.elim (fun ⟨k9, e9, h9⟩ => by simp at h9) (fun h9 => hA q (Nat.le_trans hS.1 h9))
  refine vx_callv (vx_runS (As := [.int 1]) (rest := []) ⟨hx, hb, hml, hown, hts⟩ (ct_X12_needRange l hlt H.size 1) (cwS 1 hts (gi_S wd_1328 wd_1329 wd_327 wd_1330) rfl rfl rfl (by decide +kernel) ⟨(Nat.le_of_ble_eq_true rfl), (Nat.le_of_ble_eq_true rfl)⟩) ⟨fun a U g mk q => ⟨q.1, q.2.1, th.moved (u := U) (U := U.calling g mk a) (Vm.Alike.refl U.vm) q.2.2⟩, fun U hU hW => ⟨rfl, by rw [hU], by rw [hU]; exact ((hth.kept hS.2.1).narrow hF0).moved hW.alike⟩⟩ rfl rfl hl.1 rfl (lv_room (Nat.le_of_ble_eq_true rfl)) dX12_isThere_14 ⟨(Nat.le_of_ble_eq_true rfl), (Nat.le_of_ble_eq_true rfl)⟩) hS (fun q _ h => hF0 q h) hF0 (fun q _ h => hF0 q h) (fun E ce q9 u t H1 locs ht hvm hp hB hz hk hS hce hcv hcl => absurd hp (by decide +kernel)) (fun u t H1 locs ht hvm hp hB hz hk hS => ?_)
  have hP : va_P (dC, dI) CL [(x, .inr (12, xg)), (deA, .inl (deAC, (6, .inr (.inr (.inr (.inr deAF)))))), (de0, .inr (3, de0g)), (de1, .inr (3, de1g)), (de2, .inr (3, de2g)), (de3, .inr (3, de3g)), (de4, .inr (3, de4g)), (de5, .inr (3, de5g)), (oA, .inl (oAC, (1, .inr (.inl oAf))))] H1 := hP.kept (fun k q h9 => hk _ (vx_lt hP h9) (fun h8 => h8.elim (fun ⟨k9, e9, h7⟩ => by simp at h7) (fun h7 => absurd (vx_lt hP h9) (Nat.not_lt.mpr h7))))
  generalize H1 = H at hP hS ⊢
  refine W.widen (k := 1) (n := 6) (Nat.le_of_ble_eq_true rfl) (Nat.le_of_ble_eq_true rfl) ?_
  refine lv_iload_n hx hb dX12_isThere_17 rfl (lv_at hl 1 rfl) ?_
  refine lv_if_ne (tgt := 49) hx hb dX12_isThere_18 (by decide) (fun c9 => ?_) (fun c9 => ?_)
  · first | exact absurd c9 (by decide +kernel) | exact absurd (by decide +kernel) c9
  refine lv_iload_n hx hb dX12_isThere_21 rfl (lv_at hl 2 rfl) ?_
  refine lv_if_lt (tgt := 47) hx hb dX12_isThere_22 (by decide) (fun c9 => ?_) (fun c9 => ?_)
  rotate_left
  · first | exact absurd c9 zk | exact absurd zk c9
  refine lv_iconst (v := 0) hx hb dX12_isThere_47 (by decide +kernel) ?_
  refine W.widen (k := 1) (n := 6) (Nat.le_of_ble_eq_true rfl) (Nat.le_of_ble_eq_true rfl) ?_
  exact W.zret (v := 0) hx hb hr rfl (fun t ht hW => ⟨⟨0, (), rfl, rfl, xg, de0g, de1g, de2g, de3g, de4g, de5g, oAf, h_x, h_de0, h_de1, h_de2, h_de3, h_de4, h_de5, h_oA, by rw [ht]; exact hP, va_K.moved hW.alike hK, hD⟩, hS.F ht⟩) hS.2.2 dX12_isThere_48
set_option maxHeartbeats 4000000 in
set_option maxRecDepth 100000 in
theorem gx67_L_isThere (l : Launch) (hlt : l.stackTraces = false) (dC : Nat → ClassId) (dI : Nat → Nat → Nat) (sz : Nat) (p1 : Int32) (x deA de0 de1 de2 de3 de4 de5 oA liA chA : Nat) (xg : List Value) (h_x : fx xg 17 [(7, .ref deA), (8, .ref liA), (9, .ref chA)]) (deAC : ClassId) (deAF : Nat → Option Nat) (de0g : List Value) (h_de0 : fx de0g 16 [(0, .int 0)]) (de1g : List Value) (h_de1 : fx de1g 16 [(0, .int 0)]) (de2g : List Value) (h_de2 : fx de2g 16 [(0, .int 0)]) (de3g : List Value) (h_de3 : fx de3g 16 [(0, .int 0)]) (de4g : List Value) (h_de4 : fx de4g 16 [(0, .int 0)]) (de5g : List Value) (h_de5 : fx de5g 16 [(0, .int 0)]) (oAC : ClassId) (oAf : Nat → Int64) (h_oA : fa oAf []) (h_deA0 : deAF 0 = some de0) (h_deA1 : deAF 1 = some de1) (h_deA2 : deAF 2 = some de2) (h_deA3 : deAF 3 = some de3) (h_deA4 : deAF 4 = some de4) (h_deA5 : deAF 5 = some de5) (zk : p1 < 0) : Met l yL_isThere (Cond.codeWith yL_isThere cL_isThere 5 (some .int) [(0, 17, 20, 19)] :: BG) ({ frames := 8, cells := 1, slots := 6, locals := 152 }) (va_Pc [.ref x, .int 0, .int p1, .ref oA] (fun U => U.heap.size = sz ∧ va_P (dC, dI) CL [(x, .inr (12, xg)), (deA, .inl (deAC, (6, .inr (.inr (.inr (.inr deAF)))))), (de0, .inr (3, de0g)), (de1, .inr (3, de1g)), (de2, .inr (3, de2g)), (de3, .inr (3, de3g)), (de4, .inr (3, de4g)), (de5, .inr (3, de5g)), (oA, .inl (oAC, (1, .inr (.inl oAf))))] U.heap ∧ va_K (dC, dI) CL [(deAC, .object "ChipFlow$Design"), (oAC, .long)] U ∧ va_D (fun _ => True) [(x, .inr (12, xg)), (deA, .inl (deAC, (6, .inr (.inr (.inr (.inr deAF)))))), (de0, .inr (3, de0g)), (de1, .inr (3, de1g)), (de2, .inr (3, de2g)), (de3, .inr (3, de3g)), (de4, .inr (3, de4g)), (de5, .inr (3, de5g)), (oA, .inl (oAC, (1, .inr (.inl oAf))))] ∧ th (va_A [(x, .inr (12, xg)), (deA, .inl (deAC, (6, .inr (.inr (.inr (.inr deAF)))))), (de0, .inr (3, de0g)), (de1, .inr (3, de1g)), (de2, .inr (3, de2g)), (de3, .inr (3, de3g)), (de4, .inr (3, de4g)), (de5, .inr (3, de5g)), (oA, .inl (oAC, (1, .inr (.inl oAf))))] sz) U U.heap)) (va_Qi (fun (r : Int32) (_ : Unit) => r = 0) (fun _ t => ∃ (xy : List Value) (de0y : List Value) (de1y : List Value) (de2y : List Value) (de3y : List Value) (de4y : List Value) (de5y : List Value) (oAy : Nat → Int64), fx xy 17 [(7, .ref deA), (8, .ref liA), (9, .ref chA)] ∧ fx de0y 16 [(0, .int 0)] ∧ fx de1y 16 [(0, .int 0)] ∧ fx de2y 16 [(0, .int 0)] ∧ fx de3y 16 [(0, .int 0)] ∧ fx de4y 16 [(0, .int 0)] ∧ fx de5y 16 [(0, .int 0)] ∧ fa oAy [(0, 0)] ∧ va_P (dC, dI) CL [(x, .inr (12, xy)), (deA, .inl (deAC, (6, .inr (.inr (.inr (.inr deAF)))))), (de0, .inr (3, de0y)), (de1, .inr (3, de1y)), (de2, .inr (3, de2y)), (de3, .inr (3, de3y)), (de4, .inr (3, de4y)), (de5, .inr (3, de5y)), (oA, .inl (oAC, (1, .inr (.inl oAy))))] t.heap ∧ va_K (dC, dI) CL [(deAC, .object "ChipFlow$Design"), (oAC, .long)] t ∧ va_D (va_A [(x, .inr (12, xg)), (deA, .inl (deAC, (6, .inr (.inr (.inr (.inr deAF)))))), (de0, .inr (3, de0g)), (de1, .inr (3, de1g)), (de2, .inr (3, de2g)), (de3, .inr (3, de3g)), (de4, .inr (3, de4g)), (de5, .inr (3, de5g)), (oA, .inl (oAC, (1, .inr (.inl oAf))))] sz) [(x, .inr (12, xy)), (deA, .inl (deAC, (6, .inr (.inr (.inr (.inr deAF)))))), (de0, .inr (3, de0y)), (de1, .inr (3, de1y)), (de2, .inr (3, de2y)), (de3, .inr (3, de3y)), (de4, .inr (3, de4y)), (de5, .inr (3, de5y)), (oA, .inl (oAC, (1, .inr (.inl oAy))))]) (va_A [(x, .inr (12, xg)), (deA, .inl (deAC, (6, .inr (.inr (.inr (.inr deAF)))))), (de0, .inr (3, de0g)), (de1, .inr (3, de1g)), (de2, .inr (3, de2g)), (de3, .inr (3, de3g)), (de4, .inr (3, de4g)), (de5, .inr (3, de5g)), (oA, .inl (oAC, (1, .inr (.inl oAf))))] sz)) 1 6 (va_A [(x, .inr (12, xg)), (deA, .inl (deAC, (6, .inr (.inr (.inr (.inr deAF)))))), (de0, .inr (3, de0g)), (de1, .inr (3, de1g)), (de2, .inr (3, de2g)), (de3, .inr (3, de3g)), (de4, .inr (3, de4g)), (de5, .inr (3, de5g)), (oA, .inl (oAC, (1, .inr (.inl oAf))))] sz) := by
  refine va_MetW (hh := [(0, 17, 20, 19)]) (cc := cL_isThere) (maxL := 5) (ret := (some .int)) (by decide) rfl ?_
  intro p e s m args below meth c s₁ B hml hv
  obtain ⟨rfl, hsz, hP, hK, hD0, hth⟩ := hv
  have hx := B.exec
  have hb := B.bytes
  have hr := B.returns
  have hts : ∀ w ∈ BG, w.before _ s = true := fun w h => atoms_spec (ws := Cond.codeWith yL_isThere cL_isThere 5 (some .int) [(0, 17, 20, 19)] :: BG) B.pre w (List.mem_cons_of_mem _ h)
  have hown : s.vm.findClass RL = some m.cls := findClass_of_methodNamed B.named
  have hlocks := B.notSynchronized
  subst hsz
  have hD := hD0.self (sz := s.heap.size)
  generalize hAe : va_A [(x, .inr (12, xg)), (deA, .inl (deAC, (6, .inr (.inr (.inr (.inr deAF)))))), (de0, .inr (3, de0g)), (de1, .inr (3, de1g)), (de2, .inr (3, de2g)), (de3, .inr (3, de3g)), (de4, .inr (3, de4g)), (de5, .inr (3, de5g)), (oA, .inl (oAC, (1, .inr (.inl oAf))))] s.heap.size = A at hD hth ⊢
  have hA : ∀ q : Nat, s.heap.size ≤ q → A q := fun q h => by rw [← hAe]; exact Or.inr h
  have hS : va_S A s.heap s.heap [] := va_S.rf
  have hl := lv_entry ([.ref x, .int 0, .int p1, .ref oA]) (n := 5) (Nat.le_of_ble_eq_true rfl)
  rw [lg_entry_eq]
  generalize (lg_sl ([.ref x, .int 0, .int p1, .ref oA]) ++ List.replicate (5 - (lg_sl ([.ref x, .int 0, .int p1, .ref oA])).length) Slot.unset).toArray = ls at hl ⊢
  have hl : lv_has ls 5 [(0, .ref x), (1, .int 0), (2, .int p1), (3, .ref oA)] := hl
  obtain ⟨H, eH⟩ : ∃ z, z = s.heap := ⟨_, rfl⟩
  have hP : va_P (dC, dI) CL [(x, .inr (12, xg)), (deA, .inl (deAC, (6, .inr (.inr (.inr (.inr deAF)))))), (de0, .inr (3, de0g)), (de1, .inr (3, de1g)), (de2, .inr (3, de2g)), (de3, .inr (3, de3g)), (de4, .inr (3, de4g)), (de5, .inr (3, de5g)), (oA, .inl (oAC, (1, .inr (.inl oAf))))] H := by rw [eH]; exact hP
  have hS : va_S A s.heap H [] := by rw [eH]; exact hS
  rw [← eH]
  have hT : c.exceptionTable.toList = tableOf [(0, 17, 20, 19)] := vx_table (x := yL_isThere) B (atoms_spec (ws := Cond.codeWith yL_isThere cL_isThere 5 (some .int) [(0, 17, 20, 19)] :: BG) B.pre _ List.mem_cons_self)
  refine lv_aload_n hx hb dL_isThere_0 rfl (lv_at hl 3 rfl) ?_
  refine lv_iconst (v := 0) hx hb dL_isThere_1 (by decide +kernel) ?_
  refine lv_aload_n hx hb dL_isThere_2 rfl (lv_at hl 0 rfl) ?_
  refine lv_iload_n hx hb dL_isThere_3 rfl (lv_at hl 1 rfl) ?_
  refine lv_iload_n hx hb dL_isThere_4 rfl (lv_at hl 2 rfl) ?_
  have hFc := va_free (wc := [(x, .inr (12, xg)), (deA, .inl (deAC, (6, .inr (.inr (.inr (.inr deAF)))))), (de0, .inr (3, de0g)), (de1, .inr (3, de1g)), (de2, .inr (3, de2g)), (de3, .inr (3, de3g)), (de4, .inr (3, de4g)), (de5, .inr (3, de5g)), (oA, .inl (oAC, (1, .inr (.inl oAf))))]) hD hS hA [0, 1, 2, 3, 4, 5, 6, 7, 8] rfl
  refine va_calli (va_runV (As := [.int 0, .int p1]) (rest := [.int 0, .ref oA]) ⟨hx, hb, hml, hown, hts⟩ (gx68_X12_isThere l hlt dC dI _ p1 x deA de0 de1 de2 de3 de4 de5 oA liA chA xg h_x deAC deAF de0g h_de0 de1g h_de1 de2g h_de2 de3g h_de3 de4g h_de4 de5g h_de5 oAC oAf h_oA h_deA0 h_deA1 h_deA2 h_deA3 h_deA4 h_deA5 zk) (cwV 2 hts (gi_V wd_1842 wd_1843 wd_1844 wd_327 wd_1845) rfl rfl rfl (by decide +kernel) ⟨(Nat.le_of_ble_eq_true rfl), (Nat.le_of_ble_eq_true rfl)⟩) ⟨fun a U g mk q => by obtain ⟨q0, q1, qP, qK, qD, qT⟩ := q; exact ⟨q0, q1, qP, va_K.moved (u := U) (U := U.calling g mk a) (Vm.Alike.refl U.vm) qK, qD, th.moved (u := U) (U := U.calling g mk a) (Vm.Alike.refl U.vm) qT⟩, va_recv hK hP (ci := 12) (q0 := 0) rfl rfl, fun U hU hW => ⟨rfl, by rw [hU], by rw [hU]; exact hP, va_K.moved hW.alike hK, hD.weaken (fun _ _ _ _ => trivial), by rw [hU]; exact ((hth.kept hS.2.1).narrow hFc).moved hW.alike⟩⟩ rfl rfl hl.1 rfl (lv_room (Nat.le_of_ble_eq_true rfl)) dL_isThere_5 ⟨(Nat.le_of_ble_eq_true rfl), (Nat.le_of_ble_eq_true rfl)⟩) hS (fun q _ h => hFc q h) hFc (fun r u t H1 locs ht hvm hw hB hz1 hk1 hS => ?_)
  subst hw
  obtain ⟨fs_1, fs_2, fs_3, fs_4, fs_5, fs_6, fs_7, f_8, h_x, h_de0, h_de1, h_de2, h_de3, h_de4, h_de5, h_oA, hP1, hK1, hD1⟩ := hB
  rw [ht] at hP1
  have hD := hD1.weaken (fun k q _ h => hFc q.1 h)
  have hP := hP1
  generalize H1 = H at hP hS ⊢
  have hP : va_P (dC, dI) CL [(x, .inr (12, fs_1)), (deA, .inl (deAC, (6, .inr (.inr (.inr (.inr deAF)))))), (de0, .inr (3, fs_2)), (de1, .inr (3, fs_3)), (de2, .inr (3, fs_4)), (de3, .inr (3, fs_5)), (de4, .inr (3, fs_6)), (de5, .inr (3, fs_7)), (oA, .inl (oAC, (1, .inr (.inl f_8))))] H := hP
  have hD : va_D A [(x, .inr (12, fs_1)), (deA, .inl (deAC, (6, .inr (.inr (.inr (.inr deAF)))))), (de0, .inr (3, fs_2)), (de1, .inr (3, fs_3)), (de2, .inr (3, fs_4)), (de3, .inr (3, fs_5)), (de4, .inr (3, fs_6)), (de5, .inr (3, fs_7)), (oA, .inl (oAC, (1, .inr (.inl f_8))))] := hD
  refine W.widen (k := 1) (n := 6) (Nat.le_of_ble_eq_true rfl) (Nat.le_of_ble_eq_true rfl) ?_
  refine lv_if_eq (tgt := 15) hx hb dL_isThere_8 (by decide) (fun c9 => ?_) (fun c9 => ?_)
  rotate_left
  · first | exact absurd c9 (by decide +kernel) | exact absurd (by decide +kernel) c9
  refine lv_lconst (v := 0) hx hb dL_isThere_15 (by decide) ?_
  refine va_last hx hb hK hP hD hS 8 1 rfl rfl (vp_in_nI (n := 0) (N := 1) (by decide) (by decide)) dL_isThere_16 (fun H locs hP hD hS => ?_)
  obtain ⟨f_9, e9⟩ : ∃ z, z = vp_updL f_8 (0 : Int32).toNatClampNeg 0 := ⟨_, rfl⟩
  have h_oA : fa f_9 [(0, 0)] := by rw [e9, show (0 : Int32).toNatClampNeg = 0 by decide +kernel]; exact (fa.putL h_oA).sub [0] rfl
  have hP : va_P (dC, dI) CL [(x, .inr (12, fs_1)), (deA, .inl (deAC, (6, .inr (.inr (.inr (.inr deAF)))))), (de0, .inr (3, fs_2)), (de1, .inr (3, fs_3)), (de2, .inr (3, fs_4)), (de3, .inr (3, fs_5)), (de4, .inr (3, fs_6)), (de5, .inr (3, fs_7)), (oA, .inl (oAC, (1, .inr (.inl f_9))))] H := by rw [e9]; exact hP
  have hD : va_D A [(x, .inr (12, fs_1)), (deA, .inl (deAC, (6, .inr (.inr (.inr (.inr deAF)))))), (de0, .inr (3, fs_2)), (de1, .inr (3, fs_3)), (de2, .inr (3, fs_4)), (de3, .inr (3, fs_5)), (de4, .inr (3, fs_6)), (de5, .inr (3, fs_7)), (oA, .inl (oAC, (1, .inr (.inl f_9))))] := by rw [e9]; exact hD
  clear e9
  refine lv_goto (tgt := 24) hx hb dL_isThere_17 (by decide) ?_
  refine lv_iconst (v := 0) hx hb dL_isThere_24 (by decide +kernel) ?_
  refine W.widen (k := 1) (n := 6) (Nat.le_of_ble_eq_true rfl) (Nat.le_of_ble_eq_true rfl) ?_
  exact W.iret (v := 0) hx hb hr (fun t ht hW => ⟨⟨0, (), rfl, rfl, fs_1, fs_2, fs_3, fs_4, fs_5, fs_6, fs_7, f_9, h_x, h_de0, h_de1, h_de2, h_de3, h_de4, h_de5, h_oA, by rw [ht]; exact hP, va_K.moved hW.alike hK, hD⟩, hS.F ht⟩) hS.2.2 dL_isThere_25
set_option maxHeartbeats 4000000 in
set_option maxRecDepth 100000 in
theorem gx70_X13_isOne (l : Launch) (hlt : l.stackTraces = false) (dC : Nat → ClassId) (dI : Nat → Nat → Nat) (sz : Nat) (p1 : Int32) (m0 md ml mch : Nat) (m0g : List Value) (h_m0 : fx m0g 225 [(0, .int 0), (2, .int 0), (3, .int 0), (9, .int 0), (10, .int 0), (11, .int 0), (12, .int 0), (27, .int 0), (55, .ref md), (79, .int 0), (83, .int 0), (88, .ref ml), (95, .int 0), (138, .ref mch)]) (mdC : ClassId) (zk : p1 < 0) : Met l yX13_isOne (Cond.code yX13_isOne cX13_isOne 3 (some .boolean) :: BG) ({ frames := 2, cells := 0, slots := 0, locals := 33 }) (va_Pc [.ref m0, .int 0, .int p1] (fun U => U.heap.size = sz ∧ va_P (dC, dI) CL [(m0, .inr (13, m0g)), (md, .inl (mdC, (6, .inl (fun _ => 0))))] U.heap ∧ va_K (dC, dI) CL [(mdC, .boolean)] U ∧ va_D (fun _ => True) [(m0, .inr (13, m0g)), (md, .inl (mdC, (6, .inl (fun _ => 0))))] ∧ th (va_A [(m0, .inr (13, m0g)), (md, .inl (mdC, (6, .inl (fun _ => 0))))] sz) U U.heap)) (va_Qi (fun (r : Int32) (_ : Unit) => r = 0) (fun _ t => ∃ (m0y : List Value), fx m0y 225 [(0, .int 0), (2, .int 0), (3, .int 0), (9, .int 0), (10, .int 0), (11, .int 0), (12, .int 0), (27, .int 0), (55, .ref md), (79, .int 0), (83, .int 0), (88, .ref ml), (95, .int 0), (138, .ref mch)] ∧ va_P (dC, dI) CL [(m0, .inr (13, m0y)), (md, .inl (mdC, (6, .inl (fun _ => 0))))] t.heap ∧ va_K (dC, dI) CL [(mdC, .boolean)] t ∧ va_D (va_A [(m0, .inr (13, m0g)), (md, .inl (mdC, (6, .inl (fun _ => 0))))] sz) [(m0, .inr (13, m0y)), (md, .inl (mdC, (6, .inl (fun _ => 0))))]) (va_A [(m0, .inr (13, m0g)), (md, .inl (mdC, (6, .inl (fun _ => 0))))] sz)) 0 0 (va_A [(m0, .inr (13, m0g)), (md, .inl (mdC, (6, .inl (fun _ => 0))))] sz) := by
  refine Met.ofW (cc := cX13_isOne) (maxL := 3) (ret := (some .boolean)) (by decide) rfl ?_
  intro p e s m args below meth c s₁ B hml hv
  obtain ⟨rfl, hsz, hP, hK, hD0, hth⟩ := hv
  have hx := B.exec
  have hb := B.bytes
  have hr := B.returns
  have hts : ∀ w ∈ BG, w.before _ s = true := fun w h => atoms_spec (ws := Cond.code yX13_isOne cX13_isOne 3 (some .boolean) :: BG) B.pre w (List.mem_cons_of_mem _ h)
  have hown : s.vm.findClass RX13 = some m.cls := findClass_of_methodNamed B.named
  have hlocks := B.notSynchronized
  subst hsz
  have hD := hD0.self (sz := s.heap.size)
  generalize hAe : va_A [(m0, .inr (13, m0g)), (md, .inl (mdC, (6, .inl (fun _ => 0))))] s.heap.size = A at hD hth ⊢
  have hA : ∀ q : Nat, s.heap.size ≤ q → A q := fun q h => by rw [← hAe]; exact Or.inr h
  have hS : va_S A s.heap s.heap [] := va_S.rf
  have hl := lv_entry ([.ref m0, .int 0, .int p1]) (n := 3) (Nat.le_of_ble_eq_true rfl)
  rw [lg_entry_eq]
  generalize (lg_sl ([.ref m0, .int 0, .int p1]) ++ List.replicate (3 - (lg_sl ([.ref m0, .int 0, .int p1])).length) Slot.unset).toArray = ls at hl ⊢
  have hl : lv_has ls 3 [(0, .ref m0), (1, .int 0), (2, .int p1)] := hl
  obtain ⟨H, eH⟩ : ∃ z, z = s.heap := ⟨_, rfl⟩
  have hP : va_P (dC, dI) CL [(m0, .inr (13, m0g)), (md, .inl (mdC, (6, .inl (fun _ => 0))))] H := by rw [eH]; exact hP
  have hS : va_S A s.heap H [] := by rw [eH]; exact hS
  rw [← eH]
  refine lv_iload_n hx hb dX13_isOne_0 rfl (lv_at hl 1 rfl) ?_
  refine lv_if_ne (tgt := 12) hx hb dX13_isOne_1 (by decide) (fun c9 => ?_) (fun c9 => ?_)
  · first | exact absurd c9 (by decide +kernel) | exact absurd (by decide +kernel) c9
  refine lv_aload_n hx hb dX13_isOne_4 rfl (lv_at hl 0 rfl) ?_
  refine lv_iload_n hx hb dX13_isOne_5 rfl (lv_at hl 2 rfl) ?_
  have hFc := va_free (wc := [(m0, .inr (13, m0g)), (md, .inl (mdC, (6, .inl (fun _ => 0))))]) hD hS hA [0, 1] rfl
  refine va_calli (va_runV (As := [.int p1]) (rest := []) ⟨hx, hb, hml, hown, hts⟩ (ct_X13_isDesign l dC dI _ p1 m0 m0g md mdC (h_m0.sub [8] rfl)) (cwV 1 hts (gi_V wd_4076 wd_4078 wd_215 wd_340 wd_4079) rfl rfl rfl (by decide +kernel) ⟨(Nat.le_of_ble_eq_true rfl), (Nat.le_of_ble_eq_true rfl)⟩) ⟨fun a U g mk q => by obtain ⟨q0, q1, qP, qK, qD⟩ := q; exact ⟨q0, q1, qP, va_K.moved (u := U) (U := U.calling g mk a) (Vm.Alike.refl U.vm) qK, qD⟩, va_recv hK hP (ci := 13) (q0 := 0) rfl rfl, fun U hU hW => ⟨rfl, by rw [hU], by rw [hU]; exact hP, va_K.moved hW.alike hK, hD.weaken (fun _ _ _ _ => trivial)⟩⟩ rfl rfl hl.1 rfl (lv_room (Nat.le_of_ble_eq_true rfl)) dX13_isOne_6 ⟨(Nat.le_of_ble_eq_true rfl), (Nat.le_of_ble_eq_true rfl)⟩) hS (fun q _ h => hFc q h) hFc (fun r u t H1 locs ht hvm hw hB hz1 hk1 hS => ?_)
  subst hw
  obtain ⟨hP1, hK1, hD1⟩ := hB
  rw [ht] at hP1
  have hD := hD1.weaken (fun k q _ h => hFc q.1 h)
  have hP := hP1
  generalize H1 = H at hP hS ⊢
  have hP : va_P (dC, dI) CL [(m0, .inr (13, m0g)), (md, .inl (mdC, (6, .inl (fun _ => 0))))] H := hP
  have hD : va_D A [(m0, .inr (13, m0g)), (md, .inl (mdC, (6, .inl (fun _ => 0))))] := hD
  refine lv_goto (tgt := 30) hx hb dX13_isOne_9 (by decide) ?_
  exact W.zret (v := 0) hx hb hr rfl (fun t ht hW => ⟨⟨0, (), rfl, rfl, m0g, h_m0, by rw [ht]; exact hP, va_K.moved hW.alike hK, hD⟩, hS.F ht⟩) hS.2.2 dX13_isOne_30
set_option maxHeartbeats 4000000 in
set_option maxRecDepth 100000 in
theorem gx69_X13_isThere (l : Launch) (hlt : l.stackTraces = false) (dC : Nat → ClassId) (dI : Nat → Nat → Nat) (sz : Nat) (p1 : Int32) (m0 md ml mch : Nat) (m0g : List Value) (h_m0 : fx m0g 225 [(0, .int 0), (2, .int 0), (3, .int 0), (9, .int 0), (10, .int 0), (11, .int 0), (12, .int 0), (27, .int 0), (55, .ref md), (79, .int 0), (83, .int 0), (88, .ref ml), (95, .int 0), (138, .ref mch)]) (mdC : ClassId) (zk : p1 < 0) : Met l yX13_isThere (Cond.code yX13_isThere cX13_isThere 3 (some .boolean) :: BG) ({ frames := 3, cells := 0, slots := 0, locals := 55 }) (va_Pc [.ref m0, .int 0, .int p1] (fun U => U.heap.size = sz ∧ va_P (dC, dI) CL [(m0, .inr (13, m0g)), (md, .inl (mdC, (6, .inl (fun _ => 0))))] U.heap ∧ va_K (dC, dI) CL [(mdC, .boolean)] U ∧ va_D (fun _ => True) [(m0, .inr (13, m0g)), (md, .inl (mdC, (6, .inl (fun _ => 0))))] ∧ th (va_A [(m0, .inr (13, m0g)), (md, .inl (mdC, (6, .inl (fun _ => 0))))] sz) U U.heap)) (va_Qi (fun (r : Int32) (_ : Unit) => r = 0) (fun _ t => ∃ (m0y : List Value), fx m0y 225 [(0, .int 0), (2, .int 0), (3, .int 0), (9, .int 0), (10, .int 0), (11, .int 0), (12, .int 0), (27, .int 0), (55, .ref md), (79, .int 0), (83, .int 0), (88, .ref ml), (95, .int 0), (138, .ref mch)] ∧ va_P (dC, dI) CL [(m0, .inr (13, m0y)), (md, .inl (mdC, (6, .inl (fun _ => 0))))] t.heap ∧ va_K (dC, dI) CL [(mdC, .boolean)] t ∧ va_D (va_A [(m0, .inr (13, m0g)), (md, .inl (mdC, (6, .inl (fun _ => 0))))] sz) [(m0, .inr (13, m0y)), (md, .inl (mdC, (6, .inl (fun _ => 0))))]) (va_A [(m0, .inr (13, m0g)), (md, .inl (mdC, (6, .inl (fun _ => 0))))] sz)) 0 0 (va_A [(m0, .inr (13, m0g)), (md, .inl (mdC, (6, .inl (fun _ => 0))))] sz) := by
  refine Met.ofW (cc := cX13_isThere) (maxL := 3) (ret := (some .boolean)) (by decide) rfl ?_
  intro p e s m args below meth c s₁ B hml hv
  obtain ⟨rfl, hsz, hP, hK, hD0, hth⟩ := hv
  have hx := B.exec
  have hb := B.bytes
  have hr := B.returns
  have hts : ∀ w ∈ BG, w.before _ s = true := fun w h => atoms_spec (ws := Cond.code yX13_isThere cX13_isThere 3 (some .boolean) :: BG) B.pre w (List.mem_cons_of_mem _ h)
  have hown : s.vm.findClass RX13 = some m.cls := findClass_of_methodNamed B.named
  have hlocks := B.notSynchronized
  subst hsz
  have hD := hD0.self (sz := s.heap.size)
  generalize hAe : va_A [(m0, .inr (13, m0g)), (md, .inl (mdC, (6, .inl (fun _ => 0))))] s.heap.size = A at hD hth ⊢
  have hA : ∀ q : Nat, s.heap.size ≤ q → A q := fun q h => by rw [← hAe]; exact Or.inr h
  have hS : va_S A s.heap s.heap [] := va_S.rf
  have hl := lv_entry ([.ref m0, .int 0, .int p1]) (n := 3) (Nat.le_of_ble_eq_true rfl)
  rw [lg_entry_eq]
  generalize (lg_sl ([.ref m0, .int 0, .int p1]) ++ List.replicate (3 - (lg_sl ([.ref m0, .int 0, .int p1])).length) Slot.unset).toArray = ls at hl ⊢
  have hl : lv_has ls 3 [(0, .ref m0), (1, .int 0), (2, .int p1)] := hl
  obtain ⟨H, eH⟩ : ∃ z, z = s.heap := ⟨_, rfl⟩
  have hP : va_P (dC, dI) CL [(m0, .inr (13, m0g)), (md, .inl (mdC, (6, .inl (fun _ => 0))))] H := by rw [eH]; exact hP
  have hS : va_S A s.heap H [] := by rw [eH]; exact hS
  rw [← eH]
  refine lv_aload_n hx hb dX13_isThere_0 rfl (lv_at hl 0 rfl) ?_
  refine lv_iload_n hx hb dX13_isThere_1 rfl (lv_at hl 1 rfl) ?_
  refine lv_iconst (v := 0) hx hb dX13_isThere_2 (by decide +kernel) ?_
  refine lv_iconst (v := 2) hx hb dX13_isThere_3 (by decide +kernel) ?_
  have hFc := va_free (wc := [(m0, .inr (13, m0g)), (md, .inl (mdC, (6, .inl (fun _ => 0))))]) hD hS hA [0, 1] rfl
  refine va_calli (va_runS (As := [.int 0, .int 0, .int 2]) (rest := [.ref m0]) ⟨hx, hb, hml, hown, hts⟩ (gx48_X13_within l hlt dC dI _ m0 md ml mch m0g h_m0 mdC) (cwS 3 hts (gi_S wd_3825 wd_3826 wd_340 wd_3827) rfl rfl rfl (by decide +kernel) ⟨(Nat.le_of_ble_eq_true rfl), (Nat.le_of_ble_eq_true rfl)⟩) ⟨fun a U g mk q => by obtain ⟨q0, q1, qP, qK, qD, qT⟩ := q; exact ⟨q0, q1, qP, va_K.moved (u := U) (U := U.calling g mk a) (Vm.Alike.refl U.vm) qK, qD, th.moved (u := U) (U := U.calling g mk a) (Vm.Alike.refl U.vm) qT⟩, fun U hU hW => ⟨rfl, by rw [hU], by rw [hU]; exact hP, va_K.moved hW.alike hK, hD.weaken (fun _ _ _ _ => trivial), by rw [hU]; exact ((hth.kept hS.2.1).narrow hFc).moved hW.alike⟩⟩ rfl rfl hl.1 rfl (lv_room (Nat.le_of_ble_eq_true rfl)) dX13_isThere_4 ⟨(Nat.le_of_ble_eq_true rfl), (Nat.le_of_ble_eq_true rfl)⟩) hS (fun q _ h => hFc q h) hFc (fun r u t H1 locs ht hvm hw hB hz1 hk1 hS => ?_)
  subst hw
  obtain ⟨fs_1, h_m0, hP1, hK1, hD1⟩ := hB
  rw [ht] at hP1
  have hD := hD1.weaken (fun k q _ h => hFc q.1 h)
  have hP := hP1
  generalize H1 = H at hP hS ⊢
  have hP : va_P (dC, dI) CL [(m0, .inr (13, fs_1)), (md, .inl (mdC, (6, .inl (fun _ => 0))))] H := hP
  have hD : va_D A [(m0, .inr (13, fs_1)), (md, .inl (mdC, (6, .inl (fun _ => 0))))] := hD
  refine lv_if_eq (tgt := 14) hx hb dX13_isThere_7 (by decide) (fun c9 => ?_) (fun c9 => ?_)
  · first | exact absurd c9 (by decide +kernel) | exact absurd (by decide +kernel) c9
  refine lv_iconst (v := 0) hx hb dX13_isThere_10 (by decide +kernel) ?_
  refine lv_goto (tgt := 15) hx hb dX13_isThere_11 (by decide) ?_
  refine va_put (D := (dC, dI)) (ci := 13) (v := .int 0) (ty := tyX13 0) (C := RX13) (T := TX13) (N := 225) hx hb hts inX13 tyX13 tyX13_ok nmX13 hown hK hP hD hS 0 rfl rfl 0 (by decide) (hts (.fieldLink RX13 1 "ChipFlowModel" "code" "I") wd_3032) (fun _ h9 => h9) rfl (by decide +kernel) rfl rfl (by rw [h_m0.1]; decide) dX13_isThere_15 (fun H locs hP hD hS => ?_)
  obtain ⟨fs_2, e9⟩ : ∃ z, z = fs_1.set 0 (.int 0) := ⟨_, rfl⟩
  have h_m0 : fx fs_2 225 [(0, .int 0), (2, .int 0), (3, .int 0), (9, .int 0), (10, .int 0), (11, .int 0), (12, .int 0), (27, .int 0), (55, .ref md), (79, .int 0), (83, .int 0), (88, .ref ml), (95, .int 0), (138, .ref mch)] := by rw [e9]; exact (h_m0.put (F' := [(0, .int 0), (2, .int 0), (3, .int 0), (9, .int 0), (10, .int 0), (11, .int 0), (12, .int 0), (27, .int 0), (55, .ref md), (79, .int 0), (83, .int 0), (88, .ref ml), (95, .int 0), (138, .ref mch)]) (by decide) _ rfl).sub [0, 1, 2, 3, 4, 5, 6, 7, 8, 9, 10, 11, 12, 13] rfl
  have hP : va_P (dC, dI) CL [(m0, .inr (13, fs_2)), (md, .inl (mdC, (6, .inl (fun _ => 0))))] H := by rw [e9]; exact hP
  have hD : va_D A [(m0, .inr (13, fs_2)), (md, .inl (mdC, (6, .inl (fun _ => 0))))] := by rw [e9]; exact hD
  clear e9
  refine lv_aload_n hx hb dX13_isThere_18 rfl (lv_at hl 0 rfl) ?_
  refine va_get (D := (dC, dI)) (ci := 13) (v := .int 0) (C := RX13) (T := TX13) (N := 225) hx hb hts inX13 hown hK hP 0 rfl rfl 0 (by decide) (hts (.fieldLink RX13 1 "ChipFlowModel" "code" "I") wd_3032) (fun _ h9 => h9) (h_m0.get 0 rfl) dX13_isThere_19 ?_
  refine lv_if_ne (tgt := 38) hx hb dX13_isThere_22 (by decide) (fun c9 => ?_) (fun c9 => ?_)
  · first | exact absurd c9 (by decide +kernel) | exact absurd (by decide +kernel) c9
  refine lv_aload_n hx hb dX13_isThere_25 rfl (lv_at hl 0 rfl) ?_
  refine lv_iload_n hx hb dX13_isThere_26 rfl (lv_at hl 1 rfl) ?_
  refine lv_iload_n hx hb dX13_isThere_27 rfl (lv_at hl 2 rfl) ?_
  have hFc := va_free (wc := [(m0, .inr (13, fs_2)), (md, .inl (mdC, (6, .inl (fun _ => 0))))]) hD hS hA [0, 1] rfl
  refine va_calli (va_runV (As := [.int 0, .int p1]) (rest := []) ⟨hx, hb, hml, hown, hts⟩ (gx70_X13_isOne l hlt dC dI _ p1 m0 md ml mch fs_2 h_m0 mdC zk) (cwV 2 hts (gi_V wd_4072 wd_4074 wd_214 wd_340 wd_4075) rfl rfl rfl (by decide +kernel) ⟨(Nat.le_of_ble_eq_true rfl), (Nat.le_of_ble_eq_true rfl)⟩) ⟨fun a U g mk q => by obtain ⟨q0, q1, qP, qK, qD, qT⟩ := q; exact ⟨q0, q1, qP, va_K.moved (u := U) (U := U.calling g mk a) (Vm.Alike.refl U.vm) qK, qD, th.moved (u := U) (U := U.calling g mk a) (Vm.Alike.refl U.vm) qT⟩, va_recv hK hP (ci := 13) (q0 := 0) rfl rfl, fun U hU hW => ⟨rfl, by rw [hU], by rw [hU]; exact hP, va_K.moved hW.alike hK, hD.weaken (fun _ _ _ _ => trivial), by rw [hU]; exact ((hth.kept hS.2.1).narrow hFc).moved hW.alike⟩⟩ rfl rfl hl.1 rfl (lv_room (Nat.le_of_ble_eq_true rfl)) dX13_isThere_28 ⟨(Nat.le_of_ble_eq_true rfl), (Nat.le_of_ble_eq_true rfl)⟩) hS (fun q _ h => hFc q h) hFc (fun r u t H1 locs ht hvm hw hB hz1 hk1 hS => ?_)
  subst hw
  obtain ⟨fs_3, h_m0, hP1, hK1, hD1⟩ := hB
  rw [ht] at hP1
  have hD := hD1.weaken (fun k q _ h => hFc q.1 h)
  have hP := hP1
  generalize H1 = H at hP hS ⊢
  have hP : va_P (dC, dI) CL [(m0, .inr (13, fs_3)), (md, .inl (mdC, (6, .inl (fun _ => 0))))] H := hP
  have hD : va_D A [(m0, .inr (13, fs_3)), (md, .inl (mdC, (6, .inl (fun _ => 0))))] := hD
  refine lv_if_eq (tgt := 38) hx hb dX13_isThere_31 (by decide) (fun c9 => ?_) (fun c9 => ?_)
  rotate_left
  · first | exact absurd c9 (by decide +kernel) | exact absurd (by decide +kernel) c9
  refine lv_iconst (v := 0) hx hb dX13_isThere_38 (by decide +kernel) ?_
  exact W.zret (v := 0) hx hb hr rfl (fun t ht hW => ⟨⟨0, (), rfl, rfl, fs_3, h_m0, by rw [ht]; exact hP, va_K.moved hW.alike hK, hD⟩, hS.F ht⟩) hS.2.2 dX13_isThere_39
set_option maxHeartbeats 4000000 in
set_option maxRecDepth 100000 in
theorem gx71_X13_thrown (l : Launch) (hlt : l.stackTraces = false) (dC : Nat → ClassId) (dI : Nat → Nat → Nat) (sz : Nat) (m0 md ml mch : Nat) (m0g : List Value) (h_m0 : fx m0g 225 [(0, .int 0), (2, .int 0), (3, .int 0), (9, .int 0), (10, .int 0), (11, .int 0), (12, .int 0), (27, .int 0), (55, .ref md), (79, .int 0), (83, .int 0), (88, .ref ml), (95, .int 0), (138, .ref mch)]) : Met l yX13_thrown (Cond.code yX13_thrown cX13_thrown 1 (some .int) :: BG) ({ frames := 1, cells := 0, slots := 0, locals := 12 }) (va_Pc [.ref m0] (fun U => U.heap.size = sz ∧ va_P (dC, dI) CL [(m0, .inr (13, m0g))] U.heap ∧ va_K (dC, dI) CL [] U ∧ va_D (fun _ => True) [(m0, .inr (13, m0g))] ∧ th (va_A [(m0, .inr (13, m0g))] sz) U U.heap)) (va_Qi (fun (r : Int32) (_ : Unit) => r = 0) (fun _ t => ∃ (m0y : List Value), fx m0y 225 [(0, .int 0), (2, .int 0), (3, .int 0), (9, .int 0), (10, .int 0), (11, .int 0), (12, .int 0), (27, .int 0), (55, .ref md), (79, .int 0), (83, .int 0), (88, .ref ml), (95, .int 0), (138, .ref mch)] ∧ va_P (dC, dI) CL [(m0, .inr (13, m0y))] t.heap ∧ va_K (dC, dI) CL [] t ∧ va_D (va_A [(m0, .inr (13, m0g))] sz) [(m0, .inr (13, m0y))]) (va_A [(m0, .inr (13, m0g))] sz)) 0 0 (va_A [(m0, .inr (13, m0g))] sz) := by
  refine Met.ofW (cc := cX13_thrown) (maxL := 1) (ret := (some .int)) (by decide) rfl ?_
  intro p e s m args below meth c s₁ B hml hv
  obtain ⟨rfl, hsz, hP, hK, hD0, hth⟩ := hv
  have hx := B.exec
  have hb := B.bytes
  have hr := B.returns
  have hts : ∀ w ∈ BG, w.before _ s = true := fun w h => atoms_spec (ws := Cond.code yX13_thrown cX13_thrown 1 (some .int) :: BG) B.pre w (List.mem_cons_of_mem _ h)
  have hown : s.vm.findClass RX13 = some m.cls := findClass_of_methodNamed B.named
  have hlocks := B.notSynchronized
  subst hsz
  have hD := hD0.self (sz := s.heap.size)
  generalize hAe : va_A [(m0, .inr (13, m0g))] s.heap.size = A at hD hth ⊢
  have hA : ∀ q : Nat, s.heap.size ≤ q → A q := fun q h => by rw [← hAe]; exact Or.inr h
  have hS : va_S A s.heap s.heap [] := va_S.rf
  have hl := lv_entry ([.ref m0]) (n := 1) (Nat.le_of_ble_eq_true rfl)
  rw [lg_entry_eq]
  generalize (lg_sl ([.ref m0]) ++ List.replicate (1 - (lg_sl ([.ref m0])).length) Slot.unset).toArray = ls at hl ⊢
  have hl : lv_has ls 1 [(0, .ref m0)] := hl
  obtain ⟨H, eH⟩ : ∃ z, z = s.heap := ⟨_, rfl⟩
  have hP : va_P (dC, dI) CL [(m0, .inr (13, m0g))] H := by rw [eH]; exact hP
  have hS : va_S A s.heap H [] := by rw [eH]; exact hS
  rw [← eH]
  refine lv_aload_n hx hb dX13_thrown_0 rfl (lv_at hl 0 rfl) ?_
  refine va_get (D := (dC, dI)) (ci := 13) (v := .int 0) (C := RX13) (T := TX13) (N := 225) hx hb hts inX13 hown hK hP 0 rfl rfl 0 (by decide) (hts (.fieldLink RX13 1 "ChipFlowModel" "code" "I") wd_3032) (fun _ h9 => h9) (h_m0.get 0 rfl) dX13_thrown_1 ?_
  exact W.iret (v := 0) hx hb hr (fun t ht hW => ⟨⟨0, (), rfl, rfl, m0g, h_m0, by rw [ht]; exact hP, va_K.moved hW.alike hK, hD⟩, hS.F ht⟩) hS.2.2 dX13_thrown_4
set_option maxHeartbeats 4000000 in
set_option maxRecDepth 100000 in
theorem gx73_X12_isThere (l : Launch) (hlt : l.stackTraces = false) (dC : Nat → ClassId) (dI : Nat → Nat → Nat) (sz : Nat) (p1 : Int32) (x deA de0 de1 de2 de3 de4 de5 oA liA chA : Nat) (xg : List Value) (h_x : fx xg 17 [(7, .ref deA), (8, .ref liA), (9, .ref chA)]) (deAC : ClassId) (deAF : Nat → Option Nat) (de0g : List Value) (h_de0 : fx de0g 16 [(0, .int 0)]) (de1g : List Value) (h_de1 : fx de1g 16 [(0, .int 0)]) (de2g : List Value) (h_de2 : fx de2g 16 [(0, .int 0)]) (de3g : List Value) (h_de3 : fx de3g 16 [(0, .int 0)]) (de4g : List Value) (h_de4 : fx de4g 16 [(0, .int 0)]) (de5g : List Value) (h_de5 : fx de5g 16 [(0, .int 0)]) (oAC : ClassId) (oAf : Nat → Int64) (h_oA : fa oAf []) (h_deA0 : deAF 0 = some de0) (h_deA1 : deAF 1 = some de1) (h_deA2 : deAF 2 = some de2) (h_deA3 : deAF 3 = some de3) (h_deA4 : deAF 4 = some de4) (h_deA5 : deAF 5 = some de5) (zk : ¬ p1 < 0) (zg : 6 ≤ p1) : Met l yX12_isThere (Cond.code yX12_isThere cX12_isThere 3 (some .boolean) :: BG) ({ frames := 7, cells := 1, slots := 6, locals := 130 }) (va_Pc [.ref x, .int 0, .int p1] (fun U => U.heap.size = sz ∧ va_P (dC, dI) CL [(x, .inr (12, xg)), (deA, .inl (deAC, (6, .inr (.inr (.inr (.inr deAF)))))), (de0, .inr (3, de0g)), (de1, .inr (3, de1g)), (de2, .inr (3, de2g)), (de3, .inr (3, de3g)), (de4, .inr (3, de4g)), (de5, .inr (3, de5g)), (oA, .inl (oAC, (1, .inr (.inl oAf))))] U.heap ∧ va_K (dC, dI) CL [(deAC, .object "ChipFlow$Design"), (oAC, .long)] U ∧ va_D (fun _ => True) [(x, .inr (12, xg)), (deA, .inl (deAC, (6, .inr (.inr (.inr (.inr deAF)))))), (de0, .inr (3, de0g)), (de1, .inr (3, de1g)), (de2, .inr (3, de2g)), (de3, .inr (3, de3g)), (de4, .inr (3, de4g)), (de5, .inr (3, de5g)), (oA, .inl (oAC, (1, .inr (.inl oAf))))] ∧ th (va_A [(x, .inr (12, xg)), (deA, .inl (deAC, (6, .inr (.inr (.inr (.inr deAF)))))), (de0, .inr (3, de0g)), (de1, .inr (3, de1g)), (de2, .inr (3, de2g)), (de3, .inr (3, de3g)), (de4, .inr (3, de4g)), (de5, .inr (3, de5g)), (oA, .inl (oAC, (1, .inr (.inl oAf))))] sz) U U.heap)) (va_Qi (fun (r : Int32) (_ : Unit) => r = 0) (fun _ t => ∃ (xy : List Value) (de0y : List Value) (de1y : List Value) (de2y : List Value) (de3y : List Value) (de4y : List Value) (de5y : List Value) (oAy : Nat → Int64), fx xy 17 [(7, .ref deA), (8, .ref liA), (9, .ref chA)] ∧ fx de0y 16 [(0, .int 0)] ∧ fx de1y 16 [(0, .int 0)] ∧ fx de2y 16 [(0, .int 0)] ∧ fx de3y 16 [(0, .int 0)] ∧ fx de4y 16 [(0, .int 0)] ∧ fx de5y 16 [(0, .int 0)] ∧ fa oAy [] ∧ va_P (dC, dI) CL [(x, .inr (12, xy)), (deA, .inl (deAC, (6, .inr (.inr (.inr (.inr deAF)))))), (de0, .inr (3, de0y)), (de1, .inr (3, de1y)), (de2, .inr (3, de2y)), (de3, .inr (3, de3y)), (de4, .inr (3, de4y)), (de5, .inr (3, de5y)), (oA, .inl (oAC, (1, .inr (.inl oAy))))] t.heap ∧ va_K (dC, dI) CL [(deAC, .object "ChipFlow$Design"), (oAC, .long)] t ∧ va_D (va_A [(x, .inr (12, xg)), (deA, .inl (deAC, (6, .inr (.inr (.inr (.inr deAF)))))), (de0, .inr (3, de0g)), (de1, .inr (3, de1g)), (de2, .inr (3, de2g)), (de3, .inr (3, de3g)), (de4, .inr (3, de4g)), (de5, .inr (3, de5g)), (oA, .inl (oAC, (1, .inr (.inl oAf))))] sz) [(x, .inr (12, xy)), (deA, .inl (deAC, (6, .inr (.inr (.inr (.inr deAF)))))), (de0, .inr (3, de0y)), (de1, .inr (3, de1y)), (de2, .inr (3, de2y)), (de3, .inr (3, de3y)), (de4, .inr (3, de4y)), (de5, .inr (3, de5y)), (oA, .inl (oAC, (1, .inr (.inl oAy))))]) (va_A [(x, .inr (12, xg)), (deA, .inl (deAC, (6, .inr (.inr (.inr (.inr deAF)))))), (de0, .inr (3, de0g)), (de1, .inr (3, de1g)), (de2, .inr (3, de2g)), (de3, .inr (3, de3g)), (de4, .inr (3, de4g)), (de5, .inr (3, de5g)), (oA, .inl (oAC, (1, .inr (.inl oAf))))] sz)) 1 6 (va_A [(x, .inr (12, xg)), (deA, .inl (deAC, (6, .inr (.inr (.inr (.inr deAF)))))), (de0, .inr (3, de0g)), (de1, .inr (3, de1g)), (de2, .inr (3, de2g)), (de3, .inr (3, de3g)), (de4, .inr (3, de4g)), (de5, .inr (3, de5g)), (oA, .inl (oAC, (1, .inr (.inl oAf))))] sz) := by
  refine Met.ofW (cc := cX12_isThere) (maxL := 3) (ret := (some .boolean)) (by decide) rfl ?_
  intro p e s m args below meth c s₁ B hml hv
  obtain ⟨rfl, hsz, hP, hK, hD0, hth⟩ := hv
  have hx := B.exec
  have hb := B.bytes
  have hr := B.returns
  have hts : ∀ w ∈ BG, w.before _ s = true := fun w h => atoms_spec (ws := Cond.code yX12_isThere cX12_isThere 3 (some .boolean) :: BG) B.pre w (List.mem_cons_of_mem _ h)
  have hown : s.vm.findClass RX12 = some m.cls := findClass_of_methodNamed B.named
  have hlocks := B.notSynchronized
  subst hsz
  have hD := hD0.self (sz := s.heap.size)
  generalize hAe : va_A [(x, .inr (12, xg)), (deA, .inl (deAC, (6, .inr (.inr (.inr (.inr deAF)))))), (de0, .inr (3, de0g)), (de1, .inr (3, de1g)), (de2, .inr (3, de2g)), (de3, .inr (3, de3g)), (de4, .inr (3, de4g)), (de5, .inr (3, de5g)), (oA, .inl (oAC, (1, .inr (.inl oAf))))] s.heap.size = A at hD hth ⊢
  have hA : ∀ q : Nat, s.heap.size ≤ q → A q := fun q h => by rw [← hAe]; exact Or.inr h
  have hS : va_S A s.heap s.heap [] := va_S.rf
  have hl := lv_entry ([.ref x, .int 0, .int p1]) (n := 3) (Nat.le_of_ble_eq_true rfl)
  rw [lg_entry_eq]
  generalize (lg_sl ([.ref x, .int 0, .int p1]) ++ List.replicate (3 - (lg_sl ([.ref x, .int 0, .int p1])).length) Slot.unset).toArray = ls at hl ⊢
  have hl : lv_has ls 3 [(0, .ref x), (1, .int 0), (2, .int p1)] := hl
  obtain ⟨H, eH⟩ : ∃ z, z = s.heap := ⟨_, rfl⟩
  have hP : va_P (dC, dI) CL [(x, .inr (12, xg)), (deA, .inl (deAC, (6, .inr (.inr (.inr (.inr deAF)))))), (de0, .inr (3, de0g)), (de1, .inr (3, de1g)), (de2, .inr (3, de2g)), (de3, .inr (3, de3g)), (de4, .inr (3, de4g)), (de5, .inr (3, de5g)), (oA, .inl (oAC, (1, .inr (.inl oAf))))] H := by rw [eH]; exact hP
  have hS : va_S A s.heap H [] := by rw [eH]; exact hS
  rw [← eH]
  refine lv_iload_n hx hb dX12_isThere_0 rfl (lv_at hl 1 rfl) ?_
  refine lv_if_lt (tgt := 13) hx hb dX12_isThere_1 (by decide) (fun c9 => ?_) (fun c9 => ?_)
  · first | exact absurd c9 (by decide +kernel) | exact absurd (by decide +kernel) c9
  refine lv_iload_n hx hb dX12_isThere_4 rfl (lv_at hl 1 rfl) ?_
  refine lv_iconst (v := 2) hx hb dX12_isThere_5 (by decide +kernel) ?_
  refine lv_icmp_gt (tgt := 13) hx hb dX12_isThere_6 (by decide) (fun c9 => ?_) (fun c9 => ?_)
  · first | exact absurd c9 (by decide +kernel) | exact absurd (by decide +kernel) c9
  refine lv_iconst (v := 1) hx hb dX12_isThere_9 (by decide +kernel) ?_
  refine lv_goto (tgt := 14) hx hb dX12_isThere_10 (by decide) ?_
  have hF0 : ∀ q, va_A [] H.size q → A q := fun q h => h.elim (fun ⟨k9, e9, h9⟩ => by simp at h9) (fun h9 => hA q (Nat.le_trans hS.1 h9))
  refine vx_callv (vx_runS (As := [.int 1]) (rest := []) ⟨hx, hb, hml, hown, hts⟩ (ct_X12_needRange l hlt H.size 1) (cwS 1 hts (gi_S wd_1328 wd_1329 wd_327 wd_1330) rfl rfl rfl (by decide +kernel) ⟨(Nat.le_of_ble_eq_true rfl), (Nat.le_of_ble_eq_true rfl)⟩) ⟨fun a U g mk q => ⟨q.1, q.2.1, th.moved (u := U) (U := U.calling g mk a) (Vm.Alike.refl U.vm) q.2.2⟩, fun U hU hW => ⟨rfl, by rw [hU], by rw [hU]; exact ((hth.kept hS.2.1).narrow hF0).moved hW.alike⟩⟩ rfl rfl hl.1 rfl (lv_room (Nat.le_of_ble_eq_true rfl)) dX12_isThere_14 ⟨(Nat.le_of_ble_eq_true rfl), (Nat.le_of_ble_eq_true rfl)⟩) hS (fun q _ h => hF0 q h) hF0 (fun q _ h => hF0 q h) (fun E ce q9 u t H1 locs ht hvm hp hB hz hk hS hce hcv hcl => absurd hp (by decide +kernel)) (fun u t H1 locs ht hvm hp hB hz hk hS => ?_)
  have hP : va_P (dC, dI) CL [(x, .inr (12, xg)), (deA, .inl (deAC, (6, .inr (.inr (.inr (.inr deAF)))))), (de0, .inr (3, de0g)), (de1, .inr (3, de1g)), (de2, .inr (3, de2g)), (de3, .inr (3, de3g)), (de4, .inr (3, de4g)), (de5, .inr (3, de5g)), (oA, .inl (oAC, (1, .inr (.inl oAf))))] H1 := hP.kept (fun k q h9 => hk _ (vx_lt hP h9) (fun h8 => h8.elim (fun ⟨k9, e9, h7⟩ => by simp at h7) (fun h7 => absurd (vx_lt hP h9) (Nat.not_lt.mpr h7))))
  generalize H1 = H at hP hS ⊢
  refine W.widen (k := 1) (n := 6) (Nat.le_of_ble_eq_true rfl) (Nat.le_of_ble_eq_true rfl) ?_
  refine lv_iload_n hx hb dX12_isThere_17 rfl (lv_at hl 1 rfl) ?_
  refine lv_if_ne (tgt := 49) hx hb dX12_isThere_18 (by decide) (fun c9 => ?_) (fun c9 => ?_)
  · first | exact absurd c9 (by decide +kernel) | exact absurd (by decide +kernel) c9
  refine lv_iload_n hx hb dX12_isThere_21 rfl (lv_at hl 2 rfl) ?_
  refine lv_if_lt (tgt := 47) hx hb dX12_isThere_22 (by decide) (fun c9 => ?_) (fun c9 => ?_)
  · first | exact absurd c9 zk | exact absurd zk c9
  refine lv_iload_n hx hb dX12_isThere_25 rfl (lv_at hl 2 rfl) ?_
  refine lv_bipush (v := 6) hx hb dX12_isThere_26 (by decide +kernel) ?_
  refine lv_icmp_ge (tgt := 47) hx hb dX12_isThere_28 (by decide) (fun c9 => ?_) (fun c9 => ?_)
  rotate_left
  · first | exact absurd c9 zg | exact absurd zg c9
  refine lv_iconst (v := 0) hx hb dX12_isThere_47 (by decide +kernel) ?_
  refine W.widen (k := 1) (n := 6) (Nat.le_of_ble_eq_true rfl) (Nat.le_of_ble_eq_true rfl) ?_
  exact W.zret (v := 0) hx hb hr rfl (fun t ht hW => ⟨⟨0, (), rfl, rfl, xg, de0g, de1g, de2g, de3g, de4g, de5g, oAf, h_x, h_de0, h_de1, h_de2, h_de3, h_de4, h_de5, h_oA, by rw [ht]; exact hP, va_K.moved hW.alike hK, hD⟩, hS.F ht⟩) hS.2.2 dX12_isThere_48
set_option maxHeartbeats 4000000 in
set_option maxRecDepth 100000 in
theorem gx72_L_isThere (l : Launch) (hlt : l.stackTraces = false) (dC : Nat → ClassId) (dI : Nat → Nat → Nat) (sz : Nat) (p1 : Int32) (x deA de0 de1 de2 de3 de4 de5 oA liA chA : Nat) (xg : List Value) (h_x : fx xg 17 [(7, .ref deA), (8, .ref liA), (9, .ref chA)]) (deAC : ClassId) (deAF : Nat → Option Nat) (de0g : List Value) (h_de0 : fx de0g 16 [(0, .int 0)]) (de1g : List Value) (h_de1 : fx de1g 16 [(0, .int 0)]) (de2g : List Value) (h_de2 : fx de2g 16 [(0, .int 0)]) (de3g : List Value) (h_de3 : fx de3g 16 [(0, .int 0)]) (de4g : List Value) (h_de4 : fx de4g 16 [(0, .int 0)]) (de5g : List Value) (h_de5 : fx de5g 16 [(0, .int 0)]) (oAC : ClassId) (oAf : Nat → Int64) (h_oA : fa oAf []) (h_deA0 : deAF 0 = some de0) (h_deA1 : deAF 1 = some de1) (h_deA2 : deAF 2 = some de2) (h_deA3 : deAF 3 = some de3) (h_deA4 : deAF 4 = some de4) (h_deA5 : deAF 5 = some de5) (zk : ¬ p1 < 0) (zg : 6 ≤ p1) : Met l yL_isThere (Cond.codeWith yL_isThere cL_isThere 5 (some .int) [(0, 17, 20, 19)] :: BG) ({ frames := 8, cells := 1, slots := 6, locals := 152 }) (va_Pc [.ref x, .int 0, .int p1, .ref oA] (fun U => U.heap.size = sz ∧ va_P (dC, dI) CL [(x, .inr (12, xg)), (deA, .inl (deAC, (6, .inr (.inr (.inr (.inr deAF)))))), (de0, .inr (3, de0g)), (de1, .inr (3, de1g)), (de2, .inr (3, de2g)), (de3, .inr (3, de3g)), (de4, .inr (3, de4g)), (de5, .inr (3, de5g)), (oA, .inl (oAC, (1, .inr (.inl oAf))))] U.heap ∧ va_K (dC, dI) CL [(deAC, .object "ChipFlow$Design"), (oAC, .long)] U ∧ va_D (fun _ => True) [(x, .inr (12, xg)), (deA, .inl (deAC, (6, .inr (.inr (.inr (.inr deAF)))))), (de0, .inr (3, de0g)), (de1, .inr (3, de1g)), (de2, .inr (3, de2g)), (de3, .inr (3, de3g)), (de4, .inr (3, de4g)), (de5, .inr (3, de5g)), (oA, .inl (oAC, (1, .inr (.inl oAf))))] ∧ th (va_A [(x, .inr (12, xg)), (deA, .inl (deAC, (6, .inr (.inr (.inr (.inr deAF)))))), (de0, .inr (3, de0g)), (de1, .inr (3, de1g)), (de2, .inr (3, de2g)), (de3, .inr (3, de3g)), (de4, .inr (3, de4g)), (de5, .inr (3, de5g)), (oA, .inl (oAC, (1, .inr (.inl oAf))))] sz) U U.heap)) (va_Qi (fun (r : Int32) (_ : Unit) => r = 0) (fun _ t => ∃ (xy : List Value) (de0y : List Value) (de1y : List Value) (de2y : List Value) (de3y : List Value) (de4y : List Value) (de5y : List Value) (oAy : Nat → Int64), fx xy 17 [(7, .ref deA), (8, .ref liA), (9, .ref chA)] ∧ fx de0y 16 [(0, .int 0)] ∧ fx de1y 16 [(0, .int 0)] ∧ fx de2y 16 [(0, .int 0)] ∧ fx de3y 16 [(0, .int 0)] ∧ fx de4y 16 [(0, .int 0)] ∧ fx de5y 16 [(0, .int 0)] ∧ fa oAy [(0, 0)] ∧ va_P (dC, dI) CL [(x, .inr (12, xy)), (deA, .inl (deAC, (6, .inr (.inr (.inr (.inr deAF)))))), (de0, .inr (3, de0y)), (de1, .inr (3, de1y)), (de2, .inr (3, de2y)), (de3, .inr (3, de3y)), (de4, .inr (3, de4y)), (de5, .inr (3, de5y)), (oA, .inl (oAC, (1, .inr (.inl oAy))))] t.heap ∧ va_K (dC, dI) CL [(deAC, .object "ChipFlow$Design"), (oAC, .long)] t ∧ va_D (va_A [(x, .inr (12, xg)), (deA, .inl (deAC, (6, .inr (.inr (.inr (.inr deAF)))))), (de0, .inr (3, de0g)), (de1, .inr (3, de1g)), (de2, .inr (3, de2g)), (de3, .inr (3, de3g)), (de4, .inr (3, de4g)), (de5, .inr (3, de5g)), (oA, .inl (oAC, (1, .inr (.inl oAf))))] sz) [(x, .inr (12, xy)), (deA, .inl (deAC, (6, .inr (.inr (.inr (.inr deAF)))))), (de0, .inr (3, de0y)), (de1, .inr (3, de1y)), (de2, .inr (3, de2y)), (de3, .inr (3, de3y)), (de4, .inr (3, de4y)), (de5, .inr (3, de5y)), (oA, .inl (oAC, (1, .inr (.inl oAy))))]) (va_A [(x, .inr (12, xg)), (deA, .inl (deAC, (6, .inr (.inr (.inr (.inr deAF)))))), (de0, .inr (3, de0g)), (de1, .inr (3, de1g)), (de2, .inr (3, de2g)), (de3, .inr (3, de3g)), (de4, .inr (3, de4g)), (de5, .inr (3, de5g)), (oA, .inl (oAC, (1, .inr (.inl oAf))))] sz)) 1 6 (va_A [(x, .inr (12, xg)), (deA, .inl (deAC, (6, .inr (.inr (.inr (.inr deAF)))))), (de0, .inr (3, de0g)), (de1, .inr (3, de1g)), (de2, .inr (3, de2g)), (de3, .inr (3, de3g)), (de4, .inr (3, de4g)), (de5, .inr (3, de5g)), (oA, .inl (oAC, (1, .inr (.inl oAf))))] sz) := by
  refine va_MetW (hh := [(0, 17, 20, 19)]) (cc := cL_isThere) (maxL := 5) (ret := (some .int)) (by decide) rfl ?_
  intro p e s m args below meth c s₁ B hml hv
  obtain ⟨rfl, hsz, hP, hK, hD0, hth⟩ := hv
  have hx := B.exec
  have hb := B.bytes
  have hr := B.returns
  have hts : ∀ w ∈ BG, w.before _ s = true := fun w h => atoms_spec (ws := Cond.codeWith yL_isThere cL_isThere 5 (some .int) [(0, 17, 20, 19)] :: BG) B.pre w (List.mem_cons_of_mem _ h)
  have hown : s.vm.findClass RL = some m.cls := findClass_of_methodNamed B.named
  have hlocks := B.notSynchronized
  subst hsz
  have hD := hD0.self (sz := s.heap.size)
  generalize hAe : va_A [(x, .inr (12, xg)), (deA, .inl (deAC, (6, .inr (.inr (.inr (.inr deAF)))))), (de0, .inr (3, de0g)), (de1, .inr (3, de1g)), (de2, .inr (3, de2g)), (de3, .inr (3, de3g)), (de4, .inr (3, de4g)), (de5, .inr (3, de5g)), (oA, .inl (oAC, (1, .inr (.inl oAf))))] s.heap.size = A at hD hth ⊢
  have hA : ∀ q : Nat, s.heap.size ≤ q → A q := fun q h => by rw [← hAe]; exact Or.inr h
  have hS : va_S A s.heap s.heap [] := va_S.rf
  have hl := lv_entry ([.ref x, .int 0, .int p1, .ref oA]) (n := 5) (Nat.le_of_ble_eq_true rfl)
  rw [lg_entry_eq]
  generalize (lg_sl ([.ref x, .int 0, .int p1, .ref oA]) ++ List.replicate (5 - (lg_sl ([.ref x, .int 0, .int p1, .ref oA])).length) Slot.unset).toArray = ls at hl ⊢
  have hl : lv_has ls 5 [(0, .ref x), (1, .int 0), (2, .int p1), (3, .ref oA)] := hl
  obtain ⟨H, eH⟩ : ∃ z, z = s.heap := ⟨_, rfl⟩
  have hP : va_P (dC, dI) CL [(x, .inr (12, xg)), (deA, .inl (deAC, (6, .inr (.inr (.inr (.inr deAF)))))), (de0, .inr (3, de0g)), (de1, .inr (3, de1g)), (de2, .inr (3, de2g)), (de3, .inr (3, de3g)), (de4, .inr (3, de4g)), (de5, .inr (3, de5g)), (oA, .inl (oAC, (1, .inr (.inl oAf))))] H := by rw [eH]; exact hP
  have hS : va_S A s.heap H [] := by rw [eH]; exact hS
  rw [← eH]
  have hT : c.exceptionTable.toList = tableOf [(0, 17, 20, 19)] := vx_table (x := yL_isThere) B (atoms_spec (ws := Cond.codeWith yL_isThere cL_isThere 5 (some .int) [(0, 17, 20, 19)] :: BG) B.pre _ List.mem_cons_self)
  refine lv_aload_n hx hb dL_isThere_0 rfl (lv_at hl 3 rfl) ?_
  refine lv_iconst (v := 0) hx hb dL_isThere_1 (by decide +kernel) ?_
  refine lv_aload_n hx hb dL_isThere_2 rfl (lv_at hl 0 rfl) ?_
  refine lv_iload_n hx hb dL_isThere_3 rfl (lv_at hl 1 rfl) ?_
  refine lv_iload_n hx hb dL_isThere_4 rfl (lv_at hl 2 rfl) ?_
  have hFc := va_free (wc := [(x, .inr (12, xg)), (deA, .inl (deAC, (6, .inr (.inr (.inr (.inr deAF)))))), (de0, .inr (3, de0g)), (de1, .inr (3, de1g)), (de2, .inr (3, de2g)), (de3, .inr (3, de3g)), (de4, .inr (3, de4g)), (de5, .inr (3, de5g)), (oA, .inl (oAC, (1, .inr (.inl oAf))))]) hD hS hA [0, 1, 2, 3, 4, 5, 6, 7, 8] rfl
  refine va_calli (va_runV (As := [.int 0, .int p1]) (rest := [.int 0, .ref oA]) ⟨hx, hb, hml, hown, hts⟩ (gx73_X12_isThere l hlt dC dI _ p1 x deA de0 de1 de2 de3 de4 de5 oA liA chA xg h_x deAC deAF de0g h_de0 de1g h_de1 de2g h_de2 de3g h_de3 de4g h_de4 de5g h_de5 oAC oAf h_oA h_deA0 h_deA1 h_deA2 h_deA3 h_deA4 h_deA5 zk zg) (cwV 2 hts (gi_V wd_1842 wd_1843 wd_1844 wd_327 wd_1845) rfl rfl rfl (by decide +kernel) ⟨(Nat.le_of_ble_eq_true rfl), (Nat.le_of_ble_eq_true rfl)⟩) ⟨fun a U g mk q => by obtain ⟨q0, q1, qP, qK, qD, qT⟩ := q; exact ⟨q0, q1, qP, va_K.moved (u := U) (U := U.calling g mk a) (Vm.Alike.refl U.vm) qK, qD, th.moved (u := U) (U := U.calling g mk a) (Vm.Alike.refl U.vm) qT⟩, va_recv hK hP (ci := 12) (q0 := 0) rfl rfl, fun U hU hW => ⟨rfl, by rw [hU], by rw [hU]; exact hP, va_K.moved hW.alike hK, hD.weaken (fun _ _ _ _ => trivial), by rw [hU]; exact ((hth.kept hS.2.1).narrow hFc).moved hW.alike⟩⟩ rfl rfl hl.1 rfl (lv_room (Nat.le_of_ble_eq_true rfl)) dL_isThere_5 ⟨(Nat.le_of_ble_eq_true rfl), (Nat.le_of_ble_eq_true rfl)⟩) hS (fun q _ h => hFc q h) hFc (fun r u t H1 locs ht hvm hw hB hz1 hk1 hS => ?_)
  subst hw
  obtain ⟨fs_1, fs_2, fs_3, fs_4, fs_5, fs_6, fs_7, f_8, h_x, h_de0, h_de1, h_de2, h_de3, h_de4, h_de5, h_oA, hP1, hK1, hD1⟩ := hB
  rw [ht] at hP1
  have hD := hD1.weaken (fun k q _ h => hFc q.1 h)
  have hP := hP1
  generalize H1 = H at hP hS ⊢
  have hP : va_P (dC, dI) CL [(x, .inr (12, fs_1)), (deA, .inl (deAC, (6, .inr (.inr (.inr (.inr deAF)))))), (de0, .inr (3, fs_2)), (de1, .inr (3, fs_3)), (de2, .inr (3, fs_4)), (de3, .inr (3, fs_5)), (de4, .inr (3, fs_6)), (de5, .inr (3, fs_7)), (oA, .inl (oAC, (1, .inr (.inl f_8))))] H := hP
  have hD : va_D A [(x, .inr (12, fs_1)), (deA, .inl (deAC, (6, .inr (.inr (.inr (.inr deAF)))))), (de0, .inr (3, fs_2)), (de1, .inr (3, fs_3)), (de2, .inr (3, fs_4)), (de3, .inr (3, fs_5)), (de4, .inr (3, fs_6)), (de5, .inr (3, fs_7)), (oA, .inl (oAC, (1, .inr (.inl f_8))))] := hD
  refine W.widen (k := 1) (n := 6) (Nat.le_of_ble_eq_true rfl) (Nat.le_of_ble_eq_true rfl) ?_
  refine lv_if_eq (tgt := 15) hx hb dL_isThere_8 (by decide) (fun c9 => ?_) (fun c9 => ?_)
  rotate_left
  · first | exact absurd c9 (by decide +kernel) | exact absurd (by decide +kernel) c9
  refine lv_lconst (v := 0) hx hb dL_isThere_15 (by decide) ?_
  refine va_last hx hb hK hP hD hS 8 1 rfl rfl (vp_in_nI (n := 0) (N := 1) (by decide) (by decide)) dL_isThere_16 (fun H locs hP hD hS => ?_)
  obtain ⟨f_9, e9⟩ : ∃ z, z = vp_updL f_8 (0 : Int32).toNatClampNeg 0 := ⟨_, rfl⟩
  have h_oA : fa f_9 [(0, 0)] := by rw [e9, show (0 : Int32).toNatClampNeg = 0 by decide +kernel]; exact (fa.putL h_oA).sub [0] rfl
  have hP : va_P (dC, dI) CL [(x, .inr (12, fs_1)), (deA, .inl (deAC, (6, .inr (.inr (.inr (.inr deAF)))))), (de0, .inr (3, fs_2)), (de1, .inr (3, fs_3)), (de2, .inr (3, fs_4)), (de3, .inr (3, fs_5)), (de4, .inr (3, fs_6)), (de5, .inr (3, fs_7)), (oA, .inl (oAC, (1, .inr (.inl f_9))))] H := by rw [e9]; exact hP
  have hD : va_D A [(x, .inr (12, fs_1)), (deA, .inl (deAC, (6, .inr (.inr (.inr (.inr deAF)))))), (de0, .inr (3, fs_2)), (de1, .inr (3, fs_3)), (de2, .inr (3, fs_4)), (de3, .inr (3, fs_5)), (de4, .inr (3, fs_6)), (de5, .inr (3, fs_7)), (oA, .inl (oAC, (1, .inr (.inl f_9))))] := by rw [e9]; exact hD
  clear e9
  refine lv_goto (tgt := 24) hx hb dL_isThere_17 (by decide) ?_
  refine lv_iconst (v := 0) hx hb dL_isThere_24 (by decide +kernel) ?_
  refine W.widen (k := 1) (n := 6) (Nat.le_of_ble_eq_true rfl) (Nat.le_of_ble_eq_true rfl) ?_
  exact W.iret (v := 0) hx hb hr (fun t ht hW => ⟨⟨0, (), rfl, rfl, fs_1, fs_2, fs_3, fs_4, fs_5, fs_6, fs_7, f_9, h_x, h_de0, h_de1, h_de2, h_de3, h_de4, h_de5, h_oA, by rw [ht]; exact hP, va_K.moved hW.alike hK, hD⟩, hS.F ht⟩) hS.2.2 dL_isThere_25
set_option maxHeartbeats 4000000 in
set_option maxRecDepth 100000 in
theorem gx75_X13_isOne (l : Launch) (hlt : l.stackTraces = false) (dC : Nat → ClassId) (dI : Nat → Nat → Nat) (sz : Nat) (p1 : Int32) (m0 md ml mch : Nat) (m0g : List Value) (h_m0 : fx m0g 225 [(0, .int 0), (2, .int 0), (3, .int 0), (9, .int 0), (10, .int 0), (11, .int 0), (12, .int 0), (27, .int 0), (55, .ref md), (79, .int 0), (83, .int 0), (88, .ref ml), (95, .int 0), (138, .ref mch)]) (mdC : ClassId) (zk : ¬ p1 < 0) (zg : 6 ≤ p1) : Met l yX13_isOne (Cond.code yX13_isOne cX13_isOne 3 (some .boolean) :: BG) ({ frames := 2, cells := 0, slots := 0, locals := 33 }) (va_Pc [.ref m0, .int 0, .int p1] (fun U => U.heap.size = sz ∧ va_P (dC, dI) CL [(m0, .inr (13, m0g)), (md, .inl (mdC, (6, .inl (fun _ => 0))))] U.heap ∧ va_K (dC, dI) CL [(mdC, .boolean)] U ∧ va_D (fun _ => True) [(m0, .inr (13, m0g)), (md, .inl (mdC, (6, .inl (fun _ => 0))))] ∧ th (va_A [(m0, .inr (13, m0g)), (md, .inl (mdC, (6, .inl (fun _ => 0))))] sz) U U.heap)) (va_Qi (fun (r : Int32) (_ : Unit) => r = 0) (fun _ t => ∃ (m0y : List Value), fx m0y 225 [(0, .int 0), (2, .int 0), (3, .int 0), (9, .int 0), (10, .int 0), (11, .int 0), (12, .int 0), (27, .int 0), (55, .ref md), (79, .int 0), (83, .int 0), (88, .ref ml), (95, .int 0), (138, .ref mch)] ∧ va_P (dC, dI) CL [(m0, .inr (13, m0y)), (md, .inl (mdC, (6, .inl (fun _ => 0))))] t.heap ∧ va_K (dC, dI) CL [(mdC, .boolean)] t ∧ va_D (va_A [(m0, .inr (13, m0g)), (md, .inl (mdC, (6, .inl (fun _ => 0))))] sz) [(m0, .inr (13, m0y)), (md, .inl (mdC, (6, .inl (fun _ => 0))))]) (va_A [(m0, .inr (13, m0g)), (md, .inl (mdC, (6, .inl (fun _ => 0))))] sz)) 0 0 (va_A [(m0, .inr (13, m0g)), (md, .inl (mdC, (6, .inl (fun _ => 0))))] sz) := by
  refine Met.ofW (cc := cX13_isOne) (maxL := 3) (ret := (some .boolean)) (by decide) rfl ?_
  intro p e s m args below meth c s₁ B hml hv
  obtain ⟨rfl, hsz, hP, hK, hD0, hth⟩ := hv
  have hx := B.exec
  have hb := B.bytes
  have hr := B.returns
  have hts : ∀ w ∈ BG, w.before _ s = true := fun w h => atoms_spec (ws := Cond.code yX13_isOne cX13_isOne 3 (some .boolean) :: BG) B.pre w (List.mem_cons_of_mem _ h)
  have hown : s.vm.findClass RX13 = some m.cls := findClass_of_methodNamed B.named
  have hlocks := B.notSynchronized
  subst hsz
  have hD := hD0.self (sz := s.heap.size)
  generalize hAe : va_A [(m0, .inr (13, m0g)), (md, .inl (mdC, (6, .inl (fun _ => 0))))] s.heap.size = A at hD hth ⊢
  have hA : ∀ q : Nat, s.heap.size ≤ q → A q := fun q h => by rw [← hAe]; exact Or.inr h
  have hS : va_S A s.heap s.heap [] := va_S.rf
  have hl := lv_entry ([.ref m0, .int 0, .int p1]) (n := 3) (Nat.le_of_ble_eq_true rfl)
  rw [lg_entry_eq]
  generalize (lg_sl ([.ref m0, .int 0, .int p1]) ++ List.replicate (3 - (lg_sl ([.ref m0, .int 0, .int p1])).length) Slot.unset).toArray = ls at hl ⊢
  have hl : lv_has ls 3 [(0, .ref m0), (1, .int 0), (2, .int p1)] := hl
  obtain ⟨H, eH⟩ : ∃ z, z = s.heap := ⟨_, rfl⟩
  have hP : va_P (dC, dI) CL [(m0, .inr (13, m0g)), (md, .inl (mdC, (6, .inl (fun _ => 0))))] H := by rw [eH]; exact hP
  have hS : va_S A s.heap H [] := by rw [eH]; exact hS
  rw [← eH]
  refine lv_iload_n hx hb dX13_isOne_0 rfl (lv_at hl 1 rfl) ?_
  refine lv_if_ne (tgt := 12) hx hb dX13_isOne_1 (by decide) (fun c9 => ?_) (fun c9 => ?_)
  · first | exact absurd c9 (by decide +kernel) | exact absurd (by decide +kernel) c9
  refine lv_aload_n hx hb dX13_isOne_4 rfl (lv_at hl 0 rfl) ?_
  refine lv_iload_n hx hb dX13_isOne_5 rfl (lv_at hl 2 rfl) ?_
  have hFc := va_free (wc := [(m0, .inr (13, m0g)), (md, .inl (mdC, (6, .inl (fun _ => 0))))]) hD hS hA [0, 1] rfl
  refine va_calli (va_runV (As := [.int p1]) (rest := []) ⟨hx, hb, hml, hown, hts⟩ (ct_X13_isDesign l dC dI _ p1 m0 m0g md mdC (h_m0.sub [8] rfl)) (cwV 1 hts (gi_V wd_4076 wd_4078 wd_215 wd_340 wd_4079) rfl rfl rfl (by decide +kernel) ⟨(Nat.le_of_ble_eq_true rfl), (Nat.le_of_ble_eq_true rfl)⟩) ⟨fun a U g mk q => by obtain ⟨q0, q1, qP, qK, qD⟩ := q; exact ⟨q0, q1, qP, va_K.moved (u := U) (U := U.calling g mk a) (Vm.Alike.refl U.vm) qK, qD⟩, va_recv hK hP (ci := 13) (q0 := 0) rfl rfl, fun U hU hW => ⟨rfl, by rw [hU], by rw [hU]; exact hP, va_K.moved hW.alike hK, hD.weaken (fun _ _ _ _ => trivial)⟩⟩ rfl rfl hl.1 rfl (lv_room (Nat.le_of_ble_eq_true rfl)) dX13_isOne_6 ⟨(Nat.le_of_ble_eq_true rfl), (Nat.le_of_ble_eq_true rfl)⟩) hS (fun q _ h => hFc q h) hFc (fun r u t H1 locs ht hvm hw hB hz1 hk1 hS => ?_)
  subst hw
  obtain ⟨hP1, hK1, hD1⟩ := hB
  rw [ht] at hP1
  have hD := hD1.weaken (fun k q _ h => hFc q.1 h)
  have hP := hP1
  generalize H1 = H at hP hS ⊢
  have hP : va_P (dC, dI) CL [(m0, .inr (13, m0g)), (md, .inl (mdC, (6, .inl (fun _ => 0))))] H := hP
  have hD : va_D A [(m0, .inr (13, m0g)), (md, .inl (mdC, (6, .inl (fun _ => 0))))] := hD
  refine lv_goto (tgt := 30) hx hb dX13_isOne_9 (by decide) ?_
  exact W.zret (v := 0) hx hb hr rfl (fun t ht hW => ⟨⟨0, (), rfl, rfl, m0g, h_m0, by rw [ht]; exact hP, va_K.moved hW.alike hK, hD⟩, hS.F ht⟩) hS.2.2 dX13_isOne_30
set_option maxHeartbeats 4000000 in
set_option maxRecDepth 100000 in
theorem gx74_X13_isThere (l : Launch) (hlt : l.stackTraces = false) (dC : Nat → ClassId) (dI : Nat → Nat → Nat) (sz : Nat) (p1 : Int32) (m0 md ml mch : Nat) (m0g : List Value) (h_m0 : fx m0g 225 [(0, .int 0), (2, .int 0), (3, .int 0), (9, .int 0), (10, .int 0), (11, .int 0), (12, .int 0), (27, .int 0), (55, .ref md), (79, .int 0), (83, .int 0), (88, .ref ml), (95, .int 0), (138, .ref mch)]) (mdC : ClassId) (zk : ¬ p1 < 0) (zg : 6 ≤ p1) : Met l yX13_isThere (Cond.code yX13_isThere cX13_isThere 3 (some .boolean) :: BG) ({ frames := 3, cells := 0, slots := 0, locals := 55 }) (va_Pc [.ref m0, .int 0, .int p1] (fun U => U.heap.size = sz ∧ va_P (dC, dI) CL [(m0, .inr (13, m0g)), (md, .inl (mdC, (6, .inl (fun _ => 0))))] U.heap ∧ va_K (dC, dI) CL [(mdC, .boolean)] U ∧ va_D (fun _ => True) [(m0, .inr (13, m0g)), (md, .inl (mdC, (6, .inl (fun _ => 0))))] ∧ th (va_A [(m0, .inr (13, m0g)), (md, .inl (mdC, (6, .inl (fun _ => 0))))] sz) U U.heap)) (va_Qi (fun (r : Int32) (_ : Unit) => r = 0) (fun _ t => ∃ (m0y : List Value), fx m0y 225 [(0, .int 0), (2, .int 0), (3, .int 0), (9, .int 0), (10, .int 0), (11, .int 0), (12, .int 0), (27, .int 0), (55, .ref md), (79, .int 0), (83, .int 0), (88, .ref ml), (95, .int 0), (138, .ref mch)] ∧ va_P (dC, dI) CL [(m0, .inr (13, m0y)), (md, .inl (mdC, (6, .inl (fun _ => 0))))] t.heap ∧ va_K (dC, dI) CL [(mdC, .boolean)] t ∧ va_D (va_A [(m0, .inr (13, m0g)), (md, .inl (mdC, (6, .inl (fun _ => 0))))] sz) [(m0, .inr (13, m0y)), (md, .inl (mdC, (6, .inl (fun _ => 0))))]) (va_A [(m0, .inr (13, m0g)), (md, .inl (mdC, (6, .inl (fun _ => 0))))] sz)) 0 0 (va_A [(m0, .inr (13, m0g)), (md, .inl (mdC, (6, .inl (fun _ => 0))))] sz) := by
  refine Met.ofW (cc := cX13_isThere) (maxL := 3) (ret := (some .boolean)) (by decide) rfl ?_
  intro p e s m args below meth c s₁ B hml hv
  obtain ⟨rfl, hsz, hP, hK, hD0, hth⟩ := hv
  have hx := B.exec
  have hb := B.bytes
  have hr := B.returns
  have hts : ∀ w ∈ BG, w.before _ s = true := fun w h => atoms_spec (ws := Cond.code yX13_isThere cX13_isThere 3 (some .boolean) :: BG) B.pre w (List.mem_cons_of_mem _ h)
  have hown : s.vm.findClass RX13 = some m.cls := findClass_of_methodNamed B.named
  have hlocks := B.notSynchronized
  subst hsz
  have hD := hD0.self (sz := s.heap.size)
  generalize hAe : va_A [(m0, .inr (13, m0g)), (md, .inl (mdC, (6, .inl (fun _ => 0))))] s.heap.size = A at hD hth ⊢
  have hA : ∀ q : Nat, s.heap.size ≤ q → A q := fun q h => by rw [← hAe]; exact Or.inr h
  have hS : va_S A s.heap s.heap [] := va_S.rf
  have hl := lv_entry ([.ref m0, .int 0, .int p1]) (n := 3) (Nat.le_of_ble_eq_true rfl)
  rw [lg_entry_eq]
  generalize (lg_sl ([.ref m0, .int 0, .int p1]) ++ List.replicate (3 - (lg_sl ([.ref m0, .int 0, .int p1])).length) Slot.unset).toArray = ls at hl ⊢
  have hl : lv_has ls 3 [(0, .ref m0), (1, .int 0), (2, .int p1)] := hl
  obtain ⟨H, eH⟩ : ∃ z, z = s.heap := ⟨_, rfl⟩
  have hP : va_P (dC, dI) CL [(m0, .inr (13, m0g)), (md, .inl (mdC, (6, .inl (fun _ => 0))))] H := by rw [eH]; exact hP
  have hS : va_S A s.heap H [] := by rw [eH]; exact hS
  rw [← eH]
  refine lv_aload_n hx hb dX13_isThere_0 rfl (lv_at hl 0 rfl) ?_
  refine lv_iload_n hx hb dX13_isThere_1 rfl (lv_at hl 1 rfl) ?_
  refine lv_iconst (v := 0) hx hb dX13_isThere_2 (by decide +kernel) ?_
  refine lv_iconst (v := 2) hx hb dX13_isThere_3 (by decide +kernel) ?_
  have hFc := va_free (wc := [(m0, .inr (13, m0g)), (md, .inl (mdC, (6, .inl (fun _ => 0))))]) hD hS hA [0, 1] rfl
  refine va_calli (va_runS (As := [.int 0, .int 0, .int 2]) (rest := [.ref m0]) ⟨hx, hb, hml, hown, hts⟩ (gx48_X13_within l hlt dC dI _ m0 md ml mch m0g h_m0 mdC) (cwS 3 hts (gi_S wd_3825 wd_3826 wd_340 wd_3827) rfl rfl rfl (by decide +kernel) ⟨(Nat.le_of_ble_eq_true rfl), (Nat.le_of_ble_eq_true rfl)⟩) ⟨fun a U g mk q => by obtain ⟨q0, q1, qP, qK, qD, qT⟩ := q; exact ⟨q0, q1, qP, va_K.moved (u := U) (U := U.calling g mk a) (Vm.Alike.refl U.vm) qK, qD, th.moved (u := U) (U := U.calling g mk a) (Vm.Alike.refl U.vm) qT⟩, fun U hU hW => ⟨rfl, by rw [hU], by rw [hU]; exact hP, va_K.moved hW.alike hK, hD.weaken (fun _ _ _ _ => trivial), by rw [hU]; exact ((hth.kept hS.2.1).narrow hFc).moved hW.alike⟩⟩ rfl rfl hl.1 rfl (lv_room (Nat.le_of_ble_eq_true rfl)) dX13_isThere_4 ⟨(Nat.le_of_ble_eq_true rfl), (Nat.le_of_ble_eq_true rfl)⟩) hS (fun q _ h => hFc q h) hFc (fun r u t H1 locs ht hvm hw hB hz1 hk1 hS => ?_)
  subst hw
  obtain ⟨fs_1, h_m0, hP1, hK1, hD1⟩ := hB
  rw [ht] at hP1
  have hD := hD1.weaken (fun k q _ h => hFc q.1 h)
  have hP := hP1
  generalize H1 = H at hP hS ⊢
  have hP : va_P (dC, dI) CL [(m0, .inr (13, fs_1)), (md, .inl (mdC, (6, .inl (fun _ => 0))))] H := hP
  have hD : va_D A [(m0, .inr (13, fs_1)), (md, .inl (mdC, (6, .inl (fun _ => 0))))] := hD
  refine lv_if_eq (tgt := 14) hx hb dX13_isThere_7 (by decide) (fun c9 => ?_) (fun c9 => ?_)
  · first | exact absurd c9 (by decide +kernel) | exact absurd (by decide +kernel) c9
  refine lv_iconst (v := 0) hx hb dX13_isThere_10 (by decide +kernel) ?_
  refine lv_goto (tgt := 15) hx hb dX13_isThere_11 (by decide) ?_
  refine va_put (D := (dC, dI)) (ci := 13) (v := .int 0) (ty := tyX13 0) (C := RX13) (T := TX13) (N := 225) hx hb hts inX13 tyX13 tyX13_ok nmX13 hown hK hP hD hS 0 rfl rfl 0 (by decide) (hts (.fieldLink RX13 1 "ChipFlowModel" "code" "I") wd_3032) (fun _ h9 => h9) rfl (by decide +kernel) rfl rfl (by rw [h_m0.1]; decide) dX13_isThere_15 (fun H locs hP hD hS => ?_)
  obtain ⟨fs_2, e9⟩ : ∃ z, z = fs_1.set 0 (.int 0) := ⟨_, rfl⟩
  have h_m0 : fx fs_2 225 [(0, .int 0), (2, .int 0), (3, .int 0), (9, .int 0), (10, .int 0), (11, .int 0), (12, .int 0), (27, .int 0), (55, .ref md), (79, .int 0), (83, .int 0), (88, .ref ml), (95, .int 0), (138, .ref mch)] := by rw [e9]; exact (h_m0.put (F' := [(0, .int 0), (2, .int 0), (3, .int 0), (9, .int 0), (10, .int 0), (11, .int 0), (12, .int 0), (27, .int 0), (55, .ref md), (79, .int 0), (83, .int 0), (88, .ref ml), (95, .int 0), (138, .ref mch)]) (by decide) _ rfl).sub [0, 1, 2, 3, 4, 5, 6, 7, 8, 9, 10, 11, 12, 13] rfl
  have hP : va_P (dC, dI) CL [(m0, .inr (13, fs_2)), (md, .inl (mdC, (6, .inl (fun _ => 0))))] H := by rw [e9]; exact hP
  have hD : va_D A [(m0, .inr (13, fs_2)), (md, .inl (mdC, (6, .inl (fun _ => 0))))] := by rw [e9]; exact hD
  clear e9
  refine lv_aload_n hx hb dX13_isThere_18 rfl (lv_at hl 0 rfl) ?_
  refine va_get (D := (dC, dI)) (ci := 13) (v := .int 0) (C := RX13) (T := TX13) (N := 225) hx hb hts inX13 hown hK hP 0 rfl rfl 0 (by decide) (hts (.fieldLink RX13 1 "ChipFlowModel" "code" "I") wd_3032) (fun _ h9 => h9) (h_m0.get 0 rfl) dX13_isThere_19 ?_
  refine lv_if_ne (tgt := 38) hx hb dX13_isThere_22 (by decide) (fun c9 => ?_) (fun c9 => ?_)
  · first | exact absurd c9 (by decide +kernel) | exact absurd (by decide +kernel) c9
  refine lv_aload_n hx hb dX13_isThere_25 rfl (lv_at hl 0 rfl) ?_
  refine lv_iload_n hx hb dX13_isThere_26 rfl (lv_at hl 1 rfl) ?_
  refine lv_iload_n hx hb dX13_isThere_27 rfl (lv_at hl 2 rfl) ?_
  have hFc := va_free (wc := [(m0, .inr (13, fs_2)), (md, .inl (mdC, (6, .inl (fun _ => 0))))]) hD hS hA [0, 1] rfl
  refine va_calli (va_runV (As := [.int 0, .int p1]) (rest := []) ⟨hx, hb, hml, hown, hts⟩ (gx75_X13_isOne l hlt dC dI _ p1 m0 md ml mch fs_2 h_m0 mdC zk zg) (cwV 2 hts (gi_V wd_4072 wd_4074 wd_214 wd_340 wd_4075) rfl rfl rfl (by decide +kernel) ⟨(Nat.le_of_ble_eq_true rfl), (Nat.le_of_ble_eq_true rfl)⟩) ⟨fun a U g mk q => by obtain ⟨q0, q1, qP, qK, qD, qT⟩ := q; exact ⟨q0, q1, qP, va_K.moved (u := U) (U := U.calling g mk a) (Vm.Alike.refl U.vm) qK, qD, th.moved (u := U) (U := U.calling g mk a) (Vm.Alike.refl U.vm) qT⟩, va_recv hK hP (ci := 13) (q0 := 0) rfl rfl, fun U hU hW => ⟨rfl, by rw [hU], by rw [hU]; exact hP, va_K.moved hW.alike hK, hD.weaken (fun _ _ _ _ => trivial), by rw [hU]; exact ((hth.kept hS.2.1).narrow hFc).moved hW.alike⟩⟩ rfl rfl hl.1 rfl (lv_room (Nat.le_of_ble_eq_true rfl)) dX13_isThere_28 ⟨(Nat.le_of_ble_eq_true rfl), (Nat.le_of_ble_eq_true rfl)⟩) hS (fun q _ h => hFc q h) hFc (fun r u t H1 locs ht hvm hw hB hz1 hk1 hS => ?_)
  subst hw
  obtain ⟨fs_3, h_m0, hP1, hK1, hD1⟩ := hB
  rw [ht] at hP1
  have hD := hD1.weaken (fun k q _ h => hFc q.1 h)
  have hP := hP1
  generalize H1 = H at hP hS ⊢
  have hP : va_P (dC, dI) CL [(m0, .inr (13, fs_3)), (md, .inl (mdC, (6, .inl (fun _ => 0))))] H := hP
  have hD : va_D A [(m0, .inr (13, fs_3)), (md, .inl (mdC, (6, .inl (fun _ => 0))))] := hD
  refine lv_if_eq (tgt := 38) hx hb dX13_isThere_31 (by decide) (fun c9 => ?_) (fun c9 => ?_)
  rotate_left
  · first | exact absurd c9 (by decide +kernel) | exact absurd (by decide +kernel) c9
  refine lv_iconst (v := 0) hx hb dX13_isThere_38 (by decide +kernel) ?_
  exact W.zret (v := 0) hx hb hr rfl (fun t ht hW => ⟨⟨0, (), rfl, rfl, fs_3, h_m0, by rw [ht]; exact hP, va_K.moved hW.alike hK, hD⟩, hS.F ht⟩) hS.2.2 dX13_isThere_39
set_option maxHeartbeats 4000000 in
set_option maxRecDepth 100000 in
theorem gx77_X12_isThere (l : Launch) (hlt : l.stackTraces = false) (dC : Nat → ClassId) (dI : Nat → Nat → Nat) (sz : Nat) (x deA de0 de1 de2 de3 de4 de5 oA liA chA : Nat) (xg : List Value) (h_x : fx xg 17 [(7, .ref deA), (8, .ref liA), (9, .ref chA)]) (deAC : ClassId) (deAF : Nat → Option Nat) (de0g : List Value) (h_de0 : fx de0g 16 [(0, .int 0)]) (de1g : List Value) (h_de1 : fx de1g 16 [(0, .int 0)]) (de2g : List Value) (h_de2 : fx de2g 16 [(0, .int 0)]) (de3g : List Value) (h_de3 : fx de3g 16 [(0, .int 0)]) (de4g : List Value) (h_de4 : fx de4g 16 [(0, .int 0)]) (de5g : List Value) (h_de5 : fx de5g 16 [(0, .int 0)]) (oAC : ClassId) (oAf : Nat → Int64) (h_oA : fa oAf []) (h_deA0 : deAF 0 = some de0) (h_deA1 : deAF 1 = some de1) (h_deA2 : deAF 2 = some de2) (h_deA3 : deAF 3 = some de3) (h_deA4 : deAF 4 = some de4) (h_deA5 : deAF 5 = some de5) : Met l yX12_isThere (Cond.code yX12_isThere cX12_isThere 3 (some .boolean) :: BG) ({ frames := 7, cells := 1, slots := 6, locals := 130 }) (va_Pc [.ref x, .int 0, .int 0] (fun U => U.heap.size = sz ∧ va_P (dC, dI) CL [(x, .inr (12, xg)), (deA, .inl (deAC, (6, .inr (.inr (.inr (.inr deAF)))))), (de0, .inr (3, de0g)), (de1, .inr (3, de1g)), (de2, .inr (3, de2g)), (de3, .inr (3, de3g)), (de4, .inr (3, de4g)), (de5, .inr (3, de5g)), (oA, .inl (oAC, (1, .inr (.inl oAf))))] U.heap ∧ va_K (dC, dI) CL [(deAC, .object "ChipFlow$Design"), (oAC, .long)] U ∧ va_D (fun _ => True) [(x, .inr (12, xg)), (deA, .inl (deAC, (6, .inr (.inr (.inr (.inr deAF)))))), (de0, .inr (3, de0g)), (de1, .inr (3, de1g)), (de2, .inr (3, de2g)), (de3, .inr (3, de3g)), (de4, .inr (3, de4g)), (de5, .inr (3, de5g)), (oA, .inl (oAC, (1, .inr (.inl oAf))))] ∧ th (va_A [(x, .inr (12, xg)), (deA, .inl (deAC, (6, .inr (.inr (.inr (.inr deAF)))))), (de0, .inr (3, de0g)), (de1, .inr (3, de1g)), (de2, .inr (3, de2g)), (de3, .inr (3, de3g)), (de4, .inr (3, de4g)), (de5, .inr (3, de5g)), (oA, .inl (oAC, (1, .inr (.inl oAf))))] sz) U U.heap)) (va_Qi (fun (r : Int32) (_ : Unit) => r = 0) (fun _ t => ∃ (xy : List Value) (de0y : List Value) (de1y : List Value) (de2y : List Value) (de3y : List Value) (de4y : List Value) (de5y : List Value) (oAy : Nat → Int64), fx xy 17 [(7, .ref deA), (8, .ref liA), (9, .ref chA)] ∧ fx de0y 16 [(0, .int 0)] ∧ fx de1y 16 [(0, .int 0)] ∧ fx de2y 16 [(0, .int 0)] ∧ fx de3y 16 [(0, .int 0)] ∧ fx de4y 16 [(0, .int 0)] ∧ fx de5y 16 [(0, .int 0)] ∧ fa oAy [] ∧ va_P (dC, dI) CL [(x, .inr (12, xy)), (deA, .inl (deAC, (6, .inr (.inr (.inr (.inr deAF)))))), (de0, .inr (3, de0y)), (de1, .inr (3, de1y)), (de2, .inr (3, de2y)), (de3, .inr (3, de3y)), (de4, .inr (3, de4y)), (de5, .inr (3, de5y)), (oA, .inl (oAC, (1, .inr (.inl oAy))))] t.heap ∧ va_K (dC, dI) CL [(deAC, .object "ChipFlow$Design"), (oAC, .long)] t ∧ va_D (va_A [(x, .inr (12, xg)), (deA, .inl (deAC, (6, .inr (.inr (.inr (.inr deAF)))))), (de0, .inr (3, de0g)), (de1, .inr (3, de1g)), (de2, .inr (3, de2g)), (de3, .inr (3, de3g)), (de4, .inr (3, de4g)), (de5, .inr (3, de5g)), (oA, .inl (oAC, (1, .inr (.inl oAf))))] sz) [(x, .inr (12, xy)), (deA, .inl (deAC, (6, .inr (.inr (.inr (.inr deAF)))))), (de0, .inr (3, de0y)), (de1, .inr (3, de1y)), (de2, .inr (3, de2y)), (de3, .inr (3, de3y)), (de4, .inr (3, de4y)), (de5, .inr (3, de5y)), (oA, .inl (oAC, (1, .inr (.inl oAy))))]) (va_A [(x, .inr (12, xg)), (deA, .inl (deAC, (6, .inr (.inr (.inr (.inr deAF)))))), (de0, .inr (3, de0g)), (de1, .inr (3, de1g)), (de2, .inr (3, de2g)), (de3, .inr (3, de3g)), (de4, .inr (3, de4g)), (de5, .inr (3, de5g)), (oA, .inl (oAC, (1, .inr (.inl oAf))))] sz)) 1 6 (va_A [(x, .inr (12, xg)), (deA, .inl (deAC, (6, .inr (.inr (.inr (.inr deAF)))))), (de0, .inr (3, de0g)), (de1, .inr (3, de1g)), (de2, .inr (3, de2g)), (de3, .inr (3, de3g)), (de4, .inr (3, de4g)), (de5, .inr (3, de5g)), (oA, .inl (oAC, (1, .inr (.inl oAf))))] sz) := by
  refine Met.ofW (cc := cX12_isThere) (maxL := 3) (ret := (some .boolean)) (by decide) rfl ?_
  intro p e s m args below meth c s₁ B hml hv
  obtain ⟨rfl, hsz, hP, hK, hD0, hth⟩ := hv
  have hx := B.exec
  have hb := B.bytes
  have hr := B.returns
  have hts : ∀ w ∈ BG, w.before _ s = true := fun w h => atoms_spec (ws := Cond.code yX12_isThere cX12_isThere 3 (some .boolean) :: BG) B.pre w (List.mem_cons_of_mem _ h)
  have hown : s.vm.findClass RX12 = some m.cls := findClass_of_methodNamed B.named
  have hlocks := B.notSynchronized
  subst hsz
  have hD := hD0.self (sz := s.heap.size)
  generalize hAe : va_A [(x, .inr (12, xg)), (deA, .inl (deAC, (6, .inr (.inr (.inr (.inr deAF)))))), (de0, .inr (3, de0g)), (de1, .inr (3, de1g)), (de2, .inr (3, de2g)), (de3, .inr (3, de3g)), (de4, .inr (3, de4g)), (de5, .inr (3, de5g)), (oA, .inl (oAC, (1, .inr (.inl oAf))))] s.heap.size = A at hD hth ⊢
  have hA : ∀ q : Nat, s.heap.size ≤ q → A q := fun q h => by rw [← hAe]; exact Or.inr h
  have hS : va_S A s.heap s.heap [] := va_S.rf
  have hl := lv_entry ([.ref x, .int 0, .int 0]) (n := 3) (Nat.le_of_ble_eq_true rfl)
  rw [lg_entry_eq]
  generalize (lg_sl ([.ref x, .int 0, .int 0]) ++ List.replicate (3 - (lg_sl ([.ref x, .int 0, .int 0])).length) Slot.unset).toArray = ls at hl ⊢
  have hl : lv_has ls 3 [(0, .ref x), (1, .int 0), (2, .int 0)] := hl
  obtain ⟨H, eH⟩ : ∃ z, z = s.heap := ⟨_, rfl⟩
  have hP : va_P (dC, dI) CL [(x, .inr (12, xg)), (deA, .inl (deAC, (6, .inr (.inr (.inr (.inr deAF)))))), (de0, .inr (3, de0g)), (de1, .inr (3, de1g)), (de2, .inr (3, de2g)), (de3, .inr (3, de3g)), (de4, .inr (3, de4g)), (de5, .inr (3, de5g)), (oA, .inl (oAC, (1, .inr (.inl oAf))))] H := by rw [eH]; exact hP
  have hS : va_S A s.heap H [] := by rw [eH]; exact hS
  rw [← eH]
  refine lv_iload_n hx hb dX12_isThere_0 rfl (lv_at hl 1 rfl) ?_
  refine lv_if_lt (tgt := 13) hx hb dX12_isThere_1 (by decide) (fun c9 => ?_) (fun c9 => ?_)
  · first | exact absurd c9 (by decide +kernel) | exact absurd (by decide +kernel) c9
  refine lv_iload_n hx hb dX12_isThere_4 rfl (lv_at hl 1 rfl) ?_
  refine lv_iconst (v := 2) hx hb dX12_isThere_5 (by decide +kernel) ?_
  refine lv_icmp_gt (tgt := 13) hx hb dX12_isThere_6 (by decide) (fun c9 => ?_) (fun c9 => ?_)
  · first | exact absurd c9 (by decide +kernel) | exact absurd (by decide +kernel) c9
  refine lv_iconst (v := 1) hx hb dX12_isThere_9 (by decide +kernel) ?_
  refine lv_goto (tgt := 14) hx hb dX12_isThere_10 (by decide) ?_
  have hF0 : ∀ q, va_A [] H.size q → A q := fun q h => h.elim (fun ⟨k9, e9, h9⟩ => by simp at h9) (fun h9 => hA q (Nat.le_trans hS.1 h9))
  refine vx_callv (vx_runS (As := [.int 1]) (rest := []) ⟨hx, hb, hml, hown, hts⟩ (ct_X12_needRange l hlt H.size 1) (cwS 1 hts (gi_S wd_1328 wd_1329 wd_327 wd_1330) rfl rfl rfl (by decide +kernel) ⟨(Nat.le_of_ble_eq_true rfl), (Nat.le_of_ble_eq_true rfl)⟩) ⟨fun a U g mk q => ⟨q.1, q.2.1, th.moved (u := U) (U := U.calling g mk a) (Vm.Alike.refl U.vm) q.2.2⟩, fun U hU hW => ⟨rfl, by rw [hU], by rw [hU]; exact ((hth.kept hS.2.1).narrow hF0).moved hW.alike⟩⟩ rfl rfl hl.1 rfl (lv_room (Nat.le_of_ble_eq_true rfl)) dX12_isThere_14 ⟨(Nat.le_of_ble_eq_true rfl), (Nat.le_of_ble_eq_true rfl)⟩) hS (fun q _ h => hF0 q h) hF0 (fun q _ h => hF0 q h) (fun E ce q9 u t H1 locs ht hvm hp hB hz hk hS hce hcv hcl => absurd hp (by decide +kernel)) (fun u t H1 locs ht hvm hp hB hz hk hS => ?_)
  have hP : va_P (dC, dI) CL [(x, .inr (12, xg)), (deA, .inl (deAC, (6, .inr (.inr (.inr (.inr deAF)))))), (de0, .inr (3, de0g)), (de1, .inr (3, de1g)), (de2, .inr (3, de2g)), (de3, .inr (3, de3g)), (de4, .inr (3, de4g)), (de5, .inr (3, de5g)), (oA, .inl (oAC, (1, .inr (.inl oAf))))] H1 := hP.kept (fun k q h9 => hk _ (vx_lt hP h9) (fun h8 => h8.elim (fun ⟨k9, e9, h7⟩ => by simp at h7) (fun h7 => absurd (vx_lt hP h9) (Nat.not_lt.mpr h7))))
  generalize H1 = H at hP hS ⊢
  refine W.widen (k := 1) (n := 6) (Nat.le_of_ble_eq_true rfl) (Nat.le_of_ble_eq_true rfl) ?_
  refine lv_iload_n hx hb dX12_isThere_17 rfl (lv_at hl 1 rfl) ?_
  refine lv_if_ne (tgt := 49) hx hb dX12_isThere_18 (by decide) (fun c9 => ?_) (fun c9 => ?_)
  · first | exact absurd c9 (by decide +kernel) | exact absurd (by decide +kernel) c9
  refine lv_iload_n hx hb dX12_isThere_21 rfl (lv_at hl 2 rfl) ?_
  refine lv_if_lt (tgt := 47) hx hb dX12_isThere_22 (by decide) (fun c9 => ?_) (fun c9 => ?_)
  · first | exact absurd c9 (by decide +kernel) | exact absurd (by decide +kernel) c9
  refine lv_iload_n hx hb dX12_isThere_25 rfl (lv_at hl 2 rfl) ?_
  refine lv_bipush (v := 6) hx hb dX12_isThere_26 (by decide +kernel) ?_
  refine lv_icmp_ge (tgt := 47) hx hb dX12_isThere_28 (by decide) (fun c9 => ?_) (fun c9 => ?_)
  · first | exact absurd c9 (by decide +kernel) | exact absurd (by decide +kernel) c9
  refine lv_aload_n hx hb dX12_isThere_31 rfl (lv_at hl 0 rfl) ?_
  refine va_get (D := (dC, dI)) (ci := 12) (v := .ref deA) (C := RX12) (T := TX12) (N := 17) hx hb hts inX12 hown hK hP 0 rfl rfl 7 (by decide) (hts (.fieldLink RX12 64 "ChipFlow" "designs" "[LChipFlow$Design;") wd_1185) (fun _ h9 => h9) (h_x.get 0 rfl) dX12_isThere_32 ?_
  refine lv_iload_n hx hb dX12_isThere_35 rfl (lv_at hl 2 rfl) ?_
  refine va_aldq hx hb hK hP 1 0 rfl rfl (vp_in_nI (n := 0) (N := 6) (by decide) (by decide)) dX12_isThere_36 ?_
  rw [show (0 : Int32).toNatClampNeg = 0 by decide +kernel, h_deA0]
  refine W.eq (g2 := F0 m 37 ls [.ref de0]) rfl ?_
  refine va_get (D := (dC, dI)) (ci := 3) (v := .int 0) (C := RX3) (T := TX3) (N := 16) hx hb hts inX3 hown hK hP 2 rfl rfl 0 (by decide) (hts (.fieldLink RX12 148 "ChipFlow$Design" "used" "Z") wd_766) (fun _ h9 => h9) (h_de0.get 0 rfl) dX12_isThere_37 ?_
  refine lv_if_eq (tgt := 47) hx hb dX12_isThere_40 (by decide) (fun c9 => ?_) (fun c9 => ?_)
  rotate_left
  · first | exact absurd c9 (by decide +kernel) | exact absurd (by decide +kernel) c9
  refine lv_iconst (v := 0) hx hb dX12_isThere_47 (by decide +kernel) ?_
  refine W.widen (k := 1) (n := 6) (Nat.le_of_ble_eq_true rfl) (Nat.le_of_ble_eq_true rfl) ?_
  exact W.zret (v := 0) hx hb hr rfl (fun t ht hW => ⟨⟨0, (), rfl, rfl, xg, de0g, de1g, de2g, de3g, de4g, de5g, oAf, h_x, h_de0, h_de1, h_de2, h_de3, h_de4, h_de5, h_oA, by rw [ht]; exact hP, va_K.moved hW.alike hK, hD⟩, hS.F ht⟩) hS.2.2 dX12_isThere_48
set_option maxHeartbeats 4000000 in
set_option maxRecDepth 100000 in
theorem gx76_L_isThere (l : Launch) (hlt : l.stackTraces = false) (dC : Nat → ClassId) (dI : Nat → Nat → Nat) (sz : Nat) (x deA de0 de1 de2 de3 de4 de5 oA liA chA : Nat) (xg : List Value) (h_x : fx xg 17 [(7, .ref deA), (8, .ref liA), (9, .ref chA)]) (deAC : ClassId) (deAF : Nat → Option Nat) (de0g : List Value) (h_de0 : fx de0g 16 [(0, .int 0)]) (de1g : List Value) (h_de1 : fx de1g 16 [(0, .int 0)]) (de2g : List Value) (h_de2 : fx de2g 16 [(0, .int 0)]) (de3g : List Value) (h_de3 : fx de3g 16 [(0, .int 0)]) (de4g : List Value) (h_de4 : fx de4g 16 [(0, .int 0)]) (de5g : List Value) (h_de5 : fx de5g 16 [(0, .int 0)]) (oAC : ClassId) (oAf : Nat → Int64) (h_oA : fa oAf []) (h_deA0 : deAF 0 = some de0) (h_deA1 : deAF 1 = some de1) (h_deA2 : deAF 2 = some de2) (h_deA3 : deAF 3 = some de3) (h_deA4 : deAF 4 = some de4) (h_deA5 : deAF 5 = some de5) : Met l yL_isThere (Cond.codeWith yL_isThere cL_isThere 5 (some .int) [(0, 17, 20, 19)] :: BG) ({ frames := 8, cells := 1, slots := 6, locals := 152 }) (va_Pc [.ref x, .int 0, .int 0, .ref oA] (fun U => U.heap.size = sz ∧ va_P (dC, dI) CL [(x, .inr (12, xg)), (deA, .inl (deAC, (6, .inr (.inr (.inr (.inr deAF)))))), (de0, .inr (3, de0g)), (de1, .inr (3, de1g)), (de2, .inr (3, de2g)), (de3, .inr (3, de3g)), (de4, .inr (3, de4g)), (de5, .inr (3, de5g)), (oA, .inl (oAC, (1, .inr (.inl oAf))))] U.heap ∧ va_K (dC, dI) CL [(deAC, .object "ChipFlow$Design"), (oAC, .long)] U ∧ va_D (fun _ => True) [(x, .inr (12, xg)), (deA, .inl (deAC, (6, .inr (.inr (.inr (.inr deAF)))))), (de0, .inr (3, de0g)), (de1, .inr (3, de1g)), (de2, .inr (3, de2g)), (de3, .inr (3, de3g)), (de4, .inr (3, de4g)), (de5, .inr (3, de5g)), (oA, .inl (oAC, (1, .inr (.inl oAf))))] ∧ th (va_A [(x, .inr (12, xg)), (deA, .inl (deAC, (6, .inr (.inr (.inr (.inr deAF)))))), (de0, .inr (3, de0g)), (de1, .inr (3, de1g)), (de2, .inr (3, de2g)), (de3, .inr (3, de3g)), (de4, .inr (3, de4g)), (de5, .inr (3, de5g)), (oA, .inl (oAC, (1, .inr (.inl oAf))))] sz) U U.heap)) (va_Qi (fun (r : Int32) (_ : Unit) => r = 0) (fun _ t => ∃ (xy : List Value) (de0y : List Value) (de1y : List Value) (de2y : List Value) (de3y : List Value) (de4y : List Value) (de5y : List Value) (oAy : Nat → Int64), fx xy 17 [(7, .ref deA), (8, .ref liA), (9, .ref chA)] ∧ fx de0y 16 [(0, .int 0)] ∧ fx de1y 16 [(0, .int 0)] ∧ fx de2y 16 [(0, .int 0)] ∧ fx de3y 16 [(0, .int 0)] ∧ fx de4y 16 [(0, .int 0)] ∧ fx de5y 16 [(0, .int 0)] ∧ fa oAy [(0, 0)] ∧ va_P (dC, dI) CL [(x, .inr (12, xy)), (deA, .inl (deAC, (6, .inr (.inr (.inr (.inr deAF)))))), (de0, .inr (3, de0y)), (de1, .inr (3, de1y)), (de2, .inr (3, de2y)), (de3, .inr (3, de3y)), (de4, .inr (3, de4y)), (de5, .inr (3, de5y)), (oA, .inl (oAC, (1, .inr (.inl oAy))))] t.heap ∧ va_K (dC, dI) CL [(deAC, .object "ChipFlow$Design"), (oAC, .long)] t ∧ va_D (va_A [(x, .inr (12, xg)), (deA, .inl (deAC, (6, .inr (.inr (.inr (.inr deAF)))))), (de0, .inr (3, de0g)), (de1, .inr (3, de1g)), (de2, .inr (3, de2g)), (de3, .inr (3, de3g)), (de4, .inr (3, de4g)), (de5, .inr (3, de5g)), (oA, .inl (oAC, (1, .inr (.inl oAf))))] sz) [(x, .inr (12, xy)), (deA, .inl (deAC, (6, .inr (.inr (.inr (.inr deAF)))))), (de0, .inr (3, de0y)), (de1, .inr (3, de1y)), (de2, .inr (3, de2y)), (de3, .inr (3, de3y)), (de4, .inr (3, de4y)), (de5, .inr (3, de5y)), (oA, .inl (oAC, (1, .inr (.inl oAy))))]) (va_A [(x, .inr (12, xg)), (deA, .inl (deAC, (6, .inr (.inr (.inr (.inr deAF)))))), (de0, .inr (3, de0g)), (de1, .inr (3, de1g)), (de2, .inr (3, de2g)), (de3, .inr (3, de3g)), (de4, .inr (3, de4g)), (de5, .inr (3, de5g)), (oA, .inl (oAC, (1, .inr (.inl oAf))))] sz)) 1 6 (va_A [(x, .inr (12, xg)), (deA, .inl (deAC, (6, .inr (.inr (.inr (.inr deAF)))))), (de0, .inr (3, de0g)), (de1, .inr (3, de1g)), (de2, .inr (3, de2g)), (de3, .inr (3, de3g)), (de4, .inr (3, de4g)), (de5, .inr (3, de5g)), (oA, .inl (oAC, (1, .inr (.inl oAf))))] sz) := by
  refine va_MetW (hh := [(0, 17, 20, 19)]) (cc := cL_isThere) (maxL := 5) (ret := (some .int)) (by decide) rfl ?_
  intro p e s m args below meth c s₁ B hml hv
  obtain ⟨rfl, hsz, hP, hK, hD0, hth⟩ := hv
  have hx := B.exec
  have hb := B.bytes
  have hr := B.returns
  have hts : ∀ w ∈ BG, w.before _ s = true := fun w h => atoms_spec (ws := Cond.codeWith yL_isThere cL_isThere 5 (some .int) [(0, 17, 20, 19)] :: BG) B.pre w (List.mem_cons_of_mem _ h)
  have hown : s.vm.findClass RL = some m.cls := findClass_of_methodNamed B.named
  have hlocks := B.notSynchronized
  subst hsz
  have hD := hD0.self (sz := s.heap.size)
  generalize hAe : va_A [(x, .inr (12, xg)), (deA, .inl (deAC, (6, .inr (.inr (.inr (.inr deAF)))))), (de0, .inr (3, de0g)), (de1, .inr (3, de1g)), (de2, .inr (3, de2g)), (de3, .inr (3, de3g)), (de4, .inr (3, de4g)), (de5, .inr (3, de5g)), (oA, .inl (oAC, (1, .inr (.inl oAf))))] s.heap.size = A at hD hth ⊢
  have hA : ∀ q : Nat, s.heap.size ≤ q → A q := fun q h => by rw [← hAe]; exact Or.inr h
  have hS : va_S A s.heap s.heap [] := va_S.rf
  have hl := lv_entry ([.ref x, .int 0, .int 0, .ref oA]) (n := 5) (Nat.le_of_ble_eq_true rfl)
  rw [lg_entry_eq]
  generalize (lg_sl ([.ref x, .int 0, .int 0, .ref oA]) ++ List.replicate (5 - (lg_sl ([.ref x, .int 0, .int 0, .ref oA])).length) Slot.unset).toArray = ls at hl ⊢
  have hl : lv_has ls 5 [(0, .ref x), (1, .int 0), (2, .int 0), (3, .ref oA)] := hl
  obtain ⟨H, eH⟩ : ∃ z, z = s.heap := ⟨_, rfl⟩
  have hP : va_P (dC, dI) CL [(x, .inr (12, xg)), (deA, .inl (deAC, (6, .inr (.inr (.inr (.inr deAF)))))), (de0, .inr (3, de0g)), (de1, .inr (3, de1g)), (de2, .inr (3, de2g)), (de3, .inr (3, de3g)), (de4, .inr (3, de4g)), (de5, .inr (3, de5g)), (oA, .inl (oAC, (1, .inr (.inl oAf))))] H := by rw [eH]; exact hP
  have hS : va_S A s.heap H [] := by rw [eH]; exact hS
  rw [← eH]
  have hT : c.exceptionTable.toList = tableOf [(0, 17, 20, 19)] := vx_table (x := yL_isThere) B (atoms_spec (ws := Cond.codeWith yL_isThere cL_isThere 5 (some .int) [(0, 17, 20, 19)] :: BG) B.pre _ List.mem_cons_self)
  refine lv_aload_n hx hb dL_isThere_0 rfl (lv_at hl 3 rfl) ?_
  refine lv_iconst (v := 0) hx hb dL_isThere_1 (by decide +kernel) ?_
  refine lv_aload_n hx hb dL_isThere_2 rfl (lv_at hl 0 rfl) ?_
  refine lv_iload_n hx hb dL_isThere_3 rfl (lv_at hl 1 rfl) ?_
  refine lv_iload_n hx hb dL_isThere_4 rfl (lv_at hl 2 rfl) ?_
  have hFc := va_free (wc := [(x, .inr (12, xg)), (deA, .inl (deAC, (6, .inr (.inr (.inr (.inr deAF)))))), (de0, .inr (3, de0g)), (de1, .inr (3, de1g)), (de2, .inr (3, de2g)), (de3, .inr (3, de3g)), (de4, .inr (3, de4g)), (de5, .inr (3, de5g)), (oA, .inl (oAC, (1, .inr (.inl oAf))))]) hD hS hA [0, 1, 2, 3, 4, 5, 6, 7, 8] rfl
  refine va_calli (va_runV (As := [.int 0, .int 0]) (rest := [.int 0, .ref oA]) ⟨hx, hb, hml, hown, hts⟩ (gx77_X12_isThere l hlt dC dI _ x deA de0 de1 de2 de3 de4 de5 oA liA chA xg h_x deAC deAF de0g h_de0 de1g h_de1 de2g h_de2 de3g h_de3 de4g h_de4 de5g h_de5 oAC oAf h_oA h_deA0 h_deA1 h_deA2 h_deA3 h_deA4 h_deA5) (cwV 2 hts (gi_V wd_1842 wd_1843 wd_1844 wd_327 wd_1845) rfl rfl rfl (by decide +kernel) ⟨(Nat.le_of_ble_eq_true rfl), (Nat.le_of_ble_eq_true rfl)⟩) ⟨fun a U g mk q => by obtain ⟨q0, q1, qP, qK, qD, qT⟩ := q; exact ⟨q0, q1, qP, va_K.moved (u := U) (U := U.calling g mk a) (Vm.Alike.refl U.vm) qK, qD, th.moved (u := U) (U := U.calling g mk a) (Vm.Alike.refl U.vm) qT⟩, va_recv hK hP (ci := 12) (q0 := 0) rfl rfl, fun U hU hW => ⟨rfl, by rw [hU], by rw [hU]; exact hP, va_K.moved hW.alike hK, hD.weaken (fun _ _ _ _ => trivial), by rw [hU]; exact ((hth.kept hS.2.1).narrow hFc).moved hW.alike⟩⟩ rfl rfl hl.1 rfl (lv_room (Nat.le_of_ble_eq_true rfl)) dL_isThere_5 ⟨(Nat.le_of_ble_eq_true rfl), (Nat.le_of_ble_eq_true rfl)⟩) hS (fun q _ h => hFc q h) hFc (fun r u t H1 locs ht hvm hw hB hz1 hk1 hS => ?_)
  subst hw
  obtain ⟨fs_1, fs_2, fs_3, fs_4, fs_5, fs_6, fs_7, f_8, h_x, h_de0, h_de1, h_de2, h_de3, h_de4, h_de5, h_oA, hP1, hK1, hD1⟩ := hB
  rw [ht] at hP1
  have hD := hD1.weaken (fun k q _ h => hFc q.1 h)
  have hP := hP1
  generalize H1 = H at hP hS ⊢
  have hP : va_P (dC, dI) CL [(x, .inr (12, fs_1)), (deA, .inl (deAC, (6, .inr (.inr (.inr (.inr deAF)))))), (de0, .inr (3, fs_2)), (de1, .inr (3, fs_3)), (de2, .inr (3, fs_4)), (de3, .inr (3, fs_5)), (de4, .inr (3, fs_6)), (de5, .inr (3, fs_7)), (oA, .inl (oAC, (1, .inr (.inl f_8))))] H := hP
  have hD : va_D A [(x, .inr (12, fs_1)), (deA, .inl (deAC, (6, .inr (.inr (.inr (.inr deAF)))))), (de0, .inr (3, fs_2)), (de1, .inr (3, fs_3)), (de2, .inr (3, fs_4)), (de3, .inr (3, fs_5)), (de4, .inr (3, fs_6)), (de5, .inr (3, fs_7)), (oA, .inl (oAC, (1, .inr (.inl f_8))))] := hD
  refine W.widen (k := 1) (n := 6) (Nat.le_of_ble_eq_true rfl) (Nat.le_of_ble_eq_true rfl) ?_
  refine lv_if_eq (tgt := 15) hx hb dL_isThere_8 (by decide) (fun c9 => ?_) (fun c9 => ?_)
  rotate_left
  · first | exact absurd c9 (by decide +kernel) | exact absurd (by decide +kernel) c9
  refine lv_lconst (v := 0) hx hb dL_isThere_15 (by decide) ?_
  refine va_last hx hb hK hP hD hS 8 1 rfl rfl (vp_in_nI (n := 0) (N := 1) (by decide) (by decide)) dL_isThere_16 (fun H locs hP hD hS => ?_)
  obtain ⟨f_9, e9⟩ : ∃ z, z = vp_updL f_8 (0 : Int32).toNatClampNeg 0 := ⟨_, rfl⟩
  have h_oA : fa f_9 [(0, 0)] := by rw [e9, show (0 : Int32).toNatClampNeg = 0 by decide +kernel]; exact (fa.putL h_oA).sub [0] rfl
  have hP : va_P (dC, dI) CL [(x, .inr (12, fs_1)), (deA, .inl (deAC, (6, .inr (.inr (.inr (.inr deAF)))))), (de0, .inr (3, fs_2)), (de1, .inr (3, fs_3)), (de2, .inr (3, fs_4)), (de3, .inr (3, fs_5)), (de4, .inr (3, fs_6)), (de5, .inr (3, fs_7)), (oA, .inl (oAC, (1, .inr (.inl f_9))))] H := by rw [e9]; exact hP
  have hD : va_D A [(x, .inr (12, fs_1)), (deA, .inl (deAC, (6, .inr (.inr (.inr (.inr deAF)))))), (de0, .inr (3, fs_2)), (de1, .inr (3, fs_3)), (de2, .inr (3, fs_4)), (de3, .inr (3, fs_5)), (de4, .inr (3, fs_6)), (de5, .inr (3, fs_7)), (oA, .inl (oAC, (1, .inr (.inl f_9))))] := by rw [e9]; exact hD
  clear e9
  refine lv_goto (tgt := 24) hx hb dL_isThere_17 (by decide) ?_
  refine lv_iconst (v := 0) hx hb dL_isThere_24 (by decide +kernel) ?_
  refine W.widen (k := 1) (n := 6) (Nat.le_of_ble_eq_true rfl) (Nat.le_of_ble_eq_true rfl) ?_
  exact W.iret (v := 0) hx hb hr (fun t ht hW => ⟨⟨0, (), rfl, rfl, fs_1, fs_2, fs_3, fs_4, fs_5, fs_6, fs_7, f_9, h_x, h_de0, h_de1, h_de2, h_de3, h_de4, h_de5, h_oA, by rw [ht]; exact hP, va_K.moved hW.alike hK, hD⟩, hS.F ht⟩) hS.2.2 dL_isThere_25
set_option maxHeartbeats 4000000 in
set_option maxRecDepth 100000 in
theorem gx79_X13_isOne (l : Launch) (hlt : l.stackTraces = false) (dC : Nat → ClassId) (dI : Nat → Nat → Nat) (sz : Nat) (m0 md ml mch : Nat) (m0g : List Value) (h_m0 : fx m0g 225 [(0, .int 0), (2, .int 0), (3, .int 0), (9, .int 0), (10, .int 0), (11, .int 0), (12, .int 0), (27, .int 0), (55, .ref md), (79, .int 0), (83, .int 0), (88, .ref ml), (95, .int 0), (138, .ref mch)]) (mdC : ClassId) : Met l yX13_isOne (Cond.code yX13_isOne cX13_isOne 3 (some .boolean) :: BG) ({ frames := 2, cells := 0, slots := 0, locals := 33 }) (va_Pc [.ref m0, .int 0, .int 0] (fun U => U.heap.size = sz ∧ va_P (dC, dI) CL [(m0, .inr (13, m0g)), (md, .inl (mdC, (6, .inl (fun _ => 0))))] U.heap ∧ va_K (dC, dI) CL [(mdC, .boolean)] U ∧ va_D (fun _ => True) [(m0, .inr (13, m0g)), (md, .inl (mdC, (6, .inl (fun _ => 0))))] ∧ th (va_A [(m0, .inr (13, m0g)), (md, .inl (mdC, (6, .inl (fun _ => 0))))] sz) U U.heap)) (va_Qi (fun (r : Int32) (_ : Unit) => r = 0) (fun _ t => ∃ (m0y : List Value), fx m0y 225 [(0, .int 0), (2, .int 0), (3, .int 0), (9, .int 0), (10, .int 0), (11, .int 0), (12, .int 0), (27, .int 0), (55, .ref md), (79, .int 0), (83, .int 0), (88, .ref ml), (95, .int 0), (138, .ref mch)] ∧ va_P (dC, dI) CL [(m0, .inr (13, m0y)), (md, .inl (mdC, (6, .inl (fun _ => 0))))] t.heap ∧ va_K (dC, dI) CL [(mdC, .boolean)] t ∧ va_D (va_A [(m0, .inr (13, m0g)), (md, .inl (mdC, (6, .inl (fun _ => 0))))] sz) [(m0, .inr (13, m0y)), (md, .inl (mdC, (6, .inl (fun _ => 0))))]) (va_A [(m0, .inr (13, m0g)), (md, .inl (mdC, (6, .inl (fun _ => 0))))] sz)) 0 0 (va_A [(m0, .inr (13, m0g)), (md, .inl (mdC, (6, .inl (fun _ => 0))))] sz) := by
  refine Met.ofW (cc := cX13_isOne) (maxL := 3) (ret := (some .boolean)) (by decide) rfl ?_
  intro p e s m args below meth c s₁ B hml hv
  obtain ⟨rfl, hsz, hP, hK, hD0, hth⟩ := hv
  have hx := B.exec
  have hb := B.bytes
  have hr := B.returns
  have hts : ∀ w ∈ BG, w.before _ s = true := fun w h => atoms_spec (ws := Cond.code yX13_isOne cX13_isOne 3 (some .boolean) :: BG) B.pre w (List.mem_cons_of_mem _ h)
  have hown : s.vm.findClass RX13 = some m.cls := findClass_of_methodNamed B.named
  have hlocks := B.notSynchronized
  subst hsz
  have hD := hD0.self (sz := s.heap.size)
  generalize hAe : va_A [(m0, .inr (13, m0g)), (md, .inl (mdC, (6, .inl (fun _ => 0))))] s.heap.size = A at hD hth ⊢
  have hA : ∀ q : Nat, s.heap.size ≤ q → A q := fun q h => by rw [← hAe]; exact Or.inr h
  have hS : va_S A s.heap s.heap [] := va_S.rf
  have hl := lv_entry ([.ref m0, .int 0, .int 0]) (n := 3) (Nat.le_of_ble_eq_true rfl)
  rw [lg_entry_eq]
  generalize (lg_sl ([.ref m0, .int 0, .int 0]) ++ List.replicate (3 - (lg_sl ([.ref m0, .int 0, .int 0])).length) Slot.unset).toArray = ls at hl ⊢
  have hl : lv_has ls 3 [(0, .ref m0), (1, .int 0), (2, .int 0)] := hl
  obtain ⟨H, eH⟩ : ∃ z, z = s.heap := ⟨_, rfl⟩
  have hP : va_P (dC, dI) CL [(m0, .inr (13, m0g)), (md, .inl (mdC, (6, .inl (fun _ => 0))))] H := by rw [eH]; exact hP
  have hS : va_S A s.heap H [] := by rw [eH]; exact hS
  rw [← eH]
  refine lv_iload_n hx hb dX13_isOne_0 rfl (lv_at hl 1 rfl) ?_
  refine lv_if_ne (tgt := 12) hx hb dX13_isOne_1 (by decide) (fun c9 => ?_) (fun c9 => ?_)
  · first | exact absurd c9 (by decide +kernel) | exact absurd (by decide +kernel) c9
  refine lv_aload_n hx hb dX13_isOne_4 rfl (lv_at hl 0 rfl) ?_
  refine lv_iload_n hx hb dX13_isOne_5 rfl (lv_at hl 2 rfl) ?_
  have hFc := va_free (wc := [(m0, .inr (13, m0g)), (md, .inl (mdC, (6, .inl (fun _ => 0))))]) hD hS hA [0, 1] rfl
  refine va_calli (va_runV (As := [.int 0]) (rest := []) ⟨hx, hb, hml, hown, hts⟩ (ct_X13_isDesign l dC dI _ 0 m0 m0g md mdC (h_m0.sub [8] rfl)) (cwV 1 hts (gi_V wd_4076 wd_4078 wd_215 wd_340 wd_4079) rfl rfl rfl (by decide +kernel) ⟨(Nat.le_of_ble_eq_true rfl), (Nat.le_of_ble_eq_true rfl)⟩) ⟨fun a U g mk q => by obtain ⟨q0, q1, qP, qK, qD⟩ := q; exact ⟨q0, q1, qP, va_K.moved (u := U) (U := U.calling g mk a) (Vm.Alike.refl U.vm) qK, qD⟩, va_recv hK hP (ci := 13) (q0 := 0) rfl rfl, fun U hU hW => ⟨rfl, by rw [hU], by rw [hU]; exact hP, va_K.moved hW.alike hK, hD.weaken (fun _ _ _ _ => trivial)⟩⟩ rfl rfl hl.1 rfl (lv_room (Nat.le_of_ble_eq_true rfl)) dX13_isOne_6 ⟨(Nat.le_of_ble_eq_true rfl), (Nat.le_of_ble_eq_true rfl)⟩) hS (fun q _ h => hFc q h) hFc (fun r u t H1 locs ht hvm hw hB hz1 hk1 hS => ?_)
  subst hw
  obtain ⟨hP1, hK1, hD1⟩ := hB
  rw [ht] at hP1
  have hD := hD1.weaken (fun k q _ h => hFc q.1 h)
  have hP := hP1
  generalize H1 = H at hP hS ⊢
  have hP : va_P (dC, dI) CL [(m0, .inr (13, m0g)), (md, .inl (mdC, (6, .inl (fun _ => 0))))] H := hP
  have hD : va_D A [(m0, .inr (13, m0g)), (md, .inl (mdC, (6, .inl (fun _ => 0))))] := hD
  refine lv_goto (tgt := 30) hx hb dX13_isOne_9 (by decide) ?_
  exact W.zret (v := 0) hx hb hr rfl (fun t ht hW => ⟨⟨0, (), rfl, rfl, m0g, h_m0, by rw [ht]; exact hP, va_K.moved hW.alike hK, hD⟩, hS.F ht⟩) hS.2.2 dX13_isOne_30
set_option maxHeartbeats 4000000 in
set_option maxRecDepth 100000 in
theorem gx78_X13_isThere (l : Launch) (hlt : l.stackTraces = false) (dC : Nat → ClassId) (dI : Nat → Nat → Nat) (sz : Nat) (m0 md ml mch : Nat) (m0g : List Value) (h_m0 : fx m0g 225 [(0, .int 0), (2, .int 0), (3, .int 0), (9, .int 0), (10, .int 0), (11, .int 0), (12, .int 0), (27, .int 0), (55, .ref md), (79, .int 0), (83, .int 0), (88, .ref ml), (95, .int 0), (138, .ref mch)]) (mdC : ClassId) : Met l yX13_isThere (Cond.code yX13_isThere cX13_isThere 3 (some .boolean) :: BG) ({ frames := 3, cells := 0, slots := 0, locals := 55 }) (va_Pc [.ref m0, .int 0, .int 0] (fun U => U.heap.size = sz ∧ va_P (dC, dI) CL [(m0, .inr (13, m0g)), (md, .inl (mdC, (6, .inl (fun _ => 0))))] U.heap ∧ va_K (dC, dI) CL [(mdC, .boolean)] U ∧ va_D (fun _ => True) [(m0, .inr (13, m0g)), (md, .inl (mdC, (6, .inl (fun _ => 0))))] ∧ th (va_A [(m0, .inr (13, m0g)), (md, .inl (mdC, (6, .inl (fun _ => 0))))] sz) U U.heap)) (va_Qi (fun (r : Int32) (_ : Unit) => r = 0) (fun _ t => ∃ (m0y : List Value), fx m0y 225 [(0, .int 0), (2, .int 0), (3, .int 0), (9, .int 0), (10, .int 0), (11, .int 0), (12, .int 0), (27, .int 0), (55, .ref md), (79, .int 0), (83, .int 0), (88, .ref ml), (95, .int 0), (138, .ref mch)] ∧ va_P (dC, dI) CL [(m0, .inr (13, m0y)), (md, .inl (mdC, (6, .inl (fun _ => 0))))] t.heap ∧ va_K (dC, dI) CL [(mdC, .boolean)] t ∧ va_D (va_A [(m0, .inr (13, m0g)), (md, .inl (mdC, (6, .inl (fun _ => 0))))] sz) [(m0, .inr (13, m0y)), (md, .inl (mdC, (6, .inl (fun _ => 0))))]) (va_A [(m0, .inr (13, m0g)), (md, .inl (mdC, (6, .inl (fun _ => 0))))] sz)) 0 0 (va_A [(m0, .inr (13, m0g)), (md, .inl (mdC, (6, .inl (fun _ => 0))))] sz) := by
  refine Met.ofW (cc := cX13_isThere) (maxL := 3) (ret := (some .boolean)) (by decide) rfl ?_
  intro p e s m args below meth c s₁ B hml hv
  obtain ⟨rfl, hsz, hP, hK, hD0, hth⟩ := hv
  have hx := B.exec
  have hb := B.bytes
  have hr := B.returns
  have hts : ∀ w ∈ BG, w.before _ s = true := fun w h => atoms_spec (ws := Cond.code yX13_isThere cX13_isThere 3 (some .boolean) :: BG) B.pre w (List.mem_cons_of_mem _ h)
  have hown : s.vm.findClass RX13 = some m.cls := findClass_of_methodNamed B.named
  have hlocks := B.notSynchronized
  subst hsz
  have hD := hD0.self (sz := s.heap.size)
  generalize hAe : va_A [(m0, .inr (13, m0g)), (md, .inl (mdC, (6, .inl (fun _ => 0))))] s.heap.size = A at hD hth ⊢
  have hA : ∀ q : Nat, s.heap.size ≤ q → A q := fun q h => by rw [← hAe]; exact Or.inr h
  have hS : va_S A s.heap s.heap [] := va_S.rf
  have hl := lv_entry ([.ref m0, .int 0, .int 0]) (n := 3) (Nat.le_of_ble_eq_true rfl)
  rw [lg_entry_eq]
  generalize (lg_sl ([.ref m0, .int 0, .int 0]) ++ List.replicate (3 - (lg_sl ([.ref m0, .int 0, .int 0])).length) Slot.unset).toArray = ls at hl ⊢
  have hl : lv_has ls 3 [(0, .ref m0), (1, .int 0), (2, .int 0)] := hl
  obtain ⟨H, eH⟩ : ∃ z, z = s.heap := ⟨_, rfl⟩
  have hP : va_P (dC, dI) CL [(m0, .inr (13, m0g)), (md, .inl (mdC, (6, .inl (fun _ => 0))))] H := by rw [eH]; exact hP
  have hS : va_S A s.heap H [] := by rw [eH]; exact hS
  rw [← eH]
  refine lv_aload_n hx hb dX13_isThere_0 rfl (lv_at hl 0 rfl) ?_
  refine lv_iload_n hx hb dX13_isThere_1 rfl (lv_at hl 1 rfl) ?_
  refine lv_iconst (v := 0) hx hb dX13_isThere_2 (by decide +kernel) ?_
  refine lv_iconst (v := 2) hx hb dX13_isThere_3 (by decide +kernel) ?_
  have hFc := va_free (wc := [(m0, .inr (13, m0g)), (md, .inl (mdC, (6, .inl (fun _ => 0))))]) hD hS hA [0, 1] rfl
  refine va_calli (va_runS (As := [.int 0, .int 0, .int 2]) (rest := [.ref m0]) ⟨hx, hb, hml, hown, hts⟩ (gx48_X13_within l hlt dC dI _ m0 md ml mch m0g h_m0 mdC) (cwS 3 hts (gi_S wd_3825 wd_3826 wd_340 wd_3827) rfl rfl rfl (by decide +kernel) ⟨(Nat.le_of_ble_eq_true rfl), (Nat.le_of_ble_eq_true rfl)⟩) ⟨fun a U g mk q => by obtain ⟨q0, q1, qP, qK, qD, qT⟩ := q; exact ⟨q0, q1, qP, va_K.moved (u := U) (U := U.calling g mk a) (Vm.Alike.refl U.vm) qK, qD, th.moved (u := U) (U := U.calling g mk a) (Vm.Alike.refl U.vm) qT⟩, fun U hU hW => ⟨rfl, by rw [hU], by rw [hU]; exact hP, va_K.moved hW.alike hK, hD.weaken (fun _ _ _ _ => trivial), by rw [hU]; exact ((hth.kept hS.2.1).narrow hFc).moved hW.alike⟩⟩ rfl rfl hl.1 rfl (lv_room (Nat.le_of_ble_eq_true rfl)) dX13_isThere_4 ⟨(Nat.le_of_ble_eq_true rfl), (Nat.le_of_ble_eq_true rfl)⟩) hS (fun q _ h => hFc q h) hFc (fun r u t H1 locs ht hvm hw hB hz1 hk1 hS => ?_)
  subst hw
  obtain ⟨fs_1, h_m0, hP1, hK1, hD1⟩ := hB
  rw [ht] at hP1
  have hD := hD1.weaken (fun k q _ h => hFc q.1 h)
  have hP := hP1
  generalize H1 = H at hP hS ⊢
  have hP : va_P (dC, dI) CL [(m0, .inr (13, fs_1)), (md, .inl (mdC, (6, .inl (fun _ => 0))))] H := hP
  have hD : va_D A [(m0, .inr (13, fs_1)), (md, .inl (mdC, (6, .inl (fun _ => 0))))] := hD
  refine lv_if_eq (tgt := 14) hx hb dX13_isThere_7 (by decide) (fun c9 => ?_) (fun c9 => ?_)
  · first | exact absurd c9 (by decide +kernel) | exact absurd (by decide +kernel) c9
  refine lv_iconst (v := 0) hx hb dX13_isThere_10 (by decide +kernel) ?_
  refine lv_goto (tgt := 15) hx hb dX13_isThere_11 (by decide) ?_
  refine va_put (D := (dC, dI)) (ci := 13) (v := .int 0) (ty := tyX13 0) (C := RX13) (T := TX13) (N := 225) hx hb hts inX13 tyX13 tyX13_ok nmX13 hown hK hP hD hS 0 rfl rfl 0 (by decide) (hts (.fieldLink RX13 1 "ChipFlowModel" "code" "I") wd_3032) (fun _ h9 => h9) rfl (by decide +kernel) rfl rfl (by rw [h_m0.1]; decide) dX13_isThere_15 (fun H locs hP hD hS => ?_)
  obtain ⟨fs_2, e9⟩ : ∃ z, z = fs_1.set 0 (.int 0) := ⟨_, rfl⟩
  have h_m0 : fx fs_2 225 [(0, .int 0), (2, .int 0), (3, .int 0), (9, .int 0), (10, .int 0), (11, .int 0), (12, .int 0), (27, .int 0), (55, .ref md), (79, .int 0), (83, .int 0), (88, .ref ml), (95, .int 0), (138, .ref mch)] := by rw [e9]; exact (h_m0.put (F' := [(0, .int 0), (2, .int 0), (3, .int 0), (9, .int 0), (10, .int 0), (11, .int 0), (12, .int 0), (27, .int 0), (55, .ref md), (79, .int 0), (83, .int 0), (88, .ref ml), (95, .int 0), (138, .ref mch)]) (by decide) _ rfl).sub [0, 1, 2, 3, 4, 5, 6, 7, 8, 9, 10, 11, 12, 13] rfl
  have hP : va_P (dC, dI) CL [(m0, .inr (13, fs_2)), (md, .inl (mdC, (6, .inl (fun _ => 0))))] H := by rw [e9]; exact hP
  have hD : va_D A [(m0, .inr (13, fs_2)), (md, .inl (mdC, (6, .inl (fun _ => 0))))] := by rw [e9]; exact hD
  clear e9
  refine lv_aload_n hx hb dX13_isThere_18 rfl (lv_at hl 0 rfl) ?_
  refine va_get (D := (dC, dI)) (ci := 13) (v := .int 0) (C := RX13) (T := TX13) (N := 225) hx hb hts inX13 hown hK hP 0 rfl rfl 0 (by decide) (hts (.fieldLink RX13 1 "ChipFlowModel" "code" "I") wd_3032) (fun _ h9 => h9) (h_m0.get 0 rfl) dX13_isThere_19 ?_
  refine lv_if_ne (tgt := 38) hx hb dX13_isThere_22 (by decide) (fun c9 => ?_) (fun c9 => ?_)
  · first | exact absurd c9 (by decide +kernel) | exact absurd (by decide +kernel) c9
  refine lv_aload_n hx hb dX13_isThere_25 rfl (lv_at hl 0 rfl) ?_
  refine lv_iload_n hx hb dX13_isThere_26 rfl (lv_at hl 1 rfl) ?_
  refine lv_iload_n hx hb dX13_isThere_27 rfl (lv_at hl 2 rfl) ?_
  have hFc := va_free (wc := [(m0, .inr (13, fs_2)), (md, .inl (mdC, (6, .inl (fun _ => 0))))]) hD hS hA [0, 1] rfl
  refine va_calli (va_runV (As := [.int 0, .int 0]) (rest := []) ⟨hx, hb, hml, hown, hts⟩ (gx79_X13_isOne l hlt dC dI _ m0 md ml mch fs_2 h_m0 mdC) (cwV 2 hts (gi_V wd_4072 wd_4074 wd_214 wd_340 wd_4075) rfl rfl rfl (by decide +kernel) ⟨(Nat.le_of_ble_eq_true rfl), (Nat.le_of_ble_eq_true rfl)⟩) ⟨fun a U g mk q => by obtain ⟨q0, q1, qP, qK, qD, qT⟩ := q; exact ⟨q0, q1, qP, va_K.moved (u := U) (U := U.calling g mk a) (Vm.Alike.refl U.vm) qK, qD, th.moved (u := U) (U := U.calling g mk a) (Vm.Alike.refl U.vm) qT⟩, va_recv hK hP (ci := 13) (q0 := 0) rfl rfl, fun U hU hW => ⟨rfl, by rw [hU], by rw [hU]; exact hP, va_K.moved hW.alike hK, hD.weaken (fun _ _ _ _ => trivial), by rw [hU]; exact ((hth.kept hS.2.1).narrow hFc).moved hW.alike⟩⟩ rfl rfl hl.1 rfl (lv_room (Nat.le_of_ble_eq_true rfl)) dX13_isThere_28 ⟨(Nat.le_of_ble_eq_true rfl), (Nat.le_of_ble_eq_true rfl)⟩) hS (fun q _ h => hFc q h) hFc (fun r u t H1 locs ht hvm hw hB hz1 hk1 hS => ?_)
  subst hw
  obtain ⟨fs_3, h_m0, hP1, hK1, hD1⟩ := hB
  rw [ht] at hP1
  have hD := hD1.weaken (fun k q _ h => hFc q.1 h)
  have hP := hP1
  generalize H1 = H at hP hS ⊢
  have hP : va_P (dC, dI) CL [(m0, .inr (13, fs_3)), (md, .inl (mdC, (6, .inl (fun _ => 0))))] H := hP
  have hD : va_D A [(m0, .inr (13, fs_3)), (md, .inl (mdC, (6, .inl (fun _ => 0))))] := hD
  refine lv_if_eq (tgt := 38) hx hb dX13_isThere_31 (by decide) (fun c9 => ?_) (fun c9 => ?_)
  rotate_left
  · first | exact absurd c9 (by decide +kernel) | exact absurd (by decide +kernel) c9
  refine lv_iconst (v := 0) hx hb dX13_isThere_38 (by decide +kernel) ?_
  exact W.zret (v := 0) hx hb hr rfl (fun t ht hW => ⟨⟨0, (), rfl, rfl, fs_3, h_m0, by rw [ht]; exact hP, va_K.moved hW.alike hK, hD⟩, hS.F ht⟩) hS.2.2 dX13_isThere_39
set_option maxHeartbeats 4000000 in
set_option maxRecDepth 100000 in
theorem gx81_X12_isThere (l : Launch) (hlt : l.stackTraces = false) (dC : Nat → ClassId) (dI : Nat → Nat → Nat) (sz : Nat) (x deA de0 de1 de2 de3 de4 de5 oA liA chA : Nat) (xg : List Value) (h_x : fx xg 17 [(7, .ref deA), (8, .ref liA), (9, .ref chA)]) (deAC : ClassId) (deAF : Nat → Option Nat) (de0g : List Value) (h_de0 : fx de0g 16 [(0, .int 0)]) (de1g : List Value) (h_de1 : fx de1g 16 [(0, .int 0)]) (de2g : List Value) (h_de2 : fx de2g 16 [(0, .int 0)]) (de3g : List Value) (h_de3 : fx de3g 16 [(0, .int 0)]) (de4g : List Value) (h_de4 : fx de4g 16 [(0, .int 0)]) (de5g : List Value) (h_de5 : fx de5g 16 [(0, .int 0)]) (oAC : ClassId) (oAf : Nat → Int64) (h_oA : fa oAf []) (h_deA0 : deAF 0 = some de0) (h_deA1 : deAF 1 = some de1) (h_deA2 : deAF 2 = some de2) (h_deA3 : deAF 3 = some de3) (h_deA4 : deAF 4 = some de4) (h_deA5 : deAF 5 = some de5) : Met l yX12_isThere (Cond.code yX12_isThere cX12_isThere 3 (some .boolean) :: BG) ({ frames := 7, cells := 1, slots := 6, locals := 130 }) (va_Pc [.ref x, .int 0, .int 1] (fun U => U.heap.size = sz ∧ va_P (dC, dI) CL [(x, .inr (12, xg)), (deA, .inl (deAC, (6, .inr (.inr (.inr (.inr deAF)))))), (de0, .inr (3, de0g)), (de1, .inr (3, de1g)), (de2, .inr (3, de2g)), (de3, .inr (3, de3g)), (de4, .inr (3, de4g)), (de5, .inr (3, de5g)), (oA, .inl (oAC, (1, .inr (.inl oAf))))] U.heap ∧ va_K (dC, dI) CL [(deAC, .object "ChipFlow$Design"), (oAC, .long)] U ∧ va_D (fun _ => True) [(x, .inr (12, xg)), (deA, .inl (deAC, (6, .inr (.inr (.inr (.inr deAF)))))), (de0, .inr (3, de0g)), (de1, .inr (3, de1g)), (de2, .inr (3, de2g)), (de3, .inr (3, de3g)), (de4, .inr (3, de4g)), (de5, .inr (3, de5g)), (oA, .inl (oAC, (1, .inr (.inl oAf))))] ∧ th (va_A [(x, .inr (12, xg)), (deA, .inl (deAC, (6, .inr (.inr (.inr (.inr deAF)))))), (de0, .inr (3, de0g)), (de1, .inr (3, de1g)), (de2, .inr (3, de2g)), (de3, .inr (3, de3g)), (de4, .inr (3, de4g)), (de5, .inr (3, de5g)), (oA, .inl (oAC, (1, .inr (.inl oAf))))] sz) U U.heap)) (va_Qi (fun (r : Int32) (_ : Unit) => r = 0) (fun _ t => ∃ (xy : List Value) (de0y : List Value) (de1y : List Value) (de2y : List Value) (de3y : List Value) (de4y : List Value) (de5y : List Value) (oAy : Nat → Int64), fx xy 17 [(7, .ref deA), (8, .ref liA), (9, .ref chA)] ∧ fx de0y 16 [(0, .int 0)] ∧ fx de1y 16 [(0, .int 0)] ∧ fx de2y 16 [(0, .int 0)] ∧ fx de3y 16 [(0, .int 0)] ∧ fx de4y 16 [(0, .int 0)] ∧ fx de5y 16 [(0, .int 0)] ∧ fa oAy [] ∧ va_P (dC, dI) CL [(x, .inr (12, xy)), (deA, .inl (deAC, (6, .inr (.inr (.inr (.inr deAF)))))), (de0, .inr (3, de0y)), (de1, .inr (3, de1y)), (de2, .inr (3, de2y)), (de3, .inr (3, de3y)), (de4, .inr (3, de4y)), (de5, .inr (3, de5y)), (oA, .inl (oAC, (1, .inr (.inl oAy))))] t.heap ∧ va_K (dC, dI) CL [(deAC, .object "ChipFlow$Design"), (oAC, .long)] t ∧ va_D (va_A [(x, .inr (12, xg)), (deA, .inl (deAC, (6, .inr (.inr (.inr (.inr deAF)))))), (de0, .inr (3, de0g)), (de1, .inr (3, de1g)), (de2, .inr (3, de2g)), (de3, .inr (3, de3g)), (de4, .inr (3, de4g)), (de5, .inr (3, de5g)), (oA, .inl (oAC, (1, .inr (.inl oAf))))] sz) [(x, .inr (12, xy)), (deA, .inl (deAC, (6, .inr (.inr (.inr (.inr deAF)))))), (de0, .inr (3, de0y)), (de1, .inr (3, de1y)), (de2, .inr (3, de2y)), (de3, .inr (3, de3y)), (de4, .inr (3, de4y)), (de5, .inr (3, de5y)), (oA, .inl (oAC, (1, .inr (.inl oAy))))]) (va_A [(x, .inr (12, xg)), (deA, .inl (deAC, (6, .inr (.inr (.inr (.inr deAF)))))), (de0, .inr (3, de0g)), (de1, .inr (3, de1g)), (de2, .inr (3, de2g)), (de3, .inr (3, de3g)), (de4, .inr (3, de4g)), (de5, .inr (3, de5g)), (oA, .inl (oAC, (1, .inr (.inl oAf))))] sz)) 1 6 (va_A [(x, .inr (12, xg)), (deA, .inl (deAC, (6, .inr (.inr (.inr (.inr deAF)))))), (de0, .inr (3, de0g)), (de1, .inr (3, de1g)), (de2, .inr (3, de2g)), (de3, .inr (3, de3g)), (de4, .inr (3, de4g)), (de5, .inr (3, de5g)), (oA, .inl (oAC, (1, .inr (.inl oAf))))] sz) := by
  refine Met.ofW (cc := cX12_isThere) (maxL := 3) (ret := (some .boolean)) (by decide) rfl ?_
  intro p e s m args below meth c s₁ B hml hv
  obtain ⟨rfl, hsz, hP, hK, hD0, hth⟩ := hv
  have hx := B.exec
  have hb := B.bytes
  have hr := B.returns
  have hts : ∀ w ∈ BG, w.before _ s = true := fun w h => atoms_spec (ws := Cond.code yX12_isThere cX12_isThere 3 (some .boolean) :: BG) B.pre w (List.mem_cons_of_mem _ h)
  have hown : s.vm.findClass RX12 = some m.cls := findClass_of_methodNamed B.named
  have hlocks := B.notSynchronized
  subst hsz
  have hD := hD0.self (sz := s.heap.size)
  generalize hAe : va_A [(x, .inr (12, xg)), (deA, .inl (deAC, (6, .inr (.inr (.inr (.inr deAF)))))), (de0, .inr (3, de0g)), (de1, .inr (3, de1g)), (de2, .inr (3, de2g)), (de3, .inr (3, de3g)), (de4, .inr (3, de4g)), (de5, .inr (3, de5g)), (oA, .inl (oAC, (1, .inr (.inl oAf))))] s.heap.size = A at hD hth ⊢
  have hA : ∀ q : Nat, s.heap.size ≤ q → A q := fun q h => by rw [← hAe]; exact Or.inr h
  have hS : va_S A s.heap s.heap [] := va_S.rf
  have hl := lv_entry ([.ref x, .int 0, .int 1]) (n := 3) (Nat.le_of_ble_eq_true rfl)
  rw [lg_entry_eq]
  generalize (lg_sl ([.ref x, .int 0, .int 1]) ++ List.replicate (3 - (lg_sl ([.ref x, .int 0, .int 1])).length) Slot.unset).toArray = ls at hl ⊢
  have hl : lv_has ls 3 [(0, .ref x), (1, .int 0), (2, .int 1)] := hl
  obtain ⟨H, eH⟩ : ∃ z, z = s.heap := ⟨_, rfl⟩
  have hP : va_P (dC, dI) CL [(x, .inr (12, xg)), (deA, .inl (deAC, (6, .inr (.inr (.inr (.inr deAF)))))), (de0, .inr (3, de0g)), (de1, .inr (3, de1g)), (de2, .inr (3, de2g)), (de3, .inr (3, de3g)), (de4, .inr (3, de4g)), (de5, .inr (3, de5g)), (oA, .inl (oAC, (1, .inr (.inl oAf))))] H := by rw [eH]; exact hP
  have hS : va_S A s.heap H [] := by rw [eH]; exact hS
  rw [← eH]
  refine lv_iload_n hx hb dX12_isThere_0 rfl (lv_at hl 1 rfl) ?_
  refine lv_if_lt (tgt := 13) hx hb dX12_isThere_1 (by decide) (fun c9 => ?_) (fun c9 => ?_)
  · first | exact absurd c9 (by decide +kernel) | exact absurd (by decide +kernel) c9
  refine lv_iload_n hx hb dX12_isThere_4 rfl (lv_at hl 1 rfl) ?_
  refine lv_iconst (v := 2) hx hb dX12_isThere_5 (by decide +kernel) ?_
  refine lv_icmp_gt (tgt := 13) hx hb dX12_isThere_6 (by decide) (fun c9 => ?_) (fun c9 => ?_)
  · first | exact absurd c9 (by decide +kernel) | exact absurd (by decide +kernel) c9
  refine lv_iconst (v := 1) hx hb dX12_isThere_9 (by decide +kernel) ?_
  refine lv_goto (tgt := 14) hx hb dX12_isThere_10 (by decide) ?_
  have hF0 : ∀ q, va_A [] H.size q → A q := fun q h => h.elim (fun ⟨k9, e9, h9⟩ => by simp at h9) (fun h9 => hA q (Nat.le_trans hS.1 h9))
  refine vx_callv (vx_runS (As := [.int 1]) (rest := []) ⟨hx, hb, hml, hown, hts⟩ (ct_X12_needRange l hlt H.size 1) (cwS 1 hts (gi_S wd_1328 wd_1329 wd_327 wd_1330) rfl rfl rfl (by decide +kernel) ⟨(Nat.le_of_ble_eq_true rfl), (Nat.le_of_ble_eq_true rfl)⟩) ⟨fun a U g mk q => ⟨q.1, q.2.1, th.moved (u := U) (U := U.calling g mk a) (Vm.Alike.refl U.vm) q.2.2⟩, fun U hU hW => ⟨rfl, by rw [hU], by rw [hU]; exact ((hth.kept hS.2.1).narrow hF0).moved hW.alike⟩⟩ rfl rfl hl.1 rfl (lv_room (Nat.le_of_ble_eq_true rfl)) dX12_isThere_14 ⟨(Nat.le_of_ble_eq_true rfl), (Nat.le_of_ble_eq_true rfl)⟩) hS (fun q _ h => hF0 q h) hF0 (fun q _ h => hF0 q h) (fun E ce q9 u t H1 locs ht hvm hp hB hz hk hS hce hcv hcl => absurd hp (by decide +kernel)) (fun u t H1 locs ht hvm hp hB hz hk hS => ?_)
  have hP : va_P (dC, dI) CL [(x, .inr (12, xg)), (deA, .inl (deAC, (6, .inr (.inr (.inr (.inr deAF)))))), (de0, .inr (3, de0g)), (de1, .inr (3, de1g)), (de2, .inr (3, de2g)), (de3, .inr (3, de3g)), (de4, .inr (3, de4g)), (de5, .inr (3, de5g)), (oA, .inl (oAC, (1, .inr (.inl oAf))))] H1 := hP.kept (fun k q h9 => hk _ (vx_lt hP h9) (fun h8 => h8.elim (fun ⟨k9, e9, h7⟩ => by simp at h7) (fun h7 => absurd (vx_lt hP h9) (Nat.not_lt.mpr h7))))
  generalize H1 = H at hP hS ⊢
  refine W.widen (k := 1) (n := 6) (Nat.le_of_ble_eq_true rfl) (Nat.le_of_ble_eq_true rfl) ?_
  refine lv_iload_n hx hb dX12_isThere_17 rfl (lv_at hl 1 rfl) ?_
  refine lv_if_ne (tgt := 49) hx hb dX12_isThere_18 (by decide) (fun c9 => ?_) (fun c9 => ?_)
  · first | exact absurd c9 (by decide +kernel) | exact absurd (by decide +kernel) c9
  refine lv_iload_n hx hb dX12_isThere_21 rfl (lv_at hl 2 rfl) ?_
  refine lv_if_lt (tgt := 47) hx hb dX12_isThere_22 (by decide) (fun c9 => ?_) (fun c9 => ?_)
  · first | exact absurd c9 (by decide +kernel) | exact absurd (by decide +kernel) c9
  refine lv_iload_n hx hb dX12_isThere_25 rfl (lv_at hl 2 rfl) ?_
  refine lv_bipush (v := 6) hx hb dX12_isThere_26 (by decide +kernel) ?_
  refine lv_icmp_ge (tgt := 47) hx hb dX12_isThere_28 (by decide) (fun c9 => ?_) (fun c9 => ?_)
  · first | exact absurd c9 (by decide +kernel) | exact absurd (by decide +kernel) c9
  refine lv_aload_n hx hb dX12_isThere_31 rfl (lv_at hl 0 rfl) ?_
  refine va_get (D := (dC, dI)) (ci := 12) (v := .ref deA) (C := RX12) (T := TX12) (N := 17) hx hb hts inX12 hown hK hP 0 rfl rfl 7 (by decide) (hts (.fieldLink RX12 64 "ChipFlow" "designs" "[LChipFlow$Design;") wd_1185) (fun _ h9 => h9) (h_x.get 0 rfl) dX12_isThere_32 ?_
  refine lv_iload_n hx hb dX12_isThere_35 rfl (lv_at hl 2 rfl) ?_
  refine va_aldq hx hb hK hP 1 0 rfl rfl (vp_in_nI (n := 1) (N := 6) (by decide) (by decide)) dX12_isThere_36 ?_
  rw [show (1 : Int32).toNatClampNeg = 1 by decide +kernel, h_deA1]
  refine W.eq (g2 := F0 m 37 ls [.ref de1]) rfl ?_
  refine va_get (D := (dC, dI)) (ci := 3) (v := .int 0) (C := RX3) (T := TX3) (N := 16) hx hb hts inX3 hown hK hP 3 rfl rfl 0 (by decide) (hts (.fieldLink RX12 148 "ChipFlow$Design" "used" "Z") wd_766) (fun _ h9 => h9) (h_de1.get 0 rfl) dX12_isThere_37 ?_
  refine lv_if_eq (tgt := 47) hx hb dX12_isThere_40 (by decide) (fun c9 => ?_) (fun c9 => ?_)
  rotate_left
  · first | exact absurd c9 (by decide +kernel) | exact absurd (by decide +kernel) c9
  refine lv_iconst (v := 0) hx hb dX12_isThere_47 (by decide +kernel) ?_
  refine W.widen (k := 1) (n := 6) (Nat.le_of_ble_eq_true rfl) (Nat.le_of_ble_eq_true rfl) ?_
  exact W.zret (v := 0) hx hb hr rfl (fun t ht hW => ⟨⟨0, (), rfl, rfl, xg, de0g, de1g, de2g, de3g, de4g, de5g, oAf, h_x, h_de0, h_de1, h_de2, h_de3, h_de4, h_de5, h_oA, by rw [ht]; exact hP, va_K.moved hW.alike hK, hD⟩, hS.F ht⟩) hS.2.2 dX12_isThere_48
set_option maxHeartbeats 4000000 in
set_option maxRecDepth 100000 in
theorem gx80_L_isThere (l : Launch) (hlt : l.stackTraces = false) (dC : Nat → ClassId) (dI : Nat → Nat → Nat) (sz : Nat) (x deA de0 de1 de2 de3 de4 de5 oA liA chA : Nat) (xg : List Value) (h_x : fx xg 17 [(7, .ref deA), (8, .ref liA), (9, .ref chA)]) (deAC : ClassId) (deAF : Nat → Option Nat) (de0g : List Value) (h_de0 : fx de0g 16 [(0, .int 0)]) (de1g : List Value) (h_de1 : fx de1g 16 [(0, .int 0)]) (de2g : List Value) (h_de2 : fx de2g 16 [(0, .int 0)]) (de3g : List Value) (h_de3 : fx de3g 16 [(0, .int 0)]) (de4g : List Value) (h_de4 : fx de4g 16 [(0, .int 0)]) (de5g : List Value) (h_de5 : fx de5g 16 [(0, .int 0)]) (oAC : ClassId) (oAf : Nat → Int64) (h_oA : fa oAf []) (h_deA0 : deAF 0 = some de0) (h_deA1 : deAF 1 = some de1) (h_deA2 : deAF 2 = some de2) (h_deA3 : deAF 3 = some de3) (h_deA4 : deAF 4 = some de4) (h_deA5 : deAF 5 = some de5) : Met l yL_isThere (Cond.codeWith yL_isThere cL_isThere 5 (some .int) [(0, 17, 20, 19)] :: BG) ({ frames := 8, cells := 1, slots := 6, locals := 152 }) (va_Pc [.ref x, .int 0, .int 1, .ref oA] (fun U => U.heap.size = sz ∧ va_P (dC, dI) CL [(x, .inr (12, xg)), (deA, .inl (deAC, (6, .inr (.inr (.inr (.inr deAF)))))), (de0, .inr (3, de0g)), (de1, .inr (3, de1g)), (de2, .inr (3, de2g)), (de3, .inr (3, de3g)), (de4, .inr (3, de4g)), (de5, .inr (3, de5g)), (oA, .inl (oAC, (1, .inr (.inl oAf))))] U.heap ∧ va_K (dC, dI) CL [(deAC, .object "ChipFlow$Design"), (oAC, .long)] U ∧ va_D (fun _ => True) [(x, .inr (12, xg)), (deA, .inl (deAC, (6, .inr (.inr (.inr (.inr deAF)))))), (de0, .inr (3, de0g)), (de1, .inr (3, de1g)), (de2, .inr (3, de2g)), (de3, .inr (3, de3g)), (de4, .inr (3, de4g)), (de5, .inr (3, de5g)), (oA, .inl (oAC, (1, .inr (.inl oAf))))] ∧ th (va_A [(x, .inr (12, xg)), (deA, .inl (deAC, (6, .inr (.inr (.inr (.inr deAF)))))), (de0, .inr (3, de0g)), (de1, .inr (3, de1g)), (de2, .inr (3, de2g)), (de3, .inr (3, de3g)), (de4, .inr (3, de4g)), (de5, .inr (3, de5g)), (oA, .inl (oAC, (1, .inr (.inl oAf))))] sz) U U.heap)) (va_Qi (fun (r : Int32) (_ : Unit) => r = 0) (fun _ t => ∃ (xy : List Value) (de0y : List Value) (de1y : List Value) (de2y : List Value) (de3y : List Value) (de4y : List Value) (de5y : List Value) (oAy : Nat → Int64), fx xy 17 [(7, .ref deA), (8, .ref liA), (9, .ref chA)] ∧ fx de0y 16 [(0, .int 0)] ∧ fx de1y 16 [(0, .int 0)] ∧ fx de2y 16 [(0, .int 0)] ∧ fx de3y 16 [(0, .int 0)] ∧ fx de4y 16 [(0, .int 0)] ∧ fx de5y 16 [(0, .int 0)] ∧ fa oAy [(0, 0)] ∧ va_P (dC, dI) CL [(x, .inr (12, xy)), (deA, .inl (deAC, (6, .inr (.inr (.inr (.inr deAF)))))), (de0, .inr (3, de0y)), (de1, .inr (3, de1y)), (de2, .inr (3, de2y)), (de3, .inr (3, de3y)), (de4, .inr (3, de4y)), (de5, .inr (3, de5y)), (oA, .inl (oAC, (1, .inr (.inl oAy))))] t.heap ∧ va_K (dC, dI) CL [(deAC, .object "ChipFlow$Design"), (oAC, .long)] t ∧ va_D (va_A [(x, .inr (12, xg)), (deA, .inl (deAC, (6, .inr (.inr (.inr (.inr deAF)))))), (de0, .inr (3, de0g)), (de1, .inr (3, de1g)), (de2, .inr (3, de2g)), (de3, .inr (3, de3g)), (de4, .inr (3, de4g)), (de5, .inr (3, de5g)), (oA, .inl (oAC, (1, .inr (.inl oAf))))] sz) [(x, .inr (12, xy)), (deA, .inl (deAC, (6, .inr (.inr (.inr (.inr deAF)))))), (de0, .inr (3, de0y)), (de1, .inr (3, de1y)), (de2, .inr (3, de2y)), (de3, .inr (3, de3y)), (de4, .inr (3, de4y)), (de5, .inr (3, de5y)), (oA, .inl (oAC, (1, .inr (.inl oAy))))]) (va_A [(x, .inr (12, xg)), (deA, .inl (deAC, (6, .inr (.inr (.inr (.inr deAF)))))), (de0, .inr (3, de0g)), (de1, .inr (3, de1g)), (de2, .inr (3, de2g)), (de3, .inr (3, de3g)), (de4, .inr (3, de4g)), (de5, .inr (3, de5g)), (oA, .inl (oAC, (1, .inr (.inl oAf))))] sz)) 1 6 (va_A [(x, .inr (12, xg)), (deA, .inl (deAC, (6, .inr (.inr (.inr (.inr deAF)))))), (de0, .inr (3, de0g)), (de1, .inr (3, de1g)), (de2, .inr (3, de2g)), (de3, .inr (3, de3g)), (de4, .inr (3, de4g)), (de5, .inr (3, de5g)), (oA, .inl (oAC, (1, .inr (.inl oAf))))] sz) := by
  refine va_MetW (hh := [(0, 17, 20, 19)]) (cc := cL_isThere) (maxL := 5) (ret := (some .int)) (by decide) rfl ?_
  intro p e s m args below meth c s₁ B hml hv
  obtain ⟨rfl, hsz, hP, hK, hD0, hth⟩ := hv
  have hx := B.exec
  have hb := B.bytes
  have hr := B.returns
  have hts : ∀ w ∈ BG, w.before _ s = true := fun w h => atoms_spec (ws := Cond.codeWith yL_isThere cL_isThere 5 (some .int) [(0, 17, 20, 19)] :: BG) B.pre w (List.mem_cons_of_mem _ h)
  have hown : s.vm.findClass RL = some m.cls := findClass_of_methodNamed B.named
  have hlocks := B.notSynchronized
  subst hsz
  have hD := hD0.self (sz := s.heap.size)
  generalize hAe : va_A [(x, .inr (12, xg)), (deA, .inl (deAC, (6, .inr (.inr (.inr (.inr deAF)))))), (de0, .inr (3, de0g)), (de1, .inr (3, de1g)), (de2, .inr (3, de2g)), (de3, .inr (3, de3g)), (de4, .inr (3, de4g)), (de5, .inr (3, de5g)), (oA, .inl (oAC, (1, .inr (.inl oAf))))] s.heap.size = A at hD hth ⊢
  have hA : ∀ q : Nat, s.heap.size ≤ q → A q := fun q h => by rw [← hAe]; exact Or.inr h
  have hS : va_S A s.heap s.heap [] := va_S.rf
  have hl := lv_entry ([.ref x, .int 0, .int 1, .ref oA]) (n := 5) (Nat.le_of_ble_eq_true rfl)
  rw [lg_entry_eq]
  generalize (lg_sl ([.ref x, .int 0, .int 1, .ref oA]) ++ List.replicate (5 - (lg_sl ([.ref x, .int 0, .int 1, .ref oA])).length) Slot.unset).toArray = ls at hl ⊢
  have hl : lv_has ls 5 [(0, .ref x), (1, .int 0), (2, .int 1), (3, .ref oA)] := hl
  obtain ⟨H, eH⟩ : ∃ z, z = s.heap := ⟨_, rfl⟩
  have hP : va_P (dC, dI) CL [(x, .inr (12, xg)), (deA, .inl (deAC, (6, .inr (.inr (.inr (.inr deAF)))))), (de0, .inr (3, de0g)), (de1, .inr (3, de1g)), (de2, .inr (3, de2g)), (de3, .inr (3, de3g)), (de4, .inr (3, de4g)), (de5, .inr (3, de5g)), (oA, .inl (oAC, (1, .inr (.inl oAf))))] H := by rw [eH]; exact hP
  have hS : va_S A s.heap H [] := by rw [eH]; exact hS
  rw [← eH]
  have hT : c.exceptionTable.toList = tableOf [(0, 17, 20, 19)] := vx_table (x := yL_isThere) B (atoms_spec (ws := Cond.codeWith yL_isThere cL_isThere 5 (some .int) [(0, 17, 20, 19)] :: BG) B.pre _ List.mem_cons_self)
  refine lv_aload_n hx hb dL_isThere_0 rfl (lv_at hl 3 rfl) ?_
  refine lv_iconst (v := 0) hx hb dL_isThere_1 (by decide +kernel) ?_
  refine lv_aload_n hx hb dL_isThere_2 rfl (lv_at hl 0 rfl) ?_
  refine lv_iload_n hx hb dL_isThere_3 rfl (lv_at hl 1 rfl) ?_
  refine lv_iload_n hx hb dL_isThere_4 rfl (lv_at hl 2 rfl) ?_
  have hFc := va_free (wc := [(x, .inr (12, xg)), (deA, .inl (deAC, (6, .inr (.inr (.inr (.inr deAF)))))), (de0, .inr (3, de0g)), (de1, .inr (3, de1g)), (de2, .inr (3, de2g)), (de3, .inr (3, de3g)), (de4, .inr (3, de4g)), (de5, .inr (3, de5g)), (oA, .inl (oAC, (1, .inr (.inl oAf))))]) hD hS hA [0, 1, 2, 3, 4, 5, 6, 7, 8] rfl
  refine va_calli (va_runV (As := [.int 0, .int 1]) (rest := [.int 0, .ref oA]) ⟨hx, hb, hml, hown, hts⟩ (gx81_X12_isThere l hlt dC dI _ x deA de0 de1 de2 de3 de4 de5 oA liA chA xg h_x deAC deAF de0g h_de0 de1g h_de1 de2g h_de2 de3g h_de3 de4g h_de4 de5g h_de5 oAC oAf h_oA h_deA0 h_deA1 h_deA2 h_deA3 h_deA4 h_deA5) (cwV 2 hts (gi_V wd_1842 wd_1843 wd_1844 wd_327 wd_1845) rfl rfl rfl (by decide +kernel) ⟨(Nat.le_of_ble_eq_true rfl), (Nat.le_of_ble_eq_true rfl)⟩) ⟨fun a U g mk q => by obtain ⟨q0, q1, qP, qK, qD, qT⟩ := q; exact ⟨q0, q1, qP, va_K.moved (u := U) (U := U.calling g mk a) (Vm.Alike.refl U.vm) qK, qD, th.moved (u := U) (U := U.calling g mk a) (Vm.Alike.refl U.vm) qT⟩, va_recv hK hP (ci := 12) (q0 := 0) rfl rfl, fun U hU hW => ⟨rfl, by rw [hU], by rw [hU]; exact hP, va_K.moved hW.alike hK, hD.weaken (fun _ _ _ _ => trivial), by rw [hU]; exact ((hth.kept hS.2.1).narrow hFc).moved hW.alike⟩⟩ rfl rfl hl.1 rfl (lv_room (Nat.le_of_ble_eq_true rfl)) dL_isThere_5 ⟨(Nat.le_of_ble_eq_true rfl), (Nat.le_of_ble_eq_true rfl)⟩) hS (fun q _ h => hFc q h) hFc (fun r u t H1 locs ht hvm hw hB hz1 hk1 hS => ?_)
  subst hw
  obtain ⟨fs_1, fs_2, fs_3, fs_4, fs_5, fs_6, fs_7, f_8, h_x, h_de0, h_de1, h_de2, h_de3, h_de4, h_de5, h_oA, hP1, hK1, hD1⟩ := hB
  rw [ht] at hP1
  have hD := hD1.weaken (fun k q _ h => hFc q.1 h)
  have hP := hP1
  generalize H1 = H at hP hS ⊢
  have hP : va_P (dC, dI) CL [(x, .inr (12, fs_1)), (deA, .inl (deAC, (6, .inr (.inr (.inr (.inr deAF)))))), (de0, .inr (3, fs_2)), (de1, .inr (3, fs_3)), (de2, .inr (3, fs_4)), (de3, .inr (3, fs_5)), (de4, .inr (3, fs_6)), (de5, .inr (3, fs_7)), (oA, .inl (oAC, (1, .inr (.inl f_8))))] H := hP
  have hD : va_D A [(x, .inr (12, fs_1)), (deA, .inl (deAC, (6, .inr (.inr (.inr (.inr deAF)))))), (de0, .inr (3, fs_2)), (de1, .inr (3, fs_3)), (de2, .inr (3, fs_4)), (de3, .inr (3, fs_5)), (de4, .inr (3, fs_6)), (de5, .inr (3, fs_7)), (oA, .inl (oAC, (1, .inr (.inl f_8))))] := hD
  refine W.widen (k := 1) (n := 6) (Nat.le_of_ble_eq_true rfl) (Nat.le_of_ble_eq_true rfl) ?_
  refine lv_if_eq (tgt := 15) hx hb dL_isThere_8 (by decide) (fun c9 => ?_) (fun c9 => ?_)
  rotate_left
  · first | exact absurd c9 (by decide +kernel) | exact absurd (by decide +kernel) c9
  refine lv_lconst (v := 0) hx hb dL_isThere_15 (by decide) ?_
  refine va_last hx hb hK hP hD hS 8 1 rfl rfl (vp_in_nI (n := 0) (N := 1) (by decide) (by decide)) dL_isThere_16 (fun H locs hP hD hS => ?_)
  obtain ⟨f_9, e9⟩ : ∃ z, z = vp_updL f_8 (0 : Int32).toNatClampNeg 0 := ⟨_, rfl⟩
  have h_oA : fa f_9 [(0, 0)] := by rw [e9, show (0 : Int32).toNatClampNeg = 0 by decide +kernel]; exact (fa.putL h_oA).sub [0] rfl
  have hP : va_P (dC, dI) CL [(x, .inr (12, fs_1)), (deA, .inl (deAC, (6, .inr (.inr (.inr (.inr deAF)))))), (de0, .inr (3, fs_2)), (de1, .inr (3, fs_3)), (de2, .inr (3, fs_4)), (de3, .inr (3, fs_5)), (de4, .inr (3, fs_6)), (de5, .inr (3, fs_7)), (oA, .inl (oAC, (1, .inr (.inl f_9))))] H := by rw [e9]; exact hP
  have hD : va_D A [(x, .inr (12, fs_1)), (deA, .inl (deAC, (6, .inr (.inr (.inr (.inr deAF)))))), (de0, .inr (3, fs_2)), (de1, .inr (3, fs_3)), (de2, .inr (3, fs_4)), (de3, .inr (3, fs_5)), (de4, .inr (3, fs_6)), (de5, .inr (3, fs_7)), (oA, .inl (oAC, (1, .inr (.inl f_9))))] := by rw [e9]; exact hD
  clear e9
  refine lv_goto (tgt := 24) hx hb dL_isThere_17 (by decide) ?_
  refine lv_iconst (v := 0) hx hb dL_isThere_24 (by decide +kernel) ?_
  refine W.widen (k := 1) (n := 6) (Nat.le_of_ble_eq_true rfl) (Nat.le_of_ble_eq_true rfl) ?_
  exact W.iret (v := 0) hx hb hr (fun t ht hW => ⟨⟨0, (), rfl, rfl, fs_1, fs_2, fs_3, fs_4, fs_5, fs_6, fs_7, f_9, h_x, h_de0, h_de1, h_de2, h_de3, h_de4, h_de5, h_oA, by rw [ht]; exact hP, va_K.moved hW.alike hK, hD⟩, hS.F ht⟩) hS.2.2 dL_isThere_25
