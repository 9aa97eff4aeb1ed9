set_option maxHeartbeats 4000000 in
set_option maxRecDepth 100000 in
theorem ct_X10_init (l : Launch) (dC : Nat → ClassId) (dI : Nat → Nat → Nat) (h0 sz : Nat) (fs : List Value) (hf : fx fs 9 [(1, .int 0), (2, .int 0), (3, .int 0), (4, .int 0), (6, .int 0), (7, .int 0), (8, .int 0)]) : Met l yX10_init (Cond.code yX10_init cX10_init 1 none :: BG) ({ frames := 1, cells := 1, slots := 65536, locals := 12 }) (va_Pc [.ref h0] (fun U => U.heap.size = sz ∧ va_P (dC, dI) CL [(h0, .inr (10, fs))] U.heap ∧ va_K (dC, dI) CL [] U ∧ va_D (fun _ => True) [(h0, .inr (10, fs))])) (va_Qv (fun _ : Unit => True) (fun _ t => ∃ (fs1 : List Value) (q0 : Nat) (cA0 : ClassId), fx fs1 9 [(0, .ref q0), (1, .int 0), (2, .int 0), (3, .int 0), (4, .int 0), (6, .int 0), (7, .int 0), (8, .int 0)] ∧ va_P (dC, dI) CL [(h0, .inr (10, fs1)), (q0, .inl (cA0, (65536, .inl (fun _ => 0))))] t.heap ∧ va_K (dC, dI) CL [(cA0, .byte)] t ∧ va_D (va_A [(h0, .inr (10, fs))] sz) [(h0, .inr (10, fs1)), (q0, .inl (cA0, (65536, .inl (fun _ => 0))))]) (va_A [(h0, .inr (10, fs))] sz)) 1 65536 (va_A [(h0, .inr (10, fs))] sz) := by
  refine Met.ofW (cc := cX10_init) (maxL := 1) (ret := none) (by decide) rfl ?_
  intro p e s m args below meth c s₁ B hml hv
  obtain ⟨rfl, hsz, hP, hK, hD0⟩ := hv
  have hx := B.exec
  have hb := B.bytes
  have hr := B.returns
  have hts : ∀ w ∈ BG, w.before _ s = true := fun w h => atoms_spec (ws := Cond.code yX10_init cX10_init 1 none :: BG) B.pre w (List.mem_cons_of_mem _ h)
  have hown : s.vm.findClass RX10 = some m.cls := findClass_of_methodNamed B.named
  have hlocks := B.notSynchronized
  have hin : meth.name = "<init>" := (name_of_methodNamed B.named B.method).1
  subst hsz
  have hD := hD0.self (sz := s.heap.size)
  generalize hAe : va_A [(h0, .inr (10, fs))] s.heap.size = A at hD ⊢
  have hA : ∀ q : Nat, s.heap.size ≤ q → A q := fun q h => by rw [← hAe]; exact Or.inr h
  have hS : va_S A s.heap s.heap [] := va_S.rf
  have hl := lv_entry ([.ref h0]) (n := 1) (Nat.le_of_ble_eq_true rfl)
  rw [lg_entry_eq]
  generalize (lg_sl ([.ref h0]) ++ List.replicate (1 - (lg_sl ([.ref h0])).length) Slot.unset).toArray = ls at hl ⊢
  have hl : lv_has ls 1 [(0, .ref h0)] := hl
  refine lv_aload_n hx hb dX10_init_0 rfl (lv_at hl 0 rfl) ?_
  refine W.objInit hx hb hown (hts (.methodLink RX10 1 objectInit) wd_375) (hts (.instanceMethod objectInit) wd_368) (hts (.code objectInit ⟨#[0xb1]⟩ 1 none) wd_obj) rfl (by rw [hml]; exact hl.1) rfl dX10_init_1 (Nat.le_of_ble_eq_true rfl) (Nat.le_of_ble_eq_true rfl) ?_
  refine W.eq (g2 := F0 m 4 ls []) rfl ?_
  refine lv_aload_n hx hb dX10_init_4 rfl (lv_at hl 0 rfl) ?_
  refine lv_ldc (v := 65536) hx hb hown (hts _ wd_376) dX10_init_5 ?_
  refine po_nap (D := (dC, dI)) (own := RX10) (index := 10) (atype := .byte) (N' := 65536) (n := 65536) (T := TX10) (k1 := 1) (n1 := 65536) (a0 := (65536, .inl (fun _ => 0))) (ty := .byte) hx hb hts inX10 tyX10 tyX10_ok nmX10 hown hK hP hD hS hA rfl hf hin (hts (.arrayClass .byte) wd_411) rfl (po_ai 65536 .byte rfl) (by decide +kernel) (by decide +kernel) (Nat.le_of_ble_eq_true rfl) (Nat.le_of_ble_eq_true rfl) (Nat.le_of_ble_eq_true rfl) dX10_init_7 0 (by decide) (hts (.fieldLink RX10 10 "ChipFlow$Text" "bytes" "[B") wd_377) rfl rfl (by decide +kernel) dX10_init_9 (Nat.le_of_ble_eq_true rfl) (Nat.le_of_ble_eq_true rfl) (fun q0 cA0 fs H locs hf hK hP hD hS => ?_)
  have hP : va_P (dC, dI) CL [(h0, .inr (10, fs)), (q0, .inl (cA0, (65536, .inl (fun _ => 0))))] H := hP
  have hD : va_D A [(h0, .inr (10, fs)), (q0, .inl (cA0, (65536, .inl (fun _ => 0))))] := hD
  have hK : va_K (dC, dI) CL [(cA0, .byte)] s := hK
  have hf : fx fs 9 [(0, .ref q0), (1, .int 0), (2, .int 0), (3, .int 0), (4, .int 0), (6, .int 0), (7, .int 0), (8, .int 0)] := hf
  exact W.vret hx hb hr (fun t ht hW => ⟨⟨(), rfl, trivial, fs, q0, cA0, hf, by rw [ht]; exact hP, va_K.moved hW.alike hK, hD⟩, hS.F ht⟩) hS.2.2 dX10_init_12

set_option maxHeartbeats 4000000 in
set_option maxRecDepth 100000 in
theorem ct_X7_init (l : Launch) (dC : Nat → ClassId) (dI : Nat → Nat → Nat) (h0 r1 sz : Nat) (fs : List Value) (hf : fx fs 18 []) : Met l yX7_init (Cond.code yX7_init cX7_init 2 none :: BG) ({ frames := 1, cells := 11, slots := 69610, locals := 12 }) (va_Pc [.ref h0, .ref r1] (fun U => U.heap.size = sz ∧ va_P (dC, dI) CL [(h0, .inr (7, fs))] U.heap ∧ va_K (dC, dI) CL [] U ∧ va_D (fun _ => True) [(h0, .inr (7, fs))])) (va_Qv (fun _ : Unit => True) (fun _ t => ∃ (fs1 : List Value) (q5 : Nat) (cA5 : ClassId) (q6 : Nat) (cA6 : ClassId), fx fs1 18 [(0, .ref r1), (6, .ref q6), (5, .ref q5)] ∧ va_P (dC, dI) CL [(h0, .inr (7, fs1)), (q5, .inl (cA5, (17, .inl (fun _ => 0)))), (q6, .inl (cA6, (17, .inl (fun _ => 0))))] t.heap ∧ va_K (dC, dI) CL [(cA5, .int), (cA6, .int)] t ∧ va_D (va_A [(h0, .inr (7, fs))] sz) [(h0, .inr (7, fs1)), (q5, .inl (cA5, (17, .inl (fun _ => 0)))), (q6, .inl (cA6, (17, .inl (fun _ => 0))))]) (va_A [(h0, .inr (7, fs))] sz)) 11 69610 (va_A [(h0, .inr (7, fs))] sz) := by
  refine Met.ofW (cc := cX7_init) (maxL := 2) (ret := none) (by decide) rfl ?_
  intro p e s m args below meth c s₁ B hml hv
  obtain ⟨rfl, hsz, hP, hK, hD0⟩ := hv
  have hx := B.exec
  have hb := B.bytes
  have hr := B.returns
  have hts : ∀ w ∈ BG, w.before _ s = true := fun w h => atoms_spec (ws := Cond.code yX7_init cX7_init 2 none :: BG) B.pre w (List.mem_cons_of_mem _ h)
  have hown : s.vm.findClass RX7 = some m.cls := findClass_of_methodNamed B.named
  have hlocks := B.notSynchronized
  have hin : meth.name = "<init>" := (name_of_methodNamed B.named B.method).1
  subst hsz
  have hD := hD0.self (sz := s.heap.size)
  generalize hAe : va_A [(h0, .inr (7, fs))] s.heap.size = A at hD ⊢
  have hA : ∀ q : Nat, s.heap.size ≤ q → A q := fun q h => by rw [← hAe]; exact Or.inr h
  have hS : va_S A s.heap s.heap [] := va_S.rf
  have hl := lv_entry ([.ref h0, .ref r1]) (n := 2) (Nat.le_of_ble_eq_true rfl)
  rw [lg_entry_eq]
  generalize (lg_sl ([.ref h0, .ref r1]) ++ List.replicate (2 - (lg_sl ([.ref h0, .ref r1])).length) Slot.unset).toArray = ls at hl ⊢
  have hl : lv_has ls 2 [(0, .ref h0), (1, .ref r1)] := hl
  refine lv_aload_n hx hb dX7_init_0 rfl (lv_at hl 0 rfl) ?_
  refine W.objInit hx hb hown (hts (.methodLink RX7 3 objectInit) wd_417) (hts (.instanceMethod objectInit) wd_368) (hts (.code objectInit ⟨#[0xb1]⟩ 1 none) wd_obj) rfl (by rw [hml]; exact hl.1) rfl dX7_init_1 (Nat.le_of_ble_eq_true rfl) (Nat.le_of_ble_eq_true rfl) ?_
  refine W.eq (g2 := F0 m 4 ls []) rfl ?_
  refine lv_aload_n hx hb dX7_init_4 rfl (lv_at hl 0 rfl) ?_
  refine lv_ldc (v := 65536) hx hb hown (hts _ wd_418) dX7_init_5 ?_
  refine po_nax (D := (dC, dI)) (own := RX7) (index := 12) (atype := .int) (N' := 65536) (n := 65536) (T := TX7) (k1 := 1) (n1 := 65536) (a0 := (65536, .inl (fun _ => 0))) (ty := .int) hx hb hts inX7 tyX7 tyX7_ok nmX7 hown hK hP hD hS hA rfl hf hin (hts (.arrayClass .int) wd_483) rfl (po_ai 65536 .int rfl) (by decide +kernel) (by decide +kernel) (Nat.le_of_ble_eq_true rfl) (Nat.le_of_ble_eq_true rfl) (Nat.le_of_ble_eq_true rfl) dX7_init_7 1 (by decide) (hts (.fieldLink RX7 12 "ChipFlow$Reader" "code" "[I") wd_421) rfl rfl (by decide +kernel) dX7_init_9 (Nat.le_of_ble_eq_true rfl) (Nat.le_of_ble_eq_true rfl) rfl (fun fs H locs hf hP hD hS => ?_)
  refine lv_aload_n hx hb dX7_init_12 rfl (lv_at hl 0 rfl) ?_
  refine lv_bipush (v := 16) hx hb dX7_init_13 (by decide +kernel) ?_
  refine po_nax (D := (dC, dI)) (own := RX7) (index := 18) (atype := .int) (N' := 16) (n := 16) (T := TX7) (k1 := 2) (n1 := 65552) (a0 := (16, .inl (fun _ => 0))) (ty := .int) hx hb hts inX7 tyX7 tyX7_ok nmX7 hown hK hP hD hS hA rfl hf hin (hts (.arrayClass .int) wd_483) rfl (po_ai 16 .int rfl) (by decide +kernel) (by decide +kernel) (Nat.le_of_ble_eq_true rfl) (Nat.le_of_ble_eq_true rfl) (Nat.le_of_ble_eq_true rfl) dX7_init_15 4 (by decide) (hts (.fieldLink RX7 18 "ChipFlow$Reader" "moduleName" "[I") wd_426) rfl rfl (by decide +kernel) dX7_init_17 (Nat.le_of_ble_eq_true rfl) (Nat.le_of_ble_eq_true rfl) rfl (fun fs H locs hf hP hD hS => ?_)
  refine lv_aload_n hx hb dX7_init_20 rfl (lv_at hl 0 rfl) ?_
  refine lv_bipush (v := 17) hx hb dX7_init_21 (by decide +kernel) ?_
  refine po_nap (D := (dC, dI)) (own := RX7) (index := 21) (atype := .int) (N' := 17) (n := 17) (T := TX7) (k1 := 3) (n1 := 65569) (a0 := (17, .inl (fun _ => 0))) (ty := .int) hx hb hts inX7 tyX7 tyX7_ok nmX7 hown hK hP hD hS hA rfl hf hin (hts (.arrayClass .int) wd_483) rfl (po_ai 17 .int rfl) (by decide +kernel) (by decide +kernel) (Nat.le_of_ble_eq_true rfl) (Nat.le_of_ble_eq_true rfl) (Nat.le_of_ble_eq_true rfl) dX7_init_23 5 (by decide) (hts (.fieldLink RX7 21 "ChipFlow$Reader" "moduleCode" "[I") wd_428) rfl rfl (by decide +kernel) dX7_init_25 (Nat.le_of_ble_eq_true rfl) (Nat.le_of_ble_eq_true rfl) (fun q5 cA5 fs H locs hf hK hP hD hS => ?_)
  have hP : va_P (dC, dI) CL [(h0, .inr (7, fs)), (q5, .inl (cA5, (17, .inl (fun _ => 0))))] H := hP
  have hD : va_D A [(h0, .inr (7, fs)), (q5, .inl (cA5, (17, .inl (fun _ => 0))))] := hD
  have hK : va_K (dC, dI) CL [(cA5, .int)] s := hK
  have hf : fx fs 18 [(5, .ref q5)] := hf
  refine lv_aload_n hx hb dX7_init_28 rfl (lv_at hl 0 rfl) ?_
  refine lv_bipush (v := 17) hx hb dX7_init_29 (by decide +kernel) ?_
  refine po_nap (D := (dC, dI)) (own := RX7) (index := 24) (atype := .int) (N' := 17) (n := 17) (T := TX7) (k1 := 4) (n1 := 65586) (a0 := (17, .inl (fun _ => 0))) (ty := .int) hx hb hts inX7 tyX7 tyX7_ok nmX7 hown hK hP hD hS hA rfl hf hin (hts (.arrayClass .int) wd_483) rfl (po_ai 17 .int rfl) (by decide +kernel) (by decide +kernel) (Nat.le_of_ble_eq_true rfl) (Nat.le_of_ble_eq_true rfl) (Nat.le_of_ble_eq_true rfl) dX7_init_31 6 (by decide) (hts (.fieldLink RX7 24 "ChipFlow$Reader" "moduleNames" "[I") wd_430) rfl rfl (by decide +kernel) dX7_init_33 (Nat.le_of_ble_eq_true rfl) (Nat.le_of_ble_eq_true rfl) (fun q6 cA6 fs H locs hf hK hP hD hS => ?_)
  have hP : va_P (dC, dI) CL [(h0, .inr (7, fs)), (q5, .inl (cA5, (17, .inl (fun _ => 0)))), (q6, .inl (cA6, (17, .inl (fun _ => 0))))] H := hP
  have hD : va_D A [(h0, .inr (7, fs)), (q5, .inl (cA5, (17, .inl (fun _ => 0)))), (q6, .inl (cA6, (17, .inl (fun _ => 0))))] := hD
  have hK : va_K (dC, dI) CL [(cA5, .int), (cA6, .int)] s := hK
  have hf : fx fs 18 [(6, .ref q6), (5, .ref q5)] := hf
  refine lv_aload_n hx hb dX7_init_36 rfl (lv_at hl 0 rfl) ?_
  refine lv_sipush (v := 640) hx hb dX7_init_37 (by decide +kernel) ?_
  refine po_nax (D := (dC, dI)) (own := RX7) (index := 27) (atype := .int) (N' := 640) (n := 640) (T := TX7) (k1 := 5) (n1 := 66226) (a0 := (640, .inl (fun _ => 0))) (ty := .int) hx hb hts inX7 tyX7 tyX7_ok nmX7 hown hK hP hD hS hA rfl hf hin (hts (.arrayClass .int) wd_483) rfl (po_ai 640 .int rfl) (by decide +kernel) (by decide +kernel) (Nat.le_of_ble_eq_true rfl) (Nat.le_of_ble_eq_true rfl) (Nat.le_of_ble_eq_true rfl) dX7_init_40 7 (by decide) (hts (.fieldLink RX7 27 "ChipFlow$Reader" "name" "[I") wd_432) rfl rfl (by decide +kernel) dX7_init_42 (Nat.le_of_ble_eq_true rfl) (Nat.le_of_ble_eq_true rfl) rfl (fun fs H locs hf hP hD hS => ?_)
  refine lv_aload_n hx hb dX7_init_45 rfl (lv_at hl 0 rfl) ?_
  refine lv_sipush (v := 640) hx hb dX7_init_46 (by decide +kernel) ?_
  refine po_nax (D := (dC, dI)) (own := RX7) (index := 30) (atype := .int) (N' := 640) (n := 640) (T := TX7) (k1 := 6) (n1 := 66866) (a0 := (640, .inl (fun _ => 0))) (ty := .int) hx hb hts inX7 tyX7 tyX7_ok nmX7 hown hK hP hD hS hA rfl hf hin (hts (.arrayClass .int) wd_483) rfl (po_ai 640 .int rfl) (by decide +kernel) (by decide +kernel) (Nat.le_of_ble_eq_true rfl) (Nat.le_of_ble_eq_true rfl) (Nat.le_of_ble_eq_true rfl) dX7_init_49 8 (by decide) (hts (.fieldLink RX7 30 "ChipFlow$Reader" "sort" "[I") wd_433) rfl rfl (by decide +kernel) dX7_init_51 (Nat.le_of_ble_eq_true rfl) (Nat.le_of_ble_eq_true rfl) rfl (fun fs H locs hf hP hD hS => ?_)
  refine lv_aload_n hx hb dX7_init_54 rfl (lv_at hl 0 rfl) ?_
  refine lv_sipush (v := 640) hx hb dX7_init_55 (by decide +kernel) ?_
  refine po_nax (D := (dC, dI)) (own := RX7) (index := 33) (atype := .int) (N' := 640) (n := 640) (T := TX7) (k1 := 7) (n1 := 67506) (a0 := (640, .inl (fun _ => 0))) (ty := .int) hx hb hts inX7 tyX7 tyX7_ok nmX7 hown hK hP hD hS hA rfl hf hin (hts (.arrayClass .int) wd_483) rfl (po_ai 640 .int rfl) (by decide +kernel) (by decide +kernel) (Nat.le_of_ble_eq_true rfl) (Nat.le_of_ble_eq_true rfl) (Nat.le_of_ble_eq_true rfl) dX7_init_58 9 (by decide) (hts (.fieldLink RX7 33 "ChipFlow$Reader" "width" "[I") wd_435) rfl rfl (by decide +kernel) dX7_init_60 (Nat.le_of_ble_eq_true rfl) (Nat.le_of_ble_eq_true rfl) rfl (fun fs H locs hf hP hD hS => ?_)
  refine lv_aload_n hx hb dX7_init_63 rfl (lv_at hl 0 rfl) ?_
  refine lv_sipush (v := 640) hx hb dX7_init_64 (by decide +kernel) ?_
  refine po_nax (D := (dC, dI)) (own := RX7) (index := 36) (atype := .int) (N' := 640) (n := 640) (T := TX7) (k1 := 8) (n1 := 68146) (a0 := (640, .inl (fun _ => 0))) (ty := .int) hx hb hts inX7 tyX7 tyX7_ok nmX7 hown hK hP hD hS hA rfl hf hin (hts (.arrayClass .int) wd_483) rfl (po_ai 640 .int rfl) (by decide +kernel) (by decide +kernel) (Nat.le_of_ble_eq_true rfl) (Nat.le_of_ble_eq_true rfl) (Nat.le_of_ble_eq_true rfl) dX7_init_67 10 (by decide) (hts (.fieldLink RX7 36 "ChipFlow$Reader" "detail" "[I") wd_437) rfl rfl (by decide +kernel) dX7_init_69 (Nat.le_of_ble_eq_true rfl) (Nat.le_of_ble_eq_true rfl) rfl (fun fs H locs hf hP hD hS => ?_)
  refine lv_aload_n hx hb dX7_init_72 rfl (lv_at hl 0 rfl) ?_
  refine lv_sipush (v := 488) hx hb dX7_init_73 (by decide +kernel) ?_
  refine po_nax (D := (dC, dI)) (own := RX7) (index := 39) (atype := .int) (N' := 488) (n := 488) (T := TX7) (k1 := 9) (n1 := 68634) (a0 := (488, .inl (fun _ => 0))) (ty := .int) hx hb hts inX7 tyX7 tyX7_ok nmX7 hown hK hP hD hS hA rfl hf hin (hts (.arrayClass .int) wd_483) rfl (po_ai 488 .int rfl) (by decide +kernel) (by decide +kernel) (Nat.le_of_ble_eq_true rfl) (Nat.le_of_ble_eq_true rfl) (Nat.le_of_ble_eq_true rfl) dX7_init_76 12 (by decide) (hts (.fieldLink RX7 39 "ChipFlow$Reader" "opKind" "[I") wd_440) rfl rfl (by decide +kernel) dX7_init_78 (Nat.le_of_ble_eq_true rfl) (Nat.le_of_ble_eq_true rfl) rfl (fun fs H locs hf hP hD hS => ?_)
  refine lv_aload_n hx hb dX7_init_81 rfl (lv_at hl 0 rfl) ?_
  refine lv_sipush (v := 488) hx hb dX7_init_82 (by decide +kernel) ?_
  refine po_nax (D := (dC, dI)) (own := RX7) (index := 42) (atype := .int) (N' := 488) (n := 488) (T := TX7) (k1 := 10) (n1 := 69122) (a0 := (488, .inl (fun _ => 0))) (ty := .int) hx hb hts inX7 tyX7 tyX7_ok nmX7 hown hK hP hD hS hA rfl hf hin (hts (.arrayClass .int) wd_483) rfl (po_ai 488 .int rfl) (by decide +kernel) (by decide +kernel) (Nat.le_of_ble_eq_true rfl) (Nat.le_of_ble_eq_true rfl) (Nat.le_of_ble_eq_true rfl) dX7_init_85 13 (by decide) (hts (.fieldLink RX7 42 "ChipFlow$Reader" "opPlace" "[I") wd_441) rfl rfl (by decide +kernel) dX7_init_87 (Nat.le_of_ble_eq_true rfl) (Nat.le_of_ble_eq_true rfl) rfl (fun fs H locs hf hP hD hS => ?_)
  refine lv_aload_n hx hb dX7_init_90 rfl (lv_at hl 0 rfl) ?_
  refine lv_sipush (v := 488) hx hb dX7_init_91 (by decide +kernel) ?_
  refine po_nax (D := (dC, dI)) (own := RX7) (index := 45) (atype := .int) (N' := 488) (n := 488) (T := TX7) (k1 := 11) (n1 := 69610) (a0 := (488, .inl (fun _ => 0))) (ty := .int) hx hb hts inX7 tyX7 tyX7_ok nmX7 hown hK hP hD hS hA rfl hf hin (hts (.arrayClass .int) wd_483) rfl (po_ai 488 .int rfl) (by decide +kernel) (by decide +kernel) (Nat.le_of_ble_eq_true rfl) (Nat.le_of_ble_eq_true rfl) (Nat.le_of_ble_eq_true rfl) dX7_init_94 15 (by decide) (hts (.fieldLink RX7 45 "ChipFlow$Reader" "held" "[I") wd_443) rfl rfl (by decide +kernel) dX7_init_96 (Nat.le_of_ble_eq_true rfl) (Nat.le_of_ble_eq_true rfl) rfl (fun fs H locs hf hP hD hS => ?_)
  refine lv_aload_n hx hb dX7_init_99 rfl (lv_at hl 0 rfl) ?_
  refine lv_aload_n hx hb dX7_init_100 rfl (lv_at hl 1 rfl) ?_
  refine va_putF (v := .ref r1) (ty := tyX7 0) hx hb hts inX7 tyX7 tyX7_ok nmX7 hown hK hP hD hS 0 rfl rfl 0 (by decide) (hts (.fieldLink RX7 48 "ChipFlow$Reader" "text" "LChipFlow$Text;") wd_419) (fun _ h => h) rfl hin rfl (by decide +kernel) rfl rfl (by rw [hf.1]; decide) dX7_init_101 (fun H locs hP hD hS => ?_)
  obtain ⟨fs1, e1⟩ : ∃ z, z = fs.set 0 (.ref r1) := ⟨_, rfl⟩
  have hf : fx fs1 18 [(0, .ref r1), (6, .ref q6), (5, .ref q5)] := by rw [e1]; exact hf.put (by decide) _ rfl
  have hP : va_P (dC, dI) CL [(h0, .inr (7, fs1)), (q5, .inl (cA5, (17, .inl (fun _ => 0)))), (q6, .inl (cA6, (17, .inl (fun _ => 0))))] H := by rw [e1]; exact hP
  have hD : va_D A [(h0, .inr (7, fs1)), (q5, .inl (cA5, (17, .inl (fun _ => 0)))), (q6, .inl (cA6, (17, .inl (fun _ => 0))))] := by rw [e1]; exact hD
  clear e1
  generalize fs1 = fs at hf hP hD
  exact W.vret hx hb hr (fun t ht hW => ⟨⟨(), rfl, trivial, fs, q5, cA5, q6, cA6, hf, by rw [ht]; exact hP, va_K.moved hW.alike hK, hD⟩, hS.F ht⟩) hS.2.2 dX7_init_104

set_option maxHeartbeats 4000000 in
set_option maxRecDepth 100000 in
theorem ct_X1_init (l : Launch) (dC : Nat → ClassId) (dI : Nat → Nat → Nat) (h0 r1 sz : Nat) (fs : List Value) (hf : fx fs 15 []) : Met l yX1_init (Cond.code yX1_init cX1_init 2 none :: BG) ({ frames := 1, cells := 8, slots := 138901, locals := 12 }) (va_Pc [.ref h0, .ref r1] (fun U => U.heap.size = sz ∧ va_P (dC, dI) CL [(h0, .inr (1, fs))] U.heap ∧ va_K (dC, dI) CL [] U ∧ va_D (fun _ => True) [(h0, .inr (1, fs))])) (va_Qv (fun _ : Unit => True) (fun _ t => ∃ (fs1 : List Value), fx fs1 15 [(0, .ref r1)] ∧ va_P (dC, dI) CL [(h0, .inr (1, fs1))] t.heap ∧ va_K (dC, dI) CL [] t ∧ va_D (va_A [(h0, .inr (1, fs))] sz) [(h0, .inr (1, fs1))]) (va_A [(h0, .inr (1, fs))] sz)) 8 138901 (va_A [(h0, .inr (1, fs))] sz) := by
  refine Met.ofW (cc := cX1_init) (maxL := 2) (ret := none) (by decide) rfl ?_
  intro p e s m args below meth c s₁ B hml hv
  obtain ⟨rfl, hsz, hP, hK, hD0⟩ := hv
  have hx := B.exec
  have hb := B.bytes
  have hr := B.returns
  have hts : ∀ w ∈ BG, w.before _ s = true := fun w h => atoms_spec (ws := Cond.code yX1_init cX1_init 2 none :: BG) B.pre w (List.mem_cons_of_mem _ h)
  have hown : s.vm.findClass RX1 = some m.cls := findClass_of_methodNamed B.named
  have hlocks := B.notSynchronized
  have hin : meth.name = "<init>" := (name_of_methodNamed B.named B.method).1
  subst hsz
  have hD := hD0.self (sz := s.heap.size)
  generalize hAe : va_A [(h0, .inr (1, fs))] s.heap.size = A at hD ⊢
  have hA : ∀ q : Nat, s.heap.size ≤ q → A q := fun q h => by rw [← hAe]; exact Or.inr h
  have hS : va_S A s.heap s.heap [] := va_S.rf
  have hl := lv_entry ([.ref h0, .ref r1]) (n := 2) (Nat.le_of_ble_eq_true rfl)
  rw [lg_entry_eq]
  generalize (lg_sl ([.ref h0, .ref r1]) ++ List.replicate (2 - (lg_sl ([.ref h0, .ref r1])).length) Slot.unset).toArray = ls at hl ⊢
  have hl : lv_has ls 2 [(0, .ref h0), (1, .ref r1)] := hl
  refine lv_aload_n hx hb dX1_init_0 rfl (lv_at hl 0 rfl) ?_
  refine W.objInit hx hb hown (hts (.methodLink RX1 7 objectInit) wd_489) (hts (.instanceMethod objectInit) wd_368) (hts (.code objectInit ⟨#[0xb1]⟩ 1 none) wd_obj) rfl (by rw [hml]; exact hl.1) rfl dX1_init_1 (Nat.le_of_ble_eq_true rfl) (Nat.le_of_ble_eq_true rfl) ?_
  refine W.eq (g2 := F0 m 4 ls []) rfl ?_
  refine lv_aload_n hx hb dX1_init_4 rfl (lv_at hl 0 rfl) ?_
  refine lv_ldc (v := 64320) hx hb hown (hts _ wd_490) dX1_init_5 ?_
  refine po_nax (D := (dC, dI)) (own := RX1) (index := 16) (atype := .int) (N' := 64320) (n := 64320) (T := TX1) (k1 := 1) (n1 := 64320) (a0 := (64320, .inl (fun _ => 0))) (ty := .int) hx hb hts inX1 tyX1 tyX1_ok nmX1 hown hK hP hD hS hA rfl hf hin (hts (.arrayClass .int) wd_483) rfl (po_ai 64320 .int rfl) (by decide +kernel) (by decide +kernel) (Nat.le_of_ble_eq_true rfl) (Nat.le_of_ble_eq_true rfl) (Nat.le_of_ble_eq_true rfl) dX1_init_7 2 (by decide) (hts (.fieldLink RX1 16 "ChipFlow$Builder" "frames" "[I") wd_494) rfl rfl (by decide +kernel) dX1_init_9 (Nat.le_of_ble_eq_true rfl) (Nat.le_of_ble_eq_true rfl) rfl (fun fs H locs hf hP hD hS => ?_)
  refine lv_aload_n hx hb dX1_init_12 rfl (lv_at hl 0 rfl) ?_
  refine lv_sipush (v := 4096) hx hb dX1_init_13 (by decide +kernel) ?_
  refine po_nax (D := (dC, dI)) (own := RX1) (index := 20) (atype := .int) (N' := 4096) (n := 4096) (T := TX1) (k1 := 2) (n1 := 68416) (a0 := (4096, .inl (fun _ => 0))) (ty := .int) hx hb hts inX1 tyX1 tyX1_ok nmX1 hown hK hP hD hS hA rfl hf hin (hts (.arrayClass .int) wd_483) rfl (po_ai 4096 .int rfl) (by decide +kernel) (by decide +kernel) (Nat.le_of_ble_eq_true rfl) (Nat.le_of_ble_eq_true rfl) (Nat.le_of_ble_eq_true rfl) dX1_init_16 4 (by decide) (hts (.fieldLink RX1 20 "ChipFlow$Builder" "stack" "[I") wd_496) rfl rfl (by decide +kernel) dX1_init_18 (Nat.le_of_ble_eq_true rfl) (Nat.le_of_ble_eq_true rfl) rfl (fun fs H locs hf hP hD hS => ?_)
  refine lv_aload_n hx hb dX1_init_21 rfl (lv_at hl 0 rfl) ?_
  refine lv_sipush (v := 512) hx hb dX1_init_22 (by decide +kernel) ?_
  refine po_nax (D := (dC, dI)) (own := RX1) (index := 23) (atype := .int) (N' := 512) (n := 512) (T := TX1) (k1 := 3) (n1 := 68928) (a0 := (512, .inl (fun _ => 0))) (ty := .int) hx hb hts inX1 tyX1 tyX1_ok nmX1 hown hK hP hD hS hA rfl hf hin (hts (.arrayClass .int) wd_483) rfl (po_ai 512 .int rfl) (by decide +kernel) (by decide +kernel) (Nat.le_of_ble_eq_true rfl) (Nat.le_of_ble_eq_true rfl) (Nat.le_of_ble_eq_true rfl) dX1_init_25 5 (by decide) (hts (.fieldLink RX1 23 "ChipFlow$Builder" "wide" "[I") wd_497) rfl rfl (by decide +kernel) dX1_init_27 (Nat.le_of_ble_eq_true rfl) (Nat.le_of_ble_eq_true rfl) rfl (fun fs H locs hf hP hD hS => ?_)
  refine lv_aload_n hx hb dX1_init_30 rfl (lv_at hl 0 rfl) ?_
  refine lv_sipush (v := 4096) hx hb dX1_init_31 (by decide +kernel) ?_
  refine po_nax (D := (dC, dI)) (own := RX1) (index := 26) (atype := .int) (N' := 4096) (n := 4096) (T := TX1) (k1 := 4) (n1 := 73024) (a0 := (4096, .inl (fun _ => 0))) (ty := .int) hx hb hts inX1 tyX1 tyX1_ok nmX1 hown hK hP hD hS hA rfl hf hin (hts (.arrayClass .int) wd_483) rfl (po_ai 4096 .int rfl) (by decide +kernel) (by decide +kernel) (Nat.le_of_ble_eq_true rfl) (Nat.le_of_ble_eq_true rfl) (Nat.le_of_ble_eq_true rfl) dX1_init_34 7 (by decide) (hts (.fieldLink RX1 26 "ChipFlow$Builder" "buckets" "[I") wd_499) rfl rfl (by decide +kernel) dX1_init_36 (Nat.le_of_ble_eq_true rfl) (Nat.le_of_ble_eq_true rfl) rfl (fun fs H locs hf hP hD hS => ?_)
  refine lv_aload_n hx hb dX1_init_39 rfl (lv_at hl 0 rfl) ?_
  refine lv_bipush (v := 16) hx hb dX1_init_40 (by decide +kernel) ?_
  refine po_nax (D := (dC, dI)) (own := RX1) (index := 29) (atype := .int) (N' := 16) (n := 16) (T := TX1) (k1 := 5) (n1 := 73040) (a0 := (16, .inl (fun _ => 0))) (ty := .int) hx hb hts inX1 tyX1 tyX1_ok nmX1 hown hK hP hD hS hA rfl hf hin (hts (.arrayClass .int) wd_483) rfl (po_ai 16 .int rfl) (by decide +kernel) (by decide +kernel) (Nat.le_of_ble_eq_true rfl) (Nat.le_of_ble_eq_true rfl) (Nat.le_of_ble_eq_true rfl) dX1_init_42 10 (by decide) (hts (.fieldLink RX1 29 "ChipFlow$Builder" "instances" "[I") wd_502) rfl rfl (by decide +kernel) dX1_init_44 (Nat.le_of_ble_eq_true rfl) (Nat.le_of_ble_eq_true rfl) rfl (fun fs H locs hf hP hD hS => ?_)
  refine lv_aload_n hx hb dX1_init_47 rfl (lv_at hl 0 rfl) ?_
  refine lv_bipush (v := 16) hx hb dX1_init_48 (by decide +kernel) ?_
  refine po_nax (D := (dC, dI)) (own := RX1) (index := 32) (atype := .int) (N' := 16) (n := 16) (T := TX1) (k1 := 6) (n1 := 73056) (a0 := (16, .inl (fun _ => 0))) (ty := .int) hx hb hts inX1 tyX1 tyX1_ok nmX1 hown hK hP hD hS hA rfl hf hin (hts (.arrayClass .int) wd_483) rfl (po_ai 16 .int rfl) (by decide +kernel) (by decide +kernel) (Nat.le_of_ble_eq_true rfl) (Nat.le_of_ble_eq_true rfl) (Nat.le_of_ble_eq_true rfl) dX1_init_50 11 (by decide) (hts (.fieldLink RX1 32 "ChipFlow$Builder" "registerBits" "[I") wd_503) rfl rfl (by decide +kernel) dX1_init_52 (Nat.le_of_ble_eq_true rfl) (Nat.le_of_ble_eq_true rfl) rfl (fun fs H locs hf hP hD hS => ?_)
  refine lv_aload_n hx hb dX1_init_55 rfl (lv_at hl 0 rfl) ?_
  refine lv_ldc (v := 64832) hx hb hown (hts _ wd_491) dX1_init_56 ?_
  refine po_nax (D := (dC, dI)) (own := RX1) (index := 36) (atype := .long) (N' := 64832) (n := 64832) (T := TX1) (k1 := 7) (n1 := 137888) (a0 := (64832, .inr (.inl (fun _ => 0)))) (ty := .long) hx hb hts inX1 tyX1 tyX1_ok nmX1 hown hK hP hD hS hA rfl hf hin (hts (.arrayClass .long) wd_538) rfl (po_al 64832 .long rfl) (by decide +kernel) (by decide +kernel) (Nat.le_of_ble_eq_true rfl) (Nat.le_of_ble_eq_true rfl) (Nat.le_of_ble_eq_true rfl) dX1_init_58 12 (by decide) (hts (.fieldLink RX1 36 "ChipFlow$Builder" "rows" "[J") wd_504) rfl rfl (by decide +kernel) dX1_init_60 (Nat.le_of_ble_eq_true rfl) (Nat.le_of_ble_eq_true rfl) rfl (fun fs H locs hf hP hD hS => ?_)
  refine lv_aload_n hx hb dX1_init_63 rfl (lv_at hl 0 rfl) ?_
  refine lv_sipush (v := 1013) hx hb dX1_init_64 (by decide +kernel) ?_
  refine po_nax (D := (dC, dI)) (own := RX1) (index := 40) (atype := .int) (N' := 1013) (n := 1013) (T := TX1) (k1 := 8) (n1 := 138901) (a0 := (1013, .inl (fun _ => 0))) (ty := .int) hx hb hts inX1 tyX1 tyX1_ok nmX1 hown hK hP hD hS hA rfl hf hin (hts (.arrayClass .int) wd_483) rfl (po_ai 1013 .int rfl) (by decide +kernel) (by decide +kernel) (Nat.le_of_ble_eq_true rfl) (Nat.le_of_ble_eq_true rfl) (Nat.le_of_ble_eq_true rfl) dX1_init_67 14 (by decide) (hts (.fieldLink RX1 40 "ChipFlow$Builder" "scratch" "[I") wd_506) rfl rfl (by decide +kernel) dX1_init_69 (Nat.le_of_ble_eq_true rfl) (Nat.le_of_ble_eq_true rfl) rfl (fun fs H locs hf hP hD hS => ?_)
  refine lv_aload_n hx hb dX1_init_72 rfl (lv_at hl 0 rfl) ?_
  refine lv_aload_n hx hb dX1_init_73 rfl (lv_at hl 1 rfl) ?_
  refine va_putF (v := .ref r1) (ty := tyX1 0) hx hb hts inX1 tyX1 tyX1_ok nmX1 hown hK hP hD hS 0 rfl rfl 0 (by decide) (hts (.fieldLink RX1 43 "ChipFlow$Builder" "reader" "LChipFlow$Reader;") wd_492) (fun _ h => h) rfl hin rfl (by decide +kernel) rfl rfl (by rw [hf.1]; decide) dX1_init_74 (fun H locs hP hD hS => ?_)
  obtain ⟨fs1, e1⟩ : ∃ z, z = fs.set 0 (.ref r1) := ⟨_, rfl⟩
  have hf : fx fs1 15 [(0, .ref r1)] := by rw [e1]; exact hf.put (by decide) _ rfl
  have hP : va_P (dC, dI) CL [(h0, .inr (1, fs1))] H := by rw [e1]; exact hP
  have hD : va_D A [(h0, .inr (1, fs1))] := by rw [e1]; exact hD
  clear e1
  generalize fs1 = fs at hf hP hD
  exact W.vret hx hb hr (fun t ht hW => ⟨⟨(), rfl, trivial, fs, hf, by rw [ht]; exact hP, va_K.moved hW.alike hK, hD⟩, hS.F ht⟩) hS.2.2 dX1_init_77

set_option maxHeartbeats 4000000 in
set_option maxRecDepth 100000 in
theorem ct_X6_init (l : Launch) (dC : Nat → ClassId) (dI : Nat → Nat → Nat) (h0 sz : Nat) (fs : List Value) (hf : fx fs 19 []) : Met l yX6_init (Cond.code yX6_init cX6_init 1 none :: BG) ({ frames := 1, cells := 15, slots := 27986, locals := 12 }) (va_Pc [.ref h0] (fun U => U.heap.size = sz ∧ va_P (dC, dI) CL [(h0, .inr (6, fs))] U.heap ∧ va_K (dC, dI) CL [] U ∧ va_D (fun _ => True) [(h0, .inr (6, fs))])) (va_Qv (fun _ : Unit => True) (fun _ t => ∃ (fs1 : List Value), fx fs1 19 [] ∧ va_P (dC, dI) CL [(h0, .inr (6, fs1))] t.heap ∧ va_K (dC, dI) CL [] t ∧ va_D (va_A [(h0, .inr (6, fs))] sz) [(h0, .inr (6, fs1))]) (va_A [(h0, .inr (6, fs))] sz)) 15 27986 (va_A [(h0, .inr (6, fs))] sz) := by
  refine Met.ofW (cc := cX6_init) (maxL := 1) (ret := none) (by decide) rfl ?_
  intro p e s m args below meth c s₁ B hml hv
  obtain ⟨rfl, hsz, hP, hK, hD0⟩ := hv
  have hx := B.exec
  have hb := B.bytes
  have hr := B.returns
  have hts : ∀ w ∈ BG, w.before _ s = true := fun w h => atoms_spec (ws := Cond.code yX6_init cX6_init 1 none :: BG) B.pre w (List.mem_cons_of_mem _ h)
  have hown : s.vm.findClass RX6 = some m.cls := findClass_of_methodNamed B.named
  have hlocks := B.notSynchronized
  have hin : meth.name = "<init>" := (name_of_methodNamed B.named B.method).1
  subst hsz
  have hD := hD0.self (sz := s.heap.size)
  generalize hAe : va_A [(h0, .inr (6, fs))] s.heap.size = A at hD ⊢
  have hA : ∀ q : Nat, s.heap.size ≤ q → A q := fun q h => by rw [← hAe]; exact Or.inr h
  have hS : va_S A s.heap s.heap [] := va_S.rf
  have hl := lv_entry ([.ref h0]) (n := 1) (Nat.le_of_ble_eq_true rfl)
  rw [lg_entry_eq]
  generalize (lg_sl ([.ref h0]) ++ List.replicate (1 - (lg_sl ([.ref h0])).length) Slot.unset).toArray = ls at hl ⊢
  have hl : lv_has ls 1 [(0, .ref h0)] := hl
  refine lv_aload_n hx hb dX6_init_0 rfl (lv_at hl 0 rfl) ?_
  refine W.objInit hx hb hown (hts (.methodLink RX6 3 objectInit) wd_544) (hts (.instanceMethod objectInit) wd_368) (hts (.code objectInit ⟨#[0xb1]⟩ 1 none) wd_obj) rfl (by rw [hml]; exact hl.1) rfl dX6_init_1 (Nat.le_of_ble_eq_true rfl) (Nat.le_of_ble_eq_true rfl) ?_
  refine W.eq (g2 := F0 m 4 ls []) rfl ?_
  refine lv_aload_n hx hb dX6_init_4 rfl (lv_at hl 0 rfl) ?_
  refine lv_sipush (v := 1013) hx hb dX6_init_5 (by decide +kernel) ?_
  refine po_nax (D := (dC, dI)) (own := RX6) (index := 11) (atype := .int) (N' := 1013) (n := 1013) (T := TX6) (k1 := 1) (n1 := 1013) (a0 := (1013, .inl (fun _ => 0))) (ty := .int) hx hb hts inX6 tyX6 tyX6_ok nmX6 hown hK hP hD hS hA rfl hf hin (hts (.arrayClass .int) wd_483) rfl (po_ai 1013 .int rfl) (by decide +kernel) (by decide +kernel) (Nat.le_of_ble_eq_true rfl) (Nat.le_of_ble_eq_true rfl) (Nat.le_of_ble_eq_true rfl) dX6_init_8 2 (by decide) (hts (.fieldLink RX6 11 "ChipFlow$Mapper" "needed" "[I") wd_547) rfl rfl (by decide +kernel) dX6_init_10 (Nat.le_of_ble_eq_true rfl) (Nat.le_of_ble_eq_true rfl) rfl (fun fs H locs hf hP hD hS => ?_)
  refine lv_aload_n hx hb dX6_init_13 rfl (lv_at hl 0 rfl) ?_
  refine lv_sipush (v := 1013) hx hb dX6_init_14 (by decide +kernel) ?_
  refine po_nax (D := (dC, dI)) (own := RX6) (index := 17) (atype := .int) (N' := 1013) (n := 1013) (T := TX6) (k1 := 2) (n1 := 2026) (a0 := (1013, .inl (fun _ => 0))) (ty := .int) hx hb hts inX6 tyX6 tyX6_ok nmX6 hown hK hP hD hS hA rfl hf hin (hts (.arrayClass .int) wd_483) rfl (po_ai 1013 .int rfl) (by decide +kernel) (by decide +kernel) (Nat.le_of_ble_eq_true rfl) (Nat.le_of_ble_eq_true rfl) (Nat.le_of_ble_eq_true rfl) dX6_init_17 3 (by decide) (hts (.fieldLink RX6 17 "ChipFlow$Mapper" "root" "[I") wd_548) rfl rfl (by decide +kernel) dX6_init_19 (Nat.le_of_ble_eq_true rfl) (Nat.le_of_ble_eq_true rfl) rfl (fun fs H locs hf hP hD hS => ?_)
  refine lv_aload_n hx hb dX6_init_22 rfl (lv_at hl 0 rfl) ?_
  refine lv_sipush (v := 2026) hx hb dX6_init_23 (by decide +kernel) ?_
  refine po_nax (D := (dC, dI)) (own := RX6) (index := 20) (atype := .int) (N' := 2026) (n := 2026) (T := TX6) (k1 := 3) (n1 := 4052) (a0 := (2026, .inl (fun _ => 0))) (ty := .int) hx hb hts inX6 tyX6 tyX6_ok nmX6 hown hK hP hD hS hA rfl hf hin (hts (.arrayClass .int) wd_483) rfl (po_ai 2026 .int rfl) (by decide +kernel) (by decide +kernel) (Nat.le_of_ble_eq_true rfl) (Nat.le_of_ble_eq_true rfl) (Nat.le_of_ble_eq_true rfl) dX6_init_26 4 (by decide) (hts (.fieldLink RX6 20 "ChipFlow$Mapper" "need" "[I") wd_549) rfl rfl (by decide +kernel) dX6_init_28 (Nat.le_of_ble_eq_true rfl) (Nat.le_of_ble_eq_true rfl) rfl (fun fs H locs hf hP hD hS => ?_)
  refine lv_aload_n hx hb dX6_init_31 rfl (lv_at hl 0 rfl) ?_
  refine lv_sipush (v := 2026) hx hb dX6_init_32 (by decide +kernel) ?_
  refine po_nax (D := (dC, dI)) (own := RX6) (index := 23) (atype := .int) (N' := 2026) (n := 2026) (T := TX6) (k1 := 4) (n1 := 6078) (a0 := (2026, .inl (fun _ => 0))) (ty := .int) hx hb hts inX6 tyX6 tyX6_ok nmX6 hown hK hP hD hS hA rfl hf hin (hts (.arrayClass .int) wd_483) rfl (po_ai 2026 .int rfl) (by decide +kernel) (by decide +kernel) (Nat.le_of_ble_eq_true rfl) (Nat.le_of_ble_eq_true rfl) (Nat.le_of_ble_eq_true rfl) dX6_init_35 5 (by decide) (hts (.fieldLink RX6 23 "ChipFlow$Mapper" "wayCell" "[I") wd_550) rfl rfl (by decide +kernel) dX6_init_37 (Nat.le_of_ble_eq_true rfl) (Nat.le_of_ble_eq_true rfl) rfl (fun fs H locs hf hP hD hS => ?_)
  refine lv_aload_n hx hb dX6_init_40 rfl (lv_at hl 0 rfl) ?_
  refine lv_sipush (v := 2026) hx hb dX6_init_41 (by decide +kernel) ?_
  refine po_nax (D := (dC, dI)) (own := RX6) (index := 26) (atype := .int) (N' := 2026) (n := 2026) (T := TX6) (k1 := 5) (n1 := 8104) (a0 := (2026, .inl (fun _ => 0))) (ty := .int) hx hb hts inX6 tyX6 tyX6_ok nmX6 hown hK hP hD hS hA rfl hf hin (hts (.arrayClass .int) wd_483) rfl (po_ai 2026 .int rfl) (by decide +kernel) (by decide +kernel) (Nat.le_of_ble_eq_true rfl) (Nat.le_of_ble_eq_true rfl) (Nat.le_of_ble_eq_true rfl) dX6_init_44 6 (by decide) (hts (.fieldLink RX6 26 "ChipFlow$Mapper" "wayTurns" "[I") wd_551) rfl rfl (by decide +kernel) dX6_init_46 (Nat.le_of_ble_eq_true rfl) (Nat.le_of_ble_eq_true rfl) rfl (fun fs H locs hf hP hD hS => ?_)
  refine lv_aload_n hx hb dX6_init_49 rfl (lv_at hl 0 rfl) ?_
  refine lv_sipush (v := 6078) hx hb dX6_init_50 (by decide +kernel) ?_
  refine po_nax (D := (dC, dI)) (own := RX6) (index := 29) (atype := .int) (N' := 6078) (n := 6078) (T := TX6) (k1 := 6) (n1 := 14182) (a0 := (6078, .inl (fun _ => 0))) (ty := .int) hx hb hts inX6 tyX6 tyX6_ok nmX6 hown hK hP hD hS hA rfl hf hin (hts (.arrayClass .int) wd_483) rfl (po_ai 6078 .int rfl) (by decide +kernel) (by decide +kernel) (Nat.le_of_ble_eq_true rfl) (Nat.le_of_ble_eq_true rfl) (Nat.le_of_ble_eq_true rfl) dX6_init_53 7 (by decide) (hts (.fieldLink RX6 29 "ChipFlow$Mapper" "wayNodes" "[I") wd_552) rfl rfl (by decide +kernel) dX6_init_55 (Nat.le_of_ble_eq_true rfl) (Nat.le_of_ble_eq_true rfl) rfl (fun fs H locs hf hP hD hS => ?_)
  refine lv_aload_n hx hb dX6_init_58 rfl (lv_at hl 0 rfl) ?_
  refine lv_sipush (v := 3072) hx hb dX6_init_59 (by decide +kernel) ?_
  refine po_nax (D := (dC, dI)) (own := RX6) (index := 32) (atype := .int) (N' := 3072) (n := 3072) (T := TX6) (k1 := 7) (n1 := 17254) (a0 := (3072, .inl (fun _ => 0))) (ty := .int) hx hb hts inX6 tyX6 tyX6_ok nmX6 hown hK hP hD hS hA rfl hf hin (hts (.arrayClass .int) wd_483) rfl (po_ai 3072 .int rfl) (by decide +kernel) (by decide +kernel) (Nat.le_of_ble_eq_true rfl) (Nat.le_of_ble_eq_true rfl) (Nat.le_of_ble_eq_true rfl) dX6_init_62 8 (by decide) (hts (.fieldLink RX6 32 "ChipFlow$Mapper" "cuts" "[I") wd_553) rfl rfl (by decide +kernel) dX6_init_64 (Nat.le_of_ble_eq_true rfl) (Nat.le_of_ble_eq_true rfl) rfl (fun fs H locs hf hP hD hS => ?_)
  refine lv_aload_n hx hb dX6_init_67 rfl (lv_at hl 0 rfl) ?_
  refine lv_sipush (v := 1024) hx hb dX6_init_68 (by decide +kernel) ?_
  refine po_nax (D := (dC, dI)) (own := RX6) (index := 35) (atype := .int) (N' := 1024) (n := 1024) (T := TX6) (k1 := 8) (n1 := 18278) (a0 := (1024, .inl (fun _ => 0))) (ty := .int) hx hb hts inX6 tyX6 tyX6_ok nmX6 hown hK hP hD hS hA rfl hf hin (hts (.arrayClass .int) wd_483) rfl (po_ai 1024 .int rfl) (by decide +kernel) (by decide +kernel) (Nat.le_of_ble_eq_true rfl) (Nat.le_of_ble_eq_true rfl) (Nat.le_of_ble_eq_true rfl) dX6_init_71 9 (by decide) (hts (.fieldLink RX6 35 "ChipFlow$Mapper" "cutOrder" "[I") wd_554) rfl rfl (by decide +kernel) dX6_init_73 (Nat.le_of_ble_eq_true rfl) (Nat.le_of_ble_eq_true rfl) rfl (fun fs H locs hf hP hD hS => ?_)
  refine lv_aload_n hx hb dX6_init_76 rfl (lv_at hl 0 rfl) ?_
  refine lv_sipush (v := 1024) hx hb dX6_init_77 (by decide +kernel) ?_
  refine po_nax (D := (dC, dI)) (own := RX6) (index := 38) (atype := .int) (N' := 1024) (n := 1024) (T := TX6) (k1 := 9) (n1 := 19302) (a0 := (1024, .inl (fun _ => 0))) (ty := .int) hx hb hts inX6 tyX6 tyX6_ok nmX6 hown hK hP hD hS hA rfl hf hin (hts (.arrayClass .int) wd_483) rfl (po_ai 1024 .int rfl) (by decide +kernel) (by decide +kernel) (Nat.le_of_ble_eq_true rfl) (Nat.le_of_ble_eq_true rfl) (Nat.le_of_ble_eq_true rfl) dX6_init_80 10 (by decide) (hts (.fieldLink RX6 38 "ChipFlow$Mapper" "cutTable" "[I") wd_555) rfl rfl (by decide +kernel) dX6_init_82 (Nat.le_of_ble_eq_true rfl) (Nat.le_of_ble_eq_true rfl) rfl (fun fs H locs hf hP hD hS => ?_)
  refine lv_aload_n hx hb dX6_init_85 rfl (lv_at hl 0 rfl) ?_
  refine lv_iconst (v := 4) hx hb dX6_init_86 (by decide +kernel) ?_
  refine po_nax (D := (dC, dI)) (own := RX6) (index := 41) (atype := .int) (N' := 4) (n := 4) (T := TX6) (k1 := 10) (n1 := 19306) (a0 := (4, .inl (fun _ => 0))) (ty := .int) hx hb hts inX6 tyX6 tyX6_ok nmX6 hown hK hP hD hS hA rfl hf hin (hts (.arrayClass .int) wd_483) rfl (po_ai 4 .int rfl) (by decide +kernel) (by decide +kernel) (Nat.le_of_ble_eq_true rfl) (Nat.le_of_ble_eq_true rfl) (Nat.le_of_ble_eq_true rfl) dX6_init_87 12 (by decide) (hts (.fieldLink RX6 41 "ChipFlow$Mapper" "members" "[I") wd_557) rfl rfl (by decide +kernel) dX6_init_89 (Nat.le_of_ble_eq_true rfl) (Nat.le_of_ble_eq_true rfl) rfl (fun fs H locs hf hP hD hS => ?_)
  refine lv_aload_n hx hb dX6_init_92 rfl (lv_at hl 0 rfl) ?_
  refine lv_sipush (v := 576) hx hb dX6_init_93 (by decide +kernel) ?_
  refine po_nax (D := (dC, dI)) (own := RX6) (index := 46) (atype := .int) (N' := 576) (n := 576) (T := TX6) (k1 := 11) (n1 := 19882) (a0 := (576, .inl (fun _ => 0))) (ty := .int) hx hb hts inX6 tyX6 tyX6_ok nmX6 hown hK hP hD hS hA rfl hf hin (hts (.arrayClass .int) wd_483) rfl (po_ai 576 .int rfl) (by decide +kernel) (by decide +kernel) (Nat.le_of_ble_eq_true rfl) (Nat.le_of_ble_eq_true rfl) (Nat.le_of_ble_eq_true rfl) dX6_init_96 14 (by decide) (hts (.fieldLink RX6 46 "ChipFlow$Mapper" "views" "[I") wd_559) rfl rfl (by decide +kernel) dX6_init_98 (Nat.le_of_ble_eq_true rfl) (Nat.le_of_ble_eq_true rfl) rfl (fun fs H locs hf hP hD hS => ?_)
  refine lv_aload_n hx hb dX6_init_101 rfl (lv_at hl 0 rfl) ?_
  refine lv_sipush (v := 1013) hx hb dX6_init_102 (by decide +kernel) ?_
  refine po_nax (D := (dC, dI)) (own := RX6) (index := 49) (atype := .int) (N' := 1013) (n := 1013) (T := TX6) (k1 := 12) (n1 := 20895) (a0 := (1013, .inl (fun _ => 0))) (ty := .int) hx hb hts inX6 tyX6 tyX6_ok nmX6 hown hK hP hD hS hA rfl hf hin (hts (.arrayClass .int) wd_483) rfl (po_ai 1013 .int rfl) (by decide +kernel) (by decide +kernel) (Nat.le_of_ble_eq_true rfl) (Nat.le_of_ble_eq_true rfl) (Nat.le_of_ble_eq_true rfl) dX6_init_105 15 (by decide) (hts (.fieldLink RX6 49 "ChipFlow$Mapper" "inner" "[I") wd_560) rfl rfl (by decide +kernel) dX6_init_107 (Nat.le_of_ble_eq_true rfl) (Nat.le_of_ble_eq_true rfl) rfl (fun fs H locs hf hP hD hS => ?_)
  refine lv_aload_n hx hb dX6_init_110 rfl (lv_at hl 0 rfl) ?_
  refine lv_sipush (v := 1013) hx hb dX6_init_111 (by decide +kernel) ?_
  refine po_nax (D := (dC, dI)) (own := RX6) (index := 52) (atype := .int) (N' := 1013) (n := 1013) (T := TX6) (k1 := 13) (n1 := 21908) (a0 := (1013, .inl (fun _ => 0))) (ty := .int) hx hb hts inX6 tyX6 tyX6_ok nmX6 hown hK hP hD hS hA rfl hf hin (hts (.arrayClass .int) wd_483) rfl (po_ai 1013 .int rfl) (by decide +kernel) (by decide +kernel) (Nat.le_of_ble_eq_true rfl) (Nat.le_of_ble_eq_true rfl) (Nat.le_of_ble_eq_true rfl) dX6_init_114 16 (by decide) (hts (.fieldLink RX6 52 "ChipFlow$Mapper" "values" "[I") wd_561) rfl rfl (by decide +kernel) dX6_init_116 (Nat.le_of_ble_eq_true rfl) (Nat.le_of_ble_eq_true rfl) rfl (fun fs H locs hf hP hD hS => ?_)
  refine lv_aload_n hx hb dX6_init_119 rfl (lv_at hl 0 rfl) ?_
  refine lv_sipush (v := 3039) hx hb dX6_init_120 (by decide +kernel) ?_
  refine po_nax (D := (dC, dI)) (own := RX6) (index := 55) (atype := .int) (N' := 3039) (n := 3039) (T := TX6) (k1 := 14) (n1 := 24947) (a0 := (3039, .inl (fun _ => 0))) (ty := .int) hx hb hts inX6 tyX6 tyX6_ok nmX6 hown hK hP hD hS hA rfl hf hin (hts (.arrayClass .int) wd_483) rfl (po_ai 3039 .int rfl) (by decide +kernel) (by decide +kernel) (Nat.le_of_ble_eq_true rfl) (Nat.le_of_ble_eq_true rfl) (Nat.le_of_ble_eq_true rfl) dX6_init_123 17 (by decide) (hts (.fieldLink RX6 55 "ChipFlow$Mapper" "made" "[I") wd_562) rfl rfl (by decide +kernel) dX6_init_125 (Nat.le_of_ble_eq_true rfl) (Nat.le_of_ble_eq_true rfl) rfl (fun fs H locs hf hP hD hS => ?_)
  refine lv_aload_n hx hb dX6_init_128 rfl (lv_at hl 0 rfl) ?_
  refine lv_sipush (v := 3039) hx hb dX6_init_129 (by decide +kernel) ?_
  refine po_nax (D := (dC, dI)) (own := RX6) (index := 58) (atype := .int) (N' := 3039) (n := 3039) (T := TX6) (k1 := 15) (n1 := 27986) (a0 := (3039, .inl (fun _ => 0))) (ty := .int) hx hb hts inX6 tyX6 tyX6_ok nmX6 hown hK hP hD hS hA rfl hf hin (hts (.arrayClass .int) wd_483) rfl (po_ai 3039 .int rfl) (by decide +kernel) (by decide +kernel) (Nat.le_of_ble_eq_true rfl) (Nat.le_of_ble_eq_true rfl) (Nat.le_of_ble_eq_true rfl) dX6_init_132 18 (by decide) (hts (.fieldLink RX6 58 "ChipFlow$Mapper" "tasks" "[I") wd_563) rfl rfl (by decide +kernel) dX6_init_134 (Nat.le_of_ble_eq_true rfl) (Nat.le_of_ble_eq_true rfl) rfl (fun fs H locs hf hP hD hS => ?_)
  exact W.vret hx hb hr (fun t ht hW => ⟨⟨(), rfl, trivial, fs, hf, by rw [ht]; exact hP, va_K.moved hW.alike hK, hD⟩, hS.F ht⟩) hS.2.2 dX6_init_137

set_option maxHeartbeats 4000000 in
set_option maxRecDepth 100000 in
theorem ct_X8_init (l : Launch) (dC : Nat → ClassId) (dI : Nat → Nat → Nat) (h0 sz : Nat) (fs : List Value) (hf : fx fs 14 []) : Met l yX8_init (Cond.code yX8_init cX8_init 1 none :: BG) ({ frames := 1, cells := 7, slots := 28434, locals := 12 }) (va_Pc [.ref h0] (fun U => U.heap.size = sz ∧ va_P (dC, dI) CL [(h0, .inr (8, fs))] U.heap ∧ va_K (dC, dI) CL [] U ∧ va_D (fun _ => True) [(h0, .inr (8, fs))])) (va_Qv (fun _ : Unit => True) (fun _ t => ∃ (fs1 : List Value), fx fs1 14 [] ∧ va_P (dC, dI) CL [(h0, .inr (8, fs1))] t.heap ∧ va_K (dC, dI) CL [] t ∧ va_D (va_A [(h0, .inr (8, fs))] sz) [(h0, .inr (8, fs1))]) (va_A [(h0, .inr (8, fs))] sz)) 7 28434 (va_A [(h0, .inr (8, fs))] sz) := by
  refine Met.ofW (cc := cX8_init) (maxL := 1) (ret := none) (by decide) rfl ?_
  intro p e s m args below meth c s₁ B hml hv
  obtain ⟨rfl, hsz, hP, hK, hD0⟩ := hv
  have hx := B.exec
  have hb := B.bytes
  have hr := B.returns
  have hts : ∀ w ∈ BG, w.before _ s = true := fun w h => atoms_spec (ws := Cond.code yX8_init cX8_init 1 none :: BG) B.pre w (List.mem_cons_of_mem _ h)
  have hown : s.vm.findClass RX8 = some m.cls := findClass_of_methodNamed B.named
  have hlocks := B.notSynchronized
  have hin : meth.name = "<init>" := (name_of_methodNamed B.named B.method).1
  subst hsz
  have hD := hD0.self (sz := s.heap.size)
  generalize hAe : va_A [(h0, .inr (8, fs))] s.heap.size = A at hD ⊢
  have hA : ∀ q : Nat, s.heap.size ≤ q → A q := fun q h => by rw [← hAe]; exact Or.inr h
  have hS : va_S A s.heap s.heap [] := va_S.rf
  have hl := lv_entry ([.ref h0]) (n := 1) (Nat.le_of_ble_eq_true rfl)
  rw [lg_entry_eq]
  generalize (lg_sl ([.ref h0]) ++ List.replicate (1 - (lg_sl ([.ref h0])).length) Slot.unset).toArray = ls at hl ⊢
  have hl : lv_has ls 1 [(0, .ref h0)] := hl
  refine lv_aload_n hx hb dX8_init_0 rfl (lv_at hl 0 rfl) ?_
  refine W.objInit hx hb hown (hts (.methodLink RX8 3 objectInit) wd_608) (hts (.instanceMethod objectInit) wd_368) (hts (.code objectInit ⟨#[0xb1]⟩ 1 none) wd_obj) rfl (by rw [hml]; exact hl.1) rfl dX8_init_1 (Nat.le_of_ble_eq_true rfl) (Nat.le_of_ble_eq_true rfl) ?_
  refine W.eq (g2 := F0 m 4 ls []) rfl ?_
  refine lv_aload_n hx hb dX8_init_4 rfl (lv_at hl 0 rfl) ?_
  refine lv_sipush (v := 4712) hx hb dX8_init_5 (by decide +kernel) ?_
  refine po_nax (D := (dC, dI)) (own := RX8) (index := 11) (atype := .int) (N' := 4712) (n := 4712) (T := TX8) (k1 := 1) (n1 := 4712) (a0 := (4712, .inl (fun _ => 0))) (ty := .int) hx hb hts inX8 tyX8 tyX8_ok nmX8 hown hK hP hD hS hA rfl hf hin (hts (.arrayClass .int) wd_483) rfl (po_ai 4712 .int rfl) (by decide +kernel) (by decide +kernel) (Nat.le_of_ble_eq_true rfl) (Nat.le_of_ble_eq_true rfl) (Nat.le_of_ble_eq_true rfl) dX8_init_8 3 (by decide) (hts (.fieldLink RX8 11 "ChipFlow$Router" "kept" "[I") wd_612) rfl rfl (by decide +kernel) dX8_init_10 (Nat.le_of_ble_eq_true rfl) (Nat.le_of_ble_eq_true rfl) rfl (fun fs H locs hf hP hD hS => ?_)
  refine lv_aload_n hx hb dX8_init_13 rfl (lv_at hl 0 rfl) ?_
  refine lv_sipush (v := 4712) hx hb dX8_init_14 (by decide +kernel) ?_
  refine po_nax (D := (dC, dI)) (own := RX8) (index := 17) (atype := .int) (N' := 4712) (n := 4712) (T := TX8) (k1 := 2) (n1 := 9424) (a0 := (4712, .inl (fun _ => 0))) (ty := .int) hx hb hts inX8 tyX8 tyX8_ok nmX8 hown hK hP hD hS hA rfl hf hin (hts (.arrayClass .int) wd_483) rfl (po_ai 4712 .int rfl) (by decide +kernel) (by decide +kernel) (Nat.le_of_ble_eq_true rfl) (Nat.le_of_ble_eq_true rfl) (Nat.le_of_ble_eq_true rfl) dX8_init_17 4 (by decide) (hts (.fieldLink RX8 17 "ChipFlow$Router" "distance" "[I") wd_613) rfl rfl (by decide +kernel) dX8_init_19 (Nat.le_of_ble_eq_true rfl) (Nat.le_of_ble_eq_true rfl) rfl (fun fs H locs hf hP hD hS => ?_)
  refine lv_aload_n hx hb dX8_init_22 rfl (lv_at hl 0 rfl) ?_
  refine lv_sipush (v := 4712) hx hb dX8_init_23 (by decide +kernel) ?_
  refine po_nax (D := (dC, dI)) (own := RX8) (index := 20) (atype := .int) (N' := 4712) (n := 4712) (T := TX8) (k1 := 3) (n1 := 14136) (a0 := (4712, .inl (fun _ => 0))) (ty := .int) hx hb hts inX8 tyX8 tyX8_ok nmX8 hown hK hP hD hS hA rfl hf hin (hts (.arrayClass .int) wd_483) rfl (po_ai 4712 .int rfl) (by decide +kernel) (by decide +kernel) (Nat.le_of_ble_eq_true rfl) (Nat.le_of_ble_eq_true rfl) (Nat.le_of_ble_eq_true rfl) dX8_init_26 5 (by decide) (hts (.fieldLink RX8 20 "ChipFlow$Router" "near" "[I") wd_614) rfl rfl (by decide +kernel) dX8_init_28 (Nat.le_of_ble_eq_true rfl) (Nat.le_of_ble_eq_true rfl) rfl (fun fs H locs hf hP hD hS => ?_)
  refine lv_aload_n hx hb dX8_init_31 rfl (lv_at hl 0 rfl) ?_
  refine lv_sipush (v := 4712) hx hb dX8_init_32 (by decide +kernel) ?_
  refine po_nax (D := (dC, dI)) (own := RX8) (index := 23) (atype := .int) (N' := 4712) (n := 4712) (T := TX8) (k1 := 4) (n1 := 18848) (a0 := (4712, .inl (fun _ => 0))) (ty := .int) hx hb hts inX8 tyX8 tyX8_ok nmX8 hown hK hP hD hS hA rfl hf hin (hts (.arrayClass .int) wd_483) rfl (po_ai 4712 .int rfl) (by decide +kernel) (by decide +kernel) (Nat.le_of_ble_eq_true rfl) (Nat.le_of_ble_eq_true rfl) (Nat.le_of_ble_eq_true rfl) dX8_init_35 7 (by decide) (hts (.fieldLink RX8 23 "ChipFlow$Router" "far" "[I") wd_616) rfl rfl (by decide +kernel) dX8_init_37 (Nat.le_of_ble_eq_true rfl) (Nat.le_of_ble_eq_true rfl) rfl (fun fs H locs hf hP hD hS => ?_)
  refine lv_aload_n hx hb dX8_init_40 rfl (lv_at hl 0 rfl) ?_
  refine lv_sipush (v := 4712) hx hb dX8_init_41 (by decide +kernel) ?_
  refine po_nax (D := (dC, dI)) (own := RX8) (index := 26) (atype := .int) (N' := 4712) (n := 4712) (T := TX8) (k1 := 5) (n1 := 23560) (a0 := (4712, .inl (fun _ => 0))) (ty := .int) hx hb hts inX8 tyX8 tyX8_ok nmX8 hown hK hP hD hS hA rfl hf hin (hts (.arrayClass .int) wd_483) rfl (po_ai 4712 .int rfl) (by decide +kernel) (by decide +kernel) (Nat.le_of_ble_eq_true rfl) (Nat.le_of_ble_eq_true rfl) (Nat.le_of_ble_eq_true rfl) dX8_init_44 9 (by decide) (hts (.fieldLink RX8 26 "ChipFlow$Router" "way" "[I") wd_618) rfl rfl (by decide +kernel) dX8_init_46 (Nat.le_of_ble_eq_true rfl) (Nat.le_of_ble_eq_true rfl) rfl (fun fs H locs hf hP hD hS => ?_)
  refine lv_aload_n hx hb dX8_init_49 rfl (lv_at hl 0 rfl) ?_
  refine lv_sipush (v := 4712) hx hb dX8_init_50 (by decide +kernel) ?_
  refine po_nax (D := (dC, dI)) (own := RX8) (index := 29) (atype := .int) (N' := 4712) (n := 4712) (T := TX8) (k1 := 6) (n1 := 28272) (a0 := (4712, .inl (fun _ => 0))) (ty := .int) hx hb hts inX8 tyX8 tyX8_ok nmX8 hown hK hP hD hS hA rfl hf hin (hts (.arrayClass .int) wd_483) rfl (po_ai 4712 .int rfl) (by decide +kernel) (by decide +kernel) (Nat.le_of_ble_eq_true rfl) (Nat.le_of_ble_eq_true rfl) (Nat.le_of_ble_eq_true rfl) dX8_init_53 10 (by decide) (hts (.fieldLink RX8 29 "ChipFlow$Router" "tree" "[I") wd_619) rfl rfl (by decide +kernel) dX8_init_55 (Nat.le_of_ble_eq_true rfl) (Nat.le_of_ble_eq_true rfl) rfl (fun fs H locs hf hP hD hS => ?_)
  refine lv_aload_n hx hb dX8_init_58 rfl (lv_at hl 0 rfl) ?_
  refine lv_sipush (v := 162) hx hb dX8_init_59 (by decide +kernel) ?_
  refine po_nax (D := (dC, dI)) (own := RX8) (index := 34) (atype := .int) (N' := 162) (n := 162) (T := TX8) (k1 := 7) (n1 := 28434) (a0 := (162, .inl (fun _ => 0))) (ty := .int) hx hb hts inX8 tyX8 tyX8_ok nmX8 hown hK hP hD hS hA rfl hf hin (hts (.arrayClass .int) wd_483) rfl (po_ai 162 .int rfl) (by decide +kernel) (by decide +kernel) (Nat.le_of_ble_eq_true rfl) (Nat.le_of_ble_eq_true rfl) (Nat.le_of_ble_eq_true rfl) dX8_init_62 12 (by decide) (hts (.fieldLink RX8 34 "ChipFlow$Router" "row" "[I") wd_621) rfl rfl (by decide +kernel) dX8_init_64 (Nat.le_of_ble_eq_true rfl) (Nat.le_of_ble_eq_true rfl) rfl (fun fs H locs hf hP hD hS => ?_)
  exact W.vret hx hb hr (fun t ht hW => ⟨⟨(), rfl, trivial, fs, hf, by rw [ht]; exact hP, va_K.moved hW.alike hK, hD⟩, hS.F ht⟩) hS.2.2 dX8_init_67

set_option maxHeartbeats 4000000 in
set_option maxRecDepth 100000 in
theorem ct_X11_init (l : Launch) (dC : Nat → ClassId) (dI : Nat → Nat → Nat) (h0 sz : Nat) (fs : List Value) (hf : fx fs 20 []) : Met l yX11_init (Cond.code yX11_init cX11_init 1 none :: BG) ({ frames := 1, cells := 11, slots := 29100, locals := 12 }) (va_Pc [.ref h0] (fun U => U.heap.size = sz ∧ va_P (dC, dI) CL [(h0, .inr (11, fs))] U.heap ∧ va_K (dC, dI) CL [] U ∧ va_D (fun _ => True) [(h0, .inr (11, fs))])) (va_Qv (fun _ : Unit => True) (fun _ t => ∃ (fs1 : List Value), fx fs1 20 [] ∧ va_P (dC, dI) CL [(h0, .inr (11, fs1))] t.heap ∧ va_K (dC, dI) CL [] t ∧ va_D (va_A [(h0, .inr (11, fs))] sz) [(h0, .inr (11, fs1))]) (va_A [(h0, .inr (11, fs))] sz)) 11 29100 (va_A [(h0, .inr (11, fs))] sz) := by
  refine Met.ofW (cc := cX11_init) (maxL := 1) (ret := none) (by decide) rfl ?_
  intro p e s m args below meth c s₁ B hml hv
  obtain ⟨rfl, hsz, hP, hK, hD0⟩ := hv
  have hx := B.exec
  have hb := B.bytes
  have hr := B.returns
  have hts : ∀ w ∈ BG, w.before _ s = true := fun w h => atoms_spec (ws := Cond.code yX11_init cX11_init 1 none :: BG) B.pre w (List.mem_cons_of_mem _ h)
  have hown : s.vm.findClass RX11 = some m.cls := findClass_of_methodNamed B.named
  have hlocks := B.notSynchronized
  have hin : meth.name = "<init>" := (name_of_methodNamed B.named B.method).1
  subst hsz
  have hD := hD0.self (sz := s.heap.size)
  generalize hAe : va_A [(h0, .inr (11, fs))] s.heap.size = A at hD ⊢
  have hA : ∀ q : Nat, s.heap.size ≤ q → A q := fun q h => by rw [← hAe]; exact Or.inr h
  have hS : va_S A s.heap s.heap [] := va_S.rf
  have hl := lv_entry ([.ref h0]) (n := 1) (Nat.le_of_ble_eq_true rfl)
  rw [lg_entry_eq]
  generalize (lg_sl ([.ref h0]) ++ List.replicate (1 - (lg_sl ([.ref h0])).length) Slot.unset).toArray = ls at hl ⊢
  have hl : lv_has ls 1 [(0, .ref h0)] := hl
  refine lv_aload_n hx hb dX11_init_0 rfl (lv_at hl 0 rfl) ?_
  refine W.objInit hx hb hown (hts (.methodLink RX11 5 objectInit) wd_657) (hts (.instanceMethod objectInit) wd_368) (hts (.code objectInit ⟨#[0xb1]⟩ 1 none) wd_obj) rfl (by rw [hml]; exact hl.1) rfl dX11_init_1 (Nat.le_of_ble_eq_true rfl) (Nat.le_of_ble_eq_true rfl) ?_
  refine W.eq (g2 := F0 m 4 ls []) rfl ?_
  refine lv_aload_n hx hb dX11_init_4 rfl (lv_at hl 0 rfl) ?_
  refine lv_sipush (v := 162) hx hb dX11_init_5 (by decide +kernel) ?_
  refine po_nax (D := (dC, dI)) (own := RX11) (index := 11) (atype := .int) (N' := 162) (n := 162) (T := TX11) (k1 := 1) (n1 := 162) (a0 := (162, .inl (fun _ => 0))) (ty := .int) hx hb hts inX11 tyX11 tyX11_ok nmX11 hown hK hP hD hS hA rfl hf hin (hts (.arrayClass .int) wd_483) rfl (po_ai 162 .int rfl) (by decide +kernel) (by decide +kernel) (Nat.le_of_ble_eq_true rfl) (Nat.le_of_ble_eq_true rfl) (Nat.le_of_ble_eq_true rfl) dX11_init_8 0 (by decide) (hts (.fieldLink RX11 11 "ChipFlow$Times" "time" "[I") wd_658) rfl rfl (by decide +kernel) dX11_init_10 (Nat.le_of_ble_eq_true rfl) (Nat.le_of_ble_eq_true rfl) rfl (fun fs H locs hf hP hD hS => ?_)
  refine lv_aload_n hx hb dX11_init_13 rfl (lv_at hl 0 rfl) ?_
  refine lv_sipush (v := 162) hx hb dX11_init_14 (by decide +kernel) ?_
  refine po_nax (D := (dC, dI)) (own := RX11) (index := 17) (atype := .int) (N' := 162) (n := 162) (T := TX11) (k1 := 2) (n1 := 324) (a0 := (162, .inl (fun _ => 0))) (ty := .int) hx hb hts inX11 tyX11 tyX11_ok nmX11 hown hK hP hD hS hA rfl hf hin (hts (.arrayClass .int) wd_483) rfl (po_ai 162 .int rfl) (by decide +kernel) (by decide +kernel) (Nat.le_of_ble_eq_true rfl) (Nat.le_of_ble_eq_true rfl) (Nat.le_of_ble_eq_true rfl) dX11_init_17 1 (by decide) (hts (.fieldLink RX11 17 "ChipFlow$Times" "arrive" "[I") wd_659) rfl rfl (by decide +kernel) dX11_init_19 (Nat.le_of_ble_eq_true rfl) (Nat.le_of_ble_eq_true rfl) rfl (fun fs H locs hf hP hD hS => ?_)
  refine lv_aload_n hx hb dX11_init_22 rfl (lv_at hl 0 rfl) ?_
  refine lv_sipush (v := 1944) hx hb dX11_init_23 (by decide +kernel) ?_
  refine po_nax (D := (dC, dI)) (own := RX11) (index := 22) (atype := .int) (N' := 1944) (n := 1944) (T := TX11) (k1 := 3) (n1 := 2268) (a0 := (1944, .inl (fun _ => 0))) (ty := .int) hx hb hts inX11 tyX11 tyX11_ok nmX11 hown hK hP hD hS hA rfl hf hin (hts (.arrayClass .int) wd_483) rfl (po_ai 1944 .int rfl) (by decide +kernel) (by decide +kernel) (Nat.le_of_ble_eq_true rfl) (Nat.le_of_ble_eq_true rfl) (Nat.le_of_ble_eq_true rfl) dX11_init_26 2 (by decide) (hts (.fieldLink RX11 22 "ChipFlow$Times" "rest" "[I") wd_660) rfl rfl (by decide +kernel) dX11_init_28 (Nat.le_of_ble_eq_true rfl) (Nat.le_of_ble_eq_true rfl) rfl (fun fs H locs hf hP hD hS => ?_)
  refine lv_aload_n hx hb dX11_init_31 rfl (lv_at hl 0 rfl) ?_
  refine lv_bipush (v := 41) hx hb dX11_init_32 (by decide +kernel) ?_
  refine po_nax (D := (dC, dI)) (own := RX11) (index := 25) (atype := .int) (N' := 41) (n := 41) (T := TX11) (k1 := 4) (n1 := 2309) (a0 := (41, .inl (fun _ => 0))) (ty := .int) hx hb hts inX11 tyX11 tyX11_ok nmX11 hown hK hP hD hS hA rfl hf hin (hts (.arrayClass .int) wd_483) rfl (po_ai 41 .int rfl) (by decide +kernel) (by decide +kernel) (Nat.le_of_ble_eq_true rfl) (Nat.le_of_ble_eq_true rfl) (Nat.le_of_ble_eq_true rfl) dX11_init_34 6 (by decide) (hts (.fieldLink RX11 25 "ChipFlow$Times" "order" "[I") wd_664) rfl rfl (by decide +kernel) dX11_init_36 (Nat.le_of_ble_eq_true rfl) (Nat.le_of_ble_eq_true rfl) rfl (fun fs H locs hf hP hD hS => ?_)
  refine lv_aload_n hx hb dX11_init_39 rfl (lv_at hl 0 rfl) ?_
  refine lv_bipush (v := 41) hx hb dX11_init_40 (by decide +kernel) ?_
  refine po_nax (D := (dC, dI)) (own := RX11) (index := 28) (atype := .int) (N' := 41) (n := 41) (T := TX11) (k1 := 5) (n1 := 2350) (a0 := (41, .inl (fun _ => 0))) (ty := .int) hx hb hts inX11 tyX11 tyX11_ok nmX11 hown hK hP hD hS hA rfl hf hin (hts (.arrayClass .int) wd_483) rfl (po_ai 41 .int rfl) (by decide +kernel) (by decide +kernel) (Nat.le_of_ble_eq_true rfl) (Nat.le_of_ble_eq_true rfl) (Nat.le_of_ble_eq_true rfl) dX11_init_42 7 (by decide) (hts (.fieldLink RX11 28 "ChipFlow$Times" "bound" "[I") wd_665) rfl rfl (by decide +kernel) dX11_init_44 (Nat.le_of_ble_eq_true rfl) (Nat.le_of_ble_eq_true rfl) rfl (fun fs H locs hf hP hD hS => ?_)
  refine lv_aload_n hx hb dX11_init_47 rfl (lv_at hl 0 rfl) ?_
  refine lv_bipush (v := 41) hx hb dX11_init_48 (by decide +kernel) ?_
  refine po_nax (D := (dC, dI)) (own := RX11) (index := 31) (atype := .int) (N' := 41) (n := 41) (T := TX11) (k1 := 6) (n1 := 2391) (a0 := (41, .inl (fun _ => 0))) (ty := .int) hx hb hts inX11 tyX11 tyX11_ok nmX11 hown hK hP hD hS hA rfl hf hin (hts (.arrayClass .int) wd_483) rfl (po_ai 41 .int rfl) (by decide +kernel) (by decide +kernel) (Nat.le_of_ble_eq_true rfl) (Nat.le_of_ble_eq_true rfl) (Nat.le_of_ble_eq_true rfl) dX11_init_50 8 (by decide) (hts (.fieldLink RX11 31 "ChipFlow$Times" "size" "[I") wd_666) rfl rfl (by decide +kernel) dX11_init_52 (Nat.le_of_ble_eq_true rfl) (Nat.le_of_ble_eq_true rfl) rfl (fun fs H locs hf hP hD hS => ?_)
  refine lv_aload_n hx hb dX11_init_55 rfl (lv_at hl 0 rfl) ?_
  refine lv_sipush (v := 6232) hx hb dX11_init_56 (by decide +kernel) ?_
  refine po_nax (D := (dC, dI)) (own := RX11) (index := 34) (atype := .int) (N' := 6232) (n := 6232) (T := TX11) (k1 := 7) (n1 := 8623) (a0 := (6232, .inl (fun _ => 0))) (ty := .int) hx hb hts inX11 tyX11 tyX11_ok nmX11 hown hK hP hD hS hA rfl hf hin (hts (.arrayClass .int) wd_483) rfl (po_ai 6232 .int rfl) (by decide +kernel) (by decide +kernel) (Nat.le_of_ble_eq_true rfl) (Nat.le_of_ble_eq_true rfl) (Nat.le_of_ble_eq_true rfl) dX11_init_59 9 (by decide) (hts (.fieldLink RX11 34 "ChipFlow$Times" "rows" "[I") wd_667) rfl rfl (by decide +kernel) dX11_init_61 (Nat.le_of_ble_eq_true rfl) (Nat.le_of_ble_eq_true rfl) rfl (fun fs H locs hf hP hD hS => ?_)
  refine lv_aload_n hx hb dX11_init_64 rfl (lv_at hl 0 rfl) ?_
  refine lv_sipush (v := 152) hx hb dX11_init_65 (by decide +kernel) ?_
  refine po_nax (D := (dC, dI)) (own := RX11) (index := 37) (atype := .int) (N' := 152) (n := 152) (T := TX11) (k1 := 8) (n1 := 8775) (a0 := (152, .inl (fun _ => 0))) (ty := .int) hx hb hts inX11 tyX11 tyX11_ok nmX11 hown hK hP hD hS hA rfl hf hin (hts (.arrayClass .int) wd_483) rfl (po_ai 152 .int rfl) (by decide +kernel) (by decide +kernel) (Nat.le_of_ble_eq_true rfl) (Nat.le_of_ble_eq_true rfl) (Nat.le_of_ble_eq_true rfl) dX11_init_68 10 (by decide) (hts (.fieldLink RX11 37 "ChipFlow$Times" "trail" "[I") wd_668) rfl rfl (by decide +kernel) dX11_init_70 (Nat.le_of_ble_eq_true rfl) (Nat.le_of_ble_eq_true rfl) rfl (fun fs H locs hf hP hD hS => ?_)
  refine lv_aload_n hx hb dX11_init_73 rfl (lv_at hl 0 rfl) ?_
  refine lv_sipush (v := 162) hx hb dX11_init_74 (by decide +kernel) ?_
  refine po_nax (D := (dC, dI)) (own := RX11) (index := 40) (atype := .int) (N' := 162) (n := 162) (T := TX11) (k1 := 9) (n1 := 8937) (a0 := (162, .inl (fun _ => 0))) (ty := .int) hx hb hts inX11 tyX11 tyX11_ok nmX11 hown hK hP hD hS hA rfl hf hin (hts (.arrayClass .int) wd_483) rfl (po_ai 162 .int rfl) (by decide +kernel) (by decide +kernel) (Nat.le_of_ble_eq_true rfl) (Nat.le_of_ble_eq_true rfl) (Nat.le_of_ble_eq_true rfl) dX11_init_77 17 (by decide) (hts (.fieldLink RX11 40 "ChipFlow$Times" "before" "[I") wd_676) rfl rfl (by decide +kernel) dX11_init_79 (Nat.le_of_ble_eq_true rfl) (Nat.le_of_ble_eq_true rfl) rfl (fun fs H locs hf hP hD hS => ?_)
  refine lv_aload_n hx hb dX11_init_82 rfl (lv_at hl 0 rfl) ?_
  refine lv_sipush (v := 163) hx hb dX11_init_83 (by decide +kernel) ?_
  refine po_nax (D := (dC, dI)) (own := RX11) (index := 43) (atype := .int) (N' := 163) (n := 163) (T := TX11) (k1 := 10) (n1 := 9100) (a0 := (163, .inl (fun _ => 0))) (ty := .int) hx hb hts inX11 tyX11 tyX11_ok nmX11 hown hK hP hD hS hA rfl hf hin (hts (.arrayClass .int) wd_483) rfl (po_ai 163 .int rfl) (by decide +kernel) (by decide +kernel) (Nat.le_of_ble_eq_true rfl) (Nat.le_of_ble_eq_true rfl) (Nat.le_of_ble_eq_true rfl) dX11_init_86 18 (by decide) (hts (.fieldLink RX11 43 "ChipFlow$Times" "waveFrom" "[I") wd_677) rfl rfl (by decide +kernel) dX11_init_88 (Nat.le_of_ble_eq_true rfl) (Nat.le_of_ble_eq_true rfl) rfl (fun fs H locs hf hP hD hS => ?_)
  refine lv_aload_n hx hb dX11_init_91 rfl (lv_at hl 0 rfl) ?_
  refine lv_sipush (v := 20000) hx hb dX11_init_92 (by decide +kernel) ?_
  refine po_nax (D := (dC, dI)) (own := RX11) (index := 46) (atype := .int) (N' := 20000) (n := 20000) (T := TX11) (k1 := 11) (n1 := 29100) (a0 := (20000, .inl (fun _ => 0))) (ty := .int) hx hb hts inX11 tyX11 tyX11_ok nmX11 hown hK hP hD hS hA rfl hf hin (hts (.arrayClass .int) wd_483) rfl (po_ai 20000 .int rfl) (by decide +kernel) (by decide +kernel) (Nat.le_of_ble_eq_true rfl) (Nat.le_of_ble_eq_true rfl) (Nat.le_of_ble_eq_true rfl) dX11_init_95 19 (by decide) (hts (.fieldLink RX11 46 "ChipFlow$Times" "change" "[I") wd_678) rfl rfl (by decide +kernel) dX11_init_97 (Nat.le_of_ble_eq_true rfl) (Nat.le_of_ble_eq_true rfl) rfl (fun fs H locs hf hP hD hS => ?_)
  exact W.vret hx hb hr (fun t ht hW => ⟨⟨(), rfl, trivial, fs, hf, by rw [ht]; exact hP, va_K.moved hW.alike hK, hD⟩, hS.F ht⟩) hS.2.2 dX11_init_100

set_option maxHeartbeats 4000000 in
set_option maxRecDepth 100000 in
theorem ct_X9_init (l : Launch) (dC : Nat → ClassId) (dI : Nat → Nat → Nat) (h0 sz : Nat) (fs : List Value) (hf : fx fs 10 []) : Met l yX9_init (Cond.code yX9_init cX9_init 1 none :: BG) ({ frames := 1, cells := 6, slots := 101682, locals := 12 }) (va_Pc [.ref h0] (fun U => U.heap.size = sz ∧ va_P (dC, dI) CL [(h0, .inr (9, fs))] U.heap ∧ va_K (dC, dI) CL [] U ∧ va_D (fun _ => True) [(h0, .inr (9, fs))])) (va_Qv (fun _ : Unit => True) (fun _ t => ∃ (fs1 : List Value), fx fs1 10 [] ∧ va_P (dC, dI) CL [(h0, .inr (9, fs1))] t.heap ∧ va_K (dC, dI) CL [] t ∧ va_D (va_A [(h0, .inr (9, fs))] sz) [(h0, .inr (9, fs1))]) (va_A [(h0, .inr (9, fs))] sz)) 6 101682 (va_A [(h0, .inr (9, fs))] sz) := by
  refine Met.ofW (cc := cX9_init) (maxL := 1) (ret := none) (by decide) rfl ?_
  intro p e s m args below meth c s₁ B hml hv
  obtain ⟨rfl, hsz, hP, hK, hD0⟩ := hv
  have hx := B.exec
  have hb := B.bytes
  have hr := B.returns
  have hts : ∀ w ∈ BG, w.before _ s = true := fun w h => atoms_spec (ws := Cond.code yX9_init cX9_init 1 none :: BG) B.pre w (List.mem_cons_of_mem _ h)
  have hown : s.vm.findClass RX9 = some m.cls := findClass_of_methodNamed B.named
  have hlocks := B.notSynchronized
  have hin : meth.name = "<init>" := (name_of_methodNamed B.named B.method).1
  subst hsz
  have hD := hD0.self (sz := s.heap.size)
  generalize hAe : va_A [(h0, .inr (9, fs))] s.heap.size = A at hD ⊢
  have hA : ∀ q : Nat, s.heap.size ≤ q → A q := fun q h => by rw [← hAe]; exact Or.inr h
  have hS : va_S A s.heap s.heap [] := va_S.rf
  have hl := lv_entry ([.ref h0]) (n := 1) (Nat.le_of_ble_eq_true rfl)
  rw [lg_entry_eq]
  generalize (lg_sl ([.ref h0]) ++ List.replicate (1 - (lg_sl ([.ref h0])).length) Slot.unset).toArray = ls at hl ⊢
  have hl : lv_has ls 1 [(0, .ref h0)] := hl
  refine lv_aload_n hx hb dX9_init_0 rfl (lv_at hl 0 rfl) ?_
  refine W.objInit hx hb hown (hts (.methodLink RX9 5 objectInit) wd_725) (hts (.instanceMethod objectInit) wd_368) (hts (.code objectInit ⟨#[0xb1]⟩ 1 none) wd_obj) rfl (by rw [hml]; exact hl.1) rfl dX9_init_1 (Nat.le_of_ble_eq_true rfl) (Nat.le_of_ble_eq_true rfl) ?_
  refine W.eq (g2 := F0 m 4 ls []) rfl ?_
  refine lv_aload_n hx hb dX9_init_4 rfl (lv_at hl 0 rfl) ?_
  refine lv_sipush (v := 10368) hx hb dX9_init_5 (by decide +kernel) ?_
  refine po_nax (D := (dC, dI)) (own := RX9) (index := 15) (atype := .long) (N' := 10368) (n := 10368) (T := TX9) (k1 := 1) (n1 := 10368) (a0 := (10368, .inr (.inl (fun _ => 0)))) (ty := .long) hx hb hts inX9 tyX9 tyX9_ok nmX9 hown hK hP hD hS hA rfl hf hin (hts (.arrayClass .long) wd_538) rfl (po_al 10368 .long rfl) (by decide +kernel) (by decide +kernel) (Nat.le_of_ble_eq_true rfl) (Nat.le_of_ble_eq_true rfl) (Nat.le_of_ble_eq_true rfl) dX9_init_8 4 (by decide) (hts (.fieldLink RX9 15 "ChipFlow$Tester" "good" "[J") wd_731) rfl rfl (by decide +kernel) dX9_init_10 (Nat.le_of_ble_eq_true rfl) (Nat.le_of_ble_eq_true rfl) rfl (fun fs H locs hf hP hD hS => ?_)
  refine lv_aload_n hx hb dX9_init_13 rfl (lv_at hl 0 rfl) ?_
  refine lv_sipush (v := 10368) hx hb dX9_init_14 (by decide +kernel) ?_
  refine po_nax (D := (dC, dI)) (own := RX9) (index := 19) (atype := .long) (N' := 10368) (n := 10368) (T := TX9) (k1 := 2) (n1 := 20736) (a0 := (10368, .inr (.inl (fun _ => 0)))) (ty := .long) hx hb hts inX9 tyX9 tyX9_ok nmX9 hown hK hP hD hS hA rfl hf hin (hts (.arrayClass .long) wd_538) rfl (po_al 10368 .long rfl) (by decide +kernel) (by decide +kernel) (Nat.le_of_ble_eq_true rfl) (Nat.le_of_ble_eq_true rfl) (Nat.le_of_ble_eq_true rfl) dX9_init_17 5 (by decide) (hts (.fieldLink RX9 19 "ChipFlow$Tester" "bad" "[J") wd_732) rfl rfl (by decide +kernel) dX9_init_19 (Nat.le_of_ble_eq_true rfl) (Nat.le_of_ble_eq_true rfl) rfl (fun fs H locs hf hP hD hS => ?_)
  refine lv_aload_n hx hb dX9_init_22 rfl (lv_at hl 0 rfl) ?_
  refine lv_sipush (v := 162) hx hb dX9_init_23 (by decide +kernel) ?_
  refine po_nax (D := (dC, dI)) (own := RX9) (index := 22) (atype := .int) (N' := 162) (n := 162) (T := TX9) (k1 := 3) (n1 := 20898) (a0 := (162, .inl (fun _ => 0))) (ty := .int) hx hb hts inX9 tyX9 tyX9_ok nmX9 hown hK hP hD hS hA rfl hf hin (hts (.arrayClass .int) wd_483) rfl (po_ai 162 .int rfl) (by decide +kernel) (by decide +kernel) (Nat.le_of_ble_eq_true rfl) (Nat.le_of_ble_eq_true rfl) (Nat.le_of_ble_eq_true rfl) dX9_init_26 6 (by decide) (hts (.fieldLink RX9 22 "ChipFlow$Tester" "touched" "[I") wd_733) rfl rfl (by decide +kernel) dX9_init_28 (Nat.le_of_ble_eq_true rfl) (Nat.le_of_ble_eq_true rfl) rfl (fun fs H locs hf hP hD hS => ?_)
  refine lv_aload_n hx hb dX9_init_31 rfl (lv_at hl 0 rfl) ?_
  refine lv_ldc (v := 78336) hx hb hown (hts _ wd_726) dX9_init_32 ?_
  refine po_nax (D := (dC, dI)) (own := RX9) (index := 27) (atype := .long) (N' := 78336) (n := 78336) (T := TX9) (k1 := 4) (n1 := 99234) (a0 := (78336, .inr (.inl (fun _ => 0)))) (ty := .long) hx hb hts inX9 tyX9 tyX9_ok nmX9 hown hK hP hD hS hA rfl hf hin (hts (.arrayClass .long) wd_538) rfl (po_al 78336 .long rfl) (by decide +kernel) (by decide +kernel) (Nat.le_of_ble_eq_true rfl) (Nat.le_of_ble_eq_true rfl) (Nat.le_of_ble_eq_true rfl) dX9_init_34 7 (by decide) (hts (.fieldLink RX9 27 "ChipFlow$Tester" "shown" "[J") wd_734) rfl rfl (by decide +kernel) dX9_init_36 (Nat.le_of_ble_eq_true rfl) (Nat.le_of_ble_eq_true rfl) rfl (fun fs H locs hf hP hD hS => ?_)
  refine lv_aload_n hx hb dX9_init_39 rfl (lv_at hl 0 rfl) ?_
  refine lv_sipush (v := 1224) hx hb dX9_init_40 (by decide +kernel) ?_
  refine po_nax (D := (dC, dI)) (own := RX9) (index := 30) (atype := .int) (N' := 1224) (n := 1224) (T := TX9) (k1 := 5) (n1 := 100458) (a0 := (1224, .inl (fun _ => 0))) (ty := .int) hx hb hts inX9 tyX9 tyX9_ok nmX9 hown hK hP hD hS hA rfl hf hin (hts (.arrayClass .int) wd_483) rfl (po_ai 1224 .int rfl) (by decide +kernel) (by decide +kernel) (Nat.le_of_ble_eq_true rfl) (Nat.le_of_ble_eq_true rfl) (Nat.le_of_ble_eq_true rfl) dX9_init_43 8 (by decide) (hts (.fieldLink RX9 30 "ChipFlow$Tester" "ready" "[I") wd_735) rfl rfl (by decide +kernel) dX9_init_45 (Nat.le_of_ble_eq_true rfl) (Nat.le_of_ble_eq_true rfl) rfl (fun fs H locs hf hP hD hS => ?_)
  refine lv_aload_n hx hb dX9_init_48 rfl (lv_at hl 0 rfl) ?_
  refine lv_sipush (v := 1224) hx hb dX9_init_49 (by decide +kernel) ?_
  refine po_nax (D := (dC, dI)) (own := RX9) (index := 33) (atype := .int) (N' := 1224) (n := 1224) (T := TX9) (k1 := 6) (n1 := 101682) (a0 := (1224, .inl (fun _ => 0))) (ty := .int) hx hb hts inX9 tyX9 tyX9_ok nmX9 hown hK hP hD hS hA rfl hf hin (hts (.arrayClass .int) wd_483) rfl (po_ai 1224 .int rfl) (by decide +kernel) (by decide +kernel) (Nat.le_of_ble_eq_true rfl) (Nat.le_of_ble_eq_true rfl) (Nat.le_of_ble_eq_true rfl) dX9_init_52 9 (by decide) (hts (.fieldLink RX9 33 "ChipFlow$Tester" "tally" "[I") wd_736) rfl rfl (by decide +kernel) dX9_init_54 (Nat.le_of_ble_eq_true rfl) (Nat.le_of_ble_eq_true rfl) rfl (fun fs H locs hf hP hD hS => ?_)
  exact W.vret hx hb hr (fun t ht hW => ⟨⟨(), rfl, trivial, fs, hf, by rw [ht]; exact hP, va_K.moved hW.alike hK, hD⟩, hS.F ht⟩) hS.2.2 dX9_init_57

set_option maxHeartbeats 4000000 in
set_option maxRecDepth 100000 in
theorem ct_X4_init (l : Launch) (dC : Nat → ClassId) (dI : Nat → Nat → Nat) (h0 sz : Nat) (fs : List Value) (hf : fx fs 18 []) : Met l yX4_init (Cond.code yX4_init cX4_init 1 none :: BG) ({ frames := 1, cells := 7, slots := 17300, locals := 12 }) (va_Pc [.ref h0] (fun U => U.heap.size = sz ∧ va_P (dC, dI) CL [(h0, .inr (4, fs))] U.heap ∧ va_K (dC, dI) CL [] U ∧ va_D (fun _ => True) [(h0, .inr (4, fs))])) (va_Qv (fun _ : Unit => True) (fun _ t => ∃ (fs1 : List Value), fx fs1 18 [] ∧ va_P (dC, dI) CL [(h0, .inr (4, fs1))] t.heap ∧ va_K (dC, dI) CL [] t ∧ va_D (va_A [(h0, .inr (4, fs))] sz) [(h0, .inr (4, fs1))]) (va_A [(h0, .inr (4, fs))] sz)) 7 17300 (va_A [(h0, .inr (4, fs))] sz) := by
  refine Met.ofW (cc := cX4_init) (maxL := 1) (ret := none) (by decide) rfl ?_
  intro p e s m args below meth c s₁ B hml hv
  obtain ⟨rfl, hsz, hP, hK, hD0⟩ := hv
  have hx := B.exec
  have hb := B.bytes
  have hr := B.returns
  have hts : ∀ w ∈ BG, w.before _ s = true := fun w h => atoms_spec (ws := Cond.code yX4_init cX4_init 1 none :: BG) B.pre w (List.mem_cons_of_mem _ h)
  have hown : s.vm.findClass RX4 = some m.cls := findClass_of_methodNamed B.named
  have hlocks := B.notSynchronized
  have hin : meth.name = "<init>" := (name_of_methodNamed B.named B.method).1
  subst hsz
  have hD := hD0.self (sz := s.heap.size)
  generalize hAe : va_A [(h0, .inr (4, fs))] s.heap.size = A at hD ⊢
  have hA : ∀ q : Nat, s.heap.size ≤ q → A q := fun q h => by rw [← hAe]; exact Or.inr h
  have hS : va_S A s.heap s.heap [] := va_S.rf
  have hl := lv_entry ([.ref h0]) (n := 1) (Nat.le_of_ble_eq_true rfl)
  rw [lg_entry_eq]
  generalize (lg_sl ([.ref h0]) ++ List.replicate (1 - (lg_sl ([.ref h0])).length) Slot.unset).toArray = ls at hl ⊢
  have hl : lv_has ls 1 [(0, .ref h0)] := hl
  refine lv_aload_n hx hb dX4_init_0 rfl (lv_at hl 0 rfl) ?_
  refine W.objInit hx hb hown (hts (.methodLink RX4 3 objectInit) wd_915) (hts (.instanceMethod objectInit) wd_368) (hts (.code objectInit ⟨#[0xb1]⟩ 1 none) wd_obj) rfl (by rw [hml]; exact hl.1) rfl dX4_init_1 (Nat.le_of_ble_eq_true rfl) (Nat.le_of_ble_eq_true rfl) ?_
  refine W.eq (g2 := F0 m 4 ls []) rfl ?_
  refine lv_aload_n hx hb dX4_init_4 rfl (lv_at hl 0 rfl) ?_
  refine lv_sipush (v := 10000) hx hb dX4_init_5 (by decide +kernel) ?_
  refine po_nax (D := (dC, dI)) (own := RX4) (index := 11) (atype := .int) (N' := 10000) (n := 10000) (T := TX4) (k1 := 1) (n1 := 10000) (a0 := (10000, .inl (fun _ => 0))) (ty := .int) hx hb hts inX4 tyX4 tyX4_ok nmX4 hown hK hP hD hS hA rfl hf hin (hts (.arrayClass .int) wd_483) rfl (po_ai 10000 .int rfl) (by decide +kernel) (by decide +kernel) (Nat.le_of_ble_eq_true rfl) (Nat.le_of_ble_eq_true rfl) (Nat.le_of_ble_eq_true rfl) dX4_init_8 2 (by decide) (hts (.fieldLink RX4 11 "ChipFlow$Layout" "boxes" "[I") wd_921) rfl rfl (by decide +kernel) dX4_init_10 (Nat.le_of_ble_eq_true rfl) (Nat.le_of_ble_eq_true rfl) rfl (fun fs H locs hf hP hD hS => ?_)
  refine lv_aload_n hx hb dX4_init_13 rfl (lv_at hl 0 rfl) ?_
  refine lv_sipush (v := 162) hx hb dX4_init_14 (by decide +kernel) ?_
  refine po_nax (D := (dC, dI)) (own := RX4) (index := 17) (atype := .int) (N' := 162) (n := 162) (T := TX4) (k1 := 2) (n1 := 10162) (a0 := (162, .inl (fun _ => 0))) (ty := .int) hx hb hts inX4 tyX4 tyX4_ok nmX4 hown hK hP hD hS hA rfl hf hin (hts (.arrayClass .int) wd_483) rfl (po_ai 162 .int rfl) (by decide +kernel) (by decide +kernel) (Nat.le_of_ble_eq_true rfl) (Nat.le_of_ble_eq_true rfl) (Nat.le_of_ble_eq_true rfl) dX4_init_17 12 (by decide) (hts (.fieldLink RX4 17 "ChipFlow$Layout" "nextBox" "[I") wd_937) rfl rfl (by decide +kernel) dX4_init_19 (Nat.le_of_ble_eq_true rfl) (Nat.le_of_ble_eq_true rfl) rfl (fun fs H locs hf hP hD hS => ?_)
  refine lv_aload_n hx hb dX4_init_22 rfl (lv_at hl 0 rfl) ?_
  refine lv_sipush (v := 2000) hx hb dX4_init_23 (by decide +kernel) ?_
  refine po_nax (D := (dC, dI)) (own := RX4) (index := 20) (atype := .int) (N' := 2000) (n := 2000) (T := TX4) (k1 := 3) (n1 := 12162) (a0 := (2000, .inl (fun _ => 0))) (ty := .int) hx hb hts inX4 tyX4 tyX4_ok nmX4 hown hK hP hD hS hA rfl hf hin (hts (.arrayClass .int) wd_483) rfl (po_ai 2000 .int rfl) (by decide +kernel) (by decide +kernel) (Nat.le_of_ble_eq_true rfl) (Nat.le_of_ble_eq_true rfl) (Nat.le_of_ble_eq_true rfl) dX4_init_26 13 (by decide) (hts (.fieldLink RX4 20 "ChipFlow$Layout" "nearOnes" "[I") wd_938) rfl rfl (by decide +kernel) dX4_init_28 (Nat.le_of_ble_eq_true rfl) (Nat.le_of_ble_eq_true rfl) rfl (fun fs H locs hf hP hD hS => ?_)
  refine lv_aload_n hx hb dX4_init_31 rfl (lv_at hl 0 rfl) ?_
  refine lv_sipush (v := 2000) hx hb dX4_init_32 (by decide +kernel) ?_
  refine po_nax (D := (dC, dI)) (own := RX4) (index := 23) (atype := .int) (N' := 2000) (n := 2000) (T := TX4) (k1 := 4) (n1 := 14162) (a0 := (2000, .inl (fun _ => 0))) (ty := .int) hx hb hts inX4 tyX4 tyX4_ok nmX4 hown hK hP hD hS hA rfl hf hin (hts (.arrayClass .int) wd_483) rfl (po_ai 2000 .int rfl) (by decide +kernel) (by decide +kernel) (Nat.le_of_ble_eq_true rfl) (Nat.le_of_ble_eq_true rfl) (Nat.le_of_ble_eq_true rfl) dX4_init_35 14 (by decide) (hts (.fieldLink RX4 23 "ChipFlow$Layout" "parent" "[I") wd_939) rfl rfl (by decide +kernel) dX4_init_37 (Nat.le_of_ble_eq_true rfl) (Nat.le_of_ble_eq_true rfl) rfl (fun fs H locs hf hP hD hS => ?_)
  refine lv_aload_n hx hb dX4_init_40 rfl (lv_at hl 0 rfl) ?_
  refine lv_sipush (v := 652) hx hb dX4_init_41 (by decide +kernel) ?_
  refine po_nax (D := (dC, dI)) (own := RX4) (index := 28) (atype := .int) (N' := 652) (n := 652) (T := TX4) (k1 := 5) (n1 := 14814) (a0 := (652, .inl (fun _ => 0))) (ty := .int) hx hb hts inX4 tyX4 tyX4_ok nmX4 hown hK hP hD hS hA rfl hf hin (hts (.arrayClass .int) wd_483) rfl (po_ai 652 .int rfl) (by decide +kernel) (by decide +kernel) (Nat.le_of_ble_eq_true rfl) (Nat.le_of_ble_eq_true rfl) (Nat.le_of_ble_eq_true rfl) dX4_init_44 15 (by decide) (hts (.fieldLink RX4 28 "ChipFlow$Layout" "pinPart" "[I") wd_940) rfl rfl (by decide +kernel) dX4_init_46 (Nat.le_of_ble_eq_true rfl) (Nat.le_of_ble_eq_true rfl) rfl (fun fs H locs hf hP hD hS => ?_)
  refine lv_aload_n hx hb dX4_init_49 rfl (lv_at hl 0 rfl) ?_
  refine lv_sipush (v := 2000) hx hb dX4_init_50 (by decide +kernel) ?_
  refine po_nax (D := (dC, dI)) (own := RX4) (index := 31) (atype := .int) (N' := 2000) (n := 2000) (T := TX4) (k1 := 6) (n1 := 16814) (a0 := (2000, .inl (fun _ => 0))) (ty := .int) hx hb hts inX4 tyX4 tyX4_ok nmX4 hown hK hP hD hS hA rfl hf hin (hts (.arrayClass .int) wd_483) rfl (po_ai 2000 .int rfl) (by decide +kernel) (by decide +kernel) (Nat.le_of_ble_eq_true rfl) (Nat.le_of_ble_eq_true rfl) (Nat.le_of_ble_eq_true rfl) dX4_init_53 16 (by decide) (hts (.fieldLink RX4 31 "ChipFlow$Layout" "partPins" "[I") wd_941) rfl rfl (by decide +kernel) dX4_init_55 (Nat.le_of_ble_eq_true rfl) (Nat.le_of_ble_eq_true rfl) rfl (fun fs H locs hf hP hD hS => ?_)
  refine lv_aload_n hx hb dX4_init_58 rfl (lv_at hl 0 rfl) ?_
  refine lv_sipush (v := 486) hx hb dX4_init_59 (by decide +kernel) ?_
  refine po_nax (D := (dC, dI)) (own := RX4) (index := 34) (atype := .long) (N' := 486) (n := 486) (T := TX4) (k1 := 7) (n1 := 17300) (a0 := (486, .inr (.inl (fun _ => 0)))) (ty := .long) hx hb hts inX4 tyX4 tyX4_ok nmX4 hown hK hP hD hS hA rfl hf hin (hts (.arrayClass .long) wd_538) rfl (po_al 486 .long rfl) (by decide +kernel) (by decide +kernel) (Nat.le_of_ble_eq_true rfl) (Nat.le_of_ble_eq_true rfl) (Nat.le_of_ble_eq_true rfl) dX4_init_62 17 (by decide) (hts (.fieldLink RX4 34 "ChipFlow$Layout" "shorted" "[J") wd_942) rfl rfl (by decide +kernel) dX4_init_64 (Nat.le_of_ble_eq_true rfl) (Nat.le_of_ble_eq_true rfl) rfl (fun fs H locs hf hP hD hS => ?_)
  exact W.vret hx hb hr (fun t ht hW => ⟨⟨(), rfl, trivial, fs, hf, by rw [ht]; exact hP, va_K.moved hW.alike hK, hD⟩, hS.F ht⟩) hS.2.2 dX4_init_67

set_option maxHeartbeats 4000000 in
set_option maxRecDepth 100000 in
theorem ct_X3_init (l : Launch) (dC : Nat → ClassId) (dI : Nat → Nat → Nat) (h0 sz : Nat) (fs : List Value) (hf : fx fs 16 [(0, .int 0)]) : Met l yX3_init (Cond.code yX3_init cX3_init 1 none :: BG) ({ frames := 1, cells := 6, slots := 7157, locals := 12 }) (va_Pc [.ref h0] (fun U => U.heap.size = sz ∧ va_P (dC, dI) CL [(h0, .inr (3, fs))] U.heap ∧ va_K (dC, dI) CL [] U ∧ va_D (fun _ => True) [(h0, .inr (3, fs))])) (va_Qv (fun _ : Unit => True) (fun _ t => ∃ (fs1 : List Value), fx fs1 16 [(0, .int 0)] ∧ va_P (dC, dI) CL [(h0, .inr (3, fs1))] t.heap ∧ va_K (dC, dI) CL [] t ∧ va_D (va_A [(h0, .inr (3, fs))] sz) [(h0, .inr (3, fs1))]) (va_A [(h0, .inr (3, fs))] sz)) 6 7157 (va_A [(h0, .inr (3, fs))] sz) := by
  refine Met.ofW (cc := cX3_init) (maxL := 1) (ret := none) (by decide) rfl ?_
  intro p e s m args below meth c s₁ B hml hv
  obtain ⟨rfl, hsz, hP, hK, hD0⟩ := hv
  have hx := B.exec
  have hb := B.bytes
  have hr := B.returns
  have hts : ∀ w ∈ BG, w.before _ s = true := fun w h => atoms_spec (ws := Cond.code yX3_init cX3_init 1 none :: BG) B.pre w (List.mem_cons_of_mem _ h)
  have hown : s.vm.findClass RX3 = some m.cls := findClass_of_methodNamed B.named
  have hlocks := B.notSynchronized
  have hin : meth.name = "<init>" := (name_of_methodNamed B.named B.method).1
  subst hsz
  have hD := hD0.self (sz := s.heap.size)
  generalize hAe : va_A [(h0, .inr (3, fs))] s.heap.size = A at hD ⊢
  have hA : ∀ q : Nat, s.heap.size ≤ q → A q := fun q h => by rw [← hAe]; exact Or.inr h
  have hS : va_S A s.heap s.heap [] := va_S.rf
  have hl := lv_entry ([.ref h0]) (n := 1) (Nat.le_of_ble_eq_true rfl)
  rw [lg_entry_eq]
  generalize (lg_sl ([.ref h0]) ++ List.replicate (1 - (lg_sl ([.ref h0])).length) Slot.unset).toArray = ls at hl ⊢
  have hl : lv_has ls 1 [(0, .ref h0)] := hl
  refine lv_aload_n hx hb dX3_init_0 rfl (lv_at hl 0 rfl) ?_
  refine W.objInit hx hb hown (hts (.methodLink RX3 3 objectInit) wd_764) (hts (.instanceMethod objectInit) wd_368) (hts (.code objectInit ⟨#[0xb1]⟩ 1 none) wd_obj) rfl (by rw [hml]; exact hl.1) rfl dX3_init_1 (Nat.le_of_ble_eq_true rfl) (Nat.le_of_ble_eq_true rfl) ?_
  refine W.eq (g2 := F0 m 4 ls []) rfl ?_
  refine lv_aload_n hx hb dX3_init_4 rfl (lv_at hl 0 rfl) ?_
  refine lv_sipush (v := 1013) hx hb dX3_init_5 (by decide +kernel) ?_
  refine po_nax (D := (dC, dI)) (own := RX3) (index := 9) (atype := .int) (N' := 1013) (n := 1013) (T := TX3) (k1 := 1) (n1 := 1013) (a0 := (1013, .inl (fun _ => 0))) (ty := .int) hx hb hts inX3 tyX3 tyX3_ok nmX3 hown hK hP hD hS hA rfl hf hin (hts (.arrayClass .int) wd_483) rfl (po_ai 1013 .int rfl) (by decide +kernel) (by decide +kernel) (Nat.le_of_ble_eq_true rfl) (Nat.le_of_ble_eq_true rfl) (Nat.le_of_ble_eq_true rfl) dX3_init_8 10 (by decide) (hts (.fieldLink RX3 9 "ChipFlow$Design" "low" "[I") wd_795) rfl rfl (by decide +kernel) dX3_init_10 (Nat.le_of_ble_eq_true rfl) (Nat.le_of_ble_eq_true rfl) rfl (fun fs H locs hf hP hD hS => ?_)
  refine lv_aload_n hx hb dX3_init_13 rfl (lv_at hl 0 rfl) ?_
  refine lv_sipush (v := 1013) hx hb dX3_init_14 (by decide +kernel) ?_
  refine po_nax (D := (dC, dI)) (own := RX3) (index := 13) (atype := .int) (N' := 1013) (n := 1013) (T := TX3) (k1 := 2) (n1 := 2026) (a0 := (1013, .inl (fun _ => 0))) (ty := .int) hx hb hts inX3 tyX3 tyX3_ok nmX3 hown hK hP hD hS hA rfl hf hin (hts (.arrayClass .int) wd_483) rfl (po_ai 1013 .int rfl) (by decide +kernel) (by decide +kernel) (Nat.le_of_ble_eq_true rfl) (Nat.le_of_ble_eq_true rfl) (Nat.le_of_ble_eq_true rfl) dX3_init_17 11 (by decide) (hts (.fieldLink RX3 13 "ChipFlow$Design" "high" "[I") wd_799) rfl rfl (by decide +kernel) dX3_init_19 (Nat.le_of_ble_eq_true rfl) (Nat.le_of_ble_eq_true rfl) rfl (fun fs H locs hf hP hD hS => ?_)
  refine lv_aload_n hx hb dX3_init_22 rfl (lv_at hl 0 rfl) ?_
  refine lv_sipush (v := 1013) hx hb dX3_init_23 (by decide +kernel) ?_
  refine po_nax (D := (dC, dI)) (own := RX3) (index := 16) (atype := .int) (N' := 1013) (n := 1013) (T := TX3) (k1 := 3) (n1 := 3039) (a0 := (1013, .inl (fun _ => 0))) (ty := .int) hx hb hts inX3 tyX3 tyX3_ok nmX3 hown hK hP hD hS hA rfl hf hin (hts (.arrayClass .int) wd_483) rfl (po_ai 1013 .int rfl) (by decide +kernel) (by decide +kernel) (Nat.le_of_ble_eq_true rfl) (Nat.le_of_ble_eq_true rfl) (Nat.le_of_ble_eq_true rfl) dX3_init_26 12 (by decide) (hts (.fieldLink RX3 16 "ChipFlow$Design" "standsFor" "[I") wd_803) rfl rfl (by decide +kernel) dX3_init_28 (Nat.le_of_ble_eq_true rfl) (Nat.le_of_ble_eq_true rfl) rfl (fun fs H locs hf hP hD hS => ?_)
  refine lv_aload_n hx hb dX3_init_31 rfl (lv_at hl 0 rfl) ?_
  refine lv_bipush (v := 16) hx hb dX3_init_32 (by decide +kernel) ?_
  refine po_nax (D := (dC, dI)) (own := RX3) (index := 19) (atype := .int) (N' := 16) (n := 16) (T := TX3) (k1 := 4) (n1 := 3055) (a0 := (16, .inl (fun _ => 0))) (ty := .int) hx hb hts inX3 tyX3 tyX3_ok nmX3 hown hK hP hD hS hA rfl hf hin (hts (.arrayClass .int) wd_483) rfl (po_ai 16 .int rfl) (by decide +kernel) (by decide +kernel) (Nat.le_of_ble_eq_true rfl) (Nat.le_of_ble_eq_true rfl) (Nat.le_of_ble_eq_true rfl) dX3_init_34 13 (by decide) (hts (.fieldLink RX3 19 "ChipFlow$Design" "outRoot" "[I") wd_806) rfl rfl (by decide +kernel) dX3_init_36 (Nat.le_of_ble_eq_true rfl) (Nat.le_of_ble_eq_true rfl) rfl (fun fs H locs hf hP hD hS => ?_)
  refine lv_aload_n hx hb dX3_init_39 rfl (lv_at hl 0 rfl) ?_
  refine lv_bipush (v := 6) hx hb dX3_init_40 (by decide +kernel) ?_
  refine po_nax (D := (dC, dI)) (own := RX3) (index := 22) (atype := .int) (N' := 6) (n := 6) (T := TX3) (k1 := 5) (n1 := 3061) (a0 := (6, .inl (fun _ => 0))) (ty := .int) hx hb hts inX3 tyX3 tyX3_ok nmX3 hown hK hP hD hS hA rfl hf hin (hts (.arrayClass .int) wd_483) rfl (po_ai 6 .int rfl) (by decide +kernel) (by decide +kernel) (Nat.le_of_ble_eq_true rfl) (Nat.le_of_ble_eq_true rfl) (Nat.le_of_ble_eq_true rfl) dX3_init_42 14 (by decide) (hts (.fieldLink RX3 22 "ChipFlow$Design" "nextRoot" "[I") wd_809) rfl rfl (by decide +kernel) dX3_init_44 (Nat.le_of_ble_eq_true rfl) (Nat.le_of_ble_eq_true rfl) rfl (fun fs H locs hf hP hD hS => ?_)
  refine lv_aload_n hx hb dX3_init_47 rfl (lv_at hl 0 rfl) ?_
  refine lv_sipush (v := 4096) hx hb dX3_init_48 (by decide +kernel) ?_
  refine po_nax (D := (dC, dI)) (own := RX3) (index := 25) (atype := .int) (N' := 4096) (n := 4096) (T := TX3) (k1 := 6) (n1 := 7157) (a0 := (4096, .inl (fun _ => 0))) (ty := .int) hx hb hts inX3 tyX3 tyX3_ok nmX3 hown hK hP hD hS hA rfl hf hin (hts (.arrayClass .int) wd_483) rfl (po_ai 4096 .int rfl) (by decide +kernel) (by decide +kernel) (Nat.le_of_ble_eq_true rfl) (Nat.le_of_ble_eq_true rfl) (Nat.le_of_ble_eq_true rfl) dX3_init_51 15 (by decide) (hts (.fieldLink RX3 25 "ChipFlow$Design" "table" "[I") wd_812) rfl rfl (by decide +kernel) dX3_init_53 (Nat.le_of_ble_eq_true rfl) (Nat.le_of_ble_eq_true rfl) rfl (fun fs H locs hf hP hD hS => ?_)
  exact W.vret hx hb hr (fun t ht hW => ⟨⟨(), rfl, trivial, fs, hf, by rw [ht]; exact hP, va_K.moved hW.alike hK, hD⟩, hS.F ht⟩) hS.2.2 dX3_init_56

set_option maxHeartbeats 4000000 in
set_option maxRecDepth 100000 in
theorem ct_X5_init (l : Launch) (dC : Nat → ClassId) (dI : Nat → Nat → Nat) (h0 sz : Nat) (fs : List Value) (hf : fx fs 7 [(0, .int 0)]) : Met l yX5_init (Cond.code yX5_init cX5_init 1 none :: BG) ({ frames := 1, cells := 4, slots := 48, locals := 12 }) (va_Pc [.ref h0] (fun U => U.heap.size = sz ∧ va_P (dC, dI) CL [(h0, .inr (5, fs))] U.heap ∧ va_K (dC, dI) CL [] U ∧ va_D (fun _ => True) [(h0, .inr (5, fs))])) (va_Qv (fun _ : Unit => True) (fun _ t => ∃ (fs1 : List Value), fx fs1 7 [(0, .int 0)] ∧ va_P (dC, dI) CL [(h0, .inr (5, fs1))] t.heap ∧ va_K (dC, dI) CL [] t ∧ va_D (va_A [(h0, .inr (5, fs))] sz) [(h0, .inr (5, fs1))]) (va_A [(h0, .inr (5, fs))] sz)) 4 48 (va_A [(h0, .inr (5, fs))] sz) := by
  refine Met.ofW (cc := cX5_init) (maxL := 1) (ret := none) (by decide) rfl ?_
  intro p e s m args below meth c s₁ B hml hv
  obtain ⟨rfl, hsz, hP, hK, hD0⟩ := hv
  have hx := B.exec
  have hb := B.bytes
  have hr := B.returns
  have hts : ∀ w ∈ BG, w.before _ s = true := fun w h => atoms_spec (ws := Cond.code yX5_init cX5_init 1 none :: BG) B.pre w (List.mem_cons_of_mem _ h)
  have hown : s.vm.findClass RX5 = some m.cls := findClass_of_methodNamed B.named
  have hlocks := B.notSynchronized
  have hin : meth.name = "<init>" := (name_of_methodNamed B.named B.method).1
  subst hsz
  have hD := hD0.self (sz := s.heap.size)
  generalize hAe : va_A [(h0, .inr (5, fs))] s.heap.size = A at hD ⊢
  have hA : ∀ q : Nat, s.heap.size ≤ q → A q := fun q h => by rw [← hAe]; exact Or.inr h
  have hS : va_S A s.heap s.heap [] := va_S.rf
  have hl := lv_entry ([.ref h0]) (n := 1) (Nat.le_of_ble_eq_true rfl)
  rw [lg_entry_eq]
  generalize (lg_sl ([.ref h0]) ++ List.replicate (1 - (lg_sl ([.ref h0])).length) Slot.unset).toArray = ls at hl ⊢
  have hl : lv_has ls 1 [(0, .ref h0)] := hl
  refine lv_aload_n hx hb dX5_init_0 rfl (lv_at hl 0 rfl) ?_
  refine W.objInit hx hb hown (hts (.methodLink RX5 3 objectInit) wd_854) (hts (.instanceMethod objectInit) wd_368) (hts (.code objectInit ⟨#[0xb1]⟩ 1 none) wd_obj) rfl (by rw [hml]; exact hl.1) rfl dX5_init_1 (Nat.le_of_ble_eq_true rfl) (Nat.le_of_ble_eq_true rfl) ?_
  refine W.eq (g2 := F0 m 4 ls []) rfl ?_
  refine lv_aload_n hx hb dX5_init_4 rfl (lv_at hl 0 rfl) ?_
  refine lv_bipush (v := 12) hx hb dX5_init_5 (by decide +kernel) ?_
  refine po_nax (D := (dC, dI)) (own := RX5) (index := 11) (atype := .int) (N' := 12) (n := 12) (T := TX5) (k1 := 1) (n1 := 12) (a0 := (12, .inl (fun _ => 0))) (ty := .int) hx hb hts inX5 tyX5 tyX5_ok nmX5 hown hK hP hD hS hA rfl hf hin (hts (.arrayClass .int) wd_483) rfl (po_ai 12 .int rfl) (by decide +kernel) (by decide +kernel) (Nat.le_of_ble_eq_true rfl) (Nat.le_of_ble_eq_true rfl) (Nat.le_of_ble_eq_true rfl) dX5_init_7 3 (by decide) (hts (.fieldLink RX5 11 "ChipFlow$Library" "inputs" "[I") wd_864) rfl rfl (by decide +kernel) dX5_init_9 (Nat.le_of_ble_eq_true rfl) (Nat.le_of_ble_eq_true rfl) rfl (fun fs H locs hf hP hD hS => ?_)
  refine lv_aload_n hx hb dX5_init_12 rfl (lv_at hl 0 rfl) ?_
  refine lv_bipush (v := 12) hx hb dX5_init_13 (by decide +kernel) ?_
  refine po_nax (D := (dC, dI)) (own := RX5) (index := 15) (atype := .int) (N' := 12) (n := 12) (T := TX5) (k1 := 2) (n1 := 24) (a0 := (12, .inl (fun _ => 0))) (ty := .int) hx hb hts inX5 tyX5 tyX5_ok nmX5 hown hK hP hD hS hA rfl hf hin (hts (.arrayClass .int) wd_483) rfl (po_ai 12 .int rfl) (by decide +kernel) (by decide +kernel) (Nat.le_of_ble_eq_true rfl) (Nat.le_of_ble_eq_true rfl) (Nat.le_of_ble_eq_true rfl) dX5_init_15 4 (by decide) (hts (.fieldLink RX5 15 "ChipFlow$Library" "table" "[I") wd_868) rfl rfl (by decide +kernel) dX5_init_17 (Nat.le_of_ble_eq_true rfl) (Nat.le_of_ble_eq_true rfl) rfl (fun fs H locs hf hP hD hS => ?_)
  refine lv_aload_n hx hb dX5_init_20 rfl (lv_at hl 0 rfl) ?_
  refine lv_bipush (v := 12) hx hb dX5_init_21 (by decide +kernel) ?_
  refine po_nax (D := (dC, dI)) (own := RX5) (index := 18) (atype := .int) (N' := 12) (n := 12) (T := TX5) (k1 := 3) (n1 := 36) (a0 := (12, .inl (fun _ => 0))) (ty := .int) hx hb hts inX5 tyX5 tyX5_ok nmX5 hown hK hP hD hS hA rfl hf hin (hts (.arrayClass .int) wd_483) rfl (po_ai 12 .int rfl) (by decide +kernel) (by decide +kernel) (Nat.le_of_ble_eq_true rfl) (Nat.le_of_ble_eq_true rfl) (Nat.le_of_ble_eq_true rfl) dX5_init_23 5 (by decide) (hts (.fieldLink RX5 18 "ChipFlow$Library" "area" "[I") wd_873) rfl rfl (by decide +kernel) dX5_init_25 (Nat.le_of_ble_eq_true rfl) (Nat.le_of_ble_eq_true rfl) rfl (fun fs H locs hf hP hD hS => ?_)
  refine lv_aload_n hx hb dX5_init_28 rfl (lv_at hl 0 rfl) ?_
  refine lv_bipush (v := 12) hx hb dX5_init_29 (by decide +kernel) ?_
  refine po_nax (D := (dC, dI)) (own := RX5) (index := 21) (atype := .int) (N' := 12) (n := 12) (T := TX5) (k1 := 4) (n1 := 48) (a0 := (12, .inl (fun _ => 0))) (ty := .int) hx hb hts inX5 tyX5 tyX5_ok nmX5 hown hK hP hD hS hA rfl hf hin (hts (.arrayClass .int) wd_483) rfl (po_ai 12 .int rfl) (by decide +kernel) (by decide +kernel) (Nat.le_of_ble_eq_true rfl) (Nat.le_of_ble_eq_true rfl) (Nat.le_of_ble_eq_true rfl) dX5_init_31 6 (by decide) (hts (.fieldLink RX5 21 "ChipFlow$Library" "delay" "[I") wd_877) rfl rfl (by decide +kernel) dX5_init_33 (Nat.le_of_ble_eq_true rfl) (Nat.le_of_ble_eq_true rfl) rfl (fun fs H locs hf hP hD hS => ?_)
  exact W.vret hx hb hr (fun t ht hW => ⟨⟨(), rfl, trivial, fs, hf, by rw [ht]; exact hP, va_K.moved hW.alike hK, hD⟩, hS.F ht⟩) hS.2.2 dX5_init_36
