set_option maxHeartbeats 4000000 in
set_option maxRecDepth 100000 in
theorem gx3_X10_append (l : Launch) (hlt : l.stackTraces = false) (dC : Nat → ClassId) (dI : Nat → Nat → Nat) (sz : Nat) (p0 : Int32) (x tx bt oA : Nat) (xg : List Value) (h_x : fx xg 17 [(0, .ref tx)]) (txg : List Value) (h_tx : fx txg 9 [(0, .ref bt), (1, .int 0), (2, .int 0), (3, .int 0), (4, .int 0), (6, .int 0), (7, .int 0), (8, .int 0)]) (btC : ClassId) (btf : Nat → Int32) (h_bt : fa btf []) (oAC : ClassId) (oAf : Nat → Int64) (h_oA : fa oAf []) : Met l yX10_append (Cond.code yX10_append cX10_append 3 none :: BG) ({ frames := 1, cells := 0, slots := 0, locals := 12 }) (va_Pc [.ref tx, .int p0] (fun U => U.heap.size = sz ∧ va_P (dC, dI) CL [(x, .inr (12, xg)), (tx, .inr (10, txg)), (bt, .inl (btC, (65536, .inl btf))), (oA, .inl (oAC, (1, .inr (.inl oAf))))] U.heap ∧ va_K (dC, dI) CL [(btC, .byte), (oAC, .long)] U ∧ va_D (fun _ => True) [(x, .inr (12, xg)), (tx, .inr (10, txg)), (bt, .inl (btC, (65536, .inl btf))), (oA, .inl (oAC, (1, .inr (.inl oAf))))] ∧ th (va_A [(x, .inr (12, xg)), (tx, .inr (10, txg)), (bt, .inl (btC, (65536, .inl btf))), (oA, .inl (oAC, (1, .inr (.inl oAf))))] sz) U U.heap)) (va_Qv (fun _ : Unit => True) (fun _ t => ∃ (xy : List Value) (txy : List Value) (bty : Nat → Int32) (oAy : Nat → Int64), fx xy 17 [(0, .ref tx)] ∧ fx txy 9 [(0, .ref bt), (1, .int 4), (2, .int 0), (3, .int 0), (4, .int 0), (6, .int 0), (7, .int 0), (8, .int 0)] ∧ fa bty [] ∧ fa oAy [] ∧ va_P (dC, dI) CL [(x, .inr (12, xy)), (tx, .inr (10, txy)), (bt, .inl (btC, (65536, .inl bty))), (oA, .inl (oAC, (1, .inr (.inl oAy))))] t.heap ∧ va_K (dC, dI) CL [(btC, .byte), (oAC, .long)] t ∧ va_D (va_A [(x, .inr (12, xg)), (tx, .inr (10, txg)), (bt, .inl (btC, (65536, .inl btf))), (oA, .inl (oAC, (1, .inr (.inl oAf))))] sz) [(x, .inr (12, xy)), (tx, .inr (10, txy)), (bt, .inl (btC, (65536, .inl bty))), (oA, .inl (oAC, (1, .inr (.inl oAy))))]) (va_A [(x, .inr (12, xg)), (tx, .inr (10, txg)), (bt, .inl (btC, (65536, .inl btf))), (oA, .inl (oAC, (1, .inr (.inl oAf))))] sz)) 0 0 (va_A [(x, .inr (12, xg)), (tx, .inr (10, txg)), (bt, .inl (btC, (65536, .inl btf))), (oA, .inl (oAC, (1, .inr (.inl oAf))))] sz) := by
  refine Met.ofW (cc := cX10_append) (maxL := 3) (ret := none) (by decide) rfl ?_
  intro p e s m args below meth c s₁ B hml hv
  obtain ⟨rfl, hsz, hP, hK, hD0, hth⟩ := hv
  have hx := B.exec
  have hb := B.bytes
  have hr := B.returns
  have hts : ∀ w ∈ BG, w.before _ s = true := fun w h => atoms_spec (ws := Cond.code yX10_append cX10_append 3 none :: BG) B.pre w (List.mem_cons_of_mem _ h)
  have hown : s.vm.findClass RX10 = some m.cls := findClass_of_methodNamed B.named
  have hlocks := B.notSynchronized
  subst hsz
  have hD := hD0.self (sz := s.heap.size)
  generalize hAe : va_A [(x, .inr (12, xg)), (tx, .inr (10, txg)), (bt, .inl (btC, (65536, .inl btf))), (oA, .inl (oAC, (1, .inr (.inl oAf))))] s.heap.size = A at hD hth ⊢
  have hA : ∀ q : Nat, s.heap.size ≤ q → A q := fun q h => by rw [← hAe]; exact Or.inr h
  have hS : va_S A s.heap s.heap [] := va_S.rf
  have hl := lv_entry ([.ref tx, .int p0]) (n := 3) (Nat.le_of_ble_eq_true rfl)
  rw [lg_entry_eq]
  generalize (lg_sl ([.ref tx, .int p0]) ++ List.replicate (3 - (lg_sl ([.ref tx, .int p0])).length) Slot.unset).toArray = ls at hl ⊢
  have hl : lv_has ls 3 [(0, .ref tx), (1, .int p0)] := hl
  obtain ⟨H, eH⟩ : ∃ z, z = s.heap := ⟨_, rfl⟩
  have hP : va_P (dC, dI) CL [(x, .inr (12, xg)), (tx, .inr (10, txg)), (bt, .inl (btC, (65536, .inl btf))), (oA, .inl (oAC, (1, .inr (.inl oAf))))] H := by rw [eH]; exact hP
  have hS : va_S A s.heap H [] := by rw [eH]; exact hS
  rw [← eH]
  refine lv_bipush (v := 24) hx hb dX10_append_0 (by decide +kernel) ?_
  refine lv_istore_n (lv' := [(2, .int 24), (0, .ref tx), (1, .int p0)]) hx hb dX10_append_2 rfl hl (by decide) rfl (fun ls hl => ?_)
  refine lv_iload_n hx hb dX10_append_3 rfl (lv_at hl 0 rfl) ?_
  refine lv_if_lt (tgt := 45) hx hb dX10_append_4 (by decide) (fun c9 => ?_) (fun c9 => ?_)
  · first | exact absurd c9 (by decide +kernel) | exact absurd (by decide +kernel) c9
  refine lv_aload_n hx hb dX10_append_7 rfl (lv_at hl 1 rfl) ?_
  refine va_get (D := (dC, dI)) (ci := 10) (v := .int 0) (C := RX10) (T := TX10) (N := 9) hx hb hts inX10 hown hK hP 1 rfl rfl 1 (by decide) (hts (.fieldLink RX10 14 "ChipFlow$Text" "length" "I") wd_379) (fun _ h9 => h9) (h_tx.get 1 rfl) dX10_append_8 ?_
  refine lv_ldc (v := 65536) hx hb hown (hts _ wd_376) dX10_append_11 ?_
  refine lv_icmp_ge (tgt := 39) hx hb dX10_append_13 (by decide) (fun c9 => ?_) (fun c9 => ?_)
  · first | exact absurd c9 (by decide +kernel) | exact absurd (by decide +kernel) c9
  refine lv_aload_n hx hb dX10_append_16 rfl (lv_at hl 1 rfl) ?_
  refine va_get (D := (dC, dI)) (ci := 10) (v := .ref bt) (C := RX10) (T := TX10) (N := 9) hx hb hts inX10 hown hK hP 1 rfl rfl 0 (by decide) (hts (.fieldLink RX10 10 "ChipFlow$Text" "bytes" "[B") wd_377) (fun _ h9 => h9) (h_tx.get 0 rfl) dX10_append_17 ?_
  refine lv_aload_n hx hb dX10_append_20 rfl (lv_at hl 1 rfl) ?_
  refine va_get (D := (dC, dI)) (ci := 10) (v := .int 0) (C := RX10) (T := TX10) (N := 9) hx hb hts inX10 hown hK hP 1 rfl rfl 1 (by decide) (hts (.fieldLink RX10 14 "ChipFlow$Text" "length" "I") wd_379) (fun _ h9 => h9) (h_tx.get 1 rfl) dX10_append_21 ?_
  refine lv_iload_n hx hb dX10_append_24 rfl (lv_at hl 2 rfl) ?_
  refine lv_iload_n hx hb dX10_append_25 rfl (lv_at hl 0 rfl) ?_
  refine lv_ishr hx hb dX10_append_26 ?_
  refine lv_topi (fun v_1 _ => ?_)
  refine lv_i2b hx hb dX10_append_27 rfl ?_
  refine lv_topi (fun v_2 _ => ?_)
  refine va_bast hx hb hK hP hD hS 2 0 rfl rfl (vp_in_nI (n := 0) (N := 65536) (by decide) (by decide)) dX10_append_28 (fun H locs hP hD hS => ?_)
  obtain ⟨f_3, e9⟩ : ∃ z, z = upd btf (0 : Int32).toNatClampNeg (vp_nar .byte v_2) := ⟨_, rfl⟩
  have h_bt : fa f_3 [] := by rw [e9, show (0 : Int32).toNatClampNeg = 0 by decide +kernel]; exact (fa.lose h_bt).sub [] rfl
  have hP : va_P (dC, dI) CL [(x, .inr (12, xg)), (tx, .inr (10, txg)), (bt, .inl (btC, (65536, .inl f_3))), (oA, .inl (oAC, (1, .inr (.inl oAf))))] H := by rw [e9]; exact hP
  have hD : va_D A [(x, .inr (12, xg)), (tx, .inr (10, txg)), (bt, .inl (btC, (65536, .inl f_3))), (oA, .inl (oAC, (1, .inr (.inl oAf))))] := by rw [e9]; exact hD
  clear e9
  refine lv_aload_n hx hb dX10_append_29 rfl (lv_at hl 1 rfl) ?_
  refine lv_dup hx hb dX10_append_30 rfl ?_
  refine va_get (D := (dC, dI)) (ci := 10) (v := .int 0) (C := RX10) (T := TX10) (N := 9) hx hb hts inX10 hown hK hP 1 rfl rfl 1 (by decide) (hts (.fieldLink RX10 14 "ChipFlow$Text" "length" "I") wd_379) (fun _ h9 => h9) (h_tx.get 1 rfl) dX10_append_31 ?_
  refine lv_iconst (v := 1) hx hb dX10_append_34 (by decide +kernel) ?_
  refine lv_iadd hx hb dX10_append_35 ?_
  refine lv_topi (fun v9 e9 => ?_)
  obtain rfl : v9 = 1 := e9.trans (by decide +kernel)
  refine va_put (D := (dC, dI)) (ci := 10) (v := .int 1) (ty := tyX10 1) (C := RX10) (T := TX10) (N := 9) hx hb hts inX10 tyX10 tyX10_ok nmX10 hown hK hP hD hS 1 rfl rfl 1 (by decide) (hts (.fieldLink RX10 14 "ChipFlow$Text" "length" "I") wd_379) (fun _ h9 => h9) rfl (by decide +kernel) rfl rfl (by rw [h_tx.1]; decide) dX10_append_36 (fun H locs hP hD hS => ?_)
  obtain ⟨fs_4, e9⟩ : ∃ z, z = txg.set 1 (.int 1) := ⟨_, rfl⟩
  have h_tx : fx fs_4 9 [(0, .ref bt), (1, .int 1), (2, .int 0), (3, .int 0), (4, .int 0), (6, .int 0), (7, .int 0), (8, .int 0)] := by rw [e9]; exact (h_tx.put (F' := [(1, .int 1), (0, .ref bt), (2, .int 0), (3, .int 0), (4, .int 0), (6, .int 0), (7, .int 0), (8, .int 0)]) (by decide) _ rfl).sub [1, 0, 2, 3, 4, 5, 6, 7] rfl
  have hP : va_P (dC, dI) CL [(x, .inr (12, xg)), (tx, .inr (10, fs_4)), (bt, .inl (btC, (65536, .inl f_3))), (oA, .inl (oAC, (1, .inr (.inl oAf))))] H := by rw [e9]; exact hP
  have hD : va_D A [(x, .inr (12, xg)), (tx, .inr (10, fs_4)), (bt, .inl (btC, (65536, .inl f_3))), (oA, .inl (oAC, (1, .inr (.inl oAf))))] := by rw [e9]; exact hD
  clear e9
  refine lv_iinc (v := 16) (lv' := [(2, .int 16), (0, .ref tx), (1, .int p0)]) hx hb dX10_append_39 hl (k := 0) rfl (by decide +kernel) (by decide) rfl (fun ls hl => ?_)
  refine lv_goto (tgt := 3) hx hb dX10_append_42 (by decide) ?_
  refine lv_iload_n hx hb dX10_append_3 rfl (lv_at hl 0 rfl) ?_
  refine lv_if_lt (tgt := 45) hx hb dX10_append_4 (by decide) (fun c9 => ?_) (fun c9 => ?_)
  · first | exact absurd c9 (by decide +kernel) | exact absurd (by decide +kernel) c9
  refine lv_aload_n hx hb dX10_append_7 rfl (lv_at hl 1 rfl) ?_
  refine va_get (D := (dC, dI)) (ci := 10) (v := .int 1) (C := RX10) (T := TX10) (N := 9) hx hb hts inX10 hown hK hP 1 rfl rfl 1 (by decide) (hts (.fieldLink RX10 14 "ChipFlow$Text" "length" "I") wd_379) (fun _ h9 => h9) (h_tx.get 1 rfl) dX10_append_8 ?_
  refine lv_ldc (v := 65536) hx hb hown (hts _ wd_376) dX10_append_11 ?_
  refine lv_icmp_ge (tgt := 39) hx hb dX10_append_13 (by decide) (fun c9 => ?_) (fun c9 => ?_)
  · first | exact absurd c9 (by decide +kernel) | exact absurd (by decide +kernel) c9
  refine lv_aload_n hx hb dX10_append_16 rfl (lv_at hl 1 rfl) ?_
  refine va_get (D := (dC, dI)) (ci := 10) (v := .ref bt) (C := RX10) (T := TX10) (N := 9) hx hb hts inX10 hown hK hP 1 rfl rfl 0 (by decide) (hts (.fieldLink RX10 10 "ChipFlow$Text" "bytes" "[B") wd_377) (fun _ h9 => h9) (h_tx.get 0 rfl) dX10_append_17 ?_
  refine lv_aload_n hx hb dX10_append_20 rfl (lv_at hl 1 rfl) ?_
  refine va_get (D := (dC, dI)) (ci := 10) (v := .int 1) (C := RX10) (T := TX10) (N := 9) hx hb hts inX10 hown hK hP 1 rfl rfl 1 (by decide) (hts (.fieldLink RX10 14 "ChipFlow$Text" "length" "I") wd_379) (fun _ h9 => h9) (h_tx.get 1 rfl) dX10_append_21 ?_
  refine lv_iload_n hx hb dX10_append_24 rfl (lv_at hl 2 rfl) ?_
  refine lv_iload_n hx hb dX10_append_25 rfl (lv_at hl 0 rfl) ?_
  refine lv_ishr hx hb dX10_append_26 ?_
  refine lv_topi (fun v_5 _ => ?_)
  refine lv_i2b hx hb dX10_append_27 rfl ?_
  refine lv_topi (fun v_6 _ => ?_)
  refine va_bast hx hb hK hP hD hS 2 0 rfl rfl (vp_in_nI (n := 1) (N := 65536) (by decide) (by decide)) dX10_append_28 (fun H locs hP hD hS => ?_)
  obtain ⟨f_7, e9⟩ : ∃ z, z = upd f_3 (1 : Int32).toNatClampNeg (vp_nar .byte v_6) := ⟨_, rfl⟩
  have h_bt : fa f_7 [] := by rw [e9, show (1 : Int32).toNatClampNeg = 1 by decide +kernel]; exact (fa.lose h_bt).sub [] rfl
  have hP : va_P (dC, dI) CL [(x, .inr (12, xg)), (tx, .inr (10, fs_4)), (bt, .inl (btC, (65536, .inl f_7))), (oA, .inl (oAC, (1, .inr (.inl oAf))))] H := by rw [e9]; exact hP
  have hD : va_D A [(x, .inr (12, xg)), (tx, .inr (10, fs_4)), (bt, .inl (btC, (65536, .inl f_7))), (oA, .inl (oAC, (1, .inr (.inl oAf))))] := by rw [e9]; exact hD
  clear e9
  refine lv_aload_n hx hb dX10_append_29 rfl (lv_at hl 1 rfl) ?_
  refine lv_dup hx hb dX10_append_30 rfl ?_
  refine va_get (D := (dC, dI)) (ci := 10) (v := .int 1) (C := RX10) (T := TX10) (N := 9) hx hb hts inX10 hown hK hP 1 rfl rfl 1 (by decide) (hts (.fieldLink RX10 14 "ChipFlow$Text" "length" "I") wd_379) (fun _ h9 => h9) (h_tx.get 1 rfl) dX10_append_31 ?_
  refine lv_iconst (v := 1) hx hb dX10_append_34 (by decide +kernel) ?_
  refine lv_iadd hx hb dX10_append_35 ?_
  refine lv_topi (fun v9 e9 => ?_)
  obtain rfl : v9 = 2 := e9.trans (by decide +kernel)
  refine va_put (D := (dC, dI)) (ci := 10) (v := .int 2) (ty := tyX10 1) (C := RX10) (T := TX10) (N := 9) hx hb hts inX10 tyX10 tyX10_ok nmX10 hown hK hP hD hS 1 rfl rfl 1 (by decide) (hts (.fieldLink RX10 14 "ChipFlow$Text" "length" "I") wd_379) (fun _ h9 => h9) rfl (by decide +kernel) rfl rfl (by rw [h_tx.1]; decide) dX10_append_36 (fun H locs hP hD hS => ?_)
  obtain ⟨fs_8, e9⟩ : ∃ z, z = fs_4.set 1 (.int 2) := ⟨_, rfl⟩
  have h_tx : fx fs_8 9 [(0, .ref bt), (1, .int 2), (2, .int 0), (3, .int 0), (4, .int 0), (6, .int 0), (7, .int 0), (8, .int 0)] := by rw [e9]; exact (h_tx.put (F' := [(1, .int 2), (0, .ref bt), (2, .int 0), (3, .int 0), (4, .int 0), (6, .int 0), (7, .int 0), (8, .int 0)]) (by decide) _ rfl).sub [1, 0, 2, 3, 4, 5, 6, 7] rfl
  have hP : va_P (dC, dI) CL [(x, .inr (12, xg)), (tx, .inr (10, fs_8)), (bt, .inl (btC, (65536, .inl f_7))), (oA, .inl (oAC, (1, .inr (.inl oAf))))] H := by rw [e9]; exact hP
  have hD : va_D A [(x, .inr (12, xg)), (tx, .inr (10, fs_8)), (bt, .inl (btC, (65536, .inl f_7))), (oA, .inl (oAC, (1, .inr (.inl oAf))))] := by rw [e9]; exact hD
  clear e9
  refine lv_iinc (v := 8) (lv' := [(2, .int 8), (0, .ref tx), (1, .int p0)]) hx hb dX10_append_39 hl (k := 0) rfl (by decide +kernel) (by decide) rfl (fun ls hl => ?_)
  refine lv_goto (tgt := 3) hx hb dX10_append_42 (by decide) ?_
  refine lv_iload_n hx hb dX10_append_3 rfl (lv_at hl 0 rfl) ?_
  refine lv_if_lt (tgt := 45) hx hb dX10_append_4 (by decide) (fun c9 => ?_) (fun c9 => ?_)
  · first | exact absurd c9 (by decide +kernel) | exact absurd (by decide +kernel) c9
  refine lv_aload_n hx hb dX10_append_7 rfl (lv_at hl 1 rfl) ?_
  refine va_get (D := (dC, dI)) (ci := 10) (v := .int 2) (C := RX10) (T := TX10) (N := 9) hx hb hts inX10 hown hK hP 1 rfl rfl 1 (by decide) (hts (.fieldLink RX10 14 "ChipFlow$Text" "length" "I") wd_379) (fun _ h9 => h9) (h_tx.get 1 rfl) dX10_append_8 ?_
  refine lv_ldc (v := 65536) hx hb hown (hts _ wd_376) dX10_append_11 ?_
  refine lv_icmp_ge (tgt := 39) hx hb dX10_append_13 (by decide) (fun c9 => ?_) (fun c9 => ?_)
  · first | exact absurd c9 (by decide +kernel) | exact absurd (by decide +kernel) c9
  refine lv_aload_n hx hb dX10_append_16 rfl (lv_at hl 1 rfl) ?_
  refine va_get (D := (dC, dI)) (ci := 10) (v := .ref bt) (C := RX10) (T := TX10) (N := 9) hx hb hts inX10 hown hK hP 1 rfl rfl 0 (by decide) (hts (.fieldLink RX10 10 "ChipFlow$Text" "bytes" "[B") wd_377) (fun _ h9 => h9) (h_tx.get 0 rfl) dX10_append_17 ?_
  refine lv_aload_n hx hb dX10_append_20 rfl (lv_at hl 1 rfl) ?_
  refine va_get (D := (dC, dI)) (ci := 10) (v := .int 2) (C := RX10) (T := TX10) (N := 9) hx hb hts inX10 hown hK hP 1 rfl rfl 1 (by decide) (hts (.fieldLink RX10 14 "ChipFlow$Text" "length" "I") wd_379) (fun _ h9 => h9) (h_tx.get 1 rfl) dX10_append_21 ?_
  refine lv_iload_n hx hb dX10_append_24 rfl (lv_at hl 2 rfl) ?_
  refine lv_iload_n hx hb dX10_append_25 rfl (lv_at hl 0 rfl) ?_
  refine lv_ishr hx hb dX10_append_26 ?_
  refine lv_topi (fun v_9 _ => ?_)
  refine lv_i2b hx hb dX10_append_27 rfl ?_
  refine lv_topi (fun v_10 _ => ?_)
  refine va_bast hx hb hK hP hD hS 2 0 rfl rfl (vp_in_nI (n := 2) (N := 65536) (by decide) (by decide)) dX10_append_28 (fun H locs hP hD hS => ?_)
  obtain ⟨f_11, e9⟩ : ∃ z, z = upd f_7 (2 : Int32).toNatClampNeg (vp_nar .byte v_10) := ⟨_, rfl⟩
  have h_bt : fa f_11 [] := by rw [e9, show (2 : Int32).toNatClampNeg = 2 by decide +kernel]; exact (fa.lose h_bt).sub [] rfl
  have hP : va_P (dC, dI) CL [(x, .inr (12, xg)), (tx, .inr (10, fs_8)), (bt, .inl (btC, (65536, .inl f_11))), (oA, .inl (oAC, (1, .inr (.inl oAf))))] H := by rw [e9]; exact hP
  have hD : va_D A [(x, .inr (12, xg)), (tx, .inr (10, fs_8)), (bt, .inl (btC, (65536, .inl f_11))), (oA, .inl (oAC, (1, .inr (.inl oAf))))] := by rw [e9]; exact hD
  clear e9
  refine lv_aload_n hx hb dX10_append_29 rfl (lv_at hl 1 rfl) ?_
  refine lv_dup hx hb dX10_append_30 rfl ?_
  refine va_get (D := (dC, dI)) (ci := 10) (v := .int 2) (C := RX10) (T := TX10) (N := 9) hx hb hts inX10 hown hK hP 1 rfl rfl 1 (by decide) (hts (.fieldLink RX10 14 "ChipFlow$Text" "length" "I") wd_379) (fun _ h9 => h9) (h_tx.get 1 rfl) dX10_append_31 ?_
  refine lv_iconst (v := 1) hx hb dX10_append_34 (by decide +kernel) ?_
  refine lv_iadd hx hb dX10_append_35 ?_
  refine lv_topi (fun v9 e9 => ?_)
  obtain rfl : v9 = 3 := e9.trans (by decide +kernel)
  refine va_put (D := (dC, dI)) (ci := 10) (v := .int 3) (ty := tyX10 1) (C := RX10) (T := TX10) (N := 9) hx hb hts inX10 tyX10 tyX10_ok nmX10 hown hK hP hD hS 1 rfl rfl 1 (by decide) (hts (.fieldLink RX10 14 "ChipFlow$Text" "length" "I") wd_379) (fun _ h9 => h9) rfl (by decide +kernel) rfl rfl (by rw [h_tx.1]; decide) dX10_append_36 (fun H locs hP hD hS => ?_)
  obtain ⟨fs_12, e9⟩ : ∃ z, z = fs_8.set 1 (.int 3) := ⟨_, rfl⟩
  have h_tx : fx fs_12 9 [(0, .ref bt), (1, .int 3), (2, .int 0), (3, .int 0), (4, .int 0), (6, .int 0), (7, .int 0), (8, .int 0)] := by rw [e9]; exact (h_tx.put (F' := [(1, .int 3), (0, .ref bt), (2, .int 0), (3, .int 0), (4, .int 0), (6, .int 0), (7, .int 0), (8, .int 0)]) (by decide) _ rfl).sub [1, 0, 2, 3, 4, 5, 6, 7] rfl
  have hP : va_P (dC, dI) CL [(x, .inr (12, xg)), (tx, .inr (10, fs_12)), (bt, .inl (btC, (65536, .inl f_11))), (oA, .inl (oAC, (1, .inr (.inl oAf))))] H := by rw [e9]; exact hP
  have hD : va_D A [(x, .inr (12, xg)), (tx, .inr (10, fs_12)), (bt, .inl (btC, (65536, .inl f_11))), (oA, .inl (oAC, (1, .inr (.inl oAf))))] := by rw [e9]; exact hD
  clear e9
  refine lv_iinc (v := 0) (lv' := [(2, .int 0), (0, .ref tx), (1, .int p0)]) hx hb dX10_append_39 hl (k := 0) rfl (by decide +kernel) (by decide) rfl (fun ls hl => ?_)
  refine lv_goto (tgt := 3) hx hb dX10_append_42 (by decide) ?_
  refine lv_iload_n hx hb dX10_append_3 rfl (lv_at hl 0 rfl) ?_
  refine lv_if_lt (tgt := 45) hx hb dX10_append_4 (by decide) (fun c9 => ?_) (fun c9 => ?_)
  · first | exact absurd c9 (by decide +kernel) | exact absurd (by decide +kernel) c9
  refine lv_aload_n hx hb dX10_append_7 rfl (lv_at hl 1 rfl) ?_
  refine va_get (D := (dC, dI)) (ci := 10) (v := .int 3) (C := RX10) (T := TX10) (N := 9) hx hb hts inX10 hown hK hP 1 rfl rfl 1 (by decide) (hts (.fieldLink RX10 14 "ChipFlow$Text" "length" "I") wd_379) (fun _ h9 => h9) (h_tx.get 1 rfl) dX10_append_8 ?_
  refine lv_ldc (v := 65536) hx hb hown (hts _ wd_376) dX10_append_11 ?_
  refine lv_icmp_ge (tgt := 39) hx hb dX10_append_13 (by decide) (fun c9 => ?_) (fun c9 => ?_)
  · first | exact absurd c9 (by decide +kernel) | exact absurd (by decide +kernel) c9
  refine lv_aload_n hx hb dX10_append_16 rfl (lv_at hl 1 rfl) ?_
  refine va_get (D := (dC, dI)) (ci := 10) (v := .ref bt) (C := RX10) (T := TX10) (N := 9) hx hb hts inX10 hown hK hP 1 rfl rfl 0 (by decide) (hts (.fieldLink RX10 10 "ChipFlow$Text" "bytes" "[B") wd_377) (fun _ h9 => h9) (h_tx.get 0 rfl) dX10_append_17 ?_
  refine lv_aload_n hx hb dX10_append_20 rfl (lv_at hl 1 rfl) ?_
  refine va_get (D := (dC, dI)) (ci := 10) (v := .int 3) (C := RX10) (T := TX10) (N := 9) hx hb hts inX10 hown hK hP 1 rfl rfl 1 (by decide) (hts (.fieldLink RX10 14 "ChipFlow$Text" "length" "I") wd_379) (fun _ h9 => h9) (h_tx.get 1 rfl) dX10_append_21 ?_
  refine lv_iload_n hx hb dX10_append_24 rfl (lv_at hl 2 rfl) ?_
  refine lv_iload_n hx hb dX10_append_25 rfl (lv_at hl 0 rfl) ?_
  refine lv_ishr hx hb dX10_append_26 ?_
  refine lv_topi (fun v_13 _ => ?_)
  refine lv_i2b hx hb dX10_append_27 rfl ?_
  refine lv_topi (fun v_14 _ => ?_)
  refine va_bast hx hb hK hP hD hS 2 0 rfl rfl (vp_in_nI (n := 3) (N := 65536) (by decide) (by decide)) dX10_append_28 (fun H locs hP hD hS => ?_)
  obtain ⟨f_15, e9⟩ : ∃ z, z = upd f_11 (3 : Int32).toNatClampNeg (vp_nar .byte v_14) := ⟨_, rfl⟩
  have h_bt : fa f_15 [] := by rw [e9, show (3 : Int32).toNatClampNeg = 3 by decide +kernel]; exact (fa.lose h_bt).sub [] rfl
  have hP : va_P (dC, dI) CL [(x, .inr (12, xg)), (tx, .inr (10, fs_12)), (bt, .inl (btC, (65536, .inl f_15))), (oA, .inl (oAC, (1, .inr (.inl oAf))))] H := by rw [e9]; exact hP
  have hD : va_D A [(x, .inr (12, xg)), (tx, .inr (10, fs_12)), (bt, .inl (btC, (65536, .inl f_15))), (oA, .inl (oAC, (1, .inr (.inl oAf))))] := by rw [e9]; exact hD
  clear e9
  refine lv_aload_n hx hb dX10_append_29 rfl (lv_at hl 1 rfl) ?_
  refine lv_dup hx hb dX10_append_30 rfl ?_
  refine va_get (D := (dC, dI)) (ci := 10) (v := .int 3) (C := RX10) (T := TX10) (N := 9) hx hb hts inX10 hown hK hP 1 rfl rfl 1 (by decide) (hts (.fieldLink RX10 14 "ChipFlow$Text" "length" "I") wd_379) (fun _ h9 => h9) (h_tx.get 1 rfl) dX10_append_31 ?_
  refine lv_iconst (v := 1) hx hb dX10_append_34 (by decide +kernel) ?_
  refine lv_iadd hx hb dX10_append_35 ?_
  refine lv_topi (fun v9 e9 => ?_)
  obtain rfl : v9 = 4 := e9.trans (by decide +kernel)
  refine va_put (D := (dC, dI)) (ci := 10) (v := .int 4) (ty := tyX10 1) (C := RX10) (T := TX10) (N := 9) hx hb hts inX10 tyX10 tyX10_ok nmX10 hown hK hP hD hS 1 rfl rfl 1 (by decide) (hts (.fieldLink RX10 14 "ChipFlow$Text" "length" "I") wd_379) (fun _ h9 => h9) rfl (by decide +kernel) rfl rfl (by rw [h_tx.1]; decide) dX10_append_36 (fun H locs hP hD hS => ?_)
  obtain ⟨fs_16, e9⟩ : ∃ z, z = fs_12.set 1 (.int 4) := ⟨_, rfl⟩
  have h_tx : fx fs_16 9 [(0, .ref bt), (1, .int 4), (2, .int 0), (3, .int 0), (4, .int 0), (6, .int 0), (7, .int 0), (8, .int 0)] := by rw [e9]; exact (h_tx.put (F' := [(1, .int 4), (0, .ref bt), (2, .int 0), (3, .int 0), (4, .int 0), (6, .int 0), (7, .int 0), (8, .int 0)]) (by decide) _ rfl).sub [1, 0, 2, 3, 4, 5, 6, 7] rfl
  have hP : va_P (dC, dI) CL [(x, .inr (12, xg)), (tx, .inr (10, fs_16)), (bt, .inl (btC, (65536, .inl f_15))), (oA, .inl (oAC, (1, .inr (.inl oAf))))] H := by rw [e9]; exact hP
  have hD : va_D A [(x, .inr (12, xg)), (tx, .inr (10, fs_16)), (bt, .inl (btC, (65536, .inl f_15))), (oA, .inl (oAC, (1, .inr (.inl oAf))))] := by rw [e9]; exact hD
  clear e9
  refine lv_iinc (v := (-8)) (lv' := [(2, .int (-8)), (0, .ref tx), (1, .int p0)]) hx hb dX10_append_39 hl (k := 0) rfl (by decide +kernel) (by decide) rfl (fun ls hl => ?_)
  refine lv_goto (tgt := 3) hx hb dX10_append_42 (by decide) ?_
  refine lv_iload_n hx hb dX10_append_3 rfl (lv_at hl 0 rfl) ?_
  refine lv_if_lt (tgt := 45) hx hb dX10_append_4 (by decide) (fun c9 => ?_) (fun c9 => ?_)
  rotate_left
  · first | exact absurd c9 (by decide +kernel) | exact absurd (by decide +kernel) c9
  exact W.vret hx hb hr (fun t ht hW => ⟨⟨(), rfl, trivial, xg, fs_16, f_15, oAf, h_x, h_tx, h_bt, h_oA, by rw [ht]; exact hP, va_K.moved hW.alike hK, hD⟩, hS.F ht⟩) hS.2.2 dX10_append_45
set_option maxHeartbeats 4000000 in
set_option maxRecDepth 100000 in
theorem gx4_X10_append (l : Launch) (hlt : l.stackTraces = false) (dC : Nat → ClassId) (dI : Nat → Nat → Nat) (sz : Nat) (p1 : Int32) (x tx bt oA : Nat) (xg : List Value) (h_x : fx xg 17 [(0, .ref tx)]) (txg : List Value) (h_tx : fx txg 9 [(0, .ref bt), (1, .int 4), (2, .int 0), (3, .int 0), (4, .int 0), (6, .int 0), (7, .int 0), (8, .int 0)]) (btC : ClassId) (btf : Nat → Int32) (h_bt : fa btf []) (oAC : ClassId) (oAf : Nat → Int64) (h_oA : fa oAf []) : Met l yX10_append (Cond.code yX10_append cX10_append 3 none :: BG) ({ frames := 1, cells := 0, slots := 0, locals := 12 }) (va_Pc [.ref tx, .int p1] (fun U => U.heap.size = sz ∧ va_P (dC, dI) CL [(x, .inr (12, xg)), (tx, .inr (10, txg)), (bt, .inl (btC, (65536, .inl btf))), (oA, .inl (oAC, (1, .inr (.inl oAf))))] U.heap ∧ va_K (dC, dI) CL [(btC, .byte), (oAC, .long)] U ∧ va_D (fun _ => True) [(x, .inr (12, xg)), (tx, .inr (10, txg)), (bt, .inl (btC, (65536, .inl btf))), (oA, .inl (oAC, (1, .inr (.inl oAf))))] ∧ th (va_A [(x, .inr (12, xg)), (tx, .inr (10, txg)), (bt, .inl (btC, (65536, .inl btf))), (oA, .inl (oAC, (1, .inr (.inl oAf))))] sz) U U.heap)) (va_Qv (fun _ : Unit => True) (fun _ t => ∃ (xy : List Value) (txy : List Value) (bty : Nat → Int32) (oAy : Nat → Int64), fx xy 17 [(0, .ref tx)] ∧ fx txy 9 [(0, .ref bt), (1, .int 8), (2, .int 0), (3, .int 0), (4, .int 0), (6, .int 0), (7, .int 0), (8, .int 0)] ∧ fa bty [] ∧ fa oAy [] ∧ va_P (dC, dI) CL [(x, .inr (12, xy)), (tx, .inr (10, txy)), (bt, .inl (btC, (65536, .inl bty))), (oA, .inl (oAC, (1, .inr (.inl oAy))))] t.heap ∧ va_K (dC, dI) CL [(btC, .byte), (oAC, .long)] t ∧ va_D (va_A [(x, .inr (12, xg)), (tx, .inr (10, txg)), (bt, .inl (btC, (65536, .inl btf))), (oA, .inl (oAC, (1, .inr (.inl oAf))))] sz) [(x, .inr (12, xy)), (tx, .inr (10, txy)), (bt, .inl (btC, (65536, .inl bty))), (oA, .inl (oAC, (1, .inr (.inl oAy))))]) (va_A [(x, .inr (12, xg)), (tx, .inr (10, txg)), (bt, .inl (btC, (65536, .inl btf))), (oA, .inl (oAC, (1, .inr (.inl oAf))))] sz)) 0 0 (va_A [(x, .inr (12, xg)), (tx, .inr (10, txg)), (bt, .inl (btC, (65536, .inl btf))), (oA, .inl (oAC, (1, .inr (.inl oAf))))] sz) := by
  refine Met.ofW (cc := cX10_append) (maxL := 3) (ret := none) (by decide) rfl ?_
  intro p e s m args below meth c s₁ B hml hv
  obtain ⟨rfl, hsz, hP, hK, hD0, hth⟩ := hv
  have hx := B.exec
  have hb := B.bytes
  have hr := B.returns
  have hts : ∀ w ∈ BG, w.before _ s = true := fun w h => atoms_spec (ws := Cond.code yX10_append cX10_append 3 none :: BG) B.pre w (List.mem_cons_of_mem _ h)
  have hown : s.vm.findClass RX10 = some m.cls := findClass_of_methodNamed B.named
  have hlocks := B.notSynchronized
  subst hsz
  have hD := hD0.self (sz := s.heap.size)
  generalize hAe : va_A [(x, .inr (12, xg)), (tx, .inr (10, txg)), (bt, .inl (btC, (65536, .inl btf))), (oA, .inl (oAC, (1, .inr (.inl oAf))))] s.heap.size = A at hD hth ⊢
  have hA : ∀ q : Nat, s.heap.size ≤ q → A q := fun q h => by rw [← hAe]; exact Or.inr h
  have hS : va_S A s.heap s.heap [] := va_S.rf
  have hl := lv_entry ([.ref tx, .int p1]) (n := 3) (Nat.le_of_ble_eq_true rfl)
  rw [lg_entry_eq]
  generalize (lg_sl ([.ref tx, .int p1]) ++ List.replicate (3 - (lg_sl ([.ref tx, .int p1])).length) Slot.unset).toArray = ls at hl ⊢
  have hl : lv_has ls 3 [(0, .ref tx), (1, .int p1)] := hl
  obtain ⟨H, eH⟩ : ∃ z, z = s.heap := ⟨_, rfl⟩
  have hP : va_P (dC, dI) CL [(x, .inr (12, xg)), (tx, .inr (10, txg)), (bt, .inl (btC, (65536, .inl btf))), (oA, .inl (oAC, (1, .inr (.inl oAf))))] H := by rw [eH]; exact hP
  have hS : va_S A s.heap H [] := by rw [eH]; exact hS
  rw [← eH]
  refine lv_bipush (v := 24) hx hb dX10_append_0 (by decide +kernel) ?_
  refine lv_istore_n (lv' := [(2, .int 24), (0, .ref tx), (1, .int p1)]) hx hb dX10_append_2 rfl hl (by decide) rfl (fun ls hl => ?_)
  refine lv_iload_n hx hb dX10_append_3 rfl (lv_at hl 0 rfl) ?_
  refine lv_if_lt (tgt := 45) hx hb dX10_append_4 (by decide) (fun c9 => ?_) (fun c9 => ?_)
  · first | exact absurd c9 (by decide +kernel) | exact absurd (by decide +kernel) c9
  refine lv_aload_n hx hb dX10_append_7 rfl (lv_at hl 1 rfl) ?_
  refine va_get (D := (dC, dI)) (ci := 10) (v := .int 4) (C := RX10) (T := TX10) (N := 9) hx hb hts inX10 hown hK hP 1 rfl rfl 1 (by decide) (hts (.fieldLink RX10 14 "ChipFlow$Text" "length" "I") wd_379) (fun _ h9 => h9) (h_tx.get 1 rfl) dX10_append_8 ?_
  refine lv_ldc (v := 65536) hx hb hown (hts _ wd_376) dX10_append_11 ?_
  refine lv_icmp_ge (tgt := 39) hx hb dX10_append_13 (by decide) (fun c9 => ?_) (fun c9 => ?_)
  · first | exact absurd c9 (by decide +kernel) | exact absurd (by decide +kernel) c9
  refine lv_aload_n hx hb dX10_append_16 rfl (lv_at hl 1 rfl) ?_
  refine va_get (D := (dC, dI)) (ci := 10) (v := .ref bt) (C := RX10) (T := TX10) (N := 9) hx hb hts inX10 hown hK hP 1 rfl rfl 0 (by decide) (hts (.fieldLink RX10 10 "ChipFlow$Text" "bytes" "[B") wd_377) (fun _ h9 => h9) (h_tx.get 0 rfl) dX10_append_17 ?_
  refine lv_aload_n hx hb dX10_append_20 rfl (lv_at hl 1 rfl) ?_
  refine va_get (D := (dC, dI)) (ci := 10) (v := .int 4) (C := RX10) (T := TX10) (N := 9) hx hb hts inX10 hown hK hP 1 rfl rfl 1 (by decide) (hts (.fieldLink RX10 14 "ChipFlow$Text" "length" "I") wd_379) (fun _ h9 => h9) (h_tx.get 1 rfl) dX10_append_21 ?_
  refine lv_iload_n hx hb dX10_append_24 rfl (lv_at hl 2 rfl) ?_
  refine lv_iload_n hx hb dX10_append_25 rfl (lv_at hl 0 rfl) ?_
  refine lv_ishr hx hb dX10_append_26 ?_
  refine lv_topi (fun v_1 _ => ?_)
  refine lv_i2b hx hb dX10_append_27 rfl ?_
  refine lv_topi (fun v_2 _ => ?_)
  refine va_bast hx hb hK hP hD hS 2 0 rfl rfl (vp_in_nI (n := 4) (N := 65536) (by decide) (by decide)) dX10_append_28 (fun H locs hP hD hS => ?_)
  obtain ⟨f_3, e9⟩ : ∃ z, z = upd btf (4 : Int32).toNatClampNeg (vp_nar .byte v_2) := ⟨_, rfl⟩
  have h_bt : fa f_3 [] := by rw [e9, show (4 : Int32).toNatClampNeg = 4 by decide +kernel]; exact (fa.lose h_bt).sub [] rfl
  have hP : va_P (dC, dI) CL [(x, .inr (12, xg)), (tx, .inr (10, txg)), (bt, .inl (btC, (65536, .inl f_3))), (oA, .inl (oAC, (1, .inr (.inl oAf))))] H := by rw [e9]; exact hP
  have hD : va_D A [(x, .inr (12, xg)), (tx, .inr (10, txg)), (bt, .inl (btC, (65536, .inl f_3))), (oA, .inl (oAC, (1, .inr (.inl oAf))))] := by rw [e9]; exact hD
  clear e9
  refine lv_aload_n hx hb dX10_append_29 rfl (lv_at hl 1 rfl) ?_
  refine lv_dup hx hb dX10_append_30 rfl ?_
  refine va_get (D := (dC, dI)) (ci := 10) (v := .int 4) (C := RX10) (T := TX10) (N := 9) hx hb hts inX10 hown hK hP 1 rfl rfl 1 (by decide) (hts (.fieldLink RX10 14 "ChipFlow$Text" "length" "I") wd_379) (fun _ h9 => h9) (h_tx.get 1 rfl) dX10_append_31 ?_
  refine lv_iconst (v := 1) hx hb dX10_append_34 (by decide +kernel) ?_
  refine lv_iadd hx hb dX10_append_35 ?_
  refine lv_topi (fun v9 e9 => ?_)
  obtain rfl : v9 = 5 := e9.trans (by decide +kernel)
  refine va_put (D := (dC, dI)) (ci := 10) (v := .int 5) (ty := tyX10 1) (C := RX10) (T := TX10) (N := 9) hx hb hts inX10 tyX10 tyX10_ok nmX10 hown hK hP hD hS 1 rfl rfl 1 (by decide) (hts (.fieldLink RX10 14 "ChipFlow$Text" "length" "I") wd_379) (fun _ h9 => h9) rfl (by decide +kernel) rfl rfl (by rw [h_tx.1]; decide) dX10_append_36 (fun H locs hP hD hS => ?_)
  obtain ⟨fs_4, e9⟩ : ∃ z, z = txg.set 1 (.int 5) := ⟨_, rfl⟩
  have h_tx : fx fs_4 9 [(0, .ref bt), (1, .int 5), (2, .int 0), (3, .int 0), (4, .int 0), (6, .int 0), (7, .int 0), (8, .int 0)] := by rw [e9]; exact (h_tx.put (F' := [(1, .int 5), (0, .ref bt), (2, .int 0), (3, .int 0), (4, .int 0), (6, .int 0), (7, .int 0), (8, .int 0)]) (by decide) _ rfl).sub [1, 0, 2, 3, 4, 5, 6, 7] rfl
  have hP : va_P (dC, dI) CL [(x, .inr (12, xg)), (tx, .inr (10, fs_4)), (bt, .inl (btC, (65536, .inl f_3))), (oA, .inl (oAC, (1, .inr (.inl oAf))))] H := by rw [e9]; exact hP
  have hD : va_D A [(x, .inr (12, xg)), (tx, .inr (10, fs_4)), (bt, .inl (btC, (65536, .inl f_3))), (oA, .inl (oAC, (1, .inr (.inl oAf))))] := by rw [e9]; exact hD
  clear e9
  refine lv_iinc (v := 16) (lv' := [(2, .int 16), (0, .ref tx), (1, .int p1)]) hx hb dX10_append_39 hl (k := 0) rfl (by decide +kernel) (by decide) rfl (fun ls hl => ?_)
  refine lv_goto (tgt := 3) hx hb dX10_append_42 (by decide) ?_
  refine lv_iload_n hx hb dX10_append_3 rfl (lv_at hl 0 rfl) ?_
  refine lv_if_lt (tgt := 45) hx hb dX10_append_4 (by decide) (fun c9 => ?_) (fun c9 => ?_)
  · first | exact absurd c9 (by decide +kernel) | exact absurd (by decide +kernel) c9
  refine lv_aload_n hx hb dX10_append_7 rfl (lv_at hl 1 rfl) ?_
  refine va_get (D := (dC, dI)) (ci := 10) (v := .int 5) (C := RX10) (T := TX10) (N := 9) hx hb hts inX10 hown hK hP 1 rfl rfl 1 (by decide) (hts (.fieldLink RX10 14 "ChipFlow$Text" "length" "I") wd_379) (fun _ h9 => h9) (h_tx.get 1 rfl) dX10_append_8 ?_
  refine lv_ldc (v := 65536) hx hb hown (hts _ wd_376) dX10_append_11 ?_
  refine lv_icmp_ge (tgt := 39) hx hb dX10_append_13 (by decide) (fun c9 => ?_) (fun c9 => ?_)
  · first | exact absurd c9 (by decide +kernel) | exact absurd (by decide +kernel) c9
  refine lv_aload_n hx hb dX10_append_16 rfl (lv_at hl 1 rfl) ?_
  refine va_get (D := (dC, dI)) (ci := 10) (v := .ref bt) (C := RX10) (T := TX10) (N := 9) hx hb hts inX10 hown hK hP 1 rfl rfl 0 (by decide) (hts (.fieldLink RX10 10 "ChipFlow$Text" "bytes" "[B") wd_377) (fun _ h9 => h9) (h_tx.get 0 rfl) dX10_append_17 ?_
  refine lv_aload_n hx hb dX10_append_20 rfl (lv_at hl 1 rfl) ?_
  refine va_get (D := (dC, dI)) (ci := 10) (v := .int 5) (C := RX10) (T := TX10) (N := 9) hx hb hts inX10 hown hK hP 1 rfl rfl 1 (by decide) (hts (.fieldLink RX10 14 "ChipFlow$Text" "length" "I") wd_379) (fun _ h9 => h9) (h_tx.get 1 rfl) dX10_append_21 ?_
  refine lv_iload_n hx hb dX10_append_24 rfl (lv_at hl 2 rfl) ?_
  refine lv_iload_n hx hb dX10_append_25 rfl (lv_at hl 0 rfl) ?_
  refine lv_ishr hx hb dX10_append_26 ?_
  refine lv_topi (fun v_5 _ => ?_)
  refine lv_i2b hx hb dX10_append_27 rfl ?_
  refine lv_topi (fun v_6 _ => ?_)
  refine va_bast hx hb hK hP hD hS 2 0 rfl rfl (vp_in_nI (n := 5) (N := 65536) (by decide) (by decide)) dX10_append_28 (fun H locs hP hD hS => ?_)
  obtain ⟨f_7, e9⟩ : ∃ z, z = upd f_3 (5 : Int32).toNatClampNeg (vp_nar .byte v_6) := ⟨_, rfl⟩
  have h_bt : fa f_7 [] := by rw [e9, show (5 : Int32).toNatClampNeg = 5 by decide +kernel]; exact (fa.lose h_bt).sub [] rfl
  have hP : va_P (dC, dI) CL [(x, .inr (12, xg)), (tx, .inr (10, fs_4)), (bt, .inl (btC, (65536, .inl f_7))), (oA, .inl (oAC, (1, .inr (.inl oAf))))] H := by rw [e9]; exact hP
  have hD : va_D A [(x, .inr (12, xg)), (tx, .inr (10, fs_4)), (bt, .inl (btC, (65536, .inl f_7))), (oA, .inl (oAC, (1, .inr (.inl oAf))))] := by rw [e9]; exact hD
  clear e9
  refine lv_aload_n hx hb dX10_append_29 rfl (lv_at hl 1 rfl) ?_
  refine lv_dup hx hb dX10_append_30 rfl ?_
  refine va_get (D := (dC, dI)) (ci := 10) (v := .int 5) (C := RX10) (T := TX10) (N := 9) hx hb hts inX10 hown hK hP 1 rfl rfl 1 (by decide) (hts (.fieldLink RX10 14 "ChipFlow$Text" "length" "I") wd_379) (fun _ h9 => h9) (h_tx.get 1 rfl) dX10_append_31 ?_
  refine lv_iconst (v := 1) hx hb dX10_append_34 (by decide +kernel) ?_
  refine lv_iadd hx hb dX10_append_35 ?_
  refine lv_topi (fun v9 e9 => ?_)
  obtain rfl : v9 = 6 := e9.trans (by decide +kernel)
  refine va_put (D := (dC, dI)) (ci := 10) (v := .int 6) (ty := tyX10 1) (C := RX10) (T := TX10) (N := 9) hx hb hts inX10 tyX10 tyX10_ok nmX10 hown hK hP hD hS 1 rfl rfl 1 (by decide) (hts (.fieldLink RX10 14 "ChipFlow$Text" "length" "I") wd_379) (fun _ h9 => h9) rfl (by decide +kernel) rfl rfl (by rw [h_tx.1]; decide) dX10_append_36 (fun H locs hP hD hS => ?_)
  obtain ⟨fs_8, e9⟩ : ∃ z, z = fs_4.set 1 (.int 6) := ⟨_, rfl⟩
  have h_tx : fx fs_8 9 [(0, .ref bt), (1, .int 6), (2, .int 0), (3, .int 0), (4, .int 0), (6, .int 0), (7, .int 0), (8, .int 0)] := by rw [e9]; exact (h_tx.put (F' := [(1, .int 6), (0, .ref bt), (2, .int 0), (3, .int 0), (4, .int 0), (6, .int 0), (7, .int 0), (8, .int 0)]) (by decide) _ rfl).sub [1, 0, 2, 3, 4, 5, 6, 7] rfl
  have hP : va_P (dC, dI) CL [(x, .inr (12, xg)), (tx, .inr (10, fs_8)), (bt, .inl (btC, (65536, .inl f_7))), (oA, .inl (oAC, (1, .inr (.inl oAf))))] H := by rw [e9]; exact hP
  have hD : va_D A [(x, .inr (12, xg)), (tx, .inr (10, fs_8)), (bt, .inl (btC, (65536, .inl f_7))), (oA, .inl (oAC, (1, .inr (.inl oAf))))] := by rw [e9]; exact hD
  clear e9
  refine lv_iinc (v := 8) (lv' := [(2, .int 8), (0, .ref tx), (1, .int p1)]) hx hb dX10_append_39 hl (k := 0) rfl (by decide +kernel) (by decide) rfl (fun ls hl => ?_)
  refine lv_goto (tgt := 3) hx hb dX10_append_42 (by decide) ?_
  refine lv_iload_n hx hb dX10_append_3 rfl (lv_at hl 0 rfl) ?_
  refine lv_if_lt (tgt := 45) hx hb dX10_append_4 (by decide) (fun c9 => ?_) (fun c9 => ?_)
  · first | exact absurd c9 (by decide +kernel) | exact absurd (by decide +kernel) c9
  refine lv_aload_n hx hb dX10_append_7 rfl (lv_at hl 1 rfl) ?_
  refine va_get (D := (dC, dI)) (ci := 10) (v := .int 6) (C := RX10) (T := TX10) (N := 9) hx hb hts inX10 hown hK hP 1 rfl rfl 1 (by decide) (hts (.fieldLink RX10 14 "ChipFlow$Text" "length" "I") wd_379) (fun _ h9 => h9) (h_tx.get 1 rfl) dX10_append_8 ?_
  refine lv_ldc (v := 65536) hx hb hown (hts _ wd_376) dX10_append_11 ?_
  refine lv_icmp_ge (tgt := 39) hx hb dX10_append_13 (by decide) (fun c9 => ?_) (fun c9 => ?_)
  · first | exact absurd c9 (by decide +kernel) | exact absurd (by decide +kernel) c9
  refine lv_aload_n hx hb dX10_append_16 rfl (lv_at hl 1 rfl) ?_
  refine va_get (D := (dC, dI)) (ci := 10) (v := .ref bt) (C := RX10) (T := TX10) (N := 9) hx hb hts inX10 hown hK hP 1 rfl rfl 0 (by decide) (hts (.fieldLink RX10 10 "ChipFlow$Text" "bytes" "[B") wd_377) (fun _ h9 => h9) (h_tx.get 0 rfl) dX10_append_17 ?_
  refine lv_aload_n hx hb dX10_append_20 rfl (lv_at hl 1 rfl) ?_
  refine va_get (D := (dC, dI)) (ci := 10) (v := .int 6) (C := RX10) (T := TX10) (N := 9) hx hb hts inX10 hown hK hP 1 rfl rfl 1 (by decide) (hts (.fieldLink RX10 14 "ChipFlow$Text" "length" "I") wd_379) (fun _ h9 => h9) (h_tx.get 1 rfl) dX10_append_21 ?_
  refine lv_iload_n hx hb dX10_append_24 rfl (lv_at hl 2 rfl) ?_
  refine lv_iload_n hx hb dX10_append_25 rfl (lv_at hl 0 rfl) ?_
  refine lv_ishr hx hb dX10_append_26 ?_
  refine lv_topi (fun v_9 _ => ?_)
  refine lv_i2b hx hb dX10_append_27 rfl ?_
  refine lv_topi (fun v_10 _ => ?_)
  refine va_bast hx hb hK hP hD hS 2 0 rfl rfl (vp_in_nI (n := 6) (N := 65536) (by decide) (by decide)) dX10_append_28 (fun H locs hP hD hS => ?_)
  obtain ⟨f_11, e9⟩ : ∃ z, z = upd f_7 (6 : Int32).toNatClampNeg (vp_nar .byte v_10) := ⟨_, rfl⟩
  have h_bt : fa f_11 [] := by rw [e9, show (6 : Int32).toNatClampNeg = 6 by decide +kernel]; exact (fa.lose h_bt).sub [] rfl
  have hP : va_P (dC, dI) CL [(x, .inr (12, xg)), (tx, .inr (10, fs_8)), (bt, .inl (btC, (65536, .inl f_11))), (oA, .inl (oAC, (1, .inr (.inl oAf))))] H := by rw [e9]; exact hP
  have hD : va_D A [(x, .inr (12, xg)), (tx, .inr (10, fs_8)), (bt, .inl (btC, (65536, .inl f_11))), (oA, .inl (oAC, (1, .inr (.inl oAf))))] := by rw [e9]; exact hD
  clear e9
  refine lv_aload_n hx hb dX10_append_29 rfl (lv_at hl 1 rfl) ?_
  refine lv_dup hx hb dX10_append_30 rfl ?_
  refine va_get (D := (dC, dI)) (ci := 10) (v := .int 6) (C := RX10) (T := TX10) (N := 9) hx hb hts inX10 hown hK hP 1 rfl rfl 1 (by decide) (hts (.fieldLink RX10 14 "ChipFlow$Text" "length" "I") wd_379) (fun _ h9 => h9) (h_tx.get 1 rfl) dX10_append_31 ?_
  refine lv_iconst (v := 1) hx hb dX10_append_34 (by decide +kernel) ?_
  refine lv_iadd hx hb dX10_append_35 ?_
  refine lv_topi (fun v9 e9 => ?_)
  obtain rfl : v9 = 7 := e9.trans (by decide +kernel)
  refine va_put (D := (dC, dI)) (ci := 10) (v := .int 7) (ty := tyX10 1) (C := RX10) (T := TX10) (N := 9) hx hb hts inX10 tyX10 tyX10_ok nmX10 hown hK hP hD hS 1 rfl rfl 1 (by decide) (hts (.fieldLink RX10 14 "ChipFlow$Text" "length" "I") wd_379) (fun _ h9 => h9) rfl (by decide +kernel) rfl rfl (by rw [h_tx.1]; decide) dX10_append_36 (fun H locs hP hD hS => ?_)
  obtain ⟨fs_12, e9⟩ : ∃ z, z = fs_8.set 1 (.int 7) := ⟨_, rfl⟩
  have h_tx : fx fs_12 9 [(0, .ref bt), (1, .int 7), (2, .int 0), (3, .int 0), (4, .int 0), (6, .int 0), (7, .int 0), (8, .int 0)] := by rw [e9]; exact (h_tx.put (F' := [(1, .int 7), (0, .ref bt), (2, .int 0), (3, .int 0), (4, .int 0), (6, .int 0), (7, .int 0), (8, .int 0)]) (by decide) _ rfl).sub [1, 0, 2, 3, 4, 5, 6, 7] rfl
  have hP : va_P (dC, dI) CL [(x, .inr (12, xg)), (tx, .inr (10, fs_12)), (bt, .inl (btC, (65536, .inl f_11))), (oA, .inl (oAC, (1, .inr (.inl oAf))))] H := by rw [e9]; exact hP
  have hD : va_D A [(x, .inr (12, xg)), (tx, .inr (10, fs_12)), (bt, .inl (btC, (65536, .inl f_11))), (oA, .inl (oAC, (1, .inr (.inl oAf))))] := by rw [e9]; exact hD
  clear e9
  refine lv_iinc (v := 0) (lv' := [(2, .int 0), (0, .ref tx), (1, .int p1)]) hx hb dX10_append_39 hl (k := 0) rfl (by decide +kernel) (by decide) rfl (fun ls hl => ?_)
  refine lv_goto (tgt := 3) hx hb dX10_append_42 (by decide) ?_
  refine lv_iload_n hx hb dX10_append_3 rfl (lv_at hl 0 rfl) ?_
  refine lv_if_lt (tgt := 45) hx hb dX10_append_4 (by decide) (fun c9 => ?_) (fun c9 => ?_)
  · first | exact absurd c9 (by decide +kernel) | exact absurd (by decide +kernel) c9
  refine lv_aload_n hx hb dX10_append_7 rfl (lv_at hl 1 rfl) ?_
  refine va_get (D := (dC, dI)) (ci := 10) (v := .int 7) (C := RX10) (T := TX10) (N := 9) hx hb hts inX10 hown hK hP 1 rfl rfl 1 (by decide) (hts (.fieldLink RX10 14 "ChipFlow$Text" "length" "I") wd_379) (fun _ h9 => h9) (h_tx.get 1 rfl) dX10_append_8 ?_
  refine lv_ldc (v := 65536) hx hb hown (hts _ wd_376) dX10_append_11 ?_
  refine lv_icmp_ge (tgt := 39) hx hb dX10_append_13 (by decide) (fun c9 => ?_) (fun c9 => ?_)
  · first | exact absurd c9 (by decide +kernel) | exact absurd (by decide +kernel) c9
  refine lv_aload_n hx hb dX10_append_16 rfl (lv_at hl 1 rfl) ?_
  refine va_get (D := (dC, dI)) (ci := 10) (v := .ref bt) (C := RX10) (T := TX10) (N := 9) hx hb hts inX10 hown hK hP 1 rfl rfl 0 (by decide) (hts (.fieldLink RX10 10 "ChipFlow$Text" "bytes" "[B") wd_377) (fun _ h9 => h9) (h_tx.get 0 rfl) dX10_append_17 ?_
  refine lv_aload_n hx hb dX10_append_20 rfl (lv_at hl 1 rfl) ?_
  refine va_get (D := (dC, dI)) (ci := 10) (v := .int 7) (C := RX10) (T := TX10) (N := 9) hx hb hts inX10 hown hK hP 1 rfl rfl 1 (by decide) (hts (.fieldLink RX10 14 "ChipFlow$Text" "length" "I") wd_379) (fun _ h9 => h9) (h_tx.get 1 rfl) dX10_append_21 ?_
  refine lv_iload_n hx hb dX10_append_24 rfl (lv_at hl 2 rfl) ?_
  refine lv_iload_n hx hb dX10_append_25 rfl (lv_at hl 0 rfl) ?_
  refine lv_ishr hx hb dX10_append_26 ?_
  refine lv_topi (fun v_13 _ => ?_)
  refine lv_i2b hx hb dX10_append_27 rfl ?_
  refine lv_topi (fun v_14 _ => ?_)
  refine va_bast hx hb hK hP hD hS 2 0 rfl rfl (vp_in_nI (n := 7) (N := 65536) (by decide) (by decide)) dX10_append_28 (fun H locs hP hD hS => ?_)
  obtain ⟨f_15, e9⟩ : ∃ z, z = upd f_11 (7 : Int32).toNatClampNeg (vp_nar .byte v_14) := ⟨_, rfl⟩
  have h_bt : fa f_15 [] := by rw [e9, show (7 : Int32).toNatClampNeg = 7 by decide +kernel]; exact (fa.lose h_bt).sub [] rfl
  have hP : va_P (dC, dI) CL [(x, .inr (12, xg)), (tx, .inr (10, fs_12)), (bt, .inl (btC, (65536, .inl f_15))), (oA, .inl (oAC, (1, .inr (.inl oAf))))] H := by rw [e9]; exact hP
  have hD : va_D A [(x, .inr (12, xg)), (tx, .inr (10, fs_12)), (bt, .inl (btC, (65536, .inl f_15))), (oA, .inl (oAC, (1, .inr (.inl oAf))))] := by rw [e9]; exact hD
  clear e9
  refine lv_aload_n hx hb dX10_append_29 rfl (lv_at hl 1 rfl) ?_
  refine lv_dup hx hb dX10_append_30 rfl ?_
  refine va_get (D := (dC, dI)) (ci := 10) (v := .int 7) (C := RX10) (T := TX10) (N := 9) hx hb hts inX10 hown hK hP 1 rfl rfl 1 (by decide) (hts (.fieldLink RX10 14 "ChipFlow$Text" "length" "I") wd_379) (fun _ h9 => h9) (h_tx.get 1 rfl) dX10_append_31 ?_
  refine lv_iconst (v := 1) hx hb dX10_append_34 (by decide +kernel) ?_
  refine lv_iadd hx hb dX10_append_35 ?_
  refine lv_topi (fun v9 e9 => ?_)
  obtain rfl : v9 = 8 := e9.trans (by decide +kernel)
  refine va_put (D := (dC, dI)) (ci := 10) (v := .int 8) (ty := tyX10 1) (C := RX10) (T := TX10) (N := 9) hx hb hts inX10 tyX10 tyX10_ok nmX10 hown hK hP hD hS 1 rfl rfl 1 (by decide) (hts (.fieldLink RX10 14 "ChipFlow$Text" "length" "I") wd_379) (fun _ h9 => h9) rfl (by decide +kernel) rfl rfl (by rw [h_tx.1]; decide) dX10_append_36 (fun H locs hP hD hS => ?_)
  obtain ⟨fs_16, e9⟩ : ∃ z, z = fs_12.set 1 (.int 8) := ⟨_, rfl⟩
  have h_tx : fx fs_16 9 [(0, .ref bt), (1, .int 8), (2, .int 0), (3, .int 0), (4, .int 0), (6, .int 0), (7, .int 0), (8, .int 0)] := by rw [e9]; exact (h_tx.put (F' := [(1, .int 8), (0, .ref bt), (2, .int 0), (3, .int 0), (4, .int 0), (6, .int 0), (7, .int 0), (8, .int 0)]) (by decide) _ rfl).sub [1, 0, 2, 3, 4, 5, 6, 7] rfl
  have hP : va_P (dC, dI) CL [(x, .inr (12, xg)), (tx, .inr (10, fs_16)), (bt, .inl (btC, (65536, .inl f_15))), (oA, .inl (oAC, (1, .inr (.inl oAf))))] H := by rw [e9]; exact hP
  have hD : va_D A [(x, .inr (12, xg)), (tx, .inr (10, fs_16)), (bt, .inl (btC, (65536, .inl f_15))), (oA, .inl (oAC, (1, .inr (.inl oAf))))] := by rw [e9]; exact hD
  clear e9
  refine lv_iinc (v := (-8)) (lv' := [(2, .int (-8)), (0, .ref tx), (1, .int p1)]) hx hb dX10_append_39 hl (k := 0) rfl (by decide +kernel) (by decide) rfl (fun ls hl => ?_)
  refine lv_goto (tgt := 3) hx hb dX10_append_42 (by decide) ?_
  refine lv_iload_n hx hb dX10_append_3 rfl (lv_at hl 0 rfl) ?_
  refine lv_if_lt (tgt := 45) hx hb dX10_append_4 (by decide) (fun c9 => ?_) (fun c9 => ?_)
  rotate_left
  · first | exact absurd c9 (by decide +kernel) | exact absurd (by decide +kernel) c9
  exact W.vret hx hb hr (fun t ht hW => ⟨⟨(), rfl, trivial, xg, fs_16, f_15, oAf, h_x, h_tx, h_bt, h_oA, by rw [ht]; exact hP, va_K.moved hW.alike hK, hD⟩, hS.F ht⟩) hS.2.2 dX10_append_45
set_option maxHeartbeats 4000000 in
set_option maxRecDepth 100000 in
theorem gx5_X10_append (l : Launch) (hlt : l.stackTraces = false) (dC : Nat → ClassId) (dI : Nat → Nat → Nat) (sz : Nat) (p2 : Int32) (x tx bt oA : Nat) (xg : List Value) (h_x : fx xg 17 [(0, .ref tx)]) (txg : List Value) (h_tx : fx txg 9 [(0, .ref bt), (1, .int 8), (2, .int 0), (3, .int 0), (4, .int 0), (6, .int 0), (7, .int 0), (8, .int 0)]) (btC : ClassId) (btf : Nat → Int32) (h_bt : fa btf []) (oAC : ClassId) (oAf : Nat → Int64) (h_oA : fa oAf []) : Met l yX10_append (Cond.code yX10_append cX10_append 3 none :: BG) ({ frames := 1, cells := 0, slots := 0, locals := 12 }) (va_Pc [.ref tx, .int p2] (fun U => U.heap.size = sz ∧ va_P (dC, dI) CL [(x, .inr (12, xg)), (tx, .inr (10, txg)), (bt, .inl (btC, (65536, .inl btf))), (oA, .inl (oAC, (1, .inr (.inl oAf))))] U.heap ∧ va_K (dC, dI) CL [(btC, .byte), (oAC, .long)] U ∧ va_D (fun _ => True) [(x, .inr (12, xg)), (tx, .inr (10, txg)), (bt, .inl (btC, (65536, .inl btf))), (oA, .inl (oAC, (1, .inr (.inl oAf))))] ∧ th (va_A [(x, .inr (12, xg)), (tx, .inr (10, txg)), (bt, .inl (btC, (65536, .inl btf))), (oA, .inl (oAC, (1, .inr (.inl oAf))))] sz) U U.heap)) (va_Qv (fun _ : Unit => True) (fun _ t => ∃ (xy : List Value) (txy : List Value) (bty : Nat → Int32) (oAy : Nat → Int64), fx xy 17 [(0, .ref tx)] ∧ fx txy 9 [(0, .ref bt), (1, .int 12), (2, .int 0), (3, .int 0), (4, .int 0), (6, .int 0), (7, .int 0), (8, .int 0)] ∧ fa bty [] ∧ fa oAy [] ∧ va_P (dC, dI) CL [(x, .inr (12, xy)), (tx, .inr (10, txy)), (bt, .inl (btC, (65536, .inl bty))), (oA, .inl (oAC, (1, .inr (.inl oAy))))] t.heap ∧ va_K (dC, dI) CL [(btC, .byte), (oAC, .long)] t ∧ va_D (va_A [(x, .inr (12, xg)), (tx, .inr (10, txg)), (bt, .inl (btC, (65536, .inl btf))), (oA, .inl (oAC, (1, .inr (.inl oAf))))] sz) [(x, .inr (12, xy)), (tx, .inr (10, txy)), (bt, .inl (btC, (65536, .inl bty))), (oA, .inl (oAC, (1, .inr (.inl oAy))))]) (va_A [(x, .inr (12, xg)), (tx, .inr (10, txg)), (bt, .inl (btC, (65536, .inl btf))), (oA, .inl (oAC, (1, .inr (.inl oAf))))] sz)) 0 0 (va_A [(x, .inr (12, xg)), (tx, .inr (10, txg)), (bt, .inl (btC, (65536, .inl btf))), (oA, .inl (oAC, (1, .inr (.inl oAf))))] sz) := by
  refine Met.ofW (cc := cX10_append) (maxL := 3) (ret := none) (by decide) rfl ?_
  intro p e s m args below meth c s₁ B hml hv
  obtain ⟨rfl, hsz, hP, hK, hD0, hth⟩ := hv
  have hx := B.exec
  have hb := B.bytes
  have hr := B.returns
  have hts : ∀ w ∈ BG, w.before _ s = true := fun w h => atoms_spec (ws := Cond.code yX10_append cX10_append 3 none :: BG) B.pre w (List.mem_cons_of_mem _ h)
  have hown : s.vm.findClass RX10 = some m.cls := findClass_of_methodNamed B.named
  have hlocks := B.notSynchronized
  subst hsz
  have hD := hD0.self (sz := s.heap.size)
  generalize hAe : va_A [(x, .inr (12, xg)), (tx, .inr (10, txg)), (bt, .inl (btC, (65536, .inl btf))), (oA, .inl (oAC, (1, .inr (.inl oAf))))] s.heap.size = A at hD hth ⊢
  have hA : ∀ q : Nat, s.heap.size ≤ q → A q := fun q h => by rw [← hAe]; exact Or.inr h
  have hS : va_S A s.heap s.heap [] := va_S.rf
  have hl := lv_entry ([.ref tx, .int p2]) (n := 3) (Nat.le_of_ble_eq_true rfl)
  rw [lg_entry_eq]
  generalize (lg_sl ([.ref tx, .int p2]) ++ List.replicate (3 - (lg_sl ([.ref tx, .int p2])).length) Slot.unset).toArray = ls at hl ⊢
  have hl : lv_has ls 3 [(0, .ref tx), (1, .int p2)] := hl
  obtain ⟨H, eH⟩ : ∃ z, z = s.heap := ⟨_, rfl⟩
  have hP : va_P (dC, dI) CL [(x, .inr (12, xg)), (tx, .inr (10, txg)), (bt, .inl (btC, (65536, .inl btf))), (oA, .inl (oAC, (1, .inr (.inl oAf))))] H := by rw [eH]; exact hP
  have hS : va_S A s.heap H [] := by rw [eH]; exact hS
  rw [← eH]
  refine lv_bipush (v := 24) hx hb dX10_append_0 (by decide +kernel) ?_
  refine lv_istore_n (lv' := [(2, .int 24), (0, .ref tx), (1, .int p2)]) hx hb dX10_append_2 rfl hl (by decide) rfl (fun ls hl => ?_)
  refine lv_iload_n hx hb dX10_append_3 rfl (lv_at hl 0 rfl) ?_
  refine lv_if_lt (tgt := 45) hx hb dX10_append_4 (by decide) (fun c9 => ?_) (fun c9 => ?_)
  · first | exact absurd c9 (by decide +kernel) | exact absurd (by decide +kernel) c9
  refine lv_aload_n hx hb dX10_append_7 rfl (lv_at hl 1 rfl) ?_
  refine va_get (D := (dC, dI)) (ci := 10) (v := .int 8) (C := RX10) (T := TX10) (N := 9) hx hb hts inX10 hown hK hP 1 rfl rfl 1 (by decide) (hts (.fieldLink RX10 14 "ChipFlow$Text" "length" "I") wd_379) (fun _ h9 => h9) (h_tx.get 1 rfl) dX10_append_8 ?_
  refine lv_ldc (v := 65536) hx hb hown (hts _ wd_376) dX10_append_11 ?_
  refine lv_icmp_ge (tgt := 39) hx hb dX10_append_13 (by decide) (fun c9 => ?_) (fun c9 => ?_)
  · first | exact absurd c9 (by decide +kernel) | exact absurd (by decide +kernel) c9
  refine lv_aload_n hx hb dX10_append_16 rfl (lv_at hl 1 rfl) ?_
  refine va_get (D := (dC, dI)) (ci := 10) (v := .ref bt) (C := RX10) (T := TX10) (N := 9) hx hb hts inX10 hown hK hP 1 rfl rfl 0 (by decide) (hts (.fieldLink RX10 10 "ChipFlow$Text" "bytes" "[B") wd_377) (fun _ h9 => h9) (h_tx.get 0 rfl) dX10_append_17 ?_
  refine lv_aload_n hx hb dX10_append_20 rfl (lv_at hl 1 rfl) ?_
  refine va_get (D := (dC, dI)) (ci := 10) (v := .int 8) (C := RX10) (T := TX10) (N := 9) hx hb hts inX10 hown hK hP 1 rfl rfl 1 (by decide) (hts (.fieldLink RX10 14 "ChipFlow$Text" "length" "I") wd_379) (fun _ h9 => h9) (h_tx.get 1 rfl) dX10_append_21 ?_
  refine lv_iload_n hx hb dX10_append_24 rfl (lv_at hl 2 rfl) ?_
  refine lv_iload_n hx hb dX10_append_25 rfl (lv_at hl 0 rfl) ?_
  refine lv_ishr hx hb dX10_append_26 ?_
  refine lv_topi (fun v_1 _ => ?_)
  refine lv_i2b hx hb dX10_append_27 rfl ?_
  refine lv_topi (fun v_2 _ => ?_)
  refine va_bast hx hb hK hP hD hS 2 0 rfl rfl (vp_in_nI (n := 8) (N := 65536) (by decide) (by decide)) dX10_append_28 (fun H locs hP hD hS => ?_)
  obtain ⟨f_3, e9⟩ : ∃ z, z = upd btf (8 : Int32).toNatClampNeg (vp_nar .byte v_2) := ⟨_, rfl⟩
  have h_bt : fa f_3 [] := by rw [e9, show (8 : Int32).toNatClampNeg = 8 by decide +kernel]; exact (fa.lose h_bt).sub [] rfl
  have hP : va_P (dC, dI) CL [(x, .inr (12, xg)), (tx, .inr (10, txg)), (bt, .inl (btC, (65536, .inl f_3))), (oA, .inl (oAC, (1, .inr (.inl oAf))))] H := by rw [e9]; exact hP
  have hD : va_D A [(x, .inr (12, xg)), (tx, .inr (10, txg)), (bt, .inl (btC, (65536, .inl f_3))), (oA, .inl (oAC, (1, .inr (.inl oAf))))] := by rw [e9]; exact hD
  clear e9
  refine lv_aload_n hx hb dX10_append_29 rfl (lv_at hl 1 rfl) ?_
  refine lv_dup hx hb dX10_append_30 rfl ?_
  refine va_get (D := (dC, dI)) (ci := 10) (v := .int 8) (C := RX10) (T := TX10) (N := 9) hx hb hts inX10 hown hK hP 1 rfl rfl 1 (by decide) (hts (.fieldLink RX10 14 "ChipFlow$Text" "length" "I") wd_379) (fun _ h9 => h9) (h_tx.get 1 rfl) dX10_append_31 ?_
  refine lv_iconst (v := 1) hx hb dX10_append_34 (by decide +kernel) ?_
  refine lv_iadd hx hb dX10_append_35 ?_
  refine lv_topi (fun v9 e9 => ?_)
  obtain rfl : v9 = 9 := e9.trans (by decide +kernel)
  refine va_put (D := (dC, dI)) (ci := 10) (v := .int 9) (ty := tyX10 1) (C := RX10) (T := TX10) (N := 9) hx hb hts inX10 tyX10 tyX10_ok nmX10 hown hK hP hD hS 1 rfl rfl 1 (by decide) (hts (.fieldLink RX10 14 "ChipFlow$Text" "length" "I") wd_379) (fun _ h9 => h9) rfl (by decide +kernel) rfl rfl (by rw [h_tx.1]; decide) dX10_append_36 (fun H locs hP hD hS => ?_)
  obtain ⟨fs_4, e9⟩ : ∃ z, z = txg.set 1 (.int 9) := ⟨_, rfl⟩
  have h_tx : fx fs_4 9 [(0, .ref bt), (1, .int 9), (2, .int 0), (3, .int 0), (4, .int 0), (6, .int 0), (7, .int 0), (8, .int 0)] := by rw [e9]; exact (h_tx.put (F' := [(1, .int 9), (0, .ref bt), (2, .int 0), (3, .int 0), (4, .int 0), (6, .int 0), (7, .int 0), (8, .int 0)]) (by decide) _ rfl).sub [1, 0, 2, 3, 4, 5, 6, 7] rfl
  have hP : va_P (dC, dI) CL [(x, .inr (12, xg)), (tx, .inr (10, fs_4)), (bt, .inl (btC, (65536, .inl f_3))), (oA, .inl (oAC, (1, .inr (.inl oAf))))] H := by rw [e9]; exact hP
  have hD : va_D A [(x, .inr (12, xg)), (tx, .inr (10, fs_4)), (bt, .inl (btC, (65536, .inl f_3))), (oA, .inl (oAC, (1, .inr (.inl oAf))))] := by rw [e9]; exact hD
  clear e9
  refine lv_iinc (v := 16) (lv' := [(2, .int 16), (0, .ref tx), (1, .int p2)]) hx hb dX10_append_39 hl (k := 0) rfl (by decide +kernel) (by decide) rfl (fun ls hl => ?_)
  refine lv_goto (tgt := 3) hx hb dX10_append_42 (by decide) ?_
  refine lv_iload_n hx hb dX10_append_3 rfl (lv_at hl 0 rfl) ?_
  refine lv_if_lt (tgt := 45) hx hb dX10_append_4 (by decide) (fun c9 => ?_) (fun c9 => ?_)
  · first | exact absurd c9 (by decide +kernel) | exact absurd (by decide +kernel) c9
  refine lv_aload_n hx hb dX10_append_7 rfl (lv_at hl 1 rfl) ?_
  refine va_get (D := (dC, dI)) (ci := 10) (v := .int 9) (C := RX10) (T := TX10) (N := 9) hx hb hts inX10 hown hK hP 1 rfl rfl 1 (by decide) (hts (.fieldLink RX10 14 "ChipFlow$Text" "length" "I") wd_379) (fun _ h9 => h9) (h_tx.get 1 rfl) dX10_append_8 ?_
  refine lv_ldc (v := 65536) hx hb hown (hts _ wd_376) dX10_append_11 ?_
  refine lv_icmp_ge (tgt := 39) hx hb dX10_append_13 (by decide) (fun c9 => ?_) (fun c9 => ?_)
  · first | exact absurd c9 (by decide +kernel) | exact absurd (by decide +kernel) c9
  refine lv_aload_n hx hb dX10_append_16 rfl (lv_at hl 1 rfl) ?_
  refine va_get (D := (dC, dI)) (ci := 10) (v := .ref bt) (C := RX10) (T := TX10) (N := 9) hx hb hts inX10 hown hK hP 1 rfl rfl 0 (by decide) (hts (.fieldLink RX10 10 "ChipFlow$Text" "bytes" "[B") wd_377) (fun _ h9 => h9) (h_tx.get 0 rfl) dX10_append_17 ?_
  refine lv_aload_n hx hb dX10_append_20 rfl (lv_at hl 1 rfl) ?_
  refine va_get (D := (dC, dI)) (ci := 10) (v := .int 9) (C := RX10) (T := TX10) (N := 9) hx hb hts inX10 hown hK hP 1 rfl rfl 1 (by decide) (hts (.fieldLink RX10 14 "ChipFlow$Text" "length" "I") wd_379) (fun _ h9 => h9) (h_tx.get 1 rfl) dX10_append_21 ?_
  refine lv_iload_n hx hb dX10_append_24 rfl (lv_at hl 2 rfl) ?_
  refine lv_iload_n hx hb dX10_append_25 rfl (lv_at hl 0 rfl) ?_
  refine lv_ishr hx hb dX10_append_26 ?_
  refine lv_topi (fun v_5 _ => ?_)
  refine lv_i2b hx hb dX10_append_27 rfl ?_
  refine lv_topi (fun v_6 _ => ?_)
  refine va_bast hx hb hK hP hD hS 2 0 rfl rfl (vp_in_nI (n := 9) (N := 65536) (by decide) (by decide)) dX10_append_28 (fun H locs hP hD hS => ?_)
  obtain ⟨f_7, e9⟩ : ∃ z, z = upd f_3 (9 : Int32).toNatClampNeg (vp_nar .byte v_6) := ⟨_, rfl⟩
  have h_bt : fa f_7 [] := by rw [e9, show (9 : Int32).toNatClampNeg = 9 by decide +kernel]; exact (fa.lose h_bt).sub [] rfl
  have hP : va_P (dC, dI) CL [(x, .inr (12, xg)), (tx, .inr (10, fs_4)), (bt, .inl (btC, (65536, .inl f_7))), (oA, .inl (oAC, (1, .inr (.inl oAf))))] H := by rw [e9]; exact hP
  have hD : va_D A [(x, .inr (12, xg)), (tx, .inr (10, fs_4)), (bt, .inl (btC, (65536, .inl f_7))), (oA, .inl (oAC, (1, .inr (.inl oAf))))] := by rw [e9]; exact hD
  clear e9
  refine lv_aload_n hx hb dX10_append_29 rfl (lv_at hl 1 rfl) ?_
  refine lv_dup hx hb dX10_append_30 rfl ?_
  refine va_get (D := (dC, dI)) (ci := 10) (v := .int 9) (C := RX10) (T := TX10) (N := 9) hx hb hts inX10 hown hK hP 1 rfl rfl 1 (by decide) (hts (.fieldLink RX10 14 "ChipFlow$Text" "length" "I") wd_379) (fun _ h9 => h9) (h_tx.get 1 rfl) dX10_append_31 ?_
  refine lv_iconst (v := 1) hx hb dX10_append_34 (by decide +kernel) ?_
  refine lv_iadd hx hb dX10_append_35 ?_
  refine lv_topi (fun v9 e9 => ?_)
  obtain rfl : v9 = 10 := e9.trans (by decide +kernel)
  refine va_put (D := (dC, dI)) (ci := 10) (v := .int 10) (ty := tyX10 1) (C := RX10) (T := TX10) (N := 9) hx hb hts inX10 tyX10 tyX10_ok nmX10 hown hK hP hD hS 1 rfl rfl 1 (by decide) (hts (.fieldLink RX10 14 "ChipFlow$Text" "length" "I") wd_379) (fun _ h9 => h9) rfl (by decide +kernel) rfl rfl (by rw [h_tx.1]; decide) dX10_append_36 (fun H locs hP hD hS => ?_)
  obtain ⟨fs_8, e9⟩ : ∃ z, z = fs_4.set 1 (.int 10) := ⟨_, rfl⟩
  have h_tx : fx fs_8 9 [(0, .ref bt), (1, .int 10), (2, .int 0), (3, .int 0), (4, .int 0), (6, .int 0), (7, .int 0), (8, .int 0)] := by rw [e9]; exact (h_tx.put (F' := [(1, .int 10), (0, .ref bt), (2, .int 0), (3, .int 0), (4, .int 0), (6, .int 0), (7, .int 0), (8, .int 0)]) (by decide) _ rfl).sub [1, 0, 2, 3, 4, 5, 6, 7] rfl
  have hP : va_P (dC, dI) CL [(x, .inr (12, xg)), (tx, .inr (10, fs_8)), (bt, .inl (btC, (65536, .inl f_7))), (oA, .inl (oAC, (1, .inr (.inl oAf))))] H := by rw [e9]; exact hP
  have hD : va_D A [(x, .inr (12, xg)), (tx, .inr (10, fs_8)), (bt, .inl (btC, (65536, .inl f_7))), (oA, .inl (oAC, (1, .inr (.inl oAf))))] := by rw [e9]; exact hD
  clear e9
  refine lv_iinc (v := 8) (lv' := [(2, .int 8), (0, .ref tx), (1, .int p2)]) hx hb dX10_append_39 hl (k := 0) rfl (by decide +kernel) (by decide) rfl (fun ls hl => ?_)
  refine lv_goto (tgt := 3) hx hb dX10_append_42 (by decide) ?_
  refine lv_iload_n hx hb dX10_append_3 rfl (lv_at hl 0 rfl) ?_
  refine lv_if_lt (tgt := 45) hx hb dX10_append_4 (by decide) (fun c9 => ?_) (fun c9 => ?_)
  · first | exact absurd c9 (by decide +kernel) | exact absurd (by decide +kernel) c9
  refine lv_aload_n hx hb dX10_append_7 rfl (lv_at hl 1 rfl) ?_
  refine va_get (D := (dC, dI)) (ci := 10) (v := .int 10) (C := RX10) (T := TX10) (N := 9) hx hb hts inX10 hown hK hP 1 rfl rfl 1 (by decide) (hts (.fieldLink RX10 14 "ChipFlow$Text" "length" "I") wd_379) (fun _ h9 => h9) (h_tx.get 1 rfl) dX10_append_8 ?_
  refine lv_ldc (v := 65536) hx hb hown (hts _ wd_376) dX10_append_11 ?_
  refine lv_icmp_ge (tgt := 39) hx hb dX10_append_13 (by decide) (fun c9 => ?_) (fun c9 => ?_)
  · first | exact absurd c9 (by decide +kernel) | exact absurd (by decide +kernel) c9
  refine lv_aload_n hx hb dX10_append_16 rfl (lv_at hl 1 rfl) ?_
  refine va_get (D := (dC, dI)) (ci := 10) (v := .ref bt) (C := RX10) (T := TX10) (N := 9) hx hb hts inX10 hown hK hP 1 rfl rfl 0 (by decide) (hts (.fieldLink RX10 10 "ChipFlow$Text" "bytes" "[B") wd_377) (fun _ h9 => h9) (h_tx.get 0 rfl) dX10_append_17 ?_
  refine lv_aload_n hx hb dX10_append_20 rfl (lv_at hl 1 rfl) ?_
  refine va_get (D := (dC, dI)) (ci := 10) (v := .int 10) (C := RX10) (T := TX10) (N := 9) hx hb hts inX10 hown hK hP 1 rfl rfl 1 (by decide) (hts (.fieldLink RX10 14 "ChipFlow$Text" "length" "I") wd_379) (fun _ h9 => h9) (h_tx.get 1 rfl) dX10_append_21 ?_
  refine lv_iload_n hx hb dX10_append_24 rfl (lv_at hl 2 rfl) ?_
  refine lv_iload_n hx hb dX10_append_25 rfl (lv_at hl 0 rfl) ?_
  refine lv_ishr hx hb dX10_append_26 ?_
  refine lv_topi (fun v_9 _ => ?_)
  refine lv_i2b hx hb dX10_append_27 rfl ?_
  refine lv_topi (fun v_10 _ => ?_)
  refine va_bast hx hb hK hP hD hS 2 0 rfl rfl (vp_in_nI (n := 10) (N := 65536) (by decide) (by decide)) dX10_append_28 (fun H locs hP hD hS => ?_)
  obtain ⟨f_11, e9⟩ : ∃ z, z = upd f_7 (10 : Int32).toNatClampNeg (vp_nar .byte v_10) := ⟨_, rfl⟩
  have h_bt : fa f_11 [] := by rw [e9, show (10 : Int32).toNatClampNeg = 10 by decide +kernel]; exact (fa.lose h_bt).sub [] rfl
  have hP : va_P (dC, dI) CL [(x, .inr (12, xg)), (tx, .inr (10, fs_8)), (bt, .inl (btC, (65536, .inl f_11))), (oA, .inl (oAC, (1, .inr (.inl oAf))))] H := by rw [e9]; exact hP
  have hD : va_D A [(x, .inr (12, xg)), (tx, .inr (10, fs_8)), (bt, .inl (btC, (65536, .inl f_11))), (oA, .inl (oAC, (1, .inr (.inl oAf))))] := by rw [e9]; exact hD
  clear e9
  refine lv_aload_n hx hb dX10_append_29 rfl (lv_at hl 1 rfl) ?_
  refine lv_dup hx hb dX10_append_30 rfl ?_
  refine va_get (D := (dC, dI)) (ci := 10) (v := .int 10) (C := RX10) (T := TX10) (N := 9) hx hb hts inX10 hown hK hP 1 rfl rfl 1 (by decide) (hts (.fieldLink RX10 14 "ChipFlow$Text" "length" "I") wd_379) (fun _ h9 => h9) (h_tx.get 1 rfl) dX10_append_31 ?_
  refine lv_iconst (v := 1) hx hb dX10_append_34 (by decide +kernel) ?_
  refine lv_iadd hx hb dX10_append_35 ?_
  refine lv_topi (fun v9 e9 => ?_)
  obtain rfl : v9 = 11 := e9.trans (by decide +kernel)
  refine va_put (D := (dC, dI)) (ci := 10) (v := .int 11) (ty := tyX10 1) (C := RX10) (T := TX10) (N := 9) hx hb hts inX10 tyX10 tyX10_ok nmX10 hown hK hP hD hS 1 rfl rfl 1 (by decide) (hts (.fieldLink RX10 14 "ChipFlow$Text" "length" "I") wd_379) (fun _ h9 => h9) rfl (by decide +kernel) rfl rfl (by rw [h_tx.1]; decide) dX10_append_36 (fun H locs hP hD hS => ?_)
  obtain ⟨fs_12, e9⟩ : ∃ z, z = fs_8.set 1 (.int 11) := ⟨_, rfl⟩
  have h_tx : fx fs_12 9 [(0, .ref bt), (1, .int 11), (2, .int 0), (3, .int 0), (4, .int 0), (6, .int 0), (7, .int 0), (8, .int 0)] := by rw [e9]; exact (h_tx.put (F' := [(1, .int 11), (0, .ref bt), (2, .int 0), (3, .int 0), (4, .int 0), (6, .int 0), (7, .int 0), (8, .int 0)]) (by decide) _ rfl).sub [1, 0, 2, 3, 4, 5, 6, 7] rfl
  have hP : va_P (dC, dI) CL [(x, .inr (12, xg)), (tx, .inr (10, fs_12)), (bt, .inl (btC, (65536, .inl f_11))), (oA, .inl (oAC, (1, .inr (.inl oAf))))] H := by rw [e9]; exact hP
  have hD : va_D A [(x, .inr (12, xg)), (tx, .inr (10, fs_12)), (bt, .inl (btC, (65536, .inl f_11))), (oA, .inl (oAC, (1, .inr (.inl oAf))))] := by rw [e9]; exact hD
  clear e9
  refine lv_iinc (v := 0) (lv' := [(2, .int 0), (0, .ref tx), (1, .int p2)]) hx hb dX10_append_39 hl (k := 0) rfl (by decide +kernel) (by decide) rfl (fun ls hl => ?_)
  refine lv_goto (tgt := 3) hx hb dX10_append_42 (by decide) ?_
  refine lv_iload_n hx hb dX10_append_3 rfl (lv_at hl 0 rfl) ?_
  refine lv_if_lt (tgt := 45) hx hb dX10_append_4 (by decide) (fun c9 => ?_) (fun c9 => ?_)
  · first | exact absurd c9 (by decide +kernel) | exact absurd (by decide +kernel) c9
  refine lv_aload_n hx hb dX10_append_7 rfl (lv_at hl 1 rfl) ?_
  refine va_get (D := (dC, dI)) (ci := 10) (v := .int 11) (C := RX10) (T := TX10) (N := 9) hx hb hts inX10 hown hK hP 1 rfl rfl 1 (by decide) (hts (.fieldLink RX10 14 "ChipFlow$Text" "length" "I") wd_379) (fun _ h9 => h9) (h_tx.get 1 rfl) dX10_append_8 ?_
  refine lv_ldc (v := 65536) hx hb hown (hts _ wd_376) dX10_append_11 ?_
  refine lv_icmp_ge (tgt := 39) hx hb dX10_append_13 (by decide) (fun c9 => ?_) (fun c9 => ?_)
  · first | exact absurd c9 (by decide +kernel) | exact absurd (by decide +kernel) c9
  refine lv_aload_n hx hb dX10_append_16 rfl (lv_at hl 1 rfl) ?_
  refine va_get (D := (dC, dI)) (ci := 10) (v := .ref bt) (C := RX10) (T := TX10) (N := 9) hx hb hts inX10 hown hK hP 1 rfl rfl 0 (by decide) (hts (.fieldLink RX10 10 "ChipFlow$Text" "bytes" "[B") wd_377) (fun _ h9 => h9) (h_tx.get 0 rfl) dX10_append_17 ?_
  refine lv_aload_n hx hb dX10_append_20 rfl (lv_at hl 1 rfl) ?_
  refine va_get (D := (dC, dI)) (ci := 10) (v := .int 11) (C := RX10) (T := TX10) (N := 9) hx hb hts inX10 hown hK hP 1 rfl rfl 1 (by decide) (hts (.fieldLink RX10 14 "ChipFlow$Text" "length" "I") wd_379) (fun _ h9 => h9) (h_tx.get 1 rfl) dX10_append_21 ?_
  refine lv_iload_n hx hb dX10_append_24 rfl (lv_at hl 2 rfl) ?_
  refine lv_iload_n hx hb dX10_append_25 rfl (lv_at hl 0 rfl) ?_
  refine lv_ishr hx hb dX10_append_26 ?_
  refine lv_topi (fun v_13 _ => ?_)
  refine lv_i2b hx hb dX10_append_27 rfl ?_
  refine lv_topi (fun v_14 _ => ?_)
  refine va_bast hx hb hK hP hD hS 2 0 rfl rfl (vp_in_nI (n := 11) (N := 65536) (by decide) (by decide)) dX10_append_28 (fun H locs hP hD hS => ?_)
  obtain ⟨f_15, e9⟩ : ∃ z, z = upd f_11 (11 : Int32).toNatClampNeg (vp_nar .byte v_14) := ⟨_, rfl⟩
  have h_bt : fa f_15 [] := by rw [e9, show (11 : Int32).toNatClampNeg = 11 by decide +kernel]; exact (fa.lose h_bt).sub [] rfl
  have hP : va_P (dC, dI) CL [(x, .inr (12, xg)), (tx, .inr (10, fs_12)), (bt, .inl (btC, (65536, .inl f_15))), (oA, .inl (oAC, (1, .inr (.inl oAf))))] H := by rw [e9]; exact hP
  have hD : va_D A [(x, .inr (12, xg)), (tx, .inr (10, fs_12)), (bt, .inl (btC, (65536, .inl f_15))), (oA, .inl (oAC, (1, .inr (.inl oAf))))] := by rw [e9]; exact hD
  clear e9
  refine lv_aload_n hx hb dX10_append_29 rfl (lv_at hl 1 rfl) ?_
  refine lv_dup hx hb dX10_append_30 rfl ?_
  refine va_get (D := (dC, dI)) (ci := 10) (v := .int 11) (C := RX10) (T := TX10) (N := 9) hx hb hts inX10 hown hK hP 1 rfl rfl 1 (by decide) (hts (.fieldLink RX10 14 "ChipFlow$Text" "length" "I") wd_379) (fun _ h9 => h9) (h_tx.get 1 rfl) dX10_append_31 ?_
  refine lv_iconst (v := 1) hx hb dX10_append_34 (by decide +kernel) ?_
  refine lv_iadd hx hb dX10_append_35 ?_
  refine lv_topi (fun v9 e9 => ?_)
  obtain rfl : v9 = 12 := e9.trans (by decide +kernel)
  refine va_put (D := (dC, dI)) (ci := 10) (v := .int 12) (ty := tyX10 1) (C := RX10) (T := TX10) (N := 9) hx hb hts inX10 tyX10 tyX10_ok nmX10 hown hK hP hD hS 1 rfl rfl 1 (by decide) (hts (.fieldLink RX10 14 "ChipFlow$Text" "length" "I") wd_379) (fun _ h9 => h9) rfl (by decide +kernel) rfl rfl (by rw [h_tx.1]; decide) dX10_append_36 (fun H locs hP hD hS => ?_)
  obtain ⟨fs_16, e9⟩ : ∃ z, z = fs_12.set 1 (.int 12) := ⟨_, rfl⟩
  have h_tx : fx fs_16 9 [(0, .ref bt), (1, .int 12), (2, .int 0), (3, .int 0), (4, .int 0), (6, .int 0), (7, .int 0), (8, .int 0)] := by rw [e9]; exact (h_tx.put (F' := [(1, .int 12), (0, .ref bt), (2, .int 0), (3, .int 0), (4, .int 0), (6, .int 0), (7, .int 0), (8, .int 0)]) (by decide) _ rfl).sub [1, 0, 2, 3, 4, 5, 6, 7] rfl
  have hP : va_P (dC, dI) CL [(x, .inr (12, xg)), (tx, .inr (10, fs_16)), (bt, .inl (btC, (65536, .inl f_15))), (oA, .inl (oAC, (1, .inr (.inl oAf))))] H := by rw [e9]; exact hP
  have hD : va_D A [(x, .inr (12, xg)), (tx, .inr (10, fs_16)), (bt, .inl (btC, (65536, .inl f_15))), (oA, .inl (oAC, (1, .inr (.inl oAf))))] := by rw [e9]; exact hD
  clear e9
  refine lv_iinc (v := (-8)) (lv' := [(2, .int (-8)), (0, .ref tx), (1, .int p2)]) hx hb dX10_append_39 hl (k := 0) rfl (by decide +kernel) (by decide) rfl (fun ls hl => ?_)
  refine lv_goto (tgt := 3) hx hb dX10_append_42 (by decide) ?_
  refine lv_iload_n hx hb dX10_append_3 rfl (lv_at hl 0 rfl) ?_
  refine lv_if_lt (tgt := 45) hx hb dX10_append_4 (by decide) (fun c9 => ?_) (fun c9 => ?_)
  rotate_left
  · first | exact absurd c9 (by decide +kernel) | exact absurd (by decide +kernel) c9
  exact W.vret hx hb hr (fun t ht hW => ⟨⟨(), rfl, trivial, xg, fs_16, f_15, oAf, h_x, h_tx, h_bt, h_oA, by rw [ht]; exact hP, va_K.moved hW.alike hK, hD⟩, hS.F ht⟩) hS.2.2 dX10_append_45
set_option maxHeartbeats 4000000 in
set_option maxRecDepth 100000 in
theorem gx6_X10_append (l : Launch) (hlt : l.stackTraces = false) (dC : Nat → ClassId) (dI : Nat → Nat → Nat) (sz : Nat) (p3 : Int32) (x tx bt oA : Nat) (xg : List Value) (h_x : fx xg 17 [(0, .ref tx)]) (txg : List Value) (h_tx : fx txg 9 [(0, .ref bt), (1, .int 12), (2, .int 0), (3, .int 0), (4, .int 0), (6, .int 0), (7, .int 0), (8, .int 0)]) (btC : ClassId) (btf : Nat → Int32) (h_bt : fa btf []) (oAC : ClassId) (oAf : Nat → Int64) (h_oA : fa oAf []) : Met l yX10_append (Cond.code yX10_append cX10_append 3 none :: BG) ({ frames := 1, cells := 0, slots := 0, locals := 12 }) (va_Pc [.ref tx, .int p3] (fun U => U.heap.size = sz ∧ va_P (dC, dI) CL [(x, .inr (12, xg)), (tx, .inr (10, txg)), (bt, .inl (btC, (65536, .inl btf))), (oA, .inl (oAC, (1, .inr (.inl oAf))))] U.heap ∧ va_K (dC, dI) CL [(btC, .byte), (oAC, .long)] U ∧ va_D (fun _ => True) [(x, .inr (12, xg)), (tx, .inr (10, txg)), (bt, .inl (btC, (65536, .inl btf))), (oA, .inl (oAC, (1, .inr (.inl oAf))))] ∧ th (va_A [(x, .inr (12, xg)), (tx, .inr (10, txg)), (bt, .inl (btC, (65536, .inl btf))), (oA, .inl (oAC, (1, .inr (.inl oAf))))] sz) U U.heap)) (va_Qv (fun _ : Unit => True) (fun _ t => ∃ (xy : List Value) (txy : List Value) (bty : Nat → Int32) (oAy : Nat → Int64), fx xy 17 [(0, .ref tx)] ∧ fx txy 9 [(0, .ref bt), (1, .int 16), (2, .int 0), (3, .int 0), (4, .int 0), (6, .int 0), (7, .int 0), (8, .int 0)] ∧ fa bty [] ∧ fa oAy [] ∧ va_P (dC, dI) CL [(x, .inr (12, xy)), (tx, .inr (10, txy)), (bt, .inl (btC, (65536, .inl bty))), (oA, .inl (oAC, (1, .inr (.inl oAy))))] t.heap ∧ va_K (dC, dI) CL [(btC, .byte), (oAC, .long)] t ∧ va_D (va_A [(x, .inr (12, xg)), (tx, .inr (10, txg)), (bt, .inl (btC, (65536, .inl btf))), (oA, .inl (oAC, (1, .inr (.inl oAf))))] sz) [(x, .inr (12, xy)), (tx, .inr (10, txy)), (bt, .inl (btC, (65536, .inl bty))), (oA, .inl (oAC, (1, .inr (.inl oAy))))]) (va_A [(x, .inr (12, xg)), (tx, .inr (10, txg)), (bt, .inl (btC, (65536, .inl btf))), (oA, .inl (oAC, (1, .inr (.inl oAf))))] sz)) 0 0 (va_A [(x, .inr (12, xg)), (tx, .inr (10, txg)), (bt, .inl (btC, (65536, .inl btf))), (oA, .inl (oAC, (1, .inr (.inl oAf))))] sz) := by
  refine Met.ofW (cc := cX10_append) (maxL := 3) (ret := none) (by decide) rfl ?_
  intro p e s m args below meth c s₁ B hml hv
  obtain ⟨rfl, hsz, hP, hK, hD0, hth⟩ := hv
  have hx := B.exec
  have hb := B.bytes
  have hr := B.returns
  have hts : ∀ w ∈ BG, w.before _ s = true := fun w h => atoms_spec (ws := Cond.code yX10_append cX10_append 3 none :: BG) B.pre w (List.mem_cons_of_mem _ h)
  have hown : s.vm.findClass RX10 = some m.cls := findClass_of_methodNamed B.named
  have hlocks := B.notSynchronized
  subst hsz
  have hD := hD0.self (sz := s.heap.size)
  generalize hAe : va_A [(x, .inr (12, xg)), (tx, .inr (10, txg)), (bt, .inl (btC, (65536, .inl btf))), (oA, .inl (oAC, (1, .inr (.inl oAf))))] s.heap.size = A at hD hth ⊢
  have hA : ∀ q : Nat, s.heap.size ≤ q → A q := fun q h => by rw [← hAe]; exact Or.inr h
  have hS : va_S A s.heap s.heap [] := va_S.rf
  have hl := lv_entry ([.ref tx, .int p3]) (n := 3) (Nat.le_of_ble_eq_true rfl)
  rw [lg_entry_eq]
  generalize (lg_sl ([.ref tx, .int p3]) ++ List.replicate (3 - (lg_sl ([.ref tx, .int p3])).length) Slot.unset).toArray = ls at hl ⊢
  have hl : lv_has ls 3 [(0, .ref tx), (1, .int p3)] := hl
  obtain ⟨H, eH⟩ : ∃ z, z = s.heap := ⟨_, rfl⟩
  have hP : va_P (dC, dI) CL [(x, .inr (12, xg)), (tx, .inr (10, txg)), (bt, .inl (btC, (65536, .inl btf))), (oA, .inl (oAC, (1, .inr (.inl oAf))))] H := by rw [eH]; exact hP
  have hS : va_S A s.heap H [] := by rw [eH]; exact hS
  rw [← eH]
  refine lv_bipush (v := 24) hx hb dX10_append_0 (by decide +kernel) ?_
  refine lv_istore_n (lv' := [(2, .int 24), (0, .ref tx), (1, .int p3)]) hx hb dX10_append_2 rfl hl (by decide) rfl (fun ls hl => ?_)
  refine lv_iload_n hx hb dX10_append_3 rfl (lv_at hl 0 rfl) ?_
  refine lv_if_lt (tgt := 45) hx hb dX10_append_4 (by decide) (fun c9 => ?_) (fun c9 => ?_)
  · first | exact absurd c9 (by decide +kernel) | exact absurd (by decide +kernel) c9
  refine lv_aload_n hx hb dX10_append_7 rfl (lv_at hl 1 rfl) ?_
  refine va_get (D := (dC, dI)) (ci := 10) (v := .int 12) (C := RX10) (T := TX10) (N := 9) hx hb hts inX10 hown hK hP 1 rfl rfl 1 (by decide) (hts (.fieldLink RX10 14 "ChipFlow$Text" "length" "I") wd_379) (fun _ h9 => h9) (h_tx.get 1 rfl) dX10_append_8 ?_
  refine lv_ldc (v := 65536) hx hb hown (hts _ wd_376) dX10_append_11 ?_
  refine lv_icmp_ge (tgt := 39) hx hb dX10_append_13 (by decide) (fun c9 => ?_) (fun c9 => ?_)
  · first | exact absurd c9 (by decide +kernel) | exact absurd (by decide +kernel) c9
  refine lv_aload_n hx hb dX10_append_16 rfl (lv_at hl 1 rfl) ?_
  refine va_get (D := (dC, dI)) (ci := 10) (v := .ref bt) (C := RX10) (T := TX10) (N := 9) hx hb hts inX10 hown hK hP 1 rfl rfl 0 (by decide) (hts (.fieldLink RX10 10 "ChipFlow$Text" "bytes" "[B") wd_377) (fun _ h9 => h9) (h_tx.get 0 rfl) dX10_append_17 ?_
  refine lv_aload_n hx hb dX10_append_20 rfl (lv_at hl 1 rfl) ?_
  refine va_get (D := (dC, dI)) (ci := 10) (v := .int 12) (C := RX10) (T := TX10) (N := 9) hx hb hts inX10 hown hK hP 1 rfl rfl 1 (by decide) (hts (.fieldLink RX10 14 "ChipFlow$Text" "length" "I") wd_379) (fun _ h9 => h9) (h_tx.get 1 rfl) dX10_append_21 ?_
  refine lv_iload_n hx hb dX10_append_24 rfl (lv_at hl 2 rfl) ?_
  refine lv_iload_n hx hb dX10_append_25 rfl (lv_at hl 0 rfl) ?_
  refine lv_ishr hx hb dX10_append_26 ?_
  refine lv_topi (fun v_1 _ => ?_)
  refine lv_i2b hx hb dX10_append_27 rfl ?_
  refine lv_topi (fun v_2 _ => ?_)
  refine va_bast hx hb hK hP hD hS 2 0 rfl rfl (vp_in_nI (n := 12) (N := 65536) (by decide) (by decide)) dX10_append_28 (fun H locs hP hD hS => ?_)
  obtain ⟨f_3, e9⟩ : ∃ z, z = upd btf (12 : Int32).toNatClampNeg (vp_nar .byte v_2) := ⟨_, rfl⟩
  have h_bt : fa f_3 [] := by rw [e9, show (12 : Int32).toNatClampNeg = 12 by decide +kernel]; exact (fa.lose h_bt).sub [] rfl
  have hP : va_P (dC, dI) CL [(x, .inr (12, xg)), (tx, .inr (10, txg)), (bt, .inl (btC, (65536, .inl f_3))), (oA, .inl (oAC, (1, .inr (.inl oAf))))] H := by rw [e9]; exact hP
  have hD : va_D A [(x, .inr (12, xg)), (tx, .inr (10, txg)), (bt, .inl (btC, (65536, .inl f_3))), (oA, .inl (oAC, (1, .inr (.inl oAf))))] := by rw [e9]; exact hD
  clear e9
  refine lv_aload_n hx hb dX10_append_29 rfl (lv_at hl 1 rfl) ?_
  refine lv_dup hx hb dX10_append_30 rfl ?_
  refine va_get (D := (dC, dI)) (ci := 10) (v := .int 12) (C := RX10) (T := TX10) (N := 9) hx hb hts inX10 hown hK hP 1 rfl rfl 1 (by decide) (hts (.fieldLink RX10 14 "ChipFlow$Text" "length" "I") wd_379) (fun _ h9 => h9) (h_tx.get 1 rfl) dX10_append_31 ?_
  refine lv_iconst (v := 1) hx hb dX10_append_34 (by decide +kernel) ?_
  refine lv_iadd hx hb dX10_append_35 ?_
  refine lv_topi (fun v9 e9 => ?_)
  obtain rfl : v9 = 13 := e9.trans (by decide +kernel)
  refine va_put (D := (dC, dI)) (ci := 10) (v := .int 13) (ty := tyX10 1) (C := RX10) (T := TX10) (N := 9) hx hb hts inX10 tyX10 tyX10_ok nmX10 hown hK hP hD hS 1 rfl rfl 1 (by decide) (hts (.fieldLink RX10 14 "ChipFlow$Text" "length" "I") wd_379) (fun _ h9 => h9) rfl (by decide +kernel) rfl rfl (by rw [h_tx.1]; decide) dX10_append_36 (fun H locs hP hD hS => ?_)
  obtain ⟨fs_4, e9⟩ : ∃ z, z = txg.set 1 (.int 13) := ⟨_, rfl⟩
  have h_tx : fx fs_4 9 [(0, .ref bt), (1, .int 13), (2, .int 0), (3, .int 0), (4, .int 0), (6, .int 0), (7, .int 0), (8, .int 0)] := by rw [e9]; exact (h_tx.put (F' := [(1, .int 13), (0, .ref bt), (2, .int 0), (3, .int 0), (4, .int 0), (6, .int 0), (7, .int 0), (8, .int 0)]) (by decide) _ rfl).sub [1, 0, 2, 3, 4, 5, 6, 7] rfl
  have hP : va_P (dC, dI) CL [(x, .inr (12, xg)), (tx, .inr (10, fs_4)), (bt, .inl (btC, (65536, .inl f_3))), (oA, .inl (oAC, (1, .inr (.inl oAf))))] H := by rw [e9]; exact hP
  have hD : va_D A [(x, .inr (12, xg)), (tx, .inr (10, fs_4)), (bt, .inl (btC, (65536, .inl f_3))), (oA, .inl (oAC, (1, .inr (.inl oAf))))] := by rw [e9]; exact hD
  clear e9
  refine lv_iinc (v := 16) (lv' := [(2, .int 16), (0, .ref tx), (1, .int p3)]) hx hb dX10_append_39 hl (k := 0) rfl (by decide +kernel) (by decide) rfl (fun ls hl => ?_)
  refine lv_goto (tgt := 3) hx hb dX10_append_42 (by decide) ?_
  refine lv_iload_n hx hb dX10_append_3 rfl (lv_at hl 0 rfl) ?_
  refine lv_if_lt (tgt := 45) hx hb dX10_append_4 (by decide) (fun c9 => ?_) (fun c9 => ?_)
  · first | exact absurd c9 (by decide +kernel) | exact absurd (by decide +kernel) c9
  refine lv_aload_n hx hb dX10_append_7 rfl (lv_at hl 1 rfl) ?_
  refine va_get (D := (dC, dI)) (ci := 10) (v := .int 13) (C := RX10) (T := TX10) (N := 9) hx hb hts inX10 hown hK hP 1 rfl rfl 1 (by decide) (hts (.fieldLink RX10 14 "ChipFlow$Text" "length" "I") wd_379) (fun _ h9 => h9) (h_tx.get 1 rfl) dX10_append_8 ?_
  refine lv_ldc (v := 65536) hx hb hown (hts _ wd_376) dX10_append_11 ?_
  refine lv_icmp_ge (tgt := 39) hx hb dX10_append_13 (by decide) (fun c9 => ?_) (fun c9 => ?_)
  · first | exact absurd c9 (by decide +kernel) | exact absurd (by decide +kernel) c9
  refine lv_aload_n hx hb dX10_append_16 rfl (lv_at hl 1 rfl) ?_
  refine va_get (D := (dC, dI)) (ci := 10) (v := .ref bt) (C := RX10) (T := TX10) (N := 9) hx hb hts inX10 hown hK hP 1 rfl rfl 0 (by decide) (hts (.fieldLink RX10 10 "ChipFlow$Text" "bytes" "[B") wd_377) (fun _ h9 => h9) (h_tx.get 0 rfl) dX10_append_17 ?_
  refine lv_aload_n hx hb dX10_append_20 rfl (lv_at hl 1 rfl) ?_
  refine va_get (D := (dC, dI)) (ci := 10) (v := .int 13) (C := RX10) (T := TX10) (N := 9) hx hb hts inX10 hown hK hP 1 rfl rfl 1 (by decide) (hts (.fieldLink RX10 14 "ChipFlow$Text" "length" "I") wd_379) (fun _ h9 => h9) (h_tx.get 1 rfl) dX10_append_21 ?_
  refine lv_iload_n hx hb dX10_append_24 rfl (lv_at hl 2 rfl) ?_
  refine lv_iload_n hx hb dX10_append_25 rfl (lv_at hl 0 rfl) ?_
  refine lv_ishr hx hb dX10_append_26 ?_
  refine lv_topi (fun v_5 _ => ?_)
  refine lv_i2b hx hb dX10_append_27 rfl ?_
  refine lv_topi (fun v_6 _ => ?_)
  refine va_bast hx hb hK hP hD hS 2 0 rfl rfl (vp_in_nI (n := 13) (N := 65536) (by decide) (by decide)) dX10_append_28 (fun H locs hP hD hS => ?_)
  obtain ⟨f_7, e9⟩ : ∃ z, z = upd f_3 (13 : Int32).toNatClampNeg (vp_nar .byte v_6) := ⟨_, rfl⟩
  have h_bt : fa f_7 [] := by rw [e9, show (13 : Int32).toNatClampNeg = 13 by decide +kernel]; exact (fa.lose h_bt).sub [] rfl
  have hP : va_P (dC, dI) CL [(x, .inr (12, xg)), (tx, .inr (10, fs_4)), (bt, .inl (btC, (65536, .inl f_7))), (oA, .inl (oAC, (1, .inr (.inl oAf))))] H := by rw [e9]; exact hP
  have hD : va_D A [(x, .inr (12, xg)), (tx, .inr (10, fs_4)), (bt, .inl (btC, (65536, .inl f_7))), (oA, .inl (oAC, (1, .inr (.inl oAf))))] := by rw [e9]; exact hD
  clear e9
  refine lv_aload_n hx hb dX10_append_29 rfl (lv_at hl 1 rfl) ?_
  refine lv_dup hx hb dX10_append_30 rfl ?_
  refine va_get (D := (dC, dI)) (ci := 10) (v := .int 13) (C := RX10) (T := TX10) (N := 9) hx hb hts inX10 hown hK hP 1 rfl rfl 1 (by decide) (hts (.fieldLink RX10 14 "ChipFlow$Text" "length" "I") wd_379) (fun _ h9 => h9) (h_tx.get 1 rfl) dX10_append_31 ?_
  refine lv_iconst (v := 1) hx hb dX10_append_34 (by decide +kernel) ?_
  refine lv_iadd hx hb dX10_append_35 ?_
  refine lv_topi (fun v9 e9 => ?_)
  obtain rfl : v9 = 14 := e9.trans (by decide +kernel)
  refine va_put (D := (dC, dI)) (ci := 10) (v := .int 14) (ty := tyX10 1) (C := RX10) (T := TX10) (N := 9) hx hb hts inX10 tyX10 tyX10_ok nmX10 hown hK hP hD hS 1 rfl rfl 1 (by decide) (hts (.fieldLink RX10 14 "ChipFlow$Text" "length" "I") wd_379) (fun _ h9 => h9) rfl (by decide +kernel) rfl rfl (by rw [h_tx.1]; decide) dX10_append_36 (fun H locs hP hD hS => ?_)
  obtain ⟨fs_8, e9⟩ : ∃ z, z = fs_4.set 1 (.int 14) := ⟨_, rfl⟩
  have h_tx : fx fs_8 9 [(0, .ref bt), (1, .int 14), (2, .int 0), (3, .int 0), (4, .int 0), (6, .int 0), (7, .int 0), (8, .int 0)] := by rw [e9]; exact (h_tx.put (F' := [(1, .int 14), (0, .ref bt), (2, .int 0), (3, .int 0), (4, .int 0), (6, .int 0), (7, .int 0), (8, .int 0)]) (by decide) _ rfl).sub [1, 0, 2, 3, 4, 5, 6, 7] rfl
  have hP : va_P (dC, dI) CL [(x, .inr (12, xg)), (tx, .inr (10, fs_8)), (bt, .inl (btC, (65536, .inl f_7))), (oA, .inl (oAC, (1, .inr (.inl oAf))))] H := by rw [e9]; exact hP
  have hD : va_D A [(x, .inr (12, xg)), (tx, .inr (10, fs_8)), (bt, .inl (btC, (65536, .inl f_7))), (oA, .inl (oAC, (1, .inr (.inl oAf))))] := by rw [e9]; exact hD
  clear e9
  refine lv_iinc (v := 8) (lv' := [(2, .int 8), (0, .ref tx), (1, .int p3)]) hx hb dX10_append_39 hl (k := 0) rfl (by decide +kernel) (by decide) rfl (fun ls hl => ?_)
  refine lv_goto (tgt := 3) hx hb dX10_append_42 (by decide) ?_
  refine lv_iload_n hx hb dX10_append_3 rfl (lv_at hl 0 rfl) ?_
  refine lv_if_lt (tgt := 45) hx hb dX10_append_4 (by decide) (fun c9 => ?_) (fun c9 => ?_)
  · first | exact absurd c9 (by decide +kernel) | exact absurd (by decide +kernel) c9
  refine lv_aload_n hx hb dX10_append_7 rfl (lv_at hl 1 rfl) ?_
  refine va_get (D := (dC, dI)) (ci := 10) (v := .int 14) (C := RX10) (T := TX10) (N := 9) hx hb hts inX10 hown hK hP 1 rfl rfl 1 (by decide) (hts (.fieldLink RX10 14 "ChipFlow$Text" "length" "I") wd_379) (fun _ h9 => h9) (h_tx.get 1 rfl) dX10_append_8 ?_
  refine lv_ldc (v := 65536) hx hb hown (hts _ wd_376) dX10_append_11 ?_
  refine lv_icmp_ge (tgt := 39) hx hb dX10_append_13 (by decide) (fun c9 => ?_) (fun c9 => ?_)
  · first | exact absurd c9 (by decide +kernel) | exact absurd (by decide +kernel) c9
  refine lv_aload_n hx hb dX10_append_16 rfl (lv_at hl 1 rfl) ?_
  refine va_get (D := (dC, dI)) (ci := 10) (v := .ref bt) (C := RX10) (T := TX10) (N := 9) hx hb hts inX10 hown hK hP 1 rfl rfl 0 (by decide) (hts (.fieldLink RX10 10 "ChipFlow$Text" "bytes" "[B") wd_377) (fun _ h9 => h9) (h_tx.get 0 rfl) dX10_append_17 ?_
  refine lv_aload_n hx hb dX10_append_20 rfl (lv_at hl 1 rfl) ?_
  refine va_get (D := (dC, dI)) (ci := 10) (v := .int 14) (C := RX10) (T := TX10) (N := 9) hx hb hts inX10 hown hK hP 1 rfl rfl 1 (by decide) (hts (.fieldLink RX10 14 "ChipFlow$Text" "length" "I") wd_379) (fun _ h9 => h9) (h_tx.get 1 rfl) dX10_append_21 ?_
  refine lv_iload_n hx hb dX10_append_24 rfl (lv_at hl 2 rfl) ?_
  refine lv_iload_n hx hb dX10_append_25 rfl (lv_at hl 0 rfl) ?_
  refine lv_ishr hx hb dX10_append_26 ?_
  refine lv_topi (fun v_9 _ => ?_)
  refine lv_i2b hx hb dX10_append_27 rfl ?_
  refine lv_topi (fun v_10 _ => ?_)
  refine va_bast hx hb hK hP hD hS 2 0 rfl rfl (vp_in_nI (n := 14) (N := 65536) (by decide) (by decide)) dX10_append_28 (fun H locs hP hD hS => ?_)
  obtain ⟨f_11, e9⟩ : ∃ z, z = upd f_7 (14 : Int32).toNatClampNeg (vp_nar .byte v_10) := ⟨_, rfl⟩
  have h_bt : fa f_11 [] := by rw [e9, show (14 : Int32).toNatClampNeg = 14 by decide +kernel]; exact (fa.lose h_bt).sub [] rfl
  have hP : va_P (dC, dI) CL [(x, .inr (12, xg)), (tx, .inr (10, fs_8)), (bt, .inl (btC, (65536, .inl f_11))), (oA, .inl (oAC, (1, .inr (.inl oAf))))] H := by rw [e9]; exact hP
  have hD : va_D A [(x, .inr (12, xg)), (tx, .inr (10, fs_8)), (bt, .inl (btC, (65536, .inl f_11))), (oA, .inl (oAC, (1, .inr (.inl oAf))))] := by rw [e9]; exact hD
  clear e9
  refine lv_aload_n hx hb dX10_append_29 rfl (lv_at hl 1 rfl) ?_
  refine lv_dup hx hb dX10_append_30 rfl ?_
  refine va_get (D := (dC, dI)) (ci := 10) (v := .int 14) (C := RX10) (T := TX10) (N := 9) hx hb hts inX10 hown hK hP 1 rfl rfl 1 (by decide) (hts (.fieldLink RX10 14 "ChipFlow$Text" "length" "I") wd_379) (fun _ h9 => h9) (h_tx.get 1 rfl) dX10_append_31 ?_
  refine lv_iconst (v := 1) hx hb dX10_append_34 (by decide +kernel) ?_
  refine lv_iadd hx hb dX10_append_35 ?_
  refine lv_topi (fun v9 e9 => ?_)
  obtain rfl : v9 = 15 := e9.trans (by decide +kernel)
  refine va_put (D := (dC, dI)) (ci := 10) (v := .int 15) (ty := tyX10 1) (C := RX10) (T := TX10) (N := 9) hx hb hts inX10 tyX10 tyX10_ok nmX10 hown hK hP hD hS 1 rfl rfl 1 (by decide) (hts (.fieldLink RX10 14 "ChipFlow$Text" "length" "I") wd_379) (fun _ h9 => h9) rfl (by decide +kernel) rfl rfl (by rw [h_tx.1]; decide) dX10_append_36 (fun H locs hP hD hS => ?_)
  obtain ⟨fs_12, e9⟩ : ∃ z, z = fs_8.set 1 (.int 15) := ⟨_, rfl⟩
  have h_tx : fx fs_12 9 [(0, .ref bt), (1, .int 15), (2, .int 0), (3, .int 0), (4, .int 0), (6, .int 0), (7, .int 0), (8, .int 0)] := by rw [e9]; exact (h_tx.put (F' := [(1, .int 15), (0, .ref bt), (2, .int 0), (3, .int 0), (4, .int 0), (6, .int 0), (7, .int 0), (8, .int 0)]) (by decide) _ rfl).sub [1, 0, 2, 3, 4, 5, 6, 7] rfl
  have hP : va_P (dC, dI) CL [(x, .inr (12, xg)), (tx, .inr (10, fs_12)), (bt, .inl (btC, (65536, .inl f_11))), (oA, .inl (oAC, (1, .inr (.inl oAf))))] H := by rw [e9]; exact hP
  have hD : va_D A [(x, .inr (12, xg)), (tx, .inr (10, fs_12)), (bt, .inl (btC, (65536, .inl f_11))), (oA, .inl (oAC, (1, .inr (.inl oAf))))] := by rw [e9]; exact hD
  clear e9
  refine lv_iinc (v := 0) (lv' := [(2, .int 0), (0, .ref tx), (1, .int p3)]) hx hb dX10_append_39 hl (k := 0) rfl (by decide +kernel) (by decide) rfl (fun ls hl => ?_)
  refine lv_goto (tgt := 3) hx hb dX10_append_42 (by decide) ?_
  refine lv_iload_n hx hb dX10_append_3 rfl (lv_at hl 0 rfl) ?_
  refine lv_if_lt (tgt := 45) hx hb dX10_append_4 (by decide) (fun c9 => ?_) (fun c9 => ?_)
  · first | exact absurd c9 (by decide +kernel) | exact absurd (by decide +kernel) c9
  refine lv_aload_n hx hb dX10_append_7 rfl (lv_at hl 1 rfl) ?_
  refine va_get (D := (dC, dI)) (ci := 10) (v := .int 15) (C := RX10) (T := TX10) (N := 9) hx hb hts inX10 hown hK hP 1 rfl rfl 1 (by decide) (hts (.fieldLink RX10 14 "ChipFlow$Text" "length" "I") wd_379) (fun _ h9 => h9) (h_tx.get 1 rfl) dX10_append_8 ?_
  refine lv_ldc (v := 65536) hx hb hown (hts _ wd_376) dX10_append_11 ?_
  refine lv_icmp_ge (tgt := 39) hx hb dX10_append_13 (by decide) (fun c9 => ?_) (fun c9 => ?_)
  · first | exact absurd c9 (by decide +kernel) | exact absurd (by decide +kernel) c9
  refine lv_aload_n hx hb dX10_append_16 rfl (lv_at hl 1 rfl) ?_
  refine va_get (D := (dC, dI)) (ci := 10) (v := .ref bt) (C := RX10) (T := TX10) (N := 9) hx hb hts inX10 hown hK hP 1 rfl rfl 0 (by decide) (hts (.fieldLink RX10 10 "ChipFlow$Text" "bytes" "[B") wd_377) (fun _ h9 => h9) (h_tx.get 0 rfl) dX10_append_17 ?_
  refine lv_aload_n hx hb dX10_append_20 rfl (lv_at hl 1 rfl) ?_
  refine va_get (D := (dC, dI)) (ci := 10) (v := .int 15) (C := RX10) (T := TX10) (N := 9) hx hb hts inX10 hown hK hP 1 rfl rfl 1 (by decide) (hts (.fieldLink RX10 14 "ChipFlow$Text" "length" "I") wd_379) (fun _ h9 => h9) (h_tx.get 1 rfl) dX10_append_21 ?_
  refine lv_iload_n hx hb dX10_append_24 rfl (lv_at hl 2 rfl) ?_
  refine lv_iload_n hx hb dX10_append_25 rfl (lv_at hl 0 rfl) ?_
  refine lv_ishr hx hb dX10_append_26 ?_
  refine lv_topi (fun v_13 _ => ?_)
  refine lv_i2b hx hb dX10_append_27 rfl ?_
  refine lv_topi (fun v_14 _ => ?_)
  refine va_bast hx hb hK hP hD hS 2 0 rfl rfl (vp_in_nI (n := 15) (N := 65536) (by decide) (by decide)) dX10_append_28 (fun H locs hP hD hS => ?_)
  obtain ⟨f_15, e9⟩ : ∃ z, z = upd f_11 (15 : Int32).toNatClampNeg (vp_nar .byte v_14) := ⟨_, rfl⟩
  have h_bt : fa f_15 [] := by rw [e9, show (15 : Int32).toNatClampNeg = 15 by decide +kernel]; exact (fa.lose h_bt).sub [] rfl
  have hP : va_P (dC, dI) CL [(x, .inr (12, xg)), (tx, .inr (10, fs_12)), (bt, .inl (btC, (65536, .inl f_15))), (oA, .inl (oAC, (1, .inr (.inl oAf))))] H := by rw [e9]; exact hP
  have hD : va_D A [(x, .inr (12, xg)), (tx, .inr (10, fs_12)), (bt, .inl (btC, (65536, .inl f_15))), (oA, .inl (oAC, (1, .inr (.inl oAf))))] := by rw [e9]; exact hD
  clear e9
  refine lv_aload_n hx hb dX10_append_29 rfl (lv_at hl 1 rfl) ?_
  refine lv_dup hx hb dX10_append_30 rfl ?_
  refine va_get (D := (dC, dI)) (ci := 10) (v := .int 15) (C := RX10) (T := TX10) (N := 9) hx hb hts inX10 hown hK hP 1 rfl rfl 1 (by decide) (hts (.fieldLink RX10 14 "ChipFlow$Text" "length" "I") wd_379) (fun _ h9 => h9) (h_tx.get 1 rfl) dX10_append_31 ?_
  refine lv_iconst (v := 1) hx hb dX10_append_34 (by decide +kernel) ?_
  refine lv_iadd hx hb dX10_append_35 ?_
  refine lv_topi (fun v9 e9 => ?_)
  obtain rfl : v9 = 16 := e9.trans (by decide +kernel)
  refine va_put (D := (dC, dI)) (ci := 10) (v := .int 16) (ty := tyX10 1) (C := RX10) (T := TX10) (N := 9) hx hb hts inX10 tyX10 tyX10_ok nmX10 hown hK hP hD hS 1 rfl rfl 1 (by decide) (hts (.fieldLink RX10 14 "ChipFlow$Text" "length" "I") wd_379) (fun _ h9 => h9) rfl (by decide +kernel) rfl rfl (by rw [h_tx.1]; decide) dX10_append_36 (fun H locs hP hD hS => ?_)
  obtain ⟨fs_16, e9⟩ : ∃ z, z = fs_12.set 1 (.int 16) := ⟨_, rfl⟩
  have h_tx : fx fs_16 9 [(0, .ref bt), (1, .int 16), (2, .int 0), (3, .int 0), (4, .int 0), (6, .int 0), (7, .int 0), (8, .int 0)] := by rw [e9]; exact (h_tx.put (F' := [(1, .int 16), (0, .ref bt), (2, .int 0), (3, .int 0), (4, .int 0), (6, .int 0), (7, .int 0), (8, .int 0)]) (by decide) _ rfl).sub [1, 0, 2, 3, 4, 5, 6, 7] rfl
  have hP : va_P (dC, dI) CL [(x, .inr (12, xg)), (tx, .inr (10, fs_16)), (bt, .inl (btC, (65536, .inl f_15))), (oA, .inl (oAC, (1, .inr (.inl oAf))))] H := by rw [e9]; exact hP
  have hD : va_D A [(x, .inr (12, xg)), (tx, .inr (10, fs_16)), (bt, .inl (btC, (65536, .inl f_15))), (oA, .inl (oAC, (1, .inr (.inl oAf))))] := by rw [e9]; exact hD
  clear e9
  refine lv_iinc (v := (-8)) (lv' := [(2, .int (-8)), (0, .ref tx), (1, .int p3)]) hx hb dX10_append_39 hl (k := 0) rfl (by decide +kernel) (by decide) rfl (fun ls hl => ?_)
  refine lv_goto (tgt := 3) hx hb dX10_append_42 (by decide) ?_
  refine lv_iload_n hx hb dX10_append_3 rfl (lv_at hl 0 rfl) ?_
  refine lv_if_lt (tgt := 45) hx hb dX10_append_4 (by decide) (fun c9 => ?_) (fun c9 => ?_)
  rotate_left
  · first | exact absurd c9 (by decide +kernel) | exact absurd (by decide +kernel) c9
  exact W.vret hx hb hr (fun t ht hW => ⟨⟨(), rfl, trivial, xg, fs_16, f_15, oAf, h_x, h_tx, h_bt, h_oA, by rw [ht]; exact hP, va_K.moved hW.alike hK, hD⟩, hS.F ht⟩) hS.2.2 dX10_append_45
set_option maxHeartbeats 4000000 in
set_option maxRecDepth 100000 in
theorem gx7_X10_append (l : Launch) (hlt : l.stackTraces = false) (dC : Nat → ClassId) (dI : Nat → Nat → Nat) (sz : Nat) (p4 : Int32) (x tx bt oA : Nat) (xg : List Value) (h_x : fx xg 17 [(0, .ref tx)]) (txg : List Value) (h_tx : fx txg 9 [(0, .ref bt), (1, .int 16), (2, .int 0), (3, .int 0), (4, .int 0), (6, .int 0), (7, .int 0), (8, .int 0)]) (btC : ClassId) (btf : Nat → Int32) (h_bt : fa btf []) (oAC : ClassId) (oAf : Nat → Int64) (h_oA : fa oAf []) : Met l yX10_append (Cond.code yX10_append cX10_append 3 none :: BG) ({ frames := 1, cells := 0, slots := 0, locals := 12 }) (va_Pc [.ref tx, .int p4] (fun U => U.heap.size = sz ∧ va_P (dC, dI) CL [(x, .inr (12, xg)), (tx, .inr (10, txg)), (bt, .inl (btC, (65536, .inl btf))), (oA, .inl (oAC, (1, .inr (.inl oAf))))] U.heap ∧ va_K (dC, dI) CL [(btC, .byte), (oAC, .long)] U ∧ va_D (fun _ => True) [(x, .inr (12, xg)), (tx, .inr (10, txg)), (bt, .inl (btC, (65536, .inl btf))), (oA, .inl (oAC, (1, .inr (.inl oAf))))] ∧ th (va_A [(x, .inr (12, xg)), (tx, .inr (10, txg)), (bt, .inl (btC, (65536, .inl btf))), (oA, .inl (oAC, (1, .inr (.inl oAf))))] sz) U U.heap)) (va_Qv (fun _ : Unit => True) (fun _ t => ∃ (xy : List Value) (txy : List Value) (bty : Nat → Int32) (oAy : Nat → Int64), fx xy 17 [(0, .ref tx)] ∧ fx txy 9 [(0, .ref bt), (1, .int 20), (2, .int 0), (3, .int 0), (4, .int 0), (6, .int 0), (7, .int 0), (8, .int 0)] ∧ fa bty [] ∧ fa oAy [] ∧ va_P (dC, dI) CL [(x, .inr (12, xy)), (tx, .inr (10, txy)), (bt, .inl (btC, (65536, .inl bty))), (oA, .inl (oAC, (1, .inr (.inl oAy))))] t.heap ∧ va_K (dC, dI) CL [(btC, .byte), (oAC, .long)] t ∧ va_D (va_A [(x, .inr (12, xg)), (tx, .inr (10, txg)), (bt, .inl (btC, (65536, .inl btf))), (oA, .inl (oAC, (1, .inr (.inl oAf))))] sz) [(x, .inr (12, xy)), (tx, .inr (10, txy)), (bt, .inl (btC, (65536, .inl bty))), (oA, .inl (oAC, (1, .inr (.inl oAy))))]) (va_A [(x, .inr (12, xg)), (tx, .inr (10, txg)), (bt, .inl (btC, (65536, .inl btf))), (oA, .inl (oAC, (1, .inr (.inl oAf))))] sz)) 0 0 (va_A [(x, .inr (12, xg)), (tx, .inr (10, txg)), (bt, .inl (btC, (65536, .inl btf))), (oA, .inl (oAC, (1, .inr (.inl oAf))))] sz) := by
  refine Met.ofW (cc := cX10_append) (maxL := 3) (ret := none) (by decide) rfl ?_
  intro p e s m args below meth c s₁ B hml hv
  obtain ⟨rfl, hsz, hP, hK, hD0, hth⟩ := hv
  have hx := B.exec
  have hb := B.bytes
  have hr := B.returns
  have hts : ∀ w ∈ BG, w.before _ s = true := fun w h => atoms_spec (ws := Cond.code yX10_append cX10_append 3 none :: BG) B.pre w (List.mem_cons_of_mem _ h)
  have hown : s.vm.findClass RX10 = some m.cls := findClass_of_methodNamed B.named
  have hlocks := B.notSynchronized
  subst hsz
  have hD := hD0.self (sz := s.heap.size)
  generalize hAe : va_A [(x, .inr (12, xg)), (tx, .inr (10, txg)), (bt, .inl (btC, (65536, .inl btf))), (oA, .inl (oAC, (1, .inr (.inl oAf))))] s.heap.size = A at hD hth ⊢
  have hA : ∀ q : Nat, s.heap.size ≤ q → A q := fun q h => by rw [← hAe]; exact Or.inr h
  have hS : va_S A s.heap s.heap [] := va_S.rf
  have hl := lv_entry ([.ref tx, .int p4]) (n := 3) (Nat.le_of_ble_eq_true rfl)
  rw [lg_entry_eq]
  generalize (lg_sl ([.ref tx, .int p4]) ++ List.replicate (3 - (lg_sl ([.ref tx, .int p4])).length) Slot.unset).toArray = ls at hl ⊢
  have hl : lv_has ls 3 [(0, .ref tx), (1, .int p4)] := hl
  obtain ⟨H, eH⟩ : ∃ z, z = s.heap := ⟨_, rfl⟩
  have hP : va_P (dC, dI) CL [(x, .inr (12, xg)), (tx, .inr (10, txg)), (bt, .inl (btC, (65536, .inl btf))), (oA, .inl (oAC, (1, .inr (.inl oAf))))] H := by rw [eH]; exact hP
  have hS : va_S A s.heap H [] := by rw [eH]; exact hS
  rw [← eH]
  refine lv_bipush (v := 24) hx hb dX10_append_0 (by decide +kernel) ?_
  refine lv_istore_n (lv' := [(2, .int 24), (0, .ref tx), (1, .int p4)]) hx hb dX10_append_2 rfl hl (by decide) rfl (fun ls hl => ?_)
  refine lv_iload_n hx hb dX10_append_3 rfl (lv_at hl 0 rfl) ?_
  refine lv_if_lt (tgt := 45) hx hb dX10_append_4 (by decide) (fun c9 => ?_) (fun c9 => ?_)
  · first | exact absurd c9 (by decide +kernel) | exact absurd (by decide +kernel) c9
  refine lv_aload_n hx hb dX10_append_7 rfl (lv_at hl 1 rfl) ?_
  refine va_get (D := (dC, dI)) (ci := 10) (v := .int 16) (C := RX10) (T := TX10) (N := 9) hx hb hts inX10 hown hK hP 1 rfl rfl 1 (by decide) (hts (.fieldLink RX10 14 "ChipFlow$Text" "length" "I") wd_379) (fun _ h9 => h9) (h_tx.get 1 rfl) dX10_append_8 ?_
  refine lv_ldc (v := 65536) hx hb hown (hts _ wd_376) dX10_append_11 ?_
  refine lv_icmp_ge (tgt := 39) hx hb dX10_append_13 (by decide) (fun c9 => ?_) (fun c9 => ?_)
  · first | exact absurd c9 (by decide +kernel) | exact absurd (by decide +kernel) c9
  refine lv_aload_n hx hb dX10_append_16 rfl (lv_at hl 1 rfl) ?_
  refine va_get (D := (dC, dI)) (ci := 10) (v := .ref bt) (C := RX10) (T := TX10) (N := 9) hx hb hts inX10 hown hK hP 1 rfl rfl 0 (by decide) (hts (.fieldLink RX10 10 "ChipFlow$Text" "bytes" "[B") wd_377) (fun _ h9 => h9) (h_tx.get 0 rfl) dX10_append_17 ?_
  refine lv_aload_n hx hb dX10_append_20 rfl (lv_at hl 1 rfl) ?_
  refine va_get (D := (dC, dI)) (ci := 10) (v := .int 16) (C := RX10) (T := TX10) (N := 9) hx hb hts inX10 hown hK hP 1 rfl rfl 1 (by decide) (hts (.fieldLink RX10 14 "ChipFlow$Text" "length" "I") wd_379) (fun _ h9 => h9) (h_tx.get 1 rfl) dX10_append_21 ?_
  refine lv_iload_n hx hb dX10_append_24 rfl (lv_at hl 2 rfl) ?_
  refine lv_iload_n hx hb dX10_append_25 rfl (lv_at hl 0 rfl) ?_
  refine lv_ishr hx hb dX10_append_26 ?_
  refine lv_topi (fun v_1 _ => ?_)
  refine lv_i2b hx hb dX10_append_27 rfl ?_
  refine lv_topi (fun v_2 _ => ?_)
  refine va_bast hx hb hK hP hD hS 2 0 rfl rfl (vp_in_nI (n := 16) (N := 65536) (by decide) (by decide)) dX10_append_28 (fun H locs hP hD hS => ?_)
  obtain ⟨f_3, e9⟩ : ∃ z, z = upd btf (16 : Int32).toNatClampNeg (vp_nar .byte v_2) := ⟨_, rfl⟩
  have h_bt : fa f_3 [] := by rw [e9, show (16 : Int32).toNatClampNeg = 16 by decide +kernel]; exact (fa.lose h_bt).sub [] rfl
  have hP : va_P (dC, dI) CL [(x, .inr (12, xg)), (tx, .inr (10, txg)), (bt, .inl (btC, (65536, .inl f_3))), (oA, .inl (oAC, (1, .inr (.inl oAf))))] H := by rw [e9]; exact hP
  have hD : va_D A [(x, .inr (12, xg)), (tx, .inr (10, txg)), (bt, .inl (btC, (65536, .inl f_3))), (oA, .inl (oAC, (1, .inr (.inl oAf))))] := by rw [e9]; exact hD
  clear e9
  refine lv_aload_n hx hb dX10_append_29 rfl (lv_at hl 1 rfl) ?_
  refine lv_dup hx hb dX10_append_30 rfl ?_
  refine va_get (D := (dC, dI)) (ci := 10) (v := .int 16) (C := RX10) (T := TX10) (N := 9) hx hb hts inX10 hown hK hP 1 rfl rfl 1 (by decide) (hts (.fieldLink RX10 14 "ChipFlow$Text" "length" "I") wd_379) (fun _ h9 => h9) (h_tx.get 1 rfl) dX10_append_31 ?_
  refine lv_iconst (v := 1) hx hb dX10_append_34 (by decide +kernel) ?_
  refine lv_iadd hx hb dX10_append_35 ?_
  refine lv_topi (fun v9 e9 => ?_)
  obtain rfl : v9 = 17 := e9.trans (by decide +kernel)
  refine va_put (D := (dC, dI)) (ci := 10) (v := .int 17) (ty := tyX10 1) (C := RX10) (T := TX10) (N := 9) hx hb hts inX10 tyX10 tyX10_ok nmX10 hown hK hP hD hS 1 rfl rfl 1 (by decide) (hts (.fieldLink RX10 14 "ChipFlow$Text" "length" "I") wd_379) (fun _ h9 => h9) rfl (by decide +kernel) rfl rfl (by rw [h_tx.1]; decide) dX10_append_36 (fun H locs hP hD hS => ?_)
  obtain ⟨fs_4, e9⟩ : ∃ z, z = txg.set 1 (.int 17) := ⟨_, rfl⟩
  have h_tx : fx fs_4 9 [(0, .ref bt), (1, .int 17), (2, .int 0), (3, .int 0), (4, .int 0), (6, .int 0), (7, .int 0), (8, .int 0)] := by rw [e9]; exact (h_tx.put (F' := [(1, .int 17), (0, .ref bt), (2, .int 0), (3, .int 0), (4, .int 0), (6, .int 0), (7, .int 0), (8, .int 0)]) (by decide) _ rfl).sub [1, 0, 2, 3, 4, 5, 6, 7] rfl
  have hP : va_P (dC, dI) CL [(x, .inr (12, xg)), (tx, .inr (10, fs_4)), (bt, .inl (btC, (65536, .inl f_3))), (oA, .inl (oAC, (1, .inr (.inl oAf))))] H := by rw [e9]; exact hP
  have hD : va_D A [(x, .inr (12, xg)), (tx, .inr (10, fs_4)), (bt, .inl (btC, (65536, .inl f_3))), (oA, .inl (oAC, (1, .inr (.inl oAf))))] := by rw [e9]; exact hD
  clear e9
  refine lv_iinc (v := 16) (lv' := [(2, .int 16), (0, .ref tx), (1, .int p4)]) hx hb dX10_append_39 hl (k := 0) rfl (by decide +kernel) (by decide) rfl (fun ls hl => ?_)
  refine lv_goto (tgt := 3) hx hb dX10_append_42 (by decide) ?_
  refine lv_iload_n hx hb dX10_append_3 rfl (lv_at hl 0 rfl) ?_
  refine lv_if_lt (tgt := 45) hx hb dX10_append_4 (by decide) (fun c9 => ?_) (fun c9 => ?_)
  · first | exact absurd c9 (by decide +kernel) | exact absurd (by decide +kernel) c9
  refine lv_aload_n hx hb dX10_append_7 rfl (lv_at hl 1 rfl) ?_
  refine va_get (D := (dC, dI)) (ci := 10) (v := .int 17) (C := RX10) (T := TX10) (N := 9) hx hb hts inX10 hown hK hP 1 rfl rfl 1 (by decide) (hts (.fieldLink RX10 14 "ChipFlow$Text" "length" "I") wd_379) (fun _ h9 => h9) (h_tx.get 1 rfl) dX10_append_8 ?_
  refine lv_ldc (v := 65536) hx hb hown (hts _ wd_376) dX10_append_11 ?_
  refine lv_icmp_ge (tgt := 39) hx hb dX10_append_13 (by decide) (fun c9 => ?_) (fun c9 => ?_)
  · first | exact absurd c9 (by decide +kernel) | exact absurd (by decide +kernel) c9
  refine lv_aload_n hx hb dX10_append_16 rfl (lv_at hl 1 rfl) ?_
  refine va_get (D := (dC, dI)) (ci := 10) (v := .ref bt) (C := RX10) (T := TX10) (N := 9) hx hb hts inX10 hown hK hP 1 rfl rfl 0 (by decide) (hts (.fieldLink RX10 10 "ChipFlow$Text" "bytes" "[B") wd_377) (fun _ h9 => h9) (h_tx.get 0 rfl) dX10_append_17 ?_
  refine lv_aload_n hx hb dX10_append_20 rfl (lv_at hl 1 rfl) ?_
  refine va_get (D := (dC, dI)) (ci := 10) (v := .int 17) (C := RX10) (T := TX10) (N := 9) hx hb hts inX10 hown hK hP 1 rfl rfl 1 (by decide) (hts (.fieldLink RX10 14 "ChipFlow$Text" "length" "I") wd_379) (fun _ h9 => h9) (h_tx.get 1 rfl) dX10_append_21 ?_
  refine lv_iload_n hx hb dX10_append_24 rfl (lv_at hl 2 rfl) ?_
  refine lv_iload_n hx hb dX10_append_25 rfl (lv_at hl 0 rfl) ?_
  refine lv_ishr hx hb dX10_append_26 ?_
  refine lv_topi (fun v_5 _ => ?_)
  refine lv_i2b hx hb dX10_append_27 rfl ?_
  refine lv_topi (fun v_6 _ => ?_)
  refine va_bast hx hb hK hP hD hS 2 0 rfl rfl (vp_in_nI (n := 17) (N := 65536) (by decide) (by decide)) dX10_append_28 (fun H locs hP hD hS => ?_)
  obtain ⟨f_7, e9⟩ : ∃ z, z = upd f_3 (17 : Int32).toNatClampNeg (vp_nar .byte v_6) := ⟨_, rfl⟩
  have h_bt : fa f_7 [] := by rw [e9, show (17 : Int32).toNatClampNeg = 17 by decide +kernel]; exact (fa.lose h_bt).sub [] rfl
  have hP : va_P (dC, dI) CL [(x, .inr (12, xg)), (tx, .inr (10, fs_4)), (bt, .inl (btC, (65536, .inl f_7))), (oA, .inl (oAC, (1, .inr (.inl oAf))))] H := by rw [e9]; exact hP
  have hD : va_D A [(x, .inr (12, xg)), (tx, .inr (10, fs_4)), (bt, .inl (btC, (65536, .inl f_7))), (oA, .inl (oAC, (1, .inr (.inl oAf))))] := by rw [e9]; exact hD
  clear e9
  refine lv_aload_n hx hb dX10_append_29 rfl (lv_at hl 1 rfl) ?_
  refine lv_dup hx hb dX10_append_30 rfl ?_
  refine va_get (D := (dC, dI)) (ci := 10) (v := .int 17) (C := RX10) (T := TX10) (N := 9) hx hb hts inX10 hown hK hP 1 rfl rfl 1 (by decide) (hts (.fieldLink RX10 14 "ChipFlow$Text" "length" "I") wd_379) (fun _ h9 => h9) (h_tx.get 1 rfl) dX10_append_31 ?_
  refine lv_iconst (v := 1) hx hb dX10_append_34 (by decide +kernel) ?_
  refine lv_iadd hx hb dX10_append_35 ?_
  refine lv_topi (fun v9 e9 => ?_)
  obtain rfl : v9 = 18 := e9.trans (by decide +kernel)
  refine va_put (D := (dC, dI)) (ci := 10) (v := .int 18) (ty := tyX10 1) (C := RX10) (T := TX10) (N := 9) hx hb hts inX10 tyX10 tyX10_ok nmX10 hown hK hP hD hS 1 rfl rfl 1 (by decide) (hts (.fieldLink RX10 14 "ChipFlow$Text" "length" "I") wd_379) (fun _ h9 => h9) rfl (by decide +kernel) rfl rfl (by rw [h_tx.1]; decide) dX10_append_36 (fun H locs hP hD hS => ?_)
  obtain ⟨fs_8, e9⟩ : ∃ z, z = fs_4.set 1 (.int 18) := ⟨_, rfl⟩
  have h_tx : fx fs_8 9 [(0, .ref bt), (1, .int 18), (2, .int 0), (3, .int 0), (4, .int 0), (6, .int 0), (7, .int 0), (8, .int 0)] := by rw [e9]; exact (h_tx.put (F' := [(1, .int 18), (0, .ref bt), (2, .int 0), (3, .int 0), (4, .int 0), (6, .int 0), (7, .int 0), (8, .int 0)]) (by decide) _ rfl).sub [1, 0, 2, 3, 4, 5, 6, 7] rfl
  have hP : va_P (dC, dI) CL [(x, .inr (12, xg)), (tx, .inr (10, fs_8)), (bt, .inl (btC, (65536, .inl f_7))), (oA, .inl (oAC, (1, .inr (.inl oAf))))] H := by rw [e9]; exact hP
  have hD : va_D A [(x, .inr (12, xg)), (tx, .inr (10, fs_8)), (bt, .inl (btC, (65536, .inl f_7))), (oA, .inl (oAC, (1, .inr (.inl oAf))))] := by rw [e9]; exact hD
  clear e9
  refine lv_iinc (v := 8) (lv' := [(2, .int 8), (0, .ref tx), (1, .int p4)]) hx hb dX10_append_39 hl (k := 0) rfl (by decide +kernel) (by decide) rfl (fun ls hl => ?_)
  refine lv_goto (tgt := 3) hx hb dX10_append_42 (by decide) ?_
  refine lv_iload_n hx hb dX10_append_3 rfl (lv_at hl 0 rfl) ?_
  refine lv_if_lt (tgt := 45) hx hb dX10_append_4 (by decide) (fun c9 => ?_) (fun c9 => ?_)
  · first | exact absurd c9 (by decide +kernel) | exact absurd (by decide +kernel) c9
  refine lv_aload_n hx hb dX10_append_7 rfl (lv_at hl 1 rfl) ?_
  refine va_get (D := (dC, dI)) (ci := 10) (v := .int 18) (C := RX10) (T := TX10) (N := 9) hx hb hts inX10 hown hK hP 1 rfl rfl 1 (by decide) (hts (.fieldLink RX10 14 "ChipFlow$Text" "length" "I") wd_379) (fun _ h9 => h9) (h_tx.get 1 rfl) dX10_append_8 ?_
  refine lv_ldc (v := 65536) hx hb hown (hts _ wd_376) dX10_append_11 ?_
  refine lv_icmp_ge (tgt := 39) hx hb dX10_append_13 (by decide) (fun c9 => ?_) (fun c9 => ?_)
  · first | exact absurd c9 (by decide +kernel) | exact absurd (by decide +kernel) c9
  refine lv_aload_n hx hb dX10_append_16 rfl (lv_at hl 1 rfl) ?_
  refine va_get (D := (dC, dI)) (ci := 10) (v := .ref bt) (C := RX10) (T := TX10) (N := 9) hx hb hts inX10 hown hK hP 1 rfl rfl 0 (by decide) (hts (.fieldLink RX10 10 "ChipFlow$Text" "bytes" "[B") wd_377) (fun _ h9 => h9) (h_tx.get 0 rfl) dX10_append_17 ?_
  refine lv_aload_n hx hb dX10_append_20 rfl (lv_at hl 1 rfl) ?_
  refine va_get (D := (dC, dI)) (ci := 10) (v := .int 18) (C := RX10) (T := TX10) (N := 9) hx hb hts inX10 hown hK hP 1 rfl rfl 1 (by decide) (hts (.fieldLink RX10 14 "ChipFlow$Text" "length" "I") wd_379) (fun _ h9 => h9) (h_tx.get 1 rfl) dX10_append_21 ?_
  refine lv_iload_n hx hb dX10_append_24 rfl (lv_at hl 2 rfl) ?_
  refine lv_iload_n hx hb dX10_append_25 rfl (lv_at hl 0 rfl) ?_
  refine lv_ishr hx hb dX10_append_26 ?_
  refine lv_topi (fun v_9 _ => ?_)
  refine lv_i2b hx hb dX10_append_27 rfl ?_
  refine lv_topi (fun v_10 _ => ?_)
  refine va_bast hx hb hK hP hD hS 2 0 rfl rfl (vp_in_nI (n := 18) (N := 65536) (by decide) (by decide)) dX10_append_28 (fun H locs hP hD hS => ?_)
  obtain ⟨f_11, e9⟩ : ∃ z, z = upd f_7 (18 : Int32).toNatClampNeg (vp_nar .byte v_10) := ⟨_, rfl⟩
  have h_bt : fa f_11 [] := by rw [e9, show (18 : Int32).toNatClampNeg = 18 by decide +kernel]; exact (fa.lose h_bt).sub [] rfl
  have hP : va_P (dC, dI) CL [(x, .inr (12, xg)), (tx, .inr (10, fs_8)), (bt, .inl (btC, (65536, .inl f_11))), (oA, .inl (oAC, (1, .inr (.inl oAf))))] H := by rw [e9]; exact hP
  have hD : va_D A [(x, .inr (12, xg)), (tx, .inr (10, fs_8)), (bt, .inl (btC, (65536, .inl f_11))), (oA, .inl (oAC, (1, .inr (.inl oAf))))] := by rw [e9]; exact hD
  clear e9
  refine lv_aload_n hx hb dX10_append_29 rfl (lv_at hl 1 rfl) ?_
  refine lv_dup hx hb dX10_append_30 rfl ?_
  refine va_get (D := (dC, dI)) (ci := 10) (v := .int 18) (C := RX10) (T := TX10) (N := 9) hx hb hts inX10 hown hK hP 1 rfl rfl 1 (by decide) (hts (.fieldLink RX10 14 "ChipFlow$Text" "length" "I") wd_379) (fun _ h9 => h9) (h_tx.get 1 rfl) dX10_append_31 ?_
  refine lv_iconst (v := 1) hx hb dX10_append_34 (by decide +kernel) ?_
  refine lv_iadd hx hb dX10_append_35 ?_
  refine lv_topi (fun v9 e9 => ?_)
  obtain rfl : v9 = 19 := e9.trans (by decide +kernel)
  refine va_put (D := (dC, dI)) (ci := 10) (v := .int 19) (ty := tyX10 1) (C := RX10) (T := TX10) (N := 9) hx hb hts inX10 tyX10 tyX10_ok nmX10 hown hK hP hD hS 1 rfl rfl 1 (by decide) (hts (.fieldLink RX10 14 "ChipFlow$Text" "length" "I") wd_379) (fun _ h9 => h9) rfl (by decide +kernel) rfl rfl (by rw [h_tx.1]; decide) dX10_append_36 (fun H locs hP hD hS => ?_)
  obtain ⟨fs_12, e9⟩ : ∃ z, z = fs_8.set 1 (.int 19) := ⟨_, rfl⟩
  have h_tx : fx fs_12 9 [(0, .ref bt), (1, .int 19), (2, .int 0), (3, .int 0), (4, .int 0), (6, .int 0), (7, .int 0), (8, .int 0)] := by rw [e9]; exact (h_tx.put (F' := [(1, .int 19), (0, .ref bt), (2, .int 0), (3, .int 0), (4, .int 0), (6, .int 0), (7, .int 0), (8, .int 0)]) (by decide) _ rfl).sub [1, 0, 2, 3, 4, 5, 6, 7] rfl
  have hP : va_P (dC, dI) CL [(x, .inr (12, xg)), (tx, .inr (10, fs_12)), (bt, .inl (btC, (65536, .inl f_11))), (oA, .inl (oAC, (1, .inr (.inl oAf))))] H := by rw [e9]; exact hP
  have hD : va_D A [(x, .inr (12, xg)), (tx, .inr (10, fs_12)), (bt, .inl (btC, (65536, .inl f_11))), (oA, .inl (oAC, (1, .inr (.inl oAf))))] := by rw [e9]; exact hD
  clear e9
  refine lv_iinc (v := 0) (lv' := [(2, .int 0), (0, .ref tx), (1, .int p4)]) hx hb dX10_append_39 hl (k := 0) rfl (by decide +kernel) (by decide) rfl (fun ls hl => ?_)
  refine lv_goto (tgt := 3) hx hb dX10_append_42 (by decide) ?_
  refine lv_iload_n hx hb dX10_append_3 rfl (lv_at hl 0 rfl) ?_
  refine lv_if_lt (tgt := 45) hx hb dX10_append_4 (by decide) (fun c9 => ?_) (fun c9 => ?_)
  · first | exact absurd c9 (by decide +kernel) | exact absurd (by decide +kernel) c9
  refine lv_aload_n hx hb dX10_append_7 rfl (lv_at hl 1 rfl) ?_
  refine va_get (D := (dC, dI)) (ci := 10) (v := .int 19) (C := RX10) (T := TX10) (N := 9) hx hb hts inX10 hown hK hP 1 rfl rfl 1 (by decide) (hts (.fieldLink RX10 14 "ChipFlow$Text" "length" "I") wd_379) (fun _ h9 => h9) (h_tx.get 1 rfl) dX10_append_8 ?_
  refine lv_ldc (v := 65536) hx hb hown (hts _ wd_376) dX10_append_11 ?_
  refine lv_icmp_ge (tgt := 39) hx hb dX10_append_13 (by decide) (fun c9 => ?_) (fun c9 => ?_)
  · first | exact absurd c9 (by decide +kernel) | exact absurd (by decide +kernel) c9
  refine lv_aload_n hx hb dX10_append_16 rfl (lv_at hl 1 rfl) ?_
  refine va_get (D := (dC, dI)) (ci := 10) (v := .ref bt) (C := RX10) (T := TX10) (N := 9) hx hb hts inX10 hown hK hP 1 rfl rfl 0 (by decide) (hts (.fieldLink RX10 10 "ChipFlow$Text" "bytes" "[B") wd_377) (fun _ h9 => h9) (h_tx.get 0 rfl) dX10_append_17 ?_
  refine lv_aload_n hx hb dX10_append_20 rfl (lv_at hl 1 rfl) ?_
  refine va_get (D := (dC, dI)) (ci := 10) (v := .int 19) (C := RX10) (T := TX10) (N := 9) hx hb hts inX10 hown hK hP 1 rfl rfl 1 (by decide) (hts (.fieldLink RX10 14 "ChipFlow$Text" "length" "I") wd_379) (fun _ h9 => h9) (h_tx.get 1 rfl) dX10_append_21 ?_
  refine lv_iload_n hx hb dX10_append_24 rfl (lv_at hl 2 rfl) ?_
  refine lv_iload_n hx hb dX10_append_25 rfl (lv_at hl 0 rfl) ?_
  refine lv_ishr hx hb dX10_append_26 ?_
  refine lv_topi (fun v_13 _ => ?_)
  refine lv_i2b hx hb dX10_append_27 rfl ?_
  refine lv_topi (fun v_14 _ => ?_)
  refine va_bast hx hb hK hP hD hS 2 0 rfl rfl (vp_in_nI (n := 19) (N := 65536) (by decide) (by decide)) dX10_append_28 (fun H locs hP hD hS => ?_)
  obtain ⟨f_15, e9⟩ : ∃ z, z = upd f_11 (19 : Int32).toNatClampNeg (vp_nar .byte v_14) := ⟨_, rfl⟩
  have h_bt : fa f_15 [] := by rw [e9, show (19 : Int32).toNatClampNeg = 19 by decide +kernel]; exact (fa.lose h_bt).sub [] rfl
  have hP : va_P (dC, dI) CL [(x, .inr (12, xg)), (tx, .inr (10, fs_12)), (bt, .inl (btC, (65536, .inl f_15))), (oA, .inl (oAC, (1, .inr (.inl oAf))))] H := by rw [e9]; exact hP
  have hD : va_D A [(x, .inr (12, xg)), (tx, .inr (10, fs_12)), (bt, .inl (btC, (65536, .inl f_15))), (oA, .inl (oAC, (1, .inr (.inl oAf))))] := by rw [e9]; exact hD
  clear e9
  refine lv_aload_n hx hb dX10_append_29 rfl (lv_at hl 1 rfl) ?_
  refine lv_dup hx hb dX10_append_30 rfl ?_
  refine va_get (D := (dC, dI)) (ci := 10) (v := .int 19) (C := RX10) (T := TX10) (N := 9) hx hb hts inX10 hown hK hP 1 rfl rfl 1 (by decide) (hts (.fieldLink RX10 14 "ChipFlow$Text" "length" "I") wd_379) (fun _ h9 => h9) (h_tx.get 1 rfl) dX10_append_31 ?_
  refine lv_iconst (v := 1) hx hb dX10_append_34 (by decide +kernel) ?_
  refine lv_iadd hx hb dX10_append_35 ?_
  refine lv_topi (fun v9 e9 => ?_)
  obtain rfl : v9 = 20 := e9.trans (by decide +kernel)
  refine va_put (D := (dC, dI)) (ci := 10) (v := .int 20) (ty := tyX10 1) (C := RX10) (T := TX10) (N := 9) hx hb hts inX10 tyX10 tyX10_ok nmX10 hown hK hP hD hS 1 rfl rfl 1 (by decide) (hts (.fieldLink RX10 14 "ChipFlow$Text" "length" "I") wd_379) (fun _ h9 => h9) rfl (by decide +kernel) rfl rfl (by rw [h_tx.1]; decide) dX10_append_36 (fun H locs hP hD hS => ?_)
  obtain ⟨fs_16, e9⟩ : ∃ z, z = fs_12.set 1 (.int 20) := ⟨_, rfl⟩
  have h_tx : fx fs_16 9 [(0, .ref bt), (1, .int 20), (2, .int 0), (3, .int 0), (4, .int 0), (6, .int 0), (7, .int 0), (8, .int 0)] := by rw [e9]; exact (h_tx.put (F' := [(1, .int 20), (0, .ref bt), (2, .int 0), (3, .int 0), (4, .int 0), (6, .int 0), (7, .int 0), (8, .int 0)]) (by decide) _ rfl).sub [1, 0, 2, 3, 4, 5, 6, 7] rfl
  have hP : va_P (dC, dI) CL [(x, .inr (12, xg)), (tx, .inr (10, fs_16)), (bt, .inl (btC, (65536, .inl f_15))), (oA, .inl (oAC, (1, .inr (.inl oAf))))] H := by rw [e9]; exact hP
  have hD : va_D A [(x, .inr (12, xg)), (tx, .inr (10, fs_16)), (bt, .inl (btC, (65536, .inl f_15))), (oA, .inl (oAC, (1, .inr (.inl oAf))))] := by rw [e9]; exact hD
  clear e9
  refine lv_iinc (v := (-8)) (lv' := [(2, .int (-8)), (0, .ref tx), (1, .int p4)]) hx hb dX10_append_39 hl (k := 0) rfl (by decide +kernel) (by decide) rfl (fun ls hl => ?_)
  refine lv_goto (tgt := 3) hx hb dX10_append_42 (by decide) ?_
  refine lv_iload_n hx hb dX10_append_3 rfl (lv_at hl 0 rfl) ?_
  refine lv_if_lt (tgt := 45) hx hb dX10_append_4 (by decide) (fun c9 => ?_) (fun c9 => ?_)
  rotate_left
  · first | exact absurd c9 (by decide +kernel) | exact absurd (by decide +kernel) c9
  exact W.vret hx hb hr (fun t ht hW => ⟨⟨(), rfl, trivial, xg, fs_16, f_15, oAf, h_x, h_tx, h_bt, h_oA, by rw [ht]; exact hP, va_K.moved hW.alike hK, hD⟩, hS.F ht⟩) hS.2.2 dX10_append_45
set_option maxHeartbeats 4000000 in
set_option maxRecDepth 100000 in
theorem gx2_X12_feed (l : Launch) (hlt : l.stackTraces = false) (dC : Nat → ClassId) (dI : Nat → Nat → Nat) (sz : Nat) (p0 : Int32) (p1 : Int32) (p2 : Int32) (p3 : Int32) (p4 : Int32) (x tx bt oA : Nat) (xg : List Value) (h_x : fx xg 17 [(0, .ref tx)]) (txg : List Value) (h_tx : fx txg 9 [(0, .ref bt), (1, .int 0), (2, .int 0), (3, .int 0), (4, .int 0), (6, .int 0), (7, .int 0), (8, .int 0)]) (btC : ClassId) (btf : Nat → Int32) (h_bt : fa btf []) (oAC : ClassId) (oAf : Nat → Int64) (h_oA : fa oAf []) : Met l yX12_feed (Cond.code yX12_feed cX12_feed 6 (some .int) :: BG) ({ frames := 7, cells := 1, slots := 6, locals := 130 }) (va_Pc [.ref x, .int p0, .int p1, .int p2, .int p3, .int p4] (fun U => U.heap.size = sz ∧ va_P (dC, dI) CL [(x, .inr (12, xg)), (tx, .inr (10, txg)), (bt, .inl (btC, (65536, .inl btf))), (oA, .inl (oAC, (1, .inr (.inl oAf))))] U.heap ∧ va_K (dC, dI) CL [(btC, .byte), (oAC, .long)] U ∧ va_D (fun _ => True) [(x, .inr (12, xg)), (tx, .inr (10, txg)), (bt, .inl (btC, (65536, .inl btf))), (oA, .inl (oAC, (1, .inr (.inl oAf))))] ∧ th (va_A [(x, .inr (12, xg)), (tx, .inr (10, txg)), (bt, .inl (btC, (65536, .inl btf))), (oA, .inl (oAC, (1, .inr (.inl oAf))))] sz) U U.heap)) (va_Qi (fun (r : Int32) (_ : Unit) => r = 20) (fun _ t => ∃ (xy : List Value) (txy : List Value) (bty : Nat → Int32) (oAy : Nat → Int64), fx xy 17 [(0, .ref tx)] ∧ fx txy 9 [(0, .ref bt), (1, .int 20), (2, .int 0), (3, .int 0), (4, .int 0), (6, .int 0), (7, .int 0), (8, .int 0)] ∧ fa bty [] ∧ fa oAy [] ∧ va_P (dC, dI) CL [(x, .inr (12, xy)), (tx, .inr (10, txy)), (bt, .inl (btC, (65536, .inl bty))), (oA, .inl (oAC, (1, .inr (.inl oAy))))] t.heap ∧ va_K (dC, dI) CL [(btC, .byte), (oAC, .long)] t ∧ va_D (va_A [(x, .inr (12, xg)), (tx, .inr (10, txg)), (bt, .inl (btC, (65536, .inl btf))), (oA, .inl (oAC, (1, .inr (.inl oAf))))] sz) [(x, .inr (12, xy)), (tx, .inr (10, txy)), (bt, .inl (btC, (65536, .inl bty))), (oA, .inl (oAC, (1, .inr (.inl oAy))))]) (va_A [(x, .inr (12, xg)), (tx, .inr (10, txg)), (bt, .inl (btC, (65536, .inl btf))), (oA, .inl (oAC, (1, .inr (.inl oAf))))] sz)) 1 6 (va_A [(x, .inr (12, xg)), (tx, .inr (10, txg)), (bt, .inl (btC, (65536, .inl btf))), (oA, .inl (oAC, (1, .inr (.inl oAf))))] sz) := by
  refine Met.ofW (cc := cX12_feed) (maxL := 6) (ret := (some .int)) (by decide) rfl ?_
  intro p e s m args below meth c s₁ B hml hv
  obtain ⟨rfl, hsz, hP, hK, hD0, hth⟩ := hv
  have hx := B.exec
  have hb := B.bytes
  have hr := B.returns
  have hts : ∀ w ∈ BG, w.before _ s = true := fun w h => atoms_spec (ws := Cond.code yX12_feed cX12_feed 6 (some .int) :: BG) B.pre w (List.mem_cons_of_mem _ h)
  have hown : s.vm.findClass RX12 = some m.cls := findClass_of_methodNamed B.named
  have hlocks := B.notSynchronized
  subst hsz
  have hD := hD0.self (sz := s.heap.size)
  generalize hAe : va_A [(x, .inr (12, xg)), (tx, .inr (10, txg)), (bt, .inl (btC, (65536, .inl btf))), (oA, .inl (oAC, (1, .inr (.inl oAf))))] s.heap.size = A at hD hth ⊢
  have hA : ∀ q : Nat, s.heap.size ≤ q → A q := fun q h => by rw [← hAe]; exact Or.inr h
  have hS : va_S A s.heap s.heap [] := va_S.rf
  have hl := lv_entry ([.ref x, .int p0, .int p1, .int p2, .int p3, .int p4]) (n := 6) (Nat.le_of_ble_eq_true rfl)
  rw [lg_entry_eq]
  generalize (lg_sl ([.ref x, .int p0, .int p1, .int p2, .int p3, .int p4]) ++ List.replicate (6 - (lg_sl ([.ref x, .int p0, .int p1, .int p2, .int p3, .int p4])).length) Slot.unset).toArray = ls at hl ⊢
  have hl : lv_has ls 6 [(0, .ref x), (1, .int p0), (2, .int p1), (3, .int p2), (4, .int p3), (5, .int p4)] := hl
  obtain ⟨H, eH⟩ : ∃ z, z = s.heap := ⟨_, rfl⟩
  have hP : va_P (dC, dI) CL [(x, .inr (12, xg)), (tx, .inr (10, txg)), (bt, .inl (btC, (65536, .inl btf))), (oA, .inl (oAC, (1, .inr (.inl oAf))))] H := by rw [eH]; exact hP
  have hS : va_S A s.heap H [] := by rw [eH]; exact hS
  rw [← eH]
  refine lv_aload_n hx hb dX12_feed_0 rfl (lv_at hl 0 rfl) ?_
  refine va_get (D := (dC, dI)) (ci := 12) (v := .ref tx) (C := RX12) (T := TX12) (N := 17) hx hb hts inX12 hown hK hP 0 rfl rfl 0 (by decide) (hts (.fieldLink RX12 10 "ChipFlow" "text" "LChipFlow$Text;") wd_1178) (fun _ h9 => h9) (h_x.get 0 rfl) dX12_feed_1 ?_
  refine va_get (D := (dC, dI)) (ci := 10) (v := .int 0) (C := RX10) (T := TX10) (N := 9) hx hb hts inX10 hown hK hP 1 rfl rfl 1 (by decide) (hts (.fieldLink RX12 99 "ChipFlow$Text" "length" "I") wd_378) (fun _ h9 => h9) (h_tx.get 1 rfl) dX12_feed_4 ?_
  refine lv_bipush (v := 20) hx hb dX12_feed_7 (by decide +kernel) ?_
  refine lv_iadd hx hb dX12_feed_9 ?_
  refine lv_topi (fun v9 e9 => ?_)
  obtain rfl : v9 = 20 := e9.trans (by decide +kernel)
  refine lv_ldc (v := 65536) hx hb hown (hts _ wd_1246) dX12_feed_10 ?_
  refine lv_icmp_gt (tgt := 19) hx hb dX12_feed_12 (by decide) (fun c9 => ?_) (fun c9 => ?_)
  · first | exact absurd c9 (by decide +kernel) | exact absurd (by decide +kernel) c9
  refine lv_iconst (v := 1) hx hb dX12_feed_15 (by decide +kernel) ?_
  refine lv_goto (tgt := 20) hx hb dX12_feed_16 (by decide) ?_
  have hF0 : ∀ q, va_A [] H.size q → A q := fun q h => h.elim (fun ⟨k9, e9, h9⟩ => by simp at h9) (fun h9 => hA q (Nat.le_trans hS.1 h9))
  refine vx_callv (vx_runS (As := [.int 1]) (rest := []) ⟨hx, hb, hml, hown, hts⟩ (ct_X12_needRoom l hlt H.size 1) (cwS 1 hts (gi_S wd_1247 wd_1248 wd_327 wd_1249) rfl rfl rfl (by decide +kernel) ⟨(Nat.le_of_ble_eq_true rfl), (Nat.le_of_ble_eq_true rfl)⟩) ⟨fun a U g mk q => ⟨q.1, q.2.1, th.moved (u := U) (U := U.calling g mk a) (Vm.Alike.refl U.vm) q.2.2⟩, fun U hU hW => ⟨rfl, by rw [hU], by rw [hU]; exact ((hth.kept hS.2.1).narrow hF0).moved hW.alike⟩⟩ rfl rfl hl.1 rfl (lv_room (Nat.le_of_ble_eq_true rfl)) dX12_feed_20 ⟨(Nat.le_of_ble_eq_true rfl), (Nat.le_of_ble_eq_true rfl)⟩) hS (fun q _ h => hF0 q h) hF0 (fun q _ h => hF0 q h) (fun E ce q9 u t H1 locs ht hvm hp hB hz hk hS hce hcv hcl => absurd hp (by decide +kernel)) (fun u t H1 locs ht hvm hp hB hz hk hS => ?_)
  have hP : va_P (dC, dI) CL [(x, .inr (12, xg)), (tx, .inr (10, txg)), (bt, .inl (btC, (65536, .inl btf))), (oA, .inl (oAC, (1, .inr (.inl oAf))))] H1 := hP.kept (fun k q h9 => hk _ (vx_lt hP h9) (fun h8 => h8.elim (fun ⟨k9, e9, h7⟩ => by simp at h7) (fun h7 => absurd (vx_lt hP h9) (Nat.not_lt.mpr h7))))
  generalize H1 = H at hP hS ⊢
  refine W.widen (k := 1) (n := 6) (Nat.le_of_ble_eq_true rfl) (Nat.le_of_ble_eq_true rfl) ?_
  refine lv_aload_n hx hb dX12_feed_23 rfl (lv_at hl 0 rfl) ?_
  refine va_get (D := (dC, dI)) (ci := 12) (v := .ref tx) (C := RX12) (T := TX12) (N := 17) hx hb hts inX12 hown hK hP 0 rfl rfl 0 (by decide) (hts (.fieldLink RX12 10 "ChipFlow" "text" "LChipFlow$Text;") wd_1178) (fun _ h9 => h9) (h_x.get 0 rfl) dX12_feed_24 ?_
  refine lv_iload_n hx hb dX12_feed_27 rfl (lv_at hl 1 rfl) ?_
  have hFc := va_free (wc := [(x, .inr (12, xg)), (tx, .inr (10, txg)), (bt, .inl (btC, (65536, .inl btf))), (oA, .inl (oAC, (1, .inr (.inl oAf))))]) hD hS hA [0, 1, 2, 3] rfl
  refine va_callv (va_runV (As := [.int p0]) (rest := []) ⟨hx, hb, hml, hown, hts⟩ (gx3_X10_append l hlt dC dI _ p0 x tx bt oA xg h_x txg h_tx btC btf h_bt oAC oAf h_oA) (cwV 1 hts (gi_V wd_1316 wd_1317 wd_1318 wd_328 wd_1319) rfl rfl rfl (by decide +kernel) ⟨(Nat.le_of_ble_eq_true rfl), (Nat.le_of_ble_eq_true rfl)⟩) ⟨fun a U g mk q => by obtain ⟨q0, q1, qP, qK, qD, qT⟩ := q; exact ⟨q0, q1, qP, va_K.moved (u := U) (U := U.calling g mk a) (Vm.Alike.refl U.vm) qK, qD, th.moved (u := U) (U := U.calling g mk a) (Vm.Alike.refl U.vm) qT⟩, va_recv hK hP (ci := 10) (q0 := 1) rfl rfl, fun U hU hW => ⟨rfl, by rw [hU], by rw [hU]; exact hP, va_K.moved hW.alike hK, hD.weaken (fun _ _ _ _ => trivial), by rw [hU]; exact ((hth.kept hS.2.1).narrow hFc).moved hW.alike⟩⟩ rfl rfl hl.1 rfl (lv_room (Nat.le_of_ble_eq_true rfl)) dX12_feed_28 ⟨(Nat.le_of_ble_eq_true rfl), (Nat.le_of_ble_eq_true rfl)⟩) hS (fun q _ h => hFc q h) hFc (fun u t H1 locs ht hvm hw hB hz1 hk1 hS => ?_)
  obtain ⟨fs_1, fs_2, f_3, f_4, h_x, h_tx, h_bt, h_oA, hP1, hK1, hD1⟩ := hB
  rw [ht] at hP1
  have hD := hD1.weaken (fun k q _ h => hFc q.1 h)
  have hP := hP1
  generalize H1 = H at hP hS ⊢
  have hP : va_P (dC, dI) CL [(x, .inr (12, fs_1)), (tx, .inr (10, fs_2)), (bt, .inl (btC, (65536, .inl f_3))), (oA, .inl (oAC, (1, .inr (.inl f_4))))] H := hP
  have hD : va_D A [(x, .inr (12, fs_1)), (tx, .inr (10, fs_2)), (bt, .inl (btC, (65536, .inl f_3))), (oA, .inl (oAC, (1, .inr (.inl f_4))))] := hD
  refine lv_aload_n hx hb dX12_feed_31 rfl (lv_at hl 0 rfl) ?_
  refine va_get (D := (dC, dI)) (ci := 12) (v := .ref tx) (C := RX12) (T := TX12) (N := 17) hx hb hts inX12 hown hK hP 0 rfl rfl 0 (by decide) (hts (.fieldLink RX12 10 "ChipFlow" "text" "LChipFlow$Text;") wd_1178) (fun _ h9 => h9) (h_x.get 0 rfl) dX12_feed_32 ?_
  refine lv_iload_n hx hb dX12_feed_35 rfl (lv_at hl 2 rfl) ?_
  have hFc := va_free (wc := [(x, .inr (12, fs_1)), (tx, .inr (10, fs_2)), (bt, .inl (btC, (65536, .inl f_3))), (oA, .inl (oAC, (1, .inr (.inl f_4))))]) hD hS hA [0, 1, 2, 3] rfl
  refine va_callv (va_runV (As := [.int p1]) (rest := []) ⟨hx, hb, hml, hown, hts⟩ (gx4_X10_append l hlt dC dI _ p1 x tx bt oA fs_1 h_x fs_2 h_tx btC f_3 h_bt oAC f_4 h_oA) (cwV 1 hts (gi_V wd_1316 wd_1317 wd_1318 wd_328 wd_1319) rfl rfl rfl (by decide +kernel) ⟨(Nat.le_of_ble_eq_true rfl), (Nat.le_of_ble_eq_true rfl)⟩) ⟨fun a U g mk q => by obtain ⟨q0, q1, qP, qK, qD, qT⟩ := q; exact ⟨q0, q1, qP, va_K.moved (u := U) (U := U.calling g mk a) (Vm.Alike.refl U.vm) qK, qD, th.moved (u := U) (U := U.calling g mk a) (Vm.Alike.refl U.vm) qT⟩, va_recv hK hP (ci := 10) (q0 := 1) rfl rfl, fun U hU hW => ⟨rfl, by rw [hU], by rw [hU]; exact hP, va_K.moved hW.alike hK, hD.weaken (fun _ _ _ _ => trivial), by rw [hU]; exact ((hth.kept hS.2.1).narrow hFc).moved hW.alike⟩⟩ rfl rfl hl.1 rfl (lv_room (Nat.le_of_ble_eq_true rfl)) dX12_feed_36 ⟨(Nat.le_of_ble_eq_true rfl), (Nat.le_of_ble_eq_true rfl)⟩) hS (fun q _ h => hFc q h) hFc (fun u t H1 locs ht hvm hw hB hz1 hk1 hS => ?_)
  obtain ⟨fs_5, fs_6, f_7, f_8, h_x, h_tx, h_bt, h_oA, hP1, hK1, hD1⟩ := hB
  rw [ht] at hP1
  have hD := hD1.weaken (fun k q _ h => hFc q.1 h)
  have hP := hP1
  generalize H1 = H at hP hS ⊢
  have hP : va_P (dC, dI) CL [(x, .inr (12, fs_5)), (tx, .inr (10, fs_6)), (bt, .inl (btC, (65536, .inl f_7))), (oA, .inl (oAC, (1, .inr (.inl f_8))))] H := hP
  have hD : va_D A [(x, .inr (12, fs_5)), (tx, .inr (10, fs_6)), (bt, .inl (btC, (65536, .inl f_7))), (oA, .inl (oAC, (1, .inr (.inl f_8))))] := hD
  refine lv_aload_n hx hb dX12_feed_39 rfl (lv_at hl 0 rfl) ?_
  refine va_get (D := (dC, dI)) (ci := 12) (v := .ref tx) (C := RX12) (T := TX12) (N := 17) hx hb hts inX12 hown hK hP 0 rfl rfl 0 (by decide) (hts (.fieldLink RX12 10 "ChipFlow" "text" "LChipFlow$Text;") wd_1178) (fun _ h9 => h9) (h_x.get 0 rfl) dX12_feed_40 ?_
  refine lv_iload_n hx hb dX12_feed_43 rfl (lv_at hl 3 rfl) ?_
  have hFc := va_free (wc := [(x, .inr (12, fs_5)), (tx, .inr (10, fs_6)), (bt, .inl (btC, (65536, .inl f_7))), (oA, .inl (oAC, (1, .inr (.inl f_8))))]) hD hS hA [0, 1, 2, 3] rfl
  refine va_callv (va_runV (As := [.int p2]) (rest := []) ⟨hx, hb, hml, hown, hts⟩ (gx5_X10_append l hlt dC dI _ p2 x tx bt oA fs_5 h_x fs_6 h_tx btC f_7 h_bt oAC f_8 h_oA) (cwV 1 hts (gi_V wd_1316 wd_1317 wd_1318 wd_328 wd_1319) rfl rfl rfl (by decide +kernel) ⟨(Nat.le_of_ble_eq_true rfl), (Nat.le_of_ble_eq_true rfl)⟩) ⟨fun a U g mk q => by obtain ⟨q0, q1, qP, qK, qD, qT⟩ := q; exact ⟨q0, q1, qP, va_K.moved (u := U) (U := U.calling g mk a) (Vm.Alike.refl U.vm) qK, qD, th.moved (u := U) (U := U.calling g mk a) (Vm.Alike.refl U.vm) qT⟩, va_recv hK hP (ci := 10) (q0 := 1) rfl rfl, fun U hU hW => ⟨rfl, by rw [hU], by rw [hU]; exact hP, va_K.moved hW.alike hK, hD.weaken (fun _ _ _ _ => trivial), by rw [hU]; exact ((hth.kept hS.2.1).narrow hFc).moved hW.alike⟩⟩ rfl rfl hl.1 rfl (lv_room (Nat.le_of_ble_eq_true rfl)) dX12_feed_44 ⟨(Nat.le_of_ble_eq_true rfl), (Nat.le_of_ble_eq_true rfl)⟩) hS (fun q _ h => hFc q h) hFc (fun u t H1 locs ht hvm hw hB hz1 hk1 hS => ?_)
  obtain ⟨fs_9, fs_10, f_11, f_12, h_x, h_tx, h_bt, h_oA, hP1, hK1, hD1⟩ := hB
  rw [ht] at hP1
  have hD := hD1.weaken (fun k q _ h => hFc q.1 h)
  have hP := hP1
  generalize H1 = H at hP hS ⊢
  have hP : va_P (dC, dI) CL [(x, .inr (12, fs_9)), (tx, .inr (10, fs_10)), (bt, .inl (btC, (65536, .inl f_11))), (oA, .inl (oAC, (1, .inr (.inl f_12))))] H := hP
  have hD : va_D A [(x, .inr (12, fs_9)), (tx, .inr (10, fs_10)), (bt, .inl (btC, (65536, .inl f_11))), (oA, .inl (oAC, (1, .inr (.inl f_12))))] := hD
  refine lv_aload_n hx hb dX12_feed_47 rfl (lv_at hl 0 rfl) ?_
  refine va_get (D := (dC, dI)) (ci := 12) (v := .ref tx) (C := RX12) (T := TX12) (N := 17) hx hb hts inX12 hown hK hP 0 rfl rfl 0 (by decide) (hts (.fieldLink RX12 10 "ChipFlow" "text" "LChipFlow$Text;") wd_1178) (fun _ h9 => h9) (h_x.get 0 rfl) dX12_feed_48 ?_
  refine lv_iload hx hb dX12_feed_51 (lv_at hl 4 rfl) ?_
  have hFc := va_free (wc := [(x, .inr (12, fs_9)), (tx, .inr (10, fs_10)), (bt, .inl (btC, (65536, .inl f_11))), (oA, .inl (oAC, (1, .inr (.inl f_12))))]) hD hS hA [0, 1, 2, 3] rfl
  refine va_callv (va_runV (As := [.int p3]) (rest := []) ⟨hx, hb, hml, hown, hts⟩ (gx6_X10_append l hlt dC dI _ p3 x tx bt oA fs_9 h_x fs_10 h_tx btC f_11 h_bt oAC f_12 h_oA) (cwV 1 hts (gi_V wd_1316 wd_1317 wd_1318 wd_328 wd_1319) rfl rfl rfl (by decide +kernel) ⟨(Nat.le_of_ble_eq_true rfl), (Nat.le_of_ble_eq_true rfl)⟩) ⟨fun a U g mk q => by obtain ⟨q0, q1, qP, qK, qD, qT⟩ := q; exact ⟨q0, q1, qP, va_K.moved (u := U) (U := U.calling g mk a) (Vm.Alike.refl U.vm) qK, qD, th.moved (u := U) (U := U.calling g mk a) (Vm.Alike.refl U.vm) qT⟩, va_recv hK hP (ci := 10) (q0 := 1) rfl rfl, fun U hU hW => ⟨rfl, by rw [hU], by rw [hU]; exact hP, va_K.moved hW.alike hK, hD.weaken (fun _ _ _ _ => trivial), by rw [hU]; exact ((hth.kept hS.2.1).narrow hFc).moved hW.alike⟩⟩ rfl rfl hl.1 rfl (lv_room (Nat.le_of_ble_eq_true rfl)) dX12_feed_53 ⟨(Nat.le_of_ble_eq_true rfl), (Nat.le_of_ble_eq_true rfl)⟩) hS (fun q _ h => hFc q h) hFc (fun u t H1 locs ht hvm hw hB hz1 hk1 hS => ?_)
  obtain ⟨fs_13, fs_14, f_15, f_16, h_x, h_tx, h_bt, h_oA, hP1, hK1, hD1⟩ := hB
  rw [ht] at hP1
  have hD := hD1.weaken (fun k q _ h => hFc q.1 h)
  have hP := hP1
  generalize H1 = H at hP hS ⊢
  have hP : va_P (dC, dI) CL [(x, .inr (12, fs_13)), (tx, .inr (10, fs_14)), (bt, .inl (btC, (65536, .inl f_15))), (oA, .inl (oAC, (1, .inr (.inl f_16))))] H := hP
  have hD : va_D A [(x, .inr (12, fs_13)), (tx, .inr (10, fs_14)), (bt, .inl (btC, (65536, .inl f_15))), (oA, .inl (oAC, (1, .inr (.inl f_16))))] := hD
  refine lv_aload_n hx hb dX12_feed_56 rfl (lv_at hl 0 rfl) ?_
  refine va_get (D := (dC, dI)) (ci := 12) (v := .ref tx) (C := RX12) (T := TX12) (N := 17) hx hb hts inX12 hown hK hP 0 rfl rfl 0 (by decide) (hts (.fieldLink RX12 10 "ChipFlow" "text" "LChipFlow$Text;") wd_1178) (fun _ h9 => h9) (h_x.get 0 rfl) dX12_feed_57 ?_
  refine lv_iload hx hb dX12_feed_60 (lv_at hl 5 rfl) ?_
  have hFc := va_free (wc := [(x, .inr (12, fs_13)), (tx, .inr (10, fs_14)), (bt, .inl (btC, (65536, .inl f_15))), (oA, .inl (oAC, (1, .inr (.inl f_16))))]) hD hS hA [0, 1, 2, 3] rfl
  refine va_callv (va_runV (As := [.int p4]) (rest := []) ⟨hx, hb, hml, hown, hts⟩ (gx7_X10_append l hlt dC dI _ p4 x tx bt oA fs_13 h_x fs_14 h_tx btC f_15 h_bt oAC f_16 h_oA) (cwV 1 hts (gi_V wd_1316 wd_1317 wd_1318 wd_328 wd_1319) rfl rfl rfl (by decide +kernel) ⟨(Nat.le_of_ble_eq_true rfl), (Nat.le_of_ble_eq_true rfl)⟩) ⟨fun a U g mk q => by obtain ⟨q0, q1, qP, qK, qD, qT⟩ := q; exact ⟨q0, q1, qP, va_K.moved (u := U) (U := U.calling g mk a) (Vm.Alike.refl U.vm) qK, qD, th.moved (u := U) (U := U.calling g mk a) (Vm.Alike.refl U.vm) qT⟩, va_recv hK hP (ci := 10) (q0 := 1) rfl rfl, fun U hU hW => ⟨rfl, by rw [hU], by rw [hU]; exact hP, va_K.moved hW.alike hK, hD.weaken (fun _ _ _ _ => trivial), by rw [hU]; exact ((hth.kept hS.2.1).narrow hFc).moved hW.alike⟩⟩ rfl rfl hl.1 rfl (lv_room (Nat.le_of_ble_eq_true rfl)) dX12_feed_62 ⟨(Nat.le_of_ble_eq_true rfl), (Nat.le_of_ble_eq_true rfl)⟩) hS (fun q _ h => hFc q h) hFc (fun u t H1 locs ht hvm hw hB hz1 hk1 hS => ?_)
  obtain ⟨fs_17, fs_18, f_19, f_20, h_x, h_tx, h_bt, h_oA, hP1, hK1, hD1⟩ := hB
  rw [ht] at hP1
  have hD := hD1.weaken (fun k q _ h => hFc q.1 h)
  have hP := hP1
  generalize H1 = H at hP hS ⊢
  have hP : va_P (dC, dI) CL [(x, .inr (12, fs_17)), (tx, .inr (10, fs_18)), (bt, .inl (btC, (65536, .inl f_19))), (oA, .inl (oAC, (1, .inr (.inl f_20))))] H := hP
  have hD : va_D A [(x, .inr (12, fs_17)), (tx, .inr (10, fs_18)), (bt, .inl (btC, (65536, .inl f_19))), (oA, .inl (oAC, (1, .inr (.inl f_20))))] := hD
  refine lv_aload_n hx hb dX12_feed_65 rfl (lv_at hl 0 rfl) ?_
  refine va_get (D := (dC, dI)) (ci := 12) (v := .ref tx) (C := RX12) (T := TX12) (N := 17) hx hb hts inX12 hown hK hP 0 rfl rfl 0 (by decide) (hts (.fieldLink RX12 10 "ChipFlow" "text" "LChipFlow$Text;") wd_1178) (fun _ h9 => h9) (h_x.get 0 rfl) dX12_feed_66 ?_
  refine va_get (D := (dC, dI)) (ci := 10) (v := .int 20) (C := RX10) (T := TX10) (N := 9) hx hb hts inX10 hown hK hP 1 rfl rfl 1 (by decide) (hts (.fieldLink RX12 99 "ChipFlow$Text" "length" "I") wd_378) (fun _ h9 => h9) (h_tx.get 1 rfl) dX12_feed_69 ?_
  refine W.widen (k := 1) (n := 6) (Nat.le_of_ble_eq_true rfl) (Nat.le_of_ble_eq_true rfl) ?_
  exact W.iret (v := 20) hx hb hr (fun t ht hW => ⟨⟨20, (), rfl, rfl, fs_17, fs_18, f_19, f_20, h_x, h_tx, h_bt, h_oA, by rw [ht]; exact hP, va_K.moved hW.alike hK, hD⟩, hS.F ht⟩) hS.2.2 dX12_feed_72
set_option maxHeartbeats 4000000 in
set_option maxRecDepth 100000 in
theorem gx1_L_feed (l : Launch) (hlt : l.stackTraces = false) (dC : Nat → ClassId) (dI : Nat → Nat → Nat) (sz : Nat) (p0 : Int32) (p1 : Int32) (p2 : Int32) (p3 : Int32) (p4 : Int32) (x tx bt oA : Nat) (xg : List Value) (h_x : fx xg 17 [(0, .ref tx)]) (txg : List Value) (h_tx : fx txg 9 [(0, .ref bt), (1, .int 0), (2, .int 0), (3, .int 0), (4, .int 0), (6, .int 0), (7, .int 0), (8, .int 0)]) (btC : ClassId) (btf : Nat → Int32) (h_bt : fa btf []) (oAC : ClassId) (oAf : Nat → Int64) (h_oA : fa oAf []) : Met l yL_feed (Cond.codeWith yL_feed cL_feed 8 (some .int) [(0, 16, 19, 13)] :: BG) ({ frames := 8, cells := 1, slots := 6, locals := 155 }) (va_Pc [.ref x, .int p0, .int p1, .int p2, .int p3, .int p4, .ref oA] (fun U => U.heap.size = sz ∧ va_P (dC, dI) CL [(x, .inr (12, xg)), (tx, .inr (10, txg)), (bt, .inl (btC, (65536, .inl btf))), (oA, .inl (oAC, (1, .inr (.inl oAf))))] U.heap ∧ va_K (dC, dI) CL [(btC, .byte), (oAC, .long)] U ∧ va_D (fun _ => True) [(x, .inr (12, xg)), (tx, .inr (10, txg)), (bt, .inl (btC, (65536, .inl btf))), (oA, .inl (oAC, (1, .inr (.inl oAf))))] ∧ th (va_A [(x, .inr (12, xg)), (tx, .inr (10, txg)), (bt, .inl (btC, (65536, .inl btf))), (oA, .inl (oAC, (1, .inr (.inl oAf))))] sz) U U.heap)) (va_Qi (fun (r : Int32) (_ : Unit) => r = 0) (fun _ t => ∃ (xy : List Value) (txy : List Value) (bty : Nat → Int32) (oAy : Nat → Int64), fx xy 17 [(0, .ref tx)] ∧ fx txy 9 [(0, .ref bt), (1, .int 20), (2, .int 0), (3, .int 0), (4, .int 0), (6, .int 0), (7, .int 0), (8, .int 0)] ∧ fa bty [] ∧ fa oAy [(0, 20)] ∧ va_P (dC, dI) CL [(x, .inr (12, xy)), (tx, .inr (10, txy)), (bt, .inl (btC, (65536, .inl bty))), (oA, .inl (oAC, (1, .inr (.inl oAy))))] t.heap ∧ va_K (dC, dI) CL [(btC, .byte), (oAC, .long)] t ∧ va_D (va_A [(x, .inr (12, xg)), (tx, .inr (10, txg)), (bt, .inl (btC, (65536, .inl btf))), (oA, .inl (oAC, (1, .inr (.inl oAf))))] sz) [(x, .inr (12, xy)), (tx, .inr (10, txy)), (bt, .inl (btC, (65536, .inl bty))), (oA, .inl (oAC, (1, .inr (.inl oAy))))]) (va_A [(x, .inr (12, xg)), (tx, .inr (10, txg)), (bt, .inl (btC, (65536, .inl btf))), (oA, .inl (oAC, (1, .inr (.inl oAf))))] sz)) 1 6 (va_A [(x, .inr (12, xg)), (tx, .inr (10, txg)), (bt, .inl (btC, (65536, .inl btf))), (oA, .inl (oAC, (1, .inr (.inl oAf))))] sz) := by
  refine va_MetW (hh := [(0, 16, 19, 13)]) (cc := cL_feed) (maxL := 8) (ret := (some .int)) (by decide) rfl ?_
  intro p e s m args below meth c s₁ B hml hv
  obtain ⟨rfl, hsz, hP, hK, hD0, hth⟩ := hv
  have hx := B.exec
  have hb := B.bytes
  have hr := B.returns
  have hts : ∀ w ∈ BG, w.before _ s = true := fun w h => atoms_spec (ws := Cond.codeWith yL_feed cL_feed 8 (some .int) [(0, 16, 19, 13)] :: BG) B.pre w (List.mem_cons_of_mem _ h)
  have hown : s.vm.findClass RL = some m.cls := findClass_of_methodNamed B.named
  have hlocks := B.notSynchronized
  subst hsz
  have hD := hD0.self (sz := s.heap.size)
  generalize hAe : va_A [(x, .inr (12, xg)), (tx, .inr (10, txg)), (bt, .inl (btC, (65536, .inl btf))), (oA, .inl (oAC, (1, .inr (.inl oAf))))] s.heap.size = A at hD hth ⊢
  have hA : ∀ q : Nat, s.heap.size ≤ q → A q := fun q h => by rw [← hAe]; exact Or.inr h
  have hS : va_S A s.heap s.heap [] := va_S.rf
  have hl := lv_entry ([.ref x, .int p0, .int p1, .int p2, .int p3, .int p4, .ref oA]) (n := 8) (Nat.le_of_ble_eq_true rfl)
  rw [lg_entry_eq]
  generalize (lg_sl ([.ref x, .int p0, .int p1, .int p2, .int p3, .int p4, .ref oA]) ++ List.replicate (8 - (lg_sl ([.ref x, .int p0, .int p1, .int p2, .int p3, .int p4, .ref oA])).length) Slot.unset).toArray = ls at hl ⊢
  have hl : lv_has ls 8 [(0, .ref x), (1, .int p0), (2, .int p1), (3, .int p2), (4, .int p3), (5, .int p4), (6, .ref oA)] := hl
  obtain ⟨H, eH⟩ : ∃ z, z = s.heap := ⟨_, rfl⟩
  have hP : va_P (dC, dI) CL [(x, .inr (12, xg)), (tx, .inr (10, txg)), (bt, .inl (btC, (65536, .inl btf))), (oA, .inl (oAC, (1, .inr (.inl oAf))))] H := by rw [eH]; exact hP
  have hS : va_S A s.heap H [] := by rw [eH]; exact hS
  rw [← eH]
  have hT : c.exceptionTable.toList = tableOf [(0, 16, 19, 13)] := vx_table (x := yL_feed) B (atoms_spec (ws := Cond.codeWith yL_feed cL_feed 8 (some .int) [(0, 16, 19, 13)] :: BG) B.pre _ List.mem_cons_self)
  refine lv_aload hx hb dL_feed_0 (lv_at hl 6 rfl) ?_
  refine lv_iconst (v := 0) hx hb dL_feed_2 (by decide +kernel) ?_
  refine lv_aload_n hx hb dL_feed_3 rfl (lv_at hl 0 rfl) ?_
  refine lv_iload_n hx hb dL_feed_4 rfl (lv_at hl 1 rfl) ?_
  refine lv_iload_n hx hb dL_feed_5 rfl (lv_at hl 2 rfl) ?_
  refine lv_iload_n hx hb dL_feed_6 rfl (lv_at hl 3 rfl) ?_
  refine lv_iload hx hb dL_feed_7 (lv_at hl 4 rfl) ?_
  refine lv_iload hx hb dL_feed_9 (lv_at hl 5 rfl) ?_
  have hFc := va_free (wc := [(x, .inr (12, xg)), (tx, .inr (10, txg)), (bt, .inl (btC, (65536, .inl btf))), (oA, .inl (oAC, (1, .inr (.inl oAf))))]) hD hS hA [0, 1, 2, 3] rfl
  refine va_calli (va_runV (As := [.int p0, .int p1, .int p2, .int p3, .int p4]) (rest := [.int 0, .ref oA]) ⟨hx, hb, hml, hown, hts⟩ (gx2_X12_feed l hlt dC dI _ p0 p1 p2 p3 p4 x tx bt oA xg h_x txg h_tx btC btf h_bt oAC oAf h_oA) (cwV 5 hts (gi_V wd_1242 wd_1243 wd_1244 wd_327 wd_1245) rfl rfl rfl (by decide +kernel) ⟨(Nat.le_of_ble_eq_true rfl), (Nat.le_of_ble_eq_true rfl)⟩) ⟨fun a U g mk q => by obtain ⟨q0, q1, qP, qK, qD, qT⟩ := q; exact ⟨q0, q1, qP, va_K.moved (u := U) (U := U.calling g mk a) (Vm.Alike.refl U.vm) qK, qD, th.moved (u := U) (U := U.calling g mk a) (Vm.Alike.refl U.vm) qT⟩, va_recv hK hP (ci := 12) (q0 := 0) rfl rfl, fun U hU hW => ⟨rfl, by rw [hU], by rw [hU]; exact hP, va_K.moved hW.alike hK, hD.weaken (fun _ _ _ _ => trivial), by rw [hU]; exact ((hth.kept hS.2.1).narrow hFc).moved hW.alike⟩⟩ rfl rfl hl.1 rfl (lv_room (Nat.le_of_ble_eq_true rfl)) dL_feed_11 ⟨(Nat.le_of_ble_eq_true rfl), (Nat.le_of_ble_eq_true rfl)⟩) hS (fun q _ h => hFc q h) hFc (fun r u t H1 locs ht hvm hw hB hz1 hk1 hS => ?_)
  subst hw
  obtain ⟨fs_1, fs_2, f_3, f_4, h_x, h_tx, h_bt, h_oA, hP1, hK1, hD1⟩ := hB
  rw [ht] at hP1
  have hD := hD1.weaken (fun k q _ h => hFc q.1 h)
  have hP := hP1
  generalize H1 = H at hP hS ⊢
  have hP : va_P (dC, dI) CL [(x, .inr (12, fs_1)), (tx, .inr (10, fs_2)), (bt, .inl (btC, (65536, .inl f_3))), (oA, .inl (oAC, (1, .inr (.inl f_4))))] H := hP
  have hD : va_D A [(x, .inr (12, fs_1)), (tx, .inr (10, fs_2)), (bt, .inl (btC, (65536, .inl f_3))), (oA, .inl (oAC, (1, .inr (.inl f_4))))] := hD
  refine W.widen (k := 1) (n := 6) (Nat.le_of_ble_eq_true rfl) (Nat.le_of_ble_eq_true rfl) ?_
  refine lv_i2l hx hb dL_feed_14 rfl ?_
  refine lv_topl (fun v9 e9 => ?_)
  obtain rfl : v9 = 20 := e9.trans (by decide +kernel)
  refine va_last hx hb hK hP hD hS 3 1 rfl rfl (vp_in_nI (n := 0) (N := 1) (by decide) (by decide)) dL_feed_15 (fun H locs hP hD hS => ?_)
  obtain ⟨f_5, e9⟩ : ∃ z, z = vp_updL f_4 (0 : Int32).toNatClampNeg 20 := ⟨_, rfl⟩
  have h_oA : fa f_5 [(0, 20)] := by rw [e9, show (0 : Int32).toNatClampNeg = 0 by decide +kernel]; exact (fa.putL h_oA).sub [0] rfl
  have hP : va_P (dC, dI) CL [(x, .inr (12, fs_1)), (tx, .inr (10, fs_2)), (bt, .inl (btC, (65536, .inl f_3))), (oA, .inl (oAC, (1, .inr (.inl f_5))))] H := by rw [e9]; exact hP
  have hD : va_D A [(x, .inr (12, fs_1)), (tx, .inr (10, fs_2)), (bt, .inl (btC, (65536, .inl f_3))), (oA, .inl (oAC, (1, .inr (.inl f_5))))] := by rw [e9]; exact hD
  clear e9
  refine lv_goto (tgt := 23) hx hb dL_feed_16 (by decide) ?_
  refine lv_iconst (v := 0) hx hb dL_feed_23 (by decide +kernel) ?_
  refine W.widen (k := 1) (n := 6) (Nat.le_of_ble_eq_true rfl) (Nat.le_of_ble_eq_true rfl) ?_
  exact W.iret (v := 0) hx hb hr (fun t ht hW => ⟨⟨0, (), rfl, rfl, fs_1, fs_2, f_3, f_5, h_x, h_tx, h_bt, h_oA, by rw [ht]; exact hP, va_K.moved hW.alike hK, hD⟩, hS.F ht⟩) hS.2.2 dL_feed_24
set_option maxHeartbeats 4000000 in
set_option maxRecDepth 100000 in
theorem gx8_X13_feed (l : Launch) (hlt : l.stackTraces = false) (dC : Nat → ClassId) (dI : Nat → Nat → Nat) (sz : Nat) (p0 : Int32) (p1 : Int32) (p2 : Int32) (p3 : Int32) (p4 : Int32) (m0 mt : Nat) (m0g : List Value) (h_m0 : fx m0g 225 [(0, .int 0), (1, .ref mt), (2, .int 0), (3, .int 0), (9, .int 0), (10, .int 0), (11, .int 0), (12, .int 0), (27, .int 0), (79, .int 0), (83, .int 0), (95, .int 0)]) (mtC : ClassId) (mtf : Nat → Int32) (h_mt : fa mtf []) : Met l yX13_feed (Cond.code yX13_feed cX13_feed 8 (some .int) :: BG) ({ frames := 1, cells := 0, slots := 0, locals := 12 }) (va_Pc [.ref m0, .int p0, .int p1, .int p2, .int p3, .int p4] (fun U => U.heap.size = sz ∧ va_P (dC, dI) CL [(m0, .inr (13, m0g)), (mt, .inl (mtC, (65536, .inl mtf)))] U.heap ∧ va_K (dC, dI) CL [(mtC, .byte)] U ∧ va_D (fun _ => True) [(m0, .inr (13, m0g)), (mt, .inl (mtC, (65536, .inl mtf)))] ∧ th (va_A [(m0, .inr (13, m0g)), (mt, .inl (mtC, (65536, .inl mtf)))] sz) U U.heap)) (va_Qi (fun (r : Int32) (_ : Unit) => r = 20) (fun _ t => ∃ (m0y : List Value) (mty : Nat → Int32), fx m0y 225 [(0, .int 0), (1, .ref mt), (2, .int 20), (3, .int 0), (9, .int 0), (10, .int 0), (11, .int 0), (12, .int 0), (27, .int 0), (79, .int 0), (83, .int 0), (95, .int 0)] ∧ fa mty [] ∧ va_P (dC, dI) CL [(m0, .inr (13, m0y)), (mt, .inl (mtC, (65536, .inl mty)))] t.heap ∧ va_K (dC, dI) CL [(mtC, .byte)] t ∧ va_D (va_A [(m0, .inr (13, m0g)), (mt, .inl (mtC, (65536, .inl mtf)))] sz) [(m0, .inr (13, m0y)), (mt, .inl (mtC, (65536, .inl mty)))]) (va_A [(m0, .inr (13, m0g)), (mt, .inl (mtC, (65536, .inl mtf)))] sz)) 0 0 (va_A [(m0, .inr (13, m0g)), (mt, .inl (mtC, (65536, .inl mtf)))] sz) := by
  refine Met.ofW (cc := cX13_feed) (maxL := 8) (ret := (some .int)) (by decide) rfl ?_
  intro p e s m args below meth c s₁ B hml hv
  obtain ⟨rfl, hsz, hP, hK, hD0, hth⟩ := hv
  have hx := B.exec
  have hb := B.bytes
  have hr := B.returns
  have hts : ∀ w ∈ BG, w.before _ s = true := fun w h => atoms_spec (ws := Cond.code yX13_feed cX13_feed 8 (some .int) :: BG) B.pre w (List.mem_cons_of_mem _ h)
  have hown : s.vm.findClass RX13 = some m.cls := findClass_of_methodNamed B.named
  have hlocks := B.notSynchronized
  subst hsz
  have hD := hD0.self (sz := s.heap.size)
  generalize hAe : va_A [(m0, .inr (13, m0g)), (mt, .inl (mtC, (65536, .inl mtf)))] s.heap.size = A at hD hth ⊢
  have hA : ∀ q : Nat, s.heap.size ≤ q → A q := fun q h => by rw [← hAe]; exact Or.inr h
  have hS : va_S A s.heap s.heap [] := va_S.rf
  have hl := lv_entry ([.ref m0, .int p0, .int p1, .int p2, .int p3, .int p4]) (n := 8) (Nat.le_of_ble_eq_true rfl)
  rw [lg_entry_eq]
  generalize (lg_sl ([.ref m0, .int p0, .int p1, .int p2, .int p3, .int p4]) ++ List.replicate (8 - (lg_sl ([.ref m0, .int p0, .int p1, .int p2, .int p3, .int p4])).length) Slot.unset).toArray = ls at hl ⊢
  have hl : lv_has ls 8 [(0, .ref m0), (1, .int p0), (2, .int p1), (3, .int p2), (4, .int p3), (5, .int p4)] := hl
  obtain ⟨H, eH⟩ : ∃ z, z = s.heap := ⟨_, rfl⟩
  have hP : va_P (dC, dI) CL [(m0, .inr (13, m0g)), (mt, .inl (mtC, (65536, .inl mtf)))] H := by rw [eH]; exact hP
  have hS : va_S A s.heap H [] := by rw [eH]; exact hS
  rw [← eH]
  refine lv_aload_n hx hb dX13_feed_0 rfl (lv_at hl 0 rfl) ?_
  refine lv_aload_n hx hb dX13_feed_1 rfl (lv_at hl 0 rfl) ?_
  refine va_get (D := (dC, dI)) (ci := 13) (v := .int 0) (C := RX13) (T := TX13) (N := 225) hx hb hts inX13 hown hK hP 0 rfl rfl 2 (by decide) (hts (.fieldLink RX13 555 "ChipFlowModel" "size" "I") wd_3034) (fun _ h9 => h9) (h_m0.get 2 rfl) dX13_feed_2 ?_
  refine lv_bipush (v := 20) hx hb dX13_feed_5 (by decide +kernel) ?_
  refine lv_iadd hx hb dX13_feed_7 ?_
  refine lv_topi (fun v9 e9 => ?_)
  obtain rfl : v9 = 20 := e9.trans (by decide +kernel)
  refine lv_ldc (v := 65536) hx hb hown (hts _ wd_3025) dX13_feed_8 ?_
  refine lv_icmp_le (tgt := 17) hx hb dX13_feed_10 (by decide) (fun c9 => ?_) (fun c9 => ?_)
  rotate_left
  · first | exact absurd c9 (by decide +kernel) | exact absurd (by decide +kernel) c9
  refine lv_iconst (v := 0) hx hb dX13_feed_17 (by decide +kernel) ?_
  refine va_put (D := (dC, dI)) (ci := 13) (v := .int 0) (ty := tyX13 0) (C := RX13) (T := TX13) (N := 225) hx hb hts inX13 tyX13 tyX13_ok nmX13 hown hK hP hD hS 0 rfl rfl 0 (by decide) (hts (.fieldLink RX13 1 "ChipFlowModel" "code" "I") wd_3032) (fun _ h9 => h9) rfl (by decide +kernel) rfl rfl (by rw [h_m0.1]; decide) dX13_feed_18 (fun H locs hP hD hS => ?_)
  obtain ⟨fs_1, e9⟩ : ∃ z, z = m0g.set 0 (.int 0) := ⟨_, rfl⟩
  have h_m0 : fx fs_1 225 [(0, .int 0), (1, .ref mt), (2, .int 0), (3, .int 0), (9, .int 0), (10, .int 0), (11, .int 0), (12, .int 0), (27, .int 0), (79, .int 0), (83, .int 0), (95, .int 0)] := by rw [e9]; exact (h_m0.put (F' := [(0, .int 0), (1, .ref mt), (2, .int 0), (3, .int 0), (9, .int 0), (10, .int 0), (11, .int 0), (12, .int 0), (27, .int 0), (79, .int 0), (83, .int 0), (95, .int 0)]) (by decide) _ rfl).sub [0, 1, 2, 3, 4, 5, 6, 7, 8, 9, 10, 11] rfl
  have hP : va_P (dC, dI) CL [(m0, .inr (13, fs_1)), (mt, .inl (mtC, (65536, .inl mtf)))] H := by rw [e9]; exact hP
  have hD : va_D A [(m0, .inr (13, fs_1)), (mt, .inl (mtC, (65536, .inl mtf)))] := by rw [e9]; exact hD
  clear e9
  refine lv_aload_n hx hb dX13_feed_21 rfl (lv_at hl 0 rfl) ?_
  refine va_get (D := (dC, dI)) (ci := 13) (v := .int 0) (C := RX13) (T := TX13) (N := 225) hx hb hts inX13 hown hK hP 0 rfl rfl 0 (by decide) (hts (.fieldLink RX13 1 "ChipFlowModel" "code" "I") wd_3032) (fun _ h9 => h9) (h_m0.get 0 rfl) dX13_feed_22 ?_
  refine lv_if_le (tgt := 30) hx hb dX13_feed_25 (by decide) (fun c9 => ?_) (fun c9 => ?_)
  rotate_left
  · first | exact absurd c9 (by decide +kernel) | exact absurd (by decide +kernel) c9
  refine lv_iconst (v := 0) hx hb dX13_feed_30 (by decide +kernel) ?_
  refine lv_istore (lv' := [(6, .int 0), (0, .ref m0), (1, .int p0), (2, .int p1), (3, .int p2), (4, .int p3), (5, .int p4)]) hx hb dX13_feed_31 hl (by decide) rfl (fun ls hl => ?_)
  refine lv_iload hx hb dX13_feed_33 (lv_at hl 0 rfl) ?_
  refine lv_bipush (v := 20) hx hb dX13_feed_35 (by decide +kernel) ?_
  refine lv_icmp_ge (tgt := 127) hx hb dX13_feed_37 (by decide) (fun c9 => ?_) (fun c9 => ?_)
  · first | exact absurd c9 (by decide +kernel) | exact absurd (by decide +kernel) c9
  refine lv_iload hx hb dX13_feed_40 (lv_at hl 0 rfl) ?_
  refine lv_iconst (v := 4) hx hb dX13_feed_42 (by decide +kernel) ?_
  refine lv_icmp_ge (tgt := 50) hx hb dX13_feed_43 (by decide) (fun c9 => ?_) (fun c9 => ?_)
  · first | exact absurd c9 (by decide +kernel) | exact absurd (by decide +kernel) c9
  refine lv_iload_n hx hb dX13_feed_46 rfl (lv_at hl 2 rfl) ?_
  refine lv_goto (tgt := 86) hx hb dX13_feed_47 (by decide) ?_
  refine lv_istore (lv' := [(7, .int p0), (6, .int 0), (0, .ref m0), (1, .int p0), (2, .int p1), (3, .int p2), (4, .int p3), (5, .int p4)]) hx hb dX13_feed_86 hl (by decide) rfl (fun ls hl => ?_)
  refine lv_aload_n hx hb dX13_feed_88 rfl (lv_at hl 2 rfl) ?_
  refine va_get (D := (dC, dI)) (ci := 13) (v := .ref mt) (C := RX13) (T := TX13) (N := 225) hx hb hts inX13 hown hK hP 0 rfl rfl 1 (by decide) (hts (.fieldLink RX13 14 "ChipFlowModel" "tape" "[B") wd_3033) (fun _ h9 => h9) (h_m0.get 1 rfl) dX13_feed_89 ?_
  refine lv_aload_n hx hb dX13_feed_92 rfl (lv_at hl 2 rfl) ?_
  refine va_get (D := (dC, dI)) (ci := 13) (v := .int 0) (C := RX13) (T := TX13) (N := 225) hx hb hts inX13 hown hK hP 0 rfl rfl 2 (by decide) (hts (.fieldLink RX13 555 "ChipFlowModel" "size" "I") wd_3034) (fun _ h9 => h9) (h_m0.get 2 rfl) dX13_feed_93 ?_
  refine lv_iload hx hb dX13_feed_96 (lv_at hl 0 rfl) ?_
  refine lv_bipush (v := 24) hx hb dX13_feed_98 (by decide +kernel) ?_
  refine lv_bipush (v := 8) hx hb dX13_feed_100 (by decide +kernel) ?_
  refine lv_iload hx hb dX13_feed_102 (lv_at hl 1 rfl) ?_
  refine lv_iconst (v := 3) hx hb dX13_feed_104 (by decide +kernel) ?_
  refine lv_iand hx hb dX13_feed_105 ?_
  refine lv_topi (fun v9 e9 => ?_)
  obtain rfl : v9 = 0 := e9.trans (by decide +kernel)
  refine lv_imul hx hb dX13_feed_106 ?_
  refine lv_topi (fun v9 e9 => ?_)
  obtain rfl : v9 = 0 := e9.trans (by decide +kernel)
  refine lv_isub hx hb dX13_feed_107 ?_
  refine lv_topi (fun v9 e9 => ?_)
  obtain rfl : v9 = 24 := e9.trans (by decide +kernel)
  refine lv_ishr hx hb dX13_feed_108 ?_
  refine lv_topi (fun v_2 _ => ?_)
  refine lv_i2b hx hb dX13_feed_109 rfl ?_
  refine lv_topi (fun v_3 _ => ?_)
  refine va_bast hx hb hK hP hD hS 1 0 rfl rfl (vp_in_nI (n := 0) (N := 65536) (by decide) (by decide)) dX13_feed_110 (fun H locs hP hD hS => ?_)
  obtain ⟨f_4, e9⟩ : ∃ z, z = upd mtf (0 : Int32).toNatClampNeg (vp_nar .byte v_3) := ⟨_, rfl⟩
  have h_mt : fa f_4 [] := by rw [e9, show (0 : Int32).toNatClampNeg = 0 by decide +kernel]; exact (fa.lose h_mt).sub [] rfl
  have hP : va_P (dC, dI) CL [(m0, .inr (13, fs_1)), (mt, .inl (mtC, (65536, .inl f_4)))] H := by rw [e9]; exact hP
  have hD : va_D A [(m0, .inr (13, fs_1)), (mt, .inl (mtC, (65536, .inl f_4)))] := by rw [e9]; exact hD
  clear e9
  refine lv_aload_n hx hb dX13_feed_111 rfl (lv_at hl 2 rfl) ?_
  refine lv_dup hx hb dX13_feed_112 rfl ?_
  refine va_get (D := (dC, dI)) (ci := 13) (v := .int 0) (C := RX13) (T := TX13) (N := 225) hx hb hts inX13 hown hK hP 0 rfl rfl 2 (by decide) (hts (.fieldLink RX13 555 "ChipFlowModel" "size" "I") wd_3034) (fun _ h9 => h9) (h_m0.get 2 rfl) dX13_feed_113 ?_
  refine lv_iconst (v := 1) hx hb dX13_feed_116 (by decide +kernel) ?_
  refine lv_iadd hx hb dX13_feed_117 ?_
  refine lv_topi (fun v9 e9 => ?_)
  obtain rfl : v9 = 1 := e9.trans (by decide +kernel)
  refine va_put (D := (dC, dI)) (ci := 13) (v := .int 1) (ty := tyX13 2) (C := RX13) (T := TX13) (N := 225) hx hb hts inX13 tyX13 tyX13_ok nmX13 hown hK hP hD hS 0 rfl rfl 2 (by decide) (hts (.fieldLink RX13 555 "ChipFlowModel" "size" "I") wd_3034) (fun _ h9 => h9) rfl (by decide +kernel) rfl rfl (by rw [h_m0.1]; decide) dX13_feed_118 (fun H locs hP hD hS => ?_)
  obtain ⟨fs_5, e9⟩ : ∃ z, z = fs_1.set 2 (.int 1) := ⟨_, rfl⟩
  have h_m0 : fx fs_5 225 [(0, .int 0), (1, .ref mt), (2, .int 1), (3, .int 0), (9, .int 0), (10, .int 0), (11, .int 0), (12, .int 0), (27, .int 0), (79, .int 0), (83, .int 0), (95, .int 0)] := by rw [e9]; exact (h_m0.put (F' := [(2, .int 1), (0, .int 0), (1, .ref mt), (3, .int 0), (9, .int 0), (10, .int 0), (11, .int 0), (12, .int 0), (27, .int 0), (79, .int 0), (83, .int 0), (95, .int 0)]) (by decide) _ rfl).sub [1, 2, 0, 3, 4, 5, 6, 7, 8, 9, 10, 11] rfl
  have hP : va_P (dC, dI) CL [(m0, .inr (13, fs_5)), (mt, .inl (mtC, (65536, .inl f_4)))] H := by rw [e9]; exact hP
  have hD : va_D A [(m0, .inr (13, fs_5)), (mt, .inl (mtC, (65536, .inl f_4)))] := by rw [e9]; exact hD
  clear e9
  refine lv_iinc (v := 1) (lv' := [(6, .int 1), (7, .int p0), (0, .ref m0), (1, .int p0), (2, .int p1), (3, .int p2), (4, .int p3), (5, .int p4)]) hx hb dX13_feed_121 hl (k := 1) rfl (by decide +kernel) (by decide) rfl (fun ls hl => ?_)
  refine lv_goto (tgt := 33) hx hb dX13_feed_124 (by decide) ?_
  refine lv_iload hx hb dX13_feed_33 (lv_at hl 0 rfl) ?_
  refine lv_bipush (v := 20) hx hb dX13_feed_35 (by decide +kernel) ?_
  refine lv_icmp_ge (tgt := 127) hx hb dX13_feed_37 (by decide) (fun c9 => ?_) (fun c9 => ?_)
  · first | exact absurd c9 (by decide +kernel) | exact absurd (by decide +kernel) c9
  refine lv_iload hx hb dX13_feed_40 (lv_at hl 0 rfl) ?_
  refine lv_iconst (v := 4) hx hb dX13_feed_42 (by decide +kernel) ?_
  refine lv_icmp_ge (tgt := 50) hx hb dX13_feed_43 (by decide) (fun c9 => ?_) (fun c9 => ?_)
  · first | exact absurd c9 (by decide +kernel) | exact absurd (by decide +kernel) c9
  refine lv_iload_n hx hb dX13_feed_46 rfl (lv_at hl 3 rfl) ?_
  refine lv_goto (tgt := 86) hx hb dX13_feed_47 (by decide) ?_
  refine lv_istore (lv' := [(7, .int p0), (6, .int 1), (0, .ref m0), (1, .int p0), (2, .int p1), (3, .int p2), (4, .int p3), (5, .int p4)]) hx hb dX13_feed_86 hl (by decide) rfl (fun ls hl => ?_)
  refine lv_aload_n hx hb dX13_feed_88 rfl (lv_at hl 2 rfl) ?_
  refine va_get (D := (dC, dI)) (ci := 13) (v := .ref mt) (C := RX13) (T := TX13) (N := 225) hx hb hts inX13 hown hK hP 0 rfl rfl 1 (by decide) (hts (.fieldLink RX13 14 "ChipFlowModel" "tape" "[B") wd_3033) (fun _ h9 => h9) (h_m0.get 1 rfl) dX13_feed_89 ?_
  refine lv_aload_n hx hb dX13_feed_92 rfl (lv_at hl 2 rfl) ?_
  refine va_get (D := (dC, dI)) (ci := 13) (v := .int 1) (C := RX13) (T := TX13) (N := 225) hx hb hts inX13 hown hK hP 0 rfl rfl 2 (by decide) (hts (.fieldLink RX13 555 "ChipFlowModel" "size" "I") wd_3034) (fun _ h9 => h9) (h_m0.get 2 rfl) dX13_feed_93 ?_
  refine lv_iload hx hb dX13_feed_96 (lv_at hl 0 rfl) ?_
  refine lv_bipush (v := 24) hx hb dX13_feed_98 (by decide +kernel) ?_
  refine lv_bipush (v := 8) hx hb dX13_feed_100 (by decide +kernel) ?_
  refine lv_iload hx hb dX13_feed_102 (lv_at hl 1 rfl) ?_
  refine lv_iconst (v := 3) hx hb dX13_feed_104 (by decide +kernel) ?_
  refine lv_iand hx hb dX13_feed_105 ?_
  refine lv_topi (fun v9 e9 => ?_)
  obtain rfl : v9 = 1 := e9.trans (by decide +kernel)
  refine lv_imul hx hb dX13_feed_106 ?_
  refine lv_topi (fun v9 e9 => ?_)
  obtain rfl : v9 = 8 := e9.trans (by decide +kernel)
  refine lv_isub hx hb dX13_feed_107 ?_
  refine lv_topi (fun v9 e9 => ?_)
  obtain rfl : v9 = 16 := e9.trans (by decide +kernel)
  refine lv_ishr hx hb dX13_feed_108 ?_
  refine lv_topi (fun v_6 _ => ?_)
  refine lv_i2b hx hb dX13_feed_109 rfl ?_
  refine lv_topi (fun v_7 _ => ?_)
  refine va_bast hx hb hK hP hD hS 1 0 rfl rfl (vp_in_nI (n := 1) (N := 65536) (by decide) (by decide)) dX13_feed_110 (fun H locs hP hD hS => ?_)
  obtain ⟨f_8, e9⟩ : ∃ z, z = upd f_4 (1 : Int32).toNatClampNeg (vp_nar .byte v_7) := ⟨_, rfl⟩
  have h_mt : fa f_8 [] := by rw [e9, show (1 : Int32).toNatClampNeg = 1 by decide +kernel]; exact (fa.lose h_mt).sub [] rfl
  have hP : va_P (dC, dI) CL [(m0, .inr (13, fs_5)), (mt, .inl (mtC, (65536, .inl f_8)))] H := by rw [e9]; exact hP
  have hD : va_D A [(m0, .inr (13, fs_5)), (mt, .inl (mtC, (65536, .inl f_8)))] := by rw [e9]; exact hD
  clear e9
  refine lv_aload_n hx hb dX13_feed_111 rfl (lv_at hl 2 rfl) ?_
  refine lv_dup hx hb dX13_feed_112 rfl ?_
  refine va_get (D := (dC, dI)) (ci := 13) (v := .int 1) (C := RX13) (T := TX13) (N := 225) hx hb hts inX13 hown hK hP 0 rfl rfl 2 (by decide) (hts (.fieldLink RX13 555 "ChipFlowModel" "size" "I") wd_3034) (fun _ h9 => h9) (h_m0.get 2 rfl) dX13_feed_113 ?_
  refine lv_iconst (v := 1) hx hb dX13_feed_116 (by decide +kernel) ?_
  refine lv_iadd hx hb dX13_feed_117 ?_
  refine lv_topi (fun v9 e9 => ?_)
  obtain rfl : v9 = 2 := e9.trans (by decide +kernel)
  refine va_put (D := (dC, dI)) (ci := 13) (v := .int 2) (ty := tyX13 2) (C := RX13) (T := TX13) (N := 225) hx hb hts inX13 tyX13 tyX13_ok nmX13 hown hK hP hD hS 0 rfl rfl 2 (by decide) (hts (.fieldLink RX13 555 "ChipFlowModel" "size" "I") wd_3034) (fun _ h9 => h9) rfl (by decide +kernel) rfl rfl (by rw [h_m0.1]; decide) dX13_feed_118 (fun H locs hP hD hS => ?_)
  obtain ⟨fs_9, e9⟩ : ∃ z, z = fs_5.set 2 (.int 2) := ⟨_, rfl⟩
  have h_m0 : fx fs_9 225 [(0, .int 0), (1, .ref mt), (2, .int 2), (3, .int 0), (9, .int 0), (10, .int 0), (11, .int 0), (12, .int 0), (27, .int 0), (79, .int 0), (83, .int 0), (95, .int 0)] := by rw [e9]; exact (h_m0.put (F' := [(2, .int 2), (0, .int 0), (1, .ref mt), (3, .int 0), (9, .int 0), (10, .int 0), (11, .int 0), (12, .int 0), (27, .int 0), (79, .int 0), (83, .int 0), (95, .int 0)]) (by decide) _ rfl).sub [1, 2, 0, 3, 4, 5, 6, 7, 8, 9, 10, 11] rfl
  have hP : va_P (dC, dI) CL [(m0, .inr (13, fs_9)), (mt, .inl (mtC, (65536, .inl f_8)))] H := by rw [e9]; exact hP
  have hD : va_D A [(m0, .inr (13, fs_9)), (mt, .inl (mtC, (65536, .inl f_8)))] := by rw [e9]; exact hD
  clear e9
  refine lv_iinc (v := 2) (lv' := [(6, .int 2), (7, .int p0), (0, .ref m0), (1, .int p0), (2, .int p1), (3, .int p2), (4, .int p3), (5, .int p4)]) hx hb dX13_feed_121 hl (k := 1) rfl (by decide +kernel) (by decide) rfl (fun ls hl => ?_)
  refine lv_goto (tgt := 33) hx hb dX13_feed_124 (by decide) ?_
  refine lv_iload hx hb dX13_feed_33 (lv_at hl 0 rfl) ?_
  refine lv_bipush (v := 20) hx hb dX13_feed_35 (by decide +kernel) ?_
  refine lv_icmp_ge (tgt := 127) hx hb dX13_feed_37 (by decide) (fun c9 => ?_) (fun c9 => ?_)
  · first | exact absurd c9 (by decide +kernel) | exact absurd (by decide +kernel) c9
  refine lv_iload hx hb dX13_feed_40 (lv_at hl 0 rfl) ?_
  refine lv_iconst (v := 4) hx hb dX13_feed_42 (by decide +kernel) ?_
  refine lv_icmp_ge (tgt := 50) hx hb dX13_feed_43 (by decide) (fun c9 => ?_) (fun c9 => ?_)
  · first | exact absurd c9 (by decide +kernel) | exact absurd (by decide +kernel) c9
  refine lv_iload_n hx hb dX13_feed_46 rfl (lv_at hl 3 rfl) ?_
  refine lv_goto (tgt := 86) hx hb dX13_feed_47 (by decide) ?_
  refine lv_istore (lv' := [(7, .int p0), (6, .int 2), (0, .ref m0), (1, .int p0), (2, .int p1), (3, .int p2), (4, .int p3), (5, .int p4)]) hx hb dX13_feed_86 hl (by decide) rfl (fun ls hl => ?_)
  refine lv_aload_n hx hb dX13_feed_88 rfl (lv_at hl 2 rfl) ?_
  refine va_get (D := (dC, dI)) (ci := 13) (v := .ref mt) (C := RX13) (T := TX13) (N := 225) hx hb hts inX13 hown hK hP 0 rfl rfl 1 (by decide) (hts (.fieldLink RX13 14 "ChipFlowModel" "tape" "[B") wd_3033) (fun _ h9 => h9) (h_m0.get 1 rfl) dX13_feed_89 ?_
  refine lv_aload_n hx hb dX13_feed_92 rfl (lv_at hl 2 rfl) ?_
  refine va_get (D := (dC, dI)) (ci := 13) (v := .int 2) (C := RX13) (T := TX13) (N := 225) hx hb hts inX13 hown hK hP 0 rfl rfl 2 (by decide) (hts (.fieldLink RX13 555 "ChipFlowModel" "size" "I") wd_3034) (fun _ h9 => h9) (h_m0.get 2 rfl) dX13_feed_93 ?_
  refine lv_iload hx hb dX13_feed_96 (lv_at hl 0 rfl) ?_
  refine lv_bipush (v := 24) hx hb dX13_feed_98 (by decide +kernel) ?_
  refine lv_bipush (v := 8) hx hb dX13_feed_100 (by decide +kernel) ?_
  refine lv_iload hx hb dX13_feed_102 (lv_at hl 1 rfl) ?_
  refine lv_iconst (v := 3) hx hb dX13_feed_104 (by decide +kernel) ?_
  refine lv_iand hx hb dX13_feed_105 ?_
  refine lv_topi (fun v9 e9 => ?_)
  obtain rfl : v9 = 2 := e9.trans (by decide +kernel)
  refine lv_imul hx hb dX13_feed_106 ?_
  refine lv_topi (fun v9 e9 => ?_)
  obtain rfl : v9 = 16 := e9.trans (by decide +kernel)
  refine lv_isub hx hb dX13_feed_107 ?_
  refine lv_topi (fun v9 e9 => ?_)
  obtain rfl : v9 = 8 := e9.trans (by decide +kernel)
  refine lv_ishr hx hb dX13_feed_108 ?_
  refine lv_topi (fun v_10 _ => ?_)
  refine lv_i2b hx hb dX13_feed_109 rfl ?_
  refine lv_topi (fun v_11 _ => ?_)
  refine va_bast hx hb hK hP hD hS 1 0 rfl rfl (vp_in_nI (n := 2) (N := 65536) (by decide) (by decide)) dX13_feed_110 (fun H locs hP hD hS => ?_)
  obtain ⟨f_12, e9⟩ : ∃ z, z = upd f_8 (2 : Int32).toNatClampNeg (vp_nar .byte v_11) := ⟨_, rfl⟩
  have h_mt : fa f_12 [] := by rw [e9, show (2 : Int32).toNatClampNeg = 2 by decide +kernel]; exact (fa.lose h_mt).sub [] rfl
  have hP : va_P (dC, dI) CL [(m0, .inr (13, fs_9)), (mt, .inl (mtC, (65536, .inl f_12)))] H := by rw [e9]; exact hP
  have hD : va_D A [(m0, .inr (13, fs_9)), (mt, .inl (mtC, (65536, .inl f_12)))] := by rw [e9]; exact hD
  clear e9
  refine lv_aload_n hx hb dX13_feed_111 rfl (lv_at hl 2 rfl) ?_
  refine lv_dup hx hb dX13_feed_112 rfl ?_
  refine va_get (D := (dC, dI)) (ci := 13) (v := .int 2) (C := RX13) (T := TX13) (N := 225) hx hb hts inX13 hown hK hP 0 rfl rfl 2 (by decide) (hts (.fieldLink RX13 555 "ChipFlowModel" "size" "I") wd_3034) (fun _ h9 => h9) (h_m0.get 2 rfl) dX13_feed_113 ?_
  refine lv_iconst (v := 1) hx hb dX13_feed_116 (by decide +kernel) ?_
  refine lv_iadd hx hb dX13_feed_117 ?_
  refine lv_topi (fun v9 e9 => ?_)
  obtain rfl : v9 = 3 := e9.trans (by decide +kernel)
  refine va_put (D := (dC, dI)) (ci := 13) (v := .int 3) (ty := tyX13 2) (C := RX13) (T := TX13) (N := 225) hx hb hts inX13 tyX13 tyX13_ok nmX13 hown hK hP hD hS 0 rfl rfl 2 (by decide) (hts (.fieldLink RX13 555 "ChipFlowModel" "size" "I") wd_3034) (fun _ h9 => h9) rfl (by decide +kernel) rfl rfl (by rw [h_m0.1]; decide) dX13_feed_118 (fun H locs hP hD hS => ?_)
  obtain ⟨fs_13, e9⟩ : ∃ z, z = fs_9.set 2 (.int 3) := ⟨_, rfl⟩
  have h_m0 : fx fs_13 225 [(0, .int 0), (1, .ref mt), (2, .int 3), (3, .int 0), (9, .int 0), (10, .int 0), (11, .int 0), (12, .int 0), (27, .int 0), (79, .int 0), (83, .int 0), (95, .int 0)] := by rw [e9]; exact (h_m0.put (F' := [(2, .int 3), (0, .int 0), (1, .ref mt), (3, .int 0), (9, .int 0), (10, .int 0), (11, .int 0), (12, .int 0), (27, .int 0), (79, .int 0), (83, .int 0), (95, .int 0)]) (by decide) _ rfl).sub [1, 2, 0, 3, 4, 5, 6, 7, 8, 9, 10, 11] rfl
  have hP : va_P (dC, dI) CL [(m0, .inr (13, fs_13)), (mt, .inl (mtC, (65536, .inl f_12)))] H := by rw [e9]; exact hP
  have hD : va_D A [(m0, .inr (13, fs_13)), (mt, .inl (mtC, (65536, .inl f_12)))] := by rw [e9]; exact hD
  clear e9
  refine lv_iinc (v := 3) (lv' := [(6, .int 3), (7, .int p0), (0, .ref m0), (1, .int p0), (2, .int p1), (3, .int p2), (4, .int p3), (5, .int p4)]) hx hb dX13_feed_121 hl (k := 1) rfl (by decide +kernel) (by decide) rfl (fun ls hl => ?_)
  refine lv_goto (tgt := 33) hx hb dX13_feed_124 (by decide) ?_
  refine lv_iload hx hb dX13_feed_33 (lv_at hl 0 rfl) ?_
  refine lv_bipush (v := 20) hx hb dX13_feed_35 (by decide +kernel) ?_
  refine lv_icmp_ge (tgt := 127) hx hb dX13_feed_37 (by decide) (fun c9 => ?_) (fun c9 => ?_)
  · first | exact absurd c9 (by decide +kernel) | exact absurd (by decide +kernel) c9
  refine lv_iload hx hb dX13_feed_40 (lv_at hl 0 rfl) ?_
  refine lv_iconst (v := 4) hx hb dX13_feed_42 (by decide +kernel) ?_
  refine lv_icmp_ge (tgt := 50) hx hb dX13_feed_43 (by decide) (fun c9 => ?_) (fun c9 => ?_)
  · first | exact absurd c9 (by decide +kernel) | exact absurd (by decide +kernel) c9
  refine lv_iload_n hx hb dX13_feed_46 rfl (lv_at hl 3 rfl) ?_
  refine lv_goto (tgt := 86) hx hb dX13_feed_47 (by decide) ?_
  refine lv_istore (lv' := [(7, .int p0), (6, .int 3), (0, .ref m0), (1, .int p0), (2, .int p1), (3, .int p2), (4, .int p3), (5, .int p4)]) hx hb dX13_feed_86 hl (by decide) rfl (fun ls hl => ?_)
  refine lv_aload_n hx hb dX13_feed_88 rfl (lv_at hl 2 rfl) ?_
  refine va_get (D := (dC, dI)) (ci := 13) (v := .ref mt) (C := RX13) (T := TX13) (N := 225) hx hb hts inX13 hown hK hP 0 rfl rfl 1 (by decide) (hts (.fieldLink RX13 14 "ChipFlowModel" "tape" "[B") wd_3033) (fun _ h9 => h9) (h_m0.get 1 rfl) dX13_feed_89 ?_
  refine lv_aload_n hx hb dX13_feed_92 rfl (lv_at hl 2 rfl) ?_
  refine va_get (D := (dC, dI)) (ci := 13) (v := .int 3) (C := RX13) (T := TX13) (N := 225) hx hb hts inX13 hown hK hP 0 rfl rfl 2 (by decide) (hts (.fieldLink RX13 555 "ChipFlowModel" "size" "I") wd_3034) (fun _ h9 => h9) (h_m0.get 2 rfl) dX13_feed_93 ?_
  refine lv_iload hx hb dX13_feed_96 (lv_at hl 0 rfl) ?_
  refine lv_bipush (v := 24) hx hb dX13_feed_98 (by decide +kernel) ?_
  refine lv_bipush (v := 8) hx hb dX13_feed_100 (by decide +kernel) ?_
  refine lv_iload hx hb dX13_feed_102 (lv_at hl 1 rfl) ?_
  refine lv_iconst (v := 3) hx hb dX13_feed_104 (by decide +kernel) ?_
  refine lv_iand hx hb dX13_feed_105 ?_
  refine lv_topi (fun v9 e9 => ?_)
  obtain rfl : v9 = 3 := e9.trans (by decide +kernel)
  refine lv_imul hx hb dX13_feed_106 ?_
  refine lv_topi (fun v9 e9 => ?_)
  obtain rfl : v9 = 24 := e9.trans (by decide +kernel)
  refine lv_isub hx hb dX13_feed_107 ?_
  refine lv_topi (fun v9 e9 => ?_)
  obtain rfl : v9 = 0 := e9.trans (by decide +kernel)
  refine lv_ishr hx hb dX13_feed_108 ?_
  refine lv_topi (fun v_14 _ => ?_)
  refine lv_i2b hx hb dX13_feed_109 rfl ?_
  refine lv_topi (fun v_15 _ => ?_)
  refine va_bast hx hb hK hP hD hS 1 0 rfl rfl (vp_in_nI (n := 3) (N := 65536) (by decide) (by decide)) dX13_feed_110 (fun H locs hP hD hS => ?_)
  obtain ⟨f_16, e9⟩ : ∃ z, z = upd f_12 (3 : Int32).toNatClampNeg (vp_nar .byte v_15) := ⟨_, rfl⟩
  have h_mt : fa f_16 [] := by rw [e9, show (3 : Int32).toNatClampNeg = 3 by decide +kernel]; exact (fa.lose h_mt).sub [] rfl
  have hP : va_P (dC, dI) CL [(m0, .inr (13, fs_13)), (mt, .inl (mtC, (65536, .inl f_16)))] H := by rw [e9]; exact hP
  have hD : va_D A [(m0, .inr (13, fs_13)), (mt, .inl (mtC, (65536, .inl f_16)))] := by rw [e9]; exact hD
  clear e9
  refine lv_aload_n hx hb dX13_feed_111 rfl (lv_at hl 2 rfl) ?_
  refine lv_dup hx hb dX13_feed_112 rfl ?_
  refine va_get (D := (dC, dI)) (ci := 13) (v := .int 3) (C := RX13) (T := TX13) (N := 225) hx hb hts inX13 hown hK hP 0 rfl rfl 2 (by decide) (hts (.fieldLink RX13 555 "ChipFlowModel" "size" "I") wd_3034) (fun _ h9 => h9) (h_m0.get 2 rfl) dX13_feed_113 ?_
  refine lv_iconst (v := 1) hx hb dX13_feed_116 (by decide +kernel) ?_
  refine lv_iadd hx hb dX13_feed_117 ?_
  refine lv_topi (fun v9 e9 => ?_)
  obtain rfl : v9 = 4 := e9.trans (by decide +kernel)
  refine va_put (D := (dC, dI)) (ci := 13) (v := .int 4) (ty := tyX13 2) (C := RX13) (T := TX13) (N := 225) hx hb hts inX13 tyX13 tyX13_ok nmX13 hown hK hP hD hS 0 rfl rfl 2 (by decide) (hts (.fieldLink RX13 555 "ChipFlowModel" "size" "I") wd_3034) (fun _ h9 => h9) rfl (by decide +kernel) rfl rfl (by rw [h_m0.1]; decide) dX13_feed_118 (fun H locs hP hD hS => ?_)
  obtain ⟨fs_17, e9⟩ : ∃ z, z = fs_13.set 2 (.int 4) := ⟨_, rfl⟩
  have h_m0 : fx fs_17 225 [(0, .int 0), (1, .ref mt), (2, .int 4), (3, .int 0), (9, .int 0), (10, .int 0), (11, .int 0), (12, .int 0), (27, .int 0), (79, .int 0), (83, .int 0), (95, .int 0)] := by rw [e9]; exact (h_m0.put (F' := [(2, .int 4), (0, .int 0), (1, .ref mt), (3, .int 0), (9, .int 0), (10, .int 0), (11, .int 0), (12, .int 0), (27, .int 0), (79, .int 0), (83, .int 0), (95, .int 0)]) (by decide) _ rfl).sub [1, 2, 0, 3, 4, 5, 6, 7, 8, 9, 10, 11] rfl
  have hP : va_P (dC, dI) CL [(m0, .inr (13, fs_17)), (mt, .inl (mtC, (65536, .inl f_16)))] H := by rw [e9]; exact hP
  have hD : va_D A [(m0, .inr (13, fs_17)), (mt, .inl (mtC, (65536, .inl f_16)))] := by rw [e9]; exact hD
  clear e9
  refine lv_iinc (v := 4) (lv' := [(6, .int 4), (7, .int p0), (0, .ref m0), (1, .int p0), (2, .int p1), (3, .int p2), (4, .int p3), (5, .int p4)]) hx hb dX13_feed_121 hl (k := 1) rfl (by decide +kernel) (by decide) rfl (fun ls hl => ?_)
  refine lv_goto (tgt := 33) hx hb dX13_feed_124 (by decide) ?_
  refine lv_iload hx hb dX13_feed_33 (lv_at hl 0 rfl) ?_
  refine lv_bipush (v := 20) hx hb dX13_feed_35 (by decide +kernel) ?_
  refine lv_icmp_ge (tgt := 127) hx hb dX13_feed_37 (by decide) (fun c9 => ?_) (fun c9 => ?_)
  · first | exact absurd c9 (by decide +kernel) | exact absurd (by decide +kernel) c9
  refine lv_iload hx hb dX13_feed_40 (lv_at hl 0 rfl) ?_
  refine lv_iconst (v := 4) hx hb dX13_feed_42 (by decide +kernel) ?_
  refine lv_icmp_ge (tgt := 50) hx hb dX13_feed_43 (by decide) (fun c9 => ?_) (fun c9 => ?_)
  rotate_left
  · first | exact absurd c9 (by decide +kernel) | exact absurd (by decide +kernel) c9
  refine lv_iload hx hb dX13_feed_50 (lv_at hl 0 rfl) ?_
  refine lv_bipush (v := 8) hx hb dX13_feed_52 (by decide +kernel) ?_
  refine lv_icmp_ge (tgt := 61) hx hb dX13_feed_54 (by decide) (fun c9 => ?_) (fun c9 => ?_)
  · first | exact absurd c9 (by decide +kernel) | exact absurd (by decide +kernel) c9
  refine lv_iload_n hx hb dX13_feed_57 rfl (lv_at hl 4 rfl) ?_
  refine lv_goto (tgt := 86) hx hb dX13_feed_58 (by decide) ?_
  refine lv_istore (lv' := [(7, .int p1), (6, .int 4), (0, .ref m0), (1, .int p0), (2, .int p1), (3, .int p2), (4, .int p3), (5, .int p4)]) hx hb dX13_feed_86 hl (by decide) rfl (fun ls hl => ?_)
  refine lv_aload_n hx hb dX13_feed_88 rfl (lv_at hl 2 rfl) ?_
  refine va_get (D := (dC, dI)) (ci := 13) (v := .ref mt) (C := RX13) (T := TX13) (N := 225) hx hb hts inX13 hown hK hP 0 rfl rfl 1 (by decide) (hts (.fieldLink RX13 14 "ChipFlowModel" "tape" "[B") wd_3033) (fun _ h9 => h9) (h_m0.get 1 rfl) dX13_feed_89 ?_
  refine lv_aload_n hx hb dX13_feed_92 rfl (lv_at hl 2 rfl) ?_
  refine va_get (D := (dC, dI)) (ci := 13) (v := .int 4) (C := RX13) (T := TX13) (N := 225) hx hb hts inX13 hown hK hP 0 rfl rfl 2 (by decide) (hts (.fieldLink RX13 555 "ChipFlowModel" "size" "I") wd_3034) (fun _ h9 => h9) (h_m0.get 2 rfl) dX13_feed_93 ?_
  refine lv_iload hx hb dX13_feed_96 (lv_at hl 0 rfl) ?_
  refine lv_bipush (v := 24) hx hb dX13_feed_98 (by decide +kernel) ?_
  refine lv_bipush (v := 8) hx hb dX13_feed_100 (by decide +kernel) ?_
  refine lv_iload hx hb dX13_feed_102 (lv_at hl 1 rfl) ?_
  refine lv_iconst (v := 3) hx hb dX13_feed_104 (by decide +kernel) ?_
  refine lv_iand hx hb dX13_feed_105 ?_
  refine lv_topi (fun v9 e9 => ?_)
  obtain rfl : v9 = 0 := e9.trans (by decide +kernel)
  refine lv_imul hx hb dX13_feed_106 ?_
  refine lv_topi (fun v9 e9 => ?_)
  obtain rfl : v9 = 0 := e9.trans (by decide +kernel)
  refine lv_isub hx hb dX13_feed_107 ?_
  refine lv_topi (fun v9 e9 => ?_)
  obtain rfl : v9 = 24 := e9.trans (by decide +kernel)
  refine lv_ishr hx hb dX13_feed_108 ?_
  refine lv_topi (fun v_18 _ => ?_)
  refine lv_i2b hx hb dX13_feed_109 rfl ?_
  refine lv_topi (fun v_19 _ => ?_)
  refine va_bast hx hb hK hP hD hS 1 0 rfl rfl (vp_in_nI (n := 4) (N := 65536) (by decide) (by decide)) dX13_feed_110 (fun H locs hP hD hS => ?_)
  obtain ⟨f_20, e9⟩ : ∃ z, z = upd f_16 (4 : Int32).toNatClampNeg (vp_nar .byte v_19) := ⟨_, rfl⟩
  have h_mt : fa f_20 [] := by rw [e9, show (4 : Int32).toNatClampNeg = 4 by decide +kernel]; exact (fa.lose h_mt).sub [] rfl
  have hP : va_P (dC, dI) CL [(m0, .inr (13, fs_17)), (mt, .inl (mtC, (65536, .inl f_20)))] H := by rw [e9]; exact hP
  have hD : va_D A [(m0, .inr (13, fs_17)), (mt, .inl (mtC, (65536, .inl f_20)))] := by rw [e9]; exact hD
  clear e9
  refine lv_aload_n hx hb dX13_feed_111 rfl (lv_at hl 2 rfl) ?_
  refine lv_dup hx hb dX13_feed_112 rfl ?_
  refine va_get (D := (dC, dI)) (ci := 13) (v := .int 4) (C := RX13) (T := TX13) (N := 225) hx hb hts inX13 hown hK hP 0 rfl rfl 2 (by decide) (hts (.fieldLink RX13 555 "ChipFlowModel" "size" "I") wd_3034) (fun _ h9 => h9) (h_m0.get 2 rfl) dX13_feed_113 ?_
  refine lv_iconst (v := 1) hx hb dX13_feed_116 (by decide +kernel) ?_
  refine lv_iadd hx hb dX13_feed_117 ?_
  refine lv_topi (fun v9 e9 => ?_)
  obtain rfl : v9 = 5 := e9.trans (by decide +kernel)
  refine va_put (D := (dC, dI)) (ci := 13) (v := .int 5) (ty := tyX13 2) (C := RX13) (T := TX13) (N := 225) hx hb hts inX13 tyX13 tyX13_ok nmX13 hown hK hP hD hS 0 rfl rfl 2 (by decide) (hts (.fieldLink RX13 555 "ChipFlowModel" "size" "I") wd_3034) (fun _ h9 => h9) rfl (by decide +kernel) rfl rfl (by rw [h_m0.1]; decide) dX13_feed_118 (fun H locs hP hD hS => ?_)
  obtain ⟨fs_21, e9⟩ : ∃ z, z = fs_17.set 2 (.int 5) := ⟨_, rfl⟩
  have h_m0 : fx fs_21 225 [(0, .int 0), (1, .ref mt), (2, .int 5), (3, .int 0), (9, .int 0), (10, .int 0), (11, .int 0), (12, .int 0), (27, .int 0), (79, .int 0), (83, .int 0), (95, .int 0)] := by rw [e9]; exact (h_m0.put (F' := [(2, .int 5), (0, .int 0), (1, .ref mt), (3, .int 0), (9, .int 0), (10, .int 0), (11, .int 0), (12, .int 0), (27, .int 0), (79, .int 0), (83, .int 0), (95, .int 0)]) (by decide) _ rfl).sub [1, 2, 0, 3, 4, 5, 6, 7, 8, 9, 10, 11] rfl
  have hP : va_P (dC, dI) CL [(m0, .inr (13, fs_21)), (mt, .inl (mtC, (65536, .inl f_20)))] H := by rw [e9]; exact hP
  have hD : va_D A [(m0, .inr (13, fs_21)), (mt, .inl (mtC, (65536, .inl f_20)))] := by rw [e9]; exact hD
  clear e9
  refine lv_iinc (v := 5) (lv' := [(6, .int 5), (7, .int p1), (0, .ref m0), (1, .int p0), (2, .int p1), (3, .int p2), (4, .int p3), (5, .int p4)]) hx hb dX13_feed_121 hl (k := 1) rfl (by decide +kernel) (by decide) rfl (fun ls hl => ?_)
  refine lv_goto (tgt := 33) hx hb dX13_feed_124 (by decide) ?_
  refine lv_iload hx hb dX13_feed_33 (lv_at hl 0 rfl) ?_
  refine lv_bipush (v := 20) hx hb dX13_feed_35 (by decide +kernel) ?_
  refine lv_icmp_ge (tgt := 127) hx hb dX13_feed_37 (by decide) (fun c9 => ?_) (fun c9 => ?_)
  · first | exact absurd c9 (by decide +kernel) | exact absurd (by decide +kernel) c9
  refine lv_iload hx hb dX13_feed_40 (lv_at hl 0 rfl) ?_
  refine lv_iconst (v := 4) hx hb dX13_feed_42 (by decide +kernel) ?_
  refine lv_icmp_ge (tgt := 50) hx hb dX13_feed_43 (by decide) (fun c9 => ?_) (fun c9 => ?_)
  rotate_left
  · first | exact absurd c9 (by decide +kernel) | exact absurd (by decide +kernel) c9
  refine lv_iload hx hb dX13_feed_50 (lv_at hl 0 rfl) ?_
  refine lv_bipush (v := 8) hx hb dX13_feed_52 (by decide +kernel) ?_
  refine lv_icmp_ge (tgt := 61) hx hb dX13_feed_54 (by decide) (fun c9 => ?_) (fun c9 => ?_)
  · first | exact absurd c9 (by decide +kernel) | exact absurd (by decide +kernel) c9
  refine lv_iload_n hx hb dX13_feed_57 rfl (lv_at hl 4 rfl) ?_
  refine lv_goto (tgt := 86) hx hb dX13_feed_58 (by decide) ?_
  refine lv_istore (lv' := [(7, .int p1), (6, .int 5), (0, .ref m0), (1, .int p0), (2, .int p1), (3, .int p2), (4, .int p3), (5, .int p4)]) hx hb dX13_feed_86 hl (by decide) rfl (fun ls hl => ?_)
  refine lv_aload_n hx hb dX13_feed_88 rfl (lv_at hl 2 rfl) ?_
  refine va_get (D := (dC, dI)) (ci := 13) (v := .ref mt) (C := RX13) (T := TX13) (N := 225) hx hb hts inX13 hown hK hP 0 rfl rfl 1 (by decide) (hts (.fieldLink RX13 14 "ChipFlowModel" "tape" "[B") wd_3033) (fun _ h9 => h9) (h_m0.get 1 rfl) dX13_feed_89 ?_
  refine lv_aload_n hx hb dX13_feed_92 rfl (lv_at hl 2 rfl) ?_
  refine va_get (D := (dC, dI)) (ci := 13) (v := .int 5) (C := RX13) (T := TX13) (N := 225) hx hb hts inX13 hown hK hP 0 rfl rfl 2 (by decide) (hts (.fieldLink RX13 555 "ChipFlowModel" "size" "I") wd_3034) (fun _ h9 => h9) (h_m0.get 2 rfl) dX13_feed_93 ?_
  refine lv_iload hx hb dX13_feed_96 (lv_at hl 0 rfl) ?_
  refine lv_bipush (v := 24) hx hb dX13_feed_98 (by decide +kernel) ?_
  refine lv_bipush (v := 8) hx hb dX13_feed_100 (by decide +kernel) ?_
  refine lv_iload hx hb dX13_feed_102 (lv_at hl 1 rfl) ?_
  refine lv_iconst (v := 3) hx hb dX13_feed_104 (by decide +kernel) ?_
  refine lv_iand hx hb dX13_feed_105 ?_
  refine lv_topi (fun v9 e9 => ?_)
  obtain rfl : v9 = 1 := e9.trans (by decide +kernel)
  refine lv_imul hx hb dX13_feed_106 ?_
  refine lv_topi (fun v9 e9 => ?_)
  obtain rfl : v9 = 8 := e9.trans (by decide +kernel)
  refine lv_isub hx hb dX13_feed_107 ?_
  refine lv_topi (fun v9 e9 => ?_)
  obtain rfl : v9 = 16 := e9.trans (by decide +kernel)
  refine lv_ishr hx hb dX13_feed_108 ?_
  refine lv_topi (fun v_22 _ => ?_)
  refine lv_i2b hx hb dX13_feed_109 rfl ?_
  refine lv_topi (fun v_23 _ => ?_)
  refine va_bast hx hb hK hP hD hS 1 0 rfl rfl (vp_in_nI (n := 5) (N := 65536) (by decide) (by decide)) dX13_feed_110 (fun H locs hP hD hS => ?_)
  obtain ⟨f_24, e9⟩ : ∃ z, z = upd f_20 (5 : Int32).toNatClampNeg (vp_nar .byte v_23) := ⟨_, rfl⟩
  have h_mt : fa f_24 [] := by rw [e9, show (5 : Int32).toNatClampNeg = 5 by decide +kernel]; exact (fa.lose h_mt).sub [] rfl
  have hP : va_P (dC, dI) CL [(m0, .inr (13, fs_21)), (mt, .inl (mtC, (65536, .inl f_24)))] H := by rw [e9]; exact hP
  have hD : va_D A [(m0, .inr (13, fs_21)), (mt, .inl (mtC, (65536, .inl f_24)))] := by rw [e9]; exact hD
  clear e9
  refine lv_aload_n hx hb dX13_feed_111 rfl (lv_at hl 2 rfl) ?_
  refine lv_dup hx hb dX13_feed_112 rfl ?_
  refine va_get (D := (dC, dI)) (ci := 13) (v := .int 5) (C := RX13) (T := TX13) (N := 225) hx hb hts inX13 hown hK hP 0 rfl rfl 2 (by decide) (hts (.fieldLink RX13 555 "ChipFlowModel" "size" "I") wd_3034) (fun _ h9 => h9) (h_m0.get 2 rfl) dX13_feed_113 ?_
  refine lv_iconst (v := 1) hx hb dX13_feed_116 (by decide +kernel) ?_
  refine lv_iadd hx hb dX13_feed_117 ?_
  refine lv_topi (fun v9 e9 => ?_)
  obtain rfl : v9 = 6 := e9.trans (by decide +kernel)
  refine va_put (D := (dC, dI)) (ci := 13) (v := .int 6) (ty := tyX13 2) (C := RX13) (T := TX13) (N := 225) hx hb hts inX13 tyX13 tyX13_ok nmX13 hown hK hP hD hS 0 rfl rfl 2 (by decide) (hts (.fieldLink RX13 555 "ChipFlowModel" "size" "I") wd_3034) (fun _ h9 => h9) rfl (by decide +kernel) rfl rfl (by rw [h_m0.1]; decide) dX13_feed_118 (fun H locs hP hD hS => ?_)
  obtain ⟨fs_25, e9⟩ : ∃ z, z = fs_21.set 2 (.int 6) := ⟨_, rfl⟩
  have h_m0 : fx fs_25 225 [(0, .int 0), (1, .ref mt), (2, .int 6), (3, .int 0), (9, .int 0), (10, .int 0), (11, .int 0), (12, .int 0), (27, .int 0), (79, .int 0), (83, .int 0), (95, .int 0)] := by rw [e9]; exact (h_m0.put (F' := [(2, .int 6), (0, .int 0), (1, .ref mt), (3, .int 0), (9, .int 0), (10, .int 0), (11, .int 0), (12, .int 0), (27, .int 0), (79, .int 0), (83, .int 0), (95, .int 0)]) (by decide) _ rfl).sub [1, 2, 0, 3, 4, 5, 6, 7, 8, 9, 10, 11] rfl
  have hP : va_P (dC, dI) CL [(m0, .inr (13, fs_25)), (mt, .inl (mtC, (65536, .inl f_24)))] H := by rw [e9]; exact hP
  have hD : va_D A [(m0, .inr (13, fs_25)), (mt, .inl (mtC, (65536, .inl f_24)))] := by rw [e9]; exact hD
  clear e9
  refine lv_iinc (v := 6) (lv' := [(6, .int 6), (7, .int p1), (0, .ref m0), (1, .int p0), (2, .int p1), (3, .int p2), (4, .int p3), (5, .int p4)]) hx hb dX13_feed_121 hl (k := 1) rfl (by decide +kernel) (by decide) rfl (fun ls hl => ?_)
  refine lv_goto (tgt := 33) hx hb dX13_feed_124 (by decide) ?_
  refine lv_iload hx hb dX13_feed_33 (lv_at hl 0 rfl) ?_
  refine lv_bipush (v := 20) hx hb dX13_feed_35 (by decide +kernel) ?_
  refine lv_icmp_ge (tgt := 127) hx hb dX13_feed_37 (by decide) (fun c9 => ?_) (fun c9 => ?_)
  · first | exact absurd c9 (by decide +kernel) | exact absurd (by decide +kernel) c9
  refine lv_iload hx hb dX13_feed_40 (lv_at hl 0 rfl) ?_
  refine lv_iconst (v := 4) hx hb dX13_feed_42 (by decide +kernel) ?_
  refine lv_icmp_ge (tgt := 50) hx hb dX13_feed_43 (by decide) (fun c9 => ?_) (fun c9 => ?_)
  rotate_left
  · first | exact absurd c9 (by decide +kernel) | exact absurd (by decide +kernel) c9
  refine lv_iload hx hb dX13_feed_50 (lv_at hl 0 rfl) ?_
  refine lv_bipush (v := 8) hx hb dX13_feed_52 (by decide +kernel) ?_
  refine lv_icmp_ge (tgt := 61) hx hb dX13_feed_54 (by decide) (fun c9 => ?_) (fun c9 => ?_)
  · first | exact absurd c9 (by decide +kernel) | exact absurd (by decide +kernel) c9
  refine lv_iload_n hx hb dX13_feed_57 rfl (lv_at hl 4 rfl) ?_
  refine lv_goto (tgt := 86) hx hb dX13_feed_58 (by decide) ?_
  refine lv_istore (lv' := [(7, .int p1), (6, .int 6), (0, .ref m0), (1, .int p0), (2, .int p1), (3, .int p2), (4, .int p3), (5, .int p4)]) hx hb dX13_feed_86 hl (by decide) rfl (fun ls hl => ?_)
  refine lv_aload_n hx hb dX13_feed_88 rfl (lv_at hl 2 rfl) ?_
  refine va_get (D := (dC, dI)) (ci := 13) (v := .ref mt) (C := RX13) (T := TX13) (N := 225) hx hb hts inX13 hown hK hP 0 rfl rfl 1 (by decide) (hts (.fieldLink RX13 14 "ChipFlowModel" "tape" "[B") wd_3033) (fun _ h9 => h9) (h_m0.get 1 rfl) dX13_feed_89 ?_
  refine lv_aload_n hx hb dX13_feed_92 rfl (lv_at hl 2 rfl) ?_
  refine va_get (D := (dC, dI)) (ci := 13) (v := .int 6) (C := RX13) (T := TX13) (N := 225) hx hb hts inX13 hown hK hP 0 rfl rfl 2 (by decide) (hts (.fieldLink RX13 555 "ChipFlowModel" "size" "I") wd_3034) (fun _ h9 => h9) (h_m0.get 2 rfl) dX13_feed_93 ?_
  refine lv_iload hx hb dX13_feed_96 (lv_at hl 0 rfl) ?_
  refine lv_bipush (v := 24) hx hb dX13_feed_98 (by decide +kernel) ?_
  refine lv_bipush (v := 8) hx hb dX13_feed_100 (by decide +kernel) ?_
  refine lv_iload hx hb dX13_feed_102 (lv_at hl 1 rfl) ?_
  refine lv_iconst (v := 3) hx hb dX13_feed_104 (by decide +kernel) ?_
  refine lv_iand hx hb dX13_feed_105 ?_
  refine lv_topi (fun v9 e9 => ?_)
  obtain rfl : v9 = 2 := e9.trans (by decide +kernel)
  refine lv_imul hx hb dX13_feed_106 ?_
  refine lv_topi (fun v9 e9 => ?_)
  obtain rfl : v9 = 16 := e9.trans (by decide +kernel)
  refine lv_isub hx hb dX13_feed_107 ?_
  refine lv_topi (fun v9 e9 => ?_)
  obtain rfl : v9 = 8 := e9.trans (by decide +kernel)
  refine lv_ishr hx hb dX13_feed_108 ?_
  refine lv_topi (fun v_26 _ => ?_)
  refine lv_i2b hx hb dX13_feed_109 rfl ?_
  refine lv_topi (fun v_27 _ => ?_)
  refine va_bast hx hb hK hP hD hS 1 0 rfl rfl (vp_in_nI (n := 6) (N := 65536) (by decide) (by decide)) dX13_feed_110 (fun H locs hP hD hS => ?_)
  obtain ⟨f_28, e9⟩ : ∃ z, z = upd f_24 (6 : Int32).toNatClampNeg (vp_nar .byte v_27) := ⟨_, rfl⟩
  have h_mt : fa f_28 [] := by rw [e9, show (6 : Int32).toNatClampNeg = 6 by decide +kernel]; exact (fa.lose h_mt).sub [] rfl
  have hP : va_P (dC, dI) CL [(m0, .inr (13, fs_25)), (mt, .inl (mtC, (65536, .inl f_28)))] H := by rw [e9]; exact hP
  have hD : va_D A [(m0, .inr (13, fs_25)), (mt, .inl (mtC, (65536, .inl f_28)))] := by rw [e9]; exact hD
  clear e9
  refine lv_aload_n hx hb dX13_feed_111 rfl (lv_at hl 2 rfl) ?_
  refine lv_dup hx hb dX13_feed_112 rfl ?_
  refine va_get (D := (dC, dI)) (ci := 13) (v := .int 6) (C := RX13) (T := TX13) (N := 225) hx hb hts inX13 hown hK hP 0 rfl rfl 2 (by decide) (hts (.fieldLink RX13 555 "ChipFlowModel" "size" "I") wd_3034) (fun _ h9 => h9) (h_m0.get 2 rfl) dX13_feed_113 ?_
  refine lv_iconst (v := 1) hx hb dX13_feed_116 (by decide +kernel) ?_
  refine lv_iadd hx hb dX13_feed_117 ?_
  refine lv_topi (fun v9 e9 => ?_)
  obtain rfl : v9 = 7 := e9.trans (by decide +kernel)
  refine va_put (D := (dC, dI)) (ci := 13) (v := .int 7) (ty := tyX13 2) (C := RX13) (T := TX13) (N := 225) hx hb hts inX13 tyX13 tyX13_ok nmX13 hown hK hP hD hS 0 rfl rfl 2 (by decide) (hts (.fieldLink RX13 555 "ChipFlowModel" "size" "I") wd_3034) (fun _ h9 => h9) rfl (by decide +kernel) rfl rfl (by rw [h_m0.1]; decide) dX13_feed_118 (fun H locs hP hD hS => ?_)
  obtain ⟨fs_29, e9⟩ : ∃ z, z = fs_25.set 2 (.int 7) := ⟨_, rfl⟩
  have h_m0 : fx fs_29 225 [(0, .int 0), (1, .ref mt), (2, .int 7), (3, .int 0), (9, .int 0), (10, .int 0), (11, .int 0), (12, .int 0), (27, .int 0), (79, .int 0), (83, .int 0), (95, .int 0)] := by rw [e9]; exact (h_m0.put (F' := [(2, .int 7), (0, .int 0), (1, .ref mt), (3, .int 0), (9, .int 0), (10, .int 0), (11, .int 0), (12, .int 0), (27, .int 0), (79, .int 0), (83, .int 0), (95, .int 0)]) (by decide) _ rfl).sub [1, 2, 0, 3, 4, 5, 6, 7, 8, 9, 10, 11] rfl
  have hP : va_P (dC, dI) CL [(m0, .inr (13, fs_29)), (mt, .inl (mtC, (65536, .inl f_28)))] H := by rw [e9]; exact hP
  have hD : va_D A [(m0, .inr (13, fs_29)), (mt, .inl (mtC, (65536, .inl f_28)))] := by rw [e9]; exact hD
  clear e9
  refine lv_iinc (v := 7) (lv' := [(6, .int 7), (7, .int p1), (0, .ref m0), (1, .int p0), (2, .int p1), (3, .int p2), (4, .int p3), (5, .int p4)]) hx hb dX13_feed_121 hl (k := 1) rfl (by decide +kernel) (by decide) rfl (fun ls hl => ?_)
  refine lv_goto (tgt := 33) hx hb dX13_feed_124 (by decide) ?_
  refine lv_iload hx hb dX13_feed_33 (lv_at hl 0 rfl) ?_
  refine lv_bipush (v := 20) hx hb dX13_feed_35 (by decide +kernel) ?_
  refine lv_icmp_ge (tgt := 127) hx hb dX13_feed_37 (by decide) (fun c9 => ?_) (fun c9 => ?_)
  · first | exact absurd c9 (by decide +kernel) | exact absurd (by decide +kernel) c9
  refine lv_iload hx hb dX13_feed_40 (lv_at hl 0 rfl) ?_
  refine lv_iconst (v := 4) hx hb dX13_feed_42 (by decide +kernel) ?_
  refine lv_icmp_ge (tgt := 50) hx hb dX13_feed_43 (by decide) (fun c9 => ?_) (fun c9 => ?_)
  rotate_left
  · first | exact absurd c9 (by decide +kernel) | exact absurd (by decide +kernel) c9
  refine lv_iload hx hb dX13_feed_50 (lv_at hl 0 rfl) ?_
  refine lv_bipush (v := 8) hx hb dX13_feed_52 (by decide +kernel) ?_
  refine lv_icmp_ge (tgt := 61) hx hb dX13_feed_54 (by decide) (fun c9 => ?_) (fun c9 => ?_)
  · first | exact absurd c9 (by decide +kernel) | exact absurd (by decide +kernel) c9
  refine lv_iload_n hx hb dX13_feed_57 rfl (lv_at hl 4 rfl) ?_
  refine lv_goto (tgt := 86) hx hb dX13_feed_58 (by decide) ?_
  refine lv_istore (lv' := [(7, .int p1), (6, .int 7), (0, .ref m0), (1, .int p0), (2, .int p1), (3, .int p2), (4, .int p3), (5, .int p4)]) hx hb dX13_feed_86 hl (by decide) rfl (fun ls hl => ?_)
  refine lv_aload_n hx hb dX13_feed_88 rfl (lv_at hl 2 rfl) ?_
  refine va_get (D := (dC, dI)) (ci := 13) (v := .ref mt) (C := RX13) (T := TX13) (N := 225) hx hb hts inX13 hown hK hP 0 rfl rfl 1 (by decide) (hts (.fieldLink RX13 14 "ChipFlowModel" "tape" "[B") wd_3033) (fun _ h9 => h9) (h_m0.get 1 rfl) dX13_feed_89 ?_
  refine lv_aload_n hx hb dX13_feed_92 rfl (lv_at hl 2 rfl) ?_
  refine va_get (D := (dC, dI)) (ci := 13) (v := .int 7) (C := RX13) (T := TX13) (N := 225) hx hb hts inX13 hown hK hP 0 rfl rfl 2 (by decide) (hts (.fieldLink RX13 555 "ChipFlowModel" "size" "I") wd_3034) (fun _ h9 => h9) (h_m0.get 2 rfl) dX13_feed_93 ?_
  refine lv_iload hx hb dX13_feed_96 (lv_at hl 0 rfl) ?_
  refine lv_bipush (v := 24) hx hb dX13_feed_98 (by decide +kernel) ?_
  refine lv_bipush (v := 8) hx hb dX13_feed_100 (by decide +kernel) ?_
  refine lv_iload hx hb dX13_feed_102 (lv_at hl 1 rfl) ?_
  refine lv_iconst (v := 3) hx hb dX13_feed_104 (by decide +kernel) ?_
  refine lv_iand hx hb dX13_feed_105 ?_
  refine lv_topi (fun v9 e9 => ?_)
  obtain rfl : v9 = 3 := e9.trans (by decide +kernel)
  refine lv_imul hx hb dX13_feed_106 ?_
  refine lv_topi (fun v9 e9 => ?_)
  obtain rfl : v9 = 24 := e9.trans (by decide +kernel)
  refine lv_isub hx hb dX13_feed_107 ?_
  refine lv_topi (fun v9 e9 => ?_)
  obtain rfl : v9 = 0 := e9.trans (by decide +kernel)
  refine lv_ishr hx hb dX13_feed_108 ?_
  refine lv_topi (fun v_30 _ => ?_)
  refine lv_i2b hx hb dX13_feed_109 rfl ?_
  refine lv_topi (fun v_31 _ => ?_)
  refine va_bast hx hb hK hP hD hS 1 0 rfl rfl (vp_in_nI (n := 7) (N := 65536) (by decide) (by decide)) dX13_feed_110 (fun H locs hP hD hS => ?_)
  obtain ⟨f_32, e9⟩ : ∃ z, z = upd f_28 (7 : Int32).toNatClampNeg (vp_nar .byte v_31) := ⟨_, rfl⟩
  have h_mt : fa f_32 [] := by rw [e9, show (7 : Int32).toNatClampNeg = 7 by decide +kernel]; exact (fa.lose h_mt).sub [] rfl
  have hP : va_P (dC, dI) CL [(m0, .inr (13, fs_29)), (mt, .inl (mtC, (65536, .inl f_32)))] H := by rw [e9]; exact hP
  have hD : va_D A [(m0, .inr (13, fs_29)), (mt, .inl (mtC, (65536, .inl f_32)))] := by rw [e9]; exact hD
  clear e9
  refine lv_aload_n hx hb dX13_feed_111 rfl (lv_at hl 2 rfl) ?_
  refine lv_dup hx hb dX13_feed_112 rfl ?_
  refine va_get (D := (dC, dI)) (ci := 13) (v := .int 7) (C := RX13) (T := TX13) (N := 225) hx hb hts inX13 hown hK hP 0 rfl rfl 2 (by decide) (hts (.fieldLink RX13 555 "ChipFlowModel" "size" "I") wd_3034) (fun _ h9 => h9) (h_m0.get 2 rfl) dX13_feed_113 ?_
  refine lv_iconst (v := 1) hx hb dX13_feed_116 (by decide +kernel) ?_
  refine lv_iadd hx hb dX13_feed_117 ?_
  refine lv_topi (fun v9 e9 => ?_)
  obtain rfl : v9 = 8 := e9.trans (by decide +kernel)
  refine va_put (D := (dC, dI)) (ci := 13) (v := .int 8) (ty := tyX13 2) (C := RX13) (T := TX13) (N := 225) hx hb hts inX13 tyX13 tyX13_ok nmX13 hown hK hP hD hS 0 rfl rfl 2 (by decide) (hts (.fieldLink RX13 555 "ChipFlowModel" "size" "I") wd_3034) (fun _ h9 => h9) rfl (by decide +kernel) rfl rfl (by rw [h_m0.1]; decide) dX13_feed_118 (fun H locs hP hD hS => ?_)
  obtain ⟨fs_33, e9⟩ : ∃ z, z = fs_29.set 2 (.int 8) := ⟨_, rfl⟩
  have h_m0 : fx fs_33 225 [(0, .int 0), (1, .ref mt), (2, .int 8), (3, .int 0), (9, .int 0), (10, .int 0), (11, .int 0), (12, .int 0), (27, .int 0), (79, .int 0), (83, .int 0), (95, .int 0)] := by rw [e9]; exact (h_m0.put (F' := [(2, .int 8), (0, .int 0), (1, .ref mt), (3, .int 0), (9, .int 0), (10, .int 0), (11, .int 0), (12, .int 0), (27, .int 0), (79, .int 0), (83, .int 0), (95, .int 0)]) (by decide) _ rfl).sub [1, 2, 0, 3, 4, 5, 6, 7, 8, 9, 10, 11] rfl
  have hP : va_P (dC, dI) CL [(m0, .inr (13, fs_33)), (mt, .inl (mtC, (65536, .inl f_32)))] H := by rw [e9]; exact hP
  have hD : va_D A [(m0, .inr (13, fs_33)), (mt, .inl (mtC, (65536, .inl f_32)))] := by rw [e9]; exact hD
  clear e9
  refine lv_iinc (v := 8) (lv' := [(6, .int 8), (7, .int p1), (0, .ref m0), (1, .int p0), (2, .int p1), (3, .int p2), (4, .int p3), (5, .int p4)]) hx hb dX13_feed_121 hl (k := 1) rfl (by decide +kernel) (by decide) rfl (fun ls hl => ?_)
  refine lv_goto (tgt := 33) hx hb dX13_feed_124 (by decide) ?_
  refine lv_iload hx hb dX13_feed_33 (lv_at hl 0 rfl) ?_
  refine lv_bipush (v := 20) hx hb dX13_feed_35 (by decide +kernel) ?_
  refine lv_icmp_ge (tgt := 127) hx hb dX13_feed_37 (by decide) (fun c9 => ?_) (fun c9 => ?_)
  · first | exact absurd c9 (by decide +kernel) | exact absurd (by decide +kernel) c9
  refine lv_iload hx hb dX13_feed_40 (lv_at hl 0 rfl) ?_
  refine lv_iconst (v := 4) hx hb dX13_feed_42 (by decide +kernel) ?_
  refine lv_icmp_ge (tgt := 50) hx hb dX13_feed_43 (by decide) (fun c9 => ?_) (fun c9 => ?_)
  rotate_left
  · first | exact absurd c9 (by decide +kernel) | exact absurd (by decide +kernel) c9
  refine lv_iload hx hb dX13_feed_50 (lv_at hl 0 rfl) ?_
  refine lv_bipush (v := 8) hx hb dX13_feed_52 (by decide +kernel) ?_
  refine lv_icmp_ge (tgt := 61) hx hb dX13_feed_54 (by decide) (fun c9 => ?_) (fun c9 => ?_)
  rotate_left
  · first | exact absurd c9 (by decide +kernel) | exact absurd (by decide +kernel) c9
  refine lv_iload hx hb dX13_feed_61 (lv_at hl 0 rfl) ?_
  refine lv_bipush (v := 12) hx hb dX13_feed_63 (by decide +kernel) ?_
  refine lv_icmp_ge (tgt := 72) hx hb dX13_feed_65 (by decide) (fun c9 => ?_) (fun c9 => ?_)
  · first | exact absurd c9 (by decide +kernel) | exact absurd (by decide +kernel) c9
  refine lv_iload_n hx hb dX13_feed_68 rfl (lv_at hl 5 rfl) ?_
  refine lv_goto (tgt := 86) hx hb dX13_feed_69 (by decide) ?_
  refine lv_istore (lv' := [(7, .int p2), (6, .int 8), (0, .ref m0), (1, .int p0), (2, .int p1), (3, .int p2), (4, .int p3), (5, .int p4)]) hx hb dX13_feed_86 hl (by decide) rfl (fun ls hl => ?_)
  refine lv_aload_n hx hb dX13_feed_88 rfl (lv_at hl 2 rfl) ?_
  refine va_get (D := (dC, dI)) (ci := 13) (v := .ref mt) (C := RX13) (T := TX13) (N := 225) hx hb hts inX13 hown hK hP 0 rfl rfl 1 (by decide) (hts (.fieldLink RX13 14 "ChipFlowModel" "tape" "[B") wd_3033) (fun _ h9 => h9) (h_m0.get 1 rfl) dX13_feed_89 ?_
  refine lv_aload_n hx hb dX13_feed_92 rfl (lv_at hl 2 rfl) ?_
  refine va_get (D := (dC, dI)) (ci := 13) (v := .int 8) (C := RX13) (T := TX13) (N := 225) hx hb hts inX13 hown hK hP 0 rfl rfl 2 (by decide) (hts (.fieldLink RX13 555 "ChipFlowModel" "size" "I") wd_3034) (fun _ h9 => h9) (h_m0.get 2 rfl) dX13_feed_93 ?_
  refine lv_iload hx hb dX13_feed_96 (lv_at hl 0 rfl) ?_
  refine lv_bipush (v := 24) hx hb dX13_feed_98 (by decide +kernel) ?_
  refine lv_bipush (v := 8) hx hb dX13_feed_100 (by decide +kernel) ?_
  refine lv_iload hx hb dX13_feed_102 (lv_at hl 1 rfl) ?_
  refine lv_iconst (v := 3) hx hb dX13_feed_104 (by decide +kernel) ?_
  refine lv_iand hx hb dX13_feed_105 ?_
  refine lv_topi (fun v9 e9 => ?_)
  obtain rfl : v9 = 0 := e9.trans (by decide +kernel)
  refine lv_imul hx hb dX13_feed_106 ?_
  refine lv_topi (fun v9 e9 => ?_)
  obtain rfl : v9 = 0 := e9.trans (by decide +kernel)
  refine lv_isub hx hb dX13_feed_107 ?_
  refine lv_topi (fun v9 e9 => ?_)
  obtain rfl : v9 = 24 := e9.trans (by decide +kernel)
  refine lv_ishr hx hb dX13_feed_108 ?_
  refine lv_topi (fun v_34 _ => ?_)
  refine lv_i2b hx hb dX13_feed_109 rfl ?_
  refine lv_topi (fun v_35 _ => ?_)
  refine va_bast hx hb hK hP hD hS 1 0 rfl rfl (vp_in_nI (n := 8) (N := 65536) (by decide) (by decide)) dX13_feed_110 (fun H locs hP hD hS => ?_)
  obtain ⟨f_36, e9⟩ : ∃ z, z = upd f_32 (8 : Int32).toNatClampNeg (vp_nar .byte v_35) := ⟨_, rfl⟩
  have h_mt : fa f_36 [] := by rw [e9, show (8 : Int32).toNatClampNeg = 8 by decide +kernel]; exact (fa.lose h_mt).sub [] rfl
  have hP : va_P (dC, dI) CL [(m0, .inr (13, fs_33)), (mt, .inl (mtC, (65536, .inl f_36)))] H := by rw [e9]; exact hP
  have hD : va_D A [(m0, .inr (13, fs_33)), (mt, .inl (mtC, (65536, .inl f_36)))] := by rw [e9]; exact hD
  clear e9
  refine lv_aload_n hx hb dX13_feed_111 rfl (lv_at hl 2 rfl) ?_
  refine lv_dup hx hb dX13_feed_112 rfl ?_
  refine va_get (D := (dC, dI)) (ci := 13) (v := .int 8) (C := RX13) (T := TX13) (N := 225) hx hb hts inX13 hown hK hP 0 rfl rfl 2 (by decide) (hts (.fieldLink RX13 555 "ChipFlowModel" "size" "I") wd_3034) (fun _ h9 => h9) (h_m0.get 2 rfl) dX13_feed_113 ?_
  refine lv_iconst (v := 1) hx hb dX13_feed_116 (by decide +kernel) ?_
  refine lv_iadd hx hb dX13_feed_117 ?_
  refine lv_topi (fun v9 e9 => ?_)
  obtain rfl : v9 = 9 := e9.trans (by decide +kernel)
  refine va_put (D := (dC, dI)) (ci := 13) (v := .int 9) (ty := tyX13 2) (C := RX13) (T := TX13) (N := 225) hx hb hts inX13 tyX13 tyX13_ok nmX13 hown hK hP hD hS 0 rfl rfl 2 (by decide) (hts (.fieldLink RX13 555 "ChipFlowModel" "size" "I") wd_3034) (fun _ h9 => h9) rfl (by decide +kernel) rfl rfl (by rw [h_m0.1]; decide) dX13_feed_118 (fun H locs hP hD hS => ?_)
  obtain ⟨fs_37, e9⟩ : ∃ z, z = fs_33.set 2 (.int 9) := ⟨_, rfl⟩
  have h_m0 : fx fs_37 225 [(0, .int 0), (1, .ref mt), (2, .int 9), (3, .int 0), (9, .int 0), (10, .int 0), (11, .int 0), (12, .int 0), (27, .int 0), (79, .int 0), (83, .int 0), (95, .int 0)] := by rw [e9]; exact (h_m0.put (F' := [(2, .int 9), (0, .int 0), (1, .ref mt), (3, .int 0), (9, .int 0), (10, .int 0), (11, .int 0), (12, .int 0), (27, .int 0), (79, .int 0), (83, .int 0), (95, .int 0)]) (by decide) _ rfl).sub [1, 2, 0, 3, 4, 5, 6, 7, 8, 9, 10, 11] rfl
  have hP : va_P (dC, dI) CL [(m0, .inr (13, fs_37)), (mt, .inl (mtC, (65536, .inl f_36)))] H := by rw [e9]; exact hP
  have hD : va_D A [(m0, .inr (13, fs_37)), (mt, .inl (mtC, (65536, .inl f_36)))] := by rw [e9]; exact hD
  clear e9
  refine lv_iinc (v := 9) (lv' := [(6, .int 9), (7, .int p2), (0, .ref m0), (1, .int p0), (2, .int p1), (3, .int p2), (4, .int p3), (5, .int p4)]) hx hb dX13_feed_121 hl (k := 1) rfl (by decide +kernel) (by decide) rfl (fun ls hl => ?_)
  refine lv_goto (tgt := 33) hx hb dX13_feed_124 (by decide) ?_
  refine lv_iload hx hb dX13_feed_33 (lv_at hl 0 rfl) ?_
  refine lv_bipush (v := 20) hx hb dX13_feed_35 (by decide +kernel) ?_
  refine lv_icmp_ge (tgt := 127) hx hb dX13_feed_37 (by decide) (fun c9 => ?_) (fun c9 => ?_)
  · first | exact absurd c9 (by decide +kernel) | exact absurd (by decide +kernel) c9
  refine lv_iload hx hb dX13_feed_40 (lv_at hl 0 rfl) ?_
  refine lv_iconst (v := 4) hx hb dX13_feed_42 (by decide +kernel) ?_
  refine lv_icmp_ge (tgt := 50) hx hb dX13_feed_43 (by decide) (fun c9 => ?_) (fun c9 => ?_)
  rotate_left
  · first | exact absurd c9 (by decide +kernel) | exact absurd (by decide +kernel) c9
  refine lv_iload hx hb dX13_feed_50 (lv_at hl 0 rfl) ?_
  refine lv_bipush (v := 8) hx hb dX13_feed_52 (by decide +kernel) ?_
  refine lv_icmp_ge (tgt := 61) hx hb dX13_feed_54 (by decide) (fun c9 => ?_) (fun c9 => ?_)
  rotate_left
  · first | exact absurd c9 (by decide +kernel) | exact absurd (by decide +kernel) c9
  refine lv_iload hx hb dX13_feed_61 (lv_at hl 0 rfl) ?_
  refine lv_bipush (v := 12) hx hb dX13_feed_63 (by decide +kernel) ?_
  refine lv_icmp_ge (tgt := 72) hx hb dX13_feed_65 (by decide) (fun c9 => ?_) (fun c9 => ?_)
  · first | exact absurd c9 (by decide +kernel) | exact absurd (by decide +kernel) c9
  refine lv_iload_n hx hb dX13_feed_68 rfl (lv_at hl 5 rfl) ?_
  refine lv_goto (tgt := 86) hx hb dX13_feed_69 (by decide) ?_
  refine lv_istore (lv' := [(7, .int p2), (6, .int 9), (0, .ref m0), (1, .int p0), (2, .int p1), (3, .int p2), (4, .int p3), (5, .int p4)]) hx hb dX13_feed_86 hl (by decide) rfl (fun ls hl => ?_)
  refine lv_aload_n hx hb dX13_feed_88 rfl (lv_at hl 2 rfl) ?_
  refine va_get (D := (dC, dI)) (ci := 13) (v := .ref mt) (C := RX13) (T := TX13) (N := 225) hx hb hts inX13 hown hK hP 0 rfl rfl 1 (by decide) (hts (.fieldLink RX13 14 "ChipFlowModel" "tape" "[B") wd_3033) (fun _ h9 => h9) (h_m0.get 1 rfl) dX13_feed_89 ?_
  refine lv_aload_n hx hb dX13_feed_92 rfl (lv_at hl 2 rfl) ?_
  refine va_get (D := (dC, dI)) (ci := 13) (v := .int 9) (C := RX13) (T := TX13) (N := 225) hx hb hts inX13 hown hK hP 0 rfl rfl 2 (by decide) (hts (.fieldLink RX13 555 "ChipFlowModel" "size" "I") wd_3034) (fun _ h9 => h9) (h_m0.get 2 rfl) dX13_feed_93 ?_
  refine lv_iload hx hb dX13_feed_96 (lv_at hl 0 rfl) ?_
  refine lv_bipush (v := 24) hx hb dX13_feed_98 (by decide +kernel) ?_
  refine lv_bipush (v := 8) hx hb dX13_feed_100 (by decide +kernel) ?_
  refine lv_iload hx hb dX13_feed_102 (lv_at hl 1 rfl) ?_
  refine lv_iconst (v := 3) hx hb dX13_feed_104 (by decide +kernel) ?_
  refine lv_iand hx hb dX13_feed_105 ?_
  refine lv_topi (fun v9 e9 => ?_)
  obtain rfl : v9 = 1 := e9.trans (by decide +kernel)
  refine lv_imul hx hb dX13_feed_106 ?_
  refine lv_topi (fun v9 e9 => ?_)
  obtain rfl : v9 = 8 := e9.trans (by decide +kernel)
  refine lv_isub hx hb dX13_feed_107 ?_
  refine lv_topi (fun v9 e9 => ?_)
  obtain rfl : v9 = 16 := e9.trans (by decide +kernel)
  refine lv_ishr hx hb dX13_feed_108 ?_
  refine lv_topi (fun v_38 _ => ?_)
  refine lv_i2b hx hb dX13_feed_109 rfl ?_
  refine lv_topi (fun v_39 _ => ?_)
  refine va_bast hx hb hK hP hD hS 1 0 rfl rfl (vp_in_nI (n := 9) (N := 65536) (by decide) (by decide)) dX13_feed_110 (fun H locs hP hD hS => ?_)
  obtain ⟨f_40, e9⟩ : ∃ z, z = upd f_36 (9 : Int32).toNatClampNeg (vp_nar .byte v_39) := ⟨_, rfl⟩
  have h_mt : fa f_40 [] := by rw [e9, show (9 : Int32).toNatClampNeg = 9 by decide +kernel]; exact (fa.lose h_mt).sub [] rfl
  have hP : va_P (dC, dI) CL [(m0, .inr (13, fs_37)), (mt, .inl (mtC, (65536, .inl f_40)))] H := by rw [e9]; exact hP
  have hD : va_D A [(m0, .inr (13, fs_37)), (mt, .inl (mtC, (65536, .inl f_40)))] := by rw [e9]; exact hD
  clear e9
  refine lv_aload_n hx hb dX13_feed_111 rfl (lv_at hl 2 rfl) ?_
  refine lv_dup hx hb dX13_feed_112 rfl ?_
  refine va_get (D := (dC, dI)) (ci := 13) (v := .int 9) (C := RX13) (T := TX13) (N := 225) hx hb hts inX13 hown hK hP 0 rfl rfl 2 (by decide) (hts (.fieldLink RX13 555 "ChipFlowModel" "size" "I") wd_3034) (fun _ h9 => h9) (h_m0.get 2 rfl) dX13_feed_113 ?_
  refine lv_iconst (v := 1) hx hb dX13_feed_116 (by decide +kernel) ?_
  refine lv_iadd hx hb dX13_feed_117 ?_
  refine lv_topi (fun v9 e9 => ?_)
  obtain rfl : v9 = 10 := e9.trans (by decide +kernel)
  refine va_put (D := (dC, dI)) (ci := 13) (v := .int 10) (ty := tyX13 2) (C := RX13) (T := TX13) (N := 225) hx hb hts inX13 tyX13 tyX13_ok nmX13 hown hK hP hD hS 0 rfl rfl 2 (by decide) (hts (.fieldLink RX13 555 "ChipFlowModel" "size" "I") wd_3034) (fun _ h9 => h9) rfl (by decide +kernel) rfl rfl (by rw [h_m0.1]; decide) dX13_feed_118 (fun H locs hP hD hS => ?_)
  obtain ⟨fs_41, e9⟩ : ∃ z, z = fs_37.set 2 (.int 10) := ⟨_, rfl⟩
  have h_m0 : fx fs_41 225 [(0, .int 0), (1, .ref mt), (2, .int 10), (3, .int 0), (9, .int 0), (10, .int 0), (11, .int 0), (12, .int 0), (27, .int 0), (79, .int 0), (83, .int 0), (95, .int 0)] := by rw [e9]; exact (h_m0.put (F' := [(2, .int 10), (0, .int 0), (1, .ref mt), (3, .int 0), (9, .int 0), (10, .int 0), (11, .int 0), (12, .int 0), (27, .int 0), (79, .int 0), (83, .int 0), (95, .int 0)]) (by decide) _ rfl).sub [1, 2, 0, 3, 4, 5, 6, 7, 8, 9, 10, 11] rfl
  have hP : va_P (dC, dI) CL [(m0, .inr (13, fs_41)), (mt, .inl (mtC, (65536, .inl f_40)))] H := by rw [e9]; exact hP
  have hD : va_D A [(m0, .inr (13, fs_41)), (mt, .inl (mtC, (65536, .inl f_40)))] := by rw [e9]; exact hD
  clear e9
  refine lv_iinc (v := 10) (lv' := [(6, .int 10), (7, .int p2), (0, .ref m0), (1, .int p0), (2, .int p1), (3, .int p2), (4, .int p3), (5, .int p4)]) hx hb dX13_feed_121 hl (k := 1) rfl (by decide +kernel) (by decide) rfl (fun ls hl => ?_)
  refine lv_goto (tgt := 33) hx hb dX13_feed_124 (by decide) ?_
  refine lv_iload hx hb dX13_feed_33 (lv_at hl 0 rfl) ?_
  refine lv_bipush (v := 20) hx hb dX13_feed_35 (by decide +kernel) ?_
  refine lv_icmp_ge (tgt := 127) hx hb dX13_feed_37 (by decide) (fun c9 => ?_) (fun c9 => ?_)
  · first | exact absurd c9 (by decide +kernel) | exact absurd (by decide +kernel) c9
  refine lv_iload hx hb dX13_feed_40 (lv_at hl 0 rfl) ?_
  refine lv_iconst (v := 4) hx hb dX13_feed_42 (by decide +kernel) ?_
  refine lv_icmp_ge (tgt := 50) hx hb dX13_feed_43 (by decide) (fun c9 => ?_) (fun c9 => ?_)
  rotate_left
  · first | exact absurd c9 (by decide +kernel) | exact absurd (by decide +kernel) c9
  refine lv_iload hx hb dX13_feed_50 (lv_at hl 0 rfl) ?_
  refine lv_bipush (v := 8) hx hb dX13_feed_52 (by decide +kernel) ?_
  refine lv_icmp_ge (tgt := 61) hx hb dX13_feed_54 (by decide) (fun c9 => ?_) (fun c9 => ?_)
  rotate_left
  · first | exact absurd c9 (by decide +kernel) | exact absurd (by decide +kernel) c9
  refine lv_iload hx hb dX13_feed_61 (lv_at hl 0 rfl) ?_
  refine lv_bipush (v := 12) hx hb dX13_feed_63 (by decide +kernel) ?_
  refine lv_icmp_ge (tgt := 72) hx hb dX13_feed_65 (by decide) (fun c9 => ?_) (fun c9 => ?_)
  · first | exact absurd c9 (by decide +kernel) | exact absurd (by decide +kernel) c9
  refine lv_iload_n hx hb dX13_feed_68 rfl (lv_at hl 5 rfl) ?_
  refine lv_goto (tgt := 86) hx hb dX13_feed_69 (by decide) ?_
  refine lv_istore (lv' := [(7, .int p2), (6, .int 10), (0, .ref m0), (1, .int p0), (2, .int p1), (3, .int p2), (4, .int p3), (5, .int p4)]) hx hb dX13_feed_86 hl (by decide) rfl (fun ls hl => ?_)
  refine lv_aload_n hx hb dX13_feed_88 rfl (lv_at hl 2 rfl) ?_
  refine va_get (D := (dC, dI)) (ci := 13) (v := .ref mt) (C := RX13) (T := TX13) (N := 225) hx hb hts inX13 hown hK hP 0 rfl rfl 1 (by decide) (hts (.fieldLink RX13 14 "ChipFlowModel" "tape" "[B") wd_3033) (fun _ h9 => h9) (h_m0.get 1 rfl) dX13_feed_89 ?_
  refine lv_aload_n hx hb dX13_feed_92 rfl (lv_at hl 2 rfl) ?_
  refine va_get (D := (dC, dI)) (ci := 13) (v := .int 10) (C := RX13) (T := TX13) (N := 225) hx hb hts inX13 hown hK hP 0 rfl rfl 2 (by decide) (hts (.fieldLink RX13 555 "ChipFlowModel" "size" "I") wd_3034) (fun _ h9 => h9) (h_m0.get 2 rfl) dX13_feed_93 ?_
  refine lv_iload hx hb dX13_feed_96 (lv_at hl 0 rfl) ?_
  refine lv_bipush (v := 24) hx hb dX13_feed_98 (by decide +kernel) ?_
  refine lv_bipush (v := 8) hx hb dX13_feed_100 (by decide +kernel) ?_
  refine lv_iload hx hb dX13_feed_102 (lv_at hl 1 rfl) ?_
  refine lv_iconst (v := 3) hx hb dX13_feed_104 (by decide +kernel) ?_
  refine lv_iand hx hb dX13_feed_105 ?_
  refine lv_topi (fun v9 e9 => ?_)
  obtain rfl : v9 = 2 := e9.trans (by decide +kernel)
  refine lv_imul hx hb dX13_feed_106 ?_
  refine lv_topi (fun v9 e9 => ?_)
  obtain rfl : v9 = 16 := e9.trans (by decide +kernel)
  refine lv_isub hx hb dX13_feed_107 ?_
  refine lv_topi (fun v9 e9 => ?_)
  obtain rfl : v9 = 8 := e9.trans (by decide +kernel)
  refine lv_ishr hx hb dX13_feed_108 ?_
  refine lv_topi (fun v_42 _ => ?_)
  refine lv_i2b hx hb dX13_feed_109 rfl ?_
  refine lv_topi (fun v_43 _ => ?_)
  refine va_bast hx hb hK hP hD hS 1 0 rfl rfl (vp_in_nI (n := 10) (N := 65536) (by decide) (by decide)) dX13_feed_110 (fun H locs hP hD hS => ?_)
  obtain ⟨f_44, e9⟩ : ∃ z, z = upd f_40 (10 : Int32).toNatClampNeg (vp_nar .byte v_43) := ⟨_, rfl⟩
  have h_mt : fa f_44 [] := by rw [e9, show (10 : Int32).toNatClampNeg = 10 by decide +kernel]; exact (fa.lose h_mt).sub [] rfl
  have hP : va_P (dC, dI) CL [(m0, .inr (13, fs_41)), (mt, .inl (mtC, (65536, .inl f_44)))] H := by rw [e9]; exact hP
  have hD : va_D A [(m0, .inr (13, fs_41)), (mt, .inl (mtC, (65536, .inl f_44)))] := by rw [e9]; exact hD
  clear e9
  refine lv_aload_n hx hb dX13_feed_111 rfl (lv_at hl 2 rfl) ?_
  refine lv_dup hx hb dX13_feed_112 rfl ?_
  refine va_get (D := (dC, dI)) (ci := 13) (v := .int 10) (C := RX13) (T := TX13) (N := 225) hx hb hts inX13 hown hK hP 0 rfl rfl 2 (by decide) (hts (.fieldLink RX13 555 "ChipFlowModel" "size" "I") wd_3034) (fun _ h9 => h9) (h_m0.get 2 rfl) dX13_feed_113 ?_
  refine lv_iconst (v := 1) hx hb dX13_feed_116 (by decide +kernel) ?_
  refine lv_iadd hx hb dX13_feed_117 ?_
  refine lv_topi (fun v9 e9 => ?_)
  obtain rfl : v9 = 11 := e9.trans (by decide +kernel)
  refine va_put (D := (dC, dI)) (ci := 13) (v := .int 11) (ty := tyX13 2) (C := RX13) (T := TX13) (N := 225) hx hb hts inX13 tyX13 tyX13_ok nmX13 hown hK hP hD hS 0 rfl rfl 2 (by decide) (hts (.fieldLink RX13 555 "ChipFlowModel" "size" "I") wd_3034) (fun _ h9 => h9) rfl (by decide +kernel) rfl rfl (by rw [h_m0.1]; decide) dX13_feed_118 (fun H locs hP hD hS => ?_)
  obtain ⟨fs_45, e9⟩ : ∃ z, z = fs_41.set 2 (.int 11) := ⟨_, rfl⟩
  have h_m0 : fx fs_45 225 [(0, .int 0), (1, .ref mt), (2, .int 11), (3, .int 0), (9, .int 0), (10, .int 0), (11, .int 0), (12, .int 0), (27, .int 0), (79, .int 0), (83, .int 0), (95, .int 0)] := by rw [e9]; exact (h_m0.put (F' := [(2, .int 11), (0, .int 0), (1, .ref mt), (3, .int 0), (9, .int 0), (10, .int 0), (11, .int 0), (12, .int 0), (27, .int 0), (79, .int 0), (83, .int 0), (95, .int 0)]) (by decide) _ rfl).sub [1, 2, 0, 3, 4, 5, 6, 7, 8, 9, 10, 11] rfl
  have hP : va_P (dC, dI) CL [(m0, .inr (13, fs_45)), (mt, .inl (mtC, (65536, .inl f_44)))] H := by rw [e9]; exact hP
  have hD : va_D A [(m0, .inr (13, fs_45)), (mt, .inl (mtC, (65536, .inl f_44)))] := by rw [e9]; exact hD
  clear e9
  refine lv_iinc (v := 11) (lv' := [(6, .int 11), (7, .int p2), (0, .ref m0), (1, .int p0), (2, .int p1), (3, .int p2), (4, .int p3), (5, .int p4)]) hx hb dX13_feed_121 hl (k := 1) rfl (by decide +kernel) (by decide) rfl (fun ls hl => ?_)
  refine lv_goto (tgt := 33) hx hb dX13_feed_124 (by decide) ?_
  refine lv_iload hx hb dX13_feed_33 (lv_at hl 0 rfl) ?_
  refine lv_bipush (v := 20) hx hb dX13_feed_35 (by decide +kernel) ?_
  refine lv_icmp_ge (tgt := 127) hx hb dX13_feed_37 (by decide) (fun c9 => ?_) (fun c9 => ?_)
  · first | exact absurd c9 (by decide +kernel) | exact absurd (by decide +kernel) c9
  refine lv_iload hx hb dX13_feed_40 (lv_at hl 0 rfl) ?_
  refine lv_iconst (v := 4) hx hb dX13_feed_42 (by decide +kernel) ?_
  refine lv_icmp_ge (tgt := 50) hx hb dX13_feed_43 (by decide) (fun c9 => ?_) (fun c9 => ?_)
  rotate_left
  · first | exact absurd c9 (by decide +kernel) | exact absurd (by decide +kernel) c9
  refine lv_iload hx hb dX13_feed_50 (lv_at hl 0 rfl) ?_
  refine lv_bipush (v := 8) hx hb dX13_feed_52 (by decide +kernel) ?_
  refine lv_icmp_ge (tgt := 61) hx hb dX13_feed_54 (by decide) (fun c9 => ?_) (fun c9 => ?_)
  rotate_left
  · first | exact absurd c9 (by decide +kernel) | exact absurd (by decide +kernel) c9
  refine lv_iload hx hb dX13_feed_61 (lv_at hl 0 rfl) ?_
  refine lv_bipush (v := 12) hx hb dX13_feed_63 (by decide +kernel) ?_
  refine lv_icmp_ge (tgt := 72) hx hb dX13_feed_65 (by decide) (fun c9 => ?_) (fun c9 => ?_)
  · first | exact absurd c9 (by decide +kernel) | exact absurd (by decide +kernel) c9
  refine lv_iload_n hx hb dX13_feed_68 rfl (lv_at hl 5 rfl) ?_
  refine lv_goto (tgt := 86) hx hb dX13_feed_69 (by decide) ?_
  refine lv_istore (lv' := [(7, .int p2), (6, .int 11), (0, .ref m0), (1, .int p0), (2, .int p1), (3, .int p2), (4, .int p3), (5, .int p4)]) hx hb dX13_feed_86 hl (by decide) rfl (fun ls hl => ?_)
  refine lv_aload_n hx hb dX13_feed_88 rfl (lv_at hl 2 rfl) ?_
  refine va_get (D := (dC, dI)) (ci := 13) (v := .ref mt) (C := RX13) (T := TX13) (N := 225) hx hb hts inX13 hown hK hP 0 rfl rfl 1 (by decide) (hts (.fieldLink RX13 14 "ChipFlowModel" "tape" "[B") wd_3033) (fun _ h9 => h9) (h_m0.get 1 rfl) dX13_feed_89 ?_
  refine lv_aload_n hx hb dX13_feed_92 rfl (lv_at hl 2 rfl) ?_
  refine va_get (D := (dC, dI)) (ci := 13) (v := .int 11) (C := RX13) (T := TX13) (N := 225) hx hb hts inX13 hown hK hP 0 rfl rfl 2 (by decide) (hts (.fieldLink RX13 555 "ChipFlowModel" "size" "I") wd_3034) (fun _ h9 => h9) (h_m0.get 2 rfl) dX13_feed_93 ?_
  refine lv_iload hx hb dX13_feed_96 (lv_at hl 0 rfl) ?_
  refine lv_bipush (v := 24) hx hb dX13_feed_98 (by decide +kernel) ?_
  refine lv_bipush (v := 8) hx hb dX13_feed_100 (by decide +kernel) ?_
  refine lv_iload hx hb dX13_feed_102 (lv_at hl 1 rfl) ?_
  refine lv_iconst (v := 3) hx hb dX13_feed_104 (by decide +kernel) ?_
  refine lv_iand hx hb dX13_feed_105 ?_
  refine lv_topi (fun v9 e9 => ?_)
  obtain rfl : v9 = 3 := e9.trans (by decide +kernel)
  refine lv_imul hx hb dX13_feed_106 ?_
  refine lv_topi (fun v9 e9 => ?_)
  obtain rfl : v9 = 24 := e9.trans (by decide +kernel)
  refine lv_isub hx hb dX13_feed_107 ?_
  refine lv_topi (fun v9 e9 => ?_)
  obtain rfl : v9 = 0 := e9.trans (by decide +kernel)
  refine lv_ishr hx hb dX13_feed_108 ?_
  refine lv_topi (fun v_46 _ => ?_)
  refine lv_i2b hx hb dX13_feed_109 rfl ?_
  refine lv_topi (fun v_47 _ => ?_)
  refine va_bast hx hb hK hP hD hS 1 0 rfl rfl (vp_in_nI (n := 11) (N := 65536) (by decide) (by decide)) dX13_feed_110 (fun H locs hP hD hS => ?_)
  obtain ⟨f_48, e9⟩ : ∃ z, z = upd f_44 (11 : Int32).toNatClampNeg (vp_nar .byte v_47) := ⟨_, rfl⟩
  have h_mt : fa f_48 [] := by rw [e9, show (11 : Int32).toNatClampNeg = 11 by decide +kernel]; exact (fa.lose h_mt).sub [] rfl
  have hP : va_P (dC, dI) CL [(m0, .inr (13, fs_45)), (mt, .inl (mtC, (65536, .inl f_48)))] H := by rw [e9]; exact hP
  have hD : va_D A [(m0, .inr (13, fs_45)), (mt, .inl (mtC, (65536, .inl f_48)))] := by rw [e9]; exact hD
  clear e9
  refine lv_aload_n hx hb dX13_feed_111 rfl (lv_at hl 2 rfl) ?_
  refine lv_dup hx hb dX13_feed_112 rfl ?_
  refine va_get (D := (dC, dI)) (ci := 13) (v := .int 11) (C := RX13) (T := TX13) (N := 225) hx hb hts inX13 hown hK hP 0 rfl rfl 2 (by decide) (hts (.fieldLink RX13 555 "ChipFlowModel" "size" "I") wd_3034) (fun _ h9 => h9) (h_m0.get 2 rfl) dX13_feed_113 ?_
  refine lv_iconst (v := 1) hx hb dX13_feed_116 (by decide +kernel) ?_
  refine lv_iadd hx hb dX13_feed_117 ?_
  refine lv_topi (fun v9 e9 => ?_)
  obtain rfl : v9 = 12 := e9.trans (by decide +kernel)
  refine va_put (D := (dC, dI)) (ci := 13) (v := .int 12) (ty := tyX13 2) (C := RX13) (T := TX13) (N := 225) hx hb hts inX13 tyX13 tyX13_ok nmX13 hown hK hP hD hS 0 rfl rfl 2 (by decide) (hts (.fieldLink RX13 555 "ChipFlowModel" "size" "I") wd_3034) (fun _ h9 => h9) rfl (by decide +kernel) rfl rfl (by rw [h_m0.1]; decide) dX13_feed_118 (fun H locs hP hD hS => ?_)
  obtain ⟨fs_49, e9⟩ : ∃ z, z = fs_45.set 2 (.int 12) := ⟨_, rfl⟩
  have h_m0 : fx fs_49 225 [(0, .int 0), (1, .ref mt), (2, .int 12), (3, .int 0), (9, .int 0), (10, .int 0), (11, .int 0), (12, .int 0), (27, .int 0), (79, .int 0), (83, .int 0), (95, .int 0)] := by rw [e9]; exact (h_m0.put (F' := [(2, .int 12), (0, .int 0), (1, .ref mt), (3, .int 0), (9, .int 0), (10, .int 0), (11, .int 0), (12, .int 0), (27, .int 0), (79, .int 0), (83, .int 0), (95, .int 0)]) (by decide) _ rfl).sub [1, 2, 0, 3, 4, 5, 6, 7, 8, 9, 10, 11] rfl
  have hP : va_P (dC, dI) CL [(m0, .inr (13, fs_49)), (mt, .inl (mtC, (65536, .inl f_48)))] H := by rw [e9]; exact hP
  have hD : va_D A [(m0, .inr (13, fs_49)), (mt, .inl (mtC, (65536, .inl f_48)))] := by rw [e9]; exact hD
  clear e9
  refine lv_iinc (v := 12) (lv' := [(6, .int 12), (7, .int p2), (0, .ref m0), (1, .int p0), (2, .int p1), (3, .int p2), (4, .int p3), (5, .int p4)]) hx hb dX13_feed_121 hl (k := 1) rfl (by decide +kernel) (by decide) rfl (fun ls hl => ?_)
  refine lv_goto (tgt := 33) hx hb dX13_feed_124 (by decide) ?_
  refine lv_iload hx hb dX13_feed_33 (lv_at hl 0 rfl) ?_
  refine lv_bipush (v := 20) hx hb dX13_feed_35 (by decide +kernel) ?_
  refine lv_icmp_ge (tgt := 127) hx hb dX13_feed_37 (by decide) (fun c9 => ?_) (fun c9 => ?_)
  · first | exact absurd c9 (by decide +kernel) | exact absurd (by decide +kernel) c9
  refine lv_iload hx hb dX13_feed_40 (lv_at hl 0 rfl) ?_
  refine lv_iconst (v := 4) hx hb dX13_feed_42 (by decide +kernel) ?_
  refine lv_icmp_ge (tgt := 50) hx hb dX13_feed_43 (by decide) (fun c9 => ?_) (fun c9 => ?_)
  rotate_left
  · first | exact absurd c9 (by decide +kernel) | exact absurd (by decide +kernel) c9
  refine lv_iload hx hb dX13_feed_50 (lv_at hl 0 rfl) ?_
  refine lv_bipush (v := 8) hx hb dX13_feed_52 (by decide +kernel) ?_
  refine lv_icmp_ge (tgt := 61) hx hb dX13_feed_54 (by decide) (fun c9 => ?_) (fun c9 => ?_)
  rotate_left
  · first | exact absurd c9 (by decide +kernel) | exact absurd (by decide +kernel) c9
  refine lv_iload hx hb dX13_feed_61 (lv_at hl 0 rfl) ?_
  refine lv_bipush (v := 12) hx hb dX13_feed_63 (by decide +kernel) ?_
  refine lv_icmp_ge (tgt := 72) hx hb dX13_feed_65 (by decide) (fun c9 => ?_) (fun c9 => ?_)
  rotate_left
  · first | exact absurd c9 (by decide +kernel) | exact absurd (by decide +kernel) c9
  refine lv_iload hx hb dX13_feed_72 (lv_at hl 0 rfl) ?_
  refine lv_bipush (v := 16) hx hb dX13_feed_74 (by decide +kernel) ?_
  refine lv_icmp_ge (tgt := 84) hx hb dX13_feed_76 (by decide) (fun c9 => ?_) (fun c9 => ?_)
  · first | exact absurd c9 (by decide +kernel) | exact absurd (by decide +kernel) c9
  refine lv_iload hx hb dX13_feed_79 (lv_at hl 6 rfl) ?_
  refine lv_goto (tgt := 86) hx hb dX13_feed_81 (by decide) ?_
  refine lv_istore (lv' := [(7, .int p3), (6, .int 12), (0, .ref m0), (1, .int p0), (2, .int p1), (3, .int p2), (4, .int p3), (5, .int p4)]) hx hb dX13_feed_86 hl (by decide) rfl (fun ls hl => ?_)
  refine lv_aload_n hx hb dX13_feed_88 rfl (lv_at hl 2 rfl) ?_
  refine va_get (D := (dC, dI)) (ci := 13) (v := .ref mt) (C := RX13) (T := TX13) (N := 225) hx hb hts inX13 hown hK hP 0 rfl rfl 1 (by decide) (hts (.fieldLink RX13 14 "ChipFlowModel" "tape" "[B") wd_3033) (fun _ h9 => h9) (h_m0.get 1 rfl) dX13_feed_89 ?_
  refine lv_aload_n hx hb dX13_feed_92 rfl (lv_at hl 2 rfl) ?_
  refine va_get (D := (dC, dI)) (ci := 13) (v := .int 12) (C := RX13) (T := TX13) (N := 225) hx hb hts inX13 hown hK hP 0 rfl rfl 2 (by decide) (hts (.fieldLink RX13 555 "ChipFlowModel" "size" "I") wd_3034) (fun _ h9 => h9) (h_m0.get 2 rfl) dX13_feed_93 ?_
  refine lv_iload hx hb dX13_feed_96 (lv_at hl 0 rfl) ?_
  refine lv_bipush (v := 24) hx hb dX13_feed_98 (by decide +kernel) ?_
  refine lv_bipush (v := 8) hx hb dX13_feed_100 (by decide +kernel) ?_
  refine lv_iload hx hb dX13_feed_102 (lv_at hl 1 rfl) ?_
  refine lv_iconst (v := 3) hx hb dX13_feed_104 (by decide +kernel) ?_
  refine lv_iand hx hb dX13_feed_105 ?_
  refine lv_topi (fun v9 e9 => ?_)
  obtain rfl : v9 = 0 := e9.trans (by decide +kernel)
  refine lv_imul hx hb dX13_feed_106 ?_
  refine lv_topi (fun v9 e9 => ?_)
  obtain rfl : v9 = 0 := e9.trans (by decide +kernel)
  refine lv_isub hx hb dX13_feed_107 ?_
  refine lv_topi (fun v9 e9 => ?_)
  obtain rfl : v9 = 24 := e9.trans (by decide +kernel)
  refine lv_ishr hx hb dX13_feed_108 ?_
  refine lv_topi (fun v_50 _ => ?_)
  refine lv_i2b hx hb dX13_feed_109 rfl ?_
  refine lv_topi (fun v_51 _ => ?_)
  refine va_bast hx hb hK hP hD hS 1 0 rfl rfl (vp_in_nI (n := 12) (N := 65536) (by decide) (by decide)) dX13_feed_110 (fun H locs hP hD hS => ?_)
  obtain ⟨f_52, e9⟩ : ∃ z, z = upd f_48 (12 : Int32).toNatClampNeg (vp_nar .byte v_51) := ⟨_, rfl⟩
  have h_mt : fa f_52 [] := by rw [e9, show (12 : Int32).toNatClampNeg = 12 by decide +kernel]; exact (fa.lose h_mt).sub [] rfl
  have hP : va_P (dC, dI) CL [(m0, .inr (13, fs_49)), (mt, .inl (mtC, (65536, .inl f_52)))] H := by rw [e9]; exact hP
  have hD : va_D A [(m0, .inr (13, fs_49)), (mt, .inl (mtC, (65536, .inl f_52)))] := by rw [e9]; exact hD
  clear e9
  refine lv_aload_n hx hb dX13_feed_111 rfl (lv_at hl 2 rfl) ?_
  refine lv_dup hx hb dX13_feed_112 rfl ?_
  refine va_get (D := (dC, dI)) (ci := 13) (v := .int 12) (C := RX13) (T := TX13) (N := 225) hx hb hts inX13 hown hK hP 0 rfl rfl 2 (by decide) (hts (.fieldLink RX13 555 "ChipFlowModel" "size" "I") wd_3034) (fun _ h9 => h9) (h_m0.get 2 rfl) dX13_feed_113 ?_
  refine lv_iconst (v := 1) hx hb dX13_feed_116 (by decide +kernel) ?_
  refine lv_iadd hx hb dX13_feed_117 ?_
  refine lv_topi (fun v9 e9 => ?_)
  obtain rfl : v9 = 13 := e9.trans (by decide +kernel)
  refine va_put (D := (dC, dI)) (ci := 13) (v := .int 13) (ty := tyX13 2) (C := RX13) (T := TX13) (N := 225) hx hb hts inX13 tyX13 tyX13_ok nmX13 hown hK hP hD hS 0 rfl rfl 2 (by decide) (hts (.fieldLink RX13 555 "ChipFlowModel" "size" "I") wd_3034) (fun _ h9 => h9) rfl (by decide +kernel) rfl rfl (by rw [h_m0.1]; decide) dX13_feed_118 (fun H locs hP hD hS => ?_)
  obtain ⟨fs_53, e9⟩ : ∃ z, z = fs_49.set 2 (.int 13) := ⟨_, rfl⟩
  have h_m0 : fx fs_53 225 [(0, .int 0), (1, .ref mt), (2, .int 13), (3, .int 0), (9, .int 0), (10, .int 0), (11, .int 0), (12, .int 0), (27, .int 0), (79, .int 0), (83, .int 0), (95, .int 0)] := by rw [e9]; exact (h_m0.put (F' := [(2, .int 13), (0, .int 0), (1, .ref mt), (3, .int 0), (9, .int 0), (10, .int 0), (11, .int 0), (12, .int 0), (27, .int 0), (79, .int 0), (83, .int 0), (95, .int 0)]) (by decide) _ rfl).sub [1, 2, 0, 3, 4, 5, 6, 7, 8, 9, 10, 11] rfl
  have hP : va_P (dC, dI) CL [(m0, .inr (13, fs_53)), (mt, .inl (mtC, (65536, .inl f_52)))] H := by rw [e9]; exact hP
  have hD : va_D A [(m0, .inr (13, fs_53)), (mt, .inl (mtC, (65536, .inl f_52)))] := by rw [e9]; exact hD
  clear e9
  refine lv_iinc (v := 13) (lv' := [(6, .int 13), (7, .int p3), (0, .ref m0), (1, .int p0), (2, .int p1), (3, .int p2), (4, .int p3), (5, .int p4)]) hx hb dX13_feed_121 hl (k := 1) rfl (by decide +kernel) (by decide) rfl (fun ls hl => ?_)
  refine lv_goto (tgt := 33) hx hb dX13_feed_124 (by decide) ?_
  refine lv_iload hx hb dX13_feed_33 (lv_at hl 0 rfl) ?_
  refine lv_bipush (v := 20) hx hb dX13_feed_35 (by decide +kernel) ?_
  refine lv_icmp_ge (tgt := 127) hx hb dX13_feed_37 (by decide) (fun c9 => ?_) (fun c9 => ?_)
  · first | exact absurd c9 (by decide +kernel) | exact absurd (by decide +kernel) c9
  refine lv_iload hx hb dX13_feed_40 (lv_at hl 0 rfl) ?_
  refine lv_iconst (v := 4) hx hb dX13_feed_42 (by decide +kernel) ?_
  refine lv_icmp_ge (tgt := 50) hx hb dX13_feed_43 (by decide) (fun c9 => ?_) (fun c9 => ?_)
  rotate_left
  · first | exact absurd c9 (by decide +kernel) | exact absurd (by decide +kernel) c9
  refine lv_iload hx hb dX13_feed_50 (lv_at hl 0 rfl) ?_
  refine lv_bipush (v := 8) hx hb dX13_feed_52 (by decide +kernel) ?_
  refine lv_icmp_ge (tgt := 61) hx hb dX13_feed_54 (by decide) (fun c9 => ?_) (fun c9 => ?_)
  rotate_left
  · first | exact absurd c9 (by decide +kernel) | exact absurd (by decide +kernel) c9
  refine lv_iload hx hb dX13_feed_61 (lv_at hl 0 rfl) ?_
  refine lv_bipush (v := 12) hx hb dX13_feed_63 (by decide +kernel) ?_
  refine lv_icmp_ge (tgt := 72) hx hb dX13_feed_65 (by decide) (fun c9 => ?_) (fun c9 => ?_)
  rotate_left
  · first | exact absurd c9 (by decide +kernel) | exact absurd (by decide +kernel) c9
  refine lv_iload hx hb dX13_feed_72 (lv_at hl 0 rfl) ?_
  refine lv_bipush (v := 16) hx hb dX13_feed_74 (by decide +kernel) ?_
  refine lv_icmp_ge (tgt := 84) hx hb dX13_feed_76 (by decide) (fun c9 => ?_) (fun c9 => ?_)
  · first | exact absurd c9 (by decide +kernel) | exact absurd (by decide +kernel) c9
  refine lv_iload hx hb dX13_feed_79 (lv_at hl 6 rfl) ?_
  refine lv_goto (tgt := 86) hx hb dX13_feed_81 (by decide) ?_
  refine lv_istore (lv' := [(7, .int p3), (6, .int 13), (0, .ref m0), (1, .int p0), (2, .int p1), (3, .int p2), (4, .int p3), (5, .int p4)]) hx hb dX13_feed_86 hl (by decide) rfl (fun ls hl => ?_)
  refine lv_aload_n hx hb dX13_feed_88 rfl (lv_at hl 2 rfl) ?_
  refine va_get (D := (dC, dI)) (ci := 13) (v := .ref mt) (C := RX13) (T := TX13) (N := 225) hx hb hts inX13 hown hK hP 0 rfl rfl 1 (by decide) (hts (.fieldLink RX13 14 "ChipFlowModel" "tape" "[B") wd_3033) (fun _ h9 => h9) (h_m0.get 1 rfl) dX13_feed_89 ?_
  refine lv_aload_n hx hb dX13_feed_92 rfl (lv_at hl 2 rfl) ?_
  refine va_get (D := (dC, dI)) (ci := 13) (v := .int 13) (C := RX13) (T := TX13) (N := 225) hx hb hts inX13 hown hK hP 0 rfl rfl 2 (by decide) (hts (.fieldLink RX13 555 "ChipFlowModel" "size" "I") wd_3034) (fun _ h9 => h9) (h_m0.get 2 rfl) dX13_feed_93 ?_
  refine lv_iload hx hb dX13_feed_96 (lv_at hl 0 rfl) ?_
  refine lv_bipush (v := 24) hx hb dX13_feed_98 (by decide +kernel) ?_
  refine lv_bipush (v := 8) hx hb dX13_feed_100 (by decide +kernel) ?_
  refine lv_iload hx hb dX13_feed_102 (lv_at hl 1 rfl) ?_
  refine lv_iconst (v := 3) hx hb dX13_feed_104 (by decide +kernel) ?_
  refine lv_iand hx hb dX13_feed_105 ?_
  refine lv_topi (fun v9 e9 => ?_)
  obtain rfl : v9 = 1 := e9.trans (by decide +kernel)
  refine lv_imul hx hb dX13_feed_106 ?_
  refine lv_topi (fun v9 e9 => ?_)
  obtain rfl : v9 = 8 := e9.trans (by decide +kernel)
  refine lv_isub hx hb dX13_feed_107 ?_
  refine lv_topi (fun v9 e9 => ?_)
  obtain rfl : v9 = 16 := e9.trans (by decide +kernel)
  refine lv_ishr hx hb dX13_feed_108 ?_
  refine lv_topi (fun v_54 _ => ?_)
  refine lv_i2b hx hb dX13_feed_109 rfl ?_
  refine lv_topi (fun v_55 _ => ?_)
  refine va_bast hx hb hK hP hD hS 1 0 rfl rfl (vp_in_nI (n := 13) (N := 65536) (by decide) (by decide)) dX13_feed_110 (fun H locs hP hD hS => ?_)
  obtain ⟨f_56, e9⟩ : ∃ z, z = upd f_52 (13 : Int32).toNatClampNeg (vp_nar .byte v_55) := ⟨_, rfl⟩
  have h_mt : fa f_56 [] := by rw [e9, show (13 : Int32).toNatClampNeg = 13 by decide +kernel]; exact (fa.lose h_mt).sub [] rfl
  have hP : va_P (dC, dI) CL [(m0, .inr (13, fs_53)), (mt, .inl (mtC, (65536, .inl f_56)))] H := by rw [e9]; exact hP
  have hD : va_D A [(m0, .inr (13, fs_53)), (mt, .inl (mtC, (65536, .inl f_56)))] := by rw [e9]; exact hD
  clear e9
  refine lv_aload_n hx hb dX13_feed_111 rfl (lv_at hl 2 rfl) ?_
  refine lv_dup hx hb dX13_feed_112 rfl ?_
  refine va_get (D := (dC, dI)) (ci := 13) (v := .int 13) (C := RX13) (T := TX13) (N := 225) hx hb hts inX13 hown hK hP 0 rfl rfl 2 (by decide) (hts (.fieldLink RX13 555 "ChipFlowModel" "size" "I") wd_3034) (fun _ h9 => h9) (h_m0.get 2 rfl) dX13_feed_113 ?_
  refine lv_iconst (v := 1) hx hb dX13_feed_116 (by decide +kernel) ?_
  refine lv_iadd hx hb dX13_feed_117 ?_
  refine lv_topi (fun v9 e9 => ?_)
  obtain rfl : v9 = 14 := e9.trans (by decide +kernel)
  refine va_put (D := (dC, dI)) (ci := 13) (v := .int 14) (ty := tyX13 2) (C := RX13) (T := TX13) (N := 225) hx hb hts inX13 tyX13 tyX13_ok nmX13 hown hK hP hD hS 0 rfl rfl 2 (by decide) (hts (.fieldLink RX13 555 "ChipFlowModel" "size" "I") wd_3034) (fun _ h9 => h9) rfl (by decide +kernel) rfl rfl (by rw [h_m0.1]; decide) dX13_feed_118 (fun H locs hP hD hS => ?_)
  obtain ⟨fs_57, e9⟩ : ∃ z, z = fs_53.set 2 (.int 14) := ⟨_, rfl⟩
  have h_m0 : fx fs_57 225 [(0, .int 0), (1, .ref mt), (2, .int 14), (3, .int 0), (9, .int 0), (10, .int 0), (11, .int 0), (12, .int 0), (27, .int 0), (79, .int 0), (83, .int 0), (95, .int 0)] := by rw [e9]; exact (h_m0.put (F' := [(2, .int 14), (0, .int 0), (1, .ref mt), (3, .int 0), (9, .int 0), (10, .int 0), (11, .int 0), (12, .int 0), (27, .int 0), (79, .int 0), (83, .int 0), (95, .int 0)]) (by decide) _ rfl).sub [1, 2, 0, 3, 4, 5, 6, 7, 8, 9, 10, 11] rfl
  have hP : va_P (dC, dI) CL [(m0, .inr (13, fs_57)), (mt, .inl (mtC, (65536, .inl f_56)))] H := by rw [e9]; exact hP
  have hD : va_D A [(m0, .inr (13, fs_57)), (mt, .inl (mtC, (65536, .inl f_56)))] := by rw [e9]; exact hD
  clear e9
  refine lv_iinc (v := 14) (lv' := [(6, .int 14), (7, .int p3), (0, .ref m0), (1, .int p0), (2, .int p1), (3, .int p2), (4, .int p3), (5, .int p4)]) hx hb dX13_feed_121 hl (k := 1) rfl (by decide +kernel) (by decide) rfl (fun ls hl => ?_)
  refine lv_goto (tgt := 33) hx hb dX13_feed_124 (by decide) ?_
  refine lv_iload hx hb dX13_feed_33 (lv_at hl 0 rfl) ?_
  refine lv_bipush (v := 20) hx hb dX13_feed_35 (by decide +kernel) ?_
  refine lv_icmp_ge (tgt := 127) hx hb dX13_feed_37 (by decide) (fun c9 => ?_) (fun c9 => ?_)
  · first | exact absurd c9 (by decide +kernel) | exact absurd (by decide +kernel) c9
  refine lv_iload hx hb dX13_feed_40 (lv_at hl 0 rfl) ?_
  refine lv_iconst (v := 4) hx hb dX13_feed_42 (by decide +kernel) ?_
  refine lv_icmp_ge (tgt := 50) hx hb dX13_feed_43 (by decide) (fun c9 => ?_) (fun c9 => ?_)
  rotate_left
  · first | exact absurd c9 (by decide +kernel) | exact absurd (by decide +kernel) c9
  refine lv_iload hx hb dX13_feed_50 (lv_at hl 0 rfl) ?_
  refine lv_bipush (v := 8) hx hb dX13_feed_52 (by decide +kernel) ?_
  refine lv_icmp_ge (tgt := 61) hx hb dX13_feed_54 (by decide) (fun c9 => ?_) (fun c9 => ?_)
  rotate_left
  · first | exact absurd c9 (by decide +kernel) | exact absurd (by decide +kernel) c9
  refine lv_iload hx hb dX13_feed_61 (lv_at hl 0 rfl) ?_
  refine lv_bipush (v := 12) hx hb dX13_feed_63 (by decide +kernel) ?_
  refine lv_icmp_ge (tgt := 72) hx hb dX13_feed_65 (by decide) (fun c9 => ?_) (fun c9 => ?_)
  rotate_left
  · first | exact absurd c9 (by decide +kernel) | exact absurd (by decide +kernel) c9
  refine lv_iload hx hb dX13_feed_72 (lv_at hl 0 rfl) ?_
  refine lv_bipush (v := 16) hx hb dX13_feed_74 (by decide +kernel) ?_
  refine lv_icmp_ge (tgt := 84) hx hb dX13_feed_76 (by decide) (fun c9 => ?_) (fun c9 => ?_)
  · first | exact absurd c9 (by decide +kernel) | exact absurd (by decide +kernel) c9
  refine lv_iload hx hb dX13_feed_79 (lv_at hl 6 rfl) ?_
  refine lv_goto (tgt := 86) hx hb dX13_feed_81 (by decide) ?_
  refine lv_istore (lv' := [(7, .int p3), (6, .int 14), (0, .ref m0), (1, .int p0), (2, .int p1), (3, .int p2), (4, .int p3), (5, .int p4)]) hx hb dX13_feed_86 hl (by decide) rfl (fun ls hl => ?_)
  refine lv_aload_n hx hb dX13_feed_88 rfl (lv_at hl 2 rfl) ?_
  refine va_get (D := (dC, dI)) (ci := 13) (v := .ref mt) (C := RX13) (T := TX13) (N := 225) hx hb hts inX13 hown hK hP 0 rfl rfl 1 (by decide) (hts (.fieldLink RX13 14 "ChipFlowModel" "tape" "[B") wd_3033) (fun _ h9 => h9) (h_m0.get 1 rfl) dX13_feed_89 ?_
  refine lv_aload_n hx hb dX13_feed_92 rfl (lv_at hl 2 rfl) ?_
  refine va_get (D := (dC, dI)) (ci := 13) (v := .int 14) (C := RX13) (T := TX13) (N := 225) hx hb hts inX13 hown hK hP 0 rfl rfl 2 (by decide) (hts (.fieldLink RX13 555 "ChipFlowModel" "size" "I") wd_3034) (fun _ h9 => h9) (h_m0.get 2 rfl) dX13_feed_93 ?_
  refine lv_iload hx hb dX13_feed_96 (lv_at hl 0 rfl) ?_
  refine lv_bipush (v := 24) hx hb dX13_feed_98 (by decide +kernel) ?_
  refine lv_bipush (v := 8) hx hb dX13_feed_100 (by decide +kernel) ?_
  refine lv_iload hx hb dX13_feed_102 (lv_at hl 1 rfl) ?_
  refine lv_iconst (v := 3) hx hb dX13_feed_104 (by decide +kernel) ?_
  refine lv_iand hx hb dX13_feed_105 ?_
  refine lv_topi (fun v9 e9 => ?_)
  obtain rfl : v9 = 2 := e9.trans (by decide +kernel)
  refine lv_imul hx hb dX13_feed_106 ?_
  refine lv_topi (fun v9 e9 => ?_)
  obtain rfl : v9 = 16 := e9.trans (by decide +kernel)
  refine lv_isub hx hb dX13_feed_107 ?_
  refine lv_topi (fun v9 e9 => ?_)
  obtain rfl : v9 = 8 := e9.trans (by decide +kernel)
  refine lv_ishr hx hb dX13_feed_108 ?_
  refine lv_topi (fun v_58 _ => ?_)
  refine lv_i2b hx hb dX13_feed_109 rfl ?_
  refine lv_topi (fun v_59 _ => ?_)
  refine va_bast hx hb hK hP hD hS 1 0 rfl rfl (vp_in_nI (n := 14) (N := 65536) (by decide) (by decide)) dX13_feed_110 (fun H locs hP hD hS => ?_)
  obtain ⟨f_60, e9⟩ : ∃ z, z = upd f_56 (14 : Int32).toNatClampNeg (vp_nar .byte v_59) := ⟨_, rfl⟩
  have h_mt : fa f_60 [] := by rw [e9, show (14 : Int32).toNatClampNeg = 14 by decide +kernel]; exact (fa.lose h_mt).sub [] rfl
  have hP : va_P (dC, dI) CL [(m0, .inr (13, fs_57)), (mt, .inl (mtC, (65536, .inl f_60)))] H := by rw [e9]; exact hP
  have hD : va_D A [(m0, .inr (13, fs_57)), (mt, .inl (mtC, (65536, .inl f_60)))] := by rw [e9]; exact hD
  clear e9
  refine lv_aload_n hx hb dX13_feed_111 rfl (lv_at hl 2 rfl) ?_
  refine lv_dup hx hb dX13_feed_112 rfl ?_
  refine va_get (D := (dC, dI)) (ci := 13) (v := .int 14) (C := RX13) (T := TX13) (N := 225) hx hb hts inX13 hown hK hP 0 rfl rfl 2 (by decide) (hts (.fieldLink RX13 555 "ChipFlowModel" "size" "I") wd_3034) (fun _ h9 => h9) (h_m0.get 2 rfl) dX13_feed_113 ?_
  refine lv_iconst (v := 1) hx hb dX13_feed_116 (by decide +kernel) ?_
  refine lv_iadd hx hb dX13_feed_117 ?_
  refine lv_topi (fun v9 e9 => ?_)
  obtain rfl : v9 = 15 := e9.trans (by decide +kernel)
  refine va_put (D := (dC, dI)) (ci := 13) (v := .int 15) (ty := tyX13 2) (C := RX13) (T := TX13) (N := 225) hx hb hts inX13 tyX13 tyX13_ok nmX13 hown hK hP hD hS 0 rfl rfl 2 (by decide) (hts (.fieldLink RX13 555 "ChipFlowModel" "size" "I") wd_3034) (fun _ h9 => h9) rfl (by decide +kernel) rfl rfl (by rw [h_m0.1]; decide) dX13_feed_118 (fun H locs hP hD hS => ?_)
  obtain ⟨fs_61, e9⟩ : ∃ z, z = fs_57.set 2 (.int 15) := ⟨_, rfl⟩
  have h_m0 : fx fs_61 225 [(0, .int 0), (1, .ref mt), (2, .int 15), (3, .int 0), (9, .int 0), (10, .int 0), (11, .int 0), (12, .int 0), (27, .int 0), (79, .int 0), (83, .int 0), (95, .int 0)] := by rw [e9]; exact (h_m0.put (F' := [(2, .int 15), (0, .int 0), (1, .ref mt), (3, .int 0), (9, .int 0), (10, .int 0), (11, .int 0), (12, .int 0), (27, .int 0), (79, .int 0), (83, .int 0), (95, .int 0)]) (by decide) _ rfl).sub [1, 2, 0, 3, 4, 5, 6, 7, 8, 9, 10, 11] rfl
  have hP : va_P (dC, dI) CL [(m0, .inr (13, fs_61)), (mt, .inl (mtC, (65536, .inl f_60)))] H := by rw [e9]; exact hP
  have hD : va_D A [(m0, .inr (13, fs_61)), (mt, .inl (mtC, (65536, .inl f_60)))] := by rw [e9]; exact hD
  clear e9
  refine lv_iinc (v := 15) (lv' := [(6, .int 15), (7, .int p3), (0, .ref m0), (1, .int p0), (2, .int p1), (3, .int p2), (4, .int p3), (5, .int p4)]) hx hb dX13_feed_121 hl (k := 1) rfl (by decide +kernel) (by decide) rfl (fun ls hl => ?_)
  refine lv_goto (tgt := 33) hx hb dX13_feed_124 (by decide) ?_
  refine lv_iload hx hb dX13_feed_33 (lv_at hl 0 rfl) ?_
  refine lv_bipush (v := 20) hx hb dX13_feed_35 (by decide +kernel) ?_
  refine lv_icmp_ge (tgt := 127) hx hb dX13_feed_37 (by decide) (fun c9 => ?_) (fun c9 => ?_)
  · first | exact absurd c9 (by decide +kernel) | exact absurd (by decide +kernel) c9
  refine lv_iload hx hb dX13_feed_40 (lv_at hl 0 rfl) ?_
  refine lv_iconst (v := 4) hx hb dX13_feed_42 (by decide +kernel) ?_
  refine lv_icmp_ge (tgt := 50) hx hb dX13_feed_43 (by decide) (fun c9 => ?_) (fun c9 => ?_)
  rotate_left
  · first | exact absurd c9 (by decide +kernel) | exact absurd (by decide +kernel) c9
  refine lv_iload hx hb dX13_feed_50 (lv_at hl 0 rfl) ?_
  refine lv_bipush (v := 8) hx hb dX13_feed_52 (by decide +kernel) ?_
  refine lv_icmp_ge (tgt := 61) hx hb dX13_feed_54 (by decide) (fun c9 => ?_) (fun c9 => ?_)
  rotate_left
  · first | exact absurd c9 (by decide +kernel) | exact absurd (by decide +kernel) c9
  refine lv_iload hx hb dX13_feed_61 (lv_at hl 0 rfl) ?_
  refine lv_bipush (v := 12) hx hb dX13_feed_63 (by decide +kernel) ?_
  refine lv_icmp_ge (tgt := 72) hx hb dX13_feed_65 (by decide) (fun c9 => ?_) (fun c9 => ?_)
  rotate_left
  · first | exact absurd c9 (by decide +kernel) | exact absurd (by decide +kernel) c9
  refine lv_iload hx hb dX13_feed_72 (lv_at hl 0 rfl) ?_
  refine lv_bipush (v := 16) hx hb dX13_feed_74 (by decide +kernel) ?_
  refine lv_icmp_ge (tgt := 84) hx hb dX13_feed_76 (by decide) (fun c9 => ?_) (fun c9 => ?_)
  · first | exact absurd c9 (by decide +kernel) | exact absurd (by decide +kernel) c9
  refine lv_iload hx hb dX13_feed_79 (lv_at hl 6 rfl) ?_
  refine lv_goto (tgt := 86) hx hb dX13_feed_81 (by decide) ?_
  refine lv_istore (lv' := [(7, .int p3), (6, .int 15), (0, .ref m0), (1, .int p0), (2, .int p1), (3, .int p2), (4, .int p3), (5, .int p4)]) hx hb dX13_feed_86 hl (by decide) rfl (fun ls hl => ?_)
  refine lv_aload_n hx hb dX13_feed_88 rfl (lv_at hl 2 rfl) ?_
  refine va_get (D := (dC, dI)) (ci := 13) (v := .ref mt) (C := RX13) (T := TX13) (N := 225) hx hb hts inX13 hown hK hP 0 rfl rfl 1 (by decide) (hts (.fieldLink RX13 14 "ChipFlowModel" "tape" "[B") wd_3033) (fun _ h9 => h9) (h_m0.get 1 rfl) dX13_feed_89 ?_
  refine lv_aload_n hx hb dX13_feed_92 rfl (lv_at hl 2 rfl) ?_
  refine va_get (D := (dC, dI)) (ci := 13) (v := .int 15) (C := RX13) (T := TX13) (N := 225) hx hb hts inX13 hown hK hP 0 rfl rfl 2 (by decide) (hts (.fieldLink RX13 555 "ChipFlowModel" "size" "I") wd_3034) (fun _ h9 => h9) (h_m0.get 2 rfl) dX13_feed_93 ?_
  refine lv_iload hx hb dX13_feed_96 (lv_at hl 0 rfl) ?_
  refine lv_bipush (v := 24) hx hb dX13_feed_98 (by decide +kernel) ?_
  refine lv_bipush (v := 8) hx hb dX13_feed_100 (by decide +kernel) ?_
  refine lv_iload hx hb dX13_feed_102 (lv_at hl 1 rfl) ?_
  refine lv_iconst (v := 3) hx hb dX13_feed_104 (by decide +kernel) ?_
  refine lv_iand hx hb dX13_feed_105 ?_
  refine lv_topi (fun v9 e9 => ?_)
  obtain rfl : v9 = 3 := e9.trans (by decide +kernel)
  refine lv_imul hx hb dX13_feed_106 ?_
  refine lv_topi (fun v9 e9 => ?_)
  obtain rfl : v9 = 24 := e9.trans (by decide +kernel)
  refine lv_isub hx hb dX13_feed_107 ?_
  refine lv_topi (fun v9 e9 => ?_)
  obtain rfl : v9 = 0 := e9.trans (by decide +kernel)
  refine lv_ishr hx hb dX13_feed_108 ?_
  refine lv_topi (fun v_62 _ => ?_)
  refine lv_i2b hx hb dX13_feed_109 rfl ?_
  refine lv_topi (fun v_63 _ => ?_)
  refine va_bast hx hb hK hP hD hS 1 0 rfl rfl (vp_in_nI (n := 15) (N := 65536) (by decide) (by decide)) dX13_feed_110 (fun H locs hP hD hS => ?_)
  obtain ⟨f_64, e9⟩ : ∃ z, z = upd f_60 (15 : Int32).toNatClampNeg (vp_nar .byte v_63) := ⟨_, rfl⟩
  have h_mt : fa f_64 [] := by rw [e9, show (15 : Int32).toNatClampNeg = 15 by decide +kernel]; exact (fa.lose h_mt).sub [] rfl
  have hP : va_P (dC, dI) CL [(m0, .inr (13, fs_61)), (mt, .inl (mtC, (65536, .inl f_64)))] H := by rw [e9]; exact hP
  have hD : va_D A [(m0, .inr (13, fs_61)), (mt, .inl (mtC, (65536, .inl f_64)))] := by rw [e9]; exact hD
  clear e9
  refine lv_aload_n hx hb dX13_feed_111 rfl (lv_at hl 2 rfl) ?_
  refine lv_dup hx hb dX13_feed_112 rfl ?_
  refine va_get (D := (dC, dI)) (ci := 13) (v := .int 15) (C := RX13) (T := TX13) (N := 225) hx hb hts inX13 hown hK hP 0 rfl rfl 2 (by decide) (hts (.fieldLink RX13 555 "ChipFlowModel" "size" "I") wd_3034) (fun _ h9 => h9) (h_m0.get 2 rfl) dX13_feed_113 ?_
  refine lv_iconst (v := 1) hx hb dX13_feed_116 (by decide +kernel) ?_
  refine lv_iadd hx hb dX13_feed_117 ?_
  refine lv_topi (fun v9 e9 => ?_)
  obtain rfl : v9 = 16 := e9.trans (by decide +kernel)
  refine va_put (D := (dC, dI)) (ci := 13) (v := .int 16) (ty := tyX13 2) (C := RX13) (T := TX13) (N := 225) hx hb hts inX13 tyX13 tyX13_ok nmX13 hown hK hP hD hS 0 rfl rfl 2 (by decide) (hts (.fieldLink RX13 555 "ChipFlowModel" "size" "I") wd_3034) (fun _ h9 => h9) rfl (by decide +kernel) rfl rfl (by rw [h_m0.1]; decide) dX13_feed_118 (fun H locs hP hD hS => ?_)
  obtain ⟨fs_65, e9⟩ : ∃ z, z = fs_61.set 2 (.int 16) := ⟨_, rfl⟩
  have h_m0 : fx fs_65 225 [(0, .int 0), (1, .ref mt), (2, .int 16), (3, .int 0), (9, .int 0), (10, .int 0), (11, .int 0), (12, .int 0), (27, .int 0), (79, .int 0), (83, .int 0), (95, .int 0)] := by rw [e9]; exact (h_m0.put (F' := [(2, .int 16), (0, .int 0), (1, .ref mt), (3, .int 0), (9, .int 0), (10, .int 0), (11, .int 0), (12, .int 0), (27, .int 0), (79, .int 0), (83, .int 0), (95, .int 0)]) (by decide) _ rfl).sub [1, 2, 0, 3, 4, 5, 6, 7, 8, 9, 10, 11] rfl
  have hP : va_P (dC, dI) CL [(m0, .inr (13, fs_65)), (mt, .inl (mtC, (65536, .inl f_64)))] H := by rw [e9]; exact hP
  have hD : va_D A [(m0, .inr (13, fs_65)), (mt, .inl (mtC, (65536, .inl f_64)))] := by rw [e9]; exact hD
  clear e9
  refine lv_iinc (v := 16) (lv' := [(6, .int 16), (7, .int p3), (0, .ref m0), (1, .int p0), (2, .int p1), (3, .int p2), (4, .int p3), (5, .int p4)]) hx hb dX13_feed_121 hl (k := 1) rfl (by decide +kernel) (by decide) rfl (fun ls hl => ?_)
  refine lv_goto (tgt := 33) hx hb dX13_feed_124 (by decide) ?_
  refine lv_iload hx hb dX13_feed_33 (lv_at hl 0 rfl) ?_
  refine lv_bipush (v := 20) hx hb dX13_feed_35 (by decide +kernel) ?_
  refine lv_icmp_ge (tgt := 127) hx hb dX13_feed_37 (by decide) (fun c9 => ?_) (fun c9 => ?_)
  · first | exact absurd c9 (by decide +kernel) | exact absurd (by decide +kernel) c9
  refine lv_iload hx hb dX13_feed_40 (lv_at hl 0 rfl) ?_
  refine lv_iconst (v := 4) hx hb dX13_feed_42 (by decide +kernel) ?_
  refine lv_icmp_ge (tgt := 50) hx hb dX13_feed_43 (by decide) (fun c9 => ?_) (fun c9 => ?_)
  rotate_left
  · first | exact absurd c9 (by decide +kernel) | exact absurd (by decide +kernel) c9
  refine lv_iload hx hb dX13_feed_50 (lv_at hl 0 rfl) ?_
  refine lv_bipush (v := 8) hx hb dX13_feed_52 (by decide +kernel) ?_
  refine lv_icmp_ge (tgt := 61) hx hb dX13_feed_54 (by decide) (fun c9 => ?_) (fun c9 => ?_)
  rotate_left
  · first | exact absurd c9 (by decide +kernel) | exact absurd (by decide +kernel) c9
  refine lv_iload hx hb dX13_feed_61 (lv_at hl 0 rfl) ?_
  refine lv_bipush (v := 12) hx hb dX13_feed_63 (by decide +kernel) ?_
  refine lv_icmp_ge (tgt := 72) hx hb dX13_feed_65 (by decide) (fun c9 => ?_) (fun c9 => ?_)
  rotate_left
  · first | exact absurd c9 (by decide +kernel) | exact absurd (by decide +kernel) c9
  refine lv_iload hx hb dX13_feed_72 (lv_at hl 0 rfl) ?_
  refine lv_bipush (v := 16) hx hb dX13_feed_74 (by decide +kernel) ?_
  refine lv_icmp_ge (tgt := 84) hx hb dX13_feed_76 (by decide) (fun c9 => ?_) (fun c9 => ?_)
  rotate_left
  · first | exact absurd c9 (by decide +kernel) | exact absurd (by decide +kernel) c9
  refine lv_iload hx hb dX13_feed_84 (lv_at hl 7 rfl) ?_
  refine lv_istore (lv' := [(7, .int p4), (6, .int 16), (0, .ref m0), (1, .int p0), (2, .int p1), (3, .int p2), (4, .int p3), (5, .int p4)]) hx hb dX13_feed_86 hl (by decide) rfl (fun ls hl => ?_)
  refine lv_aload_n hx hb dX13_feed_88 rfl (lv_at hl 2 rfl) ?_
  refine va_get (D := (dC, dI)) (ci := 13) (v := .ref mt) (C := RX13) (T := TX13) (N := 225) hx hb hts inX13 hown hK hP 0 rfl rfl 1 (by decide) (hts (.fieldLink RX13 14 "ChipFlowModel" "tape" "[B") wd_3033) (fun _ h9 => h9) (h_m0.get 1 rfl) dX13_feed_89 ?_
  refine lv_aload_n hx hb dX13_feed_92 rfl (lv_at hl 2 rfl) ?_
  refine va_get (D := (dC, dI)) (ci := 13) (v := .int 16) (C := RX13) (T := TX13) (N := 225) hx hb hts inX13 hown hK hP 0 rfl rfl 2 (by decide) (hts (.fieldLink RX13 555 "ChipFlowModel" "size" "I") wd_3034) (fun _ h9 => h9) (h_m0.get 2 rfl) dX13_feed_93 ?_
  refine lv_iload hx hb dX13_feed_96 (lv_at hl 0 rfl) ?_
  refine lv_bipush (v := 24) hx hb dX13_feed_98 (by decide +kernel) ?_
  refine lv_bipush (v := 8) hx hb dX13_feed_100 (by decide +kernel) ?_
  refine lv_iload hx hb dX13_feed_102 (lv_at hl 1 rfl) ?_
  refine lv_iconst (v := 3) hx hb dX13_feed_104 (by decide +kernel) ?_
  refine lv_iand hx hb dX13_feed_105 ?_
  refine lv_topi (fun v9 e9 => ?_)
  obtain rfl : v9 = 0 := e9.trans (by decide +kernel)
  refine lv_imul hx hb dX13_feed_106 ?_
  refine lv_topi (fun v9 e9 => ?_)
  obtain rfl : v9 = 0 := e9.trans (by decide +kernel)
  refine lv_isub hx hb dX13_feed_107 ?_
  refine lv_topi (fun v9 e9 => ?_)
  obtain rfl : v9 = 24 := e9.trans (by decide +kernel)
  refine lv_ishr hx hb dX13_feed_108 ?_
  refine lv_topi (fun v_66 _ => ?_)
  refine lv_i2b hx hb dX13_feed_109 rfl ?_
  refine lv_topi (fun v_67 _ => ?_)
  refine va_bast hx hb hK hP hD hS 1 0 rfl rfl (vp_in_nI (n := 16) (N := 65536) (by decide) (by decide)) dX13_feed_110 (fun H locs hP hD hS => ?_)
  obtain ⟨f_68, e9⟩ : ∃ z, z = upd f_64 (16 : Int32).toNatClampNeg (vp_nar .byte v_67) := ⟨_, rfl⟩
  have h_mt : fa f_68 [] := by rw [e9, show (16 : Int32).toNatClampNeg = 16 by decide +kernel]; exact (fa.lose h_mt).sub [] rfl
  have hP : va_P (dC, dI) CL [(m0, .inr (13, fs_65)), (mt, .inl (mtC, (65536, .inl f_68)))] H := by rw [e9]; exact hP
  have hD : va_D A [(m0, .inr (13, fs_65)), (mt, .inl (mtC, (65536, .inl f_68)))] := by rw [e9]; exact hD
  clear e9
  refine lv_aload_n hx hb dX13_feed_111 rfl (lv_at hl 2 rfl) ?_
  refine lv_dup hx hb dX13_feed_112 rfl ?_
  refine va_get (D := (dC, dI)) (ci := 13) (v := .int 16) (C := RX13) (T := TX13) (N := 225) hx hb hts inX13 hown hK hP 0 rfl rfl 2 (by decide) (hts (.fieldLink RX13 555 "ChipFlowModel" "size" "I") wd_3034) (fun _ h9 => h9) (h_m0.get 2 rfl) dX13_feed_113 ?_
  refine lv_iconst (v := 1) hx hb dX13_feed_116 (by decide +kernel) ?_
  refine lv_iadd hx hb dX13_feed_117 ?_
  refine lv_topi (fun v9 e9 => ?_)
  obtain rfl : v9 = 17 := e9.trans (by decide +kernel)
  refine va_put (D := (dC, dI)) (ci := 13) (v := .int 17) (ty := tyX13 2) (C := RX13) (T := TX13) (N := 225) hx hb hts inX13 tyX13 tyX13_ok nmX13 hown hK hP hD hS 0 rfl rfl 2 (by decide) (hts (.fieldLink RX13 555 "ChipFlowModel" "size" "I") wd_3034) (fun _ h9 => h9) rfl (by decide +kernel) rfl rfl (by rw [h_m0.1]; decide) dX13_feed_118 (fun H locs hP hD hS => ?_)
  obtain ⟨fs_69, e9⟩ : ∃ z, z = fs_65.set 2 (.int 17) := ⟨_, rfl⟩
  have h_m0 : fx fs_69 225 [(0, .int 0), (1, .ref mt), (2, .int 17), (3, .int 0), (9, .int 0), (10, .int 0), (11, .int 0), (12, .int 0), (27, .int 0), (79, .int 0), (83, .int 0), (95, .int 0)] := by rw [e9]; exact (h_m0.put (F' := [(2, .int 17), (0, .int 0), (1, .ref mt), (3, .int 0), (9, .int 0), (10, .int 0), (11, .int 0), (12, .int 0), (27, .int 0), (79, .int 0), (83, .int 0), (95, .int 0)]) (by decide) _ rfl).sub [1, 2, 0, 3, 4, 5, 6, 7, 8, 9, 10, 11] rfl
  have hP : va_P (dC, dI) CL [(m0, .inr (13, fs_69)), (mt, .inl (mtC, (65536, .inl f_68)))] H := by rw [e9]; exact hP
  have hD : va_D A [(m0, .inr (13, fs_69)), (mt, .inl (mtC, (65536, .inl f_68)))] := by rw [e9]; exact hD
  clear e9
  refine lv_iinc (v := 17) (lv' := [(6, .int 17), (7, .int p4), (0, .ref m0), (1, .int p0), (2, .int p1), (3, .int p2), (4, .int p3), (5, .int p4)]) hx hb dX13_feed_121 hl (k := 1) rfl (by decide +kernel) (by decide) rfl (fun ls hl => ?_)
  refine lv_goto (tgt := 33) hx hb dX13_feed_124 (by decide) ?_
  refine lv_iload hx hb dX13_feed_33 (lv_at hl 0 rfl) ?_
  refine lv_bipush (v := 20) hx hb dX13_feed_35 (by decide +kernel) ?_
  refine lv_icmp_ge (tgt := 127) hx hb dX13_feed_37 (by decide) (fun c9 => ?_) (fun c9 => ?_)
  · first | exact absurd c9 (by decide +kernel) | exact absurd (by decide +kernel) c9
  refine lv_iload hx hb dX13_feed_40 (lv_at hl 0 rfl) ?_
  refine lv_iconst (v := 4) hx hb dX13_feed_42 (by decide +kernel) ?_
  refine lv_icmp_ge (tgt := 50) hx hb dX13_feed_43 (by decide) (fun c9 => ?_) (fun c9 => ?_)
  rotate_left
  · first | exact absurd c9 (by decide +kernel) | exact absurd (by decide +kernel) c9
  refine lv_iload hx hb dX13_feed_50 (lv_at hl 0 rfl) ?_
  refine lv_bipush (v := 8) hx hb dX13_feed_52 (by decide +kernel) ?_
  refine lv_icmp_ge (tgt := 61) hx hb dX13_feed_54 (by decide) (fun c9 => ?_) (fun c9 => ?_)
  rotate_left
  · first | exact absurd c9 (by decide +kernel) | exact absurd (by decide +kernel) c9
  refine lv_iload hx hb dX13_feed_61 (lv_at hl 0 rfl) ?_
  refine lv_bipush (v := 12) hx hb dX13_feed_63 (by decide +kernel) ?_
  refine lv_icmp_ge (tgt := 72) hx hb dX13_feed_65 (by decide) (fun c9 => ?_) (fun c9 => ?_)
  rotate_left
  · first | exact absurd c9 (by decide +kernel) | exact absurd (by decide +kernel) c9
  refine lv_iload hx hb dX13_feed_72 (lv_at hl 0 rfl) ?_
  refine lv_bipush (v := 16) hx hb dX13_feed_74 (by decide +kernel) ?_
  refine lv_icmp_ge (tgt := 84) hx hb dX13_feed_76 (by decide) (fun c9 => ?_) (fun c9 => ?_)
  rotate_left
  · first | exact absurd c9 (by decide +kernel) | exact absurd (by decide +kernel) c9
  refine lv_iload hx hb dX13_feed_84 (lv_at hl 7 rfl) ?_
  refine lv_istore (lv' := [(7, .int p4), (6, .int 17), (0, .ref m0), (1, .int p0), (2, .int p1), (3, .int p2), (4, .int p3), (5, .int p4)]) hx hb dX13_feed_86 hl (by decide) rfl (fun ls hl => ?_)
  refine lv_aload_n hx hb dX13_feed_88 rfl (lv_at hl 2 rfl) ?_
  refine va_get (D := (dC, dI)) (ci := 13) (v := .ref mt) (C := RX13) (T := TX13) (N := 225) hx hb hts inX13 hown hK hP 0 rfl rfl 1 (by decide) (hts (.fieldLink RX13 14 "ChipFlowModel" "tape" "[B") wd_3033) (fun _ h9 => h9) (h_m0.get 1 rfl) dX13_feed_89 ?_
  refine lv_aload_n hx hb dX13_feed_92 rfl (lv_at hl 2 rfl) ?_
  refine va_get (D := (dC, dI)) (ci := 13) (v := .int 17) (C := RX13) (T := TX13) (N := 225) hx hb hts inX13 hown hK hP 0 rfl rfl 2 (by decide) (hts (.fieldLink RX13 555 "ChipFlowModel" "size" "I") wd_3034) (fun _ h9 => h9) (h_m0.get 2 rfl) dX13_feed_93 ?_
  refine lv_iload hx hb dX13_feed_96 (lv_at hl 0 rfl) ?_
  refine lv_bipush (v := 24) hx hb dX13_feed_98 (by decide +kernel) ?_
  refine lv_bipush (v := 8) hx hb dX13_feed_100 (by decide +kernel) ?_
  refine lv_iload hx hb dX13_feed_102 (lv_at hl 1 rfl) ?_
  refine lv_iconst (v := 3) hx hb dX13_feed_104 (by decide +kernel) ?_
  refine lv_iand hx hb dX13_feed_105 ?_
  refine lv_topi (fun v9 e9 => ?_)
  obtain rfl : v9 = 1 := e9.trans (by decide +kernel)
  refine lv_imul hx hb dX13_feed_106 ?_
  refine lv_topi (fun v9 e9 => ?_)
  obtain rfl : v9 = 8 := e9.trans (by decide +kernel)
  refine lv_isub hx hb dX13_feed_107 ?_
  refine lv_topi (fun v9 e9 => ?_)
  obtain rfl : v9 = 16 := e9.trans (by decide +kernel)
  refine lv_ishr hx hb dX13_feed_108 ?_
  refine lv_topi (fun v_70 _ => ?_)
  refine lv_i2b hx hb dX13_feed_109 rfl ?_
  refine lv_topi (fun v_71 _ => ?_)
  refine va_bast hx hb hK hP hD hS 1 0 rfl rfl (vp_in_nI (n := 17) (N := 65536) (by decide) (by decide)) dX13_feed_110 (fun H locs hP hD hS => ?_)
  obtain ⟨f_72, e9⟩ : ∃ z, z = upd f_68 (17 : Int32).toNatClampNeg (vp_nar .byte v_71) := ⟨_, rfl⟩
  have h_mt : fa f_72 [] := by rw [e9, show (17 : Int32).toNatClampNeg = 17 by decide +kernel]; exact (fa.lose h_mt).sub [] rfl
  have hP : va_P (dC, dI) CL [(m0, .inr (13, fs_69)), (mt, .inl (mtC, (65536, .inl f_72)))] H := by rw [e9]; exact hP
  have hD : va_D A [(m0, .inr (13, fs_69)), (mt, .inl (mtC, (65536, .inl f_72)))] := by rw [e9]; exact hD
  clear e9
  refine lv_aload_n hx hb dX13_feed_111 rfl (lv_at hl 2 rfl) ?_
  refine lv_dup hx hb dX13_feed_112 rfl ?_
  refine va_get (D := (dC, dI)) (ci := 13) (v := .int 17) (C := RX13) (T := TX13) (N := 225) hx hb hts inX13 hown hK hP 0 rfl rfl 2 (by decide) (hts (.fieldLink RX13 555 "ChipFlowModel" "size" "I") wd_3034) (fun _ h9 => h9) (h_m0.get 2 rfl) dX13_feed_113 ?_
  refine lv_iconst (v := 1) hx hb dX13_feed_116 (by decide +kernel) ?_
  refine lv_iadd hx hb dX13_feed_117 ?_
  refine lv_topi (fun v9 e9 => ?_)
  obtain rfl : v9 = 18 := e9.trans (by decide +kernel)
  refine va_put (D := (dC, dI)) (ci := 13) (v := .int 18) (ty := tyX13 2) (C := RX13) (T := TX13) (N := 225) hx hb hts inX13 tyX13 tyX13_ok nmX13 hown hK hP hD hS 0 rfl rfl 2 (by decide) (hts (.fieldLink RX13 555 "ChipFlowModel" "size" "I") wd_3034) (fun _ h9 => h9) rfl (by decide +kernel) rfl rfl (by rw [h_m0.1]; decide) dX13_feed_118 (fun H locs hP hD hS => ?_)
  obtain ⟨fs_73, e9⟩ : ∃ z, z = fs_69.set 2 (.int 18) := ⟨_, rfl⟩
  have h_m0 : fx fs_73 225 [(0, .int 0), (1, .ref mt), (2, .int 18), (3, .int 0), (9, .int 0), (10, .int 0), (11, .int 0), (12, .int 0), (27, .int 0), (79, .int 0), (83, .int 0), (95, .int 0)] := by rw [e9]; exact (h_m0.put (F' := [(2, .int 18), (0, .int 0), (1, .ref mt), (3, .int 0), (9, .int 0), (10, .int 0), (11, .int 0), (12, .int 0), (27, .int 0), (79, .int 0), (83, .int 0), (95, .int 0)]) (by decide) _ rfl).sub [1, 2, 0, 3, 4, 5, 6, 7, 8, 9, 10, 11] rfl
  have hP : va_P (dC, dI) CL [(m0, .inr (13, fs_73)), (mt, .inl (mtC, (65536, .inl f_72)))] H := by rw [e9]; exact hP
  have hD : va_D A [(m0, .inr (13, fs_73)), (mt, .inl (mtC, (65536, .inl f_72)))] := by rw [e9]; exact hD
  clear e9
  refine lv_iinc (v := 18) (lv' := [(6, .int 18), (7, .int p4), (0, .ref m0), (1, .int p0), (2, .int p1), (3, .int p2), (4, .int p3), (5, .int p4)]) hx hb dX13_feed_121 hl (k := 1) rfl (by decide +kernel) (by decide) rfl (fun ls hl => ?_)
  refine lv_goto (tgt := 33) hx hb dX13_feed_124 (by decide) ?_
  refine lv_iload hx hb dX13_feed_33 (lv_at hl 0 rfl) ?_
  refine lv_bipush (v := 20) hx hb dX13_feed_35 (by decide +kernel) ?_
  refine lv_icmp_ge (tgt := 127) hx hb dX13_feed_37 (by decide) (fun c9 => ?_) (fun c9 => ?_)
  · first | exact absurd c9 (by decide +kernel) | exact absurd (by decide +kernel) c9
  refine lv_iload hx hb dX13_feed_40 (lv_at hl 0 rfl) ?_
  refine lv_iconst (v := 4) hx hb dX13_feed_42 (by decide +kernel) ?_
  refine lv_icmp_ge (tgt := 50) hx hb dX13_feed_43 (by decide) (fun c9 => ?_) (fun c9 => ?_)
  rotate_left
  · first | exact absurd c9 (by decide +kernel) | exact absurd (by decide +kernel) c9
  refine lv_iload hx hb dX13_feed_50 (lv_at hl 0 rfl) ?_
  refine lv_bipush (v := 8) hx hb dX13_feed_52 (by decide +kernel) ?_
  refine lv_icmp_ge (tgt := 61) hx hb dX13_feed_54 (by decide) (fun c9 => ?_) (fun c9 => ?_)
  rotate_left
  · first | exact absurd c9 (by decide +kernel) | exact absurd (by decide +kernel) c9
  refine lv_iload hx hb dX13_feed_61 (lv_at hl 0 rfl) ?_
  refine lv_bipush (v := 12) hx hb dX13_feed_63 (by decide +kernel) ?_
  refine lv_icmp_ge (tgt := 72) hx hb dX13_feed_65 (by decide) (fun c9 => ?_) (fun c9 => ?_)
  rotate_left
  · first | exact absurd c9 (by decide +kernel) | exact absurd (by decide +kernel) c9
  refine lv_iload hx hb dX13_feed_72 (lv_at hl 0 rfl) ?_
  refine lv_bipush (v := 16) hx hb dX13_feed_74 (by decide +kernel) ?_
  refine lv_icmp_ge (tgt := 84) hx hb dX13_feed_76 (by decide) (fun c9 => ?_) (fun c9 => ?_)
  rotate_left
  · first | exact absurd c9 (by decide +kernel) | exact absurd (by decide +kernel) c9
  refine lv_iload hx hb dX13_feed_84 (lv_at hl 7 rfl) ?_
  refine lv_istore (lv' := [(7, .int p4), (6, .int 18), (0, .ref m0), (1, .int p0), (2, .int p1), (3, .int p2), (4, .int p3), (5, .int p4)]) hx hb dX13_feed_86 hl (by decide) rfl (fun ls hl => ?_)
  refine lv_aload_n hx hb dX13_feed_88 rfl (lv_at hl 2 rfl) ?_
  refine va_get (D := (dC, dI)) (ci := 13) (v := .ref mt) (C := RX13) (T := TX13) (N := 225) hx hb hts inX13 hown hK hP 0 rfl rfl 1 (by decide) (hts (.fieldLink RX13 14 "ChipFlowModel" "tape" "[B") wd_3033) (fun _ h9 => h9) (h_m0.get 1 rfl) dX13_feed_89 ?_
  refine lv_aload_n hx hb dX13_feed_92 rfl (lv_at hl 2 rfl) ?_
  refine va_get (D := (dC, dI)) (ci := 13) (v := .int 18) (C := RX13) (T := TX13) (N := 225) hx hb hts inX13 hown hK hP 0 rfl rfl 2 (by decide) (hts (.fieldLink RX13 555 "ChipFlowModel" "size" "I") wd_3034) (fun _ h9 => h9) (h_m0.get 2 rfl) dX13_feed_93 ?_
  refine lv_iload hx hb dX13_feed_96 (lv_at hl 0 rfl) ?_
  refine lv_bipush (v := 24) hx hb dX13_feed_98 (by decide +kernel) ?_
  refine lv_bipush (v := 8) hx hb dX13_feed_100 (by decide +kernel) ?_
  refine lv_iload hx hb dX13_feed_102 (lv_at hl 1 rfl) ?_
  refine lv_iconst (v := 3) hx hb dX13_feed_104 (by decide +kernel) ?_
  refine lv_iand hx hb dX13_feed_105 ?_
  refine lv_topi (fun v9 e9 => ?_)
  obtain rfl : v9 = 2 := e9.trans (by decide +kernel)
  refine lv_imul hx hb dX13_feed_106 ?_
  refine lv_topi (fun v9 e9 => ?_)
  obtain rfl : v9 = 16 := e9.trans (by decide +kernel)
  refine lv_isub hx hb dX13_feed_107 ?_
  refine lv_topi (fun v9 e9 => ?_)
  obtain rfl : v9 = 8 := e9.trans (by decide +kernel)
  refine lv_ishr hx hb dX13_feed_108 ?_
  refine lv_topi (fun v_74 _ => ?_)
  refine lv_i2b hx hb dX13_feed_109 rfl ?_
  refine lv_topi (fun v_75 _ => ?_)
  refine va_bast hx hb hK hP hD hS 1 0 rfl rfl (vp_in_nI (n := 18) (N := 65536) (by decide) (by decide)) dX13_feed_110 (fun H locs hP hD hS => ?_)
  obtain ⟨f_76, e9⟩ : ∃ z, z = upd f_72 (18 : Int32).toNatClampNeg (vp_nar .byte v_75) := ⟨_, rfl⟩
  have h_mt : fa f_76 [] := by rw [e9, show (18 : Int32).toNatClampNeg = 18 by decide +kernel]; exact (fa.lose h_mt).sub [] rfl
  have hP : va_P (dC, dI) CL [(m0, .inr (13, fs_73)), (mt, .inl (mtC, (65536, .inl f_76)))] H := by rw [e9]; exact hP
  have hD : va_D A [(m0, .inr (13, fs_73)), (mt, .inl (mtC, (65536, .inl f_76)))] := by rw [e9]; exact hD
  clear e9
  refine lv_aload_n hx hb dX13_feed_111 rfl (lv_at hl 2 rfl) ?_
  refine lv_dup hx hb dX13_feed_112 rfl ?_
  refine va_get (D := (dC, dI)) (ci := 13) (v := .int 18) (C := RX13) (T := TX13) (N := 225) hx hb hts inX13 hown hK hP 0 rfl rfl 2 (by decide) (hts (.fieldLink RX13 555 "ChipFlowModel" "size" "I") wd_3034) (fun _ h9 => h9) (h_m0.get 2 rfl) dX13_feed_113 ?_
  refine lv_iconst (v := 1) hx hb dX13_feed_116 (by decide +kernel) ?_
  refine lv_iadd hx hb dX13_feed_117 ?_
  refine lv_topi (fun v9 e9 => ?_)
  obtain rfl : v9 = 19 := e9.trans (by decide +kernel)
  refine va_put (D := (dC, dI)) (ci := 13) (v := .int 19) (ty := tyX13 2) (C := RX13) (T := TX13) (N := 225) hx hb hts inX13 tyX13 tyX13_ok nmX13 hown hK hP hD hS 0 rfl rfl 2 (by decide) (hts (.fieldLink RX13 555 "ChipFlowModel" "size" "I") wd_3034) (fun _ h9 => h9) rfl (by decide +kernel) rfl rfl (by rw [h_m0.1]; decide) dX13_feed_118 (fun H locs hP hD hS => ?_)
  obtain ⟨fs_77, e9⟩ : ∃ z, z = fs_73.set 2 (.int 19) := ⟨_, rfl⟩
  have h_m0 : fx fs_77 225 [(0, .int 0), (1, .ref mt), (2, .int 19), (3, .int 0), (9, .int 0), (10, .int 0), (11, .int 0), (12, .int 0), (27, .int 0), (79, .int 0), (83, .int 0), (95, .int 0)] := by rw [e9]; exact (h_m0.put (F' := [(2, .int 19), (0, .int 0), (1, .ref mt), (3, .int 0), (9, .int 0), (10, .int 0), (11, .int 0), (12, .int 0), (27, .int 0), (79, .int 0), (83, .int 0), (95, .int 0)]) (by decide) _ rfl).sub [1, 2, 0, 3, 4, 5, 6, 7, 8, 9, 10, 11] rfl
  have hP : va_P (dC, dI) CL [(m0, .inr (13, fs_77)), (mt, .inl (mtC, (65536, .inl f_76)))] H := by rw [e9]; exact hP
  have hD : va_D A [(m0, .inr (13, fs_77)), (mt, .inl (mtC, (65536, .inl f_76)))] := by rw [e9]; exact hD
  clear e9
  refine lv_iinc (v := 19) (lv' := [(6, .int 19), (7, .int p4), (0, .ref m0), (1, .int p0), (2, .int p1), (3, .int p2), (4, .int p3), (5, .int p4)]) hx hb dX13_feed_121 hl (k := 1) rfl (by decide +kernel) (by decide) rfl (fun ls hl => ?_)
  refine lv_goto (tgt := 33) hx hb dX13_feed_124 (by decide) ?_
  refine lv_iload hx hb dX13_feed_33 (lv_at hl 0 rfl) ?_
  refine lv_bipush (v := 20) hx hb dX13_feed_35 (by decide +kernel) ?_
  refine lv_icmp_ge (tgt := 127) hx hb dX13_feed_37 (by decide) (fun c9 => ?_) (fun c9 => ?_)
  · first | exact absurd c9 (by decide +kernel) | exact absurd (by decide +kernel) c9
  refine lv_iload hx hb dX13_feed_40 (lv_at hl 0 rfl) ?_
  refine lv_iconst (v := 4) hx hb dX13_feed_42 (by decide +kernel) ?_
  refine lv_icmp_ge (tgt := 50) hx hb dX13_feed_43 (by decide) (fun c9 => ?_) (fun c9 => ?_)
  rotate_left
  · first | exact absurd c9 (by decide +kernel) | exact absurd (by decide +kernel) c9
  refine lv_iload hx hb dX13_feed_50 (lv_at hl 0 rfl) ?_
  refine lv_bipush (v := 8) hx hb dX13_feed_52 (by decide +kernel) ?_
  refine lv_icmp_ge (tgt := 61) hx hb dX13_feed_54 (by decide) (fun c9 => ?_) (fun c9 => ?_)
  rotate_left
  · first | exact absurd c9 (by decide +kernel) | exact absurd (by decide +kernel) c9
  refine lv_iload hx hb dX13_feed_61 (lv_at hl 0 rfl) ?_
  refine lv_bipush (v := 12) hx hb dX13_feed_63 (by decide +kernel) ?_
  refine lv_icmp_ge (tgt := 72) hx hb dX13_feed_65 (by decide) (fun c9 => ?_) (fun c9 => ?_)
  rotate_left
  · first | exact absurd c9 (by decide +kernel) | exact absurd (by decide +kernel) c9
  refine lv_iload hx hb dX13_feed_72 (lv_at hl 0 rfl) ?_
  refine lv_bipush (v := 16) hx hb dX13_feed_74 (by decide +kernel) ?_
  refine lv_icmp_ge (tgt := 84) hx hb dX13_feed_76 (by decide) (fun c9 => ?_) (fun c9 => ?_)
  rotate_left
  · first | exact absurd c9 (by decide +kernel) | exact absurd (by decide +kernel) c9
  refine lv_iload hx hb dX13_feed_84 (lv_at hl 7 rfl) ?_
  refine lv_istore (lv' := [(7, .int p4), (6, .int 19), (0, .ref m0), (1, .int p0), (2, .int p1), (3, .int p2), (4, .int p3), (5, .int p4)]) hx hb dX13_feed_86 hl (by decide) rfl (fun ls hl => ?_)
  refine lv_aload_n hx hb dX13_feed_88 rfl (lv_at hl 2 rfl) ?_
  refine va_get (D := (dC, dI)) (ci := 13) (v := .ref mt) (C := RX13) (T := TX13) (N := 225) hx hb hts inX13 hown hK hP 0 rfl rfl 1 (by decide) (hts (.fieldLink RX13 14 "ChipFlowModel" "tape" "[B") wd_3033) (fun _ h9 => h9) (h_m0.get 1 rfl) dX13_feed_89 ?_
  refine lv_aload_n hx hb dX13_feed_92 rfl (lv_at hl 2 rfl) ?_
  refine va_get (D := (dC, dI)) (ci := 13) (v := .int 19) (C := RX13) (T := TX13) (N := 225) hx hb hts inX13 hown hK hP 0 rfl rfl 2 (by decide) (hts (.fieldLink RX13 555 "ChipFlowModel" "size" "I") wd_3034) (fun _ h9 => h9) (h_m0.get 2 rfl) dX13_feed_93 ?_
  refine lv_iload hx hb dX13_feed_96 (lv_at hl 0 rfl) ?_
  refine lv_bipush (v := 24) hx hb dX13_feed_98 (by decide +kernel) ?_
  refine lv_bipush (v := 8) hx hb dX13_feed_100 (by decide +kernel) ?_
  refine lv_iload hx hb dX13_feed_102 (lv_at hl 1 rfl) ?_
  refine lv_iconst (v := 3) hx hb dX13_feed_104 (by decide +kernel) ?_
  refine lv_iand hx hb dX13_feed_105 ?_
  refine lv_topi (fun v9 e9 => ?_)
  obtain rfl : v9 = 3 := e9.trans (by decide +kernel)
  refine lv_imul hx hb dX13_feed_106 ?_
  refine lv_topi (fun v9 e9 => ?_)
  obtain rfl : v9 = 24 := e9.trans (by decide +kernel)
  refine lv_isub hx hb dX13_feed_107 ?_
  refine lv_topi (fun v9 e9 => ?_)
  obtain rfl : v9 = 0 := e9.trans (by decide +kernel)
  refine lv_ishr hx hb dX13_feed_108 ?_
  refine lv_topi (fun v_78 _ => ?_)
  refine lv_i2b hx hb dX13_feed_109 rfl ?_
  refine lv_topi (fun v_79 _ => ?_)
  refine va_bast hx hb hK hP hD hS 1 0 rfl rfl (vp_in_nI (n := 19) (N := 65536) (by decide) (by decide)) dX13_feed_110 (fun H locs hP hD hS => ?_)
  obtain ⟨f_80, e9⟩ : ∃ z, z = upd f_76 (19 : Int32).toNatClampNeg (vp_nar .byte v_79) := ⟨_, rfl⟩
  have h_mt : fa f_80 [] := by rw [e9, show (19 : Int32).toNatClampNeg = 19 by decide +kernel]; exact (fa.lose h_mt).sub [] rfl
  have hP : va_P (dC, dI) CL [(m0, .inr (13, fs_77)), (mt, .inl (mtC, (65536, .inl f_80)))] H := by rw [e9]; exact hP
  have hD : va_D A [(m0, .inr (13, fs_77)), (mt, .inl (mtC, (65536, .inl f_80)))] := by rw [e9]; exact hD
  clear e9
  refine lv_aload_n hx hb dX13_feed_111 rfl (lv_at hl 2 rfl) ?_
  refine lv_dup hx hb dX13_feed_112 rfl ?_
  refine va_get (D := (dC, dI)) (ci := 13) (v := .int 19) (C := RX13) (T := TX13) (N := 225) hx hb hts inX13 hown hK hP 0 rfl rfl 2 (by decide) (hts (.fieldLink RX13 555 "ChipFlowModel" "size" "I") wd_3034) (fun _ h9 => h9) (h_m0.get 2 rfl) dX13_feed_113 ?_
  refine lv_iconst (v := 1) hx hb dX13_feed_116 (by decide +kernel) ?_
  refine lv_iadd hx hb dX13_feed_117 ?_
  refine lv_topi (fun v9 e9 => ?_)
  obtain rfl : v9 = 20 := e9.trans (by decide +kernel)
  refine va_put (D := (dC, dI)) (ci := 13) (v := .int 20) (ty := tyX13 2) (C := RX13) (T := TX13) (N := 225) hx hb hts inX13 tyX13 tyX13_ok nmX13 hown hK hP hD hS 0 rfl rfl 2 (by decide) (hts (.fieldLink RX13 555 "ChipFlowModel" "size" "I") wd_3034) (fun _ h9 => h9) rfl (by decide +kernel) rfl rfl (by rw [h_m0.1]; decide) dX13_feed_118 (fun H locs hP hD hS => ?_)
  obtain ⟨fs_81, e9⟩ : ∃ z, z = fs_77.set 2 (.int 20) := ⟨_, rfl⟩
  have h_m0 : fx fs_81 225 [(0, .int 0), (1, .ref mt), (2, .int 20), (3, .int 0), (9, .int 0), (10, .int 0), (11, .int 0), (12, .int 0), (27, .int 0), (79, .int 0), (83, .int 0), (95, .int 0)] := by rw [e9]; exact (h_m0.put (F' := [(2, .int 20), (0, .int 0), (1, .ref mt), (3, .int 0), (9, .int 0), (10, .int 0), (11, .int 0), (12, .int 0), (27, .int 0), (79, .int 0), (83, .int 0), (95, .int 0)]) (by decide) _ rfl).sub [1, 2, 0, 3, 4, 5, 6, 7, 8, 9, 10, 11] rfl
  have hP : va_P (dC, dI) CL [(m0, .inr (13, fs_81)), (mt, .inl (mtC, (65536, .inl f_80)))] H := by rw [e9]; exact hP
  have hD : va_D A [(m0, .inr (13, fs_81)), (mt, .inl (mtC, (65536, .inl f_80)))] := by rw [e9]; exact hD
  clear e9
  refine lv_iinc (v := 20) (lv' := [(6, .int 20), (7, .int p4), (0, .ref m0), (1, .int p0), (2, .int p1), (3, .int p2), (4, .int p3), (5, .int p4)]) hx hb dX13_feed_121 hl (k := 1) rfl (by decide +kernel) (by decide) rfl (fun ls hl => ?_)
  refine lv_goto (tgt := 33) hx hb dX13_feed_124 (by decide) ?_
  refine lv_iload hx hb dX13_feed_33 (lv_at hl 0 rfl) ?_
  refine lv_bipush (v := 20) hx hb dX13_feed_35 (by decide +kernel) ?_
  refine lv_icmp_ge (tgt := 127) hx hb dX13_feed_37 (by decide) (fun c9 => ?_) (fun c9 => ?_)
  rotate_left
  · first | exact absurd c9 (by decide +kernel) | exact absurd (by decide +kernel) c9
  refine lv_aload_n hx hb dX13_feed_127 rfl (lv_at hl 2 rfl) ?_
  refine va_get (D := (dC, dI)) (ci := 13) (v := .int 20) (C := RX13) (T := TX13) (N := 225) hx hb hts inX13 hown hK hP 0 rfl rfl 2 (by decide) (hts (.fieldLink RX13 555 "ChipFlowModel" "size" "I") wd_3034) (fun _ h9 => h9) (h_m0.get 2 rfl) dX13_feed_128 ?_
  exact W.iret (v := 20) hx hb hr (fun t ht hW => ⟨⟨20, (), rfl, rfl, fs_81, f_80, h_m0, h_mt, by rw [ht]; exact hP, va_K.moved hW.alike hK, hD⟩, hS.F ht⟩) hS.2.2 dX13_feed_131
set_option maxHeartbeats 4000000 in
set_option maxRecDepth 100000 in
theorem gx9_X13_thrown (l : Launch) (hlt : l.stackTraces = false) (dC : Nat → ClassId) (dI : Nat → Nat → Nat) (sz : Nat) (m0 mt : Nat) (m0g : List Value) (h_m0 : fx m0g 225 [(0, .int 0), (1, .ref mt), (2, .int 20), (3, .int 0), (9, .int 0), (10, .int 0), (11, .int 0), (12, .int 0), (27, .int 0), (79, .int 0), (83, .int 0), (95, .int 0)]) : Met l yX13_thrown (Cond.code yX13_thrown cX13_thrown 1 (some .int) :: BG) ({ frames := 1, cells := 0, slots := 0, locals := 12 }) (va_Pc [.ref m0] (fun U => U.heap.size = sz ∧ va_P (dC, dI) CL [(m0, .inr (13, m0g))] U.heap ∧ va_K (dC, dI) CL [] U ∧ va_D (fun _ => True) [(m0, .inr (13, m0g))] ∧ th (va_A [(m0, .inr (13, m0g))] sz) U U.heap)) (va_Qi (fun (r : Int32) (_ : Unit) => r = 0) (fun _ t => ∃ (m0y : List Value), fx m0y 225 [(0, .int 0), (1, .ref mt), (2, .int 20), (3, .int 0), (9, .int 0), (10, .int 0), (11, .int 0), (12, .int 0), (27, .int 0), (79, .int 0), (83, .int 0), (95, .int 0)] ∧ va_P (dC, dI) CL [(m0, .inr (13, m0y))] t.heap ∧ va_K (dC, dI) CL [] t ∧ va_D (va_A [(m0, .inr (13, m0g))] sz) [(m0, .inr (13, m0y))]) (va_A [(m0, .inr (13, m0g))] sz)) 0 0 (va_A [(m0, .inr (13, m0g))] sz) := by
  refine Met.ofW (cc := cX13_thrown) (maxL := 1) (ret := (some .int)) (by decide) rfl ?_
  intro p e s m args below meth c s₁ B hml hv
  obtain ⟨rfl, hsz, hP, hK, hD0, hth⟩ := hv
  have hx := B.exec
  have hb := B.bytes
  have hr := B.returns
  have hts : ∀ w ∈ BG, w.before _ s = true := fun w h => atoms_spec (ws := Cond.code yX13_thrown cX13_thrown 1 (some .int) :: BG) B.pre w (List.mem_cons_of_mem _ h)
  have hown : s.vm.findClass RX13 = some m.cls := findClass_of_methodNamed B.named
  have hlocks := B.notSynchronized
  subst hsz
  have hD := hD0.self (sz := s.heap.size)
  generalize hAe : va_A [(m0, .inr (13, m0g))] s.heap.size = A at hD hth ⊢
  have hA : ∀ q : Nat, s.heap.size ≤ q → A q := fun q h => by rw [← hAe]; exact Or.inr h
  have hS : va_S A s.heap s.heap [] := va_S.rf
  have hl := lv_entry ([.ref m0]) (n := 1) (Nat.le_of_ble_eq_true rfl)
  rw [lg_entry_eq]
  generalize (lg_sl ([.ref m0]) ++ List.replicate (1 - (lg_sl ([.ref m0])).length) Slot.unset).toArray = ls at hl ⊢
  have hl : lv_has ls 1 [(0, .ref m0)] := hl
  obtain ⟨H, eH⟩ : ∃ z, z = s.heap := ⟨_, rfl⟩
  have hP : va_P (dC, dI) CL [(m0, .inr (13, m0g))] H := by rw [eH]; exact hP
  have hS : va_S A s.heap H [] := by rw [eH]; exact hS
  rw [← eH]
  refine lv_aload_n hx hb dX13_thrown_0 rfl (lv_at hl 0 rfl) ?_
  refine va_get (D := (dC, dI)) (ci := 13) (v := .int 0) (C := RX13) (T := TX13) (N := 225) hx hb hts inX13 hown hK hP 0 rfl rfl 0 (by decide) (hts (.fieldLink RX13 1 "ChipFlowModel" "code" "I") wd_3032) (fun _ h9 => h9) (h_m0.get 0 rfl) dX13_thrown_1 ?_
  exact W.iret (v := 0) hx hb hr (fun t ht hW => ⟨⟨0, (), rfl, rfl, m0g, h_m0, by rw [ht]; exact hP, va_K.moved hW.alike hK, hD⟩, hS.F ht⟩) hS.2.2 dX13_thrown_4
set_option maxHeartbeats 4000000 in
set_option maxRecDepth 100000 in
theorem gx10_X12_fault (l : Launch) (hlt : l.stackTraces = false) (dC : Nat → ClassId) (dI : Nat → Nat → Nat) (sz : Nat) (x : Nat) (xg : List Value) (h_x : fx xg 17 [(10, .int 0)]) : Met l yX12_fault (Cond.code yX12_fault cX12_fault 1 (some .int) :: BG) ({ frames := 1, cells := 0, slots := 0, locals := 12 }) (va_Pc [.ref x] (fun U => U.heap.size = sz ∧ va_P (dC, dI) CL [(x, .inr (12, xg))] U.heap ∧ va_K (dC, dI) CL [] U ∧ va_D (fun _ => True) [(x, .inr (12, xg))] ∧ th (va_A [(x, .inr (12, xg))] sz) U U.heap)) (va_Qi (fun (r : Int32) (_ : Unit) => r = 0) (fun _ t => ∃ (xy : List Value), fx xy 17 [(10, .int 0)] ∧ va_P (dC, dI) CL [(x, .inr (12, xy))] t.heap ∧ va_K (dC, dI) CL [] t ∧ va_D (va_A [(x, .inr (12, xg))] sz) [(x, .inr (12, xy))]) (va_A [(x, .inr (12, xg))] sz)) 0 0 (va_A [(x, .inr (12, xg))] sz) := by
  refine Met.ofW (cc := cX12_fault) (maxL := 1) (ret := (some .int)) (by decide) rfl ?_
  intro p e s m args below meth c s₁ B hml hv
  obtain ⟨rfl, hsz, hP, hK, hD0, hth⟩ := hv
  have hx := B.exec
  have hb := B.bytes
  have hr := B.returns
  have hts : ∀ w ∈ BG, w.before _ s = true := fun w h => atoms_spec (ws := Cond.code yX12_fault cX12_fault 1 (some .int) :: BG) B.pre w (List.mem_cons_of_mem _ h)
  have hown : s.vm.findClass RX12 = some m.cls := findClass_of_methodNamed B.named
  have hlocks := B.notSynchronized
  subst hsz
  have hD := hD0.self (sz := s.heap.size)
  generalize hAe : va_A [(x, .inr (12, xg))] s.heap.size = A at hD hth ⊢
  have hA : ∀ q : Nat, s.heap.size ≤ q → A q := fun q h => by rw [← hAe]; exact Or.inr h
  have hS : va_S A s.heap s.heap [] := va_S.rf
  have hl := lv_entry ([.ref x]) (n := 1) (Nat.le_of_ble_eq_true rfl)
  rw [lg_entry_eq]
  generalize (lg_sl ([.ref x]) ++ List.replicate (1 - (lg_sl ([.ref x])).length) Slot.unset).toArray = ls at hl ⊢
  have hl : lv_has ls 1 [(0, .ref x)] := hl
  obtain ⟨H, eH⟩ : ∃ z, z = s.heap := ⟨_, rfl⟩
  have hP : va_P (dC, dI) CL [(x, .inr (12, xg))] H := by rw [eH]; exact hP
  have hS : va_S A s.heap H [] := by rw [eH]; exact hS
  rw [← eH]
  refine lv_aload_n hx hb dX12_fault_0 rfl (lv_at hl 0 rfl) ?_
  refine va_get (D := (dC, dI)) (ci := 12) (v := .int 0) (C := RX12) (T := TX12) (N := 17) hx hb hts inX12 hown hK hP 0 rfl rfl 10 (by decide) (hts (.fieldLink RX12 119 "ChipFlow" "lastFault" "I") wd_1188) (fun _ h9 => h9) (h_x.get 0 rfl) dX12_fault_1 ?_
  exact W.iret (v := 0) hx hb hr (fun t ht hW => ⟨⟨0, (), rfl, rfl, xg, h_x, by rw [ht]; exact hP, va_K.moved hW.alike hK, hD⟩, hS.F ht⟩) hS.2.2 dX12_fault_4
set_option maxHeartbeats 4000000 in
set_option maxRecDepth 100000 in
theorem gx11_X13_fault (l : Launch) (hlt : l.stackTraces = false) (dC : Nat → ClassId) (dI : Nat → Nat → Nat) (sz : Nat) (m0 : Nat) (m0g : List Value) (h_m0 : fx m0g 225 [(0, .int 0), (2, .int 0), (3, .int 0), (9, .int 0), (10, .int 0), (11, .int 0), (12, .int 0), (27, .int 0), (79, .int 0), (83, .int 0), (95, .int 0)]) : Met l yX13_fault (Cond.code yX13_fault cX13_fault 1 (some .int) :: BG) ({ frames := 1, cells := 0, slots := 0, locals := 12 }) (va_Pc [.ref m0] (fun U => U.heap.size = sz ∧ va_P (dC, dI) CL [(m0, .inr (13, m0g))] U.heap ∧ va_K (dC, dI) CL [] U ∧ va_D (fun _ => True) [(m0, .inr (13, m0g))] ∧ th (va_A [(m0, .inr (13, m0g))] sz) U U.heap)) (va_Qi (fun (r : Int32) (_ : Unit) => r = 0) (fun _ t => ∃ (m0y : List Value), fx m0y 225 [(0, .int 0), (2, .int 0), (3, .int 0), (9, .int 0), (10, .int 0), (11, .int 0), (12, .int 0), (27, .int 0), (79, .int 0), (83, .int 0), (95, .int 0)] ∧ va_P (dC, dI) CL [(m0, .inr (13, m0y))] t.heap ∧ va_K (dC, dI) CL [] t ∧ va_D (va_A [(m0, .inr (13, m0g))] sz) [(m0, .inr (13, m0y))]) (va_A [(m0, .inr (13, m0g))] sz)) 0 0 (va_A [(m0, .inr (13, m0g))] sz) := by
  refine Met.ofW (cc := cX13_fault) (maxL := 1) (ret := (some .int)) (by decide) rfl ?_
  intro p e s m args below meth c s₁ B hml hv
  obtain ⟨rfl, hsz, hP, hK, hD0, hth⟩ := hv
  have hx := B.exec
  have hb := B.bytes
  have hr := B.returns
  have hts : ∀ w ∈ BG, w.before _ s = true := fun w h => atoms_spec (ws := Cond.code yX13_fault cX13_fault 1 (some .int) :: BG) B.pre w (List.mem_cons_of_mem _ h)
  have hown : s.vm.findClass RX13 = some m.cls := findClass_of_methodNamed B.named
  have hlocks := B.notSynchronized
  subst hsz
  have hD := hD0.self (sz := s.heap.size)
  generalize hAe : va_A [(m0, .inr (13, m0g))] s.heap.size = A at hD hth ⊢
  have hA : ∀ q : Nat, s.heap.size ≤ q → A q := fun q h => by rw [← hAe]; exact Or.inr h
  have hS : va_S A s.heap s.heap [] := va_S.rf
  have hl := lv_entry ([.ref m0]) (n := 1) (Nat.le_of_ble_eq_true rfl)
  rw [lg_entry_eq]
  generalize (lg_sl ([.ref m0]) ++ List.replicate (1 - (lg_sl ([.ref m0])).length) Slot.unset).toArray = ls at hl ⊢
  have hl : lv_has ls 1 [(0, .ref m0)] := hl
  obtain ⟨H, eH⟩ : ∃ z, z = s.heap := ⟨_, rfl⟩
  have hP : va_P (dC, dI) CL [(m0, .inr (13, m0g))] H := by rw [eH]; exact hP
  have hS : va_S A s.heap H [] := by rw [eH]; exact hS
  rw [← eH]
  refine lv_aload_n hx hb dX13_fault_0 rfl (lv_at hl 0 rfl) ?_
  refine lv_iconst (v := 0) hx hb dX13_fault_1 (by decide +kernel) ?_
  refine va_put (D := (dC, dI)) (ci := 13) (v := .int 0) (ty := tyX13 0) (C := RX13) (T := TX13) (N := 225) hx hb hts inX13 tyX13 tyX13_ok nmX13 hown hK hP hD hS 0 rfl rfl 0 (by decide) (hts (.fieldLink RX13 1 "ChipFlowModel" "code" "I") wd_3032) (fun _ h9 => h9) rfl (by decide +kernel) rfl rfl (by rw [h_m0.1]; decide) dX13_fault_2 (fun H locs hP hD hS => ?_)
  obtain ⟨fs_1, e9⟩ : ∃ z, z = m0g.set 0 (.int 0) := ⟨_, rfl⟩
  have h_m0 : fx fs_1 225 [(0, .int 0), (2, .int 0), (3, .int 0), (9, .int 0), (10, .int 0), (11, .int 0), (12, .int 0), (27, .int 0), (79, .int 0), (83, .int 0), (95, .int 0)] := by rw [e9]; exact (h_m0.put (F' := [(0, .int 0), (2, .int 0), (3, .int 0), (9, .int 0), (10, .int 0), (11, .int 0), (12, .int 0), (27, .int 0), (79, .int 0), (83, .int 0), (95, .int 0)]) (by decide) _ rfl).sub [0, 1, 2, 3, 4, 5, 6, 7, 8, 9, 10] rfl
  have hP : va_P (dC, dI) CL [(m0, .inr (13, fs_1))] H := by rw [e9]; exact hP
  have hD : va_D A [(m0, .inr (13, fs_1))] := by rw [e9]; exact hD
  clear e9
  refine lv_aload_n hx hb dX13_fault_5 rfl (lv_at hl 0 rfl) ?_
  refine va_get (D := (dC, dI)) (ci := 13) (v := .int 0) (C := RX13) (T := TX13) (N := 225) hx hb hts inX13 hown hK hP 0 rfl rfl 79 (by decide) (hts (.fieldLink RX13 885 "ChipFlowModel" "lastFault" "I") wd_3110) (fun _ h9 => h9) (h_m0.get 8 rfl) dX13_fault_6 ?_
  exact W.iret (v := 0) hx hb hr (fun t ht hW => ⟨⟨0, (), rfl, rfl, fs_1, h_m0, by rw [ht]; exact hP, va_K.moved hW.alike hK, hD⟩, hS.F ht⟩) hS.2.2 dX13_fault_9
set_option maxHeartbeats 4000000 in
set_option maxRecDepth 100000 in
theorem gx12_X12_tape (l : Launch) (hlt : l.stackTraces = false) (dC : Nat → ClassId) (dI : Nat → Nat → Nat) (sz : Nat) (x tx bt : Nat) (xg : List Value) (h_x : fx xg 17 [(0, .ref tx)]) (txg : List Value) (h_tx : fx txg 9 [(0, .ref bt), (1, .int 0), (2, .int 0), (3, .int 0), (4, .int 0), (6, .int 0), (7, .int 0), (8, .int 0)]) : Met l yX12_tape (Cond.code yX12_tape cX12_tape 1 (some .int) :: BG) ({ frames := 1, cells := 0, slots := 0, locals := 12 }) (va_Pc [.ref x] (fun U => U.heap.size = sz ∧ va_P (dC, dI) CL [(x, .inr (12, xg)), (tx, .inr (10, txg))] U.heap ∧ va_K (dC, dI) CL [] U ∧ va_D (fun _ => True) [(x, .inr (12, xg)), (tx, .inr (10, txg))] ∧ th (va_A [(x, .inr (12, xg)), (tx, .inr (10, txg))] sz) U U.heap)) (va_Qi (fun (r : Int32) (_ : Unit) => r = 0) (fun _ t => ∃ (xy : List Value) (txy : List Value), fx xy 17 [(0, .ref tx)] ∧ fx txy 9 [(0, .ref bt), (1, .int 0), (2, .int 0), (3, .int 0), (4, .int 0), (6, .int 0), (7, .int 0), (8, .int 0)] ∧ va_P (dC, dI) CL [(x, .inr (12, xy)), (tx, .inr (10, txy))] t.heap ∧ va_K (dC, dI) CL [] t ∧ va_D (va_A [(x, .inr (12, xg)), (tx, .inr (10, txg))] sz) [(x, .inr (12, xy)), (tx, .inr (10, txy))]) (va_A [(x, .inr (12, xg)), (tx, .inr (10, txg))] sz)) 0 0 (va_A [(x, .inr (12, xg)), (tx, .inr (10, txg))] sz) := by
  refine Met.ofW (cc := cX12_tape) (maxL := 1) (ret := (some .int)) (by decide) rfl ?_
  intro p e s m args below meth c s₁ B hml hv
  obtain ⟨rfl, hsz, hP, hK, hD0, hth⟩ := hv
  have hx := B.exec
  have hb := B.bytes
  have hr := B.returns
  have hts : ∀ w ∈ BG, w.before _ s = true := fun w h => atoms_spec (ws := Cond.code yX12_tape cX12_tape 1 (some .int) :: BG) B.pre w (List.mem_cons_of_mem _ h)
  have hown : s.vm.findClass RX12 = some m.cls := findClass_of_methodNamed B.named
  have hlocks := B.notSynchronized
  subst hsz
  have hD := hD0.self (sz := s.heap.size)
  generalize hAe : va_A [(x, .inr (12, xg)), (tx, .inr (10, txg))] s.heap.size = A at hD hth ⊢
  have hA : ∀ q : Nat, s.heap.size ≤ q → A q := fun q h => by rw [← hAe]; exact Or.inr h
  have hS : va_S A s.heap s.heap [] := va_S.rf
  have hl := lv_entry ([.ref x]) (n := 1) (Nat.le_of_ble_eq_true rfl)
  rw [lg_entry_eq]
  generalize (lg_sl ([.ref x]) ++ List.replicate (1 - (lg_sl ([.ref x])).length) Slot.unset).toArray = ls at hl ⊢
  have hl : lv_has ls 1 [(0, .ref x)] := hl
  obtain ⟨H, eH⟩ : ∃ z, z = s.heap := ⟨_, rfl⟩
  have hP : va_P (dC, dI) CL [(x, .inr (12, xg)), (tx, .inr (10, txg))] H := by rw [eH]; exact hP
  have hS : va_S A s.heap H [] := by rw [eH]; exact hS
  rw [← eH]
  refine lv_aload_n hx hb dX12_tape_0 rfl (lv_at hl 0 rfl) ?_
  refine va_get (D := (dC, dI)) (ci := 12) (v := .ref tx) (C := RX12) (T := TX12) (N := 17) hx hb hts inX12 hown hK hP 0 rfl rfl 0 (by decide) (hts (.fieldLink RX12 10 "ChipFlow" "text" "LChipFlow$Text;") wd_1178) (fun _ h9 => h9) (h_x.get 0 rfl) dX12_tape_1 ?_
  refine va_get (D := (dC, dI)) (ci := 10) (v := .int 0) (C := RX10) (T := TX10) (N := 9) hx hb hts inX10 hown hK hP 1 rfl rfl 1 (by decide) (hts (.fieldLink RX12 99 "ChipFlow$Text" "length" "I") wd_378) (fun _ h9 => h9) (h_tx.get 1 rfl) dX12_tape_4 ?_
  exact W.iret (v := 0) hx hb hr (fun t ht hW => ⟨⟨0, (), rfl, rfl, xg, txg, h_x, h_tx, by rw [ht]; exact hP, va_K.moved hW.alike hK, hD⟩, hS.F ht⟩) hS.2.2 dX12_tape_7
set_option maxHeartbeats 4000000 in
set_option maxRecDepth 100000 in
theorem gx13_X13_tape (l : Launch) (hlt : l.stackTraces = false) (dC : Nat → ClassId) (dI : Nat → Nat → Nat) (sz : Nat) (m0 : Nat) (m0g : List Value) (h_m0 : fx m0g 225 [(0, .int 0), (2, .int 0), (3, .int 0), (9, .int 0), (10, .int 0), (11, .int 0), (12, .int 0), (27, .int 0), (79, .int 0), (83, .int 0), (95, .int 0)]) : Met l yX13_tape (Cond.code yX13_tape cX13_tape 1 (some .int) :: BG) ({ frames := 1, cells := 0, slots := 0, locals := 12 }) (va_Pc [.ref m0] (fun U => U.heap.size = sz ∧ va_P (dC, dI) CL [(m0, .inr (13, m0g))] U.heap ∧ va_K (dC, dI) CL [] U ∧ va_D (fun _ => True) [(m0, .inr (13, m0g))] ∧ th (va_A [(m0, .inr (13, m0g))] sz) U U.heap)) (va_Qi (fun (r : Int32) (_ : Unit) => r = 0) (fun _ t => ∃ (m0y : List Value), fx m0y 225 [(0, .int 0), (2, .int 0), (3, .int 0), (9, .int 0), (10, .int 0), (11, .int 0), (12, .int 0), (27, .int 0), (79, .int 0), (83, .int 0), (95, .int 0)] ∧ va_P (dC, dI) CL [(m0, .inr (13, m0y))] t.heap ∧ va_K (dC, dI) CL [] t ∧ va_D (va_A [(m0, .inr (13, m0g))] sz) [(m0, .inr (13, m0y))]) (va_A [(m0, .inr (13, m0g))] sz)) 0 0 (va_A [(m0, .inr (13, m0g))] sz) := by
  refine Met.ofW (cc := cX13_tape) (maxL := 1) (ret := (some .int)) (by decide) rfl ?_
  intro p e s m args below meth c s₁ B hml hv
  obtain ⟨rfl, hsz, hP, hK, hD0, hth⟩ := hv
  have hx := B.exec
  have hb := B.bytes
  have hr := B.returns
  have hts : ∀ w ∈ BG, w.before _ s = true := fun w h => atoms_spec (ws := Cond.code yX13_tape cX13_tape 1 (some .int) :: BG) B.pre w (List.mem_cons_of_mem _ h)
  have hown : s.vm.findClass RX13 = some m.cls := findClass_of_methodNamed B.named
  have hlocks := B.notSynchronized
  subst hsz
  have hD := hD0.self (sz := s.heap.size)
  generalize hAe : va_A [(m0, .inr (13, m0g))] s.heap.size = A at hD hth ⊢
  have hA : ∀ q : Nat, s.heap.size ≤ q → A q := fun q h => by rw [← hAe]; exact Or.inr h
  have hS : va_S A s.heap s.heap [] := va_S.rf
  have hl := lv_entry ([.ref m0]) (n := 1) (Nat.le_of_ble_eq_true rfl)
  rw [lg_entry_eq]
  generalize (lg_sl ([.ref m0]) ++ List.replicate (1 - (lg_sl ([.ref m0])).length) Slot.unset).toArray = ls at hl ⊢
  have hl : lv_has ls 1 [(0, .ref m0)] := hl
  obtain ⟨H, eH⟩ : ∃ z, z = s.heap := ⟨_, rfl⟩
  have hP : va_P (dC, dI) CL [(m0, .inr (13, m0g))] H := by rw [eH]; exact hP
  have hS : va_S A s.heap H [] := by rw [eH]; exact hS
  rw [← eH]
  refine lv_aload_n hx hb dX13_tape_0 rfl (lv_at hl 0 rfl) ?_
  refine lv_iconst (v := 0) hx hb dX13_tape_1 (by decide +kernel) ?_
  refine va_put (D := (dC, dI)) (ci := 13) (v := .int 0) (ty := tyX13 0) (C := RX13) (T := TX13) (N := 225) hx hb hts inX13 tyX13 tyX13_ok nmX13 hown hK hP hD hS 0 rfl rfl 0 (by decide) (hts (.fieldLink RX13 1 "ChipFlowModel" "code" "I") wd_3032) (fun _ h9 => h9) rfl (by decide +kernel) rfl rfl (by rw [h_m0.1]; decide) dX13_tape_2 (fun H locs hP hD hS => ?_)
  obtain ⟨fs_1, e9⟩ : ∃ z, z = m0g.set 0 (.int 0) := ⟨_, rfl⟩
  have h_m0 : fx fs_1 225 [(0, .int 0), (2, .int 0), (3, .int 0), (9, .int 0), (10, .int 0), (11, .int 0), (12, .int 0), (27, .int 0), (79, .int 0), (83, .int 0), (95, .int 0)] := by rw [e9]; exact (h_m0.put (F' := [(0, .int 0), (2, .int 0), (3, .int 0), (9, .int 0), (10, .int 0), (11, .int 0), (12, .int 0), (27, .int 0), (79, .int 0), (83, .int 0), (95, .int 0)]) (by decide) _ rfl).sub [0, 1, 2, 3, 4, 5, 6, 7, 8, 9, 10] rfl
  have hP : va_P (dC, dI) CL [(m0, .inr (13, fs_1))] H := by rw [e9]; exact hP
  have hD : va_D A [(m0, .inr (13, fs_1))] := by rw [e9]; exact hD
  clear e9
  refine lv_aload_n hx hb dX13_tape_5 rfl (lv_at hl 0 rfl) ?_
  refine va_get (D := (dC, dI)) (ci := 13) (v := .int 0) (C := RX13) (T := TX13) (N := 225) hx hb hts inX13 hown hK hP 0 rfl rfl 2 (by decide) (hts (.fieldLink RX13 555 "ChipFlowModel" "size" "I") wd_3034) (fun _ h9 => h9) (h_m0.get 1 rfl) dX13_tape_6 ?_
  exact W.iret (v := 0) hx hb hr (fun t ht hW => ⟨⟨0, (), rfl, rfl, fs_1, h_m0, by rw [ht]; exact hP, va_K.moved hW.alike hK, hD⟩, hS.F ht⟩) hS.2.2 dX13_tape_9
set_option maxHeartbeats 4000000 in
set_option maxRecDepth 100000 in
theorem gx15_X12_end (l : Launch) (hlt : l.stackTraces = false) (dC : Nat → ClassId) (dI : Nat → Nat → Nat) (sz : Nat) (p0 : Int32) (x tx bt : Nat) (xg : List Value) (h_x : fx xg 17 [(0, .ref tx)]) (txg : List Value) (h_tx : fx txg 9 [(0, .ref bt), (1, .int 0), (2, .int 0), (3, .int 0), (4, .int 0), (6, .int 0), (7, .int 0), (8, .int 0)]) (zn : p0 < 0) : vx_Met l yX12_end (Cond.code yX12_end cX12_end 2 none :: BG) ({ frames := 7, cells := 1, slots := 6, locals := 130 }) (va_Pc [.ref x, .int p0] (fun U => U.heap.size = sz ∧ va_P (dC, dI) CL [(x, .inr (12, xg)), (tx, .inr (10, txg))] U.heap ∧ va_K (dC, dI) CL [] U ∧ va_D (fun _ => True) [(x, .inr (12, xg)), (tx, .inr (10, txg))] ∧ th (va_A [(x, .inr (12, xg)), (tx, .inr (10, txg))] sz) U U.heap)) (fun _ _ _ _ => False) (vx_X (fun _ : Unit => True) (fun E _ t => E = "java/lang/IllegalArgumentException" ∧ ∃ (xy : List Value) (txy : List Value), fx xy 17 [(0, .ref tx)] ∧ fx txy 9 [(0, .ref bt), (1, .int 0), (2, .int 0), (3, .int 0), (4, .int 0), (6, .int 0), (7, .int 0), (8, .int 0)] ∧ va_P (dC, dI) CL [(x, .inr (12, xy)), (tx, .inr (10, txy))] t.heap ∧ va_K (dC, dI) CL [] t ∧ va_D (va_A [(x, .inr (12, xg)), (tx, .inr (10, txg))] sz) [(x, .inr (12, xy)), (tx, .inr (10, txy))]) (va_A [(x, .inr (12, xg)), (tx, .inr (10, txg))] sz)) 1 6 (va_A [(x, .inr (12, xg)), (tx, .inr (10, txg))] sz) := by
  refine vx_ofW (cc := cX12_end) (maxL := 2) (ret := none) (by decide) rfl ?_
  intro p e s m args below meth c s₁ B hml ht0 hv
  obtain ⟨rfl, hsz, hP, hK, hD0, hth⟩ := hv
  have hx := B.exec
  have hb := B.bytes
  have hr := B.returns
  have hts : ∀ w ∈ BG, w.before _ s = true := fun w h => atoms_spec (ws := Cond.code yX12_end cX12_end 2 none :: BG) B.pre w (List.mem_cons_of_mem _ h)
  have hown : s.vm.findClass RX12 = some m.cls := findClass_of_methodNamed B.named
  have hlocks := B.notSynchronized
  subst hsz
  have hD := hD0.self (sz := s.heap.size)
  generalize hAe : va_A [(x, .inr (12, xg)), (tx, .inr (10, txg))] s.heap.size = A at hD hth ⊢
  have hA : ∀ q : Nat, s.heap.size ≤ q → A q := fun q h => by rw [← hAe]; exact Or.inr h
  have hS : va_S A s.heap s.heap [] := va_S.rf
  have hl := lv_entry ([.ref x, .int p0]) (n := 2) (Nat.le_of_ble_eq_true rfl)
  rw [lg_entry_eq]
  generalize (lg_sl ([.ref x, .int p0]) ++ List.replicate (2 - (lg_sl ([.ref x, .int p0])).length) Slot.unset).toArray = ls at hl ⊢
  have hl : lv_has ls 2 [(0, .ref x), (1, .int p0)] := hl
  obtain ⟨H, eH⟩ : ∃ z, z = s.heap := ⟨_, rfl⟩
  have hP : va_P (dC, dI) CL [(x, .inr (12, xg)), (tx, .inr (10, txg))] H := by rw [eH]; exact hP
  have hS : va_S A s.heap H [] := by rw [eH]; exact hS
  rw [← eH]
  refine lv_iload_n hx hb dX12_end_0 rfl (lv_at hl 1 rfl) ?_
  refine lv_if_lt (tgt := 19) hx hb dX12_end_1 (by decide) (fun c9 => ?_) (fun c9 => ?_)
  rotate_left
  · first | exact absurd c9 zn | exact absurd zn c9
  refine lv_iconst (v := 0) hx hb dX12_end_19 (by decide +kernel) ?_
  have hF0 : ∀ q, va_A [] H.size q → A q := fun q h => h.elim (fun ⟨k9, e9, h9⟩ => by simp at h9) (fun h9 => hA q (Nat.le_trans hS.1 h9))
  refine vx_callv (vx_runS (As := [.int 0]) (rest := []) ⟨hx, hb, hml, hown, hts⟩ (ct_X12_needRange l hlt H.size 0) (cwS 1 hts (gi_S wd_1328 wd_1329 wd_327 wd_1330) rfl rfl rfl (by decide +kernel) ⟨(Nat.le_of_ble_eq_true rfl), (Nat.le_of_ble_eq_true rfl)⟩) ⟨fun a U g mk q => ⟨q.1, q.2.1, th.moved (u := U) (U := U.calling g mk a) (Vm.Alike.refl U.vm) q.2.2⟩, fun U hU hW => ⟨rfl, by rw [hU], by rw [hU]; exact ((hth.kept hS.2.1).narrow hF0).moved hW.alike⟩⟩ rfl rfl hl.1 rfl (lv_room (Nat.le_of_ble_eq_true rfl)) dX12_end_20 ⟨(Nat.le_of_ble_eq_true rfl), (Nat.le_of_ble_eq_true rfl)⟩) hS (fun q _ h => hF0 q h) hF0 (fun q _ h => hF0 q h) (fun E ce q9 u t H1 locs ht hvm hp hB hz hk hS hce hcv hcl => ?_) (fun u t H1 locs ht hvm hp hB hz hk hS => absurd rfl hp)
  subst hB
  have hP : va_P (dC, dI) CL [(x, .inr (12, xg)), (tx, .inr (10, txg))] H1 := hP.kept (fun k q h9 => hk _ (vx_lt hP h9) (fun h8 => h8.elim (fun ⟨k9, e9, h7⟩ => by simp at h7) (fun h7 => absurd (vx_lt hP h9) (Nat.not_lt.mpr h7))))
  generalize H1 = H at hP hS hce ⊢
  exact vx_out (fun x h9 => (ht0 x h9).elim) hlocks hce hcv hcl (fun t ht hvm9 => ⟨(), trivial, ⟨rfl, xg, txg, h_x, h_tx, by rw [ht]; exact hP, va_K.moved hvm9 hK, hD⟩, hS.F ht⟩) hS.2.2 (Nat.le_of_ble_eq_true rfl) (Nat.le_of_ble_eq_true rfl)
set_option maxHeartbeats 4000000 in
set_option maxRecDepth 100000 in
theorem gx14_L_end (l : Launch) (hlt : l.stackTraces = false) (dC : Nat → ClassId) (dI : Nat → Nat → Nat) (sz : Nat) (p0 : Int32) (x tx bt : Nat) (xg : List Value) (h_x : fx xg 17 [(0, .ref tx)]) (txg : List Value) (h_tx : fx txg 9 [(0, .ref bt), (1, .int 0), (2, .int 0), (3, .int 0), (4, .int 0), (6, .int 0), (7, .int 0), (8, .int 0)]) (zn : p0 < 0) : Met l yL_end (Cond.codeWith yL_end cL_end 3 (some .int) [(0, 5, 8, 19)] :: BG) ({ frames := 8, cells := 1, slots := 6, locals := 151 }) (va_Pc [.ref x, .int p0] (fun U => U.heap.size = sz ∧ va_P (dC, dI) CL [(x, .inr (12, xg)), (tx, .inr (10, txg))] U.heap ∧ va_K (dC, dI) CL [] U ∧ va_D (fun _ => True) [(x, .inr (12, xg)), (tx, .inr (10, txg))] ∧ th (va_A [(x, .inr (12, xg)), (tx, .inr (10, txg))] sz) U U.heap)) (va_Qi (fun (r : Int32) (_ : Unit) => r = 1) (fun _ t => ∃ (xy : List Value) (txy : List Value), fx xy 17 [(0, .ref tx)] ∧ fx txy 9 [(0, .ref bt), (1, .int 0), (2, .int 0), (3, .int 0), (4, .int 0), (6, .int 0), (7, .int 0), (8, .int 0)] ∧ va_P (dC, dI) CL [(x, .inr (12, xy)), (tx, .inr (10, txy))] t.heap ∧ va_K (dC, dI) CL [] t ∧ va_D (va_A [(x, .inr (12, xg)), (tx, .inr (10, txg))] sz) [(x, .inr (12, xy)), (tx, .inr (10, txy))]) (va_A [(x, .inr (12, xg)), (tx, .inr (10, txg))] sz)) 1 6 (va_A [(x, .inr (12, xg)), (tx, .inr (10, txg))] sz) := by
  refine va_MetW (hh := [(0, 5, 8, 19)]) (cc := cL_end) (maxL := 3) (ret := (some .int)) (by decide) rfl ?_
  intro p e s m args below meth c s₁ B hml hv
  obtain ⟨rfl, hsz, hP, hK, hD0, hth⟩ := hv
  have hx := B.exec
  have hb := B.bytes
  have hr := B.returns
  have hts : ∀ w ∈ BG, w.before _ s = true := fun w h => atoms_spec (ws := Cond.codeWith yL_end cL_end 3 (some .int) [(0, 5, 8, 19)] :: BG) B.pre w (List.mem_cons_of_mem _ h)
  have hown : s.vm.findClass RL = some m.cls := findClass_of_methodNamed B.named
  have hlocks := B.notSynchronized
  subst hsz
  have hD := hD0.self (sz := s.heap.size)
  generalize hAe : va_A [(x, .inr (12, xg)), (tx, .inr (10, txg))] s.heap.size = A at hD hth ⊢
  have hA : ∀ q : Nat, s.heap.size ≤ q → A q := fun q h => by rw [← hAe]; exact Or.inr h
  have hS : va_S A s.heap s.heap [] := va_S.rf
  have hl := lv_entry ([.ref x, .int p0]) (n := 3) (Nat.le_of_ble_eq_true rfl)
  rw [lg_entry_eq]
  generalize (lg_sl ([.ref x, .int p0]) ++ List.replicate (3 - (lg_sl ([.ref x, .int p0])).length) Slot.unset).toArray = ls at hl ⊢
  have hl : lv_has ls 3 [(0, .ref x), (1, .int p0)] := hl
  obtain ⟨H, eH⟩ : ∃ z, z = s.heap := ⟨_, rfl⟩
  have hP : va_P (dC, dI) CL [(x, .inr (12, xg)), (tx, .inr (10, txg))] H := by rw [eH]; exact hP
  have hS : va_S A s.heap H [] := by rw [eH]; exact hS
  rw [← eH]
  have hT : c.exceptionTable.toList = tableOf [(0, 5, 8, 19)] := vx_table (x := yL_end) B (atoms_spec (ws := Cond.codeWith yL_end cL_end 3 (some .int) [(0, 5, 8, 19)] :: BG) B.pre _ List.mem_cons_self)
  refine lv_aload_n hx hb dL_end_0 rfl (lv_at hl 0 rfl) ?_
  refine lv_iload_n hx hb dL_end_1 rfl (lv_at hl 1 rfl) ?_
  have hFc := va_free (wc := [(x, .inr (12, xg)), (tx, .inr (10, txg))]) hD hS hA [0, 1] rfl
  refine vq_thr (vx_runV (As := [.int p0]) (rest := []) ⟨hx, hb, hml, hown, hts⟩ (gx15_X12_end l hlt dC dI _ p0 x tx bt xg h_x txg h_tx zn) (cwV 1 hts (gi_V wd_1324 wd_1325 wd_1326 wd_327 wd_1327) rfl rfl rfl (by decide +kernel) ⟨(Nat.le_of_ble_eq_true rfl), (Nat.le_of_ble_eq_true rfl)⟩) ⟨fun a U g mk q => by obtain ⟨q0, q1, qP, qK, qD, qT⟩ := q; exact ⟨q0, q1, qP, va_K.moved (u := U) (U := U.calling g mk a) (Vm.Alike.refl U.vm) qK, qD, th.moved (u := U) (U := U.calling g mk a) (Vm.Alike.refl U.vm) qT⟩, va_recv hK hP (ci := 12) (q0 := 0) rfl rfl, fun U hU hW => ⟨rfl, by rw [hU], by rw [hU]; exact hP, va_K.moved hW.alike hK, hD.weaken (fun _ _ _ _ => trivial), by rw [hU]; exact ((hth.kept hS.2.1).narrow hFc).moved hW.alike⟩⟩ rfl rfl hl.1 rfl (lv_room (Nat.le_of_ble_eq_true rfl)) dL_end_2 ⟨(Nat.le_of_ble_eq_true rfl), (Nat.le_of_ble_eq_true rfl)⟩) (fun _ _ _ h => h) hS hFc (fun q _ h => hFc q h) (fun E ce q9 u t H1 locs ht hvm hp hB hz hk hS hce hcv hcl => ?_)
  obtain ⟨hE, hB⟩ := hB
  subst hE
  obtain ⟨fs_1, fs_2, h_x, h_tx, hP1, hK1, hD1⟩ := hB
  rw [ht] at hP1
  have hD := hD1.weaken (fun k q _ h => hFc q.1 h)
  have hP := hP1
  generalize H1 = H at hP hS hce ⊢
  have hP : va_P (dC, dI) CL [(x, .inr (12, fs_1)), (tx, .inr (10, fs_2))] H := hP
  have hD : va_D A [(x, .inr (12, fs_1)), (tx, .inr (10, fs_2))] := hD
  refine vx_catch (own := RL) (name := "java/lang/IllegalArgumentException") hown [] { startPc := 0, endPc := 5, handlerPc := 8, catchType := 19 } [] (by rw [hT]; rfl) (fun _ h => nomatch h) (by decide) (by decide) (hts (.classLink RL 19 "java/lang/IllegalArgumentException") wd_1323) (hth.cast (by decide)) hce hcv hcl ?_
  refine W.widen (k := 1) (n := 6) (Nat.le_of_ble_eq_true rfl) (Nat.le_of_ble_eq_true rfl) ?_
  refine lv_astore_n (lv' := [(2, .ref q9), (0, .ref x), (1, .int p0)]) hx hb dL_end_8 rfl hl (by decide) rfl (fun ls hl => ?_)
  refine lv_iconst (v := 1) hx hb dL_end_9 (by decide +kernel) ?_
  refine W.widen (k := 1) (n := 6) (Nat.le_of_ble_eq_true rfl) (Nat.le_of_ble_eq_true rfl) ?_
  exact W.iret (v := 1) hx hb hr (fun t ht hW => ⟨⟨1, (), rfl, rfl, fs_1, fs_2, h_x, h_tx, by rw [ht]; exact hP, va_K.moved hW.alike hK, hD⟩, hS.F ht⟩) hS.2.2 dL_end_10
set_option maxHeartbeats 4000000 in
set_option maxRecDepth 100000 in
theorem gx16_X13_end (l : Launch) (hlt : l.stackTraces = false) (dC : Nat → ClassId) (dI : Nat → Nat → Nat) (sz : Nat) (p0 : Int32) (m0 : Nat) (m0g : List Value) (h_m0 : fx m0g 225 [(0, .int 0), (2, .int 0), (3, .int 0), (9, .int 0), (10, .int 0), (11, .int 0), (12, .int 0), (27, .int 0), (79, .int 0), (83, .int 0), (95, .int 0)]) (zn : p0 < 0) : Met l yX13_end (Cond.code yX13_end cX13_end 2 none :: BG) ({ frames := 1, cells := 0, slots := 0, locals := 12 }) (va_Pc [.ref m0, .int p0] (fun U => U.heap.size = sz ∧ va_P (dC, dI) CL [(m0, .inr (13, m0g))] U.heap ∧ va_K (dC, dI) CL [] U ∧ va_D (fun _ => True) [(m0, .inr (13, m0g))] ∧ th (va_A [(m0, .inr (13, m0g))] sz) U U.heap)) (va_Qv (fun _ : Unit => True) (fun _ t => ∃ (m0y : List Value), fx m0y 225 [(0, .int 1), (2, .int 0), (3, .int 0), (9, .int 0), (10, .int 0), (11, .int 0), (12, .int 0), (27, .int 0), (79, .int 0), (83, .int 0), (95, .int 0)] ∧ va_P (dC, dI) CL [(m0, .inr (13, m0y))] t.heap ∧ va_K (dC, dI) CL [] t ∧ va_D (va_A [(m0, .inr (13, m0g))] sz) [(m0, .inr (13, m0y))]) (va_A [(m0, .inr (13, m0g))] sz)) 0 0 (va_A [(m0, .inr (13, m0g))] sz) := by
  refine Met.ofW (cc := cX13_end) (maxL := 2) (ret := none) (by decide) rfl ?_
  intro p e s m args below meth c s₁ B hml hv
  obtain ⟨rfl, hsz, hP, hK, hD0, hth⟩ := hv
  have hx := B.exec
  have hb := B.bytes
  have hr := B.returns
  have hts : ∀ w ∈ BG, w.before _ s = true := fun w h => atoms_spec (ws := Cond.code yX13_end cX13_end 2 none :: BG) B.pre w (List.mem_cons_of_mem _ h)
  have hown : s.vm.findClass RX13 = some m.cls := findClass_of_methodNamed B.named
  have hlocks := B.notSynchronized
  subst hsz
  have hD := hD0.self (sz := s.heap.size)
  generalize hAe : va_A [(m0, .inr (13, m0g))] s.heap.size = A at hD hth ⊢
  have hA : ∀ q : Nat, s.heap.size ≤ q → A q := fun q h => by rw [← hAe]; exact Or.inr h
  have hS : va_S A s.heap s.heap [] := va_S.rf
  have hl := lv_entry ([.ref m0, .int p0]) (n := 2) (Nat.le_of_ble_eq_true rfl)
  rw [lg_entry_eq]
  generalize (lg_sl ([.ref m0, .int p0]) ++ List.replicate (2 - (lg_sl ([.ref m0, .int p0])).length) Slot.unset).toArray = ls at hl ⊢
  have hl : lv_has ls 2 [(0, .ref m0), (1, .int p0)] := hl
  obtain ⟨H, eH⟩ : ∃ z, z = s.heap := ⟨_, rfl⟩
  have hP : va_P (dC, dI) CL [(m0, .inr (13, m0g))] H := by rw [eH]; exact hP
  have hS : va_S A s.heap H [] := by rw [eH]; exact hS
  rw [← eH]
  refine lv_aload_n hx hb dX13_end_0 rfl (lv_at hl 0 rfl) ?_
  refine lv_iload_n hx hb dX13_end_1 rfl (lv_at hl 1 rfl) ?_
  refine lv_if_lt (tgt := 13) hx hb dX13_end_2 (by decide) (fun c9 => ?_) (fun c9 => ?_)
  rotate_left
  · first | exact absurd c9 zn | exact absurd zn c9
  refine lv_iconst (v := 1) hx hb dX13_end_13 (by decide +kernel) ?_
  refine lv_goto (tgt := 18) hx hb dX13_end_14 (by decide) ?_
  refine va_put (D := (dC, dI)) (ci := 13) (v := .int 1) (ty := tyX13 0) (C := RX13) (T := TX13) (N := 225) hx hb hts inX13 tyX13 tyX13_ok nmX13 hown hK hP hD hS 0 rfl rfl 0 (by decide) (hts (.fieldLink RX13 1 "ChipFlowModel" "code" "I") wd_3032) (fun _ h9 => h9) rfl (by decide +kernel) rfl rfl (by rw [h_m0.1]; decide) dX13_end_18 (fun H locs hP hD hS => ?_)
  obtain ⟨fs_1, e9⟩ : ∃ z, z = m0g.set 0 (.int 1) := ⟨_, rfl⟩
  have h_m0 : fx fs_1 225 [(0, .int 1), (2, .int 0), (3, .int 0), (9, .int 0), (10, .int 0), (11, .int 0), (12, .int 0), (27, .int 0), (79, .int 0), (83, .int 0), (95, .int 0)] := by rw [e9]; exact (h_m0.put (F' := [(0, .int 1), (2, .int 0), (3, .int 0), (9, .int 0), (10, .int 0), (11, .int 0), (12, .int 0), (27, .int 0), (79, .int 0), (83, .int 0), (95, .int 0)]) (by decide) _ rfl).sub [0, 1, 2, 3, 4, 5, 6, 7, 8, 9, 10] rfl
  have hP : va_P (dC, dI) CL [(m0, .inr (13, fs_1))] H := by rw [e9]; exact hP
  have hD : va_D A [(m0, .inr (13, fs_1))] := by rw [e9]; exact hD
  clear e9
  refine lv_aload_n hx hb dX13_end_21 rfl (lv_at hl 0 rfl) ?_
  refine lv_aload_n hx hb dX13_end_22 rfl (lv_at hl 0 rfl) ?_
  refine va_get (D := (dC, dI)) (ci := 13) (v := .int 1) (C := RX13) (T := TX13) (N := 225) hx hb hts inX13 hown hK hP 0 rfl rfl 0 (by decide) (hts (.fieldLink RX13 1 "ChipFlowModel" "code" "I") wd_3032) (fun _ h9 => h9) (h_m0.get 0 rfl) dX13_end_23 ?_
  refine lv_if_le (tgt := 36) hx hb dX13_end_26 (by decide) (fun c9 => ?_) (fun c9 => ?_)
  · first | exact absurd c9 (by decide +kernel) | exact absurd (by decide +kernel) c9
  refine lv_aload_n hx hb dX13_end_29 rfl (lv_at hl 0 rfl) ?_
  refine va_get (D := (dC, dI)) (ci := 13) (v := .int 0) (C := RX13) (T := TX13) (N := 225) hx hb hts inX13 hown hK hP 0 rfl rfl 2 (by decide) (hts (.fieldLink RX13 555 "ChipFlowModel" "size" "I") wd_3034) (fun _ h9 => h9) (h_m0.get 1 rfl) dX13_end_30 ?_
  refine lv_goto (tgt := 37) hx hb dX13_end_33 (by decide) ?_
  refine va_put (D := (dC, dI)) (ci := 13) (v := .int 0) (ty := tyX13 2) (C := RX13) (T := TX13) (N := 225) hx hb hts inX13 tyX13 tyX13_ok nmX13 hown hK hP hD hS 0 rfl rfl 2 (by decide) (hts (.fieldLink RX13 555 "ChipFlowModel" "size" "I") wd_3034) (fun _ h9 => h9) rfl (by decide +kernel) rfl rfl (by rw [h_m0.1]; decide) dX13_end_37 (fun H locs hP hD hS => ?_)
  obtain ⟨fs_2, e9⟩ : ∃ z, z = fs_1.set 2 (.int 0) := ⟨_, rfl⟩
  have h_m0 : fx fs_2 225 [(0, .int 1), (2, .int 0), (3, .int 0), (9, .int 0), (10, .int 0), (11, .int 0), (12, .int 0), (27, .int 0), (79, .int 0), (83, .int 0), (95, .int 0)] := by rw [e9]; exact (h_m0.put (F' := [(2, .int 0), (0, .int 1), (3, .int 0), (9, .int 0), (10, .int 0), (11, .int 0), (12, .int 0), (27, .int 0), (79, .int 0), (83, .int 0), (95, .int 0)]) (by decide) _ rfl).sub [1, 0, 2, 3, 4, 5, 6, 7, 8, 9, 10] rfl
  have hP : va_P (dC, dI) CL [(m0, .inr (13, fs_2))] H := by rw [e9]; exact hP
  have hD : va_D A [(m0, .inr (13, fs_2))] := by rw [e9]; exact hD
  clear e9
  exact W.vret hx hb hr (fun t ht hW => ⟨⟨(), rfl, trivial, fs_2, h_m0, by rw [ht]; exact hP, va_K.moved hW.alike hK, hD⟩, hS.F ht⟩) hS.2.2 dX13_end_40
set_option maxHeartbeats 4000000 in
set_option maxRecDepth 100000 in
theorem gx17_X13_thrown (l : Launch) (hlt : l.stackTraces = false) (dC : Nat → ClassId) (dI : Nat → Nat → Nat) (sz : Nat) (m0 : Nat) (m0g : List Value) (h_m0 : fx m0g 225 [(0, .int 1), (2, .int 0), (3, .int 0), (9, .int 0), (10, .int 0), (11, .int 0), (12, .int 0), (27, .int 0), (79, .int 0), (83, .int 0), (95, .int 0)]) : Met l yX13_thrown (Cond.code yX13_thrown cX13_thrown 1 (some .int) :: BG) ({ frames := 1, cells := 0, slots := 0, locals := 12 }) (va_Pc [.ref m0] (fun U => U.heap.size = sz ∧ va_P (dC, dI) CL [(m0, .inr (13, m0g))] U.heap ∧ va_K (dC, dI) CL [] U ∧ va_D (fun _ => True) [(m0, .inr (13, m0g))] ∧ th (va_A [(m0, .inr (13, m0g))] sz) U U.heap)) (va_Qi (fun (r : Int32) (_ : Unit) => r = 1) (fun _ t => ∃ (m0y : List Value), fx m0y 225 [(0, .int 1), (2, .int 0), (3, .int 0), (9, .int 0), (10, .int 0), (11, .int 0), (12, .int 0), (27, .int 0), (79, .int 0), (83, .int 0), (95, .int 0)] ∧ va_P (dC, dI) CL [(m0, .inr (13, m0y))] t.heap ∧ va_K (dC, dI) CL [] t ∧ va_D (va_A [(m0, .inr (13, m0g))] sz) [(m0, .inr (13, m0y))]) (va_A [(m0, .inr (13, m0g))] sz)) 0 0 (va_A [(m0, .inr (13, m0g))] sz) := by
  refine Met.ofW (cc := cX13_thrown) (maxL := 1) (ret := (some .int)) (by decide) rfl ?_
  intro p e s m args below meth c s₁ B hml hv
  obtain ⟨rfl, hsz, hP, hK, hD0, hth⟩ := hv
  have hx := B.exec
  have hb := B.bytes
  have hr := B.returns
  have hts : ∀ w ∈ BG, w.before _ s = true := fun w h => atoms_spec (ws := Cond.code yX13_thrown cX13_thrown 1 (some .int) :: BG) B.pre w (List.mem_cons_of_mem _ h)
  have hown : s.vm.findClass RX13 = some m.cls := findClass_of_methodNamed B.named
  have hlocks := B.notSynchronized
  subst hsz
  have hD := hD0.self (sz := s.heap.size)
  generalize hAe : va_A [(m0, .inr (13, m0g))] s.heap.size = A at hD hth ⊢
  have hA : ∀ q : Nat, s.heap.size ≤ q → A q := fun q h => by rw [← hAe]; exact Or.inr h
  have hS : va_S A s.heap s.heap [] := va_S.rf
  have hl := lv_entry ([.ref m0]) (n := 1) (Nat.le_of_ble_eq_true rfl)
  rw [lg_entry_eq]
  generalize (lg_sl ([.ref m0]) ++ List.replicate (1 - (lg_sl ([.ref m0])).length) Slot.unset).toArray = ls at hl ⊢
  have hl : lv_has ls 1 [(0, .ref m0)] := hl
  obtain ⟨H, eH⟩ : ∃ z, z = s.heap := ⟨_, rfl⟩
  have hP : va_P (dC, dI) CL [(m0, .inr (13, m0g))] H := by rw [eH]; exact hP
  have hS : va_S A s.heap H [] := by rw [eH]; exact hS
  rw [← eH]
  refine lv_aload_n hx hb dX13_thrown_0 rfl (lv_at hl 0 rfl) ?_
  refine va_get (D := (dC, dI)) (ci := 13) (v := .int 1) (C := RX13) (T := TX13) (N := 225) hx hb hts inX13 hown hK hP 0 rfl rfl 0 (by decide) (hts (.fieldLink RX13 1 "ChipFlowModel" "code" "I") wd_3032) (fun _ h9 => h9) (h_m0.get 0 rfl) dX13_thrown_1 ?_
  exact W.iret (v := 1) hx hb hr (fun t ht hW => ⟨⟨1, (), rfl, rfl, m0g, h_m0, by rw [ht]; exact hP, va_K.moved hW.alike hK, hD⟩, hS.F ht⟩) hS.2.2 dX13_thrown_4
set_option maxHeartbeats 4000000 in
set_option maxRecDepth 100000 in
theorem gx19_X12_end (l : Launch) (hlt : l.stackTraces = false) (dC : Nat → ClassId) (dI : Nat → Nat → Nat) (sz : Nat) (p0 : Int32) (x tx bt : Nat) (xg : List Value) (h_x : fx xg 17 [(0, .ref tx)]) (txg : List Value) (h_tx : fx txg 9 [(0, .ref bt), (1, .int 0), (2, .int 0), (3, .int 0), (4, .int 0), (6, .int 0), (7, .int 0), (8, .int 0)]) (zn : ¬ p0 < 0) (zp : 0 < p0) (zq : ¬ p0 ≤ 0) : vx_Met l yX12_end (Cond.code yX12_end cX12_end 2 none :: BG) ({ frames := 7, cells := 1, slots := 6, locals := 130 }) (va_Pc [.ref x, .int p0] (fun U => U.heap.size = sz ∧ va_P (dC, dI) CL [(x, .inr (12, xg)), (tx, .inr (10, txg))] U.heap ∧ va_K (dC, dI) CL [] U ∧ va_D (fun _ => True) [(x, .inr (12, xg)), (tx, .inr (10, txg))] ∧ th (va_A [(x, .inr (12, xg)), (tx, .inr (10, txg))] sz) U U.heap)) (fun _ _ _ _ => False) (vx_X (fun _ : Unit => True) (fun E _ t => E = "java/lang/IllegalArgumentException" ∧ ∃ (xy : List Value) (txy : List Value), fx xy 17 [(0, .ref tx)] ∧ fx txy 9 [(0, .ref bt), (1, .int 0), (2, .int 0), (3, .int 0), (4, .int 0), (6, .int 0), (7, .int 0), (8, .int 0)] ∧ va_P (dC, dI) CL [(x, .inr (12, xy)), (tx, .inr (10, txy))] t.heap ∧ va_K (dC, dI) CL [] t ∧ va_D (va_A [(x, .inr (12, xg)), (tx, .inr (10, txg))] sz) [(x, .inr (12, xy)), (tx, .inr (10, txy))]) (va_A [(x, .inr (12, xg)), (tx, .inr (10, txg))] sz)) 1 6 (va_A [(x, .inr (12, xg)), (tx, .inr (10, txg))] sz) := by
  refine vx_ofW (cc := cX12_end) (maxL := 2) (ret := none) (by decide) rfl ?_
  intro p e s m args below meth c s₁ B hml ht0 hv
  obtain ⟨rfl, hsz, hP, hK, hD0, hth⟩ := hv
  have hx := B.exec
  have hb := B.bytes
  have hr := B.returns
  have hts : ∀ w ∈ BG, w.before _ s = true := fun w h => atoms_spec (ws := Cond.code yX12_end cX12_end 2 none :: BG) B.pre w (List.mem_cons_of_mem _ h)
  have hown : s.vm.findClass RX12 = some m.cls := findClass_of_methodNamed B.named
  have hlocks := B.notSynchronized
  subst hsz
  have hD := hD0.self (sz := s.heap.size)
  generalize hAe : va_A [(x, .inr (12, xg)), (tx, .inr (10, txg))] s.heap.size = A at hD hth ⊢
  have hA : ∀ q : Nat, s.heap.size ≤ q → A q := fun q h => by rw [← hAe]; exact Or.inr h
  have hS : va_S A s.heap s.heap [] := va_S.rf
  have hl := lv_entry ([.ref x, .int p0]) (n := 2) (Nat.le_of_ble_eq_true rfl)
  rw [lg_entry_eq]
  generalize (lg_sl ([.ref x, .int p0]) ++ List.replicate (2 - (lg_sl ([.ref x, .int p0])).length) Slot.unset).toArray = ls at hl ⊢
  have hl : lv_has ls 2 [(0, .ref x), (1, .int p0)] := hl
  obtain ⟨H, eH⟩ : ∃ z, z = s.heap := ⟨_, rfl⟩
  have hP : va_P (dC, dI) CL [(x, .inr (12, xg)), (tx, .inr (10, txg))] H := by rw [eH]; exact hP
  have hS : va_S A s.heap H [] := by rw [eH]; exact hS
  rw [← eH]
  refine lv_iload_n hx hb dX12_end_0 rfl (lv_at hl 1 rfl) ?_
  refine lv_if_lt (tgt := 19) hx hb dX12_end_1 (by decide) (fun c9 => ?_) (fun c9 => ?_)
  · first | exact absurd c9 zn | exact absurd zn c9
  refine lv_iload_n hx hb dX12_end_4 rfl (lv_at hl 1 rfl) ?_
  refine lv_aload_n hx hb dX12_end_5 rfl (lv_at hl 0 rfl) ?_
  refine va_get (D := (dC, dI)) (ci := 12) (v := .ref tx) (C := RX12) (T := TX12) (N := 17) hx hb hts inX12 hown hK hP 0 rfl rfl 0 (by decide) (hts (.fieldLink RX12 10 "ChipFlow" "text" "LChipFlow$Text;") wd_1178) (fun _ h9 => h9) (h_x.get 0 rfl) dX12_end_6 ?_
  refine va_get (D := (dC, dI)) (ci := 10) (v := .int 0) (C := RX10) (T := TX10) (N := 9) hx hb hts inX10 hown hK hP 1 rfl rfl 1 (by decide) (hts (.fieldLink RX12 99 "ChipFlow$Text" "length" "I") wd_378) (fun _ h9 => h9) (h_tx.get 1 rfl) dX12_end_9 ?_
  refine lv_icmp_gt (tgt := 19) hx hb dX12_end_12 (by decide) (fun c9 => ?_) (fun c9 => ?_)
  rotate_left
  · first | exact absurd c9 zp | exact absurd zp c9
  refine lv_iconst (v := 0) hx hb dX12_end_19 (by decide +kernel) ?_
  have hF0 : ∀ q, va_A [] H.size q → A q := fun q h => h.elim (fun ⟨k9, e9, h9⟩ => by simp at h9) (fun h9 => hA q (Nat.le_trans hS.1 h9))
  refine vx_callv (vx_runS (As := [.int 0]) (rest := []) ⟨hx, hb, hml, hown, hts⟩ (ct_X12_needRange l hlt H.size 0) (cwS 1 hts (gi_S wd_1328 wd_1329 wd_327 wd_1330) rfl rfl rfl (by decide +kernel) ⟨(Nat.le_of_ble_eq_true rfl), (Nat.le_of_ble_eq_true rfl)⟩) ⟨fun a U g mk q => ⟨q.1, q.2.1, th.moved (u := U) (U := U.calling g mk a) (Vm.Alike.refl U.vm) q.2.2⟩, fun U hU hW => ⟨rfl, by rw [hU], by rw [hU]; exact ((hth.kept hS.2.1).narrow hF0).moved hW.alike⟩⟩ rfl rfl hl.1 rfl (lv_room (Nat.le_of_ble_eq_true rfl)) dX12_end_20 ⟨(Nat.le_of_ble_eq_true rfl), (Nat.le_of_ble_eq_true rfl)⟩) hS (fun q _ h => hF0 q h) hF0 (fun q _ h => hF0 q h) (fun E ce q9 u t H1 locs ht hvm hp hB hz hk hS hce hcv hcl => ?_) (fun u t H1 locs ht hvm hp hB hz hk hS => absurd rfl hp)
  subst hB
  have hP : va_P (dC, dI) CL [(x, .inr (12, xg)), (tx, .inr (10, txg))] H1 := hP.kept (fun k q h9 => hk _ (vx_lt hP h9) (fun h8 => h8.elim (fun ⟨k9, e9, h7⟩ => by simp at h7) (fun h7 => absurd (vx_lt hP h9) (Nat.not_lt.mpr h7))))
  generalize H1 = H at hP hS hce ⊢
  exact vx_out (fun x h9 => (ht0 x h9).elim) hlocks hce hcv hcl (fun t ht hvm9 => ⟨(), trivial, ⟨rfl, xg, txg, h_x, h_tx, by rw [ht]; exact hP, va_K.moved hvm9 hK, hD⟩, hS.F ht⟩) hS.2.2 (Nat.le_of_ble_eq_true rfl) (Nat.le_of_ble_eq_true rfl)
set_option maxHeartbeats 4000000 in
set_option maxRecDepth 100000 in
theorem gx18_L_end (l : Launch) (hlt : l.stackTraces = false) (dC : Nat → ClassId) (dI : Nat → Nat → Nat) (sz : Nat) (p0 : Int32) (x tx bt : Nat) (xg : List Value) (h_x : fx xg 17 [(0, .ref tx)]) (txg : List Value) (h_tx : fx txg 9 [(0, .ref bt), (1, .int 0), (2, .int 0), (3, .int 0), (4, .int 0), (6, .int 0), (7, .int 0), (8, .int 0)]) (zn : ¬ p0 < 0) (zp : 0 < p0) (zq : ¬ p0 ≤ 0) : Met l yL_end (Cond.codeWith yL_end cL_end 3 (some .int) [(0, 5, 8, 19)] :: BG) ({ frames := 8, cells := 1, slots := 6, locals := 151 }) (va_Pc [.ref x, .int p0] (fun U => U.heap.size = sz ∧ va_P (dC, dI) CL [(x, .inr (12, xg)), (tx, .inr (10, txg))] U.heap ∧ va_K (dC, dI) CL [] U ∧ va_D (fun _ => True) [(x, .inr (12, xg)), (tx, .inr (10, txg))] ∧ th (va_A [(x, .inr (12, xg)), (tx, .inr (10, txg))] sz) U U.heap)) (va_Qi (fun (r : Int32) (_ : Unit) => r = 1) (fun _ t => ∃ (xy : List Value) (txy : List Value), fx xy 17 [(0, .ref tx)] ∧ fx txy 9 [(0, .ref bt), (1, .int 0), (2, .int 0), (3, .int 0), (4, .int 0), (6, .int 0), (7, .int 0), (8, .int 0)] ∧ va_P (dC, dI) CL [(x, .inr (12, xy)), (tx, .inr (10, txy))] t.heap ∧ va_K (dC, dI) CL [] t ∧ va_D (va_A [(x, .inr (12, xg)), (tx, .inr (10, txg))] sz) [(x, .inr (12, xy)), (tx, .inr (10, txy))]) (va_A [(x, .inr (12, xg)), (tx, .inr (10, txg))] sz)) 1 6 (va_A [(x, .inr (12, xg)), (tx, .inr (10, txg))] sz) := by
  refine va_MetW (hh := [(0, 5, 8, 19)]) (cc := cL_end) (maxL := 3) (ret := (some .int)) (by decide) rfl ?_
  intro p e s m args below meth c s₁ B hml hv
  obtain ⟨rfl, hsz, hP, hK, hD0, hth⟩ := hv
  have hx := B.exec
  have hb := B.bytes
  have hr := B.returns
  have hts : ∀ w ∈ BG, w.before _ s = true := fun w h => atoms_spec (ws := Cond.codeWith yL_end cL_end 3 (some .int) [(0, 5, 8, 19)] :: BG) B.pre w (List.mem_cons_of_mem _ h)
  have hown : s.vm.findClass RL = some m.cls := findClass_of_methodNamed B.named
  have hlocks := B.notSynchronized
  subst hsz
  have hD := hD0.self (sz := s.heap.size)
  generalize hAe : va_A [(x, .inr (12, xg)), (tx, .inr (10, txg))] s.heap.size = A at hD hth ⊢
  have hA : ∀ q : Nat, s.heap.size ≤ q → A q := fun q h => by rw [← hAe]; exact Or.inr h
  have hS : va_S A s.heap s.heap [] := va_S.rf
  have hl := lv_entry ([.ref x, .int p0]) (n := 3) (Nat.le_of_ble_eq_true rfl)
  rw [lg_entry_eq]
  generalize (lg_sl ([.ref x, .int p0]) ++ List.replicate (3 - (lg_sl ([.ref x, .int p0])).length) Slot.unset).toArray = ls at hl ⊢
  have hl : lv_has ls 3 [(0, .ref x), (1, .int p0)] := hl
  obtain ⟨H, eH⟩ : ∃ z, z = s.heap := ⟨_, rfl⟩
  have hP : va_P (dC, dI) CL [(x, .inr (12, xg)), (tx, .inr (10, txg))] H := by rw [eH]; exact hP
  have hS : va_S A s.heap H [] := by rw [eH]; exact hS
  rw [← eH]
  have hT : c.exceptionTable.toList = tableOf [(0, 5, 8, 19)] := vx_table (x := yL_end) B (atoms_spec (ws := Cond.codeWith yL_end cL_end 3 (some .int) [(0, 5, 8, 19)] :: BG) B.pre _ List.mem_cons_self)
  refine lv_aload_n hx hb dL_end_0 rfl (lv_at hl 0 rfl) ?_
  refine lv_iload_n hx hb dL_end_1 rfl (lv_at hl 1 rfl) ?_
  have hFc := va_free (wc := [(x, .inr (12, xg)), (tx, .inr (10, txg))]) hD hS hA [0, 1] rfl
  refine vq_thr (vx_runV (As := [.int p0]) (rest := []) ⟨hx, hb, hml, hown, hts⟩ (gx19_X12_end l hlt dC dI _ p0 x tx bt xg h_x txg h_tx zn zp zq) (cwV 1 hts (gi_V wd_1324 wd_1325 wd_1326 wd_327 wd_1327) rfl rfl rfl (by decide +kernel) ⟨(Nat.le_of_ble_eq_true rfl), (Nat.le_of_ble_eq_true rfl)⟩) ⟨fun a U g mk q => by obtain ⟨q0, q1, qP, qK, qD, qT⟩ := q; exact ⟨q0, q1, qP, va_K.moved (u := U) (U := U.calling g mk a) (Vm.Alike.refl U.vm) qK, qD, th.moved (u := U) (U := U.calling g mk a) (Vm.Alike.refl U.vm) qT⟩, va_recv hK hP (ci := 12) (q0 := 0) rfl rfl, fun U hU hW => ⟨rfl, by rw [hU], by rw [hU]; exact hP, va_K.moved hW.alike hK, hD.weaken (fun _ _ _ _ => trivial), by rw [hU]; exact ((hth.kept hS.2.1).narrow hFc).moved hW.alike⟩⟩ rfl rfl hl.1 rfl (lv_room (Nat.le_of_ble_eq_true rfl)) dL_end_2 ⟨(Nat.le_of_ble_eq_true rfl), (Nat.le_of_ble_eq_true rfl)⟩) (fun _ _ _ h => h) hS hFc (fun q _ h => hFc q h) (fun E ce q9 u t H1 locs ht hvm hp hB hz hk hS hce hcv hcl => ?_)
  obtain ⟨hE, hB⟩ := hB
  subst hE
  obtain ⟨fs_1, fs_2, h_x, h_tx, hP1, hK1, hD1⟩ := hB
  rw [ht] at hP1
  have hD := hD1.weaken (fun k q _ h => hFc q.1 h)
  have hP := hP1
  generalize H1 = H at hP hS hce ⊢
  have hP : va_P (dC, dI) CL [(x, .inr (12, fs_1)), (tx, .inr (10, fs_2))] H := hP
  have hD : va_D A [(x, .inr (12, fs_1)), (tx, .inr (10, fs_2))] := hD
  refine vx_catch (own := RL) (name := "java/lang/IllegalArgumentException") hown [] { startPc := 0, endPc := 5, handlerPc := 8, catchType := 19 } [] (by rw [hT]; rfl) (fun _ h => nomatch h) (by decide) (by decide) (hts (.classLink RL 19 "java/lang/IllegalArgumentException") wd_1323) (hth.cast (by decide)) hce hcv hcl ?_
  refine W.widen (k := 1) (n := 6) (Nat.le_of_ble_eq_true rfl) (Nat.le_of_ble_eq_true rfl) ?_
  refine lv_astore_n (lv' := [(2, .ref q9), (0, .ref x), (1, .int p0)]) hx hb dL_end_8 rfl hl (by decide) rfl (fun ls hl => ?_)
  refine lv_iconst (v := 1) hx hb dL_end_9 (by decide +kernel) ?_
  refine W.widen (k := 1) (n := 6) (Nat.le_of_ble_eq_true rfl) (Nat.le_of_ble_eq_true rfl) ?_
  exact W.iret (v := 1) hx hb hr (fun t ht hW => ⟨⟨1, (), rfl, rfl, fs_1, fs_2, h_x, h_tx, by rw [ht]; exact hP, va_K.moved hW.alike hK, hD⟩, hS.F ht⟩) hS.2.2 dL_end_10
set_option maxHeartbeats 4000000 in
set_option maxRecDepth 100000 in
theorem gx20_X13_end (l : Launch) (hlt : l.stackTraces = false) (dC : Nat → ClassId) (dI : Nat → Nat → Nat) (sz : Nat) (p0 : Int32) (m0 : Nat) (m0g : List Value) (h_m0 : fx m0g 225 [(0, .int 0), (2, .int 0), (3, .int 0), (9, .int 0), (10, .int 0), (11, .int 0), (12, .int 0), (27, .int 0), (79, .int 0), (83, .int 0), (95, .int 0)]) (zn : ¬ p0 < 0) (zp : 0 < p0) (zq : ¬ p0 ≤ 0) : Met l yX13_end (Cond.code yX13_end cX13_end 2 none :: BG) ({ frames := 1, cells := 0, slots := 0, locals := 12 }) (va_Pc [.ref m0, .int p0] (fun U => U.heap.size = sz ∧ va_P (dC, dI) CL [(m0, .inr (13, m0g))] U.heap ∧ va_K (dC, dI) CL [] U ∧ va_D (fun _ => True) [(m0, .inr (13, m0g))] ∧ th (va_A [(m0, .inr (13, m0g))] sz) U U.heap)) (va_Qv (fun _ : Unit => True) (fun _ t => ∃ (m0y : List Value), fx m0y 225 [(0, .int 1), (2, .int 0), (3, .int 0), (9, .int 0), (10, .int 0), (11, .int 0), (12, .int 0), (27, .int 0), (79, .int 0), (83, .int 0), (95, .int 0)] ∧ va_P (dC, dI) CL [(m0, .inr (13, m0y))] t.heap ∧ va_K (dC, dI) CL [] t ∧ va_D (va_A [(m0, .inr (13, m0g))] sz) [(m0, .inr (13, m0y))]) (va_A [(m0, .inr (13, m0g))] sz)) 0 0 (va_A [(m0, .inr (13, m0g))] sz) := by
  refine Met.ofW (cc := cX13_end) (maxL := 2) (ret := none) (by decide) rfl ?_
  intro p e s m args below meth c s₁ B hml hv
  obtain ⟨rfl, hsz, hP, hK, hD0, hth⟩ := hv
  have hx := B.exec
  have hb := B.bytes
  have hr := B.returns
  have hts : ∀ w ∈ BG, w.before _ s = true := fun w h => atoms_spec (ws := Cond.code yX13_end cX13_end 2 none :: BG) B.pre w (List.mem_cons_of_mem _ h)
  have hown : s.vm.findClass RX13 = some m.cls := findClass_of_methodNamed B.named
  have hlocks := B.notSynchronized
  subst hsz
  have hD := hD0.self (sz := s.heap.size)
  generalize hAe : va_A [(m0, .inr (13, m0g))] s.heap.size = A at hD hth ⊢
  have hA : ∀ q : Nat, s.heap.size ≤ q → A q := fun q h => by rw [← hAe]; exact Or.inr h
  have hS : va_S A s.heap s.heap [] := va_S.rf
  have hl := lv_entry ([.ref m0, .int p0]) (n := 2) (Nat.le_of_ble_eq_true rfl)
  rw [lg_entry_eq]
  generalize (lg_sl ([.ref m0, .int p0]) ++ List.replicate (2 - (lg_sl ([.ref m0, .int p0])).length) Slot.unset).toArray = ls at hl ⊢
  have hl : lv_has ls 2 [(0, .ref m0), (1, .int p0)] := hl
  obtain ⟨H, eH⟩ : ∃ z, z = s.heap := ⟨_, rfl⟩
  have hP : va_P (dC, dI) CL [(m0, .inr (13, m0g))] H := by rw [eH]; exact hP
  have hS : va_S A s.heap H [] := by rw [eH]; exact hS
  rw [← eH]
  refine lv_aload_n hx hb dX13_end_0 rfl (lv_at hl 0 rfl) ?_
  refine lv_iload_n hx hb dX13_end_1 rfl (lv_at hl 1 rfl) ?_
  refine lv_if_lt (tgt := 13) hx hb dX13_end_2 (by decide) (fun c9 => ?_) (fun c9 => ?_)
  · first | exact absurd c9 zn | exact absurd zn c9
  refine lv_iload_n hx hb dX13_end_5 rfl (lv_at hl 1 rfl) ?_
  refine lv_aload_n hx hb dX13_end_6 rfl (lv_at hl 0 rfl) ?_
  refine va_get (D := (dC, dI)) (ci := 13) (v := .int 0) (C := RX13) (T := TX13) (N := 225) hx hb hts inX13 hown hK hP 0 rfl rfl 2 (by decide) (hts (.fieldLink RX13 555 "ChipFlowModel" "size" "I") wd_3034) (fun _ h9 => h9) (h_m0.get 1 rfl) dX13_end_7 ?_
  refine lv_icmp_le (tgt := 17) hx hb dX13_end_10 (by decide) (fun c9 => ?_) (fun c9 => ?_)
  · first | exact absurd c9 zq | exact absurd zq c9
  refine lv_iconst (v := 1) hx hb dX13_end_13 (by decide +kernel) ?_
  refine lv_goto (tgt := 18) hx hb dX13_end_14 (by decide) ?_
  refine va_put (D := (dC, dI)) (ci := 13) (v := .int 1) (ty := tyX13 0) (C := RX13) (T := TX13) (N := 225) hx hb hts inX13 tyX13 tyX13_ok nmX13 hown hK hP hD hS 0 rfl rfl 0 (by decide) (hts (.fieldLink RX13 1 "ChipFlowModel" "code" "I") wd_3032) (fun _ h9 => h9) rfl (by decide +kernel) rfl rfl (by rw [h_m0.1]; decide) dX13_end_18 (fun H locs hP hD hS => ?_)
  obtain ⟨fs_1, e9⟩ : ∃ z, z = m0g.set 0 (.int 1) := ⟨_, rfl⟩
  have h_m0 : fx fs_1 225 [(0, .int 1), (2, .int 0), (3, .int 0), (9, .int 0), (10, .int 0), (11, .int 0), (12, .int 0), (27, .int 0), (79, .int 0), (83, .int 0), (95, .int 0)] := by rw [e9]; exact (h_m0.put (F' := [(0, .int 1), (2, .int 0), (3, .int 0), (9, .int 0), (10, .int 0), (11, .int 0), (12, .int 0), (27, .int 0), (79, .int 0), (83, .int 0), (95, .int 0)]) (by decide) _ rfl).sub [0, 1, 2, 3, 4, 5, 6, 7, 8, 9, 10] rfl
  have hP : va_P (dC, dI) CL [(m0, .inr (13, fs_1))] H := by rw [e9]; exact hP
  have hD : va_D A [(m0, .inr (13, fs_1))] := by rw [e9]; exact hD
  clear e9
  refine lv_aload_n hx hb dX13_end_21 rfl (lv_at hl 0 rfl) ?_
  refine lv_aload_n hx hb dX13_end_22 rfl (lv_at hl 0 rfl) ?_
  refine va_get (D := (dC, dI)) (ci := 13) (v := .int 1) (C := RX13) (T := TX13) (N := 225) hx hb hts inX13 hown hK hP 0 rfl rfl 0 (by decide) (hts (.fieldLink RX13 1 "ChipFlowModel" "code" "I") wd_3032) (fun _ h9 => h9) (h_m0.get 0 rfl) dX13_end_23 ?_
  refine lv_if_le (tgt := 36) hx hb dX13_end_26 (by decide) (fun c9 => ?_) (fun c9 => ?_)
  · first | exact absurd c9 (by decide +kernel) | exact absurd (by decide +kernel) c9
  refine lv_aload_n hx hb dX13_end_29 rfl (lv_at hl 0 rfl) ?_
  refine va_get (D := (dC, dI)) (ci := 13) (v := .int 0) (C := RX13) (T := TX13) (N := 225) hx hb hts inX13 hown hK hP 0 rfl rfl 2 (by decide) (hts (.fieldLink RX13 555 "ChipFlowModel" "size" "I") wd_3034) (fun _ h9 => h9) (h_m0.get 1 rfl) dX13_end_30 ?_
  refine lv_goto (tgt := 37) hx hb dX13_end_33 (by decide) ?_
  refine va_put (D := (dC, dI)) (ci := 13) (v := .int 0) (ty := tyX13 2) (C := RX13) (T := TX13) (N := 225) hx hb hts inX13 tyX13 tyX13_ok nmX13 hown hK hP hD hS 0 rfl rfl 2 (by decide) (hts (.fieldLink RX13 555 "ChipFlowModel" "size" "I") wd_3034) (fun _ h9 => h9) rfl (by decide +kernel) rfl rfl (by rw [h_m0.1]; decide) dX13_end_37 (fun H locs hP hD hS => ?_)
  obtain ⟨fs_2, e9⟩ : ∃ z, z = fs_1.set 2 (.int 0) := ⟨_, rfl⟩
  have h_m0 : fx fs_2 225 [(0, .int 1), (2, .int 0), (3, .int 0), (9, .int 0), (10, .int 0), (11, .int 0), (12, .int 0), (27, .int 0), (79, .int 0), (83, .int 0), (95, .int 0)] := by rw [e9]; exact (h_m0.put (F' := [(2, .int 0), (0, .int 1), (3, .int 0), (9, .int 0), (10, .int 0), (11, .int 0), (12, .int 0), (27, .int 0), (79, .int 0), (83, .int 0), (95, .int 0)]) (by decide) _ rfl).sub [1, 0, 2, 3, 4, 5, 6, 7, 8, 9, 10] rfl
  have hP : va_P (dC, dI) CL [(m0, .inr (13, fs_2))] H := by rw [e9]; exact hP
  have hD : va_D A [(m0, .inr (13, fs_2))] := by rw [e9]; exact hD
  clear e9
  exact W.vret hx hb hr (fun t ht hW => ⟨⟨(), rfl, trivial, fs_2, h_m0, by rw [ht]; exact hP, va_K.moved hW.alike hK, hD⟩, hS.F ht⟩) hS.2.2 dX13_end_40
set_option maxHeartbeats 4000000 in
set_option maxRecDepth 100000 in
theorem gx22_X12_end (l : Launch) (hlt : l.stackTraces = false) (dC : Nat → ClassId) (dI : Nat → Nat → Nat) (sz : Nat) (x tx bt : Nat) (xg : List Value) (h_x : fx xg 17 [(0, .ref tx)]) (txg : List Value) (h_tx : fx txg 9 [(0, .ref bt), (1, .int 0), (2, .int 0), (3, .int 0), (4, .int 0), (6, .int 0), (7, .int 0), (8, .int 0)]) : Met l yX12_end (Cond.code yX12_end cX12_end 2 none :: BG) ({ frames := 7, cells := 1, slots := 6, locals := 130 }) (va_Pc [.ref x, .int 0] (fun U => U.heap.size = sz ∧ va_P (dC, dI) CL [(x, .inr (12, xg)), (tx, .inr (10, txg))] U.heap ∧ va_K (dC, dI) CL [] U ∧ va_D (fun _ => True) [(x, .inr (12, xg)), (tx, .inr (10, txg))] ∧ th (va_A [(x, .inr (12, xg)), (tx, .inr (10, txg))] sz) U U.heap)) (va_Qv (fun _ : Unit => True) (fun _ t => ∃ (xy : List Value) (txy : List Value), fx xy 17 [(0, .ref tx)] ∧ fx txy 9 [(0, .ref bt), (1, .int 0), (2, .int 0), (3, .int 0), (4, .int 0), (6, .int 0), (7, .int 0), (8, .int 0)] ∧ va_P (dC, dI) CL [(x, .inr (12, xy)), (tx, .inr (10, txy))] t.heap ∧ va_K (dC, dI) CL [] t ∧ va_D (va_A [(x, .inr (12, xg)), (tx, .inr (10, txg))] sz) [(x, .inr (12, xy)), (tx, .inr (10, txy))]) (va_A [(x, .inr (12, xg)), (tx, .inr (10, txg))] sz)) 1 6 (va_A [(x, .inr (12, xg)), (tx, .inr (10, txg))] sz) := by
  refine Met.ofW (cc := cX12_end) (maxL := 2) (ret := none) (by decide) rfl ?_
  intro p e s m args below meth c s₁ B hml hv
  obtain ⟨rfl, hsz, hP, hK, hD0, hth⟩ := hv
  have hx := B.exec
  have hb := B.bytes
  have hr := B.returns
  have hts : ∀ w ∈ BG, w.before _ s = true := fun w h => atoms_spec (ws := Cond.code yX12_end cX12_end 2 none :: BG) B.pre w (List.mem_cons_of_mem _ h)
  have hown : s.vm.findClass RX12 = some m.cls := findClass_of_methodNamed B.named
  have hlocks := B.notSynchronized
  subst hsz
  have hD := hD0.self (sz := s.heap.size)
  generalize hAe : va_A [(x, .inr (12, xg)), (tx, .inr (10, txg))] s.heap.size = A at hD hth ⊢
  have hA : ∀ q : Nat, s.heap.size ≤ q → A q := fun q h => by rw [← hAe]; exact Or.inr h
  have hS : va_S A s.heap s.heap [] := va_S.rf
  have hl := lv_entry ([.ref x, .int 0]) (n := 2) (Nat.le_of_ble_eq_true rfl)
  rw [lg_entry_eq]
  generalize (lg_sl ([.ref x, .int 0]) ++ List.replicate (2 - (lg_sl ([.ref x, .int 0])).length) Slot.unset).toArray = ls at hl ⊢
  have hl : lv_has ls 2 [(0, .ref x), (1, .int 0)] := hl
  obtain ⟨H, eH⟩ : ∃ z, z = s.heap := ⟨_, rfl⟩
  have hP : va_P (dC, dI) CL [(x, .inr (12, xg)), (tx, .inr (10, txg))] H := by rw [eH]; exact hP
  have hS : va_S A s.heap H [] := by rw [eH]; exact hS
  rw [← eH]
  refine lv_iload_n hx hb dX12_end_0 rfl (lv_at hl 1 rfl) ?_
  refine lv_if_lt (tgt := 19) hx hb dX12_end_1 (by decide) (fun c9 => ?_) (fun c9 => ?_)
  · first | exact absurd c9 (by decide +kernel) | exact absurd (by decide +kernel) c9
  refine lv_iload_n hx hb dX12_end_4 rfl (lv_at hl 1 rfl) ?_
  refine lv_aload_n hx hb dX12_end_5 rfl (lv_at hl 0 rfl) ?_
  refine va_get (D := (dC, dI)) (ci := 12) (v := .ref tx) (C := RX12) (T := TX12) (N := 17) hx hb hts inX12 hown hK hP 0 rfl rfl 0 (by decide) (hts (.fieldLink RX12 10 "ChipFlow" "text" "LChipFlow$Text;") wd_1178) (fun _ h9 => h9) (h_x.get 0 rfl) dX12_end_6 ?_
  refine va_get (D := (dC, dI)) (ci := 10) (v := .int 0) (C := RX10) (T := TX10) (N := 9) hx hb hts inX10 hown hK hP 1 rfl rfl 1 (by decide) (hts (.fieldLink RX12 99 "ChipFlow$Text" "length" "I") wd_378) (fun _ h9 => h9) (h_tx.get 1 rfl) dX12_end_9 ?_
  refine lv_icmp_gt (tgt := 19) hx hb dX12_end_12 (by decide) (fun c9 => ?_) (fun c9 => ?_)
  · first | exact absurd c9 (by decide +kernel) | exact absurd (by decide +kernel) c9
  refine lv_iconst (v := 1) hx hb dX12_end_15 (by decide +kernel) ?_
  refine lv_goto (tgt := 20) hx hb dX12_end_16 (by decide) ?_
  have hF0 : ∀ q, va_A [] H.size q → A q := fun q h => h.elim (fun ⟨k9, e9, h9⟩ => by simp at h9) (fun h9 => hA q (Nat.le_trans hS.1 h9))
  refine vx_callv (vx_runS (As := [.int 1]) (rest := []) ⟨hx, hb, hml, hown, hts⟩ (ct_X12_needRange l hlt H.size 1) (cwS 1 hts (gi_S wd_1328 wd_1329 wd_327 wd_1330) rfl rfl rfl (by decide +kernel) ⟨(Nat.le_of_ble_eq_true rfl), (Nat.le_of_ble_eq_true rfl)⟩) ⟨fun a U g mk q => ⟨q.1, q.2.1, th.moved (u := U) (U := U.calling g mk a) (Vm.Alike.refl U.vm) q.2.2⟩, fun U hU hW => ⟨rfl, by rw [hU], by rw [hU]; exact ((hth.kept hS.2.1).narrow hF0).moved hW.alike⟩⟩ rfl rfl hl.1 rfl (lv_room (Nat.le_of_ble_eq_true rfl)) dX12_end_20 ⟨(Nat.le_of_ble_eq_true rfl), (Nat.le_of_ble_eq_true rfl)⟩) hS (fun q _ h => hF0 q h) hF0 (fun q _ h => hF0 q h) (fun E ce q9 u t H1 locs ht hvm hp hB hz hk hS hce hcv hcl => absurd hp (by decide +kernel)) (fun u t H1 locs ht hvm hp hB hz hk hS => ?_)
  have hP : va_P (dC, dI) CL [(x, .inr (12, xg)), (tx, .inr (10, txg))] H1 := hP.kept (fun k q h9 => hk _ (vx_lt hP h9) (fun h8 => h8.elim (fun ⟨k9, e9, h7⟩ => by simp at h7) (fun h7 => absurd (vx_lt hP h9) (Nat.not_lt.mpr h7))))
  generalize H1 = H at hP hS ⊢
  refine W.widen (k := 1) (n := 6) (Nat.le_of_ble_eq_true rfl) (Nat.le_of_ble_eq_true rfl) ?_
  refine lv_aload_n hx hb dX12_end_23 rfl (lv_at hl 0 rfl) ?_
  refine va_get (D := (dC, dI)) (ci := 12) (v := .ref tx) (C := RX12) (T := TX12) (N := 17) hx hb hts inX12 hown hK hP 0 rfl rfl 0 (by decide) (hts (.fieldLink RX12 10 "ChipFlow" "text" "LChipFlow$Text;") wd_1178) (fun _ h9 => h9) (h_x.get 0 rfl) dX12_end_24 ?_
  refine lv_iload_n hx hb dX12_end_27 rfl (lv_at hl 1 rfl) ?_
  refine va_put (D := (dC, dI)) (ci := 10) (v := .int 0) (ty := tyX10 1) (C := RX10) (T := TX10) (N := 9) hx hb hts inX10 tyX10 tyX10_ok nmX10 hown hK hP hD hS 1 rfl rfl 1 (by decide) (hts (.fieldLink RX12 99 "ChipFlow$Text" "length" "I") wd_378) (fun _ h9 => h9) rfl (by decide +kernel) rfl rfl (by rw [h_tx.1]; decide) dX12_end_28 (fun H locs hP hD hS => ?_)
  obtain ⟨fs_1, e9⟩ : ∃ z, z = txg.set 1 (.int 0) := ⟨_, rfl⟩
  have h_tx : fx fs_1 9 [(0, .ref bt), (1, .int 0), (2, .int 0), (3, .int 0), (4, .int 0), (6, .int 0), (7, .int 0), (8, .int 0)] := by rw [e9]; exact (h_tx.put (F' := [(1, .int 0), (0, .ref bt), (2, .int 0), (3, .int 0), (4, .int 0), (6, .int 0), (7, .int 0), (8, .int 0)]) (by decide) _ rfl).sub [1, 0, 2, 3, 4, 5, 6, 7] rfl
  have hP : va_P (dC, dI) CL [(x, .inr (12, xg)), (tx, .inr (10, fs_1))] H := by rw [e9]; exact hP
  have hD : va_D A [(x, .inr (12, xg)), (tx, .inr (10, fs_1))] := by rw [e9]; exact hD
  clear e9
  refine W.widen (k := 1) (n := 6) (Nat.le_of_ble_eq_true rfl) (Nat.le_of_ble_eq_true rfl) ?_
  exact W.vret hx hb hr (fun t ht hW => ⟨⟨(), rfl, trivial, xg, fs_1, h_x, h_tx, by rw [ht]; exact hP, va_K.moved hW.alike hK, hD⟩, hS.F ht⟩) hS.2.2 dX12_end_31
set_option maxHeartbeats 4000000 in
set_option maxRecDepth 100000 in
theorem gx21_L_end (l : Launch) (hlt : l.stackTraces = false) (dC : Nat → ClassId) (dI : Nat → Nat → Nat) (sz : Nat) (x tx bt : Nat) (xg : List Value) (h_x : fx xg 17 [(0, .ref tx)]) (txg : List Value) (h_tx : fx txg 9 [(0, .ref bt), (1, .int 0), (2, .int 0), (3, .int 0), (4, .int 0), (6, .int 0), (7, .int 0), (8, .int 0)]) : Met l yL_end (Cond.codeWith yL_end cL_end 3 (some .int) [(0, 5, 8, 19)] :: BG) ({ frames := 8, cells := 1, slots := 6, locals := 151 }) (va_Pc [.ref x, .int 0] (fun U => U.heap.size = sz ∧ va_P (dC, dI) CL [(x, .inr (12, xg)), (tx, .inr (10, txg))] U.heap ∧ va_K (dC, dI) CL [] U ∧ va_D (fun _ => True) [(x, .inr (12, xg)), (tx, .inr (10, txg))] ∧ th (va_A [(x, .inr (12, xg)), (tx, .inr (10, txg))] sz) U U.heap)) (va_Qi (fun (r : Int32) (_ : Unit) => r = 0) (fun _ t => ∃ (xy : List Value) (txy : List Value), fx xy 17 [(0, .ref tx)] ∧ fx txy 9 [(0, .ref bt), (1, .int 0), (2, .int 0), (3, .int 0), (4, .int 0), (6, .int 0), (7, .int 0), (8, .int 0)] ∧ va_P (dC, dI) CL [(x, .inr (12, xy)), (tx, .inr (10, txy))] t.heap ∧ va_K (dC, dI) CL [] t ∧ va_D (va_A [(x, .inr (12, xg)), (tx, .inr (10, txg))] sz) [(x, .inr (12, xy)), (tx, .inr (10, txy))]) (va_A [(x, .inr (12, xg)), (tx, .inr (10, txg))] sz)) 1 6 (va_A [(x, .inr (12, xg)), (tx, .inr (10, txg))] sz) := by
  refine va_MetW (hh := [(0, 5, 8, 19)]) (cc := cL_end) (maxL := 3) (ret := (some .int)) (by decide) rfl ?_
  intro p e s m args below meth c s₁ B hml hv
  obtain ⟨rfl, hsz, hP, hK, hD0, hth⟩ := hv
  have hx := B.exec
  have hb := B.bytes
  have hr := B.returns
  have hts : ∀ w ∈ BG, w.before _ s = true := fun w h => atoms_spec (ws := Cond.codeWith yL_end cL_end 3 (some .int) [(0, 5, 8, 19)] :: BG) B.pre w (List.mem_cons_of_mem _ h)
  have hown : s.vm.findClass RL = some m.cls := findClass_of_methodNamed B.named
  have hlocks := B.notSynchronized
  subst hsz
  have hD := hD0.self (sz := s.heap.size)
  generalize hAe : va_A [(x, .inr (12, xg)), (tx, .inr (10, txg))] s.heap.size = A at hD hth ⊢
  have hA : ∀ q : Nat, s.heap.size ≤ q → A q := fun q h => by rw [← hAe]; exact Or.inr h
  have hS : va_S A s.heap s.heap [] := va_S.rf
  have hl := lv_entry ([.ref x, .int 0]) (n := 3) (Nat.le_of_ble_eq_true rfl)
  rw [lg_entry_eq]
  generalize (lg_sl ([.ref x, .int 0]) ++ List.replicate (3 - (lg_sl ([.ref x, .int 0])).length) Slot.unset).toArray = ls at hl ⊢
  have hl : lv_has ls 3 [(0, .ref x), (1, .int 0)] := hl
  obtain ⟨H, eH⟩ : ∃ z, z = s.heap := ⟨_, rfl⟩
  have hP : va_P (dC, dI) CL [(x, .inr (12, xg)), (tx, .inr (10, txg))] H := by rw [eH]; exact hP
  have hS : va_S A s.heap H [] := by rw [eH]; exact hS
  rw [← eH]
  have hT : c.exceptionTable.toList = tableOf [(0, 5, 8, 19)] := vx_table (x := yL_end) B (atoms_spec (ws := Cond.codeWith yL_end cL_end 3 (some .int) [(0, 5, 8, 19)] :: BG) B.pre _ List.mem_cons_self)
  refine lv_aload_n hx hb dL_end_0 rfl (lv_at hl 0 rfl) ?_
  refine lv_iload_n hx hb dL_end_1 rfl (lv_at hl 1 rfl) ?_
  have hFc := va_free (wc := [(x, .inr (12, xg)), (tx, .inr (10, txg))]) hD hS hA [0, 1] rfl
  refine va_callv (va_runV (As := [.int 0]) (rest := []) ⟨hx, hb, hml, hown, hts⟩ (gx22_X12_end l hlt dC dI _ x tx bt xg h_x txg h_tx) (cwV 1 hts (gi_V wd_1324 wd_1325 wd_1326 wd_327 wd_1327) rfl rfl rfl (by decide +kernel) ⟨(Nat.le_of_ble_eq_true rfl), (Nat.le_of_ble_eq_true rfl)⟩) ⟨fun a U g mk q => by obtain ⟨q0, q1, qP, qK, qD, qT⟩ := q; exact ⟨q0, q1, qP, va_K.moved (u := U) (U := U.calling g mk a) (Vm.Alike.refl U.vm) qK, qD, th.moved (u := U) (U := U.calling g mk a) (Vm.Alike.refl U.vm) qT⟩, va_recv hK hP (ci := 12) (q0 := 0) rfl rfl, fun U hU hW => ⟨rfl, by rw [hU], by rw [hU]; exact hP, va_K.moved hW.alike hK, hD.weaken (fun _ _ _ _ => trivial), by rw [hU]; exact ((hth.kept hS.2.1).narrow hFc).moved hW.alike⟩⟩ rfl rfl hl.1 rfl (lv_room (Nat.le_of_ble_eq_true rfl)) dL_end_2 ⟨(Nat.le_of_ble_eq_true rfl), (Nat.le_of_ble_eq_true rfl)⟩) hS (fun q _ h => hFc q h) hFc (fun u t H1 locs ht hvm hw hB hz1 hk1 hS => ?_)
  obtain ⟨fs_1, fs_2, h_x, h_tx, hP1, hK1, hD1⟩ := hB
  rw [ht] at hP1
  have hD := hD1.weaken (fun k q _ h => hFc q.1 h)
  have hP := hP1
  generalize H1 = H at hP hS ⊢
  have hP : va_P (dC, dI) CL [(x, .inr (12, fs_1)), (tx, .inr (10, fs_2))] H := hP
  have hD : va_D A [(x, .inr (12, fs_1)), (tx, .inr (10, fs_2))] := hD
  refine W.widen (k := 1) (n := 6) (Nat.le_of_ble_eq_true rfl) (Nat.le_of_ble_eq_true rfl) ?_
  refine lv_goto (tgt := 11) hx hb dL_end_5 (by decide) ?_
  refine lv_iconst (v := 0) hx hb dL_end_11 (by decide +kernel) ?_
  refine W.widen (k := 1) (n := 6) (Nat.le_of_ble_eq_true rfl) (Nat.le_of_ble_eq_true rfl) ?_
  exact W.iret (v := 0) hx hb hr (fun t ht hW => ⟨⟨0, (), rfl, rfl, fs_1, fs_2, h_x, h_tx, by rw [ht]; exact hP, va_K.moved hW.alike hK, hD⟩, hS.F ht⟩) hS.2.2 dL_end_12
set_option maxHeartbeats 4000000 in
set_option maxRecDepth 100000 in
theorem gx23_X13_end (l : Launch) (hlt : l.stackTraces = false) (dC : Nat → ClassId) (dI : Nat → Nat → Nat) (sz : Nat) (m0 : Nat) (m0g : List Value) (h_m0 : fx m0g 225 [(0, .int 0), (2, .int 0), (3, .int 0), (9, .int 0), (10, .int 0), (11, .int 0), (12, .int 0), (27, .int 0), (79, .int 0), (83, .int 0), (95, .int 0)]) : Met l yX13_end (Cond.code yX13_end cX13_end 2 none :: BG) ({ frames := 1, cells := 0, slots := 0, locals := 12 }) (va_Pc [.ref m0, .int 0] (fun U => U.heap.size = sz ∧ va_P (dC, dI) CL [(m0, .inr (13, m0g))] U.heap ∧ va_K (dC, dI) CL [] U ∧ va_D (fun _ => True) [(m0, .inr (13, m0g))] ∧ th (va_A [(m0, .inr (13, m0g))] sz) U U.heap)) (va_Qv (fun _ : Unit => True) (fun _ t => ∃ (m0y : List Value), fx m0y 225 [(0, .int 0), (2, .int 0), (3, .int 0), (9, .int 0), (10, .int 0), (11, .int 0), (12, .int 0), (27, .int 0), (79, .int 0), (83, .int 0), (95, .int 0)] ∧ va_P (dC, dI) CL [(m0, .inr (13, m0y))] t.heap ∧ va_K (dC, dI) CL [] t ∧ va_D (va_A [(m0, .inr (13, m0g))] sz) [(m0, .inr (13, m0y))]) (va_A [(m0, .inr (13, m0g))] sz)) 0 0 (va_A [(m0, .inr (13, m0g))] sz) := by
  refine Met.ofW (cc := cX13_end) (maxL := 2) (ret := none) (by decide) rfl ?_
  intro p e s m args below meth c s₁ B hml hv
  obtain ⟨rfl, hsz, hP, hK, hD0, hth⟩ := hv
  have hx := B.exec
  have hb := B.bytes
  have hr := B.returns
  have hts : ∀ w ∈ BG, w.before _ s = true := fun w h => atoms_spec (ws := Cond.code yX13_end cX13_end 2 none :: BG) B.pre w (List.mem_cons_of_mem _ h)
  have hown : s.vm.findClass RX13 = some m.cls := findClass_of_methodNamed B.named
  have hlocks := B.notSynchronized
  subst hsz
  have hD := hD0.self (sz := s.heap.size)
  generalize hAe : va_A [(m0, .inr (13, m0g))] s.heap.size = A at hD hth ⊢
  have hA : ∀ q : Nat, s.heap.size ≤ q → A q := fun q h => by rw [← hAe]; exact Or.inr h
  have hS : va_S A s.heap s.heap [] := va_S.rf
  have hl := lv_entry ([.ref m0, .int 0]) (n := 2) (Nat.le_of_ble_eq_true rfl)
  rw [lg_entry_eq]
  generalize (lg_sl ([.ref m0, .int 0]) ++ List.replicate (2 - (lg_sl ([.ref m0, .int 0])).length) Slot.unset).toArray = ls at hl ⊢
  have hl : lv_has ls 2 [(0, .ref m0), (1, .int 0)] := hl
  obtain ⟨H, eH⟩ : ∃ z, z = s.heap := ⟨_, rfl⟩
  have hP : va_P (dC, dI) CL [(m0, .inr (13, m0g))] H := by rw [eH]; exact hP
  have hS : va_S A s.heap H [] := by rw [eH]; exact hS
  rw [← eH]
  refine lv_aload_n hx hb dX13_end_0 rfl (lv_at hl 0 rfl) ?_
  refine lv_iload_n hx hb dX13_end_1 rfl (lv_at hl 1 rfl) ?_
  refine lv_if_lt (tgt := 13) hx hb dX13_end_2 (by decide) (fun c9 => ?_) (fun c9 => ?_)
  · first | exact absurd c9 (by decide +kernel) | exact absurd (by decide +kernel) c9
  refine lv_iload_n hx hb dX13_end_5 rfl (lv_at hl 1 rfl) ?_
  refine lv_aload_n hx hb dX13_end_6 rfl (lv_at hl 0 rfl) ?_
  refine va_get (D := (dC, dI)) (ci := 13) (v := .int 0) (C := RX13) (T := TX13) (N := 225) hx hb hts inX13 hown hK hP 0 rfl rfl 2 (by decide) (hts (.fieldLink RX13 555 "ChipFlowModel" "size" "I") wd_3034) (fun _ h9 => h9) (h_m0.get 1 rfl) dX13_end_7 ?_
  refine lv_icmp_le (tgt := 17) hx hb dX13_end_10 (by decide) (fun c9 => ?_) (fun c9 => ?_)
  rotate_left
  · first | exact absurd c9 (by decide +kernel) | exact absurd (by decide +kernel) c9
  refine lv_iconst (v := 0) hx hb dX13_end_17 (by decide +kernel) ?_
  refine va_put (D := (dC, dI)) (ci := 13) (v := .int 0) (ty := tyX13 0) (C := RX13) (T := TX13) (N := 225) hx hb hts inX13 tyX13 tyX13_ok nmX13 hown hK hP hD hS 0 rfl rfl 0 (by decide) (hts (.fieldLink RX13 1 "ChipFlowModel" "code" "I") wd_3032) (fun _ h9 => h9) rfl (by decide +kernel) rfl rfl (by rw [h_m0.1]; decide) dX13_end_18 (fun H locs hP hD hS => ?_)
  obtain ⟨fs_1, e9⟩ : ∃ z, z = m0g.set 0 (.int 0) := ⟨_, rfl⟩
  have h_m0 : fx fs_1 225 [(0, .int 0), (2, .int 0), (3, .int 0), (9, .int 0), (10, .int 0), (11, .int 0), (12, .int 0), (27, .int 0), (79, .int 0), (83, .int 0), (95, .int 0)] := by rw [e9]; exact (h_m0.put (F' := [(0, .int 0), (2, .int 0), (3, .int 0), (9, .int 0), (10, .int 0), (11, .int 0), (12, .int 0), (27, .int 0), (79, .int 0), (83, .int 0), (95, .int 0)]) (by decide) _ rfl).sub [0, 1, 2, 3, 4, 5, 6, 7, 8, 9, 10] rfl
  have hP : va_P (dC, dI) CL [(m0, .inr (13, fs_1))] H := by rw [e9]; exact hP
  have hD : va_D A [(m0, .inr (13, fs_1))] := by rw [e9]; exact hD
  clear e9
  refine lv_aload_n hx hb dX13_end_21 rfl (lv_at hl 0 rfl) ?_
  refine lv_aload_n hx hb dX13_end_22 rfl (lv_at hl 0 rfl) ?_
  refine va_get (D := (dC, dI)) (ci := 13) (v := .int 0) (C := RX13) (T := TX13) (N := 225) hx hb hts inX13 hown hK hP 0 rfl rfl 0 (by decide) (hts (.fieldLink RX13 1 "ChipFlowModel" "code" "I") wd_3032) (fun _ h9 => h9) (h_m0.get 0 rfl) dX13_end_23 ?_
  refine lv_if_le (tgt := 36) hx hb dX13_end_26 (by decide) (fun c9 => ?_) (fun c9 => ?_)
  rotate_left
  · first | exact absurd c9 (by decide +kernel) | exact absurd (by decide +kernel) c9
  refine lv_iload_n hx hb dX13_end_36 rfl (lv_at hl 1 rfl) ?_
  refine va_put (D := (dC, dI)) (ci := 13) (v := .int 0) (ty := tyX13 2) (C := RX13) (T := TX13) (N := 225) hx hb hts inX13 tyX13 tyX13_ok nmX13 hown hK hP hD hS 0 rfl rfl 2 (by decide) (hts (.fieldLink RX13 555 "ChipFlowModel" "size" "I") wd_3034) (fun _ h9 => h9) rfl (by decide +kernel) rfl rfl (by rw [h_m0.1]; decide) dX13_end_37 (fun H locs hP hD hS => ?_)
  obtain ⟨fs_2, e9⟩ : ∃ z, z = fs_1.set 2 (.int 0) := ⟨_, rfl⟩
  have h_m0 : fx fs_2 225 [(0, .int 0), (2, .int 0), (3, .int 0), (9, .int 0), (10, .int 0), (11, .int 0), (12, .int 0), (27, .int 0), (79, .int 0), (83, .int 0), (95, .int 0)] := by rw [e9]; exact (h_m0.put (F' := [(2, .int 0), (0, .int 0), (3, .int 0), (9, .int 0), (10, .int 0), (11, .int 0), (12, .int 0), (27, .int 0), (79, .int 0), (83, .int 0), (95, .int 0)]) (by decide) _ rfl).sub [1, 0, 2, 3, 4, 5, 6, 7, 8, 9, 10] rfl
  have hP : va_P (dC, dI) CL [(m0, .inr (13, fs_2))] H := by rw [e9]; exact hP
  have hD : va_D A [(m0, .inr (13, fs_2))] := by rw [e9]; exact hD
  clear e9
  exact W.vret hx hb hr (fun t ht hW => ⟨⟨(), rfl, trivial, fs_2, h_m0, by rw [ht]; exact hP, va_K.moved hW.alike hK, hD⟩, hS.F ht⟩) hS.2.2 dX13_end_40
set_option maxHeartbeats 4000000 in
set_option maxRecDepth 100000 in
theorem gx24_X13_thrown (l : Launch) (hlt : l.stackTraces = false) (dC : Nat → ClassId) (dI : Nat → Nat → Nat) (sz : Nat) (m0 : Nat) (m0g : List Value) (h_m0 : fx m0g 225 [(0, .int 0), (2, .int 0), (3, .int 0), (9, .int 0), (10, .int 0), (11, .int 0), (12, .int 0), (27, .int 0), (79, .int 0), (83, .int 0), (95, .int 0)]) : Met l yX13_thrown (Cond.code yX13_thrown cX13_thrown 1 (some .int) :: BG) ({ frames := 1, cells := 0, slots := 0, locals := 12 }) (va_Pc [.ref m0] (fun U => U.heap.size = sz ∧ va_P (dC, dI) CL [(m0, .inr (13, m0g))] U.heap ∧ va_K (dC, dI) CL [] U ∧ va_D (fun _ => True) [(m0, .inr (13, m0g))] ∧ th (va_A [(m0, .inr (13, m0g))] sz) U U.heap)) (va_Qi (fun (r : Int32) (_ : Unit) => r = 0) (fun _ t => ∃ (m0y : List Value), fx m0y 225 [(0, .int 0), (2, .int 0), (3, .int 0), (9, .int 0), (10, .int 0), (11, .int 0), (12, .int 0), (27, .int 0), (79, .int 0), (83, .int 0), (95, .int 0)] ∧ va_P (dC, dI) CL [(m0, .inr (13, m0y))] t.heap ∧ va_K (dC, dI) CL [] t ∧ va_D (va_A [(m0, .inr (13, m0g))] sz) [(m0, .inr (13, m0y))]) (va_A [(m0, .inr (13, m0g))] sz)) 0 0 (va_A [(m0, .inr (13, m0g))] sz) := by
  refine Met.ofW (cc := cX13_thrown) (maxL := 1) (ret := (some .int)) (by decide) rfl ?_
  intro p e s m args below meth c s₁ B hml hv
  obtain ⟨rfl, hsz, hP, hK, hD0, hth⟩ := hv
  have hx := B.exec
  have hb := B.bytes
  have hr := B.returns
  have hts : ∀ w ∈ BG, w.before _ s = true := fun w h => atoms_spec (ws := Cond.code yX13_thrown cX13_thrown 1 (some .int) :: BG) B.pre w (List.mem_cons_of_mem _ h)
  have hown : s.vm.findClass RX13 = some m.cls := findClass_of_methodNamed B.named
  have hlocks := B.notSynchronized
  subst hsz
  have hD := hD0.self (sz := s.heap.size)
  generalize hAe : va_A [(m0, .inr (13, m0g))] s.heap.size = A at hD hth ⊢
  have hA : ∀ q : Nat, s.heap.size ≤ q → A q := fun q h => by rw [← hAe]; exact Or.inr h
  have hS : va_S A s.heap s.heap [] := va_S.rf
  have hl := lv_entry ([.ref m0]) (n := 1) (Nat.le_of_ble_eq_true rfl)
  rw [lg_entry_eq]
  generalize (lg_sl ([.ref m0]) ++ List.replicate (1 - (lg_sl ([.ref m0])).length) Slot.unset).toArray = ls at hl ⊢
  have hl : lv_has ls 1 [(0, .ref m0)] := hl
  obtain ⟨H, eH⟩ : ∃ z, z = s.heap := ⟨_, rfl⟩
  have hP : va_P (dC, dI) CL [(m0, .inr (13, m0g))] H := by rw [eH]; exact hP
  have hS : va_S A s.heap H [] := by rw [eH]; exact hS
  rw [← eH]
  refine lv_aload_n hx hb dX13_thrown_0 rfl (lv_at hl 0 rfl) ?_
  refine va_get (D := (dC, dI)) (ci := 13) (v := .int 0) (C := RX13) (T := TX13) (N := 225) hx hb hts inX13 hown hK hP 0 rfl rfl 0 (by decide) (hts (.fieldLink RX13 1 "ChipFlowModel" "code" "I") wd_3032) (fun _ h9 => h9) (h_m0.get 0 rfl) dX13_thrown_1 ?_
  exact W.iret (v := 0) hx hb hr (fun t ht hW => ⟨⟨0, (), rfl, rfl, m0g, h_m0, by rw [ht]; exact hP, va_K.moved hW.alike hK, hD⟩, hS.F ht⟩) hS.2.2 dX13_thrown_4
set_option maxHeartbeats 4000000 in
set_option maxRecDepth 100000 in
theorem gx26_X12_witness (l : Launch) (hlt : l.stackTraces = false) (dC : Nat → ClassId) (dI : Nat → Nat → Nat) (sz : Nat) (p0 : Int32) (x oA : Nat) (xg : List Value) (h_x : fx xg 17 [(16, .int 0)]) (oAC : ClassId) (oAf : Nat → Int64) (h_oA : fa oAf []) (zn : p0 < 0) : vx_Met l yX12_witness (Cond.code yX12_witness cX12_witness 2 (some .int) :: BG) ({ frames := 7, cells := 1, slots := 6, locals := 130 }) (va_Pc [.ref x, .int p0] (fun U => U.heap.size = sz ∧ va_P (dC, dI) CL [(x, .inr (12, xg)), (oA, .inl (oAC, (1, .inr (.inl oAf))))] U.heap ∧ va_K (dC, dI) CL [(oAC, .long)] U ∧ va_D (fun _ => True) [(x, .inr (12, xg)), (oA, .inl (oAC, (1, .inr (.inl oAf))))] ∧ th (va_A [(x, .inr (12, xg)), (oA, .inl (oAC, (1, .inr (.inl oAf))))] sz) U U.heap)) (fun _ _ _ _ => False) (vx_X (fun _ : Unit => True) (fun E _ t => E = "java/lang/IndexOutOfBoundsException" ∧ ∃ (xy : List Value) (oAy : Nat → Int64), fx xy 17 [(16, .int 0)] ∧ fa oAy [] ∧ va_P (dC, dI) CL [(x, .inr (12, xy)), (oA, .inl (oAC, (1, .inr (.inl oAy))))] t.heap ∧ va_K (dC, dI) CL [(oAC, .long)] t ∧ va_D (va_A [(x, .inr (12, xg)), (oA, .inl (oAC, (1, .inr (.inl oAf))))] sz) [(x, .inr (12, xy)), (oA, .inl (oAC, (1, .inr (.inl oAy))))]) (va_A [(x, .inr (12, xg)), (oA, .inl (oAC, (1, .inr (.inl oAf))))] sz)) 1 6 (va_A [(x, .inr (12, xg)), (oA, .inl (oAC, (1, .inr (.inl oAf))))] sz) := by
  refine vx_ofW (cc := cX12_witness) (maxL := 2) (ret := (some .int)) (by decide) rfl ?_
  intro p e s m args below meth c s₁ B hml ht0 hv
  obtain ⟨rfl, hsz, hP, hK, hD0, hth⟩ := hv
  have hx := B.exec
  have hb := B.bytes
  have hr := B.returns
  have hts : ∀ w ∈ BG, w.before _ s = true := fun w h => atoms_spec (ws := Cond.code yX12_witness cX12_witness 2 (some .int) :: BG) B.pre w (List.mem_cons_of_mem _ h)
  have hown : s.vm.findClass RX12 = some m.cls := findClass_of_methodNamed B.named
  have hlocks := B.notSynchronized
  subst hsz
  have hD := hD0.self (sz := s.heap.size)
  generalize hAe : va_A [(x, .inr (12, xg)), (oA, .inl (oAC, (1, .inr (.inl oAf))))] s.heap.size = A at hD hth ⊢
  have hA : ∀ q : Nat, s.heap.size ≤ q → A q := fun q h => by rw [← hAe]; exact Or.inr h
  have hS : va_S A s.heap s.heap [] := va_S.rf
  have hl := lv_entry ([.ref x, .int p0]) (n := 2) (Nat.le_of_ble_eq_true rfl)
  rw [lg_entry_eq]
  generalize (lg_sl ([.ref x, .int p0]) ++ List.replicate (2 - (lg_sl ([.ref x, .int p0])).length) Slot.unset).toArray = ls at hl ⊢
  have hl : lv_has ls 2 [(0, .ref x), (1, .int p0)] := hl
  obtain ⟨H, eH⟩ : ∃ z, z = s.heap := ⟨_, rfl⟩
  have hP : va_P (dC, dI) CL [(x, .inr (12, xg)), (oA, .inl (oAC, (1, .inr (.inl oAf))))] H := by rw [eH]; exact hP
  have hS : va_S A s.heap H [] := by rw [eH]; exact hS
  rw [← eH]
  refine lv_iload_n hx hb dX12_witness_0 rfl (lv_at hl 1 rfl) ?_
  refine lv_if_lt (tgt := 16) hx hb dX12_witness_1 (by decide) (fun c9 => ?_) (fun c9 => ?_)
  rotate_left
  · first | exact absurd c9 zn | exact absurd zn c9
  refine lv_iconst (v := 0) hx hb dX12_witness_16 (by decide +kernel) ?_
  have hF0 : ∀ q, va_A [] H.size q → A q := fun q h => h.elim (fun ⟨k9, e9, h9⟩ => by simp at h9) (fun h9 => hA q (Nat.le_trans hS.1 h9))
  refine vx_callv (vx_runS (As := [.int 0]) (rest := []) ⟨hx, hb, hml, hown, hts⟩ (ct_X12_needThere l hlt H.size 0) (cwS 1 hts (gi_S wd_1813 wd_1814 wd_327 wd_1815) rfl rfl rfl (by decide +kernel) ⟨(Nat.le_of_ble_eq_true rfl), (Nat.le_of_ble_eq_true rfl)⟩) ⟨fun a U g mk q => ⟨q.1, q.2.1, th.moved (u := U) (U := U.calling g mk a) (Vm.Alike.refl U.vm) q.2.2⟩, fun U hU hW => ⟨rfl, by rw [hU], by rw [hU]; exact ((hth.kept hS.2.1).narrow hF0).moved hW.alike⟩⟩ rfl rfl hl.1 rfl (lv_room (Nat.le_of_ble_eq_true rfl)) dX12_witness_17 ⟨(Nat.le_of_ble_eq_true rfl), (Nat.le_of_ble_eq_true rfl)⟩) hS (fun q _ h => hF0 q h) hF0 (fun q _ h => hF0 q h) (fun E ce q9 u t H1 locs ht hvm hp hB hz hk hS hce hcv hcl => ?_) (fun u t H1 locs ht hvm hp hB hz hk hS => absurd rfl hp)
  subst hB
  have hP : va_P (dC, dI) CL [(x, .inr (12, xg)), (oA, .inl (oAC, (1, .inr (.inl oAf))))] H1 := hP.kept (fun k q h9 => hk _ (vx_lt hP h9) (fun h8 => h8.elim (fun ⟨k9, e9, h7⟩ => by simp at h7) (fun h7 => absurd (vx_lt hP h9) (Nat.not_lt.mpr h7))))
  generalize H1 = H at hP hS hce ⊢
  exact vx_out (fun x h9 => (ht0 x h9).elim) hlocks hce hcv hcl (fun t ht hvm9 => ⟨(), trivial, ⟨rfl, xg, oAf, h_x, h_oA, by rw [ht]; exact hP, va_K.moved hvm9 hK, hD⟩, hS.F ht⟩) hS.2.2 (Nat.le_of_ble_eq_true rfl) (Nat.le_of_ble_eq_true rfl)
set_option maxHeartbeats 4000000 in
set_option maxRecDepth 100000 in
theorem gx25_L_witness (l : Launch) (hlt : l.stackTraces = false) (dC : Nat → ClassId) (dI : Nat → Nat → Nat) (sz : Nat) (p0 : Int32) (x oA : Nat) (xg : List Value) (h_x : fx xg 17 [(16, .int 0)]) (oAC : ClassId) (oAf : Nat → Int64) (h_oA : fa oAf []) (zn : p0 < 0) : Met l yL_witness (Cond.codeWith yL_witness cL_witness 4 (some .int) [(0, 9, 12, 32)] :: BG) ({ frames := 8, cells := 1, slots := 6, locals := 151 }) (va_Pc [.ref x, .int p0, .ref oA] (fun U => U.heap.size = sz ∧ va_P (dC, dI) CL [(x, .inr (12, xg)), (oA, .inl (oAC, (1, .inr (.inl oAf))))] U.heap ∧ va_K (dC, dI) CL [(oAC, .long)] U ∧ va_D (fun _ => True) [(x, .inr (12, xg)), (oA, .inl (oAC, (1, .inr (.inl oAf))))] ∧ th (va_A [(x, .inr (12, xg)), (oA, .inl (oAC, (1, .inr (.inl oAf))))] sz) U U.heap)) (va_Qi (fun (r : Int32) (_ : Unit) => r = 1) (fun _ t => ∃ (xy : List Value) (oAy : Nat → Int64), fx xy 17 [(16, .int 0)] ∧ fa oAy [] ∧ va_P (dC, dI) CL [(x, .inr (12, xy)), (oA, .inl (oAC, (1, .inr (.inl oAy))))] t.heap ∧ va_K (dC, dI) CL [(oAC, .long)] t ∧ va_D (va_A [(x, .inr (12, xg)), (oA, .inl (oAC, (1, .inr (.inl oAf))))] sz) [(x, .inr (12, xy)), (oA, .inl (oAC, (1, .inr (.inl oAy))))]) (va_A [(x, .inr (12, xg)), (oA, .inl (oAC, (1, .inr (.inl oAf))))] sz)) 1 6 (va_A [(x, .inr (12, xg)), (oA, .inl (oAC, (1, .inr (.inl oAf))))] sz) := by
  refine va_MetW (hh := [(0, 9, 12, 32)]) (cc := cL_witness) (maxL := 4) (ret := (some .int)) (by decide) rfl ?_
  intro p e s m args below meth c s₁ B hml hv
  obtain ⟨rfl, hsz, hP, hK, hD0, hth⟩ := hv
  have hx := B.exec
  have hb := B.bytes
  have hr := B.returns
  have hts : ∀ w ∈ BG, w.before _ s = true := fun w h => atoms_spec (ws := Cond.codeWith yL_witness cL_witness 4 (some .int) [(0, 9, 12, 32)] :: BG) B.pre w (List.mem_cons_of_mem _ h)
  have hown : s.vm.findClass RL = some m.cls := findClass_of_methodNamed B.named
  have hlocks := B.notSynchronized
  subst hsz
  have hD := hD0.self (sz := s.heap.size)
  generalize hAe : va_A [(x, .inr (12, xg)), (oA, .inl (oAC, (1, .inr (.inl oAf))))] s.heap.size = A at hD hth ⊢
  have hA : ∀ q : Nat, s.heap.size ≤ q → A q := fun q h => by rw [← hAe]; exact Or.inr h
  have hS : va_S A s.heap s.heap [] := va_S.rf
  have hl := lv_entry ([.ref x, .int p0, .ref oA]) (n := 4) (Nat.le_of_ble_eq_true rfl)
  rw [lg_entry_eq]
  generalize (lg_sl ([.ref x, .int p0, .ref oA]) ++ List.replicate (4 - (lg_sl ([.ref x, .int p0, .ref oA])).length) Slot.unset).toArray = ls at hl ⊢
  have hl : lv_has ls 4 [(0, .ref x), (1, .int p0), (2, .ref oA)] := hl
  obtain ⟨H, eH⟩ : ∃ z, z = s.heap := ⟨_, rfl⟩
  have hP : va_P (dC, dI) CL [(x, .inr (12, xg)), (oA, .inl (oAC, (1, .inr (.inl oAf))))] H := by rw [eH]; exact hP
  have hS : va_S A s.heap H [] := by rw [eH]; exact hS
  rw [← eH]
  have hT : c.exceptionTable.toList = tableOf [(0, 9, 12, 32)] := vx_table (x := yL_witness) B (atoms_spec (ws := Cond.codeWith yL_witness cL_witness 4 (some .int) [(0, 9, 12, 32)] :: BG) B.pre _ List.mem_cons_self)
  refine lv_aload_n hx hb dL_witness_0 rfl (lv_at hl 2 rfl) ?_
  refine lv_iconst (v := 0) hx hb dL_witness_1 (by decide +kernel) ?_
  refine lv_aload_n hx hb dL_witness_2 rfl (lv_at hl 0 rfl) ?_
  refine lv_iload_n hx hb dL_witness_3 rfl (lv_at hl 1 rfl) ?_
  have hFc := va_free (wc := [(x, .inr (12, xg)), (oA, .inl (oAC, (1, .inr (.inl oAf))))]) hD hS hA [0, 1] rfl
  refine vq_thr (vx_runV (As := [.int p0]) (rest := [.int 0, .ref oA]) ⟨hx, hb, hml, hown, hts⟩ (gx26_X12_witness l hlt dC dI _ p0 x oA xg h_x oAC oAf h_oA zn) (cwV 1 hts (gi_V wd_1930 wd_1931 wd_1932 wd_327 wd_1933) rfl rfl rfl (by decide +kernel) ⟨(Nat.le_of_ble_eq_true rfl), (Nat.le_of_ble_eq_true rfl)⟩) ⟨fun a U g mk q => by obtain ⟨q0, q1, qP, qK, qD, qT⟩ := q; exact ⟨q0, q1, qP, va_K.moved (u := U) (U := U.calling g mk a) (Vm.Alike.refl U.vm) qK, qD, th.moved (u := U) (U := U.calling g mk a) (Vm.Alike.refl U.vm) qT⟩, va_recv hK hP (ci := 12) (q0 := 0) rfl rfl, fun U hU hW => ⟨rfl, by rw [hU], by rw [hU]; exact hP, va_K.moved hW.alike hK, hD.weaken (fun _ _ _ _ => trivial), by rw [hU]; exact ((hth.kept hS.2.1).narrow hFc).moved hW.alike⟩⟩ rfl rfl hl.1 rfl (lv_room (Nat.le_of_ble_eq_true rfl)) dL_witness_4 ⟨(Nat.le_of_ble_eq_true rfl), (Nat.le_of_ble_eq_true rfl)⟩) (fun _ _ _ h => h) hS hFc (fun q _ h => hFc q h) (fun E ce q9 u t H1 locs ht hvm hp hB hz hk hS hce hcv hcl => ?_)
  obtain ⟨hE, hB⟩ := hB
  subst hE
  obtain ⟨fs_1, f_2, h_x, h_oA, hP1, hK1, hD1⟩ := hB
  rw [ht] at hP1
  have hD := hD1.weaken (fun k q _ h => hFc q.1 h)
  have hP := hP1
  generalize H1 = H at hP hS hce ⊢
  have hP : va_P (dC, dI) CL [(x, .inr (12, fs_1)), (oA, .inl (oAC, (1, .inr (.inl f_2))))] H := hP
  have hD : va_D A [(x, .inr (12, fs_1)), (oA, .inl (oAC, (1, .inr (.inl f_2))))] := hD
  refine vx_catch (own := RL) (name := "java/lang/IndexOutOfBoundsException") hown [] { startPc := 0, endPc := 9, handlerPc := 12, catchType := 32 } [] (by rw [hT]; rfl) (fun _ h => nomatch h) (by decide) (by decide) (hts (.classLink RL 32 "java/lang/IndexOutOfBoundsException") wd_1804) (hth.cast (by decide)) hce hcv hcl ?_
  refine W.widen (k := 1) (n := 6) (Nat.le_of_ble_eq_true rfl) (Nat.le_of_ble_eq_true rfl) ?_
  refine lv_astore_n (lv' := [(3, .ref q9), (0, .ref x), (1, .int p0), (2, .ref oA)]) hx hb dL_witness_12 rfl hl (by decide) rfl (fun ls hl => ?_)
  refine lv_iconst (v := 1) hx hb dL_witness_13 (by decide +kernel) ?_
  refine W.widen (k := 1) (n := 6) (Nat.le_of_ble_eq_true rfl) (Nat.le_of_ble_eq_true rfl) ?_
  exact W.iret (v := 1) hx hb hr (fun t ht hW => ⟨⟨1, (), rfl, rfl, fs_1, f_2, h_x, h_oA, by rw [ht]; exact hP, va_K.moved hW.alike hK, hD⟩, hS.F ht⟩) hS.2.2 dL_witness_14
set_option maxHeartbeats 4000000 in
set_option maxRecDepth 100000 in
theorem gx27_X13_witness (l : Launch) (hlt : l.stackTraces = false) (dC : Nat → ClassId) (dI : Nat → Nat → Nat) (sz : Nat) (p0 : Int32) (m0 : Nat) (m0g : List Value) (h_m0 : fx m0g 225 [(0, .int 0), (2, .int 0), (3, .int 0), (9, .int 0), (10, .int 0), (11, .int 0), (12, .int 0), (27, .int 0), (79, .int 0), (83, .int 0), (95, .int 0)]) (zn : p0 < 0) : Met l yX13_witness (Cond.code yX13_witness cX13_witness 2 (some .int) :: BG) ({ frames := 1, cells := 0, slots := 0, locals := 12 }) (va_Pc [.ref m0, .int p0] (fun U => U.heap.size = sz ∧ va_P (dC, dI) CL [(m0, .inr (13, m0g))] U.heap ∧ va_K (dC, dI) CL [] U ∧ va_D (fun _ => True) [(m0, .inr (13, m0g))] ∧ th (va_A [(m0, .inr (13, m0g))] sz) U U.heap)) (va_Qi (fun (r : Int32) (_ : Unit) => r = 0) (fun _ t => ∃ (m0y : List Value), fx m0y 225 [(0, .int 1), (2, .int 0), (3, .int 0), (9, .int 0), (10, .int 0), (11, .int 0), (12, .int 0), (27, .int 0), (79, .int 0), (83, .int 0), (95, .int 0)] ∧ va_P (dC, dI) CL [(m0, .inr (13, m0y))] t.heap ∧ va_K (dC, dI) CL [] t ∧ va_D (va_A [(m0, .inr (13, m0g))] sz) [(m0, .inr (13, m0y))]) (va_A [(m0, .inr (13, m0g))] sz)) 0 0 (va_A [(m0, .inr (13, m0g))] sz) := by
  refine Met.ofW (cc := cX13_witness) (maxL := 2) (ret := (some .int)) (by decide) rfl ?_
  intro p e s m args below meth c s₁ B hml hv
  obtain ⟨rfl, hsz, hP, hK, hD0, hth⟩ := hv
  have hx := B.exec
  have hb := B.bytes
  have hr := B.returns
  have hts : ∀ w ∈ BG, w.before _ s = true := fun w h => atoms_spec (ws := Cond.code yX13_witness cX13_witness 2 (some .int) :: BG) B.pre w (List.mem_cons_of_mem _ h)
  have hown : s.vm.findClass RX13 = some m.cls := findClass_of_methodNamed B.named
  have hlocks := B.notSynchronized
  subst hsz
  have hD := hD0.self (sz := s.heap.size)
  generalize hAe : va_A [(m0, .inr (13, m0g))] s.heap.size = A at hD hth ⊢
  have hA : ∀ q : Nat, s.heap.size ≤ q → A q := fun q h => by rw [← hAe]; exact Or.inr h
  have hS : va_S A s.heap s.heap [] := va_S.rf
  have hl := lv_entry ([.ref m0, .int p0]) (n := 2) (Nat.le_of_ble_eq_true rfl)
  rw [lg_entry_eq]
  generalize (lg_sl ([.ref m0, .int p0]) ++ List.replicate (2 - (lg_sl ([.ref m0, .int p0])).length) Slot.unset).toArray = ls at hl ⊢
  have hl : lv_has ls 2 [(0, .ref m0), (1, .int p0)] := hl
  obtain ⟨H, eH⟩ : ∃ z, z = s.heap := ⟨_, rfl⟩
  have hP : va_P (dC, dI) CL [(m0, .inr (13, m0g))] H := by rw [eH]; exact hP
  have hS : va_S A s.heap H [] := by rw [eH]; exact hS
  rw [← eH]
  refine lv_aload_n hx hb dX13_witness_0 rfl (lv_at hl 0 rfl) ?_
  refine lv_iload_n hx hb dX13_witness_1 rfl (lv_at hl 1 rfl) ?_
  refine lv_if_lt (tgt := 13) hx hb dX13_witness_2 (by decide) (fun c9 => ?_) (fun c9 => ?_)
  rotate_left
  · first | exact absurd c9 zn | exact absurd zn c9
  refine lv_iconst (v := 1) hx hb dX13_witness_13 (by decide +kernel) ?_
  refine lv_goto (tgt := 18) hx hb dX13_witness_14 (by decide) ?_
  refine va_put (D := (dC, dI)) (ci := 13) (v := .int 1) (ty := tyX13 0) (C := RX13) (T := TX13) (N := 225) hx hb hts inX13 tyX13 tyX13_ok nmX13 hown hK hP hD hS 0 rfl rfl 0 (by decide) (hts (.fieldLink RX13 1 "ChipFlowModel" "code" "I") wd_3032) (fun _ h9 => h9) rfl (by decide +kernel) rfl rfl (by rw [h_m0.1]; decide) dX13_witness_18 (fun H locs hP hD hS => ?_)
  obtain ⟨fs_1, e9⟩ : ∃ z, z = m0g.set 0 (.int 1) := ⟨_, rfl⟩
  have h_m0 : fx fs_1 225 [(0, .int 1), (2, .int 0), (3, .int 0), (9, .int 0), (10, .int 0), (11, .int 0), (12, .int 0), (27, .int 0), (79, .int 0), (83, .int 0), (95, .int 0)] := by rw [e9]; exact (h_m0.put (F' := [(0, .int 1), (2, .int 0), (3, .int 0), (9, .int 0), (10, .int 0), (11, .int 0), (12, .int 0), (27, .int 0), (79, .int 0), (83, .int 0), (95, .int 0)]) (by decide) _ rfl).sub [0, 1, 2, 3, 4, 5, 6, 7, 8, 9, 10] rfl
  have hP : va_P (dC, dI) CL [(m0, .inr (13, fs_1))] H := by rw [e9]; exact hP
  have hD : va_D A [(m0, .inr (13, fs_1))] := by rw [e9]; exact hD
  clear e9
  refine lv_aload_n hx hb dX13_witness_21 rfl (lv_at hl 0 rfl) ?_
  refine va_get (D := (dC, dI)) (ci := 13) (v := .int 1) (C := RX13) (T := TX13) (N := 225) hx hb hts inX13 hown hK hP 0 rfl rfl 0 (by decide) (hts (.fieldLink RX13 1 "ChipFlowModel" "code" "I") wd_3032) (fun _ h9 => h9) (h_m0.get 0 rfl) dX13_witness_22 ?_
  refine lv_if_le (tgt := 32) hx hb dX13_witness_25 (by decide) (fun c9 => ?_) (fun c9 => ?_)
  · first | exact absurd c9 (by decide +kernel) | exact absurd (by decide +kernel) c9
  refine lv_iconst (v := 0) hx hb dX13_witness_28 (by decide +kernel) ?_
  refine lv_goto (tgt := 38) hx hb dX13_witness_29 (by decide) ?_
  exact W.iret (v := 0) hx hb hr (fun t ht hW => ⟨⟨0, (), rfl, rfl, fs_1, h_m0, by rw [ht]; exact hP, va_K.moved hW.alike hK, hD⟩, hS.F ht⟩) hS.2.2 dX13_witness_38
set_option maxHeartbeats 4000000 in
set_option maxRecDepth 100000 in
theorem gx29_X12_witness (l : Launch) (hlt : l.stackTraces = false) (dC : Nat → ClassId) (dI : Nat → Nat → Nat) (sz : Nat) (p0 : Int32) (x oA : Nat) (xg : List Value) (h_x : fx xg 17 [(16, .int 0)]) (oAC : ClassId) (oAf : Nat → Int64) (h_oA : fa oAf []) (zn : ¬ p0 < 0) (zp : 0 ≤ p0) : vx_Met l yX12_witness (Cond.code yX12_witness cX12_witness 2 (some .int) :: BG) ({ frames := 7, cells := 1, slots := 6, locals := 130 }) (va_Pc [.ref x, .int p0] (fun U => U.heap.size = sz ∧ va_P (dC, dI) CL [(x, .inr (12, xg)), (oA, .inl (oAC, (1, .inr (.inl oAf))))] U.heap ∧ va_K (dC, dI) CL [(oAC, .long)] U ∧ va_D (fun _ => True) [(x, .inr (12, xg)), (oA, .inl (oAC, (1, .inr (.inl oAf))))] ∧ th (va_A [(x, .inr (12, xg)), (oA, .inl (oAC, (1, .inr (.inl oAf))))] sz) U U.heap)) (fun _ _ _ _ => False) (vx_X (fun _ : Unit => True) (fun E _ t => E = "java/lang/IndexOutOfBoundsException" ∧ ∃ (xy : List Value) (oAy : Nat → Int64), fx xy 17 [(16, .int 0)] ∧ fa oAy [] ∧ va_P (dC, dI) CL [(x, .inr (12, xy)), (oA, .inl (oAC, (1, .inr (.inl oAy))))] t.heap ∧ va_K (dC, dI) CL [(oAC, .long)] t ∧ va_D (va_A [(x, .inr (12, xg)), (oA, .inl (oAC, (1, .inr (.inl oAf))))] sz) [(x, .inr (12, xy)), (oA, .inl (oAC, (1, .inr (.inl oAy))))]) (va_A [(x, .inr (12, xg)), (oA, .inl (oAC, (1, .inr (.inl oAf))))] sz)) 1 6 (va_A [(x, .inr (12, xg)), (oA, .inl (oAC, (1, .inr (.inl oAf))))] sz) := by
  refine vx_ofW (cc := cX12_witness) (maxL := 2) (ret := (some .int)) (by decide) rfl ?_
  intro p e s m args below meth c s₁ B hml ht0 hv
  obtain ⟨rfl, hsz, hP, hK, hD0, hth⟩ := hv
  have hx := B.exec
  have hb := B.bytes
  have hr := B.returns
  have hts : ∀ w ∈ BG, w.before _ s = true := fun w h => atoms_spec (ws := Cond.code yX12_witness cX12_witness 2 (some .int) :: BG) B.pre w (List.mem_cons_of_mem _ h)
  have hown : s.vm.findClass RX12 = some m.cls := findClass_of_methodNamed B.named
  have hlocks := B.notSynchronized
  subst hsz
  have hD := hD0.self (sz := s.heap.size)
  generalize hAe : va_A [(x, .inr (12, xg)), (oA, .inl (oAC, (1, .inr (.inl oAf))))] s.heap.size = A at hD hth ⊢
  have hA : ∀ q : Nat, s.heap.size ≤ q → A q := fun q h => by rw [← hAe]; exact Or.inr h
  have hS : va_S A s.heap s.heap [] := va_S.rf
  have hl := lv_entry ([.ref x, .int p0]) (n := 2) (Nat.le_of_ble_eq_true rfl)
  rw [lg_entry_eq]
  generalize (lg_sl ([.ref x, .int p0]) ++ List.replicate (2 - (lg_sl ([.ref x, .int p0])).length) Slot.unset).toArray = ls at hl ⊢
  have hl : lv_has ls 2 [(0, .ref x), (1, .int p0)] := hl
  obtain ⟨H, eH⟩ : ∃ z, z = s.heap := ⟨_, rfl⟩
  have hP : va_P (dC, dI) CL [(x, .inr (12, xg)), (oA, .inl (oAC, (1, .inr (.inl oAf))))] H := by rw [eH]; exact hP
  have hS : va_S A s.heap H [] := by rw [eH]; exact hS
  rw [← eH]
  refine lv_iload_n hx hb dX12_witness_0 rfl (lv_at hl 1 rfl) ?_
  refine lv_if_lt (tgt := 16) hx hb dX12_witness_1 (by decide) (fun c9 => ?_) (fun c9 => ?_)
  · first | exact absurd c9 zn | exact absurd zn c9
  refine lv_iload_n hx hb dX12_witness_4 rfl (lv_at hl 1 rfl) ?_
  refine lv_aload_n hx hb dX12_witness_5 rfl (lv_at hl 0 rfl) ?_
  refine va_get (D := (dC, dI)) (ci := 12) (v := .int 0) (C := RX12) (T := TX12) (N := 17) hx hb hts inX12 hown hK hP 0 rfl rfl 16 (by decide) (hts (.fieldLink RX12 233 "ChipFlow" "witnessSize" "I") wd_1194) (fun _ h9 => h9) (h_x.get 0 rfl) dX12_witness_6 ?_
  refine lv_icmp_ge (tgt := 16) hx hb dX12_witness_9 (by decide) (fun c9 => ?_) (fun c9 => ?_)
  rotate_left
  · first | exact absurd c9 zp | exact absurd zp c9
  refine lv_iconst (v := 0) hx hb dX12_witness_16 (by decide +kernel) ?_
  have hF0 : ∀ q, va_A [] H.size q → A q := fun q h => h.elim (fun ⟨k9, e9, h9⟩ => by simp at h9) (fun h9 => hA q (Nat.le_trans hS.1 h9))
  refine vx_callv (vx_runS (As := [.int 0]) (rest := []) ⟨hx, hb, hml, hown, hts⟩ (ct_X12_needThere l hlt H.size 0) (cwS 1 hts (gi_S wd_1813 wd_1814 wd_327 wd_1815) rfl rfl rfl (by decide +kernel) ⟨(Nat.le_of_ble_eq_true rfl), (Nat.le_of_ble_eq_true rfl)⟩) ⟨fun a U g mk q => ⟨q.1, q.2.1, th.moved (u := U) (U := U.calling g mk a) (Vm.Alike.refl U.vm) q.2.2⟩, fun U hU hW => ⟨rfl, by rw [hU], by rw [hU]; exact ((hth.kept hS.2.1).narrow hF0).moved hW.alike⟩⟩ rfl rfl hl.1 rfl (lv_room (Nat.le_of_ble_eq_true rfl)) dX12_witness_17 ⟨(Nat.le_of_ble_eq_true rfl), (Nat.le_of_ble_eq_true rfl)⟩) hS (fun q _ h => hF0 q h) hF0 (fun q _ h => hF0 q h) (fun E ce q9 u t H1 locs ht hvm hp hB hz hk hS hce hcv hcl => ?_) (fun u t H1 locs ht hvm hp hB hz hk hS => absurd rfl hp)
  subst hB
  have hP : va_P (dC, dI) CL [(x, .inr (12, xg)), (oA, .inl (oAC, (1, .inr (.inl oAf))))] H1 := hP.kept (fun k q h9 => hk _ (vx_lt hP h9) (fun h8 => h8.elim (fun ⟨k9, e9, h7⟩ => by simp at h7) (fun h7 => absurd (vx_lt hP h9) (Nat.not_lt.mpr h7))))
  generalize H1 = H at hP hS hce ⊢
  exact vx_out (fun x h9 => (ht0 x h9).elim) hlocks hce hcv hcl (fun t ht hvm9 => ⟨(), trivial, ⟨rfl, xg, oAf, h_x, h_oA, by rw [ht]; exact hP, va_K.moved hvm9 hK, hD⟩, hS.F ht⟩) hS.2.2 (Nat.le_of_ble_eq_true rfl) (Nat.le_of_ble_eq_true rfl)
