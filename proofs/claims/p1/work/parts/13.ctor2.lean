set_option maxHeartbeats 4000000 in
set_option maxRecDepth 100000 in
theorem ct_X0_init (l : Launch) (dC : Nat → ClassId) (dI : Nat → Nat → Nat) (h0 sz : Nat) (fs : List Value) (hf : fx fs 19 []) : Met l yX0_init (Cond.code yX0_init cX0_init 1 none :: BG) ({ frames := 2, cells := 20, slots := 29170, locals := 32 }) (va_Pc [.ref h0] (fun U => U.heap.size = sz ∧ va_P (dC, dI) CL [(h0, .inr (0, fs))] U.heap ∧ va_K (dC, dI) CL [] U ∧ va_D (fun _ => True) [(h0, .inr (0, fs))] ∧ ne U)) (va_Qv (fun _ : Unit => True) (fun _ t => ∃ (fs_18 : List Value), fx fs_18 19 [] ∧ va_P (dC, dI) CL [(h0, .inr (0, fs_18))] t.heap ∧ va_K (dC, dI) CL [] t ∧ va_D (va_A [(h0, .inr (0, fs))] sz) [(h0, .inr (0, fs_18))]) (va_A [(h0, .inr (0, fs))] sz)) 20 29170 (va_A [(h0, .inr (0, fs))] sz) := by
  refine Met.ofW (cc := cX0_init) (maxL := 1) (ret := none) (by decide) rfl ?_
  intro p e s m args below meth c s₁ B hml hv
  obtain ⟨rfl, hsz, hP, hK, hD0, hNE⟩ := hv
  have hx := B.exec
  have hb := B.bytes
  have hr := B.returns
  have hts : ∀ w ∈ BG, w.before _ s = true := fun w h => atoms_spec (ws := Cond.code yX0_init cX0_init 1 none :: BG) B.pre w (List.mem_cons_of_mem _ h)
  have hown : s.vm.findClass RX0 = some m.cls := findClass_of_methodNamed B.named
  have hlocks := B.notSynchronized
  have hin : meth.name = "<init>" := (name_of_methodNamed B.named B.method).1
  subst hsz
  have hD := hD0.self (sz := s.heap.size)
  generalize hAe : va_A [(h0, .inr (0, fs))] s.heap.size = A at hD ⊢
  have hA : ∀ q : Nat, s.heap.size ≤ q → A q := fun q h => by rw [← hAe]; exact Or.inr h
  have hS : va_S A s.heap s.heap [] := va_S.rf
  have hl := lv_entry ([.ref h0]) (n := 1) (Nat.le_of_ble_eq_true rfl)
  rw [lg_entry_eq]
  generalize (lg_sl ([.ref h0]) ++ List.replicate (1 - (lg_sl ([.ref h0])).length) Slot.unset).toArray = ls at hl ⊢
  have hl : lv_has ls 1 [(0, .ref h0)] := hl
  obtain ⟨hN_X12_9, hN_X12_36, hN_X12_43, hN_X12_50, hN_X12_57, hN_X12_68, hN_X12_75, hN_X12_82, hN_X2_19, hN_X2_47, hN_X0_51, hAO_X3, hAO_X5, hAO_X2⟩ := id hNE
  refine lv_aload_n hx hb dX0_init_0 rfl (lv_at hl 0 rfl) ?_
  refine W.objInit hx hb hown (hts (.methodLink RX0 9 objectInit) wd_909) (hts (.instanceMethod objectInit) wd_368) (hts (.code objectInit ⟨#[0xb1]⟩ 1 none) wd_obj) rfl (by rw [hml]; exact hl.1) rfl dX0_init_1 (Nat.le_of_ble_eq_true rfl) (Nat.le_of_ble_eq_true rfl) ?_
  refine W.eq (g2 := F0 m 4 ls []) rfl ?_
  refine lv_aload_n hx hb dX0_init_4 rfl (lv_at hl 0 rfl) ?_
  refine lv_sipush (v := 156) hx hb dX0_init_5 (by decide +kernel) ?_
  refine po_nax (D := (dC, dI)) (own := RX0) (index := 15) (atype := .int) (N' := 156) (n := 156) (T := TX0) (k1 := 1) (n1 := 156) (a0 := (156, .inl (fun _ => 0))) (ty := .int) hx hb hts inX0 tyX0 tyX0_ok nmX0 hown hK hP hD hS hA rfl hf hin (hts (.arrayClass .int) wd_483) rfl (po_ai 156 .int rfl) (by decide +kernel) (by decide +kernel) (Nat.le_of_ble_eq_true rfl) (Nat.le_of_ble_eq_true rfl) (Nat.le_of_ble_eq_true rfl) dX0_init_8 3 (by decide) (hts (.fieldLink RX0 15 "ChipFlow$Board" "siteOf" "[I") wd_990) rfl rfl (by decide +kernel) dX0_init_10 (Nat.le_of_ble_eq_true rfl) (Nat.le_of_ble_eq_true rfl) rfl (fun fs_1 H locs hf hP hD hS => ?_)
  refine lv_aload_n hx hb dX0_init_13 rfl (lv_at hl 0 rfl) ?_
  refine lv_sipush (v := 156) hx hb dX0_init_14 (by decide +kernel) ?_
  refine po_nax (D := (dC, dI)) (own := RX0) (index := 19) (atype := .int) (N' := 156) (n := 156) (T := TX0) (k1 := 2) (n1 := 312) (a0 := (156, .inl (fun _ => 0))) (ty := .int) hx hb hts inX0 tyX0 tyX0_ok nmX0 hown hK hP hD hS hA rfl hf hin (hts (.arrayClass .int) wd_483) rfl (po_ai 156 .int rfl) (by decide +kernel) (by decide +kernel) (Nat.le_of_ble_eq_true rfl) (Nat.le_of_ble_eq_true rfl) (Nat.le_of_ble_eq_true rfl) dX0_init_17 4 (by decide) (hts (.fieldLink RX0 19 "ChipFlow$Board" "rowOf" "[I") wd_992) rfl rfl (by decide +kernel) dX0_init_19 (Nat.le_of_ble_eq_true rfl) (Nat.le_of_ble_eq_true rfl) rfl (fun fs_2 H locs hf hP hD hS => ?_)
  refine lv_aload_n hx hb dX0_init_22 rfl (lv_at hl 0 rfl) ?_
  refine lv_sipush (v := 156) hx hb dX0_init_23 (by decide +kernel) ?_
  refine po_nax (D := (dC, dI)) (own := RX0) (index := 22) (atype := .int) (N' := 156) (n := 156) (T := TX0) (k1 := 3) (n1 := 468) (a0 := (156, .inl (fun _ => 0))) (ty := .int) hx hb hts inX0 tyX0 tyX0_ok nmX0 hown hK hP hD hS hA rfl hf hin (hts (.arrayClass .int) wd_483) rfl (po_ai 156 .int rfl) (by decide +kernel) (by decide +kernel) (Nat.le_of_ble_eq_true rfl) (Nat.le_of_ble_eq_true rfl) (Nat.le_of_ble_eq_true rfl) dX0_init_26 5 (by decide) (hts (.fieldLink RX0 22 "ChipFlow$Board" "sizeOf" "[I") wd_994) rfl rfl (by decide +kernel) dX0_init_28 (Nat.le_of_ble_eq_true rfl) (Nat.le_of_ble_eq_true rfl) rfl (fun fs_3 H locs hf hP hD hS => ?_)
  refine lv_aload_n hx hb dX0_init_31 rfl (lv_at hl 0 rfl) ?_
  refine lv_sipush (v := 652) hx hb dX0_init_32 (by decide +kernel) ?_
  refine po_nax (D := (dC, dI)) (own := RX0) (index := 25) (atype := .int) (N' := 652) (n := 652) (T := TX0) (k1 := 4) (n1 := 1120) (a0 := (652, .inl (fun _ => 0))) (ty := .int) hx hb hts inX0 tyX0 tyX0_ok nmX0 hown hK hP hD hS hA rfl hf hin (hts (.arrayClass .int) wd_483) rfl (po_ai 652 .int rfl) (by decide +kernel) (by decide +kernel) (Nat.le_of_ble_eq_true rfl) (Nat.le_of_ble_eq_true rfl) (Nat.le_of_ble_eq_true rfl) dX0_init_35 6 (by decide) (hts (.fieldLink RX0 25 "ChipFlow$Board" "pinNet" "[I") wd_995) rfl rfl (by decide +kernel) dX0_init_37 (Nat.le_of_ble_eq_true rfl) (Nat.le_of_ble_eq_true rfl) rfl (fun fs_4 H locs hf hP hD hS => ?_)
  refine lv_aload_n hx hb dX0_init_40 rfl (lv_at hl 0 rfl) ?_
  refine lv_sipush (v := 652) hx hb dX0_init_41 (by decide +kernel) ?_
  refine po_nax (D := (dC, dI)) (own := RX0) (index := 28) (atype := .int) (N' := 652) (n := 652) (T := TX0) (k1 := 5) (n1 := 1772) (a0 := (652, .inl (fun _ => 0))) (ty := .int) hx hb hts inX0 tyX0 tyX0_ok nmX0 hown hK hP hD hS hA rfl hf hin (hts (.arrayClass .int) wd_483) rfl (po_ai 652 .int rfl) (by decide +kernel) (by decide +kernel) (Nat.le_of_ble_eq_true rfl) (Nat.le_of_ble_eq_true rfl) (Nat.le_of_ble_eq_true rfl) dX0_init_44 7 (by decide) (hts (.fieldLink RX0 28 "ChipFlow$Board" "pinsByNet" "[I") wd_997) rfl rfl (by decide +kernel) dX0_init_46 (Nat.le_of_ble_eq_true rfl) (Nat.le_of_ble_eq_true rfl) rfl (fun fs_5 H locs hf hP hD hS => ?_)
  refine lv_aload_n hx hb dX0_init_49 rfl (lv_at hl 0 rfl) ?_
  refine lv_sipush (v := 162) hx hb dX0_init_50 (by decide +kernel) ?_
  refine po_nax (D := (dC, dI)) (own := RX0) (index := 31) (atype := .int) (N' := 162) (n := 162) (T := TX0) (k1 := 6) (n1 := 1934) (a0 := (162, .inl (fun _ => 0))) (ty := .int) hx hb hts inX0 tyX0 tyX0_ok nmX0 hown hK hP hD hS hA rfl hf hin (hts (.arrayClass .int) wd_483) rfl (po_ai 162 .int rfl) (by decide +kernel) (by decide +kernel) (Nat.le_of_ble_eq_true rfl) (Nat.le_of_ble_eq_true rfl) (Nat.le_of_ble_eq_true rfl) dX0_init_53 8 (by decide) (hts (.fieldLink RX0 31 "ChipFlow$Board" "firstPin" "[I") wd_998) rfl rfl (by decide +kernel) dX0_init_55 (Nat.le_of_ble_eq_true rfl) (Nat.le_of_ble_eq_true rfl) rfl (fun fs_6 H locs hf hP hD hS => ?_)
  refine lv_aload_n hx hb dX0_init_58 rfl (lv_at hl 0 rfl) ?_
  refine lv_sipush (v := 162) hx hb dX0_init_59 (by decide +kernel) ?_
  refine po_nax (D := (dC, dI)) (own := RX0) (index := 34) (atype := .int) (N' := 162) (n := 162) (T := TX0) (k1 := 7) (n1 := 2096) (a0 := (162, .inl (fun _ => 0))) (ty := .int) hx hb hts inX0 tyX0 tyX0_ok nmX0 hown hK hP hD hS hA rfl hf hin (hts (.arrayClass .int) wd_483) rfl (po_ai 162 .int rfl) (by decide +kernel) (by decide +kernel) (Nat.le_of_ble_eq_true rfl) (Nat.le_of_ble_eq_true rfl) (Nat.le_of_ble_eq_true rfl) dX0_init_62 9 (by decide) (hts (.fieldLink RX0 34 "ChipFlow$Board" "netPins" "[I") wd_999) rfl rfl (by decide +kernel) dX0_init_64 (Nat.le_of_ble_eq_true rfl) (Nat.le_of_ble_eq_true rfl) rfl (fun fs_7 H locs hf hP hD hS => ?_)
  refine lv_aload_n hx hb dX0_init_67 rfl (lv_at hl 0 rfl) ?_
  refine lv_sipush (v := 162) hx hb dX0_init_68 (by decide +kernel) ?_
  refine po_nax (D := (dC, dI)) (own := RX0) (index := 37) (atype := .int) (N' := 162) (n := 162) (T := TX0) (k1 := 8) (n1 := 2258) (a0 := (162, .inl (fun _ => 0))) (ty := .int) hx hb hts inX0 tyX0 tyX0_ok nmX0 hown hK hP hD hS hA rfl hf hin (hts (.arrayClass .int) wd_483) rfl (po_ai 162 .int rfl) (by decide +kernel) (by decide +kernel) (Nat.le_of_ble_eq_true rfl) (Nat.le_of_ble_eq_true rfl) (Nat.le_of_ble_eq_true rfl) dX0_init_71 10 (by decide) (hts (.fieldLink RX0 37 "ChipFlow$Board" "netWire" "[I") wd_1004) rfl rfl (by decide +kernel) dX0_init_73 (Nat.le_of_ble_eq_true rfl) (Nat.le_of_ble_eq_true rfl) rfl (fun fs_8 H locs hf hP hD hS => ?_)
  refine lv_aload_n hx hb dX0_init_76 rfl (lv_at hl 0 rfl) ?_
  refine lv_sipush (v := 4712) hx hb dX0_init_77 (by decide +kernel) ?_
  refine po_nax (D := (dC, dI)) (own := RX0) (index := 40) (atype := .int) (N' := 4712) (n := 4712) (T := TX0) (k1 := 9) (n1 := 6970) (a0 := (4712, .inl (fun _ => 0))) (ty := .int) hx hb hts inX0 tyX0 tyX0_ok nmX0 hown hK hP hD hS hA rfl hf hin (hts (.arrayClass .int) wd_483) rfl (po_ai 4712 .int rfl) (by decide +kernel) (by decide +kernel) (Nat.le_of_ble_eq_true rfl) (Nat.le_of_ble_eq_true rfl) (Nat.le_of_ble_eq_true rfl) dX0_init_80 12 (by decide) (hts (.fieldLink RX0 40 "ChipFlow$Board" "owner" "[I") wd_1011) rfl rfl (by decide +kernel) dX0_init_82 (Nat.le_of_ble_eq_true rfl) (Nat.le_of_ble_eq_true rfl) rfl (fun fs_9 H locs hf hP hD hS => ?_)
  refine lv_aload_n hx hb dX0_init_85 rfl (lv_at hl 0 rfl) ?_
  refine lv_sipush (v := 4712) hx hb dX0_init_86 (by decide +kernel) ?_
  refine po_nax (D := (dC, dI)) (own := RX0) (index := 43) (atype := .int) (N' := 4712) (n := 4712) (T := TX0) (k1 := 10) (n1 := 11682) (a0 := (4712, .inl (fun _ => 0))) (ty := .int) hx hb hts inX0 tyX0 tyX0_ok nmX0 hown hK hP hD hS hA rfl hf hin (hts (.arrayClass .int) wd_483) rfl (po_ai 4712 .int rfl) (by decide +kernel) (by decide +kernel) (Nat.le_of_ble_eq_true rfl) (Nat.le_of_ble_eq_true rfl) (Nat.le_of_ble_eq_true rfl) dX0_init_89 13 (by decide) (hts (.fieldLink RX0 43 "ChipFlow$Board" "steps" "[I") wd_1015) rfl rfl (by decide +kernel) dX0_init_91 (Nat.le_of_ble_eq_true rfl) (Nat.le_of_ble_eq_true rfl) rfl (fun fs_10 H locs hf hP hD hS => ?_)
  refine lv_aload_n hx hb dX0_init_94 rfl (lv_at hl 0 rfl) ?_
  refine lv_sipush (v := 162) hx hb dX0_init_95 (by decide +kernel) ?_
  refine po_nax (D := (dC, dI)) (own := RX0) (index := 46) (atype := .int) (N' := 162) (n := 162) (T := TX0) (k1 := 11) (n1 := 11844) (a0 := (162, .inl (fun _ => 0))) (ty := .int) hx hb hts inX0 tyX0 tyX0_ok nmX0 hown hK hP hD hS hA rfl hf hin (hts (.arrayClass .int) wd_483) rfl (po_ai 162 .int rfl) (by decide +kernel) (by decide +kernel) (Nat.le_of_ble_eq_true rfl) (Nat.le_of_ble_eq_true rfl) (Nat.le_of_ble_eq_true rfl) dX0_init_98 14 (by decide) (hts (.fieldLink RX0 46 "ChipFlow$Board" "open" "[I") wd_1018) rfl rfl (by decide +kernel) dX0_init_100 (Nat.le_of_ble_eq_true rfl) (Nat.le_of_ble_eq_true rfl) rfl (fun fs_11 H locs hf hP hD hS => ?_)
  refine lv_aload_n hx hb dX0_init_103 rfl (lv_at hl 0 rfl) ?_
  refine va_new (ci := 4) (fs := ((List.range 18).map fun j => defaultValue (tyX4 j))) (C := RX4) (T := TX4) (N := 18) hx hb hts inX4 tyX4 tyX4_ok hown (hts (.classLink RX0 49 RX4) wd_910) (hts (.instantiable RX4 18) wd_911) (hts (.initialized RX4) wd_339) hK hP hD hS hA rfl (fx.dflt 18 tyX4) (Nat.le_of_ble_eq_true rfl) (Nat.le_of_ble_eq_true rfl) dX0_init_104 (fun q_12 H hP hD hS => ?_)
  have hf_13 : fx ((List.range 18).map fun j => defaultValue (tyX4 j)) 18 [(0, .int 0), (1, .int 0), (3, .int 0), (4, .int 0), (5, .int 0), (6, .int 0), (7, .int 0), (8, .int 0), (9, .int 0), (10, .int 0), (11, .int 0)] := fx.of (List.forall_mem_cons.mpr ⟨⟨by decide, rfl⟩, List.forall_mem_cons.mpr ⟨⟨by decide, rfl⟩, List.forall_mem_cons.mpr ⟨⟨by decide, rfl⟩, List.forall_mem_cons.mpr ⟨⟨by decide, rfl⟩, List.forall_mem_cons.mpr ⟨⟨by decide, rfl⟩, List.forall_mem_cons.mpr ⟨⟨by decide, rfl⟩, List.forall_mem_cons.mpr ⟨⟨by decide, rfl⟩, List.forall_mem_cons.mpr ⟨⟨by decide, rfl⟩, List.forall_mem_cons.mpr ⟨⟨by decide, rfl⟩, List.forall_mem_cons.mpr ⟨⟨by decide, rfl⟩, List.forall_mem_cons.mpr ⟨⟨by decide, rfl⟩, fun _ h => nomatch h⟩⟩⟩⟩⟩⟩⟩⟩⟩⟩⟩)
  obtain ⟨fs_14, e9⟩ : ∃ z, z = ((List.range 18).map fun j => defaultValue (tyX4 j)) := ⟨_, rfl⟩
  rw [← e9] at hf_13 hP hD
  clear e9
  have hP : va_P (dC, dI) CL [(h0, .inr (0, fs_11)), (q_12, .inr (4, fs_14))] H := hP
  have hD : va_D A [(h0, .inr (0, fs_11)), (q_12, .inr (4, fs_14))] := hD
  refine W.widen (k := 12) (n := 11862) (Nat.le_of_ble_eq_true rfl) (Nat.le_of_ble_eq_true rfl) ?_
  refine lv_dup hx hb dX0_init_107 rfl ?_
  have hPc := hP.sub (ws' := [(q_12, .inr (4, fs_14))]) [1] rfl
  have hDc := hD.sub (ws' := [(q_12, .inr (4, fs_14))]) [1] (by decide) rfl
  have hKc := hK.sub (tys' := []) [] rfl
  have hFc := va_free (wc := [(q_12, .inr (4, fs_14))]) hD hS hA [1] rfl
  refine va_callv (va_runIN (As := []) (rest := [.ref q_12, .ref h0]) ⟨hx, hb, hml, hown, hts⟩ (ct_X4_init l dC dI q_12 H.size fs_14 (hf_13.sub [] rfl)) ⟨va_cnB 0 hts (bg_gi wd_914) rfl rfl rfl hN_X0_51 (hts (.initialized RX4) wd_339) (by decide +kernel) ⟨(Nat.le_of_ble_eq_true rfl), (Nat.le_of_ble_eq_true rfl)⟩, rfl, hts (.instanceMethod yX4_init) wd_913⟩ ⟨fun a U g mk q => by obtain ⟨q0, q1, qP, qK, qD⟩ := q; exact ⟨q0, q1, qP, va_K.moved (u := U) (U := U.calling g mk a) (Vm.Alike.refl U.vm) qK, qD⟩, fun U hU hW => ⟨rfl, by rw [hU], by rw [hU]; exact hPc, va_K.moved hW.alike hKc, hDc.weaken (fun _ _ _ _ => trivial)⟩⟩ rfl rfl hl.1 rfl (lv_room (Nat.le_of_ble_eq_true rfl)) dX0_init_108 ⟨(Nat.le_of_ble_eq_true rfl), (Nat.le_of_ble_eq_true rfl)⟩) hS (fun q _ h => hFc q h) hFc (fun u t H1 locs ht hvm hw hB hz1 hk1 hS => ?_)
  obtain ⟨fs_15, hf_16, hP1, hK1, hD1⟩ := hB
  rw [ht] at hP1
  have hK1 := va_K.moved hvm.symm hK1
  obtain ⟨hP, hD⟩ := va_join (wr := [(h0, .inr (0, fs_11))]) (w1 := [(q_12, .inr (4, fs_15))]) hP hD [1] [0] rfl rfl (by decide) (by decide) hk1 hFc hP1 hD1
  have hK := (hK.sub (tys' := []) [] rfl).app hK1
  generalize H1 = H at hP hS ⊢
  have hP : va_P (dC, dI) CL [(h0, .inr (0, fs_11)), (q_12, .inr (4, fs_15))] H := hP
  have hD : va_D A [(h0, .inr (0, fs_11)), (q_12, .inr (4, fs_15))] := hD
  have hK : va_K (dC, dI) CL [] s := hK
  refine W.widen (k := 19) (n := 29162) (Nat.le_of_ble_eq_true rfl) (Nat.le_of_ble_eq_true rfl) ?_
  refine va_putF (D := (dC, dI)) (ci := 0) (v := .ref q_12) (ty := tyX0 15) (C := RX0) (T := TX0) (N := 19) hx hb hts inX0 tyX0 tyX0_ok nmX0 hown hK hP hD hS 0 rfl rfl 15 (by decide) (hts (.fieldLink RX0 52 "ChipFlow$Board" "layout" "LChipFlow$Layout;") wd_1021) (fun _ h9 => h9) rfl hin rfl (by decide +kernel) rfl rfl (by rw [hf.1]; decide) dX0_init_111 (fun H locs hP hD hS => ?_)
  have hf : fx (fs_11.set 15 (.ref q_12)) 19 [(15, .ref q_12)] := hf.put (by decide) _ rfl
  obtain ⟨fs_17, e9⟩ : ∃ z, z = fs_11.set 15 (.ref q_12) := ⟨_, rfl⟩
  rw [← e9] at hf
  have hP : va_P (dC, dI) CL [(h0, .inr (0, fs_17)), (q_12, .inr (4, fs_15))] H := by rw [e9]; exact hP
  have hD : va_D A [(h0, .inr (0, fs_17)), (q_12, .inr (4, fs_15))] := by rw [e9]; exact hD
  clear e9
  have hP := hP.sub (ws' := [(h0, .inr (0, fs_17))]) [0] rfl
  have hD := hD.sub (ws' := [(h0, .inr (0, fs_17))]) [0] (by decide) rfl
  refine lv_aload_n hx hb dX0_init_114 rfl (lv_at hl 0 rfl) ?_
  refine lv_bipush (v := 8) hx hb dX0_init_115 (by decide +kernel) ?_
  refine po_nax (D := (dC, dI)) (own := RX0) (index := 56) (atype := .int) (N' := 8) (n := 8) (T := TX0) (k1 := 20) (n1 := 29170) (a0 := (8, .inl (fun _ => 0))) (ty := .int) hx hb hts inX0 tyX0 tyX0_ok nmX0 hown hK hP hD hS hA rfl hf hin (hts (.arrayClass .int) wd_483) rfl (po_ai 8 .int rfl) (by decide +kernel) (by decide +kernel) (Nat.le_of_ble_eq_true rfl) (Nat.le_of_ble_eq_true rfl) (Nat.le_of_ble_eq_true rfl) dX0_init_117 17 (by decide) (hts (.fieldLink RX0 56 "ChipFlow$Board" "touchedNets" "[I") wd_1026) rfl rfl (by decide +kernel) dX0_init_119 (Nat.le_of_ble_eq_true rfl) (Nat.le_of_ble_eq_true rfl) rfl (fun fs_18 H locs hf hP hD hS => ?_)
  have hf := hf.sub (F' := []) [] rfl
  have hK := hK.sub (tys' := []) [] rfl
  exact W.vret hx hb hr (fun t ht hW => ⟨⟨(), rfl, trivial, fs_18, hf, by rw [ht]; exact hP, va_K.moved hW.alike hK, hD⟩, hS.F ht⟩) hS.2.2 dX0_init_122

set_option maxHeartbeats 4000000 in
set_option maxRecDepth 100000 in
theorem ct_X2_init (l : Launch) (dC : Nat → ClassId) (dI : Nat → Nat → Nat) (h0 sz : Nat) (fs : List Value) (hf : fx fs 20 [(0, .int 0)]) : Met l yX2_init (Cond.code yX2_init cX2_init 1 none :: BG) ({ frames := 3, cells := 34, slots := 36422, locals := 52 }) (va_Pc [.ref h0] (fun U => U.heap.size = sz ∧ va_P (dC, dI) CL [(h0, .inr (2, fs))] U.heap ∧ va_K (dC, dI) CL [] U ∧ va_D (fun _ => True) [(h0, .inr (2, fs))] ∧ ne U)) (va_Qv (fun _ : Unit => True) (fun _ t => ∃ (fs_20 : List Value), fx fs_20 20 [(0, .int 0)] ∧ va_P (dC, dI) CL [(h0, .inr (2, fs_20))] t.heap ∧ va_K (dC, dI) CL [] t ∧ va_D (va_A [(h0, .inr (2, fs))] sz) [(h0, .inr (2, fs_20))]) (va_A [(h0, .inr (2, fs))] sz)) 34 36422 (va_A [(h0, .inr (2, fs))] sz) := by
  refine Met.ofW (cc := cX2_init) (maxL := 1) (ret := none) (by decide) rfl ?_
  intro p e s m args below meth c s₁ B hml hv
  obtain ⟨rfl, hsz, hP, hK, hD0, hNE⟩ := hv
  have hx := B.exec
  have hb := B.bytes
  have hr := B.returns
  have hts : ∀ w ∈ BG, w.before _ s = true := fun w h => atoms_spec (ws := Cond.code yX2_init cX2_init 1 none :: BG) B.pre w (List.mem_cons_of_mem _ h)
  have hown : s.vm.findClass RX2 = some m.cls := findClass_of_methodNamed B.named
  have hlocks := B.notSynchronized
  have hin : meth.name = "<init>" := (name_of_methodNamed B.named B.method).1
  subst hsz
  have hD := hD0.self (sz := s.heap.size)
  generalize hAe : va_A [(h0, .inr (2, fs))] s.heap.size = A at hD ⊢
  have hA : ∀ q : Nat, s.heap.size ≤ q → A q := fun q h => by rw [← hAe]; exact Or.inr h
  have hS : va_S A s.heap s.heap [] := va_S.rf
  have hl := lv_entry ([.ref h0]) (n := 1) (Nat.le_of_ble_eq_true rfl)
  rw [lg_entry_eq]
  generalize (lg_sl ([.ref h0]) ++ List.replicate (1 - (lg_sl ([.ref h0])).length) Slot.unset).toArray = ls at hl ⊢
  have hl : lv_has ls 1 [(0, .ref h0)] := hl
  obtain ⟨hN_X12_9, hN_X12_36, hN_X12_43, hN_X12_50, hN_X12_57, hN_X12_68, hN_X12_75, hN_X12_82, hN_X2_19, hN_X2_47, hN_X0_51, hAO_X3, hAO_X5, hAO_X2⟩ := id hNE
  refine lv_aload_n hx hb dX2_init_0 rfl (lv_at hl 0 rfl) ?_
  refine W.objInit hx hb hown (hts (.methodLink RX2 7 objectInit) wd_901) (hts (.instanceMethod objectInit) wd_368) (hts (.code objectInit ⟨#[0xb1]⟩ 1 none) wd_obj) rfl (by rw [hml]; exact hl.1) rfl dX2_init_1 (Nat.le_of_ble_eq_true rfl) (Nat.le_of_ble_eq_true rfl) ?_
  refine W.eq (g2 := F0 m 4 ls []) rfl ?_
  refine lv_aload_n hx hb dX2_init_4 rfl (lv_at hl 0 rfl) ?_
  refine lv_sipush (v := 4096) hx hb dX2_init_5 (by decide +kernel) ?_
  refine po_nax (D := (dC, dI)) (own := RX2) (index := 13) (atype := .int) (N' := 4096) (n := 4096) (T := TX2) (k1 := 1) (n1 := 4096) (a0 := (4096, .inl (fun _ => 0))) (ty := .int) hx hb hts inX2 tyX2 tyX2_ok nmX2 hown hK hP hD hS hA rfl hf hin (hts (.arrayClass .int) wd_483) rfl (po_ai 4096 .int rfl) (by decide +kernel) (by decide +kernel) (Nat.le_of_ble_eq_true rfl) (Nat.le_of_ble_eq_true rfl) (Nat.le_of_ble_eq_true rfl) dX2_init_8 6 (by decide) (hts (.fieldLink RX2 13 "ChipFlow$Chip" "table" "[I") wd_1084) rfl rfl (by decide +kernel) dX2_init_10 (Nat.le_of_ble_eq_true rfl) (Nat.le_of_ble_eq_true rfl) rfl (fun fs_1 H locs hf hP hD hS => ?_)
  refine lv_aload_n hx hb dX2_init_13 rfl (lv_at hl 0 rfl) ?_
  refine va_new (ci := 5) (fs := ((List.range 7).map fun j => defaultValue (tyX5 j))) (C := RX5) (T := TX5) (N := 7) hx hb hts inX5 tyX5 tyX5_ok hown (hts (.classLink RX2 17 RX5) wd_902) (hts (.instantiable RX5 7) wd_850) (hts (.initialized RX5) wd_336) hK hP hD hS hA rfl (fx.dflt 7 tyX5) (Nat.le_of_ble_eq_true rfl) (Nat.le_of_ble_eq_true rfl) dX2_init_14 (fun q_2 H hP hD hS => ?_)
  have hf_3 : fx ((List.range 7).map fun j => defaultValue (tyX5 j)) 7 [(0, .int 0), (1, .int 0), (2, .int 0)] := fx.of (List.forall_mem_cons.mpr ⟨⟨by decide, rfl⟩, List.forall_mem_cons.mpr ⟨⟨by decide, rfl⟩, List.forall_mem_cons.mpr ⟨⟨by decide, rfl⟩, fun _ h => nomatch h⟩⟩⟩)
  obtain ⟨fs_4, e9⟩ : ∃ z, z = ((List.range 7).map fun j => defaultValue (tyX5 j)) := ⟨_, rfl⟩
  rw [← e9] at hf_3 hP hD
  clear e9
  have hP : va_P (dC, dI) CL [(h0, .inr (2, fs_1)), (q_2, .inr (5, fs_4))] H := hP
  have hD : va_D A [(h0, .inr (2, fs_1)), (q_2, .inr (5, fs_4))] := hD
  refine W.widen (k := 2) (n := 4103) (Nat.le_of_ble_eq_true rfl) (Nat.le_of_ble_eq_true rfl) ?_
  refine lv_dup hx hb dX2_init_17 rfl ?_
  have hPc := hP.sub (ws' := [(q_2, .inr (5, fs_4))]) [1] rfl
  have hDc := hD.sub (ws' := [(q_2, .inr (5, fs_4))]) [1] (by decide) rfl
  have hKc := hK.sub (tys' := []) [] rfl
  have hFc := va_free (wc := [(q_2, .inr (5, fs_4))]) hD hS hA [1] rfl
  refine va_callv (va_runIN (As := []) (rest := [.ref q_2, .ref h0]) ⟨hx, hb, hml, hown, hts⟩ (ct_X5_init l dC dI q_2 H.size fs_4 (hf_3.sub [0] rfl)) ⟨va_cnB 0 hts (bg_gi wd_853) rfl rfl rfl hN_X2_19 (hts (.initialized RX5) wd_336) (by decide +kernel) ⟨(Nat.le_of_ble_eq_true rfl), (Nat.le_of_ble_eq_true rfl)⟩, rfl, hts (.instanceMethod yX5_init) wd_852⟩ ⟨fun a U g mk q => by obtain ⟨q0, q1, qP, qK, qD⟩ := q; exact ⟨q0, q1, qP, va_K.moved (u := U) (U := U.calling g mk a) (Vm.Alike.refl U.vm) qK, qD⟩, fun U hU hW => ⟨rfl, by rw [hU], by rw [hU]; exact hPc, va_K.moved hW.alike hKc, hDc.weaken (fun _ _ _ _ => trivial)⟩⟩ rfl rfl hl.1 rfl (lv_room (Nat.le_of_ble_eq_true rfl)) dX2_init_18 ⟨(Nat.le_of_ble_eq_true rfl), (Nat.le_of_ble_eq_true rfl)⟩) hS (fun q _ h => hFc q h) hFc (fun u t H1 locs ht hvm hw hB hz1 hk1 hS => ?_)
  obtain ⟨fs_5, hf_6, hP1, hK1, hD1⟩ := hB
  rw [ht] at hP1
  have hK1 := va_K.moved hvm.symm hK1
  obtain ⟨hP, hD⟩ := va_join (wr := [(h0, .inr (2, fs_1))]) (w1 := [(q_2, .inr (5, fs_5))]) hP hD [1] [0] rfl rfl (by decide) (by decide) hk1 hFc hP1 hD1
  have hK := (hK.sub (tys' := []) [] rfl).app hK1
  generalize H1 = H at hP hS ⊢
  have hP : va_P (dC, dI) CL [(h0, .inr (2, fs_1)), (q_2, .inr (5, fs_5))] H := hP
  have hD : va_D A [(h0, .inr (2, fs_1)), (q_2, .inr (5, fs_5))] := hD
  have hK : va_K (dC, dI) CL [] s := hK
  refine W.widen (k := 6) (n := 4151) (Nat.le_of_ble_eq_true rfl) (Nat.le_of_ble_eq_true rfl) ?_
  refine va_putF (D := (dC, dI)) (ci := 2) (v := .ref q_2) (ty := tyX2 7) (C := RX2) (T := TX2) (N := 20) hx hb hts inX2 tyX2 tyX2_ok nmX2 hown hK hP hD hS 0 rfl rfl 7 (by decide) (hts (.fieldLink RX2 20 "ChipFlow$Chip" "cells" "LChipFlow$Library;") wd_1087) (fun _ h9 => h9) rfl hin rfl (by decide +kernel) rfl rfl (by rw [hf.1]; decide) dX2_init_21 (fun H locs hP hD hS => ?_)
  have hf : fx (fs_1.set 7 (.ref q_2)) 20 [(7, .ref q_2), (0, .int 0)] := hf.put (by decide) _ rfl
  obtain ⟨fs_7, e9⟩ : ∃ z, z = fs_1.set 7 (.ref q_2) := ⟨_, rfl⟩
  rw [← e9] at hf
  have hP : va_P (dC, dI) CL [(h0, .inr (2, fs_7)), (q_2, .inr (5, fs_5))] H := by rw [e9]; exact hP
  have hD : va_D A [(h0, .inr (2, fs_7)), (q_2, .inr (5, fs_5))] := by rw [e9]; exact hD
  clear e9
  have hP := hP.sub (ws' := [(h0, .inr (2, fs_7))]) [0] rfl
  have hD := hD.sub (ws' := [(h0, .inr (2, fs_7))]) [0] (by decide) rfl
  refine lv_aload_n hx hb dX2_init_24 rfl (lv_at hl 0 rfl) ?_
  refine lv_sipush (v := 150) hx hb dX2_init_25 (by decide +kernel) ?_
  refine po_nax (D := (dC, dI)) (own := RX2) (index := 24) (atype := .int) (N' := 150) (n := 150) (T := TX2) (k1 := 7) (n1 := 4301) (a0 := (150, .inl (fun _ => 0))) (ty := .int) hx hb hts inX2 tyX2 tyX2_ok nmX2 hown hK hP hD hS hA rfl hf hin (hts (.arrayClass .int) wd_483) rfl (po_ai 150 .int rfl) (by decide +kernel) (by decide +kernel) (Nat.le_of_ble_eq_true rfl) (Nat.le_of_ble_eq_true rfl) (Nat.le_of_ble_eq_true rfl) dX2_init_28 9 (by decide) (hts (.fieldLink RX2 24 "ChipFlow$Chip" "gateCell" "[I") wd_1097) rfl rfl (by decide +kernel) dX2_init_30 (Nat.le_of_ble_eq_true rfl) (Nat.le_of_ble_eq_true rfl) rfl (fun fs_8 H locs hf hP hD hS => ?_)
  refine lv_aload_n hx hb dX2_init_33 rfl (lv_at hl 0 rfl) ?_
  refine lv_sipush (v := 450) hx hb dX2_init_34 (by decide +kernel) ?_
  refine po_nax (D := (dC, dI)) (own := RX2) (index := 27) (atype := .int) (N' := 450) (n := 450) (T := TX2) (k1 := 8) (n1 := 4751) (a0 := (450, .inl (fun _ => 0))) (ty := .int) hx hb hts inX2 tyX2 tyX2_ok nmX2 hown hK hP hD hS hA rfl hf hin (hts (.arrayClass .int) wd_483) rfl (po_ai 450 .int rfl) (by decide +kernel) (by decide +kernel) (Nat.le_of_ble_eq_true rfl) (Nat.le_of_ble_eq_true rfl) (Nat.le_of_ble_eq_true rfl) dX2_init_37 10 (by decide) (hts (.fieldLink RX2 27 "ChipFlow$Chip" "gateNet" "[I") wd_1102) rfl rfl (by decide +kernel) dX2_init_39 (Nat.le_of_ble_eq_true rfl) (Nat.le_of_ble_eq_true rfl) rfl (fun fs_9 H locs hf hP hD hS => ?_)
  refine lv_aload_n hx hb dX2_init_42 rfl (lv_at hl 0 rfl) ?_
  refine lv_bipush (v := 16) hx hb dX2_init_43 (by decide +kernel) ?_
  refine po_nax (D := (dC, dI)) (own := RX2) (index := 30) (atype := .int) (N' := 16) (n := 16) (T := TX2) (k1 := 9) (n1 := 4767) (a0 := (16, .inl (fun _ => 0))) (ty := .int) hx hb hts inX2 tyX2 tyX2_ok nmX2 hown hK hP hD hS hA rfl hf hin (hts (.arrayClass .int) wd_483) rfl (po_ai 16 .int rfl) (by decide +kernel) (by decide +kernel) (Nat.le_of_ble_eq_true rfl) (Nat.le_of_ble_eq_true rfl) (Nat.le_of_ble_eq_true rfl) dX2_init_45 11 (by decide) (hts (.fieldLink RX2 30 "ChipFlow$Chip" "outNet" "[I") wd_1108) rfl rfl (by decide +kernel) dX2_init_47 (Nat.le_of_ble_eq_true rfl) (Nat.le_of_ble_eq_true rfl) rfl (fun fs_10 H locs hf hP hD hS => ?_)
  refine lv_aload_n hx hb dX2_init_50 rfl (lv_at hl 0 rfl) ?_
  refine lv_bipush (v := 6) hx hb dX2_init_51 (by decide +kernel) ?_
  refine po_nax (D := (dC, dI)) (own := RX2) (index := 33) (atype := .int) (N' := 6) (n := 6) (T := TX2) (k1 := 10) (n1 := 4773) (a0 := (6, .inl (fun _ => 0))) (ty := .int) hx hb hts inX2 tyX2 tyX2_ok nmX2 hown hK hP hD hS hA rfl hf hin (hts (.arrayClass .int) wd_483) rfl (po_ai 6 .int rfl) (by decide +kernel) (by decide +kernel) (Nat.le_of_ble_eq_true rfl) (Nat.le_of_ble_eq_true rfl) (Nat.le_of_ble_eq_true rfl) dX2_init_53 12 (by decide) (hts (.fieldLink RX2 33 "ChipFlow$Chip" "nextNet" "[I") wd_1112) rfl rfl (by decide +kernel) dX2_init_55 (Nat.le_of_ble_eq_true rfl) (Nat.le_of_ble_eq_true rfl) rfl (fun fs_11 H locs hf hP hD hS => ?_)
  refine lv_aload_n hx hb dX2_init_58 rfl (lv_at hl 0 rfl) ?_
  refine lv_bipush (v := 12) hx hb dX2_init_59 (by decide +kernel) ?_
  refine po_nax (D := (dC, dI)) (own := RX2) (index := 36) (atype := .int) (N' := 12) (n := 12) (T := TX2) (k1 := 11) (n1 := 4785) (a0 := (12, .inl (fun _ => 0))) (ty := .int) hx hb hts inX2 tyX2 tyX2_ok nmX2 hown hK hP hD hS hA rfl hf hin (hts (.arrayClass .int) wd_483) rfl (po_ai 12 .int rfl) (by decide +kernel) (by decide +kernel) (Nat.le_of_ble_eq_true rfl) (Nat.le_of_ble_eq_true rfl) (Nat.le_of_ble_eq_true rfl) dX2_init_61 13 (by decide) (hts (.fieldLink RX2 36 "ChipFlow$Chip" "falseEnds" "[I") wd_1116) rfl rfl (by decide +kernel) dX2_init_63 (Nat.le_of_ble_eq_true rfl) (Nat.le_of_ble_eq_true rfl) rfl (fun fs_12 H locs hf hP hD hS => ?_)
  refine lv_aload_n hx hb dX2_init_66 rfl (lv_at hl 0 rfl) ?_
  refine lv_sipush (v := 1224) hx hb dX2_init_67 (by decide +kernel) ?_
  refine po_nax (D := (dC, dI)) (own := RX2) (index := 39) (atype := .int) (N' := 1224) (n := 1224) (T := TX2) (k1 := 12) (n1 := 6009) (a0 := (1224, .inl (fun _ => 0))) (ty := .int) hx hb hts inX2 tyX2 tyX2_ok nmX2 hown hK hP hD hS hA rfl hf hin (hts (.arrayClass .int) wd_483) rfl (po_ai 1224 .int rfl) (by decide +kernel) (by decide +kernel) (Nat.le_of_ble_eq_true rfl) (Nat.le_of_ble_eq_true rfl) (Nat.le_of_ble_eq_true rfl) dX2_init_70 16 (by decide) (hts (.fieldLink RX2 39 "ChipFlow$Chip" "setPattern" "[I") wd_1124) rfl rfl (by decide +kernel) dX2_init_72 (Nat.le_of_ble_eq_true rfl) (Nat.le_of_ble_eq_true rfl) rfl (fun fs_13 H locs hf hP hD hS => ?_)
  refine lv_aload_n hx hb dX2_init_75 rfl (lv_at hl 0 rfl) ?_
  refine lv_sipush (v := 1224) hx hb dX2_init_76 (by decide +kernel) ?_
  refine po_nax (D := (dC, dI)) (own := RX2) (index := 42) (atype := .int) (N' := 1224) (n := 1224) (T := TX2) (k1 := 13) (n1 := 7233) (a0 := (1224, .inl (fun _ => 0))) (ty := .int) hx hb hts inX2 tyX2 tyX2_ok nmX2 hown hK hP hD hS hA rfl hf hin (hts (.arrayClass .int) wd_483) rfl (po_ai 1224 .int rfl) (by decide +kernel) (by decide +kernel) (Nat.le_of_ble_eq_true rfl) (Nat.le_of_ble_eq_true rfl) (Nat.le_of_ble_eq_true rfl) dX2_init_79 17 (by decide) (hts (.fieldLink RX2 42 "ChipFlow$Chip" "setFails" "[I") wd_1127) rfl rfl (by decide +kernel) dX2_init_81 (Nat.le_of_ble_eq_true rfl) (Nat.le_of_ble_eq_true rfl) rfl (fun fs_14 H locs hf hP hD hS => ?_)
  refine lv_aload_n hx hb dX2_init_84 rfl (lv_at hl 0 rfl) ?_
  refine va_new (ci := 0) (fs := ((List.range 19).map fun j => defaultValue (tyX0 j))) (C := RX0) (T := TX0) (N := 19) hx hb hts inX0 tyX0 tyX0_ok hown (hts (.classLink RX2 45 RX0) wd_904) (hts (.instantiable RX0 19) wd_905) (hts (.initialized RX0) wd_338) hK hP hD hS hA rfl (fx.dflt 19 tyX0) (Nat.le_of_ble_eq_true rfl) (Nat.le_of_ble_eq_true rfl) dX2_init_85 (fun q_15 H hP hD hS => ?_)
  have hf_16 : fx ((List.range 19).map fun j => defaultValue (tyX0 j)) 19 [(0, .int 0), (1, .int 0), (2, .int 0), (11, .int 0), (16, .int 0), (18, .int 0)] := fx.of (List.forall_mem_cons.mpr ⟨⟨by decide, rfl⟩, List.forall_mem_cons.mpr ⟨⟨by decide, rfl⟩, List.forall_mem_cons.mpr ⟨⟨by decide, rfl⟩, List.forall_mem_cons.mpr ⟨⟨by decide, rfl⟩, List.forall_mem_cons.mpr ⟨⟨by decide, rfl⟩, List.forall_mem_cons.mpr ⟨⟨by decide, rfl⟩, fun _ h => nomatch h⟩⟩⟩⟩⟩⟩)
  obtain ⟨fs_17, e9⟩ : ∃ z, z = ((List.range 19).map fun j => defaultValue (tyX0 j)) := ⟨_, rfl⟩
  rw [← e9] at hf_16 hP hD
  clear e9
  have hP : va_P (dC, dI) CL [(h0, .inr (2, fs_14)), (q_15, .inr (0, fs_17))] H := hP
  have hD : va_D A [(h0, .inr (2, fs_14)), (q_15, .inr (0, fs_17))] := hD
  refine W.widen (k := 14) (n := 7252) (Nat.le_of_ble_eq_true rfl) (Nat.le_of_ble_eq_true rfl) ?_
  refine lv_dup hx hb dX2_init_88 rfl ?_
  have hPc := hP.sub (ws' := [(q_15, .inr (0, fs_17))]) [1] rfl
  have hDc := hD.sub (ws' := [(q_15, .inr (0, fs_17))]) [1] (by decide) rfl
  have hKc := hK.sub (tys' := []) [] rfl
  have hFc := va_free (wc := [(q_15, .inr (0, fs_17))]) hD hS hA [1] rfl
  refine va_callv (va_runIN (As := []) (rest := [.ref q_15, .ref h0]) ⟨hx, hb, hml, hown, hts⟩ (ct_X0_init l dC dI q_15 H.size fs_17 (hf_16.sub [] rfl)) ⟨va_cnB 0 hts (bg_gi wd_908) rfl rfl rfl hN_X2_47 (hts (.initialized RX0) wd_338) (by decide +kernel) ⟨(Nat.le_of_ble_eq_true rfl), (Nat.le_of_ble_eq_true rfl)⟩, rfl, hts (.instanceMethod yX0_init) wd_907⟩ ⟨fun a U g mk q => by obtain ⟨q0, q1, qP, qK, qD, q9⟩ := q; exact ⟨q0, q1, qP, va_K.moved (u := U) (U := U.calling g mk a) (Vm.Alike.refl U.vm) qK, qD, ne.same (u := U) (U := U.calling g mk a) rfl q9⟩, fun U hU hW => ⟨rfl, by rw [hU], by rw [hU]; exact hPc, va_K.moved hW.alike hKc, hDc.weaken (fun _ _ _ _ => trivial), ne.warm hW hNE⟩⟩ rfl rfl hl.1 rfl (lv_room (Nat.le_of_ble_eq_true rfl)) dX2_init_89 ⟨(Nat.le_of_ble_eq_true rfl), (Nat.le_of_ble_eq_true rfl)⟩) hS (fun q _ h => hFc q h) hFc (fun u t H1 locs ht hvm hw hB hz1 hk1 hS => ?_)
  obtain ⟨fs_18, hf_19, hP1, hK1, hD1⟩ := hB
  rw [ht] at hP1
  have hK1 := va_K.moved hvm.symm hK1
  obtain ⟨hP, hD⟩ := va_join (wr := [(h0, .inr (2, fs_14))]) (w1 := [(q_15, .inr (0, fs_18))]) hP hD [1] [0] rfl rfl (by decide) (by decide) hk1 hFc hP1 hD1
  have hK := (hK.sub (tys' := []) [] rfl).app hK1
  generalize H1 = H at hP hS ⊢
  have hP : va_P (dC, dI) CL [(h0, .inr (2, fs_14)), (q_15, .inr (0, fs_18))] H := hP
  have hD : va_D A [(h0, .inr (2, fs_14)), (q_15, .inr (0, fs_18))] := hD
  have hK : va_K (dC, dI) CL [] s := hK
  refine W.widen (k := 34) (n := 36422) (Nat.le_of_ble_eq_true rfl) (Nat.le_of_ble_eq_true rfl) ?_
  refine va_putF (D := (dC, dI)) (ci := 2) (v := .ref q_15) (ty := tyX2 18) (C := RX2) (T := TX2) (N := 20) hx hb hts inX2 tyX2 tyX2_ok nmX2 hown hK hP hD hS 0 rfl rfl 18 (by decide) (hts (.fieldLink RX2 48 "ChipFlow$Chip" "board" "LChipFlow$Board;") wd_1130) (fun _ h9 => h9) rfl hin rfl (by decide +kernel) rfl rfl (by rw [hf.1]; decide) dX2_init_92 (fun H locs hP hD hS => ?_)
  have hf : fx (fs_14.set 18 (.ref q_15)) 20 [(18, .ref q_15), (7, .ref q_2), (0, .int 0)] := hf.put (by decide) _ rfl
  obtain ⟨fs_20, e9⟩ : ∃ z, z = fs_14.set 18 (.ref q_15) := ⟨_, rfl⟩
  rw [← e9] at hf
  have hP : va_P (dC, dI) CL [(h0, .inr (2, fs_20)), (q_15, .inr (0, fs_18))] H := by rw [e9]; exact hP
  have hD : va_D A [(h0, .inr (2, fs_20)), (q_15, .inr (0, fs_18))] := by rw [e9]; exact hD
  clear e9
  have hP := hP.sub (ws' := [(h0, .inr (2, fs_20))]) [0] rfl
  have hD := hD.sub (ws' := [(h0, .inr (2, fs_20))]) [0] (by decide) rfl
  have hf := hf.sub (F' := [(0, .int 0)]) [2] rfl
  have hK := hK.sub (tys' := []) [] rfl
  exact W.vret hx hb hr (fun t ht hW => ⟨⟨(), rfl, trivial, fs_20, hf, by rw [ht]; exact hP, va_K.moved hW.alike hK, hD⟩, hS.F ht⟩) hS.2.2 dX2_init_95
