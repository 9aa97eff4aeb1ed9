set_option maxHeartbeats 4000000 in
set_option maxRecDepth 100000 in
theorem law_feed_v {p : Program} {l : Launch} {e : Env} {s : State} {m : MethodId} {below : List Frame} {meth : Method} {c : Code} {b : Nat} {xs : Nat → Int32} (C0 : lw_At p s m meth c b 7 xs) {dC : Nat → ClassId} {dI : Nat → Nat → Nat} (hlt : l.stackTraces = false) (hth : th (fun q : Nat => s.heap.size ≤ q) s s.heap) (p0 : Int32) (q0 : (xs ((0 : Int32) + 1).toNatClampNeg) = p0) (p1 : Int32) (q1 : (xs ((0 : Int32) + 2).toNatClampNeg) = p1) (p2 : Int32) (q2 : (xs ((0 : Int32) + 3).toNatClampNeg) = p2) (p3 : Int32) (q3 : (xs ((0 : Int32) + 4).toNatClampNeg) = p3) (p4 : Int32) (q4 : (xs ((0 : Int32) + 5).toNatClampNeg) = p4) (x tx bt m0 mt oA : Nat) (xg : List Value) (h_x : fx xg 17 [(0, .ref tx)]) (txg : List Value) (h_tx : fx txg 9 [(0, .ref bt), (1, .int 0), (2, .int 0), (3, .int 0), (4, .int 0), (6, .int 0), (7, .int 0), (8, .int 0)]) (btC : ClassId) (btf : Nat → Int32) (h_bt : fa btf []) (m0g : List Value) (h_m0 : fx m0g 225 [(0, .int 0), (1, .ref mt), (2, .int 0), (3, .int 0), (9, .int 0), (10, .int 0), (11, .int 0), (12, .int 0), (27, .int 0), (79, .int 0), (83, .int 0), (95, .int 0)]) (mtC : ClassId) (mtf : Nat → Int32) (h_mt : fa mtf []) (oAC : ClassId) (oAf : Nat → Int64) (h_oA : fa oAf []) (H : Heap) (locs : List Loc) (hK : va_K (dC, dI) CL [(btC, .byte), (mtC, .byte), (oAC, .long)] s) (hP : va_P (dC, dI) CL [(x, .inr (12, xg)), (tx, .inr (10, txg)), (bt, .inl (btC, (65536, .inl btf))), (m0, .inr (13, m0g)), (mt, .inl (mtC, (65536, .inl mtf))), (oA, .inl (oAC, (1, .inr (.inl oAf))))] H) (hD : va_D (fun q : Nat => s.heap.size ≤ q) [(x, .inr (12, xg)), (tx, .inr (10, txg)), (bt, .inl (btC, (65536, .inl btf))), (m0, .inr (13, m0g)), (mt, .inl (mtC, (65536, .inl mtf))), (oA, .inl (oAC, (1, .inr (.inl oAf))))]) (hS : va_S (fun q : Nat => s.heap.size ≤ q) s.heap H locs) (ls : Array Slot) (hl : lv_has ls 7 [(0, .ref b), (1, .ref x), (2, .ref m0), (3, .ref oA), (4, .int 0)]) : W p l e room_1 s m #[Value.ref b] below meth c H locs 451 2709142 (lw_Z below #[Value.ref b] s) (F0 m 272 ls []) := by
  obtain ⟨hx, hb, hr, hml, hown, hts0, hX, hbl, hlocks, hgv⟩ := id C0
  have hts : ∀ w ∈ BG, w.before _ s = true := fun w h => hts0 w (List.mem_filter.mp h).1
  have hown : s.vm.findClass RL = some m.cls := hown
  obtain ⟨A, eA⟩ : ∃ z : Nat → Prop, z = (fun q : Nat => s.heap.size ≤ q) := ⟨_, rfl⟩
  rw [← eA] at hth hD hS
  have hA : ∀ q : Nat, s.heap.size ≤ q → A q := fun q h => by rw [eA]; exact h
  have hbA : ¬ A b := by rw [eA]; exact Nat.not_le.mpr hbl
  refine lv_aload_n hx hb dL_law_272 rfl (lv_at hl 1 rfl) ?_
  refine lv_aload_n hx hb dL_law_273 rfl (lv_at hl 0 rfl) ?_
  refine lv_iload hx hb dL_law_274 (lv_at hl 4 rfl) ?_
  refine lv_iconst (v := 1) hx hb dL_law_276 (by decide +kernel) ?_
  refine lv_iadd hx hb dL_law_277 ?_
  refine va_sld hx hb hX hbl hbA hS vi_1 dL_law_278 ?_
  refine lv_topi (fun v9 e9 => ?_)
  obtain rfl : p0 = v9 := (e9.trans q0).symm
  refine lv_aload_n hx hb dL_law_279 rfl (lv_at hl 0 rfl) ?_
  refine lv_iload hx hb dL_law_280 (lv_at hl 4 rfl) ?_
  refine lv_iconst (v := 2) hx hb dL_law_282 (by decide +kernel) ?_
  refine lv_iadd hx hb dL_law_283 ?_
  refine va_sld hx hb hX hbl hbA hS vi_2 dL_law_284 ?_
  refine lv_topi (fun v9 e9 => ?_)
  obtain rfl : p1 = v9 := (e9.trans q1).symm
  refine lv_aload_n hx hb dL_law_285 rfl (lv_at hl 0 rfl) ?_
  refine lv_iload hx hb dL_law_286 (lv_at hl 4 rfl) ?_
  refine lv_iconst (v := 3) hx hb dL_law_288 (by decide +kernel) ?_
  refine lv_iadd hx hb dL_law_289 ?_
  refine va_sld hx hb hX hbl hbA hS vi_3 dL_law_290 ?_
  refine lv_topi (fun v9 e9 => ?_)
  obtain rfl : p2 = v9 := (e9.trans q2).symm
  refine lv_aload_n hx hb dL_law_291 rfl (lv_at hl 0 rfl) ?_
  refine lv_iload hx hb dL_law_292 (lv_at hl 4 rfl) ?_
  refine lv_iconst (v := 4) hx hb dL_law_294 (by decide +kernel) ?_
  refine lv_iadd hx hb dL_law_295 ?_
  refine va_sld hx hb hX hbl hbA hS vi_4 dL_law_296 ?_
  refine lv_topi (fun v9 e9 => ?_)
  obtain rfl : p3 = v9 := (e9.trans q3).symm
  refine lv_aload_n hx hb dL_law_297 rfl (lv_at hl 0 rfl) ?_
  refine lv_iload hx hb dL_law_298 (lv_at hl 4 rfl) ?_
  refine lv_iconst (v := 5) hx hb dL_law_300 (by decide +kernel) ?_
  refine lv_iadd hx hb dL_law_301 ?_
  refine va_sld hx hb hX hbl hbA hS vi_5 dL_law_302 ?_
  refine lv_topi (fun v9 e9 => ?_)
  obtain rfl : p4 = v9 := (e9.trans q4).symm
  refine lv_aload_n hx hb dL_law_303 rfl (lv_at hl 3 rfl) ?_
  have hPc := hP.sub (ws' := [(x, .inr (12, xg)), (tx, .inr (10, txg)), (bt, .inl (btC, (65536, .inl btf))), (oA, .inl (oAC, (1, .inr (.inl oAf))))]) [0, 1, 2, 5] rfl
  have hDc := hD.sub (ws' := [(x, .inr (12, xg)), (tx, .inr (10, txg)), (bt, .inl (btC, (65536, .inl btf))), (oA, .inl (oAC, (1, .inr (.inl oAf))))]) [0, 1, 2, 5] (by decide) rfl
  have hKc := hK.sub (tys' := [(btC, .byte), (oAC, .long)]) [0, 2] rfl
  have hFc := va_free (wc := [(x, .inr (12, xg)), (tx, .inr (10, txg)), (bt, .inl (btC, (65536, .inl btf))), (oA, .inl (oAC, (1, .inr (.inl oAf))))]) hD hS hA [0, 1, 2, 5] rfl
  refine va_calli (vx_runSW (As := [.ref x, .int p0, .int p1, .int p2, .int p3, .int p4, .ref oA]) (rest := []) ⟨hx, hb, hml, hown, hts⟩ (gx1_L_feed l hlt dC dI _ p0 p1 p2 p3 p4 x tx bt oA xg h_x txg h_tx btC btf h_bt oAC oAf h_oA) (vx_cwSW 7 hts (gi_W wd_1238 wd_1239 wd_326 wd_1240) rfl rfl rfl (by decide +kernel) ⟨(Nat.le_of_ble_eq_true rfl), (Nat.le_of_ble_eq_true rfl)⟩) ⟨fun a U g mk q => by obtain ⟨q0, q1, qP, qK, qD, qT⟩ := q; exact ⟨q0, q1, qP, va_K.moved (u := U) (U := U.calling g mk a) (Vm.Alike.refl U.vm) qK, qD, th.moved (u := U) (U := U.calling g mk a) (Vm.Alike.refl U.vm) qT⟩, fun U hU hW => ⟨rfl, by rw [hU], by rw [hU]; exact hPc, va_K.moved hW.alike hKc, hDc.weaken (fun _ _ _ _ => trivial), by rw [hU]; exact ((hth.kept hS.2.1).narrow hFc).moved hW.alike⟩⟩ rfl rfl hl.1 rfl (lv_room (Nat.le_of_ble_eq_true rfl)) dL_law_304 ⟨(Nat.le_of_ble_eq_true rfl), (Nat.le_of_ble_eq_true rfl)⟩) hS (fun q _ h => hFc q h) hFc (fun r u t H1 locs ht hvm hw hB hz1 hk1 hS => ?_)
  subst hw
  obtain ⟨fs_1, fs_2, f_3, f_4, h_x, h_tx, h_bt, h_oA, hP1, hK1, hD1⟩ := hB
  rw [ht] at hP1
  obtain ⟨hP, hD⟩ := va_join (wr := [(m0, .inr (13, m0g)), (mt, .inl (mtC, (65536, .inl mtf)))]) (w1 := [(x, .inr (12, fs_1)), (tx, .inr (10, fs_2)), (bt, .inl (btC, (65536, .inl f_3))), (oA, .inl (oAC, (1, .inr (.inl f_4))))]) hP hD [0, 1, 2, 5] [3, 4] rfl rfl (by decide) (by decide) hk1 hFc hP1 hD1
  have hP := hP.sub (ws' := [(x, .inr (12, fs_1)), (tx, .inr (10, fs_2)), (bt, .inl (btC, (65536, .inl f_3))), (m0, .inr (13, m0g)), (mt, .inl (mtC, (65536, .inl mtf))), (oA, .inl (oAC, (1, .inr (.inl f_4))))]) [2, 3, 4, 0, 1, 5] rfl
  have hD := hD.sub (ws' := [(x, .inr (12, fs_1)), (tx, .inr (10, fs_2)), (bt, .inl (btC, (65536, .inl f_3))), (m0, .inr (13, m0g)), (mt, .inl (mtC, (65536, .inl mtf))), (oA, .inl (oAC, (1, .inr (.inl f_4))))]) [2, 3, 4, 0, 1, 5] (by decide) rfl
  generalize H1 = H at hP hS ⊢
  have hP : va_P (dC, dI) CL [(x, .inr (12, fs_1)), (tx, .inr (10, fs_2)), (bt, .inl (btC, (65536, .inl f_3))), (m0, .inr (13, m0g)), (mt, .inl (mtC, (65536, .inl mtf))), (oA, .inl (oAC, (1, .inr (.inl f_4))))] H := hP
  have hD : va_D A [(x, .inr (12, fs_1)), (tx, .inr (10, fs_2)), (bt, .inl (btC, (65536, .inl f_3))), (m0, .inr (13, m0g)), (mt, .inl (mtC, (65536, .inl mtf))), (oA, .inl (oAC, (1, .inr (.inl f_4))))] := hD
  refine W.widen (k := 452) (n := 2709148) (Nat.le_of_ble_eq_true rfl) (Nat.le_of_ble_eq_true rfl) ?_
  refine lv_istore (lv' := [(5, .int 0), (0, .ref b), (1, .ref x), (2, .ref m0), (3, .ref oA), (4, .int 0)]) hx hb dL_law_307 hl (by decide) rfl (fun ls hl => ?_)
  refine lv_aload_n hx hb dL_law_309 rfl (lv_at hl 3 rfl) ?_
  refine lv_aload_n hx hb dL_law_310 rfl (lv_at hl 1 rfl) ?_
  refine lv_iload hx hb dL_law_311 (lv_at hl 5 rfl) ?_
  refine lv_iconst (v := 1) hx hb dL_law_313 (by decide +kernel) ?_
  refine lv_iadd hx hb dL_law_314 ?_
  refine va_sld hx hb hX hbl hbA hS vi_1 dL_law_315 ?_
  refine lv_topi (fun v9 e9 => ?_)
  obtain rfl : p0 = v9 := (e9.trans q0).symm
  refine lv_aload_n hx hb dL_law_316 rfl (lv_at hl 1 rfl) ?_
  refine lv_iload hx hb dL_law_317 (lv_at hl 5 rfl) ?_
  refine lv_iconst (v := 2) hx hb dL_law_319 (by decide +kernel) ?_
  refine lv_iadd hx hb dL_law_320 ?_
  refine va_sld hx hb hX hbl hbA hS vi_2 dL_law_321 ?_
  refine lv_topi (fun v9 e9 => ?_)
  obtain rfl : p1 = v9 := (e9.trans q1).symm
  refine lv_aload_n hx hb dL_law_322 rfl (lv_at hl 1 rfl) ?_
  refine lv_iload hx hb dL_law_323 (lv_at hl 5 rfl) ?_
  refine lv_iconst (v := 3) hx hb dL_law_325 (by decide +kernel) ?_
  refine lv_iadd hx hb dL_law_326 ?_
  refine va_sld hx hb hX hbl hbA hS vi_3 dL_law_327 ?_
  refine lv_topi (fun v9 e9 => ?_)
  obtain rfl : p2 = v9 := (e9.trans q2).symm
  refine lv_aload_n hx hb dL_law_328 rfl (lv_at hl 1 rfl) ?_
  refine lv_iload hx hb dL_law_329 (lv_at hl 5 rfl) ?_
  refine lv_iconst (v := 4) hx hb dL_law_331 (by decide +kernel) ?_
  refine lv_iadd hx hb dL_law_332 ?_
  refine va_sld hx hb hX hbl hbA hS vi_4 dL_law_333 ?_
  refine lv_topi (fun v9 e9 => ?_)
  obtain rfl : p3 = v9 := (e9.trans q3).symm
  refine lv_aload_n hx hb dL_law_334 rfl (lv_at hl 1 rfl) ?_
  refine lv_iload hx hb dL_law_335 (lv_at hl 5 rfl) ?_
  refine lv_iconst (v := 5) hx hb dL_law_337 (by decide +kernel) ?_
  refine lv_iadd hx hb dL_law_338 ?_
  refine va_sld hx hb hX hbl hbA hS vi_5 dL_law_339 ?_
  refine lv_topi (fun v9 e9 => ?_)
  obtain rfl : p4 = v9 := (e9.trans q4).symm
  have hPc := hP.sub (ws' := [(m0, .inr (13, m0g)), (mt, .inl (mtC, (65536, .inl mtf)))]) [3, 4] rfl
  have hDc := hD.sub (ws' := [(m0, .inr (13, m0g)), (mt, .inl (mtC, (65536, .inl mtf)))]) [3, 4] (by decide) rfl
  have hKc := hK.sub (tys' := [(mtC, .byte)]) [1] rfl
  have hFc := va_free (wc := [(m0, .inr (13, m0g)), (mt, .inl (mtC, (65536, .inl mtf)))]) hD hS hA [3, 4] rfl
  refine va_calli (va_runV (As := [.int p0, .int p1, .int p2, .int p3, .int p4]) (rest := []) ⟨hx, hb, hml, hown, hts⟩ (gx8_X13_feed l hlt dC dI _ p0 p1 p2 p3 p4 m0 mt m0g h_m0 mtC mtf h_mt) (cwV 5 hts (gi_V wd_3708 wd_3709 wd_3710 wd_340 wd_3711) rfl rfl rfl (by decide +kernel) ⟨(Nat.le_of_ble_eq_true rfl), (Nat.le_of_ble_eq_true rfl)⟩) ⟨fun a U g mk q => by obtain ⟨q0, q1, qP, qK, qD, qT⟩ := q; exact ⟨q0, q1, qP, va_K.moved (u := U) (U := U.calling g mk a) (Vm.Alike.refl U.vm) qK, qD, th.moved (u := U) (U := U.calling g mk a) (Vm.Alike.refl U.vm) qT⟩, va_recv hKc hPc (ci := 13) (q0 := 0) rfl rfl, fun U hU hW => ⟨rfl, by rw [hU], by rw [hU]; exact hPc, va_K.moved hW.alike hKc, hDc.weaken (fun _ _ _ _ => trivial), by rw [hU]; exact ((hth.kept hS.2.1).narrow hFc).moved hW.alike⟩⟩ rfl rfl hl.1 rfl (lv_room (Nat.le_of_ble_eq_true rfl)) dL_law_340 ⟨(Nat.le_of_ble_eq_true rfl), (Nat.le_of_ble_eq_true rfl)⟩) hS (fun q _ h => hFc q h) hFc (fun r u t H1 locs ht hvm hw hB hz1 hk1 hS => ?_)
  subst hw
  obtain ⟨fs_5, f_6, h_m0, h_mt, hP1, hK1, hD1⟩ := hB
  rw [ht] at hP1
  obtain ⟨hP, hD⟩ := va_join (wr := [(x, .inr (12, fs_1)), (tx, .inr (10, fs_2)), (bt, .inl (btC, (65536, .inl f_3))), (oA, .inl (oAC, (1, .inr (.inl f_4))))]) (w1 := [(m0, .inr (13, fs_5)), (mt, .inl (mtC, (65536, .inl f_6)))]) hP hD [3, 4] [0, 1, 2, 5] rfl rfl (by decide) (by decide) hk1 hFc hP1 hD1
  have hP := hP.sub (ws' := [(x, .inr (12, fs_1)), (tx, .inr (10, fs_2)), (bt, .inl (btC, (65536, .inl f_3))), (m0, .inr (13, fs_5)), (mt, .inl (mtC, (65536, .inl f_6))), (oA, .inl (oAC, (1, .inr (.inl f_4))))]) [0, 1, 2, 4, 5, 3] rfl
  have hD := hD.sub (ws' := [(x, .inr (12, fs_1)), (tx, .inr (10, fs_2)), (bt, .inl (btC, (65536, .inl f_3))), (m0, .inr (13, fs_5)), (mt, .inl (mtC, (65536, .inl f_6))), (oA, .inl (oAC, (1, .inr (.inl f_4))))]) [0, 1, 2, 4, 5, 3] (by decide) rfl
  generalize H1 = H at hP hS ⊢
  have hP : va_P (dC, dI) CL [(x, .inr (12, fs_1)), (tx, .inr (10, fs_2)), (bt, .inl (btC, (65536, .inl f_3))), (m0, .inr (13, fs_5)), (mt, .inl (mtC, (65536, .inl f_6))), (oA, .inl (oAC, (1, .inr (.inl f_4))))] H := hP
  have hD : va_D A [(x, .inr (12, fs_1)), (tx, .inr (10, fs_2)), (bt, .inl (btC, (65536, .inl f_3))), (m0, .inr (13, fs_5)), (mt, .inl (mtC, (65536, .inl f_6))), (oA, .inl (oAC, (1, .inr (.inl f_4))))] := hD
  refine lv_istore (lv' := [(6, .int 20), (5, .int 0), (0, .ref b), (1, .ref x), (2, .ref m0), (3, .ref oA), (4, .int 0)]) hx hb dL_law_343 hl (by decide) rfl (fun ls hl => ?_)
  refine lv_aload_n hx hb dL_law_345 rfl (lv_at hl 4 rfl) ?_
  have hPc := hP.sub (ws' := [(m0, .inr (13, fs_5))]) [3] rfl
  have hDc := hD.sub (ws' := [(m0, .inr (13, fs_5))]) [3] (by decide) rfl
  have hKc := hK.sub (tys' := []) [] rfl
  have hFc := va_free (wc := [(m0, .inr (13, fs_5))]) hD hS hA [3] rfl
  refine va_calli (va_runV (As := []) (rest := []) ⟨hx, hb, hml, hown, hts⟩ (gx9_X13_thrown l hlt dC dI _ m0 mt fs_5 h_m0) (cwV 0 hts (gi_V wd_3015 wd_3016 wd_3017 wd_340 wd_3018) rfl rfl rfl (by decide +kernel) ⟨(Nat.le_of_ble_eq_true rfl), (Nat.le_of_ble_eq_true rfl)⟩) ⟨fun a U g mk q => by obtain ⟨q0, q1, qP, qK, qD, qT⟩ := q; exact ⟨q0, q1, qP, va_K.moved (u := U) (U := U.calling g mk a) (Vm.Alike.refl U.vm) qK, qD, th.moved (u := U) (U := U.calling g mk a) (Vm.Alike.refl U.vm) qT⟩, va_recv hKc hPc (ci := 13) (q0 := 0) rfl rfl, fun U hU hW => ⟨rfl, by rw [hU], by rw [hU]; exact hPc, va_K.moved hW.alike hKc, hDc.weaken (fun _ _ _ _ => trivial), by rw [hU]; exact ((hth.kept hS.2.1).narrow hFc).moved hW.alike⟩⟩ rfl rfl hl.1 rfl (lv_room (Nat.le_of_ble_eq_true rfl)) dL_law_346 ⟨(Nat.le_of_ble_eq_true rfl), (Nat.le_of_ble_eq_true rfl)⟩) hS (fun q _ h => hFc q h) hFc (fun r u t H1 locs ht hvm hw hB hz1 hk1 hS => ?_)
  subst hw
  obtain ⟨fs_7, h_m0, hP1, hK1, hD1⟩ := hB
  rw [ht] at hP1
  obtain ⟨hP, hD⟩ := va_join (wr := [(x, .inr (12, fs_1)), (tx, .inr (10, fs_2)), (bt, .inl (btC, (65536, .inl f_3))), (mt, .inl (mtC, (65536, .inl f_6))), (oA, .inl (oAC, (1, .inr (.inl f_4))))]) (w1 := [(m0, .inr (13, fs_7))]) hP hD [3] [0, 1, 2, 4, 5] rfl rfl (by decide) (by decide) hk1 hFc hP1 hD1
  have hP := hP.sub (ws' := [(x, .inr (12, fs_1)), (tx, .inr (10, fs_2)), (bt, .inl (btC, (65536, .inl f_3))), (m0, .inr (13, fs_7)), (mt, .inl (mtC, (65536, .inl f_6))), (oA, .inl (oAC, (1, .inr (.inl f_4))))]) [0, 1, 2, 5, 3, 4] rfl
  have hD := hD.sub (ws' := [(x, .inr (12, fs_1)), (tx, .inr (10, fs_2)), (bt, .inl (btC, (65536, .inl f_3))), (m0, .inr (13, fs_7)), (mt, .inl (mtC, (65536, .inl f_6))), (oA, .inl (oAC, (1, .inr (.inl f_4))))]) [0, 1, 2, 5, 3, 4] (by decide) rfl
  generalize H1 = H at hP hS ⊢
  have hP : va_P (dC, dI) CL [(x, .inr (12, fs_1)), (tx, .inr (10, fs_2)), (bt, .inl (btC, (65536, .inl f_3))), (m0, .inr (13, fs_7)), (mt, .inl (mtC, (65536, .inl f_6))), (oA, .inl (oAC, (1, .inr (.inl f_4))))] H := hP
  have hD : va_D A [(x, .inr (12, fs_1)), (tx, .inr (10, fs_2)), (bt, .inl (btC, (65536, .inl f_3))), (m0, .inr (13, fs_7)), (mt, .inl (mtC, (65536, .inl f_6))), (oA, .inl (oAC, (1, .inr (.inl f_4))))] := hD
  refine lv_iload hx hb dL_law_349 (lv_at hl 1 rfl) ?_
  refine lv_icmp_eq (tgt := 356) hx hb dL_law_351 (by decide) (fun c9 => ?_) (fun c9 => ?_)
  rotate_left
  · first | exact absurd c9 (by decide +kernel) | exact absurd (by decide +kernel) c9
  refine lv_iload hx hb dL_law_356 (lv_at hl 1 rfl) ?_
  refine lv_if_ne (tgt := 373) hx hb dL_law_358 (by decide) (fun c9 => ?_) (fun c9 => ?_)
  · first | exact absurd c9 (by decide +kernel) | exact absurd (by decide +kernel) c9
  refine lv_aload_n hx hb dL_law_361 rfl (lv_at hl 5 rfl) ?_
  refine lv_iconst (v := 0) hx hb dL_law_362 (by decide +kernel) ?_
  refine va_lald hx hb hK hP 5 2 rfl rfl (vp_in_nI (n := 0) (N := 1) (by decide) (by decide)) dL_law_363 ?_
  refine lv_topl (fun v9 e9 => ?_)
  obtain rfl : v9 = 20 := e9.trans ((congrArg f_4 (by decide +kernel : (0 : Int32).toNatClampNeg = 0)).trans (h_oA.get 0 rfl))
  refine lv_iload hx hb dL_law_364 (lv_at hl 0 rfl) ?_
  refine lv_i2l hx hb dL_law_366 rfl ?_
  refine lv_topl (fun v9 e9 => ?_)
  obtain rfl : v9 = 20 := e9.trans (by decide +kernel)
  refine hc_lcmpE hx hb dL_law_367 ?_
  refine lv_if_eq (tgt := 373) hx hb dL_law_368 (by decide) (fun c9 => ?_) (fun c9 => ?_)
  rotate_left
  · first | exact absurd c9 (by decide +kernel) | exact absurd (by decide +kernel) c9
  refine lv_goto (tgt := 4099) hx hb dL_law_373 (by decide) ?_
  refine W.widen (k := 470) (n := 2709300) (Nat.le_of_ble_eq_true rfl) (Nat.le_of_ble_eq_true rfl) ?_
  rw [eA] at hS
  exact law_tail (v5 := 0) (v6 := 0) (lv := []) C0 hS (lv_sub hl [2, 6] rfl)
set_option maxHeartbeats 4000000 in
set_option maxRecDepth 100000 in
theorem law_feed {p : Program} {l : Launch} {e : Env} {s : State} {m : MethodId} {below : List Frame} {meth : Method} {c : Code} {b : Nat} {xs : Nat → Int32} (C0 : lw_At p s m meth c b 7 xs) {dC : Nat → ClassId} {dI : Nat → Nat → Nat} (hlt : l.stackTraces = false) (hth : th (fun q : Nat => s.heap.size ≤ q) s s.heap) (x tx bt m0 mt oA : Nat) (xg : List Value) (h_x : fx xg 17 [(0, .ref tx)]) (txg : List Value) (h_tx : fx txg 9 [(0, .ref bt), (1, .int 0), (2, .int 0), (3, .int 0), (4, .int 0), (6, .int 0), (7, .int 0), (8, .int 0)]) (btC : ClassId) (btf : Nat → Int32) (h_bt : fa btf []) (m0g : List Value) (h_m0 : fx m0g 225 [(0, .int 0), (1, .ref mt), (2, .int 0), (3, .int 0), (9, .int 0), (10, .int 0), (11, .int 0), (12, .int 0), (27, .int 0), (79, .int 0), (83, .int 0), (95, .int 0)]) (mtC : ClassId) (mtf : Nat → Int32) (h_mt : fa mtf []) (oAC : ClassId) (oAf : Nat → Int64) (h_oA : fa oAf []) (H : Heap) (locs : List Loc) (hK : va_K (dC, dI) CL [(btC, .byte), (mtC, .byte), (oAC, .long)] s) (hP : va_P (dC, dI) CL [(x, .inr (12, xg)), (tx, .inr (10, txg)), (bt, .inl (btC, (65536, .inl btf))), (m0, .inr (13, m0g)), (mt, .inl (mtC, (65536, .inl mtf))), (oA, .inl (oAC, (1, .inr (.inl oAf))))] H) (hD : va_D (fun q : Nat => s.heap.size ≤ q) [(x, .inr (12, xg)), (tx, .inr (10, txg)), (bt, .inl (btC, (65536, .inl btf))), (m0, .inr (13, m0g)), (mt, .inl (mtC, (65536, .inl mtf))), (oA, .inl (oAC, (1, .inr (.inl oAf))))]) (hS : va_S (fun q : Nat => s.heap.size ≤ q) s.heap H locs) (ls : Array Slot) (hl : lv_has ls 7 [(0, .ref b), (1, .ref x), (2, .ref m0), (3, .ref oA), (4, .int 0)]) : W p l e room_1 s m #[Value.ref b] below meth c H locs 451 2709142 (lw_Z below #[Value.ref b] s) (F0 m 272 ls []) := by
  exact law_feed_v C0 hlt hth _ rfl _ rfl _ rfl _ rfl _ rfl x tx bt m0 mt oA xg h_x txg h_tx btC btf h_bt m0g h_m0 mtC mtf h_mt oAC oAf h_oA H locs (hK.sub [0, 1, 2] rfl) (hP.sub [0, 1, 2, 3, 4, 5] rfl) (hD.sub [0, 1, 2, 3, 4, 5] (by decide) rfl) hS ls hl
set_option maxHeartbeats 4000000 in
set_option maxRecDepth 100000 in
theorem law_fault {p : Program} {l : Launch} {e : Env} {s : State} {m : MethodId} {below : List Frame} {meth : Method} {c : Code} {b : Nat} {xs : Nat → Int32} (C0 : lw_At p s m meth c b 7 xs) {dC : Nat → ClassId} {dI : Nat → Nat → Nat} (hlt : l.stackTraces = false) (hth : th (fun q : Nat => s.heap.size ≤ q) s s.heap) (x m0 oA : Nat) (xg : List Value) (h_x : fx xg 17 [(10, .int 0)]) (m0g : List Value) (h_m0 : fx m0g 225 [(0, .int 0), (2, .int 0), (3, .int 0), (9, .int 0), (10, .int 0), (11, .int 0), (12, .int 0), (27, .int 0), (79, .int 0), (83, .int 0), (95, .int 0)]) (H : Heap) (locs : List Loc) (hK : va_K (dC, dI) CL [] s) (hP : va_P (dC, dI) CL [(x, .inr (12, xg)), (m0, .inr (13, m0g))] H) (hD : va_D (fun q : Nat => s.heap.size ≤ q) [(x, .inr (12, xg)), (m0, .inr (13, m0g))]) (hS : va_S (fun q : Nat => s.heap.size ≤ q) s.heap H locs) (ls : Array Slot) (hl : lv_has ls 7 [(0, .ref b), (1, .ref x), (2, .ref m0), (3, .ref oA), (4, .int 0)]) : W p l e room_1 s m #[Value.ref b] below meth c H locs 451 2709142 (lw_Z below #[Value.ref b] s) (F0 m 500 ls []) := by
  obtain ⟨hx, hb, hr, hml, hown, hts0, hX, hbl, hlocks, hgv⟩ := id C0
  have hts : ∀ w ∈ BG, w.before _ s = true := fun w h => hts0 w (List.mem_filter.mp h).1
  have hown : s.vm.findClass RL = some m.cls := hown
  obtain ⟨A, eA⟩ : ∃ z : Nat → Prop, z = (fun q : Nat => s.heap.size ≤ q) := ⟨_, rfl⟩
  rw [← eA] at hth hD hS
  have hA : ∀ q : Nat, s.heap.size ≤ q → A q := fun q h => by rw [eA]; exact h
  have hbA : ¬ A b := by rw [eA]; exact Nat.not_le.mpr hbl
  refine lv_aload_n hx hb dL_law_500 rfl (lv_at hl 1 rfl) ?_
  have hPc := hP.sub (ws' := [(x, .inr (12, xg))]) [0] rfl
  have hDc := hD.sub (ws' := [(x, .inr (12, xg))]) [0] (by decide) rfl
  have hKc := hK.sub (tys' := []) [] rfl
  have hFc := va_free (wc := [(x, .inr (12, xg))]) hD hS hA [0] rfl
  refine va_calli (va_runV (As := []) (rest := []) ⟨hx, hb, hml, hown, hts⟩ (gx10_X12_fault l hlt dC dI _ x xg h_x) (cwV 0 hts (gi_V wd_1230 wd_1231 wd_1232 wd_327 wd_1233) rfl rfl rfl (by decide +kernel) ⟨(Nat.le_of_ble_eq_true rfl), (Nat.le_of_ble_eq_true rfl)⟩) ⟨fun a U g mk q => by obtain ⟨q0, q1, qP, qK, qD, qT⟩ := q; exact ⟨q0, q1, qP, va_K.moved (u := U) (U := U.calling g mk a) (Vm.Alike.refl U.vm) qK, qD, th.moved (u := U) (U := U.calling g mk a) (Vm.Alike.refl U.vm) qT⟩, va_recv hKc hPc (ci := 12) (q0 := 0) rfl rfl, fun U hU hW => ⟨rfl, by rw [hU], by rw [hU]; exact hPc, va_K.moved hW.alike hKc, hDc.weaken (fun _ _ _ _ => trivial), by rw [hU]; exact ((hth.kept hS.2.1).narrow hFc).moved hW.alike⟩⟩ rfl rfl hl.1 rfl (lv_room (Nat.le_of_ble_eq_true rfl)) dL_law_501 ⟨(Nat.le_of_ble_eq_true rfl), (Nat.le_of_ble_eq_true rfl)⟩) hS (fun q _ h => hFc q h) hFc (fun r u t H1 locs ht hvm hw hB hz1 hk1 hS => ?_)
  subst hw
  obtain ⟨fs_1, h_x, hP1, hK1, hD1⟩ := hB
  rw [ht] at hP1
  obtain ⟨hP, hD⟩ := va_join (wr := [(m0, .inr (13, m0g))]) (w1 := [(x, .inr (12, fs_1))]) hP hD [0] [1] rfl rfl (by decide) (by decide) hk1 hFc hP1 hD1
  have hP := hP.sub (ws' := [(x, .inr (12, fs_1)), (m0, .inr (13, m0g))]) [1, 0] rfl
  have hD := hD.sub (ws' := [(x, .inr (12, fs_1)), (m0, .inr (13, m0g))]) [1, 0] (by decide) rfl
  generalize H1 = H at hP hS ⊢
  have hP : va_P (dC, dI) CL [(x, .inr (12, fs_1)), (m0, .inr (13, m0g))] H := hP
  have hD : va_D A [(x, .inr (12, fs_1)), (m0, .inr (13, m0g))] := hD
  refine lv_aload_n hx hb dL_law_504 rfl (lv_at hl 2 rfl) ?_
  have hPc := hP.sub (ws' := [(m0, .inr (13, m0g))]) [1] rfl
  have hDc := hD.sub (ws' := [(m0, .inr (13, m0g))]) [1] (by decide) rfl
  have hKc := hK.sub (tys' := []) [] rfl
  have hFc := va_free (wc := [(m0, .inr (13, m0g))]) hD hS hA [1] rfl
  refine va_calli (va_runV (As := []) (rest := [.int 0]) ⟨hx, hb, hml, hown, hts⟩ (gx11_X13_fault l hlt dC dI _ m0 m0g h_m0) (cwV 0 hts (gi_V wd_4064 wd_4065 wd_4066 wd_340 wd_4067) rfl rfl rfl (by decide +kernel) ⟨(Nat.le_of_ble_eq_true rfl), (Nat.le_of_ble_eq_true rfl)⟩) ⟨fun a U g mk q => by obtain ⟨q0, q1, qP, qK, qD, qT⟩ := q; exact ⟨q0, q1, qP, va_K.moved (u := U) (U := U.calling g mk a) (Vm.Alike.refl U.vm) qK, qD, th.moved (u := U) (U := U.calling g mk a) (Vm.Alike.refl U.vm) qT⟩, va_recv hKc hPc (ci := 13) (q0 := 0) rfl rfl, fun U hU hW => ⟨rfl, by rw [hU], by rw [hU]; exact hPc, va_K.moved hW.alike hKc, hDc.weaken (fun _ _ _ _ => trivial), by rw [hU]; exact ((hth.kept hS.2.1).narrow hFc).moved hW.alike⟩⟩ rfl rfl hl.1 rfl (lv_room (Nat.le_of_ble_eq_true rfl)) dL_law_505 ⟨(Nat.le_of_ble_eq_true rfl), (Nat.le_of_ble_eq_true rfl)⟩) hS (fun q _ h => hFc q h) hFc (fun r u t H1 locs ht hvm hw hB hz1 hk1 hS => ?_)
  subst hw
  obtain ⟨fs_2, h_m0, hP1, hK1, hD1⟩ := hB
  rw [ht] at hP1
  obtain ⟨hP, hD⟩ := va_join (wr := [(x, .inr (12, fs_1))]) (w1 := [(m0, .inr (13, fs_2))]) hP hD [1] [0] rfl rfl (by decide) (by decide) hk1 hFc hP1 hD1
  have hP := hP.sub (ws' := [(x, .inr (12, fs_1)), (m0, .inr (13, fs_2))]) [0, 1] rfl
  have hD := hD.sub (ws' := [(x, .inr (12, fs_1)), (m0, .inr (13, fs_2))]) [0, 1] (by decide) rfl
  generalize H1 = H at hP hS ⊢
  have hP : va_P (dC, dI) CL [(x, .inr (12, fs_1)), (m0, .inr (13, fs_2))] H := hP
  have hD : va_D A [(x, .inr (12, fs_1)), (m0, .inr (13, fs_2))] := hD
  refine lv_icmp_eq (tgt := 4099) hx hb dL_law_508 (by decide) (fun c9 => ?_) (fun c9 => ?_)
  rotate_left
  · first | exact absurd c9 (by decide +kernel) | exact absurd (by decide +kernel) c9
  refine W.widen (k := 470) (n := 2709300) (Nat.le_of_ble_eq_true rfl) (Nat.le_of_ble_eq_true rfl) ?_
  rw [eA] at hS
  exact law_tail (v5 := 0) (v6 := 0) (lv := []) C0 hS (lv_sub hl [0, 4] rfl)
set_option maxHeartbeats 4000000 in
set_option maxRecDepth 100000 in
theorem law_tape {p : Program} {l : Launch} {e : Env} {s : State} {m : MethodId} {below : List Frame} {meth : Method} {c : Code} {b : Nat} {xs : Nat → Int32} (C0 : lw_At p s m meth c b 7 xs) {dC : Nat → ClassId} {dI : Nat → Nat → Nat} (hlt : l.stackTraces = false) (hth : th (fun q : Nat => s.heap.size ≤ q) s s.heap) (x tx m0 bt oA : Nat) (xg : List Value) (h_x : fx xg 17 [(0, .ref tx)]) (txg : List Value) (h_tx : fx txg 9 [(0, .ref bt), (1, .int 0), (2, .int 0), (3, .int 0), (4, .int 0), (6, .int 0), (7, .int 0), (8, .int 0)]) (m0g : List Value) (h_m0 : fx m0g 225 [(0, .int 0), (2, .int 0), (3, .int 0), (9, .int 0), (10, .int 0), (11, .int 0), (12, .int 0), (27, .int 0), (79, .int 0), (83, .int 0), (95, .int 0)]) (H : Heap) (locs : List Loc) (hK : va_K (dC, dI) CL [] s) (hP : va_P (dC, dI) CL [(x, .inr (12, xg)), (tx, .inr (10, txg)), (m0, .inr (13, m0g))] H) (hD : va_D (fun q : Nat => s.heap.size ≤ q) [(x, .inr (12, xg)), (tx, .inr (10, txg)), (m0, .inr (13, m0g))]) (hS : va_S (fun q : Nat => s.heap.size ≤ q) s.heap H locs) (ls : Array Slot) (hl : lv_has ls 7 [(0, .ref b), (1, .ref x), (2, .ref m0), (3, .ref oA), (4, .int 0)]) : W p l e room_1 s m #[Value.ref b] below meth c H locs 451 2709142 (lw_Z below #[Value.ref b] s) (F0 m 4086 ls []) := by
  obtain ⟨hx, hb, hr, hml, hown, hts0, hX, hbl, hlocks, hgv⟩ := id C0
  have hts : ∀ w ∈ BG, w.before _ s = true := fun w h => hts0 w (List.mem_filter.mp h).1
  have hown : s.vm.findClass RL = some m.cls := hown
  obtain ⟨A, eA⟩ : ∃ z : Nat → Prop, z = (fun q : Nat => s.heap.size ≤ q) := ⟨_, rfl⟩
  rw [← eA] at hth hD hS
  have hA : ∀ q : Nat, s.heap.size ≤ q → A q := fun q h => by rw [eA]; exact h
  have hbA : ¬ A b := by rw [eA]; exact Nat.not_le.mpr hbl
  refine lv_aload_n hx hb dL_law_4086 rfl (lv_at hl 1 rfl) ?_
  have hPc := hP.sub (ws' := [(x, .inr (12, xg)), (tx, .inr (10, txg))]) [0, 1] rfl
  have hDc := hD.sub (ws' := [(x, .inr (12, xg)), (tx, .inr (10, txg))]) [0, 1] (by decide) rfl
  have hKc := hK.sub (tys' := []) [] rfl
  have hFc := va_free (wc := [(x, .inr (12, xg)), (tx, .inr (10, txg))]) hD hS hA [0, 1] rfl
  refine va_calli (va_runV (As := []) (rest := []) ⟨hx, hb, hml, hown, hts⟩ (gx12_X12_tape l hlt dC dI _ x tx bt xg h_x txg h_tx) (cwV 0 hts (gi_V wd_1234 wd_1235 wd_1236 wd_327 wd_1237) rfl rfl rfl (by decide +kernel) ⟨(Nat.le_of_ble_eq_true rfl), (Nat.le_of_ble_eq_true rfl)⟩) ⟨fun a U g mk q => by obtain ⟨q0, q1, qP, qK, qD, qT⟩ := q; exact ⟨q0, q1, qP, va_K.moved (u := U) (U := U.calling g mk a) (Vm.Alike.refl U.vm) qK, qD, th.moved (u := U) (U := U.calling g mk a) (Vm.Alike.refl U.vm) qT⟩, va_recv hKc hPc (ci := 12) (q0 := 0) rfl rfl, fun U hU hW => ⟨rfl, by rw [hU], by rw [hU]; exact hPc, va_K.moved hW.alike hKc, hDc.weaken (fun _ _ _ _ => trivial), by rw [hU]; exact ((hth.kept hS.2.1).narrow hFc).moved hW.alike⟩⟩ rfl rfl hl.1 rfl (lv_room (Nat.le_of_ble_eq_true rfl)) dL_law_4087 ⟨(Nat.le_of_ble_eq_true rfl), (Nat.le_of_ble_eq_true rfl)⟩) hS (fun q _ h => hFc q h) hFc (fun r u t H1 locs ht hvm hw hB hz1 hk1 hS => ?_)
  subst hw
  obtain ⟨fs_1, fs_2, h_x, h_tx, hP1, hK1, hD1⟩ := hB
  rw [ht] at hP1
  obtain ⟨hP, hD⟩ := va_join (wr := [(m0, .inr (13, m0g))]) (w1 := [(x, .inr (12, fs_1)), (tx, .inr (10, fs_2))]) hP hD [0, 1] [2] rfl rfl (by decide) (by decide) hk1 hFc hP1 hD1
  have hP := hP.sub (ws' := [(x, .inr (12, fs_1)), (tx, .inr (10, fs_2)), (m0, .inr (13, m0g))]) [1, 2, 0] rfl
  have hD := hD.sub (ws' := [(x, .inr (12, fs_1)), (tx, .inr (10, fs_2)), (m0, .inr (13, m0g))]) [1, 2, 0] (by decide) rfl
  generalize H1 = H at hP hS ⊢
  have hP : va_P (dC, dI) CL [(x, .inr (12, fs_1)), (tx, .inr (10, fs_2)), (m0, .inr (13, m0g))] H := hP
  have hD : va_D A [(x, .inr (12, fs_1)), (tx, .inr (10, fs_2)), (m0, .inr (13, m0g))] := hD
  refine lv_aload_n hx hb dL_law_4090 rfl (lv_at hl 2 rfl) ?_
  have hPc := hP.sub (ws' := [(m0, .inr (13, m0g))]) [2] rfl
  have hDc := hD.sub (ws' := [(m0, .inr (13, m0g))]) [2] (by decide) rfl
  have hKc := hK.sub (tys' := []) [] rfl
  have hFc := va_free (wc := [(m0, .inr (13, m0g))]) hD hS hA [2] rfl
  refine va_calli (va_runV (As := []) (rest := [.int 0]) ⟨hx, hb, hml, hown, hts⟩ (gx13_X13_tape l hlt dC dI _ m0 m0g h_m0) (cwV 0 hts (gi_V wd_3716 wd_3717 wd_3718 wd_340 wd_3719) rfl rfl rfl (by decide +kernel) ⟨(Nat.le_of_ble_eq_true rfl), (Nat.le_of_ble_eq_true rfl)⟩) ⟨fun a U g mk q => by obtain ⟨q0, q1, qP, qK, qD, qT⟩ := q; exact ⟨q0, q1, qP, va_K.moved (u := U) (U := U.calling g mk a) (Vm.Alike.refl U.vm) qK, qD, th.moved (u := U) (U := U.calling g mk a) (Vm.Alike.refl U.vm) qT⟩, va_recv hKc hPc (ci := 13) (q0 := 0) rfl rfl, fun U hU hW => ⟨rfl, by rw [hU], by rw [hU]; exact hPc, va_K.moved hW.alike hKc, hDc.weaken (fun _ _ _ _ => trivial), by rw [hU]; exact ((hth.kept hS.2.1).narrow hFc).moved hW.alike⟩⟩ rfl rfl hl.1 rfl (lv_room (Nat.le_of_ble_eq_true rfl)) dL_law_4091 ⟨(Nat.le_of_ble_eq_true rfl), (Nat.le_of_ble_eq_true rfl)⟩) hS (fun q _ h => hFc q h) hFc (fun r u t H1 locs ht hvm hw hB hz1 hk1 hS => ?_)
  subst hw
  obtain ⟨fs_3, h_m0, hP1, hK1, hD1⟩ := hB
  rw [ht] at hP1
  obtain ⟨hP, hD⟩ := va_join (wr := [(x, .inr (12, fs_1)), (tx, .inr (10, fs_2))]) (w1 := [(m0, .inr (13, fs_3))]) hP hD [2] [0, 1] rfl rfl (by decide) (by decide) hk1 hFc hP1 hD1
  have hP := hP.sub (ws' := [(x, .inr (12, fs_1)), (tx, .inr (10, fs_2)), (m0, .inr (13, fs_3))]) [0, 1, 2] rfl
  have hD := hD.sub (ws' := [(x, .inr (12, fs_1)), (tx, .inr (10, fs_2)), (m0, .inr (13, fs_3))]) [0, 1, 2] (by decide) rfl
  generalize H1 = H at hP hS ⊢
  have hP : va_P (dC, dI) CL [(x, .inr (12, fs_1)), (tx, .inr (10, fs_2)), (m0, .inr (13, fs_3))] H := hP
  have hD : va_D A [(x, .inr (12, fs_1)), (tx, .inr (10, fs_2)), (m0, .inr (13, fs_3))] := hD
  refine lv_icmp_eq (tgt := 4099) hx hb dL_law_4094 (by decide) (fun c9 => ?_) (fun c9 => ?_)
  rotate_left
  · first | exact absurd c9 (by decide +kernel) | exact absurd (by decide +kernel) c9
  refine W.widen (k := 470) (n := 2709300) (Nat.le_of_ble_eq_true rfl) (Nat.le_of_ble_eq_true rfl) ?_
  rw [eA] at hS
  exact law_tail (v5 := 0) (v6 := 0) (lv := []) C0 hS (lv_sub hl [0, 4] rfl)
set_option maxHeartbeats 4000000 in
set_option maxRecDepth 100000 in
theorem law_end_lt {p : Program} {l : Launch} {e : Env} {s : State} {m : MethodId} {below : List Frame} {meth : Method} {c : Code} {b : Nat} {xs : Nat → Int32} (C0 : lw_At p s m meth c b 7 xs) {dC : Nat → ClassId} {dI : Nat → Nat → Nat} (hlt : l.stackTraces = false) (hth : th (fun q : Nat => s.heap.size ≤ q) s s.heap) (p0 : Int32) (q0 : (xs ((0 : Int32) + 1).toNatClampNeg) = p0) (zn : p0 < 0) (x tx m0 bt oA : Nat) (xg : List Value) (h_x : fx xg 17 [(0, .ref tx)]) (txg : List Value) (h_tx : fx txg 9 [(0, .ref bt), (1, .int 0), (2, .int 0), (3, .int 0), (4, .int 0), (6, .int 0), (7, .int 0), (8, .int 0)]) (m0g : List Value) (h_m0 : fx m0g 225 [(0, .int 0), (2, .int 0), (3, .int 0), (9, .int 0), (10, .int 0), (11, .int 0), (12, .int 0), (27, .int 0), (79, .int 0), (83, .int 0), (95, .int 0)]) (H : Heap) (locs : List Loc) (hK : va_K (dC, dI) CL [] s) (hP : va_P (dC, dI) CL [(x, .inr (12, xg)), (tx, .inr (10, txg)), (m0, .inr (13, m0g))] H) (hD : va_D (fun q : Nat => s.heap.size ≤ q) [(x, .inr (12, xg)), (tx, .inr (10, txg)), (m0, .inr (13, m0g))]) (hS : va_S (fun q : Nat => s.heap.size ≤ q) s.heap H locs) (ls : Array Slot) (hl : lv_has ls 7 [(0, .ref b), (1, .ref x), (2, .ref m0), (3, .ref oA), (4, .int 0)]) : W p l e room_1 s m #[Value.ref b] below meth c H locs 451 2709142 (lw_Z below #[Value.ref b] s) (F0 m 376 ls []) := by
  obtain ⟨hx, hb, hr, hml, hown, hts0, hX, hbl, hlocks, hgv⟩ := id C0
  have hts : ∀ w ∈ BG, w.before _ s = true := fun w h => hts0 w (List.mem_filter.mp h).1
  have hown : s.vm.findClass RL = some m.cls := hown
  obtain ⟨A, eA⟩ : ∃ z : Nat → Prop, z = (fun q : Nat => s.heap.size ≤ q) := ⟨_, rfl⟩
  rw [← eA] at hth hD hS
  have hA : ∀ q : Nat, s.heap.size ≤ q → A q := fun q h => by rw [eA]; exact h
  have hbA : ¬ A b := by rw [eA]; exact Nat.not_le.mpr hbl
  refine lv_aload_n hx hb dL_law_376 rfl (lv_at hl 1 rfl) ?_
  refine lv_aload_n hx hb dL_law_377 rfl (lv_at hl 0 rfl) ?_
  refine lv_iload hx hb dL_law_378 (lv_at hl 4 rfl) ?_
  refine lv_iconst (v := 1) hx hb dL_law_380 (by decide +kernel) ?_
  refine lv_iadd hx hb dL_law_381 ?_
  refine va_sld hx hb hX hbl hbA hS vi_1 dL_law_382 ?_
  refine lv_topi (fun v9 e9 => ?_)
  obtain rfl : p0 = v9 := (e9.trans q0).symm
  have hPc := hP.sub (ws' := [(x, .inr (12, xg)), (tx, .inr (10, txg))]) [0, 1] rfl
  have hDc := hD.sub (ws' := [(x, .inr (12, xg)), (tx, .inr (10, txg))]) [0, 1] (by decide) rfl
  have hKc := hK.sub (tys' := []) [] rfl
  have hFc := va_free (wc := [(x, .inr (12, xg)), (tx, .inr (10, txg))]) hD hS hA [0, 1] rfl
  refine va_calli (vx_runSW (As := [.ref x, .int p0]) (rest := []) ⟨hx, hb, hml, hown, hts⟩ (gx14_L_end l hlt dC dI _ p0 x tx bt xg h_x txg h_tx zn) (vx_cwSW 2 hts (gi_W wd_1320 wd_1321 wd_326 wd_1322) rfl rfl rfl (by decide +kernel) ⟨(Nat.le_of_ble_eq_true rfl), (Nat.le_of_ble_eq_true rfl)⟩) ⟨fun a U g mk q => by obtain ⟨q0, q1, qP, qK, qD, qT⟩ := q; exact ⟨q0, q1, qP, va_K.moved (u := U) (U := U.calling g mk a) (Vm.Alike.refl U.vm) qK, qD, th.moved (u := U) (U := U.calling g mk a) (Vm.Alike.refl U.vm) qT⟩, fun U hU hW => ⟨rfl, by rw [hU], by rw [hU]; exact hPc, va_K.moved hW.alike hKc, hDc.weaken (fun _ _ _ _ => trivial), by rw [hU]; exact ((hth.kept hS.2.1).narrow hFc).moved hW.alike⟩⟩ rfl rfl hl.1 rfl (lv_room (Nat.le_of_ble_eq_true rfl)) dL_law_383 ⟨(Nat.le_of_ble_eq_true rfl), (Nat.le_of_ble_eq_true rfl)⟩) hS (fun q _ h => hFc q h) hFc (fun r u t H1 locs ht hvm hw hB hz1 hk1 hS => ?_)
  subst hw
  obtain ⟨fs_1, fs_2, h_x, h_tx, hP1, hK1, hD1⟩ := hB
  rw [ht] at hP1
  obtain ⟨hP, hD⟩ := va_join (wr := [(m0, .inr (13, m0g))]) (w1 := [(x, .inr (12, fs_1)), (tx, .inr (10, fs_2))]) hP hD [0, 1] [2] rfl rfl (by decide) (by decide) hk1 hFc hP1 hD1
  have hP := hP.sub (ws' := [(x, .inr (12, fs_1)), (tx, .inr (10, fs_2)), (m0, .inr (13, m0g))]) [1, 2, 0] rfl
  have hD := hD.sub (ws' := [(x, .inr (12, fs_1)), (tx, .inr (10, fs_2)), (m0, .inr (13, m0g))]) [1, 2, 0] (by decide) rfl
  generalize H1 = H at hP hS ⊢
  have hP : va_P (dC, dI) CL [(x, .inr (12, fs_1)), (tx, .inr (10, fs_2)), (m0, .inr (13, m0g))] H := hP
  have hD : va_D A [(x, .inr (12, fs_1)), (tx, .inr (10, fs_2)), (m0, .inr (13, m0g))] := hD
  refine W.widen (k := 452) (n := 2709148) (Nat.le_of_ble_eq_true rfl) (Nat.le_of_ble_eq_true rfl) ?_
  refine lv_istore (lv' := [(5, .int 1), (0, .ref b), (1, .ref x), (2, .ref m0), (3, .ref oA), (4, .int 0)]) hx hb dL_law_386 hl (by decide) rfl (fun ls hl => ?_)
  refine lv_aload_n hx hb dL_law_388 rfl (lv_at hl 3 rfl) ?_
  refine lv_aload_n hx hb dL_law_389 rfl (lv_at hl 1 rfl) ?_
  refine lv_iload hx hb dL_law_390 (lv_at hl 5 rfl) ?_
  refine lv_iconst (v := 1) hx hb dL_law_392 (by decide +kernel) ?_
  refine lv_iadd hx hb dL_law_393 ?_
  refine va_sld hx hb hX hbl hbA hS vi_1 dL_law_394 ?_
  refine lv_topi (fun v9 e9 => ?_)
  obtain rfl : p0 = v9 := (e9.trans q0).symm
  have hPc := hP.sub (ws' := [(m0, .inr (13, m0g))]) [2] rfl
  have hDc := hD.sub (ws' := [(m0, .inr (13, m0g))]) [2] (by decide) rfl
  have hKc := hK.sub (tys' := []) [] rfl
  have hFc := va_free (wc := [(m0, .inr (13, m0g))]) hD hS hA [2] rfl
  refine va_callv (va_runV (As := [.int p0]) (rest := []) ⟨hx, hb, hml, hown, hts⟩ (gx16_X13_end l hlt dC dI _ p0 m0 m0g h_m0 zn) (cwV 1 hts (gi_V wd_3712 wd_3713 wd_3714 wd_340 wd_3715) rfl rfl rfl (by decide +kernel) ⟨(Nat.le_of_ble_eq_true rfl), (Nat.le_of_ble_eq_true rfl)⟩) ⟨fun a U g mk q => by obtain ⟨q0, q1, qP, qK, qD, qT⟩ := q; exact ⟨q0, q1, qP, va_K.moved (u := U) (U := U.calling g mk a) (Vm.Alike.refl U.vm) qK, qD, th.moved (u := U) (U := U.calling g mk a) (Vm.Alike.refl U.vm) qT⟩, va_recv hKc hPc (ci := 13) (q0 := 0) rfl rfl, fun U hU hW => ⟨rfl, by rw [hU], by rw [hU]; exact hPc, va_K.moved hW.alike hKc, hDc.weaken (fun _ _ _ _ => trivial), by rw [hU]; exact ((hth.kept hS.2.1).narrow hFc).moved hW.alike⟩⟩ rfl rfl hl.1 rfl (lv_room (Nat.le_of_ble_eq_true rfl)) dL_law_395 ⟨(Nat.le_of_ble_eq_true rfl), (Nat.le_of_ble_eq_true rfl)⟩) hS (fun q _ h => hFc q h) hFc (fun u t H1 locs ht hvm hw hB hz1 hk1 hS => ?_)
  obtain ⟨fs_3, h_m0, hP1, hK1, hD1⟩ := hB
  rw [ht] at hP1
  obtain ⟨hP, hD⟩ := va_join (wr := [(x, .inr (12, fs_1)), (tx, .inr (10, fs_2))]) (w1 := [(m0, .inr (13, fs_3))]) hP hD [2] [0, 1] rfl rfl (by decide) (by decide) hk1 hFc hP1 hD1
  have hP := hP.sub (ws' := [(x, .inr (12, fs_1)), (tx, .inr (10, fs_2)), (m0, .inr (13, fs_3))]) [0, 1, 2] rfl
  have hD := hD.sub (ws' := [(x, .inr (12, fs_1)), (tx, .inr (10, fs_2)), (m0, .inr (13, fs_3))]) [0, 1, 2] (by decide) rfl
  generalize H1 = H at hP hS ⊢
  have hP : va_P (dC, dI) CL [(x, .inr (12, fs_1)), (tx, .inr (10, fs_2)), (m0, .inr (13, fs_3))] H := hP
  have hD : va_D A [(x, .inr (12, fs_1)), (tx, .inr (10, fs_2)), (m0, .inr (13, fs_3))] := hD
  refine lv_aload_n hx hb dL_law_398 rfl (lv_at hl 3 rfl) ?_
  have hPc := hP.sub (ws' := [(m0, .inr (13, fs_3))]) [2] rfl
  have hDc := hD.sub (ws' := [(m0, .inr (13, fs_3))]) [2] (by decide) rfl
  have hKc := hK.sub (tys' := []) [] rfl
  have hFc := va_free (wc := [(m0, .inr (13, fs_3))]) hD hS hA [2] rfl
  refine va_calli (va_runV (As := []) (rest := []) ⟨hx, hb, hml, hown, hts⟩ (gx17_X13_thrown l hlt dC dI _ m0 fs_3 h_m0) (cwV 0 hts (gi_V wd_3015 wd_3016 wd_3017 wd_340 wd_3018) rfl rfl rfl (by decide +kernel) ⟨(Nat.le_of_ble_eq_true rfl), (Nat.le_of_ble_eq_true rfl)⟩) ⟨fun a U g mk q => by obtain ⟨q0, q1, qP, qK, qD, qT⟩ := q; exact ⟨q0, q1, qP, va_K.moved (u := U) (U := U.calling g mk a) (Vm.Alike.refl U.vm) qK, qD, th.moved (u := U) (U := U.calling g mk a) (Vm.Alike.refl U.vm) qT⟩, va_recv hKc hPc (ci := 13) (q0 := 0) rfl rfl, fun U hU hW => ⟨rfl, by rw [hU], by rw [hU]; exact hPc, va_K.moved hW.alike hKc, hDc.weaken (fun _ _ _ _ => trivial), by rw [hU]; exact ((hth.kept hS.2.1).narrow hFc).moved hW.alike⟩⟩ rfl rfl hl.1 rfl (lv_room (Nat.le_of_ble_eq_true rfl)) dL_law_399 ⟨(Nat.le_of_ble_eq_true rfl), (Nat.le_of_ble_eq_true rfl)⟩) hS (fun q _ h => hFc q h) hFc (fun r u t H1 locs ht hvm hw hB hz1 hk1 hS => ?_)
  subst hw
  obtain ⟨fs_4, h_m0, hP1, hK1, hD1⟩ := hB
  rw [ht] at hP1
  obtain ⟨hP, hD⟩ := va_join (wr := [(x, .inr (12, fs_1)), (tx, .inr (10, fs_2))]) (w1 := [(m0, .inr (13, fs_4))]) hP hD [2] [0, 1] rfl rfl (by decide) (by decide) hk1 hFc hP1 hD1
  have hP := hP.sub (ws' := [(x, .inr (12, fs_1)), (tx, .inr (10, fs_2)), (m0, .inr (13, fs_4))]) [0, 1, 2] rfl
  have hD := hD.sub (ws' := [(x, .inr (12, fs_1)), (tx, .inr (10, fs_2)), (m0, .inr (13, fs_4))]) [0, 1, 2] (by decide) rfl
  generalize H1 = H at hP hS ⊢
  have hP : va_P (dC, dI) CL [(x, .inr (12, fs_1)), (tx, .inr (10, fs_2)), (m0, .inr (13, fs_4))] H := hP
  have hD : va_D A [(x, .inr (12, fs_1)), (tx, .inr (10, fs_2)), (m0, .inr (13, fs_4))] := hD
  refine lv_iload hx hb dL_law_402 (lv_at hl 0 rfl) ?_
  refine lv_icmp_eq (tgt := 409) hx hb dL_law_404 (by decide) (fun c9 => ?_) (fun c9 => ?_)
  rotate_left
  · first | exact absurd c9 (by decide +kernel) | exact absurd (by decide +kernel) c9
  refine lv_goto (tgt := 4099) hx hb dL_law_409 (by decide) ?_
  refine W.widen (k := 470) (n := 2709300) (Nat.le_of_ble_eq_true rfl) (Nat.le_of_ble_eq_true rfl) ?_
  rw [eA] at hS
  exact law_tail (v5 := 0) (v6 := 0) (lv := []) C0 hS (lv_sub hl [1, 5] rfl)
set_option maxHeartbeats 4000000 in
set_option maxRecDepth 100000 in
theorem law_end_gt {p : Program} {l : Launch} {e : Env} {s : State} {m : MethodId} {below : List Frame} {meth : Method} {c : Code} {b : Nat} {xs : Nat → Int32} (C0 : lw_At p s m meth c b 7 xs) {dC : Nat → ClassId} {dI : Nat → Nat → Nat} (hlt : l.stackTraces = false) (hth : th (fun q : Nat => s.heap.size ≤ q) s s.heap) (p0 : Int32) (q0 : (xs ((0 : Int32) + 1).toNatClampNeg) = p0) (zn : ¬ p0 < 0) (zp : 0 < p0) (zq : ¬ p0 ≤ 0) (x tx m0 bt oA : Nat) (xg : List Value) (h_x : fx xg 17 [(0, .ref tx)]) (txg : List Value) (h_tx : fx txg 9 [(0, .ref bt), (1, .int 0), (2, .int 0), (3, .int 0), (4, .int 0), (6, .int 0), (7, .int 0), (8, .int 0)]) (m0g : List Value) (h_m0 : fx m0g 225 [(0, .int 0), (2, .int 0), (3, .int 0), (9, .int 0), (10, .int 0), (11, .int 0), (12, .int 0), (27, .int 0), (79, .int 0), (83, .int 0), (95, .int 0)]) (H : Heap) (locs : List Loc) (hK : va_K (dC, dI) CL [] s) (hP : va_P (dC, dI) CL [(x, .inr (12, xg)), (tx, .inr (10, txg)), (m0, .inr (13, m0g))] H) (hD : va_D (fun q : Nat => s.heap.size ≤ q) [(x, .inr (12, xg)), (tx, .inr (10, txg)), (m0, .inr (13, m0g))]) (hS : va_S (fun q : Nat => s.heap.size ≤ q) s.heap H locs) (ls : Array Slot) (hl : lv_has ls 7 [(0, .ref b), (1, .ref x), (2, .ref m0), (3, .ref oA), (4, .int 0)]) : W p l e room_1 s m #[Value.ref b] below meth c H locs 451 2709142 (lw_Z below #[Value.ref b] s) (F0 m 376 ls []) := by
  obtain ⟨hx, hb, hr, hml, hown, hts0, hX, hbl, hlocks, hgv⟩ := id C0
  have hts : ∀ w ∈ BG, w.before _ s = true := fun w h => hts0 w (List.mem_filter.mp h).1
  have hown : s.vm.findClass RL = some m.cls := hown
  obtain ⟨A, eA⟩ : ∃ z : Nat → Prop, z = (fun q : Nat => s.heap.size ≤ q) := ⟨_, rfl⟩
  rw [← eA] at hth hD hS
  have hA : ∀ q : Nat, s.heap.size ≤ q → A q := fun q h => by rw [eA]; exact h
  have hbA : ¬ A b := by rw [eA]; exact Nat.not_le.mpr hbl
  refine lv_aload_n hx hb dL_law_376 rfl (lv_at hl 1 rfl) ?_
  refine lv_aload_n hx hb dL_law_377 rfl (lv_at hl 0 rfl) ?_
  refine lv_iload hx hb dL_law_378 (lv_at hl 4 rfl) ?_
  refine lv_iconst (v := 1) hx hb dL_law_380 (by decide +kernel) ?_
  refine lv_iadd hx hb dL_law_381 ?_
  refine va_sld hx hb hX hbl hbA hS vi_1 dL_law_382 ?_
  refine lv_topi (fun v9 e9 => ?_)
  obtain rfl : p0 = v9 := (e9.trans q0).symm
  have hPc := hP.sub (ws' := [(x, .inr (12, xg)), (tx, .inr (10, txg))]) [0, 1] rfl
  have hDc := hD.sub (ws' := [(x, .inr (12, xg)), (tx, .inr (10, txg))]) [0, 1] (by decide) rfl
  have hKc := hK.sub (tys' := []) [] rfl
  have hFc := va_free (wc := [(x, .inr (12, xg)), (tx, .inr (10, txg))]) hD hS hA [0, 1] rfl
  refine va_calli (vx_runSW (As := [.ref x, .int p0]) (rest := []) ⟨hx, hb, hml, hown, hts⟩ (gx18_L_end l hlt dC dI _ p0 x tx bt xg h_x txg h_tx zn zp zq) (vx_cwSW 2 hts (gi_W wd_1320 wd_1321 wd_326 wd_1322) rfl rfl rfl (by decide +kernel) ⟨(Nat.le_of_ble_eq_true rfl), (Nat.le_of_ble_eq_true rfl)⟩) ⟨fun a U g mk q => by obtain ⟨q0, q1, qP, qK, qD, qT⟩ := q; exact ⟨q0, q1, qP, va_K.moved (u := U) (U := U.calling g mk a) (Vm.Alike.refl U.vm) qK, qD, th.moved (u := U) (U := U.calling g mk a) (Vm.Alike.refl U.vm) qT⟩, fun U hU hW => ⟨rfl, by rw [hU], by rw [hU]; exact hPc, va_K.moved hW.alike hKc, hDc.weaken (fun _ _ _ _ => trivial), by rw [hU]; exact ((hth.kept hS.2.1).narrow hFc).moved hW.alike⟩⟩ rfl rfl hl.1 rfl (lv_room (Nat.le_of_ble_eq_true rfl)) dL_law_383 ⟨(Nat.le_of_ble_eq_true rfl), (Nat.le_of_ble_eq_true rfl)⟩) hS (fun q _ h => hFc q h) hFc (fun r u t H1 locs ht hvm hw hB hz1 hk1 hS => ?_)
  subst hw
  obtain ⟨fs_1, fs_2, h_x, h_tx, hP1, hK1, hD1⟩ := hB
  rw [ht] at hP1
  obtain ⟨hP, hD⟩ := va_join (wr := [(m0, .inr (13, m0g))]) (w1 := [(x, .inr (12, fs_1)), (tx, .inr (10, fs_2))]) hP hD [0, 1] [2] rfl rfl (by decide) (by decide) hk1 hFc hP1 hD1
  have hP := hP.sub (ws' := [(x, .inr (12, fs_1)), (tx, .inr (10, fs_2)), (m0, .inr (13, m0g))]) [1, 2, 0] rfl
  have hD := hD.sub (ws' := [(x, .inr (12, fs_1)), (tx, .inr (10, fs_2)), (m0, .inr (13, m0g))]) [1, 2, 0] (by decide) rfl
  generalize H1 = H at hP hS ⊢
  have hP : va_P (dC, dI) CL [(x, .inr (12, fs_1)), (tx, .inr (10, fs_2)), (m0, .inr (13, m0g))] H := hP
  have hD : va_D A [(x, .inr (12, fs_1)), (tx, .inr (10, fs_2)), (m0, .inr (13, m0g))] := hD
  refine W.widen (k := 452) (n := 2709148) (Nat.le_of_ble_eq_true rfl) (Nat.le_of_ble_eq_true rfl) ?_
  refine lv_istore (lv' := [(5, .int 1), (0, .ref b), (1, .ref x), (2, .ref m0), (3, .ref oA), (4, .int 0)]) hx hb dL_law_386 hl (by decide) rfl (fun ls hl => ?_)
  refine lv_aload_n hx hb dL_law_388 rfl (lv_at hl 3 rfl) ?_
  refine lv_aload_n hx hb dL_law_389 rfl (lv_at hl 1 rfl) ?_
  refine lv_iload hx hb dL_law_390 (lv_at hl 5 rfl) ?_
  refine lv_iconst (v := 1) hx hb dL_law_392 (by decide +kernel) ?_
  refine lv_iadd hx hb dL_law_393 ?_
  refine va_sld hx hb hX hbl hbA hS vi_1 dL_law_394 ?_
  refine lv_topi (fun v9 e9 => ?_)
  obtain rfl : p0 = v9 := (e9.trans q0).symm
  have hPc := hP.sub (ws' := [(m0, .inr (13, m0g))]) [2] rfl
  have hDc := hD.sub (ws' := [(m0, .inr (13, m0g))]) [2] (by decide) rfl
  have hKc := hK.sub (tys' := []) [] rfl
  have hFc := va_free (wc := [(m0, .inr (13, m0g))]) hD hS hA [2] rfl
  refine va_callv (va_runV (As := [.int p0]) (rest := []) ⟨hx, hb, hml, hown, hts⟩ (gx20_X13_end l hlt dC dI _ p0 m0 m0g h_m0 zn zp zq) (cwV 1 hts (gi_V wd_3712 wd_3713 wd_3714 wd_340 wd_3715) rfl rfl rfl (by decide +kernel) ⟨(Nat.le_of_ble_eq_true rfl), (Nat.le_of_ble_eq_true rfl)⟩) ⟨fun a U g mk q => by obtain ⟨q0, q1, qP, qK, qD, qT⟩ := q; exact ⟨q0, q1, qP, va_K.moved (u := U) (U := U.calling g mk a) (Vm.Alike.refl U.vm) qK, qD, th.moved (u := U) (U := U.calling g mk a) (Vm.Alike.refl U.vm) qT⟩, va_recv hKc hPc (ci := 13) (q0 := 0) rfl rfl, fun U hU hW => ⟨rfl, by rw [hU], by rw [hU]; exact hPc, va_K.moved hW.alike hKc, hDc.weaken (fun _ _ _ _ => trivial), by rw [hU]; exact ((hth.kept hS.2.1).narrow hFc).moved hW.alike⟩⟩ rfl rfl hl.1 rfl (lv_room (Nat.le_of_ble_eq_true rfl)) dL_law_395 ⟨(Nat.le_of_ble_eq_true rfl), (Nat.le_of_ble_eq_true rfl)⟩) hS (fun q _ h => hFc q h) hFc (fun u t H1 locs ht hvm hw hB hz1 hk1 hS => ?_)
  obtain ⟨fs_3, h_m0, hP1, hK1, hD1⟩ := hB
  rw [ht] at hP1
  obtain ⟨hP, hD⟩ := va_join (wr := [(x, .inr (12, fs_1)), (tx, .inr (10, fs_2))]) (w1 := [(m0, .inr (13, fs_3))]) hP hD [2] [0, 1] rfl rfl (by decide) (by decide) hk1 hFc hP1 hD1
  have hP := hP.sub (ws' := [(x, .inr (12, fs_1)), (tx, .inr (10, fs_2)), (m0, .inr (13, fs_3))]) [0, 1, 2] rfl
  have hD := hD.sub (ws' := [(x, .inr (12, fs_1)), (tx, .inr (10, fs_2)), (m0, .inr (13, fs_3))]) [0, 1, 2] (by decide) rfl
  generalize H1 = H at hP hS ⊢
  have hP : va_P (dC, dI) CL [(x, .inr (12, fs_1)), (tx, .inr (10, fs_2)), (m0, .inr (13, fs_3))] H := hP
  have hD : va_D A [(x, .inr (12, fs_1)), (tx, .inr (10, fs_2)), (m0, .inr (13, fs_3))] := hD
  refine lv_aload_n hx hb dL_law_398 rfl (lv_at hl 3 rfl) ?_
  have hPc := hP.sub (ws' := [(m0, .inr (13, fs_3))]) [2] rfl
  have hDc := hD.sub (ws' := [(m0, .inr (13, fs_3))]) [2] (by decide) rfl
  have hKc := hK.sub (tys' := []) [] rfl
  have hFc := va_free (wc := [(m0, .inr (13, fs_3))]) hD hS hA [2] rfl
  refine va_calli (va_runV (As := []) (rest := []) ⟨hx, hb, hml, hown, hts⟩ (gx17_X13_thrown l hlt dC dI _ m0 fs_3 h_m0) (cwV 0 hts (gi_V wd_3015 wd_3016 wd_3017 wd_340 wd_3018) rfl rfl rfl (by decide +kernel) ⟨(Nat.le_of_ble_eq_true rfl), (Nat.le_of_ble_eq_true rfl)⟩) ⟨fun a U g mk q => by obtain ⟨q0, q1, qP, qK, qD, qT⟩ := q; exact ⟨q0, q1, qP, va_K.moved (u := U) (U := U.calling g mk a) (Vm.Alike.refl U.vm) qK, qD, th.moved (u := U) (U := U.calling g mk a) (Vm.Alike.refl U.vm) qT⟩, va_recv hKc hPc (ci := 13) (q0 := 0) rfl rfl, fun U hU hW => ⟨rfl, by rw [hU], by rw [hU]; exact hPc, va_K.moved hW.alike hKc, hDc.weaken (fun _ _ _ _ => trivial), by rw [hU]; exact ((hth.kept hS.2.1).narrow hFc).moved hW.alike⟩⟩ rfl rfl hl.1 rfl (lv_room (Nat.le_of_ble_eq_true rfl)) dL_law_399 ⟨(Nat.le_of_ble_eq_true rfl), (Nat.le_of_ble_eq_true rfl)⟩) hS (fun q _ h => hFc q h) hFc (fun r u t H1 locs ht hvm hw hB hz1 hk1 hS => ?_)
  subst hw
  obtain ⟨fs_4, h_m0, hP1, hK1, hD1⟩ := hB
  rw [ht] at hP1
  obtain ⟨hP, hD⟩ := va_join (wr := [(x, .inr (12, fs_1)), (tx, .inr (10, fs_2))]) (w1 := [(m0, .inr (13, fs_4))]) hP hD [2] [0, 1] rfl rfl (by decide) (by decide) hk1 hFc hP1 hD1
  have hP := hP.sub (ws' := [(x, .inr (12, fs_1)), (tx, .inr (10, fs_2)), (m0, .inr (13, fs_4))]) [0, 1, 2] rfl
  have hD := hD.sub (ws' := [(x, .inr (12, fs_1)), (tx, .inr (10, fs_2)), (m0, .inr (13, fs_4))]) [0, 1, 2] (by decide) rfl
  generalize H1 = H at hP hS ⊢
  have hP : va_P (dC, dI) CL [(x, .inr (12, fs_1)), (tx, .inr (10, fs_2)), (m0, .inr (13, fs_4))] H := hP
  have hD : va_D A [(x, .inr (12, fs_1)), (tx, .inr (10, fs_2)), (m0, .inr (13, fs_4))] := hD
  refine lv_iload hx hb dL_law_402 (lv_at hl 0 rfl) ?_
  refine lv_icmp_eq (tgt := 409) hx hb dL_law_404 (by decide) (fun c9 => ?_) (fun c9 => ?_)
  rotate_left
  · first | exact absurd c9 (by decide +kernel) | exact absurd (by decide +kernel) c9
  refine lv_goto (tgt := 4099) hx hb dL_law_409 (by decide) ?_
  refine W.widen (k := 470) (n := 2709300) (Nat.le_of_ble_eq_true rfl) (Nat.le_of_ble_eq_true rfl) ?_
  rw [eA] at hS
  exact law_tail (v5 := 0) (v6 := 0) (lv := []) C0 hS (lv_sub hl [1, 5] rfl)
set_option maxHeartbeats 4000000 in
set_option maxRecDepth 100000 in
theorem law_end_eq {p : Program} {l : Launch} {e : Env} {s : State} {m : MethodId} {below : List Frame} {meth : Method} {c : Code} {b : Nat} {xs : Nat → Int32} (C0 : lw_At p s m meth c b 7 xs) {dC : Nat → ClassId} {dI : Nat → Nat → Nat} (hlt : l.stackTraces = false) (hth : th (fun q : Nat => s.heap.size ≤ q) s s.heap) (q0 : (xs ((0 : Int32) + 1).toNatClampNeg) = 0) (x tx m0 bt oA : Nat) (xg : List Value) (h_x : fx xg 17 [(0, .ref tx)]) (txg : List Value) (h_tx : fx txg 9 [(0, .ref bt), (1, .int 0), (2, .int 0), (3, .int 0), (4, .int 0), (6, .int 0), (7, .int 0), (8, .int 0)]) (m0g : List Value) (h_m0 : fx m0g 225 [(0, .int 0), (2, .int 0), (3, .int 0), (9, .int 0), (10, .int 0), (11, .int 0), (12, .int 0), (27, .int 0), (79, .int 0), (83, .int 0), (95, .int 0)]) (H : Heap) (locs : List Loc) (hK : va_K (dC, dI) CL [] s) (hP : va_P (dC, dI) CL [(x, .inr (12, xg)), (tx, .inr (10, txg)), (m0, .inr (13, m0g))] H) (hD : va_D (fun q : Nat => s.heap.size ≤ q) [(x, .inr (12, xg)), (tx, .inr (10, txg)), (m0, .inr (13, m0g))]) (hS : va_S (fun q : Nat => s.heap.size ≤ q) s.heap H locs) (ls : Array Slot) (hl : lv_has ls 7 [(0, .ref b), (1, .ref x), (2, .ref m0), (3, .ref oA), (4, .int 0)]) : W p l e room_1 s m #[Value.ref b] below meth c H locs 451 2709142 (lw_Z below #[Value.ref b] s) (F0 m 376 ls []) := by
  obtain ⟨hx, hb, hr, hml, hown, hts0, hX, hbl, hlocks, hgv⟩ := id C0
  have hts : ∀ w ∈ BG, w.before _ s = true := fun w h => hts0 w (List.mem_filter.mp h).1
  have hown : s.vm.findClass RL = some m.cls := hown
  obtain ⟨A, eA⟩ : ∃ z : Nat → Prop, z = (fun q : Nat => s.heap.size ≤ q) := ⟨_, rfl⟩
  rw [← eA] at hth hD hS
  have hA : ∀ q : Nat, s.heap.size ≤ q → A q := fun q h => by rw [eA]; exact h
  have hbA : ¬ A b := by rw [eA]; exact Nat.not_le.mpr hbl
  refine lv_aload_n hx hb dL_law_376 rfl (lv_at hl 1 rfl) ?_
  refine lv_aload_n hx hb dL_law_377 rfl (lv_at hl 0 rfl) ?_
  refine lv_iload hx hb dL_law_378 (lv_at hl 4 rfl) ?_
  refine lv_iconst (v := 1) hx hb dL_law_380 (by decide +kernel) ?_
  refine lv_iadd hx hb dL_law_381 ?_
  refine va_sld hx hb hX hbl hbA hS vi_1 dL_law_382 ?_
  refine lv_topi (fun v9 e9 => ?_)
  obtain rfl : v9 = 0 := e9.trans q0
  have hPc := hP.sub (ws' := [(x, .inr (12, xg)), (tx, .inr (10, txg))]) [0, 1] rfl
  have hDc := hD.sub (ws' := [(x, .inr (12, xg)), (tx, .inr (10, txg))]) [0, 1] (by decide) rfl
  have hKc := hK.sub (tys' := []) [] rfl
  have hFc := va_free (wc := [(x, .inr (12, xg)), (tx, .inr (10, txg))]) hD hS hA [0, 1] rfl
  refine va_calli (vx_runSW (As := [.ref x, .int 0]) (rest := []) ⟨hx, hb, hml, hown, hts⟩ (gx21_L_end l hlt dC dI _ x tx bt xg h_x txg h_tx) (vx_cwSW 2 hts (gi_W wd_1320 wd_1321 wd_326 wd_1322) rfl rfl rfl (by decide +kernel) ⟨(Nat.le_of_ble_eq_true rfl), (Nat.le_of_ble_eq_true rfl)⟩) ⟨fun a U g mk q => by obtain ⟨q0, q1, qP, qK, qD, qT⟩ := q; exact ⟨q0, q1, qP, va_K.moved (u := U) (U := U.calling g mk a) (Vm.Alike.refl U.vm) qK, qD, th.moved (u := U) (U := U.calling g mk a) (Vm.Alike.refl U.vm) qT⟩, fun U hU hW => ⟨rfl, by rw [hU], by rw [hU]; exact hPc, va_K.moved hW.alike hKc, hDc.weaken (fun _ _ _ _ => trivial), by rw [hU]; exact ((hth.kept hS.2.1).narrow hFc).moved hW.alike⟩⟩ rfl rfl hl.1 rfl (lv_room (Nat.le_of_ble_eq_true rfl)) dL_law_383 ⟨(Nat.le_of_ble_eq_true rfl), (Nat.le_of_ble_eq_true rfl)⟩) hS (fun q _ h => hFc q h) hFc (fun r u t H1 locs ht hvm hw hB hz1 hk1 hS => ?_)
  subst hw
  obtain ⟨fs_1, fs_2, h_x, h_tx, hP1, hK1, hD1⟩ := hB
  rw [ht] at hP1
  obtain ⟨hP, hD⟩ := va_join (wr := [(m0, .inr (13, m0g))]) (w1 := [(x, .inr (12, fs_1)), (tx, .inr (10, fs_2))]) hP hD [0, 1] [2] rfl rfl (by decide) (by decide) hk1 hFc hP1 hD1
  have hP := hP.sub (ws' := [(x, .inr (12, fs_1)), (tx, .inr (10, fs_2)), (m0, .inr (13, m0g))]) [1, 2, 0] rfl
  have hD := hD.sub (ws' := [(x, .inr (12, fs_1)), (tx, .inr (10, fs_2)), (m0, .inr (13, m0g))]) [1, 2, 0] (by decide) rfl
  generalize H1 = H at hP hS ⊢
  have hP : va_P (dC, dI) CL [(x, .inr (12, fs_1)), (tx, .inr (10, fs_2)), (m0, .inr (13, m0g))] H := hP
  have hD : va_D A [(x, .inr (12, fs_1)), (tx, .inr (10, fs_2)), (m0, .inr (13, m0g))] := hD
  refine W.widen (k := 452) (n := 2709148) (Nat.le_of_ble_eq_true rfl) (Nat.le_of_ble_eq_true rfl) ?_
  refine lv_istore (lv' := [(5, .int 0), (0, .ref b), (1, .ref x), (2, .ref m0), (3, .ref oA), (4, .int 0)]) hx hb dL_law_386 hl (by decide) rfl (fun ls hl => ?_)
  refine lv_aload_n hx hb dL_law_388 rfl (lv_at hl 3 rfl) ?_
  refine lv_aload_n hx hb dL_law_389 rfl (lv_at hl 1 rfl) ?_
  refine lv_iload hx hb dL_law_390 (lv_at hl 5 rfl) ?_
  refine lv_iconst (v := 1) hx hb dL_law_392 (by decide +kernel) ?_
  refine lv_iadd hx hb dL_law_393 ?_
  refine va_sld hx hb hX hbl hbA hS vi_1 dL_law_394 ?_
  refine lv_topi (fun v9 e9 => ?_)
  obtain rfl : v9 = 0 := e9.trans q0
  have hPc := hP.sub (ws' := [(m0, .inr (13, m0g))]) [2] rfl
  have hDc := hD.sub (ws' := [(m0, .inr (13, m0g))]) [2] (by decide) rfl
  have hKc := hK.sub (tys' := []) [] rfl
  have hFc := va_free (wc := [(m0, .inr (13, m0g))]) hD hS hA [2] rfl
  refine va_callv (va_runV (As := [.int 0]) (rest := []) ⟨hx, hb, hml, hown, hts⟩ (gx23_X13_end l hlt dC dI _ m0 m0g h_m0) (cwV 1 hts (gi_V wd_3712 wd_3713 wd_3714 wd_340 wd_3715) rfl rfl rfl (by decide +kernel) ⟨(Nat.le_of_ble_eq_true rfl), (Nat.le_of_ble_eq_true rfl)⟩) ⟨fun a U g mk q => by obtain ⟨q0, q1, qP, qK, qD, qT⟩ := q; exact ⟨q0, q1, qP, va_K.moved (u := U) (U := U.calling g mk a) (Vm.Alike.refl U.vm) qK, qD, th.moved (u := U) (U := U.calling g mk a) (Vm.Alike.refl U.vm) qT⟩, va_recv hKc hPc (ci := 13) (q0 := 0) rfl rfl, fun U hU hW => ⟨rfl, by rw [hU], by rw [hU]; exact hPc, va_K.moved hW.alike hKc, hDc.weaken (fun _ _ _ _ => trivial), by rw [hU]; exact ((hth.kept hS.2.1).narrow hFc).moved hW.alike⟩⟩ rfl rfl hl.1 rfl (lv_room (Nat.le_of_ble_eq_true rfl)) dL_law_395 ⟨(Nat.le_of_ble_eq_true rfl), (Nat.le_of_ble_eq_true rfl)⟩) hS (fun q _ h => hFc q h) hFc (fun u t H1 locs ht hvm hw hB hz1 hk1 hS => ?_)
  obtain ⟨fs_3, h_m0, hP1, hK1, hD1⟩ := hB
  rw [ht] at hP1
  obtain ⟨hP, hD⟩ := va_join (wr := [(x, .inr (12, fs_1)), (tx, .inr (10, fs_2))]) (w1 := [(m0, .inr (13, fs_3))]) hP hD [2] [0, 1] rfl rfl (by decide) (by decide) hk1 hFc hP1 hD1
  have hP := hP.sub (ws' := [(x, .inr (12, fs_1)), (tx, .inr (10, fs_2)), (m0, .inr (13, fs_3))]) [0, 1, 2] rfl
  have hD := hD.sub (ws' := [(x, .inr (12, fs_1)), (tx, .inr (10, fs_2)), (m0, .inr (13, fs_3))]) [0, 1, 2] (by decide) rfl
  generalize H1 = H at hP hS ⊢
  have hP : va_P (dC, dI) CL [(x, .inr (12, fs_1)), (tx, .inr (10, fs_2)), (m0, .inr (13, fs_3))] H := hP
  have hD : va_D A [(x, .inr (12, fs_1)), (tx, .inr (10, fs_2)), (m0, .inr (13, fs_3))] := hD
  refine lv_aload_n hx hb dL_law_398 rfl (lv_at hl 3 rfl) ?_
  have hPc := hP.sub (ws' := [(m0, .inr (13, fs_3))]) [2] rfl
  have hDc := hD.sub (ws' := [(m0, .inr (13, fs_3))]) [2] (by decide) rfl
  have hKc := hK.sub (tys' := []) [] rfl
  have hFc := va_free (wc := [(m0, .inr (13, fs_3))]) hD hS hA [2] rfl
  refine va_calli (va_runV (As := []) (rest := []) ⟨hx, hb, hml, hown, hts⟩ (gx24_X13_thrown l hlt dC dI _ m0 fs_3 h_m0) (cwV 0 hts (gi_V wd_3015 wd_3016 wd_3017 wd_340 wd_3018) rfl rfl rfl (by decide +kernel) ⟨(Nat.le_of_ble_eq_true rfl), (Nat.le_of_ble_eq_true rfl)⟩) ⟨fun a U g mk q => by obtain ⟨q0, q1, qP, qK, qD, qT⟩ := q; exact ⟨q0, q1, qP, va_K.moved (u := U) (U := U.calling g mk a) (Vm.Alike.refl U.vm) qK, qD, th.moved (u := U) (U := U.calling g mk a) (Vm.Alike.refl U.vm) qT⟩, va_recv hKc hPc (ci := 13) (q0 := 0) rfl rfl, fun U hU hW => ⟨rfl, by rw [hU], by rw [hU]; exact hPc, va_K.moved hW.alike hKc, hDc.weaken (fun _ _ _ _ => trivial), by rw [hU]; exact ((hth.kept hS.2.1).narrow hFc).moved hW.alike⟩⟩ rfl rfl hl.1 rfl (lv_room (Nat.le_of_ble_eq_true rfl)) dL_law_399 ⟨(Nat.le_of_ble_eq_true rfl), (Nat.le_of_ble_eq_true rfl)⟩) hS (fun q _ h => hFc q h) hFc (fun r u t H1 locs ht hvm hw hB hz1 hk1 hS => ?_)
  subst hw
  obtain ⟨fs_4, h_m0, hP1, hK1, hD1⟩ := hB
  rw [ht] at hP1
  obtain ⟨hP, hD⟩ := va_join (wr := [(x, .inr (12, fs_1)), (tx, .inr (10, fs_2))]) (w1 := [(m0, .inr (13, fs_4))]) hP hD [2] [0, 1] rfl rfl (by decide) (by decide) hk1 hFc hP1 hD1
  have hP := hP.sub (ws' := [(x, .inr (12, fs_1)), (tx, .inr (10, fs_2)), (m0, .inr (13, fs_4))]) [0, 1, 2] rfl
  have hD := hD.sub (ws' := [(x, .inr (12, fs_1)), (tx, .inr (10, fs_2)), (m0, .inr (13, fs_4))]) [0, 1, 2] (by decide) rfl
  generalize H1 = H at hP hS ⊢
  have hP : va_P (dC, dI) CL [(x, .inr (12, fs_1)), (tx, .inr (10, fs_2)), (m0, .inr (13, fs_4))] H := hP
  have hD : va_D A [(x, .inr (12, fs_1)), (tx, .inr (10, fs_2)), (m0, .inr (13, fs_4))] := hD
  refine lv_iload hx hb dL_law_402 (lv_at hl 0 rfl) ?_
  refine lv_icmp_eq (tgt := 409) hx hb dL_law_404 (by decide) (fun c9 => ?_) (fun c9 => ?_)
  rotate_left
  · first | exact absurd c9 (by decide +kernel) | exact absurd (by decide +kernel) c9
  refine lv_goto (tgt := 4099) hx hb dL_law_409 (by decide) ?_
  refine W.widen (k := 470) (n := 2709300) (Nat.le_of_ble_eq_true rfl) (Nat.le_of_ble_eq_true rfl) ?_
  rw [eA] at hS
  exact law_tail (v5 := 0) (v6 := 0) (lv := []) C0 hS (lv_sub hl [1, 5] rfl)
set_option maxHeartbeats 4000000 in
set_option maxRecDepth 100000 in
theorem law_end {p : Program} {l : Launch} {e : Env} {s : State} {m : MethodId} {below : List Frame} {meth : Method} {c : Code} {b : Nat} {xs : Nat → Int32} (C0 : lw_At p s m meth c b 7 xs) {dC : Nat → ClassId} {dI : Nat → Nat → Nat} (hlt : l.stackTraces = false) (hth : th (fun q : Nat => s.heap.size ≤ q) s s.heap) (x tx m0 bt oA : Nat) (xg : List Value) (h_x : fx xg 17 [(0, .ref tx)]) (txg : List Value) (h_tx : fx txg 9 [(0, .ref bt), (1, .int 0), (2, .int 0), (3, .int 0), (4, .int 0), (6, .int 0), (7, .int 0), (8, .int 0)]) (m0g : List Value) (h_m0 : fx m0g 225 [(0, .int 0), (2, .int 0), (3, .int 0), (9, .int 0), (10, .int 0), (11, .int 0), (12, .int 0), (27, .int 0), (79, .int 0), (83, .int 0), (95, .int 0)]) (H : Heap) (locs : List Loc) (hK : va_K (dC, dI) CL [] s) (hP : va_P (dC, dI) CL [(x, .inr (12, xg)), (tx, .inr (10, txg)), (m0, .inr (13, m0g))] H) (hD : va_D (fun q : Nat => s.heap.size ≤ q) [(x, .inr (12, xg)), (tx, .inr (10, txg)), (m0, .inr (13, m0g))]) (hS : va_S (fun q : Nat => s.heap.size ≤ q) s.heap H locs) (ls : Array Slot) (hl : lv_has ls 7 [(0, .ref b), (1, .ref x), (2, .ref m0), (3, .ref oA), (4, .int 0)]) : W p l e room_1 s m #[Value.ref b] below meth c H locs 451 2709142 (lw_Z below #[Value.ref b] s) (F0 m 376 ls []) := by
  rcases Decidable.em ((xs ((0 : Int32) + 1).toNatClampNeg) < 0) with zn | zn
  · exact law_end_lt C0 hlt hth _ rfl zn x tx m0 bt oA xg h_x txg h_tx m0g h_m0 H locs (hK.sub [] rfl) (hP.sub [0, 1, 2] rfl) (hD.sub [0, 1, 2] (by decide) rfl) hS ls hl
  · rcases Decidable.em ((xs ((0 : Int32) + 1).toNatClampNeg) = 0) with h0 | h0
    · exact law_end_eq C0 hlt hth h0 x tx m0 bt oA xg h_x txg h_tx m0g h_m0 H locs (hK.sub [] rfl) (hP.sub [0, 1, 2] rfl) (hD.sub [0, 1, 2] (by decide) rfl) hS ls hl
    · exact law_end_gt C0 hlt hth _ rfl zn (hx_pos zn h0) (hx_nle (hx_pos zn h0)) x tx m0 bt oA xg h_x txg h_tx m0g h_m0 H locs (hK.sub [] rfl) (hP.sub [0, 1, 2] rfl) (hD.sub [0, 1, 2] (by decide) rfl) hS ls hl
set_option maxHeartbeats 4000000 in
set_option maxRecDepth 100000 in
theorem law_witness_lt {p : Program} {l : Launch} {e : Env} {s : State} {m : MethodId} {below : List Frame} {meth : Method} {c : Code} {b : Nat} {xs : Nat → Int32} (C0 : lw_At p s m meth c b 7 xs) {dC : Nat → ClassId} {dI : Nat → Nat → Nat} (hlt : l.stackTraces = false) (hth : th (fun q : Nat => s.heap.size ≤ q) s s.heap) (p0 : Int32) (q0 : (xs ((0 : Int32) + 1).toNatClampNeg) = p0) (zn : p0 < 0) (x m0 oA : Nat) (xg : List Value) (h_x : fx xg 17 [(16, .int 0)]) (m0g : List Value) (h_m0 : fx m0g 225 [(0, .int 0), (2, .int 0), (3, .int 0), (9, .int 0), (10, .int 0), (11, .int 0), (12, .int 0), (27, .int 0), (79, .int 0), (83, .int 0), (95, .int 0)]) (oAC : ClassId) (oAf : Nat → Int64) (h_oA : fa oAf []) (H : Heap) (locs : List Loc) (hK : va_K (dC, dI) CL [(oAC, .long)] s) (hP : va_P (dC, dI) CL [(x, .inr (12, xg)), (m0, .inr (13, m0g)), (oA, .inl (oAC, (1, .inr (.inl oAf))))] H) (hD : va_D (fun q : Nat => s.heap.size ≤ q) [(x, .inr (12, xg)), (m0, .inr (13, m0g)), (oA, .inl (oAC, (1, .inr (.inl oAf))))]) (hS : va_S (fun q : Nat => s.heap.size ≤ q) s.heap H locs) (ls : Array Slot) (hl : lv_has ls 7 [(0, .ref b), (1, .ref x), (2, .ref m0), (3, .ref oA), (4, .int 0)]) : W p l e room_1 s m #[Value.ref b] below meth c H locs 451 2709142 (lw_Z below #[Value.ref b] s) (F0 m 1344 ls []) := by
  obtain ⟨hx, hb, hr, hml, hown, hts0, hX, hbl, hlocks, hgv⟩ := id C0
  have hts : ∀ w ∈ BG, w.before _ s = true := fun w h => hts0 w (List.mem_filter.mp h).1
  have hown : s.vm.findClass RL = some m.cls := hown
  obtain ⟨A, eA⟩ : ∃ z : Nat → Prop, z = (fun q : Nat => s.heap.size ≤ q) := ⟨_, rfl⟩
  rw [← eA] at hth hD hS
  have hA : ∀ q : Nat, s.heap.size ≤ q → A q := fun q h => by rw [eA]; exact h
  have hbA : ¬ A b := by rw [eA]; exact Nat.not_le.mpr hbl
  refine lv_aload_n hx hb dL_law_1344 rfl (lv_at hl 1 rfl) ?_
  refine lv_aload_n hx hb dL_law_1345 rfl (lv_at hl 0 rfl) ?_
  refine lv_iload hx hb dL_law_1346 (lv_at hl 4 rfl) ?_
  refine lv_iconst (v := 1) hx hb dL_law_1348 (by decide +kernel) ?_
  refine lv_iadd hx hb dL_law_1349 ?_
  refine va_sld hx hb hX hbl hbA hS vi_1 dL_law_1350 ?_
  refine lv_topi (fun v9 e9 => ?_)
  obtain rfl : p0 = v9 := (e9.trans q0).symm
  refine lv_aload_n hx hb dL_law_1351 rfl (lv_at hl 3 rfl) ?_
  have hPc := hP.sub (ws' := [(x, .inr (12, xg)), (oA, .inl (oAC, (1, .inr (.inl oAf))))]) [0, 2] rfl
  have hDc := hD.sub (ws' := [(x, .inr (12, xg)), (oA, .inl (oAC, (1, .inr (.inl oAf))))]) [0, 2] (by decide) rfl
  have hKc := hK.sub (tys' := [(oAC, .long)]) [0] rfl
  have hFc := va_free (wc := [(x, .inr (12, xg)), (oA, .inl (oAC, (1, .inr (.inl oAf))))]) hD hS hA [0, 2] rfl
  refine va_calli (vx_runSW (As := [.ref x, .int p0, .ref oA]) (rest := []) ⟨hx, hb, hml, hown, hts⟩ (gx25_L_witness l hlt dC dI _ p0 x oA xg h_x oAC oAf h_oA zn) (vx_cwSW 3 hts (gi_W wd_1927 wd_1928 wd_326 wd_1929) rfl rfl rfl (by decide +kernel) ⟨(Nat.le_of_ble_eq_true rfl), (Nat.le_of_ble_eq_true rfl)⟩) ⟨fun a U g mk q => by obtain ⟨q0, q1, qP, qK, qD, qT⟩ := q; exact ⟨q0, q1, qP, va_K.moved (u := U) (U := U.calling g mk a) (Vm.Alike.refl U.vm) qK, qD, th.moved (u := U) (U := U.calling g mk a) (Vm.Alike.refl U.vm) qT⟩, fun U hU hW => ⟨rfl, by rw [hU], by rw [hU]; exact hPc, va_K.moved hW.alike hKc, hDc.weaken (fun _ _ _ _ => trivial), by rw [hU]; exact ((hth.kept hS.2.1).narrow hFc).moved hW.alike⟩⟩ rfl rfl hl.1 rfl (lv_room (Nat.le_of_ble_eq_true rfl)) dL_law_1352 ⟨(Nat.le_of_ble_eq_true rfl), (Nat.le_of_ble_eq_true rfl)⟩) hS (fun q _ h => hFc q h) hFc (fun r u t H1 locs ht hvm hw hB hz1 hk1 hS => ?_)
  subst hw
  obtain ⟨fs_1, f_2, h_x, h_oA, hP1, hK1, hD1⟩ := hB
  rw [ht] at hP1
  obtain ⟨hP, hD⟩ := va_join (wr := [(m0, .inr (13, m0g))]) (w1 := [(x, .inr (12, fs_1)), (oA, .inl (oAC, (1, .inr (.inl f_2))))]) hP hD [0, 2] [1] rfl rfl (by decide) (by decide) hk1 hFc hP1 hD1
  have hP := hP.sub (ws' := [(x, .inr (12, fs_1)), (m0, .inr (13, m0g)), (oA, .inl (oAC, (1, .inr (.inl f_2))))]) [1, 0, 2] rfl
  have hD := hD.sub (ws' := [(x, .inr (12, fs_1)), (m0, .inr (13, m0g)), (oA, .inl (oAC, (1, .inr (.inl f_2))))]) [1, 0, 2] (by decide) rfl
  generalize H1 = H at hP hS ⊢
  have hP : va_P (dC, dI) CL [(x, .inr (12, fs_1)), (m0, .inr (13, m0g)), (oA, .inl (oAC, (1, .inr (.inl f_2))))] H := hP
  have hD : va_D A [(x, .inr (12, fs_1)), (m0, .inr (13, m0g)), (oA, .inl (oAC, (1, .inr (.inl f_2))))] := hD
  refine W.widen (k := 452) (n := 2709148) (Nat.le_of_ble_eq_true rfl) (Nat.le_of_ble_eq_true rfl) ?_
  refine lv_istore (lv' := [(5, .int 1), (0, .ref b), (1, .ref x), (2, .ref m0), (3, .ref oA), (4, .int 0)]) hx hb dL_law_1355 hl (by decide) rfl (fun ls hl => ?_)
  refine lv_aload_n hx hb dL_law_1357 rfl (lv_at hl 3 rfl) ?_
  refine lv_aload_n hx hb dL_law_1358 rfl (lv_at hl 1 rfl) ?_
  refine lv_iload hx hb dL_law_1359 (lv_at hl 5 rfl) ?_
  refine lv_iconst (v := 1) hx hb dL_law_1361 (by decide +kernel) ?_
  refine lv_iadd hx hb dL_law_1362 ?_
  refine va_sld hx hb hX hbl hbA hS vi_1 dL_law_1363 ?_
  refine lv_topi (fun v9 e9 => ?_)
  obtain rfl : p0 = v9 := (e9.trans q0).symm
  have hPc := hP.sub (ws' := [(m0, .inr (13, m0g))]) [1] rfl
  have hDc := hD.sub (ws' := [(m0, .inr (13, m0g))]) [1] (by decide) rfl
  have hKc := hK.sub (tys' := []) [] rfl
  have hFc := va_free (wc := [(m0, .inr (13, m0g))]) hD hS hA [1] rfl
  refine va_calli (va_runV (As := [.int p0]) (rest := []) ⟨hx, hb, hml, hown, hts⟩ (gx27_X13_witness l hlt dC dI _ p0 m0 m0g h_m0 zn) (cwV 1 hts (gi_V wd_4155 wd_4156 wd_4157 wd_340 wd_4158) rfl rfl rfl (by decide +kernel) ⟨(Nat.le_of_ble_eq_true rfl), (Nat.le_of_ble_eq_true rfl)⟩) ⟨fun a U g mk q => by obtain ⟨q0, q1, qP, qK, qD, qT⟩ := q; exact ⟨q0, q1, qP, va_K.moved (u := U) (U := U.calling g mk a) (Vm.Alike.refl U.vm) qK, qD, th.moved (u := U) (U := U.calling g mk a) (Vm.Alike.refl U.vm) qT⟩, va_recv hKc hPc (ci := 13) (q0 := 0) rfl rfl, fun U hU hW => ⟨rfl, by rw [hU], by rw [hU]; exact hPc, va_K.moved hW.alike hKc, hDc.weaken (fun _ _ _ _ => trivial), by rw [hU]; exact ((hth.kept hS.2.1).narrow hFc).moved hW.alike⟩⟩ rfl rfl hl.1 rfl (lv_room (Nat.le_of_ble_eq_true rfl)) dL_law_1364 ⟨(Nat.le_of_ble_eq_true rfl), (Nat.le_of_ble_eq_true rfl)⟩) hS (fun q _ h => hFc q h) hFc (fun r u t H1 locs ht hvm hw hB hz1 hk1 hS => ?_)
  subst hw
  obtain ⟨fs_3, h_m0, hP1, hK1, hD1⟩ := hB
  rw [ht] at hP1
  obtain ⟨hP, hD⟩ := va_join (wr := [(x, .inr (12, fs_1)), (oA, .inl (oAC, (1, .inr (.inl f_2))))]) (w1 := [(m0, .inr (13, fs_3))]) hP hD [1] [0, 2] rfl rfl (by decide) (by decide) hk1 hFc hP1 hD1
  have hP := hP.sub (ws' := [(x, .inr (12, fs_1)), (m0, .inr (13, fs_3)), (oA, .inl (oAC, (1, .inr (.inl f_2))))]) [0, 2, 1] rfl
  have hD := hD.sub (ws' := [(x, .inr (12, fs_1)), (m0, .inr (13, fs_3)), (oA, .inl (oAC, (1, .inr (.inl f_2))))]) [0, 2, 1] (by decide) rfl
  generalize H1 = H at hP hS ⊢
  have hP : va_P (dC, dI) CL [(x, .inr (12, fs_1)), (m0, .inr (13, fs_3)), (oA, .inl (oAC, (1, .inr (.inl f_2))))] H := hP
  have hD : va_D A [(x, .inr (12, fs_1)), (m0, .inr (13, fs_3)), (oA, .inl (oAC, (1, .inr (.inl f_2))))] := hD
  refine lv_istore (lv' := [(6, .int 0), (5, .int 1), (0, .ref b), (1, .ref x), (2, .ref m0), (3, .ref oA), (4, .int 0)]) hx hb dL_law_1367 hl (by decide) rfl (fun ls hl => ?_)
  refine lv_aload_n hx hb dL_law_1369 rfl (lv_at hl 4 rfl) ?_
  have hPc := hP.sub (ws' := [(m0, .inr (13, fs_3))]) [1] rfl
  have hDc := hD.sub (ws' := [(m0, .inr (13, fs_3))]) [1] (by decide) rfl
  have hKc := hK.sub (tys' := []) [] rfl
  have hFc := va_free (wc := [(m0, .inr (13, fs_3))]) hD hS hA [1] rfl
  refine va_calli (va_runV (As := []) (rest := []) ⟨hx, hb, hml, hown, hts⟩ (gx17_X13_thrown l hlt dC dI _ m0 fs_3 h_m0) (cwV 0 hts (gi_V wd_3015 wd_3016 wd_3017 wd_340 wd_3018) rfl rfl rfl (by decide +kernel) ⟨(Nat.le_of_ble_eq_true rfl), (Nat.le_of_ble_eq_true rfl)⟩) ⟨fun a U g mk q => by obtain ⟨q0, q1, qP, qK, qD, qT⟩ := q; exact ⟨q0, q1, qP, va_K.moved (u := U) (U := U.calling g mk a) (Vm.Alike.refl U.vm) qK, qD, th.moved (u := U) (U := U.calling g mk a) (Vm.Alike.refl U.vm) qT⟩, va_recv hKc hPc (ci := 13) (q0 := 0) rfl rfl, fun U hU hW => ⟨rfl, by rw [hU], by rw [hU]; exact hPc, va_K.moved hW.alike hKc, hDc.weaken (fun _ _ _ _ => trivial), by rw [hU]; exact ((hth.kept hS.2.1).narrow hFc).moved hW.alike⟩⟩ rfl rfl hl.1 rfl (lv_room (Nat.le_of_ble_eq_true rfl)) dL_law_1370 ⟨(Nat.le_of_ble_eq_true rfl), (Nat.le_of_ble_eq_true rfl)⟩) hS (fun q _ h => hFc q h) hFc (fun r u t H1 locs ht hvm hw hB hz1 hk1 hS => ?_)
  subst hw
  obtain ⟨fs_4, h_m0, hP1, hK1, hD1⟩ := hB
  rw [ht] at hP1
  obtain ⟨hP, hD⟩ := va_join (wr := [(x, .inr (12, fs_1)), (oA, .inl (oAC, (1, .inr (.inl f_2))))]) (w1 := [(m0, .inr (13, fs_4))]) hP hD [1] [0, 2] rfl rfl (by decide) (by decide) hk1 hFc hP1 hD1
  have hP := hP.sub (ws' := [(x, .inr (12, fs_1)), (m0, .inr (13, fs_4)), (oA, .inl (oAC, (1, .inr (.inl f_2))))]) [0, 2, 1] rfl
  have hD := hD.sub (ws' := [(x, .inr (12, fs_1)), (m0, .inr (13, fs_4)), (oA, .inl (oAC, (1, .inr (.inl f_2))))]) [0, 2, 1] (by decide) rfl
  generalize H1 = H at hP hS ⊢
  have hP : va_P (dC, dI) CL [(x, .inr (12, fs_1)), (m0, .inr (13, fs_4)), (oA, .inl (oAC, (1, .inr (.inl f_2))))] H := hP
  have hD : va_D A [(x, .inr (12, fs_1)), (m0, .inr (13, fs_4)), (oA, .inl (oAC, (1, .inr (.inl f_2))))] := hD
  refine lv_iload hx hb dL_law_1373 (lv_at hl 1 rfl) ?_
  refine lv_icmp_eq (tgt := 1380) hx hb dL_law_1375 (by decide) (fun c9 => ?_) (fun c9 => ?_)
  rotate_left
  · first | exact absurd c9 (by decide +kernel) | exact absurd (by decide +kernel) c9
  refine lv_iload hx hb dL_law_1380 (lv_at hl 1 rfl) ?_
  refine lv_if_ne (tgt := 1397) hx hb dL_law_1382 (by decide) (fun c9 => ?_) (fun c9 => ?_)
  rotate_left
  · first | exact absurd c9 (by decide +kernel) | exact absurd (by decide +kernel) c9
  refine lv_goto (tgt := 4099) hx hb dL_law_1397 (by decide) ?_
  refine W.widen (k := 470) (n := 2709300) (Nat.le_of_ble_eq_true rfl) (Nat.le_of_ble_eq_true rfl) ?_
  rw [eA] at hS
  exact law_tail (v5 := 0) (v6 := 0) (lv := []) C0 hS (lv_sub hl [2, 6] rfl)
set_option maxHeartbeats 4000000 in
set_option maxRecDepth 100000 in
theorem law_witness_ge {p : Program} {l : Launch} {e : Env} {s : State} {m : MethodId} {below : List Frame} {meth : Method} {c : Code} {b : Nat} {xs : Nat → Int32} (C0 : lw_At p s m meth c b 7 xs) {dC : Nat → ClassId} {dI : Nat → Nat → Nat} (hlt : l.stackTraces = false) (hth : th (fun q : Nat => s.heap.size ≤ q) s s.heap) (p0 : Int32) (q0 : (xs ((0 : Int32) + 1).toNatClampNeg) = p0) (zn : ¬ p0 < 0) (zp : 0 ≤ p0) (x m0 oA : Nat) (xg : List Value) (h_x : fx xg 17 [(16, .int 0)]) (m0g : List Value) (h_m0 : fx m0g 225 [(0, .int 0), (2, .int 0), (3, .int 0), (9, .int 0), (10, .int 0), (11, .int 0), (12, .int 0), (27, .int 0), (79, .int 0), (83, .int 0), (95, .int 0)]) (oAC : ClassId) (oAf : Nat → Int64) (h_oA : fa oAf []) (H : Heap) (locs : List Loc) (hK : va_K (dC, dI) CL [(oAC, .long)] s) (hP : va_P (dC, dI) CL [(x, .inr (12, xg)), (m0, .inr (13, m0g)), (oA, .inl (oAC, (1, .inr (.inl oAf))))] H) (hD : va_D (fun q : Nat => s.heap.size ≤ q) [(x, .inr (12, xg)), (m0, .inr (13, m0g)), (oA, .inl (oAC, (1, .inr (.inl oAf))))]) (hS : va_S (fun q : Nat => s.heap.size ≤ q) s.heap H locs) (ls : Array Slot) (hl : lv_has ls 7 [(0, .ref b), (1, .ref x), (2, .ref m0), (3, .ref oA), (4, .int 0)]) : W p l e room_1 s m #[Value.ref b] below meth c H locs 451 2709142 (lw_Z below #[Value.ref b] s) (F0 m 1344 ls []) := by
  obtain ⟨hx, hb, hr, hml, hown, hts0, hX, hbl, hlocks, hgv⟩ := id C0
  have hts : ∀ w ∈ BG, w.before _ s = true := fun w h => hts0 w (List.mem_filter.mp h).1
  have hown : s.vm.findClass RL = some m.cls := hown
  obtain ⟨A, eA⟩ : ∃ z : Nat → Prop, z = (fun q : Nat => s.heap.size ≤ q) := ⟨_, rfl⟩
  rw [← eA] at hth hD hS
  have hA : ∀ q : Nat, s.heap.size ≤ q → A q := fun q h => by rw [eA]; exact h
  have hbA : ¬ A b := by rw [eA]; exact Nat.not_le.mpr hbl
  refine lv_aload_n hx hb dL_law_1344 rfl (lv_at hl 1 rfl) ?_
  refine lv_aload_n hx hb dL_law_1345 rfl (lv_at hl 0 rfl) ?_
  refine lv_iload hx hb dL_law_1346 (lv_at hl 4 rfl) ?_
  refine lv_iconst (v := 1) hx hb dL_law_1348 (by decide +kernel) ?_
  refine lv_iadd hx hb dL_law_1349 ?_
  refine va_sld hx hb hX hbl hbA hS vi_1 dL_law_1350 ?_
  refine lv_topi (fun v9 e9 => ?_)
  obtain rfl : p0 = v9 := (e9.trans q0).symm
  refine lv_aload_n hx hb dL_law_1351 rfl (lv_at hl 3 rfl) ?_
  have hPc := hP.sub (ws' := [(x, .inr (12, xg)), (oA, .inl (oAC, (1, .inr (.inl oAf))))]) [0, 2] rfl
  have hDc := hD.sub (ws' := [(x, .inr (12, xg)), (oA, .inl (oAC, (1, .inr (.inl oAf))))]) [0, 2] (by decide) rfl
  have hKc := hK.sub (tys' := [(oAC, .long)]) [0] rfl
  have hFc := va_free (wc := [(x, .inr (12, xg)), (oA, .inl (oAC, (1, .inr (.inl oAf))))]) hD hS hA [0, 2] rfl
  refine va_calli (vx_runSW (As := [.ref x, .int p0, .ref oA]) (rest := []) ⟨hx, hb, hml, hown, hts⟩ (gx28_L_witness l hlt dC dI _ p0 x oA xg h_x oAC oAf h_oA zn zp) (vx_cwSW 3 hts (gi_W wd_1927 wd_1928 wd_326 wd_1929) rfl rfl rfl (by decide +kernel) ⟨(Nat.le_of_ble_eq_true rfl), (Nat.le_of_ble_eq_true rfl)⟩) ⟨fun a U g mk q => by obtain ⟨q0, q1, qP, qK, qD, qT⟩ := q; exact ⟨q0, q1, qP, va_K.moved (u := U) (U := U.calling g mk a) (Vm.Alike.refl U.vm) qK, qD, th.moved (u := U) (U := U.calling g mk a) (Vm.Alike.refl U.vm) qT⟩, fun U hU hW => ⟨rfl, by rw [hU], by rw [hU]; exact hPc, va_K.moved hW.alike hKc, hDc.weaken (fun _ _ _ _ => trivial), by rw [hU]; exact ((hth.kept hS.2.1).narrow hFc).moved hW.alike⟩⟩ rfl rfl hl.1 rfl (lv_room (Nat.le_of_ble_eq_true rfl)) dL_law_1352 ⟨(Nat.le_of_ble_eq_true rfl), (Nat.le_of_ble_eq_true rfl)⟩) hS (fun q _ h => hFc q h) hFc (fun r u t H1 locs ht hvm hw hB hz1 hk1 hS => ?_)
  subst hw
  obtain ⟨fs_1, f_2, h_x, h_oA, hP1, hK1, hD1⟩ := hB
  rw [ht] at hP1
  obtain ⟨hP, hD⟩ := va_join (wr := [(m0, .inr (13, m0g))]) (w1 := [(x, .inr (12, fs_1)), (oA, .inl (oAC, (1, .inr (.inl f_2))))]) hP hD [0, 2] [1] rfl rfl (by decide) (by decide) hk1 hFc hP1 hD1
  have hP := hP.sub (ws' := [(x, .inr (12, fs_1)), (m0, .inr (13, m0g)), (oA, .inl (oAC, (1, .inr (.inl f_2))))]) [1, 0, 2] rfl
  have hD := hD.sub (ws' := [(x, .inr (12, fs_1)), (m0, .inr (13, m0g)), (oA, .inl (oAC, (1, .inr (.inl f_2))))]) [1, 0, 2] (by decide) rfl
  generalize H1 = H at hP hS ⊢
  have hP : va_P (dC, dI) CL [(x, .inr (12, fs_1)), (m0, .inr (13, m0g)), (oA, .inl (oAC, (1, .inr (.inl f_2))))] H := hP
  have hD : va_D A [(x, .inr (12, fs_1)), (m0, .inr (13, m0g)), (oA, .inl (oAC, (1, .inr (.inl f_2))))] := hD
  refine W.widen (k := 452) (n := 2709148) (Nat.le_of_ble_eq_true rfl) (Nat.le_of_ble_eq_true rfl) ?_
  refine lv_istore (lv' := [(5, .int 1), (0, .ref b), (1, .ref x), (2, .ref m0), (3, .ref oA), (4, .int 0)]) hx hb dL_law_1355 hl (by decide) rfl (fun ls hl => ?_)
  refine lv_aload_n hx hb dL_law_1357 rfl (lv_at hl 3 rfl) ?_
  refine lv_aload_n hx hb dL_law_1358 rfl (lv_at hl 1 rfl) ?_
  refine lv_iload hx hb dL_law_1359 (lv_at hl 5 rfl) ?_
  refine lv_iconst (v := 1) hx hb dL_law_1361 (by decide +kernel) ?_
  refine lv_iadd hx hb dL_law_1362 ?_
  refine va_sld hx hb hX hbl hbA hS vi_1 dL_law_1363 ?_
  refine lv_topi (fun v9 e9 => ?_)
  obtain rfl : p0 = v9 := (e9.trans q0).symm
  have hPc := hP.sub (ws' := [(m0, .inr (13, m0g))]) [1] rfl
  have hDc := hD.sub (ws' := [(m0, .inr (13, m0g))]) [1] (by decide) rfl
  have hKc := hK.sub (tys' := []) [] rfl
  have hFc := va_free (wc := [(m0, .inr (13, m0g))]) hD hS hA [1] rfl
  refine va_calli (va_runV (As := [.int p0]) (rest := []) ⟨hx, hb, hml, hown, hts⟩ (gx30_X13_witness l hlt dC dI _ p0 m0 m0g h_m0 zn zp) (cwV 1 hts (gi_V wd_4155 wd_4156 wd_4157 wd_340 wd_4158) rfl rfl rfl (by decide +kernel) ⟨(Nat.le_of_ble_eq_true rfl), (Nat.le_of_ble_eq_true rfl)⟩) ⟨fun a U g mk q => by obtain ⟨q0, q1, qP, qK, qD, qT⟩ := q; exact ⟨q0, q1, qP, va_K.moved (u := U) (U := U.calling g mk a) (Vm.Alike.refl U.vm) qK, qD, th.moved (u := U) (U := U.calling g mk a) (Vm.Alike.refl U.vm) qT⟩, va_recv hKc hPc (ci := 13) (q0 := 0) rfl rfl, fun U hU hW => ⟨rfl, by rw [hU], by rw [hU]; exact hPc, va_K.moved hW.alike hKc, hDc.weaken (fun _ _ _ _ => trivial), by rw [hU]; exact ((hth.kept hS.2.1).narrow hFc).moved hW.alike⟩⟩ rfl rfl hl.1 rfl (lv_room (Nat.le_of_ble_eq_true rfl)) dL_law_1364 ⟨(Nat.le_of_ble_eq_true rfl), (Nat.le_of_ble_eq_true rfl)⟩) hS (fun q _ h => hFc q h) hFc (fun r u t H1 locs ht hvm hw hB hz1 hk1 hS => ?_)
  subst hw
  obtain ⟨fs_3, h_m0, hP1, hK1, hD1⟩ := hB
  rw [ht] at hP1
  obtain ⟨hP, hD⟩ := va_join (wr := [(x, .inr (12, fs_1)), (oA, .inl (oAC, (1, .inr (.inl f_2))))]) (w1 := [(m0, .inr (13, fs_3))]) hP hD [1] [0, 2] rfl rfl (by decide) (by decide) hk1 hFc hP1 hD1
  have hP := hP.sub (ws' := [(x, .inr (12, fs_1)), (m0, .inr (13, fs_3)), (oA, .inl (oAC, (1, .inr (.inl f_2))))]) [0, 2, 1] rfl
  have hD := hD.sub (ws' := [(x, .inr (12, fs_1)), (m0, .inr (13, fs_3)), (oA, .inl (oAC, (1, .inr (.inl f_2))))]) [0, 2, 1] (by decide) rfl
  generalize H1 = H at hP hS ⊢
  have hP : va_P (dC, dI) CL [(x, .inr (12, fs_1)), (m0, .inr (13, fs_3)), (oA, .inl (oAC, (1, .inr (.inl f_2))))] H := hP
  have hD : va_D A [(x, .inr (12, fs_1)), (m0, .inr (13, fs_3)), (oA, .inl (oAC, (1, .inr (.inl f_2))))] := hD
  refine lv_istore (lv' := [(6, .int 0), (5, .int 1), (0, .ref b), (1, .ref x), (2, .ref m0), (3, .ref oA), (4, .int 0)]) hx hb dL_law_1367 hl (by decide) rfl (fun ls hl => ?_)
  refine lv_aload_n hx hb dL_law_1369 rfl (lv_at hl 4 rfl) ?_
  have hPc := hP.sub (ws' := [(m0, .inr (13, fs_3))]) [1] rfl
  have hDc := hD.sub (ws' := [(m0, .inr (13, fs_3))]) [1] (by decide) rfl
  have hKc := hK.sub (tys' := []) [] rfl
  have hFc := va_free (wc := [(m0, .inr (13, fs_3))]) hD hS hA [1] rfl
  refine va_calli (va_runV (As := []) (rest := []) ⟨hx, hb, hml, hown, hts⟩ (gx17_X13_thrown l hlt dC dI _ m0 fs_3 h_m0) (cwV 0 hts (gi_V wd_3015 wd_3016 wd_3017 wd_340 wd_3018) rfl rfl rfl (by decide +kernel) ⟨(Nat.le_of_ble_eq_true rfl), (Nat.le_of_ble_eq_true rfl)⟩) ⟨fun a U g mk q => by obtain ⟨q0, q1, qP, qK, qD, qT⟩ := q; exact ⟨q0, q1, qP, va_K.moved (u := U) (U := U.calling g mk a) (Vm.Alike.refl U.vm) qK, qD, th.moved (u := U) (U := U.calling g mk a) (Vm.Alike.refl U.vm) qT⟩, va_recv hKc hPc (ci := 13) (q0 := 0) rfl rfl, fun U hU hW => ⟨rfl, by rw [hU], by rw [hU]; exact hPc, va_K.moved hW.alike hKc, hDc.weaken (fun _ _ _ _ => trivial), by rw [hU]; exact ((hth.kept hS.2.1).narrow hFc).moved hW.alike⟩⟩ rfl rfl hl.1 rfl (lv_room (Nat.le_of_ble_eq_true rfl)) dL_law_1370 ⟨(Nat.le_of_ble_eq_true rfl), (Nat.le_of_ble_eq_true rfl)⟩) hS (fun q _ h => hFc q h) hFc (fun r u t H1 locs ht hvm hw hB hz1 hk1 hS => ?_)
  subst hw
  obtain ⟨fs_4, h_m0, hP1, hK1, hD1⟩ := hB
  rw [ht] at hP1
  obtain ⟨hP, hD⟩ := va_join (wr := [(x, .inr (12, fs_1)), (oA, .inl (oAC, (1, .inr (.inl f_2))))]) (w1 := [(m0, .inr (13, fs_4))]) hP hD [1] [0, 2] rfl rfl (by decide) (by decide) hk1 hFc hP1 hD1
  have hP := hP.sub (ws' := [(x, .inr (12, fs_1)), (m0, .inr (13, fs_4)), (oA, .inl (oAC, (1, .inr (.inl f_2))))]) [0, 2, 1] rfl
  have hD := hD.sub (ws' := [(x, .inr (12, fs_1)), (m0, .inr (13, fs_4)), (oA, .inl (oAC, (1, .inr (.inl f_2))))]) [0, 2, 1] (by decide) rfl
  generalize H1 = H at hP hS ⊢
  have hP : va_P (dC, dI) CL [(x, .inr (12, fs_1)), (m0, .inr (13, fs_4)), (oA, .inl (oAC, (1, .inr (.inl f_2))))] H := hP
  have hD : va_D A [(x, .inr (12, fs_1)), (m0, .inr (13, fs_4)), (oA, .inl (oAC, (1, .inr (.inl f_2))))] := hD
  refine lv_iload hx hb dL_law_1373 (lv_at hl 1 rfl) ?_
  refine lv_icmp_eq (tgt := 1380) hx hb dL_law_1375 (by decide) (fun c9 => ?_) (fun c9 => ?_)
  rotate_left
  · first | exact absurd c9 (by decide +kernel) | exact absurd (by decide +kernel) c9
  refine lv_iload hx hb dL_law_1380 (lv_at hl 1 rfl) ?_
  refine lv_if_ne (tgt := 1397) hx hb dL_law_1382 (by decide) (fun c9 => ?_) (fun c9 => ?_)
  rotate_left
  · first | exact absurd c9 (by decide +kernel) | exact absurd (by decide +kernel) c9
  refine lv_goto (tgt := 4099) hx hb dL_law_1397 (by decide) ?_
  refine W.widen (k := 470) (n := 2709300) (Nat.le_of_ble_eq_true rfl) (Nat.le_of_ble_eq_true rfl) ?_
  rw [eA] at hS
  exact law_tail (v5 := 0) (v6 := 0) (lv := []) C0 hS (lv_sub hl [2, 6] rfl)
set_option maxHeartbeats 4000000 in
set_option maxRecDepth 100000 in
theorem law_witness {p : Program} {l : Launch} {e : Env} {s : State} {m : MethodId} {below : List Frame} {meth : Method} {c : Code} {b : Nat} {xs : Nat → Int32} (C0 : lw_At p s m meth c b 7 xs) {dC : Nat → ClassId} {dI : Nat → Nat → Nat} (hlt : l.stackTraces = false) (hth : th (fun q : Nat => s.heap.size ≤ q) s s.heap) (x m0 oA : Nat) (xg : List Value) (h_x : fx xg 17 [(16, .int 0)]) (m0g : List Value) (h_m0 : fx m0g 225 [(0, .int 0), (2, .int 0), (3, .int 0), (9, .int 0), (10, .int 0), (11, .int 0), (12, .int 0), (27, .int 0), (79, .int 0), (83, .int 0), (95, .int 0)]) (oAC : ClassId) (oAf : Nat → Int64) (h_oA : fa oAf []) (H : Heap) (locs : List Loc) (hK : va_K (dC, dI) CL [(oAC, .long)] s) (hP : va_P (dC, dI) CL [(x, .inr (12, xg)), (m0, .inr (13, m0g)), (oA, .inl (oAC, (1, .inr (.inl oAf))))] H) (hD : va_D (fun q : Nat => s.heap.size ≤ q) [(x, .inr (12, xg)), (m0, .inr (13, m0g)), (oA, .inl (oAC, (1, .inr (.inl oAf))))]) (hS : va_S (fun q : Nat => s.heap.size ≤ q) s.heap H locs) (ls : Array Slot) (hl : lv_has ls 7 [(0, .ref b), (1, .ref x), (2, .ref m0), (3, .ref oA), (4, .int 0)]) : W p l e room_1 s m #[Value.ref b] below meth c H locs 451 2709142 (lw_Z below #[Value.ref b] s) (F0 m 1344 ls []) := by
  rcases Decidable.em ((xs ((0 : Int32) + 1).toNatClampNeg) < 0) with zn | zn
  · exact law_witness_lt C0 hlt hth _ rfl zn x m0 oA xg h_x m0g h_m0 oAC oAf h_oA H locs (hK.sub [0] rfl) (hP.sub [0, 1, 2] rfl) (hD.sub [0, 1, 2] (by decide) rfl) hS ls hl
  · exact law_witness_ge C0 hlt hth _ rfl zn (hx_not zn) x m0 oA xg h_x m0g h_m0 oAC oAf h_oA H locs (hK.sub [0] rfl) (hP.sub [0, 1, 2] rfl) (hD.sub [0, 1, 2] (by decide) rfl) hS ls hl
set_option maxHeartbeats 4000000 in
set_option maxRecDepth 100000 in
theorem law_map_v {p : Program} {l : Launch} {e : Env} {s : State} {m : MethodId} {below : List Frame} {meth : Method} {c : Code} {b : Nat} {xs : Nat → Int32} (C0 : lw_At p s m meth c b 7 xs) {dC : Nat → ClassId} {dI : Nat → Nat → Nat} (hlt : l.stackTraces = false) (hth : th (fun q : Nat => s.heap.size ≤ q) s s.heap) (p0 : Int32) (q0 : (xs ((0 : Int32) + 1).toNatClampNeg) = p0) (p1 : Int32) (q1 : (xs ((0 : Int32) + 2).toNatClampNeg) = p1) (x deA de0 de1 de2 de3 de4 de5 m0 md mch oA : Nat) (xg : List Value) (h_x : fx xg 17 [(7, .ref deA)]) (deAC : ClassId) (deAF : Nat → Option Nat) (de0g : List Value) (h_de0 : fx de0g 16 [(0, .int 0)]) (de1g : List Value) (h_de1 : fx de1g 16 [(0, .int 0)]) (de2g : List Value) (h_de2 : fx de2g 16 [(0, .int 0)]) (de3g : List Value) (h_de3 : fx de3g 16 [(0, .int 0)]) (de4g : List Value) (h_de4 : fx de4g 16 [(0, .int 0)]) (de5g : List Value) (h_de5 : fx de5g 16 [(0, .int 0)]) (m0g : List Value) (h_m0 : fx m0g 225 [(0, .int 0), (2, .int 0), (3, .int 0), (9, .int 0), (10, .int 0), (11, .int 0), (12, .int 0), (27, .int 0), (55, .ref md), (79, .int 0), (83, .int 0), (95, .int 0), (138, .ref mch)]) (mdC : ClassId) (mchC : ClassId) (h_deA0 : deAF 0 = some de0) (h_deA1 : deAF 1 = some de1) (h_deA2 : deAF 2 = some de2) (h_deA3 : deAF 3 = some de3) (h_deA4 : deAF 4 = some de4) (h_deA5 : deAF 5 = some de5) (H : Heap) (locs : List Loc) (hK : va_K (dC, dI) CL [(deAC, .object "ChipFlow$Design"), (mdC, .boolean), (mchC, .boolean)] s) (hP : va_P (dC, dI) CL [(x, .inr (12, xg)), (deA, .inl (deAC, (6, .inr (.inr (.inr (.inr deAF)))))), (de0, .inr (3, de0g)), (de1, .inr (3, de1g)), (de2, .inr (3, de2g)), (de3, .inr (3, de3g)), (de4, .inr (3, de4g)), (de5, .inr (3, de5g)), (m0, .inr (13, m0g)), (md, .inl (mdC, (6, .inl (fun _ => 0)))), (mch, .inl (mchC, (4, .inl (fun _ => 0))))] H) (hD : va_D (fun q : Nat => s.heap.size ≤ q) [(x, .inr (12, xg)), (deA, .inl (deAC, (6, .inr (.inr (.inr (.inr deAF)))))), (de0, .inr (3, de0g)), (de1, .inr (3, de1g)), (de2, .inr (3, de2g)), (de3, .inr (3, de3g)), (de4, .inr (3, de4g)), (de5, .inr (3, de5g)), (m0, .inr (13, m0g)), (md, .inl (mdC, (6, .inl (fun _ => 0)))), (mch, .inl (mchC, (4, .inl (fun _ => 0))))]) (hS : va_S (fun q : Nat => s.heap.size ≤ q) s.heap H locs) (ls : Array Slot) (hl : lv_has ls 7 [(0, .ref b), (1, .ref x), (2, .ref m0), (3, .ref oA), (4, .int 0)]) : W p l e room_1 s m #[Value.ref b] below meth c H locs 451 2709142 (lw_Z below #[Value.ref b] s) (F0 m 1400 ls []) := by
  obtain ⟨hx, hb, hr, hml, hown, hts0, hX, hbl, hlocks, hgv⟩ := id C0
  have hts : ∀ w ∈ BG, w.before _ s = true := fun w h => hts0 w (List.mem_filter.mp h).1
  have hown : s.vm.findClass RL = some m.cls := hown
  obtain ⟨A, eA⟩ : ∃ z : Nat → Prop, z = (fun q : Nat => s.heap.size ≤ q) := ⟨_, rfl⟩
  rw [← eA] at hth hD hS
  have hA : ∀ q : Nat, s.heap.size ≤ q → A q := fun q h => by rw [eA]; exact h
  have hbA : ¬ A b := by rw [eA]; exact Nat.not_le.mpr hbl
  refine lv_aload_n hx hb dL_law_1400 rfl (lv_at hl 1 rfl) ?_
  refine lv_aload_n hx hb dL_law_1401 rfl (lv_at hl 0 rfl) ?_
  refine lv_iload hx hb dL_law_1402 (lv_at hl 4 rfl) ?_
  refine lv_iconst (v := 1) hx hb dL_law_1404 (by decide +kernel) ?_
  refine lv_iadd hx hb dL_law_1405 ?_
  refine va_sld hx hb hX hbl hbA hS vi_1 dL_law_1406 ?_
  refine lv_topi (fun v9 e9 => ?_)
  obtain rfl : p0 = v9 := (e9.trans q0).symm
  refine lv_aload_n hx hb dL_law_1407 rfl (lv_at hl 0 rfl) ?_
  refine lv_iload hx hb dL_law_1408 (lv_at hl 4 rfl) ?_
  refine lv_iconst (v := 2) hx hb dL_law_1410 (by decide +kernel) ?_
  refine lv_iadd hx hb dL_law_1411 ?_
  refine va_sld hx hb hX hbl hbA hS vi_2 dL_law_1412 ?_
  refine lv_topi (fun v9 e9 => ?_)
  obtain rfl : p1 = v9 := (e9.trans q1).symm
  refine lv_aload_n hx hb dL_law_1413 rfl (lv_at hl 3 rfl) ?_
  have hPc := hP.sub (ws' := [(x, .inr (12, xg)), (deA, .inl (deAC, (6, .inr (.inr (.inr (.inr deAF)))))), (de0, .inr (3, de0g)), (de1, .inr (3, de1g)), (de2, .inr (3, de2g)), (de3, .inr (3, de3g)), (de4, .inr (3, de4g)), (de5, .inr (3, de5g))]) [0, 1, 2, 3, 4, 5, 6, 7] rfl
  have hDc := hD.sub (ws' := [(x, .inr (12, xg)), (deA, .inl (deAC, (6, .inr (.inr (.inr (.inr deAF)))))), (de0, .inr (3, de0g)), (de1, .inr (3, de1g)), (de2, .inr (3, de2g)), (de3, .inr (3, de3g)), (de4, .inr (3, de4g)), (de5, .inr (3, de5g))]) [0, 1, 2, 3, 4, 5, 6, 7] (by decide) rfl
  have hKc := hK.sub (tys' := [(deAC, .object "ChipFlow$Design")]) [0] rfl
  have hFc := va_free (wc := [(x, .inr (12, xg)), (deA, .inl (deAC, (6, .inr (.inr (.inr (.inr deAF)))))), (de0, .inr (3, de0g)), (de1, .inr (3, de1g)), (de2, .inr (3, de2g)), (de3, .inr (3, de3g)), (de4, .inr (3, de4g)), (de5, .inr (3, de5g))]) hD hS hA [0, 1, 2, 3, 4, 5, 6, 7] rfl
  refine va_calli (vx_runSW (As := [.ref x, .int p0, .int p1, .ref oA]) (rest := []) ⟨hx, hb, hml, hown, hts⟩ (gx31_L_map l hlt dC dI _ p0 p1 x deA de0 de1 de2 de3 de4 de5 oA xg h_x deAC deAF de0g h_de0 de1g h_de1 de2g h_de2 de3g h_de3 de4g h_de4 de5g h_de5 h_deA0 h_deA1 h_deA2 h_deA3 h_deA4 h_deA5) (vx_cwSW 4 hts (gi_W wd_1934 wd_1935 wd_326 wd_1936) rfl rfl rfl (by decide +kernel) ⟨(Nat.le_of_ble_eq_true rfl), (Nat.le_of_ble_eq_true rfl)⟩) ⟨fun a U g mk q => by obtain ⟨q0, q1, qP, qK, qD, qT⟩ := q; exact ⟨q0, q1, qP, va_K.moved (u := U) (U := U.calling g mk a) (Vm.Alike.refl U.vm) qK, qD, th.moved (u := U) (U := U.calling g mk a) (Vm.Alike.refl U.vm) qT⟩, fun U hU hW => ⟨rfl, by rw [hU], by rw [hU]; exact hPc, va_K.moved hW.alike hKc, hDc.weaken (fun _ _ _ _ => trivial), by rw [hU]; exact ((hth.kept hS.2.1).narrow hFc).moved hW.alike⟩⟩ rfl rfl hl.1 rfl (lv_room (Nat.le_of_ble_eq_true rfl)) dL_law_1414 ⟨(Nat.le_of_ble_eq_true rfl), (Nat.le_of_ble_eq_true rfl)⟩) hS (fun q _ h => hFc q h) hFc (fun r u t H1 locs ht hvm hw hB hz1 hk1 hS => ?_)
  subst hw
  obtain ⟨hP1, hK1, hD1⟩ := hB
  rw [ht] at hP1
  obtain ⟨hP, hD⟩ := va_join (wr := [(m0, .inr (13, m0g)), (md, .inl (mdC, (6, .inl (fun _ => 0)))), (mch, .inl (mchC, (4, .inl (fun _ => 0))))]) (w1 := []) hP hD [0, 1, 2, 3, 4, 5, 6, 7] [8, 9, 10] rfl rfl (by decide) (by decide) hk1 hFc hP1 hD1
  have hP := hP.sub (ws' := [(m0, .inr (13, m0g)), (md, .inl (mdC, (6, .inl (fun _ => 0)))), (mch, .inl (mchC, (4, .inl (fun _ => 0))))]) [0, 1, 2] rfl
  have hD := hD.sub (ws' := [(m0, .inr (13, m0g)), (md, .inl (mdC, (6, .inl (fun _ => 0)))), (mch, .inl (mchC, (4, .inl (fun _ => 0))))]) [0, 1, 2] (by decide) rfl
  have hK := hK.sub (tys' := [(mdC, .boolean), (mchC, .boolean)]) [1, 2] rfl
  generalize H1 = H at hP hS ⊢
  have hP : va_P (dC, dI) CL [(m0, .inr (13, m0g)), (md, .inl (mdC, (6, .inl (fun _ => 0)))), (mch, .inl (mchC, (4, .inl (fun _ => 0))))] H := hP
  have hD : va_D A [(m0, .inr (13, m0g)), (md, .inl (mdC, (6, .inl (fun _ => 0)))), (mch, .inl (mchC, (4, .inl (fun _ => 0))))] := hD
  refine W.widen (k := 452) (n := 2709148) (Nat.le_of_ble_eq_true rfl) (Nat.le_of_ble_eq_true rfl) ?_
  refine lv_istore (lv' := [(5, .int 1), (0, .ref b), (1, .ref x), (2, .ref m0), (3, .ref oA), (4, .int 0)]) hx hb dL_law_1417 hl (by decide) rfl (fun ls hl => ?_)
  refine lv_aload_n hx hb dL_law_1419 rfl (lv_at hl 3 rfl) ?_
  refine lv_aload_n hx hb dL_law_1420 rfl (lv_at hl 1 rfl) ?_
  refine lv_iload hx hb dL_law_1421 (lv_at hl 5 rfl) ?_
  refine lv_iconst (v := 1) hx hb dL_law_1423 (by decide +kernel) ?_
  refine lv_iadd hx hb dL_law_1424 ?_
  refine va_sld hx hb hX hbl hbA hS vi_1 dL_law_1425 ?_
  refine lv_topi (fun v9 e9 => ?_)
  obtain rfl : p0 = v9 := (e9.trans q0).symm
  refine lv_aload_n hx hb dL_law_1426 rfl (lv_at hl 1 rfl) ?_
  refine lv_iload hx hb dL_law_1427 (lv_at hl 5 rfl) ?_
  refine lv_iconst (v := 2) hx hb dL_law_1429 (by decide +kernel) ?_
  refine lv_iadd hx hb dL_law_1430 ?_
  refine va_sld hx hb hX hbl hbA hS vi_2 dL_law_1431 ?_
  refine lv_topi (fun v9 e9 => ?_)
  obtain rfl : p1 = v9 := (e9.trans q1).symm
  have hFc := va_free (wc := [(m0, .inr (13, m0g)), (md, .inl (mdC, (6, .inl (fun _ => 0)))), (mch, .inl (mchC, (4, .inl (fun _ => 0))))]) hD hS hA [0, 1, 2] rfl
  refine va_calli (va_runV (As := [.int p0, .int p1]) (rest := []) ⟨hx, hb, hml, hown, hts⟩ (gx33_X13_map l hlt dC dI _ p0 p1 m0 md mch m0g h_m0 mdC mchC) (cwV 2 hts (gi_V wd_4159 wd_4160 wd_4161 wd_340 wd_4162) rfl rfl rfl (by decide +kernel) ⟨(Nat.le_of_ble_eq_true rfl), (Nat.le_of_ble_eq_true rfl)⟩) ⟨fun a U g mk q => by obtain ⟨q0, q1, qP, qK, qD, qT⟩ := q; exact ⟨q0, q1, qP, va_K.moved (u := U) (U := U.calling g mk a) (Vm.Alike.refl U.vm) qK, qD, th.moved (u := U) (U := U.calling g mk a) (Vm.Alike.refl U.vm) qT⟩, va_recv hK hP (ci := 13) (q0 := 0) rfl rfl, fun U hU hW => ⟨rfl, by rw [hU], by rw [hU]; exact hP, va_K.moved hW.alike hK, hD.weaken (fun _ _ _ _ => trivial), by rw [hU]; exact ((hth.kept hS.2.1).narrow hFc).moved hW.alike⟩⟩ rfl rfl hl.1 rfl (lv_room (Nat.le_of_ble_eq_true rfl)) dL_law_1432 ⟨(Nat.le_of_ble_eq_true rfl), (Nat.le_of_ble_eq_true rfl)⟩) hS (fun q _ h => hFc q h) hFc (fun r u t H1 locs ht hvm hw hB hz1 hk1 hS => ?_)
  subst hw
  obtain ⟨fs_1, h_m0, hP1, hK1, hD1⟩ := hB
  rw [ht] at hP1
  have hD := hD1.weaken (fun k q _ h => hFc q.1 h)
  have hP := hP1
  generalize H1 = H at hP hS ⊢
  have hP : va_P (dC, dI) CL [(m0, .inr (13, fs_1)), (md, .inl (mdC, (6, .inl (fun _ => 0)))), (mch, .inl (mchC, (4, .inl (fun _ => 0))))] H := hP
  have hD : va_D A [(m0, .inr (13, fs_1)), (md, .inl (mdC, (6, .inl (fun _ => 0)))), (mch, .inl (mchC, (4, .inl (fun _ => 0))))] := hD
  refine lv_istore (lv' := [(6, .int 0), (5, .int 1), (0, .ref b), (1, .ref x), (2, .ref m0), (3, .ref oA), (4, .int 0)]) hx hb dL_law_1435 hl (by decide) rfl (fun ls hl => ?_)
  refine lv_aload_n hx hb dL_law_1437 rfl (lv_at hl 4 rfl) ?_
  have hPc := hP.sub (ws' := [(m0, .inr (13, fs_1))]) [0] rfl
  have hDc := hD.sub (ws' := [(m0, .inr (13, fs_1))]) [0] (by decide) rfl
  have hKc := hK.sub (tys' := []) [] rfl
  have hFc := va_free (wc := [(m0, .inr (13, fs_1))]) hD hS hA [0] rfl
  refine va_calli (va_runV (As := []) (rest := []) ⟨hx, hb, hml, hown, hts⟩ (gx35_X13_thrown l hlt dC dI _ m0 md mch fs_1 h_m0) (cwV 0 hts (gi_V wd_3015 wd_3016 wd_3017 wd_340 wd_3018) rfl rfl rfl (by decide +kernel) ⟨(Nat.le_of_ble_eq_true rfl), (Nat.le_of_ble_eq_true rfl)⟩) ⟨fun a U g mk q => by obtain ⟨q0, q1, qP, qK, qD, qT⟩ := q; exact ⟨q0, q1, qP, va_K.moved (u := U) (U := U.calling g mk a) (Vm.Alike.refl U.vm) qK, qD, th.moved (u := U) (U := U.calling g mk a) (Vm.Alike.refl U.vm) qT⟩, va_recv hKc hPc (ci := 13) (q0 := 0) rfl rfl, fun U hU hW => ⟨rfl, by rw [hU], by rw [hU]; exact hPc, va_K.moved hW.alike hKc, hDc.weaken (fun _ _ _ _ => trivial), by rw [hU]; exact ((hth.kept hS.2.1).narrow hFc).moved hW.alike⟩⟩ rfl rfl hl.1 rfl (lv_room (Nat.le_of_ble_eq_true rfl)) dL_law_1438 ⟨(Nat.le_of_ble_eq_true rfl), (Nat.le_of_ble_eq_true rfl)⟩) hS (fun q _ h => hFc q h) hFc (fun r u t H1 locs ht hvm hw hB hz1 hk1 hS => ?_)
  subst hw
  obtain ⟨fs_2, h_m0, hP1, hK1, hD1⟩ := hB
  rw [ht] at hP1
  obtain ⟨hP, hD⟩ := va_join (wr := [(md, .inl (mdC, (6, .inl (fun _ => 0)))), (mch, .inl (mchC, (4, .inl (fun _ => 0))))]) (w1 := [(m0, .inr (13, fs_2))]) hP hD [0] [1, 2] rfl rfl (by decide) (by decide) hk1 hFc hP1 hD1
  have hP := hP.sub (ws' := [(m0, .inr (13, fs_2)), (md, .inl (mdC, (6, .inl (fun _ => 0)))), (mch, .inl (mchC, (4, .inl (fun _ => 0))))]) [2, 0, 1] rfl
  have hD := hD.sub (ws' := [(m0, .inr (13, fs_2)), (md, .inl (mdC, (6, .inl (fun _ => 0)))), (mch, .inl (mchC, (4, .inl (fun _ => 0))))]) [2, 0, 1] (by decide) rfl
  generalize H1 = H at hP hS ⊢
  have hP : va_P (dC, dI) CL [(m0, .inr (13, fs_2)), (md, .inl (mdC, (6, .inl (fun _ => 0)))), (mch, .inl (mchC, (4, .inl (fun _ => 0))))] H := hP
  have hD : va_D A [(m0, .inr (13, fs_2)), (md, .inl (mdC, (6, .inl (fun _ => 0)))), (mch, .inl (mchC, (4, .inl (fun _ => 0))))] := hD
  refine lv_iload hx hb dL_law_1441 (lv_at hl 1 rfl) ?_
  refine lv_icmp_eq (tgt := 1448) hx hb dL_law_1443 (by decide) (fun c9 => ?_) (fun c9 => ?_)
  rotate_left
  · first | exact absurd c9 (by decide +kernel) | exact absurd (by decide +kernel) c9
  refine lv_iload hx hb dL_law_1448 (lv_at hl 1 rfl) ?_
  refine lv_if_ne (tgt := 1465) hx hb dL_law_1450 (by decide) (fun c9 => ?_) (fun c9 => ?_)
  rotate_left
  · first | exact absurd c9 (by decide +kernel) | exact absurd (by decide +kernel) c9
  refine lv_goto (tgt := 4099) hx hb dL_law_1465 (by decide) ?_
  refine W.widen (k := 470) (n := 2709300) (Nat.le_of_ble_eq_true rfl) (Nat.le_of_ble_eq_true rfl) ?_
  rw [eA] at hS
  exact law_tail (v5 := 0) (v6 := 0) (lv := []) C0 hS (lv_sub hl [2, 6] rfl)
set_option maxHeartbeats 4000000 in
set_option maxRecDepth 100000 in
theorem law_map {p : Program} {l : Launch} {e : Env} {s : State} {m : MethodId} {below : List Frame} {meth : Method} {c : Code} {b : Nat} {xs : Nat → Int32} (C0 : lw_At p s m meth c b 7 xs) {dC : Nat → ClassId} {dI : Nat → Nat → Nat} (hlt : l.stackTraces = false) (hth : th (fun q : Nat => s.heap.size ≤ q) s s.heap) (x deA de0 de1 de2 de3 de4 de5 m0 md mch oA : Nat) (xg : List Value) (h_x : fx xg 17 [(7, .ref deA)]) (deAC : ClassId) (deAF : Nat → Option Nat) (de0g : List Value) (h_de0 : fx de0g 16 [(0, .int 0)]) (de1g : List Value) (h_de1 : fx de1g 16 [(0, .int 0)]) (de2g : List Value) (h_de2 : fx de2g 16 [(0, .int 0)]) (de3g : List Value) (h_de3 : fx de3g 16 [(0, .int 0)]) (de4g : List Value) (h_de4 : fx de4g 16 [(0, .int 0)]) (de5g : List Value) (h_de5 : fx de5g 16 [(0, .int 0)]) (m0g : List Value) (h_m0 : fx m0g 225 [(0, .int 0), (2, .int 0), (3, .int 0), (9, .int 0), (10, .int 0), (11, .int 0), (12, .int 0), (27, .int 0), (55, .ref md), (79, .int 0), (83, .int 0), (95, .int 0), (138, .ref mch)]) (mdC : ClassId) (mchC : ClassId) (h_deA0 : deAF 0 = some de0) (h_deA1 : deAF 1 = some de1) (h_deA2 : deAF 2 = some de2) (h_deA3 : deAF 3 = some de3) (h_deA4 : deAF 4 = some de4) (h_deA5 : deAF 5 = some de5) (H : Heap) (locs : List Loc) (hK : va_K (dC, dI) CL [(deAC, .object "ChipFlow$Design"), (mdC, .boolean), (mchC, .boolean)] s) (hP : va_P (dC, dI) CL [(x, .inr (12, xg)), (deA, .inl (deAC, (6, .inr (.inr (.inr (.inr deAF)))))), (de0, .inr (3, de0g)), (de1, .inr (3, de1g)), (de2, .inr (3, de2g)), (de3, .inr (3, de3g)), (de4, .inr (3, de4g)), (de5, .inr (3, de5g)), (m0, .inr (13, m0g)), (md, .inl (mdC, (6, .inl (fun _ => 0)))), (mch, .inl (mchC, (4, .inl (fun _ => 0))))] H) (hD : va_D (fun q : Nat => s.heap.size ≤ q) [(x, .inr (12, xg)), (deA, .inl (deAC, (6, .inr (.inr (.inr (.inr deAF)))))), (de0, .inr (3, de0g)), (de1, .inr (3, de1g)), (de2, .inr (3, de2g)), (de3, .inr (3, de3g)), (de4, .inr (3, de4g)), (de5, .inr (3, de5g)), (m0, .inr (13, m0g)), (md, .inl (mdC, (6, .inl (fun _ => 0)))), (mch, .inl (mchC, (4, .inl (fun _ => 0))))]) (hS : va_S (fun q : Nat => s.heap.size ≤ q) s.heap H locs) (ls : Array Slot) (hl : lv_has ls 7 [(0, .ref b), (1, .ref x), (2, .ref m0), (3, .ref oA), (4, .int 0)]) : W p l e room_1 s m #[Value.ref b] below meth c H locs 451 2709142 (lw_Z below #[Value.ref b] s) (F0 m 1400 ls []) := by
  exact law_map_v C0 hlt hth _ rfl _ rfl x deA de0 de1 de2 de3 de4 de5 m0 md mch oA xg h_x deAC deAF de0g h_de0 de1g h_de1 de2g h_de2 de3g h_de3 de4g h_de4 de5g h_de5 m0g h_m0 mdC mchC h_deA0 h_deA1 h_deA2 h_deA3 h_deA4 h_deA5 H locs (hK.sub [0, 1, 2] rfl) (hP.sub [0, 1, 2, 3, 4, 5, 6, 7, 8, 9, 10] rfl) (hD.sub [0, 1, 2, 3, 4, 5, 6, 7, 8, 9, 10] (by decide) rfl) hS ls hl
set_option maxHeartbeats 4000000 in
set_option maxRecDepth 100000 in
theorem law_drop_lt {p : Program} {l : Launch} {e : Env} {s : State} {m : MethodId} {below : List Frame} {meth : Method} {c : Code} {b : Nat} {xs : Nat → Int32} (C0 : lw_At p s m meth c b 7 xs) {dC : Nat → ClassId} {dI : Nat → Nat → Nat} (hlt : l.stackTraces = false) (hth : th (fun q : Nat => s.heap.size ≤ q) s s.heap) (p0 : Int32) (q0 : (xs ((0 : Int32) + 1).toNatClampNeg) = p0) (p1 : Int32) (q1 : (xs ((0 : Int32) + 2).toNatClampNeg) = p1) (zn : p0 < 0) (x m0 deA liA chA md ml mch oA : Nat) (xg : List Value) (h_x : fx xg 17 [(7, .ref deA), (8, .ref liA), (9, .ref chA)]) (m0g : List Value) (h_m0 : fx m0g 225 [(0, .int 0), (2, .int 0), (3, .int 0), (9, .int 0), (10, .int 0), (11, .int 0), (12, .int 0), (27, .int 0), (55, .ref md), (79, .int 0), (83, .int 0), (88, .ref ml), (95, .int 0), (138, .ref mch)]) (H : Heap) (locs : List Loc) (hK : va_K (dC, dI) CL [] s) (hP : va_P (dC, dI) CL [(x, .inr (12, xg)), (m0, .inr (13, m0g))] H) (hD : va_D (fun q : Nat => s.heap.size ≤ q) [(x, .inr (12, xg)), (m0, .inr (13, m0g))]) (hS : va_S (fun q : Nat => s.heap.size ≤ q) s.heap H locs) (ls : Array Slot) (hl : lv_has ls 7 [(0, .ref b), (1, .ref x), (2, .ref m0), (3, .ref oA), (4, .int 0)]) : W p l e room_1 s m #[Value.ref b] below meth c H locs 451 2709142 (lw_Z below #[Value.ref b] s) (F0 m 513 ls []) := by
  obtain ⟨hx, hb, hr, hml, hown, hts0, hX, hbl, hlocks, hgv⟩ := id C0
  have hts : ∀ w ∈ BG, w.before _ s = true := fun w h => hts0 w (List.mem_filter.mp h).1
  have hown : s.vm.findClass RL = some m.cls := hown
  obtain ⟨A, eA⟩ : ∃ z : Nat → Prop, z = (fun q : Nat => s.heap.size ≤ q) := ⟨_, rfl⟩
  rw [← eA] at hth hD hS
  have hA : ∀ q : Nat, s.heap.size ≤ q → A q := fun q h => by rw [eA]; exact h
  have hbA : ¬ A b := by rw [eA]; exact Nat.not_le.mpr hbl
  refine lv_aload_n hx hb dL_law_513 rfl (lv_at hl 1 rfl) ?_
  refine lv_aload_n hx hb dL_law_514 rfl (lv_at hl 0 rfl) ?_
  refine lv_iload hx hb dL_law_515 (lv_at hl 4 rfl) ?_
  refine lv_iconst (v := 1) hx hb dL_law_517 (by decide +kernel) ?_
  refine lv_iadd hx hb dL_law_518 ?_
  refine va_sld hx hb hX hbl hbA hS vi_1 dL_law_519 ?_
  refine lv_topi (fun v9 e9 => ?_)
  obtain rfl : p0 = v9 := (e9.trans q0).symm
  refine lv_aload_n hx hb dL_law_520 rfl (lv_at hl 0 rfl) ?_
  refine lv_iload hx hb dL_law_521 (lv_at hl 4 rfl) ?_
  refine lv_iconst (v := 2) hx hb dL_law_523 (by decide +kernel) ?_
  refine lv_iadd hx hb dL_law_524 ?_
  refine va_sld hx hb hX hbl hbA hS vi_2 dL_law_525 ?_
  refine lv_topi (fun v9 e9 => ?_)
  obtain rfl : p1 = v9 := (e9.trans q1).symm
  have hPc := hP.sub (ws' := [(x, .inr (12, xg))]) [0] rfl
  have hDc := hD.sub (ws' := [(x, .inr (12, xg))]) [0] (by decide) rfl
  have hKc := hK.sub (tys' := []) [] rfl
  have hFc := va_free (wc := [(x, .inr (12, xg))]) hD hS hA [0] rfl
  refine va_calli (vx_runSW (As := [.ref x, .int p0, .int p1]) (rest := []) ⟨hx, hb, hml, hown, hts⟩ (gx36_L_drop l hlt dC dI _ p0 p1 x deA liA chA xg h_x zn) (vx_cwSW 3 hts (gi_W wd_1801 wd_1802 wd_326 wd_1803) rfl rfl rfl (by decide +kernel) ⟨(Nat.le_of_ble_eq_true rfl), (Nat.le_of_ble_eq_true rfl)⟩) ⟨fun a U g mk q => by obtain ⟨q0, q1, qP, qK, qD, qT⟩ := q; exact ⟨q0, q1, qP, va_K.moved (u := U) (U := U.calling g mk a) (Vm.Alike.refl U.vm) qK, qD, th.moved (u := U) (U := U.calling g mk a) (Vm.Alike.refl U.vm) qT⟩, fun U hU hW => ⟨rfl, by rw [hU], by rw [hU]; exact hPc, va_K.moved hW.alike hKc, hDc.weaken (fun _ _ _ _ => trivial), by rw [hU]; exact ((hth.kept hS.2.1).narrow hFc).moved hW.alike⟩⟩ rfl rfl hl.1 rfl (lv_room (Nat.le_of_ble_eq_true rfl)) dL_law_526 ⟨(Nat.le_of_ble_eq_true rfl), (Nat.le_of_ble_eq_true rfl)⟩) hS (fun q _ h => hFc q h) hFc (fun r u t H1 locs ht hvm hw hB hz1 hk1 hS => ?_)
  subst hw
  obtain ⟨fs_1, h_x, hP1, hK1, hD1⟩ := hB
  rw [ht] at hP1
  obtain ⟨hP, hD⟩ := va_join (wr := [(m0, .inr (13, m0g))]) (w1 := [(x, .inr (12, fs_1))]) hP hD [0] [1] rfl rfl (by decide) (by decide) hk1 hFc hP1 hD1
  have hP := hP.sub (ws' := [(x, .inr (12, fs_1)), (m0, .inr (13, m0g))]) [1, 0] rfl
  have hD := hD.sub (ws' := [(x, .inr (12, fs_1)), (m0, .inr (13, m0g))]) [1, 0] (by decide) rfl
  generalize H1 = H at hP hS ⊢
  have hP : va_P (dC, dI) CL [(x, .inr (12, fs_1)), (m0, .inr (13, m0g))] H := hP
  have hD : va_D A [(x, .inr (12, fs_1)), (m0, .inr (13, m0g))] := hD
  refine W.widen (k := 452) (n := 2709148) (Nat.le_of_ble_eq_true rfl) (Nat.le_of_ble_eq_true rfl) ?_
  refine lv_istore (lv' := [(5, .int 1), (0, .ref b), (1, .ref x), (2, .ref m0), (3, .ref oA), (4, .int 0)]) hx hb dL_law_529 hl (by decide) rfl (fun ls hl => ?_)
  refine lv_aload_n hx hb dL_law_531 rfl (lv_at hl 3 rfl) ?_
  refine lv_aload_n hx hb dL_law_532 rfl (lv_at hl 1 rfl) ?_
  refine lv_iload hx hb dL_law_533 (lv_at hl 5 rfl) ?_
  refine lv_iconst (v := 1) hx hb dL_law_535 (by decide +kernel) ?_
  refine lv_iadd hx hb dL_law_536 ?_
  refine va_sld hx hb hX hbl hbA hS vi_1 dL_law_537 ?_
  refine lv_topi (fun v9 e9 => ?_)
  obtain rfl : p0 = v9 := (e9.trans q0).symm
  refine lv_aload_n hx hb dL_law_538 rfl (lv_at hl 1 rfl) ?_
  refine lv_iload hx hb dL_law_539 (lv_at hl 5 rfl) ?_
  refine lv_iconst (v := 2) hx hb dL_law_541 (by decide +kernel) ?_
  refine lv_iadd hx hb dL_law_542 ?_
  refine va_sld hx hb hX hbl hbA hS vi_2 dL_law_543 ?_
  refine lv_topi (fun v9 e9 => ?_)
  obtain rfl : p1 = v9 := (e9.trans q1).symm
  have hPc := hP.sub (ws' := [(m0, .inr (13, m0g))]) [1] rfl
  have hDc := hD.sub (ws' := [(m0, .inr (13, m0g))]) [1] (by decide) rfl
  have hKc := hK.sub (tys' := []) [] rfl
  have hFc := va_free (wc := [(m0, .inr (13, m0g))]) hD hS hA [1] rfl
  refine va_callv (va_runV (As := [.int p0, .int p1]) (rest := []) ⟨hx, hb, hml, hown, hts⟩ (gx38_X13_drop l hlt dC dI _ p0 p1 m0 md ml mch m0g h_m0 zn) (cwV 2 hts (gi_V wd_4068 wd_4069 wd_4070 wd_340 wd_4071) rfl rfl rfl (by decide +kernel) ⟨(Nat.le_of_ble_eq_true rfl), (Nat.le_of_ble_eq_true rfl)⟩) ⟨fun a U g mk q => by obtain ⟨q0, q1, qP, qK, qD, qT⟩ := q; exact ⟨q0, q1, qP, va_K.moved (u := U) (U := U.calling g mk a) (Vm.Alike.refl U.vm) qK, qD, th.moved (u := U) (U := U.calling g mk a) (Vm.Alike.refl U.vm) qT⟩, va_recv hKc hPc (ci := 13) (q0 := 0) rfl rfl, fun U hU hW => ⟨rfl, by rw [hU], by rw [hU]; exact hPc, va_K.moved hW.alike hKc, hDc.weaken (fun _ _ _ _ => trivial), by rw [hU]; exact ((hth.kept hS.2.1).narrow hFc).moved hW.alike⟩⟩ rfl rfl hl.1 rfl (lv_room (Nat.le_of_ble_eq_true rfl)) dL_law_544 ⟨(Nat.le_of_ble_eq_true rfl), (Nat.le_of_ble_eq_true rfl)⟩) hS (fun q _ h => hFc q h) hFc (fun u t H1 locs ht hvm hw hB hz1 hk1 hS => ?_)
  obtain ⟨fs_2, h_m0, hP1, hK1, hD1⟩ := hB
  rw [ht] at hP1
  obtain ⟨hP, hD⟩ := va_join (wr := [(x, .inr (12, fs_1))]) (w1 := [(m0, .inr (13, fs_2))]) hP hD [1] [0] rfl rfl (by decide) (by decide) hk1 hFc hP1 hD1
  have hP := hP.sub (ws' := [(x, .inr (12, fs_1)), (m0, .inr (13, fs_2))]) [0, 1] rfl
  have hD := hD.sub (ws' := [(x, .inr (12, fs_1)), (m0, .inr (13, fs_2))]) [0, 1] (by decide) rfl
  generalize H1 = H at hP hS ⊢
  have hP : va_P (dC, dI) CL [(x, .inr (12, fs_1)), (m0, .inr (13, fs_2))] H := hP
  have hD : va_D A [(x, .inr (12, fs_1)), (m0, .inr (13, fs_2))] := hD
  refine lv_aload_n hx hb dL_law_547 rfl (lv_at hl 3 rfl) ?_
  have hPc := hP.sub (ws' := [(m0, .inr (13, fs_2))]) [1] rfl
  have hDc := hD.sub (ws' := [(m0, .inr (13, fs_2))]) [1] (by decide) rfl
  have hKc := hK.sub (tys' := []) [] rfl
  have hFc := va_free (wc := [(m0, .inr (13, fs_2))]) hD hS hA [1] rfl
  refine va_calli (va_runV (As := []) (rest := []) ⟨hx, hb, hml, hown, hts⟩ (gx40_X13_thrown l hlt dC dI _ m0 md ml mch fs_2 h_m0) (cwV 0 hts (gi_V wd_3015 wd_3016 wd_3017 wd_340 wd_3018) rfl rfl rfl (by decide +kernel) ⟨(Nat.le_of_ble_eq_true rfl), (Nat.le_of_ble_eq_true rfl)⟩) ⟨fun a U g mk q => by obtain ⟨q0, q1, qP, qK, qD, qT⟩ := q; exact ⟨q0, q1, qP, va_K.moved (u := U) (U := U.calling g mk a) (Vm.Alike.refl U.vm) qK, qD, th.moved (u := U) (U := U.calling g mk a) (Vm.Alike.refl U.vm) qT⟩, va_recv hKc hPc (ci := 13) (q0 := 0) rfl rfl, fun U hU hW => ⟨rfl, by rw [hU], by rw [hU]; exact hPc, va_K.moved hW.alike hKc, hDc.weaken (fun _ _ _ _ => trivial), by rw [hU]; exact ((hth.kept hS.2.1).narrow hFc).moved hW.alike⟩⟩ rfl rfl hl.1 rfl (lv_room (Nat.le_of_ble_eq_true rfl)) dL_law_548 ⟨(Nat.le_of_ble_eq_true rfl), (Nat.le_of_ble_eq_true rfl)⟩) hS (fun q _ h => hFc q h) hFc (fun r u t H1 locs ht hvm hw hB hz1 hk1 hS => ?_)
  subst hw
  obtain ⟨fs_3, h_m0, hP1, hK1, hD1⟩ := hB
  rw [ht] at hP1
  obtain ⟨hP, hD⟩ := va_join (wr := [(x, .inr (12, fs_1))]) (w1 := [(m0, .inr (13, fs_3))]) hP hD [1] [0] rfl rfl (by decide) (by decide) hk1 hFc hP1 hD1
  have hP := hP.sub (ws' := [(x, .inr (12, fs_1)), (m0, .inr (13, fs_3))]) [0, 1] rfl
  have hD := hD.sub (ws' := [(x, .inr (12, fs_1)), (m0, .inr (13, fs_3))]) [0, 1] (by decide) rfl
  generalize H1 = H at hP hS ⊢
  have hP : va_P (dC, dI) CL [(x, .inr (12, fs_1)), (m0, .inr (13, fs_3))] H := hP
  have hD : va_D A [(x, .inr (12, fs_1)), (m0, .inr (13, fs_3))] := hD
  refine lv_iload hx hb dL_law_551 (lv_at hl 0 rfl) ?_
  refine lv_icmp_eq (tgt := 558) hx hb dL_law_553 (by decide) (fun c9 => ?_) (fun c9 => ?_)
  rotate_left
  · first | exact absurd c9 (by decide +kernel) | exact absurd (by decide +kernel) c9
  refine lv_goto (tgt := 4099) hx hb dL_law_558 (by decide) ?_
  refine W.widen (k := 470) (n := 2709300) (Nat.le_of_ble_eq_true rfl) (Nat.le_of_ble_eq_true rfl) ?_
  rw [eA] at hS
  exact law_tail (v5 := 0) (v6 := 0) (lv := []) C0 hS (lv_sub hl [1, 5] rfl)
set_option maxHeartbeats 4000000 in
set_option maxRecDepth 100000 in
theorem law_drop_gt {p : Program} {l : Launch} {e : Env} {s : State} {m : MethodId} {below : List Frame} {meth : Method} {c : Code} {b : Nat} {xs : Nat → Int32} (C0 : lw_At p s m meth c b 7 xs) {dC : Nat → ClassId} {dI : Nat → Nat → Nat} (hlt : l.stackTraces = false) (hth : th (fun q : Nat => s.heap.size ≤ q) s s.heap) (p0 : Int32) (q0 : (xs ((0 : Int32) + 1).toNatClampNeg) = p0) (p1 : Int32) (q1 : (xs ((0 : Int32) + 2).toNatClampNeg) = p1) (zn : ¬ p0 < 0) (zp : 2 < p0) (zq : ¬ p0 ≤ 2) (x m0 deA liA chA md ml mch oA : Nat) (xg : List Value) (h_x : fx xg 17 [(7, .ref deA), (8, .ref liA), (9, .ref chA)]) (m0g : List Value) (h_m0 : fx m0g 225 [(0, .int 0), (2, .int 0), (3, .int 0), (9, .int 0), (10, .int 0), (11, .int 0), (12, .int 0), (27, .int 0), (55, .ref md), (79, .int 0), (83, .int 0), (88, .ref ml), (95, .int 0), (138, .ref mch)]) (H : Heap) (locs : List Loc) (hK : va_K (dC, dI) CL [] s) (hP : va_P (dC, dI) CL [(x, .inr (12, xg)), (m0, .inr (13, m0g))] H) (hD : va_D (fun q : Nat => s.heap.size ≤ q) [(x, .inr (12, xg)), (m0, .inr (13, m0g))]) (hS : va_S (fun q : Nat => s.heap.size ≤ q) s.heap H locs) (ls : Array Slot) (hl : lv_has ls 7 [(0, .ref b), (1, .ref x), (2, .ref m0), (3, .ref oA), (4, .int 0)]) : W p l e room_1 s m #[Value.ref b] below meth c H locs 451 2709142 (lw_Z below #[Value.ref b] s) (F0 m 513 ls []) := by
  obtain ⟨hx, hb, hr, hml, hown, hts0, hX, hbl, hlocks, hgv⟩ := id C0
  have hts : ∀ w ∈ BG, w.before _ s = true := fun w h => hts0 w (List.mem_filter.mp h).1
  have hown : s.vm.findClass RL = some m.cls := hown
  obtain ⟨A, eA⟩ : ∃ z : Nat → Prop, z = (fun q : Nat => s.heap.size ≤ q) := ⟨_, rfl⟩
  rw [← eA] at hth hD hS
  have hA : ∀ q : Nat, s.heap.size ≤ q → A q := fun q h => by rw [eA]; exact h
  have hbA : ¬ A b := by rw [eA]; exact Nat.not_le.mpr hbl
  refine lv_aload_n hx hb dL_law_513 rfl (lv_at hl 1 rfl) ?_
  refine lv_aload_n hx hb dL_law_514 rfl (lv_at hl 0 rfl) ?_
  refine lv_iload hx hb dL_law_515 (lv_at hl 4 rfl) ?_
  refine lv_iconst (v := 1) hx hb dL_law_517 (by decide +kernel) ?_
  refine lv_iadd hx hb dL_law_518 ?_
  refine va_sld hx hb hX hbl hbA hS vi_1 dL_law_519 ?_
  refine lv_topi (fun v9 e9 => ?_)
  obtain rfl : p0 = v9 := (e9.trans q0).symm
  refine lv_aload_n hx hb dL_law_520 rfl (lv_at hl 0 rfl) ?_
  refine lv_iload hx hb dL_law_521 (lv_at hl 4 rfl) ?_
  refine lv_iconst (v := 2) hx hb dL_law_523 (by decide +kernel) ?_
  refine lv_iadd hx hb dL_law_524 ?_
  refine va_sld hx hb hX hbl hbA hS vi_2 dL_law_525 ?_
  refine lv_topi (fun v9 e9 => ?_)
  obtain rfl : p1 = v9 := (e9.trans q1).symm
  have hPc := hP.sub (ws' := [(x, .inr (12, xg))]) [0] rfl
  have hDc := hD.sub (ws' := [(x, .inr (12, xg))]) [0] (by decide) rfl
  have hKc := hK.sub (tys' := []) [] rfl
  have hFc := va_free (wc := [(x, .inr (12, xg))]) hD hS hA [0] rfl
  refine va_calli (vx_runSW (As := [.ref x, .int p0, .int p1]) (rest := []) ⟨hx, hb, hml, hown, hts⟩ (gx41_L_drop l hlt dC dI _ p0 p1 x deA liA chA xg h_x zn zp zq) (vx_cwSW 3 hts (gi_W wd_1801 wd_1802 wd_326 wd_1803) rfl rfl rfl (by decide +kernel) ⟨(Nat.le_of_ble_eq_true rfl), (Nat.le_of_ble_eq_true rfl)⟩) ⟨fun a U g mk q => by obtain ⟨q0, q1, qP, qK, qD, qT⟩ := q; exact ⟨q0, q1, qP, va_K.moved (u := U) (U := U.calling g mk a) (Vm.Alike.refl U.vm) qK, qD, th.moved (u := U) (U := U.calling g mk a) (Vm.Alike.refl U.vm) qT⟩, fun U hU hW => ⟨rfl, by rw [hU], by rw [hU]; exact hPc, va_K.moved hW.alike hKc, hDc.weaken (fun _ _ _ _ => trivial), by rw [hU]; exact ((hth.kept hS.2.1).narrow hFc).moved hW.alike⟩⟩ rfl rfl hl.1 rfl (lv_room (Nat.le_of_ble_eq_true rfl)) dL_law_526 ⟨(Nat.le_of_ble_eq_true rfl), (Nat.le_of_ble_eq_true rfl)⟩) hS (fun q _ h => hFc q h) hFc (fun r u t H1 locs ht hvm hw hB hz1 hk1 hS => ?_)
  subst hw
  obtain ⟨fs_1, h_x, hP1, hK1, hD1⟩ := hB
  rw [ht] at hP1
  obtain ⟨hP, hD⟩ := va_join (wr := [(m0, .inr (13, m0g))]) (w1 := [(x, .inr (12, fs_1))]) hP hD [0] [1] rfl rfl (by decide) (by decide) hk1 hFc hP1 hD1
  have hP := hP.sub (ws' := [(x, .inr (12, fs_1)), (m0, .inr (13, m0g))]) [1, 0] rfl
  have hD := hD.sub (ws' := [(x, .inr (12, fs_1)), (m0, .inr (13, m0g))]) [1, 0] (by decide) rfl
  generalize H1 = H at hP hS ⊢
  have hP : va_P (dC, dI) CL [(x, .inr (12, fs_1)), (m0, .inr (13, m0g))] H := hP
  have hD : va_D A [(x, .inr (12, fs_1)), (m0, .inr (13, m0g))] := hD
  refine W.widen (k := 452) (n := 2709148) (Nat.le_of_ble_eq_true rfl) (Nat.le_of_ble_eq_true rfl) ?_
  refine lv_istore (lv' := [(5, .int 1), (0, .ref b), (1, .ref x), (2, .ref m0), (3, .ref oA), (4, .int 0)]) hx hb dL_law_529 hl (by decide) rfl (fun ls hl => ?_)
  refine lv_aload_n hx hb dL_law_531 rfl (lv_at hl 3 rfl) ?_
  refine lv_aload_n hx hb dL_law_532 rfl (lv_at hl 1 rfl) ?_
  refine lv_iload hx hb dL_law_533 (lv_at hl 5 rfl) ?_
  refine lv_iconst (v := 1) hx hb dL_law_535 (by decide +kernel) ?_
  refine lv_iadd hx hb dL_law_536 ?_
  refine va_sld hx hb hX hbl hbA hS vi_1 dL_law_537 ?_
  refine lv_topi (fun v9 e9 => ?_)
  obtain rfl : p0 = v9 := (e9.trans q0).symm
  refine lv_aload_n hx hb dL_law_538 rfl (lv_at hl 1 rfl) ?_
  refine lv_iload hx hb dL_law_539 (lv_at hl 5 rfl) ?_
  refine lv_iconst (v := 2) hx hb dL_law_541 (by decide +kernel) ?_
  refine lv_iadd hx hb dL_law_542 ?_
  refine va_sld hx hb hX hbl hbA hS vi_2 dL_law_543 ?_
  refine lv_topi (fun v9 e9 => ?_)
  obtain rfl : p1 = v9 := (e9.trans q1).symm
  have hPc := hP.sub (ws' := [(m0, .inr (13, m0g))]) [1] rfl
  have hDc := hD.sub (ws' := [(m0, .inr (13, m0g))]) [1] (by decide) rfl
  have hKc := hK.sub (tys' := []) [] rfl
  have hFc := va_free (wc := [(m0, .inr (13, m0g))]) hD hS hA [1] rfl
  refine va_callv (va_runV (As := [.int p0, .int p1]) (rest := []) ⟨hx, hb, hml, hown, hts⟩ (gx43_X13_drop l hlt dC dI _ p0 p1 m0 md ml mch m0g h_m0 zn zp zq) (cwV 2 hts (gi_V wd_4068 wd_4069 wd_4070 wd_340 wd_4071) rfl rfl rfl (by decide +kernel) ⟨(Nat.le_of_ble_eq_true rfl), (Nat.le_of_ble_eq_true rfl)⟩) ⟨fun a U g mk q => by obtain ⟨q0, q1, qP, qK, qD, qT⟩ := q; exact ⟨q0, q1, qP, va_K.moved (u := U) (U := U.calling g mk a) (Vm.Alike.refl U.vm) qK, qD, th.moved (u := U) (U := U.calling g mk a) (Vm.Alike.refl U.vm) qT⟩, va_recv hKc hPc (ci := 13) (q0 := 0) rfl rfl, fun U hU hW => ⟨rfl, by rw [hU], by rw [hU]; exact hPc, va_K.moved hW.alike hKc, hDc.weaken (fun _ _ _ _ => trivial), by rw [hU]; exact ((hth.kept hS.2.1).narrow hFc).moved hW.alike⟩⟩ rfl rfl hl.1 rfl (lv_room (Nat.le_of_ble_eq_true rfl)) dL_law_544 ⟨(Nat.le_of_ble_eq_true rfl), (Nat.le_of_ble_eq_true rfl)⟩) hS (fun q _ h => hFc q h) hFc (fun u t H1 locs ht hvm hw hB hz1 hk1 hS => ?_)
  obtain ⟨fs_2, h_m0, hP1, hK1, hD1⟩ := hB
  rw [ht] at hP1
  obtain ⟨hP, hD⟩ := va_join (wr := [(x, .inr (12, fs_1))]) (w1 := [(m0, .inr (13, fs_2))]) hP hD [1] [0] rfl rfl (by decide) (by decide) hk1 hFc hP1 hD1
  have hP := hP.sub (ws' := [(x, .inr (12, fs_1)), (m0, .inr (13, fs_2))]) [0, 1] rfl
  have hD := hD.sub (ws' := [(x, .inr (12, fs_1)), (m0, .inr (13, fs_2))]) [0, 1] (by decide) rfl
  generalize H1 = H at hP hS ⊢
  have hP : va_P (dC, dI) CL [(x, .inr (12, fs_1)), (m0, .inr (13, fs_2))] H := hP
  have hD : va_D A [(x, .inr (12, fs_1)), (m0, .inr (13, fs_2))] := hD
  refine lv_aload_n hx hb dL_law_547 rfl (lv_at hl 3 rfl) ?_
  have hPc := hP.sub (ws' := [(m0, .inr (13, fs_2))]) [1] rfl
  have hDc := hD.sub (ws' := [(m0, .inr (13, fs_2))]) [1] (by decide) rfl
  have hKc := hK.sub (tys' := []) [] rfl
  have hFc := va_free (wc := [(m0, .inr (13, fs_2))]) hD hS hA [1] rfl
  refine va_calli (va_runV (As := []) (rest := []) ⟨hx, hb, hml, hown, hts⟩ (gx40_X13_thrown l hlt dC dI _ m0 md ml mch fs_2 h_m0) (cwV 0 hts (gi_V wd_3015 wd_3016 wd_3017 wd_340 wd_3018) rfl rfl rfl (by decide +kernel) ⟨(Nat.le_of_ble_eq_true rfl), (Nat.le_of_ble_eq_true rfl)⟩) ⟨fun a U g mk q => by obtain ⟨q0, q1, qP, qK, qD, qT⟩ := q; exact ⟨q0, q1, qP, va_K.moved (u := U) (U := U.calling g mk a) (Vm.Alike.refl U.vm) qK, qD, th.moved (u := U) (U := U.calling g mk a) (Vm.Alike.refl U.vm) qT⟩, va_recv hKc hPc (ci := 13) (q0 := 0) rfl rfl, fun U hU hW => ⟨rfl, by rw [hU], by rw [hU]; exact hPc, va_K.moved hW.alike hKc, hDc.weaken (fun _ _ _ _ => trivial), by rw [hU]; exact ((hth.kept hS.2.1).narrow hFc).moved hW.alike⟩⟩ rfl rfl hl.1 rfl (lv_room (Nat.le_of_ble_eq_true rfl)) dL_law_548 ⟨(Nat.le_of_ble_eq_true rfl), (Nat.le_of_ble_eq_true rfl)⟩) hS (fun q _ h => hFc q h) hFc (fun r u t H1 locs ht hvm hw hB hz1 hk1 hS => ?_)
  subst hw
  obtain ⟨fs_3, h_m0, hP1, hK1, hD1⟩ := hB
  rw [ht] at hP1
  obtain ⟨hP, hD⟩ := va_join (wr := [(x, .inr (12, fs_1))]) (w1 := [(m0, .inr (13, fs_3))]) hP hD [1] [0] rfl rfl (by decide) (by decide) hk1 hFc hP1 hD1
  have hP := hP.sub (ws' := [(x, .inr (12, fs_1)), (m0, .inr (13, fs_3))]) [0, 1] rfl
  have hD := hD.sub (ws' := [(x, .inr (12, fs_1)), (m0, .inr (13, fs_3))]) [0, 1] (by decide) rfl
  generalize H1 = H at hP hS ⊢
  have hP : va_P (dC, dI) CL [(x, .inr (12, fs_1)), (m0, .inr (13, fs_3))] H := hP
  have hD : va_D A [(x, .inr (12, fs_1)), (m0, .inr (13, fs_3))] := hD
  refine lv_iload hx hb dL_law_551 (lv_at hl 0 rfl) ?_
  refine lv_icmp_eq (tgt := 558) hx hb dL_law_553 (by decide) (fun c9 => ?_) (fun c9 => ?_)
  rotate_left
  · first | exact absurd c9 (by decide +kernel) | exact absurd (by decide +kernel) c9
  refine lv_goto (tgt := 4099) hx hb dL_law_558 (by decide) ?_
  refine W.widen (k := 470) (n := 2709300) (Nat.le_of_ble_eq_true rfl) (Nat.le_of_ble_eq_true rfl) ?_
  rw [eA] at hS
  exact law_tail (v5 := 0) (v6 := 0) (lv := []) C0 hS (lv_sub hl [1, 5] rfl)
set_option maxHeartbeats 4000000 in
set_option maxRecDepth 100000 in
theorem law_drop_0 {p : Program} {l : Launch} {e : Env} {s : State} {m : MethodId} {below : List Frame} {meth : Method} {c : Code} {b : Nat} {xs : Nat → Int32} (C0 : lw_At p s m meth c b 7 xs) {dC : Nat → ClassId} {dI : Nat → Nat → Nat} (hlt : l.stackTraces = false) (hth : th (fun q : Nat => s.heap.size ≤ q) s s.heap) (q0 : (xs ((0 : Int32) + 1).toNatClampNeg) = 0) (p1 : Int32) (q1 : (xs ((0 : Int32) + 2).toNatClampNeg) = p1) (x deA de0 de1 de2 de3 de4 de5 m0 md liA chA ml mch oA : Nat) (xg : List Value) (h_x : fx xg 17 [(7, .ref deA), (8, .ref liA), (9, .ref chA)]) (deAC : ClassId) (deAF : Nat → Option Nat) (de0g : List Value) (h_de0 : fx de0g 16 [(0, .int 0)]) (de1g : List Value) (h_de1 : fx de1g 16 [(0, .int 0)]) (de2g : List Value) (h_de2 : fx de2g 16 [(0, .int 0)]) (de3g : List Value) (h_de3 : fx de3g 16 [(0, .int 0)]) (de4g : List Value) (h_de4 : fx de4g 16 [(0, .int 0)]) (de5g : List Value) (h_de5 : fx de5g 16 [(0, .int 0)]) (m0g : List Value) (h_m0 : fx m0g 225 [(0, .int 0), (2, .int 0), (3, .int 0), (9, .int 0), (10, .int 0), (11, .int 0), (12, .int 0), (27, .int 0), (55, .ref md), (79, .int 0), (83, .int 0), (88, .ref ml), (95, .int 0), (138, .ref mch)]) (mdC : ClassId) (h_deA0 : deAF 0 = some de0) (h_deA1 : deAF 1 = some de1) (h_deA2 : deAF 2 = some de2) (h_deA3 : deAF 3 = some de3) (h_deA4 : deAF 4 = some de4) (h_deA5 : deAF 5 = some de5) (H : Heap) (locs : List Loc) (hK : va_K (dC, dI) CL [(deAC, .object "ChipFlow$Design"), (mdC, .boolean)] s) (hP : va_P (dC, dI) CL [(x, .inr (12, xg)), (deA, .inl (deAC, (6, .inr (.inr (.inr (.inr deAF)))))), (de0, .inr (3, de0g)), (de1, .inr (3, de1g)), (de2, .inr (3, de2g)), (de3, .inr (3, de3g)), (de4, .inr (3, de4g)), (de5, .inr (3, de5g)), (m0, .inr (13, m0g)), (md, .inl (mdC, (6, .inl (fun _ => 0))))] H) (hD : va_D (fun q : Nat => s.heap.size ≤ q) [(x, .inr (12, xg)), (deA, .inl (deAC, (6, .inr (.inr (.inr (.inr deAF)))))), (de0, .inr (3, de0g)), (de1, .inr (3, de1g)), (de2, .inr (3, de2g)), (de3, .inr (3, de3g)), (de4, .inr (3, de4g)), (de5, .inr (3, de5g)), (m0, .inr (13, m0g)), (md, .inl (mdC, (6, .inl (fun _ => 0))))]) (hS : va_S (fun q : Nat => s.heap.size ≤ q) s.heap H locs) (ls : Array Slot) (hl : lv_has ls 7 [(0, .ref b), (1, .ref x), (2, .ref m0), (3, .ref oA), (4, .int 0)]) : W p l e room_1 s m #[Value.ref b] below meth c H locs 451 2709142 (lw_Z below #[Value.ref b] s) (F0 m 513 ls []) := by
  obtain ⟨hx, hb, hr, hml, hown, hts0, hX, hbl, hlocks, hgv⟩ := id C0
  have hts : ∀ w ∈ BG, w.before _ s = true := fun w h => hts0 w (List.mem_filter.mp h).1
  have hown : s.vm.findClass RL = some m.cls := hown
  obtain ⟨A, eA⟩ : ∃ z : Nat → Prop, z = (fun q : Nat => s.heap.size ≤ q) := ⟨_, rfl⟩
  rw [← eA] at hth hD hS
  have hA : ∀ q : Nat, s.heap.size ≤ q → A q := fun q h => by rw [eA]; exact h
  have hbA : ¬ A b := by rw [eA]; exact Nat.not_le.mpr hbl
  refine lv_aload_n hx hb dL_law_513 rfl (lv_at hl 1 rfl) ?_
  refine lv_aload_n hx hb dL_law_514 rfl (lv_at hl 0 rfl) ?_
  refine lv_iload hx hb dL_law_515 (lv_at hl 4 rfl) ?_
  refine lv_iconst (v := 1) hx hb dL_law_517 (by decide +kernel) ?_
  refine lv_iadd hx hb dL_law_518 ?_
  refine va_sld hx hb hX hbl hbA hS vi_1 dL_law_519 ?_
  refine lv_topi (fun v9 e9 => ?_)
  obtain rfl : v9 = 0 := e9.trans q0
  refine lv_aload_n hx hb dL_law_520 rfl (lv_at hl 0 rfl) ?_
  refine lv_iload hx hb dL_law_521 (lv_at hl 4 rfl) ?_
  refine lv_iconst (v := 2) hx hb dL_law_523 (by decide +kernel) ?_
  refine lv_iadd hx hb dL_law_524 ?_
  refine va_sld hx hb hX hbl hbA hS vi_2 dL_law_525 ?_
  refine lv_topi (fun v9 e9 => ?_)
  obtain rfl : p1 = v9 := (e9.trans q1).symm
  have hPc := hP.sub (ws' := [(x, .inr (12, xg)), (deA, .inl (deAC, (6, .inr (.inr (.inr (.inr deAF)))))), (de0, .inr (3, de0g)), (de1, .inr (3, de1g)), (de2, .inr (3, de2g)), (de3, .inr (3, de3g)), (de4, .inr (3, de4g)), (de5, .inr (3, de5g))]) [0, 1, 2, 3, 4, 5, 6, 7] rfl
  have hDc := hD.sub (ws' := [(x, .inr (12, xg)), (deA, .inl (deAC, (6, .inr (.inr (.inr (.inr deAF)))))), (de0, .inr (3, de0g)), (de1, .inr (3, de1g)), (de2, .inr (3, de2g)), (de3, .inr (3, de3g)), (de4, .inr (3, de4g)), (de5, .inr (3, de5g))]) [0, 1, 2, 3, 4, 5, 6, 7] (by decide) rfl
  have hKc := hK.sub (tys' := [(deAC, .object "ChipFlow$Design")]) [0] rfl
  have hFc := va_free (wc := [(x, .inr (12, xg)), (deA, .inl (deAC, (6, .inr (.inr (.inr (.inr deAF)))))), (de0, .inr (3, de0g)), (de1, .inr (3, de1g)), (de2, .inr (3, de2g)), (de3, .inr (3, de3g)), (de4, .inr (3, de4g)), (de5, .inr (3, de5g))]) hD hS hA [0, 1, 2, 3, 4, 5, 6, 7] rfl
  refine va_calli (vx_runSW (As := [.ref x, .int 0, .int p1]) (rest := []) ⟨hx, hb, hml, hown, hts⟩ (gx45_L_drop l hlt dC dI _ p1 x deA de0 de1 de2 de3 de4 de5 liA chA xg h_x deAC deAF de0g h_de0 de1g h_de1 de2g h_de2 de3g h_de3 de4g h_de4 de5g h_de5 h_deA0 h_deA1 h_deA2 h_deA3 h_deA4 h_deA5) (vx_cwSW 3 hts (gi_W wd_1801 wd_1802 wd_326 wd_1803) rfl rfl rfl (by decide +kernel) ⟨(Nat.le_of_ble_eq_true rfl), (Nat.le_of_ble_eq_true rfl)⟩) ⟨fun a U g mk q => by obtain ⟨q0, q1, qP, qK, qD, qT⟩ := q; exact ⟨q0, q1, qP, va_K.moved (u := U) (U := U.calling g mk a) (Vm.Alike.refl U.vm) qK, qD, th.moved (u := U) (U := U.calling g mk a) (Vm.Alike.refl U.vm) qT⟩, fun U hU hW => ⟨rfl, by rw [hU], by rw [hU]; exact hPc, va_K.moved hW.alike hKc, hDc.weaken (fun _ _ _ _ => trivial), by rw [hU]; exact ((hth.kept hS.2.1).narrow hFc).moved hW.alike⟩⟩ rfl rfl hl.1 rfl (lv_room (Nat.le_of_ble_eq_true rfl)) dL_law_526 ⟨(Nat.le_of_ble_eq_true rfl), (Nat.le_of_ble_eq_true rfl)⟩) hS (fun q _ h => hFc q h) hFc (fun r u t H1 locs ht hvm hw hB hz1 hk1 hS => ?_)
  subst hw
  obtain ⟨hP1, hK1, hD1⟩ := hB
  rw [ht] at hP1
  obtain ⟨hP, hD⟩ := va_join (wr := [(m0, .inr (13, m0g)), (md, .inl (mdC, (6, .inl (fun _ => 0))))]) (w1 := []) hP hD [0, 1, 2, 3, 4, 5, 6, 7] [8, 9] rfl rfl (by decide) (by decide) hk1 hFc hP1 hD1
  have hP := hP.sub (ws' := [(m0, .inr (13, m0g)), (md, .inl (mdC, (6, .inl (fun _ => 0))))]) [0, 1] rfl
  have hD := hD.sub (ws' := [(m0, .inr (13, m0g)), (md, .inl (mdC, (6, .inl (fun _ => 0))))]) [0, 1] (by decide) rfl
  have hK := hK.sub (tys' := [(mdC, .boolean)]) [1] rfl
  generalize H1 = H at hP hS ⊢
  have hP : va_P (dC, dI) CL [(m0, .inr (13, m0g)), (md, .inl (mdC, (6, .inl (fun _ => 0))))] H := hP
  have hD : va_D A [(m0, .inr (13, m0g)), (md, .inl (mdC, (6, .inl (fun _ => 0))))] := hD
  refine W.widen (k := 453) (n := 2709154) (Nat.le_of_ble_eq_true rfl) (Nat.le_of_ble_eq_true rfl) ?_
  refine lv_istore (lv' := [(5, .int 2), (0, .ref b), (1, .ref x), (2, .ref m0), (3, .ref oA), (4, .int 0)]) hx hb dL_law_529 hl (by decide) rfl (fun ls hl => ?_)
  refine lv_aload_n hx hb dL_law_531 rfl (lv_at hl 3 rfl) ?_
  refine lv_aload_n hx hb dL_law_532 rfl (lv_at hl 1 rfl) ?_
  refine lv_iload hx hb dL_law_533 (lv_at hl 5 rfl) ?_
  refine lv_iconst (v := 1) hx hb dL_law_535 (by decide +kernel) ?_
  refine lv_iadd hx hb dL_law_536 ?_
  refine va_sld hx hb hX hbl hbA hS vi_1 dL_law_537 ?_
  refine lv_topi (fun v9 e9 => ?_)
  obtain rfl : v9 = 0 := e9.trans q0
  refine lv_aload_n hx hb dL_law_538 rfl (lv_at hl 1 rfl) ?_
  refine lv_iload hx hb dL_law_539 (lv_at hl 5 rfl) ?_
  refine lv_iconst (v := 2) hx hb dL_law_541 (by decide +kernel) ?_
  refine lv_iadd hx hb dL_law_542 ?_
  refine va_sld hx hb hX hbl hbA hS vi_2 dL_law_543 ?_
  refine lv_topi (fun v9 e9 => ?_)
  obtain rfl : p1 = v9 := (e9.trans q1).symm
  have hFc := va_free (wc := [(m0, .inr (13, m0g)), (md, .inl (mdC, (6, .inl (fun _ => 0))))]) hD hS hA [0, 1] rfl
  refine va_callv (va_runV (As := [.int 0, .int p1]) (rest := []) ⟨hx, hb, hml, hown, hts⟩ (gx47_X13_drop l hlt dC dI _ p1 m0 md ml mch m0g h_m0 mdC) (cwV 2 hts (gi_V wd_4068 wd_4069 wd_4070 wd_340 wd_4071) rfl rfl rfl (by decide +kernel) ⟨(Nat.le_of_ble_eq_true rfl), (Nat.le_of_ble_eq_true rfl)⟩) ⟨fun a U g mk q => by obtain ⟨q0, q1, qP, qK, qD, qT⟩ := q; exact ⟨q0, q1, qP, va_K.moved (u := U) (U := U.calling g mk a) (Vm.Alike.refl U.vm) qK, qD, th.moved (u := U) (U := U.calling g mk a) (Vm.Alike.refl U.vm) qT⟩, va_recv hK hP (ci := 13) (q0 := 0) rfl rfl, fun U hU hW => ⟨rfl, by rw [hU], by rw [hU]; exact hP, va_K.moved hW.alike hK, hD.weaken (fun _ _ _ _ => trivial), by rw [hU]; exact ((hth.kept hS.2.1).narrow hFc).moved hW.alike⟩⟩ rfl rfl hl.1 rfl (lv_room (Nat.le_of_ble_eq_true rfl)) dL_law_544 ⟨(Nat.le_of_ble_eq_true rfl), (Nat.le_of_ble_eq_true rfl)⟩) hS (fun q _ h => hFc q h) hFc (fun u t H1 locs ht hvm hw hB hz1 hk1 hS => ?_)
  obtain ⟨fs_1, h_m0, hP1, hK1, hD1⟩ := hB
  rw [ht] at hP1
  have hD := hD1.weaken (fun k q _ h => hFc q.1 h)
  have hP := hP1
  generalize H1 = H at hP hS ⊢
  have hP : va_P (dC, dI) CL [(m0, .inr (13, fs_1)), (md, .inl (mdC, (6, .inl (fun _ => 0))))] H := hP
  have hD : va_D A [(m0, .inr (13, fs_1)), (md, .inl (mdC, (6, .inl (fun _ => 0))))] := hD
  refine lv_aload_n hx hb dL_law_547 rfl (lv_at hl 3 rfl) ?_
  have hPc := hP.sub (ws' := [(m0, .inr (13, fs_1))]) [0] rfl
  have hDc := hD.sub (ws' := [(m0, .inr (13, fs_1))]) [0] (by decide) rfl
  have hKc := hK.sub (tys' := []) [] rfl
  have hFc := va_free (wc := [(m0, .inr (13, fs_1))]) hD hS hA [0] rfl
  refine va_calli (va_runV (As := []) (rest := []) ⟨hx, hb, hml, hown, hts⟩ (gx50_X13_thrown l hlt dC dI _ m0 md ml mch fs_1 h_m0) (cwV 0 hts (gi_V wd_3015 wd_3016 wd_3017 wd_340 wd_3018) rfl rfl rfl (by decide +kernel) ⟨(Nat.le_of_ble_eq_true rfl), (Nat.le_of_ble_eq_true rfl)⟩) ⟨fun a U g mk q => by obtain ⟨q0, q1, qP, qK, qD, qT⟩ := q; exact ⟨q0, q1, qP, va_K.moved (u := U) (U := U.calling g mk a) (Vm.Alike.refl U.vm) qK, qD, th.moved (u := U) (U := U.calling g mk a) (Vm.Alike.refl U.vm) qT⟩, va_recv hKc hPc (ci := 13) (q0 := 0) rfl rfl, fun U hU hW => ⟨rfl, by rw [hU], by rw [hU]; exact hPc, va_K.moved hW.alike hKc, hDc.weaken (fun _ _ _ _ => trivial), by rw [hU]; exact ((hth.kept hS.2.1).narrow hFc).moved hW.alike⟩⟩ rfl rfl hl.1 rfl (lv_room (Nat.le_of_ble_eq_true rfl)) dL_law_548 ⟨(Nat.le_of_ble_eq_true rfl), (Nat.le_of_ble_eq_true rfl)⟩) hS (fun q _ h => hFc q h) hFc (fun r u t H1 locs ht hvm hw hB hz1 hk1 hS => ?_)
  subst hw
  obtain ⟨fs_2, h_m0, hP1, hK1, hD1⟩ := hB
  rw [ht] at hP1
  obtain ⟨hP, hD⟩ := va_join (wr := [(md, .inl (mdC, (6, .inl (fun _ => 0))))]) (w1 := [(m0, .inr (13, fs_2))]) hP hD [0] [1] rfl rfl (by decide) (by decide) hk1 hFc hP1 hD1
  have hP := hP.sub (ws' := [(m0, .inr (13, fs_2)), (md, .inl (mdC, (6, .inl (fun _ => 0))))]) [1, 0] rfl
  have hD := hD.sub (ws' := [(m0, .inr (13, fs_2)), (md, .inl (mdC, (6, .inl (fun _ => 0))))]) [1, 0] (by decide) rfl
  generalize H1 = H at hP hS ⊢
  have hP : va_P (dC, dI) CL [(m0, .inr (13, fs_2)), (md, .inl (mdC, (6, .inl (fun _ => 0))))] H := hP
  have hD : va_D A [(m0, .inr (13, fs_2)), (md, .inl (mdC, (6, .inl (fun _ => 0))))] := hD
  refine lv_iload hx hb dL_law_551 (lv_at hl 0 rfl) ?_
  refine lv_icmp_eq (tgt := 558) hx hb dL_law_553 (by decide) (fun c9 => ?_) (fun c9 => ?_)
  rotate_left
  · first | exact absurd c9 (by decide +kernel) | exact absurd (by decide +kernel) c9
  refine lv_goto (tgt := 4099) hx hb dL_law_558 (by decide) ?_
  refine W.widen (k := 470) (n := 2709300) (Nat.le_of_ble_eq_true rfl) (Nat.le_of_ble_eq_true rfl) ?_
  rw [eA] at hS
  exact law_tail (v5 := 0) (v6 := 0) (lv := []) C0 hS (lv_sub hl [1, 5] rfl)
set_option maxHeartbeats 4000000 in
set_option maxRecDepth 100000 in
theorem law_drop_1 {p : Program} {l : Launch} {e : Env} {s : State} {m : MethodId} {below : List Frame} {meth : Method} {c : Code} {b : Nat} {xs : Nat → Int32} (C0 : lw_At p s m meth c b 7 xs) {dC : Nat → ClassId} {dI : Nat → Nat → Nat} (hlt : l.stackTraces = false) (hth : th (fun q : Nat => s.heap.size ≤ q) s s.heap) (q0 : (xs ((0 : Int32) + 1).toNatClampNeg) = 1) (p1 : Int32) (q1 : (xs ((0 : Int32) + 2).toNatClampNeg) = p1) (x liA li0 li1 li2 m0 ml deA chA md mch oA : Nat) (xg : List Value) (h_x : fx xg 17 [(7, .ref deA), (8, .ref liA), (9, .ref chA)]) (liAC : ClassId) (liAF : Nat → Option Nat) (li0g : List Value) (h_li0 : fx li0g 7 [(0, .int 0)]) (li1g : List Value) (h_li1 : fx li1g 7 [(0, .int 0)]) (li2g : List Value) (h_li2 : fx li2g 7 [(0, .int 0)]) (m0g : List Value) (h_m0 : fx m0g 225 [(0, .int 0), (2, .int 0), (3, .int 0), (9, .int 0), (10, .int 0), (11, .int 0), (12, .int 0), (27, .int 0), (55, .ref md), (79, .int 0), (83, .int 0), (88, .ref ml), (95, .int 0), (138, .ref mch)]) (mlC : ClassId) (h_liA0 : liAF 0 = some li0) (h_liA1 : liAF 1 = some li1) (h_liA2 : liAF 2 = some li2) (H : Heap) (locs : List Loc) (hK : va_K (dC, dI) CL [(liAC, .object "ChipFlow$Library"), (mlC, .boolean)] s) (hP : va_P (dC, dI) CL [(x, .inr (12, xg)), (liA, .inl (liAC, (3, .inr (.inr (.inr (.inr liAF)))))), (li0, .inr (5, li0g)), (li1, .inr (5, li1g)), (li2, .inr (5, li2g)), (m0, .inr (13, m0g)), (ml, .inl (mlC, (3, .inl (fun _ => 0))))] H) (hD : va_D (fun q : Nat => s.heap.size ≤ q) [(x, .inr (12, xg)), (liA, .inl (liAC, (3, .inr (.inr (.inr (.inr liAF)))))), (li0, .inr (5, li0g)), (li1, .inr (5, li1g)), (li2, .inr (5, li2g)), (m0, .inr (13, m0g)), (ml, .inl (mlC, (3, .inl (fun _ => 0))))]) (hS : va_S (fun q : Nat => s.heap.size ≤ q) s.heap H locs) (ls : Array Slot) (hl : lv_has ls 7 [(0, .ref b), (1, .ref x), (2, .ref m0), (3, .ref oA), (4, .int 0)]) : W p l e room_1 s m #[Value.ref b] below meth c H locs 451 2709142 (lw_Z below #[Value.ref b] s) (F0 m 513 ls []) := by
  obtain ⟨hx, hb, hr, hml, hown, hts0, hX, hbl, hlocks, hgv⟩ := id C0
  have hts : ∀ w ∈ BG, w.before _ s = true := fun w h => hts0 w (List.mem_filter.mp h).1
  have hown : s.vm.findClass RL = some m.cls := hown
  obtain ⟨A, eA⟩ : ∃ z : Nat → Prop, z = (fun q : Nat => s.heap.size ≤ q) := ⟨_, rfl⟩
  rw [← eA] at hth hD hS
  have hA : ∀ q : Nat, s.heap.size ≤ q → A q := fun q h => by rw [eA]; exact h
  have hbA : ¬ A b := by rw [eA]; exact Nat.not_le.mpr hbl
  refine lv_aload_n hx hb dL_law_513 rfl (lv_at hl 1 rfl) ?_
  refine lv_aload_n hx hb dL_law_514 rfl (lv_at hl 0 rfl) ?_
  refine lv_iload hx hb dL_law_515 (lv_at hl 4 rfl) ?_
  refine lv_iconst (v := 1) hx hb dL_law_517 (by decide +kernel) ?_
  refine lv_iadd hx hb dL_law_518 ?_
  refine va_sld hx hb hX hbl hbA hS vi_1 dL_law_519 ?_
  refine lv_topi (fun v9 e9 => ?_)
  obtain rfl : v9 = 1 := e9.trans q0
  refine lv_aload_n hx hb dL_law_520 rfl (lv_at hl 0 rfl) ?_
  refine lv_iload hx hb dL_law_521 (lv_at hl 4 rfl) ?_
  refine lv_iconst (v := 2) hx hb dL_law_523 (by decide +kernel) ?_
  refine lv_iadd hx hb dL_law_524 ?_
  refine va_sld hx hb hX hbl hbA hS vi_2 dL_law_525 ?_
  refine lv_topi (fun v9 e9 => ?_)
  obtain rfl : p1 = v9 := (e9.trans q1).symm
  have hPc := hP.sub (ws' := [(x, .inr (12, xg)), (liA, .inl (liAC, (3, .inr (.inr (.inr (.inr liAF)))))), (li0, .inr (5, li0g)), (li1, .inr (5, li1g)), (li2, .inr (5, li2g))]) [0, 1, 2, 3, 4] rfl
  have hDc := hD.sub (ws' := [(x, .inr (12, xg)), (liA, .inl (liAC, (3, .inr (.inr (.inr (.inr liAF)))))), (li0, .inr (5, li0g)), (li1, .inr (5, li1g)), (li2, .inr (5, li2g))]) [0, 1, 2, 3, 4] (by decide) rfl
  have hKc := hK.sub (tys' := [(liAC, .object "ChipFlow$Library")]) [0] rfl
  have hFc := va_free (wc := [(x, .inr (12, xg)), (liA, .inl (liAC, (3, .inr (.inr (.inr (.inr liAF)))))), (li0, .inr (5, li0g)), (li1, .inr (5, li1g)), (li2, .inr (5, li2g))]) hD hS hA [0, 1, 2, 3, 4] rfl
  refine va_calli (vx_runSW (As := [.ref x, .int 1, .int p1]) (rest := []) ⟨hx, hb, hml, hown, hts⟩ (gx51_L_drop l hlt dC dI _ p1 x liA li0 li1 li2 deA chA xg h_x liAC liAF li0g h_li0 li1g h_li1 li2g h_li2 h_liA0 h_liA1 h_liA2) (vx_cwSW 3 hts (gi_W wd_1801 wd_1802 wd_326 wd_1803) rfl rfl rfl (by decide +kernel) ⟨(Nat.le_of_ble_eq_true rfl), (Nat.le_of_ble_eq_true rfl)⟩) ⟨fun a U g mk q => by obtain ⟨q0, q1, qP, qK, qD, qT⟩ := q; exact ⟨q0, q1, qP, va_K.moved (u := U) (U := U.calling g mk a) (Vm.Alike.refl U.vm) qK, qD, th.moved (u := U) (U := U.calling g mk a) (Vm.Alike.refl U.vm) qT⟩, fun U hU hW => ⟨rfl, by rw [hU], by rw [hU]; exact hPc, va_K.moved hW.alike hKc, hDc.weaken (fun _ _ _ _ => trivial), by rw [hU]; exact ((hth.kept hS.2.1).narrow hFc).moved hW.alike⟩⟩ rfl rfl hl.1 rfl (lv_room (Nat.le_of_ble_eq_true rfl)) dL_law_526 ⟨(Nat.le_of_ble_eq_true rfl), (Nat.le_of_ble_eq_true rfl)⟩) hS (fun q _ h => hFc q h) hFc (fun r u t H1 locs ht hvm hw hB hz1 hk1 hS => ?_)
  subst hw
  obtain ⟨hP1, hK1, hD1⟩ := hB
  rw [ht] at hP1
  obtain ⟨hP, hD⟩ := va_join (wr := [(m0, .inr (13, m0g)), (ml, .inl (mlC, (3, .inl (fun _ => 0))))]) (w1 := []) hP hD [0, 1, 2, 3, 4] [5, 6] rfl rfl (by decide) (by decide) hk1 hFc hP1 hD1
  have hP := hP.sub (ws' := [(m0, .inr (13, m0g)), (ml, .inl (mlC, (3, .inl (fun _ => 0))))]) [0, 1] rfl
  have hD := hD.sub (ws' := [(m0, .inr (13, m0g)), (ml, .inl (mlC, (3, .inl (fun _ => 0))))]) [0, 1] (by decide) rfl
  have hK := hK.sub (tys' := [(mlC, .boolean)]) [1] rfl
  generalize H1 = H at hP hS ⊢
  have hP : va_P (dC, dI) CL [(m0, .inr (13, m0g)), (ml, .inl (mlC, (3, .inl (fun _ => 0))))] H := hP
  have hD : va_D A [(m0, .inr (13, m0g)), (ml, .inl (mlC, (3, .inl (fun _ => 0))))] := hD
  refine W.widen (k := 453) (n := 2709154) (Nat.le_of_ble_eq_true rfl) (Nat.le_of_ble_eq_true rfl) ?_
  refine lv_istore (lv' := [(5, .int 2), (0, .ref b), (1, .ref x), (2, .ref m0), (3, .ref oA), (4, .int 0)]) hx hb dL_law_529 hl (by decide) rfl (fun ls hl => ?_)
  refine lv_aload_n hx hb dL_law_531 rfl (lv_at hl 3 rfl) ?_
  refine lv_aload_n hx hb dL_law_532 rfl (lv_at hl 1 rfl) ?_
  refine lv_iload hx hb dL_law_533 (lv_at hl 5 rfl) ?_
  refine lv_iconst (v := 1) hx hb dL_law_535 (by decide +kernel) ?_
  refine lv_iadd hx hb dL_law_536 ?_
  refine va_sld hx hb hX hbl hbA hS vi_1 dL_law_537 ?_
  refine lv_topi (fun v9 e9 => ?_)
  obtain rfl : v9 = 1 := e9.trans q0
  refine lv_aload_n hx hb dL_law_538 rfl (lv_at hl 1 rfl) ?_
  refine lv_iload hx hb dL_law_539 (lv_at hl 5 rfl) ?_
  refine lv_iconst (v := 2) hx hb dL_law_541 (by decide +kernel) ?_
  refine lv_iadd hx hb dL_law_542 ?_
  refine va_sld hx hb hX hbl hbA hS vi_2 dL_law_543 ?_
  refine lv_topi (fun v9 e9 => ?_)
  obtain rfl : p1 = v9 := (e9.trans q1).symm
  have hFc := va_free (wc := [(m0, .inr (13, m0g)), (ml, .inl (mlC, (3, .inl (fun _ => 0))))]) hD hS hA [0, 1] rfl
  refine va_callv (va_runV (As := [.int 1, .int p1]) (rest := []) ⟨hx, hb, hml, hown, hts⟩ (gx53_X13_drop l hlt dC dI _ p1 m0 ml md mch m0g h_m0 mlC) (cwV 2 hts (gi_V wd_4068 wd_4069 wd_4070 wd_340 wd_4071) rfl rfl rfl (by decide +kernel) ⟨(Nat.le_of_ble_eq_true rfl), (Nat.le_of_ble_eq_true rfl)⟩) ⟨fun a U g mk q => by obtain ⟨q0, q1, qP, qK, qD, qT⟩ := q; exact ⟨q0, q1, qP, va_K.moved (u := U) (U := U.calling g mk a) (Vm.Alike.refl U.vm) qK, qD, th.moved (u := U) (U := U.calling g mk a) (Vm.Alike.refl U.vm) qT⟩, va_recv hK hP (ci := 13) (q0 := 0) rfl rfl, fun U hU hW => ⟨rfl, by rw [hU], by rw [hU]; exact hP, va_K.moved hW.alike hK, hD.weaken (fun _ _ _ _ => trivial), by rw [hU]; exact ((hth.kept hS.2.1).narrow hFc).moved hW.alike⟩⟩ rfl rfl hl.1 rfl (lv_room (Nat.le_of_ble_eq_true rfl)) dL_law_544 ⟨(Nat.le_of_ble_eq_true rfl), (Nat.le_of_ble_eq_true rfl)⟩) hS (fun q _ h => hFc q h) hFc (fun u t H1 locs ht hvm hw hB hz1 hk1 hS => ?_)
  obtain ⟨fs_1, h_m0, hP1, hK1, hD1⟩ := hB
  rw [ht] at hP1
  have hD := hD1.weaken (fun k q _ h => hFc q.1 h)
  have hP := hP1
  generalize H1 = H at hP hS ⊢
  have hP : va_P (dC, dI) CL [(m0, .inr (13, fs_1)), (ml, .inl (mlC, (3, .inl (fun _ => 0))))] H := hP
  have hD : va_D A [(m0, .inr (13, fs_1)), (ml, .inl (mlC, (3, .inl (fun _ => 0))))] := hD
  refine lv_aload_n hx hb dL_law_547 rfl (lv_at hl 3 rfl) ?_
  have hPc := hP.sub (ws' := [(m0, .inr (13, fs_1))]) [0] rfl
  have hDc := hD.sub (ws' := [(m0, .inr (13, fs_1))]) [0] (by decide) rfl
  have hKc := hK.sub (tys' := []) [] rfl
  have hFc := va_free (wc := [(m0, .inr (13, fs_1))]) hD hS hA [0] rfl
  refine va_calli (va_runV (As := []) (rest := []) ⟨hx, hb, hml, hown, hts⟩ (gx50_X13_thrown l hlt dC dI _ m0 md ml mch fs_1 h_m0) (cwV 0 hts (gi_V wd_3015 wd_3016 wd_3017 wd_340 wd_3018) rfl rfl rfl (by decide +kernel) ⟨(Nat.le_of_ble_eq_true rfl), (Nat.le_of_ble_eq_true rfl)⟩) ⟨fun a U g mk q => by obtain ⟨q0, q1, qP, qK, qD, qT⟩ := q; exact ⟨q0, q1, qP, va_K.moved (u := U) (U := U.calling g mk a) (Vm.Alike.refl U.vm) qK, qD, th.moved (u := U) (U := U.calling g mk a) (Vm.Alike.refl U.vm) qT⟩, va_recv hKc hPc (ci := 13) (q0 := 0) rfl rfl, fun U hU hW => ⟨rfl, by rw [hU], by rw [hU]; exact hPc, va_K.moved hW.alike hKc, hDc.weaken (fun _ _ _ _ => trivial), by rw [hU]; exact ((hth.kept hS.2.1).narrow hFc).moved hW.alike⟩⟩ rfl rfl hl.1 rfl (lv_room (Nat.le_of_ble_eq_true rfl)) dL_law_548 ⟨(Nat.le_of_ble_eq_true rfl), (Nat.le_of_ble_eq_true rfl)⟩) hS (fun q _ h => hFc q h) hFc (fun r u t H1 locs ht hvm hw hB hz1 hk1 hS => ?_)
  subst hw
  obtain ⟨fs_2, h_m0, hP1, hK1, hD1⟩ := hB
  rw [ht] at hP1
  obtain ⟨hP, hD⟩ := va_join (wr := [(ml, .inl (mlC, (3, .inl (fun _ => 0))))]) (w1 := [(m0, .inr (13, fs_2))]) hP hD [0] [1] rfl rfl (by decide) (by decide) hk1 hFc hP1 hD1
  have hP := hP.sub (ws' := [(m0, .inr (13, fs_2)), (ml, .inl (mlC, (3, .inl (fun _ => 0))))]) [1, 0] rfl
  have hD := hD.sub (ws' := [(m0, .inr (13, fs_2)), (ml, .inl (mlC, (3, .inl (fun _ => 0))))]) [1, 0] (by decide) rfl
  generalize H1 = H at hP hS ⊢
  have hP : va_P (dC, dI) CL [(m0, .inr (13, fs_2)), (ml, .inl (mlC, (3, .inl (fun _ => 0))))] H := hP
  have hD : va_D A [(m0, .inr (13, fs_2)), (ml, .inl (mlC, (3, .inl (fun _ => 0))))] := hD
  refine lv_iload hx hb dL_law_551 (lv_at hl 0 rfl) ?_
  refine lv_icmp_eq (tgt := 558) hx hb dL_law_553 (by decide) (fun c9 => ?_) (fun c9 => ?_)
  rotate_left
  · first | exact absurd c9 (by decide +kernel) | exact absurd (by decide +kernel) c9
  refine lv_goto (tgt := 4099) hx hb dL_law_558 (by decide) ?_
  refine W.widen (k := 470) (n := 2709300) (Nat.le_of_ble_eq_true rfl) (Nat.le_of_ble_eq_true rfl) ?_
  rw [eA] at hS
  exact law_tail (v5 := 0) (v6 := 0) (lv := []) C0 hS (lv_sub hl [1, 5] rfl)
set_option maxHeartbeats 4000000 in
set_option maxRecDepth 100000 in
theorem law_drop_2 {p : Program} {l : Launch} {e : Env} {s : State} {m : MethodId} {below : List Frame} {meth : Method} {c : Code} {b : Nat} {xs : Nat → Int32} (C0 : lw_At p s m meth c b 7 xs) {dC : Nat → ClassId} {dI : Nat → Nat → Nat} (hlt : l.stackTraces = false) (hth : th (fun q : Nat => s.heap.size ≤ q) s s.heap) (q0 : (xs ((0 : Int32) + 1).toNatClampNeg) = 2) (p1 : Int32) (q1 : (xs ((0 : Int32) + 2).toNatClampNeg) = p1) (x chA ch0 ch1 ch2 ch3 m0 mch deA liA md ml oA : Nat) (xg : List Value) (h_x : fx xg 17 [(7, .ref deA), (8, .ref liA), (9, .ref chA)]) (chAC : ClassId) (chAF : Nat → Option Nat) (ch0g : List Value) (h_ch0 : fx ch0g 20 [(0, .int 0)]) (ch1g : List Value) (h_ch1 : fx ch1g 20 [(0, .int 0)]) (ch2g : List Value) (h_ch2 : fx ch2g 20 [(0, .int 0)]) (ch3g : List Value) (h_ch3 : fx ch3g 20 [(0, .int 0)]) (m0g : List Value) (h_m0 : fx m0g 225 [(0, .int 0), (2, .int 0), (3, .int 0), (9, .int 0), (10, .int 0), (11, .int 0), (12, .int 0), (27, .int 0), (55, .ref md), (79, .int 0), (83, .int 0), (88, .ref ml), (95, .int 0), (138, .ref mch)]) (mchC : ClassId) (h_chA0 : chAF 0 = some ch0) (h_chA1 : chAF 1 = some ch1) (h_chA2 : chAF 2 = some ch2) (h_chA3 : chAF 3 = some ch3) (H : Heap) (locs : List Loc) (hK : va_K (dC, dI) CL [(chAC, .object "ChipFlow$Chip"), (mchC, .boolean)] s) (hP : va_P (dC, dI) CL [(x, .inr (12, xg)), (chA, .inl (chAC, (4, .inr (.inr (.inr (.inr chAF)))))), (ch0, .inr (2, ch0g)), (ch1, .inr (2, ch1g)), (ch2, .inr (2, ch2g)), (ch3, .inr (2, ch3g)), (m0, .inr (13, m0g)), (mch, .inl (mchC, (4, .inl (fun _ => 0))))] H) (hD : va_D (fun q : Nat => s.heap.size ≤ q) [(x, .inr (12, xg)), (chA, .inl (chAC, (4, .inr (.inr (.inr (.inr chAF)))))), (ch0, .inr (2, ch0g)), (ch1, .inr (2, ch1g)), (ch2, .inr (2, ch2g)), (ch3, .inr (2, ch3g)), (m0, .inr (13, m0g)), (mch, .inl (mchC, (4, .inl (fun _ => 0))))]) (hS : va_S (fun q : Nat => s.heap.size ≤ q) s.heap H locs) (ls : Array Slot) (hl : lv_has ls 7 [(0, .ref b), (1, .ref x), (2, .ref m0), (3, .ref oA), (4, .int 0)]) : W p l e room_1 s m #[Value.ref b] below meth c H locs 451 2709142 (lw_Z below #[Value.ref b] s) (F0 m 513 ls []) := by
  obtain ⟨hx, hb, hr, hml, hown, hts0, hX, hbl, hlocks, hgv⟩ := id C0
  have hts : ∀ w ∈ BG, w.before _ s = true := fun w h => hts0 w (List.mem_filter.mp h).1
  have hown : s.vm.findClass RL = some m.cls := hown
  obtain ⟨A, eA⟩ : ∃ z : Nat → Prop, z = (fun q : Nat => s.heap.size ≤ q) := ⟨_, rfl⟩
  rw [← eA] at hth hD hS
  have hA : ∀ q : Nat, s.heap.size ≤ q → A q := fun q h => by rw [eA]; exact h
  have hbA : ¬ A b := by rw [eA]; exact Nat.not_le.mpr hbl
  refine lv_aload_n hx hb dL_law_513 rfl (lv_at hl 1 rfl) ?_
  refine lv_aload_n hx hb dL_law_514 rfl (lv_at hl 0 rfl) ?_
  refine lv_iload hx hb dL_law_515 (lv_at hl 4 rfl) ?_
  refine lv_iconst (v := 1) hx hb dL_law_517 (by decide +kernel) ?_
  refine lv_iadd hx hb dL_law_518 ?_
  refine va_sld hx hb hX hbl hbA hS vi_1 dL_law_519 ?_
  refine lv_topi (fun v9 e9 => ?_)
  obtain rfl : v9 = 2 := e9.trans q0
  refine lv_aload_n hx hb dL_law_520 rfl (lv_at hl 0 rfl) ?_
  refine lv_iload hx hb dL_law_521 (lv_at hl 4 rfl) ?_
  refine lv_iconst (v := 2) hx hb dL_law_523 (by decide +kernel) ?_
  refine lv_iadd hx hb dL_law_524 ?_
  refine va_sld hx hb hX hbl hbA hS vi_2 dL_law_525 ?_
  refine lv_topi (fun v9 e9 => ?_)
  obtain rfl : p1 = v9 := (e9.trans q1).symm
  have hPc := hP.sub (ws' := [(x, .inr (12, xg)), (chA, .inl (chAC, (4, .inr (.inr (.inr (.inr chAF)))))), (ch0, .inr (2, ch0g)), (ch1, .inr (2, ch1g)), (ch2, .inr (2, ch2g)), (ch3, .inr (2, ch3g))]) [0, 1, 2, 3, 4, 5] rfl
  have hDc := hD.sub (ws' := [(x, .inr (12, xg)), (chA, .inl (chAC, (4, .inr (.inr (.inr (.inr chAF)))))), (ch0, .inr (2, ch0g)), (ch1, .inr (2, ch1g)), (ch2, .inr (2, ch2g)), (ch3, .inr (2, ch3g))]) [0, 1, 2, 3, 4, 5] (by decide) rfl
  have hKc := hK.sub (tys' := [(chAC, .object "ChipFlow$Chip")]) [0] rfl
  have hFc := va_free (wc := [(x, .inr (12, xg)), (chA, .inl (chAC, (4, .inr (.inr (.inr (.inr chAF)))))), (ch0, .inr (2, ch0g)), (ch1, .inr (2, ch1g)), (ch2, .inr (2, ch2g)), (ch3, .inr (2, ch3g))]) hD hS hA [0, 1, 2, 3, 4, 5] rfl
  refine va_calli (vx_runSW (As := [.ref x, .int 2, .int p1]) (rest := []) ⟨hx, hb, hml, hown, hts⟩ (gx56_L_drop l hlt dC dI _ p1 x chA ch0 ch1 ch2 ch3 deA liA xg h_x chAC chAF ch0g h_ch0 ch1g h_ch1 ch2g h_ch2 ch3g h_ch3 h_chA0 h_chA1 h_chA2 h_chA3) (vx_cwSW 3 hts (gi_W wd_1801 wd_1802 wd_326 wd_1803) rfl rfl rfl (by decide +kernel) ⟨(Nat.le_of_ble_eq_true rfl), (Nat.le_of_ble_eq_true rfl)⟩) ⟨fun a U g mk q => by obtain ⟨q0, q1, qP, qK, qD, qT⟩ := q; exact ⟨q0, q1, qP, va_K.moved (u := U) (U := U.calling g mk a) (Vm.Alike.refl U.vm) qK, qD, th.moved (u := U) (U := U.calling g mk a) (Vm.Alike.refl U.vm) qT⟩, fun U hU hW => ⟨rfl, by rw [hU], by rw [hU]; exact hPc, va_K.moved hW.alike hKc, hDc.weaken (fun _ _ _ _ => trivial), by rw [hU]; exact ((hth.kept hS.2.1).narrow hFc).moved hW.alike⟩⟩ rfl rfl hl.1 rfl (lv_room (Nat.le_of_ble_eq_true rfl)) dL_law_526 ⟨(Nat.le_of_ble_eq_true rfl), (Nat.le_of_ble_eq_true rfl)⟩) hS (fun q _ h => hFc q h) hFc (fun r u t H1 locs ht hvm hw hB hz1 hk1 hS => ?_)
  subst hw
  obtain ⟨hP1, hK1, hD1⟩ := hB
  rw [ht] at hP1
  obtain ⟨hP, hD⟩ := va_join (wr := [(m0, .inr (13, m0g)), (mch, .inl (mchC, (4, .inl (fun _ => 0))))]) (w1 := []) hP hD [0, 1, 2, 3, 4, 5] [6, 7] rfl rfl (by decide) (by decide) hk1 hFc hP1 hD1
  have hP := hP.sub (ws' := [(m0, .inr (13, m0g)), (mch, .inl (mchC, (4, .inl (fun _ => 0))))]) [0, 1] rfl
  have hD := hD.sub (ws' := [(m0, .inr (13, m0g)), (mch, .inl (mchC, (4, .inl (fun _ => 0))))]) [0, 1] (by decide) rfl
  have hK := hK.sub (tys' := [(mchC, .boolean)]) [1] rfl
  generalize H1 = H at hP hS ⊢
  have hP : va_P (dC, dI) CL [(m0, .inr (13, m0g)), (mch, .inl (mchC, (4, .inl (fun _ => 0))))] H := hP
  have hD : va_D A [(m0, .inr (13, m0g)), (mch, .inl (mchC, (4, .inl (fun _ => 0))))] := hD
  refine W.widen (k := 453) (n := 2709154) (Nat.le_of_ble_eq_true rfl) (Nat.le_of_ble_eq_true rfl) ?_
  refine lv_istore (lv' := [(5, .int 2), (0, .ref b), (1, .ref x), (2, .ref m0), (3, .ref oA), (4, .int 0)]) hx hb dL_law_529 hl (by decide) rfl (fun ls hl => ?_)
  refine lv_aload_n hx hb dL_law_531 rfl (lv_at hl 3 rfl) ?_
  refine lv_aload_n hx hb dL_law_532 rfl (lv_at hl 1 rfl) ?_
  refine lv_iload hx hb dL_law_533 (lv_at hl 5 rfl) ?_
  refine lv_iconst (v := 1) hx hb dL_law_535 (by decide +kernel) ?_
  refine lv_iadd hx hb dL_law_536 ?_
  refine va_sld hx hb hX hbl hbA hS vi_1 dL_law_537 ?_
  refine lv_topi (fun v9 e9 => ?_)
  obtain rfl : v9 = 2 := e9.trans q0
  refine lv_aload_n hx hb dL_law_538 rfl (lv_at hl 1 rfl) ?_
  refine lv_iload hx hb dL_law_539 (lv_at hl 5 rfl) ?_
  refine lv_iconst (v := 2) hx hb dL_law_541 (by decide +kernel) ?_
  refine lv_iadd hx hb dL_law_542 ?_
  refine va_sld hx hb hX hbl hbA hS vi_2 dL_law_543 ?_
  refine lv_topi (fun v9 e9 => ?_)
  obtain rfl : p1 = v9 := (e9.trans q1).symm
  have hFc := va_free (wc := [(m0, .inr (13, m0g)), (mch, .inl (mchC, (4, .inl (fun _ => 0))))]) hD hS hA [0, 1] rfl
  refine va_callv (va_runV (As := [.int 2, .int p1]) (rest := []) ⟨hx, hb, hml, hown, hts⟩ (gx58_X13_drop l hlt dC dI _ p1 m0 mch md ml m0g h_m0 mchC) (cwV 2 hts (gi_V wd_4068 wd_4069 wd_4070 wd_340 wd_4071) rfl rfl rfl (by decide +kernel) ⟨(Nat.le_of_ble_eq_true rfl), (Nat.le_of_ble_eq_true rfl)⟩) ⟨fun a U g mk q => by obtain ⟨q0, q1, qP, qK, qD, qT⟩ := q; exact ⟨q0, q1, qP, va_K.moved (u := U) (U := U.calling g mk a) (Vm.Alike.refl U.vm) qK, qD, th.moved (u := U) (U := U.calling g mk a) (Vm.Alike.refl U.vm) qT⟩, va_recv hK hP (ci := 13) (q0 := 0) rfl rfl, fun U hU hW => ⟨rfl, by rw [hU], by rw [hU]; exact hP, va_K.moved hW.alike hK, hD.weaken (fun _ _ _ _ => trivial), by rw [hU]; exact ((hth.kept hS.2.1).narrow hFc).moved hW.alike⟩⟩ rfl rfl hl.1 rfl (lv_room (Nat.le_of_ble_eq_true rfl)) dL_law_544 ⟨(Nat.le_of_ble_eq_true rfl), (Nat.le_of_ble_eq_true rfl)⟩) hS (fun q _ h => hFc q h) hFc (fun u t H1 locs ht hvm hw hB hz1 hk1 hS => ?_)
  obtain ⟨fs_1, h_m0, hP1, hK1, hD1⟩ := hB
  rw [ht] at hP1
  have hD := hD1.weaken (fun k q _ h => hFc q.1 h)
  have hP := hP1
  generalize H1 = H at hP hS ⊢
  have hP : va_P (dC, dI) CL [(m0, .inr (13, fs_1)), (mch, .inl (mchC, (4, .inl (fun _ => 0))))] H := hP
  have hD : va_D A [(m0, .inr (13, fs_1)), (mch, .inl (mchC, (4, .inl (fun _ => 0))))] := hD
  refine lv_aload_n hx hb dL_law_547 rfl (lv_at hl 3 rfl) ?_
  have hPc := hP.sub (ws' := [(m0, .inr (13, fs_1))]) [0] rfl
  have hDc := hD.sub (ws' := [(m0, .inr (13, fs_1))]) [0] (by decide) rfl
  have hKc := hK.sub (tys' := []) [] rfl
  have hFc := va_free (wc := [(m0, .inr (13, fs_1))]) hD hS hA [0] rfl
  refine va_calli (va_runV (As := []) (rest := []) ⟨hx, hb, hml, hown, hts⟩ (gx50_X13_thrown l hlt dC dI _ m0 md ml mch fs_1 h_m0) (cwV 0 hts (gi_V wd_3015 wd_3016 wd_3017 wd_340 wd_3018) rfl rfl rfl (by decide +kernel) ⟨(Nat.le_of_ble_eq_true rfl), (Nat.le_of_ble_eq_true rfl)⟩) ⟨fun a U g mk q => by obtain ⟨q0, q1, qP, qK, qD, qT⟩ := q; exact ⟨q0, q1, qP, va_K.moved (u := U) (U := U.calling g mk a) (Vm.Alike.refl U.vm) qK, qD, th.moved (u := U) (U := U.calling g mk a) (Vm.Alike.refl U.vm) qT⟩, va_recv hKc hPc (ci := 13) (q0 := 0) rfl rfl, fun U hU hW => ⟨rfl, by rw [hU], by rw [hU]; exact hPc, va_K.moved hW.alike hKc, hDc.weaken (fun _ _ _ _ => trivial), by rw [hU]; exact ((hth.kept hS.2.1).narrow hFc).moved hW.alike⟩⟩ rfl rfl hl.1 rfl (lv_room (Nat.le_of_ble_eq_true rfl)) dL_law_548 ⟨(Nat.le_of_ble_eq_true rfl), (Nat.le_of_ble_eq_true rfl)⟩) hS (fun q _ h => hFc q h) hFc (fun r u t H1 locs ht hvm hw hB hz1 hk1 hS => ?_)
  subst hw
  obtain ⟨fs_2, h_m0, hP1, hK1, hD1⟩ := hB
  rw [ht] at hP1
  obtain ⟨hP, hD⟩ := va_join (wr := [(mch, .inl (mchC, (4, .inl (fun _ => 0))))]) (w1 := [(m0, .inr (13, fs_2))]) hP hD [0] [1] rfl rfl (by decide) (by decide) hk1 hFc hP1 hD1
  have hP := hP.sub (ws' := [(m0, .inr (13, fs_2)), (mch, .inl (mchC, (4, .inl (fun _ => 0))))]) [1, 0] rfl
  have hD := hD.sub (ws' := [(m0, .inr (13, fs_2)), (mch, .inl (mchC, (4, .inl (fun _ => 0))))]) [1, 0] (by decide) rfl
  generalize H1 = H at hP hS ⊢
  have hP : va_P (dC, dI) CL [(m0, .inr (13, fs_2)), (mch, .inl (mchC, (4, .inl (fun _ => 0))))] H := hP
  have hD : va_D A [(m0, .inr (13, fs_2)), (mch, .inl (mchC, (4, .inl (fun _ => 0))))] := hD
  refine lv_iload hx hb dL_law_551 (lv_at hl 0 rfl) ?_
  refine lv_icmp_eq (tgt := 558) hx hb dL_law_553 (by decide) (fun c9 => ?_) (fun c9 => ?_)
  rotate_left
  · first | exact absurd c9 (by decide +kernel) | exact absurd (by decide +kernel) c9
  refine lv_goto (tgt := 4099) hx hb dL_law_558 (by decide) ?_
  refine W.widen (k := 470) (n := 2709300) (Nat.le_of_ble_eq_true rfl) (Nat.le_of_ble_eq_true rfl) ?_
  rw [eA] at hS
  exact law_tail (v5 := 0) (v6 := 0) (lv := []) C0 hS (lv_sub hl [1, 5] rfl)
set_option maxHeartbeats 4000000 in
set_option maxRecDepth 100000 in
theorem law_drop {p : Program} {l : Launch} {e : Env} {s : State} {m : MethodId} {below : List Frame} {meth : Method} {c : Code} {b : Nat} {xs : Nat → Int32} (C0 : lw_At p s m meth c b 7 xs) {dC : Nat → ClassId} {dI : Nat → Nat → Nat} (hlt : l.stackTraces = false) (hth : th (fun q : Nat => s.heap.size ≤ q) s s.heap) (x deA de0 de1 de2 de3 de4 de5 liA li0 li1 li2 chA ch0 ch1 ch2 ch3 m0 md ml mch oA : Nat) (xg : List Value) (h_x : fx xg 17 [(7, .ref deA), (8, .ref liA), (9, .ref chA)]) (deAC : ClassId) (deAF : Nat → Option Nat) (de0g : List Value) (h_de0 : fx de0g 16 [(0, .int 0)]) (de1g : List Value) (h_de1 : fx de1g 16 [(0, .int 0)]) (de2g : List Value) (h_de2 : fx de2g 16 [(0, .int 0)]) (de3g : List Value) (h_de3 : fx de3g 16 [(0, .int 0)]) (de4g : List Value) (h_de4 : fx de4g 16 [(0, .int 0)]) (de5g : List Value) (h_de5 : fx de5g 16 [(0, .int 0)]) (liAC : ClassId) (liAF : Nat → Option Nat) (li0g : List Value) (h_li0 : fx li0g 7 [(0, .int 0)]) (li1g : List Value) (h_li1 : fx li1g 7 [(0, .int 0)]) (li2g : List Value) (h_li2 : fx li2g 7 [(0, .int 0)]) (chAC : ClassId) (chAF : Nat → Option Nat) (ch0g : List Value) (h_ch0 : fx ch0g 20 [(0, .int 0)]) (ch1g : List Value) (h_ch1 : fx ch1g 20 [(0, .int 0)]) (ch2g : List Value) (h_ch2 : fx ch2g 20 [(0, .int 0)]) (ch3g : List Value) (h_ch3 : fx ch3g 20 [(0, .int 0)]) (m0g : List Value) (h_m0 : fx m0g 225 [(0, .int 0), (2, .int 0), (3, .int 0), (9, .int 0), (10, .int 0), (11, .int 0), (12, .int 0), (27, .int 0), (55, .ref md), (79, .int 0), (83, .int 0), (88, .ref ml), (95, .int 0), (138, .ref mch)]) (mdC : ClassId) (mlC : ClassId) (mchC : ClassId) (h_deA0 : deAF 0 = some de0) (h_deA1 : deAF 1 = some de1) (h_deA2 : deAF 2 = some de2) (h_deA3 : deAF 3 = some de3) (h_deA4 : deAF 4 = some de4) (h_deA5 : deAF 5 = some de5) (h_liA0 : liAF 0 = some li0) (h_liA1 : liAF 1 = some li1) (h_liA2 : liAF 2 = some li2) (h_chA0 : chAF 0 = some ch0) (h_chA1 : chAF 1 = some ch1) (h_chA2 : chAF 2 = some ch2) (h_chA3 : chAF 3 = some ch3) (H : Heap) (locs : List Loc) (hK : va_K (dC, dI) CL [(deAC, .object "ChipFlow$Design"), (liAC, .object "ChipFlow$Library"), (chAC, .object "ChipFlow$Chip"), (mdC, .boolean), (mlC, .boolean), (mchC, .boolean)] s) (hP : va_P (dC, dI) CL [(x, .inr (12, xg)), (deA, .inl (deAC, (6, .inr (.inr (.inr (.inr deAF)))))), (de0, .inr (3, de0g)), (de1, .inr (3, de1g)), (de2, .inr (3, de2g)), (de3, .inr (3, de3g)), (de4, .inr (3, de4g)), (de5, .inr (3, de5g)), (liA, .inl (liAC, (3, .inr (.inr (.inr (.inr liAF)))))), (li0, .inr (5, li0g)), (li1, .inr (5, li1g)), (li2, .inr (5, li2g)), (chA, .inl (chAC, (4, .inr (.inr (.inr (.inr chAF)))))), (ch0, .inr (2, ch0g)), (ch1, .inr (2, ch1g)), (ch2, .inr (2, ch2g)), (ch3, .inr (2, ch3g)), (m0, .inr (13, m0g)), (md, .inl (mdC, (6, .inl (fun _ => 0)))), (ml, .inl (mlC, (3, .inl (fun _ => 0)))), (mch, .inl (mchC, (4, .inl (fun _ => 0))))] H) (hD : va_D (fun q : Nat => s.heap.size ≤ q) [(x, .inr (12, xg)), (deA, .inl (deAC, (6, .inr (.inr (.inr (.inr deAF)))))), (de0, .inr (3, de0g)), (de1, .inr (3, de1g)), (de2, .inr (3, de2g)), (de3, .inr (3, de3g)), (de4, .inr (3, de4g)), (de5, .inr (3, de5g)), (liA, .inl (liAC, (3, .inr (.inr (.inr (.inr liAF)))))), (li0, .inr (5, li0g)), (li1, .inr (5, li1g)), (li2, .inr (5, li2g)), (chA, .inl (chAC, (4, .inr (.inr (.inr (.inr chAF)))))), (ch0, .inr (2, ch0g)), (ch1, .inr (2, ch1g)), (ch2, .inr (2, ch2g)), (ch3, .inr (2, ch3g)), (m0, .inr (13, m0g)), (md, .inl (mdC, (6, .inl (fun _ => 0)))), (ml, .inl (mlC, (3, .inl (fun _ => 0)))), (mch, .inl (mchC, (4, .inl (fun _ => 0))))]) (hS : va_S (fun q : Nat => s.heap.size ≤ q) s.heap H locs) (ls : Array Slot) (hl : lv_has ls 7 [(0, .ref b), (1, .ref x), (2, .ref m0), (3, .ref oA), (4, .int 0)]) : W p l e room_1 s m #[Value.ref b] below meth c H locs 451 2709142 (lw_Z below #[Value.ref b] s) (F0 m 513 ls []) := by
  rcases Decidable.em ((xs ((0 : Int32) + 1).toNatClampNeg) < 0) with zn | zn
  · exact law_drop_lt C0 hlt hth _ rfl _ rfl zn x m0 deA liA chA md ml mch oA xg h_x m0g h_m0 H locs (hK.sub [] rfl) (hP.sub [0, 17] rfl) (hD.sub [0, 17] (by decide) rfl) hS ls hl
  rcases Decidable.em ((2 : Int32) < (xs ((0 : Int32) + 1).toNatClampNeg)) with zp | zp
  · exact law_drop_gt C0 hlt hth _ rfl _ rfl zn zp (hx_nle zp) x m0 deA liA chA md ml mch oA xg h_x m0g h_m0 H locs (hK.sub [] rfl) (hP.sub [0, 17] rfl) (hD.sub [0, 17] (by decide) rfl) hS ls hl
  obtain ⟨j, hj, ej⟩ := hx_rng 3 zn (fun h => zp (hx_l3 h)) (by decide)
  rcases (show j = 0 ∨ j = 1 ∨ j = 2 by omega) with e9 | e9 | e9
  · have q0 : (xs ((0 : Int32) + 1).toNatClampNeg) = 0 := ej.trans (by rw [e9]; decide +kernel)
    exact law_drop_0 C0 hlt hth q0 _ rfl x deA de0 de1 de2 de3 de4 de5 m0 md liA chA ml mch oA xg h_x deAC deAF de0g h_de0 de1g h_de1 de2g h_de2 de3g h_de3 de4g h_de4 de5g h_de5 m0g h_m0 mdC h_deA0 h_deA1 h_deA2 h_deA3 h_deA4 h_deA5 H locs (hK.sub [0, 3] rfl) (hP.sub [0, 1, 2, 3, 4, 5, 6, 7, 17, 18] rfl) (hD.sub [0, 1, 2, 3, 4, 5, 6, 7, 17, 18] (by decide) rfl) hS ls hl
  · have q0 : (xs ((0 : Int32) + 1).toNatClampNeg) = 1 := ej.trans (by rw [e9]; decide +kernel)
    exact law_drop_1 C0 hlt hth q0 _ rfl x liA li0 li1 li2 m0 ml deA chA md mch oA xg h_x liAC liAF li0g h_li0 li1g h_li1 li2g h_li2 m0g h_m0 mlC h_liA0 h_liA1 h_liA2 H locs (hK.sub [1, 4] rfl) (hP.sub [0, 8, 9, 10, 11, 17, 19] rfl) (hD.sub [0, 8, 9, 10, 11, 17, 19] (by decide) rfl) hS ls hl
  · have q0 : (xs ((0 : Int32) + 1).toNatClampNeg) = 2 := ej.trans (by rw [e9]; decide +kernel)
    exact law_drop_2 C0 hlt hth q0 _ rfl x chA ch0 ch1 ch2 ch3 m0 mch deA liA md ml oA xg h_x chAC chAF ch0g h_ch0 ch1g h_ch1 ch2g h_ch2 ch3g h_ch3 m0g h_m0 mchC h_chA0 h_chA1 h_chA2 h_chA3 H locs (hK.sub [2, 5] rfl) (hP.sub [0, 12, 13, 14, 15, 16, 17, 20] rfl) (hD.sub [0, 12, 13, 14, 15, 16, 17, 20] (by decide) rfl) hS ls hl
set_option maxHeartbeats 4000000 in
set_option maxRecDepth 100000 in
theorem law_isThere_lt {p : Program} {l : Launch} {e : Env} {s : State} {m : MethodId} {below : List Frame} {meth : Method} {c : Code} {b : Nat} {xs : Nat → Int32} (C0 : lw_At p s m meth c b 7 xs) {dC : Nat → ClassId} {dI : Nat → Nat → Nat} (hlt : l.stackTraces = false) (hth : th (fun q : Nat => s.heap.size ≤ q) s s.heap) (p0 : Int32) (q0 : (xs ((0 : Int32) + 1).toNatClampNeg) = p0) (p1 : Int32) (q1 : (xs ((0 : Int32) + 2).toNatClampNeg) = p1) (zn : p0 < 0) (x m0 oA deA liA chA md ml mch : Nat) (xg : List Value) (h_x : fx xg 17 [(7, .ref deA), (8, .ref liA), (9, .ref chA)]) (m0g : List Value) (h_m0 : fx m0g 225 [(0, .int 0), (2, .int 0), (3, .int 0), (9, .int 0), (10, .int 0), (11, .int 0), (12, .int 0), (27, .int 0), (55, .ref md), (79, .int 0), (83, .int 0), (88, .ref ml), (95, .int 0), (138, .ref mch)]) (oAC : ClassId) (oAf : Nat → Int64) (h_oA : fa oAf []) (H : Heap) (locs : List Loc) (hK : va_K (dC, dI) CL [(oAC, .long)] s) (hP : va_P (dC, dI) CL [(x, .inr (12, xg)), (m0, .inr (13, m0g)), (oA, .inl (oAC, (1, .inr (.inl oAf))))] H) (hD : va_D (fun q : Nat => s.heap.size ≤ q) [(x, .inr (12, xg)), (m0, .inr (13, m0g)), (oA, .inl (oAC, (1, .inr (.inl oAf))))]) (hS : va_S (fun q : Nat => s.heap.size ≤ q) s.heap H locs) (ls : Array Slot) (hl : lv_has ls 7 [(0, .ref b), (1, .ref x), (2, .ref m0), (3, .ref oA), (4, .int 0)]) : W p l e room_1 s m #[Value.ref b] below meth c H locs 451 2709142 (lw_Z below #[Value.ref b] s) (F0 m 561 ls []) := by
  obtain ⟨hx, hb, hr, hml, hown, hts0, hX, hbl, hlocks, hgv⟩ := id C0
  have hts : ∀ w ∈ BG, w.before _ s = true := fun w h => hts0 w (List.mem_filter.mp h).1
  have hown : s.vm.findClass RL = some m.cls := hown
  obtain ⟨A, eA⟩ : ∃ z : Nat → Prop, z = (fun q : Nat => s.heap.size ≤ q) := ⟨_, rfl⟩
  rw [← eA] at hth hD hS
  have hA : ∀ q : Nat, s.heap.size ≤ q → A q := fun q h => by rw [eA]; exact h
  have hbA : ¬ A b := by rw [eA]; exact Nat.not_le.mpr hbl
  refine lv_aload_n hx hb dL_law_561 rfl (lv_at hl 1 rfl) ?_
  refine lv_aload_n hx hb dL_law_562 rfl (lv_at hl 0 rfl) ?_
  refine lv_iload hx hb dL_law_563 (lv_at hl 4 rfl) ?_
  refine lv_iconst (v := 1) hx hb dL_law_565 (by decide +kernel) ?_
  refine lv_iadd hx hb dL_law_566 ?_
  refine va_sld hx hb hX hbl hbA hS vi_1 dL_law_567 ?_
  refine lv_topi (fun v9 e9 => ?_)
  obtain rfl : p0 = v9 := (e9.trans q0).symm
  refine lv_aload_n hx hb dL_law_568 rfl (lv_at hl 0 rfl) ?_
  refine lv_iload hx hb dL_law_569 (lv_at hl 4 rfl) ?_
  refine lv_iconst (v := 2) hx hb dL_law_571 (by decide +kernel) ?_
  refine lv_iadd hx hb dL_law_572 ?_
  refine va_sld hx hb hX hbl hbA hS vi_2 dL_law_573 ?_
  refine lv_topi (fun v9 e9 => ?_)
  obtain rfl : p1 = v9 := (e9.trans q1).symm
  refine lv_aload_n hx hb dL_law_574 rfl (lv_at hl 3 rfl) ?_
  have hPc := hP.sub (ws' := [(x, .inr (12, xg)), (oA, .inl (oAC, (1, .inr (.inl oAf))))]) [0, 2] rfl
  have hDc := hD.sub (ws' := [(x, .inr (12, xg)), (oA, .inl (oAC, (1, .inr (.inl oAf))))]) [0, 2] (by decide) rfl
  have hKc := hK.sub (tys' := [(oAC, .long)]) [0] rfl
  have hFc := va_free (wc := [(x, .inr (12, xg)), (oA, .inl (oAC, (1, .inr (.inl oAf))))]) hD hS hA [0, 2] rfl
  refine va_calli (vx_runSW (As := [.ref x, .int p0, .int p1, .ref oA]) (rest := []) ⟨hx, hb, hml, hown, hts⟩ (gx61_L_isThere l hlt dC dI _ p0 p1 x oA deA liA chA xg h_x oAC oAf h_oA zn) (vx_cwSW 4 hts (gi_W wd_1839 wd_1840 wd_326 wd_1841) rfl rfl rfl (by decide +kernel) ⟨(Nat.le_of_ble_eq_true rfl), (Nat.le_of_ble_eq_true rfl)⟩) ⟨fun a U g mk q => by obtain ⟨q0, q1, qP, qK, qD, qT⟩ := q; exact ⟨q0, q1, qP, va_K.moved (u := U) (U := U.calling g mk a) (Vm.Alike.refl U.vm) qK, qD, th.moved (u := U) (U := U.calling g mk a) (Vm.Alike.refl U.vm) qT⟩, fun U hU hW => ⟨rfl, by rw [hU], by rw [hU]; exact hPc, va_K.moved hW.alike hKc, hDc.weaken (fun _ _ _ _ => trivial), by rw [hU]; exact ((hth.kept hS.2.1).narrow hFc).moved hW.alike⟩⟩ rfl rfl hl.1 rfl (lv_room (Nat.le_of_ble_eq_true rfl)) dL_law_575 ⟨(Nat.le_of_ble_eq_true rfl), (Nat.le_of_ble_eq_true rfl)⟩) hS (fun q _ h => hFc q h) hFc (fun r u t H1 locs ht hvm hw hB hz1 hk1 hS => ?_)
  subst hw
  obtain ⟨fs_1, f_2, h_x, h_oA, hP1, hK1, hD1⟩ := hB
  rw [ht] at hP1
  obtain ⟨hP, hD⟩ := va_join (wr := [(m0, .inr (13, m0g))]) (w1 := [(x, .inr (12, fs_1)), (oA, .inl (oAC, (1, .inr (.inl f_2))))]) hP hD [0, 2] [1] rfl rfl (by decide) (by decide) hk1 hFc hP1 hD1
  have hP := hP.sub (ws' := [(x, .inr (12, fs_1)), (m0, .inr (13, m0g)), (oA, .inl (oAC, (1, .inr (.inl f_2))))]) [1, 0, 2] rfl
  have hD := hD.sub (ws' := [(x, .inr (12, fs_1)), (m0, .inr (13, m0g)), (oA, .inl (oAC, (1, .inr (.inl f_2))))]) [1, 0, 2] (by decide) rfl
  generalize H1 = H at hP hS ⊢
  have hP : va_P (dC, dI) CL [(x, .inr (12, fs_1)), (m0, .inr (13, m0g)), (oA, .inl (oAC, (1, .inr (.inl f_2))))] H := hP
  have hD : va_D A [(x, .inr (12, fs_1)), (m0, .inr (13, m0g)), (oA, .inl (oAC, (1, .inr (.inl f_2))))] := hD
  refine W.widen (k := 452) (n := 2709148) (Nat.le_of_ble_eq_true rfl) (Nat.le_of_ble_eq_true rfl) ?_
  refine lv_istore (lv' := [(5, .int 1), (0, .ref b), (1, .ref x), (2, .ref m0), (3, .ref oA), (4, .int 0)]) hx hb dL_law_578 hl (by decide) rfl (fun ls hl => ?_)
  refine lv_aload_n hx hb dL_law_580 rfl (lv_at hl 3 rfl) ?_
  refine lv_aload_n hx hb dL_law_581 rfl (lv_at hl 1 rfl) ?_
  refine lv_iload hx hb dL_law_582 (lv_at hl 5 rfl) ?_
  refine lv_iconst (v := 1) hx hb dL_law_584 (by decide +kernel) ?_
  refine lv_iadd hx hb dL_law_585 ?_
  refine va_sld hx hb hX hbl hbA hS vi_1 dL_law_586 ?_
  refine lv_topi (fun v9 e9 => ?_)
  obtain rfl : p0 = v9 := (e9.trans q0).symm
  refine lv_aload_n hx hb dL_law_587 rfl (lv_at hl 1 rfl) ?_
  refine lv_iload hx hb dL_law_588 (lv_at hl 5 rfl) ?_
  refine lv_iconst (v := 2) hx hb dL_law_590 (by decide +kernel) ?_
  refine lv_iadd hx hb dL_law_591 ?_
  refine va_sld hx hb hX hbl hbA hS vi_2 dL_law_592 ?_
  refine lv_topi (fun v9 e9 => ?_)
  obtain rfl : p1 = v9 := (e9.trans q1).symm
  have hPc := hP.sub (ws' := [(m0, .inr (13, m0g))]) [1] rfl
  have hDc := hD.sub (ws' := [(m0, .inr (13, m0g))]) [1] (by decide) rfl
  have hKc := hK.sub (tys' := []) [] rfl
  have hFc := va_free (wc := [(m0, .inr (13, m0g))]) hD hS hA [1] rfl
  refine va_calli (va_runV (As := [.int p0, .int p1]) (rest := []) ⟨hx, hb, hml, hown, hts⟩ (gx63_X13_isThere l hlt dC dI _ p0 p1 m0 md ml mch m0g h_m0 zn) (cwV 2 hts (gi_V wd_4088 wd_4089 wd_4090 wd_340 wd_4091) rfl rfl rfl (by decide +kernel) ⟨(Nat.le_of_ble_eq_true rfl), (Nat.le_of_ble_eq_true rfl)⟩) ⟨fun a U g mk q => by obtain ⟨q0, q1, qP, qK, qD, qT⟩ := q; exact ⟨q0, q1, qP, va_K.moved (u := U) (U := U.calling g mk a) (Vm.Alike.refl U.vm) qK, qD, th.moved (u := U) (U := U.calling g mk a) (Vm.Alike.refl U.vm) qT⟩, va_recv hKc hPc (ci := 13) (q0 := 0) rfl rfl, fun U hU hW => ⟨rfl, by rw [hU], by rw [hU]; exact hPc, va_K.moved hW.alike hKc, hDc.weaken (fun _ _ _ _ => trivial), by rw [hU]; exact ((hth.kept hS.2.1).narrow hFc).moved hW.alike⟩⟩ rfl rfl hl.1 rfl (lv_room (Nat.le_of_ble_eq_true rfl)) dL_law_593 ⟨(Nat.le_of_ble_eq_true rfl), (Nat.le_of_ble_eq_true rfl)⟩) hS (fun q _ h => hFc q h) hFc (fun r u t H1 locs ht hvm hw hB hz1 hk1 hS => ?_)
  subst hw
  obtain ⟨fs_3, h_m0, hP1, hK1, hD1⟩ := hB
  rw [ht] at hP1
  obtain ⟨hP, hD⟩ := va_join (wr := [(x, .inr (12, fs_1)), (oA, .inl (oAC, (1, .inr (.inl f_2))))]) (w1 := [(m0, .inr (13, fs_3))]) hP hD [1] [0, 2] rfl rfl (by decide) (by decide) hk1 hFc hP1 hD1
  have hP := hP.sub (ws' := [(x, .inr (12, fs_1)), (m0, .inr (13, fs_3)), (oA, .inl (oAC, (1, .inr (.inl f_2))))]) [0, 2, 1] rfl
  have hD := hD.sub (ws' := [(x, .inr (12, fs_1)), (m0, .inr (13, fs_3)), (oA, .inl (oAC, (1, .inr (.inl f_2))))]) [0, 2, 1] (by decide) rfl
  generalize H1 = H at hP hS ⊢
  have hP : va_P (dC, dI) CL [(x, .inr (12, fs_1)), (m0, .inr (13, fs_3)), (oA, .inl (oAC, (1, .inr (.inl f_2))))] H := hP
  have hD : va_D A [(x, .inr (12, fs_1)), (m0, .inr (13, fs_3)), (oA, .inl (oAC, (1, .inr (.inl f_2))))] := hD
  refine lv_istore (lv' := [(6, .int 0), (5, .int 1), (0, .ref b), (1, .ref x), (2, .ref m0), (3, .ref oA), (4, .int 0)]) hx hb dL_law_596 hl (by decide) rfl (fun ls hl => ?_)
  refine lv_aload_n hx hb dL_law_598 rfl (lv_at hl 4 rfl) ?_
  have hPc := hP.sub (ws' := [(m0, .inr (13, fs_3))]) [1] rfl
  have hDc := hD.sub (ws' := [(m0, .inr (13, fs_3))]) [1] (by decide) rfl
  have hKc := hK.sub (tys' := []) [] rfl
  have hFc := va_free (wc := [(m0, .inr (13, fs_3))]) hD hS hA [1] rfl
  refine va_calli (va_runV (As := []) (rest := []) ⟨hx, hb, hml, hown, hts⟩ (gx40_X13_thrown l hlt dC dI _ m0 md ml mch fs_3 h_m0) (cwV 0 hts (gi_V wd_3015 wd_3016 wd_3017 wd_340 wd_3018) rfl rfl rfl (by decide +kernel) ⟨(Nat.le_of_ble_eq_true rfl), (Nat.le_of_ble_eq_true rfl)⟩) ⟨fun a U g mk q => by obtain ⟨q0, q1, qP, qK, qD, qT⟩ := q; exact ⟨q0, q1, qP, va_K.moved (u := U) (U := U.calling g mk a) (Vm.Alike.refl U.vm) qK, qD, th.moved (u := U) (U := U.calling g mk a) (Vm.Alike.refl U.vm) qT⟩, va_recv hKc hPc (ci := 13) (q0 := 0) rfl rfl, fun U hU hW => ⟨rfl, by rw [hU], by rw [hU]; exact hPc, va_K.moved hW.alike hKc, hDc.weaken (fun _ _ _ _ => trivial), by rw [hU]; exact ((hth.kept hS.2.1).narrow hFc).moved hW.alike⟩⟩ rfl rfl hl.1 rfl (lv_room (Nat.le_of_ble_eq_true rfl)) dL_law_599 ⟨(Nat.le_of_ble_eq_true rfl), (Nat.le_of_ble_eq_true rfl)⟩) hS (fun q _ h => hFc q h) hFc (fun r u t H1 locs ht hvm hw hB hz1 hk1 hS => ?_)
  subst hw
  obtain ⟨fs_4, h_m0, hP1, hK1, hD1⟩ := hB
  rw [ht] at hP1
  obtain ⟨hP, hD⟩ := va_join (wr := [(x, .inr (12, fs_1)), (oA, .inl (oAC, (1, .inr (.inl f_2))))]) (w1 := [(m0, .inr (13, fs_4))]) hP hD [1] [0, 2] rfl rfl (by decide) (by decide) hk1 hFc hP1 hD1
  have hP := hP.sub (ws' := [(x, .inr (12, fs_1)), (m0, .inr (13, fs_4)), (oA, .inl (oAC, (1, .inr (.inl f_2))))]) [0, 2, 1] rfl
  have hD := hD.sub (ws' := [(x, .inr (12, fs_1)), (m0, .inr (13, fs_4)), (oA, .inl (oAC, (1, .inr (.inl f_2))))]) [0, 2, 1] (by decide) rfl
  generalize H1 = H at hP hS ⊢
  have hP : va_P (dC, dI) CL [(x, .inr (12, fs_1)), (m0, .inr (13, fs_4)), (oA, .inl (oAC, (1, .inr (.inl f_2))))] H := hP
  have hD : va_D A [(x, .inr (12, fs_1)), (m0, .inr (13, fs_4)), (oA, .inl (oAC, (1, .inr (.inl f_2))))] := hD
  refine lv_iload hx hb dL_law_602 (lv_at hl 1 rfl) ?_
  refine lv_icmp_eq (tgt := 609) hx hb dL_law_604 (by decide) (fun c9 => ?_) (fun c9 => ?_)
  rotate_left
  · first | exact absurd c9 (by decide +kernel) | exact absurd (by decide +kernel) c9
  refine lv_iload hx hb dL_law_609 (lv_at hl 1 rfl) ?_
  refine lv_if_ne (tgt := 633) hx hb dL_law_611 (by decide) (fun c9 => ?_) (fun c9 => ?_)
  rotate_left
  · first | exact absurd c9 (by decide +kernel) | exact absurd (by decide +kernel) c9
  refine lv_goto (tgt := 4099) hx hb dL_law_633 (by decide) ?_
  refine W.widen (k := 470) (n := 2709300) (Nat.le_of_ble_eq_true rfl) (Nat.le_of_ble_eq_true rfl) ?_
  rw [eA] at hS
  exact law_tail (v5 := 0) (v6 := 0) (lv := []) C0 hS (lv_sub hl [2, 6] rfl)
set_option maxHeartbeats 4000000 in
set_option maxRecDepth 100000 in
theorem law_isThere_gt {p : Program} {l : Launch} {e : Env} {s : State} {m : MethodId} {below : List Frame} {meth : Method} {c : Code} {b : Nat} {xs : Nat → Int32} (C0 : lw_At p s m meth c b 7 xs) {dC : Nat → ClassId} {dI : Nat → Nat → Nat} (hlt : l.stackTraces = false) (hth : th (fun q : Nat => s.heap.size ≤ q) s s.heap) (p0 : Int32) (q0 : (xs ((0 : Int32) + 1).toNatClampNeg) = p0) (p1 : Int32) (q1 : (xs ((0 : Int32) + 2).toNatClampNeg) = p1) (zn : ¬ p0 < 0) (zp : 2 < p0) (zq : ¬ p0 ≤ 2) (x m0 oA deA liA chA md ml mch : Nat) (xg : List Value) (h_x : fx xg 17 [(7, .ref deA), (8, .ref liA), (9, .ref chA)]) (m0g : List Value) (h_m0 : fx m0g 225 [(0, .int 0), (2, .int 0), (3, .int 0), (9, .int 0), (10, .int 0), (11, .int 0), (12, .int 0), (27, .int 0), (55, .ref md), (79, .int 0), (83, .int 0), (88, .ref ml), (95, .int 0), (138, .ref mch)]) (oAC : ClassId) (oAf : Nat → Int64) (h_oA : fa oAf []) (H : Heap) (locs : List Loc) (hK : va_K (dC, dI) CL [(oAC, .long)] s) (hP : va_P (dC, dI) CL [(x, .inr (12, xg)), (m0, .inr (13, m0g)), (oA, .inl (oAC, (1, .inr (.inl oAf))))] H) (hD : va_D (fun q : Nat => s.heap.size ≤ q) [(x, .inr (12, xg)), (m0, .inr (13, m0g)), (oA, .inl (oAC, (1, .inr (.inl oAf))))]) (hS : va_S (fun q : Nat => s.heap.size ≤ q) s.heap H locs) (ls : Array Slot) (hl : lv_has ls 7 [(0, .ref b), (1, .ref x), (2, .ref m0), (3, .ref oA), (4, .int 0)]) : W p l e room_1 s m #[Value.ref b] below meth c H locs 451 2709142 (lw_Z below #[Value.ref b] s) (F0 m 561 ls []) := by
  obtain ⟨hx, hb, hr, hml, hown, hts0, hX, hbl, hlocks, hgv⟩ := id C0
  have hts : ∀ w ∈ BG, w.before _ s = true := fun w h => hts0 w (List.mem_filter.mp h).1
  have hown : s.vm.findClass RL = some m.cls := hown
  obtain ⟨A, eA⟩ : ∃ z : Nat → Prop, z = (fun q : Nat => s.heap.size ≤ q) := ⟨_, rfl⟩
  rw [← eA] at hth hD hS
  have hA : ∀ q : Nat, s.heap.size ≤ q → A q := fun q h => by rw [eA]; exact h
  have hbA : ¬ A b := by rw [eA]; exact Nat.not_le.mpr hbl
  refine lv_aload_n hx hb dL_law_561 rfl (lv_at hl 1 rfl) ?_
  refine lv_aload_n hx hb dL_law_562 rfl (lv_at hl 0 rfl) ?_
  refine lv_iload hx hb dL_law_563 (lv_at hl 4 rfl) ?_
  refine lv_iconst (v := 1) hx hb dL_law_565 (by decide +kernel) ?_
  refine lv_iadd hx hb dL_law_566 ?_
  refine va_sld hx hb hX hbl hbA hS vi_1 dL_law_567 ?_
  refine lv_topi (fun v9 e9 => ?_)
  obtain rfl : p0 = v9 := (e9.trans q0).symm
  refine lv_aload_n hx hb dL_law_568 rfl (lv_at hl 0 rfl) ?_
  refine lv_iload hx hb dL_law_569 (lv_at hl 4 rfl) ?_
  refine lv_iconst (v := 2) hx hb dL_law_571 (by decide +kernel) ?_
  refine lv_iadd hx hb dL_law_572 ?_
  refine va_sld hx hb hX hbl hbA hS vi_2 dL_law_573 ?_
  refine lv_topi (fun v9 e9 => ?_)
  obtain rfl : p1 = v9 := (e9.trans q1).symm
  refine lv_aload_n hx hb dL_law_574 rfl (lv_at hl 3 rfl) ?_
  have hPc := hP.sub (ws' := [(x, .inr (12, xg)), (oA, .inl (oAC, (1, .inr (.inl oAf))))]) [0, 2] rfl
  have hDc := hD.sub (ws' := [(x, .inr (12, xg)), (oA, .inl (oAC, (1, .inr (.inl oAf))))]) [0, 2] (by decide) rfl
  have hKc := hK.sub (tys' := [(oAC, .long)]) [0] rfl
  have hFc := va_free (wc := [(x, .inr (12, xg)), (oA, .inl (oAC, (1, .inr (.inl oAf))))]) hD hS hA [0, 2] rfl
  refine va_calli (vx_runSW (As := [.ref x, .int p0, .int p1, .ref oA]) (rest := []) ⟨hx, hb, hml, hown, hts⟩ (gx64_L_isThere l hlt dC dI _ p0 p1 x oA deA liA chA xg h_x oAC oAf h_oA zn zp zq) (vx_cwSW 4 hts (gi_W wd_1839 wd_1840 wd_326 wd_1841) rfl rfl rfl (by decide +kernel) ⟨(Nat.le_of_ble_eq_true rfl), (Nat.le_of_ble_eq_true rfl)⟩) ⟨fun a U g mk q => by obtain ⟨q0, q1, qP, qK, qD, qT⟩ := q; exact ⟨q0, q1, qP, va_K.moved (u := U) (U := U.calling g mk a) (Vm.Alike.refl U.vm) qK, qD, th.moved (u := U) (U := U.calling g mk a) (Vm.Alike.refl U.vm) qT⟩, fun U hU hW => ⟨rfl, by rw [hU], by rw [hU]; exact hPc, va_K.moved hW.alike hKc, hDc.weaken (fun _ _ _ _ => trivial), by rw [hU]; exact ((hth.kept hS.2.1).narrow hFc).moved hW.alike⟩⟩ rfl rfl hl.1 rfl (lv_room (Nat.le_of_ble_eq_true rfl)) dL_law_575 ⟨(Nat.le_of_ble_eq_true rfl), (Nat.le_of_ble_eq_true rfl)⟩) hS (fun q _ h => hFc q h) hFc (fun r u t H1 locs ht hvm hw hB hz1 hk1 hS => ?_)
  subst hw
  obtain ⟨fs_1, f_2, h_x, h_oA, hP1, hK1, hD1⟩ := hB
  rw [ht] at hP1
  obtain ⟨hP, hD⟩ := va_join (wr := [(m0, .inr (13, m0g))]) (w1 := [(x, .inr (12, fs_1)), (oA, .inl (oAC, (1, .inr (.inl f_2))))]) hP hD [0, 2] [1] rfl rfl (by decide) (by decide) hk1 hFc hP1 hD1
  have hP := hP.sub (ws' := [(x, .inr (12, fs_1)), (m0, .inr (13, m0g)), (oA, .inl (oAC, (1, .inr (.inl f_2))))]) [1, 0, 2] rfl
  have hD := hD.sub (ws' := [(x, .inr (12, fs_1)), (m0, .inr (13, m0g)), (oA, .inl (oAC, (1, .inr (.inl f_2))))]) [1, 0, 2] (by decide) rfl
  generalize H1 = H at hP hS ⊢
  have hP : va_P (dC, dI) CL [(x, .inr (12, fs_1)), (m0, .inr (13, m0g)), (oA, .inl (oAC, (1, .inr (.inl f_2))))] H := hP
  have hD : va_D A [(x, .inr (12, fs_1)), (m0, .inr (13, m0g)), (oA, .inl (oAC, (1, .inr (.inl f_2))))] := hD
  refine W.widen (k := 452) (n := 2709148) (Nat.le_of_ble_eq_true rfl) (Nat.le_of_ble_eq_true rfl) ?_
  refine lv_istore (lv' := [(5, .int 1), (0, .ref b), (1, .ref x), (2, .ref m0), (3, .ref oA), (4, .int 0)]) hx hb dL_law_578 hl (by decide) rfl (fun ls hl => ?_)
  refine lv_aload_n hx hb dL_law_580 rfl (lv_at hl 3 rfl) ?_
  refine lv_aload_n hx hb dL_law_581 rfl (lv_at hl 1 rfl) ?_
  refine lv_iload hx hb dL_law_582 (lv_at hl 5 rfl) ?_
  refine lv_iconst (v := 1) hx hb dL_law_584 (by decide +kernel) ?_
  refine lv_iadd hx hb dL_law_585 ?_
  refine va_sld hx hb hX hbl hbA hS vi_1 dL_law_586 ?_
  refine lv_topi (fun v9 e9 => ?_)
  obtain rfl : p0 = v9 := (e9.trans q0).symm
  refine lv_aload_n hx hb dL_law_587 rfl (lv_at hl 1 rfl) ?_
  refine lv_iload hx hb dL_law_588 (lv_at hl 5 rfl) ?_
  refine lv_iconst (v := 2) hx hb dL_law_590 (by decide +kernel) ?_
  refine lv_iadd hx hb dL_law_591 ?_
  refine va_sld hx hb hX hbl hbA hS vi_2 dL_law_592 ?_
  refine lv_topi (fun v9 e9 => ?_)
  obtain rfl : p1 = v9 := (e9.trans q1).symm
  have hPc := hP.sub (ws' := [(m0, .inr (13, m0g))]) [1] rfl
  have hDc := hD.sub (ws' := [(m0, .inr (13, m0g))]) [1] (by decide) rfl
  have hKc := hK.sub (tys' := []) [] rfl
  have hFc := va_free (wc := [(m0, .inr (13, m0g))]) hD hS hA [1] rfl
  refine va_calli (va_runV (As := [.int p0, .int p1]) (rest := []) ⟨hx, hb, hml, hown, hts⟩ (gx66_X13_isThere l hlt dC dI _ p0 p1 m0 md ml mch m0g h_m0 zn zp zq) (cwV 2 hts (gi_V wd_4088 wd_4089 wd_4090 wd_340 wd_4091) rfl rfl rfl (by decide +kernel) ⟨(Nat.le_of_ble_eq_true rfl), (Nat.le_of_ble_eq_true rfl)⟩) ⟨fun a U g mk q => by obtain ⟨q0, q1, qP, qK, qD, qT⟩ := q; exact ⟨q0, q1, qP, va_K.moved (u := U) (U := U.calling g mk a) (Vm.Alike.refl U.vm) qK, qD, th.moved (u := U) (U := U.calling g mk a) (Vm.Alike.refl U.vm) qT⟩, va_recv hKc hPc (ci := 13) (q0 := 0) rfl rfl, fun U hU hW => ⟨rfl, by rw [hU], by rw [hU]; exact hPc, va_K.moved hW.alike hKc, hDc.weaken (fun _ _ _ _ => trivial), by rw [hU]; exact ((hth.kept hS.2.1).narrow hFc).moved hW.alike⟩⟩ rfl rfl hl.1 rfl (lv_room (Nat.le_of_ble_eq_true rfl)) dL_law_593 ⟨(Nat.le_of_ble_eq_true rfl), (Nat.le_of_ble_eq_true rfl)⟩) hS (fun q _ h => hFc q h) hFc (fun r u t H1 locs ht hvm hw hB hz1 hk1 hS => ?_)
  subst hw
  obtain ⟨fs_3, h_m0, hP1, hK1, hD1⟩ := hB
  rw [ht] at hP1
  obtain ⟨hP, hD⟩ := va_join (wr := [(x, .inr (12, fs_1)), (oA, .inl (oAC, (1, .inr (.inl f_2))))]) (w1 := [(m0, .inr (13, fs_3))]) hP hD [1] [0, 2] rfl rfl (by decide) (by decide) hk1 hFc hP1 hD1
  have hP := hP.sub (ws' := [(x, .inr (12, fs_1)), (m0, .inr (13, fs_3)), (oA, .inl (oAC, (1, .inr (.inl f_2))))]) [0, 2, 1] rfl
  have hD := hD.sub (ws' := [(x, .inr (12, fs_1)), (m0, .inr (13, fs_3)), (oA, .inl (oAC, (1, .inr (.inl f_2))))]) [0, 2, 1] (by decide) rfl
  generalize H1 = H at hP hS ⊢
  have hP : va_P (dC, dI) CL [(x, .inr (12, fs_1)), (m0, .inr (13, fs_3)), (oA, .inl (oAC, (1, .inr (.inl f_2))))] H := hP
  have hD : va_D A [(x, .inr (12, fs_1)), (m0, .inr (13, fs_3)), (oA, .inl (oAC, (1, .inr (.inl f_2))))] := hD
  refine lv_istore (lv' := [(6, .int 0), (5, .int 1), (0, .ref b), (1, .ref x), (2, .ref m0), (3, .ref oA), (4, .int 0)]) hx hb dL_law_596 hl (by decide) rfl (fun ls hl => ?_)
  refine lv_aload_n hx hb dL_law_598 rfl (lv_at hl 4 rfl) ?_
  have hPc := hP.sub (ws' := [(m0, .inr (13, fs_3))]) [1] rfl
  have hDc := hD.sub (ws' := [(m0, .inr (13, fs_3))]) [1] (by decide) rfl
  have hKc := hK.sub (tys' := []) [] rfl
  have hFc := va_free (wc := [(m0, .inr (13, fs_3))]) hD hS hA [1] rfl
  refine va_calli (va_runV (As := []) (rest := []) ⟨hx, hb, hml, hown, hts⟩ (gx40_X13_thrown l hlt dC dI _ m0 md ml mch fs_3 h_m0) (cwV 0 hts (gi_V wd_3015 wd_3016 wd_3017 wd_340 wd_3018) rfl rfl rfl (by decide +kernel) ⟨(Nat.le_of_ble_eq_true rfl), (Nat.le_of_ble_eq_true rfl)⟩) ⟨fun a U g mk q => by obtain ⟨q0, q1, qP, qK, qD, qT⟩ := q; exact ⟨q0, q1, qP, va_K.moved (u := U) (U := U.calling g mk a) (Vm.Alike.refl U.vm) qK, qD, th.moved (u := U) (U := U.calling g mk a) (Vm.Alike.refl U.vm) qT⟩, va_recv hKc hPc (ci := 13) (q0 := 0) rfl rfl, fun U hU hW => ⟨rfl, by rw [hU], by rw [hU]; exact hPc, va_K.moved hW.alike hKc, hDc.weaken (fun _ _ _ _ => trivial), by rw [hU]; exact ((hth.kept hS.2.1).narrow hFc).moved hW.alike⟩⟩ rfl rfl hl.1 rfl (lv_room (Nat.le_of_ble_eq_true rfl)) dL_law_599 ⟨(Nat.le_of_ble_eq_true rfl), (Nat.le_of_ble_eq_true rfl)⟩) hS (fun q _ h => hFc q h) hFc (fun r u t H1 locs ht hvm hw hB hz1 hk1 hS => ?_)
  subst hw
  obtain ⟨fs_4, h_m0, hP1, hK1, hD1⟩ := hB
  rw [ht] at hP1
  obtain ⟨hP, hD⟩ := va_join (wr := [(x, .inr (12, fs_1)), (oA, .inl (oAC, (1, .inr (.inl f_2))))]) (w1 := [(m0, .inr (13, fs_4))]) hP hD [1] [0, 2] rfl rfl (by decide) (by decide) hk1 hFc hP1 hD1
  have hP := hP.sub (ws' := [(x, .inr (12, fs_1)), (m0, .inr (13, fs_4)), (oA, .inl (oAC, (1, .inr (.inl f_2))))]) [0, 2, 1] rfl
  have hD := hD.sub (ws' := [(x, .inr (12, fs_1)), (m0, .inr (13, fs_4)), (oA, .inl (oAC, (1, .inr (.inl f_2))))]) [0, 2, 1] (by decide) rfl
  generalize H1 = H at hP hS ⊢
  have hP : va_P (dC, dI) CL [(x, .inr (12, fs_1)), (m0, .inr (13, fs_4)), (oA, .inl (oAC, (1, .inr (.inl f_2))))] H := hP
  have hD : va_D A [(x, .inr (12, fs_1)), (m0, .inr (13, fs_4)), (oA, .inl (oAC, (1, .inr (.inl f_2))))] := hD
  refine lv_iload hx hb dL_law_602 (lv_at hl 1 rfl) ?_
  refine lv_icmp_eq (tgt := 609) hx hb dL_law_604 (by decide) (fun c9 => ?_) (fun c9 => ?_)
  rotate_left
  · first | exact absurd c9 (by decide +kernel) | exact absurd (by decide +kernel) c9
  refine lv_iload hx hb dL_law_609 (lv_at hl 1 rfl) ?_
  refine lv_if_ne (tgt := 633) hx hb dL_law_611 (by decide) (fun c9 => ?_) (fun c9 => ?_)
  rotate_left
  · first | exact absurd c9 (by decide +kernel) | exact absurd (by decide +kernel) c9
  refine lv_goto (tgt := 4099) hx hb dL_law_633 (by decide) ?_
  refine W.widen (k := 470) (n := 2709300) (Nat.le_of_ble_eq_true rfl) (Nat.le_of_ble_eq_true rfl) ?_
  rw [eA] at hS
  exact law_tail (v5 := 0) (v6 := 0) (lv := []) C0 hS (lv_sub hl [2, 6] rfl)
set_option maxHeartbeats 4000000 in
set_option maxRecDepth 100000 in
theorem law_isThere_0lt {p : Program} {l : Launch} {e : Env} {s : State} {m : MethodId} {below : List Frame} {meth : Method} {c : Code} {b : Nat} {xs : Nat → Int32} (C0 : lw_At p s m meth c b 7 xs) {dC : Nat → ClassId} {dI : Nat → Nat → Nat} (hlt : l.stackTraces = false) (hth : th (fun q : Nat => s.heap.size ≤ q) s s.heap) (q0 : (xs ((0 : Int32) + 1).toNatClampNeg) = 0) (p1 : Int32) (q1 : (xs ((0 : Int32) + 2).toNatClampNeg) = p1) (zk : p1 < 0) (x deA de0 de1 de2 de3 de4 de5 m0 md oA liA chA ml mch : Nat) (xg : List Value) (h_x : fx xg 17 [(7, .ref deA), (8, .ref liA), (9, .ref chA)]) (deAC : ClassId) (deAF : Nat → Option Nat) (de0g : List Value) (h_de0 : fx de0g 16 [(0, .int 0)]) (de1g : List Value) (h_de1 : fx de1g 16 [(0, .int 0)]) (de2g : List Value) (h_de2 : fx de2g 16 [(0, .int 0)]) (de3g : List Value) (h_de3 : fx de3g 16 [(0, .int 0)]) (de4g : List Value) (h_de4 : fx de4g 16 [(0, .int 0)]) (de5g : List Value) (h_de5 : fx de5g 16 [(0, .int 0)]) (m0g : List Value) (h_m0 : fx m0g 225 [(0, .int 0), (2, .int 0), (3, .int 0), (9, .int 0), (10, .int 0), (11, .int 0), (12, .int 0), (27, .int 0), (55, .ref md), (79, .int 0), (83, .int 0), (88, .ref ml), (95, .int 0), (138, .ref mch)]) (mdC : ClassId) (oAC : ClassId) (oAf : Nat → Int64) (h_oA : fa oAf []) (h_deA0 : deAF 0 = some de0) (h_deA1 : deAF 1 = some de1) (h_deA2 : deAF 2 = some de2) (h_deA3 : deAF 3 = some de3) (h_deA4 : deAF 4 = some de4) (h_deA5 : deAF 5 = some de5) (H : Heap) (locs : List Loc) (hK : va_K (dC, dI) CL [(deAC, .object "ChipFlow$Design"), (mdC, .boolean), (oAC, .long)] s) (hP : va_P (dC, dI) CL [(x, .inr (12, xg)), (deA, .inl (deAC, (6, .inr (.inr (.inr (.inr deAF)))))), (de0, .inr (3, de0g)), (de1, .inr (3, de1g)), (de2, .inr (3, de2g)), (de3, .inr (3, de3g)), (de4, .inr (3, de4g)), (de5, .inr (3, de5g)), (m0, .inr (13, m0g)), (md, .inl (mdC, (6, .inl (fun _ => 0)))), (oA, .inl (oAC, (1, .inr (.inl oAf))))] H) (hD : va_D (fun q : Nat => s.heap.size ≤ q) [(x, .inr (12, xg)), (deA, .inl (deAC, (6, .inr (.inr (.inr (.inr deAF)))))), (de0, .inr (3, de0g)), (de1, .inr (3, de1g)), (de2, .inr (3, de2g)), (de3, .inr (3, de3g)), (de4, .inr (3, de4g)), (de5, .inr (3, de5g)), (m0, .inr (13, m0g)), (md, .inl (mdC, (6, .inl (fun _ => 0)))), (oA, .inl (oAC, (1, .inr (.inl oAf))))]) (hS : va_S (fun q : Nat => s.heap.size ≤ q) s.heap H locs) (ls : Array Slot) (hl : lv_has ls 7 [(0, .ref b), (1, .ref x), (2, .ref m0), (3, .ref oA), (4, .int 0)]) : W p l e room_1 s m #[Value.ref b] below meth c H locs 451 2709142 (lw_Z below #[Value.ref b] s) (F0 m 561 ls []) := by
  obtain ⟨hx, hb, hr, hml, hown, hts0, hX, hbl, hlocks, hgv⟩ := id C0
  have hts : ∀ w ∈ BG, w.before _ s = true := fun w h => hts0 w (List.mem_filter.mp h).1
  have hown : s.vm.findClass RL = some m.cls := hown
  obtain ⟨A, eA⟩ : ∃ z : Nat → Prop, z = (fun q : Nat => s.heap.size ≤ q) := ⟨_, rfl⟩
  rw [← eA] at hth hD hS
  have hA : ∀ q : Nat, s.heap.size ≤ q → A q := fun q h => by rw [eA]; exact h
  have hbA : ¬ A b := by rw [eA]; exact Nat.not_le.mpr hbl
  refine lv_aload_n hx hb dL_law_561 rfl (lv_at hl 1 rfl) ?_
  refine lv_aload_n hx hb dL_law_562 rfl (lv_at hl 0 rfl) ?_
  refine lv_iload hx hb dL_law_563 (lv_at hl 4 rfl) ?_
  refine lv_iconst (v := 1) hx hb dL_law_565 (by decide +kernel) ?_
  refine lv_iadd hx hb dL_law_566 ?_
  refine va_sld hx hb hX hbl hbA hS vi_1 dL_law_567 ?_
  refine lv_topi (fun v9 e9 => ?_)
  obtain rfl : v9 = 0 := e9.trans q0
  refine lv_aload_n hx hb dL_law_568 rfl (lv_at hl 0 rfl) ?_
  refine lv_iload hx hb dL_law_569 (lv_at hl 4 rfl) ?_
  refine lv_iconst (v := 2) hx hb dL_law_571 (by decide +kernel) ?_
  refine lv_iadd hx hb dL_law_572 ?_
  refine va_sld hx hb hX hbl hbA hS vi_2 dL_law_573 ?_
  refine lv_topi (fun v9 e9 => ?_)
  obtain rfl : p1 = v9 := (e9.trans q1).symm
  refine lv_aload_n hx hb dL_law_574 rfl (lv_at hl 3 rfl) ?_
  have hPc := hP.sub (ws' := [(x, .inr (12, xg)), (deA, .inl (deAC, (6, .inr (.inr (.inr (.inr deAF)))))), (de0, .inr (3, de0g)), (de1, .inr (3, de1g)), (de2, .inr (3, de2g)), (de3, .inr (3, de3g)), (de4, .inr (3, de4g)), (de5, .inr (3, de5g)), (oA, .inl (oAC, (1, .inr (.inl oAf))))]) [0, 1, 2, 3, 4, 5, 6, 7, 10] rfl
  have hDc := hD.sub (ws' := [(x, .inr (12, xg)), (deA, .inl (deAC, (6, .inr (.inr (.inr (.inr deAF)))))), (de0, .inr (3, de0g)), (de1, .inr (3, de1g)), (de2, .inr (3, de2g)), (de3, .inr (3, de3g)), (de4, .inr (3, de4g)), (de5, .inr (3, de5g)), (oA, .inl (oAC, (1, .inr (.inl oAf))))]) [0, 1, 2, 3, 4, 5, 6, 7, 10] (by decide) rfl
  have hKc := hK.sub (tys' := [(deAC, .object "ChipFlow$Design"), (oAC, .long)]) [0, 2] rfl
  have hFc := va_free (wc := [(x, .inr (12, xg)), (deA, .inl (deAC, (6, .inr (.inr (.inr (.inr deAF)))))), (de0, .inr (3, de0g)), (de1, .inr (3, de1g)), (de2, .inr (3, de2g)), (de3, .inr (3, de3g)), (de4, .inr (3, de4g)), (de5, .inr (3, de5g)), (oA, .inl (oAC, (1, .inr (.inl oAf))))]) hD hS hA [0, 1, 2, 3, 4, 5, 6, 7, 10] rfl
  refine va_calli (vx_runSW (As := [.ref x, .int 0, .int p1, .ref oA]) (rest := []) ⟨hx, hb, hml, hown, hts⟩ (gx67_L_isThere l hlt dC dI _ p1 x deA de0 de1 de2 de3 de4 de5 oA liA chA xg h_x deAC deAF de0g h_de0 de1g h_de1 de2g h_de2 de3g h_de3 de4g h_de4 de5g h_de5 oAC oAf h_oA h_deA0 h_deA1 h_deA2 h_deA3 h_deA4 h_deA5 zk) (vx_cwSW 4 hts (gi_W wd_1839 wd_1840 wd_326 wd_1841) rfl rfl rfl (by decide +kernel) ⟨(Nat.le_of_ble_eq_true rfl), (Nat.le_of_ble_eq_true rfl)⟩) ⟨fun a U g mk q => by obtain ⟨q0, q1, qP, qK, qD, qT⟩ := q; exact ⟨q0, q1, qP, va_K.moved (u := U) (U := U.calling g mk a) (Vm.Alike.refl U.vm) qK, qD, th.moved (u := U) (U := U.calling g mk a) (Vm.Alike.refl U.vm) qT⟩, fun U hU hW => ⟨rfl, by rw [hU], by rw [hU]; exact hPc, va_K.moved hW.alike hKc, hDc.weaken (fun _ _ _ _ => trivial), by rw [hU]; exact ((hth.kept hS.2.1).narrow hFc).moved hW.alike⟩⟩ rfl rfl hl.1 rfl (lv_room (Nat.le_of_ble_eq_true rfl)) dL_law_575 ⟨(Nat.le_of_ble_eq_true rfl), (Nat.le_of_ble_eq_true rfl)⟩) hS (fun q _ h => hFc q h) hFc (fun r u t H1 locs ht hvm hw hB hz1 hk1 hS => ?_)
  subst hw
  obtain ⟨fs_1, fs_2, fs_3, fs_4, fs_5, fs_6, fs_7, f_8, h_x, h_de0, h_de1, h_de2, h_de3, h_de4, h_de5, h_oA, hP1, hK1, hD1⟩ := hB
  rw [ht] at hP1
  obtain ⟨hP, hD⟩ := va_join (wr := [(m0, .inr (13, m0g)), (md, .inl (mdC, (6, .inl (fun _ => 0))))]) (w1 := [(x, .inr (12, fs_1)), (deA, .inl (deAC, (6, .inr (.inr (.inr (.inr deAF)))))), (de0, .inr (3, fs_2)), (de1, .inr (3, fs_3)), (de2, .inr (3, fs_4)), (de3, .inr (3, fs_5)), (de4, .inr (3, fs_6)), (de5, .inr (3, fs_7)), (oA, .inl (oAC, (1, .inr (.inl f_8))))]) hP hD [0, 1, 2, 3, 4, 5, 6, 7, 10] [8, 9] rfl rfl (by decide) (by decide) hk1 hFc hP1 hD1
  have hP := hP.sub (ws' := [(x, .inr (12, fs_1)), (deA, .inl (deAC, (6, .inr (.inr (.inr (.inr deAF)))))), (de0, .inr (3, fs_2)), (de1, .inr (3, fs_3)), (de2, .inr (3, fs_4)), (de3, .inr (3, fs_5)), (de4, .inr (3, fs_6)), (de5, .inr (3, fs_7)), (m0, .inr (13, m0g)), (md, .inl (mdC, (6, .inl (fun _ => 0)))), (oA, .inl (oAC, (1, .inr (.inl f_8))))]) [2, 3, 4, 5, 6, 7, 8, 9, 0, 1, 10] rfl
  have hD := hD.sub (ws' := [(x, .inr (12, fs_1)), (deA, .inl (deAC, (6, .inr (.inr (.inr (.inr deAF)))))), (de0, .inr (3, fs_2)), (de1, .inr (3, fs_3)), (de2, .inr (3, fs_4)), (de3, .inr (3, fs_5)), (de4, .inr (3, fs_6)), (de5, .inr (3, fs_7)), (m0, .inr (13, m0g)), (md, .inl (mdC, (6, .inl (fun _ => 0)))), (oA, .inl (oAC, (1, .inr (.inl f_8))))]) [2, 3, 4, 5, 6, 7, 8, 9, 0, 1, 10] (by decide) rfl
  generalize H1 = H at hP hS ⊢
  have hP : va_P (dC, dI) CL [(x, .inr (12, fs_1)), (deA, .inl (deAC, (6, .inr (.inr (.inr (.inr deAF)))))), (de0, .inr (3, fs_2)), (de1, .inr (3, fs_3)), (de2, .inr (3, fs_4)), (de3, .inr (3, fs_5)), (de4, .inr (3, fs_6)), (de5, .inr (3, fs_7)), (m0, .inr (13, m0g)), (md, .inl (mdC, (6, .inl (fun _ => 0)))), (oA, .inl (oAC, (1, .inr (.inl f_8))))] H := hP
  have hD : va_D A [(x, .inr (12, fs_1)), (deA, .inl (deAC, (6, .inr (.inr (.inr (.inr deAF)))))), (de0, .inr (3, fs_2)), (de1, .inr (3, fs_3)), (de2, .inr (3, fs_4)), (de3, .inr (3, fs_5)), (de4, .inr (3, fs_6)), (de5, .inr (3, fs_7)), (m0, .inr (13, m0g)), (md, .inl (mdC, (6, .inl (fun _ => 0)))), (oA, .inl (oAC, (1, .inr (.inl f_8))))] := hD
  refine W.widen (k := 452) (n := 2709148) (Nat.le_of_ble_eq_true rfl) (Nat.le_of_ble_eq_true rfl) ?_
  refine lv_istore (lv' := [(5, .int 0), (0, .ref b), (1, .ref x), (2, .ref m0), (3, .ref oA), (4, .int 0)]) hx hb dL_law_578 hl (by decide) rfl (fun ls hl => ?_)
  refine lv_aload_n hx hb dL_law_580 rfl (lv_at hl 3 rfl) ?_
  refine lv_aload_n hx hb dL_law_581 rfl (lv_at hl 1 rfl) ?_
  refine lv_iload hx hb dL_law_582 (lv_at hl 5 rfl) ?_
  refine lv_iconst (v := 1) hx hb dL_law_584 (by decide +kernel) ?_
  refine lv_iadd hx hb dL_law_585 ?_
  refine va_sld hx hb hX hbl hbA hS vi_1 dL_law_586 ?_
  refine lv_topi (fun v9 e9 => ?_)
  obtain rfl : v9 = 0 := e9.trans q0
  refine lv_aload_n hx hb dL_law_587 rfl (lv_at hl 1 rfl) ?_
  refine lv_iload hx hb dL_law_588 (lv_at hl 5 rfl) ?_
  refine lv_iconst (v := 2) hx hb dL_law_590 (by decide +kernel) ?_
  refine lv_iadd hx hb dL_law_591 ?_
  refine va_sld hx hb hX hbl hbA hS vi_2 dL_law_592 ?_
  refine lv_topi (fun v9 e9 => ?_)
  obtain rfl : p1 = v9 := (e9.trans q1).symm
  have hPc := hP.sub (ws' := [(m0, .inr (13, m0g)), (md, .inl (mdC, (6, .inl (fun _ => 0))))]) [8, 9] rfl
  have hDc := hD.sub (ws' := [(m0, .inr (13, m0g)), (md, .inl (mdC, (6, .inl (fun _ => 0))))]) [8, 9] (by decide) rfl
  have hKc := hK.sub (tys' := [(mdC, .boolean)]) [1] rfl
  have hFc := va_free (wc := [(m0, .inr (13, m0g)), (md, .inl (mdC, (6, .inl (fun _ => 0))))]) hD hS hA [8, 9] rfl
  refine va_calli (va_runV (As := [.int 0, .int p1]) (rest := []) ⟨hx, hb, hml, hown, hts⟩ (gx69_X13_isThere l hlt dC dI _ p1 m0 md ml mch m0g h_m0 mdC zk) (cwV 2 hts (gi_V wd_4088 wd_4089 wd_4090 wd_340 wd_4091) rfl rfl rfl (by decide +kernel) ⟨(Nat.le_of_ble_eq_true rfl), (Nat.le_of_ble_eq_true rfl)⟩) ⟨fun a U g mk q => by obtain ⟨q0, q1, qP, qK, qD, qT⟩ := q; exact ⟨q0, q1, qP, va_K.moved (u := U) (U := U.calling g mk a) (Vm.Alike.refl U.vm) qK, qD, th.moved (u := U) (U := U.calling g mk a) (Vm.Alike.refl U.vm) qT⟩, va_recv hKc hPc (ci := 13) (q0 := 0) rfl rfl, fun U hU hW => ⟨rfl, by rw [hU], by rw [hU]; exact hPc, va_K.moved hW.alike hKc, hDc.weaken (fun _ _ _ _ => trivial), by rw [hU]; exact ((hth.kept hS.2.1).narrow hFc).moved hW.alike⟩⟩ rfl rfl hl.1 rfl (lv_room (Nat.le_of_ble_eq_true rfl)) dL_law_593 ⟨(Nat.le_of_ble_eq_true rfl), (Nat.le_of_ble_eq_true rfl)⟩) hS (fun q _ h => hFc q h) hFc (fun r u t H1 locs ht hvm hw hB hz1 hk1 hS => ?_)
  subst hw
  obtain ⟨fs_9, h_m0, hP1, hK1, hD1⟩ := hB
  rw [ht] at hP1
  obtain ⟨hP, hD⟩ := va_join (wr := [(x, .inr (12, fs_1)), (deA, .inl (deAC, (6, .inr (.inr (.inr (.inr deAF)))))), (de0, .inr (3, fs_2)), (de1, .inr (3, fs_3)), (de2, .inr (3, fs_4)), (de3, .inr (3, fs_5)), (de4, .inr (3, fs_6)), (de5, .inr (3, fs_7)), (oA, .inl (oAC, (1, .inr (.inl f_8))))]) (w1 := [(m0, .inr (13, fs_9)), (md, .inl (mdC, (6, .inl (fun _ => 0))))]) hP hD [8, 9] [0, 1, 2, 3, 4, 5, 6, 7, 10] rfl rfl (by decide) (by decide) hk1 hFc hP1 hD1
  have hP := hP.sub (ws' := [(x, .inr (12, fs_1)), (deA, .inl (deAC, (6, .inr (.inr (.inr (.inr deAF)))))), (de0, .inr (3, fs_2)), (de1, .inr (3, fs_3)), (de2, .inr (3, fs_4)), (de3, .inr (3, fs_5)), (de4, .inr (3, fs_6)), (de5, .inr (3, fs_7)), (m0, .inr (13, fs_9)), (md, .inl (mdC, (6, .inl (fun _ => 0)))), (oA, .inl (oAC, (1, .inr (.inl f_8))))]) [0, 1, 2, 3, 4, 5, 6, 7, 9, 10, 8] rfl
  have hD := hD.sub (ws' := [(x, .inr (12, fs_1)), (deA, .inl (deAC, (6, .inr (.inr (.inr (.inr deAF)))))), (de0, .inr (3, fs_2)), (de1, .inr (3, fs_3)), (de2, .inr (3, fs_4)), (de3, .inr (3, fs_5)), (de4, .inr (3, fs_6)), (de5, .inr (3, fs_7)), (m0, .inr (13, fs_9)), (md, .inl (mdC, (6, .inl (fun _ => 0)))), (oA, .inl (oAC, (1, .inr (.inl f_8))))]) [0, 1, 2, 3, 4, 5, 6, 7, 9, 10, 8] (by decide) rfl
  generalize H1 = H at hP hS ⊢
  have hP : va_P (dC, dI) CL [(x, .inr (12, fs_1)), (deA, .inl (deAC, (6, .inr (.inr (.inr (.inr deAF)))))), (de0, .inr (3, fs_2)), (de1, .inr (3, fs_3)), (de2, .inr (3, fs_4)), (de3, .inr (3, fs_5)), (de4, .inr (3, fs_6)), (de5, .inr (3, fs_7)), (m0, .inr (13, fs_9)), (md, .inl (mdC, (6, .inl (fun _ => 0)))), (oA, .inl (oAC, (1, .inr (.inl f_8))))] H := hP
  have hD : va_D A [(x, .inr (12, fs_1)), (deA, .inl (deAC, (6, .inr (.inr (.inr (.inr deAF)))))), (de0, .inr (3, fs_2)), (de1, .inr (3, fs_3)), (de2, .inr (3, fs_4)), (de3, .inr (3, fs_5)), (de4, .inr (3, fs_6)), (de5, .inr (3, fs_7)), (m0, .inr (13, fs_9)), (md, .inl (mdC, (6, .inl (fun _ => 0)))), (oA, .inl (oAC, (1, .inr (.inl f_8))))] := hD
  refine lv_istore (lv' := [(6, .int 0), (5, .int 0), (0, .ref b), (1, .ref x), (2, .ref m0), (3, .ref oA), (4, .int 0)]) hx hb dL_law_596 hl (by decide) rfl (fun ls hl => ?_)
  refine lv_aload_n hx hb dL_law_598 rfl (lv_at hl 4 rfl) ?_
  have hPc := hP.sub (ws' := [(m0, .inr (13, fs_9))]) [8] rfl
  have hDc := hD.sub (ws' := [(m0, .inr (13, fs_9))]) [8] (by decide) rfl
  have hKc := hK.sub (tys' := []) [] rfl
  have hFc := va_free (wc := [(m0, .inr (13, fs_9))]) hD hS hA [8] rfl
  refine va_calli (va_runV (As := []) (rest := []) ⟨hx, hb, hml, hown, hts⟩ (gx71_X13_thrown l hlt dC dI _ m0 md ml mch fs_9 h_m0) (cwV 0 hts (gi_V wd_3015 wd_3016 wd_3017 wd_340 wd_3018) rfl rfl rfl (by decide +kernel) ⟨(Nat.le_of_ble_eq_true rfl), (Nat.le_of_ble_eq_true rfl)⟩) ⟨fun a U g mk q => by obtain ⟨q0, q1, qP, qK, qD, qT⟩ := q; exact ⟨q0, q1, qP, va_K.moved (u := U) (U := U.calling g mk a) (Vm.Alike.refl U.vm) qK, qD, th.moved (u := U) (U := U.calling g mk a) (Vm.Alike.refl U.vm) qT⟩, va_recv hKc hPc (ci := 13) (q0 := 0) rfl rfl, fun U hU hW => ⟨rfl, by rw [hU], by rw [hU]; exact hPc, va_K.moved hW.alike hKc, hDc.weaken (fun _ _ _ _ => trivial), by rw [hU]; exact ((hth.kept hS.2.1).narrow hFc).moved hW.alike⟩⟩ rfl rfl hl.1 rfl (lv_room (Nat.le_of_ble_eq_true rfl)) dL_law_599 ⟨(Nat.le_of_ble_eq_true rfl), (Nat.le_of_ble_eq_true rfl)⟩) hS (fun q _ h => hFc q h) hFc (fun r u t H1 locs ht hvm hw hB hz1 hk1 hS => ?_)
  subst hw
  obtain ⟨fs_10, h_m0, hP1, hK1, hD1⟩ := hB
  rw [ht] at hP1
  obtain ⟨hP, hD⟩ := va_join (wr := [(x, .inr (12, fs_1)), (deA, .inl (deAC, (6, .inr (.inr (.inr (.inr deAF)))))), (de0, .inr (3, fs_2)), (de1, .inr (3, fs_3)), (de2, .inr (3, fs_4)), (de3, .inr (3, fs_5)), (de4, .inr (3, fs_6)), (de5, .inr (3, fs_7)), (md, .inl (mdC, (6, .inl (fun _ => 0)))), (oA, .inl (oAC, (1, .inr (.inl f_8))))]) (w1 := [(m0, .inr (13, fs_10))]) hP hD [8] [0, 1, 2, 3, 4, 5, 6, 7, 9, 10] rfl rfl (by decide) (by decide) hk1 hFc hP1 hD1
  have hP := hP.sub (ws' := [(x, .inr (12, fs_1)), (deA, .inl (deAC, (6, .inr (.inr (.inr (.inr deAF)))))), (de0, .inr (3, fs_2)), (de1, .inr (3, fs_3)), (de2, .inr (3, fs_4)), (de3, .inr (3, fs_5)), (de4, .inr (3, fs_6)), (de5, .inr (3, fs_7)), (m0, .inr (13, fs_10)), (md, .inl (mdC, (6, .inl (fun _ => 0)))), (oA, .inl (oAC, (1, .inr (.inl f_8))))]) [0, 1, 2, 3, 4, 5, 6, 7, 10, 8, 9] rfl
  have hD := hD.sub (ws' := [(x, .inr (12, fs_1)), (deA, .inl (deAC, (6, .inr (.inr (.inr (.inr deAF)))))), (de0, .inr (3, fs_2)), (de1, .inr (3, fs_3)), (de2, .inr (3, fs_4)), (de3, .inr (3, fs_5)), (de4, .inr (3, fs_6)), (de5, .inr (3, fs_7)), (m0, .inr (13, fs_10)), (md, .inl (mdC, (6, .inl (fun _ => 0)))), (oA, .inl (oAC, (1, .inr (.inl f_8))))]) [0, 1, 2, 3, 4, 5, 6, 7, 10, 8, 9] (by decide) rfl
  generalize H1 = H at hP hS ⊢
  have hP : va_P (dC, dI) CL [(x, .inr (12, fs_1)), (deA, .inl (deAC, (6, .inr (.inr (.inr (.inr deAF)))))), (de0, .inr (3, fs_2)), (de1, .inr (3, fs_3)), (de2, .inr (3, fs_4)), (de3, .inr (3, fs_5)), (de4, .inr (3, fs_6)), (de5, .inr (3, fs_7)), (m0, .inr (13, fs_10)), (md, .inl (mdC, (6, .inl (fun _ => 0)))), (oA, .inl (oAC, (1, .inr (.inl f_8))))] H := hP
  have hD : va_D A [(x, .inr (12, fs_1)), (deA, .inl (deAC, (6, .inr (.inr (.inr (.inr deAF)))))), (de0, .inr (3, fs_2)), (de1, .inr (3, fs_3)), (de2, .inr (3, fs_4)), (de3, .inr (3, fs_5)), (de4, .inr (3, fs_6)), (de5, .inr (3, fs_7)), (m0, .inr (13, fs_10)), (md, .inl (mdC, (6, .inl (fun _ => 0)))), (oA, .inl (oAC, (1, .inr (.inl f_8))))] := hD
  refine lv_iload hx hb dL_law_602 (lv_at hl 1 rfl) ?_
  refine lv_icmp_eq (tgt := 609) hx hb dL_law_604 (by decide) (fun c9 => ?_) (fun c9 => ?_)
  rotate_left
  · first | exact absurd c9 (by decide +kernel) | exact absurd (by decide +kernel) c9
  refine lv_iload hx hb dL_law_609 (lv_at hl 1 rfl) ?_
  refine lv_if_ne (tgt := 633) hx hb dL_law_611 (by decide) (fun c9 => ?_) (fun c9 => ?_)
  · first | exact absurd c9 (by decide +kernel) | exact absurd (by decide +kernel) c9
  refine lv_aload_n hx hb dL_law_614 rfl (lv_at hl 5 rfl) ?_
  refine lv_iconst (v := 0) hx hb dL_law_615 (by decide +kernel) ?_
  refine va_lald hx hb hK hP 10 2 rfl rfl (vp_in_nI (n := 0) (N := 1) (by decide) (by decide)) dL_law_616 ?_
  refine lv_topl (fun v9 e9 => ?_)
  obtain rfl : v9 = 0 := e9.trans ((congrArg f_8 (by decide +kernel : (0 : Int32).toNatClampNeg = 0)).trans (h_oA.get 0 rfl))
  refine lv_iload hx hb dL_law_617 (lv_at hl 0 rfl) ?_
  refine lv_if_eq (tgt := 626) hx hb dL_law_619 (by decide) (fun c9 => ?_) (fun c9 => ?_)
  rotate_left
  · first | exact absurd c9 (by decide +kernel) | exact absurd (by decide +kernel) c9
  refine lv_lconst (v := 0) hx hb dL_law_626 (by decide) ?_
  refine hc_lcmpE hx hb dL_law_627 ?_
  refine lv_if_eq (tgt := 633) hx hb dL_law_628 (by decide) (fun c9 => ?_) (fun c9 => ?_)
  rotate_left
  · first | exact absurd c9 (by decide +kernel) | exact absurd (by decide +kernel) c9
  refine lv_goto (tgt := 4099) hx hb dL_law_633 (by decide) ?_
  refine W.widen (k := 470) (n := 2709300) (Nat.le_of_ble_eq_true rfl) (Nat.le_of_ble_eq_true rfl) ?_
  rw [eA] at hS
  exact law_tail (v5 := 0) (v6 := 0) (lv := []) C0 hS (lv_sub hl [2, 6] rfl)
set_option maxHeartbeats 4000000 in
set_option maxRecDepth 100000 in
theorem law_isThere_0ge {p : Program} {l : Launch} {e : Env} {s : State} {m : MethodId} {below : List Frame} {meth : Method} {c : Code} {b : Nat} {xs : Nat → Int32} (C0 : lw_At p s m meth c b 7 xs) {dC : Nat → ClassId} {dI : Nat → Nat → Nat} (hlt : l.stackTraces = false) (hth : th (fun q : Nat => s.heap.size ≤ q) s s.heap) (q0 : (xs ((0 : Int32) + 1).toNatClampNeg) = 0) (p1 : Int32) (q1 : (xs ((0 : Int32) + 2).toNatClampNeg) = p1) (zk : ¬ p1 < 0) (zg : 6 ≤ p1) (x deA de0 de1 de2 de3 de4 de5 m0 md oA liA chA ml mch : Nat) (xg : List Value) (h_x : fx xg 17 [(7, .ref deA), (8, .ref liA), (9, .ref chA)]) (deAC : ClassId) (deAF : Nat → Option Nat) (de0g : List Value) (h_de0 : fx de0g 16 [(0, .int 0)]) (de1g : List Value) (h_de1 : fx de1g 16 [(0, .int 0)]) (de2g : List Value) (h_de2 : fx de2g 16 [(0, .int 0)]) (de3g : List Value) (h_de3 : fx de3g 16 [(0, .int 0)]) (de4g : List Value) (h_de4 : fx de4g 16 [(0, .int 0)]) (de5g : List Value) (h_de5 : fx de5g 16 [(0, .int 0)]) (m0g : List Value) (h_m0 : fx m0g 225 [(0, .int 0), (2, .int 0), (3, .int 0), (9, .int 0), (10, .int 0), (11, .int 0), (12, .int 0), (27, .int 0), (55, .ref md), (79, .int 0), (83, .int 0), (88, .ref ml), (95, .int 0), (138, .ref mch)]) (mdC : ClassId) (oAC : ClassId) (oAf : Nat → Int64) (h_oA : fa oAf []) (h_deA0 : deAF 0 = some de0) (h_deA1 : deAF 1 = some de1) (h_deA2 : deAF 2 = some de2) (h_deA3 : deAF 3 = some de3) (h_deA4 : deAF 4 = some de4) (h_deA5 : deAF 5 = some de5) (H : Heap) (locs : List Loc) (hK : va_K (dC, dI) CL [(deAC, .object "ChipFlow$Design"), (mdC, .boolean), (oAC, .long)] s) (hP : va_P (dC, dI) CL [(x, .inr (12, xg)), (deA, .inl (deAC, (6, .inr (.inr (.inr (.inr deAF)))))), (de0, .inr (3, de0g)), (de1, .inr (3, de1g)), (de2, .inr (3, de2g)), (de3, .inr (3, de3g)), (de4, .inr (3, de4g)), (de5, .inr (3, de5g)), (m0, .inr (13, m0g)), (md, .inl (mdC, (6, .inl (fun _ => 0)))), (oA, .inl (oAC, (1, .inr (.inl oAf))))] H) (hD : va_D (fun q : Nat => s.heap.size ≤ q) [(x, .inr (12, xg)), (deA, .inl (deAC, (6, .inr (.inr (.inr (.inr deAF)))))), (de0, .inr (3, de0g)), (de1, .inr (3, de1g)), (de2, .inr (3, de2g)), (de3, .inr (3, de3g)), (de4, .inr (3, de4g)), (de5, .inr (3, de5g)), (m0, .inr (13, m0g)), (md, .inl (mdC, (6, .inl (fun _ => 0)))), (oA, .inl (oAC, (1, .inr (.inl oAf))))]) (hS : va_S (fun q : Nat => s.heap.size ≤ q) s.heap H locs) (ls : Array Slot) (hl : lv_has ls 7 [(0, .ref b), (1, .ref x), (2, .ref m0), (3, .ref oA), (4, .int 0)]) : W p l e room_1 s m #[Value.ref b] below meth c H locs 451 2709142 (lw_Z below #[Value.ref b] s) (F0 m 561 ls []) := by
  obtain ⟨hx, hb, hr, hml, hown, hts0, hX, hbl, hlocks, hgv⟩ := id C0
  have hts : ∀ w ∈ BG, w.before _ s = true := fun w h => hts0 w (List.mem_filter.mp h).1
  have hown : s.vm.findClass RL = some m.cls := hown
  obtain ⟨A, eA⟩ : ∃ z : Nat → Prop, z = (fun q : Nat => s.heap.size ≤ q) := ⟨_, rfl⟩
  rw [← eA] at hth hD hS
  have hA : ∀ q : Nat, s.heap.size ≤ q → A q := fun q h => by rw [eA]; exact h
  have hbA : ¬ A b := by rw [eA]; exact Nat.not_le.mpr hbl
  refine lv_aload_n hx hb dL_law_561 rfl (lv_at hl 1 rfl) ?_
  refine lv_aload_n hx hb dL_law_562 rfl (lv_at hl 0 rfl) ?_
  refine lv_iload hx hb dL_law_563 (lv_at hl 4 rfl) ?_
  refine lv_iconst (v := 1) hx hb dL_law_565 (by decide +kernel) ?_
  refine lv_iadd hx hb dL_law_566 ?_
  refine va_sld hx hb hX hbl hbA hS vi_1 dL_law_567 ?_
  refine lv_topi (fun v9 e9 => ?_)
  obtain rfl : v9 = 0 := e9.trans q0
  refine lv_aload_n hx hb dL_law_568 rfl (lv_at hl 0 rfl) ?_
  refine lv_iload hx hb dL_law_569 (lv_at hl 4 rfl) ?_
  refine lv_iconst (v := 2) hx hb dL_law_571 (by decide +kernel) ?_
  refine lv_iadd hx hb dL_law_572 ?_
  refine va_sld hx hb hX hbl hbA hS vi_2 dL_law_573 ?_
  refine lv_topi (fun v9 e9 => ?_)
  obtain rfl : p1 = v9 := (e9.trans q1).symm
  refine lv_aload_n hx hb dL_law_574 rfl (lv_at hl 3 rfl) ?_
  have hPc := hP.sub (ws' := [(x, .inr (12, xg)), (deA, .inl (deAC, (6, .inr (.inr (.inr (.inr deAF)))))), (de0, .inr (3, de0g)), (de1, .inr (3, de1g)), (de2, .inr (3, de2g)), (de3, .inr (3, de3g)), (de4, .inr (3, de4g)), (de5, .inr (3, de5g)), (oA, .inl (oAC, (1, .inr (.inl oAf))))]) [0, 1, 2, 3, 4, 5, 6, 7, 10] rfl
  have hDc := hD.sub (ws' := [(x, .inr (12, xg)), (deA, .inl (deAC, (6, .inr (.inr (.inr (.inr deAF)))))), (de0, .inr (3, de0g)), (de1, .inr (3, de1g)), (de2, .inr (3, de2g)), (de3, .inr (3, de3g)), (de4, .inr (3, de4g)), (de5, .inr (3, de5g)), (oA, .inl (oAC, (1, .inr (.inl oAf))))]) [0, 1, 2, 3, 4, 5, 6, 7, 10] (by decide) rfl
  have hKc := hK.sub (tys' := [(deAC, .object "ChipFlow$Design"), (oAC, .long)]) [0, 2] rfl
  have hFc := va_free (wc := [(x, .inr (12, xg)), (deA, .inl (deAC, (6, .inr (.inr (.inr (.inr deAF)))))), (de0, .inr (3, de0g)), (de1, .inr (3, de1g)), (de2, .inr (3, de2g)), (de3, .inr (3, de3g)), (de4, .inr (3, de4g)), (de5, .inr (3, de5g)), (oA, .inl (oAC, (1, .inr (.inl oAf))))]) hD hS hA [0, 1, 2, 3, 4, 5, 6, 7, 10] rfl
  refine va_calli (vx_runSW (As := [.ref x, .int 0, .int p1, .ref oA]) (rest := []) ⟨hx, hb, hml, hown, hts⟩ (gx72_L_isThere l hlt dC dI _ p1 x deA de0 de1 de2 de3 de4 de5 oA liA chA xg h_x deAC deAF de0g h_de0 de1g h_de1 de2g h_de2 de3g h_de3 de4g h_de4 de5g h_de5 oAC oAf h_oA h_deA0 h_deA1 h_deA2 h_deA3 h_deA4 h_deA5 zk zg) (vx_cwSW 4 hts (gi_W wd_1839 wd_1840 wd_326 wd_1841) rfl rfl rfl (by decide +kernel) ⟨(Nat.le_of_ble_eq_true rfl), (Nat.le_of_ble_eq_true rfl)⟩) ⟨fun a U g mk q => by obtain ⟨q0, q1, qP, qK, qD, qT⟩ := q; exact ⟨q0, q1, qP, va_K.moved (u := U) (U := U.calling g mk a) (Vm.Alike.refl U.vm) qK, qD, th.moved (u := U) (U := U.calling g mk a) (Vm.Alike.refl U.vm) qT⟩, fun U hU hW => ⟨rfl, by rw [hU], by rw [hU]; exact hPc, va_K.moved hW.alike hKc, hDc.weaken (fun _ _ _ _ => trivial), by rw [hU]; exact ((hth.kept hS.2.1).narrow hFc).moved hW.alike⟩⟩ rfl rfl hl.1 rfl (lv_room (Nat.le_of_ble_eq_true rfl)) dL_law_575 ⟨(Nat.le_of_ble_eq_true rfl), (Nat.le_of_ble_eq_true rfl)⟩) hS (fun q _ h => hFc q h) hFc (fun r u t H1 locs ht hvm hw hB hz1 hk1 hS => ?_)
  subst hw
  obtain ⟨fs_1, fs_2, fs_3, fs_4, fs_5, fs_6, fs_7, f_8, h_x, h_de0, h_de1, h_de2, h_de3, h_de4, h_de5, h_oA, hP1, hK1, hD1⟩ := hB
  rw [ht] at hP1
  obtain ⟨hP, hD⟩ := va_join (wr := [(m0, .inr (13, m0g)), (md, .inl (mdC, (6, .inl (fun _ => 0))))]) (w1 := [(x, .inr (12, fs_1)), (deA, .inl (deAC, (6, .inr (.inr (.inr (.inr deAF)))))), (de0, .inr (3, fs_2)), (de1, .inr (3, fs_3)), (de2, .inr (3, fs_4)), (de3, .inr (3, fs_5)), (de4, .inr (3, fs_6)), (de5, .inr (3, fs_7)), (oA, .inl (oAC, (1, .inr (.inl f_8))))]) hP hD [0, 1, 2, 3, 4, 5, 6, 7, 10] [8, 9] rfl rfl (by decide) (by decide) hk1 hFc hP1 hD1
  have hP := hP.sub (ws' := [(x, .inr (12, fs_1)), (deA, .inl (deAC, (6, .inr (.inr (.inr (.inr deAF)))))), (de0, .inr (3, fs_2)), (de1, .inr (3, fs_3)), (de2, .inr (3, fs_4)), (de3, .inr (3, fs_5)), (de4, .inr (3, fs_6)), (de5, .inr (3, fs_7)), (m0, .inr (13, m0g)), (md, .inl (mdC, (6, .inl (fun _ => 0)))), (oA, .inl (oAC, (1, .inr (.inl f_8))))]) [2, 3, 4, 5, 6, 7, 8, 9, 0, 1, 10] rfl
  have hD := hD.sub (ws' := [(x, .inr (12, fs_1)), (deA, .inl (deAC, (6, .inr (.inr (.inr (.inr deAF)))))), (de0, .inr (3, fs_2)), (de1, .inr (3, fs_3)), (de2, .inr (3, fs_4)), (de3, .inr (3, fs_5)), (de4, .inr (3, fs_6)), (de5, .inr (3, fs_7)), (m0, .inr (13, m0g)), (md, .inl (mdC, (6, .inl (fun _ => 0)))), (oA, .inl (oAC, (1, .inr (.inl f_8))))]) [2, 3, 4, 5, 6, 7, 8, 9, 0, 1, 10] (by decide) rfl
  generalize H1 = H at hP hS ⊢
  have hP : va_P (dC, dI) CL [(x, .inr (12, fs_1)), (deA, .inl (deAC, (6, .inr (.inr (.inr (.inr deAF)))))), (de0, .inr (3, fs_2)), (de1, .inr (3, fs_3)), (de2, .inr (3, fs_4)), (de3, .inr (3, fs_5)), (de4, .inr (3, fs_6)), (de5, .inr (3, fs_7)), (m0, .inr (13, m0g)), (md, .inl (mdC, (6, .inl (fun _ => 0)))), (oA, .inl (oAC, (1, .inr (.inl f_8))))] H := hP
  have hD : va_D A [(x, .inr (12, fs_1)), (deA, .inl (deAC, (6, .inr (.inr (.inr (.inr deAF)))))), (de0, .inr (3, fs_2)), (de1, .inr (3, fs_3)), (de2, .inr (3, fs_4)), (de3, .inr (3, fs_5)), (de4, .inr (3, fs_6)), (de5, .inr (3, fs_7)), (m0, .inr (13, m0g)), (md, .inl (mdC, (6, .inl (fun _ => 0)))), (oA, .inl (oAC, (1, .inr (.inl f_8))))] := hD
  refine W.widen (k := 452) (n := 2709148) (Nat.le_of_ble_eq_true rfl) (Nat.le_of_ble_eq_true rfl) ?_
  refine lv_istore (lv' := [(5, .int 0), (0, .ref b), (1, .ref x), (2, .ref m0), (3, .ref oA), (4, .int 0)]) hx hb dL_law_578 hl (by decide) rfl (fun ls hl => ?_)
  refine lv_aload_n hx hb dL_law_580 rfl (lv_at hl 3 rfl) ?_
  refine lv_aload_n hx hb dL_law_581 rfl (lv_at hl 1 rfl) ?_
  refine lv_iload hx hb dL_law_582 (lv_at hl 5 rfl) ?_
  refine lv_iconst (v := 1) hx hb dL_law_584 (by decide +kernel) ?_
  refine lv_iadd hx hb dL_law_585 ?_
  refine va_sld hx hb hX hbl hbA hS vi_1 dL_law_586 ?_
  refine lv_topi (fun v9 e9 => ?_)
  obtain rfl : v9 = 0 := e9.trans q0
  refine lv_aload_n hx hb dL_law_587 rfl (lv_at hl 1 rfl) ?_
  refine lv_iload hx hb dL_law_588 (lv_at hl 5 rfl) ?_
  refine lv_iconst (v := 2) hx hb dL_law_590 (by decide +kernel) ?_
  refine lv_iadd hx hb dL_law_591 ?_
  refine va_sld hx hb hX hbl hbA hS vi_2 dL_law_592 ?_
  refine lv_topi (fun v9 e9 => ?_)
  obtain rfl : p1 = v9 := (e9.trans q1).symm
  have hPc := hP.sub (ws' := [(m0, .inr (13, m0g)), (md, .inl (mdC, (6, .inl (fun _ => 0))))]) [8, 9] rfl
  have hDc := hD.sub (ws' := [(m0, .inr (13, m0g)), (md, .inl (mdC, (6, .inl (fun _ => 0))))]) [8, 9] (by decide) rfl
  have hKc := hK.sub (tys' := [(mdC, .boolean)]) [1] rfl
  have hFc := va_free (wc := [(m0, .inr (13, m0g)), (md, .inl (mdC, (6, .inl (fun _ => 0))))]) hD hS hA [8, 9] rfl
  refine va_calli (va_runV (As := [.int 0, .int p1]) (rest := []) ⟨hx, hb, hml, hown, hts⟩ (gx74_X13_isThere l hlt dC dI _ p1 m0 md ml mch m0g h_m0 mdC zk zg) (cwV 2 hts (gi_V wd_4088 wd_4089 wd_4090 wd_340 wd_4091) rfl rfl rfl (by decide +kernel) ⟨(Nat.le_of_ble_eq_true rfl), (Nat.le_of_ble_eq_true rfl)⟩) ⟨fun a U g mk q => by obtain ⟨q0, q1, qP, qK, qD, qT⟩ := q; exact ⟨q0, q1, qP, va_K.moved (u := U) (U := U.calling g mk a) (Vm.Alike.refl U.vm) qK, qD, th.moved (u := U) (U := U.calling g mk a) (Vm.Alike.refl U.vm) qT⟩, va_recv hKc hPc (ci := 13) (q0 := 0) rfl rfl, fun U hU hW => ⟨rfl, by rw [hU], by rw [hU]; exact hPc, va_K.moved hW.alike hKc, hDc.weaken (fun _ _ _ _ => trivial), by rw [hU]; exact ((hth.kept hS.2.1).narrow hFc).moved hW.alike⟩⟩ rfl rfl hl.1 rfl (lv_room (Nat.le_of_ble_eq_true rfl)) dL_law_593 ⟨(Nat.le_of_ble_eq_true rfl), (Nat.le_of_ble_eq_true rfl)⟩) hS (fun q _ h => hFc q h) hFc (fun r u t H1 locs ht hvm hw hB hz1 hk1 hS => ?_)
  subst hw
  obtain ⟨fs_9, h_m0, hP1, hK1, hD1⟩ := hB
  rw [ht] at hP1
  obtain ⟨hP, hD⟩ := va_join (wr := [(x, .inr (12, fs_1)), (deA, .inl (deAC, (6, .inr (.inr (.inr (.inr deAF)))))), (de0, .inr (3, fs_2)), (de1, .inr (3, fs_3)), (de2, .inr (3, fs_4)), (de3, .inr (3, fs_5)), (de4, .inr (3, fs_6)), (de5, .inr (3, fs_7)), (oA, .inl (oAC, (1, .inr (.inl f_8))))]) (w1 := [(m0, .inr (13, fs_9)), (md, .inl (mdC, (6, .inl (fun _ => 0))))]) hP hD [8, 9] [0, 1, 2, 3, 4, 5, 6, 7, 10] rfl rfl (by decide) (by decide) hk1 hFc hP1 hD1
  have hP := hP.sub (ws' := [(x, .inr (12, fs_1)), (deA, .inl (deAC, (6, .inr (.inr (.inr (.inr deAF)))))), (de0, .inr (3, fs_2)), (de1, .inr (3, fs_3)), (de2, .inr (3, fs_4)), (de3, .inr (3, fs_5)), (de4, .inr (3, fs_6)), (de5, .inr (3, fs_7)), (m0, .inr (13, fs_9)), (md, .inl (mdC, (6, .inl (fun _ => 0)))), (oA, .inl (oAC, (1, .inr (.inl f_8))))]) [0, 1, 2, 3, 4, 5, 6, 7, 9, 10, 8] rfl
  have hD := hD.sub (ws' := [(x, .inr (12, fs_1)), (deA, .inl (deAC, (6, .inr (.inr (.inr (.inr deAF)))))), (de0, .inr (3, fs_2)), (de1, .inr (3, fs_3)), (de2, .inr (3, fs_4)), (de3, .inr (3, fs_5)), (de4, .inr (3, fs_6)), (de5, .inr (3, fs_7)), (m0, .inr (13, fs_9)), (md, .inl (mdC, (6, .inl (fun _ => 0)))), (oA, .inl (oAC, (1, .inr (.inl f_8))))]) [0, 1, 2, 3, 4, 5, 6, 7, 9, 10, 8] (by decide) rfl
  generalize H1 = H at hP hS ⊢
  have hP : va_P (dC, dI) CL [(x, .inr (12, fs_1)), (deA, .inl (deAC, (6, .inr (.inr (.inr (.inr deAF)))))), (de0, .inr (3, fs_2)), (de1, .inr (3, fs_3)), (de2, .inr (3, fs_4)), (de3, .inr (3, fs_5)), (de4, .inr (3, fs_6)), (de5, .inr (3, fs_7)), (m0, .inr (13, fs_9)), (md, .inl (mdC, (6, .inl (fun _ => 0)))), (oA, .inl (oAC, (1, .inr (.inl f_8))))] H := hP
  have hD : va_D A [(x, .inr (12, fs_1)), (deA, .inl (deAC, (6, .inr (.inr (.inr (.inr deAF)))))), (de0, .inr (3, fs_2)), (de1, .inr (3, fs_3)), (de2, .inr (3, fs_4)), (de3, .inr (3, fs_5)), (de4, .inr (3, fs_6)), (de5, .inr (3, fs_7)), (m0, .inr (13, fs_9)), (md, .inl (mdC, (6, .inl (fun _ => 0)))), (oA, .inl (oAC, (1, .inr (.inl f_8))))] := hD
  refine lv_istore (lv' := [(6, .int 0), (5, .int 0), (0, .ref b), (1, .ref x), (2, .ref m0), (3, .ref oA), (4, .int 0)]) hx hb dL_law_596 hl (by decide) rfl (fun ls hl => ?_)
  refine lv_aload_n hx hb dL_law_598 rfl (lv_at hl 4 rfl) ?_
  have hPc := hP.sub (ws' := [(m0, .inr (13, fs_9))]) [8] rfl
  have hDc := hD.sub (ws' := [(m0, .inr (13, fs_9))]) [8] (by decide) rfl
  have hKc := hK.sub (tys' := []) [] rfl
  have hFc := va_free (wc := [(m0, .inr (13, fs_9))]) hD hS hA [8] rfl
  refine va_calli (va_runV (As := []) (rest := []) ⟨hx, hb, hml, hown, hts⟩ (gx71_X13_thrown l hlt dC dI _ m0 md ml mch fs_9 h_m0) (cwV 0 hts (gi_V wd_3015 wd_3016 wd_3017 wd_340 wd_3018) rfl rfl rfl (by decide +kernel) ⟨(Nat.le_of_ble_eq_true rfl), (Nat.le_of_ble_eq_true rfl)⟩) ⟨fun a U g mk q => by obtain ⟨q0, q1, qP, qK, qD, qT⟩ := q; exact ⟨q0, q1, qP, va_K.moved (u := U) (U := U.calling g mk a) (Vm.Alike.refl U.vm) qK, qD, th.moved (u := U) (U := U.calling g mk a) (Vm.Alike.refl U.vm) qT⟩, va_recv hKc hPc (ci := 13) (q0 := 0) rfl rfl, fun U hU hW => ⟨rfl, by rw [hU], by rw [hU]; exact hPc, va_K.moved hW.alike hKc, hDc.weaken (fun _ _ _ _ => trivial), by rw [hU]; exact ((hth.kept hS.2.1).narrow hFc).moved hW.alike⟩⟩ rfl rfl hl.1 rfl (lv_room (Nat.le_of_ble_eq_true rfl)) dL_law_599 ⟨(Nat.le_of_ble_eq_true rfl), (Nat.le_of_ble_eq_true rfl)⟩) hS (fun q _ h => hFc q h) hFc (fun r u t H1 locs ht hvm hw hB hz1 hk1 hS => ?_)
  subst hw
  obtain ⟨fs_10, h_m0, hP1, hK1, hD1⟩ := hB
  rw [ht] at hP1
  obtain ⟨hP, hD⟩ := va_join (wr := [(x, .inr (12, fs_1)), (deA, .inl (deAC, (6, .inr (.inr (.inr (.inr deAF)))))), (de0, .inr (3, fs_2)), (de1, .inr (3, fs_3)), (de2, .inr (3, fs_4)), (de3, .inr (3, fs_5)), (de4, .inr (3, fs_6)), (de5, .inr (3, fs_7)), (md, .inl (mdC, (6, .inl (fun _ => 0)))), (oA, .inl (oAC, (1, .inr (.inl f_8))))]) (w1 := [(m0, .inr (13, fs_10))]) hP hD [8] [0, 1, 2, 3, 4, 5, 6, 7, 9, 10] rfl rfl (by decide) (by decide) hk1 hFc hP1 hD1
  have hP := hP.sub (ws' := [(x, .inr (12, fs_1)), (deA, .inl (deAC, (6, .inr (.inr (.inr (.inr deAF)))))), (de0, .inr (3, fs_2)), (de1, .inr (3, fs_3)), (de2, .inr (3, fs_4)), (de3, .inr (3, fs_5)), (de4, .inr (3, fs_6)), (de5, .inr (3, fs_7)), (m0, .inr (13, fs_10)), (md, .inl (mdC, (6, .inl (fun _ => 0)))), (oA, .inl (oAC, (1, .inr (.inl f_8))))]) [0, 1, 2, 3, 4, 5, 6, 7, 10, 8, 9] rfl
  have hD := hD.sub (ws' := [(x, .inr (12, fs_1)), (deA, .inl (deAC, (6, .inr (.inr (.inr (.inr deAF)))))), (de0, .inr (3, fs_2)), (de1, .inr (3, fs_3)), (de2, .inr (3, fs_4)), (de3, .inr (3, fs_5)), (de4, .inr (3, fs_6)), (de5, .inr (3, fs_7)), (m0, .inr (13, fs_10)), (md, .inl (mdC, (6, .inl (fun _ => 0)))), (oA, .inl (oAC, (1, .inr (.inl f_8))))]) [0, 1, 2, 3, 4, 5, 6, 7, 10, 8, 9] (by decide) rfl
  generalize H1 = H at hP hS ⊢
  have hP : va_P (dC, dI) CL [(x, .inr (12, fs_1)), (deA, .inl (deAC, (6, .inr (.inr (.inr (.inr deAF)))))), (de0, .inr (3, fs_2)), (de1, .inr (3, fs_3)), (de2, .inr (3, fs_4)), (de3, .inr (3, fs_5)), (de4, .inr (3, fs_6)), (de5, .inr (3, fs_7)), (m0, .inr (13, fs_10)), (md, .inl (mdC, (6, .inl (fun _ => 0)))), (oA, .inl (oAC, (1, .inr (.inl f_8))))] H := hP
  have hD : va_D A [(x, .inr (12, fs_1)), (deA, .inl (deAC, (6, .inr (.inr (.inr (.inr deAF)))))), (de0, .inr (3, fs_2)), (de1, .inr (3, fs_3)), (de2, .inr (3, fs_4)), (de3, .inr (3, fs_5)), (de4, .inr (3, fs_6)), (de5, .inr (3, fs_7)), (m0, .inr (13, fs_10)), (md, .inl (mdC, (6, .inl (fun _ => 0)))), (oA, .inl (oAC, (1, .inr (.inl f_8))))] := hD
  refine lv_iload hx hb dL_law_602 (lv_at hl 1 rfl) ?_
  refine lv_icmp_eq (tgt := 609) hx hb dL_law_604 (by decide) (fun c9 => ?_) (fun c9 => ?_)
  rotate_left
  · first | exact absurd c9 (by decide +kernel) | exact absurd (by decide +kernel) c9
  refine lv_iload hx hb dL_law_609 (lv_at hl 1 rfl) ?_
  refine lv_if_ne (tgt := 633) hx hb dL_law_611 (by decide) (fun c9 => ?_) (fun c9 => ?_)
  · first | exact absurd c9 (by decide +kernel) | exact absurd (by decide +kernel) c9
  refine lv_aload_n hx hb dL_law_614 rfl (lv_at hl 5 rfl) ?_
  refine lv_iconst (v := 0) hx hb dL_law_615 (by decide +kernel) ?_
  refine va_lald hx hb hK hP 10 2 rfl rfl (vp_in_nI (n := 0) (N := 1) (by decide) (by decide)) dL_law_616 ?_
  refine lv_topl (fun v9 e9 => ?_)
  obtain rfl : v9 = 0 := e9.trans ((congrArg f_8 (by decide +kernel : (0 : Int32).toNatClampNeg = 0)).trans (h_oA.get 0 rfl))
  refine lv_iload hx hb dL_law_617 (lv_at hl 0 rfl) ?_
  refine lv_if_eq (tgt := 626) hx hb dL_law_619 (by decide) (fun c9 => ?_) (fun c9 => ?_)
  rotate_left
  · first | exact absurd c9 (by decide +kernel) | exact absurd (by decide +kernel) c9
  refine lv_lconst (v := 0) hx hb dL_law_626 (by decide) ?_
  refine hc_lcmpE hx hb dL_law_627 ?_
  refine lv_if_eq (tgt := 633) hx hb dL_law_628 (by decide) (fun c9 => ?_) (fun c9 => ?_)
  rotate_left
  · first | exact absurd c9 (by decide +kernel) | exact absurd (by decide +kernel) c9
  refine lv_goto (tgt := 4099) hx hb dL_law_633 (by decide) ?_
  refine W.widen (k := 470) (n := 2709300) (Nat.le_of_ble_eq_true rfl) (Nat.le_of_ble_eq_true rfl) ?_
  rw [eA] at hS
  exact law_tail (v5 := 0) (v6 := 0) (lv := []) C0 hS (lv_sub hl [2, 6] rfl)
set_option maxHeartbeats 4000000 in
set_option maxRecDepth 100000 in
theorem law_isThere_0k0 {p : Program} {l : Launch} {e : Env} {s : State} {m : MethodId} {below : List Frame} {meth : Method} {c : Code} {b : Nat} {xs : Nat → Int32} (C0 : lw_At p s m meth c b 7 xs) {dC : Nat → ClassId} {dI : Nat → Nat → Nat} (hlt : l.stackTraces = false) (hth : th (fun q : Nat => s.heap.size ≤ q) s s.heap) (q0 : (xs ((0 : Int32) + 1).toNatClampNeg) = 0) (q1 : (xs ((0 : Int32) + 2).toNatClampNeg) = 0) (x deA de0 de1 de2 de3 de4 de5 m0 md oA liA chA ml mch : Nat) (xg : List Value) (h_x : fx xg 17 [(7, .ref deA), (8, .ref liA), (9, .ref chA)]) (deAC : ClassId) (deAF : Nat → Option Nat) (de0g : List Value) (h_de0 : fx de0g 16 [(0, .int 0)]) (de1g : List Value) (h_de1 : fx de1g 16 [(0, .int 0)]) (de2g : List Value) (h_de2 : fx de2g 16 [(0, .int 0)]) (de3g : List Value) (h_de3 : fx de3g 16 [(0, .int 0)]) (de4g : List Value) (h_de4 : fx de4g 16 [(0, .int 0)]) (de5g : List Value) (h_de5 : fx de5g 16 [(0, .int 0)]) (m0g : List Value) (h_m0 : fx m0g 225 [(0, .int 0), (2, .int 0), (3, .int 0), (9, .int 0), (10, .int 0), (11, .int 0), (12, .int 0), (27, .int 0), (55, .ref md), (79, .int 0), (83, .int 0), (88, .ref ml), (95, .int 0), (138, .ref mch)]) (mdC : ClassId) (oAC : ClassId) (oAf : Nat → Int64) (h_oA : fa oAf []) (h_deA0 : deAF 0 = some de0) (h_deA1 : deAF 1 = some de1) (h_deA2 : deAF 2 = some de2) (h_deA3 : deAF 3 = some de3) (h_deA4 : deAF 4 = some de4) (h_deA5 : deAF 5 = some de5) (H : Heap) (locs : List Loc) (hK : va_K (dC, dI) CL [(deAC, .object "ChipFlow$Design"), (mdC, .boolean), (oAC, .long)] s) (hP : va_P (dC, dI) CL [(x, .inr (12, xg)), (deA, .inl (deAC, (6, .inr (.inr (.inr (.inr deAF)))))), (de0, .inr (3, de0g)), (de1, .inr (3, de1g)), (de2, .inr (3, de2g)), (de3, .inr (3, de3g)), (de4, .inr (3, de4g)), (de5, .inr (3, de5g)), (m0, .inr (13, m0g)), (md, .inl (mdC, (6, .inl (fun _ => 0)))), (oA, .inl (oAC, (1, .inr (.inl oAf))))] H) (hD : va_D (fun q : Nat => s.heap.size ≤ q) [(x, .inr (12, xg)), (deA, .inl (deAC, (6, .inr (.inr (.inr (.inr deAF)))))), (de0, .inr (3, de0g)), (de1, .inr (3, de1g)), (de2, .inr (3, de2g)), (de3, .inr (3, de3g)), (de4, .inr (3, de4g)), (de5, .inr (3, de5g)), (m0, .inr (13, m0g)), (md, .inl (mdC, (6, .inl (fun _ => 0)))), (oA, .inl (oAC, (1, .inr (.inl oAf))))]) (hS : va_S (fun q : Nat => s.heap.size ≤ q) s.heap H locs) (ls : Array Slot) (hl : lv_has ls 7 [(0, .ref b), (1, .ref x), (2, .ref m0), (3, .ref oA), (4, .int 0)]) : W p l e room_1 s m #[Value.ref b] below meth c H locs 451 2709142 (lw_Z below #[Value.ref b] s) (F0 m 561 ls []) := by
  obtain ⟨hx, hb, hr, hml, hown, hts0, hX, hbl, hlocks, hgv⟩ := id C0
  have hts : ∀ w ∈ BG, w.before _ s = true := fun w h => hts0 w (List.mem_filter.mp h).1
  have hown : s.vm.findClass RL = some m.cls := hown
  obtain ⟨A, eA⟩ : ∃ z : Nat → Prop, z = (fun q : Nat => s.heap.size ≤ q) := ⟨_, rfl⟩
  rw [← eA] at hth hD hS
  have hA : ∀ q : Nat, s.heap.size ≤ q → A q := fun q h => by rw [eA]; exact h
  have hbA : ¬ A b := by rw [eA]; exact Nat.not_le.mpr hbl
  refine lv_aload_n hx hb dL_law_561 rfl (lv_at hl 1 rfl) ?_
  refine lv_aload_n hx hb dL_law_562 rfl (lv_at hl 0 rfl) ?_
  refine lv_iload hx hb dL_law_563 (lv_at hl 4 rfl) ?_
  refine lv_iconst (v := 1) hx hb dL_law_565 (by decide +kernel) ?_
  refine lv_iadd hx hb dL_law_566 ?_
  refine va_sld hx hb hX hbl hbA hS vi_1 dL_law_567 ?_
  refine lv_topi (fun v9 e9 => ?_)
  obtain rfl : v9 = 0 := e9.trans q0
  refine lv_aload_n hx hb dL_law_568 rfl (lv_at hl 0 rfl) ?_
  refine lv_iload hx hb dL_law_569 (lv_at hl 4 rfl) ?_
  refine lv_iconst (v := 2) hx hb dL_law_571 (by decide +kernel) ?_
  refine lv_iadd hx hb dL_law_572 ?_
  refine va_sld hx hb hX hbl hbA hS vi_2 dL_law_573 ?_
  refine lv_topi (fun v9 e9 => ?_)
  obtain rfl : v9 = 0 := e9.trans q1
  refine lv_aload_n hx hb dL_law_574 rfl (lv_at hl 3 rfl) ?_
  have hPc := hP.sub (ws' := [(x, .inr (12, xg)), (deA, .inl (deAC, (6, .inr (.inr (.inr (.inr deAF)))))), (de0, .inr (3, de0g)), (de1, .inr (3, de1g)), (de2, .inr (3, de2g)), (de3, .inr (3, de3g)), (de4, .inr (3, de4g)), (de5, .inr (3, de5g)), (oA, .inl (oAC, (1, .inr (.inl oAf))))]) [0, 1, 2, 3, 4, 5, 6, 7, 10] rfl
  have hDc := hD.sub (ws' := [(x, .inr (12, xg)), (deA, .inl (deAC, (6, .inr (.inr (.inr (.inr deAF)))))), (de0, .inr (3, de0g)), (de1, .inr (3, de1g)), (de2, .inr (3, de2g)), (de3, .inr (3, de3g)), (de4, .inr (3, de4g)), (de5, .inr (3, de5g)), (oA, .inl (oAC, (1, .inr (.inl oAf))))]) [0, 1, 2, 3, 4, 5, 6, 7, 10] (by decide) rfl
  have hKc := hK.sub (tys' := [(deAC, .object "ChipFlow$Design"), (oAC, .long)]) [0, 2] rfl
  have hFc := va_free (wc := [(x, .inr (12, xg)), (deA, .inl (deAC, (6, .inr (.inr (.inr (.inr deAF)))))), (de0, .inr (3, de0g)), (de1, .inr (3, de1g)), (de2, .inr (3, de2g)), (de3, .inr (3, de3g)), (de4, .inr (3, de4g)), (de5, .inr (3, de5g)), (oA, .inl (oAC, (1, .inr (.inl oAf))))]) hD hS hA [0, 1, 2, 3, 4, 5, 6, 7, 10] rfl
  refine va_calli (vx_runSW (As := [.ref x, .int 0, .int 0, .ref oA]) (rest := []) ⟨hx, hb, hml, hown, hts⟩ (gx76_L_isThere l hlt dC dI _ x deA de0 de1 de2 de3 de4 de5 oA liA chA xg h_x deAC deAF de0g h_de0 de1g h_de1 de2g h_de2 de3g h_de3 de4g h_de4 de5g h_de5 oAC oAf h_oA h_deA0 h_deA1 h_deA2 h_deA3 h_deA4 h_deA5) (vx_cwSW 4 hts (gi_W wd_1839 wd_1840 wd_326 wd_1841) rfl rfl rfl (by decide +kernel) ⟨(Nat.le_of_ble_eq_true rfl), (Nat.le_of_ble_eq_true rfl)⟩) ⟨fun a U g mk q => by obtain ⟨q0, q1, qP, qK, qD, qT⟩ := q; exact ⟨q0, q1, qP, va_K.moved (u := U) (U := U.calling g mk a) (Vm.Alike.refl U.vm) qK, qD, th.moved (u := U) (U := U.calling g mk a) (Vm.Alike.refl U.vm) qT⟩, fun U hU hW => ⟨rfl, by rw [hU], by rw [hU]; exact hPc, va_K.moved hW.alike hKc, hDc.weaken (fun _ _ _ _ => trivial), by rw [hU]; exact ((hth.kept hS.2.1).narrow hFc).moved hW.alike⟩⟩ rfl rfl hl.1 rfl (lv_room (Nat.le_of_ble_eq_true rfl)) dL_law_575 ⟨(Nat.le_of_ble_eq_true rfl), (Nat.le_of_ble_eq_true rfl)⟩) hS (fun q _ h => hFc q h) hFc (fun r u t H1 locs ht hvm hw hB hz1 hk1 hS => ?_)
  subst hw
  obtain ⟨fs_1, fs_2, fs_3, fs_4, fs_5, fs_6, fs_7, f_8, h_x, h_de0, h_de1, h_de2, h_de3, h_de4, h_de5, h_oA, hP1, hK1, hD1⟩ := hB
  rw [ht] at hP1
  obtain ⟨hP, hD⟩ := va_join (wr := [(m0, .inr (13, m0g)), (md, .inl (mdC, (6, .inl (fun _ => 0))))]) (w1 := [(x, .inr (12, fs_1)), (deA, .inl (deAC, (6, .inr (.inr (.inr (.inr deAF)))))), (de0, .inr (3, fs_2)), (de1, .inr (3, fs_3)), (de2, .inr (3, fs_4)), (de3, .inr (3, fs_5)), (de4, .inr (3, fs_6)), (de5, .inr (3, fs_7)), (oA, .inl (oAC, (1, .inr (.inl f_8))))]) hP hD [0, 1, 2, 3, 4, 5, 6, 7, 10] [8, 9] rfl rfl (by decide) (by decide) hk1 hFc hP1 hD1
  have hP := hP.sub (ws' := [(x, .inr (12, fs_1)), (deA, .inl (deAC, (6, .inr (.inr (.inr (.inr deAF)))))), (de0, .inr (3, fs_2)), (de1, .inr (3, fs_3)), (de2, .inr (3, fs_4)), (de3, .inr (3, fs_5)), (de4, .inr (3, fs_6)), (de5, .inr (3, fs_7)), (m0, .inr (13, m0g)), (md, .inl (mdC, (6, .inl (fun _ => 0)))), (oA, .inl (oAC, (1, .inr (.inl f_8))))]) [2, 3, 4, 5, 6, 7, 8, 9, 0, 1, 10] rfl
  have hD := hD.sub (ws' := [(x, .inr (12, fs_1)), (deA, .inl (deAC, (6, .inr (.inr (.inr (.inr deAF)))))), (de0, .inr (3, fs_2)), (de1, .inr (3, fs_3)), (de2, .inr (3, fs_4)), (de3, .inr (3, fs_5)), (de4, .inr (3, fs_6)), (de5, .inr (3, fs_7)), (m0, .inr (13, m0g)), (md, .inl (mdC, (6, .inl (fun _ => 0)))), (oA, .inl (oAC, (1, .inr (.inl f_8))))]) [2, 3, 4, 5, 6, 7, 8, 9, 0, 1, 10] (by decide) rfl
  generalize H1 = H at hP hS ⊢
  have hP : va_P (dC, dI) CL [(x, .inr (12, fs_1)), (deA, .inl (deAC, (6, .inr (.inr (.inr (.inr deAF)))))), (de0, .inr (3, fs_2)), (de1, .inr (3, fs_3)), (de2, .inr (3, fs_4)), (de3, .inr (3, fs_5)), (de4, .inr (3, fs_6)), (de5, .inr (3, fs_7)), (m0, .inr (13, m0g)), (md, .inl (mdC, (6, .inl (fun _ => 0)))), (oA, .inl (oAC, (1, .inr (.inl f_8))))] H := hP
  have hD : va_D A [(x, .inr (12, fs_1)), (deA, .inl (deAC, (6, .inr (.inr (.inr (.inr deAF)))))), (de0, .inr (3, fs_2)), (de1, .inr (3, fs_3)), (de2, .inr (3, fs_4)), (de3, .inr (3, fs_5)), (de4, .inr (3, fs_6)), (de5, .inr (3, fs_7)), (m0, .inr (13, m0g)), (md, .inl (mdC, (6, .inl (fun _ => 0)))), (oA, .inl (oAC, (1, .inr (.inl f_8))))] := hD
  refine W.widen (k := 452) (n := 2709148) (Nat.le_of_ble_eq_true rfl) (Nat.le_of_ble_eq_true rfl) ?_
  refine lv_istore (lv' := [(5, .int 0), (0, .ref b), (1, .ref x), (2, .ref m0), (3, .ref oA), (4, .int 0)]) hx hb dL_law_578 hl (by decide) rfl (fun ls hl => ?_)
  refine lv_aload_n hx hb dL_law_580 rfl (lv_at hl 3 rfl) ?_
  refine lv_aload_n hx hb dL_law_581 rfl (lv_at hl 1 rfl) ?_
  refine lv_iload hx hb dL_law_582 (lv_at hl 5 rfl) ?_
  refine lv_iconst (v := 1) hx hb dL_law_584 (by decide +kernel) ?_
  refine lv_iadd hx hb dL_law_585 ?_
  refine va_sld hx hb hX hbl hbA hS vi_1 dL_law_586 ?_
  refine lv_topi (fun v9 e9 => ?_)
  obtain rfl : v9 = 0 := e9.trans q0
  refine lv_aload_n hx hb dL_law_587 rfl (lv_at hl 1 rfl) ?_
  refine lv_iload hx hb dL_law_588 (lv_at hl 5 rfl) ?_
  refine lv_iconst (v := 2) hx hb dL_law_590 (by decide +kernel) ?_
  refine lv_iadd hx hb dL_law_591 ?_
  refine va_sld hx hb hX hbl hbA hS vi_2 dL_law_592 ?_
  refine lv_topi (fun v9 e9 => ?_)
  obtain rfl : v9 = 0 := e9.trans q1
  have hPc := hP.sub (ws' := [(m0, .inr (13, m0g)), (md, .inl (mdC, (6, .inl (fun _ => 0))))]) [8, 9] rfl
  have hDc := hD.sub (ws' := [(m0, .inr (13, m0g)), (md, .inl (mdC, (6, .inl (fun _ => 0))))]) [8, 9] (by decide) rfl
  have hKc := hK.sub (tys' := [(mdC, .boolean)]) [1] rfl
  have hFc := va_free (wc := [(m0, .inr (13, m0g)), (md, .inl (mdC, (6, .inl (fun _ => 0))))]) hD hS hA [8, 9] rfl
  refine va_calli (va_runV (As := [.int 0, .int 0]) (rest := []) ⟨hx, hb, hml, hown, hts⟩ (gx78_X13_isThere l hlt dC dI _ m0 md ml mch m0g h_m0 mdC) (cwV 2 hts (gi_V wd_4088 wd_4089 wd_4090 wd_340 wd_4091) rfl rfl rfl (by decide +kernel) ⟨(Nat.le_of_ble_eq_true rfl), (Nat.le_of_ble_eq_true rfl)⟩) ⟨fun a U g mk q => by obtain ⟨q0, q1, qP, qK, qD, qT⟩ := q; exact ⟨q0, q1, qP, va_K.moved (u := U) (U := U.calling g mk a) (Vm.Alike.refl U.vm) qK, qD, th.moved (u := U) (U := U.calling g mk a) (Vm.Alike.refl U.vm) qT⟩, va_recv hKc hPc (ci := 13) (q0 := 0) rfl rfl, fun U hU hW => ⟨rfl, by rw [hU], by rw [hU]; exact hPc, va_K.moved hW.alike hKc, hDc.weaken (fun _ _ _ _ => trivial), by rw [hU]; exact ((hth.kept hS.2.1).narrow hFc).moved hW.alike⟩⟩ rfl rfl hl.1 rfl (lv_room (Nat.le_of_ble_eq_true rfl)) dL_law_593 ⟨(Nat.le_of_ble_eq_true rfl), (Nat.le_of_ble_eq_true rfl)⟩) hS (fun q _ h => hFc q h) hFc (fun r u t H1 locs ht hvm hw hB hz1 hk1 hS => ?_)
  subst hw
  obtain ⟨fs_9, h_m0, hP1, hK1, hD1⟩ := hB
  rw [ht] at hP1
  obtain ⟨hP, hD⟩ := va_join (wr := [(x, .inr (12, fs_1)), (deA, .inl (deAC, (6, .inr (.inr (.inr (.inr deAF)))))), (de0, .inr (3, fs_2)), (de1, .inr (3, fs_3)), (de2, .inr (3, fs_4)), (de3, .inr (3, fs_5)), (de4, .inr (3, fs_6)), (de5, .inr (3, fs_7)), (oA, .inl (oAC, (1, .inr (.inl f_8))))]) (w1 := [(m0, .inr (13, fs_9)), (md, .inl (mdC, (6, .inl (fun _ => 0))))]) hP hD [8, 9] [0, 1, 2, 3, 4, 5, 6, 7, 10] rfl rfl (by decide) (by decide) hk1 hFc hP1 hD1
  have hP := hP.sub (ws' := [(x, .inr (12, fs_1)), (deA, .inl (deAC, (6, .inr (.inr (.inr (.inr deAF)))))), (de0, .inr (3, fs_2)), (de1, .inr (3, fs_3)), (de2, .inr (3, fs_4)), (de3, .inr (3, fs_5)), (de4, .inr (3, fs_6)), (de5, .inr (3, fs_7)), (m0, .inr (13, fs_9)), (md, .inl (mdC, (6, .inl (fun _ => 0)))), (oA, .inl (oAC, (1, .inr (.inl f_8))))]) [0, 1, 2, 3, 4, 5, 6, 7, 9, 10, 8] rfl
  have hD := hD.sub (ws' := [(x, .inr (12, fs_1)), (deA, .inl (deAC, (6, .inr (.inr (.inr (.inr deAF)))))), (de0, .inr (3, fs_2)), (de1, .inr (3, fs_3)), (de2, .inr (3, fs_4)), (de3, .inr (3, fs_5)), (de4, .inr (3, fs_6)), (de5, .inr (3, fs_7)), (m0, .inr (13, fs_9)), (md, .inl (mdC, (6, .inl (fun _ => 0)))), (oA, .inl (oAC, (1, .inr (.inl f_8))))]) [0, 1, 2, 3, 4, 5, 6, 7, 9, 10, 8] (by decide) rfl
  generalize H1 = H at hP hS ⊢
  have hP : va_P (dC, dI) CL [(x, .inr (12, fs_1)), (deA, .inl (deAC, (6, .inr (.inr (.inr (.inr deAF)))))), (de0, .inr (3, fs_2)), (de1, .inr (3, fs_3)), (de2, .inr (3, fs_4)), (de3, .inr (3, fs_5)), (de4, .inr (3, fs_6)), (de5, .inr (3, fs_7)), (m0, .inr (13, fs_9)), (md, .inl (mdC, (6, .inl (fun _ => 0)))), (oA, .inl (oAC, (1, .inr (.inl f_8))))] H := hP
  have hD : va_D A [(x, .inr (12, fs_1)), (deA, .inl (deAC, (6, .inr (.inr (.inr (.inr deAF)))))), (de0, .inr (3, fs_2)), (de1, .inr (3, fs_3)), (de2, .inr (3, fs_4)), (de3, .inr (3, fs_5)), (de4, .inr (3, fs_6)), (de5, .inr (3, fs_7)), (m0, .inr (13, fs_9)), (md, .inl (mdC, (6, .inl (fun _ => 0)))), (oA, .inl (oAC, (1, .inr (.inl f_8))))] := hD
  refine lv_istore (lv' := [(6, .int 0), (5, .int 0), (0, .ref b), (1, .ref x), (2, .ref m0), (3, .ref oA), (4, .int 0)]) hx hb dL_law_596 hl (by decide) rfl (fun ls hl => ?_)
  refine lv_aload_n hx hb dL_law_598 rfl (lv_at hl 4 rfl) ?_
  have hPc := hP.sub (ws' := [(m0, .inr (13, fs_9))]) [8] rfl
  have hDc := hD.sub (ws' := [(m0, .inr (13, fs_9))]) [8] (by decide) rfl
  have hKc := hK.sub (tys' := []) [] rfl
  have hFc := va_free (wc := [(m0, .inr (13, fs_9))]) hD hS hA [8] rfl
  refine va_calli (va_runV (As := []) (rest := []) ⟨hx, hb, hml, hown, hts⟩ (gx71_X13_thrown l hlt dC dI _ m0 md ml mch fs_9 h_m0) (cwV 0 hts (gi_V wd_3015 wd_3016 wd_3017 wd_340 wd_3018) rfl rfl rfl (by decide +kernel) ⟨(Nat.le_of_ble_eq_true rfl), (Nat.le_of_ble_eq_true rfl)⟩) ⟨fun a U g mk q => by obtain ⟨q0, q1, qP, qK, qD, qT⟩ := q; exact ⟨q0, q1, qP, va_K.moved (u := U) (U := U.calling g mk a) (Vm.Alike.refl U.vm) qK, qD, th.moved (u := U) (U := U.calling g mk a) (Vm.Alike.refl U.vm) qT⟩, va_recv hKc hPc (ci := 13) (q0 := 0) rfl rfl, fun U hU hW => ⟨rfl, by rw [hU], by rw [hU]; exact hPc, va_K.moved hW.alike hKc, hDc.weaken (fun _ _ _ _ => trivial), by rw [hU]; exact ((hth.kept hS.2.1).narrow hFc).moved hW.alike⟩⟩ rfl rfl hl.1 rfl (lv_room (Nat.le_of_ble_eq_true rfl)) dL_law_599 ⟨(Nat.le_of_ble_eq_true rfl), (Nat.le_of_ble_eq_true rfl)⟩) hS (fun q _ h => hFc q h) hFc (fun r u t H1 locs ht hvm hw hB hz1 hk1 hS => ?_)
  subst hw
  obtain ⟨fs_10, h_m0, hP1, hK1, hD1⟩ := hB
  rw [ht] at hP1
  obtain ⟨hP, hD⟩ := va_join (wr := [(x, .inr (12, fs_1)), (deA, .inl (deAC, (6, .inr (.inr (.inr (.inr deAF)))))), (de0, .inr (3, fs_2)), (de1, .inr (3, fs_3)), (de2, .inr (3, fs_4)), (de3, .inr (3, fs_5)), (de4, .inr (3, fs_6)), (de5, .inr (3, fs_7)), (md, .inl (mdC, (6, .inl (fun _ => 0)))), (oA, .inl (oAC, (1, .inr (.inl f_8))))]) (w1 := [(m0, .inr (13, fs_10))]) hP hD [8] [0, 1, 2, 3, 4, 5, 6, 7, 9, 10] rfl rfl (by decide) (by decide) hk1 hFc hP1 hD1
  have hP := hP.sub (ws' := [(x, .inr (12, fs_1)), (deA, .inl (deAC, (6, .inr (.inr (.inr (.inr deAF)))))), (de0, .inr (3, fs_2)), (de1, .inr (3, fs_3)), (de2, .inr (3, fs_4)), (de3, .inr (3, fs_5)), (de4, .inr (3, fs_6)), (de5, .inr (3, fs_7)), (m0, .inr (13, fs_10)), (md, .inl (mdC, (6, .inl (fun _ => 0)))), (oA, .inl (oAC, (1, .inr (.inl f_8))))]) [0, 1, 2, 3, 4, 5, 6, 7, 10, 8, 9] rfl
  have hD := hD.sub (ws' := [(x, .inr (12, fs_1)), (deA, .inl (deAC, (6, .inr (.inr (.inr (.inr deAF)))))), (de0, .inr (3, fs_2)), (de1, .inr (3, fs_3)), (de2, .inr (3, fs_4)), (de3, .inr (3, fs_5)), (de4, .inr (3, fs_6)), (de5, .inr (3, fs_7)), (m0, .inr (13, fs_10)), (md, .inl (mdC, (6, .inl (fun _ => 0)))), (oA, .inl (oAC, (1, .inr (.inl f_8))))]) [0, 1, 2, 3, 4, 5, 6, 7, 10, 8, 9] (by decide) rfl
  generalize H1 = H at hP hS ⊢
  have hP : va_P (dC, dI) CL [(x, .inr (12, fs_1)), (deA, .inl (deAC, (6, .inr (.inr (.inr (.inr deAF)))))), (de0, .inr (3, fs_2)), (de1, .inr (3, fs_3)), (de2, .inr (3, fs_4)), (de3, .inr (3, fs_5)), (de4, .inr (3, fs_6)), (de5, .inr (3, fs_7)), (m0, .inr (13, fs_10)), (md, .inl (mdC, (6, .inl (fun _ => 0)))), (oA, .inl (oAC, (1, .inr (.inl f_8))))] H := hP
  have hD : va_D A [(x, .inr (12, fs_1)), (deA, .inl (deAC, (6, .inr (.inr (.inr (.inr deAF)))))), (de0, .inr (3, fs_2)), (de1, .inr (3, fs_3)), (de2, .inr (3, fs_4)), (de3, .inr (3, fs_5)), (de4, .inr (3, fs_6)), (de5, .inr (3, fs_7)), (m0, .inr (13, fs_10)), (md, .inl (mdC, (6, .inl (fun _ => 0)))), (oA, .inl (oAC, (1, .inr (.inl f_8))))] := hD
  refine lv_iload hx hb dL_law_602 (lv_at hl 1 rfl) ?_
  refine lv_icmp_eq (tgt := 609) hx hb dL_law_604 (by decide) (fun c9 => ?_) (fun c9 => ?_)
  rotate_left
  · first | exact absurd c9 (by decide +kernel) | exact absurd (by decide +kernel) c9
  refine lv_iload hx hb dL_law_609 (lv_at hl 1 rfl) ?_
  refine lv_if_ne (tgt := 633) hx hb dL_law_611 (by decide) (fun c9 => ?_) (fun c9 => ?_)
  · first | exact absurd c9 (by decide +kernel) | exact absurd (by decide +kernel) c9
  refine lv_aload_n hx hb dL_law_614 rfl (lv_at hl 5 rfl) ?_
  refine lv_iconst (v := 0) hx hb dL_law_615 (by decide +kernel) ?_
  refine va_lald hx hb hK hP 10 2 rfl rfl (vp_in_nI (n := 0) (N := 1) (by decide) (by decide)) dL_law_616 ?_
  refine lv_topl (fun v9 e9 => ?_)
  obtain rfl : v9 = 0 := e9.trans ((congrArg f_8 (by decide +kernel : (0 : Int32).toNatClampNeg = 0)).trans (h_oA.get 0 rfl))
  refine lv_iload hx hb dL_law_617 (lv_at hl 0 rfl) ?_
  refine lv_if_eq (tgt := 626) hx hb dL_law_619 (by decide) (fun c9 => ?_) (fun c9 => ?_)
  rotate_left
  · first | exact absurd c9 (by decide +kernel) | exact absurd (by decide +kernel) c9
  refine lv_lconst (v := 0) hx hb dL_law_626 (by decide) ?_
  refine hc_lcmpE hx hb dL_law_627 ?_
  refine lv_if_eq (tgt := 633) hx hb dL_law_628 (by decide) (fun c9 => ?_) (fun c9 => ?_)
  rotate_left
  · first | exact absurd c9 (by decide +kernel) | exact absurd (by decide +kernel) c9
  refine lv_goto (tgt := 4099) hx hb dL_law_633 (by decide) ?_
  refine W.widen (k := 470) (n := 2709300) (Nat.le_of_ble_eq_true rfl) (Nat.le_of_ble_eq_true rfl) ?_
  rw [eA] at hS
  exact law_tail (v5 := 0) (v6 := 0) (lv := []) C0 hS (lv_sub hl [2, 6] rfl)
set_option maxHeartbeats 4000000 in
set_option maxRecDepth 100000 in
theorem law_isThere_0k1 {p : Program} {l : Launch} {e : Env} {s : State} {m : MethodId} {below : List Frame} {meth : Method} {c : Code} {b : Nat} {xs : Nat → Int32} (C0 : lw_At p s m meth c b 7 xs) {dC : Nat → ClassId} {dI : Nat → Nat → Nat} (hlt : l.stackTraces = false) (hth : th (fun q : Nat => s.heap.size ≤ q) s s.heap) (q0 : (xs ((0 : Int32) + 1).toNatClampNeg) = 0) (q1 : (xs ((0 : Int32) + 2).toNatClampNeg) = 1) (x deA de0 de1 de2 de3 de4 de5 m0 md oA liA chA ml mch : Nat) (xg : List Value) (h_x : fx xg 17 [(7, .ref deA), (8, .ref liA), (9, .ref chA)]) (deAC : ClassId) (deAF : Nat → Option Nat) (de0g : List Value) (h_de0 : fx de0g 16 [(0, .int 0)]) (de1g : List Value) (h_de1 : fx de1g 16 [(0, .int 0)]) (de2g : List Value) (h_de2 : fx de2g 16 [(0, .int 0)]) (de3g : List Value) (h_de3 : fx de3g 16 [(0, .int 0)]) (de4g : List Value) (h_de4 : fx de4g 16 [(0, .int 0)]) (de5g : List Value) (h_de5 : fx de5g 16 [(0, .int 0)]) (m0g : List Value) (h_m0 : fx m0g 225 [(0, .int 0), (2, .int 0), (3, .int 0), (9, .int 0), (10, .int 0), (11, .int 0), (12, .int 0), (27, .int 0), (55, .ref md), (79, .int 0), (83, .int 0), (88, .ref ml), (95, .int 0), (138, .ref mch)]) (mdC : ClassId) (oAC : ClassId) (oAf : Nat → Int64) (h_oA : fa oAf []) (h_deA0 : deAF 0 = some de0) (h_deA1 : deAF 1 = some de1) (h_deA2 : deAF 2 = some de2) (h_deA3 : deAF 3 = some de3) (h_deA4 : deAF 4 = some de4) (h_deA5 : deAF 5 = some de5) (H : Heap) (locs : List Loc) (hK : va_K (dC, dI) CL [(deAC, .object "ChipFlow$Design"), (mdC, .boolean), (oAC, .long)] s) (hP : va_P (dC, dI) CL [(x, .inr (12, xg)), (deA, .inl (deAC, (6, .inr (.inr (.inr (.inr deAF)))))), (de0, .inr (3, de0g)), (de1, .inr (3, de1g)), (de2, .inr (3, de2g)), (de3, .inr (3, de3g)), (de4, .inr (3, de4g)), (de5, .inr (3, de5g)), (m0, .inr (13, m0g)), (md, .inl (mdC, (6, .inl (fun _ => 0)))), (oA, .inl (oAC, (1, .inr (.inl oAf))))] H) (hD : va_D (fun q : Nat => s.heap.size ≤ q) [(x, .inr (12, xg)), (deA, .inl (deAC, (6, .inr (.inr (.inr (.inr deAF)))))), (de0, .inr (3, de0g)), (de1, .inr (3, de1g)), (de2, .inr (3, de2g)), (de3, .inr (3, de3g)), (de4, .inr (3, de4g)), (de5, .inr (3, de5g)), (m0, .inr (13, m0g)), (md, .inl (mdC, (6, .inl (fun _ => 0)))), (oA, .inl (oAC, (1, .inr (.inl oAf))))]) (hS : va_S (fun q : Nat => s.heap.size ≤ q) s.heap H locs) (ls : Array Slot) (hl : lv_has ls 7 [(0, .ref b), (1, .ref x), (2, .ref m0), (3, .ref oA), (4, .int 0)]) : W p l e room_1 s m #[Value.ref b] below meth c H locs 451 2709142 (lw_Z below #[Value.ref b] s) (F0 m 561 ls []) := by
  obtain ⟨hx, hb, hr, hml, hown, hts0, hX, hbl, hlocks, hgv⟩ := id C0
  have hts : ∀ w ∈ BG, w.before _ s = true := fun w h => hts0 w (List.mem_filter.mp h).1
  have hown : s.vm.findClass RL = some m.cls := hown
  obtain ⟨A, eA⟩ : ∃ z : Nat → Prop, z = (fun q : Nat => s.heap.size ≤ q) := ⟨_, rfl⟩
  rw [← eA] at hth hD hS
  have hA : ∀ q : Nat, s.heap.size ≤ q → A q := fun q h => by rw [eA]; exact h
  have hbA : ¬ A b := by rw [eA]; exact Nat.not_le.mpr hbl
  refine lv_aload_n hx hb dL_law_561 rfl (lv_at hl 1 rfl) ?_
  refine lv_aload_n hx hb dL_law_562 rfl (lv_at hl 0 rfl) ?_
  refine lv_iload hx hb dL_law_563 (lv_at hl 4 rfl) ?_
  refine lv_iconst (v := 1) hx hb dL_law_565 (by decide +kernel) ?_
  refine lv_iadd hx hb dL_law_566 ?_
  refine va_sld hx hb hX hbl hbA hS vi_1 dL_law_567 ?_
  refine lv_topi (fun v9 e9 => ?_)
  obtain rfl : v9 = 0 := e9.trans q0
  refine lv_aload_n hx hb dL_law_568 rfl (lv_at hl 0 rfl) ?_
  refine lv_iload hx hb dL_law_569 (lv_at hl 4 rfl) ?_
  refine lv_iconst (v := 2) hx hb dL_law_571 (by decide +kernel) ?_
  refine lv_iadd hx hb dL_law_572 ?_
  refine va_sld hx hb hX hbl hbA hS vi_2 dL_law_573 ?_
  refine lv_topi (fun v9 e9 => ?_)
  obtain rfl : v9 = 1 := e9.trans q1
  refine lv_aload_n hx hb dL_law_574 rfl (lv_at hl 3 rfl) ?_
  have hPc := hP.sub (ws' := [(x, .inr (12, xg)), (deA, .inl (deAC, (6, .inr (.inr (.inr (.inr deAF)))))), (de0, .inr (3, de0g)), (de1, .inr (3, de1g)), (de2, .inr (3, de2g)), (de3, .inr (3, de3g)), (de4, .inr (3, de4g)), (de5, .inr (3, de5g)), (oA, .inl (oAC, (1, .inr (.inl oAf))))]) [0, 1, 2, 3, 4, 5, 6, 7, 10] rfl
  have hDc := hD.sub (ws' := [(x, .inr (12, xg)), (deA, .inl (deAC, (6, .inr (.inr (.inr (.inr deAF)))))), (de0, .inr (3, de0g)), (de1, .inr (3, de1g)), (de2, .inr (3, de2g)), (de3, .inr (3, de3g)), (de4, .inr (3, de4g)), (de5, .inr (3, de5g)), (oA, .inl (oAC, (1, .inr (.inl oAf))))]) [0, 1, 2, 3, 4, 5, 6, 7, 10] (by decide) rfl
  have hKc := hK.sub (tys' := [(deAC, .object "ChipFlow$Design"), (oAC, .long)]) [0, 2] rfl
  have hFc := va_free (wc := [(x, .inr (12, xg)), (deA, .inl (deAC, (6, .inr (.inr (.inr (.inr deAF)))))), (de0, .inr (3, de0g)), (de1, .inr (3, de1g)), (de2, .inr (3, de2g)), (de3, .inr (3, de3g)), (de4, .inr (3, de4g)), (de5, .inr (3, de5g)), (oA, .inl (oAC, (1, .inr (.inl oAf))))]) hD hS hA [0, 1, 2, 3, 4, 5, 6, 7, 10] rfl
  refine va_calli (vx_runSW (As := [.ref x, .int 0, .int 1, .ref oA]) (rest := []) ⟨hx, hb, hml, hown, hts⟩ (gx80_L_isThere l hlt dC dI _ x deA de0 de1 de2 de3 de4 de5 oA liA chA xg h_x deAC deAF de0g h_de0 de1g h_de1 de2g h_de2 de3g h_de3 de4g h_de4 de5g h_de5 oAC oAf h_oA h_deA0 h_deA1 h_deA2 h_deA3 h_deA4 h_deA5) (vx_cwSW 4 hts (gi_W wd_1839 wd_1840 wd_326 wd_1841) rfl rfl rfl (by decide +kernel) ⟨(Nat.le_of_ble_eq_true rfl), (Nat.le_of_ble_eq_true rfl)⟩) ⟨fun a U g mk q => by obtain ⟨q0, q1, qP, qK, qD, qT⟩ := q; exact ⟨q0, q1, qP, va_K.moved (u := U) (U := U.calling g mk a) (Vm.Alike.refl U.vm) qK, qD, th.moved (u := U) (U := U.calling g mk a) (Vm.Alike.refl U.vm) qT⟩, fun U hU hW => ⟨rfl, by rw [hU], by rw [hU]; exact hPc, va_K.moved hW.alike hKc, hDc.weaken (fun _ _ _ _ => trivial), by rw [hU]; exact ((hth.kept hS.2.1).narrow hFc).moved hW.alike⟩⟩ rfl rfl hl.1 rfl (lv_room (Nat.le_of_ble_eq_true rfl)) dL_law_575 ⟨(Nat.le_of_ble_eq_true rfl), (Nat.le_of_ble_eq_true rfl)⟩) hS (fun q _ h => hFc q h) hFc (fun r u t H1 locs ht hvm hw hB hz1 hk1 hS => ?_)
  subst hw
  obtain ⟨fs_1, fs_2, fs_3, fs_4, fs_5, fs_6, fs_7, f_8, h_x, h_de0, h_de1, h_de2, h_de3, h_de4, h_de5, h_oA, hP1, hK1, hD1⟩ := hB
  rw [ht] at hP1
  obtain ⟨hP, hD⟩ := va_join (wr := [(m0, .inr (13, m0g)), (md, .inl (mdC, (6, .inl (fun _ => 0))))]) (w1 := [(x, .inr (12, fs_1)), (deA, .inl (deAC, (6, .inr (.inr (.inr (.inr deAF)))))), (de0, .inr (3, fs_2)), (de1, .inr (3, fs_3)), (de2, .inr (3, fs_4)), (de3, .inr (3, fs_5)), (de4, .inr (3, fs_6)), (de5, .inr (3, fs_7)), (oA, .inl (oAC, (1, .inr (.inl f_8))))]) hP hD [0, 1, 2, 3, 4, 5, 6, 7, 10] [8, 9] rfl rfl (by decide) (by decide) hk1 hFc hP1 hD1
  have hP := hP.sub (ws' := [(x, .inr (12, fs_1)), (deA, .inl (deAC, (6, .inr (.inr (.inr (.inr deAF)))))), (de0, .inr (3, fs_2)), (de1, .inr (3, fs_3)), (de2, .inr (3, fs_4)), (de3, .inr (3, fs_5)), (de4, .inr (3, fs_6)), (de5, .inr (3, fs_7)), (m0, .inr (13, m0g)), (md, .inl (mdC, (6, .inl (fun _ => 0)))), (oA, .inl (oAC, (1, .inr (.inl f_8))))]) [2, 3, 4, 5, 6, 7, 8, 9, 0, 1, 10] rfl
  have hD := hD.sub (ws' := [(x, .inr (12, fs_1)), (deA, .inl (deAC, (6, .inr (.inr (.inr (.inr deAF)))))), (de0, .inr (3, fs_2)), (de1, .inr (3, fs_3)), (de2, .inr (3, fs_4)), (de3, .inr (3, fs_5)), (de4, .inr (3, fs_6)), (de5, .inr (3, fs_7)), (m0, .inr (13, m0g)), (md, .inl (mdC, (6, .inl (fun _ => 0)))), (oA, .inl (oAC, (1, .inr (.inl f_8))))]) [2, 3, 4, 5, 6, 7, 8, 9, 0, 1, 10] (by decide) rfl
  generalize H1 = H at hP hS ⊢
  have hP : va_P (dC, dI) CL [(x, .inr (12, fs_1)), (deA, .inl (deAC, (6, .inr (.inr (.inr (.inr deAF)))))), (de0, .inr (3, fs_2)), (de1, .inr (3, fs_3)), (de2, .inr (3, fs_4)), (de3, .inr (3, fs_5)), (de4, .inr (3, fs_6)), (de5, .inr (3, fs_7)), (m0, .inr (13, m0g)), (md, .inl (mdC, (6, .inl (fun _ => 0)))), (oA, .inl (oAC, (1, .inr (.inl f_8))))] H := hP
  have hD : va_D A [(x, .inr (12, fs_1)), (deA, .inl (deAC, (6, .inr (.inr (.inr (.inr deAF)))))), (de0, .inr (3, fs_2)), (de1, .inr (3, fs_3)), (de2, .inr (3, fs_4)), (de3, .inr (3, fs_5)), (de4, .inr (3, fs_6)), (de5, .inr (3, fs_7)), (m0, .inr (13, m0g)), (md, .inl (mdC, (6, .inl (fun _ => 0)))), (oA, .inl (oAC, (1, .inr (.inl f_8))))] := hD
  refine W.widen (k := 452) (n := 2709148) (Nat.le_of_ble_eq_true rfl) (Nat.le_of_ble_eq_true rfl) ?_
  refine lv_istore (lv' := [(5, .int 0), (0, .ref b), (1, .ref x), (2, .ref m0), (3, .ref oA), (4, .int 0)]) hx hb dL_law_578 hl (by decide) rfl (fun ls hl => ?_)
  refine lv_aload_n hx hb dL_law_580 rfl (lv_at hl 3 rfl) ?_
  refine lv_aload_n hx hb dL_law_581 rfl (lv_at hl 1 rfl) ?_
  refine lv_iload hx hb dL_law_582 (lv_at hl 5 rfl) ?_
  refine lv_iconst (v := 1) hx hb dL_law_584 (by decide +kernel) ?_
  refine lv_iadd hx hb dL_law_585 ?_
  refine va_sld hx hb hX hbl hbA hS vi_1 dL_law_586 ?_
  refine lv_topi (fun v9 e9 => ?_)
  obtain rfl : v9 = 0 := e9.trans q0
  refine lv_aload_n hx hb dL_law_587 rfl (lv_at hl 1 rfl) ?_
  refine lv_iload hx hb dL_law_588 (lv_at hl 5 rfl) ?_
  refine lv_iconst (v := 2) hx hb dL_law_590 (by decide +kernel) ?_
  refine lv_iadd hx hb dL_law_591 ?_
  refine va_sld hx hb hX hbl hbA hS vi_2 dL_law_592 ?_
  refine lv_topi (fun v9 e9 => ?_)
  obtain rfl : v9 = 1 := e9.trans q1
  have hPc := hP.sub (ws' := [(m0, .inr (13, m0g)), (md, .inl (mdC, (6, .inl (fun _ => 0))))]) [8, 9] rfl
  have hDc := hD.sub (ws' := [(m0, .inr (13, m0g)), (md, .inl (mdC, (6, .inl (fun _ => 0))))]) [8, 9] (by decide) rfl
  have hKc := hK.sub (tys' := [(mdC, .boolean)]) [1] rfl
  have hFc := va_free (wc := [(m0, .inr (13, m0g)), (md, .inl (mdC, (6, .inl (fun _ => 0))))]) hD hS hA [8, 9] rfl
  refine va_calli (va_runV (As := [.int 0, .int 1]) (rest := []) ⟨hx, hb, hml, hown, hts⟩ (gx82_X13_isThere l hlt dC dI _ m0 md ml mch m0g h_m0 mdC) (cwV 2 hts (gi_V wd_4088 wd_4089 wd_4090 wd_340 wd_4091) rfl rfl rfl (by decide +kernel) ⟨(Nat.le_of_ble_eq_true rfl), (Nat.le_of_ble_eq_true rfl)⟩) ⟨fun a U g mk q => by obtain ⟨q0, q1, qP, qK, qD, qT⟩ := q; exact ⟨q0, q1, qP, va_K.moved (u := U) (U := U.calling g mk a) (Vm.Alike.refl U.vm) qK, qD, th.moved (u := U) (U := U.calling g mk a) (Vm.Alike.refl U.vm) qT⟩, va_recv hKc hPc (ci := 13) (q0 := 0) rfl rfl, fun U hU hW => ⟨rfl, by rw [hU], by rw [hU]; exact hPc, va_K.moved hW.alike hKc, hDc.weaken (fun _ _ _ _ => trivial), by rw [hU]; exact ((hth.kept hS.2.1).narrow hFc).moved hW.alike⟩⟩ rfl rfl hl.1 rfl (lv_room (Nat.le_of_ble_eq_true rfl)) dL_law_593 ⟨(Nat.le_of_ble_eq_true rfl), (Nat.le_of_ble_eq_true rfl)⟩) hS (fun q _ h => hFc q h) hFc (fun r u t H1 locs ht hvm hw hB hz1 hk1 hS => ?_)
  subst hw
  obtain ⟨fs_9, h_m0, hP1, hK1, hD1⟩ := hB
  rw [ht] at hP1
  obtain ⟨hP, hD⟩ := va_join (wr := [(x, .inr (12, fs_1)), (deA, .inl (deAC, (6, .inr (.inr (.inr (.inr deAF)))))), (de0, .inr (3, fs_2)), (de1, .inr (3, fs_3)), (de2, .inr (3, fs_4)), (de3, .inr (3, fs_5)), (de4, .inr (3, fs_6)), (de5, .inr (3, fs_7)), (oA, .inl (oAC, (1, .inr (.inl f_8))))]) (w1 := [(m0, .inr (13, fs_9)), (md, .inl (mdC, (6, .inl (fun _ => 0))))]) hP hD [8, 9] [0, 1, 2, 3, 4, 5, 6, 7, 10] rfl rfl (by decide) (by decide) hk1 hFc hP1 hD1
  have hP := hP.sub (ws' := [(x, .inr (12, fs_1)), (deA, .inl (deAC, (6, .inr (.inr (.inr (.inr deAF)))))), (de0, .inr (3, fs_2)), (de1, .inr (3, fs_3)), (de2, .inr (3, fs_4)), (de3, .inr (3, fs_5)), (de4, .inr (3, fs_6)), (de5, .inr (3, fs_7)), (m0, .inr (13, fs_9)), (md, .inl (mdC, (6, .inl (fun _ => 0)))), (oA, .inl (oAC, (1, .inr (.inl f_8))))]) [0, 1, 2, 3, 4, 5, 6, 7, 9, 10, 8] rfl
  have hD := hD.sub (ws' := [(x, .inr (12, fs_1)), (deA, .inl (deAC, (6, .inr (.inr (.inr (.inr deAF)))))), (de0, .inr (3, fs_2)), (de1, .inr (3, fs_3)), (de2, .inr (3, fs_4)), (de3, .inr (3, fs_5)), (de4, .inr (3, fs_6)), (de5, .inr (3, fs_7)), (m0, .inr (13, fs_9)), (md, .inl (mdC, (6, .inl (fun _ => 0)))), (oA, .inl (oAC, (1, .inr (.inl f_8))))]) [0, 1, 2, 3, 4, 5, 6, 7, 9, 10, 8] (by decide) rfl
  generalize H1 = H at hP hS ⊢
  have hP : va_P (dC, dI) CL [(x, .inr (12, fs_1)), (deA, .inl (deAC, (6, .inr (.inr (.inr (.inr deAF)))))), (de0, .inr (3, fs_2)), (de1, .inr (3, fs_3)), (de2, .inr (3, fs_4)), (de3, .inr (3, fs_5)), (de4, .inr (3, fs_6)), (de5, .inr (3, fs_7)), (m0, .inr (13, fs_9)), (md, .inl (mdC, (6, .inl (fun _ => 0)))), (oA, .inl (oAC, (1, .inr (.inl f_8))))] H := hP
  have hD : va_D A [(x, .inr (12, fs_1)), (deA, .inl (deAC, (6, .inr (.inr (.inr (.inr deAF)))))), (de0, .inr (3, fs_2)), (de1, .inr (3, fs_3)), (de2, .inr (3, fs_4)), (de3, .inr (3, fs_5)), (de4, .inr (3, fs_6)), (de5, .inr (3, fs_7)), (m0, .inr (13, fs_9)), (md, .inl (mdC, (6, .inl (fun _ => 0)))), (oA, .inl (oAC, (1, .inr (.inl f_8))))] := hD
  refine lv_istore (lv' := [(6, .int 0), (5, .int 0), (0, .ref b), (1, .ref x), (2, .ref m0), (3, .ref oA), (4, .int 0)]) hx hb dL_law_596 hl (by decide) rfl (fun ls hl => ?_)
  refine lv_aload_n hx hb dL_law_598 rfl (lv_at hl 4 rfl) ?_
  have hPc := hP.sub (ws' := [(m0, .inr (13, fs_9))]) [8] rfl
  have hDc := hD.sub (ws' := [(m0, .inr (13, fs_9))]) [8] (by decide) rfl
  have hKc := hK.sub (tys' := []) [] rfl
  have hFc := va_free (wc := [(m0, .inr (13, fs_9))]) hD hS hA [8] rfl
  refine va_calli (va_runV (As := []) (rest := []) ⟨hx, hb, hml, hown, hts⟩ (gx71_X13_thrown l hlt dC dI _ m0 md ml mch fs_9 h_m0) (cwV 0 hts (gi_V wd_3015 wd_3016 wd_3017 wd_340 wd_3018) rfl rfl rfl (by decide +kernel) ⟨(Nat.le_of_ble_eq_true rfl), (Nat.le_of_ble_eq_true rfl)⟩) ⟨fun a U g mk q => by obtain ⟨q0, q1, qP, qK, qD, qT⟩ := q; exact ⟨q0, q1, qP, va_K.moved (u := U) (U := U.calling g mk a) (Vm.Alike.refl U.vm) qK, qD, th.moved (u := U) (U := U.calling g mk a) (Vm.Alike.refl U.vm) qT⟩, va_recv hKc hPc (ci := 13) (q0 := 0) rfl rfl, fun U hU hW => ⟨rfl, by rw [hU], by rw [hU]; exact hPc, va_K.moved hW.alike hKc, hDc.weaken (fun _ _ _ _ => trivial), by rw [hU]; exact ((hth.kept hS.2.1).narrow hFc).moved hW.alike⟩⟩ rfl rfl hl.1 rfl (lv_room (Nat.le_of_ble_eq_true rfl)) dL_law_599 ⟨(Nat.le_of_ble_eq_true rfl), (Nat.le_of_ble_eq_true rfl)⟩) hS (fun q _ h => hFc q h) hFc (fun r u t H1 locs ht hvm hw hB hz1 hk1 hS => ?_)
  subst hw
  obtain ⟨fs_10, h_m0, hP1, hK1, hD1⟩ := hB
  rw [ht] at hP1
  obtain ⟨hP, hD⟩ := va_join (wr := [(x, .inr (12, fs_1)), (deA, .inl (deAC, (6, .inr (.inr (.inr (.inr deAF)))))), (de0, .inr (3, fs_2)), (de1, .inr (3, fs_3)), (de2, .inr (3, fs_4)), (de3, .inr (3, fs_5)), (de4, .inr (3, fs_6)), (de5, .inr (3, fs_7)), (md, .inl (mdC, (6, .inl (fun _ => 0)))), (oA, .inl (oAC, (1, .inr (.inl f_8))))]) (w1 := [(m0, .inr (13, fs_10))]) hP hD [8] [0, 1, 2, 3, 4, 5, 6, 7, 9, 10] rfl rfl (by decide) (by decide) hk1 hFc hP1 hD1
  have hP := hP.sub (ws' := [(x, .inr (12, fs_1)), (deA, .inl (deAC, (6, .inr (.inr (.inr (.inr deAF)))))), (de0, .inr (3, fs_2)), (de1, .inr (3, fs_3)), (de2, .inr (3, fs_4)), (de3, .inr (3, fs_5)), (de4, .inr (3, fs_6)), (de5, .inr (3, fs_7)), (m0, .inr (13, fs_10)), (md, .inl (mdC, (6, .inl (fun _ => 0)))), (oA, .inl (oAC, (1, .inr (.inl f_8))))]) [0, 1, 2, 3, 4, 5, 6, 7, 10, 8, 9] rfl
  have hD := hD.sub (ws' := [(x, .inr (12, fs_1)), (deA, .inl (deAC, (6, .inr (.inr (.inr (.inr deAF)))))), (de0, .inr (3, fs_2)), (de1, .inr (3, fs_3)), (de2, .inr (3, fs_4)), (de3, .inr (3, fs_5)), (de4, .inr (3, fs_6)), (de5, .inr (3, fs_7)), (m0, .inr (13, fs_10)), (md, .inl (mdC, (6, .inl (fun _ => 0)))), (oA, .inl (oAC, (1, .inr (.inl f_8))))]) [0, 1, 2, 3, 4, 5, 6, 7, 10, 8, 9] (by decide) rfl
  generalize H1 = H at hP hS ⊢
  have hP : va_P (dC, dI) CL [(x, .inr (12, fs_1)), (deA, .inl (deAC, (6, .inr (.inr (.inr (.inr deAF)))))), (de0, .inr (3, fs_2)), (de1, .inr (3, fs_3)), (de2, .inr (3, fs_4)), (de3, .inr (3, fs_5)), (de4, .inr (3, fs_6)), (de5, .inr (3, fs_7)), (m0, .inr (13, fs_10)), (md, .inl (mdC, (6, .inl (fun _ => 0)))), (oA, .inl (oAC, (1, .inr (.inl f_8))))] H := hP
  have hD : va_D A [(x, .inr (12, fs_1)), (deA, .inl (deAC, (6, .inr (.inr (.inr (.inr deAF)))))), (de0, .inr (3, fs_2)), (de1, .inr (3, fs_3)), (de2, .inr (3, fs_4)), (de3, .inr (3, fs_5)), (de4, .inr (3, fs_6)), (de5, .inr (3, fs_7)), (m0, .inr (13, fs_10)), (md, .inl (mdC, (6, .inl (fun _ => 0)))), (oA, .inl (oAC, (1, .inr (.inl f_8))))] := hD
  refine lv_iload hx hb dL_law_602 (lv_at hl 1 rfl) ?_
  refine lv_icmp_eq (tgt := 609) hx hb dL_law_604 (by decide) (fun c9 => ?_) (fun c9 => ?_)
  rotate_left
  · first | exact absurd c9 (by decide +kernel) | exact absurd (by decide +kernel) c9
  refine lv_iload hx hb dL_law_609 (lv_at hl 1 rfl) ?_
  refine lv_if_ne (tgt := 633) hx hb dL_law_611 (by decide) (fun c9 => ?_) (fun c9 => ?_)
  · first | exact absurd c9 (by decide +kernel) | exact absurd (by decide +kernel) c9
  refine lv_aload_n hx hb dL_law_614 rfl (lv_at hl 5 rfl) ?_
  refine lv_iconst (v := 0) hx hb dL_law_615 (by decide +kernel) ?_
  refine va_lald hx hb hK hP 10 2 rfl rfl (vp_in_nI (n := 0) (N := 1) (by decide) (by decide)) dL_law_616 ?_
  refine lv_topl (fun v9 e9 => ?_)
  obtain rfl : v9 = 0 := e9.trans ((congrArg f_8 (by decide +kernel : (0 : Int32).toNatClampNeg = 0)).trans (h_oA.get 0 rfl))
  refine lv_iload hx hb dL_law_617 (lv_at hl 0 rfl) ?_
  refine lv_if_eq (tgt := 626) hx hb dL_law_619 (by decide) (fun c9 => ?_) (fun c9 => ?_)
  rotate_left
  · first | exact absurd c9 (by decide +kernel) | exact absurd (by decide +kernel) c9
  refine lv_lconst (v := 0) hx hb dL_law_626 (by decide) ?_
  refine hc_lcmpE hx hb dL_law_627 ?_
  refine lv_if_eq (tgt := 633) hx hb dL_law_628 (by decide) (fun c9 => ?_) (fun c9 => ?_)
  rotate_left
  · first | exact absurd c9 (by decide +kernel) | exact absurd (by decide +kernel) c9
  refine lv_goto (tgt := 4099) hx hb dL_law_633 (by decide) ?_
  refine W.widen (k := 470) (n := 2709300) (Nat.le_of_ble_eq_true rfl) (Nat.le_of_ble_eq_true rfl) ?_
  rw [eA] at hS
  exact law_tail (v5 := 0) (v6 := 0) (lv := []) C0 hS (lv_sub hl [2, 6] rfl)
set_option maxHeartbeats 4000000 in
set_option maxRecDepth 100000 in
theorem law_isThere_0k2 {p : Program} {l : Launch} {e : Env} {s : State} {m : MethodId} {below : List Frame} {meth : Method} {c : Code} {b : Nat} {xs : Nat → Int32} (C0 : lw_At p s m meth c b 7 xs) {dC : Nat → ClassId} {dI : Nat → Nat → Nat} (hlt : l.stackTraces = false) (hth : th (fun q : Nat => s.heap.size ≤ q) s s.heap) (q0 : (xs ((0 : Int32) + 1).toNatClampNeg) = 0) (q1 : (xs ((0 : Int32) + 2).toNatClampNeg) = 2) (x deA de0 de1 de2 de3 de4 de5 m0 md oA liA chA ml mch : Nat) (xg : List Value) (h_x : fx xg 17 [(7, .ref deA), (8, .ref liA), (9, .ref chA)]) (deAC : ClassId) (deAF : Nat → Option Nat) (de0g : List Value) (h_de0 : fx de0g 16 [(0, .int 0)]) (de1g : List Value) (h_de1 : fx de1g 16 [(0, .int 0)]) (de2g : List Value) (h_de2 : fx de2g 16 [(0, .int 0)]) (de3g : List Value) (h_de3 : fx de3g 16 [(0, .int 0)]) (de4g : List Value) (h_de4 : fx de4g 16 [(0, .int 0)]) (de5g : List Value) (h_de5 : fx de5g 16 [(0, .int 0)]) (m0g : List Value) (h_m0 : fx m0g 225 [(0, .int 0), (2, .int 0), (3, .int 0), (9, .int 0), (10, .int 0), (11, .int 0), (12, .int 0), (27, .int 0), (55, .ref md), (79, .int 0), (83, .int 0), (88, .ref ml), (95, .int 0), (138, .ref mch)]) (mdC : ClassId) (oAC : ClassId) (oAf : Nat → Int64) (h_oA : fa oAf []) (h_deA0 : deAF 0 = some de0) (h_deA1 : deAF 1 = some de1) (h_deA2 : deAF 2 = some de2) (h_deA3 : deAF 3 = some de3) (h_deA4 : deAF 4 = some de4) (h_deA5 : deAF 5 = some de5) (H : Heap) (locs : List Loc) (hK : va_K (dC, dI) CL [(deAC, .object "ChipFlow$Design"), (mdC, .boolean), (oAC, .long)] s) (hP : va_P (dC, dI) CL [(x, .inr (12, xg)), (deA, .inl (deAC, (6, .inr (.inr (.inr (.inr deAF)))))), (de0, .inr (3, de0g)), (de1, .inr (3, de1g)), (de2, .inr (3, de2g)), (de3, .inr (3, de3g)), (de4, .inr (3, de4g)), (de5, .inr (3, de5g)), (m0, .inr (13, m0g)), (md, .inl (mdC, (6, .inl (fun _ => 0)))), (oA, .inl (oAC, (1, .inr (.inl oAf))))] H) (hD : va_D (fun q : Nat => s.heap.size ≤ q) [(x, .inr (12, xg)), (deA, .inl (deAC, (6, .inr (.inr (.inr (.inr deAF)))))), (de0, .inr (3, de0g)), (de1, .inr (3, de1g)), (de2, .inr (3, de2g)), (de3, .inr (3, de3g)), (de4, .inr (3, de4g)), (de5, .inr (3, de5g)), (m0, .inr (13, m0g)), (md, .inl (mdC, (6, .inl (fun _ => 0)))), (oA, .inl (oAC, (1, .inr (.inl oAf))))]) (hS : va_S (fun q : Nat => s.heap.size ≤ q) s.heap H locs) (ls : Array Slot) (hl : lv_has ls 7 [(0, .ref b), (1, .ref x), (2, .ref m0), (3, .ref oA), (4, .int 0)]) : W p l e room_1 s m #[Value.ref b] below meth c H locs 451 2709142 (lw_Z below #[Value.ref b] s) (F0 m 561 ls []) := by
  obtain ⟨hx, hb, hr, hml, hown, hts0, hX, hbl, hlocks, hgv⟩ := id C0
  have hts : ∀ w ∈ BG, w.before _ s = true := fun w h => hts0 w (List.mem_filter.mp h).1
  have hown : s.vm.findClass RL = some m.cls := hown
  obtain ⟨A, eA⟩ : ∃ z : Nat → Prop, z = (fun q : Nat => s.heap.size ≤ q) := ⟨_, rfl⟩
  rw [← eA] at hth hD hS
  have hA : ∀ q : Nat, s.heap.size ≤ q → A q := fun q h => by rw [eA]; exact h
  have hbA : ¬ A b := by rw [eA]; exact Nat.not_le.mpr hbl
  refine lv_aload_n hx hb dL_law_561 rfl (lv_at hl 1 rfl) ?_
  refine lv_aload_n hx hb dL_law_562 rfl (lv_at hl 0 rfl) ?_
  refine lv_iload hx hb dL_law_563 (lv_at hl 4 rfl) ?_
  refine lv_iconst (v := 1) hx hb dL_law_565 (by decide +kernel) ?_
  refine lv_iadd hx hb dL_law_566 ?_
  refine va_sld hx hb hX hbl hbA hS vi_1 dL_law_567 ?_
  refine lv_topi (fun v9 e9 => ?_)
  obtain rfl : v9 = 0 := e9.trans q0
  refine lv_aload_n hx hb dL_law_568 rfl (lv_at hl 0 rfl) ?_
  refine lv_iload hx hb dL_law_569 (lv_at hl 4 rfl) ?_
  refine lv_iconst (v := 2) hx hb dL_law_571 (by decide +kernel) ?_
  refine lv_iadd hx hb dL_law_572 ?_
  refine va_sld hx hb hX hbl hbA hS vi_2 dL_law_573 ?_
  refine lv_topi (fun v9 e9 => ?_)
  obtain rfl : v9 = 2 := e9.trans q1
  refine lv_aload_n hx hb dL_law_574 rfl (lv_at hl 3 rfl) ?_
  have hPc := hP.sub (ws' := [(x, .inr (12, xg)), (deA, .inl (deAC, (6, .inr (.inr (.inr (.inr deAF)))))), (de0, .inr (3, de0g)), (de1, .inr (3, de1g)), (de2, .inr (3, de2g)), (de3, .inr (3, de3g)), (de4, .inr (3, de4g)), (de5, .inr (3, de5g)), (oA, .inl (oAC, (1, .inr (.inl oAf))))]) [0, 1, 2, 3, 4, 5, 6, 7, 10] rfl
  have hDc := hD.sub (ws' := [(x, .inr (12, xg)), (deA, .inl (deAC, (6, .inr (.inr (.inr (.inr deAF)))))), (de0, .inr (3, de0g)), (de1, .inr (3, de1g)), (de2, .inr (3, de2g)), (de3, .inr (3, de3g)), (de4, .inr (3, de4g)), (de5, .inr (3, de5g)), (oA, .inl (oAC, (1, .inr (.inl oAf))))]) [0, 1, 2, 3, 4, 5, 6, 7, 10] (by decide) rfl
  have hKc := hK.sub (tys' := [(deAC, .object "ChipFlow$Design"), (oAC, .long)]) [0, 2] rfl
  have hFc := va_free (wc := [(x, .inr (12, xg)), (deA, .inl (deAC, (6, .inr (.inr (.inr (.inr deAF)))))), (de0, .inr (3, de0g)), (de1, .inr (3, de1g)), (de2, .inr (3, de2g)), (de3, .inr (3, de3g)), (de4, .inr (3, de4g)), (de5, .inr (3, de5g)), (oA, .inl (oAC, (1, .inr (.inl oAf))))]) hD hS hA [0, 1, 2, 3, 4, 5, 6, 7, 10] rfl
  refine va_calli (vx_runSW (As := [.ref x, .int 0, .int 2, .ref oA]) (rest := []) ⟨hx, hb, hml, hown, hts⟩ (gx84_L_isThere l hlt dC dI _ x deA de0 de1 de2 de3 de4 de5 oA liA chA xg h_x deAC deAF de0g h_de0 de1g h_de1 de2g h_de2 de3g h_de3 de4g h_de4 de5g h_de5 oAC oAf h_oA h_deA0 h_deA1 h_deA2 h_deA3 h_deA4 h_deA5) (vx_cwSW 4 hts (gi_W wd_1839 wd_1840 wd_326 wd_1841) rfl rfl rfl (by decide +kernel) ⟨(Nat.le_of_ble_eq_true rfl), (Nat.le_of_ble_eq_true rfl)⟩) ⟨fun a U g mk q => by obtain ⟨q0, q1, qP, qK, qD, qT⟩ := q; exact ⟨q0, q1, qP, va_K.moved (u := U) (U := U.calling g mk a) (Vm.Alike.refl U.vm) qK, qD, th.moved (u := U) (U := U.calling g mk a) (Vm.Alike.refl U.vm) qT⟩, fun U hU hW => ⟨rfl, by rw [hU], by rw [hU]; exact hPc, va_K.moved hW.alike hKc, hDc.weaken (fun _ _ _ _ => trivial), by rw [hU]; exact ((hth.kept hS.2.1).narrow hFc).moved hW.alike⟩⟩ rfl rfl hl.1 rfl (lv_room (Nat.le_of_ble_eq_true rfl)) dL_law_575 ⟨(Nat.le_of_ble_eq_true rfl), (Nat.le_of_ble_eq_true rfl)⟩) hS (fun q _ h => hFc q h) hFc (fun r u t H1 locs ht hvm hw hB hz1 hk1 hS => ?_)
  subst hw
  obtain ⟨fs_1, fs_2, fs_3, fs_4, fs_5, fs_6, fs_7, f_8, h_x, h_de0, h_de1, h_de2, h_de3, h_de4, h_de5, h_oA, hP1, hK1, hD1⟩ := hB
  rw [ht] at hP1
  obtain ⟨hP, hD⟩ := va_join (wr := [(m0, .inr (13, m0g)), (md, .inl (mdC, (6, .inl (fun _ => 0))))]) (w1 := [(x, .inr (12, fs_1)), (deA, .inl (deAC, (6, .inr (.inr (.inr (.inr deAF)))))), (de0, .inr (3, fs_2)), (de1, .inr (3, fs_3)), (de2, .inr (3, fs_4)), (de3, .inr (3, fs_5)), (de4, .inr (3, fs_6)), (de5, .inr (3, fs_7)), (oA, .inl (oAC, (1, .inr (.inl f_8))))]) hP hD [0, 1, 2, 3, 4, 5, 6, 7, 10] [8, 9] rfl rfl (by decide) (by decide) hk1 hFc hP1 hD1
  have hP := hP.sub (ws' := [(x, .inr (12, fs_1)), (deA, .inl (deAC, (6, .inr (.inr (.inr (.inr deAF)))))), (de0, .inr (3, fs_2)), (de1, .inr (3, fs_3)), (de2, .inr (3, fs_4)), (de3, .inr (3, fs_5)), (de4, .inr (3, fs_6)), (de5, .inr (3, fs_7)), (m0, .inr (13, m0g)), (md, .inl (mdC, (6, .inl (fun _ => 0)))), (oA, .inl (oAC, (1, .inr (.inl f_8))))]) [2, 3, 4, 5, 6, 7, 8, 9, 0, 1, 10] rfl
  have hD := hD.sub (ws' := [(x, .inr (12, fs_1)), (deA, .inl (deAC, (6, .inr (.inr (.inr (.inr deAF)))))), (de0, .inr (3, fs_2)), (de1, .inr (3, fs_3)), (de2, .inr (3, fs_4)), (de3, .inr (3, fs_5)), (de4, .inr (3, fs_6)), (de5, .inr (3, fs_7)), (m0, .inr (13, m0g)), (md, .inl (mdC, (6, .inl (fun _ => 0)))), (oA, .inl (oAC, (1, .inr (.inl f_8))))]) [2, 3, 4, 5, 6, 7, 8, 9, 0, 1, 10] (by decide) rfl
  generalize H1 = H at hP hS ⊢
  have hP : va_P (dC, dI) CL [(x, .inr (12, fs_1)), (deA, .inl (deAC, (6, .inr (.inr (.inr (.inr deAF)))))), (de0, .inr (3, fs_2)), (de1, .inr (3, fs_3)), (de2, .inr (3, fs_4)), (de3, .inr (3, fs_5)), (de4, .inr (3, fs_6)), (de5, .inr (3, fs_7)), (m0, .inr (13, m0g)), (md, .inl (mdC, (6, .inl (fun _ => 0)))), (oA, .inl (oAC, (1, .inr (.inl f_8))))] H := hP
  have hD : va_D A [(x, .inr (12, fs_1)), (deA, .inl (deAC, (6, .inr (.inr (.inr (.inr deAF)))))), (de0, .inr (3, fs_2)), (de1, .inr (3, fs_3)), (de2, .inr (3, fs_4)), (de3, .inr (3, fs_5)), (de4, .inr (3, fs_6)), (de5, .inr (3, fs_7)), (m0, .inr (13, m0g)), (md, .inl (mdC, (6, .inl (fun _ => 0)))), (oA, .inl (oAC, (1, .inr (.inl f_8))))] := hD
  refine W.widen (k := 452) (n := 2709148) (Nat.le_of_ble_eq_true rfl) (Nat.le_of_ble_eq_true rfl) ?_
  refine lv_istore (lv' := [(5, .int 0), (0, .ref b), (1, .ref x), (2, .ref m0), (3, .ref oA), (4, .int 0)]) hx hb dL_law_578 hl (by decide) rfl (fun ls hl => ?_)
  refine lv_aload_n hx hb dL_law_580 rfl (lv_at hl 3 rfl) ?_
  refine lv_aload_n hx hb dL_law_581 rfl (lv_at hl 1 rfl) ?_
  refine lv_iload hx hb dL_law_582 (lv_at hl 5 rfl) ?_
  refine lv_iconst (v := 1) hx hb dL_law_584 (by decide +kernel) ?_
  refine lv_iadd hx hb dL_law_585 ?_
  refine va_sld hx hb hX hbl hbA hS vi_1 dL_law_586 ?_
  refine lv_topi (fun v9 e9 => ?_)
  obtain rfl : v9 = 0 := e9.trans q0
  refine lv_aload_n hx hb dL_law_587 rfl (lv_at hl 1 rfl) ?_
  refine lv_iload hx hb dL_law_588 (lv_at hl 5 rfl) ?_
  refine lv_iconst (v := 2) hx hb dL_law_590 (by decide +kernel) ?_
  refine lv_iadd hx hb dL_law_591 ?_
  refine va_sld hx hb hX hbl hbA hS vi_2 dL_law_592 ?_
  refine lv_topi (fun v9 e9 => ?_)
  obtain rfl : v9 = 2 := e9.trans q1
  have hPc := hP.sub (ws' := [(m0, .inr (13, m0g)), (md, .inl (mdC, (6, .inl (fun _ => 0))))]) [8, 9] rfl
  have hDc := hD.sub (ws' := [(m0, .inr (13, m0g)), (md, .inl (mdC, (6, .inl (fun _ => 0))))]) [8, 9] (by decide) rfl
  have hKc := hK.sub (tys' := [(mdC, .boolean)]) [1] rfl
  have hFc := va_free (wc := [(m0, .inr (13, m0g)), (md, .inl (mdC, (6, .inl (fun _ => 0))))]) hD hS hA [8, 9] rfl
  refine va_calli (va_runV (As := [.int 0, .int 2]) (rest := []) ⟨hx, hb, hml, hown, hts⟩ (gx86_X13_isThere l hlt dC dI _ m0 md ml mch m0g h_m0 mdC) (cwV 2 hts (gi_V wd_4088 wd_4089 wd_4090 wd_340 wd_4091) rfl rfl rfl (by decide +kernel) ⟨(Nat.le_of_ble_eq_true rfl), (Nat.le_of_ble_eq_true rfl)⟩) ⟨fun a U g mk q => by obtain ⟨q0, q1, qP, qK, qD, qT⟩ := q; exact ⟨q0, q1, qP, va_K.moved (u := U) (U := U.calling g mk a) (Vm.Alike.refl U.vm) qK, qD, th.moved (u := U) (U := U.calling g mk a) (Vm.Alike.refl U.vm) qT⟩, va_recv hKc hPc (ci := 13) (q0 := 0) rfl rfl, fun U hU hW => ⟨rfl, by rw [hU], by rw [hU]; exact hPc, va_K.moved hW.alike hKc, hDc.weaken (fun _ _ _ _ => trivial), by rw [hU]; exact ((hth.kept hS.2.1).narrow hFc).moved hW.alike⟩⟩ rfl rfl hl.1 rfl (lv_room (Nat.le_of_ble_eq_true rfl)) dL_law_593 ⟨(Nat.le_of_ble_eq_true rfl), (Nat.le_of_ble_eq_true rfl)⟩) hS (fun q _ h => hFc q h) hFc (fun r u t H1 locs ht hvm hw hB hz1 hk1 hS => ?_)
  subst hw
  obtain ⟨fs_9, h_m0, hP1, hK1, hD1⟩ := hB
  rw [ht] at hP1
  obtain ⟨hP, hD⟩ := va_join (wr := [(x, .inr (12, fs_1)), (deA, .inl (deAC, (6, .inr (.inr (.inr (.inr deAF)))))), (de0, .inr (3, fs_2)), (de1, .inr (3, fs_3)), (de2, .inr (3, fs_4)), (de3, .inr (3, fs_5)), (de4, .inr (3, fs_6)), (de5, .inr (3, fs_7)), (oA, .inl (oAC, (1, .inr (.inl f_8))))]) (w1 := [(m0, .inr (13, fs_9)), (md, .inl (mdC, (6, .inl (fun _ => 0))))]) hP hD [8, 9] [0, 1, 2, 3, 4, 5, 6, 7, 10] rfl rfl (by decide) (by decide) hk1 hFc hP1 hD1
  have hP := hP.sub (ws' := [(x, .inr (12, fs_1)), (deA, .inl (deAC, (6, .inr (.inr (.inr (.inr deAF)))))), (de0, .inr (3, fs_2)), (de1, .inr (3, fs_3)), (de2, .inr (3, fs_4)), (de3, .inr (3, fs_5)), (de4, .inr (3, fs_6)), (de5, .inr (3, fs_7)), (m0, .inr (13, fs_9)), (md, .inl (mdC, (6, .inl (fun _ => 0)))), (oA, .inl (oAC, (1, .inr (.inl f_8))))]) [0, 1, 2, 3, 4, 5, 6, 7, 9, 10, 8] rfl
  have hD := hD.sub (ws' := [(x, .inr (12, fs_1)), (deA, .inl (deAC, (6, .inr (.inr (.inr (.inr deAF)))))), (de0, .inr (3, fs_2)), (de1, .inr (3, fs_3)), (de2, .inr (3, fs_4)), (de3, .inr (3, fs_5)), (de4, .inr (3, fs_6)), (de5, .inr (3, fs_7)), (m0, .inr (13, fs_9)), (md, .inl (mdC, (6, .inl (fun _ => 0)))), (oA, .inl (oAC, (1, .inr (.inl f_8))))]) [0, 1, 2, 3, 4, 5, 6, 7, 9, 10, 8] (by decide) rfl
  generalize H1 = H at hP hS ⊢
  have hP : va_P (dC, dI) CL [(x, .inr (12, fs_1)), (deA, .inl (deAC, (6, .inr (.inr (.inr (.inr deAF)))))), (de0, .inr (3, fs_2)), (de1, .inr (3, fs_3)), (de2, .inr (3, fs_4)), (de3, .inr (3, fs_5)), (de4, .inr (3, fs_6)), (de5, .inr (3, fs_7)), (m0, .inr (13, fs_9)), (md, .inl (mdC, (6, .inl (fun _ => 0)))), (oA, .inl (oAC, (1, .inr (.inl f_8))))] H := hP
  have hD : va_D A [(x, .inr (12, fs_1)), (deA, .inl (deAC, (6, .inr (.inr (.inr (.inr deAF)))))), (de0, .inr (3, fs_2)), (de1, .inr (3, fs_3)), (de2, .inr (3, fs_4)), (de3, .inr (3, fs_5)), (de4, .inr (3, fs_6)), (de5, .inr (3, fs_7)), (m0, .inr (13, fs_9)), (md, .inl (mdC, (6, .inl (fun _ => 0)))), (oA, .inl (oAC, (1, .inr (.inl f_8))))] := hD
  refine lv_istore (lv' := [(6, .int 0), (5, .int 0), (0, .ref b), (1, .ref x), (2, .ref m0), (3, .ref oA), (4, .int 0)]) hx hb dL_law_596 hl (by decide) rfl (fun ls hl => ?_)
  refine lv_aload_n hx hb dL_law_598 rfl (lv_at hl 4 rfl) ?_
  have hPc := hP.sub (ws' := [(m0, .inr (13, fs_9))]) [8] rfl
  have hDc := hD.sub (ws' := [(m0, .inr (13, fs_9))]) [8] (by decide) rfl
  have hKc := hK.sub (tys' := []) [] rfl
  have hFc := va_free (wc := [(m0, .inr (13, fs_9))]) hD hS hA [8] rfl
  refine va_calli (va_runV (As := []) (rest := []) ⟨hx, hb, hml, hown, hts⟩ (gx71_X13_thrown l hlt dC dI _ m0 md ml mch fs_9 h_m0) (cwV 0 hts (gi_V wd_3015 wd_3016 wd_3017 wd_340 wd_3018) rfl rfl rfl (by decide +kernel) ⟨(Nat.le_of_ble_eq_true rfl), (Nat.le_of_ble_eq_true rfl)⟩) ⟨fun a U g mk q => by obtain ⟨q0, q1, qP, qK, qD, qT⟩ := q; exact ⟨q0, q1, qP, va_K.moved (u := U) (U := U.calling g mk a) (Vm.Alike.refl U.vm) qK, qD, th.moved (u := U) (U := U.calling g mk a) (Vm.Alike.refl U.vm) qT⟩, va_recv hKc hPc (ci := 13) (q0 := 0) rfl rfl, fun U hU hW => ⟨rfl, by rw [hU], by rw [hU]; exact hPc, va_K.moved hW.alike hKc, hDc.weaken (fun _ _ _ _ => trivial), by rw [hU]; exact ((hth.kept hS.2.1).narrow hFc).moved hW.alike⟩⟩ rfl rfl hl.1 rfl (lv_room (Nat.le_of_ble_eq_true rfl)) dL_law_599 ⟨(Nat.le_of_ble_eq_true rfl), (Nat.le_of_ble_eq_true rfl)⟩) hS (fun q _ h => hFc q h) hFc (fun r u t H1 locs ht hvm hw hB hz1 hk1 hS => ?_)
  subst hw
  obtain ⟨fs_10, h_m0, hP1, hK1, hD1⟩ := hB
  rw [ht] at hP1
  obtain ⟨hP, hD⟩ := va_join (wr := [(x, .inr (12, fs_1)), (deA, .inl (deAC, (6, .inr (.inr (.inr (.inr deAF)))))), (de0, .inr (3, fs_2)), (de1, .inr (3, fs_3)), (de2, .inr (3, fs_4)), (de3, .inr (3, fs_5)), (de4, .inr (3, fs_6)), (de5, .inr (3, fs_7)), (md, .inl (mdC, (6, .inl (fun _ => 0)))), (oA, .inl (oAC, (1, .inr (.inl f_8))))]) (w1 := [(m0, .inr (13, fs_10))]) hP hD [8] [0, 1, 2, 3, 4, 5, 6, 7, 9, 10] rfl rfl (by decide) (by decide) hk1 hFc hP1 hD1
  have hP := hP.sub (ws' := [(x, .inr (12, fs_1)), (deA, .inl (deAC, (6, .inr (.inr (.inr (.inr deAF)))))), (de0, .inr (3, fs_2)), (de1, .inr (3, fs_3)), (de2, .inr (3, fs_4)), (de3, .inr (3, fs_5)), (de4, .inr (3, fs_6)), (de5, .inr (3, fs_7)), (m0, .inr (13, fs_10)), (md, .inl (mdC, (6, .inl (fun _ => 0)))), (oA, .inl (oAC, (1, .inr (.inl f_8))))]) [0, 1, 2, 3, 4, 5, 6, 7, 10, 8, 9] rfl
  have hD := hD.sub (ws' := [(x, .inr (12, fs_1)), (deA, .inl (deAC, (6, .inr (.inr (.inr (.inr deAF)))))), (de0, .inr (3, fs_2)), (de1, .inr (3, fs_3)), (de2, .inr (3, fs_4)), (de3, .inr (3, fs_5)), (de4, .inr (3, fs_6)), (de5, .inr (3, fs_7)), (m0, .inr (13, fs_10)), (md, .inl (mdC, (6, .inl (fun _ => 0)))), (oA, .inl (oAC, (1, .inr (.inl f_8))))]) [0, 1, 2, 3, 4, 5, 6, 7, 10, 8, 9] (by decide) rfl
  generalize H1 = H at hP hS ⊢
  have hP : va_P (dC, dI) CL [(x, .inr (12, fs_1)), (deA, .inl (deAC, (6, .inr (.inr (.inr (.inr deAF)))))), (de0, .inr (3, fs_2)), (de1, .inr (3, fs_3)), (de2, .inr (3, fs_4)), (de3, .inr (3, fs_5)), (de4, .inr (3, fs_6)), (de5, .inr (3, fs_7)), (m0, .inr (13, fs_10)), (md, .inl (mdC, (6, .inl (fun _ => 0)))), (oA, .inl (oAC, (1, .inr (.inl f_8))))] H := hP
  have hD : va_D A [(x, .inr (12, fs_1)), (deA, .inl (deAC, (6, .inr (.inr (.inr (.inr deAF)))))), (de0, .inr (3, fs_2)), (de1, .inr (3, fs_3)), (de2, .inr (3, fs_4)), (de3, .inr (3, fs_5)), (de4, .inr (3, fs_6)), (de5, .inr (3, fs_7)), (m0, .inr (13, fs_10)), (md, .inl (mdC, (6, .inl (fun _ => 0)))), (oA, .inl (oAC, (1, .inr (.inl f_8))))] := hD
  refine lv_iload hx hb dL_law_602 (lv_at hl 1 rfl) ?_
  refine lv_icmp_eq (tgt := 609) hx hb dL_law_604 (by decide) (fun c9 => ?_) (fun c9 => ?_)
  rotate_left
  · first | exact absurd c9 (by decide +kernel) | exact absurd (by decide +kernel) c9
  refine lv_iload hx hb dL_law_609 (lv_at hl 1 rfl) ?_
  refine lv_if_ne (tgt := 633) hx hb dL_law_611 (by decide) (fun c9 => ?_) (fun c9 => ?_)
  · first | exact absurd c9 (by decide +kernel) | exact absurd (by decide +kernel) c9
  refine lv_aload_n hx hb dL_law_614 rfl (lv_at hl 5 rfl) ?_
  refine lv_iconst (v := 0) hx hb dL_law_615 (by decide +kernel) ?_
  refine va_lald hx hb hK hP 10 2 rfl rfl (vp_in_nI (n := 0) (N := 1) (by decide) (by decide)) dL_law_616 ?_
  refine lv_topl (fun v9 e9 => ?_)
  obtain rfl : v9 = 0 := e9.trans ((congrArg f_8 (by decide +kernel : (0 : Int32).toNatClampNeg = 0)).trans (h_oA.get 0 rfl))
  refine lv_iload hx hb dL_law_617 (lv_at hl 0 rfl) ?_
  refine lv_if_eq (tgt := 626) hx hb dL_law_619 (by decide) (fun c9 => ?_) (fun c9 => ?_)
  rotate_left
  · first | exact absurd c9 (by decide +kernel) | exact absurd (by decide +kernel) c9
  refine lv_lconst (v := 0) hx hb dL_law_626 (by decide) ?_
  refine hc_lcmpE hx hb dL_law_627 ?_
  refine lv_if_eq (tgt := 633) hx hb dL_law_628 (by decide) (fun c9 => ?_) (fun c9 => ?_)
  rotate_left
  · first | exact absurd c9 (by decide +kernel) | exact absurd (by decide +kernel) c9
  refine lv_goto (tgt := 4099) hx hb dL_law_633 (by decide) ?_
  refine W.widen (k := 470) (n := 2709300) (Nat.le_of_ble_eq_true rfl) (Nat.le_of_ble_eq_true rfl) ?_
  rw [eA] at hS
  exact law_tail (v5 := 0) (v6 := 0) (lv := []) C0 hS (lv_sub hl [2, 6] rfl)
set_option maxHeartbeats 4000000 in
set_option maxRecDepth 100000 in
theorem law_isThere_0k3 {p : Program} {l : Launch} {e : Env} {s : State} {m : MethodId} {below : List Frame} {meth : Method} {c : Code} {b : Nat} {xs : Nat → Int32} (C0 : lw_At p s m meth c b 7 xs) {dC : Nat → ClassId} {dI : Nat → Nat → Nat} (hlt : l.stackTraces = false) (hth : th (fun q : Nat => s.heap.size ≤ q) s s.heap) (q0 : (xs ((0 : Int32) + 1).toNatClampNeg) = 0) (q1 : (xs ((0 : Int32) + 2).toNatClampNeg) = 3) (x deA de0 de1 de2 de3 de4 de5 m0 md oA liA chA ml mch : Nat) (xg : List Value) (h_x : fx xg 17 [(7, .ref deA), (8, .ref liA), (9, .ref chA)]) (deAC : ClassId) (deAF : Nat → Option Nat) (de0g : List Value) (h_de0 : fx de0g 16 [(0, .int 0)]) (de1g : List Value) (h_de1 : fx de1g 16 [(0, .int 0)]) (de2g : List Value) (h_de2 : fx de2g 16 [(0, .int 0)]) (de3g : List Value) (h_de3 : fx de3g 16 [(0, .int 0)]) (de4g : List Value) (h_de4 : fx de4g 16 [(0, .int 0)]) (de5g : List Value) (h_de5 : fx de5g 16 [(0, .int 0)]) (m0g : List Value) (h_m0 : fx m0g 225 [(0, .int 0), (2, .int 0), (3, .int 0), (9, .int 0), (10, .int 0), (11, .int 0), (12, .int 0), (27, .int 0), (55, .ref md), (79, .int 0), (83, .int 0), (88, .ref ml), (95, .int 0), (138, .ref mch)]) (mdC : ClassId) (oAC : ClassId) (oAf : Nat → Int64) (h_oA : fa oAf []) (h_deA0 : deAF 0 = some de0) (h_deA1 : deAF 1 = some de1) (h_deA2 : deAF 2 = some de2) (h_deA3 : deAF 3 = some de3) (h_deA4 : deAF 4 = some de4) (h_deA5 : deAF 5 = some de5) (H : Heap) (locs : List Loc) (hK : va_K (dC, dI) CL [(deAC, .object "ChipFlow$Design"), (mdC, .boolean), (oAC, .long)] s) (hP : va_P (dC, dI) CL [(x, .inr (12, xg)), (deA, .inl (deAC, (6, .inr (.inr (.inr (.inr deAF)))))), (de0, .inr (3, de0g)), (de1, .inr (3, de1g)), (de2, .inr (3, de2g)), (de3, .inr (3, de3g)), (de4, .inr (3, de4g)), (de5, .inr (3, de5g)), (m0, .inr (13, m0g)), (md, .inl (mdC, (6, .inl (fun _ => 0)))), (oA, .inl (oAC, (1, .inr (.inl oAf))))] H) (hD : va_D (fun q : Nat => s.heap.size ≤ q) [(x, .inr (12, xg)), (deA, .inl (deAC, (6, .inr (.inr (.inr (.inr deAF)))))), (de0, .inr (3, de0g)), (de1, .inr (3, de1g)), (de2, .inr (3, de2g)), (de3, .inr (3, de3g)), (de4, .inr (3, de4g)), (de5, .inr (3, de5g)), (m0, .inr (13, m0g)), (md, .inl (mdC, (6, .inl (fun _ => 0)))), (oA, .inl (oAC, (1, .inr (.inl oAf))))]) (hS : va_S (fun q : Nat => s.heap.size ≤ q) s.heap H locs) (ls : Array Slot) (hl : lv_has ls 7 [(0, .ref b), (1, .ref x), (2, .ref m0), (3, .ref oA), (4, .int 0)]) : W p l e room_1 s m #[Value.ref b] below meth c H locs 451 2709142 (lw_Z below #[Value.ref b] s) (F0 m 561 ls []) := by
  obtain ⟨hx, hb, hr, hml, hown, hts0, hX, hbl, hlocks, hgv⟩ := id C0
  have hts : ∀ w ∈ BG, w.before _ s = true := fun w h => hts0 w (List.mem_filter.mp h).1
  have hown : s.vm.findClass RL = some m.cls := hown
  obtain ⟨A, eA⟩ : ∃ z : Nat → Prop, z = (fun q : Nat => s.heap.size ≤ q) := ⟨_, rfl⟩
  rw [← eA] at hth hD hS
  have hA : ∀ q : Nat, s.heap.size ≤ q → A q := fun q h => by rw [eA]; exact h
  have hbA : ¬ A b := by rw [eA]; exact Nat.not_le.mpr hbl
  refine lv_aload_n hx hb dL_law_561 rfl (lv_at hl 1 rfl) ?_
  refine lv_aload_n hx hb dL_law_562 rfl (lv_at hl 0 rfl) ?_
  refine lv_iload hx hb dL_law_563 (lv_at hl 4 rfl) ?_
  refine lv_iconst (v := 1) hx hb dL_law_565 (by decide +kernel) ?_
  refine lv_iadd hx hb dL_law_566 ?_
  refine va_sld hx hb hX hbl hbA hS vi_1 dL_law_567 ?_
  refine lv_topi (fun v9 e9 => ?_)
  obtain rfl : v9 = 0 := e9.trans q0
  refine lv_aload_n hx hb dL_law_568 rfl (lv_at hl 0 rfl) ?_
  refine lv_iload hx hb dL_law_569 (lv_at hl 4 rfl) ?_
  refine lv_iconst (v := 2) hx hb dL_law_571 (by decide +kernel) ?_
  refine lv_iadd hx hb dL_law_572 ?_
  refine va_sld hx hb hX hbl hbA hS vi_2 dL_law_573 ?_
  refine lv_topi (fun v9 e9 => ?_)
  obtain rfl : v9 = 3 := e9.trans q1
  refine lv_aload_n hx hb dL_law_574 rfl (lv_at hl 3 rfl) ?_
  have hPc := hP.sub (ws' := [(x, .inr (12, xg)), (deA, .inl (deAC, (6, .inr (.inr (.inr (.inr deAF)))))), (de0, .inr (3, de0g)), (de1, .inr (3, de1g)), (de2, .inr (3, de2g)), (de3, .inr (3, de3g)), (de4, .inr (3, de4g)), (de5, .inr (3, de5g)), (oA, .inl (oAC, (1, .inr (.inl oAf))))]) [0, 1, 2, 3, 4, 5, 6, 7, 10] rfl
  have hDc := hD.sub (ws' := [(x, .inr (12, xg)), (deA, .inl (deAC, (6, .inr (.inr (.inr (.inr deAF)))))), (de0, .inr (3, de0g)), (de1, .inr (3, de1g)), (de2, .inr (3, de2g)), (de3, .inr (3, de3g)), (de4, .inr (3, de4g)), (de5, .inr (3, de5g)), (oA, .inl (oAC, (1, .inr (.inl oAf))))]) [0, 1, 2, 3, 4, 5, 6, 7, 10] (by decide) rfl
  have hKc := hK.sub (tys' := [(deAC, .object "ChipFlow$Design"), (oAC, .long)]) [0, 2] rfl
  have hFc := va_free (wc := [(x, .inr (12, xg)), (deA, .inl (deAC, (6, .inr (.inr (.inr (.inr deAF)))))), (de0, .inr (3, de0g)), (de1, .inr (3, de1g)), (de2, .inr (3, de2g)), (de3, .inr (3, de3g)), (de4, .inr (3, de4g)), (de5, .inr (3, de5g)), (oA, .inl (oAC, (1, .inr (.inl oAf))))]) hD hS hA [0, 1, 2, 3, 4, 5, 6, 7, 10] rfl
  refine va_calli (vx_runSW (As := [.ref x, .int 0, .int 3, .ref oA]) (rest := []) ⟨hx, hb, hml, hown, hts⟩ (gx88_L_isThere l hlt dC dI _ x deA de0 de1 de2 de3 de4 de5 oA liA chA xg h_x deAC deAF de0g h_de0 de1g h_de1 de2g h_de2 de3g h_de3 de4g h_de4 de5g h_de5 oAC oAf h_oA h_deA0 h_deA1 h_deA2 h_deA3 h_deA4 h_deA5) (vx_cwSW 4 hts (gi_W wd_1839 wd_1840 wd_326 wd_1841) rfl rfl rfl (by decide +kernel) ⟨(Nat.le_of_ble_eq_true rfl), (Nat.le_of_ble_eq_true rfl)⟩) ⟨fun a U g mk q => by obtain ⟨q0, q1, qP, qK, qD, qT⟩ := q; exact ⟨q0, q1, qP, va_K.moved (u := U) (U := U.calling g mk a) (Vm.Alike.refl U.vm) qK, qD, th.moved (u := U) (U := U.calling g mk a) (Vm.Alike.refl U.vm) qT⟩, fun U hU hW => ⟨rfl, by rw [hU], by rw [hU]; exact hPc, va_K.moved hW.alike hKc, hDc.weaken (fun _ _ _ _ => trivial), by rw [hU]; exact ((hth.kept hS.2.1).narrow hFc).moved hW.alike⟩⟩ rfl rfl hl.1 rfl (lv_room (Nat.le_of_ble_eq_true rfl)) dL_law_575 ⟨(Nat.le_of_ble_eq_true rfl), (Nat.le_of_ble_eq_true rfl)⟩) hS (fun q _ h => hFc q h) hFc (fun r u t H1 locs ht hvm hw hB hz1 hk1 hS => ?_)
  subst hw
  obtain ⟨fs_1, fs_2, fs_3, fs_4, fs_5, fs_6, fs_7, f_8, h_x, h_de0, h_de1, h_de2, h_de3, h_de4, h_de5, h_oA, hP1, hK1, hD1⟩ := hB
  rw [ht] at hP1
  obtain ⟨hP, hD⟩ := va_join (wr := [(m0, .inr (13, m0g)), (md, .inl (mdC, (6, .inl (fun _ => 0))))]) (w1 := [(x, .inr (12, fs_1)), (deA, .inl (deAC, (6, .inr (.inr (.inr (.inr deAF)))))), (de0, .inr (3, fs_2)), (de1, .inr (3, fs_3)), (de2, .inr (3, fs_4)), (de3, .inr (3, fs_5)), (de4, .inr (3, fs_6)), (de5, .inr (3, fs_7)), (oA, .inl (oAC, (1, .inr (.inl f_8))))]) hP hD [0, 1, 2, 3, 4, 5, 6, 7, 10] [8, 9] rfl rfl (by decide) (by decide) hk1 hFc hP1 hD1
  have hP := hP.sub (ws' := [(x, .inr (12, fs_1)), (deA, .inl (deAC, (6, .inr (.inr (.inr (.inr deAF)))))), (de0, .inr (3, fs_2)), (de1, .inr (3, fs_3)), (de2, .inr (3, fs_4)), (de3, .inr (3, fs_5)), (de4, .inr (3, fs_6)), (de5, .inr (3, fs_7)), (m0, .inr (13, m0g)), (md, .inl (mdC, (6, .inl (fun _ => 0)))), (oA, .inl (oAC, (1, .inr (.inl f_8))))]) [2, 3, 4, 5, 6, 7, 8, 9, 0, 1, 10] rfl
  have hD := hD.sub (ws' := [(x, .inr (12, fs_1)), (deA, .inl (deAC, (6, .inr (.inr (.inr (.inr deAF)))))), (de0, .inr (3, fs_2)), (de1, .inr (3, fs_3)), (de2, .inr (3, fs_4)), (de3, .inr (3, fs_5)), (de4, .inr (3, fs_6)), (de5, .inr (3, fs_7)), (m0, .inr (13, m0g)), (md, .inl (mdC, (6, .inl (fun _ => 0)))), (oA, .inl (oAC, (1, .inr (.inl f_8))))]) [2, 3, 4, 5, 6, 7, 8, 9, 0, 1, 10] (by decide) rfl
  generalize H1 = H at hP hS ⊢
  have hP : va_P (dC, dI) CL [(x, .inr (12, fs_1)), (deA, .inl (deAC, (6, .inr (.inr (.inr (.inr deAF)))))), (de0, .inr (3, fs_2)), (de1, .inr (3, fs_3)), (de2, .inr (3, fs_4)), (de3, .inr (3, fs_5)), (de4, .inr (3, fs_6)), (de5, .inr (3, fs_7)), (m0, .inr (13, m0g)), (md, .inl (mdC, (6, .inl (fun _ => 0)))), (oA, .inl (oAC, (1, .inr (.inl f_8))))] H := hP
  have hD : va_D A [(x, .inr (12, fs_1)), (deA, .inl (deAC, (6, .inr (.inr (.inr (.inr deAF)))))), (de0, .inr (3, fs_2)), (de1, .inr (3, fs_3)), (de2, .inr (3, fs_4)), (de3, .inr (3, fs_5)), (de4, .inr (3, fs_6)), (de5, .inr (3, fs_7)), (m0, .inr (13, m0g)), (md, .inl (mdC, (6, .inl (fun _ => 0)))), (oA, .inl (oAC, (1, .inr (.inl f_8))))] := hD
  refine W.widen (k := 452) (n := 2709148) (Nat.le_of_ble_eq_true rfl) (Nat.le_of_ble_eq_true rfl) ?_
  refine lv_istore (lv' := [(5, .int 0), (0, .ref b), (1, .ref x), (2, .ref m0), (3, .ref oA), (4, .int 0)]) hx hb dL_law_578 hl (by decide) rfl (fun ls hl => ?_)
  refine lv_aload_n hx hb dL_law_580 rfl (lv_at hl 3 rfl) ?_
  refine lv_aload_n hx hb dL_law_581 rfl (lv_at hl 1 rfl) ?_
  refine lv_iload hx hb dL_law_582 (lv_at hl 5 rfl) ?_
  refine lv_iconst (v := 1) hx hb dL_law_584 (by decide +kernel) ?_
  refine lv_iadd hx hb dL_law_585 ?_
  refine va_sld hx hb hX hbl hbA hS vi_1 dL_law_586 ?_
  refine lv_topi (fun v9 e9 => ?_)
  obtain rfl : v9 = 0 := e9.trans q0
  refine lv_aload_n hx hb dL_law_587 rfl (lv_at hl 1 rfl) ?_
  refine lv_iload hx hb dL_law_588 (lv_at hl 5 rfl) ?_
  refine lv_iconst (v := 2) hx hb dL_law_590 (by decide +kernel) ?_
  refine lv_iadd hx hb dL_law_591 ?_
  refine va_sld hx hb hX hbl hbA hS vi_2 dL_law_592 ?_
  refine lv_topi (fun v9 e9 => ?_)
  obtain rfl : v9 = 3 := e9.trans q1
  have hPc := hP.sub (ws' := [(m0, .inr (13, m0g)), (md, .inl (mdC, (6, .inl (fun _ => 0))))]) [8, 9] rfl
  have hDc := hD.sub (ws' := [(m0, .inr (13, m0g)), (md, .inl (mdC, (6, .inl (fun _ => 0))))]) [8, 9] (by decide) rfl
  have hKc := hK.sub (tys' := [(mdC, .boolean)]) [1] rfl
  have hFc := va_free (wc := [(m0, .inr (13, m0g)), (md, .inl (mdC, (6, .inl (fun _ => 0))))]) hD hS hA [8, 9] rfl
  refine va_calli (va_runV (As := [.int 0, .int 3]) (rest := []) ⟨hx, hb, hml, hown, hts⟩ (gx90_X13_isThere l hlt dC dI _ m0 md ml mch m0g h_m0 mdC) (cwV 2 hts (gi_V wd_4088 wd_4089 wd_4090 wd_340 wd_4091) rfl rfl rfl (by decide +kernel) ⟨(Nat.le_of_ble_eq_true rfl), (Nat.le_of_ble_eq_true rfl)⟩) ⟨fun a U g mk q => by obtain ⟨q0, q1, qP, qK, qD, qT⟩ := q; exact ⟨q0, q1, qP, va_K.moved (u := U) (U := U.calling g mk a) (Vm.Alike.refl U.vm) qK, qD, th.moved (u := U) (U := U.calling g mk a) (Vm.Alike.refl U.vm) qT⟩, va_recv hKc hPc (ci := 13) (q0 := 0) rfl rfl, fun U hU hW => ⟨rfl, by rw [hU], by rw [hU]; exact hPc, va_K.moved hW.alike hKc, hDc.weaken (fun _ _ _ _ => trivial), by rw [hU]; exact ((hth.kept hS.2.1).narrow hFc).moved hW.alike⟩⟩ rfl rfl hl.1 rfl (lv_room (Nat.le_of_ble_eq_true rfl)) dL_law_593 ⟨(Nat.le_of_ble_eq_true rfl), (Nat.le_of_ble_eq_true rfl)⟩) hS (fun q _ h => hFc q h) hFc (fun r u t H1 locs ht hvm hw hB hz1 hk1 hS => ?_)
  subst hw
  obtain ⟨fs_9, h_m0, hP1, hK1, hD1⟩ := hB
  rw [ht] at hP1
  obtain ⟨hP, hD⟩ := va_join (wr := [(x, .inr (12, fs_1)), (deA, .inl (deAC, (6, .inr (.inr (.inr (.inr deAF)))))), (de0, .inr (3, fs_2)), (de1, .inr (3, fs_3)), (de2, .inr (3, fs_4)), (de3, .inr (3, fs_5)), (de4, .inr (3, fs_6)), (de5, .inr (3, fs_7)), (oA, .inl (oAC, (1, .inr (.inl f_8))))]) (w1 := [(m0, .inr (13, fs_9)), (md, .inl (mdC, (6, .inl (fun _ => 0))))]) hP hD [8, 9] [0, 1, 2, 3, 4, 5, 6, 7, 10] rfl rfl (by decide) (by decide) hk1 hFc hP1 hD1
  have hP := hP.sub (ws' := [(x, .inr (12, fs_1)), (deA, .inl (deAC, (6, .inr (.inr (.inr (.inr deAF)))))), (de0, .inr (3, fs_2)), (de1, .inr (3, fs_3)), (de2, .inr (3, fs_4)), (de3, .inr (3, fs_5)), (de4, .inr (3, fs_6)), (de5, .inr (3, fs_7)), (m0, .inr (13, fs_9)), (md, .inl (mdC, (6, .inl (fun _ => 0)))), (oA, .inl (oAC, (1, .inr (.inl f_8))))]) [0, 1, 2, 3, 4, 5, 6, 7, 9, 10, 8] rfl
  have hD := hD.sub (ws' := [(x, .inr (12, fs_1)), (deA, .inl (deAC, (6, .inr (.inr (.inr (.inr deAF)))))), (de0, .inr (3, fs_2)), (de1, .inr (3, fs_3)), (de2, .inr (3, fs_4)), (de3, .inr (3, fs_5)), (de4, .inr (3, fs_6)), (de5, .inr (3, fs_7)), (m0, .inr (13, fs_9)), (md, .inl (mdC, (6, .inl (fun _ => 0)))), (oA, .inl (oAC, (1, .inr (.inl f_8))))]) [0, 1, 2, 3, 4, 5, 6, 7, 9, 10, 8] (by decide) rfl
  generalize H1 = H at hP hS ⊢
  have hP : va_P (dC, dI) CL [(x, .inr (12, fs_1)), (deA, .inl (deAC, (6, .inr (.inr (.inr (.inr deAF)))))), (de0, .inr (3, fs_2)), (de1, .inr (3, fs_3)), (de2, .inr (3, fs_4)), (de3, .inr (3, fs_5)), (de4, .inr (3, fs_6)), (de5, .inr (3, fs_7)), (m0, .inr (13, fs_9)), (md, .inl (mdC, (6, .inl (fun _ => 0)))), (oA, .inl (oAC, (1, .inr (.inl f_8))))] H := hP
  have hD : va_D A [(x, .inr (12, fs_1)), (deA, .inl (deAC, (6, .inr (.inr (.inr (.inr deAF)))))), (de0, .inr (3, fs_2)), (de1, .inr (3, fs_3)), (de2, .inr (3, fs_4)), (de3, .inr (3, fs_5)), (de4, .inr (3, fs_6)), (de5, .inr (3, fs_7)), (m0, .inr (13, fs_9)), (md, .inl (mdC, (6, .inl (fun _ => 0)))), (oA, .inl (oAC, (1, .inr (.inl f_8))))] := hD
  refine lv_istore (lv' := [(6, .int 0), (5, .int 0), (0, .ref b), (1, .ref x), (2, .ref m0), (3, .ref oA), (4, .int 0)]) hx hb dL_law_596 hl (by decide) rfl (fun ls hl => ?_)
  refine lv_aload_n hx hb dL_law_598 rfl (lv_at hl 4 rfl) ?_
  have hPc := hP.sub (ws' := [(m0, .inr (13, fs_9))]) [8] rfl
  have hDc := hD.sub (ws' := [(m0, .inr (13, fs_9))]) [8] (by decide) rfl
  have hKc := hK.sub (tys' := []) [] rfl
  have hFc := va_free (wc := [(m0, .inr (13, fs_9))]) hD hS hA [8] rfl
  refine va_calli (va_runV (As := []) (rest := []) ⟨hx, hb, hml, hown, hts⟩ (gx71_X13_thrown l hlt dC dI _ m0 md ml mch fs_9 h_m0) (cwV 0 hts (gi_V wd_3015 wd_3016 wd_3017 wd_340 wd_3018) rfl rfl rfl (by decide +kernel) ⟨(Nat.le_of_ble_eq_true rfl), (Nat.le_of_ble_eq_true rfl)⟩) ⟨fun a U g mk q => by obtain ⟨q0, q1, qP, qK, qD, qT⟩ := q; exact ⟨q0, q1, qP, va_K.moved (u := U) (U := U.calling g mk a) (Vm.Alike.refl U.vm) qK, qD, th.moved (u := U) (U := U.calling g mk a) (Vm.Alike.refl U.vm) qT⟩, va_recv hKc hPc (ci := 13) (q0 := 0) rfl rfl, fun U hU hW => ⟨rfl, by rw [hU], by rw [hU]; exact hPc, va_K.moved hW.alike hKc, hDc.weaken (fun _ _ _ _ => trivial), by rw [hU]; exact ((hth.kept hS.2.1).narrow hFc).moved hW.alike⟩⟩ rfl rfl hl.1 rfl (lv_room (Nat.le_of_ble_eq_true rfl)) dL_law_599 ⟨(Nat.le_of_ble_eq_true rfl), (Nat.le_of_ble_eq_true rfl)⟩) hS (fun q _ h => hFc q h) hFc (fun r u t H1 locs ht hvm hw hB hz1 hk1 hS => ?_)
  subst hw
  obtain ⟨fs_10, h_m0, hP1, hK1, hD1⟩ := hB
  rw [ht] at hP1
  obtain ⟨hP, hD⟩ := va_join (wr := [(x, .inr (12, fs_1)), (deA, .inl (deAC, (6, .inr (.inr (.inr (.inr deAF)))))), (de0, .inr (3, fs_2)), (de1, .inr (3, fs_3)), (de2, .inr (3, fs_4)), (de3, .inr (3, fs_5)), (de4, .inr (3, fs_6)), (de5, .inr (3, fs_7)), (md, .inl (mdC, (6, .inl (fun _ => 0)))), (oA, .inl (oAC, (1, .inr (.inl f_8))))]) (w1 := [(m0, .inr (13, fs_10))]) hP hD [8] [0, 1, 2, 3, 4, 5, 6, 7, 9, 10] rfl rfl (by decide) (by decide) hk1 hFc hP1 hD1
  have hP := hP.sub (ws' := [(x, .inr (12, fs_1)), (deA, .inl (deAC, (6, .inr (.inr (.inr (.inr deAF)))))), (de0, .inr (3, fs_2)), (de1, .inr (3, fs_3)), (de2, .inr (3, fs_4)), (de3, .inr (3, fs_5)), (de4, .inr (3, fs_6)), (de5, .inr (3, fs_7)), (m0, .inr (13, fs_10)), (md, .inl (mdC, (6, .inl (fun _ => 0)))), (oA, .inl (oAC, (1, .inr (.inl f_8))))]) [0, 1, 2, 3, 4, 5, 6, 7, 10, 8, 9] rfl
  have hD := hD.sub (ws' := [(x, .inr (12, fs_1)), (deA, .inl (deAC, (6, .inr (.inr (.inr (.inr deAF)))))), (de0, .inr (3, fs_2)), (de1, .inr (3, fs_3)), (de2, .inr (3, fs_4)), (de3, .inr (3, fs_5)), (de4, .inr (3, fs_6)), (de5, .inr (3, fs_7)), (m0, .inr (13, fs_10)), (md, .inl (mdC, (6, .inl (fun _ => 0)))), (oA, .inl (oAC, (1, .inr (.inl f_8))))]) [0, 1, 2, 3, 4, 5, 6, 7, 10, 8, 9] (by decide) rfl
  generalize H1 = H at hP hS ⊢
  have hP : va_P (dC, dI) CL [(x, .inr (12, fs_1)), (deA, .inl (deAC, (6, .inr (.inr (.inr (.inr deAF)))))), (de0, .inr (3, fs_2)), (de1, .inr (3, fs_3)), (de2, .inr (3, fs_4)), (de3, .inr (3, fs_5)), (de4, .inr (3, fs_6)), (de5, .inr (3, fs_7)), (m0, .inr (13, fs_10)), (md, .inl (mdC, (6, .inl (fun _ => 0)))), (oA, .inl (oAC, (1, .inr (.inl f_8))))] H := hP
  have hD : va_D A [(x, .inr (12, fs_1)), (deA, .inl (deAC, (6, .inr (.inr (.inr (.inr deAF)))))), (de0, .inr (3, fs_2)), (de1, .inr (3, fs_3)), (de2, .inr (3, fs_4)), (de3, .inr (3, fs_5)), (de4, .inr (3, fs_6)), (de5, .inr (3, fs_7)), (m0, .inr (13, fs_10)), (md, .inl (mdC, (6, .inl (fun _ => 0)))), (oA, .inl (oAC, (1, .inr (.inl f_8))))] := hD
  refine lv_iload hx hb dL_law_602 (lv_at hl 1 rfl) ?_
  refine lv_icmp_eq (tgt := 609) hx hb dL_law_604 (by decide) (fun c9 => ?_) (fun c9 => ?_)
  rotate_left
  · first | exact absurd c9 (by decide +kernel) | exact absurd (by decide +kernel) c9
  refine lv_iload hx hb dL_law_609 (lv_at hl 1 rfl) ?_
  refine lv_if_ne (tgt := 633) hx hb dL_law_611 (by decide) (fun c9 => ?_) (fun c9 => ?_)
  · first | exact absurd c9 (by decide +kernel) | exact absurd (by decide +kernel) c9
  refine lv_aload_n hx hb dL_law_614 rfl (lv_at hl 5 rfl) ?_
  refine lv_iconst (v := 0) hx hb dL_law_615 (by decide +kernel) ?_
  refine va_lald hx hb hK hP 10 2 rfl rfl (vp_in_nI (n := 0) (N := 1) (by decide) (by decide)) dL_law_616 ?_
  refine lv_topl (fun v9 e9 => ?_)
  obtain rfl : v9 = 0 := e9.trans ((congrArg f_8 (by decide +kernel : (0 : Int32).toNatClampNeg = 0)).trans (h_oA.get 0 rfl))
  refine lv_iload hx hb dL_law_617 (lv_at hl 0 rfl) ?_
  refine lv_if_eq (tgt := 626) hx hb dL_law_619 (by decide) (fun c9 => ?_) (fun c9 => ?_)
  rotate_left
  · first | exact absurd c9 (by decide +kernel) | exact absurd (by decide +kernel) c9
  refine lv_lconst (v := 0) hx hb dL_law_626 (by decide) ?_
  refine hc_lcmpE hx hb dL_law_627 ?_
  refine lv_if_eq (tgt := 633) hx hb dL_law_628 (by decide) (fun c9 => ?_) (fun c9 => ?_)
  rotate_left
  · first | exact absurd c9 (by decide +kernel) | exact absurd (by decide +kernel) c9
  refine lv_goto (tgt := 4099) hx hb dL_law_633 (by decide) ?_
  refine W.widen (k := 470) (n := 2709300) (Nat.le_of_ble_eq_true rfl) (Nat.le_of_ble_eq_true rfl) ?_
  rw [eA] at hS
  exact law_tail (v5 := 0) (v6 := 0) (lv := []) C0 hS (lv_sub hl [2, 6] rfl)
set_option maxHeartbeats 4000000 in
set_option maxRecDepth 100000 in
theorem law_isThere_0k4 {p : Program} {l : Launch} {e : Env} {s : State} {m : MethodId} {below : List Frame} {meth : Method} {c : Code} {b : Nat} {xs : Nat → Int32} (C0 : lw_At p s m meth c b 7 xs) {dC : Nat → ClassId} {dI : Nat → Nat → Nat} (hlt : l.stackTraces = false) (hth : th (fun q : Nat => s.heap.size ≤ q) s s.heap) (q0 : (xs ((0 : Int32) + 1).toNatClampNeg) = 0) (q1 : (xs ((0 : Int32) + 2).toNatClampNeg) = 4) (x deA de0 de1 de2 de3 de4 de5 m0 md oA liA chA ml mch : Nat) (xg : List Value) (h_x : fx xg 17 [(7, .ref deA), (8, .ref liA), (9, .ref chA)]) (deAC : ClassId) (deAF : Nat → Option Nat) (de0g : List Value) (h_de0 : fx de0g 16 [(0, .int 0)]) (de1g : List Value) (h_de1 : fx de1g 16 [(0, .int 0)]) (de2g : List Value) (h_de2 : fx de2g 16 [(0, .int 0)]) (de3g : List Value) (h_de3 : fx de3g 16 [(0, .int 0)]) (de4g : List Value) (h_de4 : fx de4g 16 [(0, .int 0)]) (de5g : List Value) (h_de5 : fx de5g 16 [(0, .int 0)]) (m0g : List Value) (h_m0 : fx m0g 225 [(0, .int 0), (2, .int 0), (3, .int 0), (9, .int 0), (10, .int 0), (11, .int 0), (12, .int 0), (27, .int 0), (55, .ref md), (79, .int 0), (83, .int 0), (88, .ref ml), (95, .int 0), (138, .ref mch)]) (mdC : ClassId) (oAC : ClassId) (oAf : Nat → Int64) (h_oA : fa oAf []) (h_deA0 : deAF 0 = some de0) (h_deA1 : deAF 1 = some de1) (h_deA2 : deAF 2 = some de2) (h_deA3 : deAF 3 = some de3) (h_deA4 : deAF 4 = some de4) (h_deA5 : deAF 5 = some de5) (H : Heap) (locs : List Loc) (hK : va_K (dC, dI) CL [(deAC, .object "ChipFlow$Design"), (mdC, .boolean), (oAC, .long)] s) (hP : va_P (dC, dI) CL [(x, .inr (12, xg)), (deA, .inl (deAC, (6, .inr (.inr (.inr (.inr deAF)))))), (de0, .inr (3, de0g)), (de1, .inr (3, de1g)), (de2, .inr (3, de2g)), (de3, .inr (3, de3g)), (de4, .inr (3, de4g)), (de5, .inr (3, de5g)), (m0, .inr (13, m0g)), (md, .inl (mdC, (6, .inl (fun _ => 0)))), (oA, .inl (oAC, (1, .inr (.inl oAf))))] H) (hD : va_D (fun q : Nat => s.heap.size ≤ q) [(x, .inr (12, xg)), (deA, .inl (deAC, (6, .inr (.inr (.inr (.inr deAF)))))), (de0, .inr (3, de0g)), (de1, .inr (3, de1g)), (de2, .inr (3, de2g)), (de3, .inr (3, de3g)), (de4, .inr (3, de4g)), (de5, .inr (3, de5g)), (m0, .inr (13, m0g)), (md, .inl (mdC, (6, .inl (fun _ => 0)))), (oA, .inl (oAC, (1, .inr (.inl oAf))))]) (hS : va_S (fun q : Nat => s.heap.size ≤ q) s.heap H locs) (ls : Array Slot) (hl : lv_has ls 7 [(0, .ref b), (1, .ref x), (2, .ref m0), (3, .ref oA), (4, .int 0)]) : W p l e room_1 s m #[Value.ref b] below meth c H locs 451 2709142 (lw_Z below #[Value.ref b] s) (F0 m 561 ls []) := by
  obtain ⟨hx, hb, hr, hml, hown, hts0, hX, hbl, hlocks, hgv⟩ := id C0
  have hts : ∀ w ∈ BG, w.before _ s = true := fun w h => hts0 w (List.mem_filter.mp h).1
  have hown : s.vm.findClass RL = some m.cls := hown
  obtain ⟨A, eA⟩ : ∃ z : Nat → Prop, z = (fun q : Nat => s.heap.size ≤ q) := ⟨_, rfl⟩
  rw [← eA] at hth hD hS
  have hA : ∀ q : Nat, s.heap.size ≤ q → A q := fun q h => by rw [eA]; exact h
  have hbA : ¬ A b := by rw [eA]; exact Nat.not_le.mpr hbl
  refine lv_aload_n hx hb dL_law_561 rfl (lv_at hl 1 rfl) ?_
  refine lv_aload_n hx hb dL_law_562 rfl (lv_at hl 0 rfl) ?_
  refine lv_iload hx hb dL_law_563 (lv_at hl 4 rfl) ?_
  refine lv_iconst (v := 1) hx hb dL_law_565 (by decide +kernel) ?_
  refine lv_iadd hx hb dL_law_566 ?_
  refine va_sld hx hb hX hbl hbA hS vi_1 dL_law_567 ?_
  refine lv_topi (fun v9 e9 => ?_)
  obtain rfl : v9 = 0 := e9.trans q0
  refine lv_aload_n hx hb dL_law_568 rfl (lv_at hl 0 rfl) ?_
  refine lv_iload hx hb dL_law_569 (lv_at hl 4 rfl) ?_
  refine lv_iconst (v := 2) hx hb dL_law_571 (by decide +kernel) ?_
  refine lv_iadd hx hb dL_law_572 ?_
  refine va_sld hx hb hX hbl hbA hS vi_2 dL_law_573 ?_
  refine lv_topi (fun v9 e9 => ?_)
  obtain rfl : v9 = 4 := e9.trans q1
  refine lv_aload_n hx hb dL_law_574 rfl (lv_at hl 3 rfl) ?_
  have hPc := hP.sub (ws' := [(x, .inr (12, xg)), (deA, .inl (deAC, (6, .inr (.inr (.inr (.inr deAF)))))), (de0, .inr (3, de0g)), (de1, .inr (3, de1g)), (de2, .inr (3, de2g)), (de3, .inr (3, de3g)), (de4, .inr (3, de4g)), (de5, .inr (3, de5g)), (oA, .inl (oAC, (1, .inr (.inl oAf))))]) [0, 1, 2, 3, 4, 5, 6, 7, 10] rfl
  have hDc := hD.sub (ws' := [(x, .inr (12, xg)), (deA, .inl (deAC, (6, .inr (.inr (.inr (.inr deAF)))))), (de0, .inr (3, de0g)), (de1, .inr (3, de1g)), (de2, .inr (3, de2g)), (de3, .inr (3, de3g)), (de4, .inr (3, de4g)), (de5, .inr (3, de5g)), (oA, .inl (oAC, (1, .inr (.inl oAf))))]) [0, 1, 2, 3, 4, 5, 6, 7, 10] (by decide) rfl
  have hKc := hK.sub (tys' := [(deAC, .object "ChipFlow$Design"), (oAC, .long)]) [0, 2] rfl
  have hFc := va_free (wc := [(x, .inr (12, xg)), (deA, .inl (deAC, (6, .inr (.inr (.inr (.inr deAF)))))), (de0, .inr (3, de0g)), (de1, .inr (3, de1g)), (de2, .inr (3, de2g)), (de3, .inr (3, de3g)), (de4, .inr (3, de4g)), (de5, .inr (3, de5g)), (oA, .inl (oAC, (1, .inr (.inl oAf))))]) hD hS hA [0, 1, 2, 3, 4, 5, 6, 7, 10] rfl
  refine va_calli (vx_runSW (As := [.ref x, .int 0, .int 4, .ref oA]) (rest := []) ⟨hx, hb, hml, hown, hts⟩ (gx92_L_isThere l hlt dC dI _ x deA de0 de1 de2 de3 de4 de5 oA liA chA xg h_x deAC deAF de0g h_de0 de1g h_de1 de2g h_de2 de3g h_de3 de4g h_de4 de5g h_de5 oAC oAf h_oA h_deA0 h_deA1 h_deA2 h_deA3 h_deA4 h_deA5) (vx_cwSW 4 hts (gi_W wd_1839 wd_1840 wd_326 wd_1841) rfl rfl rfl (by decide +kernel) ⟨(Nat.le_of_ble_eq_true rfl), (Nat.le_of_ble_eq_true rfl)⟩) ⟨fun a U g mk q => by obtain ⟨q0, q1, qP, qK, qD, qT⟩ := q; exact ⟨q0, q1, qP, va_K.moved (u := U) (U := U.calling g mk a) (Vm.Alike.refl U.vm) qK, qD, th.moved (u := U) (U := U.calling g mk a) (Vm.Alike.refl U.vm) qT⟩, fun U hU hW => ⟨rfl, by rw [hU], by rw [hU]; exact hPc, va_K.moved hW.alike hKc, hDc.weaken (fun _ _ _ _ => trivial), by rw [hU]; exact ((hth.kept hS.2.1).narrow hFc).moved hW.alike⟩⟩ rfl rfl hl.1 rfl (lv_room (Nat.le_of_ble_eq_true rfl)) dL_law_575 ⟨(Nat.le_of_ble_eq_true rfl), (Nat.le_of_ble_eq_true rfl)⟩) hS (fun q _ h => hFc q h) hFc (fun r u t H1 locs ht hvm hw hB hz1 hk1 hS => ?_)
  subst hw
  obtain ⟨fs_1, fs_2, fs_3, fs_4, fs_5, fs_6, fs_7, f_8, h_x, h_de0, h_de1, h_de2, h_de3, h_de4, h_de5, h_oA, hP1, hK1, hD1⟩ := hB
  rw [ht] at hP1
  obtain ⟨hP, hD⟩ := va_join (wr := [(m0, .inr (13, m0g)), (md, .inl (mdC, (6, .inl (fun _ => 0))))]) (w1 := [(x, .inr (12, fs_1)), (deA, .inl (deAC, (6, .inr (.inr (.inr (.inr deAF)))))), (de0, .inr (3, fs_2)), (de1, .inr (3, fs_3)), (de2, .inr (3, fs_4)), (de3, .inr (3, fs_5)), (de4, .inr (3, fs_6)), (de5, .inr (3, fs_7)), (oA, .inl (oAC, (1, .inr (.inl f_8))))]) hP hD [0, 1, 2, 3, 4, 5, 6, 7, 10] [8, 9] rfl rfl (by decide) (by decide) hk1 hFc hP1 hD1
  have hP := hP.sub (ws' := [(x, .inr (12, fs_1)), (deA, .inl (deAC, (6, .inr (.inr (.inr (.inr deAF)))))), (de0, .inr (3, fs_2)), (de1, .inr (3, fs_3)), (de2, .inr (3, fs_4)), (de3, .inr (3, fs_5)), (de4, .inr (3, fs_6)), (de5, .inr (3, fs_7)), (m0, .inr (13, m0g)), (md, .inl (mdC, (6, .inl (fun _ => 0)))), (oA, .inl (oAC, (1, .inr (.inl f_8))))]) [2, 3, 4, 5, 6, 7, 8, 9, 0, 1, 10] rfl
  have hD := hD.sub (ws' := [(x, .inr (12, fs_1)), (deA, .inl (deAC, (6, .inr (.inr (.inr (.inr deAF)))))), (de0, .inr (3, fs_2)), (de1, .inr (3, fs_3)), (de2, .inr (3, fs_4)), (de3, .inr (3, fs_5)), (de4, .inr (3, fs_6)), (de5, .inr (3, fs_7)), (m0, .inr (13, m0g)), (md, .inl (mdC, (6, .inl (fun _ => 0)))), (oA, .inl (oAC, (1, .inr (.inl f_8))))]) [2, 3, 4, 5, 6, 7, 8, 9, 0, 1, 10] (by decide) rfl
  generalize H1 = H at hP hS ⊢
  have hP : va_P (dC, dI) CL [(x, .inr (12, fs_1)), (deA, .inl (deAC, (6, .inr (.inr (.inr (.inr deAF)))))), (de0, .inr (3, fs_2)), (de1, .inr (3, fs_3)), (de2, .inr (3, fs_4)), (de3, .inr (3, fs_5)), (de4, .inr (3, fs_6)), (de5, .inr (3, fs_7)), (m0, .inr (13, m0g)), (md, .inl (mdC, (6, .inl (fun _ => 0)))), (oA, .inl (oAC, (1, .inr (.inl f_8))))] H := hP
  have hD : va_D A [(x, .inr (12, fs_1)), (deA, .inl (deAC, (6, .inr (.inr (.inr (.inr deAF)))))), (de0, .inr (3, fs_2)), (de1, .inr (3, fs_3)), (de2, .inr (3, fs_4)), (de3, .inr (3, fs_5)), (de4, .inr (3, fs_6)), (de5, .inr (3, fs_7)), (m0, .inr (13, m0g)), (md, .inl (mdC, (6, .inl (fun _ => 0)))), (oA, .inl (oAC, (1, .inr (.inl f_8))))] := hD
  refine W.widen (k := 452) (n := 2709148) (Nat.le_of_ble_eq_true rfl) (Nat.le_of_ble_eq_true rfl) ?_
  refine lv_istore (lv' := [(5, .int 0), (0, .ref b), (1, .ref x), (2, .ref m0), (3, .ref oA), (4, .int 0)]) hx hb dL_law_578 hl (by decide) rfl (fun ls hl => ?_)
  refine lv_aload_n hx hb dL_law_580 rfl (lv_at hl 3 rfl) ?_
  refine lv_aload_n hx hb dL_law_581 rfl (lv_at hl 1 rfl) ?_
  refine lv_iload hx hb dL_law_582 (lv_at hl 5 rfl) ?_
  refine lv_iconst (v := 1) hx hb dL_law_584 (by decide +kernel) ?_
  refine lv_iadd hx hb dL_law_585 ?_
  refine va_sld hx hb hX hbl hbA hS vi_1 dL_law_586 ?_
  refine lv_topi (fun v9 e9 => ?_)
  obtain rfl : v9 = 0 := e9.trans q0
  refine lv_aload_n hx hb dL_law_587 rfl (lv_at hl 1 rfl) ?_
  refine lv_iload hx hb dL_law_588 (lv_at hl 5 rfl) ?_
  refine lv_iconst (v := 2) hx hb dL_law_590 (by decide +kernel) ?_
  refine lv_iadd hx hb dL_law_591 ?_
  refine va_sld hx hb hX hbl hbA hS vi_2 dL_law_592 ?_
  refine lv_topi (fun v9 e9 => ?_)
  obtain rfl : v9 = 4 := e9.trans q1
  have hPc := hP.sub (ws' := [(m0, .inr (13, m0g)), (md, .inl (mdC, (6, .inl (fun _ => 0))))]) [8, 9] rfl
  have hDc := hD.sub (ws' := [(m0, .inr (13, m0g)), (md, .inl (mdC, (6, .inl (fun _ => 0))))]) [8, 9] (by decide) rfl
  have hKc := hK.sub (tys' := [(mdC, .boolean)]) [1] rfl
  have hFc := va_free (wc := [(m0, .inr (13, m0g)), (md, .inl (mdC, (6, .inl (fun _ => 0))))]) hD hS hA [8, 9] rfl
  refine va_calli (va_runV (As := [.int 0, .int 4]) (rest := []) ⟨hx, hb, hml, hown, hts⟩ (gx94_X13_isThere l hlt dC dI _ m0 md ml mch m0g h_m0 mdC) (cwV 2 hts (gi_V wd_4088 wd_4089 wd_4090 wd_340 wd_4091) rfl rfl rfl (by decide +kernel) ⟨(Nat.le_of_ble_eq_true rfl), (Nat.le_of_ble_eq_true rfl)⟩) ⟨fun a U g mk q => by obtain ⟨q0, q1, qP, qK, qD, qT⟩ := q; exact ⟨q0, q1, qP, va_K.moved (u := U) (U := U.calling g mk a) (Vm.Alike.refl U.vm) qK, qD, th.moved (u := U) (U := U.calling g mk a) (Vm.Alike.refl U.vm) qT⟩, va_recv hKc hPc (ci := 13) (q0 := 0) rfl rfl, fun U hU hW => ⟨rfl, by rw [hU], by rw [hU]; exact hPc, va_K.moved hW.alike hKc, hDc.weaken (fun _ _ _ _ => trivial), by rw [hU]; exact ((hth.kept hS.2.1).narrow hFc).moved hW.alike⟩⟩ rfl rfl hl.1 rfl (lv_room (Nat.le_of_ble_eq_true rfl)) dL_law_593 ⟨(Nat.le_of_ble_eq_true rfl), (Nat.le_of_ble_eq_true rfl)⟩) hS (fun q _ h => hFc q h) hFc (fun r u t H1 locs ht hvm hw hB hz1 hk1 hS => ?_)
  subst hw
  obtain ⟨fs_9, h_m0, hP1, hK1, hD1⟩ := hB
  rw [ht] at hP1
  obtain ⟨hP, hD⟩ := va_join (wr := [(x, .inr (12, fs_1)), (deA, .inl (deAC, (6, .inr (.inr (.inr (.inr deAF)))))), (de0, .inr (3, fs_2)), (de1, .inr (3, fs_3)), (de2, .inr (3, fs_4)), (de3, .inr (3, fs_5)), (de4, .inr (3, fs_6)), (de5, .inr (3, fs_7)), (oA, .inl (oAC, (1, .inr (.inl f_8))))]) (w1 := [(m0, .inr (13, fs_9)), (md, .inl (mdC, (6, .inl (fun _ => 0))))]) hP hD [8, 9] [0, 1, 2, 3, 4, 5, 6, 7, 10] rfl rfl (by decide) (by decide) hk1 hFc hP1 hD1
  have hP := hP.sub (ws' := [(x, .inr (12, fs_1)), (deA, .inl (deAC, (6, .inr (.inr (.inr (.inr deAF)))))), (de0, .inr (3, fs_2)), (de1, .inr (3, fs_3)), (de2, .inr (3, fs_4)), (de3, .inr (3, fs_5)), (de4, .inr (3, fs_6)), (de5, .inr (3, fs_7)), (m0, .inr (13, fs_9)), (md, .inl (mdC, (6, .inl (fun _ => 0)))), (oA, .inl (oAC, (1, .inr (.inl f_8))))]) [0, 1, 2, 3, 4, 5, 6, 7, 9, 10, 8] rfl
  have hD := hD.sub (ws' := [(x, .inr (12, fs_1)), (deA, .inl (deAC, (6, .inr (.inr (.inr (.inr deAF)))))), (de0, .inr (3, fs_2)), (de1, .inr (3, fs_3)), (de2, .inr (3, fs_4)), (de3, .inr (3, fs_5)), (de4, .inr (3, fs_6)), (de5, .inr (3, fs_7)), (m0, .inr (13, fs_9)), (md, .inl (mdC, (6, .inl (fun _ => 0)))), (oA, .inl (oAC, (1, .inr (.inl f_8))))]) [0, 1, 2, 3, 4, 5, 6, 7, 9, 10, 8] (by decide) rfl
  generalize H1 = H at hP hS ⊢
  have hP : va_P (dC, dI) CL [(x, .inr (12, fs_1)), (deA, .inl (deAC, (6, .inr (.inr (.inr (.inr deAF)))))), (de0, .inr (3, fs_2)), (de1, .inr (3, fs_3)), (de2, .inr (3, fs_4)), (de3, .inr (3, fs_5)), (de4, .inr (3, fs_6)), (de5, .inr (3, fs_7)), (m0, .inr (13, fs_9)), (md, .inl (mdC, (6, .inl (fun _ => 0)))), (oA, .inl (oAC, (1, .inr (.inl f_8))))] H := hP
  have hD : va_D A [(x, .inr (12, fs_1)), (deA, .inl (deAC, (6, .inr (.inr (.inr (.inr deAF)))))), (de0, .inr (3, fs_2)), (de1, .inr (3, fs_3)), (de2, .inr (3, fs_4)), (de3, .inr (3, fs_5)), (de4, .inr (3, fs_6)), (de5, .inr (3, fs_7)), (m0, .inr (13, fs_9)), (md, .inl (mdC, (6, .inl (fun _ => 0)))), (oA, .inl (oAC, (1, .inr (.inl f_8))))] := hD
  refine lv_istore (lv' := [(6, .int 0), (5, .int 0), (0, .ref b), (1, .ref x), (2, .ref m0), (3, .ref oA), (4, .int 0)]) hx hb dL_law_596 hl (by decide) rfl (fun ls hl => ?_)
  refine lv_aload_n hx hb dL_law_598 rfl (lv_at hl 4 rfl) ?_
  have hPc := hP.sub (ws' := [(m0, .inr (13, fs_9))]) [8] rfl
  have hDc := hD.sub (ws' := [(m0, .inr (13, fs_9))]) [8] (by decide) rfl
  have hKc := hK.sub (tys' := []) [] rfl
  have hFc := va_free (wc := [(m0, .inr (13, fs_9))]) hD hS hA [8] rfl
  refine va_calli (va_runV (As := []) (rest := []) ⟨hx, hb, hml, hown, hts⟩ (gx71_X13_thrown l hlt dC dI _ m0 md ml mch fs_9 h_m0) (cwV 0 hts (gi_V wd_3015 wd_3016 wd_3017 wd_340 wd_3018) rfl rfl rfl (by decide +kernel) ⟨(Nat.le_of_ble_eq_true rfl), (Nat.le_of_ble_eq_true rfl)⟩) ⟨fun a U g mk q => by obtain ⟨q0, q1, qP, qK, qD, qT⟩ := q; exact ⟨q0, q1, qP, va_K.moved (u := U) (U := U.calling g mk a) (Vm.Alike.refl U.vm) qK, qD, th.moved (u := U) (U := U.calling g mk a) (Vm.Alike.refl U.vm) qT⟩, va_recv hKc hPc (ci := 13) (q0 := 0) rfl rfl, fun U hU hW => ⟨rfl, by rw [hU], by rw [hU]; exact hPc, va_K.moved hW.alike hKc, hDc.weaken (fun _ _ _ _ => trivial), by rw [hU]; exact ((hth.kept hS.2.1).narrow hFc).moved hW.alike⟩⟩ rfl rfl hl.1 rfl (lv_room (Nat.le_of_ble_eq_true rfl)) dL_law_599 ⟨(Nat.le_of_ble_eq_true rfl), (Nat.le_of_ble_eq_true rfl)⟩) hS (fun q _ h => hFc q h) hFc (fun r u t H1 locs ht hvm hw hB hz1 hk1 hS => ?_)
  subst hw
  obtain ⟨fs_10, h_m0, hP1, hK1, hD1⟩ := hB
  rw [ht] at hP1
  obtain ⟨hP, hD⟩ := va_join (wr := [(x, .inr (12, fs_1)), (deA, .inl (deAC, (6, .inr (.inr (.inr (.inr deAF)))))), (de0, .inr (3, fs_2)), (de1, .inr (3, fs_3)), (de2, .inr (3, fs_4)), (de3, .inr (3, fs_5)), (de4, .inr (3, fs_6)), (de5, .inr (3, fs_7)), (md, .inl (mdC, (6, .inl (fun _ => 0)))), (oA, .inl (oAC, (1, .inr (.inl f_8))))]) (w1 := [(m0, .inr (13, fs_10))]) hP hD [8] [0, 1, 2, 3, 4, 5, 6, 7, 9, 10] rfl rfl (by decide) (by decide) hk1 hFc hP1 hD1
  have hP := hP.sub (ws' := [(x, .inr (12, fs_1)), (deA, .inl (deAC, (6, .inr (.inr (.inr (.inr deAF)))))), (de0, .inr (3, fs_2)), (de1, .inr (3, fs_3)), (de2, .inr (3, fs_4)), (de3, .inr (3, fs_5)), (de4, .inr (3, fs_6)), (de5, .inr (3, fs_7)), (m0, .inr (13, fs_10)), (md, .inl (mdC, (6, .inl (fun _ => 0)))), (oA, .inl (oAC, (1, .inr (.inl f_8))))]) [0, 1, 2, 3, 4, 5, 6, 7, 10, 8, 9] rfl
  have hD := hD.sub (ws' := [(x, .inr (12, fs_1)), (deA, .inl (deAC, (6, .inr (.inr (.inr (.inr deAF)))))), (de0, .inr (3, fs_2)), (de1, .inr (3, fs_3)), (de2, .inr (3, fs_4)), (de3, .inr (3, fs_5)), (de4, .inr (3, fs_6)), (de5, .inr (3, fs_7)), (m0, .inr (13, fs_10)), (md, .inl (mdC, (6, .inl (fun _ => 0)))), (oA, .inl (oAC, (1, .inr (.inl f_8))))]) [0, 1, 2, 3, 4, 5, 6, 7, 10, 8, 9] (by decide) rfl
  generalize H1 = H at hP hS ⊢
  have hP : va_P (dC, dI) CL [(x, .inr (12, fs_1)), (deA, .inl (deAC, (6, .inr (.inr (.inr (.inr deAF)))))), (de0, .inr (3, fs_2)), (de1, .inr (3, fs_3)), (de2, .inr (3, fs_4)), (de3, .inr (3, fs_5)), (de4, .inr (3, fs_6)), (de5, .inr (3, fs_7)), (m0, .inr (13, fs_10)), (md, .inl (mdC, (6, .inl (fun _ => 0)))), (oA, .inl (oAC, (1, .inr (.inl f_8))))] H := hP
  have hD : va_D A [(x, .inr (12, fs_1)), (deA, .inl (deAC, (6, .inr (.inr (.inr (.inr deAF)))))), (de0, .inr (3, fs_2)), (de1, .inr (3, fs_3)), (de2, .inr (3, fs_4)), (de3, .inr (3, fs_5)), (de4, .inr (3, fs_6)), (de5, .inr (3, fs_7)), (m0, .inr (13, fs_10)), (md, .inl (mdC, (6, .inl (fun _ => 0)))), (oA, .inl (oAC, (1, .inr (.inl f_8))))] := hD
  refine lv_iload hx hb dL_law_602 (lv_at hl 1 rfl) ?_
  refine lv_icmp_eq (tgt := 609) hx hb dL_law_604 (by decide) (fun c9 => ?_) (fun c9 => ?_)
  rotate_left
  · first | exact absurd c9 (by decide +kernel) | exact absurd (by decide +kernel) c9
  refine lv_iload hx hb dL_law_609 (lv_at hl 1 rfl) ?_
  refine lv_if_ne (tgt := 633) hx hb dL_law_611 (by decide) (fun c9 => ?_) (fun c9 => ?_)
  · first | exact absurd c9 (by decide +kernel) | exact absurd (by decide +kernel) c9
  refine lv_aload_n hx hb dL_law_614 rfl (lv_at hl 5 rfl) ?_
  refine lv_iconst (v := 0) hx hb dL_law_615 (by decide +kernel) ?_
  refine va_lald hx hb hK hP 10 2 rfl rfl (vp_in_nI (n := 0) (N := 1) (by decide) (by decide)) dL_law_616 ?_
  refine lv_topl (fun v9 e9 => ?_)
  obtain rfl : v9 = 0 := e9.trans ((congrArg f_8 (by decide +kernel : (0 : Int32).toNatClampNeg = 0)).trans (h_oA.get 0 rfl))
  refine lv_iload hx hb dL_law_617 (lv_at hl 0 rfl) ?_
  refine lv_if_eq (tgt := 626) hx hb dL_law_619 (by decide) (fun c9 => ?_) (fun c9 => ?_)
  rotate_left
  · first | exact absurd c9 (by decide +kernel) | exact absurd (by decide +kernel) c9
  refine lv_lconst (v := 0) hx hb dL_law_626 (by decide) ?_
  refine hc_lcmpE hx hb dL_law_627 ?_
  refine lv_if_eq (tgt := 633) hx hb dL_law_628 (by decide) (fun c9 => ?_) (fun c9 => ?_)
  rotate_left
  · first | exact absurd c9 (by decide +kernel) | exact absurd (by decide +kernel) c9
  refine lv_goto (tgt := 4099) hx hb dL_law_633 (by decide) ?_
  refine W.widen (k := 470) (n := 2709300) (Nat.le_of_ble_eq_true rfl) (Nat.le_of_ble_eq_true rfl) ?_
  rw [eA] at hS
  exact law_tail (v5 := 0) (v6 := 0) (lv := []) C0 hS (lv_sub hl [2, 6] rfl)
set_option maxHeartbeats 4000000 in
set_option maxRecDepth 100000 in
theorem law_isThere_0k5 {p : Program} {l : Launch} {e : Env} {s : State} {m : MethodId} {below : List Frame} {meth : Method} {c : Code} {b : Nat} {xs : Nat → Int32} (C0 : lw_At p s m meth c b 7 xs) {dC : Nat → ClassId} {dI : Nat → Nat → Nat} (hlt : l.stackTraces = false) (hth : th (fun q : Nat => s.heap.size ≤ q) s s.heap) (q0 : (xs ((0 : Int32) + 1).toNatClampNeg) = 0) (q1 : (xs ((0 : Int32) + 2).toNatClampNeg) = 5) (x deA de0 de1 de2 de3 de4 de5 m0 md oA liA chA ml mch : Nat) (xg : List Value) (h_x : fx xg 17 [(7, .ref deA), (8, .ref liA), (9, .ref chA)]) (deAC : ClassId) (deAF : Nat → Option Nat) (de0g : List Value) (h_de0 : fx de0g 16 [(0, .int 0)]) (de1g : List Value) (h_de1 : fx de1g 16 [(0, .int 0)]) (de2g : List Value) (h_de2 : fx de2g 16 [(0, .int 0)]) (de3g : List Value) (h_de3 : fx de3g 16 [(0, .int 0)]) (de4g : List Value) (h_de4 : fx de4g 16 [(0, .int 0)]) (de5g : List Value) (h_de5 : fx de5g 16 [(0, .int 0)]) (m0g : List Value) (h_m0 : fx m0g 225 [(0, .int 0), (2, .int 0), (3, .int 0), (9, .int 0), (10, .int 0), (11, .int 0), (12, .int 0), (27, .int 0), (55, .ref md), (79, .int 0), (83, .int 0), (88, .ref ml), (95, .int 0), (138, .ref mch)]) (mdC : ClassId) (oAC : ClassId) (oAf : Nat → Int64) (h_oA : fa oAf []) (h_deA0 : deAF 0 = some de0) (h_deA1 : deAF 1 = some de1) (h_deA2 : deAF 2 = some de2) (h_deA3 : deAF 3 = some de3) (h_deA4 : deAF 4 = some de4) (h_deA5 : deAF 5 = some de5) (H : Heap) (locs : List Loc) (hK : va_K (dC, dI) CL [(deAC, .object "ChipFlow$Design"), (mdC, .boolean), (oAC, .long)] s) (hP : va_P (dC, dI) CL [(x, .inr (12, xg)), (deA, .inl (deAC, (6, .inr (.inr (.inr (.inr deAF)))))), (de0, .inr (3, de0g)), (de1, .inr (3, de1g)), (de2, .inr (3, de2g)), (de3, .inr (3, de3g)), (de4, .inr (3, de4g)), (de5, .inr (3, de5g)), (m0, .inr (13, m0g)), (md, .inl (mdC, (6, .inl (fun _ => 0)))), (oA, .inl (oAC, (1, .inr (.inl oAf))))] H) (hD : va_D (fun q : Nat => s.heap.size ≤ q) [(x, .inr (12, xg)), (deA, .inl (deAC, (6, .inr (.inr (.inr (.inr deAF)))))), (de0, .inr (3, de0g)), (de1, .inr (3, de1g)), (de2, .inr (3, de2g)), (de3, .inr (3, de3g)), (de4, .inr (3, de4g)), (de5, .inr (3, de5g)), (m0, .inr (13, m0g)), (md, .inl (mdC, (6, .inl (fun _ => 0)))), (oA, .inl (oAC, (1, .inr (.inl oAf))))]) (hS : va_S (fun q : Nat => s.heap.size ≤ q) s.heap H locs) (ls : Array Slot) (hl : lv_has ls 7 [(0, .ref b), (1, .ref x), (2, .ref m0), (3, .ref oA), (4, .int 0)]) : W p l e room_1 s m #[Value.ref b] below meth c H locs 451 2709142 (lw_Z below #[Value.ref b] s) (F0 m 561 ls []) := by
  obtain ⟨hx, hb, hr, hml, hown, hts0, hX, hbl, hlocks, hgv⟩ := id C0
  have hts : ∀ w ∈ BG, w.before _ s = true := fun w h => hts0 w (List.mem_filter.mp h).1
  have hown : s.vm.findClass RL = some m.cls := hown
  obtain ⟨A, eA⟩ : ∃ z : Nat → Prop, z = (fun q : Nat => s.heap.size ≤ q) := ⟨_, rfl⟩
  rw [← eA] at hth hD hS
  have hA : ∀ q : Nat, s.heap.size ≤ q → A q := fun q h => by rw [eA]; exact h
  have hbA : ¬ A b := by rw [eA]; exact Nat.not_le.mpr hbl
  refine lv_aload_n hx hb dL_law_561 rfl (lv_at hl 1 rfl) ?_
  refine lv_aload_n hx hb dL_law_562 rfl (lv_at hl 0 rfl) ?_
  refine lv_iload hx hb dL_law_563 (lv_at hl 4 rfl) ?_
  refine lv_iconst (v := 1) hx hb dL_law_565 (by decide +kernel) ?_
  refine lv_iadd hx hb dL_law_566 ?_
  refine va_sld hx hb hX hbl hbA hS vi_1 dL_law_567 ?_
  refine lv_topi (fun v9 e9 => ?_)
  obtain rfl : v9 = 0 := e9.trans q0
  refine lv_aload_n hx hb dL_law_568 rfl (lv_at hl 0 rfl) ?_
  refine lv_iload hx hb dL_law_569 (lv_at hl 4 rfl) ?_
  refine lv_iconst (v := 2) hx hb dL_law_571 (by decide +kernel) ?_
  refine lv_iadd hx hb dL_law_572 ?_
  refine va_sld hx hb hX hbl hbA hS vi_2 dL_law_573 ?_
  refine lv_topi (fun v9 e9 => ?_)
  obtain rfl : v9 = 5 := e9.trans q1
  refine lv_aload_n hx hb dL_law_574 rfl (lv_at hl 3 rfl) ?_
  have hPc := hP.sub (ws' := [(x, .inr (12, xg)), (deA, .inl (deAC, (6, .inr (.inr (.inr (.inr deAF)))))), (de0, .inr (3, de0g)), (de1, .inr (3, de1g)), (de2, .inr (3, de2g)), (de3, .inr (3, de3g)), (de4, .inr (3, de4g)), (de5, .inr (3, de5g)), (oA, .inl (oAC, (1, .inr (.inl oAf))))]) [0, 1, 2, 3, 4, 5, 6, 7, 10] rfl
  have hDc := hD.sub (ws' := [(x, .inr (12, xg)), (deA, .inl (deAC, (6, .inr (.inr (.inr (.inr deAF)))))), (de0, .inr (3, de0g)), (de1, .inr (3, de1g)), (de2, .inr (3, de2g)), (de3, .inr (3, de3g)), (de4, .inr (3, de4g)), (de5, .inr (3, de5g)), (oA, .inl (oAC, (1, .inr (.inl oAf))))]) [0, 1, 2, 3, 4, 5, 6, 7, 10] (by decide) rfl
  have hKc := hK.sub (tys' := [(deAC, .object "ChipFlow$Design"), (oAC, .long)]) [0, 2] rfl
  have hFc := va_free (wc := [(x, .inr (12, xg)), (deA, .inl (deAC, (6, .inr (.inr (.inr (.inr deAF)))))), (de0, .inr (3, de0g)), (de1, .inr (3, de1g)), (de2, .inr (3, de2g)), (de3, .inr (3, de3g)), (de4, .inr (3, de4g)), (de5, .inr (3, de5g)), (oA, .inl (oAC, (1, .inr (.inl oAf))))]) hD hS hA [0, 1, 2, 3, 4, 5, 6, 7, 10] rfl
  refine va_calli (vx_runSW (As := [.ref x, .int 0, .int 5, .ref oA]) (rest := []) ⟨hx, hb, hml, hown, hts⟩ (gx96_L_isThere l hlt dC dI _ x deA de0 de1 de2 de3 de4 de5 oA liA chA xg h_x deAC deAF de0g h_de0 de1g h_de1 de2g h_de2 de3g h_de3 de4g h_de4 de5g h_de5 oAC oAf h_oA h_deA0 h_deA1 h_deA2 h_deA3 h_deA4 h_deA5) (vx_cwSW 4 hts (gi_W wd_1839 wd_1840 wd_326 wd_1841) rfl rfl rfl (by decide +kernel) ⟨(Nat.le_of_ble_eq_true rfl), (Nat.le_of_ble_eq_true rfl)⟩) ⟨fun a U g mk q => by obtain ⟨q0, q1, qP, qK, qD, qT⟩ := q; exact ⟨q0, q1, qP, va_K.moved (u := U) (U := U.calling g mk a) (Vm.Alike.refl U.vm) qK, qD, th.moved (u := U) (U := U.calling g mk a) (Vm.Alike.refl U.vm) qT⟩, fun U hU hW => ⟨rfl, by rw [hU], by rw [hU]; exact hPc, va_K.moved hW.alike hKc, hDc.weaken (fun _ _ _ _ => trivial), by rw [hU]; exact ((hth.kept hS.2.1).narrow hFc).moved hW.alike⟩⟩ rfl rfl hl.1 rfl (lv_room (Nat.le_of_ble_eq_true rfl)) dL_law_575 ⟨(Nat.le_of_ble_eq_true rfl), (Nat.le_of_ble_eq_true rfl)⟩) hS (fun q _ h => hFc q h) hFc (fun r u t H1 locs ht hvm hw hB hz1 hk1 hS => ?_)
  subst hw
  obtain ⟨fs_1, fs_2, fs_3, fs_4, fs_5, fs_6, fs_7, f_8, h_x, h_de0, h_de1, h_de2, h_de3, h_de4, h_de5, h_oA, hP1, hK1, hD1⟩ := hB
  rw [ht] at hP1
  obtain ⟨hP, hD⟩ := va_join (wr := [(m0, .inr (13, m0g)), (md, .inl (mdC, (6, .inl (fun _ => 0))))]) (w1 := [(x, .inr (12, fs_1)), (deA, .inl (deAC, (6, .inr (.inr (.inr (.inr deAF)))))), (de0, .inr (3, fs_2)), (de1, .inr (3, fs_3)), (de2, .inr (3, fs_4)), (de3, .inr (3, fs_5)), (de4, .inr (3, fs_6)), (de5, .inr (3, fs_7)), (oA, .inl (oAC, (1, .inr (.inl f_8))))]) hP hD [0, 1, 2, 3, 4, 5, 6, 7, 10] [8, 9] rfl rfl (by decide) (by decide) hk1 hFc hP1 hD1
  have hP := hP.sub (ws' := [(x, .inr (12, fs_1)), (deA, .inl (deAC, (6, .inr (.inr (.inr (.inr deAF)))))), (de0, .inr (3, fs_2)), (de1, .inr (3, fs_3)), (de2, .inr (3, fs_4)), (de3, .inr (3, fs_5)), (de4, .inr (3, fs_6)), (de5, .inr (3, fs_7)), (m0, .inr (13, m0g)), (md, .inl (mdC, (6, .inl (fun _ => 0)))), (oA, .inl (oAC, (1, .inr (.inl f_8))))]) [2, 3, 4, 5, 6, 7, 8, 9, 0, 1, 10] rfl
  have hD := hD.sub (ws' := [(x, .inr (12, fs_1)), (deA, .inl (deAC, (6, .inr (.inr (.inr (.inr deAF)))))), (de0, .inr (3, fs_2)), (de1, .inr (3, fs_3)), (de2, .inr (3, fs_4)), (de3, .inr (3, fs_5)), (de4, .inr (3, fs_6)), (de5, .inr (3, fs_7)), (m0, .inr (13, m0g)), (md, .inl (mdC, (6, .inl (fun _ => 0)))), (oA, .inl (oAC, (1, .inr (.inl f_8))))]) [2, 3, 4, 5, 6, 7, 8, 9, 0, 1, 10] (by decide) rfl
  generalize H1 = H at hP hS ⊢
  have hP : va_P (dC, dI) CL [(x, .inr (12, fs_1)), (deA, .inl (deAC, (6, .inr (.inr (.inr (.inr deAF)))))), (de0, .inr (3, fs_2)), (de1, .inr (3, fs_3)), (de2, .inr (3, fs_4)), (de3, .inr (3, fs_5)), (de4, .inr (3, fs_6)), (de5, .inr (3, fs_7)), (m0, .inr (13, m0g)), (md, .inl (mdC, (6, .inl (fun _ => 0)))), (oA, .inl (oAC, (1, .inr (.inl f_8))))] H := hP
  have hD : va_D A [(x, .inr (12, fs_1)), (deA, .inl (deAC, (6, .inr (.inr (.inr (.inr deAF)))))), (de0, .inr (3, fs_2)), (de1, .inr (3, fs_3)), (de2, .inr (3, fs_4)), (de3, .inr (3, fs_5)), (de4, .inr (3, fs_6)), (de5, .inr (3, fs_7)), (m0, .inr (13, m0g)), (md, .inl (mdC, (6, .inl (fun _ => 0)))), (oA, .inl (oAC, (1, .inr (.inl f_8))))] := hD
  refine W.widen (k := 452) (n := 2709148) (Nat.le_of_ble_eq_true rfl) (Nat.le_of_ble_eq_true rfl) ?_
  refine lv_istore (lv' := [(5, .int 0), (0, .ref b), (1, .ref x), (2, .ref m0), (3, .ref oA), (4, .int 0)]) hx hb dL_law_578 hl (by decide) rfl (fun ls hl => ?_)
  refine lv_aload_n hx hb dL_law_580 rfl (lv_at hl 3 rfl) ?_
  refine lv_aload_n hx hb dL_law_581 rfl (lv_at hl 1 rfl) ?_
  refine lv_iload hx hb dL_law_582 (lv_at hl 5 rfl) ?_
  refine lv_iconst (v := 1) hx hb dL_law_584 (by decide +kernel) ?_
  refine lv_iadd hx hb dL_law_585 ?_
  refine va_sld hx hb hX hbl hbA hS vi_1 dL_law_586 ?_
  refine lv_topi (fun v9 e9 => ?_)
  obtain rfl : v9 = 0 := e9.trans q0
  refine lv_aload_n hx hb dL_law_587 rfl (lv_at hl 1 rfl) ?_
  refine lv_iload hx hb dL_law_588 (lv_at hl 5 rfl) ?_
  refine lv_iconst (v := 2) hx hb dL_law_590 (by decide +kernel) ?_
  refine lv_iadd hx hb dL_law_591 ?_
  refine va_sld hx hb hX hbl hbA hS vi_2 dL_law_592 ?_
  refine lv_topi (fun v9 e9 => ?_)
  obtain rfl : v9 = 5 := e9.trans q1
  have hPc := hP.sub (ws' := [(m0, .inr (13, m0g)), (md, .inl (mdC, (6, .inl (fun _ => 0))))]) [8, 9] rfl
  have hDc := hD.sub (ws' := [(m0, .inr (13, m0g)), (md, .inl (mdC, (6, .inl (fun _ => 0))))]) [8, 9] (by decide) rfl
  have hKc := hK.sub (tys' := [(mdC, .boolean)]) [1] rfl
  have hFc := va_free (wc := [(m0, .inr (13, m0g)), (md, .inl (mdC, (6, .inl (fun _ => 0))))]) hD hS hA [8, 9] rfl
  refine va_calli (va_runV (As := [.int 0, .int 5]) (rest := []) ⟨hx, hb, hml, hown, hts⟩ (gx98_X13_isThere l hlt dC dI _ m0 md ml mch m0g h_m0 mdC) (cwV 2 hts (gi_V wd_4088 wd_4089 wd_4090 wd_340 wd_4091) rfl rfl rfl (by decide +kernel) ⟨(Nat.le_of_ble_eq_true rfl), (Nat.le_of_ble_eq_true rfl)⟩) ⟨fun a U g mk q => by obtain ⟨q0, q1, qP, qK, qD, qT⟩ := q; exact ⟨q0, q1, qP, va_K.moved (u := U) (U := U.calling g mk a) (Vm.Alike.refl U.vm) qK, qD, th.moved (u := U) (U := U.calling g mk a) (Vm.Alike.refl U.vm) qT⟩, va_recv hKc hPc (ci := 13) (q0 := 0) rfl rfl, fun U hU hW => ⟨rfl, by rw [hU], by rw [hU]; exact hPc, va_K.moved hW.alike hKc, hDc.weaken (fun _ _ _ _ => trivial), by rw [hU]; exact ((hth.kept hS.2.1).narrow hFc).moved hW.alike⟩⟩ rfl rfl hl.1 rfl (lv_room (Nat.le_of_ble_eq_true rfl)) dL_law_593 ⟨(Nat.le_of_ble_eq_true rfl), (Nat.le_of_ble_eq_true rfl)⟩) hS (fun q _ h => hFc q h) hFc (fun r u t H1 locs ht hvm hw hB hz1 hk1 hS => ?_)
  subst hw
  obtain ⟨fs_9, h_m0, hP1, hK1, hD1⟩ := hB
  rw [ht] at hP1
  obtain ⟨hP, hD⟩ := va_join (wr := [(x, .inr (12, fs_1)), (deA, .inl (deAC, (6, .inr (.inr (.inr (.inr deAF)))))), (de0, .inr (3, fs_2)), (de1, .inr (3, fs_3)), (de2, .inr (3, fs_4)), (de3, .inr (3, fs_5)), (de4, .inr (3, fs_6)), (de5, .inr (3, fs_7)), (oA, .inl (oAC, (1, .inr (.inl f_8))))]) (w1 := [(m0, .inr (13, fs_9)), (md, .inl (mdC, (6, .inl (fun _ => 0))))]) hP hD [8, 9] [0, 1, 2, 3, 4, 5, 6, 7, 10] rfl rfl (by decide) (by decide) hk1 hFc hP1 hD1
  have hP := hP.sub (ws' := [(x, .inr (12, fs_1)), (deA, .inl (deAC, (6, .inr (.inr (.inr (.inr deAF)))))), (de0, .inr (3, fs_2)), (de1, .inr (3, fs_3)), (de2, .inr (3, fs_4)), (de3, .inr (3, fs_5)), (de4, .inr (3, fs_6)), (de5, .inr (3, fs_7)), (m0, .inr (13, fs_9)), (md, .inl (mdC, (6, .inl (fun _ => 0)))), (oA, .inl (oAC, (1, .inr (.inl f_8))))]) [0, 1, 2, 3, 4, 5, 6, 7, 9, 10, 8] rfl
  have hD := hD.sub (ws' := [(x, .inr (12, fs_1)), (deA, .inl (deAC, (6, .inr (.inr (.inr (.inr deAF)))))), (de0, .inr (3, fs_2)), (de1, .inr (3, fs_3)), (de2, .inr (3, fs_4)), (de3, .inr (3, fs_5)), (de4, .inr (3, fs_6)), (de5, .inr (3, fs_7)), (m0, .inr (13, fs_9)), (md, .inl (mdC, (6, .inl (fun _ => 0)))), (oA, .inl (oAC, (1, .inr (.inl f_8))))]) [0, 1, 2, 3, 4, 5, 6, 7, 9, 10, 8] (by decide) rfl
  generalize H1 = H at hP hS ⊢
  have hP : va_P (dC, dI) CL [(x, .inr (12, fs_1)), (deA, .inl (deAC, (6, .inr (.inr (.inr (.inr deAF)))))), (de0, .inr (3, fs_2)), (de1, .inr (3, fs_3)), (de2, .inr (3, fs_4)), (de3, .inr (3, fs_5)), (de4, .inr (3, fs_6)), (de5, .inr (3, fs_7)), (m0, .inr (13, fs_9)), (md, .inl (mdC, (6, .inl (fun _ => 0)))), (oA, .inl (oAC, (1, .inr (.inl f_8))))] H := hP
  have hD : va_D A [(x, .inr (12, fs_1)), (deA, .inl (deAC, (6, .inr (.inr (.inr (.inr deAF)))))), (de0, .inr (3, fs_2)), (de1, .inr (3, fs_3)), (de2, .inr (3, fs_4)), (de3, .inr (3, fs_5)), (de4, .inr (3, fs_6)), (de5, .inr (3, fs_7)), (m0, .inr (13, fs_9)), (md, .inl (mdC, (6, .inl (fun _ => 0)))), (oA, .inl (oAC, (1, .inr (.inl f_8))))] := hD
  refine lv_istore (lv' := [(6, .int 0), (5, .int 0), (0, .ref b), (1, .ref x), (2, .ref m0), (3, .ref oA), (4, .int 0)]) hx hb dL_law_596 hl (by decide) rfl (fun ls hl => ?_)
  refine lv_aload_n hx hb dL_law_598 rfl (lv_at hl 4 rfl) ?_
  have hPc := hP.sub (ws' := [(m0, .inr (13, fs_9))]) [8] rfl
  have hDc := hD.sub (ws' := [(m0, .inr (13, fs_9))]) [8] (by decide) rfl
  have hKc := hK.sub (tys' := []) [] rfl
  have hFc := va_free (wc := [(m0, .inr (13, fs_9))]) hD hS hA [8] rfl
  refine va_calli (va_runV (As := []) (rest := []) ⟨hx, hb, hml, hown, hts⟩ (gx71_X13_thrown l hlt dC dI _ m0 md ml mch fs_9 h_m0) (cwV 0 hts (gi_V wd_3015 wd_3016 wd_3017 wd_340 wd_3018) rfl rfl rfl (by decide +kernel) ⟨(Nat.le_of_ble_eq_true rfl), (Nat.le_of_ble_eq_true rfl)⟩) ⟨fun a U g mk q => by obtain ⟨q0, q1, qP, qK, qD, qT⟩ := q; exact ⟨q0, q1, qP, va_K.moved (u := U) (U := U.calling g mk a) (Vm.Alike.refl U.vm) qK, qD, th.moved (u := U) (U := U.calling g mk a) (Vm.Alike.refl U.vm) qT⟩, va_recv hKc hPc (ci := 13) (q0 := 0) rfl rfl, fun U hU hW => ⟨rfl, by rw [hU], by rw [hU]; exact hPc, va_K.moved hW.alike hKc, hDc.weaken (fun _ _ _ _ => trivial), by rw [hU]; exact ((hth.kept hS.2.1).narrow hFc).moved hW.alike⟩⟩ rfl rfl hl.1 rfl (lv_room (Nat.le_of_ble_eq_true rfl)) dL_law_599 ⟨(Nat.le_of_ble_eq_true rfl), (Nat.le_of_ble_eq_true rfl)⟩) hS (fun q _ h => hFc q h) hFc (fun r u t H1 locs ht hvm hw hB hz1 hk1 hS => ?_)
  subst hw
  obtain ⟨fs_10, h_m0, hP1, hK1, hD1⟩ := hB
  rw [ht] at hP1
  obtain ⟨hP, hD⟩ := va_join (wr := [(x, .inr (12, fs_1)), (deA, .inl (deAC, (6, .inr (.inr (.inr (.inr deAF)))))), (de0, .inr (3, fs_2)), (de1, .inr (3, fs_3)), (de2, .inr (3, fs_4)), (de3, .inr (3, fs_5)), (de4, .inr (3, fs_6)), (de5, .inr (3, fs_7)), (md, .inl (mdC, (6, .inl (fun _ => 0)))), (oA, .inl (oAC, (1, .inr (.inl f_8))))]) (w1 := [(m0, .inr (13, fs_10))]) hP hD [8] [0, 1, 2, 3, 4, 5, 6, 7, 9, 10] rfl rfl (by decide) (by decide) hk1 hFc hP1 hD1
  have hP := hP.sub (ws' := [(x, .inr (12, fs_1)), (deA, .inl (deAC, (6, .inr (.inr (.inr (.inr deAF)))))), (de0, .inr (3, fs_2)), (de1, .inr (3, fs_3)), (de2, .inr (3, fs_4)), (de3, .inr (3, fs_5)), (de4, .inr (3, fs_6)), (de5, .inr (3, fs_7)), (m0, .inr (13, fs_10)), (md, .inl (mdC, (6, .inl (fun _ => 0)))), (oA, .inl (oAC, (1, .inr (.inl f_8))))]) [0, 1, 2, 3, 4, 5, 6, 7, 10, 8, 9] rfl
  have hD := hD.sub (ws' := [(x, .inr (12, fs_1)), (deA, .inl (deAC, (6, .inr (.inr (.inr (.inr deAF)))))), (de0, .inr (3, fs_2)), (de1, .inr (3, fs_3)), (de2, .inr (3, fs_4)), (de3, .inr (3, fs_5)), (de4, .inr (3, fs_6)), (de5, .inr (3, fs_7)), (m0, .inr (13, fs_10)), (md, .inl (mdC, (6, .inl (fun _ => 0)))), (oA, .inl (oAC, (1, .inr (.inl f_8))))]) [0, 1, 2, 3, 4, 5, 6, 7, 10, 8, 9] (by decide) rfl
  generalize H1 = H at hP hS ⊢
  have hP : va_P (dC, dI) CL [(x, .inr (12, fs_1)), (deA, .inl (deAC, (6, .inr (.inr (.inr (.inr deAF)))))), (de0, .inr (3, fs_2)), (de1, .inr (3, fs_3)), (de2, .inr (3, fs_4)), (de3, .inr (3, fs_5)), (de4, .inr (3, fs_6)), (de5, .inr (3, fs_7)), (m0, .inr (13, fs_10)), (md, .inl (mdC, (6, .inl (fun _ => 0)))), (oA, .inl (oAC, (1, .inr (.inl f_8))))] H := hP
  have hD : va_D A [(x, .inr (12, fs_1)), (deA, .inl (deAC, (6, .inr (.inr (.inr (.inr deAF)))))), (de0, .inr (3, fs_2)), (de1, .inr (3, fs_3)), (de2, .inr (3, fs_4)), (de3, .inr (3, fs_5)), (de4, .inr (3, fs_6)), (de5, .inr (3, fs_7)), (m0, .inr (13, fs_10)), (md, .inl (mdC, (6, .inl (fun _ => 0)))), (oA, .inl (oAC, (1, .inr (.inl f_8))))] := hD
  refine lv_iload hx hb dL_law_602 (lv_at hl 1 rfl) ?_
  refine lv_icmp_eq (tgt := 609) hx hb dL_law_604 (by decide) (fun c9 => ?_) (fun c9 => ?_)
  rotate_left
  · first | exact absurd c9 (by decide +kernel) | exact absurd (by decide +kernel) c9
  refine lv_iload hx hb dL_law_609 (lv_at hl 1 rfl) ?_
  refine lv_if_ne (tgt := 633) hx hb dL_law_611 (by decide) (fun c9 => ?_) (fun c9 => ?_)
  · first | exact absurd c9 (by decide +kernel) | exact absurd (by decide +kernel) c9
  refine lv_aload_n hx hb dL_law_614 rfl (lv_at hl 5 rfl) ?_
  refine lv_iconst (v := 0) hx hb dL_law_615 (by decide +kernel) ?_
  refine va_lald hx hb hK hP 10 2 rfl rfl (vp_in_nI (n := 0) (N := 1) (by decide) (by decide)) dL_law_616 ?_
  refine lv_topl (fun v9 e9 => ?_)
  obtain rfl : v9 = 0 := e9.trans ((congrArg f_8 (by decide +kernel : (0 : Int32).toNatClampNeg = 0)).trans (h_oA.get 0 rfl))
  refine lv_iload hx hb dL_law_617 (lv_at hl 0 rfl) ?_
  refine lv_if_eq (tgt := 626) hx hb dL_law_619 (by decide) (fun c9 => ?_) (fun c9 => ?_)
  rotate_left
  · first | exact absurd c9 (by decide +kernel) | exact absurd (by decide +kernel) c9
  refine lv_lconst (v := 0) hx hb dL_law_626 (by decide) ?_
  refine hc_lcmpE hx hb dL_law_627 ?_
  refine lv_if_eq (tgt := 633) hx hb dL_law_628 (by decide) (fun c9 => ?_) (fun c9 => ?_)
  rotate_left
  · first | exact absurd c9 (by decide +kernel) | exact absurd (by decide +kernel) c9
  refine lv_goto (tgt := 4099) hx hb dL_law_633 (by decide) ?_
  refine W.widen (k := 470) (n := 2709300) (Nat.le_of_ble_eq_true rfl) (Nat.le_of_ble_eq_true rfl) ?_
  rw [eA] at hS
  exact law_tail (v5 := 0) (v6 := 0) (lv := []) C0 hS (lv_sub hl [2, 6] rfl)
set_option maxHeartbeats 4000000 in
set_option maxRecDepth 100000 in
theorem law_isThere_1lt {p : Program} {l : Launch} {e : Env} {s : State} {m : MethodId} {below : List Frame} {meth : Method} {c : Code} {b : Nat} {xs : Nat → Int32} (C0 : lw_At p s m meth c b 7 xs) {dC : Nat → ClassId} {dI : Nat → Nat → Nat} (hlt : l.stackTraces = false) (hth : th (fun q : Nat => s.heap.size ≤ q) s s.heap) (q0 : (xs ((0 : Int32) + 1).toNatClampNeg) = 1) (p1 : Int32) (q1 : (xs ((0 : Int32) + 2).toNatClampNeg) = p1) (zk : p1 < 0) (x liA li0 li1 li2 m0 ml oA deA chA md mch : Nat) (xg : List Value) (h_x : fx xg 17 [(7, .ref deA), (8, .ref liA), (9, .ref chA)]) (liAC : ClassId) (liAF : Nat → Option Nat) (li0g : List Value) (h_li0 : fx li0g 7 [(0, .int 0)]) (li1g : List Value) (h_li1 : fx li1g 7 [(0, .int 0)]) (li2g : List Value) (h_li2 : fx li2g 7 [(0, .int 0)]) (m0g : List Value) (h_m0 : fx m0g 225 [(0, .int 0), (2, .int 0), (3, .int 0), (9, .int 0), (10, .int 0), (11, .int 0), (12, .int 0), (27, .int 0), (55, .ref md), (79, .int 0), (83, .int 0), (88, .ref ml), (95, .int 0), (138, .ref mch)]) (mlC : ClassId) (oAC : ClassId) (oAf : Nat → Int64) (h_oA : fa oAf []) (h_liA0 : liAF 0 = some li0) (h_liA1 : liAF 1 = some li1) (h_liA2 : liAF 2 = some li2) (H : Heap) (locs : List Loc) (hK : va_K (dC, dI) CL [(liAC, .object "ChipFlow$Library"), (mlC, .boolean), (oAC, .long)] s) (hP : va_P (dC, dI) CL [(x, .inr (12, xg)), (liA, .inl (liAC, (3, .inr (.inr (.inr (.inr liAF)))))), (li0, .inr (5, li0g)), (li1, .inr (5, li1g)), (li2, .inr (5, li2g)), (m0, .inr (13, m0g)), (ml, .inl (mlC, (3, .inl (fun _ => 0)))), (oA, .inl (oAC, (1, .inr (.inl oAf))))] H) (hD : va_D (fun q : Nat => s.heap.size ≤ q) [(x, .inr (12, xg)), (liA, .inl (liAC, (3, .inr (.inr (.inr (.inr liAF)))))), (li0, .inr (5, li0g)), (li1, .inr (5, li1g)), (li2, .inr (5, li2g)), (m0, .inr (13, m0g)), (ml, .inl (mlC, (3, .inl (fun _ => 0)))), (oA, .inl (oAC, (1, .inr (.inl oAf))))]) (hS : va_S (fun q : Nat => s.heap.size ≤ q) s.heap H locs) (ls : Array Slot) (hl : lv_has ls 7 [(0, .ref b), (1, .ref x), (2, .ref m0), (3, .ref oA), (4, .int 0)]) : W p l e room_1 s m #[Value.ref b] below meth c H locs 451 2709142 (lw_Z below #[Value.ref b] s) (F0 m 561 ls []) := by
  obtain ⟨hx, hb, hr, hml, hown, hts0, hX, hbl, hlocks, hgv⟩ := id C0
  have hts : ∀ w ∈ BG, w.before _ s = true := fun w h => hts0 w (List.mem_filter.mp h).1
  have hown : s.vm.findClass RL = some m.cls := hown
  obtain ⟨A, eA⟩ : ∃ z : Nat → Prop, z = (fun q : Nat => s.heap.size ≤ q) := ⟨_, rfl⟩
  rw [← eA] at hth hD hS
  have hA : ∀ q : Nat, s.heap.size ≤ q → A q := fun q h => by rw [eA]; exact h
  have hbA : ¬ A b := by rw [eA]; exact Nat.not_le.mpr hbl
  refine lv_aload_n hx hb dL_law_561 rfl (lv_at hl 1 rfl) ?_
  refine lv_aload_n hx hb dL_law_562 rfl (lv_at hl 0 rfl) ?_
  refine lv_iload hx hb dL_law_563 (lv_at hl 4 rfl) ?_
  refine lv_iconst (v := 1) hx hb dL_law_565 (by decide +kernel) ?_
  refine lv_iadd hx hb dL_law_566 ?_
  refine va_sld hx hb hX hbl hbA hS vi_1 dL_law_567 ?_
  refine lv_topi (fun v9 e9 => ?_)
  obtain rfl : v9 = 1 := e9.trans q0
  refine lv_aload_n hx hb dL_law_568 rfl (lv_at hl 0 rfl) ?_
  refine lv_iload hx hb dL_law_569 (lv_at hl 4 rfl) ?_
  refine lv_iconst (v := 2) hx hb dL_law_571 (by decide +kernel) ?_
  refine lv_iadd hx hb dL_law_572 ?_
  refine va_sld hx hb hX hbl hbA hS vi_2 dL_law_573 ?_
  refine lv_topi (fun v9 e9 => ?_)
  obtain rfl : p1 = v9 := (e9.trans q1).symm
  refine lv_aload_n hx hb dL_law_574 rfl (lv_at hl 3 rfl) ?_
  have hPc := hP.sub (ws' := [(x, .inr (12, xg)), (liA, .inl (liAC, (3, .inr (.inr (.inr (.inr liAF)))))), (li0, .inr (5, li0g)), (li1, .inr (5, li1g)), (li2, .inr (5, li2g)), (oA, .inl (oAC, (1, .inr (.inl oAf))))]) [0, 1, 2, 3, 4, 7] rfl
  have hDc := hD.sub (ws' := [(x, .inr (12, xg)), (liA, .inl (liAC, (3, .inr (.inr (.inr (.inr liAF)))))), (li0, .inr (5, li0g)), (li1, .inr (5, li1g)), (li2, .inr (5, li2g)), (oA, .inl (oAC, (1, .inr (.inl oAf))))]) [0, 1, 2, 3, 4, 7] (by decide) rfl
  have hKc := hK.sub (tys' := [(liAC, .object "ChipFlow$Library"), (oAC, .long)]) [0, 2] rfl
  have hFc := va_free (wc := [(x, .inr (12, xg)), (liA, .inl (liAC, (3, .inr (.inr (.inr (.inr liAF)))))), (li0, .inr (5, li0g)), (li1, .inr (5, li1g)), (li2, .inr (5, li2g)), (oA, .inl (oAC, (1, .inr (.inl oAf))))]) hD hS hA [0, 1, 2, 3, 4, 7] rfl
  refine va_calli (vx_runSW (As := [.ref x, .int 1, .int p1, .ref oA]) (rest := []) ⟨hx, hb, hml, hown, hts⟩ (gx100_L_isThere l hlt dC dI _ p1 x liA li0 li1 li2 oA deA chA xg h_x liAC liAF li0g h_li0 li1g h_li1 li2g h_li2 oAC oAf h_oA h_liA0 h_liA1 h_liA2 zk) (vx_cwSW 4 hts (gi_W wd_1839 wd_1840 wd_326 wd_1841) rfl rfl rfl (by decide +kernel) ⟨(Nat.le_of_ble_eq_true rfl), (Nat.le_of_ble_eq_true rfl)⟩) ⟨fun a U g mk q => by obtain ⟨q0, q1, qP, qK, qD, qT⟩ := q; exact ⟨q0, q1, qP, va_K.moved (u := U) (U := U.calling g mk a) (Vm.Alike.refl U.vm) qK, qD, th.moved (u := U) (U := U.calling g mk a) (Vm.Alike.refl U.vm) qT⟩, fun U hU hW => ⟨rfl, by rw [hU], by rw [hU]; exact hPc, va_K.moved hW.alike hKc, hDc.weaken (fun _ _ _ _ => trivial), by rw [hU]; exact ((hth.kept hS.2.1).narrow hFc).moved hW.alike⟩⟩ rfl rfl hl.1 rfl (lv_room (Nat.le_of_ble_eq_true rfl)) dL_law_575 ⟨(Nat.le_of_ble_eq_true rfl), (Nat.le_of_ble_eq_true rfl)⟩) hS (fun q _ h => hFc q h) hFc (fun r u t H1 locs ht hvm hw hB hz1 hk1 hS => ?_)
  subst hw
  obtain ⟨fs_1, fs_2, fs_3, fs_4, f_5, h_x, h_li0, h_li1, h_li2, h_oA, hP1, hK1, hD1⟩ := hB
  rw [ht] at hP1
  obtain ⟨hP, hD⟩ := va_join (wr := [(m0, .inr (13, m0g)), (ml, .inl (mlC, (3, .inl (fun _ => 0))))]) (w1 := [(x, .inr (12, fs_1)), (liA, .inl (liAC, (3, .inr (.inr (.inr (.inr liAF)))))), (li0, .inr (5, fs_2)), (li1, .inr (5, fs_3)), (li2, .inr (5, fs_4)), (oA, .inl (oAC, (1, .inr (.inl f_5))))]) hP hD [0, 1, 2, 3, 4, 7] [5, 6] rfl rfl (by decide) (by decide) hk1 hFc hP1 hD1
  have hP := hP.sub (ws' := [(x, .inr (12, fs_1)), (liA, .inl (liAC, (3, .inr (.inr (.inr (.inr liAF)))))), (li0, .inr (5, fs_2)), (li1, .inr (5, fs_3)), (li2, .inr (5, fs_4)), (m0, .inr (13, m0g)), (ml, .inl (mlC, (3, .inl (fun _ => 0)))), (oA, .inl (oAC, (1, .inr (.inl f_5))))]) [2, 3, 4, 5, 6, 0, 1, 7] rfl
  have hD := hD.sub (ws' := [(x, .inr (12, fs_1)), (liA, .inl (liAC, (3, .inr (.inr (.inr (.inr liAF)))))), (li0, .inr (5, fs_2)), (li1, .inr (5, fs_3)), (li2, .inr (5, fs_4)), (m0, .inr (13, m0g)), (ml, .inl (mlC, (3, .inl (fun _ => 0)))), (oA, .inl (oAC, (1, .inr (.inl f_5))))]) [2, 3, 4, 5, 6, 0, 1, 7] (by decide) rfl
  generalize H1 = H at hP hS ⊢
  have hP : va_P (dC, dI) CL [(x, .inr (12, fs_1)), (liA, .inl (liAC, (3, .inr (.inr (.inr (.inr liAF)))))), (li0, .inr (5, fs_2)), (li1, .inr (5, fs_3)), (li2, .inr (5, fs_4)), (m0, .inr (13, m0g)), (ml, .inl (mlC, (3, .inl (fun _ => 0)))), (oA, .inl (oAC, (1, .inr (.inl f_5))))] H := hP
  have hD : va_D A [(x, .inr (12, fs_1)), (liA, .inl (liAC, (3, .inr (.inr (.inr (.inr liAF)))))), (li0, .inr (5, fs_2)), (li1, .inr (5, fs_3)), (li2, .inr (5, fs_4)), (m0, .inr (13, m0g)), (ml, .inl (mlC, (3, .inl (fun _ => 0)))), (oA, .inl (oAC, (1, .inr (.inl f_5))))] := hD
  refine W.widen (k := 452) (n := 2709148) (Nat.le_of_ble_eq_true rfl) (Nat.le_of_ble_eq_true rfl) ?_
  refine lv_istore (lv' := [(5, .int 0), (0, .ref b), (1, .ref x), (2, .ref m0), (3, .ref oA), (4, .int 0)]) hx hb dL_law_578 hl (by decide) rfl (fun ls hl => ?_)
  refine lv_aload_n hx hb dL_law_580 rfl (lv_at hl 3 rfl) ?_
  refine lv_aload_n hx hb dL_law_581 rfl (lv_at hl 1 rfl) ?_
  refine lv_iload hx hb dL_law_582 (lv_at hl 5 rfl) ?_
  refine lv_iconst (v := 1) hx hb dL_law_584 (by decide +kernel) ?_
  refine lv_iadd hx hb dL_law_585 ?_
  refine va_sld hx hb hX hbl hbA hS vi_1 dL_law_586 ?_
  refine lv_topi (fun v9 e9 => ?_)
  obtain rfl : v9 = 1 := e9.trans q0
  refine lv_aload_n hx hb dL_law_587 rfl (lv_at hl 1 rfl) ?_
  refine lv_iload hx hb dL_law_588 (lv_at hl 5 rfl) ?_
  refine lv_iconst (v := 2) hx hb dL_law_590 (by decide +kernel) ?_
  refine lv_iadd hx hb dL_law_591 ?_
  refine va_sld hx hb hX hbl hbA hS vi_2 dL_law_592 ?_
  refine lv_topi (fun v9 e9 => ?_)
  obtain rfl : p1 = v9 := (e9.trans q1).symm
  have hPc := hP.sub (ws' := [(m0, .inr (13, m0g)), (ml, .inl (mlC, (3, .inl (fun _ => 0))))]) [5, 6] rfl
  have hDc := hD.sub (ws' := [(m0, .inr (13, m0g)), (ml, .inl (mlC, (3, .inl (fun _ => 0))))]) [5, 6] (by decide) rfl
  have hKc := hK.sub (tys' := [(mlC, .boolean)]) [1] rfl
  have hFc := va_free (wc := [(m0, .inr (13, m0g)), (ml, .inl (mlC, (3, .inl (fun _ => 0))))]) hD hS hA [5, 6] rfl
  refine va_calli (va_runV (As := [.int 1, .int p1]) (rest := []) ⟨hx, hb, hml, hown, hts⟩ (gx102_X13_isThere l hlt dC dI _ p1 m0 ml md mch m0g h_m0 mlC zk) (cwV 2 hts (gi_V wd_4088 wd_4089 wd_4090 wd_340 wd_4091) rfl rfl rfl (by decide +kernel) ⟨(Nat.le_of_ble_eq_true rfl), (Nat.le_of_ble_eq_true rfl)⟩) ⟨fun a U g mk q => by obtain ⟨q0, q1, qP, qK, qD, qT⟩ := q; exact ⟨q0, q1, qP, va_K.moved (u := U) (U := U.calling g mk a) (Vm.Alike.refl U.vm) qK, qD, th.moved (u := U) (U := U.calling g mk a) (Vm.Alike.refl U.vm) qT⟩, va_recv hKc hPc (ci := 13) (q0 := 0) rfl rfl, fun U hU hW => ⟨rfl, by rw [hU], by rw [hU]; exact hPc, va_K.moved hW.alike hKc, hDc.weaken (fun _ _ _ _ => trivial), by rw [hU]; exact ((hth.kept hS.2.1).narrow hFc).moved hW.alike⟩⟩ rfl rfl hl.1 rfl (lv_room (Nat.le_of_ble_eq_true rfl)) dL_law_593 ⟨(Nat.le_of_ble_eq_true rfl), (Nat.le_of_ble_eq_true rfl)⟩) hS (fun q _ h => hFc q h) hFc (fun r u t H1 locs ht hvm hw hB hz1 hk1 hS => ?_)
  subst hw
  obtain ⟨fs_6, h_m0, hP1, hK1, hD1⟩ := hB
  rw [ht] at hP1
  obtain ⟨hP, hD⟩ := va_join (wr := [(x, .inr (12, fs_1)), (liA, .inl (liAC, (3, .inr (.inr (.inr (.inr liAF)))))), (li0, .inr (5, fs_2)), (li1, .inr (5, fs_3)), (li2, .inr (5, fs_4)), (oA, .inl (oAC, (1, .inr (.inl f_5))))]) (w1 := [(m0, .inr (13, fs_6)), (ml, .inl (mlC, (3, .inl (fun _ => 0))))]) hP hD [5, 6] [0, 1, 2, 3, 4, 7] rfl rfl (by decide) (by decide) hk1 hFc hP1 hD1
  have hP := hP.sub (ws' := [(x, .inr (12, fs_1)), (liA, .inl (liAC, (3, .inr (.inr (.inr (.inr liAF)))))), (li0, .inr (5, fs_2)), (li1, .inr (5, fs_3)), (li2, .inr (5, fs_4)), (m0, .inr (13, fs_6)), (ml, .inl (mlC, (3, .inl (fun _ => 0)))), (oA, .inl (oAC, (1, .inr (.inl f_5))))]) [0, 1, 2, 3, 4, 6, 7, 5] rfl
  have hD := hD.sub (ws' := [(x, .inr (12, fs_1)), (liA, .inl (liAC, (3, .inr (.inr (.inr (.inr liAF)))))), (li0, .inr (5, fs_2)), (li1, .inr (5, fs_3)), (li2, .inr (5, fs_4)), (m0, .inr (13, fs_6)), (ml, .inl (mlC, (3, .inl (fun _ => 0)))), (oA, .inl (oAC, (1, .inr (.inl f_5))))]) [0, 1, 2, 3, 4, 6, 7, 5] (by decide) rfl
  generalize H1 = H at hP hS ⊢
  have hP : va_P (dC, dI) CL [(x, .inr (12, fs_1)), (liA, .inl (liAC, (3, .inr (.inr (.inr (.inr liAF)))))), (li0, .inr (5, fs_2)), (li1, .inr (5, fs_3)), (li2, .inr (5, fs_4)), (m0, .inr (13, fs_6)), (ml, .inl (mlC, (3, .inl (fun _ => 0)))), (oA, .inl (oAC, (1, .inr (.inl f_5))))] H := hP
  have hD : va_D A [(x, .inr (12, fs_1)), (liA, .inl (liAC, (3, .inr (.inr (.inr (.inr liAF)))))), (li0, .inr (5, fs_2)), (li1, .inr (5, fs_3)), (li2, .inr (5, fs_4)), (m0, .inr (13, fs_6)), (ml, .inl (mlC, (3, .inl (fun _ => 0)))), (oA, .inl (oAC, (1, .inr (.inl f_5))))] := hD
  refine lv_istore (lv' := [(6, .int 0), (5, .int 0), (0, .ref b), (1, .ref x), (2, .ref m0), (3, .ref oA), (4, .int 0)]) hx hb dL_law_596 hl (by decide) rfl (fun ls hl => ?_)
  refine lv_aload_n hx hb dL_law_598 rfl (lv_at hl 4 rfl) ?_
  have hPc := hP.sub (ws' := [(m0, .inr (13, fs_6))]) [5] rfl
  have hDc := hD.sub (ws' := [(m0, .inr (13, fs_6))]) [5] (by decide) rfl
  have hKc := hK.sub (tys' := []) [] rfl
  have hFc := va_free (wc := [(m0, .inr (13, fs_6))]) hD hS hA [5] rfl
  refine va_calli (va_runV (As := []) (rest := []) ⟨hx, hb, hml, hown, hts⟩ (gx71_X13_thrown l hlt dC dI _ m0 md ml mch fs_6 h_m0) (cwV 0 hts (gi_V wd_3015 wd_3016 wd_3017 wd_340 wd_3018) rfl rfl rfl (by decide +kernel) ⟨(Nat.le_of_ble_eq_true rfl), (Nat.le_of_ble_eq_true rfl)⟩) ⟨fun a U g mk q => by obtain ⟨q0, q1, qP, qK, qD, qT⟩ := q; exact ⟨q0, q1, qP, va_K.moved (u := U) (U := U.calling g mk a) (Vm.Alike.refl U.vm) qK, qD, th.moved (u := U) (U := U.calling g mk a) (Vm.Alike.refl U.vm) qT⟩, va_recv hKc hPc (ci := 13) (q0 := 0) rfl rfl, fun U hU hW => ⟨rfl, by rw [hU], by rw [hU]; exact hPc, va_K.moved hW.alike hKc, hDc.weaken (fun _ _ _ _ => trivial), by rw [hU]; exact ((hth.kept hS.2.1).narrow hFc).moved hW.alike⟩⟩ rfl rfl hl.1 rfl (lv_room (Nat.le_of_ble_eq_true rfl)) dL_law_599 ⟨(Nat.le_of_ble_eq_true rfl), (Nat.le_of_ble_eq_true rfl)⟩) hS (fun q _ h => hFc q h) hFc (fun r u t H1 locs ht hvm hw hB hz1 hk1 hS => ?_)
  subst hw
  obtain ⟨fs_7, h_m0, hP1, hK1, hD1⟩ := hB
  rw [ht] at hP1
  obtain ⟨hP, hD⟩ := va_join (wr := [(x, .inr (12, fs_1)), (liA, .inl (liAC, (3, .inr (.inr (.inr (.inr liAF)))))), (li0, .inr (5, fs_2)), (li1, .inr (5, fs_3)), (li2, .inr (5, fs_4)), (ml, .inl (mlC, (3, .inl (fun _ => 0)))), (oA, .inl (oAC, (1, .inr (.inl f_5))))]) (w1 := [(m0, .inr (13, fs_7))]) hP hD [5] [0, 1, 2, 3, 4, 6, 7] rfl rfl (by decide) (by decide) hk1 hFc hP1 hD1
  have hP := hP.sub (ws' := [(x, .inr (12, fs_1)), (liA, .inl (liAC, (3, .inr (.inr (.inr (.inr liAF)))))), (li0, .inr (5, fs_2)), (li1, .inr (5, fs_3)), (li2, .inr (5, fs_4)), (m0, .inr (13, fs_7)), (ml, .inl (mlC, (3, .inl (fun _ => 0)))), (oA, .inl (oAC, (1, .inr (.inl f_5))))]) [0, 1, 2, 3, 4, 7, 5, 6] rfl
  have hD := hD.sub (ws' := [(x, .inr (12, fs_1)), (liA, .inl (liAC, (3, .inr (.inr (.inr (.inr liAF)))))), (li0, .inr (5, fs_2)), (li1, .inr (5, fs_3)), (li2, .inr (5, fs_4)), (m0, .inr (13, fs_7)), (ml, .inl (mlC, (3, .inl (fun _ => 0)))), (oA, .inl (oAC, (1, .inr (.inl f_5))))]) [0, 1, 2, 3, 4, 7, 5, 6] (by decide) rfl
  generalize H1 = H at hP hS ⊢
  have hP : va_P (dC, dI) CL [(x, .inr (12, fs_1)), (liA, .inl (liAC, (3, .inr (.inr (.inr (.inr liAF)))))), (li0, .inr (5, fs_2)), (li1, .inr (5, fs_3)), (li2, .inr (5, fs_4)), (m0, .inr (13, fs_7)), (ml, .inl (mlC, (3, .inl (fun _ => 0)))), (oA, .inl (oAC, (1, .inr (.inl f_5))))] H := hP
  have hD : va_D A [(x, .inr (12, fs_1)), (liA, .inl (liAC, (3, .inr (.inr (.inr (.inr liAF)))))), (li0, .inr (5, fs_2)), (li1, .inr (5, fs_3)), (li2, .inr (5, fs_4)), (m0, .inr (13, fs_7)), (ml, .inl (mlC, (3, .inl (fun _ => 0)))), (oA, .inl (oAC, (1, .inr (.inl f_5))))] := hD
  refine lv_iload hx hb dL_law_602 (lv_at hl 1 rfl) ?_
  refine lv_icmp_eq (tgt := 609) hx hb dL_law_604 (by decide) (fun c9 => ?_) (fun c9 => ?_)
  rotate_left
  · first | exact absurd c9 (by decide +kernel) | exact absurd (by decide +kernel) c9
  refine lv_iload hx hb dL_law_609 (lv_at hl 1 rfl) ?_
  refine lv_if_ne (tgt := 633) hx hb dL_law_611 (by decide) (fun c9 => ?_) (fun c9 => ?_)
  · first | exact absurd c9 (by decide +kernel) | exact absurd (by decide +kernel) c9
  refine lv_aload_n hx hb dL_law_614 rfl (lv_at hl 5 rfl) ?_
  refine lv_iconst (v := 0) hx hb dL_law_615 (by decide +kernel) ?_
  refine va_lald hx hb hK hP 7 2 rfl rfl (vp_in_nI (n := 0) (N := 1) (by decide) (by decide)) dL_law_616 ?_
  refine lv_topl (fun v9 e9 => ?_)
  obtain rfl : v9 = 0 := e9.trans ((congrArg f_5 (by decide +kernel : (0 : Int32).toNatClampNeg = 0)).trans (h_oA.get 0 rfl))
  refine lv_iload hx hb dL_law_617 (lv_at hl 0 rfl) ?_
  refine lv_if_eq (tgt := 626) hx hb dL_law_619 (by decide) (fun c9 => ?_) (fun c9 => ?_)
  rotate_left
  · first | exact absurd c9 (by decide +kernel) | exact absurd (by decide +kernel) c9
  refine lv_lconst (v := 0) hx hb dL_law_626 (by decide) ?_
  refine hc_lcmpE hx hb dL_law_627 ?_
  refine lv_if_eq (tgt := 633) hx hb dL_law_628 (by decide) (fun c9 => ?_) (fun c9 => ?_)
  rotate_left
  · first | exact absurd c9 (by decide +kernel) | exact absurd (by decide +kernel) c9
  refine lv_goto (tgt := 4099) hx hb dL_law_633 (by decide) ?_
  refine W.widen (k := 470) (n := 2709300) (Nat.le_of_ble_eq_true rfl) (Nat.le_of_ble_eq_true rfl) ?_
  rw [eA] at hS
  exact law_tail (v5 := 0) (v6 := 0) (lv := []) C0 hS (lv_sub hl [2, 6] rfl)
