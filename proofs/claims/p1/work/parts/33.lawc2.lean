set_option maxHeartbeats 4000000 in
set_option maxRecDepth 100000 in
theorem law_route {p : Program} {l : Launch} {e : Env} {s : State} {m : MethodId} {below : List Frame} {meth : Method} {c : Code} {b : Nat} {xs : Nat → Int32} (C0 : lw_At p s m meth c b 7 xs) {dC : Nat → ClassId} {dI : Nat → Nat → Nat} (hlt : l.stackTraces = false) (hth : th (fun q : Nat => s.heap.size ≤ q) s s.heap) (x : Nat) (xg : List Value) (chA : Nat) (chC : ClassId) (chF : Nat → Option Nat) (ch0 ch1 ch2 ch3 : Nat) (chg0 chg1 chg2 chg3 : List Value) (hchg0 : fx chg0 20 [(0, .int 0)]) (hchF0 : chF 0 = some ch0) (hchg1 : fx chg1 20 [(0, .int 0)]) (hchF1 : chF 1 = some ch1) (hchg2 : fx chg2 20 [(0, .int 0)]) (hchF2 : chF 2 = some ch2) (hchg3 : fx chg3 20 [(0, .int 0)]) (hchF3 : chF 3 = some ch3) (m0 : Nat) (mg : List Value) (mcA : Nat) (mcC : ClassId) (oA : Nat) (oC : ClassId) (oF : Nat → Int64) (hxg : fx xg 17 [(9, .ref chA)]) (hmg : fx mg 225 [(138, .ref mcA)]) (H : Heap) (locs : List Loc) (hK : va_K (dC, dI) CL [(chC, .object "ChipFlow$Chip"), (mcC, .boolean), (oC, .long)] s) (hP : va_P (dC, dI) CL [(x, .inr (12, xg)), (chA, .inl (chC, (4, .inr (.inr (.inr (.inr chF)))))), (ch0, .inr (2, chg0)), (ch1, .inr (2, chg1)), (ch2, .inr (2, chg2)), (ch3, .inr (2, chg3)), (m0, .inr (13, mg)), (mcA, .inl (mcC, (4, .inl (fun _ => 0)))), (oA, .inl (oC, (1, .inr (.inl oF))))] H) (hD : va_D (fun q : Nat => s.heap.size ≤ q) [(x, .inr (12, xg)), (chA, .inl (chC, (4, .inr (.inr (.inr (.inr chF)))))), (ch0, .inr (2, chg0)), (ch1, .inr (2, chg1)), (ch2, .inr (2, chg2)), (ch3, .inr (2, chg3)), (m0, .inr (13, mg)), (mcA, .inl (mcC, (4, .inl (fun _ => 0)))), (oA, .inl (oC, (1, .inr (.inl oF))))]) (hS : va_S (fun q : Nat => s.heap.size ≤ q) s.heap H locs) (ls : Array Slot) (hl : lv_has ls 7 [(0, .ref b), (1, .ref x), (2, .ref m0), (3, .ref oA), (4, .int 0)]) : W p l e room_1 s m #[Value.ref b] below meth c H locs 451 2709142 (lw_Z below #[Value.ref b] s) (F0 m 2367 ls []) := by
  obtain ⟨hx, hb, hr, hml, hown, hts0, hX, hbl, hlocks, hgv⟩ := id C0
  have hts : ∀ w ∈ BG, w.before _ s = true := fun w h => hts0 w (List.mem_filter.mp h).1
  have hown : s.vm.findClass RL = some m.cls := hown
  have hA : ∀ q : Nat, s.heap.size ≤ q → (fun q : Nat => s.heap.size ≤ q) q := fun _ h => h
  have hbA : ¬ (fun q : Nat => s.heap.size ≤ q) b := Nat.not_le.mpr hbl
  refine lv_aload_n hx hb dL_law_2367 rfl (lv_at hl 1 rfl) ?_
  refine lv_aload_n hx hb dL_law_2368 rfl (lv_at hl 0 rfl) ?_
  refine lv_iload hx hb dL_law_2369 (lv_at hl 4 rfl) ?_
  refine lv_iconst (v := 1) hx hb dL_law_2371 (by decide +kernel) ?_
  refine lv_iadd hx hb dL_law_2372 ?_
  refine va_sld hx hb hX hbl hbA hS vi_1 dL_law_2373 ?_
  refine lv_aload_n hx hb dL_law_2374 rfl (lv_at hl 0 rfl) ?_
  refine lv_iload hx hb dL_law_2375 (lv_at hl 4 rfl) ?_
  refine lv_iconst (v := 2) hx hb dL_law_2377 (by decide +kernel) ?_
  refine lv_iadd hx hb dL_law_2378 ?_
  refine va_sld hx hb hX hbl hbA hS vi_2 dL_law_2379 ?_
  refine lv_aload_n hx hb dL_law_2380 rfl (lv_at hl 3 rfl) ?_
  have hPc := hP.sub (ws' := [(x, .inr (12, xg)), (chA, .inl (chC, (4, .inr (.inr (.inr (.inr chF)))))), (ch0, .inr (2, chg0)), (ch1, .inr (2, chg1)), (ch2, .inr (2, chg2)), (ch3, .inr (2, chg3)), (oA, .inl (oC, (1, .inr (.inl oF))))]) [0, 1, 2, 3, 4, 5, 8] rfl
  have hDc := hD.sub (ws' := [(x, .inr (12, xg)), (chA, .inl (chC, (4, .inr (.inr (.inr (.inr chF)))))), (ch0, .inr (2, chg0)), (ch1, .inr (2, chg1)), (ch2, .inr (2, chg2)), (ch3, .inr (2, chg3)), (oA, .inl (oC, (1, .inr (.inl oF))))]) [0, 1, 2, 3, 4, 5, 8] (by decide) rfl
  have hKc := hK.sub (tys' := [(chC, .object "ChipFlow$Chip"), (oC, .long)]) [0, 2] rfl
  have hFc := va_free (wc := [(x, .inr (12, xg)), (chA, .inl (chC, (4, .inr (.inr (.inr (.inr chF)))))), (ch0, .inr (2, chg0)), (ch1, .inr (2, chg1)), (ch2, .inr (2, chg2)), (ch3, .inr (2, chg3)), (oA, .inl (oC, (1, .inr (.inl oF))))]) hD hS hA [0, 1, 2, 3, 4, 5, 8] rfl
  refine va_calli (vx_runSW (As := [.ref x, .int (xs ((0 : Int32) + 1).toNatClampNeg), .int (xs ((0 : Int32) + 2).toNatClampNeg), .ref oA]) (rest := []) ⟨hx, hb, hml, hown, hts⟩ (ct_L_route l hlt dC dI H.size (xs ((0 : Int32) + 1).toNatClampNeg) (xs ((0 : Int32) + 2).toNatClampNeg) x xg chA chC chF ch0 ch1 ch2 ch3 chg0 chg1 chg2 chg3 hchg0 hchF0 hchg1 hchF1 hchg2 hchF2 hchg3 hchF3 oA oC oF hxg) (vx_cwSW 4 hts (gi_W wd_2284 wd_2285 wd_326 wd_2286) rfl rfl rfl (by decide +kernel) ⟨(Nat.le_of_ble_eq_true rfl), (Nat.le_of_ble_eq_true rfl)⟩) ⟨fun a U g mk q => by obtain ⟨q0, q1, qP, qK, qD, qT⟩ := q; exact ⟨q0, q1, qP, va_K.moved (u := U) (U := U.calling g mk a) (Vm.Alike.refl U.vm) qK, qD, th.moved (u := U) (U := U.calling g mk a) (Vm.Alike.refl U.vm) qT⟩, fun U hU hW => ⟨rfl, by rw [hU], by rw [hU]; exact hPc, va_K.moved hW.alike hKc, hDc.weaken (fun _ _ _ _ => trivial), by rw [hU]; exact ((hth.kept hS.2.1).narrow hFc).moved hW.alike⟩⟩ rfl rfl hl.1 rfl (lv_room (Nat.le_of_ble_eq_true rfl)) dL_law_2381 ⟨(Nat.le_of_ble_eq_true rfl), (Nat.le_of_ble_eq_true rfl)⟩) hS (fun q _ h => hFc q h) hFc (fun r u t H1 locs ht hvm hw hB hz1 hk1 hS => ?_)
  subst hw
  obtain ⟨hP1, -, hD1⟩ := hB
  rw [ht] at hP1
  obtain ⟨hP, hD⟩ := va_join (wr := [(m0, .inr (13, mg)), (mcA, .inl (mcC, (4, .inl (fun _ => 0))))]) (w1 := [(oA, .inl (oC, (1, .inr (.inl oF))))]) hP hD [0, 1, 2, 3, 4, 5, 8] [6, 7] rfl rfl (by decide) (by decide) hk1 hFc hP1 hD1
  have hP := hP.sub (ws' := [(m0, .inr (13, mg)), (mcA, .inl (mcC, (4, .inl (fun _ => 0))))]) [0, 1] rfl
  have hD := hD.sub (ws' := [(m0, .inr (13, mg)), (mcA, .inl (mcC, (4, .inl (fun _ => 0))))]) [0, 1] (by decide) rfl
  have hK := hK.sub (tys' := [(mcC, .boolean)]) [1] rfl
  generalize H1 = H at hP hS ⊢
  refine W.widen (k := 452) (n := 2709148) (Nat.le_of_ble_eq_true rfl) (Nat.le_of_ble_eq_true rfl) ?_
  refine lv_istore (lv' := [(5, .int 1), (0, .ref b), (1, .ref x), (2, .ref m0), (3, .ref oA), (4, .int 0)]) hx hb dL_law_2384 hl (by decide) rfl (fun ls hl => ?_)
  refine lv_aload_n hx hb dL_law_2386 rfl (lv_at hl 3 rfl) ?_
  refine lv_aload_n hx hb dL_law_2387 rfl (lv_at hl 1 rfl) ?_
  refine lv_iload hx hb dL_law_2388 (lv_at hl 5 rfl) ?_
  refine lv_iconst (v := 1) hx hb dL_law_2390 (by decide +kernel) ?_
  refine lv_iadd hx hb dL_law_2391 ?_
  refine va_sld hx hb hX hbl hbA hS vi_1 dL_law_2392 ?_
  refine lv_aload_n hx hb dL_law_2393 rfl (lv_at hl 1 rfl) ?_
  refine lv_iload hx hb dL_law_2394 (lv_at hl 5 rfl) ?_
  refine lv_iconst (v := 2) hx hb dL_law_2396 (by decide +kernel) ?_
  refine lv_iadd hx hb dL_law_2397 ?_
  refine va_sld hx hb hX hbl hbA hS vi_2 dL_law_2398 ?_
  have hFc := va_free (wc := [(m0, .inr (13, mg)), (mcA, .inl (mcC, (4, .inl (fun _ => 0))))]) hD hS hA [0, 1] rfl
  refine va_calli (va_runV (As := [.int (xs ((0 : Int32) + 1).toNatClampNeg), .int (xs ((0 : Int32) + 2).toNatClampNeg)]) (rest := []) ⟨hx, hb, hml, hown, hts⟩ (ct_X13_route l dC dI _ (xs ((0 : Int32) + 1).toNatClampNeg) (xs ((0 : Int32) + 2).toNatClampNeg) m0 mg mcA mcC hmg) (cwV 2 hts (gi_V wd_4401 wd_4402 wd_4403 wd_340 wd_4404) rfl rfl rfl (by decide +kernel) ⟨(Nat.le_of_ble_eq_true rfl), (Nat.le_of_ble_eq_true rfl)⟩) ⟨fun a U g mk q => by obtain ⟨q0, q1, qP, qK, qD⟩ := q; exact ⟨q0, q1, qP, va_K.moved (u := U) (U := U.calling g mk a) (Vm.Alike.refl U.vm) qK, qD⟩, va_recv hK hP (ci := 13) (q0 := 0) rfl rfl, fun U hU hW => ⟨rfl, by rw [hU], by rw [hU]; exact hP, va_K.moved hW.alike hK, hD.weaken (fun _ _ _ _ => trivial)⟩⟩ rfl rfl hl.1 rfl (lv_room (Nat.le_of_ble_eq_true rfl)) dL_law_2399 ⟨(Nat.le_of_ble_eq_true rfl), (Nat.le_of_ble_eq_true rfl)⟩) hS (fun q _ h => hFc q h) hFc (fun r u t H1 locs ht hvm hw hB hz1 hk1 hS => ?_)
  subst hw
  obtain ⟨mg1, hmg1, hP1, hK1, hD1⟩ := hB
  rw [ht] at hP1
  have hK1 := va_K.moved hvm.symm hK1
  have hD1 := hD1.weaken (fun k q _ h => hFc q.1 h)
  generalize H1 = H at hP1 hS ⊢
  refine lv_istore (lv' := [(6, .int 0), (5, .int 1), (0, .ref b), (1, .ref x), (2, .ref m0), (3, .ref oA), (4, .int 0)]) hx hb dL_law_2402 hl (by decide) rfl (fun ls hl => ?_)
  refine lv_aload_n hx hb dL_law_2404 rfl (lv_at hl 4 rfl) ?_
  have hFc := va_free (wc := [(m0, .inr (13, mg1))]) hD1 hS hA [0] rfl
  refine va_calli (va_runV (As := []) (rest := []) ⟨hx, hb, hml, hown, hts⟩ (ct_X13_thrown l dC dI _ 1 m0 mg1 hmg1) (cwV 0 hts (gi_V wd_3015 wd_3016 wd_3017 wd_340 wd_3018) rfl rfl rfl (by decide +kernel) ⟨(Nat.le_of_ble_eq_true rfl), (Nat.le_of_ble_eq_true rfl)⟩) ⟨fun a U g mk q => by obtain ⟨q0, q1, qP, qK, qD⟩ := q; exact ⟨q0, q1, qP, va_K.moved (u := U) (U := U.calling g mk a) (Vm.Alike.refl U.vm) qK, qD⟩, va_recv hK1 hP1 (ci := 13) (q0 := 0) rfl rfl, fun U hU hW => ⟨rfl, by rw [hU], by rw [hU]; exact hP1, va_K.moved hW.alike hK1, hD1.weaken (fun _ _ _ _ => trivial)⟩⟩ rfl rfl hl.1 rfl (lv_room (Nat.le_of_ble_eq_true rfl)) dL_law_2405 ⟨(Nat.le_of_ble_eq_true rfl), (Nat.le_of_ble_eq_true rfl)⟩) hS (fun q _ h => hFc q h) hFc (fun r u t H1 locs ht hvm hw hB hz1 hk1 hS => ?_)
  subst hw
  refine lv_iload hx hb dL_law_2408 (lv_at hl 1 rfl) ?_
  refine lv_icmp_eq (tgt := 2415) hx hb dL_law_2410 (by decide) (fun c9 => ?_) (fun c9 => ?_)
  rotate_left
  · first | exact absurd c9 (by decide +kernel) | exact absurd (by decide +kernel) c9
  refine lv_iload hx hb dL_law_2415 (lv_at hl 1 rfl) ?_
  refine lv_if_ne (tgt := 2432) hx hb dL_law_2417 (by decide) (fun c9 => ?_) (fun c9 => ?_)
  rotate_left
  · first | exact absurd c9 (by decide +kernel) | exact absurd (by decide +kernel) c9
  refine lv_goto (tgt := 4099) hx hb dL_law_2432 (by decide) ?_
  refine W.widen (k := 470) (n := 2709300) (Nat.le_of_ble_eq_true rfl) (Nat.le_of_ble_eq_true rfl) ?_
  exact law_tail (v5 := 0) (v6 := 0) (lv := []) C0 hS (lv_sub hl [2, 6] rfl)
set_option maxHeartbeats 4000000 in
set_option maxRecDepth 100000 in
theorem law_point {p : Program} {l : Launch} {e : Env} {s : State} {m : MethodId} {below : List Frame} {meth : Method} {c : Code} {b : Nat} {xs : Nat → Int32} (C0 : lw_At p s m meth c b 7 xs) {dC : Nat → ClassId} {dI : Nat → Nat → Nat} (hlt : l.stackTraces = false) (hth : th (fun q : Nat => s.heap.size ≤ q) s s.heap) (x : Nat) (xg : List Value) (chA : Nat) (chC : ClassId) (chF : Nat → Option Nat) (ch0 ch1 ch2 ch3 : Nat) (chg0 chg1 chg2 chg3 : List Value) (hchg0 : fx chg0 20 [(0, .int 0)]) (hchF0 : chF 0 = some ch0) (hchg1 : fx chg1 20 [(0, .int 0)]) (hchF1 : chF 1 = some ch1) (hchg2 : fx chg2 20 [(0, .int 0)]) (hchF2 : chF 2 = some ch2) (hchg3 : fx chg3 20 [(0, .int 0)]) (hchF3 : chF 3 = some ch3) (m0 : Nat) (mg : List Value) (mcA : Nat) (mcC : ClassId) (oA : Nat) (oC : ClassId) (oF : Nat → Int64) (hxg : fx xg 17 [(9, .ref chA)]) (hmg : fx mg 225 [(138, .ref mcA)]) (H : Heap) (locs : List Loc) (hK : va_K (dC, dI) CL [(chC, .object "ChipFlow$Chip"), (mcC, .boolean), (oC, .long)] s) (hP : va_P (dC, dI) CL [(x, .inr (12, xg)), (chA, .inl (chC, (4, .inr (.inr (.inr (.inr chF)))))), (ch0, .inr (2, chg0)), (ch1, .inr (2, chg1)), (ch2, .inr (2, chg2)), (ch3, .inr (2, chg3)), (m0, .inr (13, mg)), (mcA, .inl (mcC, (4, .inl (fun _ => 0)))), (oA, .inl (oC, (1, .inr (.inl oF))))] H) (hD : va_D (fun q : Nat => s.heap.size ≤ q) [(x, .inr (12, xg)), (chA, .inl (chC, (4, .inr (.inr (.inr (.inr chF)))))), (ch0, .inr (2, chg0)), (ch1, .inr (2, chg1)), (ch2, .inr (2, chg2)), (ch3, .inr (2, chg3)), (m0, .inr (13, mg)), (mcA, .inl (mcC, (4, .inl (fun _ => 0)))), (oA, .inl (oC, (1, .inr (.inl oF))))]) (hS : va_S (fun q : Nat => s.heap.size ≤ q) s.heap H locs) (ls : Array Slot) (hl : lv_has ls 7 [(0, .ref b), (1, .ref x), (2, .ref m0), (3, .ref oA), (4, .int 0)]) : W p l e room_1 s m #[Value.ref b] below meth c H locs 451 2709142 (lw_Z below #[Value.ref b] s) (F0 m 2435 ls []) := by
  obtain ⟨hx, hb, hr, hml, hown, hts0, hX, hbl, hlocks, hgv⟩ := id C0
  have hts : ∀ w ∈ BG, w.before _ s = true := fun w h => hts0 w (List.mem_filter.mp h).1
  have hown : s.vm.findClass RL = some m.cls := hown
  have hA : ∀ q : Nat, s.heap.size ≤ q → (fun q : Nat => s.heap.size ≤ q) q := fun _ h => h
  have hbA : ¬ (fun q : Nat => s.heap.size ≤ q) b := Nat.not_le.mpr hbl
  refine lv_aload_n hx hb dL_law_2435 rfl (lv_at hl 1 rfl) ?_
  refine lv_aload_n hx hb dL_law_2436 rfl (lv_at hl 0 rfl) ?_
  refine lv_iload hx hb dL_law_2437 (lv_at hl 4 rfl) ?_
  refine lv_iconst (v := 1) hx hb dL_law_2439 (by decide +kernel) ?_
  refine lv_iadd hx hb dL_law_2440 ?_
  refine va_sld hx hb hX hbl hbA hS vi_1 dL_law_2441 ?_
  refine lv_aload_n hx hb dL_law_2442 rfl (lv_at hl 0 rfl) ?_
  refine lv_iload hx hb dL_law_2443 (lv_at hl 4 rfl) ?_
  refine lv_iconst (v := 2) hx hb dL_law_2445 (by decide +kernel) ?_
  refine lv_iadd hx hb dL_law_2446 ?_
  refine va_sld hx hb hX hbl hbA hS vi_2 dL_law_2447 ?_
  refine lv_aload_n hx hb dL_law_2448 rfl (lv_at hl 3 rfl) ?_
  have hPc := hP.sub (ws' := [(x, .inr (12, xg)), (chA, .inl (chC, (4, .inr (.inr (.inr (.inr chF)))))), (ch0, .inr (2, chg0)), (ch1, .inr (2, chg1)), (ch2, .inr (2, chg2)), (ch3, .inr (2, chg3)), (oA, .inl (oC, (1, .inr (.inl oF))))]) [0, 1, 2, 3, 4, 5, 8] rfl
  have hDc := hD.sub (ws' := [(x, .inr (12, xg)), (chA, .inl (chC, (4, .inr (.inr (.inr (.inr chF)))))), (ch0, .inr (2, chg0)), (ch1, .inr (2, chg1)), (ch2, .inr (2, chg2)), (ch3, .inr (2, chg3)), (oA, .inl (oC, (1, .inr (.inl oF))))]) [0, 1, 2, 3, 4, 5, 8] (by decide) rfl
  have hKc := hK.sub (tys' := [(chC, .object "ChipFlow$Chip"), (oC, .long)]) [0, 2] rfl
  have hFc := va_free (wc := [(x, .inr (12, xg)), (chA, .inl (chC, (4, .inr (.inr (.inr (.inr chF)))))), (ch0, .inr (2, chg0)), (ch1, .inr (2, chg1)), (ch2, .inr (2, chg2)), (ch3, .inr (2, chg3)), (oA, .inl (oC, (1, .inr (.inl oF))))]) hD hS hA [0, 1, 2, 3, 4, 5, 8] rfl
  refine va_calli (vx_runSW (As := [.ref x, .int (xs ((0 : Int32) + 1).toNatClampNeg), .int (xs ((0 : Int32) + 2).toNatClampNeg), .ref oA]) (rest := []) ⟨hx, hb, hml, hown, hts⟩ (ct_L_point l hlt dC dI H.size (xs ((0 : Int32) + 1).toNatClampNeg) (xs ((0 : Int32) + 2).toNatClampNeg) x xg chA chC chF ch0 ch1 ch2 ch3 chg0 chg1 chg2 chg3 hchg0 hchF0 hchg1 hchF1 hchg2 hchF2 hchg3 hchF3 oA oC oF hxg) (vx_cwSW 4 hts (gi_W wd_2607 wd_2608 wd_326 wd_2609) rfl rfl rfl (by decide +kernel) ⟨(Nat.le_of_ble_eq_true rfl), (Nat.le_of_ble_eq_true rfl)⟩) ⟨fun a U g mk q => by obtain ⟨q0, q1, qP, qK, qD, qT⟩ := q; exact ⟨q0, q1, qP, va_K.moved (u := U) (U := U.calling g mk a) (Vm.Alike.refl U.vm) qK, qD, th.moved (u := U) (U := U.calling g mk a) (Vm.Alike.refl U.vm) qT⟩, fun U hU hW => ⟨rfl, by rw [hU], by rw [hU]; exact hPc, va_K.moved hW.alike hKc, hDc.weaken (fun _ _ _ _ => trivial), by rw [hU]; exact ((hth.kept hS.2.1).narrow hFc).moved hW.alike⟩⟩ rfl rfl hl.1 rfl (lv_room (Nat.le_of_ble_eq_true rfl)) dL_law_2449 ⟨(Nat.le_of_ble_eq_true rfl), (Nat.le_of_ble_eq_true rfl)⟩) hS (fun q _ h => hFc q h) hFc (fun r u t H1 locs ht hvm hw hB hz1 hk1 hS => ?_)
  subst hw
  obtain ⟨hP1, -, hD1⟩ := hB
  rw [ht] at hP1
  obtain ⟨hP, hD⟩ := va_join (wr := [(m0, .inr (13, mg)), (mcA, .inl (mcC, (4, .inl (fun _ => 0))))]) (w1 := [(oA, .inl (oC, (1, .inr (.inl oF))))]) hP hD [0, 1, 2, 3, 4, 5, 8] [6, 7] rfl rfl (by decide) (by decide) hk1 hFc hP1 hD1
  have hP := hP.sub (ws' := [(m0, .inr (13, mg)), (mcA, .inl (mcC, (4, .inl (fun _ => 0))))]) [0, 1] rfl
  have hD := hD.sub (ws' := [(m0, .inr (13, mg)), (mcA, .inl (mcC, (4, .inl (fun _ => 0))))]) [0, 1] (by decide) rfl
  have hK := hK.sub (tys' := [(mcC, .boolean)]) [1] rfl
  generalize H1 = H at hP hS ⊢
  refine W.widen (k := 452) (n := 2709148) (Nat.le_of_ble_eq_true rfl) (Nat.le_of_ble_eq_true rfl) ?_
  refine lv_istore (lv' := [(5, .int 1), (0, .ref b), (1, .ref x), (2, .ref m0), (3, .ref oA), (4, .int 0)]) hx hb dL_law_2452 hl (by decide) rfl (fun ls hl => ?_)
  refine lv_aload_n hx hb dL_law_2454 rfl (lv_at hl 3 rfl) ?_
  refine lv_aload_n hx hb dL_law_2455 rfl (lv_at hl 1 rfl) ?_
  refine lv_iload hx hb dL_law_2456 (lv_at hl 5 rfl) ?_
  refine lv_iconst (v := 1) hx hb dL_law_2458 (by decide +kernel) ?_
  refine lv_iadd hx hb dL_law_2459 ?_
  refine va_sld hx hb hX hbl hbA hS vi_1 dL_law_2460 ?_
  refine lv_aload_n hx hb dL_law_2461 rfl (lv_at hl 1 rfl) ?_
  refine lv_iload hx hb dL_law_2462 (lv_at hl 5 rfl) ?_
  refine lv_iconst (v := 2) hx hb dL_law_2464 (by decide +kernel) ?_
  refine lv_iadd hx hb dL_law_2465 ?_
  refine va_sld hx hb hX hbl hbA hS vi_2 dL_law_2466 ?_
  have hFc := va_free (wc := [(m0, .inr (13, mg)), (mcA, .inl (mcC, (4, .inl (fun _ => 0))))]) hD hS hA [0, 1] rfl
  refine va_calli (va_runV (As := [.int (xs ((0 : Int32) + 1).toNatClampNeg), .int (xs ((0 : Int32) + 2).toNatClampNeg)]) (rest := []) ⟨hx, hb, hml, hown, hts⟩ (ct_X13_point l dC dI _ (xs ((0 : Int32) + 1).toNatClampNeg) (xs ((0 : Int32) + 2).toNatClampNeg) m0 mg mcA mcC hmg) (cwV 2 hts (gi_V wd_4461 wd_4462 wd_4463 wd_340 wd_4464) rfl rfl rfl (by decide +kernel) ⟨(Nat.le_of_ble_eq_true rfl), (Nat.le_of_ble_eq_true rfl)⟩) ⟨fun a U g mk q => by obtain ⟨q0, q1, qP, qK, qD⟩ := q; exact ⟨q0, q1, qP, va_K.moved (u := U) (U := U.calling g mk a) (Vm.Alike.refl U.vm) qK, qD⟩, va_recv hK hP (ci := 13) (q0 := 0) rfl rfl, fun U hU hW => ⟨rfl, by rw [hU], by rw [hU]; exact hP, va_K.moved hW.alike hK, hD.weaken (fun _ _ _ _ => trivial)⟩⟩ rfl rfl hl.1 rfl (lv_room (Nat.le_of_ble_eq_true rfl)) dL_law_2467 ⟨(Nat.le_of_ble_eq_true rfl), (Nat.le_of_ble_eq_true rfl)⟩) hS (fun q _ h => hFc q h) hFc (fun r u t H1 locs ht hvm hw hB hz1 hk1 hS => ?_)
  subst hw
  obtain ⟨mg1, hmg1, hP1, hK1, hD1⟩ := hB
  rw [ht] at hP1
  have hK1 := va_K.moved hvm.symm hK1
  have hD1 := hD1.weaken (fun k q _ h => hFc q.1 h)
  generalize H1 = H at hP1 hS ⊢
  refine lv_istore (lv' := [(6, .int 0), (5, .int 1), (0, .ref b), (1, .ref x), (2, .ref m0), (3, .ref oA), (4, .int 0)]) hx hb dL_law_2470 hl (by decide) rfl (fun ls hl => ?_)
  refine lv_aload_n hx hb dL_law_2472 rfl (lv_at hl 4 rfl) ?_
  have hFc := va_free (wc := [(m0, .inr (13, mg1))]) hD1 hS hA [0] rfl
  refine va_calli (va_runV (As := []) (rest := []) ⟨hx, hb, hml, hown, hts⟩ (ct_X13_thrown l dC dI _ 1 m0 mg1 hmg1) (cwV 0 hts (gi_V wd_3015 wd_3016 wd_3017 wd_340 wd_3018) rfl rfl rfl (by decide +kernel) ⟨(Nat.le_of_ble_eq_true rfl), (Nat.le_of_ble_eq_true rfl)⟩) ⟨fun a U g mk q => by obtain ⟨q0, q1, qP, qK, qD⟩ := q; exact ⟨q0, q1, qP, va_K.moved (u := U) (U := U.calling g mk a) (Vm.Alike.refl U.vm) qK, qD⟩, va_recv hK1 hP1 (ci := 13) (q0 := 0) rfl rfl, fun U hU hW => ⟨rfl, by rw [hU], by rw [hU]; exact hP1, va_K.moved hW.alike hK1, hD1.weaken (fun _ _ _ _ => trivial)⟩⟩ rfl rfl hl.1 rfl (lv_room (Nat.le_of_ble_eq_true rfl)) dL_law_2473 ⟨(Nat.le_of_ble_eq_true rfl), (Nat.le_of_ble_eq_true rfl)⟩) hS (fun q _ h => hFc q h) hFc (fun r u t H1 locs ht hvm hw hB hz1 hk1 hS => ?_)
  subst hw
  refine lv_iload hx hb dL_law_2476 (lv_at hl 1 rfl) ?_
  refine lv_icmp_eq (tgt := 2483) hx hb dL_law_2478 (by decide) (fun c9 => ?_) (fun c9 => ?_)
  rotate_left
  · first | exact absurd c9 (by decide +kernel) | exact absurd (by decide +kernel) c9
  refine lv_iload hx hb dL_law_2483 (lv_at hl 1 rfl) ?_
  refine lv_if_ne (tgt := 2500) hx hb dL_law_2485 (by decide) (fun c9 => ?_) (fun c9 => ?_)
  rotate_left
  · first | exact absurd c9 (by decide +kernel) | exact absurd (by decide +kernel) c9
  refine lv_goto (tgt := 4099) hx hb dL_law_2500 (by decide) ?_
  refine W.widen (k := 470) (n := 2709300) (Nat.le_of_ble_eq_true rfl) (Nat.le_of_ble_eq_true rfl) ?_
  exact law_tail (v5 := 0) (v6 := 0) (lv := []) C0 hS (lv_sub hl [2, 6] rfl)
set_option maxHeartbeats 4000000 in
set_option maxRecDepth 100000 in
theorem law_routed {p : Program} {l : Launch} {e : Env} {s : State} {m : MethodId} {below : List Frame} {meth : Method} {c : Code} {b : Nat} {xs : Nat → Int32} (C0 : lw_At p s m meth c b 7 xs) {dC : Nat → ClassId} {dI : Nat → Nat → Nat} (hlt : l.stackTraces = false) (hth : th (fun q : Nat => s.heap.size ≤ q) s s.heap) (x : Nat) (xg : List Value) (chA : Nat) (chC : ClassId) (chF : Nat → Option Nat) (ch0 ch1 ch2 ch3 : Nat) (chg0 chg1 chg2 chg3 : List Value) (hchg0 : fx chg0 20 [(0, .int 0)]) (hchF0 : chF 0 = some ch0) (hchg1 : fx chg1 20 [(0, .int 0)]) (hchF1 : chF 1 = some ch1) (hchg2 : fx chg2 20 [(0, .int 0)]) (hchF2 : chF 2 = some ch2) (hchg3 : fx chg3 20 [(0, .int 0)]) (hchF3 : chF 3 = some ch3) (m0 : Nat) (mg : List Value) (mcA : Nat) (mcC : ClassId) (oA : Nat) (oC : ClassId) (oF : Nat → Int64) (hxg : fx xg 17 [(9, .ref chA)]) (hmg : fx mg 225 [(138, .ref mcA)]) (H : Heap) (locs : List Loc) (hK : va_K (dC, dI) CL [(chC, .object "ChipFlow$Chip"), (mcC, .boolean), (oC, .long)] s) (hP : va_P (dC, dI) CL [(x, .inr (12, xg)), (chA, .inl (chC, (4, .inr (.inr (.inr (.inr chF)))))), (ch0, .inr (2, chg0)), (ch1, .inr (2, chg1)), (ch2, .inr (2, chg2)), (ch3, .inr (2, chg3)), (m0, .inr (13, mg)), (mcA, .inl (mcC, (4, .inl (fun _ => 0)))), (oA, .inl (oC, (1, .inr (.inl oF))))] H) (hD : va_D (fun q : Nat => s.heap.size ≤ q) [(x, .inr (12, xg)), (chA, .inl (chC, (4, .inr (.inr (.inr (.inr chF)))))), (ch0, .inr (2, chg0)), (ch1, .inr (2, chg1)), (ch2, .inr (2, chg2)), (ch3, .inr (2, chg3)), (m0, .inr (13, mg)), (mcA, .inl (mcC, (4, .inl (fun _ => 0)))), (oA, .inl (oC, (1, .inr (.inl oF))))]) (hS : va_S (fun q : Nat => s.heap.size ≤ q) s.heap H locs) (ls : Array Slot) (hl : lv_has ls 7 [(0, .ref b), (1, .ref x), (2, .ref m0), (3, .ref oA), (4, .int 0)]) : W p l e room_1 s m #[Value.ref b] below meth c H locs 451 2709142 (lw_Z below #[Value.ref b] s) (F0 m 2503 ls []) := by
  obtain ⟨hx, hb, hr, hml, hown, hts0, hX, hbl, hlocks, hgv⟩ := id C0
  have hts : ∀ w ∈ BG, w.before _ s = true := fun w h => hts0 w (List.mem_filter.mp h).1
  have hown : s.vm.findClass RL = some m.cls := hown
  have hA : ∀ q : Nat, s.heap.size ≤ q → (fun q : Nat => s.heap.size ≤ q) q := fun _ h => h
  have hbA : ¬ (fun q : Nat => s.heap.size ≤ q) b := Nat.not_le.mpr hbl
  refine lv_aload_n hx hb dL_law_2503 rfl (lv_at hl 1 rfl) ?_
  refine lv_aload_n hx hb dL_law_2504 rfl (lv_at hl 0 rfl) ?_
  refine lv_iload hx hb dL_law_2505 (lv_at hl 4 rfl) ?_
  refine lv_iconst (v := 1) hx hb dL_law_2507 (by decide +kernel) ?_
  refine lv_iadd hx hb dL_law_2508 ?_
  refine va_sld hx hb hX hbl hbA hS vi_1 dL_law_2509 ?_
  refine lv_aload_n hx hb dL_law_2510 rfl (lv_at hl 0 rfl) ?_
  refine lv_iload hx hb dL_law_2511 (lv_at hl 4 rfl) ?_
  refine lv_iconst (v := 2) hx hb dL_law_2513 (by decide +kernel) ?_
  refine lv_iadd hx hb dL_law_2514 ?_
  refine va_sld hx hb hX hbl hbA hS vi_2 dL_law_2515 ?_
  refine lv_aload_n hx hb dL_law_2516 rfl (lv_at hl 0 rfl) ?_
  refine lv_iload hx hb dL_law_2517 (lv_at hl 4 rfl) ?_
  refine lv_iconst (v := 3) hx hb dL_law_2519 (by decide +kernel) ?_
  refine lv_iadd hx hb dL_law_2520 ?_
  refine va_sld hx hb hX hbl hbA hS vi_3 dL_law_2521 ?_
  refine lv_aload_n hx hb dL_law_2522 rfl (lv_at hl 3 rfl) ?_
  have hPc := hP.sub (ws' := [(x, .inr (12, xg)), (chA, .inl (chC, (4, .inr (.inr (.inr (.inr chF)))))), (ch0, .inr (2, chg0)), (ch1, .inr (2, chg1)), (ch2, .inr (2, chg2)), (ch3, .inr (2, chg3)), (oA, .inl (oC, (1, .inr (.inl oF))))]) [0, 1, 2, 3, 4, 5, 8] rfl
  have hDc := hD.sub (ws' := [(x, .inr (12, xg)), (chA, .inl (chC, (4, .inr (.inr (.inr (.inr chF)))))), (ch0, .inr (2, chg0)), (ch1, .inr (2, chg1)), (ch2, .inr (2, chg2)), (ch3, .inr (2, chg3)), (oA, .inl (oC, (1, .inr (.inl oF))))]) [0, 1, 2, 3, 4, 5, 8] (by decide) rfl
  have hKc := hK.sub (tys' := [(chC, .object "ChipFlow$Chip"), (oC, .long)]) [0, 2] rfl
  have hFc := va_free (wc := [(x, .inr (12, xg)), (chA, .inl (chC, (4, .inr (.inr (.inr (.inr chF)))))), (ch0, .inr (2, chg0)), (ch1, .inr (2, chg1)), (ch2, .inr (2, chg2)), (ch3, .inr (2, chg3)), (oA, .inl (oC, (1, .inr (.inl oF))))]) hD hS hA [0, 1, 2, 3, 4, 5, 8] rfl
  refine va_calli (vx_runSW (As := [.ref x, .int (xs ((0 : Int32) + 1).toNatClampNeg), .int (xs ((0 : Int32) + 2).toNatClampNeg), .int (xs ((0 : Int32) + 3).toNatClampNeg), .ref oA]) (rest := []) ⟨hx, hb, hml, hown, hts⟩ (ct_L_routed l hlt dC dI H.size (xs ((0 : Int32) + 1).toNatClampNeg) (xs ((0 : Int32) + 2).toNatClampNeg) (xs ((0 : Int32) + 3).toNatClampNeg) x xg chA chC chF ch0 ch1 ch2 ch3 chg0 chg1 chg2 chg3 hchg0 hchF0 hchg1 hchF1 hchg2 hchF2 hchg3 hchF3 oA oC oF hxg) (vx_cwSW 5 hts (gi_W wd_2618 wd_2619 wd_326 wd_2620) rfl rfl rfl (by decide +kernel) ⟨(Nat.le_of_ble_eq_true rfl), (Nat.le_of_ble_eq_true rfl)⟩) ⟨fun a U g mk q => by obtain ⟨q0, q1, qP, qK, qD, qT⟩ := q; exact ⟨q0, q1, qP, va_K.moved (u := U) (U := U.calling g mk a) (Vm.Alike.refl U.vm) qK, qD, th.moved (u := U) (U := U.calling g mk a) (Vm.Alike.refl U.vm) qT⟩, fun U hU hW => ⟨rfl, by rw [hU], by rw [hU]; exact hPc, va_K.moved hW.alike hKc, hDc.weaken (fun _ _ _ _ => trivial), by rw [hU]; exact ((hth.kept hS.2.1).narrow hFc).moved hW.alike⟩⟩ rfl rfl hl.1 rfl (lv_room (Nat.le_of_ble_eq_true rfl)) dL_law_2523 ⟨(Nat.le_of_ble_eq_true rfl), (Nat.le_of_ble_eq_true rfl)⟩) hS (fun q _ h => hFc q h) hFc (fun r u t H1 locs ht hvm hw hB hz1 hk1 hS => ?_)
  subst hw
  obtain ⟨hP1, -, hD1⟩ := hB
  rw [ht] at hP1
  obtain ⟨hP, hD⟩ := va_join (wr := [(m0, .inr (13, mg)), (mcA, .inl (mcC, (4, .inl (fun _ => 0))))]) (w1 := [(oA, .inl (oC, (1, .inr (.inl oF))))]) hP hD [0, 1, 2, 3, 4, 5, 8] [6, 7] rfl rfl (by decide) (by decide) hk1 hFc hP1 hD1
  have hP := hP.sub (ws' := [(m0, .inr (13, mg)), (mcA, .inl (mcC, (4, .inl (fun _ => 0))))]) [0, 1] rfl
  have hD := hD.sub (ws' := [(m0, .inr (13, mg)), (mcA, .inl (mcC, (4, .inl (fun _ => 0))))]) [0, 1] (by decide) rfl
  have hK := hK.sub (tys' := [(mcC, .boolean)]) [1] rfl
  generalize H1 = H at hP hS ⊢
  refine W.widen (k := 452) (n := 2709148) (Nat.le_of_ble_eq_true rfl) (Nat.le_of_ble_eq_true rfl) ?_
  refine lv_istore (lv' := [(5, .int 1), (0, .ref b), (1, .ref x), (2, .ref m0), (3, .ref oA), (4, .int 0)]) hx hb dL_law_2526 hl (by decide) rfl (fun ls hl => ?_)
  refine lv_aload_n hx hb dL_law_2528 rfl (lv_at hl 3 rfl) ?_
  refine lv_aload_n hx hb dL_law_2529 rfl (lv_at hl 1 rfl) ?_
  refine lv_iload hx hb dL_law_2530 (lv_at hl 5 rfl) ?_
  refine lv_iconst (v := 1) hx hb dL_law_2532 (by decide +kernel) ?_
  refine lv_iadd hx hb dL_law_2533 ?_
  refine va_sld hx hb hX hbl hbA hS vi_1 dL_law_2534 ?_
  refine lv_aload_n hx hb dL_law_2535 rfl (lv_at hl 1 rfl) ?_
  refine lv_iload hx hb dL_law_2536 (lv_at hl 5 rfl) ?_
  refine lv_iconst (v := 2) hx hb dL_law_2538 (by decide +kernel) ?_
  refine lv_iadd hx hb dL_law_2539 ?_
  refine va_sld hx hb hX hbl hbA hS vi_2 dL_law_2540 ?_
  refine lv_aload_n hx hb dL_law_2541 rfl (lv_at hl 1 rfl) ?_
  refine lv_iload hx hb dL_law_2542 (lv_at hl 5 rfl) ?_
  refine lv_iconst (v := 3) hx hb dL_law_2544 (by decide +kernel) ?_
  refine lv_iadd hx hb dL_law_2545 ?_
  refine va_sld hx hb hX hbl hbA hS vi_3 dL_law_2546 ?_
  have hFc := va_free (wc := [(m0, .inr (13, mg)), (mcA, .inl (mcC, (4, .inl (fun _ => 0))))]) hD hS hA [0, 1] rfl
  refine va_calli (va_runV (As := [.int (xs ((0 : Int32) + 1).toNatClampNeg), .int (xs ((0 : Int32) + 2).toNatClampNeg), .int (xs ((0 : Int32) + 3).toNatClampNeg)]) (rest := []) ⟨hx, hb, hml, hown, hts⟩ (ct_X13_routed l dC dI _ (xs ((0 : Int32) + 1).toNatClampNeg) (xs ((0 : Int32) + 2).toNatClampNeg) (xs ((0 : Int32) + 3).toNatClampNeg) m0 mg mcA mcC hmg) (cwV 3 hts (gi_V wd_4465 wd_4466 wd_4467 wd_340 wd_4468) rfl rfl rfl (by decide +kernel) ⟨(Nat.le_of_ble_eq_true rfl), (Nat.le_of_ble_eq_true rfl)⟩) ⟨fun a U g mk q => by obtain ⟨q0, q1, qP, qK, qD⟩ := q; exact ⟨q0, q1, qP, va_K.moved (u := U) (U := U.calling g mk a) (Vm.Alike.refl U.vm) qK, qD⟩, va_recv hK hP (ci := 13) (q0 := 0) rfl rfl, fun U hU hW => ⟨rfl, by rw [hU], by rw [hU]; exact hP, va_K.moved hW.alike hK, hD.weaken (fun _ _ _ _ => trivial)⟩⟩ rfl rfl hl.1 rfl (lv_room (Nat.le_of_ble_eq_true rfl)) dL_law_2547 ⟨(Nat.le_of_ble_eq_true rfl), (Nat.le_of_ble_eq_true rfl)⟩) hS (fun q _ h => hFc q h) hFc (fun r u t H1 locs ht hvm hw hB hz1 hk1 hS => ?_)
  subst hw
  obtain ⟨mg1, hmg1, hP1, hK1, hD1⟩ := hB
  rw [ht] at hP1
  have hK1 := va_K.moved hvm.symm hK1
  have hD1 := hD1.weaken (fun k q _ h => hFc q.1 h)
  generalize H1 = H at hP1 hS ⊢
  refine lv_istore (lv' := [(6, .int 0), (5, .int 1), (0, .ref b), (1, .ref x), (2, .ref m0), (3, .ref oA), (4, .int 0)]) hx hb dL_law_2550 hl (by decide) rfl (fun ls hl => ?_)
  refine lv_aload_n hx hb dL_law_2552 rfl (lv_at hl 4 rfl) ?_
  have hFc := va_free (wc := [(m0, .inr (13, mg1))]) hD1 hS hA [0] rfl
  refine va_calli (va_runV (As := []) (rest := []) ⟨hx, hb, hml, hown, hts⟩ (ct_X13_thrown l dC dI _ 1 m0 mg1 hmg1) (cwV 0 hts (gi_V wd_3015 wd_3016 wd_3017 wd_340 wd_3018) rfl rfl rfl (by decide +kernel) ⟨(Nat.le_of_ble_eq_true rfl), (Nat.le_of_ble_eq_true rfl)⟩) ⟨fun a U g mk q => by obtain ⟨q0, q1, qP, qK, qD⟩ := q; exact ⟨q0, q1, qP, va_K.moved (u := U) (U := U.calling g mk a) (Vm.Alike.refl U.vm) qK, qD⟩, va_recv hK1 hP1 (ci := 13) (q0 := 0) rfl rfl, fun U hU hW => ⟨rfl, by rw [hU], by rw [hU]; exact hP1, va_K.moved hW.alike hK1, hD1.weaken (fun _ _ _ _ => trivial)⟩⟩ rfl rfl hl.1 rfl (lv_room (Nat.le_of_ble_eq_true rfl)) dL_law_2553 ⟨(Nat.le_of_ble_eq_true rfl), (Nat.le_of_ble_eq_true rfl)⟩) hS (fun q _ h => hFc q h) hFc (fun r u t H1 locs ht hvm hw hB hz1 hk1 hS => ?_)
  subst hw
  refine lv_iload hx hb dL_law_2556 (lv_at hl 1 rfl) ?_
  refine lv_icmp_eq (tgt := 2563) hx hb dL_law_2558 (by decide) (fun c9 => ?_) (fun c9 => ?_)
  rotate_left
  · first | exact absurd c9 (by decide +kernel) | exact absurd (by decide +kernel) c9
  refine lv_iload hx hb dL_law_2563 (lv_at hl 1 rfl) ?_
  refine lv_if_ne (tgt := 2580) hx hb dL_law_2565 (by decide) (fun c9 => ?_) (fun c9 => ?_)
  rotate_left
  · first | exact absurd c9 (by decide +kernel) | exact absurd (by decide +kernel) c9
  refine lv_goto (tgt := 4099) hx hb dL_law_2580 (by decide) ?_
  refine W.widen (k := 470) (n := 2709300) (Nat.le_of_ble_eq_true rfl) (Nat.le_of_ble_eq_true rfl) ?_
  exact law_tail (v5 := 0) (v6 := 0) (lv := []) C0 hS (lv_sub hl [2, 6] rfl)
set_option maxHeartbeats 4000000 in
set_option maxRecDepth 100000 in
theorem law_draw {p : Program} {l : Launch} {e : Env} {s : State} {m : MethodId} {below : List Frame} {meth : Method} {c : Code} {b : Nat} {xs : Nat → Int32} (C0 : lw_At p s m meth c b 7 xs) {dC : Nat → ClassId} {dI : Nat → Nat → Nat} (hlt : l.stackTraces = false) (hth : th (fun q : Nat => s.heap.size ≤ q) s s.heap) (x : Nat) (xg : List Value) (chA : Nat) (chC : ClassId) (chF : Nat → Option Nat) (ch0 ch1 ch2 ch3 : Nat) (chg0 chg1 chg2 chg3 : List Value) (hchg0 : fx chg0 20 [(0, .int 0)]) (hchF0 : chF 0 = some ch0) (hchg1 : fx chg1 20 [(0, .int 0)]) (hchF1 : chF 1 = some ch1) (hchg2 : fx chg2 20 [(0, .int 0)]) (hchF2 : chF 2 = some ch2) (hchg3 : fx chg3 20 [(0, .int 0)]) (hchF3 : chF 3 = some ch3) (m0 : Nat) (mg : List Value) (mcA : Nat) (mcC : ClassId) (oA : Nat) (oC : ClassId) (oF : Nat → Int64) (hxg : fx xg 17 [(9, .ref chA)]) (hmg : fx mg 225 [(138, .ref mcA)]) (H : Heap) (locs : List Loc) (hK : va_K (dC, dI) CL [(chC, .object "ChipFlow$Chip"), (mcC, .boolean), (oC, .long)] s) (hP : va_P (dC, dI) CL [(x, .inr (12, xg)), (chA, .inl (chC, (4, .inr (.inr (.inr (.inr chF)))))), (ch0, .inr (2, chg0)), (ch1, .inr (2, chg1)), (ch2, .inr (2, chg2)), (ch3, .inr (2, chg3)), (m0, .inr (13, mg)), (mcA, .inl (mcC, (4, .inl (fun _ => 0)))), (oA, .inl (oC, (1, .inr (.inl oF))))] H) (hD : va_D (fun q : Nat => s.heap.size ≤ q) [(x, .inr (12, xg)), (chA, .inl (chC, (4, .inr (.inr (.inr (.inr chF)))))), (ch0, .inr (2, chg0)), (ch1, .inr (2, chg1)), (ch2, .inr (2, chg2)), (ch3, .inr (2, chg3)), (m0, .inr (13, mg)), (mcA, .inl (mcC, (4, .inl (fun _ => 0)))), (oA, .inl (oC, (1, .inr (.inl oF))))]) (hS : va_S (fun q : Nat => s.heap.size ≤ q) s.heap H locs) (ls : Array Slot) (hl : lv_has ls 7 [(0, .ref b), (1, .ref x), (2, .ref m0), (3, .ref oA), (4, .int 0)]) : W p l e room_1 s m #[Value.ref b] below meth c H locs 451 2709142 (lw_Z below #[Value.ref b] s) (F0 m 2583 ls []) := by
  obtain ⟨hx, hb, hr, hml, hown, hts0, hX, hbl, hlocks, hgv⟩ := id C0
  have hts : ∀ w ∈ BG, w.before _ s = true := fun w h => hts0 w (List.mem_filter.mp h).1
  have hown : s.vm.findClass RL = some m.cls := hown
  have hA : ∀ q : Nat, s.heap.size ≤ q → (fun q : Nat => s.heap.size ≤ q) q := fun _ h => h
  have hbA : ¬ (fun q : Nat => s.heap.size ≤ q) b := Nat.not_le.mpr hbl
  refine lv_aload_n hx hb dL_law_2583 rfl (lv_at hl 1 rfl) ?_
  refine lv_aload_n hx hb dL_law_2584 rfl (lv_at hl 0 rfl) ?_
  refine lv_iload hx hb dL_law_2585 (lv_at hl 4 rfl) ?_
  refine lv_iconst (v := 1) hx hb dL_law_2587 (by decide +kernel) ?_
  refine lv_iadd hx hb dL_law_2588 ?_
  refine va_sld hx hb hX hbl hbA hS vi_1 dL_law_2589 ?_
  refine lv_aload_n hx hb dL_law_2590 rfl (lv_at hl 3 rfl) ?_
  have hPc := hP.sub (ws' := [(x, .inr (12, xg)), (chA, .inl (chC, (4, .inr (.inr (.inr (.inr chF)))))), (ch0, .inr (2, chg0)), (ch1, .inr (2, chg1)), (ch2, .inr (2, chg2)), (ch3, .inr (2, chg3)), (oA, .inl (oC, (1, .inr (.inl oF))))]) [0, 1, 2, 3, 4, 5, 8] rfl
  have hDc := hD.sub (ws' := [(x, .inr (12, xg)), (chA, .inl (chC, (4, .inr (.inr (.inr (.inr chF)))))), (ch0, .inr (2, chg0)), (ch1, .inr (2, chg1)), (ch2, .inr (2, chg2)), (ch3, .inr (2, chg3)), (oA, .inl (oC, (1, .inr (.inl oF))))]) [0, 1, 2, 3, 4, 5, 8] (by decide) rfl
  have hKc := hK.sub (tys' := [(chC, .object "ChipFlow$Chip"), (oC, .long)]) [0, 2] rfl
  have hFc := va_free (wc := [(x, .inr (12, xg)), (chA, .inl (chC, (4, .inr (.inr (.inr (.inr chF)))))), (ch0, .inr (2, chg0)), (ch1, .inr (2, chg1)), (ch2, .inr (2, chg2)), (ch3, .inr (2, chg3)), (oA, .inl (oC, (1, .inr (.inl oF))))]) hD hS hA [0, 1, 2, 3, 4, 5, 8] rfl
  refine va_calli (vx_runSW (As := [.ref x, .int (xs ((0 : Int32) + 1).toNatClampNeg), .ref oA]) (rest := []) ⟨hx, hb, hml, hown, hts⟩ (ct_L_draw l hlt dC dI H.size (xs ((0 : Int32) + 1).toNatClampNeg) x xg chA chC chF ch0 ch1 ch2 ch3 chg0 chg1 chg2 chg3 hchg0 hchF0 hchg1 hchF1 hchg2 hchF2 hchg3 hchF3 oA oC oF hxg) (vx_cwSW 3 hts (gi_W wd_2636 wd_2637 wd_326 wd_2638) rfl rfl rfl (by decide +kernel) ⟨(Nat.le_of_ble_eq_true rfl), (Nat.le_of_ble_eq_true rfl)⟩) ⟨fun a U g mk q => by obtain ⟨q0, q1, qP, qK, qD, qT⟩ := q; exact ⟨q0, q1, qP, va_K.moved (u := U) (U := U.calling g mk a) (Vm.Alike.refl U.vm) qK, qD, th.moved (u := U) (U := U.calling g mk a) (Vm.Alike.refl U.vm) qT⟩, fun U hU hW => ⟨rfl, by rw [hU], by rw [hU]; exact hPc, va_K.moved hW.alike hKc, hDc.weaken (fun _ _ _ _ => trivial), by rw [hU]; exact ((hth.kept hS.2.1).narrow hFc).moved hW.alike⟩⟩ rfl rfl hl.1 rfl (lv_room (Nat.le_of_ble_eq_true rfl)) dL_law_2591 ⟨(Nat.le_of_ble_eq_true rfl), (Nat.le_of_ble_eq_true rfl)⟩) hS (fun q _ h => hFc q h) hFc (fun r u t H1 locs ht hvm hw hB hz1 hk1 hS => ?_)
  subst hw
  obtain ⟨hP1, -, hD1⟩ := hB
  rw [ht] at hP1
  obtain ⟨hP, hD⟩ := va_join (wr := [(m0, .inr (13, mg)), (mcA, .inl (mcC, (4, .inl (fun _ => 0))))]) (w1 := [(oA, .inl (oC, (1, .inr (.inl oF))))]) hP hD [0, 1, 2, 3, 4, 5, 8] [6, 7] rfl rfl (by decide) (by decide) hk1 hFc hP1 hD1
  have hP := hP.sub (ws' := [(m0, .inr (13, mg)), (mcA, .inl (mcC, (4, .inl (fun _ => 0))))]) [0, 1] rfl
  have hD := hD.sub (ws' := [(m0, .inr (13, mg)), (mcA, .inl (mcC, (4, .inl (fun _ => 0))))]) [0, 1] (by decide) rfl
  have hK := hK.sub (tys' := [(mcC, .boolean)]) [1] rfl
  generalize H1 = H at hP hS ⊢
  refine W.widen (k := 452) (n := 2709148) (Nat.le_of_ble_eq_true rfl) (Nat.le_of_ble_eq_true rfl) ?_
  refine lv_istore (lv' := [(5, .int 1), (0, .ref b), (1, .ref x), (2, .ref m0), (3, .ref oA), (4, .int 0)]) hx hb dL_law_2594 hl (by decide) rfl (fun ls hl => ?_)
  refine lv_aload_n hx hb dL_law_2596 rfl (lv_at hl 3 rfl) ?_
  refine lv_aload_n hx hb dL_law_2597 rfl (lv_at hl 1 rfl) ?_
  refine lv_iload hx hb dL_law_2598 (lv_at hl 5 rfl) ?_
  refine lv_iconst (v := 1) hx hb dL_law_2600 (by decide +kernel) ?_
  refine lv_iadd hx hb dL_law_2601 ?_
  refine va_sld hx hb hX hbl hbA hS vi_1 dL_law_2602 ?_
  have hFc := va_free (wc := [(m0, .inr (13, mg)), (mcA, .inl (mcC, (4, .inl (fun _ => 0))))]) hD hS hA [0, 1] rfl
  refine va_calli (va_runV (As := [.int (xs ((0 : Int32) + 1).toNatClampNeg)]) (rest := []) ⟨hx, hb, hml, hown, hts⟩ (ct_X13_draw l dC dI _ (xs ((0 : Int32) + 1).toNatClampNeg) m0 mg mcA mcC hmg) (cwV 1 hts (gi_V wd_4469 wd_4470 wd_4471 wd_340 wd_4472) rfl rfl rfl (by decide +kernel) ⟨(Nat.le_of_ble_eq_true rfl), (Nat.le_of_ble_eq_true rfl)⟩) ⟨fun a U g mk q => by obtain ⟨q0, q1, qP, qK, qD⟩ := q; exact ⟨q0, q1, qP, va_K.moved (u := U) (U := U.calling g mk a) (Vm.Alike.refl U.vm) qK, qD⟩, va_recv hK hP (ci := 13) (q0 := 0) rfl rfl, fun U hU hW => ⟨rfl, by rw [hU], by rw [hU]; exact hP, va_K.moved hW.alike hK, hD.weaken (fun _ _ _ _ => trivial)⟩⟩ rfl rfl hl.1 rfl (lv_room (Nat.le_of_ble_eq_true rfl)) dL_law_2603 ⟨(Nat.le_of_ble_eq_true rfl), (Nat.le_of_ble_eq_true rfl)⟩) hS (fun q _ h => hFc q h) hFc (fun r u t H1 locs ht hvm hw hB hz1 hk1 hS => ?_)
  subst hw
  obtain ⟨mg1, hmg1, hP1, hK1, hD1⟩ := hB
  rw [ht] at hP1
  have hK1 := va_K.moved hvm.symm hK1
  have hD1 := hD1.weaken (fun k q _ h => hFc q.1 h)
  generalize H1 = H at hP1 hS ⊢
  refine lv_istore (lv' := [(6, .int 0), (5, .int 1), (0, .ref b), (1, .ref x), (2, .ref m0), (3, .ref oA), (4, .int 0)]) hx hb dL_law_2606 hl (by decide) rfl (fun ls hl => ?_)
  refine lv_aload_n hx hb dL_law_2608 rfl (lv_at hl 4 rfl) ?_
  have hFc := va_free (wc := [(m0, .inr (13, mg1))]) hD1 hS hA [0] rfl
  refine va_calli (va_runV (As := []) (rest := []) ⟨hx, hb, hml, hown, hts⟩ (ct_X13_thrown l dC dI _ 1 m0 mg1 hmg1) (cwV 0 hts (gi_V wd_3015 wd_3016 wd_3017 wd_340 wd_3018) rfl rfl rfl (by decide +kernel) ⟨(Nat.le_of_ble_eq_true rfl), (Nat.le_of_ble_eq_true rfl)⟩) ⟨fun a U g mk q => by obtain ⟨q0, q1, qP, qK, qD⟩ := q; exact ⟨q0, q1, qP, va_K.moved (u := U) (U := U.calling g mk a) (Vm.Alike.refl U.vm) qK, qD⟩, va_recv hK1 hP1 (ci := 13) (q0 := 0) rfl rfl, fun U hU hW => ⟨rfl, by rw [hU], by rw [hU]; exact hP1, va_K.moved hW.alike hK1, hD1.weaken (fun _ _ _ _ => trivial)⟩⟩ rfl rfl hl.1 rfl (lv_room (Nat.le_of_ble_eq_true rfl)) dL_law_2609 ⟨(Nat.le_of_ble_eq_true rfl), (Nat.le_of_ble_eq_true rfl)⟩) hS (fun q _ h => hFc q h) hFc (fun r u t H1 locs ht hvm hw hB hz1 hk1 hS => ?_)
  subst hw
  refine lv_iload hx hb dL_law_2612 (lv_at hl 1 rfl) ?_
  refine lv_icmp_eq (tgt := 2619) hx hb dL_law_2614 (by decide) (fun c9 => ?_) (fun c9 => ?_)
  rotate_left
  · first | exact absurd c9 (by decide +kernel) | exact absurd (by decide +kernel) c9
  refine lv_iload hx hb dL_law_2619 (lv_at hl 1 rfl) ?_
  refine lv_if_ne (tgt := 2636) hx hb dL_law_2621 (by decide) (fun c9 => ?_) (fun c9 => ?_)
  rotate_left
  · first | exact absurd c9 (by decide +kernel) | exact absurd (by decide +kernel) c9
  refine lv_goto (tgt := 4099) hx hb dL_law_2636 (by decide) ?_
  refine W.widen (k := 470) (n := 2709300) (Nat.le_of_ble_eq_true rfl) (Nat.le_of_ble_eq_true rfl) ?_
  exact law_tail (v5 := 0) (v6 := 0) (lv := []) C0 hS (lv_sub hl [2, 6] rfl)
set_option maxHeartbeats 4000000 in
set_option maxRecDepth 100000 in
theorem law_box {p : Program} {l : Launch} {e : Env} {s : State} {m : MethodId} {below : List Frame} {meth : Method} {c : Code} {b : Nat} {xs : Nat → Int32} (C0 : lw_At p s m meth c b 7 xs) {dC : Nat → ClassId} {dI : Nat → Nat → Nat} (hlt : l.stackTraces = false) (hth : th (fun q : Nat => s.heap.size ≤ q) s s.heap) (x : Nat) (xg : List Value) (chA : Nat) (chC : ClassId) (chF : Nat → Option Nat) (ch0 ch1 ch2 ch3 : Nat) (chg0 chg1 chg2 chg3 : List Value) (hchg0 : fx chg0 20 [(0, .int 0)]) (hchF0 : chF 0 = some ch0) (hchg1 : fx chg1 20 [(0, .int 0)]) (hchF1 : chF 1 = some ch1) (hchg2 : fx chg2 20 [(0, .int 0)]) (hchF2 : chF 2 = some ch2) (hchg3 : fx chg3 20 [(0, .int 0)]) (hchF3 : chF 3 = some ch3) (m0 : Nat) (mg : List Value) (mcA : Nat) (mcC : ClassId) (oA : Nat) (oC : ClassId) (oF : Nat → Int64) (hxg : fx xg 17 [(9, .ref chA)]) (hmg : fx mg 225 [(138, .ref mcA)]) (H : Heap) (locs : List Loc) (hK : va_K (dC, dI) CL [(chC, .object "ChipFlow$Chip"), (mcC, .boolean), (oC, .long)] s) (hP : va_P (dC, dI) CL [(x, .inr (12, xg)), (chA, .inl (chC, (4, .inr (.inr (.inr (.inr chF)))))), (ch0, .inr (2, chg0)), (ch1, .inr (2, chg1)), (ch2, .inr (2, chg2)), (ch3, .inr (2, chg3)), (m0, .inr (13, mg)), (mcA, .inl (mcC, (4, .inl (fun _ => 0)))), (oA, .inl (oC, (1, .inr (.inl oF))))] H) (hD : va_D (fun q : Nat => s.heap.size ≤ q) [(x, .inr (12, xg)), (chA, .inl (chC, (4, .inr (.inr (.inr (.inr chF)))))), (ch0, .inr (2, chg0)), (ch1, .inr (2, chg1)), (ch2, .inr (2, chg2)), (ch3, .inr (2, chg3)), (m0, .inr (13, mg)), (mcA, .inl (mcC, (4, .inl (fun _ => 0)))), (oA, .inl (oC, (1, .inr (.inl oF))))]) (hS : va_S (fun q : Nat => s.heap.size ≤ q) s.heap H locs) (ls : Array Slot) (hl : lv_has ls 7 [(0, .ref b), (1, .ref x), (2, .ref m0), (3, .ref oA), (4, .int 0)]) : W p l e room_1 s m #[Value.ref b] below meth c H locs 451 2709142 (lw_Z below #[Value.ref b] s) (F0 m 2639 ls []) := by
  obtain ⟨hx, hb, hr, hml, hown, hts0, hX, hbl, hlocks, hgv⟩ := id C0
  have hts : ∀ w ∈ BG, w.before _ s = true := fun w h => hts0 w (List.mem_filter.mp h).1
  have hown : s.vm.findClass RL = some m.cls := hown
  have hA : ∀ q : Nat, s.heap.size ≤ q → (fun q : Nat => s.heap.size ≤ q) q := fun _ h => h
  have hbA : ¬ (fun q : Nat => s.heap.size ≤ q) b := Nat.not_le.mpr hbl
  refine lv_aload_n hx hb dL_law_2639 rfl (lv_at hl 1 rfl) ?_
  refine lv_aload_n hx hb dL_law_2640 rfl (lv_at hl 0 rfl) ?_
  refine lv_iload hx hb dL_law_2641 (lv_at hl 4 rfl) ?_
  refine lv_iconst (v := 1) hx hb dL_law_2643 (by decide +kernel) ?_
  refine lv_iadd hx hb dL_law_2644 ?_
  refine va_sld hx hb hX hbl hbA hS vi_1 dL_law_2645 ?_
  refine lv_aload_n hx hb dL_law_2646 rfl (lv_at hl 0 rfl) ?_
  refine lv_iload hx hb dL_law_2647 (lv_at hl 4 rfl) ?_
  refine lv_iconst (v := 2) hx hb dL_law_2649 (by decide +kernel) ?_
  refine lv_iadd hx hb dL_law_2650 ?_
  refine va_sld hx hb hX hbl hbA hS vi_2 dL_law_2651 ?_
  refine lv_aload_n hx hb dL_law_2652 rfl (lv_at hl 0 rfl) ?_
  refine lv_iload hx hb dL_law_2653 (lv_at hl 4 rfl) ?_
  refine lv_iconst (v := 3) hx hb dL_law_2655 (by decide +kernel) ?_
  refine lv_iadd hx hb dL_law_2656 ?_
  refine va_sld hx hb hX hbl hbA hS vi_3 dL_law_2657 ?_
  refine lv_aload_n hx hb dL_law_2658 rfl (lv_at hl 3 rfl) ?_
  have hPc := hP.sub (ws' := [(x, .inr (12, xg)), (chA, .inl (chC, (4, .inr (.inr (.inr (.inr chF)))))), (ch0, .inr (2, chg0)), (ch1, .inr (2, chg1)), (ch2, .inr (2, chg2)), (ch3, .inr (2, chg3)), (oA, .inl (oC, (1, .inr (.inl oF))))]) [0, 1, 2, 3, 4, 5, 8] rfl
  have hDc := hD.sub (ws' := [(x, .inr (12, xg)), (chA, .inl (chC, (4, .inr (.inr (.inr (.inr chF)))))), (ch0, .inr (2, chg0)), (ch1, .inr (2, chg1)), (ch2, .inr (2, chg2)), (ch3, .inr (2, chg3)), (oA, .inl (oC, (1, .inr (.inl oF))))]) [0, 1, 2, 3, 4, 5, 8] (by decide) rfl
  have hKc := hK.sub (tys' := [(chC, .object "ChipFlow$Chip"), (oC, .long)]) [0, 2] rfl
  have hFc := va_free (wc := [(x, .inr (12, xg)), (chA, .inl (chC, (4, .inr (.inr (.inr (.inr chF)))))), (ch0, .inr (2, chg0)), (ch1, .inr (2, chg1)), (ch2, .inr (2, chg2)), (ch3, .inr (2, chg3)), (oA, .inl (oC, (1, .inr (.inl oF))))]) hD hS hA [0, 1, 2, 3, 4, 5, 8] rfl
  refine va_calli (vx_runSW (As := [.ref x, .int (xs ((0 : Int32) + 1).toNatClampNeg), .int (xs ((0 : Int32) + 2).toNatClampNeg), .int (xs ((0 : Int32) + 3).toNatClampNeg), .ref oA]) (rest := []) ⟨hx, hb, hml, hown, hts⟩ (ct_L_box l hlt dC dI H.size (xs ((0 : Int32) + 1).toNatClampNeg) (xs ((0 : Int32) + 2).toNatClampNeg) (xs ((0 : Int32) + 3).toNatClampNeg) x xg chA chC chF ch0 ch1 ch2 ch3 chg0 chg1 chg2 chg3 hchg0 hchF0 hchg1 hchF1 hchg2 hchF2 hchg3 hchF3 oA oC oF hxg) (vx_cwSW 5 hts (gi_W wd_2672 wd_2673 wd_326 wd_2674) rfl rfl rfl (by decide +kernel) ⟨(Nat.le_of_ble_eq_true rfl), (Nat.le_of_ble_eq_true rfl)⟩) ⟨fun a U g mk q => by obtain ⟨q0, q1, qP, qK, qD, qT⟩ := q; exact ⟨q0, q1, qP, va_K.moved (u := U) (U := U.calling g mk a) (Vm.Alike.refl U.vm) qK, qD, th.moved (u := U) (U := U.calling g mk a) (Vm.Alike.refl U.vm) qT⟩, fun U hU hW => ⟨rfl, by rw [hU], by rw [hU]; exact hPc, va_K.moved hW.alike hKc, hDc.weaken (fun _ _ _ _ => trivial), by rw [hU]; exact ((hth.kept hS.2.1).narrow hFc).moved hW.alike⟩⟩ rfl rfl hl.1 rfl (lv_room (Nat.le_of_ble_eq_true rfl)) dL_law_2659 ⟨(Nat.le_of_ble_eq_true rfl), (Nat.le_of_ble_eq_true rfl)⟩) hS (fun q _ h => hFc q h) hFc (fun r u t H1 locs ht hvm hw hB hz1 hk1 hS => ?_)
  subst hw
  obtain ⟨hP1, -, hD1⟩ := hB
  rw [ht] at hP1
  obtain ⟨hP, hD⟩ := va_join (wr := [(m0, .inr (13, mg)), (mcA, .inl (mcC, (4, .inl (fun _ => 0))))]) (w1 := [(oA, .inl (oC, (1, .inr (.inl oF))))]) hP hD [0, 1, 2, 3, 4, 5, 8] [6, 7] rfl rfl (by decide) (by decide) hk1 hFc hP1 hD1
  have hP := hP.sub (ws' := [(m0, .inr (13, mg)), (mcA, .inl (mcC, (4, .inl (fun _ => 0))))]) [0, 1] rfl
  have hD := hD.sub (ws' := [(m0, .inr (13, mg)), (mcA, .inl (mcC, (4, .inl (fun _ => 0))))]) [0, 1] (by decide) rfl
  have hK := hK.sub (tys' := [(mcC, .boolean)]) [1] rfl
  generalize H1 = H at hP hS ⊢
  refine W.widen (k := 452) (n := 2709148) (Nat.le_of_ble_eq_true rfl) (Nat.le_of_ble_eq_true rfl) ?_
  refine lv_istore (lv' := [(5, .int 1), (0, .ref b), (1, .ref x), (2, .ref m0), (3, .ref oA), (4, .int 0)]) hx hb dL_law_2662 hl (by decide) rfl (fun ls hl => ?_)
  refine lv_aload_n hx hb dL_law_2664 rfl (lv_at hl 3 rfl) ?_
  refine lv_aload_n hx hb dL_law_2665 rfl (lv_at hl 1 rfl) ?_
  refine lv_iload hx hb dL_law_2666 (lv_at hl 5 rfl) ?_
  refine lv_iconst (v := 1) hx hb dL_law_2668 (by decide +kernel) ?_
  refine lv_iadd hx hb dL_law_2669 ?_
  refine va_sld hx hb hX hbl hbA hS vi_1 dL_law_2670 ?_
  refine lv_aload_n hx hb dL_law_2671 rfl (lv_at hl 1 rfl) ?_
  refine lv_iload hx hb dL_law_2672 (lv_at hl 5 rfl) ?_
  refine lv_iconst (v := 2) hx hb dL_law_2674 (by decide +kernel) ?_
  refine lv_iadd hx hb dL_law_2675 ?_
  refine va_sld hx hb hX hbl hbA hS vi_2 dL_law_2676 ?_
  refine lv_aload_n hx hb dL_law_2677 rfl (lv_at hl 1 rfl) ?_
  refine lv_iload hx hb dL_law_2678 (lv_at hl 5 rfl) ?_
  refine lv_iconst (v := 3) hx hb dL_law_2680 (by decide +kernel) ?_
  refine lv_iadd hx hb dL_law_2681 ?_
  refine va_sld hx hb hX hbl hbA hS vi_3 dL_law_2682 ?_
  have hFc := va_free (wc := [(m0, .inr (13, mg)), (mcA, .inl (mcC, (4, .inl (fun _ => 0))))]) hD hS hA [0, 1] rfl
  refine va_calli (va_runV (As := [.int (xs ((0 : Int32) + 1).toNatClampNeg), .int (xs ((0 : Int32) + 2).toNatClampNeg), .int (xs ((0 : Int32) + 3).toNatClampNeg)]) (rest := []) ⟨hx, hb, hml, hown, hts⟩ (ct_X13_box l dC dI _ (xs ((0 : Int32) + 1).toNatClampNeg) (xs ((0 : Int32) + 2).toNatClampNeg) (xs ((0 : Int32) + 3).toNatClampNeg) m0 mg mcA mcC hmg) (cwV 3 hts (gi_V wd_4493 wd_4494 wd_4495 wd_340 wd_4496) rfl rfl rfl (by decide +kernel) ⟨(Nat.le_of_ble_eq_true rfl), (Nat.le_of_ble_eq_true rfl)⟩) ⟨fun a U g mk q => by obtain ⟨q0, q1, qP, qK, qD⟩ := q; exact ⟨q0, q1, qP, va_K.moved (u := U) (U := U.calling g mk a) (Vm.Alike.refl U.vm) qK, qD⟩, va_recv hK hP (ci := 13) (q0 := 0) rfl rfl, fun U hU hW => ⟨rfl, by rw [hU], by rw [hU]; exact hP, va_K.moved hW.alike hK, hD.weaken (fun _ _ _ _ => trivial)⟩⟩ rfl rfl hl.1 rfl (lv_room (Nat.le_of_ble_eq_true rfl)) dL_law_2683 ⟨(Nat.le_of_ble_eq_true rfl), (Nat.le_of_ble_eq_true rfl)⟩) hS (fun q _ h => hFc q h) hFc (fun r u t H1 locs ht hvm hw hB hz1 hk1 hS => ?_)
  subst hw
  obtain ⟨mg1, hmg1, hP1, hK1, hD1⟩ := hB
  rw [ht] at hP1
  have hK1 := va_K.moved hvm.symm hK1
  have hD1 := hD1.weaken (fun k q _ h => hFc q.1 h)
  generalize H1 = H at hP1 hS ⊢
  refine lv_istore (lv' := [(6, .int 0), (5, .int 1), (0, .ref b), (1, .ref x), (2, .ref m0), (3, .ref oA), (4, .int 0)]) hx hb dL_law_2686 hl (by decide) rfl (fun ls hl => ?_)
  refine lv_aload_n hx hb dL_law_2688 rfl (lv_at hl 4 rfl) ?_
  have hFc := va_free (wc := [(m0, .inr (13, mg1))]) hD1 hS hA [0] rfl
  refine va_calli (va_runV (As := []) (rest := []) ⟨hx, hb, hml, hown, hts⟩ (ct_X13_thrown l dC dI _ 1 m0 mg1 hmg1) (cwV 0 hts (gi_V wd_3015 wd_3016 wd_3017 wd_340 wd_3018) rfl rfl rfl (by decide +kernel) ⟨(Nat.le_of_ble_eq_true rfl), (Nat.le_of_ble_eq_true rfl)⟩) ⟨fun a U g mk q => by obtain ⟨q0, q1, qP, qK, qD⟩ := q; exact ⟨q0, q1, qP, va_K.moved (u := U) (U := U.calling g mk a) (Vm.Alike.refl U.vm) qK, qD⟩, va_recv hK1 hP1 (ci := 13) (q0 := 0) rfl rfl, fun U hU hW => ⟨rfl, by rw [hU], by rw [hU]; exact hP1, va_K.moved hW.alike hK1, hD1.weaken (fun _ _ _ _ => trivial)⟩⟩ rfl rfl hl.1 rfl (lv_room (Nat.le_of_ble_eq_true rfl)) dL_law_2689 ⟨(Nat.le_of_ble_eq_true rfl), (Nat.le_of_ble_eq_true rfl)⟩) hS (fun q _ h => hFc q h) hFc (fun r u t H1 locs ht hvm hw hB hz1 hk1 hS => ?_)
  subst hw
  refine lv_iload hx hb dL_law_2692 (lv_at hl 1 rfl) ?_
  refine lv_icmp_eq (tgt := 2699) hx hb dL_law_2694 (by decide) (fun c9 => ?_) (fun c9 => ?_)
  rotate_left
  · first | exact absurd c9 (by decide +kernel) | exact absurd (by decide +kernel) c9
  refine lv_iload hx hb dL_law_2699 (lv_at hl 1 rfl) ?_
  refine lv_if_ne (tgt := 2716) hx hb dL_law_2701 (by decide) (fun c9 => ?_) (fun c9 => ?_)
  rotate_left
  · first | exact absurd c9 (by decide +kernel) | exact absurd (by decide +kernel) c9
  refine lv_goto (tgt := 4099) hx hb dL_law_2716 (by decide) ?_
  refine W.widen (k := 470) (n := 2709300) (Nat.le_of_ble_eq_true rfl) (Nat.le_of_ble_eq_true rfl) ?_
  exact law_tail (v5 := 0) (v6 := 0) (lv := []) C0 hS (lv_sub hl [2, 6] rfl)
set_option maxHeartbeats 4000000 in
set_option maxRecDepth 100000 in
theorem law_add {p : Program} {l : Launch} {e : Env} {s : State} {m : MethodId} {below : List Frame} {meth : Method} {c : Code} {b : Nat} {xs : Nat → Int32} (C0 : lw_At p s m meth c b 7 xs) {dC : Nat → ClassId} {dI : Nat → Nat → Nat} (hlt : l.stackTraces = false) (hth : th (fun q : Nat => s.heap.size ≤ q) s s.heap) (x : Nat) (xg : List Value) (chA : Nat) (chC : ClassId) (chF : Nat → Option Nat) (ch0 ch1 ch2 ch3 : Nat) (chg0 chg1 chg2 chg3 : List Value) (hchg0 : fx chg0 20 [(0, .int 0)]) (hchF0 : chF 0 = some ch0) (hchg1 : fx chg1 20 [(0, .int 0)]) (hchF1 : chF 1 = some ch1) (hchg2 : fx chg2 20 [(0, .int 0)]) (hchF2 : chF 2 = some ch2) (hchg3 : fx chg3 20 [(0, .int 0)]) (hchF3 : chF 3 = some ch3) (m0 : Nat) (mg : List Value) (mcA : Nat) (mcC : ClassId) (oA : Nat) (oC : ClassId) (oF : Nat → Int64) (hxg : fx xg 17 [(9, .ref chA)]) (hmg : fx mg 225 [(138, .ref mcA)]) (H : Heap) (locs : List Loc) (hK : va_K (dC, dI) CL [(chC, .object "ChipFlow$Chip"), (mcC, .boolean), (oC, .long)] s) (hP : va_P (dC, dI) CL [(x, .inr (12, xg)), (chA, .inl (chC, (4, .inr (.inr (.inr (.inr chF)))))), (ch0, .inr (2, chg0)), (ch1, .inr (2, chg1)), (ch2, .inr (2, chg2)), (ch3, .inr (2, chg3)), (m0, .inr (13, mg)), (mcA, .inl (mcC, (4, .inl (fun _ => 0)))), (oA, .inl (oC, (1, .inr (.inl oF))))] H) (hD : va_D (fun q : Nat => s.heap.size ≤ q) [(x, .inr (12, xg)), (chA, .inl (chC, (4, .inr (.inr (.inr (.inr chF)))))), (ch0, .inr (2, chg0)), (ch1, .inr (2, chg1)), (ch2, .inr (2, chg2)), (ch3, .inr (2, chg3)), (m0, .inr (13, mg)), (mcA, .inl (mcC, (4, .inl (fun _ => 0)))), (oA, .inl (oC, (1, .inr (.inl oF))))]) (hS : va_S (fun q : Nat => s.heap.size ≤ q) s.heap H locs) (ls : Array Slot) (hl : lv_has ls 7 [(0, .ref b), (1, .ref x), (2, .ref m0), (3, .ref oA), (4, .int 0)]) : W p l e room_1 s m #[Value.ref b] below meth c H locs 451 2709142 (lw_Z below #[Value.ref b] s) (F0 m 2719 ls []) := by
  obtain ⟨hx, hb, hr, hml, hown, hts0, hX, hbl, hlocks, hgv⟩ := id C0
  have hts : ∀ w ∈ BG, w.before _ s = true := fun w h => hts0 w (List.mem_filter.mp h).1
  have hown : s.vm.findClass RL = some m.cls := hown
  have hA : ∀ q : Nat, s.heap.size ≤ q → (fun q : Nat => s.heap.size ≤ q) q := fun _ h => h
  have hbA : ¬ (fun q : Nat => s.heap.size ≤ q) b := Nat.not_le.mpr hbl
  refine lv_aload_n hx hb dL_law_2719 rfl (lv_at hl 1 rfl) ?_
  refine lv_aload_n hx hb dL_law_2720 rfl (lv_at hl 0 rfl) ?_
  refine lv_iload hx hb dL_law_2721 (lv_at hl 4 rfl) ?_
  refine lv_iconst (v := 1) hx hb dL_law_2723 (by decide +kernel) ?_
  refine lv_iadd hx hb dL_law_2724 ?_
  refine va_sld hx hb hX hbl hbA hS vi_1 dL_law_2725 ?_
  refine lv_aload_n hx hb dL_law_2726 rfl (lv_at hl 0 rfl) ?_
  refine lv_iload hx hb dL_law_2727 (lv_at hl 4 rfl) ?_
  refine lv_iconst (v := 2) hx hb dL_law_2729 (by decide +kernel) ?_
  refine lv_iadd hx hb dL_law_2730 ?_
  refine va_sld hx hb hX hbl hbA hS vi_2 dL_law_2731 ?_
  refine lv_aload_n hx hb dL_law_2732 rfl (lv_at hl 0 rfl) ?_
  refine lv_iload hx hb dL_law_2733 (lv_at hl 4 rfl) ?_
  refine lv_iconst (v := 3) hx hb dL_law_2735 (by decide +kernel) ?_
  refine lv_iadd hx hb dL_law_2736 ?_
  refine va_sld hx hb hX hbl hbA hS vi_3 dL_law_2737 ?_
  refine lv_aload_n hx hb dL_law_2738 rfl (lv_at hl 0 rfl) ?_
  refine lv_iload hx hb dL_law_2739 (lv_at hl 4 rfl) ?_
  refine lv_iconst (v := 4) hx hb dL_law_2741 (by decide +kernel) ?_
  refine lv_iadd hx hb dL_law_2742 ?_
  refine va_sld hx hb hX hbl hbA hS vi_4 dL_law_2743 ?_
  refine lv_aload_n hx hb dL_law_2744 rfl (lv_at hl 0 rfl) ?_
  refine lv_iload hx hb dL_law_2745 (lv_at hl 4 rfl) ?_
  refine lv_iconst (v := 5) hx hb dL_law_2747 (by decide +kernel) ?_
  refine lv_iadd hx hb dL_law_2748 ?_
  refine va_sld hx hb hX hbl hbA hS vi_5 dL_law_2749 ?_
  refine lv_aload_n hx hb dL_law_2750 rfl (lv_at hl 0 rfl) ?_
  refine lv_iload hx hb dL_law_2751 (lv_at hl 4 rfl) ?_
  refine lv_bipush (v := 6) hx hb dL_law_2753 (by decide +kernel) ?_
  refine lv_iadd hx hb dL_law_2755 ?_
  refine va_sld hx hb hX hbl hbA hS vi_6 dL_law_2756 ?_
  refine lv_aload_n hx hb dL_law_2757 rfl (lv_at hl 3 rfl) ?_
  have hPc := hP.sub (ws' := [(x, .inr (12, xg)), (chA, .inl (chC, (4, .inr (.inr (.inr (.inr chF)))))), (ch0, .inr (2, chg0)), (ch1, .inr (2, chg1)), (ch2, .inr (2, chg2)), (ch3, .inr (2, chg3)), (oA, .inl (oC, (1, .inr (.inl oF))))]) [0, 1, 2, 3, 4, 5, 8] rfl
  have hDc := hD.sub (ws' := [(x, .inr (12, xg)), (chA, .inl (chC, (4, .inr (.inr (.inr (.inr chF)))))), (ch0, .inr (2, chg0)), (ch1, .inr (2, chg1)), (ch2, .inr (2, chg2)), (ch3, .inr (2, chg3)), (oA, .inl (oC, (1, .inr (.inl oF))))]) [0, 1, 2, 3, 4, 5, 8] (by decide) rfl
  have hKc := hK.sub (tys' := [(chC, .object "ChipFlow$Chip"), (oC, .long)]) [0, 2] rfl
  have hFc := va_free (wc := [(x, .inr (12, xg)), (chA, .inl (chC, (4, .inr (.inr (.inr (.inr chF)))))), (ch0, .inr (2, chg0)), (ch1, .inr (2, chg1)), (ch2, .inr (2, chg2)), (ch3, .inr (2, chg3)), (oA, .inl (oC, (1, .inr (.inl oF))))]) hD hS hA [0, 1, 2, 3, 4, 5, 8] rfl
  refine va_calli (vx_runSW (As := [.ref x, .int (xs ((0 : Int32) + 1).toNatClampNeg), .int (xs ((0 : Int32) + 2).toNatClampNeg), .int (xs ((0 : Int32) + 3).toNatClampNeg), .int (xs ((0 : Int32) + 4).toNatClampNeg), .int (xs ((0 : Int32) + 5).toNatClampNeg), .int (xs ((0 : Int32) + 6).toNatClampNeg), .ref oA]) (rest := []) ⟨hx, hb, hml, hown, hts⟩ (ct_L_add l hlt dC dI H.size (xs ((0 : Int32) + 1).toNatClampNeg) (xs ((0 : Int32) + 2).toNatClampNeg) (xs ((0 : Int32) + 3).toNatClampNeg) (xs ((0 : Int32) + 4).toNatClampNeg) (xs ((0 : Int32) + 5).toNatClampNeg) (xs ((0 : Int32) + 6).toNatClampNeg) x xg chA chC chF ch0 ch1 ch2 ch3 chg0 chg1 chg2 chg3 hchg0 hchF0 hchg1 hchF1 hchg2 hchF2 hchg3 hchF3 oA oC oF hxg) (vx_cwSW 8 hts (gi_W wd_2679 wd_2680 wd_326 wd_2681) rfl rfl rfl (by decide +kernel) ⟨(Nat.le_of_ble_eq_true rfl), (Nat.le_of_ble_eq_true rfl)⟩) ⟨fun a U g mk q => by obtain ⟨q0, q1, qP, qK, qD, qT⟩ := q; exact ⟨q0, q1, qP, va_K.moved (u := U) (U := U.calling g mk a) (Vm.Alike.refl U.vm) qK, qD, th.moved (u := U) (U := U.calling g mk a) (Vm.Alike.refl U.vm) qT⟩, fun U hU hW => ⟨rfl, by rw [hU], by rw [hU]; exact hPc, va_K.moved hW.alike hKc, hDc.weaken (fun _ _ _ _ => trivial), by rw [hU]; exact ((hth.kept hS.2.1).narrow hFc).moved hW.alike⟩⟩ rfl rfl hl.1 rfl (lv_room (Nat.le_of_ble_eq_true rfl)) dL_law_2758 ⟨(Nat.le_of_ble_eq_true rfl), (Nat.le_of_ble_eq_true rfl)⟩) hS (fun q _ h => hFc q h) hFc (fun r u t H1 locs ht hvm hw hB hz1 hk1 hS => ?_)
  subst hw
  obtain ⟨hP1, -, hD1⟩ := hB
  rw [ht] at hP1
  obtain ⟨hP, hD⟩ := va_join (wr := [(m0, .inr (13, mg)), (mcA, .inl (mcC, (4, .inl (fun _ => 0))))]) (w1 := [(oA, .inl (oC, (1, .inr (.inl oF))))]) hP hD [0, 1, 2, 3, 4, 5, 8] [6, 7] rfl rfl (by decide) (by decide) hk1 hFc hP1 hD1
  have hP := hP.sub (ws' := [(m0, .inr (13, mg)), (mcA, .inl (mcC, (4, .inl (fun _ => 0))))]) [0, 1] rfl
  have hD := hD.sub (ws' := [(m0, .inr (13, mg)), (mcA, .inl (mcC, (4, .inl (fun _ => 0))))]) [0, 1] (by decide) rfl
  have hK := hK.sub (tys' := [(mcC, .boolean)]) [1] rfl
  generalize H1 = H at hP hS ⊢
  refine W.widen (k := 452) (n := 2709148) (Nat.le_of_ble_eq_true rfl) (Nat.le_of_ble_eq_true rfl) ?_
  refine lv_istore (lv' := [(5, .int 1), (0, .ref b), (1, .ref x), (2, .ref m0), (3, .ref oA), (4, .int 0)]) hx hb dL_law_2761 hl (by decide) rfl (fun ls hl => ?_)
  refine lv_aload_n hx hb dL_law_2763 rfl (lv_at hl 3 rfl) ?_
  refine lv_aload_n hx hb dL_law_2764 rfl (lv_at hl 1 rfl) ?_
  refine lv_iload hx hb dL_law_2765 (lv_at hl 5 rfl) ?_
  refine lv_iconst (v := 1) hx hb dL_law_2767 (by decide +kernel) ?_
  refine lv_iadd hx hb dL_law_2768 ?_
  refine va_sld hx hb hX hbl hbA hS vi_1 dL_law_2769 ?_
  refine lv_aload_n hx hb dL_law_2770 rfl (lv_at hl 1 rfl) ?_
  refine lv_iload hx hb dL_law_2771 (lv_at hl 5 rfl) ?_
  refine lv_iconst (v := 2) hx hb dL_law_2773 (by decide +kernel) ?_
  refine lv_iadd hx hb dL_law_2774 ?_
  refine va_sld hx hb hX hbl hbA hS vi_2 dL_law_2775 ?_
  refine lv_aload_n hx hb dL_law_2776 rfl (lv_at hl 1 rfl) ?_
  refine lv_iload hx hb dL_law_2777 (lv_at hl 5 rfl) ?_
  refine lv_iconst (v := 3) hx hb dL_law_2779 (by decide +kernel) ?_
  refine lv_iadd hx hb dL_law_2780 ?_
  refine va_sld hx hb hX hbl hbA hS vi_3 dL_law_2781 ?_
  refine lv_aload_n hx hb dL_law_2782 rfl (lv_at hl 1 rfl) ?_
  refine lv_iload hx hb dL_law_2783 (lv_at hl 5 rfl) ?_
  refine lv_iconst (v := 4) hx hb dL_law_2785 (by decide +kernel) ?_
  refine lv_iadd hx hb dL_law_2786 ?_
  refine va_sld hx hb hX hbl hbA hS vi_4 dL_law_2787 ?_
  refine lv_aload_n hx hb dL_law_2788 rfl (lv_at hl 1 rfl) ?_
  refine lv_iload hx hb dL_law_2789 (lv_at hl 5 rfl) ?_
  refine lv_iconst (v := 5) hx hb dL_law_2791 (by decide +kernel) ?_
  refine lv_iadd hx hb dL_law_2792 ?_
  refine va_sld hx hb hX hbl hbA hS vi_5 dL_law_2793 ?_
  refine lv_aload_n hx hb dL_law_2794 rfl (lv_at hl 1 rfl) ?_
  refine lv_iload hx hb dL_law_2795 (lv_at hl 5 rfl) ?_
  refine lv_bipush (v := 6) hx hb dL_law_2797 (by decide +kernel) ?_
  refine lv_iadd hx hb dL_law_2799 ?_
  refine va_sld hx hb hX hbl hbA hS vi_6 dL_law_2800 ?_
  have hFc := va_free (wc := [(m0, .inr (13, mg)), (mcA, .inl (mcC, (4, .inl (fun _ => 0))))]) hD hS hA [0, 1] rfl
  refine va_calli (va_runV (As := [.int (xs ((0 : Int32) + 1).toNatClampNeg), .int (xs ((0 : Int32) + 2).toNatClampNeg), .int (xs ((0 : Int32) + 3).toNatClampNeg), .int (xs ((0 : Int32) + 4).toNatClampNeg), .int (xs ((0 : Int32) + 5).toNatClampNeg), .int (xs ((0 : Int32) + 6).toNatClampNeg)]) (rest := []) ⟨hx, hb, hml, hown, hts⟩ (ct_X13_add l dC dI _ (xs ((0 : Int32) + 1).toNatClampNeg) (xs ((0 : Int32) + 2).toNatClampNeg) (xs ((0 : Int32) + 3).toNatClampNeg) (xs ((0 : Int32) + 4).toNatClampNeg) (xs ((0 : Int32) + 5).toNatClampNeg) (xs ((0 : Int32) + 6).toNatClampNeg) m0 mg mcA mcC hmg) (cwV 6 hts (gi_V wd_4505 wd_4506 wd_4507 wd_340 wd_4508) rfl rfl rfl (by decide +kernel) ⟨(Nat.le_of_ble_eq_true rfl), (Nat.le_of_ble_eq_true rfl)⟩) ⟨fun a U g mk q => by obtain ⟨q0, q1, qP, qK, qD⟩ := q; exact ⟨q0, q1, qP, va_K.moved (u := U) (U := U.calling g mk a) (Vm.Alike.refl U.vm) qK, qD⟩, va_recv hK hP (ci := 13) (q0 := 0) rfl rfl, fun U hU hW => ⟨rfl, by rw [hU], by rw [hU]; exact hP, va_K.moved hW.alike hK, hD.weaken (fun _ _ _ _ => trivial)⟩⟩ rfl rfl hl.1 rfl (lv_room (Nat.le_of_ble_eq_true rfl)) dL_law_2801 ⟨(Nat.le_of_ble_eq_true rfl), (Nat.le_of_ble_eq_true rfl)⟩) hS (fun q _ h => hFc q h) hFc (fun r u t H1 locs ht hvm hw hB hz1 hk1 hS => ?_)
  subst hw
  obtain ⟨mg1, hmg1, hP1, hK1, hD1⟩ := hB
  rw [ht] at hP1
  have hK1 := va_K.moved hvm.symm hK1
  have hD1 := hD1.weaken (fun k q _ h => hFc q.1 h)
  generalize H1 = H at hP1 hS ⊢
  refine lv_istore (lv' := [(6, .int 0), (5, .int 1), (0, .ref b), (1, .ref x), (2, .ref m0), (3, .ref oA), (4, .int 0)]) hx hb dL_law_2804 hl (by decide) rfl (fun ls hl => ?_)
  refine lv_aload_n hx hb dL_law_2806 rfl (lv_at hl 4 rfl) ?_
  have hFc := va_free (wc := [(m0, .inr (13, mg1))]) hD1 hS hA [0] rfl
  refine va_calli (va_runV (As := []) (rest := []) ⟨hx, hb, hml, hown, hts⟩ (ct_X13_thrown l dC dI _ 1 m0 mg1 hmg1) (cwV 0 hts (gi_V wd_3015 wd_3016 wd_3017 wd_340 wd_3018) rfl rfl rfl (by decide +kernel) ⟨(Nat.le_of_ble_eq_true rfl), (Nat.le_of_ble_eq_true rfl)⟩) ⟨fun a U g mk q => by obtain ⟨q0, q1, qP, qK, qD⟩ := q; exact ⟨q0, q1, qP, va_K.moved (u := U) (U := U.calling g mk a) (Vm.Alike.refl U.vm) qK, qD⟩, va_recv hK1 hP1 (ci := 13) (q0 := 0) rfl rfl, fun U hU hW => ⟨rfl, by rw [hU], by rw [hU]; exact hP1, va_K.moved hW.alike hK1, hD1.weaken (fun _ _ _ _ => trivial)⟩⟩ rfl rfl hl.1 rfl (lv_room (Nat.le_of_ble_eq_true rfl)) dL_law_2807 ⟨(Nat.le_of_ble_eq_true rfl), (Nat.le_of_ble_eq_true rfl)⟩) hS (fun q _ h => hFc q h) hFc (fun r u t H1 locs ht hvm hw hB hz1 hk1 hS => ?_)
  subst hw
  refine lv_iload hx hb dL_law_2810 (lv_at hl 1 rfl) ?_
  refine lv_icmp_eq (tgt := 2817) hx hb dL_law_2812 (by decide) (fun c9 => ?_) (fun c9 => ?_)
  rotate_left
  · first | exact absurd c9 (by decide +kernel) | exact absurd (by decide +kernel) c9
  refine lv_iload hx hb dL_law_2817 (lv_at hl 1 rfl) ?_
  refine lv_if_ne (tgt := 2834) hx hb dL_law_2819 (by decide) (fun c9 => ?_) (fun c9 => ?_)
  rotate_left
  · first | exact absurd c9 (by decide +kernel) | exact absurd (by decide +kernel) c9
  refine lv_goto (tgt := 4099) hx hb dL_law_2834 (by decide) ?_
  refine W.widen (k := 470) (n := 2709300) (Nat.le_of_ble_eq_true rfl) (Nat.le_of_ble_eq_true rfl) ?_
  exact law_tail (v5 := 0) (v6 := 0) (lv := []) C0 hS (lv_sub hl [2, 6] rfl)
set_option maxHeartbeats 4000000 in
set_option maxRecDepth 100000 in
theorem law_erase {p : Program} {l : Launch} {e : Env} {s : State} {m : MethodId} {below : List Frame} {meth : Method} {c : Code} {b : Nat} {xs : Nat → Int32} (C0 : lw_At p s m meth c b 7 xs) {dC : Nat → ClassId} {dI : Nat → Nat → Nat} (hlt : l.stackTraces = false) (hth : th (fun q : Nat => s.heap.size ≤ q) s s.heap) (x : Nat) (xg : List Value) (chA : Nat) (chC : ClassId) (chF : Nat → Option Nat) (ch0 ch1 ch2 ch3 : Nat) (chg0 chg1 chg2 chg3 : List Value) (hchg0 : fx chg0 20 [(0, .int 0)]) (hchF0 : chF 0 = some ch0) (hchg1 : fx chg1 20 [(0, .int 0)]) (hchF1 : chF 1 = some ch1) (hchg2 : fx chg2 20 [(0, .int 0)]) (hchF2 : chF 2 = some ch2) (hchg3 : fx chg3 20 [(0, .int 0)]) (hchF3 : chF 3 = some ch3) (m0 : Nat) (mg : List Value) (mcA : Nat) (mcC : ClassId) (oA : Nat) (oC : ClassId) (oF : Nat → Int64) (hxg : fx xg 17 [(9, .ref chA)]) (hmg : fx mg 225 [(138, .ref mcA)]) (H : Heap) (locs : List Loc) (hK : va_K (dC, dI) CL [(chC, .object "ChipFlow$Chip"), (mcC, .boolean), (oC, .long)] s) (hP : va_P (dC, dI) CL [(x, .inr (12, xg)), (chA, .inl (chC, (4, .inr (.inr (.inr (.inr chF)))))), (ch0, .inr (2, chg0)), (ch1, .inr (2, chg1)), (ch2, .inr (2, chg2)), (ch3, .inr (2, chg3)), (m0, .inr (13, mg)), (mcA, .inl (mcC, (4, .inl (fun _ => 0)))), (oA, .inl (oC, (1, .inr (.inl oF))))] H) (hD : va_D (fun q : Nat => s.heap.size ≤ q) [(x, .inr (12, xg)), (chA, .inl (chC, (4, .inr (.inr (.inr (.inr chF)))))), (ch0, .inr (2, chg0)), (ch1, .inr (2, chg1)), (ch2, .inr (2, chg2)), (ch3, .inr (2, chg3)), (m0, .inr (13, mg)), (mcA, .inl (mcC, (4, .inl (fun _ => 0)))), (oA, .inl (oC, (1, .inr (.inl oF))))]) (hS : va_S (fun q : Nat => s.heap.size ≤ q) s.heap H locs) (ls : Array Slot) (hl : lv_has ls 7 [(0, .ref b), (1, .ref x), (2, .ref m0), (3, .ref oA), (4, .int 0)]) : W p l e room_1 s m #[Value.ref b] below meth c H locs 451 2709142 (lw_Z below #[Value.ref b] s) (F0 m 2837 ls []) := by
  obtain ⟨hx, hb, hr, hml, hown, hts0, hX, hbl, hlocks, hgv⟩ := id C0
  have hts : ∀ w ∈ BG, w.before _ s = true := fun w h => hts0 w (List.mem_filter.mp h).1
  have hown : s.vm.findClass RL = some m.cls := hown
  have hA : ∀ q : Nat, s.heap.size ≤ q → (fun q : Nat => s.heap.size ≤ q) q := fun _ h => h
  have hbA : ¬ (fun q : Nat => s.heap.size ≤ q) b := Nat.not_le.mpr hbl
  refine lv_aload_n hx hb dL_law_2837 rfl (lv_at hl 1 rfl) ?_
  refine lv_aload_n hx hb dL_law_2838 rfl (lv_at hl 0 rfl) ?_
  refine lv_iload hx hb dL_law_2839 (lv_at hl 4 rfl) ?_
  refine lv_iconst (v := 1) hx hb dL_law_2841 (by decide +kernel) ?_
  refine lv_iadd hx hb dL_law_2842 ?_
  refine va_sld hx hb hX hbl hbA hS vi_1 dL_law_2843 ?_
  refine lv_aload_n hx hb dL_law_2844 rfl (lv_at hl 0 rfl) ?_
  refine lv_iload hx hb dL_law_2845 (lv_at hl 4 rfl) ?_
  refine lv_iconst (v := 2) hx hb dL_law_2847 (by decide +kernel) ?_
  refine lv_iadd hx hb dL_law_2848 ?_
  refine va_sld hx hb hX hbl hbA hS vi_2 dL_law_2849 ?_
  refine lv_aload_n hx hb dL_law_2850 rfl (lv_at hl 3 rfl) ?_
  have hPc := hP.sub (ws' := [(x, .inr (12, xg)), (chA, .inl (chC, (4, .inr (.inr (.inr (.inr chF)))))), (ch0, .inr (2, chg0)), (ch1, .inr (2, chg1)), (ch2, .inr (2, chg2)), (ch3, .inr (2, chg3)), (oA, .inl (oC, (1, .inr (.inl oF))))]) [0, 1, 2, 3, 4, 5, 8] rfl
  have hDc := hD.sub (ws' := [(x, .inr (12, xg)), (chA, .inl (chC, (4, .inr (.inr (.inr (.inr chF)))))), (ch0, .inr (2, chg0)), (ch1, .inr (2, chg1)), (ch2, .inr (2, chg2)), (ch3, .inr (2, chg3)), (oA, .inl (oC, (1, .inr (.inl oF))))]) [0, 1, 2, 3, 4, 5, 8] (by decide) rfl
  have hKc := hK.sub (tys' := [(chC, .object "ChipFlow$Chip"), (oC, .long)]) [0, 2] rfl
  have hFc := va_free (wc := [(x, .inr (12, xg)), (chA, .inl (chC, (4, .inr (.inr (.inr (.inr chF)))))), (ch0, .inr (2, chg0)), (ch1, .inr (2, chg1)), (ch2, .inr (2, chg2)), (ch3, .inr (2, chg3)), (oA, .inl (oC, (1, .inr (.inl oF))))]) hD hS hA [0, 1, 2, 3, 4, 5, 8] rfl
  refine va_calli (vx_runSW (As := [.ref x, .int (xs ((0 : Int32) + 1).toNatClampNeg), .int (xs ((0 : Int32) + 2).toNatClampNeg), .ref oA]) (rest := []) ⟨hx, hb, hml, hown, hts⟩ (ct_L_erase l hlt dC dI H.size (xs ((0 : Int32) + 1).toNatClampNeg) (xs ((0 : Int32) + 2).toNatClampNeg) x xg chA chC chF ch0 ch1 ch2 ch3 chg0 chg1 chg2 chg3 hchg0 hchF0 hchg1 hchF1 hchg2 hchF2 hchg3 hchF3 oA oC oF hxg) (vx_cwSW 4 hts (gi_W wd_2688 wd_2689 wd_326 wd_2690) rfl rfl rfl (by decide +kernel) ⟨(Nat.le_of_ble_eq_true rfl), (Nat.le_of_ble_eq_true rfl)⟩) ⟨fun a U g mk q => by obtain ⟨q0, q1, qP, qK, qD, qT⟩ := q; exact ⟨q0, q1, qP, va_K.moved (u := U) (U := U.calling g mk a) (Vm.Alike.refl U.vm) qK, qD, th.moved (u := U) (U := U.calling g mk a) (Vm.Alike.refl U.vm) qT⟩, fun U hU hW => ⟨rfl, by rw [hU], by rw [hU]; exact hPc, va_K.moved hW.alike hKc, hDc.weaken (fun _ _ _ _ => trivial), by rw [hU]; exact ((hth.kept hS.2.1).narrow hFc).moved hW.alike⟩⟩ rfl rfl hl.1 rfl (lv_room (Nat.le_of_ble_eq_true rfl)) dL_law_2851 ⟨(Nat.le_of_ble_eq_true rfl), (Nat.le_of_ble_eq_true rfl)⟩) hS (fun q _ h => hFc q h) hFc (fun r u t H1 locs ht hvm hw hB hz1 hk1 hS => ?_)
  subst hw
  obtain ⟨hP1, -, hD1⟩ := hB
  rw [ht] at hP1
  obtain ⟨hP, hD⟩ := va_join (wr := [(m0, .inr (13, mg)), (mcA, .inl (mcC, (4, .inl (fun _ => 0))))]) (w1 := [(oA, .inl (oC, (1, .inr (.inl oF))))]) hP hD [0, 1, 2, 3, 4, 5, 8] [6, 7] rfl rfl (by decide) (by decide) hk1 hFc hP1 hD1
  have hP := hP.sub (ws' := [(m0, .inr (13, mg)), (mcA, .inl (mcC, (4, .inl (fun _ => 0))))]) [0, 1] rfl
  have hD := hD.sub (ws' := [(m0, .inr (13, mg)), (mcA, .inl (mcC, (4, .inl (fun _ => 0))))]) [0, 1] (by decide) rfl
  have hK := hK.sub (tys' := [(mcC, .boolean)]) [1] rfl
  generalize H1 = H at hP hS ⊢
  refine W.widen (k := 452) (n := 2709148) (Nat.le_of_ble_eq_true rfl) (Nat.le_of_ble_eq_true rfl) ?_
  refine lv_istore (lv' := [(5, .int 1), (0, .ref b), (1, .ref x), (2, .ref m0), (3, .ref oA), (4, .int 0)]) hx hb dL_law_2854 hl (by decide) rfl (fun ls hl => ?_)
  refine lv_aload_n hx hb dL_law_2856 rfl (lv_at hl 3 rfl) ?_
  refine lv_aload_n hx hb dL_law_2857 rfl (lv_at hl 1 rfl) ?_
  refine lv_iload hx hb dL_law_2858 (lv_at hl 5 rfl) ?_
  refine lv_iconst (v := 1) hx hb dL_law_2860 (by decide +kernel) ?_
  refine lv_iadd hx hb dL_law_2861 ?_
  refine va_sld hx hb hX hbl hbA hS vi_1 dL_law_2862 ?_
  refine lv_aload_n hx hb dL_law_2863 rfl (lv_at hl 1 rfl) ?_
  refine lv_iload hx hb dL_law_2864 (lv_at hl 5 rfl) ?_
  refine lv_iconst (v := 2) hx hb dL_law_2866 (by decide +kernel) ?_
  refine lv_iadd hx hb dL_law_2867 ?_
  refine va_sld hx hb hX hbl hbA hS vi_2 dL_law_2868 ?_
  have hFc := va_free (wc := [(m0, .inr (13, mg)), (mcA, .inl (mcC, (4, .inl (fun _ => 0))))]) hD hS hA [0, 1] rfl
  refine va_calli (va_runV (As := [.int (xs ((0 : Int32) + 1).toNatClampNeg), .int (xs ((0 : Int32) + 2).toNatClampNeg)]) (rest := []) ⟨hx, hb, hml, hown, hts⟩ (ct_X13_erase l dC dI _ (xs ((0 : Int32) + 1).toNatClampNeg) (xs ((0 : Int32) + 2).toNatClampNeg) m0 mg mcA mcC hmg) (cwV 2 hts (gi_V wd_4512 wd_4513 wd_4514 wd_340 wd_4515) rfl rfl rfl (by decide +kernel) ⟨(Nat.le_of_ble_eq_true rfl), (Nat.le_of_ble_eq_true rfl)⟩) ⟨fun a U g mk q => by obtain ⟨q0, q1, qP, qK, qD⟩ := q; exact ⟨q0, q1, qP, va_K.moved (u := U) (U := U.calling g mk a) (Vm.Alike.refl U.vm) qK, qD⟩, va_recv hK hP (ci := 13) (q0 := 0) rfl rfl, fun U hU hW => ⟨rfl, by rw [hU], by rw [hU]; exact hP, va_K.moved hW.alike hK, hD.weaken (fun _ _ _ _ => trivial)⟩⟩ rfl rfl hl.1 rfl (lv_room (Nat.le_of_ble_eq_true rfl)) dL_law_2869 ⟨(Nat.le_of_ble_eq_true rfl), (Nat.le_of_ble_eq_true rfl)⟩) hS (fun q _ h => hFc q h) hFc (fun r u t H1 locs ht hvm hw hB hz1 hk1 hS => ?_)
  subst hw
  obtain ⟨mg1, hmg1, hP1, hK1, hD1⟩ := hB
  rw [ht] at hP1
  have hK1 := va_K.moved hvm.symm hK1
  have hD1 := hD1.weaken (fun k q _ h => hFc q.1 h)
  generalize H1 = H at hP1 hS ⊢
  refine lv_istore (lv' := [(6, .int 0), (5, .int 1), (0, .ref b), (1, .ref x), (2, .ref m0), (3, .ref oA), (4, .int 0)]) hx hb dL_law_2872 hl (by decide) rfl (fun ls hl => ?_)
  refine lv_aload_n hx hb dL_law_2874 rfl (lv_at hl 4 rfl) ?_
  have hFc := va_free (wc := [(m0, .inr (13, mg1))]) hD1 hS hA [0] rfl
  refine va_calli (va_runV (As := []) (rest := []) ⟨hx, hb, hml, hown, hts⟩ (ct_X13_thrown l dC dI _ 1 m0 mg1 hmg1) (cwV 0 hts (gi_V wd_3015 wd_3016 wd_3017 wd_340 wd_3018) rfl rfl rfl (by decide +kernel) ⟨(Nat.le_of_ble_eq_true rfl), (Nat.le_of_ble_eq_true rfl)⟩) ⟨fun a U g mk q => by obtain ⟨q0, q1, qP, qK, qD⟩ := q; exact ⟨q0, q1, qP, va_K.moved (u := U) (U := U.calling g mk a) (Vm.Alike.refl U.vm) qK, qD⟩, va_recv hK1 hP1 (ci := 13) (q0 := 0) rfl rfl, fun U hU hW => ⟨rfl, by rw [hU], by rw [hU]; exact hP1, va_K.moved hW.alike hK1, hD1.weaken (fun _ _ _ _ => trivial)⟩⟩ rfl rfl hl.1 rfl (lv_room (Nat.le_of_ble_eq_true rfl)) dL_law_2875 ⟨(Nat.le_of_ble_eq_true rfl), (Nat.le_of_ble_eq_true rfl)⟩) hS (fun q _ h => hFc q h) hFc (fun r u t H1 locs ht hvm hw hB hz1 hk1 hS => ?_)
  subst hw
  refine lv_iload hx hb dL_law_2878 (lv_at hl 1 rfl) ?_
  refine lv_icmp_eq (tgt := 2885) hx hb dL_law_2880 (by decide) (fun c9 => ?_) (fun c9 => ?_)
  rotate_left
  · first | exact absurd c9 (by decide +kernel) | exact absurd (by decide +kernel) c9
  refine lv_iload hx hb dL_law_2885 (lv_at hl 1 rfl) ?_
  refine lv_if_ne (tgt := 2902) hx hb dL_law_2887 (by decide) (fun c9 => ?_) (fun c9 => ?_)
  rotate_left
  · first | exact absurd c9 (by decide +kernel) | exact absurd (by decide +kernel) c9
  refine lv_goto (tgt := 4099) hx hb dL_law_2902 (by decide) ?_
  refine W.widen (k := 470) (n := 2709300) (Nat.le_of_ble_eq_true rfl) (Nat.le_of_ble_eq_true rfl) ?_
  exact law_tail (v5 := 0) (v6 := 0) (lv := []) C0 hS (lv_sub hl [2, 6] rfl)
set_option maxHeartbeats 4000000 in
set_option maxRecDepth 100000 in
theorem law_check {p : Program} {l : Launch} {e : Env} {s : State} {m : MethodId} {below : List Frame} {meth : Method} {c : Code} {b : Nat} {xs : Nat → Int32} (C0 : lw_At p s m meth c b 7 xs) {dC : Nat → ClassId} {dI : Nat → Nat → Nat} (hlt : l.stackTraces = false) (hth : th (fun q : Nat => s.heap.size ≤ q) s s.heap) (x : Nat) (xg : List Value) (chA : Nat) (chC : ClassId) (chF : Nat → Option Nat) (ch0 ch1 ch2 ch3 : Nat) (chg0 chg1 chg2 chg3 : List Value) (hchg0 : fx chg0 20 [(0, .int 0)]) (hchF0 : chF 0 = some ch0) (hchg1 : fx chg1 20 [(0, .int 0)]) (hchF1 : chF 1 = some ch1) (hchg2 : fx chg2 20 [(0, .int 0)]) (hchF2 : chF 2 = some ch2) (hchg3 : fx chg3 20 [(0, .int 0)]) (hchF3 : chF 3 = some ch3) (m0 : Nat) (mg : List Value) (mcA : Nat) (mcC : ClassId) (oA : Nat) (oC : ClassId) (oF : Nat → Int64) (hxg : fx xg 17 [(9, .ref chA)]) (hmg : fx mg 225 [(138, .ref mcA)]) (H : Heap) (locs : List Loc) (hK : va_K (dC, dI) CL [(chC, .object "ChipFlow$Chip"), (mcC, .boolean), (oC, .long)] s) (hP : va_P (dC, dI) CL [(x, .inr (12, xg)), (chA, .inl (chC, (4, .inr (.inr (.inr (.inr chF)))))), (ch0, .inr (2, chg0)), (ch1, .inr (2, chg1)), (ch2, .inr (2, chg2)), (ch3, .inr (2, chg3)), (m0, .inr (13, mg)), (mcA, .inl (mcC, (4, .inl (fun _ => 0)))), (oA, .inl (oC, (1, .inr (.inl oF))))] H) (hD : va_D (fun q : Nat => s.heap.size ≤ q) [(x, .inr (12, xg)), (chA, .inl (chC, (4, .inr (.inr (.inr (.inr chF)))))), (ch0, .inr (2, chg0)), (ch1, .inr (2, chg1)), (ch2, .inr (2, chg2)), (ch3, .inr (2, chg3)), (m0, .inr (13, mg)), (mcA, .inl (mcC, (4, .inl (fun _ => 0)))), (oA, .inl (oC, (1, .inr (.inl oF))))]) (hS : va_S (fun q : Nat => s.heap.size ≤ q) s.heap H locs) (ls : Array Slot) (hl : lv_has ls 7 [(0, .ref b), (1, .ref x), (2, .ref m0), (3, .ref oA), (4, .int 0)]) : W p l e room_1 s m #[Value.ref b] below meth c H locs 451 2709142 (lw_Z below #[Value.ref b] s) (F0 m 2905 ls []) := by
  obtain ⟨hx, hb, hr, hml, hown, hts0, hX, hbl, hlocks, hgv⟩ := id C0
  have hts : ∀ w ∈ BG, w.before _ s = true := fun w h => hts0 w (List.mem_filter.mp h).1
  have hown : s.vm.findClass RL = some m.cls := hown
  have hA : ∀ q : Nat, s.heap.size ≤ q → (fun q : Nat => s.heap.size ≤ q) q := fun _ h => h
  have hbA : ¬ (fun q : Nat => s.heap.size ≤ q) b := Nat.not_le.mpr hbl
  refine lv_aload_n hx hb dL_law_2905 rfl (lv_at hl 1 rfl) ?_
  refine lv_aload_n hx hb dL_law_2906 rfl (lv_at hl 0 rfl) ?_
  refine lv_iload hx hb dL_law_2907 (lv_at hl 4 rfl) ?_
  refine lv_iconst (v := 1) hx hb dL_law_2909 (by decide +kernel) ?_
  refine lv_iadd hx hb dL_law_2910 ?_
  refine va_sld hx hb hX hbl hbA hS vi_1 dL_law_2911 ?_
  refine lv_aload_n hx hb dL_law_2912 rfl (lv_at hl 3 rfl) ?_
  have hPc := hP.sub (ws' := [(x, .inr (12, xg)), (chA, .inl (chC, (4, .inr (.inr (.inr (.inr chF)))))), (ch0, .inr (2, chg0)), (ch1, .inr (2, chg1)), (ch2, .inr (2, chg2)), (ch3, .inr (2, chg3)), (oA, .inl (oC, (1, .inr (.inl oF))))]) [0, 1, 2, 3, 4, 5, 8] rfl
  have hDc := hD.sub (ws' := [(x, .inr (12, xg)), (chA, .inl (chC, (4, .inr (.inr (.inr (.inr chF)))))), (ch0, .inr (2, chg0)), (ch1, .inr (2, chg1)), (ch2, .inr (2, chg2)), (ch3, .inr (2, chg3)), (oA, .inl (oC, (1, .inr (.inl oF))))]) [0, 1, 2, 3, 4, 5, 8] (by decide) rfl
  have hKc := hK.sub (tys' := [(chC, .object "ChipFlow$Chip"), (oC, .long)]) [0, 2] rfl
  have hFc := va_free (wc := [(x, .inr (12, xg)), (chA, .inl (chC, (4, .inr (.inr (.inr (.inr chF)))))), (ch0, .inr (2, chg0)), (ch1, .inr (2, chg1)), (ch2, .inr (2, chg2)), (ch3, .inr (2, chg3)), (oA, .inl (oC, (1, .inr (.inl oF))))]) hD hS hA [0, 1, 2, 3, 4, 5, 8] rfl
  refine va_calli (vx_runSW (As := [.ref x, .int (xs ((0 : Int32) + 1).toNatClampNeg), .ref oA]) (rest := []) ⟨hx, hb, hml, hown, hts⟩ (ct_L_check l hlt dC dI H.size (xs ((0 : Int32) + 1).toNatClampNeg) x xg chA chC chF ch0 ch1 ch2 ch3 chg0 chg1 chg2 chg3 hchg0 hchF0 hchg1 hchF1 hchg2 hchF2 hchg3 hchF3 oA oC oF hxg) (vx_cwSW 3 hts (gi_W wd_2700 wd_2701 wd_326 wd_2702) rfl rfl rfl (by decide +kernel) ⟨(Nat.le_of_ble_eq_true rfl), (Nat.le_of_ble_eq_true rfl)⟩) ⟨fun a U g mk q => by obtain ⟨q0, q1, qP, qK, qD, qT⟩ := q; exact ⟨q0, q1, qP, va_K.moved (u := U) (U := U.calling g mk a) (Vm.Alike.refl U.vm) qK, qD, th.moved (u := U) (U := U.calling g mk a) (Vm.Alike.refl U.vm) qT⟩, fun U hU hW => ⟨rfl, by rw [hU], by rw [hU]; exact hPc, va_K.moved hW.alike hKc, hDc.weaken (fun _ _ _ _ => trivial), by rw [hU]; exact ((hth.kept hS.2.1).narrow hFc).moved hW.alike⟩⟩ rfl rfl hl.1 rfl (lv_room (Nat.le_of_ble_eq_true rfl)) dL_law_2913 ⟨(Nat.le_of_ble_eq_true rfl), (Nat.le_of_ble_eq_true rfl)⟩) hS (fun q _ h => hFc q h) hFc (fun r u t H1 locs ht hvm hw hB hz1 hk1 hS => ?_)
  subst hw
  obtain ⟨hP1, -, hD1⟩ := hB
  rw [ht] at hP1
  obtain ⟨hP, hD⟩ := va_join (wr := [(m0, .inr (13, mg)), (mcA, .inl (mcC, (4, .inl (fun _ => 0))))]) (w1 := [(oA, .inl (oC, (1, .inr (.inl oF))))]) hP hD [0, 1, 2, 3, 4, 5, 8] [6, 7] rfl rfl (by decide) (by decide) hk1 hFc hP1 hD1
  have hP := hP.sub (ws' := [(m0, .inr (13, mg)), (mcA, .inl (mcC, (4, .inl (fun _ => 0))))]) [0, 1] rfl
  have hD := hD.sub (ws' := [(m0, .inr (13, mg)), (mcA, .inl (mcC, (4, .inl (fun _ => 0))))]) [0, 1] (by decide) rfl
  have hK := hK.sub (tys' := [(mcC, .boolean)]) [1] rfl
  generalize H1 = H at hP hS ⊢
  refine W.widen (k := 452) (n := 2709148) (Nat.le_of_ble_eq_true rfl) (Nat.le_of_ble_eq_true rfl) ?_
  refine lv_istore (lv' := [(5, .int 1), (0, .ref b), (1, .ref x), (2, .ref m0), (3, .ref oA), (4, .int 0)]) hx hb dL_law_2916 hl (by decide) rfl (fun ls hl => ?_)
  refine lv_aload_n hx hb dL_law_2918 rfl (lv_at hl 3 rfl) ?_
  refine lv_aload_n hx hb dL_law_2919 rfl (lv_at hl 1 rfl) ?_
  refine lv_iload hx hb dL_law_2920 (lv_at hl 5 rfl) ?_
  refine lv_iconst (v := 1) hx hb dL_law_2922 (by decide +kernel) ?_
  refine lv_iadd hx hb dL_law_2923 ?_
  refine va_sld hx hb hX hbl hbA hS vi_1 dL_law_2924 ?_
  have hFc := va_free (wc := [(m0, .inr (13, mg)), (mcA, .inl (mcC, (4, .inl (fun _ => 0))))]) hD hS hA [0, 1] rfl
  refine va_calli (va_runV (As := [.int (xs ((0 : Int32) + 1).toNatClampNeg)]) (rest := []) ⟨hx, hb, hml, hown, hts⟩ (ct_X13_check l dC dI _ (xs ((0 : Int32) + 1).toNatClampNeg) m0 mg mcA mcC hmg) (cwV 1 hts (gi_V wd_4516 wd_4517 wd_4518 wd_340 wd_4519) rfl rfl rfl (by decide +kernel) ⟨(Nat.le_of_ble_eq_true rfl), (Nat.le_of_ble_eq_true rfl)⟩) ⟨fun a U g mk q => by obtain ⟨q0, q1, qP, qK, qD⟩ := q; exact ⟨q0, q1, qP, va_K.moved (u := U) (U := U.calling g mk a) (Vm.Alike.refl U.vm) qK, qD⟩, va_recv hK hP (ci := 13) (q0 := 0) rfl rfl, fun U hU hW => ⟨rfl, by rw [hU], by rw [hU]; exact hP, va_K.moved hW.alike hK, hD.weaken (fun _ _ _ _ => trivial)⟩⟩ rfl rfl hl.1 rfl (lv_room (Nat.le_of_ble_eq_true rfl)) dL_law_2925 ⟨(Nat.le_of_ble_eq_true rfl), (Nat.le_of_ble_eq_true rfl)⟩) hS (fun q _ h => hFc q h) hFc (fun r u t H1 locs ht hvm hw hB hz1 hk1 hS => ?_)
  subst hw
  obtain ⟨mg1, hmg1, hP1, hK1, hD1⟩ := hB
  rw [ht] at hP1
  have hK1 := va_K.moved hvm.symm hK1
  have hD1 := hD1.weaken (fun k q _ h => hFc q.1 h)
  generalize H1 = H at hP1 hS ⊢
  refine lv_istore (lv' := [(6, .int 0), (5, .int 1), (0, .ref b), (1, .ref x), (2, .ref m0), (3, .ref oA), (4, .int 0)]) hx hb dL_law_2928 hl (by decide) rfl (fun ls hl => ?_)
  refine lv_aload_n hx hb dL_law_2930 rfl (lv_at hl 4 rfl) ?_
  have hFc := va_free (wc := [(m0, .inr (13, mg1))]) hD1 hS hA [0] rfl
  refine va_calli (va_runV (As := []) (rest := []) ⟨hx, hb, hml, hown, hts⟩ (ct_X13_thrown l dC dI _ 1 m0 mg1 hmg1) (cwV 0 hts (gi_V wd_3015 wd_3016 wd_3017 wd_340 wd_3018) rfl rfl rfl (by decide +kernel) ⟨(Nat.le_of_ble_eq_true rfl), (Nat.le_of_ble_eq_true rfl)⟩) ⟨fun a U g mk q => by obtain ⟨q0, q1, qP, qK, qD⟩ := q; exact ⟨q0, q1, qP, va_K.moved (u := U) (U := U.calling g mk a) (Vm.Alike.refl U.vm) qK, qD⟩, va_recv hK1 hP1 (ci := 13) (q0 := 0) rfl rfl, fun U hU hW => ⟨rfl, by rw [hU], by rw [hU]; exact hP1, va_K.moved hW.alike hK1, hD1.weaken (fun _ _ _ _ => trivial)⟩⟩ rfl rfl hl.1 rfl (lv_room (Nat.le_of_ble_eq_true rfl)) dL_law_2931 ⟨(Nat.le_of_ble_eq_true rfl), (Nat.le_of_ble_eq_true rfl)⟩) hS (fun q _ h => hFc q h) hFc (fun r u t H1 locs ht hvm hw hB hz1 hk1 hS => ?_)
  subst hw
  refine lv_iload hx hb dL_law_2934 (lv_at hl 1 rfl) ?_
  refine lv_icmp_eq (tgt := 2941) hx hb dL_law_2936 (by decide) (fun c9 => ?_) (fun c9 => ?_)
  rotate_left
  · first | exact absurd c9 (by decide +kernel) | exact absurd (by decide +kernel) c9
  refine lv_iload hx hb dL_law_2941 (lv_at hl 1 rfl) ?_
  refine lv_if_ne (tgt := 2958) hx hb dL_law_2943 (by decide) (fun c9 => ?_) (fun c9 => ?_)
  rotate_left
  · first | exact absurd c9 (by decide +kernel) | exact absurd (by decide +kernel) c9
  refine lv_goto (tgt := 4099) hx hb dL_law_2958 (by decide) ?_
  refine W.widen (k := 470) (n := 2709300) (Nat.le_of_ble_eq_true rfl) (Nat.le_of_ble_eq_true rfl) ?_
  exact law_tail (v5 := 0) (v6 := 0) (lv := []) C0 hS (lv_sub hl [2, 6] rfl)
set_option maxHeartbeats 4000000 in
set_option maxRecDepth 100000 in
theorem law_violation {p : Program} {l : Launch} {e : Env} {s : State} {m : MethodId} {below : List Frame} {meth : Method} {c : Code} {b : Nat} {xs : Nat → Int32} (C0 : lw_At p s m meth c b 7 xs) {dC : Nat → ClassId} {dI : Nat → Nat → Nat} (hlt : l.stackTraces = false) (hth : th (fun q : Nat => s.heap.size ≤ q) s s.heap) (x : Nat) (xg : List Value) (chA : Nat) (chC : ClassId) (chF : Nat → Option Nat) (ch0 ch1 ch2 ch3 : Nat) (chg0 chg1 chg2 chg3 : List Value) (hchg0 : fx chg0 20 [(0, .int 0)]) (hchF0 : chF 0 = some ch0) (hchg1 : fx chg1 20 [(0, .int 0)]) (hchF1 : chF 1 = some ch1) (hchg2 : fx chg2 20 [(0, .int 0)]) (hchF2 : chF 2 = some ch2) (hchg3 : fx chg3 20 [(0, .int 0)]) (hchF3 : chF 3 = some ch3) (m0 : Nat) (mg : List Value) (mcA : Nat) (mcC : ClassId) (oA : Nat) (oC : ClassId) (oF : Nat → Int64) (hxg : fx xg 17 [(9, .ref chA)]) (hmg : fx mg 225 [(138, .ref mcA)]) (H : Heap) (locs : List Loc) (hK : va_K (dC, dI) CL [(chC, .object "ChipFlow$Chip"), (mcC, .boolean), (oC, .long)] s) (hP : va_P (dC, dI) CL [(x, .inr (12, xg)), (chA, .inl (chC, (4, .inr (.inr (.inr (.inr chF)))))), (ch0, .inr (2, chg0)), (ch1, .inr (2, chg1)), (ch2, .inr (2, chg2)), (ch3, .inr (2, chg3)), (m0, .inr (13, mg)), (mcA, .inl (mcC, (4, .inl (fun _ => 0)))), (oA, .inl (oC, (1, .inr (.inl oF))))] H) (hD : va_D (fun q : Nat => s.heap.size ≤ q) [(x, .inr (12, xg)), (chA, .inl (chC, (4, .inr (.inr (.inr (.inr chF)))))), (ch0, .inr (2, chg0)), (ch1, .inr (2, chg1)), (ch2, .inr (2, chg2)), (ch3, .inr (2, chg3)), (m0, .inr (13, mg)), (mcA, .inl (mcC, (4, .inl (fun _ => 0)))), (oA, .inl (oC, (1, .inr (.inl oF))))]) (hS : va_S (fun q : Nat => s.heap.size ≤ q) s.heap H locs) (ls : Array Slot) (hl : lv_has ls 7 [(0, .ref b), (1, .ref x), (2, .ref m0), (3, .ref oA), (4, .int 0)]) : W p l e room_1 s m #[Value.ref b] below meth c H locs 451 2709142 (lw_Z below #[Value.ref b] s) (F0 m 2961 ls []) := by
  obtain ⟨hx, hb, hr, hml, hown, hts0, hX, hbl, hlocks, hgv⟩ := id C0
  have hts : ∀ w ∈ BG, w.before _ s = true := fun w h => hts0 w (List.mem_filter.mp h).1
  have hown : s.vm.findClass RL = some m.cls := hown
  have hA : ∀ q : Nat, s.heap.size ≤ q → (fun q : Nat => s.heap.size ≤ q) q := fun _ h => h
  have hbA : ¬ (fun q : Nat => s.heap.size ≤ q) b := Nat.not_le.mpr hbl
  refine lv_aload_n hx hb dL_law_2961 rfl (lv_at hl 1 rfl) ?_
  refine lv_aload_n hx hb dL_law_2962 rfl (lv_at hl 0 rfl) ?_
  refine lv_iload hx hb dL_law_2963 (lv_at hl 4 rfl) ?_
  refine lv_iconst (v := 1) hx hb dL_law_2965 (by decide +kernel) ?_
  refine lv_iadd hx hb dL_law_2966 ?_
  refine va_sld hx hb hX hbl hbA hS vi_1 dL_law_2967 ?_
  refine lv_aload_n hx hb dL_law_2968 rfl (lv_at hl 0 rfl) ?_
  refine lv_iload hx hb dL_law_2969 (lv_at hl 4 rfl) ?_
  refine lv_iconst (v := 2) hx hb dL_law_2971 (by decide +kernel) ?_
  refine lv_iadd hx hb dL_law_2972 ?_
  refine va_sld hx hb hX hbl hbA hS vi_2 dL_law_2973 ?_
  refine lv_aload_n hx hb dL_law_2974 rfl (lv_at hl 0 rfl) ?_
  refine lv_iload hx hb dL_law_2975 (lv_at hl 4 rfl) ?_
  refine lv_iconst (v := 3) hx hb dL_law_2977 (by decide +kernel) ?_
  refine lv_iadd hx hb dL_law_2978 ?_
  refine va_sld hx hb hX hbl hbA hS vi_3 dL_law_2979 ?_
  refine lv_aload_n hx hb dL_law_2980 rfl (lv_at hl 3 rfl) ?_
  have hPc := hP.sub (ws' := [(x, .inr (12, xg)), (chA, .inl (chC, (4, .inr (.inr (.inr (.inr chF)))))), (ch0, .inr (2, chg0)), (ch1, .inr (2, chg1)), (ch2, .inr (2, chg2)), (ch3, .inr (2, chg3)), (oA, .inl (oC, (1, .inr (.inl oF))))]) [0, 1, 2, 3, 4, 5, 8] rfl
  have hDc := hD.sub (ws' := [(x, .inr (12, xg)), (chA, .inl (chC, (4, .inr (.inr (.inr (.inr chF)))))), (ch0, .inr (2, chg0)), (ch1, .inr (2, chg1)), (ch2, .inr (2, chg2)), (ch3, .inr (2, chg3)), (oA, .inl (oC, (1, .inr (.inl oF))))]) [0, 1, 2, 3, 4, 5, 8] (by decide) rfl
  have hKc := hK.sub (tys' := [(chC, .object "ChipFlow$Chip"), (oC, .long)]) [0, 2] rfl
  have hFc := va_free (wc := [(x, .inr (12, xg)), (chA, .inl (chC, (4, .inr (.inr (.inr (.inr chF)))))), (ch0, .inr (2, chg0)), (ch1, .inr (2, chg1)), (ch2, .inr (2, chg2)), (ch3, .inr (2, chg3)), (oA, .inl (oC, (1, .inr (.inl oF))))]) hD hS hA [0, 1, 2, 3, 4, 5, 8] rfl
  refine va_calli (vx_runSW (As := [.ref x, .int (xs ((0 : Int32) + 1).toNatClampNeg), .int (xs ((0 : Int32) + 2).toNatClampNeg), .int (xs ((0 : Int32) + 3).toNatClampNeg), .ref oA]) (rest := []) ⟨hx, hb, hml, hown, hts⟩ (ct_L_violation l hlt dC dI H.size (xs ((0 : Int32) + 1).toNatClampNeg) (xs ((0 : Int32) + 2).toNatClampNeg) (xs ((0 : Int32) + 3).toNatClampNeg) x xg chA chC chF ch0 ch1 ch2 ch3 chg0 chg1 chg2 chg3 hchg0 hchF0 hchg1 hchF1 hchg2 hchF2 hchg3 hchF3 oA oC oF hxg) (vx_cwSW 5 hts (gi_W wd_2720 wd_2721 wd_326 wd_2722) rfl rfl rfl (by decide +kernel) ⟨(Nat.le_of_ble_eq_true rfl), (Nat.le_of_ble_eq_true rfl)⟩) ⟨fun a U g mk q => by obtain ⟨q0, q1, qP, qK, qD, qT⟩ := q; exact ⟨q0, q1, qP, va_K.moved (u := U) (U := U.calling g mk a) (Vm.Alike.refl U.vm) qK, qD, th.moved (u := U) (U := U.calling g mk a) (Vm.Alike.refl U.vm) qT⟩, fun U hU hW => ⟨rfl, by rw [hU], by rw [hU]; exact hPc, va_K.moved hW.alike hKc, hDc.weaken (fun _ _ _ _ => trivial), by rw [hU]; exact ((hth.kept hS.2.1).narrow hFc).moved hW.alike⟩⟩ rfl rfl hl.1 rfl (lv_room (Nat.le_of_ble_eq_true rfl)) dL_law_2981 ⟨(Nat.le_of_ble_eq_true rfl), (Nat.le_of_ble_eq_true rfl)⟩) hS (fun q _ h => hFc q h) hFc (fun r u t H1 locs ht hvm hw hB hz1 hk1 hS => ?_)
  subst hw
  obtain ⟨hP1, -, hD1⟩ := hB
  rw [ht] at hP1
  obtain ⟨hP, hD⟩ := va_join (wr := [(m0, .inr (13, mg)), (mcA, .inl (mcC, (4, .inl (fun _ => 0))))]) (w1 := [(oA, .inl (oC, (1, .inr (.inl oF))))]) hP hD [0, 1, 2, 3, 4, 5, 8] [6, 7] rfl rfl (by decide) (by decide) hk1 hFc hP1 hD1
  have hP := hP.sub (ws' := [(m0, .inr (13, mg)), (mcA, .inl (mcC, (4, .inl (fun _ => 0))))]) [0, 1] rfl
  have hD := hD.sub (ws' := [(m0, .inr (13, mg)), (mcA, .inl (mcC, (4, .inl (fun _ => 0))))]) [0, 1] (by decide) rfl
  have hK := hK.sub (tys' := [(mcC, .boolean)]) [1] rfl
  generalize H1 = H at hP hS ⊢
  refine W.widen (k := 452) (n := 2709148) (Nat.le_of_ble_eq_true rfl) (Nat.le_of_ble_eq_true rfl) ?_
  refine lv_istore (lv' := [(5, .int 1), (0, .ref b), (1, .ref x), (2, .ref m0), (3, .ref oA), (4, .int 0)]) hx hb dL_law_2984 hl (by decide) rfl (fun ls hl => ?_)
  refine lv_aload_n hx hb dL_law_2986 rfl (lv_at hl 3 rfl) ?_
  refine lv_aload_n hx hb dL_law_2987 rfl (lv_at hl 1 rfl) ?_
  refine lv_iload hx hb dL_law_2988 (lv_at hl 5 rfl) ?_
  refine lv_iconst (v := 1) hx hb dL_law_2990 (by decide +kernel) ?_
  refine lv_iadd hx hb dL_law_2991 ?_
  refine va_sld hx hb hX hbl hbA hS vi_1 dL_law_2992 ?_
  refine lv_aload_n hx hb dL_law_2993 rfl (lv_at hl 1 rfl) ?_
  refine lv_iload hx hb dL_law_2994 (lv_at hl 5 rfl) ?_
  refine lv_iconst (v := 2) hx hb dL_law_2996 (by decide +kernel) ?_
  refine lv_iadd hx hb dL_law_2997 ?_
  refine va_sld hx hb hX hbl hbA hS vi_2 dL_law_2998 ?_
  refine lv_aload_n hx hb dL_law_2999 rfl (lv_at hl 1 rfl) ?_
  refine lv_iload hx hb dL_law_3000 (lv_at hl 5 rfl) ?_
  refine lv_iconst (v := 3) hx hb dL_law_3002 (by decide +kernel) ?_
  refine lv_iadd hx hb dL_law_3003 ?_
  refine va_sld hx hb hX hbl hbA hS vi_3 dL_law_3004 ?_
  have hFc := va_free (wc := [(m0, .inr (13, mg)), (mcA, .inl (mcC, (4, .inl (fun _ => 0))))]) hD hS hA [0, 1] rfl
  refine va_calli (va_runV (As := [.int (xs ((0 : Int32) + 1).toNatClampNeg), .int (xs ((0 : Int32) + 2).toNatClampNeg), .int (xs ((0 : Int32) + 3).toNatClampNeg)]) (rest := []) ⟨hx, hb, hml, hown, hts⟩ (ct_X13_violation l dC dI _ (xs ((0 : Int32) + 1).toNatClampNeg) (xs ((0 : Int32) + 2).toNatClampNeg) (xs ((0 : Int32) + 3).toNatClampNeg) m0 mg mcA mcC hmg) (cwV 3 hts (gi_V wd_4541 wd_4542 wd_4543 wd_340 wd_4544) rfl rfl rfl (by decide +kernel) ⟨(Nat.le_of_ble_eq_true rfl), (Nat.le_of_ble_eq_true rfl)⟩) ⟨fun a U g mk q => by obtain ⟨q0, q1, qP, qK, qD⟩ := q; exact ⟨q0, q1, qP, va_K.moved (u := U) (U := U.calling g mk a) (Vm.Alike.refl U.vm) qK, qD⟩, va_recv hK hP (ci := 13) (q0 := 0) rfl rfl, fun U hU hW => ⟨rfl, by rw [hU], by rw [hU]; exact hP, va_K.moved hW.alike hK, hD.weaken (fun _ _ _ _ => trivial)⟩⟩ rfl rfl hl.1 rfl (lv_room (Nat.le_of_ble_eq_true rfl)) dL_law_3005 ⟨(Nat.le_of_ble_eq_true rfl), (Nat.le_of_ble_eq_true rfl)⟩) hS (fun q _ h => hFc q h) hFc (fun r u t H1 locs ht hvm hw hB hz1 hk1 hS => ?_)
  subst hw
  obtain ⟨mg1, hmg1, hP1, hK1, hD1⟩ := hB
  rw [ht] at hP1
  have hK1 := va_K.moved hvm.symm hK1
  have hD1 := hD1.weaken (fun k q _ h => hFc q.1 h)
  generalize H1 = H at hP1 hS ⊢
  refine lv_istore (lv' := [(6, .int 0), (5, .int 1), (0, .ref b), (1, .ref x), (2, .ref m0), (3, .ref oA), (4, .int 0)]) hx hb dL_law_3008 hl (by decide) rfl (fun ls hl => ?_)
  refine lv_aload_n hx hb dL_law_3010 rfl (lv_at hl 4 rfl) ?_
  have hFc := va_free (wc := [(m0, .inr (13, mg1))]) hD1 hS hA [0] rfl
  refine va_calli (va_runV (As := []) (rest := []) ⟨hx, hb, hml, hown, hts⟩ (ct_X13_thrown l dC dI _ 1 m0 mg1 hmg1) (cwV 0 hts (gi_V wd_3015 wd_3016 wd_3017 wd_340 wd_3018) rfl rfl rfl (by decide +kernel) ⟨(Nat.le_of_ble_eq_true rfl), (Nat.le_of_ble_eq_true rfl)⟩) ⟨fun a U g mk q => by obtain ⟨q0, q1, qP, qK, qD⟩ := q; exact ⟨q0, q1, qP, va_K.moved (u := U) (U := U.calling g mk a) (Vm.Alike.refl U.vm) qK, qD⟩, va_recv hK1 hP1 (ci := 13) (q0 := 0) rfl rfl, fun U hU hW => ⟨rfl, by rw [hU], by rw [hU]; exact hP1, va_K.moved hW.alike hK1, hD1.weaken (fun _ _ _ _ => trivial)⟩⟩ rfl rfl hl.1 rfl (lv_room (Nat.le_of_ble_eq_true rfl)) dL_law_3011 ⟨(Nat.le_of_ble_eq_true rfl), (Nat.le_of_ble_eq_true rfl)⟩) hS (fun q _ h => hFc q h) hFc (fun r u t H1 locs ht hvm hw hB hz1 hk1 hS => ?_)
  subst hw
  refine lv_iload hx hb dL_law_3014 (lv_at hl 1 rfl) ?_
  refine lv_icmp_eq (tgt := 3021) hx hb dL_law_3016 (by decide) (fun c9 => ?_) (fun c9 => ?_)
  rotate_left
  · first | exact absurd c9 (by decide +kernel) | exact absurd (by decide +kernel) c9
  refine lv_iload hx hb dL_law_3021 (lv_at hl 1 rfl) ?_
  refine lv_if_ne (tgt := 3038) hx hb dL_law_3023 (by decide) (fun c9 => ?_) (fun c9 => ?_)
  rotate_left
  · first | exact absurd c9 (by decide +kernel) | exact absurd (by decide +kernel) c9
  refine lv_goto (tgt := 4099) hx hb dL_law_3038 (by decide) ?_
  refine W.widen (k := 470) (n := 2709300) (Nat.le_of_ble_eq_true rfl) (Nat.le_of_ble_eq_true rfl) ?_
  exact law_tail (v5 := 0) (v6 := 0) (lv := []) C0 hS (lv_sub hl [2, 6] rfl)
set_option maxHeartbeats 4000000 in
set_option maxRecDepth 100000 in
theorem law_found {p : Program} {l : Launch} {e : Env} {s : State} {m : MethodId} {below : List Frame} {meth : Method} {c : Code} {b : Nat} {xs : Nat → Int32} (C0 : lw_At p s m meth c b 7 xs) {dC : Nat → ClassId} {dI : Nat → Nat → Nat} (hlt : l.stackTraces = false) (hth : th (fun q : Nat => s.heap.size ≤ q) s s.heap) (x : Nat) (xg : List Value) (chA : Nat) (chC : ClassId) (chF : Nat → Option Nat) (ch0 ch1 ch2 ch3 : Nat) (chg0 chg1 chg2 chg3 : List Value) (hchg0 : fx chg0 20 [(0, .int 0)]) (hchF0 : chF 0 = some ch0) (hchg1 : fx chg1 20 [(0, .int 0)]) (hchF1 : chF 1 = some ch1) (hchg2 : fx chg2 20 [(0, .int 0)]) (hchF2 : chF 2 = some ch2) (hchg3 : fx chg3 20 [(0, .int 0)]) (hchF3 : chF 3 = some ch3) (m0 : Nat) (mg : List Value) (mcA : Nat) (mcC : ClassId) (oA : Nat) (oC : ClassId) (oF : Nat → Int64) (hxg : fx xg 17 [(9, .ref chA)]) (hmg : fx mg 225 [(138, .ref mcA)]) (H : Heap) (locs : List Loc) (hK : va_K (dC, dI) CL [(chC, .object "ChipFlow$Chip"), (mcC, .boolean), (oC, .long)] s) (hP : va_P (dC, dI) CL [(x, .inr (12, xg)), (chA, .inl (chC, (4, .inr (.inr (.inr (.inr chF)))))), (ch0, .inr (2, chg0)), (ch1, .inr (2, chg1)), (ch2, .inr (2, chg2)), (ch3, .inr (2, chg3)), (m0, .inr (13, mg)), (mcA, .inl (mcC, (4, .inl (fun _ => 0)))), (oA, .inl (oC, (1, .inr (.inl oF))))] H) (hD : va_D (fun q : Nat => s.heap.size ≤ q) [(x, .inr (12, xg)), (chA, .inl (chC, (4, .inr (.inr (.inr (.inr chF)))))), (ch0, .inr (2, chg0)), (ch1, .inr (2, chg1)), (ch2, .inr (2, chg2)), (ch3, .inr (2, chg3)), (m0, .inr (13, mg)), (mcA, .inl (mcC, (4, .inl (fun _ => 0)))), (oA, .inl (oC, (1, .inr (.inl oF))))]) (hS : va_S (fun q : Nat => s.heap.size ≤ q) s.heap H locs) (ls : Array Slot) (hl : lv_has ls 7 [(0, .ref b), (1, .ref x), (2, .ref m0), (3, .ref oA), (4, .int 0)]) : W p l e room_1 s m #[Value.ref b] below meth c H locs 451 2709142 (lw_Z below #[Value.ref b] s) (F0 m 3041 ls []) := by
  obtain ⟨hx, hb, hr, hml, hown, hts0, hX, hbl, hlocks, hgv⟩ := id C0
  have hts : ∀ w ∈ BG, w.before _ s = true := fun w h => hts0 w (List.mem_filter.mp h).1
  have hown : s.vm.findClass RL = some m.cls := hown
  have hA : ∀ q : Nat, s.heap.size ≤ q → (fun q : Nat => s.heap.size ≤ q) q := fun _ h => h
  have hbA : ¬ (fun q : Nat => s.heap.size ≤ q) b := Nat.not_le.mpr hbl
  refine lv_aload_n hx hb dL_law_3041 rfl (lv_at hl 1 rfl) ?_
  refine lv_aload_n hx hb dL_law_3042 rfl (lv_at hl 0 rfl) ?_
  refine lv_iload hx hb dL_law_3043 (lv_at hl 4 rfl) ?_
  refine lv_iconst (v := 1) hx hb dL_law_3045 (by decide +kernel) ?_
  refine lv_iadd hx hb dL_law_3046 ?_
  refine va_sld hx hb hX hbl hbA hS vi_1 dL_law_3047 ?_
  refine lv_aload_n hx hb dL_law_3048 rfl (lv_at hl 0 rfl) ?_
  refine lv_iload hx hb dL_law_3049 (lv_at hl 4 rfl) ?_
  refine lv_iconst (v := 2) hx hb dL_law_3051 (by decide +kernel) ?_
  refine lv_iadd hx hb dL_law_3052 ?_
  refine va_sld hx hb hX hbl hbA hS vi_2 dL_law_3053 ?_
  refine lv_aload_n hx hb dL_law_3054 rfl (lv_at hl 3 rfl) ?_
  have hPc := hP.sub (ws' := [(x, .inr (12, xg)), (chA, .inl (chC, (4, .inr (.inr (.inr (.inr chF)))))), (ch0, .inr (2, chg0)), (ch1, .inr (2, chg1)), (ch2, .inr (2, chg2)), (ch3, .inr (2, chg3)), (oA, .inl (oC, (1, .inr (.inl oF))))]) [0, 1, 2, 3, 4, 5, 8] rfl
  have hDc := hD.sub (ws' := [(x, .inr (12, xg)), (chA, .inl (chC, (4, .inr (.inr (.inr (.inr chF)))))), (ch0, .inr (2, chg0)), (ch1, .inr (2, chg1)), (ch2, .inr (2, chg2)), (ch3, .inr (2, chg3)), (oA, .inl (oC, (1, .inr (.inl oF))))]) [0, 1, 2, 3, 4, 5, 8] (by decide) rfl
  have hKc := hK.sub (tys' := [(chC, .object "ChipFlow$Chip"), (oC, .long)]) [0, 2] rfl
  have hFc := va_free (wc := [(x, .inr (12, xg)), (chA, .inl (chC, (4, .inr (.inr (.inr (.inr chF)))))), (ch0, .inr (2, chg0)), (ch1, .inr (2, chg1)), (ch2, .inr (2, chg2)), (ch3, .inr (2, chg3)), (oA, .inl (oC, (1, .inr (.inl oF))))]) hD hS hA [0, 1, 2, 3, 4, 5, 8] rfl
  refine va_calli (vx_runSW (As := [.ref x, .int (xs ((0 : Int32) + 1).toNatClampNeg), .int (xs ((0 : Int32) + 2).toNatClampNeg), .ref oA]) (rest := []) ⟨hx, hb, hml, hown, hts⟩ (ct_L_found l hlt dC dI H.size (xs ((0 : Int32) + 1).toNatClampNeg) (xs ((0 : Int32) + 2).toNatClampNeg) x xg chA chC chF ch0 ch1 ch2 ch3 chg0 chg1 chg2 chg3 hchg0 hchF0 hchg1 hchF1 hchg2 hchF2 hchg3 hchF3 oA oC oF hxg) (vx_cwSW 4 hts (gi_W wd_2735 wd_2736 wd_326 wd_2737) rfl rfl rfl (by decide +kernel) ⟨(Nat.le_of_ble_eq_true rfl), (Nat.le_of_ble_eq_true rfl)⟩) ⟨fun a U g mk q => by obtain ⟨q0, q1, qP, qK, qD, qT⟩ := q; exact ⟨q0, q1, qP, va_K.moved (u := U) (U := U.calling g mk a) (Vm.Alike.refl U.vm) qK, qD, th.moved (u := U) (U := U.calling g mk a) (Vm.Alike.refl U.vm) qT⟩, fun U hU hW => ⟨rfl, by rw [hU], by rw [hU]; exact hPc, va_K.moved hW.alike hKc, hDc.weaken (fun _ _ _ _ => trivial), by rw [hU]; exact ((hth.kept hS.2.1).narrow hFc).moved hW.alike⟩⟩ rfl rfl hl.1 rfl (lv_room (Nat.le_of_ble_eq_true rfl)) dL_law_3055 ⟨(Nat.le_of_ble_eq_true rfl), (Nat.le_of_ble_eq_true rfl)⟩) hS (fun q _ h => hFc q h) hFc (fun r u t H1 locs ht hvm hw hB hz1 hk1 hS => ?_)
  subst hw
  obtain ⟨hP1, -, hD1⟩ := hB
  rw [ht] at hP1
  obtain ⟨hP, hD⟩ := va_join (wr := [(m0, .inr (13, mg)), (mcA, .inl (mcC, (4, .inl (fun _ => 0))))]) (w1 := [(oA, .inl (oC, (1, .inr (.inl oF))))]) hP hD [0, 1, 2, 3, 4, 5, 8] [6, 7] rfl rfl (by decide) (by decide) hk1 hFc hP1 hD1
  have hP := hP.sub (ws' := [(m0, .inr (13, mg)), (mcA, .inl (mcC, (4, .inl (fun _ => 0))))]) [0, 1] rfl
  have hD := hD.sub (ws' := [(m0, .inr (13, mg)), (mcA, .inl (mcC, (4, .inl (fun _ => 0))))]) [0, 1] (by decide) rfl
  have hK := hK.sub (tys' := [(mcC, .boolean)]) [1] rfl
  generalize H1 = H at hP hS ⊢
  refine W.widen (k := 452) (n := 2709148) (Nat.le_of_ble_eq_true rfl) (Nat.le_of_ble_eq_true rfl) ?_
  refine lv_istore (lv' := [(5, .int 1), (0, .ref b), (1, .ref x), (2, .ref m0), (3, .ref oA), (4, .int 0)]) hx hb dL_law_3058 hl (by decide) rfl (fun ls hl => ?_)
  refine lv_aload_n hx hb dL_law_3060 rfl (lv_at hl 3 rfl) ?_
  refine lv_aload_n hx hb dL_law_3061 rfl (lv_at hl 1 rfl) ?_
  refine lv_iload hx hb dL_law_3062 (lv_at hl 5 rfl) ?_
  refine lv_iconst (v := 1) hx hb dL_law_3064 (by decide +kernel) ?_
  refine lv_iadd hx hb dL_law_3065 ?_
  refine va_sld hx hb hX hbl hbA hS vi_1 dL_law_3066 ?_
  refine lv_aload_n hx hb dL_law_3067 rfl (lv_at hl 1 rfl) ?_
  refine lv_iload hx hb dL_law_3068 (lv_at hl 5 rfl) ?_
  refine lv_iconst (v := 2) hx hb dL_law_3070 (by decide +kernel) ?_
  refine lv_iadd hx hb dL_law_3071 ?_
  refine va_sld hx hb hX hbl hbA hS vi_2 dL_law_3072 ?_
  have hFc := va_free (wc := [(m0, .inr (13, mg)), (mcA, .inl (mcC, (4, .inl (fun _ => 0))))]) hD hS hA [0, 1] rfl
  refine va_calli (va_runV (As := [.int (xs ((0 : Int32) + 1).toNatClampNeg), .int (xs ((0 : Int32) + 2).toNatClampNeg)]) (rest := []) ⟨hx, hb, hml, hown, hts⟩ (ct_X13_found l dC dI _ (xs ((0 : Int32) + 1).toNatClampNeg) (xs ((0 : Int32) + 2).toNatClampNeg) m0 mg mcA mcC hmg) (cwV 2 hts (gi_V wd_4545 wd_4546 wd_4547 wd_340 wd_4548) rfl rfl rfl (by decide +kernel) ⟨(Nat.le_of_ble_eq_true rfl), (Nat.le_of_ble_eq_true rfl)⟩) ⟨fun a U g mk q => by obtain ⟨q0, q1, qP, qK, qD⟩ := q; exact ⟨q0, q1, qP, va_K.moved (u := U) (U := U.calling g mk a) (Vm.Alike.refl U.vm) qK, qD⟩, va_recv hK hP (ci := 13) (q0 := 0) rfl rfl, fun U hU hW => ⟨rfl, by rw [hU], by rw [hU]; exact hP, va_K.moved hW.alike hK, hD.weaken (fun _ _ _ _ => trivial)⟩⟩ rfl rfl hl.1 rfl (lv_room (Nat.le_of_ble_eq_true rfl)) dL_law_3073 ⟨(Nat.le_of_ble_eq_true rfl), (Nat.le_of_ble_eq_true rfl)⟩) hS (fun q _ h => hFc q h) hFc (fun r u t H1 locs ht hvm hw hB hz1 hk1 hS => ?_)
  subst hw
  obtain ⟨mg1, hmg1, hP1, hK1, hD1⟩ := hB
  rw [ht] at hP1
  have hK1 := va_K.moved hvm.symm hK1
  have hD1 := hD1.weaken (fun k q _ h => hFc q.1 h)
  generalize H1 = H at hP1 hS ⊢
  refine lv_istore (lv' := [(6, .int 0), (5, .int 1), (0, .ref b), (1, .ref x), (2, .ref m0), (3, .ref oA), (4, .int 0)]) hx hb dL_law_3076 hl (by decide) rfl (fun ls hl => ?_)
  refine lv_aload_n hx hb dL_law_3078 rfl (lv_at hl 4 rfl) ?_
  have hFc := va_free (wc := [(m0, .inr (13, mg1))]) hD1 hS hA [0] rfl
  refine va_calli (va_runV (As := []) (rest := []) ⟨hx, hb, hml, hown, hts⟩ (ct_X13_thrown l dC dI _ 1 m0 mg1 hmg1) (cwV 0 hts (gi_V wd_3015 wd_3016 wd_3017 wd_340 wd_3018) rfl rfl rfl (by decide +kernel) ⟨(Nat.le_of_ble_eq_true rfl), (Nat.le_of_ble_eq_true rfl)⟩) ⟨fun a U g mk q => by obtain ⟨q0, q1, qP, qK, qD⟩ := q; exact ⟨q0, q1, qP, va_K.moved (u := U) (U := U.calling g mk a) (Vm.Alike.refl U.vm) qK, qD⟩, va_recv hK1 hP1 (ci := 13) (q0 := 0) rfl rfl, fun U hU hW => ⟨rfl, by rw [hU], by rw [hU]; exact hP1, va_K.moved hW.alike hK1, hD1.weaken (fun _ _ _ _ => trivial)⟩⟩ rfl rfl hl.1 rfl (lv_room (Nat.le_of_ble_eq_true rfl)) dL_law_3079 ⟨(Nat.le_of_ble_eq_true rfl), (Nat.le_of_ble_eq_true rfl)⟩) hS (fun q _ h => hFc q h) hFc (fun r u t H1 locs ht hvm hw hB hz1 hk1 hS => ?_)
  subst hw
  refine lv_iload hx hb dL_law_3082 (lv_at hl 1 rfl) ?_
  refine lv_icmp_eq (tgt := 3089) hx hb dL_law_3084 (by decide) (fun c9 => ?_) (fun c9 => ?_)
  rotate_left
  · first | exact absurd c9 (by decide +kernel) | exact absurd (by decide +kernel) c9
  refine lv_iload hx hb dL_law_3089 (lv_at hl 1 rfl) ?_
  refine lv_if_ne (tgt := 3106) hx hb dL_law_3091 (by decide) (fun c9 => ?_) (fun c9 => ?_)
  rotate_left
  · first | exact absurd c9 (by decide +kernel) | exact absurd (by decide +kernel) c9
  refine lv_goto (tgt := 4099) hx hb dL_law_3106 (by decide) ?_
  refine W.widen (k := 470) (n := 2709300) (Nat.le_of_ble_eq_true rfl) (Nat.le_of_ble_eq_true rfl) ?_
  exact law_tail (v5 := 0) (v6 := 0) (lv := []) C0 hS (lv_sub hl [2, 6] rfl)
set_option maxHeartbeats 4000000 in
set_option maxRecDepth 100000 in
theorem law_arrival {p : Program} {l : Launch} {e : Env} {s : State} {m : MethodId} {below : List Frame} {meth : Method} {c : Code} {b : Nat} {xs : Nat → Int32} (C0 : lw_At p s m meth c b 7 xs) {dC : Nat → ClassId} {dI : Nat → Nat → Nat} (hlt : l.stackTraces = false) (hth : th (fun q : Nat => s.heap.size ≤ q) s s.heap) (x : Nat) (xg : List Value) (chA : Nat) (chC : ClassId) (chF : Nat → Option Nat) (ch0 ch1 ch2 ch3 : Nat) (chg0 chg1 chg2 chg3 : List Value) (hchg0 : fx chg0 20 [(0, .int 0)]) (hchF0 : chF 0 = some ch0) (hchg1 : fx chg1 20 [(0, .int 0)]) (hchF1 : chF 1 = some ch1) (hchg2 : fx chg2 20 [(0, .int 0)]) (hchF2 : chF 2 = some ch2) (hchg3 : fx chg3 20 [(0, .int 0)]) (hchF3 : chF 3 = some ch3) (m0 : Nat) (mg : List Value) (mcA : Nat) (mcC : ClassId) (oA : Nat) (oC : ClassId) (oF : Nat → Int64) (hxg : fx xg 17 [(9, .ref chA)]) (hmg : fx mg 225 [(138, .ref mcA)]) (H : Heap) (locs : List Loc) (hK : va_K (dC, dI) CL [(chC, .object "ChipFlow$Chip"), (mcC, .boolean), (oC, .long)] s) (hP : va_P (dC, dI) CL [(x, .inr (12, xg)), (chA, .inl (chC, (4, .inr (.inr (.inr (.inr chF)))))), (ch0, .inr (2, chg0)), (ch1, .inr (2, chg1)), (ch2, .inr (2, chg2)), (ch3, .inr (2, chg3)), (m0, .inr (13, mg)), (mcA, .inl (mcC, (4, .inl (fun _ => 0)))), (oA, .inl (oC, (1, .inr (.inl oF))))] H) (hD : va_D (fun q : Nat => s.heap.size ≤ q) [(x, .inr (12, xg)), (chA, .inl (chC, (4, .inr (.inr (.inr (.inr chF)))))), (ch0, .inr (2, chg0)), (ch1, .inr (2, chg1)), (ch2, .inr (2, chg2)), (ch3, .inr (2, chg3)), (m0, .inr (13, mg)), (mcA, .inl (mcC, (4, .inl (fun _ => 0)))), (oA, .inl (oC, (1, .inr (.inl oF))))]) (hS : va_S (fun q : Nat => s.heap.size ≤ q) s.heap H locs) (ls : Array Slot) (hl : lv_has ls 7 [(0, .ref b), (1, .ref x), (2, .ref m0), (3, .ref oA), (4, .int 0)]) : W p l e room_1 s m #[Value.ref b] below meth c H locs 451 2709142 (lw_Z below #[Value.ref b] s) (F0 m 3109 ls []) := by
  obtain ⟨hx, hb, hr, hml, hown, hts0, hX, hbl, hlocks, hgv⟩ := id C0
  have hts : ∀ w ∈ BG, w.before _ s = true := fun w h => hts0 w (List.mem_filter.mp h).1
  have hown : s.vm.findClass RL = some m.cls := hown
  have hA : ∀ q : Nat, s.heap.size ≤ q → (fun q : Nat => s.heap.size ≤ q) q := fun _ h => h
  have hbA : ¬ (fun q : Nat => s.heap.size ≤ q) b := Nat.not_le.mpr hbl
  refine lv_aload_n hx hb dL_law_3109 rfl (lv_at hl 1 rfl) ?_
  refine lv_aload_n hx hb dL_law_3110 rfl (lv_at hl 0 rfl) ?_
  refine lv_iload hx hb dL_law_3111 (lv_at hl 4 rfl) ?_
  refine lv_iconst (v := 1) hx hb dL_law_3113 (by decide +kernel) ?_
  refine lv_iadd hx hb dL_law_3114 ?_
  refine va_sld hx hb hX hbl hbA hS vi_1 dL_law_3115 ?_
  refine lv_aload_n hx hb dL_law_3116 rfl (lv_at hl 0 rfl) ?_
  refine lv_iload hx hb dL_law_3117 (lv_at hl 4 rfl) ?_
  refine lv_iconst (v := 2) hx hb dL_law_3119 (by decide +kernel) ?_
  refine lv_iadd hx hb dL_law_3120 ?_
  refine va_sld hx hb hX hbl hbA hS vi_2 dL_law_3121 ?_
  refine lv_aload_n hx hb dL_law_3122 rfl (lv_at hl 0 rfl) ?_
  refine lv_iload hx hb dL_law_3123 (lv_at hl 4 rfl) ?_
  refine lv_iconst (v := 3) hx hb dL_law_3125 (by decide +kernel) ?_
  refine lv_iadd hx hb dL_law_3126 ?_
  refine va_sld hx hb hX hbl hbA hS vi_3 dL_law_3127 ?_
  refine lv_if_eq (tgt := 3135) hx hb dL_law_3128 (by decide) (fun c9 => ?_) (fun c9 => ?_)
  · refine lv_iconst (v := 0) hx hb dL_law_3135 (by decide +kernel) ?_
    refine lv_aload_n hx hb dL_law_3136 rfl (lv_at hl 3 rfl) ?_
    have hPc := hP.sub (ws' := [(x, .inr (12, xg)), (chA, .inl (chC, (4, .inr (.inr (.inr (.inr chF)))))), (ch0, .inr (2, chg0)), (ch1, .inr (2, chg1)), (ch2, .inr (2, chg2)), (ch3, .inr (2, chg3)), (oA, .inl (oC, (1, .inr (.inl oF))))]) [0, 1, 2, 3, 4, 5, 8] rfl
    have hDc := hD.sub (ws' := [(x, .inr (12, xg)), (chA, .inl (chC, (4, .inr (.inr (.inr (.inr chF)))))), (ch0, .inr (2, chg0)), (ch1, .inr (2, chg1)), (ch2, .inr (2, chg2)), (ch3, .inr (2, chg3)), (oA, .inl (oC, (1, .inr (.inl oF))))]) [0, 1, 2, 3, 4, 5, 8] (by decide) rfl
    have hKc := hK.sub (tys' := [(chC, .object "ChipFlow$Chip"), (oC, .long)]) [0, 2] rfl
    have hFc := va_free (wc := [(x, .inr (12, xg)), (chA, .inl (chC, (4, .inr (.inr (.inr (.inr chF)))))), (ch0, .inr (2, chg0)), (ch1, .inr (2, chg1)), (ch2, .inr (2, chg2)), (ch3, .inr (2, chg3)), (oA, .inl (oC, (1, .inr (.inl oF))))]) hD hS hA [0, 1, 2, 3, 4, 5, 8] rfl
    refine va_calli (vx_runSW (As := [.ref x, .int (xs ((0 : Int32) + 1).toNatClampNeg), .int (xs ((0 : Int32) + 2).toNatClampNeg), .int 0, .ref oA]) (rest := []) ⟨hx, hb, hml, hown, hts⟩ (ct_L_arrival l hlt dC dI H.size (xs ((0 : Int32) + 1).toNatClampNeg) (xs ((0 : Int32) + 2).toNatClampNeg) 0 x xg chA chC chF ch0 ch1 ch2 ch3 chg0 chg1 chg2 chg3 hchg0 hchF0 hchg1 hchF1 hchg2 hchF2 hchg3 hchF3 oA oC oF hxg) (vx_cwSW 5 hts (gi_W wd_2783 wd_2784 wd_326 wd_2785) rfl rfl rfl (by decide +kernel) ⟨(Nat.le_of_ble_eq_true rfl), (Nat.le_of_ble_eq_true rfl)⟩) ⟨fun a U g mk q => by obtain ⟨q0, q1, qP, qK, qD, qT⟩ := q; exact ⟨q0, q1, qP, va_K.moved (u := U) (U := U.calling g mk a) (Vm.Alike.refl U.vm) qK, qD, th.moved (u := U) (U := U.calling g mk a) (Vm.Alike.refl U.vm) qT⟩, fun U hU hW => ⟨rfl, by rw [hU], by rw [hU]; exact hPc, va_K.moved hW.alike hKc, hDc.weaken (fun _ _ _ _ => trivial), by rw [hU]; exact ((hth.kept hS.2.1).narrow hFc).moved hW.alike⟩⟩ rfl rfl hl.1 rfl (lv_room (Nat.le_of_ble_eq_true rfl)) dL_law_3137 ⟨(Nat.le_of_ble_eq_true rfl), (Nat.le_of_ble_eq_true rfl)⟩) hS (fun q _ h => hFc q h) hFc (fun r u t H1 locs ht hvm hw hB hz1 hk1 hS => ?_)
    subst hw
    obtain ⟨hP1, -, hD1⟩ := hB
    rw [ht] at hP1
    obtain ⟨hP, hD⟩ := va_join (wr := [(m0, .inr (13, mg)), (mcA, .inl (mcC, (4, .inl (fun _ => 0))))]) (w1 := [(oA, .inl (oC, (1, .inr (.inl oF))))]) hP hD [0, 1, 2, 3, 4, 5, 8] [6, 7] rfl rfl (by decide) (by decide) hk1 hFc hP1 hD1
    have hP := hP.sub (ws' := [(m0, .inr (13, mg)), (mcA, .inl (mcC, (4, .inl (fun _ => 0))))]) [0, 1] rfl
    have hD := hD.sub (ws' := [(m0, .inr (13, mg)), (mcA, .inl (mcC, (4, .inl (fun _ => 0))))]) [0, 1] (by decide) rfl
    have hK := hK.sub (tys' := [(mcC, .boolean)]) [1] rfl
    generalize H1 = H at hP hS ⊢
    refine W.widen (k := 452) (n := 2709148) (Nat.le_of_ble_eq_true rfl) (Nat.le_of_ble_eq_true rfl) ?_
    refine lv_istore (lv' := [(5, .int 1), (0, .ref b), (1, .ref x), (2, .ref m0), (3, .ref oA), (4, .int 0)]) hx hb dL_law_3140 hl (by decide) rfl (fun ls hl => ?_)
    refine lv_aload_n hx hb dL_law_3142 rfl (lv_at hl 3 rfl) ?_
    refine lv_aload_n hx hb dL_law_3143 rfl (lv_at hl 1 rfl) ?_
    refine lv_iload hx hb dL_law_3144 (lv_at hl 5 rfl) ?_
    refine lv_iconst (v := 1) hx hb dL_law_3146 (by decide +kernel) ?_
    refine lv_iadd hx hb dL_law_3147 ?_
    refine va_sld hx hb hX hbl hbA hS vi_1 dL_law_3148 ?_
    refine lv_aload_n hx hb dL_law_3149 rfl (lv_at hl 1 rfl) ?_
    refine lv_iload hx hb dL_law_3150 (lv_at hl 5 rfl) ?_
    refine lv_iconst (v := 2) hx hb dL_law_3152 (by decide +kernel) ?_
    refine lv_iadd hx hb dL_law_3153 ?_
    refine va_sld hx hb hX hbl hbA hS vi_2 dL_law_3154 ?_
    refine lv_aload_n hx hb dL_law_3155 rfl (lv_at hl 1 rfl) ?_
    refine lv_iload hx hb dL_law_3156 (lv_at hl 5 rfl) ?_
    refine lv_iconst (v := 3) hx hb dL_law_3158 (by decide +kernel) ?_
    refine lv_iadd hx hb dL_law_3159 ?_
    refine va_sld hx hb hX hbl hbA hS vi_3 dL_law_3160 ?_
    refine lv_if_eq (tgt := 3168) hx hb dL_law_3161 (by decide) (fun c9 => ?_) (fun c9 => ?_)
    · refine lv_iconst (v := 0) hx hb dL_law_3168 (by decide +kernel) ?_
      have hFc := va_free (wc := [(m0, .inr (13, mg)), (mcA, .inl (mcC, (4, .inl (fun _ => 0))))]) hD hS hA [0, 1] rfl
      refine va_calli (va_runV (As := [.int (xs ((0 : Int32) + 1).toNatClampNeg), .int (xs ((0 : Int32) + 2).toNatClampNeg), .int 0]) (rest := []) ⟨hx, hb, hml, hown, hts⟩ (ct_X13_arrival l dC dI _ (xs ((0 : Int32) + 1).toNatClampNeg) (xs ((0 : Int32) + 2).toNatClampNeg) 0 m0 mg mcA mcC hmg) (cwV 3 hts (gi_V wd_4573 wd_4574 wd_4575 wd_340 wd_4576) rfl rfl rfl (by decide +kernel) ⟨(Nat.le_of_ble_eq_true rfl), (Nat.le_of_ble_eq_true rfl)⟩) ⟨fun a U g mk q => by obtain ⟨q0, q1, qP, qK, qD⟩ := q; exact ⟨q0, q1, qP, va_K.moved (u := U) (U := U.calling g mk a) (Vm.Alike.refl U.vm) qK, qD⟩, va_recv hK hP (ci := 13) (q0 := 0) rfl rfl, fun U hU hW => ⟨rfl, by rw [hU], by rw [hU]; exact hP, va_K.moved hW.alike hK, hD.weaken (fun _ _ _ _ => trivial)⟩⟩ rfl rfl hl.1 rfl (lv_room (Nat.le_of_ble_eq_true rfl)) dL_law_3169 ⟨(Nat.le_of_ble_eq_true rfl), (Nat.le_of_ble_eq_true rfl)⟩) hS (fun q _ h => hFc q h) hFc (fun r u t H1 locs ht hvm hw hB hz1 hk1 hS => ?_)
      subst hw
      obtain ⟨mg1, hmg1, hP1, hK1, hD1⟩ := hB
      rw [ht] at hP1
      have hK1 := va_K.moved hvm.symm hK1
      have hD1 := hD1.weaken (fun k q _ h => hFc q.1 h)
      generalize H1 = H at hP1 hS ⊢
      refine lv_istore (lv' := [(6, .int 0), (5, .int 1), (0, .ref b), (1, .ref x), (2, .ref m0), (3, .ref oA), (4, .int 0)]) hx hb dL_law_3172 hl (by decide) rfl (fun ls hl => ?_)
      refine lv_aload_n hx hb dL_law_3174 rfl (lv_at hl 4 rfl) ?_
      have hFc := va_free (wc := [(m0, .inr (13, mg1))]) hD1 hS hA [0] rfl
      refine va_calli (va_runV (As := []) (rest := []) ⟨hx, hb, hml, hown, hts⟩ (ct_X13_thrown l dC dI _ 1 m0 mg1 hmg1) (cwV 0 hts (gi_V wd_3015 wd_3016 wd_3017 wd_340 wd_3018) rfl rfl rfl (by decide +kernel) ⟨(Nat.le_of_ble_eq_true rfl), (Nat.le_of_ble_eq_true rfl)⟩) ⟨fun a U g mk q => by obtain ⟨q0, q1, qP, qK, qD⟩ := q; exact ⟨q0, q1, qP, va_K.moved (u := U) (U := U.calling g mk a) (Vm.Alike.refl U.vm) qK, qD⟩, va_recv hK1 hP1 (ci := 13) (q0 := 0) rfl rfl, fun U hU hW => ⟨rfl, by rw [hU], by rw [hU]; exact hP1, va_K.moved hW.alike hK1, hD1.weaken (fun _ _ _ _ => trivial)⟩⟩ rfl rfl hl.1 rfl (lv_room (Nat.le_of_ble_eq_true rfl)) dL_law_3175 ⟨(Nat.le_of_ble_eq_true rfl), (Nat.le_of_ble_eq_true rfl)⟩) hS (fun q _ h => hFc q h) hFc (fun r u t H1 locs ht hvm hw hB hz1 hk1 hS => ?_)
      subst hw
      refine lv_iload hx hb dL_law_3178 (lv_at hl 1 rfl) ?_
      refine lv_icmp_eq (tgt := 3185) hx hb dL_law_3180 (by decide) (fun c9 => ?_) (fun c9 => ?_)
      rotate_left
      · first | exact absurd c9 (by decide +kernel) | exact absurd (by decide +kernel) c9
      refine lv_iload hx hb dL_law_3185 (lv_at hl 1 rfl) ?_
      refine lv_if_ne (tgt := 3202) hx hb dL_law_3187 (by decide) (fun c9 => ?_) (fun c9 => ?_)
      rotate_left
      · first | exact absurd c9 (by decide +kernel) | exact absurd (by decide +kernel) c9
      refine lv_goto (tgt := 4099) hx hb dL_law_3202 (by decide) ?_
      refine W.widen (k := 470) (n := 2709300) (Nat.le_of_ble_eq_true rfl) (Nat.le_of_ble_eq_true rfl) ?_
      exact law_tail (v5 := 0) (v6 := 0) (lv := []) C0 hS (lv_sub hl [2, 6] rfl)
    · refine lv_iconst (v := 1) hx hb dL_law_3164 (by decide +kernel) ?_
      refine lv_goto (tgt := 3169) hx hb dL_law_3165 (by decide) ?_
      have hFc := va_free (wc := [(m0, .inr (13, mg)), (mcA, .inl (mcC, (4, .inl (fun _ => 0))))]) hD hS hA [0, 1] rfl
      refine va_calli (va_runV (As := [.int (xs ((0 : Int32) + 1).toNatClampNeg), .int (xs ((0 : Int32) + 2).toNatClampNeg), .int 1]) (rest := []) ⟨hx, hb, hml, hown, hts⟩ (ct_X13_arrival l dC dI _ (xs ((0 : Int32) + 1).toNatClampNeg) (xs ((0 : Int32) + 2).toNatClampNeg) 1 m0 mg mcA mcC hmg) (cwV 3 hts (gi_V wd_4573 wd_4574 wd_4575 wd_340 wd_4576) rfl rfl rfl (by decide +kernel) ⟨(Nat.le_of_ble_eq_true rfl), (Nat.le_of_ble_eq_true rfl)⟩) ⟨fun a U g mk q => by obtain ⟨q0, q1, qP, qK, qD⟩ := q; exact ⟨q0, q1, qP, va_K.moved (u := U) (U := U.calling g mk a) (Vm.Alike.refl U.vm) qK, qD⟩, va_recv hK hP (ci := 13) (q0 := 0) rfl rfl, fun U hU hW => ⟨rfl, by rw [hU], by rw [hU]; exact hP, va_K.moved hW.alike hK, hD.weaken (fun _ _ _ _ => trivial)⟩⟩ rfl rfl hl.1 rfl (lv_room (Nat.le_of_ble_eq_true rfl)) dL_law_3169 ⟨(Nat.le_of_ble_eq_true rfl), (Nat.le_of_ble_eq_true rfl)⟩) hS (fun q _ h => hFc q h) hFc (fun r u t H1 locs ht hvm hw hB hz1 hk1 hS => ?_)
      subst hw
      obtain ⟨mg1, hmg1, hP1, hK1, hD1⟩ := hB
      rw [ht] at hP1
      have hK1 := va_K.moved hvm.symm hK1
      have hD1 := hD1.weaken (fun k q _ h => hFc q.1 h)
      generalize H1 = H at hP1 hS ⊢
      refine lv_istore (lv' := [(6, .int 0), (5, .int 1), (0, .ref b), (1, .ref x), (2, .ref m0), (3, .ref oA), (4, .int 0)]) hx hb dL_law_3172 hl (by decide) rfl (fun ls hl => ?_)
      refine lv_aload_n hx hb dL_law_3174 rfl (lv_at hl 4 rfl) ?_
      have hFc := va_free (wc := [(m0, .inr (13, mg1))]) hD1 hS hA [0] rfl
      refine va_calli (va_runV (As := []) (rest := []) ⟨hx, hb, hml, hown, hts⟩ (ct_X13_thrown l dC dI _ 1 m0 mg1 hmg1) (cwV 0 hts (gi_V wd_3015 wd_3016 wd_3017 wd_340 wd_3018) rfl rfl rfl (by decide +kernel) ⟨(Nat.le_of_ble_eq_true rfl), (Nat.le_of_ble_eq_true rfl)⟩) ⟨fun a U g mk q => by obtain ⟨q0, q1, qP, qK, qD⟩ := q; exact ⟨q0, q1, qP, va_K.moved (u := U) (U := U.calling g mk a) (Vm.Alike.refl U.vm) qK, qD⟩, va_recv hK1 hP1 (ci := 13) (q0 := 0) rfl rfl, fun U hU hW => ⟨rfl, by rw [hU], by rw [hU]; exact hP1, va_K.moved hW.alike hK1, hD1.weaken (fun _ _ _ _ => trivial)⟩⟩ rfl rfl hl.1 rfl (lv_room (Nat.le_of_ble_eq_true rfl)) dL_law_3175 ⟨(Nat.le_of_ble_eq_true rfl), (Nat.le_of_ble_eq_true rfl)⟩) hS (fun q _ h => hFc q h) hFc (fun r u t H1 locs ht hvm hw hB hz1 hk1 hS => ?_)
      subst hw
      refine lv_iload hx hb dL_law_3178 (lv_at hl 1 rfl) ?_
      refine lv_icmp_eq (tgt := 3185) hx hb dL_law_3180 (by decide) (fun c9 => ?_) (fun c9 => ?_)
      rotate_left
      · first | exact absurd c9 (by decide +kernel) | exact absurd (by decide +kernel) c9
      refine lv_iload hx hb dL_law_3185 (lv_at hl 1 rfl) ?_
      refine lv_if_ne (tgt := 3202) hx hb dL_law_3187 (by decide) (fun c9 => ?_) (fun c9 => ?_)
      rotate_left
      · first | exact absurd c9 (by decide +kernel) | exact absurd (by decide +kernel) c9
      refine lv_goto (tgt := 4099) hx hb dL_law_3202 (by decide) ?_
      refine W.widen (k := 470) (n := 2709300) (Nat.le_of_ble_eq_true rfl) (Nat.le_of_ble_eq_true rfl) ?_
      exact law_tail (v5 := 0) (v6 := 0) (lv := []) C0 hS (lv_sub hl [2, 6] rfl)
  · refine lv_iconst (v := 1) hx hb dL_law_3131 (by decide +kernel) ?_
    refine lv_goto (tgt := 3136) hx hb dL_law_3132 (by decide) ?_
    refine lv_aload_n hx hb dL_law_3136 rfl (lv_at hl 3 rfl) ?_
    have hPc := hP.sub (ws' := [(x, .inr (12, xg)), (chA, .inl (chC, (4, .inr (.inr (.inr (.inr chF)))))), (ch0, .inr (2, chg0)), (ch1, .inr (2, chg1)), (ch2, .inr (2, chg2)), (ch3, .inr (2, chg3)), (oA, .inl (oC, (1, .inr (.inl oF))))]) [0, 1, 2, 3, 4, 5, 8] rfl
    have hDc := hD.sub (ws' := [(x, .inr (12, xg)), (chA, .inl (chC, (4, .inr (.inr (.inr (.inr chF)))))), (ch0, .inr (2, chg0)), (ch1, .inr (2, chg1)), (ch2, .inr (2, chg2)), (ch3, .inr (2, chg3)), (oA, .inl (oC, (1, .inr (.inl oF))))]) [0, 1, 2, 3, 4, 5, 8] (by decide) rfl
    have hKc := hK.sub (tys' := [(chC, .object "ChipFlow$Chip"), (oC, .long)]) [0, 2] rfl
    have hFc := va_free (wc := [(x, .inr (12, xg)), (chA, .inl (chC, (4, .inr (.inr (.inr (.inr chF)))))), (ch0, .inr (2, chg0)), (ch1, .inr (2, chg1)), (ch2, .inr (2, chg2)), (ch3, .inr (2, chg3)), (oA, .inl (oC, (1, .inr (.inl oF))))]) hD hS hA [0, 1, 2, 3, 4, 5, 8] rfl
    refine va_calli (vx_runSW (As := [.ref x, .int (xs ((0 : Int32) + 1).toNatClampNeg), .int (xs ((0 : Int32) + 2).toNatClampNeg), .int 1, .ref oA]) (rest := []) ⟨hx, hb, hml, hown, hts⟩ (ct_L_arrival l hlt dC dI H.size (xs ((0 : Int32) + 1).toNatClampNeg) (xs ((0 : Int32) + 2).toNatClampNeg) 1 x xg chA chC chF ch0 ch1 ch2 ch3 chg0 chg1 chg2 chg3 hchg0 hchF0 hchg1 hchF1 hchg2 hchF2 hchg3 hchF3 oA oC oF hxg) (vx_cwSW 5 hts (gi_W wd_2783 wd_2784 wd_326 wd_2785) rfl rfl rfl (by decide +kernel) ⟨(Nat.le_of_ble_eq_true rfl), (Nat.le_of_ble_eq_true rfl)⟩) ⟨fun a U g mk q => by obtain ⟨q0, q1, qP, qK, qD, qT⟩ := q; exact ⟨q0, q1, qP, va_K.moved (u := U) (U := U.calling g mk a) (Vm.Alike.refl U.vm) qK, qD, th.moved (u := U) (U := U.calling g mk a) (Vm.Alike.refl U.vm) qT⟩, fun U hU hW => ⟨rfl, by rw [hU], by rw [hU]; exact hPc, va_K.moved hW.alike hKc, hDc.weaken (fun _ _ _ _ => trivial), by rw [hU]; exact ((hth.kept hS.2.1).narrow hFc).moved hW.alike⟩⟩ rfl rfl hl.1 rfl (lv_room (Nat.le_of_ble_eq_true rfl)) dL_law_3137 ⟨(Nat.le_of_ble_eq_true rfl), (Nat.le_of_ble_eq_true rfl)⟩) hS (fun q _ h => hFc q h) hFc (fun r u t H1 locs ht hvm hw hB hz1 hk1 hS => ?_)
    subst hw
    obtain ⟨hP1, -, hD1⟩ := hB
    rw [ht] at hP1
    obtain ⟨hP, hD⟩ := va_join (wr := [(m0, .inr (13, mg)), (mcA, .inl (mcC, (4, .inl (fun _ => 0))))]) (w1 := [(oA, .inl (oC, (1, .inr (.inl oF))))]) hP hD [0, 1, 2, 3, 4, 5, 8] [6, 7] rfl rfl (by decide) (by decide) hk1 hFc hP1 hD1
    have hP := hP.sub (ws' := [(m0, .inr (13, mg)), (mcA, .inl (mcC, (4, .inl (fun _ => 0))))]) [0, 1] rfl
    have hD := hD.sub (ws' := [(m0, .inr (13, mg)), (mcA, .inl (mcC, (4, .inl (fun _ => 0))))]) [0, 1] (by decide) rfl
    have hK := hK.sub (tys' := [(mcC, .boolean)]) [1] rfl
    generalize H1 = H at hP hS ⊢
    refine W.widen (k := 452) (n := 2709148) (Nat.le_of_ble_eq_true rfl) (Nat.le_of_ble_eq_true rfl) ?_
    refine lv_istore (lv' := [(5, .int 1), (0, .ref b), (1, .ref x), (2, .ref m0), (3, .ref oA), (4, .int 0)]) hx hb dL_law_3140 hl (by decide) rfl (fun ls hl => ?_)
    refine lv_aload_n hx hb dL_law_3142 rfl (lv_at hl 3 rfl) ?_
    refine lv_aload_n hx hb dL_law_3143 rfl (lv_at hl 1 rfl) ?_
    refine lv_iload hx hb dL_law_3144 (lv_at hl 5 rfl) ?_
    refine lv_iconst (v := 1) hx hb dL_law_3146 (by decide +kernel) ?_
    refine lv_iadd hx hb dL_law_3147 ?_
    refine va_sld hx hb hX hbl hbA hS vi_1 dL_law_3148 ?_
    refine lv_aload_n hx hb dL_law_3149 rfl (lv_at hl 1 rfl) ?_
    refine lv_iload hx hb dL_law_3150 (lv_at hl 5 rfl) ?_
    refine lv_iconst (v := 2) hx hb dL_law_3152 (by decide +kernel) ?_
    refine lv_iadd hx hb dL_law_3153 ?_
    refine va_sld hx hb hX hbl hbA hS vi_2 dL_law_3154 ?_
    refine lv_aload_n hx hb dL_law_3155 rfl (lv_at hl 1 rfl) ?_
    refine lv_iload hx hb dL_law_3156 (lv_at hl 5 rfl) ?_
    refine lv_iconst (v := 3) hx hb dL_law_3158 (by decide +kernel) ?_
    refine lv_iadd hx hb dL_law_3159 ?_
    refine va_sld hx hb hX hbl hbA hS vi_3 dL_law_3160 ?_
    refine lv_if_eq (tgt := 3168) hx hb dL_law_3161 (by decide) (fun c9 => ?_) (fun c9 => ?_)
    · refine lv_iconst (v := 0) hx hb dL_law_3168 (by decide +kernel) ?_
      have hFc := va_free (wc := [(m0, .inr (13, mg)), (mcA, .inl (mcC, (4, .inl (fun _ => 0))))]) hD hS hA [0, 1] rfl
      refine va_calli (va_runV (As := [.int (xs ((0 : Int32) + 1).toNatClampNeg), .int (xs ((0 : Int32) + 2).toNatClampNeg), .int 0]) (rest := []) ⟨hx, hb, hml, hown, hts⟩ (ct_X13_arrival l dC dI _ (xs ((0 : Int32) + 1).toNatClampNeg) (xs ((0 : Int32) + 2).toNatClampNeg) 0 m0 mg mcA mcC hmg) (cwV 3 hts (gi_V wd_4573 wd_4574 wd_4575 wd_340 wd_4576) rfl rfl rfl (by decide +kernel) ⟨(Nat.le_of_ble_eq_true rfl), (Nat.le_of_ble_eq_true rfl)⟩) ⟨fun a U g mk q => by obtain ⟨q0, q1, qP, qK, qD⟩ := q; exact ⟨q0, q1, qP, va_K.moved (u := U) (U := U.calling g mk a) (Vm.Alike.refl U.vm) qK, qD⟩, va_recv hK hP (ci := 13) (q0 := 0) rfl rfl, fun U hU hW => ⟨rfl, by rw [hU], by rw [hU]; exact hP, va_K.moved hW.alike hK, hD.weaken (fun _ _ _ _ => trivial)⟩⟩ rfl rfl hl.1 rfl (lv_room (Nat.le_of_ble_eq_true rfl)) dL_law_3169 ⟨(Nat.le_of_ble_eq_true rfl), (Nat.le_of_ble_eq_true rfl)⟩) hS (fun q _ h => hFc q h) hFc (fun r u t H1 locs ht hvm hw hB hz1 hk1 hS => ?_)
      subst hw
      obtain ⟨mg1, hmg1, hP1, hK1, hD1⟩ := hB
      rw [ht] at hP1
      have hK1 := va_K.moved hvm.symm hK1
      have hD1 := hD1.weaken (fun k q _ h => hFc q.1 h)
      generalize H1 = H at hP1 hS ⊢
      refine lv_istore (lv' := [(6, .int 0), (5, .int 1), (0, .ref b), (1, .ref x), (2, .ref m0), (3, .ref oA), (4, .int 0)]) hx hb dL_law_3172 hl (by decide) rfl (fun ls hl => ?_)
      refine lv_aload_n hx hb dL_law_3174 rfl (lv_at hl 4 rfl) ?_
      have hFc := va_free (wc := [(m0, .inr (13, mg1))]) hD1 hS hA [0] rfl
      refine va_calli (va_runV (As := []) (rest := []) ⟨hx, hb, hml, hown, hts⟩ (ct_X13_thrown l dC dI _ 1 m0 mg1 hmg1) (cwV 0 hts (gi_V wd_3015 wd_3016 wd_3017 wd_340 wd_3018) rfl rfl rfl (by decide +kernel) ⟨(Nat.le_of_ble_eq_true rfl), (Nat.le_of_ble_eq_true rfl)⟩) ⟨fun a U g mk q => by obtain ⟨q0, q1, qP, qK, qD⟩ := q; exact ⟨q0, q1, qP, va_K.moved (u := U) (U := U.calling g mk a) (Vm.Alike.refl U.vm) qK, qD⟩, va_recv hK1 hP1 (ci := 13) (q0 := 0) rfl rfl, fun U hU hW => ⟨rfl, by rw [hU], by rw [hU]; exact hP1, va_K.moved hW.alike hK1, hD1.weaken (fun _ _ _ _ => trivial)⟩⟩ rfl rfl hl.1 rfl (lv_room (Nat.le_of_ble_eq_true rfl)) dL_law_3175 ⟨(Nat.le_of_ble_eq_true rfl), (Nat.le_of_ble_eq_true rfl)⟩) hS (fun q _ h => hFc q h) hFc (fun r u t H1 locs ht hvm hw hB hz1 hk1 hS => ?_)
      subst hw
      refine lv_iload hx hb dL_law_3178 (lv_at hl 1 rfl) ?_
      refine lv_icmp_eq (tgt := 3185) hx hb dL_law_3180 (by decide) (fun c9 => ?_) (fun c9 => ?_)
      rotate_left
      · first | exact absurd c9 (by decide +kernel) | exact absurd (by decide +kernel) c9
      refine lv_iload hx hb dL_law_3185 (lv_at hl 1 rfl) ?_
      refine lv_if_ne (tgt := 3202) hx hb dL_law_3187 (by decide) (fun c9 => ?_) (fun c9 => ?_)
      rotate_left
      · first | exact absurd c9 (by decide +kernel) | exact absurd (by decide +kernel) c9
      refine lv_goto (tgt := 4099) hx hb dL_law_3202 (by decide) ?_
      refine W.widen (k := 470) (n := 2709300) (Nat.le_of_ble_eq_true rfl) (Nat.le_of_ble_eq_true rfl) ?_
      exact law_tail (v5 := 0) (v6 := 0) (lv := []) C0 hS (lv_sub hl [2, 6] rfl)
    · refine lv_iconst (v := 1) hx hb dL_law_3164 (by decide +kernel) ?_
      refine lv_goto (tgt := 3169) hx hb dL_law_3165 (by decide) ?_
      have hFc := va_free (wc := [(m0, .inr (13, mg)), (mcA, .inl (mcC, (4, .inl (fun _ => 0))))]) hD hS hA [0, 1] rfl
      refine va_calli (va_runV (As := [.int (xs ((0 : Int32) + 1).toNatClampNeg), .int (xs ((0 : Int32) + 2).toNatClampNeg), .int 1]) (rest := []) ⟨hx, hb, hml, hown, hts⟩ (ct_X13_arrival l dC dI _ (xs ((0 : Int32) + 1).toNatClampNeg) (xs ((0 : Int32) + 2).toNatClampNeg) 1 m0 mg mcA mcC hmg) (cwV 3 hts (gi_V wd_4573 wd_4574 wd_4575 wd_340 wd_4576) rfl rfl rfl (by decide +kernel) ⟨(Nat.le_of_ble_eq_true rfl), (Nat.le_of_ble_eq_true rfl)⟩) ⟨fun a U g mk q => by obtain ⟨q0, q1, qP, qK, qD⟩ := q; exact ⟨q0, q1, qP, va_K.moved (u := U) (U := U.calling g mk a) (Vm.Alike.refl U.vm) qK, qD⟩, va_recv hK hP (ci := 13) (q0 := 0) rfl rfl, fun U hU hW => ⟨rfl, by rw [hU], by rw [hU]; exact hP, va_K.moved hW.alike hK, hD.weaken (fun _ _ _ _ => trivial)⟩⟩ rfl rfl hl.1 rfl (lv_room (Nat.le_of_ble_eq_true rfl)) dL_law_3169 ⟨(Nat.le_of_ble_eq_true rfl), (Nat.le_of_ble_eq_true rfl)⟩) hS (fun q _ h => hFc q h) hFc (fun r u t H1 locs ht hvm hw hB hz1 hk1 hS => ?_)
      subst hw
      obtain ⟨mg1, hmg1, hP1, hK1, hD1⟩ := hB
      rw [ht] at hP1
      have hK1 := va_K.moved hvm.symm hK1
      have hD1 := hD1.weaken (fun k q _ h => hFc q.1 h)
      generalize H1 = H at hP1 hS ⊢
      refine lv_istore (lv' := [(6, .int 0), (5, .int 1), (0, .ref b), (1, .ref x), (2, .ref m0), (3, .ref oA), (4, .int 0)]) hx hb dL_law_3172 hl (by decide) rfl (fun ls hl => ?_)
      refine lv_aload_n hx hb dL_law_3174 rfl (lv_at hl 4 rfl) ?_
      have hFc := va_free (wc := [(m0, .inr (13, mg1))]) hD1 hS hA [0] rfl
      refine va_calli (va_runV (As := []) (rest := []) ⟨hx, hb, hml, hown, hts⟩ (ct_X13_thrown l dC dI _ 1 m0 mg1 hmg1) (cwV 0 hts (gi_V wd_3015 wd_3016 wd_3017 wd_340 wd_3018) rfl rfl rfl (by decide +kernel) ⟨(Nat.le_of_ble_eq_true rfl), (Nat.le_of_ble_eq_true rfl)⟩) ⟨fun a U g mk q => by obtain ⟨q0, q1, qP, qK, qD⟩ := q; exact ⟨q0, q1, qP, va_K.moved (u := U) (U := U.calling g mk a) (Vm.Alike.refl U.vm) qK, qD⟩, va_recv hK1 hP1 (ci := 13) (q0 := 0) rfl rfl, fun U hU hW => ⟨rfl, by rw [hU], by rw [hU]; exact hP1, va_K.moved hW.alike hK1, hD1.weaken (fun _ _ _ _ => trivial)⟩⟩ rfl rfl hl.1 rfl (lv_room (Nat.le_of_ble_eq_true rfl)) dL_law_3175 ⟨(Nat.le_of_ble_eq_true rfl), (Nat.le_of_ble_eq_true rfl)⟩) hS (fun q _ h => hFc q h) hFc (fun r u t H1 locs ht hvm hw hB hz1 hk1 hS => ?_)
      subst hw
      refine lv_iload hx hb dL_law_3178 (lv_at hl 1 rfl) ?_
      refine lv_icmp_eq (tgt := 3185) hx hb dL_law_3180 (by decide) (fun c9 => ?_) (fun c9 => ?_)
      rotate_left
      · first | exact absurd c9 (by decide +kernel) | exact absurd (by decide +kernel) c9
      refine lv_iload hx hb dL_law_3185 (lv_at hl 1 rfl) ?_
      refine lv_if_ne (tgt := 3202) hx hb dL_law_3187 (by decide) (fun c9 => ?_) (fun c9 => ?_)
      rotate_left
      · first | exact absurd c9 (by decide +kernel) | exact absurd (by decide +kernel) c9
      refine lv_goto (tgt := 4099) hx hb dL_law_3202 (by decide) ?_
      refine W.widen (k := 470) (n := 2709300) (Nat.le_of_ble_eq_true rfl) (Nat.le_of_ble_eq_true rfl) ?_
      exact law_tail (v5 := 0) (v6 := 0) (lv := []) C0 hS (lv_sub hl [2, 6] rfl)
set_option maxHeartbeats 4000000 in
set_option maxRecDepth 100000 in
theorem law_falsify {p : Program} {l : Launch} {e : Env} {s : State} {m : MethodId} {below : List Frame} {meth : Method} {c : Code} {b : Nat} {xs : Nat → Int32} (C0 : lw_At p s m meth c b 7 xs) {dC : Nat → ClassId} {dI : Nat → Nat → Nat} (hlt : l.stackTraces = false) (hth : th (fun q : Nat => s.heap.size ≤ q) s s.heap) (x : Nat) (xg : List Value) (chA : Nat) (chC : ClassId) (chF : Nat → Option Nat) (ch0 ch1 ch2 ch3 : Nat) (chg0 chg1 chg2 chg3 : List Value) (hchg0 : fx chg0 20 [(0, .int 0)]) (hchF0 : chF 0 = some ch0) (hchg1 : fx chg1 20 [(0, .int 0)]) (hchF1 : chF 1 = some ch1) (hchg2 : fx chg2 20 [(0, .int 0)]) (hchF2 : chF 2 = some ch2) (hchg3 : fx chg3 20 [(0, .int 0)]) (hchF3 : chF 3 = some ch3) (m0 : Nat) (mg : List Value) (mcA : Nat) (mcC : ClassId) (oA : Nat) (oC : ClassId) (oF : Nat → Int64) (hxg : fx xg 17 [(9, .ref chA)]) (hmg : fx mg 225 [(138, .ref mcA)]) (H : Heap) (locs : List Loc) (hK : va_K (dC, dI) CL [(chC, .object "ChipFlow$Chip"), (mcC, .boolean), (oC, .long)] s) (hP : va_P (dC, dI) CL [(x, .inr (12, xg)), (chA, .inl (chC, (4, .inr (.inr (.inr (.inr chF)))))), (ch0, .inr (2, chg0)), (ch1, .inr (2, chg1)), (ch2, .inr (2, chg2)), (ch3, .inr (2, chg3)), (m0, .inr (13, mg)), (mcA, .inl (mcC, (4, .inl (fun _ => 0)))), (oA, .inl (oC, (1, .inr (.inl oF))))] H) (hD : va_D (fun q : Nat => s.heap.size ≤ q) [(x, .inr (12, xg)), (chA, .inl (chC, (4, .inr (.inr (.inr (.inr chF)))))), (ch0, .inr (2, chg0)), (ch1, .inr (2, chg1)), (ch2, .inr (2, chg2)), (ch3, .inr (2, chg3)), (m0, .inr (13, mg)), (mcA, .inl (mcC, (4, .inl (fun _ => 0)))), (oA, .inl (oC, (1, .inr (.inl oF))))]) (hS : va_S (fun q : Nat => s.heap.size ≤ q) s.heap H locs) (ls : Array Slot) (hl : lv_has ls 7 [(0, .ref b), (1, .ref x), (2, .ref m0), (3, .ref oA), (4, .int 0)]) : W p l e room_1 s m #[Value.ref b] below meth c H locs 451 2709142 (lw_Z below #[Value.ref b] s) (F0 m 3205 ls []) := by
  obtain ⟨hx, hb, hr, hml, hown, hts0, hX, hbl, hlocks, hgv⟩ := id C0
  have hts : ∀ w ∈ BG, w.before _ s = true := fun w h => hts0 w (List.mem_filter.mp h).1
  have hown : s.vm.findClass RL = some m.cls := hown
  have hA : ∀ q : Nat, s.heap.size ≤ q → (fun q : Nat => s.heap.size ≤ q) q := fun _ h => h
  have hbA : ¬ (fun q : Nat => s.heap.size ≤ q) b := Nat.not_le.mpr hbl
  refine lv_aload_n hx hb dL_law_3205 rfl (lv_at hl 1 rfl) ?_
  refine lv_aload_n hx hb dL_law_3206 rfl (lv_at hl 0 rfl) ?_
  refine lv_iload hx hb dL_law_3207 (lv_at hl 4 rfl) ?_
  refine lv_iconst (v := 1) hx hb dL_law_3209 (by decide +kernel) ?_
  refine lv_iadd hx hb dL_law_3210 ?_
  refine va_sld hx hb hX hbl hbA hS vi_1 dL_law_3211 ?_
  refine lv_aload_n hx hb dL_law_3212 rfl (lv_at hl 0 rfl) ?_
  refine lv_iload hx hb dL_law_3213 (lv_at hl 4 rfl) ?_
  refine lv_iconst (v := 2) hx hb dL_law_3215 (by decide +kernel) ?_
  refine lv_iadd hx hb dL_law_3216 ?_
  refine va_sld hx hb hX hbl hbA hS vi_2 dL_law_3217 ?_
  refine lv_aload_n hx hb dL_law_3218 rfl (lv_at hl 0 rfl) ?_
  refine lv_iload hx hb dL_law_3219 (lv_at hl 4 rfl) ?_
  refine lv_iconst (v := 3) hx hb dL_law_3221 (by decide +kernel) ?_
  refine lv_iadd hx hb dL_law_3222 ?_
  refine va_sld hx hb hX hbl hbA hS vi_3 dL_law_3223 ?_
  refine lv_aload_n hx hb dL_law_3224 rfl (lv_at hl 3 rfl) ?_
  have hPc := hP.sub (ws' := [(x, .inr (12, xg)), (chA, .inl (chC, (4, .inr (.inr (.inr (.inr chF)))))), (ch0, .inr (2, chg0)), (ch1, .inr (2, chg1)), (ch2, .inr (2, chg2)), (ch3, .inr (2, chg3)), (oA, .inl (oC, (1, .inr (.inl oF))))]) [0, 1, 2, 3, 4, 5, 8] rfl
  have hDc := hD.sub (ws' := [(x, .inr (12, xg)), (chA, .inl (chC, (4, .inr (.inr (.inr (.inr chF)))))), (ch0, .inr (2, chg0)), (ch1, .inr (2, chg1)), (ch2, .inr (2, chg2)), (ch3, .inr (2, chg3)), (oA, .inl (oC, (1, .inr (.inl oF))))]) [0, 1, 2, 3, 4, 5, 8] (by decide) rfl
  have hKc := hK.sub (tys' := [(chC, .object "ChipFlow$Chip"), (oC, .long)]) [0, 2] rfl
  have hFc := va_free (wc := [(x, .inr (12, xg)), (chA, .inl (chC, (4, .inr (.inr (.inr (.inr chF)))))), (ch0, .inr (2, chg0)), (ch1, .inr (2, chg1)), (ch2, .inr (2, chg2)), (ch3, .inr (2, chg3)), (oA, .inl (oC, (1, .inr (.inl oF))))]) hD hS hA [0, 1, 2, 3, 4, 5, 8] rfl
  refine va_calli (vx_runSW (As := [.ref x, .int (xs ((0 : Int32) + 1).toNatClampNeg), .int (xs ((0 : Int32) + 2).toNatClampNeg), .int (xs ((0 : Int32) + 3).toNatClampNeg), .ref oA]) (rest := []) ⟨hx, hb, hml, hown, hts⟩ (ct_L_falsify l hlt dC dI H.size (xs ((0 : Int32) + 1).toNatClampNeg) (xs ((0 : Int32) + 2).toNatClampNeg) (xs ((0 : Int32) + 3).toNatClampNeg) x xg chA chC chF ch0 ch1 ch2 ch3 chg0 chg1 chg2 chg3 hchg0 hchF0 hchg1 hchF1 hchg2 hchF2 hchg3 hchF3 oA oC oF hxg) (vx_cwSW 5 hts (gi_W wd_2803 wd_2804 wd_326 wd_2805) rfl rfl rfl (by decide +kernel) ⟨(Nat.le_of_ble_eq_true rfl), (Nat.le_of_ble_eq_true rfl)⟩) ⟨fun a U g mk q => by obtain ⟨q0, q1, qP, qK, qD, qT⟩ := q; exact ⟨q0, q1, qP, va_K.moved (u := U) (U := U.calling g mk a) (Vm.Alike.refl U.vm) qK, qD, th.moved (u := U) (U := U.calling g mk a) (Vm.Alike.refl U.vm) qT⟩, fun U hU hW => ⟨rfl, by rw [hU], by rw [hU]; exact hPc, va_K.moved hW.alike hKc, hDc.weaken (fun _ _ _ _ => trivial), by rw [hU]; exact ((hth.kept hS.2.1).narrow hFc).moved hW.alike⟩⟩ rfl rfl hl.1 rfl (lv_room (Nat.le_of_ble_eq_true rfl)) dL_law_3225 ⟨(Nat.le_of_ble_eq_true rfl), (Nat.le_of_ble_eq_true rfl)⟩) hS (fun q _ h => hFc q h) hFc (fun r u t H1 locs ht hvm hw hB hz1 hk1 hS => ?_)
  subst hw
  obtain ⟨hP1, -, hD1⟩ := hB
  rw [ht] at hP1
  obtain ⟨hP, hD⟩ := va_join (wr := [(m0, .inr (13, mg)), (mcA, .inl (mcC, (4, .inl (fun _ => 0))))]) (w1 := [(oA, .inl (oC, (1, .inr (.inl oF))))]) hP hD [0, 1, 2, 3, 4, 5, 8] [6, 7] rfl rfl (by decide) (by decide) hk1 hFc hP1 hD1
  have hP := hP.sub (ws' := [(m0, .inr (13, mg)), (mcA, .inl (mcC, (4, .inl (fun _ => 0))))]) [0, 1] rfl
  have hD := hD.sub (ws' := [(m0, .inr (13, mg)), (mcA, .inl (mcC, (4, .inl (fun _ => 0))))]) [0, 1] (by decide) rfl
  have hK := hK.sub (tys' := [(mcC, .boolean)]) [1] rfl
  generalize H1 = H at hP hS ⊢
  refine W.widen (k := 452) (n := 2709148) (Nat.le_of_ble_eq_true rfl) (Nat.le_of_ble_eq_true rfl) ?_
  refine lv_istore (lv' := [(5, .int 1), (0, .ref b), (1, .ref x), (2, .ref m0), (3, .ref oA), (4, .int 0)]) hx hb dL_law_3228 hl (by decide) rfl (fun ls hl => ?_)
  refine lv_aload_n hx hb dL_law_3230 rfl (lv_at hl 3 rfl) ?_
  refine lv_aload_n hx hb dL_law_3231 rfl (lv_at hl 1 rfl) ?_
  refine lv_iload hx hb dL_law_3232 (lv_at hl 5 rfl) ?_
  refine lv_iconst (v := 1) hx hb dL_law_3234 (by decide +kernel) ?_
  refine lv_iadd hx hb dL_law_3235 ?_
  refine va_sld hx hb hX hbl hbA hS vi_1 dL_law_3236 ?_
  refine lv_aload_n hx hb dL_law_3237 rfl (lv_at hl 1 rfl) ?_
  refine lv_iload hx hb dL_law_3238 (lv_at hl 5 rfl) ?_
  refine lv_iconst (v := 2) hx hb dL_law_3240 (by decide +kernel) ?_
  refine lv_iadd hx hb dL_law_3241 ?_
  refine va_sld hx hb hX hbl hbA hS vi_2 dL_law_3242 ?_
  refine lv_aload_n hx hb dL_law_3243 rfl (lv_at hl 1 rfl) ?_
  refine lv_iload hx hb dL_law_3244 (lv_at hl 5 rfl) ?_
  refine lv_iconst (v := 3) hx hb dL_law_3246 (by decide +kernel) ?_
  refine lv_iadd hx hb dL_law_3247 ?_
  refine va_sld hx hb hX hbl hbA hS vi_3 dL_law_3248 ?_
  have hFc := va_free (wc := [(m0, .inr (13, mg)), (mcA, .inl (mcC, (4, .inl (fun _ => 0))))]) hD hS hA [0, 1] rfl
  refine va_calli (va_runV (As := [.int (xs ((0 : Int32) + 1).toNatClampNeg), .int (xs ((0 : Int32) + 2).toNatClampNeg), .int (xs ((0 : Int32) + 3).toNatClampNeg)]) (rest := []) ⟨hx, hb, hml, hown, hts⟩ (ct_X13_falsify l dC dI _ (xs ((0 : Int32) + 1).toNatClampNeg) (xs ((0 : Int32) + 2).toNatClampNeg) (xs ((0 : Int32) + 3).toNatClampNeg) m0 mg mcA mcC hmg) (cwV 3 hts (gi_V wd_4585 wd_4586 wd_4587 wd_340 wd_4588) rfl rfl rfl (by decide +kernel) ⟨(Nat.le_of_ble_eq_true rfl), (Nat.le_of_ble_eq_true rfl)⟩) ⟨fun a U g mk q => by obtain ⟨q0, q1, qP, qK, qD⟩ := q; exact ⟨q0, q1, qP, va_K.moved (u := U) (U := U.calling g mk a) (Vm.Alike.refl U.vm) qK, qD⟩, va_recv hK hP (ci := 13) (q0 := 0) rfl rfl, fun U hU hW => ⟨rfl, by rw [hU], by rw [hU]; exact hP, va_K.moved hW.alike hK, hD.weaken (fun _ _ _ _ => trivial)⟩⟩ rfl rfl hl.1 rfl (lv_room (Nat.le_of_ble_eq_true rfl)) dL_law_3249 ⟨(Nat.le_of_ble_eq_true rfl), (Nat.le_of_ble_eq_true rfl)⟩) hS (fun q _ h => hFc q h) hFc (fun r u t H1 locs ht hvm hw hB hz1 hk1 hS => ?_)
  subst hw
  obtain ⟨mg1, hmg1, hP1, hK1, hD1⟩ := hB
  rw [ht] at hP1
  have hK1 := va_K.moved hvm.symm hK1
  have hD1 := hD1.weaken (fun k q _ h => hFc q.1 h)
  generalize H1 = H at hP1 hS ⊢
  refine lv_istore (lv' := [(6, .int 0), (5, .int 1), (0, .ref b), (1, .ref x), (2, .ref m0), (3, .ref oA), (4, .int 0)]) hx hb dL_law_3252 hl (by decide) rfl (fun ls hl => ?_)
  refine lv_aload_n hx hb dL_law_3254 rfl (lv_at hl 4 rfl) ?_
  have hFc := va_free (wc := [(m0, .inr (13, mg1))]) hD1 hS hA [0] rfl
  refine va_calli (va_runV (As := []) (rest := []) ⟨hx, hb, hml, hown, hts⟩ (ct_X13_thrown l dC dI _ 1 m0 mg1 hmg1) (cwV 0 hts (gi_V wd_3015 wd_3016 wd_3017 wd_340 wd_3018) rfl rfl rfl (by decide +kernel) ⟨(Nat.le_of_ble_eq_true rfl), (Nat.le_of_ble_eq_true rfl)⟩) ⟨fun a U g mk q => by obtain ⟨q0, q1, qP, qK, qD⟩ := q; exact ⟨q0, q1, qP, va_K.moved (u := U) (U := U.calling g mk a) (Vm.Alike.refl U.vm) qK, qD⟩, va_recv hK1 hP1 (ci := 13) (q0 := 0) rfl rfl, fun U hU hW => ⟨rfl, by rw [hU], by rw [hU]; exact hP1, va_K.moved hW.alike hK1, hD1.weaken (fun _ _ _ _ => trivial)⟩⟩ rfl rfl hl.1 rfl (lv_room (Nat.le_of_ble_eq_true rfl)) dL_law_3255 ⟨(Nat.le_of_ble_eq_true rfl), (Nat.le_of_ble_eq_true rfl)⟩) hS (fun q _ h => hFc q h) hFc (fun r u t H1 locs ht hvm hw hB hz1 hk1 hS => ?_)
  subst hw
  refine lv_iload hx hb dL_law_3258 (lv_at hl 1 rfl) ?_
  refine lv_icmp_eq (tgt := 3265) hx hb dL_law_3260 (by decide) (fun c9 => ?_) (fun c9 => ?_)
  rotate_left
  · first | exact absurd c9 (by decide +kernel) | exact absurd (by decide +kernel) c9
  refine lv_iload hx hb dL_law_3265 (lv_at hl 1 rfl) ?_
  refine lv_if_ne (tgt := 3289) hx hb dL_law_3267 (by decide) (fun c9 => ?_) (fun c9 => ?_)
  rotate_left
  · first | exact absurd c9 (by decide +kernel) | exact absurd (by decide +kernel) c9
  refine lv_goto (tgt := 4099) hx hb dL_law_3289 (by decide) ?_
  refine W.widen (k := 470) (n := 2709300) (Nat.le_of_ble_eq_true rfl) (Nat.le_of_ble_eq_true rfl) ?_
  exact law_tail (v5 := 0) (v6 := 0) (lv := []) C0 hS (lv_sub hl [2, 6] rfl)
set_option maxHeartbeats 4000000 in
set_option maxRecDepth 100000 in
theorem law_path {p : Program} {l : Launch} {e : Env} {s : State} {m : MethodId} {below : List Frame} {meth : Method} {c : Code} {b : Nat} {xs : Nat → Int32} (C0 : lw_At p s m meth c b 7 xs) {dC : Nat → ClassId} {dI : Nat → Nat → Nat} (hlt : l.stackTraces = false) (hth : th (fun q : Nat => s.heap.size ≤ q) s s.heap) (x : Nat) (xg : List Value) (chA : Nat) (chC : ClassId) (chF : Nat → Option Nat) (ch0 ch1 ch2 ch3 : Nat) (chg0 chg1 chg2 chg3 : List Value) (hchg0 : fx chg0 20 [(0, .int 0)]) (hchF0 : chF 0 = some ch0) (hchg1 : fx chg1 20 [(0, .int 0)]) (hchF1 : chF 1 = some ch1) (hchg2 : fx chg2 20 [(0, .int 0)]) (hchF2 : chF 2 = some ch2) (hchg3 : fx chg3 20 [(0, .int 0)]) (hchF3 : chF 3 = some ch3) (m0 : Nat) (mg : List Value) (mcA : Nat) (mcC : ClassId) (oA : Nat) (oC : ClassId) (oF : Nat → Int64) (hxg : fx xg 17 [(9, .ref chA)]) (hmg : fx mg 225 [(138, .ref mcA)]) (H : Heap) (locs : List Loc) (hK : va_K (dC, dI) CL [(chC, .object "ChipFlow$Chip"), (mcC, .boolean), (oC, .long)] s) (hP : va_P (dC, dI) CL [(x, .inr (12, xg)), (chA, .inl (chC, (4, .inr (.inr (.inr (.inr chF)))))), (ch0, .inr (2, chg0)), (ch1, .inr (2, chg1)), (ch2, .inr (2, chg2)), (ch3, .inr (2, chg3)), (m0, .inr (13, mg)), (mcA, .inl (mcC, (4, .inl (fun _ => 0)))), (oA, .inl (oC, (1, .inr (.inl oF))))] H) (hD : va_D (fun q : Nat => s.heap.size ≤ q) [(x, .inr (12, xg)), (chA, .inl (chC, (4, .inr (.inr (.inr (.inr chF)))))), (ch0, .inr (2, chg0)), (ch1, .inr (2, chg1)), (ch2, .inr (2, chg2)), (ch3, .inr (2, chg3)), (m0, .inr (13, mg)), (mcA, .inl (mcC, (4, .inl (fun _ => 0)))), (oA, .inl (oC, (1, .inr (.inl oF))))]) (hS : va_S (fun q : Nat => s.heap.size ≤ q) s.heap H locs) (ls : Array Slot) (hl : lv_has ls 7 [(0, .ref b), (1, .ref x), (2, .ref m0), (3, .ref oA), (4, .int 0)]) : W p l e room_1 s m #[Value.ref b] below meth c H locs 451 2709142 (lw_Z below #[Value.ref b] s) (F0 m 3292 ls []) := by
  obtain ⟨hx, hb, hr, hml, hown, hts0, hX, hbl, hlocks, hgv⟩ := id C0
  have hts : ∀ w ∈ BG, w.before _ s = true := fun w h => hts0 w (List.mem_filter.mp h).1
  have hown : s.vm.findClass RL = some m.cls := hown
  have hA : ∀ q : Nat, s.heap.size ≤ q → (fun q : Nat => s.heap.size ≤ q) q := fun _ h => h
  have hbA : ¬ (fun q : Nat => s.heap.size ≤ q) b := Nat.not_le.mpr hbl
  refine lv_aload_n hx hb dL_law_3292 rfl (lv_at hl 1 rfl) ?_
  refine lv_aload_n hx hb dL_law_3293 rfl (lv_at hl 0 rfl) ?_
  refine lv_iload hx hb dL_law_3294 (lv_at hl 4 rfl) ?_
  refine lv_iconst (v := 1) hx hb dL_law_3296 (by decide +kernel) ?_
  refine lv_iadd hx hb dL_law_3297 ?_
  refine va_sld hx hb hX hbl hbA hS vi_1 dL_law_3298 ?_
  refine lv_aload_n hx hb dL_law_3299 rfl (lv_at hl 0 rfl) ?_
  refine lv_iload hx hb dL_law_3300 (lv_at hl 4 rfl) ?_
  refine lv_iconst (v := 2) hx hb dL_law_3302 (by decide +kernel) ?_
  refine lv_iadd hx hb dL_law_3303 ?_
  refine va_sld hx hb hX hbl hbA hS vi_2 dL_law_3304 ?_
  refine lv_aload_n hx hb dL_law_3305 rfl (lv_at hl 0 rfl) ?_
  refine lv_iload hx hb dL_law_3306 (lv_at hl 4 rfl) ?_
  refine lv_iconst (v := 3) hx hb dL_law_3308 (by decide +kernel) ?_
  refine lv_iadd hx hb dL_law_3309 ?_
  refine va_sld hx hb hX hbl hbA hS vi_3 dL_law_3310 ?_
  refine lv_aload_n hx hb dL_law_3311 rfl (lv_at hl 3 rfl) ?_
  have hPc := hP.sub (ws' := [(x, .inr (12, xg)), (chA, .inl (chC, (4, .inr (.inr (.inr (.inr chF)))))), (ch0, .inr (2, chg0)), (ch1, .inr (2, chg1)), (ch2, .inr (2, chg2)), (ch3, .inr (2, chg3)), (oA, .inl (oC, (1, .inr (.inl oF))))]) [0, 1, 2, 3, 4, 5, 8] rfl
  have hDc := hD.sub (ws' := [(x, .inr (12, xg)), (chA, .inl (chC, (4, .inr (.inr (.inr (.inr chF)))))), (ch0, .inr (2, chg0)), (ch1, .inr (2, chg1)), (ch2, .inr (2, chg2)), (ch3, .inr (2, chg3)), (oA, .inl (oC, (1, .inr (.inl oF))))]) [0, 1, 2, 3, 4, 5, 8] (by decide) rfl
  have hKc := hK.sub (tys' := [(chC, .object "ChipFlow$Chip"), (oC, .long)]) [0, 2] rfl
  have hFc := va_free (wc := [(x, .inr (12, xg)), (chA, .inl (chC, (4, .inr (.inr (.inr (.inr chF)))))), (ch0, .inr (2, chg0)), (ch1, .inr (2, chg1)), (ch2, .inr (2, chg2)), (ch3, .inr (2, chg3)), (oA, .inl (oC, (1, .inr (.inl oF))))]) hD hS hA [0, 1, 2, 3, 4, 5, 8] rfl
  refine va_calli (vx_runSW (As := [.ref x, .int (xs ((0 : Int32) + 1).toNatClampNeg), .int (xs ((0 : Int32) + 2).toNatClampNeg), .int (xs ((0 : Int32) + 3).toNatClampNeg), .ref oA]) (rest := []) ⟨hx, hb, hml, hown, hts⟩ (ct_L_path l hlt dC dI H.size (xs ((0 : Int32) + 1).toNatClampNeg) (xs ((0 : Int32) + 2).toNatClampNeg) (xs ((0 : Int32) + 3).toNatClampNeg) x xg chA chC chF ch0 ch1 ch2 ch3 chg0 chg1 chg2 chg3 hchg0 hchF0 hchg1 hchF1 hchg2 hchF2 hchg3 hchF3 oA oC oF hxg) (vx_cwSW 5 hts (gi_W wd_2812 wd_2813 wd_326 wd_2814) rfl rfl rfl (by decide +kernel) ⟨(Nat.le_of_ble_eq_true rfl), (Nat.le_of_ble_eq_true rfl)⟩) ⟨fun a U g mk q => by obtain ⟨q0, q1, qP, qK, qD, qT⟩ := q; exact ⟨q0, q1, qP, va_K.moved (u := U) (U := U.calling g mk a) (Vm.Alike.refl U.vm) qK, qD, th.moved (u := U) (U := U.calling g mk a) (Vm.Alike.refl U.vm) qT⟩, fun U hU hW => ⟨rfl, by rw [hU], by rw [hU]; exact hPc, va_K.moved hW.alike hKc, hDc.weaken (fun _ _ _ _ => trivial), by rw [hU]; exact ((hth.kept hS.2.1).narrow hFc).moved hW.alike⟩⟩ rfl rfl hl.1 rfl (lv_room (Nat.le_of_ble_eq_true rfl)) dL_law_3312 ⟨(Nat.le_of_ble_eq_true rfl), (Nat.le_of_ble_eq_true rfl)⟩) hS (fun q _ h => hFc q h) hFc (fun r u t H1 locs ht hvm hw hB hz1 hk1 hS => ?_)
  subst hw
  obtain ⟨hP1, -, hD1⟩ := hB
  rw [ht] at hP1
  obtain ⟨hP, hD⟩ := va_join (wr := [(m0, .inr (13, mg)), (mcA, .inl (mcC, (4, .inl (fun _ => 0))))]) (w1 := [(oA, .inl (oC, (1, .inr (.inl oF))))]) hP hD [0, 1, 2, 3, 4, 5, 8] [6, 7] rfl rfl (by decide) (by decide) hk1 hFc hP1 hD1
  have hP := hP.sub (ws' := [(m0, .inr (13, mg)), (mcA, .inl (mcC, (4, .inl (fun _ => 0))))]) [0, 1] rfl
  have hD := hD.sub (ws' := [(m0, .inr (13, mg)), (mcA, .inl (mcC, (4, .inl (fun _ => 0))))]) [0, 1] (by decide) rfl
  have hK := hK.sub (tys' := [(mcC, .boolean)]) [1] rfl
  generalize H1 = H at hP hS ⊢
  refine W.widen (k := 452) (n := 2709148) (Nat.le_of_ble_eq_true rfl) (Nat.le_of_ble_eq_true rfl) ?_
  refine lv_istore (lv' := [(5, .int 1), (0, .ref b), (1, .ref x), (2, .ref m0), (3, .ref oA), (4, .int 0)]) hx hb dL_law_3315 hl (by decide) rfl (fun ls hl => ?_)
  refine lv_aload_n hx hb dL_law_3317 rfl (lv_at hl 3 rfl) ?_
  refine lv_aload_n hx hb dL_law_3318 rfl (lv_at hl 1 rfl) ?_
  refine lv_iload hx hb dL_law_3319 (lv_at hl 5 rfl) ?_
  refine lv_iconst (v := 1) hx hb dL_law_3321 (by decide +kernel) ?_
  refine lv_iadd hx hb dL_law_3322 ?_
  refine va_sld hx hb hX hbl hbA hS vi_1 dL_law_3323 ?_
  refine lv_aload_n hx hb dL_law_3324 rfl (lv_at hl 1 rfl) ?_
  refine lv_iload hx hb dL_law_3325 (lv_at hl 5 rfl) ?_
  refine lv_iconst (v := 2) hx hb dL_law_3327 (by decide +kernel) ?_
  refine lv_iadd hx hb dL_law_3328 ?_
  refine va_sld hx hb hX hbl hbA hS vi_2 dL_law_3329 ?_
  refine lv_aload_n hx hb dL_law_3330 rfl (lv_at hl 1 rfl) ?_
  refine lv_iload hx hb dL_law_3331 (lv_at hl 5 rfl) ?_
  refine lv_iconst (v := 3) hx hb dL_law_3333 (by decide +kernel) ?_
  refine lv_iadd hx hb dL_law_3334 ?_
  refine va_sld hx hb hX hbl hbA hS vi_3 dL_law_3335 ?_
  have hFc := va_free (wc := [(m0, .inr (13, mg)), (mcA, .inl (mcC, (4, .inl (fun _ => 0))))]) hD hS hA [0, 1] rfl
  refine va_calli (va_runV (As := [.int (xs ((0 : Int32) + 1).toNatClampNeg), .int (xs ((0 : Int32) + 2).toNatClampNeg), .int (xs ((0 : Int32) + 3).toNatClampNeg)]) (rest := []) ⟨hx, hb, hml, hown, hts⟩ (ct_X13_path l dC dI _ (xs ((0 : Int32) + 1).toNatClampNeg) (xs ((0 : Int32) + 2).toNatClampNeg) (xs ((0 : Int32) + 3).toNatClampNeg) m0 mg mcA mcC hmg) (cwV 3 hts (gi_V wd_4597 wd_4598 wd_4599 wd_340 wd_4600) rfl rfl rfl (by decide +kernel) ⟨(Nat.le_of_ble_eq_true rfl), (Nat.le_of_ble_eq_true rfl)⟩) ⟨fun a U g mk q => by obtain ⟨q0, q1, qP, qK, qD⟩ := q; exact ⟨q0, q1, qP, va_K.moved (u := U) (U := U.calling g mk a) (Vm.Alike.refl U.vm) qK, qD⟩, va_recv hK hP (ci := 13) (q0 := 0) rfl rfl, fun U hU hW => ⟨rfl, by rw [hU], by rw [hU]; exact hP, va_K.moved hW.alike hK, hD.weaken (fun _ _ _ _ => trivial)⟩⟩ rfl rfl hl.1 rfl (lv_room (Nat.le_of_ble_eq_true rfl)) dL_law_3336 ⟨(Nat.le_of_ble_eq_true rfl), (Nat.le_of_ble_eq_true rfl)⟩) hS (fun q _ h => hFc q h) hFc (fun r u t H1 locs ht hvm hw hB hz1 hk1 hS => ?_)
  subst hw
  obtain ⟨mg1, hmg1, hP1, hK1, hD1⟩ := hB
  rw [ht] at hP1
  have hK1 := va_K.moved hvm.symm hK1
  have hD1 := hD1.weaken (fun k q _ h => hFc q.1 h)
  generalize H1 = H at hP1 hS ⊢
  refine lv_istore (lv' := [(6, .int 0), (5, .int 1), (0, .ref b), (1, .ref x), (2, .ref m0), (3, .ref oA), (4, .int 0)]) hx hb dL_law_3339 hl (by decide) rfl (fun ls hl => ?_)
  refine lv_aload_n hx hb dL_law_3341 rfl (lv_at hl 4 rfl) ?_
  have hFc := va_free (wc := [(m0, .inr (13, mg1))]) hD1 hS hA [0] rfl
  refine va_calli (va_runV (As := []) (rest := []) ⟨hx, hb, hml, hown, hts⟩ (ct_X13_thrown l dC dI _ 1 m0 mg1 hmg1) (cwV 0 hts (gi_V wd_3015 wd_3016 wd_3017 wd_340 wd_3018) rfl rfl rfl (by decide +kernel) ⟨(Nat.le_of_ble_eq_true rfl), (Nat.le_of_ble_eq_true rfl)⟩) ⟨fun a U g mk q => by obtain ⟨q0, q1, qP, qK, qD⟩ := q; exact ⟨q0, q1, qP, va_K.moved (u := U) (U := U.calling g mk a) (Vm.Alike.refl U.vm) qK, qD⟩, va_recv hK1 hP1 (ci := 13) (q0 := 0) rfl rfl, fun U hU hW => ⟨rfl, by rw [hU], by rw [hU]; exact hP1, va_K.moved hW.alike hK1, hD1.weaken (fun _ _ _ _ => trivial)⟩⟩ rfl rfl hl.1 rfl (lv_room (Nat.le_of_ble_eq_true rfl)) dL_law_3342 ⟨(Nat.le_of_ble_eq_true rfl), (Nat.le_of_ble_eq_true rfl)⟩) hS (fun q _ h => hFc q h) hFc (fun r u t H1 locs ht hvm hw hB hz1 hk1 hS => ?_)
  subst hw
  refine lv_iload hx hb dL_law_3345 (lv_at hl 1 rfl) ?_
  refine lv_icmp_eq (tgt := 3352) hx hb dL_law_3347 (by decide) (fun c9 => ?_) (fun c9 => ?_)
  rotate_left
  · first | exact absurd c9 (by decide +kernel) | exact absurd (by decide +kernel) c9
  refine lv_iload hx hb dL_law_3352 (lv_at hl 1 rfl) ?_
  refine lv_if_ne (tgt := 3369) hx hb dL_law_3354 (by decide) (fun c9 => ?_) (fun c9 => ?_)
  rotate_left
  · first | exact absurd c9 (by decide +kernel) | exact absurd (by decide +kernel) c9
  refine lv_goto (tgt := 4099) hx hb dL_law_3369 (by decide) ?_
  refine W.widen (k := 470) (n := 2709300) (Nat.le_of_ble_eq_true rfl) (Nat.le_of_ble_eq_true rfl) ?_
  exact law_tail (v5 := 0) (v6 := 0) (lv := []) C0 hS (lv_sub hl [2, 6] rfl)
set_option maxHeartbeats 4000000 in
set_option maxRecDepth 100000 in
theorem law_wave {p : Program} {l : Launch} {e : Env} {s : State} {m : MethodId} {below : List Frame} {meth : Method} {c : Code} {b : Nat} {xs : Nat → Int32} (C0 : lw_At p s m meth c b 7 xs) {dC : Nat → ClassId} {dI : Nat → Nat → Nat} (hlt : l.stackTraces = false) (hth : th (fun q : Nat => s.heap.size ≤ q) s s.heap) (x : Nat) (xg : List Value) (chA : Nat) (chC : ClassId) (chF : Nat → Option Nat) (ch0 ch1 ch2 ch3 : Nat) (chg0 chg1 chg2 chg3 : List Value) (hchg0 : fx chg0 20 [(0, .int 0)]) (hchF0 : chF 0 = some ch0) (hchg1 : fx chg1 20 [(0, .int 0)]) (hchF1 : chF 1 = some ch1) (hchg2 : fx chg2 20 [(0, .int 0)]) (hchF2 : chF 2 = some ch2) (hchg3 : fx chg3 20 [(0, .int 0)]) (hchF3 : chF 3 = some ch3) (m0 : Nat) (mg : List Value) (mcA : Nat) (mcC : ClassId) (oA : Nat) (oC : ClassId) (oF : Nat → Int64) (hxg : fx xg 17 [(9, .ref chA)]) (hmg : fx mg 225 [(138, .ref mcA)]) (H : Heap) (locs : List Loc) (hK : va_K (dC, dI) CL [(chC, .object "ChipFlow$Chip"), (mcC, .boolean), (oC, .long)] s) (hP : va_P (dC, dI) CL [(x, .inr (12, xg)), (chA, .inl (chC, (4, .inr (.inr (.inr (.inr chF)))))), (ch0, .inr (2, chg0)), (ch1, .inr (2, chg1)), (ch2, .inr (2, chg2)), (ch3, .inr (2, chg3)), (m0, .inr (13, mg)), (mcA, .inl (mcC, (4, .inl (fun _ => 0)))), (oA, .inl (oC, (1, .inr (.inl oF))))] H) (hD : va_D (fun q : Nat => s.heap.size ≤ q) [(x, .inr (12, xg)), (chA, .inl (chC, (4, .inr (.inr (.inr (.inr chF)))))), (ch0, .inr (2, chg0)), (ch1, .inr (2, chg1)), (ch2, .inr (2, chg2)), (ch3, .inr (2, chg3)), (m0, .inr (13, mg)), (mcA, .inl (mcC, (4, .inl (fun _ => 0)))), (oA, .inl (oC, (1, .inr (.inl oF))))]) (hS : va_S (fun q : Nat => s.heap.size ≤ q) s.heap H locs) (ls : Array Slot) (hl : lv_has ls 7 [(0, .ref b), (1, .ref x), (2, .ref m0), (3, .ref oA), (4, .int 0)]) : W p l e room_1 s m #[Value.ref b] below meth c H locs 451 2709142 (lw_Z below #[Value.ref b] s) (F0 m 3372 ls []) := by
  obtain ⟨hx, hb, hr, hml, hown, hts0, hX, hbl, hlocks, hgv⟩ := id C0
  have hts : ∀ w ∈ BG, w.before _ s = true := fun w h => hts0 w (List.mem_filter.mp h).1
  have hown : s.vm.findClass RL = some m.cls := hown
  have hA : ∀ q : Nat, s.heap.size ≤ q → (fun q : Nat => s.heap.size ≤ q) q := fun _ h => h
  have hbA : ¬ (fun q : Nat => s.heap.size ≤ q) b := Nat.not_le.mpr hbl
  refine lv_aload_n hx hb dL_law_3372 rfl (lv_at hl 1 rfl) ?_
  refine lv_aload_n hx hb dL_law_3373 rfl (lv_at hl 0 rfl) ?_
  refine lv_iload hx hb dL_law_3374 (lv_at hl 4 rfl) ?_
  refine lv_iconst (v := 1) hx hb dL_law_3376 (by decide +kernel) ?_
  refine lv_iadd hx hb dL_law_3377 ?_
  refine va_sld hx hb hX hbl hbA hS vi_1 dL_law_3378 ?_
  refine lv_aload_n hx hb dL_law_3379 rfl (lv_at hl 0 rfl) ?_
  refine lv_iload hx hb dL_law_3380 (lv_at hl 4 rfl) ?_
  refine lv_iconst (v := 2) hx hb dL_law_3382 (by decide +kernel) ?_
  refine lv_iadd hx hb dL_law_3383 ?_
  refine va_sld hx hb hX hbl hbA hS vi_2 dL_law_3384 ?_
  refine lv_aload_n hx hb dL_law_3385 rfl (lv_at hl 0 rfl) ?_
  refine lv_iload hx hb dL_law_3386 (lv_at hl 4 rfl) ?_
  refine lv_iconst (v := 3) hx hb dL_law_3388 (by decide +kernel) ?_
  refine lv_iadd hx hb dL_law_3389 ?_
  refine va_sld hx hb hX hbl hbA hS vi_3 dL_law_3390 ?_
  refine lv_aload_n hx hb dL_law_3391 rfl (lv_at hl 0 rfl) ?_
  refine lv_iload hx hb dL_law_3392 (lv_at hl 4 rfl) ?_
  refine lv_iconst (v := 4) hx hb dL_law_3394 (by decide +kernel) ?_
  refine lv_iadd hx hb dL_law_3395 ?_
  refine va_sld hx hb hX hbl hbA hS vi_4 dL_law_3396 ?_
  refine lv_aload_n hx hb dL_law_3397 rfl (lv_at hl 0 rfl) ?_
  refine lv_iload hx hb dL_law_3398 (lv_at hl 4 rfl) ?_
  refine lv_iconst (v := 5) hx hb dL_law_3400 (by decide +kernel) ?_
  refine lv_iadd hx hb dL_law_3401 ?_
  refine va_sld hx hb hX hbl hbA hS vi_5 dL_law_3402 ?_
  refine lv_aload_n hx hb dL_law_3403 rfl (lv_at hl 3 rfl) ?_
  have hPc := hP.sub (ws' := [(x, .inr (12, xg)), (chA, .inl (chC, (4, .inr (.inr (.inr (.inr chF)))))), (ch0, .inr (2, chg0)), (ch1, .inr (2, chg1)), (ch2, .inr (2, chg2)), (ch3, .inr (2, chg3)), (oA, .inl (oC, (1, .inr (.inl oF))))]) [0, 1, 2, 3, 4, 5, 8] rfl
  have hDc := hD.sub (ws' := [(x, .inr (12, xg)), (chA, .inl (chC, (4, .inr (.inr (.inr (.inr chF)))))), (ch0, .inr (2, chg0)), (ch1, .inr (2, chg1)), (ch2, .inr (2, chg2)), (ch3, .inr (2, chg3)), (oA, .inl (oC, (1, .inr (.inl oF))))]) [0, 1, 2, 3, 4, 5, 8] (by decide) rfl
  have hKc := hK.sub (tys' := [(chC, .object "ChipFlow$Chip"), (oC, .long)]) [0, 2] rfl
  have hFc := va_free (wc := [(x, .inr (12, xg)), (chA, .inl (chC, (4, .inr (.inr (.inr (.inr chF)))))), (ch0, .inr (2, chg0)), (ch1, .inr (2, chg1)), (ch2, .inr (2, chg2)), (ch3, .inr (2, chg3)), (oA, .inl (oC, (1, .inr (.inl oF))))]) hD hS hA [0, 1, 2, 3, 4, 5, 8] rfl
  refine va_calli (vx_runSW (As := [.ref x, .int (xs ((0 : Int32) + 1).toNatClampNeg), .int (xs ((0 : Int32) + 2).toNatClampNeg), .int (xs ((0 : Int32) + 3).toNatClampNeg), .int (xs ((0 : Int32) + 4).toNatClampNeg), .int (xs ((0 : Int32) + 5).toNatClampNeg), .ref oA]) (rest := []) ⟨hx, hb, hml, hown, hts⟩ (ct_L_wave l hlt dC dI H.size (xs ((0 : Int32) + 1).toNatClampNeg) (xs ((0 : Int32) + 2).toNatClampNeg) (xs ((0 : Int32) + 3).toNatClampNeg) (xs ((0 : Int32) + 4).toNatClampNeg) (xs ((0 : Int32) + 5).toNatClampNeg) x xg chA chC chF ch0 ch1 ch2 ch3 chg0 chg1 chg2 chg3 hchg0 hchF0 hchg1 hchF1 hchg2 hchF2 hchg3 hchF3 oA oC oF hxg) (vx_cwSW 7 hts (gi_W wd_2852 wd_2853 wd_326 wd_2854) rfl rfl rfl (by decide +kernel) ⟨(Nat.le_of_ble_eq_true rfl), (Nat.le_of_ble_eq_true rfl)⟩) ⟨fun a U g mk q => by obtain ⟨q0, q1, qP, qK, qD, qT⟩ := q; exact ⟨q0, q1, qP, va_K.moved (u := U) (U := U.calling g mk a) (Vm.Alike.refl U.vm) qK, qD, th.moved (u := U) (U := U.calling g mk a) (Vm.Alike.refl U.vm) qT⟩, fun U hU hW => ⟨rfl, by rw [hU], by rw [hU]; exact hPc, va_K.moved hW.alike hKc, hDc.weaken (fun _ _ _ _ => trivial), by rw [hU]; exact ((hth.kept hS.2.1).narrow hFc).moved hW.alike⟩⟩ rfl rfl hl.1 rfl (lv_room (Nat.le_of_ble_eq_true rfl)) dL_law_3404 ⟨(Nat.le_of_ble_eq_true rfl), (Nat.le_of_ble_eq_true rfl)⟩) hS (fun q _ h => hFc q h) hFc (fun r u t H1 locs ht hvm hw hB hz1 hk1 hS => ?_)
  subst hw
  obtain ⟨hP1, -, hD1⟩ := hB
  rw [ht] at hP1
  obtain ⟨hP, hD⟩ := va_join (wr := [(m0, .inr (13, mg)), (mcA, .inl (mcC, (4, .inl (fun _ => 0))))]) (w1 := [(oA, .inl (oC, (1, .inr (.inl oF))))]) hP hD [0, 1, 2, 3, 4, 5, 8] [6, 7] rfl rfl (by decide) (by decide) hk1 hFc hP1 hD1
  have hP := hP.sub (ws' := [(m0, .inr (13, mg)), (mcA, .inl (mcC, (4, .inl (fun _ => 0))))]) [0, 1] rfl
  have hD := hD.sub (ws' := [(m0, .inr (13, mg)), (mcA, .inl (mcC, (4, .inl (fun _ => 0))))]) [0, 1] (by decide) rfl
  have hK := hK.sub (tys' := [(mcC, .boolean)]) [1] rfl
  generalize H1 = H at hP hS ⊢
  refine W.widen (k := 452) (n := 2709148) (Nat.le_of_ble_eq_true rfl) (Nat.le_of_ble_eq_true rfl) ?_
  refine lv_istore (lv' := [(5, .int 1), (0, .ref b), (1, .ref x), (2, .ref m0), (3, .ref oA), (4, .int 0)]) hx hb dL_law_3407 hl (by decide) rfl (fun ls hl => ?_)
  refine lv_aload_n hx hb dL_law_3409 rfl (lv_at hl 3 rfl) ?_
  refine lv_aload_n hx hb dL_law_3410 rfl (lv_at hl 1 rfl) ?_
  refine lv_iload hx hb dL_law_3411 (lv_at hl 5 rfl) ?_
  refine lv_iconst (v := 1) hx hb dL_law_3413 (by decide +kernel) ?_
  refine lv_iadd hx hb dL_law_3414 ?_
  refine va_sld hx hb hX hbl hbA hS vi_1 dL_law_3415 ?_
  refine lv_aload_n hx hb dL_law_3416 rfl (lv_at hl 1 rfl) ?_
  refine lv_iload hx hb dL_law_3417 (lv_at hl 5 rfl) ?_
  refine lv_iconst (v := 2) hx hb dL_law_3419 (by decide +kernel) ?_
  refine lv_iadd hx hb dL_law_3420 ?_
  refine va_sld hx hb hX hbl hbA hS vi_2 dL_law_3421 ?_
  refine lv_aload_n hx hb dL_law_3422 rfl (lv_at hl 1 rfl) ?_
  refine lv_iload hx hb dL_law_3423 (lv_at hl 5 rfl) ?_
  refine lv_iconst (v := 3) hx hb dL_law_3425 (by decide +kernel) ?_
  refine lv_iadd hx hb dL_law_3426 ?_
  refine va_sld hx hb hX hbl hbA hS vi_3 dL_law_3427 ?_
  refine lv_aload_n hx hb dL_law_3428 rfl (lv_at hl 1 rfl) ?_
  refine lv_iload hx hb dL_law_3429 (lv_at hl 5 rfl) ?_
  refine lv_iconst (v := 4) hx hb dL_law_3431 (by decide +kernel) ?_
  refine lv_iadd hx hb dL_law_3432 ?_
  refine va_sld hx hb hX hbl hbA hS vi_4 dL_law_3433 ?_
  refine lv_aload_n hx hb dL_law_3434 rfl (lv_at hl 1 rfl) ?_
  refine lv_iload hx hb dL_law_3435 (lv_at hl 5 rfl) ?_
  refine lv_iconst (v := 5) hx hb dL_law_3437 (by decide +kernel) ?_
  refine lv_iadd hx hb dL_law_3438 ?_
  refine va_sld hx hb hX hbl hbA hS vi_5 dL_law_3439 ?_
  have hFc := va_free (wc := [(m0, .inr (13, mg)), (mcA, .inl (mcC, (4, .inl (fun _ => 0))))]) hD hS hA [0, 1] rfl
  refine va_calli (va_runV (As := [.int (xs ((0 : Int32) + 1).toNatClampNeg), .int (xs ((0 : Int32) + 2).toNatClampNeg), .int (xs ((0 : Int32) + 3).toNatClampNeg), .int (xs ((0 : Int32) + 4).toNatClampNeg), .int (xs ((0 : Int32) + 5).toNatClampNeg)]) (rest := []) ⟨hx, hb, hml, hown, hts⟩ (ct_X13_wave l dC dI _ (xs ((0 : Int32) + 1).toNatClampNeg) (xs ((0 : Int32) + 2).toNatClampNeg) (xs ((0 : Int32) + 3).toNatClampNeg) (xs ((0 : Int32) + 4).toNatClampNeg) (xs ((0 : Int32) + 5).toNatClampNeg) m0 mg mcA mcC hmg) (cwV 5 hts (gi_V wd_4621 wd_4622 wd_4623 wd_340 wd_4624) rfl rfl rfl (by decide +kernel) ⟨(Nat.le_of_ble_eq_true rfl), (Nat.le_of_ble_eq_true rfl)⟩) ⟨fun a U g mk q => by obtain ⟨q0, q1, qP, qK, qD⟩ := q; exact ⟨q0, q1, qP, va_K.moved (u := U) (U := U.calling g mk a) (Vm.Alike.refl U.vm) qK, qD⟩, va_recv hK hP (ci := 13) (q0 := 0) rfl rfl, fun U hU hW => ⟨rfl, by rw [hU], by rw [hU]; exact hP, va_K.moved hW.alike hK, hD.weaken (fun _ _ _ _ => trivial)⟩⟩ rfl rfl hl.1 rfl (lv_room (Nat.le_of_ble_eq_true rfl)) dL_law_3440 ⟨(Nat.le_of_ble_eq_true rfl), (Nat.le_of_ble_eq_true rfl)⟩) hS (fun q _ h => hFc q h) hFc (fun r u t H1 locs ht hvm hw hB hz1 hk1 hS => ?_)
  subst hw
  obtain ⟨mg1, hmg1, hP1, hK1, hD1⟩ := hB
  rw [ht] at hP1
  have hK1 := va_K.moved hvm.symm hK1
  have hD1 := hD1.weaken (fun k q _ h => hFc q.1 h)
  generalize H1 = H at hP1 hS ⊢
  refine lv_istore (lv' := [(6, .int 0), (5, .int 1), (0, .ref b), (1, .ref x), (2, .ref m0), (3, .ref oA), (4, .int 0)]) hx hb dL_law_3443 hl (by decide) rfl (fun ls hl => ?_)
  refine lv_aload_n hx hb dL_law_3445 rfl (lv_at hl 4 rfl) ?_
  have hFc := va_free (wc := [(m0, .inr (13, mg1))]) hD1 hS hA [0] rfl
  refine va_calli (va_runV (As := []) (rest := []) ⟨hx, hb, hml, hown, hts⟩ (ct_X13_thrown l dC dI _ 1 m0 mg1 hmg1) (cwV 0 hts (gi_V wd_3015 wd_3016 wd_3017 wd_340 wd_3018) rfl rfl rfl (by decide +kernel) ⟨(Nat.le_of_ble_eq_true rfl), (Nat.le_of_ble_eq_true rfl)⟩) ⟨fun a U g mk q => by obtain ⟨q0, q1, qP, qK, qD⟩ := q; exact ⟨q0, q1, qP, va_K.moved (u := U) (U := U.calling g mk a) (Vm.Alike.refl U.vm) qK, qD⟩, va_recv hK1 hP1 (ci := 13) (q0 := 0) rfl rfl, fun U hU hW => ⟨rfl, by rw [hU], by rw [hU]; exact hP1, va_K.moved hW.alike hK1, hD1.weaken (fun _ _ _ _ => trivial)⟩⟩ rfl rfl hl.1 rfl (lv_room (Nat.le_of_ble_eq_true rfl)) dL_law_3446 ⟨(Nat.le_of_ble_eq_true rfl), (Nat.le_of_ble_eq_true rfl)⟩) hS (fun q _ h => hFc q h) hFc (fun r u t H1 locs ht hvm hw hB hz1 hk1 hS => ?_)
  subst hw
  refine lv_iload hx hb dL_law_3449 (lv_at hl 1 rfl) ?_
  refine lv_icmp_eq (tgt := 3456) hx hb dL_law_3451 (by decide) (fun c9 => ?_) (fun c9 => ?_)
  rotate_left
  · first | exact absurd c9 (by decide +kernel) | exact absurd (by decide +kernel) c9
  refine lv_iload hx hb dL_law_3456 (lv_at hl 1 rfl) ?_
  refine lv_if_ne (tgt := 3473) hx hb dL_law_3458 (by decide) (fun c9 => ?_) (fun c9 => ?_)
  rotate_left
  · first | exact absurd c9 (by decide +kernel) | exact absurd (by decide +kernel) c9
  refine lv_goto (tgt := 4099) hx hb dL_law_3473 (by decide) ?_
  refine W.widen (k := 470) (n := 2709300) (Nat.le_of_ble_eq_true rfl) (Nat.le_of_ble_eq_true rfl) ?_
  exact law_tail (v5 := 0) (v6 := 0) (lv := []) C0 hS (lv_sub hl [2, 6] rfl)
set_option maxHeartbeats 4000000 in
set_option maxRecDepth 100000 in
theorem law_changes {p : Program} {l : Launch} {e : Env} {s : State} {m : MethodId} {below : List Frame} {meth : Method} {c : Code} {b : Nat} {xs : Nat → Int32} (C0 : lw_At p s m meth c b 7 xs) {dC : Nat → ClassId} {dI : Nat → Nat → Nat} (hlt : l.stackTraces = false) (hth : th (fun q : Nat => s.heap.size ≤ q) s s.heap) (x : Nat) (xg : List Value) (chA : Nat) (chC : ClassId) (chF : Nat → Option Nat) (ch0 ch1 ch2 ch3 : Nat) (chg0 chg1 chg2 chg3 : List Value) (hchg0 : fx chg0 20 [(0, .int 0)]) (hchF0 : chF 0 = some ch0) (hchg1 : fx chg1 20 [(0, .int 0)]) (hchF1 : chF 1 = some ch1) (hchg2 : fx chg2 20 [(0, .int 0)]) (hchF2 : chF 2 = some ch2) (hchg3 : fx chg3 20 [(0, .int 0)]) (hchF3 : chF 3 = some ch3) (m0 : Nat) (mg : List Value) (mcA : Nat) (mcC : ClassId) (oA : Nat) (oC : ClassId) (oF : Nat → Int64) (hxg : fx xg 17 [(9, .ref chA)]) (hmg : fx mg 225 [(138, .ref mcA)]) (H : Heap) (locs : List Loc) (hK : va_K (dC, dI) CL [(chC, .object "ChipFlow$Chip"), (mcC, .boolean), (oC, .long)] s) (hP : va_P (dC, dI) CL [(x, .inr (12, xg)), (chA, .inl (chC, (4, .inr (.inr (.inr (.inr chF)))))), (ch0, .inr (2, chg0)), (ch1, .inr (2, chg1)), (ch2, .inr (2, chg2)), (ch3, .inr (2, chg3)), (m0, .inr (13, mg)), (mcA, .inl (mcC, (4, .inl (fun _ => 0)))), (oA, .inl (oC, (1, .inr (.inl oF))))] H) (hD : va_D (fun q : Nat => s.heap.size ≤ q) [(x, .inr (12, xg)), (chA, .inl (chC, (4, .inr (.inr (.inr (.inr chF)))))), (ch0, .inr (2, chg0)), (ch1, .inr (2, chg1)), (ch2, .inr (2, chg2)), (ch3, .inr (2, chg3)), (m0, .inr (13, mg)), (mcA, .inl (mcC, (4, .inl (fun _ => 0)))), (oA, .inl (oC, (1, .inr (.inl oF))))]) (hS : va_S (fun q : Nat => s.heap.size ≤ q) s.heap H locs) (ls : Array Slot) (hl : lv_has ls 7 [(0, .ref b), (1, .ref x), (2, .ref m0), (3, .ref oA), (4, .int 0)]) : W p l e room_1 s m #[Value.ref b] below meth c H locs 451 2709142 (lw_Z below #[Value.ref b] s) (F0 m 3476 ls []) := by
  obtain ⟨hx, hb, hr, hml, hown, hts0, hX, hbl, hlocks, hgv⟩ := id C0
  have hts : ∀ w ∈ BG, w.before _ s = true := fun w h => hts0 w (List.mem_filter.mp h).1
  have hown : s.vm.findClass RL = some m.cls := hown
  have hA : ∀ q : Nat, s.heap.size ≤ q → (fun q : Nat => s.heap.size ≤ q) q := fun _ h => h
  have hbA : ¬ (fun q : Nat => s.heap.size ≤ q) b := Nat.not_le.mpr hbl
  refine lv_aload_n hx hb dL_law_3476 rfl (lv_at hl 1 rfl) ?_
  refine lv_aload_n hx hb dL_law_3477 rfl (lv_at hl 0 rfl) ?_
  refine lv_iload hx hb dL_law_3478 (lv_at hl 4 rfl) ?_
  refine lv_iconst (v := 1) hx hb dL_law_3480 (by decide +kernel) ?_
  refine lv_iadd hx hb dL_law_3481 ?_
  refine va_sld hx hb hX hbl hbA hS vi_1 dL_law_3482 ?_
  refine lv_aload_n hx hb dL_law_3483 rfl (lv_at hl 0 rfl) ?_
  refine lv_iload hx hb dL_law_3484 (lv_at hl 4 rfl) ?_
  refine lv_iconst (v := 2) hx hb dL_law_3486 (by decide +kernel) ?_
  refine lv_iadd hx hb dL_law_3487 ?_
  refine va_sld hx hb hX hbl hbA hS vi_2 dL_law_3488 ?_
  refine lv_aload_n hx hb dL_law_3489 rfl (lv_at hl 0 rfl) ?_
  refine lv_iload hx hb dL_law_3490 (lv_at hl 4 rfl) ?_
  refine lv_iconst (v := 3) hx hb dL_law_3492 (by decide +kernel) ?_
  refine lv_iadd hx hb dL_law_3493 ?_
  refine va_sld hx hb hX hbl hbA hS vi_3 dL_law_3494 ?_
  refine lv_aload_n hx hb dL_law_3495 rfl (lv_at hl 0 rfl) ?_
  refine lv_iload hx hb dL_law_3496 (lv_at hl 4 rfl) ?_
  refine lv_iconst (v := 4) hx hb dL_law_3498 (by decide +kernel) ?_
  refine lv_iadd hx hb dL_law_3499 ?_
  refine va_sld hx hb hX hbl hbA hS vi_4 dL_law_3500 ?_
  refine lv_aload_n hx hb dL_law_3501 rfl (lv_at hl 3 rfl) ?_
  have hPc := hP.sub (ws' := [(x, .inr (12, xg)), (chA, .inl (chC, (4, .inr (.inr (.inr (.inr chF)))))), (ch0, .inr (2, chg0)), (ch1, .inr (2, chg1)), (ch2, .inr (2, chg2)), (ch3, .inr (2, chg3)), (oA, .inl (oC, (1, .inr (.inl oF))))]) [0, 1, 2, 3, 4, 5, 8] rfl
  have hDc := hD.sub (ws' := [(x, .inr (12, xg)), (chA, .inl (chC, (4, .inr (.inr (.inr (.inr chF)))))), (ch0, .inr (2, chg0)), (ch1, .inr (2, chg1)), (ch2, .inr (2, chg2)), (ch3, .inr (2, chg3)), (oA, .inl (oC, (1, .inr (.inl oF))))]) [0, 1, 2, 3, 4, 5, 8] (by decide) rfl
  have hKc := hK.sub (tys' := [(chC, .object "ChipFlow$Chip"), (oC, .long)]) [0, 2] rfl
  have hFc := va_free (wc := [(x, .inr (12, xg)), (chA, .inl (chC, (4, .inr (.inr (.inr (.inr chF)))))), (ch0, .inr (2, chg0)), (ch1, .inr (2, chg1)), (ch2, .inr (2, chg2)), (ch3, .inr (2, chg3)), (oA, .inl (oC, (1, .inr (.inl oF))))]) hD hS hA [0, 1, 2, 3, 4, 5, 8] rfl
  refine va_calli (vx_runSW (As := [.ref x, .int (xs ((0 : Int32) + 1).toNatClampNeg), .int (xs ((0 : Int32) + 2).toNatClampNeg), .int (xs ((0 : Int32) + 3).toNatClampNeg), .int (xs ((0 : Int32) + 4).toNatClampNeg), .ref oA]) (rest := []) ⟨hx, hb, hml, hown, hts⟩ (ct_L_changes l hlt dC dI H.size (xs ((0 : Int32) + 1).toNatClampNeg) (xs ((0 : Int32) + 2).toNatClampNeg) (xs ((0 : Int32) + 3).toNatClampNeg) (xs ((0 : Int32) + 4).toNatClampNeg) x xg chA chC chF ch0 ch1 ch2 ch3 chg0 chg1 chg2 chg3 hchg0 hchF0 hchg1 hchF1 hchg2 hchF2 hchg3 hchF3 oA oC oF hxg) (vx_cwSW 6 hts (gi_W wd_2882 wd_2883 wd_326 wd_2884) rfl rfl rfl (by decide +kernel) ⟨(Nat.le_of_ble_eq_true rfl), (Nat.le_of_ble_eq_true rfl)⟩) ⟨fun a U g mk q => by obtain ⟨q0, q1, qP, qK, qD, qT⟩ := q; exact ⟨q0, q1, qP, va_K.moved (u := U) (U := U.calling g mk a) (Vm.Alike.refl U.vm) qK, qD, th.moved (u := U) (U := U.calling g mk a) (Vm.Alike.refl U.vm) qT⟩, fun U hU hW => ⟨rfl, by rw [hU], by rw [hU]; exact hPc, va_K.moved hW.alike hKc, hDc.weaken (fun _ _ _ _ => trivial), by rw [hU]; exact ((hth.kept hS.2.1).narrow hFc).moved hW.alike⟩⟩ rfl rfl hl.1 rfl (lv_room (Nat.le_of_ble_eq_true rfl)) dL_law_3502 ⟨(Nat.le_of_ble_eq_true rfl), (Nat.le_of_ble_eq_true rfl)⟩) hS (fun q _ h => hFc q h) hFc (fun r u t H1 locs ht hvm hw hB hz1 hk1 hS => ?_)
  subst hw
  obtain ⟨hP1, -, hD1⟩ := hB
  rw [ht] at hP1
  obtain ⟨hP, hD⟩ := va_join (wr := [(m0, .inr (13, mg)), (mcA, .inl (mcC, (4, .inl (fun _ => 0))))]) (w1 := [(oA, .inl (oC, (1, .inr (.inl oF))))]) hP hD [0, 1, 2, 3, 4, 5, 8] [6, 7] rfl rfl (by decide) (by decide) hk1 hFc hP1 hD1
  have hP := hP.sub (ws' := [(m0, .inr (13, mg)), (mcA, .inl (mcC, (4, .inl (fun _ => 0))))]) [0, 1] rfl
  have hD := hD.sub (ws' := [(m0, .inr (13, mg)), (mcA, .inl (mcC, (4, .inl (fun _ => 0))))]) [0, 1] (by decide) rfl
  have hK := hK.sub (tys' := [(mcC, .boolean)]) [1] rfl
  generalize H1 = H at hP hS ⊢
  refine W.widen (k := 452) (n := 2709148) (Nat.le_of_ble_eq_true rfl) (Nat.le_of_ble_eq_true rfl) ?_
  refine lv_istore (lv' := [(5, .int 1), (0, .ref b), (1, .ref x), (2, .ref m0), (3, .ref oA), (4, .int 0)]) hx hb dL_law_3505 hl (by decide) rfl (fun ls hl => ?_)
  refine lv_aload_n hx hb dL_law_3507 rfl (lv_at hl 3 rfl) ?_
  refine lv_aload_n hx hb dL_law_3508 rfl (lv_at hl 1 rfl) ?_
  refine lv_iload hx hb dL_law_3509 (lv_at hl 5 rfl) ?_
  refine lv_iconst (v := 1) hx hb dL_law_3511 (by decide +kernel) ?_
  refine lv_iadd hx hb dL_law_3512 ?_
  refine va_sld hx hb hX hbl hbA hS vi_1 dL_law_3513 ?_
  refine lv_aload_n hx hb dL_law_3514 rfl (lv_at hl 1 rfl) ?_
  refine lv_iload hx hb dL_law_3515 (lv_at hl 5 rfl) ?_
  refine lv_iconst (v := 2) hx hb dL_law_3517 (by decide +kernel) ?_
  refine lv_iadd hx hb dL_law_3518 ?_
  refine va_sld hx hb hX hbl hbA hS vi_2 dL_law_3519 ?_
  refine lv_aload_n hx hb dL_law_3520 rfl (lv_at hl 1 rfl) ?_
  refine lv_iload hx hb dL_law_3521 (lv_at hl 5 rfl) ?_
  refine lv_iconst (v := 3) hx hb dL_law_3523 (by decide +kernel) ?_
  refine lv_iadd hx hb dL_law_3524 ?_
  refine va_sld hx hb hX hbl hbA hS vi_3 dL_law_3525 ?_
  refine lv_aload_n hx hb dL_law_3526 rfl (lv_at hl 1 rfl) ?_
  refine lv_iload hx hb dL_law_3527 (lv_at hl 5 rfl) ?_
  refine lv_iconst (v := 4) hx hb dL_law_3529 (by decide +kernel) ?_
  refine lv_iadd hx hb dL_law_3530 ?_
  refine va_sld hx hb hX hbl hbA hS vi_4 dL_law_3531 ?_
  have hFc := va_free (wc := [(m0, .inr (13, mg)), (mcA, .inl (mcC, (4, .inl (fun _ => 0))))]) hD hS hA [0, 1] rfl
  refine va_calli (va_runV (As := [.int (xs ((0 : Int32) + 1).toNatClampNeg), .int (xs ((0 : Int32) + 2).toNatClampNeg), .int (xs ((0 : Int32) + 3).toNatClampNeg), .int (xs ((0 : Int32) + 4).toNatClampNeg)]) (rest := []) ⟨hx, hb, hml, hown, hts⟩ (ct_X13_changes l dC dI _ (xs ((0 : Int32) + 1).toNatClampNeg) (xs ((0 : Int32) + 2).toNatClampNeg) (xs ((0 : Int32) + 3).toNatClampNeg) (xs ((0 : Int32) + 4).toNatClampNeg) m0 mg mcA mcC hmg) (cwV 4 hts (gi_V wd_4646 wd_4647 wd_4648 wd_340 wd_4649) rfl rfl rfl (by decide +kernel) ⟨(Nat.le_of_ble_eq_true rfl), (Nat.le_of_ble_eq_true rfl)⟩) ⟨fun a U g mk q => by obtain ⟨q0, q1, qP, qK, qD⟩ := q; exact ⟨q0, q1, qP, va_K.moved (u := U) (U := U.calling g mk a) (Vm.Alike.refl U.vm) qK, qD⟩, va_recv hK hP (ci := 13) (q0 := 0) rfl rfl, fun U hU hW => ⟨rfl, by rw [hU], by rw [hU]; exact hP, va_K.moved hW.alike hK, hD.weaken (fun _ _ _ _ => trivial)⟩⟩ rfl rfl hl.1 rfl (lv_room (Nat.le_of_ble_eq_true rfl)) dL_law_3532 ⟨(Nat.le_of_ble_eq_true rfl), (Nat.le_of_ble_eq_true rfl)⟩) hS (fun q _ h => hFc q h) hFc (fun r u t H1 locs ht hvm hw hB hz1 hk1 hS => ?_)
  subst hw
  obtain ⟨mg1, hmg1, hP1, hK1, hD1⟩ := hB
  rw [ht] at hP1
  have hK1 := va_K.moved hvm.symm hK1
  have hD1 := hD1.weaken (fun k q _ h => hFc q.1 h)
  generalize H1 = H at hP1 hS ⊢
  refine lv_istore (lv' := [(6, .int 0), (5, .int 1), (0, .ref b), (1, .ref x), (2, .ref m0), (3, .ref oA), (4, .int 0)]) hx hb dL_law_3535 hl (by decide) rfl (fun ls hl => ?_)
  refine lv_aload_n hx hb dL_law_3537 rfl (lv_at hl 4 rfl) ?_
  have hFc := va_free (wc := [(m0, .inr (13, mg1))]) hD1 hS hA [0] rfl
  refine va_calli (va_runV (As := []) (rest := []) ⟨hx, hb, hml, hown, hts⟩ (ct_X13_thrown l dC dI _ 1 m0 mg1 hmg1) (cwV 0 hts (gi_V wd_3015 wd_3016 wd_3017 wd_340 wd_3018) rfl rfl rfl (by decide +kernel) ⟨(Nat.le_of_ble_eq_true rfl), (Nat.le_of_ble_eq_true rfl)⟩) ⟨fun a U g mk q => by obtain ⟨q0, q1, qP, qK, qD⟩ := q; exact ⟨q0, q1, qP, va_K.moved (u := U) (U := U.calling g mk a) (Vm.Alike.refl U.vm) qK, qD⟩, va_recv hK1 hP1 (ci := 13) (q0 := 0) rfl rfl, fun U hU hW => ⟨rfl, by rw [hU], by rw [hU]; exact hP1, va_K.moved hW.alike hK1, hD1.weaken (fun _ _ _ _ => trivial)⟩⟩ rfl rfl hl.1 rfl (lv_room (Nat.le_of_ble_eq_true rfl)) dL_law_3538 ⟨(Nat.le_of_ble_eq_true rfl), (Nat.le_of_ble_eq_true rfl)⟩) hS (fun q _ h => hFc q h) hFc (fun r u t H1 locs ht hvm hw hB hz1 hk1 hS => ?_)
  subst hw
  refine lv_iload hx hb dL_law_3541 (lv_at hl 1 rfl) ?_
  refine lv_icmp_eq (tgt := 3548) hx hb dL_law_3543 (by decide) (fun c9 => ?_) (fun c9 => ?_)
  rotate_left
  · first | exact absurd c9 (by decide +kernel) | exact absurd (by decide +kernel) c9
  refine lv_iload hx hb dL_law_3548 (lv_at hl 1 rfl) ?_
  refine lv_if_ne (tgt := 3565) hx hb dL_law_3550 (by decide) (fun c9 => ?_) (fun c9 => ?_)
  rotate_left
  · first | exact absurd c9 (by decide +kernel) | exact absurd (by decide +kernel) c9
  refine lv_goto (tgt := 4099) hx hb dL_law_3565 (by decide) ?_
  refine W.widen (k := 470) (n := 2709300) (Nat.le_of_ble_eq_true rfl) (Nat.le_of_ble_eq_true rfl) ?_
  exact law_tail (v5 := 0) (v6 := 0) (lv := []) C0 hS (lv_sub hl [2, 6] rfl)
set_option maxHeartbeats 4000000 in
set_option maxRecDepth 100000 in
theorem law_test {p : Program} {l : Launch} {e : Env} {s : State} {m : MethodId} {below : List Frame} {meth : Method} {c : Code} {b : Nat} {xs : Nat → Int32} (C0 : lw_At p s m meth c b 7 xs) {dC : Nat → ClassId} {dI : Nat → Nat → Nat} (hlt : l.stackTraces = false) (hth : th (fun q : Nat => s.heap.size ≤ q) s s.heap) (x : Nat) (xg : List Value) (chA : Nat) (chC : ClassId) (chF : Nat → Option Nat) (ch0 ch1 ch2 ch3 : Nat) (chg0 chg1 chg2 chg3 : List Value) (hchg0 : fx chg0 20 [(0, .int 0)]) (hchF0 : chF 0 = some ch0) (hchg1 : fx chg1 20 [(0, .int 0)]) (hchF1 : chF 1 = some ch1) (hchg2 : fx chg2 20 [(0, .int 0)]) (hchF2 : chF 2 = some ch2) (hchg3 : fx chg3 20 [(0, .int 0)]) (hchF3 : chF 3 = some ch3) (m0 : Nat) (mg : List Value) (mcA : Nat) (mcC : ClassId) (oA : Nat) (oC : ClassId) (oF : Nat → Int64) (hxg : fx xg 17 [(9, .ref chA)]) (hmg : fx mg 225 [(138, .ref mcA)]) (H : Heap) (locs : List Loc) (hK : va_K (dC, dI) CL [(chC, .object "ChipFlow$Chip"), (mcC, .boolean), (oC, .long)] s) (hP : va_P (dC, dI) CL [(x, .inr (12, xg)), (chA, .inl (chC, (4, .inr (.inr (.inr (.inr chF)))))), (ch0, .inr (2, chg0)), (ch1, .inr (2, chg1)), (ch2, .inr (2, chg2)), (ch3, .inr (2, chg3)), (m0, .inr (13, mg)), (mcA, .inl (mcC, (4, .inl (fun _ => 0)))), (oA, .inl (oC, (1, .inr (.inl oF))))] H) (hD : va_D (fun q : Nat => s.heap.size ≤ q) [(x, .inr (12, xg)), (chA, .inl (chC, (4, .inr (.inr (.inr (.inr chF)))))), (ch0, .inr (2, chg0)), (ch1, .inr (2, chg1)), (ch2, .inr (2, chg2)), (ch3, .inr (2, chg3)), (m0, .inr (13, mg)), (mcA, .inl (mcC, (4, .inl (fun _ => 0)))), (oA, .inl (oC, (1, .inr (.inl oF))))]) (hS : va_S (fun q : Nat => s.heap.size ≤ q) s.heap H locs) (ls : Array Slot) (hl : lv_has ls 7 [(0, .ref b), (1, .ref x), (2, .ref m0), (3, .ref oA), (4, .int 0)]) : W p l e room_1 s m #[Value.ref b] below meth c H locs 451 2709142 (lw_Z below #[Value.ref b] s) (F0 m 3568 ls []) := by
  obtain ⟨hx, hb, hr, hml, hown, hts0, hX, hbl, hlocks, hgv⟩ := id C0
  have hts : ∀ w ∈ BG, w.before _ s = true := fun w h => hts0 w (List.mem_filter.mp h).1
  have hown : s.vm.findClass RL = some m.cls := hown
  have hA : ∀ q : Nat, s.heap.size ≤ q → (fun q : Nat => s.heap.size ≤ q) q := fun _ h => h
  have hbA : ¬ (fun q : Nat => s.heap.size ≤ q) b := Nat.not_le.mpr hbl
  refine lv_aload_n hx hb dL_law_3568 rfl (lv_at hl 1 rfl) ?_
  refine lv_aload_n hx hb dL_law_3569 rfl (lv_at hl 0 rfl) ?_
  refine lv_iload hx hb dL_law_3570 (lv_at hl 4 rfl) ?_
  refine lv_iconst (v := 1) hx hb dL_law_3572 (by decide +kernel) ?_
  refine lv_iadd hx hb dL_law_3573 ?_
  refine va_sld hx hb hX hbl hbA hS vi_1 dL_law_3574 ?_
  refine lv_aload_n hx hb dL_law_3575 rfl (lv_at hl 0 rfl) ?_
  refine lv_iload hx hb dL_law_3576 (lv_at hl 4 rfl) ?_
  refine lv_iconst (v := 2) hx hb dL_law_3578 (by decide +kernel) ?_
  refine lv_iadd hx hb dL_law_3579 ?_
  refine va_sld hx hb hX hbl hbA hS vi_2 dL_law_3580 ?_
  refine lv_aload_n hx hb dL_law_3581 rfl (lv_at hl 3 rfl) ?_
  have hPc := hP.sub (ws' := [(x, .inr (12, xg)), (chA, .inl (chC, (4, .inr (.inr (.inr (.inr chF)))))), (ch0, .inr (2, chg0)), (ch1, .inr (2, chg1)), (ch2, .inr (2, chg2)), (ch3, .inr (2, chg3)), (oA, .inl (oC, (1, .inr (.inl oF))))]) [0, 1, 2, 3, 4, 5, 8] rfl
  have hDc := hD.sub (ws' := [(x, .inr (12, xg)), (chA, .inl (chC, (4, .inr (.inr (.inr (.inr chF)))))), (ch0, .inr (2, chg0)), (ch1, .inr (2, chg1)), (ch2, .inr (2, chg2)), (ch3, .inr (2, chg3)), (oA, .inl (oC, (1, .inr (.inl oF))))]) [0, 1, 2, 3, 4, 5, 8] (by decide) rfl
  have hKc := hK.sub (tys' := [(chC, .object "ChipFlow$Chip"), (oC, .long)]) [0, 2] rfl
  have hFc := va_free (wc := [(x, .inr (12, xg)), (chA, .inl (chC, (4, .inr (.inr (.inr (.inr chF)))))), (ch0, .inr (2, chg0)), (ch1, .inr (2, chg1)), (ch2, .inr (2, chg2)), (ch3, .inr (2, chg3)), (oA, .inl (oC, (1, .inr (.inl oF))))]) hD hS hA [0, 1, 2, 3, 4, 5, 8] rfl
  refine va_calli (vx_runSW (As := [.ref x, .int (xs ((0 : Int32) + 1).toNatClampNeg), .int (xs ((0 : Int32) + 2).toNatClampNeg), .ref oA]) (rest := []) ⟨hx, hb, hml, hown, hts⟩ (ct_L_test l hlt dC dI H.size (xs ((0 : Int32) + 1).toNatClampNeg) (xs ((0 : Int32) + 2).toNatClampNeg) x xg chA chC chF ch0 ch1 ch2 ch3 chg0 chg1 chg2 chg3 hchg0 hchF0 hchg1 hchF1 hchg2 hchF2 hchg3 hchF3 oA oC oF hxg) (vx_cwSW 4 hts (gi_W wd_2897 wd_2898 wd_326 wd_2899) rfl rfl rfl (by decide +kernel) ⟨(Nat.le_of_ble_eq_true rfl), (Nat.le_of_ble_eq_true rfl)⟩) ⟨fun a U g mk q => by obtain ⟨q0, q1, qP, qK, qD, qT⟩ := q; exact ⟨q0, q1, qP, va_K.moved (u := U) (U := U.calling g mk a) (Vm.Alike.refl U.vm) qK, qD, th.moved (u := U) (U := U.calling g mk a) (Vm.Alike.refl U.vm) qT⟩, fun U hU hW => ⟨rfl, by rw [hU], by rw [hU]; exact hPc, va_K.moved hW.alike hKc, hDc.weaken (fun _ _ _ _ => trivial), by rw [hU]; exact ((hth.kept hS.2.1).narrow hFc).moved hW.alike⟩⟩ rfl rfl hl.1 rfl (lv_room (Nat.le_of_ble_eq_true rfl)) dL_law_3582 ⟨(Nat.le_of_ble_eq_true rfl), (Nat.le_of_ble_eq_true rfl)⟩) hS (fun q _ h => hFc q h) hFc (fun r u t H1 locs ht hvm hw hB hz1 hk1 hS => ?_)
  subst hw
  obtain ⟨hP1, -, hD1⟩ := hB
  rw [ht] at hP1
  obtain ⟨hP, hD⟩ := va_join (wr := [(m0, .inr (13, mg)), (mcA, .inl (mcC, (4, .inl (fun _ => 0))))]) (w1 := [(oA, .inl (oC, (1, .inr (.inl oF))))]) hP hD [0, 1, 2, 3, 4, 5, 8] [6, 7] rfl rfl (by decide) (by decide) hk1 hFc hP1 hD1
  have hP := hP.sub (ws' := [(m0, .inr (13, mg)), (mcA, .inl (mcC, (4, .inl (fun _ => 0))))]) [0, 1] rfl
  have hD := hD.sub (ws' := [(m0, .inr (13, mg)), (mcA, .inl (mcC, (4, .inl (fun _ => 0))))]) [0, 1] (by decide) rfl
  have hK := hK.sub (tys' := [(mcC, .boolean)]) [1] rfl
  generalize H1 = H at hP hS ⊢
  refine W.widen (k := 452) (n := 2709148) (Nat.le_of_ble_eq_true rfl) (Nat.le_of_ble_eq_true rfl) ?_
  refine lv_istore (lv' := [(5, .int 1), (0, .ref b), (1, .ref x), (2, .ref m0), (3, .ref oA), (4, .int 0)]) hx hb dL_law_3585 hl (by decide) rfl (fun ls hl => ?_)
  refine lv_aload_n hx hb dL_law_3587 rfl (lv_at hl 3 rfl) ?_
  refine lv_aload_n hx hb dL_law_3588 rfl (lv_at hl 1 rfl) ?_
  refine lv_iload hx hb dL_law_3589 (lv_at hl 5 rfl) ?_
  refine lv_iconst (v := 1) hx hb dL_law_3591 (by decide +kernel) ?_
  refine lv_iadd hx hb dL_law_3592 ?_
  refine va_sld hx hb hX hbl hbA hS vi_1 dL_law_3593 ?_
  refine lv_aload_n hx hb dL_law_3594 rfl (lv_at hl 1 rfl) ?_
  refine lv_iload hx hb dL_law_3595 (lv_at hl 5 rfl) ?_
  refine lv_iconst (v := 2) hx hb dL_law_3597 (by decide +kernel) ?_
  refine lv_iadd hx hb dL_law_3598 ?_
  refine va_sld hx hb hX hbl hbA hS vi_2 dL_law_3599 ?_
  have hFc := va_free (wc := [(m0, .inr (13, mg)), (mcA, .inl (mcC, (4, .inl (fun _ => 0))))]) hD hS hA [0, 1] rfl
  refine va_calli (va_runV (As := [.int (xs ((0 : Int32) + 1).toNatClampNeg), .int (xs ((0 : Int32) + 2).toNatClampNeg)]) (rest := []) ⟨hx, hb, hml, hown, hts⟩ (ct_X13_test l dC dI _ (xs ((0 : Int32) + 1).toNatClampNeg) (xs ((0 : Int32) + 2).toNatClampNeg) m0 mg mcA mcC hmg) (cwV 2 hts (gi_V wd_4650 wd_4651 wd_4652 wd_340 wd_4653) rfl rfl rfl (by decide +kernel) ⟨(Nat.le_of_ble_eq_true rfl), (Nat.le_of_ble_eq_true rfl)⟩) ⟨fun a U g mk q => by obtain ⟨q0, q1, qP, qK, qD⟩ := q; exact ⟨q0, q1, qP, va_K.moved (u := U) (U := U.calling g mk a) (Vm.Alike.refl U.vm) qK, qD⟩, va_recv hK hP (ci := 13) (q0 := 0) rfl rfl, fun U hU hW => ⟨rfl, by rw [hU], by rw [hU]; exact hP, va_K.moved hW.alike hK, hD.weaken (fun _ _ _ _ => trivial)⟩⟩ rfl rfl hl.1 rfl (lv_room (Nat.le_of_ble_eq_true rfl)) dL_law_3600 ⟨(Nat.le_of_ble_eq_true rfl), (Nat.le_of_ble_eq_true rfl)⟩) hS (fun q _ h => hFc q h) hFc (fun r u t H1 locs ht hvm hw hB hz1 hk1 hS => ?_)
  subst hw
  obtain ⟨mg1, hmg1, hP1, hK1, hD1⟩ := hB
  rw [ht] at hP1
  have hK1 := va_K.moved hvm.symm hK1
  have hD1 := hD1.weaken (fun k q _ h => hFc q.1 h)
  generalize H1 = H at hP1 hS ⊢
  refine lv_istore (lv' := [(6, .int 0), (5, .int 1), (0, .ref b), (1, .ref x), (2, .ref m0), (3, .ref oA), (4, .int 0)]) hx hb dL_law_3603 hl (by decide) rfl (fun ls hl => ?_)
  refine lv_aload_n hx hb dL_law_3605 rfl (lv_at hl 4 rfl) ?_
  have hFc := va_free (wc := [(m0, .inr (13, mg1))]) hD1 hS hA [0] rfl
  refine va_calli (va_runV (As := []) (rest := []) ⟨hx, hb, hml, hown, hts⟩ (ct_X13_thrown l dC dI _ 1 m0 mg1 hmg1) (cwV 0 hts (gi_V wd_3015 wd_3016 wd_3017 wd_340 wd_3018) rfl rfl rfl (by decide +kernel) ⟨(Nat.le_of_ble_eq_true rfl), (Nat.le_of_ble_eq_true rfl)⟩) ⟨fun a U g mk q => by obtain ⟨q0, q1, qP, qK, qD⟩ := q; exact ⟨q0, q1, qP, va_K.moved (u := U) (U := U.calling g mk a) (Vm.Alike.refl U.vm) qK, qD⟩, va_recv hK1 hP1 (ci := 13) (q0 := 0) rfl rfl, fun U hU hW => ⟨rfl, by rw [hU], by rw [hU]; exact hP1, va_K.moved hW.alike hK1, hD1.weaken (fun _ _ _ _ => trivial)⟩⟩ rfl rfl hl.1 rfl (lv_room (Nat.le_of_ble_eq_true rfl)) dL_law_3606 ⟨(Nat.le_of_ble_eq_true rfl), (Nat.le_of_ble_eq_true rfl)⟩) hS (fun q _ h => hFc q h) hFc (fun r u t H1 locs ht hvm hw hB hz1 hk1 hS => ?_)
  subst hw
  refine lv_iload hx hb dL_law_3609 (lv_at hl 1 rfl) ?_
  refine lv_icmp_eq (tgt := 3616) hx hb dL_law_3611 (by decide) (fun c9 => ?_) (fun c9 => ?_)
  rotate_left
  · first | exact absurd c9 (by decide +kernel) | exact absurd (by decide +kernel) c9
  refine lv_iload hx hb dL_law_3616 (lv_at hl 1 rfl) ?_
  refine lv_if_ne (tgt := 3633) hx hb dL_law_3618 (by decide) (fun c9 => ?_) (fun c9 => ?_)
  rotate_left
  · first | exact absurd c9 (by decide +kernel) | exact absurd (by decide +kernel) c9
  refine lv_goto (tgt := 4099) hx hb dL_law_3633 (by decide) ?_
  refine W.widen (k := 470) (n := 2709300) (Nat.le_of_ble_eq_true rfl) (Nat.le_of_ble_eq_true rfl) ?_
  exact law_tail (v5 := 0) (v6 := 0) (lv := []) C0 hS (lv_sub hl [2, 6] rfl)
set_option maxHeartbeats 4000000 in
set_option maxRecDepth 100000 in
theorem law_shows {p : Program} {l : Launch} {e : Env} {s : State} {m : MethodId} {below : List Frame} {meth : Method} {c : Code} {b : Nat} {xs : Nat → Int32} (C0 : lw_At p s m meth c b 7 xs) {dC : Nat → ClassId} {dI : Nat → Nat → Nat} (hlt : l.stackTraces = false) (hth : th (fun q : Nat => s.heap.size ≤ q) s s.heap) (x : Nat) (xg : List Value) (chA : Nat) (chC : ClassId) (chF : Nat → Option Nat) (ch0 ch1 ch2 ch3 : Nat) (chg0 chg1 chg2 chg3 : List Value) (hchg0 : fx chg0 20 [(0, .int 0)]) (hchF0 : chF 0 = some ch0) (hchg1 : fx chg1 20 [(0, .int 0)]) (hchF1 : chF 1 = some ch1) (hchg2 : fx chg2 20 [(0, .int 0)]) (hchF2 : chF 2 = some ch2) (hchg3 : fx chg3 20 [(0, .int 0)]) (hchF3 : chF 3 = some ch3) (m0 : Nat) (mg : List Value) (mcA : Nat) (mcC : ClassId) (oA : Nat) (oC : ClassId) (oF : Nat → Int64) (hxg : fx xg 17 [(9, .ref chA)]) (hmg : fx mg 225 [(138, .ref mcA)]) (H : Heap) (locs : List Loc) (hK : va_K (dC, dI) CL [(chC, .object "ChipFlow$Chip"), (mcC, .boolean), (oC, .long)] s) (hP : va_P (dC, dI) CL [(x, .inr (12, xg)), (chA, .inl (chC, (4, .inr (.inr (.inr (.inr chF)))))), (ch0, .inr (2, chg0)), (ch1, .inr (2, chg1)), (ch2, .inr (2, chg2)), (ch3, .inr (2, chg3)), (m0, .inr (13, mg)), (mcA, .inl (mcC, (4, .inl (fun _ => 0)))), (oA, .inl (oC, (1, .inr (.inl oF))))] H) (hD : va_D (fun q : Nat => s.heap.size ≤ q) [(x, .inr (12, xg)), (chA, .inl (chC, (4, .inr (.inr (.inr (.inr chF)))))), (ch0, .inr (2, chg0)), (ch1, .inr (2, chg1)), (ch2, .inr (2, chg2)), (ch3, .inr (2, chg3)), (m0, .inr (13, mg)), (mcA, .inl (mcC, (4, .inl (fun _ => 0)))), (oA, .inl (oC, (1, .inr (.inl oF))))]) (hS : va_S (fun q : Nat => s.heap.size ≤ q) s.heap H locs) (ls : Array Slot) (hl : lv_has ls 7 [(0, .ref b), (1, .ref x), (2, .ref m0), (3, .ref oA), (4, .int 0)]) : W p l e room_1 s m #[Value.ref b] below meth c H locs 451 2709142 (lw_Z below #[Value.ref b] s) (F0 m 3636 ls []) := by
  obtain ⟨hx, hb, hr, hml, hown, hts0, hX, hbl, hlocks, hgv⟩ := id C0
  have hts : ∀ w ∈ BG, w.before _ s = true := fun w h => hts0 w (List.mem_filter.mp h).1
  have hown : s.vm.findClass RL = some m.cls := hown
  have hA : ∀ q : Nat, s.heap.size ≤ q → (fun q : Nat => s.heap.size ≤ q) q := fun _ h => h
  have hbA : ¬ (fun q : Nat => s.heap.size ≤ q) b := Nat.not_le.mpr hbl
  refine lv_aload_n hx hb dL_law_3636 rfl (lv_at hl 1 rfl) ?_
  refine lv_aload_n hx hb dL_law_3637 rfl (lv_at hl 0 rfl) ?_
  refine lv_iload hx hb dL_law_3638 (lv_at hl 4 rfl) ?_
  refine lv_iconst (v := 1) hx hb dL_law_3640 (by decide +kernel) ?_
  refine lv_iadd hx hb dL_law_3641 ?_
  refine va_sld hx hb hX hbl hbA hS vi_1 dL_law_3642 ?_
  refine lv_aload_n hx hb dL_law_3643 rfl (lv_at hl 0 rfl) ?_
  refine lv_iload hx hb dL_law_3644 (lv_at hl 4 rfl) ?_
  refine lv_iconst (v := 2) hx hb dL_law_3646 (by decide +kernel) ?_
  refine lv_iadd hx hb dL_law_3647 ?_
  refine va_sld hx hb hX hbl hbA hS vi_2 dL_law_3648 ?_
  refine lv_aload_n hx hb dL_law_3649 rfl (lv_at hl 0 rfl) ?_
  refine lv_iload hx hb dL_law_3650 (lv_at hl 4 rfl) ?_
  refine lv_iconst (v := 3) hx hb dL_law_3652 (by decide +kernel) ?_
  refine lv_iadd hx hb dL_law_3653 ?_
  refine va_sld hx hb hX hbl hbA hS vi_3 dL_law_3654 ?_
  refine lv_aload_n hx hb dL_law_3655 rfl (lv_at hl 3 rfl) ?_
  have hPc := hP.sub (ws' := [(x, .inr (12, xg)), (chA, .inl (chC, (4, .inr (.inr (.inr (.inr chF)))))), (ch0, .inr (2, chg0)), (ch1, .inr (2, chg1)), (ch2, .inr (2, chg2)), (ch3, .inr (2, chg3)), (oA, .inl (oC, (1, .inr (.inl oF))))]) [0, 1, 2, 3, 4, 5, 8] rfl
  have hDc := hD.sub (ws' := [(x, .inr (12, xg)), (chA, .inl (chC, (4, .inr (.inr (.inr (.inr chF)))))), (ch0, .inr (2, chg0)), (ch1, .inr (2, chg1)), (ch2, .inr (2, chg2)), (ch3, .inr (2, chg3)), (oA, .inl (oC, (1, .inr (.inl oF))))]) [0, 1, 2, 3, 4, 5, 8] (by decide) rfl
  have hKc := hK.sub (tys' := [(chC, .object "ChipFlow$Chip"), (oC, .long)]) [0, 2] rfl
  have hFc := va_free (wc := [(x, .inr (12, xg)), (chA, .inl (chC, (4, .inr (.inr (.inr (.inr chF)))))), (ch0, .inr (2, chg0)), (ch1, .inr (2, chg1)), (ch2, .inr (2, chg2)), (ch3, .inr (2, chg3)), (oA, .inl (oC, (1, .inr (.inl oF))))]) hD hS hA [0, 1, 2, 3, 4, 5, 8] rfl
  refine va_calli (vx_runSW (As := [.ref x, .int (xs ((0 : Int32) + 1).toNatClampNeg), .int (xs ((0 : Int32) + 2).toNatClampNeg), .int (xs ((0 : Int32) + 3).toNatClampNeg), .ref oA]) (rest := []) ⟨hx, hb, hml, hown, hts⟩ (ct_L_shows l hlt dC dI H.size (xs ((0 : Int32) + 1).toNatClampNeg) (xs ((0 : Int32) + 2).toNatClampNeg) (xs ((0 : Int32) + 3).toNatClampNeg) x xg chA chC chF ch0 ch1 ch2 ch3 chg0 chg1 chg2 chg3 hchg0 hchF0 hchg1 hchF1 hchg2 hchF2 hchg3 hchF3 oA oC oF hxg) (vx_cwSW 5 hts (gi_W wd_2934 wd_2935 wd_326 wd_2936) rfl rfl rfl (by decide +kernel) ⟨(Nat.le_of_ble_eq_true rfl), (Nat.le_of_ble_eq_true rfl)⟩) ⟨fun a U g mk q => by obtain ⟨q0, q1, qP, qK, qD, qT⟩ := q; exact ⟨q0, q1, qP, va_K.moved (u := U) (U := U.calling g mk a) (Vm.Alike.refl U.vm) qK, qD, th.moved (u := U) (U := U.calling g mk a) (Vm.Alike.refl U.vm) qT⟩, fun U hU hW => ⟨rfl, by rw [hU], by rw [hU]; exact hPc, va_K.moved hW.alike hKc, hDc.weaken (fun _ _ _ _ => trivial), by rw [hU]; exact ((hth.kept hS.2.1).narrow hFc).moved hW.alike⟩⟩ rfl rfl hl.1 rfl (lv_room (Nat.le_of_ble_eq_true rfl)) dL_law_3656 ⟨(Nat.le_of_ble_eq_true rfl), (Nat.le_of_ble_eq_true rfl)⟩) hS (fun q _ h => hFc q h) hFc (fun r u t H1 locs ht hvm hw hB hz1 hk1 hS => ?_)
  subst hw
  obtain ⟨hP1, -, hD1⟩ := hB
  rw [ht] at hP1
  obtain ⟨hP, hD⟩ := va_join (wr := [(m0, .inr (13, mg)), (mcA, .inl (mcC, (4, .inl (fun _ => 0))))]) (w1 := [(oA, .inl (oC, (1, .inr (.inl oF))))]) hP hD [0, 1, 2, 3, 4, 5, 8] [6, 7] rfl rfl (by decide) (by decide) hk1 hFc hP1 hD1
  have hP := hP.sub (ws' := [(m0, .inr (13, mg)), (mcA, .inl (mcC, (4, .inl (fun _ => 0))))]) [0, 1] rfl
  have hD := hD.sub (ws' := [(m0, .inr (13, mg)), (mcA, .inl (mcC, (4, .inl (fun _ => 0))))]) [0, 1] (by decide) rfl
  have hK := hK.sub (tys' := [(mcC, .boolean)]) [1] rfl
  generalize H1 = H at hP hS ⊢
  refine W.widen (k := 452) (n := 2709148) (Nat.le_of_ble_eq_true rfl) (Nat.le_of_ble_eq_true rfl) ?_
  refine lv_istore (lv' := [(5, .int 1), (0, .ref b), (1, .ref x), (2, .ref m0), (3, .ref oA), (4, .int 0)]) hx hb dL_law_3659 hl (by decide) rfl (fun ls hl => ?_)
  refine lv_aload_n hx hb dL_law_3661 rfl (lv_at hl 3 rfl) ?_
  refine lv_aload_n hx hb dL_law_3662 rfl (lv_at hl 1 rfl) ?_
  refine lv_iload hx hb dL_law_3663 (lv_at hl 5 rfl) ?_
  refine lv_iconst (v := 1) hx hb dL_law_3665 (by decide +kernel) ?_
  refine lv_iadd hx hb dL_law_3666 ?_
  refine va_sld hx hb hX hbl hbA hS vi_1 dL_law_3667 ?_
  refine lv_aload_n hx hb dL_law_3668 rfl (lv_at hl 1 rfl) ?_
  refine lv_iload hx hb dL_law_3669 (lv_at hl 5 rfl) ?_
  refine lv_iconst (v := 2) hx hb dL_law_3671 (by decide +kernel) ?_
  refine lv_iadd hx hb dL_law_3672 ?_
  refine va_sld hx hb hX hbl hbA hS vi_2 dL_law_3673 ?_
  refine lv_aload_n hx hb dL_law_3674 rfl (lv_at hl 1 rfl) ?_
  refine lv_iload hx hb dL_law_3675 (lv_at hl 5 rfl) ?_
  refine lv_iconst (v := 3) hx hb dL_law_3677 (by decide +kernel) ?_
  refine lv_iadd hx hb dL_law_3678 ?_
  refine va_sld hx hb hX hbl hbA hS vi_3 dL_law_3679 ?_
  have hFc := va_free (wc := [(m0, .inr (13, mg)), (mcA, .inl (mcC, (4, .inl (fun _ => 0))))]) hD hS hA [0, 1] rfl
  refine va_calli (va_runV (As := [.int (xs ((0 : Int32) + 1).toNatClampNeg), .int (xs ((0 : Int32) + 2).toNatClampNeg), .int (xs ((0 : Int32) + 3).toNatClampNeg)]) (rest := []) ⟨hx, hb, hml, hown, hts⟩ (ct_X13_shows l dC dI _ (xs ((0 : Int32) + 1).toNatClampNeg) (xs ((0 : Int32) + 2).toNatClampNeg) (xs ((0 : Int32) + 3).toNatClampNeg) m0 mg mcA mcC hmg) (cwV 3 hts (gi_V wd_4681 wd_4682 wd_4683 wd_340 wd_4684) rfl rfl rfl (by decide +kernel) ⟨(Nat.le_of_ble_eq_true rfl), (Nat.le_of_ble_eq_true rfl)⟩) ⟨fun a U g mk q => by obtain ⟨q0, q1, qP, qK, qD⟩ := q; exact ⟨q0, q1, qP, va_K.moved (u := U) (U := U.calling g mk a) (Vm.Alike.refl U.vm) qK, qD⟩, va_recv hK hP (ci := 13) (q0 := 0) rfl rfl, fun U hU hW => ⟨rfl, by rw [hU], by rw [hU]; exact hP, va_K.moved hW.alike hK, hD.weaken (fun _ _ _ _ => trivial)⟩⟩ rfl rfl hl.1 rfl (lv_room (Nat.le_of_ble_eq_true rfl)) dL_law_3680 ⟨(Nat.le_of_ble_eq_true rfl), (Nat.le_of_ble_eq_true rfl)⟩) hS (fun q _ h => hFc q h) hFc (fun r u t H1 locs ht hvm hw hB hz1 hk1 hS => ?_)
  subst hw
  obtain ⟨mg1, hmg1, hP1, hK1, hD1⟩ := hB
  rw [ht] at hP1
  have hK1 := va_K.moved hvm.symm hK1
  have hD1 := hD1.weaken (fun k q _ h => hFc q.1 h)
  generalize H1 = H at hP1 hS ⊢
  refine lv_istore (lv' := [(6, .int 0), (5, .int 1), (0, .ref b), (1, .ref x), (2, .ref m0), (3, .ref oA), (4, .int 0)]) hx hb dL_law_3683 hl (by decide) rfl (fun ls hl => ?_)
  refine lv_aload_n hx hb dL_law_3685 rfl (lv_at hl 4 rfl) ?_
  have hFc := va_free (wc := [(m0, .inr (13, mg1))]) hD1 hS hA [0] rfl
  refine va_calli (va_runV (As := []) (rest := []) ⟨hx, hb, hml, hown, hts⟩ (ct_X13_thrown l dC dI _ 1 m0 mg1 hmg1) (cwV 0 hts (gi_V wd_3015 wd_3016 wd_3017 wd_340 wd_3018) rfl rfl rfl (by decide +kernel) ⟨(Nat.le_of_ble_eq_true rfl), (Nat.le_of_ble_eq_true rfl)⟩) ⟨fun a U g mk q => by obtain ⟨q0, q1, qP, qK, qD⟩ := q; exact ⟨q0, q1, qP, va_K.moved (u := U) (U := U.calling g mk a) (Vm.Alike.refl U.vm) qK, qD⟩, va_recv hK1 hP1 (ci := 13) (q0 := 0) rfl rfl, fun U hU hW => ⟨rfl, by rw [hU], by rw [hU]; exact hP1, va_K.moved hW.alike hK1, hD1.weaken (fun _ _ _ _ => trivial)⟩⟩ rfl rfl hl.1 rfl (lv_room (Nat.le_of_ble_eq_true rfl)) dL_law_3686 ⟨(Nat.le_of_ble_eq_true rfl), (Nat.le_of_ble_eq_true rfl)⟩) hS (fun q _ h => hFc q h) hFc (fun r u t H1 locs ht hvm hw hB hz1 hk1 hS => ?_)
  subst hw
  refine lv_iload hx hb dL_law_3689 (lv_at hl 1 rfl) ?_
  refine lv_icmp_eq (tgt := 3696) hx hb dL_law_3691 (by decide) (fun c9 => ?_) (fun c9 => ?_)
  rotate_left
  · first | exact absurd c9 (by decide +kernel) | exact absurd (by decide +kernel) c9
  refine lv_iload hx hb dL_law_3696 (lv_at hl 1 rfl) ?_
  refine lv_if_ne (tgt := 3720) hx hb dL_law_3698 (by decide) (fun c9 => ?_) (fun c9 => ?_)
  rotate_left
  · first | exact absurd c9 (by decide +kernel) | exact absurd (by decide +kernel) c9
  refine lv_goto (tgt := 4099) hx hb dL_law_3720 (by decide) ?_
  refine W.widen (k := 470) (n := 2709300) (Nat.le_of_ble_eq_true rfl) (Nat.le_of_ble_eq_true rfl) ?_
  exact law_tail (v5 := 0) (v6 := 0) (lv := []) C0 hS (lv_sub hl [2, 6] rfl)
set_option maxHeartbeats 4000000 in
set_option maxRecDepth 100000 in
theorem law_tests {p : Program} {l : Launch} {e : Env} {s : State} {m : MethodId} {below : List Frame} {meth : Method} {c : Code} {b : Nat} {xs : Nat → Int32} (C0 : lw_At p s m meth c b 7 xs) {dC : Nat → ClassId} {dI : Nat → Nat → Nat} (hlt : l.stackTraces = false) (hth : th (fun q : Nat => s.heap.size ≤ q) s s.heap) (x : Nat) (xg : List Value) (chA : Nat) (chC : ClassId) (chF : Nat → Option Nat) (ch0 ch1 ch2 ch3 : Nat) (chg0 chg1 chg2 chg3 : List Value) (hchg0 : fx chg0 20 [(0, .int 0)]) (hchF0 : chF 0 = some ch0) (hchg1 : fx chg1 20 [(0, .int 0)]) (hchF1 : chF 1 = some ch1) (hchg2 : fx chg2 20 [(0, .int 0)]) (hchF2 : chF 2 = some ch2) (hchg3 : fx chg3 20 [(0, .int 0)]) (hchF3 : chF 3 = some ch3) (m0 : Nat) (mg : List Value) (mcA : Nat) (mcC : ClassId) (oA : Nat) (oC : ClassId) (oF : Nat → Int64) (hxg : fx xg 17 [(9, .ref chA)]) (hmg : fx mg 225 [(138, .ref mcA)]) (H : Heap) (locs : List Loc) (hK : va_K (dC, dI) CL [(chC, .object "ChipFlow$Chip"), (mcC, .boolean), (oC, .long)] s) (hP : va_P (dC, dI) CL [(x, .inr (12, xg)), (chA, .inl (chC, (4, .inr (.inr (.inr (.inr chF)))))), (ch0, .inr (2, chg0)), (ch1, .inr (2, chg1)), (ch2, .inr (2, chg2)), (ch3, .inr (2, chg3)), (m0, .inr (13, mg)), (mcA, .inl (mcC, (4, .inl (fun _ => 0)))), (oA, .inl (oC, (1, .inr (.inl oF))))] H) (hD : va_D (fun q : Nat => s.heap.size ≤ q) [(x, .inr (12, xg)), (chA, .inl (chC, (4, .inr (.inr (.inr (.inr chF)))))), (ch0, .inr (2, chg0)), (ch1, .inr (2, chg1)), (ch2, .inr (2, chg2)), (ch3, .inr (2, chg3)), (m0, .inr (13, mg)), (mcA, .inl (mcC, (4, .inl (fun _ => 0)))), (oA, .inl (oC, (1, .inr (.inl oF))))]) (hS : va_S (fun q : Nat => s.heap.size ≤ q) s.heap H locs) (ls : Array Slot) (hl : lv_has ls 7 [(0, .ref b), (1, .ref x), (2, .ref m0), (3, .ref oA), (4, .int 0)]) : W p l e room_1 s m #[Value.ref b] below meth c H locs 451 2709142 (lw_Z below #[Value.ref b] s) (F0 m 3723 ls []) := by
  obtain ⟨hx, hb, hr, hml, hown, hts0, hX, hbl, hlocks, hgv⟩ := id C0
  have hts : ∀ w ∈ BG, w.before _ s = true := fun w h => hts0 w (List.mem_filter.mp h).1
  have hown : s.vm.findClass RL = some m.cls := hown
  have hA : ∀ q : Nat, s.heap.size ≤ q → (fun q : Nat => s.heap.size ≤ q) q := fun _ h => h
  have hbA : ¬ (fun q : Nat => s.heap.size ≤ q) b := Nat.not_le.mpr hbl
  refine lv_aload_n hx hb dL_law_3723 rfl (lv_at hl 1 rfl) ?_
  refine lv_aload_n hx hb dL_law_3724 rfl (lv_at hl 0 rfl) ?_
  refine lv_iload hx hb dL_law_3725 (lv_at hl 4 rfl) ?_
  refine lv_iconst (v := 1) hx hb dL_law_3727 (by decide +kernel) ?_
  refine lv_iadd hx hb dL_law_3728 ?_
  refine va_sld hx hb hX hbl hbA hS vi_1 dL_law_3729 ?_
  refine lv_aload_n hx hb dL_law_3730 rfl (lv_at hl 3 rfl) ?_
  have hPc := hP.sub (ws' := [(x, .inr (12, xg)), (chA, .inl (chC, (4, .inr (.inr (.inr (.inr chF)))))), (ch0, .inr (2, chg0)), (ch1, .inr (2, chg1)), (ch2, .inr (2, chg2)), (ch3, .inr (2, chg3)), (oA, .inl (oC, (1, .inr (.inl oF))))]) [0, 1, 2, 3, 4, 5, 8] rfl
  have hDc := hD.sub (ws' := [(x, .inr (12, xg)), (chA, .inl (chC, (4, .inr (.inr (.inr (.inr chF)))))), (ch0, .inr (2, chg0)), (ch1, .inr (2, chg1)), (ch2, .inr (2, chg2)), (ch3, .inr (2, chg3)), (oA, .inl (oC, (1, .inr (.inl oF))))]) [0, 1, 2, 3, 4, 5, 8] (by decide) rfl
  have hKc := hK.sub (tys' := [(chC, .object "ChipFlow$Chip"), (oC, .long)]) [0, 2] rfl
  have hFc := va_free (wc := [(x, .inr (12, xg)), (chA, .inl (chC, (4, .inr (.inr (.inr (.inr chF)))))), (ch0, .inr (2, chg0)), (ch1, .inr (2, chg1)), (ch2, .inr (2, chg2)), (ch3, .inr (2, chg3)), (oA, .inl (oC, (1, .inr (.inl oF))))]) hD hS hA [0, 1, 2, 3, 4, 5, 8] rfl
  refine va_calli (vx_runSW (As := [.ref x, .int (xs ((0 : Int32) + 1).toNatClampNeg), .ref oA]) (rest := []) ⟨hx, hb, hml, hown, hts⟩ (ct_L_tests l hlt dC dI H.size (xs ((0 : Int32) + 1).toNatClampNeg) x xg chA chC chF ch0 ch1 ch2 ch3 chg0 chg1 chg2 chg3 hchg0 hchF0 hchg1 hchF1 hchg2 hchF2 hchg3 hchF3 oA oC oF hxg) (vx_cwSW 3 hts (gi_W wd_2946 wd_2947 wd_326 wd_2948) rfl rfl rfl (by decide +kernel) ⟨(Nat.le_of_ble_eq_true rfl), (Nat.le_of_ble_eq_true rfl)⟩) ⟨fun a U g mk q => by obtain ⟨q0, q1, qP, qK, qD, qT⟩ := q; exact ⟨q0, q1, qP, va_K.moved (u := U) (U := U.calling g mk a) (Vm.Alike.refl U.vm) qK, qD, th.moved (u := U) (U := U.calling g mk a) (Vm.Alike.refl U.vm) qT⟩, fun U hU hW => ⟨rfl, by rw [hU], by rw [hU]; exact hPc, va_K.moved hW.alike hKc, hDc.weaken (fun _ _ _ _ => trivial), by rw [hU]; exact ((hth.kept hS.2.1).narrow hFc).moved hW.alike⟩⟩ rfl rfl hl.1 rfl (lv_room (Nat.le_of_ble_eq_true rfl)) dL_law_3731 ⟨(Nat.le_of_ble_eq_true rfl), (Nat.le_of_ble_eq_true rfl)⟩) hS (fun q _ h => hFc q h) hFc (fun r u t H1 locs ht hvm hw hB hz1 hk1 hS => ?_)
  subst hw
  obtain ⟨hP1, -, hD1⟩ := hB
  rw [ht] at hP1
  obtain ⟨hP, hD⟩ := va_join (wr := [(m0, .inr (13, mg)), (mcA, .inl (mcC, (4, .inl (fun _ => 0))))]) (w1 := [(oA, .inl (oC, (1, .inr (.inl oF))))]) hP hD [0, 1, 2, 3, 4, 5, 8] [6, 7] rfl rfl (by decide) (by decide) hk1 hFc hP1 hD1
  have hP := hP.sub (ws' := [(m0, .inr (13, mg)), (mcA, .inl (mcC, (4, .inl (fun _ => 0))))]) [0, 1] rfl
  have hD := hD.sub (ws' := [(m0, .inr (13, mg)), (mcA, .inl (mcC, (4, .inl (fun _ => 0))))]) [0, 1] (by decide) rfl
  have hK := hK.sub (tys' := [(mcC, .boolean)]) [1] rfl
  generalize H1 = H at hP hS ⊢
  refine W.widen (k := 452) (n := 2709148) (Nat.le_of_ble_eq_true rfl) (Nat.le_of_ble_eq_true rfl) ?_
  refine lv_istore (lv' := [(5, .int 1), (0, .ref b), (1, .ref x), (2, .ref m0), (3, .ref oA), (4, .int 0)]) hx hb dL_law_3734 hl (by decide) rfl (fun ls hl => ?_)
  refine lv_aload_n hx hb dL_law_3736 rfl (lv_at hl 3 rfl) ?_
  refine lv_aload_n hx hb dL_law_3737 rfl (lv_at hl 1 rfl) ?_
  refine lv_iload hx hb dL_law_3738 (lv_at hl 5 rfl) ?_
  refine lv_iconst (v := 1) hx hb dL_law_3740 (by decide +kernel) ?_
  refine lv_iadd hx hb dL_law_3741 ?_
  refine va_sld hx hb hX hbl hbA hS vi_1 dL_law_3742 ?_
  have hFc := va_free (wc := [(m0, .inr (13, mg)), (mcA, .inl (mcC, (4, .inl (fun _ => 0))))]) hD hS hA [0, 1] rfl
  refine va_calli (va_runV (As := [.int (xs ((0 : Int32) + 1).toNatClampNeg)]) (rest := []) ⟨hx, hb, hml, hown, hts⟩ (ct_X13_tests l dC dI _ (xs ((0 : Int32) + 1).toNatClampNeg) m0 mg mcA mcC hmg) (cwV 1 hts (gi_V wd_4685 wd_4686 wd_4687 wd_340 wd_4688) rfl rfl rfl (by decide +kernel) ⟨(Nat.le_of_ble_eq_true rfl), (Nat.le_of_ble_eq_true rfl)⟩) ⟨fun a U g mk q => by obtain ⟨q0, q1, qP, qK, qD⟩ := q; exact ⟨q0, q1, qP, va_K.moved (u := U) (U := U.calling g mk a) (Vm.Alike.refl U.vm) qK, qD⟩, va_recv hK hP (ci := 13) (q0 := 0) rfl rfl, fun U hU hW => ⟨rfl, by rw [hU], by rw [hU]; exact hP, va_K.moved hW.alike hK, hD.weaken (fun _ _ _ _ => trivial)⟩⟩ rfl rfl hl.1 rfl (lv_room (Nat.le_of_ble_eq_true rfl)) dL_law_3743 ⟨(Nat.le_of_ble_eq_true rfl), (Nat.le_of_ble_eq_true rfl)⟩) hS (fun q _ h => hFc q h) hFc (fun r u t H1 locs ht hvm hw hB hz1 hk1 hS => ?_)
  subst hw
  obtain ⟨mg1, hmg1, hP1, hK1, hD1⟩ := hB
  rw [ht] at hP1
  have hK1 := va_K.moved hvm.symm hK1
  have hD1 := hD1.weaken (fun k q _ h => hFc q.1 h)
  generalize H1 = H at hP1 hS ⊢
  refine lv_istore (lv' := [(6, .int 0), (5, .int 1), (0, .ref b), (1, .ref x), (2, .ref m0), (3, .ref oA), (4, .int 0)]) hx hb dL_law_3746 hl (by decide) rfl (fun ls hl => ?_)
  refine lv_aload_n hx hb dL_law_3748 rfl (lv_at hl 4 rfl) ?_
  have hFc := va_free (wc := [(m0, .inr (13, mg1))]) hD1 hS hA [0] rfl
  refine va_calli (va_runV (As := []) (rest := []) ⟨hx, hb, hml, hown, hts⟩ (ct_X13_thrown l dC dI _ 1 m0 mg1 hmg1) (cwV 0 hts (gi_V wd_3015 wd_3016 wd_3017 wd_340 wd_3018) rfl rfl rfl (by decide +kernel) ⟨(Nat.le_of_ble_eq_true rfl), (Nat.le_of_ble_eq_true rfl)⟩) ⟨fun a U g mk q => by obtain ⟨q0, q1, qP, qK, qD⟩ := q; exact ⟨q0, q1, qP, va_K.moved (u := U) (U := U.calling g mk a) (Vm.Alike.refl U.vm) qK, qD⟩, va_recv hK1 hP1 (ci := 13) (q0 := 0) rfl rfl, fun U hU hW => ⟨rfl, by rw [hU], by rw [hU]; exact hP1, va_K.moved hW.alike hK1, hD1.weaken (fun _ _ _ _ => trivial)⟩⟩ rfl rfl hl.1 rfl (lv_room (Nat.le_of_ble_eq_true rfl)) dL_law_3749 ⟨(Nat.le_of_ble_eq_true rfl), (Nat.le_of_ble_eq_true rfl)⟩) hS (fun q _ h => hFc q h) hFc (fun r u t H1 locs ht hvm hw hB hz1 hk1 hS => ?_)
  subst hw
  refine lv_iload hx hb dL_law_3752 (lv_at hl 1 rfl) ?_
  refine lv_icmp_eq (tgt := 3759) hx hb dL_law_3754 (by decide) (fun c9 => ?_) (fun c9 => ?_)
  rotate_left
  · first | exact absurd c9 (by decide +kernel) | exact absurd (by decide +kernel) c9
  refine lv_iload hx hb dL_law_3759 (lv_at hl 1 rfl) ?_
  refine lv_if_ne (tgt := 3776) hx hb dL_law_3761 (by decide) (fun c9 => ?_) (fun c9 => ?_)
  rotate_left
  · first | exact absurd c9 (by decide +kernel) | exact absurd (by decide +kernel) c9
  refine lv_goto (tgt := 4099) hx hb dL_law_3776 (by decide) ?_
  refine W.widen (k := 470) (n := 2709300) (Nat.le_of_ble_eq_true rfl) (Nat.le_of_ble_eq_true rfl) ?_
  exact law_tail (v5 := 0) (v6 := 0) (lv := []) C0 hS (lv_sub hl [2, 6] rfl)
set_option maxHeartbeats 4000000 in
set_option maxRecDepth 100000 in
theorem law_pattern {p : Program} {l : Launch} {e : Env} {s : State} {m : MethodId} {below : List Frame} {meth : Method} {c : Code} {b : Nat} {xs : Nat → Int32} (C0 : lw_At p s m meth c b 7 xs) {dC : Nat → ClassId} {dI : Nat → Nat → Nat} (hlt : l.stackTraces = false) (hth : th (fun q : Nat => s.heap.size ≤ q) s s.heap) (x : Nat) (xg : List Value) (chA : Nat) (chC : ClassId) (chF : Nat → Option Nat) (ch0 ch1 ch2 ch3 : Nat) (chg0 chg1 chg2 chg3 : List Value) (hchg0 : fx chg0 20 [(0, .int 0)]) (hchF0 : chF 0 = some ch0) (hchg1 : fx chg1 20 [(0, .int 0)]) (hchF1 : chF 1 = some ch1) (hchg2 : fx chg2 20 [(0, .int 0)]) (hchF2 : chF 2 = some ch2) (hchg3 : fx chg3 20 [(0, .int 0)]) (hchF3 : chF 3 = some ch3) (m0 : Nat) (mg : List Value) (mcA : Nat) (mcC : ClassId) (oA : Nat) (oC : ClassId) (oF : Nat → Int64) (hxg : fx xg 17 [(9, .ref chA)]) (hmg : fx mg 225 [(138, .ref mcA)]) (H : Heap) (locs : List Loc) (hK : va_K (dC, dI) CL [(chC, .object "ChipFlow$Chip"), (mcC, .boolean), (oC, .long)] s) (hP : va_P (dC, dI) CL [(x, .inr (12, xg)), (chA, .inl (chC, (4, .inr (.inr (.inr (.inr chF)))))), (ch0, .inr (2, chg0)), (ch1, .inr (2, chg1)), (ch2, .inr (2, chg2)), (ch3, .inr (2, chg3)), (m0, .inr (13, mg)), (mcA, .inl (mcC, (4, .inl (fun _ => 0)))), (oA, .inl (oC, (1, .inr (.inl oF))))] H) (hD : va_D (fun q : Nat => s.heap.size ≤ q) [(x, .inr (12, xg)), (chA, .inl (chC, (4, .inr (.inr (.inr (.inr chF)))))), (ch0, .inr (2, chg0)), (ch1, .inr (2, chg1)), (ch2, .inr (2, chg2)), (ch3, .inr (2, chg3)), (m0, .inr (13, mg)), (mcA, .inl (mcC, (4, .inl (fun _ => 0)))), (oA, .inl (oC, (1, .inr (.inl oF))))]) (hS : va_S (fun q : Nat => s.heap.size ≤ q) s.heap H locs) (ls : Array Slot) (hl : lv_has ls 7 [(0, .ref b), (1, .ref x), (2, .ref m0), (3, .ref oA), (4, .int 0)]) : W p l e room_1 s m #[Value.ref b] below meth c H locs 451 2709142 (lw_Z below #[Value.ref b] s) (F0 m 3779 ls []) := by
  obtain ⟨hx, hb, hr, hml, hown, hts0, hX, hbl, hlocks, hgv⟩ := id C0
  have hts : ∀ w ∈ BG, w.before _ s = true := fun w h => hts0 w (List.mem_filter.mp h).1
  have hown : s.vm.findClass RL = some m.cls := hown
  have hA : ∀ q : Nat, s.heap.size ≤ q → (fun q : Nat => s.heap.size ≤ q) q := fun _ h => h
  have hbA : ¬ (fun q : Nat => s.heap.size ≤ q) b := Nat.not_le.mpr hbl
  refine lv_aload_n hx hb dL_law_3779 rfl (lv_at hl 1 rfl) ?_
  refine lv_aload_n hx hb dL_law_3780 rfl (lv_at hl 0 rfl) ?_
  refine lv_iload hx hb dL_law_3781 (lv_at hl 4 rfl) ?_
  refine lv_iconst (v := 1) hx hb dL_law_3783 (by decide +kernel) ?_
  refine lv_iadd hx hb dL_law_3784 ?_
  refine va_sld hx hb hX hbl hbA hS vi_1 dL_law_3785 ?_
  refine lv_aload_n hx hb dL_law_3786 rfl (lv_at hl 0 rfl) ?_
  refine lv_iload hx hb dL_law_3787 (lv_at hl 4 rfl) ?_
  refine lv_iconst (v := 2) hx hb dL_law_3789 (by decide +kernel) ?_
  refine lv_iadd hx hb dL_law_3790 ?_
  refine va_sld hx hb hX hbl hbA hS vi_2 dL_law_3791 ?_
  refine lv_aload_n hx hb dL_law_3792 rfl (lv_at hl 3 rfl) ?_
  have hPc := hP.sub (ws' := [(x, .inr (12, xg)), (chA, .inl (chC, (4, .inr (.inr (.inr (.inr chF)))))), (ch0, .inr (2, chg0)), (ch1, .inr (2, chg1)), (ch2, .inr (2, chg2)), (ch3, .inr (2, chg3)), (oA, .inl (oC, (1, .inr (.inl oF))))]) [0, 1, 2, 3, 4, 5, 8] rfl
  have hDc := hD.sub (ws' := [(x, .inr (12, xg)), (chA, .inl (chC, (4, .inr (.inr (.inr (.inr chF)))))), (ch0, .inr (2, chg0)), (ch1, .inr (2, chg1)), (ch2, .inr (2, chg2)), (ch3, .inr (2, chg3)), (oA, .inl (oC, (1, .inr (.inl oF))))]) [0, 1, 2, 3, 4, 5, 8] (by decide) rfl
  have hKc := hK.sub (tys' := [(chC, .object "ChipFlow$Chip"), (oC, .long)]) [0, 2] rfl
  have hFc := va_free (wc := [(x, .inr (12, xg)), (chA, .inl (chC, (4, .inr (.inr (.inr (.inr chF)))))), (ch0, .inr (2, chg0)), (ch1, .inr (2, chg1)), (ch2, .inr (2, chg2)), (ch3, .inr (2, chg3)), (oA, .inl (oC, (1, .inr (.inl oF))))]) hD hS hA [0, 1, 2, 3, 4, 5, 8] rfl
  refine va_calli (vx_runSW (As := [.ref x, .int (xs ((0 : Int32) + 1).toNatClampNeg), .int (xs ((0 : Int32) + 2).toNatClampNeg), .ref oA]) (rest := []) ⟨hx, hb, hml, hown, hts⟩ (ct_L_pattern l hlt dC dI H.size (xs ((0 : Int32) + 1).toNatClampNeg) (xs ((0 : Int32) + 2).toNatClampNeg) x xg chA chC chF ch0 ch1 ch2 ch3 chg0 chg1 chg2 chg3 hchg0 hchF0 hchg1 hchF1 hchg2 hchF2 hchg3 hchF3 oA oC oF hxg) (vx_cwSW 4 hts (gi_W wd_2972 wd_2973 wd_326 wd_2974) rfl rfl rfl (by decide +kernel) ⟨(Nat.le_of_ble_eq_true rfl), (Nat.le_of_ble_eq_true rfl)⟩) ⟨fun a U g mk q => by obtain ⟨q0, q1, qP, qK, qD, qT⟩ := q; exact ⟨q0, q1, qP, va_K.moved (u := U) (U := U.calling g mk a) (Vm.Alike.refl U.vm) qK, qD, th.moved (u := U) (U := U.calling g mk a) (Vm.Alike.refl U.vm) qT⟩, fun U hU hW => ⟨rfl, by rw [hU], by rw [hU]; exact hPc, va_K.moved hW.alike hKc, hDc.weaken (fun _ _ _ _ => trivial), by rw [hU]; exact ((hth.kept hS.2.1).narrow hFc).moved hW.alike⟩⟩ rfl rfl hl.1 rfl (lv_room (Nat.le_of_ble_eq_true rfl)) dL_law_3793 ⟨(Nat.le_of_ble_eq_true rfl), (Nat.le_of_ble_eq_true rfl)⟩) hS (fun q _ h => hFc q h) hFc (fun r u t H1 locs ht hvm hw hB hz1 hk1 hS => ?_)
  subst hw
  obtain ⟨hP1, -, hD1⟩ := hB
  rw [ht] at hP1
  obtain ⟨hP, hD⟩ := va_join (wr := [(m0, .inr (13, mg)), (mcA, .inl (mcC, (4, .inl (fun _ => 0))))]) (w1 := [(oA, .inl (oC, (1, .inr (.inl oF))))]) hP hD [0, 1, 2, 3, 4, 5, 8] [6, 7] rfl rfl (by decide) (by decide) hk1 hFc hP1 hD1
  have hP := hP.sub (ws' := [(m0, .inr (13, mg)), (mcA, .inl (mcC, (4, .inl (fun _ => 0))))]) [0, 1] rfl
  have hD := hD.sub (ws' := [(m0, .inr (13, mg)), (mcA, .inl (mcC, (4, .inl (fun _ => 0))))]) [0, 1] (by decide) rfl
  have hK := hK.sub (tys' := [(mcC, .boolean)]) [1] rfl
  generalize H1 = H at hP hS ⊢
  refine W.widen (k := 452) (n := 2709148) (Nat.le_of_ble_eq_true rfl) (Nat.le_of_ble_eq_true rfl) ?_
  refine lv_istore (lv' := [(5, .int 1), (0, .ref b), (1, .ref x), (2, .ref m0), (3, .ref oA), (4, .int 0)]) hx hb dL_law_3796 hl (by decide) rfl (fun ls hl => ?_)
  refine lv_aload_n hx hb dL_law_3798 rfl (lv_at hl 3 rfl) ?_
  refine lv_aload_n hx hb dL_law_3799 rfl (lv_at hl 1 rfl) ?_
  refine lv_iload hx hb dL_law_3800 (lv_at hl 5 rfl) ?_
  refine lv_iconst (v := 1) hx hb dL_law_3802 (by decide +kernel) ?_
  refine lv_iadd hx hb dL_law_3803 ?_
  refine va_sld hx hb hX hbl hbA hS vi_1 dL_law_3804 ?_
  refine lv_aload_n hx hb dL_law_3805 rfl (lv_at hl 1 rfl) ?_
  refine lv_iload hx hb dL_law_3806 (lv_at hl 5 rfl) ?_
  refine lv_iconst (v := 2) hx hb dL_law_3808 (by decide +kernel) ?_
  refine lv_iadd hx hb dL_law_3809 ?_
  refine va_sld hx hb hX hbl hbA hS vi_2 dL_law_3810 ?_
  have hFc := va_free (wc := [(m0, .inr (13, mg)), (mcA, .inl (mcC, (4, .inl (fun _ => 0))))]) hD hS hA [0, 1] rfl
  refine va_calli (va_runV (As := [.int (xs ((0 : Int32) + 1).toNatClampNeg), .int (xs ((0 : Int32) + 2).toNatClampNeg)]) (rest := []) ⟨hx, hb, hml, hown, hts⟩ (ct_X13_pattern l dC dI _ (xs ((0 : Int32) + 1).toNatClampNeg) (xs ((0 : Int32) + 2).toNatClampNeg) m0 mg mcA mcC hmg) (cwV 2 hts (gi_V wd_4705 wd_4706 wd_4707 wd_340 wd_4708) rfl rfl rfl (by decide +kernel) ⟨(Nat.le_of_ble_eq_true rfl), (Nat.le_of_ble_eq_true rfl)⟩) ⟨fun a U g mk q => by obtain ⟨q0, q1, qP, qK, qD⟩ := q; exact ⟨q0, q1, qP, va_K.moved (u := U) (U := U.calling g mk a) (Vm.Alike.refl U.vm) qK, qD⟩, va_recv hK hP (ci := 13) (q0 := 0) rfl rfl, fun U hU hW => ⟨rfl, by rw [hU], by rw [hU]; exact hP, va_K.moved hW.alike hK, hD.weaken (fun _ _ _ _ => trivial)⟩⟩ rfl rfl hl.1 rfl (lv_room (Nat.le_of_ble_eq_true rfl)) dL_law_3811 ⟨(Nat.le_of_ble_eq_true rfl), (Nat.le_of_ble_eq_true rfl)⟩) hS (fun q _ h => hFc q h) hFc (fun r u t H1 locs ht hvm hw hB hz1 hk1 hS => ?_)
  subst hw
  obtain ⟨mg1, hmg1, hP1, hK1, hD1⟩ := hB
  rw [ht] at hP1
  have hK1 := va_K.moved hvm.symm hK1
  have hD1 := hD1.weaken (fun k q _ h => hFc q.1 h)
  generalize H1 = H at hP1 hS ⊢
  refine lv_istore (lv' := [(6, .int 0), (5, .int 1), (0, .ref b), (1, .ref x), (2, .ref m0), (3, .ref oA), (4, .int 0)]) hx hb dL_law_3814 hl (by decide) rfl (fun ls hl => ?_)
  refine lv_aload_n hx hb dL_law_3816 rfl (lv_at hl 4 rfl) ?_
  have hFc := va_free (wc := [(m0, .inr (13, mg1))]) hD1 hS hA [0] rfl
  refine va_calli (va_runV (As := []) (rest := []) ⟨hx, hb, hml, hown, hts⟩ (ct_X13_thrown l dC dI _ 1 m0 mg1 hmg1) (cwV 0 hts (gi_V wd_3015 wd_3016 wd_3017 wd_340 wd_3018) rfl rfl rfl (by decide +kernel) ⟨(Nat.le_of_ble_eq_true rfl), (Nat.le_of_ble_eq_true rfl)⟩) ⟨fun a U g mk q => by obtain ⟨q0, q1, qP, qK, qD⟩ := q; exact ⟨q0, q1, qP, va_K.moved (u := U) (U := U.calling g mk a) (Vm.Alike.refl U.vm) qK, qD⟩, va_recv hK1 hP1 (ci := 13) (q0 := 0) rfl rfl, fun U hU hW => ⟨rfl, by rw [hU], by rw [hU]; exact hP1, va_K.moved hW.alike hK1, hD1.weaken (fun _ _ _ _ => trivial)⟩⟩ rfl rfl hl.1 rfl (lv_room (Nat.le_of_ble_eq_true rfl)) dL_law_3817 ⟨(Nat.le_of_ble_eq_true rfl), (Nat.le_of_ble_eq_true rfl)⟩) hS (fun q _ h => hFc q h) hFc (fun r u t H1 locs ht hvm hw hB hz1 hk1 hS => ?_)
  subst hw
  refine lv_iload hx hb dL_law_3820 (lv_at hl 1 rfl) ?_
  refine lv_icmp_eq (tgt := 3827) hx hb dL_law_3822 (by decide) (fun c9 => ?_) (fun c9 => ?_)
  rotate_left
  · first | exact absurd c9 (by decide +kernel) | exact absurd (by decide +kernel) c9
  refine lv_iload hx hb dL_law_3827 (lv_at hl 1 rfl) ?_
  refine lv_if_ne (tgt := 3844) hx hb dL_law_3829 (by decide) (fun c9 => ?_) (fun c9 => ?_)
  rotate_left
  · first | exact absurd c9 (by decide +kernel) | exact absurd (by decide +kernel) c9
  refine lv_goto (tgt := 4099) hx hb dL_law_3844 (by decide) ?_
  refine W.widen (k := 470) (n := 2709300) (Nat.le_of_ble_eq_true rfl) (Nat.le_of_ble_eq_true rfl) ?_
  exact law_tail (v5 := 0) (v6 := 0) (lv := []) C0 hS (lv_sub hl [2, 6] rfl)
set_option maxHeartbeats 4000000 in
set_option maxRecDepth 100000 in
theorem law_fails {p : Program} {l : Launch} {e : Env} {s : State} {m : MethodId} {below : List Frame} {meth : Method} {c : Code} {b : Nat} {xs : Nat → Int32} (C0 : lw_At p s m meth c b 7 xs) {dC : Nat → ClassId} {dI : Nat → Nat → Nat} (hlt : l.stackTraces = false) (hth : th (fun q : Nat => s.heap.size ≤ q) s s.heap) (x : Nat) (xg : List Value) (chA : Nat) (chC : ClassId) (chF : Nat → Option Nat) (ch0 ch1 ch2 ch3 : Nat) (chg0 chg1 chg2 chg3 : List Value) (hchg0 : fx chg0 20 [(0, .int 0)]) (hchF0 : chF 0 = some ch0) (hchg1 : fx chg1 20 [(0, .int 0)]) (hchF1 : chF 1 = some ch1) (hchg2 : fx chg2 20 [(0, .int 0)]) (hchF2 : chF 2 = some ch2) (hchg3 : fx chg3 20 [(0, .int 0)]) (hchF3 : chF 3 = some ch3) (m0 : Nat) (mg : List Value) (mcA : Nat) (mcC : ClassId) (oA : Nat) (oC : ClassId) (oF : Nat → Int64) (hxg : fx xg 17 [(9, .ref chA)]) (hmg : fx mg 225 [(138, .ref mcA)]) (H : Heap) (locs : List Loc) (hK : va_K (dC, dI) CL [(chC, .object "ChipFlow$Chip"), (mcC, .boolean), (oC, .long)] s) (hP : va_P (dC, dI) CL [(x, .inr (12, xg)), (chA, .inl (chC, (4, .inr (.inr (.inr (.inr chF)))))), (ch0, .inr (2, chg0)), (ch1, .inr (2, chg1)), (ch2, .inr (2, chg2)), (ch3, .inr (2, chg3)), (m0, .inr (13, mg)), (mcA, .inl (mcC, (4, .inl (fun _ => 0)))), (oA, .inl (oC, (1, .inr (.inl oF))))] H) (hD : va_D (fun q : Nat => s.heap.size ≤ q) [(x, .inr (12, xg)), (chA, .inl (chC, (4, .inr (.inr (.inr (.inr chF)))))), (ch0, .inr (2, chg0)), (ch1, .inr (2, chg1)), (ch2, .inr (2, chg2)), (ch3, .inr (2, chg3)), (m0, .inr (13, mg)), (mcA, .inl (mcC, (4, .inl (fun _ => 0)))), (oA, .inl (oC, (1, .inr (.inl oF))))]) (hS : va_S (fun q : Nat => s.heap.size ≤ q) s.heap H locs) (ls : Array Slot) (hl : lv_has ls 7 [(0, .ref b), (1, .ref x), (2, .ref m0), (3, .ref oA), (4, .int 0)]) : W p l e room_1 s m #[Value.ref b] below meth c H locs 451 2709142 (lw_Z below #[Value.ref b] s) (F0 m 3847 ls []) := by
  obtain ⟨hx, hb, hr, hml, hown, hts0, hX, hbl, hlocks, hgv⟩ := id C0
  have hts : ∀ w ∈ BG, w.before _ s = true := fun w h => hts0 w (List.mem_filter.mp h).1
  have hown : s.vm.findClass RL = some m.cls := hown
  have hA : ∀ q : Nat, s.heap.size ≤ q → (fun q : Nat => s.heap.size ≤ q) q := fun _ h => h
  have hbA : ¬ (fun q : Nat => s.heap.size ≤ q) b := Nat.not_le.mpr hbl
  refine lv_aload_n hx hb dL_law_3847 rfl (lv_at hl 1 rfl) ?_
  refine lv_aload_n hx hb dL_law_3848 rfl (lv_at hl 0 rfl) ?_
  refine lv_iload hx hb dL_law_3849 (lv_at hl 4 rfl) ?_
  refine lv_iconst (v := 1) hx hb dL_law_3851 (by decide +kernel) ?_
  refine lv_iadd hx hb dL_law_3852 ?_
  refine va_sld hx hb hX hbl hbA hS vi_1 dL_law_3853 ?_
  refine lv_aload_n hx hb dL_law_3854 rfl (lv_at hl 0 rfl) ?_
  refine lv_iload hx hb dL_law_3855 (lv_at hl 4 rfl) ?_
  refine lv_iconst (v := 2) hx hb dL_law_3857 (by decide +kernel) ?_
  refine lv_iadd hx hb dL_law_3858 ?_
  refine va_sld hx hb hX hbl hbA hS vi_2 dL_law_3859 ?_
  refine lv_aload_n hx hb dL_law_3860 rfl (lv_at hl 0 rfl) ?_
  refine lv_iload hx hb dL_law_3861 (lv_at hl 4 rfl) ?_
  refine lv_iconst (v := 3) hx hb dL_law_3863 (by decide +kernel) ?_
  refine lv_iadd hx hb dL_law_3864 ?_
  refine va_sld hx hb hX hbl hbA hS vi_3 dL_law_3865 ?_
  refine lv_if_eq (tgt := 3873) hx hb dL_law_3866 (by decide) (fun c9 => ?_) (fun c9 => ?_)
  · refine lv_iconst (v := 0) hx hb dL_law_3873 (by decide +kernel) ?_
    refine lv_aload_n hx hb dL_law_3874 rfl (lv_at hl 3 rfl) ?_
    have hPc := hP.sub (ws' := [(x, .inr (12, xg)), (chA, .inl (chC, (4, .inr (.inr (.inr (.inr chF)))))), (ch0, .inr (2, chg0)), (ch1, .inr (2, chg1)), (ch2, .inr (2, chg2)), (ch3, .inr (2, chg3)), (oA, .inl (oC, (1, .inr (.inl oF))))]) [0, 1, 2, 3, 4, 5, 8] rfl
    have hDc := hD.sub (ws' := [(x, .inr (12, xg)), (chA, .inl (chC, (4, .inr (.inr (.inr (.inr chF)))))), (ch0, .inr (2, chg0)), (ch1, .inr (2, chg1)), (ch2, .inr (2, chg2)), (ch3, .inr (2, chg3)), (oA, .inl (oC, (1, .inr (.inl oF))))]) [0, 1, 2, 3, 4, 5, 8] (by decide) rfl
    have hKc := hK.sub (tys' := [(chC, .object "ChipFlow$Chip"), (oC, .long)]) [0, 2] rfl
    have hFc := va_free (wc := [(x, .inr (12, xg)), (chA, .inl (chC, (4, .inr (.inr (.inr (.inr chF)))))), (ch0, .inr (2, chg0)), (ch1, .inr (2, chg1)), (ch2, .inr (2, chg2)), (ch3, .inr (2, chg3)), (oA, .inl (oC, (1, .inr (.inl oF))))]) hD hS hA [0, 1, 2, 3, 4, 5, 8] rfl
    refine va_calli (vx_runSW (As := [.ref x, .int (xs ((0 : Int32) + 1).toNatClampNeg), .int (xs ((0 : Int32) + 2).toNatClampNeg), .int 0, .ref oA]) (rest := []) ⟨hx, hb, hml, hown, hts⟩ (ct_L_fails l hlt dC dI H.size (xs ((0 : Int32) + 1).toNatClampNeg) (xs ((0 : Int32) + 2).toNatClampNeg) 0 x xg chA chC chF ch0 ch1 ch2 ch3 chg0 chg1 chg2 chg3 hchg0 hchF0 hchg1 hchF1 hchg2 hchF2 hchg3 hchF3 oA oC oF hxg) (vx_cwSW 5 hts (gi_W wd_2982 wd_2983 wd_326 wd_2984) rfl rfl rfl (by decide +kernel) ⟨(Nat.le_of_ble_eq_true rfl), (Nat.le_of_ble_eq_true rfl)⟩) ⟨fun a U g mk q => by obtain ⟨q0, q1, qP, qK, qD, qT⟩ := q; exact ⟨q0, q1, qP, va_K.moved (u := U) (U := U.calling g mk a) (Vm.Alike.refl U.vm) qK, qD, th.moved (u := U) (U := U.calling g mk a) (Vm.Alike.refl U.vm) qT⟩, fun U hU hW => ⟨rfl, by rw [hU], by rw [hU]; exact hPc, va_K.moved hW.alike hKc, hDc.weaken (fun _ _ _ _ => trivial), by rw [hU]; exact ((hth.kept hS.2.1).narrow hFc).moved hW.alike⟩⟩ rfl rfl hl.1 rfl (lv_room (Nat.le_of_ble_eq_true rfl)) dL_law_3875 ⟨(Nat.le_of_ble_eq_true rfl), (Nat.le_of_ble_eq_true rfl)⟩) hS (fun q _ h => hFc q h) hFc (fun r u t H1 locs ht hvm hw hB hz1 hk1 hS => ?_)
    subst hw
    obtain ⟨hP1, -, hD1⟩ := hB
    rw [ht] at hP1
    obtain ⟨hP, hD⟩ := va_join (wr := [(m0, .inr (13, mg)), (mcA, .inl (mcC, (4, .inl (fun _ => 0))))]) (w1 := [(oA, .inl (oC, (1, .inr (.inl oF))))]) hP hD [0, 1, 2, 3, 4, 5, 8] [6, 7] rfl rfl (by decide) (by decide) hk1 hFc hP1 hD1
    have hP := hP.sub (ws' := [(m0, .inr (13, mg)), (mcA, .inl (mcC, (4, .inl (fun _ => 0))))]) [0, 1] rfl
    have hD := hD.sub (ws' := [(m0, .inr (13, mg)), (mcA, .inl (mcC, (4, .inl (fun _ => 0))))]) [0, 1] (by decide) rfl
    have hK := hK.sub (tys' := [(mcC, .boolean)]) [1] rfl
    generalize H1 = H at hP hS ⊢
    refine W.widen (k := 452) (n := 2709148) (Nat.le_of_ble_eq_true rfl) (Nat.le_of_ble_eq_true rfl) ?_
    refine lv_istore (lv' := [(5, .int 1), (0, .ref b), (1, .ref x), (2, .ref m0), (3, .ref oA), (4, .int 0)]) hx hb dL_law_3878 hl (by decide) rfl (fun ls hl => ?_)
    refine lv_aload_n hx hb dL_law_3880 rfl (lv_at hl 3 rfl) ?_
    refine lv_aload_n hx hb dL_law_3881 rfl (lv_at hl 1 rfl) ?_
    refine lv_iload hx hb dL_law_3882 (lv_at hl 5 rfl) ?_
    refine lv_iconst (v := 1) hx hb dL_law_3884 (by decide +kernel) ?_
    refine lv_iadd hx hb dL_law_3885 ?_
    refine va_sld hx hb hX hbl hbA hS vi_1 dL_law_3886 ?_
    refine lv_aload_n hx hb dL_law_3887 rfl (lv_at hl 1 rfl) ?_
    refine lv_iload hx hb dL_law_3888 (lv_at hl 5 rfl) ?_
    refine lv_iconst (v := 2) hx hb dL_law_3890 (by decide +kernel) ?_
    refine lv_iadd hx hb dL_law_3891 ?_
    refine va_sld hx hb hX hbl hbA hS vi_2 dL_law_3892 ?_
    refine lv_aload_n hx hb dL_law_3893 rfl (lv_at hl 1 rfl) ?_
    refine lv_iload hx hb dL_law_3894 (lv_at hl 5 rfl) ?_
    refine lv_iconst (v := 3) hx hb dL_law_3896 (by decide +kernel) ?_
    refine lv_iadd hx hb dL_law_3897 ?_
    refine va_sld hx hb hX hbl hbA hS vi_3 dL_law_3898 ?_
    refine lv_if_eq (tgt := 3906) hx hb dL_law_3899 (by decide) (fun c9 => ?_) (fun c9 => ?_)
    · refine lv_iconst (v := 0) hx hb dL_law_3906 (by decide +kernel) ?_
      have hFc := va_free (wc := [(m0, .inr (13, mg)), (mcA, .inl (mcC, (4, .inl (fun _ => 0))))]) hD hS hA [0, 1] rfl
      refine va_calli (va_runV (As := [.int (xs ((0 : Int32) + 1).toNatClampNeg), .int (xs ((0 : Int32) + 2).toNatClampNeg), .int 0]) (rest := []) ⟨hx, hb, hml, hown, hts⟩ (ct_X13_fails l dC dI _ (xs ((0 : Int32) + 1).toNatClampNeg) (xs ((0 : Int32) + 2).toNatClampNeg) 0 m0 mg mcA mcC hmg) (cwV 3 hts (gi_V wd_4713 wd_4714 wd_4715 wd_340 wd_4716) rfl rfl rfl (by decide +kernel) ⟨(Nat.le_of_ble_eq_true rfl), (Nat.le_of_ble_eq_true rfl)⟩) ⟨fun a U g mk q => by obtain ⟨q0, q1, qP, qK, qD⟩ := q; exact ⟨q0, q1, qP, va_K.moved (u := U) (U := U.calling g mk a) (Vm.Alike.refl U.vm) qK, qD⟩, va_recv hK hP (ci := 13) (q0 := 0) rfl rfl, fun U hU hW => ⟨rfl, by rw [hU], by rw [hU]; exact hP, va_K.moved hW.alike hK, hD.weaken (fun _ _ _ _ => trivial)⟩⟩ rfl rfl hl.1 rfl (lv_room (Nat.le_of_ble_eq_true rfl)) dL_law_3907 ⟨(Nat.le_of_ble_eq_true rfl), (Nat.le_of_ble_eq_true rfl)⟩) hS (fun q _ h => hFc q h) hFc (fun r u t H1 locs ht hvm hw hB hz1 hk1 hS => ?_)
      subst hw
      obtain ⟨mg1, hmg1, hP1, hK1, hD1⟩ := hB
      rw [ht] at hP1
      have hK1 := va_K.moved hvm.symm hK1
      have hD1 := hD1.weaken (fun k q _ h => hFc q.1 h)
      generalize H1 = H at hP1 hS ⊢
      refine lv_istore (lv' := [(6, .int 0), (5, .int 1), (0, .ref b), (1, .ref x), (2, .ref m0), (3, .ref oA), (4, .int 0)]) hx hb dL_law_3910 hl (by decide) rfl (fun ls hl => ?_)
      refine lv_aload_n hx hb dL_law_3912 rfl (lv_at hl 4 rfl) ?_
      have hFc := va_free (wc := [(m0, .inr (13, mg1))]) hD1 hS hA [0] rfl
      refine va_calli (va_runV (As := []) (rest := []) ⟨hx, hb, hml, hown, hts⟩ (ct_X13_thrown l dC dI _ 1 m0 mg1 hmg1) (cwV 0 hts (gi_V wd_3015 wd_3016 wd_3017 wd_340 wd_3018) rfl rfl rfl (by decide +kernel) ⟨(Nat.le_of_ble_eq_true rfl), (Nat.le_of_ble_eq_true rfl)⟩) ⟨fun a U g mk q => by obtain ⟨q0, q1, qP, qK, qD⟩ := q; exact ⟨q0, q1, qP, va_K.moved (u := U) (U := U.calling g mk a) (Vm.Alike.refl U.vm) qK, qD⟩, va_recv hK1 hP1 (ci := 13) (q0 := 0) rfl rfl, fun U hU hW => ⟨rfl, by rw [hU], by rw [hU]; exact hP1, va_K.moved hW.alike hK1, hD1.weaken (fun _ _ _ _ => trivial)⟩⟩ rfl rfl hl.1 rfl (lv_room (Nat.le_of_ble_eq_true rfl)) dL_law_3913 ⟨(Nat.le_of_ble_eq_true rfl), (Nat.le_of_ble_eq_true rfl)⟩) hS (fun q _ h => hFc q h) hFc (fun r u t H1 locs ht hvm hw hB hz1 hk1 hS => ?_)
      subst hw
      refine lv_iload hx hb dL_law_3916 (lv_at hl 1 rfl) ?_
      refine lv_icmp_eq (tgt := 3923) hx hb dL_law_3918 (by decide) (fun c9 => ?_) (fun c9 => ?_)
      rotate_left
      · first | exact absurd c9 (by decide +kernel) | exact absurd (by decide +kernel) c9
      refine lv_iload hx hb dL_law_3923 (lv_at hl 1 rfl) ?_
      refine lv_if_ne (tgt := 3947) hx hb dL_law_3925 (by decide) (fun c9 => ?_) (fun c9 => ?_)
      rotate_left
      · first | exact absurd c9 (by decide +kernel) | exact absurd (by decide +kernel) c9
      refine lv_goto (tgt := 4099) hx hb dL_law_3947 (by decide) ?_
      refine W.widen (k := 470) (n := 2709300) (Nat.le_of_ble_eq_true rfl) (Nat.le_of_ble_eq_true rfl) ?_
      exact law_tail (v5 := 0) (v6 := 0) (lv := []) C0 hS (lv_sub hl [2, 6] rfl)
    · refine lv_iconst (v := 1) hx hb dL_law_3902 (by decide +kernel) ?_
      refine lv_goto (tgt := 3907) hx hb dL_law_3903 (by decide) ?_
      have hFc := va_free (wc := [(m0, .inr (13, mg)), (mcA, .inl (mcC, (4, .inl (fun _ => 0))))]) hD hS hA [0, 1] rfl
      refine va_calli (va_runV (As := [.int (xs ((0 : Int32) + 1).toNatClampNeg), .int (xs ((0 : Int32) + 2).toNatClampNeg), .int 1]) (rest := []) ⟨hx, hb, hml, hown, hts⟩ (ct_X13_fails l dC dI _ (xs ((0 : Int32) + 1).toNatClampNeg) (xs ((0 : Int32) + 2).toNatClampNeg) 1 m0 mg mcA mcC hmg) (cwV 3 hts (gi_V wd_4713 wd_4714 wd_4715 wd_340 wd_4716) rfl rfl rfl (by decide +kernel) ⟨(Nat.le_of_ble_eq_true rfl), (Nat.le_of_ble_eq_true rfl)⟩) ⟨fun a U g mk q => by obtain ⟨q0, q1, qP, qK, qD⟩ := q; exact ⟨q0, q1, qP, va_K.moved (u := U) (U := U.calling g mk a) (Vm.Alike.refl U.vm) qK, qD⟩, va_recv hK hP (ci := 13) (q0 := 0) rfl rfl, fun U hU hW => ⟨rfl, by rw [hU], by rw [hU]; exact hP, va_K.moved hW.alike hK, hD.weaken (fun _ _ _ _ => trivial)⟩⟩ rfl rfl hl.1 rfl (lv_room (Nat.le_of_ble_eq_true rfl)) dL_law_3907 ⟨(Nat.le_of_ble_eq_true rfl), (Nat.le_of_ble_eq_true rfl)⟩) hS (fun q _ h => hFc q h) hFc (fun r u t H1 locs ht hvm hw hB hz1 hk1 hS => ?_)
      subst hw
      obtain ⟨mg1, hmg1, hP1, hK1, hD1⟩ := hB
      rw [ht] at hP1
      have hK1 := va_K.moved hvm.symm hK1
      have hD1 := hD1.weaken (fun k q _ h => hFc q.1 h)
      generalize H1 = H at hP1 hS ⊢
      refine lv_istore (lv' := [(6, .int 0), (5, .int 1), (0, .ref b), (1, .ref x), (2, .ref m0), (3, .ref oA), (4, .int 0)]) hx hb dL_law_3910 hl (by decide) rfl (fun ls hl => ?_)
      refine lv_aload_n hx hb dL_law_3912 rfl (lv_at hl 4 rfl) ?_
      have hFc := va_free (wc := [(m0, .inr (13, mg1))]) hD1 hS hA [0] rfl
      refine va_calli (va_runV (As := []) (rest := []) ⟨hx, hb, hml, hown, hts⟩ (ct_X13_thrown l dC dI _ 1 m0 mg1 hmg1) (cwV 0 hts (gi_V wd_3015 wd_3016 wd_3017 wd_340 wd_3018) rfl rfl rfl (by decide +kernel) ⟨(Nat.le_of_ble_eq_true rfl), (Nat.le_of_ble_eq_true rfl)⟩) ⟨fun a U g mk q => by obtain ⟨q0, q1, qP, qK, qD⟩ := q; exact ⟨q0, q1, qP, va_K.moved (u := U) (U := U.calling g mk a) (Vm.Alike.refl U.vm) qK, qD⟩, va_recv hK1 hP1 (ci := 13) (q0 := 0) rfl rfl, fun U hU hW => ⟨rfl, by rw [hU], by rw [hU]; exact hP1, va_K.moved hW.alike hK1, hD1.weaken (fun _ _ _ _ => trivial)⟩⟩ rfl rfl hl.1 rfl (lv_room (Nat.le_of_ble_eq_true rfl)) dL_law_3913 ⟨(Nat.le_of_ble_eq_true rfl), (Nat.le_of_ble_eq_true rfl)⟩) hS (fun q _ h => hFc q h) hFc (fun r u t H1 locs ht hvm hw hB hz1 hk1 hS => ?_)
      subst hw
      refine lv_iload hx hb dL_law_3916 (lv_at hl 1 rfl) ?_
      refine lv_icmp_eq (tgt := 3923) hx hb dL_law_3918 (by decide) (fun c9 => ?_) (fun c9 => ?_)
      rotate_left
      · first | exact absurd c9 (by decide +kernel) | exact absurd (by decide +kernel) c9
      refine lv_iload hx hb dL_law_3923 (lv_at hl 1 rfl) ?_
      refine lv_if_ne (tgt := 3947) hx hb dL_law_3925 (by decide) (fun c9 => ?_) (fun c9 => ?_)
      rotate_left
      · first | exact absurd c9 (by decide +kernel) | exact absurd (by decide +kernel) c9
      refine lv_goto (tgt := 4099) hx hb dL_law_3947 (by decide) ?_
      refine W.widen (k := 470) (n := 2709300) (Nat.le_of_ble_eq_true rfl) (Nat.le_of_ble_eq_true rfl) ?_
      exact law_tail (v5 := 0) (v6 := 0) (lv := []) C0 hS (lv_sub hl [2, 6] rfl)
  · refine lv_iconst (v := 1) hx hb dL_law_3869 (by decide +kernel) ?_
    refine lv_goto (tgt := 3874) hx hb dL_law_3870 (by decide) ?_
    refine lv_aload_n hx hb dL_law_3874 rfl (lv_at hl 3 rfl) ?_
    have hPc := hP.sub (ws' := [(x, .inr (12, xg)), (chA, .inl (chC, (4, .inr (.inr (.inr (.inr chF)))))), (ch0, .inr (2, chg0)), (ch1, .inr (2, chg1)), (ch2, .inr (2, chg2)), (ch3, .inr (2, chg3)), (oA, .inl (oC, (1, .inr (.inl oF))))]) [0, 1, 2, 3, 4, 5, 8] rfl
    have hDc := hD.sub (ws' := [(x, .inr (12, xg)), (chA, .inl (chC, (4, .inr (.inr (.inr (.inr chF)))))), (ch0, .inr (2, chg0)), (ch1, .inr (2, chg1)), (ch2, .inr (2, chg2)), (ch3, .inr (2, chg3)), (oA, .inl (oC, (1, .inr (.inl oF))))]) [0, 1, 2, 3, 4, 5, 8] (by decide) rfl
    have hKc := hK.sub (tys' := [(chC, .object "ChipFlow$Chip"), (oC, .long)]) [0, 2] rfl
    have hFc := va_free (wc := [(x, .inr (12, xg)), (chA, .inl (chC, (4, .inr (.inr (.inr (.inr chF)))))), (ch0, .inr (2, chg0)), (ch1, .inr (2, chg1)), (ch2, .inr (2, chg2)), (ch3, .inr (2, chg3)), (oA, .inl (oC, (1, .inr (.inl oF))))]) hD hS hA [0, 1, 2, 3, 4, 5, 8] rfl
    refine va_calli (vx_runSW (As := [.ref x, .int (xs ((0 : Int32) + 1).toNatClampNeg), .int (xs ((0 : Int32) + 2).toNatClampNeg), .int 1, .ref oA]) (rest := []) ⟨hx, hb, hml, hown, hts⟩ (ct_L_fails l hlt dC dI H.size (xs ((0 : Int32) + 1).toNatClampNeg) (xs ((0 : Int32) + 2).toNatClampNeg) 1 x xg chA chC chF ch0 ch1 ch2 ch3 chg0 chg1 chg2 chg3 hchg0 hchF0 hchg1 hchF1 hchg2 hchF2 hchg3 hchF3 oA oC oF hxg) (vx_cwSW 5 hts (gi_W wd_2982 wd_2983 wd_326 wd_2984) rfl rfl rfl (by decide +kernel) ⟨(Nat.le_of_ble_eq_true rfl), (Nat.le_of_ble_eq_true rfl)⟩) ⟨fun a U g mk q => by obtain ⟨q0, q1, qP, qK, qD, qT⟩ := q; exact ⟨q0, q1, qP, va_K.moved (u := U) (U := U.calling g mk a) (Vm.Alike.refl U.vm) qK, qD, th.moved (u := U) (U := U.calling g mk a) (Vm.Alike.refl U.vm) qT⟩, fun U hU hW => ⟨rfl, by rw [hU], by rw [hU]; exact hPc, va_K.moved hW.alike hKc, hDc.weaken (fun _ _ _ _ => trivial), by rw [hU]; exact ((hth.kept hS.2.1).narrow hFc).moved hW.alike⟩⟩ rfl rfl hl.1 rfl (lv_room (Nat.le_of_ble_eq_true rfl)) dL_law_3875 ⟨(Nat.le_of_ble_eq_true rfl), (Nat.le_of_ble_eq_true rfl)⟩) hS (fun q _ h => hFc q h) hFc (fun r u t H1 locs ht hvm hw hB hz1 hk1 hS => ?_)
    subst hw
    obtain ⟨hP1, -, hD1⟩ := hB
    rw [ht] at hP1
    obtain ⟨hP, hD⟩ := va_join (wr := [(m0, .inr (13, mg)), (mcA, .inl (mcC, (4, .inl (fun _ => 0))))]) (w1 := [(oA, .inl (oC, (1, .inr (.inl oF))))]) hP hD [0, 1, 2, 3, 4, 5, 8] [6, 7] rfl rfl (by decide) (by decide) hk1 hFc hP1 hD1
    have hP := hP.sub (ws' := [(m0, .inr (13, mg)), (mcA, .inl (mcC, (4, .inl (fun _ => 0))))]) [0, 1] rfl
    have hD := hD.sub (ws' := [(m0, .inr (13, mg)), (mcA, .inl (mcC, (4, .inl (fun _ => 0))))]) [0, 1] (by decide) rfl
    have hK := hK.sub (tys' := [(mcC, .boolean)]) [1] rfl
    generalize H1 = H at hP hS ⊢
    refine W.widen (k := 452) (n := 2709148) (Nat.le_of_ble_eq_true rfl) (Nat.le_of_ble_eq_true rfl) ?_
    refine lv_istore (lv' := [(5, .int 1), (0, .ref b), (1, .ref x), (2, .ref m0), (3, .ref oA), (4, .int 0)]) hx hb dL_law_3878 hl (by decide) rfl (fun ls hl => ?_)
    refine lv_aload_n hx hb dL_law_3880 rfl (lv_at hl 3 rfl) ?_
    refine lv_aload_n hx hb dL_law_3881 rfl (lv_at hl 1 rfl) ?_
    refine lv_iload hx hb dL_law_3882 (lv_at hl 5 rfl) ?_
    refine lv_iconst (v := 1) hx hb dL_law_3884 (by decide +kernel) ?_
    refine lv_iadd hx hb dL_law_3885 ?_
    refine va_sld hx hb hX hbl hbA hS vi_1 dL_law_3886 ?_
    refine lv_aload_n hx hb dL_law_3887 rfl (lv_at hl 1 rfl) ?_
    refine lv_iload hx hb dL_law_3888 (lv_at hl 5 rfl) ?_
    refine lv_iconst (v := 2) hx hb dL_law_3890 (by decide +kernel) ?_
    refine lv_iadd hx hb dL_law_3891 ?_
    refine va_sld hx hb hX hbl hbA hS vi_2 dL_law_3892 ?_
    refine lv_aload_n hx hb dL_law_3893 rfl (lv_at hl 1 rfl) ?_
    refine lv_iload hx hb dL_law_3894 (lv_at hl 5 rfl) ?_
    refine lv_iconst (v := 3) hx hb dL_law_3896 (by decide +kernel) ?_
    refine lv_iadd hx hb dL_law_3897 ?_
    refine va_sld hx hb hX hbl hbA hS vi_3 dL_law_3898 ?_
    refine lv_if_eq (tgt := 3906) hx hb dL_law_3899 (by decide) (fun c9 => ?_) (fun c9 => ?_)
    · refine lv_iconst (v := 0) hx hb dL_law_3906 (by decide +kernel) ?_
      have hFc := va_free (wc := [(m0, .inr (13, mg)), (mcA, .inl (mcC, (4, .inl (fun _ => 0))))]) hD hS hA [0, 1] rfl
      refine va_calli (va_runV (As := [.int (xs ((0 : Int32) + 1).toNatClampNeg), .int (xs ((0 : Int32) + 2).toNatClampNeg), .int 0]) (rest := []) ⟨hx, hb, hml, hown, hts⟩ (ct_X13_fails l dC dI _ (xs ((0 : Int32) + 1).toNatClampNeg) (xs ((0 : Int32) + 2).toNatClampNeg) 0 m0 mg mcA mcC hmg) (cwV 3 hts (gi_V wd_4713 wd_4714 wd_4715 wd_340 wd_4716) rfl rfl rfl (by decide +kernel) ⟨(Nat.le_of_ble_eq_true rfl), (Nat.le_of_ble_eq_true rfl)⟩) ⟨fun a U g mk q => by obtain ⟨q0, q1, qP, qK, qD⟩ := q; exact ⟨q0, q1, qP, va_K.moved (u := U) (U := U.calling g mk a) (Vm.Alike.refl U.vm) qK, qD⟩, va_recv hK hP (ci := 13) (q0 := 0) rfl rfl, fun U hU hW => ⟨rfl, by rw [hU], by rw [hU]; exact hP, va_K.moved hW.alike hK, hD.weaken (fun _ _ _ _ => trivial)⟩⟩ rfl rfl hl.1 rfl (lv_room (Nat.le_of_ble_eq_true rfl)) dL_law_3907 ⟨(Nat.le_of_ble_eq_true rfl), (Nat.le_of_ble_eq_true rfl)⟩) hS (fun q _ h => hFc q h) hFc (fun r u t H1 locs ht hvm hw hB hz1 hk1 hS => ?_)
      subst hw
      obtain ⟨mg1, hmg1, hP1, hK1, hD1⟩ := hB
      rw [ht] at hP1
      have hK1 := va_K.moved hvm.symm hK1
      have hD1 := hD1.weaken (fun k q _ h => hFc q.1 h)
      generalize H1 = H at hP1 hS ⊢
      refine lv_istore (lv' := [(6, .int 0), (5, .int 1), (0, .ref b), (1, .ref x), (2, .ref m0), (3, .ref oA), (4, .int 0)]) hx hb dL_law_3910 hl (by decide) rfl (fun ls hl => ?_)
      refine lv_aload_n hx hb dL_law_3912 rfl (lv_at hl 4 rfl) ?_
      have hFc := va_free (wc := [(m0, .inr (13, mg1))]) hD1 hS hA [0] rfl
      refine va_calli (va_runV (As := []) (rest := []) ⟨hx, hb, hml, hown, hts⟩ (ct_X13_thrown l dC dI _ 1 m0 mg1 hmg1) (cwV 0 hts (gi_V wd_3015 wd_3016 wd_3017 wd_340 wd_3018) rfl rfl rfl (by decide +kernel) ⟨(Nat.le_of_ble_eq_true rfl), (Nat.le_of_ble_eq_true rfl)⟩) ⟨fun a U g mk q => by obtain ⟨q0, q1, qP, qK, qD⟩ := q; exact ⟨q0, q1, qP, va_K.moved (u := U) (U := U.calling g mk a) (Vm.Alike.refl U.vm) qK, qD⟩, va_recv hK1 hP1 (ci := 13) (q0 := 0) rfl rfl, fun U hU hW => ⟨rfl, by rw [hU], by rw [hU]; exact hP1, va_K.moved hW.alike hK1, hD1.weaken (fun _ _ _ _ => trivial)⟩⟩ rfl rfl hl.1 rfl (lv_room (Nat.le_of_ble_eq_true rfl)) dL_law_3913 ⟨(Nat.le_of_ble_eq_true rfl), (Nat.le_of_ble_eq_true rfl)⟩) hS (fun q _ h => hFc q h) hFc (fun r u t H1 locs ht hvm hw hB hz1 hk1 hS => ?_)
      subst hw
      refine lv_iload hx hb dL_law_3916 (lv_at hl 1 rfl) ?_
      refine lv_icmp_eq (tgt := 3923) hx hb dL_law_3918 (by decide) (fun c9 => ?_) (fun c9 => ?_)
      rotate_left
      · first | exact absurd c9 (by decide +kernel) | exact absurd (by decide +kernel) c9
      refine lv_iload hx hb dL_law_3923 (lv_at hl 1 rfl) ?_
      refine lv_if_ne (tgt := 3947) hx hb dL_law_3925 (by decide) (fun c9 => ?_) (fun c9 => ?_)
      rotate_left
      · first | exact absurd c9 (by decide +kernel) | exact absurd (by decide +kernel) c9
      refine lv_goto (tgt := 4099) hx hb dL_law_3947 (by decide) ?_
      refine W.widen (k := 470) (n := 2709300) (Nat.le_of_ble_eq_true rfl) (Nat.le_of_ble_eq_true rfl) ?_
      exact law_tail (v5 := 0) (v6 := 0) (lv := []) C0 hS (lv_sub hl [2, 6] rfl)
    · refine lv_iconst (v := 1) hx hb dL_law_3902 (by decide +kernel) ?_
      refine lv_goto (tgt := 3907) hx hb dL_law_3903 (by decide) ?_
      have hFc := va_free (wc := [(m0, .inr (13, mg)), (mcA, .inl (mcC, (4, .inl (fun _ => 0))))]) hD hS hA [0, 1] rfl
      refine va_calli (va_runV (As := [.int (xs ((0 : Int32) + 1).toNatClampNeg), .int (xs ((0 : Int32) + 2).toNatClampNeg), .int 1]) (rest := []) ⟨hx, hb, hml, hown, hts⟩ (ct_X13_fails l dC dI _ (xs ((0 : Int32) + 1).toNatClampNeg) (xs ((0 : Int32) + 2).toNatClampNeg) 1 m0 mg mcA mcC hmg) (cwV 3 hts (gi_V wd_4713 wd_4714 wd_4715 wd_340 wd_4716) rfl rfl rfl (by decide +kernel) ⟨(Nat.le_of_ble_eq_true rfl), (Nat.le_of_ble_eq_true rfl)⟩) ⟨fun a U g mk q => by obtain ⟨q0, q1, qP, qK, qD⟩ := q; exact ⟨q0, q1, qP, va_K.moved (u := U) (U := U.calling g mk a) (Vm.Alike.refl U.vm) qK, qD⟩, va_recv hK hP (ci := 13) (q0 := 0) rfl rfl, fun U hU hW => ⟨rfl, by rw [hU], by rw [hU]; exact hP, va_K.moved hW.alike hK, hD.weaken (fun _ _ _ _ => trivial)⟩⟩ rfl rfl hl.1 rfl (lv_room (Nat.le_of_ble_eq_true rfl)) dL_law_3907 ⟨(Nat.le_of_ble_eq_true rfl), (Nat.le_of_ble_eq_true rfl)⟩) hS (fun q _ h => hFc q h) hFc (fun r u t H1 locs ht hvm hw hB hz1 hk1 hS => ?_)
      subst hw
      obtain ⟨mg1, hmg1, hP1, hK1, hD1⟩ := hB
      rw [ht] at hP1
      have hK1 := va_K.moved hvm.symm hK1
      have hD1 := hD1.weaken (fun k q _ h => hFc q.1 h)
      generalize H1 = H at hP1 hS ⊢
      refine lv_istore (lv' := [(6, .int 0), (5, .int 1), (0, .ref b), (1, .ref x), (2, .ref m0), (3, .ref oA), (4, .int 0)]) hx hb dL_law_3910 hl (by decide) rfl (fun ls hl => ?_)
      refine lv_aload_n hx hb dL_law_3912 rfl (lv_at hl 4 rfl) ?_
      have hFc := va_free (wc := [(m0, .inr (13, mg1))]) hD1 hS hA [0] rfl
      refine va_calli (va_runV (As := []) (rest := []) ⟨hx, hb, hml, hown, hts⟩ (ct_X13_thrown l dC dI _ 1 m0 mg1 hmg1) (cwV 0 hts (gi_V wd_3015 wd_3016 wd_3017 wd_340 wd_3018) rfl rfl rfl (by decide +kernel) ⟨(Nat.le_of_ble_eq_true rfl), (Nat.le_of_ble_eq_true rfl)⟩) ⟨fun a U g mk q => by obtain ⟨q0, q1, qP, qK, qD⟩ := q; exact ⟨q0, q1, qP, va_K.moved (u := U) (U := U.calling g mk a) (Vm.Alike.refl U.vm) qK, qD⟩, va_recv hK1 hP1 (ci := 13) (q0 := 0) rfl rfl, fun U hU hW => ⟨rfl, by rw [hU], by rw [hU]; exact hP1, va_K.moved hW.alike hK1, hD1.weaken (fun _ _ _ _ => trivial)⟩⟩ rfl rfl hl.1 rfl (lv_room (Nat.le_of_ble_eq_true rfl)) dL_law_3913 ⟨(Nat.le_of_ble_eq_true rfl), (Nat.le_of_ble_eq_true rfl)⟩) hS (fun q _ h => hFc q h) hFc (fun r u t H1 locs ht hvm hw hB hz1 hk1 hS => ?_)
      subst hw
      refine lv_iload hx hb dL_law_3916 (lv_at hl 1 rfl) ?_
      refine lv_icmp_eq (tgt := 3923) hx hb dL_law_3918 (by decide) (fun c9 => ?_) (fun c9 => ?_)
      rotate_left
      · first | exact absurd c9 (by decide +kernel) | exact absurd (by decide +kernel) c9
      refine lv_iload hx hb dL_law_3923 (lv_at hl 1 rfl) ?_
      refine lv_if_ne (tgt := 3947) hx hb dL_law_3925 (by decide) (fun c9 => ?_) (fun c9 => ?_)
      rotate_left
      · first | exact absurd c9 (by decide +kernel) | exact absurd (by decide +kernel) c9
      refine lv_goto (tgt := 4099) hx hb dL_law_3947 (by decide) ?_
      refine W.widen (k := 470) (n := 2709300) (Nat.le_of_ble_eq_true rfl) (Nat.le_of_ble_eq_true rfl) ?_
      exact law_tail (v5 := 0) (v6 := 0) (lv := []) C0 hS (lv_sub hl [2, 6] rfl)
set_option maxHeartbeats 4000000 in
set_option maxRecDepth 100000 in
theorem law_suspect {p : Program} {l : Launch} {e : Env} {s : State} {m : MethodId} {below : List Frame} {meth : Method} {c : Code} {b : Nat} {xs : Nat → Int32} (C0 : lw_At p s m meth c b 7 xs) {dC : Nat → ClassId} {dI : Nat → Nat → Nat} (hlt : l.stackTraces = false) (hth : th (fun q : Nat => s.heap.size ≤ q) s s.heap) (x : Nat) (xg : List Value) (chA : Nat) (chC : ClassId) (chF : Nat → Option Nat) (ch0 ch1 ch2 ch3 : Nat) (chg0 chg1 chg2 chg3 : List Value) (hchg0 : fx chg0 20 [(0, .int 0)]) (hchF0 : chF 0 = some ch0) (hchg1 : fx chg1 20 [(0, .int 0)]) (hchF1 : chF 1 = some ch1) (hchg2 : fx chg2 20 [(0, .int 0)]) (hchF2 : chF 2 = some ch2) (hchg3 : fx chg3 20 [(0, .int 0)]) (hchF3 : chF 3 = some ch3) (m0 : Nat) (mg : List Value) (mcA : Nat) (mcC : ClassId) (oA : Nat) (oC : ClassId) (oF : Nat → Int64) (hxg : fx xg 17 [(9, .ref chA)]) (hmg : fx mg 225 [(138, .ref mcA)]) (H : Heap) (locs : List Loc) (hK : va_K (dC, dI) CL [(chC, .object "ChipFlow$Chip"), (mcC, .boolean), (oC, .long)] s) (hP : va_P (dC, dI) CL [(x, .inr (12, xg)), (chA, .inl (chC, (4, .inr (.inr (.inr (.inr chF)))))), (ch0, .inr (2, chg0)), (ch1, .inr (2, chg1)), (ch2, .inr (2, chg2)), (ch3, .inr (2, chg3)), (m0, .inr (13, mg)), (mcA, .inl (mcC, (4, .inl (fun _ => 0)))), (oA, .inl (oC, (1, .inr (.inl oF))))] H) (hD : va_D (fun q : Nat => s.heap.size ≤ q) [(x, .inr (12, xg)), (chA, .inl (chC, (4, .inr (.inr (.inr (.inr chF)))))), (ch0, .inr (2, chg0)), (ch1, .inr (2, chg1)), (ch2, .inr (2, chg2)), (ch3, .inr (2, chg3)), (m0, .inr (13, mg)), (mcA, .inl (mcC, (4, .inl (fun _ => 0)))), (oA, .inl (oC, (1, .inr (.inl oF))))]) (hS : va_S (fun q : Nat => s.heap.size ≤ q) s.heap H locs) (ls : Array Slot) (hl : lv_has ls 7 [(0, .ref b), (1, .ref x), (2, .ref m0), (3, .ref oA), (4, .int 0)]) : W p l e room_1 s m #[Value.ref b] below meth c H locs 451 2709142 (lw_Z below #[Value.ref b] s) (F0 m 3950 ls []) := by
  obtain ⟨hx, hb, hr, hml, hown, hts0, hX, hbl, hlocks, hgv⟩ := id C0
  have hts : ∀ w ∈ BG, w.before _ s = true := fun w h => hts0 w (List.mem_filter.mp h).1
  have hown : s.vm.findClass RL = some m.cls := hown
  have hA : ∀ q : Nat, s.heap.size ≤ q → (fun q : Nat => s.heap.size ≤ q) q := fun _ h => h
  have hbA : ¬ (fun q : Nat => s.heap.size ≤ q) b := Nat.not_le.mpr hbl
  refine lv_aload_n hx hb dL_law_3950 rfl (lv_at hl 1 rfl) ?_
  refine lv_aload_n hx hb dL_law_3951 rfl (lv_at hl 0 rfl) ?_
  refine lv_iload hx hb dL_law_3952 (lv_at hl 4 rfl) ?_
  refine lv_iconst (v := 1) hx hb dL_law_3954 (by decide +kernel) ?_
  refine lv_iadd hx hb dL_law_3955 ?_
  refine va_sld hx hb hX hbl hbA hS vi_1 dL_law_3956 ?_
  refine lv_aload_n hx hb dL_law_3957 rfl (lv_at hl 0 rfl) ?_
  refine lv_iload hx hb dL_law_3958 (lv_at hl 4 rfl) ?_
  refine lv_iconst (v := 2) hx hb dL_law_3960 (by decide +kernel) ?_
  refine lv_iadd hx hb dL_law_3961 ?_
  refine va_sld hx hb hX hbl hbA hS vi_2 dL_law_3962 ?_
  refine lv_aload_n hx hb dL_law_3963 rfl (lv_at hl 3 rfl) ?_
  have hPc := hP.sub (ws' := [(x, .inr (12, xg)), (chA, .inl (chC, (4, .inr (.inr (.inr (.inr chF)))))), (ch0, .inr (2, chg0)), (ch1, .inr (2, chg1)), (ch2, .inr (2, chg2)), (ch3, .inr (2, chg3)), (oA, .inl (oC, (1, .inr (.inl oF))))]) [0, 1, 2, 3, 4, 5, 8] rfl
  have hDc := hD.sub (ws' := [(x, .inr (12, xg)), (chA, .inl (chC, (4, .inr (.inr (.inr (.inr chF)))))), (ch0, .inr (2, chg0)), (ch1, .inr (2, chg1)), (ch2, .inr (2, chg2)), (ch3, .inr (2, chg3)), (oA, .inl (oC, (1, .inr (.inl oF))))]) [0, 1, 2, 3, 4, 5, 8] (by decide) rfl
  have hKc := hK.sub (tys' := [(chC, .object "ChipFlow$Chip"), (oC, .long)]) [0, 2] rfl
  have hFc := va_free (wc := [(x, .inr (12, xg)), (chA, .inl (chC, (4, .inr (.inr (.inr (.inr chF)))))), (ch0, .inr (2, chg0)), (ch1, .inr (2, chg1)), (ch2, .inr (2, chg2)), (ch3, .inr (2, chg3)), (oA, .inl (oC, (1, .inr (.inl oF))))]) hD hS hA [0, 1, 2, 3, 4, 5, 8] rfl
  refine va_calli (vx_runSW (As := [.ref x, .int (xs ((0 : Int32) + 1).toNatClampNeg), .int (xs ((0 : Int32) + 2).toNatClampNeg), .ref oA]) (rest := []) ⟨hx, hb, hml, hown, hts⟩ (ct_L_suspect l hlt dC dI H.size (xs ((0 : Int32) + 1).toNatClampNeg) (xs ((0 : Int32) + 2).toNatClampNeg) x xg chA chC chF ch0 ch1 ch2 ch3 chg0 chg1 chg2 chg3 hchg0 hchF0 hchg1 hchF1 hchg2 hchF2 hchg3 hchF3 oA oC oF hxg) (vx_cwSW 4 hts (gi_W wd_2989 wd_2990 wd_326 wd_2991) rfl rfl rfl (by decide +kernel) ⟨(Nat.le_of_ble_eq_true rfl), (Nat.le_of_ble_eq_true rfl)⟩) ⟨fun a U g mk q => by obtain ⟨q0, q1, qP, qK, qD, qT⟩ := q; exact ⟨q0, q1, qP, va_K.moved (u := U) (U := U.calling g mk a) (Vm.Alike.refl U.vm) qK, qD, th.moved (u := U) (U := U.calling g mk a) (Vm.Alike.refl U.vm) qT⟩, fun U hU hW => ⟨rfl, by rw [hU], by rw [hU]; exact hPc, va_K.moved hW.alike hKc, hDc.weaken (fun _ _ _ _ => trivial), by rw [hU]; exact ((hth.kept hS.2.1).narrow hFc).moved hW.alike⟩⟩ rfl rfl hl.1 rfl (lv_room (Nat.le_of_ble_eq_true rfl)) dL_law_3964 ⟨(Nat.le_of_ble_eq_true rfl), (Nat.le_of_ble_eq_true rfl)⟩) hS (fun q _ h => hFc q h) hFc (fun r u t H1 locs ht hvm hw hB hz1 hk1 hS => ?_)
  subst hw
  obtain ⟨hP1, -, hD1⟩ := hB
  rw [ht] at hP1
  obtain ⟨hP, hD⟩ := va_join (wr := [(m0, .inr (13, mg)), (mcA, .inl (mcC, (4, .inl (fun _ => 0))))]) (w1 := [(oA, .inl (oC, (1, .inr (.inl oF))))]) hP hD [0, 1, 2, 3, 4, 5, 8] [6, 7] rfl rfl (by decide) (by decide) hk1 hFc hP1 hD1
  have hP := hP.sub (ws' := [(m0, .inr (13, mg)), (mcA, .inl (mcC, (4, .inl (fun _ => 0))))]) [0, 1] rfl
  have hD := hD.sub (ws' := [(m0, .inr (13, mg)), (mcA, .inl (mcC, (4, .inl (fun _ => 0))))]) [0, 1] (by decide) rfl
  have hK := hK.sub (tys' := [(mcC, .boolean)]) [1] rfl
  generalize H1 = H at hP hS ⊢
  refine W.widen (k := 452) (n := 2709148) (Nat.le_of_ble_eq_true rfl) (Nat.le_of_ble_eq_true rfl) ?_
  refine lv_istore (lv' := [(5, .int 1), (0, .ref b), (1, .ref x), (2, .ref m0), (3, .ref oA), (4, .int 0)]) hx hb dL_law_3967 hl (by decide) rfl (fun ls hl => ?_)
  refine lv_aload_n hx hb dL_law_3969 rfl (lv_at hl 3 rfl) ?_
  refine lv_aload_n hx hb dL_law_3970 rfl (lv_at hl 1 rfl) ?_
  refine lv_iload hx hb dL_law_3971 (lv_at hl 5 rfl) ?_
  refine lv_iconst (v := 1) hx hb dL_law_3973 (by decide +kernel) ?_
  refine lv_iadd hx hb dL_law_3974 ?_
  refine va_sld hx hb hX hbl hbA hS vi_1 dL_law_3975 ?_
  refine lv_aload_n hx hb dL_law_3976 rfl (lv_at hl 1 rfl) ?_
  refine lv_iload hx hb dL_law_3977 (lv_at hl 5 rfl) ?_
  refine lv_iconst (v := 2) hx hb dL_law_3979 (by decide +kernel) ?_
  refine lv_iadd hx hb dL_law_3980 ?_
  refine va_sld hx hb hX hbl hbA hS vi_2 dL_law_3981 ?_
  have hFc := va_free (wc := [(m0, .inr (13, mg)), (mcA, .inl (mcC, (4, .inl (fun _ => 0))))]) hD hS hA [0, 1] rfl
  refine va_calli (va_runV (As := [.int (xs ((0 : Int32) + 1).toNatClampNeg), .int (xs ((0 : Int32) + 2).toNatClampNeg)]) (rest := []) ⟨hx, hb, hml, hown, hts⟩ (ct_X13_suspect l dC dI _ (xs ((0 : Int32) + 1).toNatClampNeg) (xs ((0 : Int32) + 2).toNatClampNeg) m0 mg mcA mcC hmg) (cwV 2 hts (gi_V wd_4717 wd_4718 wd_4719 wd_340 wd_4720) rfl rfl rfl (by decide +kernel) ⟨(Nat.le_of_ble_eq_true rfl), (Nat.le_of_ble_eq_true rfl)⟩) ⟨fun a U g mk q => by obtain ⟨q0, q1, qP, qK, qD⟩ := q; exact ⟨q0, q1, qP, va_K.moved (u := U) (U := U.calling g mk a) (Vm.Alike.refl U.vm) qK, qD⟩, va_recv hK hP (ci := 13) (q0 := 0) rfl rfl, fun U hU hW => ⟨rfl, by rw [hU], by rw [hU]; exact hP, va_K.moved hW.alike hK, hD.weaken (fun _ _ _ _ => trivial)⟩⟩ rfl rfl hl.1 rfl (lv_room (Nat.le_of_ble_eq_true rfl)) dL_law_3982 ⟨(Nat.le_of_ble_eq_true rfl), (Nat.le_of_ble_eq_true rfl)⟩) hS (fun q _ h => hFc q h) hFc (fun r u t H1 locs ht hvm hw hB hz1 hk1 hS => ?_)
  subst hw
  obtain ⟨mg1, hmg1, hP1, hK1, hD1⟩ := hB
  rw [ht] at hP1
  have hK1 := va_K.moved hvm.symm hK1
  have hD1 := hD1.weaken (fun k q _ h => hFc q.1 h)
  generalize H1 = H at hP1 hS ⊢
  refine lv_istore (lv' := [(6, .int 0), (5, .int 1), (0, .ref b), (1, .ref x), (2, .ref m0), (3, .ref oA), (4, .int 0)]) hx hb dL_law_3985 hl (by decide) rfl (fun ls hl => ?_)
  refine lv_aload_n hx hb dL_law_3987 rfl (lv_at hl 4 rfl) ?_
  have hFc := va_free (wc := [(m0, .inr (13, mg1))]) hD1 hS hA [0] rfl
  refine va_calli (va_runV (As := []) (rest := []) ⟨hx, hb, hml, hown, hts⟩ (ct_X13_thrown l dC dI _ 1 m0 mg1 hmg1) (cwV 0 hts (gi_V wd_3015 wd_3016 wd_3017 wd_340 wd_3018) rfl rfl rfl (by decide +kernel) ⟨(Nat.le_of_ble_eq_true rfl), (Nat.le_of_ble_eq_true rfl)⟩) ⟨fun a U g mk q => by obtain ⟨q0, q1, qP, qK, qD⟩ := q; exact ⟨q0, q1, qP, va_K.moved (u := U) (U := U.calling g mk a) (Vm.Alike.refl U.vm) qK, qD⟩, va_recv hK1 hP1 (ci := 13) (q0 := 0) rfl rfl, fun U hU hW => ⟨rfl, by rw [hU], by rw [hU]; exact hP1, va_K.moved hW.alike hK1, hD1.weaken (fun _ _ _ _ => trivial)⟩⟩ rfl rfl hl.1 rfl (lv_room (Nat.le_of_ble_eq_true rfl)) dL_law_3988 ⟨(Nat.le_of_ble_eq_true rfl), (Nat.le_of_ble_eq_true rfl)⟩) hS (fun q _ h => hFc q h) hFc (fun r u t H1 locs ht hvm hw hB hz1 hk1 hS => ?_)
  subst hw
  refine lv_iload hx hb dL_law_3991 (lv_at hl 1 rfl) ?_
  refine lv_icmp_eq (tgt := 3998) hx hb dL_law_3993 (by decide) (fun c9 => ?_) (fun c9 => ?_)
  rotate_left
  · first | exact absurd c9 (by decide +kernel) | exact absurd (by decide +kernel) c9
  refine lv_iload hx hb dL_law_3998 (lv_at hl 1 rfl) ?_
  refine lv_if_ne (tgt := 4015) hx hb dL_law_4000 (by decide) (fun c9 => ?_) (fun c9 => ?_)
  rotate_left
  · first | exact absurd c9 (by decide +kernel) | exact absurd (by decide +kernel) c9
  refine lv_goto (tgt := 4099) hx hb dL_law_4015 (by decide) ?_
  refine W.widen (k := 470) (n := 2709300) (Nat.le_of_ble_eq_true rfl) (Nat.le_of_ble_eq_true rfl) ?_
  exact law_tail (v5 := 0) (v6 := 0) (lv := []) C0 hS (lv_sub hl [2, 6] rfl)
set_option maxHeartbeats 4000000 in
set_option maxRecDepth 100000 in
theorem law_faults {p : Program} {l : Launch} {e : Env} {s : State} {m : MethodId} {below : List Frame} {meth : Method} {c : Code} {b : Nat} {xs : Nat → Int32} (C0 : lw_At p s m meth c b 7 xs) {dC : Nat → ClassId} {dI : Nat → Nat → Nat} (hlt : l.stackTraces = false) (hth : th (fun q : Nat => s.heap.size ≤ q) s s.heap) (x : Nat) (xg : List Value) (chA : Nat) (chC : ClassId) (chF : Nat → Option Nat) (ch0 ch1 ch2 ch3 : Nat) (chg0 chg1 chg2 chg3 : List Value) (hchg0 : fx chg0 20 [(0, .int 0)]) (hchF0 : chF 0 = some ch0) (hchg1 : fx chg1 20 [(0, .int 0)]) (hchF1 : chF 1 = some ch1) (hchg2 : fx chg2 20 [(0, .int 0)]) (hchF2 : chF 2 = some ch2) (hchg3 : fx chg3 20 [(0, .int 0)]) (hchF3 : chF 3 = some ch3) (m0 : Nat) (mg : List Value) (mcA : Nat) (mcC : ClassId) (oA : Nat) (oC : ClassId) (oF : Nat → Int64) (hxg : fx xg 17 [(9, .ref chA)]) (hmg : fx mg 225 [(138, .ref mcA)]) (H : Heap) (locs : List Loc) (hK : va_K (dC, dI) CL [(chC, .object "ChipFlow$Chip"), (mcC, .boolean), (oC, .long)] s) (hP : va_P (dC, dI) CL [(x, .inr (12, xg)), (chA, .inl (chC, (4, .inr (.inr (.inr (.inr chF)))))), (ch0, .inr (2, chg0)), (ch1, .inr (2, chg1)), (ch2, .inr (2, chg2)), (ch3, .inr (2, chg3)), (m0, .inr (13, mg)), (mcA, .inl (mcC, (4, .inl (fun _ => 0)))), (oA, .inl (oC, (1, .inr (.inl oF))))] H) (hD : va_D (fun q : Nat => s.heap.size ≤ q) [(x, .inr (12, xg)), (chA, .inl (chC, (4, .inr (.inr (.inr (.inr chF)))))), (ch0, .inr (2, chg0)), (ch1, .inr (2, chg1)), (ch2, .inr (2, chg2)), (ch3, .inr (2, chg3)), (m0, .inr (13, mg)), (mcA, .inl (mcC, (4, .inl (fun _ => 0)))), (oA, .inl (oC, (1, .inr (.inl oF))))]) (hS : va_S (fun q : Nat => s.heap.size ≤ q) s.heap H locs) (ls : Array Slot) (hl : lv_has ls 7 [(0, .ref b), (1, .ref x), (2, .ref m0), (3, .ref oA), (4, .int 0)]) : W p l e room_1 s m #[Value.ref b] below meth c H locs 451 2709142 (lw_Z below #[Value.ref b] s) (F0 m 4018 ls []) := by
  obtain ⟨hx, hb, hr, hml, hown, hts0, hX, hbl, hlocks, hgv⟩ := id C0
  have hts : ∀ w ∈ BG, w.before _ s = true := fun w h => hts0 w (List.mem_filter.mp h).1
  have hown : s.vm.findClass RL = some m.cls := hown
  have hA : ∀ q : Nat, s.heap.size ≤ q → (fun q : Nat => s.heap.size ≤ q) q := fun _ h => h
  have hbA : ¬ (fun q : Nat => s.heap.size ≤ q) b := Nat.not_le.mpr hbl
  refine lv_aload_n hx hb dL_law_4018 rfl (lv_at hl 1 rfl) ?_
  refine lv_aload_n hx hb dL_law_4019 rfl (lv_at hl 0 rfl) ?_
  refine lv_iload hx hb dL_law_4020 (lv_at hl 4 rfl) ?_
  refine lv_iconst (v := 1) hx hb dL_law_4022 (by decide +kernel) ?_
  refine lv_iadd hx hb dL_law_4023 ?_
  refine va_sld hx hb hX hbl hbA hS vi_1 dL_law_4024 ?_
  refine lv_aload_n hx hb dL_law_4025 rfl (lv_at hl 0 rfl) ?_
  refine lv_iload hx hb dL_law_4026 (lv_at hl 4 rfl) ?_
  refine lv_iconst (v := 2) hx hb dL_law_4028 (by decide +kernel) ?_
  refine lv_iadd hx hb dL_law_4029 ?_
  refine va_sld hx hb hX hbl hbA hS vi_2 dL_law_4030 ?_
  refine lv_aload_n hx hb dL_law_4031 rfl (lv_at hl 3 rfl) ?_
  have hPc := hP.sub (ws' := [(x, .inr (12, xg)), (chA, .inl (chC, (4, .inr (.inr (.inr (.inr chF)))))), (ch0, .inr (2, chg0)), (ch1, .inr (2, chg1)), (ch2, .inr (2, chg2)), (ch3, .inr (2, chg3)), (oA, .inl (oC, (1, .inr (.inl oF))))]) [0, 1, 2, 3, 4, 5, 8] rfl
  have hDc := hD.sub (ws' := [(x, .inr (12, xg)), (chA, .inl (chC, (4, .inr (.inr (.inr (.inr chF)))))), (ch0, .inr (2, chg0)), (ch1, .inr (2, chg1)), (ch2, .inr (2, chg2)), (ch3, .inr (2, chg3)), (oA, .inl (oC, (1, .inr (.inl oF))))]) [0, 1, 2, 3, 4, 5, 8] (by decide) rfl
  have hKc := hK.sub (tys' := [(chC, .object "ChipFlow$Chip"), (oC, .long)]) [0, 2] rfl
  have hFc := va_free (wc := [(x, .inr (12, xg)), (chA, .inl (chC, (4, .inr (.inr (.inr (.inr chF)))))), (ch0, .inr (2, chg0)), (ch1, .inr (2, chg1)), (ch2, .inr (2, chg2)), (ch3, .inr (2, chg3)), (oA, .inl (oC, (1, .inr (.inl oF))))]) hD hS hA [0, 1, 2, 3, 4, 5, 8] rfl
  refine va_calli (vx_runSW (As := [.ref x, .int (xs ((0 : Int32) + 1).toNatClampNeg), .int (xs ((0 : Int32) + 2).toNatClampNeg), .ref oA]) (rest := []) ⟨hx, hb, hml, hown, hts⟩ (ct_L_faults l hlt dC dI H.size (xs ((0 : Int32) + 1).toNatClampNeg) (xs ((0 : Int32) + 2).toNatClampNeg) x xg chA chC chF ch0 ch1 ch2 ch3 chg0 chg1 chg2 chg3 hchg0 hchF0 hchg1 hchF1 hchg2 hchF2 hchg3 hchF3 oA oC oF hxg) (vx_cwSW 4 hts (gi_W wd_3000 wd_3001 wd_326 wd_3002) rfl rfl rfl (by decide +kernel) ⟨(Nat.le_of_ble_eq_true rfl), (Nat.le_of_ble_eq_true rfl)⟩) ⟨fun a U g mk q => by obtain ⟨q0, q1, qP, qK, qD, qT⟩ := q; exact ⟨q0, q1, qP, va_K.moved (u := U) (U := U.calling g mk a) (Vm.Alike.refl U.vm) qK, qD, th.moved (u := U) (U := U.calling g mk a) (Vm.Alike.refl U.vm) qT⟩, fun U hU hW => ⟨rfl, by rw [hU], by rw [hU]; exact hPc, va_K.moved hW.alike hKc, hDc.weaken (fun _ _ _ _ => trivial), by rw [hU]; exact ((hth.kept hS.2.1).narrow hFc).moved hW.alike⟩⟩ rfl rfl hl.1 rfl (lv_room (Nat.le_of_ble_eq_true rfl)) dL_law_4032 ⟨(Nat.le_of_ble_eq_true rfl), (Nat.le_of_ble_eq_true rfl)⟩) hS (fun q _ h => hFc q h) hFc (fun r u t H1 locs ht hvm hw hB hz1 hk1 hS => ?_)
  subst hw
  obtain ⟨hP1, -, hD1⟩ := hB
  rw [ht] at hP1
  obtain ⟨hP, hD⟩ := va_join (wr := [(m0, .inr (13, mg)), (mcA, .inl (mcC, (4, .inl (fun _ => 0))))]) (w1 := [(oA, .inl (oC, (1, .inr (.inl oF))))]) hP hD [0, 1, 2, 3, 4, 5, 8] [6, 7] rfl rfl (by decide) (by decide) hk1 hFc hP1 hD1
  have hP := hP.sub (ws' := [(m0, .inr (13, mg)), (mcA, .inl (mcC, (4, .inl (fun _ => 0))))]) [0, 1] rfl
  have hD := hD.sub (ws' := [(m0, .inr (13, mg)), (mcA, .inl (mcC, (4, .inl (fun _ => 0))))]) [0, 1] (by decide) rfl
  have hK := hK.sub (tys' := [(mcC, .boolean)]) [1] rfl
  generalize H1 = H at hP hS ⊢
  refine W.widen (k := 452) (n := 2709148) (Nat.le_of_ble_eq_true rfl) (Nat.le_of_ble_eq_true rfl) ?_
  refine lv_istore (lv' := [(5, .int 1), (0, .ref b), (1, .ref x), (2, .ref m0), (3, .ref oA), (4, .int 0)]) hx hb dL_law_4035 hl (by decide) rfl (fun ls hl => ?_)
  refine lv_aload_n hx hb dL_law_4037 rfl (lv_at hl 3 rfl) ?_
  refine lv_aload_n hx hb dL_law_4038 rfl (lv_at hl 1 rfl) ?_
  refine lv_iload hx hb dL_law_4039 (lv_at hl 5 rfl) ?_
  refine lv_iconst (v := 1) hx hb dL_law_4041 (by decide +kernel) ?_
  refine lv_iadd hx hb dL_law_4042 ?_
  refine va_sld hx hb hX hbl hbA hS vi_1 dL_law_4043 ?_
  refine lv_aload_n hx hb dL_law_4044 rfl (lv_at hl 1 rfl) ?_
  refine lv_iload hx hb dL_law_4045 (lv_at hl 5 rfl) ?_
  refine lv_iconst (v := 2) hx hb dL_law_4047 (by decide +kernel) ?_
  refine lv_iadd hx hb dL_law_4048 ?_
  refine va_sld hx hb hX hbl hbA hS vi_2 dL_law_4049 ?_
  have hFc := va_free (wc := [(m0, .inr (13, mg)), (mcA, .inl (mcC, (4, .inl (fun _ => 0))))]) hD hS hA [0, 1] rfl
  refine va_calli (va_runV (As := [.int (xs ((0 : Int32) + 1).toNatClampNeg), .int (xs ((0 : Int32) + 2).toNatClampNeg)]) (rest := []) ⟨hx, hb, hml, hown, hts⟩ (ct_X13_faults l dC dI _ (xs ((0 : Int32) + 1).toNatClampNeg) (xs ((0 : Int32) + 2).toNatClampNeg) m0 mg mcA mcC hmg) (cwV 2 hts (gi_V wd_4725 wd_4726 wd_4727 wd_340 wd_4728) rfl rfl rfl (by decide +kernel) ⟨(Nat.le_of_ble_eq_true rfl), (Nat.le_of_ble_eq_true rfl)⟩) ⟨fun a U g mk q => by obtain ⟨q0, q1, qP, qK, qD⟩ := q; exact ⟨q0, q1, qP, va_K.moved (u := U) (U := U.calling g mk a) (Vm.Alike.refl U.vm) qK, qD⟩, va_recv hK hP (ci := 13) (q0 := 0) rfl rfl, fun U hU hW => ⟨rfl, by rw [hU], by rw [hU]; exact hP, va_K.moved hW.alike hK, hD.weaken (fun _ _ _ _ => trivial)⟩⟩ rfl rfl hl.1 rfl (lv_room (Nat.le_of_ble_eq_true rfl)) dL_law_4050 ⟨(Nat.le_of_ble_eq_true rfl), (Nat.le_of_ble_eq_true rfl)⟩) hS (fun q _ h => hFc q h) hFc (fun r u t H1 locs ht hvm hw hB hz1 hk1 hS => ?_)
  subst hw
  obtain ⟨mg1, hmg1, hP1, hK1, hD1⟩ := hB
  rw [ht] at hP1
  have hK1 := va_K.moved hvm.symm hK1
  have hD1 := hD1.weaken (fun k q _ h => hFc q.1 h)
  generalize H1 = H at hP1 hS ⊢
  refine lv_istore (lv' := [(6, .int 0), (5, .int 1), (0, .ref b), (1, .ref x), (2, .ref m0), (3, .ref oA), (4, .int 0)]) hx hb dL_law_4053 hl (by decide) rfl (fun ls hl => ?_)
  refine lv_aload_n hx hb dL_law_4055 rfl (lv_at hl 4 rfl) ?_
  have hFc := va_free (wc := [(m0, .inr (13, mg1))]) hD1 hS hA [0] rfl
  refine va_calli (va_runV (As := []) (rest := []) ⟨hx, hb, hml, hown, hts⟩ (ct_X13_thrown l dC dI _ 1 m0 mg1 hmg1) (cwV 0 hts (gi_V wd_3015 wd_3016 wd_3017 wd_340 wd_3018) rfl rfl rfl (by decide +kernel) ⟨(Nat.le_of_ble_eq_true rfl), (Nat.le_of_ble_eq_true rfl)⟩) ⟨fun a U g mk q => by obtain ⟨q0, q1, qP, qK, qD⟩ := q; exact ⟨q0, q1, qP, va_K.moved (u := U) (U := U.calling g mk a) (Vm.Alike.refl U.vm) qK, qD⟩, va_recv hK1 hP1 (ci := 13) (q0 := 0) rfl rfl, fun U hU hW => ⟨rfl, by rw [hU], by rw [hU]; exact hP1, va_K.moved hW.alike hK1, hD1.weaken (fun _ _ _ _ => trivial)⟩⟩ rfl rfl hl.1 rfl (lv_room (Nat.le_of_ble_eq_true rfl)) dL_law_4056 ⟨(Nat.le_of_ble_eq_true rfl), (Nat.le_of_ble_eq_true rfl)⟩) hS (fun q _ h => hFc q h) hFc (fun r u t H1 locs ht hvm hw hB hz1 hk1 hS => ?_)
  subst hw
  refine lv_iload hx hb dL_law_4059 (lv_at hl 1 rfl) ?_
  refine lv_icmp_eq (tgt := 4066) hx hb dL_law_4061 (by decide) (fun c9 => ?_) (fun c9 => ?_)
  rotate_left
  · first | exact absurd c9 (by decide +kernel) | exact absurd (by decide +kernel) c9
  refine lv_iload hx hb dL_law_4066 (lv_at hl 1 rfl) ?_
  refine lv_if_ne (tgt := 4083) hx hb dL_law_4068 (by decide) (fun c9 => ?_) (fun c9 => ?_)
  rotate_left
  · first | exact absurd c9 (by decide +kernel) | exact absurd (by decide +kernel) c9
  refine lv_goto (tgt := 4099) hx hb dL_law_4083 (by decide) ?_
  refine W.widen (k := 470) (n := 2709300) (Nat.le_of_ble_eq_true rfl) (Nat.le_of_ble_eq_true rfl) ?_
  exact law_tail (v5 := 0) (v6 := 0) (lv := []) C0 hS (lv_sub hl [2, 6] rfl)
