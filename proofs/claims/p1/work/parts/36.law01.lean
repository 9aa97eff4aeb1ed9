set_option maxHeartbeats 4000000 in
set_option maxRecDepth 100000 in
theorem law_isThere_1ge {p : Program} {l : Launch} {e : Env} {s : State} {m : MethodId} {below : List Frame} {meth : Method} {c : Code} {b : Nat} {xs : Nat → Int32} (C0 : lw_At p s m meth c b 7 xs) {dC : Nat → ClassId} {dI : Nat → Nat → Nat} (hlt : l.stackTraces = false) (hth : th (fun q : Nat => s.heap.size ≤ q) s s.heap) (q0 : (xs ((0 : Int32) + 1).toNatClampNeg) = 1) (p1 : Int32) (q1 : (xs ((0 : Int32) + 2).toNatClampNeg) = p1) (zk : ¬ p1 < 0) (zg : 3 ≤ p1) (x liA li0 li1 li2 m0 ml oA deA chA md mch : Nat) (xg : List Value) (h_x : fx xg 17 [(7, .ref deA), (8, .ref liA), (9, .ref chA)]) (liAC : ClassId) (liAF : Nat → Option Nat) (li0g : List Value) (h_li0 : fx li0g 7 [(0, .int 0)]) (li1g : List Value) (h_li1 : fx li1g 7 [(0, .int 0)]) (li2g : List Value) (h_li2 : fx li2g 7 [(0, .int 0)]) (m0g : List Value) (h_m0 : fx m0g 225 [(0, .int 0), (2, .int 0), (3, .int 0), (9, .int 0), (10, .int 0), (11, .int 0), (12, .int 0), (27, .int 0), (55, .ref md), (79, .int 0), (83, .int 0), (88, .ref ml), (95, .int 0), (138, .ref mch)]) (mlC : ClassId) (oAC : ClassId) (oAf : Nat → Int64) (h_oA : fa oAf []) (h_liA0 : liAF 0 = some li0) (h_liA1 : liAF 1 = some li1) (h_liA2 : liAF 2 = some li2) (H : Heap) (locs : List Loc) (hK : va_K (dC, dI) CL [(liAC, .object "ChipFlow$Library"), (mlC, .boolean), (oAC, .long)] s) (hP : va_P (dC, dI) CL [(x, .inr (12, xg)), (liA, .inl (liAC, (3, .inr (.inr (.inr (.inr liAF)))))), (li0, .inr (5, li0g)), (li1, .inr (5, li1g)), (li2, .inr (5, li2g)), (m0, .inr (13, m0g)), (ml, .inl (mlC, (3, .inl (fun _ => 0)))), (oA, .inl (oAC, (1, .inr (.inl oAf))))] H) (hD : va_D (fun q : Nat => s.heap.size ≤ q) [(x, .inr (12, xg)), (liA, .inl (liAC, (3, .inr (.inr (.inr (.inr liAF)))))), (li0, .inr (5, li0g)), (li1, .inr (5, li1g)), (li2, .inr (5, li2g)), (m0, .inr (13, m0g)), (ml, .inl (mlC, (3, .inl (fun _ => 0)))), (oA, .inl (oAC, (1, .inr (.inl oAf))))]) (hS : va_S (fun q : Nat => s.heap.size ≤ q) s.heap H locs) (ls : Array Slot) (hl : lv_has ls 7 [(0, .ref b), (1, .ref x), (2, .ref m0), (3, .ref oA), (4, .int 0)]) : W p l e room_1 s m #[Value.ref b] below meth c H locs 451 2709142 (lw_Z below #[Value.ref b] s) (F0 m 561 ls []) := by
  obtain ⟨hx, hb, hr, hml, hown, hts0, hX, hbl, hlocks, hgv⟩ := id C0
  have hts : ∀ w ∈ BG, w.before _ s = true := fun w h => hts0 w (List.mem_filter.mp h).1
  have hown : s.vm.findClass RL = some m.cls := hown
  obtain ⟨A, eA⟩ : ∃ z : Nat → Prop, z = (fun q : Nat => s.heap.size ≤ q) := ⟨_, rfl⟩
  rw [← eA] at hth hD hS
  have hA : ∀ q : Nat, s.heap.size ≤ q → A q := fun q h => by rw [eA]; exact h
  have hbA : ¬ A b := by rw [eA]; exact Nat.not_le.mpr hbl
  refine lv_aload_n hx hb dL_law_561 rfl (lv_at hl 1 rfl) ?_
  refine lv_aload_n hx hb dL_law_562 rfl (lv_at hl 0 rfl) ?_
  refine lv_iload hx hb dL_law_563 (lv_at hl 4 rfl) ?_
  refine lv_iconst (v := 1) hx hb dL_law_565 (by decide +kernel) ?_
  refine lv_iadd hx hb dL_law_566 ?_
  refine va_sld hx hb hX hbl hbA hS vi_1 dL_law_567 ?_
  refine lv_topi (fun v9 e9 => ?_)
  obtain rfl : v9 = 1 := e9.trans q0
  refine lv_aload_n hx hb dL_law_568 rfl (lv_at hl 0 rfl) ?_
  refine lv_iload hx hb dL_law_569 (lv_at hl 4 rfl) ?_
  refine lv_iconst (v := 2) hx hb dL_law_571 (by decide +kernel) ?_
  refine lv_iadd hx hb dL_law_572 ?_
  refine va_sld hx hb hX hbl hbA hS vi_2 dL_law_573 ?_
  refine lv_topi (fun v9 e9 => ?_)
  obtain rfl : p1 = v9 := (e9.trans q1).symm
  refine lv_aload_n hx hb dL_law_574 rfl (lv_at hl 3 rfl) ?_
  have hPc := hP.sub (ws' := [(x, .inr (12, xg)), (liA, .inl (liAC, (3, .inr (.inr (.inr (.inr liAF)))))), (li0, .inr (5, li0g)), (li1, .inr (5, li1g)), (li2, .inr (5, li2g)), (oA, .inl (oAC, (1, .inr (.inl oAf))))]) [0, 1, 2, 3, 4, 7] rfl
  have hDc := hD.sub (ws' := [(x, .inr (12, xg)), (liA, .inl (liAC, (3, .inr (.inr (.inr (.inr liAF)))))), (li0, .inr (5, li0g)), (li1, .inr (5, li1g)), (li2, .inr (5, li2g)), (oA, .inl (oAC, (1, .inr (.inl oAf))))]) [0, 1, 2, 3, 4, 7] (by decide) rfl
  have hKc := hK.sub (tys' := [(liAC, .object "ChipFlow$Library"), (oAC, .long)]) [0, 2] rfl
  have hFc := va_free (wc := [(x, .inr (12, xg)), (liA, .inl (liAC, (3, .inr (.inr (.inr (.inr liAF)))))), (li0, .inr (5, li0g)), (li1, .inr (5, li1g)), (li2, .inr (5, li2g)), (oA, .inl (oAC, (1, .inr (.inl oAf))))]) hD hS hA [0, 1, 2, 3, 4, 7] rfl
  refine va_calli (vx_runSW (As := [.ref x, .int 1, .int p1, .ref oA]) (rest := []) ⟨hx, hb, hml, hown, hts⟩ (gx104_L_isThere l hlt dC dI _ p1 x liA li0 li1 li2 oA deA chA xg h_x liAC liAF li0g h_li0 li1g h_li1 li2g h_li2 oAC oAf h_oA h_liA0 h_liA1 h_liA2 zk zg) (vx_cwSW 4 hts (gi_W wd_1839 wd_1840 wd_326 wd_1841) rfl rfl rfl (by decide +kernel) ⟨(Nat.le_of_ble_eq_true rfl), (Nat.le_of_ble_eq_true rfl)⟩) ⟨fun a U g mk q => by obtain ⟨q0, q1, qP, qK, qD, qT⟩ := q; exact ⟨q0, q1, qP, va_K.moved (u := U) (U := U.calling g mk a) (Vm.Alike.refl U.vm) qK, qD, th.moved (u := U) (U := U.calling g mk a) (Vm.Alike.refl U.vm) qT⟩, fun U hU hW => ⟨rfl, by rw [hU], by rw [hU]; exact hPc, va_K.moved hW.alike hKc, hDc.weaken (fun _ _ _ _ => trivial), by rw [hU]; exact ((hth.kept hS.2.1).narrow hFc).moved hW.alike⟩⟩ rfl rfl hl.1 rfl (lv_room (Nat.le_of_ble_eq_true rfl)) dL_law_575 ⟨(Nat.le_of_ble_eq_true rfl), (Nat.le_of_ble_eq_true rfl)⟩) hS (fun q _ h => hFc q h) hFc (fun r u t H1 locs ht hvm hw hB hz1 hk1 hS => ?_)
  subst hw
  obtain ⟨fs_1, fs_2, fs_3, fs_4, f_5, h_x, h_li0, h_li1, h_li2, h_oA, hP1, hK1, hD1⟩ := hB
  rw [ht] at hP1
  obtain ⟨hP, hD⟩ := va_join (wr := [(m0, .inr (13, m0g)), (ml, .inl (mlC, (3, .inl (fun _ => 0))))]) (w1 := [(x, .inr (12, fs_1)), (liA, .inl (liAC, (3, .inr (.inr (.inr (.inr liAF)))))), (li0, .inr (5, fs_2)), (li1, .inr (5, fs_3)), (li2, .inr (5, fs_4)), (oA, .inl (oAC, (1, .inr (.inl f_5))))]) hP hD [0, 1, 2, 3, 4, 7] [5, 6] rfl rfl (by decide) (by decide) hk1 hFc hP1 hD1
  have hP := hP.sub (ws' := [(x, .inr (12, fs_1)), (liA, .inl (liAC, (3, .inr (.inr (.inr (.inr liAF)))))), (li0, .inr (5, fs_2)), (li1, .inr (5, fs_3)), (li2, .inr (5, fs_4)), (m0, .inr (13, m0g)), (ml, .inl (mlC, (3, .inl (fun _ => 0)))), (oA, .inl (oAC, (1, .inr (.inl f_5))))]) [2, 3, 4, 5, 6, 0, 1, 7] rfl
  have hD := hD.sub (ws' := [(x, .inr (12, fs_1)), (liA, .inl (liAC, (3, .inr (.inr (.inr (.inr liAF)))))), (li0, .inr (5, fs_2)), (li1, .inr (5, fs_3)), (li2, .inr (5, fs_4)), (m0, .inr (13, m0g)), (ml, .inl (mlC, (3, .inl (fun _ => 0)))), (oA, .inl (oAC, (1, .inr (.inl f_5))))]) [2, 3, 4, 5, 6, 0, 1, 7] (by decide) rfl
  generalize H1 = H at hP hS ⊢
  have hP : va_P (dC, dI) CL [(x, .inr (12, fs_1)), (liA, .inl (liAC, (3, .inr (.inr (.inr (.inr liAF)))))), (li0, .inr (5, fs_2)), (li1, .inr (5, fs_3)), (li2, .inr (5, fs_4)), (m0, .inr (13, m0g)), (ml, .inl (mlC, (3, .inl (fun _ => 0)))), (oA, .inl (oAC, (1, .inr (.inl f_5))))] H := hP
  have hD : va_D A [(x, .inr (12, fs_1)), (liA, .inl (liAC, (3, .inr (.inr (.inr (.inr liAF)))))), (li0, .inr (5, fs_2)), (li1, .inr (5, fs_3)), (li2, .inr (5, fs_4)), (m0, .inr (13, m0g)), (ml, .inl (mlC, (3, .inl (fun _ => 0)))), (oA, .inl (oAC, (1, .inr (.inl f_5))))] := hD
  refine W.widen (k := 452) (n := 2709148) (Nat.le_of_ble_eq_true rfl) (Nat.le_of_ble_eq_true rfl) ?_
  refine lv_istore (lv' := [(5, .int 0), (0, .ref b), (1, .ref x), (2, .ref m0), (3, .ref oA), (4, .int 0)]) hx hb dL_law_578 hl (by decide) rfl (fun ls hl => ?_)
  refine lv_aload_n hx hb dL_law_580 rfl (lv_at hl 3 rfl) ?_
  refine lv_aload_n hx hb dL_law_581 rfl (lv_at hl 1 rfl) ?_
  refine lv_iload hx hb dL_law_582 (lv_at hl 5 rfl) ?_
  refine lv_iconst (v := 1) hx hb dL_law_584 (by decide +kernel) ?_
  refine lv_iadd hx hb dL_law_585 ?_
  refine va_sld hx hb hX hbl hbA hS vi_1 dL_law_586 ?_
  refine lv_topi (fun v9 e9 => ?_)
  obtain rfl : v9 = 1 := e9.trans q0
  refine lv_aload_n hx hb dL_law_587 rfl (lv_at hl 1 rfl) ?_
  refine lv_iload hx hb dL_law_588 (lv_at hl 5 rfl) ?_
  refine lv_iconst (v := 2) hx hb dL_law_590 (by decide +kernel) ?_
  refine lv_iadd hx hb dL_law_591 ?_
  refine va_sld hx hb hX hbl hbA hS vi_2 dL_law_592 ?_
  refine lv_topi (fun v9 e9 => ?_)
  obtain rfl : p1 = v9 := (e9.trans q1).symm
  have hPc := hP.sub (ws' := [(m0, .inr (13, m0g)), (ml, .inl (mlC, (3, .inl (fun _ => 0))))]) [5, 6] rfl
  have hDc := hD.sub (ws' := [(m0, .inr (13, m0g)), (ml, .inl (mlC, (3, .inl (fun _ => 0))))]) [5, 6] (by decide) rfl
  have hKc := hK.sub (tys' := [(mlC, .boolean)]) [1] rfl
  have hFc := va_free (wc := [(m0, .inr (13, m0g)), (ml, .inl (mlC, (3, .inl (fun _ => 0))))]) hD hS hA [5, 6] rfl
  refine va_calli (va_runV (As := [.int 1, .int p1]) (rest := []) ⟨hx, hb, hml, hown, hts⟩ (gx106_X13_isThere l hlt dC dI _ p1 m0 ml md mch m0g h_m0 mlC zk zg) (cwV 2 hts (gi_V wd_4088 wd_4089 wd_4090 wd_340 wd_4091) rfl rfl rfl (by decide +kernel) ⟨(Nat.le_of_ble_eq_true rfl), (Nat.le_of_ble_eq_true rfl)⟩) ⟨fun a U g mk q => by obtain ⟨q0, q1, qP, qK, qD, qT⟩ := q; exact ⟨q0, q1, qP, va_K.moved (u := U) (U := U.calling g mk a) (Vm.Alike.refl U.vm) qK, qD, th.moved (u := U) (U := U.calling g mk a) (Vm.Alike.refl U.vm) qT⟩, va_recv hKc hPc (ci := 13) (q0 := 0) rfl rfl, fun U hU hW => ⟨rfl, by rw [hU], by rw [hU]; exact hPc, va_K.moved hW.alike hKc, hDc.weaken (fun _ _ _ _ => trivial), by rw [hU]; exact ((hth.kept hS.2.1).narrow hFc).moved hW.alike⟩⟩ rfl rfl hl.1 rfl (lv_room (Nat.le_of_ble_eq_true rfl)) dL_law_593 ⟨(Nat.le_of_ble_eq_true rfl), (Nat.le_of_ble_eq_true rfl)⟩) hS (fun q _ h => hFc q h) hFc (fun r u t H1 locs ht hvm hw hB hz1 hk1 hS => ?_)
  subst hw
  obtain ⟨fs_6, h_m0, hP1, hK1, hD1⟩ := hB
  rw [ht] at hP1
  obtain ⟨hP, hD⟩ := va_join (wr := [(x, .inr (12, fs_1)), (liA, .inl (liAC, (3, .inr (.inr (.inr (.inr liAF)))))), (li0, .inr (5, fs_2)), (li1, .inr (5, fs_3)), (li2, .inr (5, fs_4)), (oA, .inl (oAC, (1, .inr (.inl f_5))))]) (w1 := [(m0, .inr (13, fs_6)), (ml, .inl (mlC, (3, .inl (fun _ => 0))))]) hP hD [5, 6] [0, 1, 2, 3, 4, 7] rfl rfl (by decide) (by decide) hk1 hFc hP1 hD1
  have hP := hP.sub (ws' := [(x, .inr (12, fs_1)), (liA, .inl (liAC, (3, .inr (.inr (.inr (.inr liAF)))))), (li0, .inr (5, fs_2)), (li1, .inr (5, fs_3)), (li2, .inr (5, fs_4)), (m0, .inr (13, fs_6)), (ml, .inl (mlC, (3, .inl (fun _ => 0)))), (oA, .inl (oAC, (1, .inr (.inl f_5))))]) [0, 1, 2, 3, 4, 6, 7, 5] rfl
  have hD := hD.sub (ws' := [(x, .inr (12, fs_1)), (liA, .inl (liAC, (3, .inr (.inr (.inr (.inr liAF)))))), (li0, .inr (5, fs_2)), (li1, .inr (5, fs_3)), (li2, .inr (5, fs_4)), (m0, .inr (13, fs_6)), (ml, .inl (mlC, (3, .inl (fun _ => 0)))), (oA, .inl (oAC, (1, .inr (.inl f_5))))]) [0, 1, 2, 3, 4, 6, 7, 5] (by decide) rfl
  generalize H1 = H at hP hS ⊢
  have hP : va_P (dC, dI) CL [(x, .inr (12, fs_1)), (liA, .inl (liAC, (3, .inr (.inr (.inr (.inr liAF)))))), (li0, .inr (5, fs_2)), (li1, .inr (5, fs_3)), (li2, .inr (5, fs_4)), (m0, .inr (13, fs_6)), (ml, .inl (mlC, (3, .inl (fun _ => 0)))), (oA, .inl (oAC, (1, .inr (.inl f_5))))] H := hP
  have hD : va_D A [(x, .inr (12, fs_1)), (liA, .inl (liAC, (3, .inr (.inr (.inr (.inr liAF)))))), (li0, .inr (5, fs_2)), (li1, .inr (5, fs_3)), (li2, .inr (5, fs_4)), (m0, .inr (13, fs_6)), (ml, .inl (mlC, (3, .inl (fun _ => 0)))), (oA, .inl (oAC, (1, .inr (.inl f_5))))] := hD
  refine lv_istore (lv' := [(6, .int 0), (5, .int 0), (0, .ref b), (1, .ref x), (2, .ref m0), (3, .ref oA), (4, .int 0)]) hx hb dL_law_596 hl (by decide) rfl (fun ls hl => ?_)
  refine lv_aload_n hx hb dL_law_598 rfl (lv_at hl 4 rfl) ?_
  have hPc := hP.sub (ws' := [(m0, .inr (13, fs_6))]) [5] rfl
  have hDc := hD.sub (ws' := [(m0, .inr (13, fs_6))]) [5] (by decide) rfl
  have hKc := hK.sub (tys' := []) [] rfl
  have hFc := va_free (wc := [(m0, .inr (13, fs_6))]) hD hS hA [5] rfl
  refine va_calli (va_runV (As := []) (rest := []) ⟨hx, hb, hml, hown, hts⟩ (gx71_X13_thrown l hlt dC dI _ m0 md ml mch fs_6 h_m0) (cwV 0 hts (gi_V wd_3015 wd_3016 wd_3017 wd_340 wd_3018) rfl rfl rfl (by decide +kernel) ⟨(Nat.le_of_ble_eq_true rfl), (Nat.le_of_ble_eq_true rfl)⟩) ⟨fun a U g mk q => by obtain ⟨q0, q1, qP, qK, qD, qT⟩ := q; exact ⟨q0, q1, qP, va_K.moved (u := U) (U := U.calling g mk a) (Vm.Alike.refl U.vm) qK, qD, th.moved (u := U) (U := U.calling g mk a) (Vm.Alike.refl U.vm) qT⟩, va_recv hKc hPc (ci := 13) (q0 := 0) rfl rfl, fun U hU hW => ⟨rfl, by rw [hU], by rw [hU]; exact hPc, va_K.moved hW.alike hKc, hDc.weaken (fun _ _ _ _ => trivial), by rw [hU]; exact ((hth.kept hS.2.1).narrow hFc).moved hW.alike⟩⟩ rfl rfl hl.1 rfl (lv_room (Nat.le_of_ble_eq_true rfl)) dL_law_599 ⟨(Nat.le_of_ble_eq_true rfl), (Nat.le_of_ble_eq_true rfl)⟩) hS (fun q _ h => hFc q h) hFc (fun r u t H1 locs ht hvm hw hB hz1 hk1 hS => ?_)
  subst hw
  obtain ⟨fs_7, h_m0, hP1, hK1, hD1⟩ := hB
  rw [ht] at hP1
  obtain ⟨hP, hD⟩ := va_join (wr := [(x, .inr (12, fs_1)), (liA, .inl (liAC, (3, .inr (.inr (.inr (.inr liAF)))))), (li0, .inr (5, fs_2)), (li1, .inr (5, fs_3)), (li2, .inr (5, fs_4)), (ml, .inl (mlC, (3, .inl (fun _ => 0)))), (oA, .inl (oAC, (1, .inr (.inl f_5))))]) (w1 := [(m0, .inr (13, fs_7))]) hP hD [5] [0, 1, 2, 3, 4, 6, 7] rfl rfl (by decide) (by decide) hk1 hFc hP1 hD1
  have hP := hP.sub (ws' := [(x, .inr (12, fs_1)), (liA, .inl (liAC, (3, .inr (.inr (.inr (.inr liAF)))))), (li0, .inr (5, fs_2)), (li1, .inr (5, fs_3)), (li2, .inr (5, fs_4)), (m0, .inr (13, fs_7)), (ml, .inl (mlC, (3, .inl (fun _ => 0)))), (oA, .inl (oAC, (1, .inr (.inl f_5))))]) [0, 1, 2, 3, 4, 7, 5, 6] rfl
  have hD := hD.sub (ws' := [(x, .inr (12, fs_1)), (liA, .inl (liAC, (3, .inr (.inr (.inr (.inr liAF)))))), (li0, .inr (5, fs_2)), (li1, .inr (5, fs_3)), (li2, .inr (5, fs_4)), (m0, .inr (13, fs_7)), (ml, .inl (mlC, (3, .inl (fun _ => 0)))), (oA, .inl (oAC, (1, .inr (.inl f_5))))]) [0, 1, 2, 3, 4, 7, 5, 6] (by decide) rfl
  generalize H1 = H at hP hS ⊢
  have hP : va_P (dC, dI) CL [(x, .inr (12, fs_1)), (liA, .inl (liAC, (3, .inr (.inr (.inr (.inr liAF)))))), (li0, .inr (5, fs_2)), (li1, .inr (5, fs_3)), (li2, .inr (5, fs_4)), (m0, .inr (13, fs_7)), (ml, .inl (mlC, (3, .inl (fun _ => 0)))), (oA, .inl (oAC, (1, .inr (.inl f_5))))] H := hP
  have hD : va_D A [(x, .inr (12, fs_1)), (liA, .inl (liAC, (3, .inr (.inr (.inr (.inr liAF)))))), (li0, .inr (5, fs_2)), (li1, .inr (5, fs_3)), (li2, .inr (5, fs_4)), (m0, .inr (13, fs_7)), (ml, .inl (mlC, (3, .inl (fun _ => 0)))), (oA, .inl (oAC, (1, .inr (.inl f_5))))] := hD
  refine lv_iload hx hb dL_law_602 (lv_at hl 1 rfl) ?_
  refine lv_icmp_eq (tgt := 609) hx hb dL_law_604 (by decide) (fun c9 => ?_) (fun c9 => ?_)
  rotate_left
  · first | exact absurd c9 (by decide +kernel) | exact absurd (by decide +kernel) c9
  refine lv_iload hx hb dL_law_609 (lv_at hl 1 rfl) ?_
  refine lv_if_ne (tgt := 633) hx hb dL_law_611 (by decide) (fun c9 => ?_) (fun c9 => ?_)
  · first | exact absurd c9 (by decide +kernel) | exact absurd (by decide +kernel) c9
  refine lv_aload_n hx hb dL_law_614 rfl (lv_at hl 5 rfl) ?_
  refine lv_iconst (v := 0) hx hb dL_law_615 (by decide +kernel) ?_
  refine va_lald hx hb hK hP 7 2 rfl rfl (vp_in_nI (n := 0) (N := 1) (by decide) (by decide)) dL_law_616 ?_
  refine lv_topl (fun v9 e9 => ?_)
  obtain rfl : v9 = 0 := e9.trans ((congrArg f_5 (by decide +kernel : (0 : Int32).toNatClampNeg = 0)).trans (h_oA.get 0 rfl))
  refine lv_iload hx hb dL_law_617 (lv_at hl 0 rfl) ?_
  refine lv_if_eq (tgt := 626) hx hb dL_law_619 (by decide) (fun c9 => ?_) (fun c9 => ?_)
  rotate_left
  · first | exact absurd c9 (by decide +kernel) | exact absurd (by decide +kernel) c9
  refine lv_lconst (v := 0) hx hb dL_law_626 (by decide) ?_
  refine hc_lcmpE hx hb dL_law_627 ?_
  refine lv_if_eq (tgt := 633) hx hb dL_law_628 (by decide) (fun c9 => ?_) (fun c9 => ?_)
  rotate_left
  · first | exact absurd c9 (by decide +kernel) | exact absurd (by decide +kernel) c9
  refine lv_goto (tgt := 4099) hx hb dL_law_633 (by decide) ?_
  refine W.widen (k := 470) (n := 2709300) (Nat.le_of_ble_eq_true rfl) (Nat.le_of_ble_eq_true rfl) ?_
  rw [eA] at hS
  exact law_tail (v5 := 0) (v6 := 0) (lv := []) C0 hS (lv_sub hl [2, 6] rfl)
set_option maxHeartbeats 4000000 in
set_option maxRecDepth 100000 in
theorem law_isThere_1k0 {p : Program} {l : Launch} {e : Env} {s : State} {m : MethodId} {below : List Frame} {meth : Method} {c : Code} {b : Nat} {xs : Nat → Int32} (C0 : lw_At p s m meth c b 7 xs) {dC : Nat → ClassId} {dI : Nat → Nat → Nat} (hlt : l.stackTraces = false) (hth : th (fun q : Nat => s.heap.size ≤ q) s s.heap) (q0 : (xs ((0 : Int32) + 1).toNatClampNeg) = 1) (q1 : (xs ((0 : Int32) + 2).toNatClampNeg) = 0) (x liA li0 li1 li2 m0 ml oA deA chA md mch : Nat) (xg : List Value) (h_x : fx xg 17 [(7, .ref deA), (8, .ref liA), (9, .ref chA)]) (liAC : ClassId) (liAF : Nat → Option Nat) (li0g : List Value) (h_li0 : fx li0g 7 [(0, .int 0)]) (li1g : List Value) (h_li1 : fx li1g 7 [(0, .int 0)]) (li2g : List Value) (h_li2 : fx li2g 7 [(0, .int 0)]) (m0g : List Value) (h_m0 : fx m0g 225 [(0, .int 0), (2, .int 0), (3, .int 0), (9, .int 0), (10, .int 0), (11, .int 0), (12, .int 0), (27, .int 0), (55, .ref md), (79, .int 0), (83, .int 0), (88, .ref ml), (95, .int 0), (138, .ref mch)]) (mlC : ClassId) (oAC : ClassId) (oAf : Nat → Int64) (h_oA : fa oAf []) (h_liA0 : liAF 0 = some li0) (h_liA1 : liAF 1 = some li1) (h_liA2 : liAF 2 = some li2) (H : Heap) (locs : List Loc) (hK : va_K (dC, dI) CL [(liAC, .object "ChipFlow$Library"), (mlC, .boolean), (oAC, .long)] s) (hP : va_P (dC, dI) CL [(x, .inr (12, xg)), (liA, .inl (liAC, (3, .inr (.inr (.inr (.inr liAF)))))), (li0, .inr (5, li0g)), (li1, .inr (5, li1g)), (li2, .inr (5, li2g)), (m0, .inr (13, m0g)), (ml, .inl (mlC, (3, .inl (fun _ => 0)))), (oA, .inl (oAC, (1, .inr (.inl oAf))))] H) (hD : va_D (fun q : Nat => s.heap.size ≤ q) [(x, .inr (12, xg)), (liA, .inl (liAC, (3, .inr (.inr (.inr (.inr liAF)))))), (li0, .inr (5, li0g)), (li1, .inr (5, li1g)), (li2, .inr (5, li2g)), (m0, .inr (13, m0g)), (ml, .inl (mlC, (3, .inl (fun _ => 0)))), (oA, .inl (oAC, (1, .inr (.inl oAf))))]) (hS : va_S (fun q : Nat => s.heap.size ≤ q) s.heap H locs) (ls : Array Slot) (hl : lv_has ls 7 [(0, .ref b), (1, .ref x), (2, .ref m0), (3, .ref oA), (4, .int 0)]) : W p l e room_1 s m #[Value.ref b] below meth c H locs 451 2709142 (lw_Z below #[Value.ref b] s) (F0 m 561 ls []) := by
  obtain ⟨hx, hb, hr, hml, hown, hts0, hX, hbl, hlocks, hgv⟩ := id C0
  have hts : ∀ w ∈ BG, w.before _ s = true := fun w h => hts0 w (List.mem_filter.mp h).1
  have hown : s.vm.findClass RL = some m.cls := hown
  obtain ⟨A, eA⟩ : ∃ z : Nat → Prop, z = (fun q : Nat => s.heap.size ≤ q) := ⟨_, rfl⟩
  rw [← eA] at hth hD hS
  have hA : ∀ q : Nat, s.heap.size ≤ q → A q := fun q h => by rw [eA]; exact h
  have hbA : ¬ A b := by rw [eA]; exact Nat.not_le.mpr hbl
  refine lv_aload_n hx hb dL_law_561 rfl (lv_at hl 1 rfl) ?_
  refine lv_aload_n hx hb dL_law_562 rfl (lv_at hl 0 rfl) ?_
  refine lv_iload hx hb dL_law_563 (lv_at hl 4 rfl) ?_
  refine lv_iconst (v := 1) hx hb dL_law_565 (by decide +kernel) ?_
  refine lv_iadd hx hb dL_law_566 ?_
  refine va_sld hx hb hX hbl hbA hS vi_1 dL_law_567 ?_
  refine lv_topi (fun v9 e9 => ?_)
  obtain rfl : v9 = 1 := e9.trans q0
  refine lv_aload_n hx hb dL_law_568 rfl (lv_at hl 0 rfl) ?_
  refine lv_iload hx hb dL_law_569 (lv_at hl 4 rfl) ?_
  refine lv_iconst (v := 2) hx hb dL_law_571 (by decide +kernel) ?_
  refine lv_iadd hx hb dL_law_572 ?_
  refine va_sld hx hb hX hbl hbA hS vi_2 dL_law_573 ?_
  refine lv_topi (fun v9 e9 => ?_)
  obtain rfl : v9 = 0 := e9.trans q1
  refine lv_aload_n hx hb dL_law_574 rfl (lv_at hl 3 rfl) ?_
  have hPc := hP.sub (ws' := [(x, .inr (12, xg)), (liA, .inl (liAC, (3, .inr (.inr (.inr (.inr liAF)))))), (li0, .inr (5, li0g)), (li1, .inr (5, li1g)), (li2, .inr (5, li2g)), (oA, .inl (oAC, (1, .inr (.inl oAf))))]) [0, 1, 2, 3, 4, 7] rfl
  have hDc := hD.sub (ws' := [(x, .inr (12, xg)), (liA, .inl (liAC, (3, .inr (.inr (.inr (.inr liAF)))))), (li0, .inr (5, li0g)), (li1, .inr (5, li1g)), (li2, .inr (5, li2g)), (oA, .inl (oAC, (1, .inr (.inl oAf))))]) [0, 1, 2, 3, 4, 7] (by decide) rfl
  have hKc := hK.sub (tys' := [(liAC, .object "ChipFlow$Library"), (oAC, .long)]) [0, 2] rfl
  have hFc := va_free (wc := [(x, .inr (12, xg)), (liA, .inl (liAC, (3, .inr (.inr (.inr (.inr liAF)))))), (li0, .inr (5, li0g)), (li1, .inr (5, li1g)), (li2, .inr (5, li2g)), (oA, .inl (oAC, (1, .inr (.inl oAf))))]) hD hS hA [0, 1, 2, 3, 4, 7] rfl
  refine va_calli (vx_runSW (As := [.ref x, .int 1, .int 0, .ref oA]) (rest := []) ⟨hx, hb, hml, hown, hts⟩ (gx108_L_isThere l hlt dC dI _ x liA li0 li1 li2 oA deA chA xg h_x liAC liAF li0g h_li0 li1g h_li1 li2g h_li2 oAC oAf h_oA h_liA0 h_liA1 h_liA2) (vx_cwSW 4 hts (gi_W wd_1839 wd_1840 wd_326 wd_1841) rfl rfl rfl (by decide +kernel) ⟨(Nat.le_of_ble_eq_true rfl), (Nat.le_of_ble_eq_true rfl)⟩) ⟨fun a U g mk q => by obtain ⟨q0, q1, qP, qK, qD, qT⟩ := q; exact ⟨q0, q1, qP, va_K.moved (u := U) (U := U.calling g mk a) (Vm.Alike.refl U.vm) qK, qD, th.moved (u := U) (U := U.calling g mk a) (Vm.Alike.refl U.vm) qT⟩, fun U hU hW => ⟨rfl, by rw [hU], by rw [hU]; exact hPc, va_K.moved hW.alike hKc, hDc.weaken (fun _ _ _ _ => trivial), by rw [hU]; exact ((hth.kept hS.2.1).narrow hFc).moved hW.alike⟩⟩ rfl rfl hl.1 rfl (lv_room (Nat.le_of_ble_eq_true rfl)) dL_law_575 ⟨(Nat.le_of_ble_eq_true rfl), (Nat.le_of_ble_eq_true rfl)⟩) hS (fun q _ h => hFc q h) hFc (fun r u t H1 locs ht hvm hw hB hz1 hk1 hS => ?_)
  subst hw
  obtain ⟨fs_1, fs_2, fs_3, fs_4, f_5, h_x, h_li0, h_li1, h_li2, h_oA, hP1, hK1, hD1⟩ := hB
  rw [ht] at hP1
  obtain ⟨hP, hD⟩ := va_join (wr := [(m0, .inr (13, m0g)), (ml, .inl (mlC, (3, .inl (fun _ => 0))))]) (w1 := [(x, .inr (12, fs_1)), (liA, .inl (liAC, (3, .inr (.inr (.inr (.inr liAF)))))), (li0, .inr (5, fs_2)), (li1, .inr (5, fs_3)), (li2, .inr (5, fs_4)), (oA, .inl (oAC, (1, .inr (.inl f_5))))]) hP hD [0, 1, 2, 3, 4, 7] [5, 6] rfl rfl (by decide) (by decide) hk1 hFc hP1 hD1
  have hP := hP.sub (ws' := [(x, .inr (12, fs_1)), (liA, .inl (liAC, (3, .inr (.inr (.inr (.inr liAF)))))), (li0, .inr (5, fs_2)), (li1, .inr (5, fs_3)), (li2, .inr (5, fs_4)), (m0, .inr (13, m0g)), (ml, .inl (mlC, (3, .inl (fun _ => 0)))), (oA, .inl (oAC, (1, .inr (.inl f_5))))]) [2, 3, 4, 5, 6, 0, 1, 7] rfl
  have hD := hD.sub (ws' := [(x, .inr (12, fs_1)), (liA, .inl (liAC, (3, .inr (.inr (.inr (.inr liAF)))))), (li0, .inr (5, fs_2)), (li1, .inr (5, fs_3)), (li2, .inr (5, fs_4)), (m0, .inr (13, m0g)), (ml, .inl (mlC, (3, .inl (fun _ => 0)))), (oA, .inl (oAC, (1, .inr (.inl f_5))))]) [2, 3, 4, 5, 6, 0, 1, 7] (by decide) rfl
  generalize H1 = H at hP hS ⊢
  have hP : va_P (dC, dI) CL [(x, .inr (12, fs_1)), (liA, .inl (liAC, (3, .inr (.inr (.inr (.inr liAF)))))), (li0, .inr (5, fs_2)), (li1, .inr (5, fs_3)), (li2, .inr (5, fs_4)), (m0, .inr (13, m0g)), (ml, .inl (mlC, (3, .inl (fun _ => 0)))), (oA, .inl (oAC, (1, .inr (.inl f_5))))] H := hP
  have hD : va_D A [(x, .inr (12, fs_1)), (liA, .inl (liAC, (3, .inr (.inr (.inr (.inr liAF)))))), (li0, .inr (5, fs_2)), (li1, .inr (5, fs_3)), (li2, .inr (5, fs_4)), (m0, .inr (13, m0g)), (ml, .inl (mlC, (3, .inl (fun _ => 0)))), (oA, .inl (oAC, (1, .inr (.inl f_5))))] := hD
  refine W.widen (k := 452) (n := 2709148) (Nat.le_of_ble_eq_true rfl) (Nat.le_of_ble_eq_true rfl) ?_
  refine lv_istore (lv' := [(5, .int 0), (0, .ref b), (1, .ref x), (2, .ref m0), (3, .ref oA), (4, .int 0)]) hx hb dL_law_578 hl (by decide) rfl (fun ls hl => ?_)
  refine lv_aload_n hx hb dL_law_580 rfl (lv_at hl 3 rfl) ?_
  refine lv_aload_n hx hb dL_law_581 rfl (lv_at hl 1 rfl) ?_
  refine lv_iload hx hb dL_law_582 (lv_at hl 5 rfl) ?_
  refine lv_iconst (v := 1) hx hb dL_law_584 (by decide +kernel) ?_
  refine lv_iadd hx hb dL_law_585 ?_
  refine va_sld hx hb hX hbl hbA hS vi_1 dL_law_586 ?_
  refine lv_topi (fun v9 e9 => ?_)
  obtain rfl : v9 = 1 := e9.trans q0
  refine lv_aload_n hx hb dL_law_587 rfl (lv_at hl 1 rfl) ?_
  refine lv_iload hx hb dL_law_588 (lv_at hl 5 rfl) ?_
  refine lv_iconst (v := 2) hx hb dL_law_590 (by decide +kernel) ?_
  refine lv_iadd hx hb dL_law_591 ?_
  refine va_sld hx hb hX hbl hbA hS vi_2 dL_law_592 ?_
  refine lv_topi (fun v9 e9 => ?_)
  obtain rfl : v9 = 0 := e9.trans q1
  have hPc := hP.sub (ws' := [(m0, .inr (13, m0g)), (ml, .inl (mlC, (3, .inl (fun _ => 0))))]) [5, 6] rfl
  have hDc := hD.sub (ws' := [(m0, .inr (13, m0g)), (ml, .inl (mlC, (3, .inl (fun _ => 0))))]) [5, 6] (by decide) rfl
  have hKc := hK.sub (tys' := [(mlC, .boolean)]) [1] rfl
  have hFc := va_free (wc := [(m0, .inr (13, m0g)), (ml, .inl (mlC, (3, .inl (fun _ => 0))))]) hD hS hA [5, 6] rfl
  refine va_calli (va_runV (As := [.int 1, .int 0]) (rest := []) ⟨hx, hb, hml, hown, hts⟩ (gx110_X13_isThere l hlt dC dI _ m0 ml md mch m0g h_m0 mlC) (cwV 2 hts (gi_V wd_4088 wd_4089 wd_4090 wd_340 wd_4091) rfl rfl rfl (by decide +kernel) ⟨(Nat.le_of_ble_eq_true rfl), (Nat.le_of_ble_eq_true rfl)⟩) ⟨fun a U g mk q => by obtain ⟨q0, q1, qP, qK, qD, qT⟩ := q; exact ⟨q0, q1, qP, va_K.moved (u := U) (U := U.calling g mk a) (Vm.Alike.refl U.vm) qK, qD, th.moved (u := U) (U := U.calling g mk a) (Vm.Alike.refl U.vm) qT⟩, va_recv hKc hPc (ci := 13) (q0 := 0) rfl rfl, fun U hU hW => ⟨rfl, by rw [hU], by rw [hU]; exact hPc, va_K.moved hW.alike hKc, hDc.weaken (fun _ _ _ _ => trivial), by rw [hU]; exact ((hth.kept hS.2.1).narrow hFc).moved hW.alike⟩⟩ rfl rfl hl.1 rfl (lv_room (Nat.le_of_ble_eq_true rfl)) dL_law_593 ⟨(Nat.le_of_ble_eq_true rfl), (Nat.le_of_ble_eq_true rfl)⟩) hS (fun q _ h => hFc q h) hFc (fun r u t H1 locs ht hvm hw hB hz1 hk1 hS => ?_)
  subst hw
  obtain ⟨fs_6, h_m0, hP1, hK1, hD1⟩ := hB
  rw [ht] at hP1
  obtain ⟨hP, hD⟩ := va_join (wr := [(x, .inr (12, fs_1)), (liA, .inl (liAC, (3, .inr (.inr (.inr (.inr liAF)))))), (li0, .inr (5, fs_2)), (li1, .inr (5, fs_3)), (li2, .inr (5, fs_4)), (oA, .inl (oAC, (1, .inr (.inl f_5))))]) (w1 := [(m0, .inr (13, fs_6)), (ml, .inl (mlC, (3, .inl (fun _ => 0))))]) hP hD [5, 6] [0, 1, 2, 3, 4, 7] rfl rfl (by decide) (by decide) hk1 hFc hP1 hD1
  have hP := hP.sub (ws' := [(x, .inr (12, fs_1)), (liA, .inl (liAC, (3, .inr (.inr (.inr (.inr liAF)))))), (li0, .inr (5, fs_2)), (li1, .inr (5, fs_3)), (li2, .inr (5, fs_4)), (m0, .inr (13, fs_6)), (ml, .inl (mlC, (3, .inl (fun _ => 0)))), (oA, .inl (oAC, (1, .inr (.inl f_5))))]) [0, 1, 2, 3, 4, 6, 7, 5] rfl
  have hD := hD.sub (ws' := [(x, .inr (12, fs_1)), (liA, .inl (liAC, (3, .inr (.inr (.inr (.inr liAF)))))), (li0, .inr (5, fs_2)), (li1, .inr (5, fs_3)), (li2, .inr (5, fs_4)), (m0, .inr (13, fs_6)), (ml, .inl (mlC, (3, .inl (fun _ => 0)))), (oA, .inl (oAC, (1, .inr (.inl f_5))))]) [0, 1, 2, 3, 4, 6, 7, 5] (by decide) rfl
  generalize H1 = H at hP hS ⊢
  have hP : va_P (dC, dI) CL [(x, .inr (12, fs_1)), (liA, .inl (liAC, (3, .inr (.inr (.inr (.inr liAF)))))), (li0, .inr (5, fs_2)), (li1, .inr (5, fs_3)), (li2, .inr (5, fs_4)), (m0, .inr (13, fs_6)), (ml, .inl (mlC, (3, .inl (fun _ => 0)))), (oA, .inl (oAC, (1, .inr (.inl f_5))))] H := hP
  have hD : va_D A [(x, .inr (12, fs_1)), (liA, .inl (liAC, (3, .inr (.inr (.inr (.inr liAF)))))), (li0, .inr (5, fs_2)), (li1, .inr (5, fs_3)), (li2, .inr (5, fs_4)), (m0, .inr (13, fs_6)), (ml, .inl (mlC, (3, .inl (fun _ => 0)))), (oA, .inl (oAC, (1, .inr (.inl f_5))))] := hD
  refine lv_istore (lv' := [(6, .int 0), (5, .int 0), (0, .ref b), (1, .ref x), (2, .ref m0), (3, .ref oA), (4, .int 0)]) hx hb dL_law_596 hl (by decide) rfl (fun ls hl => ?_)
  refine lv_aload_n hx hb dL_law_598 rfl (lv_at hl 4 rfl) ?_
  have hPc := hP.sub (ws' := [(m0, .inr (13, fs_6))]) [5] rfl
  have hDc := hD.sub (ws' := [(m0, .inr (13, fs_6))]) [5] (by decide) rfl
  have hKc := hK.sub (tys' := []) [] rfl
  have hFc := va_free (wc := [(m0, .inr (13, fs_6))]) hD hS hA [5] rfl
  refine va_calli (va_runV (As := []) (rest := []) ⟨hx, hb, hml, hown, hts⟩ (gx71_X13_thrown l hlt dC dI _ m0 md ml mch fs_6 h_m0) (cwV 0 hts (gi_V wd_3015 wd_3016 wd_3017 wd_340 wd_3018) rfl rfl rfl (by decide +kernel) ⟨(Nat.le_of_ble_eq_true rfl), (Nat.le_of_ble_eq_true rfl)⟩) ⟨fun a U g mk q => by obtain ⟨q0, q1, qP, qK, qD, qT⟩ := q; exact ⟨q0, q1, qP, va_K.moved (u := U) (U := U.calling g mk a) (Vm.Alike.refl U.vm) qK, qD, th.moved (u := U) (U := U.calling g mk a) (Vm.Alike.refl U.vm) qT⟩, va_recv hKc hPc (ci := 13) (q0 := 0) rfl rfl, fun U hU hW => ⟨rfl, by rw [hU], by rw [hU]; exact hPc, va_K.moved hW.alike hKc, hDc.weaken (fun _ _ _ _ => trivial), by rw [hU]; exact ((hth.kept hS.2.1).narrow hFc).moved hW.alike⟩⟩ rfl rfl hl.1 rfl (lv_room (Nat.le_of_ble_eq_true rfl)) dL_law_599 ⟨(Nat.le_of_ble_eq_true rfl), (Nat.le_of_ble_eq_true rfl)⟩) hS (fun q _ h => hFc q h) hFc (fun r u t H1 locs ht hvm hw hB hz1 hk1 hS => ?_)
  subst hw
  obtain ⟨fs_7, h_m0, hP1, hK1, hD1⟩ := hB
  rw [ht] at hP1
  obtain ⟨hP, hD⟩ := va_join (wr := [(x, .inr (12, fs_1)), (liA, .inl (liAC, (3, .inr (.inr (.inr (.inr liAF)))))), (li0, .inr (5, fs_2)), (li1, .inr (5, fs_3)), (li2, .inr (5, fs_4)), (ml, .inl (mlC, (3, .inl (fun _ => 0)))), (oA, .inl (oAC, (1, .inr (.inl f_5))))]) (w1 := [(m0, .inr (13, fs_7))]) hP hD [5] [0, 1, 2, 3, 4, 6, 7] rfl rfl (by decide) (by decide) hk1 hFc hP1 hD1
  have hP := hP.sub (ws' := [(x, .inr (12, fs_1)), (liA, .inl (liAC, (3, .inr (.inr (.inr (.inr liAF)))))), (li0, .inr (5, fs_2)), (li1, .inr (5, fs_3)), (li2, .inr (5, fs_4)), (m0, .inr (13, fs_7)), (ml, .inl (mlC, (3, .inl (fun _ => 0)))), (oA, .inl (oAC, (1, .inr (.inl f_5))))]) [0, 1, 2, 3, 4, 7, 5, 6] rfl
  have hD := hD.sub (ws' := [(x, .inr (12, fs_1)), (liA, .inl (liAC, (3, .inr (.inr (.inr (.inr liAF)))))), (li0, .inr (5, fs_2)), (li1, .inr (5, fs_3)), (li2, .inr (5, fs_4)), (m0, .inr (13, fs_7)), (ml, .inl (mlC, (3, .inl (fun _ => 0)))), (oA, .inl (oAC, (1, .inr (.inl f_5))))]) [0, 1, 2, 3, 4, 7, 5, 6] (by decide) rfl
  generalize H1 = H at hP hS ⊢
  have hP : va_P (dC, dI) CL [(x, .inr (12, fs_1)), (liA, .inl (liAC, (3, .inr (.inr (.inr (.inr liAF)))))), (li0, .inr (5, fs_2)), (li1, .inr (5, fs_3)), (li2, .inr (5, fs_4)), (m0, .inr (13, fs_7)), (ml, .inl (mlC, (3, .inl (fun _ => 0)))), (oA, .inl (oAC, (1, .inr (.inl f_5))))] H := hP
  have hD : va_D A [(x, .inr (12, fs_1)), (liA, .inl (liAC, (3, .inr (.inr (.inr (.inr liAF)))))), (li0, .inr (5, fs_2)), (li1, .inr (5, fs_3)), (li2, .inr (5, fs_4)), (m0, .inr (13, fs_7)), (ml, .inl (mlC, (3, .inl (fun _ => 0)))), (oA, .inl (oAC, (1, .inr (.inl f_5))))] := hD
  refine lv_iload hx hb dL_law_602 (lv_at hl 1 rfl) ?_
  refine lv_icmp_eq (tgt := 609) hx hb dL_law_604 (by decide) (fun c9 => ?_) (fun c9 => ?_)
  rotate_left
  · first | exact absurd c9 (by decide +kernel) | exact absurd (by decide +kernel) c9
  refine lv_iload hx hb dL_law_609 (lv_at hl 1 rfl) ?_
  refine lv_if_ne (tgt := 633) hx hb dL_law_611 (by decide) (fun c9 => ?_) (fun c9 => ?_)
  · first | exact absurd c9 (by decide +kernel) | exact absurd (by decide +kernel) c9
  refine lv_aload_n hx hb dL_law_614 rfl (lv_at hl 5 rfl) ?_
  refine lv_iconst (v := 0) hx hb dL_law_615 (by decide +kernel) ?_
  refine va_lald hx hb hK hP 7 2 rfl rfl (vp_in_nI (n := 0) (N := 1) (by decide) (by decide)) dL_law_616 ?_
  refine lv_topl (fun v9 e9 => ?_)
  obtain rfl : v9 = 0 := e9.trans ((congrArg f_5 (by decide +kernel : (0 : Int32).toNatClampNeg = 0)).trans (h_oA.get 0 rfl))
  refine lv_iload hx hb dL_law_617 (lv_at hl 0 rfl) ?_
  refine lv_if_eq (tgt := 626) hx hb dL_law_619 (by decide) (fun c9 => ?_) (fun c9 => ?_)
  rotate_left
  · first | exact absurd c9 (by decide +kernel) | exact absurd (by decide +kernel) c9
  refine lv_lconst (v := 0) hx hb dL_law_626 (by decide) ?_
  refine hc_lcmpE hx hb dL_law_627 ?_
  refine lv_if_eq (tgt := 633) hx hb dL_law_628 (by decide) (fun c9 => ?_) (fun c9 => ?_)
  rotate_left
  · first | exact absurd c9 (by decide +kernel) | exact absurd (by decide +kernel) c9
  refine lv_goto (tgt := 4099) hx hb dL_law_633 (by decide) ?_
  refine W.widen (k := 470) (n := 2709300) (Nat.le_of_ble_eq_true rfl) (Nat.le_of_ble_eq_true rfl) ?_
  rw [eA] at hS
  exact law_tail (v5 := 0) (v6 := 0) (lv := []) C0 hS (lv_sub hl [2, 6] rfl)
set_option maxHeartbeats 4000000 in
set_option maxRecDepth 100000 in
theorem law_isThere_1k1 {p : Program} {l : Launch} {e : Env} {s : State} {m : MethodId} {below : List Frame} {meth : Method} {c : Code} {b : Nat} {xs : Nat → Int32} (C0 : lw_At p s m meth c b 7 xs) {dC : Nat → ClassId} {dI : Nat → Nat → Nat} (hlt : l.stackTraces = false) (hth : th (fun q : Nat => s.heap.size ≤ q) s s.heap) (q0 : (xs ((0 : Int32) + 1).toNatClampNeg) = 1) (q1 : (xs ((0 : Int32) + 2).toNatClampNeg) = 1) (x liA li0 li1 li2 m0 ml oA deA chA md mch : Nat) (xg : List Value) (h_x : fx xg 17 [(7, .ref deA), (8, .ref liA), (9, .ref chA)]) (liAC : ClassId) (liAF : Nat → Option Nat) (li0g : List Value) (h_li0 : fx li0g 7 [(0, .int 0)]) (li1g : List Value) (h_li1 : fx li1g 7 [(0, .int 0)]) (li2g : List Value) (h_li2 : fx li2g 7 [(0, .int 0)]) (m0g : List Value) (h_m0 : fx m0g 225 [(0, .int 0), (2, .int 0), (3, .int 0), (9, .int 0), (10, .int 0), (11, .int 0), (12, .int 0), (27, .int 0), (55, .ref md), (79, .int 0), (83, .int 0), (88, .ref ml), (95, .int 0), (138, .ref mch)]) (mlC : ClassId) (oAC : ClassId) (oAf : Nat → Int64) (h_oA : fa oAf []) (h_liA0 : liAF 0 = some li0) (h_liA1 : liAF 1 = some li1) (h_liA2 : liAF 2 = some li2) (H : Heap) (locs : List Loc) (hK : va_K (dC, dI) CL [(liAC, .object "ChipFlow$Library"), (mlC, .boolean), (oAC, .long)] s) (hP : va_P (dC, dI) CL [(x, .inr (12, xg)), (liA, .inl (liAC, (3, .inr (.inr (.inr (.inr liAF)))))), (li0, .inr (5, li0g)), (li1, .inr (5, li1g)), (li2, .inr (5, li2g)), (m0, .inr (13, m0g)), (ml, .inl (mlC, (3, .inl (fun _ => 0)))), (oA, .inl (oAC, (1, .inr (.inl oAf))))] H) (hD : va_D (fun q : Nat => s.heap.size ≤ q) [(x, .inr (12, xg)), (liA, .inl (liAC, (3, .inr (.inr (.inr (.inr liAF)))))), (li0, .inr (5, li0g)), (li1, .inr (5, li1g)), (li2, .inr (5, li2g)), (m0, .inr (13, m0g)), (ml, .inl (mlC, (3, .inl (fun _ => 0)))), (oA, .inl (oAC, (1, .inr (.inl oAf))))]) (hS : va_S (fun q : Nat => s.heap.size ≤ q) s.heap H locs) (ls : Array Slot) (hl : lv_has ls 7 [(0, .ref b), (1, .ref x), (2, .ref m0), (3, .ref oA), (4, .int 0)]) : W p l e room_1 s m #[Value.ref b] below meth c H locs 451 2709142 (lw_Z below #[Value.ref b] s) (F0 m 561 ls []) := by
  obtain ⟨hx, hb, hr, hml, hown, hts0, hX, hbl, hlocks, hgv⟩ := id C0
  have hts : ∀ w ∈ BG, w.before _ s = true := fun w h => hts0 w (List.mem_filter.mp h).1
  have hown : s.vm.findClass RL = some m.cls := hown
  obtain ⟨A, eA⟩ : ∃ z : Nat → Prop, z = (fun q : Nat => s.heap.size ≤ q) := ⟨_, rfl⟩
  rw [← eA] at hth hD hS
  have hA : ∀ q : Nat, s.heap.size ≤ q → A q := fun q h => by rw [eA]; exact h
  have hbA : ¬ A b := by rw [eA]; exact Nat.not_le.mpr hbl
  refine lv_aload_n hx hb dL_law_561 rfl (lv_at hl 1 rfl) ?_
  refine lv_aload_n hx hb dL_law_562 rfl (lv_at hl 0 rfl) ?_
  refine lv_iload hx hb dL_law_563 (lv_at hl 4 rfl) ?_
  refine lv_iconst (v := 1) hx hb dL_law_565 (by decide +kernel) ?_
  refine lv_iadd hx hb dL_law_566 ?_
  refine va_sld hx hb hX hbl hbA hS vi_1 dL_law_567 ?_
  refine lv_topi (fun v9 e9 => ?_)
  obtain rfl : v9 = 1 := e9.trans q0
  refine lv_aload_n hx hb dL_law_568 rfl (lv_at hl 0 rfl) ?_
  refine lv_iload hx hb dL_law_569 (lv_at hl 4 rfl) ?_
  refine lv_iconst (v := 2) hx hb dL_law_571 (by decide +kernel) ?_
  refine lv_iadd hx hb dL_law_572 ?_
  refine va_sld hx hb hX hbl hbA hS vi_2 dL_law_573 ?_
  refine lv_topi (fun v9 e9 => ?_)
  obtain rfl : v9 = 1 := e9.trans q1
  refine lv_aload_n hx hb dL_law_574 rfl (lv_at hl 3 rfl) ?_
  have hPc := hP.sub (ws' := [(x, .inr (12, xg)), (liA, .inl (liAC, (3, .inr (.inr (.inr (.inr liAF)))))), (li0, .inr (5, li0g)), (li1, .inr (5, li1g)), (li2, .inr (5, li2g)), (oA, .inl (oAC, (1, .inr (.inl oAf))))]) [0, 1, 2, 3, 4, 7] rfl
  have hDc := hD.sub (ws' := [(x, .inr (12, xg)), (liA, .inl (liAC, (3, .inr (.inr (.inr (.inr liAF)))))), (li0, .inr (5, li0g)), (li1, .inr (5, li1g)), (li2, .inr (5, li2g)), (oA, .inl (oAC, (1, .inr (.inl oAf))))]) [0, 1, 2, 3, 4, 7] (by decide) rfl
  have hKc := hK.sub (tys' := [(liAC, .object "ChipFlow$Library"), (oAC, .long)]) [0, 2] rfl
  have hFc := va_free (wc := [(x, .inr (12, xg)), (liA, .inl (liAC, (3, .inr (.inr (.inr (.inr liAF)))))), (li0, .inr (5, li0g)), (li1, .inr (5, li1g)), (li2, .inr (5, li2g)), (oA, .inl (oAC, (1, .inr (.inl oAf))))]) hD hS hA [0, 1, 2, 3, 4, 7] rfl
  refine va_calli (vx_runSW (As := [.ref x, .int 1, .int 1, .ref oA]) (rest := []) ⟨hx, hb, hml, hown, hts⟩ (gx112_L_isThere l hlt dC dI _ x liA li0 li1 li2 oA deA chA xg h_x liAC liAF li0g h_li0 li1g h_li1 li2g h_li2 oAC oAf h_oA h_liA0 h_liA1 h_liA2) (vx_cwSW 4 hts (gi_W wd_1839 wd_1840 wd_326 wd_1841) rfl rfl rfl (by decide +kernel) ⟨(Nat.le_of_ble_eq_true rfl), (Nat.le_of_ble_eq_true rfl)⟩) ⟨fun a U g mk q => by obtain ⟨q0, q1, qP, qK, qD, qT⟩ := q; exact ⟨q0, q1, qP, va_K.moved (u := U) (U := U.calling g mk a) (Vm.Alike.refl U.vm) qK, qD, th.moved (u := U) (U := U.calling g mk a) (Vm.Alike.refl U.vm) qT⟩, fun U hU hW => ⟨rfl, by rw [hU], by rw [hU]; exact hPc, va_K.moved hW.alike hKc, hDc.weaken (fun _ _ _ _ => trivial), by rw [hU]; exact ((hth.kept hS.2.1).narrow hFc).moved hW.alike⟩⟩ rfl rfl hl.1 rfl (lv_room (Nat.le_of_ble_eq_true rfl)) dL_law_575 ⟨(Nat.le_of_ble_eq_true rfl), (Nat.le_of_ble_eq_true rfl)⟩) hS (fun q _ h => hFc q h) hFc (fun r u t H1 locs ht hvm hw hB hz1 hk1 hS => ?_)
  subst hw
  obtain ⟨fs_1, fs_2, fs_3, fs_4, f_5, h_x, h_li0, h_li1, h_li2, h_oA, hP1, hK1, hD1⟩ := hB
  rw [ht] at hP1
  obtain ⟨hP, hD⟩ := va_join (wr := [(m0, .inr (13, m0g)), (ml, .inl (mlC, (3, .inl (fun _ => 0))))]) (w1 := [(x, .inr (12, fs_1)), (liA, .inl (liAC, (3, .inr (.inr (.inr (.inr liAF)))))), (li0, .inr (5, fs_2)), (li1, .inr (5, fs_3)), (li2, .inr (5, fs_4)), (oA, .inl (oAC, (1, .inr (.inl f_5))))]) hP hD [0, 1, 2, 3, 4, 7] [5, 6] rfl rfl (by decide) (by decide) hk1 hFc hP1 hD1
  have hP := hP.sub (ws' := [(x, .inr (12, fs_1)), (liA, .inl (liAC, (3, .inr (.inr (.inr (.inr liAF)))))), (li0, .inr (5, fs_2)), (li1, .inr (5, fs_3)), (li2, .inr (5, fs_4)), (m0, .inr (13, m0g)), (ml, .inl (mlC, (3, .inl (fun _ => 0)))), (oA, .inl (oAC, (1, .inr (.inl f_5))))]) [2, 3, 4, 5, 6, 0, 1, 7] rfl
  have hD := hD.sub (ws' := [(x, .inr (12, fs_1)), (liA, .inl (liAC, (3, .inr (.inr (.inr (.inr liAF)))))), (li0, .inr (5, fs_2)), (li1, .inr (5, fs_3)), (li2, .inr (5, fs_4)), (m0, .inr (13, m0g)), (ml, .inl (mlC, (3, .inl (fun _ => 0)))), (oA, .inl (oAC, (1, .inr (.inl f_5))))]) [2, 3, 4, 5, 6, 0, 1, 7] (by decide) rfl
  generalize H1 = H at hP hS ⊢
  have hP : va_P (dC, dI) CL [(x, .inr (12, fs_1)), (liA, .inl (liAC, (3, .inr (.inr (.inr (.inr liAF)))))), (li0, .inr (5, fs_2)), (li1, .inr (5, fs_3)), (li2, .inr (5, fs_4)), (m0, .inr (13, m0g)), (ml, .inl (mlC, (3, .inl (fun _ => 0)))), (oA, .inl (oAC, (1, .inr (.inl f_5))))] H := hP
  have hD : va_D A [(x, .inr (12, fs_1)), (liA, .inl (liAC, (3, .inr (.inr (.inr (.inr liAF)))))), (li0, .inr (5, fs_2)), (li1, .inr (5, fs_3)), (li2, .inr (5, fs_4)), (m0, .inr (13, m0g)), (ml, .inl (mlC, (3, .inl (fun _ => 0)))), (oA, .inl (oAC, (1, .inr (.inl f_5))))] := hD
  refine W.widen (k := 452) (n := 2709148) (Nat.le_of_ble_eq_true rfl) (Nat.le_of_ble_eq_true rfl) ?_
  refine lv_istore (lv' := [(5, .int 0), (0, .ref b), (1, .ref x), (2, .ref m0), (3, .ref oA), (4, .int 0)]) hx hb dL_law_578 hl (by decide) rfl (fun ls hl => ?_)
  refine lv_aload_n hx hb dL_law_580 rfl (lv_at hl 3 rfl) ?_
  refine lv_aload_n hx hb dL_law_581 rfl (lv_at hl 1 rfl) ?_
  refine lv_iload hx hb dL_law_582 (lv_at hl 5 rfl) ?_
  refine lv_iconst (v := 1) hx hb dL_law_584 (by decide +kernel) ?_
  refine lv_iadd hx hb dL_law_585 ?_
  refine va_sld hx hb hX hbl hbA hS vi_1 dL_law_586 ?_
  refine lv_topi (fun v9 e9 => ?_)
  obtain rfl : v9 = 1 := e9.trans q0
  refine lv_aload_n hx hb dL_law_587 rfl (lv_at hl 1 rfl) ?_
  refine lv_iload hx hb dL_law_588 (lv_at hl 5 rfl) ?_
  refine lv_iconst (v := 2) hx hb dL_law_590 (by decide +kernel) ?_
  refine lv_iadd hx hb dL_law_591 ?_
  refine va_sld hx hb hX hbl hbA hS vi_2 dL_law_592 ?_
  refine lv_topi (fun v9 e9 => ?_)
  obtain rfl : v9 = 1 := e9.trans q1
  have hPc := hP.sub (ws' := [(m0, .inr (13, m0g)), (ml, .inl (mlC, (3, .inl (fun _ => 0))))]) [5, 6] rfl
  have hDc := hD.sub (ws' := [(m0, .inr (13, m0g)), (ml, .inl (mlC, (3, .inl (fun _ => 0))))]) [5, 6] (by decide) rfl
  have hKc := hK.sub (tys' := [(mlC, .boolean)]) [1] rfl
  have hFc := va_free (wc := [(m0, .inr (13, m0g)), (ml, .inl (mlC, (3, .inl (fun _ => 0))))]) hD hS hA [5, 6] rfl
  refine va_calli (va_runV (As := [.int 1, .int 1]) (rest := []) ⟨hx, hb, hml, hown, hts⟩ (gx114_X13_isThere l hlt dC dI _ m0 ml md mch m0g h_m0 mlC) (cwV 2 hts (gi_V wd_4088 wd_4089 wd_4090 wd_340 wd_4091) rfl rfl rfl (by decide +kernel) ⟨(Nat.le_of_ble_eq_true rfl), (Nat.le_of_ble_eq_true rfl)⟩) ⟨fun a U g mk q => by obtain ⟨q0, q1, qP, qK, qD, qT⟩ := q; exact ⟨q0, q1, qP, va_K.moved (u := U) (U := U.calling g mk a) (Vm.Alike.refl U.vm) qK, qD, th.moved (u := U) (U := U.calling g mk a) (Vm.Alike.refl U.vm) qT⟩, va_recv hKc hPc (ci := 13) (q0 := 0) rfl rfl, fun U hU hW => ⟨rfl, by rw [hU], by rw [hU]; exact hPc, va_K.moved hW.alike hKc, hDc.weaken (fun _ _ _ _ => trivial), by rw [hU]; exact ((hth.kept hS.2.1).narrow hFc).moved hW.alike⟩⟩ rfl rfl hl.1 rfl (lv_room (Nat.le_of_ble_eq_true rfl)) dL_law_593 ⟨(Nat.le_of_ble_eq_true rfl), (Nat.le_of_ble_eq_true rfl)⟩) hS (fun q _ h => hFc q h) hFc (fun r u t H1 locs ht hvm hw hB hz1 hk1 hS => ?_)
  subst hw
  obtain ⟨fs_6, h_m0, hP1, hK1, hD1⟩ := hB
  rw [ht] at hP1
  obtain ⟨hP, hD⟩ := va_join (wr := [(x, .inr (12, fs_1)), (liA, .inl (liAC, (3, .inr (.inr (.inr (.inr liAF)))))), (li0, .inr (5, fs_2)), (li1, .inr (5, fs_3)), (li2, .inr (5, fs_4)), (oA, .inl (oAC, (1, .inr (.inl f_5))))]) (w1 := [(m0, .inr (13, fs_6)), (ml, .inl (mlC, (3, .inl (fun _ => 0))))]) hP hD [5, 6] [0, 1, 2, 3, 4, 7] rfl rfl (by decide) (by decide) hk1 hFc hP1 hD1
  have hP := hP.sub (ws' := [(x, .inr (12, fs_1)), (liA, .inl (liAC, (3, .inr (.inr (.inr (.inr liAF)))))), (li0, .inr (5, fs_2)), (li1, .inr (5, fs_3)), (li2, .inr (5, fs_4)), (m0, .inr (13, fs_6)), (ml, .inl (mlC, (3, .inl (fun _ => 0)))), (oA, .inl (oAC, (1, .inr (.inl f_5))))]) [0, 1, 2, 3, 4, 6, 7, 5] rfl
  have hD := hD.sub (ws' := [(x, .inr (12, fs_1)), (liA, .inl (liAC, (3, .inr (.inr (.inr (.inr liAF)))))), (li0, .inr (5, fs_2)), (li1, .inr (5, fs_3)), (li2, .inr (5, fs_4)), (m0, .inr (13, fs_6)), (ml, .inl (mlC, (3, .inl (fun _ => 0)))), (oA, .inl (oAC, (1, .inr (.inl f_5))))]) [0, 1, 2, 3, 4, 6, 7, 5] (by decide) rfl
  generalize H1 = H at hP hS ⊢
  have hP : va_P (dC, dI) CL [(x, .inr (12, fs_1)), (liA, .inl (liAC, (3, .inr (.inr (.inr (.inr liAF)))))), (li0, .inr (5, fs_2)), (li1, .inr (5, fs_3)), (li2, .inr (5, fs_4)), (m0, .inr (13, fs_6)), (ml, .inl (mlC, (3, .inl (fun _ => 0)))), (oA, .inl (oAC, (1, .inr (.inl f_5))))] H := hP
  have hD : va_D A [(x, .inr (12, fs_1)), (liA, .inl (liAC, (3, .inr (.inr (.inr (.inr liAF)))))), (li0, .inr (5, fs_2)), (li1, .inr (5, fs_3)), (li2, .inr (5, fs_4)), (m0, .inr (13, fs_6)), (ml, .inl (mlC, (3, .inl (fun _ => 0)))), (oA, .inl (oAC, (1, .inr (.inl f_5))))] := hD
  refine lv_istore (lv' := [(6, .int 0), (5, .int 0), (0, .ref b), (1, .ref x), (2, .ref m0), (3, .ref oA), (4, .int 0)]) hx hb dL_law_596 hl (by decide) rfl (fun ls hl => ?_)
  refine lv_aload_n hx hb dL_law_598 rfl (lv_at hl 4 rfl) ?_
  have hPc := hP.sub (ws' := [(m0, .inr (13, fs_6))]) [5] rfl
  have hDc := hD.sub (ws' := [(m0, .inr (13, fs_6))]) [5] (by decide) rfl
  have hKc := hK.sub (tys' := []) [] rfl
  have hFc := va_free (wc := [(m0, .inr (13, fs_6))]) hD hS hA [5] rfl
  refine va_calli (va_runV (As := []) (rest := []) ⟨hx, hb, hml, hown, hts⟩ (gx71_X13_thrown l hlt dC dI _ m0 md ml mch fs_6 h_m0) (cwV 0 hts (gi_V wd_3015 wd_3016 wd_3017 wd_340 wd_3018) rfl rfl rfl (by decide +kernel) ⟨(Nat.le_of_ble_eq_true rfl), (Nat.le_of_ble_eq_true rfl)⟩) ⟨fun a U g mk q => by obtain ⟨q0, q1, qP, qK, qD, qT⟩ := q; exact ⟨q0, q1, qP, va_K.moved (u := U) (U := U.calling g mk a) (Vm.Alike.refl U.vm) qK, qD, th.moved (u := U) (U := U.calling g mk a) (Vm.Alike.refl U.vm) qT⟩, va_recv hKc hPc (ci := 13) (q0 := 0) rfl rfl, fun U hU hW => ⟨rfl, by rw [hU], by rw [hU]; exact hPc, va_K.moved hW.alike hKc, hDc.weaken (fun _ _ _ _ => trivial), by rw [hU]; exact ((hth.kept hS.2.1).narrow hFc).moved hW.alike⟩⟩ rfl rfl hl.1 rfl (lv_room (Nat.le_of_ble_eq_true rfl)) dL_law_599 ⟨(Nat.le_of_ble_eq_true rfl), (Nat.le_of_ble_eq_true rfl)⟩) hS (fun q _ h => hFc q h) hFc (fun r u t H1 locs ht hvm hw hB hz1 hk1 hS => ?_)
  subst hw
  obtain ⟨fs_7, h_m0, hP1, hK1, hD1⟩ := hB
  rw [ht] at hP1
  obtain ⟨hP, hD⟩ := va_join (wr := [(x, .inr (12, fs_1)), (liA, .inl (liAC, (3, .inr (.inr (.inr (.inr liAF)))))), (li0, .inr (5, fs_2)), (li1, .inr (5, fs_3)), (li2, .inr (5, fs_4)), (ml, .inl (mlC, (3, .inl (fun _ => 0)))), (oA, .inl (oAC, (1, .inr (.inl f_5))))]) (w1 := [(m0, .inr (13, fs_7))]) hP hD [5] [0, 1, 2, 3, 4, 6, 7] rfl rfl (by decide) (by decide) hk1 hFc hP1 hD1
  have hP := hP.sub (ws' := [(x, .inr (12, fs_1)), (liA, .inl (liAC, (3, .inr (.inr (.inr (.inr liAF)))))), (li0, .inr (5, fs_2)), (li1, .inr (5, fs_3)), (li2, .inr (5, fs_4)), (m0, .inr (13, fs_7)), (ml, .inl (mlC, (3, .inl (fun _ => 0)))), (oA, .inl (oAC, (1, .inr (.inl f_5))))]) [0, 1, 2, 3, 4, 7, 5, 6] rfl
  have hD := hD.sub (ws' := [(x, .inr (12, fs_1)), (liA, .inl (liAC, (3, .inr (.inr (.inr (.inr liAF)))))), (li0, .inr (5, fs_2)), (li1, .inr (5, fs_3)), (li2, .inr (5, fs_4)), (m0, .inr (13, fs_7)), (ml, .inl (mlC, (3, .inl (fun _ => 0)))), (oA, .inl (oAC, (1, .inr (.inl f_5))))]) [0, 1, 2, 3, 4, 7, 5, 6] (by decide) rfl
  generalize H1 = H at hP hS ⊢
  have hP : va_P (dC, dI) CL [(x, .inr (12, fs_1)), (liA, .inl (liAC, (3, .inr (.inr (.inr (.inr liAF)))))), (li0, .inr (5, fs_2)), (li1, .inr (5, fs_3)), (li2, .inr (5, fs_4)), (m0, .inr (13, fs_7)), (ml, .inl (mlC, (3, .inl (fun _ => 0)))), (oA, .inl (oAC, (1, .inr (.inl f_5))))] H := hP
  have hD : va_D A [(x, .inr (12, fs_1)), (liA, .inl (liAC, (3, .inr (.inr (.inr (.inr liAF)))))), (li0, .inr (5, fs_2)), (li1, .inr (5, fs_3)), (li2, .inr (5, fs_4)), (m0, .inr (13, fs_7)), (ml, .inl (mlC, (3, .inl (fun _ => 0)))), (oA, .inl (oAC, (1, .inr (.inl f_5))))] := hD
  refine lv_iload hx hb dL_law_602 (lv_at hl 1 rfl) ?_
  refine lv_icmp_eq (tgt := 609) hx hb dL_law_604 (by decide) (fun c9 => ?_) (fun c9 => ?_)
  rotate_left
  · first | exact absurd c9 (by decide +kernel) | exact absurd (by decide +kernel) c9
  refine lv_iload hx hb dL_law_609 (lv_at hl 1 rfl) ?_
  refine lv_if_ne (tgt := 633) hx hb dL_law_611 (by decide) (fun c9 => ?_) (fun c9 => ?_)
  · first | exact absurd c9 (by decide +kernel) | exact absurd (by decide +kernel) c9
  refine lv_aload_n hx hb dL_law_614 rfl (lv_at hl 5 rfl) ?_
  refine lv_iconst (v := 0) hx hb dL_law_615 (by decide +kernel) ?_
  refine va_lald hx hb hK hP 7 2 rfl rfl (vp_in_nI (n := 0) (N := 1) (by decide) (by decide)) dL_law_616 ?_
  refine lv_topl (fun v9 e9 => ?_)
  obtain rfl : v9 = 0 := e9.trans ((congrArg f_5 (by decide +kernel : (0 : Int32).toNatClampNeg = 0)).trans (h_oA.get 0 rfl))
  refine lv_iload hx hb dL_law_617 (lv_at hl 0 rfl) ?_
  refine lv_if_eq (tgt := 626) hx hb dL_law_619 (by decide) (fun c9 => ?_) (fun c9 => ?_)
  rotate_left
  · first | exact absurd c9 (by decide +kernel) | exact absurd (by decide +kernel) c9
  refine lv_lconst (v := 0) hx hb dL_law_626 (by decide) ?_
  refine hc_lcmpE hx hb dL_law_627 ?_
  refine lv_if_eq (tgt := 633) hx hb dL_law_628 (by decide) (fun c9 => ?_) (fun c9 => ?_)
  rotate_left
  · first | exact absurd c9 (by decide +kernel) | exact absurd (by decide +kernel) c9
  refine lv_goto (tgt := 4099) hx hb dL_law_633 (by decide) ?_
  refine W.widen (k := 470) (n := 2709300) (Nat.le_of_ble_eq_true rfl) (Nat.le_of_ble_eq_true rfl) ?_
  rw [eA] at hS
  exact law_tail (v5 := 0) (v6 := 0) (lv := []) C0 hS (lv_sub hl [2, 6] rfl)
set_option maxHeartbeats 4000000 in
set_option maxRecDepth 100000 in
theorem law_isThere_1k2 {p : Program} {l : Launch} {e : Env} {s : State} {m : MethodId} {below : List Frame} {meth : Method} {c : Code} {b : Nat} {xs : Nat → Int32} (C0 : lw_At p s m meth c b 7 xs) {dC : Nat → ClassId} {dI : Nat → Nat → Nat} (hlt : l.stackTraces = false) (hth : th (fun q : Nat => s.heap.size ≤ q) s s.heap) (q0 : (xs ((0 : Int32) + 1).toNatClampNeg) = 1) (q1 : (xs ((0 : Int32) + 2).toNatClampNeg) = 2) (x liA li0 li1 li2 m0 ml oA deA chA md mch : Nat) (xg : List Value) (h_x : fx xg 17 [(7, .ref deA), (8, .ref liA), (9, .ref chA)]) (liAC : ClassId) (liAF : Nat → Option Nat) (li0g : List Value) (h_li0 : fx li0g 7 [(0, .int 0)]) (li1g : List Value) (h_li1 : fx li1g 7 [(0, .int 0)]) (li2g : List Value) (h_li2 : fx li2g 7 [(0, .int 0)]) (m0g : List Value) (h_m0 : fx m0g 225 [(0, .int 0), (2, .int 0), (3, .int 0), (9, .int 0), (10, .int 0), (11, .int 0), (12, .int 0), (27, .int 0), (55, .ref md), (79, .int 0), (83, .int 0), (88, .ref ml), (95, .int 0), (138, .ref mch)]) (mlC : ClassId) (oAC : ClassId) (oAf : Nat → Int64) (h_oA : fa oAf []) (h_liA0 : liAF 0 = some li0) (h_liA1 : liAF 1 = some li1) (h_liA2 : liAF 2 = some li2) (H : Heap) (locs : List Loc) (hK : va_K (dC, dI) CL [(liAC, .object "ChipFlow$Library"), (mlC, .boolean), (oAC, .long)] s) (hP : va_P (dC, dI) CL [(x, .inr (12, xg)), (liA, .inl (liAC, (3, .inr (.inr (.inr (.inr liAF)))))), (li0, .inr (5, li0g)), (li1, .inr (5, li1g)), (li2, .inr (5, li2g)), (m0, .inr (13, m0g)), (ml, .inl (mlC, (3, .inl (fun _ => 0)))), (oA, .inl (oAC, (1, .inr (.inl oAf))))] H) (hD : va_D (fun q : Nat => s.heap.size ≤ q) [(x, .inr (12, xg)), (liA, .inl (liAC, (3, .inr (.inr (.inr (.inr liAF)))))), (li0, .inr (5, li0g)), (li1, .inr (5, li1g)), (li2, .inr (5, li2g)), (m0, .inr (13, m0g)), (ml, .inl (mlC, (3, .inl (fun _ => 0)))), (oA, .inl (oAC, (1, .inr (.inl oAf))))]) (hS : va_S (fun q : Nat => s.heap.size ≤ q) s.heap H locs) (ls : Array Slot) (hl : lv_has ls 7 [(0, .ref b), (1, .ref x), (2, .ref m0), (3, .ref oA), (4, .int 0)]) : W p l e room_1 s m #[Value.ref b] below meth c H locs 451 2709142 (lw_Z below #[Value.ref b] s) (F0 m 561 ls []) := by
  obtain ⟨hx, hb, hr, hml, hown, hts0, hX, hbl, hlocks, hgv⟩ := id C0
  have hts : ∀ w ∈ BG, w.before _ s = true := fun w h => hts0 w (List.mem_filter.mp h).1
  have hown : s.vm.findClass RL = some m.cls := hown
  obtain ⟨A, eA⟩ : ∃ z : Nat → Prop, z = (fun q : Nat => s.heap.size ≤ q) := ⟨_, rfl⟩
  rw [← eA] at hth hD hS
  have hA : ∀ q : Nat, s.heap.size ≤ q → A q := fun q h => by rw [eA]; exact h
  have hbA : ¬ A b := by rw [eA]; exact Nat.not_le.mpr hbl
  refine lv_aload_n hx hb dL_law_561 rfl (lv_at hl 1 rfl) ?_
  refine lv_aload_n hx hb dL_law_562 rfl (lv_at hl 0 rfl) ?_
  refine lv_iload hx hb dL_law_563 (lv_at hl 4 rfl) ?_
  refine lv_iconst (v := 1) hx hb dL_law_565 (by decide +kernel) ?_
  refine lv_iadd hx hb dL_law_566 ?_
  refine va_sld hx hb hX hbl hbA hS vi_1 dL_law_567 ?_
  refine lv_topi (fun v9 e9 => ?_)
  obtain rfl : v9 = 1 := e9.trans q0
  refine lv_aload_n hx hb dL_law_568 rfl (lv_at hl 0 rfl) ?_
  refine lv_iload hx hb dL_law_569 (lv_at hl 4 rfl) ?_
  refine lv_iconst (v := 2) hx hb dL_law_571 (by decide +kernel) ?_
  refine lv_iadd hx hb dL_law_572 ?_
  refine va_sld hx hb hX hbl hbA hS vi_2 dL_law_573 ?_
  refine lv_topi (fun v9 e9 => ?_)
  obtain rfl : v9 = 2 := e9.trans q1
  refine lv_aload_n hx hb dL_law_574 rfl (lv_at hl 3 rfl) ?_
  have hPc := hP.sub (ws' := [(x, .inr (12, xg)), (liA, .inl (liAC, (3, .inr (.inr (.inr (.inr liAF)))))), (li0, .inr (5, li0g)), (li1, .inr (5, li1g)), (li2, .inr (5, li2g)), (oA, .inl (oAC, (1, .inr (.inl oAf))))]) [0, 1, 2, 3, 4, 7] rfl
  have hDc := hD.sub (ws' := [(x, .inr (12, xg)), (liA, .inl (liAC, (3, .inr (.inr (.inr (.inr liAF)))))), (li0, .inr (5, li0g)), (li1, .inr (5, li1g)), (li2, .inr (5, li2g)), (oA, .inl (oAC, (1, .inr (.inl oAf))))]) [0, 1, 2, 3, 4, 7] (by decide) rfl
  have hKc := hK.sub (tys' := [(liAC, .object "ChipFlow$Library"), (oAC, .long)]) [0, 2] rfl
  have hFc := va_free (wc := [(x, .inr (12, xg)), (liA, .inl (liAC, (3, .inr (.inr (.inr (.inr liAF)))))), (li0, .inr (5, li0g)), (li1, .inr (5, li1g)), (li2, .inr (5, li2g)), (oA, .inl (oAC, (1, .inr (.inl oAf))))]) hD hS hA [0, 1, 2, 3, 4, 7] rfl
  refine va_calli (vx_runSW (As := [.ref x, .int 1, .int 2, .ref oA]) (rest := []) ⟨hx, hb, hml, hown, hts⟩ (gx116_L_isThere l hlt dC dI _ x liA li0 li1 li2 oA deA chA xg h_x liAC liAF li0g h_li0 li1g h_li1 li2g h_li2 oAC oAf h_oA h_liA0 h_liA1 h_liA2) (vx_cwSW 4 hts (gi_W wd_1839 wd_1840 wd_326 wd_1841) rfl rfl rfl (by decide +kernel) ⟨(Nat.le_of_ble_eq_true rfl), (Nat.le_of_ble_eq_true rfl)⟩) ⟨fun a U g mk q => by obtain ⟨q0, q1, qP, qK, qD, qT⟩ := q; exact ⟨q0, q1, qP, va_K.moved (u := U) (U := U.calling g mk a) (Vm.Alike.refl U.vm) qK, qD, th.moved (u := U) (U := U.calling g mk a) (Vm.Alike.refl U.vm) qT⟩, fun U hU hW => ⟨rfl, by rw [hU], by rw [hU]; exact hPc, va_K.moved hW.alike hKc, hDc.weaken (fun _ _ _ _ => trivial), by rw [hU]; exact ((hth.kept hS.2.1).narrow hFc).moved hW.alike⟩⟩ rfl rfl hl.1 rfl (lv_room (Nat.le_of_ble_eq_true rfl)) dL_law_575 ⟨(Nat.le_of_ble_eq_true rfl), (Nat.le_of_ble_eq_true rfl)⟩) hS (fun q _ h => hFc q h) hFc (fun r u t H1 locs ht hvm hw hB hz1 hk1 hS => ?_)
  subst hw
  obtain ⟨fs_1, fs_2, fs_3, fs_4, f_5, h_x, h_li0, h_li1, h_li2, h_oA, hP1, hK1, hD1⟩ := hB
  rw [ht] at hP1
  obtain ⟨hP, hD⟩ := va_join (wr := [(m0, .inr (13, m0g)), (ml, .inl (mlC, (3, .inl (fun _ => 0))))]) (w1 := [(x, .inr (12, fs_1)), (liA, .inl (liAC, (3, .inr (.inr (.inr (.inr liAF)))))), (li0, .inr (5, fs_2)), (li1, .inr (5, fs_3)), (li2, .inr (5, fs_4)), (oA, .inl (oAC, (1, .inr (.inl f_5))))]) hP hD [0, 1, 2, 3, 4, 7] [5, 6] rfl rfl (by decide) (by decide) hk1 hFc hP1 hD1
  have hP := hP.sub (ws' := [(x, .inr (12, fs_1)), (liA, .inl (liAC, (3, .inr (.inr (.inr (.inr liAF)))))), (li0, .inr (5, fs_2)), (li1, .inr (5, fs_3)), (li2, .inr (5, fs_4)), (m0, .inr (13, m0g)), (ml, .inl (mlC, (3, .inl (fun _ => 0)))), (oA, .inl (oAC, (1, .inr (.inl f_5))))]) [2, 3, 4, 5, 6, 0, 1, 7] rfl
  have hD := hD.sub (ws' := [(x, .inr (12, fs_1)), (liA, .inl (liAC, (3, .inr (.inr (.inr (.inr liAF)))))), (li0, .inr (5, fs_2)), (li1, .inr (5, fs_3)), (li2, .inr (5, fs_4)), (m0, .inr (13, m0g)), (ml, .inl (mlC, (3, .inl (fun _ => 0)))), (oA, .inl (oAC, (1, .inr (.inl f_5))))]) [2, 3, 4, 5, 6, 0, 1, 7] (by decide) rfl
  generalize H1 = H at hP hS ⊢
  have hP : va_P (dC, dI) CL [(x, .inr (12, fs_1)), (liA, .inl (liAC, (3, .inr (.inr (.inr (.inr liAF)))))), (li0, .inr (5, fs_2)), (li1, .inr (5, fs_3)), (li2, .inr (5, fs_4)), (m0, .inr (13, m0g)), (ml, .inl (mlC, (3, .inl (fun _ => 0)))), (oA, .inl (oAC, (1, .inr (.inl f_5))))] H := hP
  have hD : va_D A [(x, .inr (12, fs_1)), (liA, .inl (liAC, (3, .inr (.inr (.inr (.inr liAF)))))), (li0, .inr (5, fs_2)), (li1, .inr (5, fs_3)), (li2, .inr (5, fs_4)), (m0, .inr (13, m0g)), (ml, .inl (mlC, (3, .inl (fun _ => 0)))), (oA, .inl (oAC, (1, .inr (.inl f_5))))] := hD
  refine W.widen (k := 452) (n := 2709148) (Nat.le_of_ble_eq_true rfl) (Nat.le_of_ble_eq_true rfl) ?_
  refine lv_istore (lv' := [(5, .int 0), (0, .ref b), (1, .ref x), (2, .ref m0), (3, .ref oA), (4, .int 0)]) hx hb dL_law_578 hl (by decide) rfl (fun ls hl => ?_)
  refine lv_aload_n hx hb dL_law_580 rfl (lv_at hl 3 rfl) ?_
  refine lv_aload_n hx hb dL_law_581 rfl (lv_at hl 1 rfl) ?_
  refine lv_iload hx hb dL_law_582 (lv_at hl 5 rfl) ?_
  refine lv_iconst (v := 1) hx hb dL_law_584 (by decide +kernel) ?_
  refine lv_iadd hx hb dL_law_585 ?_
  refine va_sld hx hb hX hbl hbA hS vi_1 dL_law_586 ?_
  refine lv_topi (fun v9 e9 => ?_)
  obtain rfl : v9 = 1 := e9.trans q0
  refine lv_aload_n hx hb dL_law_587 rfl (lv_at hl 1 rfl) ?_
  refine lv_iload hx hb dL_law_588 (lv_at hl 5 rfl) ?_
  refine lv_iconst (v := 2) hx hb dL_law_590 (by decide +kernel) ?_
  refine lv_iadd hx hb dL_law_591 ?_
  refine va_sld hx hb hX hbl hbA hS vi_2 dL_law_592 ?_
  refine lv_topi (fun v9 e9 => ?_)
  obtain rfl : v9 = 2 := e9.trans q1
  have hPc := hP.sub (ws' := [(m0, .inr (13, m0g)), (ml, .inl (mlC, (3, .inl (fun _ => 0))))]) [5, 6] rfl
  have hDc := hD.sub (ws' := [(m0, .inr (13, m0g)), (ml, .inl (mlC, (3, .inl (fun _ => 0))))]) [5, 6] (by decide) rfl
  have hKc := hK.sub (tys' := [(mlC, .boolean)]) [1] rfl
  have hFc := va_free (wc := [(m0, .inr (13, m0g)), (ml, .inl (mlC, (3, .inl (fun _ => 0))))]) hD hS hA [5, 6] rfl
  refine va_calli (va_runV (As := [.int 1, .int 2]) (rest := []) ⟨hx, hb, hml, hown, hts⟩ (gx118_X13_isThere l hlt dC dI _ m0 ml md mch m0g h_m0 mlC) (cwV 2 hts (gi_V wd_4088 wd_4089 wd_4090 wd_340 wd_4091) rfl rfl rfl (by decide +kernel) ⟨(Nat.le_of_ble_eq_true rfl), (Nat.le_of_ble_eq_true rfl)⟩) ⟨fun a U g mk q => by obtain ⟨q0, q1, qP, qK, qD, qT⟩ := q; exact ⟨q0, q1, qP, va_K.moved (u := U) (U := U.calling g mk a) (Vm.Alike.refl U.vm) qK, qD, th.moved (u := U) (U := U.calling g mk a) (Vm.Alike.refl U.vm) qT⟩, va_recv hKc hPc (ci := 13) (q0 := 0) rfl rfl, fun U hU hW => ⟨rfl, by rw [hU], by rw [hU]; exact hPc, va_K.moved hW.alike hKc, hDc.weaken (fun _ _ _ _ => trivial), by rw [hU]; exact ((hth.kept hS.2.1).narrow hFc).moved hW.alike⟩⟩ rfl rfl hl.1 rfl (lv_room (Nat.le_of_ble_eq_true rfl)) dL_law_593 ⟨(Nat.le_of_ble_eq_true rfl), (Nat.le_of_ble_eq_true rfl)⟩) hS (fun q _ h => hFc q h) hFc (fun r u t H1 locs ht hvm hw hB hz1 hk1 hS => ?_)
  subst hw
  obtain ⟨fs_6, h_m0, hP1, hK1, hD1⟩ := hB
  rw [ht] at hP1
  obtain ⟨hP, hD⟩ := va_join (wr := [(x, .inr (12, fs_1)), (liA, .inl (liAC, (3, .inr (.inr (.inr (.inr liAF)))))), (li0, .inr (5, fs_2)), (li1, .inr (5, fs_3)), (li2, .inr (5, fs_4)), (oA, .inl (oAC, (1, .inr (.inl f_5))))]) (w1 := [(m0, .inr (13, fs_6)), (ml, .inl (mlC, (3, .inl (fun _ => 0))))]) hP hD [5, 6] [0, 1, 2, 3, 4, 7] rfl rfl (by decide) (by decide) hk1 hFc hP1 hD1
  have hP := hP.sub (ws' := [(x, .inr (12, fs_1)), (liA, .inl (liAC, (3, .inr (.inr (.inr (.inr liAF)))))), (li0, .inr (5, fs_2)), (li1, .inr (5, fs_3)), (li2, .inr (5, fs_4)), (m0, .inr (13, fs_6)), (ml, .inl (mlC, (3, .inl (fun _ => 0)))), (oA, .inl (oAC, (1, .inr (.inl f_5))))]) [0, 1, 2, 3, 4, 6, 7, 5] rfl
  have hD := hD.sub (ws' := [(x, .inr (12, fs_1)), (liA, .inl (liAC, (3, .inr (.inr (.inr (.inr liAF)))))), (li0, .inr (5, fs_2)), (li1, .inr (5, fs_3)), (li2, .inr (5, fs_4)), (m0, .inr (13, fs_6)), (ml, .inl (mlC, (3, .inl (fun _ => 0)))), (oA, .inl (oAC, (1, .inr (.inl f_5))))]) [0, 1, 2, 3, 4, 6, 7, 5] (by decide) rfl
  generalize H1 = H at hP hS ⊢
  have hP : va_P (dC, dI) CL [(x, .inr (12, fs_1)), (liA, .inl (liAC, (3, .inr (.inr (.inr (.inr liAF)))))), (li0, .inr (5, fs_2)), (li1, .inr (5, fs_3)), (li2, .inr (5, fs_4)), (m0, .inr (13, fs_6)), (ml, .inl (mlC, (3, .inl (fun _ => 0)))), (oA, .inl (oAC, (1, .inr (.inl f_5))))] H := hP
  have hD : va_D A [(x, .inr (12, fs_1)), (liA, .inl (liAC, (3, .inr (.inr (.inr (.inr liAF)))))), (li0, .inr (5, fs_2)), (li1, .inr (5, fs_3)), (li2, .inr (5, fs_4)), (m0, .inr (13, fs_6)), (ml, .inl (mlC, (3, .inl (fun _ => 0)))), (oA, .inl (oAC, (1, .inr (.inl f_5))))] := hD
  refine lv_istore (lv' := [(6, .int 0), (5, .int 0), (0, .ref b), (1, .ref x), (2, .ref m0), (3, .ref oA), (4, .int 0)]) hx hb dL_law_596 hl (by decide) rfl (fun ls hl => ?_)
  refine lv_aload_n hx hb dL_law_598 rfl (lv_at hl 4 rfl) ?_
  have hPc := hP.sub (ws' := [(m0, .inr (13, fs_6))]) [5] rfl
  have hDc := hD.sub (ws' := [(m0, .inr (13, fs_6))]) [5] (by decide) rfl
  have hKc := hK.sub (tys' := []) [] rfl
  have hFc := va_free (wc := [(m0, .inr (13, fs_6))]) hD hS hA [5] rfl
  refine va_calli (va_runV (As := []) (rest := []) ⟨hx, hb, hml, hown, hts⟩ (gx71_X13_thrown l hlt dC dI _ m0 md ml mch fs_6 h_m0) (cwV 0 hts (gi_V wd_3015 wd_3016 wd_3017 wd_340 wd_3018) rfl rfl rfl (by decide +kernel) ⟨(Nat.le_of_ble_eq_true rfl), (Nat.le_of_ble_eq_true rfl)⟩) ⟨fun a U g mk q => by obtain ⟨q0, q1, qP, qK, qD, qT⟩ := q; exact ⟨q0, q1, qP, va_K.moved (u := U) (U := U.calling g mk a) (Vm.Alike.refl U.vm) qK, qD, th.moved (u := U) (U := U.calling g mk a) (Vm.Alike.refl U.vm) qT⟩, va_recv hKc hPc (ci := 13) (q0 := 0) rfl rfl, fun U hU hW => ⟨rfl, by rw [hU], by rw [hU]; exact hPc, va_K.moved hW.alike hKc, hDc.weaken (fun _ _ _ _ => trivial), by rw [hU]; exact ((hth.kept hS.2.1).narrow hFc).moved hW.alike⟩⟩ rfl rfl hl.1 rfl (lv_room (Nat.le_of_ble_eq_true rfl)) dL_law_599 ⟨(Nat.le_of_ble_eq_true rfl), (Nat.le_of_ble_eq_true rfl)⟩) hS (fun q _ h => hFc q h) hFc (fun r u t H1 locs ht hvm hw hB hz1 hk1 hS => ?_)
  subst hw
  obtain ⟨fs_7, h_m0, hP1, hK1, hD1⟩ := hB
  rw [ht] at hP1
  obtain ⟨hP, hD⟩ := va_join (wr := [(x, .inr (12, fs_1)), (liA, .inl (liAC, (3, .inr (.inr (.inr (.inr liAF)))))), (li0, .inr (5, fs_2)), (li1, .inr (5, fs_3)), (li2, .inr (5, fs_4)), (ml, .inl (mlC, (3, .inl (fun _ => 0)))), (oA, .inl (oAC, (1, .inr (.inl f_5))))]) (w1 := [(m0, .inr (13, fs_7))]) hP hD [5] [0, 1, 2, 3, 4, 6, 7] rfl rfl (by decide) (by decide) hk1 hFc hP1 hD1
  have hP := hP.sub (ws' := [(x, .inr (12, fs_1)), (liA, .inl (liAC, (3, .inr (.inr (.inr (.inr liAF)))))), (li0, .inr (5, fs_2)), (li1, .inr (5, fs_3)), (li2, .inr (5, fs_4)), (m0, .inr (13, fs_7)), (ml, .inl (mlC, (3, .inl (fun _ => 0)))), (oA, .inl (oAC, (1, .inr (.inl f_5))))]) [0, 1, 2, 3, 4, 7, 5, 6] rfl
  have hD := hD.sub (ws' := [(x, .inr (12, fs_1)), (liA, .inl (liAC, (3, .inr (.inr (.inr (.inr liAF)))))), (li0, .inr (5, fs_2)), (li1, .inr (5, fs_3)), (li2, .inr (5, fs_4)), (m0, .inr (13, fs_7)), (ml, .inl (mlC, (3, .inl (fun _ => 0)))), (oA, .inl (oAC, (1, .inr (.inl f_5))))]) [0, 1, 2, 3, 4, 7, 5, 6] (by decide) rfl
  generalize H1 = H at hP hS ⊢
  have hP : va_P (dC, dI) CL [(x, .inr (12, fs_1)), (liA, .inl (liAC, (3, .inr (.inr (.inr (.inr liAF)))))), (li0, .inr (5, fs_2)), (li1, .inr (5, fs_3)), (li2, .inr (5, fs_4)), (m0, .inr (13, fs_7)), (ml, .inl (mlC, (3, .inl (fun _ => 0)))), (oA, .inl (oAC, (1, .inr (.inl f_5))))] H := hP
  have hD : va_D A [(x, .inr (12, fs_1)), (liA, .inl (liAC, (3, .inr (.inr (.inr (.inr liAF)))))), (li0, .inr (5, fs_2)), (li1, .inr (5, fs_3)), (li2, .inr (5, fs_4)), (m0, .inr (13, fs_7)), (ml, .inl (mlC, (3, .inl (fun _ => 0)))), (oA, .inl (oAC, (1, .inr (.inl f_5))))] := hD
  refine lv_iload hx hb dL_law_602 (lv_at hl 1 rfl) ?_
  refine lv_icmp_eq (tgt := 609) hx hb dL_law_604 (by decide) (fun c9 => ?_) (fun c9 => ?_)
  rotate_left
  · first | exact absurd c9 (by decide +kernel) | exact absurd (by decide +kernel) c9
  refine lv_iload hx hb dL_law_609 (lv_at hl 1 rfl) ?_
  refine lv_if_ne (tgt := 633) hx hb dL_law_611 (by decide) (fun c9 => ?_) (fun c9 => ?_)
  · first | exact absurd c9 (by decide +kernel) | exact absurd (by decide +kernel) c9
  refine lv_aload_n hx hb dL_law_614 rfl (lv_at hl 5 rfl) ?_
  refine lv_iconst (v := 0) hx hb dL_law_615 (by decide +kernel) ?_
  refine va_lald hx hb hK hP 7 2 rfl rfl (vp_in_nI (n := 0) (N := 1) (by decide) (by decide)) dL_law_616 ?_
  refine lv_topl (fun v9 e9 => ?_)
  obtain rfl : v9 = 0 := e9.trans ((congrArg f_5 (by decide +kernel : (0 : Int32).toNatClampNeg = 0)).trans (h_oA.get 0 rfl))
  refine lv_iload hx hb dL_law_617 (lv_at hl 0 rfl) ?_
  refine lv_if_eq (tgt := 626) hx hb dL_law_619 (by decide) (fun c9 => ?_) (fun c9 => ?_)
  rotate_left
  · first | exact absurd c9 (by decide +kernel) | exact absurd (by decide +kernel) c9
  refine lv_lconst (v := 0) hx hb dL_law_626 (by decide) ?_
  refine hc_lcmpE hx hb dL_law_627 ?_
  refine lv_if_eq (tgt := 633) hx hb dL_law_628 (by decide) (fun c9 => ?_) (fun c9 => ?_)
  rotate_left
  · first | exact absurd c9 (by decide +kernel) | exact absurd (by decide +kernel) c9
  refine lv_goto (tgt := 4099) hx hb dL_law_633 (by decide) ?_
  refine W.widen (k := 470) (n := 2709300) (Nat.le_of_ble_eq_true rfl) (Nat.le_of_ble_eq_true rfl) ?_
  rw [eA] at hS
  exact law_tail (v5 := 0) (v6 := 0) (lv := []) C0 hS (lv_sub hl [2, 6] rfl)
set_option maxHeartbeats 4000000 in
set_option maxRecDepth 100000 in
theorem law_isThere_2lt {p : Program} {l : Launch} {e : Env} {s : State} {m : MethodId} {below : List Frame} {meth : Method} {c : Code} {b : Nat} {xs : Nat → Int32} (C0 : lw_At p s m meth c b 7 xs) {dC : Nat → ClassId} {dI : Nat → Nat → Nat} (hlt : l.stackTraces = false) (hth : th (fun q : Nat => s.heap.size ≤ q) s s.heap) (q0 : (xs ((0 : Int32) + 1).toNatClampNeg) = 2) (p1 : Int32) (q1 : (xs ((0 : Int32) + 2).toNatClampNeg) = p1) (zk : p1 < 0) (x chA ch0 ch1 ch2 ch3 m0 mch oA deA liA md ml : Nat) (xg : List Value) (h_x : fx xg 17 [(7, .ref deA), (8, .ref liA), (9, .ref chA)]) (chAC : ClassId) (chAF : Nat → Option Nat) (ch0g : List Value) (h_ch0 : fx ch0g 20 [(0, .int 0)]) (ch1g : List Value) (h_ch1 : fx ch1g 20 [(0, .int 0)]) (ch2g : List Value) (h_ch2 : fx ch2g 20 [(0, .int 0)]) (ch3g : List Value) (h_ch3 : fx ch3g 20 [(0, .int 0)]) (m0g : List Value) (h_m0 : fx m0g 225 [(0, .int 0), (2, .int 0), (3, .int 0), (9, .int 0), (10, .int 0), (11, .int 0), (12, .int 0), (27, .int 0), (55, .ref md), (79, .int 0), (83, .int 0), (88, .ref ml), (95, .int 0), (138, .ref mch)]) (mchC : ClassId) (oAC : ClassId) (oAf : Nat → Int64) (h_oA : fa oAf []) (h_chA0 : chAF 0 = some ch0) (h_chA1 : chAF 1 = some ch1) (h_chA2 : chAF 2 = some ch2) (h_chA3 : chAF 3 = some ch3) (H : Heap) (locs : List Loc) (hK : va_K (dC, dI) CL [(chAC, .object "ChipFlow$Chip"), (mchC, .boolean), (oAC, .long)] s) (hP : va_P (dC, dI) CL [(x, .inr (12, xg)), (chA, .inl (chAC, (4, .inr (.inr (.inr (.inr chAF)))))), (ch0, .inr (2, ch0g)), (ch1, .inr (2, ch1g)), (ch2, .inr (2, ch2g)), (ch3, .inr (2, ch3g)), (m0, .inr (13, m0g)), (mch, .inl (mchC, (4, .inl (fun _ => 0)))), (oA, .inl (oAC, (1, .inr (.inl oAf))))] H) (hD : va_D (fun q : Nat => s.heap.size ≤ q) [(x, .inr (12, xg)), (chA, .inl (chAC, (4, .inr (.inr (.inr (.inr chAF)))))), (ch0, .inr (2, ch0g)), (ch1, .inr (2, ch1g)), (ch2, .inr (2, ch2g)), (ch3, .inr (2, ch3g)), (m0, .inr (13, m0g)), (mch, .inl (mchC, (4, .inl (fun _ => 0)))), (oA, .inl (oAC, (1, .inr (.inl oAf))))]) (hS : va_S (fun q : Nat => s.heap.size ≤ q) s.heap H locs) (ls : Array Slot) (hl : lv_has ls 7 [(0, .ref b), (1, .ref x), (2, .ref m0), (3, .ref oA), (4, .int 0)]) : W p l e room_1 s m #[Value.ref b] below meth c H locs 451 2709142 (lw_Z below #[Value.ref b] s) (F0 m 561 ls []) := by
  obtain ⟨hx, hb, hr, hml, hown, hts0, hX, hbl, hlocks, hgv⟩ := id C0
  have hts : ∀ w ∈ BG, w.before _ s = true := fun w h => hts0 w (List.mem_filter.mp h).1
  have hown : s.vm.findClass RL = some m.cls := hown
  obtain ⟨A, eA⟩ : ∃ z : Nat → Prop, z = (fun q : Nat => s.heap.size ≤ q) := ⟨_, rfl⟩
  rw [← eA] at hth hD hS
  have hA : ∀ q : Nat, s.heap.size ≤ q → A q := fun q h => by rw [eA]; exact h
  have hbA : ¬ A b := by rw [eA]; exact Nat.not_le.mpr hbl
  refine lv_aload_n hx hb dL_law_561 rfl (lv_at hl 1 rfl) ?_
  refine lv_aload_n hx hb dL_law_562 rfl (lv_at hl 0 rfl) ?_
  refine lv_iload hx hb dL_law_563 (lv_at hl 4 rfl) ?_
  refine lv_iconst (v := 1) hx hb dL_law_565 (by decide +kernel) ?_
  refine lv_iadd hx hb dL_law_566 ?_
  refine va_sld hx hb hX hbl hbA hS vi_1 dL_law_567 ?_
  refine lv_topi (fun v9 e9 => ?_)
  obtain rfl : v9 = 2 := e9.trans q0
  refine lv_aload_n hx hb dL_law_568 rfl (lv_at hl 0 rfl) ?_
  refine lv_iload hx hb dL_law_569 (lv_at hl 4 rfl) ?_
  refine lv_iconst (v := 2) hx hb dL_law_571 (by decide +kernel) ?_
  refine lv_iadd hx hb dL_law_572 ?_
  refine va_sld hx hb hX hbl hbA hS vi_2 dL_law_573 ?_
  refine lv_topi (fun v9 e9 => ?_)
  obtain rfl : p1 = v9 := (e9.trans q1).symm
  refine lv_aload_n hx hb dL_law_574 rfl (lv_at hl 3 rfl) ?_
  have hPc := hP.sub (ws' := [(x, .inr (12, xg)), (chA, .inl (chAC, (4, .inr (.inr (.inr (.inr chAF)))))), (ch0, .inr (2, ch0g)), (ch1, .inr (2, ch1g)), (ch2, .inr (2, ch2g)), (ch3, .inr (2, ch3g)), (oA, .inl (oAC, (1, .inr (.inl oAf))))]) [0, 1, 2, 3, 4, 5, 8] rfl
  have hDc := hD.sub (ws' := [(x, .inr (12, xg)), (chA, .inl (chAC, (4, .inr (.inr (.inr (.inr chAF)))))), (ch0, .inr (2, ch0g)), (ch1, .inr (2, ch1g)), (ch2, .inr (2, ch2g)), (ch3, .inr (2, ch3g)), (oA, .inl (oAC, (1, .inr (.inl oAf))))]) [0, 1, 2, 3, 4, 5, 8] (by decide) rfl
  have hKc := hK.sub (tys' := [(chAC, .object "ChipFlow$Chip"), (oAC, .long)]) [0, 2] rfl
  have hFc := va_free (wc := [(x, .inr (12, xg)), (chA, .inl (chAC, (4, .inr (.inr (.inr (.inr chAF)))))), (ch0, .inr (2, ch0g)), (ch1, .inr (2, ch1g)), (ch2, .inr (2, ch2g)), (ch3, .inr (2, ch3g)), (oA, .inl (oAC, (1, .inr (.inl oAf))))]) hD hS hA [0, 1, 2, 3, 4, 5, 8] rfl
  refine va_calli (vx_runSW (As := [.ref x, .int 2, .int p1, .ref oA]) (rest := []) ⟨hx, hb, hml, hown, hts⟩ (gx120_L_isThere l hlt dC dI _ p1 x chA ch0 ch1 ch2 ch3 oA deA liA xg h_x chAC chAF ch0g h_ch0 ch1g h_ch1 ch2g h_ch2 ch3g h_ch3 oAC oAf h_oA h_chA0 h_chA1 h_chA2 h_chA3 zk) (vx_cwSW 4 hts (gi_W wd_1839 wd_1840 wd_326 wd_1841) rfl rfl rfl (by decide +kernel) ⟨(Nat.le_of_ble_eq_true rfl), (Nat.le_of_ble_eq_true rfl)⟩) ⟨fun a U g mk q => by obtain ⟨q0, q1, qP, qK, qD, qT⟩ := q; exact ⟨q0, q1, qP, va_K.moved (u := U) (U := U.calling g mk a) (Vm.Alike.refl U.vm) qK, qD, th.moved (u := U) (U := U.calling g mk a) (Vm.Alike.refl U.vm) qT⟩, fun U hU hW => ⟨rfl, by rw [hU], by rw [hU]; exact hPc, va_K.moved hW.alike hKc, hDc.weaken (fun _ _ _ _ => trivial), by rw [hU]; exact ((hth.kept hS.2.1).narrow hFc).moved hW.alike⟩⟩ rfl rfl hl.1 rfl (lv_room (Nat.le_of_ble_eq_true rfl)) dL_law_575 ⟨(Nat.le_of_ble_eq_true rfl), (Nat.le_of_ble_eq_true rfl)⟩) hS (fun q _ h => hFc q h) hFc (fun r u t H1 locs ht hvm hw hB hz1 hk1 hS => ?_)
  subst hw
  obtain ⟨fs_1, fs_2, fs_3, fs_4, fs_5, f_6, h_x, h_ch0, h_ch1, h_ch2, h_ch3, h_oA, hP1, hK1, hD1⟩ := hB
  rw [ht] at hP1
  obtain ⟨hP, hD⟩ := va_join (wr := [(m0, .inr (13, m0g)), (mch, .inl (mchC, (4, .inl (fun _ => 0))))]) (w1 := [(x, .inr (12, fs_1)), (chA, .inl (chAC, (4, .inr (.inr (.inr (.inr chAF)))))), (ch0, .inr (2, fs_2)), (ch1, .inr (2, fs_3)), (ch2, .inr (2, fs_4)), (ch3, .inr (2, fs_5)), (oA, .inl (oAC, (1, .inr (.inl f_6))))]) hP hD [0, 1, 2, 3, 4, 5, 8] [6, 7] rfl rfl (by decide) (by decide) hk1 hFc hP1 hD1
  have hP := hP.sub (ws' := [(x, .inr (12, fs_1)), (chA, .inl (chAC, (4, .inr (.inr (.inr (.inr chAF)))))), (ch0, .inr (2, fs_2)), (ch1, .inr (2, fs_3)), (ch2, .inr (2, fs_4)), (ch3, .inr (2, fs_5)), (m0, .inr (13, m0g)), (mch, .inl (mchC, (4, .inl (fun _ => 0)))), (oA, .inl (oAC, (1, .inr (.inl f_6))))]) [2, 3, 4, 5, 6, 7, 0, 1, 8] rfl
  have hD := hD.sub (ws' := [(x, .inr (12, fs_1)), (chA, .inl (chAC, (4, .inr (.inr (.inr (.inr chAF)))))), (ch0, .inr (2, fs_2)), (ch1, .inr (2, fs_3)), (ch2, .inr (2, fs_4)), (ch3, .inr (2, fs_5)), (m0, .inr (13, m0g)), (mch, .inl (mchC, (4, .inl (fun _ => 0)))), (oA, .inl (oAC, (1, .inr (.inl f_6))))]) [2, 3, 4, 5, 6, 7, 0, 1, 8] (by decide) rfl
  generalize H1 = H at hP hS ⊢
  have hP : va_P (dC, dI) CL [(x, .inr (12, fs_1)), (chA, .inl (chAC, (4, .inr (.inr (.inr (.inr chAF)))))), (ch0, .inr (2, fs_2)), (ch1, .inr (2, fs_3)), (ch2, .inr (2, fs_4)), (ch3, .inr (2, fs_5)), (m0, .inr (13, m0g)), (mch, .inl (mchC, (4, .inl (fun _ => 0)))), (oA, .inl (oAC, (1, .inr (.inl f_6))))] H := hP
  have hD : va_D A [(x, .inr (12, fs_1)), (chA, .inl (chAC, (4, .inr (.inr (.inr (.inr chAF)))))), (ch0, .inr (2, fs_2)), (ch1, .inr (2, fs_3)), (ch2, .inr (2, fs_4)), (ch3, .inr (2, fs_5)), (m0, .inr (13, m0g)), (mch, .inl (mchC, (4, .inl (fun _ => 0)))), (oA, .inl (oAC, (1, .inr (.inl f_6))))] := hD
  refine W.widen (k := 452) (n := 2709148) (Nat.le_of_ble_eq_true rfl) (Nat.le_of_ble_eq_true rfl) ?_
  refine lv_istore (lv' := [(5, .int 0), (0, .ref b), (1, .ref x), (2, .ref m0), (3, .ref oA), (4, .int 0)]) hx hb dL_law_578 hl (by decide) rfl (fun ls hl => ?_)
  refine lv_aload_n hx hb dL_law_580 rfl (lv_at hl 3 rfl) ?_
  refine lv_aload_n hx hb dL_law_581 rfl (lv_at hl 1 rfl) ?_
  refine lv_iload hx hb dL_law_582 (lv_at hl 5 rfl) ?_
  refine lv_iconst (v := 1) hx hb dL_law_584 (by decide +kernel) ?_
  refine lv_iadd hx hb dL_law_585 ?_
  refine va_sld hx hb hX hbl hbA hS vi_1 dL_law_586 ?_
  refine lv_topi (fun v9 e9 => ?_)
  obtain rfl : v9 = 2 := e9.trans q0
  refine lv_aload_n hx hb dL_law_587 rfl (lv_at hl 1 rfl) ?_
  refine lv_iload hx hb dL_law_588 (lv_at hl 5 rfl) ?_
  refine lv_iconst (v := 2) hx hb dL_law_590 (by decide +kernel) ?_
  refine lv_iadd hx hb dL_law_591 ?_
  refine va_sld hx hb hX hbl hbA hS vi_2 dL_law_592 ?_
  refine lv_topi (fun v9 e9 => ?_)
  obtain rfl : p1 = v9 := (e9.trans q1).symm
  have hPc := hP.sub (ws' := [(m0, .inr (13, m0g)), (mch, .inl (mchC, (4, .inl (fun _ => 0))))]) [6, 7] rfl
  have hDc := hD.sub (ws' := [(m0, .inr (13, m0g)), (mch, .inl (mchC, (4, .inl (fun _ => 0))))]) [6, 7] (by decide) rfl
  have hKc := hK.sub (tys' := [(mchC, .boolean)]) [1] rfl
  have hFc := va_free (wc := [(m0, .inr (13, m0g)), (mch, .inl (mchC, (4, .inl (fun _ => 0))))]) hD hS hA [6, 7] rfl
  refine va_calli (va_runV (As := [.int 2, .int p1]) (rest := []) ⟨hx, hb, hml, hown, hts⟩ (gx122_X13_isThere l hlt dC dI _ p1 m0 mch md ml m0g h_m0 mchC zk) (cwV 2 hts (gi_V wd_4088 wd_4089 wd_4090 wd_340 wd_4091) rfl rfl rfl (by decide +kernel) ⟨(Nat.le_of_ble_eq_true rfl), (Nat.le_of_ble_eq_true rfl)⟩) ⟨fun a U g mk q => by obtain ⟨q0, q1, qP, qK, qD, qT⟩ := q; exact ⟨q0, q1, qP, va_K.moved (u := U) (U := U.calling g mk a) (Vm.Alike.refl U.vm) qK, qD, th.moved (u := U) (U := U.calling g mk a) (Vm.Alike.refl U.vm) qT⟩, va_recv hKc hPc (ci := 13) (q0 := 0) rfl rfl, fun U hU hW => ⟨rfl, by rw [hU], by rw [hU]; exact hPc, va_K.moved hW.alike hKc, hDc.weaken (fun _ _ _ _ => trivial), by rw [hU]; exact ((hth.kept hS.2.1).narrow hFc).moved hW.alike⟩⟩ rfl rfl hl.1 rfl (lv_room (Nat.le_of_ble_eq_true rfl)) dL_law_593 ⟨(Nat.le_of_ble_eq_true rfl), (Nat.le_of_ble_eq_true rfl)⟩) hS (fun q _ h => hFc q h) hFc (fun r u t H1 locs ht hvm hw hB hz1 hk1 hS => ?_)
  subst hw
  obtain ⟨fs_7, h_m0, hP1, hK1, hD1⟩ := hB
  rw [ht] at hP1
  obtain ⟨hP, hD⟩ := va_join (wr := [(x, .inr (12, fs_1)), (chA, .inl (chAC, (4, .inr (.inr (.inr (.inr chAF)))))), (ch0, .inr (2, fs_2)), (ch1, .inr (2, fs_3)), (ch2, .inr (2, fs_4)), (ch3, .inr (2, fs_5)), (oA, .inl (oAC, (1, .inr (.inl f_6))))]) (w1 := [(m0, .inr (13, fs_7)), (mch, .inl (mchC, (4, .inl (fun _ => 0))))]) hP hD [6, 7] [0, 1, 2, 3, 4, 5, 8] rfl rfl (by decide) (by decide) hk1 hFc hP1 hD1
  have hP := hP.sub (ws' := [(x, .inr (12, fs_1)), (chA, .inl (chAC, (4, .inr (.inr (.inr (.inr chAF)))))), (ch0, .inr (2, fs_2)), (ch1, .inr (2, fs_3)), (ch2, .inr (2, fs_4)), (ch3, .inr (2, fs_5)), (m0, .inr (13, fs_7)), (mch, .inl (mchC, (4, .inl (fun _ => 0)))), (oA, .inl (oAC, (1, .inr (.inl f_6))))]) [0, 1, 2, 3, 4, 5, 7, 8, 6] rfl
  have hD := hD.sub (ws' := [(x, .inr (12, fs_1)), (chA, .inl (chAC, (4, .inr (.inr (.inr (.inr chAF)))))), (ch0, .inr (2, fs_2)), (ch1, .inr (2, fs_3)), (ch2, .inr (2, fs_4)), (ch3, .inr (2, fs_5)), (m0, .inr (13, fs_7)), (mch, .inl (mchC, (4, .inl (fun _ => 0)))), (oA, .inl (oAC, (1, .inr (.inl f_6))))]) [0, 1, 2, 3, 4, 5, 7, 8, 6] (by decide) rfl
  generalize H1 = H at hP hS ⊢
  have hP : va_P (dC, dI) CL [(x, .inr (12, fs_1)), (chA, .inl (chAC, (4, .inr (.inr (.inr (.inr chAF)))))), (ch0, .inr (2, fs_2)), (ch1, .inr (2, fs_3)), (ch2, .inr (2, fs_4)), (ch3, .inr (2, fs_5)), (m0, .inr (13, fs_7)), (mch, .inl (mchC, (4, .inl (fun _ => 0)))), (oA, .inl (oAC, (1, .inr (.inl f_6))))] H := hP
  have hD : va_D A [(x, .inr (12, fs_1)), (chA, .inl (chAC, (4, .inr (.inr (.inr (.inr chAF)))))), (ch0, .inr (2, fs_2)), (ch1, .inr (2, fs_3)), (ch2, .inr (2, fs_4)), (ch3, .inr (2, fs_5)), (m0, .inr (13, fs_7)), (mch, .inl (mchC, (4, .inl (fun _ => 0)))), (oA, .inl (oAC, (1, .inr (.inl f_6))))] := hD
  refine lv_istore (lv' := [(6, .int 0), (5, .int 0), (0, .ref b), (1, .ref x), (2, .ref m0), (3, .ref oA), (4, .int 0)]) hx hb dL_law_596 hl (by decide) rfl (fun ls hl => ?_)
  refine lv_aload_n hx hb dL_law_598 rfl (lv_at hl 4 rfl) ?_
  have hPc := hP.sub (ws' := [(m0, .inr (13, fs_7))]) [6] rfl
  have hDc := hD.sub (ws' := [(m0, .inr (13, fs_7))]) [6] (by decide) rfl
  have hKc := hK.sub (tys' := []) [] rfl
  have hFc := va_free (wc := [(m0, .inr (13, fs_7))]) hD hS hA [6] rfl
  refine va_calli (va_runV (As := []) (rest := []) ⟨hx, hb, hml, hown, hts⟩ (gx71_X13_thrown l hlt dC dI _ m0 md ml mch fs_7 h_m0) (cwV 0 hts (gi_V wd_3015 wd_3016 wd_3017 wd_340 wd_3018) rfl rfl rfl (by decide +kernel) ⟨(Nat.le_of_ble_eq_true rfl), (Nat.le_of_ble_eq_true rfl)⟩) ⟨fun a U g mk q => by obtain ⟨q0, q1, qP, qK, qD, qT⟩ := q; exact ⟨q0, q1, qP, va_K.moved (u := U) (U := U.calling g mk a) (Vm.Alike.refl U.vm) qK, qD, th.moved (u := U) (U := U.calling g mk a) (Vm.Alike.refl U.vm) qT⟩, va_recv hKc hPc (ci := 13) (q0 := 0) rfl rfl, fun U hU hW => ⟨rfl, by rw [hU], by rw [hU]; exact hPc, va_K.moved hW.alike hKc, hDc.weaken (fun _ _ _ _ => trivial), by rw [hU]; exact ((hth.kept hS.2.1).narrow hFc).moved hW.alike⟩⟩ rfl rfl hl.1 rfl (lv_room (Nat.le_of_ble_eq_true rfl)) dL_law_599 ⟨(Nat.le_of_ble_eq_true rfl), (Nat.le_of_ble_eq_true rfl)⟩) hS (fun q _ h => hFc q h) hFc (fun r u t H1 locs ht hvm hw hB hz1 hk1 hS => ?_)
  subst hw
  obtain ⟨fs_8, h_m0, hP1, hK1, hD1⟩ := hB
  rw [ht] at hP1
  obtain ⟨hP, hD⟩ := va_join (wr := [(x, .inr (12, fs_1)), (chA, .inl (chAC, (4, .inr (.inr (.inr (.inr chAF)))))), (ch0, .inr (2, fs_2)), (ch1, .inr (2, fs_3)), (ch2, .inr (2, fs_4)), (ch3, .inr (2, fs_5)), (mch, .inl (mchC, (4, .inl (fun _ => 0)))), (oA, .inl (oAC, (1, .inr (.inl f_6))))]) (w1 := [(m0, .inr (13, fs_8))]) hP hD [6] [0, 1, 2, 3, 4, 5, 7, 8] rfl rfl (by decide) (by decide) hk1 hFc hP1 hD1
  have hP := hP.sub (ws' := [(x, .inr (12, fs_1)), (chA, .inl (chAC, (4, .inr (.inr (.inr (.inr chAF)))))), (ch0, .inr (2, fs_2)), (ch1, .inr (2, fs_3)), (ch2, .inr (2, fs_4)), (ch3, .inr (2, fs_5)), (m0, .inr (13, fs_8)), (mch, .inl (mchC, (4, .inl (fun _ => 0)))), (oA, .inl (oAC, (1, .inr (.inl f_6))))]) [0, 1, 2, 3, 4, 5, 8, 6, 7] rfl
  have hD := hD.sub (ws' := [(x, .inr (12, fs_1)), (chA, .inl (chAC, (4, .inr (.inr (.inr (.inr chAF)))))), (ch0, .inr (2, fs_2)), (ch1, .inr (2, fs_3)), (ch2, .inr (2, fs_4)), (ch3, .inr (2, fs_5)), (m0, .inr (13, fs_8)), (mch, .inl (mchC, (4, .inl (fun _ => 0)))), (oA, .inl (oAC, (1, .inr (.inl f_6))))]) [0, 1, 2, 3, 4, 5, 8, 6, 7] (by decide) rfl
  generalize H1 = H at hP hS ⊢
  have hP : va_P (dC, dI) CL [(x, .inr (12, fs_1)), (chA, .inl (chAC, (4, .inr (.inr (.inr (.inr chAF)))))), (ch0, .inr (2, fs_2)), (ch1, .inr (2, fs_3)), (ch2, .inr (2, fs_4)), (ch3, .inr (2, fs_5)), (m0, .inr (13, fs_8)), (mch, .inl (mchC, (4, .inl (fun _ => 0)))), (oA, .inl (oAC, (1, .inr (.inl f_6))))] H := hP
  have hD : va_D A [(x, .inr (12, fs_1)), (chA, .inl (chAC, (4, .inr (.inr (.inr (.inr chAF)))))), (ch0, .inr (2, fs_2)), (ch1, .inr (2, fs_3)), (ch2, .inr (2, fs_4)), (ch3, .inr (2, fs_5)), (m0, .inr (13, fs_8)), (mch, .inl (mchC, (4, .inl (fun _ => 0)))), (oA, .inl (oAC, (1, .inr (.inl f_6))))] := hD
  refine lv_iload hx hb dL_law_602 (lv_at hl 1 rfl) ?_
  refine lv_icmp_eq (tgt := 609) hx hb dL_law_604 (by decide) (fun c9 => ?_) (fun c9 => ?_)
  rotate_left
  · first | exact absurd c9 (by decide +kernel) | exact absurd (by decide +kernel) c9
  refine lv_iload hx hb dL_law_609 (lv_at hl 1 rfl) ?_
  refine lv_if_ne (tgt := 633) hx hb dL_law_611 (by decide) (fun c9 => ?_) (fun c9 => ?_)
  · first | exact absurd c9 (by decide +kernel) | exact absurd (by decide +kernel) c9
  refine lv_aload_n hx hb dL_law_614 rfl (lv_at hl 5 rfl) ?_
  refine lv_iconst (v := 0) hx hb dL_law_615 (by decide +kernel) ?_
  refine va_lald hx hb hK hP 8 2 rfl rfl (vp_in_nI (n := 0) (N := 1) (by decide) (by decide)) dL_law_616 ?_
  refine lv_topl (fun v9 e9 => ?_)
  obtain rfl : v9 = 0 := e9.trans ((congrArg f_6 (by decide +kernel : (0 : Int32).toNatClampNeg = 0)).trans (h_oA.get 0 rfl))
  refine lv_iload hx hb dL_law_617 (lv_at hl 0 rfl) ?_
  refine lv_if_eq (tgt := 626) hx hb dL_law_619 (by decide) (fun c9 => ?_) (fun c9 => ?_)
  rotate_left
  · first | exact absurd c9 (by decide +kernel) | exact absurd (by decide +kernel) c9
  refine lv_lconst (v := 0) hx hb dL_law_626 (by decide) ?_
  refine hc_lcmpE hx hb dL_law_627 ?_
  refine lv_if_eq (tgt := 633) hx hb dL_law_628 (by decide) (fun c9 => ?_) (fun c9 => ?_)
  rotate_left
  · first | exact absurd c9 (by decide +kernel) | exact absurd (by decide +kernel) c9
  refine lv_goto (tgt := 4099) hx hb dL_law_633 (by decide) ?_
  refine W.widen (k := 470) (n := 2709300) (Nat.le_of_ble_eq_true rfl) (Nat.le_of_ble_eq_true rfl) ?_
  rw [eA] at hS
  exact law_tail (v5 := 0) (v6 := 0) (lv := []) C0 hS (lv_sub hl [2, 6] rfl)
set_option maxHeartbeats 4000000 in
set_option maxRecDepth 100000 in
theorem law_isThere_2ge {p : Program} {l : Launch} {e : Env} {s : State} {m : MethodId} {below : List Frame} {meth : Method} {c : Code} {b : Nat} {xs : Nat → Int32} (C0 : lw_At p s m meth c b 7 xs) {dC : Nat → ClassId} {dI : Nat → Nat → Nat} (hlt : l.stackTraces = false) (hth : th (fun q : Nat => s.heap.size ≤ q) s s.heap) (q0 : (xs ((0 : Int32) + 1).toNatClampNeg) = 2) (p1 : Int32) (q1 : (xs ((0 : Int32) + 2).toNatClampNeg) = p1) (zk : ¬ p1 < 0) (zg : 4 ≤ p1) (x chA ch0 ch1 ch2 ch3 m0 mch oA deA liA md ml : Nat) (xg : List Value) (h_x : fx xg 17 [(7, .ref deA), (8, .ref liA), (9, .ref chA)]) (chAC : ClassId) (chAF : Nat → Option Nat) (ch0g : List Value) (h_ch0 : fx ch0g 20 [(0, .int 0)]) (ch1g : List Value) (h_ch1 : fx ch1g 20 [(0, .int 0)]) (ch2g : List Value) (h_ch2 : fx ch2g 20 [(0, .int 0)]) (ch3g : List Value) (h_ch3 : fx ch3g 20 [(0, .int 0)]) (m0g : List Value) (h_m0 : fx m0g 225 [(0, .int 0), (2, .int 0), (3, .int 0), (9, .int 0), (10, .int 0), (11, .int 0), (12, .int 0), (27, .int 0), (55, .ref md), (79, .int 0), (83, .int 0), (88, .ref ml), (95, .int 0), (138, .ref mch)]) (mchC : ClassId) (oAC : ClassId) (oAf : Nat → Int64) (h_oA : fa oAf []) (h_chA0 : chAF 0 = some ch0) (h_chA1 : chAF 1 = some ch1) (h_chA2 : chAF 2 = some ch2) (h_chA3 : chAF 3 = some ch3) (H : Heap) (locs : List Loc) (hK : va_K (dC, dI) CL [(chAC, .object "ChipFlow$Chip"), (mchC, .boolean), (oAC, .long)] s) (hP : va_P (dC, dI) CL [(x, .inr (12, xg)), (chA, .inl (chAC, (4, .inr (.inr (.inr (.inr chAF)))))), (ch0, .inr (2, ch0g)), (ch1, .inr (2, ch1g)), (ch2, .inr (2, ch2g)), (ch3, .inr (2, ch3g)), (m0, .inr (13, m0g)), (mch, .inl (mchC, (4, .inl (fun _ => 0)))), (oA, .inl (oAC, (1, .inr (.inl oAf))))] H) (hD : va_D (fun q : Nat => s.heap.size ≤ q) [(x, .inr (12, xg)), (chA, .inl (chAC, (4, .inr (.inr (.inr (.inr chAF)))))), (ch0, .inr (2, ch0g)), (ch1, .inr (2, ch1g)), (ch2, .inr (2, ch2g)), (ch3, .inr (2, ch3g)), (m0, .inr (13, m0g)), (mch, .inl (mchC, (4, .inl (fun _ => 0)))), (oA, .inl (oAC, (1, .inr (.inl oAf))))]) (hS : va_S (fun q : Nat => s.heap.size ≤ q) s.heap H locs) (ls : Array Slot) (hl : lv_has ls 7 [(0, .ref b), (1, .ref x), (2, .ref m0), (3, .ref oA), (4, .int 0)]) : W p l e room_1 s m #[Value.ref b] below meth c H locs 451 2709142 (lw_Z below #[Value.ref b] s) (F0 m 561 ls []) := by
  obtain ⟨hx, hb, hr, hml, hown, hts0, hX, hbl, hlocks, hgv⟩ := id C0
  have hts : ∀ w ∈ BG, w.before _ s = true := fun w h => hts0 w (List.mem_filter.mp h).1
  have hown : s.vm.findClass RL = some m.cls := hown
  obtain ⟨A, eA⟩ : ∃ z : Nat → Prop, z = (fun q : Nat => s.heap.size ≤ q) := ⟨_, rfl⟩
  rw [← eA] at hth hD hS
  have hA : ∀ q : Nat, s.heap.size ≤ q → A q := fun q h => by rw [eA]; exact h
  have hbA : ¬ A b := by rw [eA]; exact Nat.not_le.mpr hbl
  refine lv_aload_n hx hb dL_law_561 rfl (lv_at hl 1 rfl) ?_
  refine lv_aload_n hx hb dL_law_562 rfl (lv_at hl 0 rfl) ?_
  refine lv_iload hx hb dL_law_563 (lv_at hl 4 rfl) ?_
  refine lv_iconst (v := 1) hx hb dL_law_565 (by decide +kernel) ?_
  refine lv_iadd hx hb dL_law_566 ?_
  refine va_sld hx hb hX hbl hbA hS vi_1 dL_law_567 ?_
  refine lv_topi (fun v9 e9 => ?_)
  obtain rfl : v9 = 2 := e9.trans q0
  refine lv_aload_n hx hb dL_law_568 rfl (lv_at hl 0 rfl) ?_
  refine lv_iload hx hb dL_law_569 (lv_at hl 4 rfl) ?_
  refine lv_iconst (v := 2) hx hb dL_law_571 (by decide +kernel) ?_
  refine lv_iadd hx hb dL_law_572 ?_
  refine va_sld hx hb hX hbl hbA hS vi_2 dL_law_573 ?_
  refine lv_topi (fun v9 e9 => ?_)
  obtain rfl : p1 = v9 := (e9.trans q1).symm
  refine lv_aload_n hx hb dL_law_574 rfl (lv_at hl 3 rfl) ?_
  have hPc := hP.sub (ws' := [(x, .inr (12, xg)), (chA, .inl (chAC, (4, .inr (.inr (.inr (.inr chAF)))))), (ch0, .inr (2, ch0g)), (ch1, .inr (2, ch1g)), (ch2, .inr (2, ch2g)), (ch3, .inr (2, ch3g)), (oA, .inl (oAC, (1, .inr (.inl oAf))))]) [0, 1, 2, 3, 4, 5, 8] rfl
  have hDc := hD.sub (ws' := [(x, .inr (12, xg)), (chA, .inl (chAC, (4, .inr (.inr (.inr (.inr chAF)))))), (ch0, .inr (2, ch0g)), (ch1, .inr (2, ch1g)), (ch2, .inr (2, ch2g)), (ch3, .inr (2, ch3g)), (oA, .inl (oAC, (1, .inr (.inl oAf))))]) [0, 1, 2, 3, 4, 5, 8] (by decide) rfl
  have hKc := hK.sub (tys' := [(chAC, .object "ChipFlow$Chip"), (oAC, .long)]) [0, 2] rfl
  have hFc := va_free (wc := [(x, .inr (12, xg)), (chA, .inl (chAC, (4, .inr (.inr (.inr (.inr chAF)))))), (ch0, .inr (2, ch0g)), (ch1, .inr (2, ch1g)), (ch2, .inr (2, ch2g)), (ch3, .inr (2, ch3g)), (oA, .inl (oAC, (1, .inr (.inl oAf))))]) hD hS hA [0, 1, 2, 3, 4, 5, 8] rfl
  refine va_calli (vx_runSW (As := [.ref x, .int 2, .int p1, .ref oA]) (rest := []) ⟨hx, hb, hml, hown, hts⟩ (gx124_L_isThere l hlt dC dI _ p1 x chA ch0 ch1 ch2 ch3 oA deA liA xg h_x chAC chAF ch0g h_ch0 ch1g h_ch1 ch2g h_ch2 ch3g h_ch3 oAC oAf h_oA h_chA0 h_chA1 h_chA2 h_chA3 zk zg) (vx_cwSW 4 hts (gi_W wd_1839 wd_1840 wd_326 wd_1841) rfl rfl rfl (by decide +kernel) ⟨(Nat.le_of_ble_eq_true rfl), (Nat.le_of_ble_eq_true rfl)⟩) ⟨fun a U g mk q => by obtain ⟨q0, q1, qP, qK, qD, qT⟩ := q; exact ⟨q0, q1, qP, va_K.moved (u := U) (U := U.calling g mk a) (Vm.Alike.refl U.vm) qK, qD, th.moved (u := U) (U := U.calling g mk a) (Vm.Alike.refl U.vm) qT⟩, fun U hU hW => ⟨rfl, by rw [hU], by rw [hU]; exact hPc, va_K.moved hW.alike hKc, hDc.weaken (fun _ _ _ _ => trivial), by rw [hU]; exact ((hth.kept hS.2.1).narrow hFc).moved hW.alike⟩⟩ rfl rfl hl.1 rfl (lv_room (Nat.le_of_ble_eq_true rfl)) dL_law_575 ⟨(Nat.le_of_ble_eq_true rfl), (Nat.le_of_ble_eq_true rfl)⟩) hS (fun q _ h => hFc q h) hFc (fun r u t H1 locs ht hvm hw hB hz1 hk1 hS => ?_)
  subst hw
  obtain ⟨fs_1, fs_2, fs_3, fs_4, fs_5, f_6, h_x, h_ch0, h_ch1, h_ch2, h_ch3, h_oA, hP1, hK1, hD1⟩ := hB
  rw [ht] at hP1
  obtain ⟨hP, hD⟩ := va_join (wr := [(m0, .inr (13, m0g)), (mch, .inl (mchC, (4, .inl (fun _ => 0))))]) (w1 := [(x, .inr (12, fs_1)), (chA, .inl (chAC, (4, .inr (.inr (.inr (.inr chAF)))))), (ch0, .inr (2, fs_2)), (ch1, .inr (2, fs_3)), (ch2, .inr (2, fs_4)), (ch3, .inr (2, fs_5)), (oA, .inl (oAC, (1, .inr (.inl f_6))))]) hP hD [0, 1, 2, 3, 4, 5, 8] [6, 7] rfl rfl (by decide) (by decide) hk1 hFc hP1 hD1
  have hP := hP.sub (ws' := [(x, .inr (12, fs_1)), (chA, .inl (chAC, (4, .inr (.inr (.inr (.inr chAF)))))), (ch0, .inr (2, fs_2)), (ch1, .inr (2, fs_3)), (ch2, .inr (2, fs_4)), (ch3, .inr (2, fs_5)), (m0, .inr (13, m0g)), (mch, .inl (mchC, (4, .inl (fun _ => 0)))), (oA, .inl (oAC, (1, .inr (.inl f_6))))]) [2, 3, 4, 5, 6, 7, 0, 1, 8] rfl
  have hD := hD.sub (ws' := [(x, .inr (12, fs_1)), (chA, .inl (chAC, (4, .inr (.inr (.inr (.inr chAF)))))), (ch0, .inr (2, fs_2)), (ch1, .inr (2, fs_3)), (ch2, .inr (2, fs_4)), (ch3, .inr (2, fs_5)), (m0, .inr (13, m0g)), (mch, .inl (mchC, (4, .inl (fun _ => 0)))), (oA, .inl (oAC, (1, .inr (.inl f_6))))]) [2, 3, 4, 5, 6, 7, 0, 1, 8] (by decide) rfl
  generalize H1 = H at hP hS ⊢
  have hP : va_P (dC, dI) CL [(x, .inr (12, fs_1)), (chA, .inl (chAC, (4, .inr (.inr (.inr (.inr chAF)))))), (ch0, .inr (2, fs_2)), (ch1, .inr (2, fs_3)), (ch2, .inr (2, fs_4)), (ch3, .inr (2, fs_5)), (m0, .inr (13, m0g)), (mch, .inl (mchC, (4, .inl (fun _ => 0)))), (oA, .inl (oAC, (1, .inr (.inl f_6))))] H := hP
  have hD : va_D A [(x, .inr (12, fs_1)), (chA, .inl (chAC, (4, .inr (.inr (.inr (.inr chAF)))))), (ch0, .inr (2, fs_2)), (ch1, .inr (2, fs_3)), (ch2, .inr (2, fs_4)), (ch3, .inr (2, fs_5)), (m0, .inr (13, m0g)), (mch, .inl (mchC, (4, .inl (fun _ => 0)))), (oA, .inl (oAC, (1, .inr (.inl f_6))))] := hD
  refine W.widen (k := 452) (n := 2709148) (Nat.le_of_ble_eq_true rfl) (Nat.le_of_ble_eq_true rfl) ?_
  refine lv_istore (lv' := [(5, .int 0), (0, .ref b), (1, .ref x), (2, .ref m0), (3, .ref oA), (4, .int 0)]) hx hb dL_law_578 hl (by decide) rfl (fun ls hl => ?_)
  refine lv_aload_n hx hb dL_law_580 rfl (lv_at hl 3 rfl) ?_
  refine lv_aload_n hx hb dL_law_581 rfl (lv_at hl 1 rfl) ?_
  refine lv_iload hx hb dL_law_582 (lv_at hl 5 rfl) ?_
  refine lv_iconst (v := 1) hx hb dL_law_584 (by decide +kernel) ?_
  refine lv_iadd hx hb dL_law_585 ?_
  refine va_sld hx hb hX hbl hbA hS vi_1 dL_law_586 ?_
  refine lv_topi (fun v9 e9 => ?_)
  obtain rfl : v9 = 2 := e9.trans q0
  refine lv_aload_n hx hb dL_law_587 rfl (lv_at hl 1 rfl) ?_
  refine lv_iload hx hb dL_law_588 (lv_at hl 5 rfl) ?_
  refine lv_iconst (v := 2) hx hb dL_law_590 (by decide +kernel) ?_
  refine lv_iadd hx hb dL_law_591 ?_
  refine va_sld hx hb hX hbl hbA hS vi_2 dL_law_592 ?_
  refine lv_topi (fun v9 e9 => ?_)
  obtain rfl : p1 = v9 := (e9.trans q1).symm
  have hPc := hP.sub (ws' := [(m0, .inr (13, m0g)), (mch, .inl (mchC, (4, .inl (fun _ => 0))))]) [6, 7] rfl
  have hDc := hD.sub (ws' := [(m0, .inr (13, m0g)), (mch, .inl (mchC, (4, .inl (fun _ => 0))))]) [6, 7] (by decide) rfl
  have hKc := hK.sub (tys' := [(mchC, .boolean)]) [1] rfl
  have hFc := va_free (wc := [(m0, .inr (13, m0g)), (mch, .inl (mchC, (4, .inl (fun _ => 0))))]) hD hS hA [6, 7] rfl
  refine va_calli (va_runV (As := [.int 2, .int p1]) (rest := []) ⟨hx, hb, hml, hown, hts⟩ (gx126_X13_isThere l hlt dC dI _ p1 m0 mch md ml m0g h_m0 mchC zk zg) (cwV 2 hts (gi_V wd_4088 wd_4089 wd_4090 wd_340 wd_4091) rfl rfl rfl (by decide +kernel) ⟨(Nat.le_of_ble_eq_true rfl), (Nat.le_of_ble_eq_true rfl)⟩) ⟨fun a U g mk q => by obtain ⟨q0, q1, qP, qK, qD, qT⟩ := q; exact ⟨q0, q1, qP, va_K.moved (u := U) (U := U.calling g mk a) (Vm.Alike.refl U.vm) qK, qD, th.moved (u := U) (U := U.calling g mk a) (Vm.Alike.refl U.vm) qT⟩, va_recv hKc hPc (ci := 13) (q0 := 0) rfl rfl, fun U hU hW => ⟨rfl, by rw [hU], by rw [hU]; exact hPc, va_K.moved hW.alike hKc, hDc.weaken (fun _ _ _ _ => trivial), by rw [hU]; exact ((hth.kept hS.2.1).narrow hFc).moved hW.alike⟩⟩ rfl rfl hl.1 rfl (lv_room (Nat.le_of_ble_eq_true rfl)) dL_law_593 ⟨(Nat.le_of_ble_eq_true rfl), (Nat.le_of_ble_eq_true rfl)⟩) hS (fun q _ h => hFc q h) hFc (fun r u t H1 locs ht hvm hw hB hz1 hk1 hS => ?_)
  subst hw
  obtain ⟨fs_7, h_m0, hP1, hK1, hD1⟩ := hB
  rw [ht] at hP1
  obtain ⟨hP, hD⟩ := va_join (wr := [(x, .inr (12, fs_1)), (chA, .inl (chAC, (4, .inr (.inr (.inr (.inr chAF)))))), (ch0, .inr (2, fs_2)), (ch1, .inr (2, fs_3)), (ch2, .inr (2, fs_4)), (ch3, .inr (2, fs_5)), (oA, .inl (oAC, (1, .inr (.inl f_6))))]) (w1 := [(m0, .inr (13, fs_7)), (mch, .inl (mchC, (4, .inl (fun _ => 0))))]) hP hD [6, 7] [0, 1, 2, 3, 4, 5, 8] rfl rfl (by decide) (by decide) hk1 hFc hP1 hD1
  have hP := hP.sub (ws' := [(x, .inr (12, fs_1)), (chA, .inl (chAC, (4, .inr (.inr (.inr (.inr chAF)))))), (ch0, .inr (2, fs_2)), (ch1, .inr (2, fs_3)), (ch2, .inr (2, fs_4)), (ch3, .inr (2, fs_5)), (m0, .inr (13, fs_7)), (mch, .inl (mchC, (4, .inl (fun _ => 0)))), (oA, .inl (oAC, (1, .inr (.inl f_6))))]) [0, 1, 2, 3, 4, 5, 7, 8, 6] rfl
  have hD := hD.sub (ws' := [(x, .inr (12, fs_1)), (chA, .inl (chAC, (4, .inr (.inr (.inr (.inr chAF)))))), (ch0, .inr (2, fs_2)), (ch1, .inr (2, fs_3)), (ch2, .inr (2, fs_4)), (ch3, .inr (2, fs_5)), (m0, .inr (13, fs_7)), (mch, .inl (mchC, (4, .inl (fun _ => 0)))), (oA, .inl (oAC, (1, .inr (.inl f_6))))]) [0, 1, 2, 3, 4, 5, 7, 8, 6] (by decide) rfl
  generalize H1 = H at hP hS ⊢
  have hP : va_P (dC, dI) CL [(x, .inr (12, fs_1)), (chA, .inl (chAC, (4, .inr (.inr (.inr (.inr chAF)))))), (ch0, .inr (2, fs_2)), (ch1, .inr (2, fs_3)), (ch2, .inr (2, fs_4)), (ch3, .inr (2, fs_5)), (m0, .inr (13, fs_7)), (mch, .inl (mchC, (4, .inl (fun _ => 0)))), (oA, .inl (oAC, (1, .inr (.inl f_6))))] H := hP
  have hD : va_D A [(x, .inr (12, fs_1)), (chA, .inl (chAC, (4, .inr (.inr (.inr (.inr chAF)))))), (ch0, .inr (2, fs_2)), (ch1, .inr (2, fs_3)), (ch2, .inr (2, fs_4)), (ch3, .inr (2, fs_5)), (m0, .inr (13, fs_7)), (mch, .inl (mchC, (4, .inl (fun _ => 0)))), (oA, .inl (oAC, (1, .inr (.inl f_6))))] := hD
  refine lv_istore (lv' := [(6, .int 0), (5, .int 0), (0, .ref b), (1, .ref x), (2, .ref m0), (3, .ref oA), (4, .int 0)]) hx hb dL_law_596 hl (by decide) rfl (fun ls hl => ?_)
  refine lv_aload_n hx hb dL_law_598 rfl (lv_at hl 4 rfl) ?_
  have hPc := hP.sub (ws' := [(m0, .inr (13, fs_7))]) [6] rfl
  have hDc := hD.sub (ws' := [(m0, .inr (13, fs_7))]) [6] (by decide) rfl
  have hKc := hK.sub (tys' := []) [] rfl
  have hFc := va_free (wc := [(m0, .inr (13, fs_7))]) hD hS hA [6] rfl
  refine va_calli (va_runV (As := []) (rest := []) ⟨hx, hb, hml, hown, hts⟩ (gx71_X13_thrown l hlt dC dI _ m0 md ml mch fs_7 h_m0) (cwV 0 hts (gi_V wd_3015 wd_3016 wd_3017 wd_340 wd_3018) rfl rfl rfl (by decide +kernel) ⟨(Nat.le_of_ble_eq_true rfl), (Nat.le_of_ble_eq_true rfl)⟩) ⟨fun a U g mk q => by obtain ⟨q0, q1, qP, qK, qD, qT⟩ := q; exact ⟨q0, q1, qP, va_K.moved (u := U) (U := U.calling g mk a) (Vm.Alike.refl U.vm) qK, qD, th.moved (u := U) (U := U.calling g mk a) (Vm.Alike.refl U.vm) qT⟩, va_recv hKc hPc (ci := 13) (q0 := 0) rfl rfl, fun U hU hW => ⟨rfl, by rw [hU], by rw [hU]; exact hPc, va_K.moved hW.alike hKc, hDc.weaken (fun _ _ _ _ => trivial), by rw [hU]; exact ((hth.kept hS.2.1).narrow hFc).moved hW.alike⟩⟩ rfl rfl hl.1 rfl (lv_room (Nat.le_of_ble_eq_true rfl)) dL_law_599 ⟨(Nat.le_of_ble_eq_true rfl), (Nat.le_of_ble_eq_true rfl)⟩) hS (fun q _ h => hFc q h) hFc (fun r u t H1 locs ht hvm hw hB hz1 hk1 hS => ?_)
  subst hw
  obtain ⟨fs_8, h_m0, hP1, hK1, hD1⟩ := hB
  rw [ht] at hP1
  obtain ⟨hP, hD⟩ := va_join (wr := [(x, .inr (12, fs_1)), (chA, .inl (chAC, (4, .inr (.inr (.inr (.inr chAF)))))), (ch0, .inr (2, fs_2)), (ch1, .inr (2, fs_3)), (ch2, .inr (2, fs_4)), (ch3, .inr (2, fs_5)), (mch, .inl (mchC, (4, .inl (fun _ => 0)))), (oA, .inl (oAC, (1, .inr (.inl f_6))))]) (w1 := [(m0, .inr (13, fs_8))]) hP hD [6] [0, 1, 2, 3, 4, 5, 7, 8] rfl rfl (by decide) (by decide) hk1 hFc hP1 hD1
  have hP := hP.sub (ws' := [(x, .inr (12, fs_1)), (chA, .inl (chAC, (4, .inr (.inr (.inr (.inr chAF)))))), (ch0, .inr (2, fs_2)), (ch1, .inr (2, fs_3)), (ch2, .inr (2, fs_4)), (ch3, .inr (2, fs_5)), (m0, .inr (13, fs_8)), (mch, .inl (mchC, (4, .inl (fun _ => 0)))), (oA, .inl (oAC, (1, .inr (.inl f_6))))]) [0, 1, 2, 3, 4, 5, 8, 6, 7] rfl
  have hD := hD.sub (ws' := [(x, .inr (12, fs_1)), (chA, .inl (chAC, (4, .inr (.inr (.inr (.inr chAF)))))), (ch0, .inr (2, fs_2)), (ch1, .inr (2, fs_3)), (ch2, .inr (2, fs_4)), (ch3, .inr (2, fs_5)), (m0, .inr (13, fs_8)), (mch, .inl (mchC, (4, .inl (fun _ => 0)))), (oA, .inl (oAC, (1, .inr (.inl f_6))))]) [0, 1, 2, 3, 4, 5, 8, 6, 7] (by decide) rfl
  generalize H1 = H at hP hS ⊢
  have hP : va_P (dC, dI) CL [(x, .inr (12, fs_1)), (chA, .inl (chAC, (4, .inr (.inr (.inr (.inr chAF)))))), (ch0, .inr (2, fs_2)), (ch1, .inr (2, fs_3)), (ch2, .inr (2, fs_4)), (ch3, .inr (2, fs_5)), (m0, .inr (13, fs_8)), (mch, .inl (mchC, (4, .inl (fun _ => 0)))), (oA, .inl (oAC, (1, .inr (.inl f_6))))] H := hP
  have hD : va_D A [(x, .inr (12, fs_1)), (chA, .inl (chAC, (4, .inr (.inr (.inr (.inr chAF)))))), (ch0, .inr (2, fs_2)), (ch1, .inr (2, fs_3)), (ch2, .inr (2, fs_4)), (ch3, .inr (2, fs_5)), (m0, .inr (13, fs_8)), (mch, .inl (mchC, (4, .inl (fun _ => 0)))), (oA, .inl (oAC, (1, .inr (.inl f_6))))] := hD
  refine lv_iload hx hb dL_law_602 (lv_at hl 1 rfl) ?_
  refine lv_icmp_eq (tgt := 609) hx hb dL_law_604 (by decide) (fun c9 => ?_) (fun c9 => ?_)
  rotate_left
  · first | exact absurd c9 (by decide +kernel) | exact absurd (by decide +kernel) c9
  refine lv_iload hx hb dL_law_609 (lv_at hl 1 rfl) ?_
  refine lv_if_ne (tgt := 633) hx hb dL_law_611 (by decide) (fun c9 => ?_) (fun c9 => ?_)
  · first | exact absurd c9 (by decide +kernel) | exact absurd (by decide +kernel) c9
  refine lv_aload_n hx hb dL_law_614 rfl (lv_at hl 5 rfl) ?_
  refine lv_iconst (v := 0) hx hb dL_law_615 (by decide +kernel) ?_
  refine va_lald hx hb hK hP 8 2 rfl rfl (vp_in_nI (n := 0) (N := 1) (by decide) (by decide)) dL_law_616 ?_
  refine lv_topl (fun v9 e9 => ?_)
  obtain rfl : v9 = 0 := e9.trans ((congrArg f_6 (by decide +kernel : (0 : Int32).toNatClampNeg = 0)).trans (h_oA.get 0 rfl))
  refine lv_iload hx hb dL_law_617 (lv_at hl 0 rfl) ?_
  refine lv_if_eq (tgt := 626) hx hb dL_law_619 (by decide) (fun c9 => ?_) (fun c9 => ?_)
  rotate_left
  · first | exact absurd c9 (by decide +kernel) | exact absurd (by decide +kernel) c9
  refine lv_lconst (v := 0) hx hb dL_law_626 (by decide) ?_
  refine hc_lcmpE hx hb dL_law_627 ?_
  refine lv_if_eq (tgt := 633) hx hb dL_law_628 (by decide) (fun c9 => ?_) (fun c9 => ?_)
  rotate_left
  · first | exact absurd c9 (by decide +kernel) | exact absurd (by decide +kernel) c9
  refine lv_goto (tgt := 4099) hx hb dL_law_633 (by decide) ?_
  refine W.widen (k := 470) (n := 2709300) (Nat.le_of_ble_eq_true rfl) (Nat.le_of_ble_eq_true rfl) ?_
  rw [eA] at hS
  exact law_tail (v5 := 0) (v6 := 0) (lv := []) C0 hS (lv_sub hl [2, 6] rfl)
set_option maxHeartbeats 4000000 in
set_option maxRecDepth 100000 in
theorem law_isThere_2k0 {p : Program} {l : Launch} {e : Env} {s : State} {m : MethodId} {below : List Frame} {meth : Method} {c : Code} {b : Nat} {xs : Nat → Int32} (C0 : lw_At p s m meth c b 7 xs) {dC : Nat → ClassId} {dI : Nat → Nat → Nat} (hlt : l.stackTraces = false) (hth : th (fun q : Nat => s.heap.size ≤ q) s s.heap) (q0 : (xs ((0 : Int32) + 1).toNatClampNeg) = 2) (q1 : (xs ((0 : Int32) + 2).toNatClampNeg) = 0) (x chA ch0 ch1 ch2 ch3 m0 mch oA deA liA md ml : Nat) (xg : List Value) (h_x : fx xg 17 [(7, .ref deA), (8, .ref liA), (9, .ref chA)]) (chAC : ClassId) (chAF : Nat → Option Nat) (ch0g : List Value) (h_ch0 : fx ch0g 20 [(0, .int 0)]) (ch1g : List Value) (h_ch1 : fx ch1g 20 [(0, .int 0)]) (ch2g : List Value) (h_ch2 : fx ch2g 20 [(0, .int 0)]) (ch3g : List Value) (h_ch3 : fx ch3g 20 [(0, .int 0)]) (m0g : List Value) (h_m0 : fx m0g 225 [(0, .int 0), (2, .int 0), (3, .int 0), (9, .int 0), (10, .int 0), (11, .int 0), (12, .int 0), (27, .int 0), (55, .ref md), (79, .int 0), (83, .int 0), (88, .ref ml), (95, .int 0), (138, .ref mch)]) (mchC : ClassId) (oAC : ClassId) (oAf : Nat → Int64) (h_oA : fa oAf []) (h_chA0 : chAF 0 = some ch0) (h_chA1 : chAF 1 = some ch1) (h_chA2 : chAF 2 = some ch2) (h_chA3 : chAF 3 = some ch3) (H : Heap) (locs : List Loc) (hK : va_K (dC, dI) CL [(chAC, .object "ChipFlow$Chip"), (mchC, .boolean), (oAC, .long)] s) (hP : va_P (dC, dI) CL [(x, .inr (12, xg)), (chA, .inl (chAC, (4, .inr (.inr (.inr (.inr chAF)))))), (ch0, .inr (2, ch0g)), (ch1, .inr (2, ch1g)), (ch2, .inr (2, ch2g)), (ch3, .inr (2, ch3g)), (m0, .inr (13, m0g)), (mch, .inl (mchC, (4, .inl (fun _ => 0)))), (oA, .inl (oAC, (1, .inr (.inl oAf))))] H) (hD : va_D (fun q : Nat => s.heap.size ≤ q) [(x, .inr (12, xg)), (chA, .inl (chAC, (4, .inr (.inr (.inr (.inr chAF)))))), (ch0, .inr (2, ch0g)), (ch1, .inr (2, ch1g)), (ch2, .inr (2, ch2g)), (ch3, .inr (2, ch3g)), (m0, .inr (13, m0g)), (mch, .inl (mchC, (4, .inl (fun _ => 0)))), (oA, .inl (oAC, (1, .inr (.inl oAf))))]) (hS : va_S (fun q : Nat => s.heap.size ≤ q) s.heap H locs) (ls : Array Slot) (hl : lv_has ls 7 [(0, .ref b), (1, .ref x), (2, .ref m0), (3, .ref oA), (4, .int 0)]) : W p l e room_1 s m #[Value.ref b] below meth c H locs 451 2709142 (lw_Z below #[Value.ref b] s) (F0 m 561 ls []) := by
  obtain ⟨hx, hb, hr, hml, hown, hts0, hX, hbl, hlocks, hgv⟩ := id C0
  have hts : ∀ w ∈ BG, w.before _ s = true := fun w h => hts0 w (List.mem_filter.mp h).1
  have hown : s.vm.findClass RL = some m.cls := hown
  obtain ⟨A, eA⟩ : ∃ z : Nat → Prop, z = (fun q : Nat => s.heap.size ≤ q) := ⟨_, rfl⟩
  rw [← eA] at hth hD hS
  have hA : ∀ q : Nat, s.heap.size ≤ q → A q := fun q h => by rw [eA]; exact h
  have hbA : ¬ A b := by rw [eA]; exact Nat.not_le.mpr hbl
  refine lv_aload_n hx hb dL_law_561 rfl (lv_at hl 1 rfl) ?_
  refine lv_aload_n hx hb dL_law_562 rfl (lv_at hl 0 rfl) ?_
  refine lv_iload hx hb dL_law_563 (lv_at hl 4 rfl) ?_
  refine lv_iconst (v := 1) hx hb dL_law_565 (by decide +kernel) ?_
  refine lv_iadd hx hb dL_law_566 ?_
  refine va_sld hx hb hX hbl hbA hS vi_1 dL_law_567 ?_
  refine lv_topi (fun v9 e9 => ?_)
  obtain rfl : v9 = 2 := e9.trans q0
  refine lv_aload_n hx hb dL_law_568 rfl (lv_at hl 0 rfl) ?_
  refine lv_iload hx hb dL_law_569 (lv_at hl 4 rfl) ?_
  refine lv_iconst (v := 2) hx hb dL_law_571 (by decide +kernel) ?_
  refine lv_iadd hx hb dL_law_572 ?_
  refine va_sld hx hb hX hbl hbA hS vi_2 dL_law_573 ?_
  refine lv_topi (fun v9 e9 => ?_)
  obtain rfl : v9 = 0 := e9.trans q1
  refine lv_aload_n hx hb dL_law_574 rfl (lv_at hl 3 rfl) ?_
  have hPc := hP.sub (ws' := [(x, .inr (12, xg)), (chA, .inl (chAC, (4, .inr (.inr (.inr (.inr chAF)))))), (ch0, .inr (2, ch0g)), (ch1, .inr (2, ch1g)), (ch2, .inr (2, ch2g)), (ch3, .inr (2, ch3g)), (oA, .inl (oAC, (1, .inr (.inl oAf))))]) [0, 1, 2, 3, 4, 5, 8] rfl
  have hDc := hD.sub (ws' := [(x, .inr (12, xg)), (chA, .inl (chAC, (4, .inr (.inr (.inr (.inr chAF)))))), (ch0, .inr (2, ch0g)), (ch1, .inr (2, ch1g)), (ch2, .inr (2, ch2g)), (ch3, .inr (2, ch3g)), (oA, .inl (oAC, (1, .inr (.inl oAf))))]) [0, 1, 2, 3, 4, 5, 8] (by decide) rfl
  have hKc := hK.sub (tys' := [(chAC, .object "ChipFlow$Chip"), (oAC, .long)]) [0, 2] rfl
  have hFc := va_free (wc := [(x, .inr (12, xg)), (chA, .inl (chAC, (4, .inr (.inr (.inr (.inr chAF)))))), (ch0, .inr (2, ch0g)), (ch1, .inr (2, ch1g)), (ch2, .inr (2, ch2g)), (ch3, .inr (2, ch3g)), (oA, .inl (oAC, (1, .inr (.inl oAf))))]) hD hS hA [0, 1, 2, 3, 4, 5, 8] rfl
  refine va_calli (vx_runSW (As := [.ref x, .int 2, .int 0, .ref oA]) (rest := []) ⟨hx, hb, hml, hown, hts⟩ (gx128_L_isThere l hlt dC dI _ x chA ch0 ch1 ch2 ch3 oA deA liA xg h_x chAC chAF ch0g h_ch0 ch1g h_ch1 ch2g h_ch2 ch3g h_ch3 oAC oAf h_oA h_chA0 h_chA1 h_chA2 h_chA3) (vx_cwSW 4 hts (gi_W wd_1839 wd_1840 wd_326 wd_1841) rfl rfl rfl (by decide +kernel) ⟨(Nat.le_of_ble_eq_true rfl), (Nat.le_of_ble_eq_true rfl)⟩) ⟨fun a U g mk q => by obtain ⟨q0, q1, qP, qK, qD, qT⟩ := q; exact ⟨q0, q1, qP, va_K.moved (u := U) (U := U.calling g mk a) (Vm.Alike.refl U.vm) qK, qD, th.moved (u := U) (U := U.calling g mk a) (Vm.Alike.refl U.vm) qT⟩, fun U hU hW => ⟨rfl, by rw [hU], by rw [hU]; exact hPc, va_K.moved hW.alike hKc, hDc.weaken (fun _ _ _ _ => trivial), by rw [hU]; exact ((hth.kept hS.2.1).narrow hFc).moved hW.alike⟩⟩ rfl rfl hl.1 rfl (lv_room (Nat.le_of_ble_eq_true rfl)) dL_law_575 ⟨(Nat.le_of_ble_eq_true rfl), (Nat.le_of_ble_eq_true rfl)⟩) hS (fun q _ h => hFc q h) hFc (fun r u t H1 locs ht hvm hw hB hz1 hk1 hS => ?_)
  subst hw
  obtain ⟨fs_1, fs_2, fs_3, fs_4, fs_5, f_6, h_x, h_ch0, h_ch1, h_ch2, h_ch3, h_oA, hP1, hK1, hD1⟩ := hB
  rw [ht] at hP1
  obtain ⟨hP, hD⟩ := va_join (wr := [(m0, .inr (13, m0g)), (mch, .inl (mchC, (4, .inl (fun _ => 0))))]) (w1 := [(x, .inr (12, fs_1)), (chA, .inl (chAC, (4, .inr (.inr (.inr (.inr chAF)))))), (ch0, .inr (2, fs_2)), (ch1, .inr (2, fs_3)), (ch2, .inr (2, fs_4)), (ch3, .inr (2, fs_5)), (oA, .inl (oAC, (1, .inr (.inl f_6))))]) hP hD [0, 1, 2, 3, 4, 5, 8] [6, 7] rfl rfl (by decide) (by decide) hk1 hFc hP1 hD1
  have hP := hP.sub (ws' := [(x, .inr (12, fs_1)), (chA, .inl (chAC, (4, .inr (.inr (.inr (.inr chAF)))))), (ch0, .inr (2, fs_2)), (ch1, .inr (2, fs_3)), (ch2, .inr (2, fs_4)), (ch3, .inr (2, fs_5)), (m0, .inr (13, m0g)), (mch, .inl (mchC, (4, .inl (fun _ => 0)))), (oA, .inl (oAC, (1, .inr (.inl f_6))))]) [2, 3, 4, 5, 6, 7, 0, 1, 8] rfl
  have hD := hD.sub (ws' := [(x, .inr (12, fs_1)), (chA, .inl (chAC, (4, .inr (.inr (.inr (.inr chAF)))))), (ch0, .inr (2, fs_2)), (ch1, .inr (2, fs_3)), (ch2, .inr (2, fs_4)), (ch3, .inr (2, fs_5)), (m0, .inr (13, m0g)), (mch, .inl (mchC, (4, .inl (fun _ => 0)))), (oA, .inl (oAC, (1, .inr (.inl f_6))))]) [2, 3, 4, 5, 6, 7, 0, 1, 8] (by decide) rfl
  generalize H1 = H at hP hS ⊢
  have hP : va_P (dC, dI) CL [(x, .inr (12, fs_1)), (chA, .inl (chAC, (4, .inr (.inr (.inr (.inr chAF)))))), (ch0, .inr (2, fs_2)), (ch1, .inr (2, fs_3)), (ch2, .inr (2, fs_4)), (ch3, .inr (2, fs_5)), (m0, .inr (13, m0g)), (mch, .inl (mchC, (4, .inl (fun _ => 0)))), (oA, .inl (oAC, (1, .inr (.inl f_6))))] H := hP
  have hD : va_D A [(x, .inr (12, fs_1)), (chA, .inl (chAC, (4, .inr (.inr (.inr (.inr chAF)))))), (ch0, .inr (2, fs_2)), (ch1, .inr (2, fs_3)), (ch2, .inr (2, fs_4)), (ch3, .inr (2, fs_5)), (m0, .inr (13, m0g)), (mch, .inl (mchC, (4, .inl (fun _ => 0)))), (oA, .inl (oAC, (1, .inr (.inl f_6))))] := hD
  refine W.widen (k := 452) (n := 2709148) (Nat.le_of_ble_eq_true rfl) (Nat.le_of_ble_eq_true rfl) ?_
  refine lv_istore (lv' := [(5, .int 0), (0, .ref b), (1, .ref x), (2, .ref m0), (3, .ref oA), (4, .int 0)]) hx hb dL_law_578 hl (by decide) rfl (fun ls hl => ?_)
  refine lv_aload_n hx hb dL_law_580 rfl (lv_at hl 3 rfl) ?_
  refine lv_aload_n hx hb dL_law_581 rfl (lv_at hl 1 rfl) ?_
  refine lv_iload hx hb dL_law_582 (lv_at hl 5 rfl) ?_
  refine lv_iconst (v := 1) hx hb dL_law_584 (by decide +kernel) ?_
  refine lv_iadd hx hb dL_law_585 ?_
  refine va_sld hx hb hX hbl hbA hS vi_1 dL_law_586 ?_
  refine lv_topi (fun v9 e9 => ?_)
  obtain rfl : v9 = 2 := e9.trans q0
  refine lv_aload_n hx hb dL_law_587 rfl (lv_at hl 1 rfl) ?_
  refine lv_iload hx hb dL_law_588 (lv_at hl 5 rfl) ?_
  refine lv_iconst (v := 2) hx hb dL_law_590 (by decide +kernel) ?_
  refine lv_iadd hx hb dL_law_591 ?_
  refine va_sld hx hb hX hbl hbA hS vi_2 dL_law_592 ?_
  refine lv_topi (fun v9 e9 => ?_)
  obtain rfl : v9 = 0 := e9.trans q1
  have hPc := hP.sub (ws' := [(m0, .inr (13, m0g)), (mch, .inl (mchC, (4, .inl (fun _ => 0))))]) [6, 7] rfl
  have hDc := hD.sub (ws' := [(m0, .inr (13, m0g)), (mch, .inl (mchC, (4, .inl (fun _ => 0))))]) [6, 7] (by decide) rfl
  have hKc := hK.sub (tys' := [(mchC, .boolean)]) [1] rfl
  have hFc := va_free (wc := [(m0, .inr (13, m0g)), (mch, .inl (mchC, (4, .inl (fun _ => 0))))]) hD hS hA [6, 7] rfl
  refine va_calli (va_runV (As := [.int 2, .int 0]) (rest := []) ⟨hx, hb, hml, hown, hts⟩ (gx130_X13_isThere l hlt dC dI _ m0 mch md ml m0g h_m0 mchC) (cwV 2 hts (gi_V wd_4088 wd_4089 wd_4090 wd_340 wd_4091) rfl rfl rfl (by decide +kernel) ⟨(Nat.le_of_ble_eq_true rfl), (Nat.le_of_ble_eq_true rfl)⟩) ⟨fun a U g mk q => by obtain ⟨q0, q1, qP, qK, qD, qT⟩ := q; exact ⟨q0, q1, qP, va_K.moved (u := U) (U := U.calling g mk a) (Vm.Alike.refl U.vm) qK, qD, th.moved (u := U) (U := U.calling g mk a) (Vm.Alike.refl U.vm) qT⟩, va_recv hKc hPc (ci := 13) (q0 := 0) rfl rfl, fun U hU hW => ⟨rfl, by rw [hU], by rw [hU]; exact hPc, va_K.moved hW.alike hKc, hDc.weaken (fun _ _ _ _ => trivial), by rw [hU]; exact ((hth.kept hS.2.1).narrow hFc).moved hW.alike⟩⟩ rfl rfl hl.1 rfl (lv_room (Nat.le_of_ble_eq_true rfl)) dL_law_593 ⟨(Nat.le_of_ble_eq_true rfl), (Nat.le_of_ble_eq_true rfl)⟩) hS (fun q _ h => hFc q h) hFc (fun r u t H1 locs ht hvm hw hB hz1 hk1 hS => ?_)
  subst hw
  obtain ⟨fs_7, h_m0, hP1, hK1, hD1⟩ := hB
  rw [ht] at hP1
  obtain ⟨hP, hD⟩ := va_join (wr := [(x, .inr (12, fs_1)), (chA, .inl (chAC, (4, .inr (.inr (.inr (.inr chAF)))))), (ch0, .inr (2, fs_2)), (ch1, .inr (2, fs_3)), (ch2, .inr (2, fs_4)), (ch3, .inr (2, fs_5)), (oA, .inl (oAC, (1, .inr (.inl f_6))))]) (w1 := [(m0, .inr (13, fs_7)), (mch, .inl (mchC, (4, .inl (fun _ => 0))))]) hP hD [6, 7] [0, 1, 2, 3, 4, 5, 8] rfl rfl (by decide) (by decide) hk1 hFc hP1 hD1
  have hP := hP.sub (ws' := [(x, .inr (12, fs_1)), (chA, .inl (chAC, (4, .inr (.inr (.inr (.inr chAF)))))), (ch0, .inr (2, fs_2)), (ch1, .inr (2, fs_3)), (ch2, .inr (2, fs_4)), (ch3, .inr (2, fs_5)), (m0, .inr (13, fs_7)), (mch, .inl (mchC, (4, .inl (fun _ => 0)))), (oA, .inl (oAC, (1, .inr (.inl f_6))))]) [0, 1, 2, 3, 4, 5, 7, 8, 6] rfl
  have hD := hD.sub (ws' := [(x, .inr (12, fs_1)), (chA, .inl (chAC, (4, .inr (.inr (.inr (.inr chAF)))))), (ch0, .inr (2, fs_2)), (ch1, .inr (2, fs_3)), (ch2, .inr (2, fs_4)), (ch3, .inr (2, fs_5)), (m0, .inr (13, fs_7)), (mch, .inl (mchC, (4, .inl (fun _ => 0)))), (oA, .inl (oAC, (1, .inr (.inl f_6))))]) [0, 1, 2, 3, 4, 5, 7, 8, 6] (by decide) rfl
  generalize H1 = H at hP hS ⊢
  have hP : va_P (dC, dI) CL [(x, .inr (12, fs_1)), (chA, .inl (chAC, (4, .inr (.inr (.inr (.inr chAF)))))), (ch0, .inr (2, fs_2)), (ch1, .inr (2, fs_3)), (ch2, .inr (2, fs_4)), (ch3, .inr (2, fs_5)), (m0, .inr (13, fs_7)), (mch, .inl (mchC, (4, .inl (fun _ => 0)))), (oA, .inl (oAC, (1, .inr (.inl f_6))))] H := hP
  have hD : va_D A [(x, .inr (12, fs_1)), (chA, .inl (chAC, (4, .inr (.inr (.inr (.inr chAF)))))), (ch0, .inr (2, fs_2)), (ch1, .inr (2, fs_3)), (ch2, .inr (2, fs_4)), (ch3, .inr (2, fs_5)), (m0, .inr (13, fs_7)), (mch, .inl (mchC, (4, .inl (fun _ => 0)))), (oA, .inl (oAC, (1, .inr (.inl f_6))))] := hD
  refine lv_istore (lv' := [(6, .int 0), (5, .int 0), (0, .ref b), (1, .ref x), (2, .ref m0), (3, .ref oA), (4, .int 0)]) hx hb dL_law_596 hl (by decide) rfl (fun ls hl => ?_)
  refine lv_aload_n hx hb dL_law_598 rfl (lv_at hl 4 rfl) ?_
  have hPc := hP.sub (ws' := [(m0, .inr (13, fs_7))]) [6] rfl
  have hDc := hD.sub (ws' := [(m0, .inr (13, fs_7))]) [6] (by decide) rfl
  have hKc := hK.sub (tys' := []) [] rfl
  have hFc := va_free (wc := [(m0, .inr (13, fs_7))]) hD hS hA [6] rfl
  refine va_calli (va_runV (As := []) (rest := []) ⟨hx, hb, hml, hown, hts⟩ (gx71_X13_thrown l hlt dC dI _ m0 md ml mch fs_7 h_m0) (cwV 0 hts (gi_V wd_3015 wd_3016 wd_3017 wd_340 wd_3018) rfl rfl rfl (by decide +kernel) ⟨(Nat.le_of_ble_eq_true rfl), (Nat.le_of_ble_eq_true rfl)⟩) ⟨fun a U g mk q => by obtain ⟨q0, q1, qP, qK, qD, qT⟩ := q; exact ⟨q0, q1, qP, va_K.moved (u := U) (U := U.calling g mk a) (Vm.Alike.refl U.vm) qK, qD, th.moved (u := U) (U := U.calling g mk a) (Vm.Alike.refl U.vm) qT⟩, va_recv hKc hPc (ci := 13) (q0 := 0) rfl rfl, fun U hU hW => ⟨rfl, by rw [hU], by rw [hU]; exact hPc, va_K.moved hW.alike hKc, hDc.weaken (fun _ _ _ _ => trivial), by rw [hU]; exact ((hth.kept hS.2.1).narrow hFc).moved hW.alike⟩⟩ rfl rfl hl.1 rfl (lv_room (Nat.le_of_ble_eq_true rfl)) dL_law_599 ⟨(Nat.le_of_ble_eq_true rfl), (Nat.le_of_ble_eq_true rfl)⟩) hS (fun q _ h => hFc q h) hFc (fun r u t H1 locs ht hvm hw hB hz1 hk1 hS => ?_)
  subst hw
  obtain ⟨fs_8, h_m0, hP1, hK1, hD1⟩ := hB
  rw [ht] at hP1
  obtain ⟨hP, hD⟩ := va_join (wr := [(x, .inr (12, fs_1)), (chA, .inl (chAC, (4, .inr (.inr (.inr (.inr chAF)))))), (ch0, .inr (2, fs_2)), (ch1, .inr (2, fs_3)), (ch2, .inr (2, fs_4)), (ch3, .inr (2, fs_5)), (mch, .inl (mchC, (4, .inl (fun _ => 0)))), (oA, .inl (oAC, (1, .inr (.inl f_6))))]) (w1 := [(m0, .inr (13, fs_8))]) hP hD [6] [0, 1, 2, 3, 4, 5, 7, 8] rfl rfl (by decide) (by decide) hk1 hFc hP1 hD1
  have hP := hP.sub (ws' := [(x, .inr (12, fs_1)), (chA, .inl (chAC, (4, .inr (.inr (.inr (.inr chAF)))))), (ch0, .inr (2, fs_2)), (ch1, .inr (2, fs_3)), (ch2, .inr (2, fs_4)), (ch3, .inr (2, fs_5)), (m0, .inr (13, fs_8)), (mch, .inl (mchC, (4, .inl (fun _ => 0)))), (oA, .inl (oAC, (1, .inr (.inl f_6))))]) [0, 1, 2, 3, 4, 5, 8, 6, 7] rfl
  have hD := hD.sub (ws' := [(x, .inr (12, fs_1)), (chA, .inl (chAC, (4, .inr (.inr (.inr (.inr chAF)))))), (ch0, .inr (2, fs_2)), (ch1, .inr (2, fs_3)), (ch2, .inr (2, fs_4)), (ch3, .inr (2, fs_5)), (m0, .inr (13, fs_8)), (mch, .inl (mchC, (4, .inl (fun _ => 0)))), (oA, .inl (oAC, (1, .inr (.inl f_6))))]) [0, 1, 2, 3, 4, 5, 8, 6, 7] (by decide) rfl
  generalize H1 = H at hP hS ⊢
  have hP : va_P (dC, dI) CL [(x, .inr (12, fs_1)), (chA, .inl (chAC, (4, .inr (.inr (.inr (.inr chAF)))))), (ch0, .inr (2, fs_2)), (ch1, .inr (2, fs_3)), (ch2, .inr (2, fs_4)), (ch3, .inr (2, fs_5)), (m0, .inr (13, fs_8)), (mch, .inl (mchC, (4, .inl (fun _ => 0)))), (oA, .inl (oAC, (1, .inr (.inl f_6))))] H := hP
  have hD : va_D A [(x, .inr (12, fs_1)), (chA, .inl (chAC, (4, .inr (.inr (.inr (.inr chAF)))))), (ch0, .inr (2, fs_2)), (ch1, .inr (2, fs_3)), (ch2, .inr (2, fs_4)), (ch3, .inr (2, fs_5)), (m0, .inr (13, fs_8)), (mch, .inl (mchC, (4, .inl (fun _ => 0)))), (oA, .inl (oAC, (1, .inr (.inl f_6))))] := hD
  refine lv_iload hx hb dL_law_602 (lv_at hl 1 rfl) ?_
  refine lv_icmp_eq (tgt := 609) hx hb dL_law_604 (by decide) (fun c9 => ?_) (fun c9 => ?_)
  rotate_left
  · first | exact absurd c9 (by decide +kernel) | exact absurd (by decide +kernel) c9
  refine lv_iload hx hb dL_law_609 (lv_at hl 1 rfl) ?_
  refine lv_if_ne (tgt := 633) hx hb dL_law_611 (by decide) (fun c9 => ?_) (fun c9 => ?_)
  · first | exact absurd c9 (by decide +kernel) | exact absurd (by decide +kernel) c9
  refine lv_aload_n hx hb dL_law_614 rfl (lv_at hl 5 rfl) ?_
  refine lv_iconst (v := 0) hx hb dL_law_615 (by decide +kernel) ?_
  refine va_lald hx hb hK hP 8 2 rfl rfl (vp_in_nI (n := 0) (N := 1) (by decide) (by decide)) dL_law_616 ?_
  refine lv_topl (fun v9 e9 => ?_)
  obtain rfl : v9 = 0 := e9.trans ((congrArg f_6 (by decide +kernel : (0 : Int32).toNatClampNeg = 0)).trans (h_oA.get 0 rfl))
  refine lv_iload hx hb dL_law_617 (lv_at hl 0 rfl) ?_
  refine lv_if_eq (tgt := 626) hx hb dL_law_619 (by decide) (fun c9 => ?_) (fun c9 => ?_)
  rotate_left
  · first | exact absurd c9 (by decide +kernel) | exact absurd (by decide +kernel) c9
  refine lv_lconst (v := 0) hx hb dL_law_626 (by decide) ?_
  refine hc_lcmpE hx hb dL_law_627 ?_
  refine lv_if_eq (tgt := 633) hx hb dL_law_628 (by decide) (fun c9 => ?_) (fun c9 => ?_)
  rotate_left
  · first | exact absurd c9 (by decide +kernel) | exact absurd (by decide +kernel) c9
  refine lv_goto (tgt := 4099) hx hb dL_law_633 (by decide) ?_
  refine W.widen (k := 470) (n := 2709300) (Nat.le_of_ble_eq_true rfl) (Nat.le_of_ble_eq_true rfl) ?_
  rw [eA] at hS
  exact law_tail (v5 := 0) (v6 := 0) (lv := []) C0 hS (lv_sub hl [2, 6] rfl)
set_option maxHeartbeats 4000000 in
set_option maxRecDepth 100000 in
theorem law_isThere_2k1 {p : Program} {l : Launch} {e : Env} {s : State} {m : MethodId} {below : List Frame} {meth : Method} {c : Code} {b : Nat} {xs : Nat → Int32} (C0 : lw_At p s m meth c b 7 xs) {dC : Nat → ClassId} {dI : Nat → Nat → Nat} (hlt : l.stackTraces = false) (hth : th (fun q : Nat => s.heap.size ≤ q) s s.heap) (q0 : (xs ((0 : Int32) + 1).toNatClampNeg) = 2) (q1 : (xs ((0 : Int32) + 2).toNatClampNeg) = 1) (x chA ch0 ch1 ch2 ch3 m0 mch oA deA liA md ml : Nat) (xg : List Value) (h_x : fx xg 17 [(7, .ref deA), (8, .ref liA), (9, .ref chA)]) (chAC : ClassId) (chAF : Nat → Option Nat) (ch0g : List Value) (h_ch0 : fx ch0g 20 [(0, .int 0)]) (ch1g : List Value) (h_ch1 : fx ch1g 20 [(0, .int 0)]) (ch2g : List Value) (h_ch2 : fx ch2g 20 [(0, .int 0)]) (ch3g : List Value) (h_ch3 : fx ch3g 20 [(0, .int 0)]) (m0g : List Value) (h_m0 : fx m0g 225 [(0, .int 0), (2, .int 0), (3, .int 0), (9, .int 0), (10, .int 0), (11, .int 0), (12, .int 0), (27, .int 0), (55, .ref md), (79, .int 0), (83, .int 0), (88, .ref ml), (95, .int 0), (138, .ref mch)]) (mchC : ClassId) (oAC : ClassId) (oAf : Nat → Int64) (h_oA : fa oAf []) (h_chA0 : chAF 0 = some ch0) (h_chA1 : chAF 1 = some ch1) (h_chA2 : chAF 2 = some ch2) (h_chA3 : chAF 3 = some ch3) (H : Heap) (locs : List Loc) (hK : va_K (dC, dI) CL [(chAC, .object "ChipFlow$Chip"), (mchC, .boolean), (oAC, .long)] s) (hP : va_P (dC, dI) CL [(x, .inr (12, xg)), (chA, .inl (chAC, (4, .inr (.inr (.inr (.inr chAF)))))), (ch0, .inr (2, ch0g)), (ch1, .inr (2, ch1g)), (ch2, .inr (2, ch2g)), (ch3, .inr (2, ch3g)), (m0, .inr (13, m0g)), (mch, .inl (mchC, (4, .inl (fun _ => 0)))), (oA, .inl (oAC, (1, .inr (.inl oAf))))] H) (hD : va_D (fun q : Nat => s.heap.size ≤ q) [(x, .inr (12, xg)), (chA, .inl (chAC, (4, .inr (.inr (.inr (.inr chAF)))))), (ch0, .inr (2, ch0g)), (ch1, .inr (2, ch1g)), (ch2, .inr (2, ch2g)), (ch3, .inr (2, ch3g)), (m0, .inr (13, m0g)), (mch, .inl (mchC, (4, .inl (fun _ => 0)))), (oA, .inl (oAC, (1, .inr (.inl oAf))))]) (hS : va_S (fun q : Nat => s.heap.size ≤ q) s.heap H locs) (ls : Array Slot) (hl : lv_has ls 7 [(0, .ref b), (1, .ref x), (2, .ref m0), (3, .ref oA), (4, .int 0)]) : W p l e room_1 s m #[Value.ref b] below meth c H locs 451 2709142 (lw_Z below #[Value.ref b] s) (F0 m 561 ls []) := by
  obtain ⟨hx, hb, hr, hml, hown, hts0, hX, hbl, hlocks, hgv⟩ := id C0
  have hts : ∀ w ∈ BG, w.before _ s = true := fun w h => hts0 w (List.mem_filter.mp h).1
  have hown : s.vm.findClass RL = some m.cls := hown
  obtain ⟨A, eA⟩ : ∃ z : Nat → Prop, z = (fun q : Nat => s.heap.size ≤ q) := ⟨_, rfl⟩
  rw [← eA] at hth hD hS
  have hA : ∀ q : Nat, s.heap.size ≤ q → A q := fun q h => by rw [eA]; exact h
  have hbA : ¬ A b := by rw [eA]; exact Nat.not_le.mpr hbl
  refine lv_aload_n hx hb dL_law_561 rfl (lv_at hl 1 rfl) ?_
  refine lv_aload_n hx hb dL_law_562 rfl (lv_at hl 0 rfl) ?_
  refine lv_iload hx hb dL_law_563 (lv_at hl 4 rfl) ?_
  refine lv_iconst (v := 1) hx hb dL_law_565 (by decide +kernel) ?_
  refine lv_iadd hx hb dL_law_566 ?_
  refine va_sld hx hb hX hbl hbA hS vi_1 dL_law_567 ?_
  refine lv_topi (fun v9 e9 => ?_)
  obtain rfl : v9 = 2 := e9.trans q0
  refine lv_aload_n hx hb dL_law_568 rfl (lv_at hl 0 rfl) ?_
  refine lv_iload hx hb dL_law_569 (lv_at hl 4 rfl) ?_
  refine lv_iconst (v := 2) hx hb dL_law_571 (by decide +kernel) ?_
  refine lv_iadd hx hb dL_law_572 ?_
  refine va_sld hx hb hX hbl hbA hS vi_2 dL_law_573 ?_
  refine lv_topi (fun v9 e9 => ?_)
  obtain rfl : v9 = 1 := e9.trans q1
  refine lv_aload_n hx hb dL_law_574 rfl (lv_at hl 3 rfl) ?_
  have hPc := hP.sub (ws' := [(x, .inr (12, xg)), (chA, .inl (chAC, (4, .inr (.inr (.inr (.inr chAF)))))), (ch0, .inr (2, ch0g)), (ch1, .inr (2, ch1g)), (ch2, .inr (2, ch2g)), (ch3, .inr (2, ch3g)), (oA, .inl (oAC, (1, .inr (.inl oAf))))]) [0, 1, 2, 3, 4, 5, 8] rfl
  have hDc := hD.sub (ws' := [(x, .inr (12, xg)), (chA, .inl (chAC, (4, .inr (.inr (.inr (.inr chAF)))))), (ch0, .inr (2, ch0g)), (ch1, .inr (2, ch1g)), (ch2, .inr (2, ch2g)), (ch3, .inr (2, ch3g)), (oA, .inl (oAC, (1, .inr (.inl oAf))))]) [0, 1, 2, 3, 4, 5, 8] (by decide) rfl
  have hKc := hK.sub (tys' := [(chAC, .object "ChipFlow$Chip"), (oAC, .long)]) [0, 2] rfl
  have hFc := va_free (wc := [(x, .inr (12, xg)), (chA, .inl (chAC, (4, .inr (.inr (.inr (.inr chAF)))))), (ch0, .inr (2, ch0g)), (ch1, .inr (2, ch1g)), (ch2, .inr (2, ch2g)), (ch3, .inr (2, ch3g)), (oA, .inl (oAC, (1, .inr (.inl oAf))))]) hD hS hA [0, 1, 2, 3, 4, 5, 8] rfl
  refine va_calli (vx_runSW (As := [.ref x, .int 2, .int 1, .ref oA]) (rest := []) ⟨hx, hb, hml, hown, hts⟩ (gx132_L_isThere l hlt dC dI _ x chA ch0 ch1 ch2 ch3 oA deA liA xg h_x chAC chAF ch0g h_ch0 ch1g h_ch1 ch2g h_ch2 ch3g h_ch3 oAC oAf h_oA h_chA0 h_chA1 h_chA2 h_chA3) (vx_cwSW 4 hts (gi_W wd_1839 wd_1840 wd_326 wd_1841) rfl rfl rfl (by decide +kernel) ⟨(Nat.le_of_ble_eq_true rfl), (Nat.le_of_ble_eq_true rfl)⟩) ⟨fun a U g mk q => by obtain ⟨q0, q1, qP, qK, qD, qT⟩ := q; exact ⟨q0, q1, qP, va_K.moved (u := U) (U := U.calling g mk a) (Vm.Alike.refl U.vm) qK, qD, th.moved (u := U) (U := U.calling g mk a) (Vm.Alike.refl U.vm) qT⟩, fun U hU hW => ⟨rfl, by rw [hU], by rw [hU]; exact hPc, va_K.moved hW.alike hKc, hDc.weaken (fun _ _ _ _ => trivial), by rw [hU]; exact ((hth.kept hS.2.1).narrow hFc).moved hW.alike⟩⟩ rfl rfl hl.1 rfl (lv_room (Nat.le_of_ble_eq_true rfl)) dL_law_575 ⟨(Nat.le_of_ble_eq_true rfl), (Nat.le_of_ble_eq_true rfl)⟩) hS (fun q _ h => hFc q h) hFc (fun r u t H1 locs ht hvm hw hB hz1 hk1 hS => ?_)
  subst hw
  obtain ⟨fs_1, fs_2, fs_3, fs_4, fs_5, f_6, h_x, h_ch0, h_ch1, h_ch2, h_ch3, h_oA, hP1, hK1, hD1⟩ := hB
  rw [ht] at hP1
  obtain ⟨hP, hD⟩ := va_join (wr := [(m0, .inr (13, m0g)), (mch, .inl (mchC, (4, .inl (fun _ => 0))))]) (w1 := [(x, .inr (12, fs_1)), (chA, .inl (chAC, (4, .inr (.inr (.inr (.inr chAF)))))), (ch0, .inr (2, fs_2)), (ch1, .inr (2, fs_3)), (ch2, .inr (2, fs_4)), (ch3, .inr (2, fs_5)), (oA, .inl (oAC, (1, .inr (.inl f_6))))]) hP hD [0, 1, 2, 3, 4, 5, 8] [6, 7] rfl rfl (by decide) (by decide) hk1 hFc hP1 hD1
  have hP := hP.sub (ws' := [(x, .inr (12, fs_1)), (chA, .inl (chAC, (4, .inr (.inr (.inr (.inr chAF)))))), (ch0, .inr (2, fs_2)), (ch1, .inr (2, fs_3)), (ch2, .inr (2, fs_4)), (ch3, .inr (2, fs_5)), (m0, .inr (13, m0g)), (mch, .inl (mchC, (4, .inl (fun _ => 0)))), (oA, .inl (oAC, (1, .inr (.inl f_6))))]) [2, 3, 4, 5, 6, 7, 0, 1, 8] rfl
  have hD := hD.sub (ws' := [(x, .inr (12, fs_1)), (chA, .inl (chAC, (4, .inr (.inr (.inr (.inr chAF)))))), (ch0, .inr (2, fs_2)), (ch1, .inr (2, fs_3)), (ch2, .inr (2, fs_4)), (ch3, .inr (2, fs_5)), (m0, .inr (13, m0g)), (mch, .inl (mchC, (4, .inl (fun _ => 0)))), (oA, .inl (oAC, (1, .inr (.inl f_6))))]) [2, 3, 4, 5, 6, 7, 0, 1, 8] (by decide) rfl
  generalize H1 = H at hP hS ⊢
  have hP : va_P (dC, dI) CL [(x, .inr (12, fs_1)), (chA, .inl (chAC, (4, .inr (.inr (.inr (.inr chAF)))))), (ch0, .inr (2, fs_2)), (ch1, .inr (2, fs_3)), (ch2, .inr (2, fs_4)), (ch3, .inr (2, fs_5)), (m0, .inr (13, m0g)), (mch, .inl (mchC, (4, .inl (fun _ => 0)))), (oA, .inl (oAC, (1, .inr (.inl f_6))))] H := hP
  have hD : va_D A [(x, .inr (12, fs_1)), (chA, .inl (chAC, (4, .inr (.inr (.inr (.inr chAF)))))), (ch0, .inr (2, fs_2)), (ch1, .inr (2, fs_3)), (ch2, .inr (2, fs_4)), (ch3, .inr (2, fs_5)), (m0, .inr (13, m0g)), (mch, .inl (mchC, (4, .inl (fun _ => 0)))), (oA, .inl (oAC, (1, .inr (.inl f_6))))] := hD
  refine W.widen (k := 452) (n := 2709148) (Nat.le_of_ble_eq_true rfl) (Nat.le_of_ble_eq_true rfl) ?_
  refine lv_istore (lv' := [(5, .int 0), (0, .ref b), (1, .ref x), (2, .ref m0), (3, .ref oA), (4, .int 0)]) hx hb dL_law_578 hl (by decide) rfl (fun ls hl => ?_)
  refine lv_aload_n hx hb dL_law_580 rfl (lv_at hl 3 rfl) ?_
  refine lv_aload_n hx hb dL_law_581 rfl (lv_at hl 1 rfl) ?_
  refine lv_iload hx hb dL_law_582 (lv_at hl 5 rfl) ?_
  refine lv_iconst (v := 1) hx hb dL_law_584 (by decide +kernel) ?_
  refine lv_iadd hx hb dL_law_585 ?_
  refine va_sld hx hb hX hbl hbA hS vi_1 dL_law_586 ?_
  refine lv_topi (fun v9 e9 => ?_)
  obtain rfl : v9 = 2 := e9.trans q0
  refine lv_aload_n hx hb dL_law_587 rfl (lv_at hl 1 rfl) ?_
  refine lv_iload hx hb dL_law_588 (lv_at hl 5 rfl) ?_
  refine lv_iconst (v := 2) hx hb dL_law_590 (by decide +kernel) ?_
  refine lv_iadd hx hb dL_law_591 ?_
  refine va_sld hx hb hX hbl hbA hS vi_2 dL_law_592 ?_
  refine lv_topi (fun v9 e9 => ?_)
  obtain rfl : v9 = 1 := e9.trans q1
  have hPc := hP.sub (ws' := [(m0, .inr (13, m0g)), (mch, .inl (mchC, (4, .inl (fun _ => 0))))]) [6, 7] rfl
  have hDc := hD.sub (ws' := [(m0, .inr (13, m0g)), (mch, .inl (mchC, (4, .inl (fun _ => 0))))]) [6, 7] (by decide) rfl
  have hKc := hK.sub (tys' := [(mchC, .boolean)]) [1] rfl
  have hFc := va_free (wc := [(m0, .inr (13, m0g)), (mch, .inl (mchC, (4, .inl (fun _ => 0))))]) hD hS hA [6, 7] rfl
  refine va_calli (va_runV (As := [.int 2, .int 1]) (rest := []) ⟨hx, hb, hml, hown, hts⟩ (gx134_X13_isThere l hlt dC dI _ m0 mch md ml m0g h_m0 mchC) (cwV 2 hts (gi_V wd_4088 wd_4089 wd_4090 wd_340 wd_4091) rfl rfl rfl (by decide +kernel) ⟨(Nat.le_of_ble_eq_true rfl), (Nat.le_of_ble_eq_true rfl)⟩) ⟨fun a U g mk q => by obtain ⟨q0, q1, qP, qK, qD, qT⟩ := q; exact ⟨q0, q1, qP, va_K.moved (u := U) (U := U.calling g mk a) (Vm.Alike.refl U.vm) qK, qD, th.moved (u := U) (U := U.calling g mk a) (Vm.Alike.refl U.vm) qT⟩, va_recv hKc hPc (ci := 13) (q0 := 0) rfl rfl, fun U hU hW => ⟨rfl, by rw [hU], by rw [hU]; exact hPc, va_K.moved hW.alike hKc, hDc.weaken (fun _ _ _ _ => trivial), by rw [hU]; exact ((hth.kept hS.2.1).narrow hFc).moved hW.alike⟩⟩ rfl rfl hl.1 rfl (lv_room (Nat.le_of_ble_eq_true rfl)) dL_law_593 ⟨(Nat.le_of_ble_eq_true rfl), (Nat.le_of_ble_eq_true rfl)⟩) hS (fun q _ h => hFc q h) hFc (fun r u t H1 locs ht hvm hw hB hz1 hk1 hS => ?_)
  subst hw
  obtain ⟨fs_7, h_m0, hP1, hK1, hD1⟩ := hB
  rw [ht] at hP1
  obtain ⟨hP, hD⟩ := va_join (wr := [(x, .inr (12, fs_1)), (chA, .inl (chAC, (4, .inr (.inr (.inr (.inr chAF)))))), (ch0, .inr (2, fs_2)), (ch1, .inr (2, fs_3)), (ch2, .inr (2, fs_4)), (ch3, .inr (2, fs_5)), (oA, .inl (oAC, (1, .inr (.inl f_6))))]) (w1 := [(m0, .inr (13, fs_7)), (mch, .inl (mchC, (4, .inl (fun _ => 0))))]) hP hD [6, 7] [0, 1, 2, 3, 4, 5, 8] rfl rfl (by decide) (by decide) hk1 hFc hP1 hD1
  have hP := hP.sub (ws' := [(x, .inr (12, fs_1)), (chA, .inl (chAC, (4, .inr (.inr (.inr (.inr chAF)))))), (ch0, .inr (2, fs_2)), (ch1, .inr (2, fs_3)), (ch2, .inr (2, fs_4)), (ch3, .inr (2, fs_5)), (m0, .inr (13, fs_7)), (mch, .inl (mchC, (4, .inl (fun _ => 0)))), (oA, .inl (oAC, (1, .inr (.inl f_6))))]) [0, 1, 2, 3, 4, 5, 7, 8, 6] rfl
  have hD := hD.sub (ws' := [(x, .inr (12, fs_1)), (chA, .inl (chAC, (4, .inr (.inr (.inr (.inr chAF)))))), (ch0, .inr (2, fs_2)), (ch1, .inr (2, fs_3)), (ch2, .inr (2, fs_4)), (ch3, .inr (2, fs_5)), (m0, .inr (13, fs_7)), (mch, .inl (mchC, (4, .inl (fun _ => 0)))), (oA, .inl (oAC, (1, .inr (.inl f_6))))]) [0, 1, 2, 3, 4, 5, 7, 8, 6] (by decide) rfl
  generalize H1 = H at hP hS ⊢
  have hP : va_P (dC, dI) CL [(x, .inr (12, fs_1)), (chA, .inl (chAC, (4, .inr (.inr (.inr (.inr chAF)))))), (ch0, .inr (2, fs_2)), (ch1, .inr (2, fs_3)), (ch2, .inr (2, fs_4)), (ch3, .inr (2, fs_5)), (m0, .inr (13, fs_7)), (mch, .inl (mchC, (4, .inl (fun _ => 0)))), (oA, .inl (oAC, (1, .inr (.inl f_6))))] H := hP
  have hD : va_D A [(x, .inr (12, fs_1)), (chA, .inl (chAC, (4, .inr (.inr (.inr (.inr chAF)))))), (ch0, .inr (2, fs_2)), (ch1, .inr (2, fs_3)), (ch2, .inr (2, fs_4)), (ch3, .inr (2, fs_5)), (m0, .inr (13, fs_7)), (mch, .inl (mchC, (4, .inl (fun _ => 0)))), (oA, .inl (oAC, (1, .inr (.inl f_6))))] := hD
  refine lv_istore (lv' := [(6, .int 0), (5, .int 0), (0, .ref b), (1, .ref x), (2, .ref m0), (3, .ref oA), (4, .int 0)]) hx hb dL_law_596 hl (by decide) rfl (fun ls hl => ?_)
  refine lv_aload_n hx hb dL_law_598 rfl (lv_at hl 4 rfl) ?_
  have hPc := hP.sub (ws' := [(m0, .inr (13, fs_7))]) [6] rfl
  have hDc := hD.sub (ws' := [(m0, .inr (13, fs_7))]) [6] (by decide) rfl
  have hKc := hK.sub (tys' := []) [] rfl
  have hFc := va_free (wc := [(m0, .inr (13, fs_7))]) hD hS hA [6] rfl
  refine va_calli (va_runV (As := []) (rest := []) ⟨hx, hb, hml, hown, hts⟩ (gx71_X13_thrown l hlt dC dI _ m0 md ml mch fs_7 h_m0) (cwV 0 hts (gi_V wd_3015 wd_3016 wd_3017 wd_340 wd_3018) rfl rfl rfl (by decide +kernel) ⟨(Nat.le_of_ble_eq_true rfl), (Nat.le_of_ble_eq_true rfl)⟩) ⟨fun a U g mk q => by obtain ⟨q0, q1, qP, qK, qD, qT⟩ := q; exact ⟨q0, q1, qP, va_K.moved (u := U) (U := U.calling g mk a) (Vm.Alike.refl U.vm) qK, qD, th.moved (u := U) (U := U.calling g mk a) (Vm.Alike.refl U.vm) qT⟩, va_recv hKc hPc (ci := 13) (q0 := 0) rfl rfl, fun U hU hW => ⟨rfl, by rw [hU], by rw [hU]; exact hPc, va_K.moved hW.alike hKc, hDc.weaken (fun _ _ _ _ => trivial), by rw [hU]; exact ((hth.kept hS.2.1).narrow hFc).moved hW.alike⟩⟩ rfl rfl hl.1 rfl (lv_room (Nat.le_of_ble_eq_true rfl)) dL_law_599 ⟨(Nat.le_of_ble_eq_true rfl), (Nat.le_of_ble_eq_true rfl)⟩) hS (fun q _ h => hFc q h) hFc (fun r u t H1 locs ht hvm hw hB hz1 hk1 hS => ?_)
  subst hw
  obtain ⟨fs_8, h_m0, hP1, hK1, hD1⟩ := hB
  rw [ht] at hP1
  obtain ⟨hP, hD⟩ := va_join (wr := [(x, .inr (12, fs_1)), (chA, .inl (chAC, (4, .inr (.inr (.inr (.inr chAF)))))), (ch0, .inr (2, fs_2)), (ch1, .inr (2, fs_3)), (ch2, .inr (2, fs_4)), (ch3, .inr (2, fs_5)), (mch, .inl (mchC, (4, .inl (fun _ => 0)))), (oA, .inl (oAC, (1, .inr (.inl f_6))))]) (w1 := [(m0, .inr (13, fs_8))]) hP hD [6] [0, 1, 2, 3, 4, 5, 7, 8] rfl rfl (by decide) (by decide) hk1 hFc hP1 hD1
  have hP := hP.sub (ws' := [(x, .inr (12, fs_1)), (chA, .inl (chAC, (4, .inr (.inr (.inr (.inr chAF)))))), (ch0, .inr (2, fs_2)), (ch1, .inr (2, fs_3)), (ch2, .inr (2, fs_4)), (ch3, .inr (2, fs_5)), (m0, .inr (13, fs_8)), (mch, .inl (mchC, (4, .inl (fun _ => 0)))), (oA, .inl (oAC, (1, .inr (.inl f_6))))]) [0, 1, 2, 3, 4, 5, 8, 6, 7] rfl
  have hD := hD.sub (ws' := [(x, .inr (12, fs_1)), (chA, .inl (chAC, (4, .inr (.inr (.inr (.inr chAF)))))), (ch0, .inr (2, fs_2)), (ch1, .inr (2, fs_3)), (ch2, .inr (2, fs_4)), (ch3, .inr (2, fs_5)), (m0, .inr (13, fs_8)), (mch, .inl (mchC, (4, .inl (fun _ => 0)))), (oA, .inl (oAC, (1, .inr (.inl f_6))))]) [0, 1, 2, 3, 4, 5, 8, 6, 7] (by decide) rfl
  generalize H1 = H at hP hS ⊢
  have hP : va_P (dC, dI) CL [(x, .inr (12, fs_1)), (chA, .inl (chAC, (4, .inr (.inr (.inr (.inr chAF)))))), (ch0, .inr (2, fs_2)), (ch1, .inr (2, fs_3)), (ch2, .inr (2, fs_4)), (ch3, .inr (2, fs_5)), (m0, .inr (13, fs_8)), (mch, .inl (mchC, (4, .inl (fun _ => 0)))), (oA, .inl (oAC, (1, .inr (.inl f_6))))] H := hP
  have hD : va_D A [(x, .inr (12, fs_1)), (chA, .inl (chAC, (4, .inr (.inr (.inr (.inr chAF)))))), (ch0, .inr (2, fs_2)), (ch1, .inr (2, fs_3)), (ch2, .inr (2, fs_4)), (ch3, .inr (2, fs_5)), (m0, .inr (13, fs_8)), (mch, .inl (mchC, (4, .inl (fun _ => 0)))), (oA, .inl (oAC, (1, .inr (.inl f_6))))] := hD
  refine lv_iload hx hb dL_law_602 (lv_at hl 1 rfl) ?_
  refine lv_icmp_eq (tgt := 609) hx hb dL_law_604 (by decide) (fun c9 => ?_) (fun c9 => ?_)
  rotate_left
  · first | exact absurd c9 (by decide +kernel) | exact absurd (by decide +kernel) c9
  refine lv_iload hx hb dL_law_609 (lv_at hl 1 rfl) ?_
  refine lv_if_ne (tgt := 633) hx hb dL_law_611 (by decide) (fun c9 => ?_) (fun c9 => ?_)
  · first | exact absurd c9 (by decide +kernel) | exact absurd (by decide +kernel) c9
  refine lv_aload_n hx hb dL_law_614 rfl (lv_at hl 5 rfl) ?_
  refine lv_iconst (v := 0) hx hb dL_law_615 (by decide +kernel) ?_
  refine va_lald hx hb hK hP 8 2 rfl rfl (vp_in_nI (n := 0) (N := 1) (by decide) (by decide)) dL_law_616 ?_
  refine lv_topl (fun v9 e9 => ?_)
  obtain rfl : v9 = 0 := e9.trans ((congrArg f_6 (by decide +kernel : (0 : Int32).toNatClampNeg = 0)).trans (h_oA.get 0 rfl))
  refine lv_iload hx hb dL_law_617 (lv_at hl 0 rfl) ?_
  refine lv_if_eq (tgt := 626) hx hb dL_law_619 (by decide) (fun c9 => ?_) (fun c9 => ?_)
  rotate_left
  · first | exact absurd c9 (by decide +kernel) | exact absurd (by decide +kernel) c9
  refine lv_lconst (v := 0) hx hb dL_law_626 (by decide) ?_
  refine hc_lcmpE hx hb dL_law_627 ?_
  refine lv_if_eq (tgt := 633) hx hb dL_law_628 (by decide) (fun c9 => ?_) (fun c9 => ?_)
  rotate_left
  · first | exact absurd c9 (by decide +kernel) | exact absurd (by decide +kernel) c9
  refine lv_goto (tgt := 4099) hx hb dL_law_633 (by decide) ?_
  refine W.widen (k := 470) (n := 2709300) (Nat.le_of_ble_eq_true rfl) (Nat.le_of_ble_eq_true rfl) ?_
  rw [eA] at hS
  exact law_tail (v5 := 0) (v6 := 0) (lv := []) C0 hS (lv_sub hl [2, 6] rfl)
set_option maxHeartbeats 4000000 in
set_option maxRecDepth 100000 in
theorem law_isThere_2k2 {p : Program} {l : Launch} {e : Env} {s : State} {m : MethodId} {below : List Frame} {meth : Method} {c : Code} {b : Nat} {xs : Nat → Int32} (C0 : lw_At p s m meth c b 7 xs) {dC : Nat → ClassId} {dI : Nat → Nat → Nat} (hlt : l.stackTraces = false) (hth : th (fun q : Nat => s.heap.size ≤ q) s s.heap) (q0 : (xs ((0 : Int32) + 1).toNatClampNeg) = 2) (q1 : (xs ((0 : Int32) + 2).toNatClampNeg) = 2) (x chA ch0 ch1 ch2 ch3 m0 mch oA deA liA md ml : Nat) (xg : List Value) (h_x : fx xg 17 [(7, .ref deA), (8, .ref liA), (9, .ref chA)]) (chAC : ClassId) (chAF : Nat → Option Nat) (ch0g : List Value) (h_ch0 : fx ch0g 20 [(0, .int 0)]) (ch1g : List Value) (h_ch1 : fx ch1g 20 [(0, .int 0)]) (ch2g : List Value) (h_ch2 : fx ch2g 20 [(0, .int 0)]) (ch3g : List Value) (h_ch3 : fx ch3g 20 [(0, .int 0)]) (m0g : List Value) (h_m0 : fx m0g 225 [(0, .int 0), (2, .int 0), (3, .int 0), (9, .int 0), (10, .int 0), (11, .int 0), (12, .int 0), (27, .int 0), (55, .ref md), (79, .int 0), (83, .int 0), (88, .ref ml), (95, .int 0), (138, .ref mch)]) (mchC : ClassId) (oAC : ClassId) (oAf : Nat → Int64) (h_oA : fa oAf []) (h_chA0 : chAF 0 = some ch0) (h_chA1 : chAF 1 = some ch1) (h_chA2 : chAF 2 = some ch2) (h_chA3 : chAF 3 = some ch3) (H : Heap) (locs : List Loc) (hK : va_K (dC, dI) CL [(chAC, .object "ChipFlow$Chip"), (mchC, .boolean), (oAC, .long)] s) (hP : va_P (dC, dI) CL [(x, .inr (12, xg)), (chA, .inl (chAC, (4, .inr (.inr (.inr (.inr chAF)))))), (ch0, .inr (2, ch0g)), (ch1, .inr (2, ch1g)), (ch2, .inr (2, ch2g)), (ch3, .inr (2, ch3g)), (m0, .inr (13, m0g)), (mch, .inl (mchC, (4, .inl (fun _ => 0)))), (oA, .inl (oAC, (1, .inr (.inl oAf))))] H) (hD : va_D (fun q : Nat => s.heap.size ≤ q) [(x, .inr (12, xg)), (chA, .inl (chAC, (4, .inr (.inr (.inr (.inr chAF)))))), (ch0, .inr (2, ch0g)), (ch1, .inr (2, ch1g)), (ch2, .inr (2, ch2g)), (ch3, .inr (2, ch3g)), (m0, .inr (13, m0g)), (mch, .inl (mchC, (4, .inl (fun _ => 0)))), (oA, .inl (oAC, (1, .inr (.inl oAf))))]) (hS : va_S (fun q : Nat => s.heap.size ≤ q) s.heap H locs) (ls : Array Slot) (hl : lv_has ls 7 [(0, .ref b), (1, .ref x), (2, .ref m0), (3, .ref oA), (4, .int 0)]) : W p l e room_1 s m #[Value.ref b] below meth c H locs 451 2709142 (lw_Z below #[Value.ref b] s) (F0 m 561 ls []) := by
  obtain ⟨hx, hb, hr, hml, hown, hts0, hX, hbl, hlocks, hgv⟩ := id C0
  have hts : ∀ w ∈ BG, w.before _ s = true := fun w h => hts0 w (List.mem_filter.mp h).1
  have hown : s.vm.findClass RL = some m.cls := hown
  obtain ⟨A, eA⟩ : ∃ z : Nat → Prop, z = (fun q : Nat => s.heap.size ≤ q) := ⟨_, rfl⟩
  rw [← eA] at hth hD hS
  have hA : ∀ q : Nat, s.heap.size ≤ q → A q := fun q h => by rw [eA]; exact h
  have hbA : ¬ A b := by rw [eA]; exact Nat.not_le.mpr hbl
  refine lv_aload_n hx hb dL_law_561 rfl (lv_at hl 1 rfl) ?_
  refine lv_aload_n hx hb dL_law_562 rfl (lv_at hl 0 rfl) ?_
  refine lv_iload hx hb dL_law_563 (lv_at hl 4 rfl) ?_
  refine lv_iconst (v := 1) hx hb dL_law_565 (by decide +kernel) ?_
  refine lv_iadd hx hb dL_law_566 ?_
  refine va_sld hx hb hX hbl hbA hS vi_1 dL_law_567 ?_
  refine lv_topi (fun v9 e9 => ?_)
  obtain rfl : v9 = 2 := e9.trans q0
  refine lv_aload_n hx hb dL_law_568 rfl (lv_at hl 0 rfl) ?_
  refine lv_iload hx hb dL_law_569 (lv_at hl 4 rfl) ?_
  refine lv_iconst (v := 2) hx hb dL_law_571 (by decide +kernel) ?_
  refine lv_iadd hx hb dL_law_572 ?_
  refine va_sld hx hb hX hbl hbA hS vi_2 dL_law_573 ?_
  refine lv_topi (fun v9 e9 => ?_)
  obtain rfl : v9 = 2 := e9.trans q1
  refine lv_aload_n hx hb dL_law_574 rfl (lv_at hl 3 rfl) ?_
  have hPc := hP.sub (ws' := [(x, .inr (12, xg)), (chA, .inl (chAC, (4, .inr (.inr (.inr (.inr chAF)))))), (ch0, .inr (2, ch0g)), (ch1, .inr (2, ch1g)), (ch2, .inr (2, ch2g)), (ch3, .inr (2, ch3g)), (oA, .inl (oAC, (1, .inr (.inl oAf))))]) [0, 1, 2, 3, 4, 5, 8] rfl
  have hDc := hD.sub (ws' := [(x, .inr (12, xg)), (chA, .inl (chAC, (4, .inr (.inr (.inr (.inr chAF)))))), (ch0, .inr (2, ch0g)), (ch1, .inr (2, ch1g)), (ch2, .inr (2, ch2g)), (ch3, .inr (2, ch3g)), (oA, .inl (oAC, (1, .inr (.inl oAf))))]) [0, 1, 2, 3, 4, 5, 8] (by decide) rfl
  have hKc := hK.sub (tys' := [(chAC, .object "ChipFlow$Chip"), (oAC, .long)]) [0, 2] rfl
  have hFc := va_free (wc := [(x, .inr (12, xg)), (chA, .inl (chAC, (4, .inr (.inr (.inr (.inr chAF)))))), (ch0, .inr (2, ch0g)), (ch1, .inr (2, ch1g)), (ch2, .inr (2, ch2g)), (ch3, .inr (2, ch3g)), (oA, .inl (oAC, (1, .inr (.inl oAf))))]) hD hS hA [0, 1, 2, 3, 4, 5, 8] rfl
  refine va_calli (vx_runSW (As := [.ref x, .int 2, .int 2, .ref oA]) (rest := []) ⟨hx, hb, hml, hown, hts⟩ (gx136_L_isThere l hlt dC dI _ x chA ch0 ch1 ch2 ch3 oA deA liA xg h_x chAC chAF ch0g h_ch0 ch1g h_ch1 ch2g h_ch2 ch3g h_ch3 oAC oAf h_oA h_chA0 h_chA1 h_chA2 h_chA3) (vx_cwSW 4 hts (gi_W wd_1839 wd_1840 wd_326 wd_1841) rfl rfl rfl (by decide +kernel) ⟨(Nat.le_of_ble_eq_true rfl), (Nat.le_of_ble_eq_true rfl)⟩) ⟨fun a U g mk q => by obtain ⟨q0, q1, qP, qK, qD, qT⟩ := q; exact ⟨q0, q1, qP, va_K.moved (u := U) (U := U.calling g mk a) (Vm.Alike.refl U.vm) qK, qD, th.moved (u := U) (U := U.calling g mk a) (Vm.Alike.refl U.vm) qT⟩, fun U hU hW => ⟨rfl, by rw [hU], by rw [hU]; exact hPc, va_K.moved hW.alike hKc, hDc.weaken (fun _ _ _ _ => trivial), by rw [hU]; exact ((hth.kept hS.2.1).narrow hFc).moved hW.alike⟩⟩ rfl rfl hl.1 rfl (lv_room (Nat.le_of_ble_eq_true rfl)) dL_law_575 ⟨(Nat.le_of_ble_eq_true rfl), (Nat.le_of_ble_eq_true rfl)⟩) hS (fun q _ h => hFc q h) hFc (fun r u t H1 locs ht hvm hw hB hz1 hk1 hS => ?_)
  subst hw
  obtain ⟨fs_1, fs_2, fs_3, fs_4, fs_5, f_6, h_x, h_ch0, h_ch1, h_ch2, h_ch3, h_oA, hP1, hK1, hD1⟩ := hB
  rw [ht] at hP1
  obtain ⟨hP, hD⟩ := va_join (wr := [(m0, .inr (13, m0g)), (mch, .inl (mchC, (4, .inl (fun _ => 0))))]) (w1 := [(x, .inr (12, fs_1)), (chA, .inl (chAC, (4, .inr (.inr (.inr (.inr chAF)))))), (ch0, .inr (2, fs_2)), (ch1, .inr (2, fs_3)), (ch2, .inr (2, fs_4)), (ch3, .inr (2, fs_5)), (oA, .inl (oAC, (1, .inr (.inl f_6))))]) hP hD [0, 1, 2, 3, 4, 5, 8] [6, 7] rfl rfl (by decide) (by decide) hk1 hFc hP1 hD1
  have hP := hP.sub (ws' := [(x, .inr (12, fs_1)), (chA, .inl (chAC, (4, .inr (.inr (.inr (.inr chAF)))))), (ch0, .inr (2, fs_2)), (ch1, .inr (2, fs_3)), (ch2, .inr (2, fs_4)), (ch3, .inr (2, fs_5)), (m0, .inr (13, m0g)), (mch, .inl (mchC, (4, .inl (fun _ => 0)))), (oA, .inl (oAC, (1, .inr (.inl f_6))))]) [2, 3, 4, 5, 6, 7, 0, 1, 8] rfl
  have hD := hD.sub (ws' := [(x, .inr (12, fs_1)), (chA, .inl (chAC, (4, .inr (.inr (.inr (.inr chAF)))))), (ch0, .inr (2, fs_2)), (ch1, .inr (2, fs_3)), (ch2, .inr (2, fs_4)), (ch3, .inr (2, fs_5)), (m0, .inr (13, m0g)), (mch, .inl (mchC, (4, .inl (fun _ => 0)))), (oA, .inl (oAC, (1, .inr (.inl f_6))))]) [2, 3, 4, 5, 6, 7, 0, 1, 8] (by decide) rfl
  generalize H1 = H at hP hS ⊢
  have hP : va_P (dC, dI) CL [(x, .inr (12, fs_1)), (chA, .inl (chAC, (4, .inr (.inr (.inr (.inr chAF)))))), (ch0, .inr (2, fs_2)), (ch1, .inr (2, fs_3)), (ch2, .inr (2, fs_4)), (ch3, .inr (2, fs_5)), (m0, .inr (13, m0g)), (mch, .inl (mchC, (4, .inl (fun _ => 0)))), (oA, .inl (oAC, (1, .inr (.inl f_6))))] H := hP
  have hD : va_D A [(x, .inr (12, fs_1)), (chA, .inl (chAC, (4, .inr (.inr (.inr (.inr chAF)))))), (ch0, .inr (2, fs_2)), (ch1, .inr (2, fs_3)), (ch2, .inr (2, fs_4)), (ch3, .inr (2, fs_5)), (m0, .inr (13, m0g)), (mch, .inl (mchC, (4, .inl (fun _ => 0)))), (oA, .inl (oAC, (1, .inr (.inl f_6))))] := hD
  refine W.widen (k := 452) (n := 2709148) (Nat.le_of_ble_eq_true rfl) (Nat.le_of_ble_eq_true rfl) ?_
  refine lv_istore (lv' := [(5, .int 0), (0, .ref b), (1, .ref x), (2, .ref m0), (3, .ref oA), (4, .int 0)]) hx hb dL_law_578 hl (by decide) rfl (fun ls hl => ?_)
  refine lv_aload_n hx hb dL_law_580 rfl (lv_at hl 3 rfl) ?_
  refine lv_aload_n hx hb dL_law_581 rfl (lv_at hl 1 rfl) ?_
  refine lv_iload hx hb dL_law_582 (lv_at hl 5 rfl) ?_
  refine lv_iconst (v := 1) hx hb dL_law_584 (by decide +kernel) ?_
  refine lv_iadd hx hb dL_law_585 ?_
  refine va_sld hx hb hX hbl hbA hS vi_1 dL_law_586 ?_
  refine lv_topi (fun v9 e9 => ?_)
  obtain rfl : v9 = 2 := e9.trans q0
  refine lv_aload_n hx hb dL_law_587 rfl (lv_at hl 1 rfl) ?_
  refine lv_iload hx hb dL_law_588 (lv_at hl 5 rfl) ?_
  refine lv_iconst (v := 2) hx hb dL_law_590 (by decide +kernel) ?_
  refine lv_iadd hx hb dL_law_591 ?_
  refine va_sld hx hb hX hbl hbA hS vi_2 dL_law_592 ?_
  refine lv_topi (fun v9 e9 => ?_)
  obtain rfl : v9 = 2 := e9.trans q1
  have hPc := hP.sub (ws' := [(m0, .inr (13, m0g)), (mch, .inl (mchC, (4, .inl (fun _ => 0))))]) [6, 7] rfl
  have hDc := hD.sub (ws' := [(m0, .inr (13, m0g)), (mch, .inl (mchC, (4, .inl (fun _ => 0))))]) [6, 7] (by decide) rfl
  have hKc := hK.sub (tys' := [(mchC, .boolean)]) [1] rfl
  have hFc := va_free (wc := [(m0, .inr (13, m0g)), (mch, .inl (mchC, (4, .inl (fun _ => 0))))]) hD hS hA [6, 7] rfl
  refine va_calli (va_runV (As := [.int 2, .int 2]) (rest := []) ⟨hx, hb, hml, hown, hts⟩ (gx138_X13_isThere l hlt dC dI _ m0 mch md ml m0g h_m0 mchC) (cwV 2 hts (gi_V wd_4088 wd_4089 wd_4090 wd_340 wd_4091) rfl rfl rfl (by decide +kernel) ⟨(Nat.le_of_ble_eq_true rfl), (Nat.le_of_ble_eq_true rfl)⟩) ⟨fun a U g mk q => by obtain ⟨q0, q1, qP, qK, qD, qT⟩ := q; exact ⟨q0, q1, qP, va_K.moved (u := U) (U := U.calling g mk a) (Vm.Alike.refl U.vm) qK, qD, th.moved (u := U) (U := U.calling g mk a) (Vm.Alike.refl U.vm) qT⟩, va_recv hKc hPc (ci := 13) (q0 := 0) rfl rfl, fun U hU hW => ⟨rfl, by rw [hU], by rw [hU]; exact hPc, va_K.moved hW.alike hKc, hDc.weaken (fun _ _ _ _ => trivial), by rw [hU]; exact ((hth.kept hS.2.1).narrow hFc).moved hW.alike⟩⟩ rfl rfl hl.1 rfl (lv_room (Nat.le_of_ble_eq_true rfl)) dL_law_593 ⟨(Nat.le_of_ble_eq_true rfl), (Nat.le_of_ble_eq_true rfl)⟩) hS (fun q _ h => hFc q h) hFc (fun r u t H1 locs ht hvm hw hB hz1 hk1 hS => ?_)
  subst hw
  obtain ⟨fs_7, h_m0, hP1, hK1, hD1⟩ := hB
  rw [ht] at hP1
  obtain ⟨hP, hD⟩ := va_join (wr := [(x, .inr (12, fs_1)), (chA, .inl (chAC, (4, .inr (.inr (.inr (.inr chAF)))))), (ch0, .inr (2, fs_2)), (ch1, .inr (2, fs_3)), (ch2, .inr (2, fs_4)), (ch3, .inr (2, fs_5)), (oA, .inl (oAC, (1, .inr (.inl f_6))))]) (w1 := [(m0, .inr (13, fs_7)), (mch, .inl (mchC, (4, .inl (fun _ => 0))))]) hP hD [6, 7] [0, 1, 2, 3, 4, 5, 8] rfl rfl (by decide) (by decide) hk1 hFc hP1 hD1
  have hP := hP.sub (ws' := [(x, .inr (12, fs_1)), (chA, .inl (chAC, (4, .inr (.inr (.inr (.inr chAF)))))), (ch0, .inr (2, fs_2)), (ch1, .inr (2, fs_3)), (ch2, .inr (2, fs_4)), (ch3, .inr (2, fs_5)), (m0, .inr (13, fs_7)), (mch, .inl (mchC, (4, .inl (fun _ => 0)))), (oA, .inl (oAC, (1, .inr (.inl f_6))))]) [0, 1, 2, 3, 4, 5, 7, 8, 6] rfl
  have hD := hD.sub (ws' := [(x, .inr (12, fs_1)), (chA, .inl (chAC, (4, .inr (.inr (.inr (.inr chAF)))))), (ch0, .inr (2, fs_2)), (ch1, .inr (2, fs_3)), (ch2, .inr (2, fs_4)), (ch3, .inr (2, fs_5)), (m0, .inr (13, fs_7)), (mch, .inl (mchC, (4, .inl (fun _ => 0)))), (oA, .inl (oAC, (1, .inr (.inl f_6))))]) [0, 1, 2, 3, 4, 5, 7, 8, 6] (by decide) rfl
  generalize H1 = H at hP hS ⊢
  have hP : va_P (dC, dI) CL [(x, .inr (12, fs_1)), (chA, .inl (chAC, (4, .inr (.inr (.inr (.inr chAF)))))), (ch0, .inr (2, fs_2)), (ch1, .inr (2, fs_3)), (ch2, .inr (2, fs_4)), (ch3, .inr (2, fs_5)), (m0, .inr (13, fs_7)), (mch, .inl (mchC, (4, .inl (fun _ => 0)))), (oA, .inl (oAC, (1, .inr (.inl f_6))))] H := hP
  have hD : va_D A [(x, .inr (12, fs_1)), (chA, .inl (chAC, (4, .inr (.inr (.inr (.inr chAF)))))), (ch0, .inr (2, fs_2)), (ch1, .inr (2, fs_3)), (ch2, .inr (2, fs_4)), (ch3, .inr (2, fs_5)), (m0, .inr (13, fs_7)), (mch, .inl (mchC, (4, .inl (fun _ => 0)))), (oA, .inl (oAC, (1, .inr (.inl f_6))))] := hD
  refine lv_istore (lv' := [(6, .int 0), (5, .int 0), (0, .ref b), (1, .ref x), (2, .ref m0), (3, .ref oA), (4, .int 0)]) hx hb dL_law_596 hl (by decide) rfl (fun ls hl => ?_)
  refine lv_aload_n hx hb dL_law_598 rfl (lv_at hl 4 rfl) ?_
  have hPc := hP.sub (ws' := [(m0, .inr (13, fs_7))]) [6] rfl
  have hDc := hD.sub (ws' := [(m0, .inr (13, fs_7))]) [6] (by decide) rfl
  have hKc := hK.sub (tys' := []) [] rfl
  have hFc := va_free (wc := [(m0, .inr (13, fs_7))]) hD hS hA [6] rfl
  refine va_calli (va_runV (As := []) (rest := []) ⟨hx, hb, hml, hown, hts⟩ (gx71_X13_thrown l hlt dC dI _ m0 md ml mch fs_7 h_m0) (cwV 0 hts (gi_V wd_3015 wd_3016 wd_3017 wd_340 wd_3018) rfl rfl rfl (by decide +kernel) ⟨(Nat.le_of_ble_eq_true rfl), (Nat.le_of_ble_eq_true rfl)⟩) ⟨fun a U g mk q => by obtain ⟨q0, q1, qP, qK, qD, qT⟩ := q; exact ⟨q0, q1, qP, va_K.moved (u := U) (U := U.calling g mk a) (Vm.Alike.refl U.vm) qK, qD, th.moved (u := U) (U := U.calling g mk a) (Vm.Alike.refl U.vm) qT⟩, va_recv hKc hPc (ci := 13) (q0 := 0) rfl rfl, fun U hU hW => ⟨rfl, by rw [hU], by rw [hU]; exact hPc, va_K.moved hW.alike hKc, hDc.weaken (fun _ _ _ _ => trivial), by rw [hU]; exact ((hth.kept hS.2.1).narrow hFc).moved hW.alike⟩⟩ rfl rfl hl.1 rfl (lv_room (Nat.le_of_ble_eq_true rfl)) dL_law_599 ⟨(Nat.le_of_ble_eq_true rfl), (Nat.le_of_ble_eq_true rfl)⟩) hS (fun q _ h => hFc q h) hFc (fun r u t H1 locs ht hvm hw hB hz1 hk1 hS => ?_)
  subst hw
  obtain ⟨fs_8, h_m0, hP1, hK1, hD1⟩ := hB
  rw [ht] at hP1
  obtain ⟨hP, hD⟩ := va_join (wr := [(x, .inr (12, fs_1)), (chA, .inl (chAC, (4, .inr (.inr (.inr (.inr chAF)))))), (ch0, .inr (2, fs_2)), (ch1, .inr (2, fs_3)), (ch2, .inr (2, fs_4)), (ch3, .inr (2, fs_5)), (mch, .inl (mchC, (4, .inl (fun _ => 0)))), (oA, .inl (oAC, (1, .inr (.inl f_6))))]) (w1 := [(m0, .inr (13, fs_8))]) hP hD [6] [0, 1, 2, 3, 4, 5, 7, 8] rfl rfl (by decide) (by decide) hk1 hFc hP1 hD1
  have hP := hP.sub (ws' := [(x, .inr (12, fs_1)), (chA, .inl (chAC, (4, .inr (.inr (.inr (.inr chAF)))))), (ch0, .inr (2, fs_2)), (ch1, .inr (2, fs_3)), (ch2, .inr (2, fs_4)), (ch3, .inr (2, fs_5)), (m0, .inr (13, fs_8)), (mch, .inl (mchC, (4, .inl (fun _ => 0)))), (oA, .inl (oAC, (1, .inr (.inl f_6))))]) [0, 1, 2, 3, 4, 5, 8, 6, 7] rfl
  have hD := hD.sub (ws' := [(x, .inr (12, fs_1)), (chA, .inl (chAC, (4, .inr (.inr (.inr (.inr chAF)))))), (ch0, .inr (2, fs_2)), (ch1, .inr (2, fs_3)), (ch2, .inr (2, fs_4)), (ch3, .inr (2, fs_5)), (m0, .inr (13, fs_8)), (mch, .inl (mchC, (4, .inl (fun _ => 0)))), (oA, .inl (oAC, (1, .inr (.inl f_6))))]) [0, 1, 2, 3, 4, 5, 8, 6, 7] (by decide) rfl
  generalize H1 = H at hP hS ⊢
  have hP : va_P (dC, dI) CL [(x, .inr (12, fs_1)), (chA, .inl (chAC, (4, .inr (.inr (.inr (.inr chAF)))))), (ch0, .inr (2, fs_2)), (ch1, .inr (2, fs_3)), (ch2, .inr (2, fs_4)), (ch3, .inr (2, fs_5)), (m0, .inr (13, fs_8)), (mch, .inl (mchC, (4, .inl (fun _ => 0)))), (oA, .inl (oAC, (1, .inr (.inl f_6))))] H := hP
  have hD : va_D A [(x, .inr (12, fs_1)), (chA, .inl (chAC, (4, .inr (.inr (.inr (.inr chAF)))))), (ch0, .inr (2, fs_2)), (ch1, .inr (2, fs_3)), (ch2, .inr (2, fs_4)), (ch3, .inr (2, fs_5)), (m0, .inr (13, fs_8)), (mch, .inl (mchC, (4, .inl (fun _ => 0)))), (oA, .inl (oAC, (1, .inr (.inl f_6))))] := hD
  refine lv_iload hx hb dL_law_602 (lv_at hl 1 rfl) ?_
  refine lv_icmp_eq (tgt := 609) hx hb dL_law_604 (by decide) (fun c9 => ?_) (fun c9 => ?_)
  rotate_left
  · first | exact absurd c9 (by decide +kernel) | exact absurd (by decide +kernel) c9
  refine lv_iload hx hb dL_law_609 (lv_at hl 1 rfl) ?_
  refine lv_if_ne (tgt := 633) hx hb dL_law_611 (by decide) (fun c9 => ?_) (fun c9 => ?_)
  · first | exact absurd c9 (by decide +kernel) | exact absurd (by decide +kernel) c9
  refine lv_aload_n hx hb dL_law_614 rfl (lv_at hl 5 rfl) ?_
  refine lv_iconst (v := 0) hx hb dL_law_615 (by decide +kernel) ?_
  refine va_lald hx hb hK hP 8 2 rfl rfl (vp_in_nI (n := 0) (N := 1) (by decide) (by decide)) dL_law_616 ?_
  refine lv_topl (fun v9 e9 => ?_)
  obtain rfl : v9 = 0 := e9.trans ((congrArg f_6 (by decide +kernel : (0 : Int32).toNatClampNeg = 0)).trans (h_oA.get 0 rfl))
  refine lv_iload hx hb dL_law_617 (lv_at hl 0 rfl) ?_
  refine lv_if_eq (tgt := 626) hx hb dL_law_619 (by decide) (fun c9 => ?_) (fun c9 => ?_)
  rotate_left
  · first | exact absurd c9 (by decide +kernel) | exact absurd (by decide +kernel) c9
  refine lv_lconst (v := 0) hx hb dL_law_626 (by decide) ?_
  refine hc_lcmpE hx hb dL_law_627 ?_
  refine lv_if_eq (tgt := 633) hx hb dL_law_628 (by decide) (fun c9 => ?_) (fun c9 => ?_)
  rotate_left
  · first | exact absurd c9 (by decide +kernel) | exact absurd (by decide +kernel) c9
  refine lv_goto (tgt := 4099) hx hb dL_law_633 (by decide) ?_
  refine W.widen (k := 470) (n := 2709300) (Nat.le_of_ble_eq_true rfl) (Nat.le_of_ble_eq_true rfl) ?_
  rw [eA] at hS
  exact law_tail (v5 := 0) (v6 := 0) (lv := []) C0 hS (lv_sub hl [2, 6] rfl)
set_option maxHeartbeats 4000000 in
set_option maxRecDepth 100000 in
theorem law_isThere_2k3 {p : Program} {l : Launch} {e : Env} {s : State} {m : MethodId} {below : List Frame} {meth : Method} {c : Code} {b : Nat} {xs : Nat → Int32} (C0 : lw_At p s m meth c b 7 xs) {dC : Nat → ClassId} {dI : Nat → Nat → Nat} (hlt : l.stackTraces = false) (hth : th (fun q : Nat => s.heap.size ≤ q) s s.heap) (q0 : (xs ((0 : Int32) + 1).toNatClampNeg) = 2) (q1 : (xs ((0 : Int32) + 2).toNatClampNeg) = 3) (x chA ch0 ch1 ch2 ch3 m0 mch oA deA liA md ml : Nat) (xg : List Value) (h_x : fx xg 17 [(7, .ref deA), (8, .ref liA), (9, .ref chA)]) (chAC : ClassId) (chAF : Nat → Option Nat) (ch0g : List Value) (h_ch0 : fx ch0g 20 [(0, .int 0)]) (ch1g : List Value) (h_ch1 : fx ch1g 20 [(0, .int 0)]) (ch2g : List Value) (h_ch2 : fx ch2g 20 [(0, .int 0)]) (ch3g : List Value) (h_ch3 : fx ch3g 20 [(0, .int 0)]) (m0g : List Value) (h_m0 : fx m0g 225 [(0, .int 0), (2, .int 0), (3, .int 0), (9, .int 0), (10, .int 0), (11, .int 0), (12, .int 0), (27, .int 0), (55, .ref md), (79, .int 0), (83, .int 0), (88, .ref ml), (95, .int 0), (138, .ref mch)]) (mchC : ClassId) (oAC : ClassId) (oAf : Nat → Int64) (h_oA : fa oAf []) (h_chA0 : chAF 0 = some ch0) (h_chA1 : chAF 1 = some ch1) (h_chA2 : chAF 2 = some ch2) (h_chA3 : chAF 3 = some ch3) (H : Heap) (locs : List Loc) (hK : va_K (dC, dI) CL [(chAC, .object "ChipFlow$Chip"), (mchC, .boolean), (oAC, .long)] s) (hP : va_P (dC, dI) CL [(x, .inr (12, xg)), (chA, .inl (chAC, (4, .inr (.inr (.inr (.inr chAF)))))), (ch0, .inr (2, ch0g)), (ch1, .inr (2, ch1g)), (ch2, .inr (2, ch2g)), (ch3, .inr (2, ch3g)), (m0, .inr (13, m0g)), (mch, .inl (mchC, (4, .inl (fun _ => 0)))), (oA, .inl (oAC, (1, .inr (.inl oAf))))] H) (hD : va_D (fun q : Nat => s.heap.size ≤ q) [(x, .inr (12, xg)), (chA, .inl (chAC, (4, .inr (.inr (.inr (.inr chAF)))))), (ch0, .inr (2, ch0g)), (ch1, .inr (2, ch1g)), (ch2, .inr (2, ch2g)), (ch3, .inr (2, ch3g)), (m0, .inr (13, m0g)), (mch, .inl (mchC, (4, .inl (fun _ => 0)))), (oA, .inl (oAC, (1, .inr (.inl oAf))))]) (hS : va_S (fun q : Nat => s.heap.size ≤ q) s.heap H locs) (ls : Array Slot) (hl : lv_has ls 7 [(0, .ref b), (1, .ref x), (2, .ref m0), (3, .ref oA), (4, .int 0)]) : W p l e room_1 s m #[Value.ref b] below meth c H locs 451 2709142 (lw_Z below #[Value.ref b] s) (F0 m 561 ls []) := by
  obtain ⟨hx, hb, hr, hml, hown, hts0, hX, hbl, hlocks, hgv⟩ := id C0
  have hts : ∀ w ∈ BG, w.before _ s = true := fun w h => hts0 w (List.mem_filter.mp h).1
  have hown : s.vm.findClass RL = some m.cls := hown
  obtain ⟨A, eA⟩ : ∃ z : Nat → Prop, z = (fun q : Nat => s.heap.size ≤ q) := ⟨_, rfl⟩
  rw [← eA] at hth hD hS
  have hA : ∀ q : Nat, s.heap.size ≤ q → A q := fun q h => by rw [eA]; exact h
  have hbA : ¬ A b := by rw [eA]; exact Nat.not_le.mpr hbl
  refine lv_aload_n hx hb dL_law_561 rfl (lv_at hl 1 rfl) ?_
  refine lv_aload_n hx hb dL_law_562 rfl (lv_at hl 0 rfl) ?_
  refine lv_iload hx hb dL_law_563 (lv_at hl 4 rfl) ?_
  refine lv_iconst (v := 1) hx hb dL_law_565 (by decide +kernel) ?_
  refine lv_iadd hx hb dL_law_566 ?_
  refine va_sld hx hb hX hbl hbA hS vi_1 dL_law_567 ?_
  refine lv_topi (fun v9 e9 => ?_)
  obtain rfl : v9 = 2 := e9.trans q0
  refine lv_aload_n hx hb dL_law_568 rfl (lv_at hl 0 rfl) ?_
  refine lv_iload hx hb dL_law_569 (lv_at hl 4 rfl) ?_
  refine lv_iconst (v := 2) hx hb dL_law_571 (by decide +kernel) ?_
  refine lv_iadd hx hb dL_law_572 ?_
  refine va_sld hx hb hX hbl hbA hS vi_2 dL_law_573 ?_
  refine lv_topi (fun v9 e9 => ?_)
  obtain rfl : v9 = 3 := e9.trans q1
  refine lv_aload_n hx hb dL_law_574 rfl (lv_at hl 3 rfl) ?_
  have hPc := hP.sub (ws' := [(x, .inr (12, xg)), (chA, .inl (chAC, (4, .inr (.inr (.inr (.inr chAF)))))), (ch0, .inr (2, ch0g)), (ch1, .inr (2, ch1g)), (ch2, .inr (2, ch2g)), (ch3, .inr (2, ch3g)), (oA, .inl (oAC, (1, .inr (.inl oAf))))]) [0, 1, 2, 3, 4, 5, 8] rfl
  have hDc := hD.sub (ws' := [(x, .inr (12, xg)), (chA, .inl (chAC, (4, .inr (.inr (.inr (.inr chAF)))))), (ch0, .inr (2, ch0g)), (ch1, .inr (2, ch1g)), (ch2, .inr (2, ch2g)), (ch3, .inr (2, ch3g)), (oA, .inl (oAC, (1, .inr (.inl oAf))))]) [0, 1, 2, 3, 4, 5, 8] (by decide) rfl
  have hKc := hK.sub (tys' := [(chAC, .object "ChipFlow$Chip"), (oAC, .long)]) [0, 2] rfl
  have hFc := va_free (wc := [(x, .inr (12, xg)), (chA, .inl (chAC, (4, .inr (.inr (.inr (.inr chAF)))))), (ch0, .inr (2, ch0g)), (ch1, .inr (2, ch1g)), (ch2, .inr (2, ch2g)), (ch3, .inr (2, ch3g)), (oA, .inl (oAC, (1, .inr (.inl oAf))))]) hD hS hA [0, 1, 2, 3, 4, 5, 8] rfl
  refine va_calli (vx_runSW (As := [.ref x, .int 2, .int 3, .ref oA]) (rest := []) ⟨hx, hb, hml, hown, hts⟩ (gx140_L_isThere l hlt dC dI _ x chA ch0 ch1 ch2 ch3 oA deA liA xg h_x chAC chAF ch0g h_ch0 ch1g h_ch1 ch2g h_ch2 ch3g h_ch3 oAC oAf h_oA h_chA0 h_chA1 h_chA2 h_chA3) (vx_cwSW 4 hts (gi_W wd_1839 wd_1840 wd_326 wd_1841) rfl rfl rfl (by decide +kernel) ⟨(Nat.le_of_ble_eq_true rfl), (Nat.le_of_ble_eq_true rfl)⟩) ⟨fun a U g mk q => by obtain ⟨q0, q1, qP, qK, qD, qT⟩ := q; exact ⟨q0, q1, qP, va_K.moved (u := U) (U := U.calling g mk a) (Vm.Alike.refl U.vm) qK, qD, th.moved (u := U) (U := U.calling g mk a) (Vm.Alike.refl U.vm) qT⟩, fun U hU hW => ⟨rfl, by rw [hU], by rw [hU]; exact hPc, va_K.moved hW.alike hKc, hDc.weaken (fun _ _ _ _ => trivial), by rw [hU]; exact ((hth.kept hS.2.1).narrow hFc).moved hW.alike⟩⟩ rfl rfl hl.1 rfl (lv_room (Nat.le_of_ble_eq_true rfl)) dL_law_575 ⟨(Nat.le_of_ble_eq_true rfl), (Nat.le_of_ble_eq_true rfl)⟩) hS (fun q _ h => hFc q h) hFc (fun r u t H1 locs ht hvm hw hB hz1 hk1 hS => ?_)
  subst hw
  obtain ⟨fs_1, fs_2, fs_3, fs_4, fs_5, f_6, h_x, h_ch0, h_ch1, h_ch2, h_ch3, h_oA, hP1, hK1, hD1⟩ := hB
  rw [ht] at hP1
  obtain ⟨hP, hD⟩ := va_join (wr := [(m0, .inr (13, m0g)), (mch, .inl (mchC, (4, .inl (fun _ => 0))))]) (w1 := [(x, .inr (12, fs_1)), (chA, .inl (chAC, (4, .inr (.inr (.inr (.inr chAF)))))), (ch0, .inr (2, fs_2)), (ch1, .inr (2, fs_3)), (ch2, .inr (2, fs_4)), (ch3, .inr (2, fs_5)), (oA, .inl (oAC, (1, .inr (.inl f_6))))]) hP hD [0, 1, 2, 3, 4, 5, 8] [6, 7] rfl rfl (by decide) (by decide) hk1 hFc hP1 hD1
  have hP := hP.sub (ws' := [(x, .inr (12, fs_1)), (chA, .inl (chAC, (4, .inr (.inr (.inr (.inr chAF)))))), (ch0, .inr (2, fs_2)), (ch1, .inr (2, fs_3)), (ch2, .inr (2, fs_4)), (ch3, .inr (2, fs_5)), (m0, .inr (13, m0g)), (mch, .inl (mchC, (4, .inl (fun _ => 0)))), (oA, .inl (oAC, (1, .inr (.inl f_6))))]) [2, 3, 4, 5, 6, 7, 0, 1, 8] rfl
  have hD := hD.sub (ws' := [(x, .inr (12, fs_1)), (chA, .inl (chAC, (4, .inr (.inr (.inr (.inr chAF)))))), (ch0, .inr (2, fs_2)), (ch1, .inr (2, fs_3)), (ch2, .inr (2, fs_4)), (ch3, .inr (2, fs_5)), (m0, .inr (13, m0g)), (mch, .inl (mchC, (4, .inl (fun _ => 0)))), (oA, .inl (oAC, (1, .inr (.inl f_6))))]) [2, 3, 4, 5, 6, 7, 0, 1, 8] (by decide) rfl
  generalize H1 = H at hP hS ⊢
  have hP : va_P (dC, dI) CL [(x, .inr (12, fs_1)), (chA, .inl (chAC, (4, .inr (.inr (.inr (.inr chAF)))))), (ch0, .inr (2, fs_2)), (ch1, .inr (2, fs_3)), (ch2, .inr (2, fs_4)), (ch3, .inr (2, fs_5)), (m0, .inr (13, m0g)), (mch, .inl (mchC, (4, .inl (fun _ => 0)))), (oA, .inl (oAC, (1, .inr (.inl f_6))))] H := hP
  have hD : va_D A [(x, .inr (12, fs_1)), (chA, .inl (chAC, (4, .inr (.inr (.inr (.inr chAF)))))), (ch0, .inr (2, fs_2)), (ch1, .inr (2, fs_3)), (ch2, .inr (2, fs_4)), (ch3, .inr (2, fs_5)), (m0, .inr (13, m0g)), (mch, .inl (mchC, (4, .inl (fun _ => 0)))), (oA, .inl (oAC, (1, .inr (.inl f_6))))] := hD
  refine W.widen (k := 452) (n := 2709148) (Nat.le_of_ble_eq_true rfl) (Nat.le_of_ble_eq_true rfl) ?_
  refine lv_istore (lv' := [(5, .int 0), (0, .ref b), (1, .ref x), (2, .ref m0), (3, .ref oA), (4, .int 0)]) hx hb dL_law_578 hl (by decide) rfl (fun ls hl => ?_)
  refine lv_aload_n hx hb dL_law_580 rfl (lv_at hl 3 rfl) ?_
  refine lv_aload_n hx hb dL_law_581 rfl (lv_at hl 1 rfl) ?_
  refine lv_iload hx hb dL_law_582 (lv_at hl 5 rfl) ?_
  refine lv_iconst (v := 1) hx hb dL_law_584 (by decide +kernel) ?_
  refine lv_iadd hx hb dL_law_585 ?_
  refine va_sld hx hb hX hbl hbA hS vi_1 dL_law_586 ?_
  refine lv_topi (fun v9 e9 => ?_)
  obtain rfl : v9 = 2 := e9.trans q0
  refine lv_aload_n hx hb dL_law_587 rfl (lv_at hl 1 rfl) ?_
  refine lv_iload hx hb dL_law_588 (lv_at hl 5 rfl) ?_
  refine lv_iconst (v := 2) hx hb dL_law_590 (by decide +kernel) ?_
  refine lv_iadd hx hb dL_law_591 ?_
  refine va_sld hx hb hX hbl hbA hS vi_2 dL_law_592 ?_
  refine lv_topi (fun v9 e9 => ?_)
  obtain rfl : v9 = 3 := e9.trans q1
  have hPc := hP.sub (ws' := [(m0, .inr (13, m0g)), (mch, .inl (mchC, (4, .inl (fun _ => 0))))]) [6, 7] rfl
  have hDc := hD.sub (ws' := [(m0, .inr (13, m0g)), (mch, .inl (mchC, (4, .inl (fun _ => 0))))]) [6, 7] (by decide) rfl
  have hKc := hK.sub (tys' := [(mchC, .boolean)]) [1] rfl
  have hFc := va_free (wc := [(m0, .inr (13, m0g)), (mch, .inl (mchC, (4, .inl (fun _ => 0))))]) hD hS hA [6, 7] rfl
  refine va_calli (va_runV (As := [.int 2, .int 3]) (rest := []) ⟨hx, hb, hml, hown, hts⟩ (gx142_X13_isThere l hlt dC dI _ m0 mch md ml m0g h_m0 mchC) (cwV 2 hts (gi_V wd_4088 wd_4089 wd_4090 wd_340 wd_4091) rfl rfl rfl (by decide +kernel) ⟨(Nat.le_of_ble_eq_true rfl), (Nat.le_of_ble_eq_true rfl)⟩) ⟨fun a U g mk q => by obtain ⟨q0, q1, qP, qK, qD, qT⟩ := q; exact ⟨q0, q1, qP, va_K.moved (u := U) (U := U.calling g mk a) (Vm.Alike.refl U.vm) qK, qD, th.moved (u := U) (U := U.calling g mk a) (Vm.Alike.refl U.vm) qT⟩, va_recv hKc hPc (ci := 13) (q0 := 0) rfl rfl, fun U hU hW => ⟨rfl, by rw [hU], by rw [hU]; exact hPc, va_K.moved hW.alike hKc, hDc.weaken (fun _ _ _ _ => trivial), by rw [hU]; exact ((hth.kept hS.2.1).narrow hFc).moved hW.alike⟩⟩ rfl rfl hl.1 rfl (lv_room (Nat.le_of_ble_eq_true rfl)) dL_law_593 ⟨(Nat.le_of_ble_eq_true rfl), (Nat.le_of_ble_eq_true rfl)⟩) hS (fun q _ h => hFc q h) hFc (fun r u t H1 locs ht hvm hw hB hz1 hk1 hS => ?_)
  subst hw
  obtain ⟨fs_7, h_m0, hP1, hK1, hD1⟩ := hB
  rw [ht] at hP1
  obtain ⟨hP, hD⟩ := va_join (wr := [(x, .inr (12, fs_1)), (chA, .inl (chAC, (4, .inr (.inr (.inr (.inr chAF)))))), (ch0, .inr (2, fs_2)), (ch1, .inr (2, fs_3)), (ch2, .inr (2, fs_4)), (ch3, .inr (2, fs_5)), (oA, .inl (oAC, (1, .inr (.inl f_6))))]) (w1 := [(m0, .inr (13, fs_7)), (mch, .inl (mchC, (4, .inl (fun _ => 0))))]) hP hD [6, 7] [0, 1, 2, 3, 4, 5, 8] rfl rfl (by decide) (by decide) hk1 hFc hP1 hD1
  have hP := hP.sub (ws' := [(x, .inr (12, fs_1)), (chA, .inl (chAC, (4, .inr (.inr (.inr (.inr chAF)))))), (ch0, .inr (2, fs_2)), (ch1, .inr (2, fs_3)), (ch2, .inr (2, fs_4)), (ch3, .inr (2, fs_5)), (m0, .inr (13, fs_7)), (mch, .inl (mchC, (4, .inl (fun _ => 0)))), (oA, .inl (oAC, (1, .inr (.inl f_6))))]) [0, 1, 2, 3, 4, 5, 7, 8, 6] rfl
  have hD := hD.sub (ws' := [(x, .inr (12, fs_1)), (chA, .inl (chAC, (4, .inr (.inr (.inr (.inr chAF)))))), (ch0, .inr (2, fs_2)), (ch1, .inr (2, fs_3)), (ch2, .inr (2, fs_4)), (ch3, .inr (2, fs_5)), (m0, .inr (13, fs_7)), (mch, .inl (mchC, (4, .inl (fun _ => 0)))), (oA, .inl (oAC, (1, .inr (.inl f_6))))]) [0, 1, 2, 3, 4, 5, 7, 8, 6] (by decide) rfl
  generalize H1 = H at hP hS ⊢
  have hP : va_P (dC, dI) CL [(x, .inr (12, fs_1)), (chA, .inl (chAC, (4, .inr (.inr (.inr (.inr chAF)))))), (ch0, .inr (2, fs_2)), (ch1, .inr (2, fs_3)), (ch2, .inr (2, fs_4)), (ch3, .inr (2, fs_5)), (m0, .inr (13, fs_7)), (mch, .inl (mchC, (4, .inl (fun _ => 0)))), (oA, .inl (oAC, (1, .inr (.inl f_6))))] H := hP
  have hD : va_D A [(x, .inr (12, fs_1)), (chA, .inl (chAC, (4, .inr (.inr (.inr (.inr chAF)))))), (ch0, .inr (2, fs_2)), (ch1, .inr (2, fs_3)), (ch2, .inr (2, fs_4)), (ch3, .inr (2, fs_5)), (m0, .inr (13, fs_7)), (mch, .inl (mchC, (4, .inl (fun _ => 0)))), (oA, .inl (oAC, (1, .inr (.inl f_6))))] := hD
  refine lv_istore (lv' := [(6, .int 0), (5, .int 0), (0, .ref b), (1, .ref x), (2, .ref m0), (3, .ref oA), (4, .int 0)]) hx hb dL_law_596 hl (by decide) rfl (fun ls hl => ?_)
  refine lv_aload_n hx hb dL_law_598 rfl (lv_at hl 4 rfl) ?_
  have hPc := hP.sub (ws' := [(m0, .inr (13, fs_7))]) [6] rfl
  have hDc := hD.sub (ws' := [(m0, .inr (13, fs_7))]) [6] (by decide) rfl
  have hKc := hK.sub (tys' := []) [] rfl
  have hFc := va_free (wc := [(m0, .inr (13, fs_7))]) hD hS hA [6] rfl
  refine va_calli (va_runV (As := []) (rest := []) ⟨hx, hb, hml, hown, hts⟩ (gx71_X13_thrown l hlt dC dI _ m0 md ml mch fs_7 h_m0) (cwV 0 hts (gi_V wd_3015 wd_3016 wd_3017 wd_340 wd_3018) rfl rfl rfl (by decide +kernel) ⟨(Nat.le_of_ble_eq_true rfl), (Nat.le_of_ble_eq_true rfl)⟩) ⟨fun a U g mk q => by obtain ⟨q0, q1, qP, qK, qD, qT⟩ := q; exact ⟨q0, q1, qP, va_K.moved (u := U) (U := U.calling g mk a) (Vm.Alike.refl U.vm) qK, qD, th.moved (u := U) (U := U.calling g mk a) (Vm.Alike.refl U.vm) qT⟩, va_recv hKc hPc (ci := 13) (q0 := 0) rfl rfl, fun U hU hW => ⟨rfl, by rw [hU], by rw [hU]; exact hPc, va_K.moved hW.alike hKc, hDc.weaken (fun _ _ _ _ => trivial), by rw [hU]; exact ((hth.kept hS.2.1).narrow hFc).moved hW.alike⟩⟩ rfl rfl hl.1 rfl (lv_room (Nat.le_of_ble_eq_true rfl)) dL_law_599 ⟨(Nat.le_of_ble_eq_true rfl), (Nat.le_of_ble_eq_true rfl)⟩) hS (fun q _ h => hFc q h) hFc (fun r u t H1 locs ht hvm hw hB hz1 hk1 hS => ?_)
  subst hw
  obtain ⟨fs_8, h_m0, hP1, hK1, hD1⟩ := hB
  rw [ht] at hP1
  obtain ⟨hP, hD⟩ := va_join (wr := [(x, .inr (12, fs_1)), (chA, .inl (chAC, (4, .inr (.inr (.inr (.inr chAF)))))), (ch0, .inr (2, fs_2)), (ch1, .inr (2, fs_3)), (ch2, .inr (2, fs_4)), (ch3, .inr (2, fs_5)), (mch, .inl (mchC, (4, .inl (fun _ => 0)))), (oA, .inl (oAC, (1, .inr (.inl f_6))))]) (w1 := [(m0, .inr (13, fs_8))]) hP hD [6] [0, 1, 2, 3, 4, 5, 7, 8] rfl rfl (by decide) (by decide) hk1 hFc hP1 hD1
  have hP := hP.sub (ws' := [(x, .inr (12, fs_1)), (chA, .inl (chAC, (4, .inr (.inr (.inr (.inr chAF)))))), (ch0, .inr (2, fs_2)), (ch1, .inr (2, fs_3)), (ch2, .inr (2, fs_4)), (ch3, .inr (2, fs_5)), (m0, .inr (13, fs_8)), (mch, .inl (mchC, (4, .inl (fun _ => 0)))), (oA, .inl (oAC, (1, .inr (.inl f_6))))]) [0, 1, 2, 3, 4, 5, 8, 6, 7] rfl
  have hD := hD.sub (ws' := [(x, .inr (12, fs_1)), (chA, .inl (chAC, (4, .inr (.inr (.inr (.inr chAF)))))), (ch0, .inr (2, fs_2)), (ch1, .inr (2, fs_3)), (ch2, .inr (2, fs_4)), (ch3, .inr (2, fs_5)), (m0, .inr (13, fs_8)), (mch, .inl (mchC, (4, .inl (fun _ => 0)))), (oA, .inl (oAC, (1, .inr (.inl f_6))))]) [0, 1, 2, 3, 4, 5, 8, 6, 7] (by decide) rfl
  generalize H1 = H at hP hS ⊢
  have hP : va_P (dC, dI) CL [(x, .inr (12, fs_1)), (chA, .inl (chAC, (4, .inr (.inr (.inr (.inr chAF)))))), (ch0, .inr (2, fs_2)), (ch1, .inr (2, fs_3)), (ch2, .inr (2, fs_4)), (ch3, .inr (2, fs_5)), (m0, .inr (13, fs_8)), (mch, .inl (mchC, (4, .inl (fun _ => 0)))), (oA, .inl (oAC, (1, .inr (.inl f_6))))] H := hP
  have hD : va_D A [(x, .inr (12, fs_1)), (chA, .inl (chAC, (4, .inr (.inr (.inr (.inr chAF)))))), (ch0, .inr (2, fs_2)), (ch1, .inr (2, fs_3)), (ch2, .inr (2, fs_4)), (ch3, .inr (2, fs_5)), (m0, .inr (13, fs_8)), (mch, .inl (mchC, (4, .inl (fun _ => 0)))), (oA, .inl (oAC, (1, .inr (.inl f_6))))] := hD
  refine lv_iload hx hb dL_law_602 (lv_at hl 1 rfl) ?_
  refine lv_icmp_eq (tgt := 609) hx hb dL_law_604 (by decide) (fun c9 => ?_) (fun c9 => ?_)
  rotate_left
  · first | exact absurd c9 (by decide +kernel) | exact absurd (by decide +kernel) c9
  refine lv_iload hx hb dL_law_609 (lv_at hl 1 rfl) ?_
  refine lv_if_ne (tgt := 633) hx hb dL_law_611 (by decide) (fun c9 => ?_) (fun c9 => ?_)
  · first | exact absurd c9 (by decide +kernel) | exact absurd (by decide +kernel) c9
  refine lv_aload_n hx hb dL_law_614 rfl (lv_at hl 5 rfl) ?_
  refine lv_iconst (v := 0) hx hb dL_law_615 (by decide +kernel) ?_
  refine va_lald hx hb hK hP 8 2 rfl rfl (vp_in_nI (n := 0) (N := 1) (by decide) (by decide)) dL_law_616 ?_
  refine lv_topl (fun v9 e9 => ?_)
  obtain rfl : v9 = 0 := e9.trans ((congrArg f_6 (by decide +kernel : (0 : Int32).toNatClampNeg = 0)).trans (h_oA.get 0 rfl))
  refine lv_iload hx hb dL_law_617 (lv_at hl 0 rfl) ?_
  refine lv_if_eq (tgt := 626) hx hb dL_law_619 (by decide) (fun c9 => ?_) (fun c9 => ?_)
  rotate_left
  · first | exact absurd c9 (by decide +kernel) | exact absurd (by decide +kernel) c9
  refine lv_lconst (v := 0) hx hb dL_law_626 (by decide) ?_
  refine hc_lcmpE hx hb dL_law_627 ?_
  refine lv_if_eq (tgt := 633) hx hb dL_law_628 (by decide) (fun c9 => ?_) (fun c9 => ?_)
  rotate_left
  · first | exact absurd c9 (by decide +kernel) | exact absurd (by decide +kernel) c9
  refine lv_goto (tgt := 4099) hx hb dL_law_633 (by decide) ?_
  refine W.widen (k := 470) (n := 2709300) (Nat.le_of_ble_eq_true rfl) (Nat.le_of_ble_eq_true rfl) ?_
  rw [eA] at hS
  exact law_tail (v5 := 0) (v6 := 0) (lv := []) C0 hS (lv_sub hl [2, 6] rfl)
set_option maxHeartbeats 4000000 in
set_option maxRecDepth 100000 in
theorem law_isThere {p : Program} {l : Launch} {e : Env} {s : State} {m : MethodId} {below : List Frame} {meth : Method} {c : Code} {b : Nat} {xs : Nat → Int32} (C0 : lw_At p s m meth c b 7 xs) {dC : Nat → ClassId} {dI : Nat → Nat → Nat} (hlt : l.stackTraces = false) (hth : th (fun q : Nat => s.heap.size ≤ q) s s.heap) (x deA de0 de1 de2 de3 de4 de5 liA li0 li1 li2 chA ch0 ch1 ch2 ch3 m0 md ml mch oA : Nat) (xg : List Value) (h_x : fx xg 17 [(7, .ref deA), (8, .ref liA), (9, .ref chA)]) (deAC : ClassId) (deAF : Nat → Option Nat) (de0g : List Value) (h_de0 : fx de0g 16 [(0, .int 0)]) (de1g : List Value) (h_de1 : fx de1g 16 [(0, .int 0)]) (de2g : List Value) (h_de2 : fx de2g 16 [(0, .int 0)]) (de3g : List Value) (h_de3 : fx de3g 16 [(0, .int 0)]) (de4g : List Value) (h_de4 : fx de4g 16 [(0, .int 0)]) (de5g : List Value) (h_de5 : fx de5g 16 [(0, .int 0)]) (liAC : ClassId) (liAF : Nat → Option Nat) (li0g : List Value) (h_li0 : fx li0g 7 [(0, .int 0)]) (li1g : List Value) (h_li1 : fx li1g 7 [(0, .int 0)]) (li2g : List Value) (h_li2 : fx li2g 7 [(0, .int 0)]) (chAC : ClassId) (chAF : Nat → Option Nat) (ch0g : List Value) (h_ch0 : fx ch0g 20 [(0, .int 0)]) (ch1g : List Value) (h_ch1 : fx ch1g 20 [(0, .int 0)]) (ch2g : List Value) (h_ch2 : fx ch2g 20 [(0, .int 0)]) (ch3g : List Value) (h_ch3 : fx ch3g 20 [(0, .int 0)]) (m0g : List Value) (h_m0 : fx m0g 225 [(0, .int 0), (2, .int 0), (3, .int 0), (9, .int 0), (10, .int 0), (11, .int 0), (12, .int 0), (27, .int 0), (55, .ref md), (79, .int 0), (83, .int 0), (88, .ref ml), (95, .int 0), (138, .ref mch)]) (mdC : ClassId) (mlC : ClassId) (mchC : ClassId) (oAC : ClassId) (oAf : Nat → Int64) (h_oA : fa oAf []) (h_deA0 : deAF 0 = some de0) (h_deA1 : deAF 1 = some de1) (h_deA2 : deAF 2 = some de2) (h_deA3 : deAF 3 = some de3) (h_deA4 : deAF 4 = some de4) (h_deA5 : deAF 5 = some de5) (h_liA0 : liAF 0 = some li0) (h_liA1 : liAF 1 = some li1) (h_liA2 : liAF 2 = some li2) (h_chA0 : chAF 0 = some ch0) (h_chA1 : chAF 1 = some ch1) (h_chA2 : chAF 2 = some ch2) (h_chA3 : chAF 3 = some ch3) (H : Heap) (locs : List Loc) (hK : va_K (dC, dI) CL [(deAC, .object "ChipFlow$Design"), (liAC, .object "ChipFlow$Library"), (chAC, .object "ChipFlow$Chip"), (mdC, .boolean), (mlC, .boolean), (mchC, .boolean), (oAC, .long)] s) (hP : va_P (dC, dI) CL [(x, .inr (12, xg)), (deA, .inl (deAC, (6, .inr (.inr (.inr (.inr deAF)))))), (de0, .inr (3, de0g)), (de1, .inr (3, de1g)), (de2, .inr (3, de2g)), (de3, .inr (3, de3g)), (de4, .inr (3, de4g)), (de5, .inr (3, de5g)), (liA, .inl (liAC, (3, .inr (.inr (.inr (.inr liAF)))))), (li0, .inr (5, li0g)), (li1, .inr (5, li1g)), (li2, .inr (5, li2g)), (chA, .inl (chAC, (4, .inr (.inr (.inr (.inr chAF)))))), (ch0, .inr (2, ch0g)), (ch1, .inr (2, ch1g)), (ch2, .inr (2, ch2g)), (ch3, .inr (2, ch3g)), (m0, .inr (13, m0g)), (md, .inl (mdC, (6, .inl (fun _ => 0)))), (ml, .inl (mlC, (3, .inl (fun _ => 0)))), (mch, .inl (mchC, (4, .inl (fun _ => 0)))), (oA, .inl (oAC, (1, .inr (.inl oAf))))] H) (hD : va_D (fun q : Nat => s.heap.size ≤ q) [(x, .inr (12, xg)), (deA, .inl (deAC, (6, .inr (.inr (.inr (.inr deAF)))))), (de0, .inr (3, de0g)), (de1, .inr (3, de1g)), (de2, .inr (3, de2g)), (de3, .inr (3, de3g)), (de4, .inr (3, de4g)), (de5, .inr (3, de5g)), (liA, .inl (liAC, (3, .inr (.inr (.inr (.inr liAF)))))), (li0, .inr (5, li0g)), (li1, .inr (5, li1g)), (li2, .inr (5, li2g)), (chA, .inl (chAC, (4, .inr (.inr (.inr (.inr chAF)))))), (ch0, .inr (2, ch0g)), (ch1, .inr (2, ch1g)), (ch2, .inr (2, ch2g)), (ch3, .inr (2, ch3g)), (m0, .inr (13, m0g)), (md, .inl (mdC, (6, .inl (fun _ => 0)))), (ml, .inl (mlC, (3, .inl (fun _ => 0)))), (mch, .inl (mchC, (4, .inl (fun _ => 0)))), (oA, .inl (oAC, (1, .inr (.inl oAf))))]) (hS : va_S (fun q : Nat => s.heap.size ≤ q) s.heap H locs) (ls : Array Slot) (hl : lv_has ls 7 [(0, .ref b), (1, .ref x), (2, .ref m0), (3, .ref oA), (4, .int 0)]) : W p l e room_1 s m #[Value.ref b] below meth c H locs 451 2709142 (lw_Z below #[Value.ref b] s) (F0 m 561 ls []) := by
  rcases Decidable.em ((xs ((0 : Int32) + 1).toNatClampNeg) < 0) with zn | zn
  · exact law_isThere_lt C0 hlt hth _ rfl _ rfl zn x m0 oA deA liA chA md ml mch xg h_x m0g h_m0 oAC oAf h_oA H locs (hK.sub [6] rfl) (hP.sub [0, 17, 21] rfl) (hD.sub [0, 17, 21] (by decide) rfl) hS ls hl
  rcases Decidable.em ((2 : Int32) < (xs ((0 : Int32) + 1).toNatClampNeg)) with zp | zp
  · exact law_isThere_gt C0 hlt hth _ rfl _ rfl zn zp (hx_nle zp) x m0 oA deA liA chA md ml mch xg h_x m0g h_m0 oAC oAf h_oA H locs (hK.sub [6] rfl) (hP.sub [0, 17, 21] rfl) (hD.sub [0, 17, 21] (by decide) rfl) hS ls hl
  obtain ⟨j, hj, ej⟩ := hx_rng 3 zn (fun h => zp (hx_l3 h)) (by decide)
  rcases (show j = 0 ∨ j = 1 ∨ j = 2 by omega) with e9 | e9 | e9
  · have q0 : (xs ((0 : Int32) + 1).toNatClampNeg) = 0 := ej.trans (by rw [e9]; decide +kernel)
    rcases Decidable.em ((xs ((0 : Int32) + 2).toNatClampNeg) < 0) with zk | zk
    · exact law_isThere_0lt C0 hlt hth q0 _ rfl zk x deA de0 de1 de2 de3 de4 de5 m0 md oA liA chA ml mch xg h_x deAC deAF de0g h_de0 de1g h_de1 de2g h_de2 de3g h_de3 de4g h_de4 de5g h_de5 m0g h_m0 mdC oAC oAf h_oA h_deA0 h_deA1 h_deA2 h_deA3 h_deA4 h_deA5 H locs (hK.sub [0, 3, 6] rfl) (hP.sub [0, 1, 2, 3, 4, 5, 6, 7, 17, 18, 21] rfl) (hD.sub [0, 1, 2, 3, 4, 5, 6, 7, 17, 18, 21] (by decide) rfl) hS ls hl
    rcases Decidable.em ((6 : Int32) ≤ (xs ((0 : Int32) + 2).toNatClampNeg)) with zg | zg
    · exact law_isThere_0ge C0 hlt hth q0 _ rfl zk zg x deA de0 de1 de2 de3 de4 de5 m0 md oA liA chA ml mch xg h_x deAC deAF de0g h_de0 de1g h_de1 de2g h_de2 de3g h_de3 de4g h_de4 de5g h_de5 m0g h_m0 mdC oAC oAf h_oA h_deA0 h_deA1 h_deA2 h_deA3 h_deA4 h_deA5 H locs (hK.sub [0, 3, 6] rfl) (hP.sub [0, 1, 2, 3, 4, 5, 6, 7, 17, 18, 21] rfl) (hD.sub [0, 1, 2, 3, 4, 5, 6, 7, 17, 18, 21] (by decide) rfl) hS ls hl
    obtain ⟨i, hi, ei⟩ := hx_rng 6 zk zg (by decide)
    rcases (show i = 0 ∨ i = 1 ∨ i = 2 ∨ i = 3 ∨ i = 4 ∨ i = 5 by omega) with e8 | e8 | e8 | e8 | e8 | e8
    · exact law_isThere_0k0 C0 hlt hth q0 (ei.trans (by rw [e8]; decide +kernel)) x deA de0 de1 de2 de3 de4 de5 m0 md oA liA chA ml mch xg h_x deAC deAF de0g h_de0 de1g h_de1 de2g h_de2 de3g h_de3 de4g h_de4 de5g h_de5 m0g h_m0 mdC oAC oAf h_oA h_deA0 h_deA1 h_deA2 h_deA3 h_deA4 h_deA5 H locs (hK.sub [0, 3, 6] rfl) (hP.sub [0, 1, 2, 3, 4, 5, 6, 7, 17, 18, 21] rfl) (hD.sub [0, 1, 2, 3, 4, 5, 6, 7, 17, 18, 21] (by decide) rfl) hS ls hl
    · exact law_isThere_0k1 C0 hlt hth q0 (ei.trans (by rw [e8]; decide +kernel)) x deA de0 de1 de2 de3 de4 de5 m0 md oA liA chA ml mch xg h_x deAC deAF de0g h_de0 de1g h_de1 de2g h_de2 de3g h_de3 de4g h_de4 de5g h_de5 m0g h_m0 mdC oAC oAf h_oA h_deA0 h_deA1 h_deA2 h_deA3 h_deA4 h_deA5 H locs (hK.sub [0, 3, 6] rfl) (hP.sub [0, 1, 2, 3, 4, 5, 6, 7, 17, 18, 21] rfl) (hD.sub [0, 1, 2, 3, 4, 5, 6, 7, 17, 18, 21] (by decide) rfl) hS ls hl
    · exact law_isThere_0k2 C0 hlt hth q0 (ei.trans (by rw [e8]; decide +kernel)) x deA de0 de1 de2 de3 de4 de5 m0 md oA liA chA ml mch xg h_x deAC deAF de0g h_de0 de1g h_de1 de2g h_de2 de3g h_de3 de4g h_de4 de5g h_de5 m0g h_m0 mdC oAC oAf h_oA h_deA0 h_deA1 h_deA2 h_deA3 h_deA4 h_deA5 H locs (hK.sub [0, 3, 6] rfl) (hP.sub [0, 1, 2, 3, 4, 5, 6, 7, 17, 18, 21] rfl) (hD.sub [0, 1, 2, 3, 4, 5, 6, 7, 17, 18, 21] (by decide) rfl) hS ls hl
    · exact law_isThere_0k3 C0 hlt hth q0 (ei.trans (by rw [e8]; decide +kernel)) x deA de0 de1 de2 de3 de4 de5 m0 md oA liA chA ml mch xg h_x deAC deAF de0g h_de0 de1g h_de1 de2g h_de2 de3g h_de3 de4g h_de4 de5g h_de5 m0g h_m0 mdC oAC oAf h_oA h_deA0 h_deA1 h_deA2 h_deA3 h_deA4 h_deA5 H locs (hK.sub [0, 3, 6] rfl) (hP.sub [0, 1, 2, 3, 4, 5, 6, 7, 17, 18, 21] rfl) (hD.sub [0, 1, 2, 3, 4, 5, 6, 7, 17, 18, 21] (by decide) rfl) hS ls hl
    · exact law_isThere_0k4 C0 hlt hth q0 (ei.trans (by rw [e8]; decide +kernel)) x deA de0 de1 de2 de3 de4 de5 m0 md oA liA chA ml mch xg h_x deAC deAF de0g h_de0 de1g h_de1 de2g h_de2 de3g h_de3 de4g h_de4 de5g h_de5 m0g h_m0 mdC oAC oAf h_oA h_deA0 h_deA1 h_deA2 h_deA3 h_deA4 h_deA5 H locs (hK.sub [0, 3, 6] rfl) (hP.sub [0, 1, 2, 3, 4, 5, 6, 7, 17, 18, 21] rfl) (hD.sub [0, 1, 2, 3, 4, 5, 6, 7, 17, 18, 21] (by decide) rfl) hS ls hl
    · exact law_isThere_0k5 C0 hlt hth q0 (ei.trans (by rw [e8]; decide +kernel)) x deA de0 de1 de2 de3 de4 de5 m0 md oA liA chA ml mch xg h_x deAC deAF de0g h_de0 de1g h_de1 de2g h_de2 de3g h_de3 de4g h_de4 de5g h_de5 m0g h_m0 mdC oAC oAf h_oA h_deA0 h_deA1 h_deA2 h_deA3 h_deA4 h_deA5 H locs (hK.sub [0, 3, 6] rfl) (hP.sub [0, 1, 2, 3, 4, 5, 6, 7, 17, 18, 21] rfl) (hD.sub [0, 1, 2, 3, 4, 5, 6, 7, 17, 18, 21] (by decide) rfl) hS ls hl
  · have q0 : (xs ((0 : Int32) + 1).toNatClampNeg) = 1 := ej.trans (by rw [e9]; decide +kernel)
    rcases Decidable.em ((xs ((0 : Int32) + 2).toNatClampNeg) < 0) with zk | zk
    · exact law_isThere_1lt C0 hlt hth q0 _ rfl zk x liA li0 li1 li2 m0 ml oA deA chA md mch xg h_x liAC liAF li0g h_li0 li1g h_li1 li2g h_li2 m0g h_m0 mlC oAC oAf h_oA h_liA0 h_liA1 h_liA2 H locs (hK.sub [1, 4, 6] rfl) (hP.sub [0, 8, 9, 10, 11, 17, 19, 21] rfl) (hD.sub [0, 8, 9, 10, 11, 17, 19, 21] (by decide) rfl) hS ls hl
    rcases Decidable.em ((3 : Int32) ≤ (xs ((0 : Int32) + 2).toNatClampNeg)) with zg | zg
    · exact law_isThere_1ge C0 hlt hth q0 _ rfl zk zg x liA li0 li1 li2 m0 ml oA deA chA md mch xg h_x liAC liAF li0g h_li0 li1g h_li1 li2g h_li2 m0g h_m0 mlC oAC oAf h_oA h_liA0 h_liA1 h_liA2 H locs (hK.sub [1, 4, 6] rfl) (hP.sub [0, 8, 9, 10, 11, 17, 19, 21] rfl) (hD.sub [0, 8, 9, 10, 11, 17, 19, 21] (by decide) rfl) hS ls hl
    obtain ⟨i, hi, ei⟩ := hx_rng 3 zk zg (by decide)
    rcases (show i = 0 ∨ i = 1 ∨ i = 2 by omega) with e8 | e8 | e8
    · exact law_isThere_1k0 C0 hlt hth q0 (ei.trans (by rw [e8]; decide +kernel)) x liA li0 li1 li2 m0 ml oA deA chA md mch xg h_x liAC liAF li0g h_li0 li1g h_li1 li2g h_li2 m0g h_m0 mlC oAC oAf h_oA h_liA0 h_liA1 h_liA2 H locs (hK.sub [1, 4, 6] rfl) (hP.sub [0, 8, 9, 10, 11, 17, 19, 21] rfl) (hD.sub [0, 8, 9, 10, 11, 17, 19, 21] (by decide) rfl) hS ls hl
    · exact law_isThere_1k1 C0 hlt hth q0 (ei.trans (by rw [e8]; decide +kernel)) x liA li0 li1 li2 m0 ml oA deA chA md mch xg h_x liAC liAF li0g h_li0 li1g h_li1 li2g h_li2 m0g h_m0 mlC oAC oAf h_oA h_liA0 h_liA1 h_liA2 H locs (hK.sub [1, 4, 6] rfl) (hP.sub [0, 8, 9, 10, 11, 17, 19, 21] rfl) (hD.sub [0, 8, 9, 10, 11, 17, 19, 21] (by decide) rfl) hS ls hl
    · exact law_isThere_1k2 C0 hlt hth q0 (ei.trans (by rw [e8]; decide +kernel)) x liA li0 li1 li2 m0 ml oA deA chA md mch xg h_x liAC liAF li0g h_li0 li1g h_li1 li2g h_li2 m0g h_m0 mlC oAC oAf h_oA h_liA0 h_liA1 h_liA2 H locs (hK.sub [1, 4, 6] rfl) (hP.sub [0, 8, 9, 10, 11, 17, 19, 21] rfl) (hD.sub [0, 8, 9, 10, 11, 17, 19, 21] (by decide) rfl) hS ls hl
  · have q0 : (xs ((0 : Int32) + 1).toNatClampNeg) = 2 := ej.trans (by rw [e9]; decide +kernel)
    rcases Decidable.em ((xs ((0 : Int32) + 2).toNatClampNeg) < 0) with zk | zk
    · exact law_isThere_2lt C0 hlt hth q0 _ rfl zk x chA ch0 ch1 ch2 ch3 m0 mch oA deA liA md ml xg h_x chAC chAF ch0g h_ch0 ch1g h_ch1 ch2g h_ch2 ch3g h_ch3 m0g h_m0 mchC oAC oAf h_oA h_chA0 h_chA1 h_chA2 h_chA3 H locs (hK.sub [2, 5, 6] rfl) (hP.sub [0, 12, 13, 14, 15, 16, 17, 20, 21] rfl) (hD.sub [0, 12, 13, 14, 15, 16, 17, 20, 21] (by decide) rfl) hS ls hl
    rcases Decidable.em ((4 : Int32) ≤ (xs ((0 : Int32) + 2).toNatClampNeg)) with zg | zg
    · exact law_isThere_2ge C0 hlt hth q0 _ rfl zk zg x chA ch0 ch1 ch2 ch3 m0 mch oA deA liA md ml xg h_x chAC chAF ch0g h_ch0 ch1g h_ch1 ch2g h_ch2 ch3g h_ch3 m0g h_m0 mchC oAC oAf h_oA h_chA0 h_chA1 h_chA2 h_chA3 H locs (hK.sub [2, 5, 6] rfl) (hP.sub [0, 12, 13, 14, 15, 16, 17, 20, 21] rfl) (hD.sub [0, 12, 13, 14, 15, 16, 17, 20, 21] (by decide) rfl) hS ls hl
    obtain ⟨i, hi, ei⟩ := hx_rng 4 zk zg (by decide)
    rcases (show i = 0 ∨ i = 1 ∨ i = 2 ∨ i = 3 by omega) with e8 | e8 | e8 | e8
    · exact law_isThere_2k0 C0 hlt hth q0 (ei.trans (by rw [e8]; decide +kernel)) x chA ch0 ch1 ch2 ch3 m0 mch oA deA liA md ml xg h_x chAC chAF ch0g h_ch0 ch1g h_ch1 ch2g h_ch2 ch3g h_ch3 m0g h_m0 mchC oAC oAf h_oA h_chA0 h_chA1 h_chA2 h_chA3 H locs (hK.sub [2, 5, 6] rfl) (hP.sub [0, 12, 13, 14, 15, 16, 17, 20, 21] rfl) (hD.sub [0, 12, 13, 14, 15, 16, 17, 20, 21] (by decide) rfl) hS ls hl
    · exact law_isThere_2k1 C0 hlt hth q0 (ei.trans (by rw [e8]; decide +kernel)) x chA ch0 ch1 ch2 ch3 m0 mch oA deA liA md ml xg h_x chAC chAF ch0g h_ch0 ch1g h_ch1 ch2g h_ch2 ch3g h_ch3 m0g h_m0 mchC oAC oAf h_oA h_chA0 h_chA1 h_chA2 h_chA3 H locs (hK.sub [2, 5, 6] rfl) (hP.sub [0, 12, 13, 14, 15, 16, 17, 20, 21] rfl) (hD.sub [0, 12, 13, 14, 15, 16, 17, 20, 21] (by decide) rfl) hS ls hl
    · exact law_isThere_2k2 C0 hlt hth q0 (ei.trans (by rw [e8]; decide +kernel)) x chA ch0 ch1 ch2 ch3 m0 mch oA deA liA md ml xg h_x chAC chAF ch0g h_ch0 ch1g h_ch1 ch2g h_ch2 ch3g h_ch3 m0g h_m0 mchC oAC oAf h_oA h_chA0 h_chA1 h_chA2 h_chA3 H locs (hK.sub [2, 5, 6] rfl) (hP.sub [0, 12, 13, 14, 15, 16, 17, 20, 21] rfl) (hD.sub [0, 12, 13, 14, 15, 16, 17, 20, 21] (by decide) rfl) hS ls hl
    · exact law_isThere_2k3 C0 hlt hth q0 (ei.trans (by rw [e8]; decide +kernel)) x chA ch0 ch1 ch2 ch3 m0 mch oA deA liA md ml xg h_x chAC chAF ch0g h_ch0 ch1g h_ch1 ch2g h_ch2 ch3g h_ch3 m0g h_m0 mchC oAC oAf h_oA h_chA0 h_chA1 h_chA2 h_chA3 H locs (hK.sub [2, 5, 6] rfl) (hP.sub [0, 12, 13, 14, 15, 16, 17, 20, 21] rfl) (hD.sub [0, 12, 13, 14, 15, 16, 17, 20, 21] (by decide) rfl) hS ls hl
set_option maxHeartbeats 4000000 in
set_option maxRecDepth 100000 in
theorem law_design {p : Program} {l : Launch} {e : Env} {s : State} {m : MethodId} {below : List Frame} {meth : Method} {c : Code} {b : Nat} {xs : Nat → Int32} (C0 : lw_At p s m meth c b 7 xs) {dC : Nat → ClassId} {dI : Nat → Nat → Nat} (hlt : l.stackTraces = false) (hth : th (fun q : Nat => s.heap.size ≤ q) s s.heap) (x tx rd mcd mnm deA de0 de1 de2 de3 de4 de5 m0 mt msr mpl mnu md ml mch oA bt : Nat) (xg : List Value) (h_x : fx xg 17 [(0, .ref tx), (1, .ref rd), (7, .ref deA), (10, .int 0)]) (txg : List Value) (h_tx : fx txg 9 [(0, .ref bt), (1, .int 0), (2, .int 0), (3, .int 0), (4, .int 0), (6, .int 0), (7, .int 0), (8, .int 0)]) (rdg : List Value) (h_rd : fx rdg 18 [(0, .ref tx), (5, .ref mcd), (6, .ref mnm)]) (mcdC : ClassId) (mcdf : Nat → Int32) (h_mcd : fa mcdf []) (mnmC : ClassId) (mnmf : Nat → Int32) (h_mnm : fa mnmf []) (deAC : ClassId) (deAF : Nat → Option Nat) (de0g : List Value) (h_de0 : fx de0g 16 [(0, .int 0)]) (de1g : List Value) (h_de1 : fx de1g 16 [(0, .int 0)]) (de2g : List Value) (h_de2 : fx de2g 16 [(0, .int 0)]) (de3g : List Value) (h_de3 : fx de3g 16 [(0, .int 0)]) (de4g : List Value) (h_de4 : fx de4g 16 [(0, .int 0)]) (de5g : List Value) (h_de5 : fx de5g 16 [(0, .int 0)]) (m0g : List Value) (h_m0 : fx m0g 225 [(0, .int 0), (1, .ref mt), (2, .int 0), (3, .int 0), (4, .ref msr), (5, .ref mpl), (6, .ref mnu), (9, .int 0), (10, .int 0), (11, .int 0), (12, .int 0), (27, .int 0), (55, .ref md), (79, .int 0), (83, .int 0), (88, .ref ml), (95, .int 0), (138, .ref mch)]) (mtC : ClassId) (mtf : Nat → Int32) (h_mt : fa mtf []) (msrC : ClassId) (msrf : Nat → Int32) (h_msr : fa msrf [(0, 0)]) (mplC : ClassId) (mplf : Nat → Int32) (h_mpl : fa mplf [(0, 0)]) (mnuC : ClassId) (mnuf : Nat → Int32) (h_mnu : fa mnuf [(0, 0)]) (mdC : ClassId) (mdf : Nat → Int32) (h_md : fa mdf [(0, 0), (1, 0), (2, 0), (3, 0), (4, 0), (5, 0)]) (mlC : ClassId) (mlf : Nat → Int32) (h_ml : fa mlf [(0, 0), (1, 0), (2, 0)]) (mchC : ClassId) (mchf : Nat → Int32) (h_mch : fa mchf [(0, 0), (1, 0), (2, 0), (3, 0)]) (oAC : ClassId) (oAf : Nat → Int64) (h_oA : fa oAf []) (h_deA0 : deAF 0 = some de0) (h_deA1 : deAF 1 = some de1) (h_deA2 : deAF 2 = some de2) (h_deA3 : deAF 3 = some de3) (h_deA4 : deAF 4 = some de4) (h_deA5 : deAF 5 = some de5) (H : Heap) (locs : List Loc) (hK : va_K (dC, dI) CL [(mcdC, .int), (mnmC, .int), (deAC, .object "ChipFlow$Design"), (mtC, .byte), (msrC, .byte), (mplC, .int), (mnuC, .int), (mdC, .boolean), (mlC, .boolean), (mchC, .boolean), (oAC, .long)] s) (hP : va_P (dC, dI) CL [(x, .inr (12, xg)), (tx, .inr (10, txg)), (rd, .inr (7, rdg)), (mcd, .inl (mcdC, (17, .inl mcdf))), (mnm, .inl (mnmC, (17, .inl mnmf))), (deA, .inl (deAC, (6, .inr (.inr (.inr (.inr deAF)))))), (de0, .inr (3, de0g)), (de1, .inr (3, de1g)), (de2, .inr (3, de2g)), (de3, .inr (3, de3g)), (de4, .inr (3, de4g)), (de5, .inr (3, de5g)), (m0, .inr (13, m0g)), (mt, .inl (mtC, (65536, .inl mtf))), (msr, .inl (msrC, (65537, .inl msrf))), (mpl, .inl (mplC, (65537, .inl mplf))), (mnu, .inl (mnuC, (65537, .inl mnuf))), (md, .inl (mdC, (6, .inl mdf))), (ml, .inl (mlC, (3, .inl mlf))), (mch, .inl (mchC, (4, .inl mchf))), (oA, .inl (oAC, (1, .inr (.inl oAf))))] H) (hD : va_D (fun q : Nat => s.heap.size ≤ q) [(x, .inr (12, xg)), (tx, .inr (10, txg)), (rd, .inr (7, rdg)), (mcd, .inl (mcdC, (17, .inl mcdf))), (mnm, .inl (mnmC, (17, .inl mnmf))), (deA, .inl (deAC, (6, .inr (.inr (.inr (.inr deAF)))))), (de0, .inr (3, de0g)), (de1, .inr (3, de1g)), (de2, .inr (3, de2g)), (de3, .inr (3, de3g)), (de4, .inr (3, de4g)), (de5, .inr (3, de5g)), (m0, .inr (13, m0g)), (mt, .inl (mtC, (65536, .inl mtf))), (msr, .inl (msrC, (65537, .inl msrf))), (mpl, .inl (mplC, (65537, .inl mplf))), (mnu, .inl (mnuC, (65537, .inl mnuf))), (md, .inl (mdC, (6, .inl mdf))), (ml, .inl (mlC, (3, .inl mlf))), (mch, .inl (mchC, (4, .inl mchf))), (oA, .inl (oAC, (1, .inr (.inl oAf))))]) (hS : va_S (fun q : Nat => s.heap.size ≤ q) s.heap H locs) (ls : Array Slot) (hl : lv_has ls 7 [(0, .ref b), (1, .ref x), (2, .ref m0), (3, .ref oA), (4, .int 0)]) : W p l e room_1 s m #[Value.ref b] below meth c H locs 451 2709142 (lw_Z below #[Value.ref b] s) (F0 m 412 ls []) := by
  obtain ⟨hx, hb, hr, hml, hown, hts0, hX, hbl, hlocks, hgv⟩ := id C0
  have hts : ∀ w ∈ BG, w.before _ s = true := fun w h => hts0 w (List.mem_filter.mp h).1
  have hown : s.vm.findClass RL = some m.cls := hown
  obtain ⟨A, eA⟩ : ∃ z : Nat → Prop, z = (fun q : Nat => s.heap.size ≤ q) := ⟨_, rfl⟩
  rw [← eA] at hth hD hS
  have hA : ∀ q : Nat, s.heap.size ≤ q → A q := fun q h => by rw [eA]; exact h
  have hbA : ¬ A b := by rw [eA]; exact Nat.not_le.mpr hbl
  refine lv_aload_n hx hb dL_law_412 rfl (lv_at hl 1 rfl) ?_
  refine lv_aload_n hx hb dL_law_413 rfl (lv_at hl 3 rfl) ?_
  have hPc := hP.sub (ws' := [(x, .inr (12, xg)), (tx, .inr (10, txg)), (rd, .inr (7, rdg)), (mcd, .inl (mcdC, (17, .inl mcdf))), (mnm, .inl (mnmC, (17, .inl mnmf))), (deA, .inl (deAC, (6, .inr (.inr (.inr (.inr deAF)))))), (de0, .inr (3, de0g)), (de1, .inr (3, de1g)), (de2, .inr (3, de2g)), (de3, .inr (3, de3g)), (de4, .inr (3, de4g)), (de5, .inr (3, de5g)), (oA, .inl (oAC, (1, .inr (.inl oAf))))]) [0, 1, 2, 3, 4, 5, 6, 7, 8, 9, 10, 11, 20] rfl
  have hDc := hD.sub (ws' := [(x, .inr (12, xg)), (tx, .inr (10, txg)), (rd, .inr (7, rdg)), (mcd, .inl (mcdC, (17, .inl mcdf))), (mnm, .inl (mnmC, (17, .inl mnmf))), (deA, .inl (deAC, (6, .inr (.inr (.inr (.inr deAF)))))), (de0, .inr (3, de0g)), (de1, .inr (3, de1g)), (de2, .inr (3, de2g)), (de3, .inr (3, de3g)), (de4, .inr (3, de4g)), (de5, .inr (3, de5g)), (oA, .inl (oAC, (1, .inr (.inl oAf))))]) [0, 1, 2, 3, 4, 5, 6, 7, 8, 9, 10, 11, 20] (by decide) rfl
  have hKc := hK.sub (tys' := [(mcdC, .int), (mnmC, .int), (deAC, .object "ChipFlow$Design"), (oAC, .long)]) [0, 1, 2, 10] rfl
  have hFc := va_free (wc := [(x, .inr (12, xg)), (tx, .inr (10, txg)), (rd, .inr (7, rdg)), (mcd, .inl (mcdC, (17, .inl mcdf))), (mnm, .inl (mnmC, (17, .inl mnmf))), (deA, .inl (deAC, (6, .inr (.inr (.inr (.inr deAF)))))), (de0, .inr (3, de0g)), (de1, .inr (3, de1g)), (de2, .inr (3, de2g)), (de3, .inr (3, de3g)), (de4, .inr (3, de4g)), (de5, .inr (3, de5g)), (oA, .inl (oAC, (1, .inr (.inl oAf))))]) hD hS hA [0, 1, 2, 3, 4, 5, 6, 7, 8, 9, 10, 11, 20] rfl
  refine va_calli (vx_runSW (As := [.ref x, .ref oA]) (rest := []) ⟨hx, hb, hml, hown, hts⟩ (gx144_L_design l hlt dC dI _ x tx rd mcd mnm deA de0 de1 de2 de3 de4 de5 oA bt xg h_x txg h_tx rdg h_rd mcdC mcdf h_mcd mnmC mnmf h_mnm deAC deAF de0g h_de0 de1g h_de1 de2g h_de2 de3g h_de3 de4g h_de4 de5g h_de5 oAC oAf h_oA h_deA0 h_deA1 h_deA2 h_deA3 h_deA4 h_deA5) (vx_cwSW 2 hts (gi_W wd_1346 wd_1347 wd_326 wd_1348) rfl rfl rfl (by decide +kernel) ⟨(Nat.le_of_ble_eq_true rfl), (Nat.le_of_ble_eq_true rfl)⟩) ⟨fun a U g mk q => by obtain ⟨q0, q1, qP, qK, qD, qT⟩ := q; exact ⟨q0, q1, qP, va_K.moved (u := U) (U := U.calling g mk a) (Vm.Alike.refl U.vm) qK, qD, th.moved (u := U) (U := U.calling g mk a) (Vm.Alike.refl U.vm) qT⟩, fun U hU hW => ⟨rfl, by rw [hU], by rw [hU]; exact hPc, va_K.moved hW.alike hKc, hDc.weaken (fun _ _ _ _ => trivial), by rw [hU]; exact ((hth.kept hS.2.1).narrow hFc).moved hW.alike⟩⟩ rfl rfl hl.1 rfl (lv_room (Nat.le_of_ble_eq_true rfl)) dL_law_414 ⟨(Nat.le_of_ble_eq_true rfl), (Nat.le_of_ble_eq_true rfl)⟩) hS (fun q _ h => hFc q h) hFc (fun r u t H1 locs ht hvm hw hB hz1 hk1 hS => ?_)
  subst hw
  obtain ⟨fs_1, fs_2, fs_3, f_4, f_5, fs_6, fs_7, fs_8, fs_9, fs_10, fs_11, f_12, h_x, h_tx, h_rd, h_mcd, h_mnm, h_de0, h_de1, h_de2, h_de3, h_de4, h_de5, h_oA, hP1, hK1, hD1⟩ := hB
  rw [ht] at hP1
  obtain ⟨hP, hD⟩ := va_join (wr := [(m0, .inr (13, m0g)), (mt, .inl (mtC, (65536, .inl mtf))), (msr, .inl (msrC, (65537, .inl msrf))), (mpl, .inl (mplC, (65537, .inl mplf))), (mnu, .inl (mnuC, (65537, .inl mnuf))), (md, .inl (mdC, (6, .inl mdf))), (ml, .inl (mlC, (3, .inl mlf))), (mch, .inl (mchC, (4, .inl mchf)))]) (w1 := [(x, .inr (12, fs_1)), (tx, .inr (10, fs_2)), (rd, .inr (7, fs_3)), (mcd, .inl (mcdC, (17, .inl f_4))), (mnm, .inl (mnmC, (17, .inl f_5))), (deA, .inl (deAC, (6, .inr (.inr (.inr (.inr deAF)))))), (de0, .inr (3, fs_6)), (de1, .inr (3, fs_7)), (de2, .inr (3, fs_8)), (de3, .inr (3, fs_9)), (de4, .inr (3, fs_10)), (de5, .inr (3, fs_11)), (oA, .inl (oAC, (1, .inr (.inl f_12))))]) hP hD [0, 1, 2, 3, 4, 5, 6, 7, 8, 9, 10, 11, 20] [12, 13, 14, 15, 16, 17, 18, 19] rfl rfl (by decide) (by decide) hk1 hFc hP1 hD1
  have hP := hP.sub (ws' := [(x, .inr (12, fs_1)), (tx, .inr (10, fs_2)), (rd, .inr (7, fs_3)), (mcd, .inl (mcdC, (17, .inl f_4))), (mnm, .inl (mnmC, (17, .inl f_5))), (deA, .inl (deAC, (6, .inr (.inr (.inr (.inr deAF)))))), (de0, .inr (3, fs_6)), (de1, .inr (3, fs_7)), (de2, .inr (3, fs_8)), (de3, .inr (3, fs_9)), (de4, .inr (3, fs_10)), (de5, .inr (3, fs_11)), (m0, .inr (13, m0g)), (mt, .inl (mtC, (65536, .inl mtf))), (msr, .inl (msrC, (65537, .inl msrf))), (mpl, .inl (mplC, (65537, .inl mplf))), (mnu, .inl (mnuC, (65537, .inl mnuf))), (md, .inl (mdC, (6, .inl mdf))), (ml, .inl (mlC, (3, .inl mlf))), (mch, .inl (mchC, (4, .inl mchf))), (oA, .inl (oAC, (1, .inr (.inl f_12))))]) [8, 9, 10, 11, 12, 13, 14, 15, 16, 17, 18, 19, 0, 1, 2, 3, 4, 5, 6, 7, 20] rfl
  have hD := hD.sub (ws' := [(x, .inr (12, fs_1)), (tx, .inr (10, fs_2)), (rd, .inr (7, fs_3)), (mcd, .inl (mcdC, (17, .inl f_4))), (mnm, .inl (mnmC, (17, .inl f_5))), (deA, .inl (deAC, (6, .inr (.inr (.inr (.inr deAF)))))), (de0, .inr (3, fs_6)), (de1, .inr (3, fs_7)), (de2, .inr (3, fs_8)), (de3, .inr (3, fs_9)), (de4, .inr (3, fs_10)), (de5, .inr (3, fs_11)), (m0, .inr (13, m0g)), (mt, .inl (mtC, (65536, .inl mtf))), (msr, .inl (msrC, (65537, .inl msrf))), (mpl, .inl (mplC, (65537, .inl mplf))), (mnu, .inl (mnuC, (65537, .inl mnuf))), (md, .inl (mdC, (6, .inl mdf))), (ml, .inl (mlC, (3, .inl mlf))), (mch, .inl (mchC, (4, .inl mchf))), (oA, .inl (oAC, (1, .inr (.inl f_12))))]) [8, 9, 10, 11, 12, 13, 14, 15, 16, 17, 18, 19, 0, 1, 2, 3, 4, 5, 6, 7, 20] (by decide) rfl
  generalize H1 = H at hP hS ⊢
  have hP : va_P (dC, dI) CL [(x, .inr (12, fs_1)), (tx, .inr (10, fs_2)), (rd, .inr (7, fs_3)), (mcd, .inl (mcdC, (17, .inl f_4))), (mnm, .inl (mnmC, (17, .inl f_5))), (deA, .inl (deAC, (6, .inr (.inr (.inr (.inr deAF)))))), (de0, .inr (3, fs_6)), (de1, .inr (3, fs_7)), (de2, .inr (3, fs_8)), (de3, .inr (3, fs_9)), (de4, .inr (3, fs_10)), (de5, .inr (3, fs_11)), (m0, .inr (13, m0g)), (mt, .inl (mtC, (65536, .inl mtf))), (msr, .inl (msrC, (65537, .inl msrf))), (mpl, .inl (mplC, (65537, .inl mplf))), (mnu, .inl (mnuC, (65537, .inl mnuf))), (md, .inl (mdC, (6, .inl mdf))), (ml, .inl (mlC, (3, .inl mlf))), (mch, .inl (mchC, (4, .inl mchf))), (oA, .inl (oAC, (1, .inr (.inl f_12))))] H := hP
  have hD : va_D A [(x, .inr (12, fs_1)), (tx, .inr (10, fs_2)), (rd, .inr (7, fs_3)), (mcd, .inl (mcdC, (17, .inl f_4))), (mnm, .inl (mnmC, (17, .inl f_5))), (deA, .inl (deAC, (6, .inr (.inr (.inr (.inr deAF)))))), (de0, .inr (3, fs_6)), (de1, .inr (3, fs_7)), (de2, .inr (3, fs_8)), (de3, .inr (3, fs_9)), (de4, .inr (3, fs_10)), (de5, .inr (3, fs_11)), (m0, .inr (13, m0g)), (mt, .inl (mtC, (65536, .inl mtf))), (msr, .inl (msrC, (65537, .inl msrf))), (mpl, .inl (mplC, (65537, .inl mplf))), (mnu, .inl (mnuC, (65537, .inl mnuf))), (md, .inl (mdC, (6, .inl mdf))), (ml, .inl (mlC, (3, .inl mlf))), (mch, .inl (mchC, (4, .inl mchf))), (oA, .inl (oAC, (1, .inr (.inl f_12))))] := hD
  refine W.widen (k := 453) (n := 2709154) (Nat.le_of_ble_eq_true rfl) (Nat.le_of_ble_eq_true rfl) ?_
  refine lv_istore (lv' := [(5, .int 0), (0, .ref b), (1, .ref x), (2, .ref m0), (3, .ref oA), (4, .int 0)]) hx hb dL_law_417 hl (by decide) rfl (fun ls hl => ?_)
  refine lv_aload_n hx hb dL_law_419 rfl (lv_at hl 3 rfl) ?_
  have hPc := hP.sub (ws' := [(m0, .inr (13, m0g)), (mt, .inl (mtC, (65536, .inl mtf))), (msr, .inl (msrC, (65537, .inl msrf))), (mpl, .inl (mplC, (65537, .inl mplf))), (mnu, .inl (mnuC, (65537, .inl mnuf))), (md, .inl (mdC, (6, .inl mdf))), (ml, .inl (mlC, (3, .inl mlf))), (mch, .inl (mchC, (4, .inl mchf)))]) [12, 13, 14, 15, 16, 17, 18, 19] rfl
  have hDc := hD.sub (ws' := [(m0, .inr (13, m0g)), (mt, .inl (mtC, (65536, .inl mtf))), (msr, .inl (msrC, (65537, .inl msrf))), (mpl, .inl (mplC, (65537, .inl mplf))), (mnu, .inl (mnuC, (65537, .inl mnuf))), (md, .inl (mdC, (6, .inl mdf))), (ml, .inl (mlC, (3, .inl mlf))), (mch, .inl (mchC, (4, .inl mchf)))]) [12, 13, 14, 15, 16, 17, 18, 19] (by decide) rfl
  have hKc := hK.sub (tys' := [(mtC, .byte), (msrC, .byte), (mplC, .int), (mnuC, .int), (mdC, .boolean), (mlC, .boolean), (mchC, .boolean)]) [3, 4, 5, 6, 7, 8, 9] rfl
  have hFc := va_free (wc := [(m0, .inr (13, m0g)), (mt, .inl (mtC, (65536, .inl mtf))), (msr, .inl (msrC, (65537, .inl msrf))), (mpl, .inl (mplC, (65537, .inl mplf))), (mnu, .inl (mnuC, (65537, .inl mnuf))), (md, .inl (mdC, (6, .inl mdf))), (ml, .inl (mlC, (3, .inl mlf))), (mch, .inl (mchC, (4, .inl mchf)))]) hD hS hA [12, 13, 14, 15, 16, 17, 18, 19] rfl
  refine va_calli (va_runV (As := []) (rest := []) ⟨hx, hb, hml, hown, hts⟩ (gx154_X13_design l hlt dC dI _ m0 mt msr mpl mnu md ml mch m0g h_m0 mtC mtf h_mt msrC msrf h_msr mplC mplf h_mpl mnuC mnuf h_mnu mdC mdf h_md mlC mlf h_ml mchC mchf h_mch) (cwV 0 hts (gi_V wd_3720 wd_3721 wd_3722 wd_340 wd_3723) rfl rfl rfl (by decide +kernel) ⟨(Nat.le_of_ble_eq_true rfl), (Nat.le_of_ble_eq_true rfl)⟩) ⟨fun a U g mk q => by obtain ⟨q0, q1, qP, qK, qD, qT⟩ := q; exact ⟨q0, q1, qP, va_K.moved (u := U) (U := U.calling g mk a) (Vm.Alike.refl U.vm) qK, qD, th.moved (u := U) (U := U.calling g mk a) (Vm.Alike.refl U.vm) qT⟩, va_recv hKc hPc (ci := 13) (q0 := 0) rfl rfl, fun U hU hW => ⟨rfl, by rw [hU], by rw [hU]; exact hPc, va_K.moved hW.alike hKc, hDc.weaken (fun _ _ _ _ => trivial), by rw [hU]; exact ((hth.kept hS.2.1).narrow hFc).moved hW.alike⟩⟩ rfl rfl hl.1 rfl (lv_room (Nat.le_of_ble_eq_true rfl)) dL_law_420 ⟨(Nat.le_of_ble_eq_true rfl), (Nat.le_of_ble_eq_true rfl)⟩) hS (fun q _ h => hFc q h) hFc (fun r u t H1 locs ht hvm hw hB hz1 hk1 hS => ?_)
  subst hw
  obtain ⟨fs_13, f_14, f_15, f_16, f_17, f_18, f_19, f_20, h_m0, h_mt, h_msr, h_mpl, h_mnu, h_md, h_ml, h_mch, hP1, hK1, hD1⟩ := hB
  rw [ht] at hP1
  obtain ⟨hP, hD⟩ := va_join (wr := [(x, .inr (12, fs_1)), (tx, .inr (10, fs_2)), (rd, .inr (7, fs_3)), (mcd, .inl (mcdC, (17, .inl f_4))), (mnm, .inl (mnmC, (17, .inl f_5))), (deA, .inl (deAC, (6, .inr (.inr (.inr (.inr deAF)))))), (de0, .inr (3, fs_6)), (de1, .inr (3, fs_7)), (de2, .inr (3, fs_8)), (de3, .inr (3, fs_9)), (de4, .inr (3, fs_10)), (de5, .inr (3, fs_11)), (oA, .inl (oAC, (1, .inr (.inl f_12))))]) (w1 := [(m0, .inr (13, fs_13)), (mt, .inl (mtC, (65536, .inl f_14))), (msr, .inl (msrC, (65537, .inl f_15))), (mpl, .inl (mplC, (65537, .inl f_16))), (mnu, .inl (mnuC, (65537, .inl f_17))), (md, .inl (mdC, (6, .inl f_18))), (ml, .inl (mlC, (3, .inl f_19))), (mch, .inl (mchC, (4, .inl f_20)))]) hP hD [12, 13, 14, 15, 16, 17, 18, 19] [0, 1, 2, 3, 4, 5, 6, 7, 8, 9, 10, 11, 20] rfl rfl (by decide) (by decide) hk1 hFc hP1 hD1
  have hP := hP.sub (ws' := [(x, .inr (12, fs_1)), (tx, .inr (10, fs_2)), (rd, .inr (7, fs_3)), (mcd, .inl (mcdC, (17, .inl f_4))), (mnm, .inl (mnmC, (17, .inl f_5))), (deA, .inl (deAC, (6, .inr (.inr (.inr (.inr deAF)))))), (de0, .inr (3, fs_6)), (de1, .inr (3, fs_7)), (de2, .inr (3, fs_8)), (de3, .inr (3, fs_9)), (de4, .inr (3, fs_10)), (de5, .inr (3, fs_11)), (m0, .inr (13, fs_13)), (mt, .inl (mtC, (65536, .inl f_14))), (msr, .inl (msrC, (65537, .inl f_15))), (mpl, .inl (mplC, (65537, .inl f_16))), (mnu, .inl (mnuC, (65537, .inl f_17))), (md, .inl (mdC, (6, .inl f_18))), (ml, .inl (mlC, (3, .inl f_19))), (mch, .inl (mchC, (4, .inl f_20))), (oA, .inl (oAC, (1, .inr (.inl f_12))))]) [0, 1, 2, 3, 4, 5, 6, 7, 8, 9, 10, 11, 13, 14, 15, 16, 17, 18, 19, 20, 12] rfl
  have hD := hD.sub (ws' := [(x, .inr (12, fs_1)), (tx, .inr (10, fs_2)), (rd, .inr (7, fs_3)), (mcd, .inl (mcdC, (17, .inl f_4))), (mnm, .inl (mnmC, (17, .inl f_5))), (deA, .inl (deAC, (6, .inr (.inr (.inr (.inr deAF)))))), (de0, .inr (3, fs_6)), (de1, .inr (3, fs_7)), (de2, .inr (3, fs_8)), (de3, .inr (3, fs_9)), (de4, .inr (3, fs_10)), (de5, .inr (3, fs_11)), (m0, .inr (13, fs_13)), (mt, .inl (mtC, (65536, .inl f_14))), (msr, .inl (msrC, (65537, .inl f_15))), (mpl, .inl (mplC, (65537, .inl f_16))), (mnu, .inl (mnuC, (65537, .inl f_17))), (md, .inl (mdC, (6, .inl f_18))), (ml, .inl (mlC, (3, .inl f_19))), (mch, .inl (mchC, (4, .inl f_20))), (oA, .inl (oAC, (1, .inr (.inl f_12))))]) [0, 1, 2, 3, 4, 5, 6, 7, 8, 9, 10, 11, 13, 14, 15, 16, 17, 18, 19, 20, 12] (by decide) rfl
  generalize H1 = H at hP hS ⊢
  have hP : va_P (dC, dI) CL [(x, .inr (12, fs_1)), (tx, .inr (10, fs_2)), (rd, .inr (7, fs_3)), (mcd, .inl (mcdC, (17, .inl f_4))), (mnm, .inl (mnmC, (17, .inl f_5))), (deA, .inl (deAC, (6, .inr (.inr (.inr (.inr deAF)))))), (de0, .inr (3, fs_6)), (de1, .inr (3, fs_7)), (de2, .inr (3, fs_8)), (de3, .inr (3, fs_9)), (de4, .inr (3, fs_10)), (de5, .inr (3, fs_11)), (m0, .inr (13, fs_13)), (mt, .inl (mtC, (65536, .inl f_14))), (msr, .inl (msrC, (65537, .inl f_15))), (mpl, .inl (mplC, (65537, .inl f_16))), (mnu, .inl (mnuC, (65537, .inl f_17))), (md, .inl (mdC, (6, .inl f_18))), (ml, .inl (mlC, (3, .inl f_19))), (mch, .inl (mchC, (4, .inl f_20))), (oA, .inl (oAC, (1, .inr (.inl f_12))))] H := hP
  have hD : va_D A [(x, .inr (12, fs_1)), (tx, .inr (10, fs_2)), (rd, .inr (7, fs_3)), (mcd, .inl (mcdC, (17, .inl f_4))), (mnm, .inl (mnmC, (17, .inl f_5))), (deA, .inl (deAC, (6, .inr (.inr (.inr (.inr deAF)))))), (de0, .inr (3, fs_6)), (de1, .inr (3, fs_7)), (de2, .inr (3, fs_8)), (de3, .inr (3, fs_9)), (de4, .inr (3, fs_10)), (de5, .inr (3, fs_11)), (m0, .inr (13, fs_13)), (mt, .inl (mtC, (65536, .inl f_14))), (msr, .inl (msrC, (65537, .inl f_15))), (mpl, .inl (mplC, (65537, .inl f_16))), (mnu, .inl (mnuC, (65537, .inl f_17))), (md, .inl (mdC, (6, .inl f_18))), (ml, .inl (mlC, (3, .inl f_19))), (mch, .inl (mchC, (4, .inl f_20))), (oA, .inl (oAC, (1, .inr (.inl f_12))))] := hD
  refine lv_istore (lv' := [(6, .int (-1)), (5, .int 0), (0, .ref b), (1, .ref x), (2, .ref m0), (3, .ref oA), (4, .int 0)]) hx hb dL_law_423 hl (by decide) rfl (fun ls hl => ?_)
  refine lv_aload_n hx hb dL_law_425 rfl (lv_at hl 4 rfl) ?_
  have hPc := hP.sub (ws' := [(m0, .inr (13, fs_13))]) [12] rfl
  have hDc := hD.sub (ws' := [(m0, .inr (13, fs_13))]) [12] (by decide) rfl
  have hKc := hK.sub (tys' := []) [] rfl
  have hFc := va_free (wc := [(m0, .inr (13, fs_13))]) hD hS hA [12] rfl
  refine va_calli (va_runV (As := []) (rest := []) ⟨hx, hb, hml, hown, hts⟩ (gx177_X13_thrown l hlt dC dI _ m0 mt msr mpl mnu md ml mch fs_13 h_m0) (cwV 0 hts (gi_V wd_3015 wd_3016 wd_3017 wd_340 wd_3018) rfl rfl rfl (by decide +kernel) ⟨(Nat.le_of_ble_eq_true rfl), (Nat.le_of_ble_eq_true rfl)⟩) ⟨fun a U g mk q => by obtain ⟨q0, q1, qP, qK, qD, qT⟩ := q; exact ⟨q0, q1, qP, va_K.moved (u := U) (U := U.calling g mk a) (Vm.Alike.refl U.vm) qK, qD, th.moved (u := U) (U := U.calling g mk a) (Vm.Alike.refl U.vm) qT⟩, va_recv hKc hPc (ci := 13) (q0 := 0) rfl rfl, fun U hU hW => ⟨rfl, by rw [hU], by rw [hU]; exact hPc, va_K.moved hW.alike hKc, hDc.weaken (fun _ _ _ _ => trivial), by rw [hU]; exact ((hth.kept hS.2.1).narrow hFc).moved hW.alike⟩⟩ rfl rfl hl.1 rfl (lv_room (Nat.le_of_ble_eq_true rfl)) dL_law_426 ⟨(Nat.le_of_ble_eq_true rfl), (Nat.le_of_ble_eq_true rfl)⟩) hS (fun q _ h => hFc q h) hFc (fun r u t H1 locs ht hvm hw hB hz1 hk1 hS => ?_)
  subst hw
  obtain ⟨fs_21, h_m0, hP1, hK1, hD1⟩ := hB
  rw [ht] at hP1
  obtain ⟨hP, hD⟩ := va_join (wr := [(x, .inr (12, fs_1)), (tx, .inr (10, fs_2)), (rd, .inr (7, fs_3)), (mcd, .inl (mcdC, (17, .inl f_4))), (mnm, .inl (mnmC, (17, .inl f_5))), (deA, .inl (deAC, (6, .inr (.inr (.inr (.inr deAF)))))), (de0, .inr (3, fs_6)), (de1, .inr (3, fs_7)), (de2, .inr (3, fs_8)), (de3, .inr (3, fs_9)), (de4, .inr (3, fs_10)), (de5, .inr (3, fs_11)), (mt, .inl (mtC, (65536, .inl f_14))), (msr, .inl (msrC, (65537, .inl f_15))), (mpl, .inl (mplC, (65537, .inl f_16))), (mnu, .inl (mnuC, (65537, .inl f_17))), (md, .inl (mdC, (6, .inl f_18))), (ml, .inl (mlC, (3, .inl f_19))), (mch, .inl (mchC, (4, .inl f_20))), (oA, .inl (oAC, (1, .inr (.inl f_12))))]) (w1 := [(m0, .inr (13, fs_21))]) hP hD [12] [0, 1, 2, 3, 4, 5, 6, 7, 8, 9, 10, 11, 13, 14, 15, 16, 17, 18, 19, 20] rfl rfl (by decide) (by decide) hk1 hFc hP1 hD1
  have hP := hP.sub (ws' := [(x, .inr (12, fs_1)), (tx, .inr (10, fs_2)), (rd, .inr (7, fs_3)), (mcd, .inl (mcdC, (17, .inl f_4))), (mnm, .inl (mnmC, (17, .inl f_5))), (deA, .inl (deAC, (6, .inr (.inr (.inr (.inr deAF)))))), (de0, .inr (3, fs_6)), (de1, .inr (3, fs_7)), (de2, .inr (3, fs_8)), (de3, .inr (3, fs_9)), (de4, .inr (3, fs_10)), (de5, .inr (3, fs_11)), (m0, .inr (13, fs_21)), (mt, .inl (mtC, (65536, .inl f_14))), (msr, .inl (msrC, (65537, .inl f_15))), (mpl, .inl (mplC, (65537, .inl f_16))), (mnu, .inl (mnuC, (65537, .inl f_17))), (md, .inl (mdC, (6, .inl f_18))), (ml, .inl (mlC, (3, .inl f_19))), (mch, .inl (mchC, (4, .inl f_20))), (oA, .inl (oAC, (1, .inr (.inl f_12))))]) [0, 1, 2, 3, 4, 5, 6, 7, 8, 9, 10, 11, 20, 12, 13, 14, 15, 16, 17, 18, 19] rfl
  have hD := hD.sub (ws' := [(x, .inr (12, fs_1)), (tx, .inr (10, fs_2)), (rd, .inr (7, fs_3)), (mcd, .inl (mcdC, (17, .inl f_4))), (mnm, .inl (mnmC, (17, .inl f_5))), (deA, .inl (deAC, (6, .inr (.inr (.inr (.inr deAF)))))), (de0, .inr (3, fs_6)), (de1, .inr (3, fs_7)), (de2, .inr (3, fs_8)), (de3, .inr (3, fs_9)), (de4, .inr (3, fs_10)), (de5, .inr (3, fs_11)), (m0, .inr (13, fs_21)), (mt, .inl (mtC, (65536, .inl f_14))), (msr, .inl (msrC, (65537, .inl f_15))), (mpl, .inl (mplC, (65537, .inl f_16))), (mnu, .inl (mnuC, (65537, .inl f_17))), (md, .inl (mdC, (6, .inl f_18))), (ml, .inl (mlC, (3, .inl f_19))), (mch, .inl (mchC, (4, .inl f_20))), (oA, .inl (oAC, (1, .inr (.inl f_12))))]) [0, 1, 2, 3, 4, 5, 6, 7, 8, 9, 10, 11, 20, 12, 13, 14, 15, 16, 17, 18, 19] (by decide) rfl
  generalize H1 = H at hP hS ⊢
  have hP : va_P (dC, dI) CL [(x, .inr (12, fs_1)), (tx, .inr (10, fs_2)), (rd, .inr (7, fs_3)), (mcd, .inl (mcdC, (17, .inl f_4))), (mnm, .inl (mnmC, (17, .inl f_5))), (deA, .inl (deAC, (6, .inr (.inr (.inr (.inr deAF)))))), (de0, .inr (3, fs_6)), (de1, .inr (3, fs_7)), (de2, .inr (3, fs_8)), (de3, .inr (3, fs_9)), (de4, .inr (3, fs_10)), (de5, .inr (3, fs_11)), (m0, .inr (13, fs_21)), (mt, .inl (mtC, (65536, .inl f_14))), (msr, .inl (msrC, (65537, .inl f_15))), (mpl, .inl (mplC, (65537, .inl f_16))), (mnu, .inl (mnuC, (65537, .inl f_17))), (md, .inl (mdC, (6, .inl f_18))), (ml, .inl (mlC, (3, .inl f_19))), (mch, .inl (mchC, (4, .inl f_20))), (oA, .inl (oAC, (1, .inr (.inl f_12))))] H := hP
  have hD : va_D A [(x, .inr (12, fs_1)), (tx, .inr (10, fs_2)), (rd, .inr (7, fs_3)), (mcd, .inl (mcdC, (17, .inl f_4))), (mnm, .inl (mnmC, (17, .inl f_5))), (deA, .inl (deAC, (6, .inr (.inr (.inr (.inr deAF)))))), (de0, .inr (3, fs_6)), (de1, .inr (3, fs_7)), (de2, .inr (3, fs_8)), (de3, .inr (3, fs_9)), (de4, .inr (3, fs_10)), (de5, .inr (3, fs_11)), (m0, .inr (13, fs_21)), (mt, .inl (mtC, (65536, .inl f_14))), (msr, .inl (msrC, (65537, .inl f_15))), (mpl, .inl (mplC, (65537, .inl f_16))), (mnu, .inl (mnuC, (65537, .inl f_17))), (md, .inl (mdC, (6, .inl f_18))), (ml, .inl (mlC, (3, .inl f_19))), (mch, .inl (mchC, (4, .inl f_20))), (oA, .inl (oAC, (1, .inr (.inl f_12))))] := hD
  refine lv_iload hx hb dL_law_429 (lv_at hl 1 rfl) ?_
  refine lv_icmp_eq (tgt := 436) hx hb dL_law_431 (by decide) (fun c9 => ?_) (fun c9 => ?_)
  rotate_left
  · first | exact absurd c9 (by decide +kernel) | exact absurd (by decide +kernel) c9
  refine lv_iload hx hb dL_law_436 (lv_at hl 1 rfl) ?_
  refine lv_if_ne (tgt := 453) hx hb dL_law_438 (by decide) (fun c9 => ?_) (fun c9 => ?_)
  · first | exact absurd c9 (by decide +kernel) | exact absurd (by decide +kernel) c9
  refine lv_aload_n hx hb dL_law_441 rfl (lv_at hl 5 rfl) ?_
  refine lv_iconst (v := 0) hx hb dL_law_442 (by decide +kernel) ?_
  refine va_lald hx hb hK hP 20 10 rfl rfl (vp_in_nI (n := 0) (N := 1) (by decide) (by decide)) dL_law_443 ?_
  refine lv_topl (fun v9 e9 => ?_)
  obtain rfl : v9 = (-1) := e9.trans ((congrArg f_12 (by decide +kernel : (0 : Int32).toNatClampNeg = 0)).trans (h_oA.get 0 rfl))
  refine lv_iload hx hb dL_law_444 (lv_at hl 0 rfl) ?_
  refine lv_i2l hx hb dL_law_446 rfl ?_
  refine lv_topl (fun v9 e9 => ?_)
  obtain rfl : v9 = (-1) := e9.trans (by decide +kernel)
  refine hc_lcmpE hx hb dL_law_447 ?_
  refine lv_if_eq (tgt := 453) hx hb dL_law_448 (by decide) (fun c9 => ?_) (fun c9 => ?_)
  rotate_left
  · first | exact absurd c9 (by decide +kernel) | exact absurd (by decide +kernel) c9
  refine lv_goto (tgt := 4099) hx hb dL_law_453 (by decide) ?_
  refine W.widen (k := 470) (n := 2709300) (Nat.le_of_ble_eq_true rfl) (Nat.le_of_ble_eq_true rfl) ?_
  rw [eA] at hS
  exact law_tail (v5 := 0) (v6 := 0) (lv := []) C0 hS (lv_sub hl [2, 6] rfl)
set_option maxHeartbeats 4000000 in
set_option maxRecDepth 100000 in
theorem law_library {p : Program} {l : Launch} {e : Env} {s : State} {m : MethodId} {below : List Frame} {meth : Method} {c : Code} {b : Nat} {xs : Nat → Int32} (C0 : lw_At p s m meth c b 7 xs) {dC : Nat → ClassId} {dI : Nat → Nat → Nat} (hlt : l.stackTraces = false) (hth : th (fun q : Nat => s.heap.size ≤ q) s s.heap) (x tx rd mcd mnm liA li0 li1 li2 m0 mt msr mpl mnu ml mli mnewFu mnewIn mnewAr mnewDe mcellT oA bt : Nat) (xg : List Value) (h_x : fx xg 17 [(0, .ref tx), (1, .ref rd), (8, .ref liA), (10, .int 0)]) (txg : List Value) (h_tx : fx txg 9 [(0, .ref bt), (1, .int 0), (2, .int 0), (3, .int 0), (4, .int 0), (6, .int 0), (7, .int 0), (8, .int 0)]) (rdg : List Value) (h_rd : fx rdg 18 [(0, .ref tx), (5, .ref mcd), (6, .ref mnm)]) (mcdC : ClassId) (mcdf : Nat → Int32) (h_mcd : fa mcdf []) (mnmC : ClassId) (mnmf : Nat → Int32) (h_mnm : fa mnmf []) (liAC : ClassId) (liAF : Nat → Option Nat) (li0g : List Value) (h_li0 : fx li0g 7 [(0, .int 0)]) (li1g : List Value) (h_li1 : fx li1g 7 [(0, .int 0)]) (li2g : List Value) (h_li2 : fx li2g 7 [(0, .int 0)]) (m0g : List Value) (h_m0 : fx m0g 225 [(0, .int 0), (1, .ref mt), (2, .int 0), (3, .int 0), (4, .ref msr), (5, .ref mpl), (6, .ref mnu), (9, .int 0), (10, .int 0), (11, .int 0), (12, .int 0), (27, .int 0), (36, .ref mli), (79, .int 0), (82, .ref mcellT), (83, .int 0), (84, .ref mnewIn), (85, .ref mnewFu), (86, .ref mnewAr), (87, .ref mnewDe), (88, .ref ml), (95, .int 0)]) (mtC : ClassId) (mtf : Nat → Int32) (h_mt : fa mtf []) (msrC : ClassId) (msrf : Nat → Int32) (h_msr : fa msrf [(0, 0)]) (mplC : ClassId) (mplf : Nat → Int32) (h_mpl : fa mplf [(0, 0)]) (mnuC : ClassId) (mnuf : Nat → Int32) (h_mnu : fa mnuf [(0, 0)]) (mlC : ClassId) (mlf : Nat → Int32) (h_ml : fa mlf [(0, 0), (1, 0), (2, 0)]) (mliC : ClassId) (mlif : Nat → Int32) (h_mli : fa mlif []) (mnewFuC : ClassId) (mnewFuf : Nat → Int32) (h_mnewFu : fa mnewFuf []) (mnewInC : ClassId) (mnewInf : Nat → Int32) (h_mnewIn : fa mnewInf []) (mnewArC : ClassId) (mnewArf : Nat → Int32) (h_mnewAr : fa mnewArf []) (mnewDeC : ClassId) (mnewDef : Nat → Int32) (h_mnewDe : fa mnewDef []) (mcellTC : ClassId) (mcellTf : Nat → Int32) (h_mcellT : fa mcellTf []) (oAC : ClassId) (oAf : Nat → Int64) (h_oA : fa oAf []) (h_liA0 : liAF 0 = some li0) (h_liA1 : liAF 1 = some li1) (h_liA2 : liAF 2 = some li2) (H : Heap) (locs : List Loc) (hK : va_K (dC, dI) CL [(mcdC, .int), (mnmC, .int), (liAC, .object "ChipFlow$Library"), (mtC, .byte), (msrC, .byte), (mplC, .int), (mnuC, .int), (mlC, .boolean), (mliC, .int), (mnewFuC, .int), (mnewInC, .int), (mnewArC, .int), (mnewDeC, .int), (mcellTC, .int), (oAC, .long)] s) (hP : va_P (dC, dI) CL [(x, .inr (12, xg)), (tx, .inr (10, txg)), (rd, .inr (7, rdg)), (mcd, .inl (mcdC, (17, .inl mcdf))), (mnm, .inl (mnmC, (17, .inl mnmf))), (liA, .inl (liAC, (3, .inr (.inr (.inr (.inr liAF)))))), (li0, .inr (5, li0g)), (li1, .inr (5, li1g)), (li2, .inr (5, li2g)), (m0, .inr (13, m0g)), (mt, .inl (mtC, (65536, .inl mtf))), (msr, .inl (msrC, (65537, .inl msrf))), (mpl, .inl (mplC, (65537, .inl mplf))), (mnu, .inl (mnuC, (65537, .inl mnuf))), (ml, .inl (mlC, (3, .inl mlf))), (mli, .inl (mliC, (8192, .inl mlif))), (mnewFu, .inl (mnewFuC, (12, .inl mnewFuf))), (mnewIn, .inl (mnewInC, (12, .inl mnewInf))), (mnewAr, .inl (mnewArC, (12, .inl mnewArf))), (mnewDe, .inl (mnewDeC, (12, .inl mnewDef))), (mcellT, .inl (mcellTC, (12, .inl mcellTf))), (oA, .inl (oAC, (1, .inr (.inl oAf))))] H) (hD : va_D (fun q : Nat => s.heap.size ≤ q) [(x, .inr (12, xg)), (tx, .inr (10, txg)), (rd, .inr (7, rdg)), (mcd, .inl (mcdC, (17, .inl mcdf))), (mnm, .inl (mnmC, (17, .inl mnmf))), (liA, .inl (liAC, (3, .inr (.inr (.inr (.inr liAF)))))), (li0, .inr (5, li0g)), (li1, .inr (5, li1g)), (li2, .inr (5, li2g)), (m0, .inr (13, m0g)), (mt, .inl (mtC, (65536, .inl mtf))), (msr, .inl (msrC, (65537, .inl msrf))), (mpl, .inl (mplC, (65537, .inl mplf))), (mnu, .inl (mnuC, (65537, .inl mnuf))), (ml, .inl (mlC, (3, .inl mlf))), (mli, .inl (mliC, (8192, .inl mlif))), (mnewFu, .inl (mnewFuC, (12, .inl mnewFuf))), (mnewIn, .inl (mnewInC, (12, .inl mnewInf))), (mnewAr, .inl (mnewArC, (12, .inl mnewArf))), (mnewDe, .inl (mnewDeC, (12, .inl mnewDef))), (mcellT, .inl (mcellTC, (12, .inl mcellTf))), (oA, .inl (oAC, (1, .inr (.inl oAf))))]) (hS : va_S (fun q : Nat => s.heap.size ≤ q) s.heap H locs) (ls : Array Slot) (hl : lv_has ls 7 [(0, .ref b), (1, .ref x), (2, .ref m0), (3, .ref oA), (4, .int 0)]) : W p l e room_1 s m #[Value.ref b] below meth c H locs 451 2709142 (lw_Z below #[Value.ref b] s) (F0 m 456 ls []) := by
  obtain ⟨hx, hb, hr, hml, hown, hts0, hX, hbl, hlocks, hgv⟩ := id C0
  have hts : ∀ w ∈ BG, w.before _ s = true := fun w h => hts0 w (List.mem_filter.mp h).1
  have hown : s.vm.findClass RL = some m.cls := hown
  obtain ⟨A, eA⟩ : ∃ z : Nat → Prop, z = (fun q : Nat => s.heap.size ≤ q) := ⟨_, rfl⟩
  rw [← eA] at hth hD hS
  have hA : ∀ q : Nat, s.heap.size ≤ q → A q := fun q h => by rw [eA]; exact h
  have hbA : ¬ A b := by rw [eA]; exact Nat.not_le.mpr hbl
  refine lv_aload_n hx hb dL_law_456 rfl (lv_at hl 1 rfl) ?_
  refine lv_aload_n hx hb dL_law_457 rfl (lv_at hl 3 rfl) ?_
  have hPc := hP.sub (ws' := [(x, .inr (12, xg)), (tx, .inr (10, txg)), (rd, .inr (7, rdg)), (mcd, .inl (mcdC, (17, .inl mcdf))), (mnm, .inl (mnmC, (17, .inl mnmf))), (liA, .inl (liAC, (3, .inr (.inr (.inr (.inr liAF)))))), (li0, .inr (5, li0g)), (li1, .inr (5, li1g)), (li2, .inr (5, li2g)), (oA, .inl (oAC, (1, .inr (.inl oAf))))]) [0, 1, 2, 3, 4, 5, 6, 7, 8, 21] rfl
  have hDc := hD.sub (ws' := [(x, .inr (12, xg)), (tx, .inr (10, txg)), (rd, .inr (7, rdg)), (mcd, .inl (mcdC, (17, .inl mcdf))), (mnm, .inl (mnmC, (17, .inl mnmf))), (liA, .inl (liAC, (3, .inr (.inr (.inr (.inr liAF)))))), (li0, .inr (5, li0g)), (li1, .inr (5, li1g)), (li2, .inr (5, li2g)), (oA, .inl (oAC, (1, .inr (.inl oAf))))]) [0, 1, 2, 3, 4, 5, 6, 7, 8, 21] (by decide) rfl
  have hKc := hK.sub (tys' := [(mcdC, .int), (mnmC, .int), (liAC, .object "ChipFlow$Library"), (oAC, .long)]) [0, 1, 2, 14] rfl
  have hFc := va_free (wc := [(x, .inr (12, xg)), (tx, .inr (10, txg)), (rd, .inr (7, rdg)), (mcd, .inl (mcdC, (17, .inl mcdf))), (mnm, .inl (mnmC, (17, .inl mnmf))), (liA, .inl (liAC, (3, .inr (.inr (.inr (.inr liAF)))))), (li0, .inr (5, li0g)), (li1, .inr (5, li1g)), (li2, .inr (5, li2g)), (oA, .inl (oAC, (1, .inr (.inl oAf))))]) hD hS hA [0, 1, 2, 3, 4, 5, 6, 7, 8, 21] rfl
  refine va_calli (vx_runSW (As := [.ref x, .ref oA]) (rest := []) ⟨hx, hb, hml, hown, hts⟩ (gx178_L_library l hlt dC dI _ x tx rd mcd mnm liA li0 li1 li2 oA bt xg h_x txg h_tx rdg h_rd mcdC mcdf h_mcd mnmC mnmf h_mnm liAC liAF li0g h_li0 li1g h_li1 li2g h_li2 oAC oAf h_oA h_liA0 h_liA1 h_liA2) (vx_cwSW 2 hts (gi_W wd_1770 wd_1771 wd_326 wd_1772) rfl rfl rfl (by decide +kernel) ⟨(Nat.le_of_ble_eq_true rfl), (Nat.le_of_ble_eq_true rfl)⟩) ⟨fun a U g mk q => by obtain ⟨q0, q1, qP, qK, qD, qT⟩ := q; exact ⟨q0, q1, qP, va_K.moved (u := U) (U := U.calling g mk a) (Vm.Alike.refl U.vm) qK, qD, th.moved (u := U) (U := U.calling g mk a) (Vm.Alike.refl U.vm) qT⟩, fun U hU hW => ⟨rfl, by rw [hU], by rw [hU]; exact hPc, va_K.moved hW.alike hKc, hDc.weaken (fun _ _ _ _ => trivial), by rw [hU]; exact ((hth.kept hS.2.1).narrow hFc).moved hW.alike⟩⟩ rfl rfl hl.1 rfl (lv_room (Nat.le_of_ble_eq_true rfl)) dL_law_458 ⟨(Nat.le_of_ble_eq_true rfl), (Nat.le_of_ble_eq_true rfl)⟩) hS (fun q _ h => hFc q h) hFc (fun r u t H1 locs ht hvm hw hB hz1 hk1 hS => ?_)
  subst hw
  obtain ⟨fs_1, fs_2, fs_3, f_4, f_5, fs_6, fs_7, fs_8, f_9, h_x, h_tx, h_rd, h_mcd, h_mnm, h_li0, h_li1, h_li2, h_oA, hP1, hK1, hD1⟩ := hB
  rw [ht] at hP1
  obtain ⟨hP, hD⟩ := va_join (wr := [(m0, .inr (13, m0g)), (mt, .inl (mtC, (65536, .inl mtf))), (msr, .inl (msrC, (65537, .inl msrf))), (mpl, .inl (mplC, (65537, .inl mplf))), (mnu, .inl (mnuC, (65537, .inl mnuf))), (ml, .inl (mlC, (3, .inl mlf))), (mli, .inl (mliC, (8192, .inl mlif))), (mnewFu, .inl (mnewFuC, (12, .inl mnewFuf))), (mnewIn, .inl (mnewInC, (12, .inl mnewInf))), (mnewAr, .inl (mnewArC, (12, .inl mnewArf))), (mnewDe, .inl (mnewDeC, (12, .inl mnewDef))), (mcellT, .inl (mcellTC, (12, .inl mcellTf)))]) (w1 := [(x, .inr (12, fs_1)), (tx, .inr (10, fs_2)), (rd, .inr (7, fs_3)), (mcd, .inl (mcdC, (17, .inl f_4))), (mnm, .inl (mnmC, (17, .inl f_5))), (liA, .inl (liAC, (3, .inr (.inr (.inr (.inr liAF)))))), (li0, .inr (5, fs_6)), (li1, .inr (5, fs_7)), (li2, .inr (5, fs_8)), (oA, .inl (oAC, (1, .inr (.inl f_9))))]) hP hD [0, 1, 2, 3, 4, 5, 6, 7, 8, 21] [9, 10, 11, 12, 13, 14, 15, 16, 17, 18, 19, 20] rfl rfl (by decide) (by decide) hk1 hFc hP1 hD1
  have hP := hP.sub (ws' := [(x, .inr (12, fs_1)), (tx, .inr (10, fs_2)), (rd, .inr (7, fs_3)), (mcd, .inl (mcdC, (17, .inl f_4))), (mnm, .inl (mnmC, (17, .inl f_5))), (liA, .inl (liAC, (3, .inr (.inr (.inr (.inr liAF)))))), (li0, .inr (5, fs_6)), (li1, .inr (5, fs_7)), (li2, .inr (5, fs_8)), (m0, .inr (13, m0g)), (mt, .inl (mtC, (65536, .inl mtf))), (msr, .inl (msrC, (65537, .inl msrf))), (mpl, .inl (mplC, (65537, .inl mplf))), (mnu, .inl (mnuC, (65537, .inl mnuf))), (ml, .inl (mlC, (3, .inl mlf))), (mli, .inl (mliC, (8192, .inl mlif))), (mnewFu, .inl (mnewFuC, (12, .inl mnewFuf))), (mnewIn, .inl (mnewInC, (12, .inl mnewInf))), (mnewAr, .inl (mnewArC, (12, .inl mnewArf))), (mnewDe, .inl (mnewDeC, (12, .inl mnewDef))), (mcellT, .inl (mcellTC, (12, .inl mcellTf))), (oA, .inl (oAC, (1, .inr (.inl f_9))))]) [12, 13, 14, 15, 16, 17, 18, 19, 20, 0, 1, 2, 3, 4, 5, 6, 7, 8, 9, 10, 11, 21] rfl
  have hD := hD.sub (ws' := [(x, .inr (12, fs_1)), (tx, .inr (10, fs_2)), (rd, .inr (7, fs_3)), (mcd, .inl (mcdC, (17, .inl f_4))), (mnm, .inl (mnmC, (17, .inl f_5))), (liA, .inl (liAC, (3, .inr (.inr (.inr (.inr liAF)))))), (li0, .inr (5, fs_6)), (li1, .inr (5, fs_7)), (li2, .inr (5, fs_8)), (m0, .inr (13, m0g)), (mt, .inl (mtC, (65536, .inl mtf))), (msr, .inl (msrC, (65537, .inl msrf))), (mpl, .inl (mplC, (65537, .inl mplf))), (mnu, .inl (mnuC, (65537, .inl mnuf))), (ml, .inl (mlC, (3, .inl mlf))), (mli, .inl (mliC, (8192, .inl mlif))), (mnewFu, .inl (mnewFuC, (12, .inl mnewFuf))), (mnewIn, .inl (mnewInC, (12, .inl mnewInf))), (mnewAr, .inl (mnewArC, (12, .inl mnewArf))), (mnewDe, .inl (mnewDeC, (12, .inl mnewDef))), (mcellT, .inl (mcellTC, (12, .inl mcellTf))), (oA, .inl (oAC, (1, .inr (.inl f_9))))]) [12, 13, 14, 15, 16, 17, 18, 19, 20, 0, 1, 2, 3, 4, 5, 6, 7, 8, 9, 10, 11, 21] (by decide) rfl
  generalize H1 = H at hP hS ⊢
  have hP : va_P (dC, dI) CL [(x, .inr (12, fs_1)), (tx, .inr (10, fs_2)), (rd, .inr (7, fs_3)), (mcd, .inl (mcdC, (17, .inl f_4))), (mnm, .inl (mnmC, (17, .inl f_5))), (liA, .inl (liAC, (3, .inr (.inr (.inr (.inr liAF)))))), (li0, .inr (5, fs_6)), (li1, .inr (5, fs_7)), (li2, .inr (5, fs_8)), (m0, .inr (13, m0g)), (mt, .inl (mtC, (65536, .inl mtf))), (msr, .inl (msrC, (65537, .inl msrf))), (mpl, .inl (mplC, (65537, .inl mplf))), (mnu, .inl (mnuC, (65537, .inl mnuf))), (ml, .inl (mlC, (3, .inl mlf))), (mli, .inl (mliC, (8192, .inl mlif))), (mnewFu, .inl (mnewFuC, (12, .inl mnewFuf))), (mnewIn, .inl (mnewInC, (12, .inl mnewInf))), (mnewAr, .inl (mnewArC, (12, .inl mnewArf))), (mnewDe, .inl (mnewDeC, (12, .inl mnewDef))), (mcellT, .inl (mcellTC, (12, .inl mcellTf))), (oA, .inl (oAC, (1, .inr (.inl f_9))))] H := hP
  have hD : va_D A [(x, .inr (12, fs_1)), (tx, .inr (10, fs_2)), (rd, .inr (7, fs_3)), (mcd, .inl (mcdC, (17, .inl f_4))), (mnm, .inl (mnmC, (17, .inl f_5))), (liA, .inl (liAC, (3, .inr (.inr (.inr (.inr liAF)))))), (li0, .inr (5, fs_6)), (li1, .inr (5, fs_7)), (li2, .inr (5, fs_8)), (m0, .inr (13, m0g)), (mt, .inl (mtC, (65536, .inl mtf))), (msr, .inl (msrC, (65537, .inl msrf))), (mpl, .inl (mplC, (65537, .inl mplf))), (mnu, .inl (mnuC, (65537, .inl mnuf))), (ml, .inl (mlC, (3, .inl mlf))), (mli, .inl (mliC, (8192, .inl mlif))), (mnewFu, .inl (mnewFuC, (12, .inl mnewFuf))), (mnewIn, .inl (mnewInC, (12, .inl mnewInf))), (mnewAr, .inl (mnewArC, (12, .inl mnewArf))), (mnewDe, .inl (mnewDeC, (12, .inl mnewDef))), (mcellT, .inl (mcellTC, (12, .inl mcellTf))), (oA, .inl (oAC, (1, .inr (.inl f_9))))] := hD
  refine W.widen (k := 453) (n := 2709154) (Nat.le_of_ble_eq_true rfl) (Nat.le_of_ble_eq_true rfl) ?_
  refine lv_istore (lv' := [(5, .int 0), (0, .ref b), (1, .ref x), (2, .ref m0), (3, .ref oA), (4, .int 0)]) hx hb dL_law_461 hl (by decide) rfl (fun ls hl => ?_)
  refine lv_aload_n hx hb dL_law_463 rfl (lv_at hl 3 rfl) ?_
  have hPc := hP.sub (ws' := [(m0, .inr (13, m0g)), (mt, .inl (mtC, (65536, .inl mtf))), (msr, .inl (msrC, (65537, .inl msrf))), (mpl, .inl (mplC, (65537, .inl mplf))), (mnu, .inl (mnuC, (65537, .inl mnuf))), (ml, .inl (mlC, (3, .inl mlf))), (mli, .inl (mliC, (8192, .inl mlif))), (mnewFu, .inl (mnewFuC, (12, .inl mnewFuf))), (mnewIn, .inl (mnewInC, (12, .inl mnewInf))), (mnewAr, .inl (mnewArC, (12, .inl mnewArf))), (mnewDe, .inl (mnewDeC, (12, .inl mnewDef))), (mcellT, .inl (mcellTC, (12, .inl mcellTf)))]) [9, 10, 11, 12, 13, 14, 15, 16, 17, 18, 19, 20] rfl
  have hDc := hD.sub (ws' := [(m0, .inr (13, m0g)), (mt, .inl (mtC, (65536, .inl mtf))), (msr, .inl (msrC, (65537, .inl msrf))), (mpl, .inl (mplC, (65537, .inl mplf))), (mnu, .inl (mnuC, (65537, .inl mnuf))), (ml, .inl (mlC, (3, .inl mlf))), (mli, .inl (mliC, (8192, .inl mlif))), (mnewFu, .inl (mnewFuC, (12, .inl mnewFuf))), (mnewIn, .inl (mnewInC, (12, .inl mnewInf))), (mnewAr, .inl (mnewArC, (12, .inl mnewArf))), (mnewDe, .inl (mnewDeC, (12, .inl mnewDef))), (mcellT, .inl (mcellTC, (12, .inl mcellTf)))]) [9, 10, 11, 12, 13, 14, 15, 16, 17, 18, 19, 20] (by decide) rfl
  have hKc := hK.sub (tys' := [(mtC, .byte), (msrC, .byte), (mplC, .int), (mnuC, .int), (mlC, .boolean), (mliC, .int), (mnewFuC, .int), (mnewInC, .int), (mnewArC, .int), (mnewDeC, .int), (mcellTC, .int)]) [3, 4, 5, 6, 7, 8, 9, 10, 11, 12, 13] rfl
  have hFc := va_free (wc := [(m0, .inr (13, m0g)), (mt, .inl (mtC, (65536, .inl mtf))), (msr, .inl (msrC, (65537, .inl msrf))), (mpl, .inl (mplC, (65537, .inl mplf))), (mnu, .inl (mnuC, (65537, .inl mnuf))), (ml, .inl (mlC, (3, .inl mlf))), (mli, .inl (mliC, (8192, .inl mlif))), (mnewFu, .inl (mnewFuC, (12, .inl mnewFuf))), (mnewIn, .inl (mnewInC, (12, .inl mnewInf))), (mnewAr, .inl (mnewArC, (12, .inl mnewArf))), (mnewDe, .inl (mnewDeC, (12, .inl mnewDef))), (mcellT, .inl (mcellTC, (12, .inl mcellTf)))]) hD hS hA [9, 10, 11, 12, 13, 14, 15, 16, 17, 18, 19, 20] rfl
  refine va_calli (va_runV (As := []) (rest := []) ⟨hx, hb, hml, hown, hts⟩ (gx187_X13_library l hlt dC dI _ m0 mt msr mpl mnu ml mli mnewFu mnewIn mnewAr mnewDe mcellT m0g h_m0 mtC mtf h_mt msrC msrf h_msr mplC mplf h_mpl mnuC mnuf h_mnu mlC mlf h_ml mliC mlif h_mli mnewFuC mnewFuf h_mnewFu mnewInC mnewInf h_mnewIn mnewArC mnewArf h_mnewAr mnewDeC mnewDef h_mnewDe mcellTC mcellTf h_mcellT) (cwV 0 hts (gi_V wd_4048 wd_4049 wd_4050 wd_340 wd_4051) rfl rfl rfl (by decide +kernel) ⟨(Nat.le_of_ble_eq_true rfl), (Nat.le_of_ble_eq_true rfl)⟩) ⟨fun a U g mk q => by obtain ⟨q0, q1, qP, qK, qD, qT⟩ := q; exact ⟨q0, q1, qP, va_K.moved (u := U) (U := U.calling g mk a) (Vm.Alike.refl U.vm) qK, qD, th.moved (u := U) (U := U.calling g mk a) (Vm.Alike.refl U.vm) qT⟩, va_recv hKc hPc (ci := 13) (q0 := 0) rfl rfl, fun U hU hW => ⟨rfl, by rw [hU], by rw [hU]; exact hPc, va_K.moved hW.alike hKc, hDc.weaken (fun _ _ _ _ => trivial), by rw [hU]; exact ((hth.kept hS.2.1).narrow hFc).moved hW.alike⟩⟩ rfl rfl hl.1 rfl (lv_room (Nat.le_of_ble_eq_true rfl)) dL_law_464 ⟨(Nat.le_of_ble_eq_true rfl), (Nat.le_of_ble_eq_true rfl)⟩) hS (fun q _ h => hFc q h) hFc (fun r u t H1 locs ht hvm hw hB hz1 hk1 hS => ?_)
  subst hw
  obtain ⟨fs_10, f_11, f_12, f_13, f_14, f_15, f_16, f_17, f_18, f_19, f_20, f_21, h_m0, h_mt, h_msr, h_mpl, h_mnu, h_ml, h_mli, h_mnewFu, h_mnewIn, h_mnewAr, h_mnewDe, h_mcellT, hP1, hK1, hD1⟩ := hB
  rw [ht] at hP1
  obtain ⟨hP, hD⟩ := va_join (wr := [(x, .inr (12, fs_1)), (tx, .inr (10, fs_2)), (rd, .inr (7, fs_3)), (mcd, .inl (mcdC, (17, .inl f_4))), (mnm, .inl (mnmC, (17, .inl f_5))), (liA, .inl (liAC, (3, .inr (.inr (.inr (.inr liAF)))))), (li0, .inr (5, fs_6)), (li1, .inr (5, fs_7)), (li2, .inr (5, fs_8)), (oA, .inl (oAC, (1, .inr (.inl f_9))))]) (w1 := [(m0, .inr (13, fs_10)), (mt, .inl (mtC, (65536, .inl f_11))), (msr, .inl (msrC, (65537, .inl f_12))), (mpl, .inl (mplC, (65537, .inl f_13))), (mnu, .inl (mnuC, (65537, .inl f_14))), (ml, .inl (mlC, (3, .inl f_15))), (mli, .inl (mliC, (8192, .inl f_16))), (mnewFu, .inl (mnewFuC, (12, .inl f_17))), (mnewIn, .inl (mnewInC, (12, .inl f_18))), (mnewAr, .inl (mnewArC, (12, .inl f_19))), (mnewDe, .inl (mnewDeC, (12, .inl f_20))), (mcellT, .inl (mcellTC, (12, .inl f_21)))]) hP hD [9, 10, 11, 12, 13, 14, 15, 16, 17, 18, 19, 20] [0, 1, 2, 3, 4, 5, 6, 7, 8, 21] rfl rfl (by decide) (by decide) hk1 hFc hP1 hD1
  have hP := hP.sub (ws' := [(x, .inr (12, fs_1)), (tx, .inr (10, fs_2)), (rd, .inr (7, fs_3)), (mcd, .inl (mcdC, (17, .inl f_4))), (mnm, .inl (mnmC, (17, .inl f_5))), (liA, .inl (liAC, (3, .inr (.inr (.inr (.inr liAF)))))), (li0, .inr (5, fs_6)), (li1, .inr (5, fs_7)), (li2, .inr (5, fs_8)), (m0, .inr (13, fs_10)), (mt, .inl (mtC, (65536, .inl f_11))), (msr, .inl (msrC, (65537, .inl f_12))), (mpl, .inl (mplC, (65537, .inl f_13))), (mnu, .inl (mnuC, (65537, .inl f_14))), (ml, .inl (mlC, (3, .inl f_15))), (mli, .inl (mliC, (8192, .inl f_16))), (mnewFu, .inl (mnewFuC, (12, .inl f_17))), (mnewIn, .inl (mnewInC, (12, .inl f_18))), (mnewAr, .inl (mnewArC, (12, .inl f_19))), (mnewDe, .inl (mnewDeC, (12, .inl f_20))), (mcellT, .inl (mcellTC, (12, .inl f_21))), (oA, .inl (oAC, (1, .inr (.inl f_9))))]) [0, 1, 2, 3, 4, 5, 6, 7, 8, 10, 11, 12, 13, 14, 15, 16, 17, 18, 19, 20, 21, 9] rfl
  have hD := hD.sub (ws' := [(x, .inr (12, fs_1)), (tx, .inr (10, fs_2)), (rd, .inr (7, fs_3)), (mcd, .inl (mcdC, (17, .inl f_4))), (mnm, .inl (mnmC, (17, .inl f_5))), (liA, .inl (liAC, (3, .inr (.inr (.inr (.inr liAF)))))), (li0, .inr (5, fs_6)), (li1, .inr (5, fs_7)), (li2, .inr (5, fs_8)), (m0, .inr (13, fs_10)), (mt, .inl (mtC, (65536, .inl f_11))), (msr, .inl (msrC, (65537, .inl f_12))), (mpl, .inl (mplC, (65537, .inl f_13))), (mnu, .inl (mnuC, (65537, .inl f_14))), (ml, .inl (mlC, (3, .inl f_15))), (mli, .inl (mliC, (8192, .inl f_16))), (mnewFu, .inl (mnewFuC, (12, .inl f_17))), (mnewIn, .inl (mnewInC, (12, .inl f_18))), (mnewAr, .inl (mnewArC, (12, .inl f_19))), (mnewDe, .inl (mnewDeC, (12, .inl f_20))), (mcellT, .inl (mcellTC, (12, .inl f_21))), (oA, .inl (oAC, (1, .inr (.inl f_9))))]) [0, 1, 2, 3, 4, 5, 6, 7, 8, 10, 11, 12, 13, 14, 15, 16, 17, 18, 19, 20, 21, 9] (by decide) rfl
  generalize H1 = H at hP hS ⊢
  have hP : va_P (dC, dI) CL [(x, .inr (12, fs_1)), (tx, .inr (10, fs_2)), (rd, .inr (7, fs_3)), (mcd, .inl (mcdC, (17, .inl f_4))), (mnm, .inl (mnmC, (17, .inl f_5))), (liA, .inl (liAC, (3, .inr (.inr (.inr (.inr liAF)))))), (li0, .inr (5, fs_6)), (li1, .inr (5, fs_7)), (li2, .inr (5, fs_8)), (m0, .inr (13, fs_10)), (mt, .inl (mtC, (65536, .inl f_11))), (msr, .inl (msrC, (65537, .inl f_12))), (mpl, .inl (mplC, (65537, .inl f_13))), (mnu, .inl (mnuC, (65537, .inl f_14))), (ml, .inl (mlC, (3, .inl f_15))), (mli, .inl (mliC, (8192, .inl f_16))), (mnewFu, .inl (mnewFuC, (12, .inl f_17))), (mnewIn, .inl (mnewInC, (12, .inl f_18))), (mnewAr, .inl (mnewArC, (12, .inl f_19))), (mnewDe, .inl (mnewDeC, (12, .inl f_20))), (mcellT, .inl (mcellTC, (12, .inl f_21))), (oA, .inl (oAC, (1, .inr (.inl f_9))))] H := hP
  have hD : va_D A [(x, .inr (12, fs_1)), (tx, .inr (10, fs_2)), (rd, .inr (7, fs_3)), (mcd, .inl (mcdC, (17, .inl f_4))), (mnm, .inl (mnmC, (17, .inl f_5))), (liA, .inl (liAC, (3, .inr (.inr (.inr (.inr liAF)))))), (li0, .inr (5, fs_6)), (li1, .inr (5, fs_7)), (li2, .inr (5, fs_8)), (m0, .inr (13, fs_10)), (mt, .inl (mtC, (65536, .inl f_11))), (msr, .inl (msrC, (65537, .inl f_12))), (mpl, .inl (mplC, (65537, .inl f_13))), (mnu, .inl (mnuC, (65537, .inl f_14))), (ml, .inl (mlC, (3, .inl f_15))), (mli, .inl (mliC, (8192, .inl f_16))), (mnewFu, .inl (mnewFuC, (12, .inl f_17))), (mnewIn, .inl (mnewInC, (12, .inl f_18))), (mnewAr, .inl (mnewArC, (12, .inl f_19))), (mnewDe, .inl (mnewDeC, (12, .inl f_20))), (mcellT, .inl (mcellTC, (12, .inl f_21))), (oA, .inl (oAC, (1, .inr (.inl f_9))))] := hD
  refine lv_istore (lv' := [(6, .int (-1)), (5, .int 0), (0, .ref b), (1, .ref x), (2, .ref m0), (3, .ref oA), (4, .int 0)]) hx hb dL_law_467 hl (by decide) rfl (fun ls hl => ?_)
  refine lv_aload_n hx hb dL_law_469 rfl (lv_at hl 4 rfl) ?_
  have hPc := hP.sub (ws' := [(m0, .inr (13, fs_10))]) [9] rfl
  have hDc := hD.sub (ws' := [(m0, .inr (13, fs_10))]) [9] (by decide) rfl
  have hKc := hK.sub (tys' := []) [] rfl
  have hFc := va_free (wc := [(m0, .inr (13, fs_10))]) hD hS hA [9] rfl
  refine va_calli (va_runV (As := []) (rest := []) ⟨hx, hb, hml, hown, hts⟩ (gx234_X13_thrown l hlt dC dI _ m0 mt msr mpl mnu mli mcellT mnewIn mnewFu mnewAr mnewDe ml fs_10 h_m0) (cwV 0 hts (gi_V wd_3015 wd_3016 wd_3017 wd_340 wd_3018) rfl rfl rfl (by decide +kernel) ⟨(Nat.le_of_ble_eq_true rfl), (Nat.le_of_ble_eq_true rfl)⟩) ⟨fun a U g mk q => by obtain ⟨q0, q1, qP, qK, qD, qT⟩ := q; exact ⟨q0, q1, qP, va_K.moved (u := U) (U := U.calling g mk a) (Vm.Alike.refl U.vm) qK, qD, th.moved (u := U) (U := U.calling g mk a) (Vm.Alike.refl U.vm) qT⟩, va_recv hKc hPc (ci := 13) (q0 := 0) rfl rfl, fun U hU hW => ⟨rfl, by rw [hU], by rw [hU]; exact hPc, va_K.moved hW.alike hKc, hDc.weaken (fun _ _ _ _ => trivial), by rw [hU]; exact ((hth.kept hS.2.1).narrow hFc).moved hW.alike⟩⟩ rfl rfl hl.1 rfl (lv_room (Nat.le_of_ble_eq_true rfl)) dL_law_470 ⟨(Nat.le_of_ble_eq_true rfl), (Nat.le_of_ble_eq_true rfl)⟩) hS (fun q _ h => hFc q h) hFc (fun r u t H1 locs ht hvm hw hB hz1 hk1 hS => ?_)
  subst hw
  obtain ⟨fs_22, h_m0, hP1, hK1, hD1⟩ := hB
  rw [ht] at hP1
  obtain ⟨hP, hD⟩ := va_join (wr := [(x, .inr (12, fs_1)), (tx, .inr (10, fs_2)), (rd, .inr (7, fs_3)), (mcd, .inl (mcdC, (17, .inl f_4))), (mnm, .inl (mnmC, (17, .inl f_5))), (liA, .inl (liAC, (3, .inr (.inr (.inr (.inr liAF)))))), (li0, .inr (5, fs_6)), (li1, .inr (5, fs_7)), (li2, .inr (5, fs_8)), (mt, .inl (mtC, (65536, .inl f_11))), (msr, .inl (msrC, (65537, .inl f_12))), (mpl, .inl (mplC, (65537, .inl f_13))), (mnu, .inl (mnuC, (65537, .inl f_14))), (ml, .inl (mlC, (3, .inl f_15))), (mli, .inl (mliC, (8192, .inl f_16))), (mnewFu, .inl (mnewFuC, (12, .inl f_17))), (mnewIn, .inl (mnewInC, (12, .inl f_18))), (mnewAr, .inl (mnewArC, (12, .inl f_19))), (mnewDe, .inl (mnewDeC, (12, .inl f_20))), (mcellT, .inl (mcellTC, (12, .inl f_21))), (oA, .inl (oAC, (1, .inr (.inl f_9))))]) (w1 := [(m0, .inr (13, fs_22))]) hP hD [9] [0, 1, 2, 3, 4, 5, 6, 7, 8, 10, 11, 12, 13, 14, 15, 16, 17, 18, 19, 20, 21] rfl rfl (by decide) (by decide) hk1 hFc hP1 hD1
  have hP := hP.sub (ws' := [(x, .inr (12, fs_1)), (tx, .inr (10, fs_2)), (rd, .inr (7, fs_3)), (mcd, .inl (mcdC, (17, .inl f_4))), (mnm, .inl (mnmC, (17, .inl f_5))), (liA, .inl (liAC, (3, .inr (.inr (.inr (.inr liAF)))))), (li0, .inr (5, fs_6)), (li1, .inr (5, fs_7)), (li2, .inr (5, fs_8)), (m0, .inr (13, fs_22)), (mt, .inl (mtC, (65536, .inl f_11))), (msr, .inl (msrC, (65537, .inl f_12))), (mpl, .inl (mplC, (65537, .inl f_13))), (mnu, .inl (mnuC, (65537, .inl f_14))), (ml, .inl (mlC, (3, .inl f_15))), (mli, .inl (mliC, (8192, .inl f_16))), (mnewFu, .inl (mnewFuC, (12, .inl f_17))), (mnewIn, .inl (mnewInC, (12, .inl f_18))), (mnewAr, .inl (mnewArC, (12, .inl f_19))), (mnewDe, .inl (mnewDeC, (12, .inl f_20))), (mcellT, .inl (mcellTC, (12, .inl f_21))), (oA, .inl (oAC, (1, .inr (.inl f_9))))]) [0, 1, 2, 3, 4, 5, 6, 7, 8, 21, 9, 10, 11, 12, 13, 14, 15, 16, 17, 18, 19, 20] rfl
  have hD := hD.sub (ws' := [(x, .inr (12, fs_1)), (tx, .inr (10, fs_2)), (rd, .inr (7, fs_3)), (mcd, .inl (mcdC, (17, .inl f_4))), (mnm, .inl (mnmC, (17, .inl f_5))), (liA, .inl (liAC, (3, .inr (.inr (.inr (.inr liAF)))))), (li0, .inr (5, fs_6)), (li1, .inr (5, fs_7)), (li2, .inr (5, fs_8)), (m0, .inr (13, fs_22)), (mt, .inl (mtC, (65536, .inl f_11))), (msr, .inl (msrC, (65537, .inl f_12))), (mpl, .inl (mplC, (65537, .inl f_13))), (mnu, .inl (mnuC, (65537, .inl f_14))), (ml, .inl (mlC, (3, .inl f_15))), (mli, .inl (mliC, (8192, .inl f_16))), (mnewFu, .inl (mnewFuC, (12, .inl f_17))), (mnewIn, .inl (mnewInC, (12, .inl f_18))), (mnewAr, .inl (mnewArC, (12, .inl f_19))), (mnewDe, .inl (mnewDeC, (12, .inl f_20))), (mcellT, .inl (mcellTC, (12, .inl f_21))), (oA, .inl (oAC, (1, .inr (.inl f_9))))]) [0, 1, 2, 3, 4, 5, 6, 7, 8, 21, 9, 10, 11, 12, 13, 14, 15, 16, 17, 18, 19, 20] (by decide) rfl
  generalize H1 = H at hP hS ⊢
  have hP : va_P (dC, dI) CL [(x, .inr (12, fs_1)), (tx, .inr (10, fs_2)), (rd, .inr (7, fs_3)), (mcd, .inl (mcdC, (17, .inl f_4))), (mnm, .inl (mnmC, (17, .inl f_5))), (liA, .inl (liAC, (3, .inr (.inr (.inr (.inr liAF)))))), (li0, .inr (5, fs_6)), (li1, .inr (5, fs_7)), (li2, .inr (5, fs_8)), (m0, .inr (13, fs_22)), (mt, .inl (mtC, (65536, .inl f_11))), (msr, .inl (msrC, (65537, .inl f_12))), (mpl, .inl (mplC, (65537, .inl f_13))), (mnu, .inl (mnuC, (65537, .inl f_14))), (ml, .inl (mlC, (3, .inl f_15))), (mli, .inl (mliC, (8192, .inl f_16))), (mnewFu, .inl (mnewFuC, (12, .inl f_17))), (mnewIn, .inl (mnewInC, (12, .inl f_18))), (mnewAr, .inl (mnewArC, (12, .inl f_19))), (mnewDe, .inl (mnewDeC, (12, .inl f_20))), (mcellT, .inl (mcellTC, (12, .inl f_21))), (oA, .inl (oAC, (1, .inr (.inl f_9))))] H := hP
  have hD : va_D A [(x, .inr (12, fs_1)), (tx, .inr (10, fs_2)), (rd, .inr (7, fs_3)), (mcd, .inl (mcdC, (17, .inl f_4))), (mnm, .inl (mnmC, (17, .inl f_5))), (liA, .inl (liAC, (3, .inr (.inr (.inr (.inr liAF)))))), (li0, .inr (5, fs_6)), (li1, .inr (5, fs_7)), (li2, .inr (5, fs_8)), (m0, .inr (13, fs_22)), (mt, .inl (mtC, (65536, .inl f_11))), (msr, .inl (msrC, (65537, .inl f_12))), (mpl, .inl (mplC, (65537, .inl f_13))), (mnu, .inl (mnuC, (65537, .inl f_14))), (ml, .inl (mlC, (3, .inl f_15))), (mli, .inl (mliC, (8192, .inl f_16))), (mnewFu, .inl (mnewFuC, (12, .inl f_17))), (mnewIn, .inl (mnewInC, (12, .inl f_18))), (mnewAr, .inl (mnewArC, (12, .inl f_19))), (mnewDe, .inl (mnewDeC, (12, .inl f_20))), (mcellT, .inl (mcellTC, (12, .inl f_21))), (oA, .inl (oAC, (1, .inr (.inl f_9))))] := hD
  refine lv_iload hx hb dL_law_473 (lv_at hl 1 rfl) ?_
  refine lv_icmp_eq (tgt := 480) hx hb dL_law_475 (by decide) (fun c9 => ?_) (fun c9 => ?_)
  rotate_left
  · first | exact absurd c9 (by decide +kernel) | exact absurd (by decide +kernel) c9
  refine lv_iload hx hb dL_law_480 (lv_at hl 1 rfl) ?_
  refine lv_if_ne (tgt := 497) hx hb dL_law_482 (by decide) (fun c9 => ?_) (fun c9 => ?_)
  · first | exact absurd c9 (by decide +kernel) | exact absurd (by decide +kernel) c9
  refine lv_aload_n hx hb dL_law_485 rfl (lv_at hl 5 rfl) ?_
  refine lv_iconst (v := 0) hx hb dL_law_486 (by decide +kernel) ?_
  refine va_lald hx hb hK hP 21 14 rfl rfl (vp_in_nI (n := 0) (N := 1) (by decide) (by decide)) dL_law_487 ?_
  refine lv_topl (fun v9 e9 => ?_)
  obtain rfl : v9 = (-1) := e9.trans ((congrArg f_9 (by decide +kernel : (0 : Int32).toNatClampNeg = 0)).trans (h_oA.get 0 rfl))
  refine lv_iload hx hb dL_law_488 (lv_at hl 0 rfl) ?_
  refine lv_i2l hx hb dL_law_490 rfl ?_
  refine lv_topl (fun v9 e9 => ?_)
  obtain rfl : v9 = (-1) := e9.trans (by decide +kernel)
  refine hc_lcmpE hx hb dL_law_491 ?_
  refine lv_if_eq (tgt := 497) hx hb dL_law_492 (by decide) (fun c9 => ?_) (fun c9 => ?_)
  rotate_left
  · first | exact absurd c9 (by decide +kernel) | exact absurd (by decide +kernel) c9
  refine lv_goto (tgt := 4099) hx hb dL_law_497 (by decide) ?_
  refine W.widen (k := 470) (n := 2709300) (Nat.le_of_ble_eq_true rfl) (Nat.le_of_ble_eq_true rfl) ?_
  rw [eA] at hS
  exact law_tail (v5 := 0) (v6 := 0) (lv := []) C0 hS (lv_sub hl [2, 6] rfl)
