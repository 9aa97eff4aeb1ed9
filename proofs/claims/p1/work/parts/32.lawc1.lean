set_option maxHeartbeats 4000000 in
set_option maxRecDepth 100000 in
theorem law_graph {p : Program} {l : Launch} {e : Env} {s : State} {m : MethodId} {below : List Frame} {meth : Method} {c : Code} {b : Nat} {xs : Nat → Int32} (C0 : lw_At p s m meth c b 7 xs) {dC : Nat → ClassId} {dI : Nat → Nat → Nat} (hlt : l.stackTraces = false) (hth : th (fun q : Nat => s.heap.size ≤ q) s s.heap) (x : Nat) (xg : List Value) (deA : Nat) (deC : ClassId) (deF : Nat → Option Nat) (de0 de1 de2 de3 de4 de5 : Nat) (deg0 deg1 deg2 deg3 deg4 deg5 : List Value) (hdeg0 : fx deg0 16 [(0, .int 0)]) (hdeF0 : deF 0 = some de0) (hdeg1 : fx deg1 16 [(0, .int 0)]) (hdeF1 : deF 1 = some de1) (hdeg2 : fx deg2 16 [(0, .int 0)]) (hdeF2 : deF 2 = some de2) (hdeg3 : fx deg3 16 [(0, .int 0)]) (hdeF3 : deF 3 = some de3) (hdeg4 : fx deg4 16 [(0, .int 0)]) (hdeF4 : deF 4 = some de4) (hdeg5 : fx deg5 16 [(0, .int 0)]) (hdeF5 : deF 5 = some de5) (m0 : Nat) (mg : List Value) (mdA : Nat) (mdC : ClassId) (oA : Nat) (oC : ClassId) (oF : Nat → Int64) (hxg : fx xg 17 [(7, .ref deA)]) (hmg : fx mg 225 [(55, .ref mdA)]) (H : Heap) (locs : List Loc) (hK : va_K (dC, dI) CL [(deC, .object "ChipFlow$Design"), (mdC, .boolean), (oC, .long)] s) (hP : va_P (dC, dI) CL [(x, .inr (12, xg)), (deA, .inl (deC, (6, .inr (.inr (.inr (.inr deF)))))), (de0, .inr (3, deg0)), (de1, .inr (3, deg1)), (de2, .inr (3, deg2)), (de3, .inr (3, deg3)), (de4, .inr (3, deg4)), (de5, .inr (3, deg5)), (m0, .inr (13, mg)), (mdA, .inl (mdC, (6, .inl (fun _ => 0)))), (oA, .inl (oC, (1, .inr (.inl oF))))] H) (hD : va_D (fun q : Nat => s.heap.size ≤ q) [(x, .inr (12, xg)), (deA, .inl (deC, (6, .inr (.inr (.inr (.inr deF)))))), (de0, .inr (3, deg0)), (de1, .inr (3, deg1)), (de2, .inr (3, deg2)), (de3, .inr (3, deg3)), (de4, .inr (3, deg4)), (de5, .inr (3, deg5)), (m0, .inr (13, mg)), (mdA, .inl (mdC, (6, .inl (fun _ => 0)))), (oA, .inl (oC, (1, .inr (.inl oF))))]) (hS : va_S (fun q : Nat => s.heap.size ≤ q) s.heap H locs) (ls : Array Slot) (hl : lv_has ls 7 [(0, .ref b), (1, .ref x), (2, .ref m0), (3, .ref oA), (4, .int 0)]) : W p l e room_1 s m #[Value.ref b] below meth c H locs 451 2709142 (lw_Z below #[Value.ref b] s) (F0 m 636 ls []) := by
  obtain ⟨hx, hb, hr, hml, hown, hts0, hX, hbl, hlocks, hgv⟩ := id C0
  have hts : ∀ w ∈ BG, w.before _ s = true := fun w h => hts0 w (List.mem_filter.mp h).1
  have hown : s.vm.findClass RL = some m.cls := hown
  have hA : ∀ q : Nat, s.heap.size ≤ q → (fun q : Nat => s.heap.size ≤ q) q := fun _ h => h
  have hbA : ¬ (fun q : Nat => s.heap.size ≤ q) b := Nat.not_le.mpr hbl
  refine lv_aload_n hx hb dL_law_636 rfl (lv_at hl 1 rfl) ?_
  refine lv_aload_n hx hb dL_law_637 rfl (lv_at hl 0 rfl) ?_
  refine lv_iload hx hb dL_law_638 (lv_at hl 4 rfl) ?_
  refine lv_iconst (v := 1) hx hb dL_law_640 (by decide +kernel) ?_
  refine lv_iadd hx hb dL_law_641 ?_
  refine va_sld hx hb hX hbl hbA hS vi_1 dL_law_642 ?_
  refine lv_aload_n hx hb dL_law_643 rfl (lv_at hl 0 rfl) ?_
  refine lv_iload hx hb dL_law_644 (lv_at hl 4 rfl) ?_
  refine lv_iconst (v := 2) hx hb dL_law_646 (by decide +kernel) ?_
  refine lv_iadd hx hb dL_law_647 ?_
  refine va_sld hx hb hX hbl hbA hS vi_2 dL_law_648 ?_
  refine lv_aload_n hx hb dL_law_649 rfl (lv_at hl 3 rfl) ?_
  have hPc := hP.sub (ws' := [(x, .inr (12, xg)), (deA, .inl (deC, (6, .inr (.inr (.inr (.inr deF)))))), (de0, .inr (3, deg0)), (de1, .inr (3, deg1)), (de2, .inr (3, deg2)), (de3, .inr (3, deg3)), (de4, .inr (3, deg4)), (de5, .inr (3, deg5)), (oA, .inl (oC, (1, .inr (.inl oF))))]) [0, 1, 2, 3, 4, 5, 6, 7, 10] rfl
  have hDc := hD.sub (ws' := [(x, .inr (12, xg)), (deA, .inl (deC, (6, .inr (.inr (.inr (.inr deF)))))), (de0, .inr (3, deg0)), (de1, .inr (3, deg1)), (de2, .inr (3, deg2)), (de3, .inr (3, deg3)), (de4, .inr (3, deg4)), (de5, .inr (3, deg5)), (oA, .inl (oC, (1, .inr (.inl oF))))]) [0, 1, 2, 3, 4, 5, 6, 7, 10] (by decide) rfl
  have hKc := hK.sub (tys' := [(deC, .object "ChipFlow$Design"), (oC, .long)]) [0, 2] rfl
  have hFc := va_free (wc := [(x, .inr (12, xg)), (deA, .inl (deC, (6, .inr (.inr (.inr (.inr deF)))))), (de0, .inr (3, deg0)), (de1, .inr (3, deg1)), (de2, .inr (3, deg2)), (de3, .inr (3, deg3)), (de4, .inr (3, deg4)), (de5, .inr (3, deg5)), (oA, .inl (oC, (1, .inr (.inl oF))))]) hD hS hA [0, 1, 2, 3, 4, 5, 6, 7, 10] rfl
  refine va_calli (vx_runSW (As := [.ref x, .int (xs ((0 : Int32) + 1).toNatClampNeg), .int (xs ((0 : Int32) + 2).toNatClampNeg), .ref oA]) (rest := []) ⟨hx, hb, hml, hown, hts⟩ (ct_L_graph l hlt dC dI H.size (xs ((0 : Int32) + 1).toNatClampNeg) (xs ((0 : Int32) + 2).toNatClampNeg) x xg deA deC deF de0 de1 de2 de3 de4 de5 deg0 deg1 deg2 deg3 deg4 deg5 hdeg0 hdeF0 hdeg1 hdeF1 hdeg2 hdeF2 hdeg3 hdeF3 hdeg4 hdeF4 hdeg5 hdeF5 oA oC oF hxg) (vx_cwSW 4 hts (gi_W wd_1846 wd_1847 wd_326 wd_1848) rfl rfl rfl (by decide +kernel) ⟨(Nat.le_of_ble_eq_true rfl), (Nat.le_of_ble_eq_true rfl)⟩) ⟨fun a U g mk q => by obtain ⟨q0, q1, qP, qK, qD, qT⟩ := q; exact ⟨q0, q1, qP, va_K.moved (u := U) (U := U.calling g mk a) (Vm.Alike.refl U.vm) qK, qD, th.moved (u := U) (U := U.calling g mk a) (Vm.Alike.refl U.vm) qT⟩, fun U hU hW => ⟨rfl, by rw [hU], by rw [hU]; exact hPc, va_K.moved hW.alike hKc, hDc.weaken (fun _ _ _ _ => trivial), by rw [hU]; exact ((hth.kept hS.2.1).narrow hFc).moved hW.alike⟩⟩ rfl rfl hl.1 rfl (lv_room (Nat.le_of_ble_eq_true rfl)) dL_law_650 ⟨(Nat.le_of_ble_eq_true rfl), (Nat.le_of_ble_eq_true rfl)⟩) hS (fun q _ h => hFc q h) hFc (fun r u t H1 locs ht hvm hw hB hz1 hk1 hS => ?_)
  subst hw
  obtain ⟨hP1, -, hD1⟩ := hB
  rw [ht] at hP1
  obtain ⟨hP, hD⟩ := va_join (wr := [(m0, .inr (13, mg)), (mdA, .inl (mdC, (6, .inl (fun _ => 0))))]) (w1 := [(oA, .inl (oC, (1, .inr (.inl oF))))]) hP hD [0, 1, 2, 3, 4, 5, 6, 7, 10] [8, 9] rfl rfl (by decide) (by decide) hk1 hFc hP1 hD1
  have hP := hP.sub (ws' := [(m0, .inr (13, mg)), (mdA, .inl (mdC, (6, .inl (fun _ => 0))))]) [0, 1] rfl
  have hD := hD.sub (ws' := [(m0, .inr (13, mg)), (mdA, .inl (mdC, (6, .inl (fun _ => 0))))]) [0, 1] (by decide) rfl
  have hK := hK.sub (tys' := [(mdC, .boolean)]) [1] rfl
  generalize H1 = H at hP hS ⊢
  refine W.widen (k := 452) (n := 2709148) (Nat.le_of_ble_eq_true rfl) (Nat.le_of_ble_eq_true rfl) ?_
  refine lv_istore (lv' := [(5, .int 1), (0, .ref b), (1, .ref x), (2, .ref m0), (3, .ref oA), (4, .int 0)]) hx hb dL_law_653 hl (by decide) rfl (fun ls hl => ?_)
  refine lv_aload_n hx hb dL_law_655 rfl (lv_at hl 3 rfl) ?_
  refine lv_aload_n hx hb dL_law_656 rfl (lv_at hl 1 rfl) ?_
  refine lv_iload hx hb dL_law_657 (lv_at hl 5 rfl) ?_
  refine lv_iconst (v := 1) hx hb dL_law_659 (by decide +kernel) ?_
  refine lv_iadd hx hb dL_law_660 ?_
  refine va_sld hx hb hX hbl hbA hS vi_1 dL_law_661 ?_
  refine lv_aload_n hx hb dL_law_662 rfl (lv_at hl 1 rfl) ?_
  refine lv_iload hx hb dL_law_663 (lv_at hl 5 rfl) ?_
  refine lv_iconst (v := 2) hx hb dL_law_665 (by decide +kernel) ?_
  refine lv_iadd hx hb dL_law_666 ?_
  refine va_sld hx hb hX hbl hbA hS vi_2 dL_law_667 ?_
  have hFc := va_free (wc := [(m0, .inr (13, mg)), (mdA, .inl (mdC, (6, .inl (fun _ => 0))))]) hD hS hA [0, 1] rfl
  refine va_calli (va_runV (As := [.int (xs ((0 : Int32) + 1).toNatClampNeg), .int (xs ((0 : Int32) + 2).toNatClampNeg)]) (rest := []) ⟨hx, hb, hml, hown, hts⟩ (ct_X13_graph l dC dI _ (xs ((0 : Int32) + 1).toNatClampNeg) (xs ((0 : Int32) + 2).toNatClampNeg) m0 mg mdA mdC hmg) (cwV 2 hts (gi_V wd_4092 wd_4093 wd_4094 wd_340 wd_4095) rfl rfl rfl (by decide +kernel) ⟨(Nat.le_of_ble_eq_true rfl), (Nat.le_of_ble_eq_true rfl)⟩) ⟨fun a U g mk q => by obtain ⟨q0, q1, qP, qK, qD⟩ := q; exact ⟨q0, q1, qP, va_K.moved (u := U) (U := U.calling g mk a) (Vm.Alike.refl U.vm) qK, qD⟩, va_recv hK hP (ci := 13) (q0 := 0) rfl rfl, fun U hU hW => ⟨rfl, by rw [hU], by rw [hU]; exact hP, va_K.moved hW.alike hK, hD.weaken (fun _ _ _ _ => trivial)⟩⟩ rfl rfl hl.1 rfl (lv_room (Nat.le_of_ble_eq_true rfl)) dL_law_668 ⟨(Nat.le_of_ble_eq_true rfl), (Nat.le_of_ble_eq_true rfl)⟩) hS (fun q _ h => hFc q h) hFc (fun r u t H1 locs ht hvm hw hB hz1 hk1 hS => ?_)
  subst hw
  obtain ⟨mg1, hmg1, hP1, hK1, hD1⟩ := hB
  rw [ht] at hP1
  have hK1 := va_K.moved hvm.symm hK1
  have hD1 := hD1.weaken (fun k q _ h => hFc q.1 h)
  generalize H1 = H at hP1 hS ⊢
  refine lv_istore (lv' := [(6, .int 0), (5, .int 1), (0, .ref b), (1, .ref x), (2, .ref m0), (3, .ref oA), (4, .int 0)]) hx hb dL_law_671 hl (by decide) rfl (fun ls hl => ?_)
  refine lv_aload_n hx hb dL_law_673 rfl (lv_at hl 4 rfl) ?_
  have hFc := va_free (wc := [(m0, .inr (13, mg1))]) hD1 hS hA [0] rfl
  refine va_calli (va_runV (As := []) (rest := []) ⟨hx, hb, hml, hown, hts⟩ (ct_X13_thrown l dC dI _ 1 m0 mg1 hmg1) (cwV 0 hts (gi_V wd_3015 wd_3016 wd_3017 wd_340 wd_3018) rfl rfl rfl (by decide +kernel) ⟨(Nat.le_of_ble_eq_true rfl), (Nat.le_of_ble_eq_true rfl)⟩) ⟨fun a U g mk q => by obtain ⟨q0, q1, qP, qK, qD⟩ := q; exact ⟨q0, q1, qP, va_K.moved (u := U) (U := U.calling g mk a) (Vm.Alike.refl U.vm) qK, qD⟩, va_recv hK1 hP1 (ci := 13) (q0 := 0) rfl rfl, fun U hU hW => ⟨rfl, by rw [hU], by rw [hU]; exact hP1, va_K.moved hW.alike hK1, hD1.weaken (fun _ _ _ _ => trivial)⟩⟩ rfl rfl hl.1 rfl (lv_room (Nat.le_of_ble_eq_true rfl)) dL_law_674 ⟨(Nat.le_of_ble_eq_true rfl), (Nat.le_of_ble_eq_true rfl)⟩) hS (fun q _ h => hFc q h) hFc (fun r u t H1 locs ht hvm hw hB hz1 hk1 hS => ?_)
  subst hw
  refine lv_iload hx hb dL_law_677 (lv_at hl 1 rfl) ?_
  refine lv_icmp_eq (tgt := 684) hx hb dL_law_679 (by decide) (fun c9 => ?_) (fun c9 => ?_)
  rotate_left
  · first | exact absurd c9 (by decide +kernel) | exact absurd (by decide +kernel) c9
  refine lv_iload hx hb dL_law_684 (lv_at hl 1 rfl) ?_
  refine lv_if_ne (tgt := 701) hx hb dL_law_686 (by decide) (fun c9 => ?_) (fun c9 => ?_)
  rotate_left
  · first | exact absurd c9 (by decide +kernel) | exact absurd (by decide +kernel) c9
  refine lv_goto (tgt := 4099) hx hb dL_law_701 (by decide) ?_
  refine W.widen (k := 470) (n := 2709300) (Nat.le_of_ble_eq_true rfl) (Nat.le_of_ble_eq_true rfl) ?_
  exact law_tail (v5 := 0) (v6 := 0) (lv := []) C0 hS (lv_sub hl [2, 6] rfl)
set_option maxHeartbeats 4000000 in
set_option maxRecDepth 100000 in
theorem law_literal {p : Program} {l : Launch} {e : Env} {s : State} {m : MethodId} {below : List Frame} {meth : Method} {c : Code} {b : Nat} {xs : Nat → Int32} (C0 : lw_At p s m meth c b 7 xs) {dC : Nat → ClassId} {dI : Nat → Nat → Nat} (hlt : l.stackTraces = false) (hth : th (fun q : Nat => s.heap.size ≤ q) s s.heap) (x : Nat) (xg : List Value) (deA : Nat) (deC : ClassId) (deF : Nat → Option Nat) (de0 de1 de2 de3 de4 de5 : Nat) (deg0 deg1 deg2 deg3 deg4 deg5 : List Value) (hdeg0 : fx deg0 16 [(0, .int 0)]) (hdeF0 : deF 0 = some de0) (hdeg1 : fx deg1 16 [(0, .int 0)]) (hdeF1 : deF 1 = some de1) (hdeg2 : fx deg2 16 [(0, .int 0)]) (hdeF2 : deF 2 = some de2) (hdeg3 : fx deg3 16 [(0, .int 0)]) (hdeF3 : deF 3 = some de3) (hdeg4 : fx deg4 16 [(0, .int 0)]) (hdeF4 : deF 4 = some de4) (hdeg5 : fx deg5 16 [(0, .int 0)]) (hdeF5 : deF 5 = some de5) (m0 : Nat) (mg : List Value) (mdA : Nat) (mdC : ClassId) (oA : Nat) (oC : ClassId) (oF : Nat → Int64) (hxg : fx xg 17 [(7, .ref deA)]) (hmg : fx mg 225 [(55, .ref mdA)]) (H : Heap) (locs : List Loc) (hK : va_K (dC, dI) CL [(deC, .object "ChipFlow$Design"), (mdC, .boolean), (oC, .long)] s) (hP : va_P (dC, dI) CL [(x, .inr (12, xg)), (deA, .inl (deC, (6, .inr (.inr (.inr (.inr deF)))))), (de0, .inr (3, deg0)), (de1, .inr (3, deg1)), (de2, .inr (3, deg2)), (de3, .inr (3, deg3)), (de4, .inr (3, deg4)), (de5, .inr (3, deg5)), (m0, .inr (13, mg)), (mdA, .inl (mdC, (6, .inl (fun _ => 0)))), (oA, .inl (oC, (1, .inr (.inl oF))))] H) (hD : va_D (fun q : Nat => s.heap.size ≤ q) [(x, .inr (12, xg)), (deA, .inl (deC, (6, .inr (.inr (.inr (.inr deF)))))), (de0, .inr (3, deg0)), (de1, .inr (3, deg1)), (de2, .inr (3, deg2)), (de3, .inr (3, deg3)), (de4, .inr (3, deg4)), (de5, .inr (3, deg5)), (m0, .inr (13, mg)), (mdA, .inl (mdC, (6, .inl (fun _ => 0)))), (oA, .inl (oC, (1, .inr (.inl oF))))]) (hS : va_S (fun q : Nat => s.heap.size ≤ q) s.heap H locs) (ls : Array Slot) (hl : lv_has ls 7 [(0, .ref b), (1, .ref x), (2, .ref m0), (3, .ref oA), (4, .int 0)]) : W p l e room_1 s m #[Value.ref b] below meth c H locs 451 2709142 (lw_Z below #[Value.ref b] s) (F0 m 704 ls []) := by
  obtain ⟨hx, hb, hr, hml, hown, hts0, hX, hbl, hlocks, hgv⟩ := id C0
  have hts : ∀ w ∈ BG, w.before _ s = true := fun w h => hts0 w (List.mem_filter.mp h).1
  have hown : s.vm.findClass RL = some m.cls := hown
  have hA : ∀ q : Nat, s.heap.size ≤ q → (fun q : Nat => s.heap.size ≤ q) q := fun _ h => h
  have hbA : ¬ (fun q : Nat => s.heap.size ≤ q) b := Nat.not_le.mpr hbl
  refine lv_aload_n hx hb dL_law_704 rfl (lv_at hl 1 rfl) ?_
  refine lv_aload_n hx hb dL_law_705 rfl (lv_at hl 0 rfl) ?_
  refine lv_iload hx hb dL_law_706 (lv_at hl 4 rfl) ?_
  refine lv_iconst (v := 1) hx hb dL_law_708 (by decide +kernel) ?_
  refine lv_iadd hx hb dL_law_709 ?_
  refine va_sld hx hb hX hbl hbA hS vi_1 dL_law_710 ?_
  refine lv_aload_n hx hb dL_law_711 rfl (lv_at hl 0 rfl) ?_
  refine lv_iload hx hb dL_law_712 (lv_at hl 4 rfl) ?_
  refine lv_iconst (v := 2) hx hb dL_law_714 (by decide +kernel) ?_
  refine lv_iadd hx hb dL_law_715 ?_
  refine va_sld hx hb hX hbl hbA hS vi_2 dL_law_716 ?_
  refine lv_aload_n hx hb dL_law_717 rfl (lv_at hl 0 rfl) ?_
  refine lv_iload hx hb dL_law_718 (lv_at hl 4 rfl) ?_
  refine lv_iconst (v := 3) hx hb dL_law_720 (by decide +kernel) ?_
  refine lv_iadd hx hb dL_law_721 ?_
  refine va_sld hx hb hX hbl hbA hS vi_3 dL_law_722 ?_
  refine lv_aload_n hx hb dL_law_723 rfl (lv_at hl 3 rfl) ?_
  have hPc := hP.sub (ws' := [(x, .inr (12, xg)), (deA, .inl (deC, (6, .inr (.inr (.inr (.inr deF)))))), (de0, .inr (3, deg0)), (de1, .inr (3, deg1)), (de2, .inr (3, deg2)), (de3, .inr (3, deg3)), (de4, .inr (3, deg4)), (de5, .inr (3, deg5)), (oA, .inl (oC, (1, .inr (.inl oF))))]) [0, 1, 2, 3, 4, 5, 6, 7, 10] rfl
  have hDc := hD.sub (ws' := [(x, .inr (12, xg)), (deA, .inl (deC, (6, .inr (.inr (.inr (.inr deF)))))), (de0, .inr (3, deg0)), (de1, .inr (3, deg1)), (de2, .inr (3, deg2)), (de3, .inr (3, deg3)), (de4, .inr (3, deg4)), (de5, .inr (3, deg5)), (oA, .inl (oC, (1, .inr (.inl oF))))]) [0, 1, 2, 3, 4, 5, 6, 7, 10] (by decide) rfl
  have hKc := hK.sub (tys' := [(deC, .object "ChipFlow$Design"), (oC, .long)]) [0, 2] rfl
  have hFc := va_free (wc := [(x, .inr (12, xg)), (deA, .inl (deC, (6, .inr (.inr (.inr (.inr deF)))))), (de0, .inr (3, deg0)), (de1, .inr (3, deg1)), (de2, .inr (3, deg2)), (de3, .inr (3, deg3)), (de4, .inr (3, deg4)), (de5, .inr (3, deg5)), (oA, .inl (oC, (1, .inr (.inl oF))))]) hD hS hA [0, 1, 2, 3, 4, 5, 6, 7, 10] rfl
  refine va_calli (vx_runSW (As := [.ref x, .int (xs ((0 : Int32) + 1).toNatClampNeg), .int (xs ((0 : Int32) + 2).toNatClampNeg), .int (xs ((0 : Int32) + 3).toNatClampNeg), .ref oA]) (rest := []) ⟨hx, hb, hml, hown, hts⟩ (ct_L_literal l hlt dC dI H.size (xs ((0 : Int32) + 1).toNatClampNeg) (xs ((0 : Int32) + 2).toNatClampNeg) (xs ((0 : Int32) + 3).toNatClampNeg) x xg deA deC deF de0 de1 de2 de3 de4 de5 deg0 deg1 deg2 deg3 deg4 deg5 hdeg0 hdeF0 hdeg1 hdeF1 hdeg2 hdeF2 hdeg3 hdeF3 hdeg4 hdeF4 hdeg5 hdeF5 oA oC oF hxg) (vx_cwSW 5 hts (gi_W wd_1854 wd_1855 wd_326 wd_1856) rfl rfl rfl (by decide +kernel) ⟨(Nat.le_of_ble_eq_true rfl), (Nat.le_of_ble_eq_true rfl)⟩) ⟨fun a U g mk q => by obtain ⟨q0, q1, qP, qK, qD, qT⟩ := q; exact ⟨q0, q1, qP, va_K.moved (u := U) (U := U.calling g mk a) (Vm.Alike.refl U.vm) qK, qD, th.moved (u := U) (U := U.calling g mk a) (Vm.Alike.refl U.vm) qT⟩, fun U hU hW => ⟨rfl, by rw [hU], by rw [hU]; exact hPc, va_K.moved hW.alike hKc, hDc.weaken (fun _ _ _ _ => trivial), by rw [hU]; exact ((hth.kept hS.2.1).narrow hFc).moved hW.alike⟩⟩ rfl rfl hl.1 rfl (lv_room (Nat.le_of_ble_eq_true rfl)) dL_law_724 ⟨(Nat.le_of_ble_eq_true rfl), (Nat.le_of_ble_eq_true rfl)⟩) hS (fun q _ h => hFc q h) hFc (fun r u t H1 locs ht hvm hw hB hz1 hk1 hS => ?_)
  subst hw
  obtain ⟨hP1, -, hD1⟩ := hB
  rw [ht] at hP1
  obtain ⟨hP, hD⟩ := va_join (wr := [(m0, .inr (13, mg)), (mdA, .inl (mdC, (6, .inl (fun _ => 0))))]) (w1 := [(oA, .inl (oC, (1, .inr (.inl oF))))]) hP hD [0, 1, 2, 3, 4, 5, 6, 7, 10] [8, 9] rfl rfl (by decide) (by decide) hk1 hFc hP1 hD1
  have hP := hP.sub (ws' := [(m0, .inr (13, mg)), (mdA, .inl (mdC, (6, .inl (fun _ => 0))))]) [0, 1] rfl
  have hD := hD.sub (ws' := [(m0, .inr (13, mg)), (mdA, .inl (mdC, (6, .inl (fun _ => 0))))]) [0, 1] (by decide) rfl
  have hK := hK.sub (tys' := [(mdC, .boolean)]) [1] rfl
  generalize H1 = H at hP hS ⊢
  refine W.widen (k := 452) (n := 2709148) (Nat.le_of_ble_eq_true rfl) (Nat.le_of_ble_eq_true rfl) ?_
  refine lv_istore (lv' := [(5, .int 1), (0, .ref b), (1, .ref x), (2, .ref m0), (3, .ref oA), (4, .int 0)]) hx hb dL_law_727 hl (by decide) rfl (fun ls hl => ?_)
  refine lv_aload_n hx hb dL_law_729 rfl (lv_at hl 3 rfl) ?_
  refine lv_aload_n hx hb dL_law_730 rfl (lv_at hl 1 rfl) ?_
  refine lv_iload hx hb dL_law_731 (lv_at hl 5 rfl) ?_
  refine lv_iconst (v := 1) hx hb dL_law_733 (by decide +kernel) ?_
  refine lv_iadd hx hb dL_law_734 ?_
  refine va_sld hx hb hX hbl hbA hS vi_1 dL_law_735 ?_
  refine lv_aload_n hx hb dL_law_736 rfl (lv_at hl 1 rfl) ?_
  refine lv_iload hx hb dL_law_737 (lv_at hl 5 rfl) ?_
  refine lv_iconst (v := 2) hx hb dL_law_739 (by decide +kernel) ?_
  refine lv_iadd hx hb dL_law_740 ?_
  refine va_sld hx hb hX hbl hbA hS vi_2 dL_law_741 ?_
  refine lv_aload_n hx hb dL_law_742 rfl (lv_at hl 1 rfl) ?_
  refine lv_iload hx hb dL_law_743 (lv_at hl 5 rfl) ?_
  refine lv_iconst (v := 3) hx hb dL_law_745 (by decide +kernel) ?_
  refine lv_iadd hx hb dL_law_746 ?_
  refine va_sld hx hb hX hbl hbA hS vi_3 dL_law_747 ?_
  have hFc := va_free (wc := [(m0, .inr (13, mg)), (mdA, .inl (mdC, (6, .inl (fun _ => 0))))]) hD hS hA [0, 1] rfl
  refine va_calli (va_runV (As := [.int (xs ((0 : Int32) + 1).toNatClampNeg), .int (xs ((0 : Int32) + 2).toNatClampNeg), .int (xs ((0 : Int32) + 3).toNatClampNeg)]) (rest := []) ⟨hx, hb, hml, hown, hts⟩ (ct_X13_literal l dC dI _ (xs ((0 : Int32) + 1).toNatClampNeg) (xs ((0 : Int32) + 2).toNatClampNeg) (xs ((0 : Int32) + 3).toNatClampNeg) m0 mg mdA mdC hmg) (cwV 3 hts (gi_V wd_4096 wd_4097 wd_4098 wd_340 wd_4099) rfl rfl rfl (by decide +kernel) ⟨(Nat.le_of_ble_eq_true rfl), (Nat.le_of_ble_eq_true rfl)⟩) ⟨fun a U g mk q => by obtain ⟨q0, q1, qP, qK, qD⟩ := q; exact ⟨q0, q1, qP, va_K.moved (u := U) (U := U.calling g mk a) (Vm.Alike.refl U.vm) qK, qD⟩, va_recv hK hP (ci := 13) (q0 := 0) rfl rfl, fun U hU hW => ⟨rfl, by rw [hU], by rw [hU]; exact hP, va_K.moved hW.alike hK, hD.weaken (fun _ _ _ _ => trivial)⟩⟩ rfl rfl hl.1 rfl (lv_room (Nat.le_of_ble_eq_true rfl)) dL_law_748 ⟨(Nat.le_of_ble_eq_true rfl), (Nat.le_of_ble_eq_true rfl)⟩) hS (fun q _ h => hFc q h) hFc (fun r u t H1 locs ht hvm hw hB hz1 hk1 hS => ?_)
  subst hw
  obtain ⟨mg1, hmg1, hP1, hK1, hD1⟩ := hB
  rw [ht] at hP1
  have hK1 := va_K.moved hvm.symm hK1
  have hD1 := hD1.weaken (fun k q _ h => hFc q.1 h)
  generalize H1 = H at hP1 hS ⊢
  refine lv_istore (lv' := [(6, .int 0), (5, .int 1), (0, .ref b), (1, .ref x), (2, .ref m0), (3, .ref oA), (4, .int 0)]) hx hb dL_law_751 hl (by decide) rfl (fun ls hl => ?_)
  refine lv_aload_n hx hb dL_law_753 rfl (lv_at hl 4 rfl) ?_
  have hFc := va_free (wc := [(m0, .inr (13, mg1))]) hD1 hS hA [0] rfl
  refine va_calli (va_runV (As := []) (rest := []) ⟨hx, hb, hml, hown, hts⟩ (ct_X13_thrown l dC dI _ 1 m0 mg1 hmg1) (cwV 0 hts (gi_V wd_3015 wd_3016 wd_3017 wd_340 wd_3018) rfl rfl rfl (by decide +kernel) ⟨(Nat.le_of_ble_eq_true rfl), (Nat.le_of_ble_eq_true rfl)⟩) ⟨fun a U g mk q => by obtain ⟨q0, q1, qP, qK, qD⟩ := q; exact ⟨q0, q1, qP, va_K.moved (u := U) (U := U.calling g mk a) (Vm.Alike.refl U.vm) qK, qD⟩, va_recv hK1 hP1 (ci := 13) (q0 := 0) rfl rfl, fun U hU hW => ⟨rfl, by rw [hU], by rw [hU]; exact hP1, va_K.moved hW.alike hK1, hD1.weaken (fun _ _ _ _ => trivial)⟩⟩ rfl rfl hl.1 rfl (lv_room (Nat.le_of_ble_eq_true rfl)) dL_law_754 ⟨(Nat.le_of_ble_eq_true rfl), (Nat.le_of_ble_eq_true rfl)⟩) hS (fun q _ h => hFc q h) hFc (fun r u t H1 locs ht hvm hw hB hz1 hk1 hS => ?_)
  subst hw
  refine lv_iload hx hb dL_law_757 (lv_at hl 1 rfl) ?_
  refine lv_icmp_eq (tgt := 764) hx hb dL_law_759 (by decide) (fun c9 => ?_) (fun c9 => ?_)
  rotate_left
  · first | exact absurd c9 (by decide +kernel) | exact absurd (by decide +kernel) c9
  refine lv_iload hx hb dL_law_764 (lv_at hl 1 rfl) ?_
  refine lv_if_ne (tgt := 781) hx hb dL_law_766 (by decide) (fun c9 => ?_) (fun c9 => ?_)
  rotate_left
  · first | exact absurd c9 (by decide +kernel) | exact absurd (by decide +kernel) c9
  refine lv_goto (tgt := 4099) hx hb dL_law_781 (by decide) ?_
  refine W.widen (k := 470) (n := 2709300) (Nat.le_of_ble_eq_true rfl) (Nat.le_of_ble_eq_true rfl) ?_
  exact law_tail (v5 := 0) (v6 := 0) (lv := []) C0 hS (lv_sub hl [2, 6] rfl)
set_option maxHeartbeats 4000000 in
set_option maxRecDepth 100000 in
theorem law_swept {p : Program} {l : Launch} {e : Env} {s : State} {m : MethodId} {below : List Frame} {meth : Method} {c : Code} {b : Nat} {xs : Nat → Int32} (C0 : lw_At p s m meth c b 7 xs) {dC : Nat → ClassId} {dI : Nat → Nat → Nat} (hlt : l.stackTraces = false) (hth : th (fun q : Nat => s.heap.size ≤ q) s s.heap) (x : Nat) (xg : List Value) (deA : Nat) (deC : ClassId) (deF : Nat → Option Nat) (de0 de1 de2 de3 de4 de5 : Nat) (deg0 deg1 deg2 deg3 deg4 deg5 : List Value) (hdeg0 : fx deg0 16 [(0, .int 0)]) (hdeF0 : deF 0 = some de0) (hdeg1 : fx deg1 16 [(0, .int 0)]) (hdeF1 : deF 1 = some de1) (hdeg2 : fx deg2 16 [(0, .int 0)]) (hdeF2 : deF 2 = some de2) (hdeg3 : fx deg3 16 [(0, .int 0)]) (hdeF3 : deF 3 = some de3) (hdeg4 : fx deg4 16 [(0, .int 0)]) (hdeF4 : deF 4 = some de4) (hdeg5 : fx deg5 16 [(0, .int 0)]) (hdeF5 : deF 5 = some de5) (m0 : Nat) (mg : List Value) (mdA : Nat) (mdC : ClassId) (oA : Nat) (oC : ClassId) (oF : Nat → Int64) (hxg : fx xg 17 [(7, .ref deA)]) (hmg : fx mg 225 [(55, .ref mdA)]) (H : Heap) (locs : List Loc) (hK : va_K (dC, dI) CL [(deC, .object "ChipFlow$Design"), (mdC, .boolean), (oC, .long)] s) (hP : va_P (dC, dI) CL [(x, .inr (12, xg)), (deA, .inl (deC, (6, .inr (.inr (.inr (.inr deF)))))), (de0, .inr (3, deg0)), (de1, .inr (3, deg1)), (de2, .inr (3, deg2)), (de3, .inr (3, deg3)), (de4, .inr (3, deg4)), (de5, .inr (3, deg5)), (m0, .inr (13, mg)), (mdA, .inl (mdC, (6, .inl (fun _ => 0)))), (oA, .inl (oC, (1, .inr (.inl oF))))] H) (hD : va_D (fun q : Nat => s.heap.size ≤ q) [(x, .inr (12, xg)), (deA, .inl (deC, (6, .inr (.inr (.inr (.inr deF)))))), (de0, .inr (3, deg0)), (de1, .inr (3, deg1)), (de2, .inr (3, deg2)), (de3, .inr (3, deg3)), (de4, .inr (3, deg4)), (de5, .inr (3, deg5)), (m0, .inr (13, mg)), (mdA, .inl (mdC, (6, .inl (fun _ => 0)))), (oA, .inl (oC, (1, .inr (.inl oF))))]) (hS : va_S (fun q : Nat => s.heap.size ≤ q) s.heap H locs) (ls : Array Slot) (hl : lv_has ls 7 [(0, .ref b), (1, .ref x), (2, .ref m0), (3, .ref oA), (4, .int 0)]) : W p l e room_1 s m #[Value.ref b] below meth c H locs 451 2709142 (lw_Z below #[Value.ref b] s) (F0 m 784 ls []) := by
  obtain ⟨hx, hb, hr, hml, hown, hts0, hX, hbl, hlocks, hgv⟩ := id C0
  have hts : ∀ w ∈ BG, w.before _ s = true := fun w h => hts0 w (List.mem_filter.mp h).1
  have hown : s.vm.findClass RL = some m.cls := hown
  have hA : ∀ q : Nat, s.heap.size ≤ q → (fun q : Nat => s.heap.size ≤ q) q := fun _ h => h
  have hbA : ¬ (fun q : Nat => s.heap.size ≤ q) b := Nat.not_le.mpr hbl
  refine lv_aload_n hx hb dL_law_784 rfl (lv_at hl 1 rfl) ?_
  refine lv_aload_n hx hb dL_law_785 rfl (lv_at hl 0 rfl) ?_
  refine lv_iload hx hb dL_law_786 (lv_at hl 4 rfl) ?_
  refine lv_iconst (v := 1) hx hb dL_law_788 (by decide +kernel) ?_
  refine lv_iadd hx hb dL_law_789 ?_
  refine va_sld hx hb hX hbl hbA hS vi_1 dL_law_790 ?_
  refine lv_aload_n hx hb dL_law_791 rfl (lv_at hl 0 rfl) ?_
  refine lv_iload hx hb dL_law_792 (lv_at hl 4 rfl) ?_
  refine lv_iconst (v := 2) hx hb dL_law_794 (by decide +kernel) ?_
  refine lv_iadd hx hb dL_law_795 ?_
  refine va_sld hx hb hX hbl hbA hS vi_2 dL_law_796 ?_
  refine lv_aload_n hx hb dL_law_797 rfl (lv_at hl 3 rfl) ?_
  have hPc := hP.sub (ws' := [(x, .inr (12, xg)), (deA, .inl (deC, (6, .inr (.inr (.inr (.inr deF)))))), (de0, .inr (3, deg0)), (de1, .inr (3, deg1)), (de2, .inr (3, deg2)), (de3, .inr (3, deg3)), (de4, .inr (3, deg4)), (de5, .inr (3, deg5)), (oA, .inl (oC, (1, .inr (.inl oF))))]) [0, 1, 2, 3, 4, 5, 6, 7, 10] rfl
  have hDc := hD.sub (ws' := [(x, .inr (12, xg)), (deA, .inl (deC, (6, .inr (.inr (.inr (.inr deF)))))), (de0, .inr (3, deg0)), (de1, .inr (3, deg1)), (de2, .inr (3, deg2)), (de3, .inr (3, deg3)), (de4, .inr (3, deg4)), (de5, .inr (3, deg5)), (oA, .inl (oC, (1, .inr (.inl oF))))]) [0, 1, 2, 3, 4, 5, 6, 7, 10] (by decide) rfl
  have hKc := hK.sub (tys' := [(deC, .object "ChipFlow$Design"), (oC, .long)]) [0, 2] rfl
  have hFc := va_free (wc := [(x, .inr (12, xg)), (deA, .inl (deC, (6, .inr (.inr (.inr (.inr deF)))))), (de0, .inr (3, deg0)), (de1, .inr (3, deg1)), (de2, .inr (3, deg2)), (de3, .inr (3, deg3)), (de4, .inr (3, deg4)), (de5, .inr (3, deg5)), (oA, .inl (oC, (1, .inr (.inl oF))))]) hD hS hA [0, 1, 2, 3, 4, 5, 6, 7, 10] rfl
  refine va_calli (vx_runSW (As := [.ref x, .int (xs ((0 : Int32) + 1).toNatClampNeg), .int (xs ((0 : Int32) + 2).toNatClampNeg), .ref oA]) (rest := []) ⟨hx, hb, hml, hown, hts⟩ (ct_L_swept l hlt dC dI H.size (xs ((0 : Int32) + 1).toNatClampNeg) (xs ((0 : Int32) + 2).toNatClampNeg) x xg deA deC deF de0 de1 de2 de3 de4 de5 deg0 deg1 deg2 deg3 deg4 deg5 hdeg0 hdeF0 hdeg1 hdeF1 hdeg2 hdeF2 hdeg3 hdeF3 hdeg4 hdeF4 hdeg5 hdeF5 oA oC oF hxg) (vx_cwSW 4 hts (gi_W wd_1861 wd_1862 wd_326 wd_1863) rfl rfl rfl (by decide +kernel) ⟨(Nat.le_of_ble_eq_true rfl), (Nat.le_of_ble_eq_true rfl)⟩) ⟨fun a U g mk q => by obtain ⟨q0, q1, qP, qK, qD, qT⟩ := q; exact ⟨q0, q1, qP, va_K.moved (u := U) (U := U.calling g mk a) (Vm.Alike.refl U.vm) qK, qD, th.moved (u := U) (U := U.calling g mk a) (Vm.Alike.refl U.vm) qT⟩, fun U hU hW => ⟨rfl, by rw [hU], by rw [hU]; exact hPc, va_K.moved hW.alike hKc, hDc.weaken (fun _ _ _ _ => trivial), by rw [hU]; exact ((hth.kept hS.2.1).narrow hFc).moved hW.alike⟩⟩ rfl rfl hl.1 rfl (lv_room (Nat.le_of_ble_eq_true rfl)) dL_law_798 ⟨(Nat.le_of_ble_eq_true rfl), (Nat.le_of_ble_eq_true rfl)⟩) hS (fun q _ h => hFc q h) hFc (fun r u t H1 locs ht hvm hw hB hz1 hk1 hS => ?_)
  subst hw
  obtain ⟨hP1, -, hD1⟩ := hB
  rw [ht] at hP1
  obtain ⟨hP, hD⟩ := va_join (wr := [(m0, .inr (13, mg)), (mdA, .inl (mdC, (6, .inl (fun _ => 0))))]) (w1 := [(oA, .inl (oC, (1, .inr (.inl oF))))]) hP hD [0, 1, 2, 3, 4, 5, 6, 7, 10] [8, 9] rfl rfl (by decide) (by decide) hk1 hFc hP1 hD1
  have hP := hP.sub (ws' := [(m0, .inr (13, mg)), (mdA, .inl (mdC, (6, .inl (fun _ => 0))))]) [0, 1] rfl
  have hD := hD.sub (ws' := [(m0, .inr (13, mg)), (mdA, .inl (mdC, (6, .inl (fun _ => 0))))]) [0, 1] (by decide) rfl
  have hK := hK.sub (tys' := [(mdC, .boolean)]) [1] rfl
  generalize H1 = H at hP hS ⊢
  refine W.widen (k := 452) (n := 2709148) (Nat.le_of_ble_eq_true rfl) (Nat.le_of_ble_eq_true rfl) ?_
  refine lv_istore (lv' := [(5, .int 1), (0, .ref b), (1, .ref x), (2, .ref m0), (3, .ref oA), (4, .int 0)]) hx hb dL_law_801 hl (by decide) rfl (fun ls hl => ?_)
  refine lv_aload_n hx hb dL_law_803 rfl (lv_at hl 3 rfl) ?_
  refine lv_aload_n hx hb dL_law_804 rfl (lv_at hl 1 rfl) ?_
  refine lv_iload hx hb dL_law_805 (lv_at hl 5 rfl) ?_
  refine lv_iconst (v := 1) hx hb dL_law_807 (by decide +kernel) ?_
  refine lv_iadd hx hb dL_law_808 ?_
  refine va_sld hx hb hX hbl hbA hS vi_1 dL_law_809 ?_
  refine lv_aload_n hx hb dL_law_810 rfl (lv_at hl 1 rfl) ?_
  refine lv_iload hx hb dL_law_811 (lv_at hl 5 rfl) ?_
  refine lv_iconst (v := 2) hx hb dL_law_813 (by decide +kernel) ?_
  refine lv_iadd hx hb dL_law_814 ?_
  refine va_sld hx hb hX hbl hbA hS vi_2 dL_law_815 ?_
  have hFc := va_free (wc := [(m0, .inr (13, mg)), (mdA, .inl (mdC, (6, .inl (fun _ => 0))))]) hD hS hA [0, 1] rfl
  refine va_calli (va_runV (As := [.int (xs ((0 : Int32) + 1).toNatClampNeg), .int (xs ((0 : Int32) + 2).toNatClampNeg)]) (rest := []) ⟨hx, hb, hml, hown, hts⟩ (ct_X13_swept l dC dI _ (xs ((0 : Int32) + 1).toNatClampNeg) (xs ((0 : Int32) + 2).toNatClampNeg) m0 mg mdA mdC hmg) (cwV 2 hts (gi_V wd_4100 wd_4101 wd_4102 wd_340 wd_4103) rfl rfl rfl (by decide +kernel) ⟨(Nat.le_of_ble_eq_true rfl), (Nat.le_of_ble_eq_true rfl)⟩) ⟨fun a U g mk q => by obtain ⟨q0, q1, qP, qK, qD⟩ := q; exact ⟨q0, q1, qP, va_K.moved (u := U) (U := U.calling g mk a) (Vm.Alike.refl U.vm) qK, qD⟩, va_recv hK hP (ci := 13) (q0 := 0) rfl rfl, fun U hU hW => ⟨rfl, by rw [hU], by rw [hU]; exact hP, va_K.moved hW.alike hK, hD.weaken (fun _ _ _ _ => trivial)⟩⟩ rfl rfl hl.1 rfl (lv_room (Nat.le_of_ble_eq_true rfl)) dL_law_816 ⟨(Nat.le_of_ble_eq_true rfl), (Nat.le_of_ble_eq_true rfl)⟩) hS (fun q _ h => hFc q h) hFc (fun r u t H1 locs ht hvm hw hB hz1 hk1 hS => ?_)
  subst hw
  obtain ⟨mg1, hmg1, hP1, hK1, hD1⟩ := hB
  rw [ht] at hP1
  have hK1 := va_K.moved hvm.symm hK1
  have hD1 := hD1.weaken (fun k q _ h => hFc q.1 h)
  generalize H1 = H at hP1 hS ⊢
  refine lv_istore (lv' := [(6, .int 0), (5, .int 1), (0, .ref b), (1, .ref x), (2, .ref m0), (3, .ref oA), (4, .int 0)]) hx hb dL_law_819 hl (by decide) rfl (fun ls hl => ?_)
  refine lv_aload_n hx hb dL_law_821 rfl (lv_at hl 4 rfl) ?_
  have hFc := va_free (wc := [(m0, .inr (13, mg1))]) hD1 hS hA [0] rfl
  refine va_calli (va_runV (As := []) (rest := []) ⟨hx, hb, hml, hown, hts⟩ (ct_X13_thrown l dC dI _ 1 m0 mg1 hmg1) (cwV 0 hts (gi_V wd_3015 wd_3016 wd_3017 wd_340 wd_3018) rfl rfl rfl (by decide +kernel) ⟨(Nat.le_of_ble_eq_true rfl), (Nat.le_of_ble_eq_true rfl)⟩) ⟨fun a U g mk q => by obtain ⟨q0, q1, qP, qK, qD⟩ := q; exact ⟨q0, q1, qP, va_K.moved (u := U) (U := U.calling g mk a) (Vm.Alike.refl U.vm) qK, qD⟩, va_recv hK1 hP1 (ci := 13) (q0 := 0) rfl rfl, fun U hU hW => ⟨rfl, by rw [hU], by rw [hU]; exact hP1, va_K.moved hW.alike hK1, hD1.weaken (fun _ _ _ _ => trivial)⟩⟩ rfl rfl hl.1 rfl (lv_room (Nat.le_of_ble_eq_true rfl)) dL_law_822 ⟨(Nat.le_of_ble_eq_true rfl), (Nat.le_of_ble_eq_true rfl)⟩) hS (fun q _ h => hFc q h) hFc (fun r u t H1 locs ht hvm hw hB hz1 hk1 hS => ?_)
  subst hw
  refine lv_iload hx hb dL_law_825 (lv_at hl 1 rfl) ?_
  refine lv_icmp_eq (tgt := 832) hx hb dL_law_827 (by decide) (fun c9 => ?_) (fun c9 => ?_)
  rotate_left
  · first | exact absurd c9 (by decide +kernel) | exact absurd (by decide +kernel) c9
  refine lv_iload hx hb dL_law_832 (lv_at hl 1 rfl) ?_
  refine lv_if_ne (tgt := 849) hx hb dL_law_834 (by decide) (fun c9 => ?_) (fun c9 => ?_)
  rotate_left
  · first | exact absurd c9 (by decide +kernel) | exact absurd (by decide +kernel) c9
  refine lv_goto (tgt := 4099) hx hb dL_law_849 (by decide) ?_
  refine W.widen (k := 470) (n := 2709300) (Nat.le_of_ble_eq_true rfl) (Nat.le_of_ble_eq_true rfl) ?_
  exact law_tail (v5 := 0) (v6 := 0) (lv := []) C0 hS (lv_sub hl [2, 6] rfl)
set_option maxHeartbeats 4000000 in
set_option maxRecDepth 100000 in
theorem law_root {p : Program} {l : Launch} {e : Env} {s : State} {m : MethodId} {below : List Frame} {meth : Method} {c : Code} {b : Nat} {xs : Nat → Int32} (C0 : lw_At p s m meth c b 7 xs) {dC : Nat → ClassId} {dI : Nat → Nat → Nat} (hlt : l.stackTraces = false) (hth : th (fun q : Nat => s.heap.size ≤ q) s s.heap) (x : Nat) (xg : List Value) (deA : Nat) (deC : ClassId) (deF : Nat → Option Nat) (de0 de1 de2 de3 de4 de5 : Nat) (deg0 deg1 deg2 deg3 deg4 deg5 : List Value) (hdeg0 : fx deg0 16 [(0, .int 0)]) (hdeF0 : deF 0 = some de0) (hdeg1 : fx deg1 16 [(0, .int 0)]) (hdeF1 : deF 1 = some de1) (hdeg2 : fx deg2 16 [(0, .int 0)]) (hdeF2 : deF 2 = some de2) (hdeg3 : fx deg3 16 [(0, .int 0)]) (hdeF3 : deF 3 = some de3) (hdeg4 : fx deg4 16 [(0, .int 0)]) (hdeF4 : deF 4 = some de4) (hdeg5 : fx deg5 16 [(0, .int 0)]) (hdeF5 : deF 5 = some de5) (m0 : Nat) (mg : List Value) (mdA : Nat) (mdC : ClassId) (oA : Nat) (oC : ClassId) (oF : Nat → Int64) (hxg : fx xg 17 [(7, .ref deA)]) (hmg : fx mg 225 [(55, .ref mdA)]) (H : Heap) (locs : List Loc) (hK : va_K (dC, dI) CL [(deC, .object "ChipFlow$Design"), (mdC, .boolean), (oC, .long)] s) (hP : va_P (dC, dI) CL [(x, .inr (12, xg)), (deA, .inl (deC, (6, .inr (.inr (.inr (.inr deF)))))), (de0, .inr (3, deg0)), (de1, .inr (3, deg1)), (de2, .inr (3, deg2)), (de3, .inr (3, deg3)), (de4, .inr (3, deg4)), (de5, .inr (3, deg5)), (m0, .inr (13, mg)), (mdA, .inl (mdC, (6, .inl (fun _ => 0)))), (oA, .inl (oC, (1, .inr (.inl oF))))] H) (hD : va_D (fun q : Nat => s.heap.size ≤ q) [(x, .inr (12, xg)), (deA, .inl (deC, (6, .inr (.inr (.inr (.inr deF)))))), (de0, .inr (3, deg0)), (de1, .inr (3, deg1)), (de2, .inr (3, deg2)), (de3, .inr (3, deg3)), (de4, .inr (3, deg4)), (de5, .inr (3, deg5)), (m0, .inr (13, mg)), (mdA, .inl (mdC, (6, .inl (fun _ => 0)))), (oA, .inl (oC, (1, .inr (.inl oF))))]) (hS : va_S (fun q : Nat => s.heap.size ≤ q) s.heap H locs) (ls : Array Slot) (hl : lv_has ls 7 [(0, .ref b), (1, .ref x), (2, .ref m0), (3, .ref oA), (4, .int 0)]) : W p l e room_1 s m #[Value.ref b] below meth c H locs 451 2709142 (lw_Z below #[Value.ref b] s) (F0 m 852 ls []) := by
  obtain ⟨hx, hb, hr, hml, hown, hts0, hX, hbl, hlocks, hgv⟩ := id C0
  have hts : ∀ w ∈ BG, w.before _ s = true := fun w h => hts0 w (List.mem_filter.mp h).1
  have hown : s.vm.findClass RL = some m.cls := hown
  have hA : ∀ q : Nat, s.heap.size ≤ q → (fun q : Nat => s.heap.size ≤ q) q := fun _ h => h
  have hbA : ¬ (fun q : Nat => s.heap.size ≤ q) b := Nat.not_le.mpr hbl
  refine lv_aload_n hx hb dL_law_852 rfl (lv_at hl 1 rfl) ?_
  refine lv_aload_n hx hb dL_law_853 rfl (lv_at hl 0 rfl) ?_
  refine lv_iload hx hb dL_law_854 (lv_at hl 4 rfl) ?_
  refine lv_iconst (v := 1) hx hb dL_law_856 (by decide +kernel) ?_
  refine lv_iadd hx hb dL_law_857 ?_
  refine va_sld hx hb hX hbl hbA hS vi_1 dL_law_858 ?_
  refine lv_aload_n hx hb dL_law_859 rfl (lv_at hl 0 rfl) ?_
  refine lv_iload hx hb dL_law_860 (lv_at hl 4 rfl) ?_
  refine lv_iconst (v := 2) hx hb dL_law_862 (by decide +kernel) ?_
  refine lv_iadd hx hb dL_law_863 ?_
  refine va_sld hx hb hX hbl hbA hS vi_2 dL_law_864 ?_
  refine lv_aload_n hx hb dL_law_865 rfl (lv_at hl 0 rfl) ?_
  refine lv_iload hx hb dL_law_866 (lv_at hl 4 rfl) ?_
  refine lv_iconst (v := 3) hx hb dL_law_868 (by decide +kernel) ?_
  refine lv_iadd hx hb dL_law_869 ?_
  refine va_sld hx hb hX hbl hbA hS vi_3 dL_law_870 ?_
  refine lv_if_eq (tgt := 878) hx hb dL_law_871 (by decide) (fun c9 => ?_) (fun c9 => ?_)
  · refine lv_iconst (v := 0) hx hb dL_law_878 (by decide +kernel) ?_
    refine lv_aload_n hx hb dL_law_879 rfl (lv_at hl 3 rfl) ?_
    have hPc := hP.sub (ws' := [(x, .inr (12, xg)), (deA, .inl (deC, (6, .inr (.inr (.inr (.inr deF)))))), (de0, .inr (3, deg0)), (de1, .inr (3, deg1)), (de2, .inr (3, deg2)), (de3, .inr (3, deg3)), (de4, .inr (3, deg4)), (de5, .inr (3, deg5)), (oA, .inl (oC, (1, .inr (.inl oF))))]) [0, 1, 2, 3, 4, 5, 6, 7, 10] rfl
    have hDc := hD.sub (ws' := [(x, .inr (12, xg)), (deA, .inl (deC, (6, .inr (.inr (.inr (.inr deF)))))), (de0, .inr (3, deg0)), (de1, .inr (3, deg1)), (de2, .inr (3, deg2)), (de3, .inr (3, deg3)), (de4, .inr (3, deg4)), (de5, .inr (3, deg5)), (oA, .inl (oC, (1, .inr (.inl oF))))]) [0, 1, 2, 3, 4, 5, 6, 7, 10] (by decide) rfl
    have hKc := hK.sub (tys' := [(deC, .object "ChipFlow$Design"), (oC, .long)]) [0, 2] rfl
    have hFc := va_free (wc := [(x, .inr (12, xg)), (deA, .inl (deC, (6, .inr (.inr (.inr (.inr deF)))))), (de0, .inr (3, deg0)), (de1, .inr (3, deg1)), (de2, .inr (3, deg2)), (de3, .inr (3, deg3)), (de4, .inr (3, deg4)), (de5, .inr (3, deg5)), (oA, .inl (oC, (1, .inr (.inl oF))))]) hD hS hA [0, 1, 2, 3, 4, 5, 6, 7, 10] rfl
    refine va_calli (vx_runSW (As := [.ref x, .int (xs ((0 : Int32) + 1).toNatClampNeg), .int (xs ((0 : Int32) + 2).toNatClampNeg), .int 0, .ref oA]) (rest := []) ⟨hx, hb, hml, hown, hts⟩ (ct_L_root l hlt dC dI H.size (xs ((0 : Int32) + 1).toNatClampNeg) (xs ((0 : Int32) + 2).toNatClampNeg) 0 x xg deA deC deF de0 de1 de2 de3 de4 de5 deg0 deg1 deg2 deg3 deg4 deg5 hdeg0 hdeF0 hdeg1 hdeF1 hdeg2 hdeF2 hdeg3 hdeF3 hdeg4 hdeF4 hdeg5 hdeF5 oA oC oF hxg) (vx_cwSW 5 hts (gi_W wd_1868 wd_1869 wd_326 wd_1870) rfl rfl rfl (by decide +kernel) ⟨(Nat.le_of_ble_eq_true rfl), (Nat.le_of_ble_eq_true rfl)⟩) ⟨fun a U g mk q => by obtain ⟨q0, q1, qP, qK, qD, qT⟩ := q; exact ⟨q0, q1, qP, va_K.moved (u := U) (U := U.calling g mk a) (Vm.Alike.refl U.vm) qK, qD, th.moved (u := U) (U := U.calling g mk a) (Vm.Alike.refl U.vm) qT⟩, fun U hU hW => ⟨rfl, by rw [hU], by rw [hU]; exact hPc, va_K.moved hW.alike hKc, hDc.weaken (fun _ _ _ _ => trivial), by rw [hU]; exact ((hth.kept hS.2.1).narrow hFc).moved hW.alike⟩⟩ rfl rfl hl.1 rfl (lv_room (Nat.le_of_ble_eq_true rfl)) dL_law_880 ⟨(Nat.le_of_ble_eq_true rfl), (Nat.le_of_ble_eq_true rfl)⟩) hS (fun q _ h => hFc q h) hFc (fun r u t H1 locs ht hvm hw hB hz1 hk1 hS => ?_)
    subst hw
    obtain ⟨hP1, -, hD1⟩ := hB
    rw [ht] at hP1
    obtain ⟨hP, hD⟩ := va_join (wr := [(m0, .inr (13, mg)), (mdA, .inl (mdC, (6, .inl (fun _ => 0))))]) (w1 := [(oA, .inl (oC, (1, .inr (.inl oF))))]) hP hD [0, 1, 2, 3, 4, 5, 6, 7, 10] [8, 9] rfl rfl (by decide) (by decide) hk1 hFc hP1 hD1
    have hP := hP.sub (ws' := [(m0, .inr (13, mg)), (mdA, .inl (mdC, (6, .inl (fun _ => 0))))]) [0, 1] rfl
    have hD := hD.sub (ws' := [(m0, .inr (13, mg)), (mdA, .inl (mdC, (6, .inl (fun _ => 0))))]) [0, 1] (by decide) rfl
    have hK := hK.sub (tys' := [(mdC, .boolean)]) [1] rfl
    generalize H1 = H at hP hS ⊢
    refine W.widen (k := 452) (n := 2709148) (Nat.le_of_ble_eq_true rfl) (Nat.le_of_ble_eq_true rfl) ?_
    refine lv_istore (lv' := [(5, .int 1), (0, .ref b), (1, .ref x), (2, .ref m0), (3, .ref oA), (4, .int 0)]) hx hb dL_law_883 hl (by decide) rfl (fun ls hl => ?_)
    refine lv_aload_n hx hb dL_law_885 rfl (lv_at hl 3 rfl) ?_
    refine lv_aload_n hx hb dL_law_886 rfl (lv_at hl 1 rfl) ?_
    refine lv_iload hx hb dL_law_887 (lv_at hl 5 rfl) ?_
    refine lv_iconst (v := 1) hx hb dL_law_889 (by decide +kernel) ?_
    refine lv_iadd hx hb dL_law_890 ?_
    refine va_sld hx hb hX hbl hbA hS vi_1 dL_law_891 ?_
    refine lv_aload_n hx hb dL_law_892 rfl (lv_at hl 1 rfl) ?_
    refine lv_iload hx hb dL_law_893 (lv_at hl 5 rfl) ?_
    refine lv_iconst (v := 2) hx hb dL_law_895 (by decide +kernel) ?_
    refine lv_iadd hx hb dL_law_896 ?_
    refine va_sld hx hb hX hbl hbA hS vi_2 dL_law_897 ?_
    refine lv_aload_n hx hb dL_law_898 rfl (lv_at hl 1 rfl) ?_
    refine lv_iload hx hb dL_law_899 (lv_at hl 5 rfl) ?_
    refine lv_iconst (v := 3) hx hb dL_law_901 (by decide +kernel) ?_
    refine lv_iadd hx hb dL_law_902 ?_
    refine va_sld hx hb hX hbl hbA hS vi_3 dL_law_903 ?_
    refine lv_if_eq (tgt := 911) hx hb dL_law_904 (by decide) (fun c9 => ?_) (fun c9 => ?_)
    · refine lv_iconst (v := 0) hx hb dL_law_911 (by decide +kernel) ?_
      have hFc := va_free (wc := [(m0, .inr (13, mg)), (mdA, .inl (mdC, (6, .inl (fun _ => 0))))]) hD hS hA [0, 1] rfl
      refine va_calli (va_runV (As := [.int (xs ((0 : Int32) + 1).toNatClampNeg), .int (xs ((0 : Int32) + 2).toNatClampNeg), .int 0]) (rest := []) ⟨hx, hb, hml, hown, hts⟩ (ct_X13_root l dC dI _ (xs ((0 : Int32) + 1).toNatClampNeg) (xs ((0 : Int32) + 2).toNatClampNeg) 0 m0 mg mdA mdC hmg) (cwV 3 hts (gi_V wd_4104 wd_4105 wd_4106 wd_340 wd_4107) rfl rfl rfl (by decide +kernel) ⟨(Nat.le_of_ble_eq_true rfl), (Nat.le_of_ble_eq_true rfl)⟩) ⟨fun a U g mk q => by obtain ⟨q0, q1, qP, qK, qD⟩ := q; exact ⟨q0, q1, qP, va_K.moved (u := U) (U := U.calling g mk a) (Vm.Alike.refl U.vm) qK, qD⟩, va_recv hK hP (ci := 13) (q0 := 0) rfl rfl, fun U hU hW => ⟨rfl, by rw [hU], by rw [hU]; exact hP, va_K.moved hW.alike hK, hD.weaken (fun _ _ _ _ => trivial)⟩⟩ rfl rfl hl.1 rfl (lv_room (Nat.le_of_ble_eq_true rfl)) dL_law_912 ⟨(Nat.le_of_ble_eq_true rfl), (Nat.le_of_ble_eq_true rfl)⟩) hS (fun q _ h => hFc q h) hFc (fun r u t H1 locs ht hvm hw hB hz1 hk1 hS => ?_)
      subst hw
      obtain ⟨mg1, hmg1, hP1, hK1, hD1⟩ := hB
      rw [ht] at hP1
      have hK1 := va_K.moved hvm.symm hK1
      have hD1 := hD1.weaken (fun k q _ h => hFc q.1 h)
      generalize H1 = H at hP1 hS ⊢
      refine lv_istore (lv' := [(6, .int 0), (5, .int 1), (0, .ref b), (1, .ref x), (2, .ref m0), (3, .ref oA), (4, .int 0)]) hx hb dL_law_915 hl (by decide) rfl (fun ls hl => ?_)
      refine lv_aload_n hx hb dL_law_917 rfl (lv_at hl 4 rfl) ?_
      have hFc := va_free (wc := [(m0, .inr (13, mg1))]) hD1 hS hA [0] rfl
      refine va_calli (va_runV (As := []) (rest := []) ⟨hx, hb, hml, hown, hts⟩ (ct_X13_thrown l dC dI _ 1 m0 mg1 hmg1) (cwV 0 hts (gi_V wd_3015 wd_3016 wd_3017 wd_340 wd_3018) rfl rfl rfl (by decide +kernel) ⟨(Nat.le_of_ble_eq_true rfl), (Nat.le_of_ble_eq_true rfl)⟩) ⟨fun a U g mk q => by obtain ⟨q0, q1, qP, qK, qD⟩ := q; exact ⟨q0, q1, qP, va_K.moved (u := U) (U := U.calling g mk a) (Vm.Alike.refl U.vm) qK, qD⟩, va_recv hK1 hP1 (ci := 13) (q0 := 0) rfl rfl, fun U hU hW => ⟨rfl, by rw [hU], by rw [hU]; exact hP1, va_K.moved hW.alike hK1, hD1.weaken (fun _ _ _ _ => trivial)⟩⟩ rfl rfl hl.1 rfl (lv_room (Nat.le_of_ble_eq_true rfl)) dL_law_918 ⟨(Nat.le_of_ble_eq_true rfl), (Nat.le_of_ble_eq_true rfl)⟩) hS (fun q _ h => hFc q h) hFc (fun r u t H1 locs ht hvm hw hB hz1 hk1 hS => ?_)
      subst hw
      refine lv_iload hx hb dL_law_921 (lv_at hl 1 rfl) ?_
      refine lv_icmp_eq (tgt := 928) hx hb dL_law_923 (by decide) (fun c9 => ?_) (fun c9 => ?_)
      rotate_left
      · first | exact absurd c9 (by decide +kernel) | exact absurd (by decide +kernel) c9
      refine lv_iload hx hb dL_law_928 (lv_at hl 1 rfl) ?_
      refine lv_if_ne (tgt := 945) hx hb dL_law_930 (by decide) (fun c9 => ?_) (fun c9 => ?_)
      rotate_left
      · first | exact absurd c9 (by decide +kernel) | exact absurd (by decide +kernel) c9
      refine lv_goto (tgt := 4099) hx hb dL_law_945 (by decide) ?_
      refine W.widen (k := 470) (n := 2709300) (Nat.le_of_ble_eq_true rfl) (Nat.le_of_ble_eq_true rfl) ?_
      exact law_tail (v5 := 0) (v6 := 0) (lv := []) C0 hS (lv_sub hl [2, 6] rfl)
    · refine lv_iconst (v := 1) hx hb dL_law_907 (by decide +kernel) ?_
      refine lv_goto (tgt := 912) hx hb dL_law_908 (by decide) ?_
      have hFc := va_free (wc := [(m0, .inr (13, mg)), (mdA, .inl (mdC, (6, .inl (fun _ => 0))))]) hD hS hA [0, 1] rfl
      refine va_calli (va_runV (As := [.int (xs ((0 : Int32) + 1).toNatClampNeg), .int (xs ((0 : Int32) + 2).toNatClampNeg), .int 1]) (rest := []) ⟨hx, hb, hml, hown, hts⟩ (ct_X13_root l dC dI _ (xs ((0 : Int32) + 1).toNatClampNeg) (xs ((0 : Int32) + 2).toNatClampNeg) 1 m0 mg mdA mdC hmg) (cwV 3 hts (gi_V wd_4104 wd_4105 wd_4106 wd_340 wd_4107) rfl rfl rfl (by decide +kernel) ⟨(Nat.le_of_ble_eq_true rfl), (Nat.le_of_ble_eq_true rfl)⟩) ⟨fun a U g mk q => by obtain ⟨q0, q1, qP, qK, qD⟩ := q; exact ⟨q0, q1, qP, va_K.moved (u := U) (U := U.calling g mk a) (Vm.Alike.refl U.vm) qK, qD⟩, va_recv hK hP (ci := 13) (q0 := 0) rfl rfl, fun U hU hW => ⟨rfl, by rw [hU], by rw [hU]; exact hP, va_K.moved hW.alike hK, hD.weaken (fun _ _ _ _ => trivial)⟩⟩ rfl rfl hl.1 rfl (lv_room (Nat.le_of_ble_eq_true rfl)) dL_law_912 ⟨(Nat.le_of_ble_eq_true rfl), (Nat.le_of_ble_eq_true rfl)⟩) hS (fun q _ h => hFc q h) hFc (fun r u t H1 locs ht hvm hw hB hz1 hk1 hS => ?_)
      subst hw
      obtain ⟨mg1, hmg1, hP1, hK1, hD1⟩ := hB
      rw [ht] at hP1
      have hK1 := va_K.moved hvm.symm hK1
      have hD1 := hD1.weaken (fun k q _ h => hFc q.1 h)
      generalize H1 = H at hP1 hS ⊢
      refine lv_istore (lv' := [(6, .int 0), (5, .int 1), (0, .ref b), (1, .ref x), (2, .ref m0), (3, .ref oA), (4, .int 0)]) hx hb dL_law_915 hl (by decide) rfl (fun ls hl => ?_)
      refine lv_aload_n hx hb dL_law_917 rfl (lv_at hl 4 rfl) ?_
      have hFc := va_free (wc := [(m0, .inr (13, mg1))]) hD1 hS hA [0] rfl
      refine va_calli (va_runV (As := []) (rest := []) ⟨hx, hb, hml, hown, hts⟩ (ct_X13_thrown l dC dI _ 1 m0 mg1 hmg1) (cwV 0 hts (gi_V wd_3015 wd_3016 wd_3017 wd_340 wd_3018) rfl rfl rfl (by decide +kernel) ⟨(Nat.le_of_ble_eq_true rfl), (Nat.le_of_ble_eq_true rfl)⟩) ⟨fun a U g mk q => by obtain ⟨q0, q1, qP, qK, qD⟩ := q; exact ⟨q0, q1, qP, va_K.moved (u := U) (U := U.calling g mk a) (Vm.Alike.refl U.vm) qK, qD⟩, va_recv hK1 hP1 (ci := 13) (q0 := 0) rfl rfl, fun U hU hW => ⟨rfl, by rw [hU], by rw [hU]; exact hP1, va_K.moved hW.alike hK1, hD1.weaken (fun _ _ _ _ => trivial)⟩⟩ rfl rfl hl.1 rfl (lv_room (Nat.le_of_ble_eq_true rfl)) dL_law_918 ⟨(Nat.le_of_ble_eq_true rfl), (Nat.le_of_ble_eq_true rfl)⟩) hS (fun q _ h => hFc q h) hFc (fun r u t H1 locs ht hvm hw hB hz1 hk1 hS => ?_)
      subst hw
      refine lv_iload hx hb dL_law_921 (lv_at hl 1 rfl) ?_
      refine lv_icmp_eq (tgt := 928) hx hb dL_law_923 (by decide) (fun c9 => ?_) (fun c9 => ?_)
      rotate_left
      · first | exact absurd c9 (by decide +kernel) | exact absurd (by decide +kernel) c9
      refine lv_iload hx hb dL_law_928 (lv_at hl 1 rfl) ?_
      refine lv_if_ne (tgt := 945) hx hb dL_law_930 (by decide) (fun c9 => ?_) (fun c9 => ?_)
      rotate_left
      · first | exact absurd c9 (by decide +kernel) | exact absurd (by decide +kernel) c9
      refine lv_goto (tgt := 4099) hx hb dL_law_945 (by decide) ?_
      refine W.widen (k := 470) (n := 2709300) (Nat.le_of_ble_eq_true rfl) (Nat.le_of_ble_eq_true rfl) ?_
      exact law_tail (v5 := 0) (v6 := 0) (lv := []) C0 hS (lv_sub hl [2, 6] rfl)
  · refine lv_iconst (v := 1) hx hb dL_law_874 (by decide +kernel) ?_
    refine lv_goto (tgt := 879) hx hb dL_law_875 (by decide) ?_
    refine lv_aload_n hx hb dL_law_879 rfl (lv_at hl 3 rfl) ?_
    have hPc := hP.sub (ws' := [(x, .inr (12, xg)), (deA, .inl (deC, (6, .inr (.inr (.inr (.inr deF)))))), (de0, .inr (3, deg0)), (de1, .inr (3, deg1)), (de2, .inr (3, deg2)), (de3, .inr (3, deg3)), (de4, .inr (3, deg4)), (de5, .inr (3, deg5)), (oA, .inl (oC, (1, .inr (.inl oF))))]) [0, 1, 2, 3, 4, 5, 6, 7, 10] rfl
    have hDc := hD.sub (ws' := [(x, .inr (12, xg)), (deA, .inl (deC, (6, .inr (.inr (.inr (.inr deF)))))), (de0, .inr (3, deg0)), (de1, .inr (3, deg1)), (de2, .inr (3, deg2)), (de3, .inr (3, deg3)), (de4, .inr (3, deg4)), (de5, .inr (3, deg5)), (oA, .inl (oC, (1, .inr (.inl oF))))]) [0, 1, 2, 3, 4, 5, 6, 7, 10] (by decide) rfl
    have hKc := hK.sub (tys' := [(deC, .object "ChipFlow$Design"), (oC, .long)]) [0, 2] rfl
    have hFc := va_free (wc := [(x, .inr (12, xg)), (deA, .inl (deC, (6, .inr (.inr (.inr (.inr deF)))))), (de0, .inr (3, deg0)), (de1, .inr (3, deg1)), (de2, .inr (3, deg2)), (de3, .inr (3, deg3)), (de4, .inr (3, deg4)), (de5, .inr (3, deg5)), (oA, .inl (oC, (1, .inr (.inl oF))))]) hD hS hA [0, 1, 2, 3, 4, 5, 6, 7, 10] rfl
    refine va_calli (vx_runSW (As := [.ref x, .int (xs ((0 : Int32) + 1).toNatClampNeg), .int (xs ((0 : Int32) + 2).toNatClampNeg), .int 1, .ref oA]) (rest := []) ⟨hx, hb, hml, hown, hts⟩ (ct_L_root l hlt dC dI H.size (xs ((0 : Int32) + 1).toNatClampNeg) (xs ((0 : Int32) + 2).toNatClampNeg) 1 x xg deA deC deF de0 de1 de2 de3 de4 de5 deg0 deg1 deg2 deg3 deg4 deg5 hdeg0 hdeF0 hdeg1 hdeF1 hdeg2 hdeF2 hdeg3 hdeF3 hdeg4 hdeF4 hdeg5 hdeF5 oA oC oF hxg) (vx_cwSW 5 hts (gi_W wd_1868 wd_1869 wd_326 wd_1870) rfl rfl rfl (by decide +kernel) ⟨(Nat.le_of_ble_eq_true rfl), (Nat.le_of_ble_eq_true rfl)⟩) ⟨fun a U g mk q => by obtain ⟨q0, q1, qP, qK, qD, qT⟩ := q; exact ⟨q0, q1, qP, va_K.moved (u := U) (U := U.calling g mk a) (Vm.Alike.refl U.vm) qK, qD, th.moved (u := U) (U := U.calling g mk a) (Vm.Alike.refl U.vm) qT⟩, fun U hU hW => ⟨rfl, by rw [hU], by rw [hU]; exact hPc, va_K.moved hW.alike hKc, hDc.weaken (fun _ _ _ _ => trivial), by rw [hU]; exact ((hth.kept hS.2.1).narrow hFc).moved hW.alike⟩⟩ rfl rfl hl.1 rfl (lv_room (Nat.le_of_ble_eq_true rfl)) dL_law_880 ⟨(Nat.le_of_ble_eq_true rfl), (Nat.le_of_ble_eq_true rfl)⟩) hS (fun q _ h => hFc q h) hFc (fun r u t H1 locs ht hvm hw hB hz1 hk1 hS => ?_)
    subst hw
    obtain ⟨hP1, -, hD1⟩ := hB
    rw [ht] at hP1
    obtain ⟨hP, hD⟩ := va_join (wr := [(m0, .inr (13, mg)), (mdA, .inl (mdC, (6, .inl (fun _ => 0))))]) (w1 := [(oA, .inl (oC, (1, .inr (.inl oF))))]) hP hD [0, 1, 2, 3, 4, 5, 6, 7, 10] [8, 9] rfl rfl (by decide) (by decide) hk1 hFc hP1 hD1
    have hP := hP.sub (ws' := [(m0, .inr (13, mg)), (mdA, .inl (mdC, (6, .inl (fun _ => 0))))]) [0, 1] rfl
    have hD := hD.sub (ws' := [(m0, .inr (13, mg)), (mdA, .inl (mdC, (6, .inl (fun _ => 0))))]) [0, 1] (by decide) rfl
    have hK := hK.sub (tys' := [(mdC, .boolean)]) [1] rfl
    generalize H1 = H at hP hS ⊢
    refine W.widen (k := 452) (n := 2709148) (Nat.le_of_ble_eq_true rfl) (Nat.le_of_ble_eq_true rfl) ?_
    refine lv_istore (lv' := [(5, .int 1), (0, .ref b), (1, .ref x), (2, .ref m0), (3, .ref oA), (4, .int 0)]) hx hb dL_law_883 hl (by decide) rfl (fun ls hl => ?_)
    refine lv_aload_n hx hb dL_law_885 rfl (lv_at hl 3 rfl) ?_
    refine lv_aload_n hx hb dL_law_886 rfl (lv_at hl 1 rfl) ?_
    refine lv_iload hx hb dL_law_887 (lv_at hl 5 rfl) ?_
    refine lv_iconst (v := 1) hx hb dL_law_889 (by decide +kernel) ?_
    refine lv_iadd hx hb dL_law_890 ?_
    refine va_sld hx hb hX hbl hbA hS vi_1 dL_law_891 ?_
    refine lv_aload_n hx hb dL_law_892 rfl (lv_at hl 1 rfl) ?_
    refine lv_iload hx hb dL_law_893 (lv_at hl 5 rfl) ?_
    refine lv_iconst (v := 2) hx hb dL_law_895 (by decide +kernel) ?_
    refine lv_iadd hx hb dL_law_896 ?_
    refine va_sld hx hb hX hbl hbA hS vi_2 dL_law_897 ?_
    refine lv_aload_n hx hb dL_law_898 rfl (lv_at hl 1 rfl) ?_
    refine lv_iload hx hb dL_law_899 (lv_at hl 5 rfl) ?_
    refine lv_iconst (v := 3) hx hb dL_law_901 (by decide +kernel) ?_
    refine lv_iadd hx hb dL_law_902 ?_
    refine va_sld hx hb hX hbl hbA hS vi_3 dL_law_903 ?_
    refine lv_if_eq (tgt := 911) hx hb dL_law_904 (by decide) (fun c9 => ?_) (fun c9 => ?_)
    · refine lv_iconst (v := 0) hx hb dL_law_911 (by decide +kernel) ?_
      have hFc := va_free (wc := [(m0, .inr (13, mg)), (mdA, .inl (mdC, (6, .inl (fun _ => 0))))]) hD hS hA [0, 1] rfl
      refine va_calli (va_runV (As := [.int (xs ((0 : Int32) + 1).toNatClampNeg), .int (xs ((0 : Int32) + 2).toNatClampNeg), .int 0]) (rest := []) ⟨hx, hb, hml, hown, hts⟩ (ct_X13_root l dC dI _ (xs ((0 : Int32) + 1).toNatClampNeg) (xs ((0 : Int32) + 2).toNatClampNeg) 0 m0 mg mdA mdC hmg) (cwV 3 hts (gi_V wd_4104 wd_4105 wd_4106 wd_340 wd_4107) rfl rfl rfl (by decide +kernel) ⟨(Nat.le_of_ble_eq_true rfl), (Nat.le_of_ble_eq_true rfl)⟩) ⟨fun a U g mk q => by obtain ⟨q0, q1, qP, qK, qD⟩ := q; exact ⟨q0, q1, qP, va_K.moved (u := U) (U := U.calling g mk a) (Vm.Alike.refl U.vm) qK, qD⟩, va_recv hK hP (ci := 13) (q0 := 0) rfl rfl, fun U hU hW => ⟨rfl, by rw [hU], by rw [hU]; exact hP, va_K.moved hW.alike hK, hD.weaken (fun _ _ _ _ => trivial)⟩⟩ rfl rfl hl.1 rfl (lv_room (Nat.le_of_ble_eq_true rfl)) dL_law_912 ⟨(Nat.le_of_ble_eq_true rfl), (Nat.le_of_ble_eq_true rfl)⟩) hS (fun q _ h => hFc q h) hFc (fun r u t H1 locs ht hvm hw hB hz1 hk1 hS => ?_)
      subst hw
      obtain ⟨mg1, hmg1, hP1, hK1, hD1⟩ := hB
      rw [ht] at hP1
      have hK1 := va_K.moved hvm.symm hK1
      have hD1 := hD1.weaken (fun k q _ h => hFc q.1 h)
      generalize H1 = H at hP1 hS ⊢
      refine lv_istore (lv' := [(6, .int 0), (5, .int 1), (0, .ref b), (1, .ref x), (2, .ref m0), (3, .ref oA), (4, .int 0)]) hx hb dL_law_915 hl (by decide) rfl (fun ls hl => ?_)
      refine lv_aload_n hx hb dL_law_917 rfl (lv_at hl 4 rfl) ?_
      have hFc := va_free (wc := [(m0, .inr (13, mg1))]) hD1 hS hA [0] rfl
      refine va_calli (va_runV (As := []) (rest := []) ⟨hx, hb, hml, hown, hts⟩ (ct_X13_thrown l dC dI _ 1 m0 mg1 hmg1) (cwV 0 hts (gi_V wd_3015 wd_3016 wd_3017 wd_340 wd_3018) rfl rfl rfl (by decide +kernel) ⟨(Nat.le_of_ble_eq_true rfl), (Nat.le_of_ble_eq_true rfl)⟩) ⟨fun a U g mk q => by obtain ⟨q0, q1, qP, qK, qD⟩ := q; exact ⟨q0, q1, qP, va_K.moved (u := U) (U := U.calling g mk a) (Vm.Alike.refl U.vm) qK, qD⟩, va_recv hK1 hP1 (ci := 13) (q0 := 0) rfl rfl, fun U hU hW => ⟨rfl, by rw [hU], by rw [hU]; exact hP1, va_K.moved hW.alike hK1, hD1.weaken (fun _ _ _ _ => trivial)⟩⟩ rfl rfl hl.1 rfl (lv_room (Nat.le_of_ble_eq_true rfl)) dL_law_918 ⟨(Nat.le_of_ble_eq_true rfl), (Nat.le_of_ble_eq_true rfl)⟩) hS (fun q _ h => hFc q h) hFc (fun r u t H1 locs ht hvm hw hB hz1 hk1 hS => ?_)
      subst hw
      refine lv_iload hx hb dL_law_921 (lv_at hl 1 rfl) ?_
      refine lv_icmp_eq (tgt := 928) hx hb dL_law_923 (by decide) (fun c9 => ?_) (fun c9 => ?_)
      rotate_left
      · first | exact absurd c9 (by decide +kernel) | exact absurd (by decide +kernel) c9
      refine lv_iload hx hb dL_law_928 (lv_at hl 1 rfl) ?_
      refine lv_if_ne (tgt := 945) hx hb dL_law_930 (by decide) (fun c9 => ?_) (fun c9 => ?_)
      rotate_left
      · first | exact absurd c9 (by decide +kernel) | exact absurd (by decide +kernel) c9
      refine lv_goto (tgt := 4099) hx hb dL_law_945 (by decide) ?_
      refine W.widen (k := 470) (n := 2709300) (Nat.le_of_ble_eq_true rfl) (Nat.le_of_ble_eq_true rfl) ?_
      exact law_tail (v5 := 0) (v6 := 0) (lv := []) C0 hS (lv_sub hl [2, 6] rfl)
    · refine lv_iconst (v := 1) hx hb dL_law_907 (by decide +kernel) ?_
      refine lv_goto (tgt := 912) hx hb dL_law_908 (by decide) ?_
      have hFc := va_free (wc := [(m0, .inr (13, mg)), (mdA, .inl (mdC, (6, .inl (fun _ => 0))))]) hD hS hA [0, 1] rfl
      refine va_calli (va_runV (As := [.int (xs ((0 : Int32) + 1).toNatClampNeg), .int (xs ((0 : Int32) + 2).toNatClampNeg), .int 1]) (rest := []) ⟨hx, hb, hml, hown, hts⟩ (ct_X13_root l dC dI _ (xs ((0 : Int32) + 1).toNatClampNeg) (xs ((0 : Int32) + 2).toNatClampNeg) 1 m0 mg mdA mdC hmg) (cwV 3 hts (gi_V wd_4104 wd_4105 wd_4106 wd_340 wd_4107) rfl rfl rfl (by decide +kernel) ⟨(Nat.le_of_ble_eq_true rfl), (Nat.le_of_ble_eq_true rfl)⟩) ⟨fun a U g mk q => by obtain ⟨q0, q1, qP, qK, qD⟩ := q; exact ⟨q0, q1, qP, va_K.moved (u := U) (U := U.calling g mk a) (Vm.Alike.refl U.vm) qK, qD⟩, va_recv hK hP (ci := 13) (q0 := 0) rfl rfl, fun U hU hW => ⟨rfl, by rw [hU], by rw [hU]; exact hP, va_K.moved hW.alike hK, hD.weaken (fun _ _ _ _ => trivial)⟩⟩ rfl rfl hl.1 rfl (lv_room (Nat.le_of_ble_eq_true rfl)) dL_law_912 ⟨(Nat.le_of_ble_eq_true rfl), (Nat.le_of_ble_eq_true rfl)⟩) hS (fun q _ h => hFc q h) hFc (fun r u t H1 locs ht hvm hw hB hz1 hk1 hS => ?_)
      subst hw
      obtain ⟨mg1, hmg1, hP1, hK1, hD1⟩ := hB
      rw [ht] at hP1
      have hK1 := va_K.moved hvm.symm hK1
      have hD1 := hD1.weaken (fun k q _ h => hFc q.1 h)
      generalize H1 = H at hP1 hS ⊢
      refine lv_istore (lv' := [(6, .int 0), (5, .int 1), (0, .ref b), (1, .ref x), (2, .ref m0), (3, .ref oA), (4, .int 0)]) hx hb dL_law_915 hl (by decide) rfl (fun ls hl => ?_)
      refine lv_aload_n hx hb dL_law_917 rfl (lv_at hl 4 rfl) ?_
      have hFc := va_free (wc := [(m0, .inr (13, mg1))]) hD1 hS hA [0] rfl
      refine va_calli (va_runV (As := []) (rest := []) ⟨hx, hb, hml, hown, hts⟩ (ct_X13_thrown l dC dI _ 1 m0 mg1 hmg1) (cwV 0 hts (gi_V wd_3015 wd_3016 wd_3017 wd_340 wd_3018) rfl rfl rfl (by decide +kernel) ⟨(Nat.le_of_ble_eq_true rfl), (Nat.le_of_ble_eq_true rfl)⟩) ⟨fun a U g mk q => by obtain ⟨q0, q1, qP, qK, qD⟩ := q; exact ⟨q0, q1, qP, va_K.moved (u := U) (U := U.calling g mk a) (Vm.Alike.refl U.vm) qK, qD⟩, va_recv hK1 hP1 (ci := 13) (q0 := 0) rfl rfl, fun U hU hW => ⟨rfl, by rw [hU], by rw [hU]; exact hP1, va_K.moved hW.alike hK1, hD1.weaken (fun _ _ _ _ => trivial)⟩⟩ rfl rfl hl.1 rfl (lv_room (Nat.le_of_ble_eq_true rfl)) dL_law_918 ⟨(Nat.le_of_ble_eq_true rfl), (Nat.le_of_ble_eq_true rfl)⟩) hS (fun q _ h => hFc q h) hFc (fun r u t H1 locs ht hvm hw hB hz1 hk1 hS => ?_)
      subst hw
      refine lv_iload hx hb dL_law_921 (lv_at hl 1 rfl) ?_
      refine lv_icmp_eq (tgt := 928) hx hb dL_law_923 (by decide) (fun c9 => ?_) (fun c9 => ?_)
      rotate_left
      · first | exact absurd c9 (by decide +kernel) | exact absurd (by decide +kernel) c9
      refine lv_iload hx hb dL_law_928 (lv_at hl 1 rfl) ?_
      refine lv_if_ne (tgt := 945) hx hb dL_law_930 (by decide) (fun c9 => ?_) (fun c9 => ?_)
      rotate_left
      · first | exact absurd c9 (by decide +kernel) | exact absurd (by decide +kernel) c9
      refine lv_goto (tgt := 4099) hx hb dL_law_945 (by decide) ?_
      refine W.widen (k := 470) (n := 2709300) (Nat.le_of_ble_eq_true rfl) (Nat.le_of_ble_eq_true rfl) ?_
      exact law_tail (v5 := 0) (v6 := 0) (lv := []) C0 hS (lv_sub hl [2, 6] rfl)
set_option maxHeartbeats 4000000 in
set_option maxRecDepth 100000 in
theorem law_cell {p : Program} {l : Launch} {e : Env} {s : State} {m : MethodId} {below : List Frame} {meth : Method} {c : Code} {b : Nat} {xs : Nat → Int32} (C0 : lw_At p s m meth c b 7 xs) {dC : Nat → ClassId} {dI : Nat → Nat → Nat} (hlt : l.stackTraces = false) (hth : th (fun q : Nat => s.heap.size ≤ q) s s.heap) (x : Nat) (xg : List Value) (liA : Nat) (liC : ClassId) (liF : Nat → Option Nat) (li0 li1 li2 : Nat) (lig0 lig1 lig2 : List Value) (hlig0 : fx lig0 7 [(0, .int 0)]) (hliF0 : liF 0 = some li0) (hlig1 : fx lig1 7 [(0, .int 0)]) (hliF1 : liF 1 = some li1) (hlig2 : fx lig2 7 [(0, .int 0)]) (hliF2 : liF 2 = some li2) (m0 : Nat) (mg : List Value) (mlA : Nat) (mlC : ClassId) (oA : Nat) (oC : ClassId) (oF : Nat → Int64) (hxg : fx xg 17 [(8, .ref liA)]) (hmg : fx mg 225 [(88, .ref mlA)]) (H : Heap) (locs : List Loc) (hK : va_K (dC, dI) CL [(liC, .object "ChipFlow$Library"), (mlC, .boolean), (oC, .long)] s) (hP : va_P (dC, dI) CL [(x, .inr (12, xg)), (liA, .inl (liC, (3, .inr (.inr (.inr (.inr liF)))))), (li0, .inr (5, lig0)), (li1, .inr (5, lig1)), (li2, .inr (5, lig2)), (m0, .inr (13, mg)), (mlA, .inl (mlC, (3, .inl (fun _ => 0)))), (oA, .inl (oC, (1, .inr (.inl oF))))] H) (hD : va_D (fun q : Nat => s.heap.size ≤ q) [(x, .inr (12, xg)), (liA, .inl (liC, (3, .inr (.inr (.inr (.inr liF)))))), (li0, .inr (5, lig0)), (li1, .inr (5, lig1)), (li2, .inr (5, lig2)), (m0, .inr (13, mg)), (mlA, .inl (mlC, (3, .inl (fun _ => 0)))), (oA, .inl (oC, (1, .inr (.inl oF))))]) (hS : va_S (fun q : Nat => s.heap.size ≤ q) s.heap H locs) (ls : Array Slot) (hl : lv_has ls 7 [(0, .ref b), (1, .ref x), (2, .ref m0), (3, .ref oA), (4, .int 0)]) : W p l e room_1 s m #[Value.ref b] below meth c H locs 451 2709142 (lw_Z below #[Value.ref b] s) (F0 m 948 ls []) := by
  obtain ⟨hx, hb, hr, hml, hown, hts0, hX, hbl, hlocks, hgv⟩ := id C0
  have hts : ∀ w ∈ BG, w.before _ s = true := fun w h => hts0 w (List.mem_filter.mp h).1
  have hown : s.vm.findClass RL = some m.cls := hown
  have hA : ∀ q : Nat, s.heap.size ≤ q → (fun q : Nat => s.heap.size ≤ q) q := fun _ h => h
  have hbA : ¬ (fun q : Nat => s.heap.size ≤ q) b := Nat.not_le.mpr hbl
  refine lv_aload_n hx hb dL_law_948 rfl (lv_at hl 1 rfl) ?_
  refine lv_aload_n hx hb dL_law_949 rfl (lv_at hl 0 rfl) ?_
  refine lv_iload hx hb dL_law_950 (lv_at hl 4 rfl) ?_
  refine lv_iconst (v := 1) hx hb dL_law_952 (by decide +kernel) ?_
  refine lv_iadd hx hb dL_law_953 ?_
  refine va_sld hx hb hX hbl hbA hS vi_1 dL_law_954 ?_
  refine lv_aload_n hx hb dL_law_955 rfl (lv_at hl 0 rfl) ?_
  refine lv_iload hx hb dL_law_956 (lv_at hl 4 rfl) ?_
  refine lv_iconst (v := 2) hx hb dL_law_958 (by decide +kernel) ?_
  refine lv_iadd hx hb dL_law_959 ?_
  refine va_sld hx hb hX hbl hbA hS vi_2 dL_law_960 ?_
  refine lv_aload_n hx hb dL_law_961 rfl (lv_at hl 0 rfl) ?_
  refine lv_iload hx hb dL_law_962 (lv_at hl 4 rfl) ?_
  refine lv_iconst (v := 3) hx hb dL_law_964 (by decide +kernel) ?_
  refine lv_iadd hx hb dL_law_965 ?_
  refine va_sld hx hb hX hbl hbA hS vi_3 dL_law_966 ?_
  refine lv_aload_n hx hb dL_law_967 rfl (lv_at hl 3 rfl) ?_
  have hPc := hP.sub (ws' := [(x, .inr (12, xg)), (liA, .inl (liC, (3, .inr (.inr (.inr (.inr liF)))))), (li0, .inr (5, lig0)), (li1, .inr (5, lig1)), (li2, .inr (5, lig2)), (oA, .inl (oC, (1, .inr (.inl oF))))]) [0, 1, 2, 3, 4, 7] rfl
  have hDc := hD.sub (ws' := [(x, .inr (12, xg)), (liA, .inl (liC, (3, .inr (.inr (.inr (.inr liF)))))), (li0, .inr (5, lig0)), (li1, .inr (5, lig1)), (li2, .inr (5, lig2)), (oA, .inl (oC, (1, .inr (.inl oF))))]) [0, 1, 2, 3, 4, 7] (by decide) rfl
  have hKc := hK.sub (tys' := [(liC, .object "ChipFlow$Library"), (oC, .long)]) [0, 2] rfl
  have hFc := va_free (wc := [(x, .inr (12, xg)), (liA, .inl (liC, (3, .inr (.inr (.inr (.inr liF)))))), (li0, .inr (5, lig0)), (li1, .inr (5, lig1)), (li2, .inr (5, lig2)), (oA, .inl (oC, (1, .inr (.inl oF))))]) hD hS hA [0, 1, 2, 3, 4, 7] rfl
  refine va_calli (vx_runSW (As := [.ref x, .int (xs ((0 : Int32) + 1).toNatClampNeg), .int (xs ((0 : Int32) + 2).toNatClampNeg), .int (xs ((0 : Int32) + 3).toNatClampNeg), .ref oA]) (rest := []) ⟨hx, hb, hml, hown, hts⟩ (ct_L_cell l hlt dC dI H.size (xs ((0 : Int32) + 1).toNatClampNeg) (xs ((0 : Int32) + 2).toNatClampNeg) (xs ((0 : Int32) + 3).toNatClampNeg) x xg liA liC liF li0 li1 li2 lig0 lig1 lig2 hlig0 hliF0 hlig1 hliF1 hlig2 hliF2 oA oC oF hxg) (vx_cwSW 5 hts (gi_W wd_1875 wd_1876 wd_326 wd_1877) rfl rfl rfl (by decide +kernel) ⟨(Nat.le_of_ble_eq_true rfl), (Nat.le_of_ble_eq_true rfl)⟩) ⟨fun a U g mk q => by obtain ⟨q0, q1, qP, qK, qD, qT⟩ := q; exact ⟨q0, q1, qP, va_K.moved (u := U) (U := U.calling g mk a) (Vm.Alike.refl U.vm) qK, qD, th.moved (u := U) (U := U.calling g mk a) (Vm.Alike.refl U.vm) qT⟩, fun U hU hW => ⟨rfl, by rw [hU], by rw [hU]; exact hPc, va_K.moved hW.alike hKc, hDc.weaken (fun _ _ _ _ => trivial), by rw [hU]; exact ((hth.kept hS.2.1).narrow hFc).moved hW.alike⟩⟩ rfl rfl hl.1 rfl (lv_room (Nat.le_of_ble_eq_true rfl)) dL_law_968 ⟨(Nat.le_of_ble_eq_true rfl), (Nat.le_of_ble_eq_true rfl)⟩) hS (fun q _ h => hFc q h) hFc (fun r u t H1 locs ht hvm hw hB hz1 hk1 hS => ?_)
  subst hw
  obtain ⟨hP1, -, hD1⟩ := hB
  rw [ht] at hP1
  obtain ⟨hP, hD⟩ := va_join (wr := [(m0, .inr (13, mg)), (mlA, .inl (mlC, (3, .inl (fun _ => 0))))]) (w1 := [(oA, .inl (oC, (1, .inr (.inl oF))))]) hP hD [0, 1, 2, 3, 4, 7] [5, 6] rfl rfl (by decide) (by decide) hk1 hFc hP1 hD1
  have hP := hP.sub (ws' := [(m0, .inr (13, mg)), (mlA, .inl (mlC, (3, .inl (fun _ => 0))))]) [0, 1] rfl
  have hD := hD.sub (ws' := [(m0, .inr (13, mg)), (mlA, .inl (mlC, (3, .inl (fun _ => 0))))]) [0, 1] (by decide) rfl
  have hK := hK.sub (tys' := [(mlC, .boolean)]) [1] rfl
  generalize H1 = H at hP hS ⊢
  refine W.widen (k := 452) (n := 2709148) (Nat.le_of_ble_eq_true rfl) (Nat.le_of_ble_eq_true rfl) ?_
  refine lv_istore (lv' := [(5, .int 1), (0, .ref b), (1, .ref x), (2, .ref m0), (3, .ref oA), (4, .int 0)]) hx hb dL_law_971 hl (by decide) rfl (fun ls hl => ?_)
  refine lv_aload_n hx hb dL_law_973 rfl (lv_at hl 3 rfl) ?_
  refine lv_aload_n hx hb dL_law_974 rfl (lv_at hl 1 rfl) ?_
  refine lv_iload hx hb dL_law_975 (lv_at hl 5 rfl) ?_
  refine lv_iconst (v := 1) hx hb dL_law_977 (by decide +kernel) ?_
  refine lv_iadd hx hb dL_law_978 ?_
  refine va_sld hx hb hX hbl hbA hS vi_1 dL_law_979 ?_
  refine lv_aload_n hx hb dL_law_980 rfl (lv_at hl 1 rfl) ?_
  refine lv_iload hx hb dL_law_981 (lv_at hl 5 rfl) ?_
  refine lv_iconst (v := 2) hx hb dL_law_983 (by decide +kernel) ?_
  refine lv_iadd hx hb dL_law_984 ?_
  refine va_sld hx hb hX hbl hbA hS vi_2 dL_law_985 ?_
  refine lv_aload_n hx hb dL_law_986 rfl (lv_at hl 1 rfl) ?_
  refine lv_iload hx hb dL_law_987 (lv_at hl 5 rfl) ?_
  refine lv_iconst (v := 3) hx hb dL_law_989 (by decide +kernel) ?_
  refine lv_iadd hx hb dL_law_990 ?_
  refine va_sld hx hb hX hbl hbA hS vi_3 dL_law_991 ?_
  have hFc := va_free (wc := [(m0, .inr (13, mg)), (mlA, .inl (mlC, (3, .inl (fun _ => 0))))]) hD hS hA [0, 1] rfl
  refine va_calli (va_runV (As := [.int (xs ((0 : Int32) + 1).toNatClampNeg), .int (xs ((0 : Int32) + 2).toNatClampNeg), .int (xs ((0 : Int32) + 3).toNatClampNeg)]) (rest := []) ⟨hx, hb, hml, hown, hts⟩ (ct_X13_cell l dC dI _ (xs ((0 : Int32) + 1).toNatClampNeg) (xs ((0 : Int32) + 2).toNatClampNeg) (xs ((0 : Int32) + 3).toNatClampNeg) m0 mg mlA mlC hmg) (cwV 3 hts (gi_V wd_4108 wd_4109 wd_4110 wd_340 wd_4111) rfl rfl rfl (by decide +kernel) ⟨(Nat.le_of_ble_eq_true rfl), (Nat.le_of_ble_eq_true rfl)⟩) ⟨fun a U g mk q => by obtain ⟨q0, q1, qP, qK, qD⟩ := q; exact ⟨q0, q1, qP, va_K.moved (u := U) (U := U.calling g mk a) (Vm.Alike.refl U.vm) qK, qD⟩, va_recv hK hP (ci := 13) (q0 := 0) rfl rfl, fun U hU hW => ⟨rfl, by rw [hU], by rw [hU]; exact hP, va_K.moved hW.alike hK, hD.weaken (fun _ _ _ _ => trivial)⟩⟩ rfl rfl hl.1 rfl (lv_room (Nat.le_of_ble_eq_true rfl)) dL_law_992 ⟨(Nat.le_of_ble_eq_true rfl), (Nat.le_of_ble_eq_true rfl)⟩) hS (fun q _ h => hFc q h) hFc (fun r u t H1 locs ht hvm hw hB hz1 hk1 hS => ?_)
  subst hw
  obtain ⟨mg1, hmg1, hP1, hK1, hD1⟩ := hB
  rw [ht] at hP1
  have hK1 := va_K.moved hvm.symm hK1
  have hD1 := hD1.weaken (fun k q _ h => hFc q.1 h)
  generalize H1 = H at hP1 hS ⊢
  refine lv_istore (lv' := [(6, .int 0), (5, .int 1), (0, .ref b), (1, .ref x), (2, .ref m0), (3, .ref oA), (4, .int 0)]) hx hb dL_law_995 hl (by decide) rfl (fun ls hl => ?_)
  refine lv_aload_n hx hb dL_law_997 rfl (lv_at hl 4 rfl) ?_
  have hFc := va_free (wc := [(m0, .inr (13, mg1))]) hD1 hS hA [0] rfl
  refine va_calli (va_runV (As := []) (rest := []) ⟨hx, hb, hml, hown, hts⟩ (ct_X13_thrown l dC dI _ 1 m0 mg1 hmg1) (cwV 0 hts (gi_V wd_3015 wd_3016 wd_3017 wd_340 wd_3018) rfl rfl rfl (by decide +kernel) ⟨(Nat.le_of_ble_eq_true rfl), (Nat.le_of_ble_eq_true rfl)⟩) ⟨fun a U g mk q => by obtain ⟨q0, q1, qP, qK, qD⟩ := q; exact ⟨q0, q1, qP, va_K.moved (u := U) (U := U.calling g mk a) (Vm.Alike.refl U.vm) qK, qD⟩, va_recv hK1 hP1 (ci := 13) (q0 := 0) rfl rfl, fun U hU hW => ⟨rfl, by rw [hU], by rw [hU]; exact hP1, va_K.moved hW.alike hK1, hD1.weaken (fun _ _ _ _ => trivial)⟩⟩ rfl rfl hl.1 rfl (lv_room (Nat.le_of_ble_eq_true rfl)) dL_law_998 ⟨(Nat.le_of_ble_eq_true rfl), (Nat.le_of_ble_eq_true rfl)⟩) hS (fun q _ h => hFc q h) hFc (fun r u t H1 locs ht hvm hw hB hz1 hk1 hS => ?_)
  subst hw
  refine lv_iload hx hb dL_law_1001 (lv_at hl 1 rfl) ?_
  refine lv_icmp_eq (tgt := 1008) hx hb dL_law_1003 (by decide) (fun c9 => ?_) (fun c9 => ?_)
  rotate_left
  · first | exact absurd c9 (by decide +kernel) | exact absurd (by decide +kernel) c9
  refine lv_iload hx hb dL_law_1008 (lv_at hl 1 rfl) ?_
  refine lv_if_ne (tgt := 1025) hx hb dL_law_1010 (by decide) (fun c9 => ?_) (fun c9 => ?_)
  rotate_left
  · first | exact absurd c9 (by decide +kernel) | exact absurd (by decide +kernel) c9
  refine lv_goto (tgt := 4099) hx hb dL_law_1025 (by decide) ?_
  refine W.widen (k := 470) (n := 2709300) (Nat.le_of_ble_eq_true rfl) (Nat.le_of_ble_eq_true rfl) ?_
  exact law_tail (v5 := 0) (v6 := 0) (lv := []) C0 hS (lv_sub hl [2, 6] rfl)
set_option maxHeartbeats 4000000 in
set_option maxRecDepth 100000 in
theorem law_play {p : Program} {l : Launch} {e : Env} {s : State} {m : MethodId} {below : List Frame} {meth : Method} {c : Code} {b : Nat} {xs : Nat → Int32} (C0 : lw_At p s m meth c b 7 xs) {dC : Nat → ClassId} {dI : Nat → Nat → Nat} (hlt : l.stackTraces = false) (hth : th (fun q : Nat => s.heap.size ≤ q) s s.heap) (x : Nat) (xg : List Value) (deA : Nat) (deC : ClassId) (deF : Nat → Option Nat) (de0 de1 de2 de3 de4 de5 : Nat) (deg0 deg1 deg2 deg3 deg4 deg5 : List Value) (hdeg0 : fx deg0 16 [(0, .int 0)]) (hdeF0 : deF 0 = some de0) (hdeg1 : fx deg1 16 [(0, .int 0)]) (hdeF1 : deF 1 = some de1) (hdeg2 : fx deg2 16 [(0, .int 0)]) (hdeF2 : deF 2 = some de2) (hdeg3 : fx deg3 16 [(0, .int 0)]) (hdeF3 : deF 3 = some de3) (hdeg4 : fx deg4 16 [(0, .int 0)]) (hdeF4 : deF 4 = some de4) (hdeg5 : fx deg5 16 [(0, .int 0)]) (hdeF5 : deF 5 = some de5) (m0 : Nat) (mg : List Value) (mdA : Nat) (mdC : ClassId) (oA : Nat) (oC : ClassId) (oF : Nat → Int64) (hxg : fx xg 17 [(7, .ref deA)]) (hmg : fx mg 225 [(55, .ref mdA)]) (H : Heap) (locs : List Loc) (hK : va_K (dC, dI) CL [(deC, .object "ChipFlow$Design"), (mdC, .boolean), (oC, .long)] s) (hP : va_P (dC, dI) CL [(x, .inr (12, xg)), (deA, .inl (deC, (6, .inr (.inr (.inr (.inr deF)))))), (de0, .inr (3, deg0)), (de1, .inr (3, deg1)), (de2, .inr (3, deg2)), (de3, .inr (3, deg3)), (de4, .inr (3, deg4)), (de5, .inr (3, deg5)), (m0, .inr (13, mg)), (mdA, .inl (mdC, (6, .inl (fun _ => 0)))), (oA, .inl (oC, (1, .inr (.inl oF))))] H) (hD : va_D (fun q : Nat => s.heap.size ≤ q) [(x, .inr (12, xg)), (deA, .inl (deC, (6, .inr (.inr (.inr (.inr deF)))))), (de0, .inr (3, deg0)), (de1, .inr (3, deg1)), (de2, .inr (3, deg2)), (de3, .inr (3, deg3)), (de4, .inr (3, deg4)), (de5, .inr (3, deg5)), (m0, .inr (13, mg)), (mdA, .inl (mdC, (6, .inl (fun _ => 0)))), (oA, .inl (oC, (1, .inr (.inl oF))))]) (hS : va_S (fun q : Nat => s.heap.size ≤ q) s.heap H locs) (ls : Array Slot) (hl : lv_has ls 7 [(0, .ref b), (1, .ref x), (2, .ref m0), (3, .ref oA), (4, .int 0)]) : W p l e room_1 s m #[Value.ref b] below meth c H locs 451 2709142 (lw_Z below #[Value.ref b] s) (F0 m 1028 ls []) := by
  obtain ⟨hx, hb, hr, hml, hown, hts0, hX, hbl, hlocks, hgv⟩ := id C0
  have hts : ∀ w ∈ BG, w.before _ s = true := fun w h => hts0 w (List.mem_filter.mp h).1
  have hown : s.vm.findClass RL = some m.cls := hown
  have hA : ∀ q : Nat, s.heap.size ≤ q → (fun q : Nat => s.heap.size ≤ q) q := fun _ h => h
  have hbA : ¬ (fun q : Nat => s.heap.size ≤ q) b := Nat.not_le.mpr hbl
  refine lv_aload_n hx hb dL_law_1028 rfl (lv_at hl 1 rfl) ?_
  refine lv_aload_n hx hb dL_law_1029 rfl (lv_at hl 0 rfl) ?_
  refine lv_iload hx hb dL_law_1030 (lv_at hl 4 rfl) ?_
  refine lv_iconst (v := 1) hx hb dL_law_1032 (by decide +kernel) ?_
  refine lv_iadd hx hb dL_law_1033 ?_
  refine va_sld hx hb hX hbl hbA hS vi_1 dL_law_1034 ?_
  refine lv_aload_n hx hb dL_law_1035 rfl (lv_at hl 0 rfl) ?_
  refine lv_iload hx hb dL_law_1036 (lv_at hl 4 rfl) ?_
  refine lv_iconst (v := 2) hx hb dL_law_1038 (by decide +kernel) ?_
  refine lv_iadd hx hb dL_law_1039 ?_
  refine va_sld hx hb hX hbl hbA hS vi_2 dL_law_1040 ?_
  refine lv_aload_n hx hb dL_law_1041 rfl (lv_at hl 3 rfl) ?_
  have hPc := hP.sub (ws' := [(x, .inr (12, xg)), (deA, .inl (deC, (6, .inr (.inr (.inr (.inr deF)))))), (de0, .inr (3, deg0)), (de1, .inr (3, deg1)), (de2, .inr (3, deg2)), (de3, .inr (3, deg3)), (de4, .inr (3, deg4)), (de5, .inr (3, deg5)), (oA, .inl (oC, (1, .inr (.inl oF))))]) [0, 1, 2, 3, 4, 5, 6, 7, 10] rfl
  have hDc := hD.sub (ws' := [(x, .inr (12, xg)), (deA, .inl (deC, (6, .inr (.inr (.inr (.inr deF)))))), (de0, .inr (3, deg0)), (de1, .inr (3, deg1)), (de2, .inr (3, deg2)), (de3, .inr (3, deg3)), (de4, .inr (3, deg4)), (de5, .inr (3, deg5)), (oA, .inl (oC, (1, .inr (.inl oF))))]) [0, 1, 2, 3, 4, 5, 6, 7, 10] (by decide) rfl
  have hKc := hK.sub (tys' := [(deC, .object "ChipFlow$Design"), (oC, .long)]) [0, 2] rfl
  have hFc := va_free (wc := [(x, .inr (12, xg)), (deA, .inl (deC, (6, .inr (.inr (.inr (.inr deF)))))), (de0, .inr (3, deg0)), (de1, .inr (3, deg1)), (de2, .inr (3, deg2)), (de3, .inr (3, deg3)), (de4, .inr (3, deg4)), (de5, .inr (3, deg5)), (oA, .inl (oC, (1, .inr (.inl oF))))]) hD hS hA [0, 1, 2, 3, 4, 5, 6, 7, 10] rfl
  refine va_calli (vx_runSW (As := [.ref x, .int (xs ((0 : Int32) + 1).toNatClampNeg), .int (xs ((0 : Int32) + 2).toNatClampNeg), .ref oA]) (rest := []) ⟨hx, hb, hml, hown, hts⟩ (ct_L_play l hlt dC dI H.size (xs ((0 : Int32) + 1).toNatClampNeg) (xs ((0 : Int32) + 2).toNatClampNeg) x xg deA deC deF de0 de1 de2 de3 de4 de5 deg0 deg1 deg2 deg3 deg4 deg5 hdeg0 hdeF0 hdeg1 hdeF1 hdeg2 hdeF2 hdeg3 hdeF3 hdeg4 hdeF4 hdeg5 hdeF5 oA oC oF hxg) (vx_cwSW 4 hts (gi_W wd_1882 wd_1883 wd_326 wd_1884) rfl rfl rfl (by decide +kernel) ⟨(Nat.le_of_ble_eq_true rfl), (Nat.le_of_ble_eq_true rfl)⟩) ⟨fun a U g mk q => by obtain ⟨q0, q1, qP, qK, qD, qT⟩ := q; exact ⟨q0, q1, qP, va_K.moved (u := U) (U := U.calling g mk a) (Vm.Alike.refl U.vm) qK, qD, th.moved (u := U) (U := U.calling g mk a) (Vm.Alike.refl U.vm) qT⟩, fun U hU hW => ⟨rfl, by rw [hU], by rw [hU]; exact hPc, va_K.moved hW.alike hKc, hDc.weaken (fun _ _ _ _ => trivial), by rw [hU]; exact ((hth.kept hS.2.1).narrow hFc).moved hW.alike⟩⟩ rfl rfl hl.1 rfl (lv_room (Nat.le_of_ble_eq_true rfl)) dL_law_1042 ⟨(Nat.le_of_ble_eq_true rfl), (Nat.le_of_ble_eq_true rfl)⟩) hS (fun q _ h => hFc q h) hFc (fun r u t H1 locs ht hvm hw hB hz1 hk1 hS => ?_)
  subst hw
  obtain ⟨hP1, -, hD1⟩ := hB
  rw [ht] at hP1
  obtain ⟨hP, hD⟩ := va_join (wr := [(m0, .inr (13, mg)), (mdA, .inl (mdC, (6, .inl (fun _ => 0))))]) (w1 := [(oA, .inl (oC, (1, .inr (.inl oF))))]) hP hD [0, 1, 2, 3, 4, 5, 6, 7, 10] [8, 9] rfl rfl (by decide) (by decide) hk1 hFc hP1 hD1
  have hP := hP.sub (ws' := [(m0, .inr (13, mg)), (mdA, .inl (mdC, (6, .inl (fun _ => 0))))]) [0, 1] rfl
  have hD := hD.sub (ws' := [(m0, .inr (13, mg)), (mdA, .inl (mdC, (6, .inl (fun _ => 0))))]) [0, 1] (by decide) rfl
  have hK := hK.sub (tys' := [(mdC, .boolean)]) [1] rfl
  generalize H1 = H at hP hS ⊢
  refine W.widen (k := 452) (n := 2709148) (Nat.le_of_ble_eq_true rfl) (Nat.le_of_ble_eq_true rfl) ?_
  refine lv_istore (lv' := [(5, .int 1), (0, .ref b), (1, .ref x), (2, .ref m0), (3, .ref oA), (4, .int 0)]) hx hb dL_law_1045 hl (by decide) rfl (fun ls hl => ?_)
  refine lv_aload_n hx hb dL_law_1047 rfl (lv_at hl 3 rfl) ?_
  refine lv_aload_n hx hb dL_law_1048 rfl (lv_at hl 1 rfl) ?_
  refine lv_iload hx hb dL_law_1049 (lv_at hl 5 rfl) ?_
  refine lv_iconst (v := 1) hx hb dL_law_1051 (by decide +kernel) ?_
  refine lv_iadd hx hb dL_law_1052 ?_
  refine va_sld hx hb hX hbl hbA hS vi_1 dL_law_1053 ?_
  refine lv_aload_n hx hb dL_law_1054 rfl (lv_at hl 1 rfl) ?_
  refine lv_iload hx hb dL_law_1055 (lv_at hl 5 rfl) ?_
  refine lv_iconst (v := 2) hx hb dL_law_1057 (by decide +kernel) ?_
  refine lv_iadd hx hb dL_law_1058 ?_
  refine va_sld hx hb hX hbl hbA hS vi_2 dL_law_1059 ?_
  have hFc := va_free (wc := [(m0, .inr (13, mg)), (mdA, .inl (mdC, (6, .inl (fun _ => 0))))]) hD hS hA [0, 1] rfl
  refine va_calli (va_runV (As := [.int (xs ((0 : Int32) + 1).toNatClampNeg), .int (xs ((0 : Int32) + 2).toNatClampNeg)]) (rest := []) ⟨hx, hb, hml, hown, hts⟩ (ct_X13_play l dC dI _ (xs ((0 : Int32) + 1).toNatClampNeg) (xs ((0 : Int32) + 2).toNatClampNeg) m0 mg mdA mdC hmg) (cwV 2 hts (gi_V wd_4116 wd_4117 wd_4118 wd_340 wd_4119) rfl rfl rfl (by decide +kernel) ⟨(Nat.le_of_ble_eq_true rfl), (Nat.le_of_ble_eq_true rfl)⟩) ⟨fun a U g mk q => by obtain ⟨q0, q1, qP, qK, qD⟩ := q; exact ⟨q0, q1, qP, va_K.moved (u := U) (U := U.calling g mk a) (Vm.Alike.refl U.vm) qK, qD⟩, va_recv hK hP (ci := 13) (q0 := 0) rfl rfl, fun U hU hW => ⟨rfl, by rw [hU], by rw [hU]; exact hP, va_K.moved hW.alike hK, hD.weaken (fun _ _ _ _ => trivial)⟩⟩ rfl rfl hl.1 rfl (lv_room (Nat.le_of_ble_eq_true rfl)) dL_law_1060 ⟨(Nat.le_of_ble_eq_true rfl), (Nat.le_of_ble_eq_true rfl)⟩) hS (fun q _ h => hFc q h) hFc (fun r u t H1 locs ht hvm hw hB hz1 hk1 hS => ?_)
  subst hw
  obtain ⟨mg1, hmg1, hP1, hK1, hD1⟩ := hB
  rw [ht] at hP1
  have hK1 := va_K.moved hvm.symm hK1
  have hD1 := hD1.weaken (fun k q _ h => hFc q.1 h)
  generalize H1 = H at hP1 hS ⊢
  refine lv_istore (lv' := [(6, .int 0), (5, .int 1), (0, .ref b), (1, .ref x), (2, .ref m0), (3, .ref oA), (4, .int 0)]) hx hb dL_law_1063 hl (by decide) rfl (fun ls hl => ?_)
  refine lv_aload_n hx hb dL_law_1065 rfl (lv_at hl 4 rfl) ?_
  have hFc := va_free (wc := [(m0, .inr (13, mg1))]) hD1 hS hA [0] rfl
  refine va_calli (va_runV (As := []) (rest := []) ⟨hx, hb, hml, hown, hts⟩ (ct_X13_thrown l dC dI _ 1 m0 mg1 hmg1) (cwV 0 hts (gi_V wd_3015 wd_3016 wd_3017 wd_340 wd_3018) rfl rfl rfl (by decide +kernel) ⟨(Nat.le_of_ble_eq_true rfl), (Nat.le_of_ble_eq_true rfl)⟩) ⟨fun a U g mk q => by obtain ⟨q0, q1, qP, qK, qD⟩ := q; exact ⟨q0, q1, qP, va_K.moved (u := U) (U := U.calling g mk a) (Vm.Alike.refl U.vm) qK, qD⟩, va_recv hK1 hP1 (ci := 13) (q0 := 0) rfl rfl, fun U hU hW => ⟨rfl, by rw [hU], by rw [hU]; exact hP1, va_K.moved hW.alike hK1, hD1.weaken (fun _ _ _ _ => trivial)⟩⟩ rfl rfl hl.1 rfl (lv_room (Nat.le_of_ble_eq_true rfl)) dL_law_1066 ⟨(Nat.le_of_ble_eq_true rfl), (Nat.le_of_ble_eq_true rfl)⟩) hS (fun q _ h => hFc q h) hFc (fun r u t H1 locs ht hvm hw hB hz1 hk1 hS => ?_)
  subst hw
  refine lv_iload hx hb dL_law_1069 (lv_at hl 1 rfl) ?_
  refine lv_icmp_eq (tgt := 1076) hx hb dL_law_1071 (by decide) (fun c9 => ?_) (fun c9 => ?_)
  rotate_left
  · first | exact absurd c9 (by decide +kernel) | exact absurd (by decide +kernel) c9
  refine lv_iload hx hb dL_law_1076 (lv_at hl 1 rfl) ?_
  refine lv_if_ne (tgt := 1093) hx hb dL_law_1078 (by decide) (fun c9 => ?_) (fun c9 => ?_)
  rotate_left
  · first | exact absurd c9 (by decide +kernel) | exact absurd (by decide +kernel) c9
  refine lv_goto (tgt := 4099) hx hb dL_law_1093 (by decide) ?_
  refine W.widen (k := 470) (n := 2709300) (Nat.le_of_ble_eq_true rfl) (Nat.le_of_ble_eq_true rfl) ?_
  exact law_tail (v5 := 0) (v6 := 0) (lv := []) C0 hS (lv_sub hl [2, 6] rfl)
set_option maxHeartbeats 4000000 in
set_option maxRecDepth 100000 in
theorem law_state {p : Program} {l : Launch} {e : Env} {s : State} {m : MethodId} {below : List Frame} {meth : Method} {c : Code} {b : Nat} {xs : Nat → Int32} (C0 : lw_At p s m meth c b 7 xs) {dC : Nat → ClassId} {dI : Nat → Nat → Nat} (hlt : l.stackTraces = false) (hth : th (fun q : Nat => s.heap.size ≤ q) s s.heap) (x : Nat) (xg : List Value) (deA : Nat) (deC : ClassId) (deF : Nat → Option Nat) (de0 de1 de2 de3 de4 de5 : Nat) (deg0 deg1 deg2 deg3 deg4 deg5 : List Value) (hdeg0 : fx deg0 16 [(0, .int 0)]) (hdeF0 : deF 0 = some de0) (hdeg1 : fx deg1 16 [(0, .int 0)]) (hdeF1 : deF 1 = some de1) (hdeg2 : fx deg2 16 [(0, .int 0)]) (hdeF2 : deF 2 = some de2) (hdeg3 : fx deg3 16 [(0, .int 0)]) (hdeF3 : deF 3 = some de3) (hdeg4 : fx deg4 16 [(0, .int 0)]) (hdeF4 : deF 4 = some de4) (hdeg5 : fx deg5 16 [(0, .int 0)]) (hdeF5 : deF 5 = some de5) (m0 : Nat) (mg : List Value) (mdA : Nat) (mdC : ClassId) (oA : Nat) (oC : ClassId) (oF : Nat → Int64) (hxg : fx xg 17 [(7, .ref deA)]) (hmg : fx mg 225 [(55, .ref mdA)]) (H : Heap) (locs : List Loc) (hK : va_K (dC, dI) CL [(deC, .object "ChipFlow$Design"), (mdC, .boolean), (oC, .long)] s) (hP : va_P (dC, dI) CL [(x, .inr (12, xg)), (deA, .inl (deC, (6, .inr (.inr (.inr (.inr deF)))))), (de0, .inr (3, deg0)), (de1, .inr (3, deg1)), (de2, .inr (3, deg2)), (de3, .inr (3, deg3)), (de4, .inr (3, deg4)), (de5, .inr (3, deg5)), (m0, .inr (13, mg)), (mdA, .inl (mdC, (6, .inl (fun _ => 0)))), (oA, .inl (oC, (1, .inr (.inl oF))))] H) (hD : va_D (fun q : Nat => s.heap.size ≤ q) [(x, .inr (12, xg)), (deA, .inl (deC, (6, .inr (.inr (.inr (.inr deF)))))), (de0, .inr (3, deg0)), (de1, .inr (3, deg1)), (de2, .inr (3, deg2)), (de3, .inr (3, deg3)), (de4, .inr (3, deg4)), (de5, .inr (3, deg5)), (m0, .inr (13, mg)), (mdA, .inl (mdC, (6, .inl (fun _ => 0)))), (oA, .inl (oC, (1, .inr (.inl oF))))]) (hS : va_S (fun q : Nat => s.heap.size ≤ q) s.heap H locs) (ls : Array Slot) (hl : lv_has ls 7 [(0, .ref b), (1, .ref x), (2, .ref m0), (3, .ref oA), (4, .int 0)]) : W p l e room_1 s m #[Value.ref b] below meth c H locs 451 2709142 (lw_Z below #[Value.ref b] s) (F0 m 1096 ls []) := by
  obtain ⟨hx, hb, hr, hml, hown, hts0, hX, hbl, hlocks, hgv⟩ := id C0
  have hts : ∀ w ∈ BG, w.before _ s = true := fun w h => hts0 w (List.mem_filter.mp h).1
  have hown : s.vm.findClass RL = some m.cls := hown
  have hA : ∀ q : Nat, s.heap.size ≤ q → (fun q : Nat => s.heap.size ≤ q) q := fun _ h => h
  have hbA : ¬ (fun q : Nat => s.heap.size ≤ q) b := Nat.not_le.mpr hbl
  refine lv_aload_n hx hb dL_law_1096 rfl (lv_at hl 1 rfl) ?_
  refine lv_aload_n hx hb dL_law_1097 rfl (lv_at hl 0 rfl) ?_
  refine lv_iload hx hb dL_law_1098 (lv_at hl 4 rfl) ?_
  refine lv_iconst (v := 1) hx hb dL_law_1100 (by decide +kernel) ?_
  refine lv_iadd hx hb dL_law_1101 ?_
  refine va_sld hx hb hX hbl hbA hS vi_1 dL_law_1102 ?_
  refine lv_aload_n hx hb dL_law_1103 rfl (lv_at hl 3 rfl) ?_
  have hPc := hP.sub (ws' := [(x, .inr (12, xg)), (deA, .inl (deC, (6, .inr (.inr (.inr (.inr deF)))))), (de0, .inr (3, deg0)), (de1, .inr (3, deg1)), (de2, .inr (3, deg2)), (de3, .inr (3, deg3)), (de4, .inr (3, deg4)), (de5, .inr (3, deg5)), (oA, .inl (oC, (1, .inr (.inl oF))))]) [0, 1, 2, 3, 4, 5, 6, 7, 10] rfl
  have hDc := hD.sub (ws' := [(x, .inr (12, xg)), (deA, .inl (deC, (6, .inr (.inr (.inr (.inr deF)))))), (de0, .inr (3, deg0)), (de1, .inr (3, deg1)), (de2, .inr (3, deg2)), (de3, .inr (3, deg3)), (de4, .inr (3, deg4)), (de5, .inr (3, deg5)), (oA, .inl (oC, (1, .inr (.inl oF))))]) [0, 1, 2, 3, 4, 5, 6, 7, 10] (by decide) rfl
  have hKc := hK.sub (tys' := [(deC, .object "ChipFlow$Design"), (oC, .long)]) [0, 2] rfl
  have hFc := va_free (wc := [(x, .inr (12, xg)), (deA, .inl (deC, (6, .inr (.inr (.inr (.inr deF)))))), (de0, .inr (3, deg0)), (de1, .inr (3, deg1)), (de2, .inr (3, deg2)), (de3, .inr (3, deg3)), (de4, .inr (3, deg4)), (de5, .inr (3, deg5)), (oA, .inl (oC, (1, .inr (.inl oF))))]) hD hS hA [0, 1, 2, 3, 4, 5, 6, 7, 10] rfl
  refine va_calli (vx_runSW (As := [.ref x, .int (xs ((0 : Int32) + 1).toNatClampNeg), .ref oA]) (rest := []) ⟨hx, hb, hml, hown, hts⟩ (ct_L_state l hlt dC dI H.size (xs ((0 : Int32) + 1).toNatClampNeg) x xg deA deC deF de0 de1 de2 de3 de4 de5 deg0 deg1 deg2 deg3 deg4 deg5 hdeg0 hdeF0 hdeg1 hdeF1 hdeg2 hdeF2 hdeg3 hdeF3 hdeg4 hdeF4 hdeg5 hdeF5 oA oC oF hxg) (vx_cwSW 3 hts (gi_W wd_1890 wd_1891 wd_326 wd_1892) rfl rfl rfl (by decide +kernel) ⟨(Nat.le_of_ble_eq_true rfl), (Nat.le_of_ble_eq_true rfl)⟩) ⟨fun a U g mk q => by obtain ⟨q0, q1, qP, qK, qD, qT⟩ := q; exact ⟨q0, q1, qP, va_K.moved (u := U) (U := U.calling g mk a) (Vm.Alike.refl U.vm) qK, qD, th.moved (u := U) (U := U.calling g mk a) (Vm.Alike.refl U.vm) qT⟩, fun U hU hW => ⟨rfl, by rw [hU], by rw [hU]; exact hPc, va_K.moved hW.alike hKc, hDc.weaken (fun _ _ _ _ => trivial), by rw [hU]; exact ((hth.kept hS.2.1).narrow hFc).moved hW.alike⟩⟩ rfl rfl hl.1 rfl (lv_room (Nat.le_of_ble_eq_true rfl)) dL_law_1104 ⟨(Nat.le_of_ble_eq_true rfl), (Nat.le_of_ble_eq_true rfl)⟩) hS (fun q _ h => hFc q h) hFc (fun r u t H1 locs ht hvm hw hB hz1 hk1 hS => ?_)
  subst hw
  obtain ⟨hP1, -, hD1⟩ := hB
  rw [ht] at hP1
  obtain ⟨hP, hD⟩ := va_join (wr := [(m0, .inr (13, mg)), (mdA, .inl (mdC, (6, .inl (fun _ => 0))))]) (w1 := [(oA, .inl (oC, (1, .inr (.inl oF))))]) hP hD [0, 1, 2, 3, 4, 5, 6, 7, 10] [8, 9] rfl rfl (by decide) (by decide) hk1 hFc hP1 hD1
  have hP := hP.sub (ws' := [(m0, .inr (13, mg)), (mdA, .inl (mdC, (6, .inl (fun _ => 0))))]) [0, 1] rfl
  have hD := hD.sub (ws' := [(m0, .inr (13, mg)), (mdA, .inl (mdC, (6, .inl (fun _ => 0))))]) [0, 1] (by decide) rfl
  have hK := hK.sub (tys' := [(mdC, .boolean)]) [1] rfl
  generalize H1 = H at hP hS ⊢
  refine W.widen (k := 452) (n := 2709148) (Nat.le_of_ble_eq_true rfl) (Nat.le_of_ble_eq_true rfl) ?_
  refine lv_istore (lv' := [(5, .int 1), (0, .ref b), (1, .ref x), (2, .ref m0), (3, .ref oA), (4, .int 0)]) hx hb dL_law_1107 hl (by decide) rfl (fun ls hl => ?_)
  refine lv_aload_n hx hb dL_law_1109 rfl (lv_at hl 3 rfl) ?_
  refine lv_aload_n hx hb dL_law_1110 rfl (lv_at hl 1 rfl) ?_
  refine lv_iload hx hb dL_law_1111 (lv_at hl 5 rfl) ?_
  refine lv_iconst (v := 1) hx hb dL_law_1113 (by decide +kernel) ?_
  refine lv_iadd hx hb dL_law_1114 ?_
  refine va_sld hx hb hX hbl hbA hS vi_1 dL_law_1115 ?_
  have hFc := va_free (wc := [(m0, .inr (13, mg)), (mdA, .inl (mdC, (6, .inl (fun _ => 0))))]) hD hS hA [0, 1] rfl
  refine va_calli (va_runV (As := [.int (xs ((0 : Int32) + 1).toNatClampNeg)]) (rest := []) ⟨hx, hb, hml, hown, hts⟩ (ct_X13_state l dC dI _ (xs ((0 : Int32) + 1).toNatClampNeg) m0 mg mdA mdC hmg) (cwV 1 hts (gi_V wd_4123 wd_4124 wd_4125 wd_340 wd_4126) rfl rfl rfl (by decide +kernel) ⟨(Nat.le_of_ble_eq_true rfl), (Nat.le_of_ble_eq_true rfl)⟩) ⟨fun a U g mk q => by obtain ⟨q0, q1, qP, qK, qD⟩ := q; exact ⟨q0, q1, qP, va_K.moved (u := U) (U := U.calling g mk a) (Vm.Alike.refl U.vm) qK, qD⟩, va_recv hK hP (ci := 13) (q0 := 0) rfl rfl, fun U hU hW => ⟨rfl, by rw [hU], by rw [hU]; exact hP, va_K.moved hW.alike hK, hD.weaken (fun _ _ _ _ => trivial)⟩⟩ rfl rfl hl.1 rfl (lv_room (Nat.le_of_ble_eq_true rfl)) dL_law_1116 ⟨(Nat.le_of_ble_eq_true rfl), (Nat.le_of_ble_eq_true rfl)⟩) hS (fun q _ h => hFc q h) hFc (fun r u t H1 locs ht hvm hw hB hz1 hk1 hS => ?_)
  subst hw
  obtain ⟨mg1, hmg1, hP1, hK1, hD1⟩ := hB
  rw [ht] at hP1
  have hK1 := va_K.moved hvm.symm hK1
  have hD1 := hD1.weaken (fun k q _ h => hFc q.1 h)
  generalize H1 = H at hP1 hS ⊢
  refine lv_istore (lv' := [(6, .int 0), (5, .int 1), (0, .ref b), (1, .ref x), (2, .ref m0), (3, .ref oA), (4, .int 0)]) hx hb dL_law_1119 hl (by decide) rfl (fun ls hl => ?_)
  refine lv_aload_n hx hb dL_law_1121 rfl (lv_at hl 4 rfl) ?_
  have hFc := va_free (wc := [(m0, .inr (13, mg1))]) hD1 hS hA [0] rfl
  refine va_calli (va_runV (As := []) (rest := []) ⟨hx, hb, hml, hown, hts⟩ (ct_X13_thrown l dC dI _ 1 m0 mg1 hmg1) (cwV 0 hts (gi_V wd_3015 wd_3016 wd_3017 wd_340 wd_3018) rfl rfl rfl (by decide +kernel) ⟨(Nat.le_of_ble_eq_true rfl), (Nat.le_of_ble_eq_true rfl)⟩) ⟨fun a U g mk q => by obtain ⟨q0, q1, qP, qK, qD⟩ := q; exact ⟨q0, q1, qP, va_K.moved (u := U) (U := U.calling g mk a) (Vm.Alike.refl U.vm) qK, qD⟩, va_recv hK1 hP1 (ci := 13) (q0 := 0) rfl rfl, fun U hU hW => ⟨rfl, by rw [hU], by rw [hU]; exact hP1, va_K.moved hW.alike hK1, hD1.weaken (fun _ _ _ _ => trivial)⟩⟩ rfl rfl hl.1 rfl (lv_room (Nat.le_of_ble_eq_true rfl)) dL_law_1122 ⟨(Nat.le_of_ble_eq_true rfl), (Nat.le_of_ble_eq_true rfl)⟩) hS (fun q _ h => hFc q h) hFc (fun r u t H1 locs ht hvm hw hB hz1 hk1 hS => ?_)
  subst hw
  refine lv_iload hx hb dL_law_1125 (lv_at hl 1 rfl) ?_
  refine lv_icmp_eq (tgt := 1132) hx hb dL_law_1127 (by decide) (fun c9 => ?_) (fun c9 => ?_)
  rotate_left
  · first | exact absurd c9 (by decide +kernel) | exact absurd (by decide +kernel) c9
  refine lv_iload hx hb dL_law_1132 (lv_at hl 1 rfl) ?_
  refine lv_if_ne (tgt := 1149) hx hb dL_law_1134 (by decide) (fun c9 => ?_) (fun c9 => ?_)
  rotate_left
  · first | exact absurd c9 (by decide +kernel) | exact absurd (by decide +kernel) c9
  refine lv_goto (tgt := 4099) hx hb dL_law_1149 (by decide) ?_
  refine W.widen (k := 470) (n := 2709300) (Nat.le_of_ble_eq_true rfl) (Nat.le_of_ble_eq_true rfl) ?_
  exact law_tail (v5 := 0) (v6 := 0) (lv := []) C0 hS (lv_sub hl [2, 6] rfl)
set_option maxHeartbeats 4000000 in
set_option maxRecDepth 100000 in
theorem law_restart {p : Program} {l : Launch} {e : Env} {s : State} {m : MethodId} {below : List Frame} {meth : Method} {c : Code} {b : Nat} {xs : Nat → Int32} (C0 : lw_At p s m meth c b 7 xs) {dC : Nat → ClassId} {dI : Nat → Nat → Nat} (hlt : l.stackTraces = false) (hth : th (fun q : Nat => s.heap.size ≤ q) s s.heap) (x : Nat) (xg : List Value) (deA : Nat) (deC : ClassId) (deF : Nat → Option Nat) (de0 de1 de2 de3 de4 de5 : Nat) (deg0 deg1 deg2 deg3 deg4 deg5 : List Value) (hdeg0 : fx deg0 16 [(0, .int 0)]) (hdeF0 : deF 0 = some de0) (hdeg1 : fx deg1 16 [(0, .int 0)]) (hdeF1 : deF 1 = some de1) (hdeg2 : fx deg2 16 [(0, .int 0)]) (hdeF2 : deF 2 = some de2) (hdeg3 : fx deg3 16 [(0, .int 0)]) (hdeF3 : deF 3 = some de3) (hdeg4 : fx deg4 16 [(0, .int 0)]) (hdeF4 : deF 4 = some de4) (hdeg5 : fx deg5 16 [(0, .int 0)]) (hdeF5 : deF 5 = some de5) (m0 : Nat) (mg : List Value) (mdA : Nat) (mdC : ClassId) (oA : Nat) (oC : ClassId) (oF : Nat → Int64) (hxg : fx xg 17 [(7, .ref deA)]) (hmg : fx mg 225 [(55, .ref mdA)]) (H : Heap) (locs : List Loc) (hK : va_K (dC, dI) CL [(deC, .object "ChipFlow$Design"), (mdC, .boolean), (oC, .long)] s) (hP : va_P (dC, dI) CL [(x, .inr (12, xg)), (deA, .inl (deC, (6, .inr (.inr (.inr (.inr deF)))))), (de0, .inr (3, deg0)), (de1, .inr (3, deg1)), (de2, .inr (3, deg2)), (de3, .inr (3, deg3)), (de4, .inr (3, deg4)), (de5, .inr (3, deg5)), (m0, .inr (13, mg)), (mdA, .inl (mdC, (6, .inl (fun _ => 0)))), (oA, .inl (oC, (1, .inr (.inl oF))))] H) (hD : va_D (fun q : Nat => s.heap.size ≤ q) [(x, .inr (12, xg)), (deA, .inl (deC, (6, .inr (.inr (.inr (.inr deF)))))), (de0, .inr (3, deg0)), (de1, .inr (3, deg1)), (de2, .inr (3, deg2)), (de3, .inr (3, deg3)), (de4, .inr (3, deg4)), (de5, .inr (3, deg5)), (m0, .inr (13, mg)), (mdA, .inl (mdC, (6, .inl (fun _ => 0)))), (oA, .inl (oC, (1, .inr (.inl oF))))]) (hS : va_S (fun q : Nat => s.heap.size ≤ q) s.heap H locs) (ls : Array Slot) (hl : lv_has ls 7 [(0, .ref b), (1, .ref x), (2, .ref m0), (3, .ref oA), (4, .int 0)]) : W p l e room_1 s m #[Value.ref b] below meth c H locs 451 2709142 (lw_Z below #[Value.ref b] s) (F0 m 1152 ls []) := by
  obtain ⟨hx, hb, hr, hml, hown, hts0, hX, hbl, hlocks, hgv⟩ := id C0
  have hts : ∀ w ∈ BG, w.before _ s = true := fun w h => hts0 w (List.mem_filter.mp h).1
  have hown : s.vm.findClass RL = some m.cls := hown
  have hA : ∀ q : Nat, s.heap.size ≤ q → (fun q : Nat => s.heap.size ≤ q) q := fun _ h => h
  have hbA : ¬ (fun q : Nat => s.heap.size ≤ q) b := Nat.not_le.mpr hbl
  refine lv_aload_n hx hb dL_law_1152 rfl (lv_at hl 1 rfl) ?_
  refine lv_aload_n hx hb dL_law_1153 rfl (lv_at hl 0 rfl) ?_
  refine lv_iload hx hb dL_law_1154 (lv_at hl 4 rfl) ?_
  refine lv_iconst (v := 1) hx hb dL_law_1156 (by decide +kernel) ?_
  refine lv_iadd hx hb dL_law_1157 ?_
  refine va_sld hx hb hX hbl hbA hS vi_1 dL_law_1158 ?_
  refine lv_aload_n hx hb dL_law_1159 rfl (lv_at hl 3 rfl) ?_
  have hPc := hP.sub (ws' := [(x, .inr (12, xg)), (deA, .inl (deC, (6, .inr (.inr (.inr (.inr deF)))))), (de0, .inr (3, deg0)), (de1, .inr (3, deg1)), (de2, .inr (3, deg2)), (de3, .inr (3, deg3)), (de4, .inr (3, deg4)), (de5, .inr (3, deg5)), (oA, .inl (oC, (1, .inr (.inl oF))))]) [0, 1, 2, 3, 4, 5, 6, 7, 10] rfl
  have hDc := hD.sub (ws' := [(x, .inr (12, xg)), (deA, .inl (deC, (6, .inr (.inr (.inr (.inr deF)))))), (de0, .inr (3, deg0)), (de1, .inr (3, deg1)), (de2, .inr (3, deg2)), (de3, .inr (3, deg3)), (de4, .inr (3, deg4)), (de5, .inr (3, deg5)), (oA, .inl (oC, (1, .inr (.inl oF))))]) [0, 1, 2, 3, 4, 5, 6, 7, 10] (by decide) rfl
  have hKc := hK.sub (tys' := [(deC, .object "ChipFlow$Design"), (oC, .long)]) [0, 2] rfl
  have hFc := va_free (wc := [(x, .inr (12, xg)), (deA, .inl (deC, (6, .inr (.inr (.inr (.inr deF)))))), (de0, .inr (3, deg0)), (de1, .inr (3, deg1)), (de2, .inr (3, deg2)), (de3, .inr (3, deg3)), (de4, .inr (3, deg4)), (de5, .inr (3, deg5)), (oA, .inl (oC, (1, .inr (.inl oF))))]) hD hS hA [0, 1, 2, 3, 4, 5, 6, 7, 10] rfl
  refine va_calli (vx_runSW (As := [.ref x, .int (xs ((0 : Int32) + 1).toNatClampNeg), .ref oA]) (rest := []) ⟨hx, hb, hml, hown, hts⟩ (ct_L_restart l hlt dC dI H.size (xs ((0 : Int32) + 1).toNatClampNeg) x xg deA deC deF de0 de1 de2 de3 de4 de5 deg0 deg1 deg2 deg3 deg4 deg5 hdeg0 hdeF0 hdeg1 hdeF1 hdeg2 hdeF2 hdeg3 hdeF3 hdeg4 hdeF4 hdeg5 hdeF5 oA oC oF hxg) (vx_cwSW 3 hts (gi_W wd_1897 wd_1898 wd_326 wd_1899) rfl rfl rfl (by decide +kernel) ⟨(Nat.le_of_ble_eq_true rfl), (Nat.le_of_ble_eq_true rfl)⟩) ⟨fun a U g mk q => by obtain ⟨q0, q1, qP, qK, qD, qT⟩ := q; exact ⟨q0, q1, qP, va_K.moved (u := U) (U := U.calling g mk a) (Vm.Alike.refl U.vm) qK, qD, th.moved (u := U) (U := U.calling g mk a) (Vm.Alike.refl U.vm) qT⟩, fun U hU hW => ⟨rfl, by rw [hU], by rw [hU]; exact hPc, va_K.moved hW.alike hKc, hDc.weaken (fun _ _ _ _ => trivial), by rw [hU]; exact ((hth.kept hS.2.1).narrow hFc).moved hW.alike⟩⟩ rfl rfl hl.1 rfl (lv_room (Nat.le_of_ble_eq_true rfl)) dL_law_1160 ⟨(Nat.le_of_ble_eq_true rfl), (Nat.le_of_ble_eq_true rfl)⟩) hS (fun q _ h => hFc q h) hFc (fun r u t H1 locs ht hvm hw hB hz1 hk1 hS => ?_)
  subst hw
  obtain ⟨hP1, -, hD1⟩ := hB
  rw [ht] at hP1
  obtain ⟨hP, hD⟩ := va_join (wr := [(m0, .inr (13, mg)), (mdA, .inl (mdC, (6, .inl (fun _ => 0))))]) (w1 := [(oA, .inl (oC, (1, .inr (.inl oF))))]) hP hD [0, 1, 2, 3, 4, 5, 6, 7, 10] [8, 9] rfl rfl (by decide) (by decide) hk1 hFc hP1 hD1
  have hP := hP.sub (ws' := [(m0, .inr (13, mg)), (mdA, .inl (mdC, (6, .inl (fun _ => 0))))]) [0, 1] rfl
  have hD := hD.sub (ws' := [(m0, .inr (13, mg)), (mdA, .inl (mdC, (6, .inl (fun _ => 0))))]) [0, 1] (by decide) rfl
  have hK := hK.sub (tys' := [(mdC, .boolean)]) [1] rfl
  generalize H1 = H at hP hS ⊢
  refine W.widen (k := 452) (n := 2709148) (Nat.le_of_ble_eq_true rfl) (Nat.le_of_ble_eq_true rfl) ?_
  refine lv_istore (lv' := [(5, .int 1), (0, .ref b), (1, .ref x), (2, .ref m0), (3, .ref oA), (4, .int 0)]) hx hb dL_law_1163 hl (by decide) rfl (fun ls hl => ?_)
  refine lv_aload_n hx hb dL_law_1165 rfl (lv_at hl 3 rfl) ?_
  refine lv_aload_n hx hb dL_law_1166 rfl (lv_at hl 1 rfl) ?_
  refine lv_iload hx hb dL_law_1167 (lv_at hl 5 rfl) ?_
  refine lv_iconst (v := 1) hx hb dL_law_1169 (by decide +kernel) ?_
  refine lv_iadd hx hb dL_law_1170 ?_
  refine va_sld hx hb hX hbl hbA hS vi_1 dL_law_1171 ?_
  have hFc := va_free (wc := [(m0, .inr (13, mg)), (mdA, .inl (mdC, (6, .inl (fun _ => 0))))]) hD hS hA [0, 1] rfl
  refine va_calli (va_runV (As := [.int (xs ((0 : Int32) + 1).toNatClampNeg)]) (rest := []) ⟨hx, hb, hml, hown, hts⟩ (ct_X13_restart l dC dI _ (xs ((0 : Int32) + 1).toNatClampNeg) m0 mg mdA mdC hmg) (cwV 1 hts (gi_V wd_4127 wd_4128 wd_4129 wd_340 wd_4130) rfl rfl rfl (by decide +kernel) ⟨(Nat.le_of_ble_eq_true rfl), (Nat.le_of_ble_eq_true rfl)⟩) ⟨fun a U g mk q => by obtain ⟨q0, q1, qP, qK, qD⟩ := q; exact ⟨q0, q1, qP, va_K.moved (u := U) (U := U.calling g mk a) (Vm.Alike.refl U.vm) qK, qD⟩, va_recv hK hP (ci := 13) (q0 := 0) rfl rfl, fun U hU hW => ⟨rfl, by rw [hU], by rw [hU]; exact hP, va_K.moved hW.alike hK, hD.weaken (fun _ _ _ _ => trivial)⟩⟩ rfl rfl hl.1 rfl (lv_room (Nat.le_of_ble_eq_true rfl)) dL_law_1172 ⟨(Nat.le_of_ble_eq_true rfl), (Nat.le_of_ble_eq_true rfl)⟩) hS (fun q _ h => hFc q h) hFc (fun r u t H1 locs ht hvm hw hB hz1 hk1 hS => ?_)
  subst hw
  obtain ⟨mg1, hmg1, hP1, hK1, hD1⟩ := hB
  rw [ht] at hP1
  have hK1 := va_K.moved hvm.symm hK1
  have hD1 := hD1.weaken (fun k q _ h => hFc q.1 h)
  generalize H1 = H at hP1 hS ⊢
  refine lv_istore (lv' := [(6, .int 0), (5, .int 1), (0, .ref b), (1, .ref x), (2, .ref m0), (3, .ref oA), (4, .int 0)]) hx hb dL_law_1175 hl (by decide) rfl (fun ls hl => ?_)
  refine lv_aload_n hx hb dL_law_1177 rfl (lv_at hl 4 rfl) ?_
  have hFc := va_free (wc := [(m0, .inr (13, mg1))]) hD1 hS hA [0] rfl
  refine va_calli (va_runV (As := []) (rest := []) ⟨hx, hb, hml, hown, hts⟩ (ct_X13_thrown l dC dI _ 1 m0 mg1 hmg1) (cwV 0 hts (gi_V wd_3015 wd_3016 wd_3017 wd_340 wd_3018) rfl rfl rfl (by decide +kernel) ⟨(Nat.le_of_ble_eq_true rfl), (Nat.le_of_ble_eq_true rfl)⟩) ⟨fun a U g mk q => by obtain ⟨q0, q1, qP, qK, qD⟩ := q; exact ⟨q0, q1, qP, va_K.moved (u := U) (U := U.calling g mk a) (Vm.Alike.refl U.vm) qK, qD⟩, va_recv hK1 hP1 (ci := 13) (q0 := 0) rfl rfl, fun U hU hW => ⟨rfl, by rw [hU], by rw [hU]; exact hP1, va_K.moved hW.alike hK1, hD1.weaken (fun _ _ _ _ => trivial)⟩⟩ rfl rfl hl.1 rfl (lv_room (Nat.le_of_ble_eq_true rfl)) dL_law_1178 ⟨(Nat.le_of_ble_eq_true rfl), (Nat.le_of_ble_eq_true rfl)⟩) hS (fun q _ h => hFc q h) hFc (fun r u t H1 locs ht hvm hw hB hz1 hk1 hS => ?_)
  subst hw
  refine lv_iload hx hb dL_law_1181 (lv_at hl 1 rfl) ?_
  refine lv_icmp_eq (tgt := 1188) hx hb dL_law_1183 (by decide) (fun c9 => ?_) (fun c9 => ?_)
  rotate_left
  · first | exact absurd c9 (by decide +kernel) | exact absurd (by decide +kernel) c9
  refine lv_iload hx hb dL_law_1188 (lv_at hl 1 rfl) ?_
  refine lv_if_ne (tgt := 1205) hx hb dL_law_1190 (by decide) (fun c9 => ?_) (fun c9 => ?_)
  rotate_left
  · first | exact absurd c9 (by decide +kernel) | exact absurd (by decide +kernel) c9
  refine lv_goto (tgt := 4099) hx hb dL_law_1205 (by decide) ?_
  refine W.widen (k := 470) (n := 2709300) (Nat.le_of_ble_eq_true rfl) (Nat.le_of_ble_eq_true rfl) ?_
  exact law_tail (v5 := 0) (v6 := 0) (lv := []) C0 hS (lv_sub hl [2, 6] rfl)
set_option maxHeartbeats 4000000 in
set_option maxRecDepth 100000 in
theorem law_equal {p : Program} {l : Launch} {e : Env} {s : State} {m : MethodId} {below : List Frame} {meth : Method} {c : Code} {b : Nat} {xs : Nat → Int32} (C0 : lw_At p s m meth c b 7 xs) {dC : Nat → ClassId} {dI : Nat → Nat → Nat} (hlt : l.stackTraces = false) (hth : th (fun q : Nat => s.heap.size ≤ q) s s.heap) (x : Nat) (xg : List Value) (deA : Nat) (deC : ClassId) (deF : Nat → Option Nat) (de0 de1 de2 de3 de4 de5 : Nat) (deg0 deg1 deg2 deg3 deg4 deg5 : List Value) (hdeg0 : fx deg0 16 [(0, .int 0)]) (hdeF0 : deF 0 = some de0) (hdeg1 : fx deg1 16 [(0, .int 0)]) (hdeF1 : deF 1 = some de1) (hdeg2 : fx deg2 16 [(0, .int 0)]) (hdeF2 : deF 2 = some de2) (hdeg3 : fx deg3 16 [(0, .int 0)]) (hdeF3 : deF 3 = some de3) (hdeg4 : fx deg4 16 [(0, .int 0)]) (hdeF4 : deF 4 = some de4) (hdeg5 : fx deg5 16 [(0, .int 0)]) (hdeF5 : deF 5 = some de5) (m0 : Nat) (mg : List Value) (mdA : Nat) (mdC : ClassId) (oA : Nat) (oC : ClassId) (oF : Nat → Int64) (hxg : fx xg 17 [(7, .ref deA)]) (hmg : fx mg 225 [(55, .ref mdA)]) (H : Heap) (locs : List Loc) (hK : va_K (dC, dI) CL [(deC, .object "ChipFlow$Design"), (mdC, .boolean), (oC, .long)] s) (hP : va_P (dC, dI) CL [(x, .inr (12, xg)), (deA, .inl (deC, (6, .inr (.inr (.inr (.inr deF)))))), (de0, .inr (3, deg0)), (de1, .inr (3, deg1)), (de2, .inr (3, deg2)), (de3, .inr (3, deg3)), (de4, .inr (3, deg4)), (de5, .inr (3, deg5)), (m0, .inr (13, mg)), (mdA, .inl (mdC, (6, .inl (fun _ => 0)))), (oA, .inl (oC, (1, .inr (.inl oF))))] H) (hD : va_D (fun q : Nat => s.heap.size ≤ q) [(x, .inr (12, xg)), (deA, .inl (deC, (6, .inr (.inr (.inr (.inr deF)))))), (de0, .inr (3, deg0)), (de1, .inr (3, deg1)), (de2, .inr (3, deg2)), (de3, .inr (3, deg3)), (de4, .inr (3, deg4)), (de5, .inr (3, deg5)), (m0, .inr (13, mg)), (mdA, .inl (mdC, (6, .inl (fun _ => 0)))), (oA, .inl (oC, (1, .inr (.inl oF))))]) (hS : va_S (fun q : Nat => s.heap.size ≤ q) s.heap H locs) (ls : Array Slot) (hl : lv_has ls 7 [(0, .ref b), (1, .ref x), (2, .ref m0), (3, .ref oA), (4, .int 0)]) : W p l e room_1 s m #[Value.ref b] below meth c H locs 451 2709142 (lw_Z below #[Value.ref b] s) (F0 m 1208 ls []) := by
  obtain ⟨hx, hb, hr, hml, hown, hts0, hX, hbl, hlocks, hgv⟩ := id C0
  have hts : ∀ w ∈ BG, w.before _ s = true := fun w h => hts0 w (List.mem_filter.mp h).1
  have hown : s.vm.findClass RL = some m.cls := hown
  have hA : ∀ q : Nat, s.heap.size ≤ q → (fun q : Nat => s.heap.size ≤ q) q := fun _ h => h
  have hbA : ¬ (fun q : Nat => s.heap.size ≤ q) b := Nat.not_le.mpr hbl
  refine lv_aload_n hx hb dL_law_1208 rfl (lv_at hl 1 rfl) ?_
  refine lv_aload_n hx hb dL_law_1209 rfl (lv_at hl 0 rfl) ?_
  refine lv_iload hx hb dL_law_1210 (lv_at hl 4 rfl) ?_
  refine lv_iconst (v := 1) hx hb dL_law_1212 (by decide +kernel) ?_
  refine lv_iadd hx hb dL_law_1213 ?_
  refine va_sld hx hb hX hbl hbA hS vi_1 dL_law_1214 ?_
  refine lv_aload_n hx hb dL_law_1215 rfl (lv_at hl 0 rfl) ?_
  refine lv_iload hx hb dL_law_1216 (lv_at hl 4 rfl) ?_
  refine lv_iconst (v := 2) hx hb dL_law_1218 (by decide +kernel) ?_
  refine lv_iadd hx hb dL_law_1219 ?_
  refine va_sld hx hb hX hbl hbA hS vi_2 dL_law_1220 ?_
  refine lv_aload_n hx hb dL_law_1221 rfl (lv_at hl 3 rfl) ?_
  have hPc := hP.sub (ws' := [(x, .inr (12, xg)), (deA, .inl (deC, (6, .inr (.inr (.inr (.inr deF)))))), (de0, .inr (3, deg0)), (de1, .inr (3, deg1)), (de2, .inr (3, deg2)), (de3, .inr (3, deg3)), (de4, .inr (3, deg4)), (de5, .inr (3, deg5)), (oA, .inl (oC, (1, .inr (.inl oF))))]) [0, 1, 2, 3, 4, 5, 6, 7, 10] rfl
  have hDc := hD.sub (ws' := [(x, .inr (12, xg)), (deA, .inl (deC, (6, .inr (.inr (.inr (.inr deF)))))), (de0, .inr (3, deg0)), (de1, .inr (3, deg1)), (de2, .inr (3, deg2)), (de3, .inr (3, deg3)), (de4, .inr (3, deg4)), (de5, .inr (3, deg5)), (oA, .inl (oC, (1, .inr (.inl oF))))]) [0, 1, 2, 3, 4, 5, 6, 7, 10] (by decide) rfl
  have hKc := hK.sub (tys' := [(deC, .object "ChipFlow$Design"), (oC, .long)]) [0, 2] rfl
  have hFc := va_free (wc := [(x, .inr (12, xg)), (deA, .inl (deC, (6, .inr (.inr (.inr (.inr deF)))))), (de0, .inr (3, deg0)), (de1, .inr (3, deg1)), (de2, .inr (3, deg2)), (de3, .inr (3, deg3)), (de4, .inr (3, deg4)), (de5, .inr (3, deg5)), (oA, .inl (oC, (1, .inr (.inl oF))))]) hD hS hA [0, 1, 2, 3, 4, 5, 6, 7, 10] rfl
  refine va_calli (vx_runSW (As := [.ref x, .int (xs ((0 : Int32) + 1).toNatClampNeg), .int (xs ((0 : Int32) + 2).toNatClampNeg), .ref oA]) (rest := []) ⟨hx, hb, hml, hown, hts⟩ (ct_L_equal l hlt dC dI H.size (xs ((0 : Int32) + 1).toNatClampNeg) (xs ((0 : Int32) + 2).toNatClampNeg) x xg deA deC deF de0 de1 de2 de3 de4 de5 deg0 deg1 deg2 deg3 deg4 deg5 hdeg0 hdeF0 hdeg1 hdeF1 hdeg2 hdeF2 hdeg3 hdeF3 hdeg4 hdeF4 hdeg5 hdeF5 oA oC oF hxg) (vx_cwSW 4 hts (gi_W wd_1904 wd_1905 wd_326 wd_1906) rfl rfl rfl (by decide +kernel) ⟨(Nat.le_of_ble_eq_true rfl), (Nat.le_of_ble_eq_true rfl)⟩) ⟨fun a U g mk q => by obtain ⟨q0, q1, qP, qK, qD, qT⟩ := q; exact ⟨q0, q1, qP, va_K.moved (u := U) (U := U.calling g mk a) (Vm.Alike.refl U.vm) qK, qD, th.moved (u := U) (U := U.calling g mk a) (Vm.Alike.refl U.vm) qT⟩, fun U hU hW => ⟨rfl, by rw [hU], by rw [hU]; exact hPc, va_K.moved hW.alike hKc, hDc.weaken (fun _ _ _ _ => trivial), by rw [hU]; exact ((hth.kept hS.2.1).narrow hFc).moved hW.alike⟩⟩ rfl rfl hl.1 rfl (lv_room (Nat.le_of_ble_eq_true rfl)) dL_law_1222 ⟨(Nat.le_of_ble_eq_true rfl), (Nat.le_of_ble_eq_true rfl)⟩) hS (fun q _ h => hFc q h) hFc (fun r u t H1 locs ht hvm hw hB hz1 hk1 hS => ?_)
  subst hw
  obtain ⟨hP1, -, hD1⟩ := hB
  rw [ht] at hP1
  obtain ⟨hP, hD⟩ := va_join (wr := [(m0, .inr (13, mg)), (mdA, .inl (mdC, (6, .inl (fun _ => 0))))]) (w1 := [(oA, .inl (oC, (1, .inr (.inl oF))))]) hP hD [0, 1, 2, 3, 4, 5, 6, 7, 10] [8, 9] rfl rfl (by decide) (by decide) hk1 hFc hP1 hD1
  have hP := hP.sub (ws' := [(m0, .inr (13, mg)), (mdA, .inl (mdC, (6, .inl (fun _ => 0))))]) [0, 1] rfl
  have hD := hD.sub (ws' := [(m0, .inr (13, mg)), (mdA, .inl (mdC, (6, .inl (fun _ => 0))))]) [0, 1] (by decide) rfl
  have hK := hK.sub (tys' := [(mdC, .boolean)]) [1] rfl
  generalize H1 = H at hP hS ⊢
  refine W.widen (k := 452) (n := 2709148) (Nat.le_of_ble_eq_true rfl) (Nat.le_of_ble_eq_true rfl) ?_
  refine lv_istore (lv' := [(5, .int 1), (0, .ref b), (1, .ref x), (2, .ref m0), (3, .ref oA), (4, .int 0)]) hx hb dL_law_1225 hl (by decide) rfl (fun ls hl => ?_)
  refine lv_aload_n hx hb dL_law_1227 rfl (lv_at hl 3 rfl) ?_
  refine lv_aload_n hx hb dL_law_1228 rfl (lv_at hl 1 rfl) ?_
  refine lv_iload hx hb dL_law_1229 (lv_at hl 5 rfl) ?_
  refine lv_iconst (v := 1) hx hb dL_law_1231 (by decide +kernel) ?_
  refine lv_iadd hx hb dL_law_1232 ?_
  refine va_sld hx hb hX hbl hbA hS vi_1 dL_law_1233 ?_
  refine lv_aload_n hx hb dL_law_1234 rfl (lv_at hl 1 rfl) ?_
  refine lv_iload hx hb dL_law_1235 (lv_at hl 5 rfl) ?_
  refine lv_iconst (v := 2) hx hb dL_law_1237 (by decide +kernel) ?_
  refine lv_iadd hx hb dL_law_1238 ?_
  refine va_sld hx hb hX hbl hbA hS vi_2 dL_law_1239 ?_
  have hFc := va_free (wc := [(m0, .inr (13, mg)), (mdA, .inl (mdC, (6, .inl (fun _ => 0))))]) hD hS hA [0, 1] rfl
  refine va_calli (va_runV (As := [.int (xs ((0 : Int32) + 1).toNatClampNeg), .int (xs ((0 : Int32) + 2).toNatClampNeg)]) (rest := []) ⟨hx, hb, hml, hown, hts⟩ (ct_X13_equal l dC dI _ (xs ((0 : Int32) + 1).toNatClampNeg) (xs ((0 : Int32) + 2).toNatClampNeg) m0 mg mdA mdC hmg) (cwV 2 hts (gi_V wd_4131 wd_4132 wd_4133 wd_340 wd_4134) rfl rfl rfl (by decide +kernel) ⟨(Nat.le_of_ble_eq_true rfl), (Nat.le_of_ble_eq_true rfl)⟩) ⟨fun a U g mk q => by obtain ⟨q0, q1, qP, qK, qD⟩ := q; exact ⟨q0, q1, qP, va_K.moved (u := U) (U := U.calling g mk a) (Vm.Alike.refl U.vm) qK, qD⟩, va_recv hK hP (ci := 13) (q0 := 0) rfl rfl, fun U hU hW => ⟨rfl, by rw [hU], by rw [hU]; exact hP, va_K.moved hW.alike hK, hD.weaken (fun _ _ _ _ => trivial)⟩⟩ rfl rfl hl.1 rfl (lv_room (Nat.le_of_ble_eq_true rfl)) dL_law_1240 ⟨(Nat.le_of_ble_eq_true rfl), (Nat.le_of_ble_eq_true rfl)⟩) hS (fun q _ h => hFc q h) hFc (fun r u t H1 locs ht hvm hw hB hz1 hk1 hS => ?_)
  subst hw
  obtain ⟨mg1, hmg1, hP1, hK1, hD1⟩ := hB
  rw [ht] at hP1
  have hK1 := va_K.moved hvm.symm hK1
  have hD1 := hD1.weaken (fun k q _ h => hFc q.1 h)
  generalize H1 = H at hP1 hS ⊢
  refine lv_istore (lv' := [(6, .int 0), (5, .int 1), (0, .ref b), (1, .ref x), (2, .ref m0), (3, .ref oA), (4, .int 0)]) hx hb dL_law_1243 hl (by decide) rfl (fun ls hl => ?_)
  refine lv_aload_n hx hb dL_law_1245 rfl (lv_at hl 4 rfl) ?_
  have hFc := va_free (wc := [(m0, .inr (13, mg1))]) hD1 hS hA [0] rfl
  refine va_calli (va_runV (As := []) (rest := []) ⟨hx, hb, hml, hown, hts⟩ (ct_X13_thrown l dC dI _ 1 m0 mg1 hmg1) (cwV 0 hts (gi_V wd_3015 wd_3016 wd_3017 wd_340 wd_3018) rfl rfl rfl (by decide +kernel) ⟨(Nat.le_of_ble_eq_true rfl), (Nat.le_of_ble_eq_true rfl)⟩) ⟨fun a U g mk q => by obtain ⟨q0, q1, qP, qK, qD⟩ := q; exact ⟨q0, q1, qP, va_K.moved (u := U) (U := U.calling g mk a) (Vm.Alike.refl U.vm) qK, qD⟩, va_recv hK1 hP1 (ci := 13) (q0 := 0) rfl rfl, fun U hU hW => ⟨rfl, by rw [hU], by rw [hU]; exact hP1, va_K.moved hW.alike hK1, hD1.weaken (fun _ _ _ _ => trivial)⟩⟩ rfl rfl hl.1 rfl (lv_room (Nat.le_of_ble_eq_true rfl)) dL_law_1246 ⟨(Nat.le_of_ble_eq_true rfl), (Nat.le_of_ble_eq_true rfl)⟩) hS (fun q _ h => hFc q h) hFc (fun r u t H1 locs ht hvm hw hB hz1 hk1 hS => ?_)
  subst hw
  refine lv_iload hx hb dL_law_1249 (lv_at hl 1 rfl) ?_
  refine lv_icmp_eq (tgt := 1256) hx hb dL_law_1251 (by decide) (fun c9 => ?_) (fun c9 => ?_)
  rotate_left
  · first | exact absurd c9 (by decide +kernel) | exact absurd (by decide +kernel) c9
  refine lv_iload hx hb dL_law_1256 (lv_at hl 1 rfl) ?_
  refine lv_if_ne (tgt := 1273) hx hb dL_law_1258 (by decide) (fun c9 => ?_) (fun c9 => ?_)
  rotate_left
  · first | exact absurd c9 (by decide +kernel) | exact absurd (by decide +kernel) c9
  refine lv_goto (tgt := 4099) hx hb dL_law_1273 (by decide) ?_
  refine W.widen (k := 470) (n := 2709300) (Nat.le_of_ble_eq_true rfl) (Nat.le_of_ble_eq_true rfl) ?_
  exact law_tail (v5 := 0) (v6 := 0) (lv := []) C0 hS (lv_sub hl [2, 6] rfl)
set_option maxHeartbeats 4000000 in
set_option maxRecDepth 100000 in
theorem law_never {p : Program} {l : Launch} {e : Env} {s : State} {m : MethodId} {below : List Frame} {meth : Method} {c : Code} {b : Nat} {xs : Nat → Int32} (C0 : lw_At p s m meth c b 7 xs) {dC : Nat → ClassId} {dI : Nat → Nat → Nat} (hlt : l.stackTraces = false) (hth : th (fun q : Nat => s.heap.size ≤ q) s s.heap) (x : Nat) (xg : List Value) (deA : Nat) (deC : ClassId) (deF : Nat → Option Nat) (de0 de1 de2 de3 de4 de5 : Nat) (deg0 deg1 deg2 deg3 deg4 deg5 : List Value) (hdeg0 : fx deg0 16 [(0, .int 0)]) (hdeF0 : deF 0 = some de0) (hdeg1 : fx deg1 16 [(0, .int 0)]) (hdeF1 : deF 1 = some de1) (hdeg2 : fx deg2 16 [(0, .int 0)]) (hdeF2 : deF 2 = some de2) (hdeg3 : fx deg3 16 [(0, .int 0)]) (hdeF3 : deF 3 = some de3) (hdeg4 : fx deg4 16 [(0, .int 0)]) (hdeF4 : deF 4 = some de4) (hdeg5 : fx deg5 16 [(0, .int 0)]) (hdeF5 : deF 5 = some de5) (m0 : Nat) (mg : List Value) (mdA : Nat) (mdC : ClassId) (oA : Nat) (oC : ClassId) (oF : Nat → Int64) (hxg : fx xg 17 [(7, .ref deA)]) (hmg : fx mg 225 [(55, .ref mdA)]) (H : Heap) (locs : List Loc) (hK : va_K (dC, dI) CL [(deC, .object "ChipFlow$Design"), (mdC, .boolean), (oC, .long)] s) (hP : va_P (dC, dI) CL [(x, .inr (12, xg)), (deA, .inl (deC, (6, .inr (.inr (.inr (.inr deF)))))), (de0, .inr (3, deg0)), (de1, .inr (3, deg1)), (de2, .inr (3, deg2)), (de3, .inr (3, deg3)), (de4, .inr (3, deg4)), (de5, .inr (3, deg5)), (m0, .inr (13, mg)), (mdA, .inl (mdC, (6, .inl (fun _ => 0)))), (oA, .inl (oC, (1, .inr (.inl oF))))] H) (hD : va_D (fun q : Nat => s.heap.size ≤ q) [(x, .inr (12, xg)), (deA, .inl (deC, (6, .inr (.inr (.inr (.inr deF)))))), (de0, .inr (3, deg0)), (de1, .inr (3, deg1)), (de2, .inr (3, deg2)), (de3, .inr (3, deg3)), (de4, .inr (3, deg4)), (de5, .inr (3, deg5)), (m0, .inr (13, mg)), (mdA, .inl (mdC, (6, .inl (fun _ => 0)))), (oA, .inl (oC, (1, .inr (.inl oF))))]) (hS : va_S (fun q : Nat => s.heap.size ≤ q) s.heap H locs) (ls : Array Slot) (hl : lv_has ls 7 [(0, .ref b), (1, .ref x), (2, .ref m0), (3, .ref oA), (4, .int 0)]) : W p l e room_1 s m #[Value.ref b] below meth c H locs 451 2709142 (lw_Z below #[Value.ref b] s) (F0 m 1276 ls []) := by
  obtain ⟨hx, hb, hr, hml, hown, hts0, hX, hbl, hlocks, hgv⟩ := id C0
  have hts : ∀ w ∈ BG, w.before _ s = true := fun w h => hts0 w (List.mem_filter.mp h).1
  have hown : s.vm.findClass RL = some m.cls := hown
  have hA : ∀ q : Nat, s.heap.size ≤ q → (fun q : Nat => s.heap.size ≤ q) q := fun _ h => h
  have hbA : ¬ (fun q : Nat => s.heap.size ≤ q) b := Nat.not_le.mpr hbl
  refine lv_aload_n hx hb dL_law_1276 rfl (lv_at hl 1 rfl) ?_
  refine lv_aload_n hx hb dL_law_1277 rfl (lv_at hl 0 rfl) ?_
  refine lv_iload hx hb dL_law_1278 (lv_at hl 4 rfl) ?_
  refine lv_iconst (v := 1) hx hb dL_law_1280 (by decide +kernel) ?_
  refine lv_iadd hx hb dL_law_1281 ?_
  refine va_sld hx hb hX hbl hbA hS vi_1 dL_law_1282 ?_
  refine lv_aload_n hx hb dL_law_1283 rfl (lv_at hl 0 rfl) ?_
  refine lv_iload hx hb dL_law_1284 (lv_at hl 4 rfl) ?_
  refine lv_iconst (v := 2) hx hb dL_law_1286 (by decide +kernel) ?_
  refine lv_iadd hx hb dL_law_1287 ?_
  refine va_sld hx hb hX hbl hbA hS vi_2 dL_law_1288 ?_
  refine lv_aload_n hx hb dL_law_1289 rfl (lv_at hl 3 rfl) ?_
  have hPc := hP.sub (ws' := [(x, .inr (12, xg)), (deA, .inl (deC, (6, .inr (.inr (.inr (.inr deF)))))), (de0, .inr (3, deg0)), (de1, .inr (3, deg1)), (de2, .inr (3, deg2)), (de3, .inr (3, deg3)), (de4, .inr (3, deg4)), (de5, .inr (3, deg5)), (oA, .inl (oC, (1, .inr (.inl oF))))]) [0, 1, 2, 3, 4, 5, 6, 7, 10] rfl
  have hDc := hD.sub (ws' := [(x, .inr (12, xg)), (deA, .inl (deC, (6, .inr (.inr (.inr (.inr deF)))))), (de0, .inr (3, deg0)), (de1, .inr (3, deg1)), (de2, .inr (3, deg2)), (de3, .inr (3, deg3)), (de4, .inr (3, deg4)), (de5, .inr (3, deg5)), (oA, .inl (oC, (1, .inr (.inl oF))))]) [0, 1, 2, 3, 4, 5, 6, 7, 10] (by decide) rfl
  have hKc := hK.sub (tys' := [(deC, .object "ChipFlow$Design"), (oC, .long)]) [0, 2] rfl
  have hFc := va_free (wc := [(x, .inr (12, xg)), (deA, .inl (deC, (6, .inr (.inr (.inr (.inr deF)))))), (de0, .inr (3, deg0)), (de1, .inr (3, deg1)), (de2, .inr (3, deg2)), (de3, .inr (3, deg3)), (de4, .inr (3, deg4)), (de5, .inr (3, deg5)), (oA, .inl (oC, (1, .inr (.inl oF))))]) hD hS hA [0, 1, 2, 3, 4, 5, 6, 7, 10] rfl
  refine va_calli (vx_runSW (As := [.ref x, .int (xs ((0 : Int32) + 1).toNatClampNeg), .int (xs ((0 : Int32) + 2).toNatClampNeg), .ref oA]) (rest := []) ⟨hx, hb, hml, hown, hts⟩ (ct_L_never l hlt dC dI H.size (xs ((0 : Int32) + 1).toNatClampNeg) (xs ((0 : Int32) + 2).toNatClampNeg) x xg deA deC deF de0 de1 de2 de3 de4 de5 deg0 deg1 deg2 deg3 deg4 deg5 hdeg0 hdeF0 hdeg1 hdeF1 hdeg2 hdeF2 hdeg3 hdeF3 hdeg4 hdeF4 hdeg5 hdeF5 oA oC oF hxg) (vx_cwSW 4 hts (gi_W wd_1920 wd_1921 wd_326 wd_1922) rfl rfl rfl (by decide +kernel) ⟨(Nat.le_of_ble_eq_true rfl), (Nat.le_of_ble_eq_true rfl)⟩) ⟨fun a U g mk q => by obtain ⟨q0, q1, qP, qK, qD, qT⟩ := q; exact ⟨q0, q1, qP, va_K.moved (u := U) (U := U.calling g mk a) (Vm.Alike.refl U.vm) qK, qD, th.moved (u := U) (U := U.calling g mk a) (Vm.Alike.refl U.vm) qT⟩, fun U hU hW => ⟨rfl, by rw [hU], by rw [hU]; exact hPc, va_K.moved hW.alike hKc, hDc.weaken (fun _ _ _ _ => trivial), by rw [hU]; exact ((hth.kept hS.2.1).narrow hFc).moved hW.alike⟩⟩ rfl rfl hl.1 rfl (lv_room (Nat.le_of_ble_eq_true rfl)) dL_law_1290 ⟨(Nat.le_of_ble_eq_true rfl), (Nat.le_of_ble_eq_true rfl)⟩) hS (fun q _ h => hFc q h) hFc (fun r u t H1 locs ht hvm hw hB hz1 hk1 hS => ?_)
  subst hw
  obtain ⟨hP1, -, hD1⟩ := hB
  rw [ht] at hP1
  obtain ⟨hP, hD⟩ := va_join (wr := [(m0, .inr (13, mg)), (mdA, .inl (mdC, (6, .inl (fun _ => 0))))]) (w1 := [(oA, .inl (oC, (1, .inr (.inl oF))))]) hP hD [0, 1, 2, 3, 4, 5, 6, 7, 10] [8, 9] rfl rfl (by decide) (by decide) hk1 hFc hP1 hD1
  have hP := hP.sub (ws' := [(m0, .inr (13, mg)), (mdA, .inl (mdC, (6, .inl (fun _ => 0))))]) [0, 1] rfl
  have hD := hD.sub (ws' := [(m0, .inr (13, mg)), (mdA, .inl (mdC, (6, .inl (fun _ => 0))))]) [0, 1] (by decide) rfl
  have hK := hK.sub (tys' := [(mdC, .boolean)]) [1] rfl
  generalize H1 = H at hP hS ⊢
  refine W.widen (k := 452) (n := 2709148) (Nat.le_of_ble_eq_true rfl) (Nat.le_of_ble_eq_true rfl) ?_
  refine lv_istore (lv' := [(5, .int 1), (0, .ref b), (1, .ref x), (2, .ref m0), (3, .ref oA), (4, .int 0)]) hx hb dL_law_1293 hl (by decide) rfl (fun ls hl => ?_)
  refine lv_aload_n hx hb dL_law_1295 rfl (lv_at hl 3 rfl) ?_
  refine lv_aload_n hx hb dL_law_1296 rfl (lv_at hl 1 rfl) ?_
  refine lv_iload hx hb dL_law_1297 (lv_at hl 5 rfl) ?_
  refine lv_iconst (v := 1) hx hb dL_law_1299 (by decide +kernel) ?_
  refine lv_iadd hx hb dL_law_1300 ?_
  refine va_sld hx hb hX hbl hbA hS vi_1 dL_law_1301 ?_
  refine lv_aload_n hx hb dL_law_1302 rfl (lv_at hl 1 rfl) ?_
  refine lv_iload hx hb dL_law_1303 (lv_at hl 5 rfl) ?_
  refine lv_iconst (v := 2) hx hb dL_law_1305 (by decide +kernel) ?_
  refine lv_iadd hx hb dL_law_1306 ?_
  refine va_sld hx hb hX hbl hbA hS vi_2 dL_law_1307 ?_
  have hFc := va_free (wc := [(m0, .inr (13, mg)), (mdA, .inl (mdC, (6, .inl (fun _ => 0))))]) hD hS hA [0, 1] rfl
  refine va_calli (va_runV (As := [.int (xs ((0 : Int32) + 1).toNatClampNeg), .int (xs ((0 : Int32) + 2).toNatClampNeg)]) (rest := []) ⟨hx, hb, hml, hown, hts⟩ (ct_X13_never l dC dI _ (xs ((0 : Int32) + 1).toNatClampNeg) (xs ((0 : Int32) + 2).toNatClampNeg) m0 mg mdA mdC hmg) (cwV 2 hts (gi_V wd_4151 wd_4152 wd_4153 wd_340 wd_4154) rfl rfl rfl (by decide +kernel) ⟨(Nat.le_of_ble_eq_true rfl), (Nat.le_of_ble_eq_true rfl)⟩) ⟨fun a U g mk q => by obtain ⟨q0, q1, qP, qK, qD⟩ := q; exact ⟨q0, q1, qP, va_K.moved (u := U) (U := U.calling g mk a) (Vm.Alike.refl U.vm) qK, qD⟩, va_recv hK hP (ci := 13) (q0 := 0) rfl rfl, fun U hU hW => ⟨rfl, by rw [hU], by rw [hU]; exact hP, va_K.moved hW.alike hK, hD.weaken (fun _ _ _ _ => trivial)⟩⟩ rfl rfl hl.1 rfl (lv_room (Nat.le_of_ble_eq_true rfl)) dL_law_1308 ⟨(Nat.le_of_ble_eq_true rfl), (Nat.le_of_ble_eq_true rfl)⟩) hS (fun q _ h => hFc q h) hFc (fun r u t H1 locs ht hvm hw hB hz1 hk1 hS => ?_)
  subst hw
  obtain ⟨mg1, hmg1, hP1, hK1, hD1⟩ := hB
  rw [ht] at hP1
  have hK1 := va_K.moved hvm.symm hK1
  have hD1 := hD1.weaken (fun k q _ h => hFc q.1 h)
  generalize H1 = H at hP1 hS ⊢
  refine lv_istore (lv' := [(6, .int 0), (5, .int 1), (0, .ref b), (1, .ref x), (2, .ref m0), (3, .ref oA), (4, .int 0)]) hx hb dL_law_1311 hl (by decide) rfl (fun ls hl => ?_)
  refine lv_aload_n hx hb dL_law_1313 rfl (lv_at hl 4 rfl) ?_
  have hFc := va_free (wc := [(m0, .inr (13, mg1))]) hD1 hS hA [0] rfl
  refine va_calli (va_runV (As := []) (rest := []) ⟨hx, hb, hml, hown, hts⟩ (ct_X13_thrown l dC dI _ 1 m0 mg1 hmg1) (cwV 0 hts (gi_V wd_3015 wd_3016 wd_3017 wd_340 wd_3018) rfl rfl rfl (by decide +kernel) ⟨(Nat.le_of_ble_eq_true rfl), (Nat.le_of_ble_eq_true rfl)⟩) ⟨fun a U g mk q => by obtain ⟨q0, q1, qP, qK, qD⟩ := q; exact ⟨q0, q1, qP, va_K.moved (u := U) (U := U.calling g mk a) (Vm.Alike.refl U.vm) qK, qD⟩, va_recv hK1 hP1 (ci := 13) (q0 := 0) rfl rfl, fun U hU hW => ⟨rfl, by rw [hU], by rw [hU]; exact hP1, va_K.moved hW.alike hK1, hD1.weaken (fun _ _ _ _ => trivial)⟩⟩ rfl rfl hl.1 rfl (lv_room (Nat.le_of_ble_eq_true rfl)) dL_law_1314 ⟨(Nat.le_of_ble_eq_true rfl), (Nat.le_of_ble_eq_true rfl)⟩) hS (fun q _ h => hFc q h) hFc (fun r u t H1 locs ht hvm hw hB hz1 hk1 hS => ?_)
  subst hw
  refine lv_iload hx hb dL_law_1317 (lv_at hl 1 rfl) ?_
  refine lv_icmp_eq (tgt := 1324) hx hb dL_law_1319 (by decide) (fun c9 => ?_) (fun c9 => ?_)
  rotate_left
  · first | exact absurd c9 (by decide +kernel) | exact absurd (by decide +kernel) c9
  refine lv_iload hx hb dL_law_1324 (lv_at hl 1 rfl) ?_
  refine lv_if_ne (tgt := 1341) hx hb dL_law_1326 (by decide) (fun c9 => ?_) (fun c9 => ?_)
  rotate_left
  · first | exact absurd c9 (by decide +kernel) | exact absurd (by decide +kernel) c9
  refine lv_goto (tgt := 4099) hx hb dL_law_1341 (by decide) ?_
  refine W.widen (k := 470) (n := 2709300) (Nat.le_of_ble_eq_true rfl) (Nat.le_of_ble_eq_true rfl) ?_
  exact law_tail (v5 := 0) (v6 := 0) (lv := []) C0 hS (lv_sub hl [2, 6] rfl)
set_option maxHeartbeats 4000000 in
set_option maxRecDepth 100000 in
theorem law_chip {p : Program} {l : Launch} {e : Env} {s : State} {m : MethodId} {below : List Frame} {meth : Method} {c : Code} {b : Nat} {xs : Nat → Int32} (C0 : lw_At p s m meth c b 7 xs) {dC : Nat → ClassId} {dI : Nat → Nat → Nat} (hlt : l.stackTraces = false) (hth : th (fun q : Nat => s.heap.size ≤ q) s s.heap) (x : Nat) (xg : List Value) (chA : Nat) (chC : ClassId) (chF : Nat → Option Nat) (ch0 ch1 ch2 ch3 : Nat) (chg0 chg1 chg2 chg3 : List Value) (hchg0 : fx chg0 20 [(0, .int 0)]) (hchF0 : chF 0 = some ch0) (hchg1 : fx chg1 20 [(0, .int 0)]) (hchF1 : chF 1 = some ch1) (hchg2 : fx chg2 20 [(0, .int 0)]) (hchF2 : chF 2 = some ch2) (hchg3 : fx chg3 20 [(0, .int 0)]) (hchF3 : chF 3 = some ch3) (m0 : Nat) (mg : List Value) (mcA : Nat) (mcC : ClassId) (oA : Nat) (oC : ClassId) (oF : Nat → Int64) (hxg : fx xg 17 [(9, .ref chA)]) (hmg : fx mg 225 [(138, .ref mcA)]) (H : Heap) (locs : List Loc) (hK : va_K (dC, dI) CL [(chC, .object "ChipFlow$Chip"), (mcC, .boolean), (oC, .long)] s) (hP : va_P (dC, dI) CL [(x, .inr (12, xg)), (chA, .inl (chC, (4, .inr (.inr (.inr (.inr chF)))))), (ch0, .inr (2, chg0)), (ch1, .inr (2, chg1)), (ch2, .inr (2, chg2)), (ch3, .inr (2, chg3)), (m0, .inr (13, mg)), (mcA, .inl (mcC, (4, .inl (fun _ => 0)))), (oA, .inl (oC, (1, .inr (.inl oF))))] H) (hD : va_D (fun q : Nat => s.heap.size ≤ q) [(x, .inr (12, xg)), (chA, .inl (chC, (4, .inr (.inr (.inr (.inr chF)))))), (ch0, .inr (2, chg0)), (ch1, .inr (2, chg1)), (ch2, .inr (2, chg2)), (ch3, .inr (2, chg3)), (m0, .inr (13, mg)), (mcA, .inl (mcC, (4, .inl (fun _ => 0)))), (oA, .inl (oC, (1, .inr (.inl oF))))]) (hS : va_S (fun q : Nat => s.heap.size ≤ q) s.heap H locs) (ls : Array Slot) (hl : lv_has ls 7 [(0, .ref b), (1, .ref x), (2, .ref m0), (3, .ref oA), (4, .int 0)]) : W p l e room_1 s m #[Value.ref b] below meth c H locs 451 2709142 (lw_Z below #[Value.ref b] s) (F0 m 1468 ls []) := by
  obtain ⟨hx, hb, hr, hml, hown, hts0, hX, hbl, hlocks, hgv⟩ := id C0
  have hts : ∀ w ∈ BG, w.before _ s = true := fun w h => hts0 w (List.mem_filter.mp h).1
  have hown : s.vm.findClass RL = some m.cls := hown
  have hA : ∀ q : Nat, s.heap.size ≤ q → (fun q : Nat => s.heap.size ≤ q) q := fun _ h => h
  have hbA : ¬ (fun q : Nat => s.heap.size ≤ q) b := Nat.not_le.mpr hbl
  refine lv_aload_n hx hb dL_law_1468 rfl (lv_at hl 1 rfl) ?_
  refine lv_aload_n hx hb dL_law_1469 rfl (lv_at hl 0 rfl) ?_
  refine lv_iload hx hb dL_law_1470 (lv_at hl 4 rfl) ?_
  refine lv_iconst (v := 1) hx hb dL_law_1472 (by decide +kernel) ?_
  refine lv_iadd hx hb dL_law_1473 ?_
  refine va_sld hx hb hX hbl hbA hS vi_1 dL_law_1474 ?_
  refine lv_aload_n hx hb dL_law_1475 rfl (lv_at hl 0 rfl) ?_
  refine lv_iload hx hb dL_law_1476 (lv_at hl 4 rfl) ?_
  refine lv_iconst (v := 2) hx hb dL_law_1478 (by decide +kernel) ?_
  refine lv_iadd hx hb dL_law_1479 ?_
  refine va_sld hx hb hX hbl hbA hS vi_2 dL_law_1480 ?_
  refine lv_aload_n hx hb dL_law_1481 rfl (lv_at hl 3 rfl) ?_
  have hPc := hP.sub (ws' := [(x, .inr (12, xg)), (chA, .inl (chC, (4, .inr (.inr (.inr (.inr chF)))))), (ch0, .inr (2, chg0)), (ch1, .inr (2, chg1)), (ch2, .inr (2, chg2)), (ch3, .inr (2, chg3)), (oA, .inl (oC, (1, .inr (.inl oF))))]) [0, 1, 2, 3, 4, 5, 8] rfl
  have hDc := hD.sub (ws' := [(x, .inr (12, xg)), (chA, .inl (chC, (4, .inr (.inr (.inr (.inr chF)))))), (ch0, .inr (2, chg0)), (ch1, .inr (2, chg1)), (ch2, .inr (2, chg2)), (ch3, .inr (2, chg3)), (oA, .inl (oC, (1, .inr (.inl oF))))]) [0, 1, 2, 3, 4, 5, 8] (by decide) rfl
  have hKc := hK.sub (tys' := [(chC, .object "ChipFlow$Chip"), (oC, .long)]) [0, 2] rfl
  have hFc := va_free (wc := [(x, .inr (12, xg)), (chA, .inl (chC, (4, .inr (.inr (.inr (.inr chF)))))), (ch0, .inr (2, chg0)), (ch1, .inr (2, chg1)), (ch2, .inr (2, chg2)), (ch3, .inr (2, chg3)), (oA, .inl (oC, (1, .inr (.inl oF))))]) hD hS hA [0, 1, 2, 3, 4, 5, 8] rfl
  refine va_calli (vx_runSW (As := [.ref x, .int (xs ((0 : Int32) + 1).toNatClampNeg), .int (xs ((0 : Int32) + 2).toNatClampNeg), .ref oA]) (rest := []) ⟨hx, hb, hml, hown, hts⟩ (ct_L_chip l hlt dC dI H.size (xs ((0 : Int32) + 1).toNatClampNeg) (xs ((0 : Int32) + 2).toNatClampNeg) x xg chA chC chF ch0 ch1 ch2 ch3 chg0 chg1 chg2 chg3 hchg0 hchF0 hchg1 hchF1 hchg2 hchF2 hchg3 hchF3 oA oC oF hxg) (vx_cwSW 4 hts (gi_W wd_2125 wd_2126 wd_326 wd_2127) rfl rfl rfl (by decide +kernel) ⟨(Nat.le_of_ble_eq_true rfl), (Nat.le_of_ble_eq_true rfl)⟩) ⟨fun a U g mk q => by obtain ⟨q0, q1, qP, qK, qD, qT⟩ := q; exact ⟨q0, q1, qP, va_K.moved (u := U) (U := U.calling g mk a) (Vm.Alike.refl U.vm) qK, qD, th.moved (u := U) (U := U.calling g mk a) (Vm.Alike.refl U.vm) qT⟩, fun U hU hW => ⟨rfl, by rw [hU], by rw [hU]; exact hPc, va_K.moved hW.alike hKc, hDc.weaken (fun _ _ _ _ => trivial), by rw [hU]; exact ((hth.kept hS.2.1).narrow hFc).moved hW.alike⟩⟩ rfl rfl hl.1 rfl (lv_room (Nat.le_of_ble_eq_true rfl)) dL_law_1482 ⟨(Nat.le_of_ble_eq_true rfl), (Nat.le_of_ble_eq_true rfl)⟩) hS (fun q _ h => hFc q h) hFc (fun r u t H1 locs ht hvm hw hB hz1 hk1 hS => ?_)
  subst hw
  obtain ⟨hP1, -, hD1⟩ := hB
  rw [ht] at hP1
  obtain ⟨hP, hD⟩ := va_join (wr := [(m0, .inr (13, mg)), (mcA, .inl (mcC, (4, .inl (fun _ => 0))))]) (w1 := [(oA, .inl (oC, (1, .inr (.inl oF))))]) hP hD [0, 1, 2, 3, 4, 5, 8] [6, 7] rfl rfl (by decide) (by decide) hk1 hFc hP1 hD1
  have hP := hP.sub (ws' := [(m0, .inr (13, mg)), (mcA, .inl (mcC, (4, .inl (fun _ => 0))))]) [0, 1] rfl
  have hD := hD.sub (ws' := [(m0, .inr (13, mg)), (mcA, .inl (mcC, (4, .inl (fun _ => 0))))]) [0, 1] (by decide) rfl
  have hK := hK.sub (tys' := [(mcC, .boolean)]) [1] rfl
  generalize H1 = H at hP hS ⊢
  refine W.widen (k := 452) (n := 2709148) (Nat.le_of_ble_eq_true rfl) (Nat.le_of_ble_eq_true rfl) ?_
  refine lv_istore (lv' := [(5, .int 1), (0, .ref b), (1, .ref x), (2, .ref m0), (3, .ref oA), (4, .int 0)]) hx hb dL_law_1485 hl (by decide) rfl (fun ls hl => ?_)
  refine lv_aload_n hx hb dL_law_1487 rfl (lv_at hl 3 rfl) ?_
  refine lv_aload_n hx hb dL_law_1488 rfl (lv_at hl 1 rfl) ?_
  refine lv_iload hx hb dL_law_1489 (lv_at hl 5 rfl) ?_
  refine lv_iconst (v := 1) hx hb dL_law_1491 (by decide +kernel) ?_
  refine lv_iadd hx hb dL_law_1492 ?_
  refine va_sld hx hb hX hbl hbA hS vi_1 dL_law_1493 ?_
  refine lv_aload_n hx hb dL_law_1494 rfl (lv_at hl 1 rfl) ?_
  refine lv_iload hx hb dL_law_1495 (lv_at hl 5 rfl) ?_
  refine lv_iconst (v := 2) hx hb dL_law_1497 (by decide +kernel) ?_
  refine lv_iadd hx hb dL_law_1498 ?_
  refine va_sld hx hb hX hbl hbA hS vi_2 dL_law_1499 ?_
  have hFc := va_free (wc := [(m0, .inr (13, mg)), (mcA, .inl (mcC, (4, .inl (fun _ => 0))))]) hD hS hA [0, 1] rfl
  refine va_calli (va_runV (As := [.int (xs ((0 : Int32) + 1).toNatClampNeg), .int (xs ((0 : Int32) + 2).toNatClampNeg)]) (rest := []) ⟨hx, hb, hml, hown, hts⟩ (ct_X13_chip l dC dI _ (xs ((0 : Int32) + 1).toNatClampNeg) (xs ((0 : Int32) + 2).toNatClampNeg) m0 mg mcA mcC hmg) (cwV 2 hts (gi_V wd_4278 wd_4279 wd_4280 wd_340 wd_4281) rfl rfl rfl (by decide +kernel) ⟨(Nat.le_of_ble_eq_true rfl), (Nat.le_of_ble_eq_true rfl)⟩) ⟨fun a U g mk q => by obtain ⟨q0, q1, qP, qK, qD⟩ := q; exact ⟨q0, q1, qP, va_K.moved (u := U) (U := U.calling g mk a) (Vm.Alike.refl U.vm) qK, qD⟩, va_recv hK hP (ci := 13) (q0 := 0) rfl rfl, fun U hU hW => ⟨rfl, by rw [hU], by rw [hU]; exact hP, va_K.moved hW.alike hK, hD.weaken (fun _ _ _ _ => trivial)⟩⟩ rfl rfl hl.1 rfl (lv_room (Nat.le_of_ble_eq_true rfl)) dL_law_1500 ⟨(Nat.le_of_ble_eq_true rfl), (Nat.le_of_ble_eq_true rfl)⟩) hS (fun q _ h => hFc q h) hFc (fun r u t H1 locs ht hvm hw hB hz1 hk1 hS => ?_)
  subst hw
  obtain ⟨mg1, hmg1, hP1, hK1, hD1⟩ := hB
  rw [ht] at hP1
  have hK1 := va_K.moved hvm.symm hK1
  have hD1 := hD1.weaken (fun k q _ h => hFc q.1 h)
  generalize H1 = H at hP1 hS ⊢
  refine lv_istore (lv' := [(6, .int 0), (5, .int 1), (0, .ref b), (1, .ref x), (2, .ref m0), (3, .ref oA), (4, .int 0)]) hx hb dL_law_1503 hl (by decide) rfl (fun ls hl => ?_)
  refine lv_aload_n hx hb dL_law_1505 rfl (lv_at hl 4 rfl) ?_
  have hFc := va_free (wc := [(m0, .inr (13, mg1))]) hD1 hS hA [0] rfl
  refine va_calli (va_runV (As := []) (rest := []) ⟨hx, hb, hml, hown, hts⟩ (ct_X13_thrown l dC dI _ 1 m0 mg1 hmg1) (cwV 0 hts (gi_V wd_3015 wd_3016 wd_3017 wd_340 wd_3018) rfl rfl rfl (by decide +kernel) ⟨(Nat.le_of_ble_eq_true rfl), (Nat.le_of_ble_eq_true rfl)⟩) ⟨fun a U g mk q => by obtain ⟨q0, q1, qP, qK, qD⟩ := q; exact ⟨q0, q1, qP, va_K.moved (u := U) (U := U.calling g mk a) (Vm.Alike.refl U.vm) qK, qD⟩, va_recv hK1 hP1 (ci := 13) (q0 := 0) rfl rfl, fun U hU hW => ⟨rfl, by rw [hU], by rw [hU]; exact hP1, va_K.moved hW.alike hK1, hD1.weaken (fun _ _ _ _ => trivial)⟩⟩ rfl rfl hl.1 rfl (lv_room (Nat.le_of_ble_eq_true rfl)) dL_law_1506 ⟨(Nat.le_of_ble_eq_true rfl), (Nat.le_of_ble_eq_true rfl)⟩) hS (fun q _ h => hFc q h) hFc (fun r u t H1 locs ht hvm hw hB hz1 hk1 hS => ?_)
  subst hw
  refine lv_iload hx hb dL_law_1509 (lv_at hl 1 rfl) ?_
  refine lv_icmp_eq (tgt := 1516) hx hb dL_law_1511 (by decide) (fun c9 => ?_) (fun c9 => ?_)
  rotate_left
  · first | exact absurd c9 (by decide +kernel) | exact absurd (by decide +kernel) c9
  refine lv_iload hx hb dL_law_1516 (lv_at hl 1 rfl) ?_
  refine lv_if_ne (tgt := 1533) hx hb dL_law_1518 (by decide) (fun c9 => ?_) (fun c9 => ?_)
  rotate_left
  · first | exact absurd c9 (by decide +kernel) | exact absurd (by decide +kernel) c9
  refine lv_goto (tgt := 4099) hx hb dL_law_1533 (by decide) ?_
  refine W.widen (k := 470) (n := 2709300) (Nat.le_of_ble_eq_true rfl) (Nat.le_of_ble_eq_true rfl) ?_
  exact law_tail (v5 := 0) (v6 := 0) (lv := []) C0 hS (lv_sub hl [2, 6] rfl)
set_option maxHeartbeats 4000000 in
set_option maxRecDepth 100000 in
theorem law_gate {p : Program} {l : Launch} {e : Env} {s : State} {m : MethodId} {below : List Frame} {meth : Method} {c : Code} {b : Nat} {xs : Nat → Int32} (C0 : lw_At p s m meth c b 7 xs) {dC : Nat → ClassId} {dI : Nat → Nat → Nat} (hlt : l.stackTraces = false) (hth : th (fun q : Nat => s.heap.size ≤ q) s s.heap) (x : Nat) (xg : List Value) (chA : Nat) (chC : ClassId) (chF : Nat → Option Nat) (ch0 ch1 ch2 ch3 : Nat) (chg0 chg1 chg2 chg3 : List Value) (hchg0 : fx chg0 20 [(0, .int 0)]) (hchF0 : chF 0 = some ch0) (hchg1 : fx chg1 20 [(0, .int 0)]) (hchF1 : chF 1 = some ch1) (hchg2 : fx chg2 20 [(0, .int 0)]) (hchF2 : chF 2 = some ch2) (hchg3 : fx chg3 20 [(0, .int 0)]) (hchF3 : chF 3 = some ch3) (m0 : Nat) (mg : List Value) (mcA : Nat) (mcC : ClassId) (oA : Nat) (oC : ClassId) (oF : Nat → Int64) (hxg : fx xg 17 [(9, .ref chA)]) (hmg : fx mg 225 [(138, .ref mcA)]) (H : Heap) (locs : List Loc) (hK : va_K (dC, dI) CL [(chC, .object "ChipFlow$Chip"), (mcC, .boolean), (oC, .long)] s) (hP : va_P (dC, dI) CL [(x, .inr (12, xg)), (chA, .inl (chC, (4, .inr (.inr (.inr (.inr chF)))))), (ch0, .inr (2, chg0)), (ch1, .inr (2, chg1)), (ch2, .inr (2, chg2)), (ch3, .inr (2, chg3)), (m0, .inr (13, mg)), (mcA, .inl (mcC, (4, .inl (fun _ => 0)))), (oA, .inl (oC, (1, .inr (.inl oF))))] H) (hD : va_D (fun q : Nat => s.heap.size ≤ q) [(x, .inr (12, xg)), (chA, .inl (chC, (4, .inr (.inr (.inr (.inr chF)))))), (ch0, .inr (2, chg0)), (ch1, .inr (2, chg1)), (ch2, .inr (2, chg2)), (ch3, .inr (2, chg3)), (m0, .inr (13, mg)), (mcA, .inl (mcC, (4, .inl (fun _ => 0)))), (oA, .inl (oC, (1, .inr (.inl oF))))]) (hS : va_S (fun q : Nat => s.heap.size ≤ q) s.heap H locs) (ls : Array Slot) (hl : lv_has ls 7 [(0, .ref b), (1, .ref x), (2, .ref m0), (3, .ref oA), (4, .int 0)]) : W p l e room_1 s m #[Value.ref b] below meth c H locs 451 2709142 (lw_Z below #[Value.ref b] s) (F0 m 1536 ls []) := by
  obtain ⟨hx, hb, hr, hml, hown, hts0, hX, hbl, hlocks, hgv⟩ := id C0
  have hts : ∀ w ∈ BG, w.before _ s = true := fun w h => hts0 w (List.mem_filter.mp h).1
  have hown : s.vm.findClass RL = some m.cls := hown
  have hA : ∀ q : Nat, s.heap.size ≤ q → (fun q : Nat => s.heap.size ≤ q) q := fun _ h => h
  have hbA : ¬ (fun q : Nat => s.heap.size ≤ q) b := Nat.not_le.mpr hbl
  refine lv_aload_n hx hb dL_law_1536 rfl (lv_at hl 1 rfl) ?_
  refine lv_aload_n hx hb dL_law_1537 rfl (lv_at hl 0 rfl) ?_
  refine lv_iload hx hb dL_law_1538 (lv_at hl 4 rfl) ?_
  refine lv_iconst (v := 1) hx hb dL_law_1540 (by decide +kernel) ?_
  refine lv_iadd hx hb dL_law_1541 ?_
  refine va_sld hx hb hX hbl hbA hS vi_1 dL_law_1542 ?_
  refine lv_aload_n hx hb dL_law_1543 rfl (lv_at hl 0 rfl) ?_
  refine lv_iload hx hb dL_law_1544 (lv_at hl 4 rfl) ?_
  refine lv_iconst (v := 2) hx hb dL_law_1546 (by decide +kernel) ?_
  refine lv_iadd hx hb dL_law_1547 ?_
  refine va_sld hx hb hX hbl hbA hS vi_2 dL_law_1548 ?_
  refine lv_aload_n hx hb dL_law_1549 rfl (lv_at hl 0 rfl) ?_
  refine lv_iload hx hb dL_law_1550 (lv_at hl 4 rfl) ?_
  refine lv_iconst (v := 3) hx hb dL_law_1552 (by decide +kernel) ?_
  refine lv_iadd hx hb dL_law_1553 ?_
  refine va_sld hx hb hX hbl hbA hS vi_3 dL_law_1554 ?_
  refine lv_aload_n hx hb dL_law_1555 rfl (lv_at hl 3 rfl) ?_
  have hPc := hP.sub (ws' := [(x, .inr (12, xg)), (chA, .inl (chC, (4, .inr (.inr (.inr (.inr chF)))))), (ch0, .inr (2, chg0)), (ch1, .inr (2, chg1)), (ch2, .inr (2, chg2)), (ch3, .inr (2, chg3)), (oA, .inl (oC, (1, .inr (.inl oF))))]) [0, 1, 2, 3, 4, 5, 8] rfl
  have hDc := hD.sub (ws' := [(x, .inr (12, xg)), (chA, .inl (chC, (4, .inr (.inr (.inr (.inr chF)))))), (ch0, .inr (2, chg0)), (ch1, .inr (2, chg1)), (ch2, .inr (2, chg2)), (ch3, .inr (2, chg3)), (oA, .inl (oC, (1, .inr (.inl oF))))]) [0, 1, 2, 3, 4, 5, 8] (by decide) rfl
  have hKc := hK.sub (tys' := [(chC, .object "ChipFlow$Chip"), (oC, .long)]) [0, 2] rfl
  have hFc := va_free (wc := [(x, .inr (12, xg)), (chA, .inl (chC, (4, .inr (.inr (.inr (.inr chF)))))), (ch0, .inr (2, chg0)), (ch1, .inr (2, chg1)), (ch2, .inr (2, chg2)), (ch3, .inr (2, chg3)), (oA, .inl (oC, (1, .inr (.inl oF))))]) hD hS hA [0, 1, 2, 3, 4, 5, 8] rfl
  refine va_calli (vx_runSW (As := [.ref x, .int (xs ((0 : Int32) + 1).toNatClampNeg), .int (xs ((0 : Int32) + 2).toNatClampNeg), .int (xs ((0 : Int32) + 3).toNatClampNeg), .ref oA]) (rest := []) ⟨hx, hb, hml, hown, hts⟩ (ct_L_gate l hlt dC dI H.size (xs ((0 : Int32) + 1).toNatClampNeg) (xs ((0 : Int32) + 2).toNatClampNeg) (xs ((0 : Int32) + 3).toNatClampNeg) x xg chA chC chF ch0 ch1 ch2 ch3 chg0 chg1 chg2 chg3 hchg0 hchF0 hchg1 hchF1 hchg2 hchF2 hchg3 hchF3 oA oC oF hxg) (vx_cwSW 5 hts (gi_W wd_2144 wd_2145 wd_326 wd_2146) rfl rfl rfl (by decide +kernel) ⟨(Nat.le_of_ble_eq_true rfl), (Nat.le_of_ble_eq_true rfl)⟩) ⟨fun a U g mk q => by obtain ⟨q0, q1, qP, qK, qD, qT⟩ := q; exact ⟨q0, q1, qP, va_K.moved (u := U) (U := U.calling g mk a) (Vm.Alike.refl U.vm) qK, qD, th.moved (u := U) (U := U.calling g mk a) (Vm.Alike.refl U.vm) qT⟩, fun U hU hW => ⟨rfl, by rw [hU], by rw [hU]; exact hPc, va_K.moved hW.alike hKc, hDc.weaken (fun _ _ _ _ => trivial), by rw [hU]; exact ((hth.kept hS.2.1).narrow hFc).moved hW.alike⟩⟩ rfl rfl hl.1 rfl (lv_room (Nat.le_of_ble_eq_true rfl)) dL_law_1556 ⟨(Nat.le_of_ble_eq_true rfl), (Nat.le_of_ble_eq_true rfl)⟩) hS (fun q _ h => hFc q h) hFc (fun r u t H1 locs ht hvm hw hB hz1 hk1 hS => ?_)
  subst hw
  obtain ⟨hP1, -, hD1⟩ := hB
  rw [ht] at hP1
  obtain ⟨hP, hD⟩ := va_join (wr := [(m0, .inr (13, mg)), (mcA, .inl (mcC, (4, .inl (fun _ => 0))))]) (w1 := [(oA, .inl (oC, (1, .inr (.inl oF))))]) hP hD [0, 1, 2, 3, 4, 5, 8] [6, 7] rfl rfl (by decide) (by decide) hk1 hFc hP1 hD1
  have hP := hP.sub (ws' := [(m0, .inr (13, mg)), (mcA, .inl (mcC, (4, .inl (fun _ => 0))))]) [0, 1] rfl
  have hD := hD.sub (ws' := [(m0, .inr (13, mg)), (mcA, .inl (mcC, (4, .inl (fun _ => 0))))]) [0, 1] (by decide) rfl
  have hK := hK.sub (tys' := [(mcC, .boolean)]) [1] rfl
  generalize H1 = H at hP hS ⊢
  refine W.widen (k := 452) (n := 2709148) (Nat.le_of_ble_eq_true rfl) (Nat.le_of_ble_eq_true rfl) ?_
  refine lv_istore (lv' := [(5, .int 1), (0, .ref b), (1, .ref x), (2, .ref m0), (3, .ref oA), (4, .int 0)]) hx hb dL_law_1559 hl (by decide) rfl (fun ls hl => ?_)
  refine lv_aload_n hx hb dL_law_1561 rfl (lv_at hl 3 rfl) ?_
  refine lv_aload_n hx hb dL_law_1562 rfl (lv_at hl 1 rfl) ?_
  refine lv_iload hx hb dL_law_1563 (lv_at hl 5 rfl) ?_
  refine lv_iconst (v := 1) hx hb dL_law_1565 (by decide +kernel) ?_
  refine lv_iadd hx hb dL_law_1566 ?_
  refine va_sld hx hb hX hbl hbA hS vi_1 dL_law_1567 ?_
  refine lv_aload_n hx hb dL_law_1568 rfl (lv_at hl 1 rfl) ?_
  refine lv_iload hx hb dL_law_1569 (lv_at hl 5 rfl) ?_
  refine lv_iconst (v := 2) hx hb dL_law_1571 (by decide +kernel) ?_
  refine lv_iadd hx hb dL_law_1572 ?_
  refine va_sld hx hb hX hbl hbA hS vi_2 dL_law_1573 ?_
  refine lv_aload_n hx hb dL_law_1574 rfl (lv_at hl 1 rfl) ?_
  refine lv_iload hx hb dL_law_1575 (lv_at hl 5 rfl) ?_
  refine lv_iconst (v := 3) hx hb dL_law_1577 (by decide +kernel) ?_
  refine lv_iadd hx hb dL_law_1578 ?_
  refine va_sld hx hb hX hbl hbA hS vi_3 dL_law_1579 ?_
  have hFc := va_free (wc := [(m0, .inr (13, mg)), (mcA, .inl (mcC, (4, .inl (fun _ => 0))))]) hD hS hA [0, 1] rfl
  refine va_calli (va_runV (As := [.int (xs ((0 : Int32) + 1).toNatClampNeg), .int (xs ((0 : Int32) + 2).toNatClampNeg), .int (xs ((0 : Int32) + 3).toNatClampNeg)]) (rest := []) ⟨hx, hb, hml, hown, hts⟩ (ct_X13_gate l dC dI _ (xs ((0 : Int32) + 1).toNatClampNeg) (xs ((0 : Int32) + 2).toNatClampNeg) (xs ((0 : Int32) + 3).toNatClampNeg) m0 mg mcA mcC hmg) (cwV 3 hts (gi_V wd_4298 wd_4299 wd_4300 wd_340 wd_4301) rfl rfl rfl (by decide +kernel) ⟨(Nat.le_of_ble_eq_true rfl), (Nat.le_of_ble_eq_true rfl)⟩) ⟨fun a U g mk q => by obtain ⟨q0, q1, qP, qK, qD⟩ := q; exact ⟨q0, q1, qP, va_K.moved (u := U) (U := U.calling g mk a) (Vm.Alike.refl U.vm) qK, qD⟩, va_recv hK hP (ci := 13) (q0 := 0) rfl rfl, fun U hU hW => ⟨rfl, by rw [hU], by rw [hU]; exact hP, va_K.moved hW.alike hK, hD.weaken (fun _ _ _ _ => trivial)⟩⟩ rfl rfl hl.1 rfl (lv_room (Nat.le_of_ble_eq_true rfl)) dL_law_1580 ⟨(Nat.le_of_ble_eq_true rfl), (Nat.le_of_ble_eq_true rfl)⟩) hS (fun q _ h => hFc q h) hFc (fun r u t H1 locs ht hvm hw hB hz1 hk1 hS => ?_)
  subst hw
  obtain ⟨mg1, hmg1, hP1, hK1, hD1⟩ := hB
  rw [ht] at hP1
  have hK1 := va_K.moved hvm.symm hK1
  have hD1 := hD1.weaken (fun k q _ h => hFc q.1 h)
  generalize H1 = H at hP1 hS ⊢
  refine lv_istore (lv' := [(6, .int 0), (5, .int 1), (0, .ref b), (1, .ref x), (2, .ref m0), (3, .ref oA), (4, .int 0)]) hx hb dL_law_1583 hl (by decide) rfl (fun ls hl => ?_)
  refine lv_aload_n hx hb dL_law_1585 rfl (lv_at hl 4 rfl) ?_
  have hFc := va_free (wc := [(m0, .inr (13, mg1))]) hD1 hS hA [0] rfl
  refine va_calli (va_runV (As := []) (rest := []) ⟨hx, hb, hml, hown, hts⟩ (ct_X13_thrown l dC dI _ 1 m0 mg1 hmg1) (cwV 0 hts (gi_V wd_3015 wd_3016 wd_3017 wd_340 wd_3018) rfl rfl rfl (by decide +kernel) ⟨(Nat.le_of_ble_eq_true rfl), (Nat.le_of_ble_eq_true rfl)⟩) ⟨fun a U g mk q => by obtain ⟨q0, q1, qP, qK, qD⟩ := q; exact ⟨q0, q1, qP, va_K.moved (u := U) (U := U.calling g mk a) (Vm.Alike.refl U.vm) qK, qD⟩, va_recv hK1 hP1 (ci := 13) (q0 := 0) rfl rfl, fun U hU hW => ⟨rfl, by rw [hU], by rw [hU]; exact hP1, va_K.moved hW.alike hK1, hD1.weaken (fun _ _ _ _ => trivial)⟩⟩ rfl rfl hl.1 rfl (lv_room (Nat.le_of_ble_eq_true rfl)) dL_law_1586 ⟨(Nat.le_of_ble_eq_true rfl), (Nat.le_of_ble_eq_true rfl)⟩) hS (fun q _ h => hFc q h) hFc (fun r u t H1 locs ht hvm hw hB hz1 hk1 hS => ?_)
  subst hw
  refine lv_iload hx hb dL_law_1589 (lv_at hl 1 rfl) ?_
  refine lv_icmp_eq (tgt := 1596) hx hb dL_law_1591 (by decide) (fun c9 => ?_) (fun c9 => ?_)
  rotate_left
  · first | exact absurd c9 (by decide +kernel) | exact absurd (by decide +kernel) c9
  refine lv_iload hx hb dL_law_1596 (lv_at hl 1 rfl) ?_
  refine lv_if_ne (tgt := 1613) hx hb dL_law_1598 (by decide) (fun c9 => ?_) (fun c9 => ?_)
  rotate_left
  · first | exact absurd c9 (by decide +kernel) | exact absurd (by decide +kernel) c9
  refine lv_goto (tgt := 4099) hx hb dL_law_1613 (by decide) ?_
  refine W.widen (k := 470) (n := 2709300) (Nat.le_of_ble_eq_true rfl) (Nat.le_of_ble_eq_true rfl) ?_
  exact law_tail (v5 := 0) (v6 := 0) (lv := []) C0 hS (lv_sub hl [2, 6] rfl)
set_option maxHeartbeats 4000000 in
set_option maxRecDepth 100000 in
theorem law_netOf {p : Program} {l : Launch} {e : Env} {s : State} {m : MethodId} {below : List Frame} {meth : Method} {c : Code} {b : Nat} {xs : Nat → Int32} (C0 : lw_At p s m meth c b 7 xs) {dC : Nat → ClassId} {dI : Nat → Nat → Nat} (hlt : l.stackTraces = false) (hth : th (fun q : Nat => s.heap.size ≤ q) s s.heap) (x : Nat) (xg : List Value) (chA : Nat) (chC : ClassId) (chF : Nat → Option Nat) (ch0 ch1 ch2 ch3 : Nat) (chg0 chg1 chg2 chg3 : List Value) (hchg0 : fx chg0 20 [(0, .int 0)]) (hchF0 : chF 0 = some ch0) (hchg1 : fx chg1 20 [(0, .int 0)]) (hchF1 : chF 1 = some ch1) (hchg2 : fx chg2 20 [(0, .int 0)]) (hchF2 : chF 2 = some ch2) (hchg3 : fx chg3 20 [(0, .int 0)]) (hchF3 : chF 3 = some ch3) (m0 : Nat) (mg : List Value) (mcA : Nat) (mcC : ClassId) (oA : Nat) (oC : ClassId) (oF : Nat → Int64) (hxg : fx xg 17 [(9, .ref chA)]) (hmg : fx mg 225 [(138, .ref mcA)]) (H : Heap) (locs : List Loc) (hK : va_K (dC, dI) CL [(chC, .object "ChipFlow$Chip"), (mcC, .boolean), (oC, .long)] s) (hP : va_P (dC, dI) CL [(x, .inr (12, xg)), (chA, .inl (chC, (4, .inr (.inr (.inr (.inr chF)))))), (ch0, .inr (2, chg0)), (ch1, .inr (2, chg1)), (ch2, .inr (2, chg2)), (ch3, .inr (2, chg3)), (m0, .inr (13, mg)), (mcA, .inl (mcC, (4, .inl (fun _ => 0)))), (oA, .inl (oC, (1, .inr (.inl oF))))] H) (hD : va_D (fun q : Nat => s.heap.size ≤ q) [(x, .inr (12, xg)), (chA, .inl (chC, (4, .inr (.inr (.inr (.inr chF)))))), (ch0, .inr (2, chg0)), (ch1, .inr (2, chg1)), (ch2, .inr (2, chg2)), (ch3, .inr (2, chg3)), (m0, .inr (13, mg)), (mcA, .inl (mcC, (4, .inl (fun _ => 0)))), (oA, .inl (oC, (1, .inr (.inl oF))))]) (hS : va_S (fun q : Nat => s.heap.size ≤ q) s.heap H locs) (ls : Array Slot) (hl : lv_has ls 7 [(0, .ref b), (1, .ref x), (2, .ref m0), (3, .ref oA), (4, .int 0)]) : W p l e room_1 s m #[Value.ref b] below meth c H locs 451 2709142 (lw_Z below #[Value.ref b] s) (F0 m 1616 ls []) := by
  obtain ⟨hx, hb, hr, hml, hown, hts0, hX, hbl, hlocks, hgv⟩ := id C0
  have hts : ∀ w ∈ BG, w.before _ s = true := fun w h => hts0 w (List.mem_filter.mp h).1
  have hown : s.vm.findClass RL = some m.cls := hown
  have hA : ∀ q : Nat, s.heap.size ≤ q → (fun q : Nat => s.heap.size ≤ q) q := fun _ h => h
  have hbA : ¬ (fun q : Nat => s.heap.size ≤ q) b := Nat.not_le.mpr hbl
  refine lv_aload_n hx hb dL_law_1616 rfl (lv_at hl 1 rfl) ?_
  refine lv_aload_n hx hb dL_law_1617 rfl (lv_at hl 0 rfl) ?_
  refine lv_iload hx hb dL_law_1618 (lv_at hl 4 rfl) ?_
  refine lv_iconst (v := 1) hx hb dL_law_1620 (by decide +kernel) ?_
  refine lv_iadd hx hb dL_law_1621 ?_
  refine va_sld hx hb hX hbl hbA hS vi_1 dL_law_1622 ?_
  refine lv_aload_n hx hb dL_law_1623 rfl (lv_at hl 0 rfl) ?_
  refine lv_iload hx hb dL_law_1624 (lv_at hl 4 rfl) ?_
  refine lv_iconst (v := 2) hx hb dL_law_1626 (by decide +kernel) ?_
  refine lv_iadd hx hb dL_law_1627 ?_
  refine va_sld hx hb hX hbl hbA hS vi_2 dL_law_1628 ?_
  refine lv_aload_n hx hb dL_law_1629 rfl (lv_at hl 0 rfl) ?_
  refine lv_iload hx hb dL_law_1630 (lv_at hl 4 rfl) ?_
  refine lv_iconst (v := 3) hx hb dL_law_1632 (by decide +kernel) ?_
  refine lv_iadd hx hb dL_law_1633 ?_
  refine va_sld hx hb hX hbl hbA hS vi_3 dL_law_1634 ?_
  refine lv_if_eq (tgt := 1642) hx hb dL_law_1635 (by decide) (fun c9 => ?_) (fun c9 => ?_)
  · refine lv_iconst (v := 0) hx hb dL_law_1642 (by decide +kernel) ?_
    refine lv_aload_n hx hb dL_law_1643 rfl (lv_at hl 3 rfl) ?_
    have hPc := hP.sub (ws' := [(x, .inr (12, xg)), (chA, .inl (chC, (4, .inr (.inr (.inr (.inr chF)))))), (ch0, .inr (2, chg0)), (ch1, .inr (2, chg1)), (ch2, .inr (2, chg2)), (ch3, .inr (2, chg3)), (oA, .inl (oC, (1, .inr (.inl oF))))]) [0, 1, 2, 3, 4, 5, 8] rfl
    have hDc := hD.sub (ws' := [(x, .inr (12, xg)), (chA, .inl (chC, (4, .inr (.inr (.inr (.inr chF)))))), (ch0, .inr (2, chg0)), (ch1, .inr (2, chg1)), (ch2, .inr (2, chg2)), (ch3, .inr (2, chg3)), (oA, .inl (oC, (1, .inr (.inl oF))))]) [0, 1, 2, 3, 4, 5, 8] (by decide) rfl
    have hKc := hK.sub (tys' := [(chC, .object "ChipFlow$Chip"), (oC, .long)]) [0, 2] rfl
    have hFc := va_free (wc := [(x, .inr (12, xg)), (chA, .inl (chC, (4, .inr (.inr (.inr (.inr chF)))))), (ch0, .inr (2, chg0)), (ch1, .inr (2, chg1)), (ch2, .inr (2, chg2)), (ch3, .inr (2, chg3)), (oA, .inl (oC, (1, .inr (.inl oF))))]) hD hS hA [0, 1, 2, 3, 4, 5, 8] rfl
    refine va_calli (vx_runSW (As := [.ref x, .int (xs ((0 : Int32) + 1).toNatClampNeg), .int (xs ((0 : Int32) + 2).toNatClampNeg), .int 0, .ref oA]) (rest := []) ⟨hx, hb, hml, hown, hts⟩ (ct_L_netOf l hlt dC dI H.size (xs ((0 : Int32) + 1).toNatClampNeg) (xs ((0 : Int32) + 2).toNatClampNeg) 0 x xg chA chC chF ch0 ch1 ch2 ch3 chg0 chg1 chg2 chg3 hchg0 hchF0 hchg1 hchF1 hchg2 hchF2 hchg3 hchF3 oA oC oF hxg) (vx_cwSW 5 hts (gi_W wd_2153 wd_2154 wd_326 wd_2155) rfl rfl rfl (by decide +kernel) ⟨(Nat.le_of_ble_eq_true rfl), (Nat.le_of_ble_eq_true rfl)⟩) ⟨fun a U g mk q => by obtain ⟨q0, q1, qP, qK, qD, qT⟩ := q; exact ⟨q0, q1, qP, va_K.moved (u := U) (U := U.calling g mk a) (Vm.Alike.refl U.vm) qK, qD, th.moved (u := U) (U := U.calling g mk a) (Vm.Alike.refl U.vm) qT⟩, fun U hU hW => ⟨rfl, by rw [hU], by rw [hU]; exact hPc, va_K.moved hW.alike hKc, hDc.weaken (fun _ _ _ _ => trivial), by rw [hU]; exact ((hth.kept hS.2.1).narrow hFc).moved hW.alike⟩⟩ rfl rfl hl.1 rfl (lv_room (Nat.le_of_ble_eq_true rfl)) dL_law_1644 ⟨(Nat.le_of_ble_eq_true rfl), (Nat.le_of_ble_eq_true rfl)⟩) hS (fun q _ h => hFc q h) hFc (fun r u t H1 locs ht hvm hw hB hz1 hk1 hS => ?_)
    subst hw
    obtain ⟨hP1, -, hD1⟩ := hB
    rw [ht] at hP1
    obtain ⟨hP, hD⟩ := va_join (wr := [(m0, .inr (13, mg)), (mcA, .inl (mcC, (4, .inl (fun _ => 0))))]) (w1 := [(oA, .inl (oC, (1, .inr (.inl oF))))]) hP hD [0, 1, 2, 3, 4, 5, 8] [6, 7] rfl rfl (by decide) (by decide) hk1 hFc hP1 hD1
    have hP := hP.sub (ws' := [(m0, .inr (13, mg)), (mcA, .inl (mcC, (4, .inl (fun _ => 0))))]) [0, 1] rfl
    have hD := hD.sub (ws' := [(m0, .inr (13, mg)), (mcA, .inl (mcC, (4, .inl (fun _ => 0))))]) [0, 1] (by decide) rfl
    have hK := hK.sub (tys' := [(mcC, .boolean)]) [1] rfl
    generalize H1 = H at hP hS ⊢
    refine W.widen (k := 452) (n := 2709148) (Nat.le_of_ble_eq_true rfl) (Nat.le_of_ble_eq_true rfl) ?_
    refine lv_istore (lv' := [(5, .int 1), (0, .ref b), (1, .ref x), (2, .ref m0), (3, .ref oA), (4, .int 0)]) hx hb dL_law_1647 hl (by decide) rfl (fun ls hl => ?_)
    refine lv_aload_n hx hb dL_law_1649 rfl (lv_at hl 3 rfl) ?_
    refine lv_aload_n hx hb dL_law_1650 rfl (lv_at hl 1 rfl) ?_
    refine lv_iload hx hb dL_law_1651 (lv_at hl 5 rfl) ?_
    refine lv_iconst (v := 1) hx hb dL_law_1653 (by decide +kernel) ?_
    refine lv_iadd hx hb dL_law_1654 ?_
    refine va_sld hx hb hX hbl hbA hS vi_1 dL_law_1655 ?_
    refine lv_aload_n hx hb dL_law_1656 rfl (lv_at hl 1 rfl) ?_
    refine lv_iload hx hb dL_law_1657 (lv_at hl 5 rfl) ?_
    refine lv_iconst (v := 2) hx hb dL_law_1659 (by decide +kernel) ?_
    refine lv_iadd hx hb dL_law_1660 ?_
    refine va_sld hx hb hX hbl hbA hS vi_2 dL_law_1661 ?_
    refine lv_aload_n hx hb dL_law_1662 rfl (lv_at hl 1 rfl) ?_
    refine lv_iload hx hb dL_law_1663 (lv_at hl 5 rfl) ?_
    refine lv_iconst (v := 3) hx hb dL_law_1665 (by decide +kernel) ?_
    refine lv_iadd hx hb dL_law_1666 ?_
    refine va_sld hx hb hX hbl hbA hS vi_3 dL_law_1667 ?_
    refine lv_if_eq (tgt := 1675) hx hb dL_law_1668 (by decide) (fun c9 => ?_) (fun c9 => ?_)
    · refine lv_iconst (v := 0) hx hb dL_law_1675 (by decide +kernel) ?_
      have hFc := va_free (wc := [(m0, .inr (13, mg)), (mcA, .inl (mcC, (4, .inl (fun _ => 0))))]) hD hS hA [0, 1] rfl
      refine va_calli (va_runV (As := [.int (xs ((0 : Int32) + 1).toNatClampNeg), .int (xs ((0 : Int32) + 2).toNatClampNeg), .int 0]) (rest := []) ⟨hx, hb, hml, hown, hts⟩ (ct_X13_netOf l dC dI _ (xs ((0 : Int32) + 1).toNatClampNeg) (xs ((0 : Int32) + 2).toNatClampNeg) 0 m0 mg mcA mcC hmg) (cwV 3 hts (gi_V wd_4302 wd_4303 wd_4304 wd_340 wd_4305) rfl rfl rfl (by decide +kernel) ⟨(Nat.le_of_ble_eq_true rfl), (Nat.le_of_ble_eq_true rfl)⟩) ⟨fun a U g mk q => by obtain ⟨q0, q1, qP, qK, qD⟩ := q; exact ⟨q0, q1, qP, va_K.moved (u := U) (U := U.calling g mk a) (Vm.Alike.refl U.vm) qK, qD⟩, va_recv hK hP (ci := 13) (q0 := 0) rfl rfl, fun U hU hW => ⟨rfl, by rw [hU], by rw [hU]; exact hP, va_K.moved hW.alike hK, hD.weaken (fun _ _ _ _ => trivial)⟩⟩ rfl rfl hl.1 rfl (lv_room (Nat.le_of_ble_eq_true rfl)) dL_law_1676 ⟨(Nat.le_of_ble_eq_true rfl), (Nat.le_of_ble_eq_true rfl)⟩) hS (fun q _ h => hFc q h) hFc (fun r u t H1 locs ht hvm hw hB hz1 hk1 hS => ?_)
      subst hw
      obtain ⟨mg1, hmg1, hP1, hK1, hD1⟩ := hB
      rw [ht] at hP1
      have hK1 := va_K.moved hvm.symm hK1
      have hD1 := hD1.weaken (fun k q _ h => hFc q.1 h)
      generalize H1 = H at hP1 hS ⊢
      refine lv_istore (lv' := [(6, .int 0), (5, .int 1), (0, .ref b), (1, .ref x), (2, .ref m0), (3, .ref oA), (4, .int 0)]) hx hb dL_law_1679 hl (by decide) rfl (fun ls hl => ?_)
      refine lv_aload_n hx hb dL_law_1681 rfl (lv_at hl 4 rfl) ?_
      have hFc := va_free (wc := [(m0, .inr (13, mg1))]) hD1 hS hA [0] rfl
      refine va_calli (va_runV (As := []) (rest := []) ⟨hx, hb, hml, hown, hts⟩ (ct_X13_thrown l dC dI _ 1 m0 mg1 hmg1) (cwV 0 hts (gi_V wd_3015 wd_3016 wd_3017 wd_340 wd_3018) rfl rfl rfl (by decide +kernel) ⟨(Nat.le_of_ble_eq_true rfl), (Nat.le_of_ble_eq_true rfl)⟩) ⟨fun a U g mk q => by obtain ⟨q0, q1, qP, qK, qD⟩ := q; exact ⟨q0, q1, qP, va_K.moved (u := U) (U := U.calling g mk a) (Vm.Alike.refl U.vm) qK, qD⟩, va_recv hK1 hP1 (ci := 13) (q0 := 0) rfl rfl, fun U hU hW => ⟨rfl, by rw [hU], by rw [hU]; exact hP1, va_K.moved hW.alike hK1, hD1.weaken (fun _ _ _ _ => trivial)⟩⟩ rfl rfl hl.1 rfl (lv_room (Nat.le_of_ble_eq_true rfl)) dL_law_1682 ⟨(Nat.le_of_ble_eq_true rfl), (Nat.le_of_ble_eq_true rfl)⟩) hS (fun q _ h => hFc q h) hFc (fun r u t H1 locs ht hvm hw hB hz1 hk1 hS => ?_)
      subst hw
      refine lv_iload hx hb dL_law_1685 (lv_at hl 1 rfl) ?_
      refine lv_icmp_eq (tgt := 1692) hx hb dL_law_1687 (by decide) (fun c9 => ?_) (fun c9 => ?_)
      rotate_left
      · first | exact absurd c9 (by decide +kernel) | exact absurd (by decide +kernel) c9
      refine lv_iload hx hb dL_law_1692 (lv_at hl 1 rfl) ?_
      refine lv_if_ne (tgt := 1709) hx hb dL_law_1694 (by decide) (fun c9 => ?_) (fun c9 => ?_)
      rotate_left
      · first | exact absurd c9 (by decide +kernel) | exact absurd (by decide +kernel) c9
      refine lv_goto (tgt := 4099) hx hb dL_law_1709 (by decide) ?_
      refine W.widen (k := 470) (n := 2709300) (Nat.le_of_ble_eq_true rfl) (Nat.le_of_ble_eq_true rfl) ?_
      exact law_tail (v5 := 0) (v6 := 0) (lv := []) C0 hS (lv_sub hl [2, 6] rfl)
    · refine lv_iconst (v := 1) hx hb dL_law_1671 (by decide +kernel) ?_
      refine lv_goto (tgt := 1676) hx hb dL_law_1672 (by decide) ?_
      have hFc := va_free (wc := [(m0, .inr (13, mg)), (mcA, .inl (mcC, (4, .inl (fun _ => 0))))]) hD hS hA [0, 1] rfl
      refine va_calli (va_runV (As := [.int (xs ((0 : Int32) + 1).toNatClampNeg), .int (xs ((0 : Int32) + 2).toNatClampNeg), .int 1]) (rest := []) ⟨hx, hb, hml, hown, hts⟩ (ct_X13_netOf l dC dI _ (xs ((0 : Int32) + 1).toNatClampNeg) (xs ((0 : Int32) + 2).toNatClampNeg) 1 m0 mg mcA mcC hmg) (cwV 3 hts (gi_V wd_4302 wd_4303 wd_4304 wd_340 wd_4305) rfl rfl rfl (by decide +kernel) ⟨(Nat.le_of_ble_eq_true rfl), (Nat.le_of_ble_eq_true rfl)⟩) ⟨fun a U g mk q => by obtain ⟨q0, q1, qP, qK, qD⟩ := q; exact ⟨q0, q1, qP, va_K.moved (u := U) (U := U.calling g mk a) (Vm.Alike.refl U.vm) qK, qD⟩, va_recv hK hP (ci := 13) (q0 := 0) rfl rfl, fun U hU hW => ⟨rfl, by rw [hU], by rw [hU]; exact hP, va_K.moved hW.alike hK, hD.weaken (fun _ _ _ _ => trivial)⟩⟩ rfl rfl hl.1 rfl (lv_room (Nat.le_of_ble_eq_true rfl)) dL_law_1676 ⟨(Nat.le_of_ble_eq_true rfl), (Nat.le_of_ble_eq_true rfl)⟩) hS (fun q _ h => hFc q h) hFc (fun r u t H1 locs ht hvm hw hB hz1 hk1 hS => ?_)
      subst hw
      obtain ⟨mg1, hmg1, hP1, hK1, hD1⟩ := hB
      rw [ht] at hP1
      have hK1 := va_K.moved hvm.symm hK1
      have hD1 := hD1.weaken (fun k q _ h => hFc q.1 h)
      generalize H1 = H at hP1 hS ⊢
      refine lv_istore (lv' := [(6, .int 0), (5, .int 1), (0, .ref b), (1, .ref x), (2, .ref m0), (3, .ref oA), (4, .int 0)]) hx hb dL_law_1679 hl (by decide) rfl (fun ls hl => ?_)
      refine lv_aload_n hx hb dL_law_1681 rfl (lv_at hl 4 rfl) ?_
      have hFc := va_free (wc := [(m0, .inr (13, mg1))]) hD1 hS hA [0] rfl
      refine va_calli (va_runV (As := []) (rest := []) ⟨hx, hb, hml, hown, hts⟩ (ct_X13_thrown l dC dI _ 1 m0 mg1 hmg1) (cwV 0 hts (gi_V wd_3015 wd_3016 wd_3017 wd_340 wd_3018) rfl rfl rfl (by decide +kernel) ⟨(Nat.le_of_ble_eq_true rfl), (Nat.le_of_ble_eq_true rfl)⟩) ⟨fun a U g mk q => by obtain ⟨q0, q1, qP, qK, qD⟩ := q; exact ⟨q0, q1, qP, va_K.moved (u := U) (U := U.calling g mk a) (Vm.Alike.refl U.vm) qK, qD⟩, va_recv hK1 hP1 (ci := 13) (q0 := 0) rfl rfl, fun U hU hW => ⟨rfl, by rw [hU], by rw [hU]; exact hP1, va_K.moved hW.alike hK1, hD1.weaken (fun _ _ _ _ => trivial)⟩⟩ rfl rfl hl.1 rfl (lv_room (Nat.le_of_ble_eq_true rfl)) dL_law_1682 ⟨(Nat.le_of_ble_eq_true rfl), (Nat.le_of_ble_eq_true rfl)⟩) hS (fun q _ h => hFc q h) hFc (fun r u t H1 locs ht hvm hw hB hz1 hk1 hS => ?_)
      subst hw
      refine lv_iload hx hb dL_law_1685 (lv_at hl 1 rfl) ?_
      refine lv_icmp_eq (tgt := 1692) hx hb dL_law_1687 (by decide) (fun c9 => ?_) (fun c9 => ?_)
      rotate_left
      · first | exact absurd c9 (by decide +kernel) | exact absurd (by decide +kernel) c9
      refine lv_iload hx hb dL_law_1692 (lv_at hl 1 rfl) ?_
      refine lv_if_ne (tgt := 1709) hx hb dL_law_1694 (by decide) (fun c9 => ?_) (fun c9 => ?_)
      rotate_left
      · first | exact absurd c9 (by decide +kernel) | exact absurd (by decide +kernel) c9
      refine lv_goto (tgt := 4099) hx hb dL_law_1709 (by decide) ?_
      refine W.widen (k := 470) (n := 2709300) (Nat.le_of_ble_eq_true rfl) (Nat.le_of_ble_eq_true rfl) ?_
      exact law_tail (v5 := 0) (v6 := 0) (lv := []) C0 hS (lv_sub hl [2, 6] rfl)
  · refine lv_iconst (v := 1) hx hb dL_law_1638 (by decide +kernel) ?_
    refine lv_goto (tgt := 1643) hx hb dL_law_1639 (by decide) ?_
    refine lv_aload_n hx hb dL_law_1643 rfl (lv_at hl 3 rfl) ?_
    have hPc := hP.sub (ws' := [(x, .inr (12, xg)), (chA, .inl (chC, (4, .inr (.inr (.inr (.inr chF)))))), (ch0, .inr (2, chg0)), (ch1, .inr (2, chg1)), (ch2, .inr (2, chg2)), (ch3, .inr (2, chg3)), (oA, .inl (oC, (1, .inr (.inl oF))))]) [0, 1, 2, 3, 4, 5, 8] rfl
    have hDc := hD.sub (ws' := [(x, .inr (12, xg)), (chA, .inl (chC, (4, .inr (.inr (.inr (.inr chF)))))), (ch0, .inr (2, chg0)), (ch1, .inr (2, chg1)), (ch2, .inr (2, chg2)), (ch3, .inr (2, chg3)), (oA, .inl (oC, (1, .inr (.inl oF))))]) [0, 1, 2, 3, 4, 5, 8] (by decide) rfl
    have hKc := hK.sub (tys' := [(chC, .object "ChipFlow$Chip"), (oC, .long)]) [0, 2] rfl
    have hFc := va_free (wc := [(x, .inr (12, xg)), (chA, .inl (chC, (4, .inr (.inr (.inr (.inr chF)))))), (ch0, .inr (2, chg0)), (ch1, .inr (2, chg1)), (ch2, .inr (2, chg2)), (ch3, .inr (2, chg3)), (oA, .inl (oC, (1, .inr (.inl oF))))]) hD hS hA [0, 1, 2, 3, 4, 5, 8] rfl
    refine va_calli (vx_runSW (As := [.ref x, .int (xs ((0 : Int32) + 1).toNatClampNeg), .int (xs ((0 : Int32) + 2).toNatClampNeg), .int 1, .ref oA]) (rest := []) ⟨hx, hb, hml, hown, hts⟩ (ct_L_netOf l hlt dC dI H.size (xs ((0 : Int32) + 1).toNatClampNeg) (xs ((0 : Int32) + 2).toNatClampNeg) 1 x xg chA chC chF ch0 ch1 ch2 ch3 chg0 chg1 chg2 chg3 hchg0 hchF0 hchg1 hchF1 hchg2 hchF2 hchg3 hchF3 oA oC oF hxg) (vx_cwSW 5 hts (gi_W wd_2153 wd_2154 wd_326 wd_2155) rfl rfl rfl (by decide +kernel) ⟨(Nat.le_of_ble_eq_true rfl), (Nat.le_of_ble_eq_true rfl)⟩) ⟨fun a U g mk q => by obtain ⟨q0, q1, qP, qK, qD, qT⟩ := q; exact ⟨q0, q1, qP, va_K.moved (u := U) (U := U.calling g mk a) (Vm.Alike.refl U.vm) qK, qD, th.moved (u := U) (U := U.calling g mk a) (Vm.Alike.refl U.vm) qT⟩, fun U hU hW => ⟨rfl, by rw [hU], by rw [hU]; exact hPc, va_K.moved hW.alike hKc, hDc.weaken (fun _ _ _ _ => trivial), by rw [hU]; exact ((hth.kept hS.2.1).narrow hFc).moved hW.alike⟩⟩ rfl rfl hl.1 rfl (lv_room (Nat.le_of_ble_eq_true rfl)) dL_law_1644 ⟨(Nat.le_of_ble_eq_true rfl), (Nat.le_of_ble_eq_true rfl)⟩) hS (fun q _ h => hFc q h) hFc (fun r u t H1 locs ht hvm hw hB hz1 hk1 hS => ?_)
    subst hw
    obtain ⟨hP1, -, hD1⟩ := hB
    rw [ht] at hP1
    obtain ⟨hP, hD⟩ := va_join (wr := [(m0, .inr (13, mg)), (mcA, .inl (mcC, (4, .inl (fun _ => 0))))]) (w1 := [(oA, .inl (oC, (1, .inr (.inl oF))))]) hP hD [0, 1, 2, 3, 4, 5, 8] [6, 7] rfl rfl (by decide) (by decide) hk1 hFc hP1 hD1
    have hP := hP.sub (ws' := [(m0, .inr (13, mg)), (mcA, .inl (mcC, (4, .inl (fun _ => 0))))]) [0, 1] rfl
    have hD := hD.sub (ws' := [(m0, .inr (13, mg)), (mcA, .inl (mcC, (4, .inl (fun _ => 0))))]) [0, 1] (by decide) rfl
    have hK := hK.sub (tys' := [(mcC, .boolean)]) [1] rfl
    generalize H1 = H at hP hS ⊢
    refine W.widen (k := 452) (n := 2709148) (Nat.le_of_ble_eq_true rfl) (Nat.le_of_ble_eq_true rfl) ?_
    refine lv_istore (lv' := [(5, .int 1), (0, .ref b), (1, .ref x), (2, .ref m0), (3, .ref oA), (4, .int 0)]) hx hb dL_law_1647 hl (by decide) rfl (fun ls hl => ?_)
    refine lv_aload_n hx hb dL_law_1649 rfl (lv_at hl 3 rfl) ?_
    refine lv_aload_n hx hb dL_law_1650 rfl (lv_at hl 1 rfl) ?_
    refine lv_iload hx hb dL_law_1651 (lv_at hl 5 rfl) ?_
    refine lv_iconst (v := 1) hx hb dL_law_1653 (by decide +kernel) ?_
    refine lv_iadd hx hb dL_law_1654 ?_
    refine va_sld hx hb hX hbl hbA hS vi_1 dL_law_1655 ?_
    refine lv_aload_n hx hb dL_law_1656 rfl (lv_at hl 1 rfl) ?_
    refine lv_iload hx hb dL_law_1657 (lv_at hl 5 rfl) ?_
    refine lv_iconst (v := 2) hx hb dL_law_1659 (by decide +kernel) ?_
    refine lv_iadd hx hb dL_law_1660 ?_
    refine va_sld hx hb hX hbl hbA hS vi_2 dL_law_1661 ?_
    refine lv_aload_n hx hb dL_law_1662 rfl (lv_at hl 1 rfl) ?_
    refine lv_iload hx hb dL_law_1663 (lv_at hl 5 rfl) ?_
    refine lv_iconst (v := 3) hx hb dL_law_1665 (by decide +kernel) ?_
    refine lv_iadd hx hb dL_law_1666 ?_
    refine va_sld hx hb hX hbl hbA hS vi_3 dL_law_1667 ?_
    refine lv_if_eq (tgt := 1675) hx hb dL_law_1668 (by decide) (fun c9 => ?_) (fun c9 => ?_)
    · refine lv_iconst (v := 0) hx hb dL_law_1675 (by decide +kernel) ?_
      have hFc := va_free (wc := [(m0, .inr (13, mg)), (mcA, .inl (mcC, (4, .inl (fun _ => 0))))]) hD hS hA [0, 1] rfl
      refine va_calli (va_runV (As := [.int (xs ((0 : Int32) + 1).toNatClampNeg), .int (xs ((0 : Int32) + 2).toNatClampNeg), .int 0]) (rest := []) ⟨hx, hb, hml, hown, hts⟩ (ct_X13_netOf l dC dI _ (xs ((0 : Int32) + 1).toNatClampNeg) (xs ((0 : Int32) + 2).toNatClampNeg) 0 m0 mg mcA mcC hmg) (cwV 3 hts (gi_V wd_4302 wd_4303 wd_4304 wd_340 wd_4305) rfl rfl rfl (by decide +kernel) ⟨(Nat.le_of_ble_eq_true rfl), (Nat.le_of_ble_eq_true rfl)⟩) ⟨fun a U g mk q => by obtain ⟨q0, q1, qP, qK, qD⟩ := q; exact ⟨q0, q1, qP, va_K.moved (u := U) (U := U.calling g mk a) (Vm.Alike.refl U.vm) qK, qD⟩, va_recv hK hP (ci := 13) (q0 := 0) rfl rfl, fun U hU hW => ⟨rfl, by rw [hU], by rw [hU]; exact hP, va_K.moved hW.alike hK, hD.weaken (fun _ _ _ _ => trivial)⟩⟩ rfl rfl hl.1 rfl (lv_room (Nat.le_of_ble_eq_true rfl)) dL_law_1676 ⟨(Nat.le_of_ble_eq_true rfl), (Nat.le_of_ble_eq_true rfl)⟩) hS (fun q _ h => hFc q h) hFc (fun r u t H1 locs ht hvm hw hB hz1 hk1 hS => ?_)
      subst hw
      obtain ⟨mg1, hmg1, hP1, hK1, hD1⟩ := hB
      rw [ht] at hP1
      have hK1 := va_K.moved hvm.symm hK1
      have hD1 := hD1.weaken (fun k q _ h => hFc q.1 h)
      generalize H1 = H at hP1 hS ⊢
      refine lv_istore (lv' := [(6, .int 0), (5, .int 1), (0, .ref b), (1, .ref x), (2, .ref m0), (3, .ref oA), (4, .int 0)]) hx hb dL_law_1679 hl (by decide) rfl (fun ls hl => ?_)
      refine lv_aload_n hx hb dL_law_1681 rfl (lv_at hl 4 rfl) ?_
      have hFc := va_free (wc := [(m0, .inr (13, mg1))]) hD1 hS hA [0] rfl
      refine va_calli (va_runV (As := []) (rest := []) ⟨hx, hb, hml, hown, hts⟩ (ct_X13_thrown l dC dI _ 1 m0 mg1 hmg1) (cwV 0 hts (gi_V wd_3015 wd_3016 wd_3017 wd_340 wd_3018) rfl rfl rfl (by decide +kernel) ⟨(Nat.le_of_ble_eq_true rfl), (Nat.le_of_ble_eq_true rfl)⟩) ⟨fun a U g mk q => by obtain ⟨q0, q1, qP, qK, qD⟩ := q; exact ⟨q0, q1, qP, va_K.moved (u := U) (U := U.calling g mk a) (Vm.Alike.refl U.vm) qK, qD⟩, va_recv hK1 hP1 (ci := 13) (q0 := 0) rfl rfl, fun U hU hW => ⟨rfl, by rw [hU], by rw [hU]; exact hP1, va_K.moved hW.alike hK1, hD1.weaken (fun _ _ _ _ => trivial)⟩⟩ rfl rfl hl.1 rfl (lv_room (Nat.le_of_ble_eq_true rfl)) dL_law_1682 ⟨(Nat.le_of_ble_eq_true rfl), (Nat.le_of_ble_eq_true rfl)⟩) hS (fun q _ h => hFc q h) hFc (fun r u t H1 locs ht hvm hw hB hz1 hk1 hS => ?_)
      subst hw
      refine lv_iload hx hb dL_law_1685 (lv_at hl 1 rfl) ?_
      refine lv_icmp_eq (tgt := 1692) hx hb dL_law_1687 (by decide) (fun c9 => ?_) (fun c9 => ?_)
      rotate_left
      · first | exact absurd c9 (by decide +kernel) | exact absurd (by decide +kernel) c9
      refine lv_iload hx hb dL_law_1692 (lv_at hl 1 rfl) ?_
      refine lv_if_ne (tgt := 1709) hx hb dL_law_1694 (by decide) (fun c9 => ?_) (fun c9 => ?_)
      rotate_left
      · first | exact absurd c9 (by decide +kernel) | exact absurd (by decide +kernel) c9
      refine lv_goto (tgt := 4099) hx hb dL_law_1709 (by decide) ?_
      refine W.widen (k := 470) (n := 2709300) (Nat.le_of_ble_eq_true rfl) (Nat.le_of_ble_eq_true rfl) ?_
      exact law_tail (v5 := 0) (v6 := 0) (lv := []) C0 hS (lv_sub hl [2, 6] rfl)
    · refine lv_iconst (v := 1) hx hb dL_law_1671 (by decide +kernel) ?_
      refine lv_goto (tgt := 1676) hx hb dL_law_1672 (by decide) ?_
      have hFc := va_free (wc := [(m0, .inr (13, mg)), (mcA, .inl (mcC, (4, .inl (fun _ => 0))))]) hD hS hA [0, 1] rfl
      refine va_calli (va_runV (As := [.int (xs ((0 : Int32) + 1).toNatClampNeg), .int (xs ((0 : Int32) + 2).toNatClampNeg), .int 1]) (rest := []) ⟨hx, hb, hml, hown, hts⟩ (ct_X13_netOf l dC dI _ (xs ((0 : Int32) + 1).toNatClampNeg) (xs ((0 : Int32) + 2).toNatClampNeg) 1 m0 mg mcA mcC hmg) (cwV 3 hts (gi_V wd_4302 wd_4303 wd_4304 wd_340 wd_4305) rfl rfl rfl (by decide +kernel) ⟨(Nat.le_of_ble_eq_true rfl), (Nat.le_of_ble_eq_true rfl)⟩) ⟨fun a U g mk q => by obtain ⟨q0, q1, qP, qK, qD⟩ := q; exact ⟨q0, q1, qP, va_K.moved (u := U) (U := U.calling g mk a) (Vm.Alike.refl U.vm) qK, qD⟩, va_recv hK hP (ci := 13) (q0 := 0) rfl rfl, fun U hU hW => ⟨rfl, by rw [hU], by rw [hU]; exact hP, va_K.moved hW.alike hK, hD.weaken (fun _ _ _ _ => trivial)⟩⟩ rfl rfl hl.1 rfl (lv_room (Nat.le_of_ble_eq_true rfl)) dL_law_1676 ⟨(Nat.le_of_ble_eq_true rfl), (Nat.le_of_ble_eq_true rfl)⟩) hS (fun q _ h => hFc q h) hFc (fun r u t H1 locs ht hvm hw hB hz1 hk1 hS => ?_)
      subst hw
      obtain ⟨mg1, hmg1, hP1, hK1, hD1⟩ := hB
      rw [ht] at hP1
      have hK1 := va_K.moved hvm.symm hK1
      have hD1 := hD1.weaken (fun k q _ h => hFc q.1 h)
      generalize H1 = H at hP1 hS ⊢
      refine lv_istore (lv' := [(6, .int 0), (5, .int 1), (0, .ref b), (1, .ref x), (2, .ref m0), (3, .ref oA), (4, .int 0)]) hx hb dL_law_1679 hl (by decide) rfl (fun ls hl => ?_)
      refine lv_aload_n hx hb dL_law_1681 rfl (lv_at hl 4 rfl) ?_
      have hFc := va_free (wc := [(m0, .inr (13, mg1))]) hD1 hS hA [0] rfl
      refine va_calli (va_runV (As := []) (rest := []) ⟨hx, hb, hml, hown, hts⟩ (ct_X13_thrown l dC dI _ 1 m0 mg1 hmg1) (cwV 0 hts (gi_V wd_3015 wd_3016 wd_3017 wd_340 wd_3018) rfl rfl rfl (by decide +kernel) ⟨(Nat.le_of_ble_eq_true rfl), (Nat.le_of_ble_eq_true rfl)⟩) ⟨fun a U g mk q => by obtain ⟨q0, q1, qP, qK, qD⟩ := q; exact ⟨q0, q1, qP, va_K.moved (u := U) (U := U.calling g mk a) (Vm.Alike.refl U.vm) qK, qD⟩, va_recv hK1 hP1 (ci := 13) (q0 := 0) rfl rfl, fun U hU hW => ⟨rfl, by rw [hU], by rw [hU]; exact hP1, va_K.moved hW.alike hK1, hD1.weaken (fun _ _ _ _ => trivial)⟩⟩ rfl rfl hl.1 rfl (lv_room (Nat.le_of_ble_eq_true rfl)) dL_law_1682 ⟨(Nat.le_of_ble_eq_true rfl), (Nat.le_of_ble_eq_true rfl)⟩) hS (fun q _ h => hFc q h) hFc (fun r u t H1 locs ht hvm hw hB hz1 hk1 hS => ?_)
      subst hw
      refine lv_iload hx hb dL_law_1685 (lv_at hl 1 rfl) ?_
      refine lv_icmp_eq (tgt := 1692) hx hb dL_law_1687 (by decide) (fun c9 => ?_) (fun c9 => ?_)
      rotate_left
      · first | exact absurd c9 (by decide +kernel) | exact absurd (by decide +kernel) c9
      refine lv_iload hx hb dL_law_1692 (lv_at hl 1 rfl) ?_
      refine lv_if_ne (tgt := 1709) hx hb dL_law_1694 (by decide) (fun c9 => ?_) (fun c9 => ?_)
      rotate_left
      · first | exact absurd c9 (by decide +kernel) | exact absurd (by decide +kernel) c9
      refine lv_goto (tgt := 4099) hx hb dL_law_1709 (by decide) ?_
      refine W.widen (k := 470) (n := 2709300) (Nat.le_of_ble_eq_true rfl) (Nat.le_of_ble_eq_true rfl) ?_
      exact law_tail (v5 := 0) (v6 := 0) (lv := []) C0 hS (lv_sub hl [2, 6] rfl)
set_option maxHeartbeats 4000000 in
set_option maxRecDepth 100000 in
theorem law_alter {p : Program} {l : Launch} {e : Env} {s : State} {m : MethodId} {below : List Frame} {meth : Method} {c : Code} {b : Nat} {xs : Nat → Int32} (C0 : lw_At p s m meth c b 7 xs) {dC : Nat → ClassId} {dI : Nat → Nat → Nat} (hlt : l.stackTraces = false) (hth : th (fun q : Nat => s.heap.size ≤ q) s s.heap) (x : Nat) (xg : List Value) (chA : Nat) (chC : ClassId) (chF : Nat → Option Nat) (ch0 ch1 ch2 ch3 : Nat) (chg0 chg1 chg2 chg3 : List Value) (hchg0 : fx chg0 20 [(0, .int 0)]) (hchF0 : chF 0 = some ch0) (hchg1 : fx chg1 20 [(0, .int 0)]) (hchF1 : chF 1 = some ch1) (hchg2 : fx chg2 20 [(0, .int 0)]) (hchF2 : chF 2 = some ch2) (hchg3 : fx chg3 20 [(0, .int 0)]) (hchF3 : chF 3 = some ch3) (m0 : Nat) (mg : List Value) (mcA : Nat) (mcC : ClassId) (oA : Nat) (oC : ClassId) (oF : Nat → Int64) (hxg : fx xg 17 [(9, .ref chA)]) (hmg : fx mg 225 [(138, .ref mcA)]) (H : Heap) (locs : List Loc) (hK : va_K (dC, dI) CL [(chC, .object "ChipFlow$Chip"), (mcC, .boolean), (oC, .long)] s) (hP : va_P (dC, dI) CL [(x, .inr (12, xg)), (chA, .inl (chC, (4, .inr (.inr (.inr (.inr chF)))))), (ch0, .inr (2, chg0)), (ch1, .inr (2, chg1)), (ch2, .inr (2, chg2)), (ch3, .inr (2, chg3)), (m0, .inr (13, mg)), (mcA, .inl (mcC, (4, .inl (fun _ => 0)))), (oA, .inl (oC, (1, .inr (.inl oF))))] H) (hD : va_D (fun q : Nat => s.heap.size ≤ q) [(x, .inr (12, xg)), (chA, .inl (chC, (4, .inr (.inr (.inr (.inr chF)))))), (ch0, .inr (2, chg0)), (ch1, .inr (2, chg1)), (ch2, .inr (2, chg2)), (ch3, .inr (2, chg3)), (m0, .inr (13, mg)), (mcA, .inl (mcC, (4, .inl (fun _ => 0)))), (oA, .inl (oC, (1, .inr (.inl oF))))]) (hS : va_S (fun q : Nat => s.heap.size ≤ q) s.heap H locs) (ls : Array Slot) (hl : lv_has ls 7 [(0, .ref b), (1, .ref x), (2, .ref m0), (3, .ref oA), (4, .int 0)]) : W p l e room_1 s m #[Value.ref b] below meth c H locs 451 2709142 (lw_Z below #[Value.ref b] s) (F0 m 1712 ls []) := by
  obtain ⟨hx, hb, hr, hml, hown, hts0, hX, hbl, hlocks, hgv⟩ := id C0
  have hts : ∀ w ∈ BG, w.before _ s = true := fun w h => hts0 w (List.mem_filter.mp h).1
  have hown : s.vm.findClass RL = some m.cls := hown
  have hA : ∀ q : Nat, s.heap.size ≤ q → (fun q : Nat => s.heap.size ≤ q) q := fun _ h => h
  have hbA : ¬ (fun q : Nat => s.heap.size ≤ q) b := Nat.not_le.mpr hbl
  refine lv_aload_n hx hb dL_law_1712 rfl (lv_at hl 1 rfl) ?_
  refine lv_aload_n hx hb dL_law_1713 rfl (lv_at hl 0 rfl) ?_
  refine lv_iload hx hb dL_law_1714 (lv_at hl 4 rfl) ?_
  refine lv_iconst (v := 1) hx hb dL_law_1716 (by decide +kernel) ?_
  refine lv_iadd hx hb dL_law_1717 ?_
  refine va_sld hx hb hX hbl hbA hS vi_1 dL_law_1718 ?_
  refine lv_aload_n hx hb dL_law_1719 rfl (lv_at hl 0 rfl) ?_
  refine lv_iload hx hb dL_law_1720 (lv_at hl 4 rfl) ?_
  refine lv_iconst (v := 2) hx hb dL_law_1722 (by decide +kernel) ?_
  refine lv_iadd hx hb dL_law_1723 ?_
  refine va_sld hx hb hX hbl hbA hS vi_2 dL_law_1724 ?_
  refine lv_aload_n hx hb dL_law_1725 rfl (lv_at hl 0 rfl) ?_
  refine lv_iload hx hb dL_law_1726 (lv_at hl 4 rfl) ?_
  refine lv_iconst (v := 3) hx hb dL_law_1728 (by decide +kernel) ?_
  refine lv_iadd hx hb dL_law_1729 ?_
  refine va_sld hx hb hX hbl hbA hS vi_3 dL_law_1730 ?_
  refine lv_aload_n hx hb dL_law_1731 rfl (lv_at hl 3 rfl) ?_
  have hPc := hP.sub (ws' := [(x, .inr (12, xg)), (chA, .inl (chC, (4, .inr (.inr (.inr (.inr chF)))))), (ch0, .inr (2, chg0)), (ch1, .inr (2, chg1)), (ch2, .inr (2, chg2)), (ch3, .inr (2, chg3)), (oA, .inl (oC, (1, .inr (.inl oF))))]) [0, 1, 2, 3, 4, 5, 8] rfl
  have hDc := hD.sub (ws' := [(x, .inr (12, xg)), (chA, .inl (chC, (4, .inr (.inr (.inr (.inr chF)))))), (ch0, .inr (2, chg0)), (ch1, .inr (2, chg1)), (ch2, .inr (2, chg2)), (ch3, .inr (2, chg3)), (oA, .inl (oC, (1, .inr (.inl oF))))]) [0, 1, 2, 3, 4, 5, 8] (by decide) rfl
  have hKc := hK.sub (tys' := [(chC, .object "ChipFlow$Chip"), (oC, .long)]) [0, 2] rfl
  have hFc := va_free (wc := [(x, .inr (12, xg)), (chA, .inl (chC, (4, .inr (.inr (.inr (.inr chF)))))), (ch0, .inr (2, chg0)), (ch1, .inr (2, chg1)), (ch2, .inr (2, chg2)), (ch3, .inr (2, chg3)), (oA, .inl (oC, (1, .inr (.inl oF))))]) hD hS hA [0, 1, 2, 3, 4, 5, 8] rfl
  refine va_calli (vx_runSW (As := [.ref x, .int (xs ((0 : Int32) + 1).toNatClampNeg), .int (xs ((0 : Int32) + 2).toNatClampNeg), .int (xs ((0 : Int32) + 3).toNatClampNeg), .ref oA]) (rest := []) ⟨hx, hb, hml, hown, hts⟩ (ct_L_alter l hlt dC dI H.size (xs ((0 : Int32) + 1).toNatClampNeg) (xs ((0 : Int32) + 2).toNatClampNeg) (xs ((0 : Int32) + 3).toNatClampNeg) x xg chA chC chF ch0 ch1 ch2 ch3 chg0 chg1 chg2 chg3 hchg0 hchF0 hchg1 hchF1 hchg2 hchF2 hchg3 hchF3 oA oC oF hxg) (vx_cwSW 5 hts (gi_W wd_2160 wd_2161 wd_326 wd_2162) rfl rfl rfl (by decide +kernel) ⟨(Nat.le_of_ble_eq_true rfl), (Nat.le_of_ble_eq_true rfl)⟩) ⟨fun a U g mk q => by obtain ⟨q0, q1, qP, qK, qD, qT⟩ := q; exact ⟨q0, q1, qP, va_K.moved (u := U) (U := U.calling g mk a) (Vm.Alike.refl U.vm) qK, qD, th.moved (u := U) (U := U.calling g mk a) (Vm.Alike.refl U.vm) qT⟩, fun U hU hW => ⟨rfl, by rw [hU], by rw [hU]; exact hPc, va_K.moved hW.alike hKc, hDc.weaken (fun _ _ _ _ => trivial), by rw [hU]; exact ((hth.kept hS.2.1).narrow hFc).moved hW.alike⟩⟩ rfl rfl hl.1 rfl (lv_room (Nat.le_of_ble_eq_true rfl)) dL_law_1732 ⟨(Nat.le_of_ble_eq_true rfl), (Nat.le_of_ble_eq_true rfl)⟩) hS (fun q _ h => hFc q h) hFc (fun r u t H1 locs ht hvm hw hB hz1 hk1 hS => ?_)
  subst hw
  obtain ⟨hP1, -, hD1⟩ := hB
  rw [ht] at hP1
  obtain ⟨hP, hD⟩ := va_join (wr := [(m0, .inr (13, mg)), (mcA, .inl (mcC, (4, .inl (fun _ => 0))))]) (w1 := [(oA, .inl (oC, (1, .inr (.inl oF))))]) hP hD [0, 1, 2, 3, 4, 5, 8] [6, 7] rfl rfl (by decide) (by decide) hk1 hFc hP1 hD1
  have hP := hP.sub (ws' := [(m0, .inr (13, mg)), (mcA, .inl (mcC, (4, .inl (fun _ => 0))))]) [0, 1] rfl
  have hD := hD.sub (ws' := [(m0, .inr (13, mg)), (mcA, .inl (mcC, (4, .inl (fun _ => 0))))]) [0, 1] (by decide) rfl
  have hK := hK.sub (tys' := [(mcC, .boolean)]) [1] rfl
  generalize H1 = H at hP hS ⊢
  refine W.widen (k := 452) (n := 2709148) (Nat.le_of_ble_eq_true rfl) (Nat.le_of_ble_eq_true rfl) ?_
  refine lv_istore (lv' := [(5, .int 1), (0, .ref b), (1, .ref x), (2, .ref m0), (3, .ref oA), (4, .int 0)]) hx hb dL_law_1735 hl (by decide) rfl (fun ls hl => ?_)
  refine lv_aload_n hx hb dL_law_1737 rfl (lv_at hl 3 rfl) ?_
  refine lv_aload_n hx hb dL_law_1738 rfl (lv_at hl 1 rfl) ?_
  refine lv_iload hx hb dL_law_1739 (lv_at hl 5 rfl) ?_
  refine lv_iconst (v := 1) hx hb dL_law_1741 (by decide +kernel) ?_
  refine lv_iadd hx hb dL_law_1742 ?_
  refine va_sld hx hb hX hbl hbA hS vi_1 dL_law_1743 ?_
  refine lv_aload_n hx hb dL_law_1744 rfl (lv_at hl 1 rfl) ?_
  refine lv_iload hx hb dL_law_1745 (lv_at hl 5 rfl) ?_
  refine lv_iconst (v := 2) hx hb dL_law_1747 (by decide +kernel) ?_
  refine lv_iadd hx hb dL_law_1748 ?_
  refine va_sld hx hb hX hbl hbA hS vi_2 dL_law_1749 ?_
  refine lv_aload_n hx hb dL_law_1750 rfl (lv_at hl 1 rfl) ?_
  refine lv_iload hx hb dL_law_1751 (lv_at hl 5 rfl) ?_
  refine lv_iconst (v := 3) hx hb dL_law_1753 (by decide +kernel) ?_
  refine lv_iadd hx hb dL_law_1754 ?_
  refine va_sld hx hb hX hbl hbA hS vi_3 dL_law_1755 ?_
  have hFc := va_free (wc := [(m0, .inr (13, mg)), (mcA, .inl (mcC, (4, .inl (fun _ => 0))))]) hD hS hA [0, 1] rfl
  refine va_calli (va_runV (As := [.int (xs ((0 : Int32) + 1).toNatClampNeg), .int (xs ((0 : Int32) + 2).toNatClampNeg), .int (xs ((0 : Int32) + 3).toNatClampNeg)]) (rest := []) ⟨hx, hb, hml, hown, hts⟩ (ct_X13_alter l dC dI _ (xs ((0 : Int32) + 1).toNatClampNeg) (xs ((0 : Int32) + 2).toNatClampNeg) (xs ((0 : Int32) + 3).toNatClampNeg) m0 mg mcA mcC hmg) (cwV 3 hts (gi_V wd_4306 wd_4307 wd_4308 wd_340 wd_4309) rfl rfl rfl (by decide +kernel) ⟨(Nat.le_of_ble_eq_true rfl), (Nat.le_of_ble_eq_true rfl)⟩) ⟨fun a U g mk q => by obtain ⟨q0, q1, qP, qK, qD⟩ := q; exact ⟨q0, q1, qP, va_K.moved (u := U) (U := U.calling g mk a) (Vm.Alike.refl U.vm) qK, qD⟩, va_recv hK hP (ci := 13) (q0 := 0) rfl rfl, fun U hU hW => ⟨rfl, by rw [hU], by rw [hU]; exact hP, va_K.moved hW.alike hK, hD.weaken (fun _ _ _ _ => trivial)⟩⟩ rfl rfl hl.1 rfl (lv_room (Nat.le_of_ble_eq_true rfl)) dL_law_1756 ⟨(Nat.le_of_ble_eq_true rfl), (Nat.le_of_ble_eq_true rfl)⟩) hS (fun q _ h => hFc q h) hFc (fun r u t H1 locs ht hvm hw hB hz1 hk1 hS => ?_)
  subst hw
  obtain ⟨mg1, hmg1, hP1, hK1, hD1⟩ := hB
  rw [ht] at hP1
  have hK1 := va_K.moved hvm.symm hK1
  have hD1 := hD1.weaken (fun k q _ h => hFc q.1 h)
  generalize H1 = H at hP1 hS ⊢
  refine lv_istore (lv' := [(6, .int 0), (5, .int 1), (0, .ref b), (1, .ref x), (2, .ref m0), (3, .ref oA), (4, .int 0)]) hx hb dL_law_1759 hl (by decide) rfl (fun ls hl => ?_)
  refine lv_aload_n hx hb dL_law_1761 rfl (lv_at hl 4 rfl) ?_
  have hFc := va_free (wc := [(m0, .inr (13, mg1))]) hD1 hS hA [0] rfl
  refine va_calli (va_runV (As := []) (rest := []) ⟨hx, hb, hml, hown, hts⟩ (ct_X13_thrown l dC dI _ 1 m0 mg1 hmg1) (cwV 0 hts (gi_V wd_3015 wd_3016 wd_3017 wd_340 wd_3018) rfl rfl rfl (by decide +kernel) ⟨(Nat.le_of_ble_eq_true rfl), (Nat.le_of_ble_eq_true rfl)⟩) ⟨fun a U g mk q => by obtain ⟨q0, q1, qP, qK, qD⟩ := q; exact ⟨q0, q1, qP, va_K.moved (u := U) (U := U.calling g mk a) (Vm.Alike.refl U.vm) qK, qD⟩, va_recv hK1 hP1 (ci := 13) (q0 := 0) rfl rfl, fun U hU hW => ⟨rfl, by rw [hU], by rw [hU]; exact hP1, va_K.moved hW.alike hK1, hD1.weaken (fun _ _ _ _ => trivial)⟩⟩ rfl rfl hl.1 rfl (lv_room (Nat.le_of_ble_eq_true rfl)) dL_law_1762 ⟨(Nat.le_of_ble_eq_true rfl), (Nat.le_of_ble_eq_true rfl)⟩) hS (fun q _ h => hFc q h) hFc (fun r u t H1 locs ht hvm hw hB hz1 hk1 hS => ?_)
  subst hw
  refine lv_iload hx hb dL_law_1765 (lv_at hl 1 rfl) ?_
  refine lv_icmp_eq (tgt := 1772) hx hb dL_law_1767 (by decide) (fun c9 => ?_) (fun c9 => ?_)
  rotate_left
  · first | exact absurd c9 (by decide +kernel) | exact absurd (by decide +kernel) c9
  refine lv_iload hx hb dL_law_1772 (lv_at hl 1 rfl) ?_
  refine lv_if_ne (tgt := 1789) hx hb dL_law_1774 (by decide) (fun c9 => ?_) (fun c9 => ?_)
  rotate_left
  · first | exact absurd c9 (by decide +kernel) | exact absurd (by decide +kernel) c9
  refine lv_goto (tgt := 4099) hx hb dL_law_1789 (by decide) ?_
  refine W.widen (k := 470) (n := 2709300) (Nat.le_of_ble_eq_true rfl) (Nat.le_of_ble_eq_true rfl) ?_
  exact law_tail (v5 := 0) (v6 := 0) (lv := []) C0 hS (lv_sub hl [2, 6] rfl)
set_option maxHeartbeats 4000000 in
set_option maxRecDepth 100000 in
theorem law_run {p : Program} {l : Launch} {e : Env} {s : State} {m : MethodId} {below : List Frame} {meth : Method} {c : Code} {b : Nat} {xs : Nat → Int32} (C0 : lw_At p s m meth c b 7 xs) {dC : Nat → ClassId} {dI : Nat → Nat → Nat} (hlt : l.stackTraces = false) (hth : th (fun q : Nat => s.heap.size ≤ q) s s.heap) (x : Nat) (xg : List Value) (chA : Nat) (chC : ClassId) (chF : Nat → Option Nat) (ch0 ch1 ch2 ch3 : Nat) (chg0 chg1 chg2 chg3 : List Value) (hchg0 : fx chg0 20 [(0, .int 0)]) (hchF0 : chF 0 = some ch0) (hchg1 : fx chg1 20 [(0, .int 0)]) (hchF1 : chF 1 = some ch1) (hchg2 : fx chg2 20 [(0, .int 0)]) (hchF2 : chF 2 = some ch2) (hchg3 : fx chg3 20 [(0, .int 0)]) (hchF3 : chF 3 = some ch3) (m0 : Nat) (mg : List Value) (mcA : Nat) (mcC : ClassId) (oA : Nat) (oC : ClassId) (oF : Nat → Int64) (hxg : fx xg 17 [(9, .ref chA)]) (hmg : fx mg 225 [(138, .ref mcA)]) (H : Heap) (locs : List Loc) (hK : va_K (dC, dI) CL [(chC, .object "ChipFlow$Chip"), (mcC, .boolean), (oC, .long)] s) (hP : va_P (dC, dI) CL [(x, .inr (12, xg)), (chA, .inl (chC, (4, .inr (.inr (.inr (.inr chF)))))), (ch0, .inr (2, chg0)), (ch1, .inr (2, chg1)), (ch2, .inr (2, chg2)), (ch3, .inr (2, chg3)), (m0, .inr (13, mg)), (mcA, .inl (mcC, (4, .inl (fun _ => 0)))), (oA, .inl (oC, (1, .inr (.inl oF))))] H) (hD : va_D (fun q : Nat => s.heap.size ≤ q) [(x, .inr (12, xg)), (chA, .inl (chC, (4, .inr (.inr (.inr (.inr chF)))))), (ch0, .inr (2, chg0)), (ch1, .inr (2, chg1)), (ch2, .inr (2, chg2)), (ch3, .inr (2, chg3)), (m0, .inr (13, mg)), (mcA, .inl (mcC, (4, .inl (fun _ => 0)))), (oA, .inl (oC, (1, .inr (.inl oF))))]) (hS : va_S (fun q : Nat => s.heap.size ≤ q) s.heap H locs) (ls : Array Slot) (hl : lv_has ls 7 [(0, .ref b), (1, .ref x), (2, .ref m0), (3, .ref oA), (4, .int 0)]) : W p l e room_1 s m #[Value.ref b] below meth c H locs 451 2709142 (lw_Z below #[Value.ref b] s) (F0 m 1792 ls []) := by
  obtain ⟨hx, hb, hr, hml, hown, hts0, hX, hbl, hlocks, hgv⟩ := id C0
  have hts : ∀ w ∈ BG, w.before _ s = true := fun w h => hts0 w (List.mem_filter.mp h).1
  have hown : s.vm.findClass RL = some m.cls := hown
  have hA : ∀ q : Nat, s.heap.size ≤ q → (fun q : Nat => s.heap.size ≤ q) q := fun _ h => h
  have hbA : ¬ (fun q : Nat => s.heap.size ≤ q) b := Nat.not_le.mpr hbl
  refine lv_aload_n hx hb dL_law_1792 rfl (lv_at hl 1 rfl) ?_
  refine lv_aload_n hx hb dL_law_1793 rfl (lv_at hl 0 rfl) ?_
  refine lv_iload hx hb dL_law_1794 (lv_at hl 4 rfl) ?_
  refine lv_iconst (v := 1) hx hb dL_law_1796 (by decide +kernel) ?_
  refine lv_iadd hx hb dL_law_1797 ?_
  refine va_sld hx hb hX hbl hbA hS vi_1 dL_law_1798 ?_
  refine lv_aload_n hx hb dL_law_1799 rfl (lv_at hl 0 rfl) ?_
  refine lv_iload hx hb dL_law_1800 (lv_at hl 4 rfl) ?_
  refine lv_iconst (v := 2) hx hb dL_law_1802 (by decide +kernel) ?_
  refine lv_iadd hx hb dL_law_1803 ?_
  refine va_sld hx hb hX hbl hbA hS vi_2 dL_law_1804 ?_
  refine lv_aload_n hx hb dL_law_1805 rfl (lv_at hl 3 rfl) ?_
  have hPc := hP.sub (ws' := [(x, .inr (12, xg)), (chA, .inl (chC, (4, .inr (.inr (.inr (.inr chF)))))), (ch0, .inr (2, chg0)), (ch1, .inr (2, chg1)), (ch2, .inr (2, chg2)), (ch3, .inr (2, chg3)), (oA, .inl (oC, (1, .inr (.inl oF))))]) [0, 1, 2, 3, 4, 5, 8] rfl
  have hDc := hD.sub (ws' := [(x, .inr (12, xg)), (chA, .inl (chC, (4, .inr (.inr (.inr (.inr chF)))))), (ch0, .inr (2, chg0)), (ch1, .inr (2, chg1)), (ch2, .inr (2, chg2)), (ch3, .inr (2, chg3)), (oA, .inl (oC, (1, .inr (.inl oF))))]) [0, 1, 2, 3, 4, 5, 8] (by decide) rfl
  have hKc := hK.sub (tys' := [(chC, .object "ChipFlow$Chip"), (oC, .long)]) [0, 2] rfl
  have hFc := va_free (wc := [(x, .inr (12, xg)), (chA, .inl (chC, (4, .inr (.inr (.inr (.inr chF)))))), (ch0, .inr (2, chg0)), (ch1, .inr (2, chg1)), (ch2, .inr (2, chg2)), (ch3, .inr (2, chg3)), (oA, .inl (oC, (1, .inr (.inl oF))))]) hD hS hA [0, 1, 2, 3, 4, 5, 8] rfl
  refine va_calli (vx_runSW (As := [.ref x, .int (xs ((0 : Int32) + 1).toNatClampNeg), .int (xs ((0 : Int32) + 2).toNatClampNeg), .ref oA]) (rest := []) ⟨hx, hb, hml, hown, hts⟩ (ct_L_run l hlt dC dI H.size (xs ((0 : Int32) + 1).toNatClampNeg) (xs ((0 : Int32) + 2).toNatClampNeg) x xg chA chC chF ch0 ch1 ch2 ch3 chg0 chg1 chg2 chg3 hchg0 hchF0 hchg1 hchF1 hchg2 hchF2 hchg3 hchF3 oA oC oF hxg) (vx_cwSW 4 hts (gi_W wd_2167 wd_2168 wd_326 wd_2169) rfl rfl rfl (by decide +kernel) ⟨(Nat.le_of_ble_eq_true rfl), (Nat.le_of_ble_eq_true rfl)⟩) ⟨fun a U g mk q => by obtain ⟨q0, q1, qP, qK, qD, qT⟩ := q; exact ⟨q0, q1, qP, va_K.moved (u := U) (U := U.calling g mk a) (Vm.Alike.refl U.vm) qK, qD, th.moved (u := U) (U := U.calling g mk a) (Vm.Alike.refl U.vm) qT⟩, fun U hU hW => ⟨rfl, by rw [hU], by rw [hU]; exact hPc, va_K.moved hW.alike hKc, hDc.weaken (fun _ _ _ _ => trivial), by rw [hU]; exact ((hth.kept hS.2.1).narrow hFc).moved hW.alike⟩⟩ rfl rfl hl.1 rfl (lv_room (Nat.le_of_ble_eq_true rfl)) dL_law_1806 ⟨(Nat.le_of_ble_eq_true rfl), (Nat.le_of_ble_eq_true rfl)⟩) hS (fun q _ h => hFc q h) hFc (fun r u t H1 locs ht hvm hw hB hz1 hk1 hS => ?_)
  subst hw
  obtain ⟨hP1, -, hD1⟩ := hB
  rw [ht] at hP1
  obtain ⟨hP, hD⟩ := va_join (wr := [(m0, .inr (13, mg)), (mcA, .inl (mcC, (4, .inl (fun _ => 0))))]) (w1 := [(oA, .inl (oC, (1, .inr (.inl oF))))]) hP hD [0, 1, 2, 3, 4, 5, 8] [6, 7] rfl rfl (by decide) (by decide) hk1 hFc hP1 hD1
  have hP := hP.sub (ws' := [(m0, .inr (13, mg)), (mcA, .inl (mcC, (4, .inl (fun _ => 0))))]) [0, 1] rfl
  have hD := hD.sub (ws' := [(m0, .inr (13, mg)), (mcA, .inl (mcC, (4, .inl (fun _ => 0))))]) [0, 1] (by decide) rfl
  have hK := hK.sub (tys' := [(mcC, .boolean)]) [1] rfl
  generalize H1 = H at hP hS ⊢
  refine W.widen (k := 452) (n := 2709148) (Nat.le_of_ble_eq_true rfl) (Nat.le_of_ble_eq_true rfl) ?_
  refine lv_istore (lv' := [(5, .int 1), (0, .ref b), (1, .ref x), (2, .ref m0), (3, .ref oA), (4, .int 0)]) hx hb dL_law_1809 hl (by decide) rfl (fun ls hl => ?_)
  refine lv_aload_n hx hb dL_law_1811 rfl (lv_at hl 3 rfl) ?_
  refine lv_aload_n hx hb dL_law_1812 rfl (lv_at hl 1 rfl) ?_
  refine lv_iload hx hb dL_law_1813 (lv_at hl 5 rfl) ?_
  refine lv_iconst (v := 1) hx hb dL_law_1815 (by decide +kernel) ?_
  refine lv_iadd hx hb dL_law_1816 ?_
  refine va_sld hx hb hX hbl hbA hS vi_1 dL_law_1817 ?_
  refine lv_aload_n hx hb dL_law_1818 rfl (lv_at hl 1 rfl) ?_
  refine lv_iload hx hb dL_law_1819 (lv_at hl 5 rfl) ?_
  refine lv_iconst (v := 2) hx hb dL_law_1821 (by decide +kernel) ?_
  refine lv_iadd hx hb dL_law_1822 ?_
  refine va_sld hx hb hX hbl hbA hS vi_2 dL_law_1823 ?_
  have hFc := va_free (wc := [(m0, .inr (13, mg)), (mcA, .inl (mcC, (4, .inl (fun _ => 0))))]) hD hS hA [0, 1] rfl
  refine va_calli (va_runV (As := [.int (xs ((0 : Int32) + 1).toNatClampNeg), .int (xs ((0 : Int32) + 2).toNatClampNeg)]) (rest := []) ⟨hx, hb, hml, hown, hts⟩ (ct_X13_run l dC dI _ (xs ((0 : Int32) + 1).toNatClampNeg) (xs ((0 : Int32) + 2).toNatClampNeg) m0 mg mcA mcC hmg) (cwV 2 hts (gi_V wd_4310 wd_4311 wd_4312 wd_340 wd_4313) rfl rfl rfl (by decide +kernel) ⟨(Nat.le_of_ble_eq_true rfl), (Nat.le_of_ble_eq_true rfl)⟩) ⟨fun a U g mk q => by obtain ⟨q0, q1, qP, qK, qD⟩ := q; exact ⟨q0, q1, qP, va_K.moved (u := U) (U := U.calling g mk a) (Vm.Alike.refl U.vm) qK, qD⟩, va_recv hK hP (ci := 13) (q0 := 0) rfl rfl, fun U hU hW => ⟨rfl, by rw [hU], by rw [hU]; exact hP, va_K.moved hW.alike hK, hD.weaken (fun _ _ _ _ => trivial)⟩⟩ rfl rfl hl.1 rfl (lv_room (Nat.le_of_ble_eq_true rfl)) dL_law_1824 ⟨(Nat.le_of_ble_eq_true rfl), (Nat.le_of_ble_eq_true rfl)⟩) hS (fun q _ h => hFc q h) hFc (fun r u t H1 locs ht hvm hw hB hz1 hk1 hS => ?_)
  subst hw
  obtain ⟨mg1, hmg1, hP1, hK1, hD1⟩ := hB
  rw [ht] at hP1
  have hK1 := va_K.moved hvm.symm hK1
  have hD1 := hD1.weaken (fun k q _ h => hFc q.1 h)
  generalize H1 = H at hP1 hS ⊢
  refine lv_istore (lv' := [(6, .int 0), (5, .int 1), (0, .ref b), (1, .ref x), (2, .ref m0), (3, .ref oA), (4, .int 0)]) hx hb dL_law_1827 hl (by decide) rfl (fun ls hl => ?_)
  refine lv_aload_n hx hb dL_law_1829 rfl (lv_at hl 4 rfl) ?_
  have hFc := va_free (wc := [(m0, .inr (13, mg1))]) hD1 hS hA [0] rfl
  refine va_calli (va_runV (As := []) (rest := []) ⟨hx, hb, hml, hown, hts⟩ (ct_X13_thrown l dC dI _ 1 m0 mg1 hmg1) (cwV 0 hts (gi_V wd_3015 wd_3016 wd_3017 wd_340 wd_3018) rfl rfl rfl (by decide +kernel) ⟨(Nat.le_of_ble_eq_true rfl), (Nat.le_of_ble_eq_true rfl)⟩) ⟨fun a U g mk q => by obtain ⟨q0, q1, qP, qK, qD⟩ := q; exact ⟨q0, q1, qP, va_K.moved (u := U) (U := U.calling g mk a) (Vm.Alike.refl U.vm) qK, qD⟩, va_recv hK1 hP1 (ci := 13) (q0 := 0) rfl rfl, fun U hU hW => ⟨rfl, by rw [hU], by rw [hU]; exact hP1, va_K.moved hW.alike hK1, hD1.weaken (fun _ _ _ _ => trivial)⟩⟩ rfl rfl hl.1 rfl (lv_room (Nat.le_of_ble_eq_true rfl)) dL_law_1830 ⟨(Nat.le_of_ble_eq_true rfl), (Nat.le_of_ble_eq_true rfl)⟩) hS (fun q _ h => hFc q h) hFc (fun r u t H1 locs ht hvm hw hB hz1 hk1 hS => ?_)
  subst hw
  refine lv_iload hx hb dL_law_1833 (lv_at hl 1 rfl) ?_
  refine lv_icmp_eq (tgt := 1840) hx hb dL_law_1835 (by decide) (fun c9 => ?_) (fun c9 => ?_)
  rotate_left
  · first | exact absurd c9 (by decide +kernel) | exact absurd (by decide +kernel) c9
  refine lv_iload hx hb dL_law_1840 (lv_at hl 1 rfl) ?_
  refine lv_if_ne (tgt := 1857) hx hb dL_law_1842 (by decide) (fun c9 => ?_) (fun c9 => ?_)
  rotate_left
  · first | exact absurd c9 (by decide +kernel) | exact absurd (by decide +kernel) c9
  refine lv_goto (tgt := 4099) hx hb dL_law_1857 (by decide) ?_
  refine W.widen (k := 470) (n := 2709300) (Nat.le_of_ble_eq_true rfl) (Nat.le_of_ble_eq_true rfl) ?_
  exact law_tail (v5 := 0) (v6 := 0) (lv := []) C0 hS (lv_sub hl [2, 6] rfl)
set_option maxHeartbeats 4000000 in
set_option maxRecDepth 100000 in
theorem law_reset {p : Program} {l : Launch} {e : Env} {s : State} {m : MethodId} {below : List Frame} {meth : Method} {c : Code} {b : Nat} {xs : Nat → Int32} (C0 : lw_At p s m meth c b 7 xs) {dC : Nat → ClassId} {dI : Nat → Nat → Nat} (hlt : l.stackTraces = false) (hth : th (fun q : Nat => s.heap.size ≤ q) s s.heap) (x : Nat) (xg : List Value) (chA : Nat) (chC : ClassId) (chF : Nat → Option Nat) (ch0 ch1 ch2 ch3 : Nat) (chg0 chg1 chg2 chg3 : List Value) (hchg0 : fx chg0 20 [(0, .int 0)]) (hchF0 : chF 0 = some ch0) (hchg1 : fx chg1 20 [(0, .int 0)]) (hchF1 : chF 1 = some ch1) (hchg2 : fx chg2 20 [(0, .int 0)]) (hchF2 : chF 2 = some ch2) (hchg3 : fx chg3 20 [(0, .int 0)]) (hchF3 : chF 3 = some ch3) (m0 : Nat) (mg : List Value) (mcA : Nat) (mcC : ClassId) (oA : Nat) (oC : ClassId) (oF : Nat → Int64) (hxg : fx xg 17 [(9, .ref chA)]) (hmg : fx mg 225 [(138, .ref mcA)]) (H : Heap) (locs : List Loc) (hK : va_K (dC, dI) CL [(chC, .object "ChipFlow$Chip"), (mcC, .boolean), (oC, .long)] s) (hP : va_P (dC, dI) CL [(x, .inr (12, xg)), (chA, .inl (chC, (4, .inr (.inr (.inr (.inr chF)))))), (ch0, .inr (2, chg0)), (ch1, .inr (2, chg1)), (ch2, .inr (2, chg2)), (ch3, .inr (2, chg3)), (m0, .inr (13, mg)), (mcA, .inl (mcC, (4, .inl (fun _ => 0)))), (oA, .inl (oC, (1, .inr (.inl oF))))] H) (hD : va_D (fun q : Nat => s.heap.size ≤ q) [(x, .inr (12, xg)), (chA, .inl (chC, (4, .inr (.inr (.inr (.inr chF)))))), (ch0, .inr (2, chg0)), (ch1, .inr (2, chg1)), (ch2, .inr (2, chg2)), (ch3, .inr (2, chg3)), (m0, .inr (13, mg)), (mcA, .inl (mcC, (4, .inl (fun _ => 0)))), (oA, .inl (oC, (1, .inr (.inl oF))))]) (hS : va_S (fun q : Nat => s.heap.size ≤ q) s.heap H locs) (ls : Array Slot) (hl : lv_has ls 7 [(0, .ref b), (1, .ref x), (2, .ref m0), (3, .ref oA), (4, .int 0)]) : W p l e room_1 s m #[Value.ref b] below meth c H locs 451 2709142 (lw_Z below #[Value.ref b] s) (F0 m 1860 ls []) := by
  obtain ⟨hx, hb, hr, hml, hown, hts0, hX, hbl, hlocks, hgv⟩ := id C0
  have hts : ∀ w ∈ BG, w.before _ s = true := fun w h => hts0 w (List.mem_filter.mp h).1
  have hown : s.vm.findClass RL = some m.cls := hown
  have hA : ∀ q : Nat, s.heap.size ≤ q → (fun q : Nat => s.heap.size ≤ q) q := fun _ h => h
  have hbA : ¬ (fun q : Nat => s.heap.size ≤ q) b := Nat.not_le.mpr hbl
  refine lv_aload_n hx hb dL_law_1860 rfl (lv_at hl 1 rfl) ?_
  refine lv_aload_n hx hb dL_law_1861 rfl (lv_at hl 0 rfl) ?_
  refine lv_iload hx hb dL_law_1862 (lv_at hl 4 rfl) ?_
  refine lv_iconst (v := 1) hx hb dL_law_1864 (by decide +kernel) ?_
  refine lv_iadd hx hb dL_law_1865 ?_
  refine va_sld hx hb hX hbl hbA hS vi_1 dL_law_1866 ?_
  refine lv_aload_n hx hb dL_law_1867 rfl (lv_at hl 3 rfl) ?_
  have hPc := hP.sub (ws' := [(x, .inr (12, xg)), (chA, .inl (chC, (4, .inr (.inr (.inr (.inr chF)))))), (ch0, .inr (2, chg0)), (ch1, .inr (2, chg1)), (ch2, .inr (2, chg2)), (ch3, .inr (2, chg3)), (oA, .inl (oC, (1, .inr (.inl oF))))]) [0, 1, 2, 3, 4, 5, 8] rfl
  have hDc := hD.sub (ws' := [(x, .inr (12, xg)), (chA, .inl (chC, (4, .inr (.inr (.inr (.inr chF)))))), (ch0, .inr (2, chg0)), (ch1, .inr (2, chg1)), (ch2, .inr (2, chg2)), (ch3, .inr (2, chg3)), (oA, .inl (oC, (1, .inr (.inl oF))))]) [0, 1, 2, 3, 4, 5, 8] (by decide) rfl
  have hKc := hK.sub (tys' := [(chC, .object "ChipFlow$Chip"), (oC, .long)]) [0, 2] rfl
  have hFc := va_free (wc := [(x, .inr (12, xg)), (chA, .inl (chC, (4, .inr (.inr (.inr (.inr chF)))))), (ch0, .inr (2, chg0)), (ch1, .inr (2, chg1)), (ch2, .inr (2, chg2)), (ch3, .inr (2, chg3)), (oA, .inl (oC, (1, .inr (.inl oF))))]) hD hS hA [0, 1, 2, 3, 4, 5, 8] rfl
  refine va_calli (vx_runSW (As := [.ref x, .int (xs ((0 : Int32) + 1).toNatClampNeg), .ref oA]) (rest := []) ⟨hx, hb, hml, hown, hts⟩ (ct_L_reset l hlt dC dI H.size (xs ((0 : Int32) + 1).toNatClampNeg) x xg chA chC chF ch0 ch1 ch2 ch3 chg0 chg1 chg2 chg3 hchg0 hchF0 hchg1 hchF1 hchg2 hchF2 hchg3 hchF3 oA oC oF hxg) (vx_cwSW 3 hts (gi_W wd_2174 wd_2175 wd_326 wd_2176) rfl rfl rfl (by decide +kernel) ⟨(Nat.le_of_ble_eq_true rfl), (Nat.le_of_ble_eq_true rfl)⟩) ⟨fun a U g mk q => by obtain ⟨q0, q1, qP, qK, qD, qT⟩ := q; exact ⟨q0, q1, qP, va_K.moved (u := U) (U := U.calling g mk a) (Vm.Alike.refl U.vm) qK, qD, th.moved (u := U) (U := U.calling g mk a) (Vm.Alike.refl U.vm) qT⟩, fun U hU hW => ⟨rfl, by rw [hU], by rw [hU]; exact hPc, va_K.moved hW.alike hKc, hDc.weaken (fun _ _ _ _ => trivial), by rw [hU]; exact ((hth.kept hS.2.1).narrow hFc).moved hW.alike⟩⟩ rfl rfl hl.1 rfl (lv_room (Nat.le_of_ble_eq_true rfl)) dL_law_1868 ⟨(Nat.le_of_ble_eq_true rfl), (Nat.le_of_ble_eq_true rfl)⟩) hS (fun q _ h => hFc q h) hFc (fun r u t H1 locs ht hvm hw hB hz1 hk1 hS => ?_)
  subst hw
  obtain ⟨hP1, -, hD1⟩ := hB
  rw [ht] at hP1
  obtain ⟨hP, hD⟩ := va_join (wr := [(m0, .inr (13, mg)), (mcA, .inl (mcC, (4, .inl (fun _ => 0))))]) (w1 := [(oA, .inl (oC, (1, .inr (.inl oF))))]) hP hD [0, 1, 2, 3, 4, 5, 8] [6, 7] rfl rfl (by decide) (by decide) hk1 hFc hP1 hD1
  have hP := hP.sub (ws' := [(m0, .inr (13, mg)), (mcA, .inl (mcC, (4, .inl (fun _ => 0))))]) [0, 1] rfl
  have hD := hD.sub (ws' := [(m0, .inr (13, mg)), (mcA, .inl (mcC, (4, .inl (fun _ => 0))))]) [0, 1] (by decide) rfl
  have hK := hK.sub (tys' := [(mcC, .boolean)]) [1] rfl
  generalize H1 = H at hP hS ⊢
  refine W.widen (k := 452) (n := 2709148) (Nat.le_of_ble_eq_true rfl) (Nat.le_of_ble_eq_true rfl) ?_
  refine lv_istore (lv' := [(5, .int 1), (0, .ref b), (1, .ref x), (2, .ref m0), (3, .ref oA), (4, .int 0)]) hx hb dL_law_1871 hl (by decide) rfl (fun ls hl => ?_)
  refine lv_aload_n hx hb dL_law_1873 rfl (lv_at hl 3 rfl) ?_
  refine lv_aload_n hx hb dL_law_1874 rfl (lv_at hl 1 rfl) ?_
  refine lv_iload hx hb dL_law_1875 (lv_at hl 5 rfl) ?_
  refine lv_iconst (v := 1) hx hb dL_law_1877 (by decide +kernel) ?_
  refine lv_iadd hx hb dL_law_1878 ?_
  refine va_sld hx hb hX hbl hbA hS vi_1 dL_law_1879 ?_
  have hFc := va_free (wc := [(m0, .inr (13, mg)), (mcA, .inl (mcC, (4, .inl (fun _ => 0))))]) hD hS hA [0, 1] rfl
  refine va_calli (va_runV (As := [.int (xs ((0 : Int32) + 1).toNatClampNeg)]) (rest := []) ⟨hx, hb, hml, hown, hts⟩ (ct_X13_reset l dC dI _ (xs ((0 : Int32) + 1).toNatClampNeg) m0 mg mcA mcC hmg) (cwV 1 hts (gi_V wd_4325 wd_4326 wd_4327 wd_340 wd_4328) rfl rfl rfl (by decide +kernel) ⟨(Nat.le_of_ble_eq_true rfl), (Nat.le_of_ble_eq_true rfl)⟩) ⟨fun a U g mk q => by obtain ⟨q0, q1, qP, qK, qD⟩ := q; exact ⟨q0, q1, qP, va_K.moved (u := U) (U := U.calling g mk a) (Vm.Alike.refl U.vm) qK, qD⟩, va_recv hK hP (ci := 13) (q0 := 0) rfl rfl, fun U hU hW => ⟨rfl, by rw [hU], by rw [hU]; exact hP, va_K.moved hW.alike hK, hD.weaken (fun _ _ _ _ => trivial)⟩⟩ rfl rfl hl.1 rfl (lv_room (Nat.le_of_ble_eq_true rfl)) dL_law_1880 ⟨(Nat.le_of_ble_eq_true rfl), (Nat.le_of_ble_eq_true rfl)⟩) hS (fun q _ h => hFc q h) hFc (fun r u t H1 locs ht hvm hw hB hz1 hk1 hS => ?_)
  subst hw
  obtain ⟨mg1, hmg1, hP1, hK1, hD1⟩ := hB
  rw [ht] at hP1
  have hK1 := va_K.moved hvm.symm hK1
  have hD1 := hD1.weaken (fun k q _ h => hFc q.1 h)
  generalize H1 = H at hP1 hS ⊢
  refine lv_istore (lv' := [(6, .int 0), (5, .int 1), (0, .ref b), (1, .ref x), (2, .ref m0), (3, .ref oA), (4, .int 0)]) hx hb dL_law_1883 hl (by decide) rfl (fun ls hl => ?_)
  refine lv_aload_n hx hb dL_law_1885 rfl (lv_at hl 4 rfl) ?_
  have hFc := va_free (wc := [(m0, .inr (13, mg1))]) hD1 hS hA [0] rfl
  refine va_calli (va_runV (As := []) (rest := []) ⟨hx, hb, hml, hown, hts⟩ (ct_X13_thrown l dC dI _ 1 m0 mg1 hmg1) (cwV 0 hts (gi_V wd_3015 wd_3016 wd_3017 wd_340 wd_3018) rfl rfl rfl (by decide +kernel) ⟨(Nat.le_of_ble_eq_true rfl), (Nat.le_of_ble_eq_true rfl)⟩) ⟨fun a U g mk q => by obtain ⟨q0, q1, qP, qK, qD⟩ := q; exact ⟨q0, q1, qP, va_K.moved (u := U) (U := U.calling g mk a) (Vm.Alike.refl U.vm) qK, qD⟩, va_recv hK1 hP1 (ci := 13) (q0 := 0) rfl rfl, fun U hU hW => ⟨rfl, by rw [hU], by rw [hU]; exact hP1, va_K.moved hW.alike hK1, hD1.weaken (fun _ _ _ _ => trivial)⟩⟩ rfl rfl hl.1 rfl (lv_room (Nat.le_of_ble_eq_true rfl)) dL_law_1886 ⟨(Nat.le_of_ble_eq_true rfl), (Nat.le_of_ble_eq_true rfl)⟩) hS (fun q _ h => hFc q h) hFc (fun r u t H1 locs ht hvm hw hB hz1 hk1 hS => ?_)
  subst hw
  refine lv_iload hx hb dL_law_1889 (lv_at hl 1 rfl) ?_
  refine lv_icmp_eq (tgt := 1896) hx hb dL_law_1891 (by decide) (fun c9 => ?_) (fun c9 => ?_)
  rotate_left
  · first | exact absurd c9 (by decide +kernel) | exact absurd (by decide +kernel) c9
  refine lv_iload hx hb dL_law_1896 (lv_at hl 1 rfl) ?_
  refine lv_if_ne (tgt := 1913) hx hb dL_law_1898 (by decide) (fun c9 => ?_) (fun c9 => ?_)
  rotate_left
  · first | exact absurd c9 (by decide +kernel) | exact absurd (by decide +kernel) c9
  refine lv_goto (tgt := 4099) hx hb dL_law_1913 (by decide) ?_
  refine W.widen (k := 470) (n := 2709300) (Nat.le_of_ble_eq_true rfl) (Nat.le_of_ble_eq_true rfl) ?_
  exact law_tail (v5 := 0) (v6 := 0) (lv := []) C0 hS (lv_sub hl [2, 6] rfl)
set_option maxHeartbeats 4000000 in
set_option maxRecDepth 100000 in
theorem law_proves {p : Program} {l : Launch} {e : Env} {s : State} {m : MethodId} {below : List Frame} {meth : Method} {c : Code} {b : Nat} {xs : Nat → Int32} (C0 : lw_At p s m meth c b 7 xs) {dC : Nat → ClassId} {dI : Nat → Nat → Nat} (hlt : l.stackTraces = false) (hth : th (fun q : Nat => s.heap.size ≤ q) s s.heap) (x : Nat) (xg : List Value) (chA : Nat) (chC : ClassId) (chF : Nat → Option Nat) (ch0 ch1 ch2 ch3 : Nat) (chg0 chg1 chg2 chg3 : List Value) (hchg0 : fx chg0 20 [(0, .int 0)]) (hchF0 : chF 0 = some ch0) (hchg1 : fx chg1 20 [(0, .int 0)]) (hchF1 : chF 1 = some ch1) (hchg2 : fx chg2 20 [(0, .int 0)]) (hchF2 : chF 2 = some ch2) (hchg3 : fx chg3 20 [(0, .int 0)]) (hchF3 : chF 3 = some ch3) (m0 : Nat) (mg : List Value) (mcA : Nat) (mcC : ClassId) (oA : Nat) (oC : ClassId) (oF : Nat → Int64) (hxg : fx xg 17 [(9, .ref chA)]) (hmg : fx mg 225 [(138, .ref mcA)]) (H : Heap) (locs : List Loc) (hK : va_K (dC, dI) CL [(chC, .object "ChipFlow$Chip"), (mcC, .boolean), (oC, .long)] s) (hP : va_P (dC, dI) CL [(x, .inr (12, xg)), (chA, .inl (chC, (4, .inr (.inr (.inr (.inr chF)))))), (ch0, .inr (2, chg0)), (ch1, .inr (2, chg1)), (ch2, .inr (2, chg2)), (ch3, .inr (2, chg3)), (m0, .inr (13, mg)), (mcA, .inl (mcC, (4, .inl (fun _ => 0)))), (oA, .inl (oC, (1, .inr (.inl oF))))] H) (hD : va_D (fun q : Nat => s.heap.size ≤ q) [(x, .inr (12, xg)), (chA, .inl (chC, (4, .inr (.inr (.inr (.inr chF)))))), (ch0, .inr (2, chg0)), (ch1, .inr (2, chg1)), (ch2, .inr (2, chg2)), (ch3, .inr (2, chg3)), (m0, .inr (13, mg)), (mcA, .inl (mcC, (4, .inl (fun _ => 0)))), (oA, .inl (oC, (1, .inr (.inl oF))))]) (hS : va_S (fun q : Nat => s.heap.size ≤ q) s.heap H locs) (ls : Array Slot) (hl : lv_has ls 7 [(0, .ref b), (1, .ref x), (2, .ref m0), (3, .ref oA), (4, .int 0)]) : W p l e room_1 s m #[Value.ref b] below meth c H locs 451 2709142 (lw_Z below #[Value.ref b] s) (F0 m 1916 ls []) := by
  obtain ⟨hx, hb, hr, hml, hown, hts0, hX, hbl, hlocks, hgv⟩ := id C0
  have hts : ∀ w ∈ BG, w.before _ s = true := fun w h => hts0 w (List.mem_filter.mp h).1
  have hown : s.vm.findClass RL = some m.cls := hown
  have hA : ∀ q : Nat, s.heap.size ≤ q → (fun q : Nat => s.heap.size ≤ q) q := fun _ h => h
  have hbA : ¬ (fun q : Nat => s.heap.size ≤ q) b := Nat.not_le.mpr hbl
  refine lv_aload_n hx hb dL_law_1916 rfl (lv_at hl 1 rfl) ?_
  refine lv_aload_n hx hb dL_law_1917 rfl (lv_at hl 0 rfl) ?_
  refine lv_iload hx hb dL_law_1918 (lv_at hl 4 rfl) ?_
  refine lv_iconst (v := 1) hx hb dL_law_1920 (by decide +kernel) ?_
  refine lv_iadd hx hb dL_law_1921 ?_
  refine va_sld hx hb hX hbl hbA hS vi_1 dL_law_1922 ?_
  refine lv_aload_n hx hb dL_law_1923 rfl (lv_at hl 0 rfl) ?_
  refine lv_iload hx hb dL_law_1924 (lv_at hl 4 rfl) ?_
  refine lv_iconst (v := 2) hx hb dL_law_1926 (by decide +kernel) ?_
  refine lv_iadd hx hb dL_law_1927 ?_
  refine va_sld hx hb hX hbl hbA hS vi_2 dL_law_1928 ?_
  refine lv_aload_n hx hb dL_law_1929 rfl (lv_at hl 3 rfl) ?_
  have hPc := hP.sub (ws' := [(x, .inr (12, xg)), (chA, .inl (chC, (4, .inr (.inr (.inr (.inr chF)))))), (ch0, .inr (2, chg0)), (ch1, .inr (2, chg1)), (ch2, .inr (2, chg2)), (ch3, .inr (2, chg3)), (oA, .inl (oC, (1, .inr (.inl oF))))]) [0, 1, 2, 3, 4, 5, 8] rfl
  have hDc := hD.sub (ws' := [(x, .inr (12, xg)), (chA, .inl (chC, (4, .inr (.inr (.inr (.inr chF)))))), (ch0, .inr (2, chg0)), (ch1, .inr (2, chg1)), (ch2, .inr (2, chg2)), (ch3, .inr (2, chg3)), (oA, .inl (oC, (1, .inr (.inl oF))))]) [0, 1, 2, 3, 4, 5, 8] (by decide) rfl
  have hKc := hK.sub (tys' := [(chC, .object "ChipFlow$Chip"), (oC, .long)]) [0, 2] rfl
  have hFc := va_free (wc := [(x, .inr (12, xg)), (chA, .inl (chC, (4, .inr (.inr (.inr (.inr chF)))))), (ch0, .inr (2, chg0)), (ch1, .inr (2, chg1)), (ch2, .inr (2, chg2)), (ch3, .inr (2, chg3)), (oA, .inl (oC, (1, .inr (.inl oF))))]) hD hS hA [0, 1, 2, 3, 4, 5, 8] rfl
  refine va_calli (vx_runSW (As := [.ref x, .int (xs ((0 : Int32) + 1).toNatClampNeg), .int (xs ((0 : Int32) + 2).toNatClampNeg), .ref oA]) (rest := []) ⟨hx, hb, hml, hown, hts⟩ (ct_L_proves l hlt dC dI H.size (xs ((0 : Int32) + 1).toNatClampNeg) (xs ((0 : Int32) + 2).toNatClampNeg) x xg chA chC chF ch0 ch1 ch2 ch3 chg0 chg1 chg2 chg3 hchg0 hchF0 hchg1 hchF1 hchg2 hchF2 hchg3 hchF3 oA oC oF hxg) (vx_cwSW 4 hts (gi_W wd_2181 wd_2182 wd_326 wd_2183) rfl rfl rfl (by decide +kernel) ⟨(Nat.le_of_ble_eq_true rfl), (Nat.le_of_ble_eq_true rfl)⟩) ⟨fun a U g mk q => by obtain ⟨q0, q1, qP, qK, qD, qT⟩ := q; exact ⟨q0, q1, qP, va_K.moved (u := U) (U := U.calling g mk a) (Vm.Alike.refl U.vm) qK, qD, th.moved (u := U) (U := U.calling g mk a) (Vm.Alike.refl U.vm) qT⟩, fun U hU hW => ⟨rfl, by rw [hU], by rw [hU]; exact hPc, va_K.moved hW.alike hKc, hDc.weaken (fun _ _ _ _ => trivial), by rw [hU]; exact ((hth.kept hS.2.1).narrow hFc).moved hW.alike⟩⟩ rfl rfl hl.1 rfl (lv_room (Nat.le_of_ble_eq_true rfl)) dL_law_1930 ⟨(Nat.le_of_ble_eq_true rfl), (Nat.le_of_ble_eq_true rfl)⟩) hS (fun q _ h => hFc q h) hFc (fun r u t H1 locs ht hvm hw hB hz1 hk1 hS => ?_)
  subst hw
  obtain ⟨hP1, -, hD1⟩ := hB
  rw [ht] at hP1
  obtain ⟨hP, hD⟩ := va_join (wr := [(m0, .inr (13, mg)), (mcA, .inl (mcC, (4, .inl (fun _ => 0))))]) (w1 := [(oA, .inl (oC, (1, .inr (.inl oF))))]) hP hD [0, 1, 2, 3, 4, 5, 8] [6, 7] rfl rfl (by decide) (by decide) hk1 hFc hP1 hD1
  have hP := hP.sub (ws' := [(m0, .inr (13, mg)), (mcA, .inl (mcC, (4, .inl (fun _ => 0))))]) [0, 1] rfl
  have hD := hD.sub (ws' := [(m0, .inr (13, mg)), (mcA, .inl (mcC, (4, .inl (fun _ => 0))))]) [0, 1] (by decide) rfl
  have hK := hK.sub (tys' := [(mcC, .boolean)]) [1] rfl
  generalize H1 = H at hP hS ⊢
  refine W.widen (k := 452) (n := 2709148) (Nat.le_of_ble_eq_true rfl) (Nat.le_of_ble_eq_true rfl) ?_
  refine lv_istore (lv' := [(5, .int 1), (0, .ref b), (1, .ref x), (2, .ref m0), (3, .ref oA), (4, .int 0)]) hx hb dL_law_1933 hl (by decide) rfl (fun ls hl => ?_)
  refine lv_aload_n hx hb dL_law_1935 rfl (lv_at hl 3 rfl) ?_
  refine lv_aload_n hx hb dL_law_1936 rfl (lv_at hl 1 rfl) ?_
  refine lv_iload hx hb dL_law_1937 (lv_at hl 5 rfl) ?_
  refine lv_iconst (v := 1) hx hb dL_law_1939 (by decide +kernel) ?_
  refine lv_iadd hx hb dL_law_1940 ?_
  refine va_sld hx hb hX hbl hbA hS vi_1 dL_law_1941 ?_
  refine lv_aload_n hx hb dL_law_1942 rfl (lv_at hl 1 rfl) ?_
  refine lv_iload hx hb dL_law_1943 (lv_at hl 5 rfl) ?_
  refine lv_iconst (v := 2) hx hb dL_law_1945 (by decide +kernel) ?_
  refine lv_iadd hx hb dL_law_1946 ?_
  refine va_sld hx hb hX hbl hbA hS vi_2 dL_law_1947 ?_
  have hFc := va_free (wc := [(m0, .inr (13, mg)), (mcA, .inl (mcC, (4, .inl (fun _ => 0))))]) hD hS hA [0, 1] rfl
  refine va_calli (va_runV (As := [.int (xs ((0 : Int32) + 1).toNatClampNeg), .int (xs ((0 : Int32) + 2).toNatClampNeg)]) (rest := []) ⟨hx, hb, hml, hown, hts⟩ (ct_X13_proves l dC dI _ (xs ((0 : Int32) + 1).toNatClampNeg) (xs ((0 : Int32) + 2).toNatClampNeg) m0 mg mcA mcC hmg) (cwV 2 hts (gi_V wd_4329 wd_4330 wd_4331 wd_340 wd_4332) rfl rfl rfl (by decide +kernel) ⟨(Nat.le_of_ble_eq_true rfl), (Nat.le_of_ble_eq_true rfl)⟩) ⟨fun a U g mk q => by obtain ⟨q0, q1, qP, qK, qD⟩ := q; exact ⟨q0, q1, qP, va_K.moved (u := U) (U := U.calling g mk a) (Vm.Alike.refl U.vm) qK, qD⟩, va_recv hK hP (ci := 13) (q0 := 0) rfl rfl, fun U hU hW => ⟨rfl, by rw [hU], by rw [hU]; exact hP, va_K.moved hW.alike hK, hD.weaken (fun _ _ _ _ => trivial)⟩⟩ rfl rfl hl.1 rfl (lv_room (Nat.le_of_ble_eq_true rfl)) dL_law_1948 ⟨(Nat.le_of_ble_eq_true rfl), (Nat.le_of_ble_eq_true rfl)⟩) hS (fun q _ h => hFc q h) hFc (fun r u t H1 locs ht hvm hw hB hz1 hk1 hS => ?_)
  subst hw
  obtain ⟨mg1, hmg1, hP1, hK1, hD1⟩ := hB
  rw [ht] at hP1
  have hK1 := va_K.moved hvm.symm hK1
  have hD1 := hD1.weaken (fun k q _ h => hFc q.1 h)
  generalize H1 = H at hP1 hS ⊢
  refine lv_istore (lv' := [(6, .int 0), (5, .int 1), (0, .ref b), (1, .ref x), (2, .ref m0), (3, .ref oA), (4, .int 0)]) hx hb dL_law_1951 hl (by decide) rfl (fun ls hl => ?_)
  refine lv_aload_n hx hb dL_law_1953 rfl (lv_at hl 4 rfl) ?_
  have hFc := va_free (wc := [(m0, .inr (13, mg1))]) hD1 hS hA [0] rfl
  refine va_calli (va_runV (As := []) (rest := []) ⟨hx, hb, hml, hown, hts⟩ (ct_X13_thrown l dC dI _ 1 m0 mg1 hmg1) (cwV 0 hts (gi_V wd_3015 wd_3016 wd_3017 wd_340 wd_3018) rfl rfl rfl (by decide +kernel) ⟨(Nat.le_of_ble_eq_true rfl), (Nat.le_of_ble_eq_true rfl)⟩) ⟨fun a U g mk q => by obtain ⟨q0, q1, qP, qK, qD⟩ := q; exact ⟨q0, q1, qP, va_K.moved (u := U) (U := U.calling g mk a) (Vm.Alike.refl U.vm) qK, qD⟩, va_recv hK1 hP1 (ci := 13) (q0 := 0) rfl rfl, fun U hU hW => ⟨rfl, by rw [hU], by rw [hU]; exact hP1, va_K.moved hW.alike hK1, hD1.weaken (fun _ _ _ _ => trivial)⟩⟩ rfl rfl hl.1 rfl (lv_room (Nat.le_of_ble_eq_true rfl)) dL_law_1954 ⟨(Nat.le_of_ble_eq_true rfl), (Nat.le_of_ble_eq_true rfl)⟩) hS (fun q _ h => hFc q h) hFc (fun r u t H1 locs ht hvm hw hB hz1 hk1 hS => ?_)
  subst hw
  refine lv_iload hx hb dL_law_1957 (lv_at hl 1 rfl) ?_
  refine lv_icmp_eq (tgt := 1964) hx hb dL_law_1959 (by decide) (fun c9 => ?_) (fun c9 => ?_)
  rotate_left
  · first | exact absurd c9 (by decide +kernel) | exact absurd (by decide +kernel) c9
  refine lv_iload hx hb dL_law_1964 (lv_at hl 1 rfl) ?_
  refine lv_if_ne (tgt := 1981) hx hb dL_law_1966 (by decide) (fun c9 => ?_) (fun c9 => ?_)
  rotate_left
  · first | exact absurd c9 (by decide +kernel) | exact absurd (by decide +kernel) c9
  refine lv_goto (tgt := 4099) hx hb dL_law_1981 (by decide) ?_
  refine W.widen (k := 470) (n := 2709300) (Nat.le_of_ble_eq_true rfl) (Nat.le_of_ble_eq_true rfl) ?_
  exact law_tail (v5 := 0) (v6 := 0) (lv := []) C0 hS (lv_sub hl [2, 6] rfl)
set_option maxHeartbeats 4000000 in
set_option maxRecDepth 100000 in
theorem law_place {p : Program} {l : Launch} {e : Env} {s : State} {m : MethodId} {below : List Frame} {meth : Method} {c : Code} {b : Nat} {xs : Nat → Int32} (C0 : lw_At p s m meth c b 7 xs) {dC : Nat → ClassId} {dI : Nat → Nat → Nat} (hlt : l.stackTraces = false) (hth : th (fun q : Nat => s.heap.size ≤ q) s s.heap) (x : Nat) (xg : List Value) (chA : Nat) (chC : ClassId) (chF : Nat → Option Nat) (ch0 ch1 ch2 ch3 : Nat) (chg0 chg1 chg2 chg3 : List Value) (hchg0 : fx chg0 20 [(0, .int 0)]) (hchF0 : chF 0 = some ch0) (hchg1 : fx chg1 20 [(0, .int 0)]) (hchF1 : chF 1 = some ch1) (hchg2 : fx chg2 20 [(0, .int 0)]) (hchF2 : chF 2 = some ch2) (hchg3 : fx chg3 20 [(0, .int 0)]) (hchF3 : chF 3 = some ch3) (m0 : Nat) (mg : List Value) (mcA : Nat) (mcC : ClassId) (oA : Nat) (oC : ClassId) (oF : Nat → Int64) (hxg : fx xg 17 [(9, .ref chA)]) (hmg : fx mg 225 [(138, .ref mcA)]) (H : Heap) (locs : List Loc) (hK : va_K (dC, dI) CL [(chC, .object "ChipFlow$Chip"), (mcC, .boolean), (oC, .long)] s) (hP : va_P (dC, dI) CL [(x, .inr (12, xg)), (chA, .inl (chC, (4, .inr (.inr (.inr (.inr chF)))))), (ch0, .inr (2, chg0)), (ch1, .inr (2, chg1)), (ch2, .inr (2, chg2)), (ch3, .inr (2, chg3)), (m0, .inr (13, mg)), (mcA, .inl (mcC, (4, .inl (fun _ => 0)))), (oA, .inl (oC, (1, .inr (.inl oF))))] H) (hD : va_D (fun q : Nat => s.heap.size ≤ q) [(x, .inr (12, xg)), (chA, .inl (chC, (4, .inr (.inr (.inr (.inr chF)))))), (ch0, .inr (2, chg0)), (ch1, .inr (2, chg1)), (ch2, .inr (2, chg2)), (ch3, .inr (2, chg3)), (m0, .inr (13, mg)), (mcA, .inl (mcC, (4, .inl (fun _ => 0)))), (oA, .inl (oC, (1, .inr (.inl oF))))]) (hS : va_S (fun q : Nat => s.heap.size ≤ q) s.heap H locs) (ls : Array Slot) (hl : lv_has ls 7 [(0, .ref b), (1, .ref x), (2, .ref m0), (3, .ref oA), (4, .int 0)]) : W p l e room_1 s m #[Value.ref b] below meth c H locs 451 2709142 (lw_Z below #[Value.ref b] s) (F0 m 1984 ls []) := by
  obtain ⟨hx, hb, hr, hml, hown, hts0, hX, hbl, hlocks, hgv⟩ := id C0
  have hts : ∀ w ∈ BG, w.before _ s = true := fun w h => hts0 w (List.mem_filter.mp h).1
  have hown : s.vm.findClass RL = some m.cls := hown
  have hA : ∀ q : Nat, s.heap.size ≤ q → (fun q : Nat => s.heap.size ≤ q) q := fun _ h => h
  have hbA : ¬ (fun q : Nat => s.heap.size ≤ q) b := Nat.not_le.mpr hbl
  refine lv_aload_n hx hb dL_law_1984 rfl (lv_at hl 1 rfl) ?_
  refine lv_aload_n hx hb dL_law_1985 rfl (lv_at hl 0 rfl) ?_
  refine lv_iload hx hb dL_law_1986 (lv_at hl 4 rfl) ?_
  refine lv_iconst (v := 1) hx hb dL_law_1988 (by decide +kernel) ?_
  refine lv_iadd hx hb dL_law_1989 ?_
  refine va_sld hx hb hX hbl hbA hS vi_1 dL_law_1990 ?_
  refine lv_aload_n hx hb dL_law_1991 rfl (lv_at hl 0 rfl) ?_
  refine lv_iload hx hb dL_law_1992 (lv_at hl 4 rfl) ?_
  refine lv_iconst (v := 2) hx hb dL_law_1994 (by decide +kernel) ?_
  refine lv_iadd hx hb dL_law_1995 ?_
  refine va_sld hx hb hX hbl hbA hS vi_2 dL_law_1996 ?_
  refine lv_aload_n hx hb dL_law_1997 rfl (lv_at hl 3 rfl) ?_
  have hPc := hP.sub (ws' := [(x, .inr (12, xg)), (chA, .inl (chC, (4, .inr (.inr (.inr (.inr chF)))))), (ch0, .inr (2, chg0)), (ch1, .inr (2, chg1)), (ch2, .inr (2, chg2)), (ch3, .inr (2, chg3)), (oA, .inl (oC, (1, .inr (.inl oF))))]) [0, 1, 2, 3, 4, 5, 8] rfl
  have hDc := hD.sub (ws' := [(x, .inr (12, xg)), (chA, .inl (chC, (4, .inr (.inr (.inr (.inr chF)))))), (ch0, .inr (2, chg0)), (ch1, .inr (2, chg1)), (ch2, .inr (2, chg2)), (ch3, .inr (2, chg3)), (oA, .inl (oC, (1, .inr (.inl oF))))]) [0, 1, 2, 3, 4, 5, 8] (by decide) rfl
  have hKc := hK.sub (tys' := [(chC, .object "ChipFlow$Chip"), (oC, .long)]) [0, 2] rfl
  have hFc := va_free (wc := [(x, .inr (12, xg)), (chA, .inl (chC, (4, .inr (.inr (.inr (.inr chF)))))), (ch0, .inr (2, chg0)), (ch1, .inr (2, chg1)), (ch2, .inr (2, chg2)), (ch3, .inr (2, chg3)), (oA, .inl (oC, (1, .inr (.inl oF))))]) hD hS hA [0, 1, 2, 3, 4, 5, 8] rfl
  refine va_calli (vx_runSW (As := [.ref x, .int (xs ((0 : Int32) + 1).toNatClampNeg), .int (xs ((0 : Int32) + 2).toNatClampNeg), .ref oA]) (rest := []) ⟨hx, hb, hml, hown, hts⟩ (ct_L_place l hlt dC dI H.size (xs ((0 : Int32) + 1).toNatClampNeg) (xs ((0 : Int32) + 2).toNatClampNeg) x xg chA chC chF ch0 ch1 ch2 ch3 chg0 chg1 chg2 chg3 hchg0 hchF0 hchg1 hchF1 hchg2 hchF2 hchg3 hchF3 oA oC oF hxg) (vx_cwSW 4 hts (gi_W wd_2188 wd_2189 wd_326 wd_2190) rfl rfl rfl (by decide +kernel) ⟨(Nat.le_of_ble_eq_true rfl), (Nat.le_of_ble_eq_true rfl)⟩) ⟨fun a U g mk q => by obtain ⟨q0, q1, qP, qK, qD, qT⟩ := q; exact ⟨q0, q1, qP, va_K.moved (u := U) (U := U.calling g mk a) (Vm.Alike.refl U.vm) qK, qD, th.moved (u := U) (U := U.calling g mk a) (Vm.Alike.refl U.vm) qT⟩, fun U hU hW => ⟨rfl, by rw [hU], by rw [hU]; exact hPc, va_K.moved hW.alike hKc, hDc.weaken (fun _ _ _ _ => trivial), by rw [hU]; exact ((hth.kept hS.2.1).narrow hFc).moved hW.alike⟩⟩ rfl rfl hl.1 rfl (lv_room (Nat.le_of_ble_eq_true rfl)) dL_law_1998 ⟨(Nat.le_of_ble_eq_true rfl), (Nat.le_of_ble_eq_true rfl)⟩) hS (fun q _ h => hFc q h) hFc (fun r u t H1 locs ht hvm hw hB hz1 hk1 hS => ?_)
  subst hw
  obtain ⟨hP1, -, hD1⟩ := hB
  rw [ht] at hP1
  obtain ⟨hP, hD⟩ := va_join (wr := [(m0, .inr (13, mg)), (mcA, .inl (mcC, (4, .inl (fun _ => 0))))]) (w1 := [(oA, .inl (oC, (1, .inr (.inl oF))))]) hP hD [0, 1, 2, 3, 4, 5, 8] [6, 7] rfl rfl (by decide) (by decide) hk1 hFc hP1 hD1
  have hP := hP.sub (ws' := [(m0, .inr (13, mg)), (mcA, .inl (mcC, (4, .inl (fun _ => 0))))]) [0, 1] rfl
  have hD := hD.sub (ws' := [(m0, .inr (13, mg)), (mcA, .inl (mcC, (4, .inl (fun _ => 0))))]) [0, 1] (by decide) rfl
  have hK := hK.sub (tys' := [(mcC, .boolean)]) [1] rfl
  generalize H1 = H at hP hS ⊢
  refine W.widen (k := 452) (n := 2709148) (Nat.le_of_ble_eq_true rfl) (Nat.le_of_ble_eq_true rfl) ?_
  refine lv_istore (lv' := [(5, .int 1), (0, .ref b), (1, .ref x), (2, .ref m0), (3, .ref oA), (4, .int 0)]) hx hb dL_law_2001 hl (by decide) rfl (fun ls hl => ?_)
  refine lv_aload_n hx hb dL_law_2003 rfl (lv_at hl 3 rfl) ?_
  refine lv_aload_n hx hb dL_law_2004 rfl (lv_at hl 1 rfl) ?_
  refine lv_iload hx hb dL_law_2005 (lv_at hl 5 rfl) ?_
  refine lv_iconst (v := 1) hx hb dL_law_2007 (by decide +kernel) ?_
  refine lv_iadd hx hb dL_law_2008 ?_
  refine va_sld hx hb hX hbl hbA hS vi_1 dL_law_2009 ?_
  refine lv_aload_n hx hb dL_law_2010 rfl (lv_at hl 1 rfl) ?_
  refine lv_iload hx hb dL_law_2011 (lv_at hl 5 rfl) ?_
  refine lv_iconst (v := 2) hx hb dL_law_2013 (by decide +kernel) ?_
  refine lv_iadd hx hb dL_law_2014 ?_
  refine va_sld hx hb hX hbl hbA hS vi_2 dL_law_2015 ?_
  have hFc := va_free (wc := [(m0, .inr (13, mg)), (mcA, .inl (mcC, (4, .inl (fun _ => 0))))]) hD hS hA [0, 1] rfl
  refine va_calli (va_runV (As := [.int (xs ((0 : Int32) + 1).toNatClampNeg), .int (xs ((0 : Int32) + 2).toNatClampNeg)]) (rest := []) ⟨hx, hb, hml, hown, hts⟩ (ct_X13_place l dC dI _ (xs ((0 : Int32) + 1).toNatClampNeg) (xs ((0 : Int32) + 2).toNatClampNeg) m0 mg mcA mcC hmg) (cwV 2 hts (gi_V wd_4337 wd_4338 wd_4339 wd_340 wd_4340) rfl rfl rfl (by decide +kernel) ⟨(Nat.le_of_ble_eq_true rfl), (Nat.le_of_ble_eq_true rfl)⟩) ⟨fun a U g mk q => by obtain ⟨q0, q1, qP, qK, qD⟩ := q; exact ⟨q0, q1, qP, va_K.moved (u := U) (U := U.calling g mk a) (Vm.Alike.refl U.vm) qK, qD⟩, va_recv hK hP (ci := 13) (q0 := 0) rfl rfl, fun U hU hW => ⟨rfl, by rw [hU], by rw [hU]; exact hP, va_K.moved hW.alike hK, hD.weaken (fun _ _ _ _ => trivial)⟩⟩ rfl rfl hl.1 rfl (lv_room (Nat.le_of_ble_eq_true rfl)) dL_law_2016 ⟨(Nat.le_of_ble_eq_true rfl), (Nat.le_of_ble_eq_true rfl)⟩) hS (fun q _ h => hFc q h) hFc (fun r u t H1 locs ht hvm hw hB hz1 hk1 hS => ?_)
  subst hw
  obtain ⟨mg1, hmg1, hP1, hK1, hD1⟩ := hB
  rw [ht] at hP1
  have hK1 := va_K.moved hvm.symm hK1
  have hD1 := hD1.weaken (fun k q _ h => hFc q.1 h)
  generalize H1 = H at hP1 hS ⊢
  refine lv_istore (lv' := [(6, .int 0), (5, .int 1), (0, .ref b), (1, .ref x), (2, .ref m0), (3, .ref oA), (4, .int 0)]) hx hb dL_law_2019 hl (by decide) rfl (fun ls hl => ?_)
  refine lv_aload_n hx hb dL_law_2021 rfl (lv_at hl 4 rfl) ?_
  have hFc := va_free (wc := [(m0, .inr (13, mg1))]) hD1 hS hA [0] rfl
  refine va_calli (va_runV (As := []) (rest := []) ⟨hx, hb, hml, hown, hts⟩ (ct_X13_thrown l dC dI _ 1 m0 mg1 hmg1) (cwV 0 hts (gi_V wd_3015 wd_3016 wd_3017 wd_340 wd_3018) rfl rfl rfl (by decide +kernel) ⟨(Nat.le_of_ble_eq_true rfl), (Nat.le_of_ble_eq_true rfl)⟩) ⟨fun a U g mk q => by obtain ⟨q0, q1, qP, qK, qD⟩ := q; exact ⟨q0, q1, qP, va_K.moved (u := U) (U := U.calling g mk a) (Vm.Alike.refl U.vm) qK, qD⟩, va_recv hK1 hP1 (ci := 13) (q0 := 0) rfl rfl, fun U hU hW => ⟨rfl, by rw [hU], by rw [hU]; exact hP1, va_K.moved hW.alike hK1, hD1.weaken (fun _ _ _ _ => trivial)⟩⟩ rfl rfl hl.1 rfl (lv_room (Nat.le_of_ble_eq_true rfl)) dL_law_2022 ⟨(Nat.le_of_ble_eq_true rfl), (Nat.le_of_ble_eq_true rfl)⟩) hS (fun q _ h => hFc q h) hFc (fun r u t H1 locs ht hvm hw hB hz1 hk1 hS => ?_)
  subst hw
  refine lv_iload hx hb dL_law_2025 (lv_at hl 1 rfl) ?_
  refine lv_icmp_eq (tgt := 2032) hx hb dL_law_2027 (by decide) (fun c9 => ?_) (fun c9 => ?_)
  rotate_left
  · first | exact absurd c9 (by decide +kernel) | exact absurd (by decide +kernel) c9
  refine lv_iload hx hb dL_law_2032 (lv_at hl 1 rfl) ?_
  refine lv_if_ne (tgt := 2049) hx hb dL_law_2034 (by decide) (fun c9 => ?_) (fun c9 => ?_)
  rotate_left
  · first | exact absurd c9 (by decide +kernel) | exact absurd (by decide +kernel) c9
  refine lv_goto (tgt := 4099) hx hb dL_law_2049 (by decide) ?_
  refine W.widen (k := 470) (n := 2709300) (Nat.le_of_ble_eq_true rfl) (Nat.le_of_ble_eq_true rfl) ?_
  exact law_tail (v5 := 0) (v6 := 0) (lv := []) C0 hS (lv_sub hl [2, 6] rfl)
set_option maxHeartbeats 4000000 in
set_option maxRecDepth 100000 in
theorem law_at {p : Program} {l : Launch} {e : Env} {s : State} {m : MethodId} {below : List Frame} {meth : Method} {c : Code} {b : Nat} {xs : Nat → Int32} (C0 : lw_At p s m meth c b 7 xs) {dC : Nat → ClassId} {dI : Nat → Nat → Nat} (hlt : l.stackTraces = false) (hth : th (fun q : Nat => s.heap.size ≤ q) s s.heap) (x : Nat) (xg : List Value) (chA : Nat) (chC : ClassId) (chF : Nat → Option Nat) (ch0 ch1 ch2 ch3 : Nat) (chg0 chg1 chg2 chg3 : List Value) (hchg0 : fx chg0 20 [(0, .int 0)]) (hchF0 : chF 0 = some ch0) (hchg1 : fx chg1 20 [(0, .int 0)]) (hchF1 : chF 1 = some ch1) (hchg2 : fx chg2 20 [(0, .int 0)]) (hchF2 : chF 2 = some ch2) (hchg3 : fx chg3 20 [(0, .int 0)]) (hchF3 : chF 3 = some ch3) (m0 : Nat) (mg : List Value) (mcA : Nat) (mcC : ClassId) (oA : Nat) (oC : ClassId) (oF : Nat → Int64) (hxg : fx xg 17 [(9, .ref chA)]) (hmg : fx mg 225 [(138, .ref mcA)]) (H : Heap) (locs : List Loc) (hK : va_K (dC, dI) CL [(chC, .object "ChipFlow$Chip"), (mcC, .boolean), (oC, .long)] s) (hP : va_P (dC, dI) CL [(x, .inr (12, xg)), (chA, .inl (chC, (4, .inr (.inr (.inr (.inr chF)))))), (ch0, .inr (2, chg0)), (ch1, .inr (2, chg1)), (ch2, .inr (2, chg2)), (ch3, .inr (2, chg3)), (m0, .inr (13, mg)), (mcA, .inl (mcC, (4, .inl (fun _ => 0)))), (oA, .inl (oC, (1, .inr (.inl oF))))] H) (hD : va_D (fun q : Nat => s.heap.size ≤ q) [(x, .inr (12, xg)), (chA, .inl (chC, (4, .inr (.inr (.inr (.inr chF)))))), (ch0, .inr (2, chg0)), (ch1, .inr (2, chg1)), (ch2, .inr (2, chg2)), (ch3, .inr (2, chg3)), (m0, .inr (13, mg)), (mcA, .inl (mcC, (4, .inl (fun _ => 0)))), (oA, .inl (oC, (1, .inr (.inl oF))))]) (hS : va_S (fun q : Nat => s.heap.size ≤ q) s.heap H locs) (ls : Array Slot) (hl : lv_has ls 7 [(0, .ref b), (1, .ref x), (2, .ref m0), (3, .ref oA), (4, .int 0)]) : W p l e room_1 s m #[Value.ref b] below meth c H locs 451 2709142 (lw_Z below #[Value.ref b] s) (F0 m 2052 ls []) := by
  obtain ⟨hx, hb, hr, hml, hown, hts0, hX, hbl, hlocks, hgv⟩ := id C0
  have hts : ∀ w ∈ BG, w.before _ s = true := fun w h => hts0 w (List.mem_filter.mp h).1
  have hown : s.vm.findClass RL = some m.cls := hown
  have hA : ∀ q : Nat, s.heap.size ≤ q → (fun q : Nat => s.heap.size ≤ q) q := fun _ h => h
  have hbA : ¬ (fun q : Nat => s.heap.size ≤ q) b := Nat.not_le.mpr hbl
  refine lv_aload_n hx hb dL_law_2052 rfl (lv_at hl 1 rfl) ?_
  refine lv_aload_n hx hb dL_law_2053 rfl (lv_at hl 0 rfl) ?_
  refine lv_iload hx hb dL_law_2054 (lv_at hl 4 rfl) ?_
  refine lv_iconst (v := 1) hx hb dL_law_2056 (by decide +kernel) ?_
  refine lv_iadd hx hb dL_law_2057 ?_
  refine va_sld hx hb hX hbl hbA hS vi_1 dL_law_2058 ?_
  refine lv_aload_n hx hb dL_law_2059 rfl (lv_at hl 0 rfl) ?_
  refine lv_iload hx hb dL_law_2060 (lv_at hl 4 rfl) ?_
  refine lv_iconst (v := 2) hx hb dL_law_2062 (by decide +kernel) ?_
  refine lv_iadd hx hb dL_law_2063 ?_
  refine va_sld hx hb hX hbl hbA hS vi_2 dL_law_2064 ?_
  refine lv_aload_n hx hb dL_law_2065 rfl (lv_at hl 0 rfl) ?_
  refine lv_iload hx hb dL_law_2066 (lv_at hl 4 rfl) ?_
  refine lv_iconst (v := 3) hx hb dL_law_2068 (by decide +kernel) ?_
  refine lv_iadd hx hb dL_law_2069 ?_
  refine va_sld hx hb hX hbl hbA hS vi_3 dL_law_2070 ?_
  refine lv_aload_n hx hb dL_law_2071 rfl (lv_at hl 3 rfl) ?_
  have hPc := hP.sub (ws' := [(x, .inr (12, xg)), (chA, .inl (chC, (4, .inr (.inr (.inr (.inr chF)))))), (ch0, .inr (2, chg0)), (ch1, .inr (2, chg1)), (ch2, .inr (2, chg2)), (ch3, .inr (2, chg3)), (oA, .inl (oC, (1, .inr (.inl oF))))]) [0, 1, 2, 3, 4, 5, 8] rfl
  have hDc := hD.sub (ws' := [(x, .inr (12, xg)), (chA, .inl (chC, (4, .inr (.inr (.inr (.inr chF)))))), (ch0, .inr (2, chg0)), (ch1, .inr (2, chg1)), (ch2, .inr (2, chg2)), (ch3, .inr (2, chg3)), (oA, .inl (oC, (1, .inr (.inl oF))))]) [0, 1, 2, 3, 4, 5, 8] (by decide) rfl
  have hKc := hK.sub (tys' := [(chC, .object "ChipFlow$Chip"), (oC, .long)]) [0, 2] rfl
  have hFc := va_free (wc := [(x, .inr (12, xg)), (chA, .inl (chC, (4, .inr (.inr (.inr (.inr chF)))))), (ch0, .inr (2, chg0)), (ch1, .inr (2, chg1)), (ch2, .inr (2, chg2)), (ch3, .inr (2, chg3)), (oA, .inl (oC, (1, .inr (.inl oF))))]) hD hS hA [0, 1, 2, 3, 4, 5, 8] rfl
  refine va_calli (vx_runSW (As := [.ref x, .int (xs ((0 : Int32) + 1).toNatClampNeg), .int (xs ((0 : Int32) + 2).toNatClampNeg), .int (xs ((0 : Int32) + 3).toNatClampNeg), .ref oA]) (rest := []) ⟨hx, hb, hml, hown, hts⟩ (ct_L_at l hlt dC dI H.size (xs ((0 : Int32) + 1).toNatClampNeg) (xs ((0 : Int32) + 2).toNatClampNeg) (xs ((0 : Int32) + 3).toNatClampNeg) x xg chA chC chF ch0 ch1 ch2 ch3 chg0 chg1 chg2 chg3 hchg0 hchF0 hchg1 hchF1 hchg2 hchF2 hchg3 hchF3 oA oC oF hxg) (vx_cwSW 5 hts (gi_W wd_2227 wd_2228 wd_326 wd_2229) rfl rfl rfl (by decide +kernel) ⟨(Nat.le_of_ble_eq_true rfl), (Nat.le_of_ble_eq_true rfl)⟩) ⟨fun a U g mk q => by obtain ⟨q0, q1, qP, qK, qD, qT⟩ := q; exact ⟨q0, q1, qP, va_K.moved (u := U) (U := U.calling g mk a) (Vm.Alike.refl U.vm) qK, qD, th.moved (u := U) (U := U.calling g mk a) (Vm.Alike.refl U.vm) qT⟩, fun U hU hW => ⟨rfl, by rw [hU], by rw [hU]; exact hPc, va_K.moved hW.alike hKc, hDc.weaken (fun _ _ _ _ => trivial), by rw [hU]; exact ((hth.kept hS.2.1).narrow hFc).moved hW.alike⟩⟩ rfl rfl hl.1 rfl (lv_room (Nat.le_of_ble_eq_true rfl)) dL_law_2072 ⟨(Nat.le_of_ble_eq_true rfl), (Nat.le_of_ble_eq_true rfl)⟩) hS (fun q _ h => hFc q h) hFc (fun r u t H1 locs ht hvm hw hB hz1 hk1 hS => ?_)
  subst hw
  obtain ⟨hP1, -, hD1⟩ := hB
  rw [ht] at hP1
  obtain ⟨hP, hD⟩ := va_join (wr := [(m0, .inr (13, mg)), (mcA, .inl (mcC, (4, .inl (fun _ => 0))))]) (w1 := [(oA, .inl (oC, (1, .inr (.inl oF))))]) hP hD [0, 1, 2, 3, 4, 5, 8] [6, 7] rfl rfl (by decide) (by decide) hk1 hFc hP1 hD1
  have hP := hP.sub (ws' := [(m0, .inr (13, mg)), (mcA, .inl (mcC, (4, .inl (fun _ => 0))))]) [0, 1] rfl
  have hD := hD.sub (ws' := [(m0, .inr (13, mg)), (mcA, .inl (mcC, (4, .inl (fun _ => 0))))]) [0, 1] (by decide) rfl
  have hK := hK.sub (tys' := [(mcC, .boolean)]) [1] rfl
  generalize H1 = H at hP hS ⊢
  refine W.widen (k := 452) (n := 2709148) (Nat.le_of_ble_eq_true rfl) (Nat.le_of_ble_eq_true rfl) ?_
  refine lv_istore (lv' := [(5, .int 1), (0, .ref b), (1, .ref x), (2, .ref m0), (3, .ref oA), (4, .int 0)]) hx hb dL_law_2075 hl (by decide) rfl (fun ls hl => ?_)
  refine lv_aload_n hx hb dL_law_2077 rfl (lv_at hl 3 rfl) ?_
  refine lv_aload_n hx hb dL_law_2078 rfl (lv_at hl 1 rfl) ?_
  refine lv_iload hx hb dL_law_2079 (lv_at hl 5 rfl) ?_
  refine lv_iconst (v := 1) hx hb dL_law_2081 (by decide +kernel) ?_
  refine lv_iadd hx hb dL_law_2082 ?_
  refine va_sld hx hb hX hbl hbA hS vi_1 dL_law_2083 ?_
  refine lv_aload_n hx hb dL_law_2084 rfl (lv_at hl 1 rfl) ?_
  refine lv_iload hx hb dL_law_2085 (lv_at hl 5 rfl) ?_
  refine lv_iconst (v := 2) hx hb dL_law_2087 (by decide +kernel) ?_
  refine lv_iadd hx hb dL_law_2088 ?_
  refine va_sld hx hb hX hbl hbA hS vi_2 dL_law_2089 ?_
  refine lv_aload_n hx hb dL_law_2090 rfl (lv_at hl 1 rfl) ?_
  refine lv_iload hx hb dL_law_2091 (lv_at hl 5 rfl) ?_
  refine lv_iconst (v := 3) hx hb dL_law_2093 (by decide +kernel) ?_
  refine lv_iadd hx hb dL_law_2094 ?_
  refine va_sld hx hb hX hbl hbA hS vi_3 dL_law_2095 ?_
  have hFc := va_free (wc := [(m0, .inr (13, mg)), (mcA, .inl (mcC, (4, .inl (fun _ => 0))))]) hD hS hA [0, 1] rfl
  refine va_calli (va_runV (As := [.int (xs ((0 : Int32) + 1).toNatClampNeg), .int (xs ((0 : Int32) + 2).toNatClampNeg), .int (xs ((0 : Int32) + 3).toNatClampNeg)]) (rest := []) ⟨hx, hb, hml, hown, hts⟩ (ct_X13_at l dC dI _ (xs ((0 : Int32) + 1).toNatClampNeg) (xs ((0 : Int32) + 2).toNatClampNeg) (xs ((0 : Int32) + 3).toNatClampNeg) m0 mg mcA mcC hmg) (cwV 3 hts (gi_V wd_4349 wd_4350 wd_4351 wd_340 wd_4352) rfl rfl rfl (by decide +kernel) ⟨(Nat.le_of_ble_eq_true rfl), (Nat.le_of_ble_eq_true rfl)⟩) ⟨fun a U g mk q => by obtain ⟨q0, q1, qP, qK, qD⟩ := q; exact ⟨q0, q1, qP, va_K.moved (u := U) (U := U.calling g mk a) (Vm.Alike.refl U.vm) qK, qD⟩, va_recv hK hP (ci := 13) (q0 := 0) rfl rfl, fun U hU hW => ⟨rfl, by rw [hU], by rw [hU]; exact hP, va_K.moved hW.alike hK, hD.weaken (fun _ _ _ _ => trivial)⟩⟩ rfl rfl hl.1 rfl (lv_room (Nat.le_of_ble_eq_true rfl)) dL_law_2096 ⟨(Nat.le_of_ble_eq_true rfl), (Nat.le_of_ble_eq_true rfl)⟩) hS (fun q _ h => hFc q h) hFc (fun r u t H1 locs ht hvm hw hB hz1 hk1 hS => ?_)
  subst hw
  obtain ⟨mg1, hmg1, hP1, hK1, hD1⟩ := hB
  rw [ht] at hP1
  have hK1 := va_K.moved hvm.symm hK1
  have hD1 := hD1.weaken (fun k q _ h => hFc q.1 h)
  generalize H1 = H at hP1 hS ⊢
  refine lv_istore (lv' := [(6, .int 0), (5, .int 1), (0, .ref b), (1, .ref x), (2, .ref m0), (3, .ref oA), (4, .int 0)]) hx hb dL_law_2099 hl (by decide) rfl (fun ls hl => ?_)
  refine lv_aload_n hx hb dL_law_2101 rfl (lv_at hl 4 rfl) ?_
  have hFc := va_free (wc := [(m0, .inr (13, mg1))]) hD1 hS hA [0] rfl
  refine va_calli (va_runV (As := []) (rest := []) ⟨hx, hb, hml, hown, hts⟩ (ct_X13_thrown l dC dI _ 1 m0 mg1 hmg1) (cwV 0 hts (gi_V wd_3015 wd_3016 wd_3017 wd_340 wd_3018) rfl rfl rfl (by decide +kernel) ⟨(Nat.le_of_ble_eq_true rfl), (Nat.le_of_ble_eq_true rfl)⟩) ⟨fun a U g mk q => by obtain ⟨q0, q1, qP, qK, qD⟩ := q; exact ⟨q0, q1, qP, va_K.moved (u := U) (U := U.calling g mk a) (Vm.Alike.refl U.vm) qK, qD⟩, va_recv hK1 hP1 (ci := 13) (q0 := 0) rfl rfl, fun U hU hW => ⟨rfl, by rw [hU], by rw [hU]; exact hP1, va_K.moved hW.alike hK1, hD1.weaken (fun _ _ _ _ => trivial)⟩⟩ rfl rfl hl.1 rfl (lv_room (Nat.le_of_ble_eq_true rfl)) dL_law_2102 ⟨(Nat.le_of_ble_eq_true rfl), (Nat.le_of_ble_eq_true rfl)⟩) hS (fun q _ h => hFc q h) hFc (fun r u t H1 locs ht hvm hw hB hz1 hk1 hS => ?_)
  subst hw
  refine lv_iload hx hb dL_law_2105 (lv_at hl 1 rfl) ?_
  refine lv_icmp_eq (tgt := 2112) hx hb dL_law_2107 (by decide) (fun c9 => ?_) (fun c9 => ?_)
  rotate_left
  · first | exact absurd c9 (by decide +kernel) | exact absurd (by decide +kernel) c9
  refine lv_iload hx hb dL_law_2112 (lv_at hl 1 rfl) ?_
  refine lv_if_ne (tgt := 2129) hx hb dL_law_2114 (by decide) (fun c9 => ?_) (fun c9 => ?_)
  rotate_left
  · first | exact absurd c9 (by decide +kernel) | exact absurd (by decide +kernel) c9
  refine lv_goto (tgt := 4099) hx hb dL_law_2129 (by decide) ?_
  refine W.widen (k := 470) (n := 2709300) (Nat.le_of_ble_eq_true rfl) (Nat.le_of_ble_eq_true rfl) ?_
  exact law_tail (v5 := 0) (v6 := 0) (lv := []) C0 hS (lv_sub hl [2, 6] rfl)
set_option maxHeartbeats 4000000 in
set_option maxRecDepth 100000 in
theorem law_move {p : Program} {l : Launch} {e : Env} {s : State} {m : MethodId} {below : List Frame} {meth : Method} {c : Code} {b : Nat} {xs : Nat → Int32} (C0 : lw_At p s m meth c b 7 xs) {dC : Nat → ClassId} {dI : Nat → Nat → Nat} (hlt : l.stackTraces = false) (hth : th (fun q : Nat => s.heap.size ≤ q) s s.heap) (x : Nat) (xg : List Value) (chA : Nat) (chC : ClassId) (chF : Nat → Option Nat) (ch0 ch1 ch2 ch3 : Nat) (chg0 chg1 chg2 chg3 : List Value) (hchg0 : fx chg0 20 [(0, .int 0)]) (hchF0 : chF 0 = some ch0) (hchg1 : fx chg1 20 [(0, .int 0)]) (hchF1 : chF 1 = some ch1) (hchg2 : fx chg2 20 [(0, .int 0)]) (hchF2 : chF 2 = some ch2) (hchg3 : fx chg3 20 [(0, .int 0)]) (hchF3 : chF 3 = some ch3) (m0 : Nat) (mg : List Value) (mcA : Nat) (mcC : ClassId) (oA : Nat) (oC : ClassId) (oF : Nat → Int64) (hxg : fx xg 17 [(9, .ref chA)]) (hmg : fx mg 225 [(138, .ref mcA)]) (H : Heap) (locs : List Loc) (hK : va_K (dC, dI) CL [(chC, .object "ChipFlow$Chip"), (mcC, .boolean), (oC, .long)] s) (hP : va_P (dC, dI) CL [(x, .inr (12, xg)), (chA, .inl (chC, (4, .inr (.inr (.inr (.inr chF)))))), (ch0, .inr (2, chg0)), (ch1, .inr (2, chg1)), (ch2, .inr (2, chg2)), (ch3, .inr (2, chg3)), (m0, .inr (13, mg)), (mcA, .inl (mcC, (4, .inl (fun _ => 0)))), (oA, .inl (oC, (1, .inr (.inl oF))))] H) (hD : va_D (fun q : Nat => s.heap.size ≤ q) [(x, .inr (12, xg)), (chA, .inl (chC, (4, .inr (.inr (.inr (.inr chF)))))), (ch0, .inr (2, chg0)), (ch1, .inr (2, chg1)), (ch2, .inr (2, chg2)), (ch3, .inr (2, chg3)), (m0, .inr (13, mg)), (mcA, .inl (mcC, (4, .inl (fun _ => 0)))), (oA, .inl (oC, (1, .inr (.inl oF))))]) (hS : va_S (fun q : Nat => s.heap.size ≤ q) s.heap H locs) (ls : Array Slot) (hl : lv_has ls 7 [(0, .ref b), (1, .ref x), (2, .ref m0), (3, .ref oA), (4, .int 0)]) : W p l e room_1 s m #[Value.ref b] below meth c H locs 451 2709142 (lw_Z below #[Value.ref b] s) (F0 m 2132 ls []) := by
  obtain ⟨hx, hb, hr, hml, hown, hts0, hX, hbl, hlocks, hgv⟩ := id C0
  have hts : ∀ w ∈ BG, w.before _ s = true := fun w h => hts0 w (List.mem_filter.mp h).1
  have hown : s.vm.findClass RL = some m.cls := hown
  have hA : ∀ q : Nat, s.heap.size ≤ q → (fun q : Nat => s.heap.size ≤ q) q := fun _ h => h
  have hbA : ¬ (fun q : Nat => s.heap.size ≤ q) b := Nat.not_le.mpr hbl
  refine lv_aload_n hx hb dL_law_2132 rfl (lv_at hl 1 rfl) ?_
  refine lv_aload_n hx hb dL_law_2133 rfl (lv_at hl 0 rfl) ?_
  refine lv_iload hx hb dL_law_2134 (lv_at hl 4 rfl) ?_
  refine lv_iconst (v := 1) hx hb dL_law_2136 (by decide +kernel) ?_
  refine lv_iadd hx hb dL_law_2137 ?_
  refine va_sld hx hb hX hbl hbA hS vi_1 dL_law_2138 ?_
  refine lv_aload_n hx hb dL_law_2139 rfl (lv_at hl 0 rfl) ?_
  refine lv_iload hx hb dL_law_2140 (lv_at hl 4 rfl) ?_
  refine lv_iconst (v := 2) hx hb dL_law_2142 (by decide +kernel) ?_
  refine lv_iadd hx hb dL_law_2143 ?_
  refine va_sld hx hb hX hbl hbA hS vi_2 dL_law_2144 ?_
  refine lv_aload_n hx hb dL_law_2145 rfl (lv_at hl 0 rfl) ?_
  refine lv_iload hx hb dL_law_2146 (lv_at hl 4 rfl) ?_
  refine lv_iconst (v := 3) hx hb dL_law_2148 (by decide +kernel) ?_
  refine lv_iadd hx hb dL_law_2149 ?_
  refine va_sld hx hb hX hbl hbA hS vi_3 dL_law_2150 ?_
  refine lv_aload_n hx hb dL_law_2151 rfl (lv_at hl 0 rfl) ?_
  refine lv_iload hx hb dL_law_2152 (lv_at hl 4 rfl) ?_
  refine lv_iconst (v := 4) hx hb dL_law_2154 (by decide +kernel) ?_
  refine lv_iadd hx hb dL_law_2155 ?_
  refine va_sld hx hb hX hbl hbA hS vi_4 dL_law_2156 ?_
  refine lv_aload_n hx hb dL_law_2157 rfl (lv_at hl 3 rfl) ?_
  have hPc := hP.sub (ws' := [(x, .inr (12, xg)), (chA, .inl (chC, (4, .inr (.inr (.inr (.inr chF)))))), (ch0, .inr (2, chg0)), (ch1, .inr (2, chg1)), (ch2, .inr (2, chg2)), (ch3, .inr (2, chg3)), (oA, .inl (oC, (1, .inr (.inl oF))))]) [0, 1, 2, 3, 4, 5, 8] rfl
  have hDc := hD.sub (ws' := [(x, .inr (12, xg)), (chA, .inl (chC, (4, .inr (.inr (.inr (.inr chF)))))), (ch0, .inr (2, chg0)), (ch1, .inr (2, chg1)), (ch2, .inr (2, chg2)), (ch3, .inr (2, chg3)), (oA, .inl (oC, (1, .inr (.inl oF))))]) [0, 1, 2, 3, 4, 5, 8] (by decide) rfl
  have hKc := hK.sub (tys' := [(chC, .object "ChipFlow$Chip"), (oC, .long)]) [0, 2] rfl
  have hFc := va_free (wc := [(x, .inr (12, xg)), (chA, .inl (chC, (4, .inr (.inr (.inr (.inr chF)))))), (ch0, .inr (2, chg0)), (ch1, .inr (2, chg1)), (ch2, .inr (2, chg2)), (ch3, .inr (2, chg3)), (oA, .inl (oC, (1, .inr (.inl oF))))]) hD hS hA [0, 1, 2, 3, 4, 5, 8] rfl
  refine va_calli (vx_runSW (As := [.ref x, .int (xs ((0 : Int32) + 1).toNatClampNeg), .int (xs ((0 : Int32) + 2).toNatClampNeg), .int (xs ((0 : Int32) + 3).toNatClampNeg), .int (xs ((0 : Int32) + 4).toNatClampNeg), .ref oA]) (rest := []) ⟨hx, hb, hml, hown, hts⟩ (ct_L_move l hlt dC dI H.size (xs ((0 : Int32) + 1).toNatClampNeg) (xs ((0 : Int32) + 2).toNatClampNeg) (xs ((0 : Int32) + 3).toNatClampNeg) (xs ((0 : Int32) + 4).toNatClampNeg) x xg chA chC chF ch0 ch1 ch2 ch3 chg0 chg1 chg2 chg3 hchg0 hchF0 hchg1 hchF1 hchg2 hchF2 hchg3 hchF3 oA oC oF hxg) (vx_cwSW 6 hts (gi_W wd_2239 wd_2240 wd_326 wd_2241) rfl rfl rfl (by decide +kernel) ⟨(Nat.le_of_ble_eq_true rfl), (Nat.le_of_ble_eq_true rfl)⟩) ⟨fun a U g mk q => by obtain ⟨q0, q1, qP, qK, qD, qT⟩ := q; exact ⟨q0, q1, qP, va_K.moved (u := U) (U := U.calling g mk a) (Vm.Alike.refl U.vm) qK, qD, th.moved (u := U) (U := U.calling g mk a) (Vm.Alike.refl U.vm) qT⟩, fun U hU hW => ⟨rfl, by rw [hU], by rw [hU]; exact hPc, va_K.moved hW.alike hKc, hDc.weaken (fun _ _ _ _ => trivial), by rw [hU]; exact ((hth.kept hS.2.1).narrow hFc).moved hW.alike⟩⟩ rfl rfl hl.1 rfl (lv_room (Nat.le_of_ble_eq_true rfl)) dL_law_2158 ⟨(Nat.le_of_ble_eq_true rfl), (Nat.le_of_ble_eq_true rfl)⟩) hS (fun q _ h => hFc q h) hFc (fun r u t H1 locs ht hvm hw hB hz1 hk1 hS => ?_)
  subst hw
  obtain ⟨hP1, -, hD1⟩ := hB
  rw [ht] at hP1
  obtain ⟨hP, hD⟩ := va_join (wr := [(m0, .inr (13, mg)), (mcA, .inl (mcC, (4, .inl (fun _ => 0))))]) (w1 := [(oA, .inl (oC, (1, .inr (.inl oF))))]) hP hD [0, 1, 2, 3, 4, 5, 8] [6, 7] rfl rfl (by decide) (by decide) hk1 hFc hP1 hD1
  have hP := hP.sub (ws' := [(m0, .inr (13, mg)), (mcA, .inl (mcC, (4, .inl (fun _ => 0))))]) [0, 1] rfl
  have hD := hD.sub (ws' := [(m0, .inr (13, mg)), (mcA, .inl (mcC, (4, .inl (fun _ => 0))))]) [0, 1] (by decide) rfl
  have hK := hK.sub (tys' := [(mcC, .boolean)]) [1] rfl
  generalize H1 = H at hP hS ⊢
  refine W.widen (k := 452) (n := 2709148) (Nat.le_of_ble_eq_true rfl) (Nat.le_of_ble_eq_true rfl) ?_
  refine lv_istore (lv' := [(5, .int 1), (0, .ref b), (1, .ref x), (2, .ref m0), (3, .ref oA), (4, .int 0)]) hx hb dL_law_2161 hl (by decide) rfl (fun ls hl => ?_)
  refine lv_aload_n hx hb dL_law_2163 rfl (lv_at hl 3 rfl) ?_
  refine lv_aload_n hx hb dL_law_2164 rfl (lv_at hl 1 rfl) ?_
  refine lv_iload hx hb dL_law_2165 (lv_at hl 5 rfl) ?_
  refine lv_iconst (v := 1) hx hb dL_law_2167 (by decide +kernel) ?_
  refine lv_iadd hx hb dL_law_2168 ?_
  refine va_sld hx hb hX hbl hbA hS vi_1 dL_law_2169 ?_
  refine lv_aload_n hx hb dL_law_2170 rfl (lv_at hl 1 rfl) ?_
  refine lv_iload hx hb dL_law_2171 (lv_at hl 5 rfl) ?_
  refine lv_iconst (v := 2) hx hb dL_law_2173 (by decide +kernel) ?_
  refine lv_iadd hx hb dL_law_2174 ?_
  refine va_sld hx hb hX hbl hbA hS vi_2 dL_law_2175 ?_
  refine lv_aload_n hx hb dL_law_2176 rfl (lv_at hl 1 rfl) ?_
  refine lv_iload hx hb dL_law_2177 (lv_at hl 5 rfl) ?_
  refine lv_iconst (v := 3) hx hb dL_law_2179 (by decide +kernel) ?_
  refine lv_iadd hx hb dL_law_2180 ?_
  refine va_sld hx hb hX hbl hbA hS vi_3 dL_law_2181 ?_
  refine lv_aload_n hx hb dL_law_2182 rfl (lv_at hl 1 rfl) ?_
  refine lv_iload hx hb dL_law_2183 (lv_at hl 5 rfl) ?_
  refine lv_iconst (v := 4) hx hb dL_law_2185 (by decide +kernel) ?_
  refine lv_iadd hx hb dL_law_2186 ?_
  refine va_sld hx hb hX hbl hbA hS vi_4 dL_law_2187 ?_
  have hFc := va_free (wc := [(m0, .inr (13, mg)), (mcA, .inl (mcC, (4, .inl (fun _ => 0))))]) hD hS hA [0, 1] rfl
  refine va_calli (va_runV (As := [.int (xs ((0 : Int32) + 1).toNatClampNeg), .int (xs ((0 : Int32) + 2).toNatClampNeg), .int (xs ((0 : Int32) + 3).toNatClampNeg), .int (xs ((0 : Int32) + 4).toNatClampNeg)]) (rest := []) ⟨hx, hb, hml, hown, hts⟩ (ct_X13_move l dC dI _ (xs ((0 : Int32) + 1).toNatClampNeg) (xs ((0 : Int32) + 2).toNatClampNeg) (xs ((0 : Int32) + 3).toNatClampNeg) (xs ((0 : Int32) + 4).toNatClampNeg) m0 mg mcA mcC hmg) (cwV 4 hts (gi_V wd_4357 wd_4358 wd_4359 wd_340 wd_4360) rfl rfl rfl (by decide +kernel) ⟨(Nat.le_of_ble_eq_true rfl), (Nat.le_of_ble_eq_true rfl)⟩) ⟨fun a U g mk q => by obtain ⟨q0, q1, qP, qK, qD⟩ := q; exact ⟨q0, q1, qP, va_K.moved (u := U) (U := U.calling g mk a) (Vm.Alike.refl U.vm) qK, qD⟩, va_recv hK hP (ci := 13) (q0 := 0) rfl rfl, fun U hU hW => ⟨rfl, by rw [hU], by rw [hU]; exact hP, va_K.moved hW.alike hK, hD.weaken (fun _ _ _ _ => trivial)⟩⟩ rfl rfl hl.1 rfl (lv_room (Nat.le_of_ble_eq_true rfl)) dL_law_2188 ⟨(Nat.le_of_ble_eq_true rfl), (Nat.le_of_ble_eq_true rfl)⟩) hS (fun q _ h => hFc q h) hFc (fun r u t H1 locs ht hvm hw hB hz1 hk1 hS => ?_)
  subst hw
  obtain ⟨mg1, hmg1, hP1, hK1, hD1⟩ := hB
  rw [ht] at hP1
  have hK1 := va_K.moved hvm.symm hK1
  have hD1 := hD1.weaken (fun k q _ h => hFc q.1 h)
  generalize H1 = H at hP1 hS ⊢
  refine lv_istore (lv' := [(6, .int 0), (5, .int 1), (0, .ref b), (1, .ref x), (2, .ref m0), (3, .ref oA), (4, .int 0)]) hx hb dL_law_2191 hl (by decide) rfl (fun ls hl => ?_)
  refine lv_aload_n hx hb dL_law_2193 rfl (lv_at hl 4 rfl) ?_
  have hFc := va_free (wc := [(m0, .inr (13, mg1))]) hD1 hS hA [0] rfl
  refine va_calli (va_runV (As := []) (rest := []) ⟨hx, hb, hml, hown, hts⟩ (ct_X13_thrown l dC dI _ 1 m0 mg1 hmg1) (cwV 0 hts (gi_V wd_3015 wd_3016 wd_3017 wd_340 wd_3018) rfl rfl rfl (by decide +kernel) ⟨(Nat.le_of_ble_eq_true rfl), (Nat.le_of_ble_eq_true rfl)⟩) ⟨fun a U g mk q => by obtain ⟨q0, q1, qP, qK, qD⟩ := q; exact ⟨q0, q1, qP, va_K.moved (u := U) (U := U.calling g mk a) (Vm.Alike.refl U.vm) qK, qD⟩, va_recv hK1 hP1 (ci := 13) (q0 := 0) rfl rfl, fun U hU hW => ⟨rfl, by rw [hU], by rw [hU]; exact hP1, va_K.moved hW.alike hK1, hD1.weaken (fun _ _ _ _ => trivial)⟩⟩ rfl rfl hl.1 rfl (lv_room (Nat.le_of_ble_eq_true rfl)) dL_law_2194 ⟨(Nat.le_of_ble_eq_true rfl), (Nat.le_of_ble_eq_true rfl)⟩) hS (fun q _ h => hFc q h) hFc (fun r u t H1 locs ht hvm hw hB hz1 hk1 hS => ?_)
  subst hw
  refine lv_iload hx hb dL_law_2197 (lv_at hl 1 rfl) ?_
  refine lv_icmp_eq (tgt := 2204) hx hb dL_law_2199 (by decide) (fun c9 => ?_) (fun c9 => ?_)
  rotate_left
  · first | exact absurd c9 (by decide +kernel) | exact absurd (by decide +kernel) c9
  refine lv_iload hx hb dL_law_2204 (lv_at hl 1 rfl) ?_
  refine lv_if_ne (tgt := 2228) hx hb dL_law_2206 (by decide) (fun c9 => ?_) (fun c9 => ?_)
  rotate_left
  · first | exact absurd c9 (by decide +kernel) | exact absurd (by decide +kernel) c9
  refine lv_goto (tgt := 4099) hx hb dL_law_2228 (by decide) ?_
  refine W.widen (k := 470) (n := 2709300) (Nat.le_of_ble_eq_true rfl) (Nat.le_of_ble_eq_true rfl) ?_
  exact law_tail (v5 := 0) (v6 := 0) (lv := []) C0 hS (lv_sub hl [2, 6] rfl)
set_option maxHeartbeats 4000000 in
set_option maxRecDepth 100000 in
theorem law_improve {p : Program} {l : Launch} {e : Env} {s : State} {m : MethodId} {below : List Frame} {meth : Method} {c : Code} {b : Nat} {xs : Nat → Int32} (C0 : lw_At p s m meth c b 7 xs) {dC : Nat → ClassId} {dI : Nat → Nat → Nat} (hlt : l.stackTraces = false) (hth : th (fun q : Nat => s.heap.size ≤ q) s s.heap) (x : Nat) (xg : List Value) (chA : Nat) (chC : ClassId) (chF : Nat → Option Nat) (ch0 ch1 ch2 ch3 : Nat) (chg0 chg1 chg2 chg3 : List Value) (hchg0 : fx chg0 20 [(0, .int 0)]) (hchF0 : chF 0 = some ch0) (hchg1 : fx chg1 20 [(0, .int 0)]) (hchF1 : chF 1 = some ch1) (hchg2 : fx chg2 20 [(0, .int 0)]) (hchF2 : chF 2 = some ch2) (hchg3 : fx chg3 20 [(0, .int 0)]) (hchF3 : chF 3 = some ch3) (m0 : Nat) (mg : List Value) (mcA : Nat) (mcC : ClassId) (oA : Nat) (oC : ClassId) (oF : Nat → Int64) (hxg : fx xg 17 [(9, .ref chA)]) (hmg : fx mg 225 [(138, .ref mcA)]) (H : Heap) (locs : List Loc) (hK : va_K (dC, dI) CL [(chC, .object "ChipFlow$Chip"), (mcC, .boolean), (oC, .long)] s) (hP : va_P (dC, dI) CL [(x, .inr (12, xg)), (chA, .inl (chC, (4, .inr (.inr (.inr (.inr chF)))))), (ch0, .inr (2, chg0)), (ch1, .inr (2, chg1)), (ch2, .inr (2, chg2)), (ch3, .inr (2, chg3)), (m0, .inr (13, mg)), (mcA, .inl (mcC, (4, .inl (fun _ => 0)))), (oA, .inl (oC, (1, .inr (.inl oF))))] H) (hD : va_D (fun q : Nat => s.heap.size ≤ q) [(x, .inr (12, xg)), (chA, .inl (chC, (4, .inr (.inr (.inr (.inr chF)))))), (ch0, .inr (2, chg0)), (ch1, .inr (2, chg1)), (ch2, .inr (2, chg2)), (ch3, .inr (2, chg3)), (m0, .inr (13, mg)), (mcA, .inl (mcC, (4, .inl (fun _ => 0)))), (oA, .inl (oC, (1, .inr (.inl oF))))]) (hS : va_S (fun q : Nat => s.heap.size ≤ q) s.heap H locs) (ls : Array Slot) (hl : lv_has ls 7 [(0, .ref b), (1, .ref x), (2, .ref m0), (3, .ref oA), (4, .int 0)]) : W p l e room_1 s m #[Value.ref b] below meth c H locs 451 2709142 (lw_Z below #[Value.ref b] s) (F0 m 2231 ls []) := by
  obtain ⟨hx, hb, hr, hml, hown, hts0, hX, hbl, hlocks, hgv⟩ := id C0
  have hts : ∀ w ∈ BG, w.before _ s = true := fun w h => hts0 w (List.mem_filter.mp h).1
  have hown : s.vm.findClass RL = some m.cls := hown
  have hA : ∀ q : Nat, s.heap.size ≤ q → (fun q : Nat => s.heap.size ≤ q) q := fun _ h => h
  have hbA : ¬ (fun q : Nat => s.heap.size ≤ q) b := Nat.not_le.mpr hbl
  refine lv_aload_n hx hb dL_law_2231 rfl (lv_at hl 1 rfl) ?_
  refine lv_aload_n hx hb dL_law_2232 rfl (lv_at hl 0 rfl) ?_
  refine lv_iload hx hb dL_law_2233 (lv_at hl 4 rfl) ?_
  refine lv_iconst (v := 1) hx hb dL_law_2235 (by decide +kernel) ?_
  refine lv_iadd hx hb dL_law_2236 ?_
  refine va_sld hx hb hX hbl hbA hS vi_1 dL_law_2237 ?_
  refine lv_aload_n hx hb dL_law_2238 rfl (lv_at hl 0 rfl) ?_
  refine lv_iload hx hb dL_law_2239 (lv_at hl 4 rfl) ?_
  refine lv_iconst (v := 2) hx hb dL_law_2241 (by decide +kernel) ?_
  refine lv_iadd hx hb dL_law_2242 ?_
  refine va_sld hx hb hX hbl hbA hS vi_2 dL_law_2243 ?_
  refine lv_aload_n hx hb dL_law_2244 rfl (lv_at hl 3 rfl) ?_
  have hPc := hP.sub (ws' := [(x, .inr (12, xg)), (chA, .inl (chC, (4, .inr (.inr (.inr (.inr chF)))))), (ch0, .inr (2, chg0)), (ch1, .inr (2, chg1)), (ch2, .inr (2, chg2)), (ch3, .inr (2, chg3)), (oA, .inl (oC, (1, .inr (.inl oF))))]) [0, 1, 2, 3, 4, 5, 8] rfl
  have hDc := hD.sub (ws' := [(x, .inr (12, xg)), (chA, .inl (chC, (4, .inr (.inr (.inr (.inr chF)))))), (ch0, .inr (2, chg0)), (ch1, .inr (2, chg1)), (ch2, .inr (2, chg2)), (ch3, .inr (2, chg3)), (oA, .inl (oC, (1, .inr (.inl oF))))]) [0, 1, 2, 3, 4, 5, 8] (by decide) rfl
  have hKc := hK.sub (tys' := [(chC, .object "ChipFlow$Chip"), (oC, .long)]) [0, 2] rfl
  have hFc := va_free (wc := [(x, .inr (12, xg)), (chA, .inl (chC, (4, .inr (.inr (.inr (.inr chF)))))), (ch0, .inr (2, chg0)), (ch1, .inr (2, chg1)), (ch2, .inr (2, chg2)), (ch3, .inr (2, chg3)), (oA, .inl (oC, (1, .inr (.inl oF))))]) hD hS hA [0, 1, 2, 3, 4, 5, 8] rfl
  refine va_calli (vx_runSW (As := [.ref x, .int (xs ((0 : Int32) + 1).toNatClampNeg), .int (xs ((0 : Int32) + 2).toNatClampNeg), .ref oA]) (rest := []) ⟨hx, hb, hml, hown, hts⟩ (ct_L_improve l hlt dC dI H.size (xs ((0 : Int32) + 1).toNatClampNeg) (xs ((0 : Int32) + 2).toNatClampNeg) x xg chA chC chF ch0 ch1 ch2 ch3 chg0 chg1 chg2 chg3 hchg0 hchF0 hchg1 hchF1 hchg2 hchF2 hchg3 hchF3 oA oC oF hxg) (vx_cwSW 4 hts (gi_W wd_2250 wd_2251 wd_326 wd_2252) rfl rfl rfl (by decide +kernel) ⟨(Nat.le_of_ble_eq_true rfl), (Nat.le_of_ble_eq_true rfl)⟩) ⟨fun a U g mk q => by obtain ⟨q0, q1, qP, qK, qD, qT⟩ := q; exact ⟨q0, q1, qP, va_K.moved (u := U) (U := U.calling g mk a) (Vm.Alike.refl U.vm) qK, qD, th.moved (u := U) (U := U.calling g mk a) (Vm.Alike.refl U.vm) qT⟩, fun U hU hW => ⟨rfl, by rw [hU], by rw [hU]; exact hPc, va_K.moved hW.alike hKc, hDc.weaken (fun _ _ _ _ => trivial), by rw [hU]; exact ((hth.kept hS.2.1).narrow hFc).moved hW.alike⟩⟩ rfl rfl hl.1 rfl (lv_room (Nat.le_of_ble_eq_true rfl)) dL_law_2245 ⟨(Nat.le_of_ble_eq_true rfl), (Nat.le_of_ble_eq_true rfl)⟩) hS (fun q _ h => hFc q h) hFc (fun r u t H1 locs ht hvm hw hB hz1 hk1 hS => ?_)
  subst hw
  obtain ⟨hP1, -, hD1⟩ := hB
  rw [ht] at hP1
  obtain ⟨hP, hD⟩ := va_join (wr := [(m0, .inr (13, mg)), (mcA, .inl (mcC, (4, .inl (fun _ => 0))))]) (w1 := [(oA, .inl (oC, (1, .inr (.inl oF))))]) hP hD [0, 1, 2, 3, 4, 5, 8] [6, 7] rfl rfl (by decide) (by decide) hk1 hFc hP1 hD1
  have hP := hP.sub (ws' := [(m0, .inr (13, mg)), (mcA, .inl (mcC, (4, .inl (fun _ => 0))))]) [0, 1] rfl
  have hD := hD.sub (ws' := [(m0, .inr (13, mg)), (mcA, .inl (mcC, (4, .inl (fun _ => 0))))]) [0, 1] (by decide) rfl
  have hK := hK.sub (tys' := [(mcC, .boolean)]) [1] rfl
  generalize H1 = H at hP hS ⊢
  refine W.widen (k := 452) (n := 2709148) (Nat.le_of_ble_eq_true rfl) (Nat.le_of_ble_eq_true rfl) ?_
  refine lv_istore (lv' := [(5, .int 1), (0, .ref b), (1, .ref x), (2, .ref m0), (3, .ref oA), (4, .int 0)]) hx hb dL_law_2248 hl (by decide) rfl (fun ls hl => ?_)
  refine lv_aload_n hx hb dL_law_2250 rfl (lv_at hl 3 rfl) ?_
  refine lv_aload_n hx hb dL_law_2251 rfl (lv_at hl 1 rfl) ?_
  refine lv_iload hx hb dL_law_2252 (lv_at hl 5 rfl) ?_
  refine lv_iconst (v := 1) hx hb dL_law_2254 (by decide +kernel) ?_
  refine lv_iadd hx hb dL_law_2255 ?_
  refine va_sld hx hb hX hbl hbA hS vi_1 dL_law_2256 ?_
  refine lv_aload_n hx hb dL_law_2257 rfl (lv_at hl 1 rfl) ?_
  refine lv_iload hx hb dL_law_2258 (lv_at hl 5 rfl) ?_
  refine lv_iconst (v := 2) hx hb dL_law_2260 (by decide +kernel) ?_
  refine lv_iadd hx hb dL_law_2261 ?_
  refine va_sld hx hb hX hbl hbA hS vi_2 dL_law_2262 ?_
  have hFc := va_free (wc := [(m0, .inr (13, mg)), (mcA, .inl (mcC, (4, .inl (fun _ => 0))))]) hD hS hA [0, 1] rfl
  refine va_calli (va_runV (As := [.int (xs ((0 : Int32) + 1).toNatClampNeg), .int (xs ((0 : Int32) + 2).toNatClampNeg)]) (rest := []) ⟨hx, hb, hml, hown, hts⟩ (ct_X13_improve l dC dI _ (xs ((0 : Int32) + 1).toNatClampNeg) (xs ((0 : Int32) + 2).toNatClampNeg) m0 mg mcA mcC hmg) (cwV 2 hts (gi_V wd_4361 wd_4362 wd_4363 wd_340 wd_4364) rfl rfl rfl (by decide +kernel) ⟨(Nat.le_of_ble_eq_true rfl), (Nat.le_of_ble_eq_true rfl)⟩) ⟨fun a U g mk q => by obtain ⟨q0, q1, qP, qK, qD⟩ := q; exact ⟨q0, q1, qP, va_K.moved (u := U) (U := U.calling g mk a) (Vm.Alike.refl U.vm) qK, qD⟩, va_recv hK hP (ci := 13) (q0 := 0) rfl rfl, fun U hU hW => ⟨rfl, by rw [hU], by rw [hU]; exact hP, va_K.moved hW.alike hK, hD.weaken (fun _ _ _ _ => trivial)⟩⟩ rfl rfl hl.1 rfl (lv_room (Nat.le_of_ble_eq_true rfl)) dL_law_2263 ⟨(Nat.le_of_ble_eq_true rfl), (Nat.le_of_ble_eq_true rfl)⟩) hS (fun q _ h => hFc q h) hFc (fun r u t H1 locs ht hvm hw hB hz1 hk1 hS => ?_)
  subst hw
  obtain ⟨mg1, hmg1, hP1, hK1, hD1⟩ := hB
  rw [ht] at hP1
  have hK1 := va_K.moved hvm.symm hK1
  have hD1 := hD1.weaken (fun k q _ h => hFc q.1 h)
  generalize H1 = H at hP1 hS ⊢
  refine lv_istore (lv' := [(6, .int 0), (5, .int 1), (0, .ref b), (1, .ref x), (2, .ref m0), (3, .ref oA), (4, .int 0)]) hx hb dL_law_2266 hl (by decide) rfl (fun ls hl => ?_)
  refine lv_aload_n hx hb dL_law_2268 rfl (lv_at hl 4 rfl) ?_
  have hFc := va_free (wc := [(m0, .inr (13, mg1))]) hD1 hS hA [0] rfl
  refine va_calli (va_runV (As := []) (rest := []) ⟨hx, hb, hml, hown, hts⟩ (ct_X13_thrown l dC dI _ 1 m0 mg1 hmg1) (cwV 0 hts (gi_V wd_3015 wd_3016 wd_3017 wd_340 wd_3018) rfl rfl rfl (by decide +kernel) ⟨(Nat.le_of_ble_eq_true rfl), (Nat.le_of_ble_eq_true rfl)⟩) ⟨fun a U g mk q => by obtain ⟨q0, q1, qP, qK, qD⟩ := q; exact ⟨q0, q1, qP, va_K.moved (u := U) (U := U.calling g mk a) (Vm.Alike.refl U.vm) qK, qD⟩, va_recv hK1 hP1 (ci := 13) (q0 := 0) rfl rfl, fun U hU hW => ⟨rfl, by rw [hU], by rw [hU]; exact hP1, va_K.moved hW.alike hK1, hD1.weaken (fun _ _ _ _ => trivial)⟩⟩ rfl rfl hl.1 rfl (lv_room (Nat.le_of_ble_eq_true rfl)) dL_law_2269 ⟨(Nat.le_of_ble_eq_true rfl), (Nat.le_of_ble_eq_true rfl)⟩) hS (fun q _ h => hFc q h) hFc (fun r u t H1 locs ht hvm hw hB hz1 hk1 hS => ?_)
  subst hw
  refine lv_iload hx hb dL_law_2272 (lv_at hl 1 rfl) ?_
  refine lv_icmp_eq (tgt := 2279) hx hb dL_law_2274 (by decide) (fun c9 => ?_) (fun c9 => ?_)
  rotate_left
  · first | exact absurd c9 (by decide +kernel) | exact absurd (by decide +kernel) c9
  refine lv_iload hx hb dL_law_2279 (lv_at hl 1 rfl) ?_
  refine lv_if_ne (tgt := 2296) hx hb dL_law_2281 (by decide) (fun c9 => ?_) (fun c9 => ?_)
  rotate_left
  · first | exact absurd c9 (by decide +kernel) | exact absurd (by decide +kernel) c9
  refine lv_goto (tgt := 4099) hx hb dL_law_2296 (by decide) ?_
  refine W.widen (k := 470) (n := 2709300) (Nat.le_of_ble_eq_true rfl) (Nat.le_of_ble_eq_true rfl) ?_
  exact law_tail (v5 := 0) (v6 := 0) (lv := []) C0 hS (lv_sub hl [2, 6] rfl)
set_option maxHeartbeats 4000000 in
set_option maxRecDepth 100000 in
theorem law_wire {p : Program} {l : Launch} {e : Env} {s : State} {m : MethodId} {below : List Frame} {meth : Method} {c : Code} {b : Nat} {xs : Nat → Int32} (C0 : lw_At p s m meth c b 7 xs) {dC : Nat → ClassId} {dI : Nat → Nat → Nat} (hlt : l.stackTraces = false) (hth : th (fun q : Nat => s.heap.size ≤ q) s s.heap) (x : Nat) (xg : List Value) (chA : Nat) (chC : ClassId) (chF : Nat → Option Nat) (ch0 ch1 ch2 ch3 : Nat) (chg0 chg1 chg2 chg3 : List Value) (hchg0 : fx chg0 20 [(0, .int 0)]) (hchF0 : chF 0 = some ch0) (hchg1 : fx chg1 20 [(0, .int 0)]) (hchF1 : chF 1 = some ch1) (hchg2 : fx chg2 20 [(0, .int 0)]) (hchF2 : chF 2 = some ch2) (hchg3 : fx chg3 20 [(0, .int 0)]) (hchF3 : chF 3 = some ch3) (m0 : Nat) (mg : List Value) (mcA : Nat) (mcC : ClassId) (oA : Nat) (oC : ClassId) (oF : Nat → Int64) (hxg : fx xg 17 [(9, .ref chA)]) (hmg : fx mg 225 [(138, .ref mcA)]) (H : Heap) (locs : List Loc) (hK : va_K (dC, dI) CL [(chC, .object "ChipFlow$Chip"), (mcC, .boolean), (oC, .long)] s) (hP : va_P (dC, dI) CL [(x, .inr (12, xg)), (chA, .inl (chC, (4, .inr (.inr (.inr (.inr chF)))))), (ch0, .inr (2, chg0)), (ch1, .inr (2, chg1)), (ch2, .inr (2, chg2)), (ch3, .inr (2, chg3)), (m0, .inr (13, mg)), (mcA, .inl (mcC, (4, .inl (fun _ => 0)))), (oA, .inl (oC, (1, .inr (.inl oF))))] H) (hD : va_D (fun q : Nat => s.heap.size ≤ q) [(x, .inr (12, xg)), (chA, .inl (chC, (4, .inr (.inr (.inr (.inr chF)))))), (ch0, .inr (2, chg0)), (ch1, .inr (2, chg1)), (ch2, .inr (2, chg2)), (ch3, .inr (2, chg3)), (m0, .inr (13, mg)), (mcA, .inl (mcC, (4, .inl (fun _ => 0)))), (oA, .inl (oC, (1, .inr (.inl oF))))]) (hS : va_S (fun q : Nat => s.heap.size ≤ q) s.heap H locs) (ls : Array Slot) (hl : lv_has ls 7 [(0, .ref b), (1, .ref x), (2, .ref m0), (3, .ref oA), (4, .int 0)]) : W p l e room_1 s m #[Value.ref b] below meth c H locs 451 2709142 (lw_Z below #[Value.ref b] s) (F0 m 2299 ls []) := by
  obtain ⟨hx, hb, hr, hml, hown, hts0, hX, hbl, hlocks, hgv⟩ := id C0
  have hts : ∀ w ∈ BG, w.before _ s = true := fun w h => hts0 w (List.mem_filter.mp h).1
  have hown : s.vm.findClass RL = some m.cls := hown
  have hA : ∀ q : Nat, s.heap.size ≤ q → (fun q : Nat => s.heap.size ≤ q) q := fun _ h => h
  have hbA : ¬ (fun q : Nat => s.heap.size ≤ q) b := Nat.not_le.mpr hbl
  refine lv_aload_n hx hb dL_law_2299 rfl (lv_at hl 1 rfl) ?_
  refine lv_aload_n hx hb dL_law_2300 rfl (lv_at hl 0 rfl) ?_
  refine lv_iload hx hb dL_law_2301 (lv_at hl 4 rfl) ?_
  refine lv_iconst (v := 1) hx hb dL_law_2303 (by decide +kernel) ?_
  refine lv_iadd hx hb dL_law_2304 ?_
  refine va_sld hx hb hX hbl hbA hS vi_1 dL_law_2305 ?_
  refine lv_aload_n hx hb dL_law_2306 rfl (lv_at hl 0 rfl) ?_
  refine lv_iload hx hb dL_law_2307 (lv_at hl 4 rfl) ?_
  refine lv_iconst (v := 2) hx hb dL_law_2309 (by decide +kernel) ?_
  refine lv_iadd hx hb dL_law_2310 ?_
  refine va_sld hx hb hX hbl hbA hS vi_2 dL_law_2311 ?_
  refine lv_aload_n hx hb dL_law_2312 rfl (lv_at hl 3 rfl) ?_
  have hPc := hP.sub (ws' := [(x, .inr (12, xg)), (chA, .inl (chC, (4, .inr (.inr (.inr (.inr chF)))))), (ch0, .inr (2, chg0)), (ch1, .inr (2, chg1)), (ch2, .inr (2, chg2)), (ch3, .inr (2, chg3)), (oA, .inl (oC, (1, .inr (.inl oF))))]) [0, 1, 2, 3, 4, 5, 8] rfl
  have hDc := hD.sub (ws' := [(x, .inr (12, xg)), (chA, .inl (chC, (4, .inr (.inr (.inr (.inr chF)))))), (ch0, .inr (2, chg0)), (ch1, .inr (2, chg1)), (ch2, .inr (2, chg2)), (ch3, .inr (2, chg3)), (oA, .inl (oC, (1, .inr (.inl oF))))]) [0, 1, 2, 3, 4, 5, 8] (by decide) rfl
  have hKc := hK.sub (tys' := [(chC, .object "ChipFlow$Chip"), (oC, .long)]) [0, 2] rfl
  have hFc := va_free (wc := [(x, .inr (12, xg)), (chA, .inl (chC, (4, .inr (.inr (.inr (.inr chF)))))), (ch0, .inr (2, chg0)), (ch1, .inr (2, chg1)), (ch2, .inr (2, chg2)), (ch3, .inr (2, chg3)), (oA, .inl (oC, (1, .inr (.inl oF))))]) hD hS hA [0, 1, 2, 3, 4, 5, 8] rfl
  refine va_calli (vx_runSW (As := [.ref x, .int (xs ((0 : Int32) + 1).toNatClampNeg), .int (xs ((0 : Int32) + 2).toNatClampNeg), .ref oA]) (rest := []) ⟨hx, hb, hml, hown, hts⟩ (ct_L_wire l hlt dC dI H.size (xs ((0 : Int32) + 1).toNatClampNeg) (xs ((0 : Int32) + 2).toNatClampNeg) x xg chA chC chF ch0 ch1 ch2 ch3 chg0 chg1 chg2 chg3 hchg0 hchF0 hchg1 hchF1 hchg2 hchF2 hchg3 hchF3 oA oC oF hxg) (vx_cwSW 4 hts (gi_W wd_2277 wd_2278 wd_326 wd_2279) rfl rfl rfl (by decide +kernel) ⟨(Nat.le_of_ble_eq_true rfl), (Nat.le_of_ble_eq_true rfl)⟩) ⟨fun a U g mk q => by obtain ⟨q0, q1, qP, qK, qD, qT⟩ := q; exact ⟨q0, q1, qP, va_K.moved (u := U) (U := U.calling g mk a) (Vm.Alike.refl U.vm) qK, qD, th.moved (u := U) (U := U.calling g mk a) (Vm.Alike.refl U.vm) qT⟩, fun U hU hW => ⟨rfl, by rw [hU], by rw [hU]; exact hPc, va_K.moved hW.alike hKc, hDc.weaken (fun _ _ _ _ => trivial), by rw [hU]; exact ((hth.kept hS.2.1).narrow hFc).moved hW.alike⟩⟩ rfl rfl hl.1 rfl (lv_room (Nat.le_of_ble_eq_true rfl)) dL_law_2313 ⟨(Nat.le_of_ble_eq_true rfl), (Nat.le_of_ble_eq_true rfl)⟩) hS (fun q _ h => hFc q h) hFc (fun r u t H1 locs ht hvm hw hB hz1 hk1 hS => ?_)
  subst hw
  obtain ⟨hP1, -, hD1⟩ := hB
  rw [ht] at hP1
  obtain ⟨hP, hD⟩ := va_join (wr := [(m0, .inr (13, mg)), (mcA, .inl (mcC, (4, .inl (fun _ => 0))))]) (w1 := [(oA, .inl (oC, (1, .inr (.inl oF))))]) hP hD [0, 1, 2, 3, 4, 5, 8] [6, 7] rfl rfl (by decide) (by decide) hk1 hFc hP1 hD1
  have hP := hP.sub (ws' := [(m0, .inr (13, mg)), (mcA, .inl (mcC, (4, .inl (fun _ => 0))))]) [0, 1] rfl
  have hD := hD.sub (ws' := [(m0, .inr (13, mg)), (mcA, .inl (mcC, (4, .inl (fun _ => 0))))]) [0, 1] (by decide) rfl
  have hK := hK.sub (tys' := [(mcC, .boolean)]) [1] rfl
  generalize H1 = H at hP hS ⊢
  refine W.widen (k := 452) (n := 2709148) (Nat.le_of_ble_eq_true rfl) (Nat.le_of_ble_eq_true rfl) ?_
  refine lv_istore (lv' := [(5, .int 1), (0, .ref b), (1, .ref x), (2, .ref m0), (3, .ref oA), (4, .int 0)]) hx hb dL_law_2316 hl (by decide) rfl (fun ls hl => ?_)
  refine lv_aload_n hx hb dL_law_2318 rfl (lv_at hl 3 rfl) ?_
  refine lv_aload_n hx hb dL_law_2319 rfl (lv_at hl 1 rfl) ?_
  refine lv_iload hx hb dL_law_2320 (lv_at hl 5 rfl) ?_
  refine lv_iconst (v := 1) hx hb dL_law_2322 (by decide +kernel) ?_
  refine lv_iadd hx hb dL_law_2323 ?_
  refine va_sld hx hb hX hbl hbA hS vi_1 dL_law_2324 ?_
  refine lv_aload_n hx hb dL_law_2325 rfl (lv_at hl 1 rfl) ?_
  refine lv_iload hx hb dL_law_2326 (lv_at hl 5 rfl) ?_
  refine lv_iconst (v := 2) hx hb dL_law_2328 (by decide +kernel) ?_
  refine lv_iadd hx hb dL_law_2329 ?_
  refine va_sld hx hb hX hbl hbA hS vi_2 dL_law_2330 ?_
  have hFc := va_free (wc := [(m0, .inr (13, mg)), (mcA, .inl (mcC, (4, .inl (fun _ => 0))))]) hD hS hA [0, 1] rfl
  refine va_calli (va_runV (As := [.int (xs ((0 : Int32) + 1).toNatClampNeg), .int (xs ((0 : Int32) + 2).toNatClampNeg)]) (rest := []) ⟨hx, hb, hml, hown, hts⟩ (ct_X13_wire l dC dI _ (xs ((0 : Int32) + 1).toNatClampNeg) (xs ((0 : Int32) + 2).toNatClampNeg) m0 mg mcA mcC hmg) (cwV 2 hts (gi_V wd_4393 wd_4394 wd_4395 wd_340 wd_4396) rfl rfl rfl (by decide +kernel) ⟨(Nat.le_of_ble_eq_true rfl), (Nat.le_of_ble_eq_true rfl)⟩) ⟨fun a U g mk q => by obtain ⟨q0, q1, qP, qK, qD⟩ := q; exact ⟨q0, q1, qP, va_K.moved (u := U) (U := U.calling g mk a) (Vm.Alike.refl U.vm) qK, qD⟩, va_recv hK hP (ci := 13) (q0 := 0) rfl rfl, fun U hU hW => ⟨rfl, by rw [hU], by rw [hU]; exact hP, va_K.moved hW.alike hK, hD.weaken (fun _ _ _ _ => trivial)⟩⟩ rfl rfl hl.1 rfl (lv_room (Nat.le_of_ble_eq_true rfl)) dL_law_2331 ⟨(Nat.le_of_ble_eq_true rfl), (Nat.le_of_ble_eq_true rfl)⟩) hS (fun q _ h => hFc q h) hFc (fun r u t H1 locs ht hvm hw hB hz1 hk1 hS => ?_)
  subst hw
  obtain ⟨mg1, hmg1, hP1, hK1, hD1⟩ := hB
  rw [ht] at hP1
  have hK1 := va_K.moved hvm.symm hK1
  have hD1 := hD1.weaken (fun k q _ h => hFc q.1 h)
  generalize H1 = H at hP1 hS ⊢
  refine lv_istore (lv' := [(6, .int 0), (5, .int 1), (0, .ref b), (1, .ref x), (2, .ref m0), (3, .ref oA), (4, .int 0)]) hx hb dL_law_2334 hl (by decide) rfl (fun ls hl => ?_)
  refine lv_aload_n hx hb dL_law_2336 rfl (lv_at hl 4 rfl) ?_
  have hFc := va_free (wc := [(m0, .inr (13, mg1))]) hD1 hS hA [0] rfl
  refine va_calli (va_runV (As := []) (rest := []) ⟨hx, hb, hml, hown, hts⟩ (ct_X13_thrown l dC dI _ 1 m0 mg1 hmg1) (cwV 0 hts (gi_V wd_3015 wd_3016 wd_3017 wd_340 wd_3018) rfl rfl rfl (by decide +kernel) ⟨(Nat.le_of_ble_eq_true rfl), (Nat.le_of_ble_eq_true rfl)⟩) ⟨fun a U g mk q => by obtain ⟨q0, q1, qP, qK, qD⟩ := q; exact ⟨q0, q1, qP, va_K.moved (u := U) (U := U.calling g mk a) (Vm.Alike.refl U.vm) qK, qD⟩, va_recv hK1 hP1 (ci := 13) (q0 := 0) rfl rfl, fun U hU hW => ⟨rfl, by rw [hU], by rw [hU]; exact hP1, va_K.moved hW.alike hK1, hD1.weaken (fun _ _ _ _ => trivial)⟩⟩ rfl rfl hl.1 rfl (lv_room (Nat.le_of_ble_eq_true rfl)) dL_law_2337 ⟨(Nat.le_of_ble_eq_true rfl), (Nat.le_of_ble_eq_true rfl)⟩) hS (fun q _ h => hFc q h) hFc (fun r u t H1 locs ht hvm hw hB hz1 hk1 hS => ?_)
  subst hw
  refine lv_iload hx hb dL_law_2340 (lv_at hl 1 rfl) ?_
  refine lv_icmp_eq (tgt := 2347) hx hb dL_law_2342 (by decide) (fun c9 => ?_) (fun c9 => ?_)
  rotate_left
  · first | exact absurd c9 (by decide +kernel) | exact absurd (by decide +kernel) c9
  refine lv_iload hx hb dL_law_2347 (lv_at hl 1 rfl) ?_
  refine lv_if_ne (tgt := 2364) hx hb dL_law_2349 (by decide) (fun c9 => ?_) (fun c9 => ?_)
  rotate_left
  · first | exact absurd c9 (by decide +kernel) | exact absurd (by decide +kernel) c9
  refine lv_goto (tgt := 4099) hx hb dL_law_2364 (by decide) ?_
  refine W.widen (k := 470) (n := 2709300) (Nat.le_of_ble_eq_true rfl) (Nat.le_of_ble_eq_true rfl) ?_
  exact law_tail (v5 := 0) (v6 := 0) (lv := []) C0 hS (lv_sub hl [2, 6] rfl)
