set_option maxHeartbeats 4000000 in
set_option maxRecDepth 100000 in
theorem ct_X12_needThere (l : Launch) (hlt : l.stackTraces = false) (sz : Nat) (b : Int32) : vx_Met l yX12_needThere (Cond.code yX12_needThere cX12_needThere 1 none :: BG) ({ frames := 6, cells := 1, slots := 6, locals := 100 }) (va_Pc [.int b] (fun U => U.heap.size = sz ∧ th (va_A [] sz) U U.heap)) (va_Qv (fun _ : Unit => ¬ b = 0) (fun _ _ => True) (va_A [] sz)) (vx_X (fun _ : Unit => b = 0) (fun E _ _ => E = "java/lang/IndexOutOfBoundsException") (va_A [] sz)) 1 6 (va_A [] sz) := by
  refine vx_ofW (cc := cX12_needThere) (maxL := 1) (ret := none) (by decide) rfl ?_
  intro p e s m args below meth c s₁ B hml ht0 hv
  obtain ⟨rfl, hsz, hth⟩ := hv
  have hx := B.exec
  have hb := B.bytes
  have hr := B.returns
  have hts : ∀ w ∈ BG, w.before _ s = true := fun w h => atoms_spec (ws := Cond.code yX12_needThere cX12_needThere 1 none :: BG) B.pre w (List.mem_cons_of_mem _ h)
  have hown : s.vm.findClass RX12 = some m.cls := findClass_of_methodNamed B.named
  have hlocks := B.notSynchronized
  subst hsz
  generalize hAe : va_A [] s.heap.size = A at hth ⊢
  have hS : va_S A s.heap s.heap [] := va_S.rf
  have hl := lv_entry ([.int b]) (n := 1) (Nat.le_of_ble_eq_true rfl)
  rw [lg_entry_eq]
  generalize (lg_sl ([.int b]) ++ List.replicate (1 - (lg_sl ([.int b])).length) Slot.unset).toArray = ls at hl ⊢
  have hl : lv_has ls 1 [(0, .int b)] := hl
  refine lv_iload_n hx hb dX12_needThere_0 rfl (lv_at hl 0 rfl) ?_
  refine lv_if_ne (tgt := 12) hx hb dX12_needThere_1 (by decide) (fun c9 => ?_) (fun c9 => ?_)
  · refine vx_ret ?_
    refine W.widen (k := 1) (n := 6) (Nat.le_of_ble_eq_true rfl) (Nat.le_of_ble_eq_true rfl) ?_
    exact W.vret hx hb hr (fun t ht hW => ⟨⟨(), rfl, c9, trivial⟩, hS.F ht⟩) hS.2.2 dX12_needThere_12
  · exact vx_throw0 (own := RX12) (cls := "java/lang/IndexOutOfBoundsException") (names := ["java/lang/RuntimeException", "java/lang/Exception"]) (ik := 494) (ic := 496) (A := A) hx hb hlt hown (by decide) (by decide) (hts (.classLink RX12 494 "java/lang/IndexOutOfBoundsException") wd_1816) (hts (.initialized "java/lang/IndexOutOfBoundsException") wd_355) (vx_hat (fun w h => hts w (at_X12_needThere w h)) an_X12_needThere (vx_c (hth.cast (by decide)) (vx_c (hth.decl (by decide)) (vx_c (hth.decl (by decide)) (vx_c (hth.decl (by decide)) vx_n))))) ao_X12_needThere hth.1 hth.2.1 hS (by rw [hml]; exact hl.1) dX12_needThere_4 dX12_needThere_7 dX12_needThere_8 dX12_needThere_11 (fun x h9 => (ht0 x h9).elim) (Nat.le_of_ble_eq_true rfl) (Nat.le_of_ble_eq_true rfl) (Nat.le_of_ble_eq_true rfl) (Nat.le_of_ble_eq_true rfl) hlocks (fun t hvm hz hk => ⟨(), c9, rfl, hz, fun q h1 _ => hk q h1⟩) hS.2.2 (Nat.le_of_ble_eq_true rfl) (Nat.le_of_ble_eq_true rfl)
set_option maxHeartbeats 4000000 in
set_option maxRecDepth 100000 in
theorem ct_X12_needRange (l : Launch) (hlt : l.stackTraces = false) (sz : Nat) (b : Int32) : vx_Met l yX12_needRange (Cond.code yX12_needRange cX12_needRange 1 none :: BG) ({ frames := 6, cells := 1, slots := 6, locals := 100 }) (va_Pc [.int b] (fun U => U.heap.size = sz ∧ th (va_A [] sz) U U.heap)) (va_Qv (fun _ : Unit => ¬ b = 0) (fun _ _ => True) (va_A [] sz)) (vx_X (fun _ : Unit => b = 0) (fun E _ _ => E = "java/lang/IllegalArgumentException") (va_A [] sz)) 1 6 (va_A [] sz) := by
  refine vx_ofW (cc := cX12_needRange) (maxL := 1) (ret := none) (by decide) rfl ?_
  intro p e s m args below meth c s₁ B hml ht0 hv
  obtain ⟨rfl, hsz, hth⟩ := hv
  have hx := B.exec
  have hb := B.bytes
  have hr := B.returns
  have hts : ∀ w ∈ BG, w.before _ s = true := fun w h => atoms_spec (ws := Cond.code yX12_needRange cX12_needRange 1 none :: BG) B.pre w (List.mem_cons_of_mem _ h)
  have hown : s.vm.findClass RX12 = some m.cls := findClass_of_methodNamed B.named
  have hlocks := B.notSynchronized
  subst hsz
  generalize hAe : va_A [] s.heap.size = A at hth ⊢
  have hS : va_S A s.heap s.heap [] := va_S.rf
  have hl := lv_entry ([.int b]) (n := 1) (Nat.le_of_ble_eq_true rfl)
  rw [lg_entry_eq]
  generalize (lg_sl ([.int b]) ++ List.replicate (1 - (lg_sl ([.int b])).length) Slot.unset).toArray = ls at hl ⊢
  have hl : lv_has ls 1 [(0, .int b)] := hl
  refine lv_iload_n hx hb dX12_needRange_0 rfl (lv_at hl 0 rfl) ?_
  refine lv_if_ne (tgt := 12) hx hb dX12_needRange_1 (by decide) (fun c9 => ?_) (fun c9 => ?_)
  · refine vx_ret ?_
    refine W.widen (k := 1) (n := 6) (Nat.le_of_ble_eq_true rfl) (Nat.le_of_ble_eq_true rfl) ?_
    exact W.vret hx hb hr (fun t ht hW => ⟨⟨(), rfl, c9, trivial⟩, hS.F ht⟩) hS.2.2 dX12_needRange_12
  · exact vx_throw0 (own := RX12) (cls := "java/lang/IllegalArgumentException") (names := ["java/lang/RuntimeException", "java/lang/Exception"]) (ik := 497) (ic := 499) (A := A) hx hb hlt hown (by decide) (by decide) (hts (.classLink RX12 497 "java/lang/IllegalArgumentException") wd_1331) (hts (.initialized "java/lang/IllegalArgumentException") wd_345) (vx_hat (fun w h => hts w (at_X12_needRange w h)) an_X12_needRange (vx_c (hth.cast (by decide)) (vx_c (hth.decl (by decide)) (vx_c (hth.decl (by decide)) (vx_c (hth.decl (by decide)) vx_n))))) ao_X12_needRange hth.1 hth.2.1 hS (by rw [hml]; exact hl.1) dX12_needRange_4 dX12_needRange_7 dX12_needRange_8 dX12_needRange_11 (fun x h9 => (ht0 x h9).elim) (Nat.le_of_ble_eq_true rfl) (Nat.le_of_ble_eq_true rfl) (Nat.le_of_ble_eq_true rfl) (Nat.le_of_ble_eq_true rfl) hlocks (fun t hvm hz hk => ⟨(), c9, rfl, hz, fun q h1 _ => hk q h1⟩) hS.2.2 (Nat.le_of_ble_eq_true rfl) (Nat.le_of_ble_eq_true rfl)
set_option maxHeartbeats 4000000 in
set_option maxRecDepth 100000 in
theorem ct_X12_needNow (l : Launch) (hlt : l.stackTraces = false) (sz : Nat) (b : Int32) : vx_Met l yX12_needNow (Cond.code yX12_needNow cX12_needNow 1 none :: BG) ({ frames := 6, cells := 1, slots := 6, locals := 100 }) (va_Pc [.int b] (fun U => U.heap.size = sz ∧ th (va_A [] sz) U U.heap)) (va_Qv (fun _ : Unit => ¬ b = 0) (fun _ _ => True) (va_A [] sz)) (vx_X (fun _ : Unit => b = 0) (fun E _ _ => E = "java/lang/IllegalStateException") (va_A [] sz)) 1 6 (va_A [] sz) := by
  refine vx_ofW (cc := cX12_needNow) (maxL := 1) (ret := none) (by decide) rfl ?_
  intro p e s m args below meth c s₁ B hml ht0 hv
  obtain ⟨rfl, hsz, hth⟩ := hv
  have hx := B.exec
  have hb := B.bytes
  have hr := B.returns
  have hts : ∀ w ∈ BG, w.before _ s = true := fun w h => atoms_spec (ws := Cond.code yX12_needNow cX12_needNow 1 none :: BG) B.pre w (List.mem_cons_of_mem _ h)
  have hown : s.vm.findClass RX12 = some m.cls := findClass_of_methodNamed B.named
  have hlocks := B.notSynchronized
  subst hsz
  generalize hAe : va_A [] s.heap.size = A at hth ⊢
  have hS : va_S A s.heap s.heap [] := va_S.rf
  have hl := lv_entry ([.int b]) (n := 1) (Nat.le_of_ble_eq_true rfl)
  rw [lg_entry_eq]
  generalize (lg_sl ([.int b]) ++ List.replicate (1 - (lg_sl ([.int b])).length) Slot.unset).toArray = ls at hl ⊢
  have hl : lv_has ls 1 [(0, .int b)] := hl
  refine lv_iload_n hx hb dX12_needNow_0 rfl (lv_at hl 0 rfl) ?_
  refine lv_if_ne (tgt := 12) hx hb dX12_needNow_1 (by decide) (fun c9 => ?_) (fun c9 => ?_)
  · refine vx_ret ?_
    refine W.widen (k := 1) (n := 6) (Nat.le_of_ble_eq_true rfl) (Nat.le_of_ble_eq_true rfl) ?_
    exact W.vret hx hb hr (fun t ht hW => ⟨⟨(), rfl, c9, trivial⟩, hS.F ht⟩) hS.2.2 dX12_needNow_12
  · exact vx_throw0 (own := RX12) (cls := "java/lang/IllegalStateException") (names := ["java/lang/RuntimeException", "java/lang/Exception"]) (ik := 129) (ic := 500) (A := A) hx hb hlt hown (by decide) (by decide) (hts (.classLink RX12 129 "java/lang/IllegalStateException") wd_1353) (hts (.initialized "java/lang/IllegalStateException") wd_352) (vx_hat (fun w h => hts w (at_X12_needNow w h)) an_X12_needNow (vx_c (hth.cast (by decide)) (vx_c (hth.decl (by decide)) (vx_c (hth.decl (by decide)) (vx_c (hth.decl (by decide)) vx_n))))) ao_X12_needNow hth.1 hth.2.1 hS (by rw [hml]; exact hl.1) dX12_needNow_4 dX12_needNow_7 dX12_needNow_8 dX12_needNow_11 (fun x h9 => (ht0 x h9).elim) (Nat.le_of_ble_eq_true rfl) (Nat.le_of_ble_eq_true rfl) (Nat.le_of_ble_eq_true rfl) (Nat.le_of_ble_eq_true rfl) hlocks (fun t hvm hz hk => ⟨(), c9, rfl, hz, fun q h1 _ => hk q h1⟩) hS.2.2 (Nat.le_of_ble_eq_true rfl) (Nat.le_of_ble_eq_true rfl)
set_option maxHeartbeats 4000000 in
set_option maxRecDepth 100000 in
theorem ct_X12_needRoom (l : Launch) (hlt : l.stackTraces = false) (sz : Nat) (b : Int32) : vx_Met l yX12_needRoom (Cond.code yX12_needRoom cX12_needRoom 1 none :: BG) ({ frames := 6, cells := 1, slots := 6, locals := 100 }) (va_Pc [.int b] (fun U => U.heap.size = sz ∧ th (va_A [] sz) U U.heap)) (va_Qv (fun _ : Unit => ¬ b = 0) (fun _ _ => True) (va_A [] sz)) (vx_X (fun _ : Unit => b = 0) (fun E _ _ => E = "java/lang/UnsupportedOperationException") (va_A [] sz)) 1 6 (va_A [] sz) := by
  refine vx_ofW (cc := cX12_needRoom) (maxL := 1) (ret := none) (by decide) rfl ?_
  intro p e s m args below meth c s₁ B hml ht0 hv
  obtain ⟨rfl, hsz, hth⟩ := hv
  have hx := B.exec
  have hb := B.bytes
  have hr := B.returns
  have hts : ∀ w ∈ BG, w.before _ s = true := fun w h => atoms_spec (ws := Cond.code yX12_needRoom cX12_needRoom 1 none :: BG) B.pre w (List.mem_cons_of_mem _ h)
  have hown : s.vm.findClass RX12 = some m.cls := findClass_of_methodNamed B.named
  have hlocks := B.notSynchronized
  subst hsz
  generalize hAe : va_A [] s.heap.size = A at hth ⊢
  have hS : va_S A s.heap s.heap [] := va_S.rf
  have hl := lv_entry ([.int b]) (n := 1) (Nat.le_of_ble_eq_true rfl)
  rw [lg_entry_eq]
  generalize (lg_sl ([.int b]) ++ List.replicate (1 - (lg_sl ([.int b])).length) Slot.unset).toArray = ls at hl ⊢
  have hl : lv_has ls 1 [(0, .int b)] := hl
  refine lv_iload_n hx hb dX12_needRoom_0 rfl (lv_at hl 0 rfl) ?_
  refine lv_if_ne (tgt := 12) hx hb dX12_needRoom_1 (by decide) (fun c9 => ?_) (fun c9 => ?_)
  · refine vx_ret ?_
    refine W.widen (k := 1) (n := 6) (Nat.le_of_ble_eq_true rfl) (Nat.le_of_ble_eq_true rfl) ?_
    exact W.vret hx hb hr (fun t ht hW => ⟨⟨(), rfl, c9, trivial⟩, hS.F ht⟩) hS.2.2 dX12_needRoom_12
  · exact vx_throw0 (own := RX12) (cls := "java/lang/UnsupportedOperationException") (names := ["java/lang/RuntimeException", "java/lang/Exception"]) (ik := 501) (ic := 503) (A := A) hx hb hlt hown (by decide) (by decide) (hts (.classLink RX12 501 "java/lang/UnsupportedOperationException") wd_1250) (hts (.initialized "java/lang/UnsupportedOperationException") wd_344) (vx_hat (fun w h => hts w (at_X12_needRoom w h)) an_X12_needRoom (vx_c (hth.cast (by decide)) (vx_c (hth.decl (by decide)) (vx_c (hth.decl (by decide)) (vx_c (hth.decl (by decide)) vx_n))))) ao_X12_needRoom hth.1 hth.2.1 hS (by rw [hml]; exact hl.1) dX12_needRoom_4 dX12_needRoom_7 dX12_needRoom_8 dX12_needRoom_11 (fun x h9 => (ht0 x h9).elim) (Nat.le_of_ble_eq_true rfl) (Nat.le_of_ble_eq_true rfl) (Nat.le_of_ble_eq_true rfl) (Nat.le_of_ble_eq_true rfl) hlocks (fun t hvm hz hk => ⟨(), c9, rfl, hz, fun q h1 _ => hk q h1⟩) hS.2.2 (Nat.le_of_ble_eq_true rfl) (Nat.le_of_ble_eq_true rfl)
