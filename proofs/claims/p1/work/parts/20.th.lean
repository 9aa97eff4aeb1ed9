/-! what a throw needs of the state, beside the good words -/
def exs : List String := ["java/lang/IndexOutOfBoundsException", "java/lang/IllegalArgumentException", "java/lang/IllegalStateException", "java/lang/UnsupportedOperationException"]
def exd : List String := ["java/lang/RuntimeException", "java/lang/Exception", "java/lang/Throwable"]
def th (A : Nat → Prop) (U : State) (H : Heap) : Prop := vx_Zq Bundle.tN "UNASSIGNED_STACK" Bundle.steD A U H ∧ vx_Zq Bundle.tN "SUPPRESSED_SENTINEL" Bundle.listD A U H ∧ (∀ E ∈ exs, va_Nw (.castable E E) U) ∧ (∀ E ∈ exs, ∀ F ∈ exs, E ≠ F → va_Nc E F U) ∧ ∀ Y ∈ exd, va_Nw (.declares (Bundle.init0 Y)) U
theorem th.moved {A : Nat → Prop} {u U : State} {H : Heap} (hvm : u.vm.Alike U.vm) (h : th A u H) : th A U H :=
  ⟨vx_Zq.moved hvm h.1, vx_Zq.moved hvm h.2.1, fun E hE => va_tabs rfl (rfl : (u.setVm U.vm).vm = U.vm) (by rw [Cond.castable_setVm hvm]; exact h.2.2.1 E hE), fun E hE F hF hn => va_Nc.moved hvm (h.2.2.2.1 E hE F hF hn), fun Y hY => va_tabs rfl (rfl : (u.setVm U.vm).vm = U.vm) (by rw [Cond.declares_setVm hvm]; exact h.2.2.2.2 Y hY)⟩
theorem th.kept {A : Nat → Prop} {U : State} {H H1 : Heap} (h : th A U H) (hq : ∀ a : Nat, a < H.size → ¬ A a → H1[a]? = H[a]?) : th A U H1 := ⟨vx_Zq.kept h.1 hq, vx_Zq.kept h.2.1 hq, h.2.2⟩
theorem th.narrow {A B : Nat → Prop} {U : State} {H : Heap} (h : th A U H) (hAB : ∀ q, B q → A q) : th B U H := ⟨vx_Zq.narrow h.1 hAB, vx_Zq.narrow h.2.1 hAB, h.2.2⟩
theorem th.cast {A : Nat → Prop} {U : State} {H : Heap} (h : th A U H) {E : String} (hE : E ∈ exs) {args : Array Value} : (Cond.castable E E).before args U = true := va_Nw.use rfl (h.2.2.1 E hE)
theorem th.decl {A : Nat → Prop} {U : State} {H : Heap} (h : th A U H) {Y : String} (hY : Y ∈ exd) {args : Array Value} : (Cond.declares (Bundle.init0 Y)).before args U = true := va_Nw.use rfl (h.2.2.2.2 Y hY)
theorem gi_V {own : String} {idx : Nat} {C : String} {y : MethodName} {w : Cond} (h1 : Cond.methodLink own idx y ∈ BG) (h2 : Cond.instanceMethod y ∈ BG) (h3 : Cond.selects C y y ∈ BG) (h4 : Cond.initialized C ∈ BG) (h5 : w ∈ BG) : GoodIn BG (wsV own idx C y (w :: BG)) := by
  intro v hv
  have hm : v ∈ BG := by
    unfold wsV at hv
    rcases List.mem_append.mp hv with h | h
    · rcases List.mem_cons.mp h with rfl | h
      · exact h1
      · rcases List.mem_cons.mp h with rfl | h
        · exact h2
        · rcases List.mem_cons.mp h with rfl | h
          · exact h3
          · rcases List.mem_cons.mp h with rfl | h
            · exact h4
            · cases h
    · exact bg_cons h5 v h
  exact ⟨hm, bg_good v hm⟩
theorem gi_S {own : String} {idx : Nat} {y : MethodName} {w : Cond} (h1 : Cond.methodLink own idx y ∈ BG) (h2 : Cond.static y ∈ BG) (h3 : Cond.initialized own ∈ BG) (h5 : w ∈ BG) : GoodIn BG (wsS own idx y (w :: BG)) := by
  intro v hv
  have hm : v ∈ BG := by
    unfold wsS at hv
    rcases List.mem_append.mp hv with h | h
    · rcases List.mem_cons.mp h with rfl | h
      · exact h1
      · rcases List.mem_cons.mp h with rfl | h
        · exact h2
        · rcases List.mem_cons.mp h with rfl | h
          · exact h3
          · cases h
    · exact bg_cons h5 v h
  exact ⟨hm, bg_good v hm⟩
/-- a call that can't return: its throw goes on here -/
theorem vq_thr {p : Program} {l : Launch} {e : Env} {R : Room} {s : State} {m : MethodId} {args : Array Value} {below : List Frame} {meth : Method} {c : Code} {H : Heap} {locs : List Loc} {cells slots mc ms : Nat} {Q : State → Prop} {free : Addr → Prop} {A0 : Nat → Prop} {H0 : Heap} {pc : Nat} {ls : Array Slot} {st0 rest : List Value} {Qa : State → Outcome → State → Prop}
    {SX : Type} {px : SX → Prop} {BX : String → SX → State → Prop} {AX : Nat → Prop} (hr : vx_Run p l e R s m args below meth c H locs cells slots mc ms (F0 m pc ls st0) rest Qa (vx_X px BX AX) free) (hno : ∀ st v t, Qa st (.returned v) t → False) (hS : va_S A0 H0 H locs) (hf : ∀ q, free q → A0 q) (hAX : ∀ q, q < H.size → AX q → A0 q)
    (kx : ∀ (E : String) (ce : Cell) (q9 : Addr) (u : SX) (t : State) (H1 : Heap) (locs1 : List Loc), t.heap = H1 → s.vm.Alike t.vm → px u → BX E u t → H.size ≤ H1.size → (∀ q : Nat, q < H.size → ¬ AX q → H1[q]? = H[q]?) → va_S A0 H0 H1 locs1 → H1[q9]? = some ce → ce.vm = .none → s.vm.findClass E = some ce.cls → vx_W p l e R s m args below meth c H1 locs1 (cells + mc) (slots + ms) Q (F0 m pc ls rest) q9) : W p l e R s m args below meth c H locs cells slots Q (F0 m pc ls st0) := by
  intro T hT X
  rcases hr T hT X with ⟨v, st₀, t, T', L, h0, X', hL, e1, e2, hq, st⟩ | ⟨q, st₀, t, T', L, E, ce, h0, X', hL, e1, e2, ⟨u, hp, hb, hF⟩, hce, hcv, hcl, st⟩
  · exact (hno _ _ _ hq).elim
  · obtain ⟨k1, k2, k3⟩ := vx_keep h0 e1 hS hAX hf hL hF
    obtain ⟨t2, a1, b1⟩ := kx E ce q u t T'.heap (locs ++ L) e1.symm (by rw [← e2]; exact X'.warmed.alike) hp hb k1 k2 k3 (by rw [e1]; exact hce) hcv hcl T' rfl X'
    exact ⟨t2, st.trans a1, b1⟩

abbrev cX12_needThere : ByteArray := prog_1_method_56_code
def yX12_needThere : MethodName := ⟨RX12, "needThere", "(Z)V"⟩
theorem dX12_needThere_0 : decode cX12_needThere 0 = .ok (.iload_n 0, 1) := by decide +kernel
theorem dX12_needThere_1 : decode cX12_needThere 1 = .ok (.ifCond .ne 11, 3) := by decide +kernel
theorem dX12_needThere_4 : decode cX12_needThere 4 = .ok (.new 494, 3) := by decide +kernel
theorem dX12_needThere_7 : decode cX12_needThere 7 = .ok (.dup, 1) := by decide +kernel
theorem dX12_needThere_8 : decode cX12_needThere 8 = .ok (.invokespecial 496, 3) := by decide +kernel
theorem dX12_needThere_11 : decode cX12_needThere 11 = .ok (.athrow, 1) := by decide +kernel
theorem dX12_needThere_12 : decode cX12_needThere 12 = .ok (.return_, 1) := by decide +kernel
abbrev cX12_needRange : ByteArray := prog_1_method_57_code
def yX12_needRange : MethodName := ⟨RX12, "needRange", "(Z)V"⟩
theorem dX12_needRange_0 : decode cX12_needRange 0 = .ok (.iload_n 0, 1) := by decide +kernel
theorem dX12_needRange_1 : decode cX12_needRange 1 = .ok (.ifCond .ne 11, 3) := by decide +kernel
theorem dX12_needRange_4 : decode cX12_needRange 4 = .ok (.new 497, 3) := by decide +kernel
theorem dX12_needRange_7 : decode cX12_needRange 7 = .ok (.dup, 1) := by decide +kernel
theorem dX12_needRange_8 : decode cX12_needRange 8 = .ok (.invokespecial 499, 3) := by decide +kernel
theorem dX12_needRange_11 : decode cX12_needRange 11 = .ok (.athrow, 1) := by decide +kernel
theorem dX12_needRange_12 : decode cX12_needRange 12 = .ok (.return_, 1) := by decide +kernel
abbrev cX12_needNow : ByteArray := prog_1_method_58_code
def yX12_needNow : MethodName := ⟨RX12, "needNow", "(Z)V"⟩
theorem dX12_needNow_0 : decode cX12_needNow 0 = .ok (.iload_n 0, 1) := by decide +kernel
theorem dX12_needNow_1 : decode cX12_needNow 1 = .ok (.ifCond .ne 11, 3) := by decide +kernel
theorem dX12_needNow_4 : decode cX12_needNow 4 = .ok (.new 129, 3) := by decide +kernel
theorem dX12_needNow_7 : decode cX12_needNow 7 = .ok (.dup, 1) := by decide +kernel
theorem dX12_needNow_8 : decode cX12_needNow 8 = .ok (.invokespecial 500, 3) := by decide +kernel
theorem dX12_needNow_11 : decode cX12_needNow 11 = .ok (.athrow, 1) := by decide +kernel
theorem dX12_needNow_12 : decode cX12_needNow 12 = .ok (.return_, 1) := by decide +kernel
abbrev cX12_needRoom : ByteArray := prog_1_method_59_code
def yX12_needRoom : MethodName := ⟨RX12, "needRoom", "(Z)V"⟩
theorem dX12_needRoom_0 : decode cX12_needRoom 0 = .ok (.iload_n 0, 1) := by decide +kernel
theorem dX12_needRoom_1 : decode cX12_needRoom 1 = .ok (.ifCond .ne 11, 3) := by decide +kernel
theorem dX12_needRoom_4 : decode cX12_needRoom 4 = .ok (.new 501, 3) := by decide +kernel
theorem dX12_needRoom_7 : decode cX12_needRoom 7 = .ok (.dup, 1) := by decide +kernel
theorem dX12_needRoom_8 : decode cX12_needRoom 8 = .ok (.invokespecial 503, 3) := by decide +kernel
theorem dX12_needRoom_11 : decode cX12_needRoom 11 = .ok (.athrow, 1) := by decide +kernel
theorem dX12_needRoom_12 : decode cX12_needRoom 12 = .ok (.return_, 1) := by decide +kernel
abbrev cX10_fail : ByteArray := prog_12_method_4_code
def yX10_fail : MethodName := ⟨RX10, "fail", "(II)V"⟩
theorem dX10_fail_0 : decode cX10_fail 0 = .ok (.aload_n 0, 1) := by decide +kernel
theorem dX10_fail_1 : decode cX10_fail 1 = .ok (.iload_n 1, 1) := by decide +kernel
theorem dX10_fail_2 : decode cX10_fail 2 = .ok (.putfield 21, 3) := by decide +kernel
theorem dX10_fail_5 : decode cX10_fail 5 = .ok (.aload_n 0, 1) := by decide +kernel
theorem dX10_fail_6 : decode cX10_fail 6 = .ok (.iload_n 2, 1) := by decide +kernel
theorem dX10_fail_7 : decode cX10_fail 7 = .ok (.putfield 24, 3) := by decide +kernel
theorem dX10_fail_10 : decode cX10_fail 10 = .ok (.new 30, 3) := by decide +kernel
theorem dX10_fail_13 : decode cX10_fail 13 = .ok (.dup, 1) := by decide +kernel
theorem dX10_fail_14 : decode cX10_fail 14 = .ok (.invokespecial 32, 3) := by decide +kernel
theorem dX10_fail_17 : decode cX10_fail 17 = .ok (.athrow, 1) := by decide +kernel
set_option maxRecDepth 100000 in
theorem at_X12_needThere : ∀ w ∈ (vx_at0 RX12 496 "java/lang/IndexOutOfBoundsException" ["java/lang/RuntimeException", "java/lang/Exception"]).filter goodWord, w ∈ BG := fun w hw => List.mem_filter.mpr ⟨(show ∀ w ∈ (vx_at0 RX12 496 "java/lang/IndexOutOfBoundsException" ["java/lang/RuntimeException", "java/lang/Exception"]).filter goodWord, w ∈ lw_tbl by decide +kernel) w hw, (List.mem_filter.mp hw).2⟩
set_option maxRecDepth 100000 in
theorem an_X12_needThere : ∀ w ∈ (vx_at0 RX12 496 "java/lang/IndexOutOfBoundsException" ["java/lang/RuntimeException", "java/lang/Exception"]).filter (fun w => !goodWord w), w ∈ [Cond.castable "java/lang/IndexOutOfBoundsException" "java/lang/IndexOutOfBoundsException", Cond.declares (Bundle.init0 "java/lang/RuntimeException"), Cond.declares (Bundle.init0 "java/lang/Exception"), Cond.declares (Bundle.init0 "java/lang/Throwable")] := by decide +kernel
set_option maxRecDepth 100000 in
theorem ao_X12_needThere : ∀ w ∈ Cond.classLink RX12 494 "java/lang/IndexOutOfBoundsException" :: Cond.initialized "java/lang/IndexOutOfBoundsException" :: vx_at0 RX12 496 "java/lang/IndexOutOfBoundsException" ["java/lang/RuntimeException", "java/lang/Exception"], vx_ot w = true := by decide +kernel
set_option maxRecDepth 100000 in
theorem at_X12_needRange : ∀ w ∈ (vx_at0 RX12 499 "java/lang/IllegalArgumentException" ["java/lang/RuntimeException", "java/lang/Exception"]).filter goodWord, w ∈ BG := fun w hw => List.mem_filter.mpr ⟨(show ∀ w ∈ (vx_at0 RX12 499 "java/lang/IllegalArgumentException" ["java/lang/RuntimeException", "java/lang/Exception"]).filter goodWord, w ∈ lw_tbl by decide +kernel) w hw, (List.mem_filter.mp hw).2⟩
set_option maxRecDepth 100000 in
theorem an_X12_needRange : ∀ w ∈ (vx_at0 RX12 499 "java/lang/IllegalArgumentException" ["java/lang/RuntimeException", "java/lang/Exception"]).filter (fun w => !goodWord w), w ∈ [Cond.castable "java/lang/IllegalArgumentException" "java/lang/IllegalArgumentException", Cond.declares (Bundle.init0 "java/lang/RuntimeException"), Cond.declares (Bundle.init0 "java/lang/Exception"), Cond.declares (Bundle.init0 "java/lang/Throwable")] := by decide +kernel
set_option maxRecDepth 100000 in
theorem ao_X12_needRange : ∀ w ∈ Cond.classLink RX12 497 "java/lang/IllegalArgumentException" :: Cond.initialized "java/lang/IllegalArgumentException" :: vx_at0 RX12 499 "java/lang/IllegalArgumentException" ["java/lang/RuntimeException", "java/lang/Exception"], vx_ot w = true := by decide +kernel
set_option maxRecDepth 100000 in
theorem at_X12_needNow : ∀ w ∈ (vx_at0 RX12 500 "java/lang/IllegalStateException" ["java/lang/RuntimeException", "java/lang/Exception"]).filter goodWord, w ∈ BG := fun w hw => List.mem_filter.mpr ⟨(show ∀ w ∈ (vx_at0 RX12 500 "java/lang/IllegalStateException" ["java/lang/RuntimeException", "java/lang/Exception"]).filter goodWord, w ∈ lw_tbl by decide +kernel) w hw, (List.mem_filter.mp hw).2⟩
set_option maxRecDepth 100000 in
theorem an_X12_needNow : ∀ w ∈ (vx_at0 RX12 500 "java/lang/IllegalStateException" ["java/lang/RuntimeException", "java/lang/Exception"]).filter (fun w => !goodWord w), w ∈ [Cond.castable "java/lang/IllegalStateException" "java/lang/IllegalStateException", Cond.declares (Bundle.init0 "java/lang/RuntimeException"), Cond.declares (Bundle.init0 "java/lang/Exception"), Cond.declares (Bundle.init0 "java/lang/Throwable")] := by decide +kernel
set_option maxRecDepth 100000 in
theorem ao_X12_needNow : ∀ w ∈ Cond.classLink RX12 129 "java/lang/IllegalStateException" :: Cond.initialized "java/lang/IllegalStateException" :: vx_at0 RX12 500 "java/lang/IllegalStateException" ["java/lang/RuntimeException", "java/lang/Exception"], vx_ot w = true := by decide +kernel
set_option maxRecDepth 100000 in
theorem at_X12_needRoom : ∀ w ∈ (vx_at0 RX12 503 "java/lang/UnsupportedOperationException" ["java/lang/RuntimeException", "java/lang/Exception"]).filter goodWord, w ∈ BG := fun w hw => List.mem_filter.mpr ⟨(show ∀ w ∈ (vx_at0 RX12 503 "java/lang/UnsupportedOperationException" ["java/lang/RuntimeException", "java/lang/Exception"]).filter goodWord, w ∈ lw_tbl by decide +kernel) w hw, (List.mem_filter.mp hw).2⟩
set_option maxRecDepth 100000 in
theorem an_X12_needRoom : ∀ w ∈ (vx_at0 RX12 503 "java/lang/UnsupportedOperationException" ["java/lang/RuntimeException", "java/lang/Exception"]).filter (fun w => !goodWord w), w ∈ [Cond.castable "java/lang/UnsupportedOperationException" "java/lang/UnsupportedOperationException", Cond.declares (Bundle.init0 "java/lang/RuntimeException"), Cond.declares (Bundle.init0 "java/lang/Exception"), Cond.declares (Bundle.init0 "java/lang/Throwable")] := by decide +kernel
set_option maxRecDepth 100000 in
theorem ao_X12_needRoom : ∀ w ∈ Cond.classLink RX12 501 "java/lang/UnsupportedOperationException" :: Cond.initialized "java/lang/UnsupportedOperationException" :: vx_at0 RX12 503 "java/lang/UnsupportedOperationException" ["java/lang/RuntimeException", "java/lang/Exception"], vx_ot w = true := by decide +kernel
set_option maxRecDepth 100000 in
theorem at_X10_fail : ∀ w ∈ (vx_at0 RX10 32 "java/lang/IllegalStateException" ["java/lang/RuntimeException", "java/lang/Exception"]).filter goodWord, w ∈ BG := fun w hw => List.mem_filter.mpr ⟨(show ∀ w ∈ (vx_at0 RX10 32 "java/lang/IllegalStateException" ["java/lang/RuntimeException", "java/lang/Exception"]).filter goodWord, w ∈ lw_tbl by decide +kernel) w hw, (List.mem_filter.mp hw).2⟩
set_option maxRecDepth 100000 in
theorem an_X10_fail : ∀ w ∈ (vx_at0 RX10 32 "java/lang/IllegalStateException" ["java/lang/RuntimeException", "java/lang/Exception"]).filter (fun w => !goodWord w), w ∈ [Cond.castable "java/lang/IllegalStateException" "java/lang/IllegalStateException", Cond.declares (Bundle.init0 "java/lang/RuntimeException"), Cond.declares (Bundle.init0 "java/lang/Exception"), Cond.declares (Bundle.init0 "java/lang/Throwable")] := by decide +kernel
set_option maxRecDepth 100000 in
theorem ao_X10_fail : ∀ w ∈ Cond.classLink RX10 30 "java/lang/IllegalStateException" :: Cond.initialized "java/lang/IllegalStateException" :: vx_at0 RX10 32 "java/lang/IllegalStateException" ["java/lang/RuntimeException", "java/lang/Exception"], vx_ot w = true := by decide +kernel
