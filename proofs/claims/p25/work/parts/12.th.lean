/-! what a throw needs of the state, beside the good words -/
def exs : List String := ["java/lang/IndexOutOfBoundsException", "java/lang/IllegalArgumentException", "java/lang/IllegalStateException", "java/lang/UnsupportedOperationException"]
def exd : List String := ["java/lang/RuntimeException", "java/lang/Exception", "java/lang/Throwable"]
def th (A : Nat → Prop) (U : State) (H : Heap) : Prop := vx_Zq Bundle.tN "UNASSIGNED_STACK" Bundle.steD A U H ∧ vx_Zq Bundle.tN "SUPPRESSED_SENTINEL" Bundle.listD A U H ∧ (∀ E ∈ exs, va_Nw (.castable E E) U) ∧ (∀ E ∈ exs, ∀ F ∈ exs, E ≠ F → va_Nc E F U) ∧ ∀ Y ∈ exd, va_Nw (.declares (Bundle.init0 Y)) U
theorem th.moved {A : Nat → Prop} {u U : State} {H : Heap} (hvm : u.vm.Alike U.vm) (h : th A u H) : th A U H :=
  ⟨vx_Zq.moved hvm h.1, vx_Zq.moved hvm h.2.1, fun E hE => va_tabs rfl (rfl : (u.setVm U.vm).vm = U.vm) (by rw [Cond.castable_setVm hvm]; exact h.2.2.1 E hE), fun E hE F hF hn => va_Nc.moved hvm (h.2.2.2.1 E hE F hF hn), fun Y hY => va_tabs rfl (rfl : (u.setVm U.vm).vm = U.vm) (by rw [Cond.declares_setVm hvm]; exact h.2.2.2.2 Y hY)⟩
theorem th.kept {A : Nat → Prop} {U : State} {H H1 : Heap} (h : th A U H) (hq : ∀ a : Nat, a < H.size → ¬ A a → H1[a]? = H[a]?) : th A U H1 := ⟨vx_Zq.kept h.1 hq, vx_Zq.kept h.2.1 hq, h.2.2⟩
theorem th.narrow {A B : Nat → Prop} {U : State} {H : Heap} (h : th A U H) (hAB : ∀ q, B q → A q) : th B U H := ⟨vx_Zq.narrow h.1 hAB, vx_Zq.narrow h.2.1 hAB, h.2.2⟩
theorem th.cast {A : Nat → Prop} {U : State} {H : Heap} (h : th A U H) {E : String} (hE : E ∈ exs) {args : Array Value} : (Cond.castable E E).before args U = true := va_Nw.use rfl (h.2.2.1 E hE)
theorem th.decl {A : Nat → Prop} {U : State} {H : Heap} (h : th A U H) {Y : String} (hY : Y ∈ exd) {args : Array Value} : (Cond.declares (Bundle.init0 Y)).before args U = true := va_Nw.use rfl (h.2.2.2.2 Y hY)
theorem gi_V {own : String} {idx : Nat} {C : String} {y : MethodName} {w : Cond} (h1 : Cond.methodLink own idx y ∈ BG) (h2 : Cond.instanceMethod y ∈ BG) (h3 : Cond.selects C y y ∈ BG) (h4 : Cond.initialized C ∈ BG) (h5 : w ∈ BG) : GoodIn BG (wsV own idx C y (w :: BG)) := by
  intro v hv
  have hm : v ∈ BG := by
    unfold wsV at hv
    rcases List.mem_append.mp hv with h | h
    · rcases List.mem_cons.mp h with rfl | h
      · exact h1
      · rcases List.mem_cons.mp h with rfl | h
        · exact h2
        · rcases List.mem_cons.mp h with rfl | h
          · exact h3
          · rcases List.mem_cons.mp h with rfl | h
            · exact h4
            · cases h
    · exact bg_cons h5 v h
  exact ⟨hm, bg_good v hm⟩
theorem gi_S {own : String} {idx : Nat} {y : MethodName} {w : Cond} (h1 : Cond.methodLink own idx y ∈ BG) (h2 : Cond.static y ∈ BG) (h3 : Cond.initialized own ∈ BG) (h5 : w ∈ BG) : GoodIn BG (wsS own idx y (w :: BG)) := by
  intro v hv
  have hm : v ∈ BG := by
    unfold wsS at hv
    rcases List.mem_append.mp hv with h | h
    · rcases List.mem_cons.mp h with rfl | h
      · exact h1
      · rcases List.mem_cons.mp h with rfl | h
        · exact h2
        · rcases List.mem_cons.mp h with rfl | h
          · exact h3
          · cases h
    · exact bg_cons h5 v h
  exact ⟨hm, bg_good v hm⟩
/-- a call that can't return: its throw goes on here -/
theorem vq_thr {p : Program} {l : Launch} {e : Env} {R : Room} {s : State} {m : MethodId} {args : Array Value} {below : List Frame} {meth : Method} {c : Code} {H : Heap} {locs : List Loc} {cells slots mc ms : Nat} {Q : State → Prop} {free : Addr → Prop} {A0 : Nat → Prop} {H0 : Heap} {pc : Nat} {ls : Array Slot} {st0 rest : List Value} {Qa : State → Outcome → State → Prop}
    {SX : Type} {px : SX → Prop} {BX : String → SX → State → Prop} {AX : Nat → Prop} (hr : vx_Run p l e R s m args below meth c H locs cells slots mc ms (F0 m pc ls st0) rest Qa (vx_X px BX AX) free) (hno : ∀ st v t, Qa st (.returned v) t → False) (hS : va_S A0 H0 H locs) (hf : ∀ q, free q → A0 q) (hAX : ∀ q, q < H.size → AX q → A0 q)
    (kx : ∀ (E : String) (ce : Cell) (q9 : Addr) (u : SX) (t : State) (H1 : Heap) (locs1 : List Loc), t.heap = H1 → s.vm.Alike t.vm → px u → BX E u t → H.size ≤ H1.size → (∀ q : Nat, q < H.size → ¬ AX q → H1[q]? = H[q]?) → va_S A0 H0 H1 locs1 → H1[q9]? = some ce → ce.vm = .none → s.vm.findClass E = some ce.cls → vx_W p l e R s m args below meth c H1 locs1 (cells + mc) (slots + ms) Q (F0 m pc ls rest) q9) : W p l e R s m args below meth c H locs cells slots Q (F0 m pc ls st0) := by
  intro T hT X
  rcases hr T hT X with ⟨v, st₀, t, T', L, h0, X', hL, e1, e2, hq, st⟩ | ⟨q, st₀, t, T', L, E, ce, h0, X', hL, e1, e2, ⟨u, hp, hb, hF⟩, hce, hcv, hcl, st⟩
  · exact (hno _ _ _ hq).elim
  · obtain ⟨k1, k2, k3⟩ := vx_keep h0 e1 hS hAX hf hL hF
    obtain ⟨t2, a1, b1⟩ := kx E ce q u t T'.heap (locs ++ L) e1.symm (by rw [← e2]; exact X'.warmed.alike) hp hb k1 k2 k3 (by rw [e1]; exact hce) hcv hcl T' rfl X'
    exact ⟨t2, st.trans a1, b1⟩

