/-! what a throw needs of the state, beside the good words -/
def exs : List String := ["java/lang/IndexOutOfBoundsException", "java/lang/IllegalArgumentException", "java/lang/IllegalStateException", "java/lang/UnsupportedOperationException"]
def exd : List String := ["java/lang/RuntimeException", "java/lang/Exception", "java/lang/Throwable"]
def th (A : Nat → Prop) (U : State) (H : Heap) : Prop := vx_Zq Bundle.tN "UNASSIGNED_STACK" Bundle.steD A U H ∧ vx_Zq Bundle.tN "SUPPRESSED_SENTINEL" Bundle.listD A U H ∧ (∀ E ∈ exs, va_Nw (.castable E E) U) ∧ (∀ E ∈ exs, ∀ F ∈ exs, E ≠ F → va_Nc E F U) ∧ ∀ Y ∈ exd, va_Nw (.declares (Bundle.init0 Y)) U
theorem th.moved {A : Nat → Prop} {u U : State} {H : Heap} (hvm : u.vm.Alike U.vm) (h : th A u H) : th A U H :=
  ⟨vx_Zq.moved hvm h.1, vx_Zq.moved hvm h.2.1, fun E hE => va_tabs rfl (rfl : (u.setVm U.vm).vm = U.vm) (by rw [Cond.castable_setVm hvm]; exact h.2.2.1 E hE), fun E hE F hF hn => va_Nc.moved hvm (h.2.2.2.1 E hE F hF hn), fun Y hY => va_tabs rfl (rfl : (u.setVm U.vm).vm = U.vm) (by rw [Cond.declares_setVm hvm]; exact h.2.2.2.2 Y hY)⟩
theorem th.kept {A : Nat → Prop} {U : State} {H H1 : Heap} (h : th A U H) (hq : ∀ a : Nat, a < H.size → ¬ A a → H1[a]? = H[a]?) : th A U H1 := ⟨vx_Zq.kept h.1 hq, vx_Zq.kept h.2.1 hq, h.2.2⟩
theorem th.narrow {A B : Nat → Prop} {U : State} {H : Heap} (h : th A U H) (hAB : ∀ q, B q → A q) : th B U H := ⟨vx_Zq.narrow h.1 hAB, vx_Zq.narrow h.2.1 hAB, h.2.2⟩
theorem th.cast {A : Nat → Prop} {U : State} {H : Heap} (h : th A U H) {E : String} (hE : E ∈ exs) {args : Array Value} : (Cond.castable E E).before args U = true := va_Nw.use rfl (h.2.2.1 E hE)
theorem th.decl {A : Nat → Prop} {U : State} {H : Heap} (h : th A U H) {Y : String} (hY : Y ∈ exd) {args : Array Value} : (Cond.declares (Bundle.init0 Y)).before args U = true := va_Nw.use rfl (h.2.2.2.2 Y hY)
