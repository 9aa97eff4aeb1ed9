/-! what a throw needs of the state, beside the good words -/
def exs : List String := ["java/lang/IndexOutOfBoundsException", "java/lang/IllegalArgumentException", "java/lang/IllegalStateException", "java/lang/UnsupportedOperationException"]
def exd : List String := ["java/lang/RuntimeException", "java/lang/Exception", "java/lang/Throwable"]
def th (A : Nat → Prop) (U : State) (H : Heap) : Prop := vx_Zq Bundle.tN "UNASSIGNED_STACK" Bundle.steD A U H ∧ vx_Zq Bundle.tN "SUPPRESSED_SENTINEL" Bundle.listD A U H ∧ (∀ E ∈ exs, va_Nw (.castable E E) U) ∧ (∀ E ∈ exs, ∀ F ∈ exs, E ≠ F → va_Nc E F U) ∧ ∀ Y ∈ exd, va_Nw (.declares (Bundle.init0 Y)) U
