/-! what is known of the state beside the world: exceptions can be thrown, the static arrays stand -/
def sm_stv : List (List Int) := [[3775219463781, 13550, 1833716, 1782516, 1880807, 1931749, 209286764], [170, 204, 240], [-6148914691236517206, -3689348814741910324, -1085102592571150096, -71777214294589696, -281470681808896, -4294967296], [170, 204, 240], [0, 1, 2, 1, 0, 2, 0, 1, 2, 0, 2, 1, 1, 0, 2, 1, 2, 0, 2, 0, 1, 2, 1, 0]]
def sm_stn : List (String × String × String) := [("ChipFlow$Text", "WORDS", "[J"), ("ChipFlow$Reader", "INPUT_TABLES", "[I"), ("ChipFlow$Builder", "BIT_ROWS", "[J"), ("ChipFlow$Mapper", "VALUE_TABLES", "[I"), ("ChipFlow$Mapper", "ORDERS", "[I")]
def sm_stl (j : Nat) : Bool := j = 0 || j = 2
def sm_sty (j : Nat) : FieldType := if sm_stl j then .long else .int
def sm_sva (j k : Nat) : Value := if sm_stl j then .long (Int64.ofInt ((sm_stv.getD j []).getD k 0)) else .int (Int32.ofInt ((sm_stv.getD j []).getD k 0))
def sm_st (ad : Nat → Nat → Nat) (A : Nat → Prop) (U : State) (H : Heap) : Prop := ∀ j q, sm_stn[j]? = some q → va_Z q.1 q.2.1 q.2.2 (.ref (ad (296 + j) 0)) A U H ∧ va_T (sm_sty j) (ad (296 + j) 0) (sm_stv.getD j []).length (sm_sva j) A U H
/-! the String of the signs -/
def sg_b : List Int32 := [40, 41, 123, 125, 59, 44, 61, 46, 58, 38, 124, 94, 33, 43, 63, 64]
def sg_E (aS aV : Nat) (A : Nat → Prop) (U : State) (H : Heap) : Prop := vk_S 1 [16] [sg_b] (fun _ => aS) (fun _ => aV) A U H ∧ va_Z "java/lang/String" "COMPACT_STRINGS" "Z" (.int 1) A U H
theorem sg_E.moved {aS aV : Nat} {A : Nat → Prop} {u U : State} {H : Heap} (hvm : u.vm.Alike U.vm) (h : sg_E aS aV A u H) : sg_E aS aV A U H := ⟨vk_S.moved hvm h.1, va_Z.moved hvm h.2⟩
theorem sg_E.kept {aS aV : Nat} {A : Nat → Prop} {U : State} {H H1 : Heap} (h : sg_E aS aV A U H) (hq : ∀ a : Nat, a < H.size → ¬ A a → H1[a]? = H[a]?) : sg_E aS aV A U H1 := ⟨vk_S.kept h.1 hq, va_Z.kept h.2 hq⟩
theorem sg_E.narrow {aS aV : Nat} {A B : Nat → Prop} {U : State} {H : Heap} (h : sg_E aS aV A U H) (hAB : ∀ q, B q → A q) : sg_E aS aV B U H := ⟨vk_S.narrow h.1 hAB, va_Z.narrow h.2 hAB⟩
def sg_R (a : Nat) (U : State) : Prop := vk_R "ChipFlow$Text" 67 "(){};,=.:&|^!+?@" a U
/-! the script -/
def sm_sc (sc : Nat × (Nat → Int)) (a : Nat) (A : Nat → Prop) (U : State) (H : Heap) : Prop := sc.1 ≤ 448 ∧ (∀ j, sm_ni (sc.2 j)) ∧ va_T .int a sc.1 (fun j => .int (Int32.ofInt (sc.2 j))) A U H
def sm_ev (sc : Nat × (Nat → Int)) (ad : Nat → Nat → Nat) (A : Nat → Prop) (U : State) (H : Heap) : Prop := th A U H ∧ sm_st ad A U H ∧ (∃ aV, sg_E (ad 301 0) aV A U H) ∧ sg_R (ad 301 0) U ∧ sm_sc sc (ad 302 0) A U H
theorem sm_ev.moved {sc : Nat × (Nat → Int)} {ad : Nat → Nat → Nat} {A : Nat → Prop} {u U : State} {H : Heap} (hvm : u.vm.Alike U.vm) (hs : sg_R (ad 301 0) u → sg_R (ad 301 0) U) (h : sm_ev sc ad A u H) : sm_ev sc ad A U H := ⟨th.moved hvm h.1, fun j q hq => ⟨va_Z.moved hvm (h.2.1 j q hq).1, (h.2.1 j q hq).2.moved hvm⟩, h.2.2.1.imp fun _ q => q.moved hvm, hs h.2.2.2.1, h.2.2.2.2.1, h.2.2.2.2.2.1, h.2.2.2.2.2.2.moved hvm⟩
theorem sm_ev.kept {sc : Nat × (Nat → Int)} {ad : Nat → Nat → Nat} {A : Nat → Prop} {U : State} {H H1 : Heap} (h : sm_ev sc ad A U H) (hq : ∀ a : Nat, a < H.size → ¬ A a → H1[a]? = H[a]?) : sm_ev sc ad A U H1 := ⟨th.kept h.1 hq, fun j q hj => ⟨va_Z.kept (h.2.1 j q hj).1 hq, (h.2.1 j q hj).2.kept hq⟩, h.2.2.1.imp fun _ q => q.kept hq, h.2.2.2.1, h.2.2.2.2.1, h.2.2.2.2.2.1, h.2.2.2.2.2.2.kept hq⟩
theorem sm_ev.narrow {sc : Nat × (Nat → Int)} {ad : Nat → Nat → Nat} {A B : Nat → Prop} {U : State} {H : Heap} (h : sm_ev sc ad A U H) (hAB : ∀ q, B q → A q) : sm_ev sc ad B U H := ⟨th.narrow h.1 hAB, fun j q hj => ⟨va_Z.narrow (h.2.1 j q hj).1 hAB, (h.2.1 j q hj).2.narrow hAB⟩, h.2.2.1.imp fun _ q => q.narrow hAB, h.2.2.2.1, h.2.2.2.2.1, h.2.2.2.2.2.1, h.2.2.2.2.2.2.narrow hAB⟩
