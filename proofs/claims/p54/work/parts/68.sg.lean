/-! String.indexOf of the signs: nothing is written -/
def sg_0 : Nat → Prop := fun _ => False
def sg_M (l : Launch) (y : MethodName) (bytes : ByteArray) (maxL : Nat) (ret : Option FieldType) (fr lo : Nat) (As : List Value) (aS aV : Nat) (v : Int32) : Prop := vx_Met l y (Cond.code y bytes maxL ret :: BG) { frames := fr, cells := 0, slots := 0, locals := lo } (va_Pc As (fun U => sg_E aS aV sg_0 U U.heap)) (va_Qi (fun r (_ : Unit) => r = v) (fun _ _ => True) sg_0) (vx_X (fun _ : Unit => False) (fun _ _ _ => True) sg_0) 0 0 sg_0
section SG
variable {p : Program} {l : Launch} {e : Env} {R : Room} {s : State} {m : MethodId} {args : Array Value} {below : List Frame} {meth : Method} {c : Code} {H : Heap} {locs : List Loc} {cells slots : Nat} {Q : State → Prop}
variable {cc : ByteArray} {pc : Nat} {ls : Array Slot} {st0 rest : List Value} {A : Nat → Prop} {own : String} {index maxL fr lo aS aV : Nat} {y : MethodName} {bytes : ByteArray} {ret : Option FieldType} {As : List Value} {v : Int32}
theorem sg_blind : FrameBlind (va_Pc As (fun U => sg_E aS aV sg_0 U U.heap)) := fun a' U g mk q => ⟨q.1, sg_E.moved (u := U) (U := U.calling g mk a') (Vm.Alike.refl U.vm) q.2⟩
theorem sg_cb (hts : ∀ w ∈ BG, w.before args s = true) (w1 : Cond.methodLink own index y ∈ BG) (w3 : Cond.initialized y.cls ∈ BG) (w4 : Cond.code y bytes maxL ret ∈ BG) (hd : y.cls ≠ "java/lang/invoke/MethodHandle" ∧ y.cls ≠ "java/lang/invoke/VarHandle") (hn : (parseMethodDescriptor y.desc).map (fun d => d.parameters.length) = some As.length) (hR : fr + 1 ≤ R.frames ∧ 8 + (maxL + 11) + lo ≤ R.locals) : CallB R s args own index y bytes maxL ret (Cond.code y bytes maxL ret :: BG) { frames := fr, cells := 0, slots := 0, locals := lo } 0 0 As.length := by
  refine ⟨rfl, rfl, hR.1, hR.2, fun w hw' a' U hW => ?_, List.mem_cons_self, hts _ w4, hts _ w3, hd, fun sig h => ?_, hts _ w1⟩
  · have hin : w ∈ BG := bg_cons w4 w hw'
    exact word_at hW (bg_good w hin) (hts w hin)
  · rw [h] at hn
    exact (Option.some.inj hn).symm
theorem sg_cS (hexec : p.tables.exec = Jvm.exec) (hb : c.code = cc) (hml : c.maxLocals = ls.size) (hown : s.vm.findClass own = some m.cls) (hts : ∀ w ∈ BG, w.before args s = true) (hE : sg_E aS aV A s s.heap) (hS : va_S A s.heap H locs) (hM : sg_M l y bytes maxL ret fr lo As aS aV v) (w1 : Cond.methodLink own index y ∈ BG) (w2 : Cond.static y ∈ BG) (w3 : Cond.initialized y.cls ∈ BG) (w4 : Cond.code y bytes maxL ret ∈ BG)
    (hd : y.cls ≠ "java/lang/invoke/MethodHandle" ∧ y.cls ≠ "java/lang/invoke/VarHandle") (hn : (parseMethodDescriptor y.desc).map (fun d => d.parameters.length) = some As.length) (hR : fr + 1 ≤ R.frames ∧ 8 + (maxL + 11) + lo ≤ R.locals) (hR3 : cells ≤ R.cells ∧ slots ≤ R.slots) (hcat : (rest.map fun v => v.category).sum ≤ 8) (hst : st0 = As.reverse ++ rest) (hdg : decode cc pc = .ok (.invokestatic index, 3))
    (kk : ∀ (H1 : Heap) (locs1 : List Loc), H.size ≤ H1.size → (∀ q : Nat, q < H.size → H1[q]? = H[q]?) → va_S A s.heap H1 locs1 → W p l e R s m args below meth c H1 locs1 cells slots Q (F0 m (pc + 3) ls (.int v :: rest))) : W p l e R s m args below meth c H locs cells slots Q (F0 m pc ls st0) := by
  subst hst
  refine vx_calli (post := fun r (_ : Unit) => r = v) (px := fun _ : Unit => False) (vx_runS (As := As) (rest := rest) (n := As.length) (Ts := BG) (own := own) (nL := ls.size) ⟨hexec, hb, hml, hown, hts⟩ hM ⟨sg_cb hts w1 w3 w4 hd hn hR, hts _ w2⟩ ⟨sg_blind, fun U hU hW => ⟨rfl, ?_⟩⟩ rfl rfl rfl rfl (lv_room hcat) hdg hR3) hS (fun q _ h => h.elim) (fun q h => h.elim) (fun q _ h => h.elim) (fun E ce q9 u t H1 locs1 _ _ hp => hp.elim) (fun r u t H1 locs1 _ _ hp _ hz hk hS1 => ?_)
  · show sg_E aS aV sg_0 U U.heap
    rw [hU]
    exact sg_E.moved hW.alike ((hE.kept hS.2.1).narrow (fun _ h => h.elim))
  · subst hp
    exact kk H1 locs1 hz (fun q h => hk q h id) hS1
theorem sg_cV (hexec : p.tables.exec = Jvm.exec) (hb : c.code = cc) (hml : c.maxLocals = ls.size) (hown : s.vm.findClass own = some m.cls) (hts : ∀ w ∈ BG, w.before args s = true) (hE : sg_E aS aV A s s.heap) (hS : va_S A s.heap H locs) (hM : sg_M l y bytes maxL ret fr lo (.ref aS :: As) aS aV v) (w1 : Cond.methodLink own index y ∈ BG) (w2 : Cond.instanceMethod y ∈ BG) (w5 : Cond.selects "java/lang/String" y y ∈ BG) (w3 : Cond.initialized y.cls ∈ BG) (w4 : Cond.code y bytes maxL ret ∈ BG)
    (hd : y.cls ≠ "java/lang/invoke/MethodHandle" ∧ y.cls ≠ "java/lang/invoke/VarHandle") (hn : (parseMethodDescriptor y.desc).map (fun d => d.parameters.length) = some As.length) (hR : fr + 1 ≤ R.frames ∧ 8 + (maxL + 11) + lo ≤ R.locals) (hR3 : cells ≤ R.cells ∧ slots ≤ R.slots) (hcat : (rest.map fun v => v.category).sum ≤ 8) (hst : st0 = As.reverse ++ .ref aS :: rest) (hdg : decode cc pc = .ok (.invokevirtual index, 3))
    (kk : ∀ (H1 : Heap) (locs1 : List Loc), H.size ≤ H1.size → (∀ q : Nat, q < H.size → H1[q]? = H[q]?) → va_S A s.heap H1 locs1 → W p l e R s m args below meth c H1 locs1 cells slots Q (F0 m (pc + 3) ls (.int v :: rest))) : W p l e R s m args below meth c H locs cells slots Q (F0 m pc ls st0) := by
  subst hst
  refine vx_calli (post := fun r (_ : Unit) => r = v) (px := fun _ : Unit => False) (vx_runV (C := "java/lang/String") (b := aS) (As := As) (rest := rest) (n := As.length) (Ts := BG) (own := own) (nL := ls.size) ⟨hexec, hb, hml, hown, hts⟩ hM ⟨sg_cb hts w1 w3 w4 hd hn hR, hts _ w2, hts _ w5⟩ ⟨sg_blind, vk_recv hE.1 (i := 0) (by decide) hS, fun U hU hW => ⟨rfl, ?_⟩⟩ rfl rfl rfl rfl (lv_room hcat) hdg hR3) hS (fun q _ h => h.elim) (fun q h => h.elim) (fun q _ h => h.elim) (fun E ce q9 u t H1 locs1 _ _ hp => hp.elim) (fun r u t H1 locs1 _ _ hp _ hz hk hS1 => ?_)
  · show sg_E aS aV sg_0 U U.heap
    rw [hU]
    exact sg_E.moved hW.alike ((hE.kept hS.2.1).narrow (fun _ h => h.elim))
  · subst hp
    exact kk H1 locs1 hz (fun q h => hk q h id) hS1
end SG
def sy_coder : MethodName := ⟨"java/lang/String", "coder", "()B"⟩
set_option maxRecDepth 20000 in
theorem sw_coder : Cond.code sy_coder prog_28_method_152_code 1 (some .byte) ∈ BG := wb (k := 5) (i := 124) rfl rfl
def sy_isL : MethodName := ⟨"java/lang/String", "isLatin1", "()Z"⟩
set_option maxRecDepth 20000 in
theorem sw_isL : Cond.code sy_isL prog_28_method_154_code 1 (some .boolean) ∈ BG := wb (k := 5) (i := 114) rfl rfl
def sy_len : MethodName := ⟨"java/lang/String", "length", "()I"⟩
set_option maxRecDepth 20000 in
theorem sw_len : Cond.code sy_len prog_28_method_54_code 1 (some .int) ∈ BG := wb (k := 5) (i := 120) rfl rfl
def sy_canE : MethodName := ⟨"java/lang/StringLatin1", "canEncode", "(I)Z"⟩
set_option maxRecDepth 20000 in
theorem sw_canE : Cond.code sy_canE prog_30_method_4_code 1 (some .boolean) ∈ BG := wb (k := 5) (i := 130) rfl rfl
def sy_ixC : MethodName := ⟨"java/lang/StringLatin1", "indexOfChar", "([BIII)I"⟩
set_option maxRecDepth 20000 in
theorem sw_ixC : Cond.code sy_ixC prog_30_method_23_code 6 (some .int) ∈ BG := wb (k := 5) (i := 139) rfl rfl
def sy_ixL : MethodName := ⟨"java/lang/StringLatin1", "indexOf", "([BIII)I"⟩
set_option maxRecDepth 20000 in
theorem sw_ixL : Cond.code sy_ixL prog_30_method_22_code 4 (some .int) ∈ BG := wb (k := 5) (i := 127) rfl rfl
def sy_ix2 : MethodName := ⟨"java/lang/String", "indexOf", "(II)I"⟩
set_option maxRecDepth 20000 in
theorem sw_ix2 : Cond.code sy_ix2 prog_28_method_80_code 3 (some .int) ∈ BG := wb (k := 5) (i := 110) rfl rfl
def sy_ix1 : MethodName := ⟨"java/lang/String", "indexOf", "(I)I"⟩
set_option maxRecDepth 20000 in
theorem sw_ix1 : Cond.code sy_ix1 prog_28_method_79_code 2 (some .int) ∈ BG := wb (k := 5) (i := 106) rfl rfl
theorem sw_iS : Cond.initialized "java/lang/String" ∈ BG := (wb (k := 1) (i := 20) rfl rfl)
theorem sw_iL : Cond.initialized "java/lang/StringLatin1" ∈ BG := (wb (k := 1) (i := 21) rfl rfl)
set_option maxHeartbeats 1000000 in
theorem sg_coder (l : Launch) (aS aV : Nat) : sg_M l sy_coder prog_28_method_152_code 1 (some .byte) 0 0 [.ref aS] aS aV 0 := by
  refine vx_ofW (cc := prog_28_method_152_code) (maxL := 1) (ret := (some .byte)) (by decide) rfl ?_
  intro p e s m args below meth c s₁ B hml ht0 hv
  obtain ⟨rfl, hE⟩ := hv
  have hx := B.exec
  have hb := B.bytes
  have hr := B.returns
  have hlk := B.notSynchronized
  have hts : ∀ w ∈ BG, w.before _ s = true := fun w h => atoms_spec (ws := Cond.code sy_coder prog_28_method_152_code 1 (some .byte) :: BG) B.pre w (List.mem_cons_of_mem _ h)
  have hown : s.vm.findClass "java/lang/String" = some m.cls := findClass_of_methodNamed B.named
  have hS : va_S sg_0 s.heap s.heap [] := va_S.rf
  have hl := lv_entry [.ref aS] (n := 1) (Nat.le_of_ble_eq_true rfl)
  rw [lg_entry_eq]
  generalize (lg_sl [.ref aS] ++ List.replicate (1 - (lg_sl [.ref aS]).length) Slot.unset).toArray = ls at hl ⊢
  have hl : lv_has ls 1 [(0, .ref aS)] := hl
  refine va_gets hx hb hE.2 hS hown (hts _ (wb (k := 5) (i := 115) rfl rfl)) (fun _ h => h) (show decode prog_28_method_152_code 0 = .ok (.getstatic 38, 3) by decide +kernel) ?_
  refine lv_if_eq (tgt := 13) hx hb (show decode prog_28_method_152_code 3 = .ok (.ifCond .eq 10, 3) by decide +kernel) (by decide) (fun q => absurd q (by decide)) (fun _ => ?_)
  refine lv_aload_n hx hb (show decode prog_28_method_152_code 6 = .ok (.aload_n 0, 1) by decide +kernel) rfl (lv_at hl 0 rfl) ?_
  refine vk_getf hx hb (hE.1.1 0 (by decide)).2.1 hS hown (hts _ (wb (k := 10) (i := 46) rfl rfl)) (fun _ h => h) (show decode prog_28_method_152_code 7 = .ok (.getfield 15, 3) by decide +kernel) ?_
  refine lv_goto (tgt := 14) hx hb (show decode prog_28_method_152_code 10 = .ok (.goto 4, 3) by decide +kernel) (by decide) ?_
  exact vx_ret (W.zret (v := 0) hx hb hr (by decide) (fun t ht hW => ⟨⟨_, (), rfl, rfl, trivial⟩, hS.F ht⟩) hS.2.2 (show decode prog_28_method_152_code 14 = .ok (.ireturn, 1) by decide +kernel) hlk)
set_option maxHeartbeats 1000000 in
theorem sg_isL (l : Launch) (aS aV : Nat) : sg_M l sy_isL prog_28_method_154_code 1 (some .boolean) 0 0 [.ref aS] aS aV 1 := by
  refine vx_ofW (cc := prog_28_method_154_code) (maxL := 1) (ret := (some .boolean)) (by decide) rfl ?_
  intro p e s m args below meth c s₁ B hml ht0 hv
  obtain ⟨rfl, hE⟩ := hv
  have hx := B.exec
  have hb := B.bytes
  have hr := B.returns
  have hlk := B.notSynchronized
  have hts : ∀ w ∈ BG, w.before _ s = true := fun w h => atoms_spec (ws := Cond.code sy_isL prog_28_method_154_code 1 (some .boolean) :: BG) B.pre w (List.mem_cons_of_mem _ h)
  have hown : s.vm.findClass "java/lang/String" = some m.cls := findClass_of_methodNamed B.named
  have hS : va_S sg_0 s.heap s.heap [] := va_S.rf
  have hl := lv_entry [.ref aS] (n := 1) (Nat.le_of_ble_eq_true rfl)
  rw [lg_entry_eq]
  generalize (lg_sl [.ref aS] ++ List.replicate (1 - (lg_sl [.ref aS]).length) Slot.unset).toArray = ls at hl ⊢
  have hl : lv_has ls 1 [(0, .ref aS)] := hl
  refine va_gets hx hb hE.2 hS hown (hts _ (wb (k := 5) (i := 115) rfl rfl)) (fun _ h => h) (show decode prog_28_method_154_code 0 = .ok (.getstatic 38, 3) by decide +kernel) ?_
  refine lv_if_eq (tgt := 17) hx hb (show decode prog_28_method_154_code 3 = .ok (.ifCond .eq 14, 3) by decide +kernel) (by decide) (fun q => absurd q (by decide)) (fun _ => ?_)
  refine lv_aload_n hx hb (show decode prog_28_method_154_code 6 = .ok (.aload_n 0, 1) by decide +kernel) rfl (lv_at hl 0 rfl) ?_
  refine vk_getf hx hb (hE.1.1 0 (by decide)).2.1 hS hown (hts _ (wb (k := 10) (i := 46) rfl rfl)) (fun _ h => h) (show decode prog_28_method_154_code 7 = .ok (.getfield 15, 3) by decide +kernel) ?_
  refine lv_if_ne (tgt := 17) hx hb (show decode prog_28_method_154_code 10 = .ok (.ifCond .ne 7, 3) by decide +kernel) (by decide) (fun q => absurd rfl q) (fun _ => ?_)
  refine lv_iconst (v := 1) hx hb (show decode prog_28_method_154_code 13 = .ok (.iconst 1, 1) by decide +kernel) (by decide) ?_
  refine lv_goto (tgt := 18) hx hb (show decode prog_28_method_154_code 14 = .ok (.goto 4, 3) by decide +kernel) (by decide) ?_
  exact vx_ret (W.zret (v := 1) hx hb hr (by decide) (fun t ht hW => ⟨⟨_, (), rfl, rfl, trivial⟩, hS.F ht⟩) hS.2.2 (show decode prog_28_method_154_code 18 = .ok (.ireturn, 1) by decide +kernel) hlk)
set_option maxHeartbeats 1000000 in
theorem sg_len (l : Launch) (aS aV : Nat) : sg_M l sy_len prog_28_method_54_code 1 (some .int) 1 20 [.ref aS] aS aV 16 := by
  refine vx_ofW (cc := prog_28_method_54_code) (maxL := 1) (ret := (some .int)) (by decide) rfl ?_
  intro p e s m args below meth c s₁ B hml ht0 hv
  obtain ⟨rfl, hE⟩ := hv
  have hx := B.exec
  have hb := B.bytes
  have hr := B.returns
  have hlk := B.notSynchronized
  have hts : ∀ w ∈ BG, w.before _ s = true := fun w h => atoms_spec (ws := Cond.code sy_len prog_28_method_54_code 1 (some .int) :: BG) B.pre w (List.mem_cons_of_mem _ h)
  have hown : s.vm.findClass "java/lang/String" = some m.cls := findClass_of_methodNamed B.named
  have hS : va_S sg_0 s.heap s.heap [] := va_S.rf
  have hl := lv_entry [.ref aS] (n := 1) (Nat.le_of_ble_eq_true rfl)
  rw [lg_entry_eq]
  generalize (lg_sl [.ref aS] ++ List.replicate (1 - (lg_sl [.ref aS]).length) Slot.unset).toArray = ls at hl ⊢
  have hl : lv_has ls 1 [(0, .ref aS)] := hl
  refine lv_aload_n hx hb (show decode prog_28_method_54_code 0 = .ok (.aload_n 0, 1) by decide +kernel) rfl (lv_at hl 0 rfl) ?_
  refine vk_getf hx hb (hE.1.1 0 (by decide)).2.2.1 hS hown (hts _ (wb (k := 10) (i := 45) rfl rfl)) (fun _ h => h) (show decode prog_28_method_54_code 1 = .ok (.getfield 9, 3) by decide +kernel) ?_
  refine va_tlen hx hb (hE.1.1 0 (by decide)).2.2.2 hS (v := 16) (by decide) (show decode prog_28_method_54_code 4 = .ok (.arraylength, 1) by decide +kernel) ?_
  refine lv_aload_n hx hb (show decode prog_28_method_54_code 5 = .ok (.aload_n 0, 1) by decide +kernel) rfl (lv_at hl 0 rfl) ?_
  refine sg_cV (As := []) (rest := [.int 16]) hx hb (by rw [hml]; exact hl.1.symm) hown hts hE hS (sg_coder l aS aV) (wb (k := 5) (i := 121) rfl rfl) (wb (k := 5) (i := 122) rfl rfl) (wb (k := 5) (i := 123) rfl rfl) sw_iS sw_coder ⟨by decide, by decide⟩ (show (parseMethodDescriptor sy_coder.desc).map (fun d => d.parameters.length) = some 0 by decide +kernel) ⟨by decide, by decide⟩ ⟨Nat.zero_le _, Nat.zero_le _⟩ (Nat.le_of_ble_eq_true rfl) rfl (show decode prog_28_method_54_code 6 = .ok (.invokevirtual 335, 3) by decide +kernel) (fun H1 locs1 hz hk hS1 => ?_)
  refine lv_ishr hx hb (show decode prog_28_method_54_code 9 = .ok (.ishr, 1) by decide +kernel) ?_
  exact vx_ret (W.iret (v := 16) hx hb hr (fun t ht hW => ⟨⟨_, (), rfl, rfl, trivial⟩, hS1.F ht⟩) hS1.2.2 (show decode prog_28_method_54_code 10 = .ok (.ireturn, 1) by decide +kernel) hlk)
set_option maxHeartbeats 1000000 in
theorem sg_canE (l : Launch) (aS aV : Nat) (ch : Int32) : sg_M l sy_canE prog_30_method_4_code 1 (some .boolean) 0 0 [.int ch] aS aV (if ch < 0 then 0 else if 255 < ch then 0 else 1) := by
  refine vx_ofW (cc := prog_30_method_4_code) (maxL := 1) (ret := (some .boolean)) (by decide) rfl ?_
  intro p e s m args below meth c s₁ B hml ht0 hv
  obtain ⟨rfl, hE⟩ := hv
  have hx := B.exec
  have hb := B.bytes
  have hr := B.returns
  have hlk := B.notSynchronized
  have hts : ∀ w ∈ BG, w.before _ s = true := fun w h => atoms_spec (ws := Cond.code sy_canE prog_30_method_4_code 1 (some .boolean) :: BG) B.pre w (List.mem_cons_of_mem _ h)
  have hown : s.vm.findClass "java/lang/StringLatin1" = some m.cls := findClass_of_methodNamed B.named
  have hS : va_S sg_0 s.heap s.heap [] := va_S.rf
  have hl := lv_entry [.int ch] (n := 1) (Nat.le_of_ble_eq_true rfl)
  rw [lg_entry_eq]
  generalize (lg_sl [.int ch] ++ List.replicate (1 - (lg_sl [.int ch]).length) Slot.unset).toArray = ls at hl ⊢
  have hl : lv_has ls 1 [(0, .int ch)] := hl
  refine lv_iload_n hx hb (show decode prog_30_method_4_code 0 = .ok (.iload_n 0, 1) by decide +kernel) rfl (lv_at hl 0 rfl) ?_
  refine lv_if_lt (tgt := 15) hx hb (show decode prog_30_method_4_code 1 = .ok (.ifCond .lt 14, 3) by decide +kernel) (by decide) (fun q => ?_) (fun q => ?_)
  · rw [if_pos q]
    refine lv_iconst (v := 0) hx hb (show decode prog_30_method_4_code 15 = .ok (.iconst 0, 1) by decide +kernel) (by decide) ?_
    exact vx_ret (W.zret (v := 0) hx hb hr (by decide) (fun t ht hW => ⟨⟨_, (), rfl, rfl, trivial⟩, hS.F ht⟩) hS.2.2 (show decode prog_30_method_4_code 16 = .ok (.ireturn, 1) by decide +kernel) hlk)
  · rw [if_neg q]
    refine lv_iload_n hx hb (show decode prog_30_method_4_code 4 = .ok (.iload_n 0, 1) by decide +kernel) rfl (lv_at hl 0 rfl) ?_
    refine lv_sipush (v := 255) hx hb (show decode prog_30_method_4_code 5 = .ok (.sipush 255, 3) by decide +kernel) (by decide) ?_
    refine lv_icmp_gt (tgt := 15) hx hb (show decode prog_30_method_4_code 8 = .ok (.if_icmp .gt 7, 3) by decide +kernel) (by decide) (fun q2 => ?_) (fun q2 => ?_)
    · rw [if_pos q2]
      refine lv_iconst (v := 0) hx hb (show decode prog_30_method_4_code 15 = .ok (.iconst 0, 1) by decide +kernel) (by decide) ?_
      exact vx_ret (W.zret (v := 0) hx hb hr (by decide) (fun t ht hW => ⟨⟨_, (), rfl, rfl, trivial⟩, hS.F ht⟩) hS.2.2 (show decode prog_30_method_4_code 16 = .ok (.ireturn, 1) by decide +kernel) hlk)
    · rw [if_neg q2]
      refine lv_iconst (v := 1) hx hb (show decode prog_30_method_4_code 11 = .ok (.iconst 1, 1) by decide +kernel) (by decide) ?_
      refine lv_goto (tgt := 16) hx hb (show decode prog_30_method_4_code 12 = .ok (.goto 4, 3) by decide +kernel) (by decide) ?_
      exact vx_ret (W.zret (v := 1) hx hb hr (by decide) (fun t ht hW => ⟨⟨_, (), rfl, rfl, trivial⟩, hS.F ht⟩) hS.2.2 (show decode prog_30_method_4_code 16 = .ok (.ireturn, 1) by decide +kernel) hlk)
def sg_ix : List Int32 → Int32 → Nat → Int32
  | [], _, _ => -1
  | x :: r, y, k => if x = y then Int32.ofNat k else sg_ix r y (k + 1)
set_option maxHeartbeats 1000000 in
theorem sg_ixC (l : Launch) (aS aV : Nat) (ch : Int32) : sg_M l sy_ixC prog_30_method_23_code 6 (some .int) 0 0 [.ref aV, .int ch, .int 0, .int 16] aS aV (sg_ix sg_b ch.toInt8.toInt32 0) := by
  refine vx_ofW (cc := prog_30_method_23_code) (maxL := 6) (ret := (some .int)) (by decide) rfl ?_
  intro p e s m args below meth c s₁ B hml ht0 hv
  obtain ⟨rfl, hE⟩ := hv
  have hx := B.exec
  have hb := B.bytes
  have hr := B.returns
  have hlk := B.notSynchronized
  have hts : ∀ w ∈ BG, w.before _ s = true := fun w h => atoms_spec (ws := Cond.code sy_ixC prog_30_method_23_code 6 (some .int) :: BG) B.pre w (List.mem_cons_of_mem _ h)
  have hown : s.vm.findClass "java/lang/StringLatin1" = some m.cls := findClass_of_methodNamed B.named
  have hS : va_S sg_0 s.heap s.heap [] := va_S.rf
  have hl := lv_entry [.ref aV, .int ch, .int 0, .int 16] (n := 6) (Nat.le_of_ble_eq_true rfl)
  rw [lg_entry_eq]
  generalize (lg_sl [.ref aV, .int ch, .int 0, .int 16] ++ List.replicate (6 - (lg_sl [.ref aV, .int ch, .int 0, .int 16]).length) Slot.unset).toArray = ls at hl ⊢
  have hl : lv_has ls 6 [(0, .ref aV), (1, .int ch), (2, .int 0), (3, .int 16)] := hl
  have loop : ∀ (n k : Nat), k + n = 16 → ∀ ls : Array Slot, lv_has ls 6 [(5, .int (Int32.ofNat k)), (4, .int ch.toInt8.toInt32), (0, .ref aV), (1, .int ch), (2, .int 0), (3, .int 16)] → W p l e (headSpec (Cond.code sy_ixC prog_30_method_23_code 6 (some .int) :: BG) { frames := 0, cells := 0, slots := 0, locals := 0 }).room s m ([.ref aV, .int ch, .int 0, .int 16] : List Value).toArray below meth c s.heap [] 0 0 (vx_MQ below (va_Qi (fun r (_ : Unit) => r = sg_ix (sg_b.drop k) ch.toInt8.toInt32 k) (fun _ _ => True) sg_0) (vx_X (fun _ : Unit => False) (fun _ _ _ => True) sg_0) ([.ref aV, .int ch, .int 0, .int 16] : List Value).toArray s 0 0 sg_0) (F0 m 7 ls []) := by
    intro n
    induction n with
    | zero =>
      intro k hk ls hl
      obtain rfl : k = 16 := by omega
      refine lv_iload hx hb (show decode prog_30_method_23_code 7 = .ok (.iload 5, 2) by decide +kernel) (lv_at hl 0 rfl) ?_
      refine lv_iload_n hx hb (show decode prog_30_method_23_code 9 = .ok (.iload_n 3, 1) by decide +kernel) rfl (lv_at hl 5 rfl) ?_
      refine lv_icmp_ge (tgt := 31) hx hb (show decode prog_30_method_23_code 10 = .ok (.if_icmp .ge 21, 3) by decide +kernel) (by decide) (fun q => ?_) (fun q => absurd (by decide) q)
      refine lv_iconst (v := -1) hx hb (show decode prog_30_method_23_code 31 = .ok (.iconst (-1), 1) by decide +kernel) (by decide) ?_
      exact vx_ret (W.iret (v := (-1)) hx hb hr (fun t ht hW => ⟨⟨_, (), rfl, rfl, trivial⟩, hS.F ht⟩) hS.2.2 (show decode prog_30_method_23_code 32 = .ok (.ireturn, 1) by decide +kernel) hlk)
    | succ n ih =>
      intro k hk ls hl
      have h16 : k < 16 := by omega
      have e1 : (Int32.ofNat k).toNatClampNeg = k := nI_clamp (by omega)
      refine lv_iload hx hb (show decode prog_30_method_23_code 7 = .ok (.iload 5, 2) by decide +kernel) (lv_at hl 0 rfl) ?_
      refine lv_iload_n hx hb (show decode prog_30_method_23_code 9 = .ok (.iload_n 3, 1) by decide +kernel) rfl (lv_at hl 5 rfl) ?_
      refine lv_icmp_ge (tgt := 31) hx hb (show decode prog_30_method_23_code 10 = .ok (.if_icmp .ge 21, 3) by decide +kernel) (by decide) (fun q => ?_) (fun _ => ?_)
      · exact absurd ((sm_le (x := 16) (y := (k : Int)) (by unfold sm_ni; omega) (by unfold sm_ni; omega)).mp q) (by omega)
      refine lv_aload_n hx hb (show decode prog_30_method_23_code 13 = .ok (.aload_n 0, 1) by decide +kernel) rfl (lv_at hl 2 rfl) ?_
      refine lv_iload hx hb (show decode prog_30_method_23_code 14 = .ok (.iload 5, 2) by decide +kernel) (lv_at hl 0 rfl) ?_
      refine va_tb hx hb (hE.1.1 0 (by decide)).2.2.2 hS (vp_in_nI h16 (by decide)) (v := .int (sg_b.getD k 0)) (by rw [e1]; rfl) (show decode prog_30_method_23_code 16 = .ok (.baload, 1) by decide +kernel) ?_
      refine lv_iload hx hb (show decode prog_30_method_23_code 17 = .ok (.iload 4, 2) by decide +kernel) (lv_at hl 1 rfl) ?_
      have e2 : sg_b.drop k = sg_b.getD k 0 :: sg_b.drop (k + 1) := by
        have h2 : k < sg_b.length := h16
        rw [List.drop_eq_getElem_cons h2, List.getD_eq_getElem?_getD, List.getElem?_eq_getElem h2]
        rfl
      rw [e2]
      refine lv_icmp_ne (tgt := 25) hx hb (show decode prog_30_method_23_code 19 = .ok (.if_icmp .ne 6, 3) by decide +kernel) (by decide) (fun q => ?_) (fun q => ?_)
      · refine lv_iinc (k := 0) (v := Int32.ofNat (k + 1)) hx hb (show decode prog_30_method_23_code 25 = .ok (.iinc 5 1, 3) by decide +kernel) hl rfl ?_ (by decide) rfl (fun ls1 hl1 => ?_)
        · exact (Int32.ofNat_add k 1).symm
        refine lv_goto (tgt := 7) hx hb (show decode prog_30_method_23_code 28 = .ok (.goto (-21), 3) by decide +kernel) (by decide) ?_
        have h3 := ih (k + 1) (by omega) ls1 hl1
        rw [show sg_ix (sg_b.getD k 0 :: sg_b.drop (k + 1)) ch.toInt8.toInt32 k = sg_ix (sg_b.drop (k + 1)) ch.toInt8.toInt32 (k + 1) from if_neg q]
        exact h3
      · refine lv_iload hx hb (show decode prog_30_method_23_code 22 = .ok (.iload 5, 2) by decide +kernel) (lv_at hl 0 rfl) ?_
        rw [show sg_ix (sg_b.getD k 0 :: sg_b.drop (k + 1)) ch.toInt8.toInt32 k = Int32.ofNat k from if_pos q]
        exact vx_ret (W.iret (v := (Int32.ofNat k)) hx hb hr (fun t ht hW => ⟨⟨_, (), rfl, rfl, trivial⟩, hS.F ht⟩) hS.2.2 (show decode prog_30_method_23_code 24 = .ok (.ireturn, 1) by decide +kernel) hlk)
  refine lv_iload_n hx hb (show decode prog_30_method_23_code 0 = .ok (.iload_n 1, 1) by decide +kernel) rfl (lv_at hl 1 rfl) ?_
  refine lv_i2b (v := ch.toInt8.toInt32) hx hb (show decode prog_30_method_23_code 1 = .ok (.i2b, 1) by decide +kernel) rfl ?_
  refine lv_istore hx hb (show decode prog_30_method_23_code 2 = .ok (.istore 4, 2) by decide +kernel) hl (by decide) rfl (fun ls1 hl1 => ?_)
  refine lv_iload_n hx hb (show decode prog_30_method_23_code 4 = .ok (.iload_n 2, 1) by decide +kernel) rfl (lv_at hl1 3 rfl) ?_
  refine lv_istore hx hb (show decode prog_30_method_23_code 5 = .ok (.istore 5, 2) by decide +kernel) hl1 (by decide) rfl (fun ls2 hl2 => ?_)
  exact loop 16 0 rfl ls2 hl2
set_option maxHeartbeats 1000000 in
theorem sg_ixL (l : Launch) (aS aV : Nat) (ch : Int32) : sg_M l sy_ixL prog_30_method_22_code 4 (some .int) 2 60 [.ref aV, .int ch, .int 0, .int 16] aS aV (if ch < 0 then -1 else if 255 < ch then -1 else sg_ix sg_b ch.toInt8.toInt32 0) := by
  refine vx_ofW (cc := prog_30_method_22_code) (maxL := 4) (ret := (some .int)) (by decide) rfl ?_
  intro p e s m args below meth c s₁ B hml ht0 hv
  obtain ⟨rfl, hE⟩ := hv
  have hx := B.exec
  have hb := B.bytes
  have hr := B.returns
  have hlk := B.notSynchronized
  have hts : ∀ w ∈ BG, w.before _ s = true := fun w h => atoms_spec (ws := Cond.code sy_ixL prog_30_method_22_code 4 (some .int) :: BG) B.pre w (List.mem_cons_of_mem _ h)
  have hown : s.vm.findClass "java/lang/StringLatin1" = some m.cls := findClass_of_methodNamed B.named
  have hS : va_S sg_0 s.heap s.heap [] := va_S.rf
  have hl := lv_entry [.ref aV, .int ch, .int 0, .int 16] (n := 4) (Nat.le_of_ble_eq_true rfl)
  rw [lg_entry_eq]
  generalize (lg_sl [.ref aV, .int ch, .int 0, .int 16] ++ List.replicate (4 - (lg_sl [.ref aV, .int ch, .int 0, .int 16]).length) Slot.unset).toArray = ls at hl ⊢
  have hl : lv_has ls 4 [(0, .ref aV), (1, .int ch), (2, .int 0), (3, .int 16)] := hl
  refine lv_iload_n hx hb (show decode prog_30_method_22_code 0 = .ok (.iload_n 1, 1) by decide +kernel) rfl (lv_at hl 1 rfl) ?_
  refine sg_cS (As := [.int ch]) (rest := []) hx hb (by rw [hml]; exact hl.1.symm) hown hts hE hS (sg_canE l aS aV ch) (wb (k := 5) (i := 128) rfl rfl) (wb (k := 5) (i := 129) rfl rfl) sw_iL sw_canE ⟨by decide, by decide⟩ (show (parseMethodDescriptor sy_canE.desc).map (fun d => d.parameters.length) = some 1 by decide +kernel) ⟨by decide, by decide⟩ ⟨Nat.zero_le _, Nat.zero_le _⟩ (Nat.le_of_ble_eq_true rfl) rfl (show decode prog_30_method_22_code 1 = .ok (.invokestatic 88, 3) by decide +kernel) (fun H1 locs1 hz hk hS1 => ?_)
  have hc : ∀ z : Int32, (if ch < 0 then (0 : Int32) else if 255 < ch then 0 else 1) = z → ¬ z = 0 → ¬ ch < 0 ∧ ¬ 255 < ch := by
    intro z hz0 hz1
    subst hz0
    split at hz1
    · exact absurd rfl hz1
    · rename_i q1
      split at hz1
      · exact absurd rfl hz1
      · rename_i q2
        exact ⟨q1, q2⟩
  refine lv_if_ne (tgt := 9) hx hb (show decode prog_30_method_22_code 4 = .ok (.ifCond .ne 5, 3) by decide +kernel) (by decide) (fun q => ?_) (fun q => ?_)
  · obtain ⟨q1, q2⟩ := hc _ rfl q
    rw [if_neg q1, if_neg q2]
    refine lv_iload_n hx hb (show decode prog_30_method_22_code 9 = .ok (.iload_n 2, 1) by decide +kernel) rfl (lv_at hl 2 rfl) ?_
    refine lv_iconst (v := 0) hx hb (show decode prog_30_method_22_code 10 = .ok (.iconst 0, 1) by decide +kernel) (by decide) ?_
    refine va_mmax hx hb (by rw [hml]; exact hl.1.symm) hown (hts _ (wb (k := 5) (i := 131) rfl rfl)) (hts _ nt_wx.1) (hts _ nt_wx.2.1) (hts _ nt_wx.2.2) (by decide) (by decide) (Nat.zero_le _) (Nat.zero_le _) (show decode prog_30_method_22_code 11 = .ok (.invokestatic 92, 3) by decide +kernel) ?_
    rw [show (if (0 : Int32) < 0 then (0 : Int32) else 0) = 0 by decide]
    refine lv_istore_n hx hb (show decode prog_30_method_22_code 14 = .ok (.istore_n 2, 1) by decide +kernel) rfl hl (by decide) rfl (fun ls1 hl1 => ?_)
    refine lv_iload_n hx hb (show decode prog_30_method_22_code 15 = .ok (.iload_n 3, 1) by decide +kernel) rfl (lv_at hl1 3 rfl) ?_
    refine lv_aload_n hx hb (show decode prog_30_method_22_code 16 = .ok (.aload_n 0, 1) by decide +kernel) rfl (lv_at hl1 1 rfl) ?_
    refine va_tlen hx hb (hE.1.1 0 (by decide)).2.2.2 hS1 (v := 16) (by decide) (show decode prog_30_method_22_code 17 = .ok (.arraylength, 1) by decide +kernel) ?_
    refine va_mmin hx hb (by rw [hml]; exact hl1.1.symm) hown (hts _ (wb (k := 5) (i := 134) rfl rfl)) (hts _ nt_wn.1) (hts _ nt_wn.2.1) (hts _ nt_wn.2.2) (by decide) (by decide) (Nat.zero_le _) (Nat.zero_le _) (show decode prog_30_method_22_code 18 = .ok (.invokestatic 38, 3) by decide +kernel) ?_
    rw [show (if (16 : Int32) < 16 then (16 : Int32) else 16) = 16 by decide]
    refine lv_istore_n hx hb (show decode prog_30_method_22_code 21 = .ok (.istore_n 3, 1) by decide +kernel) rfl hl1 (by decide) rfl (fun ls2 hl2 => ?_)
    refine lv_iload_n hx hb (show decode prog_30_method_22_code 22 = .ok (.iload_n 2, 1) by decide +kernel) rfl (lv_at hl2 1 rfl) ?_
    refine lv_iload_n hx hb (show decode prog_30_method_22_code 23 = .ok (.iload_n 3, 1) by decide +kernel) rfl (lv_at hl2 0 rfl) ?_
    refine lv_icmp_lt (tgt := 29) hx hb (show decode prog_30_method_22_code 24 = .ok (.if_icmp .lt 5, 3) by decide +kernel) (by decide) (fun _ => ?_) (fun q3 => absurd (by decide) q3)
    refine lv_aload_n hx hb (show decode prog_30_method_22_code 29 = .ok (.aload_n 0, 1) by decide +kernel) rfl (lv_at hl2 2 rfl) ?_
    refine lv_iload_n hx hb (show decode prog_30_method_22_code 30 = .ok (.iload_n 1, 1) by decide +kernel) rfl (lv_at hl2 3 rfl) ?_
    refine lv_iload_n hx hb (show decode prog_30_method_22_code 31 = .ok (.iload_n 2, 1) by decide +kernel) rfl (lv_at hl2 1 rfl) ?_
    refine lv_iload_n hx hb (show decode prog_30_method_22_code 32 = .ok (.iload_n 3, 1) by decide +kernel) rfl (lv_at hl2 0 rfl) ?_
    refine sg_cS (As := [.ref aV, .int ch, .int 0, .int 16]) (rest := []) hx hb (by rw [hml]; exact hl2.1.symm) hown hts hE hS1 (sg_ixC l aS aV ch) (wb (k := 5) (i := 137) rfl rfl) (wb (k := 5) (i := 138) rfl rfl) sw_iL sw_ixC ⟨by decide, by decide⟩ (show (parseMethodDescriptor sy_ixC.desc).map (fun d => d.parameters.length) = some 4 by decide +kernel) ⟨by decide, by decide⟩ ⟨Nat.zero_le _, Nat.zero_le _⟩ (Nat.le_of_ble_eq_true rfl) rfl (show decode prog_30_method_22_code 33 = .ok (.invokestatic 95, 3) by decide +kernel) (fun H2 locs2 hz2 hk2 hS2 => ?_)
    exact vx_ret (W.iret (v := (sg_ix sg_b ch.toInt8.toInt32 0)) hx hb hr (fun t ht hW => ⟨⟨_, (), rfl, rfl, trivial⟩, hS2.F ht⟩) hS2.2.2 (show decode prog_30_method_22_code 36 = .ok (.ireturn, 1) by decide +kernel) hlk)
  · have e9 : (if ch < 0 then (-1 : Int32) else if 255 < ch then -1 else sg_ix sg_b ch.toInt8.toInt32 0) = -1 := by
      split at q
      · rename_i q1
        rw [if_pos q1]
      · rename_i q1
        rw [if_neg q1]
        split at q
        · rename_i q2
          rw [if_pos q2]
        · exact absurd q (by decide)
    rw [e9]
    refine lv_iconst (v := -1) hx hb (show decode prog_30_method_22_code 7 = .ok (.iconst (-1), 1) by decide +kernel) (by decide) ?_
    exact vx_ret (W.iret (v := (-1)) hx hb hr (fun t ht hW => ⟨⟨_, (), rfl, rfl, trivial⟩, hS1.F ht⟩) hS1.2.2 (show decode prog_30_method_22_code 8 = .ok (.ireturn, 1) by decide +kernel) hlk)
set_option maxHeartbeats 1000000 in
theorem sg_ix2 (l : Launch) (aS aV : Nat) (ch : Int32) : sg_M l sy_ix2 prog_28_method_80_code 3 (some .int) 3 90 [.ref aS, .int ch, .int 0] aS aV (if ch < 0 then -1 else if 255 < ch then -1 else sg_ix sg_b ch.toInt8.toInt32 0) := by
  refine vx_ofW (cc := prog_28_method_80_code) (maxL := 3) (ret := (some .int)) (by decide) rfl ?_
  intro p e s m args below meth c s₁ B hml ht0 hv
  obtain ⟨rfl, hE⟩ := hv
  have hx := B.exec
  have hb := B.bytes
  have hr := B.returns
  have hlk := B.notSynchronized
  have hts : ∀ w ∈ BG, w.before _ s = true := fun w h => atoms_spec (ws := Cond.code sy_ix2 prog_28_method_80_code 3 (some .int) :: BG) B.pre w (List.mem_cons_of_mem _ h)
  have hown : s.vm.findClass "java/lang/String" = some m.cls := findClass_of_methodNamed B.named
  have hS : va_S sg_0 s.heap s.heap [] := va_S.rf
  have hl := lv_entry [.ref aS, .int ch, .int 0] (n := 3) (Nat.le_of_ble_eq_true rfl)
  rw [lg_entry_eq]
  generalize (lg_sl [.ref aS, .int ch, .int 0] ++ List.replicate (3 - (lg_sl [.ref aS, .int ch, .int 0]).length) Slot.unset).toArray = ls at hl ⊢
  have hl : lv_has ls 3 [(0, .ref aS), (1, .int ch), (2, .int 0)] := hl
  refine lv_aload_n hx hb (show decode prog_28_method_80_code 0 = .ok (.aload_n 0, 1) by decide +kernel) rfl (lv_at hl 0 rfl) ?_
  refine sg_cV (As := []) (rest := []) hx hb (by rw [hml]; exact hl.1.symm) hown hts hE hS (sg_isL l aS aV) (wb (k := 5) (i := 111) rfl rfl) (wb (k := 5) (i := 112) rfl rfl) (wb (k := 5) (i := 113) rfl rfl) sw_iS sw_isL ⟨by decide, by decide⟩ (show (parseMethodDescriptor sy_isL.desc).map (fun d => d.parameters.length) = some 0 by decide +kernel) ⟨by decide, by decide⟩ ⟨Nat.zero_le _, Nat.zero_le _⟩ (Nat.le_of_ble_eq_true rfl) rfl (show decode prog_28_method_80_code 1 = .ok (.invokevirtual 492, 3) by decide +kernel) (fun H1 locs1 hz hk hS1 => ?_)
  refine lv_if_eq (tgt := 23) hx hb (show decode prog_28_method_80_code 4 = .ok (.ifCond .eq 19, 3) by decide +kernel) (by decide) (fun q => absurd q (by decide)) (fun _ => ?_)
  refine lv_aload_n hx hb (show decode prog_28_method_80_code 7 = .ok (.aload_n 0, 1) by decide +kernel) rfl (lv_at hl 0 rfl) ?_
  refine vk_getf hx hb (hE.1.1 0 (by decide)).2.2.1 hS1 hown (hts _ (wb (k := 10) (i := 45) rfl rfl)) (fun _ h => h) (show decode prog_28_method_80_code 8 = .ok (.getfield 9, 3) by decide +kernel) ?_
  refine lv_iload_n hx hb (show decode prog_28_method_80_code 11 = .ok (.iload_n 1, 1) by decide +kernel) rfl (lv_at hl 1 rfl) ?_
  refine lv_iload_n hx hb (show decode prog_28_method_80_code 12 = .ok (.iload_n 2, 1) by decide +kernel) rfl (lv_at hl 2 rfl) ?_
  refine lv_aload_n hx hb (show decode prog_28_method_80_code 13 = .ok (.aload_n 0, 1) by decide +kernel) rfl (lv_at hl 0 rfl) ?_
  refine sg_cV (As := []) (rest := [.int 0, .int ch, .ref aV]) hx hb (by rw [hml]; exact hl.1.symm) hown hts hE hS1 (sg_len l aS aV) (wb (k := 5) (i := 117) rfl rfl) (wb (k := 5) (i := 118) rfl rfl) (wb (k := 5) (i := 119) rfl rfl) sw_iS sw_len ⟨by decide, by decide⟩ (show (parseMethodDescriptor sy_len.desc).map (fun d => d.parameters.length) = some 0 by decide +kernel) ⟨by decide, by decide⟩ ⟨Nat.zero_le _, Nat.zero_le _⟩ (Nat.le_of_ble_eq_true rfl) rfl (show decode prog_28_method_80_code 14 = .ok (.invokevirtual 505, 3) by decide +kernel) (fun H2 locs2 hz2 hk2 hS2 => ?_)
  refine sg_cS (As := [.ref aV, .int ch, .int 0, .int 16]) (rest := []) hx hb (by rw [hml]; exact hl.1.symm) hown hts hE hS2 (sg_ixL l aS aV ch) (wb (k := 5) (i := 125) rfl rfl) (wb (k := 5) (i := 126) rfl rfl) sw_iL sw_ixL ⟨by decide, by decide⟩ (show (parseMethodDescriptor sy_ixL.desc).map (fun d => d.parameters.length) = some 4 by decide +kernel) ⟨by decide, by decide⟩ ⟨Nat.zero_le _, Nat.zero_le _⟩ (Nat.le_of_ble_eq_true rfl) rfl (show decode prog_28_method_80_code 17 = .ok (.invokestatic 637, 3) by decide +kernel) (fun H3 locs3 hz3 hk3 hS3 => ?_)
  refine lv_goto (tgt := 36) hx hb (show decode prog_28_method_80_code 20 = .ok (.goto 16, 3) by decide +kernel) (by decide) ?_
  exact vx_ret (W.iret (v := (if ch < 0 then -1 else if 255 < ch then -1 else sg_ix sg_b ch.toInt8.toInt32 0)) hx hb hr (fun t ht hW => ⟨⟨_, (), rfl, rfl, trivial⟩, hS3.F ht⟩) hS3.2.2 (show decode prog_28_method_80_code 36 = .ok (.ireturn, 1) by decide +kernel) hlk)
set_option maxHeartbeats 1000000 in
theorem sg_ix1 (l : Launch) (aS aV : Nat) (ch : Int32) : sg_M l sy_ix1 prog_28_method_79_code 2 (some .int) 4 115 [.ref aS, .int ch] aS aV (if ch < 0 then -1 else if 255 < ch then -1 else sg_ix sg_b ch.toInt8.toInt32 0) := by
  refine vx_ofW (cc := prog_28_method_79_code) (maxL := 2) (ret := (some .int)) (by decide) rfl ?_
  intro p e s m args below meth c s₁ B hml ht0 hv
  obtain ⟨rfl, hE⟩ := hv
  have hx := B.exec
  have hb := B.bytes
  have hr := B.returns
  have hlk := B.notSynchronized
  have hts : ∀ w ∈ BG, w.before _ s = true := fun w h => atoms_spec (ws := Cond.code sy_ix1 prog_28_method_79_code 2 (some .int) :: BG) B.pre w (List.mem_cons_of_mem _ h)
  have hown : s.vm.findClass "java/lang/String" = some m.cls := findClass_of_methodNamed B.named
  have hS : va_S sg_0 s.heap s.heap [] := va_S.rf
  have hl := lv_entry [.ref aS, .int ch] (n := 2) (Nat.le_of_ble_eq_true rfl)
  rw [lg_entry_eq]
  generalize (lg_sl [.ref aS, .int ch] ++ List.replicate (2 - (lg_sl [.ref aS, .int ch]).length) Slot.unset).toArray = ls at hl ⊢
  have hl : lv_has ls 2 [(0, .ref aS), (1, .int ch)] := hl
  refine lv_aload_n hx hb (show decode prog_28_method_79_code 0 = .ok (.aload_n 0, 1) by decide +kernel) rfl (lv_at hl 0 rfl) ?_
  refine lv_iload_n hx hb (show decode prog_28_method_79_code 1 = .ok (.iload_n 1, 1) by decide +kernel) rfl (lv_at hl 1 rfl) ?_
  refine lv_iconst (v := 0) hx hb (show decode prog_28_method_79_code 2 = .ok (.iconst 0, 1) by decide +kernel) (by decide) ?_
  refine sg_cV (As := [.int ch, .int 0]) (rest := []) hx hb (by rw [hml]; exact hl.1.symm) hown hts hE hS (sg_ix2 l aS aV ch) (wb (k := 5) (i := 107) rfl rfl) (wb (k := 5) (i := 108) rfl rfl) (wb (k := 5) (i := 109) rfl rfl) sw_iS sw_ix2 ⟨by decide, by decide⟩ (show (parseMethodDescriptor sy_ix2.desc).map (fun d => d.parameters.length) = some 2 by decide +kernel) ⟨by decide, by decide⟩ ⟨Nat.zero_le _, Nat.zero_le _⟩ (Nat.le_of_ble_eq_true rfl) rfl (show decode prog_28_method_79_code 3 = .ok (.invokevirtual 633, 3) by decide +kernel) (fun H1 locs1 hz hk hS1 => ?_)
  exact vx_ret (W.iret (v := (if ch < 0 then -1 else if 255 < ch then -1 else sg_ix sg_b ch.toInt8.toInt32 0)) hx hb hr (fun t ht hW => ⟨⟨_, (), rfl, rfl, trivial⟩, hS1.F ht⟩) hS1.2.2 (show decode prog_28_method_79_code 6 = .ok (.ireturn, 1) by decide +kernel) hlk)
theorem sg_val {x : Int} (h0 : 0 ≤ x) (h1 : x < 65536) : (if Int32.ofInt x < 0 then (-1 : Int32) else if 255 < Int32.ofInt x then -1 else sg_ix sg_b (Int32.ofInt x).toInt8.toInt32 0) = Int32.ofInt (mt_ix mt_sgn x 0) ∧ sm_ni (mt_ix mt_sgn x 0) := by
  have nx : sm_ni x := by unfold sm_ni; omega
  have q1 : ¬ Int32.ofInt x < 0 := sm_nlt nx h0
  rw [if_neg q1]
  by_cases c : 255 < x
  · rw [if_pos (by rw [show (255 : Int32) = Int32.ofInt 255 by decide, sm_lt (by unfold sm_ni; omega) nx]; exact c)]
    have e : mt_ix mt_sgn x 0 = -1 := by
      unfold mt_sgn
      simp only [mt_ix]
      repeat' split
      all_goals first | rfl | omega
    rw [e]
    exact ⟨by decide, by unfold sm_ni; decide⟩
  · rw [if_neg (by rw [show (255 : Int32) = Int32.ofInt 255 by decide, sm_lt (by unfold sm_ni; omega) nx]; exact c)]
    have h2 : ∀ k : Nat, k < 256 → sg_ix sg_b (Int32.ofInt (k : Int)).toInt8.toInt32 0 = Int32.ofInt (mt_ix mt_sgn (k : Int) 0) ∧ (-2147483648 ≤ mt_ix mt_sgn (k : Int) 0 ∧ mt_ix mt_sgn (k : Int) 0 ≤ 2147483647) := by decide +kernel
    have h3 := h2 x.toNat (by omega)
    rw [show ((x.toNat : Nat) : Int) = x by omega] at h3
    exact h3
theorem sg_300 {sc : Nat × (Nat → Int)} : nt_P sc 195 110 2 300 0 := by
  intro L st S S' u hb0 hL hsm hu
  replace hu : mt_nat sc 300 [] S = some (u, S') := hu
  cases hu
  intro p l e R s m args below meth c cells slots Q ad D K hcx _ _ _ _ G
  obtain ⟨hx, hb, hts, hown, hK, hml, hr, hlocks, hev, -⟩ := hcx
  intro ls H locs hl hw h1 h2 h3
  exact va_ldcS hx hb hown hev.2.2.2.1 (show decode (mt_b 195) 110 = .ok (.ldc 67, 2) by decide +kernel) (G ls H locs hl hw (sm_nst_cons (show (0 : Nat) < sh_cz 301 by decide) h1) h2 h3)
theorem sg_10 {sc : Nat × (Nat → Int)} : nt_P sc 195 114 3 10 2 := by
  intro L st S S' u hb0 hL hsm hu
  obtain ⟨vs, hvs⟩ : ∃ vs, (st.take 2).reverse = vs := ⟨_, rfl⟩
  have hst := nt_sh hvs
  rw [hvs] at hu
  generalize st.drop 2 = r at hst hsm ⊢
  subst hst
  replace hu : mt_nat sc 10 vs S = some (u, S') := hu
  unfold mt_nat at hu
  rw [if_neg (by decide), if_neg (by decide), if_neg (by decide), if_pos rfl] at hu
  split at hu
  · rename_i x
    split at hu
    · rename_i hc
      simp only [Bool.and_eq_true, decide_eq_true_eq] at hc
      cases hu
      obtain ⟨v1, v2⟩ := sg_val hc.1 hc.2
      intro p l e R s m args below meth c cells slots Q ad D K hcx hR1 hR2 hR3 hR4 G
      obtain ⟨hx, hb, hts, hown, hK, hml, hr, hlocks, hev, -⟩ := hcx
      intro ls H locs hl hw h1 h2 h3
      obtain ⟨aV, hE⟩ := hev.2.2.1
      refine sg_cV (v := Int32.ofInt (mt_ix mt_sgn x 0)) (As := [.int (Int32.ofInt x)]) (rest := r.map (sm_tr ad)) hx hb (by rw [hml, ← hL]; exact hl.1.symm) hown hts hE hw.2.2 (by rw [← v1]; exact sg_ix1 l (ad 301 0) aV (Int32.ofInt x)) (wb (k := 5) (i := 103) rfl rfl) (wb (k := 5) (i := 104) rfl rfl) (wb (k := 5) (i := 105) rfl rfl) sw_iS sw_ix1 ⟨by decide, by decide⟩ (show (parseMethodDescriptor sy_ix1.desc).map (fun d => d.parameters.length) = some 1 by decide +kernel) ⟨by omega, by omega⟩ ⟨hR3, hR4⟩ (by rw [sm_cat_tr]; exact hsm) rfl (show decode (mt_b 195) 114 = .ok (.invokevirtual 69, 3) by decide +kernel) (fun H1 locs1 hz hk hS1 => ?_)
      refine G ls H1 locs1 hl ⟨sm_P_kept hw.1 hk, hw.2.1, hS1⟩ (sm_nst_cons v2 (sm_nst_tl (sm_nst_tl h1))) h2 h3
    · cases hu
  · cases hu
