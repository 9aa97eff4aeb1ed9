abbrev cX12_designAt : ByteArray := prog_1_method_61_code
def yX12_designAt : MethodName := ⟨RX12, "designAt", "(I)LChipFlow$Design;"⟩
theorem dX12_designAt_0 : decode cX12_designAt 0 = .ok (.iload_n 1, 1) := by decide +kernel
theorem dX12_designAt_1 : decode cX12_designAt 1 = .ok (.ifCond .lt 25, 3) := by decide +kernel
theorem dX12_designAt_4 : decode cX12_designAt 4 = .ok (.iload_n 1, 1) := by decide +kernel
theorem dX12_designAt_5 : decode cX12_designAt 5 = .ok (.bipush 6, 2) := by decide +kernel
theorem dX12_designAt_7 : decode cX12_designAt 7 = .ok (.if_icmp .ge 19, 3) := by decide +kernel
theorem dX12_designAt_10 : decode cX12_designAt 10 = .ok (.aload_n 0, 1) := by decide +kernel
theorem dX12_designAt_11 : decode cX12_designAt 11 = .ok (.getfield 64, 3) := by decide +kernel
theorem dX12_designAt_14 : decode cX12_designAt 14 = .ok (.iload_n 1, 1) := by decide +kernel
theorem dX12_designAt_15 : decode cX12_designAt 15 = .ok (.aaload, 1) := by decide +kernel
theorem dX12_designAt_16 : decode cX12_designAt 16 = .ok (.getfield 148, 3) := by decide +kernel
theorem dX12_designAt_19 : decode cX12_designAt 19 = .ok (.ifCond .eq 7, 3) := by decide +kernel
theorem dX12_designAt_22 : decode cX12_designAt 22 = .ok (.iconst 1, 1) := by decide +kernel
theorem dX12_designAt_23 : decode cX12_designAt 23 = .ok (.goto 4, 3) := by decide +kernel
theorem dX12_designAt_26 : decode cX12_designAt 26 = .ok (.iconst 0, 1) := by decide +kernel
theorem dX12_designAt_27 : decode cX12_designAt 27 = .ok (.invokestatic 189, 3) := by decide +kernel
theorem dX12_designAt_30 : decode cX12_designAt 30 = .ok (.aload_n 0, 1) := by decide +kernel
theorem dX12_designAt_31 : decode cX12_designAt 31 = .ok (.getfield 64, 3) := by decide +kernel
theorem dX12_designAt_34 : decode cX12_designAt 34 = .ok (.iload_n 1, 1) := by decide +kernel
theorem dX12_designAt_35 : decode cX12_designAt 35 = .ok (.aaload, 1) := by decide +kernel
theorem dX12_designAt_36 : decode cX12_designAt 36 = .ok (.areturn, 1) := by decide +kernel
abbrev cX12_libraryAt : ByteArray := prog_1_method_62_code
def yX12_libraryAt : MethodName := ⟨RX12, "libraryAt", "(I)LChipFlow$Library;"⟩
theorem dX12_libraryAt_0 : decode cX12_libraryAt 0 = .ok (.iload_n 1, 1) := by decide +kernel
theorem dX12_libraryAt_1 : decode cX12_libraryAt 1 = .ok (.ifCond .lt 24, 3) := by decide +kernel
theorem dX12_libraryAt_4 : decode cX12_libraryAt 4 = .ok (.iload_n 1, 1) := by decide +kernel
theorem dX12_libraryAt_5 : decode cX12_libraryAt 5 = .ok (.iconst 3, 1) := by decide +kernel
theorem dX12_libraryAt_6 : decode cX12_libraryAt 6 = .ok (.if_icmp .ge 19, 3) := by decide +kernel
theorem dX12_libraryAt_9 : decode cX12_libraryAt 9 = .ok (.aload_n 0, 1) := by decide +kernel
theorem dX12_libraryAt_10 : decode cX12_libraryAt 10 = .ok (.getfield 71, 3) := by decide +kernel
theorem dX12_libraryAt_13 : decode cX12_libraryAt 13 = .ok (.iload_n 1, 1) := by decide +kernel
theorem dX12_libraryAt_14 : decode cX12_libraryAt 14 = .ok (.aaload, 1) := by decide +kernel
theorem dX12_libraryAt_15 : decode cX12_libraryAt 15 = .ok (.getfield 156, 3) := by decide +kernel
theorem dX12_libraryAt_18 : decode cX12_libraryAt 18 = .ok (.ifCond .eq 7, 3) := by decide +kernel
theorem dX12_libraryAt_21 : decode cX12_libraryAt 21 = .ok (.iconst 1, 1) := by decide +kernel
theorem dX12_libraryAt_22 : decode cX12_libraryAt 22 = .ok (.goto 4, 3) := by decide +kernel
theorem dX12_libraryAt_25 : decode cX12_libraryAt 25 = .ok (.iconst 0, 1) := by decide +kernel
theorem dX12_libraryAt_26 : decode cX12_libraryAt 26 = .ok (.invokestatic 189, 3) := by decide +kernel
theorem dX12_libraryAt_29 : decode cX12_libraryAt 29 = .ok (.aload_n 0, 1) := by decide +kernel
theorem dX12_libraryAt_30 : decode cX12_libraryAt 30 = .ok (.getfield 71, 3) := by decide +kernel
theorem dX12_libraryAt_33 : decode cX12_libraryAt 33 = .ok (.iload_n 1, 1) := by decide +kernel
theorem dX12_libraryAt_34 : decode cX12_libraryAt 34 = .ok (.aaload, 1) := by decide +kernel
theorem dX12_libraryAt_35 : decode cX12_libraryAt 35 = .ok (.areturn, 1) := by decide +kernel
abbrev cX12_chipAt : ByteArray := prog_1_method_63_code
def yX12_chipAt : MethodName := ⟨RX12, "chipAt", "(I)LChipFlow$Chip;"⟩
theorem dX12_chipAt_0 : decode cX12_chipAt 0 = .ok (.iload_n 1, 1) := by decide +kernel
theorem dX12_chipAt_1 : decode cX12_chipAt 1 = .ok (.ifCond .lt 24, 3) := by decide +kernel
theorem dX12_chipAt_4 : decode cX12_chipAt 4 = .ok (.iload_n 1, 1) := by decide +kernel
theorem dX12_chipAt_5 : decode cX12_chipAt 5 = .ok (.iconst 4, 1) := by decide +kernel
theorem dX12_chipAt_6 : decode cX12_chipAt 6 = .ok (.if_icmp .ge 19, 3) := by decide +kernel
theorem dX12_chipAt_9 : decode cX12_chipAt 9 = .ok (.aload_n 0, 1) := by decide +kernel
theorem dX12_chipAt_10 : decode cX12_chipAt 10 = .ok (.getfield 78, 3) := by decide +kernel
theorem dX12_chipAt_13 : decode cX12_chipAt 13 = .ok (.iload_n 1, 1) := by decide +kernel
theorem dX12_chipAt_14 : decode cX12_chipAt 14 = .ok (.aaload, 1) := by decide +kernel
theorem dX12_chipAt_15 : decode cX12_chipAt 15 = .ok (.getfield 161, 3) := by decide +kernel
theorem dX12_chipAt_18 : decode cX12_chipAt 18 = .ok (.ifCond .eq 7, 3) := by decide +kernel
theorem dX12_chipAt_21 : decode cX12_chipAt 21 = .ok (.iconst 1, 1) := by decide +kernel
theorem dX12_chipAt_22 : decode cX12_chipAt 22 = .ok (.goto 4, 3) := by decide +kernel
theorem dX12_chipAt_25 : decode cX12_chipAt 25 = .ok (.iconst 0, 1) := by decide +kernel
theorem dX12_chipAt_26 : decode cX12_chipAt 26 = .ok (.invokestatic 189, 3) := by decide +kernel
theorem dX12_chipAt_29 : decode cX12_chipAt 29 = .ok (.aload_n 0, 1) := by decide +kernel
theorem dX12_chipAt_30 : decode cX12_chipAt 30 = .ok (.getfield 78, 3) := by decide +kernel
theorem dX12_chipAt_33 : decode cX12_chipAt 33 = .ok (.iload_n 1, 1) := by decide +kernel
theorem dX12_chipAt_34 : decode cX12_chipAt 34 = .ok (.aaload, 1) := by decide +kernel
theorem dX12_chipAt_35 : decode cX12_chipAt 35 = .ok (.areturn, 1) := by decide +kernel
theorem wd_327 : (Cond.initialized RX12) ∈ BG := bg_tb tb_1 1 (by decide +kernel) (by decide +kernel)
theorem wd_766 : (Cond.fieldLink RX12 148 "ChipFlow$Design" "used" "Z") ∈ BG := bg_tb tb_2 200 (by decide +kernel) (by decide +kernel)
theorem wd_855 : (Cond.fieldLink RX12 156 "ChipFlow$Library" "used" "Z") ∈ BG := bg_tb tb_3 49 (by decide +kernel) (by decide +kernel)
theorem wd_1067 : (Cond.fieldLink RX12 161 "ChipFlow$Chip" "used" "Z") ∈ BG := bg_tb tb_4 21 (by decide +kernel) (by decide +kernel)
theorem wd_1813 : (Cond.methodLink RX12 189 yX12_needThere) ∈ BG := bg_tb tb_7 47 (by decide +kernel) (by decide +kernel)
theorem wd_1814 : (Cond.static yX12_needThere) ∈ BG := bg_tb tb_7 48 (by decide +kernel) (by decide +kernel)
theorem wd_1815 : (Cond.code yX12_needThere cX12_needThere 1 none) ∈ BG := bg_tb tb_7 49 (by decide +kernel) (by decide +kernel)
set_option maxHeartbeats 4000000 in
set_option maxRecDepth 100000 in
theorem ct_X12_designAt (l : Launch) (hlt : l.stackTraces = false) (dC : Nat → ClassId) (dI : Nat → Nat → Nat) (sz : Nat) (k : Int32) (x : Nat) (xg : List Value) (deA : Nat) (deC : ClassId) (deF : Nat → Option Nat) (de0 de1 de2 de3 de4 de5 : Nat) (deg0 deg1 deg2 deg3 deg4 deg5 : List Value) (hdeg0 : fx deg0 16 [(0, .int 0)]) (hdeF0 : deF 0 = some de0) (hdeg1 : fx deg1 16 [(0, .int 0)]) (hdeF1 : deF 1 = some de1) (hdeg2 : fx deg2 16 [(0, .int 0)]) (hdeF2 : deF 2 = some de2) (hdeg3 : fx deg3 16 [(0, .int 0)]) (hdeF3 : deF 3 = some de3) (hdeg4 : fx deg4 16 [(0, .int 0)]) (hdeF4 : deF 4 = some de4) (hdeg5 : fx deg5 16 [(0, .int 0)]) (hdeF5 : deF 5 = some de5) (hxg : fx xg 17 [(7, .ref deA)]) : vx_Met l yX12_designAt (Cond.code yX12_designAt cX12_designAt 2 (some (.object "ChipFlow$Design")) :: BG) ({ frames := 7, cells := 1, slots := 6, locals := 130 }) (va_Pc [.ref x, .int k] (fun U => U.heap.size = sz ∧ va_P (dC, dI) CL [(x, .inr (12, xg)), (deA, .inl (deC, (6, .inr (.inr (.inr (.inr deF)))))), (de0, .inr (3, deg0)), (de1, .inr (3, deg1)), (de2, .inr (3, deg2)), (de3, .inr (3, deg3)), (de4, .inr (3, deg4)), (de5, .inr (3, deg5))] U.heap ∧ va_K (dC, dI) CL [(deC, .object "ChipFlow$Design")] U ∧ va_D (fun _ => True) [(x, .inr (12, xg)), (deA, .inl (deC, (6, .inr (.inr (.inr (.inr deF)))))), (de0, .inr (3, deg0)), (de1, .inr (3, deg1)), (de2, .inr (3, deg2)), (de3, .inr (3, deg3)), (de4, .inr (3, deg4)), (de5, .inr (3, deg5))] ∧ th (va_A [(x, .inr (12, xg)), (deA, .inl (deC, (6, .inr (.inr (.inr (.inr deF)))))), (de0, .inr (3, deg0)), (de1, .inr (3, deg1)), (de2, .inr (3, deg2)), (de3, .inr (3, deg3)), (de4, .inr (3, deg4)), (de5, .inr (3, deg5))] sz) U U.heap)) (fun _ _ _ _ => False) (vx_X (fun _ : Unit => True) (fun E _ _ => E = "java/lang/IndexOutOfBoundsException") (va_A [(x, .inr (12, xg)), (deA, .inl (deC, (6, .inr (.inr (.inr (.inr deF)))))), (de0, .inr (3, deg0)), (de1, .inr (3, deg1)), (de2, .inr (3, deg2)), (de3, .inr (3, deg3)), (de4, .inr (3, deg4)), (de5, .inr (3, deg5))] sz)) 1 6 (va_A [(x, .inr (12, xg)), (deA, .inl (deC, (6, .inr (.inr (.inr (.inr deF)))))), (de0, .inr (3, deg0)), (de1, .inr (3, deg1)), (de2, .inr (3, deg2)), (de3, .inr (3, deg3)), (de4, .inr (3, deg4)), (de5, .inr (3, deg5))] sz) := by
  refine vx_ofW (cc := cX12_designAt) (maxL := 2) (ret := (some (.object "ChipFlow$Design"))) (by decide) rfl ?_
  intro p e s m args below meth c s₁ B hml ht0 hv
  obtain ⟨rfl, hsz, hP, hK, hD0, hth⟩ := hv
  have hx := B.exec
  have hb := B.bytes
  have hr := B.returns
  have hts : ∀ w ∈ BG, w.before _ s = true := fun w h => atoms_spec (ws := Cond.code yX12_designAt cX12_designAt 2 (some (.object "ChipFlow$Design")) :: BG) B.pre w (List.mem_cons_of_mem _ h)
  have hown : s.vm.findClass RX12 = some m.cls := findClass_of_methodNamed B.named
  have hlocks := B.notSynchronized
  subst hsz
  have hD := hD0.self (sz := s.heap.size)
  generalize hAe : va_A [(x, .inr (12, xg)), (deA, .inl (deC, (6, .inr (.inr (.inr (.inr deF)))))), (de0, .inr (3, deg0)), (de1, .inr (3, deg1)), (de2, .inr (3, deg2)), (de3, .inr (3, deg3)), (de4, .inr (3, deg4)), (de5, .inr (3, deg5))] s.heap.size = A at hD hth ⊢
  have hA : ∀ q : Nat, s.heap.size ≤ q → A q := fun q h => by rw [← hAe]; exact Or.inr h
  have hS : va_S A s.heap s.heap [] := va_S.rf
  have hl := lv_entry ([.ref x, .int k]) (n := 2) (Nat.le_of_ble_eq_true rfl)
  rw [lg_entry_eq]
  generalize (lg_sl ([.ref x, .int k]) ++ List.replicate (2 - (lg_sl ([.ref x, .int k])).length) Slot.unset).toArray = ls at hl ⊢
  have hl : lv_has ls 2 [(0, .ref x), (1, .int k)] := hl
  have hF0 : ∀ q, va_A [] s.heap.size q → A q := fun q h => h.elim (fun ⟨k9, e9, h9⟩ => by simp at h9) (hA q)
  have key : W p l e (headSpec (Cond.code yX12_designAt cX12_designAt 2 (some (.object "ChipFlow$Design")) :: BG) { frames := 7, cells := 1, slots := 6, locals := 130 }).room s m ([Value.ref x, Value.int k] : List Value).toArray below meth c s.heap [] 0 0 (vx_MQ below (fun _ _ _ _ => False) (vx_X (fun _ : Unit => True) (fun E _ _ => E = "java/lang/IndexOutOfBoundsException") A) ([Value.ref x, Value.int k] : List Value).toArray s 1 6 A) (F0 m 26 ls []) := by
    refine lv_iconst (v := 0) hx hb dX12_designAt_26 (by decide +kernel) ?_
    refine vx_callv (vx_runS (As := [.int 0]) (rest := []) ⟨hx, hb, hml, hown, hts⟩ (ct_X12_needThere l hlt s.heap.size 0) (cwS 1 hts (gi_S wd_1813 wd_1814 wd_327 wd_1815) rfl rfl rfl (by decide +kernel) ⟨(Nat.le_of_ble_eq_true rfl), (Nat.le_of_ble_eq_true rfl)⟩) ⟨fun a U g mk q => ⟨q.1, q.2.1, th.moved (u := U) (U := U.calling g mk a) (Vm.Alike.refl U.vm) q.2.2⟩, fun U hU hW => ⟨rfl, by rw [hU], by rw [hU]; exact (hth.narrow hF0).moved hW.alike⟩⟩ rfl rfl hl.1 rfl (lv_room (Nat.le_of_ble_eq_true rfl)) dX12_designAt_27 ⟨(Nat.le_of_ble_eq_true rfl), (Nat.le_of_ble_eq_true rfl)⟩) hS (fun q _ h => hF0 q h) hF0 (fun q _ h => hF0 q h) (fun E ce q9 u t H1 locs ht hvm hp hB hz hk hS hce hcv hcl => ?_) (fun u t H1 locs ht hvm hp hB hz hk hS => absurd rfl hp)
    subst hB
    exact vx_out (fun x h9 => (ht0 x h9).elim) hlocks hce hcv hcl (fun t9 ht9 hvm9 => ⟨(), trivial, rfl, hS.F ht9⟩) hS.2.2 (Nat.le_of_ble_eq_true rfl) (Nat.le_of_ble_eq_true rfl)
  refine lv_iload_n hx hb dX12_designAt_0 rfl (lv_at hl 1 rfl) ?_
  refine lv_if_lt (tgt := 26) hx hb dX12_designAt_1 (by decide) (fun _ => key) (fun c1 => ?_)
  refine lv_iload_n hx hb dX12_designAt_4 rfl (lv_at hl 1 rfl) ?_
  refine lv_bipush (v := 6) hx hb dX12_designAt_5 (by decide +kernel) ?_
  refine lv_icmp_ge (tgt := 26) hx hb dX12_designAt_7 (by decide) (fun _ => key) (fun c2 => ?_)
  obtain ⟨j, hj, ej, -⟩ := pk_mu (L := 6) c1 c2 (by decide)
  refine lv_aload_n hx hb dX12_designAt_10 rfl (lv_at hl 0 rfl) ?_
  refine va_get (D := (dC, dI)) (ci := 12) (v := .ref deA) (C := RX12) (T := TX12) (N := 17) hx hb hts inX12 hown hK hP 0 rfl rfl 7 (by decide) (hts (.fieldLink RX12 64 "ChipFlow" "designs" "[LChipFlow$Design;") wd_1185) (fun _ h9 => h9) (hxg.get 0 rfl) dX12_designAt_11 ?_
  refine lv_iload_n hx hb dX12_designAt_14 rfl (lv_at hl 1 rfl) ?_
  refine va_aldq hx hb hK hP 1 0 rfl rfl (by rw [ej]; exact vp_in_nI hj (by decide)) dX12_designAt_15 ?_
  rw [show k.toNatClampNeg = j by rw [ej]; exact nI_clamp (by omega)]
  rcases (show j = 0 ∨ j = 1 ∨ j = 2 ∨ j = 3 ∨ j = 4 ∨ j = 5 by omega) with ez | ez | ez | ez | ez | ez
  · rw [ez, hdeF0]
    refine W.eq (g2 := F0 m 16 ls [.ref de0]) rfl ?_
    refine va_get (D := (dC, dI)) (ci := 3) (v := .int 0) (C := RX3) (T := TX3) (N := 16) hx hb hts inX3 hown hK hP 2 rfl rfl 0 (by decide) (hts (.fieldLink RX12 148 "ChipFlow$Design" "used" "Z") wd_766) (fun _ h9 => h9) (hdeg0.get 0 rfl) dX12_designAt_16 ?_
    exact lv_if_eq (tgt := 26) hx hb dX12_designAt_19 (by decide) (fun _ => key) (fun c3 => absurd rfl c3)
  · rw [ez, hdeF1]
    refine W.eq (g2 := F0 m 16 ls [.ref de1]) rfl ?_
    refine va_get (D := (dC, dI)) (ci := 3) (v := .int 0) (C := RX3) (T := TX3) (N := 16) hx hb hts inX3 hown hK hP 3 rfl rfl 0 (by decide) (hts (.fieldLink RX12 148 "ChipFlow$Design" "used" "Z") wd_766) (fun _ h9 => h9) (hdeg1.get 0 rfl) dX12_designAt_16 ?_
    exact lv_if_eq (tgt := 26) hx hb dX12_designAt_19 (by decide) (fun _ => key) (fun c3 => absurd rfl c3)
  · rw [ez, hdeF2]
    refine W.eq (g2 := F0 m 16 ls [.ref de2]) rfl ?_
    refine va_get (D := (dC, dI)) (ci := 3) (v := .int 0) (C := RX3) (T := TX3) (N := 16) hx hb hts inX3 hown hK hP 4 rfl rfl 0 (by decide) (hts (.fieldLink RX12 148 "ChipFlow$Design" "used" "Z") wd_766) (fun _ h9 => h9) (hdeg2.get 0 rfl) dX12_designAt_16 ?_
    exact lv_if_eq (tgt := 26) hx hb dX12_designAt_19 (by decide) (fun _ => key) (fun c3 => absurd rfl c3)
  · rw [ez, hdeF3]
    refine W.eq (g2 := F0 m 16 ls [.ref de3]) rfl ?_
    refine va_get (D := (dC, dI)) (ci := 3) (v := .int 0) (C := RX3) (T := TX3) (N := 16) hx hb hts inX3 hown hK hP 5 rfl rfl 0 (by decide) (hts (.fieldLink RX12 148 "ChipFlow$Design" "used" "Z") wd_766) (fun _ h9 => h9) (hdeg3.get 0 rfl) dX12_designAt_16 ?_
    exact lv_if_eq (tgt := 26) hx hb dX12_designAt_19 (by decide) (fun _ => key) (fun c3 => absurd rfl c3)
  · rw [ez, hdeF4]
    refine W.eq (g2 := F0 m 16 ls [.ref de4]) rfl ?_
    refine va_get (D := (dC, dI)) (ci := 3) (v := .int 0) (C := RX3) (T := TX3) (N := 16) hx hb hts inX3 hown hK hP 6 rfl rfl 0 (by decide) (hts (.fieldLink RX12 148 "ChipFlow$Design" "used" "Z") wd_766) (fun _ h9 => h9) (hdeg4.get 0 rfl) dX12_designAt_16 ?_
    exact lv_if_eq (tgt := 26) hx hb dX12_designAt_19 (by decide) (fun _ => key) (fun c3 => absurd rfl c3)
  · rw [ez, hdeF5]
    refine W.eq (g2 := F0 m 16 ls [.ref de5]) rfl ?_
    refine va_get (D := (dC, dI)) (ci := 3) (v := .int 0) (C := RX3) (T := TX3) (N := 16) hx hb hts inX3 hown hK hP 7 rfl rfl 0 (by decide) (hts (.fieldLink RX12 148 "ChipFlow$Design" "used" "Z") wd_766) (fun _ h9 => h9) (hdeg5.get 0 rfl) dX12_designAt_16 ?_
    exact lv_if_eq (tgt := 26) hx hb dX12_designAt_19 (by decide) (fun _ => key) (fun c3 => absurd rfl c3)
set_option maxHeartbeats 4000000 in
set_option maxRecDepth 100000 in
theorem ct_X12_libraryAt (l : Launch) (hlt : l.stackTraces = false) (dC : Nat → ClassId) (dI : Nat → Nat → Nat) (sz : Nat) (k : Int32) (x : Nat) (xg : List Value) (liA : Nat) (liC : ClassId) (liF : Nat → Option Nat) (li0 li1 li2 : Nat) (lig0 lig1 lig2 : List Value) (hlig0 : fx lig0 7 [(0, .int 0)]) (hliF0 : liF 0 = some li0) (hlig1 : fx lig1 7 [(0, .int 0)]) (hliF1 : liF 1 = some li1) (hlig2 : fx lig2 7 [(0, .int 0)]) (hliF2 : liF 2 = some li2) (hxg : fx xg 17 [(8, .ref liA)]) : vx_Met l yX12_libraryAt (Cond.code yX12_libraryAt cX12_libraryAt 2 (some (.object "ChipFlow$Library")) :: BG) ({ frames := 7, cells := 1, slots := 6, locals := 130 }) (va_Pc [.ref x, .int k] (fun U => U.heap.size = sz ∧ va_P (dC, dI) CL [(x, .inr (12, xg)), (liA, .inl (liC, (3, .inr (.inr (.inr (.inr liF)))))), (li0, .inr (5, lig0)), (li1, .inr (5, lig1)), (li2, .inr (5, lig2))] U.heap ∧ va_K (dC, dI) CL [(liC, .object "ChipFlow$Library")] U ∧ va_D (fun _ => True) [(x, .inr (12, xg)), (liA, .inl (liC, (3, .inr (.inr (.inr (.inr liF)))))), (li0, .inr (5, lig0)), (li1, .inr (5, lig1)), (li2, .inr (5, lig2))] ∧ th (va_A [(x, .inr (12, xg)), (liA, .inl (liC, (3, .inr (.inr (.inr (.inr liF)))))), (li0, .inr (5, lig0)), (li1, .inr (5, lig1)), (li2, .inr (5, lig2))] sz) U U.heap)) (fun _ _ _ _ => False) (vx_X (fun _ : Unit => True) (fun E _ _ => E = "java/lang/IndexOutOfBoundsException") (va_A [(x, .inr (12, xg)), (liA, .inl (liC, (3, .inr (.inr (.inr (.inr liF)))))), (li0, .inr (5, lig0)), (li1, .inr (5, lig1)), (li2, .inr (5, lig2))] sz)) 1 6 (va_A [(x, .inr (12, xg)), (liA, .inl (liC, (3, .inr (.inr (.inr (.inr liF)))))), (li0, .inr (5, lig0)), (li1, .inr (5, lig1)), (li2, .inr (5, lig2))] sz) := by
  refine vx_ofW (cc := cX12_libraryAt) (maxL := 2) (ret := (some (.object "ChipFlow$Library"))) (by decide) rfl ?_
  intro p e s m args below meth c s₁ B hml ht0 hv
  obtain ⟨rfl, hsz, hP, hK, hD0, hth⟩ := hv
  have hx := B.exec
  have hb := B.bytes
  have hr := B.returns
  have hts : ∀ w ∈ BG, w.before _ s = true := fun w h => atoms_spec (ws := Cond.code yX12_libraryAt cX12_libraryAt 2 (some (.object "ChipFlow$Library")) :: BG) B.pre w (List.mem_cons_of_mem _ h)
  have hown : s.vm.findClass RX12 = some m.cls := findClass_of_methodNamed B.named
  have hlocks := B.notSynchronized
  subst hsz
  have hD := hD0.self (sz := s.heap.size)
  generalize hAe : va_A [(x, .inr (12, xg)), (liA, .inl (liC, (3, .inr (.inr (.inr (.inr liF)))))), (li0, .inr (5, lig0)), (li1, .inr (5, lig1)), (li2, .inr (5, lig2))] s.heap.size = A at hD hth ⊢
  have hA : ∀ q : Nat, s.heap.size ≤ q → A q := fun q h => by rw [← hAe]; exact Or.inr h
  have hS : va_S A s.heap s.heap [] := va_S.rf
  have hl := lv_entry ([.ref x, .int k]) (n := 2) (Nat.le_of_ble_eq_true rfl)
  rw [lg_entry_eq]
  generalize (lg_sl ([.ref x, .int k]) ++ List.replicate (2 - (lg_sl ([.ref x, .int k])).length) Slot.unset).toArray = ls at hl ⊢
  have hl : lv_has ls 2 [(0, .ref x), (1, .int k)] := hl
  have hF0 : ∀ q, va_A [] s.heap.size q → A q := fun q h => h.elim (fun ⟨k9, e9, h9⟩ => by simp at h9) (hA q)
  have key : W p l e (headSpec (Cond.code yX12_libraryAt cX12_libraryAt 2 (some (.object "ChipFlow$Library")) :: BG) { frames := 7, cells := 1, slots := 6, locals := 130 }).room s m ([Value.ref x, Value.int k] : List Value).toArray below meth c s.heap [] 0 0 (vx_MQ below (fun _ _ _ _ => False) (vx_X (fun _ : Unit => True) (fun E _ _ => E = "java/lang/IndexOutOfBoundsException") A) ([Value.ref x, Value.int k] : List Value).toArray s 1 6 A) (F0 m 25 ls []) := by
    refine lv_iconst (v := 0) hx hb dX12_libraryAt_25 (by decide +kernel) ?_
    refine vx_callv (vx_runS (As := [.int 0]) (rest := []) ⟨hx, hb, hml, hown, hts⟩ (ct_X12_needThere l hlt s.heap.size 0) (cwS 1 hts (gi_S wd_1813 wd_1814 wd_327 wd_1815) rfl rfl rfl (by decide +kernel) ⟨(Nat.le_of_ble_eq_true rfl), (Nat.le_of_ble_eq_true rfl)⟩) ⟨fun a U g mk q => ⟨q.1, q.2.1, th.moved (u := U) (U := U.calling g mk a) (Vm.Alike.refl U.vm) q.2.2⟩, fun U hU hW => ⟨rfl, by rw [hU], by rw [hU]; exact (hth.narrow hF0).moved hW.alike⟩⟩ rfl rfl hl.1 rfl (lv_room (Nat.le_of_ble_eq_true rfl)) dX12_libraryAt_26 ⟨(Nat.le_of_ble_eq_true rfl), (Nat.le_of_ble_eq_true rfl)⟩) hS (fun q _ h => hF0 q h) hF0 (fun q _ h => hF0 q h) (fun E ce q9 u t H1 locs ht hvm hp hB hz hk hS hce hcv hcl => ?_) (fun u t H1 locs ht hvm hp hB hz hk hS => absurd rfl hp)
    subst hB
    exact vx_out (fun x h9 => (ht0 x h9).elim) hlocks hce hcv hcl (fun t9 ht9 hvm9 => ⟨(), trivial, rfl, hS.F ht9⟩) hS.2.2 (Nat.le_of_ble_eq_true rfl) (Nat.le_of_ble_eq_true rfl)
  refine lv_iload_n hx hb dX12_libraryAt_0 rfl (lv_at hl 1 rfl) ?_
  refine lv_if_lt (tgt := 25) hx hb dX12_libraryAt_1 (by decide) (fun _ => key) (fun c1 => ?_)
  refine lv_iload_n hx hb dX12_libraryAt_4 rfl (lv_at hl 1 rfl) ?_
  refine lv_iconst (v := 3) hx hb dX12_libraryAt_5 (by decide +kernel) ?_
  refine lv_icmp_ge (tgt := 25) hx hb dX12_libraryAt_6 (by decide) (fun _ => key) (fun c2 => ?_)
  obtain ⟨j, hj, ej, -⟩ := pk_mu (L := 3) c1 c2 (by decide)
  refine lv_aload_n hx hb dX12_libraryAt_9 rfl (lv_at hl 0 rfl) ?_
  refine va_get (D := (dC, dI)) (ci := 12) (v := .ref liA) (C := RX12) (T := TX12) (N := 17) hx hb hts inX12 hown hK hP 0 rfl rfl 8 (by decide) (hts (.fieldLink RX12 71 "ChipFlow" "libraries" "[LChipFlow$Library;") wd_1186) (fun _ h9 => h9) (hxg.get 0 rfl) dX12_libraryAt_10 ?_
  refine lv_iload_n hx hb dX12_libraryAt_13 rfl (lv_at hl 1 rfl) ?_
  refine va_aldq hx hb hK hP 1 0 rfl rfl (by rw [ej]; exact vp_in_nI hj (by decide)) dX12_libraryAt_14 ?_
  rw [show k.toNatClampNeg = j by rw [ej]; exact nI_clamp (by omega)]
  rcases (show j = 0 ∨ j = 1 ∨ j = 2 by omega) with ez | ez | ez
  · rw [ez, hliF0]
    refine W.eq (g2 := F0 m 15 ls [.ref li0]) rfl ?_
    refine va_get (D := (dC, dI)) (ci := 5) (v := .int 0) (C := RX5) (T := TX5) (N := 7) hx hb hts inX5 hown hK hP 2 rfl rfl 0 (by decide) (hts (.fieldLink RX12 156 "ChipFlow$Library" "used" "Z") wd_855) (fun _ h9 => h9) (hlig0.get 0 rfl) dX12_libraryAt_15 ?_
    exact lv_if_eq (tgt := 25) hx hb dX12_libraryAt_18 (by decide) (fun _ => key) (fun c3 => absurd rfl c3)
  · rw [ez, hliF1]
    refine W.eq (g2 := F0 m 15 ls [.ref li1]) rfl ?_
    refine va_get (D := (dC, dI)) (ci := 5) (v := .int 0) (C := RX5) (T := TX5) (N := 7) hx hb hts inX5 hown hK hP 3 rfl rfl 0 (by decide) (hts (.fieldLink RX12 156 "ChipFlow$Library" "used" "Z") wd_855) (fun _ h9 => h9) (hlig1.get 0 rfl) dX12_libraryAt_15 ?_
    exact lv_if_eq (tgt := 25) hx hb dX12_libraryAt_18 (by decide) (fun _ => key) (fun c3 => absurd rfl c3)
  · rw [ez, hliF2]
    refine W.eq (g2 := F0 m 15 ls [.ref li2]) rfl ?_
    refine va_get (D := (dC, dI)) (ci := 5) (v := .int 0) (C := RX5) (T := TX5) (N := 7) hx hb hts inX5 hown hK hP 4 rfl rfl 0 (by decide) (hts (.fieldLink RX12 156 "ChipFlow$Library" "used" "Z") wd_855) (fun _ h9 => h9) (hlig2.get 0 rfl) dX12_libraryAt_15 ?_
    exact lv_if_eq (tgt := 25) hx hb dX12_libraryAt_18 (by decide) (fun _ => key) (fun c3 => absurd rfl c3)
set_option maxHeartbeats 4000000 in
set_option maxRecDepth 100000 in
theorem ct_X12_chipAt (l : Launch) (hlt : l.stackTraces = false) (dC : Nat → ClassId) (dI : Nat → Nat → Nat) (sz : Nat) (k : Int32) (x : Nat) (xg : List Value) (chA : Nat) (chC : ClassId) (chF : Nat → Option Nat) (ch0 ch1 ch2 ch3 : Nat) (chg0 chg1 chg2 chg3 : List Value) (hchg0 : fx chg0 20 [(0, .int 0)]) (hchF0 : chF 0 = some ch0) (hchg1 : fx chg1 20 [(0, .int 0)]) (hchF1 : chF 1 = some ch1) (hchg2 : fx chg2 20 [(0, .int 0)]) (hchF2 : chF 2 = some ch2) (hchg3 : fx chg3 20 [(0, .int 0)]) (hchF3 : chF 3 = some ch3) (hxg : fx xg 17 [(9, .ref chA)]) : vx_Met l yX12_chipAt (Cond.code yX12_chipAt cX12_chipAt 2 (some (.object "ChipFlow$Chip")) :: BG) ({ frames := 7, cells := 1, slots := 6, locals := 130 }) (va_Pc [.ref x, .int k] (fun U => U.heap.size = sz ∧ va_P (dC, dI) CL [(x, .inr (12, xg)), (chA, .inl (chC, (4, .inr (.inr (.inr (.inr chF)))))), (ch0, .inr (2, chg0)), (ch1, .inr (2, chg1)), (ch2, .inr (2, chg2)), (ch3, .inr (2, chg3))] U.heap ∧ va_K (dC, dI) CL [(chC, .object "ChipFlow$Chip")] U ∧ va_D (fun _ => True) [(x, .inr (12, xg)), (chA, .inl (chC, (4, .inr (.inr (.inr (.inr chF)))))), (ch0, .inr (2, chg0)), (ch1, .inr (2, chg1)), (ch2, .inr (2, chg2)), (ch3, .inr (2, chg3))] ∧ th (va_A [(x, .inr (12, xg)), (chA, .inl (chC, (4, .inr (.inr (.inr (.inr chF)))))), (ch0, .inr (2, chg0)), (ch1, .inr (2, chg1)), (ch2, .inr (2, chg2)), (ch3, .inr (2, chg3))] sz) U U.heap)) (fun _ _ _ _ => False) (vx_X (fun _ : Unit => True) (fun E _ _ => E = "java/lang/IndexOutOfBoundsException") (va_A [(x, .inr (12, xg)), (chA, .inl (chC, (4, .inr (.inr (.inr (.inr chF)))))), (ch0, .inr (2, chg0)), (ch1, .inr (2, chg1)), (ch2, .inr (2, chg2)), (ch3, .inr (2, chg3))] sz)) 1 6 (va_A [(x, .inr (12, xg)), (chA, .inl (chC, (4, .inr (.inr (.inr (.inr chF)))))), (ch0, .inr (2, chg0)), (ch1, .inr (2, chg1)), (ch2, .inr (2, chg2)), (ch3, .inr (2, chg3))] sz) := by
  refine vx_ofW (cc := cX12_chipAt) (maxL := 2) (ret := (some (.object "ChipFlow$Chip"))) (by decide) rfl ?_
  intro p e s m args below meth c s₁ B hml ht0 hv
  obtain ⟨rfl, hsz, hP, hK, hD0, hth⟩ := hv
  have hx := B.exec
  have hb := B.bytes
  have hr := B.returns
  have hts : ∀ w ∈ BG, w.before _ s = true := fun w h => atoms_spec (ws := Cond.code yX12_chipAt cX12_chipAt 2 (some (.object "ChipFlow$Chip")) :: BG) B.pre w (List.mem_cons_of_mem _ h)
  have hown : s.vm.findClass RX12 = some m.cls := findClass_of_methodNamed B.named
  have hlocks := B.notSynchronized
  subst hsz
  have hD := hD0.self (sz := s.heap.size)
  generalize hAe : va_A [(x, .inr (12, xg)), (chA, .inl (chC, (4, .inr (.inr (.inr (.inr chF)))))), (ch0, .inr (2, chg0)), (ch1, .inr (2, chg1)), (ch2, .inr (2, chg2)), (ch3, .inr (2, chg3))] s.heap.size = A at hD hth ⊢
  have hA : ∀ q : Nat, s.heap.size ≤ q → A q := fun q h => by rw [← hAe]; exact Or.inr h
  have hS : va_S A s.heap s.heap [] := va_S.rf
  have hl := lv_entry ([.ref x, .int k]) (n := 2) (Nat.le_of_ble_eq_true rfl)
  rw [lg_entry_eq]
  generalize (lg_sl ([.ref x, .int k]) ++ List.replicate (2 - (lg_sl ([.ref x, .int k])).length) Slot.unset).toArray = ls at hl ⊢
  have hl : lv_has ls 2 [(0, .ref x), (1, .int k)] := hl
  have hF0 : ∀ q, va_A [] s.heap.size q → A q := fun q h => h.elim (fun ⟨k9, e9, h9⟩ => by simp at h9) (hA q)
  have key : W p l e (headSpec (Cond.code yX12_chipAt cX12_chipAt 2 (some (.object "ChipFlow$Chip")) :: BG) { frames := 7, cells := 1, slots := 6, locals := 130 }).room s m ([Value.ref x, Value.int k] : List Value).toArray below meth c s.heap [] 0 0 (vx_MQ below (fun _ _ _ _ => False) (vx_X (fun _ : Unit => True) (fun E _ _ => E = "java/lang/IndexOutOfBoundsException") A) ([Value.ref x, Value.int k] : List Value).toArray s 1 6 A) (F0 m 25 ls []) := by
    refine lv_iconst (v := 0) hx hb dX12_chipAt_25 (by decide +kernel) ?_
    refine vx_callv (vx_runS (As := [.int 0]) (rest := []) ⟨hx, hb, hml, hown, hts⟩ (ct_X12_needThere l hlt s.heap.size 0) (cwS 1 hts (gi_S wd_1813 wd_1814 wd_327 wd_1815) rfl rfl rfl (by decide +kernel) ⟨(Nat.le_of_ble_eq_true rfl), (Nat.le_of_ble_eq_true rfl)⟩) ⟨fun a U g mk q => ⟨q.1, q.2.1, th.moved (u := U) (U := U.calling g mk a) (Vm.Alike.refl U.vm) q.2.2⟩, fun U hU hW => ⟨rfl, by rw [hU], by rw [hU]; exact (hth.narrow hF0).moved hW.alike⟩⟩ rfl rfl hl.1 rfl (lv_room (Nat.le_of_ble_eq_true rfl)) dX12_chipAt_26 ⟨(Nat.le_of_ble_eq_true rfl), (Nat.le_of_ble_eq_true rfl)⟩) hS (fun q _ h => hF0 q h) hF0 (fun q _ h => hF0 q h) (fun E ce q9 u t H1 locs ht hvm hp hB hz hk hS hce hcv hcl => ?_) (fun u t H1 locs ht hvm hp hB hz hk hS => absurd rfl hp)
    subst hB
    exact vx_out (fun x h9 => (ht0 x h9).elim) hlocks hce hcv hcl (fun t9 ht9 hvm9 => ⟨(), trivial, rfl, hS.F ht9⟩) hS.2.2 (Nat.le_of_ble_eq_true rfl) (Nat.le_of_ble_eq_true rfl)
  refine lv_iload_n hx hb dX12_chipAt_0 rfl (lv_at hl 1 rfl) ?_
  refine lv_if_lt (tgt := 25) hx hb dX12_chipAt_1 (by decide) (fun _ => key) (fun c1 => ?_)
  refine lv_iload_n hx hb dX12_chipAt_4 rfl (lv_at hl 1 rfl) ?_
  refine lv_iconst (v := 4) hx hb dX12_chipAt_5 (by decide +kernel) ?_
  refine lv_icmp_ge (tgt := 25) hx hb dX12_chipAt_6 (by decide) (fun _ => key) (fun c2 => ?_)
  obtain ⟨j, hj, ej, -⟩ := pk_mu (L := 4) c1 c2 (by decide)
  refine lv_aload_n hx hb dX12_chipAt_9 rfl (lv_at hl 0 rfl) ?_
  refine va_get (D := (dC, dI)) (ci := 12) (v := .ref chA) (C := RX12) (T := TX12) (N := 17) hx hb hts inX12 hown hK hP 0 rfl rfl 9 (by decide) (hts (.fieldLink RX12 78 "ChipFlow" "chips" "[LChipFlow$Chip;") wd_1187) (fun _ h9 => h9) (hxg.get 0 rfl) dX12_chipAt_10 ?_
  refine lv_iload_n hx hb dX12_chipAt_13 rfl (lv_at hl 1 rfl) ?_
  refine va_aldq hx hb hK hP 1 0 rfl rfl (by rw [ej]; exact vp_in_nI hj (by decide)) dX12_chipAt_14 ?_
  rw [show k.toNatClampNeg = j by rw [ej]; exact nI_clamp (by omega)]
  rcases (show j = 0 ∨ j = 1 ∨ j = 2 ∨ j = 3 by omega) with ez | ez | ez | ez
  · rw [ez, hchF0]
    refine W.eq (g2 := F0 m 15 ls [.ref ch0]) rfl ?_
    refine va_get (D := (dC, dI)) (ci := 2) (v := .int 0) (C := RX2) (T := TX2) (N := 20) hx hb hts inX2 hown hK hP 2 rfl rfl 0 (by decide) (hts (.fieldLink RX12 161 "ChipFlow$Chip" "used" "Z") wd_1067) (fun _ h9 => h9) (hchg0.get 0 rfl) dX12_chipAt_15 ?_
    exact lv_if_eq (tgt := 25) hx hb dX12_chipAt_18 (by decide) (fun _ => key) (fun c3 => absurd rfl c3)
  · rw [ez, hchF1]
    refine W.eq (g2 := F0 m 15 ls [.ref ch1]) rfl ?_
    refine va_get (D := (dC, dI)) (ci := 2) (v := .int 0) (C := RX2) (T := TX2) (N := 20) hx hb hts inX2 hown hK hP 3 rfl rfl 0 (by decide) (hts (.fieldLink RX12 161 "ChipFlow$Chip" "used" "Z") wd_1067) (fun _ h9 => h9) (hchg1.get 0 rfl) dX12_chipAt_15 ?_
    exact lv_if_eq (tgt := 25) hx hb dX12_chipAt_18 (by decide) (fun _ => key) (fun c3 => absurd rfl c3)
  · rw [ez, hchF2]
    refine W.eq (g2 := F0 m 15 ls [.ref ch2]) rfl ?_
    refine va_get (D := (dC, dI)) (ci := 2) (v := .int 0) (C := RX2) (T := TX2) (N := 20) hx hb hts inX2 hown hK hP 4 rfl rfl 0 (by decide) (hts (.fieldLink RX12 161 "ChipFlow$Chip" "used" "Z") wd_1067) (fun _ h9 => h9) (hchg2.get 0 rfl) dX12_chipAt_15 ?_
    exact lv_if_eq (tgt := 25) hx hb dX12_chipAt_18 (by decide) (fun _ => key) (fun c3 => absurd rfl c3)
  · rw [ez, hchF3]
    refine W.eq (g2 := F0 m 15 ls [.ref ch3]) rfl ?_
    refine va_get (D := (dC, dI)) (ci := 2) (v := .int 0) (C := RX2) (T := TX2) (N := 20) hx hb hts inX2 hown hK hP 5 rfl rfl 0 (by decide) (hts (.fieldLink RX12 161 "ChipFlow$Chip" "used" "Z") wd_1067) (fun _ h9 => h9) (hchg3.get 0 rfl) dX12_chipAt_15 ?_
    exact lv_if_eq (tgt := 25) hx hb dX12_chipAt_18 (by decide) (fun _ => key) (fun c3 => absurd rfl c3)
