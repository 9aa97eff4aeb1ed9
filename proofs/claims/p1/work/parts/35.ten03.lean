set_option maxHeartbeats 4000000 in
set_option maxRecDepth 100000 in
theorem gx125_X12_isThere (l : Launch) (hlt : l.stackTraces = false) (dC : Nat → ClassId) (dI : Nat → Nat → Nat) (sz : Nat) (p1 : Int32) (x chA ch0 ch1 ch2 ch3 oA deA liA : Nat) (xg : List Value) (h_x : fx xg 17 [(7, .ref deA), (8, .ref liA), (9, .ref chA)]) (chAC : ClassId) (chAF : Nat → Option Nat) (ch0g : List Value) (h_ch0 : fx ch0g 20 [(0, .int 0)]) (ch1g : List Value) (h_ch1 : fx ch1g 20 [(0, .int 0)]) (ch2g : List Value) (h_ch2 : fx ch2g 20 [(0, .int 0)]) (ch3g : List Value) (h_ch3 : fx ch3g 20 [(0, .int 0)]) (oAC : ClassId) (oAf : Nat → Int64) (h_oA : fa oAf []) (h_chA0 : chAF 0 = some ch0) (h_chA1 : chAF 1 = some ch1) (h_chA2 : chAF 2 = some ch2) (h_chA3 : chAF 3 = some ch3) (zk : ¬ p1 < 0) (zg : 4 ≤ p1) : Met l yX12_isThere (Cond.code yX12_isThere cX12_isThere 3 (some .boolean) :: BG) ({ frames := 7, cells := 1, slots := 6, locals := 130 }) (va_Pc [.ref x, .int 2, .int p1] (fun U => U.heap.size = sz ∧ va_P (dC, dI) CL [(x, .inr (12, xg)), (chA, .inl (chAC, (4, .inr (.inr (.inr (.inr chAF)))))), (ch0, .inr (2, ch0g)), (ch1, .inr (2, ch1g)), (ch2, .inr (2, ch2g)), (ch3, .inr (2, ch3g)), (oA, .inl (oAC, (1, .inr (.inl oAf))))] U.heap ∧ va_K (dC, dI) CL [(chAC, .object "ChipFlow$Chip"), (oAC, .long)] U ∧ va_D (fun _ => True) [(x, .inr (12, xg)), (chA, .inl (chAC, (4, .inr (.inr (.inr (.inr chAF)))))), (ch0, .inr (2, ch0g)), (ch1, .inr (2, ch1g)), (ch2, .inr (2, ch2g)), (ch3, .inr (2, ch3g)), (oA, .inl (oAC, (1, .inr (.inl oAf))))] ∧ th (va_A [(x, .inr (12, xg)), (chA, .inl (chAC, (4, .inr (.inr (.inr (.inr chAF)))))), (ch0, .inr (2, ch0g)), (ch1, .inr (2, ch1g)), (ch2, .inr (2, ch2g)), (ch3, .inr (2, ch3g)), (oA, .inl (oAC, (1, .inr (.inl oAf))))] sz) U U.heap)) (va_Qi (fun (r : Int32) (_ : Unit) => r = 0) (fun _ t => ∃ (xy : List Value) (ch0y : List Value) (ch1y : List Value) (ch2y : List Value) (ch3y : List Value) (oAy : Nat → Int64), fx xy 17 [(7, .ref deA), (8, .ref liA), (9, .ref chA)] ∧ fx ch0y 20 [(0, .int 0)] ∧ fx ch1y 20 [(0, .int 0)] ∧ fx ch2y 20 [(0, .int 0)] ∧ fx ch3y 20 [(0, .int 0)] ∧ fa oAy [] ∧ va_P (dC, dI) CL [(x, .inr (12, xy)), (chA, .inl (chAC, (4, .inr (.inr (.inr (.inr chAF)))))), (ch0, .inr (2, ch0y)), (ch1, .inr (2, ch1y)), (ch2, .inr (2, ch2y)), (ch3, .inr (2, ch3y)), (oA, .inl (oAC, (1, .inr (.inl oAy))))] t.heap ∧ va_K (dC, dI) CL [(chAC, .object "ChipFlow$Chip"), (oAC, .long)] t ∧ va_D (va_A [(x, .inr (12, xg)), (chA, .inl (chAC, (4, .inr (.inr (.inr (.inr chAF)))))), (ch0, .inr (2, ch0g)), (ch1, .inr (2, ch1g)), (ch2, .inr (2, ch2g)), (ch3, .inr (2, ch3g)), (oA, .inl (oAC, (1, .inr (.inl oAf))))] sz) [(x, .inr (12, xy)), (chA, .inl (chAC, (4, .inr (.inr (.inr (.inr chAF)))))), (ch0, .inr (2, ch0y)), (ch1, .inr (2, ch1y)), (ch2, .inr (2, ch2y)), (ch3, .inr (2, ch3y)), (oA, .inl (oAC, (1, .inr (.inl oAy))))]) (va_A [(x, .inr (12, xg)), (chA, .inl (chAC, (4, .inr (.inr (.inr (.inr chAF)))))), (ch0, .inr (2, ch0g)), (ch1, .inr (2, ch1g)), (ch2, .inr (2, ch2g)), (ch3, .inr (2, ch3g)), (oA, .inl (oAC, (1, .inr (.inl oAf))))] sz)) 1 6 (va_A [(x, .inr (12, xg)), (chA, .inl (chAC, (4, .inr (.inr (.inr (.inr chAF)))))), (ch0, .inr (2, ch0g)), (ch1, .inr (2, ch1g)), (ch2, .inr (2, ch2g)), (ch3, .inr (2, ch3g)), (oA, .inl (oAC, (1, .inr (.inl oAf))))] sz) := by
  refine Met.ofW (cc := cX12_isThere) (maxL := 3) (ret := (some .boolean)) (by decide) rfl ?_
  intro p e s m args below meth c s₁ B hml hv
  obtain ⟨rfl, hsz, hP, hK, hD0, hth⟩ := hv
  have hx := B.exec
  have hb := B.bytes
  have hr := B.returns
  have hts : ∀ w ∈ BG, w.before _ s = true := fun w h => atoms_spec (ws := Cond.code yX12_isThere cX12_isThere 3 (some .boolean) :: BG) B.pre w (List.mem_cons_of_mem _ h)
  have hown : s.vm.findClass RX12 = some m.cls := findClass_of_methodNamed B.named
  have hlocks := B.notSynchronized
  subst hsz
  have hD := hD0.self (sz := s.heap.size)
  generalize hAe : va_A [(x, .inr (12, xg)), (chA, .inl (chAC, (4, .inr (.inr (.inr (.inr chAF)))))), (ch0, .inr (2, ch0g)), (ch1, .inr (2, ch1g)), (ch2, .inr (2, ch2g)), (ch3, .inr (2, ch3g)), (oA, .inl (oAC, (1, .inr (.inl oAf))))] s.heap.size = A at hD hth ⊢
  have hA : ∀ q : Nat, s.heap.size ≤ q → A q := fun q h => by rw [← hAe]; exact Or.inr h
  have hS : va_S A s.heap s.heap [] := va_S.rf
  have hl := lv_entry ([.ref x, .int 2, .int p1]) (n := 3) (Nat.le_of_ble_eq_true rfl)
  rw [lg_entry_eq]
  generalize (lg_sl ([.ref x, .int 2, .int p1]) ++ List.replicate (3 - (lg_sl ([.ref x, .int 2, .int p1])).length) Slot.unset).toArray = ls at hl ⊢
  have hl : lv_has ls 3 [(0, .ref x), (1, .int 2), (2, .int p1)] := hl
  obtain ⟨H, eH⟩ : ∃ z, z = s.heap := ⟨_, rfl⟩
  have hP : va_P (dC, dI) CL [(x, .inr (12, xg)), (chA, .inl (chAC, (4, .inr (.inr (.inr (.inr chAF)))))), (ch0, .inr (2, ch0g)), (ch1, .inr (2, ch1g)), (ch2, .inr (2, ch2g)), (ch3, .inr (2, ch3g)), (oA, .inl (oAC, (1, .inr (.inl oAf))))] H := by rw [eH]; exact hP
  have hS : va_S A s.heap H [] := by rw [eH]; exact hS
  rw [← eH]
  refine lv_iload_n hx hb dX12_isThere_0 rfl (lv_at hl 1 rfl) ?_
  refine lv_if_lt (tgt := 13) hx hb dX12_isThere_1 (by decide) (fun c9 => ?_) (fun c9 => ?_)
  · first | exact absurd c9 (by decide +kernel) | exact absurd (by decide +kernel) c9
  refine lv_iload_n hx hb dX12_isThere_4 rfl (lv_at hl 1 rfl) ?_
  refine lv_iconst (v := 2) hx hb dX12_isThere_5 (by decide +kernel) ?_
  refine lv_icmp_gt (tgt := 13) hx hb dX12_isThere_6 (by decide) (fun c9 => ?_) (fun c9 => ?_)
  · first | exact absurd c9 (by decide +kernel) | exact absurd (by decide +kernel) c9
  refine lv_iconst (v := 1) hx hb dX12_isThere_9 (by decide +kernel) ?_
  refine lv_goto (tgt := 14) hx hb dX12_isThere_10 (by decide) ?_
  have hF0 : ∀ q, va_A [] H.size q → A q := fun q h => h.elim (fun ⟨k9, e9, h9⟩ => by simp at h9) (fun h9 => hA q (Nat.le_trans hS.1 h9))
  refine vx_callv (vx_runS (As := [.int 1]) (rest := []) ⟨hx, hb, hml, hown, hts⟩ (ct_X12_needRange l hlt H.size 1) (cwS 1 hts (gi_S wd_1328 wd_1329 wd_327 wd_1330) rfl rfl rfl (by decide +kernel) ⟨(Nat.le_of_ble_eq_true rfl), (Nat.le_of_ble_eq_true rfl)⟩) ⟨fun a U g mk q => ⟨q.1, q.2.1, th.moved (u := U) (U := U.calling g mk a) (Vm.Alike.refl U.vm) q.2.2⟩, fun U hU hW => ⟨rfl, by rw [hU], by rw [hU]; exact ((hth.kept hS.2.1).narrow hF0).moved hW.alike⟩⟩ rfl rfl hl.1 rfl (lv_room (Nat.le_of_ble_eq_true rfl)) dX12_isThere_14 ⟨(Nat.le_of_ble_eq_true rfl), (Nat.le_of_ble_eq_true rfl)⟩) hS (fun q _ h => hF0 q h) hF0 (fun q _ h => hF0 q h) (fun E ce q9 u t H1 locs ht hvm hp hB hz hk hS hce hcv hcl => absurd hp (by decide +kernel)) (fun u t H1 locs ht hvm hp hB hz hk hS => ?_)
  have hP : va_P (dC, dI) CL [(x, .inr (12, xg)), (chA, .inl (chAC, (4, .inr (.inr (.inr (.inr chAF)))))), (ch0, .inr (2, ch0g)), (ch1, .inr (2, ch1g)), (ch2, .inr (2, ch2g)), (ch3, .inr (2, ch3g)), (oA, .inl (oAC, (1, .inr (.inl oAf))))] H1 := hP.kept (fun k q h9 => hk _ (vx_lt hP h9) (fun h8 => h8.elim (fun ⟨k9, e9, h7⟩ => by simp at h7) (fun h7 => absurd (vx_lt hP h9) (Nat.not_lt.mpr h7))))
  generalize H1 = H at hP hS ⊢
  refine W.widen (k := 1) (n := 6) (Nat.le_of_ble_eq_true rfl) (Nat.le_of_ble_eq_true rfl) ?_
  refine lv_iload_n hx hb dX12_isThere_17 rfl (lv_at hl 1 rfl) ?_
  refine lv_if_ne (tgt := 49) hx hb dX12_isThere_18 (by decide) (fun c9 => ?_) (fun c9 => ?_)
  rotate_left
  · first | exact absurd c9 (by decide +kernel) | exact absurd (by decide +kernel) c9
  refine lv_iload_n hx hb dX12_isThere_49 rfl (lv_at hl 1 rfl) ?_
  refine lv_iconst (v := 1) hx hb dX12_isThere_50 (by decide +kernel) ?_
  refine lv_icmp_ne (tgt := 81) hx hb dX12_isThere_51 (by decide) (fun c9 => ?_) (fun c9 => ?_)
  rotate_left
  · first | exact absurd c9 (by decide +kernel) | exact absurd (by decide +kernel) c9
  refine lv_iload_n hx hb dX12_isThere_81 rfl (lv_at hl 2 rfl) ?_
  refine lv_if_lt (tgt := 106) hx hb dX12_isThere_82 (by decide) (fun c9 => ?_) (fun c9 => ?_)
  · first | exact absurd c9 zk | exact absurd zk c9
  refine lv_iload_n hx hb dX12_isThere_85 rfl (lv_at hl 2 rfl) ?_
  refine lv_iconst (v := 4) hx hb dX12_isThere_86 (by decide +kernel) ?_
  refine lv_icmp_ge (tgt := 106) hx hb dX12_isThere_87 (by decide) (fun c9 => ?_) (fun c9 => ?_)
  rotate_left
  · first | exact absurd c9 zg | exact absurd zg c9
  refine lv_iconst (v := 0) hx hb dX12_isThere_106 (by decide +kernel) ?_
  refine W.widen (k := 1) (n := 6) (Nat.le_of_ble_eq_true rfl) (Nat.le_of_ble_eq_true rfl) ?_
  exact W.zret (v := 0) hx hb hr rfl (fun t ht hW => ⟨⟨0, (), rfl, rfl, xg, ch0g, ch1g, ch2g, ch3g, oAf, h_x, h_ch0, h_ch1, h_ch2, h_ch3, h_oA, by rw [ht]; exact hP, va_K.moved hW.alike hK, hD⟩, hS.F ht⟩) hS.2.2 dX12_isThere_107
set_option maxHeartbeats 4000000 in
set_option maxRecDepth 100000 in
theorem gx124_L_isThere (l : Launch) (hlt : l.stackTraces = false) (dC : Nat → ClassId) (dI : Nat → Nat → Nat) (sz : Nat) (p1 : Int32) (x chA ch0 ch1 ch2 ch3 oA deA liA : Nat) (xg : List Value) (h_x : fx xg 17 [(7, .ref deA), (8, .ref liA), (9, .ref chA)]) (chAC : ClassId) (chAF : Nat → Option Nat) (ch0g : List Value) (h_ch0 : fx ch0g 20 [(0, .int 0)]) (ch1g : List Value) (h_ch1 : fx ch1g 20 [(0, .int 0)]) (ch2g : List Value) (h_ch2 : fx ch2g 20 [(0, .int 0)]) (ch3g : List Value) (h_ch3 : fx ch3g 20 [(0, .int 0)]) (oAC : ClassId) (oAf : Nat → Int64) (h_oA : fa oAf []) (h_chA0 : chAF 0 = some ch0) (h_chA1 : chAF 1 = some ch1) (h_chA2 : chAF 2 = some ch2) (h_chA3 : chAF 3 = some ch3) (zk : ¬ p1 < 0) (zg : 4 ≤ p1) : Met l yL_isThere (Cond.codeWith yL_isThere cL_isThere 5 (some .int) [(0, 17, 20, 19)] :: BG) ({ frames := 8, cells := 1, slots := 6, locals := 152 }) (va_Pc [.ref x, .int 2, .int p1, .ref oA] (fun U => U.heap.size = sz ∧ va_P (dC, dI) CL [(x, .inr (12, xg)), (chA, .inl (chAC, (4, .inr (.inr (.inr (.inr chAF)))))), (ch0, .inr (2, ch0g)), (ch1, .inr (2, ch1g)), (ch2, .inr (2, ch2g)), (ch3, .inr (2, ch3g)), (oA, .inl (oAC, (1, .inr (.inl oAf))))] U.heap ∧ va_K (dC, dI) CL [(chAC, .object "ChipFlow$Chip"), (oAC, .long)] U ∧ va_D (fun _ => True) [(x, .inr (12, xg)), (chA, .inl (chAC, (4, .inr (.inr (.inr (.inr chAF)))))), (ch0, .inr (2, ch0g)), (ch1, .inr (2, ch1g)), (ch2, .inr (2, ch2g)), (ch3, .inr (2, ch3g)), (oA, .inl (oAC, (1, .inr (.inl oAf))))] ∧ th (va_A [(x, .inr (12, xg)), (chA, .inl (chAC, (4, .inr (.inr (.inr (.inr chAF)))))), (ch0, .inr (2, ch0g)), (ch1, .inr (2, ch1g)), (ch2, .inr (2, ch2g)), (ch3, .inr (2, ch3g)), (oA, .inl (oAC, (1, .inr (.inl oAf))))] sz) U U.heap)) (va_Qi (fun (r : Int32) (_ : Unit) => r = 0) (fun _ t => ∃ (xy : List Value) (ch0y : List Value) (ch1y : List Value) (ch2y : List Value) (ch3y : List Value) (oAy : Nat → Int64), fx xy 17 [(7, .ref deA), (8, .ref liA), (9, .ref chA)] ∧ fx ch0y 20 [(0, .int 0)] ∧ fx ch1y 20 [(0, .int 0)] ∧ fx ch2y 20 [(0, .int 0)] ∧ fx ch3y 20 [(0, .int 0)] ∧ fa oAy [(0, 0)] ∧ va_P (dC, dI) CL [(x, .inr (12, xy)), (chA, .inl (chAC, (4, .inr (.inr (.inr (.inr chAF)))))), (ch0, .inr (2, ch0y)), (ch1, .inr (2, ch1y)), (ch2, .inr (2, ch2y)), (ch3, .inr (2, ch3y)), (oA, .inl (oAC, (1, .inr (.inl oAy))))] t.heap ∧ va_K (dC, dI) CL [(chAC, .object "ChipFlow$Chip"), (oAC, .long)] t ∧ va_D (va_A [(x, .inr (12, xg)), (chA, .inl (chAC, (4, .inr (.inr (.inr (.inr chAF)))))), (ch0, .inr (2, ch0g)), (ch1, .inr (2, ch1g)), (ch2, .inr (2, ch2g)), (ch3, .inr (2, ch3g)), (oA, .inl (oAC, (1, .inr (.inl oAf))))] sz) [(x, .inr (12, xy)), (chA, .inl (chAC, (4, .inr (.inr (.inr (.inr chAF)))))), (ch0, .inr (2, ch0y)), (ch1, .inr (2, ch1y)), (ch2, .inr (2, ch2y)), (ch3, .inr (2, ch3y)), (oA, .inl (oAC, (1, .inr (.inl oAy))))]) (va_A [(x, .inr (12, xg)), (chA, .inl (chAC, (4, .inr (.inr (.inr (.inr chAF)))))), (ch0, .inr (2, ch0g)), (ch1, .inr (2, ch1g)), (ch2, .inr (2, ch2g)), (ch3, .inr (2, ch3g)), (oA, .inl (oAC, (1, .inr (.inl oAf))))] sz)) 1 6 (va_A [(x, .inr (12, xg)), (chA, .inl (chAC, (4, .inr (.inr (.inr (.inr chAF)))))), (ch0, .inr (2, ch0g)), (ch1, .inr (2, ch1g)), (ch2, .inr (2, ch2g)), (ch3, .inr (2, ch3g)), (oA, .inl (oAC, (1, .inr (.inl oAf))))] sz) := by
  refine va_MetW (hh := [(0, 17, 20, 19)]) (cc := cL_isThere) (maxL := 5) (ret := (some .int)) (by decide) rfl ?_
  intro p e s m args below meth c s₁ B hml hv
  obtain ⟨rfl, hsz, hP, hK, hD0, hth⟩ := hv
  have hx := B.exec
  have hb := B.bytes
  have hr := B.returns
  have hts : ∀ w ∈ BG, w.before _ s = true := fun w h => atoms_spec (ws := Cond.codeWith yL_isThere cL_isThere 5 (some .int) [(0, 17, 20, 19)] :: BG) B.pre w (List.mem_cons_of_mem _ h)
  have hown : s.vm.findClass RL = some m.cls := findClass_of_methodNamed B.named
  have hlocks := B.notSynchronized
  subst hsz
  have hD := hD0.self (sz := s.heap.size)
  generalize hAe : va_A [(x, .inr (12, xg)), (chA, .inl (chAC, (4, .inr (.inr (.inr (.inr chAF)))))), (ch0, .inr (2, ch0g)), (ch1, .inr (2, ch1g)), (ch2, .inr (2, ch2g)), (ch3, .inr (2, ch3g)), (oA, .inl (oAC, (1, .inr (.inl oAf))))] s.heap.size = A at hD hth ⊢
  have hA : ∀ q : Nat, s.heap.size ≤ q → A q := fun q h => by rw [← hAe]; exact Or.inr h
  have hS : va_S A s.heap s.heap [] := va_S.rf
  have hl := lv_entry ([.ref x, .int 2, .int p1, .ref oA]) (n := 5) (Nat.le_of_ble_eq_true rfl)
  rw [lg_entry_eq]
  generalize (lg_sl ([.ref x, .int 2, .int p1, .ref oA]) ++ List.replicate (5 - (lg_sl ([.ref x, .int 2, .int p1, .ref oA])).length) Slot.unset).toArray = ls at hl ⊢
  have hl : lv_has ls 5 [(0, .ref x), (1, .int 2), (2, .int p1), (3, .ref oA)] := hl
  obtain ⟨H, eH⟩ : ∃ z, z = s.heap := ⟨_, rfl⟩
  have hP : va_P (dC, dI) CL [(x, .inr (12, xg)), (chA, .inl (chAC, (4, .inr (.inr (.inr (.inr chAF)))))), (ch0, .inr (2, ch0g)), (ch1, .inr (2, ch1g)), (ch2, .inr (2, ch2g)), (ch3, .inr (2, ch3g)), (oA, .inl (oAC, (1, .inr (.inl oAf))))] H := by rw [eH]; exact hP
  have hS : va_S A s.heap H [] := by rw [eH]; exact hS
  rw [← eH]
  have hT : c.exceptionTable.toList = tableOf [(0, 17, 20, 19)] := vx_table (x := yL_isThere) B (atoms_spec (ws := Cond.codeWith yL_isThere cL_isThere 5 (some .int) [(0, 17, 20, 19)] :: BG) B.pre _ List.mem_cons_self)
  refine lv_aload_n hx hb dL_isThere_0 rfl (lv_at hl 3 rfl) ?_
  refine lv_iconst (v := 0) hx hb dL_isThere_1 (by decide +kernel) ?_
  refine lv_aload_n hx hb dL_isThere_2 rfl (lv_at hl 0 rfl) ?_
  refine lv_iload_n hx hb dL_isThere_3 rfl (lv_at hl 1 rfl) ?_
  refine lv_iload_n hx hb dL_isThere_4 rfl (lv_at hl 2 rfl) ?_
  have hFc := va_free (wc := [(x, .inr (12, xg)), (chA, .inl (chAC, (4, .inr (.inr (.inr (.inr chAF)))))), (ch0, .inr (2, ch0g)), (ch1, .inr (2, ch1g)), (ch2, .inr (2, ch2g)), (ch3, .inr (2, ch3g)), (oA, .inl (oAC, (1, .inr (.inl oAf))))]) hD hS hA [0, 1, 2, 3, 4, 5, 6] rfl
  refine va_calli (va_runV (As := [.int 2, .int p1]) (rest := [.int 0, .ref oA]) ⟨hx, hb, hml, hown, hts⟩ (gx125_X12_isThere l hlt dC dI _ p1 x chA ch0 ch1 ch2 ch3 oA deA liA xg h_x chAC chAF ch0g h_ch0 ch1g h_ch1 ch2g h_ch2 ch3g h_ch3 oAC oAf h_oA h_chA0 h_chA1 h_chA2 h_chA3 zk zg) (cwV 2 hts (gi_V wd_1842 wd_1843 wd_1844 wd_327 wd_1845) rfl rfl rfl (by decide +kernel) ⟨(Nat.le_of_ble_eq_true rfl), (Nat.le_of_ble_eq_true rfl)⟩) ⟨fun a U g mk q => by obtain ⟨q0, q1, qP, qK, qD, qT⟩ := q; exact ⟨q0, q1, qP, va_K.moved (u := U) (U := U.calling g mk a) (Vm.Alike.refl U.vm) qK, qD, th.moved (u := U) (U := U.calling g mk a) (Vm.Alike.refl U.vm) qT⟩, va_recv hK hP (ci := 12) (q0 := 0) rfl rfl, fun U hU hW => ⟨rfl, by rw [hU], by rw [hU]; exact hP, va_K.moved hW.alike hK, hD.weaken (fun _ _ _ _ => trivial), by rw [hU]; exact ((hth.kept hS.2.1).narrow hFc).moved hW.alike⟩⟩ rfl rfl hl.1 rfl (lv_room (Nat.le_of_ble_eq_true rfl)) dL_isThere_5 ⟨(Nat.le_of_ble_eq_true rfl), (Nat.le_of_ble_eq_true rfl)⟩) hS (fun q _ h => hFc q h) hFc (fun r u t H1 locs ht hvm hw hB hz1 hk1 hS => ?_)
  subst hw
  obtain ⟨fs_1, fs_2, fs_3, fs_4, fs_5, f_6, h_x, h_ch0, h_ch1, h_ch2, h_ch3, h_oA, hP1, hK1, hD1⟩ := hB
  rw [ht] at hP1
  have hD := hD1.weaken (fun k q _ h => hFc q.1 h)
  have hP := hP1
  generalize H1 = H at hP hS ⊢
  have hP : va_P (dC, dI) CL [(x, .inr (12, fs_1)), (chA, .inl (chAC, (4, .inr (.inr (.inr (.inr chAF)))))), (ch0, .inr (2, fs_2)), (ch1, .inr (2, fs_3)), (ch2, .inr (2, fs_4)), (ch3, .inr (2, fs_5)), (oA, .inl (oAC, (1, .inr (.inl f_6))))] H := hP
  have hD : va_D A [(x, .inr (12, fs_1)), (chA, .inl (chAC, (4, .inr (.inr (.inr (.inr chAF)))))), (ch0, .inr (2, fs_2)), (ch1, .inr (2, fs_3)), (ch2, .inr (2, fs_4)), (ch3, .inr (2, fs_5)), (oA, .inl (oAC, (1, .inr (.inl f_6))))] := hD
  refine W.widen (k := 1) (n := 6) (Nat.le_of_ble_eq_true rfl) (Nat.le_of_ble_eq_true rfl) ?_
  refine lv_if_eq (tgt := 15) hx hb dL_isThere_8 (by decide) (fun c9 => ?_) (fun c9 => ?_)
  rotate_left
  · first | exact absurd c9 (by decide +kernel) | exact absurd (by decide +kernel) c9
  refine lv_lconst (v := 0) hx hb dL_isThere_15 (by decide) ?_
  refine va_last hx hb hK hP hD hS 6 1 rfl rfl (vp_in_nI (n := 0) (N := 1) (by decide) (by decide)) dL_isThere_16 (fun H locs hP hD hS => ?_)
  obtain ⟨f_7, e9⟩ : ∃ z, z = vp_updL f_6 (0 : Int32).toNatClampNeg 0 := ⟨_, rfl⟩
  have h_oA : fa f_7 [(0, 0)] := by rw [e9, show (0 : Int32).toNatClampNeg = 0 by decide +kernel]; exact (fa.putL h_oA).sub [0] rfl
  have hP : va_P (dC, dI) CL [(x, .inr (12, fs_1)), (chA, .inl (chAC, (4, .inr (.inr (.inr (.inr chAF)))))), (ch0, .inr (2, fs_2)), (ch1, .inr (2, fs_3)), (ch2, .inr (2, fs_4)), (ch3, .inr (2, fs_5)), (oA, .inl (oAC, (1, .inr (.inl f_7))))] H := by rw [e9]; exact hP
  have hD : va_D A [(x, .inr (12, fs_1)), (chA, .inl (chAC, (4, .inr (.inr (.inr (.inr chAF)))))), (ch0, .inr (2, fs_2)), (ch1, .inr (2, fs_3)), (ch2, .inr (2, fs_4)), (ch3, .inr (2, fs_5)), (oA, .inl (oAC, (1, .inr (.inl f_7))))] := by rw [e9]; exact hD
  clear e9
  refine lv_goto (tgt := 24) hx hb dL_isThere_17 (by decide) ?_
  refine lv_iconst (v := 0) hx hb dL_isThere_24 (by decide +kernel) ?_
  refine W.widen (k := 1) (n := 6) (Nat.le_of_ble_eq_true rfl) (Nat.le_of_ble_eq_true rfl) ?_
  exact W.iret (v := 0) hx hb hr (fun t ht hW => ⟨⟨0, (), rfl, rfl, fs_1, fs_2, fs_3, fs_4, fs_5, f_7, h_x, h_ch0, h_ch1, h_ch2, h_ch3, h_oA, by rw [ht]; exact hP, va_K.moved hW.alike hK, hD⟩, hS.F ht⟩) hS.2.2 dL_isThere_25
set_option maxHeartbeats 4000000 in
set_option maxRecDepth 100000 in
theorem gx127_X13_isOne (l : Launch) (hlt : l.stackTraces = false) (dC : Nat → ClassId) (dI : Nat → Nat → Nat) (sz : Nat) (p1 : Int32) (m0 mch md ml : Nat) (m0g : List Value) (h_m0 : fx m0g 225 [(0, .int 0), (2, .int 0), (3, .int 0), (9, .int 0), (10, .int 0), (11, .int 0), (12, .int 0), (27, .int 0), (55, .ref md), (79, .int 0), (83, .int 0), (88, .ref ml), (95, .int 0), (138, .ref mch)]) (mchC : ClassId) (zk : ¬ p1 < 0) (zg : 4 ≤ p1) : Met l yX13_isOne (Cond.code yX13_isOne cX13_isOne 3 (some .boolean) :: BG) ({ frames := 2, cells := 0, slots := 0, locals := 33 }) (va_Pc [.ref m0, .int 2, .int p1] (fun U => U.heap.size = sz ∧ va_P (dC, dI) CL [(m0, .inr (13, m0g)), (mch, .inl (mchC, (4, .inl (fun _ => 0))))] U.heap ∧ va_K (dC, dI) CL [(mchC, .boolean)] U ∧ va_D (fun _ => True) [(m0, .inr (13, m0g)), (mch, .inl (mchC, (4, .inl (fun _ => 0))))] ∧ th (va_A [(m0, .inr (13, m0g)), (mch, .inl (mchC, (4, .inl (fun _ => 0))))] sz) U U.heap)) (va_Qi (fun (r : Int32) (_ : Unit) => r = 0) (fun _ t => ∃ (m0y : List Value), fx m0y 225 [(0, .int 0), (2, .int 0), (3, .int 0), (9, .int 0), (10, .int 0), (11, .int 0), (12, .int 0), (27, .int 0), (55, .ref md), (79, .int 0), (83, .int 0), (88, .ref ml), (95, .int 0), (138, .ref mch)] ∧ va_P (dC, dI) CL [(m0, .inr (13, m0y)), (mch, .inl (mchC, (4, .inl (fun _ => 0))))] t.heap ∧ va_K (dC, dI) CL [(mchC, .boolean)] t ∧ va_D (va_A [(m0, .inr (13, m0g)), (mch, .inl (mchC, (4, .inl (fun _ => 0))))] sz) [(m0, .inr (13, m0y)), (mch, .inl (mchC, (4, .inl (fun _ => 0))))]) (va_A [(m0, .inr (13, m0g)), (mch, .inl (mchC, (4, .inl (fun _ => 0))))] sz)) 0 0 (va_A [(m0, .inr (13, m0g)), (mch, .inl (mchC, (4, .inl (fun _ => 0))))] sz) := by
  refine Met.ofW (cc := cX13_isOne) (maxL := 3) (ret := (some .boolean)) (by decide) rfl ?_
  intro p e s m args below meth c s₁ B hml hv
  obtain ⟨rfl, hsz, hP, hK, hD0, hth⟩ := hv
  have hx := B.exec
  have hb := B.bytes
  have hr := B.returns
  have hts : ∀ w ∈ BG, w.before _ s = true := fun w h => atoms_spec (ws := Cond.code yX13_isOne cX13_isOne 3 (some .boolean) :: BG) B.pre w (List.mem_cons_of_mem _ h)
  have hown : s.vm.findClass RX13 = some m.cls := findClass_of_methodNamed B.named
  have hlocks := B.notSynchronized
  subst hsz
  have hD := hD0.self (sz := s.heap.size)
  generalize hAe : va_A [(m0, .inr (13, m0g)), (mch, .inl (mchC, (4, .inl (fun _ => 0))))] s.heap.size = A at hD hth ⊢
  have hA : ∀ q : Nat, s.heap.size ≤ q → A q := fun q h => by rw [← hAe]; exact Or.inr h
  have hS : va_S A s.heap s.heap [] := va_S.rf
  have hl := lv_entry ([.ref m0, .int 2, .int p1]) (n := 3) (Nat.le_of_ble_eq_true rfl)
  rw [lg_entry_eq]
  generalize (lg_sl ([.ref m0, .int 2, .int p1]) ++ List.replicate (3 - (lg_sl ([.ref m0, .int 2, .int p1])).length) Slot.unset).toArray = ls at hl ⊢
  have hl : lv_has ls 3 [(0, .ref m0), (1, .int 2), (2, .int p1)] := hl
  obtain ⟨H, eH⟩ : ∃ z, z = s.heap := ⟨_, rfl⟩
  have hP : va_P (dC, dI) CL [(m0, .inr (13, m0g)), (mch, .inl (mchC, (4, .inl (fun _ => 0))))] H := by rw [eH]; exact hP
  have hS : va_S A s.heap H [] := by rw [eH]; exact hS
  rw [← eH]
  refine lv_iload_n hx hb dX13_isOne_0 rfl (lv_at hl 1 rfl) ?_
  refine lv_if_ne (tgt := 12) hx hb dX13_isOne_1 (by decide) (fun c9 => ?_) (fun c9 => ?_)
  rotate_left
  · first | exact absurd c9 (by decide +kernel) | exact absurd (by decide +kernel) c9
  refine lv_iload_n hx hb dX13_isOne_12 rfl (lv_at hl 1 rfl) ?_
  refine lv_iconst (v := 1) hx hb dX13_isOne_13 (by decide +kernel) ?_
  refine lv_icmp_ne (tgt := 25) hx hb dX13_isOne_14 (by decide) (fun c9 => ?_) (fun c9 => ?_)
  rotate_left
  · first | exact absurd c9 (by decide +kernel) | exact absurd (by decide +kernel) c9
  refine lv_aload_n hx hb dX13_isOne_25 rfl (lv_at hl 0 rfl) ?_
  refine lv_iload_n hx hb dX13_isOne_26 rfl (lv_at hl 2 rfl) ?_
  have hFc := va_free (wc := [(m0, .inr (13, m0g)), (mch, .inl (mchC, (4, .inl (fun _ => 0))))]) hD hS hA [0, 1] rfl
  refine va_calli (va_runV (As := [.int p1]) (rest := []) ⟨hx, hb, hml, hown, hts⟩ (ct_X13_isChip l dC dI _ p1 m0 m0g mch mchC (h_m0.sub [13] rfl)) (cwV 1 hts (gi_V wd_4084 wd_4086 wd_217 wd_340 wd_4087) rfl rfl rfl (by decide +kernel) ⟨(Nat.le_of_ble_eq_true rfl), (Nat.le_of_ble_eq_true rfl)⟩) ⟨fun a U g mk q => by obtain ⟨q0, q1, qP, qK, qD⟩ := q; exact ⟨q0, q1, qP, va_K.moved (u := U) (U := U.calling g mk a) (Vm.Alike.refl U.vm) qK, qD⟩, va_recv hK hP (ci := 13) (q0 := 0) rfl rfl, fun U hU hW => ⟨rfl, by rw [hU], by rw [hU]; exact hP, va_K.moved hW.alike hK, hD.weaken (fun _ _ _ _ => trivial)⟩⟩ rfl rfl hl.1 rfl (lv_room (Nat.le_of_ble_eq_true rfl)) dX13_isOne_27 ⟨(Nat.le_of_ble_eq_true rfl), (Nat.le_of_ble_eq_true rfl)⟩) hS (fun q _ h => hFc q h) hFc (fun r u t H1 locs ht hvm hw hB hz1 hk1 hS => ?_)
  subst hw
  obtain ⟨hP1, hK1, hD1⟩ := hB
  rw [ht] at hP1
  have hD := hD1.weaken (fun k q _ h => hFc q.1 h)
  have hP := hP1
  generalize H1 = H at hP hS ⊢
  have hP : va_P (dC, dI) CL [(m0, .inr (13, m0g)), (mch, .inl (mchC, (4, .inl (fun _ => 0))))] H := hP
  have hD : va_D A [(m0, .inr (13, m0g)), (mch, .inl (mchC, (4, .inl (fun _ => 0))))] := hD
  exact W.zret (v := 0) hx hb hr rfl (fun t ht hW => ⟨⟨0, (), rfl, rfl, m0g, h_m0, by rw [ht]; exact hP, va_K.moved hW.alike hK, hD⟩, hS.F ht⟩) hS.2.2 dX13_isOne_30
set_option maxHeartbeats 4000000 in
set_option maxRecDepth 100000 in
theorem gx126_X13_isThere (l : Launch) (hlt : l.stackTraces = false) (dC : Nat → ClassId) (dI : Nat → Nat → Nat) (sz : Nat) (p1 : Int32) (m0 mch md ml : Nat) (m0g : List Value) (h_m0 : fx m0g 225 [(0, .int 0), (2, .int 0), (3, .int 0), (9, .int 0), (10, .int 0), (11, .int 0), (12, .int 0), (27, .int 0), (55, .ref md), (79, .int 0), (83, .int 0), (88, .ref ml), (95, .int 0), (138, .ref mch)]) (mchC : ClassId) (zk : ¬ p1 < 0) (zg : 4 ≤ p1) : Met l yX13_isThere (Cond.code yX13_isThere cX13_isThere 3 (some .boolean) :: BG) ({ frames := 3, cells := 0, slots := 0, locals := 55 }) (va_Pc [.ref m0, .int 2, .int p1] (fun U => U.heap.size = sz ∧ va_P (dC, dI) CL [(m0, .inr (13, m0g)), (mch, .inl (mchC, (4, .inl (fun _ => 0))))] U.heap ∧ va_K (dC, dI) CL [(mchC, .boolean)] U ∧ va_D (fun _ => True) [(m0, .inr (13, m0g)), (mch, .inl (mchC, (4, .inl (fun _ => 0))))] ∧ th (va_A [(m0, .inr (13, m0g)), (mch, .inl (mchC, (4, .inl (fun _ => 0))))] sz) U U.heap)) (va_Qi (fun (r : Int32) (_ : Unit) => r = 0) (fun _ t => ∃ (m0y : List Value), fx m0y 225 [(0, .int 0), (2, .int 0), (3, .int 0), (9, .int 0), (10, .int 0), (11, .int 0), (12, .int 0), (27, .int 0), (55, .ref md), (79, .int 0), (83, .int 0), (88, .ref ml), (95, .int 0), (138, .ref mch)] ∧ va_P (dC, dI) CL [(m0, .inr (13, m0y)), (mch, .inl (mchC, (4, .inl (fun _ => 0))))] t.heap ∧ va_K (dC, dI) CL [(mchC, .boolean)] t ∧ va_D (va_A [(m0, .inr (13, m0g)), (mch, .inl (mchC, (4, .inl (fun _ => 0))))] sz) [(m0, .inr (13, m0y)), (mch, .inl (mchC, (4, .inl (fun _ => 0))))]) (va_A [(m0, .inr (13, m0g)), (mch, .inl (mchC, (4, .inl (fun _ => 0))))] sz)) 0 0 (va_A [(m0, .inr (13, m0g)), (mch, .inl (mchC, (4, .inl (fun _ => 0))))] sz) := by
  refine Met.ofW (cc := cX13_isThere) (maxL := 3) (ret := (some .boolean)) (by decide) rfl ?_
  intro p e s m args below meth c s₁ B hml hv
  obtain ⟨rfl, hsz, hP, hK, hD0, hth⟩ := hv
  have hx := B.exec
  have hb := B.bytes
  have hr := B.returns
  have hts : ∀ w ∈ BG, w.before _ s = true := fun w h => atoms_spec (ws := Cond.code yX13_isThere cX13_isThere 3 (some .boolean) :: BG) B.pre w (List.mem_cons_of_mem _ h)
  have hown : s.vm.findClass RX13 = some m.cls := findClass_of_methodNamed B.named
  have hlocks := B.notSynchronized
  subst hsz
  have hD := hD0.self (sz := s.heap.size)
  generalize hAe : va_A [(m0, .inr (13, m0g)), (mch, .inl (mchC, (4, .inl (fun _ => 0))))] s.heap.size = A at hD hth ⊢
  have hA : ∀ q : Nat, s.heap.size ≤ q → A q := fun q h => by rw [← hAe]; exact Or.inr h
  have hS : va_S A s.heap s.heap [] := va_S.rf
  have hl := lv_entry ([.ref m0, .int 2, .int p1]) (n := 3) (Nat.le_of_ble_eq_true rfl)
  rw [lg_entry_eq]
  generalize (lg_sl ([.ref m0, .int 2, .int p1]) ++ List.replicate (3 - (lg_sl ([.ref m0, .int 2, .int p1])).length) Slot.unset).toArray = ls at hl ⊢
  have hl : lv_has ls 3 [(0, .ref m0), (1, .int 2), (2, .int p1)] := hl
  obtain ⟨H, eH⟩ : ∃ z, z = s.heap := ⟨_, rfl⟩
  have hP : va_P (dC, dI) CL [(m0, .inr (13, m0g)), (mch, .inl (mchC, (4, .inl (fun _ => 0))))] H := by rw [eH]; exact hP
  have hS : va_S A s.heap H [] := by rw [eH]; exact hS
  rw [← eH]
  refine lv_aload_n hx hb dX13_isThere_0 rfl (lv_at hl 0 rfl) ?_
  refine lv_iload_n hx hb dX13_isThere_1 rfl (lv_at hl 1 rfl) ?_
  refine lv_iconst (v := 0) hx hb dX13_isThere_2 (by decide +kernel) ?_
  refine lv_iconst (v := 2) hx hb dX13_isThere_3 (by decide +kernel) ?_
  have hFc := va_free (wc := [(m0, .inr (13, m0g)), (mch, .inl (mchC, (4, .inl (fun _ => 0))))]) hD hS hA [0, 1] rfl
  refine va_calli (va_runS (As := [.int 2, .int 0, .int 2]) (rest := [.ref m0]) ⟨hx, hb, hml, hown, hts⟩ (gx59_X13_within l hlt dC dI _ m0 mch md ml m0g h_m0 mchC) (cwS 3 hts (gi_S wd_3825 wd_3826 wd_340 wd_3827) rfl rfl rfl (by decide +kernel) ⟨(Nat.le_of_ble_eq_true rfl), (Nat.le_of_ble_eq_true rfl)⟩) ⟨fun a U g mk q => by obtain ⟨q0, q1, qP, qK, qD, qT⟩ := q; exact ⟨q0, q1, qP, va_K.moved (u := U) (U := U.calling g mk a) (Vm.Alike.refl U.vm) qK, qD, th.moved (u := U) (U := U.calling g mk a) (Vm.Alike.refl U.vm) qT⟩, fun U hU hW => ⟨rfl, by rw [hU], by rw [hU]; exact hP, va_K.moved hW.alike hK, hD.weaken (fun _ _ _ _ => trivial), by rw [hU]; exact ((hth.kept hS.2.1).narrow hFc).moved hW.alike⟩⟩ rfl rfl hl.1 rfl (lv_room (Nat.le_of_ble_eq_true rfl)) dX13_isThere_4 ⟨(Nat.le_of_ble_eq_true rfl), (Nat.le_of_ble_eq_true rfl)⟩) hS (fun q _ h => hFc q h) hFc (fun r u t H1 locs ht hvm hw hB hz1 hk1 hS => ?_)
  subst hw
  obtain ⟨fs_1, h_m0, hP1, hK1, hD1⟩ := hB
  rw [ht] at hP1
  have hD := hD1.weaken (fun k q _ h => hFc q.1 h)
  have hP := hP1
  generalize H1 = H at hP hS ⊢
  have hP : va_P (dC, dI) CL [(m0, .inr (13, fs_1)), (mch, .inl (mchC, (4, .inl (fun _ => 0))))] H := hP
  have hD : va_D A [(m0, .inr (13, fs_1)), (mch, .inl (mchC, (4, .inl (fun _ => 0))))] := hD
  refine lv_if_eq (tgt := 14) hx hb dX13_isThere_7 (by decide) (fun c9 => ?_) (fun c9 => ?_)
  · first | exact absurd c9 (by decide +kernel) | exact absurd (by decide +kernel) c9
  refine lv_iconst (v := 0) hx hb dX13_isThere_10 (by decide +kernel) ?_
  refine lv_goto (tgt := 15) hx hb dX13_isThere_11 (by decide) ?_
  refine va_put (D := (dC, dI)) (ci := 13) (v := .int 0) (ty := tyX13 0) (C := RX13) (T := TX13) (N := 225) hx hb hts inX13 tyX13 tyX13_ok nmX13 hown hK hP hD hS 0 rfl rfl 0 (by decide) (hts (.fieldLink RX13 1 "ChipFlowModel" "code" "I") wd_3032) (fun _ h9 => h9) rfl (by decide +kernel) rfl rfl (by rw [h_m0.1]; decide) dX13_isThere_15 (fun H locs hP hD hS => ?_)
  obtain ⟨fs_2, e9⟩ : ∃ z, z = fs_1.set 0 (.int 0) := ⟨_, rfl⟩
  have h_m0 : fx fs_2 225 [(0, .int 0), (2, .int 0), (3, .int 0), (9, .int 0), (10, .int 0), (11, .int 0), (12, .int 0), (27, .int 0), (55, .ref md), (79, .int 0), (83, .int 0), (88, .ref ml), (95, .int 0), (138, .ref mch)] := by rw [e9]; exact (h_m0.put (F' := [(0, .int 0), (2, .int 0), (3, .int 0), (9, .int 0), (10, .int 0), (11, .int 0), (12, .int 0), (27, .int 0), (55, .ref md), (79, .int 0), (83, .int 0), (88, .ref ml), (95, .int 0), (138, .ref mch)]) (by decide) _ rfl).sub [0, 1, 2, 3, 4, 5, 6, 7, 8, 9, 10, 11, 12, 13] rfl
  have hP : va_P (dC, dI) CL [(m0, .inr (13, fs_2)), (mch, .inl (mchC, (4, .inl (fun _ => 0))))] H := by rw [e9]; exact hP
  have hD : va_D A [(m0, .inr (13, fs_2)), (mch, .inl (mchC, (4, .inl (fun _ => 0))))] := by rw [e9]; exact hD
  clear e9
  refine lv_aload_n hx hb dX13_isThere_18 rfl (lv_at hl 0 rfl) ?_
  refine va_get (D := (dC, dI)) (ci := 13) (v := .int 0) (C := RX13) (T := TX13) (N := 225) hx hb hts inX13 hown hK hP 0 rfl rfl 0 (by decide) (hts (.fieldLink RX13 1 "ChipFlowModel" "code" "I") wd_3032) (fun _ h9 => h9) (h_m0.get 0 rfl) dX13_isThere_19 ?_
  refine lv_if_ne (tgt := 38) hx hb dX13_isThere_22 (by decide) (fun c9 => ?_) (fun c9 => ?_)
  · first | exact absurd c9 (by decide +kernel) | exact absurd (by decide +kernel) c9
  refine lv_aload_n hx hb dX13_isThere_25 rfl (lv_at hl 0 rfl) ?_
  refine lv_iload_n hx hb dX13_isThere_26 rfl (lv_at hl 1 rfl) ?_
  refine lv_iload_n hx hb dX13_isThere_27 rfl (lv_at hl 2 rfl) ?_
  have hFc := va_free (wc := [(m0, .inr (13, fs_2)), (mch, .inl (mchC, (4, .inl (fun _ => 0))))]) hD hS hA [0, 1] rfl
  refine va_calli (va_runV (As := [.int 2, .int p1]) (rest := []) ⟨hx, hb, hml, hown, hts⟩ (gx127_X13_isOne l hlt dC dI _ p1 m0 mch md ml fs_2 h_m0 mchC zk zg) (cwV 2 hts (gi_V wd_4072 wd_4074 wd_214 wd_340 wd_4075) rfl rfl rfl (by decide +kernel) ⟨(Nat.le_of_ble_eq_true rfl), (Nat.le_of_ble_eq_true rfl)⟩) ⟨fun a U g mk q => by obtain ⟨q0, q1, qP, qK, qD, qT⟩ := q; exact ⟨q0, q1, qP, va_K.moved (u := U) (U := U.calling g mk a) (Vm.Alike.refl U.vm) qK, qD, th.moved (u := U) (U := U.calling g mk a) (Vm.Alike.refl U.vm) qT⟩, va_recv hK hP (ci := 13) (q0 := 0) rfl rfl, fun U hU hW => ⟨rfl, by rw [hU], by rw [hU]; exact hP, va_K.moved hW.alike hK, hD.weaken (fun _ _ _ _ => trivial), by rw [hU]; exact ((hth.kept hS.2.1).narrow hFc).moved hW.alike⟩⟩ rfl rfl hl.1 rfl (lv_room (Nat.le_of_ble_eq_true rfl)) dX13_isThere_28 ⟨(Nat.le_of_ble_eq_true rfl), (Nat.le_of_ble_eq_true rfl)⟩) hS (fun q _ h => hFc q h) hFc (fun r u t H1 locs ht hvm hw hB hz1 hk1 hS => ?_)
  subst hw
  obtain ⟨fs_3, h_m0, hP1, hK1, hD1⟩ := hB
  rw [ht] at hP1
  have hD := hD1.weaken (fun k q _ h => hFc q.1 h)
  have hP := hP1
  generalize H1 = H at hP hS ⊢
  have hP : va_P (dC, dI) CL [(m0, .inr (13, fs_3)), (mch, .inl (mchC, (4, .inl (fun _ => 0))))] H := hP
  have hD : va_D A [(m0, .inr (13, fs_3)), (mch, .inl (mchC, (4, .inl (fun _ => 0))))] := hD
  refine lv_if_eq (tgt := 38) hx hb dX13_isThere_31 (by decide) (fun c9 => ?_) (fun c9 => ?_)
  rotate_left
  · first | exact absurd c9 (by decide +kernel) | exact absurd (by decide +kernel) c9
  refine lv_iconst (v := 0) hx hb dX13_isThere_38 (by decide +kernel) ?_
  exact W.zret (v := 0) hx hb hr rfl (fun t ht hW => ⟨⟨0, (), rfl, rfl, fs_3, h_m0, by rw [ht]; exact hP, va_K.moved hW.alike hK, hD⟩, hS.F ht⟩) hS.2.2 dX13_isThere_39
set_option maxHeartbeats 4000000 in
set_option maxRecDepth 100000 in
theorem gx129_X12_isThere (l : Launch) (hlt : l.stackTraces = false) (dC : Nat → ClassId) (dI : Nat → Nat → Nat) (sz : Nat) (x chA ch0 ch1 ch2 ch3 oA deA liA : Nat) (xg : List Value) (h_x : fx xg 17 [(7, .ref deA), (8, .ref liA), (9, .ref chA)]) (chAC : ClassId) (chAF : Nat → Option Nat) (ch0g : List Value) (h_ch0 : fx ch0g 20 [(0, .int 0)]) (ch1g : List Value) (h_ch1 : fx ch1g 20 [(0, .int 0)]) (ch2g : List Value) (h_ch2 : fx ch2g 20 [(0, .int 0)]) (ch3g : List Value) (h_ch3 : fx ch3g 20 [(0, .int 0)]) (oAC : ClassId) (oAf : Nat → Int64) (h_oA : fa oAf []) (h_chA0 : chAF 0 = some ch0) (h_chA1 : chAF 1 = some ch1) (h_chA2 : chAF 2 = some ch2) (h_chA3 : chAF 3 = some ch3) : Met l yX12_isThere (Cond.code yX12_isThere cX12_isThere 3 (some .boolean) :: BG) ({ frames := 7, cells := 1, slots := 6, locals := 130 }) (va_Pc [.ref x, .int 2, .int 0] (fun U => U.heap.size = sz ∧ va_P (dC, dI) CL [(x, .inr (12, xg)), (chA, .inl (chAC, (4, .inr (.inr (.inr (.inr chAF)))))), (ch0, .inr (2, ch0g)), (ch1, .inr (2, ch1g)), (ch2, .inr (2, ch2g)), (ch3, .inr (2, ch3g)), (oA, .inl (oAC, (1, .inr (.inl oAf))))] U.heap ∧ va_K (dC, dI) CL [(chAC, .object "ChipFlow$Chip"), (oAC, .long)] U ∧ va_D (fun _ => True) [(x, .inr (12, xg)), (chA, .inl (chAC, (4, .inr (.inr (.inr (.inr chAF)))))), (ch0, .inr (2, ch0g)), (ch1, .inr (2, ch1g)), (ch2, .inr (2, ch2g)), (ch3, .inr (2, ch3g)), (oA, .inl (oAC, (1, .inr (.inl oAf))))] ∧ th (va_A [(x, .inr (12, xg)), (chA, .inl (chAC, (4, .inr (.inr (.inr (.inr chAF)))))), (ch0, .inr (2, ch0g)), (ch1, .inr (2, ch1g)), (ch2, .inr (2, ch2g)), (ch3, .inr (2, ch3g)), (oA, .inl (oAC, (1, .inr (.inl oAf))))] sz) U U.heap)) (va_Qi (fun (r : Int32) (_ : Unit) => r = 0) (fun _ t => ∃ (xy : List Value) (ch0y : List Value) (ch1y : List Value) (ch2y : List Value) (ch3y : List Value) (oAy : Nat → Int64), fx xy 17 [(7, .ref deA), (8, .ref liA), (9, .ref chA)] ∧ fx ch0y 20 [(0, .int 0)] ∧ fx ch1y 20 [(0, .int 0)] ∧ fx ch2y 20 [(0, .int 0)] ∧ fx ch3y 20 [(0, .int 0)] ∧ fa oAy [] ∧ va_P (dC, dI) CL [(x, .inr (12, xy)), (chA, .inl (chAC, (4, .inr (.inr (.inr (.inr chAF)))))), (ch0, .inr (2, ch0y)), (ch1, .inr (2, ch1y)), (ch2, .inr (2, ch2y)), (ch3, .inr (2, ch3y)), (oA, .inl (oAC, (1, .inr (.inl oAy))))] t.heap ∧ va_K (dC, dI) CL [(chAC, .object "ChipFlow$Chip"), (oAC, .long)] t ∧ va_D (va_A [(x, .inr (12, xg)), (chA, .inl (chAC, (4, .inr (.inr (.inr (.inr chAF)))))), (ch0, .inr (2, ch0g)), (ch1, .inr (2, ch1g)), (ch2, .inr (2, ch2g)), (ch3, .inr (2, ch3g)), (oA, .inl (oAC, (1, .inr (.inl oAf))))] sz) [(x, .inr (12, xy)), (chA, .inl (chAC, (4, .inr (.inr (.inr (.inr chAF)))))), (ch0, .inr (2, ch0y)), (ch1, .inr (2, ch1y)), (ch2, .inr (2, ch2y)), (ch3, .inr (2, ch3y)), (oA, .inl (oAC, (1, .inr (.inl oAy))))]) (va_A [(x, .inr (12, xg)), (chA, .inl (chAC, (4, .inr (.inr (.inr (.inr chAF)))))), (ch0, .inr (2, ch0g)), (ch1, .inr (2, ch1g)), (ch2, .inr (2, ch2g)), (ch3, .inr (2, ch3g)), (oA, .inl (oAC, (1, .inr (.inl oAf))))] sz)) 1 6 (va_A [(x, .inr (12, xg)), (chA, .inl (chAC, (4, .inr (.inr (.inr (.inr chAF)))))), (ch0, .inr (2, ch0g)), (ch1, .inr (2, ch1g)), (ch2, .inr (2, ch2g)), (ch3, .inr (2, ch3g)), (oA, .inl (oAC, (1, .inr (.inl oAf))))] sz) := by
  refine Met.ofW (cc := cX12_isThere) (maxL := 3) (ret := (some .boolean)) (by decide) rfl ?_
  intro p e s m args below meth c s₁ B hml hv
  obtain ⟨rfl, hsz, hP, hK, hD0, hth⟩ := hv
  have hx := B.exec
  have hb := B.bytes
  have hr := B.returns
  have hts : ∀ w ∈ BG, w.before _ s = true := fun w h => atoms_spec (ws := Cond.code yX12_isThere cX12_isThere 3 (some .boolean) :: BG) B.pre w (List.mem_cons_of_mem _ h)
  have hown : s.vm.findClass RX12 = some m.cls := findClass_of_methodNamed B.named
  have hlocks := B.notSynchronized
  subst hsz
  have hD := hD0.self (sz := s.heap.size)
  generalize hAe : va_A [(x, .inr (12, xg)), (chA, .inl (chAC, (4, .inr (.inr (.inr (.inr chAF)))))), (ch0, .inr (2, ch0g)), (ch1, .inr (2, ch1g)), (ch2, .inr (2, ch2g)), (ch3, .inr (2, ch3g)), (oA, .inl (oAC, (1, .inr (.inl oAf))))] s.heap.size = A at hD hth ⊢
  have hA : ∀ q : Nat, s.heap.size ≤ q → A q := fun q h => by rw [← hAe]; exact Or.inr h
  have hS : va_S A s.heap s.heap [] := va_S.rf
  have hl := lv_entry ([.ref x, .int 2, .int 0]) (n := 3) (Nat.le_of_ble_eq_true rfl)
  rw [lg_entry_eq]
  generalize (lg_sl ([.ref x, .int 2, .int 0]) ++ List.replicate (3 - (lg_sl ([.ref x, .int 2, .int 0])).length) Slot.unset).toArray = ls at hl ⊢
  have hl : lv_has ls 3 [(0, .ref x), (1, .int 2), (2, .int 0)] := hl
  obtain ⟨H, eH⟩ : ∃ z, z = s.heap := ⟨_, rfl⟩
  have hP : va_P (dC, dI) CL [(x, .inr (12, xg)), (chA, .inl (chAC, (4, .inr (.inr (.inr (.inr chAF)))))), (ch0, .inr (2, ch0g)), (ch1, .inr (2, ch1g)), (ch2, .inr (2, ch2g)), (ch3, .inr (2, ch3g)), (oA, .inl (oAC, (1, .inr (.inl oAf))))] H := by rw [eH]; exact hP
  have hS : va_S A s.heap H [] := by rw [eH]; exact hS
  rw [← eH]
  refine lv_iload_n hx hb dX12_isThere_0 rfl (lv_at hl 1 rfl) ?_
  refine lv_if_lt (tgt := 13) hx hb dX12_isThere_1 (by decide) (fun c9 => ?_) (fun c9 => ?_)
  · first | exact absurd c9 (by decide +kernel) | exact absurd (by decide +kernel) c9
  refine lv_iload_n hx hb dX12_isThere_4 rfl (lv_at hl 1 rfl) ?_
  refine lv_iconst (v := 2) hx hb dX12_isThere_5 (by decide +kernel) ?_
  refine lv_icmp_gt (tgt := 13) hx hb dX12_isThere_6 (by decide) (fun c9 => ?_) (fun c9 => ?_)
  · first | exact absurd c9 (by decide +kernel) | exact absurd (by decide +kernel) c9
  refine lv_iconst (v := 1) hx hb dX12_isThere_9 (by decide +kernel) ?_
  refine lv_goto (tgt := 14) hx hb dX12_isThere_10 (by decide) ?_
  have hF0 : ∀ q, va_A [] H.size q → A q := fun q h => h.elim (fun ⟨k9, e9, h9⟩ => by simp at h9) (fun h9 => hA q (Nat.le_trans hS.1 h9))
  refine vx_callv (vx_runS (As := [.int 1]) (rest := []) ⟨hx, hb, hml, hown, hts⟩ (ct_X12_needRange l hlt H.size 1) (cwS 1 hts (gi_S wd_1328 wd_1329 wd_327 wd_1330) rfl rfl rfl (by decide +kernel) ⟨(Nat.le_of_ble_eq_true rfl), (Nat.le_of_ble_eq_true rfl)⟩) ⟨fun a U g mk q => ⟨q.1, q.2.1, th.moved (u := U) (U := U.calling g mk a) (Vm.Alike.refl U.vm) q.2.2⟩, fun U hU hW => ⟨rfl, by rw [hU], by rw [hU]; exact ((hth.kept hS.2.1).narrow hF0).moved hW.alike⟩⟩ rfl rfl hl.1 rfl (lv_room (Nat.le_of_ble_eq_true rfl)) dX12_isThere_14 ⟨(Nat.le_of_ble_eq_true rfl), (Nat.le_of_ble_eq_true rfl)⟩) hS (fun q _ h => hF0 q h) hF0 (fun q _ h => hF0 q h) (fun E ce q9 u t H1 locs ht hvm hp hB hz hk hS hce hcv hcl => absurd hp (by decide +kernel)) (fun u t H1 locs ht hvm hp hB hz hk hS => ?_)
  have hP : va_P (dC, dI) CL [(x, .inr (12, xg)), (chA, .inl (chAC, (4, .inr (.inr (.inr (.inr chAF)))))), (ch0, .inr (2, ch0g)), (ch1, .inr (2, ch1g)), (ch2, .inr (2, ch2g)), (ch3, .inr (2, ch3g)), (oA, .inl (oAC, (1, .inr (.inl oAf))))] H1 := hP.kept (fun k q h9 => hk _ (vx_lt hP h9) (fun h8 => h8.elim (fun ⟨k9, e9, h7⟩ => by simp at h7) (fun h7 => absurd (vx_lt hP h9) (Nat.not_lt.mpr h7))))
  generalize H1 = H at hP hS ⊢
  refine W.widen (k := 1) (n := 6) (Nat.le_of_ble_eq_true rfl) (Nat.le_of_ble_eq_true rfl) ?_
  refine lv_iload_n hx hb dX12_isThere_17 rfl (lv_at hl 1 rfl) ?_
  refine lv_if_ne (tgt := 49) hx hb dX12_isThere_18 (by decide) (fun c9 => ?_) (fun c9 => ?_)
  rotate_left
  · first | exact absurd c9 (by decide +kernel) | exact absurd (by decide +kernel) c9
  refine lv_iload_n hx hb dX12_isThere_49 rfl (lv_at hl 1 rfl) ?_
  refine lv_iconst (v := 1) hx hb dX12_isThere_50 (by decide +kernel) ?_
  refine lv_icmp_ne (tgt := 81) hx hb dX12_isThere_51 (by decide) (fun c9 => ?_) (fun c9 => ?_)
  rotate_left
  · first | exact absurd c9 (by decide +kernel) | exact absurd (by decide +kernel) c9
  refine lv_iload_n hx hb dX12_isThere_81 rfl (lv_at hl 2 rfl) ?_
  refine lv_if_lt (tgt := 106) hx hb dX12_isThere_82 (by decide) (fun c9 => ?_) (fun c9 => ?_)
  · first | exact absurd c9 (by decide +kernel) | exact absurd (by decide +kernel) c9
  refine lv_iload_n hx hb dX12_isThere_85 rfl (lv_at hl 2 rfl) ?_
  refine lv_iconst (v := 4) hx hb dX12_isThere_86 (by decide +kernel) ?_
  refine lv_icmp_ge (tgt := 106) hx hb dX12_isThere_87 (by decide) (fun c9 => ?_) (fun c9 => ?_)
  · first | exact absurd c9 (by decide +kernel) | exact absurd (by decide +kernel) c9
  refine lv_aload_n hx hb dX12_isThere_90 rfl (lv_at hl 0 rfl) ?_
  refine va_get (D := (dC, dI)) (ci := 12) (v := .ref chA) (C := RX12) (T := TX12) (N := 17) hx hb hts inX12 hown hK hP 0 rfl rfl 9 (by decide) (hts (.fieldLink RX12 78 "ChipFlow" "chips" "[LChipFlow$Chip;") wd_1187) (fun _ h9 => h9) (h_x.get 2 rfl) dX12_isThere_91 ?_
  refine lv_iload_n hx hb dX12_isThere_94 rfl (lv_at hl 2 rfl) ?_
  refine va_aldq hx hb hK hP 1 0 rfl rfl (vp_in_nI (n := 0) (N := 4) (by decide) (by decide)) dX12_isThere_95 ?_
  rw [show (0 : Int32).toNatClampNeg = 0 by decide +kernel, h_chA0]
  refine W.eq (g2 := F0 m 96 ls [.ref ch0]) rfl ?_
  refine va_get (D := (dC, dI)) (ci := 2) (v := .int 0) (C := RX2) (T := TX2) (N := 20) hx hb hts inX2 hown hK hP 2 rfl rfl 0 (by decide) (hts (.fieldLink RX12 161 "ChipFlow$Chip" "used" "Z") wd_1067) (fun _ h9 => h9) (h_ch0.get 0 rfl) dX12_isThere_96 ?_
  refine lv_if_eq (tgt := 106) hx hb dX12_isThere_99 (by decide) (fun c9 => ?_) (fun c9 => ?_)
  rotate_left
  · first | exact absurd c9 (by decide +kernel) | exact absurd (by decide +kernel) c9
  refine lv_iconst (v := 0) hx hb dX12_isThere_106 (by decide +kernel) ?_
  refine W.widen (k := 1) (n := 6) (Nat.le_of_ble_eq_true rfl) (Nat.le_of_ble_eq_true rfl) ?_
  exact W.zret (v := 0) hx hb hr rfl (fun t ht hW => ⟨⟨0, (), rfl, rfl, xg, ch0g, ch1g, ch2g, ch3g, oAf, h_x, h_ch0, h_ch1, h_ch2, h_ch3, h_oA, by rw [ht]; exact hP, va_K.moved hW.alike hK, hD⟩, hS.F ht⟩) hS.2.2 dX12_isThere_107
set_option maxHeartbeats 4000000 in
set_option maxRecDepth 100000 in
theorem gx128_L_isThere (l : Launch) (hlt : l.stackTraces = false) (dC : Nat → ClassId) (dI : Nat → Nat → Nat) (sz : Nat) (x chA ch0 ch1 ch2 ch3 oA deA liA : Nat) (xg : List Value) (h_x : fx xg 17 [(7, .ref deA), (8, .ref liA), (9, .ref chA)]) (chAC : ClassId) (chAF : Nat → Option Nat) (ch0g : List Value) (h_ch0 : fx ch0g 20 [(0, .int 0)]) (ch1g : List Value) (h_ch1 : fx ch1g 20 [(0, .int 0)]) (ch2g : List Value) (h_ch2 : fx ch2g 20 [(0, .int 0)]) (ch3g : List Value) (h_ch3 : fx ch3g 20 [(0, .int 0)]) (oAC : ClassId) (oAf : Nat → Int64) (h_oA : fa oAf []) (h_chA0 : chAF 0 = some ch0) (h_chA1 : chAF 1 = some ch1) (h_chA2 : chAF 2 = some ch2) (h_chA3 : chAF 3 = some ch3) : Met l yL_isThere (Cond.codeWith yL_isThere cL_isThere 5 (some .int) [(0, 17, 20, 19)] :: BG) ({ frames := 8, cells := 1, slots := 6, locals := 152 }) (va_Pc [.ref x, .int 2, .int 0, .ref oA] (fun U => U.heap.size = sz ∧ va_P (dC, dI) CL [(x, .inr (12, xg)), (chA, .inl (chAC, (4, .inr (.inr (.inr (.inr chAF)))))), (ch0, .inr (2, ch0g)), (ch1, .inr (2, ch1g)), (ch2, .inr (2, ch2g)), (ch3, .inr (2, ch3g)), (oA, .inl (oAC, (1, .inr (.inl oAf))))] U.heap ∧ va_K (dC, dI) CL [(chAC, .object "ChipFlow$Chip"), (oAC, .long)] U ∧ va_D (fun _ => True) [(x, .inr (12, xg)), (chA, .inl (chAC, (4, .inr (.inr (.inr (.inr chAF)))))), (ch0, .inr (2, ch0g)), (ch1, .inr (2, ch1g)), (ch2, .inr (2, ch2g)), (ch3, .inr (2, ch3g)), (oA, .inl (oAC, (1, .inr (.inl oAf))))] ∧ th (va_A [(x, .inr (12, xg)), (chA, .inl (chAC, (4, .inr (.inr (.inr (.inr chAF)))))), (ch0, .inr (2, ch0g)), (ch1, .inr (2, ch1g)), (ch2, .inr (2, ch2g)), (ch3, .inr (2, ch3g)), (oA, .inl (oAC, (1, .inr (.inl oAf))))] sz) U U.heap)) (va_Qi (fun (r : Int32) (_ : Unit) => r = 0) (fun _ t => ∃ (xy : List Value) (ch0y : List Value) (ch1y : List Value) (ch2y : List Value) (ch3y : List Value) (oAy : Nat → Int64), fx xy 17 [(7, .ref deA), (8, .ref liA), (9, .ref chA)] ∧ fx ch0y 20 [(0, .int 0)] ∧ fx ch1y 20 [(0, .int 0)] ∧ fx ch2y 20 [(0, .int 0)] ∧ fx ch3y 20 [(0, .int 0)] ∧ fa oAy [(0, 0)] ∧ va_P (dC, dI) CL [(x, .inr (12, xy)), (chA, .inl (chAC, (4, .inr (.inr (.inr (.inr chAF)))))), (ch0, .inr (2, ch0y)), (ch1, .inr (2, ch1y)), (ch2, .inr (2, ch2y)), (ch3, .inr (2, ch3y)), (oA, .inl (oAC, (1, .inr (.inl oAy))))] t.heap ∧ va_K (dC, dI) CL [(chAC, .object "ChipFlow$Chip"), (oAC, .long)] t ∧ va_D (va_A [(x, .inr (12, xg)), (chA, .inl (chAC, (4, .inr (.inr (.inr (.inr chAF)))))), (ch0, .inr (2, ch0g)), (ch1, .inr (2, ch1g)), (ch2, .inr (2, ch2g)), (ch3, .inr (2, ch3g)), (oA, .inl (oAC, (1, .inr (.inl oAf))))] sz) [(x, .inr (12, xy)), (chA, .inl (chAC, (4, .inr (.inr (.inr (.inr chAF)))))), (ch0, .inr (2, ch0y)), (ch1, .inr (2, ch1y)), (ch2, .inr (2, ch2y)), (ch3, .inr (2, ch3y)), (oA, .inl (oAC, (1, .inr (.inl oAy))))]) (va_A [(x, .inr (12, xg)), (chA, .inl (chAC, (4, .inr (.inr (.inr (.inr chAF)))))), (ch0, .inr (2, ch0g)), (ch1, .inr (2, ch1g)), (ch2, .inr (2, ch2g)), (ch3, .inr (2, ch3g)), (oA, .inl (oAC, (1, .inr (.inl oAf))))] sz)) 1 6 (va_A [(x, .inr (12, xg)), (chA, .inl (chAC, (4, .inr (.inr (.inr (.inr chAF)))))), (ch0, .inr (2, ch0g)), (ch1, .inr (2, ch1g)), (ch2, .inr (2, ch2g)), (ch3, .inr (2, ch3g)), (oA, .inl (oAC, (1, .inr (.inl oAf))))] sz) := by
  refine va_MetW (hh := [(0, 17, 20, 19)]) (cc := cL_isThere) (maxL := 5) (ret := (some .int)) (by decide) rfl ?_
  intro p e s m args below meth c s₁ B hml hv
  obtain ⟨rfl, hsz, hP, hK, hD0, hth⟩ := hv
  have hx := B.exec
  have hb := B.bytes
  have hr := B.returns
  have hts : ∀ w ∈ BG, w.before _ s = true := fun w h => atoms_spec (ws := Cond.codeWith yL_isThere cL_isThere 5 (some .int) [(0, 17, 20, 19)] :: BG) B.pre w (List.mem_cons_of_mem _ h)
  have hown : s.vm.findClass RL = some m.cls := findClass_of_methodNamed B.named
  have hlocks := B.notSynchronized
  subst hsz
  have hD := hD0.self (sz := s.heap.size)
  generalize hAe : va_A [(x, .inr (12, xg)), (chA, .inl (chAC, (4, .inr (.inr (.inr (.inr chAF)))))), (ch0, .inr (2, ch0g)), (ch1, .inr (2, ch1g)), (ch2, .inr (2, ch2g)), (ch3, .inr (2, ch3g)), (oA, .inl (oAC, (1, .inr (.inl oAf))))] s.heap.size = A at hD hth ⊢
  have hA : ∀ q : Nat, s.heap.size ≤ q → A q := fun q h => by rw [← hAe]; exact Or.inr h
  have hS : va_S A s.heap s.heap [] := va_S.rf
  have hl := lv_entry ([.ref x, .int 2, .int 0, .ref oA]) (n := 5) (Nat.le_of_ble_eq_true rfl)
  rw [lg_entry_eq]
  generalize (lg_sl ([.ref x, .int 2, .int 0, .ref oA]) ++ List.replicate (5 - (lg_sl ([.ref x, .int 2, .int 0, .ref oA])).length) Slot.unset).toArray = ls at hl ⊢
  have hl : lv_has ls 5 [(0, .ref x), (1, .int 2), (2, .int 0), (3, .ref oA)] := hl
  obtain ⟨H, eH⟩ : ∃ z, z = s.heap := ⟨_, rfl⟩
  have hP : va_P (dC, dI) CL [(x, .inr (12, xg)), (chA, .inl (chAC, (4, .inr (.inr (.inr (.inr chAF)))))), (ch0, .inr (2, ch0g)), (ch1, .inr (2, ch1g)), (ch2, .inr (2, ch2g)), (ch3, .inr (2, ch3g)), (oA, .inl (oAC, (1, .inr (.inl oAf))))] H := by rw [eH]; exact hP
  have hS : va_S A s.heap H [] := by rw [eH]; exact hS
  rw [← eH]
  have hT : c.exceptionTable.toList = tableOf [(0, 17, 20, 19)] := vx_table (x := yL_isThere) B (atoms_spec (ws := Cond.codeWith yL_isThere cL_isThere 5 (some .int) [(0, 17, 20, 19)] :: BG) B.pre _ List.mem_cons_self)
  refine lv_aload_n hx hb dL_isThere_0 rfl (lv_at hl 3 rfl) ?_
  refine lv_iconst (v := 0) hx hb dL_isThere_1 (by decide +kernel) ?_
  refine lv_aload_n hx hb dL_isThere_2 rfl (lv_at hl 0 rfl) ?_
  refine lv_iload_n hx hb dL_isThere_3 rfl (lv_at hl 1 rfl) ?_
  refine lv_iload_n hx hb dL_isThere_4 rfl (lv_at hl 2 rfl) ?_
  have hFc := va_free (wc := [(x, .inr (12, xg)), (chA, .inl (chAC, (4, .inr (.inr (.inr (.inr chAF)))))), (ch0, .inr (2, ch0g)), (ch1, .inr (2, ch1g)), (ch2, .inr (2, ch2g)), (ch3, .inr (2, ch3g)), (oA, .inl (oAC, (1, .inr (.inl oAf))))]) hD hS hA [0, 1, 2, 3, 4, 5, 6] rfl
  refine va_calli (va_runV (As := [.int 2, .int 0]) (rest := [.int 0, .ref oA]) ⟨hx, hb, hml, hown, hts⟩ (gx129_X12_isThere l hlt dC dI _ x chA ch0 ch1 ch2 ch3 oA deA liA xg h_x chAC chAF ch0g h_ch0 ch1g h_ch1 ch2g h_ch2 ch3g h_ch3 oAC oAf h_oA h_chA0 h_chA1 h_chA2 h_chA3) (cwV 2 hts (gi_V wd_1842 wd_1843 wd_1844 wd_327 wd_1845) rfl rfl rfl (by decide +kernel) ⟨(Nat.le_of_ble_eq_true rfl), (Nat.le_of_ble_eq_true rfl)⟩) ⟨fun a U g mk q => by obtain ⟨q0, q1, qP, qK, qD, qT⟩ := q; exact ⟨q0, q1, qP, va_K.moved (u := U) (U := U.calling g mk a) (Vm.Alike.refl U.vm) qK, qD, th.moved (u := U) (U := U.calling g mk a) (Vm.Alike.refl U.vm) qT⟩, va_recv hK hP (ci := 12) (q0 := 0) rfl rfl, fun U hU hW => ⟨rfl, by rw [hU], by rw [hU]; exact hP, va_K.moved hW.alike hK, hD.weaken (fun _ _ _ _ => trivial), by rw [hU]; exact ((hth.kept hS.2.1).narrow hFc).moved hW.alike⟩⟩ rfl rfl hl.1 rfl (lv_room (Nat.le_of_ble_eq_true rfl)) dL_isThere_5 ⟨(Nat.le_of_ble_eq_true rfl), (Nat.le_of_ble_eq_true rfl)⟩) hS (fun q _ h => hFc q h) hFc (fun r u t H1 locs ht hvm hw hB hz1 hk1 hS => ?_)
  subst hw
  obtain ⟨fs_1, fs_2, fs_3, fs_4, fs_5, f_6, h_x, h_ch0, h_ch1, h_ch2, h_ch3, h_oA, hP1, hK1, hD1⟩ := hB
  rw [ht] at hP1
  have hD := hD1.weaken (fun k q _ h => hFc q.1 h)
  have hP := hP1
  generalize H1 = H at hP hS ⊢
  have hP : va_P (dC, dI) CL [(x, .inr (12, fs_1)), (chA, .inl (chAC, (4, .inr (.inr (.inr (.inr chAF)))))), (ch0, .inr (2, fs_2)), (ch1, .inr (2, fs_3)), (ch2, .inr (2, fs_4)), (ch3, .inr (2, fs_5)), (oA, .inl (oAC, (1, .inr (.inl f_6))))] H := hP
  have hD : va_D A [(x, .inr (12, fs_1)), (chA, .inl (chAC, (4, .inr (.inr (.inr (.inr chAF)))))), (ch0, .inr (2, fs_2)), (ch1, .inr (2, fs_3)), (ch2, .inr (2, fs_4)), (ch3, .inr (2, fs_5)), (oA, .inl (oAC, (1, .inr (.inl f_6))))] := hD
  refine W.widen (k := 1) (n := 6) (Nat.le_of_ble_eq_true rfl) (Nat.le_of_ble_eq_true rfl) ?_
  refine lv_if_eq (tgt := 15) hx hb dL_isThere_8 (by decide) (fun c9 => ?_) (fun c9 => ?_)
  rotate_left
  · first | exact absurd c9 (by decide +kernel) | exact absurd (by decide +kernel) c9
  refine lv_lconst (v := 0) hx hb dL_isThere_15 (by decide) ?_
  refine va_last hx hb hK hP hD hS 6 1 rfl rfl (vp_in_nI (n := 0) (N := 1) (by decide) (by decide)) dL_isThere_16 (fun H locs hP hD hS => ?_)
  obtain ⟨f_7, e9⟩ : ∃ z, z = vp_updL f_6 (0 : Int32).toNatClampNeg 0 := ⟨_, rfl⟩
  have h_oA : fa f_7 [(0, 0)] := by rw [e9, show (0 : Int32).toNatClampNeg = 0 by decide +kernel]; exact (fa.putL h_oA).sub [0] rfl
  have hP : va_P (dC, dI) CL [(x, .inr (12, fs_1)), (chA, .inl (chAC, (4, .inr (.inr (.inr (.inr chAF)))))), (ch0, .inr (2, fs_2)), (ch1, .inr (2, fs_3)), (ch2, .inr (2, fs_4)), (ch3, .inr (2, fs_5)), (oA, .inl (oAC, (1, .inr (.inl f_7))))] H := by rw [e9]; exact hP
  have hD : va_D A [(x, .inr (12, fs_1)), (chA, .inl (chAC, (4, .inr (.inr (.inr (.inr chAF)))))), (ch0, .inr (2, fs_2)), (ch1, .inr (2, fs_3)), (ch2, .inr (2, fs_4)), (ch3, .inr (2, fs_5)), (oA, .inl (oAC, (1, .inr (.inl f_7))))] := by rw [e9]; exact hD
  clear e9
  refine lv_goto (tgt := 24) hx hb dL_isThere_17 (by decide) ?_
  refine lv_iconst (v := 0) hx hb dL_isThere_24 (by decide +kernel) ?_
  refine W.widen (k := 1) (n := 6) (Nat.le_of_ble_eq_true rfl) (Nat.le_of_ble_eq_true rfl) ?_
  exact W.iret (v := 0) hx hb hr (fun t ht hW => ⟨⟨0, (), rfl, rfl, fs_1, fs_2, fs_3, fs_4, fs_5, f_7, h_x, h_ch0, h_ch1, h_ch2, h_ch3, h_oA, by rw [ht]; exact hP, va_K.moved hW.alike hK, hD⟩, hS.F ht⟩) hS.2.2 dL_isThere_25
set_option maxHeartbeats 4000000 in
set_option maxRecDepth 100000 in
theorem gx131_X13_isOne (l : Launch) (hlt : l.stackTraces = false) (dC : Nat → ClassId) (dI : Nat → Nat → Nat) (sz : Nat) (m0 mch md ml : Nat) (m0g : List Value) (h_m0 : fx m0g 225 [(0, .int 0), (2, .int 0), (3, .int 0), (9, .int 0), (10, .int 0), (11, .int 0), (12, .int 0), (27, .int 0), (55, .ref md), (79, .int 0), (83, .int 0), (88, .ref ml), (95, .int 0), (138, .ref mch)]) (mchC : ClassId) : Met l yX13_isOne (Cond.code yX13_isOne cX13_isOne 3 (some .boolean) :: BG) ({ frames := 2, cells := 0, slots := 0, locals := 33 }) (va_Pc [.ref m0, .int 2, .int 0] (fun U => U.heap.size = sz ∧ va_P (dC, dI) CL [(m0, .inr (13, m0g)), (mch, .inl (mchC, (4, .inl (fun _ => 0))))] U.heap ∧ va_K (dC, dI) CL [(mchC, .boolean)] U ∧ va_D (fun _ => True) [(m0, .inr (13, m0g)), (mch, .inl (mchC, (4, .inl (fun _ => 0))))] ∧ th (va_A [(m0, .inr (13, m0g)), (mch, .inl (mchC, (4, .inl (fun _ => 0))))] sz) U U.heap)) (va_Qi (fun (r : Int32) (_ : Unit) => r = 0) (fun _ t => ∃ (m0y : List Value), fx m0y 225 [(0, .int 0), (2, .int 0), (3, .int 0), (9, .int 0), (10, .int 0), (11, .int 0), (12, .int 0), (27, .int 0), (55, .ref md), (79, .int 0), (83, .int 0), (88, .ref ml), (95, .int 0), (138, .ref mch)] ∧ va_P (dC, dI) CL [(m0, .inr (13, m0y)), (mch, .inl (mchC, (4, .inl (fun _ => 0))))] t.heap ∧ va_K (dC, dI) CL [(mchC, .boolean)] t ∧ va_D (va_A [(m0, .inr (13, m0g)), (mch, .inl (mchC, (4, .inl (fun _ => 0))))] sz) [(m0, .inr (13, m0y)), (mch, .inl (mchC, (4, .inl (fun _ => 0))))]) (va_A [(m0, .inr (13, m0g)), (mch, .inl (mchC, (4, .inl (fun _ => 0))))] sz)) 0 0 (va_A [(m0, .inr (13, m0g)), (mch, .inl (mchC, (4, .inl (fun _ => 0))))] sz) := by
  refine Met.ofW (cc := cX13_isOne) (maxL := 3) (ret := (some .boolean)) (by decide) rfl ?_
  intro p e s m args below meth c s₁ B hml hv
  obtain ⟨rfl, hsz, hP, hK, hD0, hth⟩ := hv
  have hx := B.exec
  have hb := B.bytes
  have hr := B.returns
  have hts : ∀ w ∈ BG, w.before _ s = true := fun w h => atoms_spec (ws := Cond.code yX13_isOne cX13_isOne 3 (some .boolean) :: BG) B.pre w (List.mem_cons_of_mem _ h)
  have hown : s.vm.findClass RX13 = some m.cls := findClass_of_methodNamed B.named
  have hlocks := B.notSynchronized
  subst hsz
  have hD := hD0.self (sz := s.heap.size)
  generalize hAe : va_A [(m0, .inr (13, m0g)), (mch, .inl (mchC, (4, .inl (fun _ => 0))))] s.heap.size = A at hD hth ⊢
  have hA : ∀ q : Nat, s.heap.size ≤ q → A q := fun q h => by rw [← hAe]; exact Or.inr h
  have hS : va_S A s.heap s.heap [] := va_S.rf
  have hl := lv_entry ([.ref m0, .int 2, .int 0]) (n := 3) (Nat.le_of_ble_eq_true rfl)
  rw [lg_entry_eq]
  generalize (lg_sl ([.ref m0, .int 2, .int 0]) ++ List.replicate (3 - (lg_sl ([.ref m0, .int 2, .int 0])).length) Slot.unset).toArray = ls at hl ⊢
  have hl : lv_has ls 3 [(0, .ref m0), (1, .int 2), (2, .int 0)] := hl
  obtain ⟨H, eH⟩ : ∃ z, z = s.heap := ⟨_, rfl⟩
  have hP : va_P (dC, dI) CL [(m0, .inr (13, m0g)), (mch, .inl (mchC, (4, .inl (fun _ => 0))))] H := by rw [eH]; exact hP
  have hS : va_S A s.heap H [] := by rw [eH]; exact hS
  rw [← eH]
  refine lv_iload_n hx hb dX13_isOne_0 rfl (lv_at hl 1 rfl) ?_
  refine lv_if_ne (tgt := 12) hx hb dX13_isOne_1 (by decide) (fun c9 => ?_) (fun c9 => ?_)
  rotate_left
  · first | exact absurd c9 (by decide +kernel) | exact absurd (by decide +kernel) c9
  refine lv_iload_n hx hb dX13_isOne_12 rfl (lv_at hl 1 rfl) ?_
  refine lv_iconst (v := 1) hx hb dX13_isOne_13 (by decide +kernel) ?_
  refine lv_icmp_ne (tgt := 25) hx hb dX13_isOne_14 (by decide) (fun c9 => ?_) (fun c9 => ?_)
  rotate_left
  · first | exact absurd c9 (by decide +kernel) | exact absurd (by decide +kernel) c9
  refine lv_aload_n hx hb dX13_isOne_25 rfl (lv_at hl 0 rfl) ?_
  refine lv_iload_n hx hb dX13_isOne_26 rfl (lv_at hl 2 rfl) ?_
  have hFc := va_free (wc := [(m0, .inr (13, m0g)), (mch, .inl (mchC, (4, .inl (fun _ => 0))))]) hD hS hA [0, 1] rfl
  refine va_calli (va_runV (As := [.int 0]) (rest := []) ⟨hx, hb, hml, hown, hts⟩ (ct_X13_isChip l dC dI _ 0 m0 m0g mch mchC (h_m0.sub [13] rfl)) (cwV 1 hts (gi_V wd_4084 wd_4086 wd_217 wd_340 wd_4087) rfl rfl rfl (by decide +kernel) ⟨(Nat.le_of_ble_eq_true rfl), (Nat.le_of_ble_eq_true rfl)⟩) ⟨fun a U g mk q => by obtain ⟨q0, q1, qP, qK, qD⟩ := q; exact ⟨q0, q1, qP, va_K.moved (u := U) (U := U.calling g mk a) (Vm.Alike.refl U.vm) qK, qD⟩, va_recv hK hP (ci := 13) (q0 := 0) rfl rfl, fun U hU hW => ⟨rfl, by rw [hU], by rw [hU]; exact hP, va_K.moved hW.alike hK, hD.weaken (fun _ _ _ _ => trivial)⟩⟩ rfl rfl hl.1 rfl (lv_room (Nat.le_of_ble_eq_true rfl)) dX13_isOne_27 ⟨(Nat.le_of_ble_eq_true rfl), (Nat.le_of_ble_eq_true rfl)⟩) hS (fun q _ h => hFc q h) hFc (fun r u t H1 locs ht hvm hw hB hz1 hk1 hS => ?_)
  subst hw
  obtain ⟨hP1, hK1, hD1⟩ := hB
  rw [ht] at hP1
  have hD := hD1.weaken (fun k q _ h => hFc q.1 h)
  have hP := hP1
  generalize H1 = H at hP hS ⊢
  have hP : va_P (dC, dI) CL [(m0, .inr (13, m0g)), (mch, .inl (mchC, (4, .inl (fun _ => 0))))] H := hP
  have hD : va_D A [(m0, .inr (13, m0g)), (mch, .inl (mchC, (4, .inl (fun _ => 0))))] := hD
  exact W.zret (v := 0) hx hb hr rfl (fun t ht hW => ⟨⟨0, (), rfl, rfl, m0g, h_m0, by rw [ht]; exact hP, va_K.moved hW.alike hK, hD⟩, hS.F ht⟩) hS.2.2 dX13_isOne_30
set_option maxHeartbeats 4000000 in
set_option maxRecDepth 100000 in
theorem gx130_X13_isThere (l : Launch) (hlt : l.stackTraces = false) (dC : Nat → ClassId) (dI : Nat → Nat → Nat) (sz : Nat) (m0 mch md ml : Nat) (m0g : List Value) (h_m0 : fx m0g 225 [(0, .int 0), (2, .int 0), (3, .int 0), (9, .int 0), (10, .int 0), (11, .int 0), (12, .int 0), (27, .int 0), (55, .ref md), (79, .int 0), (83, .int 0), (88, .ref ml), (95, .int 0), (138, .ref mch)]) (mchC : ClassId) : Met l yX13_isThere (Cond.code yX13_isThere cX13_isThere 3 (some .boolean) :: BG) ({ frames := 3, cells := 0, slots := 0, locals := 55 }) (va_Pc [.ref m0, .int 2, .int 0] (fun U => U.heap.size = sz ∧ va_P (dC, dI) CL [(m0, .inr (13, m0g)), (mch, .inl (mchC, (4, .inl (fun _ => 0))))] U.heap ∧ va_K (dC, dI) CL [(mchC, .boolean)] U ∧ va_D (fun _ => True) [(m0, .inr (13, m0g)), (mch, .inl (mchC, (4, .inl (fun _ => 0))))] ∧ th (va_A [(m0, .inr (13, m0g)), (mch, .inl (mchC, (4, .inl (fun _ => 0))))] sz) U U.heap)) (va_Qi (fun (r : Int32) (_ : Unit) => r = 0) (fun _ t => ∃ (m0y : List Value), fx m0y 225 [(0, .int 0), (2, .int 0), (3, .int 0), (9, .int 0), (10, .int 0), (11, .int 0), (12, .int 0), (27, .int 0), (55, .ref md), (79, .int 0), (83, .int 0), (88, .ref ml), (95, .int 0), (138, .ref mch)] ∧ va_P (dC, dI) CL [(m0, .inr (13, m0y)), (mch, .inl (mchC, (4, .inl (fun _ => 0))))] t.heap ∧ va_K (dC, dI) CL [(mchC, .boolean)] t ∧ va_D (va_A [(m0, .inr (13, m0g)), (mch, .inl (mchC, (4, .inl (fun _ => 0))))] sz) [(m0, .inr (13, m0y)), (mch, .inl (mchC, (4, .inl (fun _ => 0))))]) (va_A [(m0, .inr (13, m0g)), (mch, .inl (mchC, (4, .inl (fun _ => 0))))] sz)) 0 0 (va_A [(m0, .inr (13, m0g)), (mch, .inl (mchC, (4, .inl (fun _ => 0))))] sz) := by
  refine Met.ofW (cc := cX13_isThere) (maxL := 3) (ret := (some .boolean)) (by decide) rfl ?_
  intro p e s m args below meth c s₁ B hml hv
  obtain ⟨rfl, hsz, hP, hK, hD0, hth⟩ := hv
  have hx := B.exec
  have hb := B.bytes
  have hr := B.returns
  have hts : ∀ w ∈ BG, w.before _ s = true := fun w h => atoms_spec (ws := Cond.code yX13_isThere cX13_isThere 3 (some .boolean) :: BG) B.pre w (List.mem_cons_of_mem _ h)
  have hown : s.vm.findClass RX13 = some m.cls := findClass_of_methodNamed B.named
  have hlocks := B.notSynchronized
  subst hsz
  have hD := hD0.self (sz := s.heap.size)
  generalize hAe : va_A [(m0, .inr (13, m0g)), (mch, .inl (mchC, (4, .inl (fun _ => 0))))] s.heap.size = A at hD hth ⊢
  have hA : ∀ q : Nat, s.heap.size ≤ q → A q := fun q h => by rw [← hAe]; exact Or.inr h
  have hS : va_S A s.heap s.heap [] := va_S.rf
  have hl := lv_entry ([.ref m0, .int 2, .int 0]) (n := 3) (Nat.le_of_ble_eq_true rfl)
  rw [lg_entry_eq]
  generalize (lg_sl ([.ref m0, .int 2, .int 0]) ++ List.replicate (3 - (lg_sl ([.ref m0, .int 2, .int 0])).length) Slot.unset).toArray = ls at hl ⊢
  have hl : lv_has ls 3 [(0, .ref m0), (1, .int 2), (2, .int 0)] := hl
  obtain ⟨H, eH⟩ : ∃ z, z = s.heap := ⟨_, rfl⟩
  have hP : va_P (dC, dI) CL [(m0, .inr (13, m0g)), (mch, .inl (mchC, (4, .inl (fun _ => 0))))] H := by rw [eH]; exact hP
  have hS : va_S A s.heap H [] := by rw [eH]; exact hS
  rw [← eH]
  refine lv_aload_n hx hb dX13_isThere_0 rfl (lv_at hl 0 rfl) ?_
  refine lv_iload_n hx hb dX13_isThere_1 rfl (lv_at hl 1 rfl) ?_
  refine lv_iconst (v := 0) hx hb dX13_isThere_2 (by decide +kernel) ?_
  refine lv_iconst (v := 2) hx hb dX13_isThere_3 (by decide +kernel) ?_
  have hFc := va_free (wc := [(m0, .inr (13, m0g)), (mch, .inl (mchC, (4, .inl (fun _ => 0))))]) hD hS hA [0, 1] rfl
  refine va_calli (va_runS (As := [.int 2, .int 0, .int 2]) (rest := [.ref m0]) ⟨hx, hb, hml, hown, hts⟩ (gx59_X13_within l hlt dC dI _ m0 mch md ml m0g h_m0 mchC) (cwS 3 hts (gi_S wd_3825 wd_3826 wd_340 wd_3827) rfl rfl rfl (by decide +kernel) ⟨(Nat.le_of_ble_eq_true rfl), (Nat.le_of_ble_eq_true rfl)⟩) ⟨fun a U g mk q => by obtain ⟨q0, q1, qP, qK, qD, qT⟩ := q; exact ⟨q0, q1, qP, va_K.moved (u := U) (U := U.calling g mk a) (Vm.Alike.refl U.vm) qK, qD, th.moved (u := U) (U := U.calling g mk a) (Vm.Alike.refl U.vm) qT⟩, fun U hU hW => ⟨rfl, by rw [hU], by rw [hU]; exact hP, va_K.moved hW.alike hK, hD.weaken (fun _ _ _ _ => trivial), by rw [hU]; exact ((hth.kept hS.2.1).narrow hFc).moved hW.alike⟩⟩ rfl rfl hl.1 rfl (lv_room (Nat.le_of_ble_eq_true rfl)) dX13_isThere_4 ⟨(Nat.le_of_ble_eq_true rfl), (Nat.le_of_ble_eq_true rfl)⟩) hS (fun q _ h => hFc q h) hFc (fun r u t H1 locs ht hvm hw hB hz1 hk1 hS => ?_)
  subst hw
  obtain ⟨fs_1, h_m0, hP1, hK1, hD1⟩ := hB
  rw [ht] at hP1
  have hD := hD1.weaken (fun k q _ h => hFc q.1 h)
  have hP := hP1
  generalize H1 = H at hP hS ⊢
  have hP : va_P (dC, dI) CL [(m0, .inr (13, fs_1)), (mch, .inl (mchC, (4, .inl (fun _ => 0))))] H := hP
  have hD : va_D A [(m0, .inr (13, fs_1)), (mch, .inl (mchC, (4, .inl (fun _ => 0))))] := hD
  refine lv_if_eq (tgt := 14) hx hb dX13_isThere_7 (by decide) (fun c9 => ?_) (fun c9 => ?_)
  · first | exact absurd c9 (by decide +kernel) | exact absurd (by decide +kernel) c9
  refine lv_iconst (v := 0) hx hb dX13_isThere_10 (by decide +kernel) ?_
  refine lv_goto (tgt := 15) hx hb dX13_isThere_11 (by decide) ?_
  refine va_put (D := (dC, dI)) (ci := 13) (v := .int 0) (ty := tyX13 0) (C := RX13) (T := TX13) (N := 225) hx hb hts inX13 tyX13 tyX13_ok nmX13 hown hK hP hD hS 0 rfl rfl 0 (by decide) (hts (.fieldLink RX13 1 "ChipFlowModel" "code" "I") wd_3032) (fun _ h9 => h9) rfl (by decide +kernel) rfl rfl (by rw [h_m0.1]; decide) dX13_isThere_15 (fun H locs hP hD hS => ?_)
  obtain ⟨fs_2, e9⟩ : ∃ z, z = fs_1.set 0 (.int 0) := ⟨_, rfl⟩
  have h_m0 : fx fs_2 225 [(0, .int 0), (2, .int 0), (3, .int 0), (9, .int 0), (10, .int 0), (11, .int 0), (12, .int 0), (27, .int 0), (55, .ref md), (79, .int 0), (83, .int 0), (88, .ref ml), (95, .int 0), (138, .ref mch)] := by rw [e9]; exact (h_m0.put (F' := [(0, .int 0), (2, .int 0), (3, .int 0), (9, .int 0), (10, .int 0), (11, .int 0), (12, .int 0), (27, .int 0), (55, .ref md), (79, .int 0), (83, .int 0), (88, .ref ml), (95, .int 0), (138, .ref mch)]) (by decide) _ rfl).sub [0, 1, 2, 3, 4, 5, 6, 7, 8, 9, 10, 11, 12, 13] rfl
  have hP : va_P (dC, dI) CL [(m0, .inr (13, fs_2)), (mch, .inl (mchC, (4, .inl (fun _ => 0))))] H := by rw [e9]; exact hP
  have hD : va_D A [(m0, .inr (13, fs_2)), (mch, .inl (mchC, (4, .inl (fun _ => 0))))] := by rw [e9]; exact hD
  clear e9
  refine lv_aload_n hx hb dX13_isThere_18 rfl (lv_at hl 0 rfl) ?_
  refine va_get (D := (dC, dI)) (ci := 13) (v := .int 0) (C := RX13) (T := TX13) (N := 225) hx hb hts inX13 hown hK hP 0 rfl rfl 0 (by decide) (hts (.fieldLink RX13 1 "ChipFlowModel" "code" "I") wd_3032) (fun _ h9 => h9) (h_m0.get 0 rfl) dX13_isThere_19 ?_
  refine lv_if_ne (tgt := 38) hx hb dX13_isThere_22 (by decide) (fun c9 => ?_) (fun c9 => ?_)
  · first | exact absurd c9 (by decide +kernel) | exact absurd (by decide +kernel) c9
  refine lv_aload_n hx hb dX13_isThere_25 rfl (lv_at hl 0 rfl) ?_
  refine lv_iload_n hx hb dX13_isThere_26 rfl (lv_at hl 1 rfl) ?_
  refine lv_iload_n hx hb dX13_isThere_27 rfl (lv_at hl 2 rfl) ?_
  have hFc := va_free (wc := [(m0, .inr (13, fs_2)), (mch, .inl (mchC, (4, .inl (fun _ => 0))))]) hD hS hA [0, 1] rfl
  refine va_calli (va_runV (As := [.int 2, .int 0]) (rest := []) ⟨hx, hb, hml, hown, hts⟩ (gx131_X13_isOne l hlt dC dI _ m0 mch md ml fs_2 h_m0 mchC) (cwV 2 hts (gi_V wd_4072 wd_4074 wd_214 wd_340 wd_4075) rfl rfl rfl (by decide +kernel) ⟨(Nat.le_of_ble_eq_true rfl), (Nat.le_of_ble_eq_true rfl)⟩) ⟨fun a U g mk q => by obtain ⟨q0, q1, qP, qK, qD, qT⟩ := q; exact ⟨q0, q1, qP, va_K.moved (u := U) (U := U.calling g mk a) (Vm.Alike.refl U.vm) qK, qD, th.moved (u := U) (U := U.calling g mk a) (Vm.Alike.refl U.vm) qT⟩, va_recv hK hP (ci := 13) (q0 := 0) rfl rfl, fun U hU hW => ⟨rfl, by rw [hU], by rw [hU]; exact hP, va_K.moved hW.alike hK, hD.weaken (fun _ _ _ _ => trivial), by rw [hU]; exact ((hth.kept hS.2.1).narrow hFc).moved hW.alike⟩⟩ rfl rfl hl.1 rfl (lv_room (Nat.le_of_ble_eq_true rfl)) dX13_isThere_28 ⟨(Nat.le_of_ble_eq_true rfl), (Nat.le_of_ble_eq_true rfl)⟩) hS (fun q _ h => hFc q h) hFc (fun r u t H1 locs ht hvm hw hB hz1 hk1 hS => ?_)
  subst hw
  obtain ⟨fs_3, h_m0, hP1, hK1, hD1⟩ := hB
  rw [ht] at hP1
  have hD := hD1.weaken (fun k q _ h => hFc q.1 h)
  have hP := hP1
  generalize H1 = H at hP hS ⊢
  have hP : va_P (dC, dI) CL [(m0, .inr (13, fs_3)), (mch, .inl (mchC, (4, .inl (fun _ => 0))))] H := hP
  have hD : va_D A [(m0, .inr (13, fs_3)), (mch, .inl (mchC, (4, .inl (fun _ => 0))))] := hD
  refine lv_if_eq (tgt := 38) hx hb dX13_isThere_31 (by decide) (fun c9 => ?_) (fun c9 => ?_)
  rotate_left
  · first | exact absurd c9 (by decide +kernel) | exact absurd (by decide +kernel) c9
  refine lv_iconst (v := 0) hx hb dX13_isThere_38 (by decide +kernel) ?_
  exact W.zret (v := 0) hx hb hr rfl (fun t ht hW => ⟨⟨0, (), rfl, rfl, fs_3, h_m0, by rw [ht]; exact hP, va_K.moved hW.alike hK, hD⟩, hS.F ht⟩) hS.2.2 dX13_isThere_39
set_option maxHeartbeats 4000000 in
set_option maxRecDepth 100000 in
theorem gx133_X12_isThere (l : Launch) (hlt : l.stackTraces = false) (dC : Nat → ClassId) (dI : Nat → Nat → Nat) (sz : Nat) (x chA ch0 ch1 ch2 ch3 oA deA liA : Nat) (xg : List Value) (h_x : fx xg 17 [(7, .ref deA), (8, .ref liA), (9, .ref chA)]) (chAC : ClassId) (chAF : Nat → Option Nat) (ch0g : List Value) (h_ch0 : fx ch0g 20 [(0, .int 0)]) (ch1g : List Value) (h_ch1 : fx ch1g 20 [(0, .int 0)]) (ch2g : List Value) (h_ch2 : fx ch2g 20 [(0, .int 0)]) (ch3g : List Value) (h_ch3 : fx ch3g 20 [(0, .int 0)]) (oAC : ClassId) (oAf : Nat → Int64) (h_oA : fa oAf []) (h_chA0 : chAF 0 = some ch0) (h_chA1 : chAF 1 = some ch1) (h_chA2 : chAF 2 = some ch2) (h_chA3 : chAF 3 = some ch3) : Met l yX12_isThere (Cond.code yX12_isThere cX12_isThere 3 (some .boolean) :: BG) ({ frames := 7, cells := 1, slots := 6, locals := 130 }) (va_Pc [.ref x, .int 2, .int 1] (fun U => U.heap.size = sz ∧ va_P (dC, dI) CL [(x, .inr (12, xg)), (chA, .inl (chAC, (4, .inr (.inr (.inr (.inr chAF)))))), (ch0, .inr (2, ch0g)), (ch1, .inr (2, ch1g)), (ch2, .inr (2, ch2g)), (ch3, .inr (2, ch3g)), (oA, .inl (oAC, (1, .inr (.inl oAf))))] U.heap ∧ va_K (dC, dI) CL [(chAC, .object "ChipFlow$Chip"), (oAC, .long)] U ∧ va_D (fun _ => True) [(x, .inr (12, xg)), (chA, .inl (chAC, (4, .inr (.inr (.inr (.inr chAF)))))), (ch0, .inr (2, ch0g)), (ch1, .inr (2, ch1g)), (ch2, .inr (2, ch2g)), (ch3, .inr (2, ch3g)), (oA, .inl (oAC, (1, .inr (.inl oAf))))] ∧ th (va_A [(x, .inr (12, xg)), (chA, .inl (chAC, (4, .inr (.inr (.inr (.inr chAF)))))), (ch0, .inr (2, ch0g)), (ch1, .inr (2, ch1g)), (ch2, .inr (2, ch2g)), (ch3, .inr (2, ch3g)), (oA, .inl (oAC, (1, .inr (.inl oAf))))] sz) U U.heap)) (va_Qi (fun (r : Int32) (_ : Unit) => r = 0) (fun _ t => ∃ (xy : List Value) (ch0y : List Value) (ch1y : List Value) (ch2y : List Value) (ch3y : List Value) (oAy : Nat → Int64), fx xy 17 [(7, .ref deA), (8, .ref liA), (9, .ref chA)] ∧ fx ch0y 20 [(0, .int 0)] ∧ fx ch1y 20 [(0, .int 0)] ∧ fx ch2y 20 [(0, .int 0)] ∧ fx ch3y 20 [(0, .int 0)] ∧ fa oAy [] ∧ va_P (dC, dI) CL [(x, .inr (12, xy)), (chA, .inl (chAC, (4, .inr (.inr (.inr (.inr chAF)))))), (ch0, .inr (2, ch0y)), (ch1, .inr (2, ch1y)), (ch2, .inr (2, ch2y)), (ch3, .inr (2, ch3y)), (oA, .inl (oAC, (1, .inr (.inl oAy))))] t.heap ∧ va_K (dC, dI) CL [(chAC, .object "ChipFlow$Chip"), (oAC, .long)] t ∧ va_D (va_A [(x, .inr (12, xg)), (chA, .inl (chAC, (4, .inr (.inr (.inr (.inr chAF)))))), (ch0, .inr (2, ch0g)), (ch1, .inr (2, ch1g)), (ch2, .inr (2, ch2g)), (ch3, .inr (2, ch3g)), (oA, .inl (oAC, (1, .inr (.inl oAf))))] sz) [(x, .inr (12, xy)), (chA, .inl (chAC, (4, .inr (.inr (.inr (.inr chAF)))))), (ch0, .inr (2, ch0y)), (ch1, .inr (2, ch1y)), (ch2, .inr (2, ch2y)), (ch3, .inr (2, ch3y)), (oA, .inl (oAC, (1, .inr (.inl oAy))))]) (va_A [(x, .inr (12, xg)), (chA, .inl (chAC, (4, .inr (.inr (.inr (.inr chAF)))))), (ch0, .inr (2, ch0g)), (ch1, .inr (2, ch1g)), (ch2, .inr (2, ch2g)), (ch3, .inr (2, ch3g)), (oA, .inl (oAC, (1, .inr (.inl oAf))))] sz)) 1 6 (va_A [(x, .inr (12, xg)), (chA, .inl (chAC, (4, .inr (.inr (.inr (.inr chAF)))))), (ch0, .inr (2, ch0g)), (ch1, .inr (2, ch1g)), (ch2, .inr (2, ch2g)), (ch3, .inr (2, ch3g)), (oA, .inl (oAC, (1, .inr (.inl oAf))))] sz) := by
  refine Met.ofW (cc := cX12_isThere) (maxL := 3) (ret := (some .boolean)) (by decide) rfl ?_
  intro p e s m args below meth c s₁ B hml hv
  obtain ⟨rfl, hsz, hP, hK, hD0, hth⟩ := hv
  have hx := B.exec
  have hb := B.bytes
  have hr := B.returns
  have hts : ∀ w ∈ BG, w.before _ s = true := fun w h => atoms_spec (ws := Cond.code yX12_isThere cX12_isThere 3 (some .boolean) :: BG) B.pre w (List.mem_cons_of_mem _ h)
  have hown : s.vm.findClass RX12 = some m.cls := findClass_of_methodNamed B.named
  have hlocks := B.notSynchronized
  subst hsz
  have hD := hD0.self (sz := s.heap.size)
  generalize hAe : va_A [(x, .inr (12, xg)), (chA, .inl (chAC, (4, .inr (.inr (.inr (.inr chAF)))))), (ch0, .inr (2, ch0g)), (ch1, .inr (2, ch1g)), (ch2, .inr (2, ch2g)), (ch3, .inr (2, ch3g)), (oA, .inl (oAC, (1, .inr (.inl oAf))))] s.heap.size = A at hD hth ⊢
  have hA : ∀ q : Nat, s.heap.size ≤ q → A q := fun q h => by rw [← hAe]; exact Or.inr h
  have hS : va_S A s.heap s.heap [] := va_S.rf
  have hl := lv_entry ([.ref x, .int 2, .int 1]) (n := 3) (Nat.le_of_ble_eq_true rfl)
  rw [lg_entry_eq]
  generalize (lg_sl ([.ref x, .int 2, .int 1]) ++ List.replicate (3 - (lg_sl ([.ref x, .int 2, .int 1])).length) Slot.unset).toArray = ls at hl ⊢
  have hl : lv_has ls 3 [(0, .ref x), (1, .int 2), (2, .int 1)] := hl
  obtain ⟨H, eH⟩ : ∃ z, z = s.heap := ⟨_, rfl⟩
  have hP : va_P (dC, dI) CL [(x, .inr (12, xg)), (chA, .inl (chAC, (4, .inr (.inr (.inr (.inr chAF)))))), (ch0, .inr (2, ch0g)), (ch1, .inr (2, ch1g)), (ch2, .inr (2, ch2g)), (ch3, .inr (2, ch3g)), (oA, .inl (oAC, (1, .inr (.inl oAf))))] H := by rw [eH]; exact hP
  have hS : va_S A s.heap H [] := by rw [eH]; exact hS
  rw [← eH]
  refine lv_iload_n hx hb dX12_isThere_0 rfl (lv_at hl 1 rfl) ?_
  refine lv_if_lt (tgt := 13) hx hb dX12_isThere_1 (by decide) (fun c9 => ?_) (fun c9 => ?_)
  · first | exact absurd c9 (by decide +kernel) | exact absurd (by decide +kernel) c9
  refine lv_iload_n hx hb dX12_isThere_4 rfl (lv_at hl 1 rfl) ?_
  refine lv_iconst (v := 2) hx hb dX12_isThere_5 (by decide +kernel) ?_
  refine lv_icmp_gt (tgt := 13) hx hb dX12_isThere_6 (by decide) (fun c9 => ?_) (fun c9 => ?_)
  · first | exact absurd c9 (by decide +kernel) | exact absurd (by decide +kernel) c9
  refine lv_iconst (v := 1) hx hb dX12_isThere_9 (by decide +kernel) ?_
  refine lv_goto (tgt := 14) hx hb dX12_isThere_10 (by decide) ?_
  have hF0 : ∀ q, va_A [] H.size q → A q := fun q h => h.elim (fun ⟨k9, e9, h9⟩ => by simp at h9) (fun h9 => hA q (Nat.le_trans hS.1 h9))
  refine vx_callv (vx_runS (As := [.int 1]) (rest := []) ⟨hx, hb, hml, hown, hts⟩ (ct_X12_needRange l hlt H.size 1) (cwS 1 hts (gi_S wd_1328 wd_1329 wd_327 wd_1330) rfl rfl rfl (by decide +kernel) ⟨(Nat.le_of_ble_eq_true rfl), (Nat.le_of_ble_eq_true rfl)⟩) ⟨fun a U g mk q => ⟨q.1, q.2.1, th.moved (u := U) (U := U.calling g mk a) (Vm.Alike.refl U.vm) q.2.2⟩, fun U hU hW => ⟨rfl, by rw [hU], by rw [hU]; exact ((hth.kept hS.2.1).narrow hF0).moved hW.alike⟩⟩ rfl rfl hl.1 rfl (lv_room (Nat.le_of_ble_eq_true rfl)) dX12_isThere_14 ⟨(Nat.le_of_ble_eq_true rfl), (Nat.le_of_ble_eq_true rfl)⟩) hS (fun q _ h => hF0 q h) hF0 (fun q _ h => hF0 q h) (fun E ce q9 u t H1 locs ht hvm hp hB hz hk hS hce hcv hcl => absurd hp (by decide +kernel)) (fun u t H1 locs ht hvm hp hB hz hk hS => ?_)
  have hP : va_P (dC, dI) CL [(x, .inr (12, xg)), (chA, .inl (chAC, (4, .inr (.inr (.inr (.inr chAF)))))), (ch0, .inr (2, ch0g)), (ch1, .inr (2, ch1g)), (ch2, .inr (2, ch2g)), (ch3, .inr (2, ch3g)), (oA, .inl (oAC, (1, .inr (.inl oAf))))] H1 := hP.kept (fun k q h9 => hk _ (vx_lt hP h9) (fun h8 => h8.elim (fun ⟨k9, e9, h7⟩ => by simp at h7) (fun h7 => absurd (vx_lt hP h9) (Nat.not_lt.mpr h7))))
  generalize H1 = H at hP hS ⊢
  refine W.widen (k := 1) (n := 6) (Nat.le_of_ble_eq_true rfl) (Nat.le_of_ble_eq_true rfl) ?_
  refine lv_iload_n hx hb dX12_isThere_17 rfl (lv_at hl 1 rfl) ?_
  refine lv_if_ne (tgt := 49) hx hb dX12_isThere_18 (by decide) (fun c9 => ?_) (fun c9 => ?_)
  rotate_left
  · first | exact absurd c9 (by decide +kernel) | exact absurd (by decide +kernel) c9
  refine lv_iload_n hx hb dX12_isThere_49 rfl (lv_at hl 1 rfl) ?_
  refine lv_iconst (v := 1) hx hb dX12_isThere_50 (by decide +kernel) ?_
  refine lv_icmp_ne (tgt := 81) hx hb dX12_isThere_51 (by decide) (fun c9 => ?_) (fun c9 => ?_)
  rotate_left
  · first | exact absurd c9 (by decide +kernel) | exact absurd (by decide +kernel) c9
  refine lv_iload_n hx hb dX12_isThere_81 rfl (lv_at hl 2 rfl) ?_
  refine lv_if_lt (tgt := 106) hx hb dX12_isThere_82 (by decide) (fun c9 => ?_) (fun c9 => ?_)
  · first | exact absurd c9 (by decide +kernel) | exact absurd (by decide +kernel) c9
  refine lv_iload_n hx hb dX12_isThere_85 rfl (lv_at hl 2 rfl) ?_
  refine lv_iconst (v := 4) hx hb dX12_isThere_86 (by decide +kernel) ?_
  refine lv_icmp_ge (tgt := 106) hx hb dX12_isThere_87 (by decide) (fun c9 => ?_) (fun c9 => ?_)
  · first | exact absurd c9 (by decide +kernel) | exact absurd (by decide +kernel) c9
  refine lv_aload_n hx hb dX12_isThere_90 rfl (lv_at hl 0 rfl) ?_
  refine va_get (D := (dC, dI)) (ci := 12) (v := .ref chA) (C := RX12) (T := TX12) (N := 17) hx hb hts inX12 hown hK hP 0 rfl rfl 9 (by decide) (hts (.fieldLink RX12 78 "ChipFlow" "chips" "[LChipFlow$Chip;") wd_1187) (fun _ h9 => h9) (h_x.get 2 rfl) dX12_isThere_91 ?_
  refine lv_iload_n hx hb dX12_isThere_94 rfl (lv_at hl 2 rfl) ?_
  refine va_aldq hx hb hK hP 1 0 rfl rfl (vp_in_nI (n := 1) (N := 4) (by decide) (by decide)) dX12_isThere_95 ?_
  rw [show (1 : Int32).toNatClampNeg = 1 by decide +kernel, h_chA1]
  refine W.eq (g2 := F0 m 96 ls [.ref ch1]) rfl ?_
  refine va_get (D := (dC, dI)) (ci := 2) (v := .int 0) (C := RX2) (T := TX2) (N := 20) hx hb hts inX2 hown hK hP 3 rfl rfl 0 (by decide) (hts (.fieldLink RX12 161 "ChipFlow$Chip" "used" "Z") wd_1067) (fun _ h9 => h9) (h_ch1.get 0 rfl) dX12_isThere_96 ?_
  refine lv_if_eq (tgt := 106) hx hb dX12_isThere_99 (by decide) (fun c9 => ?_) (fun c9 => ?_)
  rotate_left
  · first | exact absurd c9 (by decide +kernel) | exact absurd (by decide +kernel) c9
  refine lv_iconst (v := 0) hx hb dX12_isThere_106 (by decide +kernel) ?_
  refine W.widen (k := 1) (n := 6) (Nat.le_of_ble_eq_true rfl) (Nat.le_of_ble_eq_true rfl) ?_
  exact W.zret (v := 0) hx hb hr rfl (fun t ht hW => ⟨⟨0, (), rfl, rfl, xg, ch0g, ch1g, ch2g, ch3g, oAf, h_x, h_ch0, h_ch1, h_ch2, h_ch3, h_oA, by rw [ht]; exact hP, va_K.moved hW.alike hK, hD⟩, hS.F ht⟩) hS.2.2 dX12_isThere_107
set_option maxHeartbeats 4000000 in
set_option maxRecDepth 100000 in
theorem gx132_L_isThere (l : Launch) (hlt : l.stackTraces = false) (dC : Nat → ClassId) (dI : Nat → Nat → Nat) (sz : Nat) (x chA ch0 ch1 ch2 ch3 oA deA liA : Nat) (xg : List Value) (h_x : fx xg 17 [(7, .ref deA), (8, .ref liA), (9, .ref chA)]) (chAC : ClassId) (chAF : Nat → Option Nat) (ch0g : List Value) (h_ch0 : fx ch0g 20 [(0, .int 0)]) (ch1g : List Value) (h_ch1 : fx ch1g 20 [(0, .int 0)]) (ch2g : List Value) (h_ch2 : fx ch2g 20 [(0, .int 0)]) (ch3g : List Value) (h_ch3 : fx ch3g 20 [(0, .int 0)]) (oAC : ClassId) (oAf : Nat → Int64) (h_oA : fa oAf []) (h_chA0 : chAF 0 = some ch0) (h_chA1 : chAF 1 = some ch1) (h_chA2 : chAF 2 = some ch2) (h_chA3 : chAF 3 = some ch3) : Met l yL_isThere (Cond.codeWith yL_isThere cL_isThere 5 (some .int) [(0, 17, 20, 19)] :: BG) ({ frames := 8, cells := 1, slots := 6, locals := 152 }) (va_Pc [.ref x, .int 2, .int 1, .ref oA] (fun U => U.heap.size = sz ∧ va_P (dC, dI) CL [(x, .inr (12, xg)), (chA, .inl (chAC, (4, .inr (.inr (.inr (.inr chAF)))))), (ch0, .inr (2, ch0g)), (ch1, .inr (2, ch1g)), (ch2, .inr (2, ch2g)), (ch3, .inr (2, ch3g)), (oA, .inl (oAC, (1, .inr (.inl oAf))))] U.heap ∧ va_K (dC, dI) CL [(chAC, .object "ChipFlow$Chip"), (oAC, .long)] U ∧ va_D (fun _ => True) [(x, .inr (12, xg)), (chA, .inl (chAC, (4, .inr (.inr (.inr (.inr chAF)))))), (ch0, .inr (2, ch0g)), (ch1, .inr (2, ch1g)), (ch2, .inr (2, ch2g)), (ch3, .inr (2, ch3g)), (oA, .inl (oAC, (1, .inr (.inl oAf))))] ∧ th (va_A [(x, .inr (12, xg)), (chA, .inl (chAC, (4, .inr (.inr (.inr (.inr chAF)))))), (ch0, .inr (2, ch0g)), (ch1, .inr (2, ch1g)), (ch2, .inr (2, ch2g)), (ch3, .inr (2, ch3g)), (oA, .inl (oAC, (1, .inr (.inl oAf))))] sz) U U.heap)) (va_Qi (fun (r : Int32) (_ : Unit) => r = 0) (fun _ t => ∃ (xy : List Value) (ch0y : List Value) (ch1y : List Value) (ch2y : List Value) (ch3y : List Value) (oAy : Nat → Int64), fx xy 17 [(7, .ref deA), (8, .ref liA), (9, .ref chA)] ∧ fx ch0y 20 [(0, .int 0)] ∧ fx ch1y 20 [(0, .int 0)] ∧ fx ch2y 20 [(0, .int 0)] ∧ fx ch3y 20 [(0, .int 0)] ∧ fa oAy [(0, 0)] ∧ va_P (dC, dI) CL [(x, .inr (12, xy)), (chA, .inl (chAC, (4, .inr (.inr (.inr (.inr chAF)))))), (ch0, .inr (2, ch0y)), (ch1, .inr (2, ch1y)), (ch2, .inr (2, ch2y)), (ch3, .inr (2, ch3y)), (oA, .inl (oAC, (1, .inr (.inl oAy))))] t.heap ∧ va_K (dC, dI) CL [(chAC, .object "ChipFlow$Chip"), (oAC, .long)] t ∧ va_D (va_A [(x, .inr (12, xg)), (chA, .inl (chAC, (4, .inr (.inr (.inr (.inr chAF)))))), (ch0, .inr (2, ch0g)), (ch1, .inr (2, ch1g)), (ch2, .inr (2, ch2g)), (ch3, .inr (2, ch3g)), (oA, .inl (oAC, (1, .inr (.inl oAf))))] sz) [(x, .inr (12, xy)), (chA, .inl (chAC, (4, .inr (.inr (.inr (.inr chAF)))))), (ch0, .inr (2, ch0y)), (ch1, .inr (2, ch1y)), (ch2, .inr (2, ch2y)), (ch3, .inr (2, ch3y)), (oA, .inl (oAC, (1, .inr (.inl oAy))))]) (va_A [(x, .inr (12, xg)), (chA, .inl (chAC, (4, .inr (.inr (.inr (.inr chAF)))))), (ch0, .inr (2, ch0g)), (ch1, .inr (2, ch1g)), (ch2, .inr (2, ch2g)), (ch3, .inr (2, ch3g)), (oA, .inl (oAC, (1, .inr (.inl oAf))))] sz)) 1 6 (va_A [(x, .inr (12, xg)), (chA, .inl (chAC, (4, .inr (.inr (.inr (.inr chAF)))))), (ch0, .inr (2, ch0g)), (ch1, .inr (2, ch1g)), (ch2, .inr (2, ch2g)), (ch3, .inr (2, ch3g)), (oA, .inl (oAC, (1, .inr (.inl oAf))))] sz) := by
  refine va_MetW (hh := [(0, 17, 20, 19)]) (cc := cL_isThere) (maxL := 5) (ret := (some .int)) (by decide) rfl ?_
  intro p e s m args below meth c s₁ B hml hv
  obtain ⟨rfl, hsz, hP, hK, hD0, hth⟩ := hv
  have hx := B.exec
  have hb := B.bytes
  have hr := B.returns
  have hts : ∀ w ∈ BG, w.before _ s = true := fun w h => atoms_spec (ws := Cond.codeWith yL_isThere cL_isThere 5 (some .int) [(0, 17, 20, 19)] :: BG) B.pre w (List.mem_cons_of_mem _ h)
  have hown : s.vm.findClass RL = some m.cls := findClass_of_methodNamed B.named
  have hlocks := B.notSynchronized
  subst hsz
  have hD := hD0.self (sz := s.heap.size)
  generalize hAe : va_A [(x, .inr (12, xg)), (chA, .inl (chAC, (4, .inr (.inr (.inr (.inr chAF)))))), (ch0, .inr (2, ch0g)), (ch1, .inr (2, ch1g)), (ch2, .inr (2, ch2g)), (ch3, .inr (2, ch3g)), (oA, .inl (oAC, (1, .inr (.inl oAf))))] s.heap.size = A at hD hth ⊢
  have hA : ∀ q : Nat, s.heap.size ≤ q → A q := fun q h => by rw [← hAe]; exact Or.inr h
  have hS : va_S A s.heap s.heap [] := va_S.rf
  have hl := lv_entry ([.ref x, .int 2, .int 1, .ref oA]) (n := 5) (Nat.le_of_ble_eq_true rfl)
  rw [lg_entry_eq]
  generalize (lg_sl ([.ref x, .int 2, .int 1, .ref oA]) ++ List.replicate (5 - (lg_sl ([.ref x, .int 2, .int 1, .ref oA])).length) Slot.unset).toArray = ls at hl ⊢
  have hl : lv_has ls 5 [(0, .ref x), (1, .int 2), (2, .int 1), (3, .ref oA)] := hl
  obtain ⟨H, eH⟩ : ∃ z, z = s.heap := ⟨_, rfl⟩
  have hP : va_P (dC, dI) CL [(x, .inr (12, xg)), (chA, .inl (chAC, (4, .inr (.inr (.inr (.inr chAF)))))), (ch0, .inr (2, ch0g)), (ch1, .inr (2, ch1g)), (ch2, .inr (2, ch2g)), (ch3, .inr (2, ch3g)), (oA, .inl (oAC, (1, .inr (.inl oAf))))] H := by rw [eH]; exact hP
  have hS : va_S A s.heap H [] := by rw [eH]; exact hS
  rw [← eH]
  have hT : c.exceptionTable.toList = tableOf [(0, 17, 20, 19)] := vx_table (x := yL_isThere) B (atoms_spec (ws := Cond.codeWith yL_isThere cL_isThere 5 (some .int) [(0, 17, 20, 19)] :: BG) B.pre _ List.mem_cons_self)
  refine lv_aload_n hx hb dL_isThere_0 rfl (lv_at hl 3 rfl) ?_
  refine lv_iconst (v := 0) hx hb dL_isThere_1 (by decide +kernel) ?_
  refine lv_aload_n hx hb dL_isThere_2 rfl (lv_at hl 0 rfl) ?_
  refine lv_iload_n hx hb dL_isThere_3 rfl (lv_at hl 1 rfl) ?_
  refine lv_iload_n hx hb dL_isThere_4 rfl (lv_at hl 2 rfl) ?_
  have hFc := va_free (wc := [(x, .inr (12, xg)), (chA, .inl (chAC, (4, .inr (.inr (.inr (.inr chAF)))))), (ch0, .inr (2, ch0g)), (ch1, .inr (2, ch1g)), (ch2, .inr (2, ch2g)), (ch3, .inr (2, ch3g)), (oA, .inl (oAC, (1, .inr (.inl oAf))))]) hD hS hA [0, 1, 2, 3, 4, 5, 6] rfl
  refine va_calli (va_runV (As := [.int 2, .int 1]) (rest := [.int 0, .ref oA]) ⟨hx, hb, hml, hown, hts⟩ (gx133_X12_isThere l hlt dC dI _ x chA ch0 ch1 ch2 ch3 oA deA liA xg h_x chAC chAF ch0g h_ch0 ch1g h_ch1 ch2g h_ch2 ch3g h_ch3 oAC oAf h_oA h_chA0 h_chA1 h_chA2 h_chA3) (cwV 2 hts (gi_V wd_1842 wd_1843 wd_1844 wd_327 wd_1845) rfl rfl rfl (by decide +kernel) ⟨(Nat.le_of_ble_eq_true rfl), (Nat.le_of_ble_eq_true rfl)⟩) ⟨fun a U g mk q => by obtain ⟨q0, q1, qP, qK, qD, qT⟩ := q; exact ⟨q0, q1, qP, va_K.moved (u := U) (U := U.calling g mk a) (Vm.Alike.refl U.vm) qK, qD, th.moved (u := U) (U := U.calling g mk a) (Vm.Alike.refl U.vm) qT⟩, va_recv hK hP (ci := 12) (q0 := 0) rfl rfl, fun U hU hW => ⟨rfl, by rw [hU], by rw [hU]; exact hP, va_K.moved hW.alike hK, hD.weaken (fun _ _ _ _ => trivial), by rw [hU]; exact ((hth.kept hS.2.1).narrow hFc).moved hW.alike⟩⟩ rfl rfl hl.1 rfl (lv_room (Nat.le_of_ble_eq_true rfl)) dL_isThere_5 ⟨(Nat.le_of_ble_eq_true rfl), (Nat.le_of_ble_eq_true rfl)⟩) hS (fun q _ h => hFc q h) hFc (fun r u t H1 locs ht hvm hw hB hz1 hk1 hS => ?_)
  subst hw
  obtain ⟨fs_1, fs_2, fs_3, fs_4, fs_5, f_6, h_x, h_ch0, h_ch1, h_ch2, h_ch3, h_oA, hP1, hK1, hD1⟩ := hB
  rw [ht] at hP1
  have hD := hD1.weaken (fun k q _ h => hFc q.1 h)
  have hP := hP1
  generalize H1 = H at hP hS ⊢
  have hP : va_P (dC, dI) CL [(x, .inr (12, fs_1)), (chA, .inl (chAC, (4, .inr (.inr (.inr (.inr chAF)))))), (ch0, .inr (2, fs_2)), (ch1, .inr (2, fs_3)), (ch2, .inr (2, fs_4)), (ch3, .inr (2, fs_5)), (oA, .inl (oAC, (1, .inr (.inl f_6))))] H := hP
  have hD : va_D A [(x, .inr (12, fs_1)), (chA, .inl (chAC, (4, .inr (.inr (.inr (.inr chAF)))))), (ch0, .inr (2, fs_2)), (ch1, .inr (2, fs_3)), (ch2, .inr (2, fs_4)), (ch3, .inr (2, fs_5)), (oA, .inl (oAC, (1, .inr (.inl f_6))))] := hD
  refine W.widen (k := 1) (n := 6) (Nat.le_of_ble_eq_true rfl) (Nat.le_of_ble_eq_true rfl) ?_
  refine lv_if_eq (tgt := 15) hx hb dL_isThere_8 (by decide) (fun c9 => ?_) (fun c9 => ?_)
  rotate_left
  · first | exact absurd c9 (by decide +kernel) | exact absurd (by decide +kernel) c9
  refine lv_lconst (v := 0) hx hb dL_isThere_15 (by decide) ?_
  refine va_last hx hb hK hP hD hS 6 1 rfl rfl (vp_in_nI (n := 0) (N := 1) (by decide) (by decide)) dL_isThere_16 (fun H locs hP hD hS => ?_)
  obtain ⟨f_7, e9⟩ : ∃ z, z = vp_updL f_6 (0 : Int32).toNatClampNeg 0 := ⟨_, rfl⟩
  have h_oA : fa f_7 [(0, 0)] := by rw [e9, show (0 : Int32).toNatClampNeg = 0 by decide +kernel]; exact (fa.putL h_oA).sub [0] rfl
  have hP : va_P (dC, dI) CL [(x, .inr (12, fs_1)), (chA, .inl (chAC, (4, .inr (.inr (.inr (.inr chAF)))))), (ch0, .inr (2, fs_2)), (ch1, .inr (2, fs_3)), (ch2, .inr (2, fs_4)), (ch3, .inr (2, fs_5)), (oA, .inl (oAC, (1, .inr (.inl f_7))))] H := by rw [e9]; exact hP
  have hD : va_D A [(x, .inr (12, fs_1)), (chA, .inl (chAC, (4, .inr (.inr (.inr (.inr chAF)))))), (ch0, .inr (2, fs_2)), (ch1, .inr (2, fs_3)), (ch2, .inr (2, fs_4)), (ch3, .inr (2, fs_5)), (oA, .inl (oAC, (1, .inr (.inl f_7))))] := by rw [e9]; exact hD
  clear e9
  refine lv_goto (tgt := 24) hx hb dL_isThere_17 (by decide) ?_
  refine lv_iconst (v := 0) hx hb dL_isThere_24 (by decide +kernel) ?_
  refine W.widen (k := 1) (n := 6) (Nat.le_of_ble_eq_true rfl) (Nat.le_of_ble_eq_true rfl) ?_
  exact W.iret (v := 0) hx hb hr (fun t ht hW => ⟨⟨0, (), rfl, rfl, fs_1, fs_2, fs_3, fs_4, fs_5, f_7, h_x, h_ch0, h_ch1, h_ch2, h_ch3, h_oA, by rw [ht]; exact hP, va_K.moved hW.alike hK, hD⟩, hS.F ht⟩) hS.2.2 dL_isThere_25
set_option maxHeartbeats 4000000 in
set_option maxRecDepth 100000 in
theorem gx135_X13_isOne (l : Launch) (hlt : l.stackTraces = false) (dC : Nat → ClassId) (dI : Nat → Nat → Nat) (sz : Nat) (m0 mch md ml : Nat) (m0g : List Value) (h_m0 : fx m0g 225 [(0, .int 0), (2, .int 0), (3, .int 0), (9, .int 0), (10, .int 0), (11, .int 0), (12, .int 0), (27, .int 0), (55, .ref md), (79, .int 0), (83, .int 0), (88, .ref ml), (95, .int 0), (138, .ref mch)]) (mchC : ClassId) : Met l yX13_isOne (Cond.code yX13_isOne cX13_isOne 3 (some .boolean) :: BG) ({ frames := 2, cells := 0, slots := 0, locals := 33 }) (va_Pc [.ref m0, .int 2, .int 1] (fun U => U.heap.size = sz ∧ va_P (dC, dI) CL [(m0, .inr (13, m0g)), (mch, .inl (mchC, (4, .inl (fun _ => 0))))] U.heap ∧ va_K (dC, dI) CL [(mchC, .boolean)] U ∧ va_D (fun _ => True) [(m0, .inr (13, m0g)), (mch, .inl (mchC, (4, .inl (fun _ => 0))))] ∧ th (va_A [(m0, .inr (13, m0g)), (mch, .inl (mchC, (4, .inl (fun _ => 0))))] sz) U U.heap)) (va_Qi (fun (r : Int32) (_ : Unit) => r = 0) (fun _ t => ∃ (m0y : List Value), fx m0y 225 [(0, .int 0), (2, .int 0), (3, .int 0), (9, .int 0), (10, .int 0), (11, .int 0), (12, .int 0), (27, .int 0), (55, .ref md), (79, .int 0), (83, .int 0), (88, .ref ml), (95, .int 0), (138, .ref mch)] ∧ va_P (dC, dI) CL [(m0, .inr (13, m0y)), (mch, .inl (mchC, (4, .inl (fun _ => 0))))] t.heap ∧ va_K (dC, dI) CL [(mchC, .boolean)] t ∧ va_D (va_A [(m0, .inr (13, m0g)), (mch, .inl (mchC, (4, .inl (fun _ => 0))))] sz) [(m0, .inr (13, m0y)), (mch, .inl (mchC, (4, .inl (fun _ => 0))))]) (va_A [(m0, .inr (13, m0g)), (mch, .inl (mchC, (4, .inl (fun _ => 0))))] sz)) 0 0 (va_A [(m0, .inr (13, m0g)), (mch, .inl (mchC, (4, .inl (fun _ => 0))))] sz) := by
  refine Met.ofW (cc := cX13_isOne) (maxL := 3) (ret := (some .boolean)) (by decide) rfl ?_
  intro p e s m args below meth c s₁ B hml hv
  obtain ⟨rfl, hsz, hP, hK, hD0, hth⟩ := hv
  have hx := B.exec
  have hb := B.bytes
  have hr := B.returns
  have hts : ∀ w ∈ BG, w.before _ s = true := fun w h => atoms_spec (ws := Cond.code yX13_isOne cX13_isOne 3 (some .boolean) :: BG) B.pre w (List.mem_cons_of_mem _ h)
  have hown : s.vm.findClass RX13 = some m.cls := findClass_of_methodNamed B.named
  have hlocks := B.notSynchronized
  subst hsz
  have hD := hD0.self (sz := s.heap.size)
  generalize hAe : va_A [(m0, .inr (13, m0g)), (mch, .inl (mchC, (4, .inl (fun _ => 0))))] s.heap.size = A at hD hth ⊢
  have hA : ∀ q : Nat, s.heap.size ≤ q → A q := fun q h => by rw [← hAe]; exact Or.inr h
  have hS : va_S A s.heap s.heap [] := va_S.rf
  have hl := lv_entry ([.ref m0, .int 2, .int 1]) (n := 3) (Nat.le_of_ble_eq_true rfl)
  rw [lg_entry_eq]
  generalize (lg_sl ([.ref m0, .int 2, .int 1]) ++ List.replicate (3 - (lg_sl ([.ref m0, .int 2, .int 1])).length) Slot.unset).toArray = ls at hl ⊢
  have hl : lv_has ls 3 [(0, .ref m0), (1, .int 2), (2, .int 1)] := hl
  obtain ⟨H, eH⟩ : ∃ z, z = s.heap := ⟨_, rfl⟩
  have hP : va_P (dC, dI) CL [(m0, .inr (13, m0g)), (mch, .inl (mchC, (4, .inl (fun _ => 0))))] H := by rw [eH]; exact hP
  have hS : va_S A s.heap H [] := by rw [eH]; exact hS
  rw [← eH]
  refine lv_iload_n hx hb dX13_isOne_0 rfl (lv_at hl 1 rfl) ?_
  refine lv_if_ne (tgt := 12) hx hb dX13_isOne_1 (by decide) (fun c9 => ?_) (fun c9 => ?_)
  rotate_left
  · first | exact absurd c9 (by decide +kernel) | exact absurd (by decide +kernel) c9
  refine lv_iload_n hx hb dX13_isOne_12 rfl (lv_at hl 1 rfl) ?_
  refine lv_iconst (v := 1) hx hb dX13_isOne_13 (by decide +kernel) ?_
  refine lv_icmp_ne (tgt := 25) hx hb dX13_isOne_14 (by decide) (fun c9 => ?_) (fun c9 => ?_)
  rotate_left
  · first | exact absurd c9 (by decide +kernel) | exact absurd (by decide +kernel) c9
  refine lv_aload_n hx hb dX13_isOne_25 rfl (lv_at hl 0 rfl) ?_
  refine lv_iload_n hx hb dX13_isOne_26 rfl (lv_at hl 2 rfl) ?_
  have hFc := va_free (wc := [(m0, .inr (13, m0g)), (mch, .inl (mchC, (4, .inl (fun _ => 0))))]) hD hS hA [0, 1] rfl
  refine va_calli (va_runV (As := [.int 1]) (rest := []) ⟨hx, hb, hml, hown, hts⟩ (ct_X13_isChip l dC dI _ 1 m0 m0g mch mchC (h_m0.sub [13] rfl)) (cwV 1 hts (gi_V wd_4084 wd_4086 wd_217 wd_340 wd_4087) rfl rfl rfl (by decide +kernel) ⟨(Nat.le_of_ble_eq_true rfl), (Nat.le_of_ble_eq_true rfl)⟩) ⟨fun a U g mk q => by obtain ⟨q0, q1, qP, qK, qD⟩ := q; exact ⟨q0, q1, qP, va_K.moved (u := U) (U := U.calling g mk a) (Vm.Alike.refl U.vm) qK, qD⟩, va_recv hK hP (ci := 13) (q0 := 0) rfl rfl, fun U hU hW => ⟨rfl, by rw [hU], by rw [hU]; exact hP, va_K.moved hW.alike hK, hD.weaken (fun _ _ _ _ => trivial)⟩⟩ rfl rfl hl.1 rfl (lv_room (Nat.le_of_ble_eq_true rfl)) dX13_isOne_27 ⟨(Nat.le_of_ble_eq_true rfl), (Nat.le_of_ble_eq_true rfl)⟩) hS (fun q _ h => hFc q h) hFc (fun r u t H1 locs ht hvm hw hB hz1 hk1 hS => ?_)
  subst hw
  obtain ⟨hP1, hK1, hD1⟩ := hB
  rw [ht] at hP1
  have hD := hD1.weaken (fun k q _ h => hFc q.1 h)
  have hP := hP1
  generalize H1 = H at hP hS ⊢
  have hP : va_P (dC, dI) CL [(m0, .inr (13, m0g)), (mch, .inl (mchC, (4, .inl (fun _ => 0))))] H := hP
  have hD : va_D A [(m0, .inr (13, m0g)), (mch, .inl (mchC, (4, .inl (fun _ => 0))))] := hD
  exact W.zret (v := 0) hx hb hr rfl (fun t ht hW => ⟨⟨0, (), rfl, rfl, m0g, h_m0, by rw [ht]; exact hP, va_K.moved hW.alike hK, hD⟩, hS.F ht⟩) hS.2.2 dX13_isOne_30
set_option maxHeartbeats 4000000 in
set_option maxRecDepth 100000 in
theorem gx134_X13_isThere (l : Launch) (hlt : l.stackTraces = false) (dC : Nat → ClassId) (dI : Nat → Nat → Nat) (sz : Nat) (m0 mch md ml : Nat) (m0g : List Value) (h_m0 : fx m0g 225 [(0, .int 0), (2, .int 0), (3, .int 0), (9, .int 0), (10, .int 0), (11, .int 0), (12, .int 0), (27, .int 0), (55, .ref md), (79, .int 0), (83, .int 0), (88, .ref ml), (95, .int 0), (138, .ref mch)]) (mchC : ClassId) : Met l yX13_isThere (Cond.code yX13_isThere cX13_isThere 3 (some .boolean) :: BG) ({ frames := 3, cells := 0, slots := 0, locals := 55 }) (va_Pc [.ref m0, .int 2, .int 1] (fun U => U.heap.size = sz ∧ va_P (dC, dI) CL [(m0, .inr (13, m0g)), (mch, .inl (mchC, (4, .inl (fun _ => 0))))] U.heap ∧ va_K (dC, dI) CL [(mchC, .boolean)] U ∧ va_D (fun _ => True) [(m0, .inr (13, m0g)), (mch, .inl (mchC, (4, .inl (fun _ => 0))))] ∧ th (va_A [(m0, .inr (13, m0g)), (mch, .inl (mchC, (4, .inl (fun _ => 0))))] sz) U U.heap)) (va_Qi (fun (r : Int32) (_ : Unit) => r = 0) (fun _ t => ∃ (m0y : List Value), fx m0y 225 [(0, .int 0), (2, .int 0), (3, .int 0), (9, .int 0), (10, .int 0), (11, .int 0), (12, .int 0), (27, .int 0), (55, .ref md), (79, .int 0), (83, .int 0), (88, .ref ml), (95, .int 0), (138, .ref mch)] ∧ va_P (dC, dI) CL [(m0, .inr (13, m0y)), (mch, .inl (mchC, (4, .inl (fun _ => 0))))] t.heap ∧ va_K (dC, dI) CL [(mchC, .boolean)] t ∧ va_D (va_A [(m0, .inr (13, m0g)), (mch, .inl (mchC, (4, .inl (fun _ => 0))))] sz) [(m0, .inr (13, m0y)), (mch, .inl (mchC, (4, .inl (fun _ => 0))))]) (va_A [(m0, .inr (13, m0g)), (mch, .inl (mchC, (4, .inl (fun _ => 0))))] sz)) 0 0 (va_A [(m0, .inr (13, m0g)), (mch, .inl (mchC, (4, .inl (fun _ => 0))))] sz) := by
  refine Met.ofW (cc := cX13_isThere) (maxL := 3) (ret := (some .boolean)) (by decide) rfl ?_
  intro p e s m args below meth c s₁ B hml hv
  obtain ⟨rfl, hsz, hP, hK, hD0, hth⟩ := hv
  have hx := B.exec
  have hb := B.bytes
  have hr := B.returns
  have hts : ∀ w ∈ BG, w.before _ s = true := fun w h => atoms_spec (ws := Cond.code yX13_isThere cX13_isThere 3 (some .boolean) :: BG) B.pre w (List.mem_cons_of_mem _ h)
  have hown : s.vm.findClass RX13 = some m.cls := findClass_of_methodNamed B.named
  have hlocks := B.notSynchronized
  subst hsz
  have hD := hD0.self (sz := s.heap.size)
  generalize hAe : va_A [(m0, .inr (13, m0g)), (mch, .inl (mchC, (4, .inl (fun _ => 0))))] s.heap.size = A at hD hth ⊢
  have hA : ∀ q : Nat, s.heap.size ≤ q → A q := fun q h => by rw [← hAe]; exact Or.inr h
  have hS : va_S A s.heap s.heap [] := va_S.rf
  have hl := lv_entry ([.ref m0, .int 2, .int 1]) (n := 3) (Nat.le_of_ble_eq_true rfl)
  rw [lg_entry_eq]
  generalize (lg_sl ([.ref m0, .int 2, .int 1]) ++ List.replicate (3 - (lg_sl ([.ref m0, .int 2, .int 1])).length) Slot.unset).toArray = ls at hl ⊢
  have hl : lv_has ls 3 [(0, .ref m0), (1, .int 2), (2, .int 1)] := hl
  obtain ⟨H, eH⟩ : ∃ z, z = s.heap := ⟨_, rfl⟩
  have hP : va_P (dC, dI) CL [(m0, .inr (13, m0g)), (mch, .inl (mchC, (4, .inl (fun _ => 0))))] H := by rw [eH]; exact hP
  have hS : va_S A s.heap H [] := by rw [eH]; exact hS
  rw [← eH]
  refine lv_aload_n hx hb dX13_isThere_0 rfl (lv_at hl 0 rfl) ?_
  refine lv_iload_n hx hb dX13_isThere_1 rfl (lv_at hl 1 rfl) ?_
  refine lv_iconst (v := 0) hx hb dX13_isThere_2 (by decide +kernel) ?_
  refine lv_iconst (v := 2) hx hb dX13_isThere_3 (by decide +kernel) ?_
  have hFc := va_free (wc := [(m0, .inr (13, m0g)), (mch, .inl (mchC, (4, .inl (fun _ => 0))))]) hD hS hA [0, 1] rfl
  refine va_calli (va_runS (As := [.int 2, .int 0, .int 2]) (rest := [.ref m0]) ⟨hx, hb, hml, hown, hts⟩ (gx59_X13_within l hlt dC dI _ m0 mch md ml m0g h_m0 mchC) (cwS 3 hts (gi_S wd_3825 wd_3826 wd_340 wd_3827) rfl rfl rfl (by decide +kernel) ⟨(Nat.le_of_ble_eq_true rfl), (Nat.le_of_ble_eq_true rfl)⟩) ⟨fun a U g mk q => by obtain ⟨q0, q1, qP, qK, qD, qT⟩ := q; exact ⟨q0, q1, qP, va_K.moved (u := U) (U := U.calling g mk a) (Vm.Alike.refl U.vm) qK, qD, th.moved (u := U) (U := U.calling g mk a) (Vm.Alike.refl U.vm) qT⟩, fun U hU hW => ⟨rfl, by rw [hU], by rw [hU]; exact hP, va_K.moved hW.alike hK, hD.weaken (fun _ _ _ _ => trivial), by rw [hU]; exact ((hth.kept hS.2.1).narrow hFc).moved hW.alike⟩⟩ rfl rfl hl.1 rfl (lv_room (Nat.le_of_ble_eq_true rfl)) dX13_isThere_4 ⟨(Nat.le_of_ble_eq_true rfl), (Nat.le_of_ble_eq_true rfl)⟩) hS (fun q _ h => hFc q h) hFc (fun r u t H1 locs ht hvm hw hB hz1 hk1 hS => ?_)
  subst hw
  obtain ⟨fs_1, h_m0, hP1, hK1, hD1⟩ := hB
  rw [ht] at hP1
  have hD := hD1.weaken (fun k q _ h => hFc q.1 h)
  have hP := hP1
  generalize H1 = H at hP hS ⊢
  have hP : va_P (dC, dI) CL [(m0, .inr (13, fs_1)), (mch, .inl (mchC, (4, .inl (fun _ => 0))))] H := hP
  have hD : va_D A [(m0, .inr (13, fs_1)), (mch, .inl (mchC, (4, .inl (fun _ => 0))))] := hD
  refine lv_if_eq (tgt := 14) hx hb dX13_isThere_7 (by decide) (fun c9 => ?_) (fun c9 => ?_)
  · first | exact absurd c9 (by decide +kernel) | exact absurd (by decide +kernel) c9
  refine lv_iconst (v := 0) hx hb dX13_isThere_10 (by decide +kernel) ?_
  refine lv_goto (tgt := 15) hx hb dX13_isThere_11 (by decide) ?_
  refine va_put (D := (dC, dI)) (ci := 13) (v := .int 0) (ty := tyX13 0) (C := RX13) (T := TX13) (N := 225) hx hb hts inX13 tyX13 tyX13_ok nmX13 hown hK hP hD hS 0 rfl rfl 0 (by decide) (hts (.fieldLink RX13 1 "ChipFlowModel" "code" "I") wd_3032) (fun _ h9 => h9) rfl (by decide +kernel) rfl rfl (by rw [h_m0.1]; decide) dX13_isThere_15 (fun H locs hP hD hS => ?_)
  obtain ⟨fs_2, e9⟩ : ∃ z, z = fs_1.set 0 (.int 0) := ⟨_, rfl⟩
  have h_m0 : fx fs_2 225 [(0, .int 0), (2, .int 0), (3, .int 0), (9, .int 0), (10, .int 0), (11, .int 0), (12, .int 0), (27, .int 0), (55, .ref md), (79, .int 0), (83, .int 0), (88, .ref ml), (95, .int 0), (138, .ref mch)] := by rw [e9]; exact (h_m0.put (F' := [(0, .int 0), (2, .int 0), (3, .int 0), (9, .int 0), (10, .int 0), (11, .int 0), (12, .int 0), (27, .int 0), (55, .ref md), (79, .int 0), (83, .int 0), (88, .ref ml), (95, .int 0), (138, .ref mch)]) (by decide) _ rfl).sub [0, 1, 2, 3, 4, 5, 6, 7, 8, 9, 10, 11, 12, 13] rfl
  have hP : va_P (dC, dI) CL [(m0, .inr (13, fs_2)), (mch, .inl (mchC, (4, .inl (fun _ => 0))))] H := by rw [e9]; exact hP
  have hD : va_D A [(m0, .inr (13, fs_2)), (mch, .inl (mchC, (4, .inl (fun _ => 0))))] := by rw [e9]; exact hD
  clear e9
  refine lv_aload_n hx hb dX13_isThere_18 rfl (lv_at hl 0 rfl) ?_
  refine va_get (D := (dC, dI)) (ci := 13) (v := .int 0) (C := RX13) (T := TX13) (N := 225) hx hb hts inX13 hown hK hP 0 rfl rfl 0 (by decide) (hts (.fieldLink RX13 1 "ChipFlowModel" "code" "I") wd_3032) (fun _ h9 => h9) (h_m0.get 0 rfl) dX13_isThere_19 ?_
  refine lv_if_ne (tgt := 38) hx hb dX13_isThere_22 (by decide) (fun c9 => ?_) (fun c9 => ?_)
  · first | exact absurd c9 (by decide +kernel) | exact absurd (by decide +kernel) c9
  refine lv_aload_n hx hb dX13_isThere_25 rfl (lv_at hl 0 rfl) ?_
  refine lv_iload_n hx hb dX13_isThere_26 rfl (lv_at hl 1 rfl) ?_
  refine lv_iload_n hx hb dX13_isThere_27 rfl (lv_at hl 2 rfl) ?_
  have hFc := va_free (wc := [(m0, .inr (13, fs_2)), (mch, .inl (mchC, (4, .inl (fun _ => 0))))]) hD hS hA [0, 1] rfl
  refine va_calli (va_runV (As := [.int 2, .int 1]) (rest := []) ⟨hx, hb, hml, hown, hts⟩ (gx135_X13_isOne l hlt dC dI _ m0 mch md ml fs_2 h_m0 mchC) (cwV 2 hts (gi_V wd_4072 wd_4074 wd_214 wd_340 wd_4075) rfl rfl rfl (by decide +kernel) ⟨(Nat.le_of_ble_eq_true rfl), (Nat.le_of_ble_eq_true rfl)⟩) ⟨fun a U g mk q => by obtain ⟨q0, q1, qP, qK, qD, qT⟩ := q; exact ⟨q0, q1, qP, va_K.moved (u := U) (U := U.calling g mk a) (Vm.Alike.refl U.vm) qK, qD, th.moved (u := U) (U := U.calling g mk a) (Vm.Alike.refl U.vm) qT⟩, va_recv hK hP (ci := 13) (q0 := 0) rfl rfl, fun U hU hW => ⟨rfl, by rw [hU], by rw [hU]; exact hP, va_K.moved hW.alike hK, hD.weaken (fun _ _ _ _ => trivial), by rw [hU]; exact ((hth.kept hS.2.1).narrow hFc).moved hW.alike⟩⟩ rfl rfl hl.1 rfl (lv_room (Nat.le_of_ble_eq_true rfl)) dX13_isThere_28 ⟨(Nat.le_of_ble_eq_true rfl), (Nat.le_of_ble_eq_true rfl)⟩) hS (fun q _ h => hFc q h) hFc (fun r u t H1 locs ht hvm hw hB hz1 hk1 hS => ?_)
  subst hw
  obtain ⟨fs_3, h_m0, hP1, hK1, hD1⟩ := hB
  rw [ht] at hP1
  have hD := hD1.weaken (fun k q _ h => hFc q.1 h)
  have hP := hP1
  generalize H1 = H at hP hS ⊢
  have hP : va_P (dC, dI) CL [(m0, .inr (13, fs_3)), (mch, .inl (mchC, (4, .inl (fun _ => 0))))] H := hP
  have hD : va_D A [(m0, .inr (13, fs_3)), (mch, .inl (mchC, (4, .inl (fun _ => 0))))] := hD
  refine lv_if_eq (tgt := 38) hx hb dX13_isThere_31 (by decide) (fun c9 => ?_) (fun c9 => ?_)
  rotate_left
  · first | exact absurd c9 (by decide +kernel) | exact absurd (by decide +kernel) c9
  refine lv_iconst (v := 0) hx hb dX13_isThere_38 (by decide +kernel) ?_
  exact W.zret (v := 0) hx hb hr rfl (fun t ht hW => ⟨⟨0, (), rfl, rfl, fs_3, h_m0, by rw [ht]; exact hP, va_K.moved hW.alike hK, hD⟩, hS.F ht⟩) hS.2.2 dX13_isThere_39
set_option maxHeartbeats 4000000 in
set_option maxRecDepth 100000 in
theorem gx137_X12_isThere (l : Launch) (hlt : l.stackTraces = false) (dC : Nat → ClassId) (dI : Nat → Nat → Nat) (sz : Nat) (x chA ch0 ch1 ch2 ch3 oA deA liA : Nat) (xg : List Value) (h_x : fx xg 17 [(7, .ref deA), (8, .ref liA), (9, .ref chA)]) (chAC : ClassId) (chAF : Nat → Option Nat) (ch0g : List Value) (h_ch0 : fx ch0g 20 [(0, .int 0)]) (ch1g : List Value) (h_ch1 : fx ch1g 20 [(0, .int 0)]) (ch2g : List Value) (h_ch2 : fx ch2g 20 [(0, .int 0)]) (ch3g : List Value) (h_ch3 : fx ch3g 20 [(0, .int 0)]) (oAC : ClassId) (oAf : Nat → Int64) (h_oA : fa oAf []) (h_chA0 : chAF 0 = some ch0) (h_chA1 : chAF 1 = some ch1) (h_chA2 : chAF 2 = some ch2) (h_chA3 : chAF 3 = some ch3) : Met l yX12_isThere (Cond.code yX12_isThere cX12_isThere 3 (some .boolean) :: BG) ({ frames := 7, cells := 1, slots := 6, locals := 130 }) (va_Pc [.ref x, .int 2, .int 2] (fun U => U.heap.size = sz ∧ va_P (dC, dI) CL [(x, .inr (12, xg)), (chA, .inl (chAC, (4, .inr (.inr (.inr (.inr chAF)))))), (ch0, .inr (2, ch0g)), (ch1, .inr (2, ch1g)), (ch2, .inr (2, ch2g)), (ch3, .inr (2, ch3g)), (oA, .inl (oAC, (1, .inr (.inl oAf))))] U.heap ∧ va_K (dC, dI) CL [(chAC, .object "ChipFlow$Chip"), (oAC, .long)] U ∧ va_D (fun _ => True) [(x, .inr (12, xg)), (chA, .inl (chAC, (4, .inr (.inr (.inr (.inr chAF)))))), (ch0, .inr (2, ch0g)), (ch1, .inr (2, ch1g)), (ch2, .inr (2, ch2g)), (ch3, .inr (2, ch3g)), (oA, .inl (oAC, (1, .inr (.inl oAf))))] ∧ th (va_A [(x, .inr (12, xg)), (chA, .inl (chAC, (4, .inr (.inr (.inr (.inr chAF)))))), (ch0, .inr (2, ch0g)), (ch1, .inr (2, ch1g)), (ch2, .inr (2, ch2g)), (ch3, .inr (2, ch3g)), (oA, .inl (oAC, (1, .inr (.inl oAf))))] sz) U U.heap)) (va_Qi (fun (r : Int32) (_ : Unit) => r = 0) (fun _ t => ∃ (xy : List Value) (ch0y : List Value) (ch1y : List Value) (ch2y : List Value) (ch3y : List Value) (oAy : Nat → Int64), fx xy 17 [(7, .ref deA), (8, .ref liA), (9, .ref chA)] ∧ fx ch0y 20 [(0, .int 0)] ∧ fx ch1y 20 [(0, .int 0)] ∧ fx ch2y 20 [(0, .int 0)] ∧ fx ch3y 20 [(0, .int 0)] ∧ fa oAy [] ∧ va_P (dC, dI) CL [(x, .inr (12, xy)), (chA, .inl (chAC, (4, .inr (.inr (.inr (.inr chAF)))))), (ch0, .inr (2, ch0y)), (ch1, .inr (2, ch1y)), (ch2, .inr (2, ch2y)), (ch3, .inr (2, ch3y)), (oA, .inl (oAC, (1, .inr (.inl oAy))))] t.heap ∧ va_K (dC, dI) CL [(chAC, .object "ChipFlow$Chip"), (oAC, .long)] t ∧ va_D (va_A [(x, .inr (12, xg)), (chA, .inl (chAC, (4, .inr (.inr (.inr (.inr chAF)))))), (ch0, .inr (2, ch0g)), (ch1, .inr (2, ch1g)), (ch2, .inr (2, ch2g)), (ch3, .inr (2, ch3g)), (oA, .inl (oAC, (1, .inr (.inl oAf))))] sz) [(x, .inr (12, xy)), (chA, .inl (chAC, (4, .inr (.inr (.inr (.inr chAF)))))), (ch0, .inr (2, ch0y)), (ch1, .inr (2, ch1y)), (ch2, .inr (2, ch2y)), (ch3, .inr (2, ch3y)), (oA, .inl (oAC, (1, .inr (.inl oAy))))]) (va_A [(x, .inr (12, xg)), (chA, .inl (chAC, (4, .inr (.inr (.inr (.inr chAF)))))), (ch0, .inr (2, ch0g)), (ch1, .inr (2, ch1g)), (ch2, .inr (2, ch2g)), (ch3, .inr (2, ch3g)), (oA, .inl (oAC, (1, .inr (.inl oAf))))] sz)) 1 6 (va_A [(x, .inr (12, xg)), (chA, .inl (chAC, (4, .inr (.inr (.inr (.inr chAF)))))), (ch0, .inr (2, ch0g)), (ch1, .inr (2, ch1g)), (ch2, .inr (2, ch2g)), (ch3, .inr (2, ch3g)), (oA, .inl (oAC, (1, .inr (.inl oAf))))] sz) := by
  refine Met.ofW (cc := cX12_isThere) (maxL := 3) (ret := (some .boolean)) (by decide) rfl ?_
  intro p e s m args below meth c s₁ B hml hv
  obtain ⟨rfl, hsz, hP, hK, hD0, hth⟩ := hv
  have hx := B.exec
  have hb := B.bytes
  have hr := B.returns
  have hts : ∀ w ∈ BG, w.before _ s = true := fun w h => atoms_spec (ws := Cond.code yX12_isThere cX12_isThere 3 (some .boolean) :: BG) B.pre w (List.mem_cons_of_mem _ h)
  have hown : s.vm.findClass RX12 = some m.cls := findClass_of_methodNamed B.named
  have hlocks := B.notSynchronized
  subst hsz
  have hD := hD0.self (sz := s.heap.size)
  generalize hAe : va_A [(x, .inr (12, xg)), (chA, .inl (chAC, (4, .inr (.inr (.inr (.inr chAF)))))), (ch0, .inr (2, ch0g)), (ch1, .inr (2, ch1g)), (ch2, .inr (2, ch2g)), (ch3, .inr (2, ch3g)), (oA, .inl (oAC, (1, .inr (.inl oAf))))] s.heap.size = A at hD hth ⊢
  have hA : ∀ q : Nat, s.heap.size ≤ q → A q := fun q h => by rw [← hAe]; exact Or.inr h
  have hS : va_S A s.heap s.heap [] := va_S.rf
  have hl := lv_entry ([.ref x, .int 2, .int 2]) (n := 3) (Nat.le_of_ble_eq_true rfl)
  rw [lg_entry_eq]
  generalize (lg_sl ([.ref x, .int 2, .int 2]) ++ List.replicate (3 - (lg_sl ([.ref x, .int 2, .int 2])).length) Slot.unset).toArray = ls at hl ⊢
  have hl : lv_has ls 3 [(0, .ref x), (1, .int 2), (2, .int 2)] := hl
  obtain ⟨H, eH⟩ : ∃ z, z = s.heap := ⟨_, rfl⟩
  have hP : va_P (dC, dI) CL [(x, .inr (12, xg)), (chA, .inl (chAC, (4, .inr (.inr (.inr (.inr chAF)))))), (ch0, .inr (2, ch0g)), (ch1, .inr (2, ch1g)), (ch2, .inr (2, ch2g)), (ch3, .inr (2, ch3g)), (oA, .inl (oAC, (1, .inr (.inl oAf))))] H := by rw [eH]; exact hP
  have hS : va_S A s.heap H [] := by rw [eH]; exact hS
  rw [← eH]
  refine lv_iload_n hx hb dX12_isThere_0 rfl (lv_at hl 1 rfl) ?_
  refine lv_if_lt (tgt := 13) hx hb dX12_isThere_1 (by decide) (fun c9 => ?_) (fun c9 => ?_)
  · first | exact absurd c9 (by decide +kernel) | exact absurd (by decide +kernel) c9
  refine lv_iload_n hx hb dX12_isThere_4 rfl (lv_at hl 1 rfl) ?_
  refine lv_iconst (v := 2) hx hb dX12_isThere_5 (by decide +kernel) ?_
  refine lv_icmp_gt (tgt := 13) hx hb dX12_isThere_6 (by decide) (fun c9 => ?_) (fun c9 => ?_)
  · first | exact absurd c9 (by decide +kernel) | exact absurd (by decide +kernel) c9
  refine lv_iconst (v := 1) hx hb dX12_isThere_9 (by decide +kernel) ?_
  refine lv_goto (tgt := 14) hx hb dX12_isThere_10 (by decide) ?_
  have hF0 : ∀ q, va_A [] H.size q → A q := fun q h => h.elim (fun ⟨k9, e9, h9⟩ => by simp at h9) (fun h9 => hA q (Nat.le_trans hS.1 h9))
  refine vx_callv (vx_runS (As := [.int 1]) (rest := []) ⟨hx, hb, hml, hown, hts⟩ (ct_X12_needRange l hlt H.size 1) (cwS 1 hts (gi_S wd_1328 wd_1329 wd_327 wd_1330) rfl rfl rfl (by decide +kernel) ⟨(Nat.le_of_ble_eq_true rfl), (Nat.le_of_ble_eq_true rfl)⟩) ⟨fun a U g mk q => ⟨q.1, q.2.1, th.moved (u := U) (U := U.calling g mk a) (Vm.Alike.refl U.vm) q.2.2⟩, fun U hU hW => ⟨rfl, by rw [hU], by rw [hU]; exact ((hth.kept hS.2.1).narrow hF0).moved hW.alike⟩⟩ rfl rfl hl.1 rfl (lv_room (Nat.le_of_ble_eq_true rfl)) dX12_isThere_14 ⟨(Nat.le_of_ble_eq_true rfl), (Nat.le_of_ble_eq_true rfl)⟩) hS (fun q _ h => hF0 q h) hF0 (fun q _ h => hF0 q h) (fun E ce q9 u t H1 locs ht hvm hp hB hz hk hS hce hcv hcl => absurd hp (by decide +kernel)) (fun u t H1 locs ht hvm hp hB hz hk hS => ?_)
  have hP : va_P (dC, dI) CL [(x, .inr (12, xg)), (chA, .inl (chAC, (4, .inr (.inr (.inr (.inr chAF)))))), (ch0, .inr (2, ch0g)), (ch1, .inr (2, ch1g)), (ch2, .inr (2, ch2g)), (ch3, .inr (2, ch3g)), (oA, .inl (oAC, (1, .inr (.inl oAf))))] H1 := hP.kept (fun k q h9 => hk _ (vx_lt hP h9) (fun h8 => h8.elim (fun ⟨k9, e9, h7⟩ => by simp at h7) (fun h7 => absurd (vx_lt hP h9) (Nat.not_lt.mpr h7))))
  generalize H1 = H at hP hS ⊢
  refine W.widen (k := 1) (n := 6) (Nat.le_of_ble_eq_true rfl) (Nat.le_of_ble_eq_true rfl) ?_
  refine lv_iload_n hx hb dX12_isThere_17 rfl (lv_at hl 1 rfl) ?_
  refine lv_if_ne (tgt := 49) hx hb dX12_isThere_18 (by decide) (fun c9 => ?_) (fun c9 => ?_)
  rotate_left
  · first | exact absurd c9 (by decide +kernel) | exact absurd (by decide +kernel) c9
  refine lv_iload_n hx hb dX12_isThere_49 rfl (lv_at hl 1 rfl) ?_
  refine lv_iconst (v := 1) hx hb dX12_isThere_50 (by decide +kernel) ?_
  refine lv_icmp_ne (tgt := 81) hx hb dX12_isThere_51 (by decide) (fun c9 => ?_) (fun c9 => ?_)
  rotate_left
  · first | exact absurd c9 (by decide +kernel) | exact absurd (by decide +kernel) c9
  refine lv_iload_n hx hb dX12_isThere_81 rfl (lv_at hl 2 rfl) ?_
  refine lv_if_lt (tgt := 106) hx hb dX12_isThere_82 (by decide) (fun c9 => ?_) (fun c9 => ?_)
  · first | exact absurd c9 (by decide +kernel) | exact absurd (by decide +kernel) c9
  refine lv_iload_n hx hb dX12_isThere_85 rfl (lv_at hl 2 rfl) ?_
  refine lv_iconst (v := 4) hx hb dX12_isThere_86 (by decide +kernel) ?_
  refine lv_icmp_ge (tgt := 106) hx hb dX12_isThere_87 (by decide) (fun c9 => ?_) (fun c9 => ?_)
  · first | exact absurd c9 (by decide +kernel) | exact absurd (by decide +kernel) c9
  refine lv_aload_n hx hb dX12_isThere_90 rfl (lv_at hl 0 rfl) ?_
  refine va_get (D := (dC, dI)) (ci := 12) (v := .ref chA) (C := RX12) (T := TX12) (N := 17) hx hb hts inX12 hown hK hP 0 rfl rfl 9 (by decide) (hts (.fieldLink RX12 78 "ChipFlow" "chips" "[LChipFlow$Chip;") wd_1187) (fun _ h9 => h9) (h_x.get 2 rfl) dX12_isThere_91 ?_
  refine lv_iload_n hx hb dX12_isThere_94 rfl (lv_at hl 2 rfl) ?_
  refine va_aldq hx hb hK hP 1 0 rfl rfl (vp_in_nI (n := 2) (N := 4) (by decide) (by decide)) dX12_isThere_95 ?_
  rw [show (2 : Int32).toNatClampNeg = 2 by decide +kernel, h_chA2]
  refine W.eq (g2 := F0 m 96 ls [.ref ch2]) rfl ?_
  refine va_get (D := (dC, dI)) (ci := 2) (v := .int 0) (C := RX2) (T := TX2) (N := 20) hx hb hts inX2 hown hK hP 4 rfl rfl 0 (by decide) (hts (.fieldLink RX12 161 "ChipFlow$Chip" "used" "Z") wd_1067) (fun _ h9 => h9) (h_ch2.get 0 rfl) dX12_isThere_96 ?_
  refine lv_if_eq (tgt := 106) hx hb dX12_isThere_99 (by decide) (fun c9 => ?_) (fun c9 => ?_)
  rotate_left
  · first | exact absurd c9 (by decide +kernel) | exact absurd (by decide +kernel) c9
  refine lv_iconst (v := 0) hx hb dX12_isThere_106 (by decide +kernel) ?_
  refine W.widen (k := 1) (n := 6) (Nat.le_of_ble_eq_true rfl) (Nat.le_of_ble_eq_true rfl) ?_
  exact W.zret (v := 0) hx hb hr rfl (fun t ht hW => ⟨⟨0, (), rfl, rfl, xg, ch0g, ch1g, ch2g, ch3g, oAf, h_x, h_ch0, h_ch1, h_ch2, h_ch3, h_oA, by rw [ht]; exact hP, va_K.moved hW.alike hK, hD⟩, hS.F ht⟩) hS.2.2 dX12_isThere_107
set_option maxHeartbeats 4000000 in
set_option maxRecDepth 100000 in
theorem gx136_L_isThere (l : Launch) (hlt : l.stackTraces = false) (dC : Nat → ClassId) (dI : Nat → Nat → Nat) (sz : Nat) (x chA ch0 ch1 ch2 ch3 oA deA liA : Nat) (xg : List Value) (h_x : fx xg 17 [(7, .ref deA), (8, .ref liA), (9, .ref chA)]) (chAC : ClassId) (chAF : Nat → Option Nat) (ch0g : List Value) (h_ch0 : fx ch0g 20 [(0, .int 0)]) (ch1g : List Value) (h_ch1 : fx ch1g 20 [(0, .int 0)]) (ch2g : List Value) (h_ch2 : fx ch2g 20 [(0, .int 0)]) (ch3g : List Value) (h_ch3 : fx ch3g 20 [(0, .int 0)]) (oAC : ClassId) (oAf : Nat → Int64) (h_oA : fa oAf []) (h_chA0 : chAF 0 = some ch0) (h_chA1 : chAF 1 = some ch1) (h_chA2 : chAF 2 = some ch2) (h_chA3 : chAF 3 = some ch3) : Met l yL_isThere (Cond.codeWith yL_isThere cL_isThere 5 (some .int) [(0, 17, 20, 19)] :: BG) ({ frames := 8, cells := 1, slots := 6, locals := 152 }) (va_Pc [.ref x, .int 2, .int 2, .ref oA] (fun U => U.heap.size = sz ∧ va_P (dC, dI) CL [(x, .inr (12, xg)), (chA, .inl (chAC, (4, .inr (.inr (.inr (.inr chAF)))))), (ch0, .inr (2, ch0g)), (ch1, .inr (2, ch1g)), (ch2, .inr (2, ch2g)), (ch3, .inr (2, ch3g)), (oA, .inl (oAC, (1, .inr (.inl oAf))))] U.heap ∧ va_K (dC, dI) CL [(chAC, .object "ChipFlow$Chip"), (oAC, .long)] U ∧ va_D (fun _ => True) [(x, .inr (12, xg)), (chA, .inl (chAC, (4, .inr (.inr (.inr (.inr chAF)))))), (ch0, .inr (2, ch0g)), (ch1, .inr (2, ch1g)), (ch2, .inr (2, ch2g)), (ch3, .inr (2, ch3g)), (oA, .inl (oAC, (1, .inr (.inl oAf))))] ∧ th (va_A [(x, .inr (12, xg)), (chA, .inl (chAC, (4, .inr (.inr (.inr (.inr chAF)))))), (ch0, .inr (2, ch0g)), (ch1, .inr (2, ch1g)), (ch2, .inr (2, ch2g)), (ch3, .inr (2, ch3g)), (oA, .inl (oAC, (1, .inr (.inl oAf))))] sz) U U.heap)) (va_Qi (fun (r : Int32) (_ : Unit) => r = 0) (fun _ t => ∃ (xy : List Value) (ch0y : List Value) (ch1y : List Value) (ch2y : List Value) (ch3y : List Value) (oAy : Nat → Int64), fx xy 17 [(7, .ref deA), (8, .ref liA), (9, .ref chA)] ∧ fx ch0y 20 [(0, .int 0)] ∧ fx ch1y 20 [(0, .int 0)] ∧ fx ch2y 20 [(0, .int 0)] ∧ fx ch3y 20 [(0, .int 0)] ∧ fa oAy [(0, 0)] ∧ va_P (dC, dI) CL [(x, .inr (12, xy)), (chA, .inl (chAC, (4, .inr (.inr (.inr (.inr chAF)))))), (ch0, .inr (2, ch0y)), (ch1, .inr (2, ch1y)), (ch2, .inr (2, ch2y)), (ch3, .inr (2, ch3y)), (oA, .inl (oAC, (1, .inr (.inl oAy))))] t.heap ∧ va_K (dC, dI) CL [(chAC, .object "ChipFlow$Chip"), (oAC, .long)] t ∧ va_D (va_A [(x, .inr (12, xg)), (chA, .inl (chAC, (4, .inr (.inr (.inr (.inr chAF)))))), (ch0, .inr (2, ch0g)), (ch1, .inr (2, ch1g)), (ch2, .inr (2, ch2g)), (ch3, .inr (2, ch3g)), (oA, .inl (oAC, (1, .inr (.inl oAf))))] sz) [(x, .inr (12, xy)), (chA, .inl (chAC, (4, .inr (.inr (.inr (.inr chAF)))))), (ch0, .inr (2, ch0y)), (ch1, .inr (2, ch1y)), (ch2, .inr (2, ch2y)), (ch3, .inr (2, ch3y)), (oA, .inl (oAC, (1, .inr (.inl oAy))))]) (va_A [(x, .inr (12, xg)), (chA, .inl (chAC, (4, .inr (.inr (.inr (.inr chAF)))))), (ch0, .inr (2, ch0g)), (ch1, .inr (2, ch1g)), (ch2, .inr (2, ch2g)), (ch3, .inr (2, ch3g)), (oA, .inl (oAC, (1, .inr (.inl oAf))))] sz)) 1 6 (va_A [(x, .inr (12, xg)), (chA, .inl (chAC, (4, .inr (.inr (.inr (.inr chAF)))))), (ch0, .inr (2, ch0g)), (ch1, .inr (2, ch1g)), (ch2, .inr (2, ch2g)), (ch3, .inr (2, ch3g)), (oA, .inl (oAC, (1, .inr (.inl oAf))))] sz) := by
  refine va_MetW (hh := [(0, 17, 20, 19)]) (cc := cL_isThere) (maxL := 5) (ret := (some .int)) (by decide) rfl ?_
  intro p e s m args below meth c s₁ B hml hv
  obtain ⟨rfl, hsz, hP, hK, hD0, hth⟩ := hv
  have hx := B.exec
  have hb := B.bytes
  have hr := B.returns
  have hts : ∀ w ∈ BG, w.before _ s = true := fun w h => atoms_spec (ws := Cond.codeWith yL_isThere cL_isThere 5 (some .int) [(0, 17, 20, 19)] :: BG) B.pre w (List.mem_cons_of_mem _ h)
  have hown : s.vm.findClass RL = some m.cls := findClass_of_methodNamed B.named
  have hlocks := B.notSynchronized
  subst hsz
  have hD := hD0.self (sz := s.heap.size)
  generalize hAe : va_A [(x, .inr (12, xg)), (chA, .inl (chAC, (4, .inr (.inr (.inr (.inr chAF)))))), (ch0, .inr (2, ch0g)), (ch1, .inr (2, ch1g)), (ch2, .inr (2, ch2g)), (ch3, .inr (2, ch3g)), (oA, .inl (oAC, (1, .inr (.inl oAf))))] s.heap.size = A at hD hth ⊢
  have hA : ∀ q : Nat, s.heap.size ≤ q → A q := fun q h => by rw [← hAe]; exact Or.inr h
  have hS : va_S A s.heap s.heap [] := va_S.rf
  have hl := lv_entry ([.ref x, .int 2, .int 2, .ref oA]) (n := 5) (Nat.le_of_ble_eq_true rfl)
  rw [lg_entry_eq]
  generalize (lg_sl ([.ref x, .int 2, .int 2, .ref oA]) ++ List.replicate (5 - (lg_sl ([.ref x, .int 2, .int 2, .ref oA])).length) Slot.unset).toArray = ls at hl ⊢
  have hl : lv_has ls 5 [(0, .ref x), (1, .int 2), (2, .int 2), (3, .ref oA)] := hl
  obtain ⟨H, eH⟩ : ∃ z, z = s.heap := ⟨_, rfl⟩
  have hP : va_P (dC, dI) CL [(x, .inr (12, xg)), (chA, .inl (chAC, (4, .inr (.inr (.inr (.inr chAF)))))), (ch0, .inr (2, ch0g)), (ch1, .inr (2, ch1g)), (ch2, .inr (2, ch2g)), (ch3, .inr (2, ch3g)), (oA, .inl (oAC, (1, .inr (.inl oAf))))] H := by rw [eH]; exact hP
  have hS : va_S A s.heap H [] := by rw [eH]; exact hS
  rw [← eH]
  have hT : c.exceptionTable.toList = tableOf [(0, 17, 20, 19)] := vx_table (x := yL_isThere) B (atoms_spec (ws := Cond.codeWith yL_isThere cL_isThere 5 (some .int) [(0, 17, 20, 19)] :: BG) B.pre _ List.mem_cons_self)
  refine lv_aload_n hx hb dL_isThere_0 rfl (lv_at hl 3 rfl) ?_
  refine lv_iconst (v := 0) hx hb dL_isThere_1 (by decide +kernel) ?_
  refine lv_aload_n hx hb dL_isThere_2 rfl (lv_at hl 0 rfl) ?_
  refine lv_iload_n hx hb dL_isThere_3 rfl (lv_at hl 1 rfl) ?_
  refine lv_iload_n hx hb dL_isThere_4 rfl (lv_at hl 2 rfl) ?_
  have hFc := va_free (wc := [(x, .inr (12, xg)), (chA, .inl (chAC, (4, .inr (.inr (.inr (.inr chAF)))))), (ch0, .inr (2, ch0g)), (ch1, .inr (2, ch1g)), (ch2, .inr (2, ch2g)), (ch3, .inr (2, ch3g)), (oA, .inl (oAC, (1, .inr (.inl oAf))))]) hD hS hA [0, 1, 2, 3, 4, 5, 6] rfl
  refine va_calli (va_runV (As := [.int 2, .int 2]) (rest := [.int 0, .ref oA]) ⟨hx, hb, hml, hown, hts⟩ (gx137_X12_isThere l hlt dC dI _ x chA ch0 ch1 ch2 ch3 oA deA liA xg h_x chAC chAF ch0g h_ch0 ch1g h_ch1 ch2g h_ch2 ch3g h_ch3 oAC oAf h_oA h_chA0 h_chA1 h_chA2 h_chA3) (cwV 2 hts (gi_V wd_1842 wd_1843 wd_1844 wd_327 wd_1845) rfl rfl rfl (by decide +kernel) ⟨(Nat.le_of_ble_eq_true rfl), (Nat.le_of_ble_eq_true rfl)⟩) ⟨fun a U g mk q => by obtain ⟨q0, q1, qP, qK, qD, qT⟩ := q; exact ⟨q0, q1, qP, va_K.moved (u := U) (U := U.calling g mk a) (Vm.Alike.refl U.vm) qK, qD, th.moved (u := U) (U := U.calling g mk a) (Vm.Alike.refl U.vm) qT⟩, va_recv hK hP (ci := 12) (q0 := 0) rfl rfl, fun U hU hW => ⟨rfl, by rw [hU], by rw [hU]; exact hP, va_K.moved hW.alike hK, hD.weaken (fun _ _ _ _ => trivial), by rw [hU]; exact ((hth.kept hS.2.1).narrow hFc).moved hW.alike⟩⟩ rfl rfl hl.1 rfl (lv_room (Nat.le_of_ble_eq_true rfl)) dL_isThere_5 ⟨(Nat.le_of_ble_eq_true rfl), (Nat.le_of_ble_eq_true rfl)⟩) hS (fun q _ h => hFc q h) hFc (fun r u t H1 locs ht hvm hw hB hz1 hk1 hS => ?_)
  subst hw
  obtain ⟨fs_1, fs_2, fs_3, fs_4, fs_5, f_6, h_x, h_ch0, h_ch1, h_ch2, h_ch3, h_oA, hP1, hK1, hD1⟩ := hB
  rw [ht] at hP1
  have hD := hD1.weaken (fun k q _ h => hFc q.1 h)
  have hP := hP1
  generalize H1 = H at hP hS ⊢
  have hP : va_P (dC, dI) CL [(x, .inr (12, fs_1)), (chA, .inl (chAC, (4, .inr (.inr (.inr (.inr chAF)))))), (ch0, .inr (2, fs_2)), (ch1, .inr (2, fs_3)), (ch2, .inr (2, fs_4)), (ch3, .inr (2, fs_5)), (oA, .inl (oAC, (1, .inr (.inl f_6))))] H := hP
  have hD : va_D A [(x, .inr (12, fs_1)), (chA, .inl (chAC, (4, .inr (.inr (.inr (.inr chAF)))))), (ch0, .inr (2, fs_2)), (ch1, .inr (2, fs_3)), (ch2, .inr (2, fs_4)), (ch3, .inr (2, fs_5)), (oA, .inl (oAC, (1, .inr (.inl f_6))))] := hD
  refine W.widen (k := 1) (n := 6) (Nat.le_of_ble_eq_true rfl) (Nat.le_of_ble_eq_true rfl) ?_
  refine lv_if_eq (tgt := 15) hx hb dL_isThere_8 (by decide) (fun c9 => ?_) (fun c9 => ?_)
  rotate_left
  · first | exact absurd c9 (by decide +kernel) | exact absurd (by decide +kernel) c9
  refine lv_lconst (v := 0) hx hb dL_isThere_15 (by decide) ?_
  refine va_last hx hb hK hP hD hS 6 1 rfl rfl (vp_in_nI (n := 0) (N := 1) (by decide) (by decide)) dL_isThere_16 (fun H locs hP hD hS => ?_)
  obtain ⟨f_7, e9⟩ : ∃ z, z = vp_updL f_6 (0 : Int32).toNatClampNeg 0 := ⟨_, rfl⟩
  have h_oA : fa f_7 [(0, 0)] := by rw [e9, show (0 : Int32).toNatClampNeg = 0 by decide +kernel]; exact (fa.putL h_oA).sub [0] rfl
  have hP : va_P (dC, dI) CL [(x, .inr (12, fs_1)), (chA, .inl (chAC, (4, .inr (.inr (.inr (.inr chAF)))))), (ch0, .inr (2, fs_2)), (ch1, .inr (2, fs_3)), (ch2, .inr (2, fs_4)), (ch3, .inr (2, fs_5)), (oA, .inl (oAC, (1, .inr (.inl f_7))))] H := by rw [e9]; exact hP
  have hD : va_D A [(x, .inr (12, fs_1)), (chA, .inl (chAC, (4, .inr (.inr (.inr (.inr chAF)))))), (ch0, .inr (2, fs_2)), (ch1, .inr (2, fs_3)), (ch2, .inr (2, fs_4)), (ch3, .inr (2, fs_5)), (oA, .inl (oAC, (1, .inr (.inl f_7))))] := by rw [e9]; exact hD
  clear e9
  refine lv_goto (tgt := 24) hx hb dL_isThere_17 (by decide) ?_
  refine lv_iconst (v := 0) hx hb dL_isThere_24 (by decide +kernel) ?_
  refine W.widen (k := 1) (n := 6) (Nat.le_of_ble_eq_true rfl) (Nat.le_of_ble_eq_true rfl) ?_
  exact W.iret (v := 0) hx hb hr (fun t ht hW => ⟨⟨0, (), rfl, rfl, fs_1, fs_2, fs_3, fs_4, fs_5, f_7, h_x, h_ch0, h_ch1, h_ch2, h_ch3, h_oA, by rw [ht]; exact hP, va_K.moved hW.alike hK, hD⟩, hS.F ht⟩) hS.2.2 dL_isThere_25
set_option maxHeartbeats 4000000 in
set_option maxRecDepth 100000 in
theorem gx139_X13_isOne (l : Launch) (hlt : l.stackTraces = false) (dC : Nat → ClassId) (dI : Nat → Nat → Nat) (sz : Nat) (m0 mch md ml : Nat) (m0g : List Value) (h_m0 : fx m0g 225 [(0, .int 0), (2, .int 0), (3, .int 0), (9, .int 0), (10, .int 0), (11, .int 0), (12, .int 0), (27, .int 0), (55, .ref md), (79, .int 0), (83, .int 0), (88, .ref ml), (95, .int 0), (138, .ref mch)]) (mchC : ClassId) : Met l yX13_isOne (Cond.code yX13_isOne cX13_isOne 3 (some .boolean) :: BG) ({ frames := 2, cells := 0, slots := 0, locals := 33 }) (va_Pc [.ref m0, .int 2, .int 2] (fun U => U.heap.size = sz ∧ va_P (dC, dI) CL [(m0, .inr (13, m0g)), (mch, .inl (mchC, (4, .inl (fun _ => 0))))] U.heap ∧ va_K (dC, dI) CL [(mchC, .boolean)] U ∧ va_D (fun _ => True) [(m0, .inr (13, m0g)), (mch, .inl (mchC, (4, .inl (fun _ => 0))))] ∧ th (va_A [(m0, .inr (13, m0g)), (mch, .inl (mchC, (4, .inl (fun _ => 0))))] sz) U U.heap)) (va_Qi (fun (r : Int32) (_ : Unit) => r = 0) (fun _ t => ∃ (m0y : List Value), fx m0y 225 [(0, .int 0), (2, .int 0), (3, .int 0), (9, .int 0), (10, .int 0), (11, .int 0), (12, .int 0), (27, .int 0), (55, .ref md), (79, .int 0), (83, .int 0), (88, .ref ml), (95, .int 0), (138, .ref mch)] ∧ va_P (dC, dI) CL [(m0, .inr (13, m0y)), (mch, .inl (mchC, (4, .inl (fun _ => 0))))] t.heap ∧ va_K (dC, dI) CL [(mchC, .boolean)] t ∧ va_D (va_A [(m0, .inr (13, m0g)), (mch, .inl (mchC, (4, .inl (fun _ => 0))))] sz) [(m0, .inr (13, m0y)), (mch, .inl (mchC, (4, .inl (fun _ => 0))))]) (va_A [(m0, .inr (13, m0g)), (mch, .inl (mchC, (4, .inl (fun _ => 0))))] sz)) 0 0 (va_A [(m0, .inr (13, m0g)), (mch, .inl (mchC, (4, .inl (fun _ => 0))))] sz) := by
  refine Met.ofW (cc := cX13_isOne) (maxL := 3) (ret := (some .boolean)) (by decide) rfl ?_
  intro p e s m args below meth c s₁ B hml hv
  obtain ⟨rfl, hsz, hP, hK, hD0, hth⟩ := hv
  have hx := B.exec
  have hb := B.bytes
  have hr := B.returns
  have hts : ∀ w ∈ BG, w.before _ s = true := fun w h => atoms_spec (ws := Cond.code yX13_isOne cX13_isOne 3 (some .boolean) :: BG) B.pre w (List.mem_cons_of_mem _ h)
  have hown : s.vm.findClass RX13 = some m.cls := findClass_of_methodNamed B.named
  have hlocks := B.notSynchronized
  subst hsz
  have hD := hD0.self (sz := s.heap.size)
  generalize hAe : va_A [(m0, .inr (13, m0g)), (mch, .inl (mchC, (4, .inl (fun _ => 0))))] s.heap.size = A at hD hth ⊢
  have hA : ∀ q : Nat, s.heap.size ≤ q → A q := fun q h => by rw [← hAe]; exact Or.inr h
  have hS : va_S A s.heap s.heap [] := va_S.rf
  have hl := lv_entry ([.ref m0, .int 2, .int 2]) (n := 3) (Nat.le_of_ble_eq_true rfl)
  rw [lg_entry_eq]
  generalize (lg_sl ([.ref m0, .int 2, .int 2]) ++ List.replicate (3 - (lg_sl ([.ref m0, .int 2, .int 2])).length) Slot.unset).toArray = ls at hl ⊢
  have hl : lv_has ls 3 [(0, .ref m0), (1, .int 2), (2, .int 2)] := hl
  obtain ⟨H, eH⟩ : ∃ z, z = s.heap := ⟨_, rfl⟩
  have hP : va_P (dC, dI) CL [(m0, .inr (13, m0g)), (mch, .inl (mchC, (4, .inl (fun _ => 0))))] H := by rw [eH]; exact hP
  have hS : va_S A s.heap H [] := by rw [eH]; exact hS
  rw [← eH]
  refine lv_iload_n hx hb dX13_isOne_0 rfl (lv_at hl 1 rfl) ?_
  refine lv_if_ne (tgt := 12) hx hb dX13_isOne_1 (by decide) (fun c9 => ?_) (fun c9 => ?_)
  rotate_left
  · first | exact absurd c9 (by decide +kernel) | exact absurd (by decide +kernel) c9
  refine lv_iload_n hx hb dX13_isOne_12 rfl (lv_at hl 1 rfl) ?_
  refine lv_iconst (v := 1) hx hb dX13_isOne_13 (by decide +kernel) ?_
  refine lv_icmp_ne (tgt := 25) hx hb dX13_isOne_14 (by decide) (fun c9 => ?_) (fun c9 => ?_)
  rotate_left
  · first | exact absurd c9 (by decide +kernel) | exact absurd (by decide +kernel) c9
  refine lv_aload_n hx hb dX13_isOne_25 rfl (lv_at hl 0 rfl) ?_
  refine lv_iload_n hx hb dX13_isOne_26 rfl (lv_at hl 2 rfl) ?_
  have hFc := va_free (wc := [(m0, .inr (13, m0g)), (mch, .inl (mchC, (4, .inl (fun _ => 0))))]) hD hS hA [0, 1] rfl
  refine va_calli (va_runV (As := [.int 2]) (rest := []) ⟨hx, hb, hml, hown, hts⟩ (ct_X13_isChip l dC dI _ 2 m0 m0g mch mchC (h_m0.sub [13] rfl)) (cwV 1 hts (gi_V wd_4084 wd_4086 wd_217 wd_340 wd_4087) rfl rfl rfl (by decide +kernel) ⟨(Nat.le_of_ble_eq_true rfl), (Nat.le_of_ble_eq_true rfl)⟩) ⟨fun a U g mk q => by obtain ⟨q0, q1, qP, qK, qD⟩ := q; exact ⟨q0, q1, qP, va_K.moved (u := U) (U := U.calling g mk a) (Vm.Alike.refl U.vm) qK, qD⟩, va_recv hK hP (ci := 13) (q0 := 0) rfl rfl, fun U hU hW => ⟨rfl, by rw [hU], by rw [hU]; exact hP, va_K.moved hW.alike hK, hD.weaken (fun _ _ _ _ => trivial)⟩⟩ rfl rfl hl.1 rfl (lv_room (Nat.le_of_ble_eq_true rfl)) dX13_isOne_27 ⟨(Nat.le_of_ble_eq_true rfl), (Nat.le_of_ble_eq_true rfl)⟩) hS (fun q _ h => hFc q h) hFc (fun r u t H1 locs ht hvm hw hB hz1 hk1 hS => ?_)
  subst hw
  obtain ⟨hP1, hK1, hD1⟩ := hB
  rw [ht] at hP1
  have hD := hD1.weaken (fun k q _ h => hFc q.1 h)
  have hP := hP1
  generalize H1 = H at hP hS ⊢
  have hP : va_P (dC, dI) CL [(m0, .inr (13, m0g)), (mch, .inl (mchC, (4, .inl (fun _ => 0))))] H := hP
  have hD : va_D A [(m0, .inr (13, m0g)), (mch, .inl (mchC, (4, .inl (fun _ => 0))))] := hD
  exact W.zret (v := 0) hx hb hr rfl (fun t ht hW => ⟨⟨0, (), rfl, rfl, m0g, h_m0, by rw [ht]; exact hP, va_K.moved hW.alike hK, hD⟩, hS.F ht⟩) hS.2.2 dX13_isOne_30
set_option maxHeartbeats 4000000 in
set_option maxRecDepth 100000 in
theorem gx138_X13_isThere (l : Launch) (hlt : l.stackTraces = false) (dC : Nat → ClassId) (dI : Nat → Nat → Nat) (sz : Nat) (m0 mch md ml : Nat) (m0g : List Value) (h_m0 : fx m0g 225 [(0, .int 0), (2, .int 0), (3, .int 0), (9, .int 0), (10, .int 0), (11, .int 0), (12, .int 0), (27, .int 0), (55, .ref md), (79, .int 0), (83, .int 0), (88, .ref ml), (95, .int 0), (138, .ref mch)]) (mchC : ClassId) : Met l yX13_isThere (Cond.code yX13_isThere cX13_isThere 3 (some .boolean) :: BG) ({ frames := 3, cells := 0, slots := 0, locals := 55 }) (va_Pc [.ref m0, .int 2, .int 2] (fun U => U.heap.size = sz ∧ va_P (dC, dI) CL [(m0, .inr (13, m0g)), (mch, .inl (mchC, (4, .inl (fun _ => 0))))] U.heap ∧ va_K (dC, dI) CL [(mchC, .boolean)] U ∧ va_D (fun _ => True) [(m0, .inr (13, m0g)), (mch, .inl (mchC, (4, .inl (fun _ => 0))))] ∧ th (va_A [(m0, .inr (13, m0g)), (mch, .inl (mchC, (4, .inl (fun _ => 0))))] sz) U U.heap)) (va_Qi (fun (r : Int32) (_ : Unit) => r = 0) (fun _ t => ∃ (m0y : List Value), fx m0y 225 [(0, .int 0), (2, .int 0), (3, .int 0), (9, .int 0), (10, .int 0), (11, .int 0), (12, .int 0), (27, .int 0), (55, .ref md), (79, .int 0), (83, .int 0), (88, .ref ml), (95, .int 0), (138, .ref mch)] ∧ va_P (dC, dI) CL [(m0, .inr (13, m0y)), (mch, .inl (mchC, (4, .inl (fun _ => 0))))] t.heap ∧ va_K (dC, dI) CL [(mchC, .boolean)] t ∧ va_D (va_A [(m0, .inr (13, m0g)), (mch, .inl (mchC, (4, .inl (fun _ => 0))))] sz) [(m0, .inr (13, m0y)), (mch, .inl (mchC, (4, .inl (fun _ => 0))))]) (va_A [(m0, .inr (13, m0g)), (mch, .inl (mchC, (4, .inl (fun _ => 0))))] sz)) 0 0 (va_A [(m0, .inr (13, m0g)), (mch, .inl (mchC, (4, .inl (fun _ => 0))))] sz) := by
  refine Met.ofW (cc := cX13_isThere) (maxL := 3) (ret := (some .boolean)) (by decide) rfl ?_
  intro p e s m args below meth c s₁ B hml hv
  obtain ⟨rfl, hsz, hP, hK, hD0, hth⟩ := hv
  have hx := B.exec
  have hb := B.bytes
  have hr := B.returns
  have hts : ∀ w ∈ BG, w.before _ s = true := fun w h => atoms_spec (ws := Cond.code yX13_isThere cX13_isThere 3 (some .boolean) :: BG) B.pre w (List.mem_cons_of_mem _ h)
  have hown : s.vm.findClass RX13 = some m.cls := findClass_of_methodNamed B.named
  have hlocks := B.notSynchronized
  subst hsz
  have hD := hD0.self (sz := s.heap.size)
  generalize hAe : va_A [(m0, .inr (13, m0g)), (mch, .inl (mchC, (4, .inl (fun _ => 0))))] s.heap.size = A at hD hth ⊢
  have hA : ∀ q : Nat, s.heap.size ≤ q → A q := fun q h => by rw [← hAe]; exact Or.inr h
  have hS : va_S A s.heap s.heap [] := va_S.rf
  have hl := lv_entry ([.ref m0, .int 2, .int 2]) (n := 3) (Nat.le_of_ble_eq_true rfl)
  rw [lg_entry_eq]
  generalize (lg_sl ([.ref m0, .int 2, .int 2]) ++ List.replicate (3 - (lg_sl ([.ref m0, .int 2, .int 2])).length) Slot.unset).toArray = ls at hl ⊢
  have hl : lv_has ls 3 [(0, .ref m0), (1, .int 2), (2, .int 2)] := hl
  obtain ⟨H, eH⟩ : ∃ z, z = s.heap := ⟨_, rfl⟩
  have hP : va_P (dC, dI) CL [(m0, .inr (13, m0g)), (mch, .inl (mchC, (4, .inl (fun _ => 0))))] H := by rw [eH]; exact hP
  have hS : va_S A s.heap H [] := by rw [eH]; exact hS
  rw [← eH]
  refine lv_aload_n hx hb dX13_isThere_0 rfl (lv_at hl 0 rfl) ?_
  refine lv_iload_n hx hb dX13_isThere_1 rfl (lv_at hl 1 rfl) ?_
  refine lv_iconst (v := 0) hx hb dX13_isThere_2 (by decide +kernel) ?_
  refine lv_iconst (v := 2) hx hb dX13_isThere_3 (by decide +kernel) ?_
  have hFc := va_free (wc := [(m0, .inr (13, m0g)), (mch, .inl (mchC, (4, .inl (fun _ => 0))))]) hD hS hA [0, 1] rfl
  refine va_calli (va_runS (As := [.int 2, .int 0, .int 2]) (rest := [.ref m0]) ⟨hx, hb, hml, hown, hts⟩ (gx59_X13_within l hlt dC dI _ m0 mch md ml m0g h_m0 mchC) (cwS 3 hts (gi_S wd_3825 wd_3826 wd_340 wd_3827) rfl rfl rfl (by decide +kernel) ⟨(Nat.le_of_ble_eq_true rfl), (Nat.le_of_ble_eq_true rfl)⟩) ⟨fun a U g mk q => by obtain ⟨q0, q1, qP, qK, qD, qT⟩ := q; exact ⟨q0, q1, qP, va_K.moved (u := U) (U := U.calling g mk a) (Vm.Alike.refl U.vm) qK, qD, th.moved (u := U) (U := U.calling g mk a) (Vm.Alike.refl U.vm) qT⟩, fun U hU hW => ⟨rfl, by rw [hU], by rw [hU]; exact hP, va_K.moved hW.alike hK, hD.weaken (fun _ _ _ _ => trivial), by rw [hU]; exact ((hth.kept hS.2.1).narrow hFc).moved hW.alike⟩⟩ rfl rfl hl.1 rfl (lv_room (Nat.le_of_ble_eq_true rfl)) dX13_isThere_4 ⟨(Nat.le_of_ble_eq_true rfl), (Nat.le_of_ble_eq_true rfl)⟩) hS (fun q _ h => hFc q h) hFc (fun r u t H1 locs ht hvm hw hB hz1 hk1 hS => ?_)
  subst hw
  obtain ⟨fs_1, h_m0, hP1, hK1, hD1⟩ := hB
  rw [ht] at hP1
  have hD := hD1.weaken (fun k q _ h => hFc q.1 h)
  have hP := hP1
  generalize H1 = H at hP hS ⊢
  have hP : va_P (dC, dI) CL [(m0, .inr (13, fs_1)), (mch, .inl (mchC, (4, .inl (fun _ => 0))))] H := hP
  have hD : va_D A [(m0, .inr (13, fs_1)), (mch, .inl (mchC, (4, .inl (fun _ => 0))))] := hD
  refine lv_if_eq (tgt := 14) hx hb dX13_isThere_7 (by decide) (fun c9 => ?_) (fun c9 => ?_)
  · first | exact absurd c9 (by decide +kernel) | exact absurd (by decide +kernel) c9
  refine lv_iconst (v := 0) hx hb dX13_isThere_10 (by decide +kernel) ?_
  refine lv_goto (tgt := 15) hx hb dX13_isThere_11 (by decide) ?_
  refine va_put (D := (dC, dI)) (ci := 13) (v := .int 0) (ty := tyX13 0) (C := RX13) (T := TX13) (N := 225) hx hb hts inX13 tyX13 tyX13_ok nmX13 hown hK hP hD hS 0 rfl rfl 0 (by decide) (hts (.fieldLink RX13 1 "ChipFlowModel" "code" "I") wd_3032) (fun _ h9 => h9) rfl (by decide +kernel) rfl rfl (by rw [h_m0.1]; decide) dX13_isThere_15 (fun H locs hP hD hS => ?_)
  obtain ⟨fs_2, e9⟩ : ∃ z, z = fs_1.set 0 (.int 0) := ⟨_, rfl⟩
  have h_m0 : fx fs_2 225 [(0, .int 0), (2, .int 0), (3, .int 0), (9, .int 0), (10, .int 0), (11, .int 0), (12, .int 0), (27, .int 0), (55, .ref md), (79, .int 0), (83, .int 0), (88, .ref ml), (95, .int 0), (138, .ref mch)] := by rw [e9]; exact (h_m0.put (F' := [(0, .int 0), (2, .int 0), (3, .int 0), (9, .int 0), (10, .int 0), (11, .int 0), (12, .int 0), (27, .int 0), (55, .ref md), (79, .int 0), (83, .int 0), (88, .ref ml), (95, .int 0), (138, .ref mch)]) (by decide) _ rfl).sub [0, 1, 2, 3, 4, 5, 6, 7, 8, 9, 10, 11, 12, 13] rfl
  have hP : va_P (dC, dI) CL [(m0, .inr (13, fs_2)), (mch, .inl (mchC, (4, .inl (fun _ => 0))))] H := by rw [e9]; exact hP
  have hD : va_D A [(m0, .inr (13, fs_2)), (mch, .inl (mchC, (4, .inl (fun _ => 0))))] := by rw [e9]; exact hD
  clear e9
  refine lv_aload_n hx hb dX13_isThere_18 rfl (lv_at hl 0 rfl) ?_
  refine va_get (D := (dC, dI)) (ci := 13) (v := .int 0) (C := RX13) (T := TX13) (N := 225) hx hb hts inX13 hown hK hP 0 rfl rfl 0 (by decide) (hts (.fieldLink RX13 1 "ChipFlowModel" "code" "I") wd_3032) (fun _ h9 => h9) (h_m0.get 0 rfl) dX13_isThere_19 ?_
  refine lv_if_ne (tgt := 38) hx hb dX13_isThere_22 (by decide) (fun c9 => ?_) (fun c9 => ?_)
  · first | exact absurd c9 (by decide +kernel) | exact absurd (by decide +kernel) c9
  refine lv_aload_n hx hb dX13_isThere_25 rfl (lv_at hl 0 rfl) ?_
  refine lv_iload_n hx hb dX13_isThere_26 rfl (lv_at hl 1 rfl) ?_
  refine lv_iload_n hx hb dX13_isThere_27 rfl (lv_at hl 2 rfl) ?_
  have hFc := va_free (wc := [(m0, .inr (13, fs_2)), (mch, .inl (mchC, (4, .inl (fun _ => 0))))]) hD hS hA [0, 1] rfl
  refine va_calli (va_runV (As := [.int 2, .int 2]) (rest := []) ⟨hx, hb, hml, hown, hts⟩ (gx139_X13_isOne l hlt dC dI _ m0 mch md ml fs_2 h_m0 mchC) (cwV 2 hts (gi_V wd_4072 wd_4074 wd_214 wd_340 wd_4075) rfl rfl rfl (by decide +kernel) ⟨(Nat.le_of_ble_eq_true rfl), (Nat.le_of_ble_eq_true rfl)⟩) ⟨fun a U g mk q => by obtain ⟨q0, q1, qP, qK, qD, qT⟩ := q; exact ⟨q0, q1, qP, va_K.moved (u := U) (U := U.calling g mk a) (Vm.Alike.refl U.vm) qK, qD, th.moved (u := U) (U := U.calling g mk a) (Vm.Alike.refl U.vm) qT⟩, va_recv hK hP (ci := 13) (q0 := 0) rfl rfl, fun U hU hW => ⟨rfl, by rw [hU], by rw [hU]; exact hP, va_K.moved hW.alike hK, hD.weaken (fun _ _ _ _ => trivial), by rw [hU]; exact ((hth.kept hS.2.1).narrow hFc).moved hW.alike⟩⟩ rfl rfl hl.1 rfl (lv_room (Nat.le_of_ble_eq_true rfl)) dX13_isThere_28 ⟨(Nat.le_of_ble_eq_true rfl), (Nat.le_of_ble_eq_true rfl)⟩) hS (fun q _ h => hFc q h) hFc (fun r u t H1 locs ht hvm hw hB hz1 hk1 hS => ?_)
  subst hw
  obtain ⟨fs_3, h_m0, hP1, hK1, hD1⟩ := hB
  rw [ht] at hP1
  have hD := hD1.weaken (fun k q _ h => hFc q.1 h)
  have hP := hP1
  generalize H1 = H at hP hS ⊢
  have hP : va_P (dC, dI) CL [(m0, .inr (13, fs_3)), (mch, .inl (mchC, (4, .inl (fun _ => 0))))] H := hP
  have hD : va_D A [(m0, .inr (13, fs_3)), (mch, .inl (mchC, (4, .inl (fun _ => 0))))] := hD
  refine lv_if_eq (tgt := 38) hx hb dX13_isThere_31 (by decide) (fun c9 => ?_) (fun c9 => ?_)
  rotate_left
  · first | exact absurd c9 (by decide +kernel) | exact absurd (by decide +kernel) c9
  refine lv_iconst (v := 0) hx hb dX13_isThere_38 (by decide +kernel) ?_
  exact W.zret (v := 0) hx hb hr rfl (fun t ht hW => ⟨⟨0, (), rfl, rfl, fs_3, h_m0, by rw [ht]; exact hP, va_K.moved hW.alike hK, hD⟩, hS.F ht⟩) hS.2.2 dX13_isThere_39
set_option maxHeartbeats 4000000 in
set_option maxRecDepth 100000 in
theorem gx141_X12_isThere (l : Launch) (hlt : l.stackTraces = false) (dC : Nat → ClassId) (dI : Nat → Nat → Nat) (sz : Nat) (x chA ch0 ch1 ch2 ch3 oA deA liA : Nat) (xg : List Value) (h_x : fx xg 17 [(7, .ref deA), (8, .ref liA), (9, .ref chA)]) (chAC : ClassId) (chAF : Nat → Option Nat) (ch0g : List Value) (h_ch0 : fx ch0g 20 [(0, .int 0)]) (ch1g : List Value) (h_ch1 : fx ch1g 20 [(0, .int 0)]) (ch2g : List Value) (h_ch2 : fx ch2g 20 [(0, .int 0)]) (ch3g : List Value) (h_ch3 : fx ch3g 20 [(0, .int 0)]) (oAC : ClassId) (oAf : Nat → Int64) (h_oA : fa oAf []) (h_chA0 : chAF 0 = some ch0) (h_chA1 : chAF 1 = some ch1) (h_chA2 : chAF 2 = some ch2) (h_chA3 : chAF 3 = some ch3) : Met l yX12_isThere (Cond.code yX12_isThere cX12_isThere 3 (some .boolean) :: BG) ({ frames := 7, cells := 1, slots := 6, locals := 130 }) (va_Pc [.ref x, .int 2, .int 3] (fun U => U.heap.size = sz ∧ va_P (dC, dI) CL [(x, .inr (12, xg)), (chA, .inl (chAC, (4, .inr (.inr (.inr (.inr chAF)))))), (ch0, .inr (2, ch0g)), (ch1, .inr (2, ch1g)), (ch2, .inr (2, ch2g)), (ch3, .inr (2, ch3g)), (oA, .inl (oAC, (1, .inr (.inl oAf))))] U.heap ∧ va_K (dC, dI) CL [(chAC, .object "ChipFlow$Chip"), (oAC, .long)] U ∧ va_D (fun _ => True) [(x, .inr (12, xg)), (chA, .inl (chAC, (4, .inr (.inr (.inr (.inr chAF)))))), (ch0, .inr (2, ch0g)), (ch1, .inr (2, ch1g)), (ch2, .inr (2, ch2g)), (ch3, .inr (2, ch3g)), (oA, .inl (oAC, (1, .inr (.inl oAf))))] ∧ th (va_A [(x, .inr (12, xg)), (chA, .inl (chAC, (4, .inr (.inr (.inr (.inr chAF)))))), (ch0, .inr (2, ch0g)), (ch1, .inr (2, ch1g)), (ch2, .inr (2, ch2g)), (ch3, .inr (2, ch3g)), (oA, .inl (oAC, (1, .inr (.inl oAf))))] sz) U U.heap)) (va_Qi (fun (r : Int32) (_ : Unit) => r = 0) (fun _ t => ∃ (xy : List Value) (ch0y : List Value) (ch1y : List Value) (ch2y : List Value) (ch3y : List Value) (oAy : Nat → Int64), fx xy 17 [(7, .ref deA), (8, .ref liA), (9, .ref chA)] ∧ fx ch0y 20 [(0, .int 0)] ∧ fx ch1y 20 [(0, .int 0)] ∧ fx ch2y 20 [(0, .int 0)] ∧ fx ch3y 20 [(0, .int 0)] ∧ fa oAy [] ∧ va_P (dC, dI) CL [(x, .inr (12, xy)), (chA, .inl (chAC, (4, .inr (.inr (.inr (.inr chAF)))))), (ch0, .inr (2, ch0y)), (ch1, .inr (2, ch1y)), (ch2, .inr (2, ch2y)), (ch3, .inr (2, ch3y)), (oA, .inl (oAC, (1, .inr (.inl oAy))))] t.heap ∧ va_K (dC, dI) CL [(chAC, .object "ChipFlow$Chip"), (oAC, .long)] t ∧ va_D (va_A [(x, .inr (12, xg)), (chA, .inl (chAC, (4, .inr (.inr (.inr (.inr chAF)))))), (ch0, .inr (2, ch0g)), (ch1, .inr (2, ch1g)), (ch2, .inr (2, ch2g)), (ch3, .inr (2, ch3g)), (oA, .inl (oAC, (1, .inr (.inl oAf))))] sz) [(x, .inr (12, xy)), (chA, .inl (chAC, (4, .inr (.inr (.inr (.inr chAF)))))), (ch0, .inr (2, ch0y)), (ch1, .inr (2, ch1y)), (ch2, .inr (2, ch2y)), (ch3, .inr (2, ch3y)), (oA, .inl (oAC, (1, .inr (.inl oAy))))]) (va_A [(x, .inr (12, xg)), (chA, .inl (chAC, (4, .inr (.inr (.inr (.inr chAF)))))), (ch0, .inr (2, ch0g)), (ch1, .inr (2, ch1g)), (ch2, .inr (2, ch2g)), (ch3, .inr (2, ch3g)), (oA, .inl (oAC, (1, .inr (.inl oAf))))] sz)) 1 6 (va_A [(x, .inr (12, xg)), (chA, .inl (chAC, (4, .inr (.inr (.inr (.inr chAF)))))), (ch0, .inr (2, ch0g)), (ch1, .inr (2, ch1g)), (ch2, .inr (2, ch2g)), (ch3, .inr (2, ch3g)), (oA, .inl (oAC, (1, .inr (.inl oAf))))] sz) := by
  refine Met.ofW (cc := cX12_isThere) (maxL := 3) (ret := (some .boolean)) (by decide) rfl ?_
  intro p e s m args below meth c s₁ B hml hv
  obtain ⟨rfl, hsz, hP, hK, hD0, hth⟩ := hv
  have hx := B.exec
  have hb := B.bytes
  have hr := B.returns
  have hts : ∀ w ∈ BG, w.before _ s = true := fun w h => atoms_spec (ws := Cond.code yX12_isThere cX12_isThere 3 (some .boolean) :: BG) B.pre w (List.mem_cons_of_mem _ h)
  have hown : s.vm.findClass RX12 = some m.cls := findClass_of_methodNamed B.named
  have hlocks := B.notSynchronized
  subst hsz
  have hD := hD0.self (sz := s.heap.size)
  generalize hAe : va_A [(x, .inr (12, xg)), (chA, .inl (chAC, (4, .inr (.inr (.inr (.inr chAF)))))), (ch0, .inr (2, ch0g)), (ch1, .inr (2, ch1g)), (ch2, .inr (2, ch2g)), (ch3, .inr (2, ch3g)), (oA, .inl (oAC, (1, .inr (.inl oAf))))] s.heap.size = A at hD hth ⊢
  have hA : ∀ q : Nat, s.heap.size ≤ q → A q := fun q h => by rw [← hAe]; exact Or.inr h
  have hS : va_S A s.heap s.heap [] := va_S.rf
  have hl := lv_entry ([.ref x, .int 2, .int 3]) (n := 3) (Nat.le_of_ble_eq_true rfl)
  rw [lg_entry_eq]
  generalize (lg_sl ([.ref x, .int 2, .int 3]) ++ List.replicate (3 - (lg_sl ([.ref x, .int 2, .int 3])).length) Slot.unset).toArray = ls at hl ⊢
  have hl : lv_has ls 3 [(0, .ref x), (1, .int 2), (2, .int 3)] := hl
  obtain ⟨H, eH⟩ : ∃ z, z = s.heap := ⟨_, rfl⟩
  have hP : va_P (dC, dI) CL [(x, .inr (12, xg)), (chA, .inl (chAC, (4, .inr (.inr (.inr (.inr chAF)))))), (ch0, .inr (2, ch0g)), (ch1, .inr (2, ch1g)), (ch2, .inr (2, ch2g)), (ch3, .inr (2, ch3g)), (oA, .inl (oAC, (1, .inr (.inl oAf))))] H := by rw [eH]; exact hP
  have hS : va_S A s.heap H [] := by rw [eH]; exact hS
  rw [← eH]
  refine lv_iload_n hx hb dX12_isThere_0 rfl (lv_at hl 1 rfl) ?_
  refine lv_if_lt (tgt := 13) hx hb dX12_isThere_1 (by decide) (fun c9 => ?_) (fun c9 => ?_)
  · first | exact absurd c9 (by decide +kernel) | exact absurd (by decide +kernel) c9
  refine lv_iload_n hx hb dX12_isThere_4 rfl (lv_at hl 1 rfl) ?_
  refine lv_iconst (v := 2) hx hb dX12_isThere_5 (by decide +kernel) ?_
  refine lv_icmp_gt (tgt := 13) hx hb dX12_isThere_6 (by decide) (fun c9 => ?_) (fun c9 => ?_)
  · first | exact absurd c9 (by decide +kernel) | exact absurd (by decide +kernel) c9
  refine lv_iconst (v := 1) hx hb dX12_isThere_9 (by decide +kernel) ?_
  refine lv_goto (tgt := 14) hx hb dX12_isThere_10 (by decide) ?_
  have hF0 : ∀ q, va_A [] H.size q → A q := fun q h => h.elim (fun ⟨k9, e9, h9⟩ => by simp at h9) (fun h9 => hA q (Nat.le_trans hS.1 h9))
  refine vx_callv (vx_runS (As := [.int 1]) (rest := []) ⟨hx, hb, hml, hown, hts⟩ (ct_X12_needRange l hlt H.size 1) (cwS 1 hts (gi_S wd_1328 wd_1329 wd_327 wd_1330) rfl rfl rfl (by decide +kernel) ⟨(Nat.le_of_ble_eq_true rfl), (Nat.le_of_ble_eq_true rfl)⟩) ⟨fun a U g mk q => ⟨q.1, q.2.1, th.moved (u := U) (U := U.calling g mk a) (Vm.Alike.refl U.vm) q.2.2⟩, fun U hU hW => ⟨rfl, by rw [hU], by rw [hU]; exact ((hth.kept hS.2.1).narrow hF0).moved hW.alike⟩⟩ rfl rfl hl.1 rfl (lv_room (Nat.le_of_ble_eq_true rfl)) dX12_isThere_14 ⟨(Nat.le_of_ble_eq_true rfl), (Nat.le_of_ble_eq_true rfl)⟩) hS (fun q _ h => hF0 q h) hF0 (fun q _ h => hF0 q h) (fun E ce q9 u t H1 locs ht hvm hp hB hz hk hS hce hcv hcl => absurd hp (by decide +kernel)) (fun u t H1 locs ht hvm hp hB hz hk hS => ?_)
  have hP : va_P (dC, dI) CL [(x, .inr (12, xg)), (chA, .inl (chAC, (4, .inr (.inr (.inr (.inr chAF)))))), (ch0, .inr (2, ch0g)), (ch1, .inr (2, ch1g)), (ch2, .inr (2, ch2g)), (ch3, .inr (2, ch3g)), (oA, .inl (oAC, (1, .inr (.inl oAf))))] H1 := hP.kept (fun k q h9 => hk _ (vx_lt hP h9) (fun h8 => h8.elim (fun ⟨k9, e9, h7⟩ => by simp at h7) (fun h7 => absurd (vx_lt hP h9) (Nat.not_lt.mpr h7))))
  generalize H1 = H at hP hS ⊢
  refine W.widen (k := 1) (n := 6) (Nat.le_of_ble_eq_true rfl) (Nat.le_of_ble_eq_true rfl) ?_
  refine lv_iload_n hx hb dX12_isThere_17 rfl (lv_at hl 1 rfl) ?_
  refine lv_if_ne (tgt := 49) hx hb dX12_isThere_18 (by decide) (fun c9 => ?_) (fun c9 => ?_)
  rotate_left
  · first | exact absurd c9 (by decide +kernel) | exact absurd (by decide +kernel) c9
  refine lv_iload_n hx hb dX12_isThere_49 rfl (lv_at hl 1 rfl) ?_
  refine lv_iconst (v := 1) hx hb dX12_isThere_50 (by decide +kernel) ?_
  refine lv_icmp_ne (tgt := 81) hx hb dX12_isThere_51 (by decide) (fun c9 => ?_) (fun c9 => ?_)
  rotate_left
  · first | exact absurd c9 (by decide +kernel) | exact absurd (by decide +kernel) c9
  refine lv_iload_n hx hb dX12_isThere_81 rfl (lv_at hl 2 rfl) ?_
  refine lv_if_lt (tgt := 106) hx hb dX12_isThere_82 (by decide) (fun c9 => ?_) (fun c9 => ?_)
  · first | exact absurd c9 (by decide +kernel) | exact absurd (by decide +kernel) c9
  refine lv_iload_n hx hb dX12_isThere_85 rfl (lv_at hl 2 rfl) ?_
  refine lv_iconst (v := 4) hx hb dX12_isThere_86 (by decide +kernel) ?_
  refine lv_icmp_ge (tgt := 106) hx hb dX12_isThere_87 (by decide) (fun c9 => ?_) (fun c9 => ?_)
  · first | exact absurd c9 (by decide +kernel) | exact absurd (by decide +kernel) c9
  refine lv_aload_n hx hb dX12_isThere_90 rfl (lv_at hl 0 rfl) ?_
  refine va_get (D := (dC, dI)) (ci := 12) (v := .ref chA) (C := RX12) (T := TX12) (N := 17) hx hb hts inX12 hown hK hP 0 rfl rfl 9 (by decide) (hts (.fieldLink RX12 78 "ChipFlow" "chips" "[LChipFlow$Chip;") wd_1187) (fun _ h9 => h9) (h_x.get 2 rfl) dX12_isThere_91 ?_
  refine lv_iload_n hx hb dX12_isThere_94 rfl (lv_at hl 2 rfl) ?_
  refine va_aldq hx hb hK hP 1 0 rfl rfl (vp_in_nI (n := 3) (N := 4) (by decide) (by decide)) dX12_isThere_95 ?_
  rw [show (3 : Int32).toNatClampNeg = 3 by decide +kernel, h_chA3]
  refine W.eq (g2 := F0 m 96 ls [.ref ch3]) rfl ?_
  refine va_get (D := (dC, dI)) (ci := 2) (v := .int 0) (C := RX2) (T := TX2) (N := 20) hx hb hts inX2 hown hK hP 5 rfl rfl 0 (by decide) (hts (.fieldLink RX12 161 "ChipFlow$Chip" "used" "Z") wd_1067) (fun _ h9 => h9) (h_ch3.get 0 rfl) dX12_isThere_96 ?_
  refine lv_if_eq (tgt := 106) hx hb dX12_isThere_99 (by decide) (fun c9 => ?_) (fun c9 => ?_)
  rotate_left
  · first | exact absurd c9 (by decide +kernel) | exact absurd (by decide +kernel) c9
  refine lv_iconst (v := 0) hx hb dX12_isThere_106 (by decide +kernel) ?_
  refine W.widen (k := 1) (n := 6) (Nat.le_of_ble_eq_true rfl) (Nat.le_of_ble_eq_true rfl) ?_
  exact W.zret (v := 0) hx hb hr rfl (fun t ht hW => ⟨⟨0, (), rfl, rfl, xg, ch0g, ch1g, ch2g, ch3g, oAf, h_x, h_ch0, h_ch1, h_ch2, h_ch3, h_oA, by rw [ht]; exact hP, va_K.moved hW.alike hK, hD⟩, hS.F ht⟩) hS.2.2 dX12_isThere_107
set_option maxHeartbeats 4000000 in
set_option maxRecDepth 100000 in
theorem gx140_L_isThere (l : Launch) (hlt : l.stackTraces = false) (dC : Nat → ClassId) (dI : Nat → Nat → Nat) (sz : Nat) (x chA ch0 ch1 ch2 ch3 oA deA liA : Nat) (xg : List Value) (h_x : fx xg 17 [(7, .ref deA), (8, .ref liA), (9, .ref chA)]) (chAC : ClassId) (chAF : Nat → Option Nat) (ch0g : List Value) (h_ch0 : fx ch0g 20 [(0, .int 0)]) (ch1g : List Value) (h_ch1 : fx ch1g 20 [(0, .int 0)]) (ch2g : List Value) (h_ch2 : fx ch2g 20 [(0, .int 0)]) (ch3g : List Value) (h_ch3 : fx ch3g 20 [(0, .int 0)]) (oAC : ClassId) (oAf : Nat → Int64) (h_oA : fa oAf []) (h_chA0 : chAF 0 = some ch0) (h_chA1 : chAF 1 = some ch1) (h_chA2 : chAF 2 = some ch2) (h_chA3 : chAF 3 = some ch3) : Met l yL_isThere (Cond.codeWith yL_isThere cL_isThere 5 (some .int) [(0, 17, 20, 19)] :: BG) ({ frames := 8, cells := 1, slots := 6, locals := 152 }) (va_Pc [.ref x, .int 2, .int 3, .ref oA] (fun U => U.heap.size = sz ∧ va_P (dC, dI) CL [(x, .inr (12, xg)), (chA, .inl (chAC, (4, .inr (.inr (.inr (.inr chAF)))))), (ch0, .inr (2, ch0g)), (ch1, .inr (2, ch1g)), (ch2, .inr (2, ch2g)), (ch3, .inr (2, ch3g)), (oA, .inl (oAC, (1, .inr (.inl oAf))))] U.heap ∧ va_K (dC, dI) CL [(chAC, .object "ChipFlow$Chip"), (oAC, .long)] U ∧ va_D (fun _ => True) [(x, .inr (12, xg)), (chA, .inl (chAC, (4, .inr (.inr (.inr (.inr chAF)))))), (ch0, .inr (2, ch0g)), (ch1, .inr (2, ch1g)), (ch2, .inr (2, ch2g)), (ch3, .inr (2, ch3g)), (oA, .inl (oAC, (1, .inr (.inl oAf))))] ∧ th (va_A [(x, .inr (12, xg)), (chA, .inl (chAC, (4, .inr (.inr (.inr (.inr chAF)))))), (ch0, .inr (2, ch0g)), (ch1, .inr (2, ch1g)), (ch2, .inr (2, ch2g)), (ch3, .inr (2, ch3g)), (oA, .inl (oAC, (1, .inr (.inl oAf))))] sz) U U.heap)) (va_Qi (fun (r : Int32) (_ : Unit) => r = 0) (fun _ t => ∃ (xy : List Value) (ch0y : List Value) (ch1y : List Value) (ch2y : List Value) (ch3y : List Value) (oAy : Nat → Int64), fx xy 17 [(7, .ref deA), (8, .ref liA), (9, .ref chA)] ∧ fx ch0y 20 [(0, .int 0)] ∧ fx ch1y 20 [(0, .int 0)] ∧ fx ch2y 20 [(0, .int 0)] ∧ fx ch3y 20 [(0, .int 0)] ∧ fa oAy [(0, 0)] ∧ va_P (dC, dI) CL [(x, .inr (12, xy)), (chA, .inl (chAC, (4, .inr (.inr (.inr (.inr chAF)))))), (ch0, .inr (2, ch0y)), (ch1, .inr (2, ch1y)), (ch2, .inr (2, ch2y)), (ch3, .inr (2, ch3y)), (oA, .inl (oAC, (1, .inr (.inl oAy))))] t.heap ∧ va_K (dC, dI) CL [(chAC, .object "ChipFlow$Chip"), (oAC, .long)] t ∧ va_D (va_A [(x, .inr (12, xg)), (chA, .inl (chAC, (4, .inr (.inr (.inr (.inr chAF)))))), (ch0, .inr (2, ch0g)), (ch1, .inr (2, ch1g)), (ch2, .inr (2, ch2g)), (ch3, .inr (2, ch3g)), (oA, .inl (oAC, (1, .inr (.inl oAf))))] sz) [(x, .inr (12, xy)), (chA, .inl (chAC, (4, .inr (.inr (.inr (.inr chAF)))))), (ch0, .inr (2, ch0y)), (ch1, .inr (2, ch1y)), (ch2, .inr (2, ch2y)), (ch3, .inr (2, ch3y)), (oA, .inl (oAC, (1, .inr (.inl oAy))))]) (va_A [(x, .inr (12, xg)), (chA, .inl (chAC, (4, .inr (.inr (.inr (.inr chAF)))))), (ch0, .inr (2, ch0g)), (ch1, .inr (2, ch1g)), (ch2, .inr (2, ch2g)), (ch3, .inr (2, ch3g)), (oA, .inl (oAC, (1, .inr (.inl oAf))))] sz)) 1 6 (va_A [(x, .inr (12, xg)), (chA, .inl (chAC, (4, .inr (.inr (.inr (.inr chAF)))))), (ch0, .inr (2, ch0g)), (ch1, .inr (2, ch1g)), (ch2, .inr (2, ch2g)), (ch3, .inr (2, ch3g)), (oA, .inl (oAC, (1, .inr (.inl oAf))))] sz) := by
  refine va_MetW (hh := [(0, 17, 20, 19)]) (cc := cL_isThere) (maxL := 5) (ret := (some .int)) (by decide) rfl ?_
  intro p e s m args below meth c s₁ B hml hv
  obtain ⟨rfl, hsz, hP, hK, hD0, hth⟩ := hv
  have hx := B.exec
  have hb := B.bytes
  have hr := B.returns
  have hts : ∀ w ∈ BG, w.before _ s = true := fun w h => atoms_spec (ws := Cond.codeWith yL_isThere cL_isThere 5 (some .int) [(0, 17, 20, 19)] :: BG) B.pre w (List.mem_cons_of_mem _ h)
  have hown : s.vm.findClass RL = some m.cls := findClass_of_methodNamed B.named
  have hlocks := B.notSynchronized
  subst hsz
  have hD := hD0.self (sz := s.heap.size)
  generalize hAe : va_A [(x, .inr (12, xg)), (chA, .inl (chAC, (4, .inr (.inr (.inr (.inr chAF)))))), (ch0, .inr (2, ch0g)), (ch1, .inr (2, ch1g)), (ch2, .inr (2, ch2g)), (ch3, .inr (2, ch3g)), (oA, .inl (oAC, (1, .inr (.inl oAf))))] s.heap.size = A at hD hth ⊢
  have hA : ∀ q : Nat, s.heap.size ≤ q → A q := fun q h => by rw [← hAe]; exact Or.inr h
  have hS : va_S A s.heap s.heap [] := va_S.rf
  have hl := lv_entry ([.ref x, .int 2, .int 3, .ref oA]) (n := 5) (Nat.le_of_ble_eq_true rfl)
  rw [lg_entry_eq]
  generalize (lg_sl ([.ref x, .int 2, .int 3, .ref oA]) ++ List.replicate (5 - (lg_sl ([.ref x, .int 2, .int 3, .ref oA])).length) Slot.unset).toArray = ls at hl ⊢
  have hl : lv_has ls 5 [(0, .ref x), (1, .int 2), (2, .int 3), (3, .ref oA)] := hl
  obtain ⟨H, eH⟩ : ∃ z, z = s.heap := ⟨_, rfl⟩
  have hP : va_P (dC, dI) CL [(x, .inr (12, xg)), (chA, .inl (chAC, (4, .inr (.inr (.inr (.inr chAF)))))), (ch0, .inr (2, ch0g)), (ch1, .inr (2, ch1g)), (ch2, .inr (2, ch2g)), (ch3, .inr (2, ch3g)), (oA, .inl (oAC, (1, .inr (.inl oAf))))] H := by rw [eH]; exact hP
  have hS : va_S A s.heap H [] := by rw [eH]; exact hS
  rw [← eH]
  have hT : c.exceptionTable.toList = tableOf [(0, 17, 20, 19)] := vx_table (x := yL_isThere) B (atoms_spec (ws := Cond.codeWith yL_isThere cL_isThere 5 (some .int) [(0, 17, 20, 19)] :: BG) B.pre _ List.mem_cons_self)
  refine lv_aload_n hx hb dL_isThere_0 rfl (lv_at hl 3 rfl) ?_
  refine lv_iconst (v := 0) hx hb dL_isThere_1 (by decide +kernel) ?_
  refine lv_aload_n hx hb dL_isThere_2 rfl (lv_at hl 0 rfl) ?_
  refine lv_iload_n hx hb dL_isThere_3 rfl (lv_at hl 1 rfl) ?_
  refine lv_iload_n hx hb dL_isThere_4 rfl (lv_at hl 2 rfl) ?_
  have hFc := va_free (wc := [(x, .inr (12, xg)), (chA, .inl (chAC, (4, .inr (.inr (.inr (.inr chAF)))))), (ch0, .inr (2, ch0g)), (ch1, .inr (2, ch1g)), (ch2, .inr (2, ch2g)), (ch3, .inr (2, ch3g)), (oA, .inl (oAC, (1, .inr (.inl oAf))))]) hD hS hA [0, 1, 2, 3, 4, 5, 6] rfl
  refine va_calli (va_runV (As := [.int 2, .int 3]) (rest := [.int 0, .ref oA]) ⟨hx, hb, hml, hown, hts⟩ (gx141_X12_isThere l hlt dC dI _ x chA ch0 ch1 ch2 ch3 oA deA liA xg h_x chAC chAF ch0g h_ch0 ch1g h_ch1 ch2g h_ch2 ch3g h_ch3 oAC oAf h_oA h_chA0 h_chA1 h_chA2 h_chA3) (cwV 2 hts (gi_V wd_1842 wd_1843 wd_1844 wd_327 wd_1845) rfl rfl rfl (by decide +kernel) ⟨(Nat.le_of_ble_eq_true rfl), (Nat.le_of_ble_eq_true rfl)⟩) ⟨fun a U g mk q => by obtain ⟨q0, q1, qP, qK, qD, qT⟩ := q; exact ⟨q0, q1, qP, va_K.moved (u := U) (U := U.calling g mk a) (Vm.Alike.refl U.vm) qK, qD, th.moved (u := U) (U := U.calling g mk a) (Vm.Alike.refl U.vm) qT⟩, va_recv hK hP (ci := 12) (q0 := 0) rfl rfl, fun U hU hW => ⟨rfl, by rw [hU], by rw [hU]; exact hP, va_K.moved hW.alike hK, hD.weaken (fun _ _ _ _ => trivial), by rw [hU]; exact ((hth.kept hS.2.1).narrow hFc).moved hW.alike⟩⟩ rfl rfl hl.1 rfl (lv_room (Nat.le_of_ble_eq_true rfl)) dL_isThere_5 ⟨(Nat.le_of_ble_eq_true rfl), (Nat.le_of_ble_eq_true rfl)⟩) hS (fun q _ h => hFc q h) hFc (fun r u t H1 locs ht hvm hw hB hz1 hk1 hS => ?_)
  subst hw
  obtain ⟨fs_1, fs_2, fs_3, fs_4, fs_5, f_6, h_x, h_ch0, h_ch1, h_ch2, h_ch3, h_oA, hP1, hK1, hD1⟩ := hB
  rw [ht] at hP1
  have hD := hD1.weaken (fun k q _ h => hFc q.1 h)
  have hP := hP1
  generalize H1 = H at hP hS ⊢
  have hP : va_P (dC, dI) CL [(x, .inr (12, fs_1)), (chA, .inl (chAC, (4, .inr (.inr (.inr (.inr chAF)))))), (ch0, .inr (2, fs_2)), (ch1, .inr (2, fs_3)), (ch2, .inr (2, fs_4)), (ch3, .inr (2, fs_5)), (oA, .inl (oAC, (1, .inr (.inl f_6))))] H := hP
  have hD : va_D A [(x, .inr (12, fs_1)), (chA, .inl (chAC, (4, .inr (.inr (.inr (.inr chAF)))))), (ch0, .inr (2, fs_2)), (ch1, .inr (2, fs_3)), (ch2, .inr (2, fs_4)), (ch3, .inr (2, fs_5)), (oA, .inl (oAC, (1, .inr (.inl f_6))))] := hD
  refine W.widen (k := 1) (n := 6) (Nat.le_of_ble_eq_true rfl) (Nat.le_of_ble_eq_true rfl) ?_
  refine lv_if_eq (tgt := 15) hx hb dL_isThere_8 (by decide) (fun c9 => ?_) (fun c9 => ?_)
  rotate_left
  · first | exact absurd c9 (by decide +kernel) | exact absurd (by decide +kernel) c9
  refine lv_lconst (v := 0) hx hb dL_isThere_15 (by decide) ?_
  refine va_last hx hb hK hP hD hS 6 1 rfl rfl (vp_in_nI (n := 0) (N := 1) (by decide) (by decide)) dL_isThere_16 (fun H locs hP hD hS => ?_)
  obtain ⟨f_7, e9⟩ : ∃ z, z = vp_updL f_6 (0 : Int32).toNatClampNeg 0 := ⟨_, rfl⟩
  have h_oA : fa f_7 [(0, 0)] := by rw [e9, show (0 : Int32).toNatClampNeg = 0 by decide +kernel]; exact (fa.putL h_oA).sub [0] rfl
  have hP : va_P (dC, dI) CL [(x, .inr (12, fs_1)), (chA, .inl (chAC, (4, .inr (.inr (.inr (.inr chAF)))))), (ch0, .inr (2, fs_2)), (ch1, .inr (2, fs_3)), (ch2, .inr (2, fs_4)), (ch3, .inr (2, fs_5)), (oA, .inl (oAC, (1, .inr (.inl f_7))))] H := by rw [e9]; exact hP
  have hD : va_D A [(x, .inr (12, fs_1)), (chA, .inl (chAC, (4, .inr (.inr (.inr (.inr chAF)))))), (ch0, .inr (2, fs_2)), (ch1, .inr (2, fs_3)), (ch2, .inr (2, fs_4)), (ch3, .inr (2, fs_5)), (oA, .inl (oAC, (1, .inr (.inl f_7))))] := by rw [e9]; exact hD
  clear e9
  refine lv_goto (tgt := 24) hx hb dL_isThere_17 (by decide) ?_
  refine lv_iconst (v := 0) hx hb dL_isThere_24 (by decide +kernel) ?_
  refine W.widen (k := 1) (n := 6) (Nat.le_of_ble_eq_true rfl) (Nat.le_of_ble_eq_true rfl) ?_
  exact W.iret (v := 0) hx hb hr (fun t ht hW => ⟨⟨0, (), rfl, rfl, fs_1, fs_2, fs_3, fs_4, fs_5, f_7, h_x, h_ch0, h_ch1, h_ch2, h_ch3, h_oA, by rw [ht]; exact hP, va_K.moved hW.alike hK, hD⟩, hS.F ht⟩) hS.2.2 dL_isThere_25
set_option maxHeartbeats 4000000 in
set_option maxRecDepth 100000 in
theorem gx143_X13_isOne (l : Launch) (hlt : l.stackTraces = false) (dC : Nat → ClassId) (dI : Nat → Nat → Nat) (sz : Nat) (m0 mch md ml : Nat) (m0g : List Value) (h_m0 : fx m0g 225 [(0, .int 0), (2, .int 0), (3, .int 0), (9, .int 0), (10, .int 0), (11, .int 0), (12, .int 0), (27, .int 0), (55, .ref md), (79, .int 0), (83, .int 0), (88, .ref ml), (95, .int 0), (138, .ref mch)]) (mchC : ClassId) : Met l yX13_isOne (Cond.code yX13_isOne cX13_isOne 3 (some .boolean) :: BG) ({ frames := 2, cells := 0, slots := 0, locals := 33 }) (va_Pc [.ref m0, .int 2, .int 3] (fun U => U.heap.size = sz ∧ va_P (dC, dI) CL [(m0, .inr (13, m0g)), (mch, .inl (mchC, (4, .inl (fun _ => 0))))] U.heap ∧ va_K (dC, dI) CL [(mchC, .boolean)] U ∧ va_D (fun _ => True) [(m0, .inr (13, m0g)), (mch, .inl (mchC, (4, .inl (fun _ => 0))))] ∧ th (va_A [(m0, .inr (13, m0g)), (mch, .inl (mchC, (4, .inl (fun _ => 0))))] sz) U U.heap)) (va_Qi (fun (r : Int32) (_ : Unit) => r = 0) (fun _ t => ∃ (m0y : List Value), fx m0y 225 [(0, .int 0), (2, .int 0), (3, .int 0), (9, .int 0), (10, .int 0), (11, .int 0), (12, .int 0), (27, .int 0), (55, .ref md), (79, .int 0), (83, .int 0), (88, .ref ml), (95, .int 0), (138, .ref mch)] ∧ va_P (dC, dI) CL [(m0, .inr (13, m0y)), (mch, .inl (mchC, (4, .inl (fun _ => 0))))] t.heap ∧ va_K (dC, dI) CL [(mchC, .boolean)] t ∧ va_D (va_A [(m0, .inr (13, m0g)), (mch, .inl (mchC, (4, .inl (fun _ => 0))))] sz) [(m0, .inr (13, m0y)), (mch, .inl (mchC, (4, .inl (fun _ => 0))))]) (va_A [(m0, .inr (13, m0g)), (mch, .inl (mchC, (4, .inl (fun _ => 0))))] sz)) 0 0 (va_A [(m0, .inr (13, m0g)), (mch, .inl (mchC, (4, .inl (fun _ => 0))))] sz) := by
  refine Met.ofW (cc := cX13_isOne) (maxL := 3) (ret := (some .boolean)) (by decide) rfl ?_
  intro p e s m args below meth c s₁ B hml hv
  obtain ⟨rfl, hsz, hP, hK, hD0, hth⟩ := hv
  have hx := B.exec
  have hb := B.bytes
  have hr := B.returns
  have hts : ∀ w ∈ BG, w.before _ s = true := fun w h => atoms_spec (ws := Cond.code yX13_isOne cX13_isOne 3 (some .boolean) :: BG) B.pre w (List.mem_cons_of_mem _ h)
  have hown : s.vm.findClass RX13 = some m.cls := findClass_of_methodNamed B.named
  have hlocks := B.notSynchronized
  subst hsz
  have hD := hD0.self (sz := s.heap.size)
  generalize hAe : va_A [(m0, .inr (13, m0g)), (mch, .inl (mchC, (4, .inl (fun _ => 0))))] s.heap.size = A at hD hth ⊢
  have hA : ∀ q : Nat, s.heap.size ≤ q → A q := fun q h => by rw [← hAe]; exact Or.inr h
  have hS : va_S A s.heap s.heap [] := va_S.rf
  have hl := lv_entry ([.ref m0, .int 2, .int 3]) (n := 3) (Nat.le_of_ble_eq_true rfl)
  rw [lg_entry_eq]
  generalize (lg_sl ([.ref m0, .int 2, .int 3]) ++ List.replicate (3 - (lg_sl ([.ref m0, .int 2, .int 3])).length) Slot.unset).toArray = ls at hl ⊢
  have hl : lv_has ls 3 [(0, .ref m0), (1, .int 2), (2, .int 3)] := hl
  obtain ⟨H, eH⟩ : ∃ z, z = s.heap := ⟨_, rfl⟩
  have hP : va_P (dC, dI) CL [(m0, .inr (13, m0g)), (mch, .inl (mchC, (4, .inl (fun _ => 0))))] H := by rw [eH]; exact hP
  have hS : va_S A s.heap H [] := by rw [eH]; exact hS
  rw [← eH]
  refine lv_iload_n hx hb dX13_isOne_0 rfl (lv_at hl 1 rfl) ?_
  refine lv_if_ne (tgt := 12) hx hb dX13_isOne_1 (by decide) (fun c9 => ?_) (fun c9 => ?_)
  rotate_left
  · first | exact absurd c9 (by decide +kernel) | exact absurd (by decide +kernel) c9
  refine lv_iload_n hx hb dX13_isOne_12 rfl (lv_at hl 1 rfl) ?_
  refine lv_iconst (v := 1) hx hb dX13_isOne_13 (by decide +kernel) ?_
  refine lv_icmp_ne (tgt := 25) hx hb dX13_isOne_14 (by decide) (fun c9 => ?_) (fun c9 => ?_)
  rotate_left
  · first | exact absurd c9 (by decide +kernel) | exact absurd (by decide +kernel) c9
  refine lv_aload_n hx hb dX13_isOne_25 rfl (lv_at hl 0 rfl) ?_
  refine lv_iload_n hx hb dX13_isOne_26 rfl (lv_at hl 2 rfl) ?_
  have hFc := va_free (wc := [(m0, .inr (13, m0g)), (mch, .inl (mchC, (4, .inl (fun _ => 0))))]) hD hS hA [0, 1] rfl
  refine va_calli (va_runV (As := [.int 3]) (rest := []) ⟨hx, hb, hml, hown, hts⟩ (ct_X13_isChip l dC dI _ 3 m0 m0g mch mchC (h_m0.sub [13] rfl)) (cwV 1 hts (gi_V wd_4084 wd_4086 wd_217 wd_340 wd_4087) rfl rfl rfl (by decide +kernel) ⟨(Nat.le_of_ble_eq_true rfl), (Nat.le_of_ble_eq_true rfl)⟩) ⟨fun a U g mk q => by obtain ⟨q0, q1, qP, qK, qD⟩ := q; exact ⟨q0, q1, qP, va_K.moved (u := U) (U := U.calling g mk a) (Vm.Alike.refl U.vm) qK, qD⟩, va_recv hK hP (ci := 13) (q0 := 0) rfl rfl, fun U hU hW => ⟨rfl, by rw [hU], by rw [hU]; exact hP, va_K.moved hW.alike hK, hD.weaken (fun _ _ _ _ => trivial)⟩⟩ rfl rfl hl.1 rfl (lv_room (Nat.le_of_ble_eq_true rfl)) dX13_isOne_27 ⟨(Nat.le_of_ble_eq_true rfl), (Nat.le_of_ble_eq_true rfl)⟩) hS (fun q _ h => hFc q h) hFc (fun r u t H1 locs ht hvm hw hB hz1 hk1 hS => ?_)
  subst hw
  obtain ⟨hP1, hK1, hD1⟩ := hB
  rw [ht] at hP1
  have hD := hD1.weaken (fun k q _ h => hFc q.1 h)
  have hP := hP1
  generalize H1 = H at hP hS ⊢
  have hP : va_P (dC, dI) CL [(m0, .inr (13, m0g)), (mch, .inl (mchC, (4, .inl (fun _ => 0))))] H := hP
  have hD : va_D A [(m0, .inr (13, m0g)), (mch, .inl (mchC, (4, .inl (fun _ => 0))))] := hD
  exact W.zret (v := 0) hx hb hr rfl (fun t ht hW => ⟨⟨0, (), rfl, rfl, m0g, h_m0, by rw [ht]; exact hP, va_K.moved hW.alike hK, hD⟩, hS.F ht⟩) hS.2.2 dX13_isOne_30
set_option maxHeartbeats 4000000 in
set_option maxRecDepth 100000 in
theorem gx142_X13_isThere (l : Launch) (hlt : l.stackTraces = false) (dC : Nat → ClassId) (dI : Nat → Nat → Nat) (sz : Nat) (m0 mch md ml : Nat) (m0g : List Value) (h_m0 : fx m0g 225 [(0, .int 0), (2, .int 0), (3, .int 0), (9, .int 0), (10, .int 0), (11, .int 0), (12, .int 0), (27, .int 0), (55, .ref md), (79, .int 0), (83, .int 0), (88, .ref ml), (95, .int 0), (138, .ref mch)]) (mchC : ClassId) : Met l yX13_isThere (Cond.code yX13_isThere cX13_isThere 3 (some .boolean) :: BG) ({ frames := 3, cells := 0, slots := 0, locals := 55 }) (va_Pc [.ref m0, .int 2, .int 3] (fun U => U.heap.size = sz ∧ va_P (dC, dI) CL [(m0, .inr (13, m0g)), (mch, .inl (mchC, (4, .inl (fun _ => 0))))] U.heap ∧ va_K (dC, dI) CL [(mchC, .boolean)] U ∧ va_D (fun _ => True) [(m0, .inr (13, m0g)), (mch, .inl (mchC, (4, .inl (fun _ => 0))))] ∧ th (va_A [(m0, .inr (13, m0g)), (mch, .inl (mchC, (4, .inl (fun _ => 0))))] sz) U U.heap)) (va_Qi (fun (r : Int32) (_ : Unit) => r = 0) (fun _ t => ∃ (m0y : List Value), fx m0y 225 [(0, .int 0), (2, .int 0), (3, .int 0), (9, .int 0), (10, .int 0), (11, .int 0), (12, .int 0), (27, .int 0), (55, .ref md), (79, .int 0), (83, .int 0), (88, .ref ml), (95, .int 0), (138, .ref mch)] ∧ va_P (dC, dI) CL [(m0, .inr (13, m0y)), (mch, .inl (mchC, (4, .inl (fun _ => 0))))] t.heap ∧ va_K (dC, dI) CL [(mchC, .boolean)] t ∧ va_D (va_A [(m0, .inr (13, m0g)), (mch, .inl (mchC, (4, .inl (fun _ => 0))))] sz) [(m0, .inr (13, m0y)), (mch, .inl (mchC, (4, .inl (fun _ => 0))))]) (va_A [(m0, .inr (13, m0g)), (mch, .inl (mchC, (4, .inl (fun _ => 0))))] sz)) 0 0 (va_A [(m0, .inr (13, m0g)), (mch, .inl (mchC, (4, .inl (fun _ => 0))))] sz) := by
  refine Met.ofW (cc := cX13_isThere) (maxL := 3) (ret := (some .boolean)) (by decide) rfl ?_
  intro p e s m args below meth c s₁ B hml hv
  obtain ⟨rfl, hsz, hP, hK, hD0, hth⟩ := hv
  have hx := B.exec
  have hb := B.bytes
  have hr := B.returns
  have hts : ∀ w ∈ BG, w.before _ s = true := fun w h => atoms_spec (ws := Cond.code yX13_isThere cX13_isThere 3 (some .boolean) :: BG) B.pre w (List.mem_cons_of_mem _ h)
  have hown : s.vm.findClass RX13 = some m.cls := findClass_of_methodNamed B.named
  have hlocks := B.notSynchronized
  subst hsz
  have hD := hD0.self (sz := s.heap.size)
  generalize hAe : va_A [(m0, .inr (13, m0g)), (mch, .inl (mchC, (4, .inl (fun _ => 0))))] s.heap.size = A at hD hth ⊢
  have hA : ∀ q : Nat, s.heap.size ≤ q → A q := fun q h => by rw [← hAe]; exact Or.inr h
  have hS : va_S A s.heap s.heap [] := va_S.rf
  have hl := lv_entry ([.ref m0, .int 2, .int 3]) (n := 3) (Nat.le_of_ble_eq_true rfl)
  rw [lg_entry_eq]
  generalize (lg_sl ([.ref m0, .int 2, .int 3]) ++ List.replicate (3 - (lg_sl ([.ref m0, .int 2, .int 3])).length) Slot.unset).toArray = ls at hl ⊢
  have hl : lv_has ls 3 [(0, .ref m0), (1, .int 2), (2, .int 3)] := hl
  obtain ⟨H, eH⟩ : ∃ z, z = s.heap := ⟨_, rfl⟩
  have hP : va_P (dC, dI) CL [(m0, .inr (13, m0g)), (mch, .inl (mchC, (4, .inl (fun _ => 0))))] H := by rw [eH]; exact hP
  have hS : va_S A s.heap H [] := by rw [eH]; exact hS
  rw [← eH]
  refine lv_aload_n hx hb dX13_isThere_0 rfl (lv_at hl 0 rfl) ?_
  refine lv_iload_n hx hb dX13_isThere_1 rfl (lv_at hl 1 rfl) ?_
  refine lv_iconst (v := 0) hx hb dX13_isThere_2 (by decide +kernel) ?_
  refine lv_iconst (v := 2) hx hb dX13_isThere_3 (by decide +kernel) ?_
  have hFc := va_free (wc := [(m0, .inr (13, m0g)), (mch, .inl (mchC, (4, .inl (fun _ => 0))))]) hD hS hA [0, 1] rfl
  refine va_calli (va_runS (As := [.int 2, .int 0, .int 2]) (rest := [.ref m0]) ⟨hx, hb, hml, hown, hts⟩ (gx59_X13_within l hlt dC dI _ m0 mch md ml m0g h_m0 mchC) (cwS 3 hts (gi_S wd_3825 wd_3826 wd_340 wd_3827) rfl rfl rfl (by decide +kernel) ⟨(Nat.le_of_ble_eq_true rfl), (Nat.le_of_ble_eq_true rfl)⟩) ⟨fun a U g mk q => by obtain ⟨q0, q1, qP, qK, qD, qT⟩ := q; exact ⟨q0, q1, qP, va_K.moved (u := U) (U := U.calling g mk a) (Vm.Alike.refl U.vm) qK, qD, th.moved (u := U) (U := U.calling g mk a) (Vm.Alike.refl U.vm) qT⟩, fun U hU hW => ⟨rfl, by rw [hU], by rw [hU]; exact hP, va_K.moved hW.alike hK, hD.weaken (fun _ _ _ _ => trivial), by rw [hU]; exact ((hth.kept hS.2.1).narrow hFc).moved hW.alike⟩⟩ rfl rfl hl.1 rfl (lv_room (Nat.le_of_ble_eq_true rfl)) dX13_isThere_4 ⟨(Nat.le_of_ble_eq_true rfl), (Nat.le_of_ble_eq_true rfl)⟩) hS (fun q _ h => hFc q h) hFc (fun r u t H1 locs ht hvm hw hB hz1 hk1 hS => ?_)
  subst hw
  obtain ⟨fs_1, h_m0, hP1, hK1, hD1⟩ := hB
  rw [ht] at hP1
  have hD := hD1.weaken (fun k q _ h => hFc q.1 h)
  have hP := hP1
  generalize H1 = H at hP hS ⊢
  have hP : va_P (dC, dI) CL [(m0, .inr (13, fs_1)), (mch, .inl (mchC, (4, .inl (fun _ => 0))))] H := hP
  have hD : va_D A [(m0, .inr (13, fs_1)), (mch, .inl (mchC, (4, .inl (fun _ => 0))))] := hD
  refine lv_if_eq (tgt := 14) hx hb dX13_isThere_7 (by decide) (fun c9 => ?_) (fun c9 => ?_)
  · first | exact absurd c9 (by decide +kernel) | exact absurd (by decide +kernel) c9
  refine lv_iconst (v := 0) hx hb dX13_isThere_10 (by decide +kernel) ?_
  refine lv_goto (tgt := 15) hx hb dX13_isThere_11 (by decide) ?_
  refine va_put (D := (dC, dI)) (ci := 13) (v := .int 0) (ty := tyX13 0) (C := RX13) (T := TX13) (N := 225) hx hb hts inX13 tyX13 tyX13_ok nmX13 hown hK hP hD hS 0 rfl rfl 0 (by decide) (hts (.fieldLink RX13 1 "ChipFlowModel" "code" "I") wd_3032) (fun _ h9 => h9) rfl (by decide +kernel) rfl rfl (by rw [h_m0.1]; decide) dX13_isThere_15 (fun H locs hP hD hS => ?_)
  obtain ⟨fs_2, e9⟩ : ∃ z, z = fs_1.set 0 (.int 0) := ⟨_, rfl⟩
  have h_m0 : fx fs_2 225 [(0, .int 0), (2, .int 0), (3, .int 0), (9, .int 0), (10, .int 0), (11, .int 0), (12, .int 0), (27, .int 0), (55, .ref md), (79, .int 0), (83, .int 0), (88, .ref ml), (95, .int 0), (138, .ref mch)] := by rw [e9]; exact (h_m0.put (F' := [(0, .int 0), (2, .int 0), (3, .int 0), (9, .int 0), (10, .int 0), (11, .int 0), (12, .int 0), (27, .int 0), (55, .ref md), (79, .int 0), (83, .int 0), (88, .ref ml), (95, .int 0), (138, .ref mch)]) (by decide) _ rfl).sub [0, 1, 2, 3, 4, 5, 6, 7, 8, 9, 10, 11, 12, 13] rfl
  have hP : va_P (dC, dI) CL [(m0, .inr (13, fs_2)), (mch, .inl (mchC, (4, .inl (fun _ => 0))))] H := by rw [e9]; exact hP
  have hD : va_D A [(m0, .inr (13, fs_2)), (mch, .inl (mchC, (4, .inl (fun _ => 0))))] := by rw [e9]; exact hD
  clear e9
  refine lv_aload_n hx hb dX13_isThere_18 rfl (lv_at hl 0 rfl) ?_
  refine va_get (D := (dC, dI)) (ci := 13) (v := .int 0) (C := RX13) (T := TX13) (N := 225) hx hb hts inX13 hown hK hP 0 rfl rfl 0 (by decide) (hts (.fieldLink RX13 1 "ChipFlowModel" "code" "I") wd_3032) (fun _ h9 => h9) (h_m0.get 0 rfl) dX13_isThere_19 ?_
  refine lv_if_ne (tgt := 38) hx hb dX13_isThere_22 (by decide) (fun c9 => ?_) (fun c9 => ?_)
  · first | exact absurd c9 (by decide +kernel) | exact absurd (by decide +kernel) c9
  refine lv_aload_n hx hb dX13_isThere_25 rfl (lv_at hl 0 rfl) ?_
  refine lv_iload_n hx hb dX13_isThere_26 rfl (lv_at hl 1 rfl) ?_
  refine lv_iload_n hx hb dX13_isThere_27 rfl (lv_at hl 2 rfl) ?_
  have hFc := va_free (wc := [(m0, .inr (13, fs_2)), (mch, .inl (mchC, (4, .inl (fun _ => 0))))]) hD hS hA [0, 1] rfl
  refine va_calli (va_runV (As := [.int 2, .int 3]) (rest := []) ⟨hx, hb, hml, hown, hts⟩ (gx143_X13_isOne l hlt dC dI _ m0 mch md ml fs_2 h_m0 mchC) (cwV 2 hts (gi_V wd_4072 wd_4074 wd_214 wd_340 wd_4075) rfl rfl rfl (by decide +kernel) ⟨(Nat.le_of_ble_eq_true rfl), (Nat.le_of_ble_eq_true rfl)⟩) ⟨fun a U g mk q => by obtain ⟨q0, q1, qP, qK, qD, qT⟩ := q; exact ⟨q0, q1, qP, va_K.moved (u := U) (U := U.calling g mk a) (Vm.Alike.refl U.vm) qK, qD, th.moved (u := U) (U := U.calling g mk a) (Vm.Alike.refl U.vm) qT⟩, va_recv hK hP (ci := 13) (q0 := 0) rfl rfl, fun U hU hW => ⟨rfl, by rw [hU], by rw [hU]; exact hP, va_K.moved hW.alike hK, hD.weaken (fun _ _ _ _ => trivial), by rw [hU]; exact ((hth.kept hS.2.1).narrow hFc).moved hW.alike⟩⟩ rfl rfl hl.1 rfl (lv_room (Nat.le_of_ble_eq_true rfl)) dX13_isThere_28 ⟨(Nat.le_of_ble_eq_true rfl), (Nat.le_of_ble_eq_true rfl)⟩) hS (fun q _ h => hFc q h) hFc (fun r u t H1 locs ht hvm hw hB hz1 hk1 hS => ?_)
  subst hw
  obtain ⟨fs_3, h_m0, hP1, hK1, hD1⟩ := hB
  rw [ht] at hP1
  have hD := hD1.weaken (fun k q _ h => hFc q.1 h)
  have hP := hP1
  generalize H1 = H at hP hS ⊢
  have hP : va_P (dC, dI) CL [(m0, .inr (13, fs_3)), (mch, .inl (mchC, (4, .inl (fun _ => 0))))] H := hP
  have hD : va_D A [(m0, .inr (13, fs_3)), (mch, .inl (mchC, (4, .inl (fun _ => 0))))] := hD
  refine lv_if_eq (tgt := 38) hx hb dX13_isThere_31 (by decide) (fun c9 => ?_) (fun c9 => ?_)
  rotate_left
  · first | exact absurd c9 (by decide +kernel) | exact absurd (by decide +kernel) c9
  refine lv_iconst (v := 0) hx hb dX13_isThere_38 (by decide +kernel) ?_
  exact W.zret (v := 0) hx hb hr rfl (fun t ht hW => ⟨⟨0, (), rfl, rfl, fs_3, h_m0, by rw [ht]; exact hP, va_K.moved hW.alike hK, hD⟩, hS.F ht⟩) hS.2.2 dX13_isThere_39
set_option maxHeartbeats 4000000 in
set_option maxRecDepth 100000 in
theorem gx146_X12_freeDesign (l : Launch) (hlt : l.stackTraces = false) (dC : Nat → ClassId) (dI : Nat → Nat → Nat) (sz : Nat) (x tx rd mcd mnm deA de0 de1 de2 de3 de4 de5 oA bt : Nat) (xg : List Value) (h_x : fx xg 17 [(0, .ref tx), (1, .ref rd), (7, .ref deA), (10, .int 0)]) (txg : List Value) (h_tx : fx txg 9 [(0, .ref bt), (1, .int 0), (2, .int 0), (3, .int 0), (4, .int 0), (6, .int 0), (7, .int 0), (8, .int 0)]) (rdg : List Value) (h_rd : fx rdg 18 [(0, .ref tx), (5, .ref mcd), (6, .ref mnm)]) (mcdC : ClassId) (mcdf : Nat → Int32) (h_mcd : fa mcdf []) (mnmC : ClassId) (mnmf : Nat → Int32) (h_mnm : fa mnmf []) (deAC : ClassId) (deAF : Nat → Option Nat) (de0g : List Value) (h_de0 : fx de0g 16 [(0, .int 0)]) (de1g : List Value) (h_de1 : fx de1g 16 [(0, .int 0)]) (de2g : List Value) (h_de2 : fx de2g 16 [(0, .int 0)]) (de3g : List Value) (h_de3 : fx de3g 16 [(0, .int 0)]) (de4g : List Value) (h_de4 : fx de4g 16 [(0, .int 0)]) (de5g : List Value) (h_de5 : fx de5g 16 [(0, .int 0)]) (oAC : ClassId) (oAf : Nat → Int64) (h_oA : fa oAf []) (h_deA0 : deAF 0 = some de0) (h_deA1 : deAF 1 = some de1) (h_deA2 : deAF 2 = some de2) (h_deA3 : deAF 3 = some de3) (h_deA4 : deAF 4 = some de4) (h_deA5 : deAF 5 = some de5) : Met l yX12_freeDesign (Cond.code yX12_freeDesign cX12_freeDesign 2 (some .int) :: BG) ({ frames := 1, cells := 0, slots := 0, locals := 12 }) (va_Pc [.ref x] (fun U => U.heap.size = sz ∧ va_P (dC, dI) CL [(x, .inr (12, xg)), (tx, .inr (10, txg)), (rd, .inr (7, rdg)), (mcd, .inl (mcdC, (17, .inl mcdf))), (mnm, .inl (mnmC, (17, .inl mnmf))), (deA, .inl (deAC, (6, .inr (.inr (.inr (.inr deAF)))))), (de0, .inr (3, de0g)), (de1, .inr (3, de1g)), (de2, .inr (3, de2g)), (de3, .inr (3, de3g)), (de4, .inr (3, de4g)), (de5, .inr (3, de5g)), (oA, .inl (oAC, (1, .inr (.inl oAf))))] U.heap ∧ va_K (dC, dI) CL [(mcdC, .int), (mnmC, .int), (deAC, .object "ChipFlow$Design"), (oAC, .long)] U ∧ va_D (fun _ => True) [(x, .inr (12, xg)), (tx, .inr (10, txg)), (rd, .inr (7, rdg)), (mcd, .inl (mcdC, (17, .inl mcdf))), (mnm, .inl (mnmC, (17, .inl mnmf))), (deA, .inl (deAC, (6, .inr (.inr (.inr (.inr deAF)))))), (de0, .inr (3, de0g)), (de1, .inr (3, de1g)), (de2, .inr (3, de2g)), (de3, .inr (3, de3g)), (de4, .inr (3, de4g)), (de5, .inr (3, de5g)), (oA, .inl (oAC, (1, .inr (.inl oAf))))] ∧ th (va_A [(x, .inr (12, xg)), (tx, .inr (10, txg)), (rd, .inr (7, rdg)), (mcd, .inl (mcdC, (17, .inl mcdf))), (mnm, .inl (mnmC, (17, .inl mnmf))), (deA, .inl (deAC, (6, .inr (.inr (.inr (.inr deAF)))))), (de0, .inr (3, de0g)), (de1, .inr (3, de1g)), (de2, .inr (3, de2g)), (de3, .inr (3, de3g)), (de4, .inr (3, de4g)), (de5, .inr (3, de5g)), (oA, .inl (oAC, (1, .inr (.inl oAf))))] sz) U U.heap)) (va_Qi (fun (r : Int32) (_ : Unit) => r = 0) (fun _ t => ∃ (xy : List Value) (txy : List Value) (rdy : List Value) (mcdy : Nat → Int32) (mnmy : Nat → Int32) (de0y : List Value) (de1y : List Value) (de2y : List Value) (de3y : List Value) (de4y : List Value) (de5y : List Value) (oAy : Nat → Int64), fx xy 17 [(0, .ref tx), (1, .ref rd), (7, .ref deA), (10, .int 0)] ∧ fx txy 9 [(0, .ref bt), (1, .int 0), (2, .int 0), (3, .int 0), (4, .int 0), (6, .int 0), (7, .int 0), (8, .int 0)] ∧ fx rdy 18 [(0, .ref tx), (5, .ref mcd), (6, .ref mnm)] ∧ fa mcdy [] ∧ fa mnmy [] ∧ fx de0y 16 [(0, .int 0)] ∧ fx de1y 16 [(0, .int 0)] ∧ fx de2y 16 [(0, .int 0)] ∧ fx de3y 16 [(0, .int 0)] ∧ fx de4y 16 [(0, .int 0)] ∧ fx de5y 16 [(0, .int 0)] ∧ fa oAy [] ∧ va_P (dC, dI) CL [(x, .inr (12, xy)), (tx, .inr (10, txy)), (rd, .inr (7, rdy)), (mcd, .inl (mcdC, (17, .inl mcdy))), (mnm, .inl (mnmC, (17, .inl mnmy))), (deA, .inl (deAC, (6, .inr (.inr (.inr (.inr deAF)))))), (de0, .inr (3, de0y)), (de1, .inr (3, de1y)), (de2, .inr (3, de2y)), (de3, .inr (3, de3y)), (de4, .inr (3, de4y)), (de5, .inr (3, de5y)), (oA, .inl (oAC, (1, .inr (.inl oAy))))] t.heap ∧ va_K (dC, dI) CL [(mcdC, .int), (mnmC, .int), (deAC, .object "ChipFlow$Design"), (oAC, .long)] t ∧ va_D (va_A [(x, .inr (12, xg)), (tx, .inr (10, txg)), (rd, .inr (7, rdg)), (mcd, .inl (mcdC, (17, .inl mcdf))), (mnm, .inl (mnmC, (17, .inl mnmf))), (deA, .inl (deAC, (6, .inr (.inr (.inr (.inr deAF)))))), (de0, .inr (3, de0g)), (de1, .inr (3, de1g)), (de2, .inr (3, de2g)), (de3, .inr (3, de3g)), (de4, .inr (3, de4g)), (de5, .inr (3, de5g)), (oA, .inl (oAC, (1, .inr (.inl oAf))))] sz) [(x, .inr (12, xy)), (tx, .inr (10, txy)), (rd, .inr (7, rdy)), (mcd, .inl (mcdC, (17, .inl mcdy))), (mnm, .inl (mnmC, (17, .inl mnmy))), (deA, .inl (deAC, (6, .inr (.inr (.inr (.inr deAF)))))), (de0, .inr (3, de0y)), (de1, .inr (3, de1y)), (de2, .inr (3, de2y)), (de3, .inr (3, de3y)), (de4, .inr (3, de4y)), (de5, .inr (3, de5y)), (oA, .inl (oAC, (1, .inr (.inl oAy))))]) (va_A [(x, .inr (12, xg)), (tx, .inr (10, txg)), (rd, .inr (7, rdg)), (mcd, .inl (mcdC, (17, .inl mcdf))), (mnm, .inl (mnmC, (17, .inl mnmf))), (deA, .inl (deAC, (6, .inr (.inr (.inr (.inr deAF)))))), (de0, .inr (3, de0g)), (de1, .inr (3, de1g)), (de2, .inr (3, de2g)), (de3, .inr (3, de3g)), (de4, .inr (3, de4g)), (de5, .inr (3, de5g)), (oA, .inl (oAC, (1, .inr (.inl oAf))))] sz)) 0 0 (va_A [(x, .inr (12, xg)), (tx, .inr (10, txg)), (rd, .inr (7, rdg)), (mcd, .inl (mcdC, (17, .inl mcdf))), (mnm, .inl (mnmC, (17, .inl mnmf))), (deA, .inl (deAC, (6, .inr (.inr (.inr (.inr deAF)))))), (de0, .inr (3, de0g)), (de1, .inr (3, de1g)), (de2, .inr (3, de2g)), (de3, .inr (3, de3g)), (de4, .inr (3, de4g)), (de5, .inr (3, de5g)), (oA, .inl (oAC, (1, .inr (.inl oAf))))] sz) := by
  refine Met.ofW (cc := cX12_freeDesign) (maxL := 2) (ret := (some .int)) (by decide) rfl ?_
  intro p e s m args below meth c s₁ B hml hv
  obtain ⟨rfl, hsz, hP, hK, hD0, hth⟩ := hv
  have hx := B.exec
  have hb := B.bytes
  have hr := B.returns
  have hts : ∀ w ∈ BG, w.before _ s = true := fun w h => atoms_spec (ws := Cond.code yX12_freeDesign cX12_freeDesign 2 (some .int) :: BG) B.pre w (List.mem_cons_of_mem _ h)
  have hown : s.vm.findClass RX12 = some m.cls := findClass_of_methodNamed B.named
  have hlocks := B.notSynchronized
  subst hsz
  have hD := hD0.self (sz := s.heap.size)
  generalize hAe : va_A [(x, .inr (12, xg)), (tx, .inr (10, txg)), (rd, .inr (7, rdg)), (mcd, .inl (mcdC, (17, .inl mcdf))), (mnm, .inl (mnmC, (17, .inl mnmf))), (deA, .inl (deAC, (6, .inr (.inr (.inr (.inr deAF)))))), (de0, .inr (3, de0g)), (de1, .inr (3, de1g)), (de2, .inr (3, de2g)), (de3, .inr (3, de3g)), (de4, .inr (3, de4g)), (de5, .inr (3, de5g)), (oA, .inl (oAC, (1, .inr (.inl oAf))))] s.heap.size = A at hD hth ⊢
  have hA : ∀ q : Nat, s.heap.size ≤ q → A q := fun q h => by rw [← hAe]; exact Or.inr h
  have hS : va_S A s.heap s.heap [] := va_S.rf
  have hl := lv_entry ([.ref x]) (n := 2) (Nat.le_of_ble_eq_true rfl)
  rw [lg_entry_eq]
  generalize (lg_sl ([.ref x]) ++ List.replicate (2 - (lg_sl ([.ref x])).length) Slot.unset).toArray = ls at hl ⊢
  have hl : lv_has ls 2 [(0, .ref x)] := hl
  obtain ⟨H, eH⟩ : ∃ z, z = s.heap := ⟨_, rfl⟩
  have hP : va_P (dC, dI) CL [(x, .inr (12, xg)), (tx, .inr (10, txg)), (rd, .inr (7, rdg)), (mcd, .inl (mcdC, (17, .inl mcdf))), (mnm, .inl (mnmC, (17, .inl mnmf))), (deA, .inl (deAC, (6, .inr (.inr (.inr (.inr deAF)))))), (de0, .inr (3, de0g)), (de1, .inr (3, de1g)), (de2, .inr (3, de2g)), (de3, .inr (3, de3g)), (de4, .inr (3, de4g)), (de5, .inr (3, de5g)), (oA, .inl (oAC, (1, .inr (.inl oAf))))] H := by rw [eH]; exact hP
  have hS : va_S A s.heap H [] := by rw [eH]; exact hS
  rw [← eH]
  refine lv_iconst (v := 0) hx hb dX12_freeDesign_0 (by decide +kernel) ?_
  refine lv_istore_n (lv' := [(1, .int 0), (0, .ref x)]) hx hb dX12_freeDesign_1 rfl hl (by decide) rfl (fun ls hl => ?_)
  refine lv_iload_n hx hb dX12_freeDesign_2 rfl (lv_at hl 0 rfl) ?_
  refine lv_bipush (v := 6) hx hb dX12_freeDesign_3 (by decide +kernel) ?_
  refine lv_icmp_ge (tgt := 28) hx hb dX12_freeDesign_5 (by decide) (fun c9 => ?_) (fun c9 => ?_)
  · first | exact absurd c9 (by decide +kernel) | exact absurd (by decide +kernel) c9
  refine lv_aload_n hx hb dX12_freeDesign_8 rfl (lv_at hl 1 rfl) ?_
  refine va_get (D := (dC, dI)) (ci := 12) (v := .ref deA) (C := RX12) (T := TX12) (N := 17) hx hb hts inX12 hown hK hP 0 rfl rfl 7 (by decide) (hts (.fieldLink RX12 64 "ChipFlow" "designs" "[LChipFlow$Design;") wd_1185) (fun _ h9 => h9) (h_x.get 2 rfl) dX12_freeDesign_9 ?_
  refine lv_iload_n hx hb dX12_freeDesign_12 rfl (lv_at hl 0 rfl) ?_
  refine va_aldq hx hb hK hP 5 2 rfl rfl (vp_in_nI (n := 0) (N := 6) (by decide) (by decide)) dX12_freeDesign_13 ?_
  rw [show (0 : Int32).toNatClampNeg = 0 by decide +kernel, h_deA0]
  refine W.eq (g2 := F0 m 14 ls [.ref de0]) rfl ?_
  refine va_get (D := (dC, dI)) (ci := 3) (v := .int 0) (C := RX3) (T := TX3) (N := 16) hx hb hts inX3 hown hK hP 6 rfl rfl 0 (by decide) (hts (.fieldLink RX12 148 "ChipFlow$Design" "used" "Z") wd_766) (fun _ h9 => h9) (h_de0.get 0 rfl) dX12_freeDesign_14 ?_
  refine lv_if_ne (tgt := 22) hx hb dX12_freeDesign_17 (by decide) (fun c9 => ?_) (fun c9 => ?_)
  · first | exact absurd c9 (by decide +kernel) | exact absurd (by decide +kernel) c9
  refine lv_iload_n hx hb dX12_freeDesign_20 rfl (lv_at hl 0 rfl) ?_
  exact W.iret (v := 0) hx hb hr (fun t ht hW => ⟨⟨0, (), rfl, rfl, xg, txg, rdg, mcdf, mnmf, de0g, de1g, de2g, de3g, de4g, de5g, oAf, h_x, h_tx, h_rd, h_mcd, h_mnm, h_de0, h_de1, h_de2, h_de3, h_de4, h_de5, h_oA, by rw [ht]; exact hP, va_K.moved hW.alike hK, hD⟩, hS.F ht⟩) hS.2.2 dX12_freeDesign_21
set_option maxHeartbeats 4000000 in
set_option maxRecDepth 100000 in
theorem gx150_X10_skipBlanks (l : Launch) (hlt : l.stackTraces = false) (dC : Nat → ClassId) (dI : Nat → Nat → Nat) (sz : Nat) (x tx rd mcd mnm deA de0 de1 de2 de3 de4 de5 oA bt : Nat) (xg : List Value) (h_x : fx xg 17 [(0, .ref tx), (1, .ref rd), (7, .ref deA), (10, .int 0)]) (txg : List Value) (h_tx : fx txg 9 [(0, .ref bt), (1, .int 0), (2, .int 0), (3, .int 0), (4, .int 0), (6, .int 0), (7, .int 0), (8, .int 0)]) (rdg : List Value) (h_rd : fx rdg 18 [(0, .ref tx), (2, .int 0), (3, .int 0), (5, .ref mcd), (6, .ref mnm), (11, .null)]) (mcdC : ClassId) (mcdf : Nat → Int32) (h_mcd : fa mcdf [(0, 0)]) (mnmC : ClassId) (mnmf : Nat → Int32) (h_mnm : fa mnmf []) (deAC : ClassId) (deAF : Nat → Option Nat) (de0g : List Value) (h_de0 : fx de0g 16 [(0, .int 0)]) (de1g : List Value) (h_de1 : fx de1g 16 [(0, .int 0)]) (de2g : List Value) (h_de2 : fx de2g 16 [(0, .int 0)]) (de3g : List Value) (h_de3 : fx de3g 16 [(0, .int 0)]) (de4g : List Value) (h_de4 : fx de4g 16 [(0, .int 0)]) (de5g : List Value) (h_de5 : fx de5g 16 [(0, .int 0)]) (oAC : ClassId) (oAf : Nat → Int64) (h_oA : fa oAf []) (h_deA0 : deAF 0 = some de0) (h_deA1 : deAF 1 = some de1) (h_deA2 : deAF 2 = some de2) (h_deA3 : deAF 3 = some de3) (h_deA4 : deAF 4 = some de4) (h_deA5 : deAF 5 = some de5) : Met l yX10_skipBlanks (Cond.code yX10_skipBlanks cX10_skipBlanks 3 none :: BG) ({ frames := 1, cells := 0, slots := 0, locals := 12 }) (va_Pc [.ref tx] (fun U => U.heap.size = sz ∧ va_P (dC, dI) CL [(x, .inr (12, xg)), (tx, .inr (10, txg)), (rd, .inr (7, rdg)), (mcd, .inl (mcdC, (17, .inl mcdf))), (mnm, .inl (mnmC, (17, .inl mnmf))), (deA, .inl (deAC, (6, .inr (.inr (.inr (.inr deAF)))))), (de0, .inr (3, de0g)), (de1, .inr (3, de1g)), (de2, .inr (3, de2g)), (de3, .inr (3, de3g)), (de4, .inr (3, de4g)), (de5, .inr (3, de5g)), (oA, .inl (oAC, (1, .inr (.inl oAf))))] U.heap ∧ va_K (dC, dI) CL [(mcdC, .int), (mnmC, .int), (deAC, .object "ChipFlow$Design"), (oAC, .long)] U ∧ va_D (fun _ => True) [(x, .inr (12, xg)), (tx, .inr (10, txg)), (rd, .inr (7, rdg)), (mcd, .inl (mcdC, (17, .inl mcdf))), (mnm, .inl (mnmC, (17, .inl mnmf))), (deA, .inl (deAC, (6, .inr (.inr (.inr (.inr deAF)))))), (de0, .inr (3, de0g)), (de1, .inr (3, de1g)), (de2, .inr (3, de2g)), (de3, .inr (3, de3g)), (de4, .inr (3, de4g)), (de5, .inr (3, de5g)), (oA, .inl (oAC, (1, .inr (.inl oAf))))] ∧ th (va_A [(x, .inr (12, xg)), (tx, .inr (10, txg)), (rd, .inr (7, rdg)), (mcd, .inl (mcdC, (17, .inl mcdf))), (mnm, .inl (mnmC, (17, .inl mnmf))), (deA, .inl (deAC, (6, .inr (.inr (.inr (.inr deAF)))))), (de0, .inr (3, de0g)), (de1, .inr (3, de1g)), (de2, .inr (3, de2g)), (de3, .inr (3, de3g)), (de4, .inr (3, de4g)), (de5, .inr (3, de5g)), (oA, .inl (oAC, (1, .inr (.inl oAf))))] sz) U U.heap)) (va_Qv (fun _ : Unit => True) (fun _ t => ∃ (xy : List Value) (txy : List Value) (rdy : List Value) (mcdy : Nat → Int32) (mnmy : Nat → Int32) (de0y : List Value) (de1y : List Value) (de2y : List Value) (de3y : List Value) (de4y : List Value) (de5y : List Value) (oAy : Nat → Int64), fx xy 17 [(0, .ref tx), (1, .ref rd), (7, .ref deA), (10, .int 0)] ∧ fx txy 9 [(0, .ref bt), (1, .int 0), (2, .int 0), (3, .int 0), (4, .int 0), (6, .int 0), (7, .int 0), (8, .int 0)] ∧ fx rdy 18 [(0, .ref tx), (2, .int 0), (3, .int 0), (5, .ref mcd), (6, .ref mnm), (11, .null)] ∧ fa mcdy [(0, 0)] ∧ fa mnmy [] ∧ fx de0y 16 [(0, .int 0)] ∧ fx de1y 16 [(0, .int 0)] ∧ fx de2y 16 [(0, .int 0)] ∧ fx de3y 16 [(0, .int 0)] ∧ fx de4y 16 [(0, .int 0)] ∧ fx de5y 16 [(0, .int 0)] ∧ fa oAy [] ∧ va_P (dC, dI) CL [(x, .inr (12, xy)), (tx, .inr (10, txy)), (rd, .inr (7, rdy)), (mcd, .inl (mcdC, (17, .inl mcdy))), (mnm, .inl (mnmC, (17, .inl mnmy))), (deA, .inl (deAC, (6, .inr (.inr (.inr (.inr deAF)))))), (de0, .inr (3, de0y)), (de1, .inr (3, de1y)), (de2, .inr (3, de2y)), (de3, .inr (3, de3y)), (de4, .inr (3, de4y)), (de5, .inr (3, de5y)), (oA, .inl (oAC, (1, .inr (.inl oAy))))] t.heap ∧ va_K (dC, dI) CL [(mcdC, .int), (mnmC, .int), (deAC, .object "ChipFlow$Design"), (oAC, .long)] t ∧ va_D (va_A [(x, .inr (12, xg)), (tx, .inr (10, txg)), (rd, .inr (7, rdg)), (mcd, .inl (mcdC, (17, .inl mcdf))), (mnm, .inl (mnmC, (17, .inl mnmf))), (deA, .inl (deAC, (6, .inr (.inr (.inr (.inr deAF)))))), (de0, .inr (3, de0g)), (de1, .inr (3, de1g)), (de2, .inr (3, de2g)), (de3, .inr (3, de3g)), (de4, .inr (3, de4g)), (de5, .inr (3, de5g)), (oA, .inl (oAC, (1, .inr (.inl oAf))))] sz) [(x, .inr (12, xy)), (tx, .inr (10, txy)), (rd, .inr (7, rdy)), (mcd, .inl (mcdC, (17, .inl mcdy))), (mnm, .inl (mnmC, (17, .inl mnmy))), (deA, .inl (deAC, (6, .inr (.inr (.inr (.inr deAF)))))), (de0, .inr (3, de0y)), (de1, .inr (3, de1y)), (de2, .inr (3, de2y)), (de3, .inr (3, de3y)), (de4, .inr (3, de4y)), (de5, .inr (3, de5y)), (oA, .inl (oAC, (1, .inr (.inl oAy))))]) (va_A [(x, .inr (12, xg)), (tx, .inr (10, txg)), (rd, .inr (7, rdg)), (mcd, .inl (mcdC, (17, .inl mcdf))), (mnm, .inl (mnmC, (17, .inl mnmf))), (deA, .inl (deAC, (6, .inr (.inr (.inr (.inr deAF)))))), (de0, .inr (3, de0g)), (de1, .inr (3, de1g)), (de2, .inr (3, de2g)), (de3, .inr (3, de3g)), (de4, .inr (3, de4g)), (de5, .inr (3, de5g)), (oA, .inl (oAC, (1, .inr (.inl oAf))))] sz)) 0 0 (va_A [(x, .inr (12, xg)), (tx, .inr (10, txg)), (rd, .inr (7, rdg)), (mcd, .inl (mcdC, (17, .inl mcdf))), (mnm, .inl (mnmC, (17, .inl mnmf))), (deA, .inl (deAC, (6, .inr (.inr (.inr (.inr deAF)))))), (de0, .inr (3, de0g)), (de1, .inr (3, de1g)), (de2, .inr (3, de2g)), (de3, .inr (3, de3g)), (de4, .inr (3, de4g)), (de5, .inr (3, de5g)), (oA, .inl (oAC, (1, .inr (.inl oAf))))] sz) := by
  refine Met.ofW (cc := cX10_skipBlanks) (maxL := 3) (ret := none) (by decide) rfl ?_
  intro p e s m args below meth c s₁ B hml hv
  obtain ⟨rfl, hsz, hP, hK, hD0, hth⟩ := hv
  have hx := B.exec
  have hb := B.bytes
  have hr := B.returns
  have hts : ∀ w ∈ BG, w.before _ s = true := fun w h => atoms_spec (ws := Cond.code yX10_skipBlanks cX10_skipBlanks 3 none :: BG) B.pre w (List.mem_cons_of_mem _ h)
  have hown : s.vm.findClass RX10 = some m.cls := findClass_of_methodNamed B.named
  have hlocks := B.notSynchronized
  subst hsz
  have hD := hD0.self (sz := s.heap.size)
  generalize hAe : va_A [(x, .inr (12, xg)), (tx, .inr (10, txg)), (rd, .inr (7, rdg)), (mcd, .inl (mcdC, (17, .inl mcdf))), (mnm, .inl (mnmC, (17, .inl mnmf))), (deA, .inl (deAC, (6, .inr (.inr (.inr (.inr deAF)))))), (de0, .inr (3, de0g)), (de1, .inr (3, de1g)), (de2, .inr (3, de2g)), (de3, .inr (3, de3g)), (de4, .inr (3, de4g)), (de5, .inr (3, de5g)), (oA, .inl (oAC, (1, .inr (.inl oAf))))] s.heap.size = A at hD hth ⊢
  have hA : ∀ q : Nat, s.heap.size ≤ q → A q := fun q h => by rw [← hAe]; exact Or.inr h
  have hS : va_S A s.heap s.heap [] := va_S.rf
  have hl := lv_entry ([.ref tx]) (n := 3) (Nat.le_of_ble_eq_true rfl)
  rw [lg_entry_eq]
  generalize (lg_sl ([.ref tx]) ++ List.replicate (3 - (lg_sl ([.ref tx])).length) Slot.unset).toArray = ls at hl ⊢
  have hl : lv_has ls 3 [(0, .ref tx)] := hl
  obtain ⟨H, eH⟩ : ∃ z, z = s.heap := ⟨_, rfl⟩
  have hP : va_P (dC, dI) CL [(x, .inr (12, xg)), (tx, .inr (10, txg)), (rd, .inr (7, rdg)), (mcd, .inl (mcdC, (17, .inl mcdf))), (mnm, .inl (mnmC, (17, .inl mnmf))), (deA, .inl (deAC, (6, .inr (.inr (.inr (.inr deAF)))))), (de0, .inr (3, de0g)), (de1, .inr (3, de1g)), (de2, .inr (3, de2g)), (de3, .inr (3, de3g)), (de4, .inr (3, de4g)), (de5, .inr (3, de5g)), (oA, .inl (oAC, (1, .inr (.inl oAf))))] H := by rw [eH]; exact hP
  have hS : va_S A s.heap H [] := by rw [eH]; exact hS
  rw [← eH]
  refine lv_iconst (v := 0) hx hb dX10_skipBlanks_0 (by decide +kernel) ?_
  refine lv_istore_n (lv' := [(1, .int 0), (0, .ref tx)]) hx hb dX10_skipBlanks_1 rfl hl (by decide) rfl (fun ls hl => ?_)
  refine lv_aload_n hx hb dX10_skipBlanks_2 rfl (lv_at hl 1 rfl) ?_
  refine va_get (D := (dC, dI)) (ci := 10) (v := .int 0) (C := RX10) (T := TX10) (N := 9) hx hb hts inX10 hown hK hP 1 rfl rfl 8 (by decide) (hts (.fieldLink RX10 18 "ChipFlow$Text" "next" "I") wd_391) (fun _ h9 => h9) (h_tx.get 7 rfl) dX10_skipBlanks_3 ?_
  refine lv_aload_n hx hb dX10_skipBlanks_6 rfl (lv_at hl 1 rfl) ?_
  refine va_get (D := (dC, dI)) (ci := 10) (v := .int 0) (C := RX10) (T := TX10) (N := 9) hx hb hts inX10 hown hK hP 1 rfl rfl 1 (by decide) (hts (.fieldLink RX10 14 "ChipFlow$Text" "length" "I") wd_379) (fun _ h9 => h9) (h_tx.get 1 rfl) dX10_skipBlanks_7 ?_
  refine lv_icmp_ge (tgt := 81) hx hb dX10_skipBlanks_10 (by decide) (fun c9 => ?_) (fun c9 => ?_)
  rotate_left
  · first | exact absurd c9 (by decide +kernel) | exact absurd (by decide +kernel) c9
  exact W.vret hx hb hr (fun t ht hW => ⟨⟨(), rfl, trivial, xg, txg, rdg, mcdf, mnmf, de0g, de1g, de2g, de3g, de4g, de5g, oAf, h_x, h_tx, h_rd, h_mcd, h_mnm, h_de0, h_de1, h_de2, h_de3, h_de4, h_de5, h_oA, by rw [ht]; exact hP, va_K.moved hW.alike hK, hD⟩, hS.F ht⟩) hS.2.2 dX10_skipBlanks_81
set_option maxHeartbeats 4000000 in
set_option maxRecDepth 100000 in
theorem gx149_X10_advance (l : Launch) (hlt : l.stackTraces = false) (dC : Nat → ClassId) (dI : Nat → Nat → Nat) (sz : Nat) (x tx rd mcd mnm deA de0 de1 de2 de3 de4 de5 oA bt : Nat) (xg : List Value) (h_x : fx xg 17 [(0, .ref tx), (1, .ref rd), (7, .ref deA), (10, .int 0)]) (txg : List Value) (h_tx : fx txg 9 [(0, .ref bt), (1, .int 0), (2, .int 0), (3, .int 0), (4, .int 0), (6, .int 0), (7, .int 0), (8, .int 0)]) (rdg : List Value) (h_rd : fx rdg 18 [(0, .ref tx), (2, .int 0), (3, .int 0), (5, .ref mcd), (6, .ref mnm), (11, .null)]) (mcdC : ClassId) (mcdf : Nat → Int32) (h_mcd : fa mcdf [(0, 0)]) (mnmC : ClassId) (mnmf : Nat → Int32) (h_mnm : fa mnmf []) (deAC : ClassId) (deAF : Nat → Option Nat) (de0g : List Value) (h_de0 : fx de0g 16 [(0, .int 0)]) (de1g : List Value) (h_de1 : fx de1g 16 [(0, .int 0)]) (de2g : List Value) (h_de2 : fx de2g 16 [(0, .int 0)]) (de3g : List Value) (h_de3 : fx de3g 16 [(0, .int 0)]) (de4g : List Value) (h_de4 : fx de4g 16 [(0, .int 0)]) (de5g : List Value) (h_de5 : fx de5g 16 [(0, .int 0)]) (oAC : ClassId) (oAf : Nat → Int64) (h_oA : fa oAf []) (h_deA0 : deAF 0 = some de0) (h_deA1 : deAF 1 = some de1) (h_deA2 : deAF 2 = some de2) (h_deA3 : deAF 3 = some de3) (h_deA4 : deAF 4 = some de4) (h_deA5 : deAF 5 = some de5) : Met l yX10_advance (Cond.code yX10_advance cX10_advance 3 none :: BG) ({ frames := 2, cells := 0, slots := 0, locals := 34 }) (va_Pc [.ref tx] (fun U => U.heap.size = sz ∧ va_P (dC, dI) CL [(x, .inr (12, xg)), (tx, .inr (10, txg)), (rd, .inr (7, rdg)), (mcd, .inl (mcdC, (17, .inl mcdf))), (mnm, .inl (mnmC, (17, .inl mnmf))), (deA, .inl (deAC, (6, .inr (.inr (.inr (.inr deAF)))))), (de0, .inr (3, de0g)), (de1, .inr (3, de1g)), (de2, .inr (3, de2g)), (de3, .inr (3, de3g)), (de4, .inr (3, de4g)), (de5, .inr (3, de5g)), (oA, .inl (oAC, (1, .inr (.inl oAf))))] U.heap ∧ va_K (dC, dI) CL [(mcdC, .int), (mnmC, .int), (deAC, .object "ChipFlow$Design"), (oAC, .long)] U ∧ va_D (fun _ => True) [(x, .inr (12, xg)), (tx, .inr (10, txg)), (rd, .inr (7, rdg)), (mcd, .inl (mcdC, (17, .inl mcdf))), (mnm, .inl (mnmC, (17, .inl mnmf))), (deA, .inl (deAC, (6, .inr (.inr (.inr (.inr deAF)))))), (de0, .inr (3, de0g)), (de1, .inr (3, de1g)), (de2, .inr (3, de2g)), (de3, .inr (3, de3g)), (de4, .inr (3, de4g)), (de5, .inr (3, de5g)), (oA, .inl (oAC, (1, .inr (.inl oAf))))] ∧ th (va_A [(x, .inr (12, xg)), (tx, .inr (10, txg)), (rd, .inr (7, rdg)), (mcd, .inl (mcdC, (17, .inl mcdf))), (mnm, .inl (mnmC, (17, .inl mnmf))), (deA, .inl (deAC, (6, .inr (.inr (.inr (.inr deAF)))))), (de0, .inr (3, de0g)), (de1, .inr (3, de1g)), (de2, .inr (3, de2g)), (de3, .inr (3, de3g)), (de4, .inr (3, de4g)), (de5, .inr (3, de5g)), (oA, .inl (oAC, (1, .inr (.inl oAf))))] sz) U U.heap)) (va_Qv (fun _ : Unit => True) (fun _ t => ∃ (xy : List Value) (txy : List Value) (rdy : List Value) (mcdy : Nat → Int32) (mnmy : Nat → Int32) (de0y : List Value) (de1y : List Value) (de2y : List Value) (de3y : List Value) (de4y : List Value) (de5y : List Value) (oAy : Nat → Int64), fx xy 17 [(0, .ref tx), (1, .ref rd), (7, .ref deA), (10, .int 0)] ∧ fx txy 9 [(0, .ref bt), (1, .int 0), (2, .int 0), (3, .int 0), (4, .int 0), (6, .int 0), (7, .int 0), (8, .int 0)] ∧ fx rdy 18 [(0, .ref tx), (2, .int 0), (3, .int 0), (5, .ref mcd), (6, .ref mnm), (11, .null)] ∧ fa mcdy [(0, 0)] ∧ fa mnmy [] ∧ fx de0y 16 [(0, .int 0)] ∧ fx de1y 16 [(0, .int 0)] ∧ fx de2y 16 [(0, .int 0)] ∧ fx de3y 16 [(0, .int 0)] ∧ fx de4y 16 [(0, .int 0)] ∧ fx de5y 16 [(0, .int 0)] ∧ fa oAy [] ∧ va_P (dC, dI) CL [(x, .inr (12, xy)), (tx, .inr (10, txy)), (rd, .inr (7, rdy)), (mcd, .inl (mcdC, (17, .inl mcdy))), (mnm, .inl (mnmC, (17, .inl mnmy))), (deA, .inl (deAC, (6, .inr (.inr (.inr (.inr deAF)))))), (de0, .inr (3, de0y)), (de1, .inr (3, de1y)), (de2, .inr (3, de2y)), (de3, .inr (3, de3y)), (de4, .inr (3, de4y)), (de5, .inr (3, de5y)), (oA, .inl (oAC, (1, .inr (.inl oAy))))] t.heap ∧ va_K (dC, dI) CL [(mcdC, .int), (mnmC, .int), (deAC, .object "ChipFlow$Design"), (oAC, .long)] t ∧ va_D (va_A [(x, .inr (12, xg)), (tx, .inr (10, txg)), (rd, .inr (7, rdg)), (mcd, .inl (mcdC, (17, .inl mcdf))), (mnm, .inl (mnmC, (17, .inl mnmf))), (deA, .inl (deAC, (6, .inr (.inr (.inr (.inr deAF)))))), (de0, .inr (3, de0g)), (de1, .inr (3, de1g)), (de2, .inr (3, de2g)), (de3, .inr (3, de3g)), (de4, .inr (3, de4g)), (de5, .inr (3, de5g)), (oA, .inl (oAC, (1, .inr (.inl oAf))))] sz) [(x, .inr (12, xy)), (tx, .inr (10, txy)), (rd, .inr (7, rdy)), (mcd, .inl (mcdC, (17, .inl mcdy))), (mnm, .inl (mnmC, (17, .inl mnmy))), (deA, .inl (deAC, (6, .inr (.inr (.inr (.inr deAF)))))), (de0, .inr (3, de0y)), (de1, .inr (3, de1y)), (de2, .inr (3, de2y)), (de3, .inr (3, de3y)), (de4, .inr (3, de4y)), (de5, .inr (3, de5y)), (oA, .inl (oAC, (1, .inr (.inl oAy))))]) (va_A [(x, .inr (12, xg)), (tx, .inr (10, txg)), (rd, .inr (7, rdg)), (mcd, .inl (mcdC, (17, .inl mcdf))), (mnm, .inl (mnmC, (17, .inl mnmf))), (deA, .inl (deAC, (6, .inr (.inr (.inr (.inr deAF)))))), (de0, .inr (3, de0g)), (de1, .inr (3, de1g)), (de2, .inr (3, de2g)), (de3, .inr (3, de3g)), (de4, .inr (3, de4g)), (de5, .inr (3, de5g)), (oA, .inl (oAC, (1, .inr (.inl oAf))))] sz)) 0 0 (va_A [(x, .inr (12, xg)), (tx, .inr (10, txg)), (rd, .inr (7, rdg)), (mcd, .inl (mcdC, (17, .inl mcdf))), (mnm, .inl (mnmC, (17, .inl mnmf))), (deA, .inl (deAC, (6, .inr (.inr (.inr (.inr deAF)))))), (de0, .inr (3, de0g)), (de1, .inr (3, de1g)), (de2, .inr (3, de2g)), (de3, .inr (3, de3g)), (de4, .inr (3, de4g)), (de5, .inr (3, de5g)), (oA, .inl (oAC, (1, .inr (.inl oAf))))] sz) := by
  refine Met.ofW (cc := cX10_advance) (maxL := 3) (ret := none) (by decide) rfl ?_
  intro p e s m args below meth c s₁ B hml hv
  obtain ⟨rfl, hsz, hP, hK, hD0, hth⟩ := hv
  have hx := B.exec
  have hb := B.bytes
  have hr := B.returns
  have hts : ∀ w ∈ BG, w.before _ s = true := fun w h => atoms_spec (ws := Cond.code yX10_advance cX10_advance 3 none :: BG) B.pre w (List.mem_cons_of_mem _ h)
  have hown : s.vm.findClass RX10 = some m.cls := findClass_of_methodNamed B.named
  have hlocks := B.notSynchronized
  subst hsz
  have hD := hD0.self (sz := s.heap.size)
  generalize hAe : va_A [(x, .inr (12, xg)), (tx, .inr (10, txg)), (rd, .inr (7, rdg)), (mcd, .inl (mcdC, (17, .inl mcdf))), (mnm, .inl (mnmC, (17, .inl mnmf))), (deA, .inl (deAC, (6, .inr (.inr (.inr (.inr deAF)))))), (de0, .inr (3, de0g)), (de1, .inr (3, de1g)), (de2, .inr (3, de2g)), (de3, .inr (3, de3g)), (de4, .inr (3, de4g)), (de5, .inr (3, de5g)), (oA, .inl (oAC, (1, .inr (.inl oAf))))] s.heap.size = A at hD hth ⊢
  have hA : ∀ q : Nat, s.heap.size ≤ q → A q := fun q h => by rw [← hAe]; exact Or.inr h
  have hS : va_S A s.heap s.heap [] := va_S.rf
  have hl := lv_entry ([.ref tx]) (n := 3) (Nat.le_of_ble_eq_true rfl)
  rw [lg_entry_eq]
  generalize (lg_sl ([.ref tx]) ++ List.replicate (3 - (lg_sl ([.ref tx])).length) Slot.unset).toArray = ls at hl ⊢
  have hl : lv_has ls 3 [(0, .ref tx)] := hl
  obtain ⟨H, eH⟩ : ∃ z, z = s.heap := ⟨_, rfl⟩
  have hP : va_P (dC, dI) CL [(x, .inr (12, xg)), (tx, .inr (10, txg)), (rd, .inr (7, rdg)), (mcd, .inl (mcdC, (17, .inl mcdf))), (mnm, .inl (mnmC, (17, .inl mnmf))), (deA, .inl (deAC, (6, .inr (.inr (.inr (.inr deAF)))))), (de0, .inr (3, de0g)), (de1, .inr (3, de1g)), (de2, .inr (3, de2g)), (de3, .inr (3, de3g)), (de4, .inr (3, de4g)), (de5, .inr (3, de5g)), (oA, .inl (oAC, (1, .inr (.inl oAf))))] H := by rw [eH]; exact hP
  have hS : va_S A s.heap H [] := by rw [eH]; exact hS
  rw [← eH]
  refine lv_aload_n hx hb dX10_advance_0 rfl (lv_at hl 0 rfl) ?_
  have hFc := va_free (wc := [(x, .inr (12, xg)), (tx, .inr (10, txg)), (rd, .inr (7, rdg)), (mcd, .inl (mcdC, (17, .inl mcdf))), (mnm, .inl (mnmC, (17, .inl mnmf))), (deA, .inl (deAC, (6, .inr (.inr (.inr (.inr deAF)))))), (de0, .inr (3, de0g)), (de1, .inr (3, de1g)), (de2, .inr (3, de2g)), (de3, .inr (3, de3g)), (de4, .inr (3, de4g)), (de5, .inr (3, de5g)), (oA, .inl (oAC, (1, .inr (.inl oAf))))]) hD hS hA [0, 1, 2, 3, 4, 5, 6, 7, 8, 9, 10, 11, 12] rfl
  refine va_callv (va_runV (As := []) (rest := []) ⟨hx, hb, hml, hown, hts⟩ (gx150_X10_skipBlanks l hlt dC dI _ x tx rd mcd mnm deA de0 de1 de2 de3 de4 de5 oA bt xg h_x txg h_tx rdg h_rd mcdC mcdf h_mcd mnmC mnmf h_mnm deAC deAF de0g h_de0 de1g h_de1 de2g h_de2 de3g h_de3 de4g h_de4 de5g h_de5 oAC oAf h_oA h_deA0 h_deA1 h_deA2 h_deA3 h_deA4 h_deA5) (cwV 0 hts (gi_V wd_1370 wd_1372 wd_2 wd_328 wd_1373) rfl rfl rfl (by decide +kernel) ⟨(Nat.le_of_ble_eq_true rfl), (Nat.le_of_ble_eq_true rfl)⟩) ⟨fun a U g mk q => by obtain ⟨q0, q1, qP, qK, qD, qT⟩ := q; exact ⟨q0, q1, qP, va_K.moved (u := U) (U := U.calling g mk a) (Vm.Alike.refl U.vm) qK, qD, th.moved (u := U) (U := U.calling g mk a) (Vm.Alike.refl U.vm) qT⟩, va_recv hK hP (ci := 10) (q0 := 1) rfl rfl, fun U hU hW => ⟨rfl, by rw [hU], by rw [hU]; exact hP, va_K.moved hW.alike hK, hD.weaken (fun _ _ _ _ => trivial), by rw [hU]; exact ((hth.kept hS.2.1).narrow hFc).moved hW.alike⟩⟩ rfl rfl hl.1 rfl (lv_room (Nat.le_of_ble_eq_true rfl)) dX10_advance_1 ⟨(Nat.le_of_ble_eq_true rfl), (Nat.le_of_ble_eq_true rfl)⟩) hS (fun q _ h => hFc q h) hFc (fun u t H1 locs ht hvm hw hB hz1 hk1 hS => ?_)
  obtain ⟨fs_1, fs_2, fs_3, f_4, f_5, fs_6, fs_7, fs_8, fs_9, fs_10, fs_11, f_12, h_x, h_tx, h_rd, h_mcd, h_mnm, h_de0, h_de1, h_de2, h_de3, h_de4, h_de5, h_oA, hP1, hK1, hD1⟩ := hB
  rw [ht] at hP1
  have hD := hD1.weaken (fun k q _ h => hFc q.1 h)
  have hP := hP1
  generalize H1 = H at hP hS ⊢
  have hP : va_P (dC, dI) CL [(x, .inr (12, fs_1)), (tx, .inr (10, fs_2)), (rd, .inr (7, fs_3)), (mcd, .inl (mcdC, (17, .inl f_4))), (mnm, .inl (mnmC, (17, .inl f_5))), (deA, .inl (deAC, (6, .inr (.inr (.inr (.inr deAF)))))), (de0, .inr (3, fs_6)), (de1, .inr (3, fs_7)), (de2, .inr (3, fs_8)), (de3, .inr (3, fs_9)), (de4, .inr (3, fs_10)), (de5, .inr (3, fs_11)), (oA, .inl (oAC, (1, .inr (.inl f_12))))] H := hP
  have hD : va_D A [(x, .inr (12, fs_1)), (tx, .inr (10, fs_2)), (rd, .inr (7, fs_3)), (mcd, .inl (mcdC, (17, .inl f_4))), (mnm, .inl (mnmC, (17, .inl f_5))), (deA, .inl (deAC, (6, .inr (.inr (.inr (.inr deAF)))))), (de0, .inr (3, fs_6)), (de1, .inr (3, fs_7)), (de2, .inr (3, fs_8)), (de3, .inr (3, fs_9)), (de4, .inr (3, fs_10)), (de5, .inr (3, fs_11)), (oA, .inl (oAC, (1, .inr (.inl f_12))))] := hD
  refine lv_aload_n hx hb dX10_advance_4 rfl (lv_at hl 0 rfl) ?_
  refine lv_aload_n hx hb dX10_advance_5 rfl (lv_at hl 0 rfl) ?_
  refine va_get (D := (dC, dI)) (ci := 10) (v := .int 0) (C := RX10) (T := TX10) (N := 9) hx hb hts inX10 hown hK hP 1 rfl rfl 8 (by decide) (hts (.fieldLink RX10 18 "ChipFlow$Text" "next" "I") wd_391) (fun _ h9 => h9) (h_tx.get 7 rfl) dX10_advance_6 ?_
  refine va_put (D := (dC, dI)) (ci := 10) (v := .int 0) (ty := tyX10 3) (C := RX10) (T := TX10) (N := 9) hx hb hts inX10 tyX10 tyX10_ok nmX10 hown hK hP hD hS 1 rfl rfl 3 (by decide) (hts (.fieldLink RX10 36 "ChipFlow$Text" "start" "I") wd_383) (fun _ h9 => h9) rfl (by decide +kernel) rfl rfl (by rw [h_tx.1]; decide) dX10_advance_9 (fun H locs hP hD hS => ?_)
  obtain ⟨fs_13, e9⟩ : ∃ z, z = fs_2.set 3 (.int 0) := ⟨_, rfl⟩
  have h_tx : fx fs_13 9 [(0, .ref bt), (1, .int 0), (2, .int 0), (3, .int 0), (4, .int 0), (6, .int 0), (7, .int 0), (8, .int 0)] := by rw [e9]; exact (h_tx.put (F' := [(3, .int 0), (0, .ref bt), (1, .int 0), (2, .int 0), (4, .int 0), (6, .int 0), (7, .int 0), (8, .int 0)]) (by decide) _ rfl).sub [1, 2, 3, 0, 4, 5, 6, 7] rfl
  have hP : va_P (dC, dI) CL [(x, .inr (12, fs_1)), (tx, .inr (10, fs_13)), (rd, .inr (7, fs_3)), (mcd, .inl (mcdC, (17, .inl f_4))), (mnm, .inl (mnmC, (17, .inl f_5))), (deA, .inl (deAC, (6, .inr (.inr (.inr (.inr deAF)))))), (de0, .inr (3, fs_6)), (de1, .inr (3, fs_7)), (de2, .inr (3, fs_8)), (de3, .inr (3, fs_9)), (de4, .inr (3, fs_10)), (de5, .inr (3, fs_11)), (oA, .inl (oAC, (1, .inr (.inl f_12))))] H := by rw [e9]; exact hP
  have hD : va_D A [(x, .inr (12, fs_1)), (tx, .inr (10, fs_13)), (rd, .inr (7, fs_3)), (mcd, .inl (mcdC, (17, .inl f_4))), (mnm, .inl (mnmC, (17, .inl f_5))), (deA, .inl (deAC, (6, .inr (.inr (.inr (.inr deAF)))))), (de0, .inr (3, fs_6)), (de1, .inr (3, fs_7)), (de2, .inr (3, fs_8)), (de3, .inr (3, fs_9)), (de4, .inr (3, fs_10)), (de5, .inr (3, fs_11)), (oA, .inl (oAC, (1, .inr (.inl f_12))))] := by rw [e9]; exact hD
  clear e9
  refine lv_aload_n hx hb dX10_advance_12 rfl (lv_at hl 0 rfl) ?_
  refine lv_iconst (v := 0) hx hb dX10_advance_13 (by decide +kernel) ?_
  refine va_put (D := (dC, dI)) (ci := 10) (v := .int 0) (ty := tyX10 4) (C := RX10) (T := TX10) (N := 9) hx hb hts inX10 tyX10 tyX10_ok nmX10 hown hK hP hD hS 1 rfl rfl 4 (by decide) (hts (.fieldLink RX10 43 "ChipFlow$Text" "size" "I") wd_384) (fun _ h9 => h9) rfl (by decide +kernel) rfl rfl (by rw [h_tx.1]; decide) dX10_advance_14 (fun H locs hP hD hS => ?_)
  obtain ⟨fs_14, e9⟩ : ∃ z, z = fs_13.set 4 (.int 0) := ⟨_, rfl⟩
  have h_tx : fx fs_14 9 [(0, .ref bt), (1, .int 0), (2, .int 0), (3, .int 0), (4, .int 0), (6, .int 0), (7, .int 0), (8, .int 0)] := by rw [e9]; exact (h_tx.put (F' := [(4, .int 0), (0, .ref bt), (1, .int 0), (2, .int 0), (3, .int 0), (6, .int 0), (7, .int 0), (8, .int 0)]) (by decide) _ rfl).sub [1, 2, 3, 4, 0, 5, 6, 7] rfl
  have hP : va_P (dC, dI) CL [(x, .inr (12, fs_1)), (tx, .inr (10, fs_14)), (rd, .inr (7, fs_3)), (mcd, .inl (mcdC, (17, .inl f_4))), (mnm, .inl (mnmC, (17, .inl f_5))), (deA, .inl (deAC, (6, .inr (.inr (.inr (.inr deAF)))))), (de0, .inr (3, fs_6)), (de1, .inr (3, fs_7)), (de2, .inr (3, fs_8)), (de3, .inr (3, fs_9)), (de4, .inr (3, fs_10)), (de5, .inr (3, fs_11)), (oA, .inl (oAC, (1, .inr (.inl f_12))))] H := by rw [e9]; exact hP
  have hD : va_D A [(x, .inr (12, fs_1)), (tx, .inr (10, fs_14)), (rd, .inr (7, fs_3)), (mcd, .inl (mcdC, (17, .inl f_4))), (mnm, .inl (mnmC, (17, .inl f_5))), (deA, .inl (deAC, (6, .inr (.inr (.inr (.inr deAF)))))), (de0, .inr (3, fs_6)), (de1, .inr (3, fs_7)), (de2, .inr (3, fs_8)), (de3, .inr (3, fs_9)), (de4, .inr (3, fs_10)), (de5, .inr (3, fs_11)), (oA, .inl (oAC, (1, .inr (.inl f_12))))] := by rw [e9]; exact hD
  clear e9
  refine lv_aload_n hx hb dX10_advance_17 rfl (lv_at hl 0 rfl) ?_
  refine va_get (D := (dC, dI)) (ci := 10) (v := .int 0) (C := RX10) (T := TX10) (N := 9) hx hb hts inX10 hown hK hP 1 rfl rfl 8 (by decide) (hts (.fieldLink RX10 18 "ChipFlow$Text" "next" "I") wd_391) (fun _ h9 => h9) (h_tx.get 7 rfl) dX10_advance_18 ?_
  refine lv_aload_n hx hb dX10_advance_21 rfl (lv_at hl 0 rfl) ?_
  refine va_get (D := (dC, dI)) (ci := 10) (v := .int 0) (C := RX10) (T := TX10) (N := 9) hx hb hts inX10 hown hK hP 1 rfl rfl 1 (by decide) (hts (.fieldLink RX10 14 "ChipFlow$Text" "length" "I") wd_379) (fun _ h9 => h9) (h_tx.get 1 rfl) dX10_advance_22 ?_
  refine lv_icmp_lt (tgt := 34) hx hb dX10_advance_25 (by decide) (fun c9 => ?_) (fun c9 => ?_)
  · first | exact absurd c9 (by decide +kernel) | exact absurd (by decide +kernel) c9
  refine lv_aload_n hx hb dX10_advance_28 rfl (lv_at hl 0 rfl) ?_
  refine lv_iconst (v := 0) hx hb dX10_advance_29 (by decide +kernel) ?_
  refine va_put (D := (dC, dI)) (ci := 10) (v := .int 0) (ty := tyX10 2) (C := RX10) (T := TX10) (N := 9) hx hb hts inX10 tyX10 tyX10_ok nmX10 hown hK hP hD hS 1 rfl rfl 2 (by decide) (hts (.fieldLink RX10 33 "ChipFlow$Text" "kind" "I") wd_381) (fun _ h9 => h9) rfl (by decide +kernel) rfl rfl (by rw [h_tx.1]; decide) dX10_advance_30 (fun H locs hP hD hS => ?_)
  obtain ⟨fs_15, e9⟩ : ∃ z, z = fs_14.set 2 (.int 0) := ⟨_, rfl⟩
  have h_tx : fx fs_15 9 [(0, .ref bt), (1, .int 0), (2, .int 0), (3, .int 0), (4, .int 0), (6, .int 0), (7, .int 0), (8, .int 0)] := by rw [e9]; exact (h_tx.put (F' := [(2, .int 0), (0, .ref bt), (1, .int 0), (3, .int 0), (4, .int 0), (6, .int 0), (7, .int 0), (8, .int 0)]) (by decide) _ rfl).sub [1, 2, 0, 3, 4, 5, 6, 7] rfl
  have hP : va_P (dC, dI) CL [(x, .inr (12, fs_1)), (tx, .inr (10, fs_15)), (rd, .inr (7, fs_3)), (mcd, .inl (mcdC, (17, .inl f_4))), (mnm, .inl (mnmC, (17, .inl f_5))), (deA, .inl (deAC, (6, .inr (.inr (.inr (.inr deAF)))))), (de0, .inr (3, fs_6)), (de1, .inr (3, fs_7)), (de2, .inr (3, fs_8)), (de3, .inr (3, fs_9)), (de4, .inr (3, fs_10)), (de5, .inr (3, fs_11)), (oA, .inl (oAC, (1, .inr (.inl f_12))))] H := by rw [e9]; exact hP
  have hD : va_D A [(x, .inr (12, fs_1)), (tx, .inr (10, fs_15)), (rd, .inr (7, fs_3)), (mcd, .inl (mcdC, (17, .inl f_4))), (mnm, .inl (mnmC, (17, .inl f_5))), (deA, .inl (deAC, (6, .inr (.inr (.inr (.inr deAF)))))), (de0, .inr (3, fs_6)), (de1, .inr (3, fs_7)), (de2, .inr (3, fs_8)), (de3, .inr (3, fs_9)), (de4, .inr (3, fs_10)), (de5, .inr (3, fs_11)), (oA, .inl (oAC, (1, .inr (.inl f_12))))] := by rw [e9]; exact hD
  clear e9
  exact W.vret hx hb hr (fun t ht hW => ⟨⟨(), rfl, trivial, fs_1, fs_15, fs_3, f_4, f_5, fs_6, fs_7, fs_8, fs_9, fs_10, fs_11, f_12, h_x, h_tx, h_rd, h_mcd, h_mnm, h_de0, h_de1, h_de2, h_de3, h_de4, h_de5, h_oA, by rw [ht]; exact hP, va_K.moved hW.alike hK, hD⟩, hS.F ht⟩) hS.2.2 dX10_advance_33
set_option maxHeartbeats 4000000 in
set_option maxRecDepth 100000 in
theorem gx148_X10_begin (l : Launch) (hlt : l.stackTraces = false) (dC : Nat → ClassId) (dI : Nat → Nat → Nat) (sz : Nat) (x tx rd mcd mnm deA de0 de1 de2 de3 de4 de5 oA bt : Nat) (xg : List Value) (h_x : fx xg 17 [(0, .ref tx), (1, .ref rd), (7, .ref deA), (10, .int 0)]) (txg : List Value) (h_tx : fx txg 9 [(0, .ref bt), (1, .int 0), (2, .int 0), (3, .int 0), (4, .int 0), (6, .int 0), (7, .int 0), (8, .int 0)]) (rdg : List Value) (h_rd : fx rdg 18 [(0, .ref tx), (2, .int 0), (3, .int 0), (5, .ref mcd), (6, .ref mnm), (11, .null)]) (mcdC : ClassId) (mcdf : Nat → Int32) (h_mcd : fa mcdf [(0, 0)]) (mnmC : ClassId) (mnmf : Nat → Int32) (h_mnm : fa mnmf []) (deAC : ClassId) (deAF : Nat → Option Nat) (de0g : List Value) (h_de0 : fx de0g 16 [(0, .int 0)]) (de1g : List Value) (h_de1 : fx de1g 16 [(0, .int 0)]) (de2g : List Value) (h_de2 : fx de2g 16 [(0, .int 0)]) (de3g : List Value) (h_de3 : fx de3g 16 [(0, .int 0)]) (de4g : List Value) (h_de4 : fx de4g 16 [(0, .int 0)]) (de5g : List Value) (h_de5 : fx de5g 16 [(0, .int 0)]) (oAC : ClassId) (oAf : Nat → Int64) (h_oA : fa oAf []) (h_deA0 : deAF 0 = some de0) (h_deA1 : deAF 1 = some de1) (h_deA2 : deAF 2 = some de2) (h_deA3 : deAF 3 = some de3) (h_deA4 : deAF 4 = some de4) (h_deA5 : deAF 5 = some de5) : Met l yX10_begin (Cond.code yX10_begin cX10_begin 1 none :: BG) ({ frames := 3, cells := 0, slots := 0, locals := 56 }) (va_Pc [.ref tx] (fun U => U.heap.size = sz ∧ va_P (dC, dI) CL [(x, .inr (12, xg)), (tx, .inr (10, txg)), (rd, .inr (7, rdg)), (mcd, .inl (mcdC, (17, .inl mcdf))), (mnm, .inl (mnmC, (17, .inl mnmf))), (deA, .inl (deAC, (6, .inr (.inr (.inr (.inr deAF)))))), (de0, .inr (3, de0g)), (de1, .inr (3, de1g)), (de2, .inr (3, de2g)), (de3, .inr (3, de3g)), (de4, .inr (3, de4g)), (de5, .inr (3, de5g)), (oA, .inl (oAC, (1, .inr (.inl oAf))))] U.heap ∧ va_K (dC, dI) CL [(mcdC, .int), (mnmC, .int), (deAC, .object "ChipFlow$Design"), (oAC, .long)] U ∧ va_D (fun _ => True) [(x, .inr (12, xg)), (tx, .inr (10, txg)), (rd, .inr (7, rdg)), (mcd, .inl (mcdC, (17, .inl mcdf))), (mnm, .inl (mnmC, (17, .inl mnmf))), (deA, .inl (deAC, (6, .inr (.inr (.inr (.inr deAF)))))), (de0, .inr (3, de0g)), (de1, .inr (3, de1g)), (de2, .inr (3, de2g)), (de3, .inr (3, de3g)), (de4, .inr (3, de4g)), (de5, .inr (3, de5g)), (oA, .inl (oAC, (1, .inr (.inl oAf))))] ∧ th (va_A [(x, .inr (12, xg)), (tx, .inr (10, txg)), (rd, .inr (7, rdg)), (mcd, .inl (mcdC, (17, .inl mcdf))), (mnm, .inl (mnmC, (17, .inl mnmf))), (deA, .inl (deAC, (6, .inr (.inr (.inr (.inr deAF)))))), (de0, .inr (3, de0g)), (de1, .inr (3, de1g)), (de2, .inr (3, de2g)), (de3, .inr (3, de3g)), (de4, .inr (3, de4g)), (de5, .inr (3, de5g)), (oA, .inl (oAC, (1, .inr (.inl oAf))))] sz) U U.heap)) (va_Qv (fun _ : Unit => True) (fun _ t => ∃ (xy : List Value) (txy : List Value) (rdy : List Value) (mcdy : Nat → Int32) (mnmy : Nat → Int32) (de0y : List Value) (de1y : List Value) (de2y : List Value) (de3y : List Value) (de4y : List Value) (de5y : List Value) (oAy : Nat → Int64), fx xy 17 [(0, .ref tx), (1, .ref rd), (7, .ref deA), (10, .int 0)] ∧ fx txy 9 [(0, .ref bt), (1, .int 0), (2, .int 0), (3, .int 0), (4, .int 0), (6, .int 0), (7, .int 0), (8, .int 0)] ∧ fx rdy 18 [(0, .ref tx), (2, .int 0), (3, .int 0), (5, .ref mcd), (6, .ref mnm), (11, .null)] ∧ fa mcdy [(0, 0)] ∧ fa mnmy [] ∧ fx de0y 16 [(0, .int 0)] ∧ fx de1y 16 [(0, .int 0)] ∧ fx de2y 16 [(0, .int 0)] ∧ fx de3y 16 [(0, .int 0)] ∧ fx de4y 16 [(0, .int 0)] ∧ fx de5y 16 [(0, .int 0)] ∧ fa oAy [] ∧ va_P (dC, dI) CL [(x, .inr (12, xy)), (tx, .inr (10, txy)), (rd, .inr (7, rdy)), (mcd, .inl (mcdC, (17, .inl mcdy))), (mnm, .inl (mnmC, (17, .inl mnmy))), (deA, .inl (deAC, (6, .inr (.inr (.inr (.inr deAF)))))), (de0, .inr (3, de0y)), (de1, .inr (3, de1y)), (de2, .inr (3, de2y)), (de3, .inr (3, de3y)), (de4, .inr (3, de4y)), (de5, .inr (3, de5y)), (oA, .inl (oAC, (1, .inr (.inl oAy))))] t.heap ∧ va_K (dC, dI) CL [(mcdC, .int), (mnmC, .int), (deAC, .object "ChipFlow$Design"), (oAC, .long)] t ∧ va_D (va_A [(x, .inr (12, xg)), (tx, .inr (10, txg)), (rd, .inr (7, rdg)), (mcd, .inl (mcdC, (17, .inl mcdf))), (mnm, .inl (mnmC, (17, .inl mnmf))), (deA, .inl (deAC, (6, .inr (.inr (.inr (.inr deAF)))))), (de0, .inr (3, de0g)), (de1, .inr (3, de1g)), (de2, .inr (3, de2g)), (de3, .inr (3, de3g)), (de4, .inr (3, de4g)), (de5, .inr (3, de5g)), (oA, .inl (oAC, (1, .inr (.inl oAf))))] sz) [(x, .inr (12, xy)), (tx, .inr (10, txy)), (rd, .inr (7, rdy)), (mcd, .inl (mcdC, (17, .inl mcdy))), (mnm, .inl (mnmC, (17, .inl mnmy))), (deA, .inl (deAC, (6, .inr (.inr (.inr (.inr deAF)))))), (de0, .inr (3, de0y)), (de1, .inr (3, de1y)), (de2, .inr (3, de2y)), (de3, .inr (3, de3y)), (de4, .inr (3, de4y)), (de5, .inr (3, de5y)), (oA, .inl (oAC, (1, .inr (.inl oAy))))]) (va_A [(x, .inr (12, xg)), (tx, .inr (10, txg)), (rd, .inr (7, rdg)), (mcd, .inl (mcdC, (17, .inl mcdf))), (mnm, .inl (mnmC, (17, .inl mnmf))), (deA, .inl (deAC, (6, .inr (.inr (.inr (.inr deAF)))))), (de0, .inr (3, de0g)), (de1, .inr (3, de1g)), (de2, .inr (3, de2g)), (de3, .inr (3, de3g)), (de4, .inr (3, de4g)), (de5, .inr (3, de5g)), (oA, .inl (oAC, (1, .inr (.inl oAf))))] sz)) 0 0 (va_A [(x, .inr (12, xg)), (tx, .inr (10, txg)), (rd, .inr (7, rdg)), (mcd, .inl (mcdC, (17, .inl mcdf))), (mnm, .inl (mnmC, (17, .inl mnmf))), (deA, .inl (deAC, (6, .inr (.inr (.inr (.inr deAF)))))), (de0, .inr (3, de0g)), (de1, .inr (3, de1g)), (de2, .inr (3, de2g)), (de3, .inr (3, de3g)), (de4, .inr (3, de4g)), (de5, .inr (3, de5g)), (oA, .inl (oAC, (1, .inr (.inl oAf))))] sz) := by
  refine Met.ofW (cc := cX10_begin) (maxL := 1) (ret := none) (by decide) rfl ?_
  intro p e s m args below meth c s₁ B hml hv
  obtain ⟨rfl, hsz, hP, hK, hD0, hth⟩ := hv
  have hx := B.exec
  have hb := B.bytes
  have hr := B.returns
  have hts : ∀ w ∈ BG, w.before _ s = true := fun w h => atoms_spec (ws := Cond.code yX10_begin cX10_begin 1 none :: BG) B.pre w (List.mem_cons_of_mem _ h)
  have hown : s.vm.findClass RX10 = some m.cls := findClass_of_methodNamed B.named
  have hlocks := B.notSynchronized
  subst hsz
  have hD := hD0.self (sz := s.heap.size)
  generalize hAe : va_A [(x, .inr (12, xg)), (tx, .inr (10, txg)), (rd, .inr (7, rdg)), (mcd, .inl (mcdC, (17, .inl mcdf))), (mnm, .inl (mnmC, (17, .inl mnmf))), (deA, .inl (deAC, (6, .inr (.inr (.inr (.inr deAF)))))), (de0, .inr (3, de0g)), (de1, .inr (3, de1g)), (de2, .inr (3, de2g)), (de3, .inr (3, de3g)), (de4, .inr (3, de4g)), (de5, .inr (3, de5g)), (oA, .inl (oAC, (1, .inr (.inl oAf))))] s.heap.size = A at hD hth ⊢
  have hA : ∀ q : Nat, s.heap.size ≤ q → A q := fun q h => by rw [← hAe]; exact Or.inr h
  have hS : va_S A s.heap s.heap [] := va_S.rf
  have hl := lv_entry ([.ref tx]) (n := 1) (Nat.le_of_ble_eq_true rfl)
  rw [lg_entry_eq]
  generalize (lg_sl ([.ref tx]) ++ List.replicate (1 - (lg_sl ([.ref tx])).length) Slot.unset).toArray = ls at hl ⊢
  have hl : lv_has ls 1 [(0, .ref tx)] := hl
  obtain ⟨H, eH⟩ : ∃ z, z = s.heap := ⟨_, rfl⟩
  have hP : va_P (dC, dI) CL [(x, .inr (12, xg)), (tx, .inr (10, txg)), (rd, .inr (7, rdg)), (mcd, .inl (mcdC, (17, .inl mcdf))), (mnm, .inl (mnmC, (17, .inl mnmf))), (deA, .inl (deAC, (6, .inr (.inr (.inr (.inr deAF)))))), (de0, .inr (3, de0g)), (de1, .inr (3, de1g)), (de2, .inr (3, de2g)), (de3, .inr (3, de3g)), (de4, .inr (3, de4g)), (de5, .inr (3, de5g)), (oA, .inl (oAC, (1, .inr (.inl oAf))))] H := by rw [eH]; exact hP
  have hS : va_S A s.heap H [] := by rw [eH]; exact hS
  rw [← eH]
  refine lv_aload_n hx hb dX10_begin_0 rfl (lv_at hl 0 rfl) ?_
  refine lv_iconst (v := 0) hx hb dX10_begin_1 (by decide +kernel) ?_
  refine va_put (D := (dC, dI)) (ci := 10) (v := .int 0) (ty := tyX10 8) (C := RX10) (T := TX10) (N := 9) hx hb hts inX10 tyX10 tyX10_ok nmX10 hown hK hP hD hS 1 rfl rfl 8 (by decide) (hts (.fieldLink RX10 18 "ChipFlow$Text" "next" "I") wd_391) (fun _ h9 => h9) rfl (by decide +kernel) rfl rfl (by rw [h_tx.1]; decide) dX10_begin_2 (fun H locs hP hD hS => ?_)
  obtain ⟨fs_1, e9⟩ : ∃ z, z = txg.set 8 (.int 0) := ⟨_, rfl⟩
  have h_tx : fx fs_1 9 [(0, .ref bt), (1, .int 0), (2, .int 0), (3, .int 0), (4, .int 0), (6, .int 0), (7, .int 0), (8, .int 0)] := by rw [e9]; exact (h_tx.put (F' := [(8, .int 0), (0, .ref bt), (1, .int 0), (2, .int 0), (3, .int 0), (4, .int 0), (6, .int 0), (7, .int 0)]) (by decide) _ rfl).sub [1, 2, 3, 4, 5, 6, 7, 0] rfl
  have hP : va_P (dC, dI) CL [(x, .inr (12, xg)), (tx, .inr (10, fs_1)), (rd, .inr (7, rdg)), (mcd, .inl (mcdC, (17, .inl mcdf))), (mnm, .inl (mnmC, (17, .inl mnmf))), (deA, .inl (deAC, (6, .inr (.inr (.inr (.inr deAF)))))), (de0, .inr (3, de0g)), (de1, .inr (3, de1g)), (de2, .inr (3, de2g)), (de3, .inr (3, de3g)), (de4, .inr (3, de4g)), (de5, .inr (3, de5g)), (oA, .inl (oAC, (1, .inr (.inl oAf))))] H := by rw [e9]; exact hP
  have hD : va_D A [(x, .inr (12, xg)), (tx, .inr (10, fs_1)), (rd, .inr (7, rdg)), (mcd, .inl (mcdC, (17, .inl mcdf))), (mnm, .inl (mnmC, (17, .inl mnmf))), (deA, .inl (deAC, (6, .inr (.inr (.inr (.inr deAF)))))), (de0, .inr (3, de0g)), (de1, .inr (3, de1g)), (de2, .inr (3, de2g)), (de3, .inr (3, de3g)), (de4, .inr (3, de4g)), (de5, .inr (3, de5g)), (oA, .inl (oAC, (1, .inr (.inl oAf))))] := by rw [e9]; exact hD
  clear e9
  refine lv_aload_n hx hb dX10_begin_5 rfl (lv_at hl 0 rfl) ?_
  refine lv_iconst (v := 0) hx hb dX10_begin_6 (by decide +kernel) ?_
  refine va_put (D := (dC, dI)) (ci := 10) (v := .int 0) (ty := tyX10 6) (C := RX10) (T := TX10) (N := 9) hx hb hts inX10 tyX10 tyX10_ok nmX10 hown hK hP hD hS 1 rfl rfl 6 (by decide) (hts (.fieldLink RX10 21 "ChipFlow$Text" "faultCode" "I") wd_387) (fun _ h9 => h9) rfl (by decide +kernel) rfl rfl (by rw [h_tx.1]; decide) dX10_begin_7 (fun H locs hP hD hS => ?_)
  obtain ⟨fs_2, e9⟩ : ∃ z, z = fs_1.set 6 (.int 0) := ⟨_, rfl⟩
  have h_tx : fx fs_2 9 [(0, .ref bt), (1, .int 0), (2, .int 0), (3, .int 0), (4, .int 0), (6, .int 0), (7, .int 0), (8, .int 0)] := by rw [e9]; exact (h_tx.put (F' := [(6, .int 0), (0, .ref bt), (1, .int 0), (2, .int 0), (3, .int 0), (4, .int 0), (7, .int 0), (8, .int 0)]) (by decide) _ rfl).sub [1, 2, 3, 4, 5, 0, 6, 7] rfl
  have hP : va_P (dC, dI) CL [(x, .inr (12, xg)), (tx, .inr (10, fs_2)), (rd, .inr (7, rdg)), (mcd, .inl (mcdC, (17, .inl mcdf))), (mnm, .inl (mnmC, (17, .inl mnmf))), (deA, .inl (deAC, (6, .inr (.inr (.inr (.inr deAF)))))), (de0, .inr (3, de0g)), (de1, .inr (3, de1g)), (de2, .inr (3, de2g)), (de3, .inr (3, de3g)), (de4, .inr (3, de4g)), (de5, .inr (3, de5g)), (oA, .inl (oAC, (1, .inr (.inl oAf))))] H := by rw [e9]; exact hP
  have hD : va_D A [(x, .inr (12, xg)), (tx, .inr (10, fs_2)), (rd, .inr (7, rdg)), (mcd, .inl (mcdC, (17, .inl mcdf))), (mnm, .inl (mnmC, (17, .inl mnmf))), (deA, .inl (deAC, (6, .inr (.inr (.inr (.inr deAF)))))), (de0, .inr (3, de0g)), (de1, .inr (3, de1g)), (de2, .inr (3, de2g)), (de3, .inr (3, de3g)), (de4, .inr (3, de4g)), (de5, .inr (3, de5g)), (oA, .inl (oAC, (1, .inr (.inl oAf))))] := by rw [e9]; exact hD
  clear e9
  refine lv_aload_n hx hb dX10_begin_10 rfl (lv_at hl 0 rfl) ?_
  refine lv_iconst (v := 0) hx hb dX10_begin_11 (by decide +kernel) ?_
  refine va_put (D := (dC, dI)) (ci := 10) (v := .int 0) (ty := tyX10 7) (C := RX10) (T := TX10) (N := 9) hx hb hts inX10 tyX10 tyX10_ok nmX10 hown hK hP hD hS 1 rfl rfl 7 (by decide) (hts (.fieldLink RX10 24 "ChipFlow$Text" "faultPlace" "I") wd_389) (fun _ h9 => h9) rfl (by decide +kernel) rfl rfl (by rw [h_tx.1]; decide) dX10_begin_12 (fun H locs hP hD hS => ?_)
  obtain ⟨fs_3, e9⟩ : ∃ z, z = fs_2.set 7 (.int 0) := ⟨_, rfl⟩
  have h_tx : fx fs_3 9 [(0, .ref bt), (1, .int 0), (2, .int 0), (3, .int 0), (4, .int 0), (6, .int 0), (7, .int 0), (8, .int 0)] := by rw [e9]; exact (h_tx.put (F' := [(7, .int 0), (0, .ref bt), (1, .int 0), (2, .int 0), (3, .int 0), (4, .int 0), (6, .int 0), (8, .int 0)]) (by decide) _ rfl).sub [1, 2, 3, 4, 5, 6, 0, 7] rfl
  have hP : va_P (dC, dI) CL [(x, .inr (12, xg)), (tx, .inr (10, fs_3)), (rd, .inr (7, rdg)), (mcd, .inl (mcdC, (17, .inl mcdf))), (mnm, .inl (mnmC, (17, .inl mnmf))), (deA, .inl (deAC, (6, .inr (.inr (.inr (.inr deAF)))))), (de0, .inr (3, de0g)), (de1, .inr (3, de1g)), (de2, .inr (3, de2g)), (de3, .inr (3, de3g)), (de4, .inr (3, de4g)), (de5, .inr (3, de5g)), (oA, .inl (oAC, (1, .inr (.inl oAf))))] H := by rw [e9]; exact hP
  have hD : va_D A [(x, .inr (12, xg)), (tx, .inr (10, fs_3)), (rd, .inr (7, rdg)), (mcd, .inl (mcdC, (17, .inl mcdf))), (mnm, .inl (mnmC, (17, .inl mnmf))), (deA, .inl (deAC, (6, .inr (.inr (.inr (.inr deAF)))))), (de0, .inr (3, de0g)), (de1, .inr (3, de1g)), (de2, .inr (3, de2g)), (de3, .inr (3, de3g)), (de4, .inr (3, de4g)), (de5, .inr (3, de5g)), (oA, .inl (oAC, (1, .inr (.inl oAf))))] := by rw [e9]; exact hD
  clear e9
  refine lv_aload_n hx hb dX10_begin_15 rfl (lv_at hl 0 rfl) ?_
  have hFc := va_free (wc := [(x, .inr (12, xg)), (tx, .inr (10, fs_3)), (rd, .inr (7, rdg)), (mcd, .inl (mcdC, (17, .inl mcdf))), (mnm, .inl (mnmC, (17, .inl mnmf))), (deA, .inl (deAC, (6, .inr (.inr (.inr (.inr deAF)))))), (de0, .inr (3, de0g)), (de1, .inr (3, de1g)), (de2, .inr (3, de2g)), (de3, .inr (3, de3g)), (de4, .inr (3, de4g)), (de5, .inr (3, de5g)), (oA, .inl (oAC, (1, .inr (.inl oAf))))]) hD hS hA [0, 1, 2, 3, 4, 5, 6, 7, 8, 9, 10, 11, 12] rfl
  refine va_callv (va_runV (As := []) (rest := []) ⟨hx, hb, hml, hown, hts⟩ (gx149_X10_advance l hlt dC dI _ x tx rd mcd mnm deA de0 de1 de2 de3 de4 de5 oA bt xg h_x fs_3 h_tx rdg h_rd mcdC mcdf h_mcd mnmC mnmf h_mnm deAC deAF de0g h_de0 de1g h_de1 de2g h_de2 de3g h_de3 de4g h_de4 de5g h_de5 oAC oAf h_oA h_deA0 h_deA1 h_deA2 h_deA3 h_deA4 h_deA5) (cwV 0 hts (gi_V wd_1366 wd_1367 wd_1368 wd_328 wd_1369) rfl rfl rfl (by decide +kernel) ⟨(Nat.le_of_ble_eq_true rfl), (Nat.le_of_ble_eq_true rfl)⟩) ⟨fun a U g mk q => by obtain ⟨q0, q1, qP, qK, qD, qT⟩ := q; exact ⟨q0, q1, qP, va_K.moved (u := U) (U := U.calling g mk a) (Vm.Alike.refl U.vm) qK, qD, th.moved (u := U) (U := U.calling g mk a) (Vm.Alike.refl U.vm) qT⟩, va_recv hK hP (ci := 10) (q0 := 1) rfl rfl, fun U hU hW => ⟨rfl, by rw [hU], by rw [hU]; exact hP, va_K.moved hW.alike hK, hD.weaken (fun _ _ _ _ => trivial), by rw [hU]; exact ((hth.kept hS.2.1).narrow hFc).moved hW.alike⟩⟩ rfl rfl hl.1 rfl (lv_room (Nat.le_of_ble_eq_true rfl)) dX10_begin_16 ⟨(Nat.le_of_ble_eq_true rfl), (Nat.le_of_ble_eq_true rfl)⟩) hS (fun q _ h => hFc q h) hFc (fun u t H1 locs ht hvm hw hB hz1 hk1 hS => ?_)
  obtain ⟨fs_4, fs_5, fs_6, f_7, f_8, fs_9, fs_10, fs_11, fs_12, fs_13, fs_14, f_15, h_x, h_tx, h_rd, h_mcd, h_mnm, h_de0, h_de1, h_de2, h_de3, h_de4, h_de5, h_oA, hP1, hK1, hD1⟩ := hB
  rw [ht] at hP1
  have hD := hD1.weaken (fun k q _ h => hFc q.1 h)
  have hP := hP1
  generalize H1 = H at hP hS ⊢
  have hP : va_P (dC, dI) CL [(x, .inr (12, fs_4)), (tx, .inr (10, fs_5)), (rd, .inr (7, fs_6)), (mcd, .inl (mcdC, (17, .inl f_7))), (mnm, .inl (mnmC, (17, .inl f_8))), (deA, .inl (deAC, (6, .inr (.inr (.inr (.inr deAF)))))), (de0, .inr (3, fs_9)), (de1, .inr (3, fs_10)), (de2, .inr (3, fs_11)), (de3, .inr (3, fs_12)), (de4, .inr (3, fs_13)), (de5, .inr (3, fs_14)), (oA, .inl (oAC, (1, .inr (.inl f_15))))] H := hP
  have hD : va_D A [(x, .inr (12, fs_4)), (tx, .inr (10, fs_5)), (rd, .inr (7, fs_6)), (mcd, .inl (mcdC, (17, .inl f_7))), (mnm, .inl (mnmC, (17, .inl f_8))), (deA, .inl (deAC, (6, .inr (.inr (.inr (.inr deAF)))))), (de0, .inr (3, fs_9)), (de1, .inr (3, fs_10)), (de2, .inr (3, fs_11)), (de3, .inr (3, fs_12)), (de4, .inr (3, fs_13)), (de5, .inr (3, fs_14)), (oA, .inl (oAC, (1, .inr (.inl f_15))))] := hD
  exact W.vret hx hb hr (fun t ht hW => ⟨⟨(), rfl, trivial, fs_4, fs_5, fs_6, f_7, f_8, fs_9, fs_10, fs_11, fs_12, fs_13, fs_14, f_15, h_x, h_tx, h_rd, h_mcd, h_mnm, h_de0, h_de1, h_de2, h_de3, h_de4, h_de5, h_oA, by rw [ht]; exact hP, va_K.moved hW.alike hK, hD⟩, hS.F ht⟩) hS.2.2 dX10_begin_19
set_option maxHeartbeats 4000000 in
set_option maxRecDepth 100000 in
theorem gx153_X10_fail (l : Launch) (hlt : l.stackTraces = false) (dC : Nat → ClassId) (dI : Nat → Nat → Nat) (sz : Nat) (x tx rd mcd mnm deA de0 de1 de2 de3 de4 de5 oA bt : Nat) (xg : List Value) (h_x : fx xg 17 [(0, .ref tx), (1, .ref rd), (7, .ref deA), (10, .int 0)]) (txg : List Value) (h_tx : fx txg 9 [(0, .ref bt), (1, .int 0), (2, .int 0), (3, .int 0), (4, .int 0), (6, .int 0), (7, .int 0), (8, .int 0)]) (rdg : List Value) (h_rd : fx rdg 18 [(0, .ref tx), (2, .int 0), (3, .int 0), (5, .ref mcd), (6, .ref mnm), (11, .null)]) (mcdC : ClassId) (mcdf : Nat → Int32) (h_mcd : fa mcdf [(0, 0)]) (mnmC : ClassId) (mnmf : Nat → Int32) (h_mnm : fa mnmf []) (deAC : ClassId) (deAF : Nat → Option Nat) (de0g : List Value) (h_de0 : fx de0g 16 [(0, .int 0)]) (de1g : List Value) (h_de1 : fx de1g 16 [(0, .int 0)]) (de2g : List Value) (h_de2 : fx de2g 16 [(0, .int 0)]) (de3g : List Value) (h_de3 : fx de3g 16 [(0, .int 0)]) (de4g : List Value) (h_de4 : fx de4g 16 [(0, .int 0)]) (de5g : List Value) (h_de5 : fx de5g 16 [(0, .int 0)]) (oAC : ClassId) (oAf : Nat → Int64) (h_oA : fa oAf []) (h_deA0 : deAF 0 = some de0) (h_deA1 : deAF 1 = some de1) (h_deA2 : deAF 2 = some de2) (h_deA3 : deAF 3 = some de3) (h_deA4 : deAF 4 = some de4) (h_deA5 : deAF 5 = some de5) : vx_Met l yX10_fail (Cond.code yX10_fail cX10_fail 3 none :: BG) ({ frames := 6, cells := 1, slots := 6, locals := 100 }) (va_Pc [.ref tx, .int 2, .int 0] (fun U => U.heap.size = sz ∧ va_P (dC, dI) CL [(x, .inr (12, xg)), (tx, .inr (10, txg)), (rd, .inr (7, rdg)), (mcd, .inl (mcdC, (17, .inl mcdf))), (mnm, .inl (mnmC, (17, .inl mnmf))), (deA, .inl (deAC, (6, .inr (.inr (.inr (.inr deAF)))))), (de0, .inr (3, de0g)), (de1, .inr (3, de1g)), (de2, .inr (3, de2g)), (de3, .inr (3, de3g)), (de4, .inr (3, de4g)), (de5, .inr (3, de5g)), (oA, .inl (oAC, (1, .inr (.inl oAf))))] U.heap ∧ va_K (dC, dI) CL [(mcdC, .int), (mnmC, .int), (deAC, .object "ChipFlow$Design"), (oAC, .long)] U ∧ va_D (fun _ => True) [(x, .inr (12, xg)), (tx, .inr (10, txg)), (rd, .inr (7, rdg)), (mcd, .inl (mcdC, (17, .inl mcdf))), (mnm, .inl (mnmC, (17, .inl mnmf))), (deA, .inl (deAC, (6, .inr (.inr (.inr (.inr deAF)))))), (de0, .inr (3, de0g)), (de1, .inr (3, de1g)), (de2, .inr (3, de2g)), (de3, .inr (3, de3g)), (de4, .inr (3, de4g)), (de5, .inr (3, de5g)), (oA, .inl (oAC, (1, .inr (.inl oAf))))] ∧ th (va_A [(x, .inr (12, xg)), (tx, .inr (10, txg)), (rd, .inr (7, rdg)), (mcd, .inl (mcdC, (17, .inl mcdf))), (mnm, .inl (mnmC, (17, .inl mnmf))), (deA, .inl (deAC, (6, .inr (.inr (.inr (.inr deAF)))))), (de0, .inr (3, de0g)), (de1, .inr (3, de1g)), (de2, .inr (3, de2g)), (de3, .inr (3, de3g)), (de4, .inr (3, de4g)), (de5, .inr (3, de5g)), (oA, .inl (oAC, (1, .inr (.inl oAf))))] sz) U U.heap)) (fun _ _ _ _ => False) (vx_X (fun _ : Unit => True) (fun E _ t => E = "java/lang/IllegalStateException" ∧ ∃ (xy : List Value) (txy : List Value) (rdy : List Value) (mcdy : Nat → Int32) (mnmy : Nat → Int32) (de0y : List Value) (de1y : List Value) (de2y : List Value) (de3y : List Value) (de4y : List Value) (de5y : List Value) (oAy : Nat → Int64), fx xy 17 [(0, .ref tx), (1, .ref rd), (7, .ref deA), (10, .int 0)] ∧ fx txy 9 [(0, .ref bt), (1, .int 0), (2, .int 0), (3, .int 0), (4, .int 0), (6, .int 2), (7, .int 0), (8, .int 0)] ∧ fx rdy 18 [(0, .ref tx), (2, .int 0), (3, .int 0), (5, .ref mcd), (6, .ref mnm), (11, .null)] ∧ fa mcdy [(0, 0)] ∧ fa mnmy [] ∧ fx de0y 16 [(0, .int 0)] ∧ fx de1y 16 [(0, .int 0)] ∧ fx de2y 16 [(0, .int 0)] ∧ fx de3y 16 [(0, .int 0)] ∧ fx de4y 16 [(0, .int 0)] ∧ fx de5y 16 [(0, .int 0)] ∧ fa oAy [] ∧ va_P (dC, dI) CL [(x, .inr (12, xy)), (tx, .inr (10, txy)), (rd, .inr (7, rdy)), (mcd, .inl (mcdC, (17, .inl mcdy))), (mnm, .inl (mnmC, (17, .inl mnmy))), (deA, .inl (deAC, (6, .inr (.inr (.inr (.inr deAF)))))), (de0, .inr (3, de0y)), (de1, .inr (3, de1y)), (de2, .inr (3, de2y)), (de3, .inr (3, de3y)), (de4, .inr (3, de4y)), (de5, .inr (3, de5y)), (oA, .inl (oAC, (1, .inr (.inl oAy))))] t.heap ∧ va_K (dC, dI) CL [(mcdC, .int), (mnmC, .int), (deAC, .object "ChipFlow$Design"), (oAC, .long)] t ∧ va_D (va_A [(x, .inr (12, xg)), (tx, .inr (10, txg)), (rd, .inr (7, rdg)), (mcd, .inl (mcdC, (17, .inl mcdf))), (mnm, .inl (mnmC, (17, .inl mnmf))), (deA, .inl (deAC, (6, .inr (.inr (.inr (.inr deAF)))))), (de0, .inr (3, de0g)), (de1, .inr (3, de1g)), (de2, .inr (3, de2g)), (de3, .inr (3, de3g)), (de4, .inr (3, de4g)), (de5, .inr (3, de5g)), (oA, .inl (oAC, (1, .inr (.inl oAf))))] sz) [(x, .inr (12, xy)), (tx, .inr (10, txy)), (rd, .inr (7, rdy)), (mcd, .inl (mcdC, (17, .inl mcdy))), (mnm, .inl (mnmC, (17, .inl mnmy))), (deA, .inl (deAC, (6, .inr (.inr (.inr (.inr deAF)))))), (de0, .inr (3, de0y)), (de1, .inr (3, de1y)), (de2, .inr (3, de2y)), (de3, .inr (3, de3y)), (de4, .inr (3, de4y)), (de5, .inr (3, de5y)), (oA, .inl (oAC, (1, .inr (.inl oAy))))]) (va_A [(x, .inr (12, xg)), (tx, .inr (10, txg)), (rd, .inr (7, rdg)), (mcd, .inl (mcdC, (17, .inl mcdf))), (mnm, .inl (mnmC, (17, .inl mnmf))), (deA, .inl (deAC, (6, .inr (.inr (.inr (.inr deAF)))))), (de0, .inr (3, de0g)), (de1, .inr (3, de1g)), (de2, .inr (3, de2g)), (de3, .inr (3, de3g)), (de4, .inr (3, de4g)), (de5, .inr (3, de5g)), (oA, .inl (oAC, (1, .inr (.inl oAf))))] sz)) 1 6 (va_A [(x, .inr (12, xg)), (tx, .inr (10, txg)), (rd, .inr (7, rdg)), (mcd, .inl (mcdC, (17, .inl mcdf))), (mnm, .inl (mnmC, (17, .inl mnmf))), (deA, .inl (deAC, (6, .inr (.inr (.inr (.inr deAF)))))), (de0, .inr (3, de0g)), (de1, .inr (3, de1g)), (de2, .inr (3, de2g)), (de3, .inr (3, de3g)), (de4, .inr (3, de4g)), (de5, .inr (3, de5g)), (oA, .inl (oAC, (1, .inr (.inl oAf))))] sz) := by
  refine vx_ofW (cc := cX10_fail) (maxL := 3) (ret := none) (by decide) rfl ?_
  intro p e s m args below meth c s₁ B hml ht0 hv
  obtain ⟨rfl, hsz, hP, hK, hD0, hth⟩ := hv
  have hx := B.exec
  have hb := B.bytes
  have hr := B.returns
  have hts : ∀ w ∈ BG, w.before _ s = true := fun w h => atoms_spec (ws := Cond.code yX10_fail cX10_fail 3 none :: BG) B.pre w (List.mem_cons_of_mem _ h)
  have hown : s.vm.findClass RX10 = some m.cls := findClass_of_methodNamed B.named
  have hlocks := B.notSynchronized
  subst hsz
  have hD := hD0.self (sz := s.heap.size)
  generalize hAe : va_A [(x, .inr (12, xg)), (tx, .inr (10, txg)), (rd, .inr (7, rdg)), (mcd, .inl (mcdC, (17, .inl mcdf))), (mnm, .inl (mnmC, (17, .inl mnmf))), (deA, .inl (deAC, (6, .inr (.inr (.inr (.inr deAF)))))), (de0, .inr (3, de0g)), (de1, .inr (3, de1g)), (de2, .inr (3, de2g)), (de3, .inr (3, de3g)), (de4, .inr (3, de4g)), (de5, .inr (3, de5g)), (oA, .inl (oAC, (1, .inr (.inl oAf))))] s.heap.size = A at hD hth ⊢
  have hA : ∀ q : Nat, s.heap.size ≤ q → A q := fun q h => by rw [← hAe]; exact Or.inr h
  have hS : va_S A s.heap s.heap [] := va_S.rf
  have hl := lv_entry ([.ref tx, .int 2, .int 0]) (n := 3) (Nat.le_of_ble_eq_true rfl)
  rw [lg_entry_eq]
  generalize (lg_sl ([.ref tx, .int 2, .int 0]) ++ List.replicate (3 - (lg_sl ([.ref tx, .int 2, .int 0])).length) Slot.unset).toArray = ls at hl ⊢
  have hl : lv_has ls 3 [(0, .ref tx), (1, .int 2), (2, .int 0)] := hl
  obtain ⟨H, eH⟩ : ∃ z, z = s.heap := ⟨_, rfl⟩
  have hP : va_P (dC, dI) CL [(x, .inr (12, xg)), (tx, .inr (10, txg)), (rd, .inr (7, rdg)), (mcd, .inl (mcdC, (17, .inl mcdf))), (mnm, .inl (mnmC, (17, .inl mnmf))), (deA, .inl (deAC, (6, .inr (.inr (.inr (.inr deAF)))))), (de0, .inr (3, de0g)), (de1, .inr (3, de1g)), (de2, .inr (3, de2g)), (de3, .inr (3, de3g)), (de4, .inr (3, de4g)), (de5, .inr (3, de5g)), (oA, .inl (oAC, (1, .inr (.inl oAf))))] H := by rw [eH]; exact hP
  have hS : va_S A s.heap H [] := by rw [eH]; exact hS
  rw [← eH]
  refine lv_aload_n hx hb dX10_fail_0 rfl (lv_at hl 0 rfl) ?_
  refine lv_iload_n hx hb dX10_fail_1 rfl (lv_at hl 1 rfl) ?_
  refine va_put (D := (dC, dI)) (ci := 10) (v := .int 2) (ty := tyX10 6) (C := RX10) (T := TX10) (N := 9) hx hb hts inX10 tyX10 tyX10_ok nmX10 hown hK hP hD hS 1 rfl rfl 6 (by decide) (hts (.fieldLink RX10 21 "ChipFlow$Text" "faultCode" "I") wd_387) (fun _ h9 => h9) rfl (by decide +kernel) rfl rfl (by rw [h_tx.1]; decide) dX10_fail_2 (fun H locs hP hD hS => ?_)
  obtain ⟨fs_1, e9⟩ : ∃ z, z = txg.set 6 (.int 2) := ⟨_, rfl⟩
  have h_tx : fx fs_1 9 [(0, .ref bt), (1, .int 0), (2, .int 0), (3, .int 0), (4, .int 0), (6, .int 2), (7, .int 0), (8, .int 0)] := by rw [e9]; exact (h_tx.put (F' := [(6, .int 2), (0, .ref bt), (1, .int 0), (2, .int 0), (3, .int 0), (4, .int 0), (7, .int 0), (8, .int 0)]) (by decide) _ rfl).sub [1, 2, 3, 4, 5, 0, 6, 7] rfl
  have hP : va_P (dC, dI) CL [(x, .inr (12, xg)), (tx, .inr (10, fs_1)), (rd, .inr (7, rdg)), (mcd, .inl (mcdC, (17, .inl mcdf))), (mnm, .inl (mnmC, (17, .inl mnmf))), (deA, .inl (deAC, (6, .inr (.inr (.inr (.inr deAF)))))), (de0, .inr (3, de0g)), (de1, .inr (3, de1g)), (de2, .inr (3, de2g)), (de3, .inr (3, de3g)), (de4, .inr (3, de4g)), (de5, .inr (3, de5g)), (oA, .inl (oAC, (1, .inr (.inl oAf))))] H := by rw [e9]; exact hP
  have hD : va_D A [(x, .inr (12, xg)), (tx, .inr (10, fs_1)), (rd, .inr (7, rdg)), (mcd, .inl (mcdC, (17, .inl mcdf))), (mnm, .inl (mnmC, (17, .inl mnmf))), (deA, .inl (deAC, (6, .inr (.inr (.inr (.inr deAF)))))), (de0, .inr (3, de0g)), (de1, .inr (3, de1g)), (de2, .inr (3, de2g)), (de3, .inr (3, de3g)), (de4, .inr (3, de4g)), (de5, .inr (3, de5g)), (oA, .inl (oAC, (1, .inr (.inl oAf))))] := by rw [e9]; exact hD
  clear e9
  refine lv_aload_n hx hb dX10_fail_5 rfl (lv_at hl 0 rfl) ?_
  refine lv_iload_n hx hb dX10_fail_6 rfl (lv_at hl 2 rfl) ?_
  refine va_put (D := (dC, dI)) (ci := 10) (v := .int 0) (ty := tyX10 7) (C := RX10) (T := TX10) (N := 9) hx hb hts inX10 tyX10 tyX10_ok nmX10 hown hK hP hD hS 1 rfl rfl 7 (by decide) (hts (.fieldLink RX10 24 "ChipFlow$Text" "faultPlace" "I") wd_389) (fun _ h9 => h9) rfl (by decide +kernel) rfl rfl (by rw [h_tx.1]; decide) dX10_fail_7 (fun H locs hP hD hS => ?_)
  obtain ⟨fs_2, e9⟩ : ∃ z, z = fs_1.set 7 (.int 0) := ⟨_, rfl⟩
  have h_tx : fx fs_2 9 [(0, .ref bt), (1, .int 0), (2, .int 0), (3, .int 0), (4, .int 0), (6, .int 2), (7, .int 0), (8, .int 0)] := by rw [e9]; exact (h_tx.put (F' := [(7, .int 0), (0, .ref bt), (1, .int 0), (2, .int 0), (3, .int 0), (4, .int 0), (6, .int 2), (8, .int 0)]) (by decide) _ rfl).sub [1, 2, 3, 4, 5, 6, 0, 7] rfl
  have hP : va_P (dC, dI) CL [(x, .inr (12, xg)), (tx, .inr (10, fs_2)), (rd, .inr (7, rdg)), (mcd, .inl (mcdC, (17, .inl mcdf))), (mnm, .inl (mnmC, (17, .inl mnmf))), (deA, .inl (deAC, (6, .inr (.inr (.inr (.inr deAF)))))), (de0, .inr (3, de0g)), (de1, .inr (3, de1g)), (de2, .inr (3, de2g)), (de3, .inr (3, de3g)), (de4, .inr (3, de4g)), (de5, .inr (3, de5g)), (oA, .inl (oAC, (1, .inr (.inl oAf))))] H := by rw [e9]; exact hP
  have hD : va_D A [(x, .inr (12, xg)), (tx, .inr (10, fs_2)), (rd, .inr (7, rdg)), (mcd, .inl (mcdC, (17, .inl mcdf))), (mnm, .inl (mnmC, (17, .inl mnmf))), (deA, .inl (deAC, (6, .inr (.inr (.inr (.inr deAF)))))), (de0, .inr (3, de0g)), (de1, .inr (3, de1g)), (de2, .inr (3, de2g)), (de3, .inr (3, de3g)), (de4, .inr (3, de4g)), (de5, .inr (3, de5g)), (oA, .inl (oAC, (1, .inr (.inl oAf))))] := by rw [e9]; exact hD
  clear e9
  exact vx_throw0 (own := RX10) (cls := "java/lang/IllegalStateException") (names := ["java/lang/RuntimeException", "java/lang/Exception"]) (ik := 30) (ic := 32) (A := A) hx hb hlt hown (by decide) (by decide) (hts (.classLink RX10 30 "java/lang/IllegalStateException") wd_1479) (hts (.initialized "java/lang/IllegalStateException") wd_352) (vx_hat (fun w h => hts w (at_X10_fail w h)) an_X10_fail (vx_c (hth.cast (by decide)) (vx_c (hth.decl (by decide)) (vx_c (hth.decl (by decide)) (vx_c (hth.decl (by decide)) vx_n))))) ao_X10_fail hth.1 hth.2.1 hS (by rw [hml]; exact hl.1) dX10_fail_10 dX10_fail_13 dX10_fail_14 dX10_fail_17 (fun x h9 => (ht0 x h9).elim) (Nat.le_of_ble_eq_true rfl) (Nat.le_of_ble_eq_true rfl) (Nat.le_of_ble_eq_true rfl) (Nat.le_of_ble_eq_true rfl) hlocks (fun t hvm hz hk => ⟨(), trivial, ⟨rfl, xg, fs_2, rdg, mcdf, mnmf, de0g, de1g, de2g, de3g, de4g, de5g, oAf, h_x, h_tx, h_rd, h_mcd, h_mnm, h_de0, h_de1, h_de2, h_de3, h_de4, h_de5, h_oA, hP.kept (fun k q h9 => hk _ (vx_lt hP h9)), va_K.moved hvm hK, hD⟩, Nat.le_trans hS.1 hz, fun q h1 h2 => (hk q (Nat.lt_of_lt_of_le h1 hS.1)).trans (hS.2.1 q h1 h2)⟩) hS.2.2 (Nat.le_of_ble_eq_true rfl) (Nat.le_of_ble_eq_true rfl)
set_option maxHeartbeats 4000000 in
set_option maxRecDepth 100000 in
theorem gx152_X10_need (l : Launch) (hlt : l.stackTraces = false) (dC : Nat → ClassId) (dI : Nat → Nat → Nat) (sz : Nat) (x tx rd mcd mnm deA de0 de1 de2 de3 de4 de5 oA bt : Nat) (xg : List Value) (h_x : fx xg 17 [(0, .ref tx), (1, .ref rd), (7, .ref deA), (10, .int 0)]) (txg : List Value) (h_tx : fx txg 9 [(0, .ref bt), (1, .int 0), (2, .int 0), (3, .int 0), (4, .int 0), (6, .int 0), (7, .int 0), (8, .int 0)]) (rdg : List Value) (h_rd : fx rdg 18 [(0, .ref tx), (2, .int 0), (3, .int 0), (5, .ref mcd), (6, .ref mnm), (11, .null)]) (mcdC : ClassId) (mcdf : Nat → Int32) (h_mcd : fa mcdf [(0, 0)]) (mnmC : ClassId) (mnmf : Nat → Int32) (h_mnm : fa mnmf []) (deAC : ClassId) (deAF : Nat → Option Nat) (de0g : List Value) (h_de0 : fx de0g 16 [(0, .int 0)]) (de1g : List Value) (h_de1 : fx de1g 16 [(0, .int 0)]) (de2g : List Value) (h_de2 : fx de2g 16 [(0, .int 0)]) (de3g : List Value) (h_de3 : fx de3g 16 [(0, .int 0)]) (de4g : List Value) (h_de4 : fx de4g 16 [(0, .int 0)]) (de5g : List Value) (h_de5 : fx de5g 16 [(0, .int 0)]) (oAC : ClassId) (oAf : Nat → Int64) (h_oA : fa oAf []) (h_deA0 : deAF 0 = some de0) (h_deA1 : deAF 1 = some de1) (h_deA2 : deAF 2 = some de2) (h_deA3 : deAF 3 = some de3) (h_deA4 : deAF 4 = some de4) (h_deA5 : deAF 5 = some de5) : vx_Met l yX10_need (Cond.code yX10_need cX10_need 2 none :: BG) ({ frames := 7, cells := 1, slots := 6, locals := 122 }) (va_Pc [.ref tx, .int 3] (fun U => U.heap.size = sz ∧ va_P (dC, dI) CL [(x, .inr (12, xg)), (tx, .inr (10, txg)), (rd, .inr (7, rdg)), (mcd, .inl (mcdC, (17, .inl mcdf))), (mnm, .inl (mnmC, (17, .inl mnmf))), (deA, .inl (deAC, (6, .inr (.inr (.inr (.inr deAF)))))), (de0, .inr (3, de0g)), (de1, .inr (3, de1g)), (de2, .inr (3, de2g)), (de3, .inr (3, de3g)), (de4, .inr (3, de4g)), (de5, .inr (3, de5g)), (oA, .inl (oAC, (1, .inr (.inl oAf))))] U.heap ∧ va_K (dC, dI) CL [(mcdC, .int), (mnmC, .int), (deAC, .object "ChipFlow$Design"), (oAC, .long)] U ∧ va_D (fun _ => True) [(x, .inr (12, xg)), (tx, .inr (10, txg)), (rd, .inr (7, rdg)), (mcd, .inl (mcdC, (17, .inl mcdf))), (mnm, .inl (mnmC, (17, .inl mnmf))), (deA, .inl (deAC, (6, .inr (.inr (.inr (.inr deAF)))))), (de0, .inr (3, de0g)), (de1, .inr (3, de1g)), (de2, .inr (3, de2g)), (de3, .inr (3, de3g)), (de4, .inr (3, de4g)), (de5, .inr (3, de5g)), (oA, .inl (oAC, (1, .inr (.inl oAf))))] ∧ th (va_A [(x, .inr (12, xg)), (tx, .inr (10, txg)), (rd, .inr (7, rdg)), (mcd, .inl (mcdC, (17, .inl mcdf))), (mnm, .inl (mnmC, (17, .inl mnmf))), (deA, .inl (deAC, (6, .inr (.inr (.inr (.inr deAF)))))), (de0, .inr (3, de0g)), (de1, .inr (3, de1g)), (de2, .inr (3, de2g)), (de3, .inr (3, de3g)), (de4, .inr (3, de4g)), (de5, .inr (3, de5g)), (oA, .inl (oAC, (1, .inr (.inl oAf))))] sz) U U.heap)) (fun _ _ _ _ => False) (vx_X (fun _ : Unit => True) (fun E _ t => E = "java/lang/IllegalStateException" ∧ ∃ (xy : List Value) (txy : List Value) (rdy : List Value) (mcdy : Nat → Int32) (mnmy : Nat → Int32) (de0y : List Value) (de1y : List Value) (de2y : List Value) (de3y : List Value) (de4y : List Value) (de5y : List Value) (oAy : Nat → Int64), fx xy 17 [(0, .ref tx), (1, .ref rd), (7, .ref deA), (10, .int 0)] ∧ fx txy 9 [(0, .ref bt), (1, .int 0), (2, .int 0), (3, .int 0), (4, .int 0), (6, .int 2), (7, .int 0), (8, .int 0)] ∧ fx rdy 18 [(0, .ref tx), (2, .int 0), (3, .int 0), (5, .ref mcd), (6, .ref mnm), (11, .null)] ∧ fa mcdy [(0, 0)] ∧ fa mnmy [] ∧ fx de0y 16 [(0, .int 0)] ∧ fx de1y 16 [(0, .int 0)] ∧ fx de2y 16 [(0, .int 0)] ∧ fx de3y 16 [(0, .int 0)] ∧ fx de4y 16 [(0, .int 0)] ∧ fx de5y 16 [(0, .int 0)] ∧ fa oAy [] ∧ va_P (dC, dI) CL [(x, .inr (12, xy)), (tx, .inr (10, txy)), (rd, .inr (7, rdy)), (mcd, .inl (mcdC, (17, .inl mcdy))), (mnm, .inl (mnmC, (17, .inl mnmy))), (deA, .inl (deAC, (6, .inr (.inr (.inr (.inr deAF)))))), (de0, .inr (3, de0y)), (de1, .inr (3, de1y)), (de2, .inr (3, de2y)), (de3, .inr (3, de3y)), (de4, .inr (3, de4y)), (de5, .inr (3, de5y)), (oA, .inl (oAC, (1, .inr (.inl oAy))))] t.heap ∧ va_K (dC, dI) CL [(mcdC, .int), (mnmC, .int), (deAC, .object "ChipFlow$Design"), (oAC, .long)] t ∧ va_D (va_A [(x, .inr (12, xg)), (tx, .inr (10, txg)), (rd, .inr (7, rdg)), (mcd, .inl (mcdC, (17, .inl mcdf))), (mnm, .inl (mnmC, (17, .inl mnmf))), (deA, .inl (deAC, (6, .inr (.inr (.inr (.inr deAF)))))), (de0, .inr (3, de0g)), (de1, .inr (3, de1g)), (de2, .inr (3, de2g)), (de3, .inr (3, de3g)), (de4, .inr (3, de4g)), (de5, .inr (3, de5g)), (oA, .inl (oAC, (1, .inr (.inl oAf))))] sz) [(x, .inr (12, xy)), (tx, .inr (10, txy)), (rd, .inr (7, rdy)), (mcd, .inl (mcdC, (17, .inl mcdy))), (mnm, .inl (mnmC, (17, .inl mnmy))), (deA, .inl (deAC, (6, .inr (.inr (.inr (.inr deAF)))))), (de0, .inr (3, de0y)), (de1, .inr (3, de1y)), (de2, .inr (3, de2y)), (de3, .inr (3, de3y)), (de4, .inr (3, de4y)), (de5, .inr (3, de5y)), (oA, .inl (oAC, (1, .inr (.inl oAy))))]) (va_A [(x, .inr (12, xg)), (tx, .inr (10, txg)), (rd, .inr (7, rdg)), (mcd, .inl (mcdC, (17, .inl mcdf))), (mnm, .inl (mnmC, (17, .inl mnmf))), (deA, .inl (deAC, (6, .inr (.inr (.inr (.inr deAF)))))), (de0, .inr (3, de0g)), (de1, .inr (3, de1g)), (de2, .inr (3, de2g)), (de3, .inr (3, de3g)), (de4, .inr (3, de4g)), (de5, .inr (3, de5g)), (oA, .inl (oAC, (1, .inr (.inl oAf))))] sz)) 1 6 (va_A [(x, .inr (12, xg)), (tx, .inr (10, txg)), (rd, .inr (7, rdg)), (mcd, .inl (mcdC, (17, .inl mcdf))), (mnm, .inl (mnmC, (17, .inl mnmf))), (deA, .inl (deAC, (6, .inr (.inr (.inr (.inr deAF)))))), (de0, .inr (3, de0g)), (de1, .inr (3, de1g)), (de2, .inr (3, de2g)), (de3, .inr (3, de3g)), (de4, .inr (3, de4g)), (de5, .inr (3, de5g)), (oA, .inl (oAC, (1, .inr (.inl oAf))))] sz) := by
  refine vx_ofW (cc := cX10_need) (maxL := 2) (ret := none) (by decide) rfl ?_
  intro p e s m args below meth c s₁ B hml ht0 hv
  obtain ⟨rfl, hsz, hP, hK, hD0, hth⟩ := hv
  have hx := B.exec
  have hb := B.bytes
  have hr := B.returns
  have hts : ∀ w ∈ BG, w.before _ s = true := fun w h => atoms_spec (ws := Cond.code yX10_need cX10_need 2 none :: BG) B.pre w (List.mem_cons_of_mem _ h)
  have hown : s.vm.findClass RX10 = some m.cls := findClass_of_methodNamed B.named
  have hlocks := B.notSynchronized
  subst hsz
  have hD := hD0.self (sz := s.heap.size)
  generalize hAe : va_A [(x, .inr (12, xg)), (tx, .inr (10, txg)), (rd, .inr (7, rdg)), (mcd, .inl (mcdC, (17, .inl mcdf))), (mnm, .inl (mnmC, (17, .inl mnmf))), (deA, .inl (deAC, (6, .inr (.inr (.inr (.inr deAF)))))), (de0, .inr (3, de0g)), (de1, .inr (3, de1g)), (de2, .inr (3, de2g)), (de3, .inr (3, de3g)), (de4, .inr (3, de4g)), (de5, .inr (3, de5g)), (oA, .inl (oAC, (1, .inr (.inl oAf))))] s.heap.size = A at hD hth ⊢
  have hA : ∀ q : Nat, s.heap.size ≤ q → A q := fun q h => by rw [← hAe]; exact Or.inr h
  have hS : va_S A s.heap s.heap [] := va_S.rf
  have hl := lv_entry ([.ref tx, .int 3]) (n := 2) (Nat.le_of_ble_eq_true rfl)
  rw [lg_entry_eq]
  generalize (lg_sl ([.ref tx, .int 3]) ++ List.replicate (2 - (lg_sl ([.ref tx, .int 3])).length) Slot.unset).toArray = ls at hl ⊢
  have hl : lv_has ls 2 [(0, .ref tx), (1, .int 3)] := hl
  obtain ⟨H, eH⟩ : ∃ z, z = s.heap := ⟨_, rfl⟩
  have hP : va_P (dC, dI) CL [(x, .inr (12, xg)), (tx, .inr (10, txg)), (rd, .inr (7, rdg)), (mcd, .inl (mcdC, (17, .inl mcdf))), (mnm, .inl (mnmC, (17, .inl mnmf))), (deA, .inl (deAC, (6, .inr (.inr (.inr (.inr deAF)))))), (de0, .inr (3, de0g)), (de1, .inr (3, de1g)), (de2, .inr (3, de2g)), (de3, .inr (3, de3g)), (de4, .inr (3, de4g)), (de5, .inr (3, de5g)), (oA, .inl (oAC, (1, .inr (.inl oAf))))] H := by rw [eH]; exact hP
  have hS : va_S A s.heap H [] := by rw [eH]; exact hS
  rw [← eH]
  refine lv_aload_n hx hb dX10_need_0 rfl (lv_at hl 0 rfl) ?_
  refine va_get (D := (dC, dI)) (ci := 10) (v := .int 0) (C := RX10) (T := TX10) (N := 9) hx hb hts inX10 hown hK hP 1 rfl rfl 2 (by decide) (hts (.fieldLink RX10 33 "ChipFlow$Text" "kind" "I") wd_381) (fun _ h9 => h9) (h_tx.get 2 rfl) dX10_need_1 ?_
  refine lv_iload_n hx hb dX10_need_4 rfl (lv_at hl 1 rfl) ?_
  refine lv_icmp_eq (tgt := 17) hx hb dX10_need_5 (by decide) (fun c9 => ?_) (fun c9 => ?_)
  · first | exact absurd c9 (by decide +kernel) | exact absurd (by decide +kernel) c9
  refine lv_aload_n hx hb dX10_need_8 rfl (lv_at hl 0 rfl) ?_
  refine lv_iconst (v := 2) hx hb dX10_need_9 (by decide +kernel) ?_
  refine lv_aload_n hx hb dX10_need_10 rfl (lv_at hl 0 rfl) ?_
  refine va_get (D := (dC, dI)) (ci := 10) (v := .int 0) (C := RX10) (T := TX10) (N := 9) hx hb hts inX10 hown hK hP 1 rfl rfl 3 (by decide) (hts (.fieldLink RX10 36 "ChipFlow$Text" "start" "I") wd_383) (fun _ h9 => h9) (h_tx.get 3 rfl) dX10_need_11 ?_
  have hFc := va_free (wc := [(x, .inr (12, xg)), (tx, .inr (10, txg)), (rd, .inr (7, rdg)), (mcd, .inl (mcdC, (17, .inl mcdf))), (mnm, .inl (mnmC, (17, .inl mnmf))), (deA, .inl (deAC, (6, .inr (.inr (.inr (.inr deAF)))))), (de0, .inr (3, de0g)), (de1, .inr (3, de1g)), (de2, .inr (3, de2g)), (de3, .inr (3, de3g)), (de4, .inr (3, de4g)), (de5, .inr (3, de5g)), (oA, .inl (oAC, (1, .inr (.inl oAf))))]) hD hS hA [0, 1, 2, 3, 4, 5, 6, 7, 8, 9, 10, 11, 12] rfl
  refine vq_thr (vx_runV (As := [.int 2, .int 0]) (rest := []) ⟨hx, hb, hml, hown, hts⟩ (gx153_X10_fail l hlt dC dI _ x tx rd mcd mnm deA de0 de1 de2 de3 de4 de5 oA bt xg h_x txg h_tx rdg h_rd mcdC mcdf h_mcd mnmC mnmf h_mnm deAC deAF de0g h_de0 de1g h_de1 de2g h_de2 de3g h_de3 de4g h_de4 de5g h_de5 oAC oAf h_oA h_deA0 h_deA1 h_deA2 h_deA3 h_deA4 h_deA5) (cwV 2 hts (gi_V wd_1475 wd_1476 wd_1477 wd_328 wd_1478) rfl rfl rfl (by decide +kernel) ⟨(Nat.le_of_ble_eq_true rfl), (Nat.le_of_ble_eq_true rfl)⟩) ⟨fun a U g mk q => by obtain ⟨q0, q1, qP, qK, qD, qT⟩ := q; exact ⟨q0, q1, qP, va_K.moved (u := U) (U := U.calling g mk a) (Vm.Alike.refl U.vm) qK, qD, th.moved (u := U) (U := U.calling g mk a) (Vm.Alike.refl U.vm) qT⟩, va_recv hK hP (ci := 10) (q0 := 1) rfl rfl, fun U hU hW => ⟨rfl, by rw [hU], by rw [hU]; exact hP, va_K.moved hW.alike hK, hD.weaken (fun _ _ _ _ => trivial), by rw [hU]; exact ((hth.kept hS.2.1).narrow hFc).moved hW.alike⟩⟩ rfl rfl hl.1 rfl (lv_room (Nat.le_of_ble_eq_true rfl)) dX10_need_14 ⟨(Nat.le_of_ble_eq_true rfl), (Nat.le_of_ble_eq_true rfl)⟩) (fun _ _ _ h => h) hS hFc (fun q _ h => hFc q h) (fun E ce q9 u t H1 locs ht hvm hp hB hz hk hS hce hcv hcl => ?_)
  obtain ⟨hE, hB⟩ := hB
  subst hE
  obtain ⟨fs_1, fs_2, fs_3, f_4, f_5, fs_6, fs_7, fs_8, fs_9, fs_10, fs_11, f_12, h_x, h_tx, h_rd, h_mcd, h_mnm, h_de0, h_de1, h_de2, h_de3, h_de4, h_de5, h_oA, hP1, hK1, hD1⟩ := hB
  rw [ht] at hP1
  have hD := hD1.weaken (fun k q _ h => hFc q.1 h)
  have hP := hP1
  generalize H1 = H at hP hS hce ⊢
  have hP : va_P (dC, dI) CL [(x, .inr (12, fs_1)), (tx, .inr (10, fs_2)), (rd, .inr (7, fs_3)), (mcd, .inl (mcdC, (17, .inl f_4))), (mnm, .inl (mnmC, (17, .inl f_5))), (deA, .inl (deAC, (6, .inr (.inr (.inr (.inr deAF)))))), (de0, .inr (3, fs_6)), (de1, .inr (3, fs_7)), (de2, .inr (3, fs_8)), (de3, .inr (3, fs_9)), (de4, .inr (3, fs_10)), (de5, .inr (3, fs_11)), (oA, .inl (oAC, (1, .inr (.inl f_12))))] H := hP
  have hD : va_D A [(x, .inr (12, fs_1)), (tx, .inr (10, fs_2)), (rd, .inr (7, fs_3)), (mcd, .inl (mcdC, (17, .inl f_4))), (mnm, .inl (mnmC, (17, .inl f_5))), (deA, .inl (deAC, (6, .inr (.inr (.inr (.inr deAF)))))), (de0, .inr (3, fs_6)), (de1, .inr (3, fs_7)), (de2, .inr (3, fs_8)), (de3, .inr (3, fs_9)), (de4, .inr (3, fs_10)), (de5, .inr (3, fs_11)), (oA, .inl (oAC, (1, .inr (.inl f_12))))] := hD
  exact vx_out (fun x h9 => (ht0 x h9).elim) hlocks hce hcv hcl (fun t ht hvm9 => ⟨(), trivial, ⟨rfl, fs_1, fs_2, fs_3, f_4, f_5, fs_6, fs_7, fs_8, fs_9, fs_10, fs_11, f_12, h_x, h_tx, h_rd, h_mcd, h_mnm, h_de0, h_de1, h_de2, h_de3, h_de4, h_de5, h_oA, by rw [ht]; exact hP, va_K.moved hvm9 hK, hD⟩, hS.F ht⟩) hS.2.2 (Nat.le_of_ble_eq_true rfl) (Nat.le_of_ble_eq_true rfl)
set_option maxHeartbeats 4000000 in
set_option maxRecDepth 100000 in
theorem gx151_X7_beginModule (l : Launch) (hlt : l.stackTraces = false) (dC : Nat → ClassId) (dI : Nat → Nat → Nat) (sz : Nat) (x tx rd mcd mnm deA de0 de1 de2 de3 de4 de5 oA bt : Nat) (xg : List Value) (h_x : fx xg 17 [(0, .ref tx), (1, .ref rd), (7, .ref deA), (10, .int 0)]) (txg : List Value) (h_tx : fx txg 9 [(0, .ref bt), (1, .int 0), (2, .int 0), (3, .int 0), (4, .int 0), (6, .int 0), (7, .int 0), (8, .int 0)]) (rdg : List Value) (h_rd : fx rdg 18 [(0, .ref tx), (2, .int 0), (3, .int 0), (5, .ref mcd), (6, .ref mnm), (11, .null)]) (mcdC : ClassId) (mcdf : Nat → Int32) (h_mcd : fa mcdf [(0, 0)]) (mnmC : ClassId) (mnmf : Nat → Int32) (h_mnm : fa mnmf []) (deAC : ClassId) (deAF : Nat → Option Nat) (de0g : List Value) (h_de0 : fx de0g 16 [(0, .int 0)]) (de1g : List Value) (h_de1 : fx de1g 16 [(0, .int 0)]) (de2g : List Value) (h_de2 : fx de2g 16 [(0, .int 0)]) (de3g : List Value) (h_de3 : fx de3g 16 [(0, .int 0)]) (de4g : List Value) (h_de4 : fx de4g 16 [(0, .int 0)]) (de5g : List Value) (h_de5 : fx de5g 16 [(0, .int 0)]) (oAC : ClassId) (oAf : Nat → Int64) (h_oA : fa oAf []) (h_deA0 : deAF 0 = some de0) (h_deA1 : deAF 1 = some de1) (h_deA2 : deAF 2 = some de2) (h_deA3 : deAF 3 = some de3) (h_deA4 : deAF 4 = some de4) (h_deA5 : deAF 5 = some de5) : vx_Met l yX7_beginModule (Cond.code yX7_beginModule cX7_beginModule 2 none :: BG) ({ frames := 8, cells := 1, slots := 6, locals := 143 }) (va_Pc [.ref rd] (fun U => U.heap.size = sz ∧ va_P (dC, dI) CL [(x, .inr (12, xg)), (tx, .inr (10, txg)), (rd, .inr (7, rdg)), (mcd, .inl (mcdC, (17, .inl mcdf))), (mnm, .inl (mnmC, (17, .inl mnmf))), (deA, .inl (deAC, (6, .inr (.inr (.inr (.inr deAF)))))), (de0, .inr (3, de0g)), (de1, .inr (3, de1g)), (de2, .inr (3, de2g)), (de3, .inr (3, de3g)), (de4, .inr (3, de4g)), (de5, .inr (3, de5g)), (oA, .inl (oAC, (1, .inr (.inl oAf))))] U.heap ∧ va_K (dC, dI) CL [(mcdC, .int), (mnmC, .int), (deAC, .object "ChipFlow$Design"), (oAC, .long)] U ∧ va_D (fun _ => True) [(x, .inr (12, xg)), (tx, .inr (10, txg)), (rd, .inr (7, rdg)), (mcd, .inl (mcdC, (17, .inl mcdf))), (mnm, .inl (mnmC, (17, .inl mnmf))), (deA, .inl (deAC, (6, .inr (.inr (.inr (.inr deAF)))))), (de0, .inr (3, de0g)), (de1, .inr (3, de1g)), (de2, .inr (3, de2g)), (de3, .inr (3, de3g)), (de4, .inr (3, de4g)), (de5, .inr (3, de5g)), (oA, .inl (oAC, (1, .inr (.inl oAf))))] ∧ th (va_A [(x, .inr (12, xg)), (tx, .inr (10, txg)), (rd, .inr (7, rdg)), (mcd, .inl (mcdC, (17, .inl mcdf))), (mnm, .inl (mnmC, (17, .inl mnmf))), (deA, .inl (deAC, (6, .inr (.inr (.inr (.inr deAF)))))), (de0, .inr (3, de0g)), (de1, .inr (3, de1g)), (de2, .inr (3, de2g)), (de3, .inr (3, de3g)), (de4, .inr (3, de4g)), (de5, .inr (3, de5g)), (oA, .inl (oAC, (1, .inr (.inl oAf))))] sz) U U.heap)) (fun _ _ _ _ => False) (vx_X (fun _ : Unit => True) (fun E _ t => E = "java/lang/IllegalStateException" ∧ ∃ (xy : List Value) (txy : List Value) (rdy : List Value) (mcdy : Nat → Int32) (mnmy : Nat → Int32) (de0y : List Value) (de1y : List Value) (de2y : List Value) (de3y : List Value) (de4y : List Value) (de5y : List Value) (oAy : Nat → Int64), fx xy 17 [(0, .ref tx), (1, .ref rd), (7, .ref deA), (10, .int 0)] ∧ fx txy 9 [(0, .ref bt), (1, .int 0), (2, .int 0), (3, .int 0), (4, .int 0), (6, .int 2), (7, .int 0), (8, .int 0)] ∧ fx rdy 18 [(0, .ref tx), (2, .int 0), (3, .int 0), (5, .ref mcd), (6, .ref mnm), (11, .null)] ∧ fa mcdy [(0, 0)] ∧ fa mnmy [] ∧ fx de0y 16 [(0, .int 0)] ∧ fx de1y 16 [(0, .int 0)] ∧ fx de2y 16 [(0, .int 0)] ∧ fx de3y 16 [(0, .int 0)] ∧ fx de4y 16 [(0, .int 0)] ∧ fx de5y 16 [(0, .int 0)] ∧ fa oAy [] ∧ va_P (dC, dI) CL [(x, .inr (12, xy)), (tx, .inr (10, txy)), (rd, .inr (7, rdy)), (mcd, .inl (mcdC, (17, .inl mcdy))), (mnm, .inl (mnmC, (17, .inl mnmy))), (deA, .inl (deAC, (6, .inr (.inr (.inr (.inr deAF)))))), (de0, .inr (3, de0y)), (de1, .inr (3, de1y)), (de2, .inr (3, de2y)), (de3, .inr (3, de3y)), (de4, .inr (3, de4y)), (de5, .inr (3, de5y)), (oA, .inl (oAC, (1, .inr (.inl oAy))))] t.heap ∧ va_K (dC, dI) CL [(mcdC, .int), (mnmC, .int), (deAC, .object "ChipFlow$Design"), (oAC, .long)] t ∧ va_D (va_A [(x, .inr (12, xg)), (tx, .inr (10, txg)), (rd, .inr (7, rdg)), (mcd, .inl (mcdC, (17, .inl mcdf))), (mnm, .inl (mnmC, (17, .inl mnmf))), (deA, .inl (deAC, (6, .inr (.inr (.inr (.inr deAF)))))), (de0, .inr (3, de0g)), (de1, .inr (3, de1g)), (de2, .inr (3, de2g)), (de3, .inr (3, de3g)), (de4, .inr (3, de4g)), (de5, .inr (3, de5g)), (oA, .inl (oAC, (1, .inr (.inl oAf))))] sz) [(x, .inr (12, xy)), (tx, .inr (10, txy)), (rd, .inr (7, rdy)), (mcd, .inl (mcdC, (17, .inl mcdy))), (mnm, .inl (mnmC, (17, .inl mnmy))), (deA, .inl (deAC, (6, .inr (.inr (.inr (.inr deAF)))))), (de0, .inr (3, de0y)), (de1, .inr (3, de1y)), (de2, .inr (3, de2y)), (de3, .inr (3, de3y)), (de4, .inr (3, de4y)), (de5, .inr (3, de5y)), (oA, .inl (oAC, (1, .inr (.inl oAy))))]) (va_A [(x, .inr (12, xg)), (tx, .inr (10, txg)), (rd, .inr (7, rdg)), (mcd, .inl (mcdC, (17, .inl mcdf))), (mnm, .inl (mnmC, (17, .inl mnmf))), (deA, .inl (deAC, (6, .inr (.inr (.inr (.inr deAF)))))), (de0, .inr (3, de0g)), (de1, .inr (3, de1g)), (de2, .inr (3, de2g)), (de3, .inr (3, de3g)), (de4, .inr (3, de4g)), (de5, .inr (3, de5g)), (oA, .inl (oAC, (1, .inr (.inl oAf))))] sz)) 1 6 (va_A [(x, .inr (12, xg)), (tx, .inr (10, txg)), (rd, .inr (7, rdg)), (mcd, .inl (mcdC, (17, .inl mcdf))), (mnm, .inl (mnmC, (17, .inl mnmf))), (deA, .inl (deAC, (6, .inr (.inr (.inr (.inr deAF)))))), (de0, .inr (3, de0g)), (de1, .inr (3, de1g)), (de2, .inr (3, de2g)), (de3, .inr (3, de3g)), (de4, .inr (3, de4g)), (de5, .inr (3, de5g)), (oA, .inl (oAC, (1, .inr (.inl oAf))))] sz) := by
  refine vx_ofW (cc := cX7_beginModule) (maxL := 2) (ret := none) (by decide) rfl ?_
  intro p e s m args below meth c s₁ B hml ht0 hv
  obtain ⟨rfl, hsz, hP, hK, hD0, hth⟩ := hv
  have hx := B.exec
  have hb := B.bytes
  have hr := B.returns
  have hts : ∀ w ∈ BG, w.before _ s = true := fun w h => atoms_spec (ws := Cond.code yX7_beginModule cX7_beginModule 2 none :: BG) B.pre w (List.mem_cons_of_mem _ h)
  have hown : s.vm.findClass RX7 = some m.cls := findClass_of_methodNamed B.named
  have hlocks := B.notSynchronized
  subst hsz
  have hD := hD0.self (sz := s.heap.size)
  generalize hAe : va_A [(x, .inr (12, xg)), (tx, .inr (10, txg)), (rd, .inr (7, rdg)), (mcd, .inl (mcdC, (17, .inl mcdf))), (mnm, .inl (mnmC, (17, .inl mnmf))), (deA, .inl (deAC, (6, .inr (.inr (.inr (.inr deAF)))))), (de0, .inr (3, de0g)), (de1, .inr (3, de1g)), (de2, .inr (3, de2g)), (de3, .inr (3, de3g)), (de4, .inr (3, de4g)), (de5, .inr (3, de5g)), (oA, .inl (oAC, (1, .inr (.inl oAf))))] s.heap.size = A at hD hth ⊢
  have hA : ∀ q : Nat, s.heap.size ≤ q → A q := fun q h => by rw [← hAe]; exact Or.inr h
  have hS : va_S A s.heap s.heap [] := va_S.rf
  have hl := lv_entry ([.ref rd]) (n := 2) (Nat.le_of_ble_eq_true rfl)
  rw [lg_entry_eq]
  generalize (lg_sl ([.ref rd]) ++ List.replicate (2 - (lg_sl ([.ref rd])).length) Slot.unset).toArray = ls at hl ⊢
  have hl : lv_has ls 2 [(0, .ref rd)] := hl
  obtain ⟨H, eH⟩ : ∃ z, z = s.heap := ⟨_, rfl⟩
  have hP : va_P (dC, dI) CL [(x, .inr (12, xg)), (tx, .inr (10, txg)), (rd, .inr (7, rdg)), (mcd, .inl (mcdC, (17, .inl mcdf))), (mnm, .inl (mnmC, (17, .inl mnmf))), (deA, .inl (deAC, (6, .inr (.inr (.inr (.inr deAF)))))), (de0, .inr (3, de0g)), (de1, .inr (3, de1g)), (de2, .inr (3, de2g)), (de3, .inr (3, de3g)), (de4, .inr (3, de4g)), (de5, .inr (3, de5g)), (oA, .inl (oAC, (1, .inr (.inl oAf))))] H := by rw [eH]; exact hP
  have hS : va_S A s.heap H [] := by rw [eH]; exact hS
  rw [← eH]
  refine lv_aload_n hx hb dX7_beginModule_0 rfl (lv_at hl 0 rfl) ?_
  refine va_get (D := (dC, dI)) (ci := 7) (v := .ref tx) (C := RX7) (T := TX7) (N := 18) hx hb hts inX7 hown hK hP 2 rfl rfl 0 (by decide) (hts (.fieldLink RX7 48 "ChipFlow$Reader" "text" "LChipFlow$Text;") wd_419) (fun _ h9 => h9) (h_rd.get 0 rfl) dX7_beginModule_1 ?_
  refine lv_iconst (v := 3) hx hb dX7_beginModule_4 (by decide +kernel) ?_
  have hFc := va_free (wc := [(x, .inr (12, xg)), (tx, .inr (10, txg)), (rd, .inr (7, rdg)), (mcd, .inl (mcdC, (17, .inl mcdf))), (mnm, .inl (mnmC, (17, .inl mnmf))), (deA, .inl (deAC, (6, .inr (.inr (.inr (.inr deAF)))))), (de0, .inr (3, de0g)), (de1, .inr (3, de1g)), (de2, .inr (3, de2g)), (de3, .inr (3, de3g)), (de4, .inr (3, de4g)), (de5, .inr (3, de5g)), (oA, .inl (oAC, (1, .inr (.inl oAf))))]) hD hS hA [0, 1, 2, 3, 4, 5, 6, 7, 8, 9, 10, 11, 12] rfl
  refine vq_thr (vx_runV (As := [.int 3]) (rest := []) ⟨hx, hb, hml, hown, hts⟩ (gx152_X10_need l hlt dC dI _ x tx rd mcd mnm deA de0 de1 de2 de3 de4 de5 oA bt xg h_x txg h_tx rdg h_rd mcdC mcdf h_mcd mnmC mnmf h_mnm deAC deAF de0g h_de0 de1g h_de1 de2g h_de2 de3g h_de3 de4g h_de4 de5g h_de5 oAC oAf h_oA h_deA0 h_deA1 h_deA2 h_deA3 h_deA4 h_deA5) (cwV 1 hts (gi_V wd_1498 wd_1499 wd_1500 wd_328 wd_1501) rfl rfl rfl (by decide +kernel) ⟨(Nat.le_of_ble_eq_true rfl), (Nat.le_of_ble_eq_true rfl)⟩) ⟨fun a U g mk q => by obtain ⟨q0, q1, qP, qK, qD, qT⟩ := q; exact ⟨q0, q1, qP, va_K.moved (u := U) (U := U.calling g mk a) (Vm.Alike.refl U.vm) qK, qD, th.moved (u := U) (U := U.calling g mk a) (Vm.Alike.refl U.vm) qT⟩, va_recv hK hP (ci := 10) (q0 := 1) rfl rfl, fun U hU hW => ⟨rfl, by rw [hU], by rw [hU]; exact hP, va_K.moved hW.alike hK, hD.weaken (fun _ _ _ _ => trivial), by rw [hU]; exact ((hth.kept hS.2.1).narrow hFc).moved hW.alike⟩⟩ rfl rfl hl.1 rfl (lv_room (Nat.le_of_ble_eq_true rfl)) dX7_beginModule_5 ⟨(Nat.le_of_ble_eq_true rfl), (Nat.le_of_ble_eq_true rfl)⟩) (fun _ _ _ h => h) hS hFc (fun q _ h => hFc q h) (fun E ce q9 u t H1 locs ht hvm hp hB hz hk hS hce hcv hcl => ?_)
  obtain ⟨hE, hB⟩ := hB
  subst hE
  obtain ⟨fs_1, fs_2, fs_3, f_4, f_5, fs_6, fs_7, fs_8, fs_9, fs_10, fs_11, f_12, h_x, h_tx, h_rd, h_mcd, h_mnm, h_de0, h_de1, h_de2, h_de3, h_de4, h_de5, h_oA, hP1, hK1, hD1⟩ := hB
  rw [ht] at hP1
  have hD := hD1.weaken (fun k q _ h => hFc q.1 h)
  have hP := hP1
  generalize H1 = H at hP hS hce ⊢
  have hP : va_P (dC, dI) CL [(x, .inr (12, fs_1)), (tx, .inr (10, fs_2)), (rd, .inr (7, fs_3)), (mcd, .inl (mcdC, (17, .inl f_4))), (mnm, .inl (mnmC, (17, .inl f_5))), (deA, .inl (deAC, (6, .inr (.inr (.inr (.inr deAF)))))), (de0, .inr (3, fs_6)), (de1, .inr (3, fs_7)), (de2, .inr (3, fs_8)), (de3, .inr (3, fs_9)), (de4, .inr (3, fs_10)), (de5, .inr (3, fs_11)), (oA, .inl (oAC, (1, .inr (.inl f_12))))] H := hP
  have hD : va_D A [(x, .inr (12, fs_1)), (tx, .inr (10, fs_2)), (rd, .inr (7, fs_3)), (mcd, .inl (mcdC, (17, .inl f_4))), (mnm, .inl (mnmC, (17, .inl f_5))), (deA, .inl (deAC, (6, .inr (.inr (.inr (.inr deAF)))))), (de0, .inr (3, fs_6)), (de1, .inr (3, fs_7)), (de2, .inr (3, fs_8)), (de3, .inr (3, fs_9)), (de4, .inr (3, fs_10)), (de5, .inr (3, fs_11)), (oA, .inl (oAC, (1, .inr (.inl f_12))))] := hD
  exact vx_out (fun x h9 => (ht0 x h9).elim) hlocks hce hcv hcl (fun t ht hvm9 => ⟨(), trivial, ⟨rfl, fs_1, fs_2, fs_3, f_4, f_5, fs_6, fs_7, fs_8, fs_9, fs_10, fs_11, f_12, h_x, h_tx, h_rd, h_mcd, h_mnm, h_de0, h_de1, h_de2, h_de3, h_de4, h_de5, h_oA, by rw [ht]; exact hP, va_K.moved hvm9 hK, hD⟩, hS.F ht⟩) hS.2.2 (Nat.le_of_ble_eq_true rfl) (Nat.le_of_ble_eq_true rfl)
set_option maxHeartbeats 4000000 in
set_option maxRecDepth 100000 in
theorem gx147_X7_readDesign (l : Launch) (hlt : l.stackTraces = false) (dC : Nat → ClassId) (dI : Nat → Nat → Nat) (sz : Nat) (x tx rd mcd mnm deA de0 de1 de2 de3 de4 de5 oA bt : Nat) (xg : List Value) (h_x : fx xg 17 [(0, .ref tx), (1, .ref rd), (7, .ref deA), (10, .int 0)]) (txg : List Value) (h_tx : fx txg 9 [(0, .ref bt), (1, .int 0), (2, .int 0), (3, .int 0), (4, .int 0), (6, .int 0), (7, .int 0), (8, .int 0)]) (rdg : List Value) (h_rd : fx rdg 18 [(0, .ref tx), (5, .ref mcd), (6, .ref mnm)]) (mcdC : ClassId) (mcdf : Nat → Int32) (h_mcd : fa mcdf []) (mnmC : ClassId) (mnmf : Nat → Int32) (h_mnm : fa mnmf []) (deAC : ClassId) (deAF : Nat → Option Nat) (de0g : List Value) (h_de0 : fx de0g 16 [(0, .int 0)]) (de1g : List Value) (h_de1 : fx de1g 16 [(0, .int 0)]) (de2g : List Value) (h_de2 : fx de2g 16 [(0, .int 0)]) (de3g : List Value) (h_de3 : fx de3g 16 [(0, .int 0)]) (de4g : List Value) (h_de4 : fx de4g 16 [(0, .int 0)]) (de5g : List Value) (h_de5 : fx de5g 16 [(0, .int 0)]) (oAC : ClassId) (oAf : Nat → Int64) (h_oA : fa oAf []) (h_deA0 : deAF 0 = some de0) (h_deA1 : deAF 1 = some de1) (h_deA2 : deAF 2 = some de2) (h_deA3 : deAF 3 = some de3) (h_deA4 : deAF 4 = some de4) (h_deA5 : deAF 5 = some de5) : vx_Met l yX7_readDesign (Cond.code yX7_readDesign cX7_readDesign 3 none :: BG) ({ frames := 9, cells := 1, slots := 6, locals := 164 }) (va_Pc [.ref rd] (fun U => U.heap.size = sz ∧ va_P (dC, dI) CL [(x, .inr (12, xg)), (tx, .inr (10, txg)), (rd, .inr (7, rdg)), (mcd, .inl (mcdC, (17, .inl mcdf))), (mnm, .inl (mnmC, (17, .inl mnmf))), (deA, .inl (deAC, (6, .inr (.inr (.inr (.inr deAF)))))), (de0, .inr (3, de0g)), (de1, .inr (3, de1g)), (de2, .inr (3, de2g)), (de3, .inr (3, de3g)), (de4, .inr (3, de4g)), (de5, .inr (3, de5g)), (oA, .inl (oAC, (1, .inr (.inl oAf))))] U.heap ∧ va_K (dC, dI) CL [(mcdC, .int), (mnmC, .int), (deAC, .object "ChipFlow$Design"), (oAC, .long)] U ∧ va_D (fun _ => True) [(x, .inr (12, xg)), (tx, .inr (10, txg)), (rd, .inr (7, rdg)), (mcd, .inl (mcdC, (17, .inl mcdf))), (mnm, .inl (mnmC, (17, .inl mnmf))), (deA, .inl (deAC, (6, .inr (.inr (.inr (.inr deAF)))))), (de0, .inr (3, de0g)), (de1, .inr (3, de1g)), (de2, .inr (3, de2g)), (de3, .inr (3, de3g)), (de4, .inr (3, de4g)), (de5, .inr (3, de5g)), (oA, .inl (oAC, (1, .inr (.inl oAf))))] ∧ th (va_A [(x, .inr (12, xg)), (tx, .inr (10, txg)), (rd, .inr (7, rdg)), (mcd, .inl (mcdC, (17, .inl mcdf))), (mnm, .inl (mnmC, (17, .inl mnmf))), (deA, .inl (deAC, (6, .inr (.inr (.inr (.inr deAF)))))), (de0, .inr (3, de0g)), (de1, .inr (3, de1g)), (de2, .inr (3, de2g)), (de3, .inr (3, de3g)), (de4, .inr (3, de4g)), (de5, .inr (3, de5g)), (oA, .inl (oAC, (1, .inr (.inl oAf))))] sz) U U.heap)) (fun _ _ _ _ => False) (vx_X (fun _ : Unit => True) (fun E _ t => E = "java/lang/IllegalStateException" ∧ ∃ (xy : List Value) (txy : List Value) (rdy : List Value) (mcdy : Nat → Int32) (mnmy : Nat → Int32) (de0y : List Value) (de1y : List Value) (de2y : List Value) (de3y : List Value) (de4y : List Value) (de5y : List Value) (oAy : Nat → Int64), fx xy 17 [(0, .ref tx), (1, .ref rd), (7, .ref deA), (10, .int 0)] ∧ fx txy 9 [(0, .ref bt), (1, .int 0), (2, .int 0), (3, .int 0), (4, .int 0), (6, .int 2), (7, .int 0), (8, .int 0)] ∧ fx rdy 18 [(0, .ref tx), (2, .int 0), (3, .int 0), (5, .ref mcd), (6, .ref mnm), (11, .null)] ∧ fa mcdy [(0, 0)] ∧ fa mnmy [] ∧ fx de0y 16 [(0, .int 0)] ∧ fx de1y 16 [(0, .int 0)] ∧ fx de2y 16 [(0, .int 0)] ∧ fx de3y 16 [(0, .int 0)] ∧ fx de4y 16 [(0, .int 0)] ∧ fx de5y 16 [(0, .int 0)] ∧ fa oAy [] ∧ va_P (dC, dI) CL [(x, .inr (12, xy)), (tx, .inr (10, txy)), (rd, .inr (7, rdy)), (mcd, .inl (mcdC, (17, .inl mcdy))), (mnm, .inl (mnmC, (17, .inl mnmy))), (deA, .inl (deAC, (6, .inr (.inr (.inr (.inr deAF)))))), (de0, .inr (3, de0y)), (de1, .inr (3, de1y)), (de2, .inr (3, de2y)), (de3, .inr (3, de3y)), (de4, .inr (3, de4y)), (de5, .inr (3, de5y)), (oA, .inl (oAC, (1, .inr (.inl oAy))))] t.heap ∧ va_K (dC, dI) CL [(mcdC, .int), (mnmC, .int), (deAC, .object "ChipFlow$Design"), (oAC, .long)] t ∧ va_D (va_A [(x, .inr (12, xg)), (tx, .inr (10, txg)), (rd, .inr (7, rdg)), (mcd, .inl (mcdC, (17, .inl mcdf))), (mnm, .inl (mnmC, (17, .inl mnmf))), (deA, .inl (deAC, (6, .inr (.inr (.inr (.inr deAF)))))), (de0, .inr (3, de0g)), (de1, .inr (3, de1g)), (de2, .inr (3, de2g)), (de3, .inr (3, de3g)), (de4, .inr (3, de4g)), (de5, .inr (3, de5g)), (oA, .inl (oAC, (1, .inr (.inl oAf))))] sz) [(x, .inr (12, xy)), (tx, .inr (10, txy)), (rd, .inr (7, rdy)), (mcd, .inl (mcdC, (17, .inl mcdy))), (mnm, .inl (mnmC, (17, .inl mnmy))), (deA, .inl (deAC, (6, .inr (.inr (.inr (.inr deAF)))))), (de0, .inr (3, de0y)), (de1, .inr (3, de1y)), (de2, .inr (3, de2y)), (de3, .inr (3, de3y)), (de4, .inr (3, de4y)), (de5, .inr (3, de5y)), (oA, .inl (oAC, (1, .inr (.inl oAy))))]) (va_A [(x, .inr (12, xg)), (tx, .inr (10, txg)), (rd, .inr (7, rdg)), (mcd, .inl (mcdC, (17, .inl mcdf))), (mnm, .inl (mnmC, (17, .inl mnmf))), (deA, .inl (deAC, (6, .inr (.inr (.inr (.inr deAF)))))), (de0, .inr (3, de0g)), (de1, .inr (3, de1g)), (de2, .inr (3, de2g)), (de3, .inr (3, de3g)), (de4, .inr (3, de4g)), (de5, .inr (3, de5g)), (oA, .inl (oAC, (1, .inr (.inl oAf))))] sz)) 1 6 (va_A [(x, .inr (12, xg)), (tx, .inr (10, txg)), (rd, .inr (7, rdg)), (mcd, .inl (mcdC, (17, .inl mcdf))), (mnm, .inl (mnmC, (17, .inl mnmf))), (deA, .inl (deAC, (6, .inr (.inr (.inr (.inr deAF)))))), (de0, .inr (3, de0g)), (de1, .inr (3, de1g)), (de2, .inr (3, de2g)), (de3, .inr (3, de3g)), (de4, .inr (3, de4g)), (de5, .inr (3, de5g)), (oA, .inl (oAC, (1, .inr (.inl oAf))))] sz) := by
  refine vx_ofW (cc := cX7_readDesign) (maxL := 3) (ret := none) (by decide) rfl ?_
  intro p e s m args below meth c s₁ B hml ht0 hv
  obtain ⟨rfl, hsz, hP, hK, hD0, hth⟩ := hv
  have hx := B.exec
  have hb := B.bytes
  have hr := B.returns
  have hts : ∀ w ∈ BG, w.before _ s = true := fun w h => atoms_spec (ws := Cond.code yX7_readDesign cX7_readDesign 3 none :: BG) B.pre w (List.mem_cons_of_mem _ h)
  have hown : s.vm.findClass RX7 = some m.cls := findClass_of_methodNamed B.named
  have hlocks := B.notSynchronized
  subst hsz
  have hD := hD0.self (sz := s.heap.size)
  generalize hAe : va_A [(x, .inr (12, xg)), (tx, .inr (10, txg)), (rd, .inr (7, rdg)), (mcd, .inl (mcdC, (17, .inl mcdf))), (mnm, .inl (mnmC, (17, .inl mnmf))), (deA, .inl (deAC, (6, .inr (.inr (.inr (.inr deAF)))))), (de0, .inr (3, de0g)), (de1, .inr (3, de1g)), (de2, .inr (3, de2g)), (de3, .inr (3, de3g)), (de4, .inr (3, de4g)), (de5, .inr (3, de5g)), (oA, .inl (oAC, (1, .inr (.inl oAf))))] s.heap.size = A at hD hth ⊢
  have hA : ∀ q : Nat, s.heap.size ≤ q → A q := fun q h => by rw [← hAe]; exact Or.inr h
  have hS : va_S A s.heap s.heap [] := va_S.rf
  have hl := lv_entry ([.ref rd]) (n := 3) (Nat.le_of_ble_eq_true rfl)
  rw [lg_entry_eq]
  generalize (lg_sl ([.ref rd]) ++ List.replicate (3 - (lg_sl ([.ref rd])).length) Slot.unset).toArray = ls at hl ⊢
  have hl : lv_has ls 3 [(0, .ref rd)] := hl
  obtain ⟨H, eH⟩ : ∃ z, z = s.heap := ⟨_, rfl⟩
  have hP : va_P (dC, dI) CL [(x, .inr (12, xg)), (tx, .inr (10, txg)), (rd, .inr (7, rdg)), (mcd, .inl (mcdC, (17, .inl mcdf))), (mnm, .inl (mnmC, (17, .inl mnmf))), (deA, .inl (deAC, (6, .inr (.inr (.inr (.inr deAF)))))), (de0, .inr (3, de0g)), (de1, .inr (3, de1g)), (de2, .inr (3, de2g)), (de3, .inr (3, de3g)), (de4, .inr (3, de4g)), (de5, .inr (3, de5g)), (oA, .inl (oAC, (1, .inr (.inl oAf))))] H := by rw [eH]; exact hP
  have hS : va_S A s.heap H [] := by rw [eH]; exact hS
  rw [← eH]
  refine lv_aload_n hx hb dX7_readDesign_0 rfl (lv_at hl 0 rfl) ?_
  refine lv_null hx hb dX7_readDesign_1 ?_
  refine va_put (D := (dC, dI)) (ci := 7) (v := .null) (ty := tyX7 11) (C := RX7) (T := TX7) (N := 18) hx hb hts inX7 tyX7 tyX7_ok nmX7 hown hK hP hD hS 2 rfl rfl 11 (by decide) (hts (.fieldLink RX7 52 "ChipFlow$Reader" "library" "LChipFlow$Library;") wd_439) (fun _ h9 => h9) rfl (by decide +kernel) rfl rfl (by rw [h_rd.1]; decide) dX7_readDesign_2 (fun H locs hP hD hS => ?_)
  obtain ⟨fs_1, e9⟩ : ∃ z, z = rdg.set 11 (.null) := ⟨_, rfl⟩
  have h_rd : fx fs_1 18 [(0, .ref tx), (5, .ref mcd), (6, .ref mnm), (11, .null)] := by rw [e9]; exact (h_rd.put (F' := [(11, .null), (0, .ref tx), (5, .ref mcd), (6, .ref mnm)]) (by decide) _ rfl).sub [1, 2, 3, 0] rfl
  have hP : va_P (dC, dI) CL [(x, .inr (12, xg)), (tx, .inr (10, txg)), (rd, .inr (7, fs_1)), (mcd, .inl (mcdC, (17, .inl mcdf))), (mnm, .inl (mnmC, (17, .inl mnmf))), (deA, .inl (deAC, (6, .inr (.inr (.inr (.inr deAF)))))), (de0, .inr (3, de0g)), (de1, .inr (3, de1g)), (de2, .inr (3, de2g)), (de3, .inr (3, de3g)), (de4, .inr (3, de4g)), (de5, .inr (3, de5g)), (oA, .inl (oAC, (1, .inr (.inl oAf))))] H := by rw [e9]; exact hP
  have hD : va_D A [(x, .inr (12, xg)), (tx, .inr (10, txg)), (rd, .inr (7, fs_1)), (mcd, .inl (mcdC, (17, .inl mcdf))), (mnm, .inl (mnmC, (17, .inl mnmf))), (deA, .inl (deAC, (6, .inr (.inr (.inr (.inr deAF)))))), (de0, .inr (3, de0g)), (de1, .inr (3, de1g)), (de2, .inr (3, de2g)), (de3, .inr (3, de3g)), (de4, .inr (3, de4g)), (de5, .inr (3, de5g)), (oA, .inl (oAC, (1, .inr (.inl oAf))))] := by rw [e9]; exact hD
  clear e9
  refine lv_aload_n hx hb dX7_readDesign_5 rfl (lv_at hl 0 rfl) ?_
  refine lv_iconst (v := 0) hx hb dX7_readDesign_6 (by decide +kernel) ?_
  refine va_put (D := (dC, dI)) (ci := 7) (v := .int 0) (ty := tyX7 3) (C := RX7) (T := TX7) (N := 18) hx hb hts inX7 tyX7 tyX7_ok nmX7 hown hK hP hD hS 2 rfl rfl 3 (by decide) (hts (.fieldLink RX7 56 "ChipFlow$Reader" "modules" "I") wd_424) (fun _ h9 => h9) rfl (by decide +kernel) rfl rfl (by rw [h_rd.1]; decide) dX7_readDesign_7 (fun H locs hP hD hS => ?_)
  obtain ⟨fs_2, e9⟩ : ∃ z, z = fs_1.set 3 (.int 0) := ⟨_, rfl⟩
  have h_rd : fx fs_2 18 [(0, .ref tx), (3, .int 0), (5, .ref mcd), (6, .ref mnm), (11, .null)] := by rw [e9]; exact (h_rd.put (F' := [(3, .int 0), (0, .ref tx), (5, .ref mcd), (6, .ref mnm), (11, .null)]) (by decide) _ rfl).sub [1, 0, 2, 3, 4] rfl
  have hP : va_P (dC, dI) CL [(x, .inr (12, xg)), (tx, .inr (10, txg)), (rd, .inr (7, fs_2)), (mcd, .inl (mcdC, (17, .inl mcdf))), (mnm, .inl (mnmC, (17, .inl mnmf))), (deA, .inl (deAC, (6, .inr (.inr (.inr (.inr deAF)))))), (de0, .inr (3, de0g)), (de1, .inr (3, de1g)), (de2, .inr (3, de2g)), (de3, .inr (3, de3g)), (de4, .inr (3, de4g)), (de5, .inr (3, de5g)), (oA, .inl (oAC, (1, .inr (.inl oAf))))] H := by rw [e9]; exact hP
  have hD : va_D A [(x, .inr (12, xg)), (tx, .inr (10, txg)), (rd, .inr (7, fs_2)), (mcd, .inl (mcdC, (17, .inl mcdf))), (mnm, .inl (mnmC, (17, .inl mnmf))), (deA, .inl (deAC, (6, .inr (.inr (.inr (.inr deAF)))))), (de0, .inr (3, de0g)), (de1, .inr (3, de1g)), (de2, .inr (3, de2g)), (de3, .inr (3, de3g)), (de4, .inr (3, de4g)), (de5, .inr (3, de5g)), (oA, .inl (oAC, (1, .inr (.inl oAf))))] := by rw [e9]; exact hD
  clear e9
  refine lv_aload_n hx hb dX7_readDesign_10 rfl (lv_at hl 0 rfl) ?_
  refine lv_iconst (v := 0) hx hb dX7_readDesign_11 (by decide +kernel) ?_
  refine va_put (D := (dC, dI)) (ci := 7) (v := .int 0) (ty := tyX7 2) (C := RX7) (T := TX7) (N := 18) hx hb hts inX7 tyX7 tyX7_ok nmX7 hown hK hP hD hS 2 rfl rfl 2 (by decide) (hts (.fieldLink RX7 60 "ChipFlow$Reader" "codeSize" "I") wd_423) (fun _ h9 => h9) rfl (by decide +kernel) rfl rfl (by rw [h_rd.1]; decide) dX7_readDesign_12 (fun H locs hP hD hS => ?_)
  obtain ⟨fs_3, e9⟩ : ∃ z, z = fs_2.set 2 (.int 0) := ⟨_, rfl⟩
  have h_rd : fx fs_3 18 [(0, .ref tx), (2, .int 0), (3, .int 0), (5, .ref mcd), (6, .ref mnm), (11, .null)] := by rw [e9]; exact (h_rd.put (F' := [(2, .int 0), (0, .ref tx), (3, .int 0), (5, .ref mcd), (6, .ref mnm), (11, .null)]) (by decide) _ rfl).sub [1, 0, 2, 3, 4, 5] rfl
  have hP : va_P (dC, dI) CL [(x, .inr (12, xg)), (tx, .inr (10, txg)), (rd, .inr (7, fs_3)), (mcd, .inl (mcdC, (17, .inl mcdf))), (mnm, .inl (mnmC, (17, .inl mnmf))), (deA, .inl (deAC, (6, .inr (.inr (.inr (.inr deAF)))))), (de0, .inr (3, de0g)), (de1, .inr (3, de1g)), (de2, .inr (3, de2g)), (de3, .inr (3, de3g)), (de4, .inr (3, de4g)), (de5, .inr (3, de5g)), (oA, .inl (oAC, (1, .inr (.inl oAf))))] H := by rw [e9]; exact hP
  have hD : va_D A [(x, .inr (12, xg)), (tx, .inr (10, txg)), (rd, .inr (7, fs_3)), (mcd, .inl (mcdC, (17, .inl mcdf))), (mnm, .inl (mnmC, (17, .inl mnmf))), (deA, .inl (deAC, (6, .inr (.inr (.inr (.inr deAF)))))), (de0, .inr (3, de0g)), (de1, .inr (3, de1g)), (de2, .inr (3, de2g)), (de3, .inr (3, de3g)), (de4, .inr (3, de4g)), (de5, .inr (3, de5g)), (oA, .inl (oAC, (1, .inr (.inl oAf))))] := by rw [e9]; exact hD
  clear e9
  refine lv_aload_n hx hb dX7_readDesign_15 rfl (lv_at hl 0 rfl) ?_
  refine va_get (D := (dC, dI)) (ci := 7) (v := .ref mcd) (C := RX7) (T := TX7) (N := 18) hx hb hts inX7 hown hK hP 2 rfl rfl 5 (by decide) (hts (.fieldLink RX7 21 "ChipFlow$Reader" "moduleCode" "[I") wd_428) (fun _ h9 => h9) (h_rd.get 3 rfl) dX7_readDesign_16 ?_
  refine lv_iconst (v := 0) hx hb dX7_readDesign_19 (by decide +kernel) ?_
  refine lv_iconst (v := 0) hx hb dX7_readDesign_20 (by decide +kernel) ?_
  refine va_iast hx hb hK hP hD hS 3 0 rfl rfl (vp_in_nI (n := 0) (N := 17) (by decide) (by decide)) dX7_readDesign_21 (fun H locs hP hD hS => ?_)
  obtain ⟨f_4, e9⟩ : ∃ z, z = upd mcdf (0 : Int32).toNatClampNeg 0 := ⟨_, rfl⟩
  have h_mcd : fa f_4 [(0, 0)] := by rw [e9, show (0 : Int32).toNatClampNeg = 0 by decide +kernel]; exact (fa.put h_mcd).sub [0] rfl
  have hP : va_P (dC, dI) CL [(x, .inr (12, xg)), (tx, .inr (10, txg)), (rd, .inr (7, fs_3)), (mcd, .inl (mcdC, (17, .inl f_4))), (mnm, .inl (mnmC, (17, .inl mnmf))), (deA, .inl (deAC, (6, .inr (.inr (.inr (.inr deAF)))))), (de0, .inr (3, de0g)), (de1, .inr (3, de1g)), (de2, .inr (3, de2g)), (de3, .inr (3, de3g)), (de4, .inr (3, de4g)), (de5, .inr (3, de5g)), (oA, .inl (oAC, (1, .inr (.inl oAf))))] H := by rw [e9]; exact hP
  have hD : va_D A [(x, .inr (12, xg)), (tx, .inr (10, txg)), (rd, .inr (7, fs_3)), (mcd, .inl (mcdC, (17, .inl f_4))), (mnm, .inl (mnmC, (17, .inl mnmf))), (deA, .inl (deAC, (6, .inr (.inr (.inr (.inr deAF)))))), (de0, .inr (3, de0g)), (de1, .inr (3, de1g)), (de2, .inr (3, de2g)), (de3, .inr (3, de3g)), (de4, .inr (3, de4g)), (de5, .inr (3, de5g)), (oA, .inl (oAC, (1, .inr (.inl oAf))))] := by rw [e9]; exact hD
  clear e9
  refine lv_aload_n hx hb dX7_readDesign_22 rfl (lv_at hl 0 rfl) ?_
  refine va_get (D := (dC, dI)) (ci := 7) (v := .ref tx) (C := RX7) (T := TX7) (N := 18) hx hb hts inX7 hown hK hP 2 rfl rfl 0 (by decide) (hts (.fieldLink RX7 48 "ChipFlow$Reader" "text" "LChipFlow$Text;") wd_419) (fun _ h9 => h9) (h_rd.get 0 rfl) dX7_readDesign_23 ?_
  have hFc := va_free (wc := [(x, .inr (12, xg)), (tx, .inr (10, txg)), (rd, .inr (7, fs_3)), (mcd, .inl (mcdC, (17, .inl f_4))), (mnm, .inl (mnmC, (17, .inl mnmf))), (deA, .inl (deAC, (6, .inr (.inr (.inr (.inr deAF)))))), (de0, .inr (3, de0g)), (de1, .inr (3, de1g)), (de2, .inr (3, de2g)), (de3, .inr (3, de3g)), (de4, .inr (3, de4g)), (de5, .inr (3, de5g)), (oA, .inl (oAC, (1, .inr (.inl oAf))))]) hD hS hA [0, 1, 2, 3, 4, 5, 6, 7, 8, 9, 10, 11, 12] rfl
  refine va_callv (va_runV (As := []) (rest := []) ⟨hx, hb, hml, hown, hts⟩ (gx148_X10_begin l hlt dC dI _ x tx rd mcd mnm deA de0 de1 de2 de3 de4 de5 oA bt xg h_x txg h_tx fs_3 h_rd mcdC f_4 h_mcd mnmC mnmf h_mnm deAC deAF de0g h_de0 de1g h_de1 de2g h_de2 de3g h_de3 de4g h_de4 de5g h_de5 oAC oAf h_oA h_deA0 h_deA1 h_deA2 h_deA3 h_deA4 h_deA5) (cwV 0 hts (gi_V wd_1362 wd_1363 wd_1364 wd_328 wd_1365) rfl rfl rfl (by decide +kernel) ⟨(Nat.le_of_ble_eq_true rfl), (Nat.le_of_ble_eq_true rfl)⟩) ⟨fun a U g mk q => by obtain ⟨q0, q1, qP, qK, qD, qT⟩ := q; exact ⟨q0, q1, qP, va_K.moved (u := U) (U := U.calling g mk a) (Vm.Alike.refl U.vm) qK, qD, th.moved (u := U) (U := U.calling g mk a) (Vm.Alike.refl U.vm) qT⟩, va_recv hK hP (ci := 10) (q0 := 1) rfl rfl, fun U hU hW => ⟨rfl, by rw [hU], by rw [hU]; exact hP, va_K.moved hW.alike hK, hD.weaken (fun _ _ _ _ => trivial), by rw [hU]; exact ((hth.kept hS.2.1).narrow hFc).moved hW.alike⟩⟩ rfl rfl hl.1 rfl (lv_room (Nat.le_of_ble_eq_true rfl)) dX7_readDesign_26 ⟨(Nat.le_of_ble_eq_true rfl), (Nat.le_of_ble_eq_true rfl)⟩) hS (fun q _ h => hFc q h) hFc (fun u t H1 locs ht hvm hw hB hz1 hk1 hS => ?_)
  obtain ⟨fs_5, fs_6, fs_7, f_8, f_9, fs_10, fs_11, fs_12, fs_13, fs_14, fs_15, f_16, h_x, h_tx, h_rd, h_mcd, h_mnm, h_de0, h_de1, h_de2, h_de3, h_de4, h_de5, h_oA, hP1, hK1, hD1⟩ := hB
  rw [ht] at hP1
  have hD := hD1.weaken (fun k q _ h => hFc q.1 h)
  have hP := hP1
  generalize H1 = H at hP hS ⊢
  have hP : va_P (dC, dI) CL [(x, .inr (12, fs_5)), (tx, .inr (10, fs_6)), (rd, .inr (7, fs_7)), (mcd, .inl (mcdC, (17, .inl f_8))), (mnm, .inl (mnmC, (17, .inl f_9))), (deA, .inl (deAC, (6, .inr (.inr (.inr (.inr deAF)))))), (de0, .inr (3, fs_10)), (de1, .inr (3, fs_11)), (de2, .inr (3, fs_12)), (de3, .inr (3, fs_13)), (de4, .inr (3, fs_14)), (de5, .inr (3, fs_15)), (oA, .inl (oAC, (1, .inr (.inl f_16))))] H := hP
  have hD : va_D A [(x, .inr (12, fs_5)), (tx, .inr (10, fs_6)), (rd, .inr (7, fs_7)), (mcd, .inl (mcdC, (17, .inl f_8))), (mnm, .inl (mnmC, (17, .inl f_9))), (deA, .inl (deAC, (6, .inr (.inr (.inr (.inr deAF)))))), (de0, .inr (3, fs_10)), (de1, .inr (3, fs_11)), (de2, .inr (3, fs_12)), (de3, .inr (3, fs_13)), (de4, .inr (3, fs_14)), (de5, .inr (3, fs_15)), (oA, .inl (oAC, (1, .inr (.inl f_16))))] := hD
  refine lv_aload_n hx hb dX7_readDesign_29 rfl (lv_at hl 0 rfl) ?_
  have hFc := va_free (wc := [(x, .inr (12, fs_5)), (tx, .inr (10, fs_6)), (rd, .inr (7, fs_7)), (mcd, .inl (mcdC, (17, .inl f_8))), (mnm, .inl (mnmC, (17, .inl f_9))), (deA, .inl (deAC, (6, .inr (.inr (.inr (.inr deAF)))))), (de0, .inr (3, fs_10)), (de1, .inr (3, fs_11)), (de2, .inr (3, fs_12)), (de3, .inr (3, fs_13)), (de4, .inr (3, fs_14)), (de5, .inr (3, fs_15)), (oA, .inl (oAC, (1, .inr (.inl f_16))))]) hD hS hA [0, 1, 2, 3, 4, 5, 6, 7, 8, 9, 10, 11, 12] rfl
  refine vq_thr (vx_runV (As := []) (rest := []) ⟨hx, hb, hml, hown, hts⟩ (gx151_X7_beginModule l hlt dC dI _ x tx rd mcd mnm deA de0 de1 de2 de3 de4 de5 oA bt fs_5 h_x fs_6 h_tx fs_7 h_rd mcdC f_8 h_mcd mnmC f_9 h_mnm deAC deAF fs_10 h_de0 fs_11 h_de1 fs_12 h_de2 fs_13 h_de3 fs_14 h_de4 fs_15 h_de5 oAC f_16 h_oA h_deA0 h_deA1 h_deA2 h_deA3 h_deA4 h_deA5) (cwV 0 hts (gi_V wd_1494 wd_1496 wd_6 wd_329 wd_1497) rfl rfl rfl (by decide +kernel) ⟨(Nat.le_of_ble_eq_true rfl), (Nat.le_of_ble_eq_true rfl)⟩) ⟨fun a U g mk q => by obtain ⟨q0, q1, qP, qK, qD, qT⟩ := q; exact ⟨q0, q1, qP, va_K.moved (u := U) (U := U.calling g mk a) (Vm.Alike.refl U.vm) qK, qD, th.moved (u := U) (U := U.calling g mk a) (Vm.Alike.refl U.vm) qT⟩, va_recv hK hP (ci := 7) (q0 := 2) rfl rfl, fun U hU hW => ⟨rfl, by rw [hU], by rw [hU]; exact hP, va_K.moved hW.alike hK, hD.weaken (fun _ _ _ _ => trivial), by rw [hU]; exact ((hth.kept hS.2.1).narrow hFc).moved hW.alike⟩⟩ rfl rfl hl.1 rfl (lv_room (Nat.le_of_ble_eq_true rfl)) dX7_readDesign_30 ⟨(Nat.le_of_ble_eq_true rfl), (Nat.le_of_ble_eq_true rfl)⟩) (fun _ _ _ h => h) hS hFc (fun q _ h => hFc q h) (fun E ce q9 u t H1 locs ht hvm hp hB hz hk hS hce hcv hcl => ?_)
  obtain ⟨hE, hB⟩ := hB
  subst hE
  obtain ⟨fs_17, fs_18, fs_19, f_20, f_21, fs_22, fs_23, fs_24, fs_25, fs_26, fs_27, f_28, h_x, h_tx, h_rd, h_mcd, h_mnm, h_de0, h_de1, h_de2, h_de3, h_de4, h_de5, h_oA, hP1, hK1, hD1⟩ := hB
  rw [ht] at hP1
  have hD := hD1.weaken (fun k q _ h => hFc q.1 h)
  have hP := hP1
  generalize H1 = H at hP hS hce ⊢
  have hP : va_P (dC, dI) CL [(x, .inr (12, fs_17)), (tx, .inr (10, fs_18)), (rd, .inr (7, fs_19)), (mcd, .inl (mcdC, (17, .inl f_20))), (mnm, .inl (mnmC, (17, .inl f_21))), (deA, .inl (deAC, (6, .inr (.inr (.inr (.inr deAF)))))), (de0, .inr (3, fs_22)), (de1, .inr (3, fs_23)), (de2, .inr (3, fs_24)), (de3, .inr (3, fs_25)), (de4, .inr (3, fs_26)), (de5, .inr (3, fs_27)), (oA, .inl (oAC, (1, .inr (.inl f_28))))] H := hP
  have hD : va_D A [(x, .inr (12, fs_17)), (tx, .inr (10, fs_18)), (rd, .inr (7, fs_19)), (mcd, .inl (mcdC, (17, .inl f_20))), (mnm, .inl (mnmC, (17, .inl f_21))), (deA, .inl (deAC, (6, .inr (.inr (.inr (.inr deAF)))))), (de0, .inr (3, fs_22)), (de1, .inr (3, fs_23)), (de2, .inr (3, fs_24)), (de3, .inr (3, fs_25)), (de4, .inr (3, fs_26)), (de5, .inr (3, fs_27)), (oA, .inl (oAC, (1, .inr (.inl f_28))))] := hD
  exact vx_out (fun x h9 => (ht0 x h9).elim) hlocks hce hcv hcl (fun t ht hvm9 => ⟨(), trivial, ⟨rfl, fs_17, fs_18, fs_19, f_20, f_21, fs_22, fs_23, fs_24, fs_25, fs_26, fs_27, f_28, h_x, h_tx, h_rd, h_mcd, h_mnm, h_de0, h_de1, h_de2, h_de3, h_de4, h_de5, h_oA, by rw [ht]; exact hP, va_K.moved hvm9 hK, hD⟩, hS.F ht⟩) hS.2.2 (Nat.le_of_ble_eq_true rfl) (Nat.le_of_ble_eq_true rfl)
set_option maxHeartbeats 4000000 in
set_option maxRecDepth 100000 in
theorem gx145_X12_design (l : Launch) (hlt : l.stackTraces = false) (dC : Nat → ClassId) (dI : Nat → Nat → Nat) (sz : Nat) (x tx rd mcd mnm deA de0 de1 de2 de3 de4 de5 oA bt : Nat) (xg : List Value) (h_x : fx xg 17 [(0, .ref tx), (1, .ref rd), (7, .ref deA), (10, .int 0)]) (txg : List Value) (h_tx : fx txg 9 [(0, .ref bt), (1, .int 0), (2, .int 0), (3, .int 0), (4, .int 0), (6, .int 0), (7, .int 0), (8, .int 0)]) (rdg : List Value) (h_rd : fx rdg 18 [(0, .ref tx), (5, .ref mcd), (6, .ref mnm)]) (mcdC : ClassId) (mcdf : Nat → Int32) (h_mcd : fa mcdf []) (mnmC : ClassId) (mnmf : Nat → Int32) (h_mnm : fa mnmf []) (deAC : ClassId) (deAF : Nat → Option Nat) (de0g : List Value) (h_de0 : fx de0g 16 [(0, .int 0)]) (de1g : List Value) (h_de1 : fx de1g 16 [(0, .int 0)]) (de2g : List Value) (h_de2 : fx de2g 16 [(0, .int 0)]) (de3g : List Value) (h_de3 : fx de3g 16 [(0, .int 0)]) (de4g : List Value) (h_de4 : fx de4g 16 [(0, .int 0)]) (de5g : List Value) (h_de5 : fx de5g 16 [(0, .int 0)]) (oAC : ClassId) (oAf : Nat → Int64) (h_oA : fa oAf []) (h_deA0 : deAF 0 = some de0) (h_deA1 : deAF 1 = some de1) (h_deA2 : deAF 2 = some de2) (h_deA3 : deAF 3 = some de3) (h_deA4 : deAF 4 = some de4) (h_deA5 : deAF 5 = some de5) : Met l yX12_design (Cond.codeWith yX12_design cX12_design 4 (some .int) [(25, 45, 48, 129)] :: BG) ({ frames := 10, cells := 2, slots := 12, locals := 186 }) (va_Pc [.ref x] (fun U => U.heap.size = sz ∧ va_P (dC, dI) CL [(x, .inr (12, xg)), (tx, .inr (10, txg)), (rd, .inr (7, rdg)), (mcd, .inl (mcdC, (17, .inl mcdf))), (mnm, .inl (mnmC, (17, .inl mnmf))), (deA, .inl (deAC, (6, .inr (.inr (.inr (.inr deAF)))))), (de0, .inr (3, de0g)), (de1, .inr (3, de1g)), (de2, .inr (3, de2g)), (de3, .inr (3, de3g)), (de4, .inr (3, de4g)), (de5, .inr (3, de5g)), (oA, .inl (oAC, (1, .inr (.inl oAf))))] U.heap ∧ va_K (dC, dI) CL [(mcdC, .int), (mnmC, .int), (deAC, .object "ChipFlow$Design"), (oAC, .long)] U ∧ va_D (fun _ => True) [(x, .inr (12, xg)), (tx, .inr (10, txg)), (rd, .inr (7, rdg)), (mcd, .inl (mcdC, (17, .inl mcdf))), (mnm, .inl (mnmC, (17, .inl mnmf))), (deA, .inl (deAC, (6, .inr (.inr (.inr (.inr deAF)))))), (de0, .inr (3, de0g)), (de1, .inr (3, de1g)), (de2, .inr (3, de2g)), (de3, .inr (3, de3g)), (de4, .inr (3, de4g)), (de5, .inr (3, de5g)), (oA, .inl (oAC, (1, .inr (.inl oAf))))] ∧ th (va_A [(x, .inr (12, xg)), (tx, .inr (10, txg)), (rd, .inr (7, rdg)), (mcd, .inl (mcdC, (17, .inl mcdf))), (mnm, .inl (mnmC, (17, .inl mnmf))), (deA, .inl (deAC, (6, .inr (.inr (.inr (.inr deAF)))))), (de0, .inr (3, de0g)), (de1, .inr (3, de1g)), (de2, .inr (3, de2g)), (de3, .inr (3, de3g)), (de4, .inr (3, de4g)), (de5, .inr (3, de5g)), (oA, .inl (oAC, (1, .inr (.inl oAf))))] sz) U U.heap)) (va_Qi (fun (r : Int32) (_ : Unit) => r = (-1)) (fun _ t => ∃ (xy : List Value) (txy : List Value) (rdy : List Value) (mcdy : Nat → Int32) (mnmy : Nat → Int32) (de0y : List Value) (de1y : List Value) (de2y : List Value) (de3y : List Value) (de4y : List Value) (de5y : List Value) (oAy : Nat → Int64), fx xy 17 [(0, .ref tx), (1, .ref rd), (7, .ref deA), (10, .int 2)] ∧ fx txy 9 [(0, .ref bt), (1, .int 0), (2, .int 0), (3, .int 0), (4, .int 0), (6, .int 2), (7, .int 0), (8, .int 0)] ∧ fx rdy 18 [(0, .ref tx), (2, .int 0), (3, .int 0), (5, .ref mcd), (6, .ref mnm), (11, .null)] ∧ fa mcdy [(0, 0)] ∧ fa mnmy [] ∧ fx de0y 16 [(0, .int 0)] ∧ fx de1y 16 [(0, .int 0)] ∧ fx de2y 16 [(0, .int 0)] ∧ fx de3y 16 [(0, .int 0)] ∧ fx de4y 16 [(0, .int 0)] ∧ fx de5y 16 [(0, .int 0)] ∧ fa oAy [] ∧ va_P (dC, dI) CL [(x, .inr (12, xy)), (tx, .inr (10, txy)), (rd, .inr (7, rdy)), (mcd, .inl (mcdC, (17, .inl mcdy))), (mnm, .inl (mnmC, (17, .inl mnmy))), (deA, .inl (deAC, (6, .inr (.inr (.inr (.inr deAF)))))), (de0, .inr (3, de0y)), (de1, .inr (3, de1y)), (de2, .inr (3, de2y)), (de3, .inr (3, de3y)), (de4, .inr (3, de4y)), (de5, .inr (3, de5y)), (oA, .inl (oAC, (1, .inr (.inl oAy))))] t.heap ∧ va_K (dC, dI) CL [(mcdC, .int), (mnmC, .int), (deAC, .object "ChipFlow$Design"), (oAC, .long)] t ∧ va_D (va_A [(x, .inr (12, xg)), (tx, .inr (10, txg)), (rd, .inr (7, rdg)), (mcd, .inl (mcdC, (17, .inl mcdf))), (mnm, .inl (mnmC, (17, .inl mnmf))), (deA, .inl (deAC, (6, .inr (.inr (.inr (.inr deAF)))))), (de0, .inr (3, de0g)), (de1, .inr (3, de1g)), (de2, .inr (3, de2g)), (de3, .inr (3, de3g)), (de4, .inr (3, de4g)), (de5, .inr (3, de5g)), (oA, .inl (oAC, (1, .inr (.inl oAf))))] sz) [(x, .inr (12, xy)), (tx, .inr (10, txy)), (rd, .inr (7, rdy)), (mcd, .inl (mcdC, (17, .inl mcdy))), (mnm, .inl (mnmC, (17, .inl mnmy))), (deA, .inl (deAC, (6, .inr (.inr (.inr (.inr deAF)))))), (de0, .inr (3, de0y)), (de1, .inr (3, de1y)), (de2, .inr (3, de2y)), (de3, .inr (3, de3y)), (de4, .inr (3, de4y)), (de5, .inr (3, de5y)), (oA, .inl (oAC, (1, .inr (.inl oAy))))]) (va_A [(x, .inr (12, xg)), (tx, .inr (10, txg)), (rd, .inr (7, rdg)), (mcd, .inl (mcdC, (17, .inl mcdf))), (mnm, .inl (mnmC, (17, .inl mnmf))), (deA, .inl (deAC, (6, .inr (.inr (.inr (.inr deAF)))))), (de0, .inr (3, de0g)), (de1, .inr (3, de1g)), (de2, .inr (3, de2g)), (de3, .inr (3, de3g)), (de4, .inr (3, de4g)), (de5, .inr (3, de5g)), (oA, .inl (oAC, (1, .inr (.inl oAf))))] sz)) 2 12 (va_A [(x, .inr (12, xg)), (tx, .inr (10, txg)), (rd, .inr (7, rdg)), (mcd, .inl (mcdC, (17, .inl mcdf))), (mnm, .inl (mnmC, (17, .inl mnmf))), (deA, .inl (deAC, (6, .inr (.inr (.inr (.inr deAF)))))), (de0, .inr (3, de0g)), (de1, .inr (3, de1g)), (de2, .inr (3, de2g)), (de3, .inr (3, de3g)), (de4, .inr (3, de4g)), (de5, .inr (3, de5g)), (oA, .inl (oAC, (1, .inr (.inl oAf))))] sz) := by
  refine va_MetW (hh := [(25, 45, 48, 129)]) (cc := cX12_design) (maxL := 4) (ret := (some .int)) (by decide) rfl ?_
  intro p e s m args below meth c s₁ B hml hv
  obtain ⟨rfl, hsz, hP, hK, hD0, hth⟩ := hv
  have hx := B.exec
  have hb := B.bytes
  have hr := B.returns
  have hts : ∀ w ∈ BG, w.before _ s = true := fun w h => atoms_spec (ws := Cond.codeWith yX12_design cX12_design 4 (some .int) [(25, 45, 48, 129)] :: BG) B.pre w (List.mem_cons_of_mem _ h)
  have hown : s.vm.findClass RX12 = some m.cls := findClass_of_methodNamed B.named
  have hlocks := B.notSynchronized
  subst hsz
  have hD := hD0.self (sz := s.heap.size)
  generalize hAe : va_A [(x, .inr (12, xg)), (tx, .inr (10, txg)), (rd, .inr (7, rdg)), (mcd, .inl (mcdC, (17, .inl mcdf))), (mnm, .inl (mnmC, (17, .inl mnmf))), (deA, .inl (deAC, (6, .inr (.inr (.inr (.inr deAF)))))), (de0, .inr (3, de0g)), (de1, .inr (3, de1g)), (de2, .inr (3, de2g)), (de3, .inr (3, de3g)), (de4, .inr (3, de4g)), (de5, .inr (3, de5g)), (oA, .inl (oAC, (1, .inr (.inl oAf))))] s.heap.size = A at hD hth ⊢
  have hA : ∀ q : Nat, s.heap.size ≤ q → A q := fun q h => by rw [← hAe]; exact Or.inr h
  have hS : va_S A s.heap s.heap [] := va_S.rf
  have hl := lv_entry ([.ref x]) (n := 4) (Nat.le_of_ble_eq_true rfl)
  rw [lg_entry_eq]
  generalize (lg_sl ([.ref x]) ++ List.replicate (4 - (lg_sl ([.ref x])).length) Slot.unset).toArray = ls at hl ⊢
  have hl : lv_has ls 4 [(0, .ref x)] := hl
  obtain ⟨H, eH⟩ : ∃ z, z = s.heap := ⟨_, rfl⟩
  have hP : va_P (dC, dI) CL [(x, .inr (12, xg)), (tx, .inr (10, txg)), (rd, .inr (7, rdg)), (mcd, .inl (mcdC, (17, .inl mcdf))), (mnm, .inl (mnmC, (17, .inl mnmf))), (deA, .inl (deAC, (6, .inr (.inr (.inr (.inr deAF)))))), (de0, .inr (3, de0g)), (de1, .inr (3, de1g)), (de2, .inr (3, de2g)), (de3, .inr (3, de3g)), (de4, .inr (3, de4g)), (de5, .inr (3, de5g)), (oA, .inl (oAC, (1, .inr (.inl oAf))))] H := by rw [eH]; exact hP
  have hS : va_S A s.heap H [] := by rw [eH]; exact hS
  rw [← eH]
  have hT : c.exceptionTable.toList = tableOf [(25, 45, 48, 129)] := vx_table (x := yX12_design) B (atoms_spec (ws := Cond.codeWith yX12_design cX12_design 4 (some .int) [(25, 45, 48, 129)] :: BG) B.pre _ List.mem_cons_self)
  refine lv_aload_n hx hb dX12_design_0 rfl (lv_at hl 0 rfl) ?_
  have hFc := va_free (wc := [(x, .inr (12, xg)), (tx, .inr (10, txg)), (rd, .inr (7, rdg)), (mcd, .inl (mcdC, (17, .inl mcdf))), (mnm, .inl (mnmC, (17, .inl mnmf))), (deA, .inl (deAC, (6, .inr (.inr (.inr (.inr deAF)))))), (de0, .inr (3, de0g)), (de1, .inr (3, de1g)), (de2, .inr (3, de2g)), (de3, .inr (3, de3g)), (de4, .inr (3, de4g)), (de5, .inr (3, de5g)), (oA, .inl (oAC, (1, .inr (.inl oAf))))]) hD hS hA [0, 1, 2, 3, 4, 5, 6, 7, 8, 9, 10, 11, 12] rfl
  refine va_calli (va_runV (As := []) (rest := []) ⟨hx, hb, hml, hown, hts⟩ (gx146_X12_freeDesign l hlt dC dI _ x tx rd mcd mnm deA de0 de1 de2 de3 de4 de5 oA bt xg h_x txg h_tx rdg h_rd mcdC mcdf h_mcd mnmC mnmf h_mnm deAC deAF de0g h_de0 de1g h_de1 de2g h_de2 de3g h_de3 de4g h_de4 de5g h_de5 oAC oAf h_oA h_deA0 h_deA1 h_deA2 h_deA3 h_deA4 h_deA5) (cwV 0 hts (gi_V wd_1354 wd_1356 wd_1 wd_327 wd_1357) rfl rfl rfl (by decide +kernel) ⟨(Nat.le_of_ble_eq_true rfl), (Nat.le_of_ble_eq_true rfl)⟩) ⟨fun a U g mk q => by obtain ⟨q0, q1, qP, qK, qD, qT⟩ := q; exact ⟨q0, q1, qP, va_K.moved (u := U) (U := U.calling g mk a) (Vm.Alike.refl U.vm) qK, qD, th.moved (u := U) (U := U.calling g mk a) (Vm.Alike.refl U.vm) qT⟩, va_recv hK hP (ci := 12) (q0 := 0) rfl rfl, fun U hU hW => ⟨rfl, by rw [hU], by rw [hU]; exact hP, va_K.moved hW.alike hK, hD.weaken (fun _ _ _ _ => trivial), by rw [hU]; exact ((hth.kept hS.2.1).narrow hFc).moved hW.alike⟩⟩ rfl rfl hl.1 rfl (lv_room (Nat.le_of_ble_eq_true rfl)) dX12_design_1 ⟨(Nat.le_of_ble_eq_true rfl), (Nat.le_of_ble_eq_true rfl)⟩) hS (fun q _ h => hFc q h) hFc (fun r u t H1 locs ht hvm hw hB hz1 hk1 hS => ?_)
  subst hw
  obtain ⟨fs_1, fs_2, fs_3, f_4, f_5, fs_6, fs_7, fs_8, fs_9, fs_10, fs_11, f_12, h_x, h_tx, h_rd, h_mcd, h_mnm, h_de0, h_de1, h_de2, h_de3, h_de4, h_de5, h_oA, hP1, hK1, hD1⟩ := hB
  rw [ht] at hP1
  have hD := hD1.weaken (fun k q _ h => hFc q.1 h)
  have hP := hP1
  generalize H1 = H at hP hS ⊢
  have hP : va_P (dC, dI) CL [(x, .inr (12, fs_1)), (tx, .inr (10, fs_2)), (rd, .inr (7, fs_3)), (mcd, .inl (mcdC, (17, .inl f_4))), (mnm, .inl (mnmC, (17, .inl f_5))), (deA, .inl (deAC, (6, .inr (.inr (.inr (.inr deAF)))))), (de0, .inr (3, fs_6)), (de1, .inr (3, fs_7)), (de2, .inr (3, fs_8)), (de3, .inr (3, fs_9)), (de4, .inr (3, fs_10)), (de5, .inr (3, fs_11)), (oA, .inl (oAC, (1, .inr (.inl f_12))))] H := hP
  have hD : va_D A [(x, .inr (12, fs_1)), (tx, .inr (10, fs_2)), (rd, .inr (7, fs_3)), (mcd, .inl (mcdC, (17, .inl f_4))), (mnm, .inl (mnmC, (17, .inl f_5))), (deA, .inl (deAC, (6, .inr (.inr (.inr (.inr deAF)))))), (de0, .inr (3, fs_6)), (de1, .inr (3, fs_7)), (de2, .inr (3, fs_8)), (de3, .inr (3, fs_9)), (de4, .inr (3, fs_10)), (de5, .inr (3, fs_11)), (oA, .inl (oAC, (1, .inr (.inl f_12))))] := hD
  refine lv_istore_n (lv' := [(1, .int 0), (0, .ref x)]) hx hb dX12_design_4 rfl hl (by decide) rfl (fun ls hl => ?_)
  refine lv_iload_n hx hb dX12_design_5 rfl (lv_at hl 0 rfl) ?_
  refine lv_iconst (v := (-1)) hx hb dX12_design_6 (by decide +kernel) ?_
  refine lv_icmp_eq (tgt := 14) hx hb dX12_design_7 (by decide) (fun c9 => ?_) (fun c9 => ?_)
  · first | exact absurd c9 (by decide +kernel) | exact absurd (by decide +kernel) c9
  refine lv_iconst (v := 1) hx hb dX12_design_10 (by decide +kernel) ?_
  refine lv_goto (tgt := 15) hx hb dX12_design_11 (by decide) ?_
  have hF0 : ∀ q, va_A [] H.size q → A q := fun q h => h.elim (fun ⟨k9, e9, h9⟩ => by simp at h9) (fun h9 => hA q (Nat.le_trans hS.1 h9))
  refine vx_callv (vx_runS (As := [.int 1]) (rest := []) ⟨hx, hb, hml, hown, hts⟩ (ct_X12_needRoom l hlt H.size 1) (cwS 1 hts (gi_S wd_1247 wd_1248 wd_327 wd_1249) rfl rfl rfl (by decide +kernel) ⟨(Nat.le_of_ble_eq_true rfl), (Nat.le_of_ble_eq_true rfl)⟩) ⟨fun a U g mk q => ⟨q.1, q.2.1, th.moved (u := U) (U := U.calling g mk a) (Vm.Alike.refl U.vm) q.2.2⟩, fun U hU hW => ⟨rfl, by rw [hU], by rw [hU]; exact ((hth.kept hS.2.1).narrow hF0).moved hW.alike⟩⟩ rfl rfl hl.1 rfl (lv_room (Nat.le_of_ble_eq_true rfl)) dX12_design_15 ⟨(Nat.le_of_ble_eq_true rfl), (Nat.le_of_ble_eq_true rfl)⟩) hS (fun q _ h => hF0 q h) hF0 (fun q _ h => hF0 q h) (fun E ce q9 u t H1 locs ht hvm hp hB hz hk hS hce hcv hcl => absurd hp (by decide +kernel)) (fun u t H1 locs ht hvm hp hB hz hk hS => ?_)
  have hP : va_P (dC, dI) CL [(x, .inr (12, fs_1)), (tx, .inr (10, fs_2)), (rd, .inr (7, fs_3)), (mcd, .inl (mcdC, (17, .inl f_4))), (mnm, .inl (mnmC, (17, .inl f_5))), (deA, .inl (deAC, (6, .inr (.inr (.inr (.inr deAF)))))), (de0, .inr (3, fs_6)), (de1, .inr (3, fs_7)), (de2, .inr (3, fs_8)), (de3, .inr (3, fs_9)), (de4, .inr (3, fs_10)), (de5, .inr (3, fs_11)), (oA, .inl (oAC, (1, .inr (.inl f_12))))] H1 := hP.kept (fun k q h9 => hk _ (vx_lt hP h9) (fun h8 => h8.elim (fun ⟨k9, e9, h7⟩ => by simp at h7) (fun h7 => absurd (vx_lt hP h9) (Nat.not_lt.mpr h7))))
  generalize H1 = H at hP hS ⊢
  refine W.widen (k := 1) (n := 6) (Nat.le_of_ble_eq_true rfl) (Nat.le_of_ble_eq_true rfl) ?_
  refine lv_iload_n hx hb dX12_design_18 rfl (lv_at hl 0 rfl) ?_
  refine lv_istore_n (lv' := [(2, .int 0), (1, .int 0), (0, .ref x)]) hx hb dX12_design_19 rfl hl (by decide) rfl (fun ls hl => ?_)
  refine lv_aload_n hx hb dX12_design_20 rfl (lv_at hl 2 rfl) ?_
  refine lv_iconst (v := 0) hx hb dX12_design_21 (by decide +kernel) ?_
  refine va_put (D := (dC, dI)) (ci := 12) (v := .int 0) (ty := tyX12 10) (C := RX12) (T := TX12) (N := 17) hx hb hts inX12 tyX12 tyX12_ok nmX12 hown hK hP hD hS 0 rfl rfl 10 (by decide) (hts (.fieldLink RX12 119 "ChipFlow" "lastFault" "I") wd_1188) (fun _ h9 => h9) rfl (by decide +kernel) rfl rfl (by rw [h_x.1]; decide) dX12_design_22 (fun H locs hP hD hS => ?_)
  obtain ⟨fs_13, e9⟩ : ∃ z, z = fs_1.set 10 (.int 0) := ⟨_, rfl⟩
  have h_x : fx fs_13 17 [(0, .ref tx), (1, .ref rd), (7, .ref deA), (10, .int 0)] := by rw [e9]; exact (h_x.put (F' := [(10, .int 0), (0, .ref tx), (1, .ref rd), (7, .ref deA)]) (by decide) _ rfl).sub [1, 2, 3, 0] rfl
  have hP : va_P (dC, dI) CL [(x, .inr (12, fs_13)), (tx, .inr (10, fs_2)), (rd, .inr (7, fs_3)), (mcd, .inl (mcdC, (17, .inl f_4))), (mnm, .inl (mnmC, (17, .inl f_5))), (deA, .inl (deAC, (6, .inr (.inr (.inr (.inr deAF)))))), (de0, .inr (3, fs_6)), (de1, .inr (3, fs_7)), (de2, .inr (3, fs_8)), (de3, .inr (3, fs_9)), (de4, .inr (3, fs_10)), (de5, .inr (3, fs_11)), (oA, .inl (oAC, (1, .inr (.inl f_12))))] H := by rw [e9]; exact hP
  have hD : va_D A [(x, .inr (12, fs_13)), (tx, .inr (10, fs_2)), (rd, .inr (7, fs_3)), (mcd, .inl (mcdC, (17, .inl f_4))), (mnm, .inl (mnmC, (17, .inl f_5))), (deA, .inl (deAC, (6, .inr (.inr (.inr (.inr deAF)))))), (de0, .inr (3, fs_6)), (de1, .inr (3, fs_7)), (de2, .inr (3, fs_8)), (de3, .inr (3, fs_9)), (de4, .inr (3, fs_10)), (de5, .inr (3, fs_11)), (oA, .inl (oAC, (1, .inr (.inl f_12))))] := by rw [e9]; exact hD
  clear e9
  refine lv_aload_n hx hb dX12_design_25 rfl (lv_at hl 2 rfl) ?_
  refine va_get (D := (dC, dI)) (ci := 12) (v := .ref rd) (C := RX12) (T := TX12) (N := 17) hx hb hts inX12 hown hK hP 0 rfl rfl 1 (by decide) (hts (.fieldLink RX12 21 "ChipFlow" "reader" "LChipFlow$Reader;") wd_1179) (fun _ h9 => h9) (h_x.get 1 rfl) dX12_design_26 ?_
  have hFc := va_free (wc := [(x, .inr (12, fs_13)), (tx, .inr (10, fs_2)), (rd, .inr (7, fs_3)), (mcd, .inl (mcdC, (17, .inl f_4))), (mnm, .inl (mnmC, (17, .inl f_5))), (deA, .inl (deAC, (6, .inr (.inr (.inr (.inr deAF)))))), (de0, .inr (3, fs_6)), (de1, .inr (3, fs_7)), (de2, .inr (3, fs_8)), (de3, .inr (3, fs_9)), (de4, .inr (3, fs_10)), (de5, .inr (3, fs_11)), (oA, .inl (oAC, (1, .inr (.inl f_12))))]) hD hS hA [0, 1, 2, 3, 4, 5, 6, 7, 8, 9, 10, 11, 12] rfl
  refine vq_thr (vx_runV (As := []) (rest := []) ⟨hx, hb, hml, hown, hts⟩ (gx147_X7_readDesign l hlt dC dI _ x tx rd mcd mnm deA de0 de1 de2 de3 de4 de5 oA bt fs_13 h_x fs_2 h_tx fs_3 h_rd mcdC f_4 h_mcd mnmC f_5 h_mnm deAC deAF fs_6 h_de0 fs_7 h_de1 fs_8 h_de2 fs_9 h_de3 fs_10 h_de4 fs_11 h_de5 oAC f_12 h_oA h_deA0 h_deA1 h_deA2 h_deA3 h_deA4 h_deA5) (cwV 0 hts (gi_V wd_1358 wd_1359 wd_1360 wd_329 wd_1361) rfl rfl rfl (by decide +kernel) ⟨(Nat.le_of_ble_eq_true rfl), (Nat.le_of_ble_eq_true rfl)⟩) ⟨fun a U g mk q => by obtain ⟨q0, q1, qP, qK, qD, qT⟩ := q; exact ⟨q0, q1, qP, va_K.moved (u := U) (U := U.calling g mk a) (Vm.Alike.refl U.vm) qK, qD, th.moved (u := U) (U := U.calling g mk a) (Vm.Alike.refl U.vm) qT⟩, va_recv hK hP (ci := 7) (q0 := 2) rfl rfl, fun U hU hW => ⟨rfl, by rw [hU], by rw [hU]; exact hP, va_K.moved hW.alike hK, hD.weaken (fun _ _ _ _ => trivial), by rw [hU]; exact ((hth.kept hS.2.1).narrow hFc).moved hW.alike⟩⟩ rfl rfl hl.1 rfl (lv_room (Nat.le_of_ble_eq_true rfl)) dX12_design_29 ⟨(Nat.le_of_ble_eq_true rfl), (Nat.le_of_ble_eq_true rfl)⟩) (fun _ _ _ h => h) hS hFc (fun q _ h => hFc q h) (fun E ce q9 u t H1 locs ht hvm hp hB hz hk hS hce hcv hcl => ?_)
  obtain ⟨hE, hB⟩ := hB
  subst hE
  obtain ⟨fs_14, fs_15, fs_16, f_17, f_18, fs_19, fs_20, fs_21, fs_22, fs_23, fs_24, f_25, h_x, h_tx, h_rd, h_mcd, h_mnm, h_de0, h_de1, h_de2, h_de3, h_de4, h_de5, h_oA, hP1, hK1, hD1⟩ := hB
  rw [ht] at hP1
  have hD := hD1.weaken (fun k q _ h => hFc q.1 h)
  have hP := hP1
  generalize H1 = H at hP hS hce ⊢
  have hP : va_P (dC, dI) CL [(x, .inr (12, fs_14)), (tx, .inr (10, fs_15)), (rd, .inr (7, fs_16)), (mcd, .inl (mcdC, (17, .inl f_17))), (mnm, .inl (mnmC, (17, .inl f_18))), (deA, .inl (deAC, (6, .inr (.inr (.inr (.inr deAF)))))), (de0, .inr (3, fs_19)), (de1, .inr (3, fs_20)), (de2, .inr (3, fs_21)), (de3, .inr (3, fs_22)), (de4, .inr (3, fs_23)), (de5, .inr (3, fs_24)), (oA, .inl (oAC, (1, .inr (.inl f_25))))] H := hP
  have hD : va_D A [(x, .inr (12, fs_14)), (tx, .inr (10, fs_15)), (rd, .inr (7, fs_16)), (mcd, .inl (mcdC, (17, .inl f_17))), (mnm, .inl (mnmC, (17, .inl f_18))), (deA, .inl (deAC, (6, .inr (.inr (.inr (.inr deAF)))))), (de0, .inr (3, fs_19)), (de1, .inr (3, fs_20)), (de2, .inr (3, fs_21)), (de3, .inr (3, fs_22)), (de4, .inr (3, fs_23)), (de5, .inr (3, fs_24)), (oA, .inl (oAC, (1, .inr (.inl f_25))))] := hD
  refine vx_catch (own := RX12) (name := "java/lang/IllegalStateException") hown [] { startPc := 25, endPc := 45, handlerPc := 48, catchType := 129 } [] (by rw [hT]; rfl) (fun _ h => nomatch h) (by decide) (by decide) (hts (.classLink RX12 129 "java/lang/IllegalStateException") wd_1353) (hth.cast (by decide)) hce hcv hcl ?_
  refine W.widen (k := 2) (n := 12) (Nat.le_of_ble_eq_true rfl) (Nat.le_of_ble_eq_true rfl) ?_
  refine lv_astore_n (lv' := [(3, .ref q9), (2, .int 0), (1, .int 0), (0, .ref x)]) hx hb dX12_design_48 rfl hl (by decide) rfl (fun ls hl => ?_)
  refine lv_aload_n hx hb dX12_design_49 rfl (lv_at hl 3 rfl) ?_
  refine lv_aload_n hx hb dX12_design_50 rfl (lv_at hl 3 rfl) ?_
  refine va_get (D := (dC, dI)) (ci := 12) (v := .ref tx) (C := RX12) (T := TX12) (N := 17) hx hb hts inX12 hown hK hP 0 rfl rfl 0 (by decide) (hts (.fieldLink RX12 10 "ChipFlow" "text" "LChipFlow$Text;") wd_1178) (fun _ h9 => h9) (h_x.get 0 rfl) dX12_design_51 ?_
  refine va_get (D := (dC, dI)) (ci := 10) (v := .int 2) (C := RX10) (T := TX10) (N := 9) hx hb hts inX10 hown hK hP 1 rfl rfl 6 (by decide) (hts (.fieldLink RX12 131 "ChipFlow$Text" "faultCode" "I") wd_388) (fun _ h9 => h9) (h_tx.get 5 rfl) dX12_design_54 ?_
  refine va_put (D := (dC, dI)) (ci := 12) (v := .int 2) (ty := tyX12 10) (C := RX12) (T := TX12) (N := 17) hx hb hts inX12 tyX12 tyX12_ok nmX12 hown hK hP hD hS 0 rfl rfl 10 (by decide) (hts (.fieldLink RX12 119 "ChipFlow" "lastFault" "I") wd_1188) (fun _ h9 => h9) rfl (by decide +kernel) rfl rfl (by rw [h_x.1]; decide) dX12_design_57 (fun H locs hP hD hS => ?_)
  obtain ⟨fs_26, e9⟩ : ∃ z, z = fs_14.set 10 (.int 2) := ⟨_, rfl⟩
  have h_x : fx fs_26 17 [(0, .ref tx), (1, .ref rd), (7, .ref deA), (10, .int 2)] := by rw [e9]; exact (h_x.put (F' := [(10, .int 2), (0, .ref tx), (1, .ref rd), (7, .ref deA)]) (by decide) _ rfl).sub [1, 2, 3, 0] rfl
  have hP : va_P (dC, dI) CL [(x, .inr (12, fs_26)), (tx, .inr (10, fs_15)), (rd, .inr (7, fs_16)), (mcd, .inl (mcdC, (17, .inl f_17))), (mnm, .inl (mnmC, (17, .inl f_18))), (deA, .inl (deAC, (6, .inr (.inr (.inr (.inr deAF)))))), (de0, .inr (3, fs_19)), (de1, .inr (3, fs_20)), (de2, .inr (3, fs_21)), (de3, .inr (3, fs_22)), (de4, .inr (3, fs_23)), (de5, .inr (3, fs_24)), (oA, .inl (oAC, (1, .inr (.inl f_25))))] H := by rw [e9]; exact hP
  have hD : va_D A [(x, .inr (12, fs_26)), (tx, .inr (10, fs_15)), (rd, .inr (7, fs_16)), (mcd, .inl (mcdC, (17, .inl f_17))), (mnm, .inl (mnmC, (17, .inl f_18))), (deA, .inl (deAC, (6, .inr (.inr (.inr (.inr deAF)))))), (de0, .inr (3, fs_19)), (de1, .inr (3, fs_20)), (de2, .inr (3, fs_21)), (de3, .inr (3, fs_22)), (de4, .inr (3, fs_23)), (de5, .inr (3, fs_24)), (oA, .inl (oAC, (1, .inr (.inl f_25))))] := by rw [e9]; exact hD
  clear e9
  refine lv_iconst (v := (-1)) hx hb dX12_design_60 (by decide +kernel) ?_
  refine lv_aload_n hx hb dX12_design_61 rfl (lv_at hl 3 rfl) ?_
  refine va_get (D := (dC, dI)) (ci := 12) (v := .ref tx) (C := RX12) (T := TX12) (N := 17) hx hb hts inX12 hown hK hP 0 rfl rfl 0 (by decide) (hts (.fieldLink RX12 10 "ChipFlow" "text" "LChipFlow$Text;") wd_1178) (fun _ h9 => h9) (h_x.get 0 rfl) dX12_design_62 ?_
  refine va_get (D := (dC, dI)) (ci := 10) (v := .int 0) (C := RX10) (T := TX10) (N := 9) hx hb hts inX10 hown hK hP 1 rfl rfl 7 (by decide) (hts (.fieldLink RX12 134 "ChipFlow$Text" "faultPlace" "I") wd_390) (fun _ h9 => h9) (h_tx.get 6 rfl) dX12_design_65 ?_
  refine lv_isub hx hb dX12_design_68 ?_
  refine lv_topi (fun v9 e9 => ?_)
  obtain rfl : v9 = (-1) := e9.trans (by decide +kernel)
  refine lv_istore_n (lv' := [(2, .int (-1)), (3, .ref q9), (1, .int 0), (0, .ref x)]) hx hb dX12_design_69 rfl hl (by decide) rfl (fun ls hl => ?_)
  refine lv_aload_n hx hb dX12_design_70 rfl (lv_at hl 3 rfl) ?_
  refine va_get (D := (dC, dI)) (ci := 12) (v := .ref tx) (C := RX12) (T := TX12) (N := 17) hx hb hts inX12 hown hK hP 0 rfl rfl 0 (by decide) (hts (.fieldLink RX12 10 "ChipFlow" "text" "LChipFlow$Text;") wd_1178) (fun _ h9 => h9) (h_x.get 0 rfl) dX12_design_71 ?_
  refine lv_iconst (v := 0) hx hb dX12_design_74 (by decide +kernel) ?_
  refine va_put (D := (dC, dI)) (ci := 10) (v := .int 0) (ty := tyX10 1) (C := RX10) (T := TX10) (N := 9) hx hb hts inX10 tyX10 tyX10_ok nmX10 hown hK hP hD hS 1 rfl rfl 1 (by decide) (hts (.fieldLink RX12 99 "ChipFlow$Text" "length" "I") wd_378) (fun _ h9 => h9) rfl (by decide +kernel) rfl rfl (by rw [h_tx.1]; decide) dX12_design_75 (fun H locs hP hD hS => ?_)
  obtain ⟨fs_27, e9⟩ : ∃ z, z = fs_15.set 1 (.int 0) := ⟨_, rfl⟩
  have h_tx : fx fs_27 9 [(0, .ref bt), (1, .int 0), (2, .int 0), (3, .int 0), (4, .int 0), (6, .int 2), (7, .int 0), (8, .int 0)] := by rw [e9]; exact (h_tx.put (F' := [(1, .int 0), (0, .ref bt), (2, .int 0), (3, .int 0), (4, .int 0), (6, .int 2), (7, .int 0), (8, .int 0)]) (by decide) _ rfl).sub [1, 0, 2, 3, 4, 5, 6, 7] rfl
  have hP : va_P (dC, dI) CL [(x, .inr (12, fs_26)), (tx, .inr (10, fs_27)), (rd, .inr (7, fs_16)), (mcd, .inl (mcdC, (17, .inl f_17))), (mnm, .inl (mnmC, (17, .inl f_18))), (deA, .inl (deAC, (6, .inr (.inr (.inr (.inr deAF)))))), (de0, .inr (3, fs_19)), (de1, .inr (3, fs_20)), (de2, .inr (3, fs_21)), (de3, .inr (3, fs_22)), (de4, .inr (3, fs_23)), (de5, .inr (3, fs_24)), (oA, .inl (oAC, (1, .inr (.inl f_25))))] H := by rw [e9]; exact hP
  have hD : va_D A [(x, .inr (12, fs_26)), (tx, .inr (10, fs_27)), (rd, .inr (7, fs_16)), (mcd, .inl (mcdC, (17, .inl f_17))), (mnm, .inl (mnmC, (17, .inl f_18))), (deA, .inl (deAC, (6, .inr (.inr (.inr (.inr deAF)))))), (de0, .inr (3, fs_19)), (de1, .inr (3, fs_20)), (de2, .inr (3, fs_21)), (de3, .inr (3, fs_22)), (de4, .inr (3, fs_23)), (de5, .inr (3, fs_24)), (oA, .inl (oAC, (1, .inr (.inl f_25))))] := by rw [e9]; exact hD
  clear e9
  refine lv_iload_n hx hb dX12_design_78 rfl (lv_at hl 0 rfl) ?_
  refine W.widen (k := 2) (n := 12) (Nat.le_of_ble_eq_true rfl) (Nat.le_of_ble_eq_true rfl) ?_
  exact W.iret (v := (-1)) hx hb hr (fun t ht hW => ⟨⟨(-1), (), rfl, rfl, fs_26, fs_27, fs_16, f_17, f_18, fs_19, fs_20, fs_21, fs_22, fs_23, fs_24, f_25, h_x, h_tx, h_rd, h_mcd, h_mnm, h_de0, h_de1, h_de2, h_de3, h_de4, h_de5, h_oA, by rw [ht]; exact hP, va_K.moved hW.alike hK, hD⟩, hS.F ht⟩) hS.2.2 dX12_design_79
set_option maxHeartbeats 4000000 in
set_option maxRecDepth 100000 in
theorem gx144_L_design (l : Launch) (hlt : l.stackTraces = false) (dC : Nat → ClassId) (dI : Nat → Nat → Nat) (sz : Nat) (x tx rd mcd mnm deA de0 de1 de2 de3 de4 de5 oA bt : Nat) (xg : List Value) (h_x : fx xg 17 [(0, .ref tx), (1, .ref rd), (7, .ref deA), (10, .int 0)]) (txg : List Value) (h_tx : fx txg 9 [(0, .ref bt), (1, .int 0), (2, .int 0), (3, .int 0), (4, .int 0), (6, .int 0), (7, .int 0), (8, .int 0)]) (rdg : List Value) (h_rd : fx rdg 18 [(0, .ref tx), (5, .ref mcd), (6, .ref mnm)]) (mcdC : ClassId) (mcdf : Nat → Int32) (h_mcd : fa mcdf []) (mnmC : ClassId) (mnmf : Nat → Int32) (h_mnm : fa mnmf []) (deAC : ClassId) (deAF : Nat → Option Nat) (de0g : List Value) (h_de0 : fx de0g 16 [(0, .int 0)]) (de1g : List Value) (h_de1 : fx de1g 16 [(0, .int 0)]) (de2g : List Value) (h_de2 : fx de2g 16 [(0, .int 0)]) (de3g : List Value) (h_de3 : fx de3g 16 [(0, .int 0)]) (de4g : List Value) (h_de4 : fx de4g 16 [(0, .int 0)]) (de5g : List Value) (h_de5 : fx de5g 16 [(0, .int 0)]) (oAC : ClassId) (oAf : Nat → Int64) (h_oA : fa oAf []) (h_deA0 : deAF 0 = some de0) (h_deA1 : deAF 1 = some de1) (h_deA2 : deAF 2 = some de2) (h_deA3 : deAF 3 = some de3) (h_deA4 : deAF 4 = some de4) (h_deA5 : deAF 5 = some de5) : Met l yL_design (Cond.codeWith yL_design cL_design 3 (some .int) [(0, 8, 11, 13)] :: BG) ({ frames := 11, cells := 2, slots := 12, locals := 209 }) (va_Pc [.ref x, .ref oA] (fun U => U.heap.size = sz ∧ va_P (dC, dI) CL [(x, .inr (12, xg)), (tx, .inr (10, txg)), (rd, .inr (7, rdg)), (mcd, .inl (mcdC, (17, .inl mcdf))), (mnm, .inl (mnmC, (17, .inl mnmf))), (deA, .inl (deAC, (6, .inr (.inr (.inr (.inr deAF)))))), (de0, .inr (3, de0g)), (de1, .inr (3, de1g)), (de2, .inr (3, de2g)), (de3, .inr (3, de3g)), (de4, .inr (3, de4g)), (de5, .inr (3, de5g)), (oA, .inl (oAC, (1, .inr (.inl oAf))))] U.heap ∧ va_K (dC, dI) CL [(mcdC, .int), (mnmC, .int), (deAC, .object "ChipFlow$Design"), (oAC, .long)] U ∧ va_D (fun _ => True) [(x, .inr (12, xg)), (tx, .inr (10, txg)), (rd, .inr (7, rdg)), (mcd, .inl (mcdC, (17, .inl mcdf))), (mnm, .inl (mnmC, (17, .inl mnmf))), (deA, .inl (deAC, (6, .inr (.inr (.inr (.inr deAF)))))), (de0, .inr (3, de0g)), (de1, .inr (3, de1g)), (de2, .inr (3, de2g)), (de3, .inr (3, de3g)), (de4, .inr (3, de4g)), (de5, .inr (3, de5g)), (oA, .inl (oAC, (1, .inr (.inl oAf))))] ∧ th (va_A [(x, .inr (12, xg)), (tx, .inr (10, txg)), (rd, .inr (7, rdg)), (mcd, .inl (mcdC, (17, .inl mcdf))), (mnm, .inl (mnmC, (17, .inl mnmf))), (deA, .inl (deAC, (6, .inr (.inr (.inr (.inr deAF)))))), (de0, .inr (3, de0g)), (de1, .inr (3, de1g)), (de2, .inr (3, de2g)), (de3, .inr (3, de3g)), (de4, .inr (3, de4g)), (de5, .inr (3, de5g)), (oA, .inl (oAC, (1, .inr (.inl oAf))))] sz) U U.heap)) (va_Qi (fun (r : Int32) (_ : Unit) => r = 0) (fun _ t => ∃ (xy : List Value) (txy : List Value) (rdy : List Value) (mcdy : Nat → Int32) (mnmy : Nat → Int32) (de0y : List Value) (de1y : List Value) (de2y : List Value) (de3y : List Value) (de4y : List Value) (de5y : List Value) (oAy : Nat → Int64), fx xy 17 [(0, .ref tx), (1, .ref rd), (7, .ref deA), (10, .int 2)] ∧ fx txy 9 [(0, .ref bt), (1, .int 0), (2, .int 0), (3, .int 0), (4, .int 0), (6, .int 2), (7, .int 0), (8, .int 0)] ∧ fx rdy 18 [(0, .ref tx), (2, .int 0), (3, .int 0), (5, .ref mcd), (6, .ref mnm), (11, .null)] ∧ fa mcdy [(0, 0)] ∧ fa mnmy [] ∧ fx de0y 16 [(0, .int 0)] ∧ fx de1y 16 [(0, .int 0)] ∧ fx de2y 16 [(0, .int 0)] ∧ fx de3y 16 [(0, .int 0)] ∧ fx de4y 16 [(0, .int 0)] ∧ fx de5y 16 [(0, .int 0)] ∧ fa oAy [(0, (-1))] ∧ va_P (dC, dI) CL [(x, .inr (12, xy)), (tx, .inr (10, txy)), (rd, .inr (7, rdy)), (mcd, .inl (mcdC, (17, .inl mcdy))), (mnm, .inl (mnmC, (17, .inl mnmy))), (deA, .inl (deAC, (6, .inr (.inr (.inr (.inr deAF)))))), (de0, .inr (3, de0y)), (de1, .inr (3, de1y)), (de2, .inr (3, de2y)), (de3, .inr (3, de3y)), (de4, .inr (3, de4y)), (de5, .inr (3, de5y)), (oA, .inl (oAC, (1, .inr (.inl oAy))))] t.heap ∧ va_K (dC, dI) CL [(mcdC, .int), (mnmC, .int), (deAC, .object "ChipFlow$Design"), (oAC, .long)] t ∧ va_D (va_A [(x, .inr (12, xg)), (tx, .inr (10, txg)), (rd, .inr (7, rdg)), (mcd, .inl (mcdC, (17, .inl mcdf))), (mnm, .inl (mnmC, (17, .inl mnmf))), (deA, .inl (deAC, (6, .inr (.inr (.inr (.inr deAF)))))), (de0, .inr (3, de0g)), (de1, .inr (3, de1g)), (de2, .inr (3, de2g)), (de3, .inr (3, de3g)), (de4, .inr (3, de4g)), (de5, .inr (3, de5g)), (oA, .inl (oAC, (1, .inr (.inl oAf))))] sz) [(x, .inr (12, xy)), (tx, .inr (10, txy)), (rd, .inr (7, rdy)), (mcd, .inl (mcdC, (17, .inl mcdy))), (mnm, .inl (mnmC, (17, .inl mnmy))), (deA, .inl (deAC, (6, .inr (.inr (.inr (.inr deAF)))))), (de0, .inr (3, de0y)), (de1, .inr (3, de1y)), (de2, .inr (3, de2y)), (de3, .inr (3, de3y)), (de4, .inr (3, de4y)), (de5, .inr (3, de5y)), (oA, .inl (oAC, (1, .inr (.inl oAy))))]) (va_A [(x, .inr (12, xg)), (tx, .inr (10, txg)), (rd, .inr (7, rdg)), (mcd, .inl (mcdC, (17, .inl mcdf))), (mnm, .inl (mnmC, (17, .inl mnmf))), (deA, .inl (deAC, (6, .inr (.inr (.inr (.inr deAF)))))), (de0, .inr (3, de0g)), (de1, .inr (3, de1g)), (de2, .inr (3, de2g)), (de3, .inr (3, de3g)), (de4, .inr (3, de4g)), (de5, .inr (3, de5g)), (oA, .inl (oAC, (1, .inr (.inl oAf))))] sz)) 2 12 (va_A [(x, .inr (12, xg)), (tx, .inr (10, txg)), (rd, .inr (7, rdg)), (mcd, .inl (mcdC, (17, .inl mcdf))), (mnm, .inl (mnmC, (17, .inl mnmf))), (deA, .inl (deAC, (6, .inr (.inr (.inr (.inr deAF)))))), (de0, .inr (3, de0g)), (de1, .inr (3, de1g)), (de2, .inr (3, de2g)), (de3, .inr (3, de3g)), (de4, .inr (3, de4g)), (de5, .inr (3, de5g)), (oA, .inl (oAC, (1, .inr (.inl oAf))))] sz) := by
  refine va_MetW (hh := [(0, 8, 11, 13)]) (cc := cL_design) (maxL := 3) (ret := (some .int)) (by decide) rfl ?_
  intro p e s m args below meth c s₁ B hml hv
  obtain ⟨rfl, hsz, hP, hK, hD0, hth⟩ := hv
  have hx := B.exec
  have hb := B.bytes
  have hr := B.returns
  have hts : ∀ w ∈ BG, w.before _ s = true := fun w h => atoms_spec (ws := Cond.codeWith yL_design cL_design 3 (some .int) [(0, 8, 11, 13)] :: BG) B.pre w (List.mem_cons_of_mem _ h)
  have hown : s.vm.findClass RL = some m.cls := findClass_of_methodNamed B.named
  have hlocks := B.notSynchronized
  subst hsz
  have hD := hD0.self (sz := s.heap.size)
  generalize hAe : va_A [(x, .inr (12, xg)), (tx, .inr (10, txg)), (rd, .inr (7, rdg)), (mcd, .inl (mcdC, (17, .inl mcdf))), (mnm, .inl (mnmC, (17, .inl mnmf))), (deA, .inl (deAC, (6, .inr (.inr (.inr (.inr deAF)))))), (de0, .inr (3, de0g)), (de1, .inr (3, de1g)), (de2, .inr (3, de2g)), (de3, .inr (3, de3g)), (de4, .inr (3, de4g)), (de5, .inr (3, de5g)), (oA, .inl (oAC, (1, .inr (.inl oAf))))] s.heap.size = A at hD hth ⊢
  have hA : ∀ q : Nat, s.heap.size ≤ q → A q := fun q h => by rw [← hAe]; exact Or.inr h
  have hS : va_S A s.heap s.heap [] := va_S.rf
  have hl := lv_entry ([.ref x, .ref oA]) (n := 3) (Nat.le_of_ble_eq_true rfl)
  rw [lg_entry_eq]
  generalize (lg_sl ([.ref x, .ref oA]) ++ List.replicate (3 - (lg_sl ([.ref x, .ref oA])).length) Slot.unset).toArray = ls at hl ⊢
  have hl : lv_has ls 3 [(0, .ref x), (1, .ref oA)] := hl
  obtain ⟨H, eH⟩ : ∃ z, z = s.heap := ⟨_, rfl⟩
  have hP : va_P (dC, dI) CL [(x, .inr (12, xg)), (tx, .inr (10, txg)), (rd, .inr (7, rdg)), (mcd, .inl (mcdC, (17, .inl mcdf))), (mnm, .inl (mnmC, (17, .inl mnmf))), (deA, .inl (deAC, (6, .inr (.inr (.inr (.inr deAF)))))), (de0, .inr (3, de0g)), (de1, .inr (3, de1g)), (de2, .inr (3, de2g)), (de3, .inr (3, de3g)), (de4, .inr (3, de4g)), (de5, .inr (3, de5g)), (oA, .inl (oAC, (1, .inr (.inl oAf))))] H := by rw [eH]; exact hP
  have hS : va_S A s.heap H [] := by rw [eH]; exact hS
  rw [← eH]
  have hT : c.exceptionTable.toList = tableOf [(0, 8, 11, 13)] := vx_table (x := yL_design) B (atoms_spec (ws := Cond.codeWith yL_design cL_design 3 (some .int) [(0, 8, 11, 13)] :: BG) B.pre _ List.mem_cons_self)
  refine lv_aload_n hx hb dL_design_0 rfl (lv_at hl 1 rfl) ?_
  refine lv_iconst (v := 0) hx hb dL_design_1 (by decide +kernel) ?_
  refine lv_aload_n hx hb dL_design_2 rfl (lv_at hl 0 rfl) ?_
  have hFc := va_free (wc := [(x, .inr (12, xg)), (tx, .inr (10, txg)), (rd, .inr (7, rdg)), (mcd, .inl (mcdC, (17, .inl mcdf))), (mnm, .inl (mnmC, (17, .inl mnmf))), (deA, .inl (deAC, (6, .inr (.inr (.inr (.inr deAF)))))), (de0, .inr (3, de0g)), (de1, .inr (3, de1g)), (de2, .inr (3, de2g)), (de3, .inr (3, de3g)), (de4, .inr (3, de4g)), (de5, .inr (3, de5g)), (oA, .inl (oAC, (1, .inr (.inl oAf))))]) hD hS hA [0, 1, 2, 3, 4, 5, 6, 7, 8, 9, 10, 11, 12] rfl
  refine va_calli (vx_runVW (As := []) (rest := [.int 0, .ref oA]) ⟨hx, hb, hml, hown, hts⟩ (gx145_X12_design l hlt dC dI _ x tx rd mcd mnm deA de0 de1 de2 de3 de4 de5 oA bt xg h_x txg h_tx rdg h_rd mcdC mcdf h_mcd mnmC mnmf h_mnm deAC deAF de0g h_de0 de1g h_de1 de2g h_de2 de3g h_de3 de4g h_de4 de5g h_de5 oAC oAf h_oA h_deA0 h_deA1 h_deA2 h_deA3 h_deA4 h_deA5) (vx_cwVW 0 hts (gi_V wd_1349 wd_1350 wd_1351 wd_327 wd_1352) rfl rfl rfl (by decide +kernel) ⟨(Nat.le_of_ble_eq_true rfl), (Nat.le_of_ble_eq_true rfl)⟩) ⟨fun a U g mk q => by obtain ⟨q0, q1, qP, qK, qD, qT⟩ := q; exact ⟨q0, q1, qP, va_K.moved (u := U) (U := U.calling g mk a) (Vm.Alike.refl U.vm) qK, qD, th.moved (u := U) (U := U.calling g mk a) (Vm.Alike.refl U.vm) qT⟩, va_recv hK hP (ci := 12) (q0 := 0) rfl rfl, fun U hU hW => ⟨rfl, by rw [hU], by rw [hU]; exact hP, va_K.moved hW.alike hK, hD.weaken (fun _ _ _ _ => trivial), by rw [hU]; exact ((hth.kept hS.2.1).narrow hFc).moved hW.alike⟩⟩ rfl rfl hl.1 rfl (lv_room (Nat.le_of_ble_eq_true rfl)) dL_design_3 ⟨(Nat.le_of_ble_eq_true rfl), (Nat.le_of_ble_eq_true rfl)⟩) hS (fun q _ h => hFc q h) hFc (fun r u t H1 locs ht hvm hw hB hz1 hk1 hS => ?_)
  subst hw
  obtain ⟨fs_1, fs_2, fs_3, f_4, f_5, fs_6, fs_7, fs_8, fs_9, fs_10, fs_11, f_12, h_x, h_tx, h_rd, h_mcd, h_mnm, h_de0, h_de1, h_de2, h_de3, h_de4, h_de5, h_oA, hP1, hK1, hD1⟩ := hB
  rw [ht] at hP1
  have hD := hD1.weaken (fun k q _ h => hFc q.1 h)
  have hP := hP1
  generalize H1 = H at hP hS ⊢
  have hP : va_P (dC, dI) CL [(x, .inr (12, fs_1)), (tx, .inr (10, fs_2)), (rd, .inr (7, fs_3)), (mcd, .inl (mcdC, (17, .inl f_4))), (mnm, .inl (mnmC, (17, .inl f_5))), (deA, .inl (deAC, (6, .inr (.inr (.inr (.inr deAF)))))), (de0, .inr (3, fs_6)), (de1, .inr (3, fs_7)), (de2, .inr (3, fs_8)), (de3, .inr (3, fs_9)), (de4, .inr (3, fs_10)), (de5, .inr (3, fs_11)), (oA, .inl (oAC, (1, .inr (.inl f_12))))] H := hP
  have hD : va_D A [(x, .inr (12, fs_1)), (tx, .inr (10, fs_2)), (rd, .inr (7, fs_3)), (mcd, .inl (mcdC, (17, .inl f_4))), (mnm, .inl (mnmC, (17, .inl f_5))), (deA, .inl (deAC, (6, .inr (.inr (.inr (.inr deAF)))))), (de0, .inr (3, fs_6)), (de1, .inr (3, fs_7)), (de2, .inr (3, fs_8)), (de3, .inr (3, fs_9)), (de4, .inr (3, fs_10)), (de5, .inr (3, fs_11)), (oA, .inl (oAC, (1, .inr (.inl f_12))))] := hD
  refine W.widen (k := 2) (n := 12) (Nat.le_of_ble_eq_true rfl) (Nat.le_of_ble_eq_true rfl) ?_
  refine lv_i2l hx hb dL_design_6 rfl ?_
  refine lv_topl (fun v9 e9 => ?_)
  obtain rfl : v9 = (-1) := e9.trans (by decide +kernel)
  refine va_last hx hb hK hP hD hS 12 3 rfl rfl (vp_in_nI (n := 0) (N := 1) (by decide) (by decide)) dL_design_7 (fun H locs hP hD hS => ?_)
  obtain ⟨f_13, e9⟩ : ∃ z, z = vp_updL f_12 (0 : Int32).toNatClampNeg (-1) := ⟨_, rfl⟩
  have h_oA : fa f_13 [(0, (-1))] := by rw [e9, show (0 : Int32).toNatClampNeg = 0 by decide +kernel]; exact (fa.putL h_oA).sub [0] rfl
  have hP : va_P (dC, dI) CL [(x, .inr (12, fs_1)), (tx, .inr (10, fs_2)), (rd, .inr (7, fs_3)), (mcd, .inl (mcdC, (17, .inl f_4))), (mnm, .inl (mnmC, (17, .inl f_5))), (deA, .inl (deAC, (6, .inr (.inr (.inr (.inr deAF)))))), (de0, .inr (3, fs_6)), (de1, .inr (3, fs_7)), (de2, .inr (3, fs_8)), (de3, .inr (3, fs_9)), (de4, .inr (3, fs_10)), (de5, .inr (3, fs_11)), (oA, .inl (oAC, (1, .inr (.inl f_13))))] H := by rw [e9]; exact hP
  have hD : va_D A [(x, .inr (12, fs_1)), (tx, .inr (10, fs_2)), (rd, .inr (7, fs_3)), (mcd, .inl (mcdC, (17, .inl f_4))), (mnm, .inl (mnmC, (17, .inl f_5))), (deA, .inl (deAC, (6, .inr (.inr (.inr (.inr deAF)))))), (de0, .inr (3, fs_6)), (de1, .inr (3, fs_7)), (de2, .inr (3, fs_8)), (de3, .inr (3, fs_9)), (de4, .inr (3, fs_10)), (de5, .inr (3, fs_11)), (oA, .inl (oAC, (1, .inr (.inl f_13))))] := by rw [e9]; exact hD
  clear e9
  refine lv_goto (tgt := 14) hx hb dL_design_8 (by decide) ?_
  refine lv_iconst (v := 0) hx hb dL_design_14 (by decide +kernel) ?_
  refine W.widen (k := 2) (n := 12) (Nat.le_of_ble_eq_true rfl) (Nat.le_of_ble_eq_true rfl) ?_
  exact W.iret (v := 0) hx hb hr (fun t ht hW => ⟨⟨0, (), rfl, rfl, fs_1, fs_2, fs_3, f_4, f_5, fs_6, fs_7, fs_8, fs_9, fs_10, fs_11, f_13, h_x, h_tx, h_rd, h_mcd, h_mnm, h_de0, h_de1, h_de2, h_de3, h_de4, h_de5, h_oA, by rw [ht]; exact hP, va_K.moved hW.alike hK, hD⟩, hS.F ht⟩) hS.2.2 dL_design_15
set_option maxHeartbeats 4000000 in
set_option maxRecDepth 100000 in
theorem gx155_X13_free (l : Launch) (hlt : l.stackTraces = false) (dC : Nat → ClassId) (dI : Nat → Nat → Nat) (sz : Nat) (m0 mt msr mpl mnu md ml mch : Nat) (m0g : List Value) (h_m0 : fx m0g 225 [(0, .int 0), (1, .ref mt), (2, .int 0), (3, .int 0), (4, .ref msr), (5, .ref mpl), (6, .ref mnu), (9, .int 0), (10, .int 0), (11, .int 0), (12, .int 0), (27, .int 0), (55, .ref md), (79, .int 0), (83, .int 0), (88, .ref ml), (95, .int 0), (138, .ref mch)]) (mtC : ClassId) (mtf : Nat → Int32) (h_mt : fa mtf []) (msrC : ClassId) (msrf : Nat → Int32) (h_msr : fa msrf [(0, 0)]) (mplC : ClassId) (mplf : Nat → Int32) (h_mpl : fa mplf [(0, 0)]) (mnuC : ClassId) (mnuf : Nat → Int32) (h_mnu : fa mnuf [(0, 0)]) (mdC : ClassId) (mdf : Nat → Int32) (h_md : fa mdf [(0, 0), (1, 0), (2, 0), (3, 0), (4, 0), (5, 0)]) (mlC : ClassId) (mlf : Nat → Int32) (h_ml : fa mlf [(0, 0), (1, 0), (2, 0)]) (mchC : ClassId) (mchf : Nat → Int32) (h_mch : fa mchf [(0, 0), (1, 0), (2, 0), (3, 0)]) : Met l yX13_free (Cond.code yX13_free cX13_free 3 (some .int) :: BG) ({ frames := 1, cells := 0, slots := 0, locals := 12 }) (va_Pc [.ref md, .int 6] (fun U => U.heap.size = sz ∧ va_P (dC, dI) CL [(m0, .inr (13, m0g)), (mt, .inl (mtC, (65536, .inl mtf))), (msr, .inl (msrC, (65537, .inl msrf))), (mpl, .inl (mplC, (65537, .inl mplf))), (mnu, .inl (mnuC, (65537, .inl mnuf))), (md, .inl (mdC, (6, .inl mdf))), (ml, .inl (mlC, (3, .inl mlf))), (mch, .inl (mchC, (4, .inl mchf)))] U.heap ∧ va_K (dC, dI) CL [(mtC, .byte), (msrC, .byte), (mplC, .int), (mnuC, .int), (mdC, .boolean), (mlC, .boolean), (mchC, .boolean)] U ∧ va_D (fun _ => True) [(m0, .inr (13, m0g)), (mt, .inl (mtC, (65536, .inl mtf))), (msr, .inl (msrC, (65537, .inl msrf))), (mpl, .inl (mplC, (65537, .inl mplf))), (mnu, .inl (mnuC, (65537, .inl mnuf))), (md, .inl (mdC, (6, .inl mdf))), (ml, .inl (mlC, (3, .inl mlf))), (mch, .inl (mchC, (4, .inl mchf)))] ∧ th (va_A [(m0, .inr (13, m0g)), (mt, .inl (mtC, (65536, .inl mtf))), (msr, .inl (msrC, (65537, .inl msrf))), (mpl, .inl (mplC, (65537, .inl mplf))), (mnu, .inl (mnuC, (65537, .inl mnuf))), (md, .inl (mdC, (6, .inl mdf))), (ml, .inl (mlC, (3, .inl mlf))), (mch, .inl (mchC, (4, .inl mchf)))] sz) U U.heap)) (va_Qi (fun (r : Int32) (_ : Unit) => r = 0) (fun _ t => ∃ (m0y : List Value) (mty : Nat → Int32) (msry : Nat → Int32) (mply : Nat → Int32) (mnuy : Nat → Int32) (mdy : Nat → Int32) (mly : Nat → Int32) (mchy : Nat → Int32), fx m0y 225 [(0, .int 0), (1, .ref mt), (2, .int 0), (3, .int 0), (4, .ref msr), (5, .ref mpl), (6, .ref mnu), (9, .int 0), (10, .int 0), (11, .int 0), (12, .int 0), (27, .int 0), (55, .ref md), (79, .int 0), (83, .int 0), (88, .ref ml), (95, .int 0), (138, .ref mch)] ∧ fa mty [] ∧ fa msry [(0, 0)] ∧ fa mply [(0, 0)] ∧ fa mnuy [(0, 0)] ∧ fa mdy [(0, 0), (1, 0), (2, 0), (3, 0), (4, 0), (5, 0)] ∧ fa mly [(0, 0), (1, 0), (2, 0)] ∧ fa mchy [(0, 0), (1, 0), (2, 0), (3, 0)] ∧ va_P (dC, dI) CL [(m0, .inr (13, m0y)), (mt, .inl (mtC, (65536, .inl mty))), (msr, .inl (msrC, (65537, .inl msry))), (mpl, .inl (mplC, (65537, .inl mply))), (mnu, .inl (mnuC, (65537, .inl mnuy))), (md, .inl (mdC, (6, .inl mdy))), (ml, .inl (mlC, (3, .inl mly))), (mch, .inl (mchC, (4, .inl mchy)))] t.heap ∧ va_K (dC, dI) CL [(mtC, .byte), (msrC, .byte), (mplC, .int), (mnuC, .int), (mdC, .boolean), (mlC, .boolean), (mchC, .boolean)] t ∧ va_D (va_A [(m0, .inr (13, m0g)), (mt, .inl (mtC, (65536, .inl mtf))), (msr, .inl (msrC, (65537, .inl msrf))), (mpl, .inl (mplC, (65537, .inl mplf))), (mnu, .inl (mnuC, (65537, .inl mnuf))), (md, .inl (mdC, (6, .inl mdf))), (ml, .inl (mlC, (3, .inl mlf))), (mch, .inl (mchC, (4, .inl mchf)))] sz) [(m0, .inr (13, m0y)), (mt, .inl (mtC, (65536, .inl mty))), (msr, .inl (msrC, (65537, .inl msry))), (mpl, .inl (mplC, (65537, .inl mply))), (mnu, .inl (mnuC, (65537, .inl mnuy))), (md, .inl (mdC, (6, .inl mdy))), (ml, .inl (mlC, (3, .inl mly))), (mch, .inl (mchC, (4, .inl mchy)))]) (va_A [(m0, .inr (13, m0g)), (mt, .inl (mtC, (65536, .inl mtf))), (msr, .inl (msrC, (65537, .inl msrf))), (mpl, .inl (mplC, (65537, .inl mplf))), (mnu, .inl (mnuC, (65537, .inl mnuf))), (md, .inl (mdC, (6, .inl mdf))), (ml, .inl (mlC, (3, .inl mlf))), (mch, .inl (mchC, (4, .inl mchf)))] sz)) 0 0 (va_A [(m0, .inr (13, m0g)), (mt, .inl (mtC, (65536, .inl mtf))), (msr, .inl (msrC, (65537, .inl msrf))), (mpl, .inl (mplC, (65537, .inl mplf))), (mnu, .inl (mnuC, (65537, .inl mnuf))), (md, .inl (mdC, (6, .inl mdf))), (ml, .inl (mlC, (3, .inl mlf))), (mch, .inl (mchC, (4, .inl mchf)))] sz) := by
  refine Met.ofW (cc := cX13_free) (maxL := 3) (ret := (some .int)) (by decide) rfl ?_
  intro p e s m args below meth c s₁ B hml hv
  obtain ⟨rfl, hsz, hP, hK, hD0, hth⟩ := hv
  have hx := B.exec
  have hb := B.bytes
  have hr := B.returns
  have hts : ∀ w ∈ BG, w.before _ s = true := fun w h => atoms_spec (ws := Cond.code yX13_free cX13_free 3 (some .int) :: BG) B.pre w (List.mem_cons_of_mem _ h)
  have hown : s.vm.findClass RX13 = some m.cls := findClass_of_methodNamed B.named
  have hlocks := B.notSynchronized
  subst hsz
  have hD := hD0.self (sz := s.heap.size)
  generalize hAe : va_A [(m0, .inr (13, m0g)), (mt, .inl (mtC, (65536, .inl mtf))), (msr, .inl (msrC, (65537, .inl msrf))), (mpl, .inl (mplC, (65537, .inl mplf))), (mnu, .inl (mnuC, (65537, .inl mnuf))), (md, .inl (mdC, (6, .inl mdf))), (ml, .inl (mlC, (3, .inl mlf))), (mch, .inl (mchC, (4, .inl mchf)))] s.heap.size = A at hD hth ⊢
  have hA : ∀ q : Nat, s.heap.size ≤ q → A q := fun q h => by rw [← hAe]; exact Or.inr h
  have hS : va_S A s.heap s.heap [] := va_S.rf
  have hl := lv_entry ([.ref md, .int 6]) (n := 3) (Nat.le_of_ble_eq_true rfl)
  rw [lg_entry_eq]
  generalize (lg_sl ([.ref md, .int 6]) ++ List.replicate (3 - (lg_sl ([.ref md, .int 6])).length) Slot.unset).toArray = ls at hl ⊢
  have hl : lv_has ls 3 [(0, .ref md), (1, .int 6)] := hl
  obtain ⟨H, eH⟩ : ∃ z, z = s.heap := ⟨_, rfl⟩
  have hP : va_P (dC, dI) CL [(m0, .inr (13, m0g)), (mt, .inl (mtC, (65536, .inl mtf))), (msr, .inl (msrC, (65537, .inl msrf))), (mpl, .inl (mplC, (65537, .inl mplf))), (mnu, .inl (mnuC, (65537, .inl mnuf))), (md, .inl (mdC, (6, .inl mdf))), (ml, .inl (mlC, (3, .inl mlf))), (mch, .inl (mchC, (4, .inl mchf)))] H := by rw [eH]; exact hP
  have hS : va_S A s.heap H [] := by rw [eH]; exact hS
  rw [← eH]
  refine lv_iconst (v := 0) hx hb dX13_free_0 (by decide +kernel) ?_
  refine lv_istore_n (lv' := [(2, .int 0), (0, .ref md), (1, .int 6)]) hx hb dX13_free_1 rfl hl (by decide) rfl (fun ls hl => ?_)
  refine lv_iload_n hx hb dX13_free_2 rfl (lv_at hl 0 rfl) ?_
  refine lv_iload_n hx hb dX13_free_3 rfl (lv_at hl 2 rfl) ?_
  refine lv_icmp_ge (tgt := 21) hx hb dX13_free_4 (by decide) (fun c9 => ?_) (fun c9 => ?_)
  · first | exact absurd c9 (by decide +kernel) | exact absurd (by decide +kernel) c9
  refine lv_aload_n hx hb dX13_free_7 rfl (lv_at hl 1 rfl) ?_
  refine lv_iload_n hx hb dX13_free_8 rfl (lv_at hl 0 rfl) ?_
  refine va_zald hx hb hK hP 5 4 rfl rfl (vp_in_nI (n := 0) (N := 6) (by decide) (by decide)) dX13_free_9 ?_
  refine lv_topi (fun v9 e9 => ?_)
  obtain rfl : v9 = 0 := e9.trans ((congrArg mdf (by decide +kernel : (0 : Int32).toNatClampNeg = 0)).trans (h_md.get 0 rfl))
  refine lv_if_ne (tgt := 15) hx hb dX13_free_10 (by decide) (fun c9 => ?_) (fun c9 => ?_)
  · first | exact absurd c9 (by decide +kernel) | exact absurd (by decide +kernel) c9
  refine lv_iload_n hx hb dX13_free_13 rfl (lv_at hl 0 rfl) ?_
  exact W.iret (v := 0) hx hb hr (fun t ht hW => ⟨⟨0, (), rfl, rfl, m0g, mtf, msrf, mplf, mnuf, mdf, mlf, mchf, h_m0, h_mt, h_msr, h_mpl, h_mnu, h_md, h_ml, h_mch, by rw [ht]; exact hP, va_K.moved hW.alike hK, hD⟩, hS.F ht⟩) hS.2.2 dX13_free_14
set_option maxHeartbeats 4000000 in
set_option maxRecDepth 100000 in
theorem gx159_X13_byteAt (l : Launch) (hlt : l.stackTraces = false) (dC : Nat → ClassId) (dI : Nat → Nat → Nat) (sz : Nat) (m0 mt msr mpl mnu md ml mch : Nat) (m0g : List Value) (h_m0 : fx m0g 225 [(0, .int 0), (1, .ref mt), (2, .int 0), (3, .int 0), (4, .ref msr), (5, .ref mpl), (6, .ref mnu), (9, .int 0), (10, .int 0), (11, .int 0), (12, .int 0), (27, .int 0), (55, .ref md), (79, .int 0), (83, .int 0), (88, .ref ml), (95, .int 0), (138, .ref mch)]) (mtC : ClassId) (mtf : Nat → Int32) (h_mt : fa mtf []) (msrC : ClassId) (msrf : Nat → Int32) (h_msr : fa msrf [(0, 0)]) (mplC : ClassId) (mplf : Nat → Int32) (h_mpl : fa mplf [(0, 0)]) (mnuC : ClassId) (mnuf : Nat → Int32) (h_mnu : fa mnuf [(0, 0)]) (mdC : ClassId) (mdf : Nat → Int32) (h_md : fa mdf [(0, 0), (1, 0), (2, 0), (3, 0), (4, 0), (5, 0)]) (mlC : ClassId) (mlf : Nat → Int32) (h_ml : fa mlf [(0, 0), (1, 0), (2, 0)]) (mchC : ClassId) (mchf : Nat → Int32) (h_mch : fa mchf [(0, 0), (1, 0), (2, 0), (3, 0)]) : Met l yX13_byteAt (Cond.code yX13_byteAt cX13_byteAt 2 (some .int) :: BG) ({ frames := 1, cells := 0, slots := 0, locals := 12 }) (va_Pc [.ref m0, .int 0] (fun U => U.heap.size = sz ∧ va_P (dC, dI) CL [(m0, .inr (13, m0g)), (mt, .inl (mtC, (65536, .inl mtf))), (msr, .inl (msrC, (65537, .inl msrf))), (mpl, .inl (mplC, (65537, .inl mplf))), (mnu, .inl (mnuC, (65537, .inl mnuf))), (md, .inl (mdC, (6, .inl mdf))), (ml, .inl (mlC, (3, .inl mlf))), (mch, .inl (mchC, (4, .inl mchf)))] U.heap ∧ va_K (dC, dI) CL [(mtC, .byte), (msrC, .byte), (mplC, .int), (mnuC, .int), (mdC, .boolean), (mlC, .boolean), (mchC, .boolean)] U ∧ va_D (fun _ => True) [(m0, .inr (13, m0g)), (mt, .inl (mtC, (65536, .inl mtf))), (msr, .inl (msrC, (65537, .inl msrf))), (mpl, .inl (mplC, (65537, .inl mplf))), (mnu, .inl (mnuC, (65537, .inl mnuf))), (md, .inl (mdC, (6, .inl mdf))), (ml, .inl (mlC, (3, .inl mlf))), (mch, .inl (mchC, (4, .inl mchf)))] ∧ th (va_A [(m0, .inr (13, m0g)), (mt, .inl (mtC, (65536, .inl mtf))), (msr, .inl (msrC, (65537, .inl msrf))), (mpl, .inl (mplC, (65537, .inl mplf))), (mnu, .inl (mnuC, (65537, .inl mnuf))), (md, .inl (mdC, (6, .inl mdf))), (ml, .inl (mlC, (3, .inl mlf))), (mch, .inl (mchC, (4, .inl mchf)))] sz) U U.heap)) (va_Qi (fun (r : Int32) (_ : Unit) => r = (-1)) (fun _ t => ∃ (m0y : List Value) (mty : Nat → Int32) (msry : Nat → Int32) (mply : Nat → Int32) (mnuy : Nat → Int32) (mdy : Nat → Int32) (mly : Nat → Int32) (mchy : Nat → Int32), fx m0y 225 [(0, .int 0), (1, .ref mt), (2, .int 0), (3, .int 0), (4, .ref msr), (5, .ref mpl), (6, .ref mnu), (9, .int 0), (10, .int 0), (11, .int 0), (12, .int 0), (27, .int 0), (55, .ref md), (79, .int 0), (83, .int 0), (88, .ref ml), (95, .int 0), (138, .ref mch)] ∧ fa mty [] ∧ fa msry [(0, 0)] ∧ fa mply [(0, 0)] ∧ fa mnuy [(0, 0)] ∧ fa mdy [(0, 0), (1, 0), (2, 0), (3, 0), (4, 0), (5, 0)] ∧ fa mly [(0, 0), (1, 0), (2, 0)] ∧ fa mchy [(0, 0), (1, 0), (2, 0), (3, 0)] ∧ va_P (dC, dI) CL [(m0, .inr (13, m0y)), (mt, .inl (mtC, (65536, .inl mty))), (msr, .inl (msrC, (65537, .inl msry))), (mpl, .inl (mplC, (65537, .inl mply))), (mnu, .inl (mnuC, (65537, .inl mnuy))), (md, .inl (mdC, (6, .inl mdy))), (ml, .inl (mlC, (3, .inl mly))), (mch, .inl (mchC, (4, .inl mchy)))] t.heap ∧ va_K (dC, dI) CL [(mtC, .byte), (msrC, .byte), (mplC, .int), (mnuC, .int), (mdC, .boolean), (mlC, .boolean), (mchC, .boolean)] t ∧ va_D (va_A [(m0, .inr (13, m0g)), (mt, .inl (mtC, (65536, .inl mtf))), (msr, .inl (msrC, (65537, .inl msrf))), (mpl, .inl (mplC, (65537, .inl mplf))), (mnu, .inl (mnuC, (65537, .inl mnuf))), (md, .inl (mdC, (6, .inl mdf))), (ml, .inl (mlC, (3, .inl mlf))), (mch, .inl (mchC, (4, .inl mchf)))] sz) [(m0, .inr (13, m0y)), (mt, .inl (mtC, (65536, .inl mty))), (msr, .inl (msrC, (65537, .inl msry))), (mpl, .inl (mplC, (65537, .inl mply))), (mnu, .inl (mnuC, (65537, .inl mnuy))), (md, .inl (mdC, (6, .inl mdy))), (ml, .inl (mlC, (3, .inl mly))), (mch, .inl (mchC, (4, .inl mchy)))]) (va_A [(m0, .inr (13, m0g)), (mt, .inl (mtC, (65536, .inl mtf))), (msr, .inl (msrC, (65537, .inl msrf))), (mpl, .inl (mplC, (65537, .inl mplf))), (mnu, .inl (mnuC, (65537, .inl mnuf))), (md, .inl (mdC, (6, .inl mdf))), (ml, .inl (mlC, (3, .inl mlf))), (mch, .inl (mchC, (4, .inl mchf)))] sz)) 0 0 (va_A [(m0, .inr (13, m0g)), (mt, .inl (mtC, (65536, .inl mtf))), (msr, .inl (msrC, (65537, .inl msrf))), (mpl, .inl (mplC, (65537, .inl mplf))), (mnu, .inl (mnuC, (65537, .inl mnuf))), (md, .inl (mdC, (6, .inl mdf))), (ml, .inl (mlC, (3, .inl mlf))), (mch, .inl (mchC, (4, .inl mchf)))] sz) := by
  refine Met.ofW (cc := cX13_byteAt) (maxL := 2) (ret := (some .int)) (by decide) rfl ?_
  intro p e s m args below meth c s₁ B hml hv
  obtain ⟨rfl, hsz, hP, hK, hD0, hth⟩ := hv
  have hx := B.exec
  have hb := B.bytes
  have hr := B.returns
  have hts : ∀ w ∈ BG, w.before _ s = true := fun w h => atoms_spec (ws := Cond.code yX13_byteAt cX13_byteAt 2 (some .int) :: BG) B.pre w (List.mem_cons_of_mem _ h)
  have hown : s.vm.findClass RX13 = some m.cls := findClass_of_methodNamed B.named
  have hlocks := B.notSynchronized
  subst hsz
  have hD := hD0.self (sz := s.heap.size)
  generalize hAe : va_A [(m0, .inr (13, m0g)), (mt, .inl (mtC, (65536, .inl mtf))), (msr, .inl (msrC, (65537, .inl msrf))), (mpl, .inl (mplC, (65537, .inl mplf))), (mnu, .inl (mnuC, (65537, .inl mnuf))), (md, .inl (mdC, (6, .inl mdf))), (ml, .inl (mlC, (3, .inl mlf))), (mch, .inl (mchC, (4, .inl mchf)))] s.heap.size = A at hD hth ⊢
  have hA : ∀ q : Nat, s.heap.size ≤ q → A q := fun q h => by rw [← hAe]; exact Or.inr h
  have hS : va_S A s.heap s.heap [] := va_S.rf
  have hl := lv_entry ([.ref m0, .int 0]) (n := 2) (Nat.le_of_ble_eq_true rfl)
  rw [lg_entry_eq]
  generalize (lg_sl ([.ref m0, .int 0]) ++ List.replicate (2 - (lg_sl ([.ref m0, .int 0])).length) Slot.unset).toArray = ls at hl ⊢
  have hl : lv_has ls 2 [(0, .ref m0), (1, .int 0)] := hl
  obtain ⟨H, eH⟩ : ∃ z, z = s.heap := ⟨_, rfl⟩
  have hP : va_P (dC, dI) CL [(m0, .inr (13, m0g)), (mt, .inl (mtC, (65536, .inl mtf))), (msr, .inl (msrC, (65537, .inl msrf))), (mpl, .inl (mplC, (65537, .inl mplf))), (mnu, .inl (mnuC, (65537, .inl mnuf))), (md, .inl (mdC, (6, .inl mdf))), (ml, .inl (mlC, (3, .inl mlf))), (mch, .inl (mchC, (4, .inl mchf)))] H := by rw [eH]; exact hP
  have hS : va_S A s.heap H [] := by rw [eH]; exact hS
  rw [← eH]
  refine lv_iload_n hx hb dX13_byteAt_0 rfl (lv_at hl 1 rfl) ?_
  refine lv_aload_n hx hb dX13_byteAt_1 rfl (lv_at hl 0 rfl) ?_
  refine va_get (D := (dC, dI)) (ci := 13) (v := .int 0) (C := RX13) (T := TX13) (N := 225) hx hb hts inX13 hown hK hP 0 rfl rfl 2 (by decide) (hts (.fieldLink RX13 555 "ChipFlowModel" "size" "I") wd_3034) (fun _ h9 => h9) (h_m0.get 2 rfl) dX13_byteAt_2 ?_
  refine lv_icmp_ge (tgt := 21) hx hb dX13_byteAt_5 (by decide) (fun c9 => ?_) (fun c9 => ?_)
  rotate_left
  · first | exact absurd c9 (by decide +kernel) | exact absurd (by decide +kernel) c9
  refine lv_iconst (v := (-1)) hx hb dX13_byteAt_21 (by decide +kernel) ?_
  exact W.iret (v := (-1)) hx hb hr (fun t ht hW => ⟨⟨(-1), (), rfl, rfl, m0g, mtf, msrf, mplf, mnuf, mdf, mlf, mchf, h_m0, h_mt, h_msr, h_mpl, h_mnu, h_md, h_ml, h_mch, by rw [ht]; exact hP, va_K.moved hW.alike hK, hD⟩, hS.F ht⟩) hS.2.2 dX13_byteAt_22
set_option maxHeartbeats 4000000 in
set_option maxRecDepth 100000 in
theorem gx160_X13_isBlank (l : Launch) (hlt : l.stackTraces = false) (dC : Nat → ClassId) (dI : Nat → Nat → Nat) (sz : Nat) (m0 mt msr mpl mnu md ml mch : Nat) (m0g : List Value) (h_m0 : fx m0g 225 [(0, .int 0), (1, .ref mt), (2, .int 0), (3, .int 0), (4, .ref msr), (5, .ref mpl), (6, .ref mnu), (9, .int 0), (10, .int 0), (11, .int 0), (12, .int 0), (27, .int 0), (55, .ref md), (79, .int 0), (83, .int 0), (88, .ref ml), (95, .int 0), (138, .ref mch)]) (mtC : ClassId) (mtf : Nat → Int32) (h_mt : fa mtf []) (msrC : ClassId) (msrf : Nat → Int32) (h_msr : fa msrf [(0, 0)]) (mplC : ClassId) (mplf : Nat → Int32) (h_mpl : fa mplf [(0, 0)]) (mnuC : ClassId) (mnuf : Nat → Int32) (h_mnu : fa mnuf [(0, 0)]) (mdC : ClassId) (mdf : Nat → Int32) (h_md : fa mdf [(0, 0), (1, 0), (2, 0), (3, 0), (4, 0), (5, 0)]) (mlC : ClassId) (mlf : Nat → Int32) (h_ml : fa mlf [(0, 0), (1, 0), (2, 0)]) (mchC : ClassId) (mchf : Nat → Int32) (h_mch : fa mchf [(0, 0), (1, 0), (2, 0), (3, 0)]) : Met l yX13_isBlank (Cond.code yX13_isBlank cX13_isBlank 1 (some .boolean) :: BG) ({ frames := 1, cells := 0, slots := 0, locals := 12 }) (va_Pc [.int (-1)] (fun U => U.heap.size = sz ∧ va_P (dC, dI) CL [(m0, .inr (13, m0g)), (mt, .inl (mtC, (65536, .inl mtf))), (msr, .inl (msrC, (65537, .inl msrf))), (mpl, .inl (mplC, (65537, .inl mplf))), (mnu, .inl (mnuC, (65537, .inl mnuf))), (md, .inl (mdC, (6, .inl mdf))), (ml, .inl (mlC, (3, .inl mlf))), (mch, .inl (mchC, (4, .inl mchf)))] U.heap ∧ va_K (dC, dI) CL [(mtC, .byte), (msrC, .byte), (mplC, .int), (mnuC, .int), (mdC, .boolean), (mlC, .boolean), (mchC, .boolean)] U ∧ va_D (fun _ => True) [(m0, .inr (13, m0g)), (mt, .inl (mtC, (65536, .inl mtf))), (msr, .inl (msrC, (65537, .inl msrf))), (mpl, .inl (mplC, (65537, .inl mplf))), (mnu, .inl (mnuC, (65537, .inl mnuf))), (md, .inl (mdC, (6, .inl mdf))), (ml, .inl (mlC, (3, .inl mlf))), (mch, .inl (mchC, (4, .inl mchf)))] ∧ th (va_A [(m0, .inr (13, m0g)), (mt, .inl (mtC, (65536, .inl mtf))), (msr, .inl (msrC, (65537, .inl msrf))), (mpl, .inl (mplC, (65537, .inl mplf))), (mnu, .inl (mnuC, (65537, .inl mnuf))), (md, .inl (mdC, (6, .inl mdf))), (ml, .inl (mlC, (3, .inl mlf))), (mch, .inl (mchC, (4, .inl mchf)))] sz) U U.heap)) (va_Qi (fun (r : Int32) (_ : Unit) => r = 0) (fun _ t => ∃ (m0y : List Value) (mty : Nat → Int32) (msry : Nat → Int32) (mply : Nat → Int32) (mnuy : Nat → Int32) (mdy : Nat → Int32) (mly : Nat → Int32) (mchy : Nat → Int32), fx m0y 225 [(0, .int 0), (1, .ref mt), (2, .int 0), (3, .int 0), (4, .ref msr), (5, .ref mpl), (6, .ref mnu), (9, .int 0), (10, .int 0), (11, .int 0), (12, .int 0), (27, .int 0), (55, .ref md), (79, .int 0), (83, .int 0), (88, .ref ml), (95, .int 0), (138, .ref mch)] ∧ fa mty [] ∧ fa msry [(0, 0)] ∧ fa mply [(0, 0)] ∧ fa mnuy [(0, 0)] ∧ fa mdy [(0, 0), (1, 0), (2, 0), (3, 0), (4, 0), (5, 0)] ∧ fa mly [(0, 0), (1, 0), (2, 0)] ∧ fa mchy [(0, 0), (1, 0), (2, 0), (3, 0)] ∧ va_P (dC, dI) CL [(m0, .inr (13, m0y)), (mt, .inl (mtC, (65536, .inl mty))), (msr, .inl (msrC, (65537, .inl msry))), (mpl, .inl (mplC, (65537, .inl mply))), (mnu, .inl (mnuC, (65537, .inl mnuy))), (md, .inl (mdC, (6, .inl mdy))), (ml, .inl (mlC, (3, .inl mly))), (mch, .inl (mchC, (4, .inl mchy)))] t.heap ∧ va_K (dC, dI) CL [(mtC, .byte), (msrC, .byte), (mplC, .int), (mnuC, .int), (mdC, .boolean), (mlC, .boolean), (mchC, .boolean)] t ∧ va_D (va_A [(m0, .inr (13, m0g)), (mt, .inl (mtC, (65536, .inl mtf))), (msr, .inl (msrC, (65537, .inl msrf))), (mpl, .inl (mplC, (65537, .inl mplf))), (mnu, .inl (mnuC, (65537, .inl mnuf))), (md, .inl (mdC, (6, .inl mdf))), (ml, .inl (mlC, (3, .inl mlf))), (mch, .inl (mchC, (4, .inl mchf)))] sz) [(m0, .inr (13, m0y)), (mt, .inl (mtC, (65536, .inl mty))), (msr, .inl (msrC, (65537, .inl msry))), (mpl, .inl (mplC, (65537, .inl mply))), (mnu, .inl (mnuC, (65537, .inl mnuy))), (md, .inl (mdC, (6, .inl mdy))), (ml, .inl (mlC, (3, .inl mly))), (mch, .inl (mchC, (4, .inl mchy)))]) (va_A [(m0, .inr (13, m0g)), (mt, .inl (mtC, (65536, .inl mtf))), (msr, .inl (msrC, (65537, .inl msrf))), (mpl, .inl (mplC, (65537, .inl mplf))), (mnu, .inl (mnuC, (65537, .inl mnuf))), (md, .inl (mdC, (6, .inl mdf))), (ml, .inl (mlC, (3, .inl mlf))), (mch, .inl (mchC, (4, .inl mchf)))] sz)) 0 0 (va_A [(m0, .inr (13, m0g)), (mt, .inl (mtC, (65536, .inl mtf))), (msr, .inl (msrC, (65537, .inl msrf))), (mpl, .inl (mplC, (65537, .inl mplf))), (mnu, .inl (mnuC, (65537, .inl mnuf))), (md, .inl (mdC, (6, .inl mdf))), (ml, .inl (mlC, (3, .inl mlf))), (mch, .inl (mchC, (4, .inl mchf)))] sz) := by
  refine Met.ofW (cc := cX13_isBlank) (maxL := 1) (ret := (some .boolean)) (by decide) rfl ?_
  intro p e s m args below meth c s₁ B hml hv
  obtain ⟨rfl, hsz, hP, hK, hD0, hth⟩ := hv
  have hx := B.exec
  have hb := B.bytes
  have hr := B.returns
  have hts : ∀ w ∈ BG, w.before _ s = true := fun w h => atoms_spec (ws := Cond.code yX13_isBlank cX13_isBlank 1 (some .boolean) :: BG) B.pre w (List.mem_cons_of_mem _ h)
  have hown : s.vm.findClass RX13 = some m.cls := findClass_of_methodNamed B.named
  have hlocks := B.notSynchronized
  subst hsz
  have hD := hD0.self (sz := s.heap.size)
  generalize hAe : va_A [(m0, .inr (13, m0g)), (mt, .inl (mtC, (65536, .inl mtf))), (msr, .inl (msrC, (65537, .inl msrf))), (mpl, .inl (mplC, (65537, .inl mplf))), (mnu, .inl (mnuC, (65537, .inl mnuf))), (md, .inl (mdC, (6, .inl mdf))), (ml, .inl (mlC, (3, .inl mlf))), (mch, .inl (mchC, (4, .inl mchf)))] s.heap.size = A at hD hth ⊢
  have hA : ∀ q : Nat, s.heap.size ≤ q → A q := fun q h => by rw [← hAe]; exact Or.inr h
  have hS : va_S A s.heap s.heap [] := va_S.rf
  have hl := lv_entry ([.int (-1)]) (n := 1) (Nat.le_of_ble_eq_true rfl)
  rw [lg_entry_eq]
  generalize (lg_sl ([.int (-1)]) ++ List.replicate (1 - (lg_sl ([.int (-1)])).length) Slot.unset).toArray = ls at hl ⊢
  have hl : lv_has ls 1 [(0, .int (-1))] := hl
  obtain ⟨H, eH⟩ : ∃ z, z = s.heap := ⟨_, rfl⟩
  have hP : va_P (dC, dI) CL [(m0, .inr (13, m0g)), (mt, .inl (mtC, (65536, .inl mtf))), (msr, .inl (msrC, (65537, .inl msrf))), (mpl, .inl (mplC, (65537, .inl mplf))), (mnu, .inl (mnuC, (65537, .inl mnuf))), (md, .inl (mdC, (6, .inl mdf))), (ml, .inl (mlC, (3, .inl mlf))), (mch, .inl (mchC, (4, .inl mchf)))] H := by rw [eH]; exact hP
  have hS : va_S A s.heap H [] := by rw [eH]; exact hS
  rw [← eH]
  refine lv_iload_n hx hb dX13_isBlank_0 rfl (lv_at hl 0 rfl) ?_
  refine lv_bipush (v := 9) hx hb dX13_isBlank_1 (by decide +kernel) ?_
  refine lv_icmp_eq (tgt := 24) hx hb dX13_isBlank_3 (by decide) (fun c9 => ?_) (fun c9 => ?_)
  · first | exact absurd c9 (by decide +kernel) | exact absurd (by decide +kernel) c9
  refine lv_iload_n hx hb dX13_isBlank_6 rfl (lv_at hl 0 rfl) ?_
  refine lv_bipush (v := 10) hx hb dX13_isBlank_7 (by decide +kernel) ?_
  refine lv_icmp_eq (tgt := 24) hx hb dX13_isBlank_9 (by decide) (fun c9 => ?_) (fun c9 => ?_)
  · first | exact absurd c9 (by decide +kernel) | exact absurd (by decide +kernel) c9
  refine lv_iload_n hx hb dX13_isBlank_12 rfl (lv_at hl 0 rfl) ?_
  refine lv_bipush (v := 13) hx hb dX13_isBlank_13 (by decide +kernel) ?_
  refine lv_icmp_eq (tgt := 24) hx hb dX13_isBlank_15 (by decide) (fun c9 => ?_) (fun c9 => ?_)
  · first | exact absurd c9 (by decide +kernel) | exact absurd (by decide +kernel) c9
  refine lv_iload_n hx hb dX13_isBlank_18 rfl (lv_at hl 0 rfl) ?_
  refine lv_bipush (v := 32) hx hb dX13_isBlank_19 (by decide +kernel) ?_
  refine lv_icmp_ne (tgt := 28) hx hb dX13_isBlank_21 (by decide) (fun c9 => ?_) (fun c9 => ?_)
  rotate_left
  · first | exact absurd c9 (by decide +kernel) | exact absurd (by decide +kernel) c9
  refine lv_iconst (v := 0) hx hb dX13_isBlank_28 (by decide +kernel) ?_
  exact W.zret (v := 0) hx hb hr rfl (fun t ht hW => ⟨⟨0, (), rfl, rfl, m0g, mtf, msrf, mplf, mnuf, mdf, mlf, mchf, h_m0, h_mt, h_msr, h_mpl, h_mnu, h_md, h_ml, h_mch, by rw [ht]; exact hP, va_K.moved hW.alike hK, hD⟩, hS.F ht⟩) hS.2.2 dX13_isBlank_29
set_option maxHeartbeats 4000000 in
set_option maxRecDepth 100000 in
theorem gx158_X13_skip (l : Launch) (hlt : l.stackTraces = false) (dC : Nat → ClassId) (dI : Nat → Nat → Nat) (sz : Nat) (m0 mt msr mpl mnu md ml mch : Nat) (m0g : List Value) (h_m0 : fx m0g 225 [(0, .int 0), (1, .ref mt), (2, .int 0), (3, .int 0), (4, .ref msr), (5, .ref mpl), (6, .ref mnu), (9, .int 0), (10, .int 0), (11, .int 0), (12, .int 0), (27, .int 0), (55, .ref md), (79, .int 0), (83, .int 0), (88, .ref ml), (95, .int 0), (138, .ref mch)]) (mtC : ClassId) (mtf : Nat → Int32) (h_mt : fa mtf []) (msrC : ClassId) (msrf : Nat → Int32) (h_msr : fa msrf [(0, 0)]) (mplC : ClassId) (mplf : Nat → Int32) (h_mpl : fa mplf [(0, 0)]) (mnuC : ClassId) (mnuf : Nat → Int32) (h_mnu : fa mnuf [(0, 0)]) (mdC : ClassId) (mdf : Nat → Int32) (h_md : fa mdf [(0, 0), (1, 0), (2, 0), (3, 0), (4, 0), (5, 0)]) (mlC : ClassId) (mlf : Nat → Int32) (h_ml : fa mlf [(0, 0), (1, 0), (2, 0)]) (mchC : ClassId) (mchf : Nat → Int32) (h_mch : fa mchf [(0, 0), (1, 0), (2, 0), (3, 0)]) : Met l yX13_skip (Cond.code yX13_skip cX13_skip 3 (some .int) :: BG) ({ frames := 2, cells := 0, slots := 0, locals := 33 }) (va_Pc [.ref m0, .int 0] (fun U => U.heap.size = sz ∧ va_P (dC, dI) CL [(m0, .inr (13, m0g)), (mt, .inl (mtC, (65536, .inl mtf))), (msr, .inl (msrC, (65537, .inl msrf))), (mpl, .inl (mplC, (65537, .inl mplf))), (mnu, .inl (mnuC, (65537, .inl mnuf))), (md, .inl (mdC, (6, .inl mdf))), (ml, .inl (mlC, (3, .inl mlf))), (mch, .inl (mchC, (4, .inl mchf)))] U.heap ∧ va_K (dC, dI) CL [(mtC, .byte), (msrC, .byte), (mplC, .int), (mnuC, .int), (mdC, .boolean), (mlC, .boolean), (mchC, .boolean)] U ∧ va_D (fun _ => True) [(m0, .inr (13, m0g)), (mt, .inl (mtC, (65536, .inl mtf))), (msr, .inl (msrC, (65537, .inl msrf))), (mpl, .inl (mplC, (65537, .inl mplf))), (mnu, .inl (mnuC, (65537, .inl mnuf))), (md, .inl (mdC, (6, .inl mdf))), (ml, .inl (mlC, (3, .inl mlf))), (mch, .inl (mchC, (4, .inl mchf)))] ∧ th (va_A [(m0, .inr (13, m0g)), (mt, .inl (mtC, (65536, .inl mtf))), (msr, .inl (msrC, (65537, .inl msrf))), (mpl, .inl (mplC, (65537, .inl mplf))), (mnu, .inl (mnuC, (65537, .inl mnuf))), (md, .inl (mdC, (6, .inl mdf))), (ml, .inl (mlC, (3, .inl mlf))), (mch, .inl (mchC, (4, .inl mchf)))] sz) U U.heap)) (va_Qi (fun (r : Int32) (_ : Unit) => r = 0) (fun _ t => ∃ (m0y : List Value) (mty : Nat → Int32) (msry : Nat → Int32) (mply : Nat → Int32) (mnuy : Nat → Int32) (mdy : Nat → Int32) (mly : Nat → Int32) (mchy : Nat → Int32), fx m0y 225 [(0, .int 0), (1, .ref mt), (2, .int 0), (3, .int 0), (4, .ref msr), (5, .ref mpl), (6, .ref mnu), (9, .int 0), (10, .int 0), (11, .int 0), (12, .int 0), (27, .int 0), (55, .ref md), (79, .int 0), (83, .int 0), (88, .ref ml), (95, .int 0), (138, .ref mch)] ∧ fa mty [] ∧ fa msry [(0, 0)] ∧ fa mply [(0, 0)] ∧ fa mnuy [(0, 0)] ∧ fa mdy [(0, 0), (1, 0), (2, 0), (3, 0), (4, 0), (5, 0)] ∧ fa mly [(0, 0), (1, 0), (2, 0)] ∧ fa mchy [(0, 0), (1, 0), (2, 0), (3, 0)] ∧ va_P (dC, dI) CL [(m0, .inr (13, m0y)), (mt, .inl (mtC, (65536, .inl mty))), (msr, .inl (msrC, (65537, .inl msry))), (mpl, .inl (mplC, (65537, .inl mply))), (mnu, .inl (mnuC, (65537, .inl mnuy))), (md, .inl (mdC, (6, .inl mdy))), (ml, .inl (mlC, (3, .inl mly))), (mch, .inl (mchC, (4, .inl mchy)))] t.heap ∧ va_K (dC, dI) CL [(mtC, .byte), (msrC, .byte), (mplC, .int), (mnuC, .int), (mdC, .boolean), (mlC, .boolean), (mchC, .boolean)] t ∧ va_D (va_A [(m0, .inr (13, m0g)), (mt, .inl (mtC, (65536, .inl mtf))), (msr, .inl (msrC, (65537, .inl msrf))), (mpl, .inl (mplC, (65537, .inl mplf))), (mnu, .inl (mnuC, (65537, .inl mnuf))), (md, .inl (mdC, (6, .inl mdf))), (ml, .inl (mlC, (3, .inl mlf))), (mch, .inl (mchC, (4, .inl mchf)))] sz) [(m0, .inr (13, m0y)), (mt, .inl (mtC, (65536, .inl mty))), (msr, .inl (msrC, (65537, .inl msry))), (mpl, .inl (mplC, (65537, .inl mply))), (mnu, .inl (mnuC, (65537, .inl mnuy))), (md, .inl (mdC, (6, .inl mdy))), (ml, .inl (mlC, (3, .inl mly))), (mch, .inl (mchC, (4, .inl mchy)))]) (va_A [(m0, .inr (13, m0g)), (mt, .inl (mtC, (65536, .inl mtf))), (msr, .inl (msrC, (65537, .inl msrf))), (mpl, .inl (mplC, (65537, .inl mplf))), (mnu, .inl (mnuC, (65537, .inl mnuf))), (md, .inl (mdC, (6, .inl mdf))), (ml, .inl (mlC, (3, .inl mlf))), (mch, .inl (mchC, (4, .inl mchf)))] sz)) 0 0 (va_A [(m0, .inr (13, m0g)), (mt, .inl (mtC, (65536, .inl mtf))), (msr, .inl (msrC, (65537, .inl msrf))), (mpl, .inl (mplC, (65537, .inl mplf))), (mnu, .inl (mnuC, (65537, .inl mnuf))), (md, .inl (mdC, (6, .inl mdf))), (ml, .inl (mlC, (3, .inl mlf))), (mch, .inl (mchC, (4, .inl mchf)))] sz) := by
  refine Met.ofW (cc := cX13_skip) (maxL := 3) (ret := (some .int)) (by decide) rfl ?_
  intro p e s m args below meth c s₁ B hml hv
  obtain ⟨rfl, hsz, hP, hK, hD0, hth⟩ := hv
  have hx := B.exec
  have hb := B.bytes
  have hr := B.returns
  have hts : ∀ w ∈ BG, w.before _ s = true := fun w h => atoms_spec (ws := Cond.code yX13_skip cX13_skip 3 (some .int) :: BG) B.pre w (List.mem_cons_of_mem _ h)
  have hown : s.vm.findClass RX13 = some m.cls := findClass_of_methodNamed B.named
  have hlocks := B.notSynchronized
  subst hsz
  have hD := hD0.self (sz := s.heap.size)
  generalize hAe : va_A [(m0, .inr (13, m0g)), (mt, .inl (mtC, (65536, .inl mtf))), (msr, .inl (msrC, (65537, .inl msrf))), (mpl, .inl (mplC, (65537, .inl mplf))), (mnu, .inl (mnuC, (65537, .inl mnuf))), (md, .inl (mdC, (6, .inl mdf))), (ml, .inl (mlC, (3, .inl mlf))), (mch, .inl (mchC, (4, .inl mchf)))] s.heap.size = A at hD hth ⊢
  have hA : ∀ q : Nat, s.heap.size ≤ q → A q := fun q h => by rw [← hAe]; exact Or.inr h
  have hS : va_S A s.heap s.heap [] := va_S.rf
  have hl := lv_entry ([.ref m0, .int 0]) (n := 3) (Nat.le_of_ble_eq_true rfl)
  rw [lg_entry_eq]
  generalize (lg_sl ([.ref m0, .int 0]) ++ List.replicate (3 - (lg_sl ([.ref m0, .int 0])).length) Slot.unset).toArray = ls at hl ⊢
  have hl : lv_has ls 3 [(0, .ref m0), (1, .int 0)] := hl
  obtain ⟨H, eH⟩ : ∃ z, z = s.heap := ⟨_, rfl⟩
  have hP : va_P (dC, dI) CL [(m0, .inr (13, m0g)), (mt, .inl (mtC, (65536, .inl mtf))), (msr, .inl (msrC, (65537, .inl msrf))), (mpl, .inl (mplC, (65537, .inl mplf))), (mnu, .inl (mnuC, (65537, .inl mnuf))), (md, .inl (mdC, (6, .inl mdf))), (ml, .inl (mlC, (3, .inl mlf))), (mch, .inl (mchC, (4, .inl mchf)))] H := by rw [eH]; exact hP
  have hS : va_S A s.heap H [] := by rw [eH]; exact hS
  rw [← eH]
  refine lv_iload_n hx hb dX13_skip_0 rfl (lv_at hl 1 rfl) ?_
  refine lv_istore_n (lv' := [(2, .int 0), (0, .ref m0), (1, .int 0)]) hx hb dX13_skip_1 rfl hl (by decide) rfl (fun ls hl => ?_)
  refine lv_aload_n hx hb dX13_skip_2 rfl (lv_at hl 1 rfl) ?_
  refine lv_iload_n hx hb dX13_skip_3 rfl (lv_at hl 0 rfl) ?_
  have hFc := va_free (wc := [(m0, .inr (13, m0g)), (mt, .inl (mtC, (65536, .inl mtf))), (msr, .inl (msrC, (65537, .inl msrf))), (mpl, .inl (mplC, (65537, .inl mplf))), (mnu, .inl (mnuC, (65537, .inl mnuf))), (md, .inl (mdC, (6, .inl mdf))), (ml, .inl (mlC, (3, .inl mlf))), (mch, .inl (mchC, (4, .inl mchf)))]) hD hS hA [0, 1, 2, 3, 4, 5, 6, 7] rfl
  refine va_calli (va_runV (As := [.int 0]) (rest := []) ⟨hx, hb, hml, hown, hts⟩ (gx159_X13_byteAt l hlt dC dI _ m0 mt msr mpl mnu md ml mch m0g h_m0 mtC mtf h_mt msrC msrf h_msr mplC mplf h_mpl mnuC mnuf h_mnu mdC mdf h_md mlC mlf h_ml mchC mchf h_mch) (cwV 1 hts (gi_V wd_3739 wd_3741 wd_143 wd_340 wd_3742) rfl rfl rfl (by decide +kernel) ⟨(Nat.le_of_ble_eq_true rfl), (Nat.le_of_ble_eq_true rfl)⟩) ⟨fun a U g mk q => by obtain ⟨q0, q1, qP, qK, qD, qT⟩ := q; exact ⟨q0, q1, qP, va_K.moved (u := U) (U := U.calling g mk a) (Vm.Alike.refl U.vm) qK, qD, th.moved (u := U) (U := U.calling g mk a) (Vm.Alike.refl U.vm) qT⟩, va_recv hK hP (ci := 13) (q0 := 0) rfl rfl, fun U hU hW => ⟨rfl, by rw [hU], by rw [hU]; exact hP, va_K.moved hW.alike hK, hD.weaken (fun _ _ _ _ => trivial), by rw [hU]; exact ((hth.kept hS.2.1).narrow hFc).moved hW.alike⟩⟩ rfl rfl hl.1 rfl (lv_room (Nat.le_of_ble_eq_true rfl)) dX13_skip_4 ⟨(Nat.le_of_ble_eq_true rfl), (Nat.le_of_ble_eq_true rfl)⟩) hS (fun q _ h => hFc q h) hFc (fun r u t H1 locs ht hvm hw hB hz1 hk1 hS => ?_)
  subst hw
  obtain ⟨fs_1, f_2, f_3, f_4, f_5, f_6, f_7, f_8, h_m0, h_mt, h_msr, h_mpl, h_mnu, h_md, h_ml, h_mch, hP1, hK1, hD1⟩ := hB
  rw [ht] at hP1
  have hD := hD1.weaken (fun k q _ h => hFc q.1 h)
  have hP := hP1
  generalize H1 = H at hP hS ⊢
  have hP : va_P (dC, dI) CL [(m0, .inr (13, fs_1)), (mt, .inl (mtC, (65536, .inl f_2))), (msr, .inl (msrC, (65537, .inl f_3))), (mpl, .inl (mplC, (65537, .inl f_4))), (mnu, .inl (mnuC, (65537, .inl f_5))), (md, .inl (mdC, (6, .inl f_6))), (ml, .inl (mlC, (3, .inl f_7))), (mch, .inl (mchC, (4, .inl f_8)))] H := hP
  have hD : va_D A [(m0, .inr (13, fs_1)), (mt, .inl (mtC, (65536, .inl f_2))), (msr, .inl (msrC, (65537, .inl f_3))), (mpl, .inl (mplC, (65537, .inl f_4))), (mnu, .inl (mnuC, (65537, .inl f_5))), (md, .inl (mdC, (6, .inl f_6))), (ml, .inl (mlC, (3, .inl f_7))), (mch, .inl (mchC, (4, .inl f_8)))] := hD
  have hFc := va_free (wc := [(m0, .inr (13, fs_1)), (mt, .inl (mtC, (65536, .inl f_2))), (msr, .inl (msrC, (65537, .inl f_3))), (mpl, .inl (mplC, (65537, .inl f_4))), (mnu, .inl (mnuC, (65537, .inl f_5))), (md, .inl (mdC, (6, .inl f_6))), (ml, .inl (mlC, (3, .inl f_7))), (mch, .inl (mchC, (4, .inl f_8)))]) hD hS hA [0, 1, 2, 3, 4, 5, 6, 7] rfl
  refine va_calli (va_runS (As := [.int (-1)]) (rest := []) ⟨hx, hb, hml, hown, hts⟩ (gx160_X13_isBlank l hlt dC dI _ m0 mt msr mpl mnu md ml mch fs_1 h_m0 mtC f_2 h_mt msrC f_3 h_msr mplC f_4 h_mpl mnuC f_5 h_mnu mdC f_6 h_md mlC f_7 h_ml mchC f_8 h_mch) (cwS 1 hts (gi_S wd_3743 wd_3744 wd_340 wd_3745) rfl rfl rfl (by decide +kernel) ⟨(Nat.le_of_ble_eq_true rfl), (Nat.le_of_ble_eq_true rfl)⟩) ⟨fun a U g mk q => by obtain ⟨q0, q1, qP, qK, qD, qT⟩ := q; exact ⟨q0, q1, qP, va_K.moved (u := U) (U := U.calling g mk a) (Vm.Alike.refl U.vm) qK, qD, th.moved (u := U) (U := U.calling g mk a) (Vm.Alike.refl U.vm) qT⟩, fun U hU hW => ⟨rfl, by rw [hU], by rw [hU]; exact hP, va_K.moved hW.alike hK, hD.weaken (fun _ _ _ _ => trivial), by rw [hU]; exact ((hth.kept hS.2.1).narrow hFc).moved hW.alike⟩⟩ rfl rfl hl.1 rfl (lv_room (Nat.le_of_ble_eq_true rfl)) dX13_skip_7 ⟨(Nat.le_of_ble_eq_true rfl), (Nat.le_of_ble_eq_true rfl)⟩) hS (fun q _ h => hFc q h) hFc (fun r u t H1 locs ht hvm hw hB hz1 hk1 hS => ?_)
  subst hw
  obtain ⟨fs_9, f_10, f_11, f_12, f_13, f_14, f_15, f_16, h_m0, h_mt, h_msr, h_mpl, h_mnu, h_md, h_ml, h_mch, hP1, hK1, hD1⟩ := hB
  rw [ht] at hP1
  have hD := hD1.weaken (fun k q _ h => hFc q.1 h)
  have hP := hP1
  generalize H1 = H at hP hS ⊢
  have hP : va_P (dC, dI) CL [(m0, .inr (13, fs_9)), (mt, .inl (mtC, (65536, .inl f_10))), (msr, .inl (msrC, (65537, .inl f_11))), (mpl, .inl (mplC, (65537, .inl f_12))), (mnu, .inl (mnuC, (65537, .inl f_13))), (md, .inl (mdC, (6, .inl f_14))), (ml, .inl (mlC, (3, .inl f_15))), (mch, .inl (mchC, (4, .inl f_16)))] H := hP
  have hD : va_D A [(m0, .inr (13, fs_9)), (mt, .inl (mtC, (65536, .inl f_10))), (msr, .inl (msrC, (65537, .inl f_11))), (mpl, .inl (mplC, (65537, .inl f_12))), (mnu, .inl (mnuC, (65537, .inl f_13))), (md, .inl (mdC, (6, .inl f_14))), (ml, .inl (mlC, (3, .inl f_15))), (mch, .inl (mchC, (4, .inl f_16)))] := hD
  refine lv_if_ne (tgt := 23) hx hb dX13_skip_10 (by decide) (fun c9 => ?_) (fun c9 => ?_)
  · first | exact absurd c9 (by decide +kernel) | exact absurd (by decide +kernel) c9
  refine lv_aload_n hx hb dX13_skip_13 rfl (lv_at hl 1 rfl) ?_
  refine lv_iload_n hx hb dX13_skip_14 rfl (lv_at hl 0 rfl) ?_
  have hFc := va_free (wc := [(m0, .inr (13, fs_9)), (mt, .inl (mtC, (65536, .inl f_10))), (msr, .inl (msrC, (65537, .inl f_11))), (mpl, .inl (mplC, (65537, .inl f_12))), (mnu, .inl (mnuC, (65537, .inl f_13))), (md, .inl (mdC, (6, .inl f_14))), (ml, .inl (mlC, (3, .inl f_15))), (mch, .inl (mchC, (4, .inl f_16)))]) hD hS hA [0, 1, 2, 3, 4, 5, 6, 7] rfl
  refine va_calli (va_runV (As := [.int 0]) (rest := []) ⟨hx, hb, hml, hown, hts⟩ (gx159_X13_byteAt l hlt dC dI _ m0 mt msr mpl mnu md ml mch fs_9 h_m0 mtC f_10 h_mt msrC f_11 h_msr mplC f_12 h_mpl mnuC f_13 h_mnu mdC f_14 h_md mlC f_15 h_ml mchC f_16 h_mch) (cwV 1 hts (gi_V wd_3739 wd_3741 wd_143 wd_340 wd_3742) rfl rfl rfl (by decide +kernel) ⟨(Nat.le_of_ble_eq_true rfl), (Nat.le_of_ble_eq_true rfl)⟩) ⟨fun a U g mk q => by obtain ⟨q0, q1, qP, qK, qD, qT⟩ := q; exact ⟨q0, q1, qP, va_K.moved (u := U) (U := U.calling g mk a) (Vm.Alike.refl U.vm) qK, qD, th.moved (u := U) (U := U.calling g mk a) (Vm.Alike.refl U.vm) qT⟩, va_recv hK hP (ci := 13) (q0 := 0) rfl rfl, fun U hU hW => ⟨rfl, by rw [hU], by rw [hU]; exact hP, va_K.moved hW.alike hK, hD.weaken (fun _ _ _ _ => trivial), by rw [hU]; exact ((hth.kept hS.2.1).narrow hFc).moved hW.alike⟩⟩ rfl rfl hl.1 rfl (lv_room (Nat.le_of_ble_eq_true rfl)) dX13_skip_15 ⟨(Nat.le_of_ble_eq_true rfl), (Nat.le_of_ble_eq_true rfl)⟩) hS (fun q _ h => hFc q h) hFc (fun r u t H1 locs ht hvm hw hB hz1 hk1 hS => ?_)
  subst hw
  obtain ⟨fs_17, f_18, f_19, f_20, f_21, f_22, f_23, f_24, h_m0, h_mt, h_msr, h_mpl, h_mnu, h_md, h_ml, h_mch, hP1, hK1, hD1⟩ := hB
  rw [ht] at hP1
  have hD := hD1.weaken (fun k q _ h => hFc q.1 h)
  have hP := hP1
  generalize H1 = H at hP hS ⊢
  have hP : va_P (dC, dI) CL [(m0, .inr (13, fs_17)), (mt, .inl (mtC, (65536, .inl f_18))), (msr, .inl (msrC, (65537, .inl f_19))), (mpl, .inl (mplC, (65537, .inl f_20))), (mnu, .inl (mnuC, (65537, .inl f_21))), (md, .inl (mdC, (6, .inl f_22))), (ml, .inl (mlC, (3, .inl f_23))), (mch, .inl (mchC, (4, .inl f_24)))] H := hP
  have hD : va_D A [(m0, .inr (13, fs_17)), (mt, .inl (mtC, (65536, .inl f_18))), (msr, .inl (msrC, (65537, .inl f_19))), (mpl, .inl (mplC, (65537, .inl f_20))), (mnu, .inl (mnuC, (65537, .inl f_21))), (md, .inl (mdC, (6, .inl f_22))), (ml, .inl (mlC, (3, .inl f_23))), (mch, .inl (mchC, (4, .inl f_24)))] := hD
  refine lv_bipush (v := 35) hx hb dX13_skip_18 (by decide +kernel) ?_
  refine lv_icmp_ne (tgt := 63) hx hb dX13_skip_20 (by decide) (fun c9 => ?_) (fun c9 => ?_)
  rotate_left
  · first | exact absurd c9 (by decide +kernel) | exact absurd (by decide +kernel) c9
  refine lv_iload_n hx hb dX13_skip_63 rfl (lv_at hl 0 rfl) ?_
  exact W.iret (v := 0) hx hb hr (fun t ht hW => ⟨⟨0, (), rfl, rfl, fs_17, f_18, f_19, f_20, f_21, f_22, f_23, f_24, h_m0, h_mt, h_msr, h_mpl, h_mnu, h_md, h_ml, h_mch, by rw [ht]; exact hP, va_K.moved hW.alike hK, hD⟩, hS.F ht⟩) hS.2.2 dX13_skip_64
