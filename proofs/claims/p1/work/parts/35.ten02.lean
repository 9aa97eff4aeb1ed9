set_option maxHeartbeats 4000000 in
set_option maxRecDepth 100000 in
theorem gx83_X13_isOne (l : Launch) (hlt : l.stackTraces = false) (dC : Nat → ClassId) (dI : Nat → Nat → Nat) (sz : Nat) (m0 md ml mch : Nat) (m0g : List Value) (h_m0 : fx m0g 225 [(0, .int 0), (2, .int 0), (3, .int 0), (9, .int 0), (10, .int 0), (11, .int 0), (12, .int 0), (27, .int 0), (55, .ref md), (79, .int 0), (83, .int 0), (88, .ref ml), (95, .int 0), (138, .ref mch)]) (mdC : ClassId) : Met l yX13_isOne (Cond.code yX13_isOne cX13_isOne 3 (some .boolean) :: BG) ({ frames := 2, cells := 0, slots := 0, locals := 33 }) (va_Pc [.ref m0, .int 0, .int 1] (fun U => U.heap.size = sz ∧ va_P (dC, dI) CL [(m0, .inr (13, m0g)), (md, .inl (mdC, (6, .inl (fun _ => 0))))] U.heap ∧ va_K (dC, dI) CL [(mdC, .boolean)] U ∧ va_D (fun _ => True) [(m0, .inr (13, m0g)), (md, .inl (mdC, (6, .inl (fun _ => 0))))] ∧ th (va_A [(m0, .inr (13, m0g)), (md, .inl (mdC, (6, .inl (fun _ => 0))))] sz) U U.heap)) (va_Qi (fun (r : Int32) (_ : Unit) => r = 0) (fun _ t => ∃ (m0y : List Value), fx m0y 225 [(0, .int 0), (2, .int 0), (3, .int 0), (9, .int 0), (10, .int 0), (11, .int 0), (12, .int 0), (27, .int 0), (55, .ref md), (79, .int 0), (83, .int 0), (88, .ref ml), (95, .int 0), (138, .ref mch)] ∧ va_P (dC, dI) CL [(m0, .inr (13, m0y)), (md, .inl (mdC, (6, .inl (fun _ => 0))))] t.heap ∧ va_K (dC, dI) CL [(mdC, .boolean)] t ∧ va_D (va_A [(m0, .inr (13, m0g)), (md, .inl (mdC, (6, .inl (fun _ => 0))))] sz) [(m0, .inr (13, m0y)), (md, .inl (mdC, (6, .inl (fun _ => 0))))]) (va_A [(m0, .inr (13, m0g)), (md, .inl (mdC, (6, .inl (fun _ => 0))))] sz)) 0 0 (va_A [(m0, .inr (13, m0g)), (md, .inl (mdC, (6, .inl (fun _ => 0))))] sz) := by
  refine Met.ofW (cc := cX13_isOne) (maxL := 3) (ret := (some .boolean)) (by decide) rfl ?_
  intro p e s m args below meth c s₁ B hml hv
  obtain ⟨rfl, hsz, hP, hK, hD0, hth⟩ := hv
  have hx := B.exec
  have hb := B.bytes
  have hr := B.returns
  have hts : ∀ w ∈ BG, w.before _ s = true := fun w h => atoms_spec (ws := Cond.code yX13_isOne cX13_isOne 3 (some .boolean) :: BG) B.pre w (List.mem_cons_of_mem _ h)
  have hown : s.vm.findClass RX13 = some m.cls := findClass_of_methodNamed B.named
  have hlocks := B.notSynchronized
  subst hsz
  have hD := hD0.self (sz := s.heap.size)
  generalize hAe : va_A [(m0, .inr (13, m0g)), (md, .inl (mdC, (6, .inl (fun _ => 0))))] s.heap.size = A at hD hth ⊢
  have hA : ∀ q : Nat, s.heap.size ≤ q → A q := fun q h => by rw [← hAe]; exact Or.inr h
  have hS : va_S A s.heap s.heap [] := va_S.rf
  have hl := lv_entry ([.ref m0, .int 0, .int 1]) (n := 3) (Nat.le_of_ble_eq_true rfl)
  rw [lg_entry_eq]
  generalize (lg_sl ([.ref m0, .int 0, .int 1]) ++ List.replicate (3 - (lg_sl ([.ref m0, .int 0, .int 1])).length) Slot.unset).toArray = ls at hl ⊢
  have hl : lv_has ls 3 [(0, .ref m0), (1, .int 0), (2, .int 1)] := hl
  obtain ⟨H, eH⟩ : ∃ z, z = s.heap := ⟨_, rfl⟩
  have hP : va_P (dC, dI) CL [(m0, .inr (13, m0g)), (md, .inl (mdC, (6, .inl (fun _ => 0))))] H := by rw [eH]; exact hP
  have hS : va_S A s.heap H [] := by rw [eH]; exact hS
  rw [← eH]
  refine lv_iload_n hx hb dX13_isOne_0 rfl (lv_at hl 1 rfl) ?_
  refine lv_if_ne (tgt := 12) hx hb dX13_isOne_1 (by decide) (fun c9 => ?_) (fun c9 => ?_)
  · first | exact absurd c9 (by decide +kernel) | exact absurd (by decide +kernel) c9
  refine lv_aload_n hx hb dX13_isOne_4 rfl (lv_at hl 0 rfl) ?_
  refine lv_iload_n hx hb dX13_isOne_5 rfl (lv_at hl 2 rfl) ?_
  have hFc := va_free (wc := [(m0, .inr (13, m0g)), (md, .inl (mdC, (6, .inl (fun _ => 0))))]) hD hS hA [0, 1] rfl
  refine va_calli (va_runV (As := [.int 1]) (rest := []) ⟨hx, hb, hml, hown, hts⟩ (ct_X13_isDesign l dC dI _ 1 m0 m0g md mdC (h_m0.sub [8] rfl)) (cwV 1 hts (gi_V wd_4076 wd_4078 wd_215 wd_340 wd_4079) rfl rfl rfl (by decide +kernel) ⟨(Nat.le_of_ble_eq_true rfl), (Nat.le_of_ble_eq_true rfl)⟩) ⟨fun a U g mk q => by obtain ⟨q0, q1, qP, qK, qD⟩ := q; exact ⟨q0, q1, qP, va_K.moved (u := U) (U := U.calling g mk a) (Vm.Alike.refl U.vm) qK, qD⟩, va_recv hK hP (ci := 13) (q0 := 0) rfl rfl, fun U hU hW => ⟨rfl, by rw [hU], by rw [hU]; exact hP, va_K.moved hW.alike hK, hD.weaken (fun _ _ _ _ => trivial)⟩⟩ rfl rfl hl.1 rfl (lv_room (Nat.le_of_ble_eq_true rfl)) dX13_isOne_6 ⟨(Nat.le_of_ble_eq_true rfl), (Nat.le_of_ble_eq_true rfl)⟩) hS (fun q _ h => hFc q h) hFc (fun r u t H1 locs ht hvm hw hB hz1 hk1 hS => ?_)
  subst hw
  obtain ⟨hP1, hK1, hD1⟩ := hB
  rw [ht] at hP1
  have hD := hD1.weaken (fun k q _ h => hFc q.1 h)
  have hP := hP1
  generalize H1 = H at hP hS ⊢
  have hP : va_P (dC, dI) CL [(m0, .inr (13, m0g)), (md, .inl (mdC, (6, .inl (fun _ => 0))))] H := hP
  have hD : va_D A [(m0, .inr (13, m0g)), (md, .inl (mdC, (6, .inl (fun _ => 0))))] := hD
  refine lv_goto (tgt := 30) hx hb dX13_isOne_9 (by decide) ?_
  exact W.zret (v := 0) hx hb hr rfl (fun t ht hW => ⟨⟨0, (), rfl, rfl, m0g, h_m0, by rw [ht]; exact hP, va_K.moved hW.alike hK, hD⟩, hS.F ht⟩) hS.2.2 dX13_isOne_30
set_option maxHeartbeats 4000000 in
set_option maxRecDepth 100000 in
theorem gx82_X13_isThere (l : Launch) (hlt : l.stackTraces = false) (dC : Nat → ClassId) (dI : Nat → Nat → Nat) (sz : Nat) (m0 md ml mch : Nat) (m0g : List Value) (h_m0 : fx m0g 225 [(0, .int 0), (2, .int 0), (3, .int 0), (9, .int 0), (10, .int 0), (11, .int 0), (12, .int 0), (27, .int 0), (55, .ref md), (79, .int 0), (83, .int 0), (88, .ref ml), (95, .int 0), (138, .ref mch)]) (mdC : ClassId) : Met l yX13_isThere (Cond.code yX13_isThere cX13_isThere 3 (some .boolean) :: BG) ({ frames := 3, cells := 0, slots := 0, locals := 55 }) (va_Pc [.ref m0, .int 0, .int 1] (fun U => U.heap.size = sz ∧ va_P (dC, dI) CL [(m0, .inr (13, m0g)), (md, .inl (mdC, (6, .inl (fun _ => 0))))] U.heap ∧ va_K (dC, dI) CL [(mdC, .boolean)] U ∧ va_D (fun _ => True) [(m0, .inr (13, m0g)), (md, .inl (mdC, (6, .inl (fun _ => 0))))] ∧ th (va_A [(m0, .inr (13, m0g)), (md, .inl (mdC, (6, .inl (fun _ => 0))))] sz) U U.heap)) (va_Qi (fun (r : Int32) (_ : Unit) => r = 0) (fun _ t => ∃ (m0y : List Value), fx m0y 225 [(0, .int 0), (2, .int 0), (3, .int 0), (9, .int 0), (10, .int 0), (11, .int 0), (12, .int 0), (27, .int 0), (55, .ref md), (79, .int 0), (83, .int 0), (88, .ref ml), (95, .int 0), (138, .ref mch)] ∧ va_P (dC, dI) CL [(m0, .inr (13, m0y)), (md, .inl (mdC, (6, .inl (fun _ => 0))))] t.heap ∧ va_K (dC, dI) CL [(mdC, .boolean)] t ∧ va_D (va_A [(m0, .inr (13, m0g)), (md, .inl (mdC, (6, .inl (fun _ => 0))))] sz) [(m0, .inr (13, m0y)), (md, .inl (mdC, (6, .inl (fun _ => 0))))]) (va_A [(m0, .inr (13, m0g)), (md, .inl (mdC, (6, .inl (fun _ => 0))))] sz)) 0 0 (va_A [(m0, .inr (13, m0g)), (md, .inl (mdC, (6, .inl (fun _ => 0))))] sz) := by
  refine Met.ofW (cc := cX13_isThere) (maxL := 3) (ret := (some .boolean)) (by decide) rfl ?_
  intro p e s m args below meth c s₁ B hml hv
  obtain ⟨rfl, hsz, hP, hK, hD0, hth⟩ := hv
  have hx := B.exec
  have hb := B.bytes
  have hr := B.returns
  have hts : ∀ w ∈ BG, w.before _ s = true := fun w h => atoms_spec (ws := Cond.code yX13_isThere cX13_isThere 3 (some .boolean) :: BG) B.pre w (List.mem_cons_of_mem _ h)
  have hown : s.vm.findClass RX13 = some m.cls := findClass_of_methodNamed B.named
  have hlocks := B.notSynchronized
  subst hsz
  have hD := hD0.self (sz := s.heap.size)
  generalize hAe : va_A [(m0, .inr (13, m0g)), (md, .inl (mdC, (6, .inl (fun _ => 0))))] s.heap.size = A at hD hth ⊢
  have hA : ∀ q : Nat, s.heap.size ≤ q → A q := fun q h => by rw [← hAe]; exact Or.inr h
  have hS : va_S A s.heap s.heap [] := va_S.rf
  have hl := lv_entry ([.ref m0, .int 0, .int 1]) (n := 3) (Nat.le_of_ble_eq_true rfl)
  rw [lg_entry_eq]
  generalize (lg_sl ([.ref m0, .int 0, .int 1]) ++ List.replicate (3 - (lg_sl ([.ref m0, .int 0, .int 1])).length) Slot.unset).toArray = ls at hl ⊢
  have hl : lv_has ls 3 [(0, .ref m0), (1, .int 0), (2, .int 1)] := hl
  obtain ⟨H, eH⟩ : ∃ z, z = s.heap := ⟨_, rfl⟩
  have hP : va_P (dC, dI) CL [(m0, .inr (13, m0g)), (md, .inl (mdC, (6, .inl (fun _ => 0))))] H := by rw [eH]; exact hP
  have hS : va_S A s.heap H [] := by rw [eH]; exact hS
  rw [← eH]
  refine lv_aload_n hx hb dX13_isThere_0 rfl (lv_at hl 0 rfl) ?_
  refine lv_iload_n hx hb dX13_isThere_1 rfl (lv_at hl 1 rfl) ?_
  refine lv_iconst (v := 0) hx hb dX13_isThere_2 (by decide +kernel) ?_
  refine lv_iconst (v := 2) hx hb dX13_isThere_3 (by decide +kernel) ?_
  have hFc := va_free (wc := [(m0, .inr (13, m0g)), (md, .inl (mdC, (6, .inl (fun _ => 0))))]) hD hS hA [0, 1] rfl
  refine va_calli (va_runS (As := [.int 0, .int 0, .int 2]) (rest := [.ref m0]) ⟨hx, hb, hml, hown, hts⟩ (gx48_X13_within l hlt dC dI _ m0 md ml mch m0g h_m0 mdC) (cwS 3 hts (gi_S wd_3825 wd_3826 wd_340 wd_3827) rfl rfl rfl (by decide +kernel) ⟨(Nat.le_of_ble_eq_true rfl), (Nat.le_of_ble_eq_true rfl)⟩) ⟨fun a U g mk q => by obtain ⟨q0, q1, qP, qK, qD, qT⟩ := q; exact ⟨q0, q1, qP, va_K.moved (u := U) (U := U.calling g mk a) (Vm.Alike.refl U.vm) qK, qD, th.moved (u := U) (U := U.calling g mk a) (Vm.Alike.refl U.vm) qT⟩, fun U hU hW => ⟨rfl, by rw [hU], by rw [hU]; exact hP, va_K.moved hW.alike hK, hD.weaken (fun _ _ _ _ => trivial), by rw [hU]; exact ((hth.kept hS.2.1).narrow hFc).moved hW.alike⟩⟩ rfl rfl hl.1 rfl (lv_room (Nat.le_of_ble_eq_true rfl)) dX13_isThere_4 ⟨(Nat.le_of_ble_eq_true rfl), (Nat.le_of_ble_eq_true rfl)⟩) hS (fun q _ h => hFc q h) hFc (fun r u t H1 locs ht hvm hw hB hz1 hk1 hS => ?_)
  subst hw
  obtain ⟨fs_1, h_m0, hP1, hK1, hD1⟩ := hB
  rw [ht] at hP1
  have hD := hD1.weaken (fun k q _ h => hFc q.1 h)
  have hP := hP1
  generalize H1 = H at hP hS ⊢
  have hP : va_P (dC, dI) CL [(m0, .inr (13, fs_1)), (md, .inl (mdC, (6, .inl (fun _ => 0))))] H := hP
  have hD : va_D A [(m0, .inr (13, fs_1)), (md, .inl (mdC, (6, .inl (fun _ => 0))))] := hD
  refine lv_if_eq (tgt := 14) hx hb dX13_isThere_7 (by decide) (fun c9 => ?_) (fun c9 => ?_)
  · first | exact absurd c9 (by decide +kernel) | exact absurd (by decide +kernel) c9
  refine lv_iconst (v := 0) hx hb dX13_isThere_10 (by decide +kernel) ?_
  refine lv_goto (tgt := 15) hx hb dX13_isThere_11 (by decide) ?_
  refine va_put (D := (dC, dI)) (ci := 13) (v := .int 0) (ty := tyX13 0) (C := RX13) (T := TX13) (N := 225) hx hb hts inX13 tyX13 tyX13_ok nmX13 hown hK hP hD hS 0 rfl rfl 0 (by decide) (hts (.fieldLink RX13 1 "ChipFlowModel" "code" "I") wd_3032) (fun _ h9 => h9) rfl (by decide +kernel) rfl rfl (by rw [h_m0.1]; decide) dX13_isThere_15 (fun H locs hP hD hS => ?_)
  obtain ⟨fs_2, e9⟩ : ∃ z, z = fs_1.set 0 (.int 0) := ⟨_, rfl⟩
  have h_m0 : fx fs_2 225 [(0, .int 0), (2, .int 0), (3, .int 0), (9, .int 0), (10, .int 0), (11, .int 0), (12, .int 0), (27, .int 0), (55, .ref md), (79, .int 0), (83, .int 0), (88, .ref ml), (95, .int 0), (138, .ref mch)] := by rw [e9]; exact (h_m0.put (F' := [(0, .int 0), (2, .int 0), (3, .int 0), (9, .int 0), (10, .int 0), (11, .int 0), (12, .int 0), (27, .int 0), (55, .ref md), (79, .int 0), (83, .int 0), (88, .ref ml), (95, .int 0), (138, .ref mch)]) (by decide) _ rfl).sub [0, 1, 2, 3, 4, 5, 6, 7, 8, 9, 10, 11, 12, 13] rfl
  have hP : va_P (dC, dI) CL [(m0, .inr (13, fs_2)), (md, .inl (mdC, (6, .inl (fun _ => 0))))] H := by rw [e9]; exact hP
  have hD : va_D A [(m0, .inr (13, fs_2)), (md, .inl (mdC, (6, .inl (fun _ => 0))))] := by rw [e9]; exact hD
  clear e9
  refine lv_aload_n hx hb dX13_isThere_18 rfl (lv_at hl 0 rfl) ?_
  refine va_get (D := (dC, dI)) (ci := 13) (v := .int 0) (C := RX13) (T := TX13) (N := 225) hx hb hts inX13 hown hK hP 0 rfl rfl 0 (by decide) (hts (.fieldLink RX13 1 "ChipFlowModel" "code" "I") wd_3032) (fun _ h9 => h9) (h_m0.get 0 rfl) dX13_isThere_19 ?_
  refine lv_if_ne (tgt := 38) hx hb dX13_isThere_22 (by decide) (fun c9 => ?_) (fun c9 => ?_)
  · first | exact absurd c9 (by decide +kernel) | exact absurd (by decide +kernel) c9
  refine lv_aload_n hx hb dX13_isThere_25 rfl (lv_at hl 0 rfl) ?_
  refine lv_iload_n hx hb dX13_isThere_26 rfl (lv_at hl 1 rfl) ?_
  refine lv_iload_n hx hb dX13_isThere_27 rfl (lv_at hl 2 rfl) ?_
  have hFc := va_free (wc := [(m0, .inr (13, fs_2)), (md, .inl (mdC, (6, .inl (fun _ => 0))))]) hD hS hA [0, 1] rfl
  refine va_calli (va_runV (As := [.int 0, .int 1]) (rest := []) ⟨hx, hb, hml, hown, hts⟩ (gx83_X13_isOne l hlt dC dI _ m0 md ml mch fs_2 h_m0 mdC) (cwV 2 hts (gi_V wd_4072 wd_4074 wd_214 wd_340 wd_4075) rfl rfl rfl (by decide +kernel) ⟨(Nat.le_of_ble_eq_true rfl), (Nat.le_of_ble_eq_true rfl)⟩) ⟨fun a U g mk q => by obtain ⟨q0, q1, qP, qK, qD, qT⟩ := q; exact ⟨q0, q1, qP, va_K.moved (u := U) (U := U.calling g mk a) (Vm.Alike.refl U.vm) qK, qD, th.moved (u := U) (U := U.calling g mk a) (Vm.Alike.refl U.vm) qT⟩, va_recv hK hP (ci := 13) (q0 := 0) rfl rfl, fun U hU hW => ⟨rfl, by rw [hU], by rw [hU]; exact hP, va_K.moved hW.alike hK, hD.weaken (fun _ _ _ _ => trivial), by rw [hU]; exact ((hth.kept hS.2.1).narrow hFc).moved hW.alike⟩⟩ rfl rfl hl.1 rfl (lv_room (Nat.le_of_ble_eq_true rfl)) dX13_isThere_28 ⟨(Nat.le_of_ble_eq_true rfl), (Nat.le_of_ble_eq_true rfl)⟩) hS (fun q _ h => hFc q h) hFc (fun r u t H1 locs ht hvm hw hB hz1 hk1 hS => ?_)
  subst hw
  obtain ⟨fs_3, h_m0, hP1, hK1, hD1⟩ := hB
  rw [ht] at hP1
  have hD := hD1.weaken (fun k q _ h => hFc q.1 h)
  have hP := hP1
  generalize H1 = H at hP hS ⊢
  have hP : va_P (dC, dI) CL [(m0, .inr (13, fs_3)), (md, .inl (mdC, (6, .inl (fun _ => 0))))] H := hP
  have hD : va_D A [(m0, .inr (13, fs_3)), (md, .inl (mdC, (6, .inl (fun _ => 0))))] := hD
  refine lv_if_eq (tgt := 38) hx hb dX13_isThere_31 (by decide) (fun c9 => ?_) (fun c9 => ?_)
  rotate_left
  · first | exact absurd c9 (by decide +kernel) | exact absurd (by decide +kernel) c9
  refine lv_iconst (v := 0) hx hb dX13_isThere_38 (by decide +kernel) ?_
  exact W.zret (v := 0) hx hb hr rfl (fun t ht hW => ⟨⟨0, (), rfl, rfl, fs_3, h_m0, by rw [ht]; exact hP, va_K.moved hW.alike hK, hD⟩, hS.F ht⟩) hS.2.2 dX13_isThere_39
set_option maxHeartbeats 4000000 in
set_option maxRecDepth 100000 in
theorem gx85_X12_isThere (l : Launch) (hlt : l.stackTraces = false) (dC : Nat → ClassId) (dI : Nat → Nat → Nat) (sz : Nat) (x deA de0 de1 de2 de3 de4 de5 oA liA chA : Nat) (xg : List Value) (h_x : fx xg 17 [(7, .ref deA), (8, .ref liA), (9, .ref chA)]) (deAC : ClassId) (deAF : Nat → Option Nat) (de0g : List Value) (h_de0 : fx de0g 16 [(0, .int 0)]) (de1g : List Value) (h_de1 : fx de1g 16 [(0, .int 0)]) (de2g : List Value) (h_de2 : fx de2g 16 [(0, .int 0)]) (de3g : List Value) (h_de3 : fx de3g 16 [(0, .int 0)]) (de4g : List Value) (h_de4 : fx de4g 16 [(0, .int 0)]) (de5g : List Value) (h_de5 : fx de5g 16 [(0, .int 0)]) (oAC : ClassId) (oAf : Nat → Int64) (h_oA : fa oAf []) (h_deA0 : deAF 0 = some de0) (h_deA1 : deAF 1 = some de1) (h_deA2 : deAF 2 = some de2) (h_deA3 : deAF 3 = some de3) (h_deA4 : deAF 4 = some de4) (h_deA5 : deAF 5 = some de5) : Met l yX12_isThere (Cond.code yX12_isThere cX12_isThere 3 (some .boolean) :: BG) ({ frames := 7, cells := 1, slots := 6, locals := 130 }) (va_Pc [.ref x, .int 0, .int 2] (fun U => U.heap.size = sz ∧ va_P (dC, dI) CL [(x, .inr (12, xg)), (deA, .inl (deAC, (6, .inr (.inr (.inr (.inr deAF)))))), (de0, .inr (3, de0g)), (de1, .inr (3, de1g)), (de2, .inr (3, de2g)), (de3, .inr (3, de3g)), (de4, .inr (3, de4g)), (de5, .inr (3, de5g)), (oA, .inl (oAC, (1, .inr (.inl oAf))))] U.heap ∧ va_K (dC, dI) CL [(deAC, .object "ChipFlow$Design"), (oAC, .long)] U ∧ va_D (fun _ => True) [(x, .inr (12, xg)), (deA, .inl (deAC, (6, .inr (.inr (.inr (.inr deAF)))))), (de0, .inr (3, de0g)), (de1, .inr (3, de1g)), (de2, .inr (3, de2g)), (de3, .inr (3, de3g)), (de4, .inr (3, de4g)), (de5, .inr (3, de5g)), (oA, .inl (oAC, (1, .inr (.inl oAf))))] ∧ th (va_A [(x, .inr (12, xg)), (deA, .inl (deAC, (6, .inr (.inr (.inr (.inr deAF)))))), (de0, .inr (3, de0g)), (de1, .inr (3, de1g)), (de2, .inr (3, de2g)), (de3, .inr (3, de3g)), (de4, .inr (3, de4g)), (de5, .inr (3, de5g)), (oA, .inl (oAC, (1, .inr (.inl oAf))))] sz) U U.heap)) (va_Qi (fun (r : Int32) (_ : Unit) => r = 0) (fun _ t => ∃ (xy : List Value) (de0y : List Value) (de1y : List Value) (de2y : List Value) (de3y : List Value) (de4y : List Value) (de5y : List Value) (oAy : Nat → Int64), fx xy 17 [(7, .ref deA), (8, .ref liA), (9, .ref chA)] ∧ fx de0y 16 [(0, .int 0)] ∧ fx de1y 16 [(0, .int 0)] ∧ fx de2y 16 [(0, .int 0)] ∧ fx de3y 16 [(0, .int 0)] ∧ fx de4y 16 [(0, .int 0)] ∧ fx de5y 16 [(0, .int 0)] ∧ fa oAy [] ∧ va_P (dC, dI) CL [(x, .inr (12, xy)), (deA, .inl (deAC, (6, .inr (.inr (.inr (.inr deAF)))))), (de0, .inr (3, de0y)), (de1, .inr (3, de1y)), (de2, .inr (3, de2y)), (de3, .inr (3, de3y)), (de4, .inr (3, de4y)), (de5, .inr (3, de5y)), (oA, .inl (oAC, (1, .inr (.inl oAy))))] t.heap ∧ va_K (dC, dI) CL [(deAC, .object "ChipFlow$Design"), (oAC, .long)] t ∧ va_D (va_A [(x, .inr (12, xg)), (deA, .inl (deAC, (6, .inr (.inr (.inr (.inr deAF)))))), (de0, .inr (3, de0g)), (de1, .inr (3, de1g)), (de2, .inr (3, de2g)), (de3, .inr (3, de3g)), (de4, .inr (3, de4g)), (de5, .inr (3, de5g)), (oA, .inl (oAC, (1, .inr (.inl oAf))))] sz) [(x, .inr (12, xy)), (deA, .inl (deAC, (6, .inr (.inr (.inr (.inr deAF)))))), (de0, .inr (3, de0y)), (de1, .inr (3, de1y)), (de2, .inr (3, de2y)), (de3, .inr (3, de3y)), (de4, .inr (3, de4y)), (de5, .inr (3, de5y)), (oA, .inl (oAC, (1, .inr (.inl oAy))))]) (va_A [(x, .inr (12, xg)), (deA, .inl (deAC, (6, .inr (.inr (.inr (.inr deAF)))))), (de0, .inr (3, de0g)), (de1, .inr (3, de1g)), (de2, .inr (3, de2g)), (de3, .inr (3, de3g)), (de4, .inr (3, de4g)), (de5, .inr (3, de5g)), (oA, .inl (oAC, (1, .inr (.inl oAf))))] sz)) 1 6 (va_A [(x, .inr (12, xg)), (deA, .inl (deAC, (6, .inr (.inr (.inr (.inr deAF)))))), (de0, .inr (3, de0g)), (de1, .inr (3, de1g)), (de2, .inr (3, de2g)), (de3, .inr (3, de3g)), (de4, .inr (3, de4g)), (de5, .inr (3, de5g)), (oA, .inl (oAC, (1, .inr (.inl oAf))))] sz) := by
  refine Met.ofW (cc := cX12_isThere) (maxL := 3) (ret := (some .boolean)) (by decide) rfl ?_
  intro p e s m args below meth c s₁ B hml hv
  obtain ⟨rfl, hsz, hP, hK, hD0, hth⟩ := hv
  have hx := B.exec
  have hb := B.bytes
  have hr := B.returns
  have hts : ∀ w ∈ BG, w.before _ s = true := fun w h => atoms_spec (ws := Cond.code yX12_isThere cX12_isThere 3 (some .boolean) :: BG) B.pre w (List.mem_cons_of_mem _ h)
  have hown : s.vm.findClass RX12 = some m.cls := findClass_of_methodNamed B.named
  have hlocks := B.notSynchronized
  subst hsz
  have hD := hD0.self (sz := s.heap.size)
  generalize hAe : va_A [(x, .inr (12, xg)), (deA, .inl (deAC, (6, .inr (.inr (.inr (.inr deAF)))))), (de0, .inr (3, de0g)), (de1, .inr (3, de1g)), (de2, .inr (3, de2g)), (de3, .inr (3, de3g)), (de4, .inr (3, de4g)), (de5, .inr (3, de5g)), (oA, .inl (oAC, (1, .inr (.inl oAf))))] s.heap.size = A at hD hth ⊢
  have hA : ∀ q : Nat, s.heap.size ≤ q → A q := fun q h => by rw [← hAe]; exact Or.inr h
  have hS : va_S A s.heap s.heap [] := va_S.rf
  have hl := lv_entry ([.ref x, .int 0, .int 2]) (n := 3) (Nat.le_of_ble_eq_true rfl)
  rw [lg_entry_eq]
  generalize (lg_sl ([.ref x, .int 0, .int 2]) ++ List.replicate (3 - (lg_sl ([.ref x, .int 0, .int 2])).length) Slot.unset).toArray = ls at hl ⊢
  have hl : lv_has ls 3 [(0, .ref x), (1, .int 0), (2, .int 2)] := hl
  obtain ⟨H, eH⟩ : ∃ z, z = s.heap := ⟨_, rfl⟩
  have hP : va_P (dC, dI) CL [(x, .inr (12, xg)), (deA, .inl (deAC, (6, .inr (.inr (.inr (.inr deAF)))))), (de0, .inr (3, de0g)), (de1, .inr (3, de1g)), (de2, .inr (3, de2g)), (de3, .inr (3, de3g)), (de4, .inr (3, de4g)), (de5, .inr (3, de5g)), (oA, .inl (oAC, (1, .inr (.inl oAf))))] H := by rw [eH]; exact hP
  have hS : va_S A s.heap H [] := by rw [eH]; exact hS
  rw [← eH]
  refine lv_iload_n hx hb dX12_isThere_0 rfl (lv_at hl 1 rfl) ?_
  refine lv_if_lt (tgt := 13) hx hb dX12_isThere_1 (by decide) (fun c9 => ?_) (fun c9 => ?_)
  · first | exact absurd c9 (by decide +kernel) | exact absurd (by decide +kernel) c9
  refine lv_iload_n hx hb dX12_isThere_4 rfl (lv_at hl 1 rfl) ?_
  refine lv_iconst (v := 2) hx hb dX12_isThere_5 (by decide +kernel) ?_
  refine lv_icmp_gt (tgt := 13) hx hb dX12_isThere_6 (by decide) (fun c9 => ?_) (fun c9 => ?_)
  · first | exact absurd c9 (by decide +kernel) | exact absurd (by decide +kernel) c9
  refine lv_iconst (v := 1) hx hb dX12_isThere_9 (by decide +kernel) ?_
  refine lv_goto (tgt := 14) hx hb dX12_isThere_10 (by decide) ?_
  have hF0 : ∀ q, va_A [] H.size q → A q := fun q h => h.elim (fun ⟨k9, e9, h9⟩ => by simp at h9) (fun h9 => hA q (Nat.le_trans hS.1 h9))
  refine vx_callv (vx_runS (As := [.int 1]) (rest := []) ⟨hx, hb, hml, hown, hts⟩ (ct_X12_needRange l hlt H.size 1) (cwS 1 hts (gi_S wd_1328 wd_1329 wd_327 wd_1330) rfl rfl rfl (by decide +kernel) ⟨(Nat.le_of_ble_eq_true rfl), (Nat.le_of_ble_eq_true rfl)⟩) ⟨fun a U g mk q => ⟨q.1, q.2.1, th.moved (u := U) (U := U.calling g mk a) (Vm.Alike.refl U.vm) q.2.2⟩, fun U hU hW => ⟨rfl, by rw [hU], by rw [hU]; exact ((hth.kept hS.2.1).narrow hF0).moved hW.alike⟩⟩ rfl rfl hl.1 rfl (lv_room (Nat.le_of_ble_eq_true rfl)) dX12_isThere_14 ⟨(Nat.le_of_ble_eq_true rfl), (Nat.le_of_ble_eq_true rfl)⟩) hS (fun q _ h => hF0 q h) hF0 (fun q _ h => hF0 q h) (fun E ce q9 u t H1 locs ht hvm hp hB hz hk hS hce hcv hcl => absurd hp (by decide +kernel)) (fun u t H1 locs ht hvm hp hB hz hk hS => ?_)
  have hP : va_P (dC, dI) CL [(x, .inr (12, xg)), (deA, .inl (deAC, (6, .inr (.inr (.inr (.inr deAF)))))), (de0, .inr (3, de0g)), (de1, .inr (3, de1g)), (de2, .inr (3, de2g)), (de3, .inr (3, de3g)), (de4, .inr (3, de4g)), (de5, .inr (3, de5g)), (oA, .inl (oAC, (1, .inr (.inl oAf))))] H1 := hP.kept (fun k q h9 => hk _ (vx_lt hP h9) (fun h8 => h8.elim (fun ⟨k9, e9, h7⟩ => by simp at h7) (fun h7 => absurd (vx_lt hP h9) (Nat.not_lt.mpr h7))))
  generalize H1 = H at hP hS ⊢
  refine W.widen (k := 1) (n := 6) (Nat.le_of_ble_eq_true rfl) (Nat.le_of_ble_eq_true rfl) ?_
  refine lv_iload_n hx hb dX12_isThere_17 rfl (lv_at hl 1 rfl) ?_
  refine lv_if_ne (tgt := 49) hx hb dX12_isThere_18 (by decide) (fun c9 => ?_) (fun c9 => ?_)
  · first | exact absurd c9 (by decide +kernel) | exact absurd (by decide +kernel) c9
  refine lv_iload_n hx hb dX12_isThere_21 rfl (lv_at hl 2 rfl) ?_
  refine lv_if_lt (tgt := 47) hx hb dX12_isThere_22 (by decide) (fun c9 => ?_) (fun c9 => ?_)
  · first | exact absurd c9 (by decide +kernel) | exact absurd (by decide +kernel) c9
  refine lv_iload_n hx hb dX12_isThere_25 rfl (lv_at hl 2 rfl) ?_
  refine lv_bipush (v := 6) hx hb dX12_isThere_26 (by decide +kernel) ?_
  refine lv_icmp_ge (tgt := 47) hx hb dX12_isThere_28 (by decide) (fun c9 => ?_) (fun c9 => ?_)
  · first | exact absurd c9 (by decide +kernel) | exact absurd (by decide +kernel) c9
  refine lv_aload_n hx hb dX12_isThere_31 rfl (lv_at hl 0 rfl) ?_
  refine va_get (D := (dC, dI)) (ci := 12) (v := .ref deA) (C := RX12) (T := TX12) (N := 17) hx hb hts inX12 hown hK hP 0 rfl rfl 7 (by decide) (hts (.fieldLink RX12 64 "ChipFlow" "designs" "[LChipFlow$Design;") wd_1185) (fun _ h9 => h9) (h_x.get 0 rfl) dX12_isThere_32 ?_
  refine lv_iload_n hx hb dX12_isThere_35 rfl (lv_at hl 2 rfl) ?_
  refine va_aldq hx hb hK hP 1 0 rfl rfl (vp_in_nI (n := 2) (N := 6) (by decide) (by decide)) dX12_isThere_36 ?_
  rw [show (2 : Int32).toNatClampNeg = 2 by decide +kernel, h_deA2]
  refine W.eq (g2 := F0 m 37 ls [.ref de2]) rfl ?_
  refine va_get (D := (dC, dI)) (ci := 3) (v := .int 0) (C := RX3) (T := TX3) (N := 16) hx hb hts inX3 hown hK hP 4 rfl rfl 0 (by decide) (hts (.fieldLink RX12 148 "ChipFlow$Design" "used" "Z") wd_766) (fun _ h9 => h9) (h_de2.get 0 rfl) dX12_isThere_37 ?_
  refine lv_if_eq (tgt := 47) hx hb dX12_isThere_40 (by decide) (fun c9 => ?_) (fun c9 => ?_)
  rotate_left
  · first | exact absurd c9 (by decide +kernel) | exact absurd (by decide +kernel) c9
  refine lv_iconst (v := 0) hx hb dX12_isThere_47 (by decide +kernel) ?_
  refine W.widen (k := 1) (n := 6) (Nat.le_of_ble_eq_true rfl) (Nat.le_of_ble_eq_true rfl) ?_
  exact W.zret (v := 0) hx hb hr rfl (fun t ht hW => ⟨⟨0, (), rfl, rfl, xg, de0g, de1g, de2g, de3g, de4g, de5g, oAf, h_x, h_de0, h_de1, h_de2, h_de3, h_de4, h_de5, h_oA, by rw [ht]; exact hP, va_K.moved hW.alike hK, hD⟩, hS.F ht⟩) hS.2.2 dX12_isThere_48
set_option maxHeartbeats 4000000 in
set_option maxRecDepth 100000 in
theorem gx84_L_isThere (l : Launch) (hlt : l.stackTraces = false) (dC : Nat → ClassId) (dI : Nat → Nat → Nat) (sz : Nat) (x deA de0 de1 de2 de3 de4 de5 oA liA chA : Nat) (xg : List Value) (h_x : fx xg 17 [(7, .ref deA), (8, .ref liA), (9, .ref chA)]) (deAC : ClassId) (deAF : Nat → Option Nat) (de0g : List Value) (h_de0 : fx de0g 16 [(0, .int 0)]) (de1g : List Value) (h_de1 : fx de1g 16 [(0, .int 0)]) (de2g : List Value) (h_de2 : fx de2g 16 [(0, .int 0)]) (de3g : List Value) (h_de3 : fx de3g 16 [(0, .int 0)]) (de4g : List Value) (h_de4 : fx de4g 16 [(0, .int 0)]) (de5g : List Value) (h_de5 : fx de5g 16 [(0, .int 0)]) (oAC : ClassId) (oAf : Nat → Int64) (h_oA : fa oAf []) (h_deA0 : deAF 0 = some de0) (h_deA1 : deAF 1 = some de1) (h_deA2 : deAF 2 = some de2) (h_deA3 : deAF 3 = some de3) (h_deA4 : deAF 4 = some de4) (h_deA5 : deAF 5 = some de5) : Met l yL_isThere (Cond.codeWith yL_isThere cL_isThere 5 (some .int) [(0, 17, 20, 19)] :: BG) ({ frames := 8, cells := 1, slots := 6, locals := 152 }) (va_Pc [.ref x, .int 0, .int 2, .ref oA] (fun U => U.heap.size = sz ∧ va_P (dC, dI) CL [(x, .inr (12, xg)), (deA, .inl (deAC, (6, .inr (.inr (.inr (.inr deAF)))))), (de0, .inr (3, de0g)), (de1, .inr (3, de1g)), (de2, .inr (3, de2g)), (de3, .inr (3, de3g)), (de4, .inr (3, de4g)), (de5, .inr (3, de5g)), (oA, .inl (oAC, (1, .inr (.inl oAf))))] U.heap ∧ va_K (dC, dI) CL [(deAC, .object "ChipFlow$Design"), (oAC, .long)] U ∧ va_D (fun _ => True) [(x, .inr (12, xg)), (deA, .inl (deAC, (6, .inr (.inr (.inr (.inr deAF)))))), (de0, .inr (3, de0g)), (de1, .inr (3, de1g)), (de2, .inr (3, de2g)), (de3, .inr (3, de3g)), (de4, .inr (3, de4g)), (de5, .inr (3, de5g)), (oA, .inl (oAC, (1, .inr (.inl oAf))))] ∧ th (va_A [(x, .inr (12, xg)), (deA, .inl (deAC, (6, .inr (.inr (.inr (.inr deAF)))))), (de0, .inr (3, de0g)), (de1, .inr (3, de1g)), (de2, .inr (3, de2g)), (de3, .inr (3, de3g)), (de4, .inr (3, de4g)), (de5, .inr (3, de5g)), (oA, .inl (oAC, (1, .inr (.inl oAf))))] sz) U U.heap)) (va_Qi (fun (r : Int32) (_ : Unit) => r = 0) (fun _ t => ∃ (xy : List Value) (de0y : List Value) (de1y : List Value) (de2y : List Value) (de3y : List Value) (de4y : List Value) (de5y : List Value) (oAy : Nat → Int64), fx xy 17 [(7, .ref deA), (8, .ref liA), (9, .ref chA)] ∧ fx de0y 16 [(0, .int 0)] ∧ fx de1y 16 [(0, .int 0)] ∧ fx de2y 16 [(0, .int 0)] ∧ fx de3y 16 [(0, .int 0)] ∧ fx de4y 16 [(0, .int 0)] ∧ fx de5y 16 [(0, .int 0)] ∧ fa oAy [(0, 0)] ∧ va_P (dC, dI) CL [(x, .inr (12, xy)), (deA, .inl (deAC, (6, .inr (.inr (.inr (.inr deAF)))))), (de0, .inr (3, de0y)), (de1, .inr (3, de1y)), (de2, .inr (3, de2y)), (de3, .inr (3, de3y)), (de4, .inr (3, de4y)), (de5, .inr (3, de5y)), (oA, .inl (oAC, (1, .inr (.inl oAy))))] t.heap ∧ va_K (dC, dI) CL [(deAC, .object "ChipFlow$Design"), (oAC, .long)] t ∧ va_D (va_A [(x, .inr (12, xg)), (deA, .inl (deAC, (6, .inr (.inr (.inr (.inr deAF)))))), (de0, .inr (3, de0g)), (de1, .inr (3, de1g)), (de2, .inr (3, de2g)), (de3, .inr (3, de3g)), (de4, .inr (3, de4g)), (de5, .inr (3, de5g)), (oA, .inl (oAC, (1, .inr (.inl oAf))))] sz) [(x, .inr (12, xy)), (deA, .inl (deAC, (6, .inr (.inr (.inr (.inr deAF)))))), (de0, .inr (3, de0y)), (de1, .inr (3, de1y)), (de2, .inr (3, de2y)), (de3, .inr (3, de3y)), (de4, .inr (3, de4y)), (de5, .inr (3, de5y)), (oA, .inl (oAC, (1, .inr (.inl oAy))))]) (va_A [(x, .inr (12, xg)), (deA, .inl (deAC, (6, .inr (.inr (.inr (.inr deAF)))))), (de0, .inr (3, de0g)), (de1, .inr (3, de1g)), (de2, .inr (3, de2g)), (de3, .inr (3, de3g)), (de4, .inr (3, de4g)), (de5, .inr (3, de5g)), (oA, .inl (oAC, (1, .inr (.inl oAf))))] sz)) 1 6 (va_A [(x, .inr (12, xg)), (deA, .inl (deAC, (6, .inr (.inr (.inr (.inr deAF)))))), (de0, .inr (3, de0g)), (de1, .inr (3, de1g)), (de2, .inr (3, de2g)), (de3, .inr (3, de3g)), (de4, .inr (3, de4g)), (de5, .inr (3, de5g)), (oA, .inl (oAC, (1, .inr (.inl oAf))))] sz) := by
  refine va_MetW (hh := [(0, 17, 20, 19)]) (cc := cL_isThere) (maxL := 5) (ret := (some .int)) (by decide) rfl ?_
  intro p e s m args below meth c s₁ B hml hv
  obtain ⟨rfl, hsz, hP, hK, hD0, hth⟩ := hv
  have hx := B.exec
  have hb := B.bytes
  have hr := B.returns
  have hts : ∀ w ∈ BG, w.before _ s = true := fun w h => atoms_spec (ws := Cond.codeWith yL_isThere cL_isThere 5 (some .int) [(0, 17, 20, 19)] :: BG) B.pre w (List.mem_cons_of_mem _ h)
  have hown : s.vm.findClass RL = some m.cls := findClass_of_methodNamed B.named
  have hlocks := B.notSynchronized
  subst hsz
  have hD := hD0.self (sz := s.heap.size)
  generalize hAe : va_A [(x, .inr (12, xg)), (deA, .inl (deAC, (6, .inr (.inr (.inr (.inr deAF)))))), (de0, .inr (3, de0g)), (de1, .inr (3, de1g)), (de2, .inr (3, de2g)), (de3, .inr (3, de3g)), (de4, .inr (3, de4g)), (de5, .inr (3, de5g)), (oA, .inl (oAC, (1, .inr (.inl oAf))))] s.heap.size = A at hD hth ⊢
  have hA : ∀ q : Nat, s.heap.size ≤ q → A q := fun q h => by rw [← hAe]; exact Or.inr h
  have hS : va_S A s.heap s.heap [] := va_S.rf
  have hl := lv_entry ([.ref x, .int 0, .int 2, .ref oA]) (n := 5) (Nat.le_of_ble_eq_true rfl)
  rw [lg_entry_eq]
  generalize (lg_sl ([.ref x, .int 0, .int 2, .ref oA]) ++ List.replicate (5 - (lg_sl ([.ref x, .int 0, .int 2, .ref oA])).length) Slot.unset).toArray = ls at hl ⊢
  have hl : lv_has ls 5 [(0, .ref x), (1, .int 0), (2, .int 2), (3, .ref oA)] := hl
  obtain ⟨H, eH⟩ : ∃ z, z = s.heap := ⟨_, rfl⟩
  have hP : va_P (dC, dI) CL [(x, .inr (12, xg)), (deA, .inl (deAC, (6, .inr (.inr (.inr (.inr deAF)))))), (de0, .inr (3, de0g)), (de1, .inr (3, de1g)), (de2, .inr (3, de2g)), (de3, .inr (3, de3g)), (de4, .inr (3, de4g)), (de5, .inr (3, de5g)), (oA, .inl (oAC, (1, .inr (.inl oAf))))] H := by rw [eH]; exact hP
  have hS : va_S A s.heap H [] := by rw [eH]; exact hS
  rw [← eH]
  have hT : c.exceptionTable.toList = tableOf [(0, 17, 20, 19)] := vx_table (x := yL_isThere) B (atoms_spec (ws := Cond.codeWith yL_isThere cL_isThere 5 (some .int) [(0, 17, 20, 19)] :: BG) B.pre _ List.mem_cons_self)
  refine lv_aload_n hx hb dL_isThere_0 rfl (lv_at hl 3 rfl) ?_
  refine lv_iconst (v := 0) hx hb dL_isThere_1 (by decide +kernel) ?_
  refine lv_aload_n hx hb dL_isThere_2 rfl (lv_at hl 0 rfl) ?_
  refine lv_iload_n hx hb dL_isThere_3 rfl (lv_at hl 1 rfl) ?_
  refine lv_iload_n hx hb dL_isThere_4 rfl (lv_at hl 2 rfl) ?_
  have hFc := va_free (wc := [(x, .inr (12, xg)), (deA, .inl (deAC, (6, .inr (.inr (.inr (.inr deAF)))))), (de0, .inr (3, de0g)), (de1, .inr (3, de1g)), (de2, .inr (3, de2g)), (de3, .inr (3, de3g)), (de4, .inr (3, de4g)), (de5, .inr (3, de5g)), (oA, .inl (oAC, (1, .inr (.inl oAf))))]) hD hS hA [0, 1, 2, 3, 4, 5, 6, 7, 8] rfl
  refine va_calli (va_runV (As := [.int 0, .int 2]) (rest := [.int 0, .ref oA]) ⟨hx, hb, hml, hown, hts⟩ (gx85_X12_isThere l hlt dC dI _ x deA de0 de1 de2 de3 de4 de5 oA liA chA xg h_x deAC deAF de0g h_de0 de1g h_de1 de2g h_de2 de3g h_de3 de4g h_de4 de5g h_de5 oAC oAf h_oA h_deA0 h_deA1 h_deA2 h_deA3 h_deA4 h_deA5) (cwV 2 hts (gi_V wd_1842 wd_1843 wd_1844 wd_327 wd_1845) rfl rfl rfl (by decide +kernel) ⟨(Nat.le_of_ble_eq_true rfl), (Nat.le_of_ble_eq_true rfl)⟩) ⟨fun a U g mk q => by obtain ⟨q0, q1, qP, qK, qD, qT⟩ := q; exact ⟨q0, q1, qP, va_K.moved (u := U) (U := U.calling g mk a) (Vm.Alike.refl U.vm) qK, qD, th.moved (u := U) (U := U.calling g mk a) (Vm.Alike.refl U.vm) qT⟩, va_recv hK hP (ci := 12) (q0 := 0) rfl rfl, fun U hU hW => ⟨rfl, by rw [hU], by rw [hU]; exact hP, va_K.moved hW.alike hK, hD.weaken (fun _ _ _ _ => trivial), by rw [hU]; exact ((hth.kept hS.2.1).narrow hFc).moved hW.alike⟩⟩ rfl rfl hl.1 rfl (lv_room (Nat.le_of_ble_eq_true rfl)) dL_isThere_5 ⟨(Nat.le_of_ble_eq_true rfl), (Nat.le_of_ble_eq_true rfl)⟩) hS (fun q _ h => hFc q h) hFc (fun r u t H1 locs ht hvm hw hB hz1 hk1 hS => ?_)
  subst hw
  obtain ⟨fs_1, fs_2, fs_3, fs_4, fs_5, fs_6, fs_7, f_8, h_x, h_de0, h_de1, h_de2, h_de3, h_de4, h_de5, h_oA, hP1, hK1, hD1⟩ := hB
  rw [ht] at hP1
  have hD := hD1.weaken (fun k q _ h => hFc q.1 h)
  have hP := hP1
  generalize H1 = H at hP hS ⊢
  have hP : va_P (dC, dI) CL [(x, .inr (12, fs_1)), (deA, .inl (deAC, (6, .inr (.inr (.inr (.inr deAF)))))), (de0, .inr (3, fs_2)), (de1, .inr (3, fs_3)), (de2, .inr (3, fs_4)), (de3, .inr (3, fs_5)), (de4, .inr (3, fs_6)), (de5, .inr (3, fs_7)), (oA, .inl (oAC, (1, .inr (.inl f_8))))] H := hP
  have hD : va_D A [(x, .inr (12, fs_1)), (deA, .inl (deAC, (6, .inr (.inr (.inr (.inr deAF)))))), (de0, .inr (3, fs_2)), (de1, .inr (3, fs_3)), (de2, .inr (3, fs_4)), (de3, .inr (3, fs_5)), (de4, .inr (3, fs_6)), (de5, .inr (3, fs_7)), (oA, .inl (oAC, (1, .inr (.inl f_8))))] := hD
  refine W.widen (k := 1) (n := 6) (Nat.le_of_ble_eq_true rfl) (Nat.le_of_ble_eq_true rfl) ?_
  refine lv_if_eq (tgt := 15) hx hb dL_isThere_8 (by decide) (fun c9 => ?_) (fun c9 => ?_)
  rotate_left
  · first | exact absurd c9 (by decide +kernel) | exact absurd (by decide +kernel) c9
  refine lv_lconst (v := 0) hx hb dL_isThere_15 (by decide) ?_
  refine va_last hx hb hK hP hD hS 8 1 rfl rfl (vp_in_nI (n := 0) (N := 1) (by decide) (by decide)) dL_isThere_16 (fun H locs hP hD hS => ?_)
  obtain ⟨f_9, e9⟩ : ∃ z, z = vp_updL f_8 (0 : Int32).toNatClampNeg 0 := ⟨_, rfl⟩
  have h_oA : fa f_9 [(0, 0)] := by rw [e9, show (0 : Int32).toNatClampNeg = 0 by decide +kernel]; exact (fa.putL h_oA).sub [0] rfl
  have hP : va_P (dC, dI) CL [(x, .inr (12, fs_1)), (deA, .inl (deAC, (6, .inr (.inr (.inr (.inr deAF)))))), (de0, .inr (3, fs_2)), (de1, .inr (3, fs_3)), (de2, .inr (3, fs_4)), (de3, .inr (3, fs_5)), (de4, .inr (3, fs_6)), (de5, .inr (3, fs_7)), (oA, .inl (oAC, (1, .inr (.inl f_9))))] H := by rw [e9]; exact hP
  have hD : va_D A [(x, .inr (12, fs_1)), (deA, .inl (deAC, (6, .inr (.inr (.inr (.inr deAF)))))), (de0, .inr (3, fs_2)), (de1, .inr (3, fs_3)), (de2, .inr (3, fs_4)), (de3, .inr (3, fs_5)), (de4, .inr (3, fs_6)), (de5, .inr (3, fs_7)), (oA, .inl (oAC, (1, .inr (.inl f_9))))] := by rw [e9]; exact hD
  clear e9
  refine lv_goto (tgt := 24) hx hb dL_isThere_17 (by decide) ?_
  refine lv_iconst (v := 0) hx hb dL_isThere_24 (by decide +kernel) ?_
  refine W.widen (k := 1) (n := 6) (Nat.le_of_ble_eq_true rfl) (Nat.le_of_ble_eq_true rfl) ?_
  exact W.iret (v := 0) hx hb hr (fun t ht hW => ⟨⟨0, (), rfl, rfl, fs_1, fs_2, fs_3, fs_4, fs_5, fs_6, fs_7, f_9, h_x, h_de0, h_de1, h_de2, h_de3, h_de4, h_de5, h_oA, by rw [ht]; exact hP, va_K.moved hW.alike hK, hD⟩, hS.F ht⟩) hS.2.2 dL_isThere_25
set_option maxHeartbeats 4000000 in
set_option maxRecDepth 100000 in
theorem gx87_X13_isOne (l : Launch) (hlt : l.stackTraces = false) (dC : Nat → ClassId) (dI : Nat → Nat → Nat) (sz : Nat) (m0 md ml mch : Nat) (m0g : List Value) (h_m0 : fx m0g 225 [(0, .int 0), (2, .int 0), (3, .int 0), (9, .int 0), (10, .int 0), (11, .int 0), (12, .int 0), (27, .int 0), (55, .ref md), (79, .int 0), (83, .int 0), (88, .ref ml), (95, .int 0), (138, .ref mch)]) (mdC : ClassId) : Met l yX13_isOne (Cond.code yX13_isOne cX13_isOne 3 (some .boolean) :: BG) ({ frames := 2, cells := 0, slots := 0, locals := 33 }) (va_Pc [.ref m0, .int 0, .int 2] (fun U => U.heap.size = sz ∧ va_P (dC, dI) CL [(m0, .inr (13, m0g)), (md, .inl (mdC, (6, .inl (fun _ => 0))))] U.heap ∧ va_K (dC, dI) CL [(mdC, .boolean)] U ∧ va_D (fun _ => True) [(m0, .inr (13, m0g)), (md, .inl (mdC, (6, .inl (fun _ => 0))))] ∧ th (va_A [(m0, .inr (13, m0g)), (md, .inl (mdC, (6, .inl (fun _ => 0))))] sz) U U.heap)) (va_Qi (fun (r : Int32) (_ : Unit) => r = 0) (fun _ t => ∃ (m0y : List Value), fx m0y 225 [(0, .int 0), (2, .int 0), (3, .int 0), (9, .int 0), (10, .int 0), (11, .int 0), (12, .int 0), (27, .int 0), (55, .ref md), (79, .int 0), (83, .int 0), (88, .ref ml), (95, .int 0), (138, .ref mch)] ∧ va_P (dC, dI) CL [(m0, .inr (13, m0y)), (md, .inl (mdC, (6, .inl (fun _ => 0))))] t.heap ∧ va_K (dC, dI) CL [(mdC, .boolean)] t ∧ va_D (va_A [(m0, .inr (13, m0g)), (md, .inl (mdC, (6, .inl (fun _ => 0))))] sz) [(m0, .inr (13, m0y)), (md, .inl (mdC, (6, .inl (fun _ => 0))))]) (va_A [(m0, .inr (13, m0g)), (md, .inl (mdC, (6, .inl (fun _ => 0))))] sz)) 0 0 (va_A [(m0, .inr (13, m0g)), (md, .inl (mdC, (6, .inl (fun _ => 0))))] sz) := by
  refine Met.ofW (cc := cX13_isOne) (maxL := 3) (ret := (some .boolean)) (by decide) rfl ?_
  intro p e s m args below meth c s₁ B hml hv
  obtain ⟨rfl, hsz, hP, hK, hD0, hth⟩ := hv
  have hx := B.exec
  have hb := B.bytes
  have hr := B.returns
  have hts : ∀ w ∈ BG, w.before _ s = true := fun w h => atoms_spec (ws := Cond.code yX13_isOne cX13_isOne 3 (some .boolean) :: BG) B.pre w (List.mem_cons_of_mem _ h)
  have hown : s.vm.findClass RX13 = some m.cls := findClass_of_methodNamed B.named
  have hlocks := B.notSynchronized
  subst hsz
  have hD := hD0.self (sz := s.heap.size)
  generalize hAe : va_A [(m0, .inr (13, m0g)), (md, .inl (mdC, (6, .inl (fun _ => 0))))] s.heap.size = A at hD hth ⊢
  have hA : ∀ q : Nat, s.heap.size ≤ q → A q := fun q h => by rw [← hAe]; exact Or.inr h
  have hS : va_S A s.heap s.heap [] := va_S.rf
  have hl := lv_entry ([.ref m0, .int 0, .int 2]) (n := 3) (Nat.le_of_ble_eq_true rfl)
  rw [lg_entry_eq]
  generalize (lg_sl ([.ref m0, .int 0, .int 2]) ++ List.replicate (3 - (lg_sl ([.ref m0, .int 0, .int 2])).length) Slot.unset).toArray = ls at hl ⊢
  have hl : lv_has ls 3 [(0, .ref m0), (1, .int 0), (2, .int 2)] := hl
  obtain ⟨H, eH⟩ : ∃ z, z = s.heap := ⟨_, rfl⟩
  have hP : va_P (dC, dI) CL [(m0, .inr (13, m0g)), (md, .inl (mdC, (6, .inl (fun _ => 0))))] H := by rw [eH]; exact hP
  have hS : va_S A s.heap H [] := by rw [eH]; exact hS
  rw [← eH]
  refine lv_iload_n hx hb dX13_isOne_0 rfl (lv_at hl 1 rfl) ?_
  refine lv_if_ne (tgt := 12) hx hb dX13_isOne_1 (by decide) (fun c9 => ?_) (fun c9 => ?_)
  · first | exact absurd c9 (by decide +kernel) | exact absurd (by decide +kernel) c9
  refine lv_aload_n hx hb dX13_isOne_4 rfl (lv_at hl 0 rfl) ?_
  refine lv_iload_n hx hb dX13_isOne_5 rfl (lv_at hl 2 rfl) ?_
  have hFc := va_free (wc := [(m0, .inr (13, m0g)), (md, .inl (mdC, (6, .inl (fun _ => 0))))]) hD hS hA [0, 1] rfl
  refine va_calli (va_runV (As := [.int 2]) (rest := []) ⟨hx, hb, hml, hown, hts⟩ (ct_X13_isDesign l dC dI _ 2 m0 m0g md mdC (h_m0.sub [8] rfl)) (cwV 1 hts (gi_V wd_4076 wd_4078 wd_215 wd_340 wd_4079) rfl rfl rfl (by decide +kernel) ⟨(Nat.le_of_ble_eq_true rfl), (Nat.le_of_ble_eq_true rfl)⟩) ⟨fun a U g mk q => by obtain ⟨q0, q1, qP, qK, qD⟩ := q; exact ⟨q0, q1, qP, va_K.moved (u := U) (U := U.calling g mk a) (Vm.Alike.refl U.vm) qK, qD⟩, va_recv hK hP (ci := 13) (q0 := 0) rfl rfl, fun U hU hW => ⟨rfl, by rw [hU], by rw [hU]; exact hP, va_K.moved hW.alike hK, hD.weaken (fun _ _ _ _ => trivial)⟩⟩ rfl rfl hl.1 rfl (lv_room (Nat.le_of_ble_eq_true rfl)) dX13_isOne_6 ⟨(Nat.le_of_ble_eq_true rfl), (Nat.le_of_ble_eq_true rfl)⟩) hS (fun q _ h => hFc q h) hFc (fun r u t H1 locs ht hvm hw hB hz1 hk1 hS => ?_)
  subst hw
  obtain ⟨hP1, hK1, hD1⟩ := hB
  rw [ht] at hP1
  have hD := hD1.weaken (fun k q _ h => hFc q.1 h)
  have hP := hP1
  generalize H1 = H at hP hS ⊢
  have hP : va_P (dC, dI) CL [(m0, .inr (13, m0g)), (md, .inl (mdC, (6, .inl (fun _ => 0))))] H := hP
  have hD : va_D A [(m0, .inr (13, m0g)), (md, .inl (mdC, (6, .inl (fun _ => 0))))] := hD
  refine lv_goto (tgt := 30) hx hb dX13_isOne_9 (by decide) ?_
  exact W.zret (v := 0) hx hb hr rfl (fun t ht hW => ⟨⟨0, (), rfl, rfl, m0g, h_m0, by rw [ht]; exact hP, va_K.moved hW.alike hK, hD⟩, hS.F ht⟩) hS.2.2 dX13_isOne_30
set_option maxHeartbeats 4000000 in
set_option maxRecDepth 100000 in
theorem gx86_X13_isThere (l : Launch) (hlt : l.stackTraces = false) (dC : Nat → ClassId) (dI : Nat → Nat → Nat) (sz : Nat) (m0 md ml mch : Nat) (m0g : List Value) (h_m0 : fx m0g 225 [(0, .int 0), (2, .int 0), (3, .int 0), (9, .int 0), (10, .int 0), (11, .int 0), (12, .int 0), (27, .int 0), (55, .ref md), (79, .int 0), (83, .int 0), (88, .ref ml), (95, .int 0), (138, .ref mch)]) (mdC : ClassId) : Met l yX13_isThere (Cond.code yX13_isThere cX13_isThere 3 (some .boolean) :: BG) ({ frames := 3, cells := 0, slots := 0, locals := 55 }) (va_Pc [.ref m0, .int 0, .int 2] (fun U => U.heap.size = sz ∧ va_P (dC, dI) CL [(m0, .inr (13, m0g)), (md, .inl (mdC, (6, .inl (fun _ => 0))))] U.heap ∧ va_K (dC, dI) CL [(mdC, .boolean)] U ∧ va_D (fun _ => True) [(m0, .inr (13, m0g)), (md, .inl (mdC, (6, .inl (fun _ => 0))))] ∧ th (va_A [(m0, .inr (13, m0g)), (md, .inl (mdC, (6, .inl (fun _ => 0))))] sz) U U.heap)) (va_Qi (fun (r : Int32) (_ : Unit) => r = 0) (fun _ t => ∃ (m0y : List Value), fx m0y 225 [(0, .int 0), (2, .int 0), (3, .int 0), (9, .int 0), (10, .int 0), (11, .int 0), (12, .int 0), (27, .int 0), (55, .ref md), (79, .int 0), (83, .int 0), (88, .ref ml), (95, .int 0), (138, .ref mch)] ∧ va_P (dC, dI) CL [(m0, .inr (13, m0y)), (md, .inl (mdC, (6, .inl (fun _ => 0))))] t.heap ∧ va_K (dC, dI) CL [(mdC, .boolean)] t ∧ va_D (va_A [(m0, .inr (13, m0g)), (md, .inl (mdC, (6, .inl (fun _ => 0))))] sz) [(m0, .inr (13, m0y)), (md, .inl (mdC, (6, .inl (fun _ => 0))))]) (va_A [(m0, .inr (13, m0g)), (md, .inl (mdC, (6, .inl (fun _ => 0))))] sz)) 0 0 (va_A [(m0, .inr (13, m0g)), (md, .inl (mdC, (6, .inl (fun _ => 0))))] sz) := by
  refine Met.ofW (cc := cX13_isThere) (maxL := 3) (ret := (some .boolean)) (by decide) rfl ?_
  intro p e s m args below meth c s₁ B hml hv
  obtain ⟨rfl, hsz, hP, hK, hD0, hth⟩ := hv
  have hx := B.exec
  have hb := B.bytes
  have hr := B.returns
  have hts : ∀ w ∈ BG, w.before _ s = true := fun w h => atoms_spec (ws := Cond.code yX13_isThere cX13_isThere 3 (some .boolean) :: BG) B.pre w (List.mem_cons_of_mem _ h)
  have hown : s.vm.findClass RX13 = some m.cls := findClass_of_methodNamed B.named
  have hlocks := B.notSynchronized
  subst hsz
  have hD := hD0.self (sz := s.heap.size)
  generalize hAe : va_A [(m0, .inr (13, m0g)), (md, .inl (mdC, (6, .inl (fun _ => 0))))] s.heap.size = A at hD hth ⊢
  have hA : ∀ q : Nat, s.heap.size ≤ q → A q := fun q h => by rw [← hAe]; exact Or.inr h
  have hS : va_S A s.heap s.heap [] := va_S.rf
  have hl := lv_entry ([.ref m0, .int 0, .int 2]) (n := 3) (Nat.le_of_ble_eq_true rfl)
  rw [lg_entry_eq]
  generalize (lg_sl ([.ref m0, .int 0, .int 2]) ++ List.replicate (3 - (lg_sl ([.ref m0, .int 0, .int 2])).length) Slot.unset).toArray = ls at hl ⊢
  have hl : lv_has ls 3 [(0, .ref m0), (1, .int 0), (2, .int 2)] := hl
  obtain ⟨H, eH⟩ : ∃ z, z = s.heap := ⟨_, rfl⟩
  have hP : va_P (dC, dI) CL [(m0, .inr (13, m0g)), (md, .inl (mdC, (6, .inl (fun _ => 0))))] H := by rw [eH]; exact hP
  have hS : va_S A s.heap H [] := by rw [eH]; exact hS
  rw [← eH]
  refine lv_aload_n hx hb dX13_isThere_0 rfl (lv_at hl 0 rfl) ?_
  refine lv_iload_n hx hb dX13_isThere_1 rfl (lv_at hl 1 rfl) ?_
  refine lv_iconst (v := 0) hx hb dX13_isThere_2 (by decide +kernel) ?_
  refine lv_iconst (v := 2) hx hb dX13_isThere_3 (by decide +kernel) ?_
  have hFc := va_free (wc := [(m0, .inr (13, m0g)), (md, .inl (mdC, (6, .inl (fun _ => 0))))]) hD hS hA [0, 1] rfl
  refine va_calli (va_runS (As := [.int 0, .int 0, .int 2]) (rest := [.ref m0]) ⟨hx, hb, hml, hown, hts⟩ (gx48_X13_within l hlt dC dI _ m0 md ml mch m0g h_m0 mdC) (cwS 3 hts (gi_S wd_3825 wd_3826 wd_340 wd_3827) rfl rfl rfl (by decide +kernel) ⟨(Nat.le_of_ble_eq_true rfl), (Nat.le_of_ble_eq_true rfl)⟩) ⟨fun a U g mk q => by obtain ⟨q0, q1, qP, qK, qD, qT⟩ := q; exact ⟨q0, q1, qP, va_K.moved (u := U) (U := U.calling g mk a) (Vm.Alike.refl U.vm) qK, qD, th.moved (u := U) (U := U.calling g mk a) (Vm.Alike.refl U.vm) qT⟩, fun U hU hW => ⟨rfl, by rw [hU], by rw [hU]; exact hP, va_K.moved hW.alike hK, hD.weaken (fun _ _ _ _ => trivial), by rw [hU]; exact ((hth.kept hS.2.1).narrow hFc).moved hW.alike⟩⟩ rfl rfl hl.1 rfl (lv_room (Nat.le_of_ble_eq_true rfl)) dX13_isThere_4 ⟨(Nat.le_of_ble_eq_true rfl), (Nat.le_of_ble_eq_true rfl)⟩) hS (fun q _ h => hFc q h) hFc (fun r u t H1 locs ht hvm hw hB hz1 hk1 hS => ?_)
  subst hw
  obtain ⟨fs_1, h_m0, hP1, hK1, hD1⟩ := hB
  rw [ht] at hP1
  have hD := hD1.weaken (fun k q _ h => hFc q.1 h)
  have hP := hP1
  generalize H1 = H at hP hS ⊢
  have hP : va_P (dC, dI) CL [(m0, .inr (13, fs_1)), (md, .inl (mdC, (6, .inl (fun _ => 0))))] H := hP
  have hD : va_D A [(m0, .inr (13, fs_1)), (md, .inl (mdC, (6, .inl (fun _ => 0))))] := hD
  refine lv_if_eq (tgt := 14) hx hb dX13_isThere_7 (by decide) (fun c9 => ?_) (fun c9 => ?_)
  · first | exact absurd c9 (by decide +kernel) | exact absurd (by decide +kernel) c9
  refine lv_iconst (v := 0) hx hb dX13_isThere_10 (by decide +kernel) ?_
  refine lv_goto (tgt := 15) hx hb dX13_isThere_11 (by decide) ?_
  refine va_put (D := (dC, dI)) (ci := 13) (v := .int 0) (ty := tyX13 0) (C := RX13) (T := TX13) (N := 225) hx hb hts inX13 tyX13 tyX13_ok nmX13 hown hK hP hD hS 0 rfl rfl 0 (by decide) (hts (.fieldLink RX13 1 "ChipFlowModel" "code" "I") wd_3032) (fun _ h9 => h9) rfl (by decide +kernel) rfl rfl (by rw [h_m0.1]; decide) dX13_isThere_15 (fun H locs hP hD hS => ?_)
  obtain ⟨fs_2, e9⟩ : ∃ z, z = fs_1.set 0 (.int 0) := ⟨_, rfl⟩
  have h_m0 : fx fs_2 225 [(0, .int 0), (2, .int 0), (3, .int 0), (9, .int 0), (10, .int 0), (11, .int 0), (12, .int 0), (27, .int 0), (55, .ref md), (79, .int 0), (83, .int 0), (88, .ref ml), (95, .int 0), (138, .ref mch)] := by rw [e9]; exact (h_m0.put (F' := [(0, .int 0), (2, .int 0), (3, .int 0), (9, .int 0), (10, .int 0), (11, .int 0), (12, .int 0), (27, .int 0), (55, .ref md), (79, .int 0), (83, .int 0), (88, .ref ml), (95, .int 0), (138, .ref mch)]) (by decide) _ rfl).sub [0, 1, 2, 3, 4, 5, 6, 7, 8, 9, 10, 11, 12, 13] rfl
  have hP : va_P (dC, dI) CL [(m0, .inr (13, fs_2)), (md, .inl (mdC, (6, .inl (fun _ => 0))))] H := by rw [e9]; exact hP
  have hD : va_D A [(m0, .inr (13, fs_2)), (md, .inl (mdC, (6, .inl (fun _ => 0))))] := by rw [e9]; exact hD
  clear e9
  refine lv_aload_n hx hb dX13_isThere_18 rfl (lv_at hl 0 rfl) ?_
  refine va_get (D := (dC, dI)) (ci := 13) (v := .int 0) (C := RX13) (T := TX13) (N := 225) hx hb hts inX13 hown hK hP 0 rfl rfl 0 (by decide) (hts (.fieldLink RX13 1 "ChipFlowModel" "code" "I") wd_3032) (fun _ h9 => h9) (h_m0.get 0 rfl) dX13_isThere_19 ?_
  refine lv_if_ne (tgt := 38) hx hb dX13_isThere_22 (by decide) (fun c9 => ?_) (fun c9 => ?_)
  · first | exact absurd c9 (by decide +kernel) | exact absurd (by decide +kernel) c9
  refine lv_aload_n hx hb dX13_isThere_25 rfl (lv_at hl 0 rfl) ?_
  refine lv_iload_n hx hb dX13_isThere_26 rfl (lv_at hl 1 rfl) ?_
  refine lv_iload_n hx hb dX13_isThere_27 rfl (lv_at hl 2 rfl) ?_
  have hFc := va_free (wc := [(m0, .inr (13, fs_2)), (md, .inl (mdC, (6, .inl (fun _ => 0))))]) hD hS hA [0, 1] rfl
  refine va_calli (va_runV (As := [.int 0, .int 2]) (rest := []) ⟨hx, hb, hml, hown, hts⟩ (gx87_X13_isOne l hlt dC dI _ m0 md ml mch fs_2 h_m0 mdC) (cwV 2 hts (gi_V wd_4072 wd_4074 wd_214 wd_340 wd_4075) rfl rfl rfl (by decide +kernel) ⟨(Nat.le_of_ble_eq_true rfl), (Nat.le_of_ble_eq_true rfl)⟩) ⟨fun a U g mk q => by obtain ⟨q0, q1, qP, qK, qD, qT⟩ := q; exact ⟨q0, q1, qP, va_K.moved (u := U) (U := U.calling g mk a) (Vm.Alike.refl U.vm) qK, qD, th.moved (u := U) (U := U.calling g mk a) (Vm.Alike.refl U.vm) qT⟩, va_recv hK hP (ci := 13) (q0 := 0) rfl rfl, fun U hU hW => ⟨rfl, by rw [hU], by rw [hU]; exact hP, va_K.moved hW.alike hK, hD.weaken (fun _ _ _ _ => trivial), by rw [hU]; exact ((hth.kept hS.2.1).narrow hFc).moved hW.alike⟩⟩ rfl rfl hl.1 rfl (lv_room (Nat.le_of_ble_eq_true rfl)) dX13_isThere_28 ⟨(Nat.le_of_ble_eq_true rfl), (Nat.le_of_ble_eq_true rfl)⟩) hS (fun q _ h => hFc q h) hFc (fun r u t H1 locs ht hvm hw hB hz1 hk1 hS => ?_)
  subst hw
  obtain ⟨fs_3, h_m0, hP1, hK1, hD1⟩ := hB
  rw [ht] at hP1
  have hD := hD1.weaken (fun k q _ h => hFc q.1 h)
  have hP := hP1
  generalize H1 = H at hP hS ⊢
  have hP : va_P (dC, dI) CL [(m0, .inr (13, fs_3)), (md, .inl (mdC, (6, .inl (fun _ => 0))))] H := hP
  have hD : va_D A [(m0, .inr (13, fs_3)), (md, .inl (mdC, (6, .inl (fun _ => 0))))] := hD
  refine lv_if_eq (tgt := 38) hx hb dX13_isThere_31 (by decide) (fun c9 => ?_) (fun c9 => ?_)
  rotate_left
  · first | exact absurd c9 (by decide +kernel) | exact absurd (by decide +kernel) c9
  refine lv_iconst (v := 0) hx hb dX13_isThere_38 (by decide +kernel) ?_
  exact W.zret (v := 0) hx hb hr rfl (fun t ht hW => ⟨⟨0, (), rfl, rfl, fs_3, h_m0, by rw [ht]; exact hP, va_K.moved hW.alike hK, hD⟩, hS.F ht⟩) hS.2.2 dX13_isThere_39
set_option maxHeartbeats 4000000 in
set_option maxRecDepth 100000 in
theorem gx89_X12_isThere (l : Launch) (hlt : l.stackTraces = false) (dC : Nat → ClassId) (dI : Nat → Nat → Nat) (sz : Nat) (x deA de0 de1 de2 de3 de4 de5 oA liA chA : Nat) (xg : List Value) (h_x : fx xg 17 [(7, .ref deA), (8, .ref liA), (9, .ref chA)]) (deAC : ClassId) (deAF : Nat → Option Nat) (de0g : List Value) (h_de0 : fx de0g 16 [(0, .int 0)]) (de1g : List Value) (h_de1 : fx de1g 16 [(0, .int 0)]) (de2g : List Value) (h_de2 : fx de2g 16 [(0, .int 0)]) (de3g : List Value) (h_de3 : fx de3g 16 [(0, .int 0)]) (de4g : List Value) (h_de4 : fx de4g 16 [(0, .int 0)]) (de5g : List Value) (h_de5 : fx de5g 16 [(0, .int 0)]) (oAC : ClassId) (oAf : Nat → Int64) (h_oA : fa oAf []) (h_deA0 : deAF 0 = some de0) (h_deA1 : deAF 1 = some de1) (h_deA2 : deAF 2 = some de2) (h_deA3 : deAF 3 = some de3) (h_deA4 : deAF 4 = some de4) (h_deA5 : deAF 5 = some de5) : Met l yX12_isThere (Cond.code yX12_isThere cX12_isThere 3 (some .boolean) :: BG) ({ frames := 7, cells := 1, slots := 6, locals := 130 }) (va_Pc [.ref x, .int 0, .int 3] (fun U => U.heap.size = sz ∧ va_P (dC, dI) CL [(x, .inr (12, xg)), (deA, .inl (deAC, (6, .inr (.inr (.inr (.inr deAF)))))), (de0, .inr (3, de0g)), (de1, .inr (3, de1g)), (de2, .inr (3, de2g)), (de3, .inr (3, de3g)), (de4, .inr (3, de4g)), (de5, .inr (3, de5g)), (oA, .inl (oAC, (1, .inr (.inl oAf))))] U.heap ∧ va_K (dC, dI) CL [(deAC, .object "ChipFlow$Design"), (oAC, .long)] U ∧ va_D (fun _ => True) [(x, .inr (12, xg)), (deA, .inl (deAC, (6, .inr (.inr (.inr (.inr deAF)))))), (de0, .inr (3, de0g)), (de1, .inr (3, de1g)), (de2, .inr (3, de2g)), (de3, .inr (3, de3g)), (de4, .inr (3, de4g)), (de5, .inr (3, de5g)), (oA, .inl (oAC, (1, .inr (.inl oAf))))] ∧ th (va_A [(x, .inr (12, xg)), (deA, .inl (deAC, (6, .inr (.inr (.inr (.inr deAF)))))), (de0, .inr (3, de0g)), (de1, .inr (3, de1g)), (de2, .inr (3, de2g)), (de3, .inr (3, de3g)), (de4, .inr (3, de4g)), (de5, .inr (3, de5g)), (oA, .inl (oAC, (1, .inr (.inl oAf))))] sz) U U.heap)) (va_Qi (fun (r : Int32) (_ : Unit) => r = 0) (fun _ t => ∃ (xy : List Value) (de0y : List Value) (de1y : List Value) (de2y : List Value) (de3y : List Value) (de4y : List Value) (de5y : List Value) (oAy : Nat → Int64), fx xy 17 [(7, .ref deA), (8, .ref liA), (9, .ref chA)] ∧ fx de0y 16 [(0, .int 0)] ∧ fx de1y 16 [(0, .int 0)] ∧ fx de2y 16 [(0, .int 0)] ∧ fx de3y 16 [(0, .int 0)] ∧ fx de4y 16 [(0, .int 0)] ∧ fx de5y 16 [(0, .int 0)] ∧ fa oAy [] ∧ va_P (dC, dI) CL [(x, .inr (12, xy)), (deA, .inl (deAC, (6, .inr (.inr (.inr (.inr deAF)))))), (de0, .inr (3, de0y)), (de1, .inr (3, de1y)), (de2, .inr (3, de2y)), (de3, .inr (3, de3y)), (de4, .inr (3, de4y)), (de5, .inr (3, de5y)), (oA, .inl (oAC, (1, .inr (.inl oAy))))] t.heap ∧ va_K (dC, dI) CL [(deAC, .object "ChipFlow$Design"), (oAC, .long)] t ∧ va_D (va_A [(x, .inr (12, xg)), (deA, .inl (deAC, (6, .inr (.inr (.inr (.inr deAF)))))), (de0, .inr (3, de0g)), (de1, .inr (3, de1g)), (de2, .inr (3, de2g)), (de3, .inr (3, de3g)), (de4, .inr (3, de4g)), (de5, .inr (3, de5g)), (oA, .inl (oAC, (1, .inr (.inl oAf))))] sz) [(x, .inr (12, xy)), (deA, .inl (deAC, (6, .inr (.inr (.inr (.inr deAF)))))), (de0, .inr (3, de0y)), (de1, .inr (3, de1y)), (de2, .inr (3, de2y)), (de3, .inr (3, de3y)), (de4, .inr (3, de4y)), (de5, .inr (3, de5y)), (oA, .inl (oAC, (1, .inr (.inl oAy))))]) (va_A [(x, .inr (12, xg)), (deA, .inl (deAC, (6, .inr (.inr (.inr (.inr deAF)))))), (de0, .inr (3, de0g)), (de1, .inr (3, de1g)), (de2, .inr (3, de2g)), (de3, .inr (3, de3g)), (de4, .inr (3, de4g)), (de5, .inr (3, de5g)), (oA, .inl (oAC, (1, .inr (.inl oAf))))] sz)) 1 6 (va_A [(x, .inr (12, xg)), (deA, .inl (deAC, (6, .inr (.inr (.inr (.inr deAF)))))), (de0, .inr (3, de0g)), (de1, .inr (3, de1g)), (de2, .inr (3, de2g)), (de3, .inr (3, de3g)), (de4, .inr (3, de4g)), (de5, .inr (3, de5g)), (oA, .inl (oAC, (1, .inr (.inl oAf))))] sz) := by
  refine Met.ofW (cc := cX12_isThere) (maxL := 3) (ret := (some .boolean)) (by decide) rfl ?_
  intro p e s m args below meth c s₁ B hml hv
  obtain ⟨rfl, hsz, hP, hK, hD0, hth⟩ := hv
  have hx := B.exec
  have hb := B.bytes
  have hr := B.returns
  have hts : ∀ w ∈ BG, w.before _ s = true := fun w h => atoms_spec (ws := Cond.code yX12_isThere cX12_isThere 3 (some .boolean) :: BG) B.pre w (List.mem_cons_of_mem _ h)
  have hown : s.vm.findClass RX12 = some m.cls := findClass_of_methodNamed B.named
  have hlocks := B.notSynchronized
  subst hsz
  have hD := hD0.self (sz := s.heap.size)
  generalize hAe : va_A [(x, .inr (12, xg)), (deA, .inl (deAC, (6, .inr (.inr (.inr (.inr deAF)))))), (de0, .inr (3, de0g)), (de1, .inr (3, de1g)), (de2, .inr (3, de2g)), (de3, .inr (3, de3g)), (de4, .inr (3, de4g)), (de5, .inr (3, de5g)), (oA, .inl (oAC, (1, .inr (.inl oAf))))] s.heap.size = A at hD hth ⊢
  have hA : ∀ q : Nat, s.heap.size ≤ q → A q := fun q h => by rw [← hAe]; exact Or.inr h
  have hS : va_S A s.heap s.heap [] := va_S.rf
  have hl := lv_entry ([.ref x, .int 0, .int 3]) (n := 3) (Nat.le_of_ble_eq_true rfl)
  rw [lg_entry_eq]
  generalize (lg_sl ([.ref x, .int 0, .int 3]) ++ List.replicate (3 - (lg_sl ([.ref x, .int 0, .int 3])).length) Slot.unset).toArray = ls at hl ⊢
  have hl : lv_has ls 3 [(0, .ref x), (1, .int 0), (2, .int 3)] := hl
  obtain ⟨H, eH⟩ : ∃ z, z = s.heap := ⟨_, rfl⟩
  have hP : va_P (dC, dI) CL [(x, .inr (12, xg)), (deA, .inl (deAC, (6, .inr (.inr (.inr (.inr deAF)))))), (de0, .inr (3, de0g)), (de1, .inr (3, de1g)), (de2, .inr (3, de2g)), (de3, .inr (3, de3g)), (de4, .inr (3, de4g)), (de5, .inr (3, de5g)), (oA, .inl (oAC, (1, .inr (.inl oAf))))] H := by rw [eH]; exact hP
  have hS : va_S A s.heap H [] := by rw [eH]; exact hS
  rw [← eH]
  refine lv_iload_n hx hb dX12_isThere_0 rfl (lv_at hl 1 rfl) ?_
  refine lv_if_lt (tgt := 13) hx hb dX12_isThere_1 (by decide) (fun c9 => ?_) (fun c9 => ?_)
  · first | exact absurd c9 (by decide +kernel) | exact absurd (by decide +kernel) c9
  refine lv_iload_n hx hb dX12_isThere_4 rfl (lv_at hl 1 rfl) ?_
  refine lv_iconst (v := 2) hx hb dX12_isThere_5 (by decide +kernel) ?_
  refine lv_icmp_gt (tgt := 13) hx hb dX12_isThere_6 (by decide) (fun c9 => ?_) (fun c9 => ?_)
  · first | exact absurd c9 (by decide +kernel) | exact absurd (by decide +kernel) c9
  refine lv_iconst (v := 1) hx hb dX12_isThere_9 (by decide +kernel) ?_
  refine lv_goto (tgt := 14) hx hb dX12_isThere_10 (by decide) ?_
  have hF0 : ∀ q, va_A [] H.size q → A q := fun q h => h.elim (fun ⟨k9, e9, h9⟩ => by simp at h9) (fun h9 => hA q (Nat.le_trans hS.1 h9))
  refine vx_callv (vx_runS (As := [.int 1]) (rest := []) ⟨hx, hb, hml, hown, hts⟩ (ct_X12_needRange l hlt H.size 1) (cwS 1 hts (gi_S wd_1328 wd_1329 wd_327 wd_1330) rfl rfl rfl (by decide +kernel) ⟨(Nat.le_of_ble_eq_true rfl), (Nat.le_of_ble_eq_true rfl)⟩) ⟨fun a U g mk q => ⟨q.1, q.2.1, th.moved (u := U) (U := U.calling g mk a) (Vm.Alike.refl U.vm) q.2.2⟩, fun U hU hW => ⟨rfl, by rw [hU], by rw [hU]; exact ((hth.kept hS.2.1).narrow hF0).moved hW.alike⟩⟩ rfl rfl hl.1 rfl (lv_room (Nat.le_of_ble_eq_true rfl)) dX12_isThere_14 ⟨(Nat.le_of_ble_eq_true rfl), (Nat.le_of_ble_eq_true rfl)⟩) hS (fun q _ h => hF0 q h) hF0 (fun q _ h => hF0 q h) (fun E ce q9 u t H1 locs ht hvm hp hB hz hk hS hce hcv hcl => absurd hp (by decide +kernel)) (fun u t H1 locs ht hvm hp hB hz hk hS => ?_)
  have hP : va_P (dC, dI) CL [(x, .inr (12, xg)), (deA, .inl (deAC, (6, .inr (.inr (.inr (.inr deAF)))))), (de0, .inr (3, de0g)), (de1, .inr (3, de1g)), (de2, .inr (3, de2g)), (de3, .inr (3, de3g)), (de4, .inr (3, de4g)), (de5, .inr (3, de5g)), (oA, .inl (oAC, (1, .inr (.inl oAf))))] H1 := hP.kept (fun k q h9 => hk _ (vx_lt hP h9) (fun h8 => h8.elim (fun ⟨k9, e9, h7⟩ => by simp at h7) (fun h7 => absurd (vx_lt hP h9) (Nat.not_lt.mpr h7))))
  generalize H1 = H at hP hS ⊢
  refine W.widen (k := 1) (n := 6) (Nat.le_of_ble_eq_true rfl) (Nat.le_of_ble_eq_true rfl) ?_
  refine lv_iload_n hx hb dX12_isThere_17 rfl (lv_at hl 1 rfl) ?_
  refine lv_if_ne (tgt := 49) hx hb dX12_isThere_18 (by decide) (fun c9 => ?_) (fun c9 => ?_)
  · first | exact absurd c9 (by decide +kernel) | exact absurd (by decide +kernel) c9
  refine lv_iload_n hx hb dX12_isThere_21 rfl (lv_at hl 2 rfl) ?_
  refine lv_if_lt (tgt := 47) hx hb dX12_isThere_22 (by decide) (fun c9 => ?_) (fun c9 => ?_)
  · first | exact absurd c9 (by decide +kernel) | exact absurd (by decide +kernel) c9
  refine lv_iload_n hx hb dX12_isThere_25 rfl (lv_at hl 2 rfl) ?_
  refine lv_bipush (v := 6) hx hb dX12_isThere_26 (by decide +kernel) ?_
  refine lv_icmp_ge (tgt := 47) hx hb dX12_isThere_28 (by decide) (fun c9 => ?_) (fun c9 => ?_)
  · first | exact absurd c9 (by decide +kernel) | exact absurd (by decide +kernel) c9
  refine lv_aload_n hx hb dX12_isThere_31 rfl (lv_at hl 0 rfl) ?_
  refine va_get (D := (dC, dI)) (ci := 12) (v := .ref deA) (C := RX12) (T := TX12) (N := 17) hx hb hts inX12 hown hK hP 0 rfl rfl 7 (by decide) (hts (.fieldLink RX12 64 "ChipFlow" "designs" "[LChipFlow$Design;") wd_1185) (fun _ h9 => h9) (h_x.get 0 rfl) dX12_isThere_32 ?_
  refine lv_iload_n hx hb dX12_isThere_35 rfl (lv_at hl 2 rfl) ?_
  refine va_aldq hx hb hK hP 1 0 rfl rfl (vp_in_nI (n := 3) (N := 6) (by decide) (by decide)) dX12_isThere_36 ?_
  rw [show (3 : Int32).toNatClampNeg = 3 by decide +kernel, h_deA3]
  refine W.eq (g2 := F0 m 37 ls [.ref de3]) rfl ?_
  refine va_get (D := (dC, dI)) (ci := 3) (v := .int 0) (C := RX3) (T := TX3) (N := 16) hx hb hts inX3 hown hK hP 5 rfl rfl 0 (by decide) (hts (.fieldLink RX12 148 "ChipFlow$Design" "used" "Z") wd_766) (fun _ h9 => h9) (h_de3.get 0 rfl) dX12_isThere_37 ?_
  refine lv_if_eq (tgt := 47) hx hb dX12_isThere_40 (by decide) (fun c9 => ?_) (fun c9 => ?_)
  rotate_left
  · first | exact absurd c9 (by decide +kernel) | exact absurd (by decide +kernel) c9
  refine lv_iconst (v := 0) hx hb dX12_isThere_47 (by decide +kernel) ?_
  refine W.widen (k := 1) (n := 6) (Nat.le_of_ble_eq_true rfl) (Nat.le_of_ble_eq_true rfl) ?_
  exact W.zret (v := 0) hx hb hr rfl (fun t ht hW => ⟨⟨0, (), rfl, rfl, xg, de0g, de1g, de2g, de3g, de4g, de5g, oAf, h_x, h_de0, h_de1, h_de2, h_de3, h_de4, h_de5, h_oA, by rw [ht]; exact hP, va_K.moved hW.alike hK, hD⟩, hS.F ht⟩) hS.2.2 dX12_isThere_48
set_option maxHeartbeats 4000000 in
set_option maxRecDepth 100000 in
theorem gx88_L_isThere (l : Launch) (hlt : l.stackTraces = false) (dC : Nat → ClassId) (dI : Nat → Nat → Nat) (sz : Nat) (x deA de0 de1 de2 de3 de4 de5 oA liA chA : Nat) (xg : List Value) (h_x : fx xg 17 [(7, .ref deA), (8, .ref liA), (9, .ref chA)]) (deAC : ClassId) (deAF : Nat → Option Nat) (de0g : List Value) (h_de0 : fx de0g 16 [(0, .int 0)]) (de1g : List Value) (h_de1 : fx de1g 16 [(0, .int 0)]) (de2g : List Value) (h_de2 : fx de2g 16 [(0, .int 0)]) (de3g : List Value) (h_de3 : fx de3g 16 [(0, .int 0)]) (de4g : List Value) (h_de4 : fx de4g 16 [(0, .int 0)]) (de5g : List Value) (h_de5 : fx de5g 16 [(0, .int 0)]) (oAC : ClassId) (oAf : Nat → Int64) (h_oA : fa oAf []) (h_deA0 : deAF 0 = some de0) (h_deA1 : deAF 1 = some de1) (h_deA2 : deAF 2 = some de2) (h_deA3 : deAF 3 = some de3) (h_deA4 : deAF 4 = some de4) (h_deA5 : deAF 5 = some de5) : Met l yL_isThere (Cond.codeWith yL_isThere cL_isThere 5 (some .int) [(0, 17, 20, 19)] :: BG) ({ frames := 8, cells := 1, slots := 6, locals := 152 }) (va_Pc [.ref x, .int 0, .int 3, .ref oA] (fun U => U.heap.size = sz ∧ va_P (dC, dI) CL [(x, .inr (12, xg)), (deA, .inl (deAC, (6, .inr (.inr (.inr (.inr deAF)))))), (de0, .inr (3, de0g)), (de1, .inr (3, de1g)), (de2, .inr (3, de2g)), (de3, .inr (3, de3g)), (de4, .inr (3, de4g)), (de5, .inr (3, de5g)), (oA, .inl (oAC, (1, .inr (.inl oAf))))] U.heap ∧ va_K (dC, dI) CL [(deAC, .object "ChipFlow$Design"), (oAC, .long)] U ∧ va_D (fun _ => True) [(x, .inr (12, xg)), (deA, .inl (deAC, (6, .inr (.inr (.inr (.inr deAF)))))), (de0, .inr (3, de0g)), (de1, .inr (3, de1g)), (de2, .inr (3, de2g)), (de3, .inr (3, de3g)), (de4, .inr (3, de4g)), (de5, .inr (3, de5g)), (oA, .inl (oAC, (1, .inr (.inl oAf))))] ∧ th (va_A [(x, .inr (12, xg)), (deA, .inl (deAC, (6, .inr (.inr (.inr (.inr deAF)))))), (de0, .inr (3, de0g)), (de1, .inr (3, de1g)), (de2, .inr (3, de2g)), (de3, .inr (3, de3g)), (de4, .inr (3, de4g)), (de5, .inr (3, de5g)), (oA, .inl (oAC, (1, .inr (.inl oAf))))] sz) U U.heap)) (va_Qi (fun (r : Int32) (_ : Unit) => r = 0) (fun _ t => ∃ (xy : List Value) (de0y : List Value) (de1y : List Value) (de2y : List Value) (de3y : List Value) (de4y : List Value) (de5y : List Value) (oAy : Nat → Int64), fx xy 17 [(7, .ref deA), (8, .ref liA), (9, .ref chA)] ∧ fx de0y 16 [(0, .int 0)] ∧ fx de1y 16 [(0, .int 0)] ∧ fx de2y 16 [(0, .int 0)] ∧ fx de3y 16 [(0, .int 0)] ∧ fx de4y 16 [(0, .int 0)] ∧ fx de5y 16 [(0, .int 0)] ∧ fa oAy [(0, 0)] ∧ va_P (dC, dI) CL [(x, .inr (12, xy)), (deA, .inl (deAC, (6, .inr (.inr (.inr (.inr deAF)))))), (de0, .inr (3, de0y)), (de1, .inr (3, de1y)), (de2, .inr (3, de2y)), (de3, .inr (3, de3y)), (de4, .inr (3, de4y)), (de5, .inr (3, de5y)), (oA, .inl (oAC, (1, .inr (.inl oAy))))] t.heap ∧ va_K (dC, dI) CL [(deAC, .object "ChipFlow$Design"), (oAC, .long)] t ∧ va_D (va_A [(x, .inr (12, xg)), (deA, .inl (deAC, (6, .inr (.inr (.inr (.inr deAF)))))), (de0, .inr (3, de0g)), (de1, .inr (3, de1g)), (de2, .inr (3, de2g)), (de3, .inr (3, de3g)), (de4, .inr (3, de4g)), (de5, .inr (3, de5g)), (oA, .inl (oAC, (1, .inr (.inl oAf))))] sz) [(x, .inr (12, xy)), (deA, .inl (deAC, (6, .inr (.inr (.inr (.inr deAF)))))), (de0, .inr (3, de0y)), (de1, .inr (3, de1y)), (de2, .inr (3, de2y)), (de3, .inr (3, de3y)), (de4, .inr (3, de4y)), (de5, .inr (3, de5y)), (oA, .inl (oAC, (1, .inr (.inl oAy))))]) (va_A [(x, .inr (12, xg)), (deA, .inl (deAC, (6, .inr (.inr (.inr (.inr deAF)))))), (de0, .inr (3, de0g)), (de1, .inr (3, de1g)), (de2, .inr (3, de2g)), (de3, .inr (3, de3g)), (de4, .inr (3, de4g)), (de5, .inr (3, de5g)), (oA, .inl (oAC, (1, .inr (.inl oAf))))] sz)) 1 6 (va_A [(x, .inr (12, xg)), (deA, .inl (deAC, (6, .inr (.inr (.inr (.inr deAF)))))), (de0, .inr (3, de0g)), (de1, .inr (3, de1g)), (de2, .inr (3, de2g)), (de3, .inr (3, de3g)), (de4, .inr (3, de4g)), (de5, .inr (3, de5g)), (oA, .inl (oAC, (1, .inr (.inl oAf))))] sz) := by
  refine va_MetW (hh := [(0, 17, 20, 19)]) (cc := cL_isThere) (maxL := 5) (ret := (some .int)) (by decide) rfl ?_
  intro p e s m args below meth c s₁ B hml hv
  obtain ⟨rfl, hsz, hP, hK, hD0, hth⟩ := hv
  have hx := B.exec
  have hb := B.bytes
  have hr := B.returns
  have hts : ∀ w ∈ BG, w.before _ s = true := fun w h => atoms_spec (ws := Cond.codeWith yL_isThere cL_isThere 5 (some .int) [(0, 17, 20, 19)] :: BG) B.pre w (List.mem_cons_of_mem _ h)
  have hown : s.vm.findClass RL = some m.cls := findClass_of_methodNamed B.named
  have hlocks := B.notSynchronized
  subst hsz
  have hD := hD0.self (sz := s.heap.size)
  generalize hAe : va_A [(x, .inr (12, xg)), (deA, .inl (deAC, (6, .inr (.inr (.inr (.inr deAF)))))), (de0, .inr (3, de0g)), (de1, .inr (3, de1g)), (de2, .inr (3, de2g)), (de3, .inr (3, de3g)), (de4, .inr (3, de4g)), (de5, .inr (3, de5g)), (oA, .inl (oAC, (1, .inr (.inl oAf))))] s.heap.size = A at hD hth ⊢
  have hA : ∀ q : Nat, s.heap.size ≤ q → A q := fun q h => by rw [← hAe]; exact Or.inr h
  have hS : va_S A s.heap s.heap [] := va_S.rf
  have hl := lv_entry ([.ref x, .int 0, .int 3, .ref oA]) (n := 5) (Nat.le_of_ble_eq_true rfl)
  rw [lg_entry_eq]
  generalize (lg_sl ([.ref x, .int 0, .int 3, .ref oA]) ++ List.replicate (5 - (lg_sl ([.ref x, .int 0, .int 3, .ref oA])).length) Slot.unset).toArray = ls at hl ⊢
  have hl : lv_has ls 5 [(0, .ref x), (1, .int 0), (2, .int 3), (3, .ref oA)] := hl
  obtain ⟨H, eH⟩ : ∃ z, z = s.heap := ⟨_, rfl⟩
  have hP : va_P (dC, dI) CL [(x, .inr (12, xg)), (deA, .inl (deAC, (6, .inr (.inr (.inr (.inr deAF)))))), (de0, .inr (3, de0g)), (de1, .inr (3, de1g)), (de2, .inr (3, de2g)), (de3, .inr (3, de3g)), (de4, .inr (3, de4g)), (de5, .inr (3, de5g)), (oA, .inl (oAC, (1, .inr (.inl oAf))))] H := by rw [eH]; exact hP
  have hS : va_S A s.heap H [] := by rw [eH]; exact hS
  rw [← eH]
  have hT : c.exceptionTable.toList = tableOf [(0, 17, 20, 19)] := vx_table (x := yL_isThere) B (atoms_spec (ws := Cond.codeWith yL_isThere cL_isThere 5 (some .int) [(0, 17, 20, 19)] :: BG) B.pre _ List.mem_cons_self)
  refine lv_aload_n hx hb dL_isThere_0 rfl (lv_at hl 3 rfl) ?_
  refine lv_iconst (v := 0) hx hb dL_isThere_1 (by decide +kernel) ?_
  refine lv_aload_n hx hb dL_isThere_2 rfl (lv_at hl 0 rfl) ?_
  refine lv_iload_n hx hb dL_isThere_3 rfl (lv_at hl 1 rfl) ?_
  refine lv_iload_n hx hb dL_isThere_4 rfl (lv_at hl 2 rfl) ?_
  have hFc := va_free (wc := [(x, .inr (12, xg)), (deA, .inl (deAC, (6, .inr (.inr (.inr (.inr deAF)))))), (de0, .inr (3, de0g)), (de1, .inr (3, de1g)), (de2, .inr (3, de2g)), (de3, .inr (3, de3g)), (de4, .inr (3, de4g)), (de5, .inr (3, de5g)), (oA, .inl (oAC, (1, .inr (.inl oAf))))]) hD hS hA [0, 1, 2, 3, 4, 5, 6, 7, 8] rfl
  refine va_calli (va_runV (As := [.int 0, .int 3]) (rest := [.int 0, .ref oA]) ⟨hx, hb, hml, hown, hts⟩ (gx89_X12_isThere l hlt dC dI _ x deA de0 de1 de2 de3 de4 de5 oA liA chA xg h_x deAC deAF de0g h_de0 de1g h_de1 de2g h_de2 de3g h_de3 de4g h_de4 de5g h_de5 oAC oAf h_oA h_deA0 h_deA1 h_deA2 h_deA3 h_deA4 h_deA5) (cwV 2 hts (gi_V wd_1842 wd_1843 wd_1844 wd_327 wd_1845) rfl rfl rfl (by decide +kernel) ⟨(Nat.le_of_ble_eq_true rfl), (Nat.le_of_ble_eq_true rfl)⟩) ⟨fun a U g mk q => by obtain ⟨q0, q1, qP, qK, qD, qT⟩ := q; exact ⟨q0, q1, qP, va_K.moved (u := U) (U := U.calling g mk a) (Vm.Alike.refl U.vm) qK, qD, th.moved (u := U) (U := U.calling g mk a) (Vm.Alike.refl U.vm) qT⟩, va_recv hK hP (ci := 12) (q0 := 0) rfl rfl, fun U hU hW => ⟨rfl, by rw [hU], by rw [hU]; exact hP, va_K.moved hW.alike hK, hD.weaken (fun _ _ _ _ => trivial), by rw [hU]; exact ((hth.kept hS.2.1).narrow hFc).moved hW.alike⟩⟩ rfl rfl hl.1 rfl (lv_room (Nat.le_of_ble_eq_true rfl)) dL_isThere_5 ⟨(Nat.le_of_ble_eq_true rfl), (Nat.le_of_ble_eq_true rfl)⟩) hS (fun q _ h => hFc q h) hFc (fun r u t H1 locs ht hvm hw hB hz1 hk1 hS => ?_)
  subst hw
  obtain ⟨fs_1, fs_2, fs_3, fs_4, fs_5, fs_6, fs_7, f_8, h_x, h_de0, h_de1, h_de2, h_de3, h_de4, h_de5, h_oA, hP1, hK1, hD1⟩ := hB
  rw [ht] at hP1
  have hD := hD1.weaken (fun k q _ h => hFc q.1 h)
  have hP := hP1
  generalize H1 = H at hP hS ⊢
  have hP : va_P (dC, dI) CL [(x, .inr (12, fs_1)), (deA, .inl (deAC, (6, .inr (.inr (.inr (.inr deAF)))))), (de0, .inr (3, fs_2)), (de1, .inr (3, fs_3)), (de2, .inr (3, fs_4)), (de3, .inr (3, fs_5)), (de4, .inr (3, fs_6)), (de5, .inr (3, fs_7)), (oA, .inl (oAC, (1, .inr (.inl f_8))))] H := hP
  have hD : va_D A [(x, .inr (12, fs_1)), (deA, .inl (deAC, (6, .inr (.inr (.inr (.inr deAF)))))), (de0, .inr (3, fs_2)), (de1, .inr (3, fs_3)), (de2, .inr (3, fs_4)), (de3, .inr (3, fs_5)), (de4, .inr (3, fs_6)), (de5, .inr (3, fs_7)), (oA, .inl (oAC, (1, .inr (.inl f_8))))] := hD
  refine W.widen (k := 1) (n := 6) (Nat.le_of_ble_eq_true rfl) (Nat.le_of_ble_eq_true rfl) ?_
  refine lv_if_eq (tgt := 15) hx hb dL_isThere_8 (by decide) (fun c9 => ?_) (fun c9 => ?_)
  rotate_left
  · first | exact absurd c9 (by decide +kernel) | exact absurd (by decide +kernel) c9
  refine lv_lconst (v := 0) hx hb dL_isThere_15 (by decide) ?_
  refine va_last hx hb hK hP hD hS 8 1 rfl rfl (vp_in_nI (n := 0) (N := 1) (by decide) (by decide)) dL_isThere_16 (fun H locs hP hD hS => ?_)
  obtain ⟨f_9, e9⟩ : ∃ z, z = vp_updL f_8 (0 : Int32).toNatClampNeg 0 := ⟨_, rfl⟩
  have h_oA : fa f_9 [(0, 0)] := by rw [e9, show (0 : Int32).toNatClampNeg = 0 by decide +kernel]; exact (fa.putL h_oA).sub [0] rfl
  have hP : va_P (dC, dI) CL [(x, .inr (12, fs_1)), (deA, .inl (deAC, (6, .inr (.inr (.inr (.inr deAF)))))), (de0, .inr (3, fs_2)), (de1, .inr (3, fs_3)), (de2, .inr (3, fs_4)), (de3, .inr (3, fs_5)), (de4, .inr (3, fs_6)), (de5, .inr (3, fs_7)), (oA, .inl (oAC, (1, .inr (.inl f_9))))] H := by rw [e9]; exact hP
  have hD : va_D A [(x, .inr (12, fs_1)), (deA, .inl (deAC, (6, .inr (.inr (.inr (.inr deAF)))))), (de0, .inr (3, fs_2)), (de1, .inr (3, fs_3)), (de2, .inr (3, fs_4)), (de3, .inr (3, fs_5)), (de4, .inr (3, fs_6)), (de5, .inr (3, fs_7)), (oA, .inl (oAC, (1, .inr (.inl f_9))))] := by rw [e9]; exact hD
  clear e9
  refine lv_goto (tgt := 24) hx hb dL_isThere_17 (by decide) ?_
  refine lv_iconst (v := 0) hx hb dL_isThere_24 (by decide +kernel) ?_
  refine W.widen (k := 1) (n := 6) (Nat.le_of_ble_eq_true rfl) (Nat.le_of_ble_eq_true rfl) ?_
  exact W.iret (v := 0) hx hb hr (fun t ht hW => ⟨⟨0, (), rfl, rfl, fs_1, fs_2, fs_3, fs_4, fs_5, fs_6, fs_7, f_9, h_x, h_de0, h_de1, h_de2, h_de3, h_de4, h_de5, h_oA, by rw [ht]; exact hP, va_K.moved hW.alike hK, hD⟩, hS.F ht⟩) hS.2.2 dL_isThere_25
set_option maxHeartbeats 4000000 in
set_option maxRecDepth 100000 in
theorem gx91_X13_isOne (l : Launch) (hlt : l.stackTraces = false) (dC : Nat → ClassId) (dI : Nat → Nat → Nat) (sz : Nat) (m0 md ml mch : Nat) (m0g : List Value) (h_m0 : fx m0g 225 [(0, .int 0), (2, .int 0), (3, .int 0), (9, .int 0), (10, .int 0), (11, .int 0), (12, .int 0), (27, .int 0), (55, .ref md), (79, .int 0), (83, .int 0), (88, .ref ml), (95, .int 0), (138, .ref mch)]) (mdC : ClassId) : Met l yX13_isOne (Cond.code yX13_isOne cX13_isOne 3 (some .boolean) :: BG) ({ frames := 2, cells := 0, slots := 0, locals := 33 }) (va_Pc [.ref m0, .int 0, .int 3] (fun U => U.heap.size = sz ∧ va_P (dC, dI) CL [(m0, .inr (13, m0g)), (md, .inl (mdC, (6, .inl (fun _ => 0))))] U.heap ∧ va_K (dC, dI) CL [(mdC, .boolean)] U ∧ va_D (fun _ => True) [(m0, .inr (13, m0g)), (md, .inl (mdC, (6, .inl (fun _ => 0))))] ∧ th (va_A [(m0, .inr (13, m0g)), (md, .inl (mdC, (6, .inl (fun _ => 0))))] sz) U U.heap)) (va_Qi (fun (r : Int32) (_ : Unit) => r = 0) (fun _ t => ∃ (m0y : List Value), fx m0y 225 [(0, .int 0), (2, .int 0), (3, .int 0), (9, .int 0), (10, .int 0), (11, .int 0), (12, .int 0), (27, .int 0), (55, .ref md), (79, .int 0), (83, .int 0), (88, .ref ml), (95, .int 0), (138, .ref mch)] ∧ va_P (dC, dI) CL [(m0, .inr (13, m0y)), (md, .inl (mdC, (6, .inl (fun _ => 0))))] t.heap ∧ va_K (dC, dI) CL [(mdC, .boolean)] t ∧ va_D (va_A [(m0, .inr (13, m0g)), (md, .inl (mdC, (6, .inl (fun _ => 0))))] sz) [(m0, .inr (13, m0y)), (md, .inl (mdC, (6, .inl (fun _ => 0))))]) (va_A [(m0, .inr (13, m0g)), (md, .inl (mdC, (6, .inl (fun _ => 0))))] sz)) 0 0 (va_A [(m0, .inr (13, m0g)), (md, .inl (mdC, (6, .inl (fun _ => 0))))] sz) := by
  refine Met.ofW (cc := cX13_isOne) (maxL := 3) (ret := (some .boolean)) (by decide) rfl ?_
  intro p e s m args below meth c s₁ B hml hv
  obtain ⟨rfl, hsz, hP, hK, hD0, hth⟩ := hv
  have hx := B.exec
  have hb := B.bytes
  have hr := B.returns
  have hts : ∀ w ∈ BG, w.before _ s = true := fun w h => atoms_spec (ws := Cond.code yX13_isOne cX13_isOne 3 (some .boolean) :: BG) B.pre w (List.mem_cons_of_mem _ h)
  have hown : s.vm.findClass RX13 = some m.cls := findClass_of_methodNamed B.named
  have hlocks := B.notSynchronized
  subst hsz
  have hD := hD0.self (sz := s.heap.size)
  generalize hAe : va_A [(m0, .inr (13, m0g)), (md, .inl (mdC, (6, .inl (fun _ => 0))))] s.heap.size = A at hD hth ⊢
  have hA : ∀ q : Nat, s.heap.size ≤ q → A q := fun q h => by rw [← hAe]; exact Or.inr h
  have hS : va_S A s.heap s.heap [] := va_S.rf
  have hl := lv_entry ([.ref m0, .int 0, .int 3]) (n := 3) (Nat.le_of_ble_eq_true rfl)
  rw [lg_entry_eq]
  generalize (lg_sl ([.ref m0, .int 0, .int 3]) ++ List.replicate (3 - (lg_sl ([.ref m0, .int 0, .int 3])).length) Slot.unset).toArray = ls at hl ⊢
  have hl : lv_has ls 3 [(0, .ref m0), (1, .int 0), (2, .int 3)] := hl
  obtain ⟨H, eH⟩ : ∃ z, z = s.heap := ⟨_, rfl⟩
  have hP : va_P (dC, dI) CL [(m0, .inr (13, m0g)), (md, .inl (mdC, (6, .inl (fun _ => 0))))] H := by rw [eH]; exact hP
  have hS : va_S A s.heap H [] := by rw [eH]; exact hS
  rw [← eH]
  refine lv_iload_n hx hb dX13_isOne_0 rfl (lv_at hl 1 rfl) ?_
  refine lv_if_ne (tgt := 12) hx hb dX13_isOne_1 (by decide) (fun c9 => ?_) (fun c9 => ?_)
  · first | exact absurd c9 (by decide +kernel) | exact absurd (by decide +kernel) c9
  refine lv_aload_n hx hb dX13_isOne_4 rfl (lv_at hl 0 rfl) ?_
  refine lv_iload_n hx hb dX13_isOne_5 rfl (lv_at hl 2 rfl) ?_
  have hFc := va_free (wc := [(m0, .inr (13, m0g)), (md, .inl (mdC, (6, .inl (fun _ => 0))))]) hD hS hA [0, 1] rfl
  refine va_calli (va_runV (As := [.int 3]) (rest := []) ⟨hx, hb, hml, hown, hts⟩ (ct_X13_isDesign l dC dI _ 3 m0 m0g md mdC (h_m0.sub [8] rfl)) (cwV 1 hts (gi_V wd_4076 wd_4078 wd_215 wd_340 wd_4079) rfl rfl rfl (by decide +kernel) ⟨(Nat.le_of_ble_eq_true rfl), (Nat.le_of_ble_eq_true rfl)⟩) ⟨fun a U g mk q => by obtain ⟨q0, q1, qP, qK, qD⟩ := q; exact ⟨q0, q1, qP, va_K.moved (u := U) (U := U.calling g mk a) (Vm.Alike.refl U.vm) qK, qD⟩, va_recv hK hP (ci := 13) (q0 := 0) rfl rfl, fun U hU hW => ⟨rfl, by rw [hU], by rw [hU]; exact hP, va_K.moved hW.alike hK, hD.weaken (fun _ _ _ _ => trivial)⟩⟩ rfl rfl hl.1 rfl (lv_room (Nat.le_of_ble_eq_true rfl)) dX13_isOne_6 ⟨(Nat.le_of_ble_eq_true rfl), (Nat.le_of_ble_eq_true rfl)⟩) hS (fun q _ h => hFc q h) hFc (fun r u t H1 locs ht hvm hw hB hz1 hk1 hS => ?_)
  subst hw
  obtain ⟨hP1, hK1, hD1⟩ := hB
  rw [ht] at hP1
  have hD := hD1.weaken (fun k q _ h => hFc q.1 h)
  have hP := hP1
  generalize H1 = H at hP hS ⊢
  have hP : va_P (dC, dI) CL [(m0, .inr (13, m0g)), (md, .inl (mdC, (6, .inl (fun _ => 0))))] H := hP
  have hD : va_D A [(m0, .inr (13, m0g)), (md, .inl (mdC, (6, .inl (fun _ => 0))))] := hD
  refine lv_goto (tgt := 30) hx hb dX13_isOne_9 (by decide) ?_
  exact W.zret (v := 0) hx hb hr rfl (fun t ht hW => ⟨⟨0, (), rfl, rfl, m0g, h_m0, by rw [ht]; exact hP, va_K.moved hW.alike hK, hD⟩, hS.F ht⟩) hS.2.2 dX13_isOne_30
set_option maxHeartbeats 4000000 in
set_option maxRecDepth 100000 in
theorem gx90_X13_isThere (l : Launch) (hlt : l.stackTraces = false) (dC : Nat → ClassId) (dI : Nat → Nat → Nat) (sz : Nat) (m0 md ml mch : Nat) (m0g : List Value) (h_m0 : fx m0g 225 [(0, .int 0), (2, .int 0), (3, .int 0), (9, .int 0), (10, .int 0), (11, .int 0), (12, .int 0), (27, .int 0), (55, .ref md), (79, .int 0), (83, .int 0), (88, .ref ml), (95, .int 0), (138, .ref mch)]) (mdC : ClassId) : Met l yX13_isThere (Cond.code yX13_isThere cX13_isThere 3 (some .boolean) :: BG) ({ frames := 3, cells := 0, slots := 0, locals := 55 }) (va_Pc [.ref m0, .int 0, .int 3] (fun U => U.heap.size = sz ∧ va_P (dC, dI) CL [(m0, .inr (13, m0g)), (md, .inl (mdC, (6, .inl (fun _ => 0))))] U.heap ∧ va_K (dC, dI) CL [(mdC, .boolean)] U ∧ va_D (fun _ => True) [(m0, .inr (13, m0g)), (md, .inl (mdC, (6, .inl (fun _ => 0))))] ∧ th (va_A [(m0, .inr (13, m0g)), (md, .inl (mdC, (6, .inl (fun _ => 0))))] sz) U U.heap)) (va_Qi (fun (r : Int32) (_ : Unit) => r = 0) (fun _ t => ∃ (m0y : List Value), fx m0y 225 [(0, .int 0), (2, .int 0), (3, .int 0), (9, .int 0), (10, .int 0), (11, .int 0), (12, .int 0), (27, .int 0), (55, .ref md), (79, .int 0), (83, .int 0), (88, .ref ml), (95, .int 0), (138, .ref mch)] ∧ va_P (dC, dI) CL [(m0, .inr (13, m0y)), (md, .inl (mdC, (6, .inl (fun _ => 0))))] t.heap ∧ va_K (dC, dI) CL [(mdC, .boolean)] t ∧ va_D (va_A [(m0, .inr (13, m0g)), (md, .inl (mdC, (6, .inl (fun _ => 0))))] sz) [(m0, .inr (13, m0y)), (md, .inl (mdC, (6, .inl (fun _ => 0))))]) (va_A [(m0, .inr (13, m0g)), (md, .inl (mdC, (6, .inl (fun _ => 0))))] sz)) 0 0 (va_A [(m0, .inr (13, m0g)), (md, .inl (mdC, (6, .inl (fun _ => 0))))] sz) := by
  refine Met.ofW (cc := cX13_isThere) (maxL := 3) (ret := (some .boolean)) (by decide) rfl ?_
  intro p e s m args below meth c s₁ B hml hv
  obtain ⟨rfl, hsz, hP, hK, hD0, hth⟩ := hv
  have hx := B.exec
  have hb := B.bytes
  have hr := B.returns
  have hts : ∀ w ∈ BG, w.before _ s = true := fun w h => atoms_spec (ws := Cond.code yX13_isThere cX13_isThere 3 (some .boolean) :: BG) B.pre w (List.mem_cons_of_mem _ h)
  have hown : s.vm.findClass RX13 = some m.cls := findClass_of_methodNamed B.named
  have hlocks := B.notSynchronized
  subst hsz
  have hD := hD0.self (sz := s.heap.size)
  generalize hAe : va_A [(m0, .inr (13, m0g)), (md, .inl (mdC, (6, .inl (fun _ => 0))))] s.heap.size = A at hD hth ⊢
  have hA : ∀ q : Nat, s.heap.size ≤ q → A q := fun q h => by rw [← hAe]; exact Or.inr h
  have hS : va_S A s.heap s.heap [] := va_S.rf
  have hl := lv_entry ([.ref m0, .int 0, .int 3]) (n := 3) (Nat.le_of_ble_eq_true rfl)
  rw [lg_entry_eq]
  generalize (lg_sl ([.ref m0, .int 0, .int 3]) ++ List.replicate (3 - (lg_sl ([.ref m0, .int 0, .int 3])).length) Slot.unset).toArray = ls at hl ⊢
  have hl : lv_has ls 3 [(0, .ref m0), (1, .int 0), (2, .int 3)] := hl
  obtain ⟨H, eH⟩ : ∃ z, z = s.heap := ⟨_, rfl⟩
  have hP : va_P (dC, dI) CL [(m0, .inr (13, m0g)), (md, .inl (mdC, (6, .inl (fun _ => 0))))] H := by rw [eH]; exact hP
  have hS : va_S A s.heap H [] := by rw [eH]; exact hS
  rw [← eH]
  refine lv_aload_n hx hb dX13_isThere_0 rfl (lv_at hl 0 rfl) ?_
  refine lv_iload_n hx hb dX13_isThere_1 rfl (lv_at hl 1 rfl) ?_
  refine lv_iconst (v := 0) hx hb dX13_isThere_2 (by decide +kernel) ?_
  refine lv_iconst (v := 2) hx hb dX13_isThere_3 (by decide +kernel) ?_
  have hFc := va_free (wc := [(m0, .inr (13, m0g)), (md, .inl (mdC, (6, .inl (fun _ => 0))))]) hD hS hA [0, 1] rfl
  refine va_calli (va_runS (As := [.int 0, .int 0, .int 2]) (rest := [.ref m0]) ⟨hx, hb, hml, hown, hts⟩ (gx48_X13_within l hlt dC dI _ m0 md ml mch m0g h_m0 mdC) (cwS 3 hts (gi_S wd_3825 wd_3826 wd_340 wd_3827) rfl rfl rfl (by decide +kernel) ⟨(Nat.le_of_ble_eq_true rfl), (Nat.le_of_ble_eq_true rfl)⟩) ⟨fun a U g mk q => by obtain ⟨q0, q1, qP, qK, qD, qT⟩ := q; exact ⟨q0, q1, qP, va_K.moved (u := U) (U := U.calling g mk a) (Vm.Alike.refl U.vm) qK, qD, th.moved (u := U) (U := U.calling g mk a) (Vm.Alike.refl U.vm) qT⟩, fun U hU hW => ⟨rfl, by rw [hU], by rw [hU]; exact hP, va_K.moved hW.alike hK, hD.weaken (fun _ _ _ _ => trivial), by rw [hU]; exact ((hth.kept hS.2.1).narrow hFc).moved hW.alike⟩⟩ rfl rfl hl.1 rfl (lv_room (Nat.le_of_ble_eq_true rfl)) dX13_isThere_4 ⟨(Nat.le_of_ble_eq_true rfl), (Nat.le_of_ble_eq_true rfl)⟩) hS (fun q _ h => hFc q h) hFc (fun r u t H1 locs ht hvm hw hB hz1 hk1 hS => ?_)
  subst hw
  obtain ⟨fs_1, h_m0, hP1, hK1, hD1⟩ := hB
  rw [ht] at hP1
  have hD := hD1.weaken (fun k q _ h => hFc q.1 h)
  have hP := hP1
  generalize H1 = H at hP hS ⊢
  have hP : va_P (dC, dI) CL [(m0, .inr (13, fs_1)), (md, .inl (mdC, (6, .inl (fun _ => 0))))] H := hP
  have hD : va_D A [(m0, .inr (13, fs_1)), (md, .inl (mdC, (6, .inl (fun _ => 0))))] := hD
  refine lv_if_eq (tgt := 14) hx hb dX13_isThere_7 (by decide) (fun c9 => ?_) (fun c9 => ?_)
  · first | exact absurd c9 (by decide +kernel) | exact absurd (by decide +kernel) c9
  refine lv_iconst (v := 0) hx hb dX13_isThere_10 (by decide +kernel) ?_
  refine lv_goto (tgt := 15) hx hb dX13_isThere_11 (by decide) ?_
  refine va_put (D := (dC, dI)) (ci := 13) (v := .int 0) (ty := tyX13 0) (C := RX13) (T := TX13) (N := 225) hx hb hts inX13 tyX13 tyX13_ok nmX13 hown hK hP hD hS 0 rfl rfl 0 (by decide) (hts (.fieldLink RX13 1 "ChipFlowModel" "code" "I") wd_3032) (fun _ h9 => h9) rfl (by decide +kernel) rfl rfl (by rw [h_m0.1]; decide) dX13_isThere_15 (fun H locs hP hD hS => ?_)
  obtain ⟨fs_2, e9⟩ : ∃ z, z = fs_1.set 0 (.int 0) := ⟨_, rfl⟩
  have h_m0 : fx fs_2 225 [(0, .int 0), (2, .int 0), (3, .int 0), (9, .int 0), (10, .int 0), (11, .int 0), (12, .int 0), (27, .int 0), (55, .ref md), (79, .int 0), (83, .int 0), (88, .ref ml), (95, .int 0), (138, .ref mch)] := by rw [e9]; exact (h_m0.put (F' := [(0, .int 0), (2, .int 0), (3, .int 0), (9, .int 0), (10, .int 0), (11, .int 0), (12, .int 0), (27, .int 0), (55, .ref md), (79, .int 0), (83, .int 0), (88, .ref ml), (95, .int 0), (138, .ref mch)]) (by decide) _ rfl).sub [0, 1, 2, 3, 4, 5, 6, 7, 8, 9, 10, 11, 12, 13] rfl
  have hP : va_P (dC, dI) CL [(m0, .inr (13, fs_2)), (md, .inl (mdC, (6, .inl (fun _ => 0))))] H := by rw [e9]; exact hP
  have hD : va_D A [(m0, .inr (13, fs_2)), (md, .inl (mdC, (6, .inl (fun _ => 0))))] := by rw [e9]; exact hD
  clear e9
  refine lv_aload_n hx hb dX13_isThere_18 rfl (lv_at hl 0 rfl) ?_
  refine va_get (D := (dC, dI)) (ci := 13) (v := .int 0) (C := RX13) (T := TX13) (N := 225) hx hb hts inX13 hown hK hP 0 rfl rfl 0 (by decide) (hts (.fieldLink RX13 1 "ChipFlowModel" "code" "I") wd_3032) (fun _ h9 => h9) (h_m0.get 0 rfl) dX13_isThere_19 ?_
  refine lv_if_ne (tgt := 38) hx hb dX13_isThere_22 (by decide) (fun c9 => ?_) (fun c9 => ?_)
  · first | exact absurd c9 (by decide +kernel) | exact absurd (by decide +kernel) c9
  refine lv_aload_n hx hb dX13_isThere_25 rfl (lv_at hl 0 rfl) ?_
  refine lv_iload_n hx hb dX13_isThere_26 rfl (lv_at hl 1 rfl) ?_
  refine lv_iload_n hx hb dX13_isThere_27 rfl (lv_at hl 2 rfl) ?_
  have hFc := va_free (wc := [(m0, .inr (13, fs_2)), (md, .inl (mdC, (6, .inl (fun _ => 0))))]) hD hS hA [0, 1] rfl
  refine va_calli (va_runV (As := [.int 0, .int 3]) (rest := []) ⟨hx, hb, hml, hown, hts⟩ (gx91_X13_isOne l hlt dC dI _ m0 md ml mch fs_2 h_m0 mdC) (cwV 2 hts (gi_V wd_4072 wd_4074 wd_214 wd_340 wd_4075) rfl rfl rfl (by decide +kernel) ⟨(Nat.le_of_ble_eq_true rfl), (Nat.le_of_ble_eq_true rfl)⟩) ⟨fun a U g mk q => by obtain ⟨q0, q1, qP, qK, qD, qT⟩ := q; exact ⟨q0, q1, qP, va_K.moved (u := U) (U := U.calling g mk a) (Vm.Alike.refl U.vm) qK, qD, th.moved (u := U) (U := U.calling g mk a) (Vm.Alike.refl U.vm) qT⟩, va_recv hK hP (ci := 13) (q0 := 0) rfl rfl, fun U hU hW => ⟨rfl, by rw [hU], by rw [hU]; exact hP, va_K.moved hW.alike hK, hD.weaken (fun _ _ _ _ => trivial), by rw [hU]; exact ((hth.kept hS.2.1).narrow hFc).moved hW.alike⟩⟩ rfl rfl hl.1 rfl (lv_room (Nat.le_of_ble_eq_true rfl)) dX13_isThere_28 ⟨(Nat.le_of_ble_eq_true rfl), (Nat.le_of_ble_eq_true rfl)⟩) hS (fun q _ h => hFc q h) hFc (fun r u t H1 locs ht hvm hw hB hz1 hk1 hS => ?_)
  subst hw
  obtain ⟨fs_3, h_m0, hP1, hK1, hD1⟩ := hB
  rw [ht] at hP1
  have hD := hD1.weaken (fun k q _ h => hFc q.1 h)
  have hP := hP1
  generalize H1 = H at hP hS ⊢
  have hP : va_P (dC, dI) CL [(m0, .inr (13, fs_3)), (md, .inl (mdC, (6, .inl (fun _ => 0))))] H := hP
  have hD : va_D A [(m0, .inr (13, fs_3)), (md, .inl (mdC, (6, .inl (fun _ => 0))))] := hD
  refine lv_if_eq (tgt := 38) hx hb dX13_isThere_31 (by decide) (fun c9 => ?_) (fun c9 => ?_)
  rotate_left
  · first | exact absurd c9 (by decide +kernel) | exact absurd (by decide +kernel) c9
  refine lv_iconst (v := 0) hx hb dX13_isThere_38 (by decide +kernel) ?_
  exact W.zret (v := 0) hx hb hr rfl (fun t ht hW => ⟨⟨0, (), rfl, rfl, fs_3, h_m0, by rw [ht]; exact hP, va_K.moved hW.alike hK, hD⟩, hS.F ht⟩) hS.2.2 dX13_isThere_39
set_option maxHeartbeats 4000000 in
set_option maxRecDepth 100000 in
theorem gx93_X12_isThere (l : Launch) (hlt : l.stackTraces = false) (dC : Nat → ClassId) (dI : Nat → Nat → Nat) (sz : Nat) (x deA de0 de1 de2 de3 de4 de5 oA liA chA : Nat) (xg : List Value) (h_x : fx xg 17 [(7, .ref deA), (8, .ref liA), (9, .ref chA)]) (deAC : ClassId) (deAF : Nat → Option Nat) (de0g : List Value) (h_de0 : fx de0g 16 [(0, .int 0)]) (de1g : List Value) (h_de1 : fx de1g 16 [(0, .int 0)]) (de2g : List Value) (h_de2 : fx de2g 16 [(0, .int 0)]) (de3g : List Value) (h_de3 : fx de3g 16 [(0, .int 0)]) (de4g : List Value) (h_de4 : fx de4g 16 [(0, .int 0)]) (de5g : List Value) (h_de5 : fx de5g 16 [(0, .int 0)]) (oAC : ClassId) (oAf : Nat → Int64) (h_oA : fa oAf []) (h_deA0 : deAF 0 = some de0) (h_deA1 : deAF 1 = some de1) (h_deA2 : deAF 2 = some de2) (h_deA3 : deAF 3 = some de3) (h_deA4 : deAF 4 = some de4) (h_deA5 : deAF 5 = some de5) : Met l yX12_isThere (Cond.code yX12_isThere cX12_isThere 3 (some .boolean) :: BG) ({ frames := 7, cells := 1, slots := 6, locals := 130 }) (va_Pc [.ref x, .int 0, .int 4] (fun U => U.heap.size = sz ∧ va_P (dC, dI) CL [(x, .inr (12, xg)), (deA, .inl (deAC, (6, .inr (.inr (.inr (.inr deAF)))))), (de0, .inr (3, de0g)), (de1, .inr (3, de1g)), (de2, .inr (3, de2g)), (de3, .inr (3, de3g)), (de4, .inr (3, de4g)), (de5, .inr (3, de5g)), (oA, .inl (oAC, (1, .inr (.inl oAf))))] U.heap ∧ va_K (dC, dI) CL [(deAC, .object "ChipFlow$Design"), (oAC, .long)] U ∧ va_D (fun _ => True) [(x, .inr (12, xg)), (deA, .inl (deAC, (6, .inr (.inr (.inr (.inr deAF)))))), (de0, .inr (3, de0g)), (de1, .inr (3, de1g)), (de2, .inr (3, de2g)), (de3, .inr (3, de3g)), (de4, .inr (3, de4g)), (de5, .inr (3, de5g)), (oA, .inl (oAC, (1, .inr (.inl oAf))))] ∧ th (va_A [(x, .inr (12, xg)), (deA, .inl (deAC, (6, .inr (.inr (.inr (.inr deAF)))))), (de0, .inr (3, de0g)), (de1, .inr (3, de1g)), (de2, .inr (3, de2g)), (de3, .inr (3, de3g)), (de4, .inr (3, de4g)), (de5, .inr (3, de5g)), (oA, .inl (oAC, (1, .inr (.inl oAf))))] sz) U U.heap)) (va_Qi (fun (r : Int32) (_ : Unit) => r = 0) (fun _ t => ∃ (xy : List Value) (de0y : List Value) (de1y : List Value) (de2y : List Value) (de3y : List Value) (de4y : List Value) (de5y : List Value) (oAy : Nat → Int64), fx xy 17 [(7, .ref deA), (8, .ref liA), (9, .ref chA)] ∧ fx de0y 16 [(0, .int 0)] ∧ fx de1y 16 [(0, .int 0)] ∧ fx de2y 16 [(0, .int 0)] ∧ fx de3y 16 [(0, .int 0)] ∧ fx de4y 16 [(0, .int 0)] ∧ fx de5y 16 [(0, .int 0)] ∧ fa oAy [] ∧ va_P (dC, dI) CL [(x, .inr (12, xy)), (deA, .inl (deAC, (6, .inr (.inr (.inr (.inr deAF)))))), (de0, .inr (3, de0y)), (de1, .inr (3, de1y)), (de2, .inr (3, de2y)), (de3, .inr (3, de3y)), (de4, .inr (3, de4y)), (de5, .inr (3, de5y)), (oA, .inl (oAC, (1, .inr (.inl oAy))))] t.heap ∧ va_K (dC, dI) CL [(deAC, .object "ChipFlow$Design"), (oAC, .long)] t ∧ va_D (va_A [(x, .inr (12, xg)), (deA, .inl (deAC, (6, .inr (.inr (.inr (.inr deAF)))))), (de0, .inr (3, de0g)), (de1, .inr (3, de1g)), (de2, .inr (3, de2g)), (de3, .inr (3, de3g)), (de4, .inr (3, de4g)), (de5, .inr (3, de5g)), (oA, .inl (oAC, (1, .inr (.inl oAf))))] sz) [(x, .inr (12, xy)), (deA, .inl (deAC, (6, .inr (.inr (.inr (.inr deAF)))))), (de0, .inr (3, de0y)), (de1, .inr (3, de1y)), (de2, .inr (3, de2y)), (de3, .inr (3, de3y)), (de4, .inr (3, de4y)), (de5, .inr (3, de5y)), (oA, .inl (oAC, (1, .inr (.inl oAy))))]) (va_A [(x, .inr (12, xg)), (deA, .inl (deAC, (6, .inr (.inr (.inr (.inr deAF)))))), (de0, .inr (3, de0g)), (de1, .inr (3, de1g)), (de2, .inr (3, de2g)), (de3, .inr (3, de3g)), (de4, .inr (3, de4g)), (de5, .inr (3, de5g)), (oA, .inl (oAC, (1, .inr (.inl oAf))))] sz)) 1 6 (va_A [(x, .inr (12, xg)), (deA, .inl (deAC, (6, .inr (.inr (.inr (.inr deAF)))))), (de0, .inr (3, de0g)), (de1, .inr (3, de1g)), (de2, .inr (3, de2g)), (de3, .inr (3, de3g)), (de4, .inr (3, de4g)), (de5, .inr (3, de5g)), (oA, .inl (oAC, (1, .inr (.inl oAf))))] sz) := by
  refine Met.ofW (cc := cX12_isThere) (maxL := 3) (ret := (some .boolean)) (by decide) rfl ?_
  intro p e s m args below meth c s₁ B hml hv
  obtain ⟨rfl, hsz, hP, hK, hD0, hth⟩ := hv
  have hx := B.exec
  have hb := B.bytes
  have hr := B.returns
  have hts : ∀ w ∈ BG, w.before _ s = true := fun w h => atoms_spec (ws := Cond.code yX12_isThere cX12_isThere 3 (some .boolean) :: BG) B.pre w (List.mem_cons_of_mem _ h)
  have hown : s.vm.findClass RX12 = some m.cls := findClass_of_methodNamed B.named
  have hlocks := B.notSynchronized
  subst hsz
  have hD := hD0.self (sz := s.heap.size)
  generalize hAe : va_A [(x, .inr (12, xg)), (deA, .inl (deAC, (6, .inr (.inr (.inr (.inr deAF)))))), (de0, .inr (3, de0g)), (de1, .inr (3, de1g)), (de2, .inr (3, de2g)), (de3, .inr (3, de3g)), (de4, .inr (3, de4g)), (de5, .inr (3, de5g)), (oA, .inl (oAC, (1, .inr (.inl oAf))))] s.heap.size = A at hD hth ⊢
  have hA : ∀ q : Nat, s.heap.size ≤ q → A q := fun q h => by rw [← hAe]; exact Or.inr h
  have hS : va_S A s.heap s.heap [] := va_S.rf
  have hl := lv_entry ([.ref x, .int 0, .int 4]) (n := 3) (Nat.le_of_ble_eq_true rfl)
  rw [lg_entry_eq]
  generalize (lg_sl ([.ref x, .int 0, .int 4]) ++ List.replicate (3 - (lg_sl ([.ref x, .int 0, .int 4])).length) Slot.unset).toArray = ls at hl ⊢
  have hl : lv_has ls 3 [(0, .ref x), (1, .int 0), (2, .int 4)] := hl
  obtain ⟨H, eH⟩ : ∃ z, z = s.heap := ⟨_, rfl⟩
  have hP : va_P (dC, dI) CL [(x, .inr (12, xg)), (deA, .inl (deAC, (6, .inr (.inr (.inr (.inr deAF)))))), (de0, .inr (3, de0g)), (de1, .inr (3, de1g)), (de2, .inr (3, de2g)), (de3, .inr (3, de3g)), (de4, .inr (3, de4g)), (de5, .inr (3, de5g)), (oA, .inl (oAC, (1, .inr (.inl oAf))))] H := by rw [eH]; exact hP
  have hS : va_S A s.heap H [] := by rw [eH]; exact hS
  rw [← eH]
  refine lv_iload_n hx hb dX12_isThere_0 rfl (lv_at hl 1 rfl) ?_
  refine lv_if_lt (tgt := 13) hx hb dX12_isThere_1 (by decide) (fun c9 => ?_) (fun c9 => ?_)
  · first | exact absurd c9 (by decide +kernel) | exact absurd (by decide +kernel) c9
  refine lv_iload_n hx hb dX12_isThere_4 rfl (lv_at hl 1 rfl) ?_
  refine lv_iconst (v := 2) hx hb dX12_isThere_5 (by decide +kernel) ?_
  refine lv_icmp_gt (tgt := 13) hx hb dX12_isThere_6 (by decide) (fun c9 => ?_) (fun c9 => ?_)
  · first | exact absurd c9 (by decide +kernel) | exact absurd (by decide +kernel) c9
  refine lv_iconst (v := 1) hx hb dX12_isThere_9 (by decide +kernel) ?_
  refine lv_goto (tgt := 14) hx hb dX12_isThere_10 (by decide) ?_
  have hF0 : ∀ q, va_A [] H.size q → A q := fun q h => h.elim (fun ⟨k9, e9, h9⟩ => by simp at h9) (fun h9 => hA q (Nat.le_trans hS.1 h9))
  refine vx_callv (vx_runS (As := [.int 1]) (rest := []) ⟨hx, hb, hml, hown, hts⟩ (ct_X12_needRange l hlt H.size 1) (cwS 1 hts (gi_S wd_1328 wd_1329 wd_327 wd_1330) rfl rfl rfl (by decide +kernel) ⟨(Nat.le_of_ble_eq_true rfl), (Nat.le_of_ble_eq_true rfl)⟩) ⟨fun a U g mk q => ⟨q.1, q.2.1, th.moved (u := U) (U := U.calling g mk a) (Vm.Alike.refl U.vm) q.2.2⟩, fun U hU hW => ⟨rfl, by rw [hU], by rw [hU]; exact ((hth.kept hS.2.1).narrow hF0).moved hW.alike⟩⟩ rfl rfl hl.1 rfl (lv_room (Nat.le_of_ble_eq_true rfl)) dX12_isThere_14 ⟨(Nat.le_of_ble_eq_true rfl), (Nat.le_of_ble_eq_true rfl)⟩) hS (fun q _ h => hF0 q h) hF0 (fun q _ h => hF0 q h) (fun E ce q9 u t H1 locs ht hvm hp hB hz hk hS hce hcv hcl => absurd hp (by decide +kernel)) (fun u t H1 locs ht hvm hp hB hz hk hS => ?_)
  have hP : va_P (dC, dI) CL [(x, .inr (12, xg)), (deA, .inl (deAC, (6, .inr (.inr (.inr (.inr deAF)))))), (de0, .inr (3, de0g)), (de1, .inr (3, de1g)), (de2, .inr (3, de2g)), (de3, .inr (3, de3g)), (de4, .inr (3, de4g)), (de5, .inr (3, de5g)), (oA, .inl (oAC, (1, .inr (.inl oAf))))] H1 := hP.kept (fun k q h9 => hk _ (vx_lt hP h9) (fun h8 => h8.elim (fun ⟨k9, e9, h7⟩ => by simp at h7) (fun h7 => absurd (vx_lt hP h9) (Nat.not_lt.mpr h7))))
  generalize H1 = H at hP hS ⊢
  refine W.widen (k := 1) (n := 6) (Nat.le_of_ble_eq_true rfl) (Nat.le_of_ble_eq_true rfl) ?_
  refine lv_iload_n hx hb dX12_isThere_17 rfl (lv_at hl 1 rfl) ?_
  refine lv_if_ne (tgt := 49) hx hb dX12_isThere_18 (by decide) (fun c9 => ?_) (fun c9 => ?_)
  · first | exact absurd c9 (by decide +kernel) | exact absurd (by decide +kernel) c9
  refine lv_iload_n hx hb dX12_isThere_21 rfl (lv_at hl 2 rfl) ?_
  refine lv_if_lt (tgt := 47) hx hb dX12_isThere_22 (by decide) (fun c9 => ?_) (fun c9 => ?_)
  · first | exact absurd c9 (by decide +kernel) | exact absurd (by decide +kernel) c9
  refine lv_iload_n hx hb dX12_isThere_25 rfl (lv_at hl 2 rfl) ?_
  refine lv_bipush (v := 6) hx hb dX12_isThere_26 (by decide +kernel) ?_
  refine lv_icmp_ge (tgt := 47) hx hb dX12_isThere_28 (by decide) (fun c9 => ?_) (fun c9 => ?_)
  · first | exact absurd c9 (by decide +kernel) | exact absurd (by decide +kernel) c9
  refine lv_aload_n hx hb dX12_isThere_31 rfl (lv_at hl 0 rfl) ?_
  refine va_get (D := (dC, dI)) (ci := 12) (v := .ref deA) (C := RX12) (T := TX12) (N := 17) hx hb hts inX12 hown hK hP 0 rfl rfl 7 (by decide) (hts (.fieldLink RX12 64 "ChipFlow" "designs" "[LChipFlow$Design;") wd_1185) (fun _ h9 => h9) (h_x.get 0 rfl) dX12_isThere_32 ?_
  refine lv_iload_n hx hb dX12_isThere_35 rfl (lv_at hl 2 rfl) ?_
  refine va_aldq hx hb hK hP 1 0 rfl rfl (vp_in_nI (n := 4) (N := 6) (by decide) (by decide)) dX12_isThere_36 ?_
  rw [show (4 : Int32).toNatClampNeg = 4 by decide +kernel, h_deA4]
  refine W.eq (g2 := F0 m 37 ls [.ref de4]) rfl ?_
  refine va_get (D := (dC, dI)) (ci := 3) (v := .int 0) (C := RX3) (T := TX3) (N := 16) hx hb hts inX3 hown hK hP 6 rfl rfl 0 (by decide) (hts (.fieldLink RX12 148 "ChipFlow$Design" "used" "Z") wd_766) (fun _ h9 => h9) (h_de4.get 0 rfl) dX12_isThere_37 ?_
  refine lv_if_eq (tgt := 47) hx hb dX12_isThere_40 (by decide) (fun c9 => ?_) (fun c9 => ?_)
  rotate_left
  · first | exact absurd c9 (by decide +kernel) | exact absurd (by decide +kernel) c9
  refine lv_iconst (v := 0) hx hb dX12_isThere_47 (by decide +kernel) ?_
  refine W.widen (k := 1) (n := 6) (Nat.le_of_ble_eq_true rfl) (Nat.le_of_ble_eq_true rfl) ?_
  exact W.zret (v := 0) hx hb hr rfl (fun t ht hW => ⟨⟨0, (), rfl, rfl, xg, de0g, de1g, de2g, de3g, de4g, de5g, oAf, h_x, h_de0, h_de1, h_de2, h_de3, h_de4, h_de5, h_oA, by rw [ht]; exact hP, va_K.moved hW.alike hK, hD⟩, hS.F ht⟩) hS.2.2 dX12_isThere_48
set_option maxHeartbeats 4000000 in
set_option maxRecDepth 100000 in
theorem gx92_L_isThere (l : Launch) (hlt : l.stackTraces = false) (dC : Nat → ClassId) (dI : Nat → Nat → Nat) (sz : Nat) (x deA de0 de1 de2 de3 de4 de5 oA liA chA : Nat) (xg : List Value) (h_x : fx xg 17 [(7, .ref deA), (8, .ref liA), (9, .ref chA)]) (deAC : ClassId) (deAF : Nat → Option Nat) (de0g : List Value) (h_de0 : fx de0g 16 [(0, .int 0)]) (de1g : List Value) (h_de1 : fx de1g 16 [(0, .int 0)]) (de2g : List Value) (h_de2 : fx de2g 16 [(0, .int 0)]) (de3g : List Value) (h_de3 : fx de3g 16 [(0, .int 0)]) (de4g : List Value) (h_de4 : fx de4g 16 [(0, .int 0)]) (de5g : List Value) (h_de5 : fx de5g 16 [(0, .int 0)]) (oAC : ClassId) (oAf : Nat → Int64) (h_oA : fa oAf []) (h_deA0 : deAF 0 = some de0) (h_deA1 : deAF 1 = some de1) (h_deA2 : deAF 2 = some de2) (h_deA3 : deAF 3 = some de3) (h_deA4 : deAF 4 = some de4) (h_deA5 : deAF 5 = some de5) : Met l yL_isThere (Cond.codeWith yL_isThere cL_isThere 5 (some .int) [(0, 17, 20, 19)] :: BG) ({ frames := 8, cells := 1, slots := 6, locals := 152 }) (va_Pc [.ref x, .int 0, .int 4, .ref oA] (fun U => U.heap.size = sz ∧ va_P (dC, dI) CL [(x, .inr (12, xg)), (deA, .inl (deAC, (6, .inr (.inr (.inr (.inr deAF)))))), (de0, .inr (3, de0g)), (de1, .inr (3, de1g)), (de2, .inr (3, de2g)), (de3, .inr (3, de3g)), (de4, .inr (3, de4g)), (de5, .inr (3, de5g)), (oA, .inl (oAC, (1, .inr (.inl oAf))))] U.heap ∧ va_K (dC, dI) CL [(deAC, .object "ChipFlow$Design"), (oAC, .long)] U ∧ va_D (fun _ => True) [(x, .inr (12, xg)), (deA, .inl (deAC, (6, .inr (.inr (.inr (.inr deAF)))))), (de0, .inr (3, de0g)), (de1, .inr (3, de1g)), (de2, .inr (3, de2g)), (de3, .inr (3, de3g)), (de4, .inr (3, de4g)), (de5, .inr (3, de5g)), (oA, .inl (oAC, (1, .inr (.inl oAf))))] ∧ th (va_A [(x, .inr (12, xg)), (deA, .inl (deAC, (6, .inr (.inr (.inr (.inr deAF)))))), (de0, .inr (3, de0g)), (de1, .inr (3, de1g)), (de2, .inr (3, de2g)), (de3, .inr (3, de3g)), (de4, .inr (3, de4g)), (de5, .inr (3, de5g)), (oA, .inl (oAC, (1, .inr (.inl oAf))))] sz) U U.heap)) (va_Qi (fun (r : Int32) (_ : Unit) => r = 0) (fun _ t => ∃ (xy : List Value) (de0y : List Value) (de1y : List Value) (de2y : List Value) (de3y : List Value) (de4y : List Value) (de5y : List Value) (oAy : Nat → Int64), fx xy 17 [(7, .ref deA), (8, .ref liA), (9, .ref chA)] ∧ fx de0y 16 [(0, .int 0)] ∧ fx de1y 16 [(0, .int 0)] ∧ fx de2y 16 [(0, .int 0)] ∧ fx de3y 16 [(0, .int 0)] ∧ fx de4y 16 [(0, .int 0)] ∧ fx de5y 16 [(0, .int 0)] ∧ fa oAy [(0, 0)] ∧ va_P (dC, dI) CL [(x, .inr (12, xy)), (deA, .inl (deAC, (6, .inr (.inr (.inr (.inr deAF)))))), (de0, .inr (3, de0y)), (de1, .inr (3, de1y)), (de2, .inr (3, de2y)), (de3, .inr (3, de3y)), (de4, .inr (3, de4y)), (de5, .inr (3, de5y)), (oA, .inl (oAC, (1, .inr (.inl oAy))))] t.heap ∧ va_K (dC, dI) CL [(deAC, .object "ChipFlow$Design"), (oAC, .long)] t ∧ va_D (va_A [(x, .inr (12, xg)), (deA, .inl (deAC, (6, .inr (.inr (.inr (.inr deAF)))))), (de0, .inr (3, de0g)), (de1, .inr (3, de1g)), (de2, .inr (3, de2g)), (de3, .inr (3, de3g)), (de4, .inr (3, de4g)), (de5, .inr (3, de5g)), (oA, .inl (oAC, (1, .inr (.inl oAf))))] sz) [(x, .inr (12, xy)), (deA, .inl (deAC, (6, .inr (.inr (.inr (.inr deAF)))))), (de0, .inr (3, de0y)), (de1, .inr (3, de1y)), (de2, .inr (3, de2y)), (de3, .inr (3, de3y)), (de4, .inr (3, de4y)), (de5, .inr (3, de5y)), (oA, .inl (oAC, (1, .inr (.inl oAy))))]) (va_A [(x, .inr (12, xg)), (deA, .inl (deAC, (6, .inr (.inr (.inr (.inr deAF)))))), (de0, .inr (3, de0g)), (de1, .inr (3, de1g)), (de2, .inr (3, de2g)), (de3, .inr (3, de3g)), (de4, .inr (3, de4g)), (de5, .inr (3, de5g)), (oA, .inl (oAC, (1, .inr (.inl oAf))))] sz)) 1 6 (va_A [(x, .inr (12, xg)), (deA, .inl (deAC, (6, .inr (.inr (.inr (.inr deAF)))))), (de0, .inr (3, de0g)), (de1, .inr (3, de1g)), (de2, .inr (3, de2g)), (de3, .inr (3, de3g)), (de4, .inr (3, de4g)), (de5, .inr (3, de5g)), (oA, .inl (oAC, (1, .inr (.inl oAf))))] sz) := by
  refine va_MetW (hh := [(0, 17, 20, 19)]) (cc := cL_isThere) (maxL := 5) (ret := (some .int)) (by decide) rfl ?_
  intro p e s m args below meth c s₁ B hml hv
  obtain ⟨rfl, hsz, hP, hK, hD0, hth⟩ := hv
  have hx := B.exec
  have hb := B.bytes
  have hr := B.returns
  have hts : ∀ w ∈ BG, w.before _ s = true := fun w h => atoms_spec (ws := Cond.codeWith yL_isThere cL_isThere 5 (some .int) [(0, 17, 20, 19)] :: BG) B.pre w (List.mem_cons_of_mem _ h)
  have hown : s.vm.findClass RL = some m.cls := findClass_of_methodNamed B.named
  have hlocks := B.notSynchronized
  subst hsz
  have hD := hD0.self (sz := s.heap.size)
  generalize hAe : va_A [(x, .inr (12, xg)), (deA, .inl (deAC, (6, .inr (.inr (.inr (.inr deAF)))))), (de0, .inr (3, de0g)), (de1, .inr (3, de1g)), (de2, .inr (3, de2g)), (de3, .inr (3, de3g)), (de4, .inr (3, de4g)), (de5, .inr (3, de5g)), (oA, .inl (oAC, (1, .inr (.inl oAf))))] s.heap.size = A at hD hth ⊢
  have hA : ∀ q : Nat, s.heap.size ≤ q → A q := fun q h => by rw [← hAe]; exact Or.inr h
  have hS : va_S A s.heap s.heap [] := va_S.rf
  have hl := lv_entry ([.ref x, .int 0, .int 4, .ref oA]) (n := 5) (Nat.le_of_ble_eq_true rfl)
  rw [lg_entry_eq]
  generalize (lg_sl ([.ref x, .int 0, .int 4, .ref oA]) ++ List.replicate (5 - (lg_sl ([.ref x, .int 0, .int 4, .ref oA])).length) Slot.unset).toArray = ls at hl ⊢
  have hl : lv_has ls 5 [(0, .ref x), (1, .int 0), (2, .int 4), (3, .ref oA)] := hl
  obtain ⟨H, eH⟩ : ∃ z, z = s.heap := ⟨_, rfl⟩
  have hP : va_P (dC, dI) CL [(x, .inr (12, xg)), (deA, .inl (deAC, (6, .inr (.inr (.inr (.inr deAF)))))), (de0, .inr (3, de0g)), (de1, .inr (3, de1g)), (de2, .inr (3, de2g)), (de3, .inr (3, de3g)), (de4, .inr (3, de4g)), (de5, .inr (3, de5g)), (oA, .inl (oAC, (1, .inr (.inl oAf))))] H := by rw [eH]; exact hP
  have hS : va_S A s.heap H [] := by rw [eH]; exact hS
  rw [← eH]
  have hT : c.exceptionTable.toList = tableOf [(0, 17, 20, 19)] := vx_table (x := yL_isThere) B (atoms_spec (ws := Cond.codeWith yL_isThere cL_isThere 5 (some .int) [(0, 17, 20, 19)] :: BG) B.pre _ List.mem_cons_self)
  refine lv_aload_n hx hb dL_isThere_0 rfl (lv_at hl 3 rfl) ?_
  refine lv_iconst (v := 0) hx hb dL_isThere_1 (by decide +kernel) ?_
  refine lv_aload_n hx hb dL_isThere_2 rfl (lv_at hl 0 rfl) ?_
  refine lv_iload_n hx hb dL_isThere_3 rfl (lv_at hl 1 rfl) ?_
  refine lv_iload_n hx hb dL_isThere_4 rfl (lv_at hl 2 rfl) ?_
  have hFc := va_free (wc := [(x, .inr (12, xg)), (deA, .inl (deAC, (6, .inr (.inr (.inr (.inr deAF)))))), (de0, .inr (3, de0g)), (de1, .inr (3, de1g)), (de2, .inr (3, de2g)), (de3, .inr (3, de3g)), (de4, .inr (3, de4g)), (de5, .inr (3, de5g)), (oA, .inl (oAC, (1, .inr (.inl oAf))))]) hD hS hA [0, 1, 2, 3, 4, 5, 6, 7, 8] rfl
  refine va_calli (va_runV (As := [.int 0, .int 4]) (rest := [.int 0, .ref oA]) ⟨hx, hb, hml, hown, hts⟩ (gx93_X12_isThere l hlt dC dI _ x deA de0 de1 de2 de3 de4 de5 oA liA chA xg h_x deAC deAF de0g h_de0 de1g h_de1 de2g h_de2 de3g h_de3 de4g h_de4 de5g h_de5 oAC oAf h_oA h_deA0 h_deA1 h_deA2 h_deA3 h_deA4 h_deA5) (cwV 2 hts (gi_V wd_1842 wd_1843 wd_1844 wd_327 wd_1845) rfl rfl rfl (by decide +kernel) ⟨(Nat.le_of_ble_eq_true rfl), (Nat.le_of_ble_eq_true rfl)⟩) ⟨fun a U g mk q => by obtain ⟨q0, q1, qP, qK, qD, qT⟩ := q; exact ⟨q0, q1, qP, va_K.moved (u := U) (U := U.calling g mk a) (Vm.Alike.refl U.vm) qK, qD, th.moved (u := U) (U := U.calling g mk a) (Vm.Alike.refl U.vm) qT⟩, va_recv hK hP (ci := 12) (q0 := 0) rfl rfl, fun U hU hW => ⟨rfl, by rw [hU], by rw [hU]; exact hP, va_K.moved hW.alike hK, hD.weaken (fun _ _ _ _ => trivial), by rw [hU]; exact ((hth.kept hS.2.1).narrow hFc).moved hW.alike⟩⟩ rfl rfl hl.1 rfl (lv_room (Nat.le_of_ble_eq_true rfl)) dL_isThere_5 ⟨(Nat.le_of_ble_eq_true rfl), (Nat.le_of_ble_eq_true rfl)⟩) hS (fun q _ h => hFc q h) hFc (fun r u t H1 locs ht hvm hw hB hz1 hk1 hS => ?_)
  subst hw
  obtain ⟨fs_1, fs_2, fs_3, fs_4, fs_5, fs_6, fs_7, f_8, h_x, h_de0, h_de1, h_de2, h_de3, h_de4, h_de5, h_oA, hP1, hK1, hD1⟩ := hB
  rw [ht] at hP1
  have hD := hD1.weaken (fun k q _ h => hFc q.1 h)
  have hP := hP1
  generalize H1 = H at hP hS ⊢
  have hP : va_P (dC, dI) CL [(x, .inr (12, fs_1)), (deA, .inl (deAC, (6, .inr (.inr (.inr (.inr deAF)))))), (de0, .inr (3, fs_2)), (de1, .inr (3, fs_3)), (de2, .inr (3, fs_4)), (de3, .inr (3, fs_5)), (de4, .inr (3, fs_6)), (de5, .inr (3, fs_7)), (oA, .inl (oAC, (1, .inr (.inl f_8))))] H := hP
  have hD : va_D A [(x, .inr (12, fs_1)), (deA, .inl (deAC, (6, .inr (.inr (.inr (.inr deAF)))))), (de0, .inr (3, fs_2)), (de1, .inr (3, fs_3)), (de2, .inr (3, fs_4)), (de3, .inr (3, fs_5)), (de4, .inr (3, fs_6)), (de5, .inr (3, fs_7)), (oA, .inl (oAC, (1, .inr (.inl f_8))))] := hD
  refine W.widen (k := 1) (n := 6) (Nat.le_of_ble_eq_true rfl) (Nat.le_of_ble_eq_true rfl) ?_
  refine lv_if_eq (tgt := 15) hx hb dL_isThere_8 (by decide) (fun c9 => ?_) (fun c9 => ?_)
  rotate_left
  · first | exact absurd c9 (by decide +kernel) | exact absurd (by decide +kernel) c9
  refine lv_lconst (v := 0) hx hb dL_isThere_15 (by decide) ?_
  refine va_last hx hb hK hP hD hS 8 1 rfl rfl (vp_in_nI (n := 0) (N := 1) (by decide) (by decide)) dL_isThere_16 (fun H locs hP hD hS => ?_)
  obtain ⟨f_9, e9⟩ : ∃ z, z = vp_updL f_8 (0 : Int32).toNatClampNeg 0 := ⟨_, rfl⟩
  have h_oA : fa f_9 [(0, 0)] := by rw [e9, show (0 : Int32).toNatClampNeg = 0 by decide +kernel]; exact (fa.putL h_oA).sub [0] rfl
  have hP : va_P (dC, dI) CL [(x, .inr (12, fs_1)), (deA, .inl (deAC, (6, .inr (.inr (.inr (.inr deAF)))))), (de0, .inr (3, fs_2)), (de1, .inr (3, fs_3)), (de2, .inr (3, fs_4)), (de3, .inr (3, fs_5)), (de4, .inr (3, fs_6)), (de5, .inr (3, fs_7)), (oA, .inl (oAC, (1, .inr (.inl f_9))))] H := by rw [e9]; exact hP
  have hD : va_D A [(x, .inr (12, fs_1)), (deA, .inl (deAC, (6, .inr (.inr (.inr (.inr deAF)))))), (de0, .inr (3, fs_2)), (de1, .inr (3, fs_3)), (de2, .inr (3, fs_4)), (de3, .inr (3, fs_5)), (de4, .inr (3, fs_6)), (de5, .inr (3, fs_7)), (oA, .inl (oAC, (1, .inr (.inl f_9))))] := by rw [e9]; exact hD
  clear e9
  refine lv_goto (tgt := 24) hx hb dL_isThere_17 (by decide) ?_
  refine lv_iconst (v := 0) hx hb dL_isThere_24 (by decide +kernel) ?_
  refine W.widen (k := 1) (n := 6) (Nat.le_of_ble_eq_true rfl) (Nat.le_of_ble_eq_true rfl) ?_
  exact W.iret (v := 0) hx hb hr (fun t ht hW => ⟨⟨0, (), rfl, rfl, fs_1, fs_2, fs_3, fs_4, fs_5, fs_6, fs_7, f_9, h_x, h_de0, h_de1, h_de2, h_de3, h_de4, h_de5, h_oA, by rw [ht]; exact hP, va_K.moved hW.alike hK, hD⟩, hS.F ht⟩) hS.2.2 dL_isThere_25
set_option maxHeartbeats 4000000 in
set_option maxRecDepth 100000 in
theorem gx95_X13_isOne (l : Launch) (hlt : l.stackTraces = false) (dC : Nat → ClassId) (dI : Nat → Nat → Nat) (sz : Nat) (m0 md ml mch : Nat) (m0g : List Value) (h_m0 : fx m0g 225 [(0, .int 0), (2, .int 0), (3, .int 0), (9, .int 0), (10, .int 0), (11, .int 0), (12, .int 0), (27, .int 0), (55, .ref md), (79, .int 0), (83, .int 0), (88, .ref ml), (95, .int 0), (138, .ref mch)]) (mdC : ClassId) : Met l yX13_isOne (Cond.code yX13_isOne cX13_isOne 3 (some .boolean) :: BG) ({ frames := 2, cells := 0, slots := 0, locals := 33 }) (va_Pc [.ref m0, .int 0, .int 4] (fun U => U.heap.size = sz ∧ va_P (dC, dI) CL [(m0, .inr (13, m0g)), (md, .inl (mdC, (6, .inl (fun _ => 0))))] U.heap ∧ va_K (dC, dI) CL [(mdC, .boolean)] U ∧ va_D (fun _ => True) [(m0, .inr (13, m0g)), (md, .inl (mdC, (6, .inl (fun _ => 0))))] ∧ th (va_A [(m0, .inr (13, m0g)), (md, .inl (mdC, (6, .inl (fun _ => 0))))] sz) U U.heap)) (va_Qi (fun (r : Int32) (_ : Unit) => r = 0) (fun _ t => ∃ (m0y : List Value), fx m0y 225 [(0, .int 0), (2, .int 0), (3, .int 0), (9, .int 0), (10, .int 0), (11, .int 0), (12, .int 0), (27, .int 0), (55, .ref md), (79, .int 0), (83, .int 0), (88, .ref ml), (95, .int 0), (138, .ref mch)] ∧ va_P (dC, dI) CL [(m0, .inr (13, m0y)), (md, .inl (mdC, (6, .inl (fun _ => 0))))] t.heap ∧ va_K (dC, dI) CL [(mdC, .boolean)] t ∧ va_D (va_A [(m0, .inr (13, m0g)), (md, .inl (mdC, (6, .inl (fun _ => 0))))] sz) [(m0, .inr (13, m0y)), (md, .inl (mdC, (6, .inl (fun _ => 0))))]) (va_A [(m0, .inr (13, m0g)), (md, .inl (mdC, (6, .inl (fun _ => 0))))] sz)) 0 0 (va_A [(m0, .inr (13, m0g)), (md, .inl (mdC, (6, .inl (fun _ => 0))))] sz) := by
  refine Met.ofW (cc := cX13_isOne) (maxL := 3) (ret := (some .boolean)) (by decide) rfl ?_
  intro p e s m args below meth c s₁ B hml hv
  obtain ⟨rfl, hsz, hP, hK, hD0, hth⟩ := hv
  have hx := B.exec
  have hb := B.bytes
  have hr := B.returns
  have hts : ∀ w ∈ BG, w.before _ s = true := fun w h => atoms_spec (ws := Cond.code yX13_isOne cX13_isOne 3 (some .boolean) :: BG) B.pre w (List.mem_cons_of_mem _ h)
  have hown : s.vm.findClass RX13 = some m.cls := findClass_of_methodNamed B.named
  have hlocks := B.notSynchronized
  subst hsz
  have hD := hD0.self (sz := s.heap.size)
  generalize hAe : va_A [(m0, .inr (13, m0g)), (md, .inl (mdC, (6, .inl (fun _ => 0))))] s.heap.size = A at hD hth ⊢
  have hA : ∀ q : Nat, s.heap.size ≤ q → A q := fun q h => by rw [← hAe]; exact Or.inr h
  have hS : va_S A s.heap s.heap [] := va_S.rf
  have hl := lv_entry ([.ref m0, .int 0, .int 4]) (n := 3) (Nat.le_of_ble_eq_true rfl)
  rw [lg_entry_eq]
  generalize (lg_sl ([.ref m0, .int 0, .int 4]) ++ List.replicate (3 - (lg_sl ([.ref m0, .int 0, .int 4])).length) Slot.unset).toArray = ls at hl ⊢
  have hl : lv_has ls 3 [(0, .ref m0), (1, .int 0), (2, .int 4)] := hl
  obtain ⟨H, eH⟩ : ∃ z, z = s.heap := ⟨_, rfl⟩
  have hP : va_P (dC, dI) CL [(m0, .inr (13, m0g)), (md, .inl (mdC, (6, .inl (fun _ => 0))))] H := by rw [eH]; exact hP
  have hS : va_S A s.heap H [] := by rw [eH]; exact hS
  rw [← eH]
  refine lv_iload_n hx hb dX13_isOne_0 rfl (lv_at hl 1 rfl) ?_
  refine lv_if_ne (tgt := 12) hx hb dX13_isOne_1 (by decide) (fun c9 => ?_) (fun c9 => ?_)
  · first | exact absurd c9 (by decide +kernel) | exact absurd (by decide +kernel) c9
  refine lv_aload_n hx hb dX13_isOne_4 rfl (lv_at hl 0 rfl) ?_
  refine lv_iload_n hx hb dX13_isOne_5 rfl (lv_at hl 2 rfl) ?_
  have hFc := va_free (wc := [(m0, .inr (13, m0g)), (md, .inl (mdC, (6, .inl (fun _ => 0))))]) hD hS hA [0, 1] rfl
  refine va_calli (va_runV (As := [.int 4]) (rest := []) ⟨hx, hb, hml, hown, hts⟩ (ct_X13_isDesign l dC dI _ 4 m0 m0g md mdC (h_m0.sub [8] rfl)) (cwV 1 hts (gi_V wd_4076 wd_4078 wd_215 wd_340 wd_4079) rfl rfl rfl (by decide +kernel) ⟨(Nat.le_of_ble_eq_true rfl), (Nat.le_of_ble_eq_true rfl)⟩) ⟨fun a U g mk q => by obtain ⟨q0, q1, qP, qK, qD⟩ := q; exact ⟨q0, q1, qP, va_K.moved (u := U) (U := U.calling g mk a) (Vm.Alike.refl U.vm) qK, qD⟩, va_recv hK hP (ci := 13) (q0 := 0) rfl rfl, fun U hU hW => ⟨rfl, by rw [hU], by rw [hU]; exact hP, va_K.moved hW.alike hK, hD.weaken (fun _ _ _ _ => trivial)⟩⟩ rfl rfl hl.1 rfl (lv_room (Nat.le_of_ble_eq_true rfl)) dX13_isOne_6 ⟨(Nat.le_of_ble_eq_true rfl), (Nat.le_of_ble_eq_true rfl)⟩) hS (fun q _ h => hFc q h) hFc (fun r u t H1 locs ht hvm hw hB hz1 hk1 hS => ?_)
  subst hw
  obtain ⟨hP1, hK1, hD1⟩ := hB
  rw [ht] at hP1
  have hD := hD1.weaken (fun k q _ h => hFc q.1 h)
  have hP := hP1
  generalize H1 = H at hP hS ⊢
  have hP : va_P (dC, dI) CL [(m0, .inr (13, m0g)), (md, .inl (mdC, (6, .inl (fun _ => 0))))] H := hP
  have hD : va_D A [(m0, .inr (13, m0g)), (md, .inl (mdC, (6, .inl (fun _ => 0))))] := hD
  refine lv_goto (tgt := 30) hx hb dX13_isOne_9 (by decide) ?_
  exact W.zret (v := 0) hx hb hr rfl (fun t ht hW => ⟨⟨0, (), rfl, rfl, m0g, h_m0, by rw [ht]; exact hP, va_K.moved hW.alike hK, hD⟩, hS.F ht⟩) hS.2.2 dX13_isOne_30
set_option maxHeartbeats 4000000 in
set_option maxRecDepth 100000 in
theorem gx94_X13_isThere (l : Launch) (hlt : l.stackTraces = false) (dC : Nat → ClassId) (dI : Nat → Nat → Nat) (sz : Nat) (m0 md ml mch : Nat) (m0g : List Value) (h_m0 : fx m0g 225 [(0, .int 0), (2, .int 0), (3, .int 0), (9, .int 0), (10, .int 0), (11, .int 0), (12, .int 0), (27, .int 0), (55, .ref md), (79, .int 0), (83, .int 0), (88, .ref ml), (95, .int 0), (138, .ref mch)]) (mdC : ClassId) : Met l yX13_isThere (Cond.code yX13_isThere cX13_isThere 3 (some .boolean) :: BG) ({ frames := 3, cells := 0, slots := 0, locals := 55 }) (va_Pc [.ref m0, .int 0, .int 4] (fun U => U.heap.size = sz ∧ va_P (dC, dI) CL [(m0, .inr (13, m0g)), (md, .inl (mdC, (6, .inl (fun _ => 0))))] U.heap ∧ va_K (dC, dI) CL [(mdC, .boolean)] U ∧ va_D (fun _ => True) [(m0, .inr (13, m0g)), (md, .inl (mdC, (6, .inl (fun _ => 0))))] ∧ th (va_A [(m0, .inr (13, m0g)), (md, .inl (mdC, (6, .inl (fun _ => 0))))] sz) U U.heap)) (va_Qi (fun (r : Int32) (_ : Unit) => r = 0) (fun _ t => ∃ (m0y : List Value), fx m0y 225 [(0, .int 0), (2, .int 0), (3, .int 0), (9, .int 0), (10, .int 0), (11, .int 0), (12, .int 0), (27, .int 0), (55, .ref md), (79, .int 0), (83, .int 0), (88, .ref ml), (95, .int 0), (138, .ref mch)] ∧ va_P (dC, dI) CL [(m0, .inr (13, m0y)), (md, .inl (mdC, (6, .inl (fun _ => 0))))] t.heap ∧ va_K (dC, dI) CL [(mdC, .boolean)] t ∧ va_D (va_A [(m0, .inr (13, m0g)), (md, .inl (mdC, (6, .inl (fun _ => 0))))] sz) [(m0, .inr (13, m0y)), (md, .inl (mdC, (6, .inl (fun _ => 0))))]) (va_A [(m0, .inr (13, m0g)), (md, .inl (mdC, (6, .inl (fun _ => 0))))] sz)) 0 0 (va_A [(m0, .inr (13, m0g)), (md, .inl (mdC, (6, .inl (fun _ => 0))))] sz) := by
  refine Met.ofW (cc := cX13_isThere) (maxL := 3) (ret := (some .boolean)) (by decide) rfl ?_
  intro p e s m args below meth c s₁ B hml hv
  obtain ⟨rfl, hsz, hP, hK, hD0, hth⟩ := hv
  have hx := B.exec
  have hb := B.bytes
  have hr := B.returns
  have hts : ∀ w ∈ BG, w.before _ s = true := fun w h => atoms_spec (ws := Cond.code yX13_isThere cX13_isThere 3 (some .boolean) :: BG) B.pre w (List.mem_cons_of_mem _ h)
  have hown : s.vm.findClass RX13 = some m.cls := findClass_of_methodNamed B.named
  have hlocks := B.notSynchronized
  subst hsz
  have hD := hD0.self (sz := s.heap.size)
  generalize hAe : va_A [(m0, .inr (13, m0g)), (md, .inl (mdC, (6, .inl (fun _ => 0))))] s.heap.size = A at hD hth ⊢
  have hA : ∀ q : Nat, s.heap.size ≤ q → A q := fun q h => by rw [← hAe]; exact Or.inr h
  have hS : va_S A s.heap s.heap [] := va_S.rf
  have hl := lv_entry ([.ref m0, .int 0, .int 4]) (n := 3) (Nat.le_of_ble_eq_true rfl)
  rw [lg_entry_eq]
  generalize (lg_sl ([.ref m0, .int 0, .int 4]) ++ List.replicate (3 - (lg_sl ([.ref m0, .int 0, .int 4])).length) Slot.unset).toArray = ls at hl ⊢
  have hl : lv_has ls 3 [(0, .ref m0), (1, .int 0), (2, .int 4)] := hl
  obtain ⟨H, eH⟩ : ∃ z, z = s.heap := ⟨_, rfl⟩
  have hP : va_P (dC, dI) CL [(m0, .inr (13, m0g)), (md, .inl (mdC, (6, .inl (fun _ => 0))))] H := by rw [eH]; exact hP
  have hS : va_S A s.heap H [] := by rw [eH]; exact hS
  rw [← eH]
  refine lv_aload_n hx hb dX13_isThere_0 rfl (lv_at hl 0 rfl) ?_
  refine lv_iload_n hx hb dX13_isThere_1 rfl (lv_at hl 1 rfl) ?_
  refine lv_iconst (v := 0) hx hb dX13_isThere_2 (by decide +kernel) ?_
  refine lv_iconst (v := 2) hx hb dX13_isThere_3 (by decide +kernel) ?_
  have hFc := va_free (wc := [(m0, .inr (13, m0g)), (md, .inl (mdC, (6, .inl (fun _ => 0))))]) hD hS hA [0, 1] rfl
  refine va_calli (va_runS (As := [.int 0, .int 0, .int 2]) (rest := [.ref m0]) ⟨hx, hb, hml, hown, hts⟩ (gx48_X13_within l hlt dC dI _ m0 md ml mch m0g h_m0 mdC) (cwS 3 hts (gi_S wd_3825 wd_3826 wd_340 wd_3827) rfl rfl rfl (by decide +kernel) ⟨(Nat.le_of_ble_eq_true rfl), (Nat.le_of_ble_eq_true rfl)⟩) ⟨fun a U g mk q => by obtain ⟨q0, q1, qP, qK, qD, qT⟩ := q; exact ⟨q0, q1, qP, va_K.moved (u := U) (U := U.calling g mk a) (Vm.Alike.refl U.vm) qK, qD, th.moved (u := U) (U := U.calling g mk a) (Vm.Alike.refl U.vm) qT⟩, fun U hU hW => ⟨rfl, by rw [hU], by rw [hU]; exact hP, va_K.moved hW.alike hK, hD.weaken (fun _ _ _ _ => trivial), by rw [hU]; exact ((hth.kept hS.2.1).narrow hFc).moved hW.alike⟩⟩ rfl rfl hl.1 rfl (lv_room (Nat.le_of_ble_eq_true rfl)) dX13_isThere_4 ⟨(Nat.le_of_ble_eq_true rfl), (Nat.le_of_ble_eq_true rfl)⟩) hS (fun q _ h => hFc q h) hFc (fun r u t H1 locs ht hvm hw hB hz1 hk1 hS => ?_)
  subst hw
  obtain ⟨fs_1, h_m0, hP1, hK1, hD1⟩ := hB
  rw [ht] at hP1
  have hD := hD1.weaken (fun k q _ h => hFc q.1 h)
  have hP := hP1
  generalize H1 = H at hP hS ⊢
  have hP : va_P (dC, dI) CL [(m0, .inr (13, fs_1)), (md, .inl (mdC, (6, .inl (fun _ => 0))))] H := hP
  have hD : va_D A [(m0, .inr (13, fs_1)), (md, .inl (mdC, (6, .inl (fun _ => 0))))] := hD
  refine lv_if_eq (tgt := 14) hx hb dX13_isThere_7 (by decide) (fun c9 => ?_) (fun c9 => ?_)
  · first | exact absurd c9 (by decide +kernel) | exact absurd (by decide +kernel) c9
  refine lv_iconst (v := 0) hx hb dX13_isThere_10 (by decide +kernel) ?_
  refine lv_goto (tgt := 15) hx hb dX13_isThere_11 (by decide) ?_
  refine va_put (D := (dC, dI)) (ci := 13) (v := .int 0) (ty := tyX13 0) (C := RX13) (T := TX13) (N := 225) hx hb hts inX13 tyX13 tyX13_ok nmX13 hown hK hP hD hS 0 rfl rfl 0 (by decide) (hts (.fieldLink RX13 1 "ChipFlowModel" "code" "I") wd_3032) (fun _ h9 => h9) rfl (by decide +kernel) rfl rfl (by rw [h_m0.1]; decide) dX13_isThere_15 (fun H locs hP hD hS => ?_)
  obtain ⟨fs_2, e9⟩ : ∃ z, z = fs_1.set 0 (.int 0) := ⟨_, rfl⟩
  have h_m0 : fx fs_2 225 [(0, .int 0), (2, .int 0), (3, .int 0), (9, .int 0), (10, .int 0), (11, .int 0), (12, .int 0), (27, .int 0), (55, .ref md), (79, .int 0), (83, .int 0), (88, .ref ml), (95, .int 0), (138, .ref mch)] := by rw [e9]; exact (h_m0.put (F' := [(0, .int 0), (2, .int 0), (3, .int 0), (9, .int 0), (10, .int 0), (11, .int 0), (12, .int 0), (27, .int 0), (55, .ref md), (79, .int 0), (83, .int 0), (88, .ref ml), (95, .int 0), (138, .ref mch)]) (by decide) _ rfl).sub [0, 1, 2, 3, 4, 5, 6, 7, 8, 9, 10, 11, 12, 13] rfl
  have hP : va_P (dC, dI) CL [(m0, .inr (13, fs_2)), (md, .inl (mdC, (6, .inl (fun _ => 0))))] H := by rw [e9]; exact hP
  have hD : va_D A [(m0, .inr (13, fs_2)), (md, .inl (mdC, (6, .inl (fun _ => 0))))] := by rw [e9]; exact hD
  clear e9
  refine lv_aload_n hx hb dX13_isThere_18 rfl (lv_at hl 0 rfl) ?_
  refine va_get (D := (dC, dI)) (ci := 13) (v := .int 0) (C := RX13) (T := TX13) (N := 225) hx hb hts inX13 hown hK hP 0 rfl rfl 0 (by decide) (hts (.fieldLink RX13 1 "ChipFlowModel" "code" "I") wd_3032) (fun _ h9 => h9) (h_m0.get 0 rfl) dX13_isThere_19 ?_
  refine lv_if_ne (tgt := 38) hx hb dX13_isThere_22 (by decide) (fun c9 => ?_) (fun c9 => ?_)
  · first | exact absurd c9 (by decide +kernel) | exact absurd (by decide +kernel) c9
  refine lv_aload_n hx hb dX13_isThere_25 rfl (lv_at hl 0 rfl) ?_
  refine lv_iload_n hx hb dX13_isThere_26 rfl (lv_at hl 1 rfl) ?_
  refine lv_iload_n hx hb dX13_isThere_27 rfl (lv_at hl 2 rfl) ?_
  have hFc := va_free (wc := [(m0, .inr (13, fs_2)), (md, .inl (mdC, (6, .inl (fun _ => 0))))]) hD hS hA [0, 1] rfl
  refine va_calli (va_runV (As := [.int 0, .int 4]) (rest := []) ⟨hx, hb, hml, hown, hts⟩ (gx95_X13_isOne l hlt dC dI _ m0 md ml mch fs_2 h_m0 mdC) (cwV 2 hts (gi_V wd_4072 wd_4074 wd_214 wd_340 wd_4075) rfl rfl rfl (by decide +kernel) ⟨(Nat.le_of_ble_eq_true rfl), (Nat.le_of_ble_eq_true rfl)⟩) ⟨fun a U g mk q => by obtain ⟨q0, q1, qP, qK, qD, qT⟩ := q; exact ⟨q0, q1, qP, va_K.moved (u := U) (U := U.calling g mk a) (Vm.Alike.refl U.vm) qK, qD, th.moved (u := U) (U := U.calling g mk a) (Vm.Alike.refl U.vm) qT⟩, va_recv hK hP (ci := 13) (q0 := 0) rfl rfl, fun U hU hW => ⟨rfl, by rw [hU], by rw [hU]; exact hP, va_K.moved hW.alike hK, hD.weaken (fun _ _ _ _ => trivial), by rw [hU]; exact ((hth.kept hS.2.1).narrow hFc).moved hW.alike⟩⟩ rfl rfl hl.1 rfl (lv_room (Nat.le_of_ble_eq_true rfl)) dX13_isThere_28 ⟨(Nat.le_of_ble_eq_true rfl), (Nat.le_of_ble_eq_true rfl)⟩) hS (fun q _ h => hFc q h) hFc (fun r u t H1 locs ht hvm hw hB hz1 hk1 hS => ?_)
  subst hw
  obtain ⟨fs_3, h_m0, hP1, hK1, hD1⟩ := hB
  rw [ht] at hP1
  have hD := hD1.weaken (fun k q _ h => hFc q.1 h)
  have hP := hP1
  generalize H1 = H at hP hS ⊢
  have hP : va_P (dC, dI) CL [(m0, .inr (13, fs_3)), (md, .inl (mdC, (6, .inl (fun _ => 0))))] H := hP
  have hD : va_D A [(m0, .inr (13, fs_3)), (md, .inl (mdC, (6, .inl (fun _ => 0))))] := hD
  refine lv_if_eq (tgt := 38) hx hb dX13_isThere_31 (by decide) (fun c9 => ?_) (fun c9 => ?_)
  rotate_left
  · first | exact absurd c9 (by decide +kernel) | exact absurd (by decide +kernel) c9
  refine lv_iconst (v := 0) hx hb dX13_isThere_38 (by decide +kernel) ?_
  exact W.zret (v := 0) hx hb hr rfl (fun t ht hW => ⟨⟨0, (), rfl, rfl, fs_3, h_m0, by rw [ht]; exact hP, va_K.moved hW.alike hK, hD⟩, hS.F ht⟩) hS.2.2 dX13_isThere_39
set_option maxHeartbeats 4000000 in
set_option maxRecDepth 100000 in
theorem gx97_X12_isThere (l : Launch) (hlt : l.stackTraces = false) (dC : Nat → ClassId) (dI : Nat → Nat → Nat) (sz : Nat) (x deA de0 de1 de2 de3 de4 de5 oA liA chA : Nat) (xg : List Value) (h_x : fx xg 17 [(7, .ref deA), (8, .ref liA), (9, .ref chA)]) (deAC : ClassId) (deAF : Nat → Option Nat) (de0g : List Value) (h_de0 : fx de0g 16 [(0, .int 0)]) (de1g : List Value) (h_de1 : fx de1g 16 [(0, .int 0)]) (de2g : List Value) (h_de2 : fx de2g 16 [(0, .int 0)]) (de3g : List Value) (h_de3 : fx de3g 16 [(0, .int 0)]) (de4g : List Value) (h_de4 : fx de4g 16 [(0, .int 0)]) (de5g : List Value) (h_de5 : fx de5g 16 [(0, .int 0)]) (oAC : ClassId) (oAf : Nat → Int64) (h_oA : fa oAf []) (h_deA0 : deAF 0 = some de0) (h_deA1 : deAF 1 = some de1) (h_deA2 : deAF 2 = some de2) (h_deA3 : deAF 3 = some de3) (h_deA4 : deAF 4 = some de4) (h_deA5 : deAF 5 = some de5) : Met l yX12_isThere (Cond.code yX12_isThere cX12_isThere 3 (some .boolean) :: BG) ({ frames := 7, cells := 1, slots := 6, locals := 130 }) (va_Pc [.ref x, .int 0, .int 5] (fun U => U.heap.size = sz ∧ va_P (dC, dI) CL [(x, .inr (12, xg)), (deA, .inl (deAC, (6, .inr (.inr (.inr (.inr deAF)))))), (de0, .inr (3, de0g)), (de1, .inr (3, de1g)), (de2, .inr (3, de2g)), (de3, .inr (3, de3g)), (de4, .inr (3, de4g)), (de5, .inr (3, de5g)), (oA, .inl (oAC, (1, .inr (.inl oAf))))] U.heap ∧ va_K (dC, dI) CL [(deAC, .object "ChipFlow$Design"), (oAC, .long)] U ∧ va_D (fun _ => True) [(x, .inr (12, xg)), (deA, .inl (deAC, (6, .inr (.inr (.inr (.inr deAF)))))), (de0, .inr (3, de0g)), (de1, .inr (3, de1g)), (de2, .inr (3, de2g)), (de3, .inr (3, de3g)), (de4, .inr (3, de4g)), (de5, .inr (3, de5g)), (oA, .inl (oAC, (1, .inr (.inl oAf))))] ∧ th (va_A [(x, .inr (12, xg)), (deA, .inl (deAC, (6, .inr (.inr (.inr (.inr deAF)))))), (de0, .inr (3, de0g)), (de1, .inr (3, de1g)), (de2, .inr (3, de2g)), (de3, .inr (3, de3g)), (de4, .inr (3, de4g)), (de5, .inr (3, de5g)), (oA, .inl (oAC, (1, .inr (.inl oAf))))] sz) U U.heap)) (va_Qi (fun (r : Int32) (_ : Unit) => r = 0) (fun _ t => ∃ (xy : List Value) (de0y : List Value) (de1y : List Value) (de2y : List Value) (de3y : List Value) (de4y : List Value) (de5y : List Value) (oAy : Nat → Int64), fx xy 17 [(7, .ref deA), (8, .ref liA), (9, .ref chA)] ∧ fx de0y 16 [(0, .int 0)] ∧ fx de1y 16 [(0, .int 0)] ∧ fx de2y 16 [(0, .int 0)] ∧ fx de3y 16 [(0, .int 0)] ∧ fx de4y 16 [(0, .int 0)] ∧ fx de5y 16 [(0, .int 0)] ∧ fa oAy [] ∧ va_P (dC, dI) CL [(x, .inr (12, xy)), (deA, .inl (deAC, (6, .inr (.inr (.inr (.inr deAF)))))), (de0, .inr (3, de0y)), (de1, .inr (3, de1y)), (de2, .inr (3, de2y)), (de3, .inr (3, de3y)), (de4, .inr (3, de4y)), (de5, .inr (3, de5y)), (oA, .inl (oAC, (1, .inr (.inl oAy))))] t.heap ∧ va_K (dC, dI) CL [(deAC, .object "ChipFlow$Design"), (oAC, .long)] t ∧ va_D (va_A [(x, .inr (12, xg)), (deA, .inl (deAC, (6, .inr (.inr (.inr (.inr deAF)))))), (de0, .inr (3, de0g)), (de1, .inr (3, de1g)), (de2, .inr (3, de2g)), (de3, .inr (3, de3g)), (de4, .inr (3, de4g)), (de5, .inr (3, de5g)), (oA, .inl (oAC, (1, .inr (.inl oAf))))] sz) [(x, .inr (12, xy)), (deA, .inl (deAC, (6, .inr (.inr (.inr (.inr deAF)))))), (de0, .inr (3, de0y)), (de1, .inr (3, de1y)), (de2, .inr (3, de2y)), (de3, .inr (3, de3y)), (de4, .inr (3, de4y)), (de5, .inr (3, de5y)), (oA, .inl (oAC, (1, .inr (.inl oAy))))]) (va_A [(x, .inr (12, xg)), (deA, .inl (deAC, (6, .inr (.inr (.inr (.inr deAF)))))), (de0, .inr (3, de0g)), (de1, .inr (3, de1g)), (de2, .inr (3, de2g)), (de3, .inr (3, de3g)), (de4, .inr (3, de4g)), (de5, .inr (3, de5g)), (oA, .inl (oAC, (1, .inr (.inl oAf))))] sz)) 1 6 (va_A [(x, .inr (12, xg)), (deA, .inl (deAC, (6, .inr (.inr (.inr (.inr deAF)))))), (de0, .inr (3, de0g)), (de1, .inr (3, de1g)), (de2, .inr (3, de2g)), (de3, .inr (3, de3g)), (de4, .inr (3, de4g)), (de5, .inr (3, de5g)), (oA, .inl (oAC, (1, .inr (.inl oAf))))] sz) := by
  refine Met.ofW (cc := cX12_isThere) (maxL := 3) (ret := (some .boolean)) (by decide) rfl ?_
  intro p e s m args below meth c s₁ B hml hv
  obtain ⟨rfl, hsz, hP, hK, hD0, hth⟩ := hv
  have hx := B.exec
  have hb := B.bytes
  have hr := B.returns
  have hts : ∀ w ∈ BG, w.before _ s = true := fun w h => atoms_spec (ws := Cond.code yX12_isThere cX12_isThere 3 (some .boolean) :: BG) B.pre w (List.mem_cons_of_mem _ h)
  have hown : s.vm.findClass RX12 = some m.cls := findClass_of_methodNamed B.named
  have hlocks := B.notSynchronized
  subst hsz
  have hD := hD0.self (sz := s.heap.size)
  generalize hAe : va_A [(x, .inr (12, xg)), (deA, .inl (deAC, (6, .inr (.inr (.inr (.inr deAF)))))), (de0, .inr (3, de0g)), (de1, .inr (3, de1g)), (de2, .inr (3, de2g)), (de3, .inr (3, de3g)), (de4, .inr (3, de4g)), (de5, .inr (3, de5g)), (oA, .inl (oAC, (1, .inr (.inl oAf))))] s.heap.size = A at hD hth ⊢
  have hA : ∀ q : Nat, s.heap.size ≤ q → A q := fun q h => by rw [← hAe]; exact Or.inr h
  have hS : va_S A s.heap s.heap [] := va_S.rf
  have hl := lv_entry ([.ref x, .int 0, .int 5]) (n := 3) (Nat.le_of_ble_eq_true rfl)
  rw [lg_entry_eq]
  generalize (lg_sl ([.ref x, .int 0, .int 5]) ++ List.replicate (3 - (lg_sl ([.ref x, .int 0, .int 5])).length) Slot.unset).toArray = ls at hl ⊢
  have hl : lv_has ls 3 [(0, .ref x), (1, .int 0), (2, .int 5)] := hl
  obtain ⟨H, eH⟩ : ∃ z, z = s.heap := ⟨_, rfl⟩
  have hP : va_P (dC, dI) CL [(x, .inr (12, xg)), (deA, .inl (deAC, (6, .inr (.inr (.inr (.inr deAF)))))), (de0, .inr (3, de0g)), (de1, .inr (3, de1g)), (de2, .inr (3, de2g)), (de3, .inr (3, de3g)), (de4, .inr (3, de4g)), (de5, .inr (3, de5g)), (oA, .inl (oAC, (1, .inr (.inl oAf))))] H := by rw [eH]; exact hP
  have hS : va_S A s.heap H [] := by rw [eH]; exact hS
  rw [← eH]
  refine lv_iload_n hx hb dX12_isThere_0 rfl (lv_at hl 1 rfl) ?_
  refine lv_if_lt (tgt := 13) hx hb dX12_isThere_1 (by decide) (fun c9 => ?_) (fun c9 => ?_)
  · first | exact absurd c9 (by decide +kernel) | exact absurd (by decide +kernel) c9
  refine lv_iload_n hx hb dX12_isThere_4 rfl (lv_at hl 1 rfl) ?_
  refine lv_iconst (v := 2) hx hb dX12_isThere_5 (by decide +kernel) ?_
  refine lv_icmp_gt (tgt := 13) hx hb dX12_isThere_6 (by decide) (fun c9 => ?_) (fun c9 => ?_)
  · first | exact absurd c9 (by decide +kernel) | exact absurd (by decide +kernel) c9
  refine lv_iconst (v := 1) hx hb dX12_isThere_9 (by decide +kernel) ?_
  refine lv_goto (tgt := 14) hx hb dX12_isThere_10 (by decide) ?_
  have hF0 : ∀ q, va_A [] H.size q → A q := fun q h => h.elim (fun ⟨k9, e9, h9⟩ => by simp at h9) (fun h9 => hA q (Nat.le_trans hS.1 h9))
  refine vx_callv (vx_runS (As := [.int 1]) (rest := []) ⟨hx, hb, hml, hown, hts⟩ (ct_X12_needRange l hlt H.size 1) (cwS 1 hts (gi_S wd_1328 wd_1329 wd_327 wd_1330) rfl rfl rfl (by decide +kernel) ⟨(Nat.le_of_ble_eq_true rfl), (Nat.le_of_ble_eq_true rfl)⟩) ⟨fun a U g mk q => ⟨q.1, q.2.1, th.moved (u := U) (U := U.calling g mk a) (Vm.Alike.refl U.vm) q.2.2⟩, fun U hU hW => ⟨rfl, by rw [hU], by rw [hU]; exact ((hth.kept hS.2.1).narrow hF0).moved hW.alike⟩⟩ rfl rfl hl.1 rfl (lv_room (Nat.le_of_ble_eq_true rfl)) dX12_isThere_14 ⟨(Nat.le_of_ble_eq_true rfl), (Nat.le_of_ble_eq_true rfl)⟩) hS (fun q _ h => hF0 q h) hF0 (fun q _ h => hF0 q h) (fun E ce q9 u t H1 locs ht hvm hp hB hz hk hS hce hcv hcl => absurd hp (by decide +kernel)) (fun u t H1 locs ht hvm hp hB hz hk hS => ?_)
  have hP : va_P (dC, dI) CL [(x, .inr (12, xg)), (deA, .inl (deAC, (6, .inr (.inr (.inr (.inr deAF)))))), (de0, .inr (3, de0g)), (de1, .inr (3, de1g)), (de2, .inr (3, de2g)), (de3, .inr (3, de3g)), (de4, .inr (3, de4g)), (de5, .inr (3, de5g)), (oA, .inl (oAC, (1, .inr (.inl oAf))))] H1 := hP.kept (fun k q h9 => hk _ (vx_lt hP h9) (fun h8 => h8.elim (fun ⟨k9, e9, h7⟩ => by simp at h7) (fun h7 => absurd (vx_lt hP h9) (Nat.not_lt.mpr h7))))
  generalize H1 = H at hP hS ⊢
  refine W.widen (k := 1) (n := 6) (Nat.le_of_ble_eq_true rfl) (Nat.le_of_ble_eq_true rfl) ?_
  refine lv_iload_n hx hb dX12_isThere_17 rfl (lv_at hl 1 rfl) ?_
  refine lv_if_ne (tgt := 49) hx hb dX12_isThere_18 (by decide) (fun c9 => ?_) (fun c9 => ?_)
  · first | exact absurd c9 (by decide +kernel) | exact absurd (by decide +kernel) c9
  refine lv_iload_n hx hb dX12_isThere_21 rfl (lv_at hl 2 rfl) ?_
  refine lv_if_lt (tgt := 47) hx hb dX12_isThere_22 (by decide) (fun c9 => ?_) (fun c9 => ?_)
  · first | exact absurd c9 (by decide +kernel) | exact absurd (by decide +kernel) c9
  refine lv_iload_n hx hb dX12_isThere_25 rfl (lv_at hl 2 rfl) ?_
  refine lv_bipush (v := 6) hx hb dX12_isThere_26 (by decide +kernel) ?_
  refine lv_icmp_ge (tgt := 47) hx hb dX12_isThere_28 (by decide) (fun c9 => ?_) (fun c9 => ?_)
  · first | exact absurd c9 (by decide +kernel) | exact absurd (by decide +kernel) c9
  refine lv_aload_n hx hb dX12_isThere_31 rfl (lv_at hl 0 rfl) ?_
  refine va_get (D := (dC, dI)) (ci := 12) (v := .ref deA) (C := RX12) (T := TX12) (N := 17) hx hb hts inX12 hown hK hP 0 rfl rfl 7 (by decide) (hts (.fieldLink RX12 64 "ChipFlow" "designs" "[LChipFlow$Design;") wd_1185) (fun _ h9 => h9) (h_x.get 0 rfl) dX12_isThere_32 ?_
  refine lv_iload_n hx hb dX12_isThere_35 rfl (lv_at hl 2 rfl) ?_
  refine va_aldq hx hb hK hP 1 0 rfl rfl (vp_in_nI (n := 5) (N := 6) (by decide) (by decide)) dX12_isThere_36 ?_
  rw [show (5 : Int32).toNatClampNeg = 5 by decide +kernel, h_deA5]
  refine W.eq (g2 := F0 m 37 ls [.ref de5]) rfl ?_
  refine va_get (D := (dC, dI)) (ci := 3) (v := .int 0) (C := RX3) (T := TX3) (N := 16) hx hb hts inX3 hown hK hP 7 rfl rfl 0 (by decide) (hts (.fieldLink RX12 148 "ChipFlow$Design" "used" "Z") wd_766) (fun _ h9 => h9) (h_de5.get 0 rfl) dX12_isThere_37 ?_
  refine lv_if_eq (tgt := 47) hx hb dX12_isThere_40 (by decide) (fun c9 => ?_) (fun c9 => ?_)
  rotate_left
  · first | exact absurd c9 (by decide +kernel) | exact absurd (by decide +kernel) c9
  refine lv_iconst (v := 0) hx hb dX12_isThere_47 (by decide +kernel) ?_
  refine W.widen (k := 1) (n := 6) (Nat.le_of_ble_eq_true rfl) (Nat.le_of_ble_eq_true rfl) ?_
  exact W.zret (v := 0) hx hb hr rfl (fun t ht hW => ⟨⟨0, (), rfl, rfl, xg, de0g, de1g, de2g, de3g, de4g, de5g, oAf, h_x, h_de0, h_de1, h_de2, h_de3, h_de4, h_de5, h_oA, by rw [ht]; exact hP, va_K.moved hW.alike hK, hD⟩, hS.F ht⟩) hS.2.2 dX12_isThere_48
set_option maxHeartbeats 4000000 in
set_option maxRecDepth 100000 in
theorem gx96_L_isThere (l : Launch) (hlt : l.stackTraces = false) (dC : Nat → ClassId) (dI : Nat → Nat → Nat) (sz : Nat) (x deA de0 de1 de2 de3 de4 de5 oA liA chA : Nat) (xg : List Value) (h_x : fx xg 17 [(7, .ref deA), (8, .ref liA), (9, .ref chA)]) (deAC : ClassId) (deAF : Nat → Option Nat) (de0g : List Value) (h_de0 : fx de0g 16 [(0, .int 0)]) (de1g : List Value) (h_de1 : fx de1g 16 [(0, .int 0)]) (de2g : List Value) (h_de2 : fx de2g 16 [(0, .int 0)]) (de3g : List Value) (h_de3 : fx de3g 16 [(0, .int 0)]) (de4g : List Value) (h_de4 : fx de4g 16 [(0, .int 0)]) (de5g : List Value) (h_de5 : fx de5g 16 [(0, .int 0)]) (oAC : ClassId) (oAf : Nat → Int64) (h_oA : fa oAf []) (h_deA0 : deAF 0 = some de0) (h_deA1 : deAF 1 = some de1) (h_deA2 : deAF 2 = some de2) (h_deA3 : deAF 3 = some de3) (h_deA4 : deAF 4 = some de4) (h_deA5 : deAF 5 = some de5) : Met l yL_isThere (Cond.codeWith yL_isThere cL_isThere 5 (some .int) [(0, 17, 20, 19)] :: BG) ({ frames := 8, cells := 1, slots := 6, locals := 152 }) (va_Pc [.ref x, .int 0, .int 5, .ref oA] (fun U => U.heap.size = sz ∧ va_P (dC, dI) CL [(x, .inr (12, xg)), (deA, .inl (deAC, (6, .inr (.inr (.inr (.inr deAF)))))), (de0, .inr (3, de0g)), (de1, .inr (3, de1g)), (de2, .inr (3, de2g)), (de3, .inr (3, de3g)), (de4, .inr (3, de4g)), (de5, .inr (3, de5g)), (oA, .inl (oAC, (1, .inr (.inl oAf))))] U.heap ∧ va_K (dC, dI) CL [(deAC, .object "ChipFlow$Design"), (oAC, .long)] U ∧ va_D (fun _ => True) [(x, .inr (12, xg)), (deA, .inl (deAC, (6, .inr (.inr (.inr (.inr deAF)))))), (de0, .inr (3, de0g)), (de1, .inr (3, de1g)), (de2, .inr (3, de2g)), (de3, .inr (3, de3g)), (de4, .inr (3, de4g)), (de5, .inr (3, de5g)), (oA, .inl (oAC, (1, .inr (.inl oAf))))] ∧ th (va_A [(x, .inr (12, xg)), (deA, .inl (deAC, (6, .inr (.inr (.inr (.inr deAF)))))), (de0, .inr (3, de0g)), (de1, .inr (3, de1g)), (de2, .inr (3, de2g)), (de3, .inr (3, de3g)), (de4, .inr (3, de4g)), (de5, .inr (3, de5g)), (oA, .inl (oAC, (1, .inr (.inl oAf))))] sz) U U.heap)) (va_Qi (fun (r : Int32) (_ : Unit) => r = 0) (fun _ t => ∃ (xy : List Value) (de0y : List Value) (de1y : List Value) (de2y : List Value) (de3y : List Value) (de4y : List Value) (de5y : List Value) (oAy : Nat → Int64), fx xy 17 [(7, .ref deA), (8, .ref liA), (9, .ref chA)] ∧ fx de0y 16 [(0, .int 0)] ∧ fx de1y 16 [(0, .int 0)] ∧ fx de2y 16 [(0, .int 0)] ∧ fx de3y 16 [(0, .int 0)] ∧ fx de4y 16 [(0, .int 0)] ∧ fx de5y 16 [(0, .int 0)] ∧ fa oAy [(0, 0)] ∧ va_P (dC, dI) CL [(x, .inr (12, xy)), (deA, .inl (deAC, (6, .inr (.inr (.inr (.inr deAF)))))), (de0, .inr (3, de0y)), (de1, .inr (3, de1y)), (de2, .inr (3, de2y)), (de3, .inr (3, de3y)), (de4, .inr (3, de4y)), (de5, .inr (3, de5y)), (oA, .inl (oAC, (1, .inr (.inl oAy))))] t.heap ∧ va_K (dC, dI) CL [(deAC, .object "ChipFlow$Design"), (oAC, .long)] t ∧ va_D (va_A [(x, .inr (12, xg)), (deA, .inl (deAC, (6, .inr (.inr (.inr (.inr deAF)))))), (de0, .inr (3, de0g)), (de1, .inr (3, de1g)), (de2, .inr (3, de2g)), (de3, .inr (3, de3g)), (de4, .inr (3, de4g)), (de5, .inr (3, de5g)), (oA, .inl (oAC, (1, .inr (.inl oAf))))] sz) [(x, .inr (12, xy)), (deA, .inl (deAC, (6, .inr (.inr (.inr (.inr deAF)))))), (de0, .inr (3, de0y)), (de1, .inr (3, de1y)), (de2, .inr (3, de2y)), (de3, .inr (3, de3y)), (de4, .inr (3, de4y)), (de5, .inr (3, de5y)), (oA, .inl (oAC, (1, .inr (.inl oAy))))]) (va_A [(x, .inr (12, xg)), (deA, .inl (deAC, (6, .inr (.inr (.inr (.inr deAF)))))), (de0, .inr (3, de0g)), (de1, .inr (3, de1g)), (de2, .inr (3, de2g)), (de3, .inr (3, de3g)), (de4, .inr (3, de4g)), (de5, .inr (3, de5g)), (oA, .inl (oAC, (1, .inr (.inl oAf))))] sz)) 1 6 (va_A [(x, .inr (12, xg)), (deA, .inl (deAC, (6, .inr (.inr (.inr (.inr deAF)))))), (de0, .inr (3, de0g)), (de1, .inr (3, de1g)), (de2, .inr (3, de2g)), (de3, .inr (3, de3g)), (de4, .inr (3, de4g)), (de5, .inr (3, de5g)), (oA, .inl (oAC, (1, .inr (.inl oAf))))] sz) := by
  refine va_MetW (hh := [(0, 17, 20, 19)]) (cc := cL_isThere) (maxL := 5) (ret := (some .int)) (by decide) rfl ?_
  intro p e s m args below meth c s₁ B hml hv
  obtain ⟨rfl, hsz, hP, hK, hD0, hth⟩ := hv
  have hx := B.exec
  have hb := B.bytes
  have hr := B.returns
  have hts : ∀ w ∈ BG, w.before _ s = true := fun w h => atoms_spec (ws := Cond.codeWith yL_isThere cL_isThere 5 (some .int) [(0, 17, 20, 19)] :: BG) B.pre w (List.mem_cons_of_mem _ h)
  have hown : s.vm.findClass RL = some m.cls := findClass_of_methodNamed B.named
  have hlocks := B.notSynchronized
  subst hsz
  have hD := hD0.self (sz := s.heap.size)
  generalize hAe : va_A [(x, .inr (12, xg)), (deA, .inl (deAC, (6, .inr (.inr (.inr (.inr deAF)))))), (de0, .inr (3, de0g)), (de1, .inr (3, de1g)), (de2, .inr (3, de2g)), (de3, .inr (3, de3g)), (de4, .inr (3, de4g)), (de5, .inr (3, de5g)), (oA, .inl (oAC, (1, .inr (.inl oAf))))] s.heap.size = A at hD hth ⊢
  have hA : ∀ q : Nat, s.heap.size ≤ q → A q := fun q h => by rw [← hAe]; exact Or.inr h
  have hS : va_S A s.heap s.heap [] := va_S.rf
  have hl := lv_entry ([.ref x, .int 0, .int 5, .ref oA]) (n := 5) (Nat.le_of_ble_eq_true rfl)
  rw [lg_entry_eq]
  generalize (lg_sl ([.ref x, .int 0, .int 5, .ref oA]) ++ List.replicate (5 - (lg_sl ([.ref x, .int 0, .int 5, .ref oA])).length) Slot.unset).toArray = ls at hl ⊢
  have hl : lv_has ls 5 [(0, .ref x), (1, .int 0), (2, .int 5), (3, .ref oA)] := hl
  obtain ⟨H, eH⟩ : ∃ z, z = s.heap := ⟨_, rfl⟩
  have hP : va_P (dC, dI) CL [(x, .inr (12, xg)), (deA, .inl (deAC, (6, .inr (.inr (.inr (.inr deAF)))))), (de0, .inr (3, de0g)), (de1, .inr (3, de1g)), (de2, .inr (3, de2g)), (de3, .inr (3, de3g)), (de4, .inr (3, de4g)), (de5, .inr (3, de5g)), (oA, .inl (oAC, (1, .inr (.inl oAf))))] H := by rw [eH]; exact hP
  have hS : va_S A s.heap H [] := by rw [eH]; exact hS
  rw [← eH]
  have hT : c.exceptionTable.toList = tableOf [(0, 17, 20, 19)] := vx_table (x := yL_isThere) B (atoms_spec (ws := Cond.codeWith yL_isThere cL_isThere 5 (some .int) [(0, 17, 20, 19)] :: BG) B.pre _ List.mem_cons_self)
  refine lv_aload_n hx hb dL_isThere_0 rfl (lv_at hl 3 rfl) ?_
  refine lv_iconst (v := 0) hx hb dL_isThere_1 (by decide +kernel) ?_
  refine lv_aload_n hx hb dL_isThere_2 rfl (lv_at hl 0 rfl) ?_
  refine lv_iload_n hx hb dL_isThere_3 rfl (lv_at hl 1 rfl) ?_
  refine lv_iload_n hx hb dL_isThere_4 rfl (lv_at hl 2 rfl) ?_
  have hFc := va_free (wc := [(x, .inr (12, xg)), (deA, .inl (deAC, (6, .inr (.inr (.inr (.inr deAF)))))), (de0, .inr (3, de0g)), (de1, .inr (3, de1g)), (de2, .inr (3, de2g)), (de3, .inr (3, de3g)), (de4, .inr (3, de4g)), (de5, .inr (3, de5g)), (oA, .inl (oAC, (1, .inr (.inl oAf))))]) hD hS hA [0, 1, 2, 3, 4, 5, 6, 7, 8] rfl
  refine va_calli (va_runV (As := [.int 0, .int 5]) (rest := [.int 0, .ref oA]) ⟨hx, hb, hml, hown, hts⟩ (gx97_X12_isThere l hlt dC dI _ x deA de0 de1 de2 de3 de4 de5 oA liA chA xg h_x deAC deAF de0g h_de0 de1g h_de1 de2g h_de2 de3g h_de3 de4g h_de4 de5g h_de5 oAC oAf h_oA h_deA0 h_deA1 h_deA2 h_deA3 h_deA4 h_deA5) (cwV 2 hts (gi_V wd_1842 wd_1843 wd_1844 wd_327 wd_1845) rfl rfl rfl (by decide +kernel) ⟨(Nat.le_of_ble_eq_true rfl), (Nat.le_of_ble_eq_true rfl)⟩) ⟨fun a U g mk q => by obtain ⟨q0, q1, qP, qK, qD, qT⟩ := q; exact ⟨q0, q1, qP, va_K.moved (u := U) (U := U.calling g mk a) (Vm.Alike.refl U.vm) qK, qD, th.moved (u := U) (U := U.calling g mk a) (Vm.Alike.refl U.vm) qT⟩, va_recv hK hP (ci := 12) (q0 := 0) rfl rfl, fun U hU hW => ⟨rfl, by rw [hU], by rw [hU]; exact hP, va_K.moved hW.alike hK, hD.weaken (fun _ _ _ _ => trivial), by rw [hU]; exact ((hth.kept hS.2.1).narrow hFc).moved hW.alike⟩⟩ rfl rfl hl.1 rfl (lv_room (Nat.le_of_ble_eq_true rfl)) dL_isThere_5 ⟨(Nat.le_of_ble_eq_true rfl), (Nat.le_of_ble_eq_true rfl)⟩) hS (fun q _ h => hFc q h) hFc (fun r u t H1 locs ht hvm hw hB hz1 hk1 hS => ?_)
  subst hw
  obtain ⟨fs_1, fs_2, fs_3, fs_4, fs_5, fs_6, fs_7, f_8, h_x, h_de0, h_de1, h_de2, h_de3, h_de4, h_de5, h_oA, hP1, hK1, hD1⟩ := hB
  rw [ht] at hP1
  have hD := hD1.weaken (fun k q _ h => hFc q.1 h)
  have hP := hP1
  generalize H1 = H at hP hS ⊢
  have hP : va_P (dC, dI) CL [(x, .inr (12, fs_1)), (deA, .inl (deAC, (6, .inr (.inr (.inr (.inr deAF)))))), (de0, .inr (3, fs_2)), (de1, .inr (3, fs_3)), (de2, .inr (3, fs_4)), (de3, .inr (3, fs_5)), (de4, .inr (3, fs_6)), (de5, .inr (3, fs_7)), (oA, .inl (oAC, (1, .inr (.inl f_8))))] H := hP
  have hD : va_D A [(x, .inr (12, fs_1)), (deA, .inl (deAC, (6, .inr (.inr (.inr (.inr deAF)))))), (de0, .inr (3, fs_2)), (de1, .inr (3, fs_3)), (de2, .inr (3, fs_4)), (de3, .inr (3, fs_5)), (de4, .inr (3, fs_6)), (de5, .inr (3, fs_7)), (oA, .inl (oAC, (1, .inr (.inl f_8))))] := hD
  refine W.widen (k := 1) (n := 6) (Nat.le_of_ble_eq_true rfl) (Nat.le_of_ble_eq_true rfl) ?_
  refine lv_if_eq (tgt := 15) hx hb dL_isThere_8 (by decide) (fun c9 => ?_) (fun c9 => ?_)
  rotate_left
  · first | exact absurd c9 (by decide +kernel) | exact absurd (by decide +kernel) c9
  refine lv_lconst (v := 0) hx hb dL_isThere_15 (by decide) ?_
  refine va_last hx hb hK hP hD hS 8 1 rfl rfl (vp_in_nI (n := 0) (N := 1) (by decide) (by decide)) dL_isThere_16 (fun H locs hP hD hS => ?_)
  obtain ⟨f_9, e9⟩ : ∃ z, z = vp_updL f_8 (0 : Int32).toNatClampNeg 0 := ⟨_, rfl⟩
  have h_oA : fa f_9 [(0, 0)] := by rw [e9, show (0 : Int32).toNatClampNeg = 0 by decide +kernel]; exact (fa.putL h_oA).sub [0] rfl
  have hP : va_P (dC, dI) CL [(x, .inr (12, fs_1)), (deA, .inl (deAC, (6, .inr (.inr (.inr (.inr deAF)))))), (de0, .inr (3, fs_2)), (de1, .inr (3, fs_3)), (de2, .inr (3, fs_4)), (de3, .inr (3, fs_5)), (de4, .inr (3, fs_6)), (de5, .inr (3, fs_7)), (oA, .inl (oAC, (1, .inr (.inl f_9))))] H := by rw [e9]; exact hP
  have hD : va_D A [(x, .inr (12, fs_1)), (deA, .inl (deAC, (6, .inr (.inr (.inr (.inr deAF)))))), (de0, .inr (3, fs_2)), (de1, .inr (3, fs_3)), (de2, .inr (3, fs_4)), (de3, .inr (3, fs_5)), (de4, .inr (3, fs_6)), (de5, .inr (3, fs_7)), (oA, .inl (oAC, (1, .inr (.inl f_9))))] := by rw [e9]; exact hD
  clear e9
  refine lv_goto (tgt := 24) hx hb dL_isThere_17 (by decide) ?_
  refine lv_iconst (v := 0) hx hb dL_isThere_24 (by decide +kernel) ?_
  refine W.widen (k := 1) (n := 6) (Nat.le_of_ble_eq_true rfl) (Nat.le_of_ble_eq_true rfl) ?_
  exact W.iret (v := 0) hx hb hr (fun t ht hW => ⟨⟨0, (), rfl, rfl, fs_1, fs_2, fs_3, fs_4, fs_5, fs_6, fs_7, f_9, h_x, h_de0, h_de1, h_de2, h_de3, h_de4, h_de5, h_oA, by rw [ht]; exact hP, va_K.moved hW.alike hK, hD⟩, hS.F ht⟩) hS.2.2 dL_isThere_25
set_option maxHeartbeats 4000000 in
set_option maxRecDepth 100000 in
theorem gx99_X13_isOne (l : Launch) (hlt : l.stackTraces = false) (dC : Nat → ClassId) (dI : Nat → Nat → Nat) (sz : Nat) (m0 md ml mch : Nat) (m0g : List Value) (h_m0 : fx m0g 225 [(0, .int 0), (2, .int 0), (3, .int 0), (9, .int 0), (10, .int 0), (11, .int 0), (12, .int 0), (27, .int 0), (55, .ref md), (79, .int 0), (83, .int 0), (88, .ref ml), (95, .int 0), (138, .ref mch)]) (mdC : ClassId) : Met l yX13_isOne (Cond.code yX13_isOne cX13_isOne 3 (some .boolean) :: BG) ({ frames := 2, cells := 0, slots := 0, locals := 33 }) (va_Pc [.ref m0, .int 0, .int 5] (fun U => U.heap.size = sz ∧ va_P (dC, dI) CL [(m0, .inr (13, m0g)), (md, .inl (mdC, (6, .inl (fun _ => 0))))] U.heap ∧ va_K (dC, dI) CL [(mdC, .boolean)] U ∧ va_D (fun _ => True) [(m0, .inr (13, m0g)), (md, .inl (mdC, (6, .inl (fun _ => 0))))] ∧ th (va_A [(m0, .inr (13, m0g)), (md, .inl (mdC, (6, .inl (fun _ => 0))))] sz) U U.heap)) (va_Qi (fun (r : Int32) (_ : Unit) => r = 0) (fun _ t => ∃ (m0y : List Value), fx m0y 225 [(0, .int 0), (2, .int 0), (3, .int 0), (9, .int 0), (10, .int 0), (11, .int 0), (12, .int 0), (27, .int 0), (55, .ref md), (79, .int 0), (83, .int 0), (88, .ref ml), (95, .int 0), (138, .ref mch)] ∧ va_P (dC, dI) CL [(m0, .inr (13, m0y)), (md, .inl (mdC, (6, .inl (fun _ => 0))))] t.heap ∧ va_K (dC, dI) CL [(mdC, .boolean)] t ∧ va_D (va_A [(m0, .inr (13, m0g)), (md, .inl (mdC, (6, .inl (fun _ => 0))))] sz) [(m0, .inr (13, m0y)), (md, .inl (mdC, (6, .inl (fun _ => 0))))]) (va_A [(m0, .inr (13, m0g)), (md, .inl (mdC, (6, .inl (fun _ => 0))))] sz)) 0 0 (va_A [(m0, .inr (13, m0g)), (md, .inl (mdC, (6, .inl (fun _ => 0))))] sz) := by
  refine Met.ofW (cc := cX13_isOne) (maxL := 3) (ret := (some .boolean)) (by decide) rfl ?_
  intro p e s m args below meth c s₁ B hml hv
  obtain ⟨rfl, hsz, hP, hK, hD0, hth⟩ := hv
  have hx := B.exec
  have hb := B.bytes
  have hr := B.returns
  have hts : ∀ w ∈ BG, w.before _ s = true := fun w h => atoms_spec (ws := Cond.code yX13_isOne cX13_isOne 3 (some .boolean) :: BG) B.pre w (List.mem_cons_of_mem _ h)
  have hown : s.vm.findClass RX13 = some m.cls := findClass_of_methodNamed B.named
  have hlocks := B.notSynchronized
  subst hsz
  have hD := hD0.self (sz := s.heap.size)
  generalize hAe : va_A [(m0, .inr (13, m0g)), (md, .inl (mdC, (6, .inl (fun _ => 0))))] s.heap.size = A at hD hth ⊢
  have hA : ∀ q : Nat, s.heap.size ≤ q → A q := fun q h => by rw [← hAe]; exact Or.inr h
  have hS : va_S A s.heap s.heap [] := va_S.rf
  have hl := lv_entry ([.ref m0, .int 0, .int 5]) (n := 3) (Nat.le_of_ble_eq_true rfl)
  rw [lg_entry_eq]
  generalize (lg_sl ([.ref m0, .int 0, .int 5]) ++ List.replicate (3 - (lg_sl ([.ref m0, .int 0, .int 5])).length) Slot.unset).toArray = ls at hl ⊢
  have hl : lv_has ls 3 [(0, .ref m0), (1, .int 0), (2, .int 5)] := hl
  obtain ⟨H, eH⟩ : ∃ z, z = s.heap := ⟨_, rfl⟩
  have hP : va_P (dC, dI) CL [(m0, .inr (13, m0g)), (md, .inl (mdC, (6, .inl (fun _ => 0))))] H := by rw [eH]; exact hP
  have hS : va_S A s.heap H [] := by rw [eH]; exact hS
  rw [← eH]
  refine lv_iload_n hx hb dX13_isOne_0 rfl (lv_at hl 1 rfl) ?_
  refine lv_if_ne (tgt := 12) hx hb dX13_isOne_1 (by decide) (fun c9 => ?_) (fun c9 => ?_)
  · first | exact absurd c9 (by decide +kernel) | exact absurd (by decide +kernel) c9
  refine lv_aload_n hx hb dX13_isOne_4 rfl (lv_at hl 0 rfl) ?_
  refine lv_iload_n hx hb dX13_isOne_5 rfl (lv_at hl 2 rfl) ?_
  have hFc := va_free (wc := [(m0, .inr (13, m0g)), (md, .inl (mdC, (6, .inl (fun _ => 0))))]) hD hS hA [0, 1] rfl
  refine va_calli (va_runV (As := [.int 5]) (rest := []) ⟨hx, hb, hml, hown, hts⟩ (ct_X13_isDesign l dC dI _ 5 m0 m0g md mdC (h_m0.sub [8] rfl)) (cwV 1 hts (gi_V wd_4076 wd_4078 wd_215 wd_340 wd_4079) rfl rfl rfl (by decide +kernel) ⟨(Nat.le_of_ble_eq_true rfl), (Nat.le_of_ble_eq_true rfl)⟩) ⟨fun a U g mk q => by obtain ⟨q0, q1, qP, qK, qD⟩ := q; exact ⟨q0, q1, qP, va_K.moved (u := U) (U := U.calling g mk a) (Vm.Alike.refl U.vm) qK, qD⟩, va_recv hK hP (ci := 13) (q0 := 0) rfl rfl, fun U hU hW => ⟨rfl, by rw [hU], by rw [hU]; exact hP, va_K.moved hW.alike hK, hD.weaken (fun _ _ _ _ => trivial)⟩⟩ rfl rfl hl.1 rfl (lv_room (Nat.le_of_ble_eq_true rfl)) dX13_isOne_6 ⟨(Nat.le_of_ble_eq_true rfl), (Nat.le_of_ble_eq_true rfl)⟩) hS (fun q _ h => hFc q h) hFc (fun r u t H1 locs ht hvm hw hB hz1 hk1 hS => ?_)
  subst hw
  obtain ⟨hP1, hK1, hD1⟩ := hB
  rw [ht] at hP1
  have hD := hD1.weaken (fun k q _ h => hFc q.1 h)
  have hP := hP1
  generalize H1 = H at hP hS ⊢
  have hP : va_P (dC, dI) CL [(m0, .inr (13, m0g)), (md, .inl (mdC, (6, .inl (fun _ => 0))))] H := hP
  have hD : va_D A [(m0, .inr (13, m0g)), (md, .inl (mdC, (6, .inl (fun _ => 0))))] := hD
  refine lv_goto (tgt := 30) hx hb dX13_isOne_9 (by decide) ?_
  exact W.zret (v := 0) hx hb hr rfl (fun t ht hW => ⟨⟨0, (), rfl, rfl, m0g, h_m0, by rw [ht]; exact hP, va_K.moved hW.alike hK, hD⟩, hS.F ht⟩) hS.2.2 dX13_isOne_30
set_option maxHeartbeats 4000000 in
set_option maxRecDepth 100000 in
theorem gx98_X13_isThere (l : Launch) (hlt : l.stackTraces = false) (dC : Nat → ClassId) (dI : Nat → Nat → Nat) (sz : Nat) (m0 md ml mch : Nat) (m0g : List Value) (h_m0 : fx m0g 225 [(0, .int 0), (2, .int 0), (3, .int 0), (9, .int 0), (10, .int 0), (11, .int 0), (12, .int 0), (27, .int 0), (55, .ref md), (79, .int 0), (83, .int 0), (88, .ref ml), (95, .int 0), (138, .ref mch)]) (mdC : ClassId) : Met l yX13_isThere (Cond.code yX13_isThere cX13_isThere 3 (some .boolean) :: BG) ({ frames := 3, cells := 0, slots := 0, locals := 55 }) (va_Pc [.ref m0, .int 0, .int 5] (fun U => U.heap.size = sz ∧ va_P (dC, dI) CL [(m0, .inr (13, m0g)), (md, .inl (mdC, (6, .inl (fun _ => 0))))] U.heap ∧ va_K (dC, dI) CL [(mdC, .boolean)] U ∧ va_D (fun _ => True) [(m0, .inr (13, m0g)), (md, .inl (mdC, (6, .inl (fun _ => 0))))] ∧ th (va_A [(m0, .inr (13, m0g)), (md, .inl (mdC, (6, .inl (fun _ => 0))))] sz) U U.heap)) (va_Qi (fun (r : Int32) (_ : Unit) => r = 0) (fun _ t => ∃ (m0y : List Value), fx m0y 225 [(0, .int 0), (2, .int 0), (3, .int 0), (9, .int 0), (10, .int 0), (11, .int 0), (12, .int 0), (27, .int 0), (55, .ref md), (79, .int 0), (83, .int 0), (88, .ref ml), (95, .int 0), (138, .ref mch)] ∧ va_P (dC, dI) CL [(m0, .inr (13, m0y)), (md, .inl (mdC, (6, .inl (fun _ => 0))))] t.heap ∧ va_K (dC, dI) CL [(mdC, .boolean)] t ∧ va_D (va_A [(m0, .inr (13, m0g)), (md, .inl (mdC, (6, .inl (fun _ => 0))))] sz) [(m0, .inr (13, m0y)), (md, .inl (mdC, (6, .inl (fun _ => 0))))]) (va_A [(m0, .inr (13, m0g)), (md, .inl (mdC, (6, .inl (fun _ => 0))))] sz)) 0 0 (va_A [(m0, .inr (13, m0g)), (md, .inl (mdC, (6, .inl (fun _ => 0))))] sz) := by
  refine Met.ofW (cc := cX13_isThere) (maxL := 3) (ret := (some .boolean)) (by decide) rfl ?_
  intro p e s m args below meth c s₁ B hml hv
  obtain ⟨rfl, hsz, hP, hK, hD0, hth⟩ := hv
  have hx := B.exec
  have hb := B.bytes
  have hr := B.returns
  have hts : ∀ w ∈ BG, w.before _ s = true := fun w h => atoms_spec (ws := Cond.code yX13_isThere cX13_isThere 3 (some .boolean) :: BG) B.pre w (List.mem_cons_of_mem _ h)
  have hown : s.vm.findClass RX13 = some m.cls := findClass_of_methodNamed B.named
  have hlocks := B.notSynchronized
  subst hsz
  have hD := hD0.self (sz := s.heap.size)
  generalize hAe : va_A [(m0, .inr (13, m0g)), (md, .inl (mdC, (6, .inl (fun _ => 0))))] s.heap.size = A at hD hth ⊢
  have hA : ∀ q : Nat, s.heap.size ≤ q → A q := fun q h => by rw [← hAe]; exact Or.inr h
  have hS : va_S A s.heap s.heap [] := va_S.rf
  have hl := lv_entry ([.ref m0, .int 0, .int 5]) (n := 3) (Nat.le_of_ble_eq_true rfl)
  rw [lg_entry_eq]
  generalize (lg_sl ([.ref m0, .int 0, .int 5]) ++ List.replicate (3 - (lg_sl ([.ref m0, .int 0, .int 5])).length) Slot.unset).toArray = ls at hl ⊢
  have hl : lv_has ls 3 [(0, .ref m0), (1, .int 0), (2, .int 5)] := hl
  obtain ⟨H, eH⟩ : ∃ z, z = s.heap := ⟨_, rfl⟩
  have hP : va_P (dC, dI) CL [(m0, .inr (13, m0g)), (md, .inl (mdC, (6, .inl (fun _ => 0))))] H := by rw [eH]; exact hP
  have hS : va_S A s.heap H [] := by rw [eH]; exact hS
  rw [← eH]
  refine lv_aload_n hx hb dX13_isThere_0 rfl (lv_at hl 0 rfl) ?_
  refine lv_iload_n hx hb dX13_isThere_1 rfl (lv_at hl 1 rfl) ?_
  refine lv_iconst (v := 0) hx hb dX13_isThere_2 (by decide +kernel) ?_
  refine lv_iconst (v := 2) hx hb dX13_isThere_3 (by decide +kernel) ?_
  have hFc := va_free (wc := [(m0, .inr (13, m0g)), (md, .inl (mdC, (6, .inl (fun _ => 0))))]) hD hS hA [0, 1] rfl
  refine va_calli (va_runS (As := [.int 0, .int 0, .int 2]) (rest := [.ref m0]) ⟨hx, hb, hml, hown, hts⟩ (gx48_X13_within l hlt dC dI _ m0 md ml mch m0g h_m0 mdC) (cwS 3 hts (gi_S wd_3825 wd_3826 wd_340 wd_3827) rfl rfl rfl (by decide +kernel) ⟨(Nat.le_of_ble_eq_true rfl), (Nat.le_of_ble_eq_true rfl)⟩) ⟨fun a U g mk q => by obtain ⟨q0, q1, qP, qK, qD, qT⟩ := q; exact ⟨q0, q1, qP, va_K.moved (u := U) (U := U.calling g mk a) (Vm.Alike.refl U.vm) qK, qD, th.moved (u := U) (U := U.calling g mk a) (Vm.Alike.refl U.vm) qT⟩, fun U hU hW => ⟨rfl, by rw [hU], by rw [hU]; exact hP, va_K.moved hW.alike hK, hD.weaken (fun _ _ _ _ => trivial), by rw [hU]; exact ((hth.kept hS.2.1).narrow hFc).moved hW.alike⟩⟩ rfl rfl hl.1 rfl (lv_room (Nat.le_of_ble_eq_true rfl)) dX13_isThere_4 ⟨(Nat.le_of_ble_eq_true rfl), (Nat.le_of_ble_eq_true rfl)⟩) hS (fun q _ h => hFc q h) hFc (fun r u t H1 locs ht hvm hw hB hz1 hk1 hS => ?_)
  subst hw
  obtain ⟨fs_1, h_m0, hP1, hK1, hD1⟩ := hB
  rw [ht] at hP1
  have hD := hD1.weaken (fun k q _ h => hFc q.1 h)
  have hP := hP1
  generalize H1 = H at hP hS ⊢
  have hP : va_P (dC, dI) CL [(m0, .inr (13, fs_1)), (md, .inl (mdC, (6, .inl (fun _ => 0))))] H := hP
  have hD : va_D A [(m0, .inr (13, fs_1)), (md, .inl (mdC, (6, .inl (fun _ => 0))))] := hD
  refine lv_if_eq (tgt := 14) hx hb dX13_isThere_7 (by decide) (fun c9 => ?_) (fun c9 => ?_)
  · first | exact absurd c9 (by decide +kernel) | exact absurd (by decide +kernel) c9
  refine lv_iconst (v := 0) hx hb dX13_isThere_10 (by decide +kernel) ?_
  refine lv_goto (tgt := 15) hx hb dX13_isThere_11 (by decide) ?_
  refine va_put (D := (dC, dI)) (ci := 13) (v := .int 0) (ty := tyX13 0) (C := RX13) (T := TX13) (N := 225) hx hb hts inX13 tyX13 tyX13_ok nmX13 hown hK hP hD hS 0 rfl rfl 0 (by decide) (hts (.fieldLink RX13 1 "ChipFlowModel" "code" "I") wd_3032) (fun _ h9 => h9) rfl (by decide +kernel) rfl rfl (by rw [h_m0.1]; decide) dX13_isThere_15 (fun H locs hP hD hS => ?_)
  obtain ⟨fs_2, e9⟩ : ∃ z, z = fs_1.set 0 (.int 0) := ⟨_, rfl⟩
  have h_m0 : fx fs_2 225 [(0, .int 0), (2, .int 0), (3, .int 0), (9, .int 0), (10, .int 0), (11, .int 0), (12, .int 0), (27, .int 0), (55, .ref md), (79, .int 0), (83, .int 0), (88, .ref ml), (95, .int 0), (138, .ref mch)] := by rw [e9]; exact (h_m0.put (F' := [(0, .int 0), (2, .int 0), (3, .int 0), (9, .int 0), (10, .int 0), (11, .int 0), (12, .int 0), (27, .int 0), (55, .ref md), (79, .int 0), (83, .int 0), (88, .ref ml), (95, .int 0), (138, .ref mch)]) (by decide) _ rfl).sub [0, 1, 2, 3, 4, 5, 6, 7, 8, 9, 10, 11, 12, 13] rfl
  have hP : va_P (dC, dI) CL [(m0, .inr (13, fs_2)), (md, .inl (mdC, (6, .inl (fun _ => 0))))] H := by rw [e9]; exact hP
  have hD : va_D A [(m0, .inr (13, fs_2)), (md, .inl (mdC, (6, .inl (fun _ => 0))))] := by rw [e9]; exact hD
  clear e9
  refine lv_aload_n hx hb dX13_isThere_18 rfl (lv_at hl 0 rfl) ?_
  refine va_get (D := (dC, dI)) (ci := 13) (v := .int 0) (C := RX13) (T := TX13) (N := 225) hx hb hts inX13 hown hK hP 0 rfl rfl 0 (by decide) (hts (.fieldLink RX13 1 "ChipFlowModel" "code" "I") wd_3032) (fun _ h9 => h9) (h_m0.get 0 rfl) dX13_isThere_19 ?_
  refine lv_if_ne (tgt := 38) hx hb dX13_isThere_22 (by decide) (fun c9 => ?_) (fun c9 => ?_)
  · first | exact absurd c9 (by decide +kernel) | exact absurd (by decide +kernel) c9
  refine lv_aload_n hx hb dX13_isThere_25 rfl (lv_at hl 0 rfl) ?_
  refine lv_iload_n hx hb dX13_isThere_26 rfl (lv_at hl 1 rfl) ?_
  refine lv_iload_n hx hb dX13_isThere_27 rfl (lv_at hl 2 rfl) ?_
  have hFc := va_free (wc := [(m0, .inr (13, fs_2)), (md, .inl (mdC, (6, .inl (fun _ => 0))))]) hD hS hA [0, 1] rfl
  refine va_calli (va_runV (As := [.int 0, .int 5]) (rest := []) ⟨hx, hb, hml, hown, hts⟩ (gx99_X13_isOne l hlt dC dI _ m0 md ml mch fs_2 h_m0 mdC) (cwV 2 hts (gi_V wd_4072 wd_4074 wd_214 wd_340 wd_4075) rfl rfl rfl (by decide +kernel) ⟨(Nat.le_of_ble_eq_true rfl), (Nat.le_of_ble_eq_true rfl)⟩) ⟨fun a U g mk q => by obtain ⟨q0, q1, qP, qK, qD, qT⟩ := q; exact ⟨q0, q1, qP, va_K.moved (u := U) (U := U.calling g mk a) (Vm.Alike.refl U.vm) qK, qD, th.moved (u := U) (U := U.calling g mk a) (Vm.Alike.refl U.vm) qT⟩, va_recv hK hP (ci := 13) (q0 := 0) rfl rfl, fun U hU hW => ⟨rfl, by rw [hU], by rw [hU]; exact hP, va_K.moved hW.alike hK, hD.weaken (fun _ _ _ _ => trivial), by rw [hU]; exact ((hth.kept hS.2.1).narrow hFc).moved hW.alike⟩⟩ rfl rfl hl.1 rfl (lv_room (Nat.le_of_ble_eq_true rfl)) dX13_isThere_28 ⟨(Nat.le_of_ble_eq_true rfl), (Nat.le_of_ble_eq_true rfl)⟩) hS (fun q _ h => hFc q h) hFc (fun r u t H1 locs ht hvm hw hB hz1 hk1 hS => ?_)
  subst hw
  obtain ⟨fs_3, h_m0, hP1, hK1, hD1⟩ := hB
  rw [ht] at hP1
  have hD := hD1.weaken (fun k q _ h => hFc q.1 h)
  have hP := hP1
  generalize H1 = H at hP hS ⊢
  have hP : va_P (dC, dI) CL [(m0, .inr (13, fs_3)), (md, .inl (mdC, (6, .inl (fun _ => 0))))] H := hP
  have hD : va_D A [(m0, .inr (13, fs_3)), (md, .inl (mdC, (6, .inl (fun _ => 0))))] := hD
  refine lv_if_eq (tgt := 38) hx hb dX13_isThere_31 (by decide) (fun c9 => ?_) (fun c9 => ?_)
  rotate_left
  · first | exact absurd c9 (by decide +kernel) | exact absurd (by decide +kernel) c9
  refine lv_iconst (v := 0) hx hb dX13_isThere_38 (by decide +kernel) ?_
  exact W.zret (v := 0) hx hb hr rfl (fun t ht hW => ⟨⟨0, (), rfl, rfl, fs_3, h_m0, by rw [ht]; exact hP, va_K.moved hW.alike hK, hD⟩, hS.F ht⟩) hS.2.2 dX13_isThere_39
set_option maxHeartbeats 4000000 in
set_option maxRecDepth 100000 in
theorem gx101_X12_isThere (l : Launch) (hlt : l.stackTraces = false) (dC : Nat → ClassId) (dI : Nat → Nat → Nat) (sz : Nat) (p1 : Int32) (x liA li0 li1 li2 oA deA chA : Nat) (xg : List Value) (h_x : fx xg 17 [(7, .ref deA), (8, .ref liA), (9, .ref chA)]) (liAC : ClassId) (liAF : Nat → Option Nat) (li0g : List Value) (h_li0 : fx li0g 7 [(0, .int 0)]) (li1g : List Value) (h_li1 : fx li1g 7 [(0, .int 0)]) (li2g : List Value) (h_li2 : fx li2g 7 [(0, .int 0)]) (oAC : ClassId) (oAf : Nat → Int64) (h_oA : fa oAf []) (h_liA0 : liAF 0 = some li0) (h_liA1 : liAF 1 = some li1) (h_liA2 : liAF 2 = some li2) (zk : p1 < 0) : Met l yX12_isThere (Cond.code yX12_isThere cX12_isThere 3 (some .boolean) :: BG) ({ frames := 7, cells := 1, slots := 6, locals := 130 }) (va_Pc [.ref x, .int 1, .int p1] (fun U => U.heap.size = sz ∧ va_P (dC, dI) CL [(x, .inr (12, xg)), (liA, .inl (liAC, (3, .inr (.inr (.inr (.inr liAF)))))), (li0, .inr (5, li0g)), (li1, .inr (5, li1g)), (li2, .inr (5, li2g)), (oA, .inl (oAC, (1, .inr (.inl oAf))))] U.heap ∧ va_K (dC, dI) CL [(liAC, .object "ChipFlow$Library"), (oAC, .long)] U ∧ va_D (fun _ => True) [(x, .inr (12, xg)), (liA, .inl (liAC, (3, .inr (.inr (.inr (.inr liAF)))))), (li0, .inr (5, li0g)), (li1, .inr (5, li1g)), (li2, .inr (5, li2g)), (oA, .inl (oAC, (1, .inr (.inl oAf))))] ∧ th (va_A [(x, .inr (12, xg)), (liA, .inl (liAC, (3, .inr (.inr (.inr (.inr liAF)))))), (li0, .inr (5, li0g)), (li1, .inr (5, li1g)), (li2, .inr (5, li2g)), (oA, .inl (oAC, (1, .inr (.inl oAf))))] sz) U U.heap)) (va_Qi (fun (r : Int32) (_ : Unit) => r = 0) (fun _ t => ∃ (xy : List Value) (li0y : List Value) (li1y : List Value) (li2y : List Value) (oAy : Nat → Int64), fx xy 17 [(7, .ref deA), (8, .ref liA), (9, .ref chA)] ∧ fx li0y 7 [(0, .int 0)] ∧ fx li1y 7 [(0, .int 0)] ∧ fx li2y 7 [(0, .int 0)] ∧ fa oAy [] ∧ va_P (dC, dI) CL [(x, .inr (12, xy)), (liA, .inl (liAC, (3, .inr (.inr (.inr (.inr liAF)))))), (li0, .inr (5, li0y)), (li1, .inr (5, li1y)), (li2, .inr (5, li2y)), (oA, .inl (oAC, (1, .inr (.inl oAy))))] t.heap ∧ va_K (dC, dI) CL [(liAC, .object "ChipFlow$Library"), (oAC, .long)] t ∧ va_D (va_A [(x, .inr (12, xg)), (liA, .inl (liAC, (3, .inr (.inr (.inr (.inr liAF)))))), (li0, .inr (5, li0g)), (li1, .inr (5, li1g)), (li2, .inr (5, li2g)), (oA, .inl (oAC, (1, .inr (.inl oAf))))] sz) [(x, .inr (12, xy)), (liA, .inl (liAC, (3, .inr (.inr (.inr (.inr liAF)))))), (li0, .inr (5, li0y)), (li1, .inr (5, li1y)), (li2, .inr (5, li2y)), (oA, .inl (oAC, (1, .inr (.inl oAy))))]) (va_A [(x, .inr (12, xg)), (liA, .inl (liAC, (3, .inr (.inr (.inr (.inr liAF)))))), (li0, .inr (5, li0g)), (li1, .inr (5, li1g)), (li2, .inr (5, li2g)), (oA, .inl (oAC, (1, .inr (.inl oAf))))] sz)) 1 6 (va_A [(x, .inr (12, xg)), (liA, .inl (liAC, (3, .inr (.inr (.inr (.inr liAF)))))), (li0, .inr (5, li0g)), (li1, .inr (5, li1g)), (li2, .inr (5, li2g)), (oA, .inl (oAC, (1, .inr (.inl oAf))))] sz) := by
  refine Met.ofW (cc := cX12_isThere) (maxL := 3) (ret := (some .boolean)) (by decide) rfl ?_
  intro p e s m args below meth c s₁ B hml hv
  obtain ⟨rfl, hsz, hP, hK, hD0, hth⟩ := hv
  have hx := B.exec
  have hb := B.bytes
  have hr := B.returns
  have hts : ∀ w ∈ BG, w.before _ s = true := fun w h => atoms_spec (ws := Cond.code yX12_isThere cX12_isThere 3 (some .boolean) :: BG) B.pre w (List.mem_cons_of_mem _ h)
  have hown : s.vm.findClass RX12 = some m.cls := findClass_of_methodNamed B.named
  have hlocks := B.notSynchronized
  subst hsz
  have hD := hD0.self (sz := s.heap.size)
  generalize hAe : va_A [(x, .inr (12, xg)), (liA, .inl (liAC, (3, .inr (.inr (.inr (.inr liAF)))))), (li0, .inr (5, li0g)), (li1, .inr (5, li1g)), (li2, .inr (5, li2g)), (oA, .inl (oAC, (1, .inr (.inl oAf))))] s.heap.size = A at hD hth ⊢
  have hA : ∀ q : Nat, s.heap.size ≤ q → A q := fun q h => by rw [← hAe]; exact Or.inr h
  have hS : va_S A s.heap s.heap [] := va_S.rf
  have hl := lv_entry ([.ref x, .int 1, .int p1]) (n := 3) (Nat.le_of_ble_eq_true rfl)
  rw [lg_entry_eq]
  generalize (lg_sl ([.ref x, .int 1, .int p1]) ++ List.replicate (3 - (lg_sl ([.ref x, .int 1, .int p1])).length) Slot.unset).toArray = ls at hl ⊢
  have hl : lv_has ls 3 [(0, .ref x), (1, .int 1), (2, .int p1)] := hl
  obtain ⟨H, eH⟩ : ∃ z, z = s.heap := ⟨_, rfl⟩
  have hP : va_P (dC, dI) CL [(x, .inr (12, xg)), (liA, .inl (liAC, (3, .inr (.inr (.inr (.inr liAF)))))), (li0, .inr (5, li0g)), (li1, .inr (5, li1g)), (li2, .inr (5, li2g)), (oA, .inl (oAC, (1, .inr (.inl oAf))))] H := by rw [eH]; exact hP
  have hS : va_S A s.heap H [] := by rw [eH]; exact hS
  rw [← eH]
  refine lv_iload_n hx hb dX12_isThere_0 rfl (lv_at hl 1 rfl) ?_
  refine lv_if_lt (tgt := 13) hx hb dX12_isThere_1 (by decide) (fun c9 => ?_) (fun c9 => ?_)
  · first | exact absurd c9 (by decide +kernel) | exact absurd (by decide +kernel) c9
  refine lv_iload_n hx hb dX12_isThere_4 rfl (lv_at hl 1 rfl) ?_
  refine lv_iconst (v := 2) hx hb dX12_isThere_5 (by decide +kernel) ?_
  refine lv_icmp_gt (tgt := 13) hx hb dX12_isThere_6 (by decide) (fun c9 => ?_) (fun c9 => ?_)
  · first | exact absurd c9 (by decide +kernel) | exact absurd (by decide +kernel) c9
  refine lv_iconst (v := 1) hx hb dX12_isThere_9 (by decide +kernel) ?_
  refine lv_goto (tgt := 14) hx hb dX12_isThere_10 (by decide) ?_
  have hF0 : ∀ q, va_A [] H.size q → A q := fun q h => h.elim (fun ⟨k9, e9, h9⟩ => by simp at h9) (fun h9 => hA q (Nat.le_trans hS.1 h9))
  refine vx_callv (vx_runS (As := [.int 1]) (rest := []) ⟨hx, hb, hml, hown, hts⟩ (ct_X12_needRange l hlt H.size 1) (cwS 1 hts (gi_S wd_1328 wd_1329 wd_327 wd_1330) rfl rfl rfl (by decide +kernel) ⟨(Nat.le_of_ble_eq_true rfl), (Nat.le_of_ble_eq_true rfl)⟩) ⟨fun a U g mk q => ⟨q.1, q.2.1, th.moved (u := U) (U := U.calling g mk a) (Vm.Alike.refl U.vm) q.2.2⟩, fun U hU hW => ⟨rfl, by rw [hU], by rw [hU]; exact ((hth.kept hS.2.1).narrow hF0).moved hW.alike⟩⟩ rfl rfl hl.1 rfl (lv_room (Nat.le_of_ble_eq_true rfl)) dX12_isThere_14 ⟨(Nat.le_of_ble_eq_true rfl), (Nat.le_of_ble_eq_true rfl)⟩) hS (fun q _ h => hF0 q h) hF0 (fun q _ h => hF0 q h) (fun E ce q9 u t H1 locs ht hvm hp hB hz hk hS hce hcv hcl => absurd hp (by decide +kernel)) (fun u t H1 locs ht hvm hp hB hz hk hS => ?_)
  have hP : va_P (dC, dI) CL [(x, .inr (12, xg)), (liA, .inl (liAC, (3, .inr (.inr (.inr (.inr liAF)))))), (li0, .inr (5, li0g)), (li1, .inr (5, li1g)), (li2, .inr (5, li2g)), (oA, .inl (oAC, (1, .inr (.inl oAf))))] H1 := hP.kept (fun k q h9 => hk _ (vx_lt hP h9) (fun h8 => h8.elim (fun ⟨k9, e9, h7⟩ => by simp at h7) (fun h7 => absurd (vx_lt hP h9) (Nat.not_lt.mpr h7))))
  generalize H1 = H at hP hS ⊢
  refine W.widen (k := 1) (n := 6) (Nat.le_of_ble_eq_true rfl) (Nat.le_of_ble_eq_true rfl) ?_
  refine lv_iload_n hx hb dX12_isThere_17 rfl (lv_at hl 1 rfl) ?_
  refine lv_if_ne (tgt := 49) hx hb dX12_isThere_18 (by decide) (fun c9 => ?_) (fun c9 => ?_)
  rotate_left
  · first | exact absurd c9 (by decide +kernel) | exact absurd (by decide +kernel) c9
  refine lv_iload_n hx hb dX12_isThere_49 rfl (lv_at hl 1 rfl) ?_
  refine lv_iconst (v := 1) hx hb dX12_isThere_50 (by decide +kernel) ?_
  refine lv_icmp_ne (tgt := 81) hx hb dX12_isThere_51 (by decide) (fun c9 => ?_) (fun c9 => ?_)
  · first | exact absurd c9 (by decide +kernel) | exact absurd (by decide +kernel) c9
  refine lv_iload_n hx hb dX12_isThere_54 rfl (lv_at hl 2 rfl) ?_
  refine lv_if_lt (tgt := 79) hx hb dX12_isThere_55 (by decide) (fun c9 => ?_) (fun c9 => ?_)
  rotate_left
  · first | exact absurd c9 zk | exact absurd zk c9
  refine lv_iconst (v := 0) hx hb dX12_isThere_79 (by decide +kernel) ?_
  refine W.widen (k := 1) (n := 6) (Nat.le_of_ble_eq_true rfl) (Nat.le_of_ble_eq_true rfl) ?_
  exact W.zret (v := 0) hx hb hr rfl (fun t ht hW => ⟨⟨0, (), rfl, rfl, xg, li0g, li1g, li2g, oAf, h_x, h_li0, h_li1, h_li2, h_oA, by rw [ht]; exact hP, va_K.moved hW.alike hK, hD⟩, hS.F ht⟩) hS.2.2 dX12_isThere_80
set_option maxHeartbeats 4000000 in
set_option maxRecDepth 100000 in
theorem gx100_L_isThere (l : Launch) (hlt : l.stackTraces = false) (dC : Nat → ClassId) (dI : Nat → Nat → Nat) (sz : Nat) (p1 : Int32) (x liA li0 li1 li2 oA deA chA : Nat) (xg : List Value) (h_x : fx xg 17 [(7, .ref deA), (8, .ref liA), (9, .ref chA)]) (liAC : ClassId) (liAF : Nat → Option Nat) (li0g : List Value) (h_li0 : fx li0g 7 [(0, .int 0)]) (li1g : List Value) (h_li1 : fx li1g 7 [(0, .int 0)]) (li2g : List Value) (h_li2 : fx li2g 7 [(0, .int 0)]) (oAC : ClassId) (oAf : Nat → Int64) (h_oA : fa oAf []) (h_liA0 : liAF 0 = some li0) (h_liA1 : liAF 1 = some li1) (h_liA2 : liAF 2 = some li2) (zk : p1 < 0) : Met l yL_isThere (Cond.codeWith yL_isThere cL_isThere 5 (some .int) [(0, 17, 20, 19)] :: BG) ({ frames := 8, cells := 1, slots := 6, locals := 152 }) (va_Pc [.ref x, .int 1, .int p1, .ref oA] (fun U => U.heap.size = sz ∧ va_P (dC, dI) CL [(x, .inr (12, xg)), (liA, .inl (liAC, (3, .inr (.inr (.inr (.inr liAF)))))), (li0, .inr (5, li0g)), (li1, .inr (5, li1g)), (li2, .inr (5, li2g)), (oA, .inl (oAC, (1, .inr (.inl oAf))))] U.heap ∧ va_K (dC, dI) CL [(liAC, .object "ChipFlow$Library"), (oAC, .long)] U ∧ va_D (fun _ => True) [(x, .inr (12, xg)), (liA, .inl (liAC, (3, .inr (.inr (.inr (.inr liAF)))))), (li0, .inr (5, li0g)), (li1, .inr (5, li1g)), (li2, .inr (5, li2g)), (oA, .inl (oAC, (1, .inr (.inl oAf))))] ∧ th (va_A [(x, .inr (12, xg)), (liA, .inl (liAC, (3, .inr (.inr (.inr (.inr liAF)))))), (li0, .inr (5, li0g)), (li1, .inr (5, li1g)), (li2, .inr (5, li2g)), (oA, .inl (oAC, (1, .inr (.inl oAf))))] sz) U U.heap)) (va_Qi (fun (r : Int32) (_ : Unit) => r = 0) (fun _ t => ∃ (xy : List Value) (li0y : List Value) (li1y : List Value) (li2y : List Value) (oAy : Nat → Int64), fx xy 17 [(7, .ref deA), (8, .ref liA), (9, .ref chA)] ∧ fx li0y 7 [(0, .int 0)] ∧ fx li1y 7 [(0, .int 0)] ∧ fx li2y 7 [(0, .int 0)] ∧ fa oAy [(0, 0)] ∧ va_P (dC, dI) CL [(x, .inr (12, xy)), (liA, .inl (liAC, (3, .inr (.inr (.inr (.inr liAF)))))), (li0, .inr (5, li0y)), (li1, .inr (5, li1y)), (li2, .inr (5, li2y)), (oA, .inl (oAC, (1, .inr (.inl oAy))))] t.heap ∧ va_K (dC, dI) CL [(liAC, .object "ChipFlow$Library"), (oAC, .long)] t ∧ va_D (va_A [(x, .inr (12, xg)), (liA, .inl (liAC, (3, .inr (.inr (.inr (.inr liAF)))))), (li0, .inr (5, li0g)), (li1, .inr (5, li1g)), (li2, .inr (5, li2g)), (oA, .inl (oAC, (1, .inr (.inl oAf))))] sz) [(x, .inr (12, xy)), (liA, .inl (liAC, (3, .inr (.inr (.inr (.inr liAF)))))), (li0, .inr (5, li0y)), (li1, .inr (5, li1y)), (li2, .inr (5, li2y)), (oA, .inl (oAC, (1, .inr (.inl oAy))))]) (va_A [(x, .inr (12, xg)), (liA, .inl (liAC, (3, .inr (.inr (.inr (.inr liAF)))))), (li0, .inr (5, li0g)), (li1, .inr (5, li1g)), (li2, .inr (5, li2g)), (oA, .inl (oAC, (1, .inr (.inl oAf))))] sz)) 1 6 (va_A [(x, .inr (12, xg)), (liA, .inl (liAC, (3, .inr (.inr (.inr (.inr liAF)))))), (li0, .inr (5, li0g)), (li1, .inr (5, li1g)), (li2, .inr (5, li2g)), (oA, .inl (oAC, (1, .inr (.inl oAf))))] sz) := by
  refine va_MetW (hh := [(0, 17, 20, 19)]) (cc := cL_isThere) (maxL := 5) (ret := (some .int)) (by decide) rfl ?_
  intro p e s m args below meth c s₁ B hml hv
  obtain ⟨rfl, hsz, hP, hK, hD0, hth⟩ := hv
  have hx := B.exec
  have hb := B.bytes
  have hr := B.returns
  have hts : ∀ w ∈ BG, w.before _ s = true := fun w h => atoms_spec (ws := Cond.codeWith yL_isThere cL_isThere 5 (some .int) [(0, 17, 20, 19)] :: BG) B.pre w (List.mem_cons_of_mem _ h)
  have hown : s.vm.findClass RL = some m.cls := findClass_of_methodNamed B.named
  have hlocks := B.notSynchronized
  subst hsz
  have hD := hD0.self (sz := s.heap.size)
  generalize hAe : va_A [(x, .inr (12, xg)), (liA, .inl (liAC, (3, .inr (.inr (.inr (.inr liAF)))))), (li0, .inr (5, li0g)), (li1, .inr (5, li1g)), (li2, .inr (5, li2g)), (oA, .inl (oAC, (1, .inr (.inl oAf))))] s.heap.size = A at hD hth ⊢
  have hA : ∀ q : Nat, s.heap.size ≤ q → A q := fun q h => by rw [← hAe]; exact Or.inr h
  have hS : va_S A s.heap s.heap [] := va_S.rf
  have hl := lv_entry ([.ref x, .int 1, .int p1, .ref oA]) (n := 5) (Nat.le_of_ble_eq_true rfl)
  rw [lg_entry_eq]
  generalize (lg_sl ([.ref x, .int 1, .int p1, .ref oA]) ++ List.replicate (5 - (lg_sl ([.ref x, .int 1, .int p1, .ref oA])).length) Slot.unset).toArray = ls at hl ⊢
  have hl : lv_has ls 5 [(0, .ref x), (1, .int 1), (2, .int p1), (3, .ref oA)] := hl
  obtain ⟨H, eH⟩ : ∃ z, z = s.heap := ⟨_, rfl⟩
  have hP : va_P (dC, dI) CL [(x, .inr (12, xg)), (liA, .inl (liAC, (3, .inr (.inr (.inr (.inr liAF)))))), (li0, .inr (5, li0g)), (li1, .inr (5, li1g)), (li2, .inr (5, li2g)), (oA, .inl (oAC, (1, .inr (.inl oAf))))] H := by rw [eH]; exact hP
  have hS : va_S A s.heap H [] := by rw [eH]; exact hS
  rw [← eH]
  have hT : c.exceptionTable.toList = tableOf [(0, 17, 20, 19)] := vx_table (x := yL_isThere) B (atoms_spec (ws := Cond.codeWith yL_isThere cL_isThere 5 (some .int) [(0, 17, 20, 19)] :: BG) B.pre _ List.mem_cons_self)
  refine lv_aload_n hx hb dL_isThere_0 rfl (lv_at hl 3 rfl) ?_
  refine lv_iconst (v := 0) hx hb dL_isThere_1 (by decide +kernel) ?_
  refine lv_aload_n hx hb dL_isThere_2 rfl (lv_at hl 0 rfl) ?_
  refine lv_iload_n hx hb dL_isThere_3 rfl (lv_at hl 1 rfl) ?_
  refine lv_iload_n hx hb dL_isThere_4 rfl (lv_at hl 2 rfl) ?_
  have hFc := va_free (wc := [(x, .inr (12, xg)), (liA, .inl (liAC, (3, .inr (.inr (.inr (.inr liAF)))))), (li0, .inr (5, li0g)), (li1, .inr (5, li1g)), (li2, .inr (5, li2g)), (oA, .inl (oAC, (1, .inr (.inl oAf))))]) hD hS hA [0, 1, 2, 3, 4, 5] rfl
  refine va_calli (va_runV (As := [.int 1, .int p1]) (rest := [.int 0, .ref oA]) ⟨hx, hb, hml, hown, hts⟩ (gx101_X12_isThere l hlt dC dI _ p1 x liA li0 li1 li2 oA deA chA xg h_x liAC liAF li0g h_li0 li1g h_li1 li2g h_li2 oAC oAf h_oA h_liA0 h_liA1 h_liA2 zk) (cwV 2 hts (gi_V wd_1842 wd_1843 wd_1844 wd_327 wd_1845) rfl rfl rfl (by decide +kernel) ⟨(Nat.le_of_ble_eq_true rfl), (Nat.le_of_ble_eq_true rfl)⟩) ⟨fun a U g mk q => by obtain ⟨q0, q1, qP, qK, qD, qT⟩ := q; exact ⟨q0, q1, qP, va_K.moved (u := U) (U := U.calling g mk a) (Vm.Alike.refl U.vm) qK, qD, th.moved (u := U) (U := U.calling g mk a) (Vm.Alike.refl U.vm) qT⟩, va_recv hK hP (ci := 12) (q0 := 0) rfl rfl, fun U hU hW => ⟨rfl, by rw [hU], by rw [hU]; exact hP, va_K.moved hW.alike hK, hD.weaken (fun _ _ _ _ => trivial), by rw [hU]; exact ((hth.kept hS.2.1).narrow hFc).moved hW.alike⟩⟩ rfl rfl hl.1 rfl (lv_room (Nat.le_of_ble_eq_true rfl)) dL_isThere_5 ⟨(Nat.le_of_ble_eq_true rfl), (Nat.le_of_ble_eq_true rfl)⟩) hS (fun q _ h => hFc q h) hFc (fun r u t H1 locs ht hvm hw hB hz1 hk1 hS => ?_)
  subst hw
  obtain ⟨fs_1, fs_2, fs_3, fs_4, f_5, h_x, h_li0, h_li1, h_li2, h_oA, hP1, hK1, hD1⟩ := hB
  rw [ht] at hP1
  have hD := hD1.weaken (fun k q _ h => hFc q.1 h)
  have hP := hP1
  generalize H1 = H at hP hS ⊢
  have hP : va_P (dC, dI) CL [(x, .inr (12, fs_1)), (liA, .inl (liAC, (3, .inr (.inr (.inr (.inr liAF)))))), (li0, .inr (5, fs_2)), (li1, .inr (5, fs_3)), (li2, .inr (5, fs_4)), (oA, .inl (oAC, (1, .inr (.inl f_5))))] H := hP
  have hD : va_D A [(x, .inr (12, fs_1)), (liA, .inl (liAC, (3, .inr (.inr (.inr (.inr liAF)))))), (li0, .inr (5, fs_2)), (li1, .inr (5, fs_3)), (li2, .inr (5, fs_4)), (oA, .inl (oAC, (1, .inr (.inl f_5))))] := hD
  refine W.widen (k := 1) (n := 6) (Nat.le_of_ble_eq_true rfl) (Nat.le_of_ble_eq_true rfl) ?_
  refine lv_if_eq (tgt := 15) hx hb dL_isThere_8 (by decide) (fun c9 => ?_) (fun c9 => ?_)
  rotate_left
  · first | exact absurd c9 (by decide +kernel) | exact absurd (by decide +kernel) c9
  refine lv_lconst (v := 0) hx hb dL_isThere_15 (by decide) ?_
  refine va_last hx hb hK hP hD hS 5 1 rfl rfl (vp_in_nI (n := 0) (N := 1) (by decide) (by decide)) dL_isThere_16 (fun H locs hP hD hS => ?_)
  obtain ⟨f_6, e9⟩ : ∃ z, z = vp_updL f_5 (0 : Int32).toNatClampNeg 0 := ⟨_, rfl⟩
  have h_oA : fa f_6 [(0, 0)] := by rw [e9, show (0 : Int32).toNatClampNeg = 0 by decide +kernel]; exact (fa.putL h_oA).sub [0] rfl
  have hP : va_P (dC, dI) CL [(x, .inr (12, fs_1)), (liA, .inl (liAC, (3, .inr (.inr (.inr (.inr liAF)))))), (li0, .inr (5, fs_2)), (li1, .inr (5, fs_3)), (li2, .inr (5, fs_4)), (oA, .inl (oAC, (1, .inr (.inl f_6))))] H := by rw [e9]; exact hP
  have hD : va_D A [(x, .inr (12, fs_1)), (liA, .inl (liAC, (3, .inr (.inr (.inr (.inr liAF)))))), (li0, .inr (5, fs_2)), (li1, .inr (5, fs_3)), (li2, .inr (5, fs_4)), (oA, .inl (oAC, (1, .inr (.inl f_6))))] := by rw [e9]; exact hD
  clear e9
  refine lv_goto (tgt := 24) hx hb dL_isThere_17 (by decide) ?_
  refine lv_iconst (v := 0) hx hb dL_isThere_24 (by decide +kernel) ?_
  refine W.widen (k := 1) (n := 6) (Nat.le_of_ble_eq_true rfl) (Nat.le_of_ble_eq_true rfl) ?_
  exact W.iret (v := 0) hx hb hr (fun t ht hW => ⟨⟨0, (), rfl, rfl, fs_1, fs_2, fs_3, fs_4, f_6, h_x, h_li0, h_li1, h_li2, h_oA, by rw [ht]; exact hP, va_K.moved hW.alike hK, hD⟩, hS.F ht⟩) hS.2.2 dL_isThere_25
set_option maxHeartbeats 4000000 in
set_option maxRecDepth 100000 in
theorem gx103_X13_isOne (l : Launch) (hlt : l.stackTraces = false) (dC : Nat → ClassId) (dI : Nat → Nat → Nat) (sz : Nat) (p1 : Int32) (m0 ml md mch : Nat) (m0g : List Value) (h_m0 : fx m0g 225 [(0, .int 0), (2, .int 0), (3, .int 0), (9, .int 0), (10, .int 0), (11, .int 0), (12, .int 0), (27, .int 0), (55, .ref md), (79, .int 0), (83, .int 0), (88, .ref ml), (95, .int 0), (138, .ref mch)]) (mlC : ClassId) (zk : p1 < 0) : Met l yX13_isOne (Cond.code yX13_isOne cX13_isOne 3 (some .boolean) :: BG) ({ frames := 2, cells := 0, slots := 0, locals := 33 }) (va_Pc [.ref m0, .int 1, .int p1] (fun U => U.heap.size = sz ∧ va_P (dC, dI) CL [(m0, .inr (13, m0g)), (ml, .inl (mlC, (3, .inl (fun _ => 0))))] U.heap ∧ va_K (dC, dI) CL [(mlC, .boolean)] U ∧ va_D (fun _ => True) [(m0, .inr (13, m0g)), (ml, .inl (mlC, (3, .inl (fun _ => 0))))] ∧ th (va_A [(m0, .inr (13, m0g)), (ml, .inl (mlC, (3, .inl (fun _ => 0))))] sz) U U.heap)) (va_Qi (fun (r : Int32) (_ : Unit) => r = 0) (fun _ t => ∃ (m0y : List Value), fx m0y 225 [(0, .int 0), (2, .int 0), (3, .int 0), (9, .int 0), (10, .int 0), (11, .int 0), (12, .int 0), (27, .int 0), (55, .ref md), (79, .int 0), (83, .int 0), (88, .ref ml), (95, .int 0), (138, .ref mch)] ∧ va_P (dC, dI) CL [(m0, .inr (13, m0y)), (ml, .inl (mlC, (3, .inl (fun _ => 0))))] t.heap ∧ va_K (dC, dI) CL [(mlC, .boolean)] t ∧ va_D (va_A [(m0, .inr (13, m0g)), (ml, .inl (mlC, (3, .inl (fun _ => 0))))] sz) [(m0, .inr (13, m0y)), (ml, .inl (mlC, (3, .inl (fun _ => 0))))]) (va_A [(m0, .inr (13, m0g)), (ml, .inl (mlC, (3, .inl (fun _ => 0))))] sz)) 0 0 (va_A [(m0, .inr (13, m0g)), (ml, .inl (mlC, (3, .inl (fun _ => 0))))] sz) := by
  refine Met.ofW (cc := cX13_isOne) (maxL := 3) (ret := (some .boolean)) (by decide) rfl ?_
  intro p e s m args below meth c s₁ B hml hv
  obtain ⟨rfl, hsz, hP, hK, hD0, hth⟩ := hv
  have hx := B.exec
  have hb := B.bytes
  have hr := B.returns
  have hts : ∀ w ∈ BG, w.before _ s = true := fun w h => atoms_spec (ws := Cond.code yX13_isOne cX13_isOne 3 (some .boolean) :: BG) B.pre w (List.mem_cons_of_mem _ h)
  have hown : s.vm.findClass RX13 = some m.cls := findClass_of_methodNamed B.named
  have hlocks := B.notSynchronized
  subst hsz
  have hD := hD0.self (sz := s.heap.size)
  generalize hAe : va_A [(m0, .inr (13, m0g)), (ml, .inl (mlC, (3, .inl (fun _ => 0))))] s.heap.size = A at hD hth ⊢
  have hA : ∀ q : Nat, s.heap.size ≤ q → A q := fun q h => by rw [← hAe]; exact Or.inr h
  have hS : va_S A s.heap s.heap [] := va_S.rf
  have hl := lv_entry ([.ref m0, .int 1, .int p1]) (n := 3) (Nat.le_of_ble_eq_true rfl)
  rw [lg_entry_eq]
  generalize (lg_sl ([.ref m0, .int 1, .int p1]) ++ List.replicate (3 - (lg_sl ([.ref m0, .int 1, .int p1])).length) Slot.unset).toArray = ls at hl ⊢
  have hl : lv_has ls 3 [(0, .ref m0), (1, .int 1), (2, .int p1)] := hl
  obtain ⟨H, eH⟩ : ∃ z, z = s.heap := ⟨_, rfl⟩
  have hP : va_P (dC, dI) CL [(m0, .inr (13, m0g)), (ml, .inl (mlC, (3, .inl (fun _ => 0))))] H := by rw [eH]; exact hP
  have hS : va_S A s.heap H [] := by rw [eH]; exact hS
  rw [← eH]
  refine lv_iload_n hx hb dX13_isOne_0 rfl (lv_at hl 1 rfl) ?_
  refine lv_if_ne (tgt := 12) hx hb dX13_isOne_1 (by decide) (fun c9 => ?_) (fun c9 => ?_)
  rotate_left
  · first | exact absurd c9 (by decide +kernel) | exact absurd (by decide +kernel) c9
  refine lv_iload_n hx hb dX13_isOne_12 rfl (lv_at hl 1 rfl) ?_
  refine lv_iconst (v := 1) hx hb dX13_isOne_13 (by decide +kernel) ?_
  refine lv_icmp_ne (tgt := 25) hx hb dX13_isOne_14 (by decide) (fun c9 => ?_) (fun c9 => ?_)
  · first | exact absurd c9 (by decide +kernel) | exact absurd (by decide +kernel) c9
  refine lv_aload_n hx hb dX13_isOne_17 rfl (lv_at hl 0 rfl) ?_
  refine lv_iload_n hx hb dX13_isOne_18 rfl (lv_at hl 2 rfl) ?_
  have hFc := va_free (wc := [(m0, .inr (13, m0g)), (ml, .inl (mlC, (3, .inl (fun _ => 0))))]) hD hS hA [0, 1] rfl
  refine va_calli (va_runV (As := [.int p1]) (rest := []) ⟨hx, hb, hml, hown, hts⟩ (ct_X13_isLibrary l dC dI _ p1 m0 m0g ml mlC (h_m0.sub [11] rfl)) (cwV 1 hts (gi_V wd_4080 wd_4082 wd_216 wd_340 wd_4083) rfl rfl rfl (by decide +kernel) ⟨(Nat.le_of_ble_eq_true rfl), (Nat.le_of_ble_eq_true rfl)⟩) ⟨fun a U g mk q => by obtain ⟨q0, q1, qP, qK, qD⟩ := q; exact ⟨q0, q1, qP, va_K.moved (u := U) (U := U.calling g mk a) (Vm.Alike.refl U.vm) qK, qD⟩, va_recv hK hP (ci := 13) (q0 := 0) rfl rfl, fun U hU hW => ⟨rfl, by rw [hU], by rw [hU]; exact hP, va_K.moved hW.alike hK, hD.weaken (fun _ _ _ _ => trivial)⟩⟩ rfl rfl hl.1 rfl (lv_room (Nat.le_of_ble_eq_true rfl)) dX13_isOne_19 ⟨(Nat.le_of_ble_eq_true rfl), (Nat.le_of_ble_eq_true rfl)⟩) hS (fun q _ h => hFc q h) hFc (fun r u t H1 locs ht hvm hw hB hz1 hk1 hS => ?_)
  subst hw
  obtain ⟨hP1, hK1, hD1⟩ := hB
  rw [ht] at hP1
  have hD := hD1.weaken (fun k q _ h => hFc q.1 h)
  have hP := hP1
  generalize H1 = H at hP hS ⊢
  have hP : va_P (dC, dI) CL [(m0, .inr (13, m0g)), (ml, .inl (mlC, (3, .inl (fun _ => 0))))] H := hP
  have hD : va_D A [(m0, .inr (13, m0g)), (ml, .inl (mlC, (3, .inl (fun _ => 0))))] := hD
  refine lv_goto (tgt := 30) hx hb dX13_isOne_22 (by decide) ?_
  exact W.zret (v := 0) hx hb hr rfl (fun t ht hW => ⟨⟨0, (), rfl, rfl, m0g, h_m0, by rw [ht]; exact hP, va_K.moved hW.alike hK, hD⟩, hS.F ht⟩) hS.2.2 dX13_isOne_30
set_option maxHeartbeats 4000000 in
set_option maxRecDepth 100000 in
theorem gx102_X13_isThere (l : Launch) (hlt : l.stackTraces = false) (dC : Nat → ClassId) (dI : Nat → Nat → Nat) (sz : Nat) (p1 : Int32) (m0 ml md mch : Nat) (m0g : List Value) (h_m0 : fx m0g 225 [(0, .int 0), (2, .int 0), (3, .int 0), (9, .int 0), (10, .int 0), (11, .int 0), (12, .int 0), (27, .int 0), (55, .ref md), (79, .int 0), (83, .int 0), (88, .ref ml), (95, .int 0), (138, .ref mch)]) (mlC : ClassId) (zk : p1 < 0) : Met l yX13_isThere (Cond.code yX13_isThere cX13_isThere 3 (some .boolean) :: BG) ({ frames := 3, cells := 0, slots := 0, locals := 55 }) (va_Pc [.ref m0, .int 1, .int p1] (fun U => U.heap.size = sz ∧ va_P (dC, dI) CL [(m0, .inr (13, m0g)), (ml, .inl (mlC, (3, .inl (fun _ => 0))))] U.heap ∧ va_K (dC, dI) CL [(mlC, .boolean)] U ∧ va_D (fun _ => True) [(m0, .inr (13, m0g)), (ml, .inl (mlC, (3, .inl (fun _ => 0))))] ∧ th (va_A [(m0, .inr (13, m0g)), (ml, .inl (mlC, (3, .inl (fun _ => 0))))] sz) U U.heap)) (va_Qi (fun (r : Int32) (_ : Unit) => r = 0) (fun _ t => ∃ (m0y : List Value), fx m0y 225 [(0, .int 0), (2, .int 0), (3, .int 0), (9, .int 0), (10, .int 0), (11, .int 0), (12, .int 0), (27, .int 0), (55, .ref md), (79, .int 0), (83, .int 0), (88, .ref ml), (95, .int 0), (138, .ref mch)] ∧ va_P (dC, dI) CL [(m0, .inr (13, m0y)), (ml, .inl (mlC, (3, .inl (fun _ => 0))))] t.heap ∧ va_K (dC, dI) CL [(mlC, .boolean)] t ∧ va_D (va_A [(m0, .inr (13, m0g)), (ml, .inl (mlC, (3, .inl (fun _ => 0))))] sz) [(m0, .inr (13, m0y)), (ml, .inl (mlC, (3, .inl (fun _ => 0))))]) (va_A [(m0, .inr (13, m0g)), (ml, .inl (mlC, (3, .inl (fun _ => 0))))] sz)) 0 0 (va_A [(m0, .inr (13, m0g)), (ml, .inl (mlC, (3, .inl (fun _ => 0))))] sz) := by
  refine Met.ofW (cc := cX13_isThere) (maxL := 3) (ret := (some .boolean)) (by decide) rfl ?_
  intro p e s m args below meth c s₁ B hml hv
  obtain ⟨rfl, hsz, hP, hK, hD0, hth⟩ := hv
  have hx := B.exec
  have hb := B.bytes
  have hr := B.returns
  have hts : ∀ w ∈ BG, w.before _ s = true := fun w h => atoms_spec (ws := Cond.code yX13_isThere cX13_isThere 3 (some .boolean) :: BG) B.pre w (List.mem_cons_of_mem _ h)
  have hown : s.vm.findClass RX13 = some m.cls := findClass_of_methodNamed B.named
  have hlocks := B.notSynchronized
  subst hsz
  have hD := hD0.self (sz := s.heap.size)
  generalize hAe : va_A [(m0, .inr (13, m0g)), (ml, .inl (mlC, (3, .inl (fun _ => 0))))] s.heap.size = A at hD hth ⊢
  have hA : ∀ q : Nat, s.heap.size ≤ q → A q := fun q h => by rw [← hAe]; exact Or.inr h
  have hS : va_S A s.heap s.heap [] := va_S.rf
  have hl := lv_entry ([.ref m0, .int 1, .int p1]) (n := 3) (Nat.le_of_ble_eq_true rfl)
  rw [lg_entry_eq]
  generalize (lg_sl ([.ref m0, .int 1, .int p1]) ++ List.replicate (3 - (lg_sl ([.ref m0, .int 1, .int p1])).length) Slot.unset).toArray = ls at hl ⊢
  have hl : lv_has ls 3 [(0, .ref m0), (1, .int 1), (2, .int p1)] := hl
  obtain ⟨H, eH⟩ : ∃ z, z = s.heap := ⟨_, rfl⟩
  have hP : va_P (dC, dI) CL [(m0, .inr (13, m0g)), (ml, .inl (mlC, (3, .inl (fun _ => 0))))] H := by rw [eH]; exact hP
  have hS : va_S A s.heap H [] := by rw [eH]; exact hS
  rw [← eH]
  refine lv_aload_n hx hb dX13_isThere_0 rfl (lv_at hl 0 rfl) ?_
  refine lv_iload_n hx hb dX13_isThere_1 rfl (lv_at hl 1 rfl) ?_
  refine lv_iconst (v := 0) hx hb dX13_isThere_2 (by decide +kernel) ?_
  refine lv_iconst (v := 2) hx hb dX13_isThere_3 (by decide +kernel) ?_
  have hFc := va_free (wc := [(m0, .inr (13, m0g)), (ml, .inl (mlC, (3, .inl (fun _ => 0))))]) hD hS hA [0, 1] rfl
  refine va_calli (va_runS (As := [.int 1, .int 0, .int 2]) (rest := [.ref m0]) ⟨hx, hb, hml, hown, hts⟩ (gx54_X13_within l hlt dC dI _ m0 ml md mch m0g h_m0 mlC) (cwS 3 hts (gi_S wd_3825 wd_3826 wd_340 wd_3827) rfl rfl rfl (by decide +kernel) ⟨(Nat.le_of_ble_eq_true rfl), (Nat.le_of_ble_eq_true rfl)⟩) ⟨fun a U g mk q => by obtain ⟨q0, q1, qP, qK, qD, qT⟩ := q; exact ⟨q0, q1, qP, va_K.moved (u := U) (U := U.calling g mk a) (Vm.Alike.refl U.vm) qK, qD, th.moved (u := U) (U := U.calling g mk a) (Vm.Alike.refl U.vm) qT⟩, fun U hU hW => ⟨rfl, by rw [hU], by rw [hU]; exact hP, va_K.moved hW.alike hK, hD.weaken (fun _ _ _ _ => trivial), by rw [hU]; exact ((hth.kept hS.2.1).narrow hFc).moved hW.alike⟩⟩ rfl rfl hl.1 rfl (lv_room (Nat.le_of_ble_eq_true rfl)) dX13_isThere_4 ⟨(Nat.le_of_ble_eq_true rfl), (Nat.le_of_ble_eq_true rfl)⟩) hS (fun q _ h => hFc q h) hFc (fun r u t H1 locs ht hvm hw hB hz1 hk1 hS => ?_)
  subst hw
  obtain ⟨fs_1, h_m0, hP1, hK1, hD1⟩ := hB
  rw [ht] at hP1
  have hD := hD1.weaken (fun k q _ h => hFc q.1 h)
  have hP := hP1
  generalize H1 = H at hP hS ⊢
  have hP : va_P (dC, dI) CL [(m0, .inr (13, fs_1)), (ml, .inl (mlC, (3, .inl (fun _ => 0))))] H := hP
  have hD : va_D A [(m0, .inr (13, fs_1)), (ml, .inl (mlC, (3, .inl (fun _ => 0))))] := hD
  refine lv_if_eq (tgt := 14) hx hb dX13_isThere_7 (by decide) (fun c9 => ?_) (fun c9 => ?_)
  · first | exact absurd c9 (by decide +kernel) | exact absurd (by decide +kernel) c9
  refine lv_iconst (v := 0) hx hb dX13_isThere_10 (by decide +kernel) ?_
  refine lv_goto (tgt := 15) hx hb dX13_isThere_11 (by decide) ?_
  refine va_put (D := (dC, dI)) (ci := 13) (v := .int 0) (ty := tyX13 0) (C := RX13) (T := TX13) (N := 225) hx hb hts inX13 tyX13 tyX13_ok nmX13 hown hK hP hD hS 0 rfl rfl 0 (by decide) (hts (.fieldLink RX13 1 "ChipFlowModel" "code" "I") wd_3032) (fun _ h9 => h9) rfl (by decide +kernel) rfl rfl (by rw [h_m0.1]; decide) dX13_isThere_15 (fun H locs hP hD hS => ?_)
  obtain ⟨fs_2, e9⟩ : ∃ z, z = fs_1.set 0 (.int 0) := ⟨_, rfl⟩
  have h_m0 : fx fs_2 225 [(0, .int 0), (2, .int 0), (3, .int 0), (9, .int 0), (10, .int 0), (11, .int 0), (12, .int 0), (27, .int 0), (55, .ref md), (79, .int 0), (83, .int 0), (88, .ref ml), (95, .int 0), (138, .ref mch)] := by rw [e9]; exact (h_m0.put (F' := [(0, .int 0), (2, .int 0), (3, .int 0), (9, .int 0), (10, .int 0), (11, .int 0), (12, .int 0), (27, .int 0), (55, .ref md), (79, .int 0), (83, .int 0), (88, .ref ml), (95, .int 0), (138, .ref mch)]) (by decide) _ rfl).sub [0, 1, 2, 3, 4, 5, 6, 7, 8, 9, 10, 11, 12, 13] rfl
  have hP : va_P (dC, dI) CL [(m0, .inr (13, fs_2)), (ml, .inl (mlC, (3, .inl (fun _ => 0))))] H := by rw [e9]; exact hP
  have hD : va_D A [(m0, .inr (13, fs_2)), (ml, .inl (mlC, (3, .inl (fun _ => 0))))] := by rw [e9]; exact hD
  clear e9
  refine lv_aload_n hx hb dX13_isThere_18 rfl (lv_at hl 0 rfl) ?_
  refine va_get (D := (dC, dI)) (ci := 13) (v := .int 0) (C := RX13) (T := TX13) (N := 225) hx hb hts inX13 hown hK hP 0 rfl rfl 0 (by decide) (hts (.fieldLink RX13 1 "ChipFlowModel" "code" "I") wd_3032) (fun _ h9 => h9) (h_m0.get 0 rfl) dX13_isThere_19 ?_
  refine lv_if_ne (tgt := 38) hx hb dX13_isThere_22 (by decide) (fun c9 => ?_) (fun c9 => ?_)
  · first | exact absurd c9 (by decide +kernel) | exact absurd (by decide +kernel) c9
  refine lv_aload_n hx hb dX13_isThere_25 rfl (lv_at hl 0 rfl) ?_
  refine lv_iload_n hx hb dX13_isThere_26 rfl (lv_at hl 1 rfl) ?_
  refine lv_iload_n hx hb dX13_isThere_27 rfl (lv_at hl 2 rfl) ?_
  have hFc := va_free (wc := [(m0, .inr (13, fs_2)), (ml, .inl (mlC, (3, .inl (fun _ => 0))))]) hD hS hA [0, 1] rfl
  refine va_calli (va_runV (As := [.int 1, .int p1]) (rest := []) ⟨hx, hb, hml, hown, hts⟩ (gx103_X13_isOne l hlt dC dI _ p1 m0 ml md mch fs_2 h_m0 mlC zk) (cwV 2 hts (gi_V wd_4072 wd_4074 wd_214 wd_340 wd_4075) rfl rfl rfl (by decide +kernel) ⟨(Nat.le_of_ble_eq_true rfl), (Nat.le_of_ble_eq_true rfl)⟩) ⟨fun a U g mk q => by obtain ⟨q0, q1, qP, qK, qD, qT⟩ := q; exact ⟨q0, q1, qP, va_K.moved (u := U) (U := U.calling g mk a) (Vm.Alike.refl U.vm) qK, qD, th.moved (u := U) (U := U.calling g mk a) (Vm.Alike.refl U.vm) qT⟩, va_recv hK hP (ci := 13) (q0 := 0) rfl rfl, fun U hU hW => ⟨rfl, by rw [hU], by rw [hU]; exact hP, va_K.moved hW.alike hK, hD.weaken (fun _ _ _ _ => trivial), by rw [hU]; exact ((hth.kept hS.2.1).narrow hFc).moved hW.alike⟩⟩ rfl rfl hl.1 rfl (lv_room (Nat.le_of_ble_eq_true rfl)) dX13_isThere_28 ⟨(Nat.le_of_ble_eq_true rfl), (Nat.le_of_ble_eq_true rfl)⟩) hS (fun q _ h => hFc q h) hFc (fun r u t H1 locs ht hvm hw hB hz1 hk1 hS => ?_)
  subst hw
  obtain ⟨fs_3, h_m0, hP1, hK1, hD1⟩ := hB
  rw [ht] at hP1
  have hD := hD1.weaken (fun k q _ h => hFc q.1 h)
  have hP := hP1
  generalize H1 = H at hP hS ⊢
  have hP : va_P (dC, dI) CL [(m0, .inr (13, fs_3)), (ml, .inl (mlC, (3, .inl (fun _ => 0))))] H := hP
  have hD : va_D A [(m0, .inr (13, fs_3)), (ml, .inl (mlC, (3, .inl (fun _ => 0))))] := hD
  refine lv_if_eq (tgt := 38) hx hb dX13_isThere_31 (by decide) (fun c9 => ?_) (fun c9 => ?_)
  rotate_left
  · first | exact absurd c9 (by decide +kernel) | exact absurd (by decide +kernel) c9
  refine lv_iconst (v := 0) hx hb dX13_isThere_38 (by decide +kernel) ?_
  exact W.zret (v := 0) hx hb hr rfl (fun t ht hW => ⟨⟨0, (), rfl, rfl, fs_3, h_m0, by rw [ht]; exact hP, va_K.moved hW.alike hK, hD⟩, hS.F ht⟩) hS.2.2 dX13_isThere_39
set_option maxHeartbeats 4000000 in
set_option maxRecDepth 100000 in
theorem gx105_X12_isThere (l : Launch) (hlt : l.stackTraces = false) (dC : Nat → ClassId) (dI : Nat → Nat → Nat) (sz : Nat) (p1 : Int32) (x liA li0 li1 li2 oA deA chA : Nat) (xg : List Value) (h_x : fx xg 17 [(7, .ref deA), (8, .ref liA), (9, .ref chA)]) (liAC : ClassId) (liAF : Nat → Option Nat) (li0g : List Value) (h_li0 : fx li0g 7 [(0, .int 0)]) (li1g : List Value) (h_li1 : fx li1g 7 [(0, .int 0)]) (li2g : List Value) (h_li2 : fx li2g 7 [(0, .int 0)]) (oAC : ClassId) (oAf : Nat → Int64) (h_oA : fa oAf []) (h_liA0 : liAF 0 = some li0) (h_liA1 : liAF 1 = some li1) (h_liA2 : liAF 2 = some li2) (zk : ¬ p1 < 0) (zg : 3 ≤ p1) : Met l yX12_isThere (Cond.code yX12_isThere cX12_isThere 3 (some .boolean) :: BG) ({ frames := 7, cells := 1, slots := 6, locals := 130 }) (va_Pc [.ref x, .int 1, .int p1] (fun U => U.heap.size = sz ∧ va_P (dC, dI) CL [(x, .inr (12, xg)), (liA, .inl (liAC, (3, .inr (.inr (.inr (.inr liAF)))))), (li0, .inr (5, li0g)), (li1, .inr (5, li1g)), (li2, .inr (5, li2g)), (oA, .inl (oAC, (1, .inr (.inl oAf))))] U.heap ∧ va_K (dC, dI) CL [(liAC, .object "ChipFlow$Library"), (oAC, .long)] U ∧ va_D (fun _ => True) [(x, .inr (12, xg)), (liA, .inl (liAC, (3, .inr (.inr (.inr (.inr liAF)))))), (li0, .inr (5, li0g)), (li1, .inr (5, li1g)), (li2, .inr (5, li2g)), (oA, .inl (oAC, (1, .inr (.inl oAf))))] ∧ th (va_A [(x, .inr (12, xg)), (liA, .inl (liAC, (3, .inr (.inr (.inr (.inr liAF)))))), (li0, .inr (5, li0g)), (li1, .inr (5, li1g)), (li2, .inr (5, li2g)), (oA, .inl (oAC, (1, .inr (.inl oAf))))] sz) U U.heap)) (va_Qi (fun (r : Int32) (_ : Unit) => r = 0) (fun _ t => ∃ (xy : List Value) (li0y : List Value) (li1y : List Value) (li2y : List Value) (oAy : Nat → Int64), fx xy 17 [(7, .ref deA), (8, .ref liA), (9, .ref chA)] ∧ fx li0y 7 [(0, .int 0)] ∧ fx li1y 7 [(0, .int 0)] ∧ fx li2y 7 [(0, .int 0)] ∧ fa oAy [] ∧ va_P (dC, dI) CL [(x, .inr (12, xy)), (liA, .inl (liAC, (3, .inr (.inr (.inr (.inr liAF)))))), (li0, .inr (5, li0y)), (li1, .inr (5, li1y)), (li2, .inr (5, li2y)), (oA, .inl (oAC, (1, .inr (.inl oAy))))] t.heap ∧ va_K (dC, dI) CL [(liAC, .object "ChipFlow$Library"), (oAC, .long)] t ∧ va_D (va_A [(x, .inr (12, xg)), (liA, .inl (liAC, (3, .inr (.inr (.inr (.inr liAF)))))), (li0, .inr (5, li0g)), (li1, .inr (5, li1g)), (li2, .inr (5, li2g)), (oA, .inl (oAC, (1, .inr (.inl oAf))))] sz) [(x, .inr (12, xy)), (liA, .inl (liAC, (3, .inr (.inr (.inr (.inr liAF)))))), (li0, .inr (5, li0y)), (li1, .inr (5, li1y)), (li2, .inr (5, li2y)), (oA, .inl (oAC, (1, .inr (.inl oAy))))]) (va_A [(x, .inr (12, xg)), (liA, .inl (liAC, (3, .inr (.inr (.inr (.inr liAF)))))), (li0, .inr (5, li0g)), (li1, .inr (5, li1g)), (li2, .inr (5, li2g)), (oA, .inl (oAC, (1, .inr (.inl oAf))))] sz)) 1 6 (va_A [(x, .inr (12, xg)), (liA, .inl (liAC, (3, .inr (.inr (.inr (.inr liAF)))))), (li0, .inr (5, li0g)), (li1, .inr (5, li1g)), (li2, .inr (5, li2g)), (oA, .inl (oAC, (1, .inr (.inl oAf))))] sz) := by
  refine Met.ofW (cc := cX12_isThere) (maxL := 3) (ret := (some .boolean)) (by decide) rfl ?_
  intro p e s m args below meth c s₁ B hml hv
  obtain ⟨rfl, hsz, hP, hK, hD0, hth⟩ := hv
  have hx := B.exec
  have hb := B.bytes
  have hr := B.returns
  have hts : ∀ w ∈ BG, w.before _ s = true := fun w h => atoms_spec (ws := Cond.code yX12_isThere cX12_isThere 3 (some .boolean) :: BG) B.pre w (List.mem_cons_of_mem _ h)
  have hown : s.vm.findClass RX12 = some m.cls := findClass_of_methodNamed B.named
  have hlocks := B.notSynchronized
  subst hsz
  have hD := hD0.self (sz := s.heap.size)
  generalize hAe : va_A [(x, .inr (12, xg)), (liA, .inl (liAC, (3, .inr (.inr (.inr (.inr liAF)))))), (li0, .inr (5, li0g)), (li1, .inr (5, li1g)), (li2, .inr (5, li2g)), (oA, .inl (oAC, (1, .inr (.inl oAf))))] s.heap.size = A at hD hth ⊢
  have hA : ∀ q : Nat, s.heap.size ≤ q → A q := fun q h => by rw [← hAe]; exact Or.inr h
  have hS : va_S A s.heap s.heap [] := va_S.rf
  have hl := lv_entry ([.ref x, .int 1, .int p1]) (n := 3) (Nat.le_of_ble_eq_true rfl)
  rw [lg_entry_eq]
  generalize (lg_sl ([.ref x, .int 1, .int p1]) ++ List.replicate (3 - (lg_sl ([.ref x, .int 1, .int p1])).length) Slot.unset).toArray = ls at hl ⊢
  have hl : lv_has ls 3 [(0, .ref x), (1, .int 1), (2, .int p1)] := hl
  obtain ⟨H, eH⟩ : ∃ z, z = s.heap := ⟨_, rfl⟩
  have hP : va_P (dC, dI) CL [(x, .inr (12, xg)), (liA, .inl (liAC, (3, .inr (.inr (.inr (.inr liAF)))))), (li0, .inr (5, li0g)), (li1, .inr (5, li1g)), (li2, .inr (5, li2g)), (oA, .inl (oAC, (1, .inr (.inl oAf))))] H := by rw [eH]; exact hP
  have hS : va_S A s.heap H [] := by rw [eH]; exact hS
  rw [← eH]
  refine lv_iload_n hx hb dX12_isThere_0 rfl (lv_at hl 1 rfl) ?_
  refine lv_if_lt (tgt := 13) hx hb dX12_isThere_1 (by decide) (fun c9 => ?_) (fun c9 => ?_)
  · first | exact absurd c9 (by decide +kernel) | exact absurd (by decide +kernel) c9
  refine lv_iload_n hx hb dX12_isThere_4 rfl (lv_at hl 1 rfl) ?_
  refine lv_iconst (v := 2) hx hb dX12_isThere_5 (by decide +kernel) ?_
  refine lv_icmp_gt (tgt := 13) hx hb dX12_isThere_6 (by decide) (fun c9 => ?_) (fun c9 => ?_)
  · first | exact absurd c9 (by decide +kernel) | exact absurd (by decide +kernel) c9
  refine lv_iconst (v := 1) hx hb dX12_isThere_9 (by decide +kernel) ?_
  refine lv_goto (tgt := 14) hx hb dX12_isThere_10 (by decide) ?_
  have hF0 : ∀ q, va_A [] H.size q → A q := fun q h => h.elim (fun ⟨k9, e9, h9⟩ => by simp at h9) (fun h9 => hA q (Nat.le_trans hS.1 h9))
  refine vx_callv (vx_runS (As := [.int 1]) (rest := []) ⟨hx, hb, hml, hown, hts⟩ (ct_X12_needRange l hlt H.size 1) (cwS 1 hts (gi_S wd_1328 wd_1329 wd_327 wd_1330) rfl rfl rfl (by decide +kernel) ⟨(Nat.le_of_ble_eq_true rfl), (Nat.le_of_ble_eq_true rfl)⟩) ⟨fun a U g mk q => ⟨q.1, q.2.1, th.moved (u := U) (U := U.calling g mk a) (Vm.Alike.refl U.vm) q.2.2⟩, fun U hU hW => ⟨rfl, by rw [hU], by rw [hU]; exact ((hth.kept hS.2.1).narrow hF0).moved hW.alike⟩⟩ rfl rfl hl.1 rfl (lv_room (Nat.le_of_ble_eq_true rfl)) dX12_isThere_14 ⟨(Nat.le_of_ble_eq_true rfl), (Nat.le_of_ble_eq_true rfl)⟩) hS (fun q _ h => hF0 q h) hF0 (fun q _ h => hF0 q h) (fun E ce q9 u t H1 locs ht hvm hp hB hz hk hS hce hcv hcl => absurd hp (by decide +kernel)) (fun u t H1 locs ht hvm hp hB hz hk hS => ?_)
  have hP : va_P (dC, dI) CL [(x, .inr (12, xg)), (liA, .inl (liAC, (3, .inr (.inr (.inr (.inr liAF)))))), (li0, .inr (5, li0g)), (li1, .inr (5, li1g)), (li2, .inr (5, li2g)), (oA, .inl (oAC, (1, .inr (.inl oAf))))] H1 := hP.kept (fun k q h9 => hk _ (vx_lt hP h9) (fun h8 => h8.elim (fun ⟨k9, e9, h7⟩ => by simp at h7) (fun h7 => absurd (vx_lt hP h9) (Nat.not_lt.mpr h7))))
  generalize H1 = H at hP hS ⊢
  refine W.widen (k := 1) (n := 6) (Nat.le_of_ble_eq_true rfl) (Nat.le_of_ble_eq_true rfl) ?_
  refine lv_iload_n hx hb dX12_isThere_17 rfl (lv_at hl 1 rfl) ?_
  refine lv_if_ne (tgt := 49) hx hb dX12_isThere_18 (by decide) (fun c9 => ?_) (fun c9 => ?_)
  rotate_left
  · first | exact absurd c9 (by decide +kernel) | exact absurd (by decide +kernel) c9
  refine lv_iload_n hx hb dX12_isThere_49 rfl (lv_at hl 1 rfl) ?_
  refine lv_iconst (v := 1) hx hb dX12_isThere_50 (by decide +kernel) ?_
  refine lv_icmp_ne (tgt := 81) hx hb dX12_isThere_51 (by decide) (fun c9 => ?_) (fun c9 => ?_)
  · first | exact absurd c9 (by decide +kernel) | exact absurd (by decide +kernel) c9
  refine lv_iload_n hx hb dX12_isThere_54 rfl (lv_at hl 2 rfl) ?_
  refine lv_if_lt (tgt := 79) hx hb dX12_isThere_55 (by decide) (fun c9 => ?_) (fun c9 => ?_)
  · first | exact absurd c9 zk | exact absurd zk c9
  refine lv_iload_n hx hb dX12_isThere_58 rfl (lv_at hl 2 rfl) ?_
  refine lv_iconst (v := 3) hx hb dX12_isThere_59 (by decide +kernel) ?_
  refine lv_icmp_ge (tgt := 79) hx hb dX12_isThere_60 (by decide) (fun c9 => ?_) (fun c9 => ?_)
  rotate_left
  · first | exact absurd c9 zg | exact absurd zg c9
  refine lv_iconst (v := 0) hx hb dX12_isThere_79 (by decide +kernel) ?_
  refine W.widen (k := 1) (n := 6) (Nat.le_of_ble_eq_true rfl) (Nat.le_of_ble_eq_true rfl) ?_
  exact W.zret (v := 0) hx hb hr rfl (fun t ht hW => ⟨⟨0, (), rfl, rfl, xg, li0g, li1g, li2g, oAf, h_x, h_li0, h_li1, h_li2, h_oA, by rw [ht]; exact hP, va_K.moved hW.alike hK, hD⟩, hS.F ht⟩) hS.2.2 dX12_isThere_80
set_option maxHeartbeats 4000000 in
set_option maxRecDepth 100000 in
theorem gx104_L_isThere (l : Launch) (hlt : l.stackTraces = false) (dC : Nat → ClassId) (dI : Nat → Nat → Nat) (sz : Nat) (p1 : Int32) (x liA li0 li1 li2 oA deA chA : Nat) (xg : List Value) (h_x : fx xg 17 [(7, .ref deA), (8, .ref liA), (9, .ref chA)]) (liAC : ClassId) (liAF : Nat → Option Nat) (li0g : List Value) (h_li0 : fx li0g 7 [(0, .int 0)]) (li1g : List Value) (h_li1 : fx li1g 7 [(0, .int 0)]) (li2g : List Value) (h_li2 : fx li2g 7 [(0, .int 0)]) (oAC : ClassId) (oAf : Nat → Int64) (h_oA : fa oAf []) (h_liA0 : liAF 0 = some li0) (h_liA1 : liAF 1 = some li1) (h_liA2 : liAF 2 = some li2) (zk : ¬ p1 < 0) (zg : 3 ≤ p1) : Met l yL_isThere (Cond.codeWith yL_isThere cL_isThere 5 (some .int) [(0, 17, 20, 19)] :: BG) ({ frames := 8, cells := 1, slots := 6, locals := 152 }) (va_Pc [.ref x, .int 1, .int p1, .ref oA] (fun U => U.heap.size = sz ∧ va_P (dC, dI) CL [(x, .inr (12, xg)), (liA, .inl (liAC, (3, .inr (.inr (.inr (.inr liAF)))))), (li0, .inr (5, li0g)), (li1, .inr (5, li1g)), (li2, .inr (5, li2g)), (oA, .inl (oAC, (1, .inr (.inl oAf))))] U.heap ∧ va_K (dC, dI) CL [(liAC, .object "ChipFlow$Library"), (oAC, .long)] U ∧ va_D (fun _ => True) [(x, .inr (12, xg)), (liA, .inl (liAC, (3, .inr (.inr (.inr (.inr liAF)))))), (li0, .inr (5, li0g)), (li1, .inr (5, li1g)), (li2, .inr (5, li2g)), (oA, .inl (oAC, (1, .inr (.inl oAf))))] ∧ th (va_A [(x, .inr (12, xg)), (liA, .inl (liAC, (3, .inr (.inr (.inr (.inr liAF)))))), (li0, .inr (5, li0g)), (li1, .inr (5, li1g)), (li2, .inr (5, li2g)), (oA, .inl (oAC, (1, .inr (.inl oAf))))] sz) U U.heap)) (va_Qi (fun (r : Int32) (_ : Unit) => r = 0) (fun _ t => ∃ (xy : List Value) (li0y : List Value) (li1y : List Value) (li2y : List Value) (oAy : Nat → Int64), fx xy 17 [(7, .ref deA), (8, .ref liA), (9, .ref chA)] ∧ fx li0y 7 [(0, .int 0)] ∧ fx li1y 7 [(0, .int 0)] ∧ fx li2y 7 [(0, .int 0)] ∧ fa oAy [(0, 0)] ∧ va_P (dC, dI) CL [(x, .inr (12, xy)), (liA, .inl (liAC, (3, .inr (.inr (.inr (.inr liAF)))))), (li0, .inr (5, li0y)), (li1, .inr (5, li1y)), (li2, .inr (5, li2y)), (oA, .inl (oAC, (1, .inr (.inl oAy))))] t.heap ∧ va_K (dC, dI) CL [(liAC, .object "ChipFlow$Library"), (oAC, .long)] t ∧ va_D (va_A [(x, .inr (12, xg)), (liA, .inl (liAC, (3, .inr (.inr (.inr (.inr liAF)))))), (li0, .inr (5, li0g)), (li1, .inr (5, li1g)), (li2, .inr (5, li2g)), (oA, .inl (oAC, (1, .inr (.inl oAf))))] sz) [(x, .inr (12, xy)), (liA, .inl (liAC, (3, .inr (.inr (.inr (.inr liAF)))))), (li0, .inr (5, li0y)), (li1, .inr (5, li1y)), (li2, .inr (5, li2y)), (oA, .inl (oAC, (1, .inr (.inl oAy))))]) (va_A [(x, .inr (12, xg)), (liA, .inl (liAC, (3, .inr (.inr (.inr (.inr liAF)))))), (li0, .inr (5, li0g)), (li1, .inr (5, li1g)), (li2, .inr (5, li2g)), (oA, .inl (oAC, (1, .inr (.inl oAf))))] sz)) 1 6 (va_A [(x, .inr (12, xg)), (liA, .inl (liAC, (3, .inr (.inr (.inr (.inr liAF)))))), (li0, .inr (5, li0g)), (li1, .inr (5, li1g)), (li2, .inr (5, li2g)), (oA, .inl (oAC, (1, .inr (.inl oAf))))] sz) := by
  refine va_MetW (hh := [(0, 17, 20, 19)]) (cc := cL_isThere) (maxL := 5) (ret := (some .int)) (by decide) rfl ?_
  intro p e s m args below meth c s₁ B hml hv
  obtain ⟨rfl, hsz, hP, hK, hD0, hth⟩ := hv
  have hx := B.exec
  have hb := B.bytes
  have hr := B.returns
  have hts : ∀ w ∈ BG, w.before _ s = true := fun w h => atoms_spec (ws := Cond.codeWith yL_isThere cL_isThere 5 (some .int) [(0, 17, 20, 19)] :: BG) B.pre w (List.mem_cons_of_mem _ h)
  have hown : s.vm.findClass RL = some m.cls := findClass_of_methodNamed B.named
  have hlocks := B.notSynchronized
  subst hsz
  have hD := hD0.self (sz := s.heap.size)
  generalize hAe : va_A [(x, .inr (12, xg)), (liA, .inl (liAC, (3, .inr (.inr (.inr (.inr liAF)))))), (li0, .inr (5, li0g)), (li1, .inr (5, li1g)), (li2, .inr (5, li2g)), (oA, .inl (oAC, (1, .inr (.inl oAf))))] s.heap.size = A at hD hth ⊢
  have hA : ∀ q : Nat, s.heap.size ≤ q → A q := fun q h => by rw [← hAe]; exact Or.inr h
  have hS : va_S A s.heap s.heap [] := va_S.rf
  have hl := lv_entry ([.ref x, .int 1, .int p1, .ref oA]) (n := 5) (Nat.le_of_ble_eq_true rfl)
  rw [lg_entry_eq]
  generalize (lg_sl ([.ref x, .int 1, .int p1, .ref oA]) ++ List.replicate (5 - (lg_sl ([.ref x, .int 1, .int p1, .ref oA])).length) Slot.unset).toArray = ls at hl ⊢
  have hl : lv_has ls 5 [(0, .ref x), (1, .int 1), (2, .int p1), (3, .ref oA)] := hl
  obtain ⟨H, eH⟩ : ∃ z, z = s.heap := ⟨_, rfl⟩
  have hP : va_P (dC, dI) CL [(x, .inr (12, xg)), (liA, .inl (liAC, (3, .inr (.inr (.inr (.inr liAF)))))), (li0, .inr (5, li0g)), (li1, .inr (5, li1g)), (li2, .inr (5, li2g)), (oA, .inl (oAC, (1, .inr (.inl oAf))))] H := by rw [eH]; exact hP
  have hS : va_S A s.heap H [] := by rw [eH]; exact hS
  rw [← eH]
  have hT : c.exceptionTable.toList = tableOf [(0, 17, 20, 19)] := vx_table (x := yL_isThere) B (atoms_spec (ws := Cond.codeWith yL_isThere cL_isThere 5 (some .int) [(0, 17, 20, 19)] :: BG) B.pre _ List.mem_cons_self)
  refine lv_aload_n hx hb dL_isThere_0 rfl (lv_at hl 3 rfl) ?_
  refine lv_iconst (v := 0) hx hb dL_isThere_1 (by decide +kernel) ?_
  refine lv_aload_n hx hb dL_isThere_2 rfl (lv_at hl 0 rfl) ?_
  refine lv_iload_n hx hb dL_isThere_3 rfl (lv_at hl 1 rfl) ?_
  refine lv_iload_n hx hb dL_isThere_4 rfl (lv_at hl 2 rfl) ?_
  have hFc := va_free (wc := [(x, .inr (12, xg)), (liA, .inl (liAC, (3, .inr (.inr (.inr (.inr liAF)))))), (li0, .inr (5, li0g)), (li1, .inr (5, li1g)), (li2, .inr (5, li2g)), (oA, .inl (oAC, (1, .inr (.inl oAf))))]) hD hS hA [0, 1, 2, 3, 4, 5] rfl
  refine va_calli (va_runV (As := [.int 1, .int p1]) (rest := [.int 0, .ref oA]) ⟨hx, hb, hml, hown, hts⟩ (gx105_X12_isThere l hlt dC dI _ p1 x liA li0 li1 li2 oA deA chA xg h_x liAC liAF li0g h_li0 li1g h_li1 li2g h_li2 oAC oAf h_oA h_liA0 h_liA1 h_liA2 zk zg) (cwV 2 hts (gi_V wd_1842 wd_1843 wd_1844 wd_327 wd_1845) rfl rfl rfl (by decide +kernel) ⟨(Nat.le_of_ble_eq_true rfl), (Nat.le_of_ble_eq_true rfl)⟩) ⟨fun a U g mk q => by obtain ⟨q0, q1, qP, qK, qD, qT⟩ := q; exact ⟨q0, q1, qP, va_K.moved (u := U) (U := U.calling g mk a) (Vm.Alike.refl U.vm) qK, qD, th.moved (u := U) (U := U.calling g mk a) (Vm.Alike.refl U.vm) qT⟩, va_recv hK hP (ci := 12) (q0 := 0) rfl rfl, fun U hU hW => ⟨rfl, by rw [hU], by rw [hU]; exact hP, va_K.moved hW.alike hK, hD.weaken (fun _ _ _ _ => trivial), by rw [hU]; exact ((hth.kept hS.2.1).narrow hFc).moved hW.alike⟩⟩ rfl rfl hl.1 rfl (lv_room (Nat.le_of_ble_eq_true rfl)) dL_isThere_5 ⟨(Nat.le_of_ble_eq_true rfl), (Nat.le_of_ble_eq_true rfl)⟩) hS (fun q _ h => hFc q h) hFc (fun r u t H1 locs ht hvm hw hB hz1 hk1 hS => ?_)
  subst hw
  obtain ⟨fs_1, fs_2, fs_3, fs_4, f_5, h_x, h_li0, h_li1, h_li2, h_oA, hP1, hK1, hD1⟩ := hB
  rw [ht] at hP1
  have hD := hD1.weaken (fun k q _ h => hFc q.1 h)
  have hP := hP1
  generalize H1 = H at hP hS ⊢
  have hP : va_P (dC, dI) CL [(x, .inr (12, fs_1)), (liA, .inl (liAC, (3, .inr (.inr (.inr (.inr liAF)))))), (li0, .inr (5, fs_2)), (li1, .inr (5, fs_3)), (li2, .inr (5, fs_4)), (oA, .inl (oAC, (1, .inr (.inl f_5))))] H := hP
  have hD : va_D A [(x, .inr (12, fs_1)), (liA, .inl (liAC, (3, .inr (.inr (.inr (.inr liAF)))))), (li0, .inr (5, fs_2)), (li1, .inr (5, fs_3)), (li2, .inr (5, fs_4)), (oA, .inl (oAC, (1, .inr (.inl f_5))))] := hD
  refine W.widen (k := 1) (n := 6) (Nat.le_of_ble_eq_true rfl) (Nat.le_of_ble_eq_true rfl) ?_
  refine lv_if_eq (tgt := 15) hx hb dL_isThere_8 (by decide) (fun c9 => ?_) (fun c9 => ?_)
  rotate_left
  · first | exact absurd c9 (by decide +kernel) | exact absurd (by decide +kernel) c9
  refine lv_lconst (v := 0) hx hb dL_isThere_15 (by decide) ?_
  refine va_last hx hb hK hP hD hS 5 1 rfl rfl (vp_in_nI (n := 0) (N := 1) (by decide) (by decide)) dL_isThere_16 (fun H locs hP hD hS => ?_)
  obtain ⟨f_6, e9⟩ : ∃ z, z = vp_updL f_5 (0 : Int32).toNatClampNeg 0 := ⟨_, rfl⟩
  have h_oA : fa f_6 [(0, 0)] := by rw [e9, show (0 : Int32).toNatClampNeg = 0 by decide +kernel]; exact (fa.putL h_oA).sub [0] rfl
  have hP : va_P (dC, dI) CL [(x, .inr (12, fs_1)), (liA, .inl (liAC, (3, .inr (.inr (.inr (.inr liAF)))))), (li0, .inr (5, fs_2)), (li1, .inr (5, fs_3)), (li2, .inr (5, fs_4)), (oA, .inl (oAC, (1, .inr (.inl f_6))))] H := by rw [e9]; exact hP
  have hD : va_D A [(x, .inr (12, fs_1)), (liA, .inl (liAC, (3, .inr (.inr (.inr (.inr liAF)))))), (li0, .inr (5, fs_2)), (li1, .inr (5, fs_3)), (li2, .inr (5, fs_4)), (oA, .inl (oAC, (1, .inr (.inl f_6))))] := by rw [e9]; exact hD
  clear e9
  refine lv_goto (tgt := 24) hx hb dL_isThere_17 (by decide) ?_
  refine lv_iconst (v := 0) hx hb dL_isThere_24 (by decide +kernel) ?_
  refine W.widen (k := 1) (n := 6) (Nat.le_of_ble_eq_true rfl) (Nat.le_of_ble_eq_true rfl) ?_
  exact W.iret (v := 0) hx hb hr (fun t ht hW => ⟨⟨0, (), rfl, rfl, fs_1, fs_2, fs_3, fs_4, f_6, h_x, h_li0, h_li1, h_li2, h_oA, by rw [ht]; exact hP, va_K.moved hW.alike hK, hD⟩, hS.F ht⟩) hS.2.2 dL_isThere_25
set_option maxHeartbeats 4000000 in
set_option maxRecDepth 100000 in
theorem gx107_X13_isOne (l : Launch) (hlt : l.stackTraces = false) (dC : Nat → ClassId) (dI : Nat → Nat → Nat) (sz : Nat) (p1 : Int32) (m0 ml md mch : Nat) (m0g : List Value) (h_m0 : fx m0g 225 [(0, .int 0), (2, .int 0), (3, .int 0), (9, .int 0), (10, .int 0), (11, .int 0), (12, .int 0), (27, .int 0), (55, .ref md), (79, .int 0), (83, .int 0), (88, .ref ml), (95, .int 0), (138, .ref mch)]) (mlC : ClassId) (zk : ¬ p1 < 0) (zg : 3 ≤ p1) : Met l yX13_isOne (Cond.code yX13_isOne cX13_isOne 3 (some .boolean) :: BG) ({ frames := 2, cells := 0, slots := 0, locals := 33 }) (va_Pc [.ref m0, .int 1, .int p1] (fun U => U.heap.size = sz ∧ va_P (dC, dI) CL [(m0, .inr (13, m0g)), (ml, .inl (mlC, (3, .inl (fun _ => 0))))] U.heap ∧ va_K (dC, dI) CL [(mlC, .boolean)] U ∧ va_D (fun _ => True) [(m0, .inr (13, m0g)), (ml, .inl (mlC, (3, .inl (fun _ => 0))))] ∧ th (va_A [(m0, .inr (13, m0g)), (ml, .inl (mlC, (3, .inl (fun _ => 0))))] sz) U U.heap)) (va_Qi (fun (r : Int32) (_ : Unit) => r = 0) (fun _ t => ∃ (m0y : List Value), fx m0y 225 [(0, .int 0), (2, .int 0), (3, .int 0), (9, .int 0), (10, .int 0), (11, .int 0), (12, .int 0), (27, .int 0), (55, .ref md), (79, .int 0), (83, .int 0), (88, .ref ml), (95, .int 0), (138, .ref mch)] ∧ va_P (dC, dI) CL [(m0, .inr (13, m0y)), (ml, .inl (mlC, (3, .inl (fun _ => 0))))] t.heap ∧ va_K (dC, dI) CL [(mlC, .boolean)] t ∧ va_D (va_A [(m0, .inr (13, m0g)), (ml, .inl (mlC, (3, .inl (fun _ => 0))))] sz) [(m0, .inr (13, m0y)), (ml, .inl (mlC, (3, .inl (fun _ => 0))))]) (va_A [(m0, .inr (13, m0g)), (ml, .inl (mlC, (3, .inl (fun _ => 0))))] sz)) 0 0 (va_A [(m0, .inr (13, m0g)), (ml, .inl (mlC, (3, .inl (fun _ => 0))))] sz) := by
  refine Met.ofW (cc := cX13_isOne) (maxL := 3) (ret := (some .boolean)) (by decide) rfl ?_
  intro p e s m args below meth c s₁ B hml hv
  obtain ⟨rfl, hsz, hP, hK, hD0, hth⟩ := hv
  have hx := B.exec
  have hb := B.bytes
  have hr := B.returns
  have hts : ∀ w ∈ BG, w.before _ s = true := fun w h => atoms_spec (ws := Cond.code yX13_isOne cX13_isOne 3 (some .boolean) :: BG) B.pre w (List.mem_cons_of_mem _ h)
  have hown : s.vm.findClass RX13 = some m.cls := findClass_of_methodNamed B.named
  have hlocks := B.notSynchronized
  subst hsz
  have hD := hD0.self (sz := s.heap.size)
  generalize hAe : va_A [(m0, .inr (13, m0g)), (ml, .inl (mlC, (3, .inl (fun _ => 0))))] s.heap.size = A at hD hth ⊢
  have hA : ∀ q : Nat, s.heap.size ≤ q → A q := fun q h => by rw [← hAe]; exact Or.inr h
  have hS : va_S A s.heap s.heap [] := va_S.rf
  have hl := lv_entry ([.ref m0, .int 1, .int p1]) (n := 3) (Nat.le_of_ble_eq_true rfl)
  rw [lg_entry_eq]
  generalize (lg_sl ([.ref m0, .int 1, .int p1]) ++ List.replicate (3 - (lg_sl ([.ref m0, .int 1, .int p1])).length) Slot.unset).toArray = ls at hl ⊢
  have hl : lv_has ls 3 [(0, .ref m0), (1, .int 1), (2, .int p1)] := hl
  obtain ⟨H, eH⟩ : ∃ z, z = s.heap := ⟨_, rfl⟩
  have hP : va_P (dC, dI) CL [(m0, .inr (13, m0g)), (ml, .inl (mlC, (3, .inl (fun _ => 0))))] H := by rw [eH]; exact hP
  have hS : va_S A s.heap H [] := by rw [eH]; exact hS
  rw [← eH]
  refine lv_iload_n hx hb dX13_isOne_0 rfl (lv_at hl 1 rfl) ?_
  refine lv_if_ne (tgt := 12) hx hb dX13_isOne_1 (by decide) (fun c9 => ?_) (fun c9 => ?_)
  rotate_left
  · first | exact absurd c9 (by decide +kernel) | exact absurd (by decide +kernel) c9
  refine lv_iload_n hx hb dX13_isOne_12 rfl (lv_at hl 1 rfl) ?_
  refine lv_iconst (v := 1) hx hb dX13_isOne_13 (by decide +kernel) ?_
  refine lv_icmp_ne (tgt := 25) hx hb dX13_isOne_14 (by decide) (fun c9 => ?_) (fun c9 => ?_)
  · first | exact absurd c9 (by decide +kernel) | exact absurd (by decide +kernel) c9
  refine lv_aload_n hx hb dX13_isOne_17 rfl (lv_at hl 0 rfl) ?_
  refine lv_iload_n hx hb dX13_isOne_18 rfl (lv_at hl 2 rfl) ?_
  have hFc := va_free (wc := [(m0, .inr (13, m0g)), (ml, .inl (mlC, (3, .inl (fun _ => 0))))]) hD hS hA [0, 1] rfl
  refine va_calli (va_runV (As := [.int p1]) (rest := []) ⟨hx, hb, hml, hown, hts⟩ (ct_X13_isLibrary l dC dI _ p1 m0 m0g ml mlC (h_m0.sub [11] rfl)) (cwV 1 hts (gi_V wd_4080 wd_4082 wd_216 wd_340 wd_4083) rfl rfl rfl (by decide +kernel) ⟨(Nat.le_of_ble_eq_true rfl), (Nat.le_of_ble_eq_true rfl)⟩) ⟨fun a U g mk q => by obtain ⟨q0, q1, qP, qK, qD⟩ := q; exact ⟨q0, q1, qP, va_K.moved (u := U) (U := U.calling g mk a) (Vm.Alike.refl U.vm) qK, qD⟩, va_recv hK hP (ci := 13) (q0 := 0) rfl rfl, fun U hU hW => ⟨rfl, by rw [hU], by rw [hU]; exact hP, va_K.moved hW.alike hK, hD.weaken (fun _ _ _ _ => trivial)⟩⟩ rfl rfl hl.1 rfl (lv_room (Nat.le_of_ble_eq_true rfl)) dX13_isOne_19 ⟨(Nat.le_of_ble_eq_true rfl), (Nat.le_of_ble_eq_true rfl)⟩) hS (fun q _ h => hFc q h) hFc (fun r u t H1 locs ht hvm hw hB hz1 hk1 hS => ?_)
  subst hw
  obtain ⟨hP1, hK1, hD1⟩ := hB
  rw [ht] at hP1
  have hD := hD1.weaken (fun k q _ h => hFc q.1 h)
  have hP := hP1
  generalize H1 = H at hP hS ⊢
  have hP : va_P (dC, dI) CL [(m0, .inr (13, m0g)), (ml, .inl (mlC, (3, .inl (fun _ => 0))))] H := hP
  have hD : va_D A [(m0, .inr (13, m0g)), (ml, .inl (mlC, (3, .inl (fun _ => 0))))] := hD
  refine lv_goto (tgt := 30) hx hb dX13_isOne_22 (by decide) ?_
  exact W.zret (v := 0) hx hb hr rfl (fun t ht hW => ⟨⟨0, (), rfl, rfl, m0g, h_m0, by rw [ht]; exact hP, va_K.moved hW.alike hK, hD⟩, hS.F ht⟩) hS.2.2 dX13_isOne_30
set_option maxHeartbeats 4000000 in
set_option maxRecDepth 100000 in
theorem gx106_X13_isThere (l : Launch) (hlt : l.stackTraces = false) (dC : Nat → ClassId) (dI : Nat → Nat → Nat) (sz : Nat) (p1 : Int32) (m0 ml md mch : Nat) (m0g : List Value) (h_m0 : fx m0g 225 [(0, .int 0), (2, .int 0), (3, .int 0), (9, .int 0), (10, .int 0), (11, .int 0), (12, .int 0), (27, .int 0), (55, .ref md), (79, .int 0), (83, .int 0), (88, .ref ml), (95, .int 0), (138, .ref mch)]) (mlC : ClassId) (zk : ¬ p1 < 0) (zg : 3 ≤ p1) : Met l yX13_isThere (Cond.code yX13_isThere cX13_isThere 3 (some .boolean) :: BG) ({ frames := 3, cells := 0, slots := 0, locals := 55 }) (va_Pc [.ref m0, .int 1, .int p1] (fun U => U.heap.size = sz ∧ va_P (dC, dI) CL [(m0, .inr (13, m0g)), (ml, .inl (mlC, (3, .inl (fun _ => 0))))] U.heap ∧ va_K (dC, dI) CL [(mlC, .boolean)] U ∧ va_D (fun _ => True) [(m0, .inr (13, m0g)), (ml, .inl (mlC, (3, .inl (fun _ => 0))))] ∧ th (va_A [(m0, .inr (13, m0g)), (ml, .inl (mlC, (3, .inl (fun _ => 0))))] sz) U U.heap)) (va_Qi (fun (r : Int32) (_ : Unit) => r = 0) (fun _ t => ∃ (m0y : List Value), fx m0y 225 [(0, .int 0), (2, .int 0), (3, .int 0), (9, .int 0), (10, .int 0), (11, .int 0), (12, .int 0), (27, .int 0), (55, .ref md), (79, .int 0), (83, .int 0), (88, .ref ml), (95, .int 0), (138, .ref mch)] ∧ va_P (dC, dI) CL [(m0, .inr (13, m0y)), (ml, .inl (mlC, (3, .inl (fun _ => 0))))] t.heap ∧ va_K (dC, dI) CL [(mlC, .boolean)] t ∧ va_D (va_A [(m0, .inr (13, m0g)), (ml, .inl (mlC, (3, .inl (fun _ => 0))))] sz) [(m0, .inr (13, m0y)), (ml, .inl (mlC, (3, .inl (fun _ => 0))))]) (va_A [(m0, .inr (13, m0g)), (ml, .inl (mlC, (3, .inl (fun _ => 0))))] sz)) 0 0 (va_A [(m0, .inr (13, m0g)), (ml, .inl (mlC, (3, .inl (fun _ => 0))))] sz) := by
  refine Met.ofW (cc := cX13_isThere) (maxL := 3) (ret := (some .boolean)) (by decide) rfl ?_
  intro p e s m args below meth c s₁ B hml hv
  obtain ⟨rfl, hsz, hP, hK, hD0, hth⟩ := hv
  have hx := B.exec
  have hb := B.bytes
  have hr := B.returns
  have hts : ∀ w ∈ BG, w.before _ s = true := fun w h => atoms_spec (ws := Cond.code yX13_isThere cX13_isThere 3 (some .boolean) :: BG) B.pre w (List.mem_cons_of_mem _ h)
  have hown : s.vm.findClass RX13 = some m.cls := findClass_of_methodNamed B.named
  have hlocks := B.notSynchronized
  subst hsz
  have hD := hD0.self (sz := s.heap.size)
  generalize hAe : va_A [(m0, .inr (13, m0g)), (ml, .inl (mlC, (3, .inl (fun _ => 0))))] s.heap.size = A at hD hth ⊢
  have hA : ∀ q : Nat, s.heap.size ≤ q → A q := fun q h => by rw [← hAe]; exact Or.inr h
  have hS : va_S A s.heap s.heap [] := va_S.rf
  have hl := lv_entry ([.ref m0, .int 1, .int p1]) (n := 3) (Nat.le_of_ble_eq_true rfl)
  rw [lg_entry_eq]
  generalize (lg_sl ([.ref m0, .int 1, .int p1]) ++ List.replicate (3 - (lg_sl ([.ref m0, .int 1, .int p1])).length) Slot.unset).toArray = ls at hl ⊢
  have hl : lv_has ls 3 [(0, .ref m0), (1, .int 1), (2, .int p1)] := hl
  obtain ⟨H, eH⟩ : ∃ z, z = s.heap := ⟨_, rfl⟩
  have hP : va_P (dC, dI) CL [(m0, .inr (13, m0g)), (ml, .inl (mlC, (3, .inl (fun _ => 0))))] H := by rw [eH]; exact hP
  have hS : va_S A s.heap H [] := by rw [eH]; exact hS
  rw [← eH]
  refine lv_aload_n hx hb dX13_isThere_0 rfl (lv_at hl 0 rfl) ?_
  refine lv_iload_n hx hb dX13_isThere_1 rfl (lv_at hl 1 rfl) ?_
  refine lv_iconst (v := 0) hx hb dX13_isThere_2 (by decide +kernel) ?_
  refine lv_iconst (v := 2) hx hb dX13_isThere_3 (by decide +kernel) ?_
  have hFc := va_free (wc := [(m0, .inr (13, m0g)), (ml, .inl (mlC, (3, .inl (fun _ => 0))))]) hD hS hA [0, 1] rfl
  refine va_calli (va_runS (As := [.int 1, .int 0, .int 2]) (rest := [.ref m0]) ⟨hx, hb, hml, hown, hts⟩ (gx54_X13_within l hlt dC dI _ m0 ml md mch m0g h_m0 mlC) (cwS 3 hts (gi_S wd_3825 wd_3826 wd_340 wd_3827) rfl rfl rfl (by decide +kernel) ⟨(Nat.le_of_ble_eq_true rfl), (Nat.le_of_ble_eq_true rfl)⟩) ⟨fun a U g mk q => by obtain ⟨q0, q1, qP, qK, qD, qT⟩ := q; exact ⟨q0, q1, qP, va_K.moved (u := U) (U := U.calling g mk a) (Vm.Alike.refl U.vm) qK, qD, th.moved (u := U) (U := U.calling g mk a) (Vm.Alike.refl U.vm) qT⟩, fun U hU hW => ⟨rfl, by rw [hU], by rw [hU]; exact hP, va_K.moved hW.alike hK, hD.weaken (fun _ _ _ _ => trivial), by rw [hU]; exact ((hth.kept hS.2.1).narrow hFc).moved hW.alike⟩⟩ rfl rfl hl.1 rfl (lv_room (Nat.le_of_ble_eq_true rfl)) dX13_isThere_4 ⟨(Nat.le_of_ble_eq_true rfl), (Nat.le_of_ble_eq_true rfl)⟩) hS (fun q _ h => hFc q h) hFc (fun r u t H1 locs ht hvm hw hB hz1 hk1 hS => ?_)
  subst hw
  obtain ⟨fs_1, h_m0, hP1, hK1, hD1⟩ := hB
  rw [ht] at hP1
  have hD := hD1.weaken (fun k q _ h => hFc q.1 h)
  have hP := hP1
  generalize H1 = H at hP hS ⊢
  have hP : va_P (dC, dI) CL [(m0, .inr (13, fs_1)), (ml, .inl (mlC, (3, .inl (fun _ => 0))))] H := hP
  have hD : va_D A [(m0, .inr (13, fs_1)), (ml, .inl (mlC, (3, .inl (fun _ => 0))))] := hD
  refine lv_if_eq (tgt := 14) hx hb dX13_isThere_7 (by decide) (fun c9 => ?_) (fun c9 => ?_)
  · first | exact absurd c9 (by decide +kernel) | exact absurd (by decide +kernel) c9
  refine lv_iconst (v := 0) hx hb dX13_isThere_10 (by decide +kernel) ?_
  refine lv_goto (tgt := 15) hx hb dX13_isThere_11 (by decide) ?_
  refine va_put (D := (dC, dI)) (ci := 13) (v := .int 0) (ty := tyX13 0) (C := RX13) (T := TX13) (N := 225) hx hb hts inX13 tyX13 tyX13_ok nmX13 hown hK hP hD hS 0 rfl rfl 0 (by decide) (hts (.fieldLink RX13 1 "ChipFlowModel" "code" "I") wd_3032) (fun _ h9 => h9) rfl (by decide +kernel) rfl rfl (by rw [h_m0.1]; decide) dX13_isThere_15 (fun H locs hP hD hS => ?_)
  obtain ⟨fs_2, e9⟩ : ∃ z, z = fs_1.set 0 (.int 0) := ⟨_, rfl⟩
  have h_m0 : fx fs_2 225 [(0, .int 0), (2, .int 0), (3, .int 0), (9, .int 0), (10, .int 0), (11, .int 0), (12, .int 0), (27, .int 0), (55, .ref md), (79, .int 0), (83, .int 0), (88, .ref ml), (95, .int 0), (138, .ref mch)] := by rw [e9]; exact (h_m0.put (F' := [(0, .int 0), (2, .int 0), (3, .int 0), (9, .int 0), (10, .int 0), (11, .int 0), (12, .int 0), (27, .int 0), (55, .ref md), (79, .int 0), (83, .int 0), (88, .ref ml), (95, .int 0), (138, .ref mch)]) (by decide) _ rfl).sub [0, 1, 2, 3, 4, 5, 6, 7, 8, 9, 10, 11, 12, 13] rfl
  have hP : va_P (dC, dI) CL [(m0, .inr (13, fs_2)), (ml, .inl (mlC, (3, .inl (fun _ => 0))))] H := by rw [e9]; exact hP
  have hD : va_D A [(m0, .inr (13, fs_2)), (ml, .inl (mlC, (3, .inl (fun _ => 0))))] := by rw [e9]; exact hD
  clear e9
  refine lv_aload_n hx hb dX13_isThere_18 rfl (lv_at hl 0 rfl) ?_
  refine va_get (D := (dC, dI)) (ci := 13) (v := .int 0) (C := RX13) (T := TX13) (N := 225) hx hb hts inX13 hown hK hP 0 rfl rfl 0 (by decide) (hts (.fieldLink RX13 1 "ChipFlowModel" "code" "I") wd_3032) (fun _ h9 => h9) (h_m0.get 0 rfl) dX13_isThere_19 ?_
  refine lv_if_ne (tgt := 38) hx hb dX13_isThere_22 (by decide) (fun c9 => ?_) (fun c9 => ?_)
  · first | exact absurd c9 (by decide +kernel) | exact absurd (by decide +kernel) c9
  refine lv_aload_n hx hb dX13_isThere_25 rfl (lv_at hl 0 rfl) ?_
  refine lv_iload_n hx hb dX13_isThere_26 rfl (lv_at hl 1 rfl) ?_
  refine lv_iload_n hx hb dX13_isThere_27 rfl (lv_at hl 2 rfl) ?_
  have hFc := va_free (wc := [(m0, .inr (13, fs_2)), (ml, .inl (mlC, (3, .inl (fun _ => 0))))]) hD hS hA [0, 1] rfl
  refine va_calli (va_runV (As := [.int 1, .int p1]) (rest := []) ⟨hx, hb, hml, hown, hts⟩ (gx107_X13_isOne l hlt dC dI _ p1 m0 ml md mch fs_2 h_m0 mlC zk zg) (cwV 2 hts (gi_V wd_4072 wd_4074 wd_214 wd_340 wd_4075) rfl rfl rfl (by decide +kernel) ⟨(Nat.le_of_ble_eq_true rfl), (Nat.le_of_ble_eq_true rfl)⟩) ⟨fun a U g mk q => by obtain ⟨q0, q1, qP, qK, qD, qT⟩ := q; exact ⟨q0, q1, qP, va_K.moved (u := U) (U := U.calling g mk a) (Vm.Alike.refl U.vm) qK, qD, th.moved (u := U) (U := U.calling g mk a) (Vm.Alike.refl U.vm) qT⟩, va_recv hK hP (ci := 13) (q0 := 0) rfl rfl, fun U hU hW => ⟨rfl, by rw [hU], by rw [hU]; exact hP, va_K.moved hW.alike hK, hD.weaken (fun _ _ _ _ => trivial), by rw [hU]; exact ((hth.kept hS.2.1).narrow hFc).moved hW.alike⟩⟩ rfl rfl hl.1 rfl (lv_room (Nat.le_of_ble_eq_true rfl)) dX13_isThere_28 ⟨(Nat.le_of_ble_eq_true rfl), (Nat.le_of_ble_eq_true rfl)⟩) hS (fun q _ h => hFc q h) hFc (fun r u t H1 locs ht hvm hw hB hz1 hk1 hS => ?_)
  subst hw
  obtain ⟨fs_3, h_m0, hP1, hK1, hD1⟩ := hB
  rw [ht] at hP1
  have hD := hD1.weaken (fun k q _ h => hFc q.1 h)
  have hP := hP1
  generalize H1 = H at hP hS ⊢
  have hP : va_P (dC, dI) CL [(m0, .inr (13, fs_3)), (ml, .inl (mlC, (3, .inl (fun _ => 0))))] H := hP
  have hD : va_D A [(m0, .inr (13, fs_3)), (ml, .inl (mlC, (3, .inl (fun _ => 0))))] := hD
  refine lv_if_eq (tgt := 38) hx hb dX13_isThere_31 (by decide) (fun c9 => ?_) (fun c9 => ?_)
  rotate_left
  · first | exact absurd c9 (by decide +kernel) | exact absurd (by decide +kernel) c9
  refine lv_iconst (v := 0) hx hb dX13_isThere_38 (by decide +kernel) ?_
  exact W.zret (v := 0) hx hb hr rfl (fun t ht hW => ⟨⟨0, (), rfl, rfl, fs_3, h_m0, by rw [ht]; exact hP, va_K.moved hW.alike hK, hD⟩, hS.F ht⟩) hS.2.2 dX13_isThere_39
set_option maxHeartbeats 4000000 in
set_option maxRecDepth 100000 in
theorem gx109_X12_isThere (l : Launch) (hlt : l.stackTraces = false) (dC : Nat → ClassId) (dI : Nat → Nat → Nat) (sz : Nat) (x liA li0 li1 li2 oA deA chA : Nat) (xg : List Value) (h_x : fx xg 17 [(7, .ref deA), (8, .ref liA), (9, .ref chA)]) (liAC : ClassId) (liAF : Nat → Option Nat) (li0g : List Value) (h_li0 : fx li0g 7 [(0, .int 0)]) (li1g : List Value) (h_li1 : fx li1g 7 [(0, .int 0)]) (li2g : List Value) (h_li2 : fx li2g 7 [(0, .int 0)]) (oAC : ClassId) (oAf : Nat → Int64) (h_oA : fa oAf []) (h_liA0 : liAF 0 = some li0) (h_liA1 : liAF 1 = some li1) (h_liA2 : liAF 2 = some li2) : Met l yX12_isThere (Cond.code yX12_isThere cX12_isThere 3 (some .boolean) :: BG) ({ frames := 7, cells := 1, slots := 6, locals := 130 }) (va_Pc [.ref x, .int 1, .int 0] (fun U => U.heap.size = sz ∧ va_P (dC, dI) CL [(x, .inr (12, xg)), (liA, .inl (liAC, (3, .inr (.inr (.inr (.inr liAF)))))), (li0, .inr (5, li0g)), (li1, .inr (5, li1g)), (li2, .inr (5, li2g)), (oA, .inl (oAC, (1, .inr (.inl oAf))))] U.heap ∧ va_K (dC, dI) CL [(liAC, .object "ChipFlow$Library"), (oAC, .long)] U ∧ va_D (fun _ => True) [(x, .inr (12, xg)), (liA, .inl (liAC, (3, .inr (.inr (.inr (.inr liAF)))))), (li0, .inr (5, li0g)), (li1, .inr (5, li1g)), (li2, .inr (5, li2g)), (oA, .inl (oAC, (1, .inr (.inl oAf))))] ∧ th (va_A [(x, .inr (12, xg)), (liA, .inl (liAC, (3, .inr (.inr (.inr (.inr liAF)))))), (li0, .inr (5, li0g)), (li1, .inr (5, li1g)), (li2, .inr (5, li2g)), (oA, .inl (oAC, (1, .inr (.inl oAf))))] sz) U U.heap)) (va_Qi (fun (r : Int32) (_ : Unit) => r = 0) (fun _ t => ∃ (xy : List Value) (li0y : List Value) (li1y : List Value) (li2y : List Value) (oAy : Nat → Int64), fx xy 17 [(7, .ref deA), (8, .ref liA), (9, .ref chA)] ∧ fx li0y 7 [(0, .int 0)] ∧ fx li1y 7 [(0, .int 0)] ∧ fx li2y 7 [(0, .int 0)] ∧ fa oAy [] ∧ va_P (dC, dI) CL [(x, .inr (12, xy)), (liA, .inl (liAC, (3, .inr (.inr (.inr (.inr liAF)))))), (li0, .inr (5, li0y)), (li1, .inr (5, li1y)), (li2, .inr (5, li2y)), (oA, .inl (oAC, (1, .inr (.inl oAy))))] t.heap ∧ va_K (dC, dI) CL [(liAC, .object "ChipFlow$Library"), (oAC, .long)] t ∧ va_D (va_A [(x, .inr (12, xg)), (liA, .inl (liAC, (3, .inr (.inr (.inr (.inr liAF)))))), (li0, .inr (5, li0g)), (li1, .inr (5, li1g)), (li2, .inr (5, li2g)), (oA, .inl (oAC, (1, .inr (.inl oAf))))] sz) [(x, .inr (12, xy)), (liA, .inl (liAC, (3, .inr (.inr (.inr (.inr liAF)))))), (li0, .inr (5, li0y)), (li1, .inr (5, li1y)), (li2, .inr (5, li2y)), (oA, .inl (oAC, (1, .inr (.inl oAy))))]) (va_A [(x, .inr (12, xg)), (liA, .inl (liAC, (3, .inr (.inr (.inr (.inr liAF)))))), (li0, .inr (5, li0g)), (li1, .inr (5, li1g)), (li2, .inr (5, li2g)), (oA, .inl (oAC, (1, .inr (.inl oAf))))] sz)) 1 6 (va_A [(x, .inr (12, xg)), (liA, .inl (liAC, (3, .inr (.inr (.inr (.inr liAF)))))), (li0, .inr (5, li0g)), (li1, .inr (5, li1g)), (li2, .inr (5, li2g)), (oA, .inl (oAC, (1, .inr (.inl oAf))))] sz) := by
  refine Met.ofW (cc := cX12_isThere) (maxL := 3) (ret := (some .boolean)) (by decide) rfl ?_
  intro p e s m args below meth c s₁ B hml hv
  obtain ⟨rfl, hsz, hP, hK, hD0, hth⟩ := hv
  have hx := B.exec
  have hb := B.bytes
  have hr := B.returns
  have hts : ∀ w ∈ BG, w.before _ s = true := fun w h => atoms_spec (ws := Cond.code yX12_isThere cX12_isThere 3 (some .boolean) :: BG) B.pre w (List.mem_cons_of_mem _ h)
  have hown : s.vm.findClass RX12 = some m.cls := findClass_of_methodNamed B.named
  have hlocks := B.notSynchronized
  subst hsz
  have hD := hD0.self (sz := s.heap.size)
  generalize hAe : va_A [(x, .inr (12, xg)), (liA, .inl (liAC, (3, .inr (.inr (.inr (.inr liAF)))))), (li0, .inr (5, li0g)), (li1, .inr (5, li1g)), (li2, .inr (5, li2g)), (oA, .inl (oAC, (1, .inr (.inl oAf))))] s.heap.size = A at hD hth ⊢
  have hA : ∀ q : Nat, s.heap.size ≤ q → A q := fun q h => by rw [← hAe]; exact Or.inr h
  have hS : va_S A s.heap s.heap [] := va_S.rf
  have hl := lv_entry ([.ref x, .int 1, .int 0]) (n := 3) (Nat.le_of_ble_eq_true rfl)
  rw [lg_entry_eq]
  generalize (lg_sl ([.ref x, .int 1, .int 0]) ++ List.replicate (3 - (lg_sl ([.ref x, .int 1, .int 0])).length) Slot.unset).toArray = ls at hl ⊢
  have hl : lv_has ls 3 [(0, .ref x), (1, .int 1), (2, .int 0)] := hl
  obtain ⟨H, eH⟩ : ∃ z, z = s.heap := ⟨_, rfl⟩
  have hP : va_P (dC, dI) CL [(x, .inr (12, xg)), (liA, .inl (liAC, (3, .inr (.inr (.inr (.inr liAF)))))), (li0, .inr (5, li0g)), (li1, .inr (5, li1g)), (li2, .inr (5, li2g)), (oA, .inl (oAC, (1, .inr (.inl oAf))))] H := by rw [eH]; exact hP
  have hS : va_S A s.heap H [] := by rw [eH]; exact hS
  rw [← eH]
  refine lv_iload_n hx hb dX12_isThere_0 rfl (lv_at hl 1 rfl) ?_
  refine lv_if_lt (tgt := 13) hx hb dX12_isThere_1 (by decide) (fun c9 => ?_) (fun c9 => ?_)
  · first | exact absurd c9 (by decide +kernel) | exact absurd (by decide +kernel) c9
  refine lv_iload_n hx hb dX12_isThere_4 rfl (lv_at hl 1 rfl) ?_
  refine lv_iconst (v := 2) hx hb dX12_isThere_5 (by decide +kernel) ?_
  refine lv_icmp_gt (tgt := 13) hx hb dX12_isThere_6 (by decide) (fun c9 => ?_) (fun c9 => ?_)
  · first | exact absurd c9 (by decide +kernel) | exact absurd (by decide +kernel) c9
  refine lv_iconst (v := 1) hx hb dX12_isThere_9 (by decide +kernel) ?_
  refine lv_goto (tgt := 14) hx hb dX12_isThere_10 (by decide) ?_
  have hF0 : ∀ q, va_A [] H.size q → A q := fun q h => h.elim (fun ⟨k9, e9, h9⟩ => by simp at h9) (fun h9 => hA q (Nat.le_trans hS.1 h9))
  refine vx_callv (vx_runS (As := [.int 1]) (rest := []) ⟨hx, hb, hml, hown, hts⟩ (ct_X12_needRange l hlt H.size 1) (cwS 1 hts (gi_S wd_1328 wd_1329 wd_327 wd_1330) rfl rfl rfl (by decide +kernel) ⟨(Nat.le_of_ble_eq_true rfl), (Nat.le_of_ble_eq_true rfl)⟩) ⟨fun a U g mk q => ⟨q.1, q.2.1, th.moved (u := U) (U := U.calling g mk a) (Vm.Alike.refl U.vm) q.2.2⟩, fun U hU hW => ⟨rfl, by rw [hU], by rw [hU]; exact ((hth.kept hS.2.1).narrow hF0).moved hW.alike⟩⟩ rfl rfl hl.1 rfl (lv_room (Nat.le_of_ble_eq_true rfl)) dX12_isThere_14 ⟨(Nat.le_of_ble_eq_true rfl), (Nat.le_of_ble_eq_true rfl)⟩) hS (fun q _ h => hF0 q h) hF0 (fun q _ h => hF0 q h) (fun E ce q9 u t H1 locs ht hvm hp hB hz hk hS hce hcv hcl => absurd hp (by decide +kernel)) (fun u t H1 locs ht hvm hp hB hz hk hS => ?_)
  have hP : va_P (dC, dI) CL [(x, .inr (12, xg)), (liA, .inl (liAC, (3, .inr (.inr (.inr (.inr liAF)))))), (li0, .inr (5, li0g)), (li1, .inr (5, li1g)), (li2, .inr (5, li2g)), (oA, .inl (oAC, (1, .inr (.inl oAf))))] H1 := hP.kept (fun k q h9 => hk _ (vx_lt hP h9) (fun h8 => h8.elim (fun ⟨k9, e9, h7⟩ => by simp at h7) (fun h7 => absurd (vx_lt hP h9) (Nat.not_lt.mpr h7))))
  generalize H1 = H at hP hS ⊢
  refine W.widen (k := 1) (n := 6) (Nat.le_of_ble_eq_true rfl) (Nat.le_of_ble_eq_true rfl) ?_
  refine lv_iload_n hx hb dX12_isThere_17 rfl (lv_at hl 1 rfl) ?_
  refine lv_if_ne (tgt := 49) hx hb dX12_isThere_18 (by decide) (fun c9 => ?_) (fun c9 => ?_)
  rotate_left
  · first | exact absurd c9 (by decide +kernel) | exact absurd (by decide +kernel) c9
  refine lv_iload_n hx hb dX12_isThere_49 rfl (lv_at hl 1 rfl) ?_
  refine lv_iconst (v := 1) hx hb dX12_isThere_50 (by decide +kernel) ?_
  refine lv_icmp_ne (tgt := 81) hx hb dX12_isThere_51 (by decide) (fun c9 => ?_) (fun c9 => ?_)
  · first | exact absurd c9 (by decide +kernel) | exact absurd (by decide +kernel) c9
  refine lv_iload_n hx hb dX12_isThere_54 rfl (lv_at hl 2 rfl) ?_
  refine lv_if_lt (tgt := 79) hx hb dX12_isThere_55 (by decide) (fun c9 => ?_) (fun c9 => ?_)
  · first | exact absurd c9 (by decide +kernel) | exact absurd (by decide +kernel) c9
  refine lv_iload_n hx hb dX12_isThere_58 rfl (lv_at hl 2 rfl) ?_
  refine lv_iconst (v := 3) hx hb dX12_isThere_59 (by decide +kernel) ?_
  refine lv_icmp_ge (tgt := 79) hx hb dX12_isThere_60 (by decide) (fun c9 => ?_) (fun c9 => ?_)
  · first | exact absurd c9 (by decide +kernel) | exact absurd (by decide +kernel) c9
  refine lv_aload_n hx hb dX12_isThere_63 rfl (lv_at hl 0 rfl) ?_
  refine va_get (D := (dC, dI)) (ci := 12) (v := .ref liA) (C := RX12) (T := TX12) (N := 17) hx hb hts inX12 hown hK hP 0 rfl rfl 8 (by decide) (hts (.fieldLink RX12 71 "ChipFlow" "libraries" "[LChipFlow$Library;") wd_1186) (fun _ h9 => h9) (h_x.get 1 rfl) dX12_isThere_64 ?_
  refine lv_iload_n hx hb dX12_isThere_67 rfl (lv_at hl 2 rfl) ?_
  refine va_aldq hx hb hK hP 1 0 rfl rfl (vp_in_nI (n := 0) (N := 3) (by decide) (by decide)) dX12_isThere_68 ?_
  rw [show (0 : Int32).toNatClampNeg = 0 by decide +kernel, h_liA0]
  refine W.eq (g2 := F0 m 69 ls [.ref li0]) rfl ?_
  refine va_get (D := (dC, dI)) (ci := 5) (v := .int 0) (C := RX5) (T := TX5) (N := 7) hx hb hts inX5 hown hK hP 2 rfl rfl 0 (by decide) (hts (.fieldLink RX12 156 "ChipFlow$Library" "used" "Z") wd_855) (fun _ h9 => h9) (h_li0.get 0 rfl) dX12_isThere_69 ?_
  refine lv_if_eq (tgt := 79) hx hb dX12_isThere_72 (by decide) (fun c9 => ?_) (fun c9 => ?_)
  rotate_left
  · first | exact absurd c9 (by decide +kernel) | exact absurd (by decide +kernel) c9
  refine lv_iconst (v := 0) hx hb dX12_isThere_79 (by decide +kernel) ?_
  refine W.widen (k := 1) (n := 6) (Nat.le_of_ble_eq_true rfl) (Nat.le_of_ble_eq_true rfl) ?_
  exact W.zret (v := 0) hx hb hr rfl (fun t ht hW => ⟨⟨0, (), rfl, rfl, xg, li0g, li1g, li2g, oAf, h_x, h_li0, h_li1, h_li2, h_oA, by rw [ht]; exact hP, va_K.moved hW.alike hK, hD⟩, hS.F ht⟩) hS.2.2 dX12_isThere_80
set_option maxHeartbeats 4000000 in
set_option maxRecDepth 100000 in
theorem gx108_L_isThere (l : Launch) (hlt : l.stackTraces = false) (dC : Nat → ClassId) (dI : Nat → Nat → Nat) (sz : Nat) (x liA li0 li1 li2 oA deA chA : Nat) (xg : List Value) (h_x : fx xg 17 [(7, .ref deA), (8, .ref liA), (9, .ref chA)]) (liAC : ClassId) (liAF : Nat → Option Nat) (li0g : List Value) (h_li0 : fx li0g 7 [(0, .int 0)]) (li1g : List Value) (h_li1 : fx li1g 7 [(0, .int 0)]) (li2g : List Value) (h_li2 : fx li2g 7 [(0, .int 0)]) (oAC : ClassId) (oAf : Nat → Int64) (h_oA : fa oAf []) (h_liA0 : liAF 0 = some li0) (h_liA1 : liAF 1 = some li1) (h_liA2 : liAF 2 = some li2) : Met l yL_isThere (Cond.codeWith yL_isThere cL_isThere 5 (some .int) [(0, 17, 20, 19)] :: BG) ({ frames := 8, cells := 1, slots := 6, locals := 152 }) (va_Pc [.ref x, .int 1, .int 0, .ref oA] (fun U => U.heap.size = sz ∧ va_P (dC, dI) CL [(x, .inr (12, xg)), (liA, .inl (liAC, (3, .inr (.inr (.inr (.inr liAF)))))), (li0, .inr (5, li0g)), (li1, .inr (5, li1g)), (li2, .inr (5, li2g)), (oA, .inl (oAC, (1, .inr (.inl oAf))))] U.heap ∧ va_K (dC, dI) CL [(liAC, .object "ChipFlow$Library"), (oAC, .long)] U ∧ va_D (fun _ => True) [(x, .inr (12, xg)), (liA, .inl (liAC, (3, .inr (.inr (.inr (.inr liAF)))))), (li0, .inr (5, li0g)), (li1, .inr (5, li1g)), (li2, .inr (5, li2g)), (oA, .inl (oAC, (1, .inr (.inl oAf))))] ∧ th (va_A [(x, .inr (12, xg)), (liA, .inl (liAC, (3, .inr (.inr (.inr (.inr liAF)))))), (li0, .inr (5, li0g)), (li1, .inr (5, li1g)), (li2, .inr (5, li2g)), (oA, .inl (oAC, (1, .inr (.inl oAf))))] sz) U U.heap)) (va_Qi (fun (r : Int32) (_ : Unit) => r = 0) (fun _ t => ∃ (xy : List Value) (li0y : List Value) (li1y : List Value) (li2y : List Value) (oAy : Nat → Int64), fx xy 17 [(7, .ref deA), (8, .ref liA), (9, .ref chA)] ∧ fx li0y 7 [(0, .int 0)] ∧ fx li1y 7 [(0, .int 0)] ∧ fx li2y 7 [(0, .int 0)] ∧ fa oAy [(0, 0)] ∧ va_P (dC, dI) CL [(x, .inr (12, xy)), (liA, .inl (liAC, (3, .inr (.inr (.inr (.inr liAF)))))), (li0, .inr (5, li0y)), (li1, .inr (5, li1y)), (li2, .inr (5, li2y)), (oA, .inl (oAC, (1, .inr (.inl oAy))))] t.heap ∧ va_K (dC, dI) CL [(liAC, .object "ChipFlow$Library"), (oAC, .long)] t ∧ va_D (va_A [(x, .inr (12, xg)), (liA, .inl (liAC, (3, .inr (.inr (.inr (.inr liAF)))))), (li0, .inr (5, li0g)), (li1, .inr (5, li1g)), (li2, .inr (5, li2g)), (oA, .inl (oAC, (1, .inr (.inl oAf))))] sz) [(x, .inr (12, xy)), (liA, .inl (liAC, (3, .inr (.inr (.inr (.inr liAF)))))), (li0, .inr (5, li0y)), (li1, .inr (5, li1y)), (li2, .inr (5, li2y)), (oA, .inl (oAC, (1, .inr (.inl oAy))))]) (va_A [(x, .inr (12, xg)), (liA, .inl (liAC, (3, .inr (.inr (.inr (.inr liAF)))))), (li0, .inr (5, li0g)), (li1, .inr (5, li1g)), (li2, .inr (5, li2g)), (oA, .inl (oAC, (1, .inr (.inl oAf))))] sz)) 1 6 (va_A [(x, .inr (12, xg)), (liA, .inl (liAC, (3, .inr (.inr (.inr (.inr liAF)))))), (li0, .inr (5, li0g)), (li1, .inr (5, li1g)), (li2, .inr (5, li2g)), (oA, .inl (oAC, (1, .inr (.inl oAf))))] sz) := by
  refine va_MetW (hh := [(0, 17, 20, 19)]) (cc := cL_isThere) (maxL := 5) (ret := (some .int)) (by decide) rfl ?_
  intro p e s m args below meth c s₁ B hml hv
  obtain ⟨rfl, hsz, hP, hK, hD0, hth⟩ := hv
  have hx := B.exec
  have hb := B.bytes
  have hr := B.returns
  have hts : ∀ w ∈ BG, w.before _ s = true := fun w h => atoms_spec (ws := Cond.codeWith yL_isThere cL_isThere 5 (some .int) [(0, 17, 20, 19)] :: BG) B.pre w (List.mem_cons_of_mem _ h)
  have hown : s.vm.findClass RL = some m.cls := findClass_of_methodNamed B.named
  have hlocks := B.notSynchronized
  subst hsz
  have hD := hD0.self (sz := s.heap.size)
  generalize hAe : va_A [(x, .inr (12, xg)), (liA, .inl (liAC, (3, .inr (.inr (.inr (.inr liAF)))))), (li0, .inr (5, li0g)), (li1, .inr (5, li1g)), (li2, .inr (5, li2g)), (oA, .inl (oAC, (1, .inr (.inl oAf))))] s.heap.size = A at hD hth ⊢
  have hA : ∀ q : Nat, s.heap.size ≤ q → A q := fun q h => by rw [← hAe]; exact Or.inr h
  have hS : va_S A s.heap s.heap [] := va_S.rf
  have hl := lv_entry ([.ref x, .int 1, .int 0, .ref oA]) (n := 5) (Nat.le_of_ble_eq_true rfl)
  rw [lg_entry_eq]
  generalize (lg_sl ([.ref x, .int 1, .int 0, .ref oA]) ++ List.replicate (5 - (lg_sl ([.ref x, .int 1, .int 0, .ref oA])).length) Slot.unset).toArray = ls at hl ⊢
  have hl : lv_has ls 5 [(0, .ref x), (1, .int 1), (2, .int 0), (3, .ref oA)] := hl
  obtain ⟨H, eH⟩ : ∃ z, z = s.heap := ⟨_, rfl⟩
  have hP : va_P (dC, dI) CL [(x, .inr (12, xg)), (liA, .inl (liAC, (3, .inr (.inr (.inr (.inr liAF)))))), (li0, .inr (5, li0g)), (li1, .inr (5, li1g)), (li2, .inr (5, li2g)), (oA, .inl (oAC, (1, .inr (.inl oAf))))] H := by rw [eH]; exact hP
  have hS : va_S A s.heap H [] := by rw [eH]; exact hS
  rw [← eH]
  have hT : c.exceptionTable.toList = tableOf [(0, 17, 20, 19)] := vx_table (x := yL_isThere) B (atoms_spec (ws := Cond.codeWith yL_isThere cL_isThere 5 (some .int) [(0, 17, 20, 19)] :: BG) B.pre _ List.mem_cons_self)
  refine lv_aload_n hx hb dL_isThere_0 rfl (lv_at hl 3 rfl) ?_
  refine lv_iconst (v := 0) hx hb dL_isThere_1 (by decide +kernel) ?_
  refine lv_aload_n hx hb dL_isThere_2 rfl (lv_at hl 0 rfl) ?_
  refine lv_iload_n hx hb dL_isThere_3 rfl (lv_at hl 1 rfl) ?_
  refine lv_iload_n hx hb dL_isThere_4 rfl (lv_at hl 2 rfl) ?_
  have hFc := va_free (wc := [(x, .inr (12, xg)), (liA, .inl (liAC, (3, .inr (.inr (.inr (.inr liAF)))))), (li0, .inr (5, li0g)), (li1, .inr (5, li1g)), (li2, .inr (5, li2g)), (oA, .inl (oAC, (1, .inr (.inl oAf))))]) hD hS hA [0, 1, 2, 3, 4, 5] rfl
  refine va_calli (va_runV (As := [.int 1, .int 0]) (rest := [.int 0, .ref oA]) ⟨hx, hb, hml, hown, hts⟩ (gx109_X12_isThere l hlt dC dI _ x liA li0 li1 li2 oA deA chA xg h_x liAC liAF li0g h_li0 li1g h_li1 li2g h_li2 oAC oAf h_oA h_liA0 h_liA1 h_liA2) (cwV 2 hts (gi_V wd_1842 wd_1843 wd_1844 wd_327 wd_1845) rfl rfl rfl (by decide +kernel) ⟨(Nat.le_of_ble_eq_true rfl), (Nat.le_of_ble_eq_true rfl)⟩) ⟨fun a U g mk q => by obtain ⟨q0, q1, qP, qK, qD, qT⟩ := q; exact ⟨q0, q1, qP, va_K.moved (u := U) (U := U.calling g mk a) (Vm.Alike.refl U.vm) qK, qD, th.moved (u := U) (U := U.calling g mk a) (Vm.Alike.refl U.vm) qT⟩, va_recv hK hP (ci := 12) (q0 := 0) rfl rfl, fun U hU hW => ⟨rfl, by rw [hU], by rw [hU]; exact hP, va_K.moved hW.alike hK, hD.weaken (fun _ _ _ _ => trivial), by rw [hU]; exact ((hth.kept hS.2.1).narrow hFc).moved hW.alike⟩⟩ rfl rfl hl.1 rfl (lv_room (Nat.le_of_ble_eq_true rfl)) dL_isThere_5 ⟨(Nat.le_of_ble_eq_true rfl), (Nat.le_of_ble_eq_true rfl)⟩) hS (fun q _ h => hFc q h) hFc (fun r u t H1 locs ht hvm hw hB hz1 hk1 hS => ?_)
  subst hw
  obtain ⟨fs_1, fs_2, fs_3, fs_4, f_5, h_x, h_li0, h_li1, h_li2, h_oA, hP1, hK1, hD1⟩ := hB
  rw [ht] at hP1
  have hD := hD1.weaken (fun k q _ h => hFc q.1 h)
  have hP := hP1
  generalize H1 = H at hP hS ⊢
  have hP : va_P (dC, dI) CL [(x, .inr (12, fs_1)), (liA, .inl (liAC, (3, .inr (.inr (.inr (.inr liAF)))))), (li0, .inr (5, fs_2)), (li1, .inr (5, fs_3)), (li2, .inr (5, fs_4)), (oA, .inl (oAC, (1, .inr (.inl f_5))))] H := hP
  have hD : va_D A [(x, .inr (12, fs_1)), (liA, .inl (liAC, (3, .inr (.inr (.inr (.inr liAF)))))), (li0, .inr (5, fs_2)), (li1, .inr (5, fs_3)), (li2, .inr (5, fs_4)), (oA, .inl (oAC, (1, .inr (.inl f_5))))] := hD
  refine W.widen (k := 1) (n := 6) (Nat.le_of_ble_eq_true rfl) (Nat.le_of_ble_eq_true rfl) ?_
  refine lv_if_eq (tgt := 15) hx hb dL_isThere_8 (by decide) (fun c9 => ?_) (fun c9 => ?_)
  rotate_left
  · first | exact absurd c9 (by decide +kernel) | exact absurd (by decide +kernel) c9
  refine lv_lconst (v := 0) hx hb dL_isThere_15 (by decide) ?_
  refine va_last hx hb hK hP hD hS 5 1 rfl rfl (vp_in_nI (n := 0) (N := 1) (by decide) (by decide)) dL_isThere_16 (fun H locs hP hD hS => ?_)
  obtain ⟨f_6, e9⟩ : ∃ z, z = vp_updL f_5 (0 : Int32).toNatClampNeg 0 := ⟨_, rfl⟩
  have h_oA : fa f_6 [(0, 0)] := by rw [e9, show (0 : Int32).toNatClampNeg = 0 by decide +kernel]; exact (fa.putL h_oA).sub [0] rfl
  have hP : va_P (dC, dI) CL [(x, .inr (12, fs_1)), (liA, .inl (liAC, (3, .inr (.inr (.inr (.inr liAF)))))), (li0, .inr (5, fs_2)), (li1, .inr (5, fs_3)), (li2, .inr (5, fs_4)), (oA, .inl (oAC, (1, .inr (.inl f_6))))] H := by rw [e9]; exact hP
  have hD : va_D A [(x, .inr (12, fs_1)), (liA, .inl (liAC, (3, .inr (.inr (.inr (.inr liAF)))))), (li0, .inr (5, fs_2)), (li1, .inr (5, fs_3)), (li2, .inr (5, fs_4)), (oA, .inl (oAC, (1, .inr (.inl f_6))))] := by rw [e9]; exact hD
  clear e9
  refine lv_goto (tgt := 24) hx hb dL_isThere_17 (by decide) ?_
  refine lv_iconst (v := 0) hx hb dL_isThere_24 (by decide +kernel) ?_
  refine W.widen (k := 1) (n := 6) (Nat.le_of_ble_eq_true rfl) (Nat.le_of_ble_eq_true rfl) ?_
  exact W.iret (v := 0) hx hb hr (fun t ht hW => ⟨⟨0, (), rfl, rfl, fs_1, fs_2, fs_3, fs_4, f_6, h_x, h_li0, h_li1, h_li2, h_oA, by rw [ht]; exact hP, va_K.moved hW.alike hK, hD⟩, hS.F ht⟩) hS.2.2 dL_isThere_25
set_option maxHeartbeats 4000000 in
set_option maxRecDepth 100000 in
theorem gx111_X13_isOne (l : Launch) (hlt : l.stackTraces = false) (dC : Nat → ClassId) (dI : Nat → Nat → Nat) (sz : Nat) (m0 ml md mch : Nat) (m0g : List Value) (h_m0 : fx m0g 225 [(0, .int 0), (2, .int 0), (3, .int 0), (9, .int 0), (10, .int 0), (11, .int 0), (12, .int 0), (27, .int 0), (55, .ref md), (79, .int 0), (83, .int 0), (88, .ref ml), (95, .int 0), (138, .ref mch)]) (mlC : ClassId) : Met l yX13_isOne (Cond.code yX13_isOne cX13_isOne 3 (some .boolean) :: BG) ({ frames := 2, cells := 0, slots := 0, locals := 33 }) (va_Pc [.ref m0, .int 1, .int 0] (fun U => U.heap.size = sz ∧ va_P (dC, dI) CL [(m0, .inr (13, m0g)), (ml, .inl (mlC, (3, .inl (fun _ => 0))))] U.heap ∧ va_K (dC, dI) CL [(mlC, .boolean)] U ∧ va_D (fun _ => True) [(m0, .inr (13, m0g)), (ml, .inl (mlC, (3, .inl (fun _ => 0))))] ∧ th (va_A [(m0, .inr (13, m0g)), (ml, .inl (mlC, (3, .inl (fun _ => 0))))] sz) U U.heap)) (va_Qi (fun (r : Int32) (_ : Unit) => r = 0) (fun _ t => ∃ (m0y : List Value), fx m0y 225 [(0, .int 0), (2, .int 0), (3, .int 0), (9, .int 0), (10, .int 0), (11, .int 0), (12, .int 0), (27, .int 0), (55, .ref md), (79, .int 0), (83, .int 0), (88, .ref ml), (95, .int 0), (138, .ref mch)] ∧ va_P (dC, dI) CL [(m0, .inr (13, m0y)), (ml, .inl (mlC, (3, .inl (fun _ => 0))))] t.heap ∧ va_K (dC, dI) CL [(mlC, .boolean)] t ∧ va_D (va_A [(m0, .inr (13, m0g)), (ml, .inl (mlC, (3, .inl (fun _ => 0))))] sz) [(m0, .inr (13, m0y)), (ml, .inl (mlC, (3, .inl (fun _ => 0))))]) (va_A [(m0, .inr (13, m0g)), (ml, .inl (mlC, (3, .inl (fun _ => 0))))] sz)) 0 0 (va_A [(m0, .inr (13, m0g)), (ml, .inl (mlC, (3, .inl (fun _ => 0))))] sz) := by
  refine Met.ofW (cc := cX13_isOne) (maxL := 3) (ret := (some .boolean)) (by decide) rfl ?_
  intro p e s m args below meth c s₁ B hml hv
  obtain ⟨rfl, hsz, hP, hK, hD0, hth⟩ := hv
  have hx := B.exec
  have hb := B.bytes
  have hr := B.returns
  have hts : ∀ w ∈ BG, w.before _ s = true := fun w h => atoms_spec (ws := Cond.code yX13_isOne cX13_isOne 3 (some .boolean) :: BG) B.pre w (List.mem_cons_of_mem _ h)
  have hown : s.vm.findClass RX13 = some m.cls := findClass_of_methodNamed B.named
  have hlocks := B.notSynchronized
  subst hsz
  have hD := hD0.self (sz := s.heap.size)
  generalize hAe : va_A [(m0, .inr (13, m0g)), (ml, .inl (mlC, (3, .inl (fun _ => 0))))] s.heap.size = A at hD hth ⊢
  have hA : ∀ q : Nat, s.heap.size ≤ q → A q := fun q h => by rw [← hAe]; exact Or.inr h
  have hS : va_S A s.heap s.heap [] := va_S.rf
  have hl := lv_entry ([.ref m0, .int 1, .int 0]) (n := 3) (Nat.le_of_ble_eq_true rfl)
  rw [lg_entry_eq]
  generalize (lg_sl ([.ref m0, .int 1, .int 0]) ++ List.replicate (3 - (lg_sl ([.ref m0, .int 1, .int 0])).length) Slot.unset).toArray = ls at hl ⊢
  have hl : lv_has ls 3 [(0, .ref m0), (1, .int 1), (2, .int 0)] := hl
  obtain ⟨H, eH⟩ : ∃ z, z = s.heap := ⟨_, rfl⟩
  have hP : va_P (dC, dI) CL [(m0, .inr (13, m0g)), (ml, .inl (mlC, (3, .inl (fun _ => 0))))] H := by rw [eH]; exact hP
  have hS : va_S A s.heap H [] := by rw [eH]; exact hS
  rw [← eH]
  refine lv_iload_n hx hb dX13_isOne_0 rfl (lv_at hl 1 rfl) ?_
  refine lv_if_ne (tgt := 12) hx hb dX13_isOne_1 (by decide) (fun c9 => ?_) (fun c9 => ?_)
  rotate_left
  · first | exact absurd c9 (by decide +kernel) | exact absurd (by decide +kernel) c9
  refine lv_iload_n hx hb dX13_isOne_12 rfl (lv_at hl 1 rfl) ?_
  refine lv_iconst (v := 1) hx hb dX13_isOne_13 (by decide +kernel) ?_
  refine lv_icmp_ne (tgt := 25) hx hb dX13_isOne_14 (by decide) (fun c9 => ?_) (fun c9 => ?_)
  · first | exact absurd c9 (by decide +kernel) | exact absurd (by decide +kernel) c9
  refine lv_aload_n hx hb dX13_isOne_17 rfl (lv_at hl 0 rfl) ?_
  refine lv_iload_n hx hb dX13_isOne_18 rfl (lv_at hl 2 rfl) ?_
  have hFc := va_free (wc := [(m0, .inr (13, m0g)), (ml, .inl (mlC, (3, .inl (fun _ => 0))))]) hD hS hA [0, 1] rfl
  refine va_calli (va_runV (As := [.int 0]) (rest := []) ⟨hx, hb, hml, hown, hts⟩ (ct_X13_isLibrary l dC dI _ 0 m0 m0g ml mlC (h_m0.sub [11] rfl)) (cwV 1 hts (gi_V wd_4080 wd_4082 wd_216 wd_340 wd_4083) rfl rfl rfl (by decide +kernel) ⟨(Nat.le_of_ble_eq_true rfl), (Nat.le_of_ble_eq_true rfl)⟩) ⟨fun a U g mk q => by obtain ⟨q0, q1, qP, qK, qD⟩ := q; exact ⟨q0, q1, qP, va_K.moved (u := U) (U := U.calling g mk a) (Vm.Alike.refl U.vm) qK, qD⟩, va_recv hK hP (ci := 13) (q0 := 0) rfl rfl, fun U hU hW => ⟨rfl, by rw [hU], by rw [hU]; exact hP, va_K.moved hW.alike hK, hD.weaken (fun _ _ _ _ => trivial)⟩⟩ rfl rfl hl.1 rfl (lv_room (Nat.le_of_ble_eq_true rfl)) dX13_isOne_19 ⟨(Nat.le_of_ble_eq_true rfl), (Nat.le_of_ble_eq_true rfl)⟩) hS (fun q _ h => hFc q h) hFc (fun r u t H1 locs ht hvm hw hB hz1 hk1 hS => ?_)
  subst hw
  obtain ⟨hP1, hK1, hD1⟩ := hB
  rw [ht] at hP1
  have hD := hD1.weaken (fun k q _ h => hFc q.1 h)
  have hP := hP1
  generalize H1 = H at hP hS ⊢
  have hP : va_P (dC, dI) CL [(m0, .inr (13, m0g)), (ml, .inl (mlC, (3, .inl (fun _ => 0))))] H := hP
  have hD : va_D A [(m0, .inr (13, m0g)), (ml, .inl (mlC, (3, .inl (fun _ => 0))))] := hD
  refine lv_goto (tgt := 30) hx hb dX13_isOne_22 (by decide) ?_
  exact W.zret (v := 0) hx hb hr rfl (fun t ht hW => ⟨⟨0, (), rfl, rfl, m0g, h_m0, by rw [ht]; exact hP, va_K.moved hW.alike hK, hD⟩, hS.F ht⟩) hS.2.2 dX13_isOne_30
set_option maxHeartbeats 4000000 in
set_option maxRecDepth 100000 in
theorem gx110_X13_isThere (l : Launch) (hlt : l.stackTraces = false) (dC : Nat → ClassId) (dI : Nat → Nat → Nat) (sz : Nat) (m0 ml md mch : Nat) (m0g : List Value) (h_m0 : fx m0g 225 [(0, .int 0), (2, .int 0), (3, .int 0), (9, .int 0), (10, .int 0), (11, .int 0), (12, .int 0), (27, .int 0), (55, .ref md), (79, .int 0), (83, .int 0), (88, .ref ml), (95, .int 0), (138, .ref mch)]) (mlC : ClassId) : Met l yX13_isThere (Cond.code yX13_isThere cX13_isThere 3 (some .boolean) :: BG) ({ frames := 3, cells := 0, slots := 0, locals := 55 }) (va_Pc [.ref m0, .int 1, .int 0] (fun U => U.heap.size = sz ∧ va_P (dC, dI) CL [(m0, .inr (13, m0g)), (ml, .inl (mlC, (3, .inl (fun _ => 0))))] U.heap ∧ va_K (dC, dI) CL [(mlC, .boolean)] U ∧ va_D (fun _ => True) [(m0, .inr (13, m0g)), (ml, .inl (mlC, (3, .inl (fun _ => 0))))] ∧ th (va_A [(m0, .inr (13, m0g)), (ml, .inl (mlC, (3, .inl (fun _ => 0))))] sz) U U.heap)) (va_Qi (fun (r : Int32) (_ : Unit) => r = 0) (fun _ t => ∃ (m0y : List Value), fx m0y 225 [(0, .int 0), (2, .int 0), (3, .int 0), (9, .int 0), (10, .int 0), (11, .int 0), (12, .int 0), (27, .int 0), (55, .ref md), (79, .int 0), (83, .int 0), (88, .ref ml), (95, .int 0), (138, .ref mch)] ∧ va_P (dC, dI) CL [(m0, .inr (13, m0y)), (ml, .inl (mlC, (3, .inl (fun _ => 0))))] t.heap ∧ va_K (dC, dI) CL [(mlC, .boolean)] t ∧ va_D (va_A [(m0, .inr (13, m0g)), (ml, .inl (mlC, (3, .inl (fun _ => 0))))] sz) [(m0, .inr (13, m0y)), (ml, .inl (mlC, (3, .inl (fun _ => 0))))]) (va_A [(m0, .inr (13, m0g)), (ml, .inl (mlC, (3, .inl (fun _ => 0))))] sz)) 0 0 (va_A [(m0, .inr (13, m0g)), (ml, .inl (mlC, (3, .inl (fun _ => 0))))] sz) := by
  refine Met.ofW (cc := cX13_isThere) (maxL := 3) (ret := (some .boolean)) (by decide) rfl ?_
  intro p e s m args below meth c s₁ B hml hv
  obtain ⟨rfl, hsz, hP, hK, hD0, hth⟩ := hv
  have hx := B.exec
  have hb := B.bytes
  have hr := B.returns
  have hts : ∀ w ∈ BG, w.before _ s = true := fun w h => atoms_spec (ws := Cond.code yX13_isThere cX13_isThere 3 (some .boolean) :: BG) B.pre w (List.mem_cons_of_mem _ h)
  have hown : s.vm.findClass RX13 = some m.cls := findClass_of_methodNamed B.named
  have hlocks := B.notSynchronized
  subst hsz
  have hD := hD0.self (sz := s.heap.size)
  generalize hAe : va_A [(m0, .inr (13, m0g)), (ml, .inl (mlC, (3, .inl (fun _ => 0))))] s.heap.size = A at hD hth ⊢
  have hA : ∀ q : Nat, s.heap.size ≤ q → A q := fun q h => by rw [← hAe]; exact Or.inr h
  have hS : va_S A s.heap s.heap [] := va_S.rf
  have hl := lv_entry ([.ref m0, .int 1, .int 0]) (n := 3) (Nat.le_of_ble_eq_true rfl)
  rw [lg_entry_eq]
  generalize (lg_sl ([.ref m0, .int 1, .int 0]) ++ List.replicate (3 - (lg_sl ([.ref m0, .int 1, .int 0])).length) Slot.unset).toArray = ls at hl ⊢
  have hl : lv_has ls 3 [(0, .ref m0), (1, .int 1), (2, .int 0)] := hl
  obtain ⟨H, eH⟩ : ∃ z, z = s.heap := ⟨_, rfl⟩
  have hP : va_P (dC, dI) CL [(m0, .inr (13, m0g)), (ml, .inl (mlC, (3, .inl (fun _ => 0))))] H := by rw [eH]; exact hP
  have hS : va_S A s.heap H [] := by rw [eH]; exact hS
  rw [← eH]
  refine lv_aload_n hx hb dX13_isThere_0 rfl (lv_at hl 0 rfl) ?_
  refine lv_iload_n hx hb dX13_isThere_1 rfl (lv_at hl 1 rfl) ?_
  refine lv_iconst (v := 0) hx hb dX13_isThere_2 (by decide +kernel) ?_
  refine lv_iconst (v := 2) hx hb dX13_isThere_3 (by decide +kernel) ?_
  have hFc := va_free (wc := [(m0, .inr (13, m0g)), (ml, .inl (mlC, (3, .inl (fun _ => 0))))]) hD hS hA [0, 1] rfl
  refine va_calli (va_runS (As := [.int 1, .int 0, .int 2]) (rest := [.ref m0]) ⟨hx, hb, hml, hown, hts⟩ (gx54_X13_within l hlt dC dI _ m0 ml md mch m0g h_m0 mlC) (cwS 3 hts (gi_S wd_3825 wd_3826 wd_340 wd_3827) rfl rfl rfl (by decide +kernel) ⟨(Nat.le_of_ble_eq_true rfl), (Nat.le_of_ble_eq_true rfl)⟩) ⟨fun a U g mk q => by obtain ⟨q0, q1, qP, qK, qD, qT⟩ := q; exact ⟨q0, q1, qP, va_K.moved (u := U) (U := U.calling g mk a) (Vm.Alike.refl U.vm) qK, qD, th.moved (u := U) (U := U.calling g mk a) (Vm.Alike.refl U.vm) qT⟩, fun U hU hW => ⟨rfl, by rw [hU], by rw [hU]; exact hP, va_K.moved hW.alike hK, hD.weaken (fun _ _ _ _ => trivial), by rw [hU]; exact ((hth.kept hS.2.1).narrow hFc).moved hW.alike⟩⟩ rfl rfl hl.1 rfl (lv_room (Nat.le_of_ble_eq_true rfl)) dX13_isThere_4 ⟨(Nat.le_of_ble_eq_true rfl), (Nat.le_of_ble_eq_true rfl)⟩) hS (fun q _ h => hFc q h) hFc (fun r u t H1 locs ht hvm hw hB hz1 hk1 hS => ?_)
  subst hw
  obtain ⟨fs_1, h_m0, hP1, hK1, hD1⟩ := hB
  rw [ht] at hP1
  have hD := hD1.weaken (fun k q _ h => hFc q.1 h)
  have hP := hP1
  generalize H1 = H at hP hS ⊢
  have hP : va_P (dC, dI) CL [(m0, .inr (13, fs_1)), (ml, .inl (mlC, (3, .inl (fun _ => 0))))] H := hP
  have hD : va_D A [(m0, .inr (13, fs_1)), (ml, .inl (mlC, (3, .inl (fun _ => 0))))] := hD
  refine lv_if_eq (tgt := 14) hx hb dX13_isThere_7 (by decide) (fun c9 => ?_) (fun c9 => ?_)
  · first | exact absurd c9 (by decide +kernel) | exact absurd (by decide +kernel) c9
  refine lv_iconst (v := 0) hx hb dX13_isThere_10 (by decide +kernel) ?_
  refine lv_goto (tgt := 15) hx hb dX13_isThere_11 (by decide) ?_
  refine va_put (D := (dC, dI)) (ci := 13) (v := .int 0) (ty := tyX13 0) (C := RX13) (T := TX13) (N := 225) hx hb hts inX13 tyX13 tyX13_ok nmX13 hown hK hP hD hS 0 rfl rfl 0 (by decide) (hts (.fieldLink RX13 1 "ChipFlowModel" "code" "I") wd_3032) (fun _ h9 => h9) rfl (by decide +kernel) rfl rfl (by rw [h_m0.1]; decide) dX13_isThere_15 (fun H locs hP hD hS => ?_)
  obtain ⟨fs_2, e9⟩ : ∃ z, z = fs_1.set 0 (.int 0) := ⟨_, rfl⟩
  have h_m0 : fx fs_2 225 [(0, .int 0), (2, .int 0), (3, .int 0), (9, .int 0), (10, .int 0), (11, .int 0), (12, .int 0), (27, .int 0), (55, .ref md), (79, .int 0), (83, .int 0), (88, .ref ml), (95, .int 0), (138, .ref mch)] := by rw [e9]; exact (h_m0.put (F' := [(0, .int 0), (2, .int 0), (3, .int 0), (9, .int 0), (10, .int 0), (11, .int 0), (12, .int 0), (27, .int 0), (55, .ref md), (79, .int 0), (83, .int 0), (88, .ref ml), (95, .int 0), (138, .ref mch)]) (by decide) _ rfl).sub [0, 1, 2, 3, 4, 5, 6, 7, 8, 9, 10, 11, 12, 13] rfl
  have hP : va_P (dC, dI) CL [(m0, .inr (13, fs_2)), (ml, .inl (mlC, (3, .inl (fun _ => 0))))] H := by rw [e9]; exact hP
  have hD : va_D A [(m0, .inr (13, fs_2)), (ml, .inl (mlC, (3, .inl (fun _ => 0))))] := by rw [e9]; exact hD
  clear e9
  refine lv_aload_n hx hb dX13_isThere_18 rfl (lv_at hl 0 rfl) ?_
  refine va_get (D := (dC, dI)) (ci := 13) (v := .int 0) (C := RX13) (T := TX13) (N := 225) hx hb hts inX13 hown hK hP 0 rfl rfl 0 (by decide) (hts (.fieldLink RX13 1 "ChipFlowModel" "code" "I") wd_3032) (fun _ h9 => h9) (h_m0.get 0 rfl) dX13_isThere_19 ?_
  refine lv_if_ne (tgt := 38) hx hb dX13_isThere_22 (by decide) (fun c9 => ?_) (fun c9 => ?_)
  · first | exact absurd c9 (by decide +kernel) | exact absurd (by decide +kernel) c9
  refine lv_aload_n hx hb dX13_isThere_25 rfl (lv_at hl 0 rfl) ?_
  refine lv_iload_n hx hb dX13_isThere_26 rfl (lv_at hl 1 rfl) ?_
  refine lv_iload_n hx hb dX13_isThere_27 rfl (lv_at hl 2 rfl) ?_
  have hFc := va_free (wc := [(m0, .inr (13, fs_2)), (ml, .inl (mlC, (3, .inl (fun _ => 0))))]) hD hS hA [0, 1] rfl
  refine va_calli (va_runV (As := [.int 1, .int 0]) (rest := []) ⟨hx, hb, hml, hown, hts⟩ (gx111_X13_isOne l hlt dC dI _ m0 ml md mch fs_2 h_m0 mlC) (cwV 2 hts (gi_V wd_4072 wd_4074 wd_214 wd_340 wd_4075) rfl rfl rfl (by decide +kernel) ⟨(Nat.le_of_ble_eq_true rfl), (Nat.le_of_ble_eq_true rfl)⟩) ⟨fun a U g mk q => by obtain ⟨q0, q1, qP, qK, qD, qT⟩ := q; exact ⟨q0, q1, qP, va_K.moved (u := U) (U := U.calling g mk a) (Vm.Alike.refl U.vm) qK, qD, th.moved (u := U) (U := U.calling g mk a) (Vm.Alike.refl U.vm) qT⟩, va_recv hK hP (ci := 13) (q0 := 0) rfl rfl, fun U hU hW => ⟨rfl, by rw [hU], by rw [hU]; exact hP, va_K.moved hW.alike hK, hD.weaken (fun _ _ _ _ => trivial), by rw [hU]; exact ((hth.kept hS.2.1).narrow hFc).moved hW.alike⟩⟩ rfl rfl hl.1 rfl (lv_room (Nat.le_of_ble_eq_true rfl)) dX13_isThere_28 ⟨(Nat.le_of_ble_eq_true rfl), (Nat.le_of_ble_eq_true rfl)⟩) hS (fun q _ h => hFc q h) hFc (fun r u t H1 locs ht hvm hw hB hz1 hk1 hS => ?_)
  subst hw
  obtain ⟨fs_3, h_m0, hP1, hK1, hD1⟩ := hB
  rw [ht] at hP1
  have hD := hD1.weaken (fun k q _ h => hFc q.1 h)
  have hP := hP1
  generalize H1 = H at hP hS ⊢
  have hP : va_P (dC, dI) CL [(m0, .inr (13, fs_3)), (ml, .inl (mlC, (3, .inl (fun _ => 0))))] H := hP
  have hD : va_D A [(m0, .inr (13, fs_3)), (ml, .inl (mlC, (3, .inl (fun _ => 0))))] := hD
  refine lv_if_eq (tgt := 38) hx hb dX13_isThere_31 (by decide) (fun c9 => ?_) (fun c9 => ?_)
  rotate_left
  · first | exact absurd c9 (by decide +kernel) | exact absurd (by decide +kernel) c9
  refine lv_iconst (v := 0) hx hb dX13_isThere_38 (by decide +kernel) ?_
  exact W.zret (v := 0) hx hb hr rfl (fun t ht hW => ⟨⟨0, (), rfl, rfl, fs_3, h_m0, by rw [ht]; exact hP, va_K.moved hW.alike hK, hD⟩, hS.F ht⟩) hS.2.2 dX13_isThere_39
set_option maxHeartbeats 4000000 in
set_option maxRecDepth 100000 in
theorem gx113_X12_isThere (l : Launch) (hlt : l.stackTraces = false) (dC : Nat → ClassId) (dI : Nat → Nat → Nat) (sz : Nat) (x liA li0 li1 li2 oA deA chA : Nat) (xg : List Value) (h_x : fx xg 17 [(7, .ref deA), (8, .ref liA), (9, .ref chA)]) (liAC : ClassId) (liAF : Nat → Option Nat) (li0g : List Value) (h_li0 : fx li0g 7 [(0, .int 0)]) (li1g : List Value) (h_li1 : fx li1g 7 [(0, .int 0)]) (li2g : List Value) (h_li2 : fx li2g 7 [(0, .int 0)]) (oAC : ClassId) (oAf : Nat → Int64) (h_oA : fa oAf []) (h_liA0 : liAF 0 = some li0) (h_liA1 : liAF 1 = some li1) (h_liA2 : liAF 2 = some li2) : Met l yX12_isThere (Cond.code yX12_isThere cX12_isThere 3 (some .boolean) :: BG) ({ frames := 7, cells := 1, slots := 6, locals := 130 }) (va_Pc [.ref x, .int 1, .int 1] (fun U => U.heap.size = sz ∧ va_P (dC, dI) CL [(x, .inr (12, xg)), (liA, .inl (liAC, (3, .inr (.inr (.inr (.inr liAF)))))), (li0, .inr (5, li0g)), (li1, .inr (5, li1g)), (li2, .inr (5, li2g)), (oA, .inl (oAC, (1, .inr (.inl oAf))))] U.heap ∧ va_K (dC, dI) CL [(liAC, .object "ChipFlow$Library"), (oAC, .long)] U ∧ va_D (fun _ => True) [(x, .inr (12, xg)), (liA, .inl (liAC, (3, .inr (.inr (.inr (.inr liAF)))))), (li0, .inr (5, li0g)), (li1, .inr (5, li1g)), (li2, .inr (5, li2g)), (oA, .inl (oAC, (1, .inr (.inl oAf))))] ∧ th (va_A [(x, .inr (12, xg)), (liA, .inl (liAC, (3, .inr (.inr (.inr (.inr liAF)))))), (li0, .inr (5, li0g)), (li1, .inr (5, li1g)), (li2, .inr (5, li2g)), (oA, .inl (oAC, (1, .inr (.inl oAf))))] sz) U U.heap)) (va_Qi (fun (r : Int32) (_ : Unit) => r = 0) (fun _ t => ∃ (xy : List Value) (li0y : List Value) (li1y : List Value) (li2y : List Value) (oAy : Nat → Int64), fx xy 17 [(7, .ref deA), (8, .ref liA), (9, .ref chA)] ∧ fx li0y 7 [(0, .int 0)] ∧ fx li1y 7 [(0, .int 0)] ∧ fx li2y 7 [(0, .int 0)] ∧ fa oAy [] ∧ va_P (dC, dI) CL [(x, .inr (12, xy)), (liA, .inl (liAC, (3, .inr (.inr (.inr (.inr liAF)))))), (li0, .inr (5, li0y)), (li1, .inr (5, li1y)), (li2, .inr (5, li2y)), (oA, .inl (oAC, (1, .inr (.inl oAy))))] t.heap ∧ va_K (dC, dI) CL [(liAC, .object "ChipFlow$Library"), (oAC, .long)] t ∧ va_D (va_A [(x, .inr (12, xg)), (liA, .inl (liAC, (3, .inr (.inr (.inr (.inr liAF)))))), (li0, .inr (5, li0g)), (li1, .inr (5, li1g)), (li2, .inr (5, li2g)), (oA, .inl (oAC, (1, .inr (.inl oAf))))] sz) [(x, .inr (12, xy)), (liA, .inl (liAC, (3, .inr (.inr (.inr (.inr liAF)))))), (li0, .inr (5, li0y)), (li1, .inr (5, li1y)), (li2, .inr (5, li2y)), (oA, .inl (oAC, (1, .inr (.inl oAy))))]) (va_A [(x, .inr (12, xg)), (liA, .inl (liAC, (3, .inr (.inr (.inr (.inr liAF)))))), (li0, .inr (5, li0g)), (li1, .inr (5, li1g)), (li2, .inr (5, li2g)), (oA, .inl (oAC, (1, .inr (.inl oAf))))] sz)) 1 6 (va_A [(x, .inr (12, xg)), (liA, .inl (liAC, (3, .inr (.inr (.inr (.inr liAF)))))), (li0, .inr (5, li0g)), (li1, .inr (5, li1g)), (li2, .inr (5, li2g)), (oA, .inl (oAC, (1, .inr (.inl oAf))))] sz) := by
  refine Met.ofW (cc := cX12_isThere) (maxL := 3) (ret := (some .boolean)) (by decide) rfl ?_
  intro p e s m args below meth c s₁ B hml hv
  obtain ⟨rfl, hsz, hP, hK, hD0, hth⟩ := hv
  have hx := B.exec
  have hb := B.bytes
  have hr := B.returns
  have hts : ∀ w ∈ BG, w.before _ s = true := fun w h => atoms_spec (ws := Cond.code yX12_isThere cX12_isThere 3 (some .boolean) :: BG) B.pre w (List.mem_cons_of_mem _ h)
  have hown : s.vm.findClass RX12 = some m.cls := findClass_of_methodNamed B.named
  have hlocks := B.notSynchronized
  subst hsz
  have hD := hD0.self (sz := s.heap.size)
  generalize hAe : va_A [(x, .inr (12, xg)), (liA, .inl (liAC, (3, .inr (.inr (.inr (.inr liAF)))))), (li0, .inr (5, li0g)), (li1, .inr (5, li1g)), (li2, .inr (5, li2g)), (oA, .inl (oAC, (1, .inr (.inl oAf))))] s.heap.size = A at hD hth ⊢
  have hA : ∀ q : Nat, s.heap.size ≤ q → A q := fun q h => by rw [← hAe]; exact Or.inr h
  have hS : va_S A s.heap s.heap [] := va_S.rf
  have hl := lv_entry ([.ref x, .int 1, .int 1]) (n := 3) (Nat.le_of_ble_eq_true rfl)
  rw [lg_entry_eq]
  generalize (lg_sl ([.ref x, .int 1, .int 1]) ++ List.replicate (3 - (lg_sl ([.ref x, .int 1, .int 1])).length) Slot.unset).toArray = ls at hl ⊢
  have hl : lv_has ls 3 [(0, .ref x), (1, .int 1), (2, .int 1)] := hl
  obtain ⟨H, eH⟩ : ∃ z, z = s.heap := ⟨_, rfl⟩
  have hP : va_P (dC, dI) CL [(x, .inr (12, xg)), (liA, .inl (liAC, (3, .inr (.inr (.inr (.inr liAF)))))), (li0, .inr (5, li0g)), (li1, .inr (5, li1g)), (li2, .inr (5, li2g)), (oA, .inl (oAC, (1, .inr (.inl oAf))))] H := by rw [eH]; exact hP
  have hS : va_S A s.heap H [] := by rw [eH]; exact hS
  rw [← eH]
  refine lv_iload_n hx hb dX12_isThere_0 rfl (lv_at hl 1 rfl) ?_
  refine lv_if_lt (tgt := 13) hx hb dX12_isThere_1 (by decide) (fun c9 => ?_) (fun c9 => ?_)
  · first | exact absurd c9 (by decide +kernel) | exact absurd (by decide +kernel) c9
  refine lv_iload_n hx hb dX12_isThere_4 rfl (lv_at hl 1 rfl) ?_
  refine lv_iconst (v := 2) hx hb dX12_isThere_5 (by decide +kernel) ?_
  refine lv_icmp_gt (tgt := 13) hx hb dX12_isThere_6 (by decide) (fun c9 => ?_) (fun c9 => ?_)
  · first | exact absurd c9 (by decide +kernel) | exact absurd (by decide +kernel) c9
  refine lv_iconst (v := 1) hx hb dX12_isThere_9 (by decide +kernel) ?_
  refine lv_goto (tgt := 14) hx hb dX12_isThere_10 (by decide) ?_
  have hF0 : ∀ q, va_A [] H.size q → A q := fun q h => h.elim (fun ⟨k9, e9, h9⟩ => by simp at h9) (fun h9 => hA q (Nat.le_trans hS.1 h9))
  refine vx_callv (vx_runS (As := [.int 1]) (rest := []) ⟨hx, hb, hml, hown, hts⟩ (ct_X12_needRange l hlt H.size 1) (cwS 1 hts (gi_S wd_1328 wd_1329 wd_327 wd_1330) rfl rfl rfl (by decide +kernel) ⟨(Nat.le_of_ble_eq_true rfl), (Nat.le_of_ble_eq_true rfl)⟩) ⟨fun a U g mk q => ⟨q.1, q.2.1, th.moved (u := U) (U := U.calling g mk a) (Vm.Alike.refl U.vm) q.2.2⟩, fun U hU hW => ⟨rfl, by rw [hU], by rw [hU]; exact ((hth.kept hS.2.1).narrow hF0).moved hW.alike⟩⟩ rfl rfl hl.1 rfl (lv_room (Nat.le_of_ble_eq_true rfl)) dX12_isThere_14 ⟨(Nat.le_of_ble_eq_true rfl), (Nat.le_of_ble_eq_true rfl)⟩) hS (fun q _ h => hF0 q h) hF0 (fun q _ h => hF0 q h) (fun E ce q9 u t H1 locs ht hvm hp hB hz hk hS hce hcv hcl => absurd hp (by decide +kernel)) (fun u t H1 locs ht hvm hp hB hz hk hS => ?_)
  have hP : va_P (dC, dI) CL [(x, .inr (12, xg)), (liA, .inl (liAC, (3, .inr (.inr (.inr (.inr liAF)))))), (li0, .inr (5, li0g)), (li1, .inr (5, li1g)), (li2, .inr (5, li2g)), (oA, .inl (oAC, (1, .inr (.inl oAf))))] H1 := hP.kept (fun k q h9 => hk _ (vx_lt hP h9) (fun h8 => h8.elim (fun ⟨k9, e9, h7⟩ => by simp at h7) (fun h7 => absurd (vx_lt hP h9) (Nat.not_lt.mpr h7))))
  generalize H1 = H at hP hS ⊢
  refine W.widen (k := 1) (n := 6) (Nat.le_of_ble_eq_true rfl) (Nat.le_of_ble_eq_true rfl) ?_
  refine lv_iload_n hx hb dX12_isThere_17 rfl (lv_at hl 1 rfl) ?_
  refine lv_if_ne (tgt := 49) hx hb dX12_isThere_18 (by decide) (fun c9 => ?_) (fun c9 => ?_)
  rotate_left
  · first | exact absurd c9 (by decide +kernel) | exact absurd (by decide +kernel) c9
  refine lv_iload_n hx hb dX12_isThere_49 rfl (lv_at hl 1 rfl) ?_
  refine lv_iconst (v := 1) hx hb dX12_isThere_50 (by decide +kernel) ?_
  refine lv_icmp_ne (tgt := 81) hx hb dX12_isThere_51 (by decide) (fun c9 => ?_) (fun c9 => ?_)
  · first | exact absurd c9 (by decide +kernel) | exact absurd (by decide +kernel) c9
  refine lv_iload_n hx hb dX12_isThere_54 rfl (lv_at hl 2 rfl) ?_
  refine lv_if_lt (tgt := 79) hx hb dX12_isThere_55 (by decide) (fun c9 => ?_) (fun c9 => ?_)
  · first | exact absurd c9 (by decide +kernel) | exact absurd (by decide +kernel) c9
  refine lv_iload_n hx hb dX12_isThere_58 rfl (lv_at hl 2 rfl) ?_
  refine lv_iconst (v := 3) hx hb dX12_isThere_59 (by decide +kernel) ?_
  refine lv_icmp_ge (tgt := 79) hx hb dX12_isThere_60 (by decide) (fun c9 => ?_) (fun c9 => ?_)
  · first | exact absurd c9 (by decide +kernel) | exact absurd (by decide +kernel) c9
  refine lv_aload_n hx hb dX12_isThere_63 rfl (lv_at hl 0 rfl) ?_
  refine va_get (D := (dC, dI)) (ci := 12) (v := .ref liA) (C := RX12) (T := TX12) (N := 17) hx hb hts inX12 hown hK hP 0 rfl rfl 8 (by decide) (hts (.fieldLink RX12 71 "ChipFlow" "libraries" "[LChipFlow$Library;") wd_1186) (fun _ h9 => h9) (h_x.get 1 rfl) dX12_isThere_64 ?_
  refine lv_iload_n hx hb dX12_isThere_67 rfl (lv_at hl 2 rfl) ?_
  refine va_aldq hx hb hK hP 1 0 rfl rfl (vp_in_nI (n := 1) (N := 3) (by decide) (by decide)) dX12_isThere_68 ?_
  rw [show (1 : Int32).toNatClampNeg = 1 by decide +kernel, h_liA1]
  refine W.eq (g2 := F0 m 69 ls [.ref li1]) rfl ?_
  refine va_get (D := (dC, dI)) (ci := 5) (v := .int 0) (C := RX5) (T := TX5) (N := 7) hx hb hts inX5 hown hK hP 3 rfl rfl 0 (by decide) (hts (.fieldLink RX12 156 "ChipFlow$Library" "used" "Z") wd_855) (fun _ h9 => h9) (h_li1.get 0 rfl) dX12_isThere_69 ?_
  refine lv_if_eq (tgt := 79) hx hb dX12_isThere_72 (by decide) (fun c9 => ?_) (fun c9 => ?_)
  rotate_left
  · first | exact absurd c9 (by decide +kernel) | exact absurd (by decide +kernel) c9
  refine lv_iconst (v := 0) hx hb dX12_isThere_79 (by decide +kernel) ?_
  refine W.widen (k := 1) (n := 6) (Nat.le_of_ble_eq_true rfl) (Nat.le_of_ble_eq_true rfl) ?_
  exact W.zret (v := 0) hx hb hr rfl (fun t ht hW => ⟨⟨0, (), rfl, rfl, xg, li0g, li1g, li2g, oAf, h_x, h_li0, h_li1, h_li2, h_oA, by rw [ht]; exact hP, va_K.moved hW.alike hK, hD⟩, hS.F ht⟩) hS.2.2 dX12_isThere_80
set_option maxHeartbeats 4000000 in
set_option maxRecDepth 100000 in
theorem gx112_L_isThere (l : Launch) (hlt : l.stackTraces = false) (dC : Nat → ClassId) (dI : Nat → Nat → Nat) (sz : Nat) (x liA li0 li1 li2 oA deA chA : Nat) (xg : List Value) (h_x : fx xg 17 [(7, .ref deA), (8, .ref liA), (9, .ref chA)]) (liAC : ClassId) (liAF : Nat → Option Nat) (li0g : List Value) (h_li0 : fx li0g 7 [(0, .int 0)]) (li1g : List Value) (h_li1 : fx li1g 7 [(0, .int 0)]) (li2g : List Value) (h_li2 : fx li2g 7 [(0, .int 0)]) (oAC : ClassId) (oAf : Nat → Int64) (h_oA : fa oAf []) (h_liA0 : liAF 0 = some li0) (h_liA1 : liAF 1 = some li1) (h_liA2 : liAF 2 = some li2) : Met l yL_isThere (Cond.codeWith yL_isThere cL_isThere 5 (some .int) [(0, 17, 20, 19)] :: BG) ({ frames := 8, cells := 1, slots := 6, locals := 152 }) (va_Pc [.ref x, .int 1, .int 1, .ref oA] (fun U => U.heap.size = sz ∧ va_P (dC, dI) CL [(x, .inr (12, xg)), (liA, .inl (liAC, (3, .inr (.inr (.inr (.inr liAF)))))), (li0, .inr (5, li0g)), (li1, .inr (5, li1g)), (li2, .inr (5, li2g)), (oA, .inl (oAC, (1, .inr (.inl oAf))))] U.heap ∧ va_K (dC, dI) CL [(liAC, .object "ChipFlow$Library"), (oAC, .long)] U ∧ va_D (fun _ => True) [(x, .inr (12, xg)), (liA, .inl (liAC, (3, .inr (.inr (.inr (.inr liAF)))))), (li0, .inr (5, li0g)), (li1, .inr (5, li1g)), (li2, .inr (5, li2g)), (oA, .inl (oAC, (1, .inr (.inl oAf))))] ∧ th (va_A [(x, .inr (12, xg)), (liA, .inl (liAC, (3, .inr (.inr (.inr (.inr liAF)))))), (li0, .inr (5, li0g)), (li1, .inr (5, li1g)), (li2, .inr (5, li2g)), (oA, .inl (oAC, (1, .inr (.inl oAf))))] sz) U U.heap)) (va_Qi (fun (r : Int32) (_ : Unit) => r = 0) (fun _ t => ∃ (xy : List Value) (li0y : List Value) (li1y : List Value) (li2y : List Value) (oAy : Nat → Int64), fx xy 17 [(7, .ref deA), (8, .ref liA), (9, .ref chA)] ∧ fx li0y 7 [(0, .int 0)] ∧ fx li1y 7 [(0, .int 0)] ∧ fx li2y 7 [(0, .int 0)] ∧ fa oAy [(0, 0)] ∧ va_P (dC, dI) CL [(x, .inr (12, xy)), (liA, .inl (liAC, (3, .inr (.inr (.inr (.inr liAF)))))), (li0, .inr (5, li0y)), (li1, .inr (5, li1y)), (li2, .inr (5, li2y)), (oA, .inl (oAC, (1, .inr (.inl oAy))))] t.heap ∧ va_K (dC, dI) CL [(liAC, .object "ChipFlow$Library"), (oAC, .long)] t ∧ va_D (va_A [(x, .inr (12, xg)), (liA, .inl (liAC, (3, .inr (.inr (.inr (.inr liAF)))))), (li0, .inr (5, li0g)), (li1, .inr (5, li1g)), (li2, .inr (5, li2g)), (oA, .inl (oAC, (1, .inr (.inl oAf))))] sz) [(x, .inr (12, xy)), (liA, .inl (liAC, (3, .inr (.inr (.inr (.inr liAF)))))), (li0, .inr (5, li0y)), (li1, .inr (5, li1y)), (li2, .inr (5, li2y)), (oA, .inl (oAC, (1, .inr (.inl oAy))))]) (va_A [(x, .inr (12, xg)), (liA, .inl (liAC, (3, .inr (.inr (.inr (.inr liAF)))))), (li0, .inr (5, li0g)), (li1, .inr (5, li1g)), (li2, .inr (5, li2g)), (oA, .inl (oAC, (1, .inr (.inl oAf))))] sz)) 1 6 (va_A [(x, .inr (12, xg)), (liA, .inl (liAC, (3, .inr (.inr (.inr (.inr liAF)))))), (li0, .inr (5, li0g)), (li1, .inr (5, li1g)), (li2, .inr (5, li2g)), (oA, .inl (oAC, (1, .inr (.inl oAf))))] sz) := by
  refine va_MetW (hh := [(0, 17, 20, 19)]) (cc := cL_isThere) (maxL := 5) (ret := (some .int)) (by decide) rfl ?_
  intro p e s m args below meth c s₁ B hml hv
  obtain ⟨rfl, hsz, hP, hK, hD0, hth⟩ := hv
  have hx := B.exec
  have hb := B.bytes
  have hr := B.returns
  have hts : ∀ w ∈ BG, w.before _ s = true := fun w h => atoms_spec (ws := Cond.codeWith yL_isThere cL_isThere 5 (some .int) [(0, 17, 20, 19)] :: BG) B.pre w (List.mem_cons_of_mem _ h)
  have hown : s.vm.findClass RL = some m.cls := findClass_of_methodNamed B.named
  have hlocks := B.notSynchronized
  subst hsz
  have hD := hD0.self (sz := s.heap.size)
  generalize hAe : va_A [(x, .inr (12, xg)), (liA, .inl (liAC, (3, .inr (.inr (.inr (.inr liAF)))))), (li0, .inr (5, li0g)), (li1, .inr (5, li1g)), (li2, .inr (5, li2g)), (oA, .inl (oAC, (1, .inr (.inl oAf))))] s.heap.size = A at hD hth ⊢
  have hA : ∀ q : Nat, s.heap.size ≤ q → A q := fun q h => by rw [← hAe]; exact Or.inr h
  have hS : va_S A s.heap s.heap [] := va_S.rf
  have hl := lv_entry ([.ref x, .int 1, .int 1, .ref oA]) (n := 5) (Nat.le_of_ble_eq_true rfl)
  rw [lg_entry_eq]
  generalize (lg_sl ([.ref x, .int 1, .int 1, .ref oA]) ++ List.replicate (5 - (lg_sl ([.ref x, .int 1, .int 1, .ref oA])).length) Slot.unset).toArray = ls at hl ⊢
  have hl : lv_has ls 5 [(0, .ref x), (1, .int 1), (2, .int 1), (3, .ref oA)] := hl
  obtain ⟨H, eH⟩ : ∃ z, z = s.heap := ⟨_, rfl⟩
  have hP : va_P (dC, dI) CL [(x, .inr (12, xg)), (liA, .inl (liAC, (3, .inr (.inr (.inr (.inr liAF)))))), (li0, .inr (5, li0g)), (li1, .inr (5, li1g)), (li2, .inr (5, li2g)), (oA, .inl (oAC, (1, .inr (.inl oAf))))] H := by rw [eH]; exact hP
  have hS : va_S A s.heap H [] := by rw [eH]; exact hS
  rw [← eH]
  have hT : c.exceptionTable.toList = tableOf [(0, 17, 20, 19)] := vx_table (x := yL_isThere) B (atoms_spec (ws := Cond.codeWith yL_isThere cL_isThere 5 (some .int) [(0, 17, 20, 19)] :: BG) B.pre _ List.mem_cons_self)
  refine lv_aload_n hx hb dL_isThere_0 rfl (lv_at hl 3 rfl) ?_
  refine lv_iconst (v := 0) hx hb dL_isThere_1 (by decide +kernel) ?_
  refine lv_aload_n hx hb dL_isThere_2 rfl (lv_at hl 0 rfl) ?_
  refine lv_iload_n hx hb dL_isThere_3 rfl (lv_at hl 1 rfl) ?_
  refine lv_iload_n hx hb dL_isThere_4 rfl (lv_at hl 2 rfl) ?_
  have hFc := va_free (wc := [(x, .inr (12, xg)), (liA, .inl (liAC, (3, .inr (.inr (.inr (.inr liAF)))))), (li0, .inr (5, li0g)), (li1, .inr (5, li1g)), (li2, .inr (5, li2g)), (oA, .inl (oAC, (1, .inr (.inl oAf))))]) hD hS hA [0, 1, 2, 3, 4, 5] rfl
  refine va_calli (va_runV (As := [.int 1, .int 1]) (rest := [.int 0, .ref oA]) ⟨hx, hb, hml, hown, hts⟩ (gx113_X12_isThere l hlt dC dI _ x liA li0 li1 li2 oA deA chA xg h_x liAC liAF li0g h_li0 li1g h_li1 li2g h_li2 oAC oAf h_oA h_liA0 h_liA1 h_liA2) (cwV 2 hts (gi_V wd_1842 wd_1843 wd_1844 wd_327 wd_1845) rfl rfl rfl (by decide +kernel) ⟨(Nat.le_of_ble_eq_true rfl), (Nat.le_of_ble_eq_true rfl)⟩) ⟨fun a U g mk q => by obtain ⟨q0, q1, qP, qK, qD, qT⟩ := q; exact ⟨q0, q1, qP, va_K.moved (u := U) (U := U.calling g mk a) (Vm.Alike.refl U.vm) qK, qD, th.moved (u := U) (U := U.calling g mk a) (Vm.Alike.refl U.vm) qT⟩, va_recv hK hP (ci := 12) (q0 := 0) rfl rfl, fun U hU hW => ⟨rfl, by rw [hU], by rw [hU]; exact hP, va_K.moved hW.alike hK, hD.weaken (fun _ _ _ _ => trivial), by rw [hU]; exact ((hth.kept hS.2.1).narrow hFc).moved hW.alike⟩⟩ rfl rfl hl.1 rfl (lv_room (Nat.le_of_ble_eq_true rfl)) dL_isThere_5 ⟨(Nat.le_of_ble_eq_true rfl), (Nat.le_of_ble_eq_true rfl)⟩) hS (fun q _ h => hFc q h) hFc (fun r u t H1 locs ht hvm hw hB hz1 hk1 hS => ?_)
  subst hw
  obtain ⟨fs_1, fs_2, fs_3, fs_4, f_5, h_x, h_li0, h_li1, h_li2, h_oA, hP1, hK1, hD1⟩ := hB
  rw [ht] at hP1
  have hD := hD1.weaken (fun k q _ h => hFc q.1 h)
  have hP := hP1
  generalize H1 = H at hP hS ⊢
  have hP : va_P (dC, dI) CL [(x, .inr (12, fs_1)), (liA, .inl (liAC, (3, .inr (.inr (.inr (.inr liAF)))))), (li0, .inr (5, fs_2)), (li1, .inr (5, fs_3)), (li2, .inr (5, fs_4)), (oA, .inl (oAC, (1, .inr (.inl f_5))))] H := hP
  have hD : va_D A [(x, .inr (12, fs_1)), (liA, .inl (liAC, (3, .inr (.inr (.inr (.inr liAF)))))), (li0, .inr (5, fs_2)), (li1, .inr (5, fs_3)), (li2, .inr (5, fs_4)), (oA, .inl (oAC, (1, .inr (.inl f_5))))] := hD
  refine W.widen (k := 1) (n := 6) (Nat.le_of_ble_eq_true rfl) (Nat.le_of_ble_eq_true rfl) ?_
  refine lv_if_eq (tgt := 15) hx hb dL_isThere_8 (by decide) (fun c9 => ?_) (fun c9 => ?_)
  rotate_left
  · first | exact absurd c9 (by decide +kernel) | exact absurd (by decide +kernel) c9
  refine lv_lconst (v := 0) hx hb dL_isThere_15 (by decide) ?_
  refine va_last hx hb hK hP hD hS 5 1 rfl rfl (vp_in_nI (n := 0) (N := 1) (by decide) (by decide)) dL_isThere_16 (fun H locs hP hD hS => ?_)
  obtain ⟨f_6, e9⟩ : ∃ z, z = vp_updL f_5 (0 : Int32).toNatClampNeg 0 := ⟨_, rfl⟩
  have h_oA : fa f_6 [(0, 0)] := by rw [e9, show (0 : Int32).toNatClampNeg = 0 by decide +kernel]; exact (fa.putL h_oA).sub [0] rfl
  have hP : va_P (dC, dI) CL [(x, .inr (12, fs_1)), (liA, .inl (liAC, (3, .inr (.inr (.inr (.inr liAF)))))), (li0, .inr (5, fs_2)), (li1, .inr (5, fs_3)), (li2, .inr (5, fs_4)), (oA, .inl (oAC, (1, .inr (.inl f_6))))] H := by rw [e9]; exact hP
  have hD : va_D A [(x, .inr (12, fs_1)), (liA, .inl (liAC, (3, .inr (.inr (.inr (.inr liAF)))))), (li0, .inr (5, fs_2)), (li1, .inr (5, fs_3)), (li2, .inr (5, fs_4)), (oA, .inl (oAC, (1, .inr (.inl f_6))))] := by rw [e9]; exact hD
  clear e9
  refine lv_goto (tgt := 24) hx hb dL_isThere_17 (by decide) ?_
  refine lv_iconst (v := 0) hx hb dL_isThere_24 (by decide +kernel) ?_
  refine W.widen (k := 1) (n := 6) (Nat.le_of_ble_eq_true rfl) (Nat.le_of_ble_eq_true rfl) ?_
  exact W.iret (v := 0) hx hb hr (fun t ht hW => ⟨⟨0, (), rfl, rfl, fs_1, fs_2, fs_3, fs_4, f_6, h_x, h_li0, h_li1, h_li2, h_oA, by rw [ht]; exact hP, va_K.moved hW.alike hK, hD⟩, hS.F ht⟩) hS.2.2 dL_isThere_25
set_option maxHeartbeats 4000000 in
set_option maxRecDepth 100000 in
theorem gx115_X13_isOne (l : Launch) (hlt : l.stackTraces = false) (dC : Nat → ClassId) (dI : Nat → Nat → Nat) (sz : Nat) (m0 ml md mch : Nat) (m0g : List Value) (h_m0 : fx m0g 225 [(0, .int 0), (2, .int 0), (3, .int 0), (9, .int 0), (10, .int 0), (11, .int 0), (12, .int 0), (27, .int 0), (55, .ref md), (79, .int 0), (83, .int 0), (88, .ref ml), (95, .int 0), (138, .ref mch)]) (mlC : ClassId) : Met l yX13_isOne (Cond.code yX13_isOne cX13_isOne 3 (some .boolean) :: BG) ({ frames := 2, cells := 0, slots := 0, locals := 33 }) (va_Pc [.ref m0, .int 1, .int 1] (fun U => U.heap.size = sz ∧ va_P (dC, dI) CL [(m0, .inr (13, m0g)), (ml, .inl (mlC, (3, .inl (fun _ => 0))))] U.heap ∧ va_K (dC, dI) CL [(mlC, .boolean)] U ∧ va_D (fun _ => True) [(m0, .inr (13, m0g)), (ml, .inl (mlC, (3, .inl (fun _ => 0))))] ∧ th (va_A [(m0, .inr (13, m0g)), (ml, .inl (mlC, (3, .inl (fun _ => 0))))] sz) U U.heap)) (va_Qi (fun (r : Int32) (_ : Unit) => r = 0) (fun _ t => ∃ (m0y : List Value), fx m0y 225 [(0, .int 0), (2, .int 0), (3, .int 0), (9, .int 0), (10, .int 0), (11, .int 0), (12, .int 0), (27, .int 0), (55, .ref md), (79, .int 0), (83, .int 0), (88, .ref ml), (95, .int 0), (138, .ref mch)] ∧ va_P (dC, dI) CL [(m0, .inr (13, m0y)), (ml, .inl (mlC, (3, .inl (fun _ => 0))))] t.heap ∧ va_K (dC, dI) CL [(mlC, .boolean)] t ∧ va_D (va_A [(m0, .inr (13, m0g)), (ml, .inl (mlC, (3, .inl (fun _ => 0))))] sz) [(m0, .inr (13, m0y)), (ml, .inl (mlC, (3, .inl (fun _ => 0))))]) (va_A [(m0, .inr (13, m0g)), (ml, .inl (mlC, (3, .inl (fun _ => 0))))] sz)) 0 0 (va_A [(m0, .inr (13, m0g)), (ml, .inl (mlC, (3, .inl (fun _ => 0))))] sz) := by
  refine Met.ofW (cc := cX13_isOne) (maxL := 3) (ret := (some .boolean)) (by decide) rfl ?_
  intro p e s m args below meth c s₁ B hml hv
  obtain ⟨rfl, hsz, hP, hK, hD0, hth⟩ := hv
  have hx := B.exec
  have hb := B.bytes
  have hr := B.returns
  have hts : ∀ w ∈ BG, w.before _ s = true := fun w h => atoms_spec (ws := Cond.code yX13_isOne cX13_isOne 3 (some .boolean) :: BG) B.pre w (List.mem_cons_of_mem _ h)
  have hown : s.vm.findClass RX13 = some m.cls := findClass_of_methodNamed B.named
  have hlocks := B.notSynchronized
  subst hsz
  have hD := hD0.self (sz := s.heap.size)
  generalize hAe : va_A [(m0, .inr (13, m0g)), (ml, .inl (mlC, (3, .inl (fun _ => 0))))] s.heap.size = A at hD hth ⊢
  have hA : ∀ q : Nat, s.heap.size ≤ q → A q := fun q h => by rw [← hAe]; exact Or.inr h
  have hS : va_S A s.heap s.heap [] := va_S.rf
  have hl := lv_entry ([.ref m0, .int 1, .int 1]) (n := 3) (Nat.le_of_ble_eq_true rfl)
  rw [lg_entry_eq]
  generalize (lg_sl ([.ref m0, .int 1, .int 1]) ++ List.replicate (3 - (lg_sl ([.ref m0, .int 1, .int 1])).length) Slot.unset).toArray = ls at hl ⊢
  have hl : lv_has ls 3 [(0, .ref m0), (1, .int 1), (2, .int 1)] := hl
  obtain ⟨H, eH⟩ : ∃ z, z = s.heap := ⟨_, rfl⟩
  have hP : va_P (dC, dI) CL [(m0, .inr (13, m0g)), (ml, .inl (mlC, (3, .inl (fun _ => 0))))] H := by rw [eH]; exact hP
  have hS : va_S A s.heap H [] := by rw [eH]; exact hS
  rw [← eH]
  refine lv_iload_n hx hb dX13_isOne_0 rfl (lv_at hl 1 rfl) ?_
  refine lv_if_ne (tgt := 12) hx hb dX13_isOne_1 (by decide) (fun c9 => ?_) (fun c9 => ?_)
  rotate_left
  · first | exact absurd c9 (by decide +kernel) | exact absurd (by decide +kernel) c9
  refine lv_iload_n hx hb dX13_isOne_12 rfl (lv_at hl 1 rfl) ?_
  refine lv_iconst (v := 1) hx hb dX13_isOne_13 (by decide +kernel) ?_
  refine lv_icmp_ne (tgt := 25) hx hb dX13_isOne_14 (by decide) (fun c9 => ?_) (fun c9 => ?_)
  · first | exact absurd c9 (by decide +kernel) | exact absurd (by decide +kernel) c9
  refine lv_aload_n hx hb dX13_isOne_17 rfl (lv_at hl 0 rfl) ?_
  refine lv_iload_n hx hb dX13_isOne_18 rfl (lv_at hl 2 rfl) ?_
  have hFc := va_free (wc := [(m0, .inr (13, m0g)), (ml, .inl (mlC, (3, .inl (fun _ => 0))))]) hD hS hA [0, 1] rfl
  refine va_calli (va_runV (As := [.int 1]) (rest := []) ⟨hx, hb, hml, hown, hts⟩ (ct_X13_isLibrary l dC dI _ 1 m0 m0g ml mlC (h_m0.sub [11] rfl)) (cwV 1 hts (gi_V wd_4080 wd_4082 wd_216 wd_340 wd_4083) rfl rfl rfl (by decide +kernel) ⟨(Nat.le_of_ble_eq_true rfl), (Nat.le_of_ble_eq_true rfl)⟩) ⟨fun a U g mk q => by obtain ⟨q0, q1, qP, qK, qD⟩ := q; exact ⟨q0, q1, qP, va_K.moved (u := U) (U := U.calling g mk a) (Vm.Alike.refl U.vm) qK, qD⟩, va_recv hK hP (ci := 13) (q0 := 0) rfl rfl, fun U hU hW => ⟨rfl, by rw [hU], by rw [hU]; exact hP, va_K.moved hW.alike hK, hD.weaken (fun _ _ _ _ => trivial)⟩⟩ rfl rfl hl.1 rfl (lv_room (Nat.le_of_ble_eq_true rfl)) dX13_isOne_19 ⟨(Nat.le_of_ble_eq_true rfl), (Nat.le_of_ble_eq_true rfl)⟩) hS (fun q _ h => hFc q h) hFc (fun r u t H1 locs ht hvm hw hB hz1 hk1 hS => ?_)
  subst hw
  obtain ⟨hP1, hK1, hD1⟩ := hB
  rw [ht] at hP1
  have hD := hD1.weaken (fun k q _ h => hFc q.1 h)
  have hP := hP1
  generalize H1 = H at hP hS ⊢
  have hP : va_P (dC, dI) CL [(m0, .inr (13, m0g)), (ml, .inl (mlC, (3, .inl (fun _ => 0))))] H := hP
  have hD : va_D A [(m0, .inr (13, m0g)), (ml, .inl (mlC, (3, .inl (fun _ => 0))))] := hD
  refine lv_goto (tgt := 30) hx hb dX13_isOne_22 (by decide) ?_
  exact W.zret (v := 0) hx hb hr rfl (fun t ht hW => ⟨⟨0, (), rfl, rfl, m0g, h_m0, by rw [ht]; exact hP, va_K.moved hW.alike hK, hD⟩, hS.F ht⟩) hS.2.2 dX13_isOne_30
set_option maxHeartbeats 4000000 in
set_option maxRecDepth 100000 in
theorem gx114_X13_isThere (l : Launch) (hlt : l.stackTraces = false) (dC : Nat → ClassId) (dI : Nat → Nat → Nat) (sz : Nat) (m0 ml md mch : Nat) (m0g : List Value) (h_m0 : fx m0g 225 [(0, .int 0), (2, .int 0), (3, .int 0), (9, .int 0), (10, .int 0), (11, .int 0), (12, .int 0), (27, .int 0), (55, .ref md), (79, .int 0), (83, .int 0), (88, .ref ml), (95, .int 0), (138, .ref mch)]) (mlC : ClassId) : Met l yX13_isThere (Cond.code yX13_isThere cX13_isThere 3 (some .boolean) :: BG) ({ frames := 3, cells := 0, slots := 0, locals := 55 }) (va_Pc [.ref m0, .int 1, .int 1] (fun U => U.heap.size = sz ∧ va_P (dC, dI) CL [(m0, .inr (13, m0g)), (ml, .inl (mlC, (3, .inl (fun _ => 0))))] U.heap ∧ va_K (dC, dI) CL [(mlC, .boolean)] U ∧ va_D (fun _ => True) [(m0, .inr (13, m0g)), (ml, .inl (mlC, (3, .inl (fun _ => 0))))] ∧ th (va_A [(m0, .inr (13, m0g)), (ml, .inl (mlC, (3, .inl (fun _ => 0))))] sz) U U.heap)) (va_Qi (fun (r : Int32) (_ : Unit) => r = 0) (fun _ t => ∃ (m0y : List Value), fx m0y 225 [(0, .int 0), (2, .int 0), (3, .int 0), (9, .int 0), (10, .int 0), (11, .int 0), (12, .int 0), (27, .int 0), (55, .ref md), (79, .int 0), (83, .int 0), (88, .ref ml), (95, .int 0), (138, .ref mch)] ∧ va_P (dC, dI) CL [(m0, .inr (13, m0y)), (ml, .inl (mlC, (3, .inl (fun _ => 0))))] t.heap ∧ va_K (dC, dI) CL [(mlC, .boolean)] t ∧ va_D (va_A [(m0, .inr (13, m0g)), (ml, .inl (mlC, (3, .inl (fun _ => 0))))] sz) [(m0, .inr (13, m0y)), (ml, .inl (mlC, (3, .inl (fun _ => 0))))]) (va_A [(m0, .inr (13, m0g)), (ml, .inl (mlC, (3, .inl (fun _ => 0))))] sz)) 0 0 (va_A [(m0, .inr (13, m0g)), (ml, .inl (mlC, (3, .inl (fun _ => 0))))] sz) := by
  refine Met.ofW (cc := cX13_isThere) (maxL := 3) (ret := (some .boolean)) (by decide) rfl ?_
  intro p e s m args below meth c s₁ B hml hv
  obtain ⟨rfl, hsz, hP, hK, hD0, hth⟩ := hv
  have hx := B.exec
  have hb := B.bytes
  have hr := B.returns
  have hts : ∀ w ∈ BG, w.before _ s = true := fun w h => atoms_spec (ws := Cond.code yX13_isThere cX13_isThere 3 (some .boolean) :: BG) B.pre w (List.mem_cons_of_mem _ h)
  have hown : s.vm.findClass RX13 = some m.cls := findClass_of_methodNamed B.named
  have hlocks := B.notSynchronized
  subst hsz
  have hD := hD0.self (sz := s.heap.size)
  generalize hAe : va_A [(m0, .inr (13, m0g)), (ml, .inl (mlC, (3, .inl (fun _ => 0))))] s.heap.size = A at hD hth ⊢
  have hA : ∀ q : Nat, s.heap.size ≤ q → A q := fun q h => by rw [← hAe]; exact Or.inr h
  have hS : va_S A s.heap s.heap [] := va_S.rf
  have hl := lv_entry ([.ref m0, .int 1, .int 1]) (n := 3) (Nat.le_of_ble_eq_true rfl)
  rw [lg_entry_eq]
  generalize (lg_sl ([.ref m0, .int 1, .int 1]) ++ List.replicate (3 - (lg_sl ([.ref m0, .int 1, .int 1])).length) Slot.unset).toArray = ls at hl ⊢
  have hl : lv_has ls 3 [(0, .ref m0), (1, .int 1), (2, .int 1)] := hl
  obtain ⟨H, eH⟩ : ∃ z, z = s.heap := ⟨_, rfl⟩
  have hP : va_P (dC, dI) CL [(m0, .inr (13, m0g)), (ml, .inl (mlC, (3, .inl (fun _ => 0))))] H := by rw [eH]; exact hP
  have hS : va_S A s.heap H [] := by rw [eH]; exact hS
  rw [← eH]
  refine lv_aload_n hx hb dX13_isThere_0 rfl (lv_at hl 0 rfl) ?_
  refine lv_iload_n hx hb dX13_isThere_1 rfl (lv_at hl 1 rfl) ?_
  refine lv_iconst (v := 0) hx hb dX13_isThere_2 (by decide +kernel) ?_
  refine lv_iconst (v := 2) hx hb dX13_isThere_3 (by decide +kernel) ?_
  have hFc := va_free (wc := [(m0, .inr (13, m0g)), (ml, .inl (mlC, (3, .inl (fun _ => 0))))]) hD hS hA [0, 1] rfl
  refine va_calli (va_runS (As := [.int 1, .int 0, .int 2]) (rest := [.ref m0]) ⟨hx, hb, hml, hown, hts⟩ (gx54_X13_within l hlt dC dI _ m0 ml md mch m0g h_m0 mlC) (cwS 3 hts (gi_S wd_3825 wd_3826 wd_340 wd_3827) rfl rfl rfl (by decide +kernel) ⟨(Nat.le_of_ble_eq_true rfl), (Nat.le_of_ble_eq_true rfl)⟩) ⟨fun a U g mk q => by obtain ⟨q0, q1, qP, qK, qD, qT⟩ := q; exact ⟨q0, q1, qP, va_K.moved (u := U) (U := U.calling g mk a) (Vm.Alike.refl U.vm) qK, qD, th.moved (u := U) (U := U.calling g mk a) (Vm.Alike.refl U.vm) qT⟩, fun U hU hW => ⟨rfl, by rw [hU], by rw [hU]; exact hP, va_K.moved hW.alike hK, hD.weaken (fun _ _ _ _ => trivial), by rw [hU]; exact ((hth.kept hS.2.1).narrow hFc).moved hW.alike⟩⟩ rfl rfl hl.1 rfl (lv_room (Nat.le_of_ble_eq_true rfl)) dX13_isThere_4 ⟨(Nat.le_of_ble_eq_true rfl), (Nat.le_of_ble_eq_true rfl)⟩) hS (fun q _ h => hFc q h) hFc (fun r u t H1 locs ht hvm hw hB hz1 hk1 hS => ?_)
  subst hw
  obtain ⟨fs_1, h_m0, hP1, hK1, hD1⟩ := hB
  rw [ht] at hP1
  have hD := hD1.weaken (fun k q _ h => hFc q.1 h)
  have hP := hP1
  generalize H1 = H at hP hS ⊢
  have hP : va_P (dC, dI) CL [(m0, .inr (13, fs_1)), (ml, .inl (mlC, (3, .inl (fun _ => 0))))] H := hP
  have hD : va_D A [(m0, .inr (13, fs_1)), (ml, .inl (mlC, (3, .inl (fun _ => 0))))] := hD
  refine lv_if_eq (tgt := 14) hx hb dX13_isThere_7 (by decide) (fun c9 => ?_) (fun c9 => ?_)
  · first | exact absurd c9 (by decide +kernel) | exact absurd (by decide +kernel) c9
  refine lv_iconst (v := 0) hx hb dX13_isThere_10 (by decide +kernel) ?_
  refine lv_goto (tgt := 15) hx hb dX13_isThere_11 (by decide) ?_
  refine va_put (D := (dC, dI)) (ci := 13) (v := .int 0) (ty := tyX13 0) (C := RX13) (T := TX13) (N := 225) hx hb hts inX13 tyX13 tyX13_ok nmX13 hown hK hP hD hS 0 rfl rfl 0 (by decide) (hts (.fieldLink RX13 1 "ChipFlowModel" "code" "I") wd_3032) (fun _ h9 => h9) rfl (by decide +kernel) rfl rfl (by rw [h_m0.1]; decide) dX13_isThere_15 (fun H locs hP hD hS => ?_)
  obtain ⟨fs_2, e9⟩ : ∃ z, z = fs_1.set 0 (.int 0) := ⟨_, rfl⟩
  have h_m0 : fx fs_2 225 [(0, .int 0), (2, .int 0), (3, .int 0), (9, .int 0), (10, .int 0), (11, .int 0), (12, .int 0), (27, .int 0), (55, .ref md), (79, .int 0), (83, .int 0), (88, .ref ml), (95, .int 0), (138, .ref mch)] := by rw [e9]; exact (h_m0.put (F' := [(0, .int 0), (2, .int 0), (3, .int 0), (9, .int 0), (10, .int 0), (11, .int 0), (12, .int 0), (27, .int 0), (55, .ref md), (79, .int 0), (83, .int 0), (88, .ref ml), (95, .int 0), (138, .ref mch)]) (by decide) _ rfl).sub [0, 1, 2, 3, 4, 5, 6, 7, 8, 9, 10, 11, 12, 13] rfl
  have hP : va_P (dC, dI) CL [(m0, .inr (13, fs_2)), (ml, .inl (mlC, (3, .inl (fun _ => 0))))] H := by rw [e9]; exact hP
  have hD : va_D A [(m0, .inr (13, fs_2)), (ml, .inl (mlC, (3, .inl (fun _ => 0))))] := by rw [e9]; exact hD
  clear e9
  refine lv_aload_n hx hb dX13_isThere_18 rfl (lv_at hl 0 rfl) ?_
  refine va_get (D := (dC, dI)) (ci := 13) (v := .int 0) (C := RX13) (T := TX13) (N := 225) hx hb hts inX13 hown hK hP 0 rfl rfl 0 (by decide) (hts (.fieldLink RX13 1 "ChipFlowModel" "code" "I") wd_3032) (fun _ h9 => h9) (h_m0.get 0 rfl) dX13_isThere_19 ?_
  refine lv_if_ne (tgt := 38) hx hb dX13_isThere_22 (by decide) (fun c9 => ?_) (fun c9 => ?_)
  · first | exact absurd c9 (by decide +kernel) | exact absurd (by decide +kernel) c9
  refine lv_aload_n hx hb dX13_isThere_25 rfl (lv_at hl 0 rfl) ?_
  refine lv_iload_n hx hb dX13_isThere_26 rfl (lv_at hl 1 rfl) ?_
  refine lv_iload_n hx hb dX13_isThere_27 rfl (lv_at hl 2 rfl) ?_
  have hFc := va_free (wc := [(m0, .inr (13, fs_2)), (ml, .inl (mlC, (3, .inl (fun _ => 0))))]) hD hS hA [0, 1] rfl
  refine va_calli (va_runV (As := [.int 1, .int 1]) (rest := []) ⟨hx, hb, hml, hown, hts⟩ (gx115_X13_isOne l hlt dC dI _ m0 ml md mch fs_2 h_m0 mlC) (cwV 2 hts (gi_V wd_4072 wd_4074 wd_214 wd_340 wd_4075) rfl rfl rfl (by decide +kernel) ⟨(Nat.le_of_ble_eq_true rfl), (Nat.le_of_ble_eq_true rfl)⟩) ⟨fun a U g mk q => by obtain ⟨q0, q1, qP, qK, qD, qT⟩ := q; exact ⟨q0, q1, qP, va_K.moved (u := U) (U := U.calling g mk a) (Vm.Alike.refl U.vm) qK, qD, th.moved (u := U) (U := U.calling g mk a) (Vm.Alike.refl U.vm) qT⟩, va_recv hK hP (ci := 13) (q0 := 0) rfl rfl, fun U hU hW => ⟨rfl, by rw [hU], by rw [hU]; exact hP, va_K.moved hW.alike hK, hD.weaken (fun _ _ _ _ => trivial), by rw [hU]; exact ((hth.kept hS.2.1).narrow hFc).moved hW.alike⟩⟩ rfl rfl hl.1 rfl (lv_room (Nat.le_of_ble_eq_true rfl)) dX13_isThere_28 ⟨(Nat.le_of_ble_eq_true rfl), (Nat.le_of_ble_eq_true rfl)⟩) hS (fun q _ h => hFc q h) hFc (fun r u t H1 locs ht hvm hw hB hz1 hk1 hS => ?_)
  subst hw
  obtain ⟨fs_3, h_m0, hP1, hK1, hD1⟩ := hB
  rw [ht] at hP1
  have hD := hD1.weaken (fun k q _ h => hFc q.1 h)
  have hP := hP1
  generalize H1 = H at hP hS ⊢
  have hP : va_P (dC, dI) CL [(m0, .inr (13, fs_3)), (ml, .inl (mlC, (3, .inl (fun _ => 0))))] H := hP
  have hD : va_D A [(m0, .inr (13, fs_3)), (ml, .inl (mlC, (3, .inl (fun _ => 0))))] := hD
  refine lv_if_eq (tgt := 38) hx hb dX13_isThere_31 (by decide) (fun c9 => ?_) (fun c9 => ?_)
  rotate_left
  · first | exact absurd c9 (by decide +kernel) | exact absurd (by decide +kernel) c9
  refine lv_iconst (v := 0) hx hb dX13_isThere_38 (by decide +kernel) ?_
  exact W.zret (v := 0) hx hb hr rfl (fun t ht hW => ⟨⟨0, (), rfl, rfl, fs_3, h_m0, by rw [ht]; exact hP, va_K.moved hW.alike hK, hD⟩, hS.F ht⟩) hS.2.2 dX13_isThere_39
set_option maxHeartbeats 4000000 in
set_option maxRecDepth 100000 in
theorem gx117_X12_isThere (l : Launch) (hlt : l.stackTraces = false) (dC : Nat → ClassId) (dI : Nat → Nat → Nat) (sz : Nat) (x liA li0 li1 li2 oA deA chA : Nat) (xg : List Value) (h_x : fx xg 17 [(7, .ref deA), (8, .ref liA), (9, .ref chA)]) (liAC : ClassId) (liAF : Nat → Option Nat) (li0g : List Value) (h_li0 : fx li0g 7 [(0, .int 0)]) (li1g : List Value) (h_li1 : fx li1g 7 [(0, .int 0)]) (li2g : List Value) (h_li2 : fx li2g 7 [(0, .int 0)]) (oAC : ClassId) (oAf : Nat → Int64) (h_oA : fa oAf []) (h_liA0 : liAF 0 = some li0) (h_liA1 : liAF 1 = some li1) (h_liA2 : liAF 2 = some li2) : Met l yX12_isThere (Cond.code yX12_isThere cX12_isThere 3 (some .boolean) :: BG) ({ frames := 7, cells := 1, slots := 6, locals := 130 }) (va_Pc [.ref x, .int 1, .int 2] (fun U => U.heap.size = sz ∧ va_P (dC, dI) CL [(x, .inr (12, xg)), (liA, .inl (liAC, (3, .inr (.inr (.inr (.inr liAF)))))), (li0, .inr (5, li0g)), (li1, .inr (5, li1g)), (li2, .inr (5, li2g)), (oA, .inl (oAC, (1, .inr (.inl oAf))))] U.heap ∧ va_K (dC, dI) CL [(liAC, .object "ChipFlow$Library"), (oAC, .long)] U ∧ va_D (fun _ => True) [(x, .inr (12, xg)), (liA, .inl (liAC, (3, .inr (.inr (.inr (.inr liAF)))))), (li0, .inr (5, li0g)), (li1, .inr (5, li1g)), (li2, .inr (5, li2g)), (oA, .inl (oAC, (1, .inr (.inl oAf))))] ∧ th (va_A [(x, .inr (12, xg)), (liA, .inl (liAC, (3, .inr (.inr (.inr (.inr liAF)))))), (li0, .inr (5, li0g)), (li1, .inr (5, li1g)), (li2, .inr (5, li2g)), (oA, .inl (oAC, (1, .inr (.inl oAf))))] sz) U U.heap)) (va_Qi (fun (r : Int32) (_ : Unit) => r = 0) (fun _ t => ∃ (xy : List Value) (li0y : List Value) (li1y : List Value) (li2y : List Value) (oAy : Nat → Int64), fx xy 17 [(7, .ref deA), (8, .ref liA), (9, .ref chA)] ∧ fx li0y 7 [(0, .int 0)] ∧ fx li1y 7 [(0, .int 0)] ∧ fx li2y 7 [(0, .int 0)] ∧ fa oAy [] ∧ va_P (dC, dI) CL [(x, .inr (12, xy)), (liA, .inl (liAC, (3, .inr (.inr (.inr (.inr liAF)))))), (li0, .inr (5, li0y)), (li1, .inr (5, li1y)), (li2, .inr (5, li2y)), (oA, .inl (oAC, (1, .inr (.inl oAy))))] t.heap ∧ va_K (dC, dI) CL [(liAC, .object "ChipFlow$Library"), (oAC, .long)] t ∧ va_D (va_A [(x, .inr (12, xg)), (liA, .inl (liAC, (3, .inr (.inr (.inr (.inr liAF)))))), (li0, .inr (5, li0g)), (li1, .inr (5, li1g)), (li2, .inr (5, li2g)), (oA, .inl (oAC, (1, .inr (.inl oAf))))] sz) [(x, .inr (12, xy)), (liA, .inl (liAC, (3, .inr (.inr (.inr (.inr liAF)))))), (li0, .inr (5, li0y)), (li1, .inr (5, li1y)), (li2, .inr (5, li2y)), (oA, .inl (oAC, (1, .inr (.inl oAy))))]) (va_A [(x, .inr (12, xg)), (liA, .inl (liAC, (3, .inr (.inr (.inr (.inr liAF)))))), (li0, .inr (5, li0g)), (li1, .inr (5, li1g)), (li2, .inr (5, li2g)), (oA, .inl (oAC, (1, .inr (.inl oAf))))] sz)) 1 6 (va_A [(x, .inr (12, xg)), (liA, .inl (liAC, (3, .inr (.inr (.inr (.inr liAF)))))), (li0, .inr (5, li0g)), (li1, .inr (5, li1g)), (li2, .inr (5, li2g)), (oA, .inl (oAC, (1, .inr (.inl oAf))))] sz) := by
  refine Met.ofW (cc := cX12_isThere) (maxL := 3) (ret := (some .boolean)) (by decide) rfl ?_
  intro p e s m args below meth c s₁ B hml hv
  obtain ⟨rfl, hsz, hP, hK, hD0, hth⟩ := hv
  have hx := B.exec
  have hb := B.bytes
  have hr := B.returns
  have hts : ∀ w ∈ BG, w.before _ s = true := fun w h => atoms_spec (ws := Cond.code yX12_isThere cX12_isThere 3 (some .boolean) :: BG) B.pre w (List.mem_cons_of_mem _ h)
  have hown : s.vm.findClass RX12 = some m.cls := findClass_of_methodNamed B.named
  have hlocks := B.notSynchronized
  subst hsz
  have hD := hD0.self (sz := s.heap.size)
  generalize hAe : va_A [(x, .inr (12, xg)), (liA, .inl (liAC, (3, .inr (.inr (.inr (.inr liAF)))))), (li0, .inr (5, li0g)), (li1, .inr (5, li1g)), (li2, .inr (5, li2g)), (oA, .inl (oAC, (1, .inr (.inl oAf))))] s.heap.size = A at hD hth ⊢
  have hA : ∀ q : Nat, s.heap.size ≤ q → A q := fun q h => by rw [← hAe]; exact Or.inr h
  have hS : va_S A s.heap s.heap [] := va_S.rf
  have hl := lv_entry ([.ref x, .int 1, .int 2]) (n := 3) (Nat.le_of_ble_eq_true rfl)
  rw [lg_entry_eq]
  generalize (lg_sl ([.ref x, .int 1, .int 2]) ++ List.replicate (3 - (lg_sl ([.ref x, .int 1, .int 2])).length) Slot.unset).toArray = ls at hl ⊢
  have hl : lv_has ls 3 [(0, .ref x), (1, .int 1), (2, .int 2)] := hl
  obtain ⟨H, eH⟩ : ∃ z, z = s.heap := ⟨_, rfl⟩
  have hP : va_P (dC, dI) CL [(x, .inr (12, xg)), (liA, .inl (liAC, (3, .inr (.inr (.inr (.inr liAF)))))), (li0, .inr (5, li0g)), (li1, .inr (5, li1g)), (li2, .inr (5, li2g)), (oA, .inl (oAC, (1, .inr (.inl oAf))))] H := by rw [eH]; exact hP
  have hS : va_S A s.heap H [] := by rw [eH]; exact hS
  rw [← eH]
  refine lv_iload_n hx hb dX12_isThere_0 rfl (lv_at hl 1 rfl) ?_
  refine lv_if_lt (tgt := 13) hx hb dX12_isThere_1 (by decide) (fun c9 => ?_) (fun c9 => ?_)
  · first | exact absurd c9 (by decide +kernel) | exact absurd (by decide +kernel) c9
  refine lv_iload_n hx hb dX12_isThere_4 rfl (lv_at hl 1 rfl) ?_
  refine lv_iconst (v := 2) hx hb dX12_isThere_5 (by decide +kernel) ?_
  refine lv_icmp_gt (tgt := 13) hx hb dX12_isThere_6 (by decide) (fun c9 => ?_) (fun c9 => ?_)
  · first | exact absurd c9 (by decide +kernel) | exact absurd (by decide +kernel) c9
  refine lv_iconst (v := 1) hx hb dX12_isThere_9 (by decide +kernel) ?_
  refine lv_goto (tgt := 14) hx hb dX12_isThere_10 (by decide) ?_
  have hF0 : ∀ q, va_A [] H.size q → A q := fun q h => h.elim (fun ⟨k9, e9, h9⟩ => by simp at h9) (fun h9 => hA q (Nat.le_trans hS.1 h9))
  refine vx_callv (vx_runS (As := [.int 1]) (rest := []) ⟨hx, hb, hml, hown, hts⟩ (ct_X12_needRange l hlt H.size 1) (cwS 1 hts (gi_S wd_1328 wd_1329 wd_327 wd_1330) rfl rfl rfl (by decide +kernel) ⟨(Nat.le_of_ble_eq_true rfl), (Nat.le_of_ble_eq_true rfl)⟩) ⟨fun a U g mk q => ⟨q.1, q.2.1, th.moved (u := U) (U := U.calling g mk a) (Vm.Alike.refl U.vm) q.2.2⟩, fun U hU hW => ⟨rfl, by rw [hU], by rw [hU]; exact ((hth.kept hS.2.1).narrow hF0).moved hW.alike⟩⟩ rfl rfl hl.1 rfl (lv_room (Nat.le_of_ble_eq_true rfl)) dX12_isThere_14 ⟨(Nat.le_of_ble_eq_true rfl), (Nat.le_of_ble_eq_true rfl)⟩) hS (fun q _ h => hF0 q h) hF0 (fun q _ h => hF0 q h) (fun E ce q9 u t H1 locs ht hvm hp hB hz hk hS hce hcv hcl => absurd hp (by decide +kernel)) (fun u t H1 locs ht hvm hp hB hz hk hS => ?_)
  have hP : va_P (dC, dI) CL [(x, .inr (12, xg)), (liA, .inl (liAC, (3, .inr (.inr (.inr (.inr liAF)))))), (li0, .inr (5, li0g)), (li1, .inr (5, li1g)), (li2, .inr (5, li2g)), (oA, .inl (oAC, (1, .inr (.inl oAf))))] H1 := hP.kept (fun k q h9 => hk _ (vx_lt hP h9) (fun h8 => h8.elim (fun ⟨k9, e9, h7⟩ => by simp at h7) (fun h7 => absurd (vx_lt hP h9) (Nat.not_lt.mpr h7))))
  generalize H1 = H at hP hS ⊢
  refine W.widen (k := 1) (n := 6) (Nat.le_of_ble_eq_true rfl) (Nat.le_of_ble_eq_true rfl) ?_
  refine lv_iload_n hx hb dX12_isThere_17 rfl (lv_at hl 1 rfl) ?_
  refine lv_if_ne (tgt := 49) hx hb dX12_isThere_18 (by decide) (fun c9 => ?_) (fun c9 => ?_)
  rotate_left
  · first | exact absurd c9 (by decide +kernel) | exact absurd (by decide +kernel) c9
  refine lv_iload_n hx hb dX12_isThere_49 rfl (lv_at hl 1 rfl) ?_
  refine lv_iconst (v := 1) hx hb dX12_isThere_50 (by decide +kernel) ?_
  refine lv_icmp_ne (tgt := 81) hx hb dX12_isThere_51 (by decide) (fun c9 => ?_) (fun c9 => ?_)
  · first | exact absurd c9 (by decide +kernel) | exact absurd (by decide +kernel) c9
  refine lv_iload_n hx hb dX12_isThere_54 rfl (lv_at hl 2 rfl) ?_
  refine lv_if_lt (tgt := 79) hx hb dX12_isThere_55 (by decide) (fun c9 => ?_) (fun c9 => ?_)
  · first | exact absurd c9 (by decide +kernel) | exact absurd (by decide +kernel) c9
  refine lv_iload_n hx hb dX12_isThere_58 rfl (lv_at hl 2 rfl) ?_
  refine lv_iconst (v := 3) hx hb dX12_isThere_59 (by decide +kernel) ?_
  refine lv_icmp_ge (tgt := 79) hx hb dX12_isThere_60 (by decide) (fun c9 => ?_) (fun c9 => ?_)
  · first | exact absurd c9 (by decide +kernel) | exact absurd (by decide +kernel) c9
  refine lv_aload_n hx hb dX12_isThere_63 rfl (lv_at hl 0 rfl) ?_
  refine va_get (D := (dC, dI)) (ci := 12) (v := .ref liA) (C := RX12) (T := TX12) (N := 17) hx hb hts inX12 hown hK hP 0 rfl rfl 8 (by decide) (hts (.fieldLink RX12 71 "ChipFlow" "libraries" "[LChipFlow$Library;") wd_1186) (fun _ h9 => h9) (h_x.get 1 rfl) dX12_isThere_64 ?_
  refine lv_iload_n hx hb dX12_isThere_67 rfl (lv_at hl 2 rfl) ?_
  refine va_aldq hx hb hK hP 1 0 rfl rfl (vp_in_nI (n := 2) (N := 3) (by decide) (by decide)) dX12_isThere_68 ?_
  rw [show (2 : Int32).toNatClampNeg = 2 by decide +kernel, h_liA2]
  refine W.eq (g2 := F0 m 69 ls [.ref li2]) rfl ?_
  refine va_get (D := (dC, dI)) (ci := 5) (v := .int 0) (C := RX5) (T := TX5) (N := 7) hx hb hts inX5 hown hK hP 4 rfl rfl 0 (by decide) (hts (.fieldLink RX12 156 "ChipFlow$Library" "used" "Z") wd_855) (fun _ h9 => h9) (h_li2.get 0 rfl) dX12_isThere_69 ?_
  refine lv_if_eq (tgt := 79) hx hb dX12_isThere_72 (by decide) (fun c9 => ?_) (fun c9 => ?_)
  rotate_left
  · first | exact absurd c9 (by decide +kernel) | exact absurd (by decide +kernel) c9
  refine lv_iconst (v := 0) hx hb dX12_isThere_79 (by decide +kernel) ?_
  refine W.widen (k := 1) (n := 6) (Nat.le_of_ble_eq_true rfl) (Nat.le_of_ble_eq_true rfl) ?_
  exact W.zret (v := 0) hx hb hr rfl (fun t ht hW => ⟨⟨0, (), rfl, rfl, xg, li0g, li1g, li2g, oAf, h_x, h_li0, h_li1, h_li2, h_oA, by rw [ht]; exact hP, va_K.moved hW.alike hK, hD⟩, hS.F ht⟩) hS.2.2 dX12_isThere_80
set_option maxHeartbeats 4000000 in
set_option maxRecDepth 100000 in
theorem gx116_L_isThere (l : Launch) (hlt : l.stackTraces = false) (dC : Nat → ClassId) (dI : Nat → Nat → Nat) (sz : Nat) (x liA li0 li1 li2 oA deA chA : Nat) (xg : List Value) (h_x : fx xg 17 [(7, .ref deA), (8, .ref liA), (9, .ref chA)]) (liAC : ClassId) (liAF : Nat → Option Nat) (li0g : List Value) (h_li0 : fx li0g 7 [(0, .int 0)]) (li1g : List Value) (h_li1 : fx li1g 7 [(0, .int 0)]) (li2g : List Value) (h_li2 : fx li2g 7 [(0, .int 0)]) (oAC : ClassId) (oAf : Nat → Int64) (h_oA : fa oAf []) (h_liA0 : liAF 0 = some li0) (h_liA1 : liAF 1 = some li1) (h_liA2 : liAF 2 = some li2) : Met l yL_isThere (Cond.codeWith yL_isThere cL_isThere 5 (some .int) [(0, 17, 20, 19)] :: BG) ({ frames := 8, cells := 1, slots := 6, locals := 152 }) (va_Pc [.ref x, .int 1, .int 2, .ref oA] (fun U => U.heap.size = sz ∧ va_P (dC, dI) CL [(x, .inr (12, xg)), (liA, .inl (liAC, (3, .inr (.inr (.inr (.inr liAF)))))), (li0, .inr (5, li0g)), (li1, .inr (5, li1g)), (li2, .inr (5, li2g)), (oA, .inl (oAC, (1, .inr (.inl oAf))))] U.heap ∧ va_K (dC, dI) CL [(liAC, .object "ChipFlow$Library"), (oAC, .long)] U ∧ va_D (fun _ => True) [(x, .inr (12, xg)), (liA, .inl (liAC, (3, .inr (.inr (.inr (.inr liAF)))))), (li0, .inr (5, li0g)), (li1, .inr (5, li1g)), (li2, .inr (5, li2g)), (oA, .inl (oAC, (1, .inr (.inl oAf))))] ∧ th (va_A [(x, .inr (12, xg)), (liA, .inl (liAC, (3, .inr (.inr (.inr (.inr liAF)))))), (li0, .inr (5, li0g)), (li1, .inr (5, li1g)), (li2, .inr (5, li2g)), (oA, .inl (oAC, (1, .inr (.inl oAf))))] sz) U U.heap)) (va_Qi (fun (r : Int32) (_ : Unit) => r = 0) (fun _ t => ∃ (xy : List Value) (li0y : List Value) (li1y : List Value) (li2y : List Value) (oAy : Nat → Int64), fx xy 17 [(7, .ref deA), (8, .ref liA), (9, .ref chA)] ∧ fx li0y 7 [(0, .int 0)] ∧ fx li1y 7 [(0, .int 0)] ∧ fx li2y 7 [(0, .int 0)] ∧ fa oAy [(0, 0)] ∧ va_P (dC, dI) CL [(x, .inr (12, xy)), (liA, .inl (liAC, (3, .inr (.inr (.inr (.inr liAF)))))), (li0, .inr (5, li0y)), (li1, .inr (5, li1y)), (li2, .inr (5, li2y)), (oA, .inl (oAC, (1, .inr (.inl oAy))))] t.heap ∧ va_K (dC, dI) CL [(liAC, .object "ChipFlow$Library"), (oAC, .long)] t ∧ va_D (va_A [(x, .inr (12, xg)), (liA, .inl (liAC, (3, .inr (.inr (.inr (.inr liAF)))))), (li0, .inr (5, li0g)), (li1, .inr (5, li1g)), (li2, .inr (5, li2g)), (oA, .inl (oAC, (1, .inr (.inl oAf))))] sz) [(x, .inr (12, xy)), (liA, .inl (liAC, (3, .inr (.inr (.inr (.inr liAF)))))), (li0, .inr (5, li0y)), (li1, .inr (5, li1y)), (li2, .inr (5, li2y)), (oA, .inl (oAC, (1, .inr (.inl oAy))))]) (va_A [(x, .inr (12, xg)), (liA, .inl (liAC, (3, .inr (.inr (.inr (.inr liAF)))))), (li0, .inr (5, li0g)), (li1, .inr (5, li1g)), (li2, .inr (5, li2g)), (oA, .inl (oAC, (1, .inr (.inl oAf))))] sz)) 1 6 (va_A [(x, .inr (12, xg)), (liA, .inl (liAC, (3, .inr (.inr (.inr (.inr liAF)))))), (li0, .inr (5, li0g)), (li1, .inr (5, li1g)), (li2, .inr (5, li2g)), (oA, .inl (oAC, (1, .inr (.inl oAf))))] sz) := by
  refine va_MetW (hh := [(0, 17, 20, 19)]) (cc := cL_isThere) (maxL := 5) (ret := (some .int)) (by decide) rfl ?_
  intro p e s m args below meth c s₁ B hml hv
  obtain ⟨rfl, hsz, hP, hK, hD0, hth⟩ := hv
  have hx := B.exec
  have hb := B.bytes
  have hr := B.returns
  have hts : ∀ w ∈ BG, w.before _ s = true := fun w h => atoms_spec (ws := Cond.codeWith yL_isThere cL_isThere 5 (some .int) [(0, 17, 20, 19)] :: BG) B.pre w (List.mem_cons_of_mem _ h)
  have hown : s.vm.findClass RL = some m.cls := findClass_of_methodNamed B.named
  have hlocks := B.notSynchronized
  subst hsz
  have hD := hD0.self (sz := s.heap.size)
  generalize hAe : va_A [(x, .inr (12, xg)), (liA, .inl (liAC, (3, .inr (.inr (.inr (.inr liAF)))))), (li0, .inr (5, li0g)), (li1, .inr (5, li1g)), (li2, .inr (5, li2g)), (oA, .inl (oAC, (1, .inr (.inl oAf))))] s.heap.size = A at hD hth ⊢
  have hA : ∀ q : Nat, s.heap.size ≤ q → A q := fun q h => by rw [← hAe]; exact Or.inr h
  have hS : va_S A s.heap s.heap [] := va_S.rf
  have hl := lv_entry ([.ref x, .int 1, .int 2, .ref oA]) (n := 5) (Nat.le_of_ble_eq_true rfl)
  rw [lg_entry_eq]
  generalize (lg_sl ([.ref x, .int 1, .int 2, .ref oA]) ++ List.replicate (5 - (lg_sl ([.ref x, .int 1, .int 2, .ref oA])).length) Slot.unset).toArray = ls at hl ⊢
  have hl : lv_has ls 5 [(0, .ref x), (1, .int 1), (2, .int 2), (3, .ref oA)] := hl
  obtain ⟨H, eH⟩ : ∃ z, z = s.heap := ⟨_, rfl⟩
  have hP : va_P (dC, dI) CL [(x, .inr (12, xg)), (liA, .inl (liAC, (3, .inr (.inr (.inr (.inr liAF)))))), (li0, .inr (5, li0g)), (li1, .inr (5, li1g)), (li2, .inr (5, li2g)), (oA, .inl (oAC, (1, .inr (.inl oAf))))] H := by rw [eH]; exact hP
  have hS : va_S A s.heap H [] := by rw [eH]; exact hS
  rw [← eH]
  have hT : c.exceptionTable.toList = tableOf [(0, 17, 20, 19)] := vx_table (x := yL_isThere) B (atoms_spec (ws := Cond.codeWith yL_isThere cL_isThere 5 (some .int) [(0, 17, 20, 19)] :: BG) B.pre _ List.mem_cons_self)
  refine lv_aload_n hx hb dL_isThere_0 rfl (lv_at hl 3 rfl) ?_
  refine lv_iconst (v := 0) hx hb dL_isThere_1 (by decide +kernel) ?_
  refine lv_aload_n hx hb dL_isThere_2 rfl (lv_at hl 0 rfl) ?_
  refine lv_iload_n hx hb dL_isThere_3 rfl (lv_at hl 1 rfl) ?_
  refine lv_iload_n hx hb dL_isThere_4 rfl (lv_at hl 2 rfl) ?_
  have hFc := va_free (wc := [(x, .inr (12, xg)), (liA, .inl (liAC, (3, .inr (.inr (.inr (.inr liAF)))))), (li0, .inr (5, li0g)), (li1, .inr (5, li1g)), (li2, .inr (5, li2g)), (oA, .inl (oAC, (1, .inr (.inl oAf))))]) hD hS hA [0, 1, 2, 3, 4, 5] rfl
  refine va_calli (va_runV (As := [.int 1, .int 2]) (rest := [.int 0, .ref oA]) ⟨hx, hb, hml, hown, hts⟩ (gx117_X12_isThere l hlt dC dI _ x liA li0 li1 li2 oA deA chA xg h_x liAC liAF li0g h_li0 li1g h_li1 li2g h_li2 oAC oAf h_oA h_liA0 h_liA1 h_liA2) (cwV 2 hts (gi_V wd_1842 wd_1843 wd_1844 wd_327 wd_1845) rfl rfl rfl (by decide +kernel) ⟨(Nat.le_of_ble_eq_true rfl), (Nat.le_of_ble_eq_true rfl)⟩) ⟨fun a U g mk q => by obtain ⟨q0, q1, qP, qK, qD, qT⟩ := q; exact ⟨q0, q1, qP, va_K.moved (u := U) (U := U.calling g mk a) (Vm.Alike.refl U.vm) qK, qD, th.moved (u := U) (U := U.calling g mk a) (Vm.Alike.refl U.vm) qT⟩, va_recv hK hP (ci := 12) (q0 := 0) rfl rfl, fun U hU hW => ⟨rfl, by rw [hU], by rw [hU]; exact hP, va_K.moved hW.alike hK, hD.weaken (fun _ _ _ _ => trivial), by rw [hU]; exact ((hth.kept hS.2.1).narrow hFc).moved hW.alike⟩⟩ rfl rfl hl.1 rfl (lv_room (Nat.le_of_ble_eq_true rfl)) dL_isThere_5 ⟨(Nat.le_of_ble_eq_true rfl), (Nat.le_of_ble_eq_true rfl)⟩) hS (fun q _ h => hFc q h) hFc (fun r u t H1 locs ht hvm hw hB hz1 hk1 hS => ?_)
  subst hw
  obtain ⟨fs_1, fs_2, fs_3, fs_4, f_5, h_x, h_li0, h_li1, h_li2, h_oA, hP1, hK1, hD1⟩ := hB
  rw [ht] at hP1
  have hD := hD1.weaken (fun k q _ h => hFc q.1 h)
  have hP := hP1
  generalize H1 = H at hP hS ⊢
  have hP : va_P (dC, dI) CL [(x, .inr (12, fs_1)), (liA, .inl (liAC, (3, .inr (.inr (.inr (.inr liAF)))))), (li0, .inr (5, fs_2)), (li1, .inr (5, fs_3)), (li2, .inr (5, fs_4)), (oA, .inl (oAC, (1, .inr (.inl f_5))))] H := hP
  have hD : va_D A [(x, .inr (12, fs_1)), (liA, .inl (liAC, (3, .inr (.inr (.inr (.inr liAF)))))), (li0, .inr (5, fs_2)), (li1, .inr (5, fs_3)), (li2, .inr (5, fs_4)), (oA, .inl (oAC, (1, .inr (.inl f_5))))] := hD
  refine W.widen (k := 1) (n := 6) (Nat.le_of_ble_eq_true rfl) (Nat.le_of_ble_eq_true rfl) ?_
  refine lv_if_eq (tgt := 15) hx hb dL_isThere_8 (by decide) (fun c9 => ?_) (fun c9 => ?_)
  rotate_left
  · first | exact absurd c9 (by decide +kernel) | exact absurd (by decide +kernel) c9
  refine lv_lconst (v := 0) hx hb dL_isThere_15 (by decide) ?_
  refine va_last hx hb hK hP hD hS 5 1 rfl rfl (vp_in_nI (n := 0) (N := 1) (by decide) (by decide)) dL_isThere_16 (fun H locs hP hD hS => ?_)
  obtain ⟨f_6, e9⟩ : ∃ z, z = vp_updL f_5 (0 : Int32).toNatClampNeg 0 := ⟨_, rfl⟩
  have h_oA : fa f_6 [(0, 0)] := by rw [e9, show (0 : Int32).toNatClampNeg = 0 by decide +kernel]; exact (fa.putL h_oA).sub [0] rfl
  have hP : va_P (dC, dI) CL [(x, .inr (12, fs_1)), (liA, .inl (liAC, (3, .inr (.inr (.inr (.inr liAF)))))), (li0, .inr (5, fs_2)), (li1, .inr (5, fs_3)), (li2, .inr (5, fs_4)), (oA, .inl (oAC, (1, .inr (.inl f_6))))] H := by rw [e9]; exact hP
  have hD : va_D A [(x, .inr (12, fs_1)), (liA, .inl (liAC, (3, .inr (.inr (.inr (.inr liAF)))))), (li0, .inr (5, fs_2)), (li1, .inr (5, fs_3)), (li2, .inr (5, fs_4)), (oA, .inl (oAC, (1, .inr (.inl f_6))))] := by rw [e9]; exact hD
  clear e9
  refine lv_goto (tgt := 24) hx hb dL_isThere_17 (by decide) ?_
  refine lv_iconst (v := 0) hx hb dL_isThere_24 (by decide +kernel) ?_
  refine W.widen (k := 1) (n := 6) (Nat.le_of_ble_eq_true rfl) (Nat.le_of_ble_eq_true rfl) ?_
  exact W.iret (v := 0) hx hb hr (fun t ht hW => ⟨⟨0, (), rfl, rfl, fs_1, fs_2, fs_3, fs_4, f_6, h_x, h_li0, h_li1, h_li2, h_oA, by rw [ht]; exact hP, va_K.moved hW.alike hK, hD⟩, hS.F ht⟩) hS.2.2 dL_isThere_25
set_option maxHeartbeats 4000000 in
set_option maxRecDepth 100000 in
theorem gx119_X13_isOne (l : Launch) (hlt : l.stackTraces = false) (dC : Nat → ClassId) (dI : Nat → Nat → Nat) (sz : Nat) (m0 ml md mch : Nat) (m0g : List Value) (h_m0 : fx m0g 225 [(0, .int 0), (2, .int 0), (3, .int 0), (9, .int 0), (10, .int 0), (11, .int 0), (12, .int 0), (27, .int 0), (55, .ref md), (79, .int 0), (83, .int 0), (88, .ref ml), (95, .int 0), (138, .ref mch)]) (mlC : ClassId) : Met l yX13_isOne (Cond.code yX13_isOne cX13_isOne 3 (some .boolean) :: BG) ({ frames := 2, cells := 0, slots := 0, locals := 33 }) (va_Pc [.ref m0, .int 1, .int 2] (fun U => U.heap.size = sz ∧ va_P (dC, dI) CL [(m0, .inr (13, m0g)), (ml, .inl (mlC, (3, .inl (fun _ => 0))))] U.heap ∧ va_K (dC, dI) CL [(mlC, .boolean)] U ∧ va_D (fun _ => True) [(m0, .inr (13, m0g)), (ml, .inl (mlC, (3, .inl (fun _ => 0))))] ∧ th (va_A [(m0, .inr (13, m0g)), (ml, .inl (mlC, (3, .inl (fun _ => 0))))] sz) U U.heap)) (va_Qi (fun (r : Int32) (_ : Unit) => r = 0) (fun _ t => ∃ (m0y : List Value), fx m0y 225 [(0, .int 0), (2, .int 0), (3, .int 0), (9, .int 0), (10, .int 0), (11, .int 0), (12, .int 0), (27, .int 0), (55, .ref md), (79, .int 0), (83, .int 0), (88, .ref ml), (95, .int 0), (138, .ref mch)] ∧ va_P (dC, dI) CL [(m0, .inr (13, m0y)), (ml, .inl (mlC, (3, .inl (fun _ => 0))))] t.heap ∧ va_K (dC, dI) CL [(mlC, .boolean)] t ∧ va_D (va_A [(m0, .inr (13, m0g)), (ml, .inl (mlC, (3, .inl (fun _ => 0))))] sz) [(m0, .inr (13, m0y)), (ml, .inl (mlC, (3, .inl (fun _ => 0))))]) (va_A [(m0, .inr (13, m0g)), (ml, .inl (mlC, (3, .inl (fun _ => 0))))] sz)) 0 0 (va_A [(m0, .inr (13, m0g)), (ml, .inl (mlC, (3, .inl (fun _ => 0))))] sz) := by
  refine Met.ofW (cc := cX13_isOne) (maxL := 3) (ret := (some .boolean)) (by decide) rfl ?_
  intro p e s m args below meth c s₁ B hml hv
  obtain ⟨rfl, hsz, hP, hK, hD0, hth⟩ := hv
  have hx := B.exec
  have hb := B.bytes
  have hr := B.returns
  have hts : ∀ w ∈ BG, w.before _ s = true := fun w h => atoms_spec (ws := Cond.code yX13_isOne cX13_isOne 3 (some .boolean) :: BG) B.pre w (List.mem_cons_of_mem _ h)
  have hown : s.vm.findClass RX13 = some m.cls := findClass_of_methodNamed B.named
  have hlocks := B.notSynchronized
  subst hsz
  have hD := hD0.self (sz := s.heap.size)
  generalize hAe : va_A [(m0, .inr (13, m0g)), (ml, .inl (mlC, (3, .inl (fun _ => 0))))] s.heap.size = A at hD hth ⊢
  have hA : ∀ q : Nat, s.heap.size ≤ q → A q := fun q h => by rw [← hAe]; exact Or.inr h
  have hS : va_S A s.heap s.heap [] := va_S.rf
  have hl := lv_entry ([.ref m0, .int 1, .int 2]) (n := 3) (Nat.le_of_ble_eq_true rfl)
  rw [lg_entry_eq]
  generalize (lg_sl ([.ref m0, .int 1, .int 2]) ++ List.replicate (3 - (lg_sl ([.ref m0, .int 1, .int 2])).length) Slot.unset).toArray = ls at hl ⊢
  have hl : lv_has ls 3 [(0, .ref m0), (1, .int 1), (2, .int 2)] := hl
  obtain ⟨H, eH⟩ : ∃ z, z = s.heap := ⟨_, rfl⟩
  have hP : va_P (dC, dI) CL [(m0, .inr (13, m0g)), (ml, .inl (mlC, (3, .inl (fun _ => 0))))] H := by rw [eH]; exact hP
  have hS : va_S A s.heap H [] := by rw [eH]; exact hS
  rw [← eH]
  refine lv_iload_n hx hb dX13_isOne_0 rfl (lv_at hl 1 rfl) ?_
  refine lv_if_ne (tgt := 12) hx hb dX13_isOne_1 (by decide) (fun c9 => ?_) (fun c9 => ?_)
  rotate_left
  · first | exact absurd c9 (by decide +kernel) | exact absurd (by decide +kernel) c9
  refine lv_iload_n hx hb dX13_isOne_12 rfl (lv_at hl 1 rfl) ?_
  refine lv_iconst (v := 1) hx hb dX13_isOne_13 (by decide +kernel) ?_
  refine lv_icmp_ne (tgt := 25) hx hb dX13_isOne_14 (by decide) (fun c9 => ?_) (fun c9 => ?_)
  · first | exact absurd c9 (by decide +kernel) | exact absurd (by decide +kernel) c9
  refine lv_aload_n hx hb dX13_isOne_17 rfl (lv_at hl 0 rfl) ?_
  refine lv_iload_n hx hb dX13_isOne_18 rfl (lv_at hl 2 rfl) ?_
  have hFc := va_free (wc := [(m0, .inr (13, m0g)), (ml, .inl (mlC, (3, .inl (fun _ => 0))))]) hD hS hA [0, 1] rfl
  refine va_calli (va_runV (As := [.int 2]) (rest := []) ⟨hx, hb, hml, hown, hts⟩ (ct_X13_isLibrary l dC dI _ 2 m0 m0g ml mlC (h_m0.sub [11] rfl)) (cwV 1 hts (gi_V wd_4080 wd_4082 wd_216 wd_340 wd_4083) rfl rfl rfl (by decide +kernel) ⟨(Nat.le_of_ble_eq_true rfl), (Nat.le_of_ble_eq_true rfl)⟩) ⟨fun a U g mk q => by obtain ⟨q0, q1, qP, qK, qD⟩ := q; exact ⟨q0, q1, qP, va_K.moved (u := U) (U := U.calling g mk a) (Vm.Alike.refl U.vm) qK, qD⟩, va_recv hK hP (ci := 13) (q0 := 0) rfl rfl, fun U hU hW => ⟨rfl, by rw [hU], by rw [hU]; exact hP, va_K.moved hW.alike hK, hD.weaken (fun _ _ _ _ => trivial)⟩⟩ rfl rfl hl.1 rfl (lv_room (Nat.le_of_ble_eq_true rfl)) dX13_isOne_19 ⟨(Nat.le_of_ble_eq_true rfl), (Nat.le_of_ble_eq_true rfl)⟩) hS (fun q _ h => hFc q h) hFc (fun r u t H1 locs ht hvm hw hB hz1 hk1 hS => ?_)
  subst hw
  obtain ⟨hP1, hK1, hD1⟩ := hB
  rw [ht] at hP1
  have hD := hD1.weaken (fun k q _ h => hFc q.1 h)
  have hP := hP1
  generalize H1 = H at hP hS ⊢
  have hP : va_P (dC, dI) CL [(m0, .inr (13, m0g)), (ml, .inl (mlC, (3, .inl (fun _ => 0))))] H := hP
  have hD : va_D A [(m0, .inr (13, m0g)), (ml, .inl (mlC, (3, .inl (fun _ => 0))))] := hD
  refine lv_goto (tgt := 30) hx hb dX13_isOne_22 (by decide) ?_
  exact W.zret (v := 0) hx hb hr rfl (fun t ht hW => ⟨⟨0, (), rfl, rfl, m0g, h_m0, by rw [ht]; exact hP, va_K.moved hW.alike hK, hD⟩, hS.F ht⟩) hS.2.2 dX13_isOne_30
set_option maxHeartbeats 4000000 in
set_option maxRecDepth 100000 in
theorem gx118_X13_isThere (l : Launch) (hlt : l.stackTraces = false) (dC : Nat → ClassId) (dI : Nat → Nat → Nat) (sz : Nat) (m0 ml md mch : Nat) (m0g : List Value) (h_m0 : fx m0g 225 [(0, .int 0), (2, .int 0), (3, .int 0), (9, .int 0), (10, .int 0), (11, .int 0), (12, .int 0), (27, .int 0), (55, .ref md), (79, .int 0), (83, .int 0), (88, .ref ml), (95, .int 0), (138, .ref mch)]) (mlC : ClassId) : Met l yX13_isThere (Cond.code yX13_isThere cX13_isThere 3 (some .boolean) :: BG) ({ frames := 3, cells := 0, slots := 0, locals := 55 }) (va_Pc [.ref m0, .int 1, .int 2] (fun U => U.heap.size = sz ∧ va_P (dC, dI) CL [(m0, .inr (13, m0g)), (ml, .inl (mlC, (3, .inl (fun _ => 0))))] U.heap ∧ va_K (dC, dI) CL [(mlC, .boolean)] U ∧ va_D (fun _ => True) [(m0, .inr (13, m0g)), (ml, .inl (mlC, (3, .inl (fun _ => 0))))] ∧ th (va_A [(m0, .inr (13, m0g)), (ml, .inl (mlC, (3, .inl (fun _ => 0))))] sz) U U.heap)) (va_Qi (fun (r : Int32) (_ : Unit) => r = 0) (fun _ t => ∃ (m0y : List Value), fx m0y 225 [(0, .int 0), (2, .int 0), (3, .int 0), (9, .int 0), (10, .int 0), (11, .int 0), (12, .int 0), (27, .int 0), (55, .ref md), (79, .int 0), (83, .int 0), (88, .ref ml), (95, .int 0), (138, .ref mch)] ∧ va_P (dC, dI) CL [(m0, .inr (13, m0y)), (ml, .inl (mlC, (3, .inl (fun _ => 0))))] t.heap ∧ va_K (dC, dI) CL [(mlC, .boolean)] t ∧ va_D (va_A [(m0, .inr (13, m0g)), (ml, .inl (mlC, (3, .inl (fun _ => 0))))] sz) [(m0, .inr (13, m0y)), (ml, .inl (mlC, (3, .inl (fun _ => 0))))]) (va_A [(m0, .inr (13, m0g)), (ml, .inl (mlC, (3, .inl (fun _ => 0))))] sz)) 0 0 (va_A [(m0, .inr (13, m0g)), (ml, .inl (mlC, (3, .inl (fun _ => 0))))] sz) := by
  refine Met.ofW (cc := cX13_isThere) (maxL := 3) (ret := (some .boolean)) (by decide) rfl ?_
  intro p e s m args below meth c s₁ B hml hv
  obtain ⟨rfl, hsz, hP, hK, hD0, hth⟩ := hv
  have hx := B.exec
  have hb := B.bytes
  have hr := B.returns
  have hts : ∀ w ∈ BG, w.before _ s = true := fun w h => atoms_spec (ws := Cond.code yX13_isThere cX13_isThere 3 (some .boolean) :: BG) B.pre w (List.mem_cons_of_mem _ h)
  have hown : s.vm.findClass RX13 = some m.cls := findClass_of_methodNamed B.named
  have hlocks := B.notSynchronized
  subst hsz
  have hD := hD0.self (sz := s.heap.size)
  generalize hAe : va_A [(m0, .inr (13, m0g)), (ml, .inl (mlC, (3, .inl (fun _ => 0))))] s.heap.size = A at hD hth ⊢
  have hA : ∀ q : Nat, s.heap.size ≤ q → A q := fun q h => by rw [← hAe]; exact Or.inr h
  have hS : va_S A s.heap s.heap [] := va_S.rf
  have hl := lv_entry ([.ref m0, .int 1, .int 2]) (n := 3) (Nat.le_of_ble_eq_true rfl)
  rw [lg_entry_eq]
  generalize (lg_sl ([.ref m0, .int 1, .int 2]) ++ List.replicate (3 - (lg_sl ([.ref m0, .int 1, .int 2])).length) Slot.unset).toArray = ls at hl ⊢
  have hl : lv_has ls 3 [(0, .ref m0), (1, .int 1), (2, .int 2)] := hl
  obtain ⟨H, eH⟩ : ∃ z, z = s.heap := ⟨_, rfl⟩
  have hP : va_P (dC, dI) CL [(m0, .inr (13, m0g)), (ml, .inl (mlC, (3, .inl (fun _ => 0))))] H := by rw [eH]; exact hP
  have hS : va_S A s.heap H [] := by rw [eH]; exact hS
  rw [← eH]
  refine lv_aload_n hx hb dX13_isThere_0 rfl (lv_at hl 0 rfl) ?_
  refine lv_iload_n hx hb dX13_isThere_1 rfl (lv_at hl 1 rfl) ?_
  refine lv_iconst (v := 0) hx hb dX13_isThere_2 (by decide +kernel) ?_
  refine lv_iconst (v := 2) hx hb dX13_isThere_3 (by decide +kernel) ?_
  have hFc := va_free (wc := [(m0, .inr (13, m0g)), (ml, .inl (mlC, (3, .inl (fun _ => 0))))]) hD hS hA [0, 1] rfl
  refine va_calli (va_runS (As := [.int 1, .int 0, .int 2]) (rest := [.ref m0]) ⟨hx, hb, hml, hown, hts⟩ (gx54_X13_within l hlt dC dI _ m0 ml md mch m0g h_m0 mlC) (cwS 3 hts (gi_S wd_3825 wd_3826 wd_340 wd_3827) rfl rfl rfl (by decide +kernel) ⟨(Nat.le_of_ble_eq_true rfl), (Nat.le_of_ble_eq_true rfl)⟩) ⟨fun a U g mk q => by obtain ⟨q0, q1, qP, qK, qD, qT⟩ := q; exact ⟨q0, q1, qP, va_K.moved (u := U) (U := U.calling g mk a) (Vm.Alike.refl U.vm) qK, qD, th.moved (u := U) (U := U.calling g mk a) (Vm.Alike.refl U.vm) qT⟩, fun U hU hW => ⟨rfl, by rw [hU], by rw [hU]; exact hP, va_K.moved hW.alike hK, hD.weaken (fun _ _ _ _ => trivial), by rw [hU]; exact ((hth.kept hS.2.1).narrow hFc).moved hW.alike⟩⟩ rfl rfl hl.1 rfl (lv_room (Nat.le_of_ble_eq_true rfl)) dX13_isThere_4 ⟨(Nat.le_of_ble_eq_true rfl), (Nat.le_of_ble_eq_true rfl)⟩) hS (fun q _ h => hFc q h) hFc (fun r u t H1 locs ht hvm hw hB hz1 hk1 hS => ?_)
  subst hw
  obtain ⟨fs_1, h_m0, hP1, hK1, hD1⟩ := hB
  rw [ht] at hP1
  have hD := hD1.weaken (fun k q _ h => hFc q.1 h)
  have hP := hP1
  generalize H1 = H at hP hS ⊢
  have hP : va_P (dC, dI) CL [(m0, .inr (13, fs_1)), (ml, .inl (mlC, (3, .inl (fun _ => 0))))] H := hP
  have hD : va_D A [(m0, .inr (13, fs_1)), (ml, .inl (mlC, (3, .inl (fun _ => 0))))] := hD
  refine lv_if_eq (tgt := 14) hx hb dX13_isThere_7 (by decide) (fun c9 => ?_) (fun c9 => ?_)
  · first | exact absurd c9 (by decide +kernel) | exact absurd (by decide +kernel) c9
  refine lv_iconst (v := 0) hx hb dX13_isThere_10 (by decide +kernel) ?_
  refine lv_goto (tgt := 15) hx hb dX13_isThere_11 (by decide) ?_
  refine va_put (D := (dC, dI)) (ci := 13) (v := .int 0) (ty := tyX13 0) (C := RX13) (T := TX13) (N := 225) hx hb hts inX13 tyX13 tyX13_ok nmX13 hown hK hP hD hS 0 rfl rfl 0 (by decide) (hts (.fieldLink RX13 1 "ChipFlowModel" "code" "I") wd_3032) (fun _ h9 => h9) rfl (by decide +kernel) rfl rfl (by rw [h_m0.1]; decide) dX13_isThere_15 (fun H locs hP hD hS => ?_)
  obtain ⟨fs_2, e9⟩ : ∃ z, z = fs_1.set 0 (.int 0) := ⟨_, rfl⟩
  have h_m0 : fx fs_2 225 [(0, .int 0), (2, .int 0), (3, .int 0), (9, .int 0), (10, .int 0), (11, .int 0), (12, .int 0), (27, .int 0), (55, .ref md), (79, .int 0), (83, .int 0), (88, .ref ml), (95, .int 0), (138, .ref mch)] := by rw [e9]; exact (h_m0.put (F' := [(0, .int 0), (2, .int 0), (3, .int 0), (9, .int 0), (10, .int 0), (11, .int 0), (12, .int 0), (27, .int 0), (55, .ref md), (79, .int 0), (83, .int 0), (88, .ref ml), (95, .int 0), (138, .ref mch)]) (by decide) _ rfl).sub [0, 1, 2, 3, 4, 5, 6, 7, 8, 9, 10, 11, 12, 13] rfl
  have hP : va_P (dC, dI) CL [(m0, .inr (13, fs_2)), (ml, .inl (mlC, (3, .inl (fun _ => 0))))] H := by rw [e9]; exact hP
  have hD : va_D A [(m0, .inr (13, fs_2)), (ml, .inl (mlC, (3, .inl (fun _ => 0))))] := by rw [e9]; exact hD
  clear e9
  refine lv_aload_n hx hb dX13_isThere_18 rfl (lv_at hl 0 rfl) ?_
  refine va_get (D := (dC, dI)) (ci := 13) (v := .int 0) (C := RX13) (T := TX13) (N := 225) hx hb hts inX13 hown hK hP 0 rfl rfl 0 (by decide) (hts (.fieldLink RX13 1 "ChipFlowModel" "code" "I") wd_3032) (fun _ h9 => h9) (h_m0.get 0 rfl) dX13_isThere_19 ?_
  refine lv_if_ne (tgt := 38) hx hb dX13_isThere_22 (by decide) (fun c9 => ?_) (fun c9 => ?_)
  · first | exact absurd c9 (by decide +kernel) | exact absurd (by decide +kernel) c9
  refine lv_aload_n hx hb dX13_isThere_25 rfl (lv_at hl 0 rfl) ?_
  refine lv_iload_n hx hb dX13_isThere_26 rfl (lv_at hl 1 rfl) ?_
  refine lv_iload_n hx hb dX13_isThere_27 rfl (lv_at hl 2 rfl) ?_
  have hFc := va_free (wc := [(m0, .inr (13, fs_2)), (ml, .inl (mlC, (3, .inl (fun _ => 0))))]) hD hS hA [0, 1] rfl
  refine va_calli (va_runV (As := [.int 1, .int 2]) (rest := []) ⟨hx, hb, hml, hown, hts⟩ (gx119_X13_isOne l hlt dC dI _ m0 ml md mch fs_2 h_m0 mlC) (cwV 2 hts (gi_V wd_4072 wd_4074 wd_214 wd_340 wd_4075) rfl rfl rfl (by decide +kernel) ⟨(Nat.le_of_ble_eq_true rfl), (Nat.le_of_ble_eq_true rfl)⟩) ⟨fun a U g mk q => by obtain ⟨q0, q1, qP, qK, qD, qT⟩ := q; exact ⟨q0, q1, qP, va_K.moved (u := U) (U := U.calling g mk a) (Vm.Alike.refl U.vm) qK, qD, th.moved (u := U) (U := U.calling g mk a) (Vm.Alike.refl U.vm) qT⟩, va_recv hK hP (ci := 13) (q0 := 0) rfl rfl, fun U hU hW => ⟨rfl, by rw [hU], by rw [hU]; exact hP, va_K.moved hW.alike hK, hD.weaken (fun _ _ _ _ => trivial), by rw [hU]; exact ((hth.kept hS.2.1).narrow hFc).moved hW.alike⟩⟩ rfl rfl hl.1 rfl (lv_room (Nat.le_of_ble_eq_true rfl)) dX13_isThere_28 ⟨(Nat.le_of_ble_eq_true rfl), (Nat.le_of_ble_eq_true rfl)⟩) hS (fun q _ h => hFc q h) hFc (fun r u t H1 locs ht hvm hw hB hz1 hk1 hS => ?_)
  subst hw
  obtain ⟨fs_3, h_m0, hP1, hK1, hD1⟩ := hB
  rw [ht] at hP1
  have hD := hD1.weaken (fun k q _ h => hFc q.1 h)
  have hP := hP1
  generalize H1 = H at hP hS ⊢
  have hP : va_P (dC, dI) CL [(m0, .inr (13, fs_3)), (ml, .inl (mlC, (3, .inl (fun _ => 0))))] H := hP
  have hD : va_D A [(m0, .inr (13, fs_3)), (ml, .inl (mlC, (3, .inl (fun _ => 0))))] := hD
  refine lv_if_eq (tgt := 38) hx hb dX13_isThere_31 (by decide) (fun c9 => ?_) (fun c9 => ?_)
  rotate_left
  · first | exact absurd c9 (by decide +kernel) | exact absurd (by decide +kernel) c9
  refine lv_iconst (v := 0) hx hb dX13_isThere_38 (by decide +kernel) ?_
  exact W.zret (v := 0) hx hb hr rfl (fun t ht hW => ⟨⟨0, (), rfl, rfl, fs_3, h_m0, by rw [ht]; exact hP, va_K.moved hW.alike hK, hD⟩, hS.F ht⟩) hS.2.2 dX13_isThere_39
set_option maxHeartbeats 4000000 in
set_option maxRecDepth 100000 in
theorem gx121_X12_isThere (l : Launch) (hlt : l.stackTraces = false) (dC : Nat → ClassId) (dI : Nat → Nat → Nat) (sz : Nat) (p1 : Int32) (x chA ch0 ch1 ch2 ch3 oA deA liA : Nat) (xg : List Value) (h_x : fx xg 17 [(7, .ref deA), (8, .ref liA), (9, .ref chA)]) (chAC : ClassId) (chAF : Nat → Option Nat) (ch0g : List Value) (h_ch0 : fx ch0g 20 [(0, .int 0)]) (ch1g : List Value) (h_ch1 : fx ch1g 20 [(0, .int 0)]) (ch2g : List Value) (h_ch2 : fx ch2g 20 [(0, .int 0)]) (ch3g : List Value) (h_ch3 : fx ch3g 20 [(0, .int 0)]) (oAC : ClassId) (oAf : Nat → Int64) (h_oA : fa oAf []) (h_chA0 : chAF 0 = some ch0) (h_chA1 : chAF 1 = some ch1) (h_chA2 : chAF 2 = some ch2) (h_chA3 : chAF 3 = some ch3) (zk : p1 < 0) : Met l yX12_isThere (Cond.code yX12_isThere cX12_isThere 3 (some .boolean) :: BG) ({ frames := 7, cells := 1, slots := 6, locals := 130 }) (va_Pc [.ref x, .int 2, .int p1] (fun U => U.heap.size = sz ∧ va_P (dC, dI) CL [(x, .inr (12, xg)), (chA, .inl (chAC, (4, .inr (.inr (.inr (.inr chAF)))))), (ch0, .inr (2, ch0g)), (ch1, .inr (2, ch1g)), (ch2, .inr (2, ch2g)), (ch3, .inr (2, ch3g)), (oA, .inl (oAC, (1, .inr (.inl oAf))))] U.heap ∧ va_K (dC, dI) CL [(chAC, .object "ChipFlow$Chip"), (oAC, .long)] U ∧ va_D (fun _ => True) [(x, .inr (12, xg)), (chA, .inl (chAC, (4, .inr (.inr (.inr (.inr chAF)))))), (ch0, .inr (2, ch0g)), (ch1, .inr (2, ch1g)), (ch2, .inr (2, ch2g)), (ch3, .inr (2, ch3g)), (oA, .inl (oAC, (1, .inr (.inl oAf))))] ∧ th (va_A [(x, .inr (12, xg)), (chA, .inl (chAC, (4, .inr (.inr (.inr (.inr chAF)))))), (ch0, .inr (2, ch0g)), (ch1, .inr (2, ch1g)), (ch2, .inr (2, ch2g)), (ch3, .inr (2, ch3g)), (oA, .inl (oAC, (1, .inr (.inl oAf))))] sz) U U.heap)) (va_Qi (fun (r : Int32) (_ : Unit) => r = 0) (fun _ t => ∃ (xy : List Value) (ch0y : List Value) (ch1y : List Value) (ch2y : List Value) (ch3y : List Value) (oAy : Nat → Int64), fx xy 17 [(7, .ref deA), (8, .ref liA), (9, .ref chA)] ∧ fx ch0y 20 [(0, .int 0)] ∧ fx ch1y 20 [(0, .int 0)] ∧ fx ch2y 20 [(0, .int 0)] ∧ fx ch3y 20 [(0, .int 0)] ∧ fa oAy [] ∧ va_P (dC, dI) CL [(x, .inr (12, xy)), (chA, .inl (chAC, (4, .inr (.inr (.inr (.inr chAF)))))), (ch0, .inr (2, ch0y)), (ch1, .inr (2, ch1y)), (ch2, .inr (2, ch2y)), (ch3, .inr (2, ch3y)), (oA, .inl (oAC, (1, .inr (.inl oAy))))] t.heap ∧ va_K (dC, dI) CL [(chAC, .object "ChipFlow$Chip"), (oAC, .long)] t ∧ va_D (va_A [(x, .inr (12, xg)), (chA, .inl (chAC, (4, .inr (.inr (.inr (.inr chAF)))))), (ch0, .inr (2, ch0g)), (ch1, .inr (2, ch1g)), (ch2, .inr (2, ch2g)), (ch3, .inr (2, ch3g)), (oA, .inl (oAC, (1, .inr (.inl oAf))))] sz) [(x, .inr (12, xy)), (chA, .inl (chAC, (4, .inr (.inr (.inr (.inr chAF)))))), (ch0, .inr (2, ch0y)), (ch1, .inr (2, ch1y)), (ch2, .inr (2, ch2y)), (ch3, .inr (2, ch3y)), (oA, .inl (oAC, (1, .inr (.inl oAy))))]) (va_A [(x, .inr (12, xg)), (chA, .inl (chAC, (4, .inr (.inr (.inr (.inr chAF)))))), (ch0, .inr (2, ch0g)), (ch1, .inr (2, ch1g)), (ch2, .inr (2, ch2g)), (ch3, .inr (2, ch3g)), (oA, .inl (oAC, (1, .inr (.inl oAf))))] sz)) 1 6 (va_A [(x, .inr (12, xg)), (chA, .inl (chAC, (4, .inr (.inr (.inr (.inr chAF)))))), (ch0, .inr (2, ch0g)), (ch1, .inr (2, ch1g)), (ch2, .inr (2, ch2g)), (ch3, .inr (2, ch3g)), (oA, .inl (oAC, (1, .inr (.inl oAf))))] sz) := by
  refine Met.ofW (cc := cX12_isThere) (maxL := 3) (ret := (some .boolean)) (by decide) rfl ?_
  intro p e s m args below meth c s₁ B hml hv
  obtain ⟨rfl, hsz, hP, hK, hD0, hth⟩ := hv
  have hx := B.exec
  have hb := B.bytes
  have hr := B.returns
  have hts : ∀ w ∈ BG, w.before _ s = true := fun w h => atoms_spec (ws := Cond.code yX12_isThere cX12_isThere 3 (some .boolean) :: BG) B.pre w (List.mem_cons_of_mem _ h)
  have hown : s.vm.findClass RX12 = some m.cls := findClass_of_methodNamed B.named
  have hlocks := B.notSynchronized
  subst hsz
  have hD := hD0.self (sz := s.heap.size)
  generalize hAe : va_A [(x, .inr (12, xg)), (chA, .inl (chAC, (4, .inr (.inr (.inr (.inr chAF)))))), (ch0, .inr (2, ch0g)), (ch1, .inr (2, ch1g)), (ch2, .inr (2, ch2g)), (ch3, .inr (2, ch3g)), (oA, .inl (oAC, (1, .inr (.inl oAf))))] s.heap.size = A at hD hth ⊢
  have hA : ∀ q : Nat, s.heap.size ≤ q → A q := fun q h => by rw [← hAe]; exact Or.inr h
  have hS : va_S A s.heap s.heap [] := va_S.rf
  have hl := lv_entry ([.ref x, .int 2, .int p1]) (n := 3) (Nat.le_of_ble_eq_true rfl)
  rw [lg_entry_eq]
  generalize (lg_sl ([.ref x, .int 2, .int p1]) ++ List.replicate (3 - (lg_sl ([.ref x, .int 2, .int p1])).length) Slot.unset).toArray = ls at hl ⊢
  have hl : lv_has ls 3 [(0, .ref x), (1, .int 2), (2, .int p1)] := hl
  obtain ⟨H, eH⟩ : ∃ z, z = s.heap := ⟨_, rfl⟩
  have hP : va_P (dC, dI) CL [(x, .inr (12, xg)), (chA, .inl (chAC, (4, .inr (.inr (.inr (.inr chAF)))))), (ch0, .inr (2, ch0g)), (ch1, .inr (2, ch1g)), (ch2, .inr (2, ch2g)), (ch3, .inr (2, ch3g)), (oA, .inl (oAC, (1, .inr (.inl oAf))))] H := by rw [eH]; exact hP
  have hS : va_S A s.heap H [] := by rw [eH]; exact hS
  rw [← eH]
  refine lv_iload_n hx hb dX12_isThere_0 rfl (lv_at hl 1 rfl) ?_
  refine lv_if_lt (tgt := 13) hx hb dX12_isThere_1 (by decide) (fun c9 => ?_) (fun c9 => ?_)
  · first | exact absurd c9 (by decide +kernel) | exact absurd (by decide +kernel) c9
  refine lv_iload_n hx hb dX12_isThere_4 rfl (lv_at hl 1 rfl) ?_
  refine lv_iconst (v := 2) hx hb dX12_isThere_5 (by decide +kernel) ?_
  refine lv_icmp_gt (tgt := 13) hx hb dX12_isThere_6 (by decide) (fun c9 => ?_) (fun c9 => ?_)
  · first | exact absurd c9 (by decide +kernel) | exact absurd (by decide +kernel) c9
  refine lv_iconst (v := 1) hx hb dX12_isThere_9 (by decide +kernel) ?_
  refine lv_goto (tgt := 14) hx hb dX12_isThere_10 (by decide) ?_
  have hF0 : ∀ q, va_A [] H.size q → A q := fun q h => h.elim (fun ⟨k9, e9, h9⟩ => by simp at h9) (fun h9 => hA q (Nat.le_trans hS.1 h9))
  refine vx_callv (vx_runS (As := [.int 1]) (rest := []) ⟨hx, hb, hml, hown, hts⟩ (ct_X12_needRange l hlt H.size 1) (cwS 1 hts (gi_S wd_1328 wd_1329 wd_327 wd_1330) rfl rfl rfl (by decide +kernel) ⟨(Nat.le_of_ble_eq_true rfl), (Nat.le_of_ble_eq_true rfl)⟩) ⟨fun a U g mk q => ⟨q.1, q.2.1, th.moved (u := U) (U := U.calling g mk a) (Vm.Alike.refl U.vm) q.2.2⟩, fun U hU hW => ⟨rfl, by rw [hU], by rw [hU]; exact ((hth.kept hS.2.1).narrow hF0).moved hW.alike⟩⟩ rfl rfl hl.1 rfl (lv_room (Nat.le_of_ble_eq_true rfl)) dX12_isThere_14 ⟨(Nat.le_of_ble_eq_true rfl), (Nat.le_of_ble_eq_true rfl)⟩) hS (fun q _ h => hF0 q h) hF0 (fun q _ h => hF0 q h) (fun E ce q9 u t H1 locs ht hvm hp hB hz hk hS hce hcv hcl => absurd hp (by decide +kernel)) (fun u t H1 locs ht hvm hp hB hz hk hS => ?_)
  have hP : va_P (dC, dI) CL [(x, .inr (12, xg)), (chA, .inl (chAC, (4, .inr (.inr (.inr (.inr chAF)))))), (ch0, .inr (2, ch0g)), (ch1, .inr (2, ch1g)), (ch2, .inr (2, ch2g)), (ch3, .inr (2, ch3g)), (oA, .inl (oAC, (1, .inr (.inl oAf))))] H1 := hP.kept (fun k q h9 => hk _ (vx_lt hP h9) (fun h8 => h8.elim (fun ⟨k9, e9, h7⟩ => by simp at h7) (fun h7 => absurd (vx_lt hP h9) (Nat.not_lt.mpr h7))))
  generalize H1 = H at hP hS ⊢
  refine W.widen (k := 1) (n := 6) (Nat.le_of_ble_eq_true rfl) (Nat.le_of_ble_eq_true rfl) ?_
  refine lv_iload_n hx hb dX12_isThere_17 rfl (lv_at hl 1 rfl) ?_
  refine lv_if_ne (tgt := 49) hx hb dX12_isThere_18 (by decide) (fun c9 => ?_) (fun c9 => ?_)
  rotate_left
  · first | exact absurd c9 (by decide +kernel) | exact absurd (by decide +kernel) c9
  refine lv_iload_n hx hb dX12_isThere_49 rfl (lv_at hl 1 rfl) ?_
  refine lv_iconst (v := 1) hx hb dX12_isThere_50 (by decide +kernel) ?_
  refine lv_icmp_ne (tgt := 81) hx hb dX12_isThere_51 (by decide) (fun c9 => ?_) (fun c9 => ?_)
  rotate_left
  · first | exact absurd c9 (by decide +kernel) | exact absurd (by decide +kernel) c9
  refine lv_iload_n hx hb dX12_isThere_81 rfl (lv_at hl 2 rfl) ?_
  refine lv_if_lt (tgt := 106) hx hb dX12_isThere_82 (by decide) (fun c9 => ?_) (fun c9 => ?_)
  rotate_left
  · first | exact absurd c9 zk | exact absurd zk c9
  refine lv_iconst (v := 0) hx hb dX12_isThere_106 (by decide +kernel) ?_
  refine W.widen (k := 1) (n := 6) (Nat.le_of_ble_eq_true rfl) (Nat.le_of_ble_eq_true rfl) ?_
  exact W.zret (v := 0) hx hb hr rfl (fun t ht hW => ⟨⟨0, (), rfl, rfl, xg, ch0g, ch1g, ch2g, ch3g, oAf, h_x, h_ch0, h_ch1, h_ch2, h_ch3, h_oA, by rw [ht]; exact hP, va_K.moved hW.alike hK, hD⟩, hS.F ht⟩) hS.2.2 dX12_isThere_107
set_option maxHeartbeats 4000000 in
set_option maxRecDepth 100000 in
theorem gx120_L_isThere (l : Launch) (hlt : l.stackTraces = false) (dC : Nat → ClassId) (dI : Nat → Nat → Nat) (sz : Nat) (p1 : Int32) (x chA ch0 ch1 ch2 ch3 oA deA liA : Nat) (xg : List Value) (h_x : fx xg 17 [(7, .ref deA), (8, .ref liA), (9, .ref chA)]) (chAC : ClassId) (chAF : Nat → Option Nat) (ch0g : List Value) (h_ch0 : fx ch0g 20 [(0, .int 0)]) (ch1g : List Value) (h_ch1 : fx ch1g 20 [(0, .int 0)]) (ch2g : List Value) (h_ch2 : fx ch2g 20 [(0, .int 0)]) (ch3g : List Value) (h_ch3 : fx ch3g 20 [(0, .int 0)]) (oAC : ClassId) (oAf : Nat → Int64) (h_oA : fa oAf []) (h_chA0 : chAF 0 = some ch0) (h_chA1 : chAF 1 = some ch1) (h_chA2 : chAF 2 = some ch2) (h_chA3 : chAF 3 = some ch3) (zk : p1 < 0) : Met l yL_isThere (Cond.codeWith yL_isThere cL_isThere 5 (some .int) [(0, 17, 20, 19)] :: BG) ({ frames := 8, cells := 1, slots := 6, locals := 152 }) (va_Pc [.ref x, .int 2, .int p1, .ref oA] (fun U => U.heap.size = sz ∧ va_P (dC, dI) CL [(x, .inr (12, xg)), (chA, .inl (chAC, (4, .inr (.inr (.inr (.inr chAF)))))), (ch0, .inr (2, ch0g)), (ch1, .inr (2, ch1g)), (ch2, .inr (2, ch2g)), (ch3, .inr (2, ch3g)), (oA, .inl (oAC, (1, .inr (.inl oAf))))] U.heap ∧ va_K (dC, dI) CL [(chAC, .object "ChipFlow$Chip"), (oAC, .long)] U ∧ va_D (fun _ => True) [(x, .inr (12, xg)), (chA, .inl (chAC, (4, .inr (.inr (.inr (.inr chAF)))))), (ch0, .inr (2, ch0g)), (ch1, .inr (2, ch1g)), (ch2, .inr (2, ch2g)), (ch3, .inr (2, ch3g)), (oA, .inl (oAC, (1, .inr (.inl oAf))))] ∧ th (va_A [(x, .inr (12, xg)), (chA, .inl (chAC, (4, .inr (.inr (.inr (.inr chAF)))))), (ch0, .inr (2, ch0g)), (ch1, .inr (2, ch1g)), (ch2, .inr (2, ch2g)), (ch3, .inr (2, ch3g)), (oA, .inl (oAC, (1, .inr (.inl oAf))))] sz) U U.heap)) (va_Qi (fun (r : Int32) (_ : Unit) => r = 0) (fun _ t => ∃ (xy : List Value) (ch0y : List Value) (ch1y : List Value) (ch2y : List Value) (ch3y : List Value) (oAy : Nat → Int64), fx xy 17 [(7, .ref deA), (8, .ref liA), (9, .ref chA)] ∧ fx ch0y 20 [(0, .int 0)] ∧ fx ch1y 20 [(0, .int 0)] ∧ fx ch2y 20 [(0, .int 0)] ∧ fx ch3y 20 [(0, .int 0)] ∧ fa oAy [(0, 0)] ∧ va_P (dC, dI) CL [(x, .inr (12, xy)), (chA, .inl (chAC, (4, .inr (.inr (.inr (.inr chAF)))))), (ch0, .inr (2, ch0y)), (ch1, .inr (2, ch1y)), (ch2, .inr (2, ch2y)), (ch3, .inr (2, ch3y)), (oA, .inl (oAC, (1, .inr (.inl oAy))))] t.heap ∧ va_K (dC, dI) CL [(chAC, .object "ChipFlow$Chip"), (oAC, .long)] t ∧ va_D (va_A [(x, .inr (12, xg)), (chA, .inl (chAC, (4, .inr (.inr (.inr (.inr chAF)))))), (ch0, .inr (2, ch0g)), (ch1, .inr (2, ch1g)), (ch2, .inr (2, ch2g)), (ch3, .inr (2, ch3g)), (oA, .inl (oAC, (1, .inr (.inl oAf))))] sz) [(x, .inr (12, xy)), (chA, .inl (chAC, (4, .inr (.inr (.inr (.inr chAF)))))), (ch0, .inr (2, ch0y)), (ch1, .inr (2, ch1y)), (ch2, .inr (2, ch2y)), (ch3, .inr (2, ch3y)), (oA, .inl (oAC, (1, .inr (.inl oAy))))]) (va_A [(x, .inr (12, xg)), (chA, .inl (chAC, (4, .inr (.inr (.inr (.inr chAF)))))), (ch0, .inr (2, ch0g)), (ch1, .inr (2, ch1g)), (ch2, .inr (2, ch2g)), (ch3, .inr (2, ch3g)), (oA, .inl (oAC, (1, .inr (.inl oAf))))] sz)) 1 6 (va_A [(x, .inr (12, xg)), (chA, .inl (chAC, (4, .inr (.inr (.inr (.inr chAF)))))), (ch0, .inr (2, ch0g)), (ch1, .inr (2, ch1g)), (ch2, .inr (2, ch2g)), (ch3, .inr (2, ch3g)), (oA, .inl (oAC, (1, .inr (.inl oAf))))] sz) := by
  refine va_MetW (hh := [(0, 17, 20, 19)]) (cc := cL_isThere) (maxL := 5) (ret := (some .int)) (by decide) rfl ?_
  intro p e s m args below meth c s₁ B hml hv
  obtain ⟨rfl, hsz, hP, hK, hD0, hth⟩ := hv
  have hx := B.exec
  have hb := B.bytes
  have hr := B.returns
  have hts : ∀ w ∈ BG, w.before _ s = true := fun w h => atoms_spec (ws := Cond.codeWith yL_isThere cL_isThere 5 (some .int) [(0, 17, 20, 19)] :: BG) B.pre w (List.mem_cons_of_mem _ h)
  have hown : s.vm.findClass RL = some m.cls := findClass_of_methodNamed B.named
  have hlocks := B.notSynchronized
  subst hsz
  have hD := hD0.self (sz := s.heap.size)
  generalize hAe : va_A [(x, .inr (12, xg)), (chA, .inl (chAC, (4, .inr (.inr (.inr (.inr chAF)))))), (ch0, .inr (2, ch0g)), (ch1, .inr (2, ch1g)), (ch2, .inr (2, ch2g)), (ch3, .inr (2, ch3g)), (oA, .inl (oAC, (1, .inr (.inl oAf))))] s.heap.size = A at hD hth ⊢
  have hA : ∀ q : Nat, s.heap.size ≤ q → A q := fun q h => by rw [← hAe]; exact Or.inr h
  have hS : va_S A s.heap s.heap [] := va_S.rf
  have hl := lv_entry ([.ref x, .int 2, .int p1, .ref oA]) (n := 5) (Nat.le_of_ble_eq_true rfl)
  rw [lg_entry_eq]
  generalize (lg_sl ([.ref x, .int 2, .int p1, .ref oA]) ++ List.replicate (5 - (lg_sl ([.ref x, .int 2, .int p1, .ref oA])).length) Slot.unset).toArray = ls at hl ⊢
  have hl : lv_has ls 5 [(0, .ref x), (1, .int 2), (2, .int p1), (3, .ref oA)] := hl
  obtain ⟨H, eH⟩ : ∃ z, z = s.heap := ⟨_, rfl⟩
  have hP : va_P (dC, dI) CL [(x, .inr (12, xg)), (chA, .inl (chAC, (4, .inr (.inr (.inr (.inr chAF)))))), (ch0, .inr (2, ch0g)), (ch1, .inr (2, ch1g)), (ch2, .inr (2, ch2g)), (ch3, .inr (2, ch3g)), (oA, .inl (oAC, (1, .inr (.inl oAf))))] H := by rw [eH]; exact hP
  have hS : va_S A s.heap H [] := by rw [eH]; exact hS
  rw [← eH]
  have hT : c.exceptionTable.toList = tableOf [(0, 17, 20, 19)] := vx_table (x := yL_isThere) B (atoms_spec (ws := Cond.codeWith yL_isThere cL_isThere 5 (some .int) [(0, 17, 20, 19)] :: BG) B.pre _ List.mem_cons_self)
  refine lv_aload_n hx hb dL_isThere_0 rfl (lv_at hl 3 rfl) ?_
  refine lv_iconst (v := 0) hx hb dL_isThere_1 (by decide +kernel) ?_
  refine lv_aload_n hx hb dL_isThere_2 rfl (lv_at hl 0 rfl) ?_
  refine lv_iload_n hx hb dL_isThere_3 rfl (lv_at hl 1 rfl) ?_
  refine lv_iload_n hx hb dL_isThere_4 rfl (lv_at hl 2 rfl) ?_
  have hFc := va_free (wc := [(x, .inr (12, xg)), (chA, .inl (chAC, (4, .inr (.inr (.inr (.inr chAF)))))), (ch0, .inr (2, ch0g)), (ch1, .inr (2, ch1g)), (ch2, .inr (2, ch2g)), (ch3, .inr (2, ch3g)), (oA, .inl (oAC, (1, .inr (.inl oAf))))]) hD hS hA [0, 1, 2, 3, 4, 5, 6] rfl
  refine va_calli (va_runV (As := [.int 2, .int p1]) (rest := [.int 0, .ref oA]) ⟨hx, hb, hml, hown, hts⟩ (gx121_X12_isThere l hlt dC dI _ p1 x chA ch0 ch1 ch2 ch3 oA deA liA xg h_x chAC chAF ch0g h_ch0 ch1g h_ch1 ch2g h_ch2 ch3g h_ch3 oAC oAf h_oA h_chA0 h_chA1 h_chA2 h_chA3 zk) (cwV 2 hts (gi_V wd_1842 wd_1843 wd_1844 wd_327 wd_1845) rfl rfl rfl (by decide +kernel) ⟨(Nat.le_of_ble_eq_true rfl), (Nat.le_of_ble_eq_true rfl)⟩) ⟨fun a U g mk q => by obtain ⟨q0, q1, qP, qK, qD, qT⟩ := q; exact ⟨q0, q1, qP, va_K.moved (u := U) (U := U.calling g mk a) (Vm.Alike.refl U.vm) qK, qD, th.moved (u := U) (U := U.calling g mk a) (Vm.Alike.refl U.vm) qT⟩, va_recv hK hP (ci := 12) (q0 := 0) rfl rfl, fun U hU hW => ⟨rfl, by rw [hU], by rw [hU]; exact hP, va_K.moved hW.alike hK, hD.weaken (fun _ _ _ _ => trivial), by rw [hU]; exact ((hth.kept hS.2.1).narrow hFc).moved hW.alike⟩⟩ rfl rfl hl.1 rfl (lv_room (Nat.le_of_ble_eq_true rfl)) dL_isThere_5 ⟨(Nat.le_of_ble_eq_true rfl), (Nat.le_of_ble_eq_true rfl)⟩) hS (fun q _ h => hFc q h) hFc (fun r u t H1 locs ht hvm hw hB hz1 hk1 hS => ?_)
  subst hw
  obtain ⟨fs_1, fs_2, fs_3, fs_4, fs_5, f_6, h_x, h_ch0, h_ch1, h_ch2, h_ch3, h_oA, hP1, hK1, hD1⟩ := hB
  rw [ht] at hP1
  have hD := hD1.weaken (fun k q _ h => hFc q.1 h)
  have hP := hP1
  generalize H1 = H at hP hS ⊢
  have hP : va_P (dC, dI) CL [(x, .inr (12, fs_1)), (chA, .inl (chAC, (4, .inr (.inr (.inr (.inr chAF)))))), (ch0, .inr (2, fs_2)), (ch1, .inr (2, fs_3)), (ch2, .inr (2, fs_4)), (ch3, .inr (2, fs_5)), (oA, .inl (oAC, (1, .inr (.inl f_6))))] H := hP
  have hD : va_D A [(x, .inr (12, fs_1)), (chA, .inl (chAC, (4, .inr (.inr (.inr (.inr chAF)))))), (ch0, .inr (2, fs_2)), (ch1, .inr (2, fs_3)), (ch2, .inr (2, fs_4)), (ch3, .inr (2, fs_5)), (oA, .inl (oAC, (1, .inr (.inl f_6))))] := hD
  refine W.widen (k := 1) (n := 6) (Nat.le_of_ble_eq_true rfl) (Nat.le_of_ble_eq_true rfl) ?_
  refine lv_if_eq (tgt := 15) hx hb dL_isThere_8 (by decide) (fun c9 => ?_) (fun c9 => ?_)
  rotate_left
  · first | exact absurd c9 (by decide +kernel) | exact absurd (by decide +kernel) c9
  refine lv_lconst (v := 0) hx hb dL_isThere_15 (by decide) ?_
  refine va_last hx hb hK hP hD hS 6 1 rfl rfl (vp_in_nI (n := 0) (N := 1) (by decide) (by decide)) dL_isThere_16 (fun H locs hP hD hS => ?_)
  obtain ⟨f_7, e9⟩ : ∃ z, z = vp_updL f_6 (0 : Int32).toNatClampNeg 0 := ⟨_, rfl⟩
  have h_oA : fa f_7 [(0, 0)] := by rw [e9, show (0 : Int32).toNatClampNeg = 0 by decide +kernel]; exact (fa.putL h_oA).sub [0] rfl
  have hP : va_P (dC, dI) CL [(x, .inr (12, fs_1)), (chA, .inl (chAC, (4, .inr (.inr (.inr (.inr chAF)))))), (ch0, .inr (2, fs_2)), (ch1, .inr (2, fs_3)), (ch2, .inr (2, fs_4)), (ch3, .inr (2, fs_5)), (oA, .inl (oAC, (1, .inr (.inl f_7))))] H := by rw [e9]; exact hP
  have hD : va_D A [(x, .inr (12, fs_1)), (chA, .inl (chAC, (4, .inr (.inr (.inr (.inr chAF)))))), (ch0, .inr (2, fs_2)), (ch1, .inr (2, fs_3)), (ch2, .inr (2, fs_4)), (ch3, .inr (2, fs_5)), (oA, .inl (oAC, (1, .inr (.inl f_7))))] := by rw [e9]; exact hD
  clear e9
  refine lv_goto (tgt := 24) hx hb dL_isThere_17 (by decide) ?_
  refine lv_iconst (v := 0) hx hb dL_isThere_24 (by decide +kernel) ?_
  refine W.widen (k := 1) (n := 6) (Nat.le_of_ble_eq_true rfl) (Nat.le_of_ble_eq_true rfl) ?_
  exact W.iret (v := 0) hx hb hr (fun t ht hW => ⟨⟨0, (), rfl, rfl, fs_1, fs_2, fs_3, fs_4, fs_5, f_7, h_x, h_ch0, h_ch1, h_ch2, h_ch3, h_oA, by rw [ht]; exact hP, va_K.moved hW.alike hK, hD⟩, hS.F ht⟩) hS.2.2 dL_isThere_25
set_option maxHeartbeats 4000000 in
set_option maxRecDepth 100000 in
theorem gx123_X13_isOne (l : Launch) (hlt : l.stackTraces = false) (dC : Nat → ClassId) (dI : Nat → Nat → Nat) (sz : Nat) (p1 : Int32) (m0 mch md ml : Nat) (m0g : List Value) (h_m0 : fx m0g 225 [(0, .int 0), (2, .int 0), (3, .int 0), (9, .int 0), (10, .int 0), (11, .int 0), (12, .int 0), (27, .int 0), (55, .ref md), (79, .int 0), (83, .int 0), (88, .ref ml), (95, .int 0), (138, .ref mch)]) (mchC : ClassId) (zk : p1 < 0) : Met l yX13_isOne (Cond.code yX13_isOne cX13_isOne 3 (some .boolean) :: BG) ({ frames := 2, cells := 0, slots := 0, locals := 33 }) (va_Pc [.ref m0, .int 2, .int p1] (fun U => U.heap.size = sz ∧ va_P (dC, dI) CL [(m0, .inr (13, m0g)), (mch, .inl (mchC, (4, .inl (fun _ => 0))))] U.heap ∧ va_K (dC, dI) CL [(mchC, .boolean)] U ∧ va_D (fun _ => True) [(m0, .inr (13, m0g)), (mch, .inl (mchC, (4, .inl (fun _ => 0))))] ∧ th (va_A [(m0, .inr (13, m0g)), (mch, .inl (mchC, (4, .inl (fun _ => 0))))] sz) U U.heap)) (va_Qi (fun (r : Int32) (_ : Unit) => r = 0) (fun _ t => ∃ (m0y : List Value), fx m0y 225 [(0, .int 0), (2, .int 0), (3, .int 0), (9, .int 0), (10, .int 0), (11, .int 0), (12, .int 0), (27, .int 0), (55, .ref md), (79, .int 0), (83, .int 0), (88, .ref ml), (95, .int 0), (138, .ref mch)] ∧ va_P (dC, dI) CL [(m0, .inr (13, m0y)), (mch, .inl (mchC, (4, .inl (fun _ => 0))))] t.heap ∧ va_K (dC, dI) CL [(mchC, .boolean)] t ∧ va_D (va_A [(m0, .inr (13, m0g)), (mch, .inl (mchC, (4, .inl (fun _ => 0))))] sz) [(m0, .inr (13, m0y)), (mch, .inl (mchC, (4, .inl (fun _ => 0))))]) (va_A [(m0, .inr (13, m0g)), (mch, .inl (mchC, (4, .inl (fun _ => 0))))] sz)) 0 0 (va_A [(m0, .inr (13, m0g)), (mch, .inl (mchC, (4, .inl (fun _ => 0))))] sz) := by
  refine Met.ofW (cc := cX13_isOne) (maxL := 3) (ret := (some .boolean)) (by decide) rfl ?_
  intro p e s m args below meth c s₁ B hml hv
  obtain ⟨rfl, hsz, hP, hK, hD0, hth⟩ := hv
  have hx := B.exec
  have hb := B.bytes
  have hr := B.returns
  have hts : ∀ w ∈ BG, w.before _ s = true := fun w h => atoms_spec (ws := Cond.code yX13_isOne cX13_isOne 3 (some .boolean) :: BG) B.pre w (List.mem_cons_of_mem _ h)
  have hown : s.vm.findClass RX13 = some m.cls := findClass_of_methodNamed B.named
  have hlocks := B.notSynchronized
  subst hsz
  have hD := hD0.self (sz := s.heap.size)
  generalize hAe : va_A [(m0, .inr (13, m0g)), (mch, .inl (mchC, (4, .inl (fun _ => 0))))] s.heap.size = A at hD hth ⊢
  have hA : ∀ q : Nat, s.heap.size ≤ q → A q := fun q h => by rw [← hAe]; exact Or.inr h
  have hS : va_S A s.heap s.heap [] := va_S.rf
  have hl := lv_entry ([.ref m0, .int 2, .int p1]) (n := 3) (Nat.le_of_ble_eq_true rfl)
  rw [lg_entry_eq]
  generalize (lg_sl ([.ref m0, .int 2, .int p1]) ++ List.replicate (3 - (lg_sl ([.ref m0, .int 2, .int p1])).length) Slot.unset).toArray = ls at hl ⊢
  have hl : lv_has ls 3 [(0, .ref m0), (1, .int 2), (2, .int p1)] := hl
  obtain ⟨H, eH⟩ : ∃ z, z = s.heap := ⟨_, rfl⟩
  have hP : va_P (dC, dI) CL [(m0, .inr (13, m0g)), (mch, .inl (mchC, (4, .inl (fun _ => 0))))] H := by rw [eH]; exact hP
  have hS : va_S A s.heap H [] := by rw [eH]; exact hS
  rw [← eH]
  refine lv_iload_n hx hb dX13_isOne_0 rfl (lv_at hl 1 rfl) ?_
  refine lv_if_ne (tgt := 12) hx hb dX13_isOne_1 (by decide) (fun c9 => ?_) (fun c9 => ?_)
  rotate_left
  · first | exact absurd c9 (by decide +kernel) | exact absurd (by decide +kernel) c9
  refine lv_iload_n hx hb dX13_isOne_12 rfl (lv_at hl 1 rfl) ?_
  refine lv_iconst (v := 1) hx hb dX13_isOne_13 (by decide +kernel) ?_
  refine lv_icmp_ne (tgt := 25) hx hb dX13_isOne_14 (by decide) (fun c9 => ?_) (fun c9 => ?_)
  rotate_left
  · first | exact absurd c9 (by decide +kernel) | exact absurd (by decide +kernel) c9
  refine lv_aload_n hx hb dX13_isOne_25 rfl (lv_at hl 0 rfl) ?_
  refine lv_iload_n hx hb dX13_isOne_26 rfl (lv_at hl 2 rfl) ?_
  have hFc := va_free (wc := [(m0, .inr (13, m0g)), (mch, .inl (mchC, (4, .inl (fun _ => 0))))]) hD hS hA [0, 1] rfl
  refine va_calli (va_runV (As := [.int p1]) (rest := []) ⟨hx, hb, hml, hown, hts⟩ (ct_X13_isChip l dC dI _ p1 m0 m0g mch mchC (h_m0.sub [13] rfl)) (cwV 1 hts (gi_V wd_4084 wd_4086 wd_217 wd_340 wd_4087) rfl rfl rfl (by decide +kernel) ⟨(Nat.le_of_ble_eq_true rfl), (Nat.le_of_ble_eq_true rfl)⟩) ⟨fun a U g mk q => by obtain ⟨q0, q1, qP, qK, qD⟩ := q; exact ⟨q0, q1, qP, va_K.moved (u := U) (U := U.calling g mk a) (Vm.Alike.refl U.vm) qK, qD⟩, va_recv hK hP (ci := 13) (q0 := 0) rfl rfl, fun U hU hW => ⟨rfl, by rw [hU], by rw [hU]; exact hP, va_K.moved hW.alike hK, hD.weaken (fun _ _ _ _ => trivial)⟩⟩ rfl rfl hl.1 rfl (lv_room (Nat.le_of_ble_eq_true rfl)) dX13_isOne_27 ⟨(Nat.le_of_ble_eq_true rfl), (Nat.le_of_ble_eq_true rfl)⟩) hS (fun q _ h => hFc q h) hFc (fun r u t H1 locs ht hvm hw hB hz1 hk1 hS => ?_)
  subst hw
  obtain ⟨hP1, hK1, hD1⟩ := hB
  rw [ht] at hP1
  have hD := hD1.weaken (fun k q _ h => hFc q.1 h)
  have hP := hP1
  generalize H1 = H at hP hS ⊢
  have hP : va_P (dC, dI) CL [(m0, .inr (13, m0g)), (mch, .inl (mchC, (4, .inl (fun _ => 0))))] H := hP
  have hD : va_D A [(m0, .inr (13, m0g)), (mch, .inl (mchC, (4, .inl (fun _ => 0))))] := hD
  exact W.zret (v := 0) hx hb hr rfl (fun t ht hW => ⟨⟨0, (), rfl, rfl, m0g, h_m0, by rw [ht]; exact hP, va_K.moved hW.alike hK, hD⟩, hS.F ht⟩) hS.2.2 dX13_isOne_30
set_option maxHeartbeats 4000000 in
set_option maxRecDepth 100000 in
theorem gx122_X13_isThere (l : Launch) (hlt : l.stackTraces = false) (dC : Nat → ClassId) (dI : Nat → Nat → Nat) (sz : Nat) (p1 : Int32) (m0 mch md ml : Nat) (m0g : List Value) (h_m0 : fx m0g 225 [(0, .int 0), (2, .int 0), (3, .int 0), (9, .int 0), (10, .int 0), (11, .int 0), (12, .int 0), (27, .int 0), (55, .ref md), (79, .int 0), (83, .int 0), (88, .ref ml), (95, .int 0), (138, .ref mch)]) (mchC : ClassId) (zk : p1 < 0) : Met l yX13_isThere (Cond.code yX13_isThere cX13_isThere 3 (some .boolean) :: BG) ({ frames := 3, cells := 0, slots := 0, locals := 55 }) (va_Pc [.ref m0, .int 2, .int p1] (fun U => U.heap.size = sz ∧ va_P (dC, dI) CL [(m0, .inr (13, m0g)), (mch, .inl (mchC, (4, .inl (fun _ => 0))))] U.heap ∧ va_K (dC, dI) CL [(mchC, .boolean)] U ∧ va_D (fun _ => True) [(m0, .inr (13, m0g)), (mch, .inl (mchC, (4, .inl (fun _ => 0))))] ∧ th (va_A [(m0, .inr (13, m0g)), (mch, .inl (mchC, (4, .inl (fun _ => 0))))] sz) U U.heap)) (va_Qi (fun (r : Int32) (_ : Unit) => r = 0) (fun _ t => ∃ (m0y : List Value), fx m0y 225 [(0, .int 0), (2, .int 0), (3, .int 0), (9, .int 0), (10, .int 0), (11, .int 0), (12, .int 0), (27, .int 0), (55, .ref md), (79, .int 0), (83, .int 0), (88, .ref ml), (95, .int 0), (138, .ref mch)] ∧ va_P (dC, dI) CL [(m0, .inr (13, m0y)), (mch, .inl (mchC, (4, .inl (fun _ => 0))))] t.heap ∧ va_K (dC, dI) CL [(mchC, .boolean)] t ∧ va_D (va_A [(m0, .inr (13, m0g)), (mch, .inl (mchC, (4, .inl (fun _ => 0))))] sz) [(m0, .inr (13, m0y)), (mch, .inl (mchC, (4, .inl (fun _ => 0))))]) (va_A [(m0, .inr (13, m0g)), (mch, .inl (mchC, (4, .inl (fun _ => 0))))] sz)) 0 0 (va_A [(m0, .inr (13, m0g)), (mch, .inl (mchC, (4, .inl (fun _ => 0))))] sz) := by
  refine Met.ofW (cc := cX13_isThere) (maxL := 3) (ret := (some .boolean)) (by decide) rfl ?_
  intro p e s m args below meth c s₁ B hml hv
  obtain ⟨rfl, hsz, hP, hK, hD0, hth⟩ := hv
  have hx := B.exec
  have hb := B.bytes
  have hr := B.returns
  have hts : ∀ w ∈ BG, w.before _ s = true := fun w h => atoms_spec (ws := Cond.code yX13_isThere cX13_isThere 3 (some .boolean) :: BG) B.pre w (List.mem_cons_of_mem _ h)
  have hown : s.vm.findClass RX13 = some m.cls := findClass_of_methodNamed B.named
  have hlocks := B.notSynchronized
  subst hsz
  have hD := hD0.self (sz := s.heap.size)
  generalize hAe : va_A [(m0, .inr (13, m0g)), (mch, .inl (mchC, (4, .inl (fun _ => 0))))] s.heap.size = A at hD hth ⊢
  have hA : ∀ q : Nat, s.heap.size ≤ q → A q := fun q h => by rw [← hAe]; exact Or.inr h
  have hS : va_S A s.heap s.heap [] := va_S.rf
  have hl := lv_entry ([.ref m0, .int 2, .int p1]) (n := 3) (Nat.le_of_ble_eq_true rfl)
  rw [lg_entry_eq]
  generalize (lg_sl ([.ref m0, .int 2, .int p1]) ++ List.replicate (3 - (lg_sl ([.ref m0, .int 2, .int p1])).length) Slot.unset).toArray = ls at hl ⊢
  have hl : lv_has ls 3 [(0, .ref m0), (1, .int 2), (2, .int p1)] := hl
  obtain ⟨H, eH⟩ : ∃ z, z = s.heap := ⟨_, rfl⟩
  have hP : va_P (dC, dI) CL [(m0, .inr (13, m0g)), (mch, .inl (mchC, (4, .inl (fun _ => 0))))] H := by rw [eH]; exact hP
  have hS : va_S A s.heap H [] := by rw [eH]; exact hS
  rw [← eH]
  refine lv_aload_n hx hb dX13_isThere_0 rfl (lv_at hl 0 rfl) ?_
  refine lv_iload_n hx hb dX13_isThere_1 rfl (lv_at hl 1 rfl) ?_
  refine lv_iconst (v := 0) hx hb dX13_isThere_2 (by decide +kernel) ?_
  refine lv_iconst (v := 2) hx hb dX13_isThere_3 (by decide +kernel) ?_
  have hFc := va_free (wc := [(m0, .inr (13, m0g)), (mch, .inl (mchC, (4, .inl (fun _ => 0))))]) hD hS hA [0, 1] rfl
  refine va_calli (va_runS (As := [.int 2, .int 0, .int 2]) (rest := [.ref m0]) ⟨hx, hb, hml, hown, hts⟩ (gx59_X13_within l hlt dC dI _ m0 mch md ml m0g h_m0 mchC) (cwS 3 hts (gi_S wd_3825 wd_3826 wd_340 wd_3827) rfl rfl rfl (by decide +kernel) ⟨(Nat.le_of_ble_eq_true rfl), (Nat.le_of_ble_eq_true rfl)⟩) ⟨fun a U g mk q => by obtain ⟨q0, q1, qP, qK, qD, qT⟩ := q; exact ⟨q0, q1, qP, va_K.moved (u := U) (U := U.calling g mk a) (Vm.Alike.refl U.vm) qK, qD, th.moved (u := U) (U := U.calling g mk a) (Vm.Alike.refl U.vm) qT⟩, fun U hU hW => ⟨rfl, by rw [hU], by rw [hU]; exact hP, va_K.moved hW.alike hK, hD.weaken (fun _ _ _ _ => trivial), by rw [hU]; exact ((hth.kept hS.2.1).narrow hFc).moved hW.alike⟩⟩ rfl rfl hl.1 rfl (lv_room (Nat.le_of_ble_eq_true rfl)) dX13_isThere_4 ⟨(Nat.le_of_ble_eq_true rfl), (Nat.le_of_ble_eq_true rfl)⟩) hS (fun q _ h => hFc q h) hFc (fun r u t H1 locs ht hvm hw hB hz1 hk1 hS => ?_)
  subst hw
  obtain ⟨fs_1, h_m0, hP1, hK1, hD1⟩ := hB
  rw [ht] at hP1
  have hD := hD1.weaken (fun k q _ h => hFc q.1 h)
  have hP := hP1
  generalize H1 = H at hP hS ⊢
  have hP : va_P (dC, dI) CL [(m0, .inr (13, fs_1)), (mch, .inl (mchC, (4, .inl (fun _ => 0))))] H := hP
  have hD : va_D A [(m0, .inr (13, fs_1)), (mch, .inl (mchC, (4, .inl (fun _ => 0))))] := hD
  refine lv_if_eq (tgt := 14) hx hb dX13_isThere_7 (by decide) (fun c9 => ?_) (fun c9 => ?_)
  · first | exact absurd c9 (by decide +kernel) | exact absurd (by decide +kernel) c9
  refine lv_iconst (v := 0) hx hb dX13_isThere_10 (by decide +kernel) ?_
  refine lv_goto (tgt := 15) hx hb dX13_isThere_11 (by decide) ?_
  refine va_put (D := (dC, dI)) (ci := 13) (v := .int 0) (ty := tyX13 0) (C := RX13) (T := TX13) (N := 225) hx hb hts inX13 tyX13 tyX13_ok nmX13 hown hK hP hD hS 0 rfl rfl 0 (by decide) (hts (.fieldLink RX13 1 "ChipFlowModel" "code" "I") wd_3032) (fun _ h9 => h9) rfl (by decide +kernel) rfl rfl (by rw [h_m0.1]; decide) dX13_isThere_15 (fun H locs hP hD hS => ?_)
  obtain ⟨fs_2, e9⟩ : ∃ z, z = fs_1.set 0 (.int 0) := ⟨_, rfl⟩
  have h_m0 : fx fs_2 225 [(0, .int 0), (2, .int 0), (3, .int 0), (9, .int 0), (10, .int 0), (11, .int 0), (12, .int 0), (27, .int 0), (55, .ref md), (79, .int 0), (83, .int 0), (88, .ref ml), (95, .int 0), (138, .ref mch)] := by rw [e9]; exact (h_m0.put (F' := [(0, .int 0), (2, .int 0), (3, .int 0), (9, .int 0), (10, .int 0), (11, .int 0), (12, .int 0), (27, .int 0), (55, .ref md), (79, .int 0), (83, .int 0), (88, .ref ml), (95, .int 0), (138, .ref mch)]) (by decide) _ rfl).sub [0, 1, 2, 3, 4, 5, 6, 7, 8, 9, 10, 11, 12, 13] rfl
  have hP : va_P (dC, dI) CL [(m0, .inr (13, fs_2)), (mch, .inl (mchC, (4, .inl (fun _ => 0))))] H := by rw [e9]; exact hP
  have hD : va_D A [(m0, .inr (13, fs_2)), (mch, .inl (mchC, (4, .inl (fun _ => 0))))] := by rw [e9]; exact hD
  clear e9
  refine lv_aload_n hx hb dX13_isThere_18 rfl (lv_at hl 0 rfl) ?_
  refine va_get (D := (dC, dI)) (ci := 13) (v := .int 0) (C := RX13) (T := TX13) (N := 225) hx hb hts inX13 hown hK hP 0 rfl rfl 0 (by decide) (hts (.fieldLink RX13 1 "ChipFlowModel" "code" "I") wd_3032) (fun _ h9 => h9) (h_m0.get 0 rfl) dX13_isThere_19 ?_
  refine lv_if_ne (tgt := 38) hx hb dX13_isThere_22 (by decide) (fun c9 => ?_) (fun c9 => ?_)
  · first | exact absurd c9 (by decide +kernel) | exact absurd (by decide +kernel) c9
  refine lv_aload_n hx hb dX13_isThere_25 rfl (lv_at hl 0 rfl) ?_
  refine lv_iload_n hx hb dX13_isThere_26 rfl (lv_at hl 1 rfl) ?_
  refine lv_iload_n hx hb dX13_isThere_27 rfl (lv_at hl 2 rfl) ?_
  have hFc := va_free (wc := [(m0, .inr (13, fs_2)), (mch, .inl (mchC, (4, .inl (fun _ => 0))))]) hD hS hA [0, 1] rfl
  refine va_calli (va_runV (As := [.int 2, .int p1]) (rest := []) ⟨hx, hb, hml, hown, hts⟩ (gx123_X13_isOne l hlt dC dI _ p1 m0 mch md ml fs_2 h_m0 mchC zk) (cwV 2 hts (gi_V wd_4072 wd_4074 wd_214 wd_340 wd_4075) rfl rfl rfl (by decide +kernel) ⟨(Nat.le_of_ble_eq_true rfl), (Nat.le_of_ble_eq_true rfl)⟩) ⟨fun a U g mk q => by obtain ⟨q0, q1, qP, qK, qD, qT⟩ := q; exact ⟨q0, q1, qP, va_K.moved (u := U) (U := U.calling g mk a) (Vm.Alike.refl U.vm) qK, qD, th.moved (u := U) (U := U.calling g mk a) (Vm.Alike.refl U.vm) qT⟩, va_recv hK hP (ci := 13) (q0 := 0) rfl rfl, fun U hU hW => ⟨rfl, by rw [hU], by rw [hU]; exact hP, va_K.moved hW.alike hK, hD.weaken (fun _ _ _ _ => trivial), by rw [hU]; exact ((hth.kept hS.2.1).narrow hFc).moved hW.alike⟩⟩ rfl rfl hl.1 rfl (lv_room (Nat.le_of_ble_eq_true rfl)) dX13_isThere_28 ⟨(Nat.le_of_ble_eq_true rfl), (Nat.le_of_ble_eq_true rfl)⟩) hS (fun q _ h => hFc q h) hFc (fun r u t H1 locs ht hvm hw hB hz1 hk1 hS => ?_)
  subst hw
  obtain ⟨fs_3, h_m0, hP1, hK1, hD1⟩ := hB
  rw [ht] at hP1
  have hD := hD1.weaken (fun k q _ h => hFc q.1 h)
  have hP := hP1
  generalize H1 = H at hP hS ⊢
  have hP : va_P (dC, dI) CL [(m0, .inr (13, fs_3)), (mch, .inl (mchC, (4, .inl (fun _ => 0))))] H := hP
  have hD : va_D A [(m0, .inr (13, fs_3)), (mch, .inl (mchC, (4, .inl (fun _ => 0))))] := hD
  refine lv_if_eq (tgt := 38) hx hb dX13_isThere_31 (by decide) (fun c9 => ?_) (fun c9 => ?_)
  rotate_left
  · first | exact absurd c9 (by decide +kernel) | exact absurd (by decide +kernel) c9
  refine lv_iconst (v := 0) hx hb dX13_isThere_38 (by decide +kernel) ?_
  exact W.zret (v := 0) hx hb hr rfl (fun t ht hW => ⟨⟨0, (), rfl, rfl, fs_3, h_m0, by rw [ht]; exact hP, va_K.moved hW.alike hK, hD⟩, hS.F ht⟩) hS.2.2 dX13_isThere_39
