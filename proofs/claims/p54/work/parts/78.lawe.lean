/-! what holds at the law's entry -/
def R_law : String := "ChipFlowLaw"
def lw_P (b : Addr) (xs : List Int32) (args : Array Value) (s : State) : Prop := args = #[.ref b] ∧ s.IntsAt b xs ∧ xs.length ≤ 448 ∧ (Jvm.Cond.and given_1 narrow_1).before args s = true
def lw_Q (_ : Array Value) (s : State) (o : Outcome) (t : State) : Prop := o = .returned (some (.int 1)) ∧ Framed s o t [] 600128 7301098
def lw_Z (below : List Frame) (a : Array Value) (s : State) : State → Prop := fun t => ∃ o, t.status = .running ∧ Ended t below o ∧ lw_Q a s o t
def lw_At (p : Program) (s : State) (m : MethodId) (meth : Method) (c : Code) (b L : Nat) (xs : Nat → Int32) : Prop :=
  p.tables.exec = Jvm.exec ∧ c.code = code ∧ meth.sig.returnType = ret ∧ c.maxLocals = 7 ∧ s.vm.findClass R_law = some m.cls ∧ (∀ w ∈ lw_tbl, w.before #[Value.ref b] s = true) ∧ va_X b L xs s s.heap ∧ b < s.heap.size ∧ meth.locks = false ∧ (Jvm.Cond.and given_1 narrow_1).before #[Value.ref b] s = true ∧ c.exceptionTable.toList = []
theorem lwm {k i : Nat} {w : Cond} (h : (tb_K k)[i]? = some w) : w ∈ lw_tbl := tb_Kin (List.mem_of_getElem? h)
section LWE
variable {p : Program} {s : State} {m : MethodId} {meth : Method} {c : Code} {b L : Nat} {xs : Nat → Int32}
theorem law_ne (C0 : lw_At p s m meth c b L xs) : ne s := by
  obtain ⟨-, -, -, -, -, hts0, -⟩ := id C0
  refine ⟨fun q hq => ?_, va_AO.of (hts0 (.arrayOver (.object "ChipFlow$Design")) (lwm (k := 2) (i := 193) rfl)), va_AO.of (hts0 (.arrayOver (.object "ChipFlow$Library")) (lwm (k := 3) (i := 43) rfl)), va_AO.of (hts0 (.arrayOver (.object "ChipFlow$Chip")) (lwm (k := 3) (i := 90) rfl))⟩
  obtain ⟨x, hx, rfl⟩ := List.mem_map.mp hq
  exact va_Nw.of rfl (hts0 _ (lwm (of_decide_eq_true (List.all_eq_true.mp cm_nl1 x hx))))
set_option maxHeartbeats 2000000 in
set_option maxRecDepth 100000 in
theorem law_th (C0 : lw_At p s m meth c b L xs) : th (fun q : Nat => s.heap.size ≤ q) s s.heap := by
  obtain ⟨-, -, -, -, -, hts0, -, -, -, hgv, -⟩ := id C0
  have hg := flat_of_before _ hgv
  exact ⟨vx_Zqof (hts0 (.laysStatic Bundle.tN "UNASSIGNED_STACK" Bundle.steD) (lwm (k := 4) (i := 231) rfl)) (hts0 (.initialized Bundle.tN) (lwm (k := 1) (i := 15) rfl)) (hg (.isRef (.static Bundle.tN "UNASSIGNED_STACK" Bundle.steD)) (by decide +kernel)) (fun a h => Nat.not_le.mpr h), vx_Zqof (hts0 (.laysStatic Bundle.tN "SUPPRESSED_SENTINEL" Bundle.listD) (lwm (k := 4) (i := 233) rfl)) (hts0 (.initialized Bundle.tN) (lwm (k := 1) (i := 15) rfl)) (hg (.isRef (.static Bundle.tN "SUPPRESSED_SENTINEL" Bundle.listD)) (by decide +kernel)) (fun a h => Nat.not_le.mpr h), List.forall_mem_cons.mpr ⟨(va_Nw.of rfl (hts0 (.castable "java/lang/IndexOutOfBoundsException" "java/lang/IndexOutOfBoundsException") (lwm (k := 7) (i := 52) rfl))), List.forall_mem_cons.mpr ⟨(va_Nw.of rfl (hts0 (.castable "java/lang/IllegalArgumentException" "java/lang/IllegalArgumentException") (lwm (k := 5) (i := 47) rfl))), List.forall_mem_cons.mpr ⟨(va_Nw.of rfl (hts0 (.castable "java/lang/IllegalStateException" "java/lang/IllegalStateException") (lwm (k := 5) (i := 195) rfl))), List.forall_mem_cons.mpr ⟨(va_Nw.of rfl (hts0 (.castable "java/lang/UnsupportedOperationException" "java/lang/UnsupportedOperationException") (lwm (k := 4) (i := 206) rfl))), fun _ h => nomatch h⟩⟩⟩⟩, List.forall_mem_cons.mpr ⟨List.forall_mem_cons.mpr ⟨fun h9 => absurd rfl h9, List.forall_mem_cons.mpr ⟨fun _ => va_Nc.of (hg (.not (.castable "java/lang/IndexOutOfBoundsException" "java/lang/IllegalArgumentException")) (by decide +kernel)), List.forall_mem_cons.mpr ⟨fun _ => va_Nc.of (hg (.not (.castable "java/lang/IndexOutOfBoundsException" "java/lang/IllegalStateException")) (by decide +kernel)), List.forall_mem_cons.mpr ⟨fun _ => va_Nc.of (hg (.not (.castable "java/lang/IndexOutOfBoundsException" "java/lang/UnsupportedOperationException")) (by decide +kernel)), fun _ h => nomatch h⟩⟩⟩⟩, List.forall_mem_cons.mpr ⟨List.forall_mem_cons.mpr ⟨fun _ => va_Nc.of (hg (.not (.castable "java/lang/IllegalArgumentException" "java/lang/IndexOutOfBoundsException")) (by decide +kernel)), List.forall_mem_cons.mpr ⟨fun h9 => absurd rfl h9, List.forall_mem_cons.mpr ⟨fun _ => va_Nc.of (hg (.not (.castable "java/lang/IllegalArgumentException" "java/lang/IllegalStateException")) (by decide +kernel)), List.forall_mem_cons.mpr ⟨fun _ => va_Nc.of (hg (.not (.castable "java/lang/IllegalArgumentException" "java/lang/UnsupportedOperationException")) (by decide +kernel)), fun _ h => nomatch h⟩⟩⟩⟩, List.forall_mem_cons.mpr ⟨List.forall_mem_cons.mpr ⟨fun _ => va_Nc.of (hg (.not (.castable "java/lang/IllegalStateException" "java/lang/IndexOutOfBoundsException")) (by decide +kernel)), List.forall_mem_cons.mpr ⟨fun _ => va_Nc.of (hg (.not (.castable "java/lang/IllegalStateException" "java/lang/IllegalArgumentException")) (by decide +kernel)), List.forall_mem_cons.mpr ⟨fun h9 => absurd rfl h9, List.forall_mem_cons.mpr ⟨fun _ => va_Nc.of (hg (.not (.castable "java/lang/IllegalStateException" "java/lang/UnsupportedOperationException")) (by decide +kernel)), fun _ h => nomatch h⟩⟩⟩⟩, List.forall_mem_cons.mpr ⟨List.forall_mem_cons.mpr ⟨fun _ => va_Nc.of (hg (.not (.castable "java/lang/UnsupportedOperationException" "java/lang/IndexOutOfBoundsException")) (by decide +kernel)), List.forall_mem_cons.mpr ⟨fun _ => va_Nc.of (hg (.not (.castable "java/lang/UnsupportedOperationException" "java/lang/IllegalArgumentException")) (by decide +kernel)), List.forall_mem_cons.mpr ⟨fun _ => va_Nc.of (hg (.not (.castable "java/lang/UnsupportedOperationException" "java/lang/IllegalStateException")) (by decide +kernel)), List.forall_mem_cons.mpr ⟨fun h9 => absurd rfl h9, fun _ h => nomatch h⟩⟩⟩⟩, fun _ h => nomatch h⟩⟩⟩⟩, List.forall_mem_cons.mpr ⟨(va_Nw.of rfl (hts0 (.declares (Bundle.init0 "java/lang/RuntimeException")) (lwm (k := 4) (i := 207) rfl))), List.forall_mem_cons.mpr ⟨(va_Nw.of rfl (hts0 (.declares (Bundle.init0 "java/lang/Exception")) (lwm (k := 4) (i := 209) rfl))), List.forall_mem_cons.mpr ⟨(va_Nw.of rfl (hts0 (.declares (Bundle.init0 "java/lang/Throwable")) (lwm (k := 4) (i := 211) rfl))), fun _ h => nomatch h⟩⟩⟩⟩
def lw_stt (j : Nat) : Term := .static (sm_stn.getD j ("", "", "")).1 (sm_stn.getD j ("", "", "")).2.1 (sm_stn.getD j ("", "", "")).2.2
def lw_stx (j k : Nat) : Term := if sm_stl j then .long (Int64.ofInt ((sm_stv.getD j []).getD k 0)) else .int (Int32.ofInt ((sm_stv.getD j []).getD k 0))
set_option maxRecDepth 100000 in
theorem lw_stc : (List.range 5).all (fun j => decide (Cond.arrayOf (lw_stt j) (sm_sty j) ∈ flatC (Jvm.Cond.and given_1 narrow_1)) && decide (Cond.eq (.length (lw_stt j)) (.int (Int32.ofNat (sm_stv.getD j []).length)) ∈ flatC (Jvm.Cond.and given_1 narrow_1)) && (List.range (sm_stv.getD j []).length).all fun k => decide (Cond.eq (.elem (lw_stt j) (.int (Int32.ofNat k))) (lw_stx j k) ∈ flatC (Jvm.Cond.and given_1 narrow_1))) = true := by decide +kernel
def lw_stL : List (Nat × Nat × Nat × Nat) := [(5, 93, 1, 2), (6, 59, 1, 3), (6, 218, 1, 4), (8, 8, 1, 5), (7, 209, 1, 5)]
set_option maxRecDepth 100000 in
theorem lw_stw : (List.range 5).all (fun j => decide ((tb_K (lw_stL.getD j (0, 0, 0, 0)).1)[(lw_stL.getD j (0, 0, 0, 0)).2.1]? = some (Cond.laysStatic (sm_stn.getD j ("", "", "")).1 (sm_stn.getD j ("", "", "")).2.1 (sm_stn.getD j ("", "", "")).2.2)) && decide ((tb_K (lw_stL.getD j (0, 0, 0, 0)).2.2.1)[(lw_stL.getD j (0, 0, 0, 0)).2.2.2]? = some (Cond.initialized (sm_stn.getD j ("", "", "")).1))) = true := by decide +kernel
theorem law_st1 (C0 : lw_At p s m meth c b L xs) {j : Nat} (hj : j < 5) : ∃ a : Nat, va_Z (sm_stn.getD j ("", "", "")).1 (sm_stn.getD j ("", "", "")).2.1 (sm_stn.getD j ("", "", "")).2.2 (.ref a) (fun q : Nat => s.heap.size ≤ q) s s.heap ∧ va_T (sm_sty j) a (sm_stv.getD j []).length (sm_sva j) (fun q : Nat => s.heap.size ≤ q) s s.heap := by
  obtain ⟨-, -, -, -, -, hts0, -, -, -, hgv, -⟩ := id C0
  have hg := flat_of_before _ hgv
  have h1 := List.all_eq_true.mp lw_stc j (List.mem_range.mpr hj)
  have h2 := List.all_eq_true.mp lw_stw j (List.mem_range.mpr hj)
  simp only [Bool.and_eq_true, decide_eq_true_eq] at h1 h2
  have h5 := (nt_svj hj).2.1
  have hel : ∀ k : Nat, k < (sm_stv.getD j []).length → (Term.elem (lw_stt j) (.int (Int32.ofNat k))).eval #[Value.ref b] s none [] s = some (sm_sva j k) := by
    intro k hk
    have h3 := hg _ (of_decide_eq_true (List.all_eq_true.mp h1.2 k (List.mem_range.mpr hk)))
    unfold lw_stx at h3
    unfold sm_sva
    split at h3
    · rename_i q
      rw [if_pos q]
      exact va_eqtl h3
    · rename_i q
      rw [if_neg q]
      exact va_eqt h3
  obtain ⟨t, ht, hT⟩ := va_Tof (f := sm_sva j) (A := fun q : Nat => s.heap.size ≤ q) (N := (sm_stv.getD j []).length) (by omega) (hg _ h1.1.1) (va_eqt (hg _ h1.1.2)) hel (fun a h => Nat.not_le.mpr h)
  exact ⟨t, va_Zof (hts0 _ (lwm h2.1)) (hts0 _ (lwm h2.2)) ht (fun a h => Nat.not_le.mpr h), hT⟩
/-- the signs -/
def lw_sgt : Term := .string "ChipFlow$Text" 67
set_option maxRecDepth 100000 in
theorem lw_sgc : ((Cond.exactly lw_sgt "java/lang/String" ∈ flatC (Jvm.Cond.and given_1 narrow_1) ∧ Cond.eq (.field lw_sgt "java/lang/String" "coder" "B") (.int 0) ∈ flatC (Jvm.Cond.and given_1 narrow_1)) ∧ Cond.arrayOf (.field lw_sgt "java/lang/String" "value" "[B") .byte ∈ flatC (Jvm.Cond.and given_1 narrow_1) ∧ Cond.eq (.length (.field lw_sgt "java/lang/String" "value" "[B")) (.int (Int32.ofNat 16)) ∈ flatC (Jvm.Cond.and given_1 narrow_1)) ∧ Cond.eq (.static "java/lang/String" "COMPACT_STRINGS" "Z") (.int 1) ∈ flatC (Jvm.Cond.and given_1 narrow_1) := by decide +kernel
set_option maxRecDepth 100000 in
theorem lw_sge : (List.range 16).all (fun k => decide (Cond.eq (.elem (.field lw_sgt "java/lang/String" "value" "[B") (.int (Int32.ofNat k))) (.int (sg_b.getD k 0)) ∈ flatC (Jvm.Cond.and given_1 narrow_1))) = true := by decide +kernel
theorem law_sg (C0 : lw_At p s m meth c b L xs) : ∃ aS aV : Nat, sg_E aS aV (fun q : Nat => s.heap.size ≤ q) s s.heap ∧ sg_R aS s := by
  obtain ⟨-, -, -, -, -, hts0, -, -, -, hgv, -⟩ := id C0
  have hg := flat_of_before _ hgv
  obtain ⟨⟨⟨c1, c2⟩, c3, c4⟩, c5⟩ := lw_sgc
  have i0 : ∀ i : Nat, i < 1 → i = 0 := fun i h => by omega
  obtain ⟨aK, aV, h1, h2⟩ := vk_Sof (args := #[Value.ref b]) (s := s) (N := 1) (tm := fun _ => lw_sgt) (len := [16]) (byt := [sg_b]) (A := fun q : Nat => s.heap.size ≤ q) (fun i h => by rw [i0 i h]; decide) (fun _ _ => hg _ c1) (fun _ _ => hg _ c2) (fun _ _ => hg _ c3) (fun i h => by rw [i0 i h]; exact hg _ c4) (fun i h j hj => by
    rw [i0 i h] at hj ⊢
    exact hg _ (of_decide_eq_true (List.all_eq_true.mp lw_sge j (List.mem_range.mpr hj)))) (fun i j hi hj hne => absurd ((i0 i hi).trans (i0 j hj).symm) hne) (fun a h => Nat.not_le.mpr h)
  refine ⟨aK 0, aV 0, ⟨⟨fun i hi => ?_, fun i j hi hj _ => (i0 i hi).trans (i0 j hj).symm⟩, va_Zof (hts0 (.laysStatic "java/lang/String" "COMPACT_STRINGS" "Z") (lwm (k := 5) (i := 116) rfl)) (hts0 (.initialized "java/lang/String") (lwm (k := 1) (i := 20) rfl)) (va_eqt (hg _ c5)) (fun a h => Nat.not_le.mpr h)⟩, vk_R.of (hts0 (.stringRef "ChipFlow$Text" 67 "(){};,=.:&|^!+?@") (lwm (k := 5) (i := 102) rfl)) (h2 0 (by decide))⟩
  have h3 := h1.1 0 (by decide)
  rw [i0 i hi]
  exact h3
def lw_sc (L : Nat) (xs : Nat → Int32) : Nat × (Nat → Int) := (L, fun j => (xs j).toInt)
theorem law_sc (hL : L ≤ 448) (C0 : lw_At p s m meth c b L xs) : sm_sc (lw_sc L xs) b (fun q : Nat => s.heap.size ≤ q) s s.heap := by
  obtain ⟨-, -, -, -, -, -, hX, hbl, -⟩ := id C0
  obtain ⟨scr, g1, g2, g3, g4, g5⟩ := hX
  refine ⟨hL, fun j => ?_, scr, g1, g2, g3, by rw [g4]; exact Nat.le_refl _, by rw [g4]; rfl, fun j hj => ?_, Nat.not_le.mpr hbl⟩
  · have h1 := (xs j).le_toInt
    have h2 := (xs j).toInt_lt
    show sm_ni (xs j).toInt
    unfold sm_ni
    omega
  · show scr.slots[j]? = some (.int (Int32.ofInt (xs j).toInt))
    rw [g5 j hj, Int32.ofInt_toInt]
theorem law_ev (hL : L ≤ 448) (C0 : lw_At p s m meth c b L xs) : ∃ oth : Nat → Nat, oth 302 = b ∧ ∀ (adr : Nat → Nat), sm_ev (lw_sc L xs) (cm_adr adr oth) (fun q : Nat => s.heap.size ≤ q) s s.heap := by
  obtain ⟨aS, aV, hE, hR⟩ := law_sg C0
  have hst : ∀ j : Nat, ∃ a : Nat, j < 5 → va_Z (sm_stn.getD j ("", "", "")).1 (sm_stn.getD j ("", "", "")).2.1 (sm_stn.getD j ("", "", "")).2.2 (.ref a) (fun q : Nat => s.heap.size ≤ q) s s.heap ∧ va_T (sm_sty j) a (sm_stv.getD j []).length (sm_sva j) (fun q : Nat => s.heap.size ≤ q) s s.heap := by
    intro j
    by_cases hj : j < 5
    · obtain ⟨a, h⟩ := law_st1 C0 hj
      exact ⟨a, fun _ => h⟩
    · exact ⟨0, fun h => absurd h hj⟩
  obtain ⟨f, hf⟩ := Classical.axiomOfChoice hst
  refine ⟨fun t => if t = 301 then aS else if t = 302 then b else f (t - 296), rfl, fun adr => ⟨law_th C0, fun j q hq => ?_, ⟨aV, hE⟩, hR, law_sc hL C0⟩⟩
  have hj : j < 5 := (List.getElem?_eq_some_iff.mp hq).1
  have e1 : sm_stn.getD j ("", "", "") = q := by rw [List.getD_eq_getElem?_getD, hq]; rfl
  have e2 : cm_adr adr (fun t => if t = 301 then aS else if t = 302 then b else f (t - 296)) (296 + j) 0 = f j := by
    unfold cm_adr
    rw [if_neg (by omega)]
    show (if 296 + j = 301 then aS else if 296 + j = 302 then b else f (296 + j - 296)) = f j
    rw [if_neg (by omega), if_neg (by omega), Nat.add_sub_cancel_left]
  have h := hf j hj
  rw [e1] at h
  rw [e2]
  exact h
/-- the classes of arrays -/
theorem law_K (C0 : lw_At p s m meth c b L xs) : ∃ K : Nat → ClassId, ∀ (k : Nat) (q : ClassId × FieldType), (sm_tys K)[k]? = some q → ArrOfT s q.1 q.2 ∧ va_RA s q.1 q.2 := by
  obtain ⟨-, -, -, -, -, hts0, -⟩ := id C0
  have hts : ∀ w ∈ BG, w.before #[Value.ref b] s = true := fun w h => hts0 w (List.mem_filter.mp h).1
  have hne := law_ne C0
  obtain ⟨c0, k0, m0, f0, g0, h0⟩ := Cond.arrayClass_spec (hts _ cm_wa0)
  obtain ⟨c1, k1, m1, f1, g1, h1⟩ := Cond.arrayClass_spec (hts _ cm_wa1)
  obtain ⟨c2, k2, m2, f2, g2, h2⟩ := Cond.arrayClass_spec (hts _ cm_wa2)
  obtain ⟨c3, k3, m3, f3, g3, h3⟩ := Cond.arrayClass_spec (hts _ cm_wa3)
  obtain ⟨m4, c4, k4, e4, -, g4, h4, f4⟩ := Cond.arrayOver_spec hne.2.1
  obtain ⟨m5, c5, k5, e5, -, g5, h5, f5⟩ := Cond.arrayOver_spec hne.2.2.1
  obtain ⟨m6, c6, k6, e6, -, g6, h6, f6⟩ := Cond.arrayOver_spec hne.2.2.2
  refine ⟨fun k => if k = 0 then c0 else if k = 1 then c1 else if k = 2 then c2 else if k = 3 then c3 else if k = 4 then c4 else if k = 5 then c5 else c6, ?_⟩
  intro k q hq
  rcases k with _ | _ | _ | _ | _ | _ | _ | k
  · cases hq; exact ⟨fun n z => ⟨fun k h => (by cases h), k0, g0, m0, h0⟩, f0⟩
  · cases hq; exact ⟨fun n z => ⟨fun k h => (by cases h), k1, g1, m1, h1⟩, f1⟩
  · cases hq; exact ⟨fun n z => ⟨fun k h => (by cases h), k2, g2, m2, h2⟩, f2⟩
  · cases hq; exact ⟨fun n z => ⟨fun k h => (by cases h), k3, g3, m3, h3⟩, f3⟩
  · cases hq; exact ⟨fun n z => ⟨fun k h => (by cases h), k4, g4, m4, h4⟩, k4, m4, g4, h4, e4, f4⟩
  · cases hq; exact ⟨fun n z => ⟨fun k h => (by cases h), k5, g5, m5, h5⟩, k5, m5, g5, h5, e5, f5⟩
  · cases hq; exact ⟨fun n z => ⟨fun k h => (by cases h), k6, g6, m6, h6⟩, k6, m6, g6, h6, e6, f6⟩
  · simp [sm_tys] at hq
theorem law_D (C0 : lw_At p s m meth c b L xs) : ∃ D : va_G, ∀ (k : Nat) (q : vw_C), CL[k]? = some q → u_Kn s q.1 q.2.1 q.2.2 (D.1 k) (D.2 k) := by
  obtain ⟨-, -, -, -, -, hts0, -⟩ := id C0
  have hts : ∀ w ∈ BG, w.before #[Value.ref b] s = true := fun w h => hts0 w (List.mem_filter.mp h).1
  have h1 : ∀ k : Nat, ∃ d : ClassId × (Nat → Nat), ∀ q : vw_C, CL[k]? = some q → u_Kn s q.1 q.2.1 q.2.2 d.1 d.2 := by
    intro k
    by_cases hk : k < 14
    · obtain ⟨o1, o2, o3, o4, o5⟩ := sh_oks hk
      obtain ⟨w1, -⟩ := cm_isc_spec (ci := k) (cm_isc_all hk)
      obtain ⟨c0, iS0, hKn0⟩ := u_known (C := sh_R k) (T := sh_T k) (N := (sh_kd k).2.2) (n := (sh_kd k).2.2) hts o3 (hts _ w1.2.2.2.1)
      refine ⟨(c0, iS0), fun q hq => ?_⟩
      cases o1.symm.trans hq
      exact hKn0
    · refine ⟨(default, fun _ => 0), fun q hq => ?_⟩
      have := (List.getElem?_eq_some_iff.mp hq).1
      exact absurd this (by show ¬ k < 14; exact hk)
  obtain ⟨d, hd⟩ := Classical.axiomOfChoice h1
  exact ⟨(fun k => (d k).1, fun k => (d k).2), fun k q hq => hd k q hq⟩
end LWE
