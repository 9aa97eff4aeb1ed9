/-! rows of numbers of which some places are known -/
def fa {α : Type} (f : Nat → α) (K : List (Nat × α)) : Prop := ∀ z ∈ K, f z.1 = z.2
theorem fa.get {α : Type} {f : Nat → α} {K : List (Nat × α)} (h : fa f K) (i : Nat) {k : Nat} {v : α} (hi : K[i]? = some (k, v)) : f k = v := h _ (List.mem_of_getElem? hi)
theorem fa.sub {α : Type} {f : Nat → α} {K K' : List (Nat × α)} (h : fa f K) (is : List Nat) (hs : is.map (fun i => K[i]?) = K'.map some) : fa f K' := by
  intro z hz
  obtain ⟨j, hj⟩ := List.getElem?_of_mem hz
  have h1 : (is.map (fun i => K[i]?))[j]? = some (some z) := by rw [hs, List.getElem?_map, hj]; rfl
  rw [List.getElem?_map] at h1
  cases hi : is[j]? with
  | none => rw [hi] at h1; cases h1
  | some i =>
    rw [hi] at h1
    exact h z (List.mem_of_getElem? (Option.some.inj h1))
theorem fa.lose {f : Nat → Int32} {K : List (Nat × Int32)} (h : fa f K) {k : Nat} {x : Int32} : fa (upd f k x) (K.filter (fun z => z.1 != k)) := by
  intro z hz
  obtain ⟨h1, h2⟩ := List.mem_filter.mp hz
  rw [pk_un (by simpa using h2)]
  exact h z h1
theorem fa.put {f : Nat → Int32} {K : List (Nat × Int32)} (h : fa f K) {k : Nat} {x : Int32} : fa (upd f k x) ((k, x) :: K.filter (fun z => z.1 != k)) := by
  intro z hz
  rcases List.mem_cons.mp hz with rfl | hz
  · exact pk_us
  · exact h.lose z hz
theorem fa.putL {f : Nat → Int64} {K : List (Nat × Int64)} (h : fa f K) {k : Nat} {x : Int64} : fa (vp_updL f k x) ((k, x) :: K.filter (fun z => z.1 != k)) := by
  intro z hz
  rcases List.mem_cons.mp hz with rfl | hz
  · exact pk_uLs
  · obtain ⟨h1, h2⟩ := List.mem_filter.mp hz
    rw [pk_uLn (by simpa using h2)]
    exact h z h1
/-! small laws -/
theorem hc_lcmpE {p : Program} {l : Launch} {e : Env} {R : Room} {s : State} {m : MethodId} {args : Array Value} {below : List Frame} {meth : Method} {c : Code} {H : Heap} {locs : List Loc} {cells slots : Nat} {Q : State → Prop} {cc : ByteArray} {pc : Nat} {ls : Array Slot} {rest : List Value} (hexec : p.tables.exec = Jvm.exec) (hb : c.code = cc) {x : Int64} (hdg : decode cc pc = .ok (.lcmp, 1))
    (k : W p l e R s m args below meth c H locs cells slots Q (F0 m (pc + 1) ls (.int 0 :: rest))) : W p l e R s m args below meth c H locs cells slots Q (F0 m pc ls (.long x :: .long x :: rest)) := by
  intro T hT X
  obtain ⟨t, a, b⟩ := k T hT X
  refine ⟨t, ?_, b⟩
  jvm_step X.here [X.here.top, hexec, hb, hdg]
  first | exact a | simpa using a
theorem hx_not {x y : Int32} (h : ¬ x < y) : y ≤ x := by
  rw [Int32.lt_iff_toInt_lt] at h
  rw [Int32.le_iff_toInt_le]
  omega
theorem hx_pos {x : Int32} (h : ¬ x < 0) (h0 : ¬ x = 0) : 0 < x := by
  rw [Int32.lt_iff_toInt_lt] at h ⊢
  have h1 : x.toInt ≠ (0 : Int32).toInt := fun e => h0 (Int32.toInt_inj.mp e)
  omega
theorem hx_nle {x y : Int32} (h : y < x) : ¬ x ≤ y := by
  rw [Int32.lt_iff_toInt_lt] at h
  rw [Int32.le_iff_toInt_le]
  omega
theorem hx_rng {x : Int32} (L : Nat) (h0 : ¬ x < 0) (h : ¬ nI L ≤ x) (hL : L < 2 ^ 31) : ∃ j : Nat, j < L ∧ x = nI j := by
  obtain ⟨j, hj, ej, -⟩ := pk_mu h0 h hL
  exact ⟨j, hj, ej⟩
theorem fa_z {α : Type} [BEq α] [LawfulBEq α] {v : α} {K : List (Nat × α)} (h : K.all (fun z => z.2 == v) = true) : fa (fun _ => v) K := by
  intro z hz
  exact (eq_of_beq (List.all_eq_true.mp h z hz)).symm
theorem hx_l3 {x : Int32} (h : nI 3 ≤ x) : (2 : Int32) < x := by
  rw [Int32.le_iff_toInt_le] at h
  rw [Int32.lt_iff_toInt_lt]
  have h1 : (nI 3).toInt = 3 := by decide +kernel
  have h2 : (2 : Int32).toInt = 2 := by decide +kernel
  omega
abbrev cL_design : ByteArray := method_5_code
def yL_design : MethodName := ⟨RL, "design", "(LChipFlow;[J)I"⟩
theorem dL_design_0 : decode cL_design 0 = .ok (.aload_n 1, 1) := by decide +kernel
theorem dL_design_1 : decode cL_design 1 = .ok (.iconst 0, 1) := by decide +kernel
theorem dL_design_2 : decode cL_design 2 = .ok (.aload_n 0, 1) := by decide +kernel
theorem dL_design_3 : decode cL_design 3 = .ok (.invokevirtual 21, 3) := by decide +kernel
theorem dL_design_6 : decode cL_design 6 = .ok (.i2l, 1) := by decide +kernel
theorem dL_design_7 : decode cL_design 7 = .ok (.lastore, 1) := by decide +kernel
theorem dL_design_8 : decode cL_design 8 = .ok (.goto 6, 3) := by decide +kernel
theorem dL_design_14 : decode cL_design 14 = .ok (.iconst 0, 1) := by decide +kernel
theorem dL_design_15 : decode cL_design 15 = .ok (.ireturn, 1) := by decide +kernel
abbrev cL_drop : ByteArray := method_7_code
def yL_drop : MethodName := ⟨RL, "drop", "(LChipFlow;II)I"⟩
theorem dL_drop_0 : decode cL_drop 0 = .ok (.aload_n 0, 1) := by decide +kernel
theorem dL_drop_1 : decode cL_drop 1 = .ok (.iload_n 1, 1) := by decide +kernel
theorem dL_drop_2 : decode cL_drop 2 = .ok (.iload_n 2, 1) := by decide +kernel
theorem dL_drop_3 : decode cL_drop 3 = .ok (.invokevirtual 28, 3) := by decide +kernel
theorem dL_drop_9 : decode cL_drop 9 = .ok (.astore_n 3, 1) := by decide +kernel
theorem dL_drop_10 : decode cL_drop 10 = .ok (.iconst 1, 1) := by decide +kernel
theorem dL_drop_11 : decode cL_drop 11 = .ok (.ireturn, 1) := by decide +kernel
theorem dL_drop_12 : decode cL_drop 12 = .ok (.astore_n 3, 1) := by decide +kernel
theorem dL_drop_13 : decode cL_drop 13 = .ok (.iconst 2, 1) := by decide +kernel
theorem dL_drop_14 : decode cL_drop 14 = .ok (.ireturn, 1) := by decide +kernel
abbrev cL_end : ByteArray := method_4_code
def yL_end : MethodName := ⟨RL, "end", "(LChipFlow;I)I"⟩
theorem dL_end_0 : decode cL_end 0 = .ok (.aload_n 0, 1) := by decide +kernel
theorem dL_end_1 : decode cL_end 1 = .ok (.iload_n 1, 1) := by decide +kernel
theorem dL_end_2 : decode cL_end 2 = .ok (.invokevirtual 15, 3) := by decide +kernel
theorem dL_end_5 : decode cL_end 5 = .ok (.goto 6, 3) := by decide +kernel
theorem dL_end_8 : decode cL_end 8 = .ok (.astore_n 2, 1) := by decide +kernel
theorem dL_end_9 : decode cL_end 9 = .ok (.iconst 1, 1) := by decide +kernel
theorem dL_end_10 : decode cL_end 10 = .ok (.ireturn, 1) := by decide +kernel
theorem dL_end_11 : decode cL_end 11 = .ok (.iconst 0, 1) := by decide +kernel
theorem dL_end_12 : decode cL_end 12 = .ok (.ireturn, 1) := by decide +kernel
abbrev cL_feed : ByteArray := method_3_code
def yL_feed : MethodName := ⟨RL, "feed", "(LChipFlow;IIIII[J)I"⟩
theorem dL_feed_0 : decode cL_feed 0 = .ok (.aload 6, 2) := by decide +kernel
theorem dL_feed_2 : decode cL_feed 2 = .ok (.iconst 0, 1) := by decide +kernel
theorem dL_feed_3 : decode cL_feed 3 = .ok (.aload_n 0, 1) := by decide +kernel
theorem dL_feed_4 : decode cL_feed 4 = .ok (.iload_n 1, 1) := by decide +kernel
theorem dL_feed_5 : decode cL_feed 5 = .ok (.iload_n 2, 1) := by decide +kernel
theorem dL_feed_6 : decode cL_feed 6 = .ok (.iload_n 3, 1) := by decide +kernel
theorem dL_feed_7 : decode cL_feed 7 = .ok (.iload 4, 2) := by decide +kernel
theorem dL_feed_9 : decode cL_feed 9 = .ok (.iload 5, 2) := by decide +kernel
theorem dL_feed_11 : decode cL_feed 11 = .ok (.invokevirtual 7, 3) := by decide +kernel
theorem dL_feed_14 : decode cL_feed 14 = .ok (.i2l, 1) := by decide +kernel
theorem dL_feed_15 : decode cL_feed 15 = .ok (.lastore, 1) := by decide +kernel
theorem dL_feed_16 : decode cL_feed 16 = .ok (.goto 7, 3) := by decide +kernel
theorem dL_feed_23 : decode cL_feed 23 = .ok (.iconst 0, 1) := by decide +kernel
theorem dL_feed_24 : decode cL_feed 24 = .ok (.ireturn, 1) := by decide +kernel
abbrev cL_isThere : ByteArray := method_8_code
def yL_isThere : MethodName := ⟨RL, "isThere", "(LChipFlow;II[J)I"⟩
theorem dL_isThere_0 : decode cL_isThere 0 = .ok (.aload_n 3, 1) := by decide +kernel
theorem dL_isThere_1 : decode cL_isThere 1 = .ok (.iconst 0, 1) := by decide +kernel
theorem dL_isThere_2 : decode cL_isThere 2 = .ok (.aload_n 0, 1) := by decide +kernel
theorem dL_isThere_3 : decode cL_isThere 3 = .ok (.iload_n 1, 1) := by decide +kernel
theorem dL_isThere_4 : decode cL_isThere 4 = .ok (.iload_n 2, 1) := by decide +kernel
theorem dL_isThere_5 : decode cL_isThere 5 = .ok (.invokevirtual 34, 3) := by decide +kernel
theorem dL_isThere_8 : decode cL_isThere 8 = .ok (.ifCond .eq 7, 3) := by decide +kernel
theorem dL_isThere_15 : decode cL_isThere 15 = .ok (.lconst 0, 1) := by decide +kernel
theorem dL_isThere_16 : decode cL_isThere 16 = .ok (.lastore, 1) := by decide +kernel
theorem dL_isThere_17 : decode cL_isThere 17 = .ok (.goto 7, 3) := by decide +kernel
theorem dL_isThere_20 : decode cL_isThere 20 = .ok (.astore 4, 2) := by decide +kernel
theorem dL_isThere_22 : decode cL_isThere 22 = .ok (.iconst 1, 1) := by decide +kernel
theorem dL_isThere_23 : decode cL_isThere 23 = .ok (.ireturn, 1) := by decide +kernel
theorem dL_isThere_24 : decode cL_isThere 24 = .ok (.iconst 0, 1) := by decide +kernel
theorem dL_isThere_25 : decode cL_isThere 25 = .ok (.ireturn, 1) := by decide +kernel
abbrev cL_library : ByteArray := method_6_code
def yL_library : MethodName := ⟨RL, "library", "(LChipFlow;[J)I"⟩
theorem dL_library_0 : decode cL_library 0 = .ok (.aload_n 1, 1) := by decide +kernel
theorem dL_library_1 : decode cL_library 1 = .ok (.iconst 0, 1) := by decide +kernel
theorem dL_library_2 : decode cL_library 2 = .ok (.aload_n 0, 1) := by decide +kernel
theorem dL_library_3 : decode cL_library 3 = .ok (.invokevirtual 25, 3) := by decide +kernel
theorem dL_library_6 : decode cL_library 6 = .ok (.i2l, 1) := by decide +kernel
theorem dL_library_7 : decode cL_library 7 = .ok (.lastore, 1) := by decide +kernel
theorem dL_library_8 : decode cL_library 8 = .ok (.goto 6, 3) := by decide +kernel
theorem dL_library_14 : decode cL_library 14 = .ok (.iconst 0, 1) := by decide +kernel
theorem dL_library_15 : decode cL_library 15 = .ok (.ireturn, 1) := by decide +kernel
abbrev cL_witness : ByteArray := method_19_code
def yL_witness : MethodName := ⟨RL, "witness", "(LChipFlow;I[J)I"⟩
theorem dL_witness_0 : decode cL_witness 0 = .ok (.aload_n 2, 1) := by decide +kernel
theorem dL_witness_1 : decode cL_witness 1 = .ok (.iconst 0, 1) := by decide +kernel
theorem dL_witness_2 : decode cL_witness 2 = .ok (.aload_n 0, 1) := by decide +kernel
theorem dL_witness_3 : decode cL_witness 3 = .ok (.iload_n 1, 1) := by decide +kernel
theorem dL_witness_4 : decode cL_witness 4 = .ok (.invokevirtual 72, 3) := by decide +kernel
theorem dL_witness_12 : decode cL_witness 12 = .ok (.astore_n 3, 1) := by decide +kernel
theorem dL_witness_13 : decode cL_witness 13 = .ok (.iconst 1, 1) := by decide +kernel
theorem dL_witness_14 : decode cL_witness 14 = .ok (.ireturn, 1) := by decide +kernel
abbrev cX10_advance : ByteArray := prog_12_method_8_code
def yX10_advance : MethodName := ⟨RX10, "advance", "()V"⟩
theorem dX10_advance_0 : decode cX10_advance 0 = .ok (.aload_n 0, 1) := by decide +kernel
theorem dX10_advance_1 : decode cX10_advance 1 = .ok (.invokevirtual 46, 3) := by decide +kernel
theorem dX10_advance_4 : decode cX10_advance 4 = .ok (.aload_n 0, 1) := by decide +kernel
theorem dX10_advance_5 : decode cX10_advance 5 = .ok (.aload_n 0, 1) := by decide +kernel
theorem dX10_advance_6 : decode cX10_advance 6 = .ok (.getfield 18, 3) := by decide +kernel
theorem dX10_advance_9 : decode cX10_advance 9 = .ok (.putfield 36, 3) := by decide +kernel
theorem dX10_advance_12 : decode cX10_advance 12 = .ok (.aload_n 0, 1) := by decide +kernel
theorem dX10_advance_13 : decode cX10_advance 13 = .ok (.iconst 0, 1) := by decide +kernel
theorem dX10_advance_14 : decode cX10_advance 14 = .ok (.putfield 43, 3) := by decide +kernel
theorem dX10_advance_17 : decode cX10_advance 17 = .ok (.aload_n 0, 1) := by decide +kernel
theorem dX10_advance_18 : decode cX10_advance 18 = .ok (.getfield 18, 3) := by decide +kernel
theorem dX10_advance_21 : decode cX10_advance 21 = .ok (.aload_n 0, 1) := by decide +kernel
theorem dX10_advance_22 : decode cX10_advance 22 = .ok (.getfield 14, 3) := by decide +kernel
theorem dX10_advance_25 : decode cX10_advance 25 = .ok (.if_icmp .lt 9, 3) := by decide +kernel
theorem dX10_advance_28 : decode cX10_advance 28 = .ok (.aload_n 0, 1) := by decide +kernel
theorem dX10_advance_29 : decode cX10_advance 29 = .ok (.iconst 0, 1) := by decide +kernel
theorem dX10_advance_30 : decode cX10_advance 30 = .ok (.putfield 33, 3) := by decide +kernel
theorem dX10_advance_33 : decode cX10_advance 33 = .ok (.return_, 1) := by decide +kernel
abbrev cX10_append : ByteArray := prog_12_method_2_code
def yX10_append : MethodName := ⟨RX10, "append", "(I)V"⟩
theorem dX10_append_0 : decode cX10_append 0 = .ok (.bipush 24, 2) := by decide +kernel
theorem dX10_append_2 : decode cX10_append 2 = .ok (.istore_n 2, 1) := by decide +kernel
theorem dX10_append_3 : decode cX10_append 3 = .ok (.iload_n 2, 1) := by decide +kernel
theorem dX10_append_4 : decode cX10_append 4 = .ok (.ifCond .lt 41, 3) := by decide +kernel
theorem dX10_append_7 : decode cX10_append 7 = .ok (.aload_n 0, 1) := by decide +kernel
theorem dX10_append_8 : decode cX10_append 8 = .ok (.getfield 14, 3) := by decide +kernel
theorem dX10_append_11 : decode cX10_append 11 = .ok (.ldc 9, 2) := by decide +kernel
theorem dX10_append_13 : decode cX10_append 13 = .ok (.if_icmp .ge 26, 3) := by decide +kernel
theorem dX10_append_16 : decode cX10_append 16 = .ok (.aload_n 0, 1) := by decide +kernel
theorem dX10_append_17 : decode cX10_append 17 = .ok (.getfield 10, 3) := by decide +kernel
theorem dX10_append_20 : decode cX10_append 20 = .ok (.aload_n 0, 1) := by decide +kernel
theorem dX10_append_21 : decode cX10_append 21 = .ok (.getfield 14, 3) := by decide +kernel
theorem dX10_append_24 : decode cX10_append 24 = .ok (.iload_n 1, 1) := by decide +kernel
theorem dX10_append_25 : decode cX10_append 25 = .ok (.iload_n 2, 1) := by decide +kernel
theorem dX10_append_26 : decode cX10_append 26 = .ok (.ishr, 1) := by decide +kernel
theorem dX10_append_27 : decode cX10_append 27 = .ok (.i2b, 1) := by decide +kernel
theorem dX10_append_28 : decode cX10_append 28 = .ok (.bastore, 1) := by decide +kernel
theorem dX10_append_29 : decode cX10_append 29 = .ok (.aload_n 0, 1) := by decide +kernel
theorem dX10_append_30 : decode cX10_append 30 = .ok (.dup, 1) := by decide +kernel
theorem dX10_append_31 : decode cX10_append 31 = .ok (.getfield 14, 3) := by decide +kernel
theorem dX10_append_34 : decode cX10_append 34 = .ok (.iconst 1, 1) := by decide +kernel
theorem dX10_append_35 : decode cX10_append 35 = .ok (.iadd, 1) := by decide +kernel
theorem dX10_append_36 : decode cX10_append 36 = .ok (.putfield 14, 3) := by decide +kernel
theorem dX10_append_39 : decode cX10_append 39 = .ok (.iinc 2 (-8), 3) := by decide +kernel
theorem dX10_append_42 : decode cX10_append 42 = .ok (.goto (-39), 3) := by decide +kernel
theorem dX10_append_45 : decode cX10_append 45 = .ok (.return_, 1) := by decide +kernel
abbrev cX10_begin : ByteArray := prog_12_method_3_code
def yX10_begin : MethodName := ⟨RX10, "begin", "()V"⟩
theorem dX10_begin_0 : decode cX10_begin 0 = .ok (.aload_n 0, 1) := by decide +kernel
theorem dX10_begin_1 : decode cX10_begin 1 = .ok (.iconst 0, 1) := by decide +kernel
theorem dX10_begin_2 : decode cX10_begin 2 = .ok (.putfield 18, 3) := by decide +kernel
theorem dX10_begin_5 : decode cX10_begin 5 = .ok (.aload_n 0, 1) := by decide +kernel
theorem dX10_begin_6 : decode cX10_begin 6 = .ok (.iconst 0, 1) := by decide +kernel
theorem dX10_begin_7 : decode cX10_begin 7 = .ok (.putfield 21, 3) := by decide +kernel
theorem dX10_begin_10 : decode cX10_begin 10 = .ok (.aload_n 0, 1) := by decide +kernel
theorem dX10_begin_11 : decode cX10_begin 11 = .ok (.iconst 0, 1) := by decide +kernel
theorem dX10_begin_12 : decode cX10_begin 12 = .ok (.putfield 24, 3) := by decide +kernel
theorem dX10_begin_15 : decode cX10_begin 15 = .ok (.aload_n 0, 1) := by decide +kernel
theorem dX10_begin_16 : decode cX10_begin 16 = .ok (.invokevirtual 27, 3) := by decide +kernel
theorem dX10_begin_19 : decode cX10_begin 19 = .ok (.return_, 1) := by decide +kernel
abbrev cX10_need : ByteArray := prog_12_method_5_code
def yX10_need : MethodName := ⟨RX10, "need", "(I)V"⟩
theorem dX10_need_0 : decode cX10_need 0 = .ok (.aload_n 0, 1) := by decide +kernel
theorem dX10_need_1 : decode cX10_need 1 = .ok (.getfield 33, 3) := by decide +kernel
theorem dX10_need_4 : decode cX10_need 4 = .ok (.iload_n 1, 1) := by decide +kernel
theorem dX10_need_5 : decode cX10_need 5 = .ok (.if_icmp .eq 12, 3) := by decide +kernel
theorem dX10_need_8 : decode cX10_need 8 = .ok (.aload_n 0, 1) := by decide +kernel
theorem dX10_need_9 : decode cX10_need 9 = .ok (.iconst 2, 1) := by decide +kernel
theorem dX10_need_10 : decode cX10_need 10 = .ok (.aload_n 0, 1) := by decide +kernel
theorem dX10_need_11 : decode cX10_need 11 = .ok (.getfield 36, 3) := by decide +kernel
theorem dX10_need_14 : decode cX10_need 14 = .ok (.invokevirtual 39, 3) := by decide +kernel
abbrev cX10_skipBlanks : ByteArray := prog_12_method_9_code
def yX10_skipBlanks : MethodName := ⟨RX10, "skipBlanks", "()V"⟩
theorem dX10_skipBlanks_0 : decode cX10_skipBlanks 0 = .ok (.iconst 0, 1) := by decide +kernel
theorem dX10_skipBlanks_1 : decode cX10_skipBlanks 1 = .ok (.istore_n 1, 1) := by decide +kernel
theorem dX10_skipBlanks_2 : decode cX10_skipBlanks 2 = .ok (.aload_n 0, 1) := by decide +kernel
theorem dX10_skipBlanks_3 : decode cX10_skipBlanks 3 = .ok (.getfield 18, 3) := by decide +kernel
theorem dX10_skipBlanks_6 : decode cX10_skipBlanks 6 = .ok (.aload_n 0, 1) := by decide +kernel
theorem dX10_skipBlanks_7 : decode cX10_skipBlanks 7 = .ok (.getfield 14, 3) := by decide +kernel
theorem dX10_skipBlanks_10 : decode cX10_skipBlanks 10 = .ok (.if_icmp .ge 71, 3) := by decide +kernel
theorem dX10_skipBlanks_81 : decode cX10_skipBlanks 81 = .ok (.return_, 1) := by decide +kernel
abbrev cX12_design : ByteArray := prog_1_method_4_code
def yX12_design : MethodName := ⟨RX12, "design", "()I"⟩
theorem dX12_design_0 : decode cX12_design 0 = .ok (.aload_n 0, 1) := by decide +kernel
theorem dX12_design_1 : decode cX12_design 1 = .ok (.invokevirtual 115, 3) := by decide +kernel
theorem dX12_design_4 : decode cX12_design 4 = .ok (.istore_n 1, 1) := by decide +kernel
theorem dX12_design_5 : decode cX12_design 5 = .ok (.iload_n 1, 1) := by decide +kernel
theorem dX12_design_6 : decode cX12_design 6 = .ok (.iconst (-1), 1) := by decide +kernel
theorem dX12_design_7 : decode cX12_design 7 = .ok (.if_icmp .eq 7, 3) := by decide +kernel
theorem dX12_design_10 : decode cX12_design 10 = .ok (.iconst 1, 1) := by decide +kernel
theorem dX12_design_11 : decode cX12_design 11 = .ok (.goto 4, 3) := by decide +kernel
theorem dX12_design_15 : decode cX12_design 15 = .ok (.invokestatic 104, 3) := by decide +kernel
theorem dX12_design_18 : decode cX12_design 18 = .ok (.iload_n 1, 1) := by decide +kernel
theorem dX12_design_19 : decode cX12_design 19 = .ok (.istore_n 2, 1) := by decide +kernel
theorem dX12_design_20 : decode cX12_design 20 = .ok (.aload_n 0, 1) := by decide +kernel
theorem dX12_design_21 : decode cX12_design 21 = .ok (.iconst 0, 1) := by decide +kernel
theorem dX12_design_22 : decode cX12_design 22 = .ok (.putfield 119, 3) := by decide +kernel
theorem dX12_design_25 : decode cX12_design 25 = .ok (.aload_n 0, 1) := by decide +kernel
theorem dX12_design_26 : decode cX12_design 26 = .ok (.getfield 21, 3) := by decide +kernel
theorem dX12_design_29 : decode cX12_design 29 = .ok (.invokevirtual 122, 3) := by decide +kernel
theorem dX12_design_48 : decode cX12_design 48 = .ok (.astore_n 3, 1) := by decide +kernel
theorem dX12_design_49 : decode cX12_design 49 = .ok (.aload_n 0, 1) := by decide +kernel
theorem dX12_design_50 : decode cX12_design 50 = .ok (.aload_n 0, 1) := by decide +kernel
theorem dX12_design_51 : decode cX12_design 51 = .ok (.getfield 10, 3) := by decide +kernel
theorem dX12_design_54 : decode cX12_design 54 = .ok (.getfield 131, 3) := by decide +kernel
theorem dX12_design_57 : decode cX12_design 57 = .ok (.putfield 119, 3) := by decide +kernel
theorem dX12_design_60 : decode cX12_design 60 = .ok (.iconst (-1), 1) := by decide +kernel
theorem dX12_design_61 : decode cX12_design 61 = .ok (.aload_n 0, 1) := by decide +kernel
theorem dX12_design_62 : decode cX12_design 62 = .ok (.getfield 10, 3) := by decide +kernel
theorem dX12_design_65 : decode cX12_design 65 = .ok (.getfield 134, 3) := by decide +kernel
theorem dX12_design_68 : decode cX12_design 68 = .ok (.isub, 1) := by decide +kernel
theorem dX12_design_69 : decode cX12_design 69 = .ok (.istore_n 2, 1) := by decide +kernel
theorem dX12_design_70 : decode cX12_design 70 = .ok (.aload_n 0, 1) := by decide +kernel
theorem dX12_design_71 : decode cX12_design 71 = .ok (.getfield 10, 3) := by decide +kernel
theorem dX12_design_74 : decode cX12_design 74 = .ok (.iconst 0, 1) := by decide +kernel
theorem dX12_design_75 : decode cX12_design 75 = .ok (.putfield 99, 3) := by decide +kernel
theorem dX12_design_78 : decode cX12_design 78 = .ok (.iload_n 2, 1) := by decide +kernel
theorem dX12_design_79 : decode cX12_design 79 = .ok (.ireturn, 1) := by decide +kernel
abbrev cX12_drop : ByteArray := prog_1_method_8_code
def yX12_drop : MethodName := ⟨RX12, "drop", "(II)V"⟩
theorem dX12_drop_0 : decode cX12_drop 0 = .ok (.iload_n 1, 1) := by decide +kernel
theorem dX12_drop_1 : decode cX12_drop 1 = .ok (.ifCond .lt 12, 3) := by decide +kernel
theorem dX12_drop_4 : decode cX12_drop 4 = .ok (.iload_n 1, 1) := by decide +kernel
theorem dX12_drop_5 : decode cX12_drop 5 = .ok (.iconst 2, 1) := by decide +kernel
theorem dX12_drop_6 : decode cX12_drop 6 = .ok (.if_icmp .gt 7, 3) := by decide +kernel
theorem dX12_drop_9 : decode cX12_drop 9 = .ok (.iconst 1, 1) := by decide +kernel
theorem dX12_drop_10 : decode cX12_drop 10 = .ok (.goto 4, 3) := by decide +kernel
theorem dX12_drop_13 : decode cX12_drop 13 = .ok (.iconst 0, 1) := by decide +kernel
theorem dX12_drop_14 : decode cX12_drop 14 = .ok (.invokestatic 112, 3) := by decide +kernel
theorem dX12_drop_17 : decode cX12_drop 17 = .ok (.iload_n 1, 1) := by decide +kernel
theorem dX12_drop_18 : decode cX12_drop 18 = .ok (.ifCond .ne 15, 3) := by decide +kernel
theorem dX12_drop_21 : decode cX12_drop 21 = .ok (.aload_n 0, 1) := by decide +kernel
theorem dX12_drop_22 : decode cX12_drop 22 = .ok (.iload_n 2, 1) := by decide +kernel
theorem dX12_drop_23 : decode cX12_drop 23 = .ok (.invokevirtual 144, 3) := by decide +kernel
theorem dX12_drop_33 : decode cX12_drop 33 = .ok (.iload_n 1, 1) := by decide +kernel
theorem dX12_drop_34 : decode cX12_drop 34 = .ok (.iconst 1, 1) := by decide +kernel
theorem dX12_drop_35 : decode cX12_drop 35 = .ok (.if_icmp .ne 15, 3) := by decide +kernel
theorem dX12_drop_38 : decode cX12_drop 38 = .ok (.aload_n 0, 1) := by decide +kernel
theorem dX12_drop_39 : decode cX12_drop 39 = .ok (.iload_n 2, 1) := by decide +kernel
theorem dX12_drop_40 : decode cX12_drop 40 = .ok (.invokevirtual 152, 3) := by decide +kernel
theorem dX12_drop_50 : decode cX12_drop 50 = .ok (.aload_n 0, 1) := by decide +kernel
theorem dX12_drop_51 : decode cX12_drop 51 = .ok (.iload_n 2, 1) := by decide +kernel
theorem dX12_drop_52 : decode cX12_drop 52 = .ok (.invokevirtual 157, 3) := by decide +kernel
abbrev cX12_end : ByteArray := prog_1_method_3_code
def yX12_end : MethodName := ⟨RX12, "end", "(I)V"⟩
theorem dX12_end_0 : decode cX12_end 0 = .ok (.iload_n 1, 1) := by decide +kernel
theorem dX12_end_1 : decode cX12_end 1 = .ok (.ifCond .lt 18, 3) := by decide +kernel
theorem dX12_end_4 : decode cX12_end 4 = .ok (.iload_n 1, 1) := by decide +kernel
theorem dX12_end_5 : decode cX12_end 5 = .ok (.aload_n 0, 1) := by decide +kernel
theorem dX12_end_6 : decode cX12_end 6 = .ok (.getfield 10, 3) := by decide +kernel
theorem dX12_end_9 : decode cX12_end 9 = .ok (.getfield 99, 3) := by decide +kernel
theorem dX12_end_12 : decode cX12_end 12 = .ok (.if_icmp .gt 7, 3) := by decide +kernel
theorem dX12_end_15 : decode cX12_end 15 = .ok (.iconst 1, 1) := by decide +kernel
theorem dX12_end_16 : decode cX12_end 16 = .ok (.goto 4, 3) := by decide +kernel
theorem dX12_end_19 : decode cX12_end 19 = .ok (.iconst 0, 1) := by decide +kernel
theorem dX12_end_20 : decode cX12_end 20 = .ok (.invokestatic 112, 3) := by decide +kernel
theorem dX12_end_23 : decode cX12_end 23 = .ok (.aload_n 0, 1) := by decide +kernel
theorem dX12_end_24 : decode cX12_end 24 = .ok (.getfield 10, 3) := by decide +kernel
theorem dX12_end_27 : decode cX12_end 27 = .ok (.iload_n 1, 1) := by decide +kernel
theorem dX12_end_28 : decode cX12_end 28 = .ok (.putfield 99, 3) := by decide +kernel
theorem dX12_end_31 : decode cX12_end 31 = .ok (.return_, 1) := by decide +kernel
abbrev cX12_fault : ByteArray := prog_1_method_6_code
def yX12_fault : MethodName := ⟨RX12, "fault", "()I"⟩
theorem dX12_fault_0 : decode cX12_fault 0 = .ok (.aload_n 0, 1) := by decide +kernel
theorem dX12_fault_1 : decode cX12_fault 1 = .ok (.getfield 119, 3) := by decide +kernel
theorem dX12_fault_4 : decode cX12_fault 4 = .ok (.ireturn, 1) := by decide +kernel
abbrev cX12_feed : ByteArray := prog_1_method_2_code
def yX12_feed : MethodName := ⟨RX12, "feed", "(IIIII)I"⟩
theorem dX12_feed_0 : decode cX12_feed 0 = .ok (.aload_n 0, 1) := by decide +kernel
theorem dX12_feed_1 : decode cX12_feed 1 = .ok (.getfield 10, 3) := by decide +kernel
theorem dX12_feed_4 : decode cX12_feed 4 = .ok (.getfield 99, 3) := by decide +kernel
theorem dX12_feed_7 : decode cX12_feed 7 = .ok (.bipush 20, 2) := by decide +kernel
theorem dX12_feed_9 : decode cX12_feed 9 = .ok (.iadd, 1) := by decide +kernel
theorem dX12_feed_10 : decode cX12_feed 10 = .ok (.ldc 103, 2) := by decide +kernel
theorem dX12_feed_12 : decode cX12_feed 12 = .ok (.if_icmp .gt 7, 3) := by decide +kernel
theorem dX12_feed_15 : decode cX12_feed 15 = .ok (.iconst 1, 1) := by decide +kernel
theorem dX12_feed_16 : decode cX12_feed 16 = .ok (.goto 4, 3) := by decide +kernel
theorem dX12_feed_20 : decode cX12_feed 20 = .ok (.invokestatic 104, 3) := by decide +kernel
theorem dX12_feed_23 : decode cX12_feed 23 = .ok (.aload_n 0, 1) := by decide +kernel
theorem dX12_feed_24 : decode cX12_feed 24 = .ok (.getfield 10, 3) := by decide +kernel
theorem dX12_feed_27 : decode cX12_feed 27 = .ok (.iload_n 1, 1) := by decide +kernel
theorem dX12_feed_28 : decode cX12_feed 28 = .ok (.invokevirtual 108, 3) := by decide +kernel
theorem dX12_feed_31 : decode cX12_feed 31 = .ok (.aload_n 0, 1) := by decide +kernel
theorem dX12_feed_32 : decode cX12_feed 32 = .ok (.getfield 10, 3) := by decide +kernel
theorem dX12_feed_35 : decode cX12_feed 35 = .ok (.iload_n 2, 1) := by decide +kernel
theorem dX12_feed_36 : decode cX12_feed 36 = .ok (.invokevirtual 108, 3) := by decide +kernel
theorem dX12_feed_39 : decode cX12_feed 39 = .ok (.aload_n 0, 1) := by decide +kernel
theorem dX12_feed_40 : decode cX12_feed 40 = .ok (.getfield 10, 3) := by decide +kernel
theorem dX12_feed_43 : decode cX12_feed 43 = .ok (.iload_n 3, 1) := by decide +kernel
theorem dX12_feed_44 : decode cX12_feed 44 = .ok (.invokevirtual 108, 3) := by decide +kernel
theorem dX12_feed_47 : decode cX12_feed 47 = .ok (.aload_n 0, 1) := by decide +kernel
theorem dX12_feed_48 : decode cX12_feed 48 = .ok (.getfield 10, 3) := by decide +kernel
theorem dX12_feed_51 : decode cX12_feed 51 = .ok (.iload 4, 2) := by decide +kernel
theorem dX12_feed_53 : decode cX12_feed 53 = .ok (.invokevirtual 108, 3) := by decide +kernel
theorem dX12_feed_56 : decode cX12_feed 56 = .ok (.aload_n 0, 1) := by decide +kernel
theorem dX12_feed_57 : decode cX12_feed 57 = .ok (.getfield 10, 3) := by decide +kernel
theorem dX12_feed_60 : decode cX12_feed 60 = .ok (.iload 5, 2) := by decide +kernel
theorem dX12_feed_62 : decode cX12_feed 62 = .ok (.invokevirtual 108, 3) := by decide +kernel
theorem dX12_feed_65 : decode cX12_feed 65 = .ok (.aload_n 0, 1) := by decide +kernel
theorem dX12_feed_66 : decode cX12_feed 66 = .ok (.getfield 10, 3) := by decide +kernel
theorem dX12_feed_69 : decode cX12_feed 69 = .ok (.getfield 99, 3) := by decide +kernel
theorem dX12_feed_72 : decode cX12_feed 72 = .ok (.ireturn, 1) := by decide +kernel
abbrev cX12_freeDesign : ByteArray := prog_1_method_64_code
def yX12_freeDesign : MethodName := ⟨RX12, "freeDesign", "()I"⟩
theorem dX12_freeDesign_0 : decode cX12_freeDesign 0 = .ok (.iconst 0, 1) := by decide +kernel
theorem dX12_freeDesign_1 : decode cX12_freeDesign 1 = .ok (.istore_n 1, 1) := by decide +kernel
theorem dX12_freeDesign_2 : decode cX12_freeDesign 2 = .ok (.iload_n 1, 1) := by decide +kernel
theorem dX12_freeDesign_3 : decode cX12_freeDesign 3 = .ok (.bipush 6, 2) := by decide +kernel
theorem dX12_freeDesign_5 : decode cX12_freeDesign 5 = .ok (.if_icmp .ge 23, 3) := by decide +kernel
theorem dX12_freeDesign_8 : decode cX12_freeDesign 8 = .ok (.aload_n 0, 1) := by decide +kernel
theorem dX12_freeDesign_9 : decode cX12_freeDesign 9 = .ok (.getfield 64, 3) := by decide +kernel
theorem dX12_freeDesign_12 : decode cX12_freeDesign 12 = .ok (.iload_n 1, 1) := by decide +kernel
theorem dX12_freeDesign_13 : decode cX12_freeDesign 13 = .ok (.aaload, 1) := by decide +kernel
theorem dX12_freeDesign_14 : decode cX12_freeDesign 14 = .ok (.getfield 148, 3) := by decide +kernel
theorem dX12_freeDesign_17 : decode cX12_freeDesign 17 = .ok (.ifCond .ne 5, 3) := by decide +kernel
theorem dX12_freeDesign_20 : decode cX12_freeDesign 20 = .ok (.iload_n 1, 1) := by decide +kernel
theorem dX12_freeDesign_21 : decode cX12_freeDesign 21 = .ok (.ireturn, 1) := by decide +kernel
abbrev cX12_freeLibrary : ByteArray := prog_1_method_65_code
def yX12_freeLibrary : MethodName := ⟨RX12, "freeLibrary", "()I"⟩
theorem dX12_freeLibrary_0 : decode cX12_freeLibrary 0 = .ok (.iconst 0, 1) := by decide +kernel
theorem dX12_freeLibrary_1 : decode cX12_freeLibrary 1 = .ok (.istore_n 1, 1) := by decide +kernel
theorem dX12_freeLibrary_2 : decode cX12_freeLibrary 2 = .ok (.iload_n 1, 1) := by decide +kernel
theorem dX12_freeLibrary_3 : decode cX12_freeLibrary 3 = .ok (.iconst 3, 1) := by decide +kernel
theorem dX12_freeLibrary_4 : decode cX12_freeLibrary 4 = .ok (.if_icmp .ge 23, 3) := by decide +kernel
theorem dX12_freeLibrary_7 : decode cX12_freeLibrary 7 = .ok (.aload_n 0, 1) := by decide +kernel
theorem dX12_freeLibrary_8 : decode cX12_freeLibrary 8 = .ok (.getfield 71, 3) := by decide +kernel
theorem dX12_freeLibrary_11 : decode cX12_freeLibrary 11 = .ok (.iload_n 1, 1) := by decide +kernel
theorem dX12_freeLibrary_12 : decode cX12_freeLibrary 12 = .ok (.aaload, 1) := by decide +kernel
theorem dX12_freeLibrary_13 : decode cX12_freeLibrary 13 = .ok (.getfield 156, 3) := by decide +kernel
theorem dX12_freeLibrary_16 : decode cX12_freeLibrary 16 = .ok (.ifCond .ne 5, 3) := by decide +kernel
theorem dX12_freeLibrary_19 : decode cX12_freeLibrary 19 = .ok (.iload_n 1, 1) := by decide +kernel
theorem dX12_freeLibrary_20 : decode cX12_freeLibrary 20 = .ok (.ireturn, 1) := by decide +kernel
abbrev cX12_isThere : ByteArray := prog_1_method_9_code
def yX12_isThere : MethodName := ⟨RX12, "isThere", "(II)Z"⟩
theorem dX12_isThere_0 : decode cX12_isThere 0 = .ok (.iload_n 1, 1) := by decide +kernel
theorem dX12_isThere_1 : decode cX12_isThere 1 = .ok (.ifCond .lt 12, 3) := by decide +kernel
theorem dX12_isThere_4 : decode cX12_isThere 4 = .ok (.iload_n 1, 1) := by decide +kernel
theorem dX12_isThere_5 : decode cX12_isThere 5 = .ok (.iconst 2, 1) := by decide +kernel
theorem dX12_isThere_6 : decode cX12_isThere 6 = .ok (.if_icmp .gt 7, 3) := by decide +kernel
theorem dX12_isThere_9 : decode cX12_isThere 9 = .ok (.iconst 1, 1) := by decide +kernel
theorem dX12_isThere_10 : decode cX12_isThere 10 = .ok (.goto 4, 3) := by decide +kernel
theorem dX12_isThere_13 : decode cX12_isThere 13 = .ok (.iconst 0, 1) := by decide +kernel
theorem dX12_isThere_14 : decode cX12_isThere 14 = .ok (.invokestatic 112, 3) := by decide +kernel
theorem dX12_isThere_17 : decode cX12_isThere 17 = .ok (.iload_n 1, 1) := by decide +kernel
theorem dX12_isThere_18 : decode cX12_isThere 18 = .ok (.ifCond .ne 31, 3) := by decide +kernel
theorem dX12_isThere_21 : decode cX12_isThere 21 = .ok (.iload_n 2, 1) := by decide +kernel
theorem dX12_isThere_22 : decode cX12_isThere 22 = .ok (.ifCond .lt 25, 3) := by decide +kernel
theorem dX12_isThere_25 : decode cX12_isThere 25 = .ok (.iload_n 2, 1) := by decide +kernel
theorem dX12_isThere_26 : decode cX12_isThere 26 = .ok (.bipush 6, 2) := by decide +kernel
theorem dX12_isThere_28 : decode cX12_isThere 28 = .ok (.if_icmp .ge 19, 3) := by decide +kernel
theorem dX12_isThere_31 : decode cX12_isThere 31 = .ok (.aload_n 0, 1) := by decide +kernel
theorem dX12_isThere_32 : decode cX12_isThere 32 = .ok (.getfield 64, 3) := by decide +kernel
theorem dX12_isThere_35 : decode cX12_isThere 35 = .ok (.iload_n 2, 1) := by decide +kernel
theorem dX12_isThere_36 : decode cX12_isThere 36 = .ok (.aaload, 1) := by decide +kernel
theorem dX12_isThere_37 : decode cX12_isThere 37 = .ok (.getfield 148, 3) := by decide +kernel
theorem dX12_isThere_40 : decode cX12_isThere 40 = .ok (.ifCond .eq 7, 3) := by decide +kernel
theorem dX12_isThere_47 : decode cX12_isThere 47 = .ok (.iconst 0, 1) := by decide +kernel
theorem dX12_isThere_48 : decode cX12_isThere 48 = .ok (.ireturn, 1) := by decide +kernel
theorem dX12_isThere_49 : decode cX12_isThere 49 = .ok (.iload_n 1, 1) := by decide +kernel
theorem dX12_isThere_50 : decode cX12_isThere 50 = .ok (.iconst 1, 1) := by decide +kernel
theorem dX12_isThere_51 : decode cX12_isThere 51 = .ok (.if_icmp .ne 30, 3) := by decide +kernel
theorem dX12_isThere_54 : decode cX12_isThere 54 = .ok (.iload_n 2, 1) := by decide +kernel
theorem dX12_isThere_55 : decode cX12_isThere 55 = .ok (.ifCond .lt 24, 3) := by decide +kernel
theorem dX12_isThere_58 : decode cX12_isThere 58 = .ok (.iload_n 2, 1) := by decide +kernel
theorem dX12_isThere_59 : decode cX12_isThere 59 = .ok (.iconst 3, 1) := by decide +kernel
theorem dX12_isThere_60 : decode cX12_isThere 60 = .ok (.if_icmp .ge 19, 3) := by decide +kernel
theorem dX12_isThere_63 : decode cX12_isThere 63 = .ok (.aload_n 0, 1) := by decide +kernel
theorem dX12_isThere_64 : decode cX12_isThere 64 = .ok (.getfield 71, 3) := by decide +kernel
theorem dX12_isThere_67 : decode cX12_isThere 67 = .ok (.iload_n 2, 1) := by decide +kernel
theorem dX12_isThere_68 : decode cX12_isThere 68 = .ok (.aaload, 1) := by decide +kernel
theorem dX12_isThere_69 : decode cX12_isThere 69 = .ok (.getfield 156, 3) := by decide +kernel
theorem dX12_isThere_72 : decode cX12_isThere 72 = .ok (.ifCond .eq 7, 3) := by decide +kernel
theorem dX12_isThere_79 : decode cX12_isThere 79 = .ok (.iconst 0, 1) := by decide +kernel
theorem dX12_isThere_80 : decode cX12_isThere 80 = .ok (.ireturn, 1) := by decide +kernel
theorem dX12_isThere_81 : decode cX12_isThere 81 = .ok (.iload_n 2, 1) := by decide +kernel
theorem dX12_isThere_82 : decode cX12_isThere 82 = .ok (.ifCond .lt 24, 3) := by decide +kernel
theorem dX12_isThere_85 : decode cX12_isThere 85 = .ok (.iload_n 2, 1) := by decide +kernel
theorem dX12_isThere_86 : decode cX12_isThere 86 = .ok (.iconst 4, 1) := by decide +kernel
theorem dX12_isThere_87 : decode cX12_isThere 87 = .ok (.if_icmp .ge 19, 3) := by decide +kernel
theorem dX12_isThere_90 : decode cX12_isThere 90 = .ok (.aload_n 0, 1) := by decide +kernel
theorem dX12_isThere_91 : decode cX12_isThere 91 = .ok (.getfield 78, 3) := by decide +kernel
theorem dX12_isThere_94 : decode cX12_isThere 94 = .ok (.iload_n 2, 1) := by decide +kernel
theorem dX12_isThere_95 : decode cX12_isThere 95 = .ok (.aaload, 1) := by decide +kernel
theorem dX12_isThere_96 : decode cX12_isThere 96 = .ok (.getfield 161, 3) := by decide +kernel
theorem dX12_isThere_99 : decode cX12_isThere 99 = .ok (.ifCond .eq 7, 3) := by decide +kernel
theorem dX12_isThere_106 : decode cX12_isThere 106 = .ok (.iconst 0, 1) := by decide +kernel
theorem dX12_isThere_107 : decode cX12_isThere 107 = .ok (.ireturn, 1) := by decide +kernel
abbrev cX12_library : ByteArray := prog_1_method_5_code
def yX12_library : MethodName := ⟨RX12, "library", "()I"⟩
theorem dX12_library_0 : decode cX12_library 0 = .ok (.aload_n 0, 1) := by decide +kernel
theorem dX12_library_1 : decode cX12_library 1 = .ok (.invokevirtual 137, 3) := by decide +kernel
theorem dX12_library_4 : decode cX12_library 4 = .ok (.istore_n 1, 1) := by decide +kernel
theorem dX12_library_5 : decode cX12_library 5 = .ok (.iload_n 1, 1) := by decide +kernel
theorem dX12_library_6 : decode cX12_library 6 = .ok (.iconst (-1), 1) := by decide +kernel
theorem dX12_library_7 : decode cX12_library 7 = .ok (.if_icmp .eq 7, 3) := by decide +kernel
theorem dX12_library_10 : decode cX12_library 10 = .ok (.iconst 1, 1) := by decide +kernel
theorem dX12_library_11 : decode cX12_library 11 = .ok (.goto 4, 3) := by decide +kernel
theorem dX12_library_15 : decode cX12_library 15 = .ok (.invokestatic 104, 3) := by decide +kernel
theorem dX12_library_18 : decode cX12_library 18 = .ok (.iload_n 1, 1) := by decide +kernel
theorem dX12_library_19 : decode cX12_library 19 = .ok (.istore_n 2, 1) := by decide +kernel
theorem dX12_library_20 : decode cX12_library 20 = .ok (.aload_n 0, 1) := by decide +kernel
theorem dX12_library_21 : decode cX12_library 21 = .ok (.iconst 0, 1) := by decide +kernel
theorem dX12_library_22 : decode cX12_library 22 = .ok (.putfield 119, 3) := by decide +kernel
theorem dX12_library_25 : decode cX12_library 25 = .ok (.aload_n 0, 1) := by decide +kernel
theorem dX12_library_26 : decode cX12_library 26 = .ok (.getfield 21, 3) := by decide +kernel
theorem dX12_library_29 : decode cX12_library 29 = .ok (.aload_n 0, 1) := by decide +kernel
theorem dX12_library_30 : decode cX12_library 30 = .ok (.getfield 71, 3) := by decide +kernel
theorem dX12_library_33 : decode cX12_library 33 = .ok (.iload_n 1, 1) := by decide +kernel
theorem dX12_library_34 : decode cX12_library 34 = .ok (.aaload, 1) := by decide +kernel
theorem dX12_library_35 : decode cX12_library 35 = .ok (.invokevirtual 140, 3) := by decide +kernel
theorem dX12_library_41 : decode cX12_library 41 = .ok (.astore_n 3, 1) := by decide +kernel
theorem dX12_library_42 : decode cX12_library 42 = .ok (.aload_n 0, 1) := by decide +kernel
theorem dX12_library_43 : decode cX12_library 43 = .ok (.aload_n 0, 1) := by decide +kernel
theorem dX12_library_44 : decode cX12_library 44 = .ok (.getfield 10, 3) := by decide +kernel
theorem dX12_library_47 : decode cX12_library 47 = .ok (.getfield 131, 3) := by decide +kernel
theorem dX12_library_50 : decode cX12_library 50 = .ok (.putfield 119, 3) := by decide +kernel
theorem dX12_library_53 : decode cX12_library 53 = .ok (.iconst (-1), 1) := by decide +kernel
theorem dX12_library_54 : decode cX12_library 54 = .ok (.aload_n 0, 1) := by decide +kernel
theorem dX12_library_55 : decode cX12_library 55 = .ok (.getfield 10, 3) := by decide +kernel
theorem dX12_library_58 : decode cX12_library 58 = .ok (.getfield 134, 3) := by decide +kernel
theorem dX12_library_61 : decode cX12_library 61 = .ok (.isub, 1) := by decide +kernel
theorem dX12_library_62 : decode cX12_library 62 = .ok (.istore_n 2, 1) := by decide +kernel
theorem dX12_library_63 : decode cX12_library 63 = .ok (.aload_n 0, 1) := by decide +kernel
theorem dX12_library_64 : decode cX12_library 64 = .ok (.getfield 10, 3) := by decide +kernel
theorem dX12_library_67 : decode cX12_library 67 = .ok (.iconst 0, 1) := by decide +kernel
theorem dX12_library_68 : decode cX12_library 68 = .ok (.putfield 99, 3) := by decide +kernel
theorem dX12_library_71 : decode cX12_library 71 = .ok (.iload_n 2, 1) := by decide +kernel
theorem dX12_library_72 : decode cX12_library 72 = .ok (.ireturn, 1) := by decide +kernel
abbrev cX12_tape : ByteArray := prog_1_method_7_code
def yX12_tape : MethodName := ⟨RX12, "tape", "()I"⟩
theorem dX12_tape_0 : decode cX12_tape 0 = .ok (.aload_n 0, 1) := by decide +kernel
theorem dX12_tape_1 : decode cX12_tape 1 = .ok (.getfield 10, 3) := by decide +kernel
theorem dX12_tape_4 : decode cX12_tape 4 = .ok (.getfield 99, 3) := by decide +kernel
theorem dX12_tape_7 : decode cX12_tape 7 = .ok (.ireturn, 1) := by decide +kernel
abbrev cX12_witness : ByteArray := prog_1_method_20_code
def yX12_witness : MethodName := ⟨RX12, "witness", "(I)I"⟩
theorem dX12_witness_0 : decode cX12_witness 0 = .ok (.iload_n 1, 1) := by decide +kernel
theorem dX12_witness_1 : decode cX12_witness 1 = .ok (.ifCond .lt 15, 3) := by decide +kernel
theorem dX12_witness_4 : decode cX12_witness 4 = .ok (.iload_n 1, 1) := by decide +kernel
theorem dX12_witness_5 : decode cX12_witness 5 = .ok (.aload_n 0, 1) := by decide +kernel
theorem dX12_witness_6 : decode cX12_witness 6 = .ok (.getfield 233, 3) := by decide +kernel
theorem dX12_witness_9 : decode cX12_witness 9 = .ok (.if_icmp .ge 7, 3) := by decide +kernel
theorem dX12_witness_16 : decode cX12_witness 16 = .ok (.iconst 0, 1) := by decide +kernel
theorem dX12_witness_17 : decode cX12_witness 17 = .ok (.invokestatic 189, 3) := by decide +kernel
abbrev cX13_bounded : ByteArray := prog_15_method_90_code
def yX13_bounded : MethodName := ⟨RX13, "bounded", "(I)I"⟩
theorem dX13_bounded_0 : decode cX13_bounded 0 = .ok (.aload_n 0, 1) := by decide +kernel
theorem dX13_bounded_1 : decode cX13_bounded 1 = .ok (.bipush 44, 2) := by decide +kernel
theorem dX13_bounded_3 : decode cX13_bounded 3 = .ok (.invokevirtual 705, 3) := by decide +kernel
theorem dX13_bounded_6 : decode cX13_bounded 6 = .ok (.aload_n 0, 1) := by decide +kernel
theorem dX13_bounded_7 : decode cX13_bounded 7 = .ok (.iconst 2, 1) := by decide +kernel
theorem dX13_bounded_8 : decode cX13_bounded 8 = .ok (.invokevirtual 621, 3) := by decide +kernel
theorem dX13_bounded_11 : decode cX13_bounded 11 = .ok (.istore_n 2, 1) := by decide +kernel
theorem dX13_bounded_12 : decode cX13_bounded 12 = .ok (.aload_n 0, 1) := by decide +kernel
theorem dX13_bounded_13 : decode cX13_bounded 13 = .ok (.invokevirtual 627, 3) := by decide +kernel
theorem dX13_bounded_16 : decode cX13_bounded 16 = .ok (.ifCond .eq 24, 3) := by decide +kernel
theorem dX13_bounded_40 : decode cX13_bounded 40 = .ok (.aload_n 0, 1) := by decide +kernel
theorem dX13_bounded_41 : decode cX13_bounded 41 = .ok (.invokevirtual 611, 3) := by decide +kernel
theorem dX13_bounded_44 : decode cX13_bounded 44 = .ok (.aload_n 0, 1) := by decide +kernel
theorem dX13_bounded_45 : decode cX13_bounded 45 = .ok (.getfield 26, 3) := by decide +kernel
theorem dX13_bounded_48 : decode cX13_bounded 48 = .ok (.iload_n 2, 1) := by decide +kernel
theorem dX13_bounded_49 : decode cX13_bounded 49 = .ok (.iaload, 1) := by decide +kernel
theorem dX13_bounded_50 : decode cX13_bounded 50 = .ok (.ireturn, 1) := by decide +kernel
abbrev cX13_byteAt : ByteArray := prog_15_method_7_code
def yX13_byteAt : MethodName := ⟨RX13, "byteAt", "(I)I"⟩
theorem dX13_byteAt_0 : decode cX13_byteAt 0 = .ok (.iload_n 1, 1) := by decide +kernel
theorem dX13_byteAt_1 : decode cX13_byteAt 1 = .ok (.aload_n 0, 1) := by decide +kernel
theorem dX13_byteAt_2 : decode cX13_byteAt 2 = .ok (.getfield 555, 3) := by decide +kernel
theorem dX13_byteAt_5 : decode cX13_byteAt 5 = .ok (.if_icmp .ge 16, 3) := by decide +kernel
theorem dX13_byteAt_21 : decode cX13_byteAt 21 = .ok (.iconst (-1), 1) := by decide +kernel
theorem dX13_byteAt_22 : decode cX13_byteAt 22 = .ok (.ireturn, 1) := by decide +kernel
abbrev cX13_cutTape : ByteArray := prog_15_method_16_code
def yX13_cutTape : MethodName := ⟨RX13, "cutTape", "()V"⟩
theorem dX13_cutTape_0 : decode cX13_cutTape 0 = .ok (.aload_n 0, 1) := by decide +kernel
theorem dX13_cutTape_1 : decode cX13_cutTape 1 = .ok (.iconst 0, 1) := by decide +kernel
theorem dX13_cutTape_2 : decode cX13_cutTape 2 = .ok (.putfield 570, 3) := by decide +kernel
theorem dX13_cutTape_5 : decode cX13_cutTape 5 = .ok (.aload_n 0, 1) := by decide +kernel
theorem dX13_cutTape_6 : decode cX13_cutTape 6 = .ok (.iconst 0, 1) := by decide +kernel
theorem dX13_cutTape_7 : decode cX13_cutTape 7 = .ok (.invokevirtual 586, 3) := by decide +kernel
theorem dX13_cutTape_10 : decode cX13_cutTape 10 = .ok (.istore_n 1, 1) := by decide +kernel
theorem dX13_cutTape_11 : decode cX13_cutTape 11 = .ok (.iconst 0, 1) := by decide +kernel
theorem dX13_cutTape_12 : decode cX13_cutTape 12 = .ok (.istore_n 2, 1) := by decide +kernel
theorem dX13_cutTape_13 : decode cX13_cutTape 13 = .ok (.iload_n 1, 1) := by decide +kernel
theorem dX13_cutTape_14 : decode cX13_cutTape 14 = .ok (.aload_n 0, 1) := by decide +kernel
theorem dX13_cutTape_15 : decode cX13_cutTape 15 = .ok (.getfield 555, 3) := by decide +kernel
theorem dX13_cutTape_18 : decode cX13_cutTape 18 = .ok (.if_icmp .ge 49, 3) := by decide +kernel
theorem dX13_cutTape_67 : decode cX13_cutTape 67 = .ok (.aload_n 0, 1) := by decide +kernel
theorem dX13_cutTape_68 : decode cX13_cutTape 68 = .ok (.getfield 19, 3) := by decide +kernel
theorem dX13_cutTape_71 : decode cX13_cutTape 71 = .ok (.aload_n 0, 1) := by decide +kernel
theorem dX13_cutTape_72 : decode cX13_cutTape 72 = .ok (.getfield 570, 3) := by decide +kernel
theorem dX13_cutTape_75 : decode cX13_cutTape 75 = .ok (.iconst 5, 1) := by decide +kernel
theorem dX13_cutTape_76 : decode cX13_cutTape 76 = .ok (.bastore, 1) := by decide +kernel
theorem dX13_cutTape_77 : decode cX13_cutTape 77 = .ok (.aload_n 0, 1) := by decide +kernel
theorem dX13_cutTape_78 : decode cX13_cutTape 78 = .ok (.getfield 22, 3) := by decide +kernel
theorem dX13_cutTape_81 : decode cX13_cutTape 81 = .ok (.aload_n 0, 1) := by decide +kernel
theorem dX13_cutTape_82 : decode cX13_cutTape 82 = .ok (.getfield 570, 3) := by decide +kernel
theorem dX13_cutTape_85 : decode cX13_cutTape 85 = .ok (.aload_n 0, 1) := by decide +kernel
theorem dX13_cutTape_86 : decode cX13_cutTape 86 = .ok (.getfield 555, 3) := by decide +kernel
theorem dX13_cutTape_89 : decode cX13_cutTape 89 = .ok (.iastore, 1) := by decide +kernel
theorem dX13_cutTape_90 : decode cX13_cutTape 90 = .ok (.aload_n 0, 1) := by decide +kernel
theorem dX13_cutTape_91 : decode cX13_cutTape 91 = .ok (.getfield 26, 3) := by decide +kernel
theorem dX13_cutTape_94 : decode cX13_cutTape 94 = .ok (.aload_n 0, 1) := by decide +kernel
theorem dX13_cutTape_95 : decode cX13_cutTape 95 = .ok (.getfield 570, 3) := by decide +kernel
theorem dX13_cutTape_98 : decode cX13_cutTape 98 = .ok (.iconst 0, 1) := by decide +kernel
theorem dX13_cutTape_99 : decode cX13_cutTape 99 = .ok (.iastore, 1) := by decide +kernel
theorem dX13_cutTape_100 : decode cX13_cutTape 100 = .ok (.return_, 1) := by decide +kernel
abbrev cX13_design : ByteArray := prog_15_method_88_code
def yX13_design : MethodName := ⟨RX13, "design", "()I"⟩
theorem dX13_design_0 : decode cX13_design 0 = .ok (.aload_n 0, 1) := by decide +kernel
theorem dX13_design_1 : decode cX13_design 1 = .ok (.getfield 125, 3) := by decide +kernel
theorem dX13_design_4 : decode cX13_design 4 = .ok (.bipush 6, 2) := by decide +kernel
theorem dX13_design_6 : decode cX13_design 6 = .ok (.invokestatic 875, 3) := by decide +kernel
theorem dX13_design_9 : decode cX13_design 9 = .ok (.istore_n 1, 1) := by decide +kernel
theorem dX13_design_10 : decode cX13_design 10 = .ok (.aload_n 0, 1) := by decide +kernel
theorem dX13_design_11 : decode cX13_design 11 = .ok (.iload_n 1, 1) := by decide +kernel
theorem dX13_design_12 : decode cX13_design 12 = .ok (.iconst (-1), 1) := by decide +kernel
theorem dX13_design_13 : decode cX13_design 13 = .ok (.if_icmp .ne 7, 3) := by decide +kernel
theorem dX13_design_20 : decode cX13_design 20 = .ok (.iconst 0, 1) := by decide +kernel
theorem dX13_design_21 : decode cX13_design 21 = .ok (.putfield 1, 3) := by decide +kernel
theorem dX13_design_24 : decode cX13_design 24 = .ok (.aload_n 0, 1) := by decide +kernel
theorem dX13_design_25 : decode cX13_design 25 = .ok (.getfield 1, 3) := by decide +kernel
theorem dX13_design_28 : decode cX13_design 28 = .ok (.ifCond .le 5, 3) := by decide +kernel
theorem dX13_design_33 : decode cX13_design 33 = .ok (.aload_n 0, 1) := by decide +kernel
theorem dX13_design_34 : decode cX13_design 34 = .ok (.invokevirtual 879, 3) := by decide +kernel
theorem dX13_design_37 : decode cX13_design 37 = .ok (.aload_n 0, 1) := by decide +kernel
theorem dX13_design_38 : decode cX13_design 38 = .ok (.invokevirtual 627, 3) := by decide +kernel
theorem dX13_design_41 : decode cX13_design 41 = .ok (.ifCond .eq 7, 3) := by decide +kernel
theorem dX13_design_48 : decode cX13_design 48 = .ok (.aload_n 0, 1) := by decide +kernel
theorem dX13_design_49 : decode cX13_design 49 = .ok (.iconst 0, 1) := by decide +kernel
theorem dX13_design_50 : decode cX13_design 50 = .ok (.putfield 555, 3) := by decide +kernel
theorem dX13_design_53 : decode cX13_design 53 = .ok (.aload_n 0, 1) := by decide +kernel
theorem dX13_design_54 : decode cX13_design 54 = .ok (.aload_n 0, 1) := by decide +kernel
theorem dX13_design_55 : decode cX13_design 55 = .ok (.getfield 592, 3) := by decide +kernel
theorem dX13_design_58 : decode cX13_design 58 = .ok (.putfield 885, 3) := by decide +kernel
theorem dX13_design_61 : decode cX13_design 61 = .ok (.aload_n 0, 1) := by decide +kernel
theorem dX13_design_62 : decode cX13_design 62 = .ok (.invokevirtual 627, 3) := by decide +kernel
theorem dX13_design_65 : decode cX13_design 65 = .ok (.ifCond .ne 10, 3) := by decide +kernel
theorem dX13_design_68 : decode cX13_design 68 = .ok (.iconst (-1), 1) := by decide +kernel
theorem dX13_design_69 : decode cX13_design 69 = .ok (.aload_n 0, 1) := by decide +kernel
theorem dX13_design_70 : decode cX13_design 70 = .ok (.getfield 595, 3) := by decide +kernel
theorem dX13_design_73 : decode cX13_design 73 = .ok (.isub, 1) := by decide +kernel
theorem dX13_design_74 : decode cX13_design 74 = .ok (.ireturn, 1) := by decide +kernel
abbrev cX13_drop : ByteArray := prog_15_method_98_code
def yX13_drop : MethodName := ⟨RX13, "drop", "(II)V"⟩
theorem dX13_drop_0 : decode cX13_drop 0 = .ok (.aload_n 0, 1) := by decide +kernel
theorem dX13_drop_1 : decode cX13_drop 1 = .ok (.iload_n 1, 1) := by decide +kernel
theorem dX13_drop_2 : decode cX13_drop 2 = .ok (.iconst 0, 1) := by decide +kernel
theorem dX13_drop_3 : decode cX13_drop 3 = .ok (.iconst 2, 1) := by decide +kernel
theorem dX13_drop_4 : decode cX13_drop 4 = .ok (.invokestatic 638, 3) := by decide +kernel
theorem dX13_drop_7 : decode cX13_drop 7 = .ok (.ifCond .ne 7, 3) := by decide +kernel
theorem dX13_drop_10 : decode cX13_drop 10 = .ok (.iconst 1, 1) := by decide +kernel
theorem dX13_drop_11 : decode cX13_drop 11 = .ok (.goto 17, 3) := by decide +kernel
theorem dX13_drop_14 : decode cX13_drop 14 = .ok (.aload_n 0, 1) := by decide +kernel
theorem dX13_drop_15 : decode cX13_drop 15 = .ok (.iload_n 1, 1) := by decide +kernel
theorem dX13_drop_16 : decode cX13_drop 16 = .ok (.iload_n 2, 1) := by decide +kernel
theorem dX13_drop_17 : decode cX13_drop 17 = .ok (.invokevirtual 912, 3) := by decide +kernel
theorem dX13_drop_20 : decode cX13_drop 20 = .ok (.ifCond .ne 7, 3) := by decide +kernel
theorem dX13_drop_23 : decode cX13_drop 23 = .ok (.iconst 2, 1) := by decide +kernel
theorem dX13_drop_24 : decode cX13_drop 24 = .ok (.goto 4, 3) := by decide +kernel
theorem dX13_drop_28 : decode cX13_drop 28 = .ok (.putfield 1, 3) := by decide +kernel
theorem dX13_drop_31 : decode cX13_drop 31 = .ok (.aload_n 0, 1) := by decide +kernel
theorem dX13_drop_32 : decode cX13_drop 32 = .ok (.getfield 1, 3) := by decide +kernel
theorem dX13_drop_35 : decode cX13_drop 35 = .ok (.ifCond .le 4, 3) := by decide +kernel
theorem dX13_drop_38 : decode cX13_drop 38 = .ok (.return_, 1) := by decide +kernel
abbrev cX13_due : ByteArray := prog_15_method_24_code
def yX13_due : MethodName := ⟨RX13, "due", "(I)I"⟩
theorem dX13_due_0 : decode cX13_due 0 = .ok (.aload_n 0, 1) := by decide +kernel
theorem dX13_due_1 : decode cX13_due 1 = .ok (.getfield 19, 3) := by decide +kernel
theorem dX13_due_4 : decode cX13_due 4 = .ok (.aload_n 0, 1) := by decide +kernel
theorem dX13_due_5 : decode cX13_due 5 = .ok (.getfield 598, 3) := by decide +kernel
theorem dX13_due_8 : decode cX13_due 8 = .ok (.baload, 1) := by decide +kernel
theorem dX13_due_9 : decode cX13_due 9 = .ok (.iload_n 1, 1) := by decide +kernel
theorem dX13_due_10 : decode cX13_due 10 = .ok (.if_icmp .eq 12, 3) := by decide +kernel
theorem dX13_due_13 : decode cX13_due 13 = .ok (.aload_n 0, 1) := by decide +kernel
theorem dX13_due_14 : decode cX13_due 14 = .ok (.iconst 2, 1) := by decide +kernel
theorem dX13_due_15 : decode cX13_due 15 = .ok (.aload_n 0, 1) := by decide +kernel
theorem dX13_due_16 : decode cX13_due 16 = .ok (.getfield 598, 3) := by decide +kernel
theorem dX13_due_19 : decode cX13_due 19 = .ok (.invokevirtual 604, 3) := by decide +kernel
theorem dX13_due_22 : decode cX13_due 22 = .ok (.aload_n 0, 1) := by decide +kernel
theorem dX13_due_23 : decode cX13_due 23 = .ok (.getfield 598, 3) := by decide +kernel
theorem dX13_due_26 : decode cX13_due 26 = .ok (.ireturn, 1) := by decide +kernel
abbrev cX13_end : ByteArray := prog_15_method_5_code
def yX13_end : MethodName := ⟨RX13, "end", "(I)V"⟩
theorem dX13_end_0 : decode cX13_end 0 = .ok (.aload_n 0, 1) := by decide +kernel
theorem dX13_end_1 : decode cX13_end 1 = .ok (.iload_n 1, 1) := by decide +kernel
theorem dX13_end_2 : decode cX13_end 2 = .ok (.ifCond .lt 11, 3) := by decide +kernel
theorem dX13_end_5 : decode cX13_end 5 = .ok (.iload_n 1, 1) := by decide +kernel
theorem dX13_end_6 : decode cX13_end 6 = .ok (.aload_n 0, 1) := by decide +kernel
theorem dX13_end_7 : decode cX13_end 7 = .ok (.getfield 555, 3) := by decide +kernel
theorem dX13_end_10 : decode cX13_end 10 = .ok (.if_icmp .le 7, 3) := by decide +kernel
theorem dX13_end_13 : decode cX13_end 13 = .ok (.iconst 1, 1) := by decide +kernel
theorem dX13_end_14 : decode cX13_end 14 = .ok (.goto 4, 3) := by decide +kernel
theorem dX13_end_17 : decode cX13_end 17 = .ok (.iconst 0, 1) := by decide +kernel
theorem dX13_end_18 : decode cX13_end 18 = .ok (.putfield 1, 3) := by decide +kernel
theorem dX13_end_21 : decode cX13_end 21 = .ok (.aload_n 0, 1) := by decide +kernel
theorem dX13_end_22 : decode cX13_end 22 = .ok (.aload_n 0, 1) := by decide +kernel
theorem dX13_end_23 : decode cX13_end 23 = .ok (.getfield 1, 3) := by decide +kernel
theorem dX13_end_26 : decode cX13_end 26 = .ok (.ifCond .le 10, 3) := by decide +kernel
theorem dX13_end_29 : decode cX13_end 29 = .ok (.aload_n 0, 1) := by decide +kernel
theorem dX13_end_30 : decode cX13_end 30 = .ok (.getfield 555, 3) := by decide +kernel
theorem dX13_end_33 : decode cX13_end 33 = .ok (.goto 4, 3) := by decide +kernel
theorem dX13_end_36 : decode cX13_end 36 = .ok (.iload_n 1, 1) := by decide +kernel
theorem dX13_end_37 : decode cX13_end 37 = .ok (.putfield 555, 3) := by decide +kernel
theorem dX13_end_40 : decode cX13_end 40 = .ok (.return_, 1) := by decide +kernel
abbrev cX13_expression : ByteArray := prog_15_method_46_code
def yX13_expression : MethodName := ⟨RX13, "expression", "()V"⟩
theorem dX13_expression_0 : decode cX13_expression 0 = .ok (.aload_n 0, 1) := by decide +kernel
theorem dX13_expression_1 : decode cX13_expression 1 = .ok (.iconst 0, 1) := by decide +kernel
theorem dX13_expression_2 : decode cX13_expression 2 = .ok (.putfield 648, 3) := by decide +kernel
theorem dX13_expression_5 : decode cX13_expression 5 = .ok (.aload_n 0, 1) := by decide +kernel
theorem dX13_expression_6 : decode cX13_expression 6 = .ok (.iconst 0, 1) := by decide +kernel
theorem dX13_expression_7 : decode cX13_expression 7 = .ok (.putfield 661, 3) := by decide +kernel
theorem dX13_expression_10 : decode cX13_expression 10 = .ok (.aload_n 0, 1) := by decide +kernel
theorem dX13_expression_11 : decode cX13_expression 11 = .ok (.iconst 0, 1) := by decide +kernel
theorem dX13_expression_12 : decode cX13_expression 12 = .ok (.putfield 651, 3) := by decide +kernel
theorem dX13_expression_15 : decode cX13_expression 15 = .ok (.iconst 0, 1) := by decide +kernel
theorem dX13_expression_16 : decode cX13_expression 16 = .ok (.istore_n 1, 1) := by decide +kernel
theorem dX13_expression_17 : decode cX13_expression 17 = .ok (.aload_n 0, 1) := by decide +kernel
theorem dX13_expression_18 : decode cX13_expression 18 = .ok (.invokevirtual 627, 3) := by decide +kernel
theorem dX13_expression_21 : decode cX13_expression 21 = .ok (.ifCond .eq 36, 3) := by decide +kernel
theorem dX13_expression_57 : decode cX13_expression 57 = .ok (.return_, 1) := by decide +kernel
abbrev cX13_fault : ByteArray := prog_15_method_93_code
def yX13_fault : MethodName := ⟨RX13, "fault", "()I"⟩
theorem dX13_fault_0 : decode cX13_fault 0 = .ok (.aload_n 0, 1) := by decide +kernel
theorem dX13_fault_1 : decode cX13_fault 1 = .ok (.iconst 0, 1) := by decide +kernel
theorem dX13_fault_2 : decode cX13_fault 2 = .ok (.putfield 1, 3) := by decide +kernel
theorem dX13_fault_5 : decode cX13_fault 5 = .ok (.aload_n 0, 1) := by decide +kernel
theorem dX13_fault_6 : decode cX13_fault 6 = .ok (.getfield 885, 3) := by decide +kernel
theorem dX13_fault_9 : decode cX13_fault 9 = .ok (.ireturn, 1) := by decide +kernel
abbrev cX13_feed : ByteArray := prog_15_method_4_code
def yX13_feed : MethodName := ⟨RX13, "feed", "(IIIII)I"⟩
theorem dX13_feed_0 : decode cX13_feed 0 = .ok (.aload_n 0, 1) := by decide +kernel
theorem dX13_feed_1 : decode cX13_feed 1 = .ok (.aload_n 0, 1) := by decide +kernel
theorem dX13_feed_2 : decode cX13_feed 2 = .ok (.getfield 555, 3) := by decide +kernel
theorem dX13_feed_5 : decode cX13_feed 5 = .ok (.bipush 20, 2) := by decide +kernel
theorem dX13_feed_7 : decode cX13_feed 7 = .ok (.iadd, 1) := by decide +kernel
theorem dX13_feed_8 : decode cX13_feed 8 = .ok (.ldc 13, 2) := by decide +kernel
theorem dX13_feed_10 : decode cX13_feed 10 = .ok (.if_icmp .le 7, 3) := by decide +kernel
theorem dX13_feed_17 : decode cX13_feed 17 = .ok (.iconst 0, 1) := by decide +kernel
theorem dX13_feed_18 : decode cX13_feed 18 = .ok (.putfield 1, 3) := by decide +kernel
theorem dX13_feed_21 : decode cX13_feed 21 = .ok (.aload_n 0, 1) := by decide +kernel
theorem dX13_feed_22 : decode cX13_feed 22 = .ok (.getfield 1, 3) := by decide +kernel
theorem dX13_feed_25 : decode cX13_feed 25 = .ok (.ifCond .le 5, 3) := by decide +kernel
theorem dX13_feed_30 : decode cX13_feed 30 = .ok (.iconst 0, 1) := by decide +kernel
theorem dX13_feed_31 : decode cX13_feed 31 = .ok (.istore 6, 2) := by decide +kernel
theorem dX13_feed_33 : decode cX13_feed 33 = .ok (.iload 6, 2) := by decide +kernel
theorem dX13_feed_35 : decode cX13_feed 35 = .ok (.bipush 20, 2) := by decide +kernel
theorem dX13_feed_37 : decode cX13_feed 37 = .ok (.if_icmp .ge 90, 3) := by decide +kernel
theorem dX13_feed_40 : decode cX13_feed 40 = .ok (.iload 6, 2) := by decide +kernel
theorem dX13_feed_42 : decode cX13_feed 42 = .ok (.iconst 4, 1) := by decide +kernel
theorem dX13_feed_43 : decode cX13_feed 43 = .ok (.if_icmp .ge 7, 3) := by decide +kernel
theorem dX13_feed_46 : decode cX13_feed 46 = .ok (.iload_n 1, 1) := by decide +kernel
theorem dX13_feed_47 : decode cX13_feed 47 = .ok (.goto 39, 3) := by decide +kernel
theorem dX13_feed_50 : decode cX13_feed 50 = .ok (.iload 6, 2) := by decide +kernel
theorem dX13_feed_52 : decode cX13_feed 52 = .ok (.bipush 8, 2) := by decide +kernel
theorem dX13_feed_54 : decode cX13_feed 54 = .ok (.if_icmp .ge 7, 3) := by decide +kernel
theorem dX13_feed_57 : decode cX13_feed 57 = .ok (.iload_n 2, 1) := by decide +kernel
theorem dX13_feed_58 : decode cX13_feed 58 = .ok (.goto 28, 3) := by decide +kernel
theorem dX13_feed_61 : decode cX13_feed 61 = .ok (.iload 6, 2) := by decide +kernel
theorem dX13_feed_63 : decode cX13_feed 63 = .ok (.bipush 12, 2) := by decide +kernel
theorem dX13_feed_65 : decode cX13_feed 65 = .ok (.if_icmp .ge 7, 3) := by decide +kernel
theorem dX13_feed_68 : decode cX13_feed 68 = .ok (.iload_n 3, 1) := by decide +kernel
theorem dX13_feed_69 : decode cX13_feed 69 = .ok (.goto 17, 3) := by decide +kernel
theorem dX13_feed_72 : decode cX13_feed 72 = .ok (.iload 6, 2) := by decide +kernel
theorem dX13_feed_74 : decode cX13_feed 74 = .ok (.bipush 16, 2) := by decide +kernel
theorem dX13_feed_76 : decode cX13_feed 76 = .ok (.if_icmp .ge 8, 3) := by decide +kernel
theorem dX13_feed_79 : decode cX13_feed 79 = .ok (.iload 4, 2) := by decide +kernel
theorem dX13_feed_81 : decode cX13_feed 81 = .ok (.goto 5, 3) := by decide +kernel
theorem dX13_feed_84 : decode cX13_feed 84 = .ok (.iload 5, 2) := by decide +kernel
theorem dX13_feed_86 : decode cX13_feed 86 = .ok (.istore 7, 2) := by decide +kernel
theorem dX13_feed_88 : decode cX13_feed 88 = .ok (.aload_n 0, 1) := by decide +kernel
theorem dX13_feed_89 : decode cX13_feed 89 = .ok (.getfield 14, 3) := by decide +kernel
theorem dX13_feed_92 : decode cX13_feed 92 = .ok (.aload_n 0, 1) := by decide +kernel
theorem dX13_feed_93 : decode cX13_feed 93 = .ok (.getfield 555, 3) := by decide +kernel
theorem dX13_feed_96 : decode cX13_feed 96 = .ok (.iload 7, 2) := by decide +kernel
theorem dX13_feed_98 : decode cX13_feed 98 = .ok (.bipush 24, 2) := by decide +kernel
theorem dX13_feed_100 : decode cX13_feed 100 = .ok (.bipush 8, 2) := by decide +kernel
theorem dX13_feed_102 : decode cX13_feed 102 = .ok (.iload 6, 2) := by decide +kernel
theorem dX13_feed_104 : decode cX13_feed 104 = .ok (.iconst 3, 1) := by decide +kernel
theorem dX13_feed_105 : decode cX13_feed 105 = .ok (.iand, 1) := by decide +kernel
theorem dX13_feed_106 : decode cX13_feed 106 = .ok (.imul, 1) := by decide +kernel
theorem dX13_feed_107 : decode cX13_feed 107 = .ok (.isub, 1) := by decide +kernel
theorem dX13_feed_108 : decode cX13_feed 108 = .ok (.ishr, 1) := by decide +kernel
theorem dX13_feed_109 : decode cX13_feed 109 = .ok (.i2b, 1) := by decide +kernel
theorem dX13_feed_110 : decode cX13_feed 110 = .ok (.bastore, 1) := by decide +kernel
theorem dX13_feed_111 : decode cX13_feed 111 = .ok (.aload_n 0, 1) := by decide +kernel
theorem dX13_feed_112 : decode cX13_feed 112 = .ok (.dup, 1) := by decide +kernel
theorem dX13_feed_113 : decode cX13_feed 113 = .ok (.getfield 555, 3) := by decide +kernel
theorem dX13_feed_116 : decode cX13_feed 116 = .ok (.iconst 1, 1) := by decide +kernel
theorem dX13_feed_117 : decode cX13_feed 117 = .ok (.iadd, 1) := by decide +kernel
theorem dX13_feed_118 : decode cX13_feed 118 = .ok (.putfield 555, 3) := by decide +kernel
theorem dX13_feed_121 : decode cX13_feed 121 = .ok (.iinc 6 1, 3) := by decide +kernel
theorem dX13_feed_124 : decode cX13_feed 124 = .ok (.goto (-91), 3) := by decide +kernel
theorem dX13_feed_127 : decode cX13_feed 127 = .ok (.aload_n 0, 1) := by decide +kernel
theorem dX13_feed_128 : decode cX13_feed 128 = .ok (.getfield 555, 3) := by decide +kernel
theorem dX13_feed_131 : decode cX13_feed 131 = .ok (.ireturn, 1) := by decide +kernel
abbrev cX13_flaw : ByteArray := prog_15_method_18_code
def yX13_flaw : MethodName := ⟨RX13, "flaw", "(II)V"⟩
theorem dX13_flaw_0 : decode cX13_flaw 0 = .ok (.aload_n 0, 1) := by decide +kernel
theorem dX13_flaw_1 : decode cX13_flaw 1 = .ok (.getfield 592, 3) := by decide +kernel
theorem dX13_flaw_4 : decode cX13_flaw 4 = .ok (.ifCond .ne 32, 3) := by decide +kernel
theorem dX13_flaw_7 : decode cX13_flaw 7 = .ok (.aload_n 0, 1) := by decide +kernel
theorem dX13_flaw_8 : decode cX13_flaw 8 = .ok (.aload_n 0, 1) := by decide +kernel
theorem dX13_flaw_9 : decode cX13_flaw 9 = .ok (.getfield 19, 3) := by decide +kernel
theorem dX13_flaw_12 : decode cX13_flaw 12 = .ok (.iload_n 2, 1) := by decide +kernel
theorem dX13_flaw_13 : decode cX13_flaw 13 = .ok (.baload, 1) := by decide +kernel
theorem dX13_flaw_14 : decode cX13_flaw 14 = .ok (.iconst 4, 1) := by decide +kernel
theorem dX13_flaw_15 : decode cX13_flaw 15 = .ok (.if_icmp .ne 7, 3) := by decide +kernel
theorem dX13_flaw_22 : decode cX13_flaw 22 = .ok (.iload_n 1, 1) := by decide +kernel
theorem dX13_flaw_23 : decode cX13_flaw 23 = .ok (.putfield 592, 3) := by decide +kernel
theorem dX13_flaw_26 : decode cX13_flaw 26 = .ok (.aload_n 0, 1) := by decide +kernel
theorem dX13_flaw_27 : decode cX13_flaw 27 = .ok (.aload_n 0, 1) := by decide +kernel
theorem dX13_flaw_28 : decode cX13_flaw 28 = .ok (.getfield 22, 3) := by decide +kernel
theorem dX13_flaw_31 : decode cX13_flaw 31 = .ok (.iload_n 2, 1) := by decide +kernel
theorem dX13_flaw_32 : decode cX13_flaw 32 = .ok (.iaload, 1) := by decide +kernel
theorem dX13_flaw_33 : decode cX13_flaw 33 = .ok (.putfield 595, 3) := by decide +kernel
theorem dX13_flaw_36 : decode cX13_flaw 36 = .ok (.return_, 1) := by decide +kernel
abbrev cX13_free : ByteArray := prog_15_method_87_code
def yX13_free : MethodName := ⟨RX13, "free", "([ZI)I"⟩
theorem dX13_free_0 : decode cX13_free 0 = .ok (.iconst 0, 1) := by decide +kernel
theorem dX13_free_1 : decode cX13_free 1 = .ok (.istore_n 2, 1) := by decide +kernel
theorem dX13_free_2 : decode cX13_free 2 = .ok (.iload_n 2, 1) := by decide +kernel
theorem dX13_free_3 : decode cX13_free 3 = .ok (.iload_n 1, 1) := by decide +kernel
theorem dX13_free_4 : decode cX13_free 4 = .ok (.if_icmp .ge 17, 3) := by decide +kernel
theorem dX13_free_7 : decode cX13_free 7 = .ok (.aload_n 0, 1) := by decide +kernel
theorem dX13_free_8 : decode cX13_free 8 = .ok (.iload_n 2, 1) := by decide +kernel
theorem dX13_free_9 : decode cX13_free 9 = .ok (.baload, 1) := by decide +kernel
theorem dX13_free_10 : decode cX13_free 10 = .ok (.ifCond .ne 5, 3) := by decide +kernel
theorem dX13_free_13 : decode cX13_free 13 = .ok (.iload_n 2, 1) := by decide +kernel
theorem dX13_free_14 : decode cX13_free 14 = .ok (.ireturn, 1) := by decide +kernel
abbrev cX13_go : ByteArray := prog_15_method_22_code
def yX13_go : MethodName := ⟨RX13, "go", "()V"⟩
theorem dX13_go_0 : decode cX13_go 0 = .ok (.aload_n 0, 1) := by decide +kernel
theorem dX13_go_1 : decode cX13_go 1 = .ok (.getfield 592, 3) := by decide +kernel
theorem dX13_go_4 : decode cX13_go 4 = .ok (.ifCond .ne 17, 3) := by decide +kernel
theorem dX13_go_21 : decode cX13_go 21 = .ok (.return_, 1) := by decide +kernel
abbrev cX13_isAt : ByteArray := prog_15_method_20_code
def yX13_isAt : MethodName := ⟨RX13, "isAt", "(I)Z"⟩
theorem dX13_isAt_0 : decode cX13_isAt 0 = .ok (.aload_n 0, 1) := by decide +kernel
theorem dX13_isAt_1 : decode cX13_isAt 1 = .ok (.getfield 19, 3) := by decide +kernel
theorem dX13_isAt_4 : decode cX13_isAt 4 = .ok (.aload_n 0, 1) := by decide +kernel
theorem dX13_isAt_5 : decode cX13_isAt 5 = .ok (.getfield 598, 3) := by decide +kernel
theorem dX13_isAt_8 : decode cX13_isAt 8 = .ok (.baload, 1) := by decide +kernel
theorem dX13_isAt_9 : decode cX13_isAt 9 = .ok (.iconst 3, 1) := by decide +kernel
theorem dX13_isAt_10 : decode cX13_isAt 10 = .ok (.if_icmp .ne 20, 3) := by decide +kernel
theorem dX13_isAt_30 : decode cX13_isAt 30 = .ok (.iconst 0, 1) := by decide +kernel
theorem dX13_isAt_31 : decode cX13_isAt 31 = .ok (.ireturn, 1) := by decide +kernel
abbrev cX13_isBlank : ByteArray := prog_15_method_10_code
def yX13_isBlank : MethodName := ⟨RX13, "isBlank", "(I)Z"⟩
theorem dX13_isBlank_0 : decode cX13_isBlank 0 = .ok (.iload_n 0, 1) := by decide +kernel
theorem dX13_isBlank_1 : decode cX13_isBlank 1 = .ok (.bipush 9, 2) := by decide +kernel
theorem dX13_isBlank_3 : decode cX13_isBlank 3 = .ok (.if_icmp .eq 21, 3) := by decide +kernel
theorem dX13_isBlank_6 : decode cX13_isBlank 6 = .ok (.iload_n 0, 1) := by decide +kernel
theorem dX13_isBlank_7 : decode cX13_isBlank 7 = .ok (.bipush 10, 2) := by decide +kernel
theorem dX13_isBlank_9 : decode cX13_isBlank 9 = .ok (.if_icmp .eq 15, 3) := by decide +kernel
theorem dX13_isBlank_12 : decode cX13_isBlank 12 = .ok (.iload_n 0, 1) := by decide +kernel
theorem dX13_isBlank_13 : decode cX13_isBlank 13 = .ok (.bipush 13, 2) := by decide +kernel
theorem dX13_isBlank_15 : decode cX13_isBlank 15 = .ok (.if_icmp .eq 9, 3) := by decide +kernel
theorem dX13_isBlank_18 : decode cX13_isBlank 18 = .ok (.iload_n 0, 1) := by decide +kernel
theorem dX13_isBlank_19 : decode cX13_isBlank 19 = .ok (.bipush 32, 2) := by decide +kernel
theorem dX13_isBlank_21 : decode cX13_isBlank 21 = .ok (.if_icmp .ne 7, 3) := by decide +kernel
theorem dX13_isBlank_28 : decode cX13_isBlank 28 = .ok (.iconst 0, 1) := by decide +kernel
theorem dX13_isBlank_29 : decode cX13_isBlank 29 = .ok (.ireturn, 1) := by decide +kernel
abbrev cX13_isOne : ByteArray := prog_15_method_97_code
def yX13_isOne : MethodName := ⟨RX13, "isOne", "(II)Z"⟩
theorem dX13_isOne_0 : decode cX13_isOne 0 = .ok (.iload_n 1, 1) := by decide +kernel
theorem dX13_isOne_1 : decode cX13_isOne 1 = .ok (.ifCond .ne 11, 3) := by decide +kernel
theorem dX13_isOne_4 : decode cX13_isOne 4 = .ok (.aload_n 0, 1) := by decide +kernel
theorem dX13_isOne_5 : decode cX13_isOne 5 = .ok (.iload_n 2, 1) := by decide +kernel
theorem dX13_isOne_6 : decode cX13_isOne 6 = .ok (.invokevirtual 903, 3) := by decide +kernel
theorem dX13_isOne_9 : decode cX13_isOne 9 = .ok (.goto 21, 3) := by decide +kernel
theorem dX13_isOne_12 : decode cX13_isOne 12 = .ok (.iload_n 1, 1) := by decide +kernel
theorem dX13_isOne_13 : decode cX13_isOne 13 = .ok (.iconst 1, 1) := by decide +kernel
theorem dX13_isOne_14 : decode cX13_isOne 14 = .ok (.if_icmp .ne 11, 3) := by decide +kernel
theorem dX13_isOne_17 : decode cX13_isOne 17 = .ok (.aload_n 0, 1) := by decide +kernel
theorem dX13_isOne_18 : decode cX13_isOne 18 = .ok (.iload_n 2, 1) := by decide +kernel
theorem dX13_isOne_19 : decode cX13_isOne 19 = .ok (.invokevirtual 906, 3) := by decide +kernel
theorem dX13_isOne_22 : decode cX13_isOne 22 = .ok (.goto 8, 3) := by decide +kernel
theorem dX13_isOne_25 : decode cX13_isOne 25 = .ok (.aload_n 0, 1) := by decide +kernel
theorem dX13_isOne_26 : decode cX13_isOne 26 = .ok (.iload_n 2, 1) := by decide +kernel
theorem dX13_isOne_27 : decode cX13_isOne 27 = .ok (.invokevirtual 909, 3) := by decide +kernel
theorem dX13_isOne_30 : decode cX13_isOne 30 = .ok (.ireturn, 1) := by decide +kernel
abbrev cX13_isRight : ByteArray := prog_15_method_17_code
def yX13_isRight : MethodName := ⟨RX13, "isRight", "()Z"⟩
theorem dX13_isRight_0 : decode cX13_isRight 0 = .ok (.aload_n 0, 1) := by decide +kernel
theorem dX13_isRight_1 : decode cX13_isRight 1 = .ok (.getfield 592, 3) := by decide +kernel
theorem dX13_isRight_4 : decode cX13_isRight 4 = .ok (.ifCond .ne 7, 3) := by decide +kernel
theorem dX13_isRight_7 : decode cX13_isRight 7 = .ok (.iconst 1, 1) := by decide +kernel
theorem dX13_isRight_8 : decode cX13_isRight 8 = .ok (.goto 4, 3) := by decide +kernel
theorem dX13_isRight_11 : decode cX13_isRight 11 = .ok (.iconst 0, 1) := by decide +kernel
theorem dX13_isRight_12 : decode cX13_isRight 12 = .ok (.ireturn, 1) := by decide +kernel
abbrev cX13_isThere : ByteArray := prog_15_method_99_code
def yX13_isThere : MethodName := ⟨RX13, "isThere", "(II)Z"⟩
theorem dX13_isThere_0 : decode cX13_isThere 0 = .ok (.aload_n 0, 1) := by decide +kernel
theorem dX13_isThere_1 : decode cX13_isThere 1 = .ok (.iload_n 1, 1) := by decide +kernel
theorem dX13_isThere_2 : decode cX13_isThere 2 = .ok (.iconst 0, 1) := by decide +kernel
theorem dX13_isThere_3 : decode cX13_isThere 3 = .ok (.iconst 2, 1) := by decide +kernel
theorem dX13_isThere_4 : decode cX13_isThere 4 = .ok (.invokestatic 638, 3) := by decide +kernel
theorem dX13_isThere_7 : decode cX13_isThere 7 = .ok (.ifCond .eq 7, 3) := by decide +kernel
theorem dX13_isThere_10 : decode cX13_isThere 10 = .ok (.iconst 0, 1) := by decide +kernel
theorem dX13_isThere_11 : decode cX13_isThere 11 = .ok (.goto 4, 3) := by decide +kernel
theorem dX13_isThere_14 : decode cX13_isThere 14 = .ok (.iconst 1, 1) := by decide +kernel
theorem dX13_isThere_15 : decode cX13_isThere 15 = .ok (.putfield 1, 3) := by decide +kernel
theorem dX13_isThere_18 : decode cX13_isThere 18 = .ok (.aload_n 0, 1) := by decide +kernel
theorem dX13_isThere_19 : decode cX13_isThere 19 = .ok (.getfield 1, 3) := by decide +kernel
theorem dX13_isThere_22 : decode cX13_isThere 22 = .ok (.ifCond .ne 16, 3) := by decide +kernel
theorem dX13_isThere_25 : decode cX13_isThere 25 = .ok (.aload_n 0, 1) := by decide +kernel
theorem dX13_isThere_26 : decode cX13_isThere 26 = .ok (.iload_n 1, 1) := by decide +kernel
theorem dX13_isThere_27 : decode cX13_isThere 27 = .ok (.iload_n 2, 1) := by decide +kernel
theorem dX13_isThere_28 : decode cX13_isThere 28 = .ok (.invokevirtual 912, 3) := by decide +kernel
theorem dX13_isThere_31 : decode cX13_isThere 31 = .ok (.ifCond .eq 7, 3) := by decide +kernel
theorem dX13_isThere_38 : decode cX13_isThere 38 = .ok (.iconst 0, 1) := by decide +kernel
theorem dX13_isThere_39 : decode cX13_isThere 39 = .ok (.ireturn, 1) := by decide +kernel
abbrev cX13_isWord : ByteArray := prog_15_method_21_code
def yX13_isWord : MethodName := ⟨RX13, "isWord", "(I)Z"⟩
theorem dX13_isWord_0 : decode cX13_isWord 0 = .ok (.aload_n 0, 1) := by decide +kernel
theorem dX13_isWord_1 : decode cX13_isWord 1 = .ok (.getfield 19, 3) := by decide +kernel
theorem dX13_isWord_4 : decode cX13_isWord 4 = .ok (.aload_n 0, 1) := by decide +kernel
theorem dX13_isWord_5 : decode cX13_isWord 5 = .ok (.getfield 598, 3) := by decide +kernel
theorem dX13_isWord_8 : decode cX13_isWord 8 = .ok (.baload, 1) := by decide +kernel
theorem dX13_isWord_9 : decode cX13_isWord 9 = .ok (.bipush 6, 2) := by decide +kernel
theorem dX13_isWord_11 : decode cX13_isWord 11 = .ok (.if_icmp .ne 20, 3) := by decide +kernel
theorem dX13_isWord_31 : decode cX13_isWord 31 = .ok (.iconst 0, 1) := by decide +kernel
theorem dX13_isWord_32 : decode cX13_isWord 32 = .ok (.ireturn, 1) := by decide +kernel
abbrev cX13_library : ByteArray := prog_15_method_92_code
def yX13_library : MethodName := ⟨RX13, "library", "()I"⟩
theorem dX13_library_0 : decode cX13_library 0 = .ok (.aload_n 0, 1) := by decide +kernel
theorem dX13_library_1 : decode cX13_library 1 = .ok (.getfield 216, 3) := by decide +kernel
theorem dX13_library_4 : decode cX13_library 4 = .ok (.iconst 3, 1) := by decide +kernel
theorem dX13_library_5 : decode cX13_library 5 = .ok (.invokestatic 875, 3) := by decide +kernel
theorem dX13_library_8 : decode cX13_library 8 = .ok (.istore_n 1, 1) := by decide +kernel
theorem dX13_library_9 : decode cX13_library 9 = .ok (.aload_n 0, 1) := by decide +kernel
theorem dX13_library_10 : decode cX13_library 10 = .ok (.iload_n 1, 1) := by decide +kernel
theorem dX13_library_11 : decode cX13_library 11 = .ok (.iconst (-1), 1) := by decide +kernel
theorem dX13_library_12 : decode cX13_library 12 = .ok (.if_icmp .ne 7, 3) := by decide +kernel
theorem dX13_library_19 : decode cX13_library 19 = .ok (.iconst 0, 1) := by decide +kernel
theorem dX13_library_20 : decode cX13_library 20 = .ok (.putfield 1, 3) := by decide +kernel
theorem dX13_library_23 : decode cX13_library 23 = .ok (.aload_n 0, 1) := by decide +kernel
theorem dX13_library_24 : decode cX13_library 24 = .ok (.getfield 1, 3) := by decide +kernel
theorem dX13_library_27 : decode cX13_library 27 = .ok (.ifCond .le 5, 3) := by decide +kernel
theorem dX13_library_32 : decode cX13_library 32 = .ok (.aload_n 0, 1) := by decide +kernel
theorem dX13_library_33 : decode cX13_library 33 = .ok (.iconst 2, 1) := by decide +kernel
theorem dX13_library_34 : decode cX13_library 34 = .ok (.putfield 645, 3) := by decide +kernel
theorem dX13_library_37 : decode cX13_library 37 = .ok (.aload_n 0, 1) := by decide +kernel
theorem dX13_library_38 : decode cX13_library 38 = .ok (.iconst 0, 1) := by decide +kernel
theorem dX13_library_39 : decode cX13_library 39 = .ok (.putfield 592, 3) := by decide +kernel
theorem dX13_library_42 : decode cX13_library 42 = .ok (.aload_n 0, 1) := by decide +kernel
theorem dX13_library_43 : decode cX13_library 43 = .ok (.iconst 0, 1) := by decide +kernel
theorem dX13_library_44 : decode cX13_library 44 = .ok (.putfield 595, 3) := by decide +kernel
theorem dX13_library_47 : decode cX13_library 47 = .ok (.aload_n 0, 1) := by decide +kernel
theorem dX13_library_48 : decode cX13_library 48 = .ok (.iconst 0, 1) := by decide +kernel
theorem dX13_library_49 : decode cX13_library 49 = .ok (.putfield 598, 3) := by decide +kernel
theorem dX13_library_52 : decode cX13_library 52 = .ok (.aload_n 0, 1) := by decide +kernel
theorem dX13_library_53 : decode cX13_library 53 = .ok (.iconst 0, 1) := by decide +kernel
theorem dX13_library_54 : decode cX13_library 54 = .ok (.putfield 891, 3) := by decide +kernel
theorem dX13_library_57 : decode cX13_library 57 = .ok (.aload_n 0, 1) := by decide +kernel
theorem dX13_library_58 : decode cX13_library 58 = .ok (.invokevirtual 791, 3) := by decide +kernel
theorem dX13_library_61 : decode cX13_library 61 = .ok (.aload_n 0, 1) := by decide +kernel
theorem dX13_library_62 : decode cX13_library 62 = .ok (.invokevirtual 601, 3) := by decide +kernel
theorem dX13_library_65 : decode cX13_library 65 = .ok (.aload_n 0, 1) := by decide +kernel
theorem dX13_library_66 : decode cX13_library 66 = .ok (.invokevirtual 627, 3) := by decide +kernel
theorem dX13_library_69 : decode cX13_library 69 = .ok (.ifCond .eq 30, 3) := by decide +kernel
theorem dX13_library_72 : decode cX13_library 72 = .ok (.aload_n 0, 1) := by decide +kernel
theorem dX13_library_73 : decode cX13_library 73 = .ok (.getfield 891, 3) := by decide +kernel
theorem dX13_library_76 : decode cX13_library 76 = .ok (.ifCond .eq 16, 3) := by decide +kernel
theorem dX13_library_92 : decode cX13_library 92 = .ok (.aload_n 0, 1) := by decide +kernel
theorem dX13_library_93 : decode cX13_library 93 = .ok (.invokevirtual 900, 3) := by decide +kernel
theorem dX13_library_96 : decode cX13_library 96 = .ok (.goto (-31), 3) := by decide +kernel
theorem dX13_library_99 : decode cX13_library 99 = .ok (.aload_n 0, 1) := by decide +kernel
theorem dX13_library_100 : decode cX13_library 100 = .ok (.iconst 0, 1) := by decide +kernel
theorem dX13_library_101 : decode cX13_library 101 = .ok (.putfield 555, 3) := by decide +kernel
theorem dX13_library_104 : decode cX13_library 104 = .ok (.aload_n 0, 1) := by decide +kernel
theorem dX13_library_105 : decode cX13_library 105 = .ok (.aload_n 0, 1) := by decide +kernel
theorem dX13_library_106 : decode cX13_library 106 = .ok (.getfield 592, 3) := by decide +kernel
theorem dX13_library_109 : decode cX13_library 109 = .ok (.putfield 885, 3) := by decide +kernel
theorem dX13_library_112 : decode cX13_library 112 = .ok (.aload_n 0, 1) := by decide +kernel
theorem dX13_library_113 : decode cX13_library 113 = .ok (.invokevirtual 627, 3) := by decide +kernel
theorem dX13_library_116 : decode cX13_library 116 = .ok (.ifCond .ne 10, 3) := by decide +kernel
theorem dX13_library_119 : decode cX13_library 119 = .ok (.iconst (-1), 1) := by decide +kernel
theorem dX13_library_120 : decode cX13_library 120 = .ok (.aload_n 0, 1) := by decide +kernel
theorem dX13_library_121 : decode cX13_library 121 = .ok (.getfield 595, 3) := by decide +kernel
theorem dX13_library_124 : decode cX13_library 124 = .ok (.isub, 1) := by decide +kernel
theorem dX13_library_125 : decode cX13_library 125 = .ok (.ireturn, 1) := by decide +kernel
abbrev cX13_map : ByteArray := prog_15_method_144_code
def yX13_map : MethodName := ⟨RX13, "map", "(II)I"⟩
theorem dX13_map_0 : decode cX13_map 0 = .ok (.aload_n 0, 1) := by decide +kernel
theorem dX13_map_1 : decode cX13_map 1 = .ok (.getfield 333, 3) := by decide +kernel
theorem dX13_map_4 : decode cX13_map 4 = .ok (.iconst 4, 1) := by decide +kernel
theorem dX13_map_5 : decode cX13_map 5 = .ok (.invokestatic 875, 3) := by decide +kernel
theorem dX13_map_8 : decode cX13_map 8 = .ok (.istore_n 3, 1) := by decide +kernel
theorem dX13_map_9 : decode cX13_map 9 = .ok (.aload_n 0, 1) := by decide +kernel
theorem dX13_map_10 : decode cX13_map 10 = .ok (.aload_n 0, 1) := by decide +kernel
theorem dX13_map_11 : decode cX13_map 11 = .ok (.iload_n 1, 1) := by decide +kernel
theorem dX13_map_12 : decode cX13_map 12 = .ok (.invokevirtual 903, 3) := by decide +kernel
theorem dX13_map_15 : decode cX13_map 15 = .ok (.ifCond .eq 11, 3) := by decide +kernel
theorem dX13_map_26 : decode cX13_map 26 = .ok (.iconst 1, 1) := by decide +kernel
theorem dX13_map_27 : decode cX13_map 27 = .ok (.goto 13, 3) := by decide +kernel
theorem dX13_map_40 : decode cX13_map 40 = .ok (.putfield 1, 3) := by decide +kernel
theorem dX13_map_43 : decode cX13_map 43 = .ok (.aload_n 0, 1) := by decide +kernel
theorem dX13_map_44 : decode cX13_map 44 = .ok (.getfield 1, 3) := by decide +kernel
theorem dX13_map_47 : decode cX13_map 47 = .ok (.ifCond .le 5, 3) := by decide +kernel
theorem dX13_map_50 : decode cX13_map 50 = .ok (.iconst 0, 1) := by decide +kernel
theorem dX13_map_51 : decode cX13_map 51 = .ok (.ireturn, 1) := by decide +kernel
abbrev cX13_readNext : ByteArray := prog_15_method_23_code
def yX13_readNext : MethodName := ⟨RX13, "readNext", "()V"⟩
theorem dX13_readNext_0 : decode cX13_readNext 0 = .ok (.aload_n 0, 1) := by decide +kernel
theorem dX13_readNext_1 : decode cX13_readNext 1 = .ok (.getfield 19, 3) := by decide +kernel
theorem dX13_readNext_4 : decode cX13_readNext 4 = .ok (.aload_n 0, 1) := by decide +kernel
theorem dX13_readNext_5 : decode cX13_readNext 5 = .ok (.getfield 598, 3) := by decide +kernel
theorem dX13_readNext_8 : decode cX13_readNext 8 = .ok (.baload, 1) := by decide +kernel
theorem dX13_readNext_9 : decode cX13_readNext 9 = .ok (.iconst 4, 1) := by decide +kernel
theorem dX13_readNext_10 : decode cX13_readNext 10 = .ok (.if_icmp .ne 12, 3) := by decide +kernel
theorem dX13_readNext_22 : decode cX13_readNext 22 = .ok (.return_, 1) := by decide +kernel
abbrev cX13_sign : ByteArray := prog_15_method_25_code
def yX13_sign : MethodName := ⟨RX13, "sign", "(I)V"⟩
theorem dX13_sign_0 : decode cX13_sign 0 = .ok (.aload_n 0, 1) := by decide +kernel
theorem dX13_sign_1 : decode cX13_sign 1 = .ok (.iload_n 1, 1) := by decide +kernel
theorem dX13_sign_2 : decode cX13_sign 2 = .ok (.invokevirtual 608, 3) := by decide +kernel
theorem dX13_sign_5 : decode cX13_sign 5 = .ok (.ifCond .eq 10, 3) := by decide +kernel
theorem dX13_sign_15 : decode cX13_sign 15 = .ok (.aload_n 0, 1) := by decide +kernel
theorem dX13_sign_16 : decode cX13_sign 16 = .ok (.iconst 2, 1) := by decide +kernel
theorem dX13_sign_17 : decode cX13_sign 17 = .ok (.aload_n 0, 1) := by decide +kernel
theorem dX13_sign_18 : decode cX13_sign 18 = .ok (.getfield 598, 3) := by decide +kernel
theorem dX13_sign_21 : decode cX13_sign 21 = .ok (.invokevirtual 604, 3) := by decide +kernel
theorem dX13_sign_24 : decode cX13_sign 24 = .ok (.return_, 1) := by decide +kernel
abbrev cX13_skip : ByteArray := prog_15_method_11_code
def yX13_skip : MethodName := ⟨RX13, "skip", "(I)I"⟩
theorem dX13_skip_0 : decode cX13_skip 0 = .ok (.iload_n 1, 1) := by decide +kernel
theorem dX13_skip_1 : decode cX13_skip 1 = .ok (.istore_n 2, 1) := by decide +kernel
theorem dX13_skip_2 : decode cX13_skip 2 = .ok (.aload_n 0, 1) := by decide +kernel
theorem dX13_skip_3 : decode cX13_skip 3 = .ok (.iload_n 2, 1) := by decide +kernel
theorem dX13_skip_4 : decode cX13_skip 4 = .ok (.invokevirtual 558, 3) := by decide +kernel
theorem dX13_skip_7 : decode cX13_skip 7 = .ok (.invokestatic 562, 3) := by decide +kernel
theorem dX13_skip_10 : decode cX13_skip 10 = .ok (.ifCond .ne 13, 3) := by decide +kernel
theorem dX13_skip_13 : decode cX13_skip 13 = .ok (.aload_n 0, 1) := by decide +kernel
theorem dX13_skip_14 : decode cX13_skip 14 = .ok (.iload_n 2, 1) := by decide +kernel
theorem dX13_skip_15 : decode cX13_skip 15 = .ok (.invokevirtual 558, 3) := by decide +kernel
theorem dX13_skip_18 : decode cX13_skip 18 = .ok (.bipush 35, 2) := by decide +kernel
theorem dX13_skip_20 : decode cX13_skip 20 = .ok (.if_icmp .ne 43, 3) := by decide +kernel
theorem dX13_skip_63 : decode cX13_skip 63 = .ok (.iload_n 2, 1) := by decide +kernel
theorem dX13_skip_64 : decode cX13_skip 64 = .ok (.ireturn, 1) := by decide +kernel
abbrev cX13_tape : ByteArray := prog_15_method_6_code
def yX13_tape : MethodName := ⟨RX13, "tape", "()I"⟩
theorem dX13_tape_0 : decode cX13_tape 0 = .ok (.aload_n 0, 1) := by decide +kernel
theorem dX13_tape_1 : decode cX13_tape 1 = .ok (.iconst 0, 1) := by decide +kernel
theorem dX13_tape_2 : decode cX13_tape 2 = .ok (.putfield 1, 3) := by decide +kernel
theorem dX13_tape_5 : decode cX13_tape 5 = .ok (.aload_n 0, 1) := by decide +kernel
theorem dX13_tape_6 : decode cX13_tape 6 = .ok (.getfield 555, 3) := by decide +kernel
theorem dX13_tape_9 : decode cX13_tape 9 = .ok (.ireturn, 1) := by decide +kernel
abbrev cX13_tellCell : ByteArray := prog_15_method_91_code
def yX13_tellCell : MethodName := ⟨RX13, "tellCell", "()V"⟩
theorem dX13_tellCell_0 : decode cX13_tellCell 0 = .ok (.aload_n 0, 1) := by decide +kernel
theorem dX13_tellCell_1 : decode cX13_tellCell 1 = .ok (.bipush 7, 2) := by decide +kernel
theorem dX13_tellCell_3 : decode cX13_tellCell 3 = .ok (.invokevirtual 751, 3) := by decide +kernel
theorem dX13_tellCell_6 : decode cX13_tellCell 6 = .ok (.ifCond .ne 12, 3) := by decide +kernel
theorem dX13_tellCell_9 : decode cX13_tellCell 9 = .ok (.aload_n 0, 1) := by decide +kernel
theorem dX13_tellCell_10 : decode cX13_tellCell 10 = .ok (.iconst 2, 1) := by decide +kernel
theorem dX13_tellCell_11 : decode cX13_tellCell 11 = .ok (.aload_n 0, 1) := by decide +kernel
theorem dX13_tellCell_12 : decode cX13_tellCell 12 = .ok (.getfield 598, 3) := by decide +kernel
theorem dX13_tellCell_15 : decode cX13_tellCell 15 = .ok (.invokevirtual 604, 3) := by decide +kernel
theorem dX13_tellCell_18 : decode cX13_tellCell 18 = .ok (.aload_n 0, 1) := by decide +kernel
theorem dX13_tellCell_19 : decode cX13_tellCell 19 = .ok (.invokevirtual 611, 3) := by decide +kernel
theorem dX13_tellCell_22 : decode cX13_tellCell 22 = .ok (.aload_n 0, 1) := by decide +kernel
theorem dX13_tellCell_23 : decode cX13_tellCell 23 = .ok (.iconst 1, 1) := by decide +kernel
theorem dX13_tellCell_24 : decode cX13_tellCell 24 = .ok (.invokevirtual 621, 3) := by decide +kernel
theorem dX13_tellCell_27 : decode cX13_tellCell 27 = .ok (.istore_n 1, 1) := by decide +kernel
theorem dX13_tellCell_28 : decode cX13_tellCell 28 = .ok (.iconst 0, 1) := by decide +kernel
theorem dX13_tellCell_29 : decode cX13_tellCell 29 = .ok (.istore_n 2, 1) := by decide +kernel
theorem dX13_tellCell_30 : decode cX13_tellCell 30 = .ok (.iload_n 2, 1) := by decide +kernel
theorem dX13_tellCell_31 : decode cX13_tellCell 31 = .ok (.aload_n 0, 1) := by decide +kernel
theorem dX13_tellCell_32 : decode cX13_tellCell 32 = .ok (.getfield 891, 3) := by decide +kernel
theorem dX13_tellCell_35 : decode cX13_tellCell 35 = .ok (.if_icmp .ge 37, 3) := by decide +kernel
theorem dX13_tellCell_72 : decode cX13_tellCell 72 = .ok (.aload_n 0, 1) := by decide +kernel
theorem dX13_tellCell_73 : decode cX13_tellCell 73 = .ok (.invokevirtual 627, 3) := by decide +kernel
theorem dX13_tellCell_76 : decode cX13_tellCell 76 = .ok (.ifCond .eq 19, 3) := by decide +kernel
theorem dX13_tellCell_95 : decode cX13_tellCell 95 = .ok (.aload_n 0, 1) := by decide +kernel
theorem dX13_tellCell_96 : decode cX13_tellCell 96 = .ok (.invokevirtual 611, 3) := by decide +kernel
theorem dX13_tellCell_99 : decode cX13_tellCell 99 = .ok (.aload_n 0, 1) := by decide +kernel
theorem dX13_tellCell_100 : decode cX13_tellCell 100 = .ok (.bipush 40, 2) := by decide +kernel
theorem dX13_tellCell_102 : decode cX13_tellCell 102 = .ok (.invokevirtual 705, 3) := by decide +kernel
theorem dX13_tellCell_105 : decode cX13_tellCell 105 = .ok (.aload_n 0, 1) := by decide +kernel
theorem dX13_tellCell_106 : decode cX13_tellCell 106 = .ok (.iconst 0, 1) := by decide +kernel
theorem dX13_tellCell_107 : decode cX13_tellCell 107 = .ok (.putfield 733, 3) := by decide +kernel
theorem dX13_tellCell_110 : decode cX13_tellCell 110 = .ok (.aload_n 0, 1) := by decide +kernel
theorem dX13_tellCell_111 : decode cX13_tellCell 111 = .ok (.invokevirtual 894, 3) := by decide +kernel
theorem dX13_tellCell_114 : decode cX13_tellCell 114 = .ok (.aload_n 0, 1) := by decide +kernel
theorem dX13_tellCell_115 : decode cX13_tellCell 115 = .ok (.invokevirtual 627, 3) := by decide +kernel
theorem dX13_tellCell_118 : decode cX13_tellCell 118 = .ok (.ifCond .eq 23, 3) := by decide +kernel
theorem dX13_tellCell_141 : decode cX13_tellCell 141 = .ok (.aload_n 0, 1) := by decide +kernel
theorem dX13_tellCell_142 : decode cX13_tellCell 142 = .ok (.bipush 41, 2) := by decide +kernel
theorem dX13_tellCell_144 : decode cX13_tellCell 144 = .ok (.invokevirtual 705, 3) := by decide +kernel
theorem dX13_tellCell_147 : decode cX13_tellCell 147 = .ok (.aload_n 0, 1) := by decide +kernel
theorem dX13_tellCell_148 : decode cX13_tellCell 148 = .ok (.bipush 61, 2) := by decide +kernel
theorem dX13_tellCell_150 : decode cX13_tellCell 150 = .ok (.invokevirtual 705, 3) := by decide +kernel
theorem dX13_tellCell_153 : decode cX13_tellCell 153 = .ok (.aload_n 0, 1) := by decide +kernel
theorem dX13_tellCell_154 : decode cX13_tellCell 154 = .ok (.invokevirtual 775, 3) := by decide +kernel
theorem dX13_tellCell_157 : decode cX13_tellCell 157 = .ok (.aload_n 0, 1) := by decide +kernel
theorem dX13_tellCell_158 : decode cX13_tellCell 158 = .ok (.getfield 891, 3) := by decide +kernel
theorem dX13_tellCell_161 : decode cX13_tellCell 161 = .ok (.bipush 12, 2) := by decide +kernel
theorem dX13_tellCell_163 : decode cX13_tellCell 163 = .ok (.irem, 1) := by decide +kernel
theorem dX13_tellCell_164 : decode cX13_tellCell 164 = .ok (.istore_n 2, 1) := by decide +kernel
theorem dX13_tellCell_165 : decode cX13_tellCell 165 = .ok (.aload_n 0, 1) := by decide +kernel
theorem dX13_tellCell_166 : decode cX13_tellCell 166 = .ok (.getfield 207, 3) := by decide +kernel
theorem dX13_tellCell_169 : decode cX13_tellCell 169 = .ok (.iload_n 2, 1) := by decide +kernel
theorem dX13_tellCell_170 : decode cX13_tellCell 170 = .ok (.aload_n 0, 1) := by decide +kernel
theorem dX13_tellCell_171 : decode cX13_tellCell 171 = .ok (.getfield 82, 3) := by decide +kernel
theorem dX13_tellCell_174 : decode cX13_tellCell 174 = .ok (.iconst 0, 1) := by decide +kernel
theorem dX13_tellCell_175 : decode cX13_tellCell 175 = .ok (.iaload, 1) := by decide +kernel
theorem dX13_tellCell_176 : decode cX13_tellCell 176 = .ok (.iconst 1, 1) := by decide +kernel
theorem dX13_tellCell_177 : decode cX13_tellCell 177 = .ok (.iconst 1, 1) := by decide +kernel
theorem dX13_tellCell_178 : decode cX13_tellCell 178 = .ok (.aload_n 0, 1) := by decide +kernel
theorem dX13_tellCell_179 : decode cX13_tellCell 179 = .ok (.getfield 733, 3) := by decide +kernel
theorem dX13_tellCell_182 : decode cX13_tellCell 182 = .ok (.ishl, 1) := by decide +kernel
theorem dX13_tellCell_183 : decode cX13_tellCell 183 = .ok (.ishl, 1) := by decide +kernel
theorem dX13_tellCell_184 : decode cX13_tellCell 184 = .ok (.iconst 1, 1) := by decide +kernel
theorem dX13_tellCell_185 : decode cX13_tellCell 185 = .ok (.isub, 1) := by decide +kernel
theorem dX13_tellCell_186 : decode cX13_tellCell 186 = .ok (.iand, 1) := by decide +kernel
theorem dX13_tellCell_187 : decode cX13_tellCell 187 = .ok (.iastore, 1) := by decide +kernel
theorem dX13_tellCell_188 : decode cX13_tellCell 188 = .ok (.aload_n 0, 1) := by decide +kernel
theorem dX13_tellCell_189 : decode cX13_tellCell 189 = .ok (.getfield 204, 3) := by decide +kernel
theorem dX13_tellCell_192 : decode cX13_tellCell 192 = .ok (.iload_n 2, 1) := by decide +kernel
theorem dX13_tellCell_193 : decode cX13_tellCell 193 = .ok (.aload_n 0, 1) := by decide +kernel
theorem dX13_tellCell_194 : decode cX13_tellCell 194 = .ok (.getfield 733, 3) := by decide +kernel
theorem dX13_tellCell_197 : decode cX13_tellCell 197 = .ok (.iastore, 1) := by decide +kernel
theorem dX13_tellCell_198 : decode cX13_tellCell 198 = .ok (.aload_n 0, 1) := by decide +kernel
theorem dX13_tellCell_199 : decode cX13_tellCell 199 = .ok (.getfield 210, 3) := by decide +kernel
theorem dX13_tellCell_202 : decode cX13_tellCell 202 = .ok (.iload_n 2, 1) := by decide +kernel
theorem dX13_tellCell_203 : decode cX13_tellCell 203 = .ok (.aload_n 0, 1) := by decide +kernel
theorem dX13_tellCell_204 : decode cX13_tellCell 204 = .ok (.sipush 1000, 3) := by decide +kernel
theorem dX13_tellCell_207 : decode cX13_tellCell 207 = .ok (.invokevirtual 897, 3) := by decide +kernel
theorem dX13_tellCell_210 : decode cX13_tellCell 210 = .ok (.iastore, 1) := by decide +kernel
theorem dX13_tellCell_211 : decode cX13_tellCell 211 = .ok (.aload_n 0, 1) := by decide +kernel
theorem dX13_tellCell_212 : decode cX13_tellCell 212 = .ok (.getfield 213, 3) := by decide +kernel
theorem dX13_tellCell_215 : decode cX13_tellCell 215 = .ok (.iload_n 2, 1) := by decide +kernel
theorem dX13_tellCell_216 : decode cX13_tellCell 216 = .ok (.aload_n 0, 1) := by decide +kernel
theorem dX13_tellCell_217 : decode cX13_tellCell 217 = .ok (.bipush 100, 2) := by decide +kernel
theorem dX13_tellCell_219 : decode cX13_tellCell 219 = .ok (.invokevirtual 897, 3) := by decide +kernel
theorem dX13_tellCell_222 : decode cX13_tellCell 222 = .ok (.iastore, 1) := by decide +kernel
theorem dX13_tellCell_223 : decode cX13_tellCell 223 = .ok (.aload_n 0, 1) := by decide +kernel
theorem dX13_tellCell_224 : decode cX13_tellCell 224 = .ok (.bipush 59, 2) := by decide +kernel
theorem dX13_tellCell_226 : decode cX13_tellCell 226 = .ok (.invokevirtual 705, 3) := by decide +kernel
theorem dX13_tellCell_229 : decode cX13_tellCell 229 = .ok (.aload_n 0, 1) := by decide +kernel
theorem dX13_tellCell_230 : decode cX13_tellCell 230 = .ok (.getfield 201, 3) := by decide +kernel
theorem dX13_tellCell_233 : decode cX13_tellCell 233 = .ok (.iload_n 2, 1) := by decide +kernel
theorem dX13_tellCell_234 : decode cX13_tellCell 234 = .ok (.iload_n 1, 1) := by decide +kernel
theorem dX13_tellCell_235 : decode cX13_tellCell 235 = .ok (.iastore, 1) := by decide +kernel
theorem dX13_tellCell_236 : decode cX13_tellCell 236 = .ok (.aload_n 0, 1) := by decide +kernel
theorem dX13_tellCell_237 : decode cX13_tellCell 237 = .ok (.dup, 1) := by decide +kernel
theorem dX13_tellCell_238 : decode cX13_tellCell 238 = .ok (.getfield 891, 3) := by decide +kernel
theorem dX13_tellCell_241 : decode cX13_tellCell 241 = .ok (.aload_n 0, 1) := by decide +kernel
theorem dX13_tellCell_242 : decode cX13_tellCell 242 = .ok (.invokevirtual 627, 3) := by decide +kernel
theorem dX13_tellCell_245 : decode cX13_tellCell 245 = .ok (.ifCond .eq 7, 3) := by decide +kernel
theorem dX13_tellCell_252 : decode cX13_tellCell 252 = .ok (.iconst 0, 1) := by decide +kernel
theorem dX13_tellCell_253 : decode cX13_tellCell 253 = .ok (.iadd, 1) := by decide +kernel
theorem dX13_tellCell_254 : decode cX13_tellCell 254 = .ok (.putfield 891, 3) := by decide +kernel
theorem dX13_tellCell_257 : decode cX13_tellCell 257 = .ok (.return_, 1) := by decide +kernel
abbrev cX13_tellDesign : ByteArray := prog_15_method_65_code
def yX13_tellDesign : MethodName := ⟨RX13, "tellDesign", "()V"⟩
theorem dX13_tellDesign_0 : decode cX13_tellDesign 0 = .ok (.aload_n 0, 1) := by decide +kernel
theorem dX13_tellDesign_1 : decode cX13_tellDesign 1 = .ok (.iconst 0, 1) := by decide +kernel
theorem dX13_tellDesign_2 : decode cX13_tellDesign 2 = .ok (.putfield 645, 3) := by decide +kernel
theorem dX13_tellDesign_5 : decode cX13_tellDesign 5 = .ok (.aload_n 0, 1) := by decide +kernel
theorem dX13_tellDesign_6 : decode cX13_tellDesign 6 = .ok (.iconst 0, 1) := by decide +kernel
theorem dX13_tellDesign_7 : decode cX13_tellDesign 7 = .ok (.putfield 592, 3) := by decide +kernel
theorem dX13_tellDesign_10 : decode cX13_tellDesign 10 = .ok (.aload_n 0, 1) := by decide +kernel
theorem dX13_tellDesign_11 : decode cX13_tellDesign 11 = .ok (.iconst 0, 1) := by decide +kernel
theorem dX13_tellDesign_12 : decode cX13_tellDesign 12 = .ok (.putfield 595, 3) := by decide +kernel
theorem dX13_tellDesign_15 : decode cX13_tellDesign 15 = .ok (.aload_n 0, 1) := by decide +kernel
theorem dX13_tellDesign_16 : decode cX13_tellDesign 16 = .ok (.iconst 0, 1) := by decide +kernel
theorem dX13_tellDesign_17 : decode cX13_tellDesign 17 = .ok (.putfield 598, 3) := by decide +kernel
theorem dX13_tellDesign_20 : decode cX13_tellDesign 20 = .ok (.aload_n 0, 1) := by decide +kernel
theorem dX13_tellDesign_21 : decode cX13_tellDesign 21 = .ok (.iconst 0, 1) := by decide +kernel
theorem dX13_tellDesign_22 : decode cX13_tellDesign 22 = .ok (.putfield 618, 3) := by decide +kernel
theorem dX13_tellDesign_25 : decode cX13_tellDesign 25 = .ok (.aload_n 0, 1) := by decide +kernel
theorem dX13_tellDesign_26 : decode cX13_tellDesign 26 = .ok (.invokevirtual 791, 3) := by decide +kernel
theorem dX13_tellDesign_29 : decode cX13_tellDesign 29 = .ok (.aload_n 0, 1) := by decide +kernel
theorem dX13_tellDesign_30 : decode cX13_tellDesign 30 = .ok (.invokevirtual 601, 3) := by decide +kernel
theorem dX13_tellDesign_33 : decode cX13_tellDesign 33 = .ok (.aload_n 0, 1) := by decide +kernel
theorem dX13_tellDesign_34 : decode cX13_tellDesign 34 = .ok (.invokevirtual 627, 3) := by decide +kernel
theorem dX13_tellDesign_37 : decode cX13_tellDesign 37 = .ok (.ifCond .eq 30, 3) := by decide +kernel
theorem dX13_tellDesign_40 : decode cX13_tellDesign 40 = .ok (.aload_n 0, 1) := by decide +kernel
theorem dX13_tellDesign_41 : decode cX13_tellDesign 41 = .ok (.getfield 618, 3) := by decide +kernel
theorem dX13_tellDesign_44 : decode cX13_tellDesign 44 = .ok (.ifCond .eq 16, 3) := by decide +kernel
theorem dX13_tellDesign_60 : decode cX13_tellDesign 60 = .ok (.aload_n 0, 1) := by decide +kernel
theorem dX13_tellDesign_61 : decode cX13_tellDesign 61 = .ok (.invokevirtual 794, 3) := by decide +kernel
theorem dX13_tellDesign_64 : decode cX13_tellDesign 64 = .ok (.goto (-31), 3) := by decide +kernel
theorem dX13_tellDesign_67 : decode cX13_tellDesign 67 = .ok (.aload_n 0, 1) := by decide +kernel
theorem dX13_tellDesign_68 : decode cX13_tellDesign 68 = .ok (.invokevirtual 627, 3) := by decide +kernel
theorem dX13_tellDesign_71 : decode cX13_tellDesign 71 = .ok (.ifCond .ne 4, 3) := by decide +kernel
theorem dX13_tellDesign_74 : decode cX13_tellDesign 74 = .ok (.return_, 1) := by decide +kernel
abbrev cX13_tellInput : ByteArray := prog_15_method_89_code
def yX13_tellInput : MethodName := ⟨RX13, "tellInput", "()V"⟩
theorem dX13_tellInput_0 : decode cX13_tellInput 0 = .ok (.aload_n 0, 1) := by decide +kernel
theorem dX13_tellInput_1 : decode cX13_tellInput 1 = .ok (.iconst 1, 1) := by decide +kernel
theorem dX13_tellInput_2 : decode cX13_tellInput 2 = .ok (.invokevirtual 621, 3) := by decide +kernel
theorem dX13_tellInput_5 : decode cX13_tellInput 5 = .ok (.istore_n 1, 1) := by decide +kernel
theorem dX13_tellInput_6 : decode cX13_tellInput 6 = .ok (.iconst 0, 1) := by decide +kernel
theorem dX13_tellInput_7 : decode cX13_tellInput 7 = .ok (.istore_n 2, 1) := by decide +kernel
theorem dX13_tellInput_8 : decode cX13_tellInput 8 = .ok (.iload_n 2, 1) := by decide +kernel
theorem dX13_tellInput_9 : decode cX13_tellInput 9 = .ok (.aload_n 0, 1) := by decide +kernel
theorem dX13_tellInput_10 : decode cX13_tellInput 10 = .ok (.getfield 733, 3) := by decide +kernel
theorem dX13_tellInput_13 : decode cX13_tellInput 13 = .ok (.if_icmp .ge 37, 3) := by decide +kernel
theorem dX13_tellInput_50 : decode cX13_tellInput 50 = .ok (.aload_n 0, 1) := by decide +kernel
theorem dX13_tellInput_51 : decode cX13_tellInput 51 = .ok (.invokevirtual 627, 3) := by decide +kernel
theorem dX13_tellInput_54 : decode cX13_tellInput 54 = .ok (.ifCond .eq 18, 3) := by decide +kernel
theorem dX13_tellInput_72 : decode cX13_tellInput 72 = .ok (.aload_n 0, 1) := by decide +kernel
theorem dX13_tellInput_73 : decode cX13_tellInput 73 = .ok (.invokevirtual 611, 3) := by decide +kernel
theorem dX13_tellInput_76 : decode cX13_tellInput 76 = .ok (.aload_n 0, 1) := by decide +kernel
theorem dX13_tellInput_77 : decode cX13_tellInput 77 = .ok (.invokevirtual 627, 3) := by decide +kernel
theorem dX13_tellInput_80 : decode cX13_tellInput 80 = .ok (.ifCond .eq 23, 3) := by decide +kernel
theorem dX13_tellInput_103 : decode cX13_tellInput 103 = .ok (.return_, 1) := by decide +kernel
abbrev cX13_tellModule : ByteArray := prog_15_method_64_code
def yX13_tellModule : MethodName := ⟨RX13, "tellModule", "()V"⟩
theorem dX13_tellModule_0 : decode cX13_tellModule 0 = .ok (.aload_n 0, 1) := by decide +kernel
theorem dX13_tellModule_1 : decode cX13_tellModule 1 = .ok (.iconst 1, 1) := by decide +kernel
theorem dX13_tellModule_2 : decode cX13_tellModule 2 = .ok (.invokevirtual 751, 3) := by decide +kernel
theorem dX13_tellModule_5 : decode cX13_tellModule 5 = .ok (.ifCond .ne 12, 3) := by decide +kernel
theorem dX13_tellModule_8 : decode cX13_tellModule 8 = .ok (.aload_n 0, 1) := by decide +kernel
theorem dX13_tellModule_9 : decode cX13_tellModule 9 = .ok (.iconst 2, 1) := by decide +kernel
theorem dX13_tellModule_10 : decode cX13_tellModule 10 = .ok (.aload_n 0, 1) := by decide +kernel
theorem dX13_tellModule_11 : decode cX13_tellModule 11 = .ok (.getfield 598, 3) := by decide +kernel
theorem dX13_tellModule_14 : decode cX13_tellModule 14 = .ok (.invokevirtual 604, 3) := by decide +kernel
theorem dX13_tellModule_17 : decode cX13_tellModule 17 = .ok (.aload_n 0, 1) := by decide +kernel
theorem dX13_tellModule_18 : decode cX13_tellModule 18 = .ok (.invokevirtual 611, 3) := by decide +kernel
theorem dX13_tellModule_21 : decode cX13_tellModule 21 = .ok (.aload_n 0, 1) := by decide +kernel
theorem dX13_tellModule_22 : decode cX13_tellModule 22 = .ok (.iconst 1, 1) := by decide +kernel
theorem dX13_tellModule_23 : decode cX13_tellModule 23 = .ok (.invokevirtual 621, 3) := by decide +kernel
theorem dX13_tellModule_26 : decode cX13_tellModule 26 = .ok (.istore_n 1, 1) := by decide +kernel
theorem dX13_tellModule_27 : decode cX13_tellModule 27 = .ok (.aload_n 0, 1) := by decide +kernel
theorem dX13_tellModule_28 : decode cX13_tellModule 28 = .ok (.invokevirtual 627, 3) := by decide +kernel
theorem dX13_tellModule_31 : decode cX13_tellModule 31 = .ok (.ifCond .eq 19, 3) := by decide +kernel
theorem dX13_tellModule_50 : decode cX13_tellModule 50 = .ok (.aload_n 0, 1) := by decide +kernel
theorem dX13_tellModule_51 : decode cX13_tellModule 51 = .ok (.invokevirtual 627, 3) := by decide +kernel
theorem dX13_tellModule_54 : decode cX13_tellModule 54 = .ok (.ifCond .eq 19, 3) := by decide +kernel
theorem dX13_tellModule_73 : decode cX13_tellModule 73 = .ok (.aload_n 0, 1) := by decide +kernel
theorem dX13_tellModule_74 : decode cX13_tellModule 74 = .ok (.invokevirtual 611, 3) := by decide +kernel
theorem dX13_tellModule_77 : decode cX13_tellModule 77 = .ok (.aload_n 0, 1) := by decide +kernel
theorem dX13_tellModule_78 : decode cX13_tellModule 78 = .ok (.bipush 123, 2) := by decide +kernel
theorem dX13_tellModule_80 : decode cX13_tellModule 80 = .ok (.invokevirtual 705, 3) := by decide +kernel
theorem dX13_tellModule_83 : decode cX13_tellModule 83 = .ok (.aload_n 0, 1) := by decide +kernel
theorem dX13_tellModule_84 : decode cX13_tellModule 84 = .ok (.getfield 618, 3) := by decide +kernel
theorem dX13_tellModule_87 : decode cX13_tellModule 87 = .ok (.bipush 16, 2) := by decide +kernel
theorem dX13_tellModule_89 : decode cX13_tellModule 89 = .ok (.irem, 1) := by decide +kernel
theorem dX13_tellModule_90 : decode cX13_tellModule 90 = .ok (.istore_n 2, 1) := by decide +kernel
theorem dX13_tellModule_91 : decode cX13_tellModule 91 = .ok (.aload_n 0, 1) := by decide +kernel
theorem dX13_tellModule_92 : decode cX13_tellModule 92 = .ok (.iload_n 2, 1) := by decide +kernel
theorem dX13_tellModule_93 : decode cX13_tellModule 93 = .ok (.putfield 714, 3) := by decide +kernel
theorem dX13_tellModule_96 : decode cX13_tellModule 96 = .ok (.aload_n 0, 1) := by decide +kernel
theorem dX13_tellModule_97 : decode cX13_tellModule 97 = .ok (.invokevirtual 627, 3) := by decide +kernel
theorem dX13_tellModule_100 : decode cX13_tellModule 100 = .ok (.ifCond .eq 55, 3) := by decide +kernel
theorem dX13_tellModule_155 : decode cX13_tellModule 155 = .ok (.aload_n 0, 1) := by decide +kernel
theorem dX13_tellModule_156 : decode cX13_tellModule 156 = .ok (.invokevirtual 627, 3) := by decide +kernel
theorem dX13_tellModule_159 : decode cX13_tellModule 159 = .ok (.ifCond .eq 20, 3) := by decide +kernel
theorem dX13_tellModule_179 : decode cX13_tellModule 179 = .ok (.aload_n 0, 1) := by decide +kernel
theorem dX13_tellModule_180 : decode cX13_tellModule 180 = .ok (.bipush 125, 2) := by decide +kernel
theorem dX13_tellModule_182 : decode cX13_tellModule 182 = .ok (.invokevirtual 705, 3) := by decide +kernel
theorem dX13_tellModule_185 : decode cX13_tellModule 185 = .ok (.aload_n 0, 1) := by decide +kernel
theorem dX13_tellModule_186 : decode cX13_tellModule 186 = .ok (.dup, 1) := by decide +kernel
theorem dX13_tellModule_187 : decode cX13_tellModule 187 = .ok (.getfield 618, 3) := by decide +kernel
theorem dX13_tellModule_190 : decode cX13_tellModule 190 = .ok (.aload_n 0, 1) := by decide +kernel
theorem dX13_tellModule_191 : decode cX13_tellModule 191 = .ok (.invokevirtual 627, 3) := by decide +kernel
theorem dX13_tellModule_194 : decode cX13_tellModule 194 = .ok (.ifCond .eq 7, 3) := by decide +kernel
theorem dX13_tellModule_201 : decode cX13_tellModule 201 = .ok (.iconst 0, 1) := by decide +kernel
theorem dX13_tellModule_202 : decode cX13_tellModule 202 = .ok (.iadd, 1) := by decide +kernel
theorem dX13_tellModule_203 : decode cX13_tellModule 203 = .ok (.putfield 618, 3) := by decide +kernel
theorem dX13_tellModule_206 : decode cX13_tellModule 206 = .ok (.return_, 1) := by decide +kernel
abbrev cX13_within : ByteArray := prog_15_method_3_code
def yX13_within : MethodName := ⟨RX13, "within", "(III)Z"⟩
theorem dX13_within_0 : decode cX13_within 0 = .ok (.iload_n 0, 1) := by decide +kernel
theorem dX13_within_1 : decode cX13_within 1 = .ok (.iload_n 1, 1) := by decide +kernel
theorem dX13_within_2 : decode cX13_within 2 = .ok (.if_icmp .lt 12, 3) := by decide +kernel
theorem dX13_within_5 : decode cX13_within 5 = .ok (.iload_n 0, 1) := by decide +kernel
theorem dX13_within_6 : decode cX13_within 6 = .ok (.iload_n 2, 1) := by decide +kernel
theorem dX13_within_7 : decode cX13_within 7 = .ok (.if_icmp .gt 7, 3) := by decide +kernel
theorem dX13_within_10 : decode cX13_within 10 = .ok (.iconst 1, 1) := by decide +kernel
theorem dX13_within_11 : decode cX13_within 11 = .ok (.goto 4, 3) := by decide +kernel
theorem dX13_within_14 : decode cX13_within 14 = .ok (.iconst 0, 1) := by decide +kernel
theorem dX13_within_15 : decode cX13_within 15 = .ok (.ireturn, 1) := by decide +kernel
abbrev cX13_witness : ByteArray := prog_15_method_116_code
def yX13_witness : MethodName := ⟨RX13, "witness", "(I)I"⟩
theorem dX13_witness_0 : decode cX13_witness 0 = .ok (.aload_n 0, 1) := by decide +kernel
theorem dX13_witness_1 : decode cX13_witness 1 = .ok (.iload_n 1, 1) := by decide +kernel
theorem dX13_witness_2 : decode cX13_witness 2 = .ok (.ifCond .lt 11, 3) := by decide +kernel
theorem dX13_witness_5 : decode cX13_witness 5 = .ok (.iload_n 1, 1) := by decide +kernel
theorem dX13_witness_6 : decode cX13_witness 6 = .ok (.aload_n 0, 1) := by decide +kernel
theorem dX13_witness_7 : decode cX13_witness 7 = .ok (.getfield 921, 3) := by decide +kernel
theorem dX13_witness_10 : decode cX13_witness 10 = .ok (.if_icmp .lt 7, 3) := by decide +kernel
theorem dX13_witness_13 : decode cX13_witness 13 = .ok (.iconst 1, 1) := by decide +kernel
theorem dX13_witness_14 : decode cX13_witness 14 = .ok (.goto 4, 3) := by decide +kernel
theorem dX13_witness_18 : decode cX13_witness 18 = .ok (.putfield 1, 3) := by decide +kernel
theorem dX13_witness_21 : decode cX13_witness 21 = .ok (.aload_n 0, 1) := by decide +kernel
theorem dX13_witness_22 : decode cX13_witness 22 = .ok (.getfield 1, 3) := by decide +kernel
theorem dX13_witness_25 : decode cX13_witness 25 = .ok (.ifCond .le 7, 3) := by decide +kernel
theorem dX13_witness_28 : decode cX13_witness 28 = .ok (.iconst 0, 1) := by decide +kernel
theorem dX13_witness_29 : decode cX13_witness 29 = .ok (.goto 9, 3) := by decide +kernel
theorem dX13_witness_38 : decode cX13_witness 38 = .ok (.ireturn, 1) := by decide +kernel
abbrev cX7_beginModule : ByteArray := prog_9_method_3_code
def yX7_beginModule : MethodName := ⟨RX7, "beginModule", "()V"⟩
theorem dX7_beginModule_0 : decode cX7_beginModule 0 = .ok (.aload_n 0, 1) := by decide +kernel
theorem dX7_beginModule_1 : decode cX7_beginModule 1 = .ok (.getfield 48, 3) := by decide +kernel
theorem dX7_beginModule_4 : decode cX7_beginModule 4 = .ok (.iconst 3, 1) := by decide +kernel
theorem dX7_beginModule_5 : decode cX7_beginModule 5 = .ok (.invokevirtual 92, 3) := by decide +kernel
abbrev cX7_readDesign : ByteArray := prog_9_method_2_code
def yX7_readDesign : MethodName := ⟨RX7, "readDesign", "()V"⟩
theorem dX7_readDesign_0 : decode cX7_readDesign 0 = .ok (.aload_n 0, 1) := by decide +kernel
theorem dX7_readDesign_1 : decode cX7_readDesign 1 = .ok (.aconst_null, 1) := by decide +kernel
theorem dX7_readDesign_2 : decode cX7_readDesign 2 = .ok (.putfield 52, 3) := by decide +kernel
theorem dX7_readDesign_5 : decode cX7_readDesign 5 = .ok (.aload_n 0, 1) := by decide +kernel
theorem dX7_readDesign_6 : decode cX7_readDesign 6 = .ok (.iconst 0, 1) := by decide +kernel
theorem dX7_readDesign_7 : decode cX7_readDesign 7 = .ok (.putfield 56, 3) := by decide +kernel
theorem dX7_readDesign_10 : decode cX7_readDesign 10 = .ok (.aload_n 0, 1) := by decide +kernel
theorem dX7_readDesign_11 : decode cX7_readDesign 11 = .ok (.iconst 0, 1) := by decide +kernel
theorem dX7_readDesign_12 : decode cX7_readDesign 12 = .ok (.putfield 60, 3) := by decide +kernel
theorem dX7_readDesign_15 : decode cX7_readDesign 15 = .ok (.aload_n 0, 1) := by decide +kernel
theorem dX7_readDesign_16 : decode cX7_readDesign 16 = .ok (.getfield 21, 3) := by decide +kernel
theorem dX7_readDesign_19 : decode cX7_readDesign 19 = .ok (.iconst 0, 1) := by decide +kernel
theorem dX7_readDesign_20 : decode cX7_readDesign 20 = .ok (.iconst 0, 1) := by decide +kernel
theorem dX7_readDesign_21 : decode cX7_readDesign 21 = .ok (.iastore, 1) := by decide +kernel
theorem dX7_readDesign_22 : decode cX7_readDesign 22 = .ok (.aload_n 0, 1) := by decide +kernel
theorem dX7_readDesign_23 : decode cX7_readDesign 23 = .ok (.getfield 48, 3) := by decide +kernel
theorem dX7_readDesign_26 : decode cX7_readDesign 26 = .ok (.invokevirtual 63, 3) := by decide +kernel
theorem dX7_readDesign_29 : decode cX7_readDesign 29 = .ok (.aload_n 0, 1) := by decide +kernel
theorem dX7_readDesign_30 : decode cX7_readDesign 30 = .ok (.invokevirtual 66, 3) := by decide +kernel
abbrev cX7_readLibrary : ByteArray := prog_9_method_18_code
def yX7_readLibrary : MethodName := ⟨RX7, "readLibrary", "(LChipFlow$Library;)V"⟩
theorem dX7_readLibrary_0 : decode cX7_readLibrary 0 = .ok (.aload_n 0, 1) := by decide +kernel
theorem dX7_readLibrary_1 : decode cX7_readLibrary 1 = .ok (.aload_n 1, 1) := by decide +kernel
theorem dX7_readLibrary_2 : decode cX7_readLibrary 2 = .ok (.putfield 52, 3) := by decide +kernel
theorem dX7_readLibrary_5 : decode cX7_readLibrary 5 = .ok (.aload_n 1, 1) := by decide +kernel
theorem dX7_readLibrary_6 : decode cX7_readLibrary 6 = .ok (.iconst 0, 1) := by decide +kernel
theorem dX7_readLibrary_7 : decode cX7_readLibrary 7 = .ok (.putfield 150, 3) := by decide +kernel
theorem dX7_readLibrary_10 : decode cX7_readLibrary 10 = .ok (.aload_n 0, 1) := by decide +kernel
theorem dX7_readLibrary_11 : decode cX7_readLibrary 11 = .ok (.getfield 24, 3) := by decide +kernel
theorem dX7_readLibrary_14 : decode cX7_readLibrary 14 = .ok (.iconst 0, 1) := by decide +kernel
theorem dX7_readLibrary_15 : decode cX7_readLibrary 15 = .ok (.iconst 0, 1) := by decide +kernel
theorem dX7_readLibrary_16 : decode cX7_readLibrary 16 = .ok (.iastore, 1) := by decide +kernel
theorem dX7_readLibrary_17 : decode cX7_readLibrary 17 = .ok (.aload_n 0, 1) := by decide +kernel
theorem dX7_readLibrary_18 : decode cX7_readLibrary 18 = .ok (.getfield 48, 3) := by decide +kernel
theorem dX7_readLibrary_21 : decode cX7_readLibrary 21 = .ok (.invokevirtual 63, 3) := by decide +kernel
theorem dX7_readLibrary_24 : decode cX7_readLibrary 24 = .ok (.iconst 0, 1) := by decide +kernel
theorem dX7_readLibrary_25 : decode cX7_readLibrary 25 = .ok (.istore_n 2, 1) := by decide +kernel
theorem dX7_readLibrary_26 : decode cX7_readLibrary 26 = .ok (.iload_n 2, 1) := by decide +kernel
theorem dX7_readLibrary_27 : decode cX7_readLibrary 27 = .ok (.bipush 12, 2) := by decide +kernel
theorem dX7_readLibrary_29 : decode cX7_readLibrary 29 = .ok (.if_icmp .gt 170, 3) := by decide +kernel
theorem dX7_readLibrary_32 : decode cX7_readLibrary 32 = .ok (.aload_n 1, 1) := by decide +kernel
theorem dX7_readLibrary_33 : decode cX7_readLibrary 33 = .ok (.getfield 150, 3) := by decide +kernel
theorem dX7_readLibrary_36 : decode cX7_readLibrary 36 = .ok (.ifCond .eq 13, 3) := by decide +kernel
theorem dX7_readLibrary_49 : decode cX7_readLibrary 49 = .ok (.aload_n 0, 1) := by decide +kernel
theorem dX7_readLibrary_50 : decode cX7_readLibrary 50 = .ok (.getfield 48, 3) := by decide +kernel
theorem dX7_readLibrary_53 : decode cX7_readLibrary 53 = .ok (.bipush 9, 2) := by decide +kernel
theorem dX7_readLibrary_55 : decode cX7_readLibrary 55 = .ok (.invokevirtual 92, 3) := by decide +kernel
theorem wd_1 : (Cond.selects RX12 yX12_freeDesign yX12_freeDesign) ∈ BG := bg_tb tb_0 1 (by decide +kernel) (by decide +kernel)
theorem wd_2 : (Cond.selects RX10 yX10_skipBlanks yX10_skipBlanks) ∈ BG := bg_tb tb_0 2 (by decide +kernel) (by decide +kernel)
theorem wd_6 : (Cond.selects RX7 yX7_beginModule yX7_beginModule) ∈ BG := bg_tb tb_0 6 (by decide +kernel) (by decide +kernel)
theorem wd_59 : (Cond.selects RX12 yX12_freeLibrary yX12_freeLibrary) ∈ BG := bg_tb tb_0 59 (by decide +kernel) (by decide +kernel)
theorem wd_140 : (Cond.selects RX13 yX13_tellDesign yX13_tellDesign) ∈ BG := bg_tb tb_0 140 (by decide +kernel) (by decide +kernel)
theorem wd_141 : (Cond.selects RX13 yX13_cutTape yX13_cutTape) ∈ BG := bg_tb tb_0 141 (by decide +kernel) (by decide +kernel)
theorem wd_142 : (Cond.selects RX13 yX13_skip yX13_skip) ∈ BG := bg_tb tb_0 142 (by decide +kernel) (by decide +kernel)
theorem wd_143 : (Cond.selects RX13 yX13_byteAt yX13_byteAt) ∈ BG := bg_tb tb_0 143 (by decide +kernel) (by decide +kernel)
theorem wd_145 : (Cond.selects RX13 yX13_readNext yX13_readNext) ∈ BG := bg_tb tb_0 145 (by decide +kernel) (by decide +kernel)
theorem wd_146 : (Cond.selects RX13 yX13_flaw yX13_flaw) ∈ BG := bg_tb tb_0 146 (by decide +kernel) (by decide +kernel)
theorem wd_147 : (Cond.selects RX13 yX13_isRight yX13_isRight) ∈ BG := bg_tb tb_0 147 (by decide +kernel) (by decide +kernel)
theorem wd_148 : (Cond.selects RX13 yX13_tellModule yX13_tellModule) ∈ BG := bg_tb tb_0 148 (by decide +kernel) (by decide +kernel)
theorem wd_149 : (Cond.selects RX13 yX13_isWord yX13_isWord) ∈ BG := bg_tb tb_0 149 (by decide +kernel) (by decide +kernel)
theorem wd_150 : (Cond.selects RX13 yX13_go yX13_go) ∈ BG := bg_tb tb_0 150 (by decide +kernel) (by decide +kernel)
theorem wd_151 : (Cond.selects RX13 yX13_due yX13_due) ∈ BG := bg_tb tb_0 151 (by decide +kernel) (by decide +kernel)
theorem wd_154 : (Cond.selects RX13 yX13_sign yX13_sign) ∈ BG := bg_tb tb_0 154 (by decide +kernel) (by decide +kernel)
theorem wd_155 : (Cond.selects RX13 yX13_isAt yX13_isAt) ∈ BG := bg_tb tb_0 155 (by decide +kernel) (by decide +kernel)
theorem wd_162 : (Cond.selects RX13 yX13_expression yX13_expression) ∈ BG := bg_tb tb_0 162 (by decide +kernel) (by decide +kernel)
theorem wd_211 : (Cond.selects RX13 yX13_tellCell yX13_tellCell) ∈ BG := bg_tb tb_0 211 (by decide +kernel) (by decide +kernel)
theorem wd_212 : (Cond.selects RX13 yX13_tellInput yX13_tellInput) ∈ BG := bg_tb tb_0 212 (by decide +kernel) (by decide +kernel)
theorem wd_213 : (Cond.selects RX13 yX13_bounded yX13_bounded) ∈ BG := bg_tb tb_0 213 (by decide +kernel) (by decide +kernel)
theorem wd_214 : (Cond.selects RX13 yX13_isOne yX13_isOne) ∈ BG := bg_tb tb_0 214 (by decide +kernel) (by decide +kernel)
theorem wd_378 : (Cond.fieldLink RX12 99 "ChipFlow$Text" "length" "I") ∈ BG := bg_tb tb_1 52 (by decide +kernel) (by decide +kernel)
theorem wd_379 : (Cond.fieldLink RX10 14 "ChipFlow$Text" "length" "I") ∈ BG := bg_tb tb_1 53 (by decide +kernel) (by decide +kernel)
theorem wd_381 : (Cond.fieldLink RX10 33 "ChipFlow$Text" "kind" "I") ∈ BG := bg_tb tb_1 55 (by decide +kernel) (by decide +kernel)
theorem wd_383 : (Cond.fieldLink RX10 36 "ChipFlow$Text" "start" "I") ∈ BG := bg_tb tb_1 57 (by decide +kernel) (by decide +kernel)
theorem wd_384 : (Cond.fieldLink RX10 43 "ChipFlow$Text" "size" "I") ∈ BG := bg_tb tb_1 58 (by decide +kernel) (by decide +kernel)
theorem wd_387 : (Cond.fieldLink RX10 21 "ChipFlow$Text" "faultCode" "I") ∈ BG := bg_tb tb_1 61 (by decide +kernel) (by decide +kernel)
theorem wd_388 : (Cond.fieldLink RX12 131 "ChipFlow$Text" "faultCode" "I") ∈ BG := bg_tb tb_1 62 (by decide +kernel) (by decide +kernel)
theorem wd_389 : (Cond.fieldLink RX10 24 "ChipFlow$Text" "faultPlace" "I") ∈ BG := bg_tb tb_1 63 (by decide +kernel) (by decide +kernel)
theorem wd_390 : (Cond.fieldLink RX12 134 "ChipFlow$Text" "faultPlace" "I") ∈ BG := bg_tb tb_1 64 (by decide +kernel) (by decide +kernel)
theorem wd_391 : (Cond.fieldLink RX10 18 "ChipFlow$Text" "next" "I") ∈ BG := bg_tb tb_1 65 (by decide +kernel) (by decide +kernel)
theorem wd_423 : (Cond.fieldLink RX7 60 "ChipFlow$Reader" "codeSize" "I") ∈ BG := bg_tb tb_1 97 (by decide +kernel) (by decide +kernel)
theorem wd_424 : (Cond.fieldLink RX7 56 "ChipFlow$Reader" "modules" "I") ∈ BG := bg_tb tb_1 98 (by decide +kernel) (by decide +kernel)
theorem wd_439 : (Cond.fieldLink RX7 52 "ChipFlow$Reader" "library" "LChipFlow$Library;") ∈ BG := bg_tb tb_1 113 (by decide +kernel) (by decide +kernel)
theorem wd_860 : (Cond.fieldLink RX7 150 "ChipFlow$Library" "count" "I") ∈ BG := bg_tb tb_3 54 (by decide +kernel) (by decide +kernel)
theorem wd_1188 : (Cond.fieldLink RX12 119 "ChipFlow" "lastFault" "I") ∈ BG := bg_tb tb_4 142 (by decide +kernel) (by decide +kernel)
theorem wd_1194 : (Cond.fieldLink RX12 233 "ChipFlow" "witnessSize" "I") ∈ BG := bg_tb tb_4 148 (by decide +kernel) (by decide +kernel)
theorem wd_1230 : (Cond.methodLink RL 211 yX12_fault) ∈ BG := bg_tb tb_4 184 (by decide +kernel) (by decide +kernel)
theorem wd_1231 : (Cond.instanceMethod yX12_fault) ∈ BG := bg_tb tb_4 185 (by decide +kernel) (by decide +kernel)
theorem wd_1232 : (Cond.selects RX12 yX12_fault yX12_fault) ∈ BG := bg_tb tb_4 186 (by decide +kernel) (by decide +kernel)
theorem wd_1233 : (Cond.code yX12_fault cX12_fault 1 (some .int)) ∈ BG := bg_tb tb_4 187 (by decide +kernel) (by decide +kernel)
theorem wd_1234 : (Cond.methodLink RL 366 yX12_tape) ∈ BG := bg_tb tb_4 188 (by decide +kernel) (by decide +kernel)
theorem wd_1235 : (Cond.instanceMethod yX12_tape) ∈ BG := bg_tb tb_4 189 (by decide +kernel) (by decide +kernel)
theorem wd_1236 : (Cond.selects RX12 yX12_tape yX12_tape) ∈ BG := bg_tb tb_4 190 (by decide +kernel) (by decide +kernel)
theorem wd_1237 : (Cond.code yX12_tape cX12_tape 1 (some .int)) ∈ BG := bg_tb tb_4 191 (by decide +kernel) (by decide +kernel)
theorem wd_1238 : (Cond.methodLink RL 191 yL_feed) ∈ BG := bg_tb tb_4 192 (by decide +kernel) (by decide +kernel)
theorem wd_1239 : (Cond.static yL_feed) ∈ BG := bg_tb tb_4 193 (by decide +kernel) (by decide +kernel)
theorem wd_1240 : (Cond.codeWith yL_feed cL_feed 8 (some .int) [(0, 16, 19, 13)]) ∈ BG := bg_tb tb_4 194 (by decide +kernel) (by decide +kernel)
theorem wd_1242 : (Cond.methodLink RL 7 yX12_feed) ∈ BG := bg_tb tb_4 196 (by decide +kernel) (by decide +kernel)
theorem wd_1243 : (Cond.instanceMethod yX12_feed) ∈ BG := bg_tb tb_4 197 (by decide +kernel) (by decide +kernel)
theorem wd_1244 : (Cond.selects RX12 yX12_feed yX12_feed) ∈ BG := bg_tb tb_4 198 (by decide +kernel) (by decide +kernel)
theorem wd_1245 : (Cond.code yX12_feed cX12_feed 6 (some .int)) ∈ BG := bg_tb tb_4 199 (by decide +kernel) (by decide +kernel)
theorem wd_1246 : (Cond.constant RX12 103 (65536)) ∈ BG := bg_tb tb_4 200 (by decide +kernel) (by decide +kernel)
theorem wd_1247 : (Cond.methodLink RX12 104 yX12_needRoom) ∈ BG := bg_tb tb_4 201 (by decide +kernel) (by decide +kernel)
theorem wd_1248 : (Cond.static yX12_needRoom) ∈ BG := bg_tb tb_4 202 (by decide +kernel) (by decide +kernel)
theorem wd_1249 : (Cond.code yX12_needRoom cX12_needRoom 1 none) ∈ BG := bg_tb tb_4 203 (by decide +kernel) (by decide +kernel)
theorem wd_1316 : (Cond.methodLink RX12 108 yX10_append) ∈ BG := bg_tb tb_5 30 (by decide +kernel) (by decide +kernel)
theorem wd_1317 : (Cond.instanceMethod yX10_append) ∈ BG := bg_tb tb_5 31 (by decide +kernel) (by decide +kernel)
theorem wd_1318 : (Cond.selects RX10 yX10_append yX10_append) ∈ BG := bg_tb tb_5 32 (by decide +kernel) (by decide +kernel)
theorem wd_1319 : (Cond.code yX10_append cX10_append 3 none) ∈ BG := bg_tb tb_5 33 (by decide +kernel) (by decide +kernel)
theorem wd_1320 : (Cond.methodLink RL 200 yL_end) ∈ BG := bg_tb tb_5 34 (by decide +kernel) (by decide +kernel)
theorem wd_1321 : (Cond.static yL_end) ∈ BG := bg_tb tb_5 35 (by decide +kernel) (by decide +kernel)
theorem wd_1322 : (Cond.codeWith yL_end cL_end 3 (some .int) [(0, 5, 8, 19)]) ∈ BG := bg_tb tb_5 36 (by decide +kernel) (by decide +kernel)
theorem wd_1323 : (Cond.classLink RL 19 "java/lang/IllegalArgumentException") ∈ BG := bg_tb tb_5 37 (by decide +kernel) (by decide +kernel)
theorem wd_1324 : (Cond.methodLink RL 15 yX12_end) ∈ BG := bg_tb tb_5 38 (by decide +kernel) (by decide +kernel)
theorem wd_1325 : (Cond.instanceMethod yX12_end) ∈ BG := bg_tb tb_5 39 (by decide +kernel) (by decide +kernel)
theorem wd_1326 : (Cond.selects RX12 yX12_end yX12_end) ∈ BG := bg_tb tb_5 40 (by decide +kernel) (by decide +kernel)
theorem wd_1327 : (Cond.code yX12_end cX12_end 2 none) ∈ BG := bg_tb tb_5 41 (by decide +kernel) (by decide +kernel)
theorem wd_1328 : (Cond.methodLink RX12 112 yX12_needRange) ∈ BG := bg_tb tb_5 42 (by decide +kernel) (by decide +kernel)
theorem wd_1329 : (Cond.static yX12_needRange) ∈ BG := bg_tb tb_5 43 (by decide +kernel) (by decide +kernel)
theorem wd_1330 : (Cond.code yX12_needRange cX12_needRange 1 none) ∈ BG := bg_tb tb_5 44 (by decide +kernel) (by decide +kernel)
theorem wd_1346 : (Cond.methodLink RL 204 yL_design) ∈ BG := bg_tb tb_5 60 (by decide +kernel) (by decide +kernel)
theorem wd_1347 : (Cond.static yL_design) ∈ BG := bg_tb tb_5 61 (by decide +kernel) (by decide +kernel)
theorem wd_1348 : (Cond.codeWith yL_design cL_design 3 (some .int) [(0, 8, 11, 13)]) ∈ BG := bg_tb tb_5 62 (by decide +kernel) (by decide +kernel)
theorem wd_1349 : (Cond.methodLink RL 21 yX12_design) ∈ BG := bg_tb tb_5 63 (by decide +kernel) (by decide +kernel)
theorem wd_1350 : (Cond.instanceMethod yX12_design) ∈ BG := bg_tb tb_5 64 (by decide +kernel) (by decide +kernel)
theorem wd_1351 : (Cond.selects RX12 yX12_design yX12_design) ∈ BG := bg_tb tb_5 65 (by decide +kernel) (by decide +kernel)
theorem wd_1352 : (Cond.codeWith yX12_design cX12_design 4 (some .int) [(25, 45, 48, 129)]) ∈ BG := bg_tb tb_5 66 (by decide +kernel) (by decide +kernel)
theorem wd_1354 : (Cond.methodLink RX12 115 yX12_freeDesign) ∈ BG := bg_tb tb_5 68 (by decide +kernel) (by decide +kernel)
theorem wd_1356 : (Cond.instanceMethod yX12_freeDesign) ∈ BG := bg_tb tb_5 70 (by decide +kernel) (by decide +kernel)
theorem wd_1357 : (Cond.code yX12_freeDesign cX12_freeDesign 2 (some .int)) ∈ BG := bg_tb tb_5 71 (by decide +kernel) (by decide +kernel)
theorem wd_1358 : (Cond.methodLink RX12 122 yX7_readDesign) ∈ BG := bg_tb tb_5 72 (by decide +kernel) (by decide +kernel)
theorem wd_1359 : (Cond.instanceMethod yX7_readDesign) ∈ BG := bg_tb tb_5 73 (by decide +kernel) (by decide +kernel)
theorem wd_1360 : (Cond.selects RX7 yX7_readDesign yX7_readDesign) ∈ BG := bg_tb tb_5 74 (by decide +kernel) (by decide +kernel)
theorem wd_1361 : (Cond.code yX7_readDesign cX7_readDesign 3 none) ∈ BG := bg_tb tb_5 75 (by decide +kernel) (by decide +kernel)
theorem wd_1362 : (Cond.methodLink RX7 63 yX10_begin) ∈ BG := bg_tb tb_5 76 (by decide +kernel) (by decide +kernel)
theorem wd_1363 : (Cond.instanceMethod yX10_begin) ∈ BG := bg_tb tb_5 77 (by decide +kernel) (by decide +kernel)
theorem wd_1364 : (Cond.selects RX10 yX10_begin yX10_begin) ∈ BG := bg_tb tb_5 78 (by decide +kernel) (by decide +kernel)
theorem wd_1365 : (Cond.code yX10_begin cX10_begin 1 none) ∈ BG := bg_tb tb_5 79 (by decide +kernel) (by decide +kernel)
theorem wd_1366 : (Cond.methodLink RX10 27 yX10_advance) ∈ BG := bg_tb tb_5 80 (by decide +kernel) (by decide +kernel)
theorem wd_1367 : (Cond.instanceMethod yX10_advance) ∈ BG := bg_tb tb_5 81 (by decide +kernel) (by decide +kernel)
theorem wd_1368 : (Cond.selects RX10 yX10_advance yX10_advance) ∈ BG := bg_tb tb_5 82 (by decide +kernel) (by decide +kernel)
theorem wd_1369 : (Cond.code yX10_advance cX10_advance 3 none) ∈ BG := bg_tb tb_5 83 (by decide +kernel) (by decide +kernel)
theorem wd_1370 : (Cond.methodLink RX10 46 yX10_skipBlanks) ∈ BG := bg_tb tb_5 84 (by decide +kernel) (by decide +kernel)
theorem wd_1372 : (Cond.instanceMethod yX10_skipBlanks) ∈ BG := bg_tb tb_5 86 (by decide +kernel) (by decide +kernel)
theorem wd_1373 : (Cond.code yX10_skipBlanks cX10_skipBlanks 3 none) ∈ BG := bg_tb tb_5 87 (by decide +kernel) (by decide +kernel)
theorem wd_1475 : (Cond.methodLink RX10 39 yX10_fail) ∈ BG := bg_tb tb_5 189 (by decide +kernel) (by decide +kernel)
theorem wd_1476 : (Cond.instanceMethod yX10_fail) ∈ BG := bg_tb tb_5 190 (by decide +kernel) (by decide +kernel)
theorem wd_1477 : (Cond.selects RX10 yX10_fail yX10_fail) ∈ BG := bg_tb tb_5 191 (by decide +kernel) (by decide +kernel)
theorem wd_1478 : (Cond.code yX10_fail cX10_fail 3 none) ∈ BG := bg_tb tb_5 192 (by decide +kernel) (by decide +kernel)
theorem wd_1479 : (Cond.classLink RX10 30 "java/lang/IllegalStateException") ∈ BG := bg_tb tb_5 193 (by decide +kernel) (by decide +kernel)
theorem wd_1494 : (Cond.methodLink RX7 66 yX7_beginModule) ∈ BG := bg_tb tb_5 208 (by decide +kernel) (by decide +kernel)
theorem wd_1496 : (Cond.instanceMethod yX7_beginModule) ∈ BG := bg_tb tb_5 210 (by decide +kernel) (by decide +kernel)
theorem wd_1497 : (Cond.code yX7_beginModule cX7_beginModule 2 none) ∈ BG := bg_tb tb_5 211 (by decide +kernel) (by decide +kernel)
theorem wd_1498 : (Cond.methodLink RX7 92 yX10_need) ∈ BG := bg_tb tb_5 212 (by decide +kernel) (by decide +kernel)
theorem wd_1499 : (Cond.instanceMethod yX10_need) ∈ BG := bg_tb tb_5 213 (by decide +kernel) (by decide +kernel)
theorem wd_1500 : (Cond.selects RX10 yX10_need yX10_need) ∈ BG := bg_tb tb_5 214 (by decide +kernel) (by decide +kernel)
theorem wd_1501 : (Cond.code yX10_need cX10_need 2 none) ∈ BG := bg_tb tb_5 215 (by decide +kernel) (by decide +kernel)
theorem wd_1770 : (Cond.methodLink RL 208 yL_library) ∈ BG := bg_tb tb_7 4 (by decide +kernel) (by decide +kernel)
theorem wd_1771 : (Cond.static yL_library) ∈ BG := bg_tb tb_7 5 (by decide +kernel) (by decide +kernel)
theorem wd_1772 : (Cond.codeWith yL_library cL_library 3 (some .int) [(0, 8, 11, 13)]) ∈ BG := bg_tb tb_7 6 (by decide +kernel) (by decide +kernel)
theorem wd_1773 : (Cond.methodLink RL 25 yX12_library) ∈ BG := bg_tb tb_7 7 (by decide +kernel) (by decide +kernel)
theorem wd_1774 : (Cond.instanceMethod yX12_library) ∈ BG := bg_tb tb_7 8 (by decide +kernel) (by decide +kernel)
theorem wd_1775 : (Cond.selects RX12 yX12_library yX12_library) ∈ BG := bg_tb tb_7 9 (by decide +kernel) (by decide +kernel)
theorem wd_1776 : (Cond.codeWith yX12_library cX12_library 4 (some .int) [(25, 38, 41, 129)]) ∈ BG := bg_tb tb_7 10 (by decide +kernel) (by decide +kernel)
theorem wd_1777 : (Cond.methodLink RX12 137 yX12_freeLibrary) ∈ BG := bg_tb tb_7 11 (by decide +kernel) (by decide +kernel)
theorem wd_1779 : (Cond.instanceMethod yX12_freeLibrary) ∈ BG := bg_tb tb_7 13 (by decide +kernel) (by decide +kernel)
theorem wd_1780 : (Cond.code yX12_freeLibrary cX12_freeLibrary 2 (some .int)) ∈ BG := bg_tb tb_7 14 (by decide +kernel) (by decide +kernel)
theorem wd_1781 : (Cond.methodLink RX12 140 yX7_readLibrary) ∈ BG := bg_tb tb_7 15 (by decide +kernel) (by decide +kernel)
theorem wd_1782 : (Cond.instanceMethod yX7_readLibrary) ∈ BG := bg_tb tb_7 16 (by decide +kernel) (by decide +kernel)
theorem wd_1783 : (Cond.selects RX7 yX7_readLibrary yX7_readLibrary) ∈ BG := bg_tb tb_7 17 (by decide +kernel) (by decide +kernel)
theorem wd_1784 : (Cond.code yX7_readLibrary cX7_readLibrary 8 none) ∈ BG := bg_tb tb_7 18 (by decide +kernel) (by decide +kernel)
theorem wd_1801 : (Cond.methodLink RL 215 yL_drop) ∈ BG := bg_tb tb_7 35 (by decide +kernel) (by decide +kernel)
theorem wd_1802 : (Cond.static yL_drop) ∈ BG := bg_tb tb_7 36 (by decide +kernel) (by decide +kernel)
theorem wd_1803 : (Cond.codeWith yL_drop cL_drop 4 (some .int) [(0, 6, 9, 19), (0, 6, 12, 32)]) ∈ BG := bg_tb tb_7 37 (by decide +kernel) (by decide +kernel)
theorem wd_1805 : (Cond.methodLink RL 28 yX12_drop) ∈ BG := bg_tb tb_7 39 (by decide +kernel) (by decide +kernel)
theorem wd_1806 : (Cond.instanceMethod yX12_drop) ∈ BG := bg_tb tb_7 40 (by decide +kernel) (by decide +kernel)
theorem wd_1807 : (Cond.selects RX12 yX12_drop yX12_drop) ∈ BG := bg_tb tb_7 41 (by decide +kernel) (by decide +kernel)
theorem wd_1808 : (Cond.code yX12_drop cX12_drop 3 none) ∈ BG := bg_tb tb_7 42 (by decide +kernel) (by decide +kernel)
theorem wd_1839 : (Cond.methodLink RL 219 yL_isThere) ∈ BG := bg_tb tb_7 73 (by decide +kernel) (by decide +kernel)
theorem wd_1840 : (Cond.static yL_isThere) ∈ BG := bg_tb tb_7 74 (by decide +kernel) (by decide +kernel)
theorem wd_1841 : (Cond.codeWith yL_isThere cL_isThere 5 (some .int) [(0, 17, 20, 19)]) ∈ BG := bg_tb tb_7 75 (by decide +kernel) (by decide +kernel)
theorem wd_1842 : (Cond.methodLink RL 34 yX12_isThere) ∈ BG := bg_tb tb_7 76 (by decide +kernel) (by decide +kernel)
theorem wd_1843 : (Cond.instanceMethod yX12_isThere) ∈ BG := bg_tb tb_7 77 (by decide +kernel) (by decide +kernel)
theorem wd_1844 : (Cond.selects RX12 yX12_isThere yX12_isThere) ∈ BG := bg_tb tb_7 78 (by decide +kernel) (by decide +kernel)
theorem wd_1845 : (Cond.code yX12_isThere cX12_isThere 3 (some .boolean)) ∈ BG := bg_tb tb_7 79 (by decide +kernel) (by decide +kernel)
theorem wd_1927 : (Cond.methodLink RL 256 yL_witness) ∈ BG := bg_tb tb_7 161 (by decide +kernel) (by decide +kernel)
theorem wd_1928 : (Cond.static yL_witness) ∈ BG := bg_tb tb_7 162 (by decide +kernel) (by decide +kernel)
theorem wd_1929 : (Cond.codeWith yL_witness cL_witness 4 (some .int) [(0, 9, 12, 32)]) ∈ BG := bg_tb tb_7 163 (by decide +kernel) (by decide +kernel)
theorem wd_1930 : (Cond.methodLink RL 72 yX12_witness) ∈ BG := bg_tb tb_7 164 (by decide +kernel) (by decide +kernel)
theorem wd_1931 : (Cond.instanceMethod yX12_witness) ∈ BG := bg_tb tb_7 165 (by decide +kernel) (by decide +kernel)
theorem wd_1932 : (Cond.selects RX12 yX12_witness yX12_witness) ∈ BG := bg_tb tb_7 166 (by decide +kernel) (by decide +kernel)
theorem wd_1933 : (Cond.code yX12_witness cX12_witness 2 (some .int)) ∈ BG := bg_tb tb_7 167 (by decide +kernel) (by decide +kernel)
theorem wd_1934 : (Cond.methodLink RL 259 yL_map) ∈ BG := bg_tb tb_7 168 (by decide +kernel) (by decide +kernel)
theorem wd_1935 : (Cond.static yL_map) ∈ BG := bg_tb tb_7 169 (by decide +kernel) (by decide +kernel)
theorem wd_1936 : (Cond.codeWith yL_map cL_map 5 (some .int) [(0, 10, 13, 32), (0, 10, 17, 13)]) ∈ BG := bg_tb tb_7 170 (by decide +kernel) (by decide +kernel)
theorem wd_3034 : (Cond.fieldLink RX13 555 "ChipFlowModel" "size" "I") ∈ BG := bg_tb tb_12 68 (by decide +kernel) (by decide +kernel)
theorem wd_3035 : (Cond.fieldLink RX13 570 "ChipFlowModel" "tokens" "I") ∈ BG := bg_tb tb_12 69 (by decide +kernel) (by decide +kernel)
theorem wd_3041 : (Cond.fieldLink RX13 598 "ChipFlowModel" "at" "I") ∈ BG := bg_tb tb_12 75 (by decide +kernel) (by decide +kernel)
theorem wd_3042 : (Cond.fieldLink RX13 592 "ChipFlowModel" "fault" "I") ∈ BG := bg_tb tb_12 76 (by decide +kernel) (by decide +kernel)
theorem wd_3043 : (Cond.fieldLink RX13 595 "ChipFlowModel" "faultPlace" "I") ∈ BG := bg_tb tb_12 77 (by decide +kernel) (by decide +kernel)
theorem wd_3044 : (Cond.fieldLink RX13 618 "ChipFlowModel" "modules" "I") ∈ BG := bg_tb tb_12 78 (by decide +kernel) (by decide +kernel)
theorem wd_3059 : (Cond.fieldLink RX13 645 "ChipFlowModel" "mode" "I") ∈ BG := bg_tb tb_12 93 (by decide +kernel) (by decide +kernel)
theorem wd_3060 : (Cond.fieldLink RX13 714 "ChipFlowModel" "module" "I") ∈ BG := bg_tb tb_12 94 (by decide +kernel) (by decide +kernel)
theorem wd_3064 : (Cond.fieldLink RX13 648 "ChipFlowModel" "waiting" "I") ∈ BG := bg_tb tb_12 98 (by decide +kernel) (by decide +kernel)
theorem wd_3065 : (Cond.fieldLink RX13 661 "ChipFlowModel" "openCount" "I") ∈ BG := bg_tb tb_12 99 (by decide +kernel) (by decide +kernel)
theorem wd_3066 : (Cond.fieldLink RX13 651 "ChipFlowModel" "values" "I") ∈ BG := bg_tb tb_12 100 (by decide +kernel) (by decide +kernel)
theorem wd_3110 : (Cond.fieldLink RX13 885 "ChipFlowModel" "lastFault" "I") ∈ BG := bg_tb tb_12 144 (by decide +kernel) (by decide +kernel)
theorem wd_3111 : (Cond.fieldLink RX13 733 "ChipFlowModel" "cellInputs" "I") ∈ BG := bg_tb tb_12 145 (by decide +kernel) (by decide +kernel)
theorem wd_3114 : (Cond.fieldLink RX13 891 "ChipFlowModel" "newCells" "I") ∈ BG := bg_tb tb_12 148 (by decide +kernel) (by decide +kernel)
theorem wd_3126 : (Cond.fieldLink RX13 921 "ChipFlowModel" "witnessCount" "I") ∈ BG := bg_tb tb_12 160 (by decide +kernel) (by decide +kernel)
theorem wd_3708 : (Cond.methodLink RL 196 yX13_feed) ∈ BG := bg_tb tb_15 22 (by decide +kernel) (by decide +kernel)
theorem wd_3709 : (Cond.instanceMethod yX13_feed) ∈ BG := bg_tb tb_15 23 (by decide +kernel) (by decide +kernel)
theorem wd_3710 : (Cond.selects RX13 yX13_feed yX13_feed) ∈ BG := bg_tb tb_15 24 (by decide +kernel) (by decide +kernel)
theorem wd_3711 : (Cond.code yX13_feed cX13_feed 8 (some .int)) ∈ BG := bg_tb tb_15 25 (by decide +kernel) (by decide +kernel)
theorem wd_3712 : (Cond.methodLink RL 203 yX13_end) ∈ BG := bg_tb tb_15 26 (by decide +kernel) (by decide +kernel)
theorem wd_3713 : (Cond.instanceMethod yX13_end) ∈ BG := bg_tb tb_15 27 (by decide +kernel) (by decide +kernel)
theorem wd_3714 : (Cond.selects RX13 yX13_end yX13_end) ∈ BG := bg_tb tb_15 28 (by decide +kernel) (by decide +kernel)
theorem wd_3715 : (Cond.code yX13_end cX13_end 2 none) ∈ BG := bg_tb tb_15 29 (by decide +kernel) (by decide +kernel)
theorem wd_3716 : (Cond.methodLink RL 369 yX13_tape) ∈ BG := bg_tb tb_15 30 (by decide +kernel) (by decide +kernel)
theorem wd_3717 : (Cond.instanceMethod yX13_tape) ∈ BG := bg_tb tb_15 31 (by decide +kernel) (by decide +kernel)
theorem wd_3718 : (Cond.selects RX13 yX13_tape yX13_tape) ∈ BG := bg_tb tb_15 32 (by decide +kernel) (by decide +kernel)
theorem wd_3719 : (Cond.code yX13_tape cX13_tape 1 (some .int)) ∈ BG := bg_tb tb_15 33 (by decide +kernel) (by decide +kernel)
theorem wd_3720 : (Cond.methodLink RL 207 yX13_design) ∈ BG := bg_tb tb_15 34 (by decide +kernel) (by decide +kernel)
theorem wd_3721 : (Cond.instanceMethod yX13_design) ∈ BG := bg_tb tb_15 35 (by decide +kernel) (by decide +kernel)
theorem wd_3722 : (Cond.selects RX13 yX13_design yX13_design) ∈ BG := bg_tb tb_15 36 (by decide +kernel) (by decide +kernel)
theorem wd_3723 : (Cond.code yX13_design cX13_design 2 (some .int)) ∈ BG := bg_tb tb_15 37 (by decide +kernel) (by decide +kernel)
theorem wd_3724 : (Cond.methodLink RX13 875 yX13_free) ∈ BG := bg_tb tb_15 38 (by decide +kernel) (by decide +kernel)
theorem wd_3725 : (Cond.static yX13_free) ∈ BG := bg_tb tb_15 39 (by decide +kernel) (by decide +kernel)
theorem wd_3726 : (Cond.code yX13_free cX13_free 3 (some .int)) ∈ BG := bg_tb tb_15 40 (by decide +kernel) (by decide +kernel)
theorem wd_3727 : (Cond.methodLink RX13 879 yX13_tellDesign) ∈ BG := bg_tb tb_15 41 (by decide +kernel) (by decide +kernel)
theorem wd_3729 : (Cond.instanceMethod yX13_tellDesign) ∈ BG := bg_tb tb_15 43 (by decide +kernel) (by decide +kernel)
theorem wd_3730 : (Cond.code yX13_tellDesign cX13_tellDesign 3 none) ∈ BG := bg_tb tb_15 44 (by decide +kernel) (by decide +kernel)
theorem wd_3731 : (Cond.methodLink RX13 791 yX13_cutTape) ∈ BG := bg_tb tb_15 45 (by decide +kernel) (by decide +kernel)
theorem wd_3733 : (Cond.instanceMethod yX13_cutTape) ∈ BG := bg_tb tb_15 47 (by decide +kernel) (by decide +kernel)
theorem wd_3734 : (Cond.code yX13_cutTape cX13_cutTape 3 none) ∈ BG := bg_tb tb_15 48 (by decide +kernel) (by decide +kernel)
theorem wd_3735 : (Cond.methodLink RX13 586 yX13_skip) ∈ BG := bg_tb tb_15 49 (by decide +kernel) (by decide +kernel)
theorem wd_3737 : (Cond.instanceMethod yX13_skip) ∈ BG := bg_tb tb_15 51 (by decide +kernel) (by decide +kernel)
theorem wd_3738 : (Cond.code yX13_skip cX13_skip 3 (some .int)) ∈ BG := bg_tb tb_15 52 (by decide +kernel) (by decide +kernel)
theorem wd_3739 : (Cond.methodLink RX13 558 yX13_byteAt) ∈ BG := bg_tb tb_15 53 (by decide +kernel) (by decide +kernel)
theorem wd_3741 : (Cond.instanceMethod yX13_byteAt) ∈ BG := bg_tb tb_15 55 (by decide +kernel) (by decide +kernel)
theorem wd_3742 : (Cond.code yX13_byteAt cX13_byteAt 2 (some .int)) ∈ BG := bg_tb tb_15 56 (by decide +kernel) (by decide +kernel)
theorem wd_3743 : (Cond.methodLink RX13 562 yX13_isBlank) ∈ BG := bg_tb tb_15 57 (by decide +kernel) (by decide +kernel)
theorem wd_3744 : (Cond.static yX13_isBlank) ∈ BG := bg_tb tb_15 58 (by decide +kernel) (by decide +kernel)
theorem wd_3745 : (Cond.code yX13_isBlank cX13_isBlank 1 (some .boolean)) ∈ BG := bg_tb tb_15 59 (by decide +kernel) (by decide +kernel)
theorem wd_3765 : (Cond.methodLink RX13 601 yX13_readNext) ∈ BG := bg_tb tb_15 79 (by decide +kernel) (by decide +kernel)
theorem wd_3767 : (Cond.instanceMethod yX13_readNext) ∈ BG := bg_tb tb_15 81 (by decide +kernel) (by decide +kernel)
theorem wd_3768 : (Cond.code yX13_readNext cX13_readNext 1 none) ∈ BG := bg_tb tb_15 82 (by decide +kernel) (by decide +kernel)
theorem wd_3769 : (Cond.methodLink RX13 604 yX13_flaw) ∈ BG := bg_tb tb_15 83 (by decide +kernel) (by decide +kernel)
theorem wd_3771 : (Cond.instanceMethod yX13_flaw) ∈ BG := bg_tb tb_15 85 (by decide +kernel) (by decide +kernel)
theorem wd_3772 : (Cond.code yX13_flaw cX13_flaw 3 none) ∈ BG := bg_tb tb_15 86 (by decide +kernel) (by decide +kernel)
theorem wd_3773 : (Cond.methodLink RX13 627 yX13_isRight) ∈ BG := bg_tb tb_15 87 (by decide +kernel) (by decide +kernel)
theorem wd_3775 : (Cond.instanceMethod yX13_isRight) ∈ BG := bg_tb tb_15 89 (by decide +kernel) (by decide +kernel)
theorem wd_3776 : (Cond.code yX13_isRight cX13_isRight 1 (some .boolean)) ∈ BG := bg_tb tb_15 90 (by decide +kernel) (by decide +kernel)
theorem wd_3777 : (Cond.methodLink RX13 794 yX13_tellModule) ∈ BG := bg_tb tb_15 91 (by decide +kernel) (by decide +kernel)
theorem wd_3779 : (Cond.instanceMethod yX13_tellModule) ∈ BG := bg_tb tb_15 93 (by decide +kernel) (by decide +kernel)
theorem wd_3780 : (Cond.code yX13_tellModule cX13_tellModule 3 none) ∈ BG := bg_tb tb_15 94 (by decide +kernel) (by decide +kernel)
theorem wd_3781 : (Cond.methodLink RX13 751 yX13_isWord) ∈ BG := bg_tb tb_15 95 (by decide +kernel) (by decide +kernel)
theorem wd_3783 : (Cond.instanceMethod yX13_isWord) ∈ BG := bg_tb tb_15 97 (by decide +kernel) (by decide +kernel)
theorem wd_3784 : (Cond.code yX13_isWord cX13_isWord 2 (some .boolean)) ∈ BG := bg_tb tb_15 98 (by decide +kernel) (by decide +kernel)
theorem wd_3785 : (Cond.methodLink RX13 611 yX13_go) ∈ BG := bg_tb tb_15 99 (by decide +kernel) (by decide +kernel)
theorem wd_3787 : (Cond.instanceMethod yX13_go) ∈ BG := bg_tb tb_15 101 (by decide +kernel) (by decide +kernel)
theorem wd_3788 : (Cond.code yX13_go cX13_go 1 none) ∈ BG := bg_tb tb_15 102 (by decide +kernel) (by decide +kernel)
theorem wd_3789 : (Cond.methodLink RX13 621 yX13_due) ∈ BG := bg_tb tb_15 103 (by decide +kernel) (by decide +kernel)
theorem wd_3791 : (Cond.instanceMethod yX13_due) ∈ BG := bg_tb tb_15 105 (by decide +kernel) (by decide +kernel)
theorem wd_3792 : (Cond.code yX13_due cX13_due 2 (some .int)) ∈ BG := bg_tb tb_15 106 (by decide +kernel) (by decide +kernel)
theorem wd_3801 : (Cond.methodLink RX13 705 yX13_sign) ∈ BG := bg_tb tb_15 115 (by decide +kernel) (by decide +kernel)
theorem wd_3803 : (Cond.instanceMethod yX13_sign) ∈ BG := bg_tb tb_15 117 (by decide +kernel) (by decide +kernel)
theorem wd_3804 : (Cond.code yX13_sign cX13_sign 2 none) ∈ BG := bg_tb tb_15 118 (by decide +kernel) (by decide +kernel)
theorem wd_3805 : (Cond.methodLink RX13 608 yX13_isAt) ∈ BG := bg_tb tb_15 119 (by decide +kernel) (by decide +kernel)
theorem wd_3807 : (Cond.instanceMethod yX13_isAt) ∈ BG := bg_tb tb_15 121 (by decide +kernel) (by decide +kernel)
theorem wd_3808 : (Cond.code yX13_isAt cX13_isAt 2 (some .boolean)) ∈ BG := bg_tb tb_15 122 (by decide +kernel) (by decide +kernel)
theorem wd_3825 : (Cond.methodLink RX13 638 yX13_within) ∈ BG := bg_tb tb_15 139 (by decide +kernel) (by decide +kernel)
theorem wd_3826 : (Cond.static yX13_within) ∈ BG := bg_tb tb_15 140 (by decide +kernel) (by decide +kernel)
theorem wd_3827 : (Cond.code yX13_within cX13_within 3 (some .boolean)) ∈ BG := bg_tb tb_15 141 (by decide +kernel) (by decide +kernel)
theorem wd_3836 : (Cond.methodLink RX13 775 yX13_expression) ∈ BG := bg_tb tb_15 150 (by decide +kernel) (by decide +kernel)
theorem wd_3838 : (Cond.instanceMethod yX13_expression) ∈ BG := bg_tb tb_15 152 (by decide +kernel) (by decide +kernel)
theorem wd_3839 : (Cond.code yX13_expression cX13_expression 2 none) ∈ BG := bg_tb tb_15 153 (by decide +kernel) (by decide +kernel)
theorem wd_4048 : (Cond.methodLink RL 210 yX13_library) ∈ BG := bg_tb tb_16 122 (by decide +kernel) (by decide +kernel)
theorem wd_4049 : (Cond.instanceMethod yX13_library) ∈ BG := bg_tb tb_16 123 (by decide +kernel) (by decide +kernel)
theorem wd_4050 : (Cond.selects RX13 yX13_library yX13_library) ∈ BG := bg_tb tb_16 124 (by decide +kernel) (by decide +kernel)
theorem wd_4051 : (Cond.code yX13_library cX13_library 3 (some .int)) ∈ BG := bg_tb tb_16 125 (by decide +kernel) (by decide +kernel)
theorem wd_4052 : (Cond.methodLink RX13 900 yX13_tellCell) ∈ BG := bg_tb tb_16 126 (by decide +kernel) (by decide +kernel)
theorem wd_4054 : (Cond.instanceMethod yX13_tellCell) ∈ BG := bg_tb tb_16 128 (by decide +kernel) (by decide +kernel)
theorem wd_4055 : (Cond.code yX13_tellCell cX13_tellCell 3 none) ∈ BG := bg_tb tb_16 129 (by decide +kernel) (by decide +kernel)
theorem wd_4056 : (Cond.methodLink RX13 894 yX13_tellInput) ∈ BG := bg_tb tb_16 130 (by decide +kernel) (by decide +kernel)
theorem wd_4058 : (Cond.instanceMethod yX13_tellInput) ∈ BG := bg_tb tb_16 132 (by decide +kernel) (by decide +kernel)
theorem wd_4059 : (Cond.code yX13_tellInput cX13_tellInput 3 none) ∈ BG := bg_tb tb_16 133 (by decide +kernel) (by decide +kernel)
theorem wd_4060 : (Cond.methodLink RX13 897 yX13_bounded) ∈ BG := bg_tb tb_16 134 (by decide +kernel) (by decide +kernel)
theorem wd_4062 : (Cond.instanceMethod yX13_bounded) ∈ BG := bg_tb tb_16 136 (by decide +kernel) (by decide +kernel)
theorem wd_4063 : (Cond.code yX13_bounded cX13_bounded 3 (some .int)) ∈ BG := bg_tb tb_16 137 (by decide +kernel) (by decide +kernel)
theorem wd_4064 : (Cond.methodLink RL 214 yX13_fault) ∈ BG := bg_tb tb_16 138 (by decide +kernel) (by decide +kernel)
theorem wd_4065 : (Cond.instanceMethod yX13_fault) ∈ BG := bg_tb tb_16 139 (by decide +kernel) (by decide +kernel)
theorem wd_4066 : (Cond.selects RX13 yX13_fault yX13_fault) ∈ BG := bg_tb tb_16 140 (by decide +kernel) (by decide +kernel)
theorem wd_4067 : (Cond.code yX13_fault cX13_fault 1 (some .int)) ∈ BG := bg_tb tb_16 141 (by decide +kernel) (by decide +kernel)
theorem wd_4068 : (Cond.methodLink RL 218 yX13_drop) ∈ BG := bg_tb tb_16 142 (by decide +kernel) (by decide +kernel)
theorem wd_4069 : (Cond.instanceMethod yX13_drop) ∈ BG := bg_tb tb_16 143 (by decide +kernel) (by decide +kernel)
theorem wd_4070 : (Cond.selects RX13 yX13_drop yX13_drop) ∈ BG := bg_tb tb_16 144 (by decide +kernel) (by decide +kernel)
theorem wd_4071 : (Cond.code yX13_drop cX13_drop 3 none) ∈ BG := bg_tb tb_16 145 (by decide +kernel) (by decide +kernel)
theorem wd_4072 : (Cond.methodLink RX13 912 yX13_isOne) ∈ BG := bg_tb tb_16 146 (by decide +kernel) (by decide +kernel)
theorem wd_4074 : (Cond.instanceMethod yX13_isOne) ∈ BG := bg_tb tb_16 148 (by decide +kernel) (by decide +kernel)
theorem wd_4075 : (Cond.code yX13_isOne cX13_isOne 3 (some .boolean)) ∈ BG := bg_tb tb_16 149 (by decide +kernel) (by decide +kernel)
theorem wd_4088 : (Cond.methodLink RL 222 yX13_isThere) ∈ BG := bg_tb tb_16 162 (by decide +kernel) (by decide +kernel)
theorem wd_4089 : (Cond.instanceMethod yX13_isThere) ∈ BG := bg_tb tb_16 163 (by decide +kernel) (by decide +kernel)
theorem wd_4090 : (Cond.selects RX13 yX13_isThere yX13_isThere) ∈ BG := bg_tb tb_16 164 (by decide +kernel) (by decide +kernel)
theorem wd_4091 : (Cond.code yX13_isThere cX13_isThere 3 (some .boolean)) ∈ BG := bg_tb tb_16 165 (by decide +kernel) (by decide +kernel)
theorem wd_4155 : (Cond.methodLink RL 258 yX13_witness) ∈ BG := bg_tb tb_16 229 (by decide +kernel) (by decide +kernel)
theorem wd_4156 : (Cond.instanceMethod yX13_witness) ∈ BG := bg_tb tb_16 230 (by decide +kernel) (by decide +kernel)
theorem wd_4157 : (Cond.selects RX13 yX13_witness yX13_witness) ∈ BG := bg_tb tb_16 231 (by decide +kernel) (by decide +kernel)
theorem wd_4158 : (Cond.code yX13_witness cX13_witness 2 (some .int)) ∈ BG := bg_tb tb_16 232 (by decide +kernel) (by decide +kernel)
theorem wd_4159 : (Cond.methodLink RL 261 yX13_map) ∈ BG := bg_tb tb_16 233 (by decide +kernel) (by decide +kernel)
theorem wd_4160 : (Cond.instanceMethod yX13_map) ∈ BG := bg_tb tb_16 234 (by decide +kernel) (by decide +kernel)
theorem wd_4161 : (Cond.selects RX13 yX13_map yX13_map) ∈ BG := bg_tb tb_16 235 (by decide +kernel) (by decide +kernel)
theorem wd_4162 : (Cond.code yX13_map cX13_map 6 (some .int)) ∈ BG := bg_tb tb_16 236 (by decide +kernel) (by decide +kernel)
