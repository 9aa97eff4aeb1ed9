/-! the whole program is known -/
section OK
variable {sc : Nat × (Nat → Int)}
def ck_nI (mid : Nat) (q : Nat × sm_I) : Bool := match q.2.1 with
  | 45 => decide ((mid, q.1, q.2.2.2.1) ∈ [(187, 10, 2), (265, 4, 0), (266, 4, 1), (267, 4, 2), (268, 4, 3)])
  | 46 => decide ((mid, q.1) ∈ [(115, 54), (146, 1), (164, 51), (198, 28), (219, 25), (223, 79), (231, 42), (252, 54), (350, 1), (375, 41), (425, 78), (453, 41), (588, 40)])
  | 49 => nt_ok mid q.1 q.2.2.1 q.2.2.2.1 q.2.2.2.2.1 q.2.2.2.2.2.2.toNat
  | _ => true
def ck_n (mid : Nat) : Bool := (mt_cd mid).all (ck_nI mid)
set_option maxRecDepth 100000 in
theorem ck_n0 : (List.range' 0 74).all ck_n = true := by decide +kernel
set_option maxRecDepth 100000 in
theorem ck_n1 : (List.range' 74 74).all ck_n = true := by decide +kernel
set_option maxRecDepth 100000 in
theorem ck_n2 : (List.range' 148 74).all ck_n = true := by decide +kernel
set_option maxRecDepth 100000 in
theorem ck_n3 : (List.range' 222 74).all ck_n = true := by decide +kernel
set_option maxRecDepth 100000 in
theorem ck_n4 : (List.range' 296 74).all ck_n = true := by decide +kernel
set_option maxRecDepth 100000 in
theorem ck_n5 : (List.range' 370 74).all ck_n = true := by decide +kernel
set_option maxRecDepth 100000 in
theorem ck_n6 : (List.range' 444 74).all ck_n = true := by decide +kernel
set_option maxRecDepth 100000 in
theorem ck_n7 : (List.range' 518 70).all ck_n = true := by decide +kernel
theorem ok_rg {p : Nat → Bool} {a n mid : Nat} (h : (List.range' a n).all p = true) (h1 : a ≤ mid) (h2 : mid < a + n) : p mid = true := List.all_eq_true.mp h mid (List.mem_range'_1.mpr ⟨h1, h2⟩)
theorem ck_nA {mid : Nat} (h : mid < 588) : ck_n mid = true := by
  by_cases c0 : mid < 74
  · exact ok_rg ck_n0 (by omega) (by omega)
  by_cases c1 : mid < 148
  · exact ok_rg ck_n1 (by omega) (by omega)
  by_cases c2 : mid < 222
  · exact ok_rg ck_n2 (by omega) (by omega)
  by_cases c3 : mid < 296
  · exact ok_rg ck_n3 (by omega) (by omega)
  by_cases c4 : mid < 370
  · exact ok_rg ck_n4 (by omega) (by omega)
  by_cases c5 : mid < 444
  · exact ok_rg ck_n5 (by omega) (by omega)
  by_cases c6 : mid < 518
  · exact ok_rg ck_n6 (by omega) (by omega)
  exact ok_rg ck_n7 (by omega) (by omega)
theorem ck_cA {mid : Nat} (h : mid < 588) : ck_c mid = true := by
  by_cases c0 : mid < 96
  · exact ok_rg ck_c0 (by omega) (by omega)
  by_cases c1 : mid < 143
  · exact ok_rg ck_c1 (by omega) (by omega)
  by_cases c2 : mid < 206
  · exact ok_rg ck_c2 (by omega) (by omega)
  by_cases c3 : mid < 256
  · exact ok_rg ck_c3 (by omega) (by omega)
  by_cases c4 : mid < 323
  · exact ok_rg ck_c4 (by omega) (by omega)
  by_cases c5 : mid < 350
  · exact ok_rg ck_c5 (by omega) (by omega)
  by_cases c6 : mid < 431
  · exact ok_rg ck_c6 (by omega) (by omega)
  by_cases c7 : mid < 488
  · exact ok_rg ck_c7 (by omega) (by omega)
  by_cases c8 : mid < 579
  · exact ok_rg ck_c8 (by omega) (by omega)
  exact ok_rg ck_c9 (by omega) (by omega)
theorem mo_A {mid : Nat} (h : mid < 588) : (∃ k i : Nat, (tb_K k)[i]? = some (sm_cw (mt_P sc) (mt_M sc) mid)) ∧ sm_hok (mt_i mid).1 (mt_hr mid) (mt_hs mid) := by
  by_cases c0 : mid < 64
  · exact mo_t0 (by omega) (by omega)
  by_cases c1 : mid < 128
  · exact mo_t1 (by omega) (by omega)
  by_cases c2 : mid < 192
  · exact mo_t2 (by omega) (by omega)
  by_cases c3 : mid < 256
  · exact mo_t3 (by omega) (by omega)
  by_cases c4 : mid < 320
  · exact mo_t4 (by omega) (by omega)
  by_cases c5 : mid < 384
  · exact mo_t5 (by omega) (by omega)
  by_cases c6 : mid < 448
  · exact mo_t6 (by omega) (by omega)
  by_cases c7 : mid < 512
  · exact mo_t7 (by omega) (by omega)
  by_cases c8 : mid < 576
  · exact mo_t8 (by omega) (by omega)
  exact mo_t9 (by omega) (by omega)
theorem mt_z {mid : Nat} (h : 589 ≤ mid) : mt_cd mid = [] := by
  unfold mt_cd
  by_cases h1 : mid < 608
  · have h2 : mid / 32 = 18 := by omega
    rw [h2]
    have h3 : mid % 32 = mid - 576 := by omega
    rw [h3, List.getD_eq_getElem?_getD, List.getElem?_eq_none]
    · rfl
    · show 13 ≤ _
      omega
  · have h2 : mt_cdL.getD (mid / 32) [] = [] := by
      rw [List.getD_eq_getElem?_getD, List.getElem?_eq_none]
      · rfl
      · show 19 ≤ _
        omega
    rw [h2]
    rfl
theorem lk_mem {l : List (Nat × sm_I)} {a : Nat} {x : sm_I} (h : l.lookup a = some x) : (a, x) ∈ l := by
  induction l with
  | nil => cases h
  | cons y l ih =>
    obtain ⟨k, v⟩ := y
    rw [List.lookup_cons] at h
    split at h
    · rename_i hk
      cases h
      rw [of_decide_eq_true hk]
      exact List.mem_cons_self
    · exact List.mem_cons_of_mem _ (ih h)
theorem mt_mem {mid pc : Nat} {x : sm_I} (h : mt_in mid pc = some x) : (pc, x) ∈ mt_cd mid ∧ mid < 589 := by
  have h1 := lk_mem h
  refine ⟨h1, ?_⟩
  by_cases c : mid < 589
  · exact c
  · rw [mt_z (by omega)] at h1
    cases h1
theorem mo_ok {mid : Nat} (h0 : 2 ≤ mid) (h : mid < 588) : sm_mok (mt_P sc) (mt_M sc) mid := by
  obtain ⟨⟨k, i, hw⟩, hh⟩ := mo_A h
  have c1 := of_decide_eq_true (ok_rg mo_c1 h0 (by omega))
  have c2 := ok_rg mo_c2 h0 (by omega)
  have c3 := of_decide_eq_true (ok_rg mo_c3 h0 (by omega))
  have c4 := ok_rg mo_c4 h0 (by omega)
  have c5 := of_decide_eq_true (ok_rg mo_c5 h0 (by omega))
  simp only [Bool.and_eq_true, decide_eq_true_eq] at c4
  refine ⟨wb hw ?_, c1, c2, wb c3 rfl, c4, c5, hh⟩
  unfold sm_cw
  split <;> rfl
theorem ok_c {mid pc : Nat} {x : sm_I} (hx : (pc, x) ∈ mt_cd mid) (hm : ck_c mid = true) (h40 : x.1 = 40) : sm_mok (mt_P sc) (mt_M sc) x.2.2.1 ∧ Cond.methodLink (sh_R ((mt_P sc).2.1 mid).1) x.2.2.2.2.2.toNat ((mt_M sc).1 x.2.2.1) ∈ BG ∧
    (x.2.2.2.2.1 ≠ 1 → decode ((mt_M sc).2.1 mid) pc = .ok (.invokevirtual x.2.2.2.2.2.toNat, 3) ∧ Cond.instanceMethod ((mt_M sc).1 x.2.2.1) ∈ BG ∧ Cond.selects ((mt_M sc).1 x.2.2.1).cls ((mt_M sc).1 x.2.2.1) ((mt_M sc).1 x.2.2.1) ∈ BG ∧ (parseMethodDescriptor ((mt_M sc).1 x.2.2.1).desc).map (fun d => d.parameters.length + 1) = some x.2.2.2.1 ∧ ((mt_P sc).2.1 x.2.2.1).1 < 14) ∧
    (x.2.2.2.2.1 = 1 → decode ((mt_M sc).2.1 mid) pc = .ok (.invokestatic x.2.2.2.2.2.toNat, 3) ∧ Cond.static ((mt_M sc).1 x.2.2.1) ∈ BG ∧ (parseMethodDescriptor ((mt_M sc).1 x.2.2.1).desc).map (fun d => d.parameters.length) = some x.2.2.2.1) := by
  have h := List.all_eq_true.mp hm _ hx
  unfold ck_cI at h
  dsimp only at h
  rw [if_pos h40] at h
  simp only [Bool.and_eq_true, decide_eq_true_eq] at h
  obtain ⟨⟨⟨h1, h2⟩, h3⟩, h4⟩ := h
  refine ⟨mo_ok h2 h3, ml_in (own := (mt_i mid).1) h1, fun hv => ?_, fun hv => ?_⟩
  · rw [if_neg hv] at h4
    simp only [Bool.and_eq_true, decide_eq_true_eq] at h4
    obtain ⟨⟨⟨d1, d2⟩, d3⟩, d4⟩ := h4
    obtain ⟨q, hq, d5⟩ := List.any_eq_true.mp d2
    have d6 := List.all_eq_true.mp mv_c q hq
    simp only [Bool.and_eq_true, decide_eq_true_eq] at d5 d6
    rw [d5] at d6
    exact ⟨d1, wb d6.1 rfl, wb d6.2 rfl, d3, d4⟩
  · rw [if_pos hv] at h4
    simp only [Bool.and_eq_true, decide_eq_true_eq] at h4
    obtain ⟨⟨d1, d2⟩, d3⟩ := h4
    obtain ⟨q, hq, d5⟩ := List.any_eq_true.mp d2
    have d6 := List.all_eq_true.mp ms_c q hq
    simp only [decide_eq_true_eq] at d5 d6
    rw [d5] at d6
    exact ⟨d1, wb d6 rfl, d3⟩
theorem ok_t {mid pc a : Nat} (h : (mid, pc, a) ∈ [(187, 10, 2), (265, 4, 0), (266, 4, 1), (267, 4, 2), (268, 4, 3)]) : sm_thr (mt_P sc) (mt_M sc) mid pc a := by
  simp only [List.mem_cons, List.not_mem_nil, or_false, Prod.mk.injEq] at h
  rcases h with ⟨rfl, rfl, rfl⟩ | ⟨rfl, rfl, rfl⟩ | ⟨rfl, rfl, rfl⟩ | ⟨rfl, rfl, rfl⟩ | ⟨rfl, rfl, rfl⟩
  · exact tr_187
  · exact tr_265
  · exact tr_266
  · exact tr_267
  · exact tr_268
theorem ok_s {mid pc : Nat} (h : (mid, pc) ∈ [(115, 54), (146, 1), (164, 51), (198, 28), (219, 25), (223, 79), (231, 42), (252, 54), (350, 1), (375, 41), (425, 78), (453, 41), (588, 40)]) : sw_P sc mid pc := by
  simp only [List.mem_cons, List.not_mem_nil, or_false, Prod.mk.injEq] at h
  rcases h with ⟨rfl, rfl⟩ | ⟨rfl, rfl⟩ | ⟨rfl, rfl⟩ | ⟨rfl, rfl⟩ | ⟨rfl, rfl⟩ | ⟨rfl, rfl⟩ | ⟨rfl, rfl⟩ | ⟨rfl, rfl⟩ | ⟨rfl, rfl⟩ | ⟨rfl, rfl⟩ | ⟨rfl, rfl⟩ | ⟨rfl, rfl⟩ | ⟨rfl, rfl⟩
  · exact sw_115
  · exact sw_146
  · exact sw_164
  · exact sw_198
  · exact sw_219
  · exact sw_223
  · exact sw_231
  · exact sw_252
  · exact sw_350
  · exact sw_375
  · exact sw_425
  · exact sw_453
  · exact sw_588
/-- the whole program, but for what reads off the code of the simple instructions -/
theorem ok_of (h300 : nt_P sc 195 110 2 300 0) (h10 : nt_P sc 195 114 3 10 2) (hck : ∀ mid, mid < 589 → ck_s mid = true ∧ ck_r mid = true ∧ ck_c mid = true ∧ ck_n mid = true) : sm_ok (mt_P sc) (mt_M sc) := by
  intro mid pc x hx
  obtain ⟨h1, h2⟩ := mt_mem hx
  obtain ⟨k1, k2, k4, k3⟩ := hck mid h2
  have k1 := List.all_eq_true.mp k1 _ h1
  have k2 := List.all_eq_true.mp k2 _ h1
  have k3 := List.all_eq_true.mp k3 _ h1
  unfold ck_sI at k1
  unfold ck_rI at k2
  unfold ck_nI at k3
  dsimp only at k1 k2 k3
  refine ⟨fun c => ?_, fun c => ok_c h1 k4 c, fun c => ?_, fun c => ?_, fun c => ?_, fun c => ?_, fun c => ?_, fun c => ?_, fun c => ?_⟩
  · rw [if_pos c] at k1
    simp only [Bool.and_eq_true, decide_eq_true_eq] at k1
    refine ⟨k1.1.1, k1.1.2, fun c1 c2 => ?_⟩
    have k5 := k1.2
    rw [if_pos (by simp [c1, c2])] at k5
    exact of_decide_eq_true k5
  · rw [c] at k2
    simp only [Bool.and_eq_true, Bool.or_eq_true, decide_eq_true_eq] at k2
    refine ⟨k2.1, fun c1 => ?_, fun c1 => ?_⟩
    · rcases k2.2 with q | q
      · exact q.2
      · omega
    · rcases k2.2 with q | q
      · omega
      · exact q.2
  · rw [c] at k2
    simp only [Bool.and_eq_true, decide_eq_true_eq] at k2
    exact k2
  · rw [c] at k2
    have k6 : (decide (decode (mt_b mid) pc = .ok (.areturn, 1)) && (match mt_r mid with
      | some (.object _) => true
      | _ => false)) = true := k2
    rw [Bool.and_eq_true] at k6
    refine ⟨of_decide_eq_true k6.1, ?_⟩
    have k5 := k6.2
    split at k5
    · rename_i q
      exact ⟨_, q⟩
    · cases k5
  · rw [c] at k2
    simp only [Bool.and_eq_true, decide_eq_true_eq] at k2
    exact k2
  · rw [c] at k3
    exact ok_t (of_decide_eq_true k3)
  · rw [c] at k3
    exact ok_s (of_decide_eq_true k3)
  · rw [c] at k3
    exact nt_all h300 h10 k3
end OK
