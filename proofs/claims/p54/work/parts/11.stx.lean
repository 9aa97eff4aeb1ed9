/-! a step of the small machine is a step of the machine: the other instructions -/
set_option maxRecDepth 20000 in
theorem sh_fkc0 : (List.range 14).all (fun t => (List.range (sh_kd t).2.2).all fun k => if (sh_fk t k).1 = 1 then decide (sh_cn t + (sh_fk t k).2.2 ≤ sh_cn (sh_fk t k).2.1) else true) = true := by decide +kernel
theorem sh_fkc {t k i : Nat} (ht : t < 14) (hk : k < (sh_kd t).2.2) (h : (sh_fk t k).1 = 1) (hi : i < sh_cn t) : (sh_fk t k).2.2 + i < sh_cn (sh_fk t k).2.1 := by
  have h1 := List.all_eq_true.mp (List.all_eq_true.mp sh_fkc0 t (List.mem_range.mpr ht)) k (List.mem_range.mpr hk)
  rw [if_pos h] at h1
  have h2 := of_decide_eq_true h1
  omega
theorem sm_fu_nz {S : sm_S} {t i k : Nat} (ht : t < 14) (hk : k < (sh_kd t).2.2) (hi : i < sh_cn t) (h : sm_nS S) : sm_nz sh_cz (sm_fu S t i k) := by
  unfold sm_fu
  split
  · rename_i q
    have h1 := h.1 t i k
    rw [if_neg (by omega)] at h1
    exact h1
  · rename_i q
    have h1 := h.1 t i k
    rw [if_pos q] at h1
    exact h1
  · rename_i q
    exact sh_cz_of (sh_fkc ht hk q hi)
  · cases hj : S.2.1 t i k with
    | none => trivial
    | some j => exact sh_cz_of (h.2.1 t i k j hj)
set_option maxRecDepth 20000 in
theorem sh_fkt0 : (List.range 14).all (fun t => (List.range (sh_kd t).2.2).all fun k => if (sh_fk t k).1 = 2 then decide ((sh_fk t k).2.1 < 14) else true) = true := by decide +kernel
theorem sh_fkt {t k : Nat} (ht : t < 14) (hk : k < (sh_kd t).2.2) (h : (sh_fk t k).1 = 2) : (sh_fk t k).2.1 < 14 := by
  have h1 := List.all_eq_true.mp (List.all_eq_true.mp sh_fkt0 t (List.mem_range.mpr ht)) k (List.mem_range.mpr hk)
  rw [if_pos h] at h1
  exact of_decide_eq_true h1
theorem sh_any {own a b d : Nat} (h : (sh_lk own).any (fun q => decide (q.1 = a) && decide (q.2.1 = b) && decide (q.2.2.1 = d)) = true) : Cond.fieldLink (sh_R own) a (sh_T b d).1 (sh_T b d).2.1 (sh_T b d).2.2.1 ∈ BG ∧ b < 14 ∧ d < (sh_kd b).2.2 := by
  obtain ⟨q, hq, h1⟩ := List.any_eq_true.mp h
  simp only [Bool.and_eq_true, decide_eq_true_eq] at h1
  obtain ⟨⟨rfl, rfl⟩, rfl⟩ := h1
  exact sh_lkc q hq
theorem sm_cat1 {ad : Nat → Nat → Nat} {v : sm_V} (h : ∀ z, v ≠ .inr (.inl z)) : (sm_tr ad v).category = 1 := by
  rcases v with z | z | _ | r
  · rfl
  · exact absurd rfl (h z)
  · rfl
  · rfl
theorem sm_tgt {pc : Nat} {z : Int} (h : 0 ≤ (pc : Int) + z) : (pc : Int) + z = ((((pc : Int) + z).toNat : Nat) : Int) := by omega
theorem sm_nS_aI {S : sm_S} {t i k : Nat} {v : Int} (h : sm_nS S) (hv : sm_ni v) : sm_nS (sm_aI S t i k v) := by
  refine ⟨h.1, h.2.1, fun t' i' k' => ?_, h.2.2.2⟩
  show sm_ni (sm_up S.2.2.1 t i k v t' i' k')
  unfold sm_up
  split
  · exact hv
  · exact h.2.2.1 t' i' k'
theorem sm_nS_aL {S : sm_S} {t i k : Nat} {v : Int} (h : sm_nS S) (hv : sm_nl v) : sm_nS (sm_aL S t i k v) := by
  refine ⟨h.1, h.2.1, h.2.2.1, fun t' i' k' => ?_⟩
  show sm_nl (sm_up S.2.2.2 t i k v t' i' k')
  unfold sm_up
  split
  · exact hv
  · exact h.2.2.2 t' i' k'
theorem sm_nS_pI {S : sm_S} {t i k : Nat} {v : Int} (h : sm_nS S) (hv : if (sh_fk t k).1 = 3 then sm_nl v else sm_ni v) : sm_nS (sm_pI S t i k v) := by
  refine ⟨fun t' i' k' => ?_, h.2⟩
  show if (sh_fk t' k').1 = 3 then sm_nl (sm_up S.1 t i k v t' i' k') else sm_ni (sm_up S.1 t i k v t' i' k')
  by_cases q : t' = t ∧ i' = i ∧ k' = k
  · obtain ⟨rfl, rfl, rfl⟩ := q
    rw [sm_up_self]
    exact hv
  · rw [sm_up_ne q]
    exact h.1 t' i' k'
theorem sm_nS_pR {S : sm_S} {t i k : Nat} {v : Option Nat} (h : sm_nS S) (hv : ∀ j, v = some j → j < sh_cn (sh_fk t k).2.1) : sm_nS (sm_pR S t i k v) := by
  refine ⟨h.1, fun t' i' k' j hj => ?_, h.2.2⟩
  have hj : sm_up S.2.1 t i k v t' i' k' = some j := hj
  by_cases q : t' = t ∧ i' = i ∧ k' = k
  · obtain ⟨rfl, rfl, rfl⟩ := q
    rw [sm_up_self] at hj
    exact hv j hj
  · rw [sm_up_ne q] at hj
    exact h.2.1 t' i' k' j hj
theorem sm_fu_ne {S : sm_S} {t i k j : Nat} {v : Int} (h : j ≠ k) : sm_fu (sm_pI S t i k v) t i j = sm_fu S t i j := by
  have h1 : (sm_pI S t i k v).1 t i j = S.1 t i j := sm_up_ne (fun q => h q.2.2)
  unfold sm_fu
  rw [h1]
  rfl
theorem sm_fu_neR {S : sm_S} {t i k j : Nat} {v : Option Nat} (h : j ≠ k) : sm_fu (sm_pR S t i k v) t i j = sm_fu S t i j := by
  have h1 : (sm_pR S t i k v).2.1 t i j = S.2.1 t i j := sm_up_ne (fun q => h q.2.2)
  unfold sm_fu
  rw [h1]
  rfl
theorem sm_fu_0 {S : sm_S} {t i k : Nat} (h : (sh_fk t k).1 = 0) : sm_fu S t i k = .inl (S.1 t i k) := by unfold sm_fu; rw [h]; rfl
theorem sm_fu_3 {S : sm_S} {t i k : Nat} (h : (sh_fk t k).1 = 3) : sm_fu S t i k = .inr (.inl (S.1 t i k)) := by unfold sm_fu; rw [h]; rfl
theorem sm_fu_2 {S : sm_S} {t i k : Nat} (h : (sh_fk t k).1 = 2) : sm_fu S t i k = .inr (.inr ((S.2.1 t i k).map fun j => ((sh_fk t k).2.1, j))) := by unfold sm_fu; rw [h]; rfl
section STX
variable {p : Program} {l : Launch} {e : Env} {R : Room} {s : State} {m : MethodId} {args : Array Value} {below : List Frame} {meth : Method} {c : Code} {cells slots : Nat} {Q : State → Prop}
variable {cc : ByteArray} {ad : Nat → Nat → Nat} {D : va_G} {K : Nat → ClassId} {A : Nat → Prop} {H0 : Heap} {own : Nat}
variable {pc : Nat} {L : sm_L} {st : List sm_V} {S : sm_S} {n a b d : Nat} {z : Int} {r : sm_C}
theorem sm_w_lcmp {H : Heap} {locs : List Loc} {ls : Array Slot} {rest : List Value} (hx : p.tables.exec = Jvm.exec) (hb : c.code = cc) {x y : Int} (nx : sm_nl x) (ny : sm_nl y) (hdg : decode cc pc = .ok (.lcmp, 1))
    (kk : W p l e R s m args below meth c H locs cells slots Q (F0 m (pc + 1) ls (sm_tr ad (.inl (sm_lcmp x y)) :: rest))) : W p l e R s m args below meth c H locs cells slots Q (F0 m pc ls (sm_tr ad (.inr (.inl y)) :: sm_tr ad (.inr (.inl x)) :: rest)) := by
  simp only [sm_tr] at kk ⊢
  intro T hT X
  obtain ⟨t, a, b⟩ := kk T hT X
  refine ⟨t, ?_, b⟩
  have hlt : (Int64.ofInt y < Int64.ofInt x) = (y < x) := by rw [Int64.lt_iff_toInt_lt, sm_tl nx, sm_tl ny]
  have heq : (Int64.ofInt x = Int64.ofInt y) = (x = y) := by rw [← Int64.toInt_inj, sm_tl nx, sm_tl ny]
  unfold sm_lcmp at a
  by_cases h1 : y < x
  · have g1 : Int64.ofInt y < Int64.ofInt x := by rw [hlt]; exact h1
    rw [if_pos h1] at a
    jvm_step X.here [X.here.top, hx, hb, hdg, g1]
    exact a
  · have g1 : ¬ Int64.ofInt y < Int64.ofInt x := by rw [hlt]; exact h1
    rw [if_neg h1] at a
    by_cases h2 : x = y
    · subst h2
      rw [if_pos rfl] at a
      jvm_step X.here [X.here.top, hx, hb, hdg]
      first | exact a | simpa using a
    · have g2 : ¬ Int64.ofInt x = Int64.ofInt y := by rw [heq]; exact h2
      rw [if_neg h2] at a
      jvm_step X.here [X.here.top, hx, hb, hdg, g1, g2]
      exact a
theorem sm_q12 (hx : p.tables.exec = Jvm.exec) (hb : c.code = cc) (hst : sm_stp (12, n, a, b, d, z) pc L st S = some r) (hck : sm_chk own (12, n, a, b, d, z) = true) (hdg : decode cc pc = .ok (sm_dec (12, n, a, b, d, z), n)) (G : sm_G p l e R s m args below meth c cells slots Q ad D K A H0 r) : sm_G p l e R s m args below meth c cells slots Q ad D K A H0 (pc, L, st, S) := by
  intro ls H locs hl hw h1 h2 h3
  simp only [sm_stp] at hst
  split at hst
  · rename_i y x r0
    cases hst
    simp only [sm_chk, decide_eq_true_eq] at hck
    subst hck
    refine sm_w_lcmp hx hb (sm_nst_hd (sm_nst_tl h1)) (sm_nst_hd h1) hdg (G ls H locs hl hw (sm_nst_cons ?_ (sm_nst_tl (sm_nst_tl h1))) h2 h3)
    show sm_ni (sm_lcmp x y)
    unfold sm_lcmp sm_ni
    split
    · omega
    · split <;> omega
  · cases hst
theorem sm_q14 (hx : p.tables.exec = Jvm.exec) (hb : c.code = cc) (hst : sm_stp (14, n, a, b, d, z) pc L st S = some r) (hck : sm_chk own (14, n, a, b, d, z) = true) (hdg : decode cc pc = .ok (sm_dec (14, n, a, b, d, z), n)) (G : sm_G p l e R s m args below meth c cells slots Q ad D K A H0 r) : sm_G p l e R s m args below meth c cells slots Q ad D K A H0 (pc, L, st, S) := by
  intro ls H locs hl hw h1 h2 h3
  simp only [sm_stp] at hst
  split at hst
  · cases hst
  · rename_i x r0 hn
    cases hst
    simp only [sm_chk, decide_eq_true_eq] at hck
    subst hck
    exact lv_dup hx hb hdg (sm_cat1 (fun q hq => hn q hq)) (G ls H locs hl hw (sm_nst_cons (sm_nst_hd h1) h1) h2 h3)
  · cases hst
theorem sm_q15 (hx : p.tables.exec = Jvm.exec) (hb : c.code = cc) (hst : sm_stp (15, n, a, b, d, z) pc L st S = some r) (hck : sm_chk own (15, n, a, b, d, z) = true) (hdg : decode cc pc = .ok (sm_dec (15, n, a, b, d, z), n)) (G : sm_G p l e R s m args below meth c cells slots Q ad D K A H0 r) : sm_G p l e R s m args below meth c cells slots Q ad D K A H0 (pc, L, st, S) := by
  intro ls H locs hl hw h1 h2 h3
  simp only [sm_stp] at hst
  split at hst
  · cases hst
  · rename_i x r0 hn
    cases hst
    simp only [sm_chk, decide_eq_true_eq] at hck
    subst hck
    exact lv_pop hx hb hdg (sm_cat1 (fun q hq => hn q hq)) (G ls H locs hl hw (sm_nst_tl h1) h2 h3)
  · cases hst
theorem sm_q16 (hx : p.tables.exec = Jvm.exec) (hb : c.code = cc) (hst : sm_stp (16, n, a, b, d, z) pc L st S = some r) (hck : sm_chk own (16, n, a, b, d, z) = true) (hdg : decode cc pc = .ok (sm_dec (16, n, a, b, d, z), n)) (G : sm_G p l e R s m args below meth c cells slots Q ad D K A H0 r) : sm_G p l e R s m args below meth c cells slots Q ad D K A H0 (pc, L, st, S) := by
  intro ls H locs hl hw h1 h2 h3
  simp only [sm_stp] at hst
  split at hst
  · rename_i y x r0
    cases hst
    simp only [sm_chk, decide_eq_true_eq] at hck
    subst hck
    exact lv_dup2_11 hx hb hdg (sm_cat1 (fun q hq => by cases hq)) (sm_cat1 (fun q hq => by cases hq)) (G ls H locs hl hw (sm_nst_cons (sm_nst_hd h1) (sm_nst_cons (sm_nst_hd (sm_nst_tl h1)) h1)) h2 h3)
  · cases hst
theorem sm_q17 (hx : p.tables.exec = Jvm.exec) (hb : c.code = cc) (hz : 0 ≤ (pc : Int) + z) (hst : sm_stp (17, n, a, b, d, z) pc L st S = some r) (hck : sm_chk own (17, n, a, b, d, z) = true) (hdg : decode cc pc = .ok (sm_dec (17, n, a, b, d, z), n)) (G : sm_G p l e R s m args below meth c cells slots Q ad D K A H0 r) : sm_G p l e R s m args below meth c cells slots Q ad D K A H0 (pc, L, st, S) := by
  intro ls H locs hl hw h1 h2 h3
  simp only [sm_stp] at hst
  split at hst
  · rename_i x r0
    cases hst
    simp only [sm_chk, decide_eq_true_eq] at hck
    subst hck
    exact sm_w_ifc hx hb (sm_nst_hd h1) hdg (sm_tgt hz) (G ls H locs hl hw (sm_nst_tl h1) h2 h3)
  · cases hst
theorem sm_q18 (hx : p.tables.exec = Jvm.exec) (hb : c.code = cc) (hz : 0 ≤ (pc : Int) + z) (hst : sm_stp (18, n, a, b, d, z) pc L st S = some r) (hck : sm_chk own (18, n, a, b, d, z) = true) (hdg : decode cc pc = .ok (sm_dec (18, n, a, b, d, z), n)) (G : sm_G p l e R s m args below meth c cells slots Q ad D K A H0 r) : sm_G p l e R s m args below meth c cells slots Q ad D K A H0 (pc, L, st, S) := by
  intro ls H locs hl hw h1 h2 h3
  simp only [sm_stp] at hst
  split at hst
  · rename_i y x r0
    cases hst
    simp only [sm_chk, decide_eq_true_eq] at hck
    subst hck
    exact sm_w_icmp hx hb (sm_nst_hd (sm_nst_tl h1)) (sm_nst_hd h1) hdg (sm_tgt hz) (G ls H locs hl hw (sm_nst_tl (sm_nst_tl h1)) h2 h3)
  · cases hst
theorem sm_q19 (hx : p.tables.exec = Jvm.exec) (hb : c.code = cc) (hz : 0 ≤ (pc : Int) + z) (hst : sm_stp (19, n, a, b, d, z) pc L st S = some r) (hck : sm_chk own (19, n, a, b, d, z) = true) (hdg : decode cc pc = .ok (sm_dec (19, n, a, b, d, z), n)) (G : sm_G p l e R s m args below meth c cells slots Q ad D K A H0 r) : sm_G p l e R s m args below meth c cells slots Q ad D K A H0 (pc, L, st, S) := by
  intro ls H locs hl hw h1 h2 h3
  simp only [sm_stp, Option.some.injEq] at hst
  subst hst
  simp only [sm_chk, decide_eq_true_eq] at hck
  subst hck
  exact lv_goto hx hb hdg (sm_tgt hz) (G ls H locs hl hw h1 h2 h3)
theorem sm_q21 (hx : p.tables.exec = Jvm.exec) (hb : c.code = cc) (hz : 0 ≤ (pc : Int) + z) (hst : sm_stp (21, n, a, b, d, z) pc L st S = some r) (hck : sm_chk own (21, n, a, b, d, z) = true) (hdg : decode cc pc = .ok (sm_dec (21, n, a, b, d, z), n)) (G : sm_G p l e R s m args below meth c cells slots Q ad D K A H0 r) : sm_G p l e R s m args below meth c cells slots Q ad D K A H0 (pc, L, st, S) := by
  intro ls H locs hl hw h1 h2 h3
  simp only [sm_stp] at hst
  split at hst
  · cases hst
    simp only [sm_chk, decide_eq_true_eq] at hck
    subst hck
    exact lv_ifnullN hx hb hdg (sm_tgt hz) (G ls H locs hl hw (sm_nst_tl h1) h2 h3)
  · cases hst
    simp only [sm_chk, decide_eq_true_eq] at hck
    subst hck
    exact lv_ifnull hx hb hdg (G ls H locs hl hw (sm_nst_tl h1) h2 h3)
  · cases hst
theorem sm_q22 (hx : p.tables.exec = Jvm.exec) (hb : c.code = cc) (hz : 0 ≤ (pc : Int) + z) (hst : sm_stp (22, n, a, b, d, z) pc L st S = some r) (hck : sm_chk own (22, n, a, b, d, z) = true) (hdg : decode cc pc = .ok (sm_dec (22, n, a, b, d, z), n)) (G : sm_G p l e R s m args below meth c cells slots Q ad D K A H0 r) : sm_G p l e R s m args below meth c cells slots Q ad D K A H0 (pc, L, st, S) := by
  intro ls H locs hl hw h1 h2 h3
  simp only [sm_stp] at hst
  split at hst
  · cases hst
    simp only [sm_chk, decide_eq_true_eq] at hck
    subst hck
    exact lv_ifnonnull hx hb hdg (sm_tgt hz) (G ls H locs hl hw (sm_nst_tl h1) h2 h3)
  · cases hst
    simp only [sm_chk, decide_eq_true_eq] at hck
    subst hck
    exact lv_ifnonnullN hx hb hdg (G ls H locs hl hw (sm_nst_tl h1) h2 h3)
  · cases hst
theorem sm_q38 (hx : p.tables.exec = Jvm.exec) (hb : c.code = cc) (hst : sm_stp (38, n, a, b, d, z) pc L st S = some r) (hck : sm_chk own (38, n, a, b, d, z) = true) (hdg : decode cc pc = .ok (sm_dec (38, n, a, b, d, z), n)) (G : sm_G p l e R s m args below meth c cells slots Q ad D K A H0 r) : sm_G p l e R s m args below meth c cells slots Q ad D K A H0 (pc, L, st, S) := by
  intro ls H locs hl hw h1 h2 h3
  simp only [sm_stp, Option.some.injEq] at hst
  subst hst
  simp only [sm_chk, decide_eq_true_eq] at hck
  subst hck
  exact lv_null hx hb hdg (G ls H locs hl hw (sm_nst_cons trivial h1) h2 h3)
theorem sm_q23 (hx : p.tables.exec = Jvm.exec) (hb : c.code = cc) (hts : ∀ w ∈ BG, w.before args s = true) (hown : s.vm.findClass (sh_R own) = some m.cls) (hK : va_K D CL (sm_tys K) s) (hst : sm_stp (23, n, a, b, d, z) pc L st S = some r) (hck : sm_chk own (23, n, a, b, d, z) = true) (hdg : decode cc pc = .ok (sm_dec (23, n, a, b, d, z), n)) (G : sm_G p l e R s m args below meth c cells slots Q ad D K A H0 r) : sm_G p l e R s m args below meth c cells slots Q ad D K A H0 (pc, L, st, S) := by
  intro ls H locs hl hw h1 h2 h3
  simp only [sm_stp] at hst
  split at hst
  · rename_i t i r0
    split at hst
    · rename_i ht
      cases hst
      subst ht
      simp only [sm_chk, Bool.and_eq_true, decide_eq_true_eq] at hck
      obtain ⟨rfl, hq⟩ := hck
      obtain ⟨q1, q2, q3⟩ := sh_any hq
      obtain ⟨o1, o2, o3, o4, o5⟩ := sh_oks q2
      have hi : i < sh_cn t := sh_cz_lt (by omega) (sm_nst_hd h1)
      exact sm_w_get hx hb hts hown hK hw o1 o2 o3 hi q3 q1 hdg (G ls H locs hl hw (sm_nst_cons (sm_fu_nz q2 q3 hi h3) (sm_nst_tl h1)) h2 h3)
    · cases hst
  · cases hst
theorem sm_q24 (hx : p.tables.exec = Jvm.exec) (hb : c.code = cc) (hts : ∀ w ∈ BG, w.before args s = true) (hown : s.vm.findClass (sh_R own) = some m.cls) (hK : va_K D CL (sm_tys K) s) (hst : sm_stp (24, n, a, b, d, z) pc L st S = some r) (hck : sm_chk own (24, n, a, b, d, z) = true) (hdg : decode cc pc = .ok (sm_dec (24, n, a, b, d, z), n)) (G : sm_G p l e R s m args below meth c cells slots Q ad D K A H0 r) : sm_G p l e R s m args below meth c cells slots Q ad D K A H0 (pc, L, st, S) := by
  intro ls H locs hl hw h1 h2 h3
  simp only [sm_stp] at hst
  split at hst
  · rename_i v t i r0
    split at hst
    · rename_i ht
      cases hst
      subst ht
      simp only [sm_chk, Bool.and_eq_true, decide_eq_true_eq] at hck
      obtain ⟨⟨⟨⟨rfl, hq⟩, y1⟩, y2⟩, y3⟩ := hck
      obtain ⟨q1, q2, q3⟩ := sh_any hq
      obtain ⟨o1, o2, o3, o4, o5⟩ := sh_oks q2
      have hi : i < sh_cn t := sh_cz_lt (by omega) (sm_nst_hd (sm_nst_tl h1))
      refine sm_w_put (S' := sm_pI S t i d v) hx hb hts hown hK hw o1 o2 o3 (sh_ty t) o4 o5 hi q3 q1 y3 (by rw [y1]; rfl) (by rw [y1]; rfl) (by rw [sm_fu_0 y2]; show (Sum.inl (sm_up S.1 t i d v t i d) : sm_V) = _; rw [sm_up_self]) (fun j hj => sm_fu_ne hj) (fun _ _ h => sm_cell_pI h) hdg (fun H1 locs1 g => ?_)
      exact G ls H1 locs1 hl g (sm_nst_tl (sm_nst_tl h1)) h2 (sm_nS_pI h3 (by rw [if_neg (by omega)]; exact sm_nst_hd h1))
    · cases hst
  · cases hst
theorem sm_q25 (hx : p.tables.exec = Jvm.exec) (hb : c.code = cc) (hts : ∀ w ∈ BG, w.before args s = true) (hown : s.vm.findClass (sh_R own) = some m.cls) (hK : va_K D CL (sm_tys K) s) (hst : sm_stp (25, n, a, b, d, z) pc L st S = some r) (hck : sm_chk own (25, n, a, b, d, z) = true) (hdg : decode cc pc = .ok (sm_dec (25, n, a, b, d, z), n)) (G : sm_G p l e R s m args below meth c cells slots Q ad D K A H0 r) : sm_G p l e R s m args below meth c cells slots Q ad D K A H0 (pc, L, st, S) := by
  intro ls H locs hl hw h1 h2 h3
  simp only [sm_stp] at hst
  split at hst
  · rename_i v t i r0
    split at hst
    · rename_i ht
      cases hst
      simp only [Bool.and_eq_true, Bool.or_eq_true, decide_eq_true_eq] at ht
      obtain ⟨ht, hv⟩ := ht
      subst ht
      simp only [sm_chk, Bool.and_eq_true, decide_eq_true_eq] at hck
      obtain ⟨⟨⟨⟨rfl, hq⟩, y1⟩, y2⟩, y3⟩ := hck
      obtain ⟨q1, q2, q3⟩ := sh_any hq
      obtain ⟨o1, o2, o3, o4, o5⟩ := sh_oks q2
      have hi : i < sh_cn t := sh_cz_lt (by omega) (sm_nst_hd (sm_nst_tl h1))
      refine sm_w_put (S' := sm_pI S t i d v) hx hb hts hown hK hw o1 o2 o3 (sh_ty t) o4 o5 hi q3 q1 y3 (by rw [y1]; (rcases hv with rfl | rfl <;> rfl)) (by rw [y1]; (rcases hv with rfl | rfl <;> rfl)) (by rw [sm_fu_0 y2]; show (Sum.inl (sm_up S.1 t i d v t i d) : sm_V) = _; rw [sm_up_self]) (fun j hj => sm_fu_ne hj) (fun _ _ h => sm_cell_pI h) hdg (fun H1 locs1 g => ?_)
      exact G ls H1 locs1 hl g (sm_nst_tl (sm_nst_tl h1)) h2 (sm_nS_pI h3 (by rw [if_neg (by omega)]; exact sm_nst_hd h1))
    · cases hst
  · cases hst
theorem sm_q27 (hx : p.tables.exec = Jvm.exec) (hb : c.code = cc) (hts : ∀ w ∈ BG, w.before args s = true) (hown : s.vm.findClass (sh_R own) = some m.cls) (hK : va_K D CL (sm_tys K) s) (hst : sm_stp (27, n, a, b, d, z) pc L st S = some r) (hck : sm_chk own (27, n, a, b, d, z) = true) (hdg : decode cc pc = .ok (sm_dec (27, n, a, b, d, z), n)) (G : sm_G p l e R s m args below meth c cells slots Q ad D K A H0 r) : sm_G p l e R s m args below meth c cells slots Q ad D K A H0 (pc, L, st, S) := by
  intro ls H locs hl hw h1 h2 h3
  simp only [sm_stp] at hst
  split at hst
  · rename_i v t i r0
    split at hst
    · rename_i ht
      cases hst
      subst ht
      simp only [sm_chk, Bool.and_eq_true, decide_eq_true_eq] at hck
      obtain ⟨⟨⟨⟨rfl, hq⟩, y1⟩, y2⟩, y3⟩ := hck
      obtain ⟨q1, q2, q3⟩ := sh_any hq
      obtain ⟨o1, o2, o3, o4, o5⟩ := sh_oks q2
      have hi : i < sh_cn t := sh_cz_lt (by omega) (sm_nst_hd (sm_nst_tl h1))
      refine sm_w_put (S' := sm_pI S t i d v) hx hb hts hown hK hw o1 o2 o3 (sh_ty t) o4 o5 hi q3 q1 y3 (by rw [y1]; rfl) (by rw [y1]; rfl) (by rw [sm_fu_3 y2]; show (Sum.inr (Sum.inl (sm_up S.1 t i d v t i d)) : sm_V) = _; rw [sm_up_self]) (fun j hj => sm_fu_ne hj) (fun _ _ h => sm_cell_pI h) hdg (fun H1 locs1 g => ?_)
      exact G ls H1 locs1 hl g (sm_nst_tl (sm_nst_tl h1)) h2 (sm_nS_pI h3 (by rw [if_pos y2]; exact sm_nst_hd h1))
    · cases hst
  · cases hst
theorem sm_q26 (hx : p.tables.exec = Jvm.exec) (hb : c.code = cc) (hts : ∀ w ∈ BG, w.before args s = true) (hown : s.vm.findClass (sh_R own) = some m.cls) (hK : va_K D CL (sm_tys K) s) (hst : sm_stp (26, n, a, b, d, z) pc L st S = some r) (hck : sm_chk own (26, n, a, b, d, z) = true) (hdg : decode cc pc = .ok (sm_dec (26, n, a, b, d, z), n)) (G : sm_G p l e R s m args below meth c cells slots Q ad D K A H0 r) : sm_G p l e R s m args below meth c cells slots Q ad D K A H0 (pc, L, st, S) := by
  intro ls H locs hl hw h1 h2 h3
  simp only [sm_stp] at hst
  split at hst
  · rename_i t i r0
    split at hst
    · rename_i ht
      cases hst
      subst ht
      simp only [sm_chk, Bool.and_eq_true, decide_eq_true_eq] at hck
      obtain ⟨⟨⟨⟨rfl, hq⟩, y1⟩, y2⟩, y3⟩ := hck
      obtain ⟨q1, q2, q3⟩ := sh_any hq
      obtain ⟨o1, o2, o3, o4, o5⟩ := sh_oks q2
      have hi : i < sh_cn t := sh_cz_lt (by omega) (sm_nst_hd (sm_nst_tl h1))
      refine sm_w_put (S' := sm_pR S t i d none) hx hb hts hown hK hw o1 o2 o3 (sh_ty t) o4 o5 hi q3 q1 y3 (by rw [y1]; rfl) (by rw [y1]; rfl) (by rw [sm_fu_2 y2]; show (Sum.inr (Sum.inr ((sm_up S.2.1 t i d none t i d).map _)) : sm_V) = _; rw [sm_up_self]; rfl) (fun j hj => sm_fu_neR hj) (fun _ _ h => sm_cell_pR h) hdg (fun H1 locs1 g => ?_)
      exact G ls H1 locs1 hl g (sm_nst_tl (sm_nst_tl h1)) h2 (sm_nS_pR h3 (fun j hj => by cases hj))
    · cases hst
  · rename_i u j t i r0
    split at hst
    · rename_i ht
      cases hst
      simp only [Bool.and_eq_true, decide_eq_true_eq] at ht
      obtain ⟨ht, hu⟩ := ht
      subst ht
      simp only [sm_chk, Bool.and_eq_true, decide_eq_true_eq] at hck
      obtain ⟨⟨⟨⟨rfl, hq⟩, y1⟩, y2⟩, y3⟩ := hck
      obtain ⟨q1, q2, q3⟩ := sh_any hq
      obtain ⟨o1, o2, o3, o4, o5⟩ := sh_oks q2
      have hi : i < sh_cn t := sh_cz_lt (by omega) (sm_nst_hd (sm_nst_tl h1))
      have hj : j < sh_cn u := sh_cz_lt (by rw [hu]; have q9 := sh_fkt q2 q3 y2; omega) (sm_nst_hd h1)
      refine sm_w_put (S' := sm_pR S t i d (some j)) hx hb hts hown hK hw o1 o2 o3 (sh_ty t) o4 o5 hi q3 q1 y3 (by rw [y1]; rfl) (by rw [y1]; rfl) (by rw [sm_fu_2 y2]; show (Sum.inr (Sum.inr ((sm_up S.2.1 t i d (some j) t i d).map _)) : sm_V) = _; rw [sm_up_self, hu]; rfl) (fun j hj => sm_fu_neR hj) (fun _ _ h => sm_cell_pR h) hdg (fun H1 locs1 g => ?_)
      exact G ls H1 locs1 hl g (sm_nst_tl (sm_nst_tl h1)) h2 (sm_nS_pR h3 (fun j' hj' => by cases hj'; rw [← hu]; exact hj))
    · cases hst
  · cases hst
theorem sm_q28 (hx : p.tables.exec = Jvm.exec) (hb : c.code = cc) (hK : va_K D CL (sm_tys K) s) (hst : sm_stp (28, n, a, b, d, z) pc L st S = some r) (hck : sm_chk own (28, n, a, b, d, z) = true) (hdg : decode cc pc = .ok (sm_dec (28, n, a, b, d, z), n)) (G : sm_G p l e R s m args below meth c cells slots Q ad D K A H0 r) : sm_G p l e R s m args below meth c cells slots Q ad D K A H0 (pc, L, st, S) := by
  intro ls H locs hl hw h1 h2 h3
  simp only [sm_stp] at hst
  split at hst
  · rename_i k t i r0
    split at hst
    · rename_i hc
      cases hst
      simp only [Bool.and_eq_true, decide_eq_true_eq] at hc
      obtain ⟨⟨⟨c1, c2⟩, c3⟩, c4⟩ := hc
      simp only [sm_chk, decide_eq_true_eq] at hck
      subst hck
      have hkd : sh_kd t = (1, 0, (sh_kd t).2.2) := by rw [← c1, ← c2]
      exact sm_w_iald hx hb hK hw hkd (sh_cz_kd (by omega) (sm_nst_hd (sm_nst_tl h1))) (sm_nst_hd h1) c3 c4 hdg (G ls H locs hl hw (sm_nst_cons (h3.2.2.1 _ _ _) (sm_nst_tl (sm_nst_tl h1))) h2 h3)
    · cases hst
  · cases hst
theorem sm_q29 (hx : p.tables.exec = Jvm.exec) (hb : c.code = cc) (hK : va_K D CL (sm_tys K) s) (hst : sm_stp (29, n, a, b, d, z) pc L st S = some r) (hck : sm_chk own (29, n, a, b, d, z) = true) (hdg : decode cc pc = .ok (sm_dec (29, n, a, b, d, z), n)) (G : sm_G p l e R s m args below meth c cells slots Q ad D K A H0 r) : sm_G p l e R s m args below meth c cells slots Q ad D K A H0 (pc, L, st, S) := by
  intro ls H locs hl hw h1 h2 h3
  simp only [sm_stp] at hst
  split at hst
  · rename_i k t i r0
    split at hst
    · rename_i hc
      cases hst
      simp only [Bool.and_eq_true, decide_eq_true_eq] at hc
      obtain ⟨⟨⟨c1, c2⟩, c3⟩, c4⟩ := hc
      simp only [sm_chk, decide_eq_true_eq] at hck
      subst hck
      have hkd : sh_kd t = (2, 1, (sh_kd t).2.2) := by rw [← c1, ← c2]
      exact sm_w_bald hx hb hK hw hkd (sh_cz_kd (by omega) (sm_nst_hd (sm_nst_tl h1))) (sm_nst_hd h1) c3 c4 hdg (G ls H locs hl hw (sm_nst_cons (h3.2.2.1 _ _ _) (sm_nst_tl (sm_nst_tl h1))) h2 h3)
    · cases hst
  · cases hst
theorem sm_q30 (hx : p.tables.exec = Jvm.exec) (hb : c.code = cc) (hK : va_K D CL (sm_tys K) s) (hst : sm_stp (30, n, a, b, d, z) pc L st S = some r) (hck : sm_chk own (30, n, a, b, d, z) = true) (hdg : decode cc pc = .ok (sm_dec (30, n, a, b, d, z), n)) (G : sm_G p l e R s m args below meth c cells slots Q ad D K A H0 r) : sm_G p l e R s m args below meth c cells slots Q ad D K A H0 (pc, L, st, S) := by
  intro ls H locs hl hw h1 h2 h3
  simp only [sm_stp] at hst
  split at hst
  · rename_i k t i r0
    split at hst
    · rename_i hc
      cases hst
      simp only [Bool.and_eq_true, decide_eq_true_eq] at hc
      obtain ⟨⟨⟨c1, c2⟩, c3⟩, c4⟩ := hc
      simp only [sm_chk, decide_eq_true_eq] at hck
      subst hck
      have hkd : sh_kd t = (3, 2, (sh_kd t).2.2) := by rw [← c1, ← c2]
      exact sm_w_zald hx hb hK hw hkd (sh_cz_kd (by omega) (sm_nst_hd (sm_nst_tl h1))) (sm_nst_hd h1) c3 c4 hdg (G ls H locs hl hw (sm_nst_cons (h3.2.2.1 _ _ _) (sm_nst_tl (sm_nst_tl h1))) h2 h3)
    · cases hst
  · cases hst
theorem sm_q31 (hx : p.tables.exec = Jvm.exec) (hb : c.code = cc) (hK : va_K D CL (sm_tys K) s) (hst : sm_stp (31, n, a, b, d, z) pc L st S = some r) (hck : sm_chk own (31, n, a, b, d, z) = true) (hdg : decode cc pc = .ok (sm_dec (31, n, a, b, d, z), n)) (G : sm_G p l e R s m args below meth c cells slots Q ad D K A H0 r) : sm_G p l e R s m args below meth c cells slots Q ad D K A H0 (pc, L, st, S) := by
  intro ls H locs hl hw h1 h2 h3
  simp only [sm_stp] at hst
  split at hst
  · rename_i k t i r0
    split at hst
    · rename_i hc
      cases hst
      simp only [Bool.and_eq_true, decide_eq_true_eq] at hc
      obtain ⟨⟨⟨c1, c2⟩, c3⟩, c4⟩ := hc
      simp only [sm_chk, decide_eq_true_eq] at hck
      subst hck
      have hkd : sh_kd t = (4, 3, (sh_kd t).2.2) := by rw [← c1, ← c2]
      exact sm_w_lald hx hb hK hw hkd (sh_cz_kd (by omega) (sm_nst_hd (sm_nst_tl h1))) (sm_nst_hd h1) c3 c4 hdg (G ls H locs hl hw (sm_nst_cons (h3.2.2.2 _ _ _) (sm_nst_tl (sm_nst_tl h1))) h2 h3)
    · cases hst
  · cases hst
theorem sm_q33 (hx : p.tables.exec = Jvm.exec) (hb : c.code = cc) (hK : va_K D CL (sm_tys K) s) (hst : sm_stp (33, n, a, b, d, z) pc L st S = some r) (hck : sm_chk own (33, n, a, b, d, z) = true) (hdg : decode cc pc = .ok (sm_dec (33, n, a, b, d, z), n)) (G : sm_G p l e R s m args below meth c cells slots Q ad D K A H0 r) : sm_G p l e R s m args below meth c cells slots Q ad D K A H0 (pc, L, st, S) := by
  intro ls H locs hl hw h1 h2 h3
  simp only [sm_stp] at hst
  split at hst
  · rename_i v k t i r0
    split at hst
    · rename_i hc
      cases hst
      simp only [Bool.and_eq_true, decide_eq_true_eq] at hc
      obtain ⟨⟨⟨c1, c2⟩, c3⟩, c4⟩ := hc
      simp only [sm_chk, decide_eq_true_eq] at hck
      subst hck
      have hkd : sh_kd t = (1, 0, (sh_kd t).2.2) := by rw [← c1, ← c2]
      refine sm_w_iast hx hb hK hw hkd (sh_cz_kd (by omega) (sm_nst_hd (sm_nst_tl (sm_nst_tl h1)))) (sm_nst_hd (sm_nst_tl h1)) c3 c4 hdg (fun H1 locs1 g => ?_)
      exact G ls H1 locs1 hl g (sm_nst_tl (sm_nst_tl (sm_nst_tl h1))) h2 (sm_nS_aI h3 (sm_nst_hd h1))
    · cases hst
  · cases hst
theorem sm_q34 (hx : p.tables.exec = Jvm.exec) (hb : c.code = cc) (hK : va_K D CL (sm_tys K) s) (hst : sm_stp (34, n, a, b, d, z) pc L st S = some r) (hck : sm_chk own (34, n, a, b, d, z) = true) (hdg : decode cc pc = .ok (sm_dec (34, n, a, b, d, z), n)) (G : sm_G p l e R s m args below meth c cells slots Q ad D K A H0 r) : sm_G p l e R s m args below meth c cells slots Q ad D K A H0 (pc, L, st, S) := by
  intro ls H locs hl hw h1 h2 h3
  simp only [sm_stp] at hst
  split at hst
  · rename_i v k t i r0
    split at hst
    · rename_i hc
      cases hst
      simp only [Bool.and_eq_true, decide_eq_true_eq] at hc
      obtain ⟨⟨⟨c1, c2⟩, c3⟩, c4⟩ := hc
      simp only [sm_chk, decide_eq_true_eq] at hck
      subst hck
      have hkd : sh_kd t = (2, 1, (sh_kd t).2.2) := by rw [← c1, ← c2]
      refine sm_w_bast hx hb hK hw hkd (sh_cz_kd (by omega) (sm_nst_hd (sm_nst_tl (sm_nst_tl h1)))) (sm_nst_hd (sm_nst_tl h1)) c3 c4 hdg (fun H1 locs1 g => ?_)
      exact G ls H1 locs1 hl g (sm_nst_tl (sm_nst_tl (sm_nst_tl h1))) h2 (sm_nS_aI h3 (sm_ni_toInt _))
    · cases hst
  · cases hst
theorem sm_q35 (hx : p.tables.exec = Jvm.exec) (hb : c.code = cc) (hK : va_K D CL (sm_tys K) s) (hst : sm_stp (35, n, a, b, d, z) pc L st S = some r) (hck : sm_chk own (35, n, a, b, d, z) = true) (hdg : decode cc pc = .ok (sm_dec (35, n, a, b, d, z), n)) (G : sm_G p l e R s m args below meth c cells slots Q ad D K A H0 r) : sm_G p l e R s m args below meth c cells slots Q ad D K A H0 (pc, L, st, S) := by
  intro ls H locs hl hw h1 h2 h3
  simp only [sm_stp] at hst
  split at hst
  · rename_i v k t i r0
    split at hst
    · rename_i hc
      cases hst
      simp only [Bool.and_eq_true, decide_eq_true_eq] at hc
      obtain ⟨⟨⟨c1, c2⟩, c3⟩, c4⟩ := hc
      simp only [sm_chk, decide_eq_true_eq] at hck
      subst hck
      have hkd : sh_kd t = (3, 2, (sh_kd t).2.2) := by rw [← c1, ← c2]
      refine sm_w_zast hx hb hK hw hkd (sh_cz_kd (by omega) (sm_nst_hd (sm_nst_tl (sm_nst_tl h1)))) (sm_nst_hd (sm_nst_tl h1)) c3 c4 hdg (fun H1 locs1 g => ?_)
      exact G ls H1 locs1 hl g (sm_nst_tl (sm_nst_tl (sm_nst_tl h1))) h2 (sm_nS_aI h3 (sm_ni_toInt _))
    · cases hst
  · cases hst
theorem sm_q36 (hx : p.tables.exec = Jvm.exec) (hb : c.code = cc) (hK : va_K D CL (sm_tys K) s) (hst : sm_stp (36, n, a, b, d, z) pc L st S = some r) (hck : sm_chk own (36, n, a, b, d, z) = true) (hdg : decode cc pc = .ok (sm_dec (36, n, a, b, d, z), n)) (G : sm_G p l e R s m args below meth c cells slots Q ad D K A H0 r) : sm_G p l e R s m args below meth c cells slots Q ad D K A H0 (pc, L, st, S) := by
  intro ls H locs hl hw h1 h2 h3
  simp only [sm_stp] at hst
  split at hst
  · rename_i v k t i r0
    split at hst
    · rename_i hc
      cases hst
      simp only [Bool.and_eq_true, decide_eq_true_eq] at hc
      obtain ⟨⟨⟨c1, c2⟩, c3⟩, c4⟩ := hc
      simp only [sm_chk, decide_eq_true_eq] at hck
      subst hck
      have hkd : sh_kd t = (4, 3, (sh_kd t).2.2) := by rw [← c1, ← c2]
      refine sm_w_last hx hb hK hw hkd (sh_cz_kd (by omega) (sm_nst_hd (sm_nst_tl (sm_nst_tl h1)))) (sm_nst_hd (sm_nst_tl h1)) c3 c4 hdg (fun H1 locs1 g => ?_)
      exact G ls H1 locs1 hl g (sm_nst_tl (sm_nst_tl (sm_nst_tl h1))) h2 (sm_nS_aL h3 (sm_nst_hd h1))
    · cases hst
  · cases hst
theorem sm_tr_r {ad : Nat → Nat → Nat} (x : Option (Nat × Nat)) : sm_tr ad (.inr (.inr x)) = va_rf (x.map fun q => ad q.1 q.2) := by cases x <;> rfl
/-- the addresses of two cells of the world are one only if the cells are -/
theorem sm_inj {K : Nat → ClassId} {t i t' i' : Nat} (hD : va_D A (sm_ws K ad S)) (h : i < sh_cn t) (h' : i' < sh_cn t') (he : ad t i = ad t' i') : t = t' ∧ i = i' := by
  have e := hD.1 _ _ _ _ (sm_ws_at (K := K) (ad := ad) (S := S) h) (sm_ws_at (K := K) (ad := ad) (S := S) h') he
  obtain ⟨_, a2, a3⟩ := sh_pos h
  obtain ⟨_, b2, b3⟩ := sh_pos h'
  rw [e] at a2 a3
  exact ⟨a2.symm.trans b2, a3.symm.trans b3⟩
theorem sm_q20 (hx : p.tables.exec = Jvm.exec) (hb : c.code = cc) (hz : 0 ≤ (pc : Int) + z) (hst : sm_stp (20, n, a, b, d, z) pc L st S = some r) (hck : sm_chk own (20, n, a, b, d, z) = true) (hdg : decode cc pc = .ok (sm_dec (20, n, a, b, d, z), n)) (G : sm_G p l e R s m args below meth c cells slots Q ad D K A H0 r) : sm_G p l e R s m args below meth c cells slots Q ad D K A H0 (pc, L, st, S) := by
  intro ls H locs hl hw h1 h2 h3
  simp only [sm_stp] at hst
  split at hst
  · rename_i y x r0
    split at hst
    rotate_left
    · cases hst
    rename_i hc14
    simp only [Bool.and_eq_true] at hc14
    cases hst
    simp only [sm_chk, decide_eq_true_eq] at hck
    subst hck
    have k := G ls H locs hl hw (sm_nst_tl (sm_nst_tl h1)) h2 h3
    have hiff : (x.map fun q => ad q.1 q.2) = (y.map fun q => ad q.1 q.2) ↔ x = y := by
      constructor
      · intro g
        rcases x with _ | x
        · rcases y with _ | y
          · rfl
          · cases g
        · rcases y with _ | y
          · cases g
          · have g2 := Option.some.inj g
            have x14 : x.1 < 14 := by simpa using hc14.1
            have y14 : y.1 < 14 := by simpa using hc14.2
            obtain ⟨e1, e2⟩ := sm_inj hw.2.1 (sh_cz_lt (by omega) (sm_nst_hd (sm_nst_tl h1))) (sh_cz_lt (by omega) (sm_nst_hd h1)) g2
            rw [show x = y from Prod.ext e1 e2]
      · intro g; rw [g]
    show W p l e R s m args below meth c H locs cells slots Q (F0 m pc ls (sm_tr ad (.inr (.inr y)) :: sm_tr ad (.inr (.inr x)) :: r0.map (sm_tr ad)))
    rw [sm_tr_r, sm_tr_r]
    refine lv_acmp_ne hx hb hdg (sm_tgt hz) (fun g => ?_) (fun g => ?_)
    · rw [hiff] at g
      dsimp only at k
      rw [if_neg g] at k
      exact k
    · rw [hiff] at g
      dsimp only at k
      rw [if_pos g] at k
      exact k
  · cases hst
set_option maxRecDepth 20000 in
theorem sh_rkc0 : (List.range sh_kdL.length).all (fun t => if (sh_kd t).1 = 5 then decide ((sh_kd t).2.2 ≤ sh_cn (sh_rk t)) && decide ((sh_kd t).2.1 = 4 ∨ (sh_kd t).2.1 = 5 ∨ (sh_kd t).2.1 = 6) else true) = true := by decide +kernel
theorem sh_rkc {t : Nat} (h : (sh_kd t).1 = 5) : (sh_kd t).2.2 ≤ sh_cn (sh_rk t) ∧ ((sh_kd t).2.1 = 4 ∨ (sh_kd t).2.1 = 5 ∨ (sh_kd t).2.1 = 6) := by
  have ht : t < sh_kdL.length := by
    by_cases q : t < sh_kdL.length
    · exact q
    · unfold sh_kd at h
      rw [List.getD_eq_getElem?_getD, List.getElem?_eq_none (by omega)] at h
      cases h
  have h1 := List.all_eq_true.mp sh_rkc0 t (List.mem_range.mpr ht)
  rw [if_pos h] at h1
  simpa using h1
set_option maxRecDepth 20000 in
theorem sh_tyc0 : (List.range sh_kdL.length).all (fun t => if 1 ≤ (sh_kd t).1 && (sh_kd t).1 ≤ 5 then decide ((sh_kd t).2.1 < 7) && decide ((sh_kd t).2.2 ≤ 2147483647) else true) = true := by decide +kernel
theorem sh_tyc {t : Nat} (h1 : 1 ≤ (sh_kd t).1) (h2 : (sh_kd t).1 ≤ 5) : (sh_kd t).2.1 < 7 ∧ (sh_kd t).2.2 ≤ 2147483647 := by
  have ht : t < sh_kdL.length := by
    by_cases q : t < sh_kdL.length
    · exact q
    · unfold sh_kd at h2
      rw [List.getD_eq_getElem?_getD, List.getElem?_eq_none (by omega)] at h2
      exact absurd h2 (by decide)
  have h3 := List.all_eq_true.mp sh_tyc0 t (List.mem_range.mpr ht)
  rw [if_pos (by simp [h1, h2])] at h3
  simpa using h3
theorem sm_tys_at {K : Nat → ClassId} {k : Nat} (h : k < 7) : ∃ ty, (sm_tys K)[k]? = some (K k, ty) := by
  rcases k with _ | _ | _ | _ | _ | _ | _ | k
  · exact ⟨_, rfl⟩
  · exact ⟨_, rfl⟩
  · exact ⟨_, rfl⟩
  · exact ⟨_, rfl⟩
  · exact ⟨_, rfl⟩
  · exact ⟨_, rfl⟩
  · exact ⟨_, rfl⟩
  · omega
theorem sm_q32 (hx : p.tables.exec = Jvm.exec) (hb : c.code = cc) (hK : va_K D CL (sm_tys K) s) (hst : sm_stp (32, n, a, b, d, z) pc L st S = some r) (hck : sm_chk own (32, n, a, b, d, z) = true) (hdg : decode cc pc = .ok (sm_dec (32, n, a, b, d, z), n)) (G : sm_G p l e R s m args below meth c cells slots Q ad D K A H0 r) : sm_G p l e R s m args below meth c cells slots Q ad D K A H0 (pc, L, st, S) := by
  intro ls H locs hl hw h1 h2 h3
  simp only [sm_stp] at hst
  split at hst
  · rename_i k t i r0
    split at hst
    · rename_i hc
      cases hst
      simp only [Bool.and_eq_true, decide_eq_true_eq] at hc
      obtain ⟨⟨c1, c3⟩, c4⟩ := hc
      simp only [sm_chk, decide_eq_true_eq] at hck
      subst hck
      obtain ⟨q1, q2⟩ := sh_rkc c1
      have hkd : sh_kd t = (5, (sh_kd t).2.1, (sh_kd t).2.2) := by rw [← c1]
      have hnz : k.toNat < sh_cn (sh_rk t) := by omega
      have hty : ∃ Cn, (sm_tys K)[(sh_kd t).2.1]? = some (K (sh_kd t).2.1, .object Cn) := by
        rcases q2 with q | q | q <;> rw [q] <;> exact ⟨_, rfl⟩
      obtain ⟨Cn, hty⟩ := hty
      exact sm_w_aald hx hb hK hw hkd hty (sh_cz_kd (by omega) (sm_nst_hd (sm_nst_tl h1))) (sm_nst_hd h1) c3 c4 hdg (G ls H locs hl hw (sm_nst_cons (sh_cz_of hnz) (sm_nst_tl (sm_nst_tl h1))) h2 h3)
    · cases hst
  · cases hst
theorem sm_q37 (hx : p.tables.exec = Jvm.exec) (hb : c.code = cc) (hK : va_K D CL (sm_tys K) s) (hst : sm_stp (37, n, a, b, d, z) pc L st S = some r) (hck : sm_chk own (37, n, a, b, d, z) = true) (hdg : decode cc pc = .ok (sm_dec (37, n, a, b, d, z), n)) (G : sm_G p l e R s m args below meth c cells slots Q ad D K A H0 r) : sm_G p l e R s m args below meth c cells slots Q ad D K A H0 (pc, L, st, S) := by
  intro ls H locs hl hw h1 h2 h3
  simp only [sm_stp] at hst
  split at hst
  · rename_i t i r0
    split at hst
    · rename_i hc
      cases hst
      simp only [Bool.and_eq_true, decide_eq_true_eq] at hc
      obtain ⟨c1, c2⟩ := hc
      simp only [sm_chk, decide_eq_true_eq] at hck
      subst hck
      obtain ⟨q1, q2⟩ := sh_tyc c1 c2
      obtain ⟨ty, hty⟩ := sm_tys_at (K := K) q1
      have hkd : sh_kd t = ((sh_kd t).1 - 1 + 1, (sh_kd t).2.1, (sh_kd t).2.2) := by rw [Nat.sub_add_cancel c1]
      have hnz : sm_ni ((sh_kd t).2.2 : Int) := by unfold sm_ni; omega
      have h9 : (sh_kd t).1 ≠ 9 := by omega
      exact sm_w_alen hx hb hK hw hkd hty (sh_cz_kd h9 (sm_nst_hd h1)) hdg (G ls H locs hl hw (sm_nst_cons hnz (sm_nst_tl h1)) h2 h3)
    · cases hst
  · cases hst
end STX
