/-! the abstract step is sound: the heap -/
section AU
variable {L0 L : sm_L} {S : sm_S} {st : List ai_V} {vs : List sm_V} {aL : ai_L} {F : ai_F} {E : ai_E} {pc n a b d : Nat} {z : Int} {cs : List ai_C}
theorem ai_nar_z (x : Int32) : 0 ≤ (vp_nar .boolean x).toInt ∧ (vp_nar .boolean x).toInt ≤ 1 := by
  have e : vp_nar .boolean x = x &&& 1 := rfl
  have h := bt_and (x := x.toInt) (y := 1) (by omega) (by omega)
  rw [Int32.ofInt_toInt] at h
  rw [e]
  exact h
theorem ai_nar_b (x : Int32) : -128 ≤ (vp_nar .byte x).toInt ∧ (vp_nar .byte x).toInt ≤ 127 := by
  have e : vp_nar .byte x = x.toInt8.toInt32 := rfl
  rw [e, Int8.toInt_toInt32]
  have h1 := x.toInt8.toInt_lt
  have h2 := x.toInt8.le_toInt
  omega
theorem ai_q20 (h : ai_stp E (20, n, a, b, d, z) pc aL st F = some cs) (hL : ai_gL L0 L S aL) (hS : ai_gS L0 L S st vs) (hF : ai_gF L0 S F) (hG : ai_GI E.1 E.2.1 S) : ai_R E L0 (20, n, a, b, d, z) pc L vs S cs := by
  simp only [ai_stp] at h
  split at h
  · rename_i t j0 n0 t' j1 n1 r
    split at h
    · rename_i hc
      simp only [Bool.and_eq_true, decide_eq_true_eq] at hc
      cases h
      obtain ⟨y, w, rfl, h1, h2⟩ := ai_inv_r hS
      obtain ⟨x, w, rfl, h3, h4⟩ := ai_inv_r h2
      have e1 : (x.all fun q => decide (q.1 < 14)) = true := by
        rcases h3 with ⟨rfl, -⟩ | ⟨i, rfl, -⟩
        · rfl
        · exact decide_eq_true hc.2
      have e2 : (y.all fun q => decide (q.1 < 14)) = true := by
        rcases h1 with ⟨rfl, -⟩ | ⟨i, rfl, -⟩
        · rfl
        · exact decide_eq_true hc.1
      have hst : sm_stp (20, n, a, b, d, z) pc L (.inr (.inr y) :: .inr (.inr x) :: w) S = some (if x = y then pc + 3 else ((pc : Int) + z).toNat, L, w, S) := by
        simp only [sm_stp]
        rw [if_pos (by rw [e1, e2]; rfl)]
      by_cases q : x = y
      · refine ⟨_, (pc + 3, aL, r, F), hst, List.mem_cons_self, ?_, hG, ai_fr_rf⟩
        rw [if_pos q]
        exact ⟨rfl, hL, h4, hF⟩
      · refine ⟨_, (((pc : Int) + z).toNat, aL, r, F), hst, List.mem_cons_of_mem _ List.mem_cons_self, ?_, hG, ai_fr_rf⟩
        rw [if_neg q]
        exact ⟨rfl, hL, h4, hF⟩
    · cases h
  · cases h
theorem ai_q21 (h : ai_stp E (21, n, a, b, d, z) pc aL st F = some cs) (hL : ai_gL L0 L S aL) (hS : ai_gS L0 L S st vs) (hF : ai_gF L0 S F) (hG : ai_GI E.1 E.2.1 S) : ai_R E L0 (21, n, a, b, d, z) pc L vs S cs := by
  simp only [ai_stp] at h
  split at h
  · rename_i q r
    cases h
    obtain ⟨y, w, rfl, h1, h2⟩ := ai_inv_r hS
    cases y with
    | none => exact ⟨_, (((pc : Int) + z).toNat, aL, r, F), rfl, List.mem_cons_of_mem _ List.mem_cons_self, ⟨rfl, hL, h2, hF⟩, hG, ai_fr_rf⟩
    | some y => exact ⟨_, (pc + 3, aL, r, F), rfl, List.mem_cons_self, ⟨rfl, hL, h2, hF⟩, hG, ai_fr_rf⟩
  · cases h
theorem ai_q22 (h : ai_stp E (22, n, a, b, d, z) pc aL st F = some cs) (hL : ai_gL L0 L S aL) (hS : ai_gS L0 L S st vs) (hF : ai_gF L0 S F) (hG : ai_GI E.1 E.2.1 S) : ai_R E L0 (22, n, a, b, d, z) pc L vs S cs := by
  simp only [ai_stp] at h
  split at h
  · rename_i q r
    cases h
    obtain ⟨y, w, rfl, h1, h2⟩ := ai_inv_r hS
    cases y with
    | none => exact ⟨_, (pc + 3, aL, r, F), rfl, List.mem_cons_self, ⟨rfl, hL, h2, hF⟩, hG, ai_fr_rf⟩
    | some y => exact ⟨_, (((pc : Int) + z).toNat, aL, r, F), rfl, List.mem_cons_of_mem _ List.mem_cons_self, ⟨rfl, hL, h2, hF⟩, hG, ai_fr_rf⟩
  · cases h
theorem ai_q23 (h : ai_stp E (23, n, a, b, d, z) pc aL st F = some cs) (hL : ai_gL L0 L S aL) (hS : ai_gS L0 L S st vs) (hF : ai_gF L0 S F) (hG : ai_GI E.1 E.2.1 S) : ai_R E L0 (23, n, a, b, d, z) pc L vs S cs := by
  simp only [ai_stp] at h
  split at h
  · rename_i t j r
    split at h
    · rename_i ht
      subst ht
      obtain ⟨i, w, rfl, h1, h2⟩ := ai_inv_n hS
      have hst : sm_stp (23, n, a, t, d, z) pc L (.inr (.inr (some (t, i))) :: w) S = some (pc + 3, L, sm_fu S t i d :: w, S) := by
        simp only [sm_stp]
        exact if_pos trivial
      split at h
      · rename_i hk
        cases h
        refine ai_one hst ⟨rfl, hL, ⟨?_, h2⟩, hF⟩ rfl hG
        show ai_gV L0 L S _ (sm_fu S t i d)
        rw [sm_fu_0 (by rw [hk])]
        have hb := ai_fact_g (g := E.1 t d) hF h1 (hG.1 t i d)
        refine ⟨hb, fun j' u v q => (by cases q), fun j' q => ?_, fun j' k q => ?_⟩
        · cases j with
          | none => cases q
          | some j => cases q
        · cases j with
          | none => cases q
          | some j =>
            cases q
            exact ⟨t, i, h1 _ rfl, rfl⟩
      · rename_i hk
        cases h
        refine ai_one hst ⟨rfl, hL, ⟨?_, h2⟩, hF⟩ rfl hG
        show ai_gV L0 L S _ (sm_fu S t i d)
        rw [sm_fu_3 (by rw [hk])]
        trivial
      · rename_i u v hk
        cases h
        refine ai_one hst ⟨rfl, hL, ⟨?_, h2⟩, hF⟩ rfl hG
        show ai_gV L0 L S _ (sm_fu S t i d)
        have e : sm_fu S t i d = .inr (.inr (some (u, v + i))) := by unfold sm_fu; rw [hk]; rfl
        rw [e]
        exact Or.inr ⟨v + i, rfl, fun j' q => by cases q⟩
      · rename_i u v hk
        cases h
        refine ai_one hst ⟨rfl, hL, ⟨?_, h2⟩, hF⟩ rfl hG
        show ai_gV L0 L S _ (sm_fu S t i d)
        rw [sm_fu_2 (by rw [hk]), hk]
        cases hj : S.2.1 t i d with
        | none => exact Or.inl ⟨rfl, rfl⟩
        | some q => exact Or.inr ⟨q, rfl, fun j' q => by cases q⟩
      · cases h
    · cases h
  · cases h
theorem ai_q24 (h : ai_stp E (24, n, a, b, d, z) pc aL st F = some cs) (hL : ai_gL L0 L S aL) (hS : ai_gS L0 L S st vs) (hF : ai_gF L0 S F) (hG : ai_GI E.1 E.2.1 S) : ai_R E L0 (24, n, a, b, d, z) pc L vs S cs := by
  simp only [ai_stp] at h
  split at h
  · rename_i v t j r
    split at h
    · rename_i hc
      simp only [Bool.and_eq_true, decide_eq_true_eq] at hc
      obtain ⟨⟨rfl, c2⟩, c3⟩ := hc
      cases h
      obtain ⟨y, w, rfl, h1, h2⟩ := ai_inv_i hS
      obtain ⟨i, w, rfl, h3, h4⟩ := ai_inv_n h2
      have hst : sm_stp (24, n, a, t, d, z) pc L (.inl y :: .inr (.inr (some (t, i))) :: w) S = some (pc + 3, L, w, sm_pI S t i d y) := by
        simp only [sm_stp]
        exact if_pos trivial
      exact ⟨_, _, hst, List.mem_singleton.mpr rfl, ⟨rfl, ai_noL_g hL, ai_noS_g h4, ai_drop_g hF⟩, ai_GI_pI hG (ai_sub_g c2 h1), ai_fr_pI c3⟩
    · cases h
  · cases h
theorem ai_q25 (h : ai_stp E (25, n, a, b, d, z) pc aL st F = some cs) (hL : ai_gL L0 L S aL) (hS : ai_gS L0 L S st vs) (hF : ai_gF L0 S F) (hG : ai_GI E.1 E.2.1 S) : ai_R E L0 (25, n, a, b, d, z) pc L vs S cs := by
  simp only [ai_stp] at h
  split at h
  · rename_i v t j r
    split at h
    · rename_i hc
      simp only [Bool.and_eq_true, decide_eq_true_eq] at hc
      obtain ⟨⟨⟨rfl, c2⟩, c4⟩, c3⟩ := hc
      cases h
      obtain ⟨y, w, rfl, h1, h2⟩ := ai_inv_i hS
      obtain ⟨i, w, rfl, h3, h4⟩ := ai_inv_n h2
      have hb := ai_sub_g c4 h1
      have hst : sm_stp (25, n, a, t, d, z) pc L (.inl y :: .inr (.inr (some (t, i))) :: w) S = some (pc + 3, L, w, sm_pI S t i d y) := by
        simp only [sm_stp]
        have hy : y = 0 ∨ y = 1 := by
          have q1 : (0 : Int) ≤ y := hb.1
          have q2 : y ≤ 1 := hb.2
          omega
        rw [if_pos (by rcases hy with rfl | rfl <;> simp)]
      exact ⟨_, _, hst, List.mem_singleton.mpr rfl, ⟨rfl, ai_noL_g hL, ai_noS_g h4, ai_drop_g hF⟩, ai_GI_pI hG (ai_sub_g c2 h1), ai_fr_pI c3⟩
    · cases h
  · cases h
theorem ai_q26 (h : ai_stp E (26, n, a, b, d, z) pc aL st F = some cs) (hL : ai_gL L0 L S aL) (hS : ai_gS L0 L S st vs) (hF : ai_gF L0 S F) (hG : ai_GI E.1 E.2.1 S) : ai_R E L0 (26, n, a, b, d, z) pc L vs S cs := by
  simp only [ai_stp] at h
  split at h
  · rename_i u j0 t j r
    split at h
    · rename_i hc
      simp only [Bool.and_eq_true, decide_eq_true_eq] at hc
      obtain ⟨⟨rfl, c2⟩, c3⟩ := hc
      cases h
      obtain ⟨q, w, rfl, h1, h2⟩ := ai_inv_n hS
      obtain ⟨i, w, rfl, h3, h4⟩ := ai_inv_n h2
      have hst : sm_stp (26, n, a, t, d, z) pc L (.inr (.inr (some (u, q))) :: .inr (.inr (some (t, i))) :: w) S = some (pc + 3, L, w, sm_pR S t i d (some q)) := by
        simp only [sm_stp]
        rw [if_pos (by simp [c2])]
      refine ⟨_, _, hst, List.mem_singleton.mpr rfl, ⟨rfl, ai_noL_g hL, ai_noS_g h4, hF⟩, hG, fun _ _ _ _ => rfl, fun t' i' k' e => ?_, fun _ _ _ _ => ⟨rfl, rfl⟩⟩
      exact sm_up_ne (fun g => by obtain ⟨rfl, rfl, rfl⟩ := g; rw [c3] at e; cases e)
    · cases h
  · cases h
theorem ai_q28 (h : ai_stp E (28, n, a, b, d, z) pc aL st F = some cs) (hL : ai_gL L0 L S aL) (hS : ai_gS L0 L S st vs) (hF : ai_gF L0 S F) (hG : ai_GI E.1 E.2.1 S) : ai_R E L0 (28, n, a, b, d, z) pc L vs S cs := by
  simp only [ai_stp] at h
  split at h
  · rename_i k t j r
    split at h
    · rename_i hc
      simp only [Bool.and_eq_true, decide_eq_true_eq] at hc
      obtain ⟨⟨c1, c2⟩, c3⟩ := hc
      cases h
      obtain ⟨y, w, rfl, h1, h2⟩ := ai_inv_i hS
      obtain ⟨i, w, rfl, h3, h4⟩ := ai_inv_n h2
      have hb : (0 : Int) ≤ y ∧ y ≤ ((sh_kd t).2.2 : Int) - 1 := ai_sub_g c3 h1
      refine ai_one (c1 := (pc + 1, L, .inl (S.2.2.1 t i y.toNat) :: w, S)) (by simp only [sm_stp]; rw [if_pos (by simp [c1, c2]; omega)]) ⟨rfl, hL, ⟨ai_ivl (hG.2 t i _).1 (hG.2 t i _).2, h4⟩, hF⟩ rfl hG
    · cases h
  · cases h
theorem ai_q29 (h : ai_stp E (29, n, a, b, d, z) pc aL st F = some cs) (hL : ai_gL L0 L S aL) (hS : ai_gS L0 L S st vs) (hF : ai_gF L0 S F) (hG : ai_GI E.1 E.2.1 S) : ai_R E L0 (29, n, a, b, d, z) pc L vs S cs := by
  simp only [ai_stp] at h
  split at h
  · rename_i k t j r
    split at h
    · rename_i hc
      simp only [Bool.and_eq_true, decide_eq_true_eq] at hc
      obtain ⟨⟨c1, c2⟩, c3⟩ := hc
      cases h
      obtain ⟨y, w, rfl, h1, h2⟩ := ai_inv_i hS
      obtain ⟨i, w, rfl, h3, h4⟩ := ai_inv_n h2
      have hb : (0 : Int) ≤ y ∧ y ≤ ((sh_kd t).2.2 : Int) - 1 := ai_sub_g c3 h1
      refine ai_one (c1 := (pc + 1, L, .inl (S.2.2.1 t i y.toNat) :: w, S)) (by simp only [sm_stp]; rw [if_pos (by simp [c1, c2]; omega)]) ⟨rfl, hL, ⟨ai_ivl (hG.2 t i _).1 (hG.2 t i _).2, h4⟩, hF⟩ rfl hG
    · cases h
  · cases h
theorem ai_q30 (h : ai_stp E (30, n, a, b, d, z) pc aL st F = some cs) (hL : ai_gL L0 L S aL) (hS : ai_gS L0 L S st vs) (hF : ai_gF L0 S F) (hG : ai_GI E.1 E.2.1 S) : ai_R E L0 (30, n, a, b, d, z) pc L vs S cs := by
  simp only [ai_stp] at h
  split at h
  · rename_i k t j r
    split at h
    · rename_i hc
      simp only [Bool.and_eq_true, decide_eq_true_eq] at hc
      obtain ⟨⟨c1, c2⟩, c3⟩ := hc
      cases h
      obtain ⟨y, w, rfl, h1, h2⟩ := ai_inv_i hS
      obtain ⟨i, w, rfl, h3, h4⟩ := ai_inv_n h2
      have hb : (0 : Int) ≤ y ∧ y ≤ ((sh_kd t).2.2 : Int) - 1 := ai_sub_g c3 h1
      refine ai_one (c1 := (pc + 1, L, .inl (S.2.2.1 t i y.toNat) :: w, S)) (by simp only [sm_stp]; rw [if_pos (by simp [c1, c2]; omega)]) ⟨rfl, hL, ⟨ai_ivl (hG.2 t i _).1 (hG.2 t i _).2, h4⟩, hF⟩ rfl hG
    · cases h
  · cases h
theorem ai_q31 (h : ai_stp E (31, n, a, b, d, z) pc aL st F = some cs) (hL : ai_gL L0 L S aL) (hS : ai_gS L0 L S st vs) (hF : ai_gF L0 S F) (hG : ai_GI E.1 E.2.1 S) : ai_R E L0 (31, n, a, b, d, z) pc L vs S cs := by
  simp only [ai_stp] at h
  split at h
  · rename_i k t j r
    split at h
    · rename_i hc
      simp only [Bool.and_eq_true, decide_eq_true_eq] at hc
      obtain ⟨⟨c1, c2⟩, c3⟩ := hc
      cases h
      obtain ⟨y, w, rfl, h1, h2⟩ := ai_inv_i hS
      obtain ⟨i, w, rfl, h3, h4⟩ := ai_inv_n h2
      have hb : (0 : Int) ≤ y ∧ y ≤ ((sh_kd t).2.2 : Int) - 1 := ai_sub_g c3 h1
      refine ai_one (c1 := (pc + 1, L, .inr (.inl (S.2.2.2 t i y.toNat)) :: w, S)) (by simp only [sm_stp]; rw [if_pos (by simp [c1, c2]; omega)]) ⟨rfl, hL, ⟨trivial, h4⟩, hF⟩ rfl hG
    · cases h
  · cases h
theorem ai_q32 (h : ai_stp E (32, n, a, b, d, z) pc aL st F = some cs) (hL : ai_gL L0 L S aL) (hS : ai_gS L0 L S st vs) (hF : ai_gF L0 S F) (hG : ai_GI E.1 E.2.1 S) : ai_R E L0 (32, n, a, b, d, z) pc L vs S cs := by
  simp only [ai_stp] at h
  split at h
  · rename_i k t j r
    split at h
    · rename_i hc
      simp only [Bool.and_eq_true, decide_eq_true_eq] at hc
      obtain ⟨c1, c3⟩ := hc
      cases h
      obtain ⟨y, w, rfl, h1, h2⟩ := ai_inv_i hS
      obtain ⟨i, w, rfl, h3, h4⟩ := ai_inv_n h2
      have hb : (0 : Int) ≤ y ∧ y ≤ ((sh_kd t).2.2 : Int) - 1 := ai_sub_g c3 h1
      exact ai_one (c1 := (pc + 1, L, .inr (.inr (some (sh_rk t, y.toNat))) :: w, S)) (by simp only [sm_stp]; rw [if_pos (by simp [c1]; omega)]) ⟨rfl, hL, ⟨Or.inr ⟨_, rfl, fun j' q => by cases q⟩, h4⟩, hF⟩ rfl hG
    · cases h
  · cases h
theorem ai_q33 (h : ai_stp E (33, n, a, b, d, z) pc aL st F = some cs) (hL : ai_gL L0 L S aL) (hS : ai_gS L0 L S st vs) (hF : ai_gF L0 S F) (hG : ai_GI E.1 E.2.1 S) : ai_R E L0 (33, n, a, b, d, z) pc L vs S cs := by
  simp only [ai_stp] at h
  split at h
  · rename_i v k t j r
    split at h
    · rename_i hc
      simp only [Bool.and_eq_true, decide_eq_true_eq] at hc
      obtain ⟨⟨⟨⟨c1, c2⟩, c3⟩, c4⟩, c9⟩ := hc
      cases h
      obtain ⟨x, w, rfl, h0, h1'⟩ := ai_inv_i hS
      obtain ⟨y, w, rfl, h1, h2⟩ := ai_inv_i h1'
      obtain ⟨i, w, rfl, h3, h4⟩ := ai_inv_n h2
      have hb : (0 : Int) ≤ y ∧ y ≤ ((sh_kd t).2.2 : Int) - 1 := ai_sub_g c3 h1
      refine ⟨(pc + 1, L, w, sm_aI S t i y.toNat x), _, by simp only [sm_stp]; rw [if_pos (by simp [c1, c2]; omega)], List.mem_singleton.mpr rfl, ⟨rfl, ai_noL_g hL, ai_noS_g h4, hF⟩, ai_GI_aI hG (ai_sub_g c4 h0), ai_fr_aI c9⟩
    · cases h
  · cases h
theorem ai_q34 (h : ai_stp E (34, n, a, b, d, z) pc aL st F = some cs) (hL : ai_gL L0 L S aL) (hS : ai_gS L0 L S st vs) (hF : ai_gF L0 S F) (hG : ai_GI E.1 E.2.1 S) : ai_R E L0 (34, n, a, b, d, z) pc L vs S cs := by
  simp only [ai_stp] at h
  split at h
  · rename_i v k t j r
    split at h
    · rename_i hc
      simp only [Bool.and_eq_true, decide_eq_true_eq] at hc
      obtain ⟨⟨⟨⟨⟨c1, c2⟩, c3⟩, c4⟩, c5⟩, c9⟩ := hc
      cases h
      obtain ⟨x, w, rfl, h0, h1'⟩ := ai_inv_i hS
      obtain ⟨y, w, rfl, h1, h2⟩ := ai_inv_i h1'
      obtain ⟨i, w, rfl, h3, h4⟩ := ai_inv_n h2
      have hb : (0 : Int) ≤ y ∧ y ≤ ((sh_kd t).2.2 : Int) - 1 := ai_sub_g c3 h1
      refine ⟨(pc + 1, L, w, sm_aI S t i y.toNat (vp_nar .byte (Int32.ofInt x)).toInt), _, by simp only [sm_stp]; rw [if_pos (by simp [c1, c2]; omega)], List.mem_singleton.mpr rfl, ⟨rfl, ai_noL_g hL, ai_noS_g h4, hF⟩, ai_GI_aI hG (by have q := ai_nar_b (Int32.ofInt x); omega), ai_fr_aI c9⟩
    · cases h
  · cases h
theorem ai_q35 (h : ai_stp E (35, n, a, b, d, z) pc aL st F = some cs) (hL : ai_gL L0 L S aL) (hS : ai_gS L0 L S st vs) (hF : ai_gF L0 S F) (hG : ai_GI E.1 E.2.1 S) : ai_R E L0 (35, n, a, b, d, z) pc L vs S cs := by
  simp only [ai_stp] at h
  split at h
  · rename_i v k t j r
    split at h
    · rename_i hc
      simp only [Bool.and_eq_true, decide_eq_true_eq] at hc
      obtain ⟨⟨⟨⟨⟨c1, c2⟩, c3⟩, c4⟩, c5⟩, c9⟩ := hc
      cases h
      obtain ⟨x, w, rfl, h0, h1'⟩ := ai_inv_i hS
      obtain ⟨y, w, rfl, h1, h2⟩ := ai_inv_i h1'
      obtain ⟨i, w, rfl, h3, h4⟩ := ai_inv_n h2
      have hb : (0 : Int) ≤ y ∧ y ≤ ((sh_kd t).2.2 : Int) - 1 := ai_sub_g c3 h1
      refine ⟨(pc + 1, L, w, sm_aI S t i y.toNat (vp_nar .boolean (Int32.ofInt x)).toInt), _, by simp only [sm_stp]; rw [if_pos (by simp [c1, c2]; omega)], List.mem_singleton.mpr rfl, ⟨rfl, ai_noL_g hL, ai_noS_g h4, hF⟩, ai_GI_aI hG (by have q := ai_nar_z (Int32.ofInt x); omega), ai_fr_aI c9⟩
    · cases h
  · cases h
theorem ai_q36 (h : ai_stp E (36, n, a, b, d, z) pc aL st F = some cs) (hL : ai_gL L0 L S aL) (hS : ai_gS L0 L S st vs) (hF : ai_gF L0 S F) (hG : ai_GI E.1 E.2.1 S) : ai_R E L0 (36, n, a, b, d, z) pc L vs S cs := by
  simp only [ai_stp] at h
  split at h
  · rename_i v k t j r
    split at h
    · rename_i hc
      simp only [Bool.and_eq_true, decide_eq_true_eq] at hc
      obtain ⟨⟨⟨c1, c2⟩, c3⟩, c9⟩ := hc
      cases h
      obtain ⟨x, w, rfl, h1'⟩ := ai_inv_l hS
      obtain ⟨y, w, rfl, h1, h2⟩ := ai_inv_i h1'
      obtain ⟨i, w, rfl, h3, h4⟩ := ai_inv_n h2
      have hb : (0 : Int) ≤ y ∧ y ≤ ((sh_kd t).2.2 : Int) - 1 := ai_sub_g c3 h1
      exact ⟨(pc + 1, L, w, sm_aL S t i y.toNat x), _, by simp only [sm_stp]; rw [if_pos (by simp [c1, c2]; omega)], List.mem_singleton.mpr rfl, ⟨rfl, ai_noL_g hL, ai_noS_g h4, hF⟩, hG, ai_fr_aL c9⟩
    · cases h
  · cases h
theorem ai_q37 (h : ai_stp E (37, n, a, b, d, z) pc aL st F = some cs) (hL : ai_gL L0 L S aL) (hS : ai_gS L0 L S st vs) (hF : ai_gF L0 S F) (hG : ai_GI E.1 E.2.1 S) : ai_R E L0 (37, n, a, b, d, z) pc L vs S cs := by
  simp only [ai_stp] at h
  split at h
  · rename_i t j r
    split at h
    · rename_i hc
      cases h
      obtain ⟨i, w, rfl, h3, h4⟩ := ai_inv_n hS
      exact ai_one (c1 := (pc + 1, L, .inl ((sh_kd t).2.2 : Int) :: w, S)) (by simp only [sm_stp]; rw [if_pos hc]) ⟨rfl, hL, ⟨ai_cst, h4⟩, hF⟩ rfl hG
    · cases h
  · cases h
end AU
theorem ai_stp_g {L0 L : sm_L} {S : sm_S} {st : List ai_V} {vs : List sm_V} {aL : ai_L} {F : ai_F} {E : ai_E} {pc : Nat} {x : sm_I} {cs : List ai_C} (h : ai_stp E x pc aL st F = some cs) (hL : ai_gL L0 L S aL) (hS : ai_gS L0 L S st vs) (hF : ai_gF L0 S F) (hG : ai_GI E.1 E.2.1 S) : x.1 < 40 ∧ ai_R E L0 x pc L vs S cs := by
  obtain ⟨op, n, a, b, d, z⟩ := x
  rcases op with _ | _ | _ | _ | _ | _ | _ | _ | _ | _ | _ | _ | _ | _ | _ | _ | _ | _ | _ | _ | _ | _ | _ | _ | _ | _ | _ | _ | _ | _ | _ | _ | _ | _ | _ | _ | _ | _ | _ | op
  · exact ⟨Nat.le_of_ble_eq_true rfl, ai_q0 h hL hS hF hG⟩
  · exact ⟨Nat.le_of_ble_eq_true rfl, ai_q1 h hL hS hF hG⟩
  · exact ⟨Nat.le_of_ble_eq_true rfl, ai_q2 h hL hS hF hG⟩
  · exact ⟨Nat.le_of_ble_eq_true rfl, ai_q3 h hL hS hF hG⟩
  · exact ⟨Nat.le_of_ble_eq_true rfl, ai_q4 h hL hS hF hG⟩
  · exact ⟨Nat.le_of_ble_eq_true rfl, ai_q5 h hL hS hF hG⟩
  · exact ⟨Nat.le_of_ble_eq_true rfl, ai_q6 h hL hS hF hG⟩
  · exact ⟨Nat.le_of_ble_eq_true rfl, ai_q7 h hL hS hF hG⟩
  · exact ⟨Nat.le_of_ble_eq_true rfl, ai_q8 h hL hS hF hG⟩
  · exact ⟨Nat.le_of_ble_eq_true rfl, ai_q9 h hL hS hF hG⟩
  · exact ⟨Nat.le_of_ble_eq_true rfl, ai_q10 h hL hS hF hG⟩
  · exact ⟨Nat.le_of_ble_eq_true rfl, ai_q11 h hL hS hF hG⟩
  · exact ⟨Nat.le_of_ble_eq_true rfl, ai_q12 h hL hS hF hG⟩
  · exact ⟨Nat.le_of_ble_eq_true rfl, ai_q13 h hL hS hF hG⟩
  · exact ⟨Nat.le_of_ble_eq_true rfl, ai_q14 h hL hS hF hG⟩
  · exact ⟨Nat.le_of_ble_eq_true rfl, ai_q15 h hL hS hF hG⟩
  · exact ⟨Nat.le_of_ble_eq_true rfl, ai_q16 h hL hS hF hG⟩
  · exact ⟨Nat.le_of_ble_eq_true rfl, ai_q17 h hL hS hF hG⟩
  · exact ⟨Nat.le_of_ble_eq_true rfl, ai_q18 h hL hS hF hG⟩
  · exact ⟨Nat.le_of_ble_eq_true rfl, ai_q19 h hL hS hF hG⟩
  · exact ⟨Nat.le_of_ble_eq_true rfl, ai_q20 h hL hS hF hG⟩
  · exact ⟨Nat.le_of_ble_eq_true rfl, ai_q21 h hL hS hF hG⟩
  · exact ⟨Nat.le_of_ble_eq_true rfl, ai_q22 h hL hS hF hG⟩
  · exact ⟨Nat.le_of_ble_eq_true rfl, ai_q23 h hL hS hF hG⟩
  · exact ⟨Nat.le_of_ble_eq_true rfl, ai_q24 h hL hS hF hG⟩
  · exact ⟨Nat.le_of_ble_eq_true rfl, ai_q25 h hL hS hF hG⟩
  · exact ⟨Nat.le_of_ble_eq_true rfl, ai_q26 h hL hS hF hG⟩
  · cases h
  · exact ⟨Nat.le_of_ble_eq_true rfl, ai_q28 h hL hS hF hG⟩
  · exact ⟨Nat.le_of_ble_eq_true rfl, ai_q29 h hL hS hF hG⟩
  · exact ⟨Nat.le_of_ble_eq_true rfl, ai_q30 h hL hS hF hG⟩
  · exact ⟨Nat.le_of_ble_eq_true rfl, ai_q31 h hL hS hF hG⟩
  · exact ⟨Nat.le_of_ble_eq_true rfl, ai_q32 h hL hS hF hG⟩
  · exact ⟨Nat.le_of_ble_eq_true rfl, ai_q33 h hL hS hF hG⟩
  · exact ⟨Nat.le_of_ble_eq_true rfl, ai_q34 h hL hS hF hG⟩
  · exact ⟨Nat.le_of_ble_eq_true rfl, ai_q35 h hL hS hF hG⟩
  · exact ⟨Nat.le_of_ble_eq_true rfl, ai_q36 h hL hS hF hG⟩
  · exact ⟨Nat.le_of_ble_eq_true rfl, ai_q37 h hL hS hF hG⟩
  · exact ⟨Nat.le_of_ble_eq_true rfl, ai_q38 h hL hS hF hG⟩
  · cases h
