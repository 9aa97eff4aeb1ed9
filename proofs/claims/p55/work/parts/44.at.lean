/-! the abstract step is sound -/
section AT
variable {L0 L : sm_L} {S : sm_S} {st : List ai_V} {vs : List sm_V} {aL : ai_L} {F : ai_F} {E : ai_E} {pc n a b d : Nat} {z : Int} {cs : List ai_C}
theorem ai_inv_i {i : ai_I} (h : ai_gS L0 L S (.inl i :: st) vs) : ∃ y w, vs = .inl y :: w ∧ ai_gI L0 L S i y ∧ ai_gS L0 L S st w := by
  cases vs with
  | nil => exact h.elim
  | cons v w =>
    obtain ⟨h1, h2⟩ := h
    rcases v with y | y | y
    · exact ⟨y, w, rfl, h1, h2⟩
    · exact h1.elim
    · exact h1.elim
theorem ai_inv_l {u : Unit} (h : ai_gS L0 L S (.inr (.inl u) :: st) vs) : ∃ y w, vs = .inr (.inl y) :: w ∧ ai_gS L0 L S st w := by
  cases vs with
  | nil => exact h.elim
  | cons v w =>
    obtain ⟨h1, h2⟩ := h
    rcases v with y | y | y
    · exact h1.elim
    · exact ⟨y, w, rfl, h2⟩
    · exact h1.elim
theorem ai_inv_r {r : Nat × Option Nat × Bool} (h : ai_gS L0 L S (.inr (.inr r) :: st) vs) : ∃ y w, vs = .inr (.inr y) :: w ∧ ai_gR L0 r y ∧ ai_gS L0 L S st w := by
  cases vs with
  | nil => exact h.elim
  | cons v w =>
    obtain ⟨h1, h2⟩ := h
    rcases v with y | y | y
    · exact h1.elim
    · exact h1.elim
    · exact ⟨y, w, rfl, h1, h2⟩
theorem ai_inv_n {t : Nat} {j : Option Nat} (h : ai_gS L0 L S (.inr (.inr (t, j, false)) :: st) vs) : ∃ i w, vs = .inr (.inr (some (t, i))) :: w ∧ (∀ j', j = some j' → L0.getD j' none = some (.inr (.inr (some (t, i))))) ∧ ai_gS L0 L S st w := by
  obtain ⟨y, w, rfl, h1, h2⟩ := ai_inv_r h
  rcases h1 with ⟨-, h1⟩ | ⟨i, rfl, h1⟩
  · cases h1
  · exact ⟨i, w, rfl, h1, h2⟩
theorem ai_cst {y : Int} : ai_gI L0 L S (y, y, none, none) y := ⟨⟨Int.le_refl _, Int.le_refl _⟩, fun j u w h => (by cases h), fun j h => (by cases h), fun j k h => by cases h⟩
theorem ai_ivl {lo hi y : Int} (h1 : lo ≤ y) (h2 : y ≤ hi) : ai_gI L0 L S (lo, hi, none, none) y := ⟨⟨h1, h2⟩, fun j u w h => (by cases h), fun j h => (by cases h), fun j k h => by cases h⟩
theorem ai_of {c : ai_I} {y : Int} (hi : ai_in c y) (hr : ai_rl L0 c y) (ho : c.2.2.2 = none) : ai_gI L0 L S c y := ⟨hi, hr, fun j h => (by rw [ho] at h; cases h), fun j k h => by rw [ho] at h; cases h⟩
theorem ai_ful {v : Int32} : ai_gI L0 L S ai_full v.toInt := ai_of (ai_full_g L0 v).1 (ai_full_g L0 v).2 rfl
theorem ai_rng_no {lo hi : Int} {rel : Option (Nat × Int × Int)} : (ai_rng lo hi rel).2.2.2 = none := by unfold ai_rng; split <;> rfl
theorem ai_bin_no {k : Nat} {x y c : ai_I} (h : ai_bin k x y = some c) : c.2.2.2 = none := by
  unfold ai_bin at h
  split at h
  all_goals first | (cases h; done) | (cases h; first | exact ai_rng_no | rfl) | (split at h <;> first | (cases h; done) | (cases h; first | exact ai_rng_no | rfl) | (split at h <;> first | (cases h; done) | (cases h; first | exact ai_rng_no | rfl)))
def ai_R (E : ai_E) (L0 : sm_L) (x : sm_I) (pc : Nat) (L : sm_L) (vs : List sm_V) (S : sm_S) (cs : List ai_C) : Prop := ∃ c1 ac, sm_stp x pc L vs S = some c1 ∧ ac ∈ cs ∧ ai_gC L0 ac c1 ∧ ai_GI E.1 E.2.1 c1.2.2.2 ∧ ai_fr E.2.2 S c1.2.2.2
theorem ai_one {x : sm_I} {c1 : sm_C} {ac : ai_C} (h1 : sm_stp x pc L vs S = some c1) (h2 : ai_gC L0 ac c1) (h3 : c1.2.2.2 = S) (hG : ai_GI E.1 E.2.1 S) : ai_R E L0 x pc L vs S [ac] := ⟨c1, ac, h1, List.mem_singleton.mpr rfl, h2, by rw [h3]; exact hG, by rw [h3]; exact ai_fr_rf⟩
theorem ai_getL {j : Nat} {x : ai_V} (hL : ai_gL L0 L S aL) (h : aL.getD j none = some x) : ∃ v, L.getD j none = some v ∧ ai_gV L0 L S x v := hL.2 j x h
theorem ai_br_g {k : Nat} {x y : ai_I} {u v : Int} {r : List ai_V} {w : List sm_V} {tgt nxt : Nat} (hL : ai_gL L0 L S aL) (hF : ai_gF L0 S F) (hx : ai_gI L0 L S x u) (hy : ai_gI L0 L S y v) (hr : ai_gS L0 L S r w) : ∃ ac ∈ ai_br k x y aL r F tgt nxt, ai_gC L0 ac (if sm_cnd k u v then tgt else nxt, L, w, S) := by
  have main : ∀ k' pc', sm_cnd k' u v = true → ai_can k' x y = true ∧ ai_gC L0 (ai_two k' x y aL r F pc') (pc', L, w, S) := by
    intro k' pc' hc
    obtain ⟨⟨c1, c2⟩, c3, c4⟩ := ai_cut_g hx.1 hy.1 hc
    obtain ⟨g1, g2⟩ := ai_ref_g hL hF hx c1 c2
    obtain ⟨g3, g4⟩ := ai_ref_g g1 g2 hy c3 c4
    have hx1 := hx.1
    have hy1 := hy.1
    refine ⟨?_, rfl, g3, hr, g4⟩
    unfold ai_can
    simp only [Bool.and_eq_true, decide_eq_true_eq]
    omega
  cases hc : sm_cnd k u v with
  | true =>
    obtain ⟨m1, m2⟩ := main k tgt hc
    refine ⟨_, ?_, m2⟩
    unfold ai_br
    rw [if_pos m1]
    exact List.mem_append_left _ (List.mem_singleton.mpr rfl)
  | false =>
    obtain ⟨m1, m2⟩ := main (ai_neg k) nxt (ai_neg_g hc)
    refine ⟨_, ?_, m2⟩
    unfold ai_br
    rw [if_pos m1]
    exact List.mem_append_right _ (List.mem_singleton.mpr rfl)
theorem ai_sub_g {i : ai_I} {g : Int × Int} {y : Int} (h : ai_sub i g = true) (hy : ai_gI L0 L S i y) : g.1 ≤ y ∧ y ≤ g.2 := by
  unfold ai_sub at h
  simp only [Bool.and_eq_true, decide_eq_true_eq] at h
  have := hy.1
  omega
theorem ai_drop_g {t i k : Nat} {y : Int} (hF : ai_gF L0 S F) : ai_gF L0 (sm_pI S t i k y) (ai_drop F k) := by
  intro q hq t' i' h0
  obtain ⟨h1, h2⟩ := List.mem_filter.mp hq
  have h3 : q.1.2 ≠ k := by simpa using h2
  have e : (sm_pI S t i k y).1 t' i' q.1.2 = S.1 t' i' q.1.2 := sm_up_ne (fun g => h3 g.2.2)
  rw [e]
  exact hF q h1 t' i' h0
theorem ai_GI_pI {t i k : Nat} {y : Int} (hG : ai_GI E.1 E.2.1 S) (h : (E.1 t k).1 ≤ y ∧ y ≤ (E.1 t k).2) : ai_GI E.1 E.2.1 (sm_pI S t i k y) := by
  refine ⟨fun t' i' k' => ?_, hG.2⟩
  show (E.1 t' k').1 ≤ sm_up S.1 t i k y t' i' k' ∧ sm_up S.1 t i k y t' i' k' ≤ (E.1 t' k').2
  by_cases q : t' = t ∧ i' = i ∧ k' = k
  · obtain ⟨rfl, rfl, rfl⟩ := q
    rw [sm_up_self]
    exact h
  · rw [sm_up_ne q]
    exact hG.1 t' i' k'
theorem ai_GI_aI {t i k : Nat} {y : Int} (hG : ai_GI E.1 E.2.1 S) (h : (E.2.1 t).1 ≤ y ∧ y ≤ (E.2.1 t).2) : ai_GI E.1 E.2.1 (sm_aI S t i k y) := by
  refine ⟨hG.1, fun t' i' k' => ?_⟩
  show (E.2.1 t').1 ≤ sm_up S.2.2.1 t i k y t' i' k' ∧ sm_up S.2.2.1 t i k y t' i' k' ≤ (E.2.1 t').2
  by_cases q : t' = t ∧ i' = i ∧ k' = k
  · obtain ⟨rfl, rfl, rfl⟩ := q
    rw [sm_up_self]
    exact h
  · rw [sm_up_ne q]
    exact hG.2 t' i' k'
theorem ai_fr_pI {W : ai_W} {t i k : Nat} {y : Int} (h : W.1 t k = true) : ai_fr W S (sm_pI S t i k y) := ⟨fun t' i' k' q => sm_up_ne (fun g => by obtain ⟨rfl, rfl, rfl⟩ := g; rw [h] at q; cases q), fun _ _ _ _ => rfl, fun _ _ _ _ => ⟨rfl, rfl⟩⟩
theorem ai_fr_aI {W : ai_W} {t i k : Nat} {y : Int} (h : W.2.1 t = true) : ai_fr W S (sm_aI S t i k y) := ⟨fun _ _ _ _ => rfl, fun _ _ _ _ => rfl, fun t' q i' k' => ⟨sm_up_ne (fun g => by obtain ⟨rfl, rfl, rfl⟩ := g; rw [h] at q; cases q), rfl⟩⟩
theorem ai_fr_aL {W : ai_W} {t i k : Nat} {y : Int} (h : W.2.1 t = true) : ai_fr W S (sm_aL S t i k y) := ⟨fun _ _ _ _ => rfl, fun _ _ _ _ => rfl, fun t' q i' k' => ⟨rfl, sm_up_ne (fun g => by obtain ⟨rfl, rfl, rfl⟩ := g; rw [h] at q; cases q)⟩⟩
theorem ai_q0 (h : ai_stp E (0, n, a, b, d, z) pc aL st F = some cs) (hL : ai_gL L0 L S aL) (hS : ai_gS L0 L S st vs) (hF : ai_gF L0 S F) (hG : ai_GI E.1 E.2.1 S) : ai_R E L0 (0, n, a, b, d, z) pc L vs S cs := by
  simp only [ai_stp] at h
  cases h
  exact ai_one rfl ⟨rfl, hL, ⟨ai_cst, hS⟩, hF⟩ rfl hG
theorem ai_q1 (h : ai_stp E (1, n, a, b, d, z) pc aL st F = some cs) (hL : ai_gL L0 L S aL) (hS : ai_gS L0 L S st vs) (hF : ai_gF L0 S F) (hG : ai_GI E.1 E.2.1 S) : ai_R E L0 (1, n, a, b, d, z) pc L vs S cs := by
  simp only [ai_stp] at h
  cases h
  exact ai_one rfl ⟨rfl, hL, ⟨trivial, hS⟩, hF⟩ rfl hG
theorem ai_q2 (h : ai_stp E (2, n, a, b, d, z) pc aL st F = some cs) (hL : ai_gL L0 L S aL) (hS : ai_gS L0 L S st vs) (hF : ai_gF L0 S F) (hG : ai_GI E.1 E.2.1 S) : ai_R E L0 (2, n, a, b, d, z) pc L vs S cs := by
  simp only [ai_stp] at h
  split at h
  · rename_i i hi
    cases h
    obtain ⟨v, h1, h2⟩ := ai_getL hL hi
    rcases v with v | v | v
    · have h2 : ai_gI L0 L S i v := h2
      exact ai_one (c1 := (pc + n, L, .inl v :: vs, S)) (by simp only [sm_stp, h1]) ⟨rfl, hL, ⟨⟨h2.1, h2.2.1, fun j hj => (by cases hj; exact h1), fun j k hj => (by cases hj)⟩, hS⟩, hF⟩ rfl hG
    · exact h2.elim
    · exact h2.elim
  · cases h
theorem ai_q3 (h : ai_stp E (3, n, a, b, d, z) pc aL st F = some cs) (hL : ai_gL L0 L S aL) (hS : ai_gS L0 L S st vs) (hF : ai_gF L0 S F) (hG : ai_GI E.1 E.2.1 S) : ai_R E L0 (3, n, a, b, d, z) pc L vs S cs := by
  simp only [ai_stp] at h
  split at h
  · rename_i i hi
    cases h
    obtain ⟨v, h1, h2⟩ := ai_getL hL hi
    rcases v with v | v | v
    · exact h2.elim
    · exact ai_one (c1 := (pc + n, L, .inr (.inl v) :: vs, S)) (by simp only [sm_stp, h1]) ⟨rfl, hL, ⟨trivial, hS⟩, hF⟩ rfl hG
    · exact h2.elim
  · cases h
theorem ai_q4 (h : ai_stp E (4, n, a, b, d, z) pc aL st F = some cs) (hL : ai_gL L0 L S aL) (hS : ai_gS L0 L S st vs) (hF : ai_gF L0 S F) (hG : ai_GI E.1 E.2.1 S) : ai_R E L0 (4, n, a, b, d, z) pc L vs S cs := by
  simp only [ai_stp] at h
  split at h
  · rename_i i hi
    cases h
    obtain ⟨v, h1, h2⟩ := ai_getL hL hi
    rcases v with v | v | v
    · exact h2.elim
    · exact h2.elim
    · exact ai_one (c1 := (pc + n, L, .inr (.inr v) :: vs, S)) (by simp only [sm_stp, h1]) ⟨rfl, hL, ⟨h2, hS⟩, hF⟩ rfl hG
  · cases h
theorem ai_q5 (h : ai_stp E (5, n, a, b, d, z) pc aL st F = some cs) (hL : ai_gL L0 L S aL) (hS : ai_gS L0 L S st vs) (hF : ai_gF L0 S F) (hG : ai_GI E.1 E.2.1 S) : ai_R E L0 (5, n, a, b, d, z) pc L vs S cs := by
  simp only [ai_stp] at h
  split at h
  · rename_i i r
    split at h
    · rename_i ha
      cases h
      obtain ⟨y, w, rfl, h1, h2⟩ := ai_inv_i hS
      exact ai_one (c1 := (pc + n, sm_s1 L a (.inl y), w, S)) (by simp only [sm_stp]; rw [if_pos (by rw [← hL.1]; exact ha)]) ⟨rfl, ai_s1_g hL (v := .inl y) h1, ai_noS_g h2, hF⟩ rfl hG
    · cases h
  · cases h
theorem ai_q6 (h : ai_stp E (6, n, a, b, d, z) pc aL st F = some cs) (hL : ai_gL L0 L S aL) (hS : ai_gS L0 L S st vs) (hF : ai_gF L0 S F) (hG : ai_GI E.1 E.2.1 S) : ai_R E L0 (6, n, a, b, d, z) pc L vs S cs := by
  simp only [ai_stp] at h
  split at h
  · rename_i i r
    split at h
    · rename_i ha
      cases h
      obtain ⟨y, w, rfl, h2⟩ := ai_inv_l hS
      exact ai_one (c1 := (pc + n, sm_s2 L a (.inr (.inl y)), w, S)) (by simp only [sm_stp]; rw [if_pos (by rw [← hL.1]; exact ha)]) ⟨rfl, ai_s2_g hL (v := .inr (.inl y)) trivial, ai_noS_g h2, hF⟩ rfl hG
    · cases h
  · cases h
theorem ai_q7 (h : ai_stp E (7, n, a, b, d, z) pc aL st F = some cs) (hL : ai_gL L0 L S aL) (hS : ai_gS L0 L S st vs) (hF : ai_gF L0 S F) (hG : ai_GI E.1 E.2.1 S) : ai_R E L0 (7, n, a, b, d, z) pc L vs S cs := by
  simp only [ai_stp] at h
  split at h
  · rename_i i r
    split at h
    · rename_i ha
      cases h
      obtain ⟨y, w, rfl, h1, h2⟩ := ai_inv_r hS
      exact ai_one (c1 := (pc + n, sm_s1 L a (.inr (.inr y)), w, S)) (by simp only [sm_stp]; rw [if_pos (by rw [← hL.1]; exact ha)]) ⟨rfl, ai_s1_g hL (v := .inr (.inr y)) h1, ai_noS_g h2, hF⟩ rfl hG
    · cases h
  · cases h
theorem ai_q8 (h : ai_stp E (8, n, a, b, d, z) pc aL st F = some cs) (hL : ai_gL L0 L S aL) (hS : ai_gS L0 L S st vs) (hF : ai_gF L0 S F) (hG : ai_GI E.1 E.2.1 S) : ai_R E L0 (8, n, a, b, d, z) pc L vs S cs := by
  simp only [ai_stp] at h
  split at h
  · rename_i i hi
    split at h
    · rename_i hok
      simp only [Bool.and_eq_true, decide_eq_true_eq] at hok
      split at h
      · rename_i j hj
        cases h
        obtain ⟨v, h1, h2⟩ := ai_getL hL hi
        rcases v with v | v | v
        · have h2 : ai_gI L0 L S i v := h2
          obtain ⟨y, e1, e2, e3⟩ := ai_bin_g (L0 := L0) hj (x := v) (y := z) h2.1 ⟨Int.le_refl _, Int.le_refl _⟩ h2.2.1 (fun j u w q => by cases q) (ai_ok_g hok.1.1 h2.1) ⟨hok.1.2, hok.2⟩
          have e4 : (Int32.ofInt v + Int32.ofInt z).toInt = y := Option.some.inj e1
          exact ai_one (c1 := (pc + n, sm_s1 L a (.inl y), vs, S)) (by simp only [sm_stp, h1, e4]) ⟨rfl, ai_s1_g hL (v := .inl y) (ai_of e2 e3 (ai_bin_no hj) : ai_gI L0 L S j y), ai_noS_g hS, hF⟩ rfl hG
        · exact h2.elim
        · exact h2.elim
      · cases h
    · cases h
  · cases h
theorem ai_q9 (h : ai_stp E (9, n, a, b, d, z) pc aL st F = some cs) (hL : ai_gL L0 L S aL) (hS : ai_gS L0 L S st vs) (hF : ai_gF L0 S F) (hG : ai_GI E.1 E.2.1 S) : ai_R E L0 (9, n, a, b, d, z) pc L vs S cs := by
  simp only [ai_stp] at h
  split at h
  · rename_i iy ix r
    split at h
    · rename_i hok
      simp only [Bool.and_eq_true] at hok
      split at h
      · rename_i j hj
        cases h
        obtain ⟨y, w, rfl, h1, hS⟩ := ai_inv_i hS
        obtain ⟨x, w, rfl, h2, hS⟩ := ai_inv_i hS
        obtain ⟨v, e1, e2, e3⟩ := ai_bin_g (L0 := L0) hj h2.1 h1.1 h2.2.1 h1.2.1 (ai_ok_g hok.1 h2.1) (ai_ok_g hok.2 h1.1)
        exact ai_one (c1 := (pc + n, L, .inl v :: w, S)) (by simp only [sm_stp, e1]; rfl) ⟨rfl, hL, ⟨ai_of e2 e3 (ai_bin_no hj), hS⟩, hF⟩ rfl hG
      · cases h
    · cases h
  · cases h
theorem ai_q10 (h : ai_stp E (10, n, a, b, d, z) pc aL st F = some cs) (hL : ai_gL L0 L S aL) (hS : ai_gS L0 L S st vs) (hF : ai_gF L0 S F) (hG : ai_GI E.1 E.2.1 S) : ai_R E L0 (10, n, a, b, d, z) pc L vs S cs := by
  simp only [ai_stp] at h
  split at h
  · split at h
    · rename_i ha
      cases h
      obtain ⟨y, w, rfl, h2⟩ := ai_inv_l hS
      obtain ⟨x, w, rfl, h4⟩ := ai_inv_l h2
      have hv : ∃ v, sm_lbin a x y = some v := by
        rcases a with _ | _ | _ | _ | _ | _ | a
        · exact ⟨_, rfl⟩
        · exact ⟨_, rfl⟩
        · exact ⟨_, rfl⟩
        · exact ⟨_, rfl⟩
        · exact ⟨_, rfl⟩
        · exact ⟨_, rfl⟩
        · omega
      obtain ⟨v, hv⟩ := hv
      exact ai_one (c1 := (pc + n, L, .inr (.inl v) :: w, S)) (by simp only [sm_stp, hv]; rfl) ⟨rfl, hL, ⟨trivial, h4⟩, hF⟩ rfl hG
    · cases h
  · cases h
theorem ai_q11 (h : ai_stp E (11, n, a, b, d, z) pc aL st F = some cs) (hL : ai_gL L0 L S aL) (hS : ai_gS L0 L S st vs) (hF : ai_gF L0 S F) (hG : ai_GI E.1 E.2.1 S) : ai_R E L0 (11, n, a, b, d, z) pc L vs S cs := by
  simp only [ai_stp] at h
  split at h
  · split at h
    · rename_i ha
      cases h
      obtain ⟨y, w, rfl, _, h2⟩ := ai_inv_i hS
      obtain ⟨x, w, rfl, h4⟩ := ai_inv_l h2
      have hv : ∃ v, sm_lsh a x y = some v := by
        rcases a with _ | _ | _ | a
        · exact ⟨_, rfl⟩
        · exact ⟨_, rfl⟩
        · exact ⟨_, rfl⟩
        · omega
      obtain ⟨v, hv⟩ := hv
      exact ai_one (c1 := (pc + n, L, .inr (.inl v) :: w, S)) (by simp only [sm_stp, hv]; rfl) ⟨rfl, hL, ⟨trivial, h4⟩, hF⟩ rfl hG
    · cases h
  · cases h
theorem ai_q12 (h : ai_stp E (12, n, a, b, d, z) pc aL st F = some cs) (hL : ai_gL L0 L S aL) (hS : ai_gS L0 L S st vs) (hF : ai_gF L0 S F) (hG : ai_GI E.1 E.2.1 S) : ai_R E L0 (12, n, a, b, d, z) pc L vs S cs := by
  simp only [ai_stp] at h
  split at h
  · cases h
    obtain ⟨y, w, rfl, h2⟩ := ai_inv_l hS
    obtain ⟨x, w, rfl, h4⟩ := ai_inv_l h2
    refine ai_one (c1 := (pc + n, L, .inl (sm_lcmp x y) :: w, S)) rfl ⟨rfl, hL, ⟨ai_ivl ?_ ?_, h4⟩, hF⟩ rfl hG
    · unfold sm_lcmp
      split
      · omega
      · split <;> omega
    · unfold sm_lcmp
      split
      · omega
      · split <;> omega
  · cases h
theorem ai_q13 (h : ai_stp E (13, n, a, b, d, z) pc aL st F = some cs) (hL : ai_gL L0 L S aL) (hS : ai_gS L0 L S st vs) (hF : ai_gF L0 S F) (hG : ai_GI E.1 E.2.1 S) : ai_R E L0 (13, n, a, b, d, z) pc L vs S cs := by
  simp only [ai_stp] at h
  split at h
  · cases h
    obtain ⟨y, w, rfl, _, hS⟩ := ai_inv_i hS
    exact ai_one rfl ⟨rfl, hL, ⟨trivial, hS⟩, hF⟩ rfl hG
  · cases h
    obtain ⟨y, w, rfl, h2⟩ := ai_inv_l hS
    exact ai_one rfl ⟨rfl, hL, ⟨ai_ful, h2⟩, hF⟩ rfl hG
  · cases h
    obtain ⟨y, w, rfl, _, hS⟩ := ai_inv_i hS
    exact ai_one rfl ⟨rfl, hL, ⟨ai_ful, hS⟩, hF⟩ rfl hG
  · cases h
    obtain ⟨y, w, rfl, _, hS⟩ := ai_inv_i hS
    exact ai_one rfl ⟨rfl, hL, ⟨ai_ful, hS⟩, hF⟩ rfl hG
  · cases h
    obtain ⟨y, w, rfl, _, hS⟩ := ai_inv_i hS
    exact ai_one rfl ⟨rfl, hL, ⟨ai_ful, hS⟩, hF⟩ rfl hG
  · cases h
theorem ai_q14 (h : ai_stp E (14, n, a, b, d, z) pc aL st F = some cs) (hL : ai_gL L0 L S aL) (hS : ai_gS L0 L S st vs) (hF : ai_gF L0 S F) (hG : ai_GI E.1 E.2.1 S) : ai_R E L0 (14, n, a, b, d, z) pc L vs S cs := by
  simp only [ai_stp] at h
  split at h
  · cases h
    obtain ⟨y, w, rfl, h1, h2⟩ := ai_inv_i hS
    exact ai_one rfl ⟨rfl, hL, ⟨h1, h1, h2⟩, hF⟩ rfl hG
  · cases h
    obtain ⟨y, w, rfl, h1, h2⟩ := ai_inv_r hS
    exact ai_one rfl ⟨rfl, hL, ⟨h1, h1, h2⟩, hF⟩ rfl hG
  · cases h
theorem ai_q15 (h : ai_stp E (15, n, a, b, d, z) pc aL st F = some cs) (hL : ai_gL L0 L S aL) (hS : ai_gS L0 L S st vs) (hF : ai_gF L0 S F) (hG : ai_GI E.1 E.2.1 S) : ai_R E L0 (15, n, a, b, d, z) pc L vs S cs := by
  simp only [ai_stp] at h
  split at h
  · cases h
    obtain ⟨y, w, rfl, h1, h2⟩ := ai_inv_i hS
    exact ai_one rfl ⟨rfl, hL, h2, hF⟩ rfl hG
  · cases h
    obtain ⟨y, w, rfl, h1, h2⟩ := ai_inv_r hS
    exact ai_one rfl ⟨rfl, hL, h2, hF⟩ rfl hG
  · cases h
theorem ai_q16 (h : ai_stp E (16, n, a, b, d, z) pc aL st F = some cs) (hL : ai_gL L0 L S aL) (hS : ai_gS L0 L S st vs) (hF : ai_gF L0 S F) (hG : ai_GI E.1 E.2.1 S) : ai_R E L0 (16, n, a, b, d, z) pc L vs S cs := by
  simp only [ai_stp] at h
  split at h
  · cases h
    obtain ⟨y, w, rfl, h1, h2⟩ := ai_inv_i hS
    obtain ⟨x, w, rfl, h3, h4⟩ := ai_inv_r h2
    exact ai_one rfl ⟨rfl, hL, ⟨h1, h3, h1, h3, h4⟩, hF⟩ rfl hG
  · cases h
theorem ai_q17 (h : ai_stp E (17, n, a, b, d, z) pc aL st F = some cs) (hL : ai_gL L0 L S aL) (hS : ai_gS L0 L S st vs) (hF : ai_gF L0 S F) (hG : ai_GI E.1 E.2.1 S) : ai_R E L0 (17, n, a, b, d, z) pc L vs S cs := by
  simp only [ai_stp] at h
  split at h
  · cases h
    obtain ⟨y, w, rfl, h1, h2⟩ := ai_inv_i hS
    obtain ⟨ac, m1, m2⟩ := ai_br_g (k := a) (tgt := ((pc : Int) + z).toNat) (nxt := pc + 3) hL hF h1 (ai_cst (y := 0)) h2
    exact ⟨_, ac, rfl, m1, m2, hG, ai_fr_rf⟩
  · cases h
theorem ai_q18 (h : ai_stp E (18, n, a, b, d, z) pc aL st F = some cs) (hL : ai_gL L0 L S aL) (hS : ai_gS L0 L S st vs) (hF : ai_gF L0 S F) (hG : ai_GI E.1 E.2.1 S) : ai_R E L0 (18, n, a, b, d, z) pc L vs S cs := by
  simp only [ai_stp] at h
  split at h
  · cases h
    obtain ⟨y, w, rfl, h1, h2⟩ := ai_inv_i hS
    obtain ⟨x, w, rfl, h3, h4⟩ := ai_inv_i h2
    obtain ⟨ac, m1, m2⟩ := ai_br_g (k := a) (tgt := ((pc : Int) + z).toNat) (nxt := pc + 3) hL hF h3 h1 h4
    exact ⟨_, ac, rfl, m1, m2, hG, ai_fr_rf⟩
  · cases h
theorem ai_q19 (h : ai_stp E (19, n, a, b, d, z) pc aL st F = some cs) (hL : ai_gL L0 L S aL) (hS : ai_gS L0 L S st vs) (hF : ai_gF L0 S F) (hG : ai_GI E.1 E.2.1 S) : ai_R E L0 (19, n, a, b, d, z) pc L vs S cs := by
  simp only [ai_stp] at h
  cases h
  exact ai_one rfl ⟨rfl, hL, hS, hF⟩ rfl hG
theorem ai_q38 (h : ai_stp E (38, n, a, b, d, z) pc aL st F = some cs) (hL : ai_gL L0 L S aL) (hS : ai_gS L0 L S st vs) (hF : ai_gF L0 S F) (hG : ai_GI E.1 E.2.1 S) : ai_R E L0 (38, n, a, b, d, z) pc L vs S cs := by
  simp only [ai_stp] at h
  cases h
  exact ai_one rfl ⟨rfl, hL, ⟨Or.inl ⟨rfl, rfl⟩, hS⟩, hF⟩ rfl hG
end AT
