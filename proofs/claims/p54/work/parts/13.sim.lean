/-! a run of the small machine is a run of the machine -/
def sm_A (ad : Nat → Nat → Nat) (sz : Nat) : Nat → Prop := fun q => (∃ t i, i < sh_cn t ∧ q = ad t i) ∨ sz ≤ q
theorem sm_A_mono {ad : Nat → Nat → Nat} {a b : Nat} (h : a ≤ b) {q : Nat} (hq : sm_A ad b q) : sm_A ad a q := hq.elim Or.inl (fun g => Or.inr (Nat.le_trans h g))
theorem sm_kicn {q : Nat} (h : q < sh_N) : sh_ki q < sh_cn (sh_kt q) := by
  have h1 := List.all_eq_true.mp (show (List.range sh_N).all (fun q => decide (sh_ki q < sh_cn (sh_kt q))) = true by decide +kernel) q (List.mem_range.mpr h)
  exact of_decide_eq_true h1
theorem sm_ws_some {K : Nat → ClassId} {ad : Nat → Nat → Nat} {S : sm_S} {k : Nat} {x : Nat × va_E} (h : (sm_ws K ad S)[k]? = some x) : k < sh_N ∧ x.1 = ad (sh_kt k) (sh_ki k) := by
  have hk : k < sh_N := by
    have := (List.getElem?_eq_some_iff.mp h).1
    unfold sm_ws at this
    simpa using this
  refine ⟨hk, ?_⟩
  unfold sm_ws at h
  rw [List.getElem?_map, List.getElem?_range hk, Option.map_some] at h
  rw [← Option.some.inj h]
/-- apartness speaks of the addresses alone -/
theorem sm_D {A B : Nat → Prop} {K : Nat → ClassId} {ad : Nat → Nat → Nat} {S S' : sm_S} (h : va_D A (sm_ws K ad S)) (hB : ∀ t i, i < sh_cn t → B (ad t i)) : va_D B (sm_ws K ad S') := by
  refine ⟨fun i j x y hi hj hxy => ?_, fun k x hk => ?_⟩
  · obtain ⟨h1, h2⟩ := sm_ws_some hi
    obtain ⟨h3, h4⟩ := sm_ws_some hj
    have e1 : (sm_ws K ad S)[i]? = some (ad (sh_kt i) (sh_ki i), sm_cell K ad S (sh_kt i) (sh_ki i)) := by unfold sm_ws; rw [List.getElem?_map, List.getElem?_range h1]; rfl
    have e2 : (sm_ws K ad S)[j]? = some (ad (sh_kt j) (sh_ki j), sm_cell K ad S (sh_kt j) (sh_ki j)) := by unfold sm_ws; rw [List.getElem?_map, List.getElem?_range h3]; rfl
    exact h.1 i j _ _ e1 e2 (by rw [← h2, ← h4]; exact hxy)
  · obtain ⟨h1, h2⟩ := sm_ws_some hk
    rw [h2]
    exact hB _ _ (sm_kicn h1)
theorem sm_A_in {ad : Nat → Nat → Nat} {sz t i : Nat} (h : i < sh_cn t) : sm_A ad sz (ad t i) := Or.inl ⟨t, i, h, rfl⟩
/-! entry of a method -/
theorem sm_sl_len {ad : Nat → Nat → Nat} (vs : List sm_V) : (lg_sl (vs.map (sm_tr ad))).length = (sm_vsl vs).length := by
  induction vs with
  | nil => rfl
  | cons v vs ih =>
    unfold lg_sl sm_vsl at ih ⊢
    rw [List.map_cons, List.flatMap_cons, List.flatMap_cons, List.length_append, List.length_append, ih]
    congr 1
    rcases v with z | z | _ | r <;> rfl
theorem sm_args_mem {ad : Nat → Nat → Nat} (vs : List sm_V) : ∀ (i j : Nat) (v : sm_V), (sm_vsl vs)[j]? = some (some v) → (i + j, sm_tr ad v) ∈ lv_args i (vs.map (sm_tr ad)) := by
  induction vs with
  | nil => intro i j v h; cases h
  | cons u vs ih =>
    intro i j v h
    rw [List.map_cons]
    unfold sm_vsl at h
    rw [List.flatMap_cons] at h
    rcases u with z | z | _ | r
    · rcases j with _ | j
      · cases h; exact List.mem_cons_self
      · have g := ih (i + 1) j v h
        rw [show i + 1 + j = i + (j + 1) by omega] at g
        exact List.mem_cons_of_mem _ g
    · rcases j with _ | _ | j
      · cases h; exact List.mem_cons_self
      · cases h
      · have g := ih (i + 2) j v h
        rw [show i + 2 + j = i + (j + 1 + 1) by omega] at g
        exact List.mem_cons_of_mem _ g
    · rcases j with _ | j
      · cases h; exact List.mem_cons_self
      · have g := ih (i + 1) j v h
        rw [show i + 1 + j = i + (j + 1) by omega] at g
        exact List.mem_cons_of_mem _ g
    · rcases j with _ | j
      · cases h; exact List.mem_cons_self
      · have g := ih (i + 1) j v h
        rw [show i + 1 + j = i + (j + 1) by omega] at g
        exact List.mem_cons_of_mem _ g
theorem sm_ent_len {n : Nat} {vs : List sm_V} (h : (sm_vsl vs).length ≤ n) : (sm_ent n vs).length = n := by
  unfold sm_ent
  rw [List.length_append, List.length_replicate]
  omega
theorem sm_ent_at {n j : Nat} {vs : List sm_V} {v : sm_V} (h : (sm_ent n vs).getD j none = some v) : (sm_vsl vs)[j]? = some (some v) := by
  unfold sm_ent at h
  rw [List.getD_eq_getElem?_getD, List.getElem?_append] at h
  split at h
  · rename_i q
    rw [List.getElem?_eq_getElem q] at h ⊢
    exact congrArg some h
  · cases hr : (List.replicate (n - (sm_vsl vs).length) (none : Option sm_V))[j - (sm_vsl vs).length]? with
    | none => rw [hr] at h; cases h
    | some w =>
      rw [hr] at h
      have := List.eq_of_mem_replicate (List.mem_of_getElem? hr)
      subst this
      cases h
theorem sm_hl_ent {ad : Nat → Nat → Nat} {n : Nat} {vs : List sm_V} {ls : Array Slot} (hn : (sm_vsl vs).length ≤ n) (h : lv_has ls n (lv_args 0 (vs.map (sm_tr ad)))) : sm_hl ad (sm_ent n vs) ls := by
  refine ⟨by rw [sm_ent_len hn]; exact h.1, h.2.1, ?_⟩
  rintro ⟨j, w⟩ hq
  obtain ⟨h0, v, h1, rfl⟩ := sm_lv_mem.mp hq
  have g := sm_args_mem (ad := ad) vs 0 j v (sm_ent_at h1)
  rw [Nat.zero_add] at g
  exact h.2.2 _ g
theorem sm_vsl_mem {vs : List sm_V} {v : sm_V} (h : some v ∈ sm_vsl vs) : v ∈ vs := by
  unfold sm_vsl at h
  obtain ⟨u, hu, h1⟩ := List.mem_flatMap.mp h
  rcases u with z | z | _ | r
  · cases List.mem_singleton.mp h1; exact hu
  · rcases List.mem_cons.mp h1 with q | q
    · cases q; exact hu
    · cases List.mem_singleton.mp q
  · cases List.mem_singleton.mp h1; exact hu
  · cases List.mem_singleton.mp h1; exact hu
theorem sm_nL_ent {n : Nat} {vs : List sm_V} (h : sm_nst vs) : sm_nL (sm_ent n vs) := fun j v hj => h v (sm_vsl_mem (List.mem_of_getElem? (sm_ent_at hj)))
theorem sm_cat_tr {ad : Nat → Nat → Nat} (st : List sm_V) : ((st.map (sm_tr ad)).map fun v => v.category) = st.map sm_cat := by
  rw [List.map_map]
  apply List.map_congr_left
  intro v _
  rcases v with z | z | _ | r <;> rfl
theorem sm_hl_s0 {ad : Nat → Nat → Nat} {L : sm_L} {ls : Array Slot} {i x : Nat} (h : lv_has ls L.length ((i, Value.ref x) :: (sm_lv ad L).filter (fun q => !(q.1 == i) && !(q.1 + 1 == i && q.2.category == 2)))) : sm_hl ad (sm_s0 L i) ls := by
  have hlen : (sm_s0 L i).length = L.length := by unfold sm_s0; simp
  refine ⟨by rw [hlen]; exact h.1, h.2.1, ?_⟩
  rintro ⟨j, w⟩ hq
  obtain ⟨h0, u, h1, h2⟩ := sm_lv_mem.mp hq
  rw [hlen] at h0
  unfold sm_s0 at h1
  rw [sm_map_getD h0] at h1
  refine h.2.2 (j, w) ?_
  split at h1
  · cases h1
  · rename_i e
    split at h1
    · cases h1
    · rename_i g
      refine List.mem_cons_of_mem _ (List.mem_filter.mpr ⟨sm_lv_mem.mpr ⟨h0, u, h1, h2⟩, ?_⟩)
      simp only [Bool.and_eq_true, Bool.not_eq_true', beq_eq_false_iff_ne, ne_eq, Bool.and_eq_false_iff]
      refine ⟨e, ?_⟩
      by_cases q : j + 1 = i
      · right
        intro k
        have k : w.category = 2 := k
        rw [← h2] at k
        apply g
        rw [h1, sm_cat2 k]
        simp [q]
      · left; exact q
theorem sm_nL_s0 {L : sm_L} {a : Nat} (h : sm_nL L) : sm_nL (sm_s0 L a) := by
  intro j u hu
  by_cases hj : j < L.length
  · unfold sm_s0 at hu
    rw [sm_map_getD hj] at hu
    split at hu
    · cases hu
    · split at hu
      · cases hu
      · exact h j u hu
  · rw [List.getD_eq_getElem?_getD, List.getElem?_eq_none (by unfold sm_s0; simp; omega)] at hu
    cases hu
