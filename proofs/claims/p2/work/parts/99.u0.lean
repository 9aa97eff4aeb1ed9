/-! walks by contracts: less known of locals, numbers, single steps -/
def sm_wl (L L' : sm_L) : Prop := L.length = L'.length ∧ ∀ j v, L.getD j none = some v → L'.getD j none = some v
theorem sm_wl_rf {L : sm_L} : sm_wl L L := ⟨rfl, fun _ _ h => h⟩
theorem sm_wl_lt {L : sm_L} {j : Nat} {v : sm_V} (h : L.getD j none = some v) : j < L.length := by
  by_cases q : j < L.length
  · exact q
  · rw [List.getD_eq_getElem?_getD, List.getElem?_eq_none (by omega)] at h
    cases h
theorem sm_wl_s1 {L L' : sm_L} {i : Nat} {v : sm_V} (h : sm_wl L L') : sm_wl (sm_s1 L i v) (sm_s1 L' i v) := by
  have l1 : (sm_s1 L i v).length = L.length := by unfold sm_s1; simp
  have l2 : (sm_s1 L' i v).length = L'.length := by unfold sm_s1; simp
  refine ⟨by rw [l1, l2]; exact h.1, fun j u hj => ?_⟩
  have hlt := sm_wl_lt hj
  rw [l1] at hlt
  have hlt' : j < L'.length := by rw [← h.1]; exact hlt
  unfold sm_s1 at hj ⊢
  rw [sm_map_getD hlt] at hj
  rw [sm_map_getD hlt']
  split at hj
  · rename_i e
    rw [if_pos e]
    exact hj
  · rename_i e
    rw [if_neg e]
    split at hj
    · cases hj
    · rename_i g
      rw [h.2 j u hj]
      rw [hj] at g
      rw [if_neg g]
theorem sm_wl_s2 {L L' : sm_L} {i : Nat} {v : sm_V} (h : sm_wl L L') : sm_wl (sm_s2 L i v) (sm_s2 L' i v) := by
  have l1 : (sm_s2 L i v).length = L.length := by unfold sm_s2; simp
  have l2 : (sm_s2 L' i v).length = L'.length := by unfold sm_s2; simp
  refine ⟨by rw [l1, l2]; exact h.1, fun j u hj => ?_⟩
  have hlt := sm_wl_lt hj
  rw [l1] at hlt
  have hlt' : j < L'.length := by rw [← h.1]; exact hlt
  unfold sm_s2 at hj ⊢
  rw [sm_map_getD hlt] at hj
  rw [sm_map_getD hlt']
  split at hj
  · rename_i e
    rw [if_pos e]
    exact hj
  · rename_i e
    rw [if_neg e]
    split at hj
    · cases hj
    · rename_i e2
      rw [if_neg e2]
      split at hj
      · cases hj
      · rename_i g
        rw [h.2 j u hj]
        rw [hj] at g
        rw [if_neg g]
theorem sm_wl_s0 {L L' : sm_L} {i : Nat} (h : sm_wl L L') : sm_wl (sm_s0 L i) (sm_s0 L' i) := by
  have l1 : (sm_s0 L i).length = L.length := by unfold sm_s0; simp
  have l2 : (sm_s0 L' i).length = L'.length := by unfold sm_s0; simp
  refine ⟨by rw [l1, l2]; exact h.1, fun j u hj => ?_⟩
  have hlt := sm_wl_lt hj
  rw [l1] at hlt
  have hlt' : j < L'.length := by rw [← h.1]; exact hlt
  unfold sm_s0 at hj ⊢
  rw [sm_map_getD hlt] at hj
  rw [sm_map_getD hlt']
  split at hj
  · cases hj
  · rename_i e
    rw [if_neg e]
    split at hj
    · cases hj
    · rename_i g
      rw [h.2 j u hj]
      rw [hj] at g
      rw [if_neg g]
/-- steps that don't look at locals -/
theorem sm_stp_ol {op n a b d pc : Nat} {z : Int} {L L' : sm_L} {st : List sm_V} {S : sm_S} {c : sm_C} (ho : op < 2 ∨ 8 < op) (h : sm_stp (op, n, a, b, d, z) pc L st S = some c) : c.2.1 = L ∧ sm_stp (op, n, a, b, d, z) pc L' st S = some (c.1, L', c.2.2) := by
  simp only [sm_stp] at h ⊢
  split at h <;> first | omega | skip
  all_goals (repeat' (split at h)) 
  all_goals first
    | (cases h; done)
    | (cases h; exact ⟨rfl, rfl⟩)
    | (rw [Option.map_eq_some_iff] at h; obtain ⟨v, h1, h2⟩ := h; cases h2; exact ⟨rfl, by rw [h1]; rfl⟩)
    | (rename_i hc; cases h; refine ⟨rfl, ?_⟩; first | (rw [if_pos hc]; done) | (rw [if_neg hc]; done) | (rename_i hd; rw [if_pos hd, if_pos hc]; done) | (rename_i hd; rw [if_pos hd, if_neg hc]; done))
theorem sm_stp_wl {x : sm_I} {pc : Nat} {L L' : sm_L} {st : List sm_V} {S : sm_S} {c : sm_C} (hl : sm_wl L L') (h : sm_stp x pc L st S = some c) : ∃ L1, sm_wl c.2.1 L1 ∧ sm_stp x pc L' st S = some (c.1, L1, c.2.2) := by
  obtain ⟨op, n, a, b, d, z⟩ := x
  by_cases ho : op < 2 ∨ 8 < op
  · obtain ⟨h1, h2⟩ := sm_stp_ol (L' := L') ho h
    exact ⟨L', by rw [h1]; exact hl, h2⟩
  · have : op = 2 ∨ op = 3 ∨ op = 4 ∨ op = 5 ∨ op = 6 ∨ op = 7 ∨ op = 8 := by omega
    rcases this with rfl | rfl | rfl | rfl | rfl | rfl | rfl
    · simp only [sm_stp] at h ⊢
      split at h
      · rename_i v hv; cases h; rw [hl.2 _ _ hv]; exact ⟨L', hl, rfl⟩
      · cases h
    · simp only [sm_stp] at h ⊢
      split at h
      · rename_i v hv; cases h; rw [hl.2 _ _ hv]; exact ⟨L', hl, rfl⟩
      · cases h
    · simp only [sm_stp] at h ⊢
      split at h
      · rename_i v hv; cases h; rw [hl.2 _ _ hv]; exact ⟨L', hl, rfl⟩
      · cases h
    · simp only [sm_stp] at h ⊢
      split at h
      · split at h
        · rename_i v r g; cases h; rw [if_pos (by rw [← hl.1]; exact g)]; exact ⟨_, sm_wl_s1 hl, rfl⟩
        · cases h
      · cases h
    · simp only [sm_stp] at h ⊢
      split at h
      · split at h
        · rename_i v r g; cases h; rw [if_pos (by rw [← hl.1]; exact g)]; exact ⟨_, sm_wl_s2 hl, rfl⟩
        · cases h
      · cases h
    · simp only [sm_stp] at h ⊢
      split at h
      · split at h
        · rename_i v r g; cases h; rw [if_pos (by rw [← hl.1]; exact g)]; exact ⟨_, sm_wl_s1 hl, rfl⟩
        · cases h
      · cases h
    · simp only [sm_stp] at h ⊢
      split at h
      · rename_i v hv; cases h; rw [hl.2 _ _ hv]; exact ⟨_, sm_wl_s1 hl, rfl⟩
      · cases h
theorem sm_bd_wl {P : sm_P} {f : Nat → Nat → sm_C → Option sm_R} (hf : ∀ d mid pc L L' st S r, sm_wl L L' → f d mid (pc, L, st, S) = some r → f d mid (pc, L', st, S) = some r) {d mid pc : Nat} {L L' : sm_L} {st : List sm_V} {S : sm_S} {r : sm_R} (hl : sm_wl L L') (hr : sm_bd P f d mid (pc, L, st, S) = some r) : sm_bd P f d mid (pc, L', st, S) = some r := by
  simp only [sm_bd, hl.1] at hr ⊢
  split at hr
  · cases hr
  · split at hr
    · split at hr
      · cases hr
      · split at hr
        · rename_i hc
          rw [if_pos hc]
          split at hr
          · cases hr
          · rename_i hq
            rw [Option.map_eq_some_iff] at hr ⊢
            obtain ⟨q, h1, h2⟩ := hr
            exact ⟨q, hf _ _ _ _ _ _ _ _ hl h1, h2⟩
          · rename_i hq
            try dsimp only
            split at hr
            · exact hr
            · split at hr
              · split at hr
                · rename_i hg
                  rw [if_pos hg]
                  rw [Option.map_eq_some_iff] at hr ⊢
                  obtain ⟨q, h1, h2⟩ := hr
                  exact ⟨q, hf _ _ _ _ _ _ _ _ (sm_wl_s0 hl) h1, h2⟩
                · cases hr
              · cases hr
        · cases hr
    · exact hr
    · exact hr
    · exact hr
    · exact hr
    · exact hr
    · split at hr
      · split at hr
        · split at hr
          · exact hf _ _ _ _ _ _ _ _ hl hr
          · exact hf _ _ _ _ _ _ _ _ hl hr
        · cases hr
      · cases hr
    · split at hr
      · rename_i hc
        rw [if_pos hc]
        split at hr
        · exact hf _ _ _ _ _ _ _ _ hl hr
        · cases hr
      · cases hr
    · split at hr
      · rename_i hs
        obtain ⟨L1, h1, h2⟩ := sm_stp_wl hl hs
        rw [h2]
        exact hf _ _ _ _ _ _ _ _ h1 hr
      · cases hr
theorem sm_run_wl {P : sm_P} : ∀ (n : Nat) (d mid pc : Nat) (L L' : sm_L) (st : List sm_V) (S : sm_S) (r : sm_R), sm_wl L L' → sm_run P n d mid (pc, L, st, S) = some r → sm_run P n d mid (pc, L', st, S) = some r
  | 0, _, _, _, _, _, _, _, _, _, h => by cases h
  | n + 1, d, mid, pc, L, L', st, S, r, hl, h => sm_bd_wl (sm_run_wl n) hl h
theorem sm_T_wl {P : sm_P} {d mid pc : Nat} {L L' : sm_L} {st : List sm_V} {S : sm_S} {Q : sm_R → Prop} (hl : sm_wl L L') (h : sm_T P d mid (pc, L, st, S) Q) : sm_T P d mid (pc, L', st, S) Q := by
  obtain ⟨n, r, h1, h2⟩ := h
  exact ⟨n, r, sm_run_wl n _ _ _ _ _ _ _ _ hl h1, h2⟩
def sm_lf : sm_L → sm_L → Prop
  | [], [] => True
  | none :: a, _ :: b => sm_lf a b
  | some v :: a, some w :: b => v = w ∧ sm_lf a b
  | _, _ => False
theorem sm_lf_wl : ∀ {L L' : sm_L}, sm_lf L L' → sm_wl L L'
  | [], [], _ => sm_wl_rf
  | none :: a, _ :: b, h => by
    have ih := sm_lf_wl (L := a) (L' := b) h
    refine ⟨by simp [ih.1], fun j v hj => ?_⟩
    cases j with
    | zero => cases hj
    | succ j => exact ih.2 j v hj
  | some v :: a, some w :: b, h => by
    obtain ⟨rfl, h⟩ := h
    have ih := sm_lf_wl (L := a) (L' := b) h
    refine ⟨by simp [ih.1], fun j v hj => ?_⟩
    cases j with
    | zero => exact hj
    | succ j => exact ih.2 j v hj
  | [], _ :: _, h => h.elim
  | some _ :: _, none :: _, h => h.elim
  | _ :: _, [], h => by rename_i x y; cases x <;> exact h.elim
theorem sm_T_wk {P : sm_P} {d mid pc : Nat} (L : sm_L) {L' : sm_L} {st : List sm_V} {S : sm_S} {Q : sm_R → Prop} (hl : sm_lf L L') (h : sm_T P d mid (pc, L, st, S) Q) : sm_T P d mid (pc, L', st, S) Q := sm_T_wl (sm_lf_wl hl) h
