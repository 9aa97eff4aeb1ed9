/-! 99.u0 -/
section
/-! walks by contracts: less known of locals, numbers, single steps -/
def sm_wl (L L' : sm_L) : Prop := L.length = L'.length ∧ ∀ j v, L.getD j none = some v → L'.getD j none = some v
theorem sm_wl_rf {L : sm_L} : sm_wl L L := ⟨rfl, fun _ _ h => h⟩
theorem sm_wl_lt {L : sm_L} {j : Nat} {v : sm_V} (h : L.getD j none = some v) : j < L.length := by
  by_cases q : j < L.length
  · exact q
  · rw [List.getD_eq_getElem?_getD, List.getElem?_eq_none (by omega)] at h
    cases h
theorem sm_wl_s1 {L L' : sm_L} {i : Nat} {v : sm_V} (h : sm_wl L L') : sm_wl (sm_s1 L i v) (sm_s1 L' i v) := by
  have l1 : (sm_s1 L i v).length = L.length := by unfold sm_s1; simp
  have l2 : (sm_s1 L' i v).length = L'.length := by unfold sm_s1; simp
  refine ⟨by rw [l1, l2]; exact h.1, fun j u hj => ?_⟩
  have hlt := sm_wl_lt hj
  rw [l1] at hlt
  have hlt' : j < L'.length := by rw [← h.1]; exact hlt
  unfold sm_s1 at hj ⊢
  rw [sm_map_getD hlt] at hj
  rw [sm_map_getD hlt']
  split at hj
  · rename_i e
    rw [if_pos e]
    exact hj
  · rename_i e
    rw [if_neg e]
    split at hj
    · cases hj
    · rename_i g
      rw [h.2 j u hj]
      rw [hj] at g
      rw [if_neg g]
theorem sm_wl_s2 {L L' : sm_L} {i : Nat} {v : sm_V} (h : sm_wl L L') : sm_wl (sm_s2 L i v) (sm_s2 L' i v) := by
  have l1 : (sm_s2 L i v).length = L.length := by unfold sm_s2; simp
  have l2 : (sm_s2 L' i v).length = L'.length := by unfold sm_s2; simp
  refine ⟨by rw [l1, l2]; exact h.1, fun j u hj => ?_⟩
  have hlt := sm_wl_lt hj
  rw [l1] at hlt
  have hlt' : j < L'.length := by rw [← h.1]; exact hlt
  unfold sm_s2 at hj ⊢
  rw [sm_map_getD hlt] at hj
  rw [sm_map_getD hlt']
  split at hj
  · rename_i e
    rw [if_pos e]
    exact hj
  · rename_i e
    rw [if_neg e]
    split at hj
    · cases hj
    · rename_i e2
      rw [if_neg e2]
      split at hj
      · cases hj
      · rename_i g
        rw [h.2 j u hj]
        rw [hj] at g
        rw [if_neg g]
theorem sm_wl_s0 {L L' : sm_L} {i : Nat} (h : sm_wl L L') : sm_wl (sm_s0 L i) (sm_s0 L' i) := by
  have l1 : (sm_s0 L i).length = L.length := by unfold sm_s0; simp
  have l2 : (sm_s0 L' i).length = L'.length := by unfold sm_s0; simp
  refine ⟨by rw [l1, l2]; exact h.1, fun j u hj => ?_⟩
  have hlt := sm_wl_lt hj
  rw [l1] at hlt
  have hlt' : j < L'.length := by rw [← h.1]; exact hlt
  unfold sm_s0 at hj ⊢
  rw [sm_map_getD hlt] at hj
  rw [sm_map_getD hlt']
  split at hj
  · cases hj
  · rename_i e
    rw [if_neg e]
    split at hj
    · cases hj
    · rename_i g
      rw [h.2 j u hj]
      rw [hj] at g
      rw [if_neg g]
/-- steps that don't look at locals -/
theorem sm_stp_ol {op n a b d pc : Nat} {z : Int} {L L' : sm_L} {st : List sm_V} {S : sm_S} {c : sm_C} (ho : op < 2 ∨ 8 < op) (h : sm_stp (op, n, a, b, d, z) pc L st S = some c) : c.2.1 = L ∧ sm_stp (op, n, a, b, d, z) pc L' st S = some (c.1, L', c.2.2) := by
  simp only [sm_stp] at h ⊢
  split at h <;> first | omega | skip
  all_goals (repeat' (split at h)) 
  all_goals first
    | (cases h; done)
    | (cases h; exact ⟨rfl, rfl⟩)
    | (rw [Option.map_eq_some_iff] at h; obtain ⟨v, h1, h2⟩ := h; cases h2; exact ⟨rfl, by rw [h1]; rfl⟩)
    | (rename_i hc; cases h; refine ⟨rfl, ?_⟩; first | (rw [if_pos hc]; done) | (rw [if_neg hc]; done) | (rename_i hd; rw [if_pos hd, if_pos hc]; done) | (rename_i hd; rw [if_pos hd, if_neg hc]; done))
theorem sm_stp_wl {x : sm_I} {pc : Nat} {L L' : sm_L} {st : List sm_V} {S : sm_S} {c : sm_C} (hl : sm_wl L L') (h : sm_stp x pc L st S = some c) : ∃ L1, sm_wl c.2.1 L1 ∧ sm_stp x pc L' st S = some (c.1, L1, c.2.2) := by
  obtain ⟨op, n, a, b, d, z⟩ := x
  by_cases ho : op < 2 ∨ 8 < op
  · obtain ⟨h1, h2⟩ := sm_stp_ol (L' := L') ho h
    exact ⟨L', by rw [h1]; exact hl, h2⟩
  · have : op = 2 ∨ op = 3 ∨ op = 4 ∨ op = 5 ∨ op = 6 ∨ op = 7 ∨ op = 8 := by omega
    rcases this with rfl | rfl | rfl | rfl | rfl | rfl | rfl
    · simp only [sm_stp] at h ⊢
      split at h
      · rename_i v hv; cases h; rw [hl.2 _ _ hv]; exact ⟨L', hl, rfl⟩
      · cases h
    · simp only [sm_stp] at h ⊢
      split at h
      · rename_i v hv; cases h; rw [hl.2 _ _ hv]; exact ⟨L', hl, rfl⟩
      · cases h
    · simp only [sm_stp] at h ⊢
      split at h
      · rename_i v hv; cases h; rw [hl.2 _ _ hv]; exact ⟨L', hl, rfl⟩
      · cases h
    · simp only [sm_stp] at h ⊢
      split at h
      · split at h
        · rename_i v r g; cases h; rw [if_pos (by rw [← hl.1]; exact g)]; exact ⟨_, sm_wl_s1 hl, rfl⟩
        · cases h
      · cases h
    · simp only [sm_stp] at h ⊢
      split at h
      · split at h
        · rename_i v r g; cases h; rw [if_pos (by rw [← hl.1]; exact g)]; exact ⟨_, sm_wl_s2 hl, rfl⟩
        · cases h
      · cases h
    · simp only [sm_stp] at h ⊢
      split at h
      · split at h
        · rename_i v r g; cases h; rw [if_pos (by rw [← hl.1]; exact g)]; exact ⟨_, sm_wl_s1 hl, rfl⟩
        · cases h
      · cases h
    · simp only [sm_stp] at h ⊢
      split at h
      · rename_i v hv; cases h; rw [hl.2 _ _ hv]; exact ⟨_, sm_wl_s1 hl, rfl⟩
      · cases h
theorem sm_bd_wl {P : sm_P} {f : Nat → Nat → sm_C → Option sm_R} (hf : ∀ d mid pc L L' st S r, sm_wl L L' → f d mid (pc, L, st, S) = some r → f d mid (pc, L', st, S) = some r) {d mid pc : Nat} {L L' : sm_L} {st : List sm_V} {S : sm_S} {r : sm_R} (hl : sm_wl L L') (hr : sm_bd P f d mid (pc, L, st, S) = some r) : sm_bd P f d mid (pc, L', st, S) = some r := by
  simp only [sm_bd, hl.1] at hr ⊢
  split at hr
  · cases hr
  · split at hr
    · split at hr
      · cases hr
      · split at hr
        · rename_i hc
          rw [if_pos hc]
          split at hr
          · cases hr
          · rename_i hq
            rw [Option.map_eq_some_iff] at hr ⊢
            obtain ⟨q, h1, h2⟩ := hr
            exact ⟨q, hf _ _ _ _ _ _ _ _ hl h1, h2⟩
          · rename_i hq
            try dsimp only
            split at hr
            · exact hr
            · split at hr
              · split at hr
                · rename_i hg
                  rw [if_pos hg]
                  rw [Option.map_eq_some_iff] at hr ⊢
                  obtain ⟨q, h1, h2⟩ := hr
                  exact ⟨q, hf _ _ _ _ _ _ _ _ (sm_wl_s0 hl) h1, h2⟩
                · cases hr
              · cases hr
        · cases hr
    · exact hr
    · exact hr
    · exact hr
    · exact hr
    · exact hr
    · split at hr
      · split at hr
        · split at hr
          · exact hf _ _ _ _ _ _ _ _ hl hr
          · exact hf _ _ _ _ _ _ _ _ hl hr
        · cases hr
      · cases hr
    · split at hr
      · rename_i hc
        rw [if_pos hc]
        split at hr
        · exact hf _ _ _ _ _ _ _ _ hl hr
        · cases hr
      · cases hr
    · split at hr
      · rename_i hs
        obtain ⟨L1, h1, h2⟩ := sm_stp_wl hl hs
        rw [h2]
        exact hf _ _ _ _ _ _ _ _ h1 hr
      · cases hr
theorem sm_run_wl {P : sm_P} : ∀ (n : Nat) (d mid pc : Nat) (L L' : sm_L) (st : List sm_V) (S : sm_S) (r : sm_R), sm_wl L L' → sm_run P n d mid (pc, L, st, S) = some r → sm_run P n d mid (pc, L', st, S) = some r
  | 0, _, _, _, _, _, _, _, _, _, h => by cases h
  | n + 1, d, mid, pc, L, L', st, S, r, hl, h => sm_bd_wl (sm_run_wl n) hl h
theorem sm_T_wl {P : sm_P} {d mid pc : Nat} {L L' : sm_L} {st : List sm_V} {S : sm_S} {Q : sm_R → Prop} (hl : sm_wl L L') (h : sm_T P d mid (pc, L, st, S) Q) : sm_T P d mid (pc, L', st, S) Q := by
  obtain ⟨n, r, h1, h2⟩ := h
  exact ⟨n, r, sm_run_wl n _ _ _ _ _ _ _ _ hl h1, h2⟩
def sm_lf : sm_L → sm_L → Prop
  | [], [] => True
  | none :: a, _ :: b => sm_lf a b
  | some v :: a, some w :: b => v = w ∧ sm_lf a b
  | _, _ => False
theorem sm_lf_wl : ∀ {L L' : sm_L}, sm_lf L L' → sm_wl L L'
  | [], [], _ => sm_wl_rf
  | none :: a, _ :: b, h => by
    have ih := sm_lf_wl (L := a) (L' := b) h
    refine ⟨by simp [ih.1], fun j v hj => ?_⟩
    cases j with
    | zero => cases hj
    | succ j => exact ih.2 j v hj
  | some v :: a, some w :: b, h => by
    obtain ⟨rfl, h⟩ := h
    have ih := sm_lf_wl (L := a) (L' := b) h
    refine ⟨by simp [ih.1], fun j v hj => ?_⟩
    cases j with
    | zero => exact hj
    | succ j => exact ih.2 j v hj
  | [], _ :: _, h => h.elim
  | some _ :: _, none :: _, h => h.elim
  | _ :: _, [], h => by rename_i x y; cases x <;> exact h.elim
theorem sm_T_wk {P : sm_P} {d mid pc : Nat} (L : sm_L) {L' : sm_L} {st : List sm_V} {S : sm_S} {Q : sm_R → Prop} (hl : sm_lf L L') (h : sm_T P d mid (pc, L, st, S) Q) : sm_T P d mid (pc, L', st, S) Q := sm_T_wl (sm_lf_wl hl) h
end
/-! 99.u1 -/
section
/-! intervals of fields and of arrays; written by wip/p55/gen/vg/u1.py -/
def cap_FL : List (List (Int × Int)) := [[(0, 60), (0, 12), (0, 38), (0, 0), (0, 0), (0, 0), (0, 0), (0, 0), (0, 0), (0, 0), (0, 0), (0, 1), (0, 0), (0, 0), (0, 0), (0, 0), ((-2147483648), 2147483647), (0, 0), (0, 8)], [(0, 0), (0, 0), (0, 0), (0, 201), (0, 0), (0, 0), (0, 512), (0, 0), (0, 1), (0, 6), (0, 0), (0, 0), (0, 0), (0, 64), (0, 0)], [(0, 1), (0, 12), (0, 6), (0, 16), (0, 63), (0, 63), (0, 0), (0, 0), (0, 150), (0, 0), (0, 0), (0, 0), (0, 0), (0, 0), (0, 40), ((-1), 1224), (0, 0), (0, 0), (0, 0), ((-2147483648), 2147483647)], [(0, 1), (0, 320), (0, 100000), (0, 320), (0, 1013), (0, 63), (0, 63), (0, 1000), (0, 1000), (0, 64), (0, 0), (0, 0), (0, 0), (0, 0), (0, 0), (0, 0)], [(0, 1), (0, 2000), (0, 0), (0, 1073741823), (0, 1073741823), (0, 100000), (0, 2652), ((-700), 2000), (0, 2000), (0, 1), (0, 1), (0, 1), (0, 0), (0, 0), (0, 0), (0, 0), (0, 0), (0, 0)], [(0, 1), (0, 12), ((-1), 11), (0, 0), (0, 0), (0, 0), (0, 0)], [(0, 0), (0, 0), (0, 0), (0, 0), (0, 0), (0, 0), (0, 0), (0, 0), (0, 0), (0, 0), (0, 0), (0, 1024), (0, 0), (0, 4), (0, 0), (0, 0), (0, 0), (0, 0), (0, 0)], [(0, 0), (0, 0), (0, 65536), (0, 16), (0, 0), (0, 0), (0, 0), (0, 0), (0, 0), (0, 0), (0, 0), (0, 0), (0, 0), (0, 0), (0, 488), (0, 0), (0, 488), (0, 60)], [(0, 0), (0, 62), (0, 2356), (0, 0), (0, 0), (0, 0), (0, 4712), (0, 0), (0, 4712), (0, 0), (0, 0), (0, 4712), (0, 0), (0, 162)], [(0, 0), ((-2147483648), 2147483647), (0, 64), (0, 0), (0, 0), (0, 0), (0, 0), (0, 0), (0, 0), (0, 0)], [(0, 0), (0, 1280), ((-128), 257), (0, 1280), (0, 1280), (0, 999999), (0, 23), (0, 4095), (0, 1280)], [(0, 0), (0, 0), (0, 0), (0, 0), ((-2147483648), 2147483647), (0, 41), (0, 0), (0, 0), (0, 0), (0, 0), (0, 0), (0, 152), (0, 0), ((-2147483648), 2147483647), (0, 4095), (0, 4095), (0, 1), (0, 0), (0, 0), (0, 0)], [(0, 0), (0, 0), (0, 0), (0, 0), (0, 0), (0, 0), (0, 0), (0, 0), (0, 0), (0, 0), (0, 23), (0, 0), (0, 0), (0, 0), (0, 0), (0, 0), (0, 4096)], [(0, 4), (0, 0), (0, 1280), (0, 1280), (0, 0), (0, 0), (0, 0), (0, 0), (0, 0), (0, 1280), (0, 23), (0, 4095), (0, 16), (0, 0), (0, 0), (0, 0), (0, 0), (0, 0), (0, 0), (0, 0), (0, 0), (0, 0), (0, 0), (0, 0), (0, 0), (0, 1280), ((-2147483648), 2147483647), (0, 2), (0, 15), (0, 16), (0, 0), (0, 0), (0, 1023), (0, 60), (0, 1023), (0, 0), (0, 0), (0, 1014), (0, 19), (0, 6), (0, 0), (0, 0), (0, 0), (0, 0), (0, 0), (0, 0), (0, 0), (0, 0), (0, 0), (0, 0), (0, 0), (0, 0), (0, 63), (0, 6), (0, 0), (0, 0), (0, 0), (0, 0), (0, 0), (0, 0), (0, 0), (0, 0), (0, 0), (0, 0), (0, 0), (0, 0), (0, 0), (0, 0), (0, 0), (0, 0), (0, 0), (0, 0), (0, 0), (0, 0), (0, 0), (0, 0), (0, 0), (0, 0), (0, 0), (0, 23), (0, 3), (0, 0), (0, 0), (0, 12), (0, 0), (0, 0), (0, 0), (0, 0), (0, 0), (0, 0), (0, 0), (0, 0), (0, 0), (0, 0), (0, 0), (0, 4097), (0, 0), (0, 0), (0, 0), (0, 0), (0, 0), (0, 0), (0, 0), (0, 0), (0, 0), (0, 5), (0, 2), ((-1), 11), (0, 1000000000), (0, 0), (0, 0), (0, 0), (0, 0), (0, 0), (0, 64), (0, 0), (0, 0), (0, 0), (0, 0), (0, 0), (0, 0), (0, 0), (0, 0), (0, 8), (0, 0), (0, 0), (0, 0), ((-2147483648), 2147483647), (0, 0), (0, 8191), (0, 0), (0, 0), (0, 0), (0, 0), (0, 1), (0, 0), (0, 0), (0, 8191), (0, 0), (0, 0), (0, 0), (0, 0), (0, 0), (0, 0), (0, 0), (0, 0), (0, 0), (0, 0), (0, 0), (0, 0), (0, 0), (0, 0), (0, 0), (0, 0), (0, 0), (0, 0), (0, 0), (0, 0), (0, 0), (0, 700), (0, 0), (0, 0), (0, 0), (0, 0), (0, 0), (0, 0), (0, 0), (0, 0), (0, 0), (0, 0), (0, 0), (0, 0), (0, 0), (0, 0), (0, 62), (0, 38), (0, 4712), (0, 3), (0, 0), (0, 0), (0, 0), (0, 0), (0, 0), (0, 0), (0, 162), (0, 0), (0, 0), (0, 0), (0, 2000000), (0, 1), (0, 2000), ((-1), 2000), (0, 0), (0, 0), (0, 0), (0, 0), (0, 0), (0, 0), (0, 0), (0, 0), (0, 0), (0, 0), (0, 0), (0, 0), (0, 0), (0, 0), (0, 40), (0, 0), (0, 0), (0, 0), (0, 0), (0, 0), (0, 0), (0, 0), (0, 20001), (0, 0), (0, 0), (0, 0), (0, 0), (0, 0), (0, 0), ((-1), 161), ((-1), 460), (0, 0), (0, 0)]]
def cap_AL : List (List (Int × Int)) := [[(0, 0), (0, 0), (0, 0), (0, 0), (0, 0), (0, 0), (0, 0), (0, 0), (0, 0), (0, 0), (0, 0), (0, 0), (0, 0), (0, 0), (0, 60), (0, 12)], [(0, 4), ((-1), 161), (0, 651), (0, 652), (0, 652), ((-9999), 20000), ((-1), 161), (0, 7), (0, 1), ((-1), 161), (0, 2025), (0, 2025), (0, 8), ((-1), 1012), (0, 100000), (0, 100000)], [(0, 0), (0, 1012), (0, 4194303), (0, 11), (0, 161), ((-2), 161), ((-2), 161), (0, 4194303), (0, 4095), (0, 1), (0, 2025), (0, 2025), (0, 2025), (0, 2025), (0, 2025), (0, 4194303)], [((-1000), 1000), (0, 20000), ((-2147483648), 2147483647), (0, 1999), ((-652), 1999), (0, 1), (0, 0), (0, 3), (0, 255), (0, 1000), (0, 100), (0, 1), ((-2147483648), 2147483647), (0, 268435456), ((-2), 11), (0, 15)], [(0, 1012), ((-1), 1012), (0, 1023), (0, 255), (0, 1012), (0, 255), (0, 1012), ((-2147483648), 2147483647), ((-1), 161), (0, 3039), (0, 2147483647), (0, 65535), (0, 65536), (0, 40), (0, 65535), (0, 5)], [(0, 8), (0, 255), ((-4), 5), (0, 1280), (0, 255), ((-1), 161), ((-1), 100000), (0, 4711), (0, 4711), (0, 4711), (0, 4711), (0, 161), (0, 0), (0, 0), (0, 1), (0, 0)], [((-2147483648), 2147483647), ((-2147483648), 2147483647), ((-128), 127), ((-2147483648), 2147483647), ((-2147483648), 2147483647), ((-2147483648), 2147483647), (0, 40), ((-2147483648), 2147483647), (0, 152), (0, 10161), (0, 10161), (0, 1), (0, 20000), ((-2147483648), 2147483647), (0, 0), (0, 0)], [(0, 0), ((-2), 4095), (0, 4095), (0, 4095), (0, 0), (0, 4095), ((-128), 127), ((-128), 127), (0, 1280), ((-2147483648), 2147483647), (0, 0), ((-2147483648), 2147483647), (0, 1280), (0, 1280), (0, 40), (0, 1280)], [(0, 5), (0, 8), (0, 2147483647), (0, 1), (0, 320), (0, 320), (0, 1073741823), (0, 1073741823), ((-2147483648), 2147483647), (0, 1280), ((-2147483648), 2147483647), (0, 2047), (0, 2047), (0, 2047), (0, 1023), (0, 1023)], [(0, 2047), (0, 2047), (0, 15), (0, 1280), (0, 639), (0, 40), (0, 6), (0, 2047), (0, 2047), (0, 1), (0, 12), (0, 6), (0, 16), (0, 63), (0, 63), (0, 1013)], [(0, 19), (0, 1000), (0, 1000), (0, 64), (0, 2047), (0, 2047), (0, 2025), (0, 2047), (0, 2047), (0, 65535), (0, 63), (0, 0), (0, 2025), (0, 1), (0, 1000), (0, 2047)], [(0, 1), (0, 1280), (0, 1280), (0, 3), (0, 255), ((-2147483648), 2147483647), ((-2147483648), 2147483647), (0, 1), (0, 12), (0, 3), (0, 255), (0, 1000), (0, 100), (0, 4095), (0, 65535), (0, 63)], [(0, 65535), (0, 63), (0, 4095), (0, 4095), (0, 4095), (0, 4095), (0, 1), (0, 2025), (0, 2025), ((-2147483648), 2147483647), (0, 1), (0, 1), (0, 3), (0, 1012), (0, 1000000000), ((-1), 11)], [(0, 2047), (0, 7), (0, 1000000000), (0, 1), (0, 1012), ((-2147483648), 2147483647), (0, 255), (0, 255), ((-1), 11), ((-2), 9000), ((-2), 9000), ((-2), 9000), (0, 4095), (0, 1), (0, 1), (0, 12)], [(0, 6), (0, 16), (0, 63), (0, 63), (0, 150), (0, 11), ((-1), 161), ((-2), 9000), ((-2), 9000), (0, 12), (0, 3), (0, 255), (0, 1000), (0, 100), (0, 0), (0, 60)], [(0, 12), (0, 60), (0, 12), (0, 161), (0, 200), (0, 40), (0, 700), (0, 200), (0, 200), (0, 40), (0, 40), (0, 1), ((-1), 161), (0, 1), (0, 1), (0, 1)], [(0, 1), ((-1), 161), (0, 1000000000), (0, 4711), (0, 1), (0, 4711), (0, 161), (0, 1), (0, 2000), ((-1000), 1000), (0, 2699), (0, 1), (0, 1), (0, 1), ((-2147483648), 2147483647), ((-2147483648), 2147483647)], [(0, 40), (0, 161), (0, 22), (0, 40), ((-2147483648), 2147483647), (0, 10200), (0, 39), (0, 42), (0, 15), (0, 21), (0, 39), (0, 40), (0, 1), ((-2147483648), 2147483647), (0, 20010), (0, 20010)], [(0, 1), ((-1), 1224), (0, 4095), (0, 1), (0, 0), (0, 0), (0, 4097), (0, 0)]]
def cap_F (t k : Nat) : Int × Int := (cap_FL.getD t []).getD k (0, 0)
def cap_A (t : Nat) : Int × Int := (cap_AL.getD (t / 16) []).getD (t % 16) (0, 0)
abbrev gi (S : sm_S) : Prop := ai_GI cap_F cap_A S
theorem gi_pI {S : sm_S} {t i k : Nat} {y : Int} (hG : gi S) (h : (cap_F t k).1 ≤ y ∧ y ≤ (cap_F t k).2) : gi (sm_pI S t i k y) := ai_GI_pI (E := (cap_F, cap_A, (fun _ _ => true, fun _ => true, fun _ _ => true))) hG h
theorem gi_pJ {S : sm_S} {t i k : Nat} {y : Int} (hG : gi S) (h : (sh_fk t k).1 = 3) : gi (sm_pI S t i k y) := ai_GI_pJ (E := (cap_F, cap_A, (fun _ _ => true, fun _ => true, fun _ _ => true))) hG h
theorem gi_aI {S : sm_S} {t i k : Nat} {y : Int} (hG : gi S) (h : (cap_A t).1 ≤ y ∧ y ≤ (cap_A t).2) : gi (sm_aI S t i k y) := ai_GI_aI (E := (cap_F, cap_A, (fun _ _ => true, fun _ => true, fun _ _ => true))) hG h
theorem gi_aL {S : sm_S} {t i k : Nat} {y : Int} (hG : gi S) : gi (sm_aL S t i k y) := hG
theorem gi_pR {S : sm_S} {t i k : Nat} {y : Option Nat} (hG : gi S) : gi (sm_pR S t i k y) := hG
theorem fr_le {w w' : sx_Wl} {S S' : sm_S} (h : ai_fr (sx_W w') S S') (hw : sx_wle w' w = true) : ai_fr (sx_W w) S S' := by
  unfold sx_wle at hw
  simp only [Bool.and_eq_true] at hw
  obtain ⟨⟨h1, h2⟩, h3⟩ := hw
  refine ⟨fun t i k q => h.1 t i k ?_, fun t i k q => h.2.1 t i k ?_, fun t q => h.2.2 t ?_⟩
  · cases g : (sx_W w').1 t k with
    | false => rfl
    | true =>
      obtain ⟨p, hp, e⟩ := List.any_eq_true.mp g
      simp only [Bool.and_eq_true, decide_eq_true_eq] at e
      have := List.all_eq_true.mp h1 p hp
      rw [e.1, e.2, q] at this
      cases this
  · cases g : (sx_W w').2.2 t k with
    | false => rfl
    | true =>
      obtain ⟨p, hp, e⟩ := List.any_eq_true.mp g
      simp only [Bool.and_eq_true, decide_eq_true_eq] at e
      have := List.all_eq_true.mp h3 p hp
      rw [e.1, e.2, q] at this
      cases this
  · cases g : (sx_W w').2.1 t with
    | false => rfl
    | true =>
      obtain ⟨p, hp, e⟩ := List.any_eq_true.mp g
      simp only [decide_eq_true_eq] at e
      have := List.all_eq_true.mp h2 p hp
      rw [e, q] at this
      cases this
/-! numbers -/
def i_and (x y : Int) : Int := (Int32.ofInt x &&& Int32.ofInt y).toInt
def i_or (x y : Int) : Int := (Int32.ofInt x ||| Int32.ofInt y).toInt
def i_xor (x y : Int) : Int := (Int32.ofInt x ^^^ Int32.ofInt y).toInt
def i_shl (x y : Int) : Int := (Int32.ofInt x <<< (Int32.ofInt y &&& 31)).toInt
def i_shr (x y : Int) : Int := (Int32.ofInt x >>> (Int32.ofInt y &&& 31)).toInt
def i_ushr (x y : Int) : Int := ((Int32.ofInt x).toUInt32 >>> ((Int32.ofInt y).toUInt32 &&& Int32.toUInt32 31)).toInt32.toInt
def i_i2b (x : Int) : Int := (Int32.ofInt x).toInt8.toInt32.toInt
def i_i2c (x : Int) : Int := ((Int32.ofInt x).toUInt32 % 65536).toInt32.toInt
def l_0 (x y : Int) : Int := (Int64.ofInt x + Int64.ofInt y).toInt
def l_1 (x y : Int) : Int := (Int64.ofInt x - Int64.ofInt y).toInt
def l_2 (x y : Int) : Int := (Int64.ofInt x * Int64.ofInt y).toInt
def l_3 (x y : Int) : Int := (Int64.ofInt x &&& Int64.ofInt y).toInt
def l_4 (x y : Int) : Int := (Int64.ofInt x ||| Int64.ofInt y).toInt
def l_5 (x y : Int) : Int := (Int64.ofInt x ^^^ Int64.ofInt y).toInt
def l_s0 (x y : Int) : Int := (Int64.ofInt x <<< ((Int32.ofInt y).toInt64 &&& 63)).toInt
def l_s1 (x y : Int) : Int := (Int64.ofInt x >>> ((Int32.ofInt y).toInt64 &&& 63)).toInt
def l_s2 (x y : Int) : Int := ((Int64.ofInt x).toUInt64 >>> ((Int32.ofInt y).toInt64.toUInt64 &&& Int64.toUInt64 63)).toInt64.toInt
def l_i2l (x : Int) : Int := (Int32.ofInt x).toInt64.toInt
def l_l2i (x : Int) : Int := (Int64.ofInt x).toInt32.toInt
section UA
variable {x y w : Int}
theorem bi_add (h : x + y = w) (h1 : -2147483648 ≤ w) (h2 : w ≤ 2147483647) : sm_bin 0 x y = some w := by
  subst h
  show some _ = some _
  rw [ar_add ⟨h1, h2⟩]
theorem bi_sub (h : x - y = w) (h1 : -2147483648 ≤ w) (h2 : w ≤ 2147483647) : sm_bin 1 x y = some w := by
  subst h
  show some _ = some _
  rw [ar_sub ⟨h1, h2⟩]
theorem bi_mul (h : x * y = w) (h1 : -2147483648 ≤ w) (h2 : w ≤ 2147483647) : sm_bin 2 x y = some w := by
  subst h
  show some _ = some _
  rw [ar_mul ⟨h1, h2⟩]
theorem bi_msk {m : Int} {k : Nat} (hk : k ≤ 31 ∧ m = 2 ^ k - 1) : sm_bin 3 x m = some (x % 2 ^ k) := by
  rw [hk.2]
  show some _ = some _
  rw [bt_mask hk.1]
theorem bi_shl {k : Nat} (hk : k < 32) (h : x * 2 ^ k = w) (h1 : -2147483648 ≤ w) (h2 : w ≤ 2147483647) : sm_bin 6 x (k : Nat) = some w := by
  subst h
  show some _ = some _
  rw [bs_shl hk ⟨h1, h2⟩]
theorem bi_shr {k : Nat} (hk : k < 32) (h1 : -2147483648 ≤ x) (h2 : x ≤ 2147483647) : sm_bin 7 x (k : Nat) = some (x / 2 ^ k) := by
  show some _ = some _
  rw [bs_shr hk ⟨h1, h2⟩]
theorem bi_n0 (hy0 : 0 < y) (hy : y ≤ 2147483647) : ¬ Int32.ofInt y = 0 := by
  intro h
  have h : Int32.ofInt y = Int32.ofInt 0 := h
  rw [sm_eq ⟨by omega, by omega⟩ sm_n0] at h
  omega
theorem bi_div (hx0 : 0 ≤ x) (hx : x ≤ 2147483647) (hy0 : 0 < y) (hy : y ≤ 2147483647) : sm_bin 8 x y = some (x / y) := by
  show (if Int32.ofInt y = 0 then none else some _) = some _
  rw [if_neg (bi_n0 hy0 hy), bs_div hx0 hx hy0 hy]
theorem bi_rem (hx0 : 0 ≤ x) (hx : x ≤ 2147483647) (hy0 : 0 < y) (hy : y ≤ 2147483647) : sm_bin 9 x y = some (x % y) := by
  show (if Int32.ofInt y = 0 then none else some _) = some _
  rw [if_neg (bi_n0 hy0 hy), bs_rem hx0 hx hy0 hy]
theorem sm_mx_d (x y : Int) : x ≤ sm_mx x y ∧ y ≤ sm_mx x y ∧ (sm_mx x y = x ∨ sm_mx x y = y) := by unfold sm_mx; split <;> omega
theorem sm_mn_d (x y : Int) : sm_mn x y ≤ x ∧ sm_mn x y ≤ y ∧ (sm_mn x y = x ∨ sm_mn x y = y) := by unfold sm_mn; split <;> omega
end UA
section UT
variable {P : sm_P} {d mid pc n0 a b e : Nat} {z : Int} {L : sm_L} {r st : List sm_V} {S : sm_S} {Q : sm_R → Prop} {t i n : Nat} {k x y v w : Int}
theorem sm_T_bin (hx : P.1 mid pc = some (9, n0, a, b, e, z)) (hw : sm_bin a x y = some w) (k : sm_T P d mid (pc + n0, L, .inl w :: r, S) Q) : sm_T P d mid (pc, L, .inl y :: .inl x :: r, S) Q := sm_T_stp hx (Nat.le_of_ble_eq_true rfl) (by simp only [sm_stp, hw]; rfl) k
theorem sm_T_inc (hx : P.1 mid pc = some (8, n0, a, b, e, z)) (hL : L.getD a none = some (.inl v)) (hw : v + z = w) (h1 : -2147483648 ≤ w) (h2 : w ≤ 2147483647) (k : sm_T P d mid (pc + n0, sm_s1 L a (.inl w), st, S) Q) : sm_T P d mid (pc, L, st, S) Q := by
  refine sm_T_stp hx (Nat.le_of_ble_eq_true rfl) ?_ k
  simp only [sm_stp, hL]
  rw [ar_add (by subst hw; exact ⟨h1, h2⟩), hw]
theorem sm_T_neg (hx : P.1 mid pc = some (13, n0, 4, b, e, z)) (hw : - x = w) (h1 : -2147483648 ≤ w) (h2 : w ≤ 2147483647) (k : sm_T P d mid (pc + n0, L, .inl w :: r, S) Q) : sm_T P d mid (pc, L, .inl x :: r, S) Q := by
  refine sm_T_stp hx (Nat.le_of_ble_eq_true rfl) ?_ k
  simp only [sm_stp]
  show some (pc + n0, L, (.inl (-(Int32.ofInt x)).toInt : sm_V) :: r, S) = _
  have : (-(Int32.ofInt x)).toInt = w := by
    rw [← Int32.ofInt_neg, hw, sm_ti ⟨h1, h2⟩]
  rw [this]
theorem sm_narz (hv : v = 0 ∨ v = 1) : (vp_nar .boolean (Int32.ofInt v)).toInt = v := by rcases hv with rfl | rfl <;> decide
theorem sm_T_zas1 (hx : P.1 mid pc = some (35, n0, a, b, e, z)) (hkd : sh_kd t = (3, 2, n)) (h0 : 0 ≤ k) (h1 : k < n) (hv : x = 0 ∨ x = 1) (kk : sm_T P d mid (pc + 1, L, r, sm_aI S t i k.toNat x) Q) : sm_T P d mid (pc, L, .inl x :: .inl k :: .inr (.inr (some (t, i))) :: r, S) Q :=
  sm_T_zast hx hkd h0 h1 (by rw [sm_narz hv]; exact kk)
theorem nt_acI {sc : Nat × (Nat → Int)} {t' i' n1 : Nat} {m : Int} (hk : sh_kd t = (1, 0, n)) (hk1 : sh_kd t' = (1, 0, n1)) (h0 : 0 ≤ x) (h1 : 0 ≤ y) (h2 : 0 ≤ m) (h3 : x + m ≤ n) (h4 : y + m ≤ n1) : mt_nat sc 2 [.inr (.inr (some (t, i))), .inl x, .inr (.inr (some (t', i'))), .inl y, .inl m] S = some (none, sm_acI S t i t' i' x.toNat y.toNat m.toNat) := by
  unfold mt_nat
  rw [if_pos rfl]
  simp only [hk, hk1]
  rw [if_pos (by simp [h0, h1, h2, h3, h4])]
  rfl
theorem nt_acL {sc : Nat × (Nat → Int)} {t' i' n1 : Nat} {m : Int} (hk : sh_kd t = (4, 3, n)) (hk1 : sh_kd t' = (4, 3, n1)) (h0 : 0 ≤ x) (h1 : 0 ≤ y) (h2 : 0 ≤ m) (h3 : x + m ≤ n) (h4 : y + m ≤ n1) : mt_nat sc 2 [.inr (.inr (some (t, i))), .inl x, .inr (.inr (some (t', i'))), .inl y, .inl m] S = some (none, sm_acL S t i t' i' x.toNat y.toNat m.toNat) := by
  unfold mt_nat
  rw [if_pos rfl]
  simp only [hk, hk1]
  rw [if_pos (by simp [h0, h1, h2, h3, h4])]
  rfl
theorem gi_ac {t' i' a b m : Nat} (hG : gi S) (h1 : (cap_A t').1 ≤ (cap_A t).1) (h2 : (cap_A t).2 ≤ (cap_A t').2) : gi (sm_acI S t i t' i' a b m) := by
  refine ⟨hG.1, fun t2 i2 k2 => ?_⟩
  show (cap_A t2).1 ≤ (if t2 = t' ∧ i2 = i' then sm_cp (S.2.2.1 t i) (S.2.2.1 t' i') a b m else S.2.2.1 t2 i2) k2 ∧ (if t2 = t' ∧ i2 = i' then sm_cp (S.2.2.1 t i) (S.2.2.1 t' i') a b m else S.2.2.1 t2 i2) k2 ≤ (cap_A t2).2
  split
  · rename_i q
    obtain ⟨rfl, rfl⟩ := q
    unfold sm_cp
    split
    · have := hG.2 t i (a + (k2 - b))
      omega
    · exact hG.2 t2 i2 k2
  · exact hG.2 t2 i2 k2
theorem fr_ac {W : ai_W} {t' i' a b m : Nat} (h : W.2.1 t' = true) : ai_fr W S (sm_acI S t i t' i' a b m) := ⟨fun _ _ _ _ => rfl, fun _ _ _ _ => rfl, fun t2 q i2 k2 => ⟨by
  rw [sm_acI_ne (fun g => by obtain ⟨rfl, rfl⟩ := g; rw [h] at q; cases q)], rfl⟩⟩
theorem fr_acL {W : ai_W} {t' i' a b m : Nat} (h : W.2.1 t' = true) : ai_fr W S (sm_acL S t i t' i' a b m) := ⟨fun _ _ _ _ => rfl, fun _ _ _ _ => rfl, fun t2 q i2 k2 => ⟨rfl, by
  show (if t2 = t' ∧ i2 = i' then sm_cp (S.2.2.2 t i) (S.2.2.2 t' i') a b m else S.2.2.2 t2 i2) k2 = _
  rw [if_neg (fun g => by obtain ⟨rfl, rfl⟩ := g; rw [h] at q; cases q)]⟩⟩
theorem sm_swd {lo : Int} {ts : List Nat} {df : Nat} (h' : x < lo ∨ lo + (ts.length : Nat) ≤ x) : (if x < lo then none else ts[(x - lo).toNat]?).getD df = df := by
  by_cases q : x < lo
  · rw [if_pos q]; rfl
  · rw [if_neg q]
    rcases h' with h' | h'
    · omega
    · rw [List.getElem?_eq_none (by omega)]; rfl
theorem rd_ff {t' i' k' t i k : Nat} {z : Int} : (sm_pI S t i k z).1 t' i' k' = if t' = t ∧ i' = i ∧ k' = k then z else S.1 t' i' k' := rfl
theorem rd_fa {t i k : Nat} {z : Int} : (sm_pI S t i k z).2.2.1 = S.2.2.1 := rfl
theorem rd_af {t i k : Nat} {z : Int} : (sm_aI S t i k z).1 = S.1 := rfl
theorem rd_aa {t' i' k' t i k : Nat} {z : Int} : (sm_aI S t i k z).2.2.1 t' i' k' = if t' = t ∧ i' = i ∧ k' = k then z else S.2.2.1 t' i' k' := rfl
theorem rd_eq {i k' t k : Nat} {z : Int} : (sm_aI S t i k z).2.2.1 t i k' = if k' = k then z else S.2.2.1 t i k' := by
  rw [rd_aa]
  by_cases q : k' = k
  · rw [if_pos ⟨rfl, rfl, q⟩, if_pos q]
  · rw [if_neg (fun h => q h.2.2), if_neg q]
theorem rd_ne {t' i' k' t i k : Nat} {z : Int} (h : t' ≠ t) : (sm_aI S t i k z).2.2.1 t' i' k' = S.2.2.1 t' i' k' := by
  rw [rd_aa, if_neg (fun q => h q.1)]
theorem rf_eq {t i k : Nat} {z : Int} : (sm_pI S t i k z).1 t i k = z := by rw [rd_ff, if_pos ⟨rfl, rfl, rfl⟩]
theorem rf_nk {t' i' k' t i k : Nat} {z : Int} (h : k' ≠ k) : (sm_pI S t i k z).1 t' i' k' = S.1 t' i' k' := by rw [rd_ff, if_neg (fun q => h q.2.2)]
theorem rf_nt {t' i' k' t i k : Nat} {z : Int} (h : t' ≠ t) : (sm_pI S t i k z).1 t' i' k' = S.1 t' i' k' := by rw [rd_ff, if_neg (fun q => h q.1)]
theorem rd_fl {t i k : Nat} {z : Int} : (sm_pI S t i k z).2.2.2 = S.2.2.2 := rfl
theorem rd_al {t i k : Nat} {z : Int} : (sm_aI S t i k z).2.2.2 = S.2.2.2 := rfl
theorem rd_lf {t i k : Nat} {z : Int} : (sm_aL S t i k z).1 = S.1 := rfl
theorem rd_la {t i k : Nat} {z : Int} : (sm_aL S t i k z).2.2.1 = S.2.2.1 := rfl
theorem rd_ll {t' i' k' t i k : Nat} {z : Int} : (sm_aL S t i k z).2.2.2 t' i' k' = if t' = t ∧ i' = i ∧ k' = k then z else S.2.2.2 t' i' k' := rfl
theorem rd_fr {t i k : Nat} {z : Int} : (sm_pI S t i k z).2.1 = S.2.1 := rfl
theorem rd_ar {t i k : Nat} {z : Int} : (sm_aI S t i k z).2.1 = S.2.1 := rfl
end UT
end
/-! 99.u2 -/
section
/-! shifts by a number, counting -/
theorem i_shl1 {e : Int} (h0 : 0 ≤ e) (h1 : e ≤ 30) : i_shl 1 e = 2 ^ e.toNat := by
  obtain ⟨k, rfl⟩ : ∃ k : Nat, e = (k : Int) := ⟨e.toNat, by omega⟩
  have hp : (2 : Nat) ^ k ≤ 2 ^ 30 := Nat.pow_le_pow_right (by decide) (by omega)
  have hp1 : (2 : Int) ^ k = ((2 ^ k : Nat) : Int) := by push_cast; rfl
  have hp2 : (2 : Int) ^ k ≤ 2 ^ 30 := by rw [hp1]; exact_mod_cast hp
  have hp3 : (0 : Int) ≤ 2 ^ k := by rw [hp1]; exact Int.natCast_nonneg _
  have hp4 : (2 : Int) ^ k ≤ 1073741824 := hp2
  have := bs_shl (k := k) (x := 1) (by omega) ⟨by omega, by omega⟩
  unfold i_shl
  rw [this, Int.toNat_natCast, Int.one_mul]
theorem i_shrv {x e : Int} (h0 : 0 ≤ e) (h1 : e ≤ 31) (hx : -2147483648 ≤ x ∧ x ≤ 2147483647) : i_shr x e = x / 2 ^ e.toNat := by
  obtain ⟨k, rfl⟩ : ∃ k : Nat, e = (k : Int) := ⟨e.toNat, by omega⟩
  have := bs_shr (k := k) (x := x) (by omega) hx
  unfold i_shr
  rw [this, Int.toNat_natCast]
theorem pw_pos (n : Nat) : (0 : Int) < 2 ^ n := by
  have : 0 < (2 : Nat) ^ n := Nat.pow_pos (by decide)
  exact_mod_cast this
theorem pw_le {n m : Nat} (h : n ≤ m) : (2 : Int) ^ n ≤ 2 ^ m := by
  have : (2 : Nat) ^ n ≤ 2 ^ m := Nat.pow_le_pow_right (by decide) h
  exact_mod_cast this
theorem pw_add (n m : Nat) : (2 : Int) ^ (n + m) = 2 ^ n * 2 ^ m := Int.pow_add 2 n m
/-- x below 2 to the a + b: its part above the lowest a bits is below 2 to the b -/
theorem shr_lt {x a b : Int} (hx : 0 ≤ x) (ha : 0 ≤ a) (hb : 0 ≤ b) (h : x < 2 ^ (a + b).toNat) : 0 ≤ x / 2 ^ a.toNat ∧ x / 2 ^ a.toNat < 2 ^ b.toNat := by
  have e : (a + b).toNat = a.toNat + b.toNat := by omega
  rw [e, pw_add] at h
  refine ⟨Int.ediv_nonneg hx (Int.le_of_lt (pw_pos _)), ?_⟩
  rw [Int.ediv_lt_iff_lt_mul (pw_pos _), Int.mul_comm]
  exact h
def cn1 (f : Nat → Int) : Nat → Nat
  | 0 => 0
  | n + 1 => cn1 f n + if f n = 1 then 1 else 0
theorem cn1_le (f : Nat → Int) : ∀ n, cn1 f n ≤ n
  | 0 => Nat.le_refl _
  | n + 1 => by
    have := cn1_le f n
    unfold cn1
    split <;> omega
theorem cn1_cg {f g : Nat → Int} : ∀ {n : Nat}, (∀ k, k < n → f k = g k) → cn1 f n = cn1 g n
  | 0, _ => rfl
  | n + 1, h => by
    unfold cn1
    rw [cn1_cg (fun k hk => h k (by omega)), h n (by omega)]
theorem cn1_up {f g : Nat → Int} {j : Nat} (h0 : f j ≠ 1) (h1 : g j = 1) (hg : ∀ k, k ≠ j → g k = f k) : ∀ {n : Nat}, j < n → cn1 g n = cn1 f n + 1
  | 0, h => absurd h (Nat.not_lt_zero _)
  | n + 1, h => by
    unfold cn1
    by_cases q : j = n
    · subst q
      rw [cn1_cg (fun k hk => hg k (by omega)), if_pos h1, if_neg h0]
    · rw [cn1_up h0 h1 hg (by omega), hg n (fun e => q e.symm)]
      omega
/-- with a place that is not 1 there are less than n -/
theorem cn1_lt {f : Nat → Int} {j : Nat} (h0 : f j ≠ 1) : ∀ {n : Nat}, j < n → cn1 f n < n
  | 0, h => absurd h (Nat.not_lt_zero _)
  | n + 1, h => by
    unfold cn1
    by_cases q : j = n
    · subst q
      have := cn1_le f j
      rw [if_neg h0]
      omega
    · have := cn1_lt h0 (n := n) (by omega)
      split <;> omega
/-- just one place is 1 -/
theorem cn1_one {f : Nat → Int} {j : Nat} (h : ∀ k, f k = 1 ↔ k = j) : ∀ n, cn1 f n = if j < n then 1 else 0
  | 0 => rfl
  | n + 1 => by
    unfold cn1
    rw [cn1_one h n]
    by_cases q : n = j
    · subst q
      rw [if_pos ((h n).mpr rfl), if_neg (by omega), if_pos (by omega)]
    · rw [if_neg (fun e => q ((h n).mp e))]
      by_cases g : j < n
      · rw [if_pos g, if_pos (by omega)]
      · rw [if_neg g, if_neg (by omega)]
/-! a call that returns or throws, where no handler is -/
theorem sm_T_calx {P : sm_P} {d d1 mid pc n0 a b v : Nat} {z : Int} {L : sm_L} {st : List sm_V} {S : sm_S} {Q : sm_R → Prop} {Q1 : Option sm_V → sm_S → Prop} {Q2 : sm_S → Prop} (hx : P.1 mid pc = some (40, n0, a, b, v, z))
    (hc : (L.length = (P.2.1 mid).2 && (st.take b).length = b && ((st.drop b).map sm_cat).sum ≤ 8 && (v = 1 || sm_rcv (P.2.1 a).1 (st.take b).reverse) && (sm_vsl (st.take b).reverse).length ≤ (P.2.1 a).2) = true)
    (hd : d1 ≤ d) (hsub : sm_T P d1 a (0, sm_ent (P.2.1 a).2 (st.take b).reverse, [], S) (fun r => (∃ u S1, r = (.inl u, S1, 0) ∧ Q1 u S1) ∨ ∃ S1, r = (.inr 2, S1, 1) ∧ Q2 S1))
    (hh : P.2.2.1 mid = []) (kx : ∀ S1, Q2 S1 → Q (.inr 2, S1, 1))
    (kn : ∀ u S1, Q1 u S1 → sm_T P (d + 1) mid (pc + 3, L, u.toList ++ st.drop b, S1) Q) : sm_T P (d + 1) mid (pc, L, st, S) Q := by
  refine sm_T_call hx hc (hsub.deep hd) (fun u S1 k1 q => ?_) (fun ex S1 k1 q => ?_)
  · rcases q with ⟨u', S1', e, q⟩ | ⟨S1', e, q⟩
    · cases e
      exact (kn _ _ q).mono (fun r h => by rw [sm_add_0]; exact h)
    · cases e
  · rcases q with ⟨u', S1', e, q⟩ | ⟨S1', e, q⟩
    · cases e
    · cases e
      rw [hh]
      exact ⟨rfl, kx _ q⟩
theorem fr_arr {W : ai_W} {S S' : sm_S} {t i : Nat} (h : ai_fr W S S') (ht : W.2.1 t = false) : S'.2.2.1 t i = S.2.2.1 t i := funext fun k => (h.2.2 t ht i k).1
theorem fr_arl {W : ai_W} {S S' : sm_S} {t i : Nat} (h : ai_fr W S S') (ht : W.2.1 t = false) : S'.2.2.2 t i = S.2.2.2 t i := funext fun k => (h.2.2 t ht i k).2
end
/-! 99.u3 -/
section
/-! texts: blanks, names, numbers, signs -/
abbrev lx_l (c : Int) : Prop := (97 ≤ c ∧ c ≤ 122) ∨ (65 ≤ c ∧ c ≤ 90) ∨ c = 95
abbrev lx_g (c : Int) : Prop := 48 ≤ c ∧ c ≤ 57
abbrev lx_x (c : Int) : Prop := lx_l c ∨ lx_g c
def lx_s (b : Nat → Int) (n : Nat) : Nat → Bool → Nat → Nat
  | 0, _, p => p
  | f + 1, cm, p => if p < n then (if b p = 35 then lx_s b n f true (p + 1) else if b p = 10 then lx_s b n f false (p + 1) else if cm = true ∨ b p = 9 ∨ b p = 13 ∨ b p = 32 then lx_s b n f cm (p + 1) else p) else p
/-- behind blanks and comments -/
def lx_k (b : Nat → Int) (n p : Nat) : Nat := lx_s b n (n - p) false p
theorem lx_s_end {b : Nat → Int} {n p f : Nat} {cm : Bool} (h : n ≤ p) : lx_s b n f cm p = p := by
  cases f with
  | zero => rfl
  | succ f => unfold lx_s; rw [if_neg (by omega)]
/-- one step -/
theorem lx_s_go {b : Nat → Int} {n p : Nat} {cm : Bool} (h : p < n) : lx_s b n (n - p) cm p = if b p = 35 then lx_s b n (n - (p + 1)) true (p + 1) else if b p = 10 then lx_s b n (n - (p + 1)) false (p + 1) else if cm = true ∨ b p = 9 ∨ b p = 13 ∨ b p = 32 then lx_s b n (n - (p + 1)) cm (p + 1) else p := by
  obtain ⟨f, e⟩ : ∃ f, n - p = f + 1 := ⟨n - p - 1, by omega⟩
  have e2 : n - (p + 1) = f := by omega
  rw [e, e2]
  conv => lhs; unfold lx_s
  rw [if_pos h]
theorem lx_s_le {b : Nat → Int} {n : Nat} : ∀ (f : Nat) (cm : Bool) (p : Nat), p ≤ n → p ≤ lx_s b n f cm p ∧ lx_s b n f cm p ≤ n
  | 0, _, p, h => ⟨Nat.le_refl _, h⟩
  | f + 1, cm, p, h => by
    unfold lx_s
    by_cases q : p < n
    · rw [if_pos q]
      have i1 := lx_s_le (b := b) f true (p + 1) q
      have i2 := lx_s_le (b := b) f false (p + 1) q
      have i3 := lx_s_le (b := b) f cm (p + 1) q
      split
      · omega
      · split
        · omega
        · split <;> omega
    · rw [if_neg q]
      omega
theorem lx_k_le {b : Nat → Int} {n p : Nat} (h : p ≤ n) : p ≤ lx_k b n p ∧ lx_k b n p ≤ n := lx_s_le _ _ _ h
/-- the end of a row of letters and digits -/
def lx_e (b : Nat → Int) (n : Nat) : Nat → Nat → Nat
  | 0, p => p
  | f + 1, p => if p < n ∧ lx_x (b p) then lx_e b n f (p + 1) else p
def lx_ne (b : Nat → Int) (n p : Nat) : Nat := lx_e b n (n - p) p
theorem lx_e_go {b : Nat → Int} {n p : Nat} : lx_ne b n p = if p < n ∧ lx_x (b p) then lx_ne b n (p + 1) else p := by
  unfold lx_ne
  by_cases h : p < n
  · obtain ⟨f, e⟩ : ∃ f, n - p = f + 1 := ⟨n - p - 1, by omega⟩
    have e2 : n - (p + 1) = f := by omega
    rw [e, e2]
    conv => lhs; unfold lx_e
  · rw [if_neg (by omega)]
    have : n - p = 0 := by omega
    rw [this]
    rfl
theorem lx_e_le {b : Nat → Int} {n : Nat} : ∀ (f p : Nat), p ≤ n → p ≤ lx_e b n f p ∧ lx_e b n f p ≤ n
  | 0, p, h => ⟨Nat.le_refl _, h⟩
  | f + 1, p, h => by
    unfold lx_e
    split
    · rename_i q
      have := lx_e_le (b := b) f (p + 1) q.1
      omega
    · omega
theorem lx_ne_le {b : Nat → Int} {n p : Nat} (h : p ≤ n) : p ≤ lx_ne b n p ∧ lx_ne b n p ≤ n := lx_e_le _ _ h
/-- the end of a row of digits -/
def lx_f (b : Nat → Int) (n : Nat) : Nat → Nat → Nat
  | 0, p => p
  | f + 1, p => if p < n ∧ lx_g (b p) then lx_f b n f (p + 1) else p
def lx_de (b : Nat → Int) (n p : Nat) : Nat := lx_f b n (n - p) p
theorem lx_f_go {b : Nat → Int} {n p : Nat} : lx_de b n p = if p < n ∧ lx_g (b p) then lx_de b n (p + 1) else p := by
  unfold lx_de
  by_cases h : p < n
  · obtain ⟨f, e⟩ : ∃ f, n - p = f + 1 := ⟨n - p - 1, by omega⟩
    have e2 : n - (p + 1) = f := by omega
    rw [e, e2]
    conv => lhs; unfold lx_f
  · rw [if_neg (by omega)]
    have : n - p = 0 := by omega
    rw [this]
    rfl
theorem lx_f_le {b : Nat → Int} {n : Nat} : ∀ (f p : Nat), p ≤ n → p ≤ lx_f b n f p ∧ lx_f b n f p ≤ n
  | 0, p, h => ⟨Nat.le_refl _, h⟩
  | f + 1, p, h => by
    unfold lx_f
    split
    · rename_i q
      have := lx_f_le (b := b) f (p + 1) q.1
      omega
    · omega
theorem lx_de_le {b : Nat → Int} {n p : Nat} (h : p ≤ n) : p ≤ lx_de b n p ∧ lx_de b n p ≤ n := lx_f_le _ _ h
/-- the number of the first k digits -/
def lx_v (b : Nat → Int) (p : Nat) : Nat → Int
  | 0 => 0
  | k + 1 => 10 * lx_v b p k + b (p + k) - 48
/-- letters packed by sevens, eight at most -/
def lx_pk (b : Nat → Int) (p : Nat) : Nat → Int
  | 0 => 0
  | k + 1 => if k < 8 then l_4 (l_s0 (lx_pk b p k) 7) (l_i2l (b (p + k))) else 0
def lx_ws : List Int := [3775219463781, 13550, 1833716, 1782516, 1880807, 1931749, 209286764]
/-- which word, 3 and on, or 1 -/
def lx_wk (x : Int) : Nat → Int
  | 0 => 1
  | k + 1 => if x = lx_ws.getD k 0 then 3 + k else lx_wk x k
theorem lx_wk_b (x : Int) : ∀ k, 1 ≤ lx_wk x k ∧ lx_wk x k ≤ 2 + k
  | 0 => ⟨Int.le_refl 1, by show (1 : Int) ≤ 2 + 0; omega⟩
  | k + 1 => by
    have := lx_wk_b x k
    unfold lx_wk
    split
    · push_cast; omega
    · push_cast; omega
abbrev lx_sg (c : Int) : Prop := c = 40 ∨ c = 41 ∨ c = 123 ∨ c = 125 ∨ c = 59 ∨ c = 44 ∨ c = 61 ∨ c = 46 ∨ c = 58 ∨ c = 38 ∨ c = 124 ∨ c = 94 ∨ c = 33 ∨ c = 43 ∨ c = 63 ∨ c = 64
theorem lx_sg_ix {x : Int} : lx_sg x ↔ 0 ≤ mt_ix mt_sgn x 0 := by
  unfold mt_sgn
  simp only [mt_ix]
  repeat' split
  all_goals first | omega | (constructor <;> intro h <;> omega)
theorem i_i2c_s {x : Int} (h0 : 0 ≤ x) (h1 : x ≤ 127) : i_i2c x = x := by
  obtain ⟨k, rfl⟩ : ∃ k : Nat, x = (k : Int) := ⟨x.toNat, by omega⟩
  have : ∀ k : Nat, k < 128 → i_i2c (k : Int) = (k : Int) := by decide
  exact this k (by omega)
/-- a letter, by its lower form -/
theorem lx_or {x : Int} (h0 : -128 ≤ x) (h1 : x ≤ 127) : (97 ≤ i_or x 32 ∧ i_or x 32 ≤ 122) ↔ (97 ≤ x ∧ x ≤ 122) ∨ (65 ≤ x ∧ x ≤ 90) := by
  obtain ⟨k, rfl⟩ : ∃ k : Nat, x = (k : Int) - 128 := ⟨(x + 128).toNat, by omega⟩
  have : ∀ k : Nat, k < 256 → ((97 ≤ i_or ((k : Int) - 128) 32 ∧ i_or ((k : Int) - 128) 32 ≤ 122) ↔ (97 ≤ ((k : Int) - 128) ∧ ((k : Int) - 128) ≤ 122) ∨ (65 ≤ ((k : Int) - 128) ∧ ((k : Int) - 128) ≤ 90)) := by decide +kernel
  exact this k (by omega)
/-! static rows -/
def st_at (j : Nat) (x : Int) : Int := ((sm_stv.getD j [])[x.toNat]?).getD 0
theorem nt_st0 {sc : Nat × (Nat → Int)} {S : sm_S} {j n : Nat} {x : Int} (hj : j < 10) (hl : (sm_stv.getD j []).length = n) (h0 : 0 ≤ x) (h1 : x < n) : mt_nat sc (320 + j) [.inr (.inr (some (296 + j, 0))), .inl x] S = some (some (if sm_stl j then .inr (.inl (st_at j x)) else .inl (st_at j x)), S) := by
  have e1 : 320 + j - 320 = j := by omega
  unfold mt_nat
  rw [if_neg (by omega), if_neg (by omega), if_neg (by omega), if_neg (by omega), if_neg (by omega), if_neg (by omega), if_neg (by omega), if_neg (by omega), if_neg (by omega), if_pos (by omega)]
  simp only [e1]
  rw [if_pos (by simp [h0])]
  have hx : x.toNat < (sm_stv.getD j []).length := by rw [hl]; omega
  unfold st_at
  rw [List.getElem?_eq_getElem hx]
  rfl
theorem nt_stl {sc : Nat × (Nat → Int)} {S : sm_S} {j n : Nat} {x : Int} (hj : j < 10) (hs : sm_stl j = true) (hl : (sm_stv.getD j []).length = n) (h0 : 0 ≤ x) (h1 : x < n) : mt_nat sc (320 + j) [.inr (.inr (some (296 + j, 0))), .inl x] S = some (some (.inr (.inl (st_at j x))), S) := by
  rw [nt_st0 hj hl h0 h1, hs]
  rfl
theorem nt_st {sc : Nat × (Nat → Int)} {S : sm_S} {j n : Nat} {x : Int} (hj : j < 10) (hs : sm_stl j = false) (hl : (sm_stv.getD j []).length = n) (h0 : 0 ≤ x) (h1 : x < n) : mt_nat sc (320 + j) [.inr (.inr (some (296 + j, 0))), .inl x] S = some (some (.inl (st_at j x)), S) := by
  rw [nt_st0 hj hl h0 h1, hs]
  rfl
theorem nt_sg {sc : Nat × (Nat → Int)} {S : sm_S} {x : Int} (h0 : 0 ≤ x) (h1 : x < 65536) : mt_nat sc 10 [.inr (.inr (some (301, 0))), .inl x] S = some (some (.inl (mt_ix mt_sgn x 0)), S) := by
  unfold mt_nat
  rw [if_neg (by decide), if_neg (by decide), if_neg (by decide), if_pos rfl]
  simp [h0, h1]
theorem st_ws : ∀ k : Nat, k < 7 → st_at 0 (k : Int) = lx_ws.getD k 0 := by decide +kernel
theorem lcmp0 {x y : Int} : sm_lcmp x y = 0 ↔ x = y := by
  unfold sm_lcmp
  split
  · constructor <;> intro h <;> omega
  · split
    · constructor <;> intro h <;> omega
    · constructor <;> intro h <;> omega
theorem lx_v_b {b : Nat → Int} {p : Nat} : ∀ {k : Nat}, k ≤ 6 → (∀ j, j < k → lx_g (b (p + j))) → 0 ≤ lx_v b p k ∧ lx_v b p k < 10 ^ k
  | 0, _, _ => ⟨Int.le_refl 0, by show (0 : Int) < 1; omega⟩
  | k + 1, hk, h => by
    have i := lx_v_b (k := k) (by omega) (fun j hj => h j (by omega))
    have g := h k (by omega)
    unfold lx_v
    rw [Int.pow_succ]
    omega
theorem lx_v_c {b : Nat → Int} {p k : Nat} (hk : k < 6) (h4 : ∀ j, j < k → lx_g (b (p + j))) (g : lx_g (b (p + k))) : 0 ≤ 10 * lx_v b p k + b (p + k) - 48 ∧ 10 * lx_v b p k + b (p + k) - 48 ≤ 999999 := by
  have hw := lx_v_b (b := b) (p := p) (k := k + 1) (by omega) (fun j hj => by
    by_cases q : j = k
    · rw [q]; exact g
    · exact h4 j (by omega))
  have hw2 : (10 : Int) ^ (k + 1) ≤ 10 ^ 6 := by exact_mod_cast Nat.pow_le_pow_right (by decide) (show k + 1 ≤ 6 by omega)
  have hw3 : (10 : Int) ^ 6 = 1000000 := by decide
  unfold lx_v at hw
  omega
/-- a sign's kind, or 0; and where it ends -/
def lx_sk (b : Nat → Int) (n p : Nat) : Int := if b p = 60 ∧ p + 1 < n ∧ b (p + 1) = 45 then 256 else if b p = 61 ∧ p + 1 < n ∧ b (p + 1) = 61 then 257 else if lx_sg (b p) then b p else 0
def lx_sn (b : Nat → Int) (n p : Nat) : Nat := if b p = 60 ∧ p + 1 < n ∧ b (p + 1) = 45 then p + 2 else if b p = 61 ∧ p + 1 < n ∧ b (p + 1) = 61 then p + 2 else p + 1
theorem lx_sn_le {b : Nat → Int} {n p : Nat} (h : p < n) : p < lx_sn b n p ∧ lx_sn b n p ≤ n := by
  unfold lx_sn
  split
  · omega
  · split <;> omega
end
/-! 99.u4 -/
section
/-! tokens by their places: kind (0 the end, -1 bad, 1 a name, 2 a number, 3 .. 9 words, else a sign), end, size, value, the next one's place -/
def lx_kd (b : Nat → Int) (n p : Nat) : Int := if n ≤ p then 0 else if lx_l (b p) then (if lx_ne b n p - p ≤ 12 then lx_wk (lx_pk b p (lx_ne b n p - p)) 7 else -1) else if lx_g (b p) then (if lx_de b n p - p ≤ 6 then 2 else -1) else if lx_sk b n p = 0 then -1 else lx_sk b n p
def lx_en (b : Nat → Int) (n p : Nat) : Nat := if n ≤ p then p else if lx_l (b p) then lx_ne b n p else if lx_g (b p) then lx_de b n p else lx_sn b n p
def lx_sz (b : Nat → Int) (n p : Nat) : Nat := if n ≤ p then 0 else if lx_l (b p) then lx_ne b n p - p else if lx_g (b p) then lx_de b n p - p else 0
def lx_vl (b : Nat → Int) (n p : Nat) : Int := lx_v b p (min (lx_de b n p - p) 6)
def lx_nx (b : Nat → Int) (n p : Nat) : Nat := lx_k b n (lx_en b n p)
theorem lx_en_le {b : Nat → Int} {n p : Nat} (h : p ≤ n) : p ≤ lx_en b n p ∧ lx_en b n p ≤ n := by
  have h1 := lx_ne_le (b := b) h
  have h2 := lx_de_le (b := b) h
  unfold lx_en
  split
  · omega
  · rename_i q
    have h3 := lx_sn_le (b := b) (show p < n by omega)
    split
    · omega
    · split <;> omega
theorem lx_nx_le {b : Nat → Int} {n p : Nat} (h : p ≤ n) : p ≤ lx_nx b n p ∧ lx_nx b n p ≤ n := by
  have h1 := lx_en_le (b := b) h
  have h2 := lx_k_le (b := b) h1.2
  unfold lx_nx
  omega
theorem lx_wk_7 (x : Int) : 1 ≤ lx_wk x 7 ∧ lx_wk x 7 ≤ 9 ∧ lx_wk x 7 ≠ 2 := by
  have h := lx_wk_b x 7
  refine ⟨h.1, h.2, ?_⟩
  simp only [lx_wk]
  repeat' split
  all_goals decide
theorem lx_sk_b {b : Nat → Int} {n p : Nat} : lx_sk b n p = 0 ∨ 33 ≤ lx_sk b n p := by
  unfold lx_sk
  split
  · omega
  · split
    · omega
    · split
      · rename_i h; right; rcases h with h | h | h | h | h | h | h | h | h | h | h | h | h | h | h | h <;> omega
      · left; rfl
/-- errors: a code and a place; or what comes of it -/
abbrev pE (α : Type) : Type := (Int × Nat) ⊕ α
def pb {α β : Type} (x : pE α) (f : α → pE β) : pE β := match x with
  | .inl e => .inl e
  | .inr a => f a
/-- the next token is taken -/
def p_ad (b : Nat → Int) (n p : Nat) : pE Nat := if lx_kd b n (lx_nx b n p) = -1 then .inl (1, lx_nx b n p) else .inr (lx_nx b n p)
def p_nd (b : Nat → Int) (n : Nat) (w : Int) (p : Nat) : pE Nat := if lx_kd b n p = w then p_ad b n p else .inl (2, p)
/-- the class's token at hand is that at p -/
def ct (b : Nat → Int) (n p : Nat) (S : sm_S) : Prop := S.2.2.1 98 0 = b ∧ S.1 10 0 1 = (n : Int) ∧ n ≤ 1280 ∧ p ≤ n ∧ lx_kd b n p ≠ -1 ∧ S.1 10 0 3 = (p : Int) ∧ S.1 10 0 8 = (lx_en b n p : Nat) ∧ S.1 10 0 2 = lx_kd b n p ∧ S.1 10 0 4 = (lx_sz b n p : Nat) ∧ (lx_kd b n p = 2 → S.1 10 0 5 = lx_vl b n p)
def ter (S : sm_S) (e : Int × Nat) : Prop := S.1 10 0 6 = e.1 ∧ S.1 10 0 7 = (e.2 : Int)
/-! rows of longs, bytes that are stored -/
theorem rd_leq {S : sm_S} {i k' t k : Nat} {z : Int} : (sm_aL S t i k z).2.2.2 t i k' = if k' = k then z else S.2.2.2 t i k' := by
  rw [rd_ll]
  by_cases q : k' = k
  · rw [if_pos ⟨rfl, rfl, q⟩, if_pos q]
  · rw [if_neg (fun h => q h.2.2), if_neg q]
theorem rd_lne {S : sm_S} {t' i' k' t i k : Nat} {z : Int} (h : t' ≠ t) : (sm_aL S t i k z).2.2.2 t' i' k' = S.2.2.2 t' i' k' := by
  rw [rd_ll, if_neg (fun q => h q.1)]
theorem sm_narb {x : Int} (hv : -128 ≤ x ∧ x ≤ 127) : (vp_nar .byte (Int32.ofInt x)).toInt = x := by
  obtain ⟨k, rfl⟩ : ∃ k : Nat, x = (k : Int) - 128 := ⟨(x + 128).toNat, by omega⟩
  have : ∀ k : Nat, k < 256 → (vp_nar .byte (Int32.ofInt ((k : Int) - 128))).toInt = (k : Int) - 128 := by decide +kernel
  exact this k (by omega)
theorem sm_T_bas1 {P : sm_P} {d mid pc n0 a b e : Nat} {z : Int} {L : sm_L} {r : List sm_V} {S : sm_S} {Q : sm_R → Prop} {t i n : Nat} {k x : Int} (hx : P.1 mid pc = some (34, n0, a, b, e, z)) (hkd : sh_kd t = (2, 1, n)) (h0 : 0 ≤ k) (h1 : k < n) (hv : -128 ≤ x ∧ x ≤ 127) (kk : sm_T P d mid (pc + 1, L, r, sm_aI S t i k.toNat x) Q) : sm_T P d mid (pc, L, .inl x :: .inl k :: .inr (.inr (some (t, i))) :: r, S) Q :=
  sm_T_bast hx hkd h0 h1 (by rw [sm_narb hv]; exact kk)
/-! the reference's tokens -/
def rb (b : Nat → Int) (n k : Nat) : Int := if k < n then b k % 256 else -1
theorem rb_l {b : Nat → Int} {n k : Nat} (hb : -128 ≤ b k ∧ b k ≤ 127) : lx_l (rb b n k) ↔ k < n ∧ lx_l (b k) := by
  unfold rb
  split
  · constructor <;> intro h <;> omega
  · constructor <;> intro h <;> omega
theorem rb_g {b : Nat → Int} {n k : Nat} (hb : -128 ≤ b k ∧ b k ≤ 127) : lx_g (rb b n k) ↔ k < n ∧ lx_g (b k) := by
  unfold rb
  split
  · constructor <;> intro h <;> omega
  · constructor <;> intro h <;> omega
/-- a small character -/
theorem rb_c {b : Nat → Int} {n k : Nat} {c : Int} (hb : -128 ≤ b k ∧ b k ≤ 127) (hc : 0 ≤ c ∧ c ≤ 127) : rb b n k = c ↔ k < n ∧ b k = c := by
  unfold rb
  split
  · constructor <;> intro h <;> omega
  · constructor <;> intro h <;> omega
def r_so (kd : Int) : Int := if kd = -1 then 4 else if kd = 1 then 1 else if kd = 2 then 2 else if kd ≤ 9 then 6 else 3
def r_nu (kd vl : Int) : Int := if kd = 1 then 0 else if kd = 2 then vl else if kd ≤ 9 then kd - 2 else kd
end
/-! 99.u5 -/
section
/-! letters packed by sevens and by eights -/
theorem lt_nat (v : Int64) : ((v.toBitVec).toNat : Int) = v.toInt % 18446744073709551616 := by
  have h : v.toInt = v.toBitVec.toInt := rfl
  rw [h, BitVec.toInt_eq_toNat_cond]
  have := v.toBitVec.isLt
  split <;> omega
theorem lt_of (z : Int) : ((Int64.ofInt z).toBitVec.toNat : Int) = z % 18446744073709551616 := by
  rw [lt_nat, Int64.toInt_ofInt]
  exact Int.bmod_emod (m := 18446744073709551616)
theorem lt_low {v : Int64} {n : Nat} (h : v.toBitVec.toNat = n) (hn : n < 9223372036854775808) : v.toInt = (n : Int) := by
  have h1 : v.toInt = v.toBitVec.toInt := rfl
  rw [h1, BitVec.toInt_eq_toNat_of_lt (by omega), h]
theorem l_or_nat {x y : Int} (hx0 : 0 ≤ x) (hx : x < 9223372036854775808) (hy0 : 0 ≤ y) (hy : y < 9223372036854775808) : l_4 x y = ((x.toNat ||| y.toNat : Nat) : Int) := by
  unfold l_4
  have e : (Int64.ofInt x ||| Int64.ofInt y).toBitVec.toNat = (Int64.ofInt x).toBitVec.toNat ||| (Int64.ofInt y).toBitVec.toNat := by rw [Int64.toBitVec_or, BitVec.toNat_or]
  have h1 := lt_of x
  have h2 := lt_of y
  have e1 : (Int64.ofInt x).toBitVec.toNat = x.toNat := by omega
  have e2 : (Int64.ofInt y).toBitVec.toNat = y.toNat := by omega
  rw [e1, e2] at e
  have hle : x.toNat ||| y.toNat < 2 ^ 63 := Nat.or_lt_two_pow (by omega) (by omega)
  exact lt_low e (by omega)
/-- the lower part beside a multiple -/
theorem l_or_add {x y : Int} {s : Nat} (hx0 : 0 ≤ x) (hy0 : 0 ≤ y) (hy : y < 2 ^ s) (hs : x + y < 9223372036854775808) (hd : ((2 : Int) ^ s) ∣ x) : l_4 x y = x + y := by
  rw [l_or_nat hx0 (by omega) hy0 (by omega)]
  obtain ⟨c, hc⟩ := hd
  have hp : (0 : Int) < 2 ^ s := pw_pos s
  have hc0 : 0 ≤ c := by
    by_cases q : 0 ≤ c
    · exact q
    · exfalso
      have : (2 : Int) ^ s * c < 0 := Int.mul_neg_of_pos_of_neg hp (by omega)
      omega
  obtain ⟨m, rfl⟩ : ∃ m : Nat, c = (m : Int) := ⟨c.toNat, by omega⟩
  have hpn : (2 : Int) ^ s = ((2 ^ s : Nat) : Int) := by push_cast; rfl
  have e1 : x.toNat = m <<< s := by
    rw [Nat.shiftLeft_eq, Nat.mul_comm]
    rw [hc, hpn]
    rw [← Int.natCast_mul, Int.toNat_natCast]
  have hyn : y.toNat < 2 ^ s := by
    have : ((y.toNat : Nat) : Int) < ((2 ^ s : Nat) : Int) := by rw [← hpn]; omega
    exact_mod_cast this
  rw [e1, ← Nat.shiftLeft_add_eq_or_of_lt hyn, ← e1]
  omega
theorem l_i2l_s {x : Int} (h0 : -2147483648 ≤ x) (h1 : x ≤ 2147483647) : l_i2l x = x := by
  unfold l_i2l
  rw [Int32.toInt_toInt64, sm_ti ⟨h0, h1⟩]
theorem l_amt : ∀ k, k < 64 → (((Int32.ofInt (k : Nat)).toInt64 &&& 63).toBitVec.smod 64).toNat = k := by decide +kernel
theorem l_shl {k : Nat} {x : Int} (hk : k < 64) (h0 : 0 ≤ x) (hr : x * 2 ^ k < 9223372036854775808) : l_s0 x (k : Nat) = x * 2 ^ k := by
  have hp : (0 : Int) < 2 ^ k := pw_pos k
  have hm : 0 ≤ x * 2 ^ k := Int.mul_nonneg h0 (by omega)
  have hx : x ≤ x * 2 ^ k := by
    have := Int.mul_le_mul_of_nonneg_left (show (1 : Int) ≤ 2 ^ k by omega) h0
    omega
  have h1 : (Int64.ofInt x <<< ((Int32.ofInt (k : Nat)).toInt64 &&& 63)).toBitVec.toNat = ((Int64.ofInt x).toBitVec <<< (((Int32.ofInt (k : Nat)).toInt64 &&& 63).toBitVec.smod 64).toNat).toNat := rfl
  rw [l_amt k hk, BitVec.toNat_shiftLeft, Nat.shiftLeft_eq] at h1
  have h3 := lt_of x
  have e1 : (Int64.ofInt x).toBitVec.toNat = x.toNat := by omega
  rw [e1] at h1
  have e2 : ((x.toNat * 2 ^ k : Nat) : Int) = x * 2 ^ k := by
    rw [Int.natCast_mul]
    rw [Int.toNat_of_nonneg h0]
    push_cast
    rfl
  have e3 : x.toNat * 2 ^ k < 2 ^ 63 := by
    have : ((x.toNat * 2 ^ k : Nat) : Int) < ((2 ^ 63 : Nat) : Int) := by rw [e2]; exact hr
    exact_mod_cast this
  rw [Nat.mod_eq_of_lt (by omega)] at h1
  unfold l_s0
  rw [lt_low h1 (by omega), e2]
/-- digits, the first one highest -/
def dg (B : Int) (f : Nat → Int) : Nat → Int
  | 0 => 0
  | i + 1 => B * dg B f i + f i
theorem dg_b {B : Int} {f : Nat → Int} (hB : 0 < B) : ∀ {i : Nat}, (∀ j, j < i → 0 ≤ f j ∧ f j < B) → 0 ≤ dg B f i ∧ dg B f i < B ^ i
  | 0, _ => ⟨Int.le_refl 0, by rw [Int.pow_zero]; show (0 : Int) < 1; omega⟩
  | i + 1, h => by
    have h1 := dg_b hB (i := i) (fun j hj => h j (by omega))
    have h2 := h i (by omega)
    unfold dg
    have a1 : 0 ≤ B * dg B f i := Int.mul_nonneg (by omega) h1.1
    have a2 : B * (dg B f i + 1) ≤ B * B ^ i := Int.mul_le_mul_of_nonneg_left (by omega) (by omega)
    rw [Int.mul_add, Int.mul_one] at a2
    rw [Int.pow_succ, Int.mul_comm (B ^ i) B]
    omega
theorem dg_inj {B : Int} {f g : Nat → Int} (hB : 0 < B) : ∀ {i : Nat}, (∀ j, j < i → 0 ≤ f j ∧ f j < B) → (∀ j, j < i → 0 ≤ g j ∧ g j < B) → dg B f i = dg B g i → ∀ j, j < i → f j = g j
  | 0, _, _, _, j, hj => absurd hj (Nat.not_lt_zero _)
  | i + 1, hf, hg, h, j, hj => by
    unfold dg at h
    have f1 := hf i (by omega)
    have g1 := hg i (by omega)
    have e1 : f i = g i := by
      have a := congrArg (· % B) h
      simp only [Int.mul_add_emod_self_left] at a
      rw [Int.emod_eq_of_lt f1.1 f1.2, Int.emod_eq_of_lt g1.1 g1.2] at a
      exact a
    have e2 : dg B f i = dg B g i := by
      rw [e1] at h
      exact Int.eq_of_mul_eq_mul_left (by omega) (show B * dg B f i = B * dg B g i by omega)
    by_cases q : j = i
    · rw [q]; exact e1
    · exact dg_inj hB (fun j hj => hf j (by omega)) (fun j hj => hg j (by omega)) e2 j (by omega)
theorem lx_pk_v {b : Nat → Int} {p : Nat} : ∀ {k : Nat}, k ≤ 8 → (∀ j, j < k → 0 ≤ b (p + j) ∧ b (p + j) < 128) → lx_pk b p k = dg 128 (fun j => b (p + j)) k
  | 0, _, _ => rfl
  | k + 1, hk, h => by
    have i1 := lx_pk_v (k := k) (by omega) (fun j hj => h j (by omega))
    have h1 := dg_b (B := 128) (f := fun j => b (p + j)) (by decide) (i := k) (fun j hj => h j (by omega))
    have h2 := h k (by omega)
    have h3 : (128 : Int) ^ k ≤ 128 ^ 7 := by exact_mod_cast Nat.pow_le_pow_right (by decide) (show k ≤ 7 by omega)
    have h4 : (128 : Int) ^ 7 = 562949953421312 := by decide
    unfold lx_pk dg
    rw [if_pos (by omega), i1, l_i2l_s (by omega) (by omega)]
    have e1 : l_s0 (dg 128 (fun j => b (p + j)) k) 7 = dg 128 (fun j => b (p + j)) k * 2 ^ 7 := l_shl (k := 7) (by decide) h1.1 (by omega)
    rw [e1, l_or_add (s := 7) (by omega) h2.1 (by have : (2 : Int) ^ 7 = 128 := by decide
                                                  omega) (by omega) ⟨dg 128 (fun j => b (p + j)) k, by omega⟩]
    omega
theorem rk_step {D c : Int} {s : Nat} (hs : s < 64) (hc0 : 0 ≤ c) (hc : c < 128) (hD : 0 ≤ D) (hb : (256 * D + c) * 2 ^ s < 9223372036854775808) : l_4 (D * 2 ^ (s + 8)) (l_s0 c (s : Nat)) = (256 * D + c) * 2 ^ s := by
  have hp : (0 : Int) < 2 ^ s := pw_pos s
  have e0 : (2 : Int) ^ (s + 8) = 256 * 2 ^ s := by rw [pw_add, Int.mul_comm]; rfl
  have e1 : (256 * D + c) * 2 ^ s = D * (256 * 2 ^ s) + c * 2 ^ s := by rw [Int.add_mul, Int.mul_comm 256 D, Int.mul_assoc]
  have h1 : 0 ≤ c * 2 ^ s := Int.mul_nonneg hc0 (by omega)
  have h2 : 0 ≤ D * (256 * 2 ^ s) := Int.mul_nonneg hD (by omega)
  have h3 : c * 2 ^ s ≤ 127 * 2 ^ s := Int.mul_le_mul_of_nonneg_right (by omega) (by omega)
  rw [l_shl hs hc0 (by omega), e0, l_or_add (s := s + 8) h2 h1 (by rw [e0]; omega) (by omega) (by rw [e0]; exact ⟨D, Int.mul_comm _ _⟩), e1]
theorem dg_h {f : Nat → Int} : ∀ {i : Nat}, (∀ j, j < i → 0 ≤ f j ∧ f j < 128) → 2 * dg 256 f i + 1 ≤ 256 ^ i
  | 0, _ => by show (2 : Int) * 0 + 1 ≤ 1; omega
  | i + 1, h => by
    have h1 := dg_h (i := i) (fun j hj => h j (by omega))
    have h2 := h i (by omega)
    unfold dg
    rw [Int.pow_succ]
    omega
/-- the reference's first eight letters, the next four -/
def rk1 (b : Nat → Int) (p : Nat) : Nat → Int
  | 0 => 0
  | i + 1 => if i < 8 then l_4 (rk1 b p i) (l_s0 (l_i2l (b (p + i))) (56 - 8 * i)) else rk1 b p i
def rk2 (b : Nat → Int) (p : Nat) : Nat → Int
  | 0 => 0
  | i + 1 => if 8 ≤ i ∧ i < 12 then i_or (rk2 b p i) (i_shl (b (p + i)) (24 - 8 * (i - 8))) else rk2 b p i
theorem rk1_v {b : Nat → Int} {p : Nat} : ∀ {i : Nat}, i ≤ 8 → (∀ j, j < i → 0 ≤ b (p + j) ∧ b (p + j) < 128) → rk1 b p i = dg 256 (fun j => b (p + j)) i * 2 ^ (64 - 8 * i)
  | 0, _, _ => by show (0 : Int) = 0 * _; rw [Int.zero_mul]
  | i + 1, hi, h => by
    have i1 := rk1_v (i := i) (by omega) (fun j hj => h j (by omega))
    have h1 := dg_b (B := 256) (f := fun j => b (p + j)) (by decide) (i := i) (fun j hj => by have := h j (by omega); omega)
    have h2 := h i (by omega)
    have h3 := dg_h (f := fun j => b (p + j)) (i := i + 1) h
    obtain ⟨s, hs⟩ : ∃ s : Nat, s = 56 - 8 * i := ⟨_, rfl⟩
    have e1 : (56 : Int) - 8 * (i : Int) = (s : Nat) := by omega
    have e2 : 64 - 8 * i = s + 8 := by omega
    have e3 : 64 - 8 * (i + 1) = s := by omega
    have e4 : (256 : Int) ^ (i + 1) * 2 ^ s = 18446744073709551616 := by
      have a1 : (256 : Int) = 2 ^ 8 := by decide
      rw [a1, ← Int.pow_mul, ← pw_add, show 8 * (i + 1) + s = 64 by omega]
      decide
    unfold dg at h3 ⊢
    conv => lhs; unfold rk1
    rw [if_pos (by omega), i1, l_i2l_s (by omega) (by omega), e1, e2, e3]
    refine rk_step (by omega) h2.1 h2.2 h1.1 ?_
    have hp : (0 : Int) < 2 ^ s := pw_pos s
    have a2 : (2 * (256 * dg 256 (fun j => b (p + j)) i + b (p + i)) + 1) * 2 ^ s ≤ 256 ^ (i + 1) * 2 ^ s := Int.mul_le_mul_of_nonneg_right h3 (by omega)
    rw [e4, Int.add_mul, Int.mul_assoc] at a2
    omega
theorem rk1_8 {b : Nat → Int} {p : Nat} : ∀ {i : Nat}, 8 ≤ i → rk1 b p i = rk1 b p 8
  | 0, h => by omega
  | i + 1, h => by
    by_cases q : i + 1 = 8
    · rw [q]
    · conv => lhs; unfold rk1
      rw [if_neg (by omega)]
      exact rk1_8 (by omega)
/-- eight digits, those behind a name's end are 0 -/
def f8 (b : Nat → Int) (p L j : Nat) : Int := if j < L then b (p + j) else 0
theorem dg_cg {B : Int} {f g : Nat → Int} : ∀ {i : Nat}, (∀ j, j < i → f j = g j) → dg B f i = dg B g i
  | 0, _ => rfl
  | i + 1, h => by
    unfold dg
    rw [dg_cg (fun j hj => h j (by omega)), h i (by omega)]
theorem dg_z {B : Int} {f : Nat → Int} {L : Nat} : ∀ {i : Nat}, L ≤ i → (∀ j, L ≤ j → j < i → f j = 0) → dg B f i = dg B f L * B ^ (i - L)
  | 0, h, _ => by
    have : L = 0 := by omega
    subst this
    show (0 : Int) = 0 * _
    rw [Int.zero_mul]
  | i + 1, h, hz => by
    by_cases q : L = i + 1
    · subst q
      rw [Nat.sub_self, Int.pow_zero, Int.mul_one]
    · conv => lhs; unfold dg
      rw [dg_z (i := i) (by omega) (fun j a c => hz j a (by omega)), hz i (by omega) (by omega), show i + 1 - L = (i - L) + 1 by omega, Int.pow_succ]
      rw [Int.add_zero, Int.mul_comm B, Int.mul_assoc]
theorem rk1_f {b : Nat → Int} {p L : Nat} (h : ∀ j, j < L → 0 ≤ b (p + j) ∧ b (p + j) < 128) : rk1 b p L = dg 256 (f8 b p L) 8 := by
  by_cases q : L ≤ 8
  · rw [rk1_v q h, dg_z (L := L) q (fun j a _ => by unfold f8; exact if_neg (by omega)), dg_cg (f := f8 b p L) (g := fun j => b (p + j)) (fun j hj => by unfold f8; exact if_pos hj)]
    have a1 : (256 : Int) = 2 ^ 8 := by decide
    conv => rhs; rw [a1]
    rw [← Int.pow_mul, show 8 * (8 - L) = 64 - 8 * L by omega]
    rfl
  · rw [rk1_8 (by omega), rk1_v (Nat.le_refl 8) (fun j hj => h j (by omega))]
    rw [dg_cg (f := f8 b p L) (g := fun j => b (p + j)) (fun j hj => by unfold f8; exact if_pos (by omega))]
    show _ * (1 : Int) = _
    rw [Int.mul_one]
theorem i_or_add {x y : Int} {s : Nat} (hx0 : 0 ≤ x) (hy0 : 0 ≤ y) (hy : y < 2 ^ s) (hs : x + y ≤ 2147483647) (hd : ((2 : Int) ^ s) ∣ x) : i_or x y = x + y := by
  have h0 : i_or x y = ((x.toNat ||| y.toNat : Nat) : Int) := bt_or_nat hx0 (by omega) hy0 (by omega)
  rw [h0]
  obtain ⟨c, hc⟩ := hd
  have hp : (0 : Int) < 2 ^ s := pw_pos s
  have hc0 : 0 ≤ c := by
    by_cases q : 0 ≤ c
    · exact q
    · exfalso
      have : (2 : Int) ^ s * c < 0 := Int.mul_neg_of_pos_of_neg hp (by omega)
      omega
  obtain ⟨m, rfl⟩ : ∃ m : Nat, c = (m : Int) := ⟨c.toNat, by omega⟩
  have hpn : (2 : Int) ^ s = ((2 ^ s : Nat) : Int) := by push_cast; rfl
  have e1 : x.toNat = m <<< s := by
    rw [Nat.shiftLeft_eq, Nat.mul_comm]
    rw [hc, hpn]
    rw [← Int.natCast_mul, Int.toNat_natCast]
  have hyn : y.toNat < 2 ^ s := by
    have : ((y.toNat : Nat) : Int) < ((2 ^ s : Nat) : Int) := by rw [← hpn]; omega
    exact_mod_cast this
  rw [e1, ← Nat.shiftLeft_add_eq_or_of_lt hyn, ← e1]
  omega
theorem rk2_step {D c : Int} {s : Nat} (hs : s < 32) (hc0 : 0 ≤ c) (hc : c < 128) (hD : 0 ≤ D) (hb : (256 * D + c) * 2 ^ s ≤ 2147483647) : i_or (D * 2 ^ (s + 8)) (i_shl c (s : Nat)) = (256 * D + c) * 2 ^ s := by
  have hp : (0 : Int) < 2 ^ s := pw_pos s
  have e0 : (2 : Int) ^ (s + 8) = 256 * 2 ^ s := by rw [pw_add, Int.mul_comm]; rfl
  have e1 : (256 * D + c) * 2 ^ s = D * (256 * 2 ^ s) + c * 2 ^ s := by rw [Int.add_mul, Int.mul_comm 256 D, Int.mul_assoc]
  have h1 : 0 ≤ c * 2 ^ s := Int.mul_nonneg hc0 (by omega)
  have h2 : 0 ≤ D * (256 * 2 ^ s) := Int.mul_nonneg hD (by omega)
  have h3 : c * 2 ^ s ≤ 127 * 2 ^ s := Int.mul_le_mul_of_nonneg_right (by omega) (by omega)
  have e2 : i_shl c (s : Nat) = c * 2 ^ s := bs_shl hs ⟨by omega, by omega⟩
  rw [e2, e0, i_or_add (s := s + 8) h2 h1 (by rw [e0]; omega) (by omega) (by rw [e0]; exact ⟨D, Int.mul_comm _ _⟩), e1]
theorem rk2_0 {b : Nat → Int} {p : Nat} : ∀ {i : Nat}, i ≤ 8 → rk2 b p i = 0
  | 0, _ => rfl
  | i + 1, h => by
    unfold rk2
    rw [if_neg (by omega)]
    exact rk2_0 (by omega)
theorem rk2_v {b : Nat → Int} {p : Nat} : ∀ {i : Nat}, i ≤ 4 → (∀ j, j < i → 0 ≤ b (p + 8 + j) ∧ b (p + 8 + j) < 128) → rk2 b p (8 + i) = dg 256 (fun j => b (p + 8 + j)) i * 2 ^ (32 - 8 * i)
  | 0, _, _ => by rw [rk2_0 (by omega)]; show (0 : Int) = 0 * _; rw [Int.zero_mul]
  | i + 1, hi, h => by
    have i1 := rk2_v (i := i) (by omega) (fun j hj => h j (by omega))
    have h1 := dg_b (B := 256) (f := fun j => b (p + 8 + j)) (by decide) (i := i) (fun j hj => by have := h j (by omega); omega)
    have h2 := h i (by omega)
    have h3 := dg_h (f := fun j => b (p + 8 + j)) (i := i + 1) h
    obtain ⟨s, hs⟩ : ∃ s : Nat, s = 24 - 8 * i := ⟨_, rfl⟩
    have e1 : (24 : Int) - 8 * (((8 + i : Nat) : Int) - 8) = (s : Nat) := by omega
    have e2 : 32 - 8 * i = s + 8 := by omega
    have e3 : 32 - 8 * (i + 1) = s := by omega
    have e4 : (256 : Int) ^ (i + 1) * 2 ^ s = 4294967296 := by
      have a1 : (256 : Int) = 2 ^ 8 := by decide
      rw [a1, ← Int.pow_mul, ← pw_add, show 8 * (i + 1) + s = 32 by omega]
      decide
    rw [show 8 + (i + 1) = (8 + i) + 1 by omega]
    unfold dg at h3 ⊢
    conv => lhs; unfold rk2
    rw [if_pos (by omega), i1, e1, e2, e3, show p + (8 + i) = p + 8 + i by omega]
    refine rk2_step (by omega) h2.1 h2.2 h1.1 ?_
    have hp : (0 : Int) < 2 ^ s := pw_pos s
    have a2 : (2 * (256 * dg 256 (fun j => b (p + 8 + j)) i + b (p + 8 + i)) + 1) * 2 ^ s ≤ 256 ^ (i + 1) * 2 ^ s := Int.mul_le_mul_of_nonneg_right h3 (by omega)
    rw [e4, Int.add_mul, Int.mul_assoc] at a2
    omega
theorem rk2_f {b : Nat → Int} {p L : Nat} (hL : L ≤ 12) (h : ∀ j, j < L → 0 ≤ b (p + j) ∧ b (p + j) < 128) : rk2 b p L = dg 256 (fun j => f8 b p L (8 + j)) 4 := by
  by_cases q : L ≤ 8
  · rw [rk2_0 q]
    have : dg 256 (fun j => f8 b p L (8 + j)) 4 = dg 256 (fun _ => 0) 4 := dg_cg (fun j hj => by show f8 b p L (8 + j) = 0; unfold f8; exact if_neg (by omega))
    rw [this]
    rfl
  · obtain ⟨i, rfl⟩ : ∃ i, L = 8 + i := ⟨L - 8, by omega⟩
    rw [rk2_v (i := i) (by omega) (fun j hj => by have := h (8 + j) (by omega); rw [← Nat.add_assoc] at this; exact this)]
    rw [dg_z (L := i) (i := 4) (by omega) (fun j a _ => by show f8 b p _ (8 + j) = 0; unfold f8; exact if_neg (by omega))]
    rw [dg_cg (f := fun j => f8 b p (8 + i) (8 + j)) (g := fun j => b (p + 8 + j)) (fun j hj => by show f8 b p _ (8 + j) = _; unfold f8; rw [if_pos (by omega), ← Nat.add_assoc])]
    have a1 : (256 : Int) = 2 ^ 8 := by decide
    conv => rhs; rw [a1]
    rw [← Int.pow_mul, show 8 * (4 - i) = 32 - 8 * i by omega]
    rfl
/-- two names are the same if both numbers are -/
theorem rk_eq {b : Nat → Int} {p q L M : Nat} (hL : L ≤ 12) (hM : M ≤ 12) (h : ∀ j, j < L → 1 ≤ b (p + j) ∧ b (p + j) < 128) (g : ∀ j, j < M → 1 ≤ b (q + j) ∧ b (q + j) < 128) : (rk1 b p L = rk1 b q M ∧ rk2 b p L = rk2 b q M) ↔ (L = M ∧ ∀ j, j < L → b (p + j) = b (q + j)) := by
  have h' : ∀ j, j < L → 0 ≤ b (p + j) ∧ b (p + j) < 128 := fun j hj => by have := h j hj; omega
  have g' : ∀ j, j < M → 0 ≤ b (q + j) ∧ b (q + j) < 128 := fun j hj => by have := g j hj; omega
  have bp : ∀ j, 0 ≤ f8 b p L j ∧ f8 b p L j < 256 := fun j => by
    unfold f8
    split
    · rename_i hj; have := h j hj; omega
    · omega
  have bq : ∀ j, 0 ≤ f8 b q M j ∧ f8 b q M j < 256 := fun j => by
    unfold f8
    split
    · rename_i hj; have := g j hj; omega
    · omega
  rw [rk1_f h', rk1_f g', rk2_f hL h', rk2_f hM g']
  constructor
  · rintro ⟨e1, e2⟩
    have d1 := dg_inj (by decide) (fun j _ => bp j) (fun j _ => bq j) e1
    have d2 := dg_inj (by decide) (fun j _ => bp (8 + j)) (fun j _ => bq (8 + j)) e2
    have d : ∀ j, j < 12 → f8 b p L j = f8 b q M j := fun j hj => by
      by_cases c : j < 8
      · exact d1 j c
      · have := d2 (j - 8) (by omega)
        rw [show 8 + (j - 8) = j by omega] at this
        exact this
    have hLM : L = M := by
      by_cases c : L < M
      · exfalso
        have := d L (by omega)
        have hg := g L c
        unfold f8 at this
        rw [if_neg (by omega), if_pos c] at this
        omega
      · by_cases c2 : M < L
        · exfalso
          have := d M (by omega)
          have hh := h M c2
          unfold f8 at this
          rw [if_pos c2, if_neg (by omega)] at this
          omega
        · omega
    refine ⟨hLM, fun j hj => ?_⟩
    have := d j (by omega)
    unfold f8 at this
    rw [if_pos hj, if_pos (by omega)] at this
    exact this
  · rintro ⟨rfl, e⟩
    have d : ∀ j, f8 b p L j = f8 b q L j := fun j => by
      unfold f8
      split
      · rename_i hj; exact e j hj
      · rfl
    exact ⟨dg_cg (fun j _ => d j), dg_cg (fun j _ => d (8 + j))⟩
theorem dg_lo {B : Int} {f : Nat → Int} (hB : 0 < B) : ∀ {i : Nat}, (∀ j, j < i + 1 → 1 ≤ f j ∧ f j < B) → B ^ i ≤ dg B f (i + 1)
  | 0, h => by
    have := h 0 (by omega)
    rw [Int.pow_zero]
    show (1 : Int) ≤ B * 0 + f 0
    omega
  | i + 1, h => by
    have h1 := dg_lo hB (i := i) (fun j hj => h j (by omega))
    have h2 := h (i + 1) (by omega)
    unfold dg
    have : B * B ^ i ≤ B * dg B f (i + 1) := Int.mul_le_mul_of_nonneg_left h1 (by omega)
    rw [Int.pow_succ, Int.mul_comm]
    omega
theorem dg_len {B : Int} {f g : Nat → Int} {L M : Nat} (hB : 1 < B) (hf : ∀ j, j < L → 1 ≤ f j ∧ f j < B) (hg : ∀ j, j < M → 1 ≤ g j ∧ g j < B) (e : dg B f L = dg B g M) : L = M := by
  have key : ∀ {f g : Nat → Int} {L M : Nat}, (∀ j, j < L → 1 ≤ f j ∧ f j < B) → (∀ j, j < M → 1 ≤ g j ∧ g j < B) → L < M → dg B f L < dg B g M := by
    intro f g L M hf hg hlt
    obtain ⟨m, rfl⟩ : ∃ m, M = m + 1 := ⟨M - 1, by omega⟩
    have a1 := (dg_b (B := B) (f := f) (by omega) (i := L) (fun j hj => by have := hf j hj; omega)).2
    have a2 := dg_lo (B := B) (f := g) (by omega) (i := m) hg
    have a3 : B ^ L ≤ B ^ m := by
      obtain ⟨c, rfl⟩ : ∃ c : Nat, B = (c : Int) := ⟨B.toNat, by omega⟩
      exact_mod_cast Nat.pow_le_pow_right (by omega) (show L ≤ m by omega)
    omega
  by_cases c : L < M
  · have := key hf hg c; omega
  · by_cases c2 : M < L
    · have := key hg hf c2; omega
    · omega
abbrev wsp (b : Nat → Int) (p L : Nat) (l : List Int) : Prop := L = l.length ∧ ∀ j, j < L → b (p + j) = l.getD j 0
def wch : List (List Int) := [[109, 111, 100, 117, 108, 101], [105, 110], [111, 117, 116], [108, 101, 116], [114, 101, 103], [117, 115, 101], [99, 101, 108, 108]]
/-- a word's number in the reference -/
def wcs : List Int := [7885631928041537536, 7597009621420605440, 8031453053833969664, 7810776672092815360, 8243107942669221888, 8463219175433699328, 7162249993514909696]
def wo (x : Int) : Nat → Int
  | 0 => 0
  | k + 1 => if x = wcs.getD (7 - (k + 1)) 0 then 7 - k else wo x k
theorem wch_b : ∀ k, k < 7 → ∀ j, j < (wch.getD k []).length → 1 ≤ (wch.getD k []).getD j 0 ∧ (wch.getD k []).getD j 0 < 128 := by decide +kernel
theorem wch_l : ∀ k, k < 7 → (wch.getD k []).length ≤ 8 := by decide +kernel
theorem wch_7 : ∀ k, k < 7 → lx_ws.getD k 0 = dg 128 (fun j => (wch.getD k []).getD j 0) (wch.getD k []).length := by decide +kernel
theorem wch_8 : ∀ k, k < 7 → wcs.getD k 0 = dg 256 (fun j => (wch.getD k []).getD j 0) 8 := by decide +kernel
section WRD
variable {b : Nat → Int} {p L : Nat}
theorem w_cls {k : Nat} (hk : k < 7) (h : ∀ j, j < L → 1 ≤ b (p + j) ∧ b (p + j) < 128) : lx_pk b p L = lx_ws.getD k 0 ↔ wsp b p L (wch.getD k []) := by
  have hb := wch_b k hk
  by_cases q : L ≤ 8
  · rw [lx_pk_v q (fun j hj => by have := h j hj; omega), wch_7 k hk]
    constructor
    · intro e
      have hl := dg_len (by decide) h hb e
      refine ⟨hl, fun j hj => ?_⟩
      rw [← hl] at e
      exact dg_inj (by decide) (fun j hj => by have := h j hj; omega) (fun j hj => by have := hb j (by omega); omega) e j hj
    · rintro ⟨hl, e⟩
      rw [← hl]
      exact dg_cg e
  · constructor
    · intro e
      exfalso
      obtain ⟨m, rfl⟩ : ∃ m, L = m + 1 := ⟨L - 1, by omega⟩
      unfold lx_pk at e
      rw [if_neg (by omega)] at e
      have : ∀ k, k < 7 → (0 : Int) ≠ lx_ws.getD k 0 := by decide +kernel
      exact this k hk e
    · rintro ⟨hl, _⟩
      have := wch_l k hk
      omega
theorem w_ref {k : Nat} (hk : k < 7) (hL : L ≤ 12) (h : ∀ j, j < L → 1 ≤ b (p + j) ∧ b (p + j) < 128) : (rk2 b p L = 0 ∧ rk1 b p L = wcs.getD k 0) ↔ wsp b p L (wch.getD k []) := by
  have hb := wch_b k hk
  have hl8 := wch_l k hk
  have h' : ∀ j, j < L → 0 ≤ b (p + j) ∧ b (p + j) < 128 := fun j hj => by have := h j hj; omega
  have bp : ∀ j, 0 ≤ f8 b p L j ∧ f8 b p L j < 256 := fun j => by
    unfold f8
    split
    · rename_i hj; have := h j hj; omega
    · omega
  have bw : ∀ j, 0 ≤ (wch.getD k []).getD j 0 ∧ (wch.getD k []).getD j 0 < 256 := fun j => by
    by_cases q : j < (wch.getD k []).length
    · have := hb j q; omega
    · rw [List.getD_eq_getElem?_getD, List.getElem?_eq_none (by omega)]
      decide
  have bz : ∀ j, (wch.getD k []).length ≤ j → (wch.getD k []).getD j 0 = 0 := fun j hj => by
    rw [List.getD_eq_getElem?_getD, List.getElem?_eq_none hj]
    rfl
  have z4 : (0 : Int) = dg 256 (fun _ => 0) 4 := rfl
  rw [rk1_f h', rk2_f hL h', wch_8 k hk]
  constructor
  · rintro ⟨e2, e1⟩
    rw [z4] at e2
    have d1 := dg_inj (by decide) (fun j _ => bp j) (fun j _ => bw j) e1
    have d2 := dg_inj (by decide) (fun j _ => bp (8 + j)) (fun j _ => by decide) e2
    have hL8 : L ≤ 8 := by
      by_cases c : L ≤ 8
      · exact c
      · exfalso
        have := d2 0 (by omega)
        have hh := h 8 (by omega)
        unfold f8 at this
        rw [if_pos (by omega)] at this
        have : b (p + (8 + 0)) = 0 := this
        rw [Nat.add_zero] at this
        omega
    have hl : L = (wch.getD k []).length := by
      by_cases c : L < (wch.getD k []).length
      · exfalso
        have := d1 L (by omega)
        have hg := hb L c
        unfold f8 at this
        rw [if_neg (by omega)] at this
        omega
      · by_cases c2 : (wch.getD k []).length < L
        · exfalso
          have := d1 _ (show (wch.getD k []).length < 8 by omega)
          have hh := h _ c2
          rw [bz _ (Nat.le_refl _)] at this
          unfold f8 at this
          rw [if_pos c2] at this
          omega
        · omega
    refine ⟨hl, fun j hj => ?_⟩
    have := d1 j (by omega)
    unfold f8 at this
    rw [if_pos hj] at this
    exact this
  · rintro ⟨hl, e⟩
    refine ⟨?_, dg_cg (fun j _ => ?_)⟩
    · rw [z4]
      refine dg_cg (fun j _ => ?_)
      show f8 b p L (8 + j) = 0
      unfold f8
      exact if_neg (by omega)
    · unfold f8
      split
      · rename_i hj; exact e j hj
      · exact (bz j (by omega)).symm
/-- both sides see the same words -/
theorem w_both (hL : L ≤ 12) (h : ∀ j, j < L → 1 ≤ b (p + j) ∧ b (p + j) < 128) : (if rk2 b p L = 0 then wo (rk1 b p L) 7 else 0) = if lx_wk (lx_pk b p L) 7 = 1 then 0 else lx_wk (lx_pk b p L) 7 - 2 := by
  have a : ∀ k, k < 7 → ((rk2 b p L = 0 ∧ rk1 b p L = wcs.getD k 0) ↔ lx_pk b p L = lx_ws.getD k 0) := fun k hk => (w_ref hk hL h).trans (w_cls hk h).symm
  have dl : ∀ i, i < 7 → ∀ j, j < 7 → lx_ws.getD i 0 = lx_ws.getD j 0 → i = j := by decide +kernel
  generalize rk2 b p L = y at a ⊢
  generalize rk1 b p L = x at a ⊢
  generalize lx_pk b p L = z at a ⊢
  by_cases q : ∃ k, k < 7 ∧ z = lx_ws.getD k 0
  · obtain ⟨k, hk, hz⟩ := q
    have hx := (a k hk).mpr hz
    rw [if_pos hx.1, hx.2, hz]
    have : ∀ k, k < 7 → wo (wcs.getD k 0) 7 = if lx_wk (lx_ws.getD k 0) 7 = 1 then 0 else lx_wk (lx_ws.getD k 0) 7 - 2 := by decide +kernel
    exact this k hk
  · have hn : ∀ k, k < 7 → z ≠ lx_ws.getD k 0 := fun k hk e => q ⟨k, hk, e⟩
    have e1 : lx_wk z 7 = 1 := by
      have n0 := hn 0 (by decide); have n1 := hn 1 (by decide); have n2 := hn 2 (by decide); have n3 := hn 3 (by decide); have n4 := hn 4 (by decide); have n5 := hn 5 (by decide); have n6 := hn 6 (by decide)
      simp only [lx_wk]
      rw [if_neg n6, if_neg n5, if_neg n4, if_neg n3, if_neg n2, if_neg n1, if_neg n0]
    rw [e1, if_pos rfl]
    split
    · rename_i hy
      have hm : ∀ k, k < 7 → x ≠ wcs.getD k 0 := fun k hk e => hn k hk ((a k hk).mp ⟨hy, e⟩)
      have n0 := hm 0 (by decide); have n1 := hm 1 (by decide); have n2 := hm 2 (by decide); have n3 := hm 3 (by decide); have n4 := hm 4 (by decide); have n5 := hm 5 (by decide); have n6 := hm 6 (by decide)
      simp only [wo]
      rw [if_neg n0, if_neg n1, if_neg n2, if_neg n3, if_neg n4, if_neg n5, if_neg n6]
    · rfl
end WRD
end
/-! 99.v1 -/
section
/-! the class: names, numbers; written by wip/p55/gen/vg -/
/-! Text.skipBlanks -/
def vw_192 : sx_Wl := ([(10, 8)], [], [])
def vq_192 (b_ : Nat → Int) (n_ : Nat) (p_ : Nat) (S0_ : sm_S) (u_ : Option sm_V) (S1_ : sm_S) : Prop := u_ = none ∧ gi S1_ ∧ ai_fr (sx_W vw_192) S0_ S1_ ∧ ((S1_.1 10 0 8) = (lx_k b_ n_ p_ : Nat))
theorem vl_192 {sc_ : Nat × (Nat → Int)} (b_ : Nat → Int) (n_ : Nat) (p_ : Nat) (S0_ : sm_S) (hb_ : S0_.2.2.1 98 0 = b_) (hn_ : (S0_.1 10 0 1) = (n_ : Int)) (hn1_ : n_ ≤ 1280) (hp_ : (S0_.1 10 0 8) = (p_ : Int)) (hpn_ : p_ ≤ n_) : ∀ nn_ : Nat, (∀ (c_ : Int) (S_ : sm_S), gi S_ → ai_fr (sx_W vw_192) S0_ S_ → ((c_ = 0 ∨ c_ = 1) ∧ (∃ q_ : Nat, (S_.1 10 0 8) = (q_ : Int) ∧ q_ ≤ n_ ∧ lx_s b_ n_ (n_ - q_) (decide (c_ = 1)) q_ = lx_k b_ n_ p_) ∧ True) → (1300 - (S_.1 10 0 8).toNat) < nn_ → sm_T (mt_P sc_) 0 192 (2, [some (.inr (.inr (some (10, 0)))), some (.inl c_), none], [], S_) (fun r_ => ∃ u_ S1_, r_ = (.inl u_, S1_, 0) ∧ vq_192 b_ n_ p_ S0_ u_ S1_)) := by
  intro nn_
  induction nn_ with
  | zero => exact fun _ _ _ _ _ h_ => absurd h_ (Nat.not_lt_zero _)
  | succ nn_ ih_ =>
    rintro c_ S_ hI_ hF_ ⟨h0_, h1_, -⟩ hm_
    have hb1_ : S_.2.2.1 98 0 = b_ := (fr_arr hF_ rfl).trans hb_
    have hn2_ : (S_.1 10 0 1) = (n_ : Int) := (hF_.1 10 0 1 rfl).trans hn_
    obtain ⟨q_, hq_, hqn_, h2_⟩ := h1_
    have b1_ : 0 ≤ S_.1 10 0 8 ∧ S_.1 10 0 8 ≤ 1280 := hI_.1 10 0 8 rfl
    have b2_ : 0 ≤ S_.1 10 0 1 ∧ S_.1 10 0 1 ≤ 1280 := hI_.1 10 0 1 rfl
    refine sm_T_go 4 (c1 := (10, [some (.inr (.inr (some (10, 0)))), some (.inl c_), none], [.inl (S_.1 10 0 1), .inl (S_.1 10 0 8)], S_)) rfl ?_
    refine sm_T_br (a := 3) (z := 71) rfl (fun c3_ => ?_) (fun c3_ => ?_)
    · have c3_ : (S_.1 10 0 1) ≤ (S_.1 10 0 8) := of_decide_eq_true c3_
      refine sm_T_rv rfl ⟨_, _, rfl, rfl, hI_, hF_, ?_⟩
      rw [lx_s_end (by omega)] at h2_
      rw [← h2_]; exact hq_
    · have c3_ : ¬ ((S_.1 10 0 1) ≤ (S_.1 10 0 8)) := of_decide_eq_false c3_
      refine sm_T_go 4 (c1 := (21, [some (.inr (.inr (some (10, 0)))), some (.inl c_), none], [.inl (S_.1 10 0 8), .inr (.inr (some (98, 0)))], S_)) rfl ?_
      refine sm_T_bald (n := 65536) rfl rfl (by omega) (by omega) ?_
      have b4_ : (-128) ≤ S_.2.2.1 98 0 (S_.1 10 0 8).toNat ∧ S_.2.2.1 98 0 (S_.1 10 0 8).toNat ≤ 127 := hI_.2 98 0 _
      refine sm_T_go 3 (c1 := (26, [some (.inr (.inr (some (10, 0)))), some (.inl c_), some (.inl (S_.2.2.1 98 0 (S_.1 10 0 8).toNat))], [.inl 35, .inl (S_.2.2.1 98 0 (S_.1 10 0 8).toNat)], S_)) rfl ?_
      refine sm_T_br (a := 1) (z := 8) rfl (fun c5_ => ?_) (fun c5_ => ?_)
      · have c5_ : (S_.2.2.1 98 0 (S_.1 10 0 8).toNat) ≠ 35 := of_decide_eq_true c5_
        refine sm_T_go 2 (c1 := (37, [some (.inr (.inr (some (10, 0)))), some (.inl c_), some (.inl (S_.2.2.1 98 0 (S_.1 10 0 8).toNat))], [.inl 10, .inl (S_.2.2.1 98 0 (S_.1 10 0 8).toNat)], S_)) rfl ?_
        refine sm_T_br (a := 1) (z := 8) rfl (fun c6_ => ?_) (fun c6_ => ?_)
        · have c6_ : (S_.2.2.1 98 0 (S_.1 10 0 8).toNat) ≠ 10 := of_decide_eq_true c6_
          refine sm_T_go 1 (c1 := (46, [some (.inr (.inr (some (10, 0)))), some (.inl c_), some (.inl (S_.2.2.1 98 0 (S_.1 10 0 8).toNat))], [.inl c_], S_)) rfl ?_
          refine sm_T_b0 (a := 1) (z := 22) rfl (fun c7_ => ?_) (fun c7_ => ?_)
          · have c7_ : c_ ≠ 0 := of_decide_eq_true c7_
            refine sm_T_go 4 (c1 := (74, [some (.inr (.inr (some (10, 0)))), some (.inl c_), some (.inl (S_.2.2.1 98 0 (S_.1 10 0 8).toNat))], [.inl 1, .inl (S_.1 10 0 8), .inr (.inr (some (10, 0)))], S_)) rfl ?_
            refine sm_T_bin (w := (S_.1 10 0 8) + 1) rfl (bi_add (by omega) (by omega) (by omega)) ?_
            have hI8_ : gi (sm_pI S_ 10 0 8 ((S_.1 10 0 8) + 1)) := gi_pI hI_ (show 0 ≤ (S_.1 10 0 8) + 1 ∧ (S_.1 10 0 8) + 1 ≤ 1280 from ⟨by omega, by omega⟩)
            have hF9_ : ai_fr (sx_W vw_192) S0_ (sm_pI S_ 10 0 8 ((S_.1 10 0 8) + 1)) := ai_fr_tr hF_ (ai_fr_pI rfl)
            refine sm_T_go 2 (c1 := (2, [some (.inr (.inr (some (10, 0)))), some (.inl c_), some (.inl (S_.2.2.1 98 0 (S_.1 10 0 8).toNat))], [], sm_pI S_ 10 0 8 ((S_.1 10 0 8) + 1))) rfl ?_
            refine sm_T_wk [some (.inr (.inr (some (10, 0)))), some (.inl c_), none] (by exact ⟨rfl, rfl, trivial⟩) ?_
            refine ih_ c_ (sm_pI S_ 10 0 8 ((S_.1 10 0 8) + 1)) hI8_ hF9_ ⟨?_, ?_, trivial⟩ ?_
            · omega
            · refine ⟨q_ + 1, ?_, by omega, ?_⟩
              · (try simp only [rd_eq, rd_ne, rf_eq, rf_nk, rf_nt, rd_fa, rd_af, rd_fl, rd_al, rd_lf, rd_la, rd_leq, rd_lne, rd_fr, rd_ar, ne_eq, Nat.reduceEqDiff, not_false_eq_true]); push_cast; omega
              · rw [lx_s_go (by omega)] at h2_
                have e_ : (S_.1 10 0 8).toNat = q_ := by omega
                rw [e_, hb1_] at *
                simp_all
            · (try simp only [rd_eq, rd_ne, rf_eq, rf_nk, rf_nt, rd_fa, rd_af, rd_fl, rd_al, rd_lf, rd_la, rd_leq, rd_lne, rd_fr, rd_ar, ne_eq, Nat.reduceEqDiff, not_false_eq_true]); omega
          · have c7_ : ¬ (c_ ≠ 0) := of_decide_eq_false c7_
            refine sm_T_go 2 (c1 := (52, [some (.inr (.inr (some (10, 0)))), some (.inl c_), some (.inl (S_.2.2.1 98 0 (S_.1 10 0 8).toNat))], [.inl 9, .inl (S_.2.2.1 98 0 (S_.1 10 0 8).toNat)], S_)) rfl ?_
            refine sm_T_br (a := 0) (z := 16) rfl (fun c10_ => ?_) (fun c10_ => ?_)
            · have c10_ : (S_.2.2.1 98 0 (S_.1 10 0 8).toNat) = 9 := of_decide_eq_true c10_
              refine sm_T_go 4 (c1 := (74, [some (.inr (.inr (some (10, 0)))), some (.inl c_), some (.inl (S_.2.2.1 98 0 (S_.1 10 0 8).toNat))], [.inl 1, .inl (S_.1 10 0 8), .inr (.inr (some (10, 0)))], S_)) rfl ?_
              refine sm_T_bin (w := (S_.1 10 0 8) + 1) rfl (bi_add (by omega) (by omega) (by omega)) ?_
              have hI11_ : gi (sm_pI S_ 10 0 8 ((S_.1 10 0 8) + 1)) := gi_pI hI_ (show 0 ≤ (S_.1 10 0 8) + 1 ∧ (S_.1 10 0 8) + 1 ≤ 1280 from ⟨by omega, by omega⟩)
              have hF12_ : ai_fr (sx_W vw_192) S0_ (sm_pI S_ 10 0 8 ((S_.1 10 0 8) + 1)) := ai_fr_tr hF_ (ai_fr_pI rfl)
              refine sm_T_go 2 (c1 := (2, [some (.inr (.inr (some (10, 0)))), some (.inl c_), some (.inl (S_.2.2.1 98 0 (S_.1 10 0 8).toNat))], [], sm_pI S_ 10 0 8 ((S_.1 10 0 8) + 1))) rfl ?_
              refine sm_T_wk [some (.inr (.inr (some (10, 0)))), some (.inl c_), none] (by exact ⟨rfl, rfl, trivial⟩) ?_
              refine ih_ c_ (sm_pI S_ 10 0 8 ((S_.1 10 0 8) + 1)) hI11_ hF12_ ⟨?_, ?_, trivial⟩ ?_
              · omega
              · refine ⟨q_ + 1, ?_, by omega, ?_⟩
                · (try simp only [rd_eq, rd_ne, rf_eq, rf_nk, rf_nt, rd_fa, rd_af, rd_fl, rd_al, rd_lf, rd_la, rd_leq, rd_lne, rd_fr, rd_ar, ne_eq, Nat.reduceEqDiff, not_false_eq_true]); push_cast; omega
                · rw [lx_s_go (by omega)] at h2_
                  have e_ : (S_.1 10 0 8).toNat = q_ := by omega
                  rw [e_, hb1_] at *
                  simp_all
              · (try simp only [rd_eq, rd_ne, rf_eq, rf_nk, rf_nt, rd_fa, rd_af, rd_fl, rd_al, rd_lf, rd_la, rd_leq, rd_lne, rd_fr, rd_ar, ne_eq, Nat.reduceEqDiff, not_false_eq_true]); omega
            · have c10_ : ¬ ((S_.2.2.1 98 0 (S_.1 10 0 8).toNat) = 9) := of_decide_eq_false c10_
              refine sm_T_go 2 (c1 := (58, [some (.inr (.inr (some (10, 0)))), some (.inl c_), some (.inl (S_.2.2.1 98 0 (S_.1 10 0 8).toNat))], [.inl 13, .inl (S_.2.2.1 98 0 (S_.1 10 0 8).toNat)], S_)) rfl ?_
              refine sm_T_br (a := 0) (z := 10) rfl (fun c13_ => ?_) (fun c13_ => ?_)
              · have c13_ : (S_.2.2.1 98 0 (S_.1 10 0 8).toNat) = 13 := of_decide_eq_true c13_
                refine sm_T_go 4 (c1 := (74, [some (.inr (.inr (some (10, 0)))), some (.inl c_), some (.inl (S_.2.2.1 98 0 (S_.1 10 0 8).toNat))], [.inl 1, .inl (S_.1 10 0 8), .inr (.inr (some (10, 0)))], S_)) rfl ?_
                refine sm_T_bin (w := (S_.1 10 0 8) + 1) rfl (bi_add (by omega) (by omega) (by omega)) ?_
                have hI14_ : gi (sm_pI S_ 10 0 8 ((S_.1 10 0 8) + 1)) := gi_pI hI_ (show 0 ≤ (S_.1 10 0 8) + 1 ∧ (S_.1 10 0 8) + 1 ≤ 1280 from ⟨by omega, by omega⟩)
                have hF15_ : ai_fr (sx_W vw_192) S0_ (sm_pI S_ 10 0 8 ((S_.1 10 0 8) + 1)) := ai_fr_tr hF_ (ai_fr_pI rfl)
                refine sm_T_go 2 (c1 := (2, [some (.inr (.inr (some (10, 0)))), some (.inl c_), some (.inl (S_.2.2.1 98 0 (S_.1 10 0 8).toNat))], [], sm_pI S_ 10 0 8 ((S_.1 10 0 8) + 1))) rfl ?_
                refine sm_T_wk [some (.inr (.inr (some (10, 0)))), some (.inl c_), none] (by exact ⟨rfl, rfl, trivial⟩) ?_
                refine ih_ c_ (sm_pI S_ 10 0 8 ((S_.1 10 0 8) + 1)) hI14_ hF15_ ⟨?_, ?_, trivial⟩ ?_
                · omega
                · refine ⟨q_ + 1, ?_, by omega, ?_⟩
                  · (try simp only [rd_eq, rd_ne, rf_eq, rf_nk, rf_nt, rd_fa, rd_af, rd_fl, rd_al, rd_lf, rd_la, rd_leq, rd_lne, rd_fr, rd_ar, ne_eq, Nat.reduceEqDiff, not_false_eq_true]); push_cast; omega
                  · rw [lx_s_go (by omega)] at h2_
                    have e_ : (S_.1 10 0 8).toNat = q_ := by omega
                    rw [e_, hb1_] at *
                    simp_all
                · (try simp only [rd_eq, rd_ne, rf_eq, rf_nk, rf_nt, rd_fa, rd_af, rd_fl, rd_al, rd_lf, rd_la, rd_leq, rd_lne, rd_fr, rd_ar, ne_eq, Nat.reduceEqDiff, not_false_eq_true]); omega
              · have c13_ : ¬ ((S_.2.2.1 98 0 (S_.1 10 0 8).toNat) = 13) := of_decide_eq_false c13_
                refine sm_T_go 2 (c1 := (64, [some (.inr (.inr (some (10, 0)))), some (.inl c_), some (.inl (S_.2.2.1 98 0 (S_.1 10 0 8).toNat))], [.inl 32, .inl (S_.2.2.1 98 0 (S_.1 10 0 8).toNat)], S_)) rfl ?_
                refine sm_T_br (a := 0) (z := 4) rfl (fun c16_ => ?_) (fun c16_ => ?_)
                · have c16_ : (S_.2.2.1 98 0 (S_.1 10 0 8).toNat) = 32 := of_decide_eq_true c16_
                  refine sm_T_go 4 (c1 := (74, [some (.inr (.inr (some (10, 0)))), some (.inl c_), some (.inl (S_.2.2.1 98 0 (S_.1 10 0 8).toNat))], [.inl 1, .inl (S_.1 10 0 8), .inr (.inr (some (10, 0)))], S_)) rfl ?_
                  refine sm_T_bin (w := (S_.1 10 0 8) + 1) rfl (bi_add (by omega) (by omega) (by omega)) ?_
                  have hI17_ : gi (sm_pI S_ 10 0 8 ((S_.1 10 0 8) + 1)) := gi_pI hI_ (show 0 ≤ (S_.1 10 0 8) + 1 ∧ (S_.1 10 0 8) + 1 ≤ 1280 from ⟨by omega, by omega⟩)
                  have hF18_ : ai_fr (sx_W vw_192) S0_ (sm_pI S_ 10 0 8 ((S_.1 10 0 8) + 1)) := ai_fr_tr hF_ (ai_fr_pI rfl)
                  refine sm_T_go 2 (c1 := (2, [some (.inr (.inr (some (10, 0)))), some (.inl c_), some (.inl (S_.2.2.1 98 0 (S_.1 10 0 8).toNat))], [], sm_pI S_ 10 0 8 ((S_.1 10 0 8) + 1))) rfl ?_
                  refine sm_T_wk [some (.inr (.inr (some (10, 0)))), some (.inl c_), none] (by exact ⟨rfl, rfl, trivial⟩) ?_
                  refine ih_ c_ (sm_pI S_ 10 0 8 ((S_.1 10 0 8) + 1)) hI17_ hF18_ ⟨?_, ?_, trivial⟩ ?_
                  · omega
                  · refine ⟨q_ + 1, ?_, by omega, ?_⟩
                    · (try simp only [rd_eq, rd_ne, rf_eq, rf_nk, rf_nt, rd_fa, rd_af, rd_fl, rd_al, rd_lf, rd_la, rd_leq, rd_lne, rd_fr, rd_ar, ne_eq, Nat.reduceEqDiff, not_false_eq_true]); push_cast; omega
                    · rw [lx_s_go (by omega)] at h2_
                      have e_ : (S_.1 10 0 8).toNat = q_ := by omega
                      rw [e_, hb1_] at *
                      simp_all
                  · (try simp only [rd_eq, rd_ne, rf_eq, rf_nk, rf_nt, rd_fa, rd_af, rd_fl, rd_al, rd_lf, rd_la, rd_leq, rd_lne, rd_fr, rd_ar, ne_eq, Nat.reduceEqDiff, not_false_eq_true]); omega
                · have c16_ : ¬ ((S_.2.2.1 98 0 (S_.1 10 0 8).toNat) = 32) := of_decide_eq_false c16_
                  refine sm_T_rv rfl ⟨_, _, rfl, rfl, hI_, hF_, ?_⟩
                  have e_ : (S_.1 10 0 8).toNat = q_ := by omega
                  rw [e_, hb1_] at *
                  rw [lx_s_go (by omega)] at h2_
                  simp_all
        · have c6_ : ¬ ((S_.2.2.1 98 0 (S_.1 10 0 8).toNat) ≠ 10) := of_decide_eq_false c6_
          refine sm_T_go 7 (c1 := (74, [some (.inr (.inr (some (10, 0)))), some (.inl 0), some (.inl (S_.2.2.1 98 0 (S_.1 10 0 8).toNat))], [.inl 1, .inl (S_.1 10 0 8), .inr (.inr (some (10, 0)))], S_)) rfl ?_
          refine sm_T_bin (w := (S_.1 10 0 8) + 1) rfl (bi_add (by omega) (by omega) (by omega)) ?_
          have hI19_ : gi (sm_pI S_ 10 0 8 ((S_.1 10 0 8) + 1)) := gi_pI hI_ (show 0 ≤ (S_.1 10 0 8) + 1 ∧ (S_.1 10 0 8) + 1 ≤ 1280 from ⟨by omega, by omega⟩)
          have hF20_ : ai_fr (sx_W vw_192) S0_ (sm_pI S_ 10 0 8 ((S_.1 10 0 8) + 1)) := ai_fr_tr hF_ (ai_fr_pI rfl)
          refine sm_T_go 2 (c1 := (2, [some (.inr (.inr (some (10, 0)))), some (.inl 0), some (.inl (S_.2.2.1 98 0 (S_.1 10 0 8).toNat))], [], sm_pI S_ 10 0 8 ((S_.1 10 0 8) + 1))) rfl ?_
          refine sm_T_wk [some (.inr (.inr (some (10, 0)))), some (.inl 0), none] (by exact ⟨rfl, rfl, trivial⟩) ?_
          refine ih_ 0 (sm_pI S_ 10 0 8 ((S_.1 10 0 8) + 1)) hI19_ hF20_ ⟨?_, ?_, trivial⟩ ?_
          · omega
          · refine ⟨q_ + 1, ?_, by omega, ?_⟩
            · (try simp only [rd_eq, rd_ne, rf_eq, rf_nk, rf_nt, rd_fa, rd_af, rd_fl, rd_al, rd_lf, rd_la, rd_leq, rd_lne, rd_fr, rd_ar, ne_eq, Nat.reduceEqDiff, not_false_eq_true]); push_cast; omega
            · rw [lx_s_go (by omega)] at h2_
              have e_ : (S_.1 10 0 8).toNat = q_ := by omega
              rw [e_, hb1_] at *
              simp_all
          · (try simp only [rd_eq, rd_ne, rf_eq, rf_nk, rf_nt, rd_fa, rd_af, rd_fl, rd_al, rd_lf, rd_la, rd_leq, rd_lne, rd_fr, rd_ar, ne_eq, Nat.reduceEqDiff, not_false_eq_true]); omega
      · have c5_ : ¬ ((S_.2.2.1 98 0 (S_.1 10 0 8).toNat) ≠ 35) := of_decide_eq_false c5_
        refine sm_T_go 7 (c1 := (74, [some (.inr (.inr (some (10, 0)))), some (.inl 1), some (.inl (S_.2.2.1 98 0 (S_.1 10 0 8).toNat))], [.inl 1, .inl (S_.1 10 0 8), .inr (.inr (some (10, 0)))], S_)) rfl ?_
        refine sm_T_bin (w := (S_.1 10 0 8) + 1) rfl (bi_add (by omega) (by omega) (by omega)) ?_
        have hI21_ : gi (sm_pI S_ 10 0 8 ((S_.1 10 0 8) + 1)) := gi_pI hI_ (show 0 ≤ (S_.1 10 0 8) + 1 ∧ (S_.1 10 0 8) + 1 ≤ 1280 from ⟨by omega, by omega⟩)
        have hF22_ : ai_fr (sx_W vw_192) S0_ (sm_pI S_ 10 0 8 ((S_.1 10 0 8) + 1)) := ai_fr_tr hF_ (ai_fr_pI rfl)
        refine sm_T_go 2 (c1 := (2, [some (.inr (.inr (some (10, 0)))), some (.inl 1), some (.inl (S_.2.2.1 98 0 (S_.1 10 0 8).toNat))], [], sm_pI S_ 10 0 8 ((S_.1 10 0 8) + 1))) rfl ?_
        refine sm_T_wk [some (.inr (.inr (some (10, 0)))), some (.inl 1), none] (by exact ⟨rfl, rfl, trivial⟩) ?_
        refine ih_ 1 (sm_pI S_ 10 0 8 ((S_.1 10 0 8) + 1)) hI21_ hF22_ ⟨?_, ?_, trivial⟩ ?_
        · omega
        · refine ⟨q_ + 1, ?_, by omega, ?_⟩
          · (try simp only [rd_eq, rd_ne, rf_eq, rf_nk, rf_nt, rd_fa, rd_af, rd_fl, rd_al, rd_lf, rd_la, rd_leq, rd_lne, rd_fr, rd_ar, ne_eq, Nat.reduceEqDiff, not_false_eq_true]); push_cast; omega
          · rw [lx_s_go (by omega)] at h2_
            have e_ : (S_.1 10 0 8).toNat = q_ := by omega
            rw [e_, hb1_] at *
            simp_all
        · (try simp only [rd_eq, rd_ne, rf_eq, rf_nk, rf_nt, rd_fa, rd_af, rd_fl, rd_al, rd_lf, rd_la, rd_leq, rd_lne, rd_fr, rd_ar, ne_eq, Nat.reduceEqDiff, not_false_eq_true]); omega
theorem vc_192 {sc_ : Nat × (Nat → Int)} (b_ : Nat → Int) (n_ : Nat) (p_ : Nat) (S0_ : sm_S) (hI_ : gi S0_) (hb_ : S0_.2.2.1 98 0 = b_) (hn_ : (S0_.1 10 0 1) = (n_ : Int)) (hn1_ : n_ ≤ 1280) (hp_ : (S0_.1 10 0 8) = (p_ : Int)) (hpn_ : p_ ≤ n_) : sm_T (mt_P sc_) 0 192 (0, [some (.inr (.inr (some (10, 0)))), none, none], [], S0_) (fun r_ => ∃ u_ S1_, r_ = (.inl u_, S1_, 0) ∧ vq_192 b_ n_ p_ S0_ u_ S1_) := by
  have hF_ : ai_fr (sx_W vw_192) S0_ S0_ := ai_fr_rf
  refine sm_T_go 2 (c1 := (2, [some (.inr (.inr (some (10, 0)))), some (.inl 0), none], [], S0_)) rfl ?_
  refine (vl_192 b_ n_ p_ S0_ hb_ hn_ hn1_ hp_ hpn_ _) 0 S0_ hI_ hF_ ⟨?_, ?_, trivial⟩ (Nat.lt_succ_self _)
  · omega
  · exact ⟨p_, hp_, hpn_, rfl⟩
/-! Text.readName -/
def vw_193 : sx_Wl := ([(10, 2), (10, 4), (10, 8)], [], [])
def vq_193 (b_ : Nat → Int) (n_ : Nat) (p_ : Nat) (S0_ : sm_S) (u_ : Option sm_V) (S1_ : sm_S) : Prop := ∃ v_ : Int, u_ = some (.inl v_) ∧ gi S1_ ∧ ai_fr (sx_W vw_193) S0_ S1_ ∧ ((v_ = if lx_ne b_ n_ p_ - p_ ≤ 12 then 1 else 0) ∧ (S1_.1 10 0 8) = (lx_ne b_ n_ p_ : Nat) ∧ (S1_.1 10 0 4) = (lx_ne b_ n_ p_ - p_ : Nat) ∧ (S1_.1 10 0 2) = lx_wk (lx_pk b_ p_ (lx_ne b_ n_ p_ - p_)) 7)
theorem vl_193 {sc_ : Nat × (Nat → Int)} (b_ : Nat → Int) (n_ : Nat) (p_ : Nat) (S0_ : sm_S) (hb_ : S0_.2.2.1 98 0 = b_) (hn_ : (S0_.1 10 0 1) = (n_ : Int)) (hn1_ : n_ ≤ 1280) (hp_ : (S0_.1 10 0 8) = (p_ : Int)) (hpn_ : p_ ≤ n_) (hz_ : (S0_.1 10 0 4) = 0) : ∀ nn_ : Nat, (∀ (x_ : Int) (S_ : sm_S), gi S_ → ai_fr (sx_W vw_193) S0_ S_ → ((∃ k_ : Nat, (S_.1 10 0 8) = ((p_ + k_ : Nat) : Int) ∧ (S_.1 10 0 4) = (k_ : Int) ∧ p_ + k_ ≤ n_ ∧ lx_ne b_ n_ (p_ + k_) = lx_ne b_ n_ p_ ∧ x_ = lx_pk b_ p_ k_) ∧ True) → (1400 - (S_.1 10 0 8).toNat) < nn_ → sm_T (mt_P sc_) 0 193 (2, [some (.inr (.inr (some (10, 0)))), some (.inr (.inl x_)), none, none, none], [], S_) (fun r_ => ∃ u_ S1_, r_ = (.inl u_, S1_, 0) ∧ vq_193 b_ n_ p_ S0_ u_ S1_)) ∧ (∀ (x_ : Int) (k_ : Int) (S_ : sm_S), gi S_ → ai_fr (sx_W vw_193) S0_ S_ → ((0 ≤ k_ ∧ k_ ≤ 7) ∧ ((S_.1 10 0 8) = (lx_ne b_ n_ p_ : Nat) ∧ (S_.1 10 0 4) = (lx_ne b_ n_ p_ - p_ : Nat) ∧ x_ = lx_pk b_ p_ (lx_ne b_ n_ p_ - p_)) ∧ ((S_.1 10 0 2) = lx_wk x_ k_.toNat) ∧ True) → ((7 - k_).toNat) < nn_ → sm_T (mt_P sc_) 0 193 (125, [some (.inr (.inr (some (10, 0)))), some (.inr (.inl x_)), none, some (.inl k_), none], [], S_) (fun r_ => ∃ u_ S1_, r_ = (.inl u_, S1_, 0) ∧ vq_193 b_ n_ p_ S0_ u_ S1_)) := by
  intro nn_
  induction nn_ with
  | zero => exact ⟨fun _ _ _ _ _ h_ => absurd h_ (Nat.not_lt_zero _), fun _ _ _ _ _ _ h_ => absurd h_ (Nat.not_lt_zero _)⟩
  | succ nn_ ih_ =>
    refine ⟨?_, ?_⟩
    · rintro x_ S_ hI_ hF_ ⟨h1_, -⟩ hm_
      have hb1_ : S_.2.2.1 98 0 = b_ := (fr_arr hF_ rfl).trans hb_
      have hn2_ : (S_.1 10 0 1) = (n_ : Int) := (hF_.1 10 0 1 rfl).trans hn_
      obtain ⟨k_, hq_, hs_, hqn_, h2_, h3_⟩ := h1_
      have e_ : (S_.1 10 0 8).toNat = p_ + k_ := by omega
      have e9_ : S_.2.2.1 98 0 (S_.1 10 0 8).toNat = b_ (p_ + k_) := by rw [e_, hb1_]
      have b1_ : 0 ≤ S_.1 10 0 8 ∧ S_.1 10 0 8 ≤ 1280 := hI_.1 10 0 8 rfl
      have b2_ : 0 ≤ S_.1 10 0 1 ∧ S_.1 10 0 1 ≤ 1280 := hI_.1 10 0 1 rfl
      refine sm_T_go 4 (c1 := (10, [some (.inr (.inr (some (10, 0)))), some (.inr (.inl x_)), none, none, none], [.inl (S_.1 10 0 1), .inl (S_.1 10 0 8)], S_)) rfl ?_
      refine sm_T_br (a := 3) (z := 108) rfl (fun c3_ => ?_) (fun c3_ => ?_)
      · have c3_ : (S_.1 10 0 1) ≤ (S_.1 10 0 8) := of_decide_eq_true c3_
        have hI4_ : gi (sm_pI S_ 10 0 2 1) := gi_pI hI_ (show (-128) ≤ 1 ∧ 1 ≤ 257 from ⟨by omega, by omega⟩)
        have hF5_ : ai_fr (sx_W vw_193) S0_ (sm_pI S_ 10 0 2 1) := ai_fr_tr hF_ (ai_fr_pI rfl)
        refine sm_T_go 5 (c1 := (125, [some (.inr (.inr (some (10, 0)))), some (.inr (.inl x_)), none, some (.inl 0), none], [], sm_pI S_ 10 0 2 1)) rfl ?_
        refine ih_.2 x_ 0 (sm_pI S_ 10 0 2 1) hI4_ hF5_ ⟨?_, ?_, ?_, trivial⟩ ?_
        · omega
        · have e4_ : lx_ne b_ n_ p_ = p_ + k_ := by rw [← h2_, lx_e_go]; exact if_neg (by omega)
          rw [e4_]
          (try simp only [rd_eq, rd_ne, rf_eq, rf_nk, rf_nt, rd_fa, rd_af, rd_fl, rd_al, rd_lf, rd_la, rd_leq, rd_lne, rd_fr, rd_ar, ne_eq, Nat.reduceEqDiff, not_false_eq_true])
          refine ⟨by omega, by omega, ?_⟩
          rw [h3_]; congr 1; omega
        · (try simp only [rd_eq, rd_ne, rf_eq, rf_nk, rf_nt, rd_fa, rd_af, rd_fl, rd_al, rd_lf, rd_la, rd_leq, rd_lne, rd_fr, rd_ar, ne_eq, Nat.reduceEqDiff, not_false_eq_true]); rfl
        · (try simp only [rd_eq, rd_ne, rf_eq, rf_nk, rf_nt, rd_fa, rd_af, rd_fl, rd_al, rd_lf, rd_la, rd_leq, rd_lne, rd_fr, rd_ar, ne_eq, Nat.reduceEqDiff, not_false_eq_true]); omega
      · have c3_ : ¬ ((S_.1 10 0 1) ≤ (S_.1 10 0 8)) := of_decide_eq_false c3_
        refine sm_T_go 4 (c1 := (21, [some (.inr (.inr (some (10, 0)))), some (.inr (.inl x_)), none, none, none], [.inl (S_.1 10 0 8), .inr (.inr (some (98, 0)))], S_)) rfl ?_
        refine sm_T_bald (n := 65536) rfl rfl (by omega) (by omega) ?_
        have b6_ : (-128) ≤ S_.2.2.1 98 0 (S_.1 10 0 8).toNat ∧ S_.2.2.1 98 0 (S_.1 10 0 8).toNat ≤ 127 := hI_.2 98 0 _
        refine sm_T_go 3 (c1 := (26, [some (.inr (.inr (some (10, 0)))), some (.inr (.inl x_)), none, some (.inl (S_.2.2.1 98 0 (S_.1 10 0 8).toNat)), none], [.inl 32, .inl (S_.2.2.1 98 0 (S_.1 10 0 8).toNat)], S_)) rfl ?_
        refine sm_T_bin (w := (i_or (S_.2.2.1 98 0 (S_.1 10 0 8).toNat) 32)) rfl rfl ?_
        have b7_ := lx_or (x := (S_.2.2.1 98 0 (S_.1 10 0 8).toNat)) (by omega) (by omega)
        refine sm_T_go 1 (c1 := (29, [some (.inr (.inr (some (10, 0)))), some (.inr (.inl x_)), none, some (.inl (S_.2.2.1 98 0 (S_.1 10 0 8).toNat)), none], [.inl 97, .inl (i_or (S_.2.2.1 98 0 (S_.1 10 0 8).toNat) 32)], S_)) rfl ?_
        refine sm_T_br (a := 2) (z := 12) rfl (fun c8_ => ?_) (fun c8_ => ?_)
        · have c8_ : (i_or (S_.2.2.1 98 0 (S_.1 10 0 8).toNat) 32) < 97 := of_decide_eq_true c8_
          refine sm_T_go 2 (c1 := (44, [some (.inr (.inr (some (10, 0)))), some (.inr (.inl x_)), none, some (.inl (S_.2.2.1 98 0 (S_.1 10 0 8).toNat)), none], [.inl 95, .inl (S_.2.2.1 98 0 (S_.1 10 0 8).toNat)], S_)) rfl ?_
          refine sm_T_br (a := 1) (z := 7) rfl (fun c9_ => ?_) (fun c9_ => ?_)
          · have c9_ : (S_.2.2.1 98 0 (S_.1 10 0 8).toNat) ≠ 95 := of_decide_eq_true c9_
            refine sm_T_go 6 (c1 := (62, [some (.inr (.inr (some (10, 0)))), some (.inr (.inl x_)), none, some (.inl (S_.2.2.1 98 0 (S_.1 10 0 8).toNat)), some (.inl 0)], [.inl 48, .inl (S_.2.2.1 98 0 (S_.1 10 0 8).toNat)], S_)) rfl ?_
            refine sm_T_br (a := 2) (z := 56) rfl (fun c10_ => ?_) (fun c10_ => ?_)
            · have c10_ : (S_.2.2.1 98 0 (S_.1 10 0 8).toNat) < 48 := of_decide_eq_true c10_
              have hI11_ : gi (sm_pI S_ 10 0 2 1) := gi_pI hI_ (show (-128) ≤ 1 ∧ 1 ≤ 257 from ⟨by omega, by omega⟩)
              have hF12_ : ai_fr (sx_W vw_193) S0_ (sm_pI S_ 10 0 2 1) := ai_fr_tr hF_ (ai_fr_pI rfl)
              refine sm_T_go 5 (c1 := (125, [some (.inr (.inr (some (10, 0)))), some (.inr (.inl x_)), none, some (.inl 0), some (.inl 0)], [], sm_pI S_ 10 0 2 1)) rfl ?_
              refine sm_T_wk [some (.inr (.inr (some (10, 0)))), some (.inr (.inl x_)), none, some (.inl 0), none] (by exact ⟨rfl, rfl, rfl, trivial⟩) ?_
              refine ih_.2 x_ 0 (sm_pI S_ 10 0 2 1) hI11_ hF12_ ⟨?_, ?_, ?_, trivial⟩ ?_
              · omega
              · have e4_ : lx_ne b_ n_ p_ = p_ + k_ := by rw [← h2_, lx_e_go]; exact if_neg (by omega)
                rw [e4_]
                (try simp only [rd_eq, rd_ne, rf_eq, rf_nk, rf_nt, rd_fa, rd_af, rd_fl, rd_al, rd_lf, rd_la, rd_leq, rd_lne, rd_fr, rd_ar, ne_eq, Nat.reduceEqDiff, not_false_eq_true])
                refine ⟨by omega, by omega, ?_⟩
                rw [h3_]; congr 1; omega
              · (try simp only [rd_eq, rd_ne, rf_eq, rf_nk, rf_nt, rd_fa, rd_af, rd_fl, rd_al, rd_lf, rd_la, rd_leq, rd_lne, rd_fr, rd_ar, ne_eq, Nat.reduceEqDiff, not_false_eq_true]); rfl
              · (try simp only [rd_eq, rd_ne, rf_eq, rf_nk, rf_nt, rd_fa, rd_af, rd_fl, rd_al, rd_lf, rd_la, rd_leq, rd_lne, rd_fr, rd_ar, ne_eq, Nat.reduceEqDiff, not_false_eq_true]); omega
            · have c10_ : ¬ ((S_.2.2.1 98 0 (S_.1 10 0 8).toNat) < 48) := of_decide_eq_false c10_
              refine sm_T_go 2 (c1 := (68, [some (.inr (.inr (some (10, 0)))), some (.inr (.inl x_)), none, some (.inl (S_.2.2.1 98 0 (S_.1 10 0 8).toNat)), some (.inl 0)], [.inl 57, .inl (S_.2.2.1 98 0 (S_.1 10 0 8).toNat)], S_)) rfl ?_
              refine sm_T_br (a := 5) (z := 6) rfl (fun c13_ => ?_) (fun c13_ => ?_)
              · have c13_ : (S_.2.2.1 98 0 (S_.1 10 0 8).toNat) ≤ 57 := of_decide_eq_true c13_
                have b14_ : 0 ≤ S_.1 10 0 4 ∧ S_.1 10 0 4 ≤ 1280 := hI_.1 10 0 4 rfl
                refine sm_T_go 3 (c1 := (80, [some (.inr (.inr (some (10, 0)))), some (.inr (.inl x_)), none, some (.inl (S_.2.2.1 98 0 (S_.1 10 0 8).toNat)), some (.inl 0)], [.inl 8, .inl (S_.1 10 0 4)], S_)) rfl ?_
                refine sm_T_br (a := 3) (z := 13) rfl (fun c15_ => ?_) (fun c15_ => ?_)
                · have c15_ : 8 ≤ (S_.1 10 0 4) := of_decide_eq_true c15_
                  refine sm_T_go 6 (c1 := (101, [some (.inr (.inr (some (10, 0)))), some (.inr (.inl 0)), none, some (.inl (S_.2.2.1 98 0 (S_.1 10 0 8).toNat)), some (.inl 0)], [.inl 1, .inl (S_.1 10 0 4), .inr (.inr (some (10, 0)))], S_)) rfl ?_
                  refine sm_T_bin (w := (S_.1 10 0 4) + 1) rfl (bi_add (by omega) (by omega) (by omega)) ?_
                  have hI16_ : gi (sm_pI S_ 10 0 4 ((S_.1 10 0 4) + 1)) := gi_pI hI_ (show 0 ≤ (S_.1 10 0 4) + 1 ∧ (S_.1 10 0 4) + 1 ≤ 1280 from ⟨by omega, by omega⟩)
                  have hF17_ : ai_fr (sx_W vw_193) S0_ (sm_pI S_ 10 0 4 ((S_.1 10 0 4) + 1)) := ai_fr_tr hF_ (ai_fr_pI rfl)
                  refine sm_T_go 5 (c1 := (111, [some (.inr (.inr (some (10, 0)))), some (.inr (.inl 0)), none, some (.inl (S_.2.2.1 98 0 (S_.1 10 0 8).toNat)), some (.inl 0)], [.inl 1, .inl (S_.1 10 0 8), .inr (.inr (some (10, 0)))], sm_pI S_ 10 0 4 ((S_.1 10 0 4) + 1))) rfl ?_
                  refine sm_T_bin (w := (S_.1 10 0 8) + 1) rfl (bi_add (by omega) (by omega) (by omega)) ?_
                  have hI18_ : gi (sm_pI (sm_pI S_ 10 0 4 ((S_.1 10 0 4) + 1)) 10 0 8 ((S_.1 10 0 8) + 1)) := gi_pI hI16_ (show 0 ≤ (S_.1 10 0 8) + 1 ∧ (S_.1 10 0 8) + 1 ≤ 1280 from ⟨by omega, by omega⟩)
                  have hF19_ : ai_fr (sx_W vw_193) S0_ (sm_pI (sm_pI S_ 10 0 4 ((S_.1 10 0 4) + 1)) 10 0 8 ((S_.1 10 0 8) + 1)) := ai_fr_tr hF17_ (ai_fr_pI rfl)
                  refine sm_T_go 2 (c1 := (2, [some (.inr (.inr (some (10, 0)))), some (.inr (.inl 0)), none, some (.inl (S_.2.2.1 98 0 (S_.1 10 0 8).toNat)), some (.inl 0)], [], sm_pI (sm_pI S_ 10 0 4 ((S_.1 10 0 4) + 1)) 10 0 8 ((S_.1 10 0 8) + 1))) rfl ?_
                  refine sm_T_wk [some (.inr (.inr (some (10, 0)))), some (.inr (.inl 0)), none, none, none] (by exact ⟨rfl, rfl, trivial⟩) ?_
                  refine ih_.1 0 (sm_pI (sm_pI S_ 10 0 4 ((S_.1 10 0 4) + 1)) 10 0 8 ((S_.1 10 0 8) + 1)) hI18_ hF19_ ⟨?_, trivial⟩ ?_
                  · refine ⟨k_ + 1, ?_, ?_, by omega, ?_, ?_⟩
                    · (try simp only [rd_eq, rd_ne, rf_eq, rf_nk, rf_nt, rd_fa, rd_af, rd_fl, rd_al, rd_lf, rd_la, rd_leq, rd_lne, rd_fr, rd_ar, ne_eq, Nat.reduceEqDiff, not_false_eq_true]); push_cast; omega
                    · (try simp only [rd_eq, rd_ne, rf_eq, rf_nk, rf_nt, rd_fa, rd_af, rd_fl, rd_al, rd_lf, rd_la, rd_leq, rd_lne, rd_fr, rd_ar, ne_eq, Nat.reduceEqDiff, not_false_eq_true]); push_cast; omega
                    · rw [← h2_, lx_e_go (p := p_ + k_)]
                      rw [if_pos (by constructor; omega; omega)]; rfl
                    · unfold lx_pk; rw [← e9_]; first | rw [if_pos (by omega), h3_] | rw [if_neg (by omega)]
                  · (try simp only [rd_eq, rd_ne, rf_eq, rf_nk, rf_nt, rd_fa, rd_af, rd_fl, rd_al, rd_lf, rd_la, rd_leq, rd_lne, rd_fr, rd_ar, ne_eq, Nat.reduceEqDiff, not_false_eq_true]); omega
                · have c15_ : ¬ (8 ≤ (S_.1 10 0 4)) := of_decide_eq_false c15_
                  refine sm_T_go 12 (c1 := (101, [some (.inr (.inr (some (10, 0)))), some (.inr (.inl (l_4 ((l_s0 x_ 7)) ((l_i2l (S_.2.2.1 98 0 (S_.1 10 0 8).toNat)))))), none, some (.inl (S_.2.2.1 98 0 (S_.1 10 0 8).toNat)), some (.inl 0)], [.inl 1, .inl (S_.1 10 0 4), .inr (.inr (some (10, 0)))], S_)) rfl ?_
                  refine sm_T_bin (w := (S_.1 10 0 4) + 1) rfl (bi_add (by omega) (by omega) (by omega)) ?_
                  have hI20_ : gi (sm_pI S_ 10 0 4 ((S_.1 10 0 4) + 1)) := gi_pI hI_ (show 0 ≤ (S_.1 10 0 4) + 1 ∧ (S_.1 10 0 4) + 1 ≤ 1280 from ⟨by omega, by omega⟩)
                  have hF21_ : ai_fr (sx_W vw_193) S0_ (sm_pI S_ 10 0 4 ((S_.1 10 0 4) + 1)) := ai_fr_tr hF_ (ai_fr_pI rfl)
                  refine sm_T_go 5 (c1 := (111, [some (.inr (.inr (some (10, 0)))), some (.inr (.inl (l_4 ((l_s0 x_ 7)) ((l_i2l (S_.2.2.1 98 0 (S_.1 10 0 8).toNat)))))), none, some (.inl (S_.2.2.1 98 0 (S_.1 10 0 8).toNat)), some (.inl 0)], [.inl 1, .inl (S_.1 10 0 8), .inr (.inr (some (10, 0)))], sm_pI S_ 10 0 4 ((S_.1 10 0 4) + 1))) rfl ?_
                  refine sm_T_bin (w := (S_.1 10 0 8) + 1) rfl (bi_add (by omega) (by omega) (by omega)) ?_
                  have hI22_ : gi (sm_pI (sm_pI S_ 10 0 4 ((S_.1 10 0 4) + 1)) 10 0 8 ((S_.1 10 0 8) + 1)) := gi_pI hI20_ (show 0 ≤ (S_.1 10 0 8) + 1 ∧ (S_.1 10 0 8) + 1 ≤ 1280 from ⟨by omega, by omega⟩)
                  have hF23_ : ai_fr (sx_W vw_193) S0_ (sm_pI (sm_pI S_ 10 0 4 ((S_.1 10 0 4) + 1)) 10 0 8 ((S_.1 10 0 8) + 1)) := ai_fr_tr hF21_ (ai_fr_pI rfl)
                  refine sm_T_go 2 (c1 := (2, [some (.inr (.inr (some (10, 0)))), some (.inr (.inl (l_4 ((l_s0 x_ 7)) ((l_i2l (S_.2.2.1 98 0 (S_.1 10 0 8).toNat)))))), none, some (.inl (S_.2.2.1 98 0 (S_.1 10 0 8).toNat)), some (.inl 0)], [], sm_pI (sm_pI S_ 10 0 4 ((S_.1 10 0 4) + 1)) 10 0 8 ((S_.1 10 0 8) + 1))) rfl ?_
                  refine sm_T_wk [some (.inr (.inr (some (10, 0)))), some (.inr (.inl (l_4 ((l_s0 x_ 7)) ((l_i2l (S_.2.2.1 98 0 (S_.1 10 0 8).toNat)))))), none, none, none] (by exact ⟨rfl, rfl, trivial⟩) ?_
                  refine ih_.1 ((l_4 ((l_s0 x_ 7)) ((l_i2l (S_.2.2.1 98 0 (S_.1 10 0 8).toNat))))) (sm_pI (sm_pI S_ 10 0 4 ((S_.1 10 0 4) + 1)) 10 0 8 ((S_.1 10 0 8) + 1)) hI22_ hF23_ ⟨?_, trivial⟩ ?_
                  · refine ⟨k_ + 1, ?_, ?_, by omega, ?_, ?_⟩
                    · (try simp only [rd_eq, rd_ne, rf_eq, rf_nk, rf_nt, rd_fa, rd_af, rd_fl, rd_al, rd_lf, rd_la, rd_leq, rd_lne, rd_fr, rd_ar, ne_eq, Nat.reduceEqDiff, not_false_eq_true]); push_cast; omega
                    · (try simp only [rd_eq, rd_ne, rf_eq, rf_nk, rf_nt, rd_fa, rd_af, rd_fl, rd_al, rd_lf, rd_la, rd_leq, rd_lne, rd_fr, rd_ar, ne_eq, Nat.reduceEqDiff, not_false_eq_true]); push_cast; omega
                    · rw [← h2_, lx_e_go (p := p_ + k_)]
                      rw [if_pos (by constructor; omega; omega)]; rfl
                    · unfold lx_pk; rw [← e9_]; first | rw [if_pos (by omega), h3_] | rw [if_neg (by omega)]
                  · (try simp only [rd_eq, rd_ne, rf_eq, rf_nk, rf_nt, rd_fa, rd_af, rd_fl, rd_al, rd_lf, rd_la, rd_leq, rd_lne, rd_fr, rd_ar, ne_eq, Nat.reduceEqDiff, not_false_eq_true]); omega
              · have c13_ : ¬ ((S_.2.2.1 98 0 (S_.1 10 0 8).toNat) ≤ 57) := of_decide_eq_false c13_
                have hI24_ : gi (sm_pI S_ 10 0 2 1) := gi_pI hI_ (show (-128) ≤ 1 ∧ 1 ≤ 257 from ⟨by omega, by omega⟩)
                have hF25_ : ai_fr (sx_W vw_193) S0_ (sm_pI S_ 10 0 2 1) := ai_fr_tr hF_ (ai_fr_pI rfl)
                refine sm_T_go 6 (c1 := (125, [some (.inr (.inr (some (10, 0)))), some (.inr (.inl x_)), none, some (.inl 0), some (.inl 0)], [], sm_pI S_ 10 0 2 1)) rfl ?_
                refine sm_T_wk [some (.inr (.inr (some (10, 0)))), some (.inr (.inl x_)), none, some (.inl 0), none] (by exact ⟨rfl, rfl, rfl, trivial⟩) ?_
                refine ih_.2 x_ 0 (sm_pI S_ 10 0 2 1) hI24_ hF25_ ⟨?_, ?_, ?_, trivial⟩ ?_
                · omega
                · have e4_ : lx_ne b_ n_ p_ = p_ + k_ := by rw [← h2_, lx_e_go]; exact if_neg (by omega)
                  rw [e4_]
                  (try simp only [rd_eq, rd_ne, rf_eq, rf_nk, rf_nt, rd_fa, rd_af, rd_fl, rd_al, rd_lf, rd_la, rd_leq, rd_lne, rd_fr, rd_ar, ne_eq, Nat.reduceEqDiff, not_false_eq_true])
                  refine ⟨by omega, by omega, ?_⟩
                  rw [h3_]; congr 1; omega
                · (try simp only [rd_eq, rd_ne, rf_eq, rf_nk, rf_nt, rd_fa, rd_af, rd_fl, rd_al, rd_lf, rd_la, rd_leq, rd_lne, rd_fr, rd_ar, ne_eq, Nat.reduceEqDiff, not_false_eq_true]); rfl
                · (try simp only [rd_eq, rd_ne, rf_eq, rf_nk, rf_nt, rd_fa, rd_af, rd_fl, rd_al, rd_lf, rd_la, rd_leq, rd_lne, rd_fr, rd_ar, ne_eq, Nat.reduceEqDiff, not_false_eq_true]); omega
          · have c9_ : ¬ ((S_.2.2.1 98 0 (S_.1 10 0 8).toNat) ≠ 95) := of_decide_eq_false c9_
            have b26_ : 0 ≤ S_.1 10 0 4 ∧ S_.1 10 0 4 ≤ 1280 := hI_.1 10 0 4 rfl
            refine sm_T_go 8 (c1 := (80, [some (.inr (.inr (some (10, 0)))), some (.inr (.inl x_)), none, some (.inl (S_.2.2.1 98 0 (S_.1 10 0 8).toNat)), some (.inl 1)], [.inl 8, .inl (S_.1 10 0 4)], S_)) rfl ?_
            refine sm_T_br (a := 3) (z := 13) rfl (fun c27_ => ?_) (fun c27_ => ?_)
            · have c27_ : 8 ≤ (S_.1 10 0 4) := of_decide_eq_true c27_
              refine sm_T_go 6 (c1 := (101, [some (.inr (.inr (some (10, 0)))), some (.inr (.inl 0)), none, some (.inl (S_.2.2.1 98 0 (S_.1 10 0 8).toNat)), some (.inl 1)], [.inl 1, .inl (S_.1 10 0 4), .inr (.inr (some (10, 0)))], S_)) rfl ?_
              refine sm_T_bin (w := (S_.1 10 0 4) + 1) rfl (bi_add (by omega) (by omega) (by omega)) ?_
              have hI28_ : gi (sm_pI S_ 10 0 4 ((S_.1 10 0 4) + 1)) := gi_pI hI_ (show 0 ≤ (S_.1 10 0 4) + 1 ∧ (S_.1 10 0 4) + 1 ≤ 1280 from ⟨by omega, by omega⟩)
              have hF29_ : ai_fr (sx_W vw_193) S0_ (sm_pI S_ 10 0 4 ((S_.1 10 0 4) + 1)) := ai_fr_tr hF_ (ai_fr_pI rfl)
              refine sm_T_go 5 (c1 := (111, [some (.inr (.inr (some (10, 0)))), some (.inr (.inl 0)), none, some (.inl (S_.2.2.1 98 0 (S_.1 10 0 8).toNat)), some (.inl 1)], [.inl 1, .inl (S_.1 10 0 8), .inr (.inr (some (10, 0)))], sm_pI S_ 10 0 4 ((S_.1 10 0 4) + 1))) rfl ?_
              refine sm_T_bin (w := (S_.1 10 0 8) + 1) rfl (bi_add (by omega) (by omega) (by omega)) ?_
              have hI30_ : gi (sm_pI (sm_pI S_ 10 0 4 ((S_.1 10 0 4) + 1)) 10 0 8 ((S_.1 10 0 8) + 1)) := gi_pI hI28_ (show 0 ≤ (S_.1 10 0 8) + 1 ∧ (S_.1 10 0 8) + 1 ≤ 1280 from ⟨by omega, by omega⟩)
              have hF31_ : ai_fr (sx_W vw_193) S0_ (sm_pI (sm_pI S_ 10 0 4 ((S_.1 10 0 4) + 1)) 10 0 8 ((S_.1 10 0 8) + 1)) := ai_fr_tr hF29_ (ai_fr_pI rfl)
              refine sm_T_go 2 (c1 := (2, [some (.inr (.inr (some (10, 0)))), some (.inr (.inl 0)), none, some (.inl (S_.2.2.1 98 0 (S_.1 10 0 8).toNat)), some (.inl 1)], [], sm_pI (sm_pI S_ 10 0 4 ((S_.1 10 0 4) + 1)) 10 0 8 ((S_.1 10 0 8) + 1))) rfl ?_
              refine sm_T_wk [some (.inr (.inr (some (10, 0)))), some (.inr (.inl 0)), none, none, none] (by exact ⟨rfl, rfl, trivial⟩) ?_
              refine ih_.1 0 (sm_pI (sm_pI S_ 10 0 4 ((S_.1 10 0 4) + 1)) 10 0 8 ((S_.1 10 0 8) + 1)) hI30_ hF31_ ⟨?_, trivial⟩ ?_
              · refine ⟨k_ + 1, ?_, ?_, by omega, ?_, ?_⟩
                · (try simp only [rd_eq, rd_ne, rf_eq, rf_nk, rf_nt, rd_fa, rd_af, rd_fl, rd_al, rd_lf, rd_la, rd_leq, rd_lne, rd_fr, rd_ar, ne_eq, Nat.reduceEqDiff, not_false_eq_true]); push_cast; omega
                · (try simp only [rd_eq, rd_ne, rf_eq, rf_nk, rf_nt, rd_fa, rd_af, rd_fl, rd_al, rd_lf, rd_la, rd_leq, rd_lne, rd_fr, rd_ar, ne_eq, Nat.reduceEqDiff, not_false_eq_true]); push_cast; omega
                · rw [← h2_, lx_e_go (p := p_ + k_)]
                  rw [if_pos (by constructor; omega; omega)]; rfl
                · unfold lx_pk; rw [← e9_]; first | rw [if_pos (by omega), h3_] | rw [if_neg (by omega)]
              · (try simp only [rd_eq, rd_ne, rf_eq, rf_nk, rf_nt, rd_fa, rd_af, rd_fl, rd_al, rd_lf, rd_la, rd_leq, rd_lne, rd_fr, rd_ar, ne_eq, Nat.reduceEqDiff, not_false_eq_true]); omega
            · have c27_ : ¬ (8 ≤ (S_.1 10 0 4)) := of_decide_eq_false c27_
              refine sm_T_go 12 (c1 := (101, [some (.inr (.inr (some (10, 0)))), some (.inr (.inl (l_4 ((l_s0 x_ 7)) ((l_i2l (S_.2.2.1 98 0 (S_.1 10 0 8).toNat)))))), none, some (.inl (S_.2.2.1 98 0 (S_.1 10 0 8).toNat)), some (.inl 1)], [.inl 1, .inl (S_.1 10 0 4), .inr (.inr (some (10, 0)))], S_)) rfl ?_
              refine sm_T_bin (w := (S_.1 10 0 4) + 1) rfl (bi_add (by omega) (by omega) (by omega)) ?_
              have hI32_ : gi (sm_pI S_ 10 0 4 ((S_.1 10 0 4) + 1)) := gi_pI hI_ (show 0 ≤ (S_.1 10 0 4) + 1 ∧ (S_.1 10 0 4) + 1 ≤ 1280 from ⟨by omega, by omega⟩)
              have hF33_ : ai_fr (sx_W vw_193) S0_ (sm_pI S_ 10 0 4 ((S_.1 10 0 4) + 1)) := ai_fr_tr hF_ (ai_fr_pI rfl)
              refine sm_T_go 5 (c1 := (111, [some (.inr (.inr (some (10, 0)))), some (.inr (.inl (l_4 ((l_s0 x_ 7)) ((l_i2l (S_.2.2.1 98 0 (S_.1 10 0 8).toNat)))))), none, some (.inl (S_.2.2.1 98 0 (S_.1 10 0 8).toNat)), some (.inl 1)], [.inl 1, .inl (S_.1 10 0 8), .inr (.inr (some (10, 0)))], sm_pI S_ 10 0 4 ((S_.1 10 0 4) + 1))) rfl ?_
              refine sm_T_bin (w := (S_.1 10 0 8) + 1) rfl (bi_add (by omega) (by omega) (by omega)) ?_
              have hI34_ : gi (sm_pI (sm_pI S_ 10 0 4 ((S_.1 10 0 4) + 1)) 10 0 8 ((S_.1 10 0 8) + 1)) := gi_pI hI32_ (show 0 ≤ (S_.1 10 0 8) + 1 ∧ (S_.1 10 0 8) + 1 ≤ 1280 from ⟨by omega, by omega⟩)
              have hF35_ : ai_fr (sx_W vw_193) S0_ (sm_pI (sm_pI S_ 10 0 4 ((S_.1 10 0 4) + 1)) 10 0 8 ((S_.1 10 0 8) + 1)) := ai_fr_tr hF33_ (ai_fr_pI rfl)
              refine sm_T_go 2 (c1 := (2, [some (.inr (.inr (some (10, 0)))), some (.inr (.inl (l_4 ((l_s0 x_ 7)) ((l_i2l (S_.2.2.1 98 0 (S_.1 10 0 8).toNat)))))), none, some (.inl (S_.2.2.1 98 0 (S_.1 10 0 8).toNat)), some (.inl 1)], [], sm_pI (sm_pI S_ 10 0 4 ((S_.1 10 0 4) + 1)) 10 0 8 ((S_.1 10 0 8) + 1))) rfl ?_
              refine sm_T_wk [some (.inr (.inr (some (10, 0)))), some (.inr (.inl (l_4 ((l_s0 x_ 7)) ((l_i2l (S_.2.2.1 98 0 (S_.1 10 0 8).toNat)))))), none, none, none] (by exact ⟨rfl, rfl, trivial⟩) ?_
              refine ih_.1 ((l_4 ((l_s0 x_ 7)) ((l_i2l (S_.2.2.1 98 0 (S_.1 10 0 8).toNat))))) (sm_pI (sm_pI S_ 10 0 4 ((S_.1 10 0 4) + 1)) 10 0 8 ((S_.1 10 0 8) + 1)) hI34_ hF35_ ⟨?_, trivial⟩ ?_
              · refine ⟨k_ + 1, ?_, ?_, by omega, ?_, ?_⟩
                · (try simp only [rd_eq, rd_ne, rf_eq, rf_nk, rf_nt, rd_fa, rd_af, rd_fl, rd_al, rd_lf, rd_la, rd_leq, rd_lne, rd_fr, rd_ar, ne_eq, Nat.reduceEqDiff, not_false_eq_true]); push_cast; omega
                · (try simp only [rd_eq, rd_ne, rf_eq, rf_nk, rf_nt, rd_fa, rd_af, rd_fl, rd_al, rd_lf, rd_la, rd_leq, rd_lne, rd_fr, rd_ar, ne_eq, Nat.reduceEqDiff, not_false_eq_true]); push_cast; omega
                · rw [← h2_, lx_e_go (p := p_ + k_)]
                  rw [if_pos (by constructor; omega; omega)]; rfl
                · unfold lx_pk; rw [← e9_]; first | rw [if_pos (by omega), h3_] | rw [if_neg (by omega)]
              · (try simp only [rd_eq, rd_ne, rf_eq, rf_nk, rf_nt, rd_fa, rd_af, rd_fl, rd_al, rd_lf, rd_la, rd_leq, rd_lne, rd_fr, rd_ar, ne_eq, Nat.reduceEqDiff, not_false_eq_true]); omega
        · have c8_ : ¬ ((i_or (S_.2.2.1 98 0 (S_.1 10 0 8).toNat) 32) < 97) := of_decide_eq_false c8_
          refine sm_T_go 2 (c1 := (35, [some (.inr (.inr (some (10, 0)))), some (.inr (.inl x_)), none, some (.inl (S_.2.2.1 98 0 (S_.1 10 0 8).toNat)), none], [.inl 32, .inl (S_.2.2.1 98 0 (S_.1 10 0 8).toNat)], S_)) rfl ?_
          refine sm_T_bin (w := (i_or (S_.2.2.1 98 0 (S_.1 10 0 8).toNat) 32)) rfl rfl ?_
          have b36_ := lx_or (x := (S_.2.2.1 98 0 (S_.1 10 0 8).toNat)) (by omega) (by omega)
          refine sm_T_go 1 (c1 := (38, [some (.inr (.inr (some (10, 0)))), some (.inr (.inl x_)), none, some (.inl (S_.2.2.1 98 0 (S_.1 10 0 8).toNat)), none], [.inl 122, .inl (i_or (S_.2.2.1 98 0 (S_.1 10 0 8).toNat) 32)], S_)) rfl ?_
          refine sm_T_br (a := 5) (z := 9) rfl (fun c37_ => ?_) (fun c37_ => ?_)
          · have c37_ : (i_or (S_.2.2.1 98 0 (S_.1 10 0 8).toNat) 32) ≤ 122 := of_decide_eq_true c37_
            have b38_ : 0 ≤ S_.1 10 0 4 ∧ S_.1 10 0 4 ≤ 1280 := hI_.1 10 0 4 rfl
            refine sm_T_go 8 (c1 := (80, [some (.inr (.inr (some (10, 0)))), some (.inr (.inl x_)), none, some (.inl (S_.2.2.1 98 0 (S_.1 10 0 8).toNat)), some (.inl 1)], [.inl 8, .inl (S_.1 10 0 4)], S_)) rfl ?_
            refine sm_T_br (a := 3) (z := 13) rfl (fun c39_ => ?_) (fun c39_ => ?_)
            · have c39_ : 8 ≤ (S_.1 10 0 4) := of_decide_eq_true c39_
              refine sm_T_go 6 (c1 := (101, [some (.inr (.inr (some (10, 0)))), some (.inr (.inl 0)), none, some (.inl (S_.2.2.1 98 0 (S_.1 10 0 8).toNat)), some (.inl 1)], [.inl 1, .inl (S_.1 10 0 4), .inr (.inr (some (10, 0)))], S_)) rfl ?_
              refine sm_T_bin (w := (S_.1 10 0 4) + 1) rfl (bi_add (by omega) (by omega) (by omega)) ?_
              have hI40_ : gi (sm_pI S_ 10 0 4 ((S_.1 10 0 4) + 1)) := gi_pI hI_ (show 0 ≤ (S_.1 10 0 4) + 1 ∧ (S_.1 10 0 4) + 1 ≤ 1280 from ⟨by omega, by omega⟩)
              have hF41_ : ai_fr (sx_W vw_193) S0_ (sm_pI S_ 10 0 4 ((S_.1 10 0 4) + 1)) := ai_fr_tr hF_ (ai_fr_pI rfl)
              refine sm_T_go 5 (c1 := (111, [some (.inr (.inr (some (10, 0)))), some (.inr (.inl 0)), none, some (.inl (S_.2.2.1 98 0 (S_.1 10 0 8).toNat)), some (.inl 1)], [.inl 1, .inl (S_.1 10 0 8), .inr (.inr (some (10, 0)))], sm_pI S_ 10 0 4 ((S_.1 10 0 4) + 1))) rfl ?_
              refine sm_T_bin (w := (S_.1 10 0 8) + 1) rfl (bi_add (by omega) (by omega) (by omega)) ?_
              have hI42_ : gi (sm_pI (sm_pI S_ 10 0 4 ((S_.1 10 0 4) + 1)) 10 0 8 ((S_.1 10 0 8) + 1)) := gi_pI hI40_ (show 0 ≤ (S_.1 10 0 8) + 1 ∧ (S_.1 10 0 8) + 1 ≤ 1280 from ⟨by omega, by omega⟩)
              have hF43_ : ai_fr (sx_W vw_193) S0_ (sm_pI (sm_pI S_ 10 0 4 ((S_.1 10 0 4) + 1)) 10 0 8 ((S_.1 10 0 8) + 1)) := ai_fr_tr hF41_ (ai_fr_pI rfl)
              refine sm_T_go 2 (c1 := (2, [some (.inr (.inr (some (10, 0)))), some (.inr (.inl 0)), none, some (.inl (S_.2.2.1 98 0 (S_.1 10 0 8).toNat)), some (.inl 1)], [], sm_pI (sm_pI S_ 10 0 4 ((S_.1 10 0 4) + 1)) 10 0 8 ((S_.1 10 0 8) + 1))) rfl ?_
              refine sm_T_wk [some (.inr (.inr (some (10, 0)))), some (.inr (.inl 0)), none, none, none] (by exact ⟨rfl, rfl, trivial⟩) ?_
              refine ih_.1 0 (sm_pI (sm_pI S_ 10 0 4 ((S_.1 10 0 4) + 1)) 10 0 8 ((S_.1 10 0 8) + 1)) hI42_ hF43_ ⟨?_, trivial⟩ ?_
              · refine ⟨k_ + 1, ?_, ?_, by omega, ?_, ?_⟩
                · (try simp only [rd_eq, rd_ne, rf_eq, rf_nk, rf_nt, rd_fa, rd_af, rd_fl, rd_al, rd_lf, rd_la, rd_leq, rd_lne, rd_fr, rd_ar, ne_eq, Nat.reduceEqDiff, not_false_eq_true]); push_cast; omega
                · (try simp only [rd_eq, rd_ne, rf_eq, rf_nk, rf_nt, rd_fa, rd_af, rd_fl, rd_al, rd_lf, rd_la, rd_leq, rd_lne, rd_fr, rd_ar, ne_eq, Nat.reduceEqDiff, not_false_eq_true]); push_cast; omega
                · rw [← h2_, lx_e_go (p := p_ + k_)]
                  rw [if_pos (by constructor; omega; omega)]; rfl
                · unfold lx_pk; rw [← e9_]; first | rw [if_pos (by omega), h3_] | rw [if_neg (by omega)]
              · (try simp only [rd_eq, rd_ne, rf_eq, rf_nk, rf_nt, rd_fa, rd_af, rd_fl, rd_al, rd_lf, rd_la, rd_leq, rd_lne, rd_fr, rd_ar, ne_eq, Nat.reduceEqDiff, not_false_eq_true]); omega
            · have c39_ : ¬ (8 ≤ (S_.1 10 0 4)) := of_decide_eq_false c39_
              refine sm_T_go 12 (c1 := (101, [some (.inr (.inr (some (10, 0)))), some (.inr (.inl (l_4 ((l_s0 x_ 7)) ((l_i2l (S_.2.2.1 98 0 (S_.1 10 0 8).toNat)))))), none, some (.inl (S_.2.2.1 98 0 (S_.1 10 0 8).toNat)), some (.inl 1)], [.inl 1, .inl (S_.1 10 0 4), .inr (.inr (some (10, 0)))], S_)) rfl ?_
              refine sm_T_bin (w := (S_.1 10 0 4) + 1) rfl (bi_add (by omega) (by omega) (by omega)) ?_
              have hI44_ : gi (sm_pI S_ 10 0 4 ((S_.1 10 0 4) + 1)) := gi_pI hI_ (show 0 ≤ (S_.1 10 0 4) + 1 ∧ (S_.1 10 0 4) + 1 ≤ 1280 from ⟨by omega, by omega⟩)
              have hF45_ : ai_fr (sx_W vw_193) S0_ (sm_pI S_ 10 0 4 ((S_.1 10 0 4) + 1)) := ai_fr_tr hF_ (ai_fr_pI rfl)
              refine sm_T_go 5 (c1 := (111, [some (.inr (.inr (some (10, 0)))), some (.inr (.inl (l_4 ((l_s0 x_ 7)) ((l_i2l (S_.2.2.1 98 0 (S_.1 10 0 8).toNat)))))), none, some (.inl (S_.2.2.1 98 0 (S_.1 10 0 8).toNat)), some (.inl 1)], [.inl 1, .inl (S_.1 10 0 8), .inr (.inr (some (10, 0)))], sm_pI S_ 10 0 4 ((S_.1 10 0 4) + 1))) rfl ?_
              refine sm_T_bin (w := (S_.1 10 0 8) + 1) rfl (bi_add (by omega) (by omega) (by omega)) ?_
              have hI46_ : gi (sm_pI (sm_pI S_ 10 0 4 ((S_.1 10 0 4) + 1)) 10 0 8 ((S_.1 10 0 8) + 1)) := gi_pI hI44_ (show 0 ≤ (S_.1 10 0 8) + 1 ∧ (S_.1 10 0 8) + 1 ≤ 1280 from ⟨by omega, by omega⟩)
              have hF47_ : ai_fr (sx_W vw_193) S0_ (sm_pI (sm_pI S_ 10 0 4 ((S_.1 10 0 4) + 1)) 10 0 8 ((S_.1 10 0 8) + 1)) := ai_fr_tr hF45_ (ai_fr_pI rfl)
              refine sm_T_go 2 (c1 := (2, [some (.inr (.inr (some (10, 0)))), some (.inr (.inl (l_4 ((l_s0 x_ 7)) ((l_i2l (S_.2.2.1 98 0 (S_.1 10 0 8).toNat)))))), none, some (.inl (S_.2.2.1 98 0 (S_.1 10 0 8).toNat)), some (.inl 1)], [], sm_pI (sm_pI S_ 10 0 4 ((S_.1 10 0 4) + 1)) 10 0 8 ((S_.1 10 0 8) + 1))) rfl ?_
              refine sm_T_wk [some (.inr (.inr (some (10, 0)))), some (.inr (.inl (l_4 ((l_s0 x_ 7)) ((l_i2l (S_.2.2.1 98 0 (S_.1 10 0 8).toNat)))))), none, none, none] (by exact ⟨rfl, rfl, trivial⟩) ?_
              refine ih_.1 ((l_4 ((l_s0 x_ 7)) ((l_i2l (S_.2.2.1 98 0 (S_.1 10 0 8).toNat))))) (sm_pI (sm_pI S_ 10 0 4 ((S_.1 10 0 4) + 1)) 10 0 8 ((S_.1 10 0 8) + 1)) hI46_ hF47_ ⟨?_, trivial⟩ ?_
              · refine ⟨k_ + 1, ?_, ?_, by omega, ?_, ?_⟩
                · (try simp only [rd_eq, rd_ne, rf_eq, rf_nk, rf_nt, rd_fa, rd_af, rd_fl, rd_al, rd_lf, rd_la, rd_leq, rd_lne, rd_fr, rd_ar, ne_eq, Nat.reduceEqDiff, not_false_eq_true]); push_cast; omega
                · (try simp only [rd_eq, rd_ne, rf_eq, rf_nk, rf_nt, rd_fa, rd_af, rd_fl, rd_al, rd_lf, rd_la, rd_leq, rd_lne, rd_fr, rd_ar, ne_eq, Nat.reduceEqDiff, not_false_eq_true]); push_cast; omega
                · rw [← h2_, lx_e_go (p := p_ + k_)]
                  rw [if_pos (by constructor; omega; omega)]; rfl
                · unfold lx_pk; rw [← e9_]; first | rw [if_pos (by omega), h3_] | rw [if_neg (by omega)]
              · (try simp only [rd_eq, rd_ne, rf_eq, rf_nk, rf_nt, rd_fa, rd_af, rd_fl, rd_al, rd_lf, rd_la, rd_leq, rd_lne, rd_fr, rd_ar, ne_eq, Nat.reduceEqDiff, not_false_eq_true]); omega
          · have c37_ : ¬ ((i_or (S_.2.2.1 98 0 (S_.1 10 0 8).toNat) 32) ≤ 122) := of_decide_eq_false c37_
            refine sm_T_go 2 (c1 := (44, [some (.inr (.inr (some (10, 0)))), some (.inr (.inl x_)), none, some (.inl (S_.2.2.1 98 0 (S_.1 10 0 8).toNat)), none], [.inl 95, .inl (S_.2.2.1 98 0 (S_.1 10 0 8).toNat)], S_)) rfl ?_
            refine sm_T_br (a := 1) (z := 7) rfl (fun c48_ => ?_) (fun c48_ => ?_)
            · have c48_ : (S_.2.2.1 98 0 (S_.1 10 0 8).toNat) ≠ 95 := of_decide_eq_true c48_
              refine sm_T_go 6 (c1 := (62, [some (.inr (.inr (some (10, 0)))), some (.inr (.inl x_)), none, some (.inl (S_.2.2.1 98 0 (S_.1 10 0 8).toNat)), some (.inl 0)], [.inl 48, .inl (S_.2.2.1 98 0 (S_.1 10 0 8).toNat)], S_)) rfl ?_
              refine sm_T_br (a := 2) (z := 56) rfl (fun c49_ => ?_) (fun c49_ => ?_)
              · have c49_ : (S_.2.2.1 98 0 (S_.1 10 0 8).toNat) < 48 := of_decide_eq_true c49_
                have hI50_ : gi (sm_pI S_ 10 0 2 1) := gi_pI hI_ (show (-128) ≤ 1 ∧ 1 ≤ 257 from ⟨by omega, by omega⟩)
                have hF51_ : ai_fr (sx_W vw_193) S0_ (sm_pI S_ 10 0 2 1) := ai_fr_tr hF_ (ai_fr_pI rfl)
                refine sm_T_go 5 (c1 := (125, [some (.inr (.inr (some (10, 0)))), some (.inr (.inl x_)), none, some (.inl 0), some (.inl 0)], [], sm_pI S_ 10 0 2 1)) rfl ?_
                refine sm_T_wk [some (.inr (.inr (some (10, 0)))), some (.inr (.inl x_)), none, some (.inl 0), none] (by exact ⟨rfl, rfl, rfl, trivial⟩) ?_
                refine ih_.2 x_ 0 (sm_pI S_ 10 0 2 1) hI50_ hF51_ ⟨?_, ?_, ?_, trivial⟩ ?_
                · omega
                · have e4_ : lx_ne b_ n_ p_ = p_ + k_ := by rw [← h2_, lx_e_go]; exact if_neg (by omega)
                  rw [e4_]
                  (try simp only [rd_eq, rd_ne, rf_eq, rf_nk, rf_nt, rd_fa, rd_af, rd_fl, rd_al, rd_lf, rd_la, rd_leq, rd_lne, rd_fr, rd_ar, ne_eq, Nat.reduceEqDiff, not_false_eq_true])
                  refine ⟨by omega, by omega, ?_⟩
                  rw [h3_]; congr 1; omega
                · (try simp only [rd_eq, rd_ne, rf_eq, rf_nk, rf_nt, rd_fa, rd_af, rd_fl, rd_al, rd_lf, rd_la, rd_leq, rd_lne, rd_fr, rd_ar, ne_eq, Nat.reduceEqDiff, not_false_eq_true]); rfl
                · (try simp only [rd_eq, rd_ne, rf_eq, rf_nk, rf_nt, rd_fa, rd_af, rd_fl, rd_al, rd_lf, rd_la, rd_leq, rd_lne, rd_fr, rd_ar, ne_eq, Nat.reduceEqDiff, not_false_eq_true]); omega
              · have c49_ : ¬ ((S_.2.2.1 98 0 (S_.1 10 0 8).toNat) < 48) := of_decide_eq_false c49_
                refine sm_T_go 2 (c1 := (68, [some (.inr (.inr (some (10, 0)))), some (.inr (.inl x_)), none, some (.inl (S_.2.2.1 98 0 (S_.1 10 0 8).toNat)), some (.inl 0)], [.inl 57, .inl (S_.2.2.1 98 0 (S_.1 10 0 8).toNat)], S_)) rfl ?_
                refine sm_T_br (a := 5) (z := 6) rfl (fun c52_ => ?_) (fun c52_ => ?_)
                · have c52_ : (S_.2.2.1 98 0 (S_.1 10 0 8).toNat) ≤ 57 := of_decide_eq_true c52_
                  have b53_ : 0 ≤ S_.1 10 0 4 ∧ S_.1 10 0 4 ≤ 1280 := hI_.1 10 0 4 rfl
                  refine sm_T_go 3 (c1 := (80, [some (.inr (.inr (some (10, 0)))), some (.inr (.inl x_)), none, some (.inl (S_.2.2.1 98 0 (S_.1 10 0 8).toNat)), some (.inl 0)], [.inl 8, .inl (S_.1 10 0 4)], S_)) rfl ?_
                  refine sm_T_br (a := 3) (z := 13) rfl (fun c54_ => ?_) (fun c54_ => ?_)
                  · have c54_ : 8 ≤ (S_.1 10 0 4) := of_decide_eq_true c54_
                    refine sm_T_go 6 (c1 := (101, [some (.inr (.inr (some (10, 0)))), some (.inr (.inl 0)), none, some (.inl (S_.2.2.1 98 0 (S_.1 10 0 8).toNat)), some (.inl 0)], [.inl 1, .inl (S_.1 10 0 4), .inr (.inr (some (10, 0)))], S_)) rfl ?_
                    refine sm_T_bin (w := (S_.1 10 0 4) + 1) rfl (bi_add (by omega) (by omega) (by omega)) ?_
                    have hI55_ : gi (sm_pI S_ 10 0 4 ((S_.1 10 0 4) + 1)) := gi_pI hI_ (show 0 ≤ (S_.1 10 0 4) + 1 ∧ (S_.1 10 0 4) + 1 ≤ 1280 from ⟨by omega, by omega⟩)
                    have hF56_ : ai_fr (sx_W vw_193) S0_ (sm_pI S_ 10 0 4 ((S_.1 10 0 4) + 1)) := ai_fr_tr hF_ (ai_fr_pI rfl)
                    refine sm_T_go 5 (c1 := (111, [some (.inr (.inr (some (10, 0)))), some (.inr (.inl 0)), none, some (.inl (S_.2.2.1 98 0 (S_.1 10 0 8).toNat)), some (.inl 0)], [.inl 1, .inl (S_.1 10 0 8), .inr (.inr (some (10, 0)))], sm_pI S_ 10 0 4 ((S_.1 10 0 4) + 1))) rfl ?_
                    refine sm_T_bin (w := (S_.1 10 0 8) + 1) rfl (bi_add (by omega) (by omega) (by omega)) ?_
                    have hI57_ : gi (sm_pI (sm_pI S_ 10 0 4 ((S_.1 10 0 4) + 1)) 10 0 8 ((S_.1 10 0 8) + 1)) := gi_pI hI55_ (show 0 ≤ (S_.1 10 0 8) + 1 ∧ (S_.1 10 0 8) + 1 ≤ 1280 from ⟨by omega, by omega⟩)
                    have hF58_ : ai_fr (sx_W vw_193) S0_ (sm_pI (sm_pI S_ 10 0 4 ((S_.1 10 0 4) + 1)) 10 0 8 ((S_.1 10 0 8) + 1)) := ai_fr_tr hF56_ (ai_fr_pI rfl)
                    refine sm_T_go 2 (c1 := (2, [some (.inr (.inr (some (10, 0)))), some (.inr (.inl 0)), none, some (.inl (S_.2.2.1 98 0 (S_.1 10 0 8).toNat)), some (.inl 0)], [], sm_pI (sm_pI S_ 10 0 4 ((S_.1 10 0 4) + 1)) 10 0 8 ((S_.1 10 0 8) + 1))) rfl ?_
                    refine sm_T_wk [some (.inr (.inr (some (10, 0)))), some (.inr (.inl 0)), none, none, none] (by exact ⟨rfl, rfl, trivial⟩) ?_
                    refine ih_.1 0 (sm_pI (sm_pI S_ 10 0 4 ((S_.1 10 0 4) + 1)) 10 0 8 ((S_.1 10 0 8) + 1)) hI57_ hF58_ ⟨?_, trivial⟩ ?_
                    · refine ⟨k_ + 1, ?_, ?_, by omega, ?_, ?_⟩
                      · (try simp only [rd_eq, rd_ne, rf_eq, rf_nk, rf_nt, rd_fa, rd_af, rd_fl, rd_al, rd_lf, rd_la, rd_leq, rd_lne, rd_fr, rd_ar, ne_eq, Nat.reduceEqDiff, not_false_eq_true]); push_cast; omega
                      · (try simp only [rd_eq, rd_ne, rf_eq, rf_nk, rf_nt, rd_fa, rd_af, rd_fl, rd_al, rd_lf, rd_la, rd_leq, rd_lne, rd_fr, rd_ar, ne_eq, Nat.reduceEqDiff, not_false_eq_true]); push_cast; omega
                      · rw [← h2_, lx_e_go (p := p_ + k_)]
                        rw [if_pos (by constructor; omega; omega)]; rfl
                      · unfold lx_pk; rw [← e9_]; first | rw [if_pos (by omega), h3_] | rw [if_neg (by omega)]
                    · (try simp only [rd_eq, rd_ne, rf_eq, rf_nk, rf_nt, rd_fa, rd_af, rd_fl, rd_al, rd_lf, rd_la, rd_leq, rd_lne, rd_fr, rd_ar, ne_eq, Nat.reduceEqDiff, not_false_eq_true]); omega
                  · have c54_ : ¬ (8 ≤ (S_.1 10 0 4)) := of_decide_eq_false c54_
                    refine sm_T_go 12 (c1 := (101, [some (.inr (.inr (some (10, 0)))), some (.inr (.inl (l_4 ((l_s0 x_ 7)) ((l_i2l (S_.2.2.1 98 0 (S_.1 10 0 8).toNat)))))), none, some (.inl (S_.2.2.1 98 0 (S_.1 10 0 8).toNat)), some (.inl 0)], [.inl 1, .inl (S_.1 10 0 4), .inr (.inr (some (10, 0)))], S_)) rfl ?_
                    refine sm_T_bin (w := (S_.1 10 0 4) + 1) rfl (bi_add (by omega) (by omega) (by omega)) ?_
                    have hI59_ : gi (sm_pI S_ 10 0 4 ((S_.1 10 0 4) + 1)) := gi_pI hI_ (show 0 ≤ (S_.1 10 0 4) + 1 ∧ (S_.1 10 0 4) + 1 ≤ 1280 from ⟨by omega, by omega⟩)
                    have hF60_ : ai_fr (sx_W vw_193) S0_ (sm_pI S_ 10 0 4 ((S_.1 10 0 4) + 1)) := ai_fr_tr hF_ (ai_fr_pI rfl)
                    refine sm_T_go 5 (c1 := (111, [some (.inr (.inr (some (10, 0)))), some (.inr (.inl (l_4 ((l_s0 x_ 7)) ((l_i2l (S_.2.2.1 98 0 (S_.1 10 0 8).toNat)))))), none, some (.inl (S_.2.2.1 98 0 (S_.1 10 0 8).toNat)), some (.inl 0)], [.inl 1, .inl (S_.1 10 0 8), .inr (.inr (some (10, 0)))], sm_pI S_ 10 0 4 ((S_.1 10 0 4) + 1))) rfl ?_
                    refine sm_T_bin (w := (S_.1 10 0 8) + 1) rfl (bi_add (by omega) (by omega) (by omega)) ?_
                    have hI61_ : gi (sm_pI (sm_pI S_ 10 0 4 ((S_.1 10 0 4) + 1)) 10 0 8 ((S_.1 10 0 8) + 1)) := gi_pI hI59_ (show 0 ≤ (S_.1 10 0 8) + 1 ∧ (S_.1 10 0 8) + 1 ≤ 1280 from ⟨by omega, by omega⟩)
                    have hF62_ : ai_fr (sx_W vw_193) S0_ (sm_pI (sm_pI S_ 10 0 4 ((S_.1 10 0 4) + 1)) 10 0 8 ((S_.1 10 0 8) + 1)) := ai_fr_tr hF60_ (ai_fr_pI rfl)
                    refine sm_T_go 2 (c1 := (2, [some (.inr (.inr (some (10, 0)))), some (.inr (.inl (l_4 ((l_s0 x_ 7)) ((l_i2l (S_.2.2.1 98 0 (S_.1 10 0 8).toNat)))))), none, some (.inl (S_.2.2.1 98 0 (S_.1 10 0 8).toNat)), some (.inl 0)], [], sm_pI (sm_pI S_ 10 0 4 ((S_.1 10 0 4) + 1)) 10 0 8 ((S_.1 10 0 8) + 1))) rfl ?_
                    refine sm_T_wk [some (.inr (.inr (some (10, 0)))), some (.inr (.inl (l_4 ((l_s0 x_ 7)) ((l_i2l (S_.2.2.1 98 0 (S_.1 10 0 8).toNat)))))), none, none, none] (by exact ⟨rfl, rfl, trivial⟩) ?_
                    refine ih_.1 ((l_4 ((l_s0 x_ 7)) ((l_i2l (S_.2.2.1 98 0 (S_.1 10 0 8).toNat))))) (sm_pI (sm_pI S_ 10 0 4 ((S_.1 10 0 4) + 1)) 10 0 8 ((S_.1 10 0 8) + 1)) hI61_ hF62_ ⟨?_, trivial⟩ ?_
                    · refine ⟨k_ + 1, ?_, ?_, by omega, ?_, ?_⟩
                      · (try simp only [rd_eq, rd_ne, rf_eq, rf_nk, rf_nt, rd_fa, rd_af, rd_fl, rd_al, rd_lf, rd_la, rd_leq, rd_lne, rd_fr, rd_ar, ne_eq, Nat.reduceEqDiff, not_false_eq_true]); push_cast; omega
                      · (try simp only [rd_eq, rd_ne, rf_eq, rf_nk, rf_nt, rd_fa, rd_af, rd_fl, rd_al, rd_lf, rd_la, rd_leq, rd_lne, rd_fr, rd_ar, ne_eq, Nat.reduceEqDiff, not_false_eq_true]); push_cast; omega
                      · rw [← h2_, lx_e_go (p := p_ + k_)]
                        rw [if_pos (by constructor; omega; omega)]; rfl
                      · unfold lx_pk; rw [← e9_]; first | rw [if_pos (by omega), h3_] | rw [if_neg (by omega)]
                    · (try simp only [rd_eq, rd_ne, rf_eq, rf_nk, rf_nt, rd_fa, rd_af, rd_fl, rd_al, rd_lf, rd_la, rd_leq, rd_lne, rd_fr, rd_ar, ne_eq, Nat.reduceEqDiff, not_false_eq_true]); omega
                · have c52_ : ¬ ((S_.2.2.1 98 0 (S_.1 10 0 8).toNat) ≤ 57) := of_decide_eq_false c52_
                  have hI63_ : gi (sm_pI S_ 10 0 2 1) := gi_pI hI_ (show (-128) ≤ 1 ∧ 1 ≤ 257 from ⟨by omega, by omega⟩)
                  have hF64_ : ai_fr (sx_W vw_193) S0_ (sm_pI S_ 10 0 2 1) := ai_fr_tr hF_ (ai_fr_pI rfl)
                  refine sm_T_go 6 (c1 := (125, [some (.inr (.inr (some (10, 0)))), some (.inr (.inl x_)), none, some (.inl 0), some (.inl 0)], [], sm_pI S_ 10 0 2 1)) rfl ?_
                  refine sm_T_wk [some (.inr (.inr (some (10, 0)))), some (.inr (.inl x_)), none, some (.inl 0), none] (by exact ⟨rfl, rfl, rfl, trivial⟩) ?_
                  refine ih_.2 x_ 0 (sm_pI S_ 10 0 2 1) hI63_ hF64_ ⟨?_, ?_, ?_, trivial⟩ ?_
                  · omega
                  · have e4_ : lx_ne b_ n_ p_ = p_ + k_ := by rw [← h2_, lx_e_go]; exact if_neg (by omega)
                    rw [e4_]
                    (try simp only [rd_eq, rd_ne, rf_eq, rf_nk, rf_nt, rd_fa, rd_af, rd_fl, rd_al, rd_lf, rd_la, rd_leq, rd_lne, rd_fr, rd_ar, ne_eq, Nat.reduceEqDiff, not_false_eq_true])
                    refine ⟨by omega, by omega, ?_⟩
                    rw [h3_]; congr 1; omega
                  · (try simp only [rd_eq, rd_ne, rf_eq, rf_nk, rf_nt, rd_fa, rd_af, rd_fl, rd_al, rd_lf, rd_la, rd_leq, rd_lne, rd_fr, rd_ar, ne_eq, Nat.reduceEqDiff, not_false_eq_true]); rfl
                  · (try simp only [rd_eq, rd_ne, rf_eq, rf_nk, rf_nt, rd_fa, rd_af, rd_fl, rd_al, rd_lf, rd_la, rd_leq, rd_lne, rd_fr, rd_ar, ne_eq, Nat.reduceEqDiff, not_false_eq_true]); omega
            · have c48_ : ¬ ((S_.2.2.1 98 0 (S_.1 10 0 8).toNat) ≠ 95) := of_decide_eq_false c48_
              have b65_ : 0 ≤ S_.1 10 0 4 ∧ S_.1 10 0 4 ≤ 1280 := hI_.1 10 0 4 rfl
              refine sm_T_go 8 (c1 := (80, [some (.inr (.inr (some (10, 0)))), some (.inr (.inl x_)), none, some (.inl (S_.2.2.1 98 0 (S_.1 10 0 8).toNat)), some (.inl 1)], [.inl 8, .inl (S_.1 10 0 4)], S_)) rfl ?_
              refine sm_T_br (a := 3) (z := 13) rfl (fun c66_ => ?_) (fun c66_ => ?_)
              · have c66_ : 8 ≤ (S_.1 10 0 4) := of_decide_eq_true c66_
                refine sm_T_go 6 (c1 := (101, [some (.inr (.inr (some (10, 0)))), some (.inr (.inl 0)), none, some (.inl (S_.2.2.1 98 0 (S_.1 10 0 8).toNat)), some (.inl 1)], [.inl 1, .inl (S_.1 10 0 4), .inr (.inr (some (10, 0)))], S_)) rfl ?_
                refine sm_T_bin (w := (S_.1 10 0 4) + 1) rfl (bi_add (by omega) (by omega) (by omega)) ?_
                have hI67_ : gi (sm_pI S_ 10 0 4 ((S_.1 10 0 4) + 1)) := gi_pI hI_ (show 0 ≤ (S_.1 10 0 4) + 1 ∧ (S_.1 10 0 4) + 1 ≤ 1280 from ⟨by omega, by omega⟩)
                have hF68_ : ai_fr (sx_W vw_193) S0_ (sm_pI S_ 10 0 4 ((S_.1 10 0 4) + 1)) := ai_fr_tr hF_ (ai_fr_pI rfl)
                refine sm_T_go 5 (c1 := (111, [some (.inr (.inr (some (10, 0)))), some (.inr (.inl 0)), none, some (.inl (S_.2.2.1 98 0 (S_.1 10 0 8).toNat)), some (.inl 1)], [.inl 1, .inl (S_.1 10 0 8), .inr (.inr (some (10, 0)))], sm_pI S_ 10 0 4 ((S_.1 10 0 4) + 1))) rfl ?_
                refine sm_T_bin (w := (S_.1 10 0 8) + 1) rfl (bi_add (by omega) (by omega) (by omega)) ?_
                have hI69_ : gi (sm_pI (sm_pI S_ 10 0 4 ((S_.1 10 0 4) + 1)) 10 0 8 ((S_.1 10 0 8) + 1)) := gi_pI hI67_ (show 0 ≤ (S_.1 10 0 8) + 1 ∧ (S_.1 10 0 8) + 1 ≤ 1280 from ⟨by omega, by omega⟩)
                have hF70_ : ai_fr (sx_W vw_193) S0_ (sm_pI (sm_pI S_ 10 0 4 ((S_.1 10 0 4) + 1)) 10 0 8 ((S_.1 10 0 8) + 1)) := ai_fr_tr hF68_ (ai_fr_pI rfl)
                refine sm_T_go 2 (c1 := (2, [some (.inr (.inr (some (10, 0)))), some (.inr (.inl 0)), none, some (.inl (S_.2.2.1 98 0 (S_.1 10 0 8).toNat)), some (.inl 1)], [], sm_pI (sm_pI S_ 10 0 4 ((S_.1 10 0 4) + 1)) 10 0 8 ((S_.1 10 0 8) + 1))) rfl ?_
                refine sm_T_wk [some (.inr (.inr (some (10, 0)))), some (.inr (.inl 0)), none, none, none] (by exact ⟨rfl, rfl, trivial⟩) ?_
                refine ih_.1 0 (sm_pI (sm_pI S_ 10 0 4 ((S_.1 10 0 4) + 1)) 10 0 8 ((S_.1 10 0 8) + 1)) hI69_ hF70_ ⟨?_, trivial⟩ ?_
                · refine ⟨k_ + 1, ?_, ?_, by omega, ?_, ?_⟩
                  · (try simp only [rd_eq, rd_ne, rf_eq, rf_nk, rf_nt, rd_fa, rd_af, rd_fl, rd_al, rd_lf, rd_la, rd_leq, rd_lne, rd_fr, rd_ar, ne_eq, Nat.reduceEqDiff, not_false_eq_true]); push_cast; omega
                  · (try simp only [rd_eq, rd_ne, rf_eq, rf_nk, rf_nt, rd_fa, rd_af, rd_fl, rd_al, rd_lf, rd_la, rd_leq, rd_lne, rd_fr, rd_ar, ne_eq, Nat.reduceEqDiff, not_false_eq_true]); push_cast; omega
                  · rw [← h2_, lx_e_go (p := p_ + k_)]
                    rw [if_pos (by constructor; omega; omega)]; rfl
                  · unfold lx_pk; rw [← e9_]; first | rw [if_pos (by omega), h3_] | rw [if_neg (by omega)]
                · (try simp only [rd_eq, rd_ne, rf_eq, rf_nk, rf_nt, rd_fa, rd_af, rd_fl, rd_al, rd_lf, rd_la, rd_leq, rd_lne, rd_fr, rd_ar, ne_eq, Nat.reduceEqDiff, not_false_eq_true]); omega
              · have c66_ : ¬ (8 ≤ (S_.1 10 0 4)) := of_decide_eq_false c66_
                refine sm_T_go 12 (c1 := (101, [some (.inr (.inr (some (10, 0)))), some (.inr (.inl (l_4 ((l_s0 x_ 7)) ((l_i2l (S_.2.2.1 98 0 (S_.1 10 0 8).toNat)))))), none, some (.inl (S_.2.2.1 98 0 (S_.1 10 0 8).toNat)), some (.inl 1)], [.inl 1, .inl (S_.1 10 0 4), .inr (.inr (some (10, 0)))], S_)) rfl ?_
                refine sm_T_bin (w := (S_.1 10 0 4) + 1) rfl (bi_add (by omega) (by omega) (by omega)) ?_
                have hI71_ : gi (sm_pI S_ 10 0 4 ((S_.1 10 0 4) + 1)) := gi_pI hI_ (show 0 ≤ (S_.1 10 0 4) + 1 ∧ (S_.1 10 0 4) + 1 ≤ 1280 from ⟨by omega, by omega⟩)
                have hF72_ : ai_fr (sx_W vw_193) S0_ (sm_pI S_ 10 0 4 ((S_.1 10 0 4) + 1)) := ai_fr_tr hF_ (ai_fr_pI rfl)
                refine sm_T_go 5 (c1 := (111, [some (.inr (.inr (some (10, 0)))), some (.inr (.inl (l_4 ((l_s0 x_ 7)) ((l_i2l (S_.2.2.1 98 0 (S_.1 10 0 8).toNat)))))), none, some (.inl (S_.2.2.1 98 0 (S_.1 10 0 8).toNat)), some (.inl 1)], [.inl 1, .inl (S_.1 10 0 8), .inr (.inr (some (10, 0)))], sm_pI S_ 10 0 4 ((S_.1 10 0 4) + 1))) rfl ?_
                refine sm_T_bin (w := (S_.1 10 0 8) + 1) rfl (bi_add (by omega) (by omega) (by omega)) ?_
                have hI73_ : gi (sm_pI (sm_pI S_ 10 0 4 ((S_.1 10 0 4) + 1)) 10 0 8 ((S_.1 10 0 8) + 1)) := gi_pI hI71_ (show 0 ≤ (S_.1 10 0 8) + 1 ∧ (S_.1 10 0 8) + 1 ≤ 1280 from ⟨by omega, by omega⟩)
                have hF74_ : ai_fr (sx_W vw_193) S0_ (sm_pI (sm_pI S_ 10 0 4 ((S_.1 10 0 4) + 1)) 10 0 8 ((S_.1 10 0 8) + 1)) := ai_fr_tr hF72_ (ai_fr_pI rfl)
                refine sm_T_go 2 (c1 := (2, [some (.inr (.inr (some (10, 0)))), some (.inr (.inl (l_4 ((l_s0 x_ 7)) ((l_i2l (S_.2.2.1 98 0 (S_.1 10 0 8).toNat)))))), none, some (.inl (S_.2.2.1 98 0 (S_.1 10 0 8).toNat)), some (.inl 1)], [], sm_pI (sm_pI S_ 10 0 4 ((S_.1 10 0 4) + 1)) 10 0 8 ((S_.1 10 0 8) + 1))) rfl ?_
                refine sm_T_wk [some (.inr (.inr (some (10, 0)))), some (.inr (.inl (l_4 ((l_s0 x_ 7)) ((l_i2l (S_.2.2.1 98 0 (S_.1 10 0 8).toNat)))))), none, none, none] (by exact ⟨rfl, rfl, trivial⟩) ?_
                refine ih_.1 ((l_4 ((l_s0 x_ 7)) ((l_i2l (S_.2.2.1 98 0 (S_.1 10 0 8).toNat))))) (sm_pI (sm_pI S_ 10 0 4 ((S_.1 10 0 4) + 1)) 10 0 8 ((S_.1 10 0 8) + 1)) hI73_ hF74_ ⟨?_, trivial⟩ ?_
                · refine ⟨k_ + 1, ?_, ?_, by omega, ?_, ?_⟩
                  · (try simp only [rd_eq, rd_ne, rf_eq, rf_nk, rf_nt, rd_fa, rd_af, rd_fl, rd_al, rd_lf, rd_la, rd_leq, rd_lne, rd_fr, rd_ar, ne_eq, Nat.reduceEqDiff, not_false_eq_true]); push_cast; omega
                  · (try simp only [rd_eq, rd_ne, rf_eq, rf_nk, rf_nt, rd_fa, rd_af, rd_fl, rd_al, rd_lf, rd_la, rd_leq, rd_lne, rd_fr, rd_ar, ne_eq, Nat.reduceEqDiff, not_false_eq_true]); push_cast; omega
                  · rw [← h2_, lx_e_go (p := p_ + k_)]
                    rw [if_pos (by constructor; omega; omega)]; rfl
                  · unfold lx_pk; rw [← e9_]; first | rw [if_pos (by omega), h3_] | rw [if_neg (by omega)]
                · (try simp only [rd_eq, rd_ne, rf_eq, rf_nk, rf_nt, rd_fa, rd_af, rd_fl, rd_al, rd_lf, rd_la, rd_leq, rd_lne, rd_fr, rd_ar, ne_eq, Nat.reduceEqDiff, not_false_eq_true]); omega
    · rintro x_ k_ S_ hI_ hF_ ⟨h0_, h1_, h2_, -⟩ hm_
      have hw_ := lx_wk_b x_ k_.toNat
      refine sm_T_go 1 (c1 := (126, [some (.inr (.inr (some (10, 0)))), some (.inr (.inl x_)), none, some (.inl k_), none], [.inl k_], S_)) rfl ?_
      refine sm_T_nt (u := some (.inr (.inr (some (296, 0))))) (S1 := S_) rfl rfl rfl ?_
      refine sm_T_nt (u := some (.inl 7)) (S1 := S_) rfl rfl rfl ?_
      refine sm_T_br (a := 3) (z := 26) rfl (fun c1_ => ?_) (fun c1_ => ?_)
      · have c1_ : 7 ≤ k_ := of_decide_eq_true c1_
        have b2_ : 0 ≤ S_.1 10 0 4 ∧ S_.1 10 0 4 ≤ 1280 := hI_.1 10 0 4 rfl
        refine sm_T_go 3 (c1 := (162, [some (.inr (.inr (some (10, 0)))), some (.inr (.inl x_)), none, some (.inl k_), none], [.inl 12, .inl (S_.1 10 0 4)], S_)) rfl ?_
        refine sm_T_br (a := 4) (z := 7) rfl (fun c3_ => ?_) (fun c3_ => ?_)
        · have c3_ : 12 < (S_.1 10 0 4) := of_decide_eq_true c3_
          refine sm_T_go 1 (c1 := (170, [some (.inr (.inr (some (10, 0)))), some (.inr (.inl x_)), none, some (.inl k_), none], [.inl 0], S_)) rfl ?_
          refine sm_T_rz rfl (by omega) ⟨_, _, rfl, _, rfl, hI_, hF_, ?_⟩
          have e8_ : k_ = 7 := by omega
          subst e8_
          refine ⟨?_, h1_.1, h1_.2.1, ?_⟩
          · first | rw [if_pos (by omega)] | rw [if_neg (by omega)]
          · rw [h2_, h1_.2.2]; rfl
        · have c3_ : ¬ (12 < (S_.1 10 0 4)) := of_decide_eq_false c3_
          refine sm_T_go 2 (c1 := (170, [some (.inr (.inr (some (10, 0)))), some (.inr (.inl x_)), none, some (.inl k_), none], [.inl 1], S_)) rfl ?_
          refine sm_T_rz rfl (by omega) ⟨_, _, rfl, _, rfl, hI_, hF_, ?_⟩
          have e8_ : k_ = 7 := by omega
          subst e8_
          refine ⟨?_, h1_.1, h1_.2.1, ?_⟩
          · first | rw [if_pos (by omega)] | rw [if_neg (by omega)]
          · rw [h2_, h1_.2.2]; rfl
      · have c1_ : ¬ (7 ≤ k_) := of_decide_eq_false c1_
        refine sm_T_go 1 (c1 := (134, [some (.inr (.inr (some (10, 0)))), some (.inr (.inl x_)), none, some (.inl k_), none], [.inr (.inl x_)], S_)) rfl ?_
        refine sm_T_nt (u := some (.inr (.inr (some (296, 0))))) (S1 := S_) rfl rfl rfl ?_
        refine sm_T_go 1 (c1 := (138, [some (.inr (.inr (some (10, 0)))), some (.inr (.inl x_)), none, some (.inl k_), none], [.inl k_, .inr (.inr (some (296, 0))), .inr (.inl x_)], S_)) rfl ?_
        refine sm_T_nt (u := some (.inr (.inl (st_at 0 k_)))) (S1 := S_) rfl rfl (nt_stl (sc := sc_) (j := 0) (n := 7) (by decide) rfl rfl (by omega) (by omega)) ?_
        refine sm_T_go 1 (c1 := (140, [some (.inr (.inr (some (10, 0)))), some (.inr (.inl x_)), none, some (.inl k_), none], [.inl (sm_lcmp x_ ((st_at 0 k_)))], S_)) rfl ?_
        refine sm_T_b0 (a := 1) (z := 10) rfl (fun c4_ => ?_) (fun c4_ => ?_)
        · have c4_ : (sm_lcmp x_ ((st_at 0 k_))) ≠ 0 := of_decide_eq_true c4_
          refine sm_T_inc (a := 3) (z := 1) (v := k_) (w := k_ + 1) rfl rfl (by omega) (by omega) (by omega) ?_
          refine sm_T_go 1 (c1 := (125, [some (.inr (.inr (some (10, 0)))), some (.inr (.inl x_)), none, some (.inl (k_ + 1)), none], [], S_)) rfl ?_
          refine ih_.2 x_ (k_ + 1) S_ hI_ hF_ ⟨?_, ?_, ?_, trivial⟩ ?_
          · omega
          · (try simp only [rd_eq, rd_ne, rf_eq, rf_nk, rf_nt, rd_fa, rd_af, rd_fl, rd_al, rd_lf, rd_la, rd_leq, rd_lne, rd_fr, rd_ar, ne_eq, Nat.reduceEqDiff, not_false_eq_true]); exact h1_
          · have e5_ : (k_ + 1).toNat = k_.toNat + 1 := by omega
            have e6_ := st_ws k_.toNat (by omega)
            have e7_ : ((k_.toNat : Nat) : Int) = k_ := by omega
            rw [e7_] at e6_
            rw [ne_eq, lcmp0, e6_] at c4_
            rw [e5_]; unfold lx_wk
            (try simp only [rd_eq, rd_ne, rf_eq, rf_nk, rf_nt, rd_fa, rd_af, rd_fl, rd_al, rd_lf, rd_la, rd_leq, rd_lne, rd_fr, rd_ar, ne_eq, Nat.reduceEqDiff, not_false_eq_true])
            first | (rw [if_pos (Decidable.of_not_not c4_)]; omega) | (rw [if_neg c4_]; exact h2_)
          · (try simp only [rd_eq, rd_ne, rf_eq, rf_nk, rf_nt, rd_fa, rd_af, rd_fl, rd_al, rd_lf, rd_la, rd_leq, rd_lne, rd_fr, rd_ar, ne_eq, Nat.reduceEqDiff, not_false_eq_true]); omega
        · have c4_ : ¬ ((sm_lcmp x_ ((st_at 0 k_))) ≠ 0) := of_decide_eq_false c4_
          refine sm_T_go 3 (c1 := (146, [some (.inr (.inr (some (10, 0)))), some (.inr (.inl x_)), none, some (.inl k_), none], [.inl k_, .inl 3, .inr (.inr (some (10, 0)))], S_)) rfl ?_
          refine sm_T_bin (w := k_ + 3) rfl (bi_add (by omega) (by omega) (by omega)) ?_
          have hI5_ : gi (sm_pI S_ 10 0 2 (k_ + 3)) := gi_pI hI_ (show (-128) ≤ k_ + 3 ∧ k_ + 3 ≤ 257 from ⟨by omega, by omega⟩)
          have hF6_ : ai_fr (sx_W vw_193) S0_ (sm_pI S_ 10 0 2 (k_ + 3)) := ai_fr_tr hF_ (ai_fr_pI rfl)
          refine sm_T_go 1 (c1 := (150, [some (.inr (.inr (some (10, 0)))), some (.inr (.inl x_)), none, some (.inl k_), none], [], sm_pI S_ 10 0 2 (k_ + 3))) rfl ?_
          refine sm_T_inc (a := 3) (z := 1) (v := k_) (w := k_ + 1) rfl rfl (by omega) (by omega) (by omega) ?_
          refine sm_T_go 1 (c1 := (125, [some (.inr (.inr (some (10, 0)))), some (.inr (.inl x_)), none, some (.inl (k_ + 1)), none], [], sm_pI S_ 10 0 2 (k_ + 3))) rfl ?_
          refine ih_.2 x_ (k_ + 1) (sm_pI S_ 10 0 2 (k_ + 3)) hI5_ hF6_ ⟨?_, ?_, ?_, trivial⟩ ?_
          · omega
          · (try simp only [rd_eq, rd_ne, rf_eq, rf_nk, rf_nt, rd_fa, rd_af, rd_fl, rd_al, rd_lf, rd_la, rd_leq, rd_lne, rd_fr, rd_ar, ne_eq, Nat.reduceEqDiff, not_false_eq_true]); exact h1_
          · have e5_ : (k_ + 1).toNat = k_.toNat + 1 := by omega
            have e6_ := st_ws k_.toNat (by omega)
            have e7_ : ((k_.toNat : Nat) : Int) = k_ := by omega
            rw [e7_] at e6_
            rw [ne_eq, lcmp0, e6_] at c4_
            rw [e5_]; unfold lx_wk
            (try simp only [rd_eq, rd_ne, rf_eq, rf_nk, rf_nt, rd_fa, rd_af, rd_fl, rd_al, rd_lf, rd_la, rd_leq, rd_lne, rd_fr, rd_ar, ne_eq, Nat.reduceEqDiff, not_false_eq_true])
            first | (rw [if_pos (Decidable.of_not_not c4_)]; omega) | (rw [if_neg c4_]; exact h2_)
          · (try simp only [rd_eq, rd_ne, rf_eq, rf_nk, rf_nt, rd_fa, rd_af, rd_fl, rd_al, rd_lf, rd_la, rd_leq, rd_lne, rd_fr, rd_ar, ne_eq, Nat.reduceEqDiff, not_false_eq_true]); omega
theorem vc_193 {sc_ : Nat × (Nat → Int)} (b_ : Nat → Int) (n_ : Nat) (p_ : Nat) (S0_ : sm_S) (hI_ : gi S0_) (hb_ : S0_.2.2.1 98 0 = b_) (hn_ : (S0_.1 10 0 1) = (n_ : Int)) (hn1_ : n_ ≤ 1280) (hp_ : (S0_.1 10 0 8) = (p_ : Int)) (hpn_ : p_ ≤ n_) (hz_ : (S0_.1 10 0 4) = 0) : sm_T (mt_P sc_) 0 193 (0, [some (.inr (.inr (some (10, 0)))), none, none, none, none], [], S0_) (fun r_ => ∃ u_ S1_, r_ = (.inl u_, S1_, 0) ∧ vq_193 b_ n_ p_ S0_ u_ S1_) := by
  have hF_ : ai_fr (sx_W vw_193) S0_ S0_ := ai_fr_rf
  refine sm_T_go 2 (c1 := (2, [some (.inr (.inr (some (10, 0)))), some (.inr (.inl 0)), none, none, none], [], S0_)) rfl ?_
  refine (vl_193 b_ n_ p_ S0_ hb_ hn_ hn1_ hp_ hpn_ hz_ _).1 0 S0_ hI_ hF_ ⟨?_, trivial⟩ (Nat.lt_succ_self _)
  · exact ⟨0, by simpa using hp_, hz_, by omega, rfl, rfl⟩
/-! Text.readNumber -/
def vw_194 : sx_Wl := ([(10, 2), (10, 4), (10, 5), (10, 8)], [], [])
def vq_194 (b_ : Nat → Int) (n_ : Nat) (p_ : Nat) (S0_ : sm_S) (u_ : Option sm_V) (S1_ : sm_S) : Prop := ∃ v_ : Int, u_ = some (.inl v_) ∧ gi S1_ ∧ ai_fr (sx_W vw_194) S0_ S1_ ∧ ((v_ = if lx_de b_ n_ p_ - p_ ≤ 6 then 1 else 0) ∧ (S1_.1 10 0 8) = (lx_de b_ n_ p_ : Nat) ∧ (S1_.1 10 0 4) = (lx_de b_ n_ p_ - p_ : Nat) ∧ (S1_.1 10 0 2) = 2 ∧ (S1_.1 10 0 5) = lx_v b_ p_ (min (lx_de b_ n_ p_ - p_) 6))
theorem vl_194 {sc_ : Nat × (Nat → Int)} (b_ : Nat → Int) (n_ : Nat) (p_ : Nat) (S0_ : sm_S) (hb_ : S0_.2.2.1 98 0 = b_) (hn_ : (S0_.1 10 0 1) = (n_ : Int)) (hn1_ : n_ ≤ 1280) (hp_ : (S0_.1 10 0 8) = (p_ : Int)) (hpn_ : p_ ≤ n_) (hz_ : (S0_.1 10 0 4) = 0) : ∀ nn_ : Nat, (∀  (S_ : sm_S), gi S_ → ai_fr (sx_W vw_194) S0_ S_ → ((∃ k_ : Nat, (S_.1 10 0 8) = ((p_ + k_ : Nat) : Int) ∧ (S_.1 10 0 4) = (k_ : Int) ∧ p_ + k_ ≤ n_ ∧ lx_de b_ n_ (p_ + k_) = lx_de b_ n_ p_ ∧ (S_.1 10 0 5) = lx_v b_ p_ (min k_ 6) ∧ ∀ j_, j_ < k_ → lx_g (b_ (p_ + j_))) ∧ True) → (1400 - (S_.1 10 0 8).toNat) < nn_ → sm_T (mt_P sc_) 0 194 (5, [some (.inr (.inr (some (10, 0))))], [], S_) (fun r_ => ∃ u_ S1_, r_ = (.inl u_, S1_, 0) ∧ vq_194 b_ n_ p_ S0_ u_ S1_)) := by
  intro nn_
  induction nn_ with
  | zero => exact fun  _ _ _ _ h_ => absurd h_ (Nat.not_lt_zero _)
  | succ nn_ ih_ =>
    rintro  S_ hI_ hF_ ⟨h1_, -⟩ hm_
    have hb1_ : S_.2.2.1 98 0 = b_ := (fr_arr hF_ rfl).trans hb_
    have hn2_ : (S_.1 10 0 1) = (n_ : Int) := (hF_.1 10 0 1 rfl).trans hn_
    obtain ⟨k_, hq_, hs_, hqn_, h2_, h3_, h4_⟩ := h1_
    have e_ : (S_.1 10 0 8).toNat = p_ + k_ := by omega
    have e9_ : S_.2.2.1 98 0 (S_.1 10 0 8).toNat = b_ (p_ + k_) := by rw [e_, hb1_]
    have hv_ := lx_v_b (b := b_) (p := p_) (k := min k_ 6) (by omega) (fun j_ hj_ => h4_ j_ (by omega))
    have hv2_ : (10 : Int) ^ (min k_ 6) ≤ 10 ^ 6 := by exact_mod_cast Nat.pow_le_pow_right (by decide) (show min k_ 6 ≤ 6 by omega)
    have hv4_ : (10 : Int) ^ 6 = 1000000 := by decide
    have hv3_ : lx_v b_ p_ (min k_ 6) < 1000000 := by omega
    have b1_ : 0 ≤ S_.1 10 0 8 ∧ S_.1 10 0 8 ≤ 1280 := hI_.1 10 0 8 rfl
    have b2_ : 0 ≤ S_.1 10 0 1 ∧ S_.1 10 0 1 ≤ 1280 := hI_.1 10 0 1 rfl
    refine sm_T_go 4 (c1 := (13, [some (.inr (.inr (some (10, 0))))], [.inl (S_.1 10 0 1), .inl (S_.1 10 0 8)], S_)) rfl ?_
    refine sm_T_br (a := 3) (z := 87) rfl (fun c3_ => ?_) (fun c3_ => ?_)
    · have c3_ : (S_.1 10 0 1) ≤ (S_.1 10 0 8) := of_decide_eq_true c3_
      have hI4_ : gi (sm_pI S_ 10 0 2 2) := gi_pI hI_ (show (-128) ≤ 2 ∧ 2 ≤ 257 from ⟨by omega, by omega⟩)
      have hF5_ : ai_fr (sx_W vw_194) S0_ (sm_pI S_ 10 0 2 2) := ai_fr_tr hF_ (ai_fr_pI rfl)
      have b6_ : 0 ≤ S_.1 10 0 4 ∧ S_.1 10 0 4 ≤ 1280 := hI_.1 10 0 4 rfl
      refine sm_T_go 6 (c1 := (111, [some (.inr (.inr (some (10, 0))))], [.inl 6, .inl (S_.1 10 0 4)], sm_pI S_ 10 0 2 2)) rfl ?_
      refine sm_T_br (a := 4) (z := 7) rfl (fun c7_ => ?_) (fun c7_ => ?_)
      · have c7_ : 6 < (S_.1 10 0 4) := of_decide_eq_true c7_
        refine sm_T_go 1 (c1 := (119, [some (.inr (.inr (some (10, 0))))], [.inl 0], sm_pI S_ 10 0 2 2)) rfl ?_
        refine sm_T_rz rfl (by omega) ⟨_, _, rfl, _, rfl, hI4_, hF5_, ?_⟩
        have e4_ : lx_de b_ n_ p_ = p_ + k_ := by rw [← h2_, lx_f_go]; exact if_neg (by omega)
        rw [e4_]
        (try simp only [rd_eq, rd_ne, rf_eq, rf_nk, rf_nt, rd_fa, rd_af, rd_fl, rd_al, rd_lf, rd_la, rd_leq, rd_lne, rd_fr, rd_ar, ne_eq, Nat.reduceEqDiff, not_false_eq_true])
        refine ⟨?_, by omega, by omega, trivial, ?_⟩
        · first | rw [if_pos (by omega)] | rw [if_neg (by omega)]
        · rw [show p_ + k_ - p_ = k_ by omega]; exact h3_
      · have c7_ : ¬ (6 < (S_.1 10 0 4)) := of_decide_eq_false c7_
        refine sm_T_go 2 (c1 := (119, [some (.inr (.inr (some (10, 0))))], [.inl 1], sm_pI S_ 10 0 2 2)) rfl ?_
        refine sm_T_rz rfl (by omega) ⟨_, _, rfl, _, rfl, hI4_, hF5_, ?_⟩
        have e4_ : lx_de b_ n_ p_ = p_ + k_ := by rw [← h2_, lx_f_go]; exact if_neg (by omega)
        rw [e4_]
        (try simp only [rd_eq, rd_ne, rf_eq, rf_nk, rf_nt, rd_fa, rd_af, rd_fl, rd_al, rd_lf, rd_la, rd_leq, rd_lne, rd_fr, rd_ar, ne_eq, Nat.reduceEqDiff, not_false_eq_true])
        refine ⟨?_, by omega, by omega, trivial, ?_⟩
        · first | rw [if_pos (by omega)] | rw [if_neg (by omega)]
        · rw [show p_ + k_ - p_ = k_ by omega]; exact h3_
    · have c3_ : ¬ ((S_.1 10 0 1) ≤ (S_.1 10 0 8)) := of_decide_eq_false c3_
      refine sm_T_go 4 (c1 := (24, [some (.inr (.inr (some (10, 0))))], [.inl (S_.1 10 0 8), .inr (.inr (some (98, 0)))], S_)) rfl ?_
      refine sm_T_bald (n := 65536) rfl rfl (by omega) (by omega) ?_
      have b8_ : (-128) ≤ S_.2.2.1 98 0 (S_.1 10 0 8).toNat ∧ S_.2.2.1 98 0 (S_.1 10 0 8).toNat ≤ 127 := hI_.2 98 0 _
      refine sm_T_go 1 (c1 := (27, [some (.inr (.inr (some (10, 0))))], [.inl 48, .inl (S_.2.2.1 98 0 (S_.1 10 0 8).toNat)], S_)) rfl ?_
      refine sm_T_br (a := 2) (z := 73) rfl (fun c9_ => ?_) (fun c9_ => ?_)
      · have c9_ : (S_.2.2.1 98 0 (S_.1 10 0 8).toNat) < 48 := of_decide_eq_true c9_
        have hI10_ : gi (sm_pI S_ 10 0 2 2) := gi_pI hI_ (show (-128) ≤ 2 ∧ 2 ≤ 257 from ⟨by omega, by omega⟩)
        have hF11_ : ai_fr (sx_W vw_194) S0_ (sm_pI S_ 10 0 2 2) := ai_fr_tr hF_ (ai_fr_pI rfl)
        have b12_ : 0 ≤ S_.1 10 0 4 ∧ S_.1 10 0 4 ≤ 1280 := hI_.1 10 0 4 rfl
        refine sm_T_go 6 (c1 := (111, [some (.inr (.inr (some (10, 0))))], [.inl 6, .inl (S_.1 10 0 4)], sm_pI S_ 10 0 2 2)) rfl ?_
        refine sm_T_br (a := 4) (z := 7) rfl (fun c13_ => ?_) (fun c13_ => ?_)
        · have c13_ : 6 < (S_.1 10 0 4) := of_decide_eq_true c13_
          refine sm_T_go 1 (c1 := (119, [some (.inr (.inr (some (10, 0))))], [.inl 0], sm_pI S_ 10 0 2 2)) rfl ?_
          refine sm_T_rz rfl (by omega) ⟨_, _, rfl, _, rfl, hI10_, hF11_, ?_⟩
          have e4_ : lx_de b_ n_ p_ = p_ + k_ := by rw [← h2_, lx_f_go]; exact if_neg (by omega)
          rw [e4_]
          (try simp only [rd_eq, rd_ne, rf_eq, rf_nk, rf_nt, rd_fa, rd_af, rd_fl, rd_al, rd_lf, rd_la, rd_leq, rd_lne, rd_fr, rd_ar, ne_eq, Nat.reduceEqDiff, not_false_eq_true])
          refine ⟨?_, by omega, by omega, trivial, ?_⟩
          · first | rw [if_pos (by omega)] | rw [if_neg (by omega)]
          · rw [show p_ + k_ - p_ = k_ by omega]; exact h3_
        · have c13_ : ¬ (6 < (S_.1 10 0 4)) := of_decide_eq_false c13_
          refine sm_T_go 2 (c1 := (119, [some (.inr (.inr (some (10, 0))))], [.inl 1], sm_pI S_ 10 0 2 2)) rfl ?_
          refine sm_T_rz rfl (by omega) ⟨_, _, rfl, _, rfl, hI10_, hF11_, ?_⟩
          have e4_ : lx_de b_ n_ p_ = p_ + k_ := by rw [← h2_, lx_f_go]; exact if_neg (by omega)
          rw [e4_]
          (try simp only [rd_eq, rd_ne, rf_eq, rf_nk, rf_nt, rd_fa, rd_af, rd_fl, rd_al, rd_lf, rd_la, rd_leq, rd_lne, rd_fr, rd_ar, ne_eq, Nat.reduceEqDiff, not_false_eq_true])
          refine ⟨?_, by omega, by omega, trivial, ?_⟩
          · first | rw [if_pos (by omega)] | rw [if_neg (by omega)]
          · rw [show p_ + k_ - p_ = k_ by omega]; exact h3_
      · have c9_ : ¬ ((S_.2.2.1 98 0 (S_.1 10 0 8).toNat) < 48) := of_decide_eq_false c9_
        refine sm_T_go 4 (c1 := (38, [some (.inr (.inr (some (10, 0))))], [.inl (S_.1 10 0 8), .inr (.inr (some (98, 0)))], S_)) rfl ?_
        refine sm_T_bald (n := 65536) rfl rfl (by omega) (by omega) ?_
        refine sm_T_go 1 (c1 := (41, [some (.inr (.inr (some (10, 0))))], [.inl 57, .inl (S_.2.2.1 98 0 (S_.1 10 0 8).toNat)], S_)) rfl ?_
        refine sm_T_br (a := 4) (z := 59) rfl (fun c14_ => ?_) (fun c14_ => ?_)
        · have c14_ : 57 < (S_.2.2.1 98 0 (S_.1 10 0 8).toNat) := of_decide_eq_true c14_
          have hI15_ : gi (sm_pI S_ 10 0 2 2) := gi_pI hI_ (show (-128) ≤ 2 ∧ 2 ≤ 257 from ⟨by omega, by omega⟩)
          have hF16_ : ai_fr (sx_W vw_194) S0_ (sm_pI S_ 10 0 2 2) := ai_fr_tr hF_ (ai_fr_pI rfl)
          have b17_ : 0 ≤ S_.1 10 0 4 ∧ S_.1 10 0 4 ≤ 1280 := hI_.1 10 0 4 rfl
          refine sm_T_go 6 (c1 := (111, [some (.inr (.inr (some (10, 0))))], [.inl 6, .inl (S_.1 10 0 4)], sm_pI S_ 10 0 2 2)) rfl ?_
          refine sm_T_br (a := 4) (z := 7) rfl (fun c18_ => ?_) (fun c18_ => ?_)
          · have c18_ : 6 < (S_.1 10 0 4) := of_decide_eq_true c18_
            refine sm_T_go 1 (c1 := (119, [some (.inr (.inr (some (10, 0))))], [.inl 0], sm_pI S_ 10 0 2 2)) rfl ?_
            refine sm_T_rz rfl (by omega) ⟨_, _, rfl, _, rfl, hI15_, hF16_, ?_⟩
            have e4_ : lx_de b_ n_ p_ = p_ + k_ := by rw [← h2_, lx_f_go]; exact if_neg (by omega)
            rw [e4_]
            (try simp only [rd_eq, rd_ne, rf_eq, rf_nk, rf_nt, rd_fa, rd_af, rd_fl, rd_al, rd_lf, rd_la, rd_leq, rd_lne, rd_fr, rd_ar, ne_eq, Nat.reduceEqDiff, not_false_eq_true])
            refine ⟨?_, by omega, by omega, trivial, ?_⟩
            · first | rw [if_pos (by omega)] | rw [if_neg (by omega)]
            · rw [show p_ + k_ - p_ = k_ by omega]; exact h3_
          · have c18_ : ¬ (6 < (S_.1 10 0 4)) := of_decide_eq_false c18_
            refine sm_T_go 2 (c1 := (119, [some (.inr (.inr (some (10, 0))))], [.inl 1], sm_pI S_ 10 0 2 2)) rfl ?_
            refine sm_T_rz rfl (by omega) ⟨_, _, rfl, _, rfl, hI15_, hF16_, ?_⟩
            have e4_ : lx_de b_ n_ p_ = p_ + k_ := by rw [← h2_, lx_f_go]; exact if_neg (by omega)
            rw [e4_]
            (try simp only [rd_eq, rd_ne, rf_eq, rf_nk, rf_nt, rd_fa, rd_af, rd_fl, rd_al, rd_lf, rd_la, rd_leq, rd_lne, rd_fr, rd_ar, ne_eq, Nat.reduceEqDiff, not_false_eq_true])
            refine ⟨?_, by omega, by omega, trivial, ?_⟩
            · first | rw [if_pos (by omega)] | rw [if_neg (by omega)]
            · rw [show p_ + k_ - p_ = k_ by omega]; exact h3_
        · have c14_ : ¬ (57 < (S_.2.2.1 98 0 (S_.1 10 0 8).toNat)) := of_decide_eq_false c14_
          have b19_ : 0 ≤ S_.1 10 0 4 ∧ S_.1 10 0 4 ≤ 1280 := hI_.1 10 0 4 rfl
          refine sm_T_go 3 (c1 := (50, [some (.inr (.inr (some (10, 0))))], [.inl 6, .inl (S_.1 10 0 4)], S_)) rfl ?_
          refine sm_T_br (a := 3) (z := 27) rfl (fun c20_ => ?_) (fun c20_ => ?_)
          · have c20_ : 6 ≤ (S_.1 10 0 4) := of_decide_eq_true c20_
            refine sm_T_go 4 (c1 := (83, [some (.inr (.inr (some (10, 0))))], [.inl 1, .inl (S_.1 10 0 4), .inr (.inr (some (10, 0)))], S_)) rfl ?_
            refine sm_T_bin (w := (S_.1 10 0 4) + 1) rfl (bi_add (by omega) (by omega) (by omega)) ?_
            have hI21_ : gi (sm_pI S_ 10 0 4 ((S_.1 10 0 4) + 1)) := gi_pI hI_ (show 0 ≤ (S_.1 10 0 4) + 1 ∧ (S_.1 10 0 4) + 1 ≤ 1280 from ⟨by omega, by omega⟩)
            have hF22_ : ai_fr (sx_W vw_194) S0_ (sm_pI S_ 10 0 4 ((S_.1 10 0 4) + 1)) := ai_fr_tr hF_ (ai_fr_pI rfl)
            refine sm_T_go 5 (c1 := (93, [some (.inr (.inr (some (10, 0))))], [.inl 1, .inl (S_.1 10 0 8), .inr (.inr (some (10, 0)))], sm_pI S_ 10 0 4 ((S_.1 10 0 4) + 1))) rfl ?_
            refine sm_T_bin (w := (S_.1 10 0 8) + 1) rfl (bi_add (by omega) (by omega) (by omega)) ?_
            have hI23_ : gi (sm_pI (sm_pI S_ 10 0 4 ((S_.1 10 0 4) + 1)) 10 0 8 ((S_.1 10 0 8) + 1)) := gi_pI hI21_ (show 0 ≤ (S_.1 10 0 8) + 1 ∧ (S_.1 10 0 8) + 1 ≤ 1280 from ⟨by omega, by omega⟩)
            have hF24_ : ai_fr (sx_W vw_194) S0_ (sm_pI (sm_pI S_ 10 0 4 ((S_.1 10 0 4) + 1)) 10 0 8 ((S_.1 10 0 8) + 1)) := ai_fr_tr hF22_ (ai_fr_pI rfl)
            refine sm_T_go 2 (c1 := (5, [some (.inr (.inr (some (10, 0))))], [], sm_pI (sm_pI S_ 10 0 4 ((S_.1 10 0 4) + 1)) 10 0 8 ((S_.1 10 0 8) + 1))) rfl ?_
            refine ih_  (sm_pI (sm_pI S_ 10 0 4 ((S_.1 10 0 4) + 1)) 10 0 8 ((S_.1 10 0 8) + 1)) hI23_ hF24_ ⟨?_, trivial⟩ ?_
            · have g_ : lx_g (b_ (p_ + k_)) := ⟨by omega, by omega⟩
              refine ⟨k_ + 1, ?_, ?_, by omega, ?_, ?_, ?_⟩
              · (try simp only [rd_eq, rd_ne, rf_eq, rf_nk, rf_nt, rd_fa, rd_af, rd_fl, rd_al, rd_lf, rd_la, rd_leq, rd_lne, rd_fr, rd_ar, ne_eq, Nat.reduceEqDiff, not_false_eq_true]); push_cast; omega
              · (try simp only [rd_eq, rd_ne, rf_eq, rf_nk, rf_nt, rd_fa, rd_af, rd_fl, rd_al, rd_lf, rd_la, rd_leq, rd_lne, rd_fr, rd_ar, ne_eq, Nat.reduceEqDiff, not_false_eq_true]); push_cast; omega
              · rw [← h2_, lx_f_go (p := p_ + k_)]
                rw [if_pos ⟨by omega, g_⟩]; rfl
              · (try simp only [rd_eq, rd_ne, rf_eq, rf_nk, rf_nt, rd_fa, rd_af, rd_fl, rd_al, rd_lf, rd_la, rd_leq, rd_lne, rd_fr, rd_ar, ne_eq, Nat.reduceEqDiff, not_false_eq_true])
                first | (rw [show min (k_ + 1) 6 = min k_ 6 by omega]; exact h3_) | (rw [show min (k_ + 1) 6 = k_ + 1 by omega]; unfold lx_v; rw [h3_, e9_])
              · intro j_ hj_
                by_cases q_ : j_ = k_
                · rw [q_]; exact g_
                · exact h4_ j_ (by omega)
            · (try simp only [rd_eq, rd_ne, rf_eq, rf_nk, rf_nt, rd_fa, rd_af, rd_fl, rd_al, rd_lf, rd_la, rd_leq, rd_lne, rd_fr, rd_ar, ne_eq, Nat.reduceEqDiff, not_false_eq_true]); omega
          · have c20_ : ¬ (6 ≤ (S_.1 10 0 4)) := of_decide_eq_false c20_
            have hw_ := lx_v_c (b := b_) (p := p_) (k := k_) (by omega) h4_ ⟨by omega, by omega⟩
            rw [show min k_ 6 = k_ by omega] at h3_
            have b25_ : 0 ≤ S_.1 10 0 5 ∧ S_.1 10 0 5 ≤ 999999 := hI_.1 10 0 5 rfl
            refine sm_T_go 4 (c1 := (60, [some (.inr (.inr (some (10, 0))))], [.inl (S_.1 10 0 5), .inl 10, .inr (.inr (some (10, 0)))], S_)) rfl ?_
            refine sm_T_bin (w := 10 * (S_.1 10 0 5)) rfl (bi_mul (by omega) (by omega) (by omega)) ?_
            refine sm_T_go 4 (c1 := (69, [some (.inr (.inr (some (10, 0))))], [.inl (S_.1 10 0 8), .inr (.inr (some (98, 0))), .inl (10 * (S_.1 10 0 5)), .inr (.inr (some (10, 0)))], S_)) rfl ?_
            refine sm_T_bald (n := 65536) rfl rfl (by omega) (by omega) ?_
            refine sm_T_bin (w := 10 * (S_.1 10 0 5) + (S_.2.2.1 98 0 (S_.1 10 0 8).toNat)) rfl (bi_add (by omega) (by omega) (by omega)) ?_
            refine sm_T_go 1 (c1 := (73, [some (.inr (.inr (some (10, 0))))], [.inl 48, .inl (10 * (S_.1 10 0 5) + (S_.2.2.1 98 0 (S_.1 10 0 8).toNat)), .inr (.inr (some (10, 0)))], S_)) rfl ?_
            refine sm_T_bin (w := 10 * (S_.1 10 0 5) + (S_.2.2.1 98 0 (S_.1 10 0 8).toNat) - 48) rfl (bi_sub (by omega) (by omega) (by omega)) ?_
            have hI26_ : gi (sm_pI S_ 10 0 5 (10 * (S_.1 10 0 5) + (S_.2.2.1 98 0 (S_.1 10 0 8).toNat) - 48)) := gi_pI hI_ (show 0 ≤ 10 * (S_.1 10 0 5) + (S_.2.2.1 98 0 (S_.1 10 0 8).toNat) - 48 ∧ 10 * (S_.1 10 0 5) + (S_.2.2.1 98 0 (S_.1 10 0 8).toNat) - 48 ≤ 999999 from ⟨by omega, by omega⟩)
            have hF27_ : ai_fr (sx_W vw_194) S0_ (sm_pI S_ 10 0 5 (10 * (S_.1 10 0 5) + (S_.2.2.1 98 0 (S_.1 10 0 8).toNat) - 48)) := ai_fr_tr hF_ (ai_fr_pI rfl)
            refine sm_T_go 5 (c1 := (83, [some (.inr (.inr (some (10, 0))))], [.inl 1, .inl (S_.1 10 0 4), .inr (.inr (some (10, 0)))], sm_pI S_ 10 0 5 (10 * (S_.1 10 0 5) + (S_.2.2.1 98 0 (S_.1 10 0 8).toNat) - 48))) rfl ?_
            refine sm_T_bin (w := (S_.1 10 0 4) + 1) rfl (bi_add (by omega) (by omega) (by omega)) ?_
            have hI28_ : gi (sm_pI (sm_pI S_ 10 0 5 (10 * (S_.1 10 0 5) + (S_.2.2.1 98 0 (S_.1 10 0 8).toNat) - 48)) 10 0 4 ((S_.1 10 0 4) + 1)) := gi_pI hI26_ (show 0 ≤ (S_.1 10 0 4) + 1 ∧ (S_.1 10 0 4) + 1 ≤ 1280 from ⟨by omega, by omega⟩)
            have hF29_ : ai_fr (sx_W vw_194) S0_ (sm_pI (sm_pI S_ 10 0 5 (10 * (S_.1 10 0 5) + (S_.2.2.1 98 0 (S_.1 10 0 8).toNat) - 48)) 10 0 4 ((S_.1 10 0 4) + 1)) := ai_fr_tr hF27_ (ai_fr_pI rfl)
            refine sm_T_go 5 (c1 := (93, [some (.inr (.inr (some (10, 0))))], [.inl 1, .inl (S_.1 10 0 8), .inr (.inr (some (10, 0)))], sm_pI (sm_pI S_ 10 0 5 (10 * (S_.1 10 0 5) + (S_.2.2.1 98 0 (S_.1 10 0 8).toNat) - 48)) 10 0 4 ((S_.1 10 0 4) + 1))) rfl ?_
            refine sm_T_bin (w := (S_.1 10 0 8) + 1) rfl (bi_add (by omega) (by omega) (by omega)) ?_
            have hI30_ : gi (sm_pI (sm_pI (sm_pI S_ 10 0 5 (10 * (S_.1 10 0 5) + (S_.2.2.1 98 0 (S_.1 10 0 8).toNat) - 48)) 10 0 4 ((S_.1 10 0 4) + 1)) 10 0 8 ((S_.1 10 0 8) + 1)) := gi_pI hI28_ (show 0 ≤ (S_.1 10 0 8) + 1 ∧ (S_.1 10 0 8) + 1 ≤ 1280 from ⟨by omega, by omega⟩)
            have hF31_ : ai_fr (sx_W vw_194) S0_ (sm_pI (sm_pI (sm_pI S_ 10 0 5 (10 * (S_.1 10 0 5) + (S_.2.2.1 98 0 (S_.1 10 0 8).toNat) - 48)) 10 0 4 ((S_.1 10 0 4) + 1)) 10 0 8 ((S_.1 10 0 8) + 1)) := ai_fr_tr hF29_ (ai_fr_pI rfl)
            refine sm_T_go 2 (c1 := (5, [some (.inr (.inr (some (10, 0))))], [], sm_pI (sm_pI (sm_pI S_ 10 0 5 (10 * (S_.1 10 0 5) + (S_.2.2.1 98 0 (S_.1 10 0 8).toNat) - 48)) 10 0 4 ((S_.1 10 0 4) + 1)) 10 0 8 ((S_.1 10 0 8) + 1))) rfl ?_
            refine ih_  (sm_pI (sm_pI (sm_pI S_ 10 0 5 (10 * (S_.1 10 0 5) + (S_.2.2.1 98 0 (S_.1 10 0 8).toNat) - 48)) 10 0 4 ((S_.1 10 0 4) + 1)) 10 0 8 ((S_.1 10 0 8) + 1)) hI30_ hF31_ ⟨?_, trivial⟩ ?_
            · have g_ : lx_g (b_ (p_ + k_)) := ⟨by omega, by omega⟩
              refine ⟨k_ + 1, ?_, ?_, by omega, ?_, ?_, ?_⟩
              · (try simp only [rd_eq, rd_ne, rf_eq, rf_nk, rf_nt, rd_fa, rd_af, rd_fl, rd_al, rd_lf, rd_la, rd_leq, rd_lne, rd_fr, rd_ar, ne_eq, Nat.reduceEqDiff, not_false_eq_true]); push_cast; omega
              · (try simp only [rd_eq, rd_ne, rf_eq, rf_nk, rf_nt, rd_fa, rd_af, rd_fl, rd_al, rd_lf, rd_la, rd_leq, rd_lne, rd_fr, rd_ar, ne_eq, Nat.reduceEqDiff, not_false_eq_true]); push_cast; omega
              · rw [← h2_, lx_f_go (p := p_ + k_)]
                rw [if_pos ⟨by omega, g_⟩]; rfl
              · (try simp only [rd_eq, rd_ne, rf_eq, rf_nk, rf_nt, rd_fa, rd_af, rd_fl, rd_al, rd_lf, rd_la, rd_leq, rd_lne, rd_fr, rd_ar, ne_eq, Nat.reduceEqDiff, not_false_eq_true])
                first | (rw [show min (k_ + 1) 6 = min k_ 6 by omega]; exact h3_) | (rw [show min (k_ + 1) 6 = k_ + 1 by omega]; unfold lx_v; rw [h3_, e9_])
              · intro j_ hj_
                by_cases q_ : j_ = k_
                · rw [q_]; exact g_
                · exact h4_ j_ (by omega)
            · (try simp only [rd_eq, rd_ne, rf_eq, rf_nk, rf_nt, rd_fa, rd_af, rd_fl, rd_al, rd_lf, rd_la, rd_leq, rd_lne, rd_fr, rd_ar, ne_eq, Nat.reduceEqDiff, not_false_eq_true]); omega
theorem vc_194 {sc_ : Nat × (Nat → Int)} (b_ : Nat → Int) (n_ : Nat) (p_ : Nat) (S0_ : sm_S) (hI_ : gi S0_) (hb_ : S0_.2.2.1 98 0 = b_) (hn_ : (S0_.1 10 0 1) = (n_ : Int)) (hn1_ : n_ ≤ 1280) (hp_ : (S0_.1 10 0 8) = (p_ : Int)) (hpn_ : p_ ≤ n_) (hz_ : (S0_.1 10 0 4) = 0) : sm_T (mt_P sc_) 0 194 (0, [some (.inr (.inr (some (10, 0))))], [], S0_) (fun r_ => ∃ u_ S1_, r_ = (.inl u_, S1_, 0) ∧ vq_194 b_ n_ p_ S0_ u_ S1_) := by
  have hF_ : ai_fr (sx_W vw_194) S0_ S0_ := ai_fr_rf
  have hI1_ : gi (sm_pI S0_ 10 0 5 0) := gi_pI hI_ (show 0 ≤ 0 ∧ 0 ≤ 999999 from ⟨by omega, by omega⟩)
  have hF2_ : ai_fr (sx_W vw_194) S0_ (sm_pI S0_ 10 0 5 0) := ai_fr_tr hF_ (ai_fr_pI rfl)
  refine sm_T_go 3 (c1 := (5, [some (.inr (.inr (some (10, 0))))], [], sm_pI S0_ 10 0 5 0)) rfl ?_
  refine (vl_194 b_ n_ p_ S0_ hb_ hn_ hn1_ hp_ hpn_ hz_ _)  (sm_pI S0_ 10 0 5 0) hI1_ hF2_ ⟨?_, trivial⟩ (Nat.lt_succ_self _)
  · exact ⟨0, by (try simp only [rd_eq, rd_ne, rf_eq, rf_nk, rf_nt, rd_fa, rd_af, rd_fl, rd_al, rd_lf, rd_la, rd_leq, rd_lne, rd_fr, rd_ar, ne_eq, Nat.reduceEqDiff, not_false_eq_true]); simpa using hp_, hz_, by omega, rfl, rfl, fun j_ hj_ => absurd hj_ (Nat.not_lt_zero _)⟩
end
/-! 99.v1s -/
section
/-! the class: signs; written by wip/p55/gen/vg -/
/-! Text.readSign -/
def vw_195 : sx_Wl := ([(10, 2), (10, 8)], [], [])
def vq_195 (c_ : Int) (b_ : Nat → Int) (n_ : Nat) (p_ : Nat) (S0_ : sm_S) (u_ : Option sm_V) (S1_ : sm_S) : Prop := ∃ v_ : Int, u_ = some (.inl v_) ∧ gi S1_ ∧ ai_fr (sx_W vw_195) S0_ S1_ ∧ ((v_ = if lx_sk b_ n_ p_ = 0 then 0 else 1) ∧ (S1_.1 10 0 8) = (lx_sn b_ n_ p_ : Nat) ∧ (lx_sk b_ n_ p_ ≠ 0 → (S1_.1 10 0 2) = lx_sk b_ n_ p_))
theorem vc_195 {sc_ : Nat × (Nat → Int)} (c_ : Int) (b_ : Nat → Int) (n_ : Nat) (p_ : Nat) (S0_ : sm_S) (hI_ : gi S0_) (hb_ : S0_.2.2.1 98 0 = b_) (hn_ : (S0_.1 10 0 1) = (n_ : Int)) (hn1_ : n_ ≤ 1280) (hp_ : (S0_.1 10 0 8) = (p_ : Int)) (hpn_ : p_ < n_) (hc_ : c_ = b_ p_) : sm_T (mt_P sc_) 0 195 (0, [some (.inr (.inr (some (10, 0)))), some (.inl c_), none], [], S0_) (fun r_ => ∃ u_ S1_, r_ = (.inl u_, S1_, 0) ∧ vq_195 c_ b_ n_ p_ S0_ u_ S1_) := by
  have hF_ : ai_fr (sx_W vw_195) S0_ S0_ := ai_fr_rf
  have eb_ : S0_.2.2.1 98 0 (S0_.1 10 0 8 + 1).toNat = b_ (p_ + 1) := by rw [hb_]; congr 1; omega
  have hc1_ : -128 ≤ c_ ∧ c_ ≤ 127 := by rw [hc_, ← hb_]; exact hI_.2 98 0 p_
  have b1_ : 0 ≤ S0_.1 10 0 8 ∧ S0_.1 10 0 8 ≤ 1280 := hI_.1 10 0 8 rfl
  refine sm_T_go 3 (c1 := (5, [some (.inr (.inr (some (10, 0)))), some (.inl c_), none], [.inl 1, .inl (S0_.1 10 0 8)], S0_)) rfl ?_
  refine sm_T_bin (w := (S0_.1 10 0 8) + 1) rfl (bi_add (by omega) (by omega) (by omega)) ?_
  have b2_ : 0 ≤ S0_.1 10 0 1 ∧ S0_.1 10 0 1 ≤ 1280 := hI_.1 10 0 1 rfl
  refine sm_T_go 2 (c1 := (10, [some (.inr (.inr (some (10, 0)))), some (.inl c_), none], [.inl (S0_.1 10 0 1), .inl ((S0_.1 10 0 8) + 1)], S0_)) rfl ?_
  refine sm_T_br (a := 3) (z := 17) rfl (fun c3_ => ?_) (fun c3_ => ?_)
  · have c3_ : (S0_.1 10 0 1) ≤ (S0_.1 10 0 8) + 1 := of_decide_eq_true c3_
    refine sm_T_go 4 (c1 := (32, [some (.inr (.inr (some (10, 0)))), some (.inl c_), some (.inl 0)], [.inl 60, .inl c_], S0_)) rfl ?_
    refine sm_T_br (a := 1) (z := 28) rfl (fun c4_ => ?_) (fun c4_ => ?_)
    · have c4_ : c_ ≠ 60 := of_decide_eq_true c4_
      refine sm_T_go 2 (c1 := (63, [some (.inr (.inr (some (10, 0)))), some (.inl c_), some (.inl 0)], [.inl 61, .inl c_], S0_)) rfl ?_
      refine sm_T_br (a := 1) (z := 28) rfl (fun c5_ => ?_) (fun c5_ => ?_)
      · have c5_ : c_ ≠ 61 := of_decide_eq_true c5_
        have hI6_ : gi (sm_pI S0_ 10 0 2 c_) := gi_pI hI_ (show (-128) ≤ c_ ∧ c_ ≤ 257 from ⟨by omega, by omega⟩)
        have hF7_ : ai_fr (sx_W vw_195) S0_ (sm_pI S0_ 10 0 2 c_) := ai_fr_tr hF_ (ai_fr_pI rfl)
        refine sm_T_go 7 (c1 := (102, [some (.inr (.inr (some (10, 0)))), some (.inl c_), some (.inl 0)], [.inl 1, .inl (S0_.1 10 0 8), .inr (.inr (some (10, 0)))], sm_pI S0_ 10 0 2 c_)) rfl ?_
        refine sm_T_bin (w := (S0_.1 10 0 8) + 1) rfl (bi_add (by omega) (by omega) (by omega)) ?_
        have hI8_ : gi (sm_pI (sm_pI S0_ 10 0 2 c_) 10 0 8 ((S0_.1 10 0 8) + 1)) := gi_pI hI6_ (show 0 ≤ (S0_.1 10 0 8) + 1 ∧ (S0_.1 10 0 8) + 1 ≤ 1280 from ⟨by omega, by omega⟩)
        have hF9_ : ai_fr (sx_W vw_195) S0_ (sm_pI (sm_pI S0_ 10 0 2 c_) 10 0 8 ((S0_.1 10 0 8) + 1)) := ai_fr_tr hF7_ (ai_fr_pI rfl)
        refine sm_T_go 2 (c1 := (107, [some (.inr (.inr (some (10, 0)))), some (.inl c_), some (.inl 0)], [.inl c_], sm_pI (sm_pI S0_ 10 0 2 c_) 10 0 8 ((S0_.1 10 0 8) + 1))) rfl ?_
        refine sm_T_b0 (a := 5) (z := 17) rfl (fun c10_ => ?_) (fun c10_ => ?_)
        · have c10_ : c_ ≤ 0 := of_decide_eq_true c10_
          refine sm_T_go 1 (c1 := (125, [some (.inr (.inr (some (10, 0)))), some (.inl c_), some (.inl 0)], [.inl 0], sm_pI (sm_pI S0_ 10 0 2 c_) 10 0 8 ((S0_.1 10 0 8) + 1))) rfl ?_
          refine sm_T_rz rfl (by omega) ⟨_, _, rfl, _, rfl, hI8_, hF9_, ?_⟩
          have ha_ : ¬ (b_ p_ = 60 ∧ p_ + 1 < n_ ∧ b_ (p_ + 1) = 45) := by rw [← hc_]; omega
          have hs_ : ¬ (b_ p_ = 61 ∧ p_ + 1 < n_ ∧ b_ (p_ + 1) = 61) := by rw [← hc_]; omega
          unfold lx_sk lx_sn
          rw [if_neg ha_, if_neg hs_, if_neg ha_, if_neg hs_, ← hc_]
          (try simp only [rd_eq, rd_ne, rf_eq, rf_nk, rf_nt, rd_fa, rd_af, rd_fl, rd_al, rd_lf, rd_la, rd_leq, rd_lne, rd_fr, rd_ar, ne_eq, Nat.reduceEqDiff, not_false_eq_true])
          by_cases g_ : lx_sg c_
          · rw [if_pos g_]
            have hc0_ : c_ ≠ 0 := by omega
            rw [if_neg hc0_]; refine ⟨by omega, by omega, fun _ => rfl⟩
          · rw [if_neg g_, if_pos rfl]; refine ⟨by omega, by omega, fun h_ => absurd rfl h_⟩
        · have c10_ : ¬ (c_ ≤ 0) := of_decide_eq_false c10_
          have ec_ := i_i2c_s (x := c_) (by omega) (by omega)
          have es_ : lx_sg c_ ↔ 0 ≤ mt_ix mt_sgn (i_i2c c_) 0 := by rw [ec_]; exact lx_sg_ix
          refine sm_T_nt (u := some (.inr (.inr (some (301, 0))))) (S1 := sm_pI (sm_pI S0_ 10 0 2 c_) 10 0 8 ((S0_.1 10 0 8) + 1)) rfl rfl rfl ?_
          refine sm_T_go 2 (c1 := (114, [some (.inr (.inr (some (10, 0)))), some (.inl c_), some (.inl 0)], [.inl (i_i2c c_), .inr (.inr (some (301, 0)))], sm_pI (sm_pI S0_ 10 0 2 c_) 10 0 8 ((S0_.1 10 0 8) + 1))) rfl ?_
          refine sm_T_nt (u := some (.inl (mt_ix mt_sgn (i_i2c c_) 0))) (S1 := sm_pI (sm_pI S0_ 10 0 2 c_) 10 0 8 ((S0_.1 10 0 8) + 1)) rfl rfl (nt_sg (sc := sc_) (by omega) (by omega)) ?_
          refine sm_T_b0 (a := 2) (z := 7) rfl (fun c11_ => ?_) (fun c11_ => ?_)
          · have c11_ : (mt_ix mt_sgn (i_i2c c_) 0) < 0 := of_decide_eq_true c11_
            refine sm_T_go 1 (c1 := (125, [some (.inr (.inr (some (10, 0)))), some (.inl c_), some (.inl 0)], [.inl 0], sm_pI (sm_pI S0_ 10 0 2 c_) 10 0 8 ((S0_.1 10 0 8) + 1))) rfl ?_
            refine sm_T_rz rfl (by omega) ⟨_, _, rfl, _, rfl, hI8_, hF9_, ?_⟩
            have ha_ : ¬ (b_ p_ = 60 ∧ p_ + 1 < n_ ∧ b_ (p_ + 1) = 45) := by rw [← hc_]; omega
            have hs_ : ¬ (b_ p_ = 61 ∧ p_ + 1 < n_ ∧ b_ (p_ + 1) = 61) := by rw [← hc_]; omega
            unfold lx_sk lx_sn
            rw [if_neg ha_, if_neg hs_, if_neg ha_, if_neg hs_, ← hc_]
            (try simp only [rd_eq, rd_ne, rf_eq, rf_nk, rf_nt, rd_fa, rd_af, rd_fl, rd_al, rd_lf, rd_la, rd_leq, rd_lne, rd_fr, rd_ar, ne_eq, Nat.reduceEqDiff, not_false_eq_true])
            by_cases g_ : lx_sg c_
            · rw [if_pos g_]
              have hc0_ : c_ ≠ 0 := by omega
              rw [if_neg hc0_]; refine ⟨by omega, by omega, fun _ => rfl⟩
            · rw [if_neg g_, if_pos rfl]; refine ⟨by omega, by omega, fun h_ => absurd rfl h_⟩
          · have c11_ : ¬ ((mt_ix mt_sgn (i_i2c c_) 0) < 0) := of_decide_eq_false c11_
            refine sm_T_go 2 (c1 := (125, [some (.inr (.inr (some (10, 0)))), some (.inl c_), some (.inl 0)], [.inl 1], sm_pI (sm_pI S0_ 10 0 2 c_) 10 0 8 ((S0_.1 10 0 8) + 1))) rfl ?_
            refine sm_T_rz rfl (by omega) ⟨_, _, rfl, _, rfl, hI8_, hF9_, ?_⟩
            have ha_ : ¬ (b_ p_ = 60 ∧ p_ + 1 < n_ ∧ b_ (p_ + 1) = 45) := by rw [← hc_]; omega
            have hs_ : ¬ (b_ p_ = 61 ∧ p_ + 1 < n_ ∧ b_ (p_ + 1) = 61) := by rw [← hc_]; omega
            unfold lx_sk lx_sn
            rw [if_neg ha_, if_neg hs_, if_neg ha_, if_neg hs_, ← hc_]
            (try simp only [rd_eq, rd_ne, rf_eq, rf_nk, rf_nt, rd_fa, rd_af, rd_fl, rd_al, rd_lf, rd_la, rd_leq, rd_lne, rd_fr, rd_ar, ne_eq, Nat.reduceEqDiff, not_false_eq_true])
            by_cases g_ : lx_sg c_
            · rw [if_pos g_]
              have hc0_ : c_ ≠ 0 := by omega
              rw [if_neg hc0_]; refine ⟨by omega, by omega, fun _ => rfl⟩
            · rw [if_neg g_, if_pos rfl]; refine ⟨by omega, by omega, fun h_ => absurd rfl h_⟩
      · have c5_ : ¬ (c_ ≠ 61) := of_decide_eq_false c5_
        have hI12_ : gi (sm_pI S0_ 10 0 2 c_) := gi_pI hI_ (show (-128) ≤ c_ ∧ c_ ≤ 257 from ⟨by omega, by omega⟩)
        have hF13_ : ai_fr (sx_W vw_195) S0_ (sm_pI S0_ 10 0 2 c_) := ai_fr_tr hF_ (ai_fr_pI rfl)
        refine sm_T_go 10 (c1 := (102, [some (.inr (.inr (some (10, 0)))), some (.inl c_), some (.inl 0)], [.inl 1, .inl (S0_.1 10 0 8), .inr (.inr (some (10, 0)))], sm_pI S0_ 10 0 2 c_)) rfl ?_
        refine sm_T_bin (w := (S0_.1 10 0 8) + 1) rfl (bi_add (by omega) (by omega) (by omega)) ?_
        have hI14_ : gi (sm_pI (sm_pI S0_ 10 0 2 c_) 10 0 8 ((S0_.1 10 0 8) + 1)) := gi_pI hI12_ (show 0 ≤ (S0_.1 10 0 8) + 1 ∧ (S0_.1 10 0 8) + 1 ≤ 1280 from ⟨by omega, by omega⟩)
        have hF15_ : ai_fr (sx_W vw_195) S0_ (sm_pI (sm_pI S0_ 10 0 2 c_) 10 0 8 ((S0_.1 10 0 8) + 1)) := ai_fr_tr hF13_ (ai_fr_pI rfl)
        refine sm_T_go 2 (c1 := (107, [some (.inr (.inr (some (10, 0)))), some (.inl c_), some (.inl 0)], [.inl c_], sm_pI (sm_pI S0_ 10 0 2 c_) 10 0 8 ((S0_.1 10 0 8) + 1))) rfl ?_
        refine sm_T_b0 (a := 5) (z := 17) rfl (fun c16_ => ?_) (fun c16_ => ?_)
        · have c16_ : c_ ≤ 0 := of_decide_eq_true c16_
          exfalso; omega
        · have c16_ : ¬ (c_ ≤ 0) := of_decide_eq_false c16_
          have ec_ := i_i2c_s (x := c_) (by omega) (by omega)
          have es_ : lx_sg c_ ↔ 0 ≤ mt_ix mt_sgn (i_i2c c_) 0 := by rw [ec_]; exact lx_sg_ix
          refine sm_T_nt (u := some (.inr (.inr (some (301, 0))))) (S1 := sm_pI (sm_pI S0_ 10 0 2 c_) 10 0 8 ((S0_.1 10 0 8) + 1)) rfl rfl rfl ?_
          refine sm_T_go 2 (c1 := (114, [some (.inr (.inr (some (10, 0)))), some (.inl c_), some (.inl 0)], [.inl (i_i2c c_), .inr (.inr (some (301, 0)))], sm_pI (sm_pI S0_ 10 0 2 c_) 10 0 8 ((S0_.1 10 0 8) + 1))) rfl ?_
          refine sm_T_nt (u := some (.inl (mt_ix mt_sgn (i_i2c c_) 0))) (S1 := sm_pI (sm_pI S0_ 10 0 2 c_) 10 0 8 ((S0_.1 10 0 8) + 1)) rfl rfl (nt_sg (sc := sc_) (by omega) (by omega)) ?_
          refine sm_T_b0 (a := 2) (z := 7) rfl (fun c17_ => ?_) (fun c17_ => ?_)
          · have c17_ : (mt_ix mt_sgn (i_i2c c_) 0) < 0 := of_decide_eq_true c17_
            refine sm_T_go 1 (c1 := (125, [some (.inr (.inr (some (10, 0)))), some (.inl c_), some (.inl 0)], [.inl 0], sm_pI (sm_pI S0_ 10 0 2 c_) 10 0 8 ((S0_.1 10 0 8) + 1))) rfl ?_
            refine sm_T_rz rfl (by omega) ⟨_, _, rfl, _, rfl, hI14_, hF15_, ?_⟩
            have ha_ : ¬ (b_ p_ = 60 ∧ p_ + 1 < n_ ∧ b_ (p_ + 1) = 45) := by rw [← hc_]; omega
            have hs_ : ¬ (b_ p_ = 61 ∧ p_ + 1 < n_ ∧ b_ (p_ + 1) = 61) := by rw [← hc_]; omega
            unfold lx_sk lx_sn
            rw [if_neg ha_, if_neg hs_, if_neg ha_, if_neg hs_, ← hc_]
            (try simp only [rd_eq, rd_ne, rf_eq, rf_nk, rf_nt, rd_fa, rd_af, rd_fl, rd_al, rd_lf, rd_la, rd_leq, rd_lne, rd_fr, rd_ar, ne_eq, Nat.reduceEqDiff, not_false_eq_true])
            by_cases g_ : lx_sg c_
            · rw [if_pos g_]
              have hc0_ : c_ ≠ 0 := by omega
              rw [if_neg hc0_]; refine ⟨by omega, by omega, fun _ => rfl⟩
            · rw [if_neg g_, if_pos rfl]; refine ⟨by omega, by omega, fun h_ => absurd rfl h_⟩
          · have c17_ : ¬ ((mt_ix mt_sgn (i_i2c c_) 0) < 0) := of_decide_eq_false c17_
            refine sm_T_go 2 (c1 := (125, [some (.inr (.inr (some (10, 0)))), some (.inl c_), some (.inl 0)], [.inl 1], sm_pI (sm_pI S0_ 10 0 2 c_) 10 0 8 ((S0_.1 10 0 8) + 1))) rfl ?_
            refine sm_T_rz rfl (by omega) ⟨_, _, rfl, _, rfl, hI14_, hF15_, ?_⟩
            have ha_ : ¬ (b_ p_ = 60 ∧ p_ + 1 < n_ ∧ b_ (p_ + 1) = 45) := by rw [← hc_]; omega
            have hs_ : ¬ (b_ p_ = 61 ∧ p_ + 1 < n_ ∧ b_ (p_ + 1) = 61) := by rw [← hc_]; omega
            unfold lx_sk lx_sn
            rw [if_neg ha_, if_neg hs_, if_neg ha_, if_neg hs_, ← hc_]
            (try simp only [rd_eq, rd_ne, rf_eq, rf_nk, rf_nt, rd_fa, rd_af, rd_fl, rd_al, rd_lf, rd_la, rd_leq, rd_lne, rd_fr, rd_ar, ne_eq, Nat.reduceEqDiff, not_false_eq_true])
            by_cases g_ : lx_sg c_
            · rw [if_pos g_]
              have hc0_ : c_ ≠ 0 := by omega
              rw [if_neg hc0_]; refine ⟨by omega, by omega, fun _ => rfl⟩
            · rw [if_neg g_, if_pos rfl]; refine ⟨by omega, by omega, fun h_ => absurd rfl h_⟩
    · have c4_ : ¬ (c_ ≠ 60) := of_decide_eq_false c4_
      refine sm_T_go 5 (c1 := (63, [some (.inr (.inr (some (10, 0)))), some (.inl c_), some (.inl 0)], [.inl 61, .inl c_], S0_)) rfl ?_
      refine sm_T_br (a := 1) (z := 28) rfl (fun c18_ => ?_) (fun c18_ => ?_)
      · have c18_ : c_ ≠ 61 := of_decide_eq_true c18_
        have hI19_ : gi (sm_pI S0_ 10 0 2 c_) := gi_pI hI_ (show (-128) ≤ c_ ∧ c_ ≤ 257 from ⟨by omega, by omega⟩)
        have hF20_ : ai_fr (sx_W vw_195) S0_ (sm_pI S0_ 10 0 2 c_) := ai_fr_tr hF_ (ai_fr_pI rfl)
        refine sm_T_go 7 (c1 := (102, [some (.inr (.inr (some (10, 0)))), some (.inl c_), some (.inl 0)], [.inl 1, .inl (S0_.1 10 0 8), .inr (.inr (some (10, 0)))], sm_pI S0_ 10 0 2 c_)) rfl ?_
        refine sm_T_bin (w := (S0_.1 10 0 8) + 1) rfl (bi_add (by omega) (by omega) (by omega)) ?_
        have hI21_ : gi (sm_pI (sm_pI S0_ 10 0 2 c_) 10 0 8 ((S0_.1 10 0 8) + 1)) := gi_pI hI19_ (show 0 ≤ (S0_.1 10 0 8) + 1 ∧ (S0_.1 10 0 8) + 1 ≤ 1280 from ⟨by omega, by omega⟩)
        have hF22_ : ai_fr (sx_W vw_195) S0_ (sm_pI (sm_pI S0_ 10 0 2 c_) 10 0 8 ((S0_.1 10 0 8) + 1)) := ai_fr_tr hF20_ (ai_fr_pI rfl)
        refine sm_T_go 2 (c1 := (107, [some (.inr (.inr (some (10, 0)))), some (.inl c_), some (.inl 0)], [.inl c_], sm_pI (sm_pI S0_ 10 0 2 c_) 10 0 8 ((S0_.1 10 0 8) + 1))) rfl ?_
        refine sm_T_b0 (a := 5) (z := 17) rfl (fun c23_ => ?_) (fun c23_ => ?_)
        · have c23_ : c_ ≤ 0 := of_decide_eq_true c23_
          exfalso; omega
        · have c23_ : ¬ (c_ ≤ 0) := of_decide_eq_false c23_
          have ec_ := i_i2c_s (x := c_) (by omega) (by omega)
          have es_ : lx_sg c_ ↔ 0 ≤ mt_ix mt_sgn (i_i2c c_) 0 := by rw [ec_]; exact lx_sg_ix
          refine sm_T_nt (u := some (.inr (.inr (some (301, 0))))) (S1 := sm_pI (sm_pI S0_ 10 0 2 c_) 10 0 8 ((S0_.1 10 0 8) + 1)) rfl rfl rfl ?_
          refine sm_T_go 2 (c1 := (114, [some (.inr (.inr (some (10, 0)))), some (.inl c_), some (.inl 0)], [.inl (i_i2c c_), .inr (.inr (some (301, 0)))], sm_pI (sm_pI S0_ 10 0 2 c_) 10 0 8 ((S0_.1 10 0 8) + 1))) rfl ?_
          refine sm_T_nt (u := some (.inl (mt_ix mt_sgn (i_i2c c_) 0))) (S1 := sm_pI (sm_pI S0_ 10 0 2 c_) 10 0 8 ((S0_.1 10 0 8) + 1)) rfl rfl (nt_sg (sc := sc_) (by omega) (by omega)) ?_
          refine sm_T_b0 (a := 2) (z := 7) rfl (fun c24_ => ?_) (fun c24_ => ?_)
          · have c24_ : (mt_ix mt_sgn (i_i2c c_) 0) < 0 := of_decide_eq_true c24_
            refine sm_T_go 1 (c1 := (125, [some (.inr (.inr (some (10, 0)))), some (.inl c_), some (.inl 0)], [.inl 0], sm_pI (sm_pI S0_ 10 0 2 c_) 10 0 8 ((S0_.1 10 0 8) + 1))) rfl ?_
            refine sm_T_rz rfl (by omega) ⟨_, _, rfl, _, rfl, hI21_, hF22_, ?_⟩
            have ha_ : ¬ (b_ p_ = 60 ∧ p_ + 1 < n_ ∧ b_ (p_ + 1) = 45) := by rw [← hc_]; omega
            have hs_ : ¬ (b_ p_ = 61 ∧ p_ + 1 < n_ ∧ b_ (p_ + 1) = 61) := by rw [← hc_]; omega
            unfold lx_sk lx_sn
            rw [if_neg ha_, if_neg hs_, if_neg ha_, if_neg hs_, ← hc_]
            (try simp only [rd_eq, rd_ne, rf_eq, rf_nk, rf_nt, rd_fa, rd_af, rd_fl, rd_al, rd_lf, rd_la, rd_leq, rd_lne, rd_fr, rd_ar, ne_eq, Nat.reduceEqDiff, not_false_eq_true])
            by_cases g_ : lx_sg c_
            · rw [if_pos g_]
              have hc0_ : c_ ≠ 0 := by omega
              rw [if_neg hc0_]; refine ⟨by omega, by omega, fun _ => rfl⟩
            · rw [if_neg g_, if_pos rfl]; refine ⟨by omega, by omega, fun h_ => absurd rfl h_⟩
          · have c24_ : ¬ ((mt_ix mt_sgn (i_i2c c_) 0) < 0) := of_decide_eq_false c24_
            refine sm_T_go 2 (c1 := (125, [some (.inr (.inr (some (10, 0)))), some (.inl c_), some (.inl 0)], [.inl 1], sm_pI (sm_pI S0_ 10 0 2 c_) 10 0 8 ((S0_.1 10 0 8) + 1))) rfl ?_
            refine sm_T_rz rfl (by omega) ⟨_, _, rfl, _, rfl, hI21_, hF22_, ?_⟩
            have ha_ : ¬ (b_ p_ = 60 ∧ p_ + 1 < n_ ∧ b_ (p_ + 1) = 45) := by rw [← hc_]; omega
            have hs_ : ¬ (b_ p_ = 61 ∧ p_ + 1 < n_ ∧ b_ (p_ + 1) = 61) := by rw [← hc_]; omega
            unfold lx_sk lx_sn
            rw [if_neg ha_, if_neg hs_, if_neg ha_, if_neg hs_, ← hc_]
            (try simp only [rd_eq, rd_ne, rf_eq, rf_nk, rf_nt, rd_fa, rd_af, rd_fl, rd_al, rd_lf, rd_la, rd_leq, rd_lne, rd_fr, rd_ar, ne_eq, Nat.reduceEqDiff, not_false_eq_true])
            by_cases g_ : lx_sg c_
            · rw [if_pos g_]
              have hc0_ : c_ ≠ 0 := by omega
              rw [if_neg hc0_]; refine ⟨by omega, by omega, fun _ => rfl⟩
            · rw [if_neg g_, if_pos rfl]; refine ⟨by omega, by omega, fun h_ => absurd rfl h_⟩
      · have c18_ : ¬ (c_ ≠ 61) := of_decide_eq_false c18_
        exfalso; omega
  · have c3_ : ¬ ((S0_.1 10 0 1) ≤ (S0_.1 10 0 8) + 1) := of_decide_eq_false c3_
    refine sm_T_go 5 (c1 := (22, [some (.inr (.inr (some (10, 0)))), some (.inl c_), none], [.inl 1, .inl (S0_.1 10 0 8), .inr (.inr (some (98, 0)))], S0_)) rfl ?_
    refine sm_T_bin (w := (S0_.1 10 0 8) + 1) rfl (bi_add (by omega) (by omega) (by omega)) ?_
    refine sm_T_bald (n := 65536) rfl rfl (by omega) (by omega) ?_
    have b25_ : (-128) ≤ S0_.2.2.1 98 0 ((S0_.1 10 0 8) + 1).toNat ∧ S0_.2.2.1 98 0 ((S0_.1 10 0 8) + 1).toNat ≤ 127 := hI_.2 98 0 _
    refine sm_T_go 4 (c1 := (32, [some (.inr (.inr (some (10, 0)))), some (.inl c_), some (.inl (S0_.2.2.1 98 0 ((S0_.1 10 0 8) + 1).toNat))], [.inl 60, .inl c_], S0_)) rfl ?_
    refine sm_T_br (a := 1) (z := 28) rfl (fun c26_ => ?_) (fun c26_ => ?_)
    · have c26_ : c_ ≠ 60 := of_decide_eq_true c26_
      refine sm_T_go 2 (c1 := (63, [some (.inr (.inr (some (10, 0)))), some (.inl c_), some (.inl (S0_.2.2.1 98 0 ((S0_.1 10 0 8) + 1).toNat))], [.inl 61, .inl c_], S0_)) rfl ?_
      refine sm_T_br (a := 1) (z := 28) rfl (fun c27_ => ?_) (fun c27_ => ?_)
      · have c27_ : c_ ≠ 61 := of_decide_eq_true c27_
        have hI28_ : gi (sm_pI S0_ 10 0 2 c_) := gi_pI hI_ (show (-128) ≤ c_ ∧ c_ ≤ 257 from ⟨by omega, by omega⟩)
        have hF29_ : ai_fr (sx_W vw_195) S0_ (sm_pI S0_ 10 0 2 c_) := ai_fr_tr hF_ (ai_fr_pI rfl)
        refine sm_T_go 7 (c1 := (102, [some (.inr (.inr (some (10, 0)))), some (.inl c_), some (.inl (S0_.2.2.1 98 0 ((S0_.1 10 0 8) + 1).toNat))], [.inl 1, .inl (S0_.1 10 0 8), .inr (.inr (some (10, 0)))], sm_pI S0_ 10 0 2 c_)) rfl ?_
        refine sm_T_bin (w := (S0_.1 10 0 8) + 1) rfl (bi_add (by omega) (by omega) (by omega)) ?_
        have hI30_ : gi (sm_pI (sm_pI S0_ 10 0 2 c_) 10 0 8 ((S0_.1 10 0 8) + 1)) := gi_pI hI28_ (show 0 ≤ (S0_.1 10 0 8) + 1 ∧ (S0_.1 10 0 8) + 1 ≤ 1280 from ⟨by omega, by omega⟩)
        have hF31_ : ai_fr (sx_W vw_195) S0_ (sm_pI (sm_pI S0_ 10 0 2 c_) 10 0 8 ((S0_.1 10 0 8) + 1)) := ai_fr_tr hF29_ (ai_fr_pI rfl)
        refine sm_T_go 2 (c1 := (107, [some (.inr (.inr (some (10, 0)))), some (.inl c_), some (.inl (S0_.2.2.1 98 0 ((S0_.1 10 0 8) + 1).toNat))], [.inl c_], sm_pI (sm_pI S0_ 10 0 2 c_) 10 0 8 ((S0_.1 10 0 8) + 1))) rfl ?_
        refine sm_T_b0 (a := 5) (z := 17) rfl (fun c32_ => ?_) (fun c32_ => ?_)
        · have c32_ : c_ ≤ 0 := of_decide_eq_true c32_
          refine sm_T_go 1 (c1 := (125, [some (.inr (.inr (some (10, 0)))), some (.inl c_), some (.inl (S0_.2.2.1 98 0 ((S0_.1 10 0 8) + 1).toNat))], [.inl 0], sm_pI (sm_pI S0_ 10 0 2 c_) 10 0 8 ((S0_.1 10 0 8) + 1))) rfl ?_
          refine sm_T_rz rfl (by omega) ⟨_, _, rfl, _, rfl, hI30_, hF31_, ?_⟩
          have ha_ : ¬ (b_ p_ = 60 ∧ p_ + 1 < n_ ∧ b_ (p_ + 1) = 45) := by rw [← hc_]; omega
          have hs_ : ¬ (b_ p_ = 61 ∧ p_ + 1 < n_ ∧ b_ (p_ + 1) = 61) := by rw [← hc_]; omega
          unfold lx_sk lx_sn
          rw [if_neg ha_, if_neg hs_, if_neg ha_, if_neg hs_, ← hc_]
          (try simp only [rd_eq, rd_ne, rf_eq, rf_nk, rf_nt, rd_fa, rd_af, rd_fl, rd_al, rd_lf, rd_la, rd_leq, rd_lne, rd_fr, rd_ar, ne_eq, Nat.reduceEqDiff, not_false_eq_true])
          by_cases g_ : lx_sg c_
          · rw [if_pos g_]
            have hc0_ : c_ ≠ 0 := by omega
            rw [if_neg hc0_]; refine ⟨by omega, by omega, fun _ => rfl⟩
          · rw [if_neg g_, if_pos rfl]; refine ⟨by omega, by omega, fun h_ => absurd rfl h_⟩
        · have c32_ : ¬ (c_ ≤ 0) := of_decide_eq_false c32_
          have ec_ := i_i2c_s (x := c_) (by omega) (by omega)
          have es_ : lx_sg c_ ↔ 0 ≤ mt_ix mt_sgn (i_i2c c_) 0 := by rw [ec_]; exact lx_sg_ix
          refine sm_T_nt (u := some (.inr (.inr (some (301, 0))))) (S1 := sm_pI (sm_pI S0_ 10 0 2 c_) 10 0 8 ((S0_.1 10 0 8) + 1)) rfl rfl rfl ?_
          refine sm_T_go 2 (c1 := (114, [some (.inr (.inr (some (10, 0)))), some (.inl c_), some (.inl (S0_.2.2.1 98 0 ((S0_.1 10 0 8) + 1).toNat))], [.inl (i_i2c c_), .inr (.inr (some (301, 0)))], sm_pI (sm_pI S0_ 10 0 2 c_) 10 0 8 ((S0_.1 10 0 8) + 1))) rfl ?_
          refine sm_T_nt (u := some (.inl (mt_ix mt_sgn (i_i2c c_) 0))) (S1 := sm_pI (sm_pI S0_ 10 0 2 c_) 10 0 8 ((S0_.1 10 0 8) + 1)) rfl rfl (nt_sg (sc := sc_) (by omega) (by omega)) ?_
          refine sm_T_b0 (a := 2) (z := 7) rfl (fun c33_ => ?_) (fun c33_ => ?_)
          · have c33_ : (mt_ix mt_sgn (i_i2c c_) 0) < 0 := of_decide_eq_true c33_
            refine sm_T_go 1 (c1 := (125, [some (.inr (.inr (some (10, 0)))), some (.inl c_), some (.inl (S0_.2.2.1 98 0 ((S0_.1 10 0 8) + 1).toNat))], [.inl 0], sm_pI (sm_pI S0_ 10 0 2 c_) 10 0 8 ((S0_.1 10 0 8) + 1))) rfl ?_
            refine sm_T_rz rfl (by omega) ⟨_, _, rfl, _, rfl, hI30_, hF31_, ?_⟩
            have ha_ : ¬ (b_ p_ = 60 ∧ p_ + 1 < n_ ∧ b_ (p_ + 1) = 45) := by rw [← hc_]; omega
            have hs_ : ¬ (b_ p_ = 61 ∧ p_ + 1 < n_ ∧ b_ (p_ + 1) = 61) := by rw [← hc_]; omega
            unfold lx_sk lx_sn
            rw [if_neg ha_, if_neg hs_, if_neg ha_, if_neg hs_, ← hc_]
            (try simp only [rd_eq, rd_ne, rf_eq, rf_nk, rf_nt, rd_fa, rd_af, rd_fl, rd_al, rd_lf, rd_la, rd_leq, rd_lne, rd_fr, rd_ar, ne_eq, Nat.reduceEqDiff, not_false_eq_true])
            by_cases g_ : lx_sg c_
            · rw [if_pos g_]
              have hc0_ : c_ ≠ 0 := by omega
              rw [if_neg hc0_]; refine ⟨by omega, by omega, fun _ => rfl⟩
            · rw [if_neg g_, if_pos rfl]; refine ⟨by omega, by omega, fun h_ => absurd rfl h_⟩
          · have c33_ : ¬ ((mt_ix mt_sgn (i_i2c c_) 0) < 0) := of_decide_eq_false c33_
            refine sm_T_go 2 (c1 := (125, [some (.inr (.inr (some (10, 0)))), some (.inl c_), some (.inl (S0_.2.2.1 98 0 ((S0_.1 10 0 8) + 1).toNat))], [.inl 1], sm_pI (sm_pI S0_ 10 0 2 c_) 10 0 8 ((S0_.1 10 0 8) + 1))) rfl ?_
            refine sm_T_rz rfl (by omega) ⟨_, _, rfl, _, rfl, hI30_, hF31_, ?_⟩
            have ha_ : ¬ (b_ p_ = 60 ∧ p_ + 1 < n_ ∧ b_ (p_ + 1) = 45) := by rw [← hc_]; omega
            have hs_ : ¬ (b_ p_ = 61 ∧ p_ + 1 < n_ ∧ b_ (p_ + 1) = 61) := by rw [← hc_]; omega
            unfold lx_sk lx_sn
            rw [if_neg ha_, if_neg hs_, if_neg ha_, if_neg hs_, ← hc_]
            (try simp only [rd_eq, rd_ne, rf_eq, rf_nk, rf_nt, rd_fa, rd_af, rd_fl, rd_al, rd_lf, rd_la, rd_leq, rd_lne, rd_fr, rd_ar, ne_eq, Nat.reduceEqDiff, not_false_eq_true])
            by_cases g_ : lx_sg c_
            · rw [if_pos g_]
              have hc0_ : c_ ≠ 0 := by omega
              rw [if_neg hc0_]; refine ⟨by omega, by omega, fun _ => rfl⟩
            · rw [if_neg g_, if_pos rfl]; refine ⟨by omega, by omega, fun h_ => absurd rfl h_⟩
      · have c27_ : ¬ (c_ ≠ 61) := of_decide_eq_false c27_
        refine sm_T_go 2 (c1 := (69, [some (.inr (.inr (some (10, 0)))), some (.inl c_), some (.inl (S0_.2.2.1 98 0 ((S0_.1 10 0 8) + 1).toNat))], [.inl 61, .inl (S0_.2.2.1 98 0 ((S0_.1 10 0 8) + 1).toNat)], S0_)) rfl ?_
        refine sm_T_br (a := 1) (z := 22) rfl (fun c34_ => ?_) (fun c34_ => ?_)
        · have c34_ : (S0_.2.2.1 98 0 ((S0_.1 10 0 8) + 1).toNat) ≠ 61 := of_decide_eq_true c34_
          have hI35_ : gi (sm_pI S0_ 10 0 2 c_) := gi_pI hI_ (show (-128) ≤ c_ ∧ c_ ≤ 257 from ⟨by omega, by omega⟩)
          have hF36_ : ai_fr (sx_W vw_195) S0_ (sm_pI S0_ 10 0 2 c_) := ai_fr_tr hF_ (ai_fr_pI rfl)
          refine sm_T_go 7 (c1 := (102, [some (.inr (.inr (some (10, 0)))), some (.inl c_), some (.inl (S0_.2.2.1 98 0 ((S0_.1 10 0 8) + 1).toNat))], [.inl 1, .inl (S0_.1 10 0 8), .inr (.inr (some (10, 0)))], sm_pI S0_ 10 0 2 c_)) rfl ?_
          refine sm_T_bin (w := (S0_.1 10 0 8) + 1) rfl (bi_add (by omega) (by omega) (by omega)) ?_
          have hI37_ : gi (sm_pI (sm_pI S0_ 10 0 2 c_) 10 0 8 ((S0_.1 10 0 8) + 1)) := gi_pI hI35_ (show 0 ≤ (S0_.1 10 0 8) + 1 ∧ (S0_.1 10 0 8) + 1 ≤ 1280 from ⟨by omega, by omega⟩)
          have hF38_ : ai_fr (sx_W vw_195) S0_ (sm_pI (sm_pI S0_ 10 0 2 c_) 10 0 8 ((S0_.1 10 0 8) + 1)) := ai_fr_tr hF36_ (ai_fr_pI rfl)
          refine sm_T_go 2 (c1 := (107, [some (.inr (.inr (some (10, 0)))), some (.inl c_), some (.inl (S0_.2.2.1 98 0 ((S0_.1 10 0 8) + 1).toNat))], [.inl c_], sm_pI (sm_pI S0_ 10 0 2 c_) 10 0 8 ((S0_.1 10 0 8) + 1))) rfl ?_
          refine sm_T_b0 (a := 5) (z := 17) rfl (fun c39_ => ?_) (fun c39_ => ?_)
          · have c39_ : c_ ≤ 0 := of_decide_eq_true c39_
            exfalso; omega
          · have c39_ : ¬ (c_ ≤ 0) := of_decide_eq_false c39_
            have ec_ := i_i2c_s (x := c_) (by omega) (by omega)
            have es_ : lx_sg c_ ↔ 0 ≤ mt_ix mt_sgn (i_i2c c_) 0 := by rw [ec_]; exact lx_sg_ix
            refine sm_T_nt (u := some (.inr (.inr (some (301, 0))))) (S1 := sm_pI (sm_pI S0_ 10 0 2 c_) 10 0 8 ((S0_.1 10 0 8) + 1)) rfl rfl rfl ?_
            refine sm_T_go 2 (c1 := (114, [some (.inr (.inr (some (10, 0)))), some (.inl c_), some (.inl (S0_.2.2.1 98 0 ((S0_.1 10 0 8) + 1).toNat))], [.inl (i_i2c c_), .inr (.inr (some (301, 0)))], sm_pI (sm_pI S0_ 10 0 2 c_) 10 0 8 ((S0_.1 10 0 8) + 1))) rfl ?_
            refine sm_T_nt (u := some (.inl (mt_ix mt_sgn (i_i2c c_) 0))) (S1 := sm_pI (sm_pI S0_ 10 0 2 c_) 10 0 8 ((S0_.1 10 0 8) + 1)) rfl rfl (nt_sg (sc := sc_) (by omega) (by omega)) ?_
            refine sm_T_b0 (a := 2) (z := 7) rfl (fun c40_ => ?_) (fun c40_ => ?_)
            · have c40_ : (mt_ix mt_sgn (i_i2c c_) 0) < 0 := of_decide_eq_true c40_
              refine sm_T_go 1 (c1 := (125, [some (.inr (.inr (some (10, 0)))), some (.inl c_), some (.inl (S0_.2.2.1 98 0 ((S0_.1 10 0 8) + 1).toNat))], [.inl 0], sm_pI (sm_pI S0_ 10 0 2 c_) 10 0 8 ((S0_.1 10 0 8) + 1))) rfl ?_
              refine sm_T_rz rfl (by omega) ⟨_, _, rfl, _, rfl, hI37_, hF38_, ?_⟩
              have ha_ : ¬ (b_ p_ = 60 ∧ p_ + 1 < n_ ∧ b_ (p_ + 1) = 45) := by rw [← hc_]; omega
              have hs_ : ¬ (b_ p_ = 61 ∧ p_ + 1 < n_ ∧ b_ (p_ + 1) = 61) := by rw [← hc_]; omega
              unfold lx_sk lx_sn
              rw [if_neg ha_, if_neg hs_, if_neg ha_, if_neg hs_, ← hc_]
              (try simp only [rd_eq, rd_ne, rf_eq, rf_nk, rf_nt, rd_fa, rd_af, rd_fl, rd_al, rd_lf, rd_la, rd_leq, rd_lne, rd_fr, rd_ar, ne_eq, Nat.reduceEqDiff, not_false_eq_true])
              by_cases g_ : lx_sg c_
              · rw [if_pos g_]
                have hc0_ : c_ ≠ 0 := by omega
                rw [if_neg hc0_]; refine ⟨by omega, by omega, fun _ => rfl⟩
              · rw [if_neg g_, if_pos rfl]; refine ⟨by omega, by omega, fun h_ => absurd rfl h_⟩
            · have c40_ : ¬ ((mt_ix mt_sgn (i_i2c c_) 0) < 0) := of_decide_eq_false c40_
              refine sm_T_go 2 (c1 := (125, [some (.inr (.inr (some (10, 0)))), some (.inl c_), some (.inl (S0_.2.2.1 98 0 ((S0_.1 10 0 8) + 1).toNat))], [.inl 1], sm_pI (sm_pI S0_ 10 0 2 c_) 10 0 8 ((S0_.1 10 0 8) + 1))) rfl ?_
              refine sm_T_rz rfl (by omega) ⟨_, _, rfl, _, rfl, hI37_, hF38_, ?_⟩
              have ha_ : ¬ (b_ p_ = 60 ∧ p_ + 1 < n_ ∧ b_ (p_ + 1) = 45) := by rw [← hc_]; omega
              have hs_ : ¬ (b_ p_ = 61 ∧ p_ + 1 < n_ ∧ b_ (p_ + 1) = 61) := by rw [← hc_]; omega
              unfold lx_sk lx_sn
              rw [if_neg ha_, if_neg hs_, if_neg ha_, if_neg hs_, ← hc_]
              (try simp only [rd_eq, rd_ne, rf_eq, rf_nk, rf_nt, rd_fa, rd_af, rd_fl, rd_al, rd_lf, rd_la, rd_leq, rd_lne, rd_fr, rd_ar, ne_eq, Nat.reduceEqDiff, not_false_eq_true])
              by_cases g_ : lx_sg c_
              · rw [if_pos g_]
                have hc0_ : c_ ≠ 0 := by omega
                rw [if_neg hc0_]; refine ⟨by omega, by omega, fun _ => rfl⟩
              · rw [if_neg g_, if_pos rfl]; refine ⟨by omega, by omega, fun h_ => absurd rfl h_⟩
        · have c34_ : ¬ ((S0_.2.2.1 98 0 ((S0_.1 10 0 8) + 1).toNat) ≠ 61) := of_decide_eq_false c34_
          have hI41_ : gi (sm_pI S0_ 10 0 2 257) := gi_pI hI_ (show (-128) ≤ 257 ∧ 257 ≤ 257 from ⟨by omega, by omega⟩)
          have hF42_ : ai_fr (sx_W vw_195) S0_ (sm_pI S0_ 10 0 2 257) := ai_fr_tr hF_ (ai_fr_pI rfl)
          refine sm_T_go 7 (c1 := (85, [some (.inr (.inr (some (10, 0)))), some (.inl c_), some (.inl (S0_.2.2.1 98 0 ((S0_.1 10 0 8) + 1).toNat))], [.inl 2, .inl (S0_.1 10 0 8), .inr (.inr (some (10, 0)))], sm_pI S0_ 10 0 2 257)) rfl ?_
          refine sm_T_bin (w := (S0_.1 10 0 8) + 2) rfl (bi_add (by omega) (by omega) (by omega)) ?_
          have hI43_ : gi (sm_pI (sm_pI S0_ 10 0 2 257) 10 0 8 ((S0_.1 10 0 8) + 2)) := gi_pI hI41_ (show 0 ≤ (S0_.1 10 0 8) + 2 ∧ (S0_.1 10 0 8) + 2 ≤ 1280 from ⟨by omega, by omega⟩)
          have hF44_ : ai_fr (sx_W vw_195) S0_ (sm_pI (sm_pI S0_ 10 0 2 257) 10 0 8 ((S0_.1 10 0 8) + 2)) := ai_fr_tr hF42_ (ai_fr_pI rfl)
          refine sm_T_go 2 (c1 := (90, [some (.inr (.inr (some (10, 0)))), some (.inl c_), some (.inl (S0_.2.2.1 98 0 ((S0_.1 10 0 8) + 1).toNat))], [.inl 1], sm_pI (sm_pI S0_ 10 0 2 257) 10 0 8 ((S0_.1 10 0 8) + 2))) rfl ?_
          refine sm_T_rz rfl (by omega) ⟨_, _, rfl, _, rfl, hI43_, hF44_, ?_⟩
          have ha_ : ¬ (b_ p_ = 60 ∧ p_ + 1 < n_ ∧ b_ (p_ + 1) = 45) := by rw [← hc_]; omega
          have hs_ : (b_ p_ = 61 ∧ p_ + 1 < n_ ∧ b_ (p_ + 1) = 61) := by rw [← hc_]; omega
          unfold lx_sk lx_sn; rw [if_neg ha_, if_pos hs_, if_neg ha_, if_pos hs_]
          (try simp only [rd_eq, rd_ne, rf_eq, rf_nk, rf_nt, rd_fa, rd_af, rd_fl, rd_al, rd_lf, rd_la, rd_leq, rd_lne, rd_fr, rd_ar, ne_eq, Nat.reduceEqDiff, not_false_eq_true])
          exact ⟨rfl, by omega, fun _ => by first | rfl | trivial⟩
    · have c26_ : ¬ (c_ ≠ 60) := of_decide_eq_false c26_
      refine sm_T_go 2 (c1 := (38, [some (.inr (.inr (some (10, 0)))), some (.inl c_), some (.inl (S0_.2.2.1 98 0 ((S0_.1 10 0 8) + 1).toNat))], [.inl 45, .inl (S0_.2.2.1 98 0 ((S0_.1 10 0 8) + 1).toNat)], S0_)) rfl ?_
      refine sm_T_br (a := 1) (z := 22) rfl (fun c45_ => ?_) (fun c45_ => ?_)
      · have c45_ : (S0_.2.2.1 98 0 ((S0_.1 10 0 8) + 1).toNat) ≠ 45 := of_decide_eq_true c45_
        refine sm_T_go 2 (c1 := (63, [some (.inr (.inr (some (10, 0)))), some (.inl c_), some (.inl (S0_.2.2.1 98 0 ((S0_.1 10 0 8) + 1).toNat))], [.inl 61, .inl c_], S0_)) rfl ?_
        refine sm_T_br (a := 1) (z := 28) rfl (fun c46_ => ?_) (fun c46_ => ?_)
        · have c46_ : c_ ≠ 61 := of_decide_eq_true c46_
          have hI47_ : gi (sm_pI S0_ 10 0 2 c_) := gi_pI hI_ (show (-128) ≤ c_ ∧ c_ ≤ 257 from ⟨by omega, by omega⟩)
          have hF48_ : ai_fr (sx_W vw_195) S0_ (sm_pI S0_ 10 0 2 c_) := ai_fr_tr hF_ (ai_fr_pI rfl)
          refine sm_T_go 7 (c1 := (102, [some (.inr (.inr (some (10, 0)))), some (.inl c_), some (.inl (S0_.2.2.1 98 0 ((S0_.1 10 0 8) + 1).toNat))], [.inl 1, .inl (S0_.1 10 0 8), .inr (.inr (some (10, 0)))], sm_pI S0_ 10 0 2 c_)) rfl ?_
          refine sm_T_bin (w := (S0_.1 10 0 8) + 1) rfl (bi_add (by omega) (by omega) (by omega)) ?_
          have hI49_ : gi (sm_pI (sm_pI S0_ 10 0 2 c_) 10 0 8 ((S0_.1 10 0 8) + 1)) := gi_pI hI47_ (show 0 ≤ (S0_.1 10 0 8) + 1 ∧ (S0_.1 10 0 8) + 1 ≤ 1280 from ⟨by omega, by omega⟩)
          have hF50_ : ai_fr (sx_W vw_195) S0_ (sm_pI (sm_pI S0_ 10 0 2 c_) 10 0 8 ((S0_.1 10 0 8) + 1)) := ai_fr_tr hF48_ (ai_fr_pI rfl)
          refine sm_T_go 2 (c1 := (107, [some (.inr (.inr (some (10, 0)))), some (.inl c_), some (.inl (S0_.2.2.1 98 0 ((S0_.1 10 0 8) + 1).toNat))], [.inl c_], sm_pI (sm_pI S0_ 10 0 2 c_) 10 0 8 ((S0_.1 10 0 8) + 1))) rfl ?_
          refine sm_T_b0 (a := 5) (z := 17) rfl (fun c51_ => ?_) (fun c51_ => ?_)
          · have c51_ : c_ ≤ 0 := of_decide_eq_true c51_
            exfalso; omega
          · have c51_ : ¬ (c_ ≤ 0) := of_decide_eq_false c51_
            have ec_ := i_i2c_s (x := c_) (by omega) (by omega)
            have es_ : lx_sg c_ ↔ 0 ≤ mt_ix mt_sgn (i_i2c c_) 0 := by rw [ec_]; exact lx_sg_ix
            refine sm_T_nt (u := some (.inr (.inr (some (301, 0))))) (S1 := sm_pI (sm_pI S0_ 10 0 2 c_) 10 0 8 ((S0_.1 10 0 8) + 1)) rfl rfl rfl ?_
            refine sm_T_go 2 (c1 := (114, [some (.inr (.inr (some (10, 0)))), some (.inl c_), some (.inl (S0_.2.2.1 98 0 ((S0_.1 10 0 8) + 1).toNat))], [.inl (i_i2c c_), .inr (.inr (some (301, 0)))], sm_pI (sm_pI S0_ 10 0 2 c_) 10 0 8 ((S0_.1 10 0 8) + 1))) rfl ?_
            refine sm_T_nt (u := some (.inl (mt_ix mt_sgn (i_i2c c_) 0))) (S1 := sm_pI (sm_pI S0_ 10 0 2 c_) 10 0 8 ((S0_.1 10 0 8) + 1)) rfl rfl (nt_sg (sc := sc_) (by omega) (by omega)) ?_
            refine sm_T_b0 (a := 2) (z := 7) rfl (fun c52_ => ?_) (fun c52_ => ?_)
            · have c52_ : (mt_ix mt_sgn (i_i2c c_) 0) < 0 := of_decide_eq_true c52_
              refine sm_T_go 1 (c1 := (125, [some (.inr (.inr (some (10, 0)))), some (.inl c_), some (.inl (S0_.2.2.1 98 0 ((S0_.1 10 0 8) + 1).toNat))], [.inl 0], sm_pI (sm_pI S0_ 10 0 2 c_) 10 0 8 ((S0_.1 10 0 8) + 1))) rfl ?_
              refine sm_T_rz rfl (by omega) ⟨_, _, rfl, _, rfl, hI49_, hF50_, ?_⟩
              have ha_ : ¬ (b_ p_ = 60 ∧ p_ + 1 < n_ ∧ b_ (p_ + 1) = 45) := by rw [← hc_]; omega
              have hs_ : ¬ (b_ p_ = 61 ∧ p_ + 1 < n_ ∧ b_ (p_ + 1) = 61) := by rw [← hc_]; omega
              unfold lx_sk lx_sn
              rw [if_neg ha_, if_neg hs_, if_neg ha_, if_neg hs_, ← hc_]
              (try simp only [rd_eq, rd_ne, rf_eq, rf_nk, rf_nt, rd_fa, rd_af, rd_fl, rd_al, rd_lf, rd_la, rd_leq, rd_lne, rd_fr, rd_ar, ne_eq, Nat.reduceEqDiff, not_false_eq_true])
              by_cases g_ : lx_sg c_
              · rw [if_pos g_]
                have hc0_ : c_ ≠ 0 := by omega
                rw [if_neg hc0_]; refine ⟨by omega, by omega, fun _ => rfl⟩
              · rw [if_neg g_, if_pos rfl]; refine ⟨by omega, by omega, fun h_ => absurd rfl h_⟩
            · have c52_ : ¬ ((mt_ix mt_sgn (i_i2c c_) 0) < 0) := of_decide_eq_false c52_
              refine sm_T_go 2 (c1 := (125, [some (.inr (.inr (some (10, 0)))), some (.inl c_), some (.inl (S0_.2.2.1 98 0 ((S0_.1 10 0 8) + 1).toNat))], [.inl 1], sm_pI (sm_pI S0_ 10 0 2 c_) 10 0 8 ((S0_.1 10 0 8) + 1))) rfl ?_
              refine sm_T_rz rfl (by omega) ⟨_, _, rfl, _, rfl, hI49_, hF50_, ?_⟩
              have ha_ : ¬ (b_ p_ = 60 ∧ p_ + 1 < n_ ∧ b_ (p_ + 1) = 45) := by rw [← hc_]; omega
              have hs_ : ¬ (b_ p_ = 61 ∧ p_ + 1 < n_ ∧ b_ (p_ + 1) = 61) := by rw [← hc_]; omega
              unfold lx_sk lx_sn
              rw [if_neg ha_, if_neg hs_, if_neg ha_, if_neg hs_, ← hc_]
              (try simp only [rd_eq, rd_ne, rf_eq, rf_nk, rf_nt, rd_fa, rd_af, rd_fl, rd_al, rd_lf, rd_la, rd_leq, rd_lne, rd_fr, rd_ar, ne_eq, Nat.reduceEqDiff, not_false_eq_true])
              by_cases g_ : lx_sg c_
              · rw [if_pos g_]
                have hc0_ : c_ ≠ 0 := by omega
                rw [if_neg hc0_]; refine ⟨by omega, by omega, fun _ => rfl⟩
              · rw [if_neg g_, if_pos rfl]; refine ⟨by omega, by omega, fun h_ => absurd rfl h_⟩
        · have c46_ : ¬ (c_ ≠ 61) := of_decide_eq_false c46_
          exfalso; omega
      · have c45_ : ¬ ((S0_.2.2.1 98 0 ((S0_.1 10 0 8) + 1).toNat) ≠ 45) := of_decide_eq_false c45_
        have hI53_ : gi (sm_pI S0_ 10 0 2 256) := gi_pI hI_ (show (-128) ≤ 256 ∧ 256 ≤ 257 from ⟨by omega, by omega⟩)
        have hF54_ : ai_fr (sx_W vw_195) S0_ (sm_pI S0_ 10 0 2 256) := ai_fr_tr hF_ (ai_fr_pI rfl)
        refine sm_T_go 7 (c1 := (54, [some (.inr (.inr (some (10, 0)))), some (.inl c_), some (.inl (S0_.2.2.1 98 0 ((S0_.1 10 0 8) + 1).toNat))], [.inl 2, .inl (S0_.1 10 0 8), .inr (.inr (some (10, 0)))], sm_pI S0_ 10 0 2 256)) rfl ?_
        refine sm_T_bin (w := (S0_.1 10 0 8) + 2) rfl (bi_add (by omega) (by omega) (by omega)) ?_
        have hI55_ : gi (sm_pI (sm_pI S0_ 10 0 2 256) 10 0 8 ((S0_.1 10 0 8) + 2)) := gi_pI hI53_ (show 0 ≤ (S0_.1 10 0 8) + 2 ∧ (S0_.1 10 0 8) + 2 ≤ 1280 from ⟨by omega, by omega⟩)
        have hF56_ : ai_fr (sx_W vw_195) S0_ (sm_pI (sm_pI S0_ 10 0 2 256) 10 0 8 ((S0_.1 10 0 8) + 2)) := ai_fr_tr hF54_ (ai_fr_pI rfl)
        refine sm_T_go 2 (c1 := (59, [some (.inr (.inr (some (10, 0)))), some (.inl c_), some (.inl (S0_.2.2.1 98 0 ((S0_.1 10 0 8) + 1).toNat))], [.inl 1], sm_pI (sm_pI S0_ 10 0 2 256) 10 0 8 ((S0_.1 10 0 8) + 2))) rfl ?_
        refine sm_T_rz rfl (by omega) ⟨_, _, rfl, _, rfl, hI55_, hF56_, ?_⟩
        have ha_ : (b_ p_ = 60 ∧ p_ + 1 < n_ ∧ b_ (p_ + 1) = 45) := by rw [← hc_]; omega
        unfold lx_sk lx_sn; rw [if_pos ha_, if_pos ha_]
        (try simp only [rd_eq, rd_ne, rf_eq, rf_nk, rf_nt, rd_fa, rd_af, rd_fl, rd_al, rd_lf, rd_la, rd_leq, rd_lne, rd_fr, rd_ar, ne_eq, Nat.reduceEqDiff, not_false_eq_true])
        exact ⟨rfl, by omega, fun _ => by first | rfl | trivial⟩
end
/-! 99.v2 -/
section
/-! the class: taking tokens; written by wip/p55/gen/vg -/
/-! Text.fail -/
def vw_187 : sx_Wl := ([(10, 6), (10, 7)], [], [])
def vq_187 (code : Int) (place : Int) (S0_ : sm_S) (u_ : Option sm_V) (S1_ : sm_S) : Prop := u_ = none ∧ gi S1_ ∧ ai_fr (sx_W vw_187) S0_ S1_ ∧ (False)
def vx_187 (code : Int) (place : Int) (S0_ : sm_S) (S1_ : sm_S) : Prop := gi S1_ ∧ ai_fr (sx_W vw_187) S0_ S1_ ∧ ((S1_.1 10 0 6) = code ∧ (S1_.1 10 0 7) = place)
theorem vc_187 {sc_ : Nat × (Nat → Int)} (code : Int) (place : Int) (S0_ : sm_S) (hI_ : gi S0_) (h1_ : 0 ≤ code ∧ code ≤ 23) (h2_ : 0 ≤ place ∧ place ≤ 1280) : sm_T (mt_P sc_) 0 187 (0, [some (.inr (.inr (some (10, 0)))), some (.inl code), some (.inl place)], [], S0_) (fun r_ => (∃ u_ S1_, r_ = (.inl u_, S1_, 0) ∧ vq_187 code place S0_ u_ S1_) ∨ ∃ S1_, r_ = (.inr 2, S1_, 1) ∧ vx_187 code place S0_ S1_) := by
  have hF_ : ai_fr (sx_W vw_187) S0_ S0_ := ai_fr_rf
  have hI1_ : gi (sm_pI S0_ 10 0 6 code) := gi_pI hI_ (show 0 ≤ code ∧ code ≤ 23 from ⟨by omega, by omega⟩)
  have hF2_ : ai_fr (sx_W vw_187) S0_ (sm_pI S0_ 10 0 6 code) := ai_fr_tr hF_ (ai_fr_pI rfl)
  have hI3_ : gi (sm_pI (sm_pI S0_ 10 0 6 code) 10 0 7 place) := gi_pI hI1_ (show 0 ≤ place ∧ place ≤ 4095 from ⟨by omega, by omega⟩)
  have hF4_ : ai_fr (sx_W vw_187) S0_ (sm_pI (sm_pI S0_ 10 0 6 code) 10 0 7 place) := ai_fr_tr hF2_ (ai_fr_pI rfl)
  refine sm_T_go 6 (c1 := (10, [some (.inr (.inr (some (10, 0)))), some (.inl code), some (.inl place)], [], sm_pI (sm_pI S0_ 10 0 6 code) 10 0 7 place)) rfl ?_
  refine sm_T_th rfl rfl (Or.inr ⟨_, rfl, hI3_, hF4_, ?_⟩)
  exact ⟨rfl, rfl⟩
/-! Text.advance -/
def vw_191 : sx_Wl := ([(10, 2), (10, 3), (10, 4), (10, 5), (10, 6), (10, 7), (10, 8)], [], [])
def vq_191 (b_ : Nat → Int) (n_ : Nat) (q_ : Nat) (S0_ : sm_S) (u_ : Option sm_V) (S1_ : sm_S) : Prop := u_ = none ∧ gi S1_ ∧ ai_fr (sx_W vw_191) S0_ S1_ ∧ (ct b_ n_ (lx_k b_ n_ q_) S1_)
def vx_191 (b_ : Nat → Int) (n_ : Nat) (q_ : Nat) (S0_ : sm_S) (S1_ : sm_S) : Prop := gi S1_ ∧ ai_fr (sx_W vw_191) S0_ S1_ ∧ (lx_kd b_ n_ (lx_k b_ n_ q_) = -1 ∧ ter S1_ (1, (lx_k b_ n_ q_)))
theorem vc_191 {sc_ : Nat × (Nat → Int)} (b_ : Nat → Int) (n_ : Nat) (q_ : Nat) (S0_ : sm_S) (hI_ : gi S0_) (hb_ : S0_.2.2.1 98 0 = b_) (hn_ : (S0_.1 10 0 1) = (n_ : Int)) (hn1_ : n_ ≤ 1280) (hp_ : (S0_.1 10 0 8) = (q_ : Int)) (hpn_ : q_ ≤ n_) : sm_T (mt_P sc_) 1 191 (0, [some (.inr (.inr (some (10, 0)))), none, none], [], S0_) (fun r_ => (∃ u_ S1_, r_ = (.inl u_, S1_, 0) ∧ vq_191 b_ n_ q_ S0_ u_ S1_) ∨ ∃ S1_, r_ = (.inr 2, S1_, 1) ∧ vx_191 b_ n_ q_ S0_ S1_) := by
  have hF_ : ai_fr (sx_W vw_191) S0_ S0_ := ai_fr_rf
  refine sm_T_go 1 (c1 := (1, [some (.inr (.inr (some (10, 0)))), none, none], [.inr (.inr (some (10, 0)))], S0_)) rfl ?_
  refine sm_T_cal (d1 := 0) (Q1 := vq_192 b_ n_ q_ S0_) rfl rfl (by decide) (vc_192 b_ n_ q_ S0_ hI_ (by exact hb_) (by exact hn_) (by exact hn1_) (by exact hp_) (by exact hpn_)) (fun u_ S1_ p4_ => ?_)
  obtain ⟨rfl, hI2_, hF3_, p4_⟩ := p4_
  have hF5_ : ai_fr (sx_W vw_191) S0_ S1_ := ai_fr_tr hF_ (fr_le hF3_ rfl)
  have hb2_ : S1_.2.2.1 98 0 = b_ := (fr_arr hF3_ rfl).trans hb_
  have hn2_ : S1_.1 10 0 1 = (n_ : Int) := (hF3_.1 10 0 1 rfl).trans hn_
  have hk_ := p4_
  have hkl_ := lx_k_le (b := b_) hpn_
  have e9_ : S1_.2.2.1 98 0 (S1_.1 10 0 8).toNat = b_ (lx_k b_ n_ q_) := by rw [hb2_, hk_]; rfl
  have b6_ : 0 ≤ S1_.1 10 0 8 ∧ S1_.1 10 0 8 ≤ 1280 := hI2_.1 10 0 8 rfl
  have hI7_ : gi (sm_pI S1_ 10 0 3 (S1_.1 10 0 8)) := gi_pI hI2_ (show 0 ≤ (S1_.1 10 0 8) ∧ (S1_.1 10 0 8) ≤ 1280 from ⟨by omega, by omega⟩)
  have hF8_ : ai_fr (sx_W vw_191) S0_ (sm_pI S1_ 10 0 3 (S1_.1 10 0 8)) := ai_fr_tr hF5_ (ai_fr_pI rfl)
  have hI9_ : gi (sm_pI (sm_pI S1_ 10 0 3 (S1_.1 10 0 8)) 10 0 4 0) := gi_pI hI7_ (show 0 ≤ 0 ∧ 0 ≤ 1280 from ⟨by omega, by omega⟩)
  have hF10_ : ai_fr (sx_W vw_191) S0_ (sm_pI (sm_pI S1_ 10 0 3 (S1_.1 10 0 8)) 10 0 4 0) := ai_fr_tr hF8_ (ai_fr_pI rfl)
  have b11_ : 0 ≤ S1_.1 10 0 1 ∧ S1_.1 10 0 1 ≤ 1280 := hI2_.1 10 0 1 rfl
  refine sm_T_go 11 (c1 := (25, [some (.inr (.inr (some (10, 0)))), none, none], [.inl (S1_.1 10 0 1), .inl (S1_.1 10 0 8)], sm_pI (sm_pI S1_ 10 0 3 (S1_.1 10 0 8)) 10 0 4 0)) rfl ?_
  refine sm_T_br (a := 2) (z := 9) rfl (fun c12_ => ?_) (fun c12_ => ?_)
  · have c12_ : (S1_.1 10 0 8) < (S1_.1 10 0 1) := of_decide_eq_true c12_
    refine sm_T_go 4 (c1 := (42, [some (.inr (.inr (some (10, 0)))), none, none], [.inl (S1_.1 10 0 8), .inr (.inr (some (98, 0)))], sm_pI (sm_pI S1_ 10 0 3 (S1_.1 10 0 8)) 10 0 4 0)) rfl ?_
    refine sm_T_bald (n := 65536) rfl rfl (by omega) (by omega) ?_
    have b13_ : (-128) ≤ S1_.2.2.1 98 0 (S1_.1 10 0 8).toNat ∧ S1_.2.2.1 98 0 (S1_.1 10 0 8).toNat ≤ 127 := hI2_.2 98 0 _
    refine sm_T_go 3 (c1 := (47, [some (.inr (.inr (some (10, 0)))), some (.inl (S1_.2.2.1 98 0 (S1_.1 10 0 8).toNat)), none], [.inl 32, .inl (S1_.2.2.1 98 0 (S1_.1 10 0 8).toNat)], sm_pI (sm_pI S1_ 10 0 3 (S1_.1 10 0 8)) 10 0 4 0)) rfl ?_
    refine sm_T_bin (w := (i_or (S1_.2.2.1 98 0 (S1_.1 10 0 8).toNat) 32)) rfl rfl ?_
    have b14_ := lx_or (x := (S1_.2.2.1 98 0 (S1_.1 10 0 8).toNat)) (by omega) (by omega)
    refine sm_T_go 1 (c1 := (50, [some (.inr (.inr (some (10, 0)))), some (.inl (S1_.2.2.1 98 0 (S1_.1 10 0 8).toNat)), none], [.inl 97, .inl (i_or (S1_.2.2.1 98 0 (S1_.1 10 0 8).toNat) 32)], sm_pI (sm_pI S1_ 10 0 3 (S1_.1 10 0 8)) 10 0 4 0)) rfl ?_
    refine sm_T_br (a := 2) (z := 12) rfl (fun c15_ => ?_) (fun c15_ => ?_)
    · have c15_ : (i_or (S1_.2.2.1 98 0 (S1_.1 10 0 8).toNat) 32) < 97 := of_decide_eq_true c15_
      refine sm_T_go 2 (c1 := (65, [some (.inr (.inr (some (10, 0)))), some (.inl (S1_.2.2.1 98 0 (S1_.1 10 0 8).toNat)), none], [.inl 95, .inl (S1_.2.2.1 98 0 (S1_.1 10 0 8).toNat)], sm_pI (sm_pI S1_ 10 0 3 (S1_.1 10 0 8)) 10 0 4 0)) rfl ?_
      refine sm_T_br (a := 1) (z := 11) rfl (fun c16_ => ?_) (fun c16_ => ?_)
      · have c16_ : (S1_.2.2.1 98 0 (S1_.1 10 0 8).toNat) ≠ 95 := of_decide_eq_true c16_
        refine sm_T_go 2 (c1 := (79, [some (.inr (.inr (some (10, 0)))), some (.inl (S1_.2.2.1 98 0 (S1_.1 10 0 8).toNat)), none], [.inl 48, .inl (S1_.2.2.1 98 0 (S1_.1 10 0 8).toNat)], sm_pI (sm_pI S1_ 10 0 3 (S1_.1 10 0 8)) 10 0 4 0)) rfl ?_
        refine sm_T_br (a := 2) (z := 17) rfl (fun c17_ => ?_) (fun c17_ => ?_)
        · have c17_ : (S1_.2.2.1 98 0 (S1_.1 10 0 8).toNat) < 48 := of_decide_eq_true c17_
          refine sm_T_go 2 (c1 := (98, [some (.inr (.inr (some (10, 0)))), some (.inl (S1_.2.2.1 98 0 (S1_.1 10 0 8).toNat)), none], [.inl (S1_.2.2.1 98 0 (S1_.1 10 0 8).toNat), .inr (.inr (some (10, 0)))], sm_pI (sm_pI S1_ 10 0 3 (S1_.1 10 0 8)) 10 0 4 0)) rfl ?_
          refine sm_T_cal (d1 := 0) (Q1 := vq_195 (S1_.2.2.1 98 0 (S1_.1 10 0 8).toNat) b_ n_ (lx_k b_ n_ q_) (sm_pI (sm_pI S1_ 10 0 3 (S1_.1 10 0 8)) 10 0 4 0)) rfl rfl (by decide) (vc_195 (S1_.2.2.1 98 0 (S1_.1 10 0 8).toNat) b_ n_ (lx_k b_ n_ q_) (sm_pI (sm_pI S1_ 10 0 3 (S1_.1 10 0 8)) 10 0 4 0) hI9_ (by exact hb2_) (by exact hn2_) (by exact hn1_) (by exact hk_) (by omega) (by exact e9_)) (fun u_ S18_ p21_ => ?_)
          obtain ⟨v23_, rfl, hI19_, hF20_, p21_⟩ := p21_
          have hF22_ : ai_fr (sx_W vw_191) S0_ S18_ := ai_fr_tr hF10_ (fr_le hF20_ rfl)
          have hb3_ : S18_.2.2.1 98 0 = b_ := (fr_arr hF20_ rfl).trans hb2_
          have hn3_ : S18_.1 10 0 1 = (n_ : Int) := (hF20_.1 10 0 1 rfl).trans hn2_
          have hst_ : S18_.1 10 0 3 = (lx_k b_ n_ q_ : Nat) := (hF20_.1 10 0 3 rfl).trans hk_
          have hr_ := p21_
          have hl_ : ¬ lx_l (b_ (lx_k b_ n_ q_)) := by omega
          have hg_ : ¬ lx_g (b_ (lx_k b_ n_ q_)) := by omega
          have hkd_ : lx_kd b_ n_ (lx_k b_ n_ q_) = if lx_sk b_ n_ (lx_k b_ n_ q_) = 0 then -1 else lx_sk b_ n_ (lx_k b_ n_ q_) := by unfold lx_kd; rw [if_neg (by omega), if_neg hl_, if_neg hg_]
          have hsk_ := lx_sk_b (b := b_) (n := n_) (p := (lx_k b_ n_ q_))
          have hen_ : lx_en b_ n_ (lx_k b_ n_ q_) = lx_sn b_ n_ (lx_k b_ n_ q_) := by unfold lx_en; rw [if_neg (by omega), if_neg hl_, if_neg hg_]
          have hsz_ : lx_sz b_ n_ (lx_k b_ n_ q_) = 0 := by unfold lx_sz; rw [if_neg (by omega), if_neg hl_, if_neg hg_]
          have hzz_ : S18_.1 10 0 4 = 0 := (hF20_.1 10 0 4 rfl).trans rfl
          have hvv_ : lx_kd b_ n_ (lx_k b_ n_ q_) = 2 → S18_.1 10 0 5 = lx_vl b_ n_ (lx_k b_ n_ q_) := by intro h_; rw [hkd_] at h_; split at h_ <;> omega
          refine sm_T_go 2 (c1 := (103, [some (.inr (.inr (some (10, 0)))), some (.inl (S1_.2.2.1 98 0 (S1_.1 10 0 8).toNat)), some (.inl v23_)], [.inl v23_], S18_)) rfl ?_
          refine sm_T_b0 (a := 1) (z := 12) rfl (fun c24_ => ?_) (fun c24_ => ?_)
          · have c24_ : v23_ ≠ 0 := of_decide_eq_true c24_
            refine sm_T_rv rfl (Or.inl ⟨_, _, rfl, rfl, hI19_, hF22_, ?_⟩)
            refine ⟨hb3_, hn3_, hn1_, by omega, ?_, hst_, ?_, ?_, ?_, hvv_⟩
            · rw [hkd_]; split <;> omega
            · rw [hen_]; exact hr_.2.1
            · first | (rw [hkd_, if_pos (by omega)]; exact hr_.2.2.2) | (rw [hkd_, if_pos (by omega)]; exact hr_.2.2.2.1) | (rw [hkd_, if_neg (by omega)]; exact hr_.2.2 (by omega))
            · rw [hsz_]; first | exact hr_.2.2.1 | exact hzz_
          · have c24_ : ¬ (v23_ ≠ 0) := of_decide_eq_false c24_
            have b25_ : 0 ≤ S18_.1 10 0 3 ∧ S18_.1 10 0 3 ≤ 1280 := hI19_.1 10 0 3 rfl
            refine sm_T_go 4 (c1 := (112, [some (.inr (.inr (some (10, 0)))), some (.inl (S1_.2.2.1 98 0 (S1_.1 10 0 8).toNat)), some (.inl v23_)], [.inl (S18_.1 10 0 3), .inl 1, .inr (.inr (some (10, 0)))], S18_)) rfl ?_
            refine sm_T_calx (d1 := 0) (Q1 := vq_187 1 (S18_.1 10 0 3) S18_) (Q2 := vx_187 1 (S18_.1 10 0 3) S18_) rfl rfl (by decide) (vc_187 1 (S18_.1 10 0 3) S18_ hI19_ (by decide) (by omega)) rfl (fun S26_ p29_ => ?_) (fun u_ S26_ p29_ => ?_)
            · obtain ⟨hI27_, hF28_, p29_⟩ := p29_
              refine Or.inr ⟨_, rfl, hI27_, ai_fr_tr hF22_ (fr_le hF28_ rfl), ?_⟩
              refine ⟨?_, p29_.1, p29_.2.trans hst_⟩
              rw [hkd_]; first | (rw [if_neg (by omega)]) | (rw [if_pos (by omega)])
            · exact (p29_.2.2.2).elim
        · have c17_ : ¬ ((S1_.2.2.1 98 0 (S1_.1 10 0 8).toNat) < 48) := of_decide_eq_false c17_
          refine sm_T_go 2 (c1 := (85, [some (.inr (.inr (some (10, 0)))), some (.inl (S1_.2.2.1 98 0 (S1_.1 10 0 8).toNat)), none], [.inl 57, .inl (S1_.2.2.1 98 0 (S1_.1 10 0 8).toNat)], sm_pI (sm_pI S1_ 10 0 3 (S1_.1 10 0 8)) 10 0 4 0)) rfl ?_
          refine sm_T_br (a := 4) (z := 11) rfl (fun c31_ => ?_) (fun c31_ => ?_)
          · have c31_ : 57 < (S1_.2.2.1 98 0 (S1_.1 10 0 8).toNat) := of_decide_eq_true c31_
            refine sm_T_go 2 (c1 := (98, [some (.inr (.inr (some (10, 0)))), some (.inl (S1_.2.2.1 98 0 (S1_.1 10 0 8).toNat)), none], [.inl (S1_.2.2.1 98 0 (S1_.1 10 0 8).toNat), .inr (.inr (some (10, 0)))], sm_pI (sm_pI S1_ 10 0 3 (S1_.1 10 0 8)) 10 0 4 0)) rfl ?_
            refine sm_T_cal (d1 := 0) (Q1 := vq_195 (S1_.2.2.1 98 0 (S1_.1 10 0 8).toNat) b_ n_ (lx_k b_ n_ q_) (sm_pI (sm_pI S1_ 10 0 3 (S1_.1 10 0 8)) 10 0 4 0)) rfl rfl (by decide) (vc_195 (S1_.2.2.1 98 0 (S1_.1 10 0 8).toNat) b_ n_ (lx_k b_ n_ q_) (sm_pI (sm_pI S1_ 10 0 3 (S1_.1 10 0 8)) 10 0 4 0) hI9_ (by exact hb2_) (by exact hn2_) (by exact hn1_) (by exact hk_) (by omega) (by exact e9_)) (fun u_ S32_ p35_ => ?_)
            obtain ⟨v37_, rfl, hI33_, hF34_, p35_⟩ := p35_
            have hF36_ : ai_fr (sx_W vw_191) S0_ S32_ := ai_fr_tr hF10_ (fr_le hF34_ rfl)
            have hb3_ : S32_.2.2.1 98 0 = b_ := (fr_arr hF34_ rfl).trans hb2_
            have hn3_ : S32_.1 10 0 1 = (n_ : Int) := (hF34_.1 10 0 1 rfl).trans hn2_
            have hst_ : S32_.1 10 0 3 = (lx_k b_ n_ q_ : Nat) := (hF34_.1 10 0 3 rfl).trans hk_
            have hr_ := p35_
            have hl_ : ¬ lx_l (b_ (lx_k b_ n_ q_)) := by omega
            have hg_ : ¬ lx_g (b_ (lx_k b_ n_ q_)) := by omega
            have hkd_ : lx_kd b_ n_ (lx_k b_ n_ q_) = if lx_sk b_ n_ (lx_k b_ n_ q_) = 0 then -1 else lx_sk b_ n_ (lx_k b_ n_ q_) := by unfold lx_kd; rw [if_neg (by omega), if_neg hl_, if_neg hg_]
            have hsk_ := lx_sk_b (b := b_) (n := n_) (p := (lx_k b_ n_ q_))
            have hen_ : lx_en b_ n_ (lx_k b_ n_ q_) = lx_sn b_ n_ (lx_k b_ n_ q_) := by unfold lx_en; rw [if_neg (by omega), if_neg hl_, if_neg hg_]
            have hsz_ : lx_sz b_ n_ (lx_k b_ n_ q_) = 0 := by unfold lx_sz; rw [if_neg (by omega), if_neg hl_, if_neg hg_]
            have hzz_ : S32_.1 10 0 4 = 0 := (hF34_.1 10 0 4 rfl).trans rfl
            have hvv_ : lx_kd b_ n_ (lx_k b_ n_ q_) = 2 → S32_.1 10 0 5 = lx_vl b_ n_ (lx_k b_ n_ q_) := by intro h_; rw [hkd_] at h_; split at h_ <;> omega
            refine sm_T_go 2 (c1 := (103, [some (.inr (.inr (some (10, 0)))), some (.inl (S1_.2.2.1 98 0 (S1_.1 10 0 8).toNat)), some (.inl v37_)], [.inl v37_], S32_)) rfl ?_
            refine sm_T_b0 (a := 1) (z := 12) rfl (fun c38_ => ?_) (fun c38_ => ?_)
            · have c38_ : v37_ ≠ 0 := of_decide_eq_true c38_
              refine sm_T_rv rfl (Or.inl ⟨_, _, rfl, rfl, hI33_, hF36_, ?_⟩)
              refine ⟨hb3_, hn3_, hn1_, by omega, ?_, hst_, ?_, ?_, ?_, hvv_⟩
              · rw [hkd_]; split <;> omega
              · rw [hen_]; exact hr_.2.1
              · first | (rw [hkd_, if_pos (by omega)]; exact hr_.2.2.2) | (rw [hkd_, if_pos (by omega)]; exact hr_.2.2.2.1) | (rw [hkd_, if_neg (by omega)]; exact hr_.2.2 (by omega))
              · rw [hsz_]; first | exact hr_.2.2.1 | exact hzz_
            · have c38_ : ¬ (v37_ ≠ 0) := of_decide_eq_false c38_
              have b39_ : 0 ≤ S32_.1 10 0 3 ∧ S32_.1 10 0 3 ≤ 1280 := hI33_.1 10 0 3 rfl
              refine sm_T_go 4 (c1 := (112, [some (.inr (.inr (some (10, 0)))), some (.inl (S1_.2.2.1 98 0 (S1_.1 10 0 8).toNat)), some (.inl v37_)], [.inl (S32_.1 10 0 3), .inl 1, .inr (.inr (some (10, 0)))], S32_)) rfl ?_
              refine sm_T_calx (d1 := 0) (Q1 := vq_187 1 (S32_.1 10 0 3) S32_) (Q2 := vx_187 1 (S32_.1 10 0 3) S32_) rfl rfl (by decide) (vc_187 1 (S32_.1 10 0 3) S32_ hI33_ (by decide) (by omega)) rfl (fun S40_ p43_ => ?_) (fun u_ S40_ p43_ => ?_)
              · obtain ⟨hI41_, hF42_, p43_⟩ := p43_
                refine Or.inr ⟨_, rfl, hI41_, ai_fr_tr hF36_ (fr_le hF42_ rfl), ?_⟩
                refine ⟨?_, p43_.1, p43_.2.trans hst_⟩
                rw [hkd_]; first | (rw [if_neg (by omega)]) | (rw [if_pos (by omega)])
              · exact (p43_.2.2.2).elim
          · have c31_ : ¬ (57 < (S1_.2.2.1 98 0 (S1_.1 10 0 8).toNat)) := of_decide_eq_false c31_
            refine sm_T_go 1 (c1 := (89, [some (.inr (.inr (some (10, 0)))), some (.inl (S1_.2.2.1 98 0 (S1_.1 10 0 8).toNat)), none], [.inr (.inr (some (10, 0)))], sm_pI (sm_pI S1_ 10 0 3 (S1_.1 10 0 8)) 10 0 4 0)) rfl ?_
            refine sm_T_cal (d1 := 0) (Q1 := vq_194 b_ n_ (lx_k b_ n_ q_) (sm_pI (sm_pI S1_ 10 0 3 (S1_.1 10 0 8)) 10 0 4 0)) rfl rfl (by decide) (vc_194 b_ n_ (lx_k b_ n_ q_) (sm_pI (sm_pI S1_ 10 0 3 (S1_.1 10 0 8)) 10 0 4 0) hI9_ (by exact hb2_) (by exact hn2_) (by exact hn1_) (by exact hk_) (by omega) (by rfl)) (fun u_ S45_ p48_ => ?_)
            obtain ⟨v50_, rfl, hI46_, hF47_, p48_⟩ := p48_
            have hF49_ : ai_fr (sx_W vw_191) S0_ S45_ := ai_fr_tr hF10_ (fr_le hF47_ rfl)
            have hb3_ : S45_.2.2.1 98 0 = b_ := (fr_arr hF47_ rfl).trans hb2_
            have hn3_ : S45_.1 10 0 1 = (n_ : Int) := (hF47_.1 10 0 1 rfl).trans hn2_
            have hst_ : S45_.1 10 0 3 = (lx_k b_ n_ q_ : Nat) := (hF47_.1 10 0 3 rfl).trans hk_
            have hr_ := p48_
            have hl_ : ¬ lx_l (b_ (lx_k b_ n_ q_)) := by omega
            have hg_ : lx_g (b_ (lx_k b_ n_ q_)) := by omega
            have hkd_ : lx_kd b_ n_ (lx_k b_ n_ q_) = if lx_de b_ n_ (lx_k b_ n_ q_) - (lx_k b_ n_ q_) ≤ 6 then 2 else -1 := by unfold lx_kd; rw [if_neg (by omega), if_neg hl_, if_pos hg_]
            have hen_ : lx_en b_ n_ (lx_k b_ n_ q_) = lx_de b_ n_ (lx_k b_ n_ q_) := by unfold lx_en; rw [if_neg (by omega), if_neg hl_, if_pos hg_]
            have hsz_ : lx_sz b_ n_ (lx_k b_ n_ q_) = lx_de b_ n_ (lx_k b_ n_ q_) - (lx_k b_ n_ q_) := by unfold lx_sz; rw [if_neg (by omega), if_neg hl_, if_pos hg_]
            have hvv_ : lx_kd b_ n_ (lx_k b_ n_ q_) = 2 → S45_.1 10 0 5 = lx_vl b_ n_ (lx_k b_ n_ q_) := fun _ => hr_.2.2.2.2
            refine sm_T_go 3 (c1 := (103, [some (.inr (.inr (some (10, 0)))), some (.inl (S1_.2.2.1 98 0 (S1_.1 10 0 8).toNat)), some (.inl v50_)], [.inl v50_], S45_)) rfl ?_
            refine sm_T_b0 (a := 1) (z := 12) rfl (fun c51_ => ?_) (fun c51_ => ?_)
            · have c51_ : v50_ ≠ 0 := of_decide_eq_true c51_
              refine sm_T_rv rfl (Or.inl ⟨_, _, rfl, rfl, hI46_, hF49_, ?_⟩)
              refine ⟨hb3_, hn3_, hn1_, by omega, ?_, hst_, ?_, ?_, ?_, hvv_⟩
              · rw [hkd_]; split <;> omega
              · rw [hen_]; exact hr_.2.1
              · first | (rw [hkd_, if_pos (by omega)]; exact hr_.2.2.2) | (rw [hkd_, if_pos (by omega)]; exact hr_.2.2.2.1) | (rw [hkd_, if_neg (by omega)]; exact hr_.2.2 (by omega))
              · rw [hsz_]; first | exact hr_.2.2.1 | exact hzz_
            · have c51_ : ¬ (v50_ ≠ 0) := of_decide_eq_false c51_
              have b52_ : 0 ≤ S45_.1 10 0 3 ∧ S45_.1 10 0 3 ≤ 1280 := hI46_.1 10 0 3 rfl
              refine sm_T_go 4 (c1 := (112, [some (.inr (.inr (some (10, 0)))), some (.inl (S1_.2.2.1 98 0 (S1_.1 10 0 8).toNat)), some (.inl v50_)], [.inl (S45_.1 10 0 3), .inl 1, .inr (.inr (some (10, 0)))], S45_)) rfl ?_
              refine sm_T_calx (d1 := 0) (Q1 := vq_187 1 (S45_.1 10 0 3) S45_) (Q2 := vx_187 1 (S45_.1 10 0 3) S45_) rfl rfl (by decide) (vc_187 1 (S45_.1 10 0 3) S45_ hI46_ (by decide) (by omega)) rfl (fun S53_ p56_ => ?_) (fun u_ S53_ p56_ => ?_)
              · obtain ⟨hI54_, hF55_, p56_⟩ := p56_
                refine Or.inr ⟨_, rfl, hI54_, ai_fr_tr hF49_ (fr_le hF55_ rfl), ?_⟩
                refine ⟨?_, p56_.1, p56_.2.trans hst_⟩
                rw [hkd_]; first | (rw [if_neg (by omega)]) | (rw [if_pos (by omega)])
              · exact (p56_.2.2.2).elim
      · have c16_ : ¬ ((S1_.2.2.1 98 0 (S1_.1 10 0 8).toNat) ≠ 95) := of_decide_eq_false c16_
        refine sm_T_go 1 (c1 := (69, [some (.inr (.inr (some (10, 0)))), some (.inl (S1_.2.2.1 98 0 (S1_.1 10 0 8).toNat)), none], [.inr (.inr (some (10, 0)))], sm_pI (sm_pI S1_ 10 0 3 (S1_.1 10 0 8)) 10 0 4 0)) rfl ?_
        refine sm_T_cal (d1 := 0) (Q1 := vq_193 b_ n_ (lx_k b_ n_ q_) (sm_pI (sm_pI S1_ 10 0 3 (S1_.1 10 0 8)) 10 0 4 0)) rfl rfl (by decide) (vc_193 b_ n_ (lx_k b_ n_ q_) (sm_pI (sm_pI S1_ 10 0 3 (S1_.1 10 0 8)) 10 0 4 0) hI9_ (by exact hb2_) (by exact hn2_) (by exact hn1_) (by exact hk_) (by omega) (by rfl)) (fun u_ S58_ p61_ => ?_)
        obtain ⟨v63_, rfl, hI59_, hF60_, p61_⟩ := p61_
        have hF62_ : ai_fr (sx_W vw_191) S0_ S58_ := ai_fr_tr hF10_ (fr_le hF60_ rfl)
        have hb3_ : S58_.2.2.1 98 0 = b_ := (fr_arr hF60_ rfl).trans hb2_
        have hn3_ : S58_.1 10 0 1 = (n_ : Int) := (hF60_.1 10 0 1 rfl).trans hn2_
        have hst_ : S58_.1 10 0 3 = (lx_k b_ n_ q_ : Nat) := (hF60_.1 10 0 3 rfl).trans hk_
        have hr_ := p61_
        have hl_ : lx_l (b_ (lx_k b_ n_ q_)) := by omega
        have hw_ := lx_wk_7 (lx_pk b_ (lx_k b_ n_ q_) (lx_ne b_ n_ (lx_k b_ n_ q_) - (lx_k b_ n_ q_)))
        have hkd_ : lx_kd b_ n_ (lx_k b_ n_ q_) = if lx_ne b_ n_ (lx_k b_ n_ q_) - (lx_k b_ n_ q_) ≤ 12 then lx_wk (lx_pk b_ (lx_k b_ n_ q_) (lx_ne b_ n_ (lx_k b_ n_ q_) - (lx_k b_ n_ q_))) 7 else -1 := by unfold lx_kd; rw [if_neg (by omega), if_pos hl_]
        have hen_ : lx_en b_ n_ (lx_k b_ n_ q_) = lx_ne b_ n_ (lx_k b_ n_ q_) := by unfold lx_en; rw [if_neg (by omega), if_pos hl_]
        have hsz_ : lx_sz b_ n_ (lx_k b_ n_ q_) = lx_ne b_ n_ (lx_k b_ n_ q_) - (lx_k b_ n_ q_) := by unfold lx_sz; rw [if_neg (by omega), if_pos hl_]
        have hvv_ : lx_kd b_ n_ (lx_k b_ n_ q_) = 2 → S58_.1 10 0 5 = lx_vl b_ n_ (lx_k b_ n_ q_) := by intro h_; rw [hkd_] at h_; split at h_ <;> omega
        refine sm_T_go 3 (c1 := (103, [some (.inr (.inr (some (10, 0)))), some (.inl (S1_.2.2.1 98 0 (S1_.1 10 0 8).toNat)), some (.inl v63_)], [.inl v63_], S58_)) rfl ?_
        refine sm_T_b0 (a := 1) (z := 12) rfl (fun c64_ => ?_) (fun c64_ => ?_)
        · have c64_ : v63_ ≠ 0 := of_decide_eq_true c64_
          refine sm_T_rv rfl (Or.inl ⟨_, _, rfl, rfl, hI59_, hF62_, ?_⟩)
          refine ⟨hb3_, hn3_, hn1_, by omega, ?_, hst_, ?_, ?_, ?_, hvv_⟩
          · rw [hkd_]; split <;> omega
          · rw [hen_]; exact hr_.2.1
          · first | (rw [hkd_, if_pos (by omega)]; exact hr_.2.2.2) | (rw [hkd_, if_pos (by omega)]; exact hr_.2.2.2.1) | (rw [hkd_, if_neg (by omega)]; exact hr_.2.2 (by omega))
          · rw [hsz_]; first | exact hr_.2.2.1 | exact hzz_
        · have c64_ : ¬ (v63_ ≠ 0) := of_decide_eq_false c64_
          have b65_ : 0 ≤ S58_.1 10 0 3 ∧ S58_.1 10 0 3 ≤ 1280 := hI59_.1 10 0 3 rfl
          refine sm_T_go 4 (c1 := (112, [some (.inr (.inr (some (10, 0)))), some (.inl (S1_.2.2.1 98 0 (S1_.1 10 0 8).toNat)), some (.inl v63_)], [.inl (S58_.1 10 0 3), .inl 1, .inr (.inr (some (10, 0)))], S58_)) rfl ?_
          refine sm_T_calx (d1 := 0) (Q1 := vq_187 1 (S58_.1 10 0 3) S58_) (Q2 := vx_187 1 (S58_.1 10 0 3) S58_) rfl rfl (by decide) (vc_187 1 (S58_.1 10 0 3) S58_ hI59_ (by decide) (by omega)) rfl (fun S66_ p69_ => ?_) (fun u_ S66_ p69_ => ?_)
          · obtain ⟨hI67_, hF68_, p69_⟩ := p69_
            refine Or.inr ⟨_, rfl, hI67_, ai_fr_tr hF62_ (fr_le hF68_ rfl), ?_⟩
            refine ⟨?_, p69_.1, p69_.2.trans hst_⟩
            rw [hkd_]; first | (rw [if_neg (by omega)]) | (rw [if_pos (by omega)])
          · exact (p69_.2.2.2).elim
    · have c15_ : ¬ ((i_or (S1_.2.2.1 98 0 (S1_.1 10 0 8).toNat) 32) < 97) := of_decide_eq_false c15_
      refine sm_T_go 2 (c1 := (56, [some (.inr (.inr (some (10, 0)))), some (.inl (S1_.2.2.1 98 0 (S1_.1 10 0 8).toNat)), none], [.inl 32, .inl (S1_.2.2.1 98 0 (S1_.1 10 0 8).toNat)], sm_pI (sm_pI S1_ 10 0 3 (S1_.1 10 0 8)) 10 0 4 0)) rfl ?_
      refine sm_T_bin (w := (i_or (S1_.2.2.1 98 0 (S1_.1 10 0 8).toNat) 32)) rfl rfl ?_
      have b71_ := lx_or (x := (S1_.2.2.1 98 0 (S1_.1 10 0 8).toNat)) (by omega) (by omega)
      refine sm_T_go 1 (c1 := (59, [some (.inr (.inr (some (10, 0)))), some (.inl (S1_.2.2.1 98 0 (S1_.1 10 0 8).toNat)), none], [.inl 122, .inl (i_or (S1_.2.2.1 98 0 (S1_.1 10 0 8).toNat) 32)], sm_pI (sm_pI S1_ 10 0 3 (S1_.1 10 0 8)) 10 0 4 0)) rfl ?_
      refine sm_T_br (a := 5) (z := 9) rfl (fun c72_ => ?_) (fun c72_ => ?_)
      · have c72_ : (i_or (S1_.2.2.1 98 0 (S1_.1 10 0 8).toNat) 32) ≤ 122 := of_decide_eq_true c72_
        refine sm_T_go 1 (c1 := (69, [some (.inr (.inr (some (10, 0)))), some (.inl (S1_.2.2.1 98 0 (S1_.1 10 0 8).toNat)), none], [.inr (.inr (some (10, 0)))], sm_pI (sm_pI S1_ 10 0 3 (S1_.1 10 0 8)) 10 0 4 0)) rfl ?_
        refine sm_T_cal (d1 := 0) (Q1 := vq_193 b_ n_ (lx_k b_ n_ q_) (sm_pI (sm_pI S1_ 10 0 3 (S1_.1 10 0 8)) 10 0 4 0)) rfl rfl (by decide) (vc_193 b_ n_ (lx_k b_ n_ q_) (sm_pI (sm_pI S1_ 10 0 3 (S1_.1 10 0 8)) 10 0 4 0) hI9_ (by exact hb2_) (by exact hn2_) (by exact hn1_) (by exact hk_) (by omega) (by rfl)) (fun u_ S73_ p76_ => ?_)
        obtain ⟨v78_, rfl, hI74_, hF75_, p76_⟩ := p76_
        have hF77_ : ai_fr (sx_W vw_191) S0_ S73_ := ai_fr_tr hF10_ (fr_le hF75_ rfl)
        have hb3_ : S73_.2.2.1 98 0 = b_ := (fr_arr hF75_ rfl).trans hb2_
        have hn3_ : S73_.1 10 0 1 = (n_ : Int) := (hF75_.1 10 0 1 rfl).trans hn2_
        have hst_ : S73_.1 10 0 3 = (lx_k b_ n_ q_ : Nat) := (hF75_.1 10 0 3 rfl).trans hk_
        have hr_ := p76_
        have hl_ : lx_l (b_ (lx_k b_ n_ q_)) := by omega
        have hw_ := lx_wk_7 (lx_pk b_ (lx_k b_ n_ q_) (lx_ne b_ n_ (lx_k b_ n_ q_) - (lx_k b_ n_ q_)))
        have hkd_ : lx_kd b_ n_ (lx_k b_ n_ q_) = if lx_ne b_ n_ (lx_k b_ n_ q_) - (lx_k b_ n_ q_) ≤ 12 then lx_wk (lx_pk b_ (lx_k b_ n_ q_) (lx_ne b_ n_ (lx_k b_ n_ q_) - (lx_k b_ n_ q_))) 7 else -1 := by unfold lx_kd; rw [if_neg (by omega), if_pos hl_]
        have hen_ : lx_en b_ n_ (lx_k b_ n_ q_) = lx_ne b_ n_ (lx_k b_ n_ q_) := by unfold lx_en; rw [if_neg (by omega), if_pos hl_]
        have hsz_ : lx_sz b_ n_ (lx_k b_ n_ q_) = lx_ne b_ n_ (lx_k b_ n_ q_) - (lx_k b_ n_ q_) := by unfold lx_sz; rw [if_neg (by omega), if_pos hl_]
        have hvv_ : lx_kd b_ n_ (lx_k b_ n_ q_) = 2 → S73_.1 10 0 5 = lx_vl b_ n_ (lx_k b_ n_ q_) := by intro h_; rw [hkd_] at h_; split at h_ <;> omega
        refine sm_T_go 3 (c1 := (103, [some (.inr (.inr (some (10, 0)))), some (.inl (S1_.2.2.1 98 0 (S1_.1 10 0 8).toNat)), some (.inl v78_)], [.inl v78_], S73_)) rfl ?_
        refine sm_T_b0 (a := 1) (z := 12) rfl (fun c79_ => ?_) (fun c79_ => ?_)
        · have c79_ : v78_ ≠ 0 := of_decide_eq_true c79_
          refine sm_T_rv rfl (Or.inl ⟨_, _, rfl, rfl, hI74_, hF77_, ?_⟩)
          refine ⟨hb3_, hn3_, hn1_, by omega, ?_, hst_, ?_, ?_, ?_, hvv_⟩
          · rw [hkd_]; split <;> omega
          · rw [hen_]; exact hr_.2.1
          · first | (rw [hkd_, if_pos (by omega)]; exact hr_.2.2.2) | (rw [hkd_, if_pos (by omega)]; exact hr_.2.2.2.1) | (rw [hkd_, if_neg (by omega)]; exact hr_.2.2 (by omega))
          · rw [hsz_]; first | exact hr_.2.2.1 | exact hzz_
        · have c79_ : ¬ (v78_ ≠ 0) := of_decide_eq_false c79_
          have b80_ : 0 ≤ S73_.1 10 0 3 ∧ S73_.1 10 0 3 ≤ 1280 := hI74_.1 10 0 3 rfl
          refine sm_T_go 4 (c1 := (112, [some (.inr (.inr (some (10, 0)))), some (.inl (S1_.2.2.1 98 0 (S1_.1 10 0 8).toNat)), some (.inl v78_)], [.inl (S73_.1 10 0 3), .inl 1, .inr (.inr (some (10, 0)))], S73_)) rfl ?_
          refine sm_T_calx (d1 := 0) (Q1 := vq_187 1 (S73_.1 10 0 3) S73_) (Q2 := vx_187 1 (S73_.1 10 0 3) S73_) rfl rfl (by decide) (vc_187 1 (S73_.1 10 0 3) S73_ hI74_ (by decide) (by omega)) rfl (fun S81_ p84_ => ?_) (fun u_ S81_ p84_ => ?_)
          · obtain ⟨hI82_, hF83_, p84_⟩ := p84_
            refine Or.inr ⟨_, rfl, hI82_, ai_fr_tr hF77_ (fr_le hF83_ rfl), ?_⟩
            refine ⟨?_, p84_.1, p84_.2.trans hst_⟩
            rw [hkd_]; first | (rw [if_neg (by omega)]) | (rw [if_pos (by omega)])
          · exact (p84_.2.2.2).elim
      · have c72_ : ¬ ((i_or (S1_.2.2.1 98 0 (S1_.1 10 0 8).toNat) 32) ≤ 122) := of_decide_eq_false c72_
        refine sm_T_go 2 (c1 := (65, [some (.inr (.inr (some (10, 0)))), some (.inl (S1_.2.2.1 98 0 (S1_.1 10 0 8).toNat)), none], [.inl 95, .inl (S1_.2.2.1 98 0 (S1_.1 10 0 8).toNat)], sm_pI (sm_pI S1_ 10 0 3 (S1_.1 10 0 8)) 10 0 4 0)) rfl ?_
        refine sm_T_br (a := 1) (z := 11) rfl (fun c86_ => ?_) (fun c86_ => ?_)
        · have c86_ : (S1_.2.2.1 98 0 (S1_.1 10 0 8).toNat) ≠ 95 := of_decide_eq_true c86_
          refine sm_T_go 2 (c1 := (79, [some (.inr (.inr (some (10, 0)))), some (.inl (S1_.2.2.1 98 0 (S1_.1 10 0 8).toNat)), none], [.inl 48, .inl (S1_.2.2.1 98 0 (S1_.1 10 0 8).toNat)], sm_pI (sm_pI S1_ 10 0 3 (S1_.1 10 0 8)) 10 0 4 0)) rfl ?_
          refine sm_T_br (a := 2) (z := 17) rfl (fun c87_ => ?_) (fun c87_ => ?_)
          · have c87_ : (S1_.2.2.1 98 0 (S1_.1 10 0 8).toNat) < 48 := of_decide_eq_true c87_
            refine sm_T_go 2 (c1 := (98, [some (.inr (.inr (some (10, 0)))), some (.inl (S1_.2.2.1 98 0 (S1_.1 10 0 8).toNat)), none], [.inl (S1_.2.2.1 98 0 (S1_.1 10 0 8).toNat), .inr (.inr (some (10, 0)))], sm_pI (sm_pI S1_ 10 0 3 (S1_.1 10 0 8)) 10 0 4 0)) rfl ?_
            refine sm_T_cal (d1 := 0) (Q1 := vq_195 (S1_.2.2.1 98 0 (S1_.1 10 0 8).toNat) b_ n_ (lx_k b_ n_ q_) (sm_pI (sm_pI S1_ 10 0 3 (S1_.1 10 0 8)) 10 0 4 0)) rfl rfl (by decide) (vc_195 (S1_.2.2.1 98 0 (S1_.1 10 0 8).toNat) b_ n_ (lx_k b_ n_ q_) (sm_pI (sm_pI S1_ 10 0 3 (S1_.1 10 0 8)) 10 0 4 0) hI9_ (by exact hb2_) (by exact hn2_) (by exact hn1_) (by exact hk_) (by omega) (by exact e9_)) (fun u_ S88_ p91_ => ?_)
            obtain ⟨v93_, rfl, hI89_, hF90_, p91_⟩ := p91_
            have hF92_ : ai_fr (sx_W vw_191) S0_ S88_ := ai_fr_tr hF10_ (fr_le hF90_ rfl)
            have hb3_ : S88_.2.2.1 98 0 = b_ := (fr_arr hF90_ rfl).trans hb2_
            have hn3_ : S88_.1 10 0 1 = (n_ : Int) := (hF90_.1 10 0 1 rfl).trans hn2_
            have hst_ : S88_.1 10 0 3 = (lx_k b_ n_ q_ : Nat) := (hF90_.1 10 0 3 rfl).trans hk_
            have hr_ := p91_
            have hl_ : ¬ lx_l (b_ (lx_k b_ n_ q_)) := by omega
            have hg_ : ¬ lx_g (b_ (lx_k b_ n_ q_)) := by omega
            have hkd_ : lx_kd b_ n_ (lx_k b_ n_ q_) = if lx_sk b_ n_ (lx_k b_ n_ q_) = 0 then -1 else lx_sk b_ n_ (lx_k b_ n_ q_) := by unfold lx_kd; rw [if_neg (by omega), if_neg hl_, if_neg hg_]
            have hsk_ := lx_sk_b (b := b_) (n := n_) (p := (lx_k b_ n_ q_))
            have hen_ : lx_en b_ n_ (lx_k b_ n_ q_) = lx_sn b_ n_ (lx_k b_ n_ q_) := by unfold lx_en; rw [if_neg (by omega), if_neg hl_, if_neg hg_]
            have hsz_ : lx_sz b_ n_ (lx_k b_ n_ q_) = 0 := by unfold lx_sz; rw [if_neg (by omega), if_neg hl_, if_neg hg_]
            have hzz_ : S88_.1 10 0 4 = 0 := (hF90_.1 10 0 4 rfl).trans rfl
            have hvv_ : lx_kd b_ n_ (lx_k b_ n_ q_) = 2 → S88_.1 10 0 5 = lx_vl b_ n_ (lx_k b_ n_ q_) := by intro h_; rw [hkd_] at h_; split at h_ <;> omega
            refine sm_T_go 2 (c1 := (103, [some (.inr (.inr (some (10, 0)))), some (.inl (S1_.2.2.1 98 0 (S1_.1 10 0 8).toNat)), some (.inl v93_)], [.inl v93_], S88_)) rfl ?_
            refine sm_T_b0 (a := 1) (z := 12) rfl (fun c94_ => ?_) (fun c94_ => ?_)
            · have c94_ : v93_ ≠ 0 := of_decide_eq_true c94_
              refine sm_T_rv rfl (Or.inl ⟨_, _, rfl, rfl, hI89_, hF92_, ?_⟩)
              refine ⟨hb3_, hn3_, hn1_, by omega, ?_, hst_, ?_, ?_, ?_, hvv_⟩
              · rw [hkd_]; split <;> omega
              · rw [hen_]; exact hr_.2.1
              · first | (rw [hkd_, if_pos (by omega)]; exact hr_.2.2.2) | (rw [hkd_, if_pos (by omega)]; exact hr_.2.2.2.1) | (rw [hkd_, if_neg (by omega)]; exact hr_.2.2 (by omega))
              · rw [hsz_]; first | exact hr_.2.2.1 | exact hzz_
            · have c94_ : ¬ (v93_ ≠ 0) := of_decide_eq_false c94_
              have b95_ : 0 ≤ S88_.1 10 0 3 ∧ S88_.1 10 0 3 ≤ 1280 := hI89_.1 10 0 3 rfl
              refine sm_T_go 4 (c1 := (112, [some (.inr (.inr (some (10, 0)))), some (.inl (S1_.2.2.1 98 0 (S1_.1 10 0 8).toNat)), some (.inl v93_)], [.inl (S88_.1 10 0 3), .inl 1, .inr (.inr (some (10, 0)))], S88_)) rfl ?_
              refine sm_T_calx (d1 := 0) (Q1 := vq_187 1 (S88_.1 10 0 3) S88_) (Q2 := vx_187 1 (S88_.1 10 0 3) S88_) rfl rfl (by decide) (vc_187 1 (S88_.1 10 0 3) S88_ hI89_ (by decide) (by omega)) rfl (fun S96_ p99_ => ?_) (fun u_ S96_ p99_ => ?_)
              · obtain ⟨hI97_, hF98_, p99_⟩ := p99_
                refine Or.inr ⟨_, rfl, hI97_, ai_fr_tr hF92_ (fr_le hF98_ rfl), ?_⟩
                refine ⟨?_, p99_.1, p99_.2.trans hst_⟩
                rw [hkd_]; first | (rw [if_neg (by omega)]) | (rw [if_pos (by omega)])
              · exact (p99_.2.2.2).elim
          · have c87_ : ¬ ((S1_.2.2.1 98 0 (S1_.1 10 0 8).toNat) < 48) := of_decide_eq_false c87_
            refine sm_T_go 2 (c1 := (85, [some (.inr (.inr (some (10, 0)))), some (.inl (S1_.2.2.1 98 0 (S1_.1 10 0 8).toNat)), none], [.inl 57, .inl (S1_.2.2.1 98 0 (S1_.1 10 0 8).toNat)], sm_pI (sm_pI S1_ 10 0 3 (S1_.1 10 0 8)) 10 0 4 0)) rfl ?_
            refine sm_T_br (a := 4) (z := 11) rfl (fun c101_ => ?_) (fun c101_ => ?_)
            · have c101_ : 57 < (S1_.2.2.1 98 0 (S1_.1 10 0 8).toNat) := of_decide_eq_true c101_
              refine sm_T_go 2 (c1 := (98, [some (.inr (.inr (some (10, 0)))), some (.inl (S1_.2.2.1 98 0 (S1_.1 10 0 8).toNat)), none], [.inl (S1_.2.2.1 98 0 (S1_.1 10 0 8).toNat), .inr (.inr (some (10, 0)))], sm_pI (sm_pI S1_ 10 0 3 (S1_.1 10 0 8)) 10 0 4 0)) rfl ?_
              refine sm_T_cal (d1 := 0) (Q1 := vq_195 (S1_.2.2.1 98 0 (S1_.1 10 0 8).toNat) b_ n_ (lx_k b_ n_ q_) (sm_pI (sm_pI S1_ 10 0 3 (S1_.1 10 0 8)) 10 0 4 0)) rfl rfl (by decide) (vc_195 (S1_.2.2.1 98 0 (S1_.1 10 0 8).toNat) b_ n_ (lx_k b_ n_ q_) (sm_pI (sm_pI S1_ 10 0 3 (S1_.1 10 0 8)) 10 0 4 0) hI9_ (by exact hb2_) (by exact hn2_) (by exact hn1_) (by exact hk_) (by omega) (by exact e9_)) (fun u_ S102_ p105_ => ?_)
              obtain ⟨v107_, rfl, hI103_, hF104_, p105_⟩ := p105_
              have hF106_ : ai_fr (sx_W vw_191) S0_ S102_ := ai_fr_tr hF10_ (fr_le hF104_ rfl)
              have hb3_ : S102_.2.2.1 98 0 = b_ := (fr_arr hF104_ rfl).trans hb2_
              have hn3_ : S102_.1 10 0 1 = (n_ : Int) := (hF104_.1 10 0 1 rfl).trans hn2_
              have hst_ : S102_.1 10 0 3 = (lx_k b_ n_ q_ : Nat) := (hF104_.1 10 0 3 rfl).trans hk_
              have hr_ := p105_
              have hl_ : ¬ lx_l (b_ (lx_k b_ n_ q_)) := by omega
              have hg_ : ¬ lx_g (b_ (lx_k b_ n_ q_)) := by omega
              have hkd_ : lx_kd b_ n_ (lx_k b_ n_ q_) = if lx_sk b_ n_ (lx_k b_ n_ q_) = 0 then -1 else lx_sk b_ n_ (lx_k b_ n_ q_) := by unfold lx_kd; rw [if_neg (by omega), if_neg hl_, if_neg hg_]
              have hsk_ := lx_sk_b (b := b_) (n := n_) (p := (lx_k b_ n_ q_))
              have hen_ : lx_en b_ n_ (lx_k b_ n_ q_) = lx_sn b_ n_ (lx_k b_ n_ q_) := by unfold lx_en; rw [if_neg (by omega), if_neg hl_, if_neg hg_]
              have hsz_ : lx_sz b_ n_ (lx_k b_ n_ q_) = 0 := by unfold lx_sz; rw [if_neg (by omega), if_neg hl_, if_neg hg_]
              have hzz_ : S102_.1 10 0 4 = 0 := (hF104_.1 10 0 4 rfl).trans rfl
              have hvv_ : lx_kd b_ n_ (lx_k b_ n_ q_) = 2 → S102_.1 10 0 5 = lx_vl b_ n_ (lx_k b_ n_ q_) := by intro h_; rw [hkd_] at h_; split at h_ <;> omega
              refine sm_T_go 2 (c1 := (103, [some (.inr (.inr (some (10, 0)))), some (.inl (S1_.2.2.1 98 0 (S1_.1 10 0 8).toNat)), some (.inl v107_)], [.inl v107_], S102_)) rfl ?_
              refine sm_T_b0 (a := 1) (z := 12) rfl (fun c108_ => ?_) (fun c108_ => ?_)
              · have c108_ : v107_ ≠ 0 := of_decide_eq_true c108_
                refine sm_T_rv rfl (Or.inl ⟨_, _, rfl, rfl, hI103_, hF106_, ?_⟩)
                refine ⟨hb3_, hn3_, hn1_, by omega, ?_, hst_, ?_, ?_, ?_, hvv_⟩
                · rw [hkd_]; split <;> omega
                · rw [hen_]; exact hr_.2.1
                · first | (rw [hkd_, if_pos (by omega)]; exact hr_.2.2.2) | (rw [hkd_, if_pos (by omega)]; exact hr_.2.2.2.1) | (rw [hkd_, if_neg (by omega)]; exact hr_.2.2 (by omega))
                · rw [hsz_]; first | exact hr_.2.2.1 | exact hzz_
              · have c108_ : ¬ (v107_ ≠ 0) := of_decide_eq_false c108_
                have b109_ : 0 ≤ S102_.1 10 0 3 ∧ S102_.1 10 0 3 ≤ 1280 := hI103_.1 10 0 3 rfl
                refine sm_T_go 4 (c1 := (112, [some (.inr (.inr (some (10, 0)))), some (.inl (S1_.2.2.1 98 0 (S1_.1 10 0 8).toNat)), some (.inl v107_)], [.inl (S102_.1 10 0 3), .inl 1, .inr (.inr (some (10, 0)))], S102_)) rfl ?_
                refine sm_T_calx (d1 := 0) (Q1 := vq_187 1 (S102_.1 10 0 3) S102_) (Q2 := vx_187 1 (S102_.1 10 0 3) S102_) rfl rfl (by decide) (vc_187 1 (S102_.1 10 0 3) S102_ hI103_ (by decide) (by omega)) rfl (fun S110_ p113_ => ?_) (fun u_ S110_ p113_ => ?_)
                · obtain ⟨hI111_, hF112_, p113_⟩ := p113_
                  refine Or.inr ⟨_, rfl, hI111_, ai_fr_tr hF106_ (fr_le hF112_ rfl), ?_⟩
                  refine ⟨?_, p113_.1, p113_.2.trans hst_⟩
                  rw [hkd_]; first | (rw [if_neg (by omega)]) | (rw [if_pos (by omega)])
                · exact (p113_.2.2.2).elim
            · have c101_ : ¬ (57 < (S1_.2.2.1 98 0 (S1_.1 10 0 8).toNat)) := of_decide_eq_false c101_
              refine sm_T_go 1 (c1 := (89, [some (.inr (.inr (some (10, 0)))), some (.inl (S1_.2.2.1 98 0 (S1_.1 10 0 8).toNat)), none], [.inr (.inr (some (10, 0)))], sm_pI (sm_pI S1_ 10 0 3 (S1_.1 10 0 8)) 10 0 4 0)) rfl ?_
              refine sm_T_cal (d1 := 0) (Q1 := vq_194 b_ n_ (lx_k b_ n_ q_) (sm_pI (sm_pI S1_ 10 0 3 (S1_.1 10 0 8)) 10 0 4 0)) rfl rfl (by decide) (vc_194 b_ n_ (lx_k b_ n_ q_) (sm_pI (sm_pI S1_ 10 0 3 (S1_.1 10 0 8)) 10 0 4 0) hI9_ (by exact hb2_) (by exact hn2_) (by exact hn1_) (by exact hk_) (by omega) (by rfl)) (fun u_ S115_ p118_ => ?_)
              obtain ⟨v120_, rfl, hI116_, hF117_, p118_⟩ := p118_
              have hF119_ : ai_fr (sx_W vw_191) S0_ S115_ := ai_fr_tr hF10_ (fr_le hF117_ rfl)
              have hb3_ : S115_.2.2.1 98 0 = b_ := (fr_arr hF117_ rfl).trans hb2_
              have hn3_ : S115_.1 10 0 1 = (n_ : Int) := (hF117_.1 10 0 1 rfl).trans hn2_
              have hst_ : S115_.1 10 0 3 = (lx_k b_ n_ q_ : Nat) := (hF117_.1 10 0 3 rfl).trans hk_
              have hr_ := p118_
              have hl_ : ¬ lx_l (b_ (lx_k b_ n_ q_)) := by omega
              have hg_ : lx_g (b_ (lx_k b_ n_ q_)) := by omega
              have hkd_ : lx_kd b_ n_ (lx_k b_ n_ q_) = if lx_de b_ n_ (lx_k b_ n_ q_) - (lx_k b_ n_ q_) ≤ 6 then 2 else -1 := by unfold lx_kd; rw [if_neg (by omega), if_neg hl_, if_pos hg_]
              have hen_ : lx_en b_ n_ (lx_k b_ n_ q_) = lx_de b_ n_ (lx_k b_ n_ q_) := by unfold lx_en; rw [if_neg (by omega), if_neg hl_, if_pos hg_]
              have hsz_ : lx_sz b_ n_ (lx_k b_ n_ q_) = lx_de b_ n_ (lx_k b_ n_ q_) - (lx_k b_ n_ q_) := by unfold lx_sz; rw [if_neg (by omega), if_neg hl_, if_pos hg_]
              have hvv_ : lx_kd b_ n_ (lx_k b_ n_ q_) = 2 → S115_.1 10 0 5 = lx_vl b_ n_ (lx_k b_ n_ q_) := fun _ => hr_.2.2.2.2
              refine sm_T_go 3 (c1 := (103, [some (.inr (.inr (some (10, 0)))), some (.inl (S1_.2.2.1 98 0 (S1_.1 10 0 8).toNat)), some (.inl v120_)], [.inl v120_], S115_)) rfl ?_
              refine sm_T_b0 (a := 1) (z := 12) rfl (fun c121_ => ?_) (fun c121_ => ?_)
              · have c121_ : v120_ ≠ 0 := of_decide_eq_true c121_
                refine sm_T_rv rfl (Or.inl ⟨_, _, rfl, rfl, hI116_, hF119_, ?_⟩)
                refine ⟨hb3_, hn3_, hn1_, by omega, ?_, hst_, ?_, ?_, ?_, hvv_⟩
                · rw [hkd_]; split <;> omega
                · rw [hen_]; exact hr_.2.1
                · first | (rw [hkd_, if_pos (by omega)]; exact hr_.2.2.2) | (rw [hkd_, if_pos (by omega)]; exact hr_.2.2.2.1) | (rw [hkd_, if_neg (by omega)]; exact hr_.2.2 (by omega))
                · rw [hsz_]; first | exact hr_.2.2.1 | exact hzz_
              · have c121_ : ¬ (v120_ ≠ 0) := of_decide_eq_false c121_
                have b122_ : 0 ≤ S115_.1 10 0 3 ∧ S115_.1 10 0 3 ≤ 1280 := hI116_.1 10 0 3 rfl
                refine sm_T_go 4 (c1 := (112, [some (.inr (.inr (some (10, 0)))), some (.inl (S1_.2.2.1 98 0 (S1_.1 10 0 8).toNat)), some (.inl v120_)], [.inl (S115_.1 10 0 3), .inl 1, .inr (.inr (some (10, 0)))], S115_)) rfl ?_
                refine sm_T_calx (d1 := 0) (Q1 := vq_187 1 (S115_.1 10 0 3) S115_) (Q2 := vx_187 1 (S115_.1 10 0 3) S115_) rfl rfl (by decide) (vc_187 1 (S115_.1 10 0 3) S115_ hI116_ (by decide) (by omega)) rfl (fun S123_ p126_ => ?_) (fun u_ S123_ p126_ => ?_)
                · obtain ⟨hI124_, hF125_, p126_⟩ := p126_
                  refine Or.inr ⟨_, rfl, hI124_, ai_fr_tr hF119_ (fr_le hF125_ rfl), ?_⟩
                  refine ⟨?_, p126_.1, p126_.2.trans hst_⟩
                  rw [hkd_]; first | (rw [if_neg (by omega)]) | (rw [if_pos (by omega)])
                · exact (p126_.2.2.2).elim
        · have c86_ : ¬ ((S1_.2.2.1 98 0 (S1_.1 10 0 8).toNat) ≠ 95) := of_decide_eq_false c86_
          refine sm_T_go 1 (c1 := (69, [some (.inr (.inr (some (10, 0)))), some (.inl (S1_.2.2.1 98 0 (S1_.1 10 0 8).toNat)), none], [.inr (.inr (some (10, 0)))], sm_pI (sm_pI S1_ 10 0 3 (S1_.1 10 0 8)) 10 0 4 0)) rfl ?_
          refine sm_T_cal (d1 := 0) (Q1 := vq_193 b_ n_ (lx_k b_ n_ q_) (sm_pI (sm_pI S1_ 10 0 3 (S1_.1 10 0 8)) 10 0 4 0)) rfl rfl (by decide) (vc_193 b_ n_ (lx_k b_ n_ q_) (sm_pI (sm_pI S1_ 10 0 3 (S1_.1 10 0 8)) 10 0 4 0) hI9_ (by exact hb2_) (by exact hn2_) (by exact hn1_) (by exact hk_) (by omega) (by rfl)) (fun u_ S128_ p131_ => ?_)
          obtain ⟨v133_, rfl, hI129_, hF130_, p131_⟩ := p131_
          have hF132_ : ai_fr (sx_W vw_191) S0_ S128_ := ai_fr_tr hF10_ (fr_le hF130_ rfl)
          have hb3_ : S128_.2.2.1 98 0 = b_ := (fr_arr hF130_ rfl).trans hb2_
          have hn3_ : S128_.1 10 0 1 = (n_ : Int) := (hF130_.1 10 0 1 rfl).trans hn2_
          have hst_ : S128_.1 10 0 3 = (lx_k b_ n_ q_ : Nat) := (hF130_.1 10 0 3 rfl).trans hk_
          have hr_ := p131_
          have hl_ : lx_l (b_ (lx_k b_ n_ q_)) := by omega
          have hw_ := lx_wk_7 (lx_pk b_ (lx_k b_ n_ q_) (lx_ne b_ n_ (lx_k b_ n_ q_) - (lx_k b_ n_ q_)))
          have hkd_ : lx_kd b_ n_ (lx_k b_ n_ q_) = if lx_ne b_ n_ (lx_k b_ n_ q_) - (lx_k b_ n_ q_) ≤ 12 then lx_wk (lx_pk b_ (lx_k b_ n_ q_) (lx_ne b_ n_ (lx_k b_ n_ q_) - (lx_k b_ n_ q_))) 7 else -1 := by unfold lx_kd; rw [if_neg (by omega), if_pos hl_]
          have hen_ : lx_en b_ n_ (lx_k b_ n_ q_) = lx_ne b_ n_ (lx_k b_ n_ q_) := by unfold lx_en; rw [if_neg (by omega), if_pos hl_]
          have hsz_ : lx_sz b_ n_ (lx_k b_ n_ q_) = lx_ne b_ n_ (lx_k b_ n_ q_) - (lx_k b_ n_ q_) := by unfold lx_sz; rw [if_neg (by omega), if_pos hl_]
          have hvv_ : lx_kd b_ n_ (lx_k b_ n_ q_) = 2 → S128_.1 10 0 5 = lx_vl b_ n_ (lx_k b_ n_ q_) := by intro h_; rw [hkd_] at h_; split at h_ <;> omega
          refine sm_T_go 3 (c1 := (103, [some (.inr (.inr (some (10, 0)))), some (.inl (S1_.2.2.1 98 0 (S1_.1 10 0 8).toNat)), some (.inl v133_)], [.inl v133_], S128_)) rfl ?_
          refine sm_T_b0 (a := 1) (z := 12) rfl (fun c134_ => ?_) (fun c134_ => ?_)
          · have c134_ : v133_ ≠ 0 := of_decide_eq_true c134_
            refine sm_T_rv rfl (Or.inl ⟨_, _, rfl, rfl, hI129_, hF132_, ?_⟩)
            refine ⟨hb3_, hn3_, hn1_, by omega, ?_, hst_, ?_, ?_, ?_, hvv_⟩
            · rw [hkd_]; split <;> omega
            · rw [hen_]; exact hr_.2.1
            · first | (rw [hkd_, if_pos (by omega)]; exact hr_.2.2.2) | (rw [hkd_, if_pos (by omega)]; exact hr_.2.2.2.1) | (rw [hkd_, if_neg (by omega)]; exact hr_.2.2 (by omega))
            · rw [hsz_]; first | exact hr_.2.2.1 | exact hzz_
          · have c134_ : ¬ (v133_ ≠ 0) := of_decide_eq_false c134_
            have b135_ : 0 ≤ S128_.1 10 0 3 ∧ S128_.1 10 0 3 ≤ 1280 := hI129_.1 10 0 3 rfl
            refine sm_T_go 4 (c1 := (112, [some (.inr (.inr (some (10, 0)))), some (.inl (S1_.2.2.1 98 0 (S1_.1 10 0 8).toNat)), some (.inl v133_)], [.inl (S128_.1 10 0 3), .inl 1, .inr (.inr (some (10, 0)))], S128_)) rfl ?_
            refine sm_T_calx (d1 := 0) (Q1 := vq_187 1 (S128_.1 10 0 3) S128_) (Q2 := vx_187 1 (S128_.1 10 0 3) S128_) rfl rfl (by decide) (vc_187 1 (S128_.1 10 0 3) S128_ hI129_ (by decide) (by omega)) rfl (fun S136_ p139_ => ?_) (fun u_ S136_ p139_ => ?_)
            · obtain ⟨hI137_, hF138_, p139_⟩ := p139_
              refine Or.inr ⟨_, rfl, hI137_, ai_fr_tr hF132_ (fr_le hF138_ rfl), ?_⟩
              refine ⟨?_, p139_.1, p139_.2.trans hst_⟩
              rw [hkd_]; first | (rw [if_neg (by omega)]) | (rw [if_pos (by omega)])
            · exact (p139_.2.2.2).elim
  · have c12_ : ¬ ((S1_.1 10 0 8) < (S1_.1 10 0 1)) := of_decide_eq_false c12_
    have hI141_ : gi (sm_pI (sm_pI (sm_pI S1_ 10 0 3 (S1_.1 10 0 8)) 10 0 4 0) 10 0 2 0) := gi_pI hI9_ (show (-128) ≤ 0 ∧ 0 ≤ 257 from ⟨by omega, by omega⟩)
    have hF142_ : ai_fr (sx_W vw_191) S0_ (sm_pI (sm_pI (sm_pI S1_ 10 0 3 (S1_.1 10 0 8)) 10 0 4 0) 10 0 2 0) := ai_fr_tr hF10_ (ai_fr_pI rfl)
    refine sm_T_go 3 (c1 := (33, [some (.inr (.inr (some (10, 0)))), none, none], [], sm_pI (sm_pI (sm_pI S1_ 10 0 3 (S1_.1 10 0 8)) 10 0 4 0) 10 0 2 0)) rfl ?_
    refine sm_T_rv rfl (Or.inl ⟨_, _, rfl, rfl, hI141_, hF142_, ?_⟩)
    refine ⟨hb2_, hn2_, hn1_, by omega, ?_, hk_, ?_, ?_, ?_, ?_⟩
    · unfold lx_kd; rw [if_pos (by omega)]; decide
    · unfold lx_en; rw [if_pos (by omega)]; exact hk_
    · unfold lx_kd; rw [if_pos (by omega)]; rfl
    · unfold lx_sz; rw [if_pos (by omega)]; rfl
    · unfold lx_kd; rw [if_pos (by omega)]; intro h_; omega
/-! Text.need -/
def vw_188 : sx_Wl := ([(10, 2), (10, 3), (10, 4), (10, 5), (10, 6), (10, 7), (10, 8)], [], [])
def vq_188 (w_ : Int) (b_ : Nat → Int) (n_ : Nat) (p_ : Nat) (S0_ : sm_S) (u_ : Option sm_V) (S1_ : sm_S) : Prop := u_ = none ∧ gi S1_ ∧ ai_fr (sx_W vw_188) S0_ S1_ ∧ (∃ r_, p_nd b_ n_ w_ p_ = .inr r_ ∧ ct b_ n_ r_ S1_)
def vx_188 (w_ : Int) (b_ : Nat → Int) (n_ : Nat) (p_ : Nat) (S0_ : sm_S) (S1_ : sm_S) : Prop := gi S1_ ∧ ai_fr (sx_W vw_188) S0_ S1_ ∧ (∃ e_, p_nd b_ n_ w_ p_ = .inl e_ ∧ ter S1_ e_)
theorem vc_188 {sc_ : Nat × (Nat → Int)} (w_ : Int) (b_ : Nat → Int) (n_ : Nat) (p_ : Nat) (S0_ : sm_S) (hI_ : gi S0_) (hc_ : ct b_ n_ p_ S0_) : sm_T (mt_P sc_) 2 188 (0, [some (.inr (.inr (some (10, 0)))), some (.inl w_)], [], S0_) (fun r_ => (∃ u_ S1_, r_ = (.inl u_, S1_, 0) ∧ vq_188 w_ b_ n_ p_ S0_ u_ S1_) ∨ ∃ S1_, r_ = (.inr 2, S1_, 1) ∧ vx_188 w_ b_ n_ p_ S0_ S1_) := by
  have hF_ : ai_fr (sx_W vw_188) S0_ S0_ := ai_fr_rf
  obtain ⟨hb_, hn_, hn1_, hpn_, hk_, hst_, hnx_, hkd_, hsz_, hvl_⟩ := hc_
  have hel_ := lx_en_le (b := b_) hpn_
  have b1_ : (-128) ≤ S0_.1 10 0 2 ∧ S0_.1 10 0 2 ≤ 257 := hI_.1 10 0 2 rfl
  refine sm_T_go 3 (c1 := (5, [some (.inr (.inr (some (10, 0)))), some (.inl w_)], [.inl w_, .inl (S0_.1 10 0 2)], S0_)) rfl ?_
  refine sm_T_br (a := 0) (z := 12) rfl (fun c2_ => ?_) (fun c2_ => ?_)
  · have c2_ : (S0_.1 10 0 2) = w_ := of_decide_eq_true c2_
    refine sm_T_go 1 (c1 := (18, [some (.inr (.inr (some (10, 0)))), some (.inl w_)], [.inr (.inr (some (10, 0)))], S0_)) rfl ?_
    refine sm_T_calx (d1 := 1) (Q1 := vq_191 b_ n_ (lx_en b_ n_ p_) S0_) (Q2 := vx_191 b_ n_ (lx_en b_ n_ p_) S0_) rfl rfl (by decide) (vc_191 b_ n_ (lx_en b_ n_ p_) S0_ hI_ (by exact hb_) (by exact hn_) (by exact hn1_) (by exact hnx_) (by omega)) rfl (fun S3_ p6_ => ?_) (fun u_ S3_ p6_ => ?_)
    · obtain ⟨hI4_, hF5_, p6_⟩ := p6_
      refine Or.inr ⟨_, rfl, hI4_, ai_fr_tr hF_ (fr_le hF5_ rfl), ?_⟩
      refine ⟨(1, lx_nx b_ n_ p_), ?_, p6_.2⟩
      unfold p_nd p_ad lx_nx; rw [if_pos (by omega), if_pos p6_.1]
    obtain ⟨rfl, hI4_, hF5_, p6_⟩ := p6_
    have hF7_ : ai_fr (sx_W vw_188) S0_ S3_ := ai_fr_tr hF_ (fr_le hF5_ rfl)
    have hct_ := p6_
    refine sm_T_rv rfl (Or.inl ⟨_, _, rfl, rfl, hI4_, hF7_, ?_⟩)
    exact ⟨lx_nx b_ n_ p_, by unfold p_nd p_ad lx_nx; rw [if_pos (by omega), if_neg hct_.2.2.2.2.1], hct_⟩
  · have c2_ : ¬ ((S0_.1 10 0 2) = w_) := of_decide_eq_false c2_
    have b8_ : 0 ≤ S0_.1 10 0 3 ∧ S0_.1 10 0 3 ≤ 1280 := hI_.1 10 0 3 rfl
    refine sm_T_go 4 (c1 := (14, [some (.inr (.inr (some (10, 0)))), some (.inl w_)], [.inl (S0_.1 10 0 3), .inl 2, .inr (.inr (some (10, 0)))], S0_)) rfl ?_
    refine sm_T_calx (d1 := 0) (Q1 := vq_187 2 (S0_.1 10 0 3) S0_) (Q2 := vx_187 2 (S0_.1 10 0 3) S0_) rfl rfl (by decide) (vc_187 2 (S0_.1 10 0 3) S0_ hI_ (by decide) (by omega)) rfl (fun S9_ p12_ => ?_) (fun u_ S9_ p12_ => ?_)
    · obtain ⟨hI10_, hF11_, p12_⟩ := p12_
      refine Or.inr ⟨_, rfl, hI10_, ai_fr_tr hF_ (fr_le hF11_ rfl), ?_⟩
      refine ⟨(2, p_), ?_, p12_.1, p12_.2.trans hst_⟩
      unfold p_nd; rw [if_neg (by omega)]
    · exact (p12_.2.2.2).elim
/-! Text.begin -/
def vw_186 : sx_Wl := ([(10, 2), (10, 3), (10, 4), (10, 5), (10, 6), (10, 7), (10, 8)], [], [])
def vq_186 (b_ : Nat → Int) (n_ : Nat) (S0_ : sm_S) (u_ : Option sm_V) (S1_ : sm_S) : Prop := u_ = none ∧ gi S1_ ∧ ai_fr (sx_W vw_186) S0_ S1_ ∧ (ct b_ n_ (lx_k b_ n_ 0) S1_)
def vx_186 (b_ : Nat → Int) (n_ : Nat) (S0_ : sm_S) (S1_ : sm_S) : Prop := gi S1_ ∧ ai_fr (sx_W vw_186) S0_ S1_ ∧ (lx_kd b_ n_ (lx_k b_ n_ 0) = -1 ∧ ter S1_ (1, lx_k b_ n_ 0))
theorem vc_186 {sc_ : Nat × (Nat → Int)} (b_ : Nat → Int) (n_ : Nat) (S0_ : sm_S) (hI_ : gi S0_) (hb_ : S0_.2.2.1 98 0 = b_) (hn_ : (S0_.1 10 0 1) = (n_ : Int)) (hn1_ : n_ ≤ 1280) : sm_T (mt_P sc_) 2 186 (0, [some (.inr (.inr (some (10, 0))))], [], S0_) (fun r_ => (∃ u_ S1_, r_ = (.inl u_, S1_, 0) ∧ vq_186 b_ n_ S0_ u_ S1_) ∨ ∃ S1_, r_ = (.inr 2, S1_, 1) ∧ vx_186 b_ n_ S0_ S1_) := by
  have hF_ : ai_fr (sx_W vw_186) S0_ S0_ := ai_fr_rf
  have hI1_ : gi (sm_pI S0_ 10 0 8 0) := gi_pI hI_ (show 0 ≤ 0 ∧ 0 ≤ 1280 from ⟨by omega, by omega⟩)
  have hF2_ : ai_fr (sx_W vw_186) S0_ (sm_pI S0_ 10 0 8 0) := ai_fr_tr hF_ (ai_fr_pI rfl)
  have hI3_ : gi (sm_pI (sm_pI S0_ 10 0 8 0) 10 0 6 0) := gi_pI hI1_ (show 0 ≤ 0 ∧ 0 ≤ 23 from ⟨by omega, by omega⟩)
  have hF4_ : ai_fr (sx_W vw_186) S0_ (sm_pI (sm_pI S0_ 10 0 8 0) 10 0 6 0) := ai_fr_tr hF2_ (ai_fr_pI rfl)
  have hI5_ : gi (sm_pI (sm_pI (sm_pI S0_ 10 0 8 0) 10 0 6 0) 10 0 7 0) := gi_pI hI3_ (show 0 ≤ 0 ∧ 0 ≤ 4095 from ⟨by omega, by omega⟩)
  have hF6_ : ai_fr (sx_W vw_186) S0_ (sm_pI (sm_pI (sm_pI S0_ 10 0 8 0) 10 0 6 0) 10 0 7 0) := ai_fr_tr hF4_ (ai_fr_pI rfl)
  refine sm_T_go 10 (c1 := (16, [some (.inr (.inr (some (10, 0))))], [.inr (.inr (some (10, 0)))], sm_pI (sm_pI (sm_pI S0_ 10 0 8 0) 10 0 6 0) 10 0 7 0)) rfl ?_
  refine sm_T_calx (d1 := 1) (Q1 := vq_191 b_ n_ 0 (sm_pI (sm_pI (sm_pI S0_ 10 0 8 0) 10 0 6 0) 10 0 7 0)) (Q2 := vx_191 b_ n_ 0 (sm_pI (sm_pI (sm_pI S0_ 10 0 8 0) 10 0 6 0) 10 0 7 0)) rfl rfl (by decide) (vc_191 b_ n_ 0 (sm_pI (sm_pI (sm_pI S0_ 10 0 8 0) 10 0 6 0) 10 0 7 0) hI5_ (by exact hb_) (by exact hn_) (by exact hn1_) (by rfl) (by omega)) rfl (fun S7_ p10_ => ?_) (fun u_ S7_ p10_ => ?_)
  · obtain ⟨hI8_, hF9_, p10_⟩ := p10_
    refine Or.inr ⟨_, rfl, hI8_, ai_fr_tr hF6_ (fr_le hF9_ rfl), ?_⟩
    exact p10_
  obtain ⟨rfl, hI8_, hF9_, p10_⟩ := p10_
  have hF11_ : ai_fr (sx_W vw_186) S0_ S7_ := ai_fr_tr hF6_ (fr_le hF9_ rfl)
  have hct_ := p10_
  refine sm_T_rv rfl (Or.inl ⟨_, _, rfl, rfl, hI8_, hF11_, ?_⟩)
  exact hct_
end
/-! 99.v3 -/
section
/-! the reference: tokens; written by wip/p55/gen/vg -/
/-! M_.byteAt -/
def vw_282 : sx_Wl := ([], [], [])
def vq_282 (k_ : Int) (b_ : Nat → Int) (n_ : Nat) (S0_ : sm_S) (u_ : Option sm_V) (S1_ : sm_S) : Prop := S0_ = S1_ ∧ ∃ v_ : Int, u_ = some (.inl v_) ∧ (v_ = rb b_ n_ k_.toNat)
theorem vc_282 {sc_ : Nat × (Nat → Int)} (k_ : Int) (b_ : Nat → Int) (n_ : Nat) (S0_ : sm_S) (hI_ : gi S0_) (hb_ : S0_.2.2.1 118 0 = b_) (hn_ : (S0_.1 13 0 2) = (n_ : Int)) (hn1_ : n_ ≤ 1280) (hk_ : 0 ≤ k_) : sm_T (mt_P sc_) 0 282 (0, [some (.inr (.inr (some (13, 0)))), some (.inl k_)], [], S0_) (fun r_ => ∃ u_ S1_, r_ = (.inl u_, S1_, 0) ∧ vq_282 k_ b_ n_ S0_ u_ S1_) := by
  have hF_ : ai_fr (sx_W vw_282) S0_ S0_ := ai_fr_rf
  have b1_ : 0 ≤ S0_.1 13 0 2 ∧ S0_.1 13 0 2 ≤ 1280 := hI_.1 13 0 2 rfl
  refine sm_T_go 3 (c1 := (5, [some (.inr (.inr (some (13, 0)))), some (.inl k_)], [.inl (S0_.1 13 0 2), .inl k_], S0_)) rfl ?_
  refine sm_T_br (a := 3) (z := 16) rfl (fun c2_ => ?_) (fun c2_ => ?_)
  · have c2_ : (S0_.1 13 0 2) ≤ k_ := of_decide_eq_true c2_
    refine sm_T_go 1 (c1 := (22, [some (.inr (.inr (some (13, 0)))), some (.inl k_)], [.inl (-1)], S0_)) rfl ?_
    refine sm_T_ri rfl ⟨_, _, rfl, rfl, _, rfl, ?_⟩
    unfold rb; first | (rw [if_pos (by omega), ← hb_]) | (rw [if_neg (by omega)])
  · have c2_ : ¬ ((S0_.1 13 0 2) ≤ k_) := of_decide_eq_false c2_
    refine sm_T_go 3 (c1 := (13, [some (.inr (.inr (some (13, 0)))), some (.inl k_)], [.inl k_, .inr (.inr (some (118, 0)))], S0_)) rfl ?_
    refine sm_T_bald (n := 65536) rfl rfl (by omega) (by omega) ?_
    have b3_ : (-128) ≤ S0_.2.2.1 118 0 k_.toNat ∧ S0_.2.2.1 118 0 k_.toNat ≤ 127 := hI_.2 118 0 _
    refine sm_T_go 1 (c1 := (17, [some (.inr (.inr (some (13, 0)))), some (.inl k_)], [.inl 255, .inl (S0_.2.2.1 118 0 k_.toNat)], S0_)) rfl ?_
    refine sm_T_bin (w := ((S0_.2.2.1 118 0 k_.toNat) % 256)) rfl (bi_msk (k := 8) (by decide)) ?_
    refine sm_T_go 1 (c1 := (22, [some (.inr (.inr (some (13, 0)))), some (.inl k_)], [.inl ((S0_.2.2.1 118 0 k_.toNat) % 256)], S0_)) rfl ?_
    refine sm_T_ri rfl ⟨_, _, rfl, rfl, _, rfl, ?_⟩
    unfold rb; first | (rw [if_pos (by omega), ← hb_]) | (rw [if_neg (by omega)])
/-! M_.isLetter -/
def vw_283 : sx_Wl := ([], [], [])
def vq_283 (c_ : Int) (S0_ : sm_S) (u_ : Option sm_V) (S1_ : sm_S) : Prop := S0_ = S1_ ∧ ∃ v_ : Int, u_ = some (.inl v_) ∧ (v_ = if lx_l c_ then 1 else 0)
theorem vc_283 {sc_ : Nat × (Nat → Int)} (c_ : Int) (S0_ : sm_S) (hI_ : gi S0_)  : sm_T (mt_P sc_) 0 283 (0, [some (.inl c_)], [], S0_) (fun r_ => ∃ u_ S1_, r_ = (.inl u_, S1_, 0) ∧ vq_283 c_ S0_ u_ S1_) := by
  have hF_ : ai_fr (sx_W vw_283) S0_ S0_ := ai_fr_rf
  refine sm_T_go 2 (c1 := (3, [some (.inl c_)], [.inl 97, .inl c_], S0_)) rfl ?_
  refine sm_T_br (a := 2) (z := 9) rfl (fun c1_ => ?_) (fun c1_ => ?_)
  · have c1_ : c_ < 97 := of_decide_eq_true c1_
    refine sm_T_go 2 (c1 := (15, [some (.inl c_)], [.inl 65, .inl c_], S0_)) rfl ?_
    refine sm_T_br (a := 2) (z := 9) rfl (fun c2_ => ?_) (fun c2_ => ?_)
    · have c2_ : c_ < 65 := of_decide_eq_true c2_
      refine sm_T_go 2 (c1 := (27, [some (.inl c_)], [.inl 95, .inl c_], S0_)) rfl ?_
      refine sm_T_br (a := 1) (z := 7) rfl (fun c3_ => ?_) (fun c3_ => ?_)
      · have c3_ : c_ ≠ 95 := of_decide_eq_true c3_
        refine sm_T_go 1 (c1 := (35, [some (.inl c_)], [.inl 0], S0_)) rfl ?_
        refine sm_T_rz rfl (by omega) ⟨_, _, rfl, rfl, _, rfl, ?_⟩
        first | (rw [if_pos (by omega)]) | (rw [if_neg (by omega)])
      · have c3_ : ¬ (c_ ≠ 95) := of_decide_eq_false c3_
        exfalso; omega
    · have c2_ : ¬ (c_ < 65) := of_decide_eq_false c2_
      refine sm_T_go 2 (c1 := (21, [some (.inl c_)], [.inl 90, .inl c_], S0_)) rfl ?_
      refine sm_T_br (a := 5) (z := 9) rfl (fun c4_ => ?_) (fun c4_ => ?_)
      · have c4_ : c_ ≤ 90 := of_decide_eq_true c4_
        refine sm_T_go 2 (c1 := (35, [some (.inl c_)], [.inl 1], S0_)) rfl ?_
        refine sm_T_rz rfl (by omega) ⟨_, _, rfl, rfl, _, rfl, ?_⟩
        first | (rw [if_pos (by omega)]) | (rw [if_neg (by omega)])
      · have c4_ : ¬ (c_ ≤ 90) := of_decide_eq_false c4_
        refine sm_T_go 2 (c1 := (27, [some (.inl c_)], [.inl 95, .inl c_], S0_)) rfl ?_
        refine sm_T_br (a := 1) (z := 7) rfl (fun c5_ => ?_) (fun c5_ => ?_)
        · have c5_ : c_ ≠ 95 := of_decide_eq_true c5_
          refine sm_T_go 1 (c1 := (35, [some (.inl c_)], [.inl 0], S0_)) rfl ?_
          refine sm_T_rz rfl (by omega) ⟨_, _, rfl, rfl, _, rfl, ?_⟩
          first | (rw [if_pos (by omega)]) | (rw [if_neg (by omega)])
        · have c5_ : ¬ (c_ ≠ 95) := of_decide_eq_false c5_
          refine sm_T_go 2 (c1 := (35, [some (.inl c_)], [.inl 1], S0_)) rfl ?_
          refine sm_T_rz rfl (by omega) ⟨_, _, rfl, rfl, _, rfl, ?_⟩
          first | (rw [if_pos (by omega)]) | (rw [if_neg (by omega)])
  · have c1_ : ¬ (c_ < 97) := of_decide_eq_false c1_
    refine sm_T_go 2 (c1 := (9, [some (.inl c_)], [.inl 122, .inl c_], S0_)) rfl ?_
    refine sm_T_br (a := 5) (z := 21) rfl (fun c6_ => ?_) (fun c6_ => ?_)
    · have c6_ : c_ ≤ 122 := of_decide_eq_true c6_
      refine sm_T_go 2 (c1 := (35, [some (.inl c_)], [.inl 1], S0_)) rfl ?_
      refine sm_T_rz rfl (by omega) ⟨_, _, rfl, rfl, _, rfl, ?_⟩
      first | (rw [if_pos (by omega)]) | (rw [if_neg (by omega)])
    · have c6_ : ¬ (c_ ≤ 122) := of_decide_eq_false c6_
      refine sm_T_go 2 (c1 := (15, [some (.inl c_)], [.inl 65, .inl c_], S0_)) rfl ?_
      refine sm_T_br (a := 2) (z := 9) rfl (fun c7_ => ?_) (fun c7_ => ?_)
      · have c7_ : c_ < 65 := of_decide_eq_true c7_
        exfalso; omega
      · have c7_ : ¬ (c_ < 65) := of_decide_eq_false c7_
        refine sm_T_go 2 (c1 := (21, [some (.inl c_)], [.inl 90, .inl c_], S0_)) rfl ?_
        refine sm_T_br (a := 5) (z := 9) rfl (fun c8_ => ?_) (fun c8_ => ?_)
        · have c8_ : c_ ≤ 90 := of_decide_eq_true c8_
          exfalso; omega
        · have c8_ : ¬ (c_ ≤ 90) := of_decide_eq_false c8_
          refine sm_T_go 2 (c1 := (27, [some (.inl c_)], [.inl 95, .inl c_], S0_)) rfl ?_
          refine sm_T_br (a := 1) (z := 7) rfl (fun c9_ => ?_) (fun c9_ => ?_)
          · have c9_ : c_ ≠ 95 := of_decide_eq_true c9_
            refine sm_T_go 1 (c1 := (35, [some (.inl c_)], [.inl 0], S0_)) rfl ?_
            refine sm_T_rz rfl (by omega) ⟨_, _, rfl, rfl, _, rfl, ?_⟩
            first | (rw [if_pos (by omega)]) | (rw [if_neg (by omega)])
          · have c9_ : ¬ (c_ ≠ 95) := of_decide_eq_false c9_
            exfalso; omega
/-! M_.isDigit -/
def vw_284 : sx_Wl := ([], [], [])
def vq_284 (c_ : Int) (S0_ : sm_S) (u_ : Option sm_V) (S1_ : sm_S) : Prop := S0_ = S1_ ∧ ∃ v_ : Int, u_ = some (.inl v_) ∧ (v_ = if lx_g c_ then 1 else 0)
theorem vc_284 {sc_ : Nat × (Nat → Int)} (c_ : Int) (S0_ : sm_S) (hI_ : gi S0_)  : sm_T (mt_P sc_) 0 284 (0, [some (.inl c_)], [], S0_) (fun r_ => ∃ u_ S1_, r_ = (.inl u_, S1_, 0) ∧ vq_284 c_ S0_ u_ S1_) := by
  have hF_ : ai_fr (sx_W vw_284) S0_ S0_ := ai_fr_rf
  refine sm_T_go 2 (c1 := (3, [some (.inl c_)], [.inl 48, .inl c_], S0_)) rfl ?_
  refine sm_T_br (a := 2) (z := 13) rfl (fun c1_ => ?_) (fun c1_ => ?_)
  · have c1_ : c_ < 48 := of_decide_eq_true c1_
    refine sm_T_go 1 (c1 := (17, [some (.inl c_)], [.inl 0], S0_)) rfl ?_
    refine sm_T_rz rfl (by omega) ⟨_, _, rfl, rfl, _, rfl, ?_⟩
    first | (rw [if_pos (by omega)]) | (rw [if_neg (by omega)])
  · have c1_ : ¬ (c_ < 48) := of_decide_eq_false c1_
    refine sm_T_go 2 (c1 := (9, [some (.inl c_)], [.inl 57, .inl c_], S0_)) rfl ?_
    refine sm_T_br (a := 4) (z := 7) rfl (fun c2_ => ?_) (fun c2_ => ?_)
    · have c2_ : 57 < c_ := of_decide_eq_true c2_
      refine sm_T_go 1 (c1 := (17, [some (.inl c_)], [.inl 0], S0_)) rfl ?_
      refine sm_T_rz rfl (by omega) ⟨_, _, rfl, rfl, _, rfl, ?_⟩
      first | (rw [if_pos (by omega)]) | (rw [if_neg (by omega)])
    · have c2_ : ¬ (57 < c_) := of_decide_eq_false c2_
      refine sm_T_go 2 (c1 := (17, [some (.inl c_)], [.inl 1], S0_)) rfl ?_
      refine sm_T_rz rfl (by omega) ⟨_, _, rfl, rfl, _, rfl, ?_⟩
      first | (rw [if_pos (by omega)]) | (rw [if_neg (by omega)])
/-! M_.isBlank -/
def vw_285 : sx_Wl := ([], [], [])
def vq_285 (c_ : Int) (S0_ : sm_S) (u_ : Option sm_V) (S1_ : sm_S) : Prop := S0_ = S1_ ∧ ∃ v_ : Int, u_ = some (.inl v_) ∧ (v_ = if c_ = 9 ∨ c_ = 10 ∨ c_ = 13 ∨ c_ = 32 then 1 else 0)
theorem vc_285 {sc_ : Nat × (Nat → Int)} (c_ : Int) (S0_ : sm_S) (hI_ : gi S0_)  : sm_T (mt_P sc_) 0 285 (0, [some (.inl c_)], [], S0_) (fun r_ => ∃ u_ S1_, r_ = (.inl u_, S1_, 0) ∧ vq_285 c_ S0_ u_ S1_) := by
  have hF_ : ai_fr (sx_W vw_285) S0_ S0_ := ai_fr_rf
  refine sm_T_go 2 (c1 := (3, [some (.inl c_)], [.inl 9, .inl c_], S0_)) rfl ?_
  refine sm_T_br (a := 0) (z := 21) rfl (fun c1_ => ?_) (fun c1_ => ?_)
  · have c1_ : c_ = 9 := of_decide_eq_true c1_
    refine sm_T_go 2 (c1 := (29, [some (.inl c_)], [.inl 1], S0_)) rfl ?_
    refine sm_T_rz rfl (by omega) ⟨_, _, rfl, rfl, _, rfl, ?_⟩
    first | (rw [if_pos (by omega)]) | (rw [if_neg (by omega)])
  · have c1_ : ¬ (c_ = 9) := of_decide_eq_false c1_
    refine sm_T_go 2 (c1 := (9, [some (.inl c_)], [.inl 10, .inl c_], S0_)) rfl ?_
    refine sm_T_br (a := 0) (z := 15) rfl (fun c2_ => ?_) (fun c2_ => ?_)
    · have c2_ : c_ = 10 := of_decide_eq_true c2_
      refine sm_T_go 2 (c1 := (29, [some (.inl c_)], [.inl 1], S0_)) rfl ?_
      refine sm_T_rz rfl (by omega) ⟨_, _, rfl, rfl, _, rfl, ?_⟩
      first | (rw [if_pos (by omega)]) | (rw [if_neg (by omega)])
    · have c2_ : ¬ (c_ = 10) := of_decide_eq_false c2_
      refine sm_T_go 2 (c1 := (15, [some (.inl c_)], [.inl 13, .inl c_], S0_)) rfl ?_
      refine sm_T_br (a := 0) (z := 9) rfl (fun c3_ => ?_) (fun c3_ => ?_)
      · have c3_ : c_ = 13 := of_decide_eq_true c3_
        refine sm_T_go 2 (c1 := (29, [some (.inl c_)], [.inl 1], S0_)) rfl ?_
        refine sm_T_rz rfl (by omega) ⟨_, _, rfl, rfl, _, rfl, ?_⟩
        first | (rw [if_pos (by omega)]) | (rw [if_neg (by omega)])
      · have c3_ : ¬ (c_ = 13) := of_decide_eq_false c3_
        refine sm_T_go 2 (c1 := (21, [some (.inl c_)], [.inl 32, .inl c_], S0_)) rfl ?_
        refine sm_T_br (a := 1) (z := 7) rfl (fun c4_ => ?_) (fun c4_ => ?_)
        · have c4_ : c_ ≠ 32 := of_decide_eq_true c4_
          refine sm_T_go 1 (c1 := (29, [some (.inl c_)], [.inl 0], S0_)) rfl ?_
          refine sm_T_rz rfl (by omega) ⟨_, _, rfl, rfl, _, rfl, ?_⟩
          first | (rw [if_pos (by omega)]) | (rw [if_neg (by omega)])
        · have c4_ : ¬ (c_ ≠ 32) := of_decide_eq_false c4_
          refine sm_T_go 2 (c1 := (29, [some (.inl c_)], [.inl 1], S0_)) rfl ?_
          refine sm_T_rz rfl (by omega) ⟨_, _, rfl, rfl, _, rfl, ?_⟩
          first | (rw [if_pos (by omega)]) | (rw [if_neg (by omega)])
/-! M_.isSign -/
def vw_289 : sx_Wl := ([], [], [])
def vq_289 (c_ : Int) (S0_ : sm_S) (u_ : Option sm_V) (S1_ : sm_S) : Prop := S0_ = S1_ ∧ ∃ v_ : Int, u_ = some (.inl v_) ∧ (v_ = if lx_sg c_ then 1 else 0)
theorem vc_289 {sc_ : Nat × (Nat → Int)} (c_ : Int) (S0_ : sm_S) (hI_ : gi S0_)  : sm_T (mt_P sc_) 0 289 (0, [some (.inl c_)], [], S0_) (fun r_ => ∃ u_ S1_, r_ = (.inl u_, S1_, 0) ∧ vq_289 c_ S0_ u_ S1_) := by
  have hF_ : ai_fr (sx_W vw_289) S0_ S0_ := ai_fr_rf
  refine sm_T_go 2 (c1 := (3, [some (.inl c_)], [.inl 40, .inl c_], S0_)) rfl ?_
  refine sm_T_br (a := 0) (z := 93) rfl (fun c1_ => ?_) (fun c1_ => ?_)
  · have c1_ : c_ = 40 := of_decide_eq_true c1_
    refine sm_T_go 2 (c1 := (101, [some (.inl c_)], [.inl 1], S0_)) rfl ?_
    refine sm_T_rz rfl (by omega) ⟨_, _, rfl, rfl, _, rfl, ?_⟩
    first | (exact (if_neg (by rintro (hh_ | hh_ | hh_ | hh_ | hh_ | hh_ | hh_ | hh_ | hh_ | hh_ | hh_ | hh_ | hh_ | hh_ | hh_ | hh_) <;> contradiction)).symm) | (rw [if_pos (by omega)])
  · have c1_ : ¬ (c_ = 40) := of_decide_eq_false c1_
    refine sm_T_go 2 (c1 := (9, [some (.inl c_)], [.inl 41, .inl c_], S0_)) rfl ?_
    refine sm_T_br (a := 0) (z := 87) rfl (fun c2_ => ?_) (fun c2_ => ?_)
    · have c2_ : c_ = 41 := of_decide_eq_true c2_
      refine sm_T_go 2 (c1 := (101, [some (.inl c_)], [.inl 1], S0_)) rfl ?_
      refine sm_T_rz rfl (by omega) ⟨_, _, rfl, rfl, _, rfl, ?_⟩
      first | (exact (if_neg (by rintro (hh_ | hh_ | hh_ | hh_ | hh_ | hh_ | hh_ | hh_ | hh_ | hh_ | hh_ | hh_ | hh_ | hh_ | hh_ | hh_) <;> contradiction)).symm) | (rw [if_pos (by omega)])
    · have c2_ : ¬ (c_ = 41) := of_decide_eq_false c2_
      refine sm_T_go 2 (c1 := (15, [some (.inl c_)], [.inl 123, .inl c_], S0_)) rfl ?_
      refine sm_T_br (a := 0) (z := 81) rfl (fun c3_ => ?_) (fun c3_ => ?_)
      · have c3_ : c_ = 123 := of_decide_eq_true c3_
        refine sm_T_go 2 (c1 := (101, [some (.inl c_)], [.inl 1], S0_)) rfl ?_
        refine sm_T_rz rfl (by omega) ⟨_, _, rfl, rfl, _, rfl, ?_⟩
        first | (exact (if_neg (by rintro (hh_ | hh_ | hh_ | hh_ | hh_ | hh_ | hh_ | hh_ | hh_ | hh_ | hh_ | hh_ | hh_ | hh_ | hh_ | hh_) <;> contradiction)).symm) | (rw [if_pos (by omega)])
      · have c3_ : ¬ (c_ = 123) := of_decide_eq_false c3_
        refine sm_T_go 2 (c1 := (21, [some (.inl c_)], [.inl 125, .inl c_], S0_)) rfl ?_
        refine sm_T_br (a := 0) (z := 75) rfl (fun c4_ => ?_) (fun c4_ => ?_)
        · have c4_ : c_ = 125 := of_decide_eq_true c4_
          refine sm_T_go 2 (c1 := (101, [some (.inl c_)], [.inl 1], S0_)) rfl ?_
          refine sm_T_rz rfl (by omega) ⟨_, _, rfl, rfl, _, rfl, ?_⟩
          first | (exact (if_neg (by rintro (hh_ | hh_ | hh_ | hh_ | hh_ | hh_ | hh_ | hh_ | hh_ | hh_ | hh_ | hh_ | hh_ | hh_ | hh_ | hh_) <;> contradiction)).symm) | (rw [if_pos (by omega)])
        · have c4_ : ¬ (c_ = 125) := of_decide_eq_false c4_
          refine sm_T_go 2 (c1 := (27, [some (.inl c_)], [.inl 59, .inl c_], S0_)) rfl ?_
          refine sm_T_br (a := 0) (z := 69) rfl (fun c5_ => ?_) (fun c5_ => ?_)
          · have c5_ : c_ = 59 := of_decide_eq_true c5_
            refine sm_T_go 2 (c1 := (101, [some (.inl c_)], [.inl 1], S0_)) rfl ?_
            refine sm_T_rz rfl (by omega) ⟨_, _, rfl, rfl, _, rfl, ?_⟩
            first | (exact (if_neg (by rintro (hh_ | hh_ | hh_ | hh_ | hh_ | hh_ | hh_ | hh_ | hh_ | hh_ | hh_ | hh_ | hh_ | hh_ | hh_ | hh_) <;> contradiction)).symm) | (rw [if_pos (by omega)])
          · have c5_ : ¬ (c_ = 59) := of_decide_eq_false c5_
            refine sm_T_go 2 (c1 := (33, [some (.inl c_)], [.inl 44, .inl c_], S0_)) rfl ?_
            refine sm_T_br (a := 0) (z := 63) rfl (fun c6_ => ?_) (fun c6_ => ?_)
            · have c6_ : c_ = 44 := of_decide_eq_true c6_
              refine sm_T_go 2 (c1 := (101, [some (.inl c_)], [.inl 1], S0_)) rfl ?_
              refine sm_T_rz rfl (by omega) ⟨_, _, rfl, rfl, _, rfl, ?_⟩
              first | (exact (if_neg (by rintro (hh_ | hh_ | hh_ | hh_ | hh_ | hh_ | hh_ | hh_ | hh_ | hh_ | hh_ | hh_ | hh_ | hh_ | hh_ | hh_) <;> contradiction)).symm) | (rw [if_pos (by omega)])
            · have c6_ : ¬ (c_ = 44) := of_decide_eq_false c6_
              refine sm_T_go 2 (c1 := (39, [some (.inl c_)], [.inl 61, .inl c_], S0_)) rfl ?_
              refine sm_T_br (a := 0) (z := 57) rfl (fun c7_ => ?_) (fun c7_ => ?_)
              · have c7_ : c_ = 61 := of_decide_eq_true c7_
                refine sm_T_go 2 (c1 := (101, [some (.inl c_)], [.inl 1], S0_)) rfl ?_
                refine sm_T_rz rfl (by omega) ⟨_, _, rfl, rfl, _, rfl, ?_⟩
                first | (exact (if_neg (by rintro (hh_ | hh_ | hh_ | hh_ | hh_ | hh_ | hh_ | hh_ | hh_ | hh_ | hh_ | hh_ | hh_ | hh_ | hh_ | hh_) <;> contradiction)).symm) | (rw [if_pos (by omega)])
              · have c7_ : ¬ (c_ = 61) := of_decide_eq_false c7_
                refine sm_T_go 2 (c1 := (45, [some (.inl c_)], [.inl 46, .inl c_], S0_)) rfl ?_
                refine sm_T_br (a := 0) (z := 51) rfl (fun c8_ => ?_) (fun c8_ => ?_)
                · have c8_ : c_ = 46 := of_decide_eq_true c8_
                  refine sm_T_go 2 (c1 := (101, [some (.inl c_)], [.inl 1], S0_)) rfl ?_
                  refine sm_T_rz rfl (by omega) ⟨_, _, rfl, rfl, _, rfl, ?_⟩
                  first | (exact (if_neg (by rintro (hh_ | hh_ | hh_ | hh_ | hh_ | hh_ | hh_ | hh_ | hh_ | hh_ | hh_ | hh_ | hh_ | hh_ | hh_ | hh_) <;> contradiction)).symm) | (rw [if_pos (by omega)])
                · have c8_ : ¬ (c_ = 46) := of_decide_eq_false c8_
                  refine sm_T_go 2 (c1 := (51, [some (.inl c_)], [.inl 58, .inl c_], S0_)) rfl ?_
                  refine sm_T_br (a := 0) (z := 45) rfl (fun c9_ => ?_) (fun c9_ => ?_)
                  · have c9_ : c_ = 58 := of_decide_eq_true c9_
                    refine sm_T_go 2 (c1 := (101, [some (.inl c_)], [.inl 1], S0_)) rfl ?_
                    refine sm_T_rz rfl (by omega) ⟨_, _, rfl, rfl, _, rfl, ?_⟩
                    first | (exact (if_neg (by rintro (hh_ | hh_ | hh_ | hh_ | hh_ | hh_ | hh_ | hh_ | hh_ | hh_ | hh_ | hh_ | hh_ | hh_ | hh_ | hh_) <;> contradiction)).symm) | (rw [if_pos (by omega)])
                  · have c9_ : ¬ (c_ = 58) := of_decide_eq_false c9_
                    refine sm_T_go 2 (c1 := (57, [some (.inl c_)], [.inl 38, .inl c_], S0_)) rfl ?_
                    refine sm_T_br (a := 0) (z := 39) rfl (fun c10_ => ?_) (fun c10_ => ?_)
                    · have c10_ : c_ = 38 := of_decide_eq_true c10_
                      refine sm_T_go 2 (c1 := (101, [some (.inl c_)], [.inl 1], S0_)) rfl ?_
                      refine sm_T_rz rfl (by omega) ⟨_, _, rfl, rfl, _, rfl, ?_⟩
                      first | (exact (if_neg (by rintro (hh_ | hh_ | hh_ | hh_ | hh_ | hh_ | hh_ | hh_ | hh_ | hh_ | hh_ | hh_ | hh_ | hh_ | hh_ | hh_) <;> contradiction)).symm) | (rw [if_pos (by omega)])
                    · have c10_ : ¬ (c_ = 38) := of_decide_eq_false c10_
                      refine sm_T_go 2 (c1 := (63, [some (.inl c_)], [.inl 124, .inl c_], S0_)) rfl ?_
                      refine sm_T_br (a := 0) (z := 33) rfl (fun c11_ => ?_) (fun c11_ => ?_)
                      · have c11_ : c_ = 124 := of_decide_eq_true c11_
                        refine sm_T_go 2 (c1 := (101, [some (.inl c_)], [.inl 1], S0_)) rfl ?_
                        refine sm_T_rz rfl (by omega) ⟨_, _, rfl, rfl, _, rfl, ?_⟩
                        first | (exact (if_neg (by rintro (hh_ | hh_ | hh_ | hh_ | hh_ | hh_ | hh_ | hh_ | hh_ | hh_ | hh_ | hh_ | hh_ | hh_ | hh_ | hh_) <;> contradiction)).symm) | (rw [if_pos (by omega)])
                      · have c11_ : ¬ (c_ = 124) := of_decide_eq_false c11_
                        refine sm_T_go 2 (c1 := (69, [some (.inl c_)], [.inl 94, .inl c_], S0_)) rfl ?_
                        refine sm_T_br (a := 0) (z := 27) rfl (fun c12_ => ?_) (fun c12_ => ?_)
                        · have c12_ : c_ = 94 := of_decide_eq_true c12_
                          refine sm_T_go 2 (c1 := (101, [some (.inl c_)], [.inl 1], S0_)) rfl ?_
                          refine sm_T_rz rfl (by omega) ⟨_, _, rfl, rfl, _, rfl, ?_⟩
                          first | (exact (if_neg (by rintro (hh_ | hh_ | hh_ | hh_ | hh_ | hh_ | hh_ | hh_ | hh_ | hh_ | hh_ | hh_ | hh_ | hh_ | hh_ | hh_) <;> contradiction)).symm) | (rw [if_pos (by omega)])
                        · have c12_ : ¬ (c_ = 94) := of_decide_eq_false c12_
                          refine sm_T_go 2 (c1 := (75, [some (.inl c_)], [.inl 33, .inl c_], S0_)) rfl ?_
                          refine sm_T_br (a := 0) (z := 21) rfl (fun c13_ => ?_) (fun c13_ => ?_)
                          · have c13_ : c_ = 33 := of_decide_eq_true c13_
                            refine sm_T_go 2 (c1 := (101, [some (.inl c_)], [.inl 1], S0_)) rfl ?_
                            refine sm_T_rz rfl (by omega) ⟨_, _, rfl, rfl, _, rfl, ?_⟩
                            first | (exact (if_neg (by rintro (hh_ | hh_ | hh_ | hh_ | hh_ | hh_ | hh_ | hh_ | hh_ | hh_ | hh_ | hh_ | hh_ | hh_ | hh_ | hh_) <;> contradiction)).symm) | (rw [if_pos (by omega)])
                          · have c13_ : ¬ (c_ = 33) := of_decide_eq_false c13_
                            refine sm_T_go 2 (c1 := (81, [some (.inl c_)], [.inl 43, .inl c_], S0_)) rfl ?_
                            refine sm_T_br (a := 0) (z := 15) rfl (fun c14_ => ?_) (fun c14_ => ?_)
                            · have c14_ : c_ = 43 := of_decide_eq_true c14_
                              refine sm_T_go 2 (c1 := (101, [some (.inl c_)], [.inl 1], S0_)) rfl ?_
                              refine sm_T_rz rfl (by omega) ⟨_, _, rfl, rfl, _, rfl, ?_⟩
                              first | (exact (if_neg (by rintro (hh_ | hh_ | hh_ | hh_ | hh_ | hh_ | hh_ | hh_ | hh_ | hh_ | hh_ | hh_ | hh_ | hh_ | hh_ | hh_) <;> contradiction)).symm) | (rw [if_pos (by omega)])
                            · have c14_ : ¬ (c_ = 43) := of_decide_eq_false c14_
                              refine sm_T_go 2 (c1 := (87, [some (.inl c_)], [.inl 63, .inl c_], S0_)) rfl ?_
                              refine sm_T_br (a := 0) (z := 9) rfl (fun c15_ => ?_) (fun c15_ => ?_)
                              · have c15_ : c_ = 63 := of_decide_eq_true c15_
                                refine sm_T_go 2 (c1 := (101, [some (.inl c_)], [.inl 1], S0_)) rfl ?_
                                refine sm_T_rz rfl (by omega) ⟨_, _, rfl, rfl, _, rfl, ?_⟩
                                first | (exact (if_neg (by rintro (hh_ | hh_ | hh_ | hh_ | hh_ | hh_ | hh_ | hh_ | hh_ | hh_ | hh_ | hh_ | hh_ | hh_ | hh_ | hh_) <;> contradiction)).symm) | (rw [if_pos (by omega)])
                              · have c15_ : ¬ (c_ = 63) := of_decide_eq_false c15_
                                refine sm_T_go 2 (c1 := (93, [some (.inl c_)], [.inl 64, .inl c_], S0_)) rfl ?_
                                refine sm_T_br (a := 1) (z := 7) rfl (fun c16_ => ?_) (fun c16_ => ?_)
                                · have c16_ : c_ ≠ 64 := of_decide_eq_true c16_
                                  refine sm_T_go 1 (c1 := (101, [some (.inl c_)], [.inl 0], S0_)) rfl ?_
                                  refine sm_T_rz rfl (by omega) ⟨_, _, rfl, rfl, _, rfl, ?_⟩
                                  first | (exact (if_neg (by rintro (hh_ | hh_ | hh_ | hh_ | hh_ | hh_ | hh_ | hh_ | hh_ | hh_ | hh_ | hh_ | hh_ | hh_ | hh_ | hh_) <;> contradiction)).symm) | (rw [if_pos (by omega)])
                                · have c16_ : ¬ (c_ ≠ 64) := of_decide_eq_false c16_
                                  refine sm_T_go 2 (c1 := (101, [some (.inl c_)], [.inl 1], S0_)) rfl ?_
                                  refine sm_T_rz rfl (by omega) ⟨_, _, rfl, rfl, _, rfl, ?_⟩
                                  first | (exact (if_neg (by rintro (hh_ | hh_ | hh_ | hh_ | hh_ | hh_ | hh_ | hh_ | hh_ | hh_ | hh_ | hh_ | hh_ | hh_ | hh_ | hh_) <;> contradiction)).symm) | (rw [if_pos (by omega)])
/-! M_.skip -/
def vw_286 : sx_Wl := ([], [], [])
def vq_286 (f_ : Int) (b_ : Nat → Int) (n_ : Nat) (p_ : Nat) (S0_ : sm_S) (u_ : Option sm_V) (S1_ : sm_S) : Prop := ∃ v_ : Int, u_ = some (.inl v_) ∧ gi S1_ ∧ ai_fr (sx_W vw_286) S0_ S1_ ∧ (v_ = (lx_k b_ n_ p_ : Nat))
theorem vl_286 {sc_ : Nat × (Nat → Int)} (f_ : Int) (b_ : Nat → Int) (n_ : Nat) (p_ : Nat) (S0_ : sm_S) (hb_ : S0_.2.2.1 118 0 = b_) (hn_ : (S0_.1 13 0 2) = (n_ : Int)) (hn1_ : n_ ≤ 1280) (hp_ : f_ = (p_ : Int)) (hpn_ : p_ ≤ n_) : ∀ nn_ : Nat, (∀ (k_ : Int) (S_ : sm_S), gi S_ → ai_fr (sx_W vw_286) S0_ S_ → ((∃ q_ : Nat, k_ = (q_ : Int) ∧ q_ ≤ n_ ∧ lx_s b_ n_ (n_ - q_) false q_ = lx_k b_ n_ p_) ∧ True) → ((3 * (1300 - k_)).toNat + 1) < nn_ → sm_T (mt_P sc_) 1 286 (2, [some (.inr (.inr (some (13, 0)))), some (.inl f_), some (.inl k_)], [], S_) (fun r_ => ∃ u_ S1_, r_ = (.inl u_, S1_, 0) ∧ vq_286 f_ b_ n_ p_ S0_ u_ S1_)) ∧ (∀ (k_ : Int) (S_ : sm_S), gi S_ → ai_fr (sx_W vw_286) S0_ S_ → ((∃ q_ : Nat, k_ = (q_ : Int) ∧ q_ ≤ n_ ∧ lx_s b_ n_ (n_ - q_) true q_ = lx_k b_ n_ p_) ∧ True) → ((3 * (1300 - k_)).toNat + if rb b_ n_ k_.toNat = 35 then 0 else 2) < nn_ → sm_T (mt_P sc_) 1 286 (33, [some (.inr (.inr (some (13, 0)))), some (.inl f_), some (.inl k_)], [], S_) (fun r_ => ∃ u_ S1_, r_ = (.inl u_, S1_, 0) ∧ vq_286 f_ b_ n_ p_ S0_ u_ S1_)) := by
  intro nn_
  induction nn_ with
  | zero => exact ⟨fun _ _ _ _ _ h_ => absurd h_ (Nat.not_lt_zero _), fun _ _ _ _ _ h_ => absurd h_ (Nat.not_lt_zero _)⟩
  | succ nn_ ih_ =>
    refine ⟨?_, ?_⟩
    · rintro k_ S_ hI_ hF_ ⟨h1_, -⟩ hm_
      have hb1_ : S_.2.2.1 118 0 = b_ := (fr_arr hF_ rfl).trans hb_
      have hn2_ : (S_.1 13 0 2) = (n_ : Int) := (hF_.1 13 0 2 rfl).trans hn_
      have hbb_ : ∀ k_, -128 ≤ b_ k_ ∧ b_ k_ ≤ 127 := fun k_ => by rw [← hb1_]; exact hI_.2 118 0 k_
      obtain ⟨q_, hq_, hqn_, h2_⟩ := h1_
      have ek_ : k_.toNat = q_ := by omega
      have hbq_ := hbb_ q_
      refine sm_T_go 2 (c1 := (4, [some (.inr (.inr (some (13, 0)))), some (.inl f_), some (.inl k_)], [.inl k_, .inr (.inr (some (13, 0)))], S_)) rfl ?_
      refine sm_T_cal (d1 := 0) (Q1 := vq_282 k_ b_ n_ S_) rfl rfl (by decide) (vc_282 k_ b_ n_ S_ hI_ (by exact hb1_) (by exact hn2_) (by exact hn1_) (by omega)) (fun u_ S1_ p4_ => ?_)
      obtain ⟨rfl, v6_, rfl, p4_⟩ := p4_
      rw [ek_] at p4_
      refine sm_T_cal (d1 := 0) (Q1 := vq_285 v6_ S_) rfl rfl (by decide) (vc_285 v6_ S_ hI_ ) (fun u_ S7_ p10_ => ?_)
      obtain ⟨rfl, v12_, rfl, p10_⟩ := p10_
      refine sm_T_b0 (a := 1) (z := 13) rfl (fun c13_ => ?_) (fun c13_ => ?_)
      · have c13_ : v12_ ≠ 0 := of_decide_eq_true c13_
        refine sm_T_go 2 (c1 := (25, [some (.inr (.inr (some (13, 0)))), some (.inl f_), some (.inl k_)], [.inl k_, .inr (.inr (some (13, 0)))], S_)) rfl ?_
        refine sm_T_cal (d1 := 0) (Q1 := vq_282 k_ b_ n_ S_) rfl rfl (by decide) (vc_282 k_ b_ n_ S_ hI_ (by exact hb1_) (by exact hn2_) (by exact hn1_) (by omega)) (fun u_ S14_ p17_ => ?_)
        obtain ⟨rfl, v19_, rfl, p17_⟩ := p17_
        rw [ek_] at p17_
        refine sm_T_go 1 (c1 := (30, [some (.inr (.inr (some (13, 0)))), some (.inl f_), some (.inl k_)], [.inl 35, .inl v19_], S_)) rfl ?_
        refine sm_T_br (a := 1) (z := 27) rfl (fun c20_ => ?_) (fun c20_ => ?_)
        · have c20_ : v19_ ≠ 35 := of_decide_eq_true c20_
          refine sm_T_inc (a := 2) (z := 1) (v := k_) (w := k_ + 1) rfl rfl (by omega) (by omega) (by omega) ?_
          refine sm_T_go 1 (c1 := (2, [some (.inr (.inr (some (13, 0)))), some (.inl f_), some (.inl (k_ + 1))], [], S_)) rfl ?_
          refine ih_.1 (k_ + 1) S_ hI_ hF_ ⟨?_, trivial⟩ ?_
          · unfold rb at *
            have hqq_ : q_ < n_ := by grind
            refine ⟨q_ + 1, by omega, by omega, ?_⟩
            rw [lx_s_go hqq_] at h2_; grind
          · unfold rb at *; grind
        · have c20_ : ¬ (v19_ ≠ 35) := of_decide_eq_false c20_
          refine sm_T_go 0 (c1 := (33, [some (.inr (.inr (some (13, 0)))), some (.inl f_), some (.inl k_)], [], S_)) rfl ?_
          refine ih_.2 k_ S_ hI_ hF_ ⟨?_, trivial⟩ ?_
          · refine ⟨q_, hq_, hqn_, ?_⟩
            unfold rb at *
            have hqq_ : q_ < n_ := by grind
            rw [lx_s_go hqq_] at h2_ ⊢; grind
          · rw [ek_]; rw [if_pos (by omega)]; omega
      · have c13_ : ¬ (v12_ ≠ 0) := of_decide_eq_false c13_
        refine sm_T_go 2 (c1 := (15, [some (.inr (.inr (some (13, 0)))), some (.inl f_), some (.inl k_)], [.inl k_, .inr (.inr (some (13, 0)))], S_)) rfl ?_
        refine sm_T_cal (d1 := 0) (Q1 := vq_282 k_ b_ n_ S_) rfl rfl (by decide) (vc_282 k_ b_ n_ S_ hI_ (by exact hb1_) (by exact hn2_) (by exact hn1_) (by omega)) (fun u_ S21_ p24_ => ?_)
        obtain ⟨rfl, v26_, rfl, p24_⟩ := p24_
        rw [ek_] at p24_
        refine sm_T_go 1 (c1 := (20, [some (.inr (.inr (some (13, 0)))), some (.inl f_), some (.inl k_)], [.inl 35, .inl v26_], S_)) rfl ?_
        refine sm_T_br (a := 1) (z := 43) rfl (fun c27_ => ?_) (fun c27_ => ?_)
        · have c27_ : v26_ ≠ 35 := of_decide_eq_true c27_
          refine sm_T_go 1 (c1 := (64, [some (.inr (.inr (some (13, 0)))), some (.inl f_), some (.inl k_)], [.inl k_], S_)) rfl ?_
          refine sm_T_ri rfl ⟨_, _, rfl, _, rfl, hI_, hF_, ?_⟩
          unfold rb at *
          by_cases hqq_ : q_ < n_
          · rw [lx_s_go hqq_] at h2_; grind
          · rw [lx_s_end (by omega)] at h2_; omega
        · have c27_ : ¬ (v26_ ≠ 35) := of_decide_eq_false c27_
          refine sm_T_go 2 (c1 := (25, [some (.inr (.inr (some (13, 0)))), some (.inl f_), some (.inl k_)], [.inl k_, .inr (.inr (some (13, 0)))], S_)) rfl ?_
          refine sm_T_cal (d1 := 0) (Q1 := vq_282 k_ b_ n_ S_) rfl rfl (by decide) (vc_282 k_ b_ n_ S_ hI_ (by exact hb1_) (by exact hn2_) (by exact hn1_) (by omega)) (fun u_ S28_ p31_ => ?_)
          obtain ⟨rfl, v33_, rfl, p31_⟩ := p31_
          rw [ek_] at p31_
          refine sm_T_go 1 (c1 := (30, [some (.inr (.inr (some (13, 0)))), some (.inl f_), some (.inl k_)], [.inl 35, .inl v33_], S_)) rfl ?_
          refine sm_T_br (a := 1) (z := 27) rfl (fun c34_ => ?_) (fun c34_ => ?_)
          · have c34_ : v33_ ≠ 35 := of_decide_eq_true c34_
            refine sm_T_inc (a := 2) (z := 1) (v := k_) (w := k_ + 1) rfl rfl (by omega) (by omega) (by omega) ?_
            refine sm_T_go 1 (c1 := (2, [some (.inr (.inr (some (13, 0)))), some (.inl f_), some (.inl (k_ + 1))], [], S_)) rfl ?_
            refine ih_.1 (k_ + 1) S_ hI_ hF_ ⟨?_, trivial⟩ ?_
            · unfold rb at *
              have hqq_ : q_ < n_ := by grind
              refine ⟨q_ + 1, by omega, by omega, ?_⟩
              rw [lx_s_go hqq_] at h2_; grind
            · unfold rb at *; grind
          · have c34_ : ¬ (v33_ ≠ 35) := of_decide_eq_false c34_
            refine sm_T_go 0 (c1 := (33, [some (.inr (.inr (some (13, 0)))), some (.inl f_), some (.inl k_)], [], S_)) rfl ?_
            refine ih_.2 k_ S_ hI_ hF_ ⟨?_, trivial⟩ ?_
            · refine ⟨q_, hq_, hqn_, ?_⟩
              unfold rb at *
              have hqq_ : q_ < n_ := by grind
              rw [lx_s_go hqq_] at h2_ ⊢; grind
            · rw [ek_]; rw [if_pos (by omega)]; omega
    · rintro k_ S_ hI_ hF_ ⟨h1_, -⟩ hm_
      have hb1_ : S_.2.2.1 118 0 = b_ := (fr_arr hF_ rfl).trans hb_
      have hn2_ : (S_.1 13 0 2) = (n_ : Int) := (hF_.1 13 0 2 rfl).trans hn_
      have hbb_ : ∀ k_, -128 ≤ b_ k_ ∧ b_ k_ ≤ 127 := fun k_ => by rw [← hb1_]; exact hI_.2 118 0 k_
      obtain ⟨q_, hq_, hqn_, h2_⟩ := h1_
      have ek_ : k_.toNat = q_ := by omega
      have hbq_ := hbb_ q_
      have b1_ : 0 ≤ S_.1 13 0 2 ∧ S_.1 13 0 2 ≤ 1280 := hI_.1 13 0 2 rfl
      refine sm_T_go 3 (c1 := (38, [some (.inr (.inr (some (13, 0)))), some (.inl f_), some (.inl k_)], [.inl (S_.1 13 0 2), .inl k_], S_)) rfl ?_
      refine sm_T_br (a := 3) (z := (-36)) rfl (fun c2_ => ?_) (fun c2_ => ?_)
      · have c2_ : (S_.1 13 0 2) ≤ k_ := of_decide_eq_true c2_
        refine sm_T_go 0 (c1 := (2, [some (.inr (.inr (some (13, 0)))), some (.inl f_), some (.inl k_)], [], S_)) rfl ?_
        refine ih_.1 k_ S_ hI_ hF_ ⟨?_, trivial⟩ ?_
        · refine ⟨q_, hq_, hqn_, ?_⟩
          unfold rb at *
          by_cases hqq_ : q_ < n_
          · rw [lx_s_go hqq_] at h2_ ⊢; grind
          · rw [lx_s_end (by omega)] at h2_ ⊢; exact h2_
        · unfold rb at *; grind
      · have c2_ : ¬ ((S_.1 13 0 2) ≤ k_) := of_decide_eq_false c2_
        refine sm_T_go 2 (c1 := (43, [some (.inr (.inr (some (13, 0)))), some (.inl f_), some (.inl k_)], [.inl k_, .inr (.inr (some (13, 0)))], S_)) rfl ?_
        refine sm_T_cal (d1 := 0) (Q1 := vq_282 k_ b_ n_ S_) rfl rfl (by decide) (vc_282 k_ b_ n_ S_ hI_ (by exact hb1_) (by exact hn2_) (by exact hn1_) (by omega)) (fun u_ S3_ p6_ => ?_)
        obtain ⟨rfl, v8_, rfl, p6_⟩ := p6_
        rw [ek_] at p6_
        refine sm_T_go 1 (c1 := (48, [some (.inr (.inr (some (13, 0)))), some (.inl f_), some (.inl k_)], [.inl 10, .inl v8_], S_)) rfl ?_
        refine sm_T_br (a := 0) (z := (-46)) rfl (fun c9_ => ?_) (fun c9_ => ?_)
        · have c9_ : v8_ = 10 := of_decide_eq_true c9_
          refine sm_T_go 0 (c1 := (2, [some (.inr (.inr (some (13, 0)))), some (.inl f_), some (.inl k_)], [], S_)) rfl ?_
          refine ih_.1 k_ S_ hI_ hF_ ⟨?_, trivial⟩ ?_
          · refine ⟨q_, hq_, hqn_, ?_⟩
            unfold rb at *
            by_cases hqq_ : q_ < n_
            · rw [lx_s_go hqq_] at h2_ ⊢; grind
            · rw [lx_s_end (by omega)] at h2_ ⊢; exact h2_
          · unfold rb at *; grind
        · have c9_ : ¬ (v8_ = 10) := of_decide_eq_false c9_
          refine sm_T_inc (a := 2) (z := 1) (v := k_) (w := k_ + 1) rfl rfl (by omega) (by omega) (by omega) ?_
          refine sm_T_go 1 (c1 := (33, [some (.inr (.inr (some (13, 0)))), some (.inl f_), some (.inl (k_ + 1))], [], S_)) rfl ?_
          refine ih_.2 (k_ + 1) S_ hI_ hF_ ⟨?_, trivial⟩ ?_
          · refine ⟨q_ + 1, by omega, by omega, ?_⟩
            unfold rb at *
            rw [lx_s_go (by omega)] at h2_; grind
          · unfold rb at *; grind
theorem vc_286 {sc_ : Nat × (Nat → Int)} (f_ : Int) (b_ : Nat → Int) (n_ : Nat) (p_ : Nat) (S0_ : sm_S) (hI_ : gi S0_) (hb_ : S0_.2.2.1 118 0 = b_) (hn_ : (S0_.1 13 0 2) = (n_ : Int)) (hn1_ : n_ ≤ 1280) (hp_ : f_ = (p_ : Int)) (hpn_ : p_ ≤ n_) : sm_T (mt_P sc_) 1 286 (0, [some (.inr (.inr (some (13, 0)))), some (.inl f_), none], [], S0_) (fun r_ => ∃ u_ S1_, r_ = (.inl u_, S1_, 0) ∧ vq_286 f_ b_ n_ p_ S0_ u_ S1_) := by
  have hF_ : ai_fr (sx_W vw_286) S0_ S0_ := ai_fr_rf
  refine sm_T_go 2 (c1 := (2, [some (.inr (.inr (some (13, 0)))), some (.inl f_), some (.inl f_)], [], S0_)) rfl ?_
  refine (vl_286 f_ b_ n_ p_ S0_ hb_ hn_ hn1_ hp_ hpn_ _).1 f_ S0_ hI_ hF_ ⟨?_, trivial⟩ (Nat.lt_succ_self _)
  · exact ⟨p_, hp_, hpn_, rfl⟩
/-! M_.word -/
def vw_287 : sx_Wl := ([], [], [])
def vq_287 (a_ : Int) (b_ : Int) (c_ : Int) (d_ : Int) (e_ : Int) (f_ : Int) (S0_ : sm_S) (u_ : Option sm_V) (S1_ : sm_S) : Prop := S0_ = S1_ ∧ ∃ v_ : Int, u_ = some (.inr (.inl v_)) ∧ (v_ = l_4 (l_4 (l_4 (l_4 (l_4 (l_s0 (l_i2l a_) 56) (l_s0 (l_i2l b_) 48)) (l_s0 (l_i2l c_) 40)) (l_s0 (l_i2l d_) 32)) (l_s0 (l_i2l e_) 24)) (l_s0 (l_i2l f_) 16))
theorem vc_287 {sc_ : Nat × (Nat → Int)} (a_ : Int) (b_ : Int) (c_ : Int) (d_ : Int) (e_ : Int) (f_ : Int) (S0_ : sm_S) (hI_ : gi S0_)  : sm_T (mt_P sc_) 0 287 (0, [some (.inl a_), some (.inl b_), some (.inl c_), some (.inl d_), some (.inl e_), some (.inl f_)], [], S0_) (fun r_ => ∃ u_ S1_, r_ = (.inl u_, S1_, 0) ∧ vq_287 a_ b_ c_ d_ e_ f_ S0_ u_ S1_) := by
  have hF_ : ai_fr (sx_W vw_287) S0_ S0_ := ai_fr_rf
  refine sm_T_go 29 (c1 := (37, [some (.inl a_), some (.inl b_), some (.inl c_), some (.inl d_), some (.inl e_), some (.inl f_)], [.inr (.inl (l_4 ((l_4 ((l_4 ((l_4 ((l_4 ((l_s0 ((l_i2l a_)) 56)) ((l_s0 ((l_i2l b_)) 48)))) ((l_s0 ((l_i2l c_)) 40)))) ((l_s0 ((l_i2l d_)) 32)))) ((l_s0 ((l_i2l e_)) 24)))) ((l_s0 ((l_i2l f_)) 16))))], S0_)) rfl ?_
  refine sm_T_rl rfl ⟨_, _, rfl, rfl, _, rfl, ?_⟩
  rfl
/-! M_.wordOf -/
def vw_288 : sx_Wl := ([], [], [])
def vq_288 (x_ : Int) (S0_ : sm_S) (u_ : Option sm_V) (S1_ : sm_S) : Prop := S0_ = S1_ ∧ ∃ v_ : Int, u_ = some (.inl v_) ∧ (v_ = wo x_ 7)
theorem vc_288 {sc_ : Nat × (Nat → Int)} (x_ : Int) (S0_ : sm_S) (hI_ : gi S0_)  : sm_T (mt_P sc_) 1 288 (0, [some (.inr (.inl x_)), none], [], S0_) (fun r_ => ∃ u_ S1_, r_ = (.inl u_, S1_, 0) ∧ vq_288 x_ S0_ u_ S1_) := by
  have hF_ : ai_fr (sx_W vw_288) S0_ S0_ := ai_fr_rf
  refine sm_T_go 7 (c1 := (13, [some (.inr (.inl x_)), none], [.inl 101, .inl 108, .inl 117, .inl 100, .inl 111, .inl 109, .inr (.inl x_)], S0_)) rfl ?_
  refine sm_T_cal (d1 := 0) (Q1 := vq_287 109 111 100 117 108 101 S0_) rfl rfl (by decide) (vc_287 109 111 100 117 108 101 S0_ hI_ ) (fun u_ S1_ p4_ => ?_)
  obtain ⟨rfl, v6_, rfl, p4_⟩ := p4_
  have hw0_ : v6_ = 7885631928041537536 := p4_.trans (by decide +kernel)
  refine sm_T_go 1 (c1 := (17, [some (.inr (.inl x_)), none], [.inl (sm_lcmp x_ v6_)], S0_)) rfl ?_
  refine sm_T_b0 (a := 1) (z := 7) rfl (fun c7_ => ?_) (fun c7_ => ?_)
  · have c7_ : (sm_lcmp x_ v6_) ≠ 0 := of_decide_eq_true c7_
    refine sm_T_go 7 (c1 := (33, [some (.inr (.inl x_)), none], [.inl 0, .inl 0, .inl 0, .inl 0, .inl 110, .inl 105, .inr (.inl x_)], S0_)) rfl ?_
    refine sm_T_cal (d1 := 0) (Q1 := vq_287 105 110 0 0 0 0 S0_) rfl rfl (by decide) (vc_287 105 110 0 0 0 0 S0_ hI_ ) (fun u_ S8_ p11_ => ?_)
    obtain ⟨rfl, v13_, rfl, p11_⟩ := p11_
    have hw1_ : v13_ = 7597009621420605440 := p11_.trans (by decide +kernel)
    refine sm_T_go 1 (c1 := (37, [some (.inr (.inl x_)), none], [.inl (sm_lcmp x_ v13_)], S0_)) rfl ?_
    refine sm_T_b0 (a := 1) (z := 7) rfl (fun c14_ => ?_) (fun c14_ => ?_)
    · have c14_ : (sm_lcmp x_ v13_) ≠ 0 := of_decide_eq_true c14_
      refine sm_T_go 7 (c1 := (54, [some (.inr (.inl x_)), none], [.inl 0, .inl 0, .inl 0, .inl 116, .inl 117, .inl 111, .inr (.inl x_)], S0_)) rfl ?_
      refine sm_T_cal (d1 := 0) (Q1 := vq_287 111 117 116 0 0 0 S0_) rfl rfl (by decide) (vc_287 111 117 116 0 0 0 S0_ hI_ ) (fun u_ S15_ p18_ => ?_)
      obtain ⟨rfl, v20_, rfl, p18_⟩ := p18_
      have hw2_ : v20_ = 8031453053833969664 := p18_.trans (by decide +kernel)
      refine sm_T_go 1 (c1 := (58, [some (.inr (.inl x_)), none], [.inl (sm_lcmp x_ v20_)], S0_)) rfl ?_
      refine sm_T_b0 (a := 1) (z := 7) rfl (fun c21_ => ?_) (fun c21_ => ?_)
      · have c21_ : (sm_lcmp x_ v20_) ≠ 0 := of_decide_eq_true c21_
        refine sm_T_go 7 (c1 := (75, [some (.inr (.inl x_)), none], [.inl 0, .inl 0, .inl 0, .inl 116, .inl 101, .inl 108, .inr (.inl x_)], S0_)) rfl ?_
        refine sm_T_cal (d1 := 0) (Q1 := vq_287 108 101 116 0 0 0 S0_) rfl rfl (by decide) (vc_287 108 101 116 0 0 0 S0_ hI_ ) (fun u_ S22_ p25_ => ?_)
        obtain ⟨rfl, v27_, rfl, p25_⟩ := p25_
        have hw3_ : v27_ = 7810776672092815360 := p25_.trans (by decide +kernel)
        refine sm_T_go 1 (c1 := (79, [some (.inr (.inl x_)), none], [.inl (sm_lcmp x_ v27_)], S0_)) rfl ?_
        refine sm_T_b0 (a := 1) (z := 7) rfl (fun c28_ => ?_) (fun c28_ => ?_)
        · have c28_ : (sm_lcmp x_ v27_) ≠ 0 := of_decide_eq_true c28_
          refine sm_T_go 7 (c1 := (96, [some (.inr (.inl x_)), none], [.inl 0, .inl 0, .inl 0, .inl 103, .inl 101, .inl 114, .inr (.inl x_)], S0_)) rfl ?_
          refine sm_T_cal (d1 := 0) (Q1 := vq_287 114 101 103 0 0 0 S0_) rfl rfl (by decide) (vc_287 114 101 103 0 0 0 S0_ hI_ ) (fun u_ S29_ p32_ => ?_)
          obtain ⟨rfl, v34_, rfl, p32_⟩ := p32_
          have hw4_ : v34_ = 8243107942669221888 := p32_.trans (by decide +kernel)
          refine sm_T_go 1 (c1 := (100, [some (.inr (.inl x_)), none], [.inl (sm_lcmp x_ v34_)], S0_)) rfl ?_
          refine sm_T_b0 (a := 1) (z := 7) rfl (fun c35_ => ?_) (fun c35_ => ?_)
          · have c35_ : (sm_lcmp x_ v34_) ≠ 0 := of_decide_eq_true c35_
            refine sm_T_go 7 (c1 := (117, [some (.inr (.inl x_)), none], [.inl 0, .inl 0, .inl 0, .inl 101, .inl 115, .inl 117, .inr (.inl x_)], S0_)) rfl ?_
            refine sm_T_cal (d1 := 0) (Q1 := vq_287 117 115 101 0 0 0 S0_) rfl rfl (by decide) (vc_287 117 115 101 0 0 0 S0_ hI_ ) (fun u_ S36_ p39_ => ?_)
            obtain ⟨rfl, v41_, rfl, p39_⟩ := p39_
            have hw5_ : v41_ = 8463219175433699328 := p39_.trans (by decide +kernel)
            refine sm_T_go 1 (c1 := (121, [some (.inr (.inl x_)), none], [.inl (sm_lcmp x_ v41_)], S0_)) rfl ?_
            refine sm_T_b0 (a := 1) (z := 8) rfl (fun c42_ => ?_) (fun c42_ => ?_)
            · have c42_ : (sm_lcmp x_ v41_) ≠ 0 := of_decide_eq_true c42_
              refine sm_T_go 7 (c1 := (140, [some (.inr (.inl x_)), none], [.inl 0, .inl 0, .inl 108, .inl 108, .inl 101, .inl 99, .inr (.inl x_)], S0_)) rfl ?_
              refine sm_T_cal (d1 := 0) (Q1 := vq_287 99 101 108 108 0 0 S0_) rfl rfl (by decide) (vc_287 99 101 108 108 0 0 S0_ hI_ ) (fun u_ S43_ p46_ => ?_)
              obtain ⟨rfl, v48_, rfl, p46_⟩ := p46_
              have hw6_ : v48_ = 7162249993514909696 := p46_.trans (by decide +kernel)
              refine sm_T_go 1 (c1 := (144, [some (.inr (.inl x_)), none], [.inl (sm_lcmp x_ v48_)], S0_)) rfl ?_
              refine sm_T_b0 (a := 1) (z := 8) rfl (fun c49_ => ?_) (fun c49_ => ?_)
              · have c49_ : (sm_lcmp x_ v48_) ≠ 0 := of_decide_eq_true c49_
                refine sm_T_go 1 (c1 := (153, [some (.inr (.inl x_)), none], [.inl 0], S0_)) rfl ?_
                refine sm_T_ri rfl ⟨_, _, rfl, rfl, _, rfl, ?_⟩
                simp only [lcmp0, ne_eq, Decidable.not_not] at *
                simp only [wo, wcs, List.getD_cons_zero, List.getD_cons_succ]
                grind
              · have c49_ : ¬ ((sm_lcmp x_ v48_) ≠ 0) := of_decide_eq_false c49_
                refine sm_T_go 2 (c1 := (153, [some (.inr (.inl x_)), none], [.inl 7], S0_)) rfl ?_
                refine sm_T_ri rfl ⟨_, _, rfl, rfl, _, rfl, ?_⟩
                simp only [lcmp0, ne_eq, Decidable.not_not] at *
                simp only [wo, wcs, List.getD_cons_zero, List.getD_cons_succ]
                grind
            · have c42_ : ¬ ((sm_lcmp x_ v41_) ≠ 0) := of_decide_eq_false c42_
              refine sm_T_go 2 (c1 := (153, [some (.inr (.inl x_)), none], [.inl 6], S0_)) rfl ?_
              refine sm_T_ri rfl ⟨_, _, rfl, rfl, _, rfl, ?_⟩
              simp only [lcmp0, ne_eq, Decidable.not_not] at *
              simp only [wo, wcs, List.getD_cons_zero, List.getD_cons_succ]
              grind
          · have c35_ : ¬ ((sm_lcmp x_ v34_) ≠ 0) := of_decide_eq_false c35_
            refine sm_T_go 2 (c1 := (153, [some (.inr (.inl x_)), none], [.inl 5], S0_)) rfl ?_
            refine sm_T_ri rfl ⟨_, _, rfl, rfl, _, rfl, ?_⟩
            simp only [lcmp0, ne_eq, Decidable.not_not] at *
            simp only [wo, wcs, List.getD_cons_zero, List.getD_cons_succ]
            grind
        · have c28_ : ¬ ((sm_lcmp x_ v27_) ≠ 0) := of_decide_eq_false c28_
          refine sm_T_go 2 (c1 := (153, [some (.inr (.inl x_)), none], [.inl 4], S0_)) rfl ?_
          refine sm_T_ri rfl ⟨_, _, rfl, rfl, _, rfl, ?_⟩
          simp only [lcmp0, ne_eq, Decidable.not_not] at *
          simp only [wo, wcs, List.getD_cons_zero, List.getD_cons_succ]
          grind
      · have c21_ : ¬ ((sm_lcmp x_ v20_) ≠ 0) := of_decide_eq_false c21_
        refine sm_T_go 2 (c1 := (153, [some (.inr (.inl x_)), none], [.inl 3], S0_)) rfl ?_
        refine sm_T_ri rfl ⟨_, _, rfl, rfl, _, rfl, ?_⟩
        simp only [lcmp0, ne_eq, Decidable.not_not] at *
        simp only [wo, wcs, List.getD_cons_zero, List.getD_cons_succ]
        grind
    · have c14_ : ¬ ((sm_lcmp x_ v13_) ≠ 0) := of_decide_eq_false c14_
      refine sm_T_go 2 (c1 := (153, [some (.inr (.inl x_)), none], [.inl 2], S0_)) rfl ?_
      refine sm_T_ri rfl ⟨_, _, rfl, rfl, _, rfl, ?_⟩
      simp only [lcmp0, ne_eq, Decidable.not_not] at *
      simp only [wo, wcs, List.getD_cons_zero, List.getD_cons_succ]
      grind
  · have c7_ : ¬ ((sm_lcmp x_ v6_) ≠ 0) := of_decide_eq_false c7_
    refine sm_T_go 2 (c1 := (153, [some (.inr (.inl x_)), none], [.inl 1], S0_)) rfl ?_
    refine sm_T_ri rfl ⟨_, _, rfl, rfl, _, rfl, ?_⟩
    simp only [lcmp0, ne_eq, Decidable.not_not] at *
    simp only [wo, wcs, List.getD_cons_zero, List.getD_cons_succ]
    grind
def hide (P_ : Prop) : Prop := P_
theorem hide_o {R_ : Prop} (h_ : hide R_) : R_ := h_
theorem if01 {v_ : Int} {P_ : Prop} {_ : Decidable P_} (h_ : v_ = if P_ then 1 else 0) : (v_ = 1 ∧ P_) ∨ (v_ = 0 ∧ ¬ P_) := by
  split at h_
  · left; constructor; exact h_; assumption
  · right; constructor; exact h_; assumption
theorem i_or_n (x_ y_ : Int) : -2147483648 ≤ i_or x_ y_ ∧ i_or x_ y_ ≤ 2147483647 := sm_ni_toInt _
theorem wo_b (x_ : Int) : 0 ≤ wo x_ 7 ∧ wo x_ 7 ≤ 7 := by
  simp only [wo]
  repeat' split
  all_goals omega
theorem rb_s {b_ : Nat → Int} {n_ k_ : Nat} (hb_ : -128 ≤ b_ k_ ∧ b_ k_ ≤ 127) : lx_sg (rb b_ n_ k_) ↔ k_ < n_ ∧ lx_sg (b_ k_) := by
  unfold rb
  split
  · rename_i hk_
    by_cases q_ : 0 ≤ b_ k_
    · rw [Int.emod_eq_of_lt q_ (by omega)]
      exact ⟨fun h_ => ⟨hk_, h_⟩, fun h_ => h_.2⟩
    · have e_ : b_ k_ % 256 = b_ k_ + 256 := by omega
      rw [e_]
      constructor
      · intro h_; exfalso; rcases h_ with h_ | h_ | h_ | h_ | h_ | h_ | h_ | h_ | h_ | h_ | h_ | h_ | h_ | h_ | h_ | h_ <;> omega
      · intro h_; exfalso; rcases h_.2 with h_ | h_ | h_ | h_ | h_ | h_ | h_ | h_ | h_ | h_ | h_ | h_ | h_ | h_ | h_ | h_ <;> omega
  · constructor
    · intro h_; exfalso; rcases h_ with h_ | h_ | h_ | h_ | h_ | h_ | h_ | h_ | h_ | h_ | h_ | h_ | h_ | h_ | h_ | h_ <;> omega
    · intro h_; omega
theorem tk_s1 {W_ N_ : Int} (hW_ : 1 ≤ W_ ∧ W_ ≤ 9 ∧ W_ ≠ 2) (hN_ : N_ = if W_ = 1 then 0 else W_ - 2) (h_ : N_ ≤ 0) : 1 = r_so W_ := by
  unfold r_so
  split at hN_
  · rename_i q_; rw [if_neg (by omega), if_pos q_]
  · omega
theorem tk_s6 {W_ N_ : Int} (hW_ : 1 ≤ W_ ∧ W_ ≤ 9 ∧ W_ ≠ 2) (hN_ : N_ = if W_ = 1 then 0 else W_ - 2) (h_ : 0 < N_) : 6 = r_so W_ := by
  unfold r_so
  split at hN_
  · omega
  · rename_i q_; rw [if_neg (by omega), if_neg q_, if_neg (by omega), if_pos (by omega)]
theorem tk_n {W_ N_ x_ : Int} (hW_ : 1 ≤ W_ ∧ W_ ≤ 9 ∧ W_ ≠ 2) (hN_ : N_ = if W_ = 1 then 0 else W_ - 2) : N_ = r_nu W_ x_ := by
  unfold r_nu
  split at hN_
  · rename_i q_; rw [if_pos q_]; exact hN_
  · rename_i q_; rw [if_neg q_, if_neg (by omega), if_pos (by omega)]; exact hN_
theorem tk_g {W_ : Int} (h_ : 33 ≤ W_) : 3 = r_so W_ ∧ ∀ x_, W_ = r_nu W_ x_ := by
  refine ⟨?_, fun x_ => ?_⟩
  · unfold r_so; rw [if_neg (by omega), if_neg (by omega), if_neg (by omega), if_neg (by omega)]
  · unfold r_nu; rw [if_neg (by omega), if_neg (by omega), if_neg (by omega)]
theorem lx_x_b {c_ : Int} (h_ : lx_x c_) : 1 ≤ c_ ∧ c_ < 128 := by omega
end
