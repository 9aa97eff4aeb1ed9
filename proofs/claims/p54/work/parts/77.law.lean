/-! from the law's entry to its loop: the world that the constructors made is the small machine's world at rest -/
def sm_S0 : sm_S := (fun _ _ _ => 0, fun _ _ _ => none, fun _ _ _ => 0, fun _ _ _ => 0)
def cm_ix (q : Nat) : Nat := cm_ixL.getD q 0
/-- the places of the small machine's cells, and of what lies beside them -/
def cm_adr (adr oth : Nat → Nat) (t i : Nat) : Nat := if t < 296 then adr (cm_ix (sh_bs t + i)) else oth t
def cm_eqf (t i k : Nat) (ci : Nat) (fl : List (Option Nat)) : Bool := match (sh_fk t k).1 with
  | 0 => decide (fl.getD k none = none) && decide (defaultValue (sh_ty ci k) = .int 0)
  | 3 => decide (fl.getD k none = none) && decide (defaultValue (sh_ty ci k) = .long 0)
  | 1 => decide (fl.getD k none = some (cm_ix (sh_bs (sh_fk t k).2.1 + ((sh_fk t k).2.2 + i)))) && decide ((sh_fk t k).2.1 < 296)
  | _ => decide (fl.getD k none = none) && decide (defaultValue (sh_ty ci k) = .null)
def cm_eqq (q : Nat) : Bool := match (sh_kd (sh_kt q)).1, cm_lit.getD (cm_ix q) (.inl (0, 0)) with
  | 0, .inr (.inl (ci, fl)) => decide (ci = (sh_kd (sh_kt q)).2.1) && decide (fl.length = (sh_kd (sh_kt q)).2.2) && (List.range fl.length).all fun k => cm_eqf (sh_kt q) (sh_ki q) k ci fl
  | 4, .inl (ty, n) => decide (ty = (sh_kd (sh_kt q)).2.1) && decide (n = (sh_kd (sh_kt q)).2.2) && decide (ty = 3)
  | 5, .inr (.inr (ty, el)) => decide (ty = (sh_kd (sh_kt q)).2.1) && decide (el.length = (sh_kd (sh_kt q)).2.2) && decide (sh_rk (sh_kt q) < 296) && (List.range el.length).all fun k => decide (el.getD k none = some (cm_ix (sh_bs (sh_rk (sh_kt q)) + k)))
  | 1, .inl (ty, n) => decide (ty = (sh_kd (sh_kt q)).2.1) && decide (n = (sh_kd (sh_kt q)).2.2) && decide (ty ≠ 3)
  | 2, .inl (ty, n) => decide (ty = (sh_kd (sh_kt q)).2.1) && decide (n = (sh_kd (sh_kt q)).2.2) && decide (ty ≠ 3)
  | 3, .inl (ty, n) => decide (ty = (sh_kd (sh_kt q)).2.1) && decide (n = (sh_kd (sh_kt q)).2.2) && decide (ty ≠ 3)
  | _, _ => false
set_option maxRecDepth 100000 in
theorem cm_eqs : (List.range sh_N).all cm_eqq = true := by decide +kernel
set_option maxRecDepth 100000 in
theorem cm_ivs : (List.range sh_N).all (fun q => decide (cm_ivL.getD (cm_ix q) 0 = q) && decide (cm_ix q < sh_N) && decide (sh_kt q < 296)) = true := by decide +kernel
theorem cm_litl : cm_lit.length = sh_N := by decide +kernel
theorem cm_iv {q : Nat} (h : q < sh_N) : cm_ivL.getD (cm_ix q) 0 = q ∧ cm_ix q < sh_N ∧ sh_kt q < 296 := by
  have h1 := List.all_eq_true.mp cm_ivs q (List.mem_range.mpr h)
  simp only [Bool.and_eq_true, decide_eq_true_eq] at h1
  exact ⟨h1.1.1, h1.1.2, h1.2⟩
theorem cm_ad_at {adr oth : Nat → Nat} {q : Nat} (h : q < sh_N) : cm_adr adr oth (sh_kt q) (sh_ki q) = adr (cm_ix q) := by
  unfold cm_adr
  rw [if_pos (cm_iv h).2.2, sh_inv h]
/-- an entry of the one world is that of the other -/
theorem cm_cell {D : va_G} {K : Nat → ClassId} {adr oth : Nat → Nat} {H : Heap} {q a : Nat} (h : q < sh_N) (hP : va_at D CL (a, cm_e K adr (cm_lit.getD (cm_ix q) (.inl (0, 0)))) H) : va_at D CL (a, sm_cell K (cm_adr adr oth) sm_S0 (sh_kt q) (sh_ki q)) H := by
  have h1 := List.all_eq_true.mp cm_eqs q (List.mem_range.mpr h)
  unfold cm_eqq at h1
  generalize cm_lit.getD (cm_ix q) (.inl (0, 0)) = d at h1 hP
  generalize sh_kt q = t at h1 ⊢
  generalize sh_ki q = i at h1 ⊢
  split at h1
  · -- an object
    rename_i ci fl hk
    simp only [Bool.and_eq_true, decide_eq_true_eq] at h1
    obtain ⟨⟨rfl, e2⟩, e3⟩ := h1
    have e4 : sm_cell K (cm_adr adr oth) sm_S0 t i = .inr ((sh_kd t).2.1, cm_f adr (sh_kd t).2.1 fl) := by
      unfold sm_cell
      rw [hk]
      show (Sum.inr ((sh_kd t).2.1, (List.range (sh_kd t).2.2).map fun k => sm_tr (cm_adr adr oth) (sm_fu sm_S0 t i k)) : va_E) = _
      congr 2
      unfold cm_f
      rw [← e2]
      refine List.map_congr_left fun k hk2 => ?_
      have e5 := List.all_eq_true.mp e3 k hk2
      unfold cm_eqf at e5
      unfold sm_fu
      split at e5
      · rename_i hf
        simp only [Bool.and_eq_true, decide_eq_true_eq] at e5
        rw [hf, e5.1]
        show Value.int (Int32.ofInt 0) = defaultValue _
        rw [e5.2]
        rfl
      · rename_i hf
        simp only [Bool.and_eq_true, decide_eq_true_eq] at e5
        rw [hf, e5.1]
        show Value.long (Int64.ofInt 0) = defaultValue _
        rw [e5.2]
        rfl
      · rename_i hf
        simp only [Bool.and_eq_true, decide_eq_true_eq] at e5
        rw [hf, e5.1]
        show Value.ref (cm_adr adr oth (sh_fk t k).2.1 ((sh_fk t k).2.2 + i)) = Value.ref _
        unfold cm_adr
        rw [if_pos e5.2]
      · rename_i n0 n1 n2
        simp only [Bool.and_eq_true, decide_eq_true_eq] at e5
        rw [e5.1]
        split
        · rename_i hf; exact absurd hf n0
        · rename_i hf; exact absurd hf n1
        · rename_i hf; exact absurd hf n2
        · show Value.null = defaultValue _
          rw [e5.2]
    rw [e4]
    exact hP
  · -- longs
    rename_i ty n hk
    simp only [Bool.and_eq_true, decide_eq_true_eq] at h1
    obtain ⟨⟨rfl, rfl⟩, e3⟩ := h1
    have e4 : sm_cell K (cm_adr adr oth) sm_S0 t i = .inl (K (sh_kd t).2.1, (sh_kd t).2.2, .inr (.inl fun _ => 0)) := by
      unfold sm_cell
      rw [hk]
      rfl
    rw [e4]
    have e5 : cm_e K adr (.inl ((sh_kd t).2.1, (sh_kd t).2.2)) = .inl (K (sh_kd t).2.1, (sh_kd t).2.2, .inr (.inl fun _ => 0)) := by
      show (Sum.inl (K (sh_kd t).2.1, (sh_kd t).2.2, if (sh_kd t).2.1 = 3 then .inr (.inl fun _ => 0) else .inl fun _ => 0) : va_E) = _
      rw [if_pos e3]
    rw [e5] at hP
    exact hP
  · -- a row of objects
    rename_i ty el hk
    simp only [Bool.and_eq_true, decide_eq_true_eq] at h1
    obtain ⟨⟨⟨rfl, e2⟩, e3⟩, e6⟩ := h1
    have e4 : sm_cell K (cm_adr adr oth) sm_S0 t i = .inl (K (sh_kd t).2.1, (sh_kd t).2.2, .inr (.inr (.inr (.inr fun j => some (cm_adr adr oth (sh_rk t) j))))) := by
      unfold sm_cell
      rw [hk]
      rfl
    rw [e4]
    replace hP : H[a]? = some (vp_cell (K (sh_kd t).2.1) (el.length, .inr (.inr (.inr (.inr fun k => (el.getD k none).map adr))))) := hP
    show H[a]? = some (vp_cell (K (sh_kd t).2.1) ((sh_kd t).2.2, .inr (.inr (.inr (.inr fun j => some (cm_adr adr oth (sh_rk t) j))))))
    rw [hP, ← e2]
    congr 1
    rw [vp_cell_q, vp_cell_q]
    unfold arrV
    congr 1
    refine congrArg Array.ofFn ?_
    funext j
    have e5 := of_decide_eq_true (List.all_eq_true.mp e6 j.val (List.mem_range.mpr j.isLt))
    have e7 : (el.getD j.val none).map adr = some (cm_adr adr oth (sh_rk t) j.val) := by
      rw [e5]
      unfold cm_adr
      rw [if_pos e3]
      rfl
    dsimp only
    rw [e7]
  all_goals first
    | (rename_i ty n hk
       simp only [Bool.and_eq_true, decide_eq_true_eq] at h1
       obtain ⟨⟨rfl, rfl⟩, e3⟩ := h1
       have e4 : sm_cell K (cm_adr adr oth) sm_S0 t i = .inl (K (sh_kd t).2.1, (sh_kd t).2.2, .inl fun _ => 0) := by
         unfold sm_cell
         rw [hk]
         rfl
       rw [e4]
       have e5 : cm_e K adr (.inl ((sh_kd t).2.1, (sh_kd t).2.2)) = .inl (K (sh_kd t).2.1, (sh_kd t).2.2, .inl fun _ => 0) := by
         show (Sum.inl (K (sh_kd t).2.1, (sh_kd t).2.2, if (sh_kd t).2.1 = 3 then .inr (.inl fun _ => 0) else .inl fun _ => 0) : va_E) = _
         rw [if_neg e3]
       rw [e5] at hP
       exact hP)
    | cases h1
theorem cm_PP {D : va_G} {K : Nat → ClassId} {adr oth : Nat → Nat} {H : Heap} (hP : va_P D CL (cm_W K adr cm_lit) H) : va_P D CL (sm_ws K (cm_adr adr oth) sm_S0) H := by
  intro k x hx
  have hk : k < sh_N := by
    have := (List.getElem?_eq_some_iff.mp hx).1
    unfold sm_ws at this
    rw [List.length_map, List.length_range] at this
    exact this
  unfold sm_ws at hx
  rw [List.getElem?_map, List.getElem?_range hk, Option.map_some] at hx
  cases hx
  rw [cm_ad_at hk]
  refine cm_cell hk ?_
  have hl : cm_ix k < cm_lit.length := by rw [cm_litl]; exact (cm_iv hk).2.1
  refine hP (cm_ix k) _ ?_
  rw [cm_W_at (List.getElem?_eq_getElem hl), List.getD_eq_getElem?_getD, List.getElem?_eq_getElem hl]
  rfl
theorem cm_DD {A : Nat → Prop} {K : Nat → ClassId} {adr oth : Nat → Nat} (hD : va_D A (cm_W K adr cm_lit)) : va_D A (sm_ws K (cm_adr adr oth) sm_S0) := by
  have at_ : ∀ k x, (sm_ws K (cm_adr adr oth) sm_S0)[k]? = some x → k < sh_N ∧ x.1 = adr (cm_ix k) := by
    intro k x hx
    have hk : k < sh_N := by
      have := (List.getElem?_eq_some_iff.mp hx).1
      unfold sm_ws at this
      rw [List.length_map, List.length_range] at this
      exact this
    unfold sm_ws at hx
    rw [List.getElem?_map, List.getElem?_range hk, Option.map_some] at hx
    cases hx
    exact ⟨hk, cm_ad_at hk⟩
  have wt : ∀ k, k < sh_N → ∃ y : Nat × va_E, (cm_W K adr cm_lit)[cm_ix k]? = some y ∧ y.1 = adr (cm_ix k) := by
    intro k hk
    have hl : cm_ix k < cm_lit.length := by rw [cm_litl]; exact (cm_iv hk).2.1
    exact ⟨_, cm_W_at (List.getElem?_eq_getElem hl), rfl⟩
  refine ⟨fun i j x y hi hj hxy => ?_, fun k x hx => ?_⟩
  · obtain ⟨i1, i2⟩ := at_ i x hi
    obtain ⟨j1, j2⟩ := at_ j y hj
    obtain ⟨x', x1, x2⟩ := wt i i1
    obtain ⟨y', y1, y2⟩ := wt j j1
    have h := hD.1 _ _ x' y' x1 y1 (by rw [x2, y2, ← i2, ← j2]; exact hxy)
    rw [← (cm_iv i1).1, ← (cm_iv j1).1, h]
  · obtain ⟨i1, i2⟩ := at_ k x hx
    obtain ⟨x', x1, x2⟩ := wt k i1
    rw [i2, ← x2]
    exact hD.2 _ _ x1
