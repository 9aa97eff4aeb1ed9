/-! symbolic steps: arithmetic and branches -/
def sx_st2 (x : sm_I) (a : sx_C) : Option (List sx_C) := match x, a with
  | (op, n, p, _, _, z), (pc, aL, st, R) => match op with
    | 8 => match aL.getD p none with
      | some (.inl e) => if sx_oke (pc, aL, st, R) e && sx_nn z then match sx_bi 0 e (sx_c z) (pc, aL, st, R) with
        | some r => some [(pc + n, sx_s1 aL p (.inl r.1), st, r.2.2.2.2)]
        | none => none
        else none
      | _ => none
    | 9 => match st with
      | .inl y :: .inl x :: r => if sx_oke (pc, aL, st, R) x && sx_oke (pc, aL, st, R) y then match sx_bi p x y (pc, aL, st, R) with
        | some q => some [(pc + n, aL, .inl q.1 :: r, q.2.2.2.2)]
        | none => none
        else none
      | _ => none
    | 17 => match st with
      | .inl x :: r => some ((sx_cd p x (sx_c 0) (((pc : Int) + z).toNat, aL, r, R)).toList ++ (sx_cd (ai_neg p) x (sx_c 0) (pc + 3, aL, r, R)).toList)
      | _ => none
    | 18 => match st with
      | .inl y :: .inl x :: r => some ((sx_cd p x y (((pc : Int) + z).toNat, aL, r, R)).toList ++ (sx_cd (ai_neg p) x y (pc + 3, aL, r, R)).toList)
      | _ => none
    | _ => none
section SH
variable {ρ : Nat → Int} {τ : Nat → Nat}
theorem sx_oke_g {a : sx_C} {c : sm_C} {e : sx_E} (g : sx_gC ρ τ a c) (we : sx_wf a.2.2.2.2.2.1.length e) (h : sx_oke a e = true) : sm_ni (sx_ev ρ e) := by
  have hb := sx_bd g we
  unfold sx_oke sx_ok at h
  simp only [Bool.and_eq_true, decide_eq_true_eq] at h
  unfold sm_ni
  omega
theorem sx_neg_cnd {k : Nat} {x y : Int} (h : ¬ sm_cnd k x y = true) : sm_cnd (ai_neg k) x y = true := by
  rcases k with _ | _ | _ | _ | _ | k
  · have h : ¬ x = y := fun q => h (decide_eq_true q)
    exact decide_eq_true h
  · have h : ¬ x ≠ y := fun q => h (decide_eq_true q)
    exact decide_eq_true (Decidable.byContradiction h)
  · have h : ¬ x < y := fun q => h (decide_eq_true q)
    exact decide_eq_true (by omega)
  · have h : ¬ y ≤ x := fun q => h (decide_eq_true q)
    exact decide_eq_true (by omega)
  · have h : ¬ y < x := fun q => h (decide_eq_true q)
    exact decide_eq_true (by omega)
  · have h : ¬ x ≤ y := fun q => h (decide_eq_true q)
    exact decide_eq_true (by omega)
/-- a branch -/
theorem sx_br_g {k : Nat} {x y : sx_E} {t1 t2 pc : Nat} {aL : sx_L} {r st : List sx_V} {R : sx_M × sx_N × sx_I × List sx_E × sx_K × Nat} {L : sm_L} {vs w : List sm_V} {S : sm_S} (g : sx_gC ρ τ (pc, aL, st, R) (pc, L, vs, S)) (hS : sx_gS ρ τ r w) (wS : sx_wS R.2.2.1.length R.2.2.2.2.2 r) (wx : sx_wf R.2.2.1.length x) (wy : sx_wf R.2.2.1.length y) :
    ∃ a1, a1 ∈ (sx_cd k x y (t1, aL, r, R)).toList ++ (sx_cd (ai_neg k) x y (t2, aL, r, R)).toList ∧ sx_gC ρ τ a1 (if sm_cnd k (sx_ev ρ x) (sx_ev ρ y) then t1 else t2, L, w, S) := by
  obtain ⟨-, ⟨gL, wL⟩, -, -⟩ := sx_un g
  by_cases c : sm_cnd k (sx_ev ρ x) (sx_ev ρ y) = true
  · obtain ⟨a', e1, g1, -⟩ := sx_cd_g (a := (t1, aL, r, R)) (sx_mk (pc' := t1) g gL wL hS wS) wx wy c
    refine ⟨a', List.mem_append_left _ (by rw [e1]; exact List.mem_singleton.mpr rfl), ?_⟩
    rw [if_pos c]
    exact g1
  · obtain ⟨a', e1, g1, -⟩ := sx_cd_g (a := (t2, aL, r, R)) (sx_mk (pc' := t2) g gL wL hS wS) wx wy (sx_neg_cnd c)
    refine ⟨a', List.mem_append_right _ (by rw [e1]; exact List.mem_singleton.mpr rfl), ?_⟩
    rw [if_neg c]
    exact g1
theorem sx_st2_g {x : sm_I} {a : sx_C} {cs : List sx_C} {c : sm_C} (h : sx_st2 x a = some cs) (g : sx_gC ρ τ a c) : ∃ c1 a1 ρ', sm_stp x c.1 c.2.1 c.2.2.1 c.2.2.2 = some c1 ∧ a1 ∈ cs ∧ sx_gC ρ' τ a1 c1 ∧ sx_lk a.2.2.2.2.2.1.length a.2.2.2.2.2.2.2.2 ρ ρ' τ τ ∧ c1.2.2.2 = c.2.2.2 := by
  obtain ⟨op, n, p, b, d, z⟩ := x
  obtain ⟨pc, aL, st, R⟩ := a
  obtain ⟨pc0, L, vs, S⟩ := c
  obtain ⟨rfl, ⟨gL, wL⟩, gS, wS⟩ := sx_un g
  have rf : sx_lk R.2.2.1.length R.2.2.2.2.2 ρ ρ τ τ := ⟨fun _ _ => rfl, fun _ _ => rfl⟩
  unfold sx_st2 at h
  dsimp only at h ⊢
  split at h
  · split at h
    · rename_i e hj
      split at h
      · rename_i hc
        simp only [Bool.and_eq_true] at hc
        split at h
        · rename_i r hr
          cases h
          obtain ⟨v, h1, h2⟩ := gL.2 p _ hj
          have we : sx_wf R.2.2.1.length e := wL p _ hj
          have ne := sx_oke_g g we hc.1
          have nz : sm_ni (sx_ev ρ (sx_c z)) := by
            have h9 := hc.2
            unfold sx_nn at h9
            simp only [Bool.and_eq_true, decide_eq_true_eq] at h9
            rw [sx_c_ev]
            exact h9
          obtain ⟨v1, q1, ρ', q2, q3, q4, q5, q6, q7, q8, q9, q10⟩ := sx_bi_g hr g we (sx_c_wf _ _) ne nz
          obtain ⟨r1, r2, r3, r4, R'⟩ := r
          dsimp only at q3 q4 q5 q6 q7 q8 q9 q10
          subst q7
          subst q8
          subst q9
          rcases v with v | v | v
          · have e1 : sx_ev ρ e = v := h2
            rw [sx_c_ev, e1] at q1
            have q1 : (Int32.ofInt v + Int32.ofInt z).toInt = v1 := Option.some.inj q1
            obtain ⟨-, ⟨gL', wL'⟩, gS', wS'⟩ := sx_un q3
            exact ⟨(r2 + n, sm_s1 L p (.inl v1), vs, S), _, ρ', by simp only [sm_stp, h1, q1], List.mem_singleton.mpr rfl, sx_mk q3 (sx_s1_g gL' (v := .inl v1) (show sx_gV ρ' τ (.inl r1) (.inl v1) from q4)) (sx_s1_w wL' (show sx_wV _ _ (.inl r1) from q5)) gS' wS', q2, rfl⟩
          · exact h2.elim
          · exact h2.elim
        · cases h
      · cases h
    · cases h
  · split at h
    · rename_i y x r
      split at h
      · rename_i hc
        simp only [Bool.and_eq_true] at hc
        split at h
        · rename_i q hq
          cases h
          obtain ⟨w, rfl, g2⟩ := sx_inv_i gS
          obtain ⟨w, rfl, g3⟩ := sx_inv_i g2
          have wy : sx_wf R.2.2.1.length y := sx_wS_hd wS
          have wx : sx_wf R.2.2.1.length x := sx_wS_hd (sx_wS_tl wS)
          obtain ⟨v1, q1, ρ', q2, q3, q4, q5, q6, q7, q8, q9, q10⟩ := sx_bi_g hq g wx wy (sx_oke_g g wx hc.1) (sx_oke_g g wy hc.2)
          obtain ⟨r1, r2, r3, r4, R'⟩ := q
          dsimp only at q3 q4 q5 q6 q7 q8 q9 q10
          subst q7
          subst q8
          subst q9
          obtain ⟨-, ⟨gL', wL'⟩, gS', wS'⟩ := sx_un q3
          have g9 := sx_gS_lk q2 (sx_wS_tl (sx_wS_tl wS)) g3
          exact ⟨(r2 + n, L, .inl v1 :: w, S), _, ρ', by simp only [sm_stp, q1]; rfl, List.mem_singleton.mpr rfl, sx_mk q3 gL' wL' ⟨(show sx_gV ρ' τ (.inl r1) (.inl v1) from q4), g9⟩ (sx_wS_cons (show sx_wV _ _ (.inl r1) from q5) (sx_wS_tl (sx_wS_tl wS'))), q2, rfl⟩
        · cases h
      · cases h
    · cases h
  · split at h
    · rename_i x r
      cases h
      obtain ⟨w, rfl, g2⟩ := sx_inv_i gS
      obtain ⟨a1, k1, k2⟩ := sx_br_g (k := p) (y := sx_c 0) (t1 := ((pc : Int) + z).toNat) (t2 := pc + 3) g g2 (sx_wS_tl wS) (sx_wS_hd wS) (sx_c_wf _ _)
      rw [sx_c_ev] at k2
      exact ⟨_, a1, ρ, by simp only [sm_stp], k1, k2, rf, rfl⟩
    · cases h
  · split at h
    · rename_i y x r
      cases h
      obtain ⟨w, rfl, g2⟩ := sx_inv_i gS
      obtain ⟨w, rfl, g3⟩ := sx_inv_i g2
      obtain ⟨a1, k1, k2⟩ := sx_br_g (k := p) (t1 := ((pc : Int) + z).toNat) (t2 := pc + 3) g g3 (sx_wS_tl (sx_wS_tl wS)) (sx_wS_hd (sx_wS_tl wS)) (sx_wS_hd wS)
      exact ⟨_, a1, ρ, by simp only [sm_stp], k1, k2, rf, rfl⟩
    · cases h
  · cases h
end SH
