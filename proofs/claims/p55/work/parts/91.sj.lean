/-! symbolic steps: longs, conversions, the stack's own, references compared -/
def sx_st4 (x : sm_I) (a : sx_C) : Option (List sx_C) := match x, a with
  | (op, n, p, _, _, z), (pc, aL, st, m, nn, iv, fs, k, t) => match op with
    | 10 => match st with
      | .inr (.inl _) :: .inr (.inl _) :: r => if p ≤ 5 then some [(pc + n, aL, .inr (.inl ()) :: r, m, nn, iv, fs, k, t)] else none
      | _ => none
    | 11 => match st with
      | .inl _ :: .inr (.inl _) :: r => if p ≤ 2 then some [(pc + n, aL, .inr (.inl ()) :: r, m, nn, iv, fs, k, t)] else none
      | _ => none
    | 12 => match st with
      | .inr (.inl _) :: .inr (.inl _) :: r => some [(pc + n, aL, .inl (sx_a iv.length) :: r, m, nn, iv ++ [(-1, 1)], fs, k, t)]
      | _ => none
    | 13 => match st with
      | .inr (.inl _) :: r => if p = 1 then some [(pc + n, aL, .inl (sx_a iv.length) :: r, m, nn, iv ++ [(-2147483648, 2147483647)], fs, k, t)] else none
      | .inl e :: r => match p with
        | 0 => some [(pc + n, aL, .inr (.inl ()) :: r, m, nn, iv, fs, k, t)]
        | 2 => some [(pc + n, aL, .inl (sx_a iv.length) :: r, m, nn, iv ++ [(-128, 127)], fs, k, t)]
        | 3 => some [(pc + n, aL, .inl (sx_a iv.length) :: r, m, nn, iv ++ [(0, 65535)], fs, k, t)]
        | 4 => if sx_ok iv fs (sx_sc (-1) e) then some [(pc + n, aL, .inl (sx_sc (-1) e) :: r, m, nn, iv, fs, k, t)] else some [(pc + n, aL, .inl (sx_a iv.length) :: r, m, nn, iv ++ [(-2147483648, 2147483647)], fs, k, t)]
        | _ => none
      | _ => none
    | 14 => match st with
      | .inl v :: r => some [(pc + n, aL, .inl v :: .inl v :: r, m, nn, iv, fs, k, t)]
      | .inr (.inr v) :: r => some [(pc + n, aL, .inr (.inr v) :: .inr (.inr v) :: r, m, nn, iv, fs, k, t)]
      | _ => none
    | 15 => match st with
      | .inl _ :: r => some [(pc + n, aL, r, m, nn, iv, fs, k, t)]
      | .inr (.inr _) :: r => some [(pc + n, aL, r, m, nn, iv, fs, k, t)]
      | _ => none
    | 16 => match st with
      | .inl y :: .inr (.inr x) :: r => some [(pc + n, aL, .inl y :: .inr (.inr x) :: .inl y :: .inr (.inr x) :: r, m, nn, iv, fs, k, t)]
      | _ => none
    | 20 => match st with
      | .inr (.inr y) :: .inr (.inr x) :: r => if y.1 < 14 && x.1 < 14 then some [(pc + 3, aL, r, m, nn, iv, fs, k, t), (((pc : Int) + z).toNat, aL, r, m, nn, iv, fs, k, t)] else none
      | _ => none
    | 21 => match st with
      | .inr (.inr y) :: r => some [(cond y.2.2.2 ((pc : Int) + z).toNat (pc + 3), aL, r, m, nn, iv, fs, k, t)]
      | _ => none
    | 22 => match st with
      | .inr (.inr y) :: r => some [(cond y.2.2.2 (pc + 3) ((pc : Int) + z).toNat, aL, r, m, nn, iv, fs, k, t)]
      | _ => none
    | 38 => if 0 < t then some [(pc + n, aL, .inr (.inr (5, 0, 0, true)) :: st, m, nn, iv, fs, k, t)] else none
    | _ => none
theorem sx_i2c (y : UInt32) : 0 ≤ (y % 65536).toInt32.toInt ∧ (y % 65536).toInt32.toInt ≤ 65535 := by
  have h1 : (y % 65536).toNat < 65536 := by
    rw [UInt32.toNat_mod]
    exact Nat.mod_lt _ (by decide)
  have h2 : (y % 65536).toInt32.toInt = ((y % 65536).toNat : Int) := by
    show (y % 65536).toBitVec.toInt = _
    rw [BitVec.toInt_eq_toNat_of_lt]
    · rfl
    · show 2 * (y % 65536).toNat < 2 ^ 32
      omega
  omega
section SJ
variable {ρ : Nat → Int} {τ : Nat → Nat}
/-- a fresh int is pushed -/
theorem sx_pushI {pc pc' t : Nat} {aL : sx_L} {st r : List sx_V} {m : sx_M} {nn : sx_N} {iv : sx_I} {fs : List sx_E} {k : sx_K} {L : sm_L} {vs w : List sm_V} {S : sm_S} {lo hi v : Int} (g : sx_gC ρ τ (pc, aL, st, m, nn, iv, fs, k, t) (pc, L, vs, S)) (hS : sx_gS ρ τ r w) (wS : sx_wS iv.length t r) (h1 : lo ≤ v) (h2 : v ≤ hi) :
    ∃ ρ', sx_gC ρ' τ (pc', aL, .inl (sx_a iv.length) :: r, m, nn, iv ++ [(lo, hi)], fs, k, t) (pc', L, .inl v :: w, S) ∧ sx_lk iv.length t ρ ρ' τ τ := by
  obtain ⟨-, ⟨gL, wL⟩, -⟩ := id g
  obtain ⟨ρ', l1, l2, ⟨-, ⟨gL', wL'⟩, ⟨gS', wS'⟩, g3⟩⟩ := sx_fresh (sx_mk (pc' := pc') g gL wL hS wS) h1 h2
  have hl : (iv ++ [(lo, hi)]).length = iv.length + 1 := by rw [List.length_append]; rfl
  have wa : sx_wf (iv ++ [(lo, hi)]).length (sx_a iv.length) := by rw [hl]; exact sx_a_wf (Nat.lt_succ_self _)
  exact ⟨ρ', ⟨rfl, ⟨gL', wL'⟩, ⟨⟨l2, gS'⟩, sx_wS_cons wa wS'⟩, g3⟩, l1⟩
theorem sx_st4_g {x : sm_I} {a : sx_C} {cs : List sx_C} {c : sm_C} (h : sx_st4 x a = some cs) (g : sx_gC ρ τ a c) : ∃ c1 a1 ρ', sm_stp x c.1 c.2.1 c.2.2.1 c.2.2.2 = some c1 ∧ a1 ∈ cs ∧ sx_gC ρ' τ a1 c1 ∧ sx_lk a.2.2.2.2.2.1.length a.2.2.2.2.2.2.2.2 ρ ρ' τ τ ∧ c1.2.2.2 = c.2.2.2 := by
  obtain ⟨op, n, p, b, d, z⟩ := x
  obtain ⟨pc, aL, st, m, nn, iv, fs, k, t⟩ := a
  obtain ⟨pc0, L, vs, S⟩ := c
  obtain ⟨rfl, ⟨gL, wL⟩, gS, wS⟩ := sx_un g
  have rf : sx_lk iv.length t ρ ρ τ τ := ⟨fun _ _ => rfl, fun _ _ => rfl⟩
  dsimp only at gL wL gS wS
  unfold sx_st4 at h
  dsimp only at h ⊢
  split at h
  · split at h
    · split at h
      · rename_i ha
        cases h
        obtain ⟨y, w, rfl, h2⟩ := sx_inv_l gS
        obtain ⟨x, w, rfl, h4⟩ := sx_inv_l h2
        have hv : ∃ v, sm_lbin p x y = some v := by
          rcases p with _ | _ | _ | _ | _ | _ | p
          · exact ⟨_, rfl⟩
          · exact ⟨_, rfl⟩
          · exact ⟨_, rfl⟩
          · exact ⟨_, rfl⟩
          · exact ⟨_, rfl⟩
          · exact ⟨_, rfl⟩
          · omega
        obtain ⟨v, hv⟩ := hv
        exact ⟨(pc + n, L, .inr (.inl v) :: w, S), _, ρ, by simp only [sm_stp, hv]; rfl, List.mem_singleton.mpr rfl, sx_mk g gL wL ⟨trivial, h4⟩ (sx_wS_cons trivial (sx_wS_tl (sx_wS_tl wS))), rf, rfl⟩
      · cases h
    · cases h
  · split at h
    · split at h
      · rename_i ha
        cases h
        obtain ⟨w, rfl, h2⟩ := sx_inv_i gS
        obtain ⟨x, w, rfl, h4⟩ := sx_inv_l h2
        rename_i e _ _
        have hv : ∃ v, sm_lsh p x (sx_ev ρ e) = some v := by
          rcases p with _ | _ | _ | p
          · exact ⟨_, rfl⟩
          · exact ⟨_, rfl⟩
          · exact ⟨_, rfl⟩
          · omega
        obtain ⟨v, hv⟩ := hv
        exact ⟨(pc + n, L, .inr (.inl v) :: w, S), _, ρ, by simp only [sm_stp, hv]; rfl, List.mem_singleton.mpr rfl, sx_mk g gL wL ⟨trivial, h4⟩ (sx_wS_cons trivial (sx_wS_tl (sx_wS_tl wS))), rf, rfl⟩
      · cases h
    · cases h
  · split at h
    · cases h
      obtain ⟨y, w, rfl, h2⟩ := sx_inv_l gS
      obtain ⟨x, w, rfl, h4⟩ := sx_inv_l h2
      have hb : (-1 : Int) ≤ sm_lcmp x y ∧ sm_lcmp x y ≤ 1 := by
        unfold sm_lcmp
        split
        · omega
        · split <;> omega
      obtain ⟨ρ', q1, q2⟩ := sx_pushI (pc' := pc + n) g h4 (sx_wS_tl (sx_wS_tl wS)) hb.1 hb.2
      exact ⟨_, _, ρ', rfl, List.mem_singleton.mpr rfl, q1, q2, rfl⟩
    · cases h
  · split at h
    · split at h
      · rename_i hp
        subst hp
        cases h
        obtain ⟨y, w, rfl, h2⟩ := sx_inv_l gS
        have hb := sm_ni_toInt (Int64.ofInt y).toInt32
        unfold sm_ni at hb
        obtain ⟨ρ', q1, q2⟩ := sx_pushI (pc' := pc + n) g h2 (sx_wS_tl wS) hb.1 hb.2
        exact ⟨_, _, ρ', rfl, List.mem_singleton.mpr rfl, q1, q2, rfl⟩
      · cases h
    · rename_i e r
      obtain ⟨w, rfl, h2⟩ := sx_inv_i gS
      split at h
      · cases h
        exact ⟨_, _, ρ, rfl, List.mem_singleton.mpr rfl, sx_mk g gL wL ⟨trivial, h2⟩ (sx_wS_cons trivial (sx_wS_tl wS)), rf, rfl⟩
      · cases h
        have hb := ai_nar_b (Int32.ofInt (sx_ev ρ e))
        obtain ⟨ρ', q1, q2⟩ := sx_pushI (pc' := pc + n) g h2 (sx_wS_tl wS) hb.1 hb.2
        exact ⟨_, _, ρ', rfl, List.mem_singleton.mpr rfl, q1, q2, rfl⟩
      · cases h
        have hb := sx_i2c (Int32.ofInt (sx_ev ρ e)).toUInt32
        obtain ⟨ρ', q1, q2⟩ := sx_pushI (pc' := pc + n) g h2 (sx_wS_tl wS) hb.1 hb.2
        exact ⟨_, _, ρ', rfl, List.mem_singleton.mpr rfl, q1, q2, rfl⟩
      · split at h
        · rename_i hok
          cases h
          have we : sx_wf iv.length e := sx_wS_hd wS
          have hb := sx_bd g (e := sx_sc (-1) e) (sx_sc_wf we)
          unfold sx_ok at hok
          simp only [Bool.and_eq_true, decide_eq_true_eq] at hok
          dsimp only at hb
          have hn : sm_ni (-(sx_ev ρ e)) := by
            rw [sx_sc_ev] at hb
            unfold sm_ni
            omega
          have hv : (-(Int32.ofInt (sx_ev ρ e))).toInt = -(sx_ev ρ e) := by rw [← Int32.ofInt_neg, sm_ti hn]
          refine ⟨(pc + n, L, .inl (-(sx_ev ρ e)) :: w, S), _, ρ, by rw [← hv]; rfl, List.mem_singleton.mpr rfl, sx_mk g gL wL ⟨?_, h2⟩ (sx_wS_cons (sx_sc_wf we) (sx_wS_tl wS)), rf, rfl⟩
          show sx_ev ρ (sx_sc (-1) e) = -(sx_ev ρ e)
          rw [sx_sc_ev]
          omega
        · cases h
          have hb := sm_ni_toInt (-(Int32.ofInt (sx_ev ρ e)))
          unfold sm_ni at hb
          obtain ⟨ρ', q1, q2⟩ := sx_pushI (pc' := pc + n) g h2 (sx_wS_tl wS) hb.1 hb.2
          exact ⟨_, _, ρ', rfl, List.mem_singleton.mpr rfl, q1, q2, rfl⟩
      · cases h
    · cases h
  · split at h
    · cases h
      obtain ⟨w, rfl, h2⟩ := sx_inv_i gS
      exact ⟨_, _, ρ, rfl, List.mem_singleton.mpr rfl, sx_mk g gL wL ⟨gS.1, gS.1, h2⟩ (sx_wS_cons (sx_wS_hd wS) wS), rf, rfl⟩
    · cases h
      obtain ⟨w, rfl, h2⟩ := sx_inv_r gS
      exact ⟨_, _, ρ, rfl, List.mem_singleton.mpr rfl, sx_mk g gL wL ⟨gS.1, gS.1, h2⟩ (sx_wS_cons (sx_wS_hd wS) wS), rf, rfl⟩
    · cases h
  · split at h
    · cases h
      obtain ⟨w, rfl, h2⟩ := sx_inv_i gS
      exact ⟨_, _, ρ, rfl, List.mem_singleton.mpr rfl, sx_mk g gL wL h2 (sx_wS_tl wS), rf, rfl⟩
    · cases h
      obtain ⟨w, rfl, h2⟩ := sx_inv_r gS
      exact ⟨_, _, ρ, rfl, List.mem_singleton.mpr rfl, sx_mk g gL wL h2 (sx_wS_tl wS), rf, rfl⟩
    · cases h
  · split at h
    · cases h
      obtain ⟨w, rfl, h2⟩ := sx_inv_i gS
      obtain ⟨w, rfl, h4⟩ := sx_inv_r h2
      exact ⟨_, _, ρ, rfl, List.mem_singleton.mpr rfl, sx_mk g gL wL ⟨gS.1, gS.2.1, gS.1, gS.2.1, h4⟩ (sx_wS_cons (sx_wS_hd wS) (sx_wS_cons (sx_wS_hd (sx_wS_tl wS)) wS)), rf, rfl⟩
    · cases h
  · split at h
    · rename_i y x r
      split at h
      · rename_i hc
        simp only [Bool.and_eq_true, decide_eq_true_eq] at hc
        cases h
        obtain ⟨w, rfl, h2⟩ := sx_inv_r gS
        obtain ⟨w, rfl, h4⟩ := sx_inv_r h2
        generalize hx' : cond x.2.2.2 none (some (x.1, τ x.2.1 + x.2.2.1)) = x'
        generalize hy' : cond y.2.2.2 none (some (y.1, τ y.2.1 + y.2.2.1)) = y'
        have e1 : (x'.all fun q => decide (q.1 < 14)) = true := by
          rw [← hx']
          cases x.2.2.2
          · exact decide_eq_true hc.2
          · rfl
        have e2 : (y'.all fun q => decide (q.1 < 14)) = true := by
          rw [← hy']
          cases y.2.2.2
          · exact decide_eq_true hc.1
          · rfl
        have hst : sm_stp (20, n, p, b, d, z) pc L (.inr (.inr y') :: .inr (.inr x') :: w) S = some (if x' = y' then pc + 3 else ((pc : Int) + z).toNat, L, w, S) := by
          simp only [sm_stp]
          rw [if_pos (by rw [e1, e2]; rfl)]
        by_cases q : x' = y'
        · rw [if_pos q] at hst
          exact ⟨_, _, ρ, hst, List.mem_cons_self, sx_mk g gL wL h4 (sx_wS_tl (sx_wS_tl wS)), rf, rfl⟩
        · rw [if_neg q] at hst
          exact ⟨_, _, ρ, hst, List.mem_cons_of_mem _ List.mem_cons_self, sx_mk g gL wL h4 (sx_wS_tl (sx_wS_tl wS)), rf, rfl⟩
      · cases h
    · cases h
  · split at h
    · rename_i y r
      cases h
      obtain ⟨w, rfl, h2⟩ := sx_inv_r gS
      cases hy : y.2.2.2
      · exact ⟨_, _, ρ, rfl, List.mem_singleton.mpr rfl, sx_mk g gL wL h2 (sx_wS_tl wS), rf, rfl⟩
      · exact ⟨_, _, ρ, rfl, List.mem_singleton.mpr rfl, sx_mk g gL wL h2 (sx_wS_tl wS), rf, rfl⟩
    · cases h
  · split at h
    · rename_i y r
      cases h
      obtain ⟨w, rfl, h2⟩ := sx_inv_r gS
      cases hy : y.2.2.2
      · exact ⟨_, _, ρ, rfl, List.mem_singleton.mpr rfl, sx_mk g gL wL h2 (sx_wS_tl wS), rf, rfl⟩
      · exact ⟨_, _, ρ, rfl, List.mem_singleton.mpr rfl, sx_mk g gL wL h2 (sx_wS_tl wS), rf, rfl⟩
    · cases h
  · split at h
    · rename_i ht
      cases h
      exact ⟨_, _, ρ, rfl, List.mem_singleton.mpr rfl, sx_mk g gL wL ⟨(rfl : (none : Option (Nat × Nat)) = none), gS⟩ (sx_wS_cons ht wS), rf, rfl⟩
    · cases h
  · cases h
end SJ
