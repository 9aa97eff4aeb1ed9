/-! symbolic steps: arrays -/
def sx_ix (iv : sx_I) (fs : List sx_E) (t : Nat) (e : sx_E) : Bool := sx_in iv fs e (0, ((sh_kd t).2.2 : Int) - 1)
def sx_st6 (E : ai_E) (x : sm_I) (a : sx_C) : Option (List sx_C) := match x, a with
  | (op, _, _, _, _, _), (pc, aL, st, m, nn, iv, fs, k, t) => match op with
    | 28 => match st with
      | .inl e :: .inr (.inr (t0, _, _, false)) :: r => if (sh_kd t0).1 = 1 && (sh_kd t0).2.1 = 0 && sx_ix iv fs t0 e then some [(pc + 1, aL, .inl (sx_a iv.length) :: r, m, nn, iv ++ [E.2.1 t0], fs, k, t)] else none
      | _ => none
    | 29 => match st with
      | .inl e :: .inr (.inr (t0, _, _, false)) :: r => if (sh_kd t0).1 = 2 && (sh_kd t0).2.1 = 1 && sx_ix iv fs t0 e then some [(pc + 1, aL, .inl (sx_a iv.length) :: r, m, nn, iv ++ [E.2.1 t0], fs, k, t)] else none
      | _ => none
    | 30 => match st with
      | .inl e :: .inr (.inr (t0, _, _, false)) :: r => if (sh_kd t0).1 = 3 && (sh_kd t0).2.1 = 2 && sx_ix iv fs t0 e then some [(pc + 1, aL, .inl (sx_a iv.length) :: r, m, nn, iv ++ [E.2.1 t0], fs, k, t)] else none
      | _ => none
    | 31 => match st with
      | .inl e :: .inr (.inr (t0, _, _, false)) :: r => if (sh_kd t0).1 = 4 && (sh_kd t0).2.1 = 3 && sx_ix iv fs t0 e then some [(pc + 1, aL, .inr (.inl ()) :: r, m, nn, iv, fs, k, t)] else none
      | _ => none
    | 32 => match st with
      | .inl e :: .inr (.inr (t0, _, _, false)) :: r => if (sh_kd t0).1 = 5 && sx_ix iv fs t0 e then some [(pc + 1, aL, .inr (.inr (sh_rk t0, t, 0, false)) :: r, m, nn, iv, fs, k, t + 1)] else none
      | _ => none
    | 33 => match st with
      | .inl v :: .inl e :: .inr (.inr (t0, _, _, false)) :: r => if (sh_kd t0).1 = 1 && (sh_kd t0).2.1 = 0 && sx_ix iv fs t0 e && sx_in iv fs v (E.2.1 t0) && E.2.2.2.1 t0 then some [(pc + 1, aL, r, m, nn, iv, fs, k, t)] else none
      | _ => none
    | 34 => match st with
      | .inl _ :: .inl e :: .inr (.inr (t0, _, _, false)) :: r => if (sh_kd t0).1 = 2 && (sh_kd t0).2.1 = 1 && sx_ix iv fs t0 e && decide ((E.2.1 t0).1 ≤ -128) && decide (127 ≤ (E.2.1 t0).2) && E.2.2.2.1 t0 then some [(pc + 1, aL, r, m, nn, iv, fs, k, t)] else none
      | _ => none
    | 35 => match st with
      | .inl _ :: .inl e :: .inr (.inr (t0, _, _, false)) :: r => if (sh_kd t0).1 = 3 && (sh_kd t0).2.1 = 2 && sx_ix iv fs t0 e && decide ((E.2.1 t0).1 ≤ 0) && decide (1 ≤ (E.2.1 t0).2) && E.2.2.2.1 t0 then some [(pc + 1, aL, r, m, nn, iv, fs, k, t)] else none
      | _ => none
    | 36 => match st with
      | .inr (.inl _) :: .inl e :: .inr (.inr (t0, _, _, false)) :: r => if (sh_kd t0).1 = 4 && (sh_kd t0).2.1 = 3 && sx_ix iv fs t0 e && E.2.2.2.1 t0 then some [(pc + 1, aL, r, m, nn, iv, fs, k, t)] else none
      | _ => none
    | 37 => match st with
      | .inr (.inr (t0, _, _, false)) :: r => if 1 ≤ (sh_kd t0).1 && (sh_kd t0).1 ≤ 5 then some [(pc + 1, aL, .inl (sx_c ((sh_kd t0).2.2 : Int)) :: r, m, nn, iv, fs, k, t)] else none
      | _ => none
    | _ => none
section SL
variable {ρ : Nat → Int} {τ : Nat → Nat}
theorem sx_ix_g {iv : sx_I} {fs : List sx_E} {t : Nat} {e : sx_E} (h : sx_iv ρ iv) (hf : sx_fs ρ iv.length fs) (he : sx_wf iv.length e) (hi : sx_ix iv fs t e = true) : 0 ≤ sx_ev ρ e ∧ sx_ev ρ e < (sh_kd t).2.2 := by
  have h1 := sx_in_g h hf he hi
  dsimp only at h1
  omega
/-- arrays hold no part of the memory -/
theorem sx_gC_S {pc pc' t : Nat} {aL : sx_L} {st : List sx_V} {m : sx_M} {nn : sx_N} {iv : sx_I} {fs : List sx_E} {k : sx_K} {L : sm_L} {vs : List sm_V} {S S' : sm_S} (g : sx_gC ρ τ (pc, aL, st, m, nn, iv, fs, k, t) (pc', L, vs, S)) (h1 : S'.1 = S.1) (h2 : S'.2.1 = S.2.1) : sx_gC ρ τ (pc, aL, st, m, nn, iv, fs, k, t) (pc', L, vs, S') := by
  obtain ⟨e, gL, gS, ⟨gM, wM⟩, ⟨gN, wN⟩, g1⟩ := g
  refine ⟨e, gL, gS, ⟨fun q hq => ?_, wM⟩, ⟨fun q hq => ?_, wN⟩, g1⟩
  · dsimp only
    rw [h1]
    exact gM q hq
  · dsimp only
    rw [h2]
    exact gN q hq
theorem sx_st6_g {E : ai_E} {x : sm_I} {a : sx_C} {cs : List sx_C} {c : sm_C} (h : sx_st6 E x a = some cs) (g : sx_gC ρ τ a c) (hG : ai_GI E.1 E.2.1 c.2.2.2) : ∃ c1 a1 ρ' τ', sm_stp x c.1 c.2.1 c.2.2.1 c.2.2.2 = some c1 ∧ a1 ∈ cs ∧ sx_gC ρ' τ' a1 c1 ∧ sx_lk a.2.2.2.2.2.1.length a.2.2.2.2.2.2.2.2 ρ ρ' τ τ' ∧ ai_GI E.1 E.2.1 c1.2.2.2 ∧ ai_fr E.2.2 c.2.2.2 c1.2.2.2 := by
  obtain ⟨op, n, p, b, d, z⟩ := x
  obtain ⟨pc, aL, st, m, nn, iv, fs, k, t⟩ := a
  obtain ⟨pc0, L, vs, S⟩ := c
  obtain ⟨rfl, ⟨gL, wL⟩, ⟨gS, wS⟩, gM, gN, gi, gf, gk⟩ := id g
  have rf : sx_lk iv.length t ρ ρ τ τ := ⟨fun _ _ => rfl, fun _ _ => rfl⟩
  unfold sx_st6 at h
  dsimp only at h ⊢ gL gS hG
  split at h
  · split at h
    · rename_i e t0 tk of r
      split at h
      · rename_i hc
        simp only [Bool.and_eq_true, decide_eq_true_eq] at hc
        obtain ⟨⟨c1, c2⟩, c3⟩ := hc
        cases h
        obtain ⟨w, rfl, g2⟩ := sx_inv_i gS
        obtain ⟨w, rfl, g4⟩ := sx_inv_n g2
        have hi := sx_ix_g gi gf (sx_wS_hd wS) c3
        have hv := hG.2 t0 (τ tk + of) (sx_ev ρ e).toNat
        obtain ⟨ρ', q1, q2⟩ := sx_pushI (pc' := pc + 1) g g4 (sx_wS_tl (sx_wS_tl wS)) hv.1 hv.2
        exact ⟨(pc + 1, L, .inl (S.2.2.1 t0 (τ tk + of) (sx_ev ρ e).toNat) :: w, S), _, ρ', τ, by simp only [sm_stp]; rw [if_pos (by simp only [Bool.and_eq_true, decide_eq_true_eq]; exact ⟨⟨⟨c1, c2⟩, hi.1⟩, hi.2⟩)], List.mem_singleton.mpr rfl, q1, q2, hG, ai_fr_rf⟩
      · cases h
    · cases h
  · split at h
    · rename_i e t0 tk of r
      split at h
      · rename_i hc
        simp only [Bool.and_eq_true, decide_eq_true_eq] at hc
        obtain ⟨⟨c1, c2⟩, c3⟩ := hc
        cases h
        obtain ⟨w, rfl, g2⟩ := sx_inv_i gS
        obtain ⟨w, rfl, g4⟩ := sx_inv_n g2
        have hi := sx_ix_g gi gf (sx_wS_hd wS) c3
        have hv := hG.2 t0 (τ tk + of) (sx_ev ρ e).toNat
        obtain ⟨ρ', q1, q2⟩ := sx_pushI (pc' := pc + 1) g g4 (sx_wS_tl (sx_wS_tl wS)) hv.1 hv.2
        exact ⟨(pc + 1, L, .inl (S.2.2.1 t0 (τ tk + of) (sx_ev ρ e).toNat) :: w, S), _, ρ', τ, by simp only [sm_stp]; rw [if_pos (by simp only [Bool.and_eq_true, decide_eq_true_eq]; exact ⟨⟨⟨c1, c2⟩, hi.1⟩, hi.2⟩)], List.mem_singleton.mpr rfl, q1, q2, hG, ai_fr_rf⟩
      · cases h
    · cases h
  · split at h
    · rename_i e t0 tk of r
      split at h
      · rename_i hc
        simp only [Bool.and_eq_true, decide_eq_true_eq] at hc
        obtain ⟨⟨c1, c2⟩, c3⟩ := hc
        cases h
        obtain ⟨w, rfl, g2⟩ := sx_inv_i gS
        obtain ⟨w, rfl, g4⟩ := sx_inv_n g2
        have hi := sx_ix_g gi gf (sx_wS_hd wS) c3
        have hv := hG.2 t0 (τ tk + of) (sx_ev ρ e).toNat
        obtain ⟨ρ', q1, q2⟩ := sx_pushI (pc' := pc + 1) g g4 (sx_wS_tl (sx_wS_tl wS)) hv.1 hv.2
        exact ⟨(pc + 1, L, .inl (S.2.2.1 t0 (τ tk + of) (sx_ev ρ e).toNat) :: w, S), _, ρ', τ, by simp only [sm_stp]; rw [if_pos (by simp only [Bool.and_eq_true, decide_eq_true_eq]; exact ⟨⟨⟨c1, c2⟩, hi.1⟩, hi.2⟩)], List.mem_singleton.mpr rfl, q1, q2, hG, ai_fr_rf⟩
      · cases h
    · cases h
  · split at h
    · rename_i e t0 tk of r
      split at h
      · rename_i hc
        simp only [Bool.and_eq_true, decide_eq_true_eq] at hc
        obtain ⟨⟨c1, c2⟩, c3⟩ := hc
        cases h
        obtain ⟨w, rfl, g2⟩ := sx_inv_i gS
        obtain ⟨w, rfl, g4⟩ := sx_inv_n g2
        have hi := sx_ix_g gi gf (sx_wS_hd wS) c3
        exact ⟨(pc + 1, L, .inr (.inl (S.2.2.2 t0 (τ tk + of) (sx_ev ρ e).toNat)) :: w, S), _, ρ, τ, by simp only [sm_stp]; rw [if_pos (by simp only [Bool.and_eq_true, decide_eq_true_eq]; exact ⟨⟨⟨c1, c2⟩, hi.1⟩, hi.2⟩)], List.mem_singleton.mpr rfl, sx_mk g gL wL ⟨trivial, g4⟩ (sx_wS_cons trivial (sx_wS_tl (sx_wS_tl wS))), rf, hG, ai_fr_rf⟩
      · cases h
    · cases h
  · split at h
    · rename_i e t0 tk of r
      split at h
      · rename_i hc
        simp only [Bool.and_eq_true, decide_eq_true_eq] at hc
        obtain ⟨c1, c3⟩ := hc
        cases h
        obtain ⟨w, rfl, g2⟩ := sx_inv_i gS
        obtain ⟨w, rfl, g4⟩ := sx_inv_n g2
        have hi := sx_ix_g gi gf (sx_wS_hd wS) c3
        obtain ⟨τ', l1, l2, ⟨-, ⟨gL', wL'⟩, ⟨gS', wS'⟩, g5⟩⟩ := sx_token (sx_mk (pc' := pc + 1) g gL wL g4 (sx_wS_tl (sx_wS_tl wS))) (sx_ev ρ e).toNat
        refine ⟨(pc + 1, L, .inr (.inr (some (sh_rk t0, (sx_ev ρ e).toNat))) :: w, S), _, ρ, τ', by simp only [sm_stp]; rw [if_pos (by simp only [Bool.and_eq_true, decide_eq_true_eq]; exact ⟨⟨c1, hi.1⟩, hi.2⟩)], List.mem_singleton.mpr rfl, ⟨rfl, ⟨gL', wL'⟩, ⟨⟨?_, gS'⟩, sx_wS_cons (Nat.lt_succ_self t) wS'⟩, g5⟩, l1, hG, ai_fr_rf⟩
        show some (sh_rk t0, (sx_ev ρ e).toNat) = some (sh_rk t0, τ' t + 0)
        rw [l2]
        rfl
      · cases h
    · cases h
  · split at h
    · rename_i v e t0 tk of r
      split at h
      · rename_i hc
        simp only [Bool.and_eq_true, decide_eq_true_eq] at hc
        obtain ⟨⟨⟨⟨c1, c2⟩, c3⟩, c4⟩, c5⟩ := hc
        cases h
        obtain ⟨w, rfl, g2⟩ := sx_inv_i gS
        obtain ⟨w, rfl, g3⟩ := sx_inv_i g2
        obtain ⟨w, rfl, g4⟩ := sx_inv_n g3
        have hi := sx_ix_g gi gf (sx_wS_hd (sx_wS_tl wS)) c3
        have hv := sx_in_g gi gf (sx_wS_hd wS) c4
        exact ⟨(pc + 1, L, w, sm_aI S t0 (τ tk + of) (sx_ev ρ e).toNat (sx_ev ρ v)), _, ρ, τ, by simp only [sm_stp]; rw [if_pos (by simp only [Bool.and_eq_true, decide_eq_true_eq]; exact ⟨⟨⟨c1, c2⟩, hi.1⟩, hi.2⟩)], List.mem_singleton.mpr rfl, sx_gC_S (sx_mk g gL wL g4 (sx_wS_tl (sx_wS_tl (sx_wS_tl wS)))) rfl rfl, rf, ai_GI_aI hG hv, ai_fr_aI c5⟩
      · cases h
    · cases h
  · split at h
    · rename_i v e t0 tk of r
      split at h
      · rename_i hc
        simp only [Bool.and_eq_true, decide_eq_true_eq] at hc
        obtain ⟨⟨⟨⟨⟨c1, c2⟩, c3⟩, c4⟩, c6⟩, c5⟩ := hc
        cases h
        obtain ⟨w, rfl, g2⟩ := sx_inv_i gS
        obtain ⟨w, rfl, g3⟩ := sx_inv_i g2
        obtain ⟨w, rfl, g4⟩ := sx_inv_n g3
        have hi := sx_ix_g gi gf (sx_wS_hd (sx_wS_tl wS)) c3
        have hv := ai_nar_b (Int32.ofInt (sx_ev ρ v))
        exact ⟨(pc + 1, L, w, sm_aI S t0 (τ tk + of) (sx_ev ρ e).toNat (vp_nar .byte (Int32.ofInt (sx_ev ρ v))).toInt), _, ρ, τ, by simp only [sm_stp]; rw [if_pos (by simp only [Bool.and_eq_true, decide_eq_true_eq]; exact ⟨⟨⟨c1, c2⟩, hi.1⟩, hi.2⟩)], List.mem_singleton.mpr rfl, sx_gC_S (sx_mk g gL wL g4 (sx_wS_tl (sx_wS_tl (sx_wS_tl wS)))) rfl rfl, rf, ai_GI_aI hG ⟨by omega, by omega⟩, ai_fr_aI c5⟩
      · cases h
    · cases h
  · split at h
    · rename_i v e t0 tk of r
      split at h
      · rename_i hc
        simp only [Bool.and_eq_true, decide_eq_true_eq] at hc
        obtain ⟨⟨⟨⟨⟨c1, c2⟩, c3⟩, c4⟩, c6⟩, c5⟩ := hc
        cases h
        obtain ⟨w, rfl, g2⟩ := sx_inv_i gS
        obtain ⟨w, rfl, g3⟩ := sx_inv_i g2
        obtain ⟨w, rfl, g4⟩ := sx_inv_n g3
        have hi := sx_ix_g gi gf (sx_wS_hd (sx_wS_tl wS)) c3
        have hv := ai_nar_z (Int32.ofInt (sx_ev ρ v))
        exact ⟨(pc + 1, L, w, sm_aI S t0 (τ tk + of) (sx_ev ρ e).toNat (vp_nar .boolean (Int32.ofInt (sx_ev ρ v))).toInt), _, ρ, τ, by simp only [sm_stp]; rw [if_pos (by simp only [Bool.and_eq_true, decide_eq_true_eq]; exact ⟨⟨⟨c1, c2⟩, hi.1⟩, hi.2⟩)], List.mem_singleton.mpr rfl, sx_gC_S (sx_mk g gL wL g4 (sx_wS_tl (sx_wS_tl (sx_wS_tl wS)))) rfl rfl, rf, ai_GI_aI hG ⟨by omega, by omega⟩, ai_fr_aI c5⟩
      · cases h
    · cases h
  · split at h
    · rename_i e t0 tk of r
      split at h
      · rename_i hc
        simp only [Bool.and_eq_true, decide_eq_true_eq] at hc
        obtain ⟨⟨⟨c1, c2⟩, c3⟩, c5⟩ := hc
        cases h
        obtain ⟨y, w, rfl, g2⟩ := sx_inv_l gS
        obtain ⟨w, rfl, g3⟩ := sx_inv_i g2
        obtain ⟨w, rfl, g4⟩ := sx_inv_n g3
        have hi := sx_ix_g gi gf (sx_wS_hd (sx_wS_tl wS)) c3
        exact ⟨(pc + 1, L, w, sm_aL S t0 (τ tk + of) (sx_ev ρ e).toNat y), _, ρ, τ, by simp only [sm_stp]; rw [if_pos (by simp only [Bool.and_eq_true, decide_eq_true_eq]; exact ⟨⟨⟨c1, c2⟩, hi.1⟩, hi.2⟩)], List.mem_singleton.mpr rfl, sx_gC_S (sx_mk g gL wL g4 (sx_wS_tl (sx_wS_tl (sx_wS_tl wS)))) rfl rfl, rf, hG, ai_fr_aL c5⟩
      · cases h
    · cases h
  · split at h
    · rename_i t0 tk of r
      split at h
      · rename_i hc
        simp only [Bool.and_eq_true, decide_eq_true_eq] at hc
        cases h
        obtain ⟨w, rfl, g2⟩ := sx_inv_n gS
        exact ⟨(pc + 1, L, .inl ((sh_kd t0).2.2 : Int) :: w, S), _, ρ, τ, by simp only [sm_stp]; rw [if_pos (by simp only [Bool.and_eq_true, decide_eq_true_eq]; exact hc)], List.mem_singleton.mpr rfl, sx_mk g gL wL ⟨sx_c_ev ρ _, g2⟩ (sx_wS_cons (sx_c_wf _ _) (sx_wS_tl wS)), rf, hG, ai_fr_rf⟩
      · cases h
    · cases h
  · cases h
end SL
