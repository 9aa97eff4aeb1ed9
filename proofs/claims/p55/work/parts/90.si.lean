/-! symbolic steps: fields of ints -/
def sx_look (r : Nat × Nat × Nat) (d : Nat) : sx_M → Option sx_E
  | [] => none
  | q :: m => if q.1.1 = r && q.1.2 = d then some q.2 else sx_look r d m
theorem sx_look_mem {r : Nat × Nat × Nat} {d : Nat} {e : sx_E} : ∀ {m : sx_M}, sx_look r d m = some e → ((r, d), e) ∈ m
  | [], h => by cases h
  | q :: m, h => by
    unfold sx_look at h
    split at h
    · rename_i c
      simp only [Bool.and_eq_true, decide_eq_true_eq] at c
      cases h
      obtain ⟨⟨q1, q2⟩, q3⟩ := q
      obtain ⟨rfl, rfl⟩ := c
      exact List.mem_cons_self
    · exact List.mem_cons_of_mem _ (sx_look_mem h)
def sx_in (iv : sx_I) (fs : List sx_E) (e : sx_E) (g : Int × Int) : Bool := decide (g.1 ≤ sx_low iv fs e) && decide (sx_hi iv fs e ≤ g.2)
def sx_dr (b d : Nat) (m : sx_M) : sx_M := m.filter fun q => !(q.1.1.1 = b && q.1.2 = d)
def sx_st3 (E : ai_E) (x : sm_I) (a : sx_C) : Option (List sx_C) := match x, a with
  | (op, _, _, b, d, _), (pc, aL, st, m, nn, iv, fs, k, t) => match op with
    | 23 => match st with
      | .inr (.inr (t0, tk, of, false)) :: r => if t0 = b then match (sh_fk b d).1 with
        | 0 => match sx_look (t0, tk, of) d m with
          | some e => some [(pc + 3, aL, .inl e :: r, m, nn, iv, fs, k, t)]
          | none => some [(pc + 3, aL, .inl (sx_a iv.length) :: r, (((t0, tk, of), d), sx_a iv.length) :: m, nn, iv ++ [E.1 b d], fs, k, t)]
        | 3 => some [(pc + 3, aL, .inr (.inl ()) :: r, m, nn, iv, fs, k, t)]
        | 1 => some [(pc + 3, aL, .inr (.inr ((sh_fk b d).2.1, tk, of + (sh_fk b d).2.2, false)) :: r, m, nn, iv, fs, k, t)]
        | _ => none
        else none
      | _ => none
    | 24 => match st with
      | .inl e :: .inr (.inr (t0, tk, of, false)) :: r => if t0 = b && sx_in iv fs e (E.1 b d) && E.2.2.1 b d then some [(pc + 3, aL, r, (((t0, tk, of), d), e) :: sx_dr b d m, nn, iv, fs, k, t)] else none
      | _ => none
    | 25 => match st with
      | .inl e :: .inr (.inr (t0, tk, of, false)) :: r => if t0 = b && sx_in iv fs e (E.1 b d) && sx_in iv fs e (0, 1) && E.2.2.1 b d then some [(pc + 3, aL, r, (((t0, tk, of), d), e) :: sx_dr b d m, nn, iv, fs, k, t)] else none
      | _ => none
    | _ => none
section SI
variable {ρ : Nat → Int} {τ : Nat → Nat}
theorem sx_in_g {iv : sx_I} {fs : List sx_E} {e : sx_E} {g : Int × Int} (h : sx_iv ρ iv) (hf : sx_fs ρ iv.length fs) (he : sx_wf iv.length e) (hi : sx_in iv fs e g = true) : g.1 ≤ sx_ev ρ e ∧ sx_ev ρ e ≤ g.2 := by
  have h1 := sx_low_le h hf he
  have h2 := sx_hi_le h hf he
  unfold sx_in at hi
  simp only [Bool.and_eq_true, decide_eq_true_eq] at hi
  omega
theorem sx_dr_g {S : sm_S} {m : sx_M} {b i d : Nat} {z : Int} (h : sx_gM ρ τ S m) : sx_gM ρ τ (sm_pI S b i d z) (sx_dr b d m) := by
  intro q hq
  obtain ⟨h1, h2⟩ := List.mem_filter.mp hq
  rw [← h q h1]
  refine sm_up_ne (fun g => ?_)
  obtain ⟨g1, -, g3⟩ := g
  simp [g1, g3] at h2
/-- a store of an int -/
theorem sx_put_g {pc t0 tk of d t : Nat} {aL : sx_L} {st r : List sx_V} {m : sx_M} {nn : sx_N} {iv : sx_I} {fs : List sx_E} {k : sx_K} {e : sx_E} {L : sm_L} {vs w : List sm_V} {S : sm_S} (g : sx_gC ρ τ (pc, aL, st, m, nn, iv, fs, k, t) (pc, L, vs, S)) (hS : sx_gS ρ τ r w) (wS : sx_wS iv.length t r) (we : sx_wf iv.length e) (wt : tk < t) : sx_gC ρ τ (pc + 3, aL, r, (((t0, tk, of), d), e) :: sx_dr t0 d m, nn, iv, fs, k, t) (pc + 3, L, w, sm_pI S t0 (τ tk + of) d (sx_ev ρ e)) := by
  obtain ⟨-, gL, -, ⟨gM, wM⟩, ⟨gN, wN⟩, g1⟩ := g
  refine ⟨rfl, gL, ⟨hS, wS⟩, ⟨fun q hq => ?_, fun q hq => ?_⟩, ⟨gN, wN⟩, g1⟩
  · rcases List.mem_cons.mp hq with rfl | hq
    · exact if_pos ⟨rfl, rfl, rfl⟩
    · exact sx_dr_g gM q hq
  · rcases List.mem_cons.mp hq with rfl | hq
    · exact ⟨wt, we⟩
    · exact wM q (List.mem_filter.mp hq).1
theorem sx_st3_g {E : ai_E} {x : sm_I} {a : sx_C} {cs : List sx_C} {c : sm_C} (h : sx_st3 E x a = some cs) (g : sx_gC ρ τ a c) (hG : ai_GI E.1 E.2.1 c.2.2.2) : ∃ c1 a1 ρ', sm_stp x c.1 c.2.1 c.2.2.1 c.2.2.2 = some c1 ∧ a1 ∈ cs ∧ sx_gC ρ' τ a1 c1 ∧ sx_lk a.2.2.2.2.2.1.length a.2.2.2.2.2.2.2.2 ρ ρ' τ τ ∧ ai_GI E.1 E.2.1 c1.2.2.2 ∧ ai_fr E.2.2 c.2.2.2 c1.2.2.2 := by
  obtain ⟨op, n, p, b, d, z⟩ := x
  obtain ⟨pc, aL, st, m, nn, iv, fs, k, t⟩ := a
  obtain ⟨pc0, L, vs, S⟩ := c
  obtain ⟨rfl, ⟨gL, wL⟩, ⟨gS, wS⟩, ⟨gM, wM⟩, gN, gi, gf, gk⟩ := id g
  have rf : sx_lk iv.length t ρ ρ τ τ := ⟨fun _ _ => rfl, fun _ _ => rfl⟩
  unfold sx_st3 at h
  dsimp only at h ⊢ gL gS gM hG
  split at h
  · split at h
    · rename_i t0 tk of r
      split at h
      · rename_i e0
        subst e0
        obtain ⟨w, rfl, g2⟩ := sx_inv_n gS
        have wt : tk < t := sx_wS_hd wS
        · have hst : sm_stp (23, n, p, t0, d, z) pc L (.inr (.inr (some (t0, τ tk + of))) :: w) S = some (pc + 3, L, sm_fu S t0 (τ tk + of) d :: w, S) := by
            simp only [sm_stp]
            exact if_pos trivial
          split at h
          · rename_i hk
            have hfu : sm_fu S t0 (τ tk + of) d = .inl (S.1 t0 (τ tk + of) d) := by
              unfold sm_fu
              rw [hk]
              rfl
            rw [hfu] at hst
            split at h
            · rename_i e he
              cases h
              have hm := sx_look_mem he
              have hv := gM _ hm
              refine ⟨_, _, ρ, hst, List.mem_singleton.mpr rfl, ⟨rfl, ⟨gL, wL⟩, ⟨⟨hv.symm, g2⟩, sx_wS_cons (wM _ hm).2 (sx_wS_tl wS)⟩, ⟨gM, wM⟩, gN, gi, gf, gk⟩, rf, hG, ai_fr_rf⟩
            · cases h
              obtain ⟨ρ', l1, l2, ⟨-, ⟨gL', wL'⟩, ⟨gS', wS'⟩, ⟨gM', wM'⟩, gN', gi', gf', gk'⟩⟩ := sx_fresh g (hG.1 t0 (τ tk + of) d hk).1 (hG.1 t0 (τ tk + of) d hk).2
              have hl : (iv ++ [((E.1 t0 d).1, (E.1 t0 d).2)]).length = iv.length + 1 := by rw [List.length_append]; rfl
              have wa : sx_wf (iv ++ [((E.1 t0 d).1, (E.1 t0 d).2)]).length (sx_a iv.length) := by rw [hl]; exact sx_a_wf (Nat.lt_succ_self _)
              refine ⟨_, _, ρ', hst, List.mem_singleton.mpr rfl, ⟨rfl, ⟨gL', wL'⟩, ⟨⟨l2, gS'.2⟩, sx_wS_cons wa (sx_wS_tl wS')⟩, ⟨fun q hq => ?_, fun q hq => ?_⟩, gN', gi', gf', gk'⟩, l1, hG, ai_fr_rf⟩
              · rcases List.mem_cons.mp hq with rfl | hq
                · exact l2.symm
                · exact gM' q hq
              · rcases List.mem_cons.mp hq with rfl | hq
                · exact ⟨wt, wa⟩
                · exact wM' q hq
          · rename_i hk
            cases h
            have hfu : sm_fu S t0 (τ tk + of) d = .inr (.inl (S.1 t0 (τ tk + of) d)) := by
              unfold sm_fu
              rw [hk]
              rfl
            rw [hfu] at hst
            exact ⟨_, _, ρ, hst, List.mem_singleton.mpr rfl, ⟨rfl, ⟨gL, wL⟩, ⟨⟨trivial, g2⟩, sx_wS_cons trivial (sx_wS_tl wS)⟩, ⟨gM, wM⟩, gN, gi, gf, gk⟩, rf, hG, ai_fr_rf⟩
          · rename_i hk
            cases h
            have hfu : sm_fu S t0 (τ tk + of) d = .inr (.inr (some ((sh_fk t0 d).2.1, (sh_fk t0 d).2.2 + (τ tk + of)))) := by
              unfold sm_fu
              rw [hk]
              rfl
            rw [hfu] at hst
            refine ⟨_, _, ρ, hst, List.mem_singleton.mpr rfl, ⟨rfl, ⟨gL, wL⟩, ⟨⟨?_, g2⟩, sx_wS_cons wt (sx_wS_tl wS)⟩, ⟨gM, wM⟩, gN, gi, gf, gk⟩, rf, hG, ai_fr_rf⟩
            show some ((sh_fk t0 d).2.1, (sh_fk t0 d).2.2 + (τ tk + of)) = some ((sh_fk t0 d).2.1, τ tk + (of + (sh_fk t0 d).2.2))
            rw [show (sh_fk t0 d).2.2 + (τ tk + of) = τ tk + (of + (sh_fk t0 d).2.2) by omega]
          · cases h
      · cases h
    · cases h
  · split at h
    · rename_i e t0 tk of r
      split at h
      · rename_i hc
        simp only [Bool.and_eq_true, decide_eq_true_eq] at hc
        obtain ⟨⟨rfl, c1⟩, c2⟩ := hc
        cases h
        obtain ⟨w, rfl, g2⟩ := sx_inv_i gS
        obtain ⟨w, rfl, g4⟩ := sx_inv_n g2
        have wt : tk < t := sx_wS_hd (sx_wS_tl wS)
        · exact ⟨_, _, ρ, by simp only [sm_stp]; exact if_pos trivial, List.mem_singleton.mpr rfl, sx_put_g g g4 (sx_wS_tl (sx_wS_tl wS)) (sx_wS_hd wS) wt, rf, ai_GI_pI hG (sx_in_g gi gf (sx_wS_hd wS) c1), ai_fr_pI c2⟩
      · cases h
    · cases h
  · split at h
    · rename_i e t0 tk of r
      split at h
      · rename_i hc
        simp only [Bool.and_eq_true, decide_eq_true_eq] at hc
        obtain ⟨⟨⟨rfl, c1⟩, c0⟩, c2⟩ := hc
        cases h
        obtain ⟨w, rfl, g2⟩ := sx_inv_i gS
        obtain ⟨w, rfl, g4⟩ := sx_inv_n g2
        have wt : tk < t := sx_wS_hd (sx_wS_tl wS)
        have h01 := sx_in_g gi gf (sx_wS_hd wS) c0
        · have hv : (decide (sx_ev ρ e = 0) || decide (sx_ev ρ e = 1)) = true := by
            simp only [Bool.or_eq_true, decide_eq_true_eq]
            dsimp only at h01
            omega
          exact ⟨_, _, ρ, by simp only [sm_stp]; exact if_pos (by rw [hv]; simp), List.mem_singleton.mpr rfl, sx_put_g g g4 (sx_wS_tl (sx_wS_tl wS)) (sx_wS_hd wS) wt, rf, ai_GI_pI hG (sx_in_g gi gf (sx_wS_hd wS) c1), ai_fr_pI c2⟩
      · cases h
    · cases h
  · cases h
end SI
