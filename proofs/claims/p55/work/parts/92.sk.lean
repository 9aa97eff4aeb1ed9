/-! symbolic steps: references that may change, fields of longs -/
def sx_lookN (r : Nat × Nat × Nat) (d : Nat) : List (((Nat × Nat × Nat) × Nat) × Nat × Nat) → Option (Nat × Nat)
  | [] => none
  | q :: m => if q.1.1 = r && q.1.2 = d then some q.2 else sx_lookN r d m
theorem sx_lookN_mem {r : Nat × Nat × Nat} {d : Nat} {e : Nat × Nat} : ∀ {m : List (((Nat × Nat × Nat) × Nat) × Nat × Nat)}, sx_lookN r d m = some e → ((r, d), e) ∈ m
  | [], h => by cases h
  | q :: m, h => by
    unfold sx_lookN at h
    split at h
    · rename_i c
      simp only [Bool.and_eq_true, decide_eq_true_eq] at c
      cases h
      obtain ⟨⟨q1, q2⟩, q3⟩ := q
      obtain ⟨rfl, rfl⟩ := c
      exact List.mem_cons_self
    · exact List.mem_cons_of_mem _ (sx_lookN_mem h)
def sx_drN (b d : Nat) (m : sx_N) : sx_N := (m.1.filter fun q => !(q.1.1.1 = b && q.1.2 = d), m.2)
def sx_st5 (E : ai_E) (x : sm_I) (a : sx_C) : Option (List sx_C) := match x, a with
  | (op, _, _, b, d, _), (pc, aL, st, m, nn, iv, fs, k, t) => match op with
    | 23 => match st with
      | .inr (.inr (t0, tk, of, false)) :: r => if t0 = b && (sh_fk b d).1 = 2 then match sx_lookN (t0, tk, of) d nn.1 with
          | some q => some [(pc + 3, aL, .inr (.inr ((sh_fk b d).2.1, q.1, q.2, false)) :: r, m, nn, iv, fs, k, t)]
          | none => some [(pc + 3, aL, .inr (.inr ((sh_fk b d).2.1, t, 0, false)) :: r, m, ((((t0, tk, of), d), (t, 0)) :: nn.1, nn.2), iv, fs, k, t + 1), (pc + 3, aL, .inr (.inr ((sh_fk b d).2.1, tk, 0, true)) :: r, m, nn, iv, fs, k, t)]
        else none
      | _ => none
    | 26 => match st with
      | .inr (.inr (_, _, _, true)) :: .inr (.inr (t0, _, _, false)) :: r => if t0 = b && E.2.2.2.2 b d then some [(pc + 3, aL, r, m, sx_drN b d nn, iv, fs, k, t)] else none
      | .inr (.inr (u, uk, uo, false)) :: .inr (.inr (t0, tk, of, false)) :: r => if t0 = b && u = (sh_fk b d).2.1 && E.2.2.2.2 b d then some [(pc + 3, aL, r, m, ((((t0, tk, of), d), (uk, uo)) :: (sx_drN b d nn).1, nn.2), iv, fs, k, t)] else none
      | _ => none
    | 27 => match st with
      | .inr (.inl _) :: .inr (.inr (t0, _, _, false)) :: r => if t0 = b && (sh_fk b d).1 = 3 && E.2.2.1 b d then some [(pc + 3, aL, r, sx_dr b d m, nn, iv, fs, k, t)] else none
      | _ => none
    | _ => none
theorem ai_fr_pR {W : ai_W} {S : sm_S} {t i k : Nat} {y : Option Nat} (h : W.2.2 t k = true) : ai_fr W S (sm_pR S t i k y) := ⟨fun _ _ _ _ => rfl, fun t' i' k' q => sm_up_ne (fun g => by obtain ⟨rfl, rfl, rfl⟩ := g; rw [h] at q; cases q), fun _ _ _ _ => ⟨rfl, rfl⟩⟩
section SK
variable {ρ : Nat → Int} {τ : Nat → Nat}
theorem sx_drN_g {S : sm_S} {m : sx_N} {b i d : Nat} {z : Option Nat} (h : sx_gN ρ τ S m) : sx_gN ρ τ (sm_pR S b i d z) (sx_drN b d m) := by
  refine ⟨fun q hq => ?_, h.2⟩
  obtain ⟨h1, h2⟩ := List.mem_filter.mp hq
  rw [← h.1 q h1]
  refine sm_up_ne (fun g => ?_)
  obtain ⟨g1, -, g3⟩ := g
  simp [g1, g3] at h2
theorem sx_drN_w {n t b d : Nat} {m : sx_N} (h : sx_wN n t m) : sx_wN n t (sx_drN b d m) := ⟨fun q hq => h.1 q (List.mem_filter.mp hq).1, h.2⟩
theorem sx_st5_g {E : ai_E} {x : sm_I} {a : sx_C} {cs : List sx_C} {c : sm_C} (h : sx_st5 E x a = some cs) (g : sx_gC ρ τ a c) (hG : ai_GI E.1 E.2.1 c.2.2.2) : ∃ c1 a1 τ', sm_stp x c.1 c.2.1 c.2.2.1 c.2.2.2 = some c1 ∧ a1 ∈ cs ∧ sx_gC ρ τ' a1 c1 ∧ sx_lk a.2.2.2.2.2.1.length a.2.2.2.2.2.2.2.2 ρ ρ τ τ' ∧ ai_GI E.1 E.2.1 c1.2.2.2 ∧ ai_fr E.2.2 c.2.2.2 c1.2.2.2 := by
  obtain ⟨op, n, p, b, d, z⟩ := x
  obtain ⟨pc, aL, st, m, nn, iv, fs, k, t⟩ := a
  obtain ⟨pc0, L, vs, S⟩ := c
  obtain ⟨rfl, ⟨gL, wL⟩, ⟨gS, wS⟩, ⟨gM, wM⟩, ⟨gN, wN⟩, gi, gf, gk, wk⟩ := id g
  have rf : sx_lk iv.length t ρ ρ τ τ := ⟨fun _ _ => rfl, fun _ _ => rfl⟩
  unfold sx_st5 at h
  dsimp only at h ⊢ gL gS gM gN hG
  split at h
  · split at h
    · rename_i t0 tk of r
      split at h
      · rename_i hc
        simp only [Bool.and_eq_true, decide_eq_true_eq] at hc
        obtain ⟨rfl, hk⟩ := hc
        obtain ⟨w, rfl, g2⟩ := sx_inv_n gS
        have wt : tk < t := sx_wS_hd wS
        have hst : sm_stp (23, n, p, t0, d, z) pc L (.inr (.inr (some (t0, τ tk + of))) :: w) S = some (pc + 3, L, sm_fu S t0 (τ tk + of) d :: w, S) := by
          simp only [sm_stp]
          exact if_pos trivial
        have hfu : sm_fu S t0 (τ tk + of) d = .inr (.inr ((S.2.1 t0 (τ tk + of) d).map fun j => ((sh_fk t0 d).2.1, j))) := by
          unfold sm_fu
          rw [hk]
          rfl
        rw [hfu] at hst
        split at h
        · rename_i q hq
          cases h
          have hm := sx_lookN_mem hq
          have hv := gN.1 _ hm
          dsimp only at hv
          rw [hv] at hst
          exact ⟨_, _, τ, hst, List.mem_singleton.mpr rfl, ⟨rfl, ⟨gL, wL⟩, ⟨⟨rfl, g2⟩, sx_wS_cons (wN.1 _ hm).2 (sx_wS_tl wS)⟩, ⟨gM, wM⟩, ⟨gN, wN⟩, gi, gf, gk, wk⟩, rf, hG, ai_fr_rf⟩
        · cases h
          cases hj : S.2.1 t0 (τ tk + of) d with
          | none =>
            rw [hj] at hst
            exact ⟨_, _, τ, hst, List.mem_cons_of_mem _ List.mem_cons_self, ⟨rfl, ⟨gL, wL⟩, ⟨⟨rfl, g2⟩, sx_wS_cons wt (sx_wS_tl wS)⟩, ⟨gM, wM⟩, ⟨gN, wN⟩, gi, gf, gk, wk⟩, rf, hG, ai_fr_rf⟩
          | some j =>
            rw [hj] at hst
            obtain ⟨τ', l1, l2, ⟨-, ⟨gL', wL'⟩, ⟨gS', wS'⟩, ⟨gM', wM'⟩, ⟨gN', wN'⟩, gi', gf', gk', wk'⟩⟩ := sx_token g j
            have e1 : τ' tk = τ tk := l1.2 tk wt
            refine ⟨_, _, τ', hst, List.mem_cons_self, ⟨rfl, ⟨gL', wL'⟩, ⟨⟨?_, gS'.2⟩, sx_wS_cons (Nat.lt_succ_self t) (sx_wS_tl wS')⟩, ⟨gM', wM'⟩, ⟨⟨fun q hq => ?_, gN'.2⟩, ⟨fun q hq => ?_, wN'.2⟩⟩, gi', gf', gk', wk'⟩, l1, hG, ai_fr_rf⟩
            · show some ((sh_fk t0 d).2.1, j) = some ((sh_fk t0 d).2.1, τ' t + 0)
              rw [l2]
              rfl
            · rcases List.mem_cons.mp hq with rfl | hq
              · show S.2.1 t0 (τ' tk + of) d = some (τ' t + 0)
                rw [e1, hj, l2]
                rfl
              · exact gN'.1 q hq
            · rcases List.mem_cons.mp hq with rfl | hq
              · exact ⟨Nat.lt_succ_of_lt wt, Nat.lt_succ_self t⟩
              · exact wN'.1 q hq
      · cases h
    · cases h
  · split at h
    · rename_i t0 tk of r
      split at h
      · rename_i hc
        simp only [Bool.and_eq_true, decide_eq_true_eq] at hc
        obtain ⟨rfl, c2⟩ := hc
        cases h
        obtain ⟨w, rfl, g2⟩ := sx_inv_r gS
        obtain ⟨w, rfl, g4⟩ := sx_inv_n g2
        have hst : sm_stp (26, n, p, t0, d, z) pc L (.inr (.inr none) :: .inr (.inr (some (t0, τ tk + of))) :: w) S = some (pc + 3, L, w, sm_pR S t0 (τ tk + of) d none) := by
          simp only [sm_stp]
          exact if_pos trivial
        exact ⟨_, _, τ, hst, List.mem_singleton.mpr rfl, ⟨rfl, ⟨gL, wL⟩, ⟨g4, sx_wS_tl (sx_wS_tl wS)⟩, ⟨gM, wM⟩, ⟨sx_drN_g gN, sx_drN_w wN⟩, gi, gf, gk, wk⟩, rf, hG, ai_fr_pR c2⟩
      · cases h
    · rename_i u uk uo t0 tk of r
      split at h
      · rename_i hc
        simp only [Bool.and_eq_true, decide_eq_true_eq] at hc
        obtain ⟨⟨rfl, rfl⟩, c2⟩ := hc
        cases h
        obtain ⟨w, rfl, g2⟩ := sx_inv_n gS
        obtain ⟨w, rfl, g4⟩ := sx_inv_n g2
        have wu : uk < t := sx_wS_hd wS
        have wt : tk < t := sx_wS_hd (sx_wS_tl wS)
        refine ⟨_, _, τ, by simp only [sm_stp]; exact if_pos (by simp), List.mem_singleton.mpr rfl, ⟨rfl, ⟨gL, wL⟩, ⟨g4, sx_wS_tl (sx_wS_tl wS)⟩, ⟨gM, wM⟩, ⟨⟨fun q hq => ?_, gN.2⟩, ⟨fun q hq => ?_, wN.2⟩⟩, gi, gf, gk, wk⟩, rf, hG, ai_fr_pR c2⟩
        · rcases List.mem_cons.mp hq with rfl | hq
          · exact if_pos ⟨rfl, rfl, rfl⟩
          · exact (sx_drN_g gN).1 q hq
        · rcases List.mem_cons.mp hq with rfl | hq
          · exact ⟨wt, wu⟩
          · exact (sx_drN_w wN).1 q hq
      · cases h
    · cases h
  · split at h
    · rename_i t0 tk of r
      split at h
      · rename_i hc
        simp only [Bool.and_eq_true, decide_eq_true_eq] at hc
        obtain ⟨⟨rfl, hk⟩, c2⟩ := hc
        cases h
        obtain ⟨y, w, rfl, g2⟩ := sx_inv_l gS
        obtain ⟨w, rfl, g4⟩ := sx_inv_n g2
        exact ⟨_, _, τ, by simp only [sm_stp]; exact if_pos trivial, List.mem_singleton.mpr rfl, ⟨rfl, ⟨gL, wL⟩, ⟨g4, sx_wS_tl (sx_wS_tl wS)⟩, ⟨sx_dr_g gM, fun q hq => wM q (List.mem_filter.mp hq).1⟩, ⟨gN, wN⟩, gi, gf, gk, wk⟩, rf, ai_GI_pJ hG hk, ai_fr_pI c2⟩
      · cases h
    · cases h
  · cases h
end SK
