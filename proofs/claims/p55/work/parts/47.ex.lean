/-! a method is explored from one annotated place to the next ones -/
def ai_mz (L : sm_L) : ai_M → Int
  | [] => 0
  | m :: r => ai_mv L m * ai_B ^ r.length + ai_mz L r
theorem ai_B_pos (n : Nat) : 0 < ai_B ^ n := Int.pow_pos (by decide)
theorem ai_mz_b {L : sm_L} : ∀ {M : ai_M}, (∀ m ∈ M, 0 ≤ ai_mv L m ∧ ai_mv L m < ai_B) → 0 ≤ ai_mz L M ∧ ai_mz L M < ai_B ^ M.length
  | [], _ => ⟨Int.le_refl _, ai_B_pos 0⟩
  | m :: r, h => by
    have h1 := h m List.mem_cons_self
    have h2 := ai_mz_b (M := r) (fun q hq => h q (List.mem_cons_of_mem _ hq))
    have hp := ai_B_pos r.length
    show 0 ≤ ai_mv L m * ai_B ^ r.length + ai_mz L r ∧ ai_mv L m * ai_B ^ r.length + ai_mz L r < ai_B ^ (r.length + 1)
    rw [Int.pow_succ, Int.mul_comm (ai_B ^ r.length) ai_B]
    have h3 : 0 ≤ ai_mv L m * ai_B ^ r.length := Int.mul_nonneg h1.1 (Int.le_of_lt hp)
    have h4 : ai_mv L m * ai_B ^ r.length ≤ (ai_B - 1) * ai_B ^ r.length := Int.mul_le_mul_of_nonneg_right (by omega) (Int.le_of_lt hp)
    rw [Int.sub_mul, Int.one_mul] at h4
    omega
/-- bounds of a measure's number now, and how much it may have grown -/
def ai_ub (aL bL : ai_L) (q p : Int × Option (Bool × Nat)) : Option Int :=
  match (match q.2, p.2 with
    | some (s, j), some (s', j') => match aL.getD j none with
      | some (.inl i) => match i.2.2.1 with
        | some (j0, x, y) => if s = s' ∧ j0 = j' then some (if s then q.1 - p.1 + y else q.1 - p.1 - x) else none
        | none => none
      | _ => none
    | _, _ => none) with
  | some u => some u
  | none => match ai_mb aL q, ai_mb bL p with
    | some u, some v => some (u.2 - v.1)
    | _, _ => none
theorem ai_mb_gg {L0 L : sm_L} {S : sm_S} {aL : ai_L} {m : Int × Option (Bool × Nat)} {q : Int × Int} (hL : ai_gL L0 L S aL) (h : ai_mb aL m = some q) : q.1 ≤ ai_mv L m ∧ ai_mv L m ≤ q.2 := by
  refine ai_mb_g (aL := aL) ⟨hL.1, fun j b hb => ?_⟩ h
  obtain ⟨v, g1, g2⟩ := hL.2 j b hb
  refine ⟨v, g1, ai_le_g (a := b) (b := b) ?_ g2⟩
  rcases b with i | _ | r
  · simp [ai_le]
  · rfl
  · simp [ai_le]
theorem ai_ub_g {L0 L : sm_L} {S : sm_S} {aL bL : ai_L} {q p : Int × Option (Bool × Nat)} {u : Int} (hL : ai_gL L0 L S aL) (hb : ai_hL bL L0) (h : ai_ub aL bL q p = some u) : ai_mv L q - ai_mv L0 p ≤ u := by
  unfold ai_ub at h
  split at h
  · rename_i u' hu
    cases h
    split at hu
    · rename_i s j s' j' hq hp
      split at hu
      · rename_i i hi
        split at hu
        · rename_i j0 x y hr
          split at hu
          · rename_i hc
            obtain ⟨rfl, rfl⟩ := hc
            cases hu
            obtain ⟨v, g1, g2⟩ := hL.2 j _ hi
            rcases v with z | z | v
            · have g2 : ai_gI L0 L S i z := g2
              obtain ⟨z0, e1, e2, e3⟩ := g2.2.1 j0 x y hr
              unfold ai_mv
              rw [hq, hp]
              dsimp only
              rw [g1, e1]
              dsimp only
              split
              · omega
              · omega
            · exact g2.elim
            · exact g2.elim
          · cases hu
        · cases hu
      · cases hu
    · cases hu
  · split at h
    · rename_i u1 v1 e1 e2
      cases h
      have h1 := ai_mb_gg hL e1
      have h2 := ai_mb_g hb e2
      omega
    · cases h
def ai_dec (aL bL : ai_L) : ai_M → ai_M → Bool
  | q :: qs, p :: ps => match ai_ub aL bL q p with
    | some u => if u < 0 then decide (qs.length = ps.length) else if u = 0 then ai_dec aL bL qs ps else false
    | none => false
  | _, _ => false
theorem ai_dec_g {L0 L : sm_L} {S : sm_S} {aL bL : ai_L} (hL : ai_gL L0 L S aL) (hb : ai_hL bL L0) : ∀ {Q P : ai_M}, ai_dec aL bL Q P = true → (∀ m ∈ Q, 0 ≤ ai_mv L m ∧ ai_mv L m < ai_B) → (∀ m ∈ P, 0 ≤ ai_mv L0 m ∧ ai_mv L0 m < ai_B) → ai_mz L Q < ai_mz L0 P ∧ Q.length = P.length
  | [], _, h, _, _ => by cases h
  | _ :: _, [], h, _, _ => by cases h
  | q :: qs, p :: ps, h, hQ, hP => by
    simp only [ai_dec] at h
    split at h
    · rename_i u hu
      have h1 := ai_ub_g hL hb hu
      have hq := ai_mz_b (M := qs) (fun m hm => hQ m (List.mem_cons_of_mem _ hm))
      have hp := ai_mz_b (M := ps) (fun m hm => hP m (List.mem_cons_of_mem _ hm))
      split at h
      · rename_i hu0
        have hl : qs.length = ps.length := of_decide_eq_true h
        refine ⟨?_, by rw [List.length_cons, List.length_cons, hl]⟩
        show ai_mv L q * ai_B ^ qs.length + ai_mz L qs < ai_mv L0 p * ai_B ^ ps.length + ai_mz L0 ps
        rw [hl] at hq ⊢
        have hB := ai_B_pos ps.length
        have h4 : ai_mv L q * ai_B ^ ps.length ≤ (ai_mv L0 p - 1) * ai_B ^ ps.length := Int.mul_le_mul_of_nonneg_right (by omega) (Int.le_of_lt hB)
        rw [Int.sub_mul, Int.one_mul] at h4
        omega
      · split at h
        · rename_i hu0
          obtain ⟨h5, h6⟩ := ai_dec_g hL hb h (fun m hm => hQ m (List.mem_cons_of_mem _ hm)) (fun m hm => hP m (List.mem_cons_of_mem _ hm))
          refine ⟨?_, by rw [List.length_cons, List.length_cons, h6]⟩
          show ai_mv L q * ai_B ^ qs.length + ai_mz L qs < ai_mv L0 p * ai_B ^ ps.length + ai_mz L0 ps
          rw [h6]
          have hB := ai_B_pos ps.length
          have h4 : ai_mv L q * ai_B ^ ps.length ≤ ai_mv L0 p * ai_B ^ ps.length := Int.mul_le_mul_of_nonneg_right (by omega) (Int.le_of_lt hB)
          omega
        · cases h
    · cases h
/-- an annotation's own numbers lie in their bounds -/
def ai_mok (A : ai_A) : Bool := A.2.2.all fun m => match ai_mb A.1 m with
  | some q => decide (0 ≤ q.1) && decide (q.2 < ai_B)
  | none => false
theorem ai_mok_g {A : ai_A} {L : sm_L} (h : ai_mok A = true) (hL : ai_hL A.1 L) : ∀ m ∈ A.2.2, 0 ≤ ai_mv L m ∧ ai_mv L m < ai_B := by
  intro m hm
  have h1 := List.all_eq_true.mp h m hm
  split at h1
  · rename_i q hq
    simp only [Bool.and_eq_true, decide_eq_true_eq] at h1
    have := ai_mb_g hL hq
    omega
  · cases h1
