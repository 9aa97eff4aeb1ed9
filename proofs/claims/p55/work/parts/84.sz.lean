/-! taking up a fact -/
def sx_as1 (e : sx_E) (iv : sx_I) (fs : List sx_E) : Option sx_I := if 0 < sx_low iv fs (sx_sc (-1) e) then none else sx_pr e e.2 iv
def sx_rp : List sx_E → sx_I → Option sx_I
  | [], iv => some iv
  | f :: fs, iv => match sx_pr f f.2 iv with
    | none => none
    | some iv' => sx_rp fs iv'
def sx_en (iv : sx_I) : sx_K → List sx_E
  | [] => []
  | q :: k => if sx_lo iv q.1 = q.2.1 && - sx_lo iv (sx_sc (-1) q.1) = q.2.1 then q.2.2 ++ sx_en iv k else sx_en iv k
def sx_two (e : sx_E) (fs : List sx_E) : List sx_E := if 2 ≤ e.2.length then e :: fs else fs
/-- the state with one fact more; none: the fact can't hold -/
def sx_as (e : sx_E) (a : sx_C) : Option sx_C := match a with
  | (pc, aL, st, m, nn, iv, fs, k, t) => match sx_as1 e iv fs with
    | none => none
    | some iv1 => match sx_rp fs iv1 with
      | none => none
      | some iv2 => match sx_rp (sx_en iv2 k) iv2 with
        | none => none
        | some iv3 => some (pc, aL, st, m, nn, iv3, (sx_en iv2 k).filter (fun f => decide (2 ≤ f.2.length)) ++ sx_two e fs, k, t)
section SZ
variable {ρ : Nat → Int} {τ : Nat → Nat}
theorem sx_as1_g {iv : sx_I} {fs : List sx_E} {e : sx_E} (h : sx_iv ρ iv) (hf : sx_fs ρ iv.length fs) (he : sx_wf iv.length e) (h0 : 0 ≤ sx_ev ρ e) : ∃ iv', sx_as1 e iv fs = some iv' ∧ sx_iv ρ iv' ∧ iv'.length = iv.length := by
  have h1 := sx_low_le h hf (sx_sc_wf (k := -1) he)
  rw [sx_sc_ev] at h1
  unfold sx_as1
  rw [if_neg (by omega)]
  exact sx_pr_g h0 h he he
theorem sx_rp_g : ∀ {fs : List sx_E} {iv : sx_I}, sx_iv ρ iv → sx_fs ρ iv.length fs → ∃ iv', sx_rp fs iv = some iv' ∧ sx_iv ρ iv' ∧ iv'.length = iv.length
  | [], iv, h, _ => ⟨iv, rfl, h, rfl⟩
  | f :: fs, iv, h, hf => by
    obtain ⟨w, g⟩ := hf f List.mem_cons_self
    obtain ⟨iv1, e1, e2, e3⟩ := sx_pr_g g h w w
    obtain ⟨iv2, f1, f2, f3⟩ := sx_rp_g (fs := fs) e2 (by rw [e3]; exact fun x hx => hf x (List.mem_cons_of_mem _ hx))
    refine ⟨iv2, ?_, f2, f3.trans e3⟩
    unfold sx_rp
    rw [e1]
    exact f1
theorem sx_en_g {iv : sx_I} (h : sx_iv ρ iv) : ∀ {k : sx_K}, sx_gK ρ k → sx_wK iv.length k → sx_fs ρ iv.length (sx_en iv k)
  | [], _, _ => fun _ h => absurd h List.not_mem_nil
  | q :: k, g, w => by
    have ih := sx_en_g h (k := k) (fun x hx => g x (List.mem_cons_of_mem _ hx)) (fun x hx => w x (List.mem_cons_of_mem _ hx))
    unfold sx_en
    split
    · rename_i c
      simp only [Bool.and_eq_true, decide_eq_true_eq] at c
      have w1 := w q List.mem_cons_self
      have h1 := sx_lo_le h w1.1
      have h2 := sx_lo_le h (sx_sc_wf (k := -1) w1.1)
      rw [sx_sc_ev] at h2
      intro f hf
      rcases List.mem_append.mp hf with hf | hf
      · exact ⟨w1.2 f hf, g q List.mem_cons_self (by omega) f hf⟩
      · exact ih f hf
    · exact ih
theorem sx_as_g {a : sx_C} {c : sm_C} {e : sx_E} (g : sx_gC ρ τ a c) (he : sx_wf a.2.2.2.2.2.1.length e) (h0 : 0 ≤ sx_ev ρ e) : ∃ a', sx_as e a = some a' ∧ sx_gC ρ τ a' c ∧ a'.1 = a.1 ∧ a'.2.1 = a.2.1 ∧ a'.2.2.1 = a.2.2.1 ∧ a'.2.2.2.2.2.1.length = a.2.2.2.2.2.1.length := by
  obtain ⟨pc, aL, st, m, nn, iv, fs, k, t⟩ := a
  obtain ⟨e0, ⟨gL, wL⟩, ⟨gS, wS⟩, ⟨gM, wM⟩, ⟨gN, wN⟩, gi, gf, gk, wk⟩ := g
  dsimp only at he
  obtain ⟨iv1, p1, p2, p3⟩ := sx_as1_g gi gf he h0
  obtain ⟨iv2, q1, q2, q3⟩ := sx_rp_g (fs := fs) p2 (by rw [p3]; exact gf)
  have l2 : iv2.length = iv.length := q3.trans p3
  have hen : sx_fs ρ iv.length (sx_en iv2 k) := by
    have := sx_en_g q2 gk (by rw [l2]; exact wk)
    rw [l2] at this
    exact this
  obtain ⟨iv3, r1, r2, r3⟩ := sx_rp_g (fs := sx_en iv2 k) q2 (by rw [l2]; exact hen)
  have l3 : iv3.length = iv.length := r3.trans l2
  refine ⟨(pc, aL, st, m, nn, iv3, (sx_en iv2 k).filter (fun f => decide (2 ≤ f.2.length)) ++ sx_two e fs, k, t), ?_, ?_, rfl, rfl, rfl, l3⟩
  · unfold sx_as
    dsimp only
    rw [p1]
    dsimp only
    rw [q1]
    dsimp only
    rw [r1]
  · refine ⟨e0, ⟨gL, by rw [l3]; exact wL⟩, ⟨gS, by rw [l3]; exact wS⟩, ⟨gM, by rw [l3]; exact wM⟩, ⟨gN, by rw [l3]; exact wN⟩, r2, ?_, gk, by rw [l3]; exact wk⟩
    rw [l3]
    intro f hf
    rcases List.mem_append.mp hf with hf | hf
    · exact hen f (List.mem_filter.mp hf).1
    · unfold sx_two at hf
      split at hf
      · rcases List.mem_cons.mp hf with rfl | hf
        · exact ⟨he, h0⟩
        · exact gf f hf
      · exact gf f hf
end SZ
