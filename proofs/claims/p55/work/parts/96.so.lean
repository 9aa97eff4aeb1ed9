/-! fields that were not read yet; finding a substitution; measures -/
def sx_mt1 (E : ai_E) (q : (Nat × Nat × Nat) × Nat) (a : sx_C) : sx_C := match a with
  | (pc, aL, st, m, nn, iv, fs, k, t) => match sx_look q.1 q.2 m with
    | some _ => (pc, aL, st, m, nn, iv, fs, k, t)
    | none => if (sh_fk q.1.1 q.2).1 = 0 && decide (q.1.2.1 < t) then (pc, aL, st, (q, sx_a iv.length) :: m, nn, iv ++ [E.1 q.1.1 q.2], fs, k, t) else (pc, aL, st, m, nn, iv, fs, k, t)
/-- an array's content that was not read yet -/
def sx_mA1 (E : ai_E) (r : Nat × Nat × Nat) (e : sx_E) (a : sx_C) : sx_C := match a with
  | (pc, aL, st, m, nn, iv, fs, k, t) => match sx_lookA r e nn.2 with
    | some _ => (pc, aL, st, m, nn, iv, fs, k, t)
    | none => if decide (r.2.1 < t) && sx_wfb iv.length e && decide (r.1 ≠ 999) then (pc, aL, st, m, (nn.1, (r, e, sx_a iv.length) :: nn.2), iv ++ [E.2.1 r.1], fs, k, t) else (pc, aL, st, m, nn, iv, fs, k, t)
def sx_mt (E : ai_E) (θ : sx_T) : sx_M → sx_C → sx_C
  | [], a => a
  | q :: A, a => sx_mt E θ A (sx_mt1 E ((q.1.1.1, (sx_tg θ q.1.1.2.1).1, (sx_tg θ q.1.1.2.1).2 + q.1.1.2.2), q.1.2) a)
section SO
variable {ρ : Nat → Int} {τ : Nat → Nat}
theorem sx_mt1_g {E : ai_E} {q : (Nat × Nat × Nat) × Nat} {a : sx_C} {c : sm_C} (g : sx_gC ρ τ a c) (hG : ai_GI E.1 E.2.1 c.2.2.2) : ∃ ρ', sx_lk a.2.2.2.2.2.1.length a.2.2.2.2.2.2.2.2 ρ ρ' τ τ ∧ sx_gC ρ' τ (sx_mt1 E q a) c ∧ a.2.2.2.2.2.1.length ≤ (sx_mt1 E q a).2.2.2.2.2.1.length ∧ (sx_mt1 E q a).2.2.2.2.2.2.2.2 = a.2.2.2.2.2.2.2.2 := by
  obtain ⟨pc, aL, st, m, nn, iv, fs, k, t⟩ := a
  obtain ⟨pc0, L, vs, S⟩ := c
  have rf : sx_lk iv.length t ρ ρ τ τ := ⟨fun _ _ => rfl, fun _ _ => rfl⟩
  unfold sx_mt1
  dsimp only
  split
  · exact ⟨ρ, rf, g, Nat.le_refl _, rfl⟩
  · split
    · rename_i hc
      simp only [Bool.and_eq_true, decide_eq_true_eq] at hc
      have hv := hG.1 q.1.1 (τ q.1.2.1 + q.1.2.2) q.2 hc.1
      obtain ⟨ρ', l1, l2, ⟨e, gL', gS', ⟨gM', wM'⟩, g5⟩⟩ := sx_fresh g hv.1 hv.2
      have hl : (iv ++ [((E.1 q.1.1 q.2).1, (E.1 q.1.1 q.2).2)]).length = iv.length + 1 := by rw [List.length_append]; rfl
      have wa : sx_wf (iv ++ [((E.1 q.1.1 q.2).1, (E.1 q.1.1 q.2).2)]).length (sx_a iv.length) := by rw [hl]; exact sx_a_wf (Nat.lt_succ_self _)
      refine ⟨ρ', l1, ⟨e, gL', gS', ⟨fun x hx => ?_, fun x hx => ?_⟩, g5⟩, ?_, rfl⟩
      · rcases List.mem_cons.mp hx with rfl | hx
        · exact l2.symm
        · exact gM' x hx
      · rcases List.mem_cons.mp hx with rfl | hx
        · exact ⟨hc.2, wa⟩
        · exact wM' x hx
      · show iv.length ≤ (iv ++ [((E.1 q.1.1 q.2).1, (E.1 q.1.1 q.2).2)]).length
        omega
    · exact ⟨ρ, rf, g, Nat.le_refl _, rfl⟩
theorem sx_mA1_g {E : ai_E} {r : Nat × Nat × Nat} {e : sx_E} {a : sx_C} {c : sm_C} (g : sx_gC ρ τ a c) (hG : ai_GI E.1 E.2.1 c.2.2.2) : ∃ ρ', sx_lk a.2.2.2.2.2.1.length a.2.2.2.2.2.2.2.2 ρ ρ' τ τ ∧ sx_gC ρ' τ (sx_mA1 E r e a) c ∧ a.2.2.2.2.2.1.length ≤ (sx_mA1 E r e a).2.2.2.2.2.1.length ∧ (sx_mA1 E r e a).2.2.2.2.2.2.2.2 = a.2.2.2.2.2.2.2.2 := by
  obtain ⟨pc, aL, st, m, nn, iv, fs, k, t⟩ := a
  obtain ⟨pc0, L, vs, S⟩ := c
  have rf : sx_lk iv.length t ρ ρ τ τ := ⟨fun _ _ => rfl, fun _ _ => rfl⟩
  unfold sx_mA1
  dsimp only
  split
  · exact ⟨ρ, rf, g, Nat.le_refl _, rfl⟩
  · split
    · rename_i hc
      simp only [Bool.and_eq_true, decide_eq_true_eq] at hc
      obtain ⟨t0, tk, o⟩ := r
      obtain ⟨hc, h9⟩ := hc
      have we := sx_wfb_g hc.2
      have hv := hG.2 t0 (τ tk + o) (sx_ev ρ e).toNat
      obtain ⟨ρ', l1, l2, g'⟩ := sx_fresh g hv.1 hv.2
      have hl : (iv ++ [((E.2.1 t0).1, (E.2.1 t0).2)]).length = iv.length + 1 := by rw [List.length_append]; rfl
      have wa : sx_wf (iv ++ [((E.2.1 t0).1, (E.2.1 t0).2)]).length (sx_a iv.length) := by rw [hl]; exact sx_a_wf (Nat.lt_succ_self _)
      refine ⟨ρ', l1, sx_addA g' hc.1 (by rw [hl]; exact sx_wf_mono (Nat.le_succ _) we) wa ?_, ?_, rfl⟩
      · unfold sx_gA
        rw [if_neg h9, l2]
        dsimp only
        rw [sx_ev_up l1.1 we]
      · show iv.length ≤ (iv ++ [((E.2.1 t0).1, (E.2.1 t0).2)]).length
        omega
    · exact ⟨ρ, rf, g, Nat.le_refl _, rfl⟩
theorem sx_lk_tr {n n' t t' : Nat} {ρ1 ρ2 ρ3 : Nat → Int} {τ1 τ2 τ3 : Nat → Nat} (h : sx_lk n t ρ1 ρ2 τ1 τ2) (g : sx_lk n' t' ρ2 ρ3 τ2 τ3) (hn : n ≤ n') (ht : t ≤ t') : sx_lk n t ρ1 ρ3 τ1 τ3 := ⟨fun a ha => (g.1 a (by omega)).trans (h.1 a ha), fun a ha => (g.2 a (by omega)).trans (h.2 a ha)⟩
theorem sx_lk_mono {n n' t t' : Nat} {ρ1 ρ2 : Nat → Int} {τ1 τ2 : Nat → Nat} (g : sx_lk n' t' ρ1 ρ2 τ1 τ2) (hn : n ≤ n') (ht : t ≤ t') : sx_lk n t ρ1 ρ2 τ1 τ2 := ⟨fun a ha => g.1 a (by omega), fun a ha => g.2 a (by omega)⟩
theorem sx_mt_g {E : ai_E} {θ : sx_T} : ∀ {A : sx_M} {ρ : Nat → Int} {a : sx_C} {c : sm_C}, sx_gC ρ τ a c → ai_GI E.1 E.2.1 c.2.2.2 → ∃ ρ', sx_lk a.2.2.2.2.2.1.length a.2.2.2.2.2.2.2.2 ρ ρ' τ τ ∧ sx_gC ρ' τ (sx_mt E θ A a) c ∧ a.2.2.2.2.2.1.length ≤ (sx_mt E θ A a).2.2.2.2.2.1.length ∧ (sx_mt E θ A a).2.2.2.2.2.2.2.2 = a.2.2.2.2.2.2.2.2
  | [], ρ, a, c, g, _ => ⟨ρ, ⟨fun _ _ => rfl, fun _ _ => rfl⟩, g, Nat.le_refl _, rfl⟩
  | q :: A, ρ, a, c, g, hG => by
    obtain ⟨ρ1, l1, g1, m1, e1⟩ := sx_mt1_g (q := ((q.1.1.1, (sx_tg θ q.1.1.2.1).1, (sx_tg θ q.1.1.2.1).2 + q.1.1.2.2), q.1.2)) g hG
    obtain ⟨ρ2, l2, g2, m2, e2⟩ := sx_mt_g (θ := θ) (A := A) g1 hG
    exact ⟨ρ2, sx_lk_tr l1 l2 m1 (by rw [e1]; exact Nat.le_refl _), g2, Nat.le_trans m1 m2, e2.trans e1⟩
end SO
/-! finding a substitution: nothing is claimed of it -/
abbrev sx_Q : Type := List (Option sx_E) × List (Option (Nat × Nat))
def sx_op {α : Type} (l : List (Option α)) (i : Nat) (v : α) : List (Option α) := match l.getD i (some v) with
  | some _ => l
  | none => l.set i (some v)
def sx_mE (e' e : sx_E) (s : sx_Q) : sx_Q := match e'.2 with
  | [q] => if q.2 = 1 then (sx_op s.1 q.1 (sx_ad (-1) e (e'.1, [])), s.2) else s
  | _ => s
def sx_mV (V v : sx_V) (s : sx_Q) : sx_Q := match V, v with
  | .inl e', .inl e => sx_mE e' e s
  | .inr (.inr r'), .inr (.inr r) => if r'.2.2.1 ≤ r.2.2.1 then (s.1, sx_op s.2 r'.2.1 (r.2.1, r.2.2.1 - r'.2.2.1)) else s
  | _, _ => s
def sx_mL : sx_L → sx_L → sx_Q → sx_Q
  | some V :: A, some v :: a, s => sx_mL A a (sx_mV V v s)
  | _ :: A, _ :: a, s => sx_mL A a s
  | _, _, s => s
def sx_mS : List sx_V → List sx_V → sx_Q → sx_Q
  | V :: A, v :: a, s => sx_mS A a (sx_mV V v s)
  | _, _, s => s
def sx_fT (l : List (Option (Nat × Nat))) : sx_T := l.map fun q => q.getD (0, 0)
def sx_fE (l : List (Option sx_E)) : List sx_E := l.map fun q => q.getD (0, [])
def sx_mN (m : List (((Nat × Nat × Nat) × Nat) × Nat × Nat)) : List (((Nat × Nat × Nat) × Nat) × Nat × Nat) → sx_Q → sx_Q
  | [], s => s
  | q :: A, s => match sx_lookN (q.1.1.1, (sx_tg (sx_fT s.2) q.1.1.2.1).1, (sx_tg (sx_fT s.2) q.1.1.2.1).2 + q.1.1.2.2) q.1.2 m with
    | some e => sx_mN m A (if q.2.2 ≤ e.2 then (s.1, sx_op s.2 q.2.1 (e.1, e.2 - q.2.2)) else s)
    | none => sx_mN m A s
def sx_mM (θ : sx_T) (m : sx_M) : sx_M → sx_Q → sx_Q
  | [], s => s
  | q :: A, s => match sx_look (q.1.1.1, (sx_tg θ q.1.1.2.1).1, (sx_tg θ q.1.1.2.1).2 + q.1.1.2.2) q.1.2 m with
    | some e => sx_mM θ m A (sx_mE q.2 e s)
    | none => sx_mM θ m A s
/-- the first n atoms and t tokens stand for themselves -/
def sx_q0 (n t : Nat) (A : sx_C) : sx_Q := ((List.range A.2.2.2.2.2.1.length).map fun i => if i < n then some (sx_a i) else none, (List.range A.2.2.2.2.2.2.2.2).map fun i => if i < t then some (i, 0) else none)
/-- arrays' contents: one behind the other, a place may hang on a content before it -/
def sx_mAL (E : ai_E) (θ : sx_T) : List ((Nat × Nat × Nat) × sx_E × sx_E) → sx_Q × sx_C → sx_Q × sx_C
  | [], p => p
  | q :: A, (s, a) =>
    let e := sx_sb (sx_fE s.1) q.2.1
    let r := (q.1.1, (sx_tg θ q.1.2.1).1, (sx_tg θ q.1.2.1).2 + q.1.2.2)
    let b := sx_mA1 E r e a
    match sx_lookA r e b.2.2.2.2.1.2 with
    | some v => sx_mAL E θ A (sx_mE q.2.2 v s, b)
    | none => sx_mAL E θ A (s, b)
theorem sx_mAL_g {E : ai_E} {θ : sx_T} {τ : Nat → Nat} : ∀ {A : List ((Nat × Nat × Nat) × sx_E × sx_E)} {ρ : Nat → Int} {s : sx_Q} {a : sx_C} {c : sm_C}, sx_gC ρ τ a c → ai_GI E.1 E.2.1 c.2.2.2 → ∃ ρ', sx_lk a.2.2.2.2.2.1.length a.2.2.2.2.2.2.2.2 ρ ρ' τ τ ∧ sx_gC ρ' τ (sx_mAL E θ A (s, a)).2 c ∧ a.2.2.2.2.2.1.length ≤ (sx_mAL E θ A (s, a)).2.2.2.2.2.2.1.length ∧ (sx_mAL E θ A (s, a)).2.2.2.2.2.2.2.2.2 = a.2.2.2.2.2.2.2.2
  | [], ρ, s, a, c, g, _ => ⟨ρ, ⟨fun _ _ => rfl, fun _ _ => rfl⟩, g, Nat.le_refl _, rfl⟩
  | q :: A, ρ, s, a, c, g, hG => by
    obtain ⟨ρ1, l1, g1, m1, e1⟩ := sx_mA1_g (r := (q.1.1, (sx_tg θ q.1.2.1).1, (sx_tg θ q.1.2.1).2 + q.1.2.2)) (e := sx_sb (sx_fE s.1) q.2.1) g hG
    unfold sx_mAL
    dsimp only
    split
    · obtain ⟨ρ2, l2, g2, m2, e2⟩ := sx_mAL_g (θ := θ) (A := A) (s := sx_mE q.2.2 (by assumption) s) g1 hG
      exact ⟨ρ2, sx_lk_tr l1 l2 m1 (by rw [e1]; exact Nat.le_refl _), g2, Nat.le_trans m1 m2, e2.trans e1⟩
    · obtain ⟨ρ2, l2, g2, m2, e2⟩ := sx_mAL_g (θ := θ) (A := A) (s := s) g1 hG
      exact ⟨ρ2, sx_lk_tr l1 l2 m1 (by rw [e1]; exact Nat.le_refl _), g2, Nat.le_trans m1 m2, e2.trans e1⟩
/-- substitution, and the state with the fields that were wanting -/
def sx_fd (E : ai_E) (n t : Nat) (A a : sx_C) : List sx_E × sx_T × sx_C :=
  let s1 := sx_mN a.2.2.2.2.1.1 A.2.2.2.2.1.1 (sx_mS A.2.2.1 a.2.2.1 (sx_mL A.2.1 a.2.1 (sx_q0 n t A)))
  let θ := sx_fT s1.2
  let b := sx_mt E θ A.2.2.2.1 a
  let p := sx_mAL E θ A.2.2.2.2.1.2 (sx_mM θ b.2.2.2.1 A.2.2.2.1 s1, b)
  (sx_fE p.1.1, θ, p.2)
theorem sx_fd_b (E : ai_E) (n t : Nat) (A a : sx_C) : ∃ θ s, (sx_fd E n t A a).2.2 = (sx_mAL E θ A.2.2.2.2.1.2 (s, sx_mt E θ A.2.2.2.1 a)).2 := ⟨_, _, rfl⟩
def sx_same (n t : Nat) (σ : List sx_E) (θ : sx_T) : Bool := ((List.range n).all fun i => sx_eqE (sx_sg σ i) (sx_a i)) && (List.range t).all fun j => decide (sx_tg θ j = (j, 0))
theorem sx_same_g {n t : Nat} {σ : List sx_E} {θ : sx_T} {ρ : Nat → Int} {τ : Nat → Nat} (h : sx_same n t σ θ = true) : sx_lk n t ρ (sx_rs ρ σ) τ (sx_ts τ θ) := by
  unfold sx_same at h
  simp only [Bool.and_eq_true] at h
  refine ⟨fun i hi => ?_, fun j hj => ?_⟩
  · have h1 := sx_eqE_g (List.all_eq_true.mp h.1 i (List.mem_range.mpr hi))
    unfold sx_rs
    rw [h1, sx_a_ev]
  · have h1 := of_decide_eq_true (List.all_eq_true.mp h.2 j (List.mem_range.mpr hj))
    unfold sx_ts
    rw [h1]
    rfl
/-! measures -/
def sx_B : Int := 1099511627776
def sx_mz (ρ : Nat → Int) : List sx_E → Int
  | [] => 0
  | m :: r => sx_ev ρ m * sx_B ^ r.length + sx_mz ρ r
theorem sx_B_pos (n : Nat) : 0 < sx_B ^ n := Int.pow_pos (by decide)
theorem sx_mz_b {ρ : Nat → Int} : ∀ {M : List sx_E}, (∀ m ∈ M, 0 ≤ sx_ev ρ m ∧ sx_ev ρ m < sx_B) → 0 ≤ sx_mz ρ M ∧ sx_mz ρ M < sx_B ^ M.length
  | [], _ => ⟨Int.le_refl _, sx_B_pos 0⟩
  | m :: r, h => by
    have h1 := h m List.mem_cons_self
    have h2 := sx_mz_b (M := r) (fun q hq => h q (List.mem_cons_of_mem _ hq))
    have hp := sx_B_pos r.length
    show 0 ≤ sx_ev ρ m * sx_B ^ r.length + sx_mz ρ r ∧ sx_ev ρ m * sx_B ^ r.length + sx_mz ρ r < sx_B ^ (r.length + 1)
    rw [Int.pow_succ, Int.mul_comm (sx_B ^ r.length) sx_B]
    have h3 : 0 ≤ sx_ev ρ m * sx_B ^ r.length := Int.mul_nonneg h1.1 (Int.le_of_lt hp)
    have h4 : sx_ev ρ m * sx_B ^ r.length ≤ (sx_B - 1) * sx_B ^ r.length := Int.mul_le_mul_of_nonneg_right (by omega) (Int.le_of_lt hp)
    rw [Int.sub_mul, Int.one_mul] at h4
    omega
/-- new against old -/
def sx_dec (iv : sx_I) (fs : List sx_E) : List sx_E → List sx_E → Bool
  | x :: xs, y :: ys => if sx_hi iv fs (sx_ad (-1) x y) < 0 then decide (xs.length = ys.length) else if sx_hi iv fs (sx_ad (-1) x y) ≤ 0 then sx_dec iv fs xs ys else false
  | _, _ => false
theorem sx_dec_g {ρ : Nat → Int} {iv : sx_I} {fs : List sx_E} (gi : sx_iv ρ iv) (gf : sx_fs ρ iv.length fs) : ∀ {Q M : List sx_E}, sx_dec iv fs Q M = true → (∀ m ∈ Q, sx_wf iv.length m) → (∀ m ∈ M, sx_wf iv.length m) → (∀ m ∈ Q, 0 ≤ sx_ev ρ m ∧ sx_ev ρ m < sx_B) → (∀ m ∈ M, 0 ≤ sx_ev ρ m ∧ sx_ev ρ m < sx_B) → sx_mz ρ Q < sx_mz ρ M ∧ Q.length = M.length
  | [], _, h, _, _, _, _ => by cases h
  | _ :: _, [], h, _, _, _, _ => by cases h
  | q :: qs, p :: ps, h, wQ, wM, hQ, hP => by
    simp only [sx_dec] at h
    have h1 := sx_hi_le gi gf (sx_ad_wf (k := -1) (wQ q List.mem_cons_self) (wM p List.mem_cons_self))
    rw [sx_ad_ev] at h1
    have hq := sx_mz_b (M := qs) (fun m hm => hQ m (List.mem_cons_of_mem _ hm))
    have hp := sx_mz_b (M := ps) (fun m hm => hP m (List.mem_cons_of_mem _ hm))
    split at h
    · rename_i hu0
      have hl : qs.length = ps.length := of_decide_eq_true h
      refine ⟨?_, by rw [List.length_cons, List.length_cons, hl]⟩
      show sx_ev ρ q * sx_B ^ qs.length + sx_mz ρ qs < sx_ev ρ p * sx_B ^ ps.length + sx_mz ρ ps
      rw [hl] at hq ⊢
      have hB := sx_B_pos ps.length
      have h4 : sx_ev ρ q * sx_B ^ ps.length ≤ (sx_ev ρ p - 1) * sx_B ^ ps.length := Int.mul_le_mul_of_nonneg_right (by omega) (Int.le_of_lt hB)
      rw [Int.sub_mul, Int.one_mul] at h4
      omega
    · split at h
      · rename_i hu0
        obtain ⟨h5, h6⟩ := sx_dec_g gi gf h (fun m hm => wQ m (List.mem_cons_of_mem _ hm)) (fun m hm => wM m (List.mem_cons_of_mem _ hm)) (fun m hm => hQ m (List.mem_cons_of_mem _ hm)) (fun m hm => hP m (List.mem_cons_of_mem _ hm))
        refine ⟨?_, by rw [List.length_cons, List.length_cons, h6]⟩
        show sx_ev ρ q * sx_B ^ qs.length + sx_mz ρ qs < sx_ev ρ p * sx_B ^ ps.length + sx_mz ρ ps
        rw [h6]
        have hB := sx_B_pos ps.length
        have h4 : sx_ev ρ q * sx_B ^ ps.length ≤ sx_ev ρ p * sx_B ^ ps.length := Int.mul_le_mul_of_nonneg_right (by omega) (Int.le_of_lt hB)
        omega
      · cases h
/-- an annotation: a state, and its measure -/
abbrev sx_A : Type := sx_C × List sx_E
def sx_mok (A : sx_A) : Bool := A.2.all fun m => sx_wfb A.1.2.2.2.2.2.1.length m && decide (0 ≤ sx_low A.1.2.2.2.2.2.1 A.1.2.2.2.2.2.2.1 m) && decide (sx_hi A.1.2.2.2.2.2.1 A.1.2.2.2.2.2.2.1 m < sx_B)
theorem sx_mok_g {ρ : Nat → Int} {τ : Nat → Nat} {A : sx_A} {c : sm_C} (h : sx_mok A = true) (g : sx_gC ρ τ A.1 c) : ∀ m ∈ A.2, sx_wf A.1.2.2.2.2.2.1.length m ∧ 0 ≤ sx_ev ρ m ∧ sx_ev ρ m < sx_B := by
  intro m hm
  have h1 := List.all_eq_true.mp h m hm
  simp only [Bool.and_eq_true, decide_eq_true_eq] at h1
  have w := sx_wfb_g h1.1.1
  have hb := sx_bd g w
  exact ⟨w, by omega, by omega⟩
