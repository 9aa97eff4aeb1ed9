/-! symbolic states: locals, stack, memory of fields, what is not null, intervals of atoms, facts, facts under a condition, how many tokens -/
abbrev sx_V : Type := sx_E ⊕ (Unit ⊕ (Nat × Nat × Nat × Bool))
abbrev sx_L : Type := List (Option sx_V)
abbrev sx_M : Type := List (((Nat × Nat × Nat) × Nat) × sx_E)
/-- references that may change, and what is known of arrays' contents: array, place, content -/
abbrev sx_N : Type := List (((Nat × Nat × Nat) × Nat) × Nat × Nat) × List ((Nat × Nat × Nat) × sx_E × sx_E)
abbrev sx_K : Type := List (sx_E × Int × List sx_E)
abbrev sx_C : Type := Nat × sx_L × List sx_V × sx_M × sx_N × sx_I × List sx_E × sx_K × Nat
def sx_gV (ρ : Nat → Int) (τ : Nat → Nat) (a : sx_V) (v : sm_V) : Prop := match a, v with
  | .inl e, .inl z => sx_ev ρ e = z
  | .inr (.inl _), .inr (.inl _) => True
  | .inr (.inr r), .inr (.inr v) => v = cond r.2.2.2 none (some (r.1, τ r.2.1 + r.2.2.1))
  | _, _ => False
def sx_gS (ρ : Nat → Int) (τ : Nat → Nat) : List sx_V → List sm_V → Prop
  | [], [] => True
  | a :: as, v :: vs => sx_gV ρ τ a v ∧ sx_gS ρ τ as vs
  | _, _ => False
def sx_gL (ρ : Nat → Int) (τ : Nat → Nat) (aL : sx_L) (L : sm_L) : Prop := aL.length = L.length ∧ ∀ j a, aL.getD j none = some a → ∃ v, L.getD j none = some v ∧ sx_gV ρ τ a v
def sx_gM (ρ : Nat → Int) (τ : Nat → Nat) (S : sm_S) (m : sx_M) : Prop := ∀ q ∈ m, S.1 q.1.1.1 (τ q.1.1.2.1 + q.1.1.2.2) q.1.2 = sx_ev ρ q.2
/-- an array's content; of kind 999: the number of an object is a place's -/
def sx_gA (ρ : Nat → Int) (τ : Nat → Nat) (S : sm_S) (q : (Nat × Nat × Nat) × sx_E × sx_E) : Prop := if q.1.1 = 999 then (sx_ev ρ q.2.1).toNat = τ q.1.2.1 + q.1.2.2 else S.2.2.1 q.1.1 (τ q.1.2.1 + q.1.2.2) (sx_ev ρ q.2.1).toNat = sx_ev ρ q.2.2
def sx_gN (ρ : Nat → Int) (τ : Nat → Nat) (S : sm_S) (n : sx_N) : Prop := (∀ q ∈ n.1, S.2.1 q.1.1.1 (τ q.1.1.2.1 + q.1.1.2.2) q.1.2 = some (τ q.2.1 + q.2.2)) ∧ ∀ q ∈ n.2, sx_gA ρ τ S q
def sx_gK (ρ : Nat → Int) (k : sx_K) : Prop := ∀ q ∈ k, sx_ev ρ q.1 = q.2.1 → ∀ f ∈ q.2.2, 0 ≤ sx_ev ρ f
/-! what is used was made before -/
def sx_wV (n t : Nat) (a : sx_V) : Prop := match a with
  | .inl e => sx_wf n e
  | .inr (.inl _) => True
  | .inr (.inr r) => r.2.1 < t
def sx_wS (n t : Nat) (as : List sx_V) : Prop := ∀ a ∈ as, sx_wV n t a
def sx_wL (n t : Nat) (aL : sx_L) : Prop := ∀ j a, aL.getD j none = some a → sx_wV n t a
def sx_wM (n t : Nat) (m : sx_M) : Prop := ∀ q ∈ m, q.1.1.2.1 < t ∧ sx_wf n q.2
def sx_wN (n t : Nat) (m : sx_N) : Prop := (∀ q ∈ m.1, q.1.1.2.1 < t ∧ q.2.1 < t) ∧ ∀ q ∈ m.2, q.1.2.1 < t ∧ sx_wf n q.2.1 ∧ sx_wf n q.2.2
def sx_wK (n : Nat) (k : sx_K) : Prop := ∀ q ∈ k, sx_wf n q.1 ∧ ∀ f ∈ q.2.2, sx_wf n f
def sx_gC (ρ : Nat → Int) (τ : Nat → Nat) (a : sx_C) (c : sm_C) : Prop := match a with
  | (pc, aL, st, m, nn, iv, fs, k, t) => pc = c.1 ∧ (sx_gL ρ τ aL c.2.1 ∧ sx_wL iv.length t aL) ∧ (sx_gS ρ τ st c.2.2.1 ∧ sx_wS iv.length t st) ∧ (sx_gM ρ τ c.2.2.2 m ∧ sx_wM iv.length t m) ∧ (sx_gN ρ τ c.2.2.2 nn ∧ sx_wN iv.length t nn) ∧ sx_iv ρ iv ∧ sx_fs ρ iv.length fs ∧ sx_gK ρ k ∧ sx_wK iv.length k
/-! another valuation that is the same on what was made before -/
def sx_lk (n t : Nat) (ρ ρ' : Nat → Int) (τ τ' : Nat → Nat) : Prop := (∀ a, a < n → ρ' a = ρ a) ∧ ∀ a, a < t → τ' a = τ a
section SY
variable {n t : Nat} {ρ ρ' : Nat → Int} {τ τ' : Nat → Nat}
theorem sx_gV_lk (h : sx_lk n t ρ ρ' τ τ') {a : sx_V} {v : sm_V} (w : sx_wV n t a) (g : sx_gV ρ τ a v) : sx_gV ρ' τ' a v := by
  rcases a with e | u | r
  · rcases v with z | z | z
    · show sx_ev ρ' e = z
      rw [sx_ev_up h.1 w]
      exact g
    · exact g.elim
    · exact g.elim
  · rcases v with z | z | z
    · exact g.elim
    · trivial
    · exact g.elim
  · rcases v with z | z | z
    · exact g.elim
    · exact g.elim
    · show z = cond r.2.2.2 none (some (r.1, τ' r.2.1 + r.2.2.1))
      rw [h.2 _ w]
      exact g
theorem sx_gS_lk (h : sx_lk n t ρ ρ' τ τ') : ∀ {as : List sx_V} {vs : List sm_V}, sx_wS n t as → sx_gS ρ τ as vs → sx_gS ρ' τ' as vs
  | [], [], _, _ => trivial
  | a :: as, v :: vs, w, g => ⟨sx_gV_lk h (w a List.mem_cons_self) g.1, sx_gS_lk h (fun b hb => w b (List.mem_cons_of_mem _ hb)) g.2⟩
  | [], _ :: _, _, g => g.elim
  | _ :: _, [], _, g => g.elim
theorem sx_gL_lk (h : sx_lk n t ρ ρ' τ τ') {aL : sx_L} {L : sm_L} (w : sx_wL n t aL) (g : sx_gL ρ τ aL L) : sx_gL ρ' τ' aL L := ⟨g.1, fun j a hj => by
  obtain ⟨v, h1, h2⟩ := g.2 j a hj
  exact ⟨v, h1, sx_gV_lk h (w j a hj) h2⟩⟩
theorem sx_gM_lk (h : sx_lk n t ρ ρ' τ τ') {S : sm_S} {m : sx_M} (w : sx_wM n t m) (g : sx_gM ρ τ S m) : sx_gM ρ' τ' S m := fun q hq => by
  rw [h.2 _ (w q hq).1, sx_ev_up h.1 (w q hq).2]
  exact g q hq
theorem sx_gN_lk (h : sx_lk n t ρ ρ' τ τ') {S : sm_S} {m : sx_N} (w : sx_wN n t m) (g : sx_gN ρ τ S m) : sx_gN ρ' τ' S m := by
  refine ⟨fun q hq => ?_, fun q hq => ?_⟩
  · rw [h.2 _ (w.1 q hq).1, h.2 _ (w.1 q hq).2]
    exact g.1 q hq
  · have := g.2 q hq
    unfold sx_gA at this ⊢
    rw [h.2 _ (w.2 q hq).1, sx_ev_up h.1 (w.2 q hq).2.1, sx_ev_up h.1 (w.2 q hq).2.2]
    exact this
theorem sx_gK_lk (h : sx_lk n t ρ ρ' τ τ') {k : sx_K} (w : sx_wK n k) (g : sx_gK ρ k) : sx_gK ρ' k := fun q hq e f hf => by
  rw [sx_ev_up h.1 (w q hq).1] at e
  rw [sx_ev_up h.1 ((w q hq).2 f hf)]
  exact g q hq e f hf
theorem sx_fs_lk (h : sx_lk n t ρ ρ' τ τ') {fs : List sx_E} (g : sx_fs ρ n fs) : sx_fs ρ' n fs := fun f hf => ⟨(g f hf).1, by
  rw [sx_ev_up h.1 (g f hf).1]
  exact (g f hf).2⟩
theorem sx_wV_mono {n' t' : Nat} (h1 : n ≤ n') (h2 : t ≤ t') {a : sx_V} (w : sx_wV n t a) : sx_wV n' t' a := by
  rcases a with e | u | r
  · exact sx_wf_mono h1 w
  · trivial
  · exact Nat.lt_of_lt_of_le w h2
theorem sx_wS_mono {n' t' : Nat} (h1 : n ≤ n') (h2 : t ≤ t') {as : List sx_V} (w : sx_wS n t as) : sx_wS n' t' as := fun a ha => sx_wV_mono h1 h2 (w a ha)
theorem sx_wL_mono {n' t' : Nat} (h1 : n ≤ n') (h2 : t ≤ t') {aL : sx_L} (w : sx_wL n t aL) : sx_wL n' t' aL := fun j a ha => sx_wV_mono h1 h2 (w j a ha)
theorem sx_wM_mono {n' t' : Nat} (h1 : n ≤ n') (h2 : t ≤ t') {m : sx_M} (w : sx_wM n t m) : sx_wM n' t' m := fun q hq => ⟨Nat.lt_of_lt_of_le (w q hq).1 h2, sx_wf_mono h1 (w q hq).2⟩
theorem sx_wN_mono {n' t' : Nat} (h1 : n ≤ n') (h2 : t ≤ t') {m : sx_N} (w : sx_wN n t m) : sx_wN n' t' m := ⟨fun q hq => ⟨Nat.lt_of_lt_of_le (w.1 q hq).1 h2, Nat.lt_of_lt_of_le (w.1 q hq).2 h2⟩, fun q hq => ⟨Nat.lt_of_lt_of_le (w.2 q hq).1 h2, sx_wf_mono h1 (w.2 q hq).2.1, sx_wf_mono h1 (w.2 q hq).2.2⟩⟩
theorem sx_wK_mono {n' : Nat} (h1 : n ≤ n') {k : sx_K} (w : sx_wK n k) : sx_wK n' k := fun q hq => ⟨sx_wf_mono h1 (w q hq).1, fun f hf => sx_wf_mono h1 ((w q hq).2 f hf)⟩
theorem sx_fs_mono {n' : Nat} (h1 : n ≤ n') {fs : List sx_E} (g : sx_fs ρ n fs) : sx_fs ρ n' fs := fun f hf => ⟨sx_wf_mono h1 (g f hf).1, (g f hf).2⟩
/-- a new atom with a value in its interval -/
theorem sx_fresh {pc : Nat} {aL : sx_L} {st : List sx_V} {m : sx_M} {nn : sx_N} {iv : sx_I} {fs : List sx_E} {k : sx_K} {c : sm_C} (g : sx_gC ρ τ (pc, aL, st, m, nn, iv, fs, k, t) c) {lo hi v : Int} (h1 : lo ≤ v) (h2 : v ≤ hi) :
    ∃ ρ', sx_lk iv.length t ρ ρ' τ τ ∧ sx_ev ρ' (sx_a iv.length) = v ∧ sx_gC ρ' τ (pc, aL, st, m, nn, iv ++ [(lo, hi)], fs, k, t) c := by
  obtain ⟨e, ⟨gL, wL⟩, ⟨gS, wS⟩, ⟨gM, wM⟩, ⟨gN, wN⟩, gi, gf, gk, wk⟩ := g
  have hl : sx_lk iv.length t ρ (fun a => if a = iv.length then v else ρ a) τ τ := ⟨fun a ha => if_neg (by omega), fun _ _ => rfl⟩
  have hn : iv.length ≤ (iv ++ [(lo, hi)]).length := by rw [List.length_append]; omega
  refine ⟨fun a => if a = iv.length then v else ρ a, hl, by rw [sx_a_ev]; exact if_pos rfl, e, ⟨sx_gL_lk hl wL gL, sx_wL_mono hn (Nat.le_refl _) wL⟩, ⟨sx_gS_lk hl wS gS, sx_wS_mono hn (Nat.le_refl _) wS⟩, ⟨sx_gM_lk hl wM gM, sx_wM_mono hn (Nat.le_refl _) wM⟩, ⟨sx_gN_lk hl wN gN, sx_wN_mono hn (Nat.le_refl _) wN⟩, fun a ha => ?_, sx_fs_mono hn (sx_fs_lk hl gf), sx_gK_lk hl wk gk, sx_wK_mono hn wk⟩
  rw [List.length_append, List.length_singleton] at ha
  unfold sx_g
  rw [List.getD_eq_getElem?_getD]
  by_cases q : a = iv.length
  · subst q
    rw [List.getElem?_append_right (Nat.le_refl _), Nat.sub_self]
    show lo ≤ (if iv.length = iv.length then v else ρ iv.length) ∧ (if iv.length = iv.length then v else ρ iv.length) ≤ hi
    rw [if_pos rfl]
    exact ⟨h1, h2⟩
  · rw [List.getElem?_append_left (by omega), ← List.getD_eq_getElem?_getD]
    show (sx_g iv a).1 ≤ (if a = iv.length then v else ρ a) ∧ (if a = iv.length then v else ρ a) ≤ (sx_g iv a).2
    rw [if_neg q]
    exact gi a (by omega)
/-- a new token -/
theorem sx_token {pc : Nat} {aL : sx_L} {st : List sx_V} {m : sx_M} {nn : sx_N} {iv : sx_I} {fs : List sx_E} {k : sx_K} {c : sm_C} (g : sx_gC ρ τ (pc, aL, st, m, nn, iv, fs, k, t) c) (i : Nat) :
    ∃ τ', sx_lk iv.length t ρ ρ τ τ' ∧ τ' t = i ∧ sx_gC ρ τ' (pc, aL, st, m, nn, iv, fs, k, t + 1) c := by
  obtain ⟨e, ⟨gL, wL⟩, ⟨gS, wS⟩, ⟨gM, wM⟩, ⟨gN, wN⟩, gi, gf, gk, wk⟩ := g
  have hl : sx_lk iv.length t ρ ρ τ (fun a => if a = t then i else τ a) := ⟨fun _ _ => rfl, fun a ha => if_neg (by omega)⟩
  exact ⟨fun a => if a = t then i else τ a, hl, if_pos rfl, e, ⟨sx_gL_lk hl wL gL, sx_wL_mono (Nat.le_refl _) (Nat.le_succ _) wL⟩, ⟨sx_gS_lk hl wS gS, sx_wS_mono (Nat.le_refl _) (Nat.le_succ _) wS⟩, ⟨sx_gM_lk hl wM gM, sx_wM_mono (Nat.le_refl _) (Nat.le_succ _) wM⟩, ⟨sx_gN_lk hl wN gN, sx_wN_mono (Nat.le_refl _) (Nat.le_succ _) wN⟩, gi, gf, gk, wk⟩
end SY
