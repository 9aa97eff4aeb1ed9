/-! linear expressions over atoms: a constant, and atoms with their coefficients -/
abbrev sx_E : Type := Int × List (Nat × Int)
def sx_sm (ρ : Nat → Int) : List (Nat × Int) → Int
  | [] => 0
  | q :: x => q.2 * ρ q.1 + sx_sm ρ x
def sx_ev (ρ : Nat → Int) (e : sx_E) : Int := e.1 + sx_sm ρ e.2
def sx_c (c : Int) : sx_E := (c, [])
def sx_a (a : Nat) : sx_E := (0, [(a, 1)])
theorem sx_c_ev (ρ : Nat → Int) (c : Int) : sx_ev ρ (sx_c c) = c := Int.add_zero c
theorem sx_a_ev (ρ : Nat → Int) (a : Nat) : sx_ev ρ (sx_a a) = ρ a := by
  show (0 : Int) + (1 * ρ a + 0) = ρ a
  omega
def sx_ins (a : Nat) (c : Int) : List (Nat × Int) → List (Nat × Int)
  | [] => if c = 0 then [] else [(a, c)]
  | (b, d) :: x => if a < b then (if c = 0 then (b, d) :: x else (a, c) :: (b, d) :: x) else if a = b then (if c + d = 0 then x else (b, c + d) :: x) else (b, d) :: sx_ins a c x
theorem sx_ins_sm (ρ : Nat → Int) (a : Nat) (c : Int) : ∀ x, sx_sm ρ (sx_ins a c x) = c * ρ a + sx_sm ρ x
  | [] => by
    unfold sx_ins
    split
    · rename_i h
      rw [h, Int.zero_mul]
      rfl
    · rfl
  | (b, d) :: x => by
    unfold sx_ins
    split
    · split
      · rename_i h
        rw [h, Int.zero_mul, Int.zero_add]
      · rfl
    · split
      · rename_i h
        subst h
        have e : c * ρ a + sx_sm ρ ((a, d) :: x) = (c + d) * ρ a + sx_sm ρ x := by
          show c * ρ a + (d * ρ a + sx_sm ρ x) = _
          rw [Int.add_mul]
          omega
        split
        · rename_i h
          rw [e, h, Int.zero_mul, Int.zero_add]
        · rw [e]
          rfl
      · show d * ρ b + sx_sm ρ (sx_ins a c x) = c * ρ a + (d * ρ b + sx_sm ρ x)
        rw [sx_ins_sm ρ a c x]
        omega
theorem sx_ins_wf {n a : Nat} {c : Int} (h : a < n) : ∀ {x : List (Nat × Int)}, (∀ q ∈ x, q.1 < n) → ∀ q ∈ sx_ins a c x, q.1 < n
  | [], _, q, hq => by
    unfold sx_ins at hq
    split at hq
    · cases hq
    · rw [List.mem_singleton.mp hq]
      exact h
  | (b, d) :: x, hx, q, hq => by
    unfold sx_ins at hq
    split at hq
    · split at hq
      · exact hx q hq
      · rcases List.mem_cons.mp hq with rfl | hq
        · exact h
        · exact hx q hq
    · split at hq
      · split at hq
        · exact hx q (List.mem_cons_of_mem _ hq)
        · rcases List.mem_cons.mp hq with rfl | hq
          · exact hx (b, d) List.mem_cons_self
          · exact hx q (List.mem_cons_of_mem _ hq)
      · rcases List.mem_cons.mp hq with rfl | hq
        · exact hx _ List.mem_cons_self
        · exact sx_ins_wf h (fun y hy => hx y (List.mem_cons_of_mem _ hy)) q hq
/-- x + k y -/
def sx_mg (k : Int) : List (Nat × Int) → List (Nat × Int) → List (Nat × Int)
  | x, [] => x
  | x, q :: y => sx_mg k (sx_ins q.1 (k * q.2) x) y
def sx_ad (k : Int) (x y : sx_E) : sx_E := (x.1 + k * y.1, sx_mg k x.2 y.2)
theorem sx_mg_sm (ρ : Nat → Int) (k : Int) : ∀ y x, sx_sm ρ (sx_mg k x y) = sx_sm ρ x + k * sx_sm ρ y
  | [], x => by
    show sx_sm ρ x = sx_sm ρ x + k * 0
    rw [Int.mul_zero, Int.add_zero]
  | q :: y, x => by
    show sx_sm ρ (sx_mg k (sx_ins q.1 (k * q.2) x) y) = sx_sm ρ x + k * (q.2 * ρ q.1 + sx_sm ρ y)
    rw [sx_mg_sm ρ k y, sx_ins_sm, Int.mul_add, Int.mul_assoc]
    omega
theorem sx_ad_ev (ρ : Nat → Int) (k : Int) (x y : sx_E) : sx_ev ρ (sx_ad k x y) = sx_ev ρ x + k * sx_ev ρ y := by
  show x.1 + k * y.1 + sx_sm ρ (sx_mg k x.2 y.2) = x.1 + sx_sm ρ x.2 + k * (y.1 + sx_sm ρ y.2)
  rw [sx_mg_sm, Int.mul_add]
  omega
def sx_wf (n : Nat) (e : sx_E) : Prop := ∀ q ∈ e.2, q.1 < n
theorem sx_mg_wf {n : Nat} {k : Int} : ∀ {y x : List (Nat × Int)}, (∀ q ∈ x, q.1 < n) → (∀ q ∈ y, q.1 < n) → ∀ q ∈ sx_mg k x y, q.1 < n
  | [], x, hx, _, q, hq => hx q hq
  | p :: y, x, hx, hy, q, hq => sx_mg_wf (y := y) (sx_ins_wf (hy p List.mem_cons_self) hx) (fun z hz => hy z (List.mem_cons_of_mem _ hz)) q hq
theorem sx_ad_wf {n : Nat} {k : Int} {x y : sx_E} (hx : sx_wf n x) (hy : sx_wf n y) : sx_wf n (sx_ad k x y) := sx_mg_wf hx hy
theorem sx_c_wf (n : Nat) (c : Int) : sx_wf n (sx_c c) := fun _ h => absurd h List.not_mem_nil
theorem sx_a_wf {n a : Nat} (h : a < n) : sx_wf n (sx_a a) := fun q hq => by rw [List.mem_singleton.mp hq]; exact h
theorem sx_wf_mono {n n' : Nat} (h : n ≤ n') {e : sx_E} (he : sx_wf n e) : sx_wf n' e := fun q hq => Nat.lt_of_lt_of_le (he q hq) h
/-- k times x -/
def sx_sc (k : Int) (x : sx_E) : sx_E := sx_ad k (0, []) x
theorem sx_sc_ev (ρ : Nat → Int) (k : Int) (x : sx_E) : sx_ev ρ (sx_sc k x) = k * sx_ev ρ x := by
  unfold sx_sc
  rw [sx_ad_ev]
  show (0 : Int) + 0 + k * sx_ev ρ x = _
  omega
theorem sx_sc_wf {n : Nat} {k : Int} {x : sx_E} (hx : sx_wf n x) : sx_wf n (sx_sc k x) := sx_ad_wf (fun _ h => absurd h List.not_mem_nil) hx
/-- another value for a later atom changes nothing -/
theorem sx_sm_up {ρ ρ' : Nat → Int} {n : Nat} (h : ∀ a, a < n → ρ' a = ρ a) : ∀ {x : List (Nat × Int)}, (∀ q ∈ x, q.1 < n) → sx_sm ρ' x = sx_sm ρ x
  | [], _ => rfl
  | q :: x, hx => by
    show q.2 * ρ' q.1 + sx_sm ρ' x = q.2 * ρ q.1 + sx_sm ρ x
    rw [h _ (hx q List.mem_cons_self), sx_sm_up h (fun y hy => hx y (List.mem_cons_of_mem _ hy))]
theorem sx_ev_up {ρ ρ' : Nat → Int} {n : Nat} (h : ∀ a, a < n → ρ' a = ρ a) {e : sx_E} (he : sx_wf n e) : sx_ev ρ' e = sx_ev ρ e := by
  unfold sx_ev
  rw [sx_sm_up h he]
/-! intervals of atoms -/
abbrev sx_I : Type := List (Int × Int)
def sx_g (iv : sx_I) (a : Nat) : Int × Int := iv.getD a (0, 0)
def sx_iv (ρ : Nat → Int) (iv : sx_I) : Prop := ∀ a, a < iv.length → (sx_g iv a).1 ≤ ρ a ∧ ρ a ≤ (sx_g iv a).2
def sx_tl (iv : sx_I) (q : Nat × Int) : Int := if 0 ≤ q.2 then q.2 * (sx_g iv q.1).1 else q.2 * (sx_g iv q.1).2
def sx_ls (iv : sx_I) : List (Nat × Int) → Int
  | [] => 0
  | q :: x => sx_tl iv q + sx_ls iv x
/-- the lower bound by the intervals alone -/
def sx_lo (iv : sx_I) (e : sx_E) : Int := e.1 + sx_ls iv e.2
theorem sx_ls_le {ρ : Nat → Int} {iv : sx_I} (h : sx_iv ρ iv) : ∀ {x : List (Nat × Int)}, (∀ q ∈ x, q.1 < iv.length) → sx_ls iv x ≤ sx_sm ρ x
  | [], _ => Int.le_refl _
  | q :: x, hx => by
    have h1 := sx_ls_le h (x := x) (fun y hy => hx y (List.mem_cons_of_mem _ hy))
    have h2 := h q.1 (hx q List.mem_cons_self)
    have h3 : sx_tl iv q ≤ q.2 * ρ q.1 := by
      unfold sx_tl
      split
      · rename_i c
        exact Int.mul_le_mul_of_nonneg_left h2.1 c
      · rename_i c
        exact Int.mul_le_mul_of_nonpos_left (by omega) h2.2
    show sx_tl iv q + sx_ls iv x ≤ q.2 * ρ q.1 + sx_sm ρ x
    omega
theorem sx_lo_le {ρ : Nat → Int} {iv : sx_I} {e : sx_E} (h : sx_iv ρ iv) (he : sx_wf iv.length e) : sx_lo iv e ≤ sx_ev ρ e := by
  have := sx_ls_le h he
  unfold sx_lo sx_ev
  omega
/-- the lower bound by the intervals, or by one fact -/
def sx_lb (iv : sx_I) (e : sx_E) : List sx_E → Int → Int
  | [], b => b
  | f :: fs, b => sx_lb iv e fs (max b (sx_lo iv (sx_ad (-1) e f)))
def sx_low (iv : sx_I) (fs : List sx_E) (e : sx_E) : Int := sx_lb iv e fs (sx_lo iv e)
def sx_fs (ρ : Nat → Int) (n : Nat) (fs : List sx_E) : Prop := ∀ f ∈ fs, sx_wf n f ∧ 0 ≤ sx_ev ρ f
theorem sx_lb_le {ρ : Nat → Int} {iv : sx_I} {e : sx_E} (h : sx_iv ρ iv) (he : sx_wf iv.length e) : ∀ {fs : List sx_E} {b : Int}, sx_fs ρ iv.length fs → b ≤ sx_ev ρ e → sx_lb iv e fs b ≤ sx_ev ρ e
  | [], _, _, hb => hb
  | f :: fs, b, hf, hb => by
    obtain ⟨w, g⟩ := hf f List.mem_cons_self
    have h1 := sx_lo_le h (sx_ad_wf (k := -1) he w)
    rw [sx_ad_ev] at h1
    exact sx_lb_le (fs := fs) h he (fun x hx => hf x (List.mem_cons_of_mem _ hx)) (by omega)
theorem sx_low_le {ρ : Nat → Int} {iv : sx_I} {fs : List sx_E} {e : sx_E} (h : sx_iv ρ iv) (hf : sx_fs ρ iv.length fs) (he : sx_wf iv.length e) : sx_low iv fs e ≤ sx_ev ρ e := sx_lb_le h he hf (sx_lo_le h he)
def sx_hi (iv : sx_I) (fs : List sx_E) (e : sx_E) : Int := - sx_low iv fs (sx_sc (-1) e)
theorem sx_hi_le {ρ : Nat → Int} {iv : sx_I} {fs : List sx_E} {e : sx_E} (h : sx_iv ρ iv) (hf : sx_fs ρ iv.length fs) (he : sx_wf iv.length e) : sx_ev ρ e ≤ sx_hi iv fs e := by
  have h1 := sx_low_le h hf (sx_sc_wf (k := -1) he)
  rw [sx_sc_ev] at h1
  unfold sx_hi
  omega
/-! narrowing by a fact -/
def sx_nr (iv : sx_I) (e : sx_E) (q : Nat × Int) : Int × Int :=
  let r := - sx_lo iv (sx_sc (-1) (sx_ad (-q.2) e (sx_a q.1)))
  if 0 < q.2 then (max (sx_g iv q.1).1 (-(r / q.2)), (sx_g iv q.1).2) else if q.2 < 0 then ((sx_g iv q.1).1, min (sx_g iv q.1).2 (r / (-q.2))) else sx_g iv q.1
theorem sx_nr_g {ρ : Nat → Int} {iv : sx_I} {e : sx_E} {q : Nat × Int} (h : sx_iv ρ iv) (he : sx_wf iv.length e) (hq : q.1 < iv.length) (h0 : 0 ≤ sx_ev ρ e) : (sx_nr iv e q).1 ≤ ρ q.1 ∧ ρ q.1 ≤ (sx_nr iv e q).2 := by
  have h1 := sx_lo_le h (sx_sc_wf (k := -1) (sx_ad_wf (k := -q.2) he (sx_a_wf hq)))
  rw [sx_sc_ev, sx_ad_ev, sx_a_ev] at h1
  have h2 := h q.1 hq
  unfold sx_nr
  dsimp only
  generalize hr : - sx_lo iv (sx_sc (-1) (sx_ad (-q.2) e (sx_a q.1))) = r
  have h3 : -(q.2 * ρ q.1) ≤ r := by
    have e1 : -q.2 * ρ q.1 = -(q.2 * ρ q.1) := Int.neg_mul _ _
    rw [e1] at h1
    omega
  split
  · rename_i c
    refine ⟨?_, h2.2⟩
    have h4 : -ρ q.1 ≤ r / q.2 := (Int.le_ediv_iff_mul_le c).mpr (by rw [Int.neg_mul, Int.mul_comm]; exact h3)
    show max _ _ ≤ _
    omega
  · split
    · rename_i c1 c
      refine ⟨h2.1, ?_⟩
      have h4 : ρ q.1 ≤ r / (-q.2) := (Int.le_ediv_iff_mul_le (by omega)).mpr (by rw [Int.mul_neg, Int.mul_comm]; exact h3)
      show _ ≤ min _ _
      omega
    · exact h2
def sx_pr (e : sx_E) : List (Nat × Int) → sx_I → Option sx_I
  | [], iv => some iv
  | q :: x, iv => if (sx_nr iv e q).1 ≤ (sx_nr iv e q).2 then sx_pr e x (iv.set q.1 (sx_nr iv e q)) else none
theorem sx_set_iv {ρ : Nat → Int} {iv : sx_I} {a : Nat} {g : Int × Int} (h : sx_iv ρ iv) (hg : g.1 ≤ ρ a ∧ ρ a ≤ g.2) : sx_iv ρ (iv.set a g) := by
  intro b hb
  rw [List.length_set] at hb
  unfold sx_g
  rw [List.getD_eq_getElem?_getD]
  by_cases c : a = b
  · subst c
    rw [List.getElem?_set_self hb]
    exact hg
  · rw [List.getElem?_set_ne c, ← List.getD_eq_getElem?_getD]
    exact h b hb
/-- the intervals narrowed by a fact; none: the fact can't hold -/
theorem sx_pr_g {ρ : Nat → Int} {e : sx_E} (h0 : 0 ≤ sx_ev ρ e) : ∀ {x : List (Nat × Int)} {iv : sx_I}, sx_iv ρ iv → sx_wf iv.length e → (∀ q ∈ x, q.1 < iv.length) → ∃ iv', sx_pr e x iv = some iv' ∧ sx_iv ρ iv' ∧ iv'.length = iv.length
  | [], iv, h, _, _ => ⟨iv, rfl, h, rfl⟩
  | q :: x, iv, h, he, hx => by
    have h1 := sx_nr_g h he (hx q List.mem_cons_self) h0
    have hl : (iv.set q.1 (sx_nr iv e q)).length = iv.length := List.length_set
    obtain ⟨iv', g1, g2, g3⟩ := sx_pr_g h0 (x := x) (sx_set_iv h h1) (by rw [hl]; exact he) (fun y hy => by rw [hl]; exact hx y (List.mem_cons_of_mem _ hy))
    refine ⟨iv', ?_, g2, g3.trans hl⟩
    unfold sx_pr
    rw [if_pos (by omega)]
    exact g1
