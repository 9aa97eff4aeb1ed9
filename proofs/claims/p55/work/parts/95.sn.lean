/-! a symbolic state under a substitution: does a state imply it -/
abbrev sx_T : Type := List (Nat × Nat)
def sx_sg (σ : List sx_E) (i : Nat) : sx_E := σ.getD i (0, [])
def sx_tg (θ : sx_T) (j : Nat) : Nat × Nat := θ.getD j (0, 0)
def sx_rs (ρ : Nat → Int) (σ : List sx_E) : Nat → Int := fun i => sx_ev ρ (sx_sg σ i)
def sx_ts (τ : Nat → Nat) (θ : sx_T) : Nat → Nat := fun j => τ (sx_tg θ j).1 + (sx_tg θ j).2
def sx_sb1 (σ : List sx_E) : List (Nat × Int) → sx_E → sx_E
  | [], acc => acc
  | q :: x, acc => sx_sb1 σ x (sx_ad q.2 acc (sx_sg σ q.1))
def sx_sb (σ : List sx_E) (e : sx_E) : sx_E := sx_sb1 σ e.2 (e.1, [])
theorem sx_sb1_ev (ρ : Nat → Int) (σ : List sx_E) : ∀ (x : List (Nat × Int)) (acc : sx_E), sx_ev ρ (sx_sb1 σ x acc) = sx_ev ρ acc + sx_sm (sx_rs ρ σ) x
  | [], acc => (Int.add_zero _).symm
  | q :: x, acc => by
    show sx_ev ρ (sx_sb1 σ x (sx_ad q.2 acc (sx_sg σ q.1))) = sx_ev ρ acc + (q.2 * sx_ev ρ (sx_sg σ q.1) + sx_sm (sx_rs ρ σ) x)
    rw [sx_sb1_ev ρ σ x, sx_ad_ev]
    omega
theorem sx_sb_ev (ρ : Nat → Int) (σ : List sx_E) (e : sx_E) : sx_ev ρ (sx_sb σ e) = sx_ev (sx_rs ρ σ) e := by
  unfold sx_sb
  rw [sx_sb1_ev]
  show e.1 + 0 + sx_sm (sx_rs ρ σ) e.2 = e.1 + sx_sm (sx_rs ρ σ) e.2
  omega
def sx_wfb (n : Nat) (e : sx_E) : Bool := e.2.all fun q => decide (q.1 < n)
theorem sx_wfb_g {n : Nat} {e : sx_E} (h : sx_wfb n e = true) : sx_wf n e := fun q hq => of_decide_eq_true (List.all_eq_true.mp h q hq)
theorem sx_sg_wf {n : Nat} {σ : List sx_E} (h : σ.all (sx_wfb n) = true) (i : Nat) : sx_wf n (sx_sg σ i) := by
  unfold sx_sg
  rw [List.getD_eq_getElem?_getD]
  cases hi : σ[i]? with
  | none => exact fun _ h => absurd h List.not_mem_nil
  | some e => exact sx_wfb_g (List.all_eq_true.mp h e (List.mem_of_getElem? hi))
theorem sx_sb1_wf {n : Nat} {σ : List sx_E} (h : σ.all (sx_wfb n) = true) : ∀ (x : List (Nat × Int)) (acc : sx_E), sx_wf n acc → sx_wf n (sx_sb1 σ x acc)
  | [], _, ha => ha
  | q :: x, _, ha => sx_sb1_wf h x _ (sx_ad_wf ha (sx_sg_wf h q.1))
theorem sx_sb_wf {n : Nat} {σ : List sx_E} (h : σ.all (sx_wfb n) = true) (e : sx_E) : sx_wf n (sx_sb σ e) := sx_sb1_wf h e.2 _ (fun _ h => absurd h List.not_mem_nil)
def sx_sbV (σ : List sx_E) (θ : sx_T) (A v : sx_V) : Bool := match A, v with
  | .inl e', .inl e => sx_eqE e (sx_sb σ e')
  | .inr (.inl _), .inr (.inl _) => true
  | .inr (.inr r'), .inr (.inr r) => match r'.2.2.2, r.2.2.2 with
    | true, true => true
    | false, false => decide (r'.1 = r.1) && decide ((sx_tg θ r'.2.1).1 = r.2.1) && decide ((sx_tg θ r'.2.1).2 + r'.2.2.1 = r.2.2.1)
    | _, _ => false
  | _, _ => false
def sx_sbL (σ : List sx_E) (θ : sx_T) : sx_L → sx_L → Bool
  | [], [] => true
  | none :: A, _ :: a => sx_sbL σ θ A a
  | some V :: A, some v :: a => sx_sbV σ θ V v && sx_sbL σ θ A a
  | _, _ => false
def sx_sbS (σ : List sx_E) (θ : sx_T) : List sx_V → List sx_V → Bool
  | [], [] => true
  | V :: A, v :: a => sx_sbV σ θ V v && sx_sbS σ θ A a
  | _, _ => false
def sx_sbM (σ : List sx_E) (θ : sx_T) (m : sx_M) (A : sx_M) : Bool := A.all fun q => match sx_look (q.1.1.1, (sx_tg θ q.1.1.2.1).1, (sx_tg θ q.1.1.2.1).2 + q.1.1.2.2) q.1.2 m with
  | some e => sx_eqE e (sx_sb σ q.2)
  | none => false
def sx_sbN (σ : List sx_E) (θ : sx_T) (m : sx_N) (A : sx_N) : Bool := (A.1.all fun q => match sx_lookN (q.1.1.1, (sx_tg θ q.1.1.2.1).1, (sx_tg θ q.1.1.2.1).2 + q.1.1.2.2) q.1.2 m.1 with
  | some e => decide (e.1 = (sx_tg θ q.2.1).1) && decide (e.2 = (sx_tg θ q.2.1).2 + q.2.2)
  | none => false) && A.2.all fun q => match sx_lookA (q.1.1, (sx_tg θ q.1.2.1).1, (sx_tg θ q.1.2.1).2 + q.1.2.2) (sx_sb σ q.2.1) m.2 with
  | some e => sx_eqE e (sx_sb σ q.2.2)
  | none => false
def sx_sbI (iv : sx_I) (fs : List sx_E) : List sx_E → sx_I → Bool
  | [], [] => true
  | e :: σ, g :: A => sx_in iv fs e g && sx_sbI iv fs σ A
  | _, _ => false
def sx_sbK (σ : List sx_E) (a : sx_C) (A : sx_K) : Bool := A.all fun q => match sx_cd 0 (sx_sb σ q.1) (sx_c q.2.1) a with
  | none => true
  | some b => q.2.2.all fun f => decide (0 ≤ sx_low b.2.2.2.2.2.1 b.2.2.2.2.2.2.1 (sx_sb σ f))
/-- what is used was made before -/
def sx_wbV (n t : Nat) (a : sx_V) : Bool := match a with
  | .inl e => sx_wfb n e
  | .inr (.inl _) => true
  | .inr (.inr r) => decide (r.2.1 < t)
def sx_wbC (a : sx_C) : Bool := match a with
  | (_, aL, st, m, nn, iv, fs, k, t) => (aL.all fun v => match v with
      | some v => sx_wbV iv.length t v
      | none => true) && st.all (sx_wbV iv.length t) && (m.all fun q => decide (q.1.1.2.1 < t) && sx_wfb iv.length q.2) && (nn.1.all fun q => decide (q.1.1.2.1 < t) && decide (q.2.1 < t)) && (nn.2.all fun q => decide (q.1.2.1 < t) && sx_wfb iv.length q.2.1 && sx_wfb iv.length q.2.2) && fs.all (sx_wfb iv.length) && k.all fun q => sx_wfb iv.length q.1 && q.2.2.all (sx_wfb iv.length)
def sx_sub (σ : List sx_E) (θ : sx_T) (A a : sx_C) : Bool := match A, a with
  | (_, AL, As, Am, An, Ai, Af, Ak, _), (pc, aL, st, m, nn, iv, fs, k, t) => σ.all (sx_wfb iv.length) && sx_sbL σ θ AL aL && sx_sbS σ θ As st && sx_sbM σ θ m Am && sx_sbN σ θ nn An && sx_sbI iv fs σ Ai && (Af.all fun f => decide (0 ≤ sx_low iv fs (sx_sb σ f))) && sx_sbK σ (pc, aL, st, m, nn, iv, fs, k, t) Ak
section SN
variable {ρ : Nat → Int} {τ : Nat → Nat} {σ : List sx_E} {θ : sx_T}
theorem sx_sbV_g {A v : sx_V} {u : sm_V} (h : sx_sbV σ θ A v = true) (g : sx_gV ρ τ v u) : sx_gV (sx_rs ρ σ) (sx_ts τ θ) A u := by
  unfold sx_sbV at h
  split at h
  · rename_i e' e
    have h := sx_eqE_g h
    rcases u with u | u | u
    · have g : sx_ev ρ e = u := g
      show sx_ev (sx_rs ρ σ) e' = u
      rw [← sx_sb_ev, ← h]
      exact g
    · exact g.elim
    · exact g.elim
  · rcases u with u | u | u
    · exact g.elim
    · trivial
    · exact g.elim
  · rename_i r' r
    rcases u with u | u | u
    · exact g.elim
    · exact g.elim
    · have g : u = cond r.2.2.2 none (some (r.1, τ r.2.1 + r.2.2.1)) := g
      show u = cond r'.2.2.2 none (some (r'.1, sx_ts τ θ r'.2.1 + r'.2.2.1))
      split at h
      · rename_i e1 e2
        rw [e2] at g
        rw [e1]
        exact g
      · rename_i e1 e2
        rw [e2] at g
        rw [e1]
        simp only [Bool.and_eq_true, decide_eq_true_eq] at h
        obtain ⟨⟨h1, h2⟩, h3⟩ := h
        rw [g]
        show some (r.1, τ r.2.1 + r.2.2.1) = some (r'.1, τ (sx_tg θ r'.2.1).1 + (sx_tg θ r'.2.1).2 + r'.2.2.1)
        rw [h1, h2, ← h3, Nat.add_assoc]
      · cases h
  · cases h
theorem sx_sbL_g : ∀ {A a : sx_L}, sx_sbL σ θ A a = true → A.length = a.length ∧ ∀ j V, A.getD j none = some V → ∃ v, a.getD j none = some v ∧ sx_sbV σ θ V v = true
  | [], [], _ => ⟨rfl, fun j V h => by cases j <;> cases h⟩
  | none :: A, x :: a, h => by
    have h : sx_sbL σ θ A a = true := by
      cases x <;> exact h
    obtain ⟨h1, h2⟩ := sx_sbL_g h
    refine ⟨congrArg (· + 1) h1, fun j V hj => ?_⟩
    cases j with
    | zero => cases hj
    | succ j => exact h2 j V hj
  | some V0 :: A, some v0 :: a, h => by
    simp only [sx_sbL, Bool.and_eq_true] at h
    obtain ⟨h1, h2⟩ := sx_sbL_g h.2
    refine ⟨congrArg (· + 1) h1, fun j V hj => ?_⟩
    cases j with
    | zero => cases hj; exact ⟨v0, rfl, h.1⟩
    | succ j => exact h2 j V hj
  | some _ :: _, none :: _, h => by simp [sx_sbL] at h
  | [], _ :: _, h => by simp [sx_sbL] at h
  | none :: _, [], h => by simp [sx_sbL] at h
  | some _ :: _, [], h => by simp [sx_sbL] at h
theorem sx_sbS_g : ∀ {A a : List sx_V} {vs : List sm_V}, sx_sbS σ θ A a = true → sx_gS ρ τ a vs → sx_gS (sx_rs ρ σ) (sx_ts τ θ) A vs
  | [], [], [], _, _ => trivial
  | V :: A, v :: a, u :: vs, h, g => by
    simp only [sx_sbS, Bool.and_eq_true] at h
    exact ⟨sx_sbV_g h.1 g.1, sx_sbS_g h.2 g.2⟩
  | [], [], _ :: _, _, g => g.elim
  | _ :: _, _ :: _, [], _, g => g.elim
  | [], _ :: _, _, h, _ => by simp [sx_sbS] at h
  | _ :: _, [], _, h, _ => by simp [sx_sbS] at h
theorem sx_sbI_g {iv : sx_I} {fs : List sx_E} (gi : sx_iv ρ iv) (gf : sx_fs ρ iv.length fs) : ∀ {σ : List sx_E} {A : sx_I}, σ.all (sx_wfb iv.length) = true → sx_sbI iv fs σ A = true → ∀ i, i < A.length → (sx_g A i).1 ≤ sx_ev ρ (sx_sg σ i) ∧ sx_ev ρ (sx_sg σ i) ≤ (sx_g A i).2
  | [], [], _, _, i, hi => absurd hi (Nat.not_lt_zero _)
  | e :: σ, g :: A, hw, h, i, hi => by
    simp only [sx_sbI, Bool.and_eq_true] at h
    simp only [List.all_cons, Bool.and_eq_true] at hw
    cases i with
    | zero => exact sx_in_g gi gf (sx_wfb_g hw.1) h.1
    | succ i => exact sx_sbI_g gi gf hw.2 h.2 i (Nat.lt_of_succ_lt_succ hi)
  | [], _ :: _, _, h, _, _ => by simp [sx_sbI] at h
  | _ :: _, [], _, h, _, _ => by simp [sx_sbI] at h
theorem sx_wbV_g {n t : Nat} {a : sx_V} (h : sx_wbV n t a = true) : sx_wV n t a := by
  rcases a with e | u | r
  · exact sx_wfb_g h
  · trivial
  · have h : decide (r.2.1 < t) = true := h
    exact (of_decide_eq_true h : r.2.1 < t)
theorem sx_sub_g {A a : sx_C} {c : sm_C} (h : sx_sub σ θ A a = true) (hw : sx_wbC A = true) (g : sx_gC ρ τ a c) : sx_gC (sx_rs ρ σ) (sx_ts τ θ) A (A.1, c.2) := by
  obtain ⟨Ap, AL, As, Am, An, Ai, Af, Ak, At⟩ := A
  obtain ⟨pc, aL, st, m, nn, iv, fs, k, t⟩ := a
  obtain ⟨pc0, L, vs, S⟩ := c
  obtain ⟨-, ⟨gL, wL⟩, ⟨gS, wS⟩, ⟨gM, wM⟩, ⟨gN, wN⟩, gi, gf, gk, wk⟩ := id g
  simp only [sx_sub, Bool.and_eq_true] at h
  obtain ⟨⟨⟨⟨⟨⟨⟨h0, h1⟩, h2⟩, h3⟩, h4⟩, h5⟩, h6⟩, h7⟩ := h
  simp only [sx_wbC, Bool.and_eq_true] at hw
  obtain ⟨⟨⟨⟨⟨⟨w1, w2⟩, w3⟩, w4⟩, w7⟩, w5⟩, w6⟩ := hw
  obtain ⟨l1, l2⟩ := sx_sbL_g h1
  refine ⟨rfl, ⟨⟨l1.trans gL.1, fun j V hj => ?_⟩, fun j V hj => ?_⟩, ⟨sx_sbS_g h2 gS, fun V hV => sx_wbV_g (List.all_eq_true.mp w2 V hV)⟩, ⟨fun q hq => ?_, fun q hq => ?_⟩, ⟨⟨fun q hq => ?_, fun q hq => ?_⟩, ⟨fun q hq => ?_, fun q hq => ?_⟩⟩, fun i hi => sx_sbI_g gi gf h0 h5 i hi, fun f hf => ⟨sx_wfb_g (List.all_eq_true.mp w5 f hf), ?_⟩, fun q hq e f hf => ?_, fun q hq => ?_⟩
  · obtain ⟨v, e1, e2⟩ := l2 j V hj
    obtain ⟨u, e3, e4⟩ := gL.2 j v e1
    exact ⟨u, e3, sx_sbV_g e2 e4⟩
  · have hm : some V ∈ AL := by
      rw [List.getD_eq_getElem?_getD] at hj
      cases hx : AL[j]? with
      | none => rw [hx] at hj; cases hj
      | some x =>
        rw [hx] at hj
        have hj : x = some V := hj
        rw [hj] at hx
        exact List.mem_of_getElem? hx
    exact sx_wbV_g (List.all_eq_true.mp w1 _ hm)
  · have hq1 := List.all_eq_true.mp h3 q hq
    split at hq1
    · rename_i e he
      have e1 := gM _ (sx_look_mem he)
      have e2 := sx_eqE_g hq1
      dsimp only at e1
      show S.1 q.1.1.1 (τ (sx_tg θ q.1.1.2.1).1 + (sx_tg θ q.1.1.2.1).2 + q.1.1.2.2) q.1.2 = sx_ev (sx_rs ρ σ) q.2
      rw [← sx_sb_ev, ← e2, ← e1, Nat.add_assoc]
    · cases hq1
  · have := List.all_eq_true.mp w3 q hq
    simp only [Bool.and_eq_true, decide_eq_true_eq] at this
    exact ⟨this.1, sx_wfb_g this.2⟩
  · unfold sx_sbN at h4
    simp only [Bool.and_eq_true] at h4
    have hq1 := List.all_eq_true.mp h4.1 q hq
    split at hq1
    · rename_i e he
      have e1 := gN.1 _ (sx_lookN_mem he)
      simp only [Bool.and_eq_true, decide_eq_true_eq] at hq1
      dsimp only at e1
      show S.2.1 q.1.1.1 (τ (sx_tg θ q.1.1.2.1).1 + (sx_tg θ q.1.1.2.1).2 + q.1.1.2.2) q.1.2 = some (τ (sx_tg θ q.2.1).1 + (sx_tg θ q.2.1).2 + q.2.2)
      rw [Nat.add_assoc, e1, hq1.1, hq1.2, Nat.add_assoc]
    · cases hq1
  · unfold sx_sbN at h4
    simp only [Bool.and_eq_true] at h4
    have hq1 := List.all_eq_true.mp h4.2 q hq
    split at hq1
    · rename_i e he
      have e1 := gN.2 _ (sx_lookA_mem he)
      have e2 := sx_eqE_g hq1
      unfold sx_gA at e1 ⊢
      dsimp only at e1 ⊢
      show if q.1.1 = 999 then (sx_ev (sx_rs ρ σ) q.2.1).toNat = τ (sx_tg θ q.1.2.1).1 + (sx_tg θ q.1.2.1).2 + q.1.2.2 else S.2.2.1 q.1.1 (τ (sx_tg θ q.1.2.1).1 + (sx_tg θ q.1.2.1).2 + q.1.2.2) (sx_ev (sx_rs ρ σ) q.2.1).toNat = sx_ev (sx_rs ρ σ) q.2.2
      rw [← sx_sb_ev, ← sx_sb_ev, ← e2, Nat.add_assoc]
      exact e1
    · cases hq1
  · have := List.all_eq_true.mp w4 q hq
    simp only [Bool.and_eq_true, decide_eq_true_eq] at this
    exact this
  · have := List.all_eq_true.mp w7 q hq
    simp only [Bool.and_eq_true, decide_eq_true_eq] at this
    exact ⟨this.1.1, sx_wfb_g this.1.2, sx_wfb_g this.2⟩
  · have h9 := of_decide_eq_true (List.all_eq_true.mp h6 f hf)
    have h8 := sx_low_le gi gf (sx_sb_wf h0 f)
    rw [sx_sb_ev] at h8
    omega
  · have hq1 := List.all_eq_true.mp h7 q hq
    obtain ⟨b, b1, b2, b3⟩ := sx_cd_g (k := 0) (x := sx_sb σ q.1) (y := sx_c q.2.1) g (sx_sb_wf h0 _) (sx_c_wf _ _) (by rw [sx_sb_ev, sx_c_ev]; exact decide_eq_true e)
    rw [b1] at hq1
    have h9 := of_decide_eq_true (List.all_eq_true.mp hq1 f hf)
    have hb := sx_bd (e := sx_sb σ f) b2 (by rw [b3.2.2.2]; exact sx_sb_wf h0 f)
    rw [sx_sb_ev] at hb
    omega
  · have := List.all_eq_true.mp w6 q hq
    simp only [Bool.and_eq_true] at this
    exact ⟨sx_wfb_g this.1, fun f hf => sx_wfb_g (List.all_eq_true.mp this.2 f hf)⟩
end SN
