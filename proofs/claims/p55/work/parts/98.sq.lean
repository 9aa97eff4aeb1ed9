/-! what a method promises; calls -/
abbrev sx_Wl : Type := List (Nat × Nat) × List Nat × List (Nat × Nat)
def sx_W (w : sx_Wl) : ai_W := (fun t k => w.1.any fun q => decide (q.1 = t) && decide (q.2 = k), fun t => w.2.1.any fun q => decide (q = t), fun t k => w.2.2.any fun q => decide (q.1 = t) && decide (q.2 = k))
/-- before, behind, which exceptions, how many are made (if it returns, if it throws), what is written -/
abbrev sx_Sp : Type := sx_C × sx_C × List Nat × (Nat × Nat) × sx_Wl
/-- intervals of fields and arrays, and what only special steps may write -/
abbrev sx_G : Type := (Nat → Nat → Int × Int) × (Nat → Int × Int) × sx_Wl
def sx_ty (I : sm_S → Prop) (sp : sx_Sp) (ρ0 : Nat → Int) (τ0 : Nat → Nat) (S0 : sm_S) (r : sm_R) : Prop := I r.2.1 ∧ ai_fr (sx_W sp.2.2.2.2) S0 r.2.1 ∧ ((∃ u, r.1 = .inl u ∧ r.2.2 ≤ sp.2.2.2.1.1 ∧ ∃ ρ τ, sx_lk sp.1.2.2.2.2.2.1.length sp.1.2.2.2.2.2.2.2.2 ρ0 ρ τ0 τ ∧ sx_gC ρ τ sp.2.1 (sp.2.1.1, [], u.toList, r.2.1)) ∨ ∃ ex, r.1 = .inr ex ∧ ex ∈ sp.2.2.1 ∧ r.2.2 ≤ sp.2.2.2.1.2)
def sx_safe (P : sm_P) (I : sm_S → Prop) (d mid : Nat) (sp : sx_Sp) : Prop := ∀ (ρ : Nat → Int) (τ : Nat → Nat) (L : sm_L) (S : sm_S), τ 0 = 0 → sx_gC ρ τ sp.1 (sp.1.1, L, [], S) → I S → sm_T P d mid (0, L, [], S) (sx_ty I sp ρ τ S)
/-! substitution into states -/
def sx_sV (σ : List sx_E) (θ : sx_T) (a : sx_V) : sx_V := match a with
  | .inl e => .inl (sx_sb σ e)
  | .inr (.inl u) => .inr (.inl u)
  | .inr (.inr r) => .inr (.inr (r.1, (sx_tg θ r.2.1).1, (sx_tg θ r.2.1).2 + r.2.2.1, r.2.2.2))
def sx_sM (σ : List sx_E) (θ : sx_T) (m : sx_M) : sx_M := m.map fun q => (((q.1.1.1, (sx_tg θ q.1.1.2.1).1, (sx_tg θ q.1.1.2.1).2 + q.1.1.2.2), q.1.2), sx_sb σ q.2)
def sx_sN (σ : List sx_E) (θ : sx_T) (m : sx_N) : sx_N := (m.1.map fun q => (((q.1.1.1, (sx_tg θ q.1.1.2.1).1, (sx_tg θ q.1.1.2.1).2 + q.1.1.2.2), q.1.2), ((sx_tg θ q.2.1).1, (sx_tg θ q.2.1).2 + q.2.2)), m.2.map fun q => ((q.1.1, (sx_tg θ q.1.2.1).1, (sx_tg θ q.1.2.1).2 + q.1.2.2), sx_sb σ q.2.1, sx_sb σ q.2.2))
/-- what a callee doesn't write stays -/
def sx_fN (W : ai_W) (m : sx_N) : sx_N := (m.1.filter (fun q => !W.2.2 q.1.1.1 q.1.2), m.2.filter (fun q => !W.2.1 q.1.1))
def sx_pN (m m' : sx_N) : sx_N := (m.1 ++ m'.1, m.2 ++ m'.2)
def sx_sK (σ : List sx_E) (k : sx_K) : sx_K := k.map fun q => (sx_sb σ q.1, q.2.1, q.2.2.map (sx_sb σ))
/-- facts taken up one behind the other -/
def sx_asl : List sx_E → sx_C → Option sx_C
  | [], a => some a
  | f :: fs, a => match sx_as f a with
    | none => none
    | some b => sx_asl fs b
/-- what is told of the arguments' numbers by narrower intervals -/
def sx_nw (σ : List sx_E) : sx_I → sx_I → List sx_E
  | [], _ => []
  | _ :: _, [] => []
  | p :: ps, q :: qs => match σ with
    | [] => []
    | e :: σ' => (if p.1 < q.1 then [sx_ad (-1) e (q.1, [])] else []) ++ (if q.2 < p.2 then [sx_ad (-1) (q.2, []) e] else []) ++ sx_nw σ' ps qs
def sx_s1x (σ : List sx_E) (n x : Nat) : List sx_E := σ ++ (List.range x).map fun i => sx_a (n + i)
def sx_t1x (θ : sx_T) (t x : Nat) : sx_T := θ ++ (List.range x).map fun j => (t + j, 0)
def sx_rt (sp : sx_Sp) (σ : List sx_E) (θ : sx_T) (pc : Nat) (aL : sx_L) (rest : List sx_V) (b : sx_C) : Option sx_C := match sp.2.1, b with
  | (_, _, Qs, Qm, Qn, Qi, Qf, Qk, Qt), (_, _, _, m, nn, iv, fs, k, t) =>
    let kA := sp.1.2.2.2.2.2.1.length
    let kT := sp.1.2.2.2.2.2.2.2.2
    let σ' := sx_s1x σ iv.length (Qi.length - kA)
    let θ' := sx_t1x θ t (Qt - kT)
    sx_asl (sx_nw σ sp.1.2.2.2.2.2.1 Qi ++ Qf.map (sx_sb σ')) (pc, aL, Qs.map (sx_sV σ' θ') ++ rest, sx_sM σ' θ' Qm ++ m.filter (fun q => !(sx_W sp.2.2.2.2).1 q.1.1.1 q.1.2), sx_pN (sx_sN σ' θ' Qn) (sx_fN (sx_W sp.2.2.2.2) nn), iv ++ Qi.drop kA, fs, sx_sK σ' Qk ++ k, t + (Qt - kT))
section SQ
variable {ρ : Nat → Int} {τ : Nat → Nat} {σ : List sx_E} {θ : sx_T}
theorem sx_sV_g {a : sx_V} {u : sm_V} (h : sx_gV (sx_rs ρ σ) (sx_ts τ θ) a u) : sx_gV ρ τ (sx_sV σ θ a) u := by
  rcases a with e | x | r
  · rcases u with u | u | u
    · show sx_ev ρ (sx_sb σ e) = u
      rw [sx_sb_ev]
      exact h
    · exact h.elim
    · exact h.elim
  · rcases u with u | u | u
    · exact h.elim
    · trivial
    · exact h.elim
  · rcases u with u | u | u
    · exact h.elim
    · exact h.elim
    · have h : u = cond r.2.2.2 none (some (r.1, τ (sx_tg θ r.2.1).1 + (sx_tg θ r.2.1).2 + r.2.2.1)) := h
      show u = cond r.2.2.2 none (some (r.1, τ (sx_tg θ r.2.1).1 + ((sx_tg θ r.2.1).2 + r.2.2.1)))
      rw [← Nat.add_assoc]
      exact h
theorem sx_sS_g : ∀ {as : List sx_V} {us : List sm_V} {rest : List sx_V} {vs : List sm_V}, sx_gS (sx_rs ρ σ) (sx_ts τ θ) as us → sx_gS ρ τ rest vs → sx_gS ρ τ (as.map (sx_sV σ θ) ++ rest) (us ++ vs)
  | [], [], _, _, _, g => g
  | _ :: _, _ :: _, _, _, h, g => ⟨sx_sV_g h.1, sx_sS_g h.2 g⟩
  | [], _ :: _, _, _, h, _ => h.elim
  | _ :: _, [], _, _, h, _ => h.elim
theorem sx_sM_g {S : sm_S} {m : sx_M} (h : sx_gM (sx_rs ρ σ) (sx_ts τ θ) S m) : sx_gM ρ τ S (sx_sM σ θ m) := by
  intro q hq
  obtain ⟨p, hp, rfl⟩ := List.mem_map.mp hq
  have h1 := h p hp
  dsimp only
  rw [sx_sb_ev, ← h1]
  show S.1 p.1.1.1 (τ (sx_tg θ p.1.1.2.1).1 + ((sx_tg θ p.1.1.2.1).2 + p.1.1.2.2)) p.1.2 = S.1 p.1.1.1 (τ (sx_tg θ p.1.1.2.1).1 + (sx_tg θ p.1.1.2.1).2 + p.1.1.2.2) p.1.2
  rw [Nat.add_assoc]
theorem sx_sN_g {S : sm_S} {m : sx_N} (h : sx_gN (sx_rs ρ σ) (sx_ts τ θ) S m) : sx_gN ρ τ S (sx_sN σ θ m) := by
  refine ⟨fun q hq => ?_, fun q hq => ?_⟩
  · obtain ⟨p, hp, rfl⟩ := List.mem_map.mp hq
    have h1 : S.2.1 p.1.1.1 (τ (sx_tg θ p.1.1.2.1).1 + (sx_tg θ p.1.1.2.1).2 + p.1.1.2.2) p.1.2 = some (τ (sx_tg θ p.2.1).1 + (sx_tg θ p.2.1).2 + p.2.2) := h.1 p hp
    show S.2.1 p.1.1.1 (τ (sx_tg θ p.1.1.2.1).1 + ((sx_tg θ p.1.1.2.1).2 + p.1.1.2.2)) p.1.2 = some (τ (sx_tg θ p.2.1).1 + ((sx_tg θ p.2.1).2 + p.2.2))
    rw [← Nat.add_assoc, ← Nat.add_assoc]
    exact h1
  · obtain ⟨p, hp, rfl⟩ := List.mem_map.mp hq
    have h1 : if p.1.1 = 999 then (sx_ev (sx_rs ρ σ) p.2.1).toNat = τ (sx_tg θ p.1.2.1).1 + (sx_tg θ p.1.2.1).2 + p.1.2.2 else S.2.2.1 p.1.1 (τ (sx_tg θ p.1.2.1).1 + (sx_tg θ p.1.2.1).2 + p.1.2.2) (sx_ev (sx_rs ρ σ) p.2.1).toNat = sx_ev (sx_rs ρ σ) p.2.2 := h.2 p hp
    show if p.1.1 = 999 then (sx_ev ρ (sx_sb σ p.2.1)).toNat = τ (sx_tg θ p.1.2.1).1 + ((sx_tg θ p.1.2.1).2 + p.1.2.2) else S.2.2.1 p.1.1 (τ (sx_tg θ p.1.2.1).1 + ((sx_tg θ p.1.2.1).2 + p.1.2.2)) (sx_ev ρ (sx_sb σ p.2.1)).toNat = sx_ev ρ (sx_sb σ p.2.2)
    rw [← Nat.add_assoc, sx_sb_ev, sx_sb_ev]
    exact h1
theorem sx_fN_g {W : ai_W} {S S1 : sm_S} {m : sx_N} (h : sx_gN ρ τ S m) (hf : ai_fr W S S1) : sx_gN ρ τ S1 (sx_fN W m) := by
  refine ⟨fun q hq => ?_, fun q hq => ?_⟩
  · obtain ⟨m1, m2⟩ := List.mem_filter.mp hq
    rw [hf.2.1 _ _ _ (by simpa using m2)]
    exact h.1 q m1
  · obtain ⟨m1, m2⟩ := List.mem_filter.mp hq
    have := h.2 q m1
    unfold sx_gA at this ⊢
    rw [(hf.2.2 _ (by simpa using m2) _ _).1]
    exact this
theorem sx_fN_w {n t : Nat} {W : ai_W} {m : sx_N} (h : sx_wN n t m) : sx_wN n t (sx_fN W m) := ⟨fun q hq => h.1 q (List.mem_filter.mp hq).1, fun q hq => h.2 q (List.mem_filter.mp hq).1⟩
theorem sx_pN_g {S : sm_S} {m m' : sx_N} (h : sx_gN ρ τ S m) (h' : sx_gN ρ τ S m') : sx_gN ρ τ S (sx_pN m m') := ⟨fun q hq => (List.mem_append.mp hq).elim (h.1 q) (h'.1 q), fun q hq => (List.mem_append.mp hq).elim (h.2 q) (h'.2 q)⟩
theorem sx_pN_w {n t : Nat} {m m' : sx_N} (h : sx_wN n t m) (h' : sx_wN n t m') : sx_wN n t (sx_pN m m') := ⟨fun q hq => (List.mem_append.mp hq).elim (h.1 q) (h'.1 q), fun q hq => (List.mem_append.mp hq).elim (h.2 q) (h'.2 q)⟩
theorem sx_sK_g {k : sx_K} (h : sx_gK (sx_rs ρ σ) k) : sx_gK ρ (sx_sK σ k) := by
  intro q hq e f hf
  obtain ⟨p, hp, rfl⟩ := List.mem_map.mp hq
  obtain ⟨f0, hf0, rfl⟩ := List.mem_map.mp hf
  rw [sx_sb_ev] at e ⊢
  exact h p hp e f0 hf0
theorem sx_asl_g : ∀ {fs : List sx_E} {a : sx_C} {c : sm_C}, sx_gC ρ τ a c → (∀ f ∈ fs, sx_wf a.2.2.2.2.2.1.length f ∧ 0 ≤ sx_ev ρ f) → ∃ b, sx_asl fs a = some b ∧ sx_gC ρ τ b c ∧ b.2.2.2.2.2.1.length = a.2.2.2.2.2.1.length
  | [], a, c, g, _ => ⟨a, rfl, g, rfl⟩
  | f :: fs, a, c, g, h => by
    obtain ⟨w, p⟩ := h f List.mem_cons_self
    obtain ⟨a1, e1, g1, -, -, -, l1⟩ := sx_as_g g w p
    obtain ⟨b, e2, g2, l2⟩ := sx_asl_g (fs := fs) g1 (fun x hx => by rw [l1]; exact h x (List.mem_cons_of_mem _ hx))
    refine ⟨b, ?_, g2, l2.trans l1⟩
    unfold sx_asl
    rw [e1]
    exact e2
theorem sx_nw_g {n : Nat} : ∀ {σ : List sx_E} {p q : sx_I}, σ.all (sx_wfb n) = true → (∀ i, i < q.length → i < p.length → (sx_g q i).1 ≤ sx_ev ρ (sx_sg σ i) ∧ sx_ev ρ (sx_sg σ i) ≤ (sx_g q i).2) → ∀ f ∈ sx_nw σ p q, sx_wf n f ∧ 0 ≤ sx_ev ρ f
  | _, [], _, _, _, f, hf => by simp [sx_nw] at hf
  | _, _ :: _, [], _, _, f, hf => by simp [sx_nw] at hf
  | [], _ :: _, _ :: _, _, _, f, hf => by simp [sx_nw] at hf
  | e :: σ, p :: ps, q :: qs, hw, h, f, hf => by
    simp only [List.all_cons, Bool.and_eq_true] at hw
    have h0 := h 0 (Nat.succ_pos _) (Nat.succ_pos _)
    have h0 : q.1 ≤ sx_ev ρ e ∧ sx_ev ρ e ≤ q.2 := h0
    have we : sx_wf n e := sx_wfb_g hw.1
    have wc : ∀ z : Int, sx_wf n (z, []) := fun z _ hx => absurd hx List.not_mem_nil
    have vc : ∀ z : Int, sx_ev ρ (z, []) = z := fun z => Int.add_zero z
    unfold sx_nw at hf
    dsimp only at hf
    rcases List.mem_append.mp hf with hf | hf
    · rcases List.mem_append.mp hf with hf | hf
      · split at hf
        · rw [List.mem_singleton.mp hf]
          refine ⟨sx_ad_wf we (wc _), ?_⟩
          rw [sx_ad_ev, vc]
          omega
        · exact absurd hf List.not_mem_nil
      · split at hf
        · rw [List.mem_singleton.mp hf]
          refine ⟨sx_ad_wf (wc _) we, ?_⟩
          rw [sx_ad_ev, vc]
          omega
        · exact absurd hf List.not_mem_nil
    · exact sx_nw_g hw.2 (fun i hi hj => h (i + 1) (Nat.succ_lt_succ hi) (Nat.succ_lt_succ hj)) f hf
theorem sx_s1x_lt {n x i : Nat} (h : i < σ.length) : sx_sg (sx_s1x σ n x) i = sx_sg σ i := by
  unfold sx_sg sx_s1x
  rw [List.getD_eq_getElem?_getD, List.getD_eq_getElem?_getD, List.getElem?_append_left h]
theorem sx_s1x_ge {n x i : Nat} (h : i < x) : sx_sg (sx_s1x σ n x) (σ.length + i) = sx_a (n + i) := by
  unfold sx_sg sx_s1x
  rw [List.getD_eq_getElem?_getD, List.getElem?_append_right (Nat.le_add_right _ _), Nat.add_sub_cancel_left, List.getElem?_map, List.getElem?_range h]
  rfl
theorem sx_t1x_lt {t x i : Nat} (h : i < θ.length) : sx_tg (sx_t1x θ t x) i = sx_tg θ i := by
  unfold sx_tg sx_t1x
  rw [List.getD_eq_getElem?_getD, List.getD_eq_getElem?_getD, List.getElem?_append_left h]
theorem sx_t1x_ge {t x i : Nat} (h : i < x) : sx_tg (sx_t1x θ t x) (θ.length + i) = (t + i, 0) := by
  unfold sx_tg sx_t1x
  rw [List.getD_eq_getElem?_getD, List.getElem?_append_right (Nat.le_add_right _ _), Nat.add_sub_cancel_left, List.getElem?_map, List.getElem?_range h]
  rfl
theorem sx_tg_lt {t : Nat} (h0 : 0 < t) (h : θ.all (fun q => decide (q.1 < t)) = true) (j : Nat) : (sx_tg θ j).1 < t := by
  unfold sx_tg
  rw [List.getD_eq_getElem?_getD]
  cases hi : θ[j]? with
  | none => exact h0
  | some e => exact of_decide_eq_true (List.all_eq_true.mp h e (List.mem_of_getElem? hi))
/-- behind a call -/
theorem sx_rt_g {sp : sx_Sp} {pc pcb : Nat} {aL : sx_L} {rest : List sx_V} {b : sx_C} {L Lb : sm_L} {vb us vs : List sm_V} {S S1 : sm_S} {ρQ : Nat → Int} {τQ : Nat → Nat}
    (hQ : sx_gC ρQ τQ sp.2.1 (sp.2.1.1, [], us, S1)) (hl : sx_lk sp.1.2.2.2.2.2.1.length sp.1.2.2.2.2.2.2.2.2 (sx_rs ρ σ) ρQ (sx_ts τ θ) τQ) (gb : sx_gC ρ τ b (pcb, Lb, vb, S))
    (gL : sx_gL ρ τ aL L) (wL : sx_wL b.2.2.2.2.2.1.length b.2.2.2.2.2.2.2.2 aL) (gS : sx_gS ρ τ rest vs) (wS : sx_wS b.2.2.2.2.2.1.length b.2.2.2.2.2.2.2.2 rest) (hfr : ai_fr (sx_W sp.2.2.2.2) S S1)
    (h1 : σ.all (sx_wfb b.2.2.2.2.2.1.length) = true) (h2 : σ.length = sp.1.2.2.2.2.2.1.length) (h3 : θ.length = sp.1.2.2.2.2.2.2.2.2) (h4 : θ.all (fun q => decide (q.1 < b.2.2.2.2.2.2.2.2)) = true) (h5 : 0 < b.2.2.2.2.2.2.2.2) (h6 : sp.1.2.2.2.2.2.1.length ≤ sp.2.1.2.2.2.2.2.1.length) (h7 : sp.1.2.2.2.2.2.2.2.2 ≤ sp.2.1.2.2.2.2.2.2.2.2) :
    ∃ b1 ρ' τ', sx_rt sp σ θ pc aL rest b = some b1 ∧ sx_gC ρ' τ' b1 (pc, L, us ++ vs, S1) ∧ sx_lk b.2.2.2.2.2.1.length b.2.2.2.2.2.2.2.2 ρ ρ' τ τ' := by
  obtain ⟨⟨Pp, PL, Ps, Pm, Pn, Pi, Pf, Pk, Pt⟩, ⟨Qp, QL, Qs, Qm, Qn, Qi, Qf, Qk, Qt⟩, th, cc, W⟩ := sp
  obtain ⟨pb, bL, bs, m, nn, iv, fs, k, t⟩ := b
  dsimp only at hQ hl gb wL wS hfr h1 h2 h3 h4 h5 h6 h7 ⊢
  obtain ⟨-, -, ⟨qS, uS⟩, ⟨qM, uM⟩, ⟨qN, uN⟩, qi, qf, qk, uk⟩ := hQ
  obtain ⟨-, -, -, ⟨gM, wM⟩, ⟨gN, wN⟩, gi, gf, gk, wk⟩ := gb
  dsimp only at qS qM qN gM gN
  let ρ' : Nat → Int := fun x => if x < iv.length then ρ x else ρQ (Pi.length + (x - iv.length))
  let τ' : Nat → Nat := fun x => if x < t then τ x else τQ (Pt + (x - t))
  have lk1 : sx_lk iv.length t ρ ρ' τ τ' := ⟨fun a ha => if_pos ha, fun a ha => if_pos ha⟩
  -- the new valuation, read through the substitution, is the callee's
  have lkQ : sx_lk Qi.length Qt ρQ (sx_rs ρ' (sx_s1x σ iv.length (Qi.length - Pi.length))) τQ (sx_ts τ' (sx_t1x θ t (Qt - Pt))) := by
    refine ⟨fun i hi => ?_, fun j hj => ?_⟩
    · by_cases c : i < Pi.length
      · unfold sx_rs
        rw [sx_s1x_lt (by rw [h2]; exact c), sx_ev_up lk1.1 (sx_sg_wf h1 i)]
        exact (hl.1 i c).symm
      · obtain ⟨x, rfl⟩ : ∃ x, i = σ.length + x := ⟨i - σ.length, by omega⟩
        unfold sx_rs
        rw [sx_s1x_ge (by omega), sx_a_ev]
        show (if iv.length + x < iv.length then ρ (iv.length + x) else ρQ (Pi.length + (iv.length + x - iv.length))) = ρQ (σ.length + x)
        rw [if_neg (by omega), Nat.add_sub_cancel_left, h2]
    · by_cases c : j < Pt
      · unfold sx_ts
        rw [sx_t1x_lt (by rw [h3]; exact c)]
        have e1 : τ' (sx_tg θ j).1 = τ (sx_tg θ j).1 := if_pos (sx_tg_lt h5 h4 j)
        rw [e1]
        exact (hl.2 j c).symm
      · obtain ⟨x, rfl⟩ : ∃ x, j = θ.length + x := ⟨j - θ.length, by omega⟩
        unfold sx_ts
        rw [sx_t1x_ge (by omega)]
        show (if t + x < t then τ (t + x) else τQ (Pt + (t + x - t))) + 0 = τQ (θ.length + x)
        rw [if_neg (by omega), Nat.add_sub_cancel_left, h3]
        rfl
  have hn : (iv ++ Qi.drop Pi.length).length = iv.length + (Qi.length - Pi.length) := by rw [List.length_append, List.length_drop]
  have le1 : iv.length ≤ (iv ++ Qi.drop Pi.length).length := by omega
  have le2 : t ≤ t + (Qt - Pt) := Nat.le_add_right _ _
  -- substituted things are made of what is there
  have wsg : (sx_s1x σ iv.length (Qi.length - Pi.length)).all (sx_wfb (iv ++ Qi.drop Pi.length).length) = true := by
    rw [List.all_eq_true]
    intro e he
    rcases List.mem_append.mp he with he | he
    · have := sx_wf_mono le1 (sx_wfb_g (List.all_eq_true.mp h1 e he))
      exact List.all_eq_true.mpr fun q hq => decide_eq_true (this q hq)
    · obtain ⟨i, hi, rfl⟩ := List.mem_map.mp he
      have hi := List.mem_range.mp hi
      exact List.all_eq_true.mpr fun q hq => by
        rw [List.mem_singleton.mp hq]
        exact decide_eq_true (by dsimp only; omega)
  have wtg : ∀ j, (sx_tg (sx_t1x θ t (Qt - Pt)) j).1 < t + (Qt - Pt) := by
    refine sx_tg_lt (by omega) ?_
    rw [List.all_eq_true]
    intro q hq
    rcases List.mem_append.mp hq with hq | hq
    · have := of_decide_eq_true (List.all_eq_true.mp h4 q hq)
      exact decide_eq_true (by omega)
    · obtain ⟨i, hi, rfl⟩ := List.mem_map.mp hq
      have hi := List.mem_range.mp hi
      exact decide_eq_true (by dsimp only; omega)
  have wSb : ∀ e, sx_wf (iv ++ Qi.drop Pi.length).length (sx_sb (sx_s1x σ iv.length (Qi.length - Pi.length)) e) := fun e => sx_sb_wf wsg e
  have base : sx_gC ρ' τ' (pc, aL, Qs.map (sx_sV (sx_s1x σ iv.length (Qi.length - Pi.length)) (sx_t1x θ t (Qt - Pt))) ++ rest, sx_sM (sx_s1x σ iv.length (Qi.length - Pi.length)) (sx_t1x θ t (Qt - Pt)) Qm ++ m.filter (fun q => !(sx_W W).1 q.1.1.1 q.1.2), sx_pN (sx_sN (sx_s1x σ iv.length (Qi.length - Pi.length)) (sx_t1x θ t (Qt - Pt)) Qn) (sx_fN (sx_W W) nn), iv ++ Qi.drop Pi.length, fs, sx_sK (sx_s1x σ iv.length (Qi.length - Pi.length)) Qk ++ k, t + (Qt - Pt)) (pc, L, us ++ vs, S1) := by
    refine ⟨rfl, ⟨sx_gL_lk lk1 wL gL, sx_wL_mono le1 le2 wL⟩, ⟨sx_sS_g (sx_gS_lk lkQ uS qS) (sx_gS_lk lk1 wS gS), ?_⟩, ⟨?_, ?_⟩, ⟨?_, ?_⟩, ?_, sx_fs_mono le1 (sx_fs_lk lk1 gf), ?_, ?_⟩
    · intro a ha
      rcases List.mem_append.mp ha with ha | ha
      · obtain ⟨v, hv, rfl⟩ := List.mem_map.mp ha
        rcases v with e | x | r
        · exact wSb e
        · trivial
        · exact wtg r.2.1
      · exact sx_wV_mono le1 le2 (wS a ha)
    · intro q hq
      rcases List.mem_append.mp hq with hq | hq
      · exact sx_sM_g (sx_gM_lk lkQ uM qM) q hq
      · obtain ⟨m1, m2⟩ := List.mem_filter.mp hq
        have e := sx_gM_lk lk1 wM gM q m1
        dsimp only
        rw [hfr.1 _ _ _ (by simpa using m2)]
        exact e
    · intro q hq
      rcases List.mem_append.mp hq with hq | hq
      · obtain ⟨p, hp, rfl⟩ := List.mem_map.mp hq
        exact ⟨wtg _, wSb _⟩
      · have := wM q (List.mem_filter.mp hq).1
        exact ⟨Nat.lt_of_lt_of_le this.1 le2, sx_wf_mono le1 this.2⟩
    · exact sx_pN_g (sx_sN_g (sx_gN_lk lkQ uN qN)) (sx_fN_g (sx_gN_lk lk1 wN gN) hfr)
    · refine sx_pN_w ⟨fun q hq => ?_, fun q hq => ?_⟩ (sx_fN_w (sx_wN_mono le1 le2 wN))
      · obtain ⟨p, hp, rfl⟩ := List.mem_map.mp hq
        exact ⟨wtg _, wtg _⟩
      · obtain ⟨p, hp, rfl⟩ := List.mem_map.mp hq
        exact ⟨wtg _, wSb _, wSb _⟩
    · intro a ha
      unfold sx_g
      rw [List.getD_eq_getElem?_getD]
      by_cases c : a < iv.length
      · rw [List.getElem?_append_left c, ← List.getD_eq_getElem?_getD]
        have e : ρ' a = ρ a := if_pos c
        rw [e]
        exact gi a c
      · rw [List.getElem?_append_right (by omega), List.getElem?_drop, ← List.getD_eq_getElem?_getD]
        have e : ρ' a = ρQ (Pi.length + (a - iv.length)) := if_neg c
        rw [e]
        exact qi _ (by omega)
    · intro q hq
      rcases List.mem_append.mp hq with hq | hq
      · exact sx_sK_g (sx_gK_lk lkQ uk qk) q hq
      · exact sx_gK_lk lk1 wk gk q hq
    · intro q hq
      rcases List.mem_append.mp hq with hq | hq
      · obtain ⟨p, hp, rfl⟩ := List.mem_map.mp hq
        refine ⟨wSb _, fun f hf => ?_⟩
        obtain ⟨f0, hf0, rfl⟩ := List.mem_map.mp hf
        exact wSb _
      · exact sx_wK_mono le1 wk q hq
  have hfacts : ∀ f ∈ sx_nw σ Pi Qi ++ Qf.map (sx_sb (sx_s1x σ iv.length (Qi.length - Pi.length))), sx_wf (iv ++ Qi.drop Pi.length).length f ∧ 0 ≤ sx_ev ρ' f := by
    intro f hf
    rcases List.mem_append.mp hf with hf | hf
    · have h9 := sx_nw_g (ρ := ρ') (n := iv.length) (σ := σ) (p := Pi) (q := Qi) h1 (fun i hi hj => by
        have e1 : sx_ev ρ' (sx_sg σ i) = ρQ i := by
          rw [sx_ev_up lk1.1 (sx_sg_wf h1 i)]
          exact (hl.1 i hj).symm
        rw [e1]
        exact qi i hi) f hf
      exact ⟨sx_wf_mono le1 h9.1, h9.2⟩
    · obtain ⟨f0, hf0, rfl⟩ := List.mem_map.mp hf
      refine ⟨wSb _, ?_⟩
      have := qf f0 hf0
      rw [sx_sb_ev, sx_ev_up lkQ.1 this.1]
      exact this.2
  obtain ⟨b1, e1, g1, l1⟩ := sx_asl_g base hfacts
  exact ⟨b1, ρ', τ', e1, g1, lk1⟩
end SQ
