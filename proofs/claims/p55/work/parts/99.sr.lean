/-! a method is explored from one annotated place to the next ones -/
def sx_vis (a : sx_V) : sx_L := match a with
  | .inr (.inl u) => [some (.inr (.inl u)), none]
  | a => [some a]
def sx_vsl (as : List sx_V) : sx_L := as.flatMap sx_vis
def sx_ent (n : Nat) (as : List sx_V) : sx_L := sx_vsl as ++ List.replicate (n - (sx_vsl as).length) none
def sx_ln (st : List sx_V) : Nat := (st.map fun v => match v with
  | .inr (.inl _) => 2
  | _ => 1).sum
def sx_s0 (L : sx_L) (i : Nat) : sx_L := (List.range L.length).map fun j => if j = i then none else if j + 1 = i && (sx_isl (L.getD j none) || (L.getD j none).isNone) then none else L.getD j none
section SR
variable {ρ : Nat → Int} {τ : Nat → Nat}
theorem sx_vsl_len : ∀ {as : List sx_V} {vs : List sm_V}, sx_gS ρ τ as vs → (sx_vsl as).length = (sm_vsl vs).length
  | [], [], _ => rfl
  | a :: as, v :: vs, h => by
    have ih := sx_vsl_len h.2
    unfold sx_vsl sm_vsl at ih ⊢
    rw [List.flatMap_cons, List.flatMap_cons, List.length_append, List.length_append, ih]
    congr 1
    have hd := h.1
    rcases a with x | _ | x
    · rcases v with z | z | v <;> first | rfl | exact hd.elim
    · rcases v with z | z | v <;> first | rfl | exact hd.elim
    · rcases v with z | z | _ | v <;> first | rfl | exact hd.elim
  | [], _ :: _, h => h.elim
  | _ :: _, [], h => h.elim
theorem sx_vsl_at : ∀ {as : List sx_V} {vs : List sm_V}, sx_gS ρ τ as vs → ∀ {j : Nat} {b : sx_V}, (sx_vsl as)[j]? = some (some b) → b ∈ as ∧ ∃ v, (sm_vsl vs)[j]? = some (some v) ∧ sx_gV ρ τ b v
  | [], [], _, j, b, hj => by cases hj
  | a :: as, v :: vs, h, j, b, hj => by
    have hd := h.1
    have ih := @sx_vsl_at as vs h.2
    unfold sx_vsl at hj ih
    unfold sm_vsl at ih ⊢
    rw [List.flatMap_cons] at hj ⊢
    have lift : ∀ {j}, (List.flatMap sx_vis as)[j]? = some (some b) → b ∈ a :: as ∧ ∃ v, (List.flatMap sm_vis vs)[j]? = some (some v) ∧ sx_gV ρ τ b v := fun hj => ⟨List.mem_cons_of_mem _ (ih hj).1, (ih hj).2⟩
    rcases a with x | x | x
    · rcases v with z | z | v
      · rcases j with _ | j
        · cases hj; exact ⟨List.mem_cons_self, _, rfl, hd⟩
        · exact lift hj
      · exact hd.elim
      · exact hd.elim
    · rcases v with z | z | v
      · exact hd.elim
      · rcases j with _ | _ | j
        · cases hj; exact ⟨List.mem_cons_self, _, rfl, hd⟩
        · cases hj
        · exact lift hj
      · exact hd.elim
    · rcases v with z | z | _ | v
      · exact hd.elim
      · exact hd.elim
      · rcases j with _ | j
        · cases hj; exact ⟨List.mem_cons_self, _, rfl, hd⟩
        · exact lift hj
      · rcases j with _ | j
        · cases hj; exact ⟨List.mem_cons_self, _, rfl, hd⟩
        · exact lift hj
  | [], _ :: _, h, _, _, _ => h.elim
  | _ :: _, [], h, _, _, _ => h.elim
theorem sx_ent_at {n j : Nat} {as : List sx_V} {b : sx_V} (hj : (sx_ent n as).getD j none = some b) : (sx_vsl as)[j]? = some (some b) := by
  unfold sx_ent at hj
  rw [List.getD_eq_getElem?_getD, List.getElem?_append] at hj
  split at hj
  · rename_i q
    rw [List.getElem?_eq_getElem q] at hj ⊢
    exact congrArg some hj
  · cases hr : (List.replicate (n - (sx_vsl as).length) (none : Option sx_V))[j - (sx_vsl as).length]? with
    | none => rw [hr] at hj; cases hj
    | some w =>
      rw [hr] at hj
      have := List.eq_of_mem_replicate (List.mem_of_getElem? hr)
      subst this
      cases hj
theorem sx_ent_g {n : Nat} {as : List sx_V} {vs : List sm_V} (h : sx_gS ρ τ as vs) (hn : (sm_vsl vs).length ≤ n) : sx_gL ρ τ (sx_ent n as) (sm_ent n vs) := by
  have hlen := sx_vsl_len h
  refine ⟨?_, fun j b hj => ?_⟩
  · rw [sm_ent_len (by omega)]
    unfold sx_ent
    rw [List.length_append, List.length_replicate]
    omega
  · obtain ⟨-, v, g1, g2⟩ := sx_vsl_at h (sx_ent_at hj)
    refine ⟨v, ?_, g2⟩
    unfold sm_ent
    have hlt := (List.getElem?_eq_some_iff.mp g1).1
    rw [List.getD_eq_getElem?_getD, List.getElem?_append_left hlt, g1]
    rfl
theorem sx_ent_w {n m t : Nat} {as : List sx_V} {vs : List sm_V} (h : sx_gS ρ τ as vs) (w : sx_wS m t as) : sx_wL m t (sx_ent n as) := fun _ _ hj => w _ (sx_vsl_at h (sx_ent_at hj)).1
theorem sx_gS_len : ∀ {as : List sx_V} {vs : List sm_V}, sx_gS ρ τ as vs → as.length = vs.length
  | [], [], _ => rfl
  | _ :: _, _ :: _, h => congrArg (· + 1) (sx_gS_len h.2)
  | [], _ :: _, h => h.elim
  | _ :: _, [], h => h.elim
theorem sx_gS_take : ∀ {n : Nat} {as : List sx_V} {vs : List sm_V}, sx_gS ρ τ as vs → sx_gS ρ τ (as.take n) (vs.take n)
  | 0, _, _, _ => by simp only [List.take_zero]; trivial
  | _ + 1, [], [], _ => trivial
  | _ + 1, _ :: _, _ :: _, h => ⟨h.1, sx_gS_take h.2⟩
  | _ + 1, [], _ :: _, h => h.elim
  | _ + 1, _ :: _, [], h => h.elim
theorem sx_gS_drop : ∀ {n : Nat} {as : List sx_V} {vs : List sm_V}, sx_gS ρ τ as vs → sx_gS ρ τ (as.drop n) (vs.drop n)
  | 0, _, _, h => h
  | _ + 1, [], [], _ => trivial
  | n + 1, _ :: as, _ :: vs, h => sx_gS_drop (n := n) (as := as) (vs := vs) h.2
  | _ + 1, [], _ :: _, h => h.elim
  | _ + 1, _ :: _, [], h => h.elim
theorem sx_gS_app : ∀ {as bs : List sx_V} {vs ws : List sm_V}, sx_gS ρ τ as vs → sx_gS ρ τ bs ws → sx_gS ρ τ (as ++ bs) (vs ++ ws)
  | [], _, [], _, _, h => h
  | _ :: _, _, _ :: _, _, h, g => ⟨h.1, sx_gS_app h.2 g⟩
  | [], _, _ :: _, _, h, _ => h.elim
  | _ :: _, _, [], _, h, _ => h.elim
theorem sx_gS_rev : ∀ {as : List sx_V} {vs : List sm_V}, sx_gS ρ τ as vs → sx_gS ρ τ as.reverse vs.reverse
  | [], [], _ => trivial
  | a :: as, v :: vs, h => by
    rw [List.reverse_cons, List.reverse_cons]
    exact sx_gS_app (sx_gS_rev h.2) ⟨h.1, trivial⟩
  | [], _ :: _, h => h.elim
  | _ :: _, [], h => h.elim
theorem sx_gS_cat : ∀ {as : List sx_V} {vs : List sm_V}, sx_gS ρ τ as vs → (vs.map sm_cat).sum = sx_ln as
  | [], [], _ => rfl
  | a :: as, v :: vs, h => by
    have ih := sx_gS_cat h.2
    have hd := h.1
    unfold sx_ln at ih ⊢
    rw [List.map_cons, List.map_cons, List.sum_cons, List.sum_cons, ih]
    rcases a with x | _ | x <;> rcases v with z | z | v <;> first | rfl | exact hd.elim
  | [], _ :: _, h => h.elim
  | _ :: _, [], h => h.elim
theorem sx_s0_g {L : sm_L} {aL : sx_L} {i : Nat} (h : sx_gL ρ τ aL L) : sx_gL ρ τ (sx_s0 aL i) (sm_s0 L i) := by
  refine ⟨by unfold sx_s0 sm_s0; simp [h.1], fun j b hj => ?_⟩
  unfold sx_s0 at hj
  obtain ⟨hlt, hj⟩ := sx_map_getD hj
  have hlt2 : j < L.length := by rw [← h.1]; exact hlt
  have hget : (sm_s0 L i).getD j none = if j = i then none else if j + 1 = i && sm_isl (L.getD j none) then none else L.getD j none := by unfold sm_s0; rw [sm_map_getD hlt2]
  rw [hget]
  split at hj
  · cases hj
  · rename_i e
    rw [if_neg e]
    split at hj
    · cases hj
    · rename_i g
      obtain ⟨w, h1, h2⟩ := h.2 j b hj
      rw [h1]
      rw [if_neg (by
        intro q
        apply g
        rw [hj]
        simp only [Bool.and_eq_true, decide_eq_true_eq] at q
        rw [sx_isl_g h2] at q
        simp [q.1, q.2])]
      exact ⟨w, rfl, h2⟩
theorem sx_s0_w {n t i : Nat} {aL : sx_L} (h : sx_wL n t aL) : sx_wL n t (sx_s0 aL i) := by
  intro j b hj
  unfold sx_s0 at hj
  obtain ⟨hlt, hj⟩ := sx_map_getD hj
  split at hj
  · cases hj
  · split at hj
    · cases hj
    · exact h j b hj
end SR
def sx_EE (G : sx_G) (w : sx_Wl) : ai_E := (G.1, G.2.1, fun t k => (sx_W w).1 t k && !(sx_W G.2.2).1 t k, fun t => (sx_W w).2.1 t && !(sx_W G.2.2).2.1 t, fun t k => (sx_W w).2.2 t k && !(sx_W G.2.2).2.2 t k)
def sx_np (w : sx_Wl) : ai_W := (fun t k => !(sx_W w).1 t k, fun t => !(sx_W w).2.1 t, fun t k => !(sx_W w).2.2 t k)
theorem sx_EE_w {G : sx_G} {w : sx_Wl} {S S' : sm_S} (h : ai_fr (sx_EE G w).2.2 S S') : ai_fr (sx_W w) S S' := ⟨fun t i k q => h.1 t i k (by show ((sx_W w).1 t k && !(sx_W G.2.2).1 t k) = false; rw [q]; rfl), fun t i k q => h.2.1 t i k (by show ((sx_W w).2.2 t k && !(sx_W G.2.2).2.2 t k) = false; rw [q]; rfl), fun t q i k => h.2.2 t (by show ((sx_W w).2.1 t && !(sx_W G.2.2).2.1 t) = false; rw [q]; rfl) i k⟩
theorem sx_EE_n {G : sx_G} {w : sx_Wl} {S S' : sm_S} (h : ai_fr (sx_EE G w).2.2 S S') : ai_fr (sx_np G.2.2) S S' := ⟨fun t i k q => h.1 t i k (by show ((sx_W w).1 t k && (sx_np G.2.2).1 t k) = false; rw [q, Bool.and_false]), fun t i k q => h.2.1 t i k (by show ((sx_W w).2.2 t k && (sx_np G.2.2).2.2 t k) = false; rw [q, Bool.and_false]), fun t q i k => h.2.2 t (by show ((sx_W w).2.1 t && (sx_np G.2.2).2.1 t) = false; rw [q, Bool.and_false]) i k⟩
/-- the callee's start, found in the caller's state -/
def sx_cl (E : ai_E) (s : sx_Sp) (ent : sx_C) : Option (List sx_E × sx_T × sx_C) :=
  let q := sx_fd E 0 1 s.1 ent
  if sx_sub q.1 q.2.1 s.1 q.2.2 && decide (sx_tg q.2.1 0 = (0, 0)) && decide (q.1.length = s.1.2.2.2.2.2.1.length) && decide (q.2.1.length = s.1.2.2.2.2.2.2.2.2) && q.2.1.all (fun x => decide (x.1 < q.2.2.2.2.2.2.2.2.2.2)) then some q else none
def sx_pick (E : ai_E) (ent : sx_C) : List sx_Sp → Option (sx_Sp × List sx_E × sx_T × sx_C)
  | [] => none
  | s :: r => match sx_cl E s ent with
    | some q => some (s, q)
    | none => sx_pick E ent r
theorem sx_pick_g {E : ai_E} {ent : sx_C} {s : sx_Sp} {q : List sx_E × sx_T × sx_C} : ∀ {l : List sx_Sp}, sx_pick E ent l = some (s, q) → s ∈ l ∧ sx_cl E s ent = some q
  | [], h => by cases h
  | x :: r, h => by
    unfold sx_pick at h
    split at h
    · rename_i y hy
      cases h
      exact ⟨List.mem_cons_self, hy⟩
    · have := sx_pick_g h
      exact ⟨List.mem_cons_of_mem _ this.1, this.2⟩
/-- what a spec must keep, once -/
def sx_ck (s : sx_Sp) : Bool := sx_wbC s.1 && sx_wbC s.2.1 && decide (s.1.2.2.2.2.2.1.length ≤ s.2.1.2.2.2.2.2.1.length) && decide (s.1.2.2.2.2.2.2.2.2 ≤ s.2.1.2.2.2.2.2.2.2.2) && decide (0 < s.1.2.2.2.2.2.2.2.2)
def sx_wle (w w' : sx_Wl) : Bool := (w.1.all fun q => (sx_W w').1 q.1 q.2) && (w.2.1.all fun q => (sx_W w').2.1 q) && w.2.2.all fun q => (sx_W w').2.2 q.1 q.2
theorem sx_wle_g {w w' : sx_Wl} {S S' : sm_S} (h : sx_wle w w' = true) (g : ai_fr (sx_W w) S S') : ai_fr (sx_W w') S S' := by
  unfold sx_wle at h
  simp only [Bool.and_eq_true] at h
  obtain ⟨⟨h1, h2⟩, h3⟩ := h
  have k1 : ∀ t k, (sx_W w').1 t k = false → (sx_W w).1 t k = false := by
    intro t k hf
    cases hc : (sx_W w).1 t k with
    | false => rfl
    | true =>
      obtain ⟨q, hq, e⟩ := List.any_eq_true.mp hc
      simp only [Bool.and_eq_true, decide_eq_true_eq] at e
      have := List.all_eq_true.mp h1 q hq
      rw [e.1, e.2, hf] at this
      cases this
  have k2 : ∀ t, (sx_W w').2.1 t = false → (sx_W w).2.1 t = false := by
    intro t hf
    cases hc : (sx_W w).2.1 t with
    | false => rfl
    | true =>
      obtain ⟨q, hq, e⟩ := List.any_eq_true.mp hc
      have e := of_decide_eq_true e
      have := List.all_eq_true.mp h2 q hq
      rw [e, hf] at this
      cases this
  have k3 : ∀ t k, (sx_W w').2.2 t k = false → (sx_W w).2.2 t k = false := by
    intro t k hf
    cases hc : (sx_W w).2.2 t k with
    | false => rfl
    | true =>
      obtain ⟨q, hq, e⟩ := List.any_eq_true.mp hc
      simp only [Bool.and_eq_true, decide_eq_true_eq] at e
      have := List.all_eq_true.mp h3 q hq
      rw [e.1, e.2, hf] at this
      cases this
  exact ⟨fun t i k q => g.1 t i k (k1 t k q), fun t i k q => g.2.1 t i k (k3 t k q), fun t q i k => g.2.2 t (k2 t q) i k⟩
/-- the next annotated place -/
def sx_lf (G : sx_G) (sp : sx_Sp) (A0 A : sx_A) (c : sx_C) : Bool :=
  let q := sx_fd (sx_EE G sp.2.2.2.2) sp.1.2.2.2.2.2.1.length sp.1.2.2.2.2.2.2.2.2 A.1 c
  sx_sub q.1 q.2.1 A.1 q.2.2 && sx_same sp.1.2.2.2.2.2.1.length sp.1.2.2.2.2.2.2.2.2 q.1 q.2.1 && sx_dec q.2.2.2.2.2.2.2.1 q.2.2.2.2.2.2.2.2.1 (A.2.map (sx_sb q.1)) A0.2
def sx_nx (G : sx_G) (An : Nat → Option sx_A) (sp : sx_Sp) (A0 : sx_A) (rec : Nat → sx_C → Bool) (u : Nat) (c : sx_C) : Bool :=
  decide (A0.1.2.2.2.2.2.1.length ≤ c.2.2.2.2.2.1.length) && decide (A0.1.2.2.2.2.2.2.2.2 ≤ c.2.2.2.2.2.2.2.2) && match An c.1 with
    | some A => decide (u = 0) && sx_lf G sp A0 A c
    | none => rec u c
/-- the end of the method -/
def sx_rc (G : sx_G) (sp : sx_Sp) (u : Nat) (st : List sx_V) (a : sx_C) : Bool := match a with
  | (_, _, _, R) =>
    let q := sx_fd (sx_EE G sp.2.2.2.2) sp.1.2.2.2.2.2.1.length sp.1.2.2.2.2.2.2.2.2 sp.2.1 (0, [], st, R)
    decide (u ≤ sp.2.2.2.1.1) && sx_sub q.1 q.2.1 sp.2.1 q.2.2 && sx_same sp.1.2.2.2.2.2.1.length sp.1.2.2.2.2.2.2.2.2 q.1 q.2.1
def sx_sws (f : Nat → sx_C → Bool) (u : Nat) (e : sx_E) (R : sx_L × List sx_V × sx_M × sx_N × sx_I × List sx_E × sx_K × Nat) : Int → List Nat → Bool
  | _, [] => true
  | i, t :: ts => (match sx_cd 0 e (sx_c i) (t, R) with
    | none => true
    | some c => f u c) && sx_sws f u e R (i + 1) ts
def sx_oc (f : Nat → sx_C → Bool) (u : Nat) : Option sx_C → Bool
  | none => true
  | some c => f u c
def sx_rcv (own v : Nat) (vs : List sx_V) : Bool := v = 1 || match vs with
  | .inr (.inr (t, _, _, false)) :: _ => decide (t = own)
  | _ => false
/-- special steps, by place -/
abbrev sx_X : Type := Nat → Option (sx_C → Option (List sx_C))
def sx_ex (G : sx_G) (X : sx_X) (An : Nat → Option sx_A) (Sp : Nat → List sx_Sp) (mid : Nat) (sp : sx_Sp) (A0 : sx_A) : Nat → Nat → sx_C → Bool
  | 0, _, _ => false
  | n + 1, u, a => match X a.1 with
   | some f => match f a with
    | none => false
    | some cs => cs.all (sx_nx G An sp A0 (sx_ex G X An Sp mid sp A0 n) u)
   | none => match mt_in mid a.1 with
    | none => false
    | some x => match x.1 with
      | 40 => match sx_pick (sx_EE G sp.2.2.2.2) (0, sx_ent (mt_i x.2.2.1).2 (a.2.2.1.take x.2.2.2.1).reverse, [], a.2.2.2) (Sp x.2.2.1) with
        | none => false
        | some (s, σ, θ, b) => decide (a.2.1.length = (mt_i mid).2) && decide ((a.2.2.1.take x.2.2.2.1).length = x.2.2.2.1) && decide (sx_ln (a.2.2.1.drop x.2.2.2.1) ≤ 8) && sx_rcv (mt_i x.2.2.1).1 x.2.2.2.2.1 (a.2.2.1.take x.2.2.2.1).reverse && decide (sx_ln (a.2.2.1.take x.2.2.2.1).reverse ≤ (mt_i x.2.2.1).2) && sx_wle s.2.2.2.2 sp.2.2.2.2 &&
          sx_oc (sx_nx G An sp A0 (sx_ex G X An Sp mid sp A0 n)) (u + s.2.2.2.1.1) (sx_rt s σ θ (a.1 + 3) a.2.1 (a.2.2.1.drop x.2.2.2.1) b) &&
          s.2.2.1.all fun ex => match sm_fh (mt_hs mid) a.1 ex with
            | none => !sm_cov (mt_hs mid) a.1 && sp.2.2.1.any (fun y => decide (y = ex)) && decide (u + s.2.2.2.1.2 ≤ sp.2.2.2.1.2)
            | some h => match mt_in mid h with
              | some (7, n', a', _, _, _) => decide (a' < a.2.1.length) && sx_nx G An sp A0 (sx_ex G X An Sp mid sp A0 n) (u + s.2.2.2.1.2) (h + n', sx_s0 a.2.1 a', [], a.2.2.2.1.filter (fun q => !(sx_W s.2.2.2.2).1 q.1.1.1 q.1.2), sx_fN (sx_W s.2.2.2.2) a.2.2.2.2.1, a.2.2.2.2.2)
              | _ => false
      | 41 => match x.2.2.2.1, a.2.2.1 with
        | 0, [.inl e] => sx_rc G sp u [.inl e] a
        | 1, [.inl e] => sx_in a.2.2.2.2.2.1 a.2.2.2.2.2.2.1 e (0, 1) && sx_rc G sp u [.inl e] a
        | _, _ => false
      | 42 => match a.2.2.1 with
        | [.inr (.inl y)] => sx_rc G sp u [.inr (.inl y)] a
        | _ => false
      | 43 => match a.2.2.1 with
        | [.inr (.inr y)] => sx_rc G sp u [.inr (.inr y)] a
        | _ => false
      | 44 => match a.2.2.1 with
        | [] => sx_rc G sp u [] a
        | _ => false
      | 45 => match a.2.2.1 with
        | [] => decide (a.2.1.length = (mt_i mid).2) && sp.2.2.1.any (fun y => decide (y = x.2.2.1)) && decide (u + 1 ≤ sp.2.2.2.1.2)
        | _ => false
      | 46 => match a.2.2.1, mt_sw mid a.1 with
        | .inl e :: r, some (lo, df, ts) => sx_sws (sx_nx G An sp A0 (sx_ex G X An Sp mid sp A0 n)) u e (a.2.1, r, a.2.2.2) lo ts && sx_oc (sx_nx G An sp A0 (sx_ex G X An Sp mid sp A0 n)) u (sx_cd 2 e (sx_c lo) (df, a.2.1, r, a.2.2.2)) && sx_oc (sx_nx G An sp A0 (sx_ex G X An Sp mid sp A0 n)) u (sx_cd 3 e (sx_c (lo + ts.length)) (df, a.2.1, r, a.2.2.2))
        | _, _ => false
      | 49 => match sx_nt (sx_EE G sp.2.2.2.2) x a with
        | none => false
        | some c => decide (a.2.1.length = (mt_i mid).2) && decide (sx_ln (a.2.2.1.drop x.2.2.2.1) ≤ 8) && sx_nx G An sp A0 (sx_ex G X An Sp mid sp A0 n) u c
      | _ => match sx_st (sx_EE G sp.2.2.2.2) x a with
        | none => false
        | some cs => cs.all (sx_nx G An sp A0 (sx_ex G X An Sp mid sp A0 n) u)
