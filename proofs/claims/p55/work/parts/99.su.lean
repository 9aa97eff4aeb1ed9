/-! invariants of objects: if one field has a value, facts hold of others -/
/-- kind, a field and its value (or none: always), the fields that the facts speak of, the facts (under conditions) -/
abbrev sx_O1 : Type := Nat × Option (Nat × Int) × List Nat × sx_K
abbrev sx_O : Type := List sx_O1
def sx_gd (o : sx_O1) (S : sm_S) (i : Nat) : Prop := match o.2.1 with
  | none => True
  | some g => S.1 o.1 i g.1 = g.2
def sx_gO (O : sx_O) (S : sm_S) : Prop := ∀ o ∈ O, ∀ i, sx_gd o S i → sx_gK (fun k => S.1 o.1 i k) o.2.2.2
theorem sx_gd_eq {o : sx_O1} {S S' : sm_S} {i : Nat} (h : ∀ g, o.2.1 = some g → S'.1 o.1 i g.1 = S.1 o.1 i g.1) (hd : sx_gd o S' i) : sx_gd o S i := by
  unfold sx_gd at hd ⊢
  split at hd
  · trivial
  · rename_i g e
    rw [h g e] at hd
    exact hd
theorem sx_sm_ag {ρ ρ' : Nat → Int} : ∀ {x : List (Nat × Int)}, (∀ q ∈ x, ρ' q.1 = ρ q.1) → sx_sm ρ' x = sx_sm ρ x
  | [], _ => rfl
  | q :: x, h => by
    show q.2 * ρ' q.1 + sx_sm ρ' x = q.2 * ρ q.1 + sx_sm ρ x
    rw [h q List.mem_cons_self, sx_sm_ag (fun y hy => h y (List.mem_cons_of_mem _ hy))]
theorem sx_ev_ag {ρ ρ' : Nat → Int} {e : sx_E} (h : ∀ q ∈ e.2, ρ' q.1 = ρ q.1) : sx_ev ρ' e = sx_ev ρ e := by
  unfold sx_ev
  rw [sx_sm_ag h]
def sx_inS (l : List Nat) (e : sx_E) : Bool := e.2.all fun q => l.any fun k => decide (k = q.1)
def sx_inK (l : List Nat) (k : sx_K) : Bool := k.all fun q => sx_inS l q.1 && q.2.2.all (sx_inS l)
theorem sx_inS_g {l : List Nat} {e : sx_E} (h : sx_inS l e = true) : ∀ q ∈ e.2, q.1 ∈ l := by
  intro q hq
  obtain ⟨k, hk, e1⟩ := List.any_eq_true.mp (List.all_eq_true.mp h q hq)
  have e1 := of_decide_eq_true e1
  rw [← e1]
  exact hk
theorem sx_gK_ag {ρ ρ' : Nat → Int} {l : List Nat} {k : sx_K} (hk : sx_inK l k = true) (h : ∀ x ∈ l, ρ' x = ρ x) (g : sx_gK ρ k) : sx_gK ρ' k := by
  intro q hq e f hf
  have h1 := List.all_eq_true.mp hk q hq
  simp only [Bool.and_eq_true] at h1
  rw [sx_ev_ag (fun y hy => h _ (sx_inS_g h1.1 y hy))] at e
  rw [sx_ev_ag (fun y hy => h _ (sx_inS_g (List.all_eq_true.mp h1.2 f hf) y hy))]
  exact g q hq e f hf
/-- all that the invariants speak of is written by special steps alone -/
def sx_okO (O : sx_O) (w : sx_Wl) : Bool := O.all fun o => (match o.2.1 with
  | none => true
  | some g => (sx_W w).1 o.1 g.1) && (o.2.2.1.all fun k => (sx_W w).1 o.1 k) && sx_inK o.2.2.1 o.2.2.2
def sx_IO (G : sx_G) (O : sx_O) (S : sm_S) : Prop := ai_GI G.1 G.2.1 S ∧ sx_gO O S
theorem sx_IO_hI {G : sx_G} {O : sx_O} (h : sx_okO O G.2.2 = true) : sx_hI G (sx_IO G O) := by
  refine ⟨fun S g => g.1, fun S S' g hG hf => ⟨hG, fun o ho i e => ?_⟩⟩
  have h1 := List.all_eq_true.mp h o ho
  simp only [Bool.and_eq_true] at h1
  obtain ⟨⟨h1, h2⟩, h3⟩ := h1
  have hn : ∀ k, (sx_W G.2.2).1 o.1 k = true → S'.1 o.1 i k = S.1 o.1 i k := fun k hk => hf.1 o.1 i k (by show (!(sx_W G.2.2).1 o.1 k) = false; rw [hk]; rfl)
  have e' := sx_gd_eq (S := S) (fun q hq => hn q.1 (by rw [hq] at h1; exact h1)) e
  exact sx_gK_ag h3 (fun x hx => hn x (List.all_eq_true.mp h2 x hx)) (g.2 o ho i e')
/-- what memory tells of an object's fields, by their numbers -/
def sx_sl (r : Nat × Nat × Nat) (m : sx_M) (n : Nat) : List sx_E := (List.range n).map fun k => (sx_look r k m).getD (0, [])
def sx_hv (r : Nat × Nat × Nat) (m : sx_M) (l : List Nat) (n : Nat) : Bool := l.all fun k => decide (k < n) && (sx_look r k m).isSome
/-- fields of one object, read if they weren't yet -/
def sx_mtl (E : ai_E) (r : Nat × Nat × Nat) : List Nat → sx_C → sx_C
  | [], a => a
  | k :: l, a => sx_mtl E r l (sx_mt1 E (r, k) a)
theorem sx_mtl_g {E : ai_E} {τ : Nat → Nat} {r : Nat × Nat × Nat} : ∀ {l : List Nat} {ρ : Nat → Int} {a : sx_C} {c : sm_C}, sx_gC ρ τ a c → ai_GI E.1 E.2.1 c.2.2.2 → ∃ ρ', sx_lk a.2.2.2.2.2.1.length a.2.2.2.2.2.2.2.2 ρ ρ' τ τ ∧ sx_gC ρ' τ (sx_mtl E r l a) c ∧ a.2.2.2.2.2.1.length ≤ (sx_mtl E r l a).2.2.2.2.2.1.length ∧ (sx_mtl E r l a).2.2.2.2.2.2.2.2 = a.2.2.2.2.2.2.2.2
  | [], ρ, a, c, g, _ => ⟨ρ, ⟨fun _ _ => rfl, fun _ _ => rfl⟩, g, Nat.le_refl _, rfl⟩
  | k :: l, ρ, a, c, g, hG => by
    obtain ⟨ρ1, l1, g1, m1, e1⟩ := sx_mt1_g (q := (r, k)) g hG
    obtain ⟨ρ2, l2, g2, m2, e2⟩ := sx_mtl_g (r := r) (l := l) g1 hG
    exact ⟨ρ2, sx_lk_tr l1 l2 m1 (by rw [e1]; exact Nat.le_refl _), g2, Nat.le_trans m1 m2, e2.trans e1⟩
theorem sx_sl_at {r : Nat × Nat × Nat} {m : sx_M} {n k : Nat} {e : sx_E} (hk : k < n) (h : sx_look r k m = some e) : sx_sg (sx_sl r m n) k = e := by
  unfold sx_sg sx_sl
  rw [List.getD_eq_getElem?_getD, List.getElem?_map, List.getElem?_range hk]
  show (sx_look r k m).getD (0, []) = e
  rw [h]
  rfl
/-- under memory's substitution the facts speak of the object itself -/
theorem sx_sl_g {ρ : Nat → Int} {τ : Nat → Nat} {S : sm_S} {m : sx_M} {r : Nat × Nat × Nat} {l : List Nat} {n : Nat} (gM : sx_gM ρ τ S m) (h : sx_hv r m l n = true) : ∀ k ∈ l, sx_rs ρ (sx_sl r m n) k = S.1 r.1 (τ r.2.1 + r.2.2) k := by
  intro k hk
  have h1 := List.all_eq_true.mp h k hk
  simp only [Bool.and_eq_true, decide_eq_true_eq] at h1
  obtain ⟨e, he⟩ := Option.isSome_iff_exists.mp h1.2
  unfold sx_rs
  rw [sx_sl_at h1.1 he]
  exact (gM _ (sx_look_mem he)).symm
theorem sx_sbK_g {ρ : Nat → Int} {τ : Nat → Nat} {σ : List sx_E} {a : sx_C} {c : sm_C} {A : sx_K} (h : sx_sbK σ a A = true) (h0 : σ.all (sx_wfb a.2.2.2.2.2.1.length) = true) (g : sx_gC ρ τ a c) : sx_gK (sx_rs ρ σ) A := by
  intro q hq e f hf
  have hq1 := List.all_eq_true.mp h q hq
  obtain ⟨b, b1, b2, b3⟩ := sx_cd_g (k := 0) (x := sx_sb σ q.1) (y := sx_c q.2.1) g (sx_sb_wf h0 _) (sx_c_wf _ _) (by rw [sx_sb_ev, sx_c_ev]; exact decide_eq_true e)
  rw [b1] at hq1
  have h9 := of_decide_eq_true (List.all_eq_true.mp hq1 f hf)
  have hb := sx_bd (e := sx_sb σ f) b2 (by rw [b3.2.2.2]; exact sx_sb_wf h0 f)
  rw [sx_sb_ev] at hb
  omega
/-- conditional facts more -/
def sx_addK (k : sx_K) (a : sx_C) : sx_C := match a with
  | (pc, aL, st, m, nn, iv, fs, k0, t) => (pc, aL, st, m, nn, iv, fs, k ++ k0, t)
/-- memory tells that the field has the value -/
def sx_kn (r : Nat × Nat × Nat) (o : sx_O1) (a : sx_C) : Bool := match o.2.1 with
  | none => true
  | some g => match sx_look r g.1 a.2.2.2.1 with
    | none => false
    | some e => decide (g.2 ≤ sx_low a.2.2.2.2.2.1 a.2.2.2.2.2.2.1 e) && decide (sx_hi a.2.2.2.2.2.1 a.2.2.2.2.2.2.1 e ≤ g.2)
theorem sx_kn_g {ρ : Nat → Int} {τ : Nat → Nat} {r : Nat × Nat × Nat} {o : sx_O1} {a : sx_C} {c : sm_C} (g : sx_gC ρ τ a c) (hr : r.1 = o.1) (h : sx_kn r o a = true) : sx_gd o c.2.2.2 (τ r.2.1 + r.2.2) := by
  unfold sx_kn at h
  unfold sx_gd
  split at h
  · trivial
  · rename_i q e
    split at h
    · cases h
    · rename_i x he
      simp only [Bool.and_eq_true, decide_eq_true_eq] at h
      obtain ⟨pc, aL, st, m, nn, iv, fs, k, t⟩ := a
      obtain ⟨-, -, -, ⟨gM, wM⟩, -, gi, gf, -, -⟩ := g
      have h1 := gM _ (sx_look_mem he)
      have we := (wM _ (sx_look_mem he)).2
      dsimp only at h1 h we
      have h2 := sx_low_le gi gf we
      have h3 := sx_hi_le gi gf we
      rw [← hr, h1]
      omega
/-- the facts of an object, taken up where its field has the value -/
def sx_uf1 (E : ai_E) (r : Nat × Nat × Nat) (o : sx_O1) (a : sx_C) : sx_C :=
  if sx_kn r o a && decide (r.1 = o.1) then
    if sx_hv r (sx_mtl E r o.2.2.1 a).2.2.2.1 o.2.2.1 32 && sx_inK o.2.2.1 o.2.2.2 && (sx_sl r (sx_mtl E r o.2.2.1 a).2.2.2.1 32).all (sx_wfb (sx_mtl E r o.2.2.1 a).2.2.2.2.2.1.length) then
      match sx_as (0, []) (sx_addK (sx_sK (sx_sl r (sx_mtl E r o.2.2.1 a).2.2.2.1 32) o.2.2.2) (sx_mtl E r o.2.2.1 a)) with
      | some b => b
      | none => sx_mtl E r o.2.2.1 a
    else sx_mtl E r o.2.2.1 a
  else a
theorem sx_uf1_g {E : ai_E} {ρ : Nat → Int} {τ : Nat → Nat} {r : Nat × Nat × Nat} {o : sx_O1} {a : sx_C} {c : sm_C} (g : sx_gC ρ τ a c) (hG : ai_GI E.1 E.2.1 c.2.2.2) (hO : ∀ i, sx_gd o c.2.2.2 i → sx_gK (fun k => c.2.2.2.1 o.1 i k) o.2.2.2) : ∃ ρ', sx_lk a.2.2.2.2.2.1.length a.2.2.2.2.2.2.2.2 ρ ρ' τ τ ∧ sx_gC ρ' τ (sx_uf1 E r o a) c := by
  have rf : sx_lk a.2.2.2.2.2.1.length a.2.2.2.2.2.2.2.2 ρ ρ τ τ := ⟨fun _ _ => rfl, fun _ _ => rfl⟩
  unfold sx_uf1
  split
  · rename_i hc
    simp only [Bool.and_eq_true, decide_eq_true_eq] at hc
    obtain ⟨c1, c3⟩ := hc
    obtain ⟨ρ1, l1, g1, m1, e1⟩ := sx_mtl_g (r := r) (l := o.2.2.1) g hG
    split
    · rename_i hd
      simp only [Bool.and_eq_true] at hd
      obtain ⟨⟨d1, d2⟩, d3⟩ := hd
      have hK := hO _ (sx_kn_g g c3 c1)
      generalize hb : sx_mtl E r o.2.2.1 a = b at g1 m1 e1 d1 d3 ⊢
      obtain ⟨pc, aL, st, m, nn, iv, fs, k, t⟩ := b
      dsimp only at d1 d3 ⊢
      obtain ⟨q0, q1, q2, ⟨gM, wM⟩, q4, gi, gf, gk, wk⟩ := id g1
      have hag := sx_sl_g gM d1
      have hK2 : sx_gK (sx_rs ρ1 (sx_sl r m 32)) o.2.2.2 := sx_gK_ag d2 (fun x hx => by rw [hag x hx, c3]) hK
      have g2 : sx_gC ρ1 τ (sx_addK (sx_sK (sx_sl r m 32) o.2.2.2) (pc, aL, st, m, nn, iv, fs, k, t)) c := by
        refine ⟨q0, q1, q2, ⟨gM, wM⟩, q4, gi, gf, fun q hq => ?_, fun q hq => ?_⟩
        · rcases List.mem_append.mp hq with hq | hq
          · exact sx_sK_g hK2 q hq
          · exact gk q hq
        · rcases List.mem_append.mp hq with hq | hq
          · obtain ⟨p, hp, rfl⟩ := List.mem_map.mp hq
            refine ⟨sx_sb_wf d3 _, fun f hf => ?_⟩
            obtain ⟨f0, hf0, rfl⟩ := List.mem_map.mp hf
            exact sx_sb_wf d3 _
          · exact wk q hq
      obtain ⟨a', a1, a2, -⟩ := sx_as_g (e := (0, [])) g2 (fun _ h => absurd h List.not_mem_nil) (by show (0 : Int) ≤ 0 + 0; omega)
      rw [a1]
      exact ⟨ρ1, l1, a2⟩
    · exact ⟨ρ1, l1, g1⟩
  · exact ⟨ρ, rf, g⟩
