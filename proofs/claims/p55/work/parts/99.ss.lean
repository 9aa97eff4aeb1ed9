/-! the exploring is sound -/
theorem sx_ty_le {I : sm_S → Prop} {sp : sx_Sp} {ρ0 : Nat → Int} {τ0 : Nat → Nat} {S0 S : sm_S} {o : sm_O} {k k' : Nat} (h : sx_ty I sp ρ0 τ0 S0 (o, S, k)) (hk : k' ≤ k) : sx_ty I sp ρ0 τ0 S0 (o, S, k') := by
  obtain ⟨h1, h2, h3⟩ := h
  refine ⟨h1, h2, ?_⟩
  rcases h3 with ⟨u, e, l, q⟩ | ⟨ex, e, m, l⟩
  · exact Or.inl ⟨u, e, Nat.le_trans hk l, q⟩
  · exact Or.inr ⟨ex, e, m, Nat.le_trans hk l⟩
theorem sx_mz_sb {ρ : Nat → Int} {σ : List sx_E} : ∀ {M : List sx_E}, sx_mz (sx_rs ρ σ) M = sx_mz ρ (M.map (sx_sb σ))
  | [] => rfl
  | m :: r => by
    show sx_ev (sx_rs ρ σ) m * sx_B ^ r.length + sx_mz (sx_rs ρ σ) r = sx_ev ρ (sx_sb σ m) * sx_B ^ (r.map (sx_sb σ)).length + sx_mz ρ (r.map (sx_sb σ))
    rw [sx_sb_ev, List.length_map, sx_mz_sb]
theorem sx_mz_up {ρ ρ' : Nat → Int} {n : Nat} (h : ∀ a, a < n → ρ' a = ρ a) : ∀ {M : List sx_E}, (∀ m ∈ M, sx_wf n m) → sx_mz ρ' M = sx_mz ρ M
  | [], _ => rfl
  | m :: r, w => by
    show sx_ev ρ' m * sx_B ^ r.length + sx_mz ρ' r = sx_ev ρ m * sx_B ^ r.length + sx_mz ρ r
    rw [sx_ev_up h (w m List.mem_cons_self), sx_mz_up h (fun q hq => w q (List.mem_cons_of_mem _ hq))]
section SS
variable {sc : Nat × (Nat → Int)} {G : sx_G} {I : sm_S → Prop} {X : sx_X} {An : Nat → Option sx_A} {Sp : Nat → List sx_Sp} {d mid : Nat} {sp : sx_Sp} {A0 : sx_A} {ρg ρ0 : Nat → Int} {τg τ0 : Nat → Nat} {S0 : sm_S}
/-- a state that goes on from where the exploring began -/
def sx_okS (I : sm_S → Prop) (sp : sx_Sp) (A0 : sx_A) (ρ0 : Nat → Int) (τ0 : Nat → Nat) (S0 : sm_S) (ρ : Nat → Int) (τ : Nat → Nat) (a : sx_C) (c : sm_C) : Prop := sx_gC ρ τ a c ∧ sx_lk A0.1.2.2.2.2.2.1.length A0.1.2.2.2.2.2.2.2.2 ρ0 ρ τ0 τ ∧ A0.1.2.2.2.2.2.1.length ≤ a.2.2.2.2.2.1.length ∧ A0.1.2.2.2.2.2.2.2.2 ≤ a.2.2.2.2.2.2.2.2 ∧ I c.2.2.2 ∧ ai_fr (sx_W sp.2.2.2.2) S0 c.2.2.2
/-- what is known where the exploring began -/
def sx_beg (An : Nat → Option sx_A) (sp : sx_Sp) (A0 : sx_A) (ρg : Nat → Int) (τg : Nat → Nat) (ρ0 : Nat → Int) (τ0 : Nat → Nat) : Prop := sx_lk sp.1.2.2.2.2.2.1.length sp.1.2.2.2.2.2.2.2.2 ρg ρ0 τg τ0 ∧ sp.1.2.2.2.2.2.1.length ≤ A0.1.2.2.2.2.2.1.length ∧ sp.1.2.2.2.2.2.2.2.2 ≤ A0.1.2.2.2.2.2.2.2.2 ∧ 0 < sp.1.2.2.2.2.2.2.2.2 ∧ τg 0 = 0 ∧ (∀ m ∈ A0.2, sx_wf A0.1.2.2.2.2.2.1.length m ∧ 0 ≤ sx_ev ρ0 m ∧ sx_ev ρ0 m < sx_B) ∧ ∀ q A, An q = some A → sx_wbC A.1 = true ∧ sx_mok A = true
theorem sx_fd_g {E : ai_E} {n t : Nat} {A a : sx_C} {c : sm_C} {ρ : Nat → Int} {τ : Nat → Nat} (g : sx_gC ρ τ a c) (hG : ai_GI E.1 E.2.1 c.2.2.2) : ∃ ρ', sx_lk a.2.2.2.2.2.1.length a.2.2.2.2.2.2.2.2 ρ ρ' τ τ ∧ sx_gC ρ' τ (sx_fd E n t A a).2.2 c ∧ a.2.2.2.2.2.1.length ≤ (sx_fd E n t A a).2.2.2.2.2.2.2.1.length ∧ (sx_fd E n t A a).2.2.2.2.2.2.2.2.2.2 = a.2.2.2.2.2.2.2.2 := by
  obtain ⟨θ, s, e⟩ := sx_fd_b E n t A a
  rw [e]
  obtain ⟨ρ1, l1, g1, m1, e1⟩ := sx_mt_g (θ := θ) (A := A.2.2.2.1) g hG
  obtain ⟨ρ2, l2, g2, m2, e2⟩ := sx_mAL_g (θ := θ) (A := A.2.2.2.2.1.2) (s := s) g1 hG
  exact ⟨ρ2, sx_lk_tr l1 l2 m1 (by rw [e1]; exact Nat.le_refl _), g2, Nat.le_trans m1 m2, e2.trans e1⟩
/-- what the invariant must keep -/
def sx_hI (G : sx_G) (I : sm_S → Prop) : Prop := (∀ S, I S → ai_GI G.1 G.2.1 S) ∧ ∀ S S', I S → ai_GI G.1 G.2.1 S' → ai_fr (sx_np G.2.2) S S' → I S'
theorem sx_lf_g {A : sx_A} {a : sx_C} {c : sm_C} {ρ : Nat → Int} {τ : Nat → Nat} (hI : sx_hI G I) (hb : sx_beg An sp A0 ρg τg ρ0 τ0) (hA : An a.1 = some A) (h : sx_lf G sp A0 A a = true) (ok : sx_okS I sp A0 ρ0 τ0 S0 ρ τ a c)
    (ih : ∀ q A, An q = some A → ∀ ρ τ L vs S, sx_lk sp.1.2.2.2.2.2.1.length sp.1.2.2.2.2.2.2.2.2 ρg ρ τg τ → sx_gC ρ τ A.1 (A.1.1, L, vs, S) → I S → ai_fr (sx_W sp.2.2.2.2) S0 S → sx_mz ρ A.2 < sx_mz ρ0 A0.2 → sm_T (mt_P sc) (d + 1) mid (q, L, vs, S) (sx_ty I sp ρg τg S0)) : sm_T (mt_P sc) (d + 1) mid c (sx_ty I sp ρg τg S0) := by
  obtain ⟨g, lk, n1, t1, hG, hfr⟩ := ok
  obtain ⟨b1, b2, b3, b4, b5, b6, b7⟩ := hb
  obtain ⟨hwb, hmk⟩ := b7 _ _ hA
  unfold sx_lf at h
  obtain ⟨ρ1, l1, g1, m1, e1⟩ := sx_fd_g (E := sx_EE G sp.2.2.2.2) (n := sp.1.2.2.2.2.2.1.length) (t := sp.1.2.2.2.2.2.2.2.2) (A := A.1) g (hI.1 _ hG)
  generalize sx_fd (sx_EE G sp.2.2.2.2) sp.1.2.2.2.2.2.1.length sp.1.2.2.2.2.2.2.2.2 A.1 a = q at h g1 m1 e1
  obtain ⟨σ, θ, b⟩ := q
  simp only [Bool.and_eq_true] at h
  obtain ⟨⟨h1, h2⟩, h3⟩ := h
  dsimp only at g1 m1 e1
  have g2 := sx_sub_g h1 hwb g1
  have lk2 : sx_lk A0.1.2.2.2.2.2.1.length A0.1.2.2.2.2.2.2.2.2 ρ0 ρ1 τ0 τ := sx_lk_tr lk l1 n1 t1
  have lk3 : sx_lk sp.1.2.2.2.2.2.1.length sp.1.2.2.2.2.2.2.2.2 ρg (sx_rs ρ1 σ) τg (sx_ts τ θ) := sx_lk_tr (sx_lk_tr b1 lk2 b2 b3) (sx_same_g h2) (Nat.le_refl _) (Nat.le_refl _)
  have hm2 := sx_mok_g hmk g2
  have wσ : σ.all (sx_wfb b.2.2.2.2.2.1.length) = true := by
    obtain ⟨Ap, AL, As, Am, An', Ai, Af, Ak, At⟩ := A.1
    obtain ⟨pc, aL, st, m, nn, iv, fs, k, t⟩ := b
    simp only [sx_sub, Bool.and_eq_true] at h1
    exact h1.1.1.1.1.1.1.1
  have hpc : a.1 = c.1 := by
    obtain ⟨pc, aL, st, m, nn, iv, fs, k, t⟩ := a
    exact g.1
  obtain ⟨pc0, L, vs, S⟩ := c
  dsimp only at hpc
  subst hpc
  refine ih a.1 A hA (sx_rs ρ1 σ) (sx_ts τ θ) L vs S lk3 g2 hG hfr ?_
  have hd : sx_mz ρ1 (A.2.map (sx_sb σ)) < sx_mz ρ1 A0.2 := by
    obtain ⟨pc, aL, st, m, nn, iv, fs, k, t⟩ := b
    obtain ⟨-, -, -, -, -, gi, gf, -, -⟩ := g1
    refine (sx_dec_g gi gf h3 (fun m hm => ?_) (fun m hm => ?_) (fun m hm => ?_) (fun m hm => ?_)).1
    · obtain ⟨m0, hm0, rfl⟩ := List.mem_map.mp hm
      exact sx_sb_wf wσ m0
    · exact sx_wf_mono (Nat.le_trans n1 m1) (b6 m hm).1
    · obtain ⟨m0, hm0, rfl⟩ := List.mem_map.mp hm
      rw [sx_sb_ev]
      exact (hm2 m0 hm0).2
    · rw [sx_ev_up lk2.1 (b6 m hm).1]
      exact (b6 m hm).2
  rw [sx_mz_sb]
  rw [sx_mz_up lk2.1 (fun m hm => (b6 m hm).1)] at hd
  exact hd
theorem sx_nx_g {rec : Nat → sx_C → Bool} {u : Nat} {a : sx_C} {c : sm_C} {ρ : Nat → Int} {τ : Nat → Nat} (hI : sx_hI G I) (hb : sx_beg An sp A0 ρg τg ρ0 τ0) (h : sx_nx G An sp A0 rec u a = true) (g : sx_gC ρ τ a c) (lk : sx_lk A0.1.2.2.2.2.2.1.length A0.1.2.2.2.2.2.2.2.2 ρ0 ρ τ0 τ) (hG : I c.2.2.2) (hfr : ai_fr (sx_W sp.2.2.2.2) S0 c.2.2.2)
    (ih : ∀ q A, An q = some A → ∀ ρ τ L vs S, sx_lk sp.1.2.2.2.2.2.1.length sp.1.2.2.2.2.2.2.2.2 ρg ρ τg τ → sx_gC ρ τ A.1 (A.1.1, L, vs, S) → I S → ai_fr (sx_W sp.2.2.2.2) S0 S → sx_mz ρ A.2 < sx_mz ρ0 A0.2 → sm_T (mt_P sc) (d + 1) mid (q, L, vs, S) (sx_ty I sp ρg τg S0))
    (hrec : ∀ u a c ρ τ, rec u a = true → sx_okS I sp A0 ρ0 τ0 S0 ρ τ a c → sm_T (mt_P sc) (d + 1) mid c (fun r => sx_ty I sp ρg τg S0 (sm_add u r))) : sm_T (mt_P sc) (d + 1) mid c (fun r => sx_ty I sp ρg τg S0 (sm_add u r)) := by
  unfold sx_nx at h
  simp only [Bool.and_eq_true, decide_eq_true_eq] at h
  obtain ⟨⟨n1, t1⟩, h⟩ := h
  have ok : sx_okS I sp A0 ρ0 τ0 S0 ρ τ a c := ⟨g, lk, n1, t1, hG, hfr⟩
  split at h
  · rename_i A hA
    simp only [Bool.and_eq_true, decide_eq_true_eq] at h
    obtain ⟨rfl, h⟩ := h
    exact (sx_lf_g hI hb hA h ok ih).mono (fun r hr => by rw [sm_add_0]; exact hr)
  · exact hrec u a c ρ τ h ok
/-- the end of the method -/
theorem sx_rc_g {u : Nat} {st : List sx_V} {us : List sm_V} {a : sx_C} {c : sm_C} {o : Option sm_V} {ρ : Nat → Int} {τ : Nat → Nat} (hI : sx_hI G I) (hck : sx_ck sp = true) (hb : sx_beg An sp A0 ρg τg ρ0 τ0) (h : sx_rc G sp u st a = true) (ok : sx_okS I sp A0 ρ0 τ0 S0 ρ τ a c) (hS : sx_gS ρ τ st us) (wS : sx_wS a.2.2.2.2.2.1.length a.2.2.2.2.2.2.2.2 st) (ho : o.toList = us) : sx_ty I sp ρg τg S0 (sm_add u (.inl o, c.2.2.2, 0)) := by
  obtain ⟨g, lk, n1, t1, hG, hfr⟩ := ok
  obtain ⟨b1, b2, b3, b4, b5, b6, b7⟩ := hb
  obtain ⟨pc, aL, st0, R⟩ := a
  obtain ⟨pc0, L, vs, S⟩ := c
  dsimp only at wS n1 t1 hG hfr ⊢
  unfold sx_rc at h
  dsimp only at h
  have ge : sx_gC ρ τ (0, [], st, R) (0, [], us, S) := sx_mk g ⟨rfl, fun j a hj => by cases j <;> cases hj⟩ (fun j a hj => by cases j <;> cases hj) hS wS
  obtain ⟨ρ1, l1, g1, m1, e1⟩ := sx_fd_g (E := sx_EE G sp.2.2.2.2) (n := sp.1.2.2.2.2.2.1.length) (t := sp.1.2.2.2.2.2.2.2.2) (A := sp.2.1) ge (hI.1 _ hG)
  generalize sx_fd (sx_EE G sp.2.2.2.2) sp.1.2.2.2.2.2.1.length sp.1.2.2.2.2.2.2.2.2 sp.2.1 (0, [], st, R) = q at h g1 m1 e1
  obtain ⟨σ, θ, b⟩ := q
  simp only [Bool.and_eq_true, decide_eq_true_eq] at h
  obtain ⟨⟨h0, h1⟩, h2⟩ := h
  unfold sx_ck at hck
  simp only [Bool.and_eq_true, decide_eq_true_eq] at hck
  have g2 := sx_sub_g h1 hck.1.1.1.2 g1
  refine ⟨hG, hfr, Or.inl ⟨o, rfl, h0, sx_rs ρ1 σ, sx_ts τ θ, ?_, by rw [ho]; exact g2⟩⟩
  exact sx_lk_tr (sx_lk_tr (sx_lk_tr b1 lk b2 b3) l1 (Nat.le_trans b2 n1) (Nat.le_trans b3 t1)) (sx_same_g h2) (Nat.le_refl _) (Nat.le_refl _)
theorem sx_sws_g {f : Nat → sx_C → Bool} {u : Nat} {e : sx_E} {R : sx_L × List sx_V × sx_M × sx_N × sx_I × List sx_E × sx_K × Nat} : ∀ {ts : List Nat} {i : Int}, sx_sws f u e R i ts = true → ∀ {j : Nat} {t : Nat}, ts[j]? = some t → sx_oc f u (sx_cd 0 e (sx_c (i + j)) (t, R)) = true
  | [], _, _, j, t, hj => by cases hj
  | t0 :: ts, i, h, j, t, hj => by
    unfold sx_sws at h
    simp only [Bool.and_eq_true] at h
    cases j with
    | zero =>
      cases hj
      have h1 := h.1
      rw [show i + ((0 : Nat) : Int) = i from Int.add_zero i]
      unfold sx_oc
      exact h1
    | succ j =>
      have := sx_sws_g h.2 (j := j) (t := t) hj
      rw [show i + ((j + 1 : Nat) : Int) = i + 1 + j by omega]
      exact this
/-- a special step is sound: what holds behind it holds before it -/
def sx_hX (sc : Nat × (Nat → Int)) (I : sm_S → Prop) (X : sx_X) (d mid : Nat) (w : sx_Wl) : Prop := ∀ pc f, X pc = some f → ∀ (ρ : Nat → Int) (τ : Nat → Nat) (a : sx_C) (c : sm_C) (cs : List sx_C) (Q : sm_R → Prop), f a = some cs → a.1 = pc → sx_gC ρ τ a c → τ 0 = 0 → I c.2.2.2 → (∀ a1 c1 ρ' τ', a1 ∈ cs → sx_gC ρ' τ' a1 c1 → sx_lk a.2.2.2.2.2.1.length a.2.2.2.2.2.2.2.2 ρ ρ' τ τ' → I c1.2.2.2 → ai_fr (sx_W w) c.2.2.2 c1.2.2.2 → sm_T (mt_P sc) (d + 1) mid c1 Q) → sm_T (mt_P sc) (d + 1) mid c Q
theorem sx_ex_g (hI : sx_hI G I) (hX : sx_hX sc I X d mid sp.2.2.2.2) (hck : sx_ck sp = true) (hcks : ∀ a s, s ∈ Sp a → sx_ck s = true) (hcal : ∀ a s, s ∈ Sp a → sx_safe (mt_P sc) I d a s) (hb : sx_beg An sp A0 ρg τg ρ0 τ0)
    (ih : ∀ q A, An q = some A → ∀ ρ τ L vs S, sx_lk sp.1.2.2.2.2.2.1.length sp.1.2.2.2.2.2.2.2.2 ρg ρ τg τ → sx_gC ρ τ A.1 (A.1.1, L, vs, S) → I S → ai_fr (sx_W sp.2.2.2.2) S0 S → sx_mz ρ A.2 < sx_mz ρ0 A0.2 → sm_T (mt_P sc) (d + 1) mid (q, L, vs, S) (sx_ty I sp ρg τg S0)) :
    ∀ (n u : Nat) (a : sx_C) (c : sm_C) (ρ : Nat → Int) (τ : Nat → Nat), sx_ex G X An Sp mid sp A0 n u a = true → sx_okS I sp A0 ρ0 τ0 S0 ρ τ a c → sm_T (mt_P sc) (d + 1) mid c (fun r => sx_ty I sp ρg τg S0 (sm_add u r)) := by
  intro n
  induction n with
  | zero => intro u a c ρ τ h; cases h
  | succ n ihn =>
    intro u a c ρ τ h ok
    obtain ⟨g, lk, n1, t1, hG, hfr⟩ := id ok
    obtain ⟨pc, aL, st, R⟩ := a
    obtain ⟨pc0, L, vs, S⟩ := c
    obtain ⟨rfl, ⟨gL, wL⟩, gS, wS⟩ := sx_un g
    have hz : τ 0 = 0 := by
      obtain ⟨b1, b2, b3, b4, b5, -⟩ := hb
      rw [lk.2 0 (by omega), b1.2 0 b4]
      exact b5
    dsimp only at n1 t1 hG hfr
    simp only [sx_ex] at h
    split at h
    · rename_i f hf
      split at h
      · cases h
      · rename_i cs hcs
        exact hX pc f hf ρ τ _ _ cs _ hcs rfl g hz hG (fun a1 c1 ρ' τ' m1 g1 l1 i1 f1 => sx_nx_g hI hb (List.all_eq_true.mp h a1 m1) g1 (sx_lk_tr lk l1 n1 t1) i1 (ai_fr_tr hfr f1) ih ihn)
    split at h
    · cases h
    · rename_i x hx
      obtain ⟨op, ln, a0, b0, v0, z0⟩ := x
      have hx' : (mt_P sc).1 mid pc = some (op, ln, a0, b0, v0, z0) := hx
      dsimp only at h
      split at h
      · -- a call
        split at h
        · cases h
        · rename_i s σ θ b hp
          obtain ⟨hs, hcl⟩ := sx_pick_g hp
          simp only [Bool.and_eq_true] at h
          obtain ⟨⟨⟨⟨⟨⟨⟨c1, c2⟩, c3⟩, c4⟩, c5⟩, c6⟩, c7⟩, c8⟩ := h
          have c1 := of_decide_eq_true c1
          have c2 := of_decide_eq_true c2
          have c3 := of_decide_eq_true c3
          have c5 := of_decide_eq_true c5
          have hT := sx_gS_take (n := b0) gS
          have hR := sx_gS_rev hT
          have hD := sx_gS_drop (n := b0) gS
          have wT : sx_wS R.2.2.1.length R.2.2.2.2.2 (st.take b0).reverse := fun v hv => wS v (List.mem_of_mem_take (List.mem_reverse.mp hv))
          have wD : sx_wS R.2.2.1.length R.2.2.2.2.2 (st.drop b0) := fun v hv => wS v (List.mem_of_mem_drop hv)
          have hvl : (sm_vsl (vs.take b0).reverse).length ≤ (mt_i a0).2 := by rw [sm_vsl_cat, sx_gS_cat hR]; exact c5
          have ge : sx_gC ρ τ (0, sx_ent (mt_i a0).2 (st.take b0).reverse, [], R) (0, sm_ent (mt_i a0).2 (vs.take b0).reverse, [], S) := sx_mk g (sx_ent_g hR hvl) (sx_ent_w hR wT) trivial (fun _ h => absurd h List.not_mem_nil)
          unfold sx_cl at hcl
          obtain ⟨ρ1, l1, g1, m1, e1⟩ := sx_fd_g (E := sx_EE G sp.2.2.2.2) (n := 0) (t := 1) (A := s.1) ge (hI.1 _ hG)
          generalize sx_fd (sx_EE G sp.2.2.2.2) 0 1 s.1 (0, sx_ent (mt_i a0).2 (st.take b0).reverse, [], R) = q at hcl g1 m1 e1
          dsimp only at hcl
          split at hcl
          · rename_i hq
            cases hcl
            simp only [Bool.and_eq_true] at hq
            obtain ⟨⟨⟨⟨q1, q2⟩, q3⟩, q4⟩, q5⟩ := hq
            have q2 := of_decide_eq_true q2
            have q3 := of_decide_eq_true q3
            have q4 := of_decide_eq_true q4
            have hcs := hcks a0 s hs
            unfold sx_ck at hcs
            simp only [Bool.and_eq_true, decide_eq_true_eq] at hcs
            obtain ⟨⟨⟨⟨k1, k2⟩, k3⟩, k4⟩, k5⟩ := hcs
            dsimp only at g1 m1 e1 q1 q2 q3 q4 q5
            have g2 := sx_sub_g q1 k1 g1
            have hz2 : sx_ts τ θ 0 = 0 := by
              unfold sx_ts
              rw [q2]
              exact hz
            have hsafe := hcal a0 s hs (sx_rs ρ1 σ) (sx_ts τ θ) _ S hz2 g2 hG
            have wσ : σ.all (sx_wfb b.2.2.2.2.2.1.length) = true := by
              obtain ⟨⟨Pp, PL, Ps, Pm, Pn, Pi, Pf, Pk, Pt⟩, s2⟩ := s
              obtain ⟨bp, bL, bs, bm, bn, bi, bf, bk, bt⟩ := b
              simp only [sx_sub, Bool.and_eq_true] at q1
              exact q1.1.1.1.1.1.1.1
            have htp : 0 < b.2.2.2.2.2.2.2.2 := by
              obtain ⟨-, b2, b3, b4, -⟩ := hb
              rw [e1]
              omega
            refine sm_T_call hx' ?_ hsafe (fun u1 S1 k1 q => ?_) (fun ex S1 k1 q => ?_)
            · simp only [Bool.and_eq_true, Bool.or_eq_true, decide_eq_true_eq]
              refine ⟨⟨⟨⟨by rw [← gL.1]; exact c1, by rw [← sx_gS_len hT]; exact c2⟩, by rw [sx_gS_cat hD]; exact c3⟩, ?_⟩, hvl⟩
              unfold sx_rcv at c4
              simp only [Bool.or_eq_true, decide_eq_true_eq] at c4
              rcases c4 with c4 | c4
              · exact Or.inl c4
              · right
                split at c4
                · rename_i t0 tk o r hr
                  rw [hr] at hR
                  obtain ⟨w, e9, -⟩ := sx_inv_n hR
                  rw [e9]
                  exact c4
                · cases c4
            · obtain ⟨p1, p2, p3⟩ := q
              rcases p3 with ⟨u', e2, e3, ρQ, τQ, lQ, gQ⟩ | ⟨ex, e2, -⟩
              · cases e2
                dsimp only at p1 p2 e3 gQ
                have l1' : sx_lk R.2.2.1.length R.2.2.2.2.2 ρ ρ1 τ τ := l1
                obtain ⟨b1, ρ', τ', r1, r2, r3⟩ := sx_rt_g (pc := pc + 3) (aL := aL) (rest := st.drop b0) gQ lQ g1 (sx_gL_lk l1' wL gL) (sx_wL_mono m1 (Nat.le_of_eq e1.symm) wL) (sx_gS_lk l1' wD hD) (sx_wS_mono m1 (Nat.le_of_eq e1.symm) wD) p2 wσ q3 q4 q5 htp k3 k4
                rw [r1] at c7
                have lk' : sx_lk A0.1.2.2.2.2.2.1.length A0.1.2.2.2.2.2.2.2.2 ρ0 ρ' τ0 τ' := sx_lk_tr (sx_lk_tr lk l1' n1 t1) r3 (Nat.le_trans n1 m1) (by rw [e1]; exact t1)
                refine (sx_nx_g hI hb c7 r2 lk' p1 (ai_fr_tr hfr (sx_wle_g c6 p2)) ih ihn).mono (fun r hr => ?_)
                obtain ⟨o, Sr, kr⟩ := r
                exact sx_ty_le hr (by dsimp only [sm_add]; omega)
              · cases e2
            · obtain ⟨p1, p2, p3⟩ := q
              rcases p3 with ⟨u', e2, -⟩ | ⟨ex', e2, e3, e4⟩
              · cases e2
              · cases e2
                dsimp only at p1 p2 e4
                have c9 := List.all_eq_true.mp c8 ex e3
                have hfr' := ai_fr_tr hfr (sx_wle_g c6 p2)
                show match sm_fh (mt_hs mid) pc ex with
                  | none => sm_cov (mt_hs mid) pc = false ∧ sx_ty I sp ρg τg S0 (sm_add u (.inr ex, S1, k1))
                  | some h => ∃ n' a' b' v' z', mt_in mid h = some (7, n', a', b', v', z') ∧ a' < L.length ∧ sm_T (mt_P sc) (d + 1) mid (h + n', sm_s0 L a', [], S1) (fun r => sx_ty I sp ρg τg S0 (sm_add u (sm_add k1 r)))
                cases hfh : sm_fh (mt_hs mid) pc ex with
                | none =>
                  rw [hfh] at c9
                  simp only [Bool.and_eq_true, Bool.not_eq_true', decide_eq_true_eq] at c9
                  obtain ⟨⟨d1, d2⟩, d3⟩ := c9
                  obtain ⟨y, hy, ey⟩ := List.any_eq_true.mp d2
                  have ey := of_decide_eq_true ey
                  subst ey
                  exact ⟨d1, p1, hfr', Or.inr ⟨y, rfl, hy, by dsimp only [sm_add]; omega⟩⟩
                | some hh =>
                  rw [hfh] at c9
                  dsimp only at c9
                  split at c9
                  · rename_i n' a' b' v' z' hin
                    simp only [Bool.and_eq_true, decide_eq_true_eq] at c9
                    obtain ⟨d1, d2⟩ := c9
                    refine ⟨n', a', b', v', z', hin, by rw [← gL.1]; exact d1, ?_⟩
                    have gh : sx_gC ρ τ (hh + n', sx_s0 aL a', [], R.1.filter (fun q => !(sx_W s.2.2.2.2).1 q.1.1.1 q.1.2), sx_fN (sx_W s.2.2.2.2) R.2.1, R.2.2) (hh + n', sm_s0 L a', [], S1) := by
                      obtain ⟨m, nn, iv, fs, kk, t⟩ := R
                      obtain ⟨-, -, -, ⟨gM, wM⟩, ⟨gN, wN⟩, g9⟩ := g
                      refine ⟨rfl, ⟨sx_s0_g gL, sx_s0_w wL⟩, ⟨trivial, fun _ h => absurd h List.not_mem_nil⟩, ⟨fun q hq => ?_, fun q hq => wM q (List.mem_filter.mp hq).1⟩, ⟨sx_fN_g gN p2, sx_fN_w wN⟩, g9⟩
                      · obtain ⟨m1, m2⟩ := List.mem_filter.mp hq
                        dsimp only
                        rw [p2.1 _ _ _ (by simpa using m2)]
                        exact gM q m1
                    refine (sx_nx_g hI hb d2 gh lk p1 hfr' ih ihn).mono (fun r hr => ?_)
                    obtain ⟨o, Sr, kr⟩ := r
                    exact sx_ty_le hr (by dsimp only [sm_add]; omega)
                  · cases c9
          · cases hcl
      · -- ireturn
        split at h
        · obtain ⟨w, rfl, gw⟩ := sx_inv_i gS
          cases w with
          | cons _ _ => exact gw.elim
          | nil => exact sm_T_ri hx' (sx_rc_g hI hck hb h ok gS wS rfl)
        · rename_i e
          simp only [Bool.and_eq_true] at h
          obtain ⟨w, rfl, gw⟩ := sx_inv_i gS
          have hin : 0 ≤ sx_ev ρ e ∧ sx_ev ρ e ≤ 1 := by
            obtain ⟨m, nn, iv, fs, kk, t⟩ := R
            obtain ⟨-, -, -, -, -, gi, gf, -, -⟩ := g
            exact sx_in_g gi gf (sx_wS_hd wS) h.1
          cases w with
          | cons _ _ => exact gw.elim
          | nil => exact sm_T_rz hx' (by omega) (sx_rc_g hI hck hb h.2 ok gS wS rfl)
        · cases h
      · split at h
        · obtain ⟨y, w, rfl, gw⟩ := sx_inv_l gS
          cases w with
          | cons _ _ => exact gw.elim
          | nil => exact sm_T_rl hx' (sx_rc_g hI hck hb h ok gS wS rfl)
        · cases h
      · split at h
        · obtain ⟨w, rfl, gw⟩ := sx_inv_r gS
          cases w with
          | cons _ _ => exact gw.elim
          | nil => exact sm_T_ra hx' (sx_rc_g hI hck hb h ok gS wS rfl)
        · cases h
      · split at h
        · cases vs with
          | cons _ _ => exact gS.elim
          | nil => exact sm_T_rv hx' (sx_rc_g hI hck hb h ok gS wS rfl)
        · cases h
      · split at h
        · simp only [Bool.and_eq_true, decide_eq_true_eq] at h
          obtain ⟨⟨d1, d2⟩, d3⟩ := h
          obtain ⟨y, hy, ey⟩ := List.any_eq_true.mp d2
          have ey := of_decide_eq_true ey
          subst ey
          cases vs with
          | cons _ _ => exact gS.elim
          | nil => exact sm_T_th hx' (by rw [← gL.1]; exact d1) ⟨hG, hfr, Or.inr ⟨y, rfl, hy, by dsimp only [sm_add]; omega⟩⟩
        · cases h
      · -- a switch
        split at h
        · rename_i e r lo df ts hsw
          simp only [Bool.and_eq_true] at h
          obtain ⟨⟨h1, h2⟩, h3⟩ := h
          obtain ⟨w, rfl, gw⟩ := sx_inv_i gS
          have we : sx_wf R.2.2.1.length e := sx_wS_hd wS
          have wr := sx_wS_tl wS
          have go : ∀ t k z, sm_cnd k (sx_ev ρ e) z = true → sx_oc (sx_nx G An sp A0 (sx_ex G X An Sp mid sp A0 n)) u (sx_cd k e (sx_c z) (t, aL, r, R)) = true → sm_T (mt_P sc) (d + 1) mid (t, L, w, S) (fun r => sx_ty I sp ρg τg S0 (sm_add u r)) := by
            intro t k z hk ho
            obtain ⟨a', e1, g1, -⟩ := sx_cd_g (k := k) (x := e) (y := sx_c z) (a := (t, aL, r, R)) (sx_mk (pc' := t) g gL wL gw wr) we (sx_c_wf _ _) (by rw [sx_c_ev]; exact hk)
            rw [e1] at ho
            exact sx_nx_g hI hb ho g1 lk hG hfr ih ihn
          by_cases q1 : sx_ev ρ e < lo
          · refine sm_T_sw hx' hsw (t := df) (by rw [if_pos q1]; rfl) (go df 2 lo (decide_eq_true q1) h2)
          · cases ht : ts[(sx_ev ρ e - lo).toNat]? with
            | some t =>
              refine sm_T_sw hx' hsw (t := t) (by rw [if_neg q1, ht]; rfl) (go t 0 (lo + ((sx_ev ρ e - lo).toNat : Nat)) (decide_eq_true (by omega)) (sx_sws_g h1 ht))
            | none =>
              have := List.getElem?_eq_none_iff.mp ht
              refine sm_T_sw hx' hsw (t := df) (by rw [if_neg q1, ht]; rfl) (go df 3 (lo + (ts.length : Nat)) (decide_eq_true (by omega)) h3)
        · cases h
      · -- a native
        split at h
        · cases h
        · rename_i c1 hc1
          simp only [Bool.and_eq_true, decide_eq_true_eq] at h
          obtain ⟨⟨d1, d2⟩, d3⟩ := h
          obtain ⟨u1, S1, ρ', q1, q2, q3, q4, q5, q6⟩ := sx_nt_g (sc := sc) hc1 g hz (hI.1 _ hG)
          dsimp only at q1 q2 q3
          refine sm_T_nt hx' ?_ q2 (sx_nx_g hI hb d3 q3 (sx_lk_tr lk q4 n1 t1) (hI.2 _ _ hG q5 (sx_EE_n q6)) (ai_fr_tr hfr (sx_EE_w q6)) ih ihn)
          simp only [Bool.and_eq_true, decide_eq_true_eq]
          exact ⟨⟨q1, by rw [← gL.1]; exact d1⟩, by rw [sx_gS_cat (sx_gS_drop (n := b0) gS)]; exact d2⟩
      · -- a step
        split at h
        · cases h
        · rename_i cs hcs
          obtain ⟨hop, c1, a1, ρ', τ', e1, e2, e3, e4, e5, e6⟩ := sx_st_g hcs g (hI.1 _ hG)
          refine sm_T_stp hx' hop e1 ?_
          exact sx_nx_g hI hb (List.all_eq_true.mp h a1 e2) e3 (sx_lk_tr lk e4 n1 t1) (hI.2 _ _ hG e5 (sx_EE_n e6)) (ai_fr_tr hfr (sx_EE_w e6)) ih ihn
end SS
/-! from the check of a method to its safety -/
def sx_lkA (l : List (Nat × sx_A)) (pc : Nat) : Option sx_A := l.lookup pc
/-- the measure at the start -/
def sx_m0 (Al : List (Nat × sx_A)) : List sx_E := match Al with
  | [] => []
  | q :: _ => List.replicate q.2.2.length (sx_B - 1, [])
def sx_chk (G : sx_G) (X : sx_X) (Al : List (Nat × sx_A)) (Sp : Nat → List sx_Sp) (mid : Nat) (sp : sx_Sp) (fuel : Nat) : Bool :=
  sx_ck sp && (Al.all fun q => sx_wbC q.2.1 && sx_mok q.2) && sx_mok (sp.1, sx_m0 Al) && sx_ex G X (sx_lkA Al) Sp mid sp (sp.1, sx_m0 Al) fuel 0 (0, sp.1.2) &&
  Al.all fun q => decide (sp.1.2.2.2.2.2.1.length ≤ q.2.1.2.2.2.2.2.1.length) && decide (sp.1.2.2.2.2.2.2.2.2 ≤ q.2.1.2.2.2.2.2.2.2.2) && sx_ex G X (sx_lkA Al) Sp mid sp q.2 fuel 0 (q.1, q.2.1.2)
theorem sx_lkA_mem {l : List (Nat × sx_A)} {pc : Nat} {A : sx_A} (h : sx_lkA l pc = some A) : (pc, A) ∈ l := by
  unfold sx_lkA at h
  induction l with
  | nil => cases h
  | cons q l ih =>
    obtain ⟨k, B⟩ := q
    rw [List.lookup_cons] at h
    split at h
    · rename_i e
      have e : pc = k := by simpa using e
      cases h
      rw [e]
      exact List.mem_cons_self
    · exact List.mem_cons_of_mem _ (ih h)
theorem sx_gC_pc {ρ : Nat → Int} {τ : Nat → Nat} {a : sx_C} {q : sm_L × List sm_V × sm_S} {p : Nat} (g : sx_gC ρ τ a (a.1, q)) : sx_gC ρ τ (p, a.2) (p, q) := by
  obtain ⟨pc, aL, st, m, nn, iv, fs, k, t⟩ := a
  obtain ⟨-, g⟩ := g
  exact ⟨rfl, g⟩
/-- the check is sound: a method whose callees are safe is safe -/
theorem sx_safe_of {sc : Nat × (Nat → Int)} {G : sx_G} {I : sm_S → Prop} {X : sx_X} {Al : List (Nat × sx_A)} {Sp : Nat → List sx_Sp} {mid d fuel : Nat} {sp : sx_Sp} (hI : sx_hI G I) (hX : sx_hX sc I X d mid sp.2.2.2.2) (h : sx_chk G X Al Sp mid sp fuel = true) (hcks : ∀ a s, s ∈ Sp a → sx_ck s = true) (hcal : ∀ a s, s ∈ Sp a → sx_safe (mt_P sc) I d a s) : sx_safe (mt_P sc) I (d + 1) mid sp := by
  unfold sx_chk at h
  simp only [Bool.and_eq_true] at h
  obtain ⟨⟨⟨⟨c0, c1⟩, c2⟩, c3⟩, c4⟩ := h
  have hAn : ∀ q A, sx_lkA Al q = some A → sx_wbC A.1 = true ∧ sx_mok A = true := by
    intro q A hA
    have := List.all_eq_true.mp c1 (q, A) (sx_lkA_mem hA)
    simp only [Bool.and_eq_true] at this
    exact this
  have hpos : 0 < sp.1.2.2.2.2.2.2.2.2 := by
    have := c0
    unfold sx_ck at this
    simp only [Bool.and_eq_true, decide_eq_true_eq] at this
    exact this.2
  intro ρg τg L S hz g hG
  have main : ∀ (N q : Nat) (A : sx_A), sx_lkA Al q = some A → ∀ (ρ : Nat → Int) (τ : Nat → Nat) (L1 : sm_L) (vs : List sm_V) (S1 : sm_S), sx_lk sp.1.2.2.2.2.2.1.length sp.1.2.2.2.2.2.2.2.2 ρg ρ τg τ → sx_gC ρ τ A.1 (A.1.1, L1, vs, S1) → I S1 → ai_fr (sx_W sp.2.2.2.2) S S1 → (sx_mz ρ A.2).toNat = N → sm_T (mt_P sc) (d + 1) mid (q, L1, vs, S1) (sx_ty I sp ρg τg S) := by
    intro N
    induction N using Nat.strongRecOn with
    | _ N ihN =>
      intro q A hA ρ τ L1 vs S1 lk gA hG1 hfr hN
      have hq := List.all_eq_true.mp c4 (q, A) (sx_lkA_mem hA)
      simp only [Bool.and_eq_true, decide_eq_true_eq] at hq
      obtain ⟨⟨hq1, hq2⟩, hq3⟩ := hq
      have hm := sx_mok_g (hAn q A hA).2 gA
      have hb : sx_beg (sx_lkA Al) sp A ρg τg ρ τ := ⟨lk, hq1, hq2, hpos, hz, hm, hAn⟩
      refine (sx_ex_g hI hX c0 hcks hcal hb (fun q' A' hA' ρ' τ' L' vs' S' lk' gA' hG' hfr' hlt => ?_) fuel 0 (q, A.1.2) (q, L1, vs, S1) ρ τ hq3 ⟨sx_gC_pc gA, ⟨fun _ _ => rfl, fun _ _ => rfl⟩, Nat.le_refl _, Nat.le_refl _, hG1, hfr⟩).mono (fun r hr => by rw [sm_add_0] at hr; exact hr)
      have h0 := (sx_mz_b (fun m hm' => (sx_mok_g (hAn q' A' hA').2 gA' m hm').2)).1
      exact ihN _ (by omega) q' A' hA' ρ' τ' L' vs' S' lk' gA' hG' hfr' rfl
  have hm := sx_mok_g c2 (A := (sp.1, sx_m0 Al)) g
  have hb : sx_beg (sx_lkA Al) sp (sp.1, sx_m0 Al) ρg τg ρg τg := ⟨⟨fun _ _ => rfl, fun _ _ => rfl⟩, Nat.le_refl _, Nat.le_refl _, hpos, hz, hm, hAn⟩
  exact (sx_ex_g hI hX c0 hcks hcal hb (fun q' A' hA' ρ' τ' L' vs' S' lk' gA' hG' hfr' hlt => main _ q' A' hA' ρ' τ' L' vs' S' lk' gA' hG' hfr' rfl) fuel 0 (0, sp.1.2) (0, L, [], S) ρg τg c3 ⟨sx_gC_pc g, ⟨fun _ _ => rfl, fun _ _ => rfl⟩, Nat.le_refl _, Nat.le_refl _, hG, ai_fr_rf⟩).mono (fun r hr => by rw [sm_add_0] at hr; exact hr)
