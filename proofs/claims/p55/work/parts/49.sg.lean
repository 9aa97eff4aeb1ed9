/-! lists of values -/
section SG
variable {L0 L : sm_L} {S : sm_S}
theorem ai_gS_len : ∀ {as : List ai_V} {vs : List sm_V}, ai_gS L0 L S as vs → as.length = vs.length
  | [], [], _ => rfl
  | _ :: _, _ :: _, h => congrArg (· + 1) (ai_gS_len h.2)
  | [], _ :: _, h => h.elim
  | _ :: _, [], h => h.elim
theorem ai_gS_take : ∀ {n : Nat} {as : List ai_V} {vs : List sm_V}, ai_gS L0 L S as vs → ai_gS L0 L S (as.take n) (vs.take n)
  | 0, _, _, _ => by simp only [List.take_zero]; trivial
  | _ + 1, [], [], _ => trivial
  | _ + 1, _ :: _, _ :: _, h => ⟨h.1, ai_gS_take h.2⟩
  | _ + 1, [], _ :: _, h => h.elim
  | _ + 1, _ :: _, [], h => h.elim
theorem ai_gS_drop : ∀ {n : Nat} {as : List ai_V} {vs : List sm_V}, ai_gS L0 L S as vs → ai_gS L0 L S (as.drop n) (vs.drop n)
  | 0, _, _, h => h
  | _ + 1, [], [], _ => trivial
  | n + 1, _ :: as, _ :: vs, h => ai_gS_drop (n := n) (as := as) (vs := vs) h.2
  | _ + 1, [], _ :: _, h => h.elim
  | _ + 1, _ :: _, [], h => h.elim
theorem ai_gS_app : ∀ {as bs : List ai_V} {vs ws : List sm_V}, ai_gS L0 L S as vs → ai_gS L0 L S bs ws → ai_gS L0 L S (as ++ bs) (vs ++ ws)
  | [], _, [], _, _, h => h
  | _ :: _, _, _ :: _, _, h, g => ⟨h.1, ai_gS_app h.2 g⟩
  | [], _, _ :: _, _, h, _ => h.elim
  | _ :: _, _, [], _, h, _ => h.elim
theorem ai_gS_rev : ∀ {as : List ai_V} {vs : List sm_V}, ai_gS L0 L S as vs → ai_gS L0 L S as.reverse vs.reverse
  | [], [], _ => trivial
  | a :: as, v :: vs, h => by
    rw [List.reverse_cons, List.reverse_cons]
    exact ai_gS_app (ai_gS_rev h.2) ⟨h.1, trivial⟩
  | [], _ :: _, h => h.elim
  | _ :: _, [], h => h.elim
theorem ai_gS_cat : ∀ {as : List ai_V} {vs : List sm_V}, ai_gS L0 L S as vs → (vs.map sm_cat).sum = ai_lenok as
  | [], [], _ => rfl
  | a :: as, v :: vs, h => by
    have ih := ai_gS_cat h.2
    have hd := h.1
    unfold ai_lenok at ih ⊢
    rw [List.map_cons, List.map_cons, List.sum_cons, List.sum_cons, ih]
    rcases a with x | _ | x <;> rcases v with z | z | v <;> first | rfl | exact hd.elim
  | [], _ :: _, h => h.elim
  | _ :: _, [], h => h.elim
theorem sm_vsl_cat (vs : List sm_V) : (sm_vsl vs).length = (vs.map sm_cat).sum := by
  induction vs with
  | nil => rfl
  | cons v vs ih =>
    unfold sm_vsl at ih ⊢
    rw [List.flatMap_cons, List.length_append, List.map_cons, List.sum_cons, ih]
    rcases v with z | z | _ | r <;> rfl
end SG
/-- a leaf: the next annotated place -/
theorem ai_leaf {P : sm_P} {E : ai_E} {D : ai_D} {d mid : Nat} {A0 A : ai_A} {Post : sm_R → Prop} {L0 : sm_L} {q : Nat} {aL : ai_L} {st : List ai_V} {L : sm_L} {vs : List sm_V} {S : sm_S}
    (hA0 : ai_hL A0.1 L0) (hm0 : ai_mok A0 = true) (ih : ∀ q A, D.1 q = some A → ∀ L vs S, ai_hL A.1 L → ai_hS A.2.1 vs → ai_GI E.1 E.2.1 S → ai_mz L A.2.2 < ai_mz L0 A0.2.2 → 0 ≤ ai_mz L A.2.2 → sm_T P d mid (q, L, vs, S) Post)
    (hD : D.1 q = some A) (hc : (ai_leL aL A.1 && ai_leS st A.2.1 && ai_mok A && ai_dec aL A0.1 A.2.2 A0.2.2) = true) (hL : ai_gL L0 L S aL) (hS : ai_gS L0 L S st vs) (hG : ai_GI E.1 E.2.1 S) : sm_T P d mid (q, L, vs, S) Post := by
  simp only [Bool.and_eq_true] at hc
  obtain ⟨⟨⟨c1, c2⟩, c3⟩, c4⟩ := hc
  have g1 := ai_leL_g c1 hL
  have g2 := ai_mok_g c3 g1
  have g3 := ai_dec_g hL hA0 c4 g2 (ai_mok_g hm0 hA0)
  exact ih q A hD L vs S g1 (ai_leS_g c2 hS) hG g3.1 (ai_mz_b g2).1
theorem ai_ex_g {P : sm_P} {E : ai_E} {D : ai_D} {d mid : Nat} {A0 : ai_A} {res : Option ai_V} {th : Bool} {L0 : sm_L} (hcon : ∀ a c, D.2.2.1.lookup a = some c → ai_nat P a c) (hcal : ∀ a sp, D.2.1 a = some sp → ai_safe P E d a sp) (hA0 : ai_hL A0.1 L0) (hm0 : ai_mok A0 = true)
    (ih : ∀ q A, D.1 q = some A → ∀ L vs S, ai_hL A.1 L → ai_hS A.2.1 vs → ai_GI E.1 E.2.1 S → ai_mz L A.2.2 < ai_mz L0 A0.2.2 → 0 ≤ ai_mz L A.2.2 → sm_T P (d + 1) mid (q, L, vs, S) (fun r => ai_ty E r res th)) :
    ∀ (n : Nat) (ac : ai_C) (c : sm_C), ai_ex P E D mid A0 res th n ac = true → ai_gC L0 ac c → ai_GI E.1 E.2.1 c.2.2.2 → sm_T P (d + 1) mid c (fun r => ai_ty E r res th) := by
  intro n
  induction n with
  | zero => intro ac c h; cases h
  | succ n ihn =>
    intro ac c h hc hG
    obtain ⟨pc, aL, st, F⟩ := ac
    obtain ⟨pc', L, vs, S⟩ := c
    obtain ⟨hpc, hL, hS, hF⟩ := hc
    dsimp only at hpc hL hS hF hG
    subst hpc
    simp only [ai_ex] at h
    split at h
    · cases h
    · rename_i op ln a b v z hx
      split at h
      · -- a call
        split at h
        · cases h
        · rename_i sp hsp
          simp only [Bool.and_eq_true] at h
          obtain ⟨⟨⟨⟨⟨⟨⟨c1, c2⟩, c3⟩, c4⟩, c5⟩, c6⟩, c7⟩, c8⟩ := h
          have c1 := of_decide_eq_true c1
          have c2 := of_decide_eq_true c2
          have c3 := of_decide_eq_true c3
          have c5 := of_decide_eq_true c5
          have hT := ai_gS_take (n := b) hS
          have hR := ai_gS_rev hT
          have hDr := ai_gS_drop (n := b) hS
          have hsafe := hcal a sp hsp (vs.take b).reverse S (ai_leS_g c6 hR) hG
          refine sm_T_call hx ?_ hsafe (fun u S1 k1 q => ?_) (fun ex S1 k1 q => ?_)
          · simp only [Bool.and_eq_true, Bool.or_eq_true, decide_eq_true_eq]
            refine ⟨⟨⟨⟨by rw [← hL.1]; exact c1, by rw [← ai_gS_len hT]; exact c2⟩, by rw [ai_gS_cat hDr]; exact c3⟩, ?_⟩, by rw [sm_vsl_cat, ai_gS_cat hR]; exact c5⟩
            unfold ai_rcv at c4
            simp only [Bool.or_eq_true, decide_eq_true_eq] at c4
            rcases c4 with c4 | c4
            · exact Or.inl c4
            · right
              split at c4
              · rename_i t j r hr
                rw [hr] at hR
                obtain ⟨i, w, e1, -, -⟩ := ai_inv_n hR
                rw [e1]
                exact c4
              · cases c4
          · obtain ⟨q1, q2⟩ := q
            rcases q2 with ⟨u', e1, e2, q3⟩ | ⟨-, ⟨e, e1⟩, -⟩
            · cases e1
              have e2 : k1 = 0 := e2
              subst e2
              have hres : ai_gS L0 L S1 (sp.2.1.map ai_pv).toList u.toList := by
                cases hs : sp.2.1 with
                | none =>
                  rw [hs] at q3
                  cases u with
                  | none => trivial
                  | some u => exact q3.elim
                | some r0 =>
                  rw [hs] at q3
                  cases u with
                  | none => exact q3.elim
                  | some u => exact ⟨ai_pv_g q3, trivial⟩
              have hst : ai_gS L0 L S1 ((sp.2.1.map ai_pv).toList ++ (st.drop b).map ai_no) (u.toList ++ vs.drop b) := ai_gS_app hres (ai_noS_g hDr)
              refine sm_T.mono ?_ (fun r hr => by rw [sm_add_0]; exact hr)
              split at c8
              · rename_i A hA
                exact ai_leaf hA0 hm0 ih hA c8 (ai_noL_g hL) hst q1
              · exact ihn _ _ c8 ⟨rfl, ai_noL_g hL, hst, fun q hq => absurd hq List.not_mem_nil⟩ q1
            · cases e1
          · obtain ⟨q1, q2⟩ := q
            rcases q2 with ⟨u', e1, -⟩ | ⟨t1, ⟨e, e1⟩, e2⟩
            · cases e1
            · rw [t1] at c7
              simp only [Bool.not_true, Bool.false_or, Bool.and_eq_true] at c7
              have hemp : P.2.2.1 mid = [] := List.isEmpty_iff.mp c7.2
              rw [hemp]
              exact ⟨rfl, q1, Or.inr ⟨c7.1, ⟨_, rfl⟩, e2⟩⟩
      · -- ireturn
        split at h
        · rename_i u r
          simp only [Bool.and_eq_true] at h
          cases vs with
          | nil => exact hS.elim
          | cons w ws =>
            cases ws with
            | cons _ _ => exact hS.2.elim
            | nil =>
              have hw := hS.1
              rcases u with u | _ | u
              · rcases w with w | w | w
                · exact sm_T_ri hx ⟨hG, Or.inl ⟨_, rfl, rfl, ai_le_g h.1 hw⟩⟩
                · exact hw.elim
                · exact hw.elim
              · cases h.2
              · cases h.2
        · rename_i u r
          simp only [Bool.and_eq_true] at h
          cases vs with
          | nil => exact hS.elim
          | cons w ws =>
            cases ws with
            | cons _ _ => exact hS.2.elim
            | nil =>
              have hw := hS.1
              have hz := ai_le_g h.2 hw
              rcases w with w | w | w
              · have hz : (0 : Int) ≤ w ∧ w ≤ 1 := hz
                exact sm_T_rz hx (by omega) ⟨hG, Or.inl ⟨_, rfl, rfl, ai_le_g h.1 hw⟩⟩
              · exact hz.elim
              · exact hz.elim
        · cases h
      · -- lreturn
        split at h
        · obtain ⟨y, w, rfl, h2⟩ := ai_inv_l hS
          cases w with
          | cons _ _ => exact h2.elim
          | nil => exact sm_T_rl hx ⟨hG, Or.inl ⟨_, rfl, rfl, trivial⟩⟩
        · cases h
      · -- areturn
        split at h
        · rename_i u r
          have hh : ai_gV L0 L S (.inr (.inr u)) (vs.headD (.inl 0)) ∨ True := Or.inr trivial
          obtain ⟨y, w, rfl, h1, h2⟩ := ai_inv_r hS
          cases w with
          | cons _ _ => exact h2.elim
          | nil => exact sm_T_ra hx ⟨hG, Or.inl ⟨_, rfl, rfl, ai_le_g (L0 := L0) (L := L) (S := S) (a := .inr (.inr u)) (v := .inr (.inr y)) h h1⟩⟩
        · cases h
      · -- return
        split at h
        · cases vs with
          | cons _ _ => exact hS.elim
          | nil => exact sm_T_rv hx ⟨hG, Or.inl ⟨_, rfl, rfl, trivial⟩⟩
        · cases h
      · -- throw
        split at h
        · simp only [Bool.and_eq_true, decide_eq_true_eq] at h
          cases vs with
          | cons _ _ => exact hS.elim
          | nil => exact sm_T_th hx (by rw [← hL.1]; exact h.2) ⟨hG, Or.inr ⟨h.1, ⟨_, rfl⟩, rfl⟩⟩
        · cases h
      · -- a constant
        simp only [Bool.and_eq_true] at h
        obtain ⟨⟨⟨c1, c2⟩, c3⟩, c4⟩ := h
        have c1 : b = 0 := of_decide_eq_true c1
        have c2 := of_decide_eq_true c2
        have c3 := of_decide_eq_true c3
        subst c1
        split at c4
        · rename_i k hk
          split at c4
          · cases c4
          · refine sm_T_nt hx ?_ (u := some (.inl k)) (S1 := S) (by simpa using hcon a k hk S) (ihn _ _ c4 ⟨rfl, hL, ⟨ai_cst, hS⟩, hF⟩ hG)
            simp only [Bool.and_eq_true, decide_eq_true_eq]
            exact ⟨⟨rfl, by rw [← hL.1]; exact c2⟩, by rw [List.drop_zero, ai_gS_cat hS]; exact c3⟩
        · cases c4
      · -- a step
        split at h
        · cases h
        · rename_i cs hcs
          obtain ⟨hop, c1, ac, e1, e2, e3, e4, -⟩ := ai_stp_g hcs hL hS hF hG
          refine sm_T_stp hx hop e1 ?_
          have h1 := List.all_eq_true.mp h ac e2
          obtain ⟨p1, aL1, st1, F1⟩ := ac
          obtain ⟨p2, L1, vs1, S1⟩ := c1
          obtain ⟨f1, f2, f3, f4⟩ := e3
          dsimp only at f1 f2 f3 f4 e4 h1
          subst f1
          split at h1
          · rename_i A hA
            exact ai_leaf hA0 hm0 ih hA h1 f2 f3 e4
          · exact ihn _ _ h1 ⟨rfl, f2, f3, f4⟩ e4
