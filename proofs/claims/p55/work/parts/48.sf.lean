/-! the check of a method, and that it is sound -/
/-- a spec: arguments, result, whether it may throw -/
abbrev ai_P : Type := List ai_V × Option ai_V × Bool
def ai_ty (E : ai_E) (r : sm_R) (res : Option ai_V) (th : Bool) : Prop := ai_GI E.1 E.2.1 r.2.1 ∧ ((∃ v, r.1 = .inl v ∧ r.2.2 = 0 ∧ match res, v with
    | none, none => True
    | some b, some u => ai_h b u
    | _, _ => False) ∨ (th = true ∧ (∃ e, r.1 = .inr e) ∧ r.2.2 = 1))
/-- a method is safe: from every start that its spec allows it comes to an end that its spec tells -/
def ai_safe (P : sm_P) (E : ai_E) (d mid : Nat) (sp : ai_P) : Prop := ∀ (vs : List sm_V) (S : sm_S), ai_hS sp.1 vs → ai_GI E.1 E.2.1 S → sm_T P d mid (0, sm_ent (P.2.1 mid).2 vs, [], S) (fun r => ai_ty E r sp.2.1 sp.2.2)
/-- a constant of the JDK's, or of the pool -/
def ai_nat (P : sm_P) (a : Nat) (c : Int) : Prop := ∀ S, P.2.2.2.2 a [] S = some (some (.inl c), S)
/-- the data of a check: annotations of this method, specs of the others, constants (number, value), long constants -/
abbrev ai_D : Type := (Nat → Option ai_A) × (Nat → Option ai_P) × List (Nat × Int) × List Nat
def ai_lenok (st : List ai_V) : Nat := (st.map fun v => match v with
  | .inr (.inl _) => 2
  | _ => 1).sum
def ai_rcv (own v : Nat) (vs : List ai_V) : Bool := v = 1 || match vs with
  | .inr (.inr (t, _, false)) :: _ => decide (t = own)
  | _ => false
def ai_ex (P : sm_P) (E : ai_E) (D : ai_D) (mid : Nat) (A0 : ai_A) (res : Option ai_V) (th : Bool) : Nat → ai_C → Bool
  | 0, _ => false
  | n + 1, (pc, aL, st, F) => match P.1 mid pc with
    | none => false
    | some (op, ln, a, b, v, z) => match op with
      | 40 => match D.2.1 a with
        | none => false
        | some sp => decide (aL.length = (P.2.1 mid).2) && decide ((st.take b).length = b) && decide (ai_lenok (st.drop b) ≤ 8) && ai_rcv (P.2.1 a).1 v (st.take b).reverse && decide (ai_lenok (st.take b).reverse ≤ (P.2.1 a).2) && ai_leS (st.take b).reverse sp.1 && (!sp.2.2 || (th && (P.2.2.1 mid).isEmpty)) &&
            (match D.1 (pc + 3) with
              | some A => ai_leL (ai_noL aL) A.1 && ai_leS ((sp.2.1.map ai_pv).toList ++ (st.drop b).map ai_no) A.2.1 && ai_mok A && ai_dec (ai_noL aL) A0.1 A.2.2 A0.2.2
              | none => ai_ex P E D mid A0 res th n (pc + 3, ai_noL aL, (sp.2.1.map ai_pv).toList ++ (st.drop b).map ai_no, []))
      | 41 => match b, st, res with
        | 0, [u], some r => ai_le u r && (match u with
          | .inl _ => true
          | _ => false)
        | 1, [u], some r => ai_le u r && ai_le u (.inl (0, 1, none, none))
        | _, _, _ => false
      | 42 => match st, res with
        | [.inr (.inl _)], some (.inr (.inl _)) => true
        | _, _ => false
      | 43 => match st, res with
        | [.inr (.inr u)], some r => ai_le (.inr (.inr u)) r
        | _, _ => false
      | 44 => match st, res with
        | [], none => true
        | _, _ => false
      | 45 => match st with
        | [] => th && decide (aL.length = (P.2.1 mid).2)
        | _ => false
      | 49 => decide (b = 0) && decide (aL.length = (P.2.1 mid).2) && decide (ai_lenok st ≤ 8) && (match D.2.2.1.lookup a with
        | some c => (match D.1 (pc + ln) with
          | some _ => false
          | none => ai_ex P E D mid A0 res th n (pc + ln, aL, .inl (c, c, none, none) :: st, F))
        | none => false)
      | _ => match ai_stp E (op, ln, a, b, v, z) pc aL st F with
        | none => false
        | some cs => cs.all fun c => match D.1 c.1 with
          | some A => ai_leL c.2.1 A.1 && ai_leS c.2.2.1 A.2.1 && ai_mok A && ai_dec c.2.1 A0.1 A.2.2 A0.2.2
          | none => ai_ex P E D mid A0 res th n c
