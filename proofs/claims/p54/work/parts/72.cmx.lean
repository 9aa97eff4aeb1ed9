/-! constructors as lists of doings -/
abbrev cm_I : Type := Nat × Nat × Nat × Nat × Nat × Nat × Nat × Nat × Nat × Nat
abbrev cm_R : Type := List cm_D × Nat × Nat
def cm_put (w : List cm_D) (i own k j : Nat) : Option (List cm_D) := match w[i]? with
  | some (.inr (.inl (ci, fl))) => if ci = own && decide (k < fl.length) && decide (fl.length = (sh_kd own).2.2) && decide (j < w.length) then some (w.set i (.inr (.inl (ci, fl.set k (some j))))) else none
  | _ => none
def cm_fd (w : List cm_D) (i own k : Nat) : Option Nat := match w[i]? with
  | some (.inr (.inl (ci, fl))) => if ci = own && decide (k < fl.length) && decide (fl.length = (sh_kd own).2.2) then fl.getD k none else none
  | _ => none
def cm_set (w : List cm_D) (ra ty j ci v : Nat) : Option (List cm_D) := match w[ra]? with
  | some (.inr (.inr (ty', el))) => match w[v]? with
    | some (.inr (.inl (ci', _))) => if ty' = ty && decide (j < el.length) && decide (el.length ≤ 1000) && decide (ci' = ci) then some (w.set ra (.inr (.inr (ty', el.set j (some v))))) else none
    | _ => none
  | _ => none
theorem cm_put_spec {w w' : List cm_D} {i own k j : Nat} (h : cm_put w i own k j = some w') : ∃ fl, w[i]? = some (.inr (.inl (own, fl))) ∧ k < fl.length ∧ fl.length = (sh_kd own).2.2 ∧ j < w.length ∧ w' = w.set i (.inr (.inl (own, fl.set k (some j)))) := by
  unfold cm_put at h
  split at h
  · rename_i ci fl h0
    split at h
    · rename_i hc
      simp only [Bool.and_eq_true, decide_eq_true_eq] at hc
      obtain ⟨⟨⟨rfl, c2⟩, c3⟩, c4⟩ := hc
      exact ⟨fl, h0, c2, c3, c4, (Option.some.inj h).symm⟩
    · cases h
  · cases h
theorem cm_fd_spec {w : List cm_D} {i own k j : Nat} (h : cm_fd w i own k = some j) : ∃ fl, w[i]? = some (.inr (.inl (own, fl))) ∧ k < fl.length ∧ fl.length = (sh_kd own).2.2 ∧ fl.getD k none = some j := by
  unfold cm_fd at h
  split at h
  · rename_i ci fl h0
    split at h
    · rename_i hc
      simp only [Bool.and_eq_true, decide_eq_true_eq] at hc
      obtain ⟨⟨rfl, c2⟩, c3⟩ := hc
      exact ⟨fl, h0, c2, c3, h⟩
    · cases h
  · cases h
theorem cm_set_spec {w w' : List cm_D} {ra ty j ci v : Nat} (h : cm_set w ra ty j ci v = some w') : ∃ el fl, w[ra]? = some (.inr (.inr (ty, el))) ∧ w[v]? = some (.inr (.inl (ci, fl))) ∧ j < el.length ∧ el.length ≤ 1000 ∧ w' = w.set ra (.inr (.inr (ty, el.set j (some v)))) := by
  unfold cm_set at h
  split at h
  · rename_i ty' el h0
    split at h
    · rename_i ci' fl h1
      split at h
      · rename_i hc
        simp only [Bool.and_eq_true, decide_eq_true_eq] at hc
        obtain ⟨⟨⟨rfl, c2⟩, c3⟩, rfl⟩ := hc
        exact ⟨el, fl, h0, h1, c2, c3, (Option.some.inj h).symm⟩
      · cases h
    · cases h
  · cases h
abbrev cm_F : Type := Nat → Nat → Option Nat → List cm_D → Option cm_R
def cm_sub (rec : cm_F) (ci : Nat) (arg : Option Nat) (w : List cm_D) : Option cm_R := (rec ci w.length arg (w ++ [cm_o ci])).map fun r => (r.1, 1 + r.2.1, (sh_kd ci).2.2 + r.2.2)
def cm_lp (rec : cm_F) (own i0 k ci ty : Nat) : Nat → Nat → List cm_D → Option cm_R
  | 0, _, w => some (w, 0, 0)
  | n + 1, j, w => match cm_fd w i0 own k with
    | none => none
    | some ra => match cm_sub rec ci none w with
      | none => none
      | some r => match cm_set r.1 ra ty j ci w.length with
        | none => none
        | some w2 => (cm_lp rec own i0 k ci ty n (j + 1) w2).map fun r2 => (r2.1, r.2.1 + r2.2.1, r.2.2 + r2.2.2)
def cm_x1 (rec : cm_F) (own i0 : Nat) (arg : Option Nat) (I : cm_I) (w : List cm_D) : Option cm_R := match I with
  | (op, _, _, n, a, _, c, _, _, f) => match op with
    | 0 => (cm_put (w ++ [.inl (a, n)]) i0 own c w.length).map fun w' => (w', 1, n)
    | 1 => match arg with
      | none => none
      | some j => (cm_put w i0 own c j).map fun w' => (w', 0, 0)
    | 2 => match cm_sub rec n none w with
      | none => none
      | some r => (cm_put r.1 i0 own c w.length).map fun w' => (w', r.2.1, r.2.2)
    | 3 => match cm_fd w i0 own f with
      | none => none
      | some j => match cm_sub rec n (some j) w with
        | none => none
        | some r => (cm_put r.1 i0 own c w.length).map fun w' => (w', r.2.1, r.2.2)
    | 4 => match arg with
      | some _ => none
      | none => match cm_put (w ++ [.inr (.inr (a, List.replicate n none))]) i0 own c w.length with
        | none => none
        | some w1 => (cm_lp rec own i0 c f a n 0 w1).map fun r => (r.1, 1 + r.2.1, n + r.2.2)
    | _ => none
def cm_xl (rec : cm_F) (own i0 : Nat) (arg : Option Nat) : List cm_I → List cm_D → Option cm_R
  | [], w => some (w, 0, 0)
  | I :: r, w => match cm_x1 rec own i0 arg I w with
    | none => none
    | some a => (cm_xl rec own i0 arg r a.1).map fun b => (b.1, a.2.1 + b.2.1, a.2.2 + b.2.2)
def cm_x (T : Nat → List cm_I) : Nat → cm_F
  | 0 => fun _ _ _ _ => none
  | d + 1 => fun ci i0 arg w => if arg.isNone || decide (2 ≤ cm_m ci) then cm_xl (cm_x T d) ci i0 arg (T ci) w else none
/-! what is read off the code -/
def cm_lk (own ix k : Nat) : Bool := (sh_lk own).any fun q => decide (q.1 = ix) && decide (q.2.1 = own) && decide (q.2.2.1 = k)
def cm_fo (own k : Nat) : Bool := (sh_T own k).2.2.2 && decide ((sh_T own k).1 = sh_R own) && (match parseFieldDescriptor (sh_T own k).2.2.1 with
  | some ty => fits ty (.ref 0)
  | none => false)
def cm_nx (I : cm_I) : Nat := match I with
  | (op, pc, pl, _) => if op = 0 then pc + cm_pl pl + 6 else if op = 1 then pc + 5 else if op = 2 then pc + 11 else if op = 3 then pc + 15 else pc + 2 * cm_pl pl + 32
def cm_c1 (own : Nat) (cc : ByteArray) (I : cm_I) : Bool := match I with
  | (op, pc, pl, n, a, b, c, d, e, f) => decide (decode cc pc = .ok (.aload_n 0, 1)) && cm_lk own b c && cm_fo own c && (match op with
    | 0 => cm_pd cc own (pc + 1) pl n d && decide (a < 4) && decide (n ≤ 67108864) && decide (decode cc (pc + 1 + cm_pl pl) = .ok (.newarray (cm_aty a), 2)) && decide (decode cc (pc + 3 + cm_pl pl) = .ok (.putfield b, 3))
    | 1 => decide (decode cc (pc + 1) = .ok (.aload_n 1, 1)) && decide (decode cc (pc + 2) = .ok (.putfield b, 3))
    | 2 => decide (decode cc (pc + 1) = .ok (.new a, 3)) && cm_nw own a n && decide (decode cc (pc + 4) = .ok (.dup, 1)) && decide (decode cc (pc + 5) = .ok (.invokespecial d, 3)) && cm_iw pl own d n 0 && decide (decode cc (pc + 8) = .ok (.putfield b, 3))
    | 3 => decide (decode cc (pc + 1) = .ok (.new a, 3)) && cm_nw own a n && decide (decode cc (pc + 4) = .ok (.dup, 1)) && decide (decode cc (pc + 5) = .ok (.aload_n 0, 1)) && decide (decode cc (pc + 6) = .ok (.getfield e, 3)) && cm_lk own e f && decide (decode cc (pc + 9) = .ok (.invokespecial d, 3)) && cm_iw pl own d n 1 && decide (decode cc (pc + 12) = .ok (.putfield b, 3))
    | 4 => decide (cm_m own = 2) && cm_pd cc own (pc + 1) pl n 0 && decide (a = 4 ∧ f = 3 ∨ a = 5 ∧ f = 5 ∨ a = 6 ∧ f = 2) && decide (n ≤ 1000) && cm_nw own e f && decide (decode cc (pc + 1 + cm_pl pl) = .ok (.anewarray e, 3)) && decide (decode cc (pc + 4 + cm_pl pl) = .ok (.putfield b, 3)) && decide (decode cc (pc + 7 + cm_pl pl) = .ok (.iconst 0, 1)) && decide (decode cc (pc + 8 + cm_pl pl) = .ok (.istore_n 1, 1))
      && decide (decode cc (pc + 9 + cm_pl pl) = .ok (.iload_n 1, 1)) && cm_pd cc own (pc + 10 + cm_pl pl) pl n 0 && decide (decode cc (pc + 10 + 2 * cm_pl pl) = .ok (.if_icmp .ge 22, 3))
      && decide (decode cc (pc + 13 + 2 * cm_pl pl) = .ok (.aload_n 0, 1)) && decide (decode cc (pc + 14 + 2 * cm_pl pl) = .ok (.getfield b, 3)) && decide (decode cc (pc + 17 + 2 * cm_pl pl) = .ok (.iload_n 1, 1)) && decide (decode cc (pc + 18 + 2 * cm_pl pl) = .ok (.new e, 3)) && decide (decode cc (pc + 21 + 2 * cm_pl pl) = .ok (.dup, 1)) && decide (decode cc (pc + 22 + 2 * cm_pl pl) = .ok (.invokespecial d, 3)) && cm_iw 1 own d f 0 && decide (decode cc (pc + 25 + 2 * cm_pl pl) = .ok (.aastore, 1)) && decide (decode cc (pc + 26 + 2 * cm_pl pl) = .ok (.iinc 1 1, 3)) && decide (decode cc (pc + 29 + 2 * cm_pl pl) = .ok (.goto (-20 - (cm_pl pl : Int)), 3))
    | _ => false)
def cm_cl (own : Nat) (cc : ByteArray) (pe : Nat) : List cm_I → Nat → Bool
  | [], pc => decide (pc = pe)
  | I :: r, pc => decide (I.2.1 = pc) && cm_c1 own cc I && cm_cl own cc pe r (cm_nx I)
def cm_k1 (ok : Nat → Bool) (I : cm_I) : Bool := match I with
  | (op, _, _, n, _, _, _, _, _, f) => match op with
    | 2 => ok n
    | 3 => ok n
    | 4 => ok f
    | _ => true
def cm_hd (ci : Nat) : Bool := cm_isc ci && decide (decode (cm_b ci) 0 = .ok (.aload_n 0, 1)) && decide (decode (cm_b ci) 1 = .ok (.invokespecial (cm_oi ci), 3)) && cm_cl ci (cm_b ci) (cm_pe ci) (cm_T ci) 4 && decide (decode (cm_b ci) (cm_pe ci) = .ok (.return_, 1))
theorem cm_nw_row {own e f a : Nat} (h : cm_nw own e f = true) (h2 : a = 4 ∧ f = 3 ∨ a = 5 ∧ f = 5 ∨ a = 6 ∧ f = 2) : Cond.classLink (sh_R own) e (cm_cn a) ∈ BG := by
  have h3 := (cm_nw_spec h).1
  rcases h2 with ⟨rfl, rfl⟩ | ⟨rfl, rfl⟩ | ⟨rfl, rfl⟩
  · exact h3
  · exact h3
  · exact h3
