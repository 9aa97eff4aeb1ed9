/-! the abstract step -/
abbrev ai_W : Type := (Nat → Nat → Bool) × (Nat → Bool) × (Nat → Nat → Bool)
def ai_fr (W : ai_W) (S S' : sm_S) : Prop := (∀ t i k, W.1 t k = false → S'.1 t i k = S.1 t i k) ∧ (∀ t i k, W.2.2 t k = false → S'.2.1 t i k = S.2.1 t i k) ∧ ∀ t, W.2.1 t = false → ∀ i k, S'.2.2.1 t i k = S.2.2.1 t i k ∧ S'.2.2.2 t i k = S.2.2.2 t i k
theorem ai_fr_rf {W : ai_W} {S : sm_S} : ai_fr W S S := ⟨fun _ _ _ _ => rfl, fun _ _ _ _ => rfl, fun _ _ _ _ => ⟨rfl, rfl⟩⟩
theorem ai_fr_tr {W : ai_W} {S S1 S2 : sm_S} (h : ai_fr W S S1) (g : ai_fr W S1 S2) : ai_fr W S S2 := ⟨fun t i k q => (g.1 t i k q).trans (h.1 t i k q), fun t i k q => (g.2.1 t i k q).trans (h.2.1 t i k q), fun t q i k => ⟨(g.2.2 t q i k).1.trans (h.2.2 t q i k).1, (g.2.2 t q i k).2.trans (h.2.2 t q i k).2⟩⟩
/-- intervals of fields and of arrays' contents; what may be written -/
abbrev ai_E : Type := (Nat → Nat → Int × Int) × (Nat → Int × Int) × ai_W
def ai_two (k : Nat) (x y : ai_I) (aL : ai_L) (r : List ai_V) (F : ai_F) (pc : Nat) : ai_C :=
  let c := ai_cut k x y
  let p := ai_ref aL F x c.1.1 c.1.2
  let q := ai_ref p.1 p.2 y c.2.1 c.2.2
  (pc, q.1, r, q.2)
/-- a branch that can't be taken is left out -/
def ai_can (k : Nat) (x y : ai_I) : Bool := decide (max x.1 (ai_cut k x y).1.1 ≤ min x.2.1 (ai_cut k x y).1.2) && decide (max y.1 (ai_cut k x y).2.1 ≤ min y.2.1 (ai_cut k x y).2.2)
def ai_br (k : Nat) (x y : ai_I) (aL : ai_L) (r : List ai_V) (F : ai_F) (tgt nxt : Nat) : List ai_C :=
  (if ai_can k x y then [ai_two k x y aL r F tgt] else []) ++ (if ai_can (ai_neg k) x y then [ai_two (ai_neg k) x y aL r F nxt] else [])
def ai_sub (i : ai_I) (g : Int × Int) : Bool := decide (g.1 ≤ i.1) && decide (i.2.1 ≤ g.2)
def ai_drop (F : ai_F) (k : Nat) : ai_F := F.filter fun q => !(q.1.2 = k)
def ai_stp (E : ai_E) (x : sm_I) (pc : Nat) (aL : ai_L) (st : List ai_V) (F : ai_F) : Option (List ai_C) := match x with
  | (op, n, a, b, d, z) => match op with
    | 0 => some [(pc + n, aL, .inl (z, z, none, none) :: st, F)]
    | 1 => some [(pc + n, aL, .inr (.inl ()) :: st, F)]
    | 2 => match aL.getD a none with
      | some (.inl i) => some [(pc + n, aL, .inl (i.1, i.2.1, i.2.2.1, some (.inl a)) :: st, F)]
      | _ => none
    | 3 => match aL.getD a none with
      | some (.inr (.inl _)) => some [(pc + n, aL, .inr (.inl ()) :: st, F)]
      | _ => none
    | 4 => match aL.getD a none with
      | some (.inr (.inr r)) => some [(pc + n, aL, .inr (.inr r) :: st, F)]
      | _ => none
    | 5 => match st with
      | .inl i :: r => if a < aL.length then some [(pc + n, ai_s1 aL a (.inl i), r.map ai_no, F)] else none
      | _ => none
    | 6 => match st with
      | .inr (.inl u) :: r => if a + 1 < aL.length then some [(pc + n, ai_s2 aL a (.inr (.inl u)), r.map ai_no, F)] else none
      | _ => none
    | 7 => match st with
      | .inr (.inr i) :: r => if a < aL.length then some [(pc + n, ai_s1 aL a (.inr (.inr i)), r.map ai_no, F)] else none
      | _ => none
    | 8 => match aL.getD a none with
      | some (.inl i) => if ai_ok i && decide (-2147483648 ≤ z) && decide (z ≤ 2147483647) then match ai_bin 0 i (z, z, none, none) with
        | some j => some [(pc + n, ai_s1 aL a (.inl j), st.map ai_no, F)]
        | none => none
        else none
      | _ => none
    | 9 => match st with
      | .inl y :: .inl x :: r => if ai_ok x && ai_ok y then match ai_bin a x y with
        | some j => some [(pc + n, aL, .inl j :: r, F)]
        | none => none
        else none
      | _ => none
    | 10 => match st with
      | .inr (.inl _) :: .inr (.inl _) :: r => if a ≤ 5 then some [(pc + n, aL, .inr (.inl ()) :: r, F)] else none
      | _ => none
    | 11 => match st with
      | .inl _ :: .inr (.inl _) :: r => if a ≤ 2 then some [(pc + n, aL, .inr (.inl ()) :: r, F)] else none
      | _ => none
    | 12 => match st with
      | .inr (.inl _) :: .inr (.inl _) :: r => some [(pc + n, aL, .inl (-1, 1, none, none) :: r, F)]
      | _ => none
    | 13 => match a, st with
      | 0, .inl _ :: r => some [(pc + n, aL, .inr (.inl ()) :: r, F)]
      | 1, .inr (.inl _) :: r => some [(pc + n, aL, .inl ai_full :: r, F)]
      | 2, .inl _ :: r => some [(pc + n, aL, .inl ai_full :: r, F)]
      | 3, .inl _ :: r => some [(pc + n, aL, .inl ai_full :: r, F)]
      | 4, .inl _ :: r => some [(pc + n, aL, .inl ai_full :: r, F)]
      | _, _ => none
    | 14 => match st with
      | .inl v :: r => some [(pc + n, aL, .inl v :: .inl v :: r, F)]
      | .inr (.inr v) :: r => some [(pc + n, aL, .inr (.inr v) :: .inr (.inr v) :: r, F)]
      | _ => none
    | 15 => match st with
      | .inl _ :: r => some [(pc + n, aL, r, F)]
      | .inr (.inr _) :: r => some [(pc + n, aL, r, F)]
      | _ => none
    | 16 => match st with
      | .inl y :: .inr (.inr x) :: r => some [(pc + n, aL, .inl y :: .inr (.inr x) :: .inl y :: .inr (.inr x) :: r, F)]
      | _ => none
    | 17 => match st with
      | .inl x :: r => some (ai_br a x (0, 0, none, none) aL r F ((pc : Int) + z).toNat (pc + 3))
      | _ => none
    | 18 => match st with
      | .inl y :: .inl x :: r => some (ai_br a x y aL r F ((pc : Int) + z).toNat (pc + 3))
      | _ => none
    | 19 => some [(((pc : Int) + z).toNat, aL, st, F)]
    | 20 => match st with
      | .inr (.inr (t, _, _)) :: .inr (.inr (t', _, _)) :: r => if t < 14 && t' < 14 then some [(pc + 3, aL, r, F), (((pc : Int) + z).toNat, aL, r, F)] else none
      | _ => none
    | 21 => match st with
      | .inr (.inr _) :: r => some [(pc + 3, aL, r, F), (((pc : Int) + z).toNat, aL, r, F)]
      | _ => none
    | 22 => match st with
      | .inr (.inr _) :: r => some [(pc + 3, aL, r, F), (((pc : Int) + z).toNat, aL, r, F)]
      | _ => none
    | 23 => match st with
      | .inr (.inr (t, j, false)) :: r => if t = b then match sh_fk b d with
        | (0, _, _) => some [(pc + 3, aL, .inl ((ai_fact F j d (E.1 b d)).1, (ai_fact F j d (E.1 b d)).2, none, j.map fun j => .inr (j, d)) :: r, F)]
        | (3, _, _) => some [(pc + 3, aL, .inr (.inl ()) :: r, F)]
        | (1, u, _) => some [(pc + 3, aL, .inr (.inr (u, none, false)) :: r, F)]
        | (2, u, _) => some [(pc + 3, aL, .inr (.inr (u, none, true)) :: r, F)]
        | _ => none
        else none
      | _ => none
    | 24 => match st with
      | .inl v :: .inr (.inr (t, _, false)) :: r => if t = b && ai_sub v (E.1 b d) && E.2.2.1 b d then some [(pc + 3, ai_noL aL, r.map ai_no, ai_drop F d)] else none
      | _ => none
    | 25 => match st with
      | .inl v :: .inr (.inr (t, _, false)) :: r => if t = b && ai_sub v (E.1 b d) && ai_sub v (0, 1) && E.2.2.1 b d then some [(pc + 3, ai_noL aL, r.map ai_no, ai_drop F d)] else none
      | _ => none
    | 26 => match st with
      | .inr (.inr (u, _, false)) :: .inr (.inr (t, _, false)) :: r => if t = b && u = (sh_fk b d).2.1 && E.2.2.2.2 b d then some [(pc + 3, ai_noL aL, r.map ai_no, F)] else none
      | _ => none
    | 28 => match st with
      | .inl k :: .inr (.inr (t, _, false)) :: r => if (sh_kd t).1 = 1 && (sh_kd t).2.1 = 0 && ai_sub k (0, (sh_kd t).2.2 - 1) then some [(pc + 1, aL, .inl ((E.2.1 t).1, (E.2.1 t).2, none, none) :: r, F)] else none
      | _ => none
    | 29 => match st with
      | .inl k :: .inr (.inr (t, _, false)) :: r => if (sh_kd t).1 = 2 && (sh_kd t).2.1 = 1 && ai_sub k (0, (sh_kd t).2.2 - 1) then some [(pc + 1, aL, .inl ((E.2.1 t).1, (E.2.1 t).2, none, none) :: r, F)] else none
      | _ => none
    | 30 => match st with
      | .inl k :: .inr (.inr (t, _, false)) :: r => if (sh_kd t).1 = 3 && (sh_kd t).2.1 = 2 && ai_sub k (0, (sh_kd t).2.2 - 1) then some [(pc + 1, aL, .inl ((E.2.1 t).1, (E.2.1 t).2, none, none) :: r, F)] else none
      | _ => none
    | 31 => match st with
      | .inl k :: .inr (.inr (t, _, false)) :: r => if (sh_kd t).1 = 4 && (sh_kd t).2.1 = 3 && ai_sub k (0, (sh_kd t).2.2 - 1) then some [(pc + 1, aL, .inr (.inl ()) :: r, F)] else none
      | _ => none
    | 32 => match st with
      | .inl k :: .inr (.inr (t, _, false)) :: r => if (sh_kd t).1 = 5 && ai_sub k (0, (sh_kd t).2.2 - 1) then some [(pc + 1, aL, .inr (.inr (sh_rk t, none, false)) :: r, F)] else none
      | _ => none
    | 33 => match st with
      | .inl v :: .inl k :: .inr (.inr (t, _, false)) :: r => if (sh_kd t).1 = 1 && (sh_kd t).2.1 = 0 && ai_sub k (0, (sh_kd t).2.2 - 1) && ai_sub v (E.2.1 t) && E.2.2.2.1 t then some [(pc + 1, ai_noL aL, r.map ai_no, F)] else none
      | _ => none
    | 34 => match st with
      | .inl v :: .inl k :: .inr (.inr (t, _, false)) :: r => if (sh_kd t).1 = 2 && (sh_kd t).2.1 = 1 && ai_sub k (0, (sh_kd t).2.2 - 1) && decide ((E.2.1 t).1 ≤ -128) && decide (127 ≤ (E.2.1 t).2) && E.2.2.2.1 t then some [(pc + 1, ai_noL aL, r.map ai_no, F)] else none
      | _ => none
    | 35 => match st with
      | .inl v :: .inl k :: .inr (.inr (t, _, false)) :: r => if (sh_kd t).1 = 3 && (sh_kd t).2.1 = 2 && ai_sub k (0, (sh_kd t).2.2 - 1) && decide ((E.2.1 t).1 ≤ 0) && decide (1 ≤ (E.2.1 t).2) && E.2.2.2.1 t then some [(pc + 1, ai_noL aL, r.map ai_no, F)] else none
      | _ => none
    | 36 => match st with
      | .inr (.inl _) :: .inl k :: .inr (.inr (t, _, false)) :: r => if (sh_kd t).1 = 4 && (sh_kd t).2.1 = 3 && ai_sub k (0, (sh_kd t).2.2 - 1) && E.2.2.2.1 t then some [(pc + 1, ai_noL aL, r.map ai_no, F)] else none
      | _ => none
    | 37 => match st with
      | .inr (.inr (t, _, false)) :: r => if 1 ≤ (sh_kd t).1 && (sh_kd t).1 ≤ 5 then some [(pc + 1, aL, .inl (((sh_kd t).2.2 : Int), ((sh_kd t).2.2 : Int), none, none) :: r, F)] else none
      | _ => none
    | 38 => some [(pc + n, aL, .inr (.inr (0, none, true)) :: st, F)]
    | _ => none
