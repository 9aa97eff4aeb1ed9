/-! instructions of the small machine: number, length, three operands, an integer -/
abbrev sm_I : Type := Nat × Nat × Nat × Nat × Nat × Int
abbrev sm_C : Type := Nat × sm_L × List sm_V × sm_S
def sm_f4 (a : Nat) : Fin 4 := ⟨a % 4, Nat.mod_lt _ (by decide)⟩
def sm_dec (x : sm_I) : ClassFile.Instr := match x with
  | (op, _, a, b, _, z) => match op with
    | 0 => match b with
      | 0 => .iconst z
      | 1 => .bipush z
      | 2 => .sipush z
      | 3 => .ldc a
      | _ => .ldc_w a
    | 1 => match b with
      | 0 => .lconst ⟨a % 2, Nat.mod_lt _ (by decide)⟩
      | _ => .ldc2_w a
    | 2 => match b with
      | 0 => .iload_n (sm_f4 a)
      | _ => .iload a
    | 3 => match b with
      | 0 => .lload_n (sm_f4 a)
      | _ => .lload a
    | 4 => match b with
      | 0 => .aload_n (sm_f4 a)
      | _ => .aload a
    | 5 => match b with
      | 0 => .istore_n (sm_f4 a)
      | _ => .istore a
    | 6 => match b with
      | 0 => .lstore_n (sm_f4 a)
      | _ => .lstore a
    | 7 => match b with
      | 0 => .astore_n (sm_f4 a)
      | _ => .astore a
    | 8 => .iinc a z
    | 9 => sm_binI a
    | 10 => sm_lbinI a
    | 11 => sm_lshI a
    | 12 => .lcmp
    | 13 => sm_cnvI a
    | 14 => .dup
    | 15 => .pop
    | 16 => .dup2
    | 17 => .ifCond (sm_cndI a) z
    | 18 => .if_icmp (sm_cndI a) z
    | 19 => .goto z
    | 20 => .if_acmp .ne z
    | 21 => .ifnull z
    | 22 => .ifnonnull z
    | 23 => .getfield a
    | 24 => .putfield a
    | 25 => .putfield a
    | 26 => .putfield a
    | 27 => .putfield a
    | 28 => .iaload
    | 29 => .baload
    | 30 => .baload
    | 31 => .laload
    | 32 => .aaload
    | 33 => .iastore
    | 34 => .bastore
    | 35 => .bastore
    | 36 => .lastore
    | 37 => .arraylength
    | 38 => .aconst_null
    | _ => .nop
/-- what is checked of an instruction once, of class own -/
def sm_chk (own : Nat) (x : sm_I) : Bool := match x with
  | (op, n, a, b, d, z) => match op with
    | 0 => decide (-2147483648 ≤ z) && decide (z ≤ 2147483647) && (match b with
      | 0 => decide (n = 1)
      | 1 => decide (n = 2) && decide ((Int8.ofInt z).toInt32 = Int32.ofInt z)
      | 2 => decide (n = 3) && decide ((Int16.ofInt z).toInt32 = Int32.ofInt z)
      | _ => false)
    | 1 => decide (-9223372036854775808 ≤ z) && decide (z ≤ 9223372036854775807) && (match b with
      | 0 => decide (n = 1) && decide (Int64.ofNat (a % 2) = Int64.ofInt z)
      | _ => false)
    | 2 => match b with
      | 0 => decide (n = 1) && decide (a < 4)
      | _ => decide (n = 2)
    | 3 => match b with
      | 0 => decide (n = 1) && decide (a < 4)
      | _ => decide (n = 2)
    | 4 => match b with
      | 0 => decide (n = 1) && decide (a < 4)
      | _ => decide (n = 2)
    | 5 => match b with
      | 0 => decide (n = 1) && decide (a < 4)
      | _ => decide (n = 2)
    | 6 => match b with
      | 0 => decide (n = 1) && decide (a < 4)
      | _ => decide (n = 2)
    | 7 => match b with
      | 0 => decide (n = 1) && decide (a < 4)
      | _ => decide (n = 2)
    | 8 => decide (n = 3)
    | 17 => decide (n = 3)
    | 18 => decide (n = 3)
    | 19 => decide (n = 3)
    | 20 => decide (n = 3)
    | 21 => decide (n = 3)
    | 22 => decide (n = 3)
    | 23 => decide (n = 3) && (sh_lk own).any (fun q => decide (q.1 = a) && decide (q.2.1 = b) && decide (q.2.2.1 = d))
    | 24 => decide (n = 3) && (sh_lk own).any (fun q => decide (q.1 = a) && decide (q.2.1 = b) && decide (q.2.2.1 = d)) && decide (sh_ty b d = .int) && decide ((sh_fk b d).1 = 0) && decide ((sh_T b d).2.2.2 = false)
    | 25 => decide (n = 3) && (sh_lk own).any (fun q => decide (q.1 = a) && decide (q.2.1 = b) && decide (q.2.2.1 = d)) && decide (sh_ty b d = .boolean) && decide ((sh_fk b d).1 = 0) && decide ((sh_T b d).2.2.2 = false)
    | 26 => decide (n = 3) && (sh_lk own).any (fun q => decide (q.1 = a) && decide (q.2.1 = b) && decide (q.2.2.1 = d)) && decide (sh_ty b d = .object (sh_R (sh_fk b d).2.1)) && decide ((sh_fk b d).1 = 2) && decide ((sh_T b d).2.2.2 = false)
    | 27 => decide (n = 3) && (sh_lk own).any (fun q => decide (q.1 = a) && decide (q.2.1 = b) && decide (q.2.2.1 = d)) && decide (sh_ty b d = .long) && decide ((sh_fk b d).1 = 3) && decide ((sh_T b d).2.2.2 = false)
    | _ => decide (n = 1)
def sm_lcmp (x y : Int) : Int := if y < x then 1 else if x = y then 0 else -1
def sm_stp (x : sm_I) (pc : Nat) (L : sm_L) (st : List sm_V) (S : sm_S) : Option sm_C := match x with
  | (op, n, a, b, d, z) => match op with
    | 0 => some (pc + n, L, .inl z :: st, S)
    | 1 => some (pc + n, L, .inr (.inl z) :: st, S)
    | 2 => match L.getD a none with
      | some (.inl v) => some (pc + n, L, .inl v :: st, S)
      | _ => none
    | 3 => match L.getD a none with
      | some (.inr (.inl v)) => some (pc + n, L, .inr (.inl v) :: st, S)
      | _ => none
    | 4 => match L.getD a none with
      | some (.inr (.inr v)) => some (pc + n, L, .inr (.inr v) :: st, S)
      | _ => none
    | 5 => match st with
      | .inl v :: r => if a < L.length then some (pc + n, sm_s1 L a (.inl v), r, S) else none
      | _ => none
    | 6 => match st with
      | .inr (.inl v) :: r => if a + 1 < L.length then some (pc + n, sm_s2 L a (.inr (.inl v)), r, S) else none
      | _ => none
    | 7 => match st with
      | .inr (.inr v) :: r => if a < L.length then some (pc + n, sm_s1 L a (.inr (.inr v)), r, S) else none
      | _ => none
    | 8 => match L.getD a none with
      | some (.inl v) => some (pc + n, sm_s1 L a (.inl (Int32.ofInt v + Int32.ofInt z).toInt), st, S)
      | _ => none
    | 9 => match st with
      | .inl y :: .inl x :: r => (sm_bin a x y).map fun v => (pc + n, L, .inl v :: r, S)
      | _ => none
    | 10 => match st with
      | .inr (.inl y) :: .inr (.inl x) :: r => (sm_lbin a x y).map fun v => (pc + n, L, .inr (.inl v) :: r, S)
      | _ => none
    | 11 => match st with
      | .inl y :: .inr (.inl x) :: r => (sm_lsh a x y).map fun v => (pc + n, L, .inr (.inl v) :: r, S)
      | _ => none
    | 12 => match st with
      | .inr (.inl y) :: .inr (.inl x) :: r => some (pc + n, L, .inl (sm_lcmp x y) :: r, S)
      | _ => none
    | 13 => match st with
      | x :: r => (sm_cnv a x).map fun v => (pc + n, L, v :: r, S)
      | _ => none
    | 14 => match st with
      | .inr (.inl _) :: _ => none
      | x :: r => some (pc + n, L, x :: x :: r, S)
      | _ => none
    | 15 => match st with
      | .inr (.inl _) :: _ => none
      | _ :: r => some (pc + n, L, r, S)
      | _ => none
    | 16 => match st with
      | .inl y :: .inr (.inr x) :: r => some (pc + n, L, .inl y :: .inr (.inr x) :: .inl y :: .inr (.inr x) :: r, S)
      | _ => none
    | 17 => match st with
      | .inl x :: r => some (if sm_cnd a x 0 then ((pc : Int) + z).toNat else pc + 3, L, r, S)
      | _ => none
    | 18 => match st with
      | .inl y :: .inl x :: r => some (if sm_cnd a x y then ((pc : Int) + z).toNat else pc + 3, L, r, S)
      | _ => none
    | 19 => some (((pc : Int) + z).toNat, L, st, S)
    | 20 => match st with
      | .inr (.inr y) :: .inr (.inr x) :: r => if x.all (fun q => decide (q.1 < 14)) && y.all (fun q => decide (q.1 < 14)) then some (if x = y then pc + 3 else ((pc : Int) + z).toNat, L, r, S) else none
      | _ => none
    | 22 => match st with
      | .inr (.inr (some _)) :: r => some (((pc : Int) + z).toNat, L, r, S)
      | .inr (.inr none) :: r => some (pc + 3, L, r, S)
      | _ => none
    | 21 => match st with
      | .inr (.inr none) :: r => some (((pc : Int) + z).toNat, L, r, S)
      | .inr (.inr (some _)) :: r => some (pc + 3, L, r, S)
      | _ => none
    | 23 => match st with
      | .inr (.inr (some (t, i))) :: r => if t = b then some (pc + 3, L, sm_fu S b i d :: r, S) else none
      | _ => none
    | 24 => match st with
      | .inl v :: .inr (.inr (some (t, i))) :: r => if t = b then some (pc + 3, L, r, sm_pI S b i d v) else none
      | _ => none
    | 25 => match st with
      | .inl v :: .inr (.inr (some (t, i))) :: r => if t = b && (decide (v = 0) || decide (v = 1)) then some (pc + 3, L, r, sm_pI S b i d v) else none
      | _ => none
    | 26 => match st with
      | .inr (.inr none) :: .inr (.inr (some (t, i))) :: r => if t = b then some (pc + 3, L, r, sm_pR S b i d none) else none
      | .inr (.inr (some (u, j))) :: .inr (.inr (some (t, i))) :: r => if t = b && u = (sh_fk b d).2.1 then some (pc + 3, L, r, sm_pR S b i d (some j)) else none
      | _ => none
    | 27 => match st with
      | .inr (.inl v) :: .inr (.inr (some (t, i))) :: r => if t = b then some (pc + 3, L, r, sm_pI S b i d v) else none
      | _ => none
    | 28 => match st with
      | .inl k :: .inr (.inr (some (t, i))) :: r => if (sh_kd t).1 = 1 && (sh_kd t).2.1 = 0 && decide (0 ≤ k) && decide (k < (sh_kd t).2.2) then some (pc + 1, L, .inl (S.2.2.1 t i k.toNat) :: r, S) else none
      | _ => none
    | 29 => match st with
      | .inl k :: .inr (.inr (some (t, i))) :: r => if (sh_kd t).1 = 2 && (sh_kd t).2.1 = 1 && decide (0 ≤ k) && decide (k < (sh_kd t).2.2) then some (pc + 1, L, .inl (S.2.2.1 t i k.toNat) :: r, S) else none
      | _ => none
    | 30 => match st with
      | .inl k :: .inr (.inr (some (t, i))) :: r => if (sh_kd t).1 = 3 && (sh_kd t).2.1 = 2 && decide (0 ≤ k) && decide (k < (sh_kd t).2.2) then some (pc + 1, L, .inl (S.2.2.1 t i k.toNat) :: r, S) else none
      | _ => none
    | 31 => match st with
      | .inl k :: .inr (.inr (some (t, i))) :: r => if (sh_kd t).1 = 4 && (sh_kd t).2.1 = 3 && decide (0 ≤ k) && decide (k < (sh_kd t).2.2) then some (pc + 1, L, .inr (.inl (S.2.2.2 t i k.toNat)) :: r, S) else none
      | _ => none
    | 32 => match st with
      | .inl k :: .inr (.inr (some (t, i))) :: r => if (sh_kd t).1 = 5 && decide (0 ≤ k) && decide (k < (sh_kd t).2.2) then some (pc + 1, L, .inr (.inr (some (sh_rk t, k.toNat))) :: r, S) else none
      | _ => none
    | 37 => match st with
      | .inr (.inr (some (t, i))) :: r => if 1 ≤ (sh_kd t).1 && (sh_kd t).1 ≤ 5 then some (pc + 1, L, .inl ((sh_kd t).2.2 : Int) :: r, S) else none
      | _ => none
    | 33 => match st with
      | .inl v :: .inl k :: .inr (.inr (some (t, i))) :: r => if (sh_kd t).1 = 1 && (sh_kd t).2.1 = 0 && decide (0 ≤ k) && decide (k < (sh_kd t).2.2) then some (pc + 1, L, r, sm_aI S t i k.toNat v) else none
      | _ => none
    | 34 => match st with
      | .inl v :: .inl k :: .inr (.inr (some (t, i))) :: r => if (sh_kd t).1 = 2 && (sh_kd t).2.1 = 1 && decide (0 ≤ k) && decide (k < (sh_kd t).2.2) then some (pc + 1, L, r, sm_aI S t i k.toNat (vp_nar .byte (Int32.ofInt v)).toInt) else none
      | _ => none
    | 35 => match st with
      | .inl v :: .inl k :: .inr (.inr (some (t, i))) :: r => if (sh_kd t).1 = 3 && (sh_kd t).2.1 = 2 && decide (0 ≤ k) && decide (k < (sh_kd t).2.2) then some (pc + 1, L, r, sm_aI S t i k.toNat (vp_nar .boolean (Int32.ofInt v)).toInt) else none
      | _ => none
    | 36 => match st with
      | .inr (.inl v) :: .inl k :: .inr (.inr (some (t, i))) :: r => if (sh_kd t).1 = 4 && (sh_kd t).2.1 = 3 && decide (0 ≤ k) && decide (k < (sh_kd t).2.2) then some (pc + 1, L, r, sm_aL S t i k.toNat v) else none
      | _ => none
    | 38 => some (pc + n, L, .inr (.inr none) :: st, S)
    | _ => none
set_option maxRecDepth 20000 in
theorem sh_len1 : sh_cnL.length = 296 := by decide +kernel
set_option maxRecDepth 20000 in
theorem sh_len2 : sh_kdL.length = 296 := by decide +kernel
/-- static arrays have kinds of their own, from 296 on: they lie outside the world -/
def sh_cz (t : Nat) : Nat := if t < 296 then sh_cn t else 1
theorem sh_cz_lt {t i : Nat} (h : t < 296) (hi : i < sh_cz t) : i < sh_cn t := by
  unfold sh_cz at hi
  rw [if_pos h] at hi
  exact hi
theorem sh_cz_of {t i : Nat} (hi : i < sh_cn t) : i < sh_cz t := by
  unfold sh_cz
  split
  · exact hi
  · rename_i q
    unfold sh_cn at hi
    rw [List.getD_eq_getElem?_getD, List.getElem?_eq_none (by rw [sh_len1]; omega)] at hi
    exact absurd hi (Nat.not_lt_zero _)
theorem sh_cz_kd {t i : Nat} (h : (sh_kd t).1 ≠ 9) (hi : i < sh_cz t) : i < sh_cn t := by
  refine sh_cz_lt ?_ hi
  by_cases q : t < 296
  · exact q
  · exfalso
    apply h
    unfold sh_kd
    rw [List.getD_eq_getElem?_getD, List.getElem?_eq_none (by rw [sh_len2]; omega)]
    rfl
/-- every value is a value of its kind -/
def sm_nst (st : List sm_V) : Prop := ∀ v ∈ st, sm_nz sh_cz v
def sm_nL (L : sm_L) : Prop := ∀ j v, L.getD j none = some v → sm_nz sh_cz v
def sm_nS (S : sm_S) : Prop := (∀ t i k, if (sh_fk t k).1 = 3 then sm_nl (S.1 t i k) else sm_ni (S.1 t i k)) ∧ (∀ t i k j, S.2.1 t i k = some j → j < sh_cn (sh_fk t k).2.1) ∧ (∀ t i k, sm_ni (S.2.2.1 t i k)) ∧ ∀ t i k, sm_nl (S.2.2.2 t i k)
