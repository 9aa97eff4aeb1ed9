/-! evaluation of code; written by wip/p55/gen/vg -/

/-! evaluation of_ code -/
abbrev gV : Type := List (List Int)
abbrev gE : Type := Nat → List Int
abbrev gO : Type := Nat → Option (Nat → List Int)
abbrev gQ : Type := pGr × Nat × Nat
abbrev gS : Type := gQ × gE × gO × gV
def g_z2 (op_ : pGr → Int → Int → Int × pGr) : pGr → List Int → List Int → List Int × pGr
  | G_, a_ :: x_, b_ :: y_ => ((op_ G_ a_ b_).1 :: (g_z2 op_ (op_ G_ a_ b_).2 x_ y_).1, (g_z2 op_ (op_ G_ a_ b_).2 x_ y_).2)
  | G_, _, _ => ([], G_)
/-- one_ bit_ of_ a_ sum_: the_ bit_, the_ carry, the_ graph -/
def g_s3 (F_ : Nat) (G_ : pGr) (c_ a_ b_ : Int) : Int × Int × pGr :=
  let h_ := g_xo F_ G_ a_ b_
  let s_ := g_xo F_ h_.2 h_.1 c_
  let m_ := g_an F_ s_.2 a_ b_
  let t_ := g_an F_ m_.2 h_.1 c_
  let o_ := g_or F_ t_.2 m_.1 t_.1
  (s_.1, o_.1, o_.2)
def g_su (F_ : Nat) : pGr → Int → List Int → List Int → List Int × pGr
  | G_, c_, a_ :: x_, b_ :: y_ => ((g_s3 F_ G_ c_ a_ b_).1 :: (g_su F_ (g_s3 F_ G_ c_ a_ b_).2.2 (g_s3 F_ G_ c_ a_ b_).2.1 x_ y_).1, (g_su F_ (g_s3 F_ G_ c_ a_ b_).2.2 (g_s3 F_ G_ c_ a_ b_).2.1 x_ y_).2)
  | G_, _, _, _ => ([], G_)
def g_e3 (F_ : Nat) (G_ : pGr) (s_ a_ b_ : Int) : Int × pGr := g_an F_ (g_xo F_ G_ a_ b_).2 s_ (i_xor (g_xo F_ G_ a_ b_).1 1)
def g_s1 (F_ : Nat) : pGr → Int → List Int → List Int → Int × pGr
  | G_, s_, a_ :: x_, b_ :: y_ => g_s1 F_ (g_e3 F_ G_ s_ a_ b_).2 (g_e3 F_ G_ s_ a_ b_).1 x_ y_
  | G_, s_, _, _ => (s_, G_)
def g_sa (F_ : Nat) (G_ : pGr) : List Int → List Int → List Int × pGr
  | a_ :: x_, b_ :: y_ => ([(g_s1 F_ (g_xo F_ G_ a_ b_).2 (i_xor (g_xo F_ G_ a_ b_).1 1) x_ y_).1], (g_s1 F_ (g_xo F_ G_ a_ b_).2 (i_xor (g_xo F_ G_ a_ b_).1 1) x_ y_).2)
  | _, _ => ([], G_)
/-- one_ bit_ of_ a_ choice -/
def g_c3 (F_ : Nat) (G_ : pGr) (c_ a_ b_ : Int) : Int × pGr := g_or F_ (g_an F_ (g_an F_ G_ c_ a_).2 (i_xor c_ 1) b_).2 (g_an F_ G_ c_ a_).1 (g_an F_ (g_an F_ G_ c_ a_).2 (i_xor c_ 1) b_).1
def g_ch (F_ : Nat) (c_ : Int) : pGr → List Int → List Int → List Int × pGr := g_z2 (fun G_ a_ b_ => g_c3 F_ G_ c_ a_ b_)
def g_bw (F_ : Nat) (k_ : Int) : pGr → Int → Int → Int × pGr := if k_ = 3 then g_an F_ else if k_ = 1 then g_or F_ else g_xo F_
def g_op (F_ : Nat) (k_ : Int) (G_ : pGr) (x_ y_ : List Int) : List Int × pGr := if k_ = 5 then g_su F_ G_ 0 x_ y_ else if k_ = 4 then g_sa F_ G_ x_ y_ else g_z2 (g_bw F_ k_) G_ x_ y_
def e_op (F_ : Nat) (k_ : Int) (G_ : pGr) (V_ : gV) : Option (pGr × gV) :=
  if k_ = 6 then (match V_ with
    | x_ :: l_ => some (G_, x_.map (fun z_ => i_xor z_ 1) :: l_)
    | _ => none)
  else if k_ = 7 then (match V_ with
    | e_ :: a_ :: [c_] :: l_ => if a_.length = e_.length ∧ 1 ≤ a_.length then some ((g_ch F_ c_ G_ a_ e_).2, (g_ch F_ c_ G_ a_ e_).1 :: l_) else none
    | _ => none)
  else if 1 ≤ k_ ∧ k_ ≤ 5 then (match V_ with
    | y_ :: x_ :: l_ => if x_.length = y_.length ∧ 1 ≤ x_.length then some ((g_op F_ k_ G_ x_ y_).2, (g_op F_ k_ G_ x_ y_).1 :: l_) else none
    | _ => none)
  else none
def c_bt (a_ : Nat) (d_ : Int) : List Int := (List.range a_).map fun (j_ : Nat) => i_shr d_ (j_ : Int) % 2
def e_ld (A_ : pA) (m_ : Nat) (k_ : Int) (a_ : Nat) (d_ : Int) (E_ : gE) (O_ : gO) (V_ : gV) : Option gV :=
  if k_ = 11 then (match V_ with
    | x_ :: l_ => if a_ < x_.length then some ([x_.getD a_ 0] :: l_) else none
    | _ => none)
  else if 512 ≤ V_.length then none
  else if k_ = 8 then (if 1 ≤ a_ ∧ a_ ≤ 8 ∧ 0 ≤ d_ then some (c_bt a_ d_ :: V_) else none)
  else if k_ = 9 then (if a_ < A_.1 m_ ∧ 1 ≤ (E_ a_).length ∧ (E_ a_).length ≤ 8 ∧ ((E_ a_).length : Int) = A_.2.2.2.1 (40 * m_ + a_) then some (E_ a_ :: V_) else none)
  else if k_ = 10 then (match O_ a_ with
    | some o_ => if a_ < A_.1 m_ ∧ 0 ≤ d_ ∧ d_ < A_.1 (A_.2.2.2.2 (40 * m_ + a_)).toNat ∧ 0 ≤ A_.2.2.2.2 (40 * m_ + a_) ∧ A_.2.2.2.2 (40 * m_ + a_) < m_ ∧ 1 ≤ (o_ d_.toNat).length ∧ (o_ d_.toNat).length ≤ 8 ∧ ((o_ d_.toNat).length : Int) = A_.2.2.2.1 (40 * (A_.2.2.2.2 (40 * m_ + a_)).toNat + d_.toNat) then some (o_ d_.toNat :: V_) else none
    | none => none)
  else none
def r_bt (I_ R_ wd_ : Nat) : List Int := (List.range wd_).map fun (j_ : Nat) => 2 * ((1 + I_ + R_ + j_ : Nat) : Int)
def up1 {α : Type} (f_ : Nat → α) (a_ : Nat) (v_ : α) : Nat → α := fun k_ => if k_ = a_ then v_ else f_ k_
def e_st (I_ : Nat) (A_ : pA) (m_ : Nat) (k_ : Int) (a_ : Nat) (d_ : Int) (s_ : gS) : Option gS :=
  if A_.1 m_ ≤ a_ then none
  else if k_ = 15 then (if s_.1.2.2 ≤ 200 ∧ s_.2.1 a_ = [] ∧ s_.2.2.1 a_ = none then some ((s_.1.1, s_.1.2.1, s_.1.2.2 + 1), s_.2.1, up1 s_.2.2.1 a_ (some fun _ => []), s_.2.2.2) else none)
  else if k_ = 13 then (if s_.2.2.1 a_ = none ∧ 1 ≤ A_.2.2.2.1 (40 * m_ + a_) ∧ A_.2.2.2.1 (40 * m_ + a_) ≤ 8 ∧ s_.1.2.1 + (A_.2.2.2.1 (40 * m_ + a_)).toNat ≤ 6 then some ((s_.1.1, s_.1.2.1 + (A_.2.2.2.1 (40 * m_ + a_)).toNat, s_.1.2.2), up1 s_.2.1 a_ (r_bt I_ s_.1.2.1 (A_.2.2.2.1 (40 * m_ + a_)).toNat), s_.2.2.1, s_.2.2.2) else none)
  else match s_.2.2.2 with
    | [] => none
    | x_ :: l_ => if k_ = 12 then (if s_.2.2.1 a_ = none ∧ x_.length ≤ 8 then some (s_.1, up1 s_.2.1 a_ x_, s_.2.2.1, l_) else none)
      else if k_ = 14 then (match s_.2.1 a_ with
        | [] => none
        | z_ :: _ => if 2 * (1 + (I_ : Int)) ≤ z_ ∧ z_ / 2 - 1 - I_ + x_.length ≤ 6 then some (s_.1, s_.2.1, s_.2.2.1, l_) else none)
      else if k_ = 16 then (match s_.2.2.1 a_ with
        | some o_ => if 0 ≤ d_ ∧ d_ < 40 ∧ x_.length ≤ 8 then some (s_.1, s_.2.1, up1 s_.2.2.1 a_ (some (up1 o_ d_.toNat x_)), l_) else none
        | none => none)
      else none
def ew (F_ I_ : Nat) (A_ : pA) (X_ : Nat → gQ → gE → Option (gQ × gE)) (m_ : Nat) (w_ : Int) (s_ : gS) : Option gS :=
  if w_ % 32 = 17 then (match s_.2.2.1 (w_ / 32 % 64).toNat, s_.2.2.2 with
    | some o_, [] => if (w_ / 32 % 64).toNat < A_.1 m_ ∧ 0 ≤ w_ / 2048 ∧ w_ / 2048 < m_ then (match X_ (w_ / 2048).toNat s_.1 o_ with
        | some r_ => some (r_.1, s_.2.1, up1 s_.2.2.1 (w_ / 32 % 64).toNat (some r_.2), [])
        | none => none) else none
    | _, _ => none)
  else if w_ % 32 ≤ 7 then (match e_op F_ (w_ % 32) s_.1.1 s_.2.2.2 with
    | some r_ => some ((r_.1, s_.1.2), s_.2.1, s_.2.2.1, r_.2)
    | none => none)
  else if w_ % 32 ≤ 11 then (match e_ld A_ m_ (w_ % 32) (w_ / 32 % 64).toNat (w_ / 2048) s_.2.1 s_.2.2.1 s_.2.2.2 with
    | some V_ => some (s_.1, s_.2.1, s_.2.2.1, V_)
    | none => none)
  else e_st I_ A_ m_ (w_ % 32) (w_ / 32 % 64).toNat (w_ / 2048) s_
def ec (F_ I_ : Nat) (A_ : pA) (X_ : Nat → gQ → gE → Option (gQ × gE)) (m_ : Nat) : List Int → gS → Option gS
  | [], s_ => some s_
  | w_ :: c_, s_ => match ew F_ I_ A_ X_ m_ w_ s_ with
    | some s1_ => ec F_ I_ A_ X_ m_ c_ s1_
    | none => none
def exm (F_ I_ : Nat) (A_ : pA) (C_ : Nat → List Int) : Nat → Nat → gQ → gE → Option (gQ × gE)
  | 0, _, _, _ => none
  | f_ + 1, d_, q_, e_ => match ec F_ I_ A_ (exm F_ I_ A_ C_ f_) d_ (C_ d_) (q_, e_, fun _ => none, []) with
    | some s_ => match s_.2.2.2 with
      | [] => some (s_.1, s_.2.1)
      | _ => none
    | none => none
/-! the_ graph only grows -/
theorem g_or_le {F_ : Nat} {G_ : pGr} {a_ b_ : Int} : G_.length ≤ (g_or F_ G_ a_ b_).2.length := g_an_le.1
theorem g_xo_le {F_ : Nat} {G_ : pGr} {a_ b_ : Int} : G_.length ≤ (g_xo F_ G_ a_ b_).2.length :=
  Nat.le_trans g_an_le.1 (Nat.le_trans g_an_le.1 g_or_le)
theorem g_z2_le {op_ : pGr → Int → Int → Int × pGr} (h_ : ∀ G_ a_ b_, G_.length ≤ (op_ G_ a_ b_).2.length) : ∀ (x_ y_ : List Int) (G_ : pGr), G_.length ≤ (g_z2 op_ G_ x_ y_).2.length
  | [], _, G_ => Nat.le_refl _
  | _ :: _, [], G_ => Nat.le_refl _
  | a_ :: x_, b_ :: y_, G_ => Nat.le_trans (h_ G_ a_ b_) (g_z2_le h_ x_ y_ _)
theorem g_s3_le {F_ : Nat} {G_ : pGr} {c_ a_ b_ : Int} : G_.length ≤ (g_s3 F_ G_ c_ a_ b_).2.2.length :=
  Nat.le_trans g_xo_le (Nat.le_trans g_xo_le (Nat.le_trans g_an_le.1 (Nat.le_trans g_an_le.1 g_or_le)))
theorem g_su_le {F_ : Nat} : ∀ (x_ y_ : List Int) (G_ : pGr) (c_ : Int), G_.length ≤ (g_su F_ G_ c_ x_ y_).2.length
  | [], _, G_, _ => Nat.le_refl _
  | _ :: _, [], G_, _ => Nat.le_refl _
  | a_ :: x_, b_ :: y_, G_, c_ => Nat.le_trans g_s3_le (g_su_le x_ y_ _ _)
theorem g_e3_le {F_ : Nat} {G_ : pGr} {s_ a_ b_ : Int} : G_.length ≤ (g_e3 F_ G_ s_ a_ b_).2.length := Nat.le_trans g_xo_le g_an_le.1
theorem g_s1_le {F_ : Nat} : ∀ (x_ y_ : List Int) (G_ : pGr) (c_ : Int), G_.length ≤ (g_s1 F_ G_ c_ x_ y_).2.length
  | [], _, G_, _ => Nat.le_refl _
  | _ :: _, [], G_, _ => Nat.le_refl _
  | a_ :: x_, b_ :: y_, G_, c_ => Nat.le_trans g_e3_le (g_s1_le x_ y_ _ _)
theorem g_sa_le {F_ : Nat} : ∀ (x_ y_ : List Int) (G_ : pGr), G_.length ≤ (g_sa F_ G_ x_ y_).2.length
  | [], _, G_ => Nat.le_refl _
  | _ :: _, [], G_ => Nat.le_refl _
  | a_ :: x_, b_ :: y_, G_ => Nat.le_trans g_xo_le (g_s1_le x_ y_ _ _)
theorem g_c3_le {F_ : Nat} {G_ : pGr} {c_ a_ b_ : Int} : G_.length ≤ (g_c3 F_ G_ c_ a_ b_).2.length := Nat.le_trans g_an_le.1 (Nat.le_trans g_an_le.1 g_or_le)
theorem g_bw_le {F_ : Nat} {k_ : Int} : ∀ G_ a_ b_, G_.length ≤ (g_bw F_ k_ G_ a_ b_).2.length := by
  intro G_ a_ b_
  unfold g_bw
  split
  · exact g_an_le.1
  · split
    · exact g_or_le
    · exact g_xo_le
theorem g_op_le {F_ : Nat} {k_ : Int} {x_ y_ : List Int} {G_ : pGr} : G_.length ≤ (g_op F_ k_ G_ x_ y_).2.length := by
  unfold g_op
  split
  · exact g_su_le x_ y_ G_ 0
  · split
    · exact g_sa_le x_ y_ G_
    · exact g_z2_le g_bw_le x_ y_ G_
theorem e_op_le {F_ : Nat} {k_ : Int} {G_ : pGr} {V_ : gV} {r_ : pGr × gV} (h_ : e_op F_ k_ G_ V_ = some r_) : G_.length ≤ r_.1.length := by
  unfold e_op at h_
  split at h_
  · split at h_
    · cases h_; exact Nat.le_refl _
    · cases h_
  · split at h_
    · split at h_
      · split at h_
        · cases h_; exact g_z2_le (fun G_ a_ b_ => g_c3_le) _ _ _
        · cases h_
      · cases h_
    · split at h_
      · split at h_
        · split at h_
          · cases h_; exact g_op_le
          · cases h_
        · cases h_
      · cases h_
theorem e_st_g {I_ : Nat} {A_ : pA} {m_ : Nat} {k_ : Int} {a_ : Nat} {d_ : Int} {s_ r_ : gS} (h_ : e_st I_ A_ m_ k_ a_ d_ s_ = some r_) : r_.1.1 = s_.1.1 := by
  unfold e_st at h_
  split at h_
  · cases h_
  · split at h_
    · split at h_
      · cases h_; rfl
      · cases h_
    · split at h_
      · split at h_
        · cases h_; rfl
        · cases h_
      · split at h_
        · cases h_
        · split at h_
          · split at h_
            · cases h_; rfl
            · cases h_
          · split at h_
            · split at h_
              · cases h_
              · split at h_
                · cases h_; rfl
                · cases h_
            · split at h_
              · split at h_
                · split at h_
                  · cases h_; rfl
                  · cases h_
                · cases h_
              · cases h_
theorem ew_le {F_ I_ : Nat} {A_ : pA} {X_ : Nat → gQ → gE → Option (gQ × gE)} {m_ : Nat} {w_ : Int} {s_ r_ : gS} (hX_ : ∀ d_ q_ e_ z_, X_ d_ q_ e_ = some z_ → q_.1.length ≤ z_.1.1.length) (h_ : ew F_ I_ A_ X_ m_ w_ s_ = some r_) : s_.1.1.length ≤ r_.1.1.length := by
  unfold ew at h_
  split at h_
  · split at h_
    · split at h_
      · split at h_
        · rename_i e_
          cases h_
          exact hX_ _ _ _ _ e_
        · cases h_
      · cases h_
    · cases h_
  · split at h_
    · split at h_
      · rename_i e_
        cases h_
        exact e_op_le e_
      · cases h_
    · split at h_
      · split at h_
        · cases h_; exact Nat.le_refl _
        · cases h_
      · rw [e_st_g h_]
        exact Nat.le_refl _
theorem ec_le {F_ I_ : Nat} {A_ : pA} {X_ : Nat → gQ → gE → Option (gQ × gE)} {m_ : Nat} (hX_ : ∀ d_ q_ e_ z_, X_ d_ q_ e_ = some z_ → q_.1.length ≤ z_.1.1.length) : ∀ (c_ : List Int) (s_ r_ : gS), ec F_ I_ A_ X_ m_ c_ s_ = some r_ → s_.1.1.length ≤ r_.1.1.length
  | [], s_, r_, h_ => by cases h_; exact Nat.le_refl _
  | w_ :: c_, s_, r_, h_ => by
    rw [ec] at h_
    split at h_
    · rename_i e_
      exact Nat.le_trans (ew_le hX_ e_) (ec_le hX_ c_ _ _ h_)
    · cases h_
theorem exm_le {F_ I_ : Nat} {A_ : pA} {C_ : Nat → List Int} : ∀ (f_ d_ : Nat) (q_ : gQ) (e_ : gE) (z_ : gQ × gE), exm F_ I_ A_ C_ f_ d_ q_ e_ = some z_ → q_.1.length ≤ z_.1.1.length
  | 0, _, _, _, _, h_ => by cases h_
  | f_ + 1, d_, q_, e_, z_, h_ => by
    rw [exm] at h_
    split at h_
    · rename_i e1_
      split at h_
      · cases h_
        exact ec_le (fun d_ q_ e_ z_ => exm_le f_ d_ q_ e_ z_) _ _ _ e1_
      · cases h_
    · cases h_
theorem ec_ap {F_ I_ : Nat} {A_ : pA} {X_ : Nat → gQ → gE → Option (gQ × gE)} {m_ : Nat} : ∀ (c_ d_ : List Int) (s_ : gS), ec F_ I_ A_ X_ m_ (c_ ++ d_) s_ = match ec F_ I_ A_ X_ m_ c_ s_ with
    | some s1_ => ec F_ I_ A_ X_ m_ d_ s1_
    | none => none
  | [], d_, s_ => rfl
  | w_ :: c_, d_, s_ => by
    rw [List.cons_append, ec, ec]
    cases ew F_ I_ A_ X_ m_ w_ s_ with
    | none => rfl
    | some s1_ => exact ec_ap c_ d_ s1_
/-! rows that hold values -/
def rwv (st_ : Nat → Int) (p_ : Nat) (v_ : List Int) : Prop := ∀ (k_ : Nat) (z_ : Int), v_[k_]? = some z_ → st_ (p_ + k_) = z_
def svl (ok_ : Prop) (st_ wd_ : Nat → Int) : gV → Prop
  | [] => True
  | v_ :: l_ => wd_ l_.length = (v_.length : Int) ∧ (1 ≤ v_.length ∧ v_.length ≤ 8) ∧ (ok_ → rwv st_ (8 * l_.length) v_) ∧ svl ok_ st_ wd_ l_
theorem svl_up {ok_ ok'_ : Prop} {st_ st'_ wd_ wd'_ : Nat → Int} : ∀ {l_ : gV}, svl ok_ st_ wd_ l_ → (ok'_ → ok_) → (∀ j_, j_ < 8 * l_.length → st'_ j_ = st_ j_) → (∀ j_, j_ < l_.length → wd'_ j_ = wd_ j_) → svl ok'_ st'_ wd'_ l_
  | [], _, _, _, _ => trivial
  | v_ :: l_, h_, h0_, h1_, h2_ => by
    refine ⟨?_, h_.2.1, fun z_ k_ x_ e_ => ?_, svl_up h_.2.2.2 h0_ (fun j_ hj_ => h1_ j_ (by simp only [List.length_cons]; omega)) (fun j_ hj_ => h2_ j_ (by simp only [List.length_cons]; omega))⟩
    · rw [h2_ l_.length (by simp)]
      exact h_.1
    · have hk_ : k_ < v_.length := by
        by_cases g_ : k_ < v_.length
        · exact g_
        · rw [List.getElem?_eq_none (by omega)] at e_; cases e_
      have := h_.2.1
      rw [h1_ _ (by simp only [List.length_cons]; omega)]
      exact h_.2.2.1 (h0_ z_) k_ x_ e_
theorem rwv_cg {st_ st'_ : Nat → Int} {p_ : Nat} {v_ : List Int} (h_ : rwv st_ p_ v_) (h1_ : ∀ k_, k_ < v_.length → st'_ (p_ + k_) = st_ (p_ + k_)) : rwv st'_ p_ v_ := by
  intro k_ z_ e_
  have hk_ : k_ < v_.length := by
    by_cases g_ : k_ < v_.length
    · exact g_
    · rw [List.getElem?_eq_none (by omega)] at e_; cases e_
  rw [h1_ k_ hk_]
  exact h_ k_ z_ e_
theorem rwv_g {st_ : Nat → Int} {p_ k_ : Nat} {v_ : List Int} (h_ : rwv st_ p_ v_) (hk_ : k_ < v_.length) : st_ (p_ + k_) = v_.getD k_ 0 := by
  refine h_ k_ _ ?_
  rw [List.getD_eq_getElem?_getD, List.getElem?_eq_getElem hk_]
  rfl
theorem rwv_m {st_ : Nat → Int} {p_ : Nat} {d_ r_ : List Int} {a_ : Int} (h_ : rwv st_ p_ (d_ ++ a_ :: r_)) : st_ (p_ + d_.length) = a_ := h_ d_.length a_ (by rw [List.getElem?_append_right (Nat.le_refl _), Nat.sub_self, List.getElem?_cons_zero])
theorem rwv_set {st_ st'_ : Nat → Int} {p_ q_ : Nat} {d_ r_ : List Int} {a_ z_ : Int} (h_ : rwv st_ p_ (d_ ++ a_ :: r_)) (hq_ : q_ = p_ + d_.length) (hs_ : ∀ k_, st'_ k_ = if k_ = q_ then z_ else st_ k_) : rwv st'_ p_ ((d_ ++ [z_]) ++ r_) := by
  intro k_ x_ e_
  rw [hs_]
  by_cases g_ : k_ = d_.length
  · rw [if_pos (by omega)]
    rw [List.append_assoc, List.getElem?_append_right (by omega), show k_ - d_.length = 0 by omega] at e_
    exact Option.some.inj e_
  · rw [if_neg (by omega)]
    refine h_ k_ x_ ?_
    by_cases g2_ : k_ < d_.length
    · rw [List.append_assoc, List.getElem?_append_left g2_] at e_
      rw [List.getElem?_append_left g2_]
      exact e_
    · rw [List.append_assoc, List.getElem?_append_right (by omega)] at e_
      rw [List.getElem?_append_right (by omega)]
      rw [show k_ - d_.length = (k_ - d_.length - 1) + 1 by omega] at e_ ⊢
      exact e_
theorem g_z2_ln {op_ : pGr → Int → Int → Int × pGr} : ∀ (x_ y_ : List Int) (G_ : pGr), x_.length = y_.length → (g_z2 op_ G_ x_ y_).1.length = x_.length
  | [], _, G_, _ => by unfold g_z2; rfl
  | _ :: _, [], G_, h_ => by cases h_
  | a_ :: x_, b_ :: y_, G_, h_ => by
    rw [g_z2, List.length_cons, List.length_cons, g_z2_ln x_ y_ _ (by simpa using h_)]
theorem g_su_ln {F_ : Nat} : ∀ (x_ y_ : List Int) (G_ : pGr) (c_ : Int), x_.length = y_.length → (g_su F_ G_ c_ x_ y_).1.length = x_.length
  | [], _, G_, _, _ => by unfold g_su; rfl
  | _ :: _, [], G_, _, h_ => by cases h_
  | a_ :: x_, b_ :: y_, G_, c_, h_ => by
    rw [g_su, List.length_cons, List.length_cons, g_su_ln x_ y_ _ _ (by simpa using h_)]
theorem g_op_ln {F_ : Nat} {k_ : Int} {x_ y_ : List Int} {G_ : pGr} (h_ : x_.length = y_.length) (h1_ : 1 ≤ x_.length) : (g_op F_ k_ G_ x_ y_).1.length = if k_ = 4 then 1 else x_.length := by
  unfold g_op
  by_cases g5_ : k_ = 5
  · rw [if_pos g5_, if_neg (by omega), g_su_ln x_ y_ G_ 0 h_]
  · rw [if_neg g5_]
    by_cases g4_ : k_ = 4
    · rw [if_pos g4_, if_pos g4_]
      cases x_ with
      | nil => simp at h1_
      | cons a_ x_ =>
        cases y_ with
        | nil => cases h_
        | cons b_ y_ => rfl
    · rw [if_neg g4_, if_neg g4_, g_z2_ln x_ y_ G_ h_]
