/-! evaluation word by word; written by wip/p55/gen/vg -/

/-! evaluation word by word: the_ code is_ held with its_ last word first -/
section EV_
variable {F_ I_ m_ : Nat} {A_ : pA} {X_ : Nat → gQ → gE → Option (gQ × gE)} {s0_ : gS}
def ev (F_ I_ : Nat) (A_ : pA) (X_ : Nat → gQ → gE → Option (gQ × gE)) (m_ : Nat) (s0_ : gS) (c_ : List Int) : Option gS := ec F_ I_ A_ X_ m_ c_.reverse s0_
theorem ev_n : ev F_ I_ A_ X_ m_ s0_ [] = some s0_ := rfl
theorem ev_c {w_ : Int} {c_ : List Int} {s_ : gS} (h_ : ev F_ I_ A_ X_ m_ s0_ c_ = some s_) : ev F_ I_ A_ X_ m_ s0_ (w_ :: c_) = ew F_ I_ A_ X_ m_ w_ s_ := by
  unfold ev at h_ ⊢
  rw [List.reverse_cons, ec_ap, h_]
  show ec F_ I_ A_ X_ m_ [w_] s_ = _
  rw [ec]
  cases ew F_ I_ A_ X_ m_ w_ s_ with
  | none => rfl
  | some s1_ => rfl
theorem ev_a {c_ d_ : List Int} {s_ : gS} (h_ : ev F_ I_ A_ X_ m_ s0_ c_ = some s_) : ev F_ I_ A_ X_ m_ s0_ (d_ ++ c_) = ev F_ I_ A_ X_ m_ s_ d_ := by
  unfold ev at h_ ⊢
  rw [List.reverse_append, ec_ap, h_]
theorem ev_op {k_ : Int} {c_ : List Int} {q_ : gQ} {E_ : gE} {O_ : gO} {V_ : gV} {x_ y_ : List Int} (h_ : ev F_ I_ A_ X_ m_ s0_ c_ = some (q_, E_, O_, y_ :: x_ :: V_)) (hk_ : 1 ≤ k_ ∧ k_ ≤ 5) (hl_ : x_.length = y_.length) (h1_ : 1 ≤ x_.length) : ev F_ I_ A_ X_ m_ s0_ (k_ :: c_) = some (((g_op F_ k_ q_.1 x_ y_).2, q_.2), E_, O_, (g_op F_ k_ q_.1 x_ y_).1 :: V_) := by
  rw [ev_c h_]
  have e_ : k_ % 32 = k_ := by omega
  have q1_ : e_op F_ k_ q_.1 (y_ :: x_ :: V_) = some ((g_op F_ k_ q_.1 x_ y_).2, (g_op F_ k_ q_.1 x_ y_).1 :: V_) := by
    unfold e_op
    rw [if_neg (by omega), if_neg (by omega), if_pos hk_]
    show (if x_.length = y_.length ∧ 1 ≤ x_.length then _ else none) = _
    rw [if_pos ⟨hl_, h1_⟩]
  unfold ew
  rw [e_, if_neg (by omega), if_pos (by omega)]
  show (match e_op F_ k_ q_.1 (y_ :: x_ :: V_) with
    | some r_ => some ((r_.1, q_.2), E_, O_, r_.2)
    | none => none) = _
  rw [q1_]
theorem ev_no {c_ : List Int} {q_ : gQ} {E_ : gE} {O_ : gO} {V_ : gV} {x_ : List Int} (h_ : ev F_ I_ A_ X_ m_ s0_ c_ = some (q_, E_, O_, x_ :: V_)) : ev F_ I_ A_ X_ m_ s0_ (6 :: c_) = some (q_, E_, O_, x_.map (fun z_ => i_xor z_ 1) :: V_) := by
  rw [ev_c h_]
  rfl
theorem ev_ch {c_ : List Int} {q_ : gQ} {E_ : gE} {O_ : gO} {V_ : gV} {a_ e_ : List Int} {b_ : Int} (h_ : ev F_ I_ A_ X_ m_ s0_ c_ = some (q_, E_, O_, e_ :: a_ :: [b_] :: V_)) (hl_ : a_.length = e_.length) (h1_ : 1 ≤ a_.length) : ev F_ I_ A_ X_ m_ s0_ (7 :: c_) = some (((g_ch F_ b_ q_.1 a_ e_).2, q_.2), E_, O_, (g_ch F_ b_ q_.1 a_ e_).1 :: V_) := by
  rw [ev_c h_]
  have q1_ : e_op F_ 7 q_.1 (e_ :: a_ :: [b_] :: V_) = some ((g_ch F_ b_ q_.1 a_ e_).2, (g_ch F_ b_ q_.1 a_ e_).1 :: V_) := by
    unfold e_op
    rw [if_neg (by decide), if_pos rfl]
    show (if a_.length = e_.length ∧ 1 ≤ a_.length then _ else none) = _
    rw [if_pos ⟨hl_, h1_⟩]
  unfold ew
  rw [if_neg (by decide), if_pos (by decide)]
  show (match e_op F_ 7 q_.1 (e_ :: a_ :: [b_] :: V_) with
    | some r_ => some ((r_.1, q_.2), E_, O_, r_.2)
    | none => none) = _
  rw [q1_]
theorem cw_d {k_ a_ d_ : Int} (hk_ : 0 ≤ k_ ∧ k_ < 32) (ha_ : 0 ≤ a_ ∧ a_ < 64) : cw k_ a_ d_ % 32 = k_ ∧ cw k_ a_ d_ / 32 % 64 = a_ ∧ cw k_ a_ d_ / 2048 = d_ := by
  unfold cw
  omega
theorem ew_ld {k_ a_ d_ : Int} {q_ : gQ} {E_ : gE} {O_ : gO} {V_ W_ : gV} (hk_ : 8 ≤ k_ ∧ k_ ≤ 11) (ha_ : 0 ≤ a_ ∧ a_ < 64) (h_ : e_ld A_ m_ k_ a_.toNat d_ E_ O_ V_ = some W_) : ew F_ I_ A_ X_ m_ (cw k_ a_ d_) (q_, E_, O_, V_) = some (q_, E_, O_, W_) := by
  obtain ⟨e1_, e2_, e3_⟩ := cw_d (k_ := k_) (a_ := a_) (d_ := d_) (by omega) ha_
  unfold ew
  rw [e1_, e2_, e3_, if_neg (by omega), if_neg (by omega), if_pos (by omega)]
  show (match e_ld A_ m_ k_ a_.toNat d_ E_ O_ V_ with
    | some V_ => some (q_, E_, O_, V_)
    | none => none) = _
  rw [h_]
theorem ev_cn {c_ : List Int} {q_ : gQ} {E_ : gE} {O_ : gO} {V_ : gV} {a_ d_ : Int} (h_ : ev F_ I_ A_ X_ m_ s0_ c_ = some (q_, E_, O_, V_)) (hV_ : V_.length < 512) (ha_ : 1 ≤ a_ ∧ a_ ≤ 8) (hd_ : 0 ≤ d_) : ev F_ I_ A_ X_ m_ s0_ (cw 8 a_ d_ :: c_) = some (q_, E_, O_, c_bt a_.toNat d_ :: V_) := by
  rw [ev_c h_]
  refine ew_ld (by decide) (by omega) ?_
  unfold e_ld
  rw [if_neg (by decide), if_neg (by omega), if_pos rfl, if_pos (by omega)]
theorem ev_ld {c_ : List Int} {q_ : gQ} {E_ : gE} {O_ : gO} {V_ : gV} {a_ d_ : Int} (h_ : ev F_ I_ A_ X_ m_ s0_ c_ = some (q_, E_, O_, V_)) (hV_ : V_.length < 512) (ha_ : 0 ≤ a_ ∧ a_ < A_.1 m_) (hm_ : A_.1 m_ ≤ 40) (hl_ : 1 ≤ (E_ a_.toNat).length ∧ (E_ a_.toNat).length ≤ 8) (hw_ : ((E_ a_.toNat).length : Int) = A_.2.2.2.1 (40 * m_ + a_.toNat)) : ev F_ I_ A_ X_ m_ s0_ (cw 9 a_ d_ :: c_) = some (q_, E_, O_, E_ a_.toNat :: V_) := by
  rw [ev_c h_]
  refine ew_ld (by decide) (by omega) ?_
  unfold e_ld
  rw [if_neg (by decide), if_neg (by omega), if_neg (by decide), if_pos rfl, if_pos ⟨by omega, hl_.1, hl_.2, hw_⟩]
theorem ev_pt {c_ : List Int} {q_ : gQ} {E_ : gE} {O_ : gO} {V_ : gV} {a_ d_ : Int} {o_ : Nat → List Int} (h_ : ev F_ I_ A_ X_ m_ s0_ c_ = some (q_, E_, O_, V_)) (hV_ : V_.length < 512) (ha_ : 0 ≤ a_ ∧ a_ < A_.1 m_) (hm_ : A_.1 m_ ≤ 40) (hO_ : O_ a_.toNat = some o_) (hd_ : 0 ≤ d_ ∧ d_ < A_.1 (A_.2.2.2.2 (40 * m_ + a_.toNat)).toNat) (h5_ : 0 ≤ A_.2.2.2.2 (40 * m_ + a_.toNat) ∧ A_.2.2.2.2 (40 * m_ + a_.toNat) < m_) (hl_ : 1 ≤ (o_ d_.toNat).length ∧ (o_ d_.toNat).length ≤ 8) (hw_ : ((o_ d_.toNat).length : Int) = A_.2.2.2.1 (40 * (A_.2.2.2.2 (40 * m_ + a_.toNat)).toNat + d_.toNat)) : ev F_ I_ A_ X_ m_ s0_ (cw 10 a_ d_ :: c_) = some (q_, E_, O_, o_ d_.toNat :: V_) := by
  rw [ev_c h_]
  refine ew_ld (by decide) (by omega) ?_
  unfold e_ld
  rw [if_neg (by decide), if_neg (by omega), if_neg (by decide), if_neg (by decide), if_pos rfl, hO_]
  show (if _ then _ else none) = _
  rw [if_pos ⟨by omega, hd_.1, hd_.2, h5_.1, h5_.2, hl_.1, hl_.2, hw_⟩]
theorem ev_bi {c_ : List Int} {q_ : gQ} {E_ : gE} {O_ : gO} {V_ : gV} {a_ : Int} {x_ : List Int} (h_ : ev F_ I_ A_ X_ m_ s0_ c_ = some (q_, E_, O_, x_ :: V_)) (ha_ : 0 ≤ a_ ∧ a_ < x_.length) (h8_ : x_.length ≤ 8) : ev F_ I_ A_ X_ m_ s0_ (cw 11 a_ 0 :: c_) = some (q_, E_, O_, [x_.getD a_.toNat 0] :: V_) := by
  rw [ev_c h_]
  refine ew_ld (by decide) (by omega) ?_
  unfold e_ld
  rw [if_pos rfl]
  show (if a_.toNat < x_.length then _ else none) = _
  rw [if_pos (by omega)]
end EV_
