/-! the class: loads; written by wip/p55/gen/vg -/

/-! loads -/
theorem e_ld11 {A_ : pA} {m_ a_ : Nat} {d_ : Int} {E_ : gE} {O_ : gO} {V_ W_ : gV} (h_ : e_ld A_ m_ 11 a_ d_ E_ O_ V_ = some W_) : ∃ x_ l_, V_ = x_ :: l_ ∧ a_ < x_.length ∧ W_ = [x_.getD a_ 0] :: l_ := by
  unfold e_ld at h_
  rw [if_pos rfl] at h_
  cases V_ with
  | nil => cases h_
  | cons x_ l_ =>
    have h_ : (if a_ < x_.length then some ([x_.getD a_ 0] :: l_) else none) = some W_ := h_
    split at h_
    · rename_i g_
      cases h_
      exact ⟨x_, l_, rfl, g_, rfl⟩
    · cases h_
theorem e_ld8 {A_ : pA} {m_ a_ : Nat} {d_ : Int} {E_ : gE} {O_ : gO} {V_ W_ : gV} (h_ : e_ld A_ m_ 8 a_ d_ E_ O_ V_ = some W_) : V_.length < 512 ∧ (1 ≤ a_ ∧ a_ ≤ 8) ∧ 0 ≤ d_ ∧ W_ = c_bt a_ d_ :: V_ := by
  unfold e_ld at h_
  rw [if_neg (by decide)] at h_
  split at h_
  · cases h_
  · rw [if_pos rfl] at h_
    split at h_
    · rename_i g1_ g_
      cases h_
      exact ⟨by omega, ⟨g_.1, g_.2.1⟩, g_.2.2, rfl⟩
    · cases h_
theorem e_ld9 {A_ : pA} {m_ a_ : Nat} {d_ : Int} {E_ : gE} {O_ : gO} {V_ W_ : gV} (h_ : e_ld A_ m_ 9 a_ d_ E_ O_ V_ = some W_) : V_.length < 512 ∧ a_ < A_.1 m_ ∧ (1 ≤ (E_ a_).length ∧ (E_ a_).length ≤ 8) ∧ ((E_ a_).length : Int) = A_.2.2.2.1 (40 * m_ + a_) ∧ W_ = E_ a_ :: V_ := by
  unfold e_ld at h_
  rw [if_neg (by decide)] at h_
  split at h_
  · cases h_
  · rw [if_neg (by decide), if_pos rfl] at h_
    split at h_
    · rename_i g1_ g_
      cases h_
      exact ⟨by omega, g_.1, ⟨g_.2.1, g_.2.2.1⟩, g_.2.2.2, rfl⟩
    · cases h_
theorem e_ldp {A_ : pA} {m_ a_ : Nat} {k_ d_ : Int} {E_ : gE} {O_ : gO} {V_ W_ : gV} (h_ : e_ld A_ m_ k_ a_ d_ E_ O_ V_ = some W_) (h11_ : k_ ≠ 11) (h8_ : k_ ≠ 8) (h9_ : k_ ≠ 9) : V_.length < 512 ∧ ∃ o_, O_ a_ = some o_ ∧ a_ < A_.1 m_ ∧ 0 ≤ d_ ∧ d_ < A_.1 (A_.2.2.2.2 (40 * m_ + a_)).toNat ∧ 0 ≤ A_.2.2.2.2 (40 * m_ + a_) ∧ A_.2.2.2.2 (40 * m_ + a_) < m_ ∧ (1 ≤ (o_ d_.toNat).length ∧ (o_ d_.toNat).length ≤ 8) ∧ ((o_ d_.toNat).length : Int) = A_.2.2.2.1 (40 * (A_.2.2.2.2 (40 * m_ + a_)).toNat + d_.toNat) ∧ W_ = o_ d_.toNat :: V_ := by
  unfold e_ld at h_
  rw [if_neg h11_] at h_
  by_cases g1_ : 512 ≤ V_.length
  · rw [if_pos g1_] at h_
    cases h_
  · rw [if_neg g1_, if_neg h8_, if_neg h9_] at h_
    by_cases g10_ : k_ = 10
    · rw [if_pos g10_] at h_
      cases ho_ : O_ a_ with
      | none => rw [ho_] at h_; cases h_
      | some o_ =>
        rw [ho_] at h_
        have h_ : (if a_ < A_.1 m_ ∧ 0 ≤ d_ ∧ d_ < A_.1 (A_.2.2.2.2 (40 * m_ + a_)).toNat ∧ 0 ≤ A_.2.2.2.2 (40 * m_ + a_) ∧ A_.2.2.2.2 (40 * m_ + a_) < m_ ∧ 1 ≤ (o_ d_.toNat).length ∧ (o_ d_.toNat).length ≤ 8 ∧ ((o_ d_.toNat).length : Int) = A_.2.2.2.1 (40 * (A_.2.2.2.2 (40 * m_ + a_)).toNat + d_.toNat) then some (o_ d_.toNat :: V_) else none) = some W_ := h_
        split at h_
        · rename_i g_
          cases h_
          exact ⟨by omega, o_, rfl, g_.1, g_.2.1, g_.2.2.1, g_.2.2.2.1, g_.2.2.2.2.1, ⟨g_.2.2.2.2.2.1, g_.2.2.2.2.2.2.1⟩, g_.2.2.2.2.2.2.2, rfl⟩
        · cases h_
    · rw [if_neg g10_] at h_
      cases h_
theorem ld_st {S0_ : sm_S} {k_ p_ q_ : Nat} {z_ t_ : Int} : (sm_pI (sm_acI (sm_aI S0_ 28 0 k_ z_) 26 0 27 0 p_ q_ 8) 1 0 6 t_).2.2.1 27 0 = sm_cp (S0_.2.2.1 26 0) (S0_.2.2.1 27 0) p_ q_ 8 := by
  show (sm_acI (sm_aI S0_ 28 0 k_ z_) 26 0 27 0 p_ q_ 8).2.2.1 27 0 = _
  rw [sm_acI_at]
  have e1_ : (sm_aI S0_ 28 0 k_ z_).2.2.1 26 0 = S0_.2.2.1 26 0 := funext fun j_ => rd_ne (by decide)
  have e2_ : (sm_aI S0_ 28 0 k_ z_).2.2.1 27 0 = S0_.2.2.1 27 0 := funext fun j_ => rd_ne (by decide)
  rw [e1_, e2_]
theorem ld_wd {S0_ : sm_S} {k_ p_ q_ j_ : Nat} {z_ t_ : Int} : (sm_pI (sm_acI (sm_aI S0_ 28 0 k_ z_) 26 0 27 0 p_ q_ 8) 1 0 6 t_).2.2.1 28 0 j_ = if j_ = k_ then z_ else S0_.2.2.1 28 0 j_ := by
  show (sm_acI (sm_aI S0_ 28 0 k_ z_) 26 0 27 0 p_ q_ 8).2.2.1 28 0 j_ = _
  rw [sm_acI_ne (by decide), rd_eq]
theorem ld_go {G_ : pGr} {V_ : gV} {v_ : List Int} {S0_ : sm_S} {k_ p_ q_ : Nat} {z_ t_ : Int} (hV_ : cstk G_ V_ S0_) (hk_ : k_ = V_.length) (hq_ : q_ = 8 * V_.length) (hz_ : z_ = (v_.length : Int)) (ht_ : t_ = (V_.length : Int) + 1) (hv_ : 1 ≤ v_.length ∧ v_.length ≤ 8) (hr_ : rwv (S0_.2.2.1 26 0) p_ v_) : cstk G_ (v_ :: V_) (sm_pI (sm_acI (sm_aI S0_ 28 0 k_ z_) 26 0 27 0 p_ q_ 8) 1 0 6 t_) := by
  refine ⟨?_, svl_tp hV_.2 (fun z_ => z_) (fun j_ hj_ => ?_) (fun j_ hj_ => ?_) ?_ hv_ (fun _ => ?_)⟩
  · rw [rf_eq, ht_, List.length_cons]
    push_cast
    rfl
  · rw [ld_st, sm_cp_o (by omega)]
  · rw [ld_wd, if_neg (by omega)]
  · rw [ld_wd, if_pos hk_.symm, hz_]
  · rw [ld_st, hq_]
    exact rwv_cp hr_ hv_.2
