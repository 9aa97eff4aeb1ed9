/-! 99.ztW1 -/
section
/-! bits and tables; written by wip/p55/gen/vg -/

/-! bits of_ words, tables -/
theorem lbs_k1 : ∀ i_ : Fin 64, (((Int32.ofInt ((i_ : Nat) : Int)).toInt64 &&& 63).toBitVec.smod 64).toNat = (i_ : Nat) := by decide +kernel
theorem lbs_k2 : ∀ i_ : Fin 64, (((Int32.ofInt ((i_ : Nat) : Int)).toInt64.toUInt64 &&& Int64.toUInt64 63).toBitVec % 64).toNat = (i_ : Nat) := by decide +kernel
theorem lbt_s1 {x_ : Int} {i_ : Nat} (hi_ : i_ < 64) : lbt (l_s1 x_ (i_ : Int)) 0 = lbt x_ i_ := by
  have k_ : (((Int32.ofInt (i_ : Int)).toInt64 &&& 63).toBitVec.smod 64).toNat = i_ := lbs_k1 ⟨i_, hi_⟩
  unfold lbt l_s1
  rw [Int64.ofInt_toInt]
  rw [Int64.toBitVec_shiftRight, BitVec.getLsbD_sshiftRight', k_]
  simp [hi_]
theorem lbt_s2 {x_ : Int} {i_ : Nat} (hi_ : i_ < 64) : lbt (l_s2 x_ (i_ : Int)) 0 = lbt x_ i_ := by
  have k_ : (((Int32.ofInt (i_ : Int)).toInt64.toUInt64 &&& Int64.toUInt64 63).toBitVec % 64).toNat = i_ := lbs_k2 ⟨i_, hi_⟩
  unfold lbt l_s2
  rw [Int64.ofInt_toInt]
  have e_ : (((Int64.ofInt x_).toUInt64 >>> ((Int32.ofInt (i_ : Int)).toInt64.toUInt64 &&& Int64.toUInt64 63)).toInt64).toBitVec = (Int64.ofInt x_).toBitVec >>> (((Int32.ofInt (i_ : Int)).toInt64.toUInt64 &&& Int64.toUInt64 63).toBitVec % 64).toNat := by
    first
      | exact UInt64.toBitVec_shiftRight _ _
      | rfl
  rw [e_, k_, BitVec.getLsbD_ushiftRight]
  simp
theorem lbt_1 : lbt 1 0 = true := by decide +kernel
theorem bitv {y_ : Int} : l_l2i (l_3 y_ 1) = if lbt y_ 0 = true then 1 else 0 := by
  have e_ : l_3 y_ 1 = (Int64.ofInt y_ &&& 1).toInt := rfl
  have b_ := lbt_3 (x_ := y_) (y_ := 1) (i_ := 0)
  rcases i64_1 (Int64.ofInt y_) with z_ | z_
  · have h0_ : l_3 y_ 1 = 0 := by rw [e_, z_]; rfl
    rw [h0_, lbt_0, lbt_1, Bool.and_true] at b_
    rw [h0_, if_neg (by rw [← b_]; decide)]
    decide
  · have h1_ : l_3 y_ 1 = 1 := by rw [e_, z_]; rfl
    rw [h1_, lbt_1, Bool.and_true] at b_
    rw [h1_, if_pos b_.symm]
    decide
theorem bit_1 {R_ : Nat → Int} {l_ p_ : Int} (hp_ : 0 ≤ p_) : l_l2i (l_3 (l_s1 (wlt R_ l_ (p_ / 64).toNat) (p_ % 64)) 1) = if ltv (pvl R_) l_ p_.toNat = true then 1 else 0 := by
  obtain ⟨q_, rfl⟩ : ∃ q_ : Nat, p_ = (q_ : Int) := ⟨p_.toNat, by omega⟩
  rw [bitv, show ((q_ : Int) % 64) = ((q_ % 64 : Nat) : Int) by omega, show ((q_ : Int) / 64).toNat = q_ / 64 by omega, lbt_s1 (Nat.mod_lt _ (by decide)), wlt_b, Int.toNat_natCast]
theorem bit_2 {R_ : Nat → Int} {l_ p_ : Int} (hp_ : 0 ≤ p_) : l_l2i (l_3 (l_s2 (wlt R_ l_ (p_ / 64).toNat) (p_ % 64)) 1) = if ltv (pvl R_) l_ p_.toNat = true then 1 else 0 := by
  obtain ⟨q_, rfl⟩ : ∃ q_ : Nat, p_ = (q_ : Int) := ⟨p_.toNat, by omega⟩
  rw [bitv, show ((q_ : Int) % 64) = ((q_ % 64 : Nat) : Int) by omega, show ((q_ : Int) / 64).toNat = q_ / 64 by omega, lbt_s2 (Nat.mod_lt _ (by decide)), wlt_b, Int.toNat_natCast]
/-- a_ number out_ of_ its_ bits -/
def tbv (f_ : Nat → Bool) : Nat → Int
  | 0 => 0
  | k_ + 1 => tbv f_ k_ + (if f_ k_ = true then 2 ^ k_ else 0)
theorem tbv_s {f_ : Nat → Bool} {k_ : Nat} : tbv f_ (k_ + 1) = tbv f_ k_ + (if f_ k_ = true then 2 ^ k_ else 0) := rfl
theorem tbv_b {f_ : Nat → Bool} : ∀ k_ : Nat, 0 ≤ tbv f_ k_ ∧ tbv f_ k_ < 2 ^ k_
  | 0 => ⟨Int.le_refl _, by show (0 : Int) < 2 ^ 0; decide⟩
  | k_ + 1 => by
    have h_ := tbv_b (f_ := f_) k_
    have p_ := pw_pos k_
    rw [tbv_s, pw_add]
    split <;> omega
theorem tbv_cg {f_ g_ : Nat → Bool} : ∀ k_ : Nat, (∀ j_, j_ < k_ → f_ j_ = g_ j_) → tbv f_ k_ = tbv g_ k_
  | 0, _ => rfl
  | k_ + 1, h_ => by
    rw [tbv_s, tbv_s, tbv_cg k_ (fun j_ hj_ => h_ j_ (by omega)), h_ k_ (Nat.lt_succ_self k_)]
/-- one_ bit_ more -/
theorem tbv_or {f_ : Nat → Bool} {k_ : Nat} (hk_ : k_ ≤ 21) : i_or (tbv f_ k_) (i_shl (if f_ k_ = true then 1 else 0) (k_ : Int)) = tbv f_ (k_ + 1) := by
  have b_ := tbv_b (f_ := f_) k_
  have p_ := pw_pos k_
  have l_ := pw_le (n := k_) (m := 21) hk_
  have l_ : (2 : Int) ^ k_ ≤ 2097152 := l_
  by_cases c_ : f_ k_ = true
  · rw [tbv_s, if_pos c_, if_pos c_, i_shlv (by omega) (by omega) (by decide) (by rw [Int.toNat_natCast]; omega), Int.toNat_natCast, Int.one_mul]
    exact i_or_lo b_.1 b_.2 (by omega) (by omega) (Int.dvd_refl _)
  · rw [tbv_s, if_neg c_, if_neg c_, i_shlv (by omega) (by omega) (by decide) (by rw [Int.zero_mul]; decide), Int.zero_mul]
    exact i_or_lo b_.1 b_.2 (by decide) (by omega) (Int.dvd_zero _)
/-- where a_ root's bit_ stands in the_ class's table -/
def sht (o_ k_ : Nat) : Nat := if k_ < o_ then k_ else 16 + (k_ - o_)
def tbw (o_ : Nat) (f_ : Nat → Bool) : Nat → Int
  | 0 => 0
  | k_ + 1 => tbw o_ f_ k_ + (if f_ k_ = true then 2 ^ sht o_ k_ else 0)
theorem tbw_s {o_ k_ : Nat} {f_ : Nat → Bool} : tbw o_ f_ (k_ + 1) = tbw o_ f_ k_ + (if f_ k_ = true then 2 ^ sht o_ k_ else 0) := rfl
theorem sht_s {o_ k_ : Nat} (ho_ : o_ ≤ 16) : sht o_ k_ + 1 ≤ sht o_ (k_ + 1) := by
  unfold sht
  split <;> split <;> omega
theorem tbw_b {o_ : Nat} {f_ : Nat → Bool} (ho_ : o_ ≤ 16) : ∀ k_ : Nat, 0 ≤ tbw o_ f_ k_ ∧ tbw o_ f_ k_ < 2 ^ sht o_ k_
  | 0 => ⟨Int.le_refl _, pw_pos _⟩
  | k_ + 1 => by
    have h_ := tbw_b (f_ := f_) ho_ k_
    have p_ := pw_pos (sht o_ k_)
    have l_ := pw_le (n := sht o_ k_ + 1) (m := sht o_ (k_ + 1)) (sht_s ho_)
    rw [pw_add] at l_
    rw [tbw_s]
    split <;> omega
theorem tbw_or {o_ k_ : Nat} {f_ : Nat → Bool} (ho_ : o_ ≤ 16) (hk_ : sht o_ k_ ≤ 21) : i_or (tbw o_ f_ k_) (i_shl (if f_ k_ = true then 1 else 0) (sht o_ k_ : Int)) = tbw o_ f_ (k_ + 1) := by
  have b_ := tbw_b (f_ := f_) ho_ k_
  have p_ := pw_pos (sht o_ k_)
  have l_ := pw_le (n := sht o_ k_) (m := 21) hk_
  have l_ : (2 : Int) ^ sht o_ k_ ≤ 2097152 := l_
  by_cases c_ : f_ k_ = true
  · rw [tbw_s, if_pos c_, if_pos c_, i_shlv (by omega) (by omega) (by decide) (by rw [Int.toNat_natCast]; omega), Int.toNat_natCast, Int.one_mul]
    exact i_or_lo b_.1 b_.2 (by omega) (by omega) (Int.dvd_refl _)
  · rw [tbw_s, if_neg c_, if_neg c_, i_shlv (by omega) (by omega) (by decide) (by rw [Int.zero_mul]; decide), Int.zero_mul]
    exact i_or_lo b_.1 b_.2 (by decide) (by omega) (Int.dvd_zero _)
theorem tbw_o {o_ : Nat} {f_ : Nat → Bool} : ∀ k_ : Nat, k_ ≤ o_ → tbw o_ f_ k_ = tbv f_ k_
  | 0, _ => rfl
  | k_ + 1, h_ => by
    have e_ : sht o_ k_ = k_ := by
      unfold sht
      exact if_pos (by omega)
    rw [tbw_s, tbv_s, tbw_o k_ (by omega), e_]
theorem tbw_n {o_ : Nat} {f_ : Nat → Bool} : ∀ r_ : Nat, tbw o_ f_ (o_ + r_) = tbv f_ o_ + 65536 * tbv (fun j_ => f_ (o_ + j_)) r_
  | 0 => by
    rw [Nat.add_zero, tbw_o o_ (Nat.le_refl _)]
    show tbv f_ o_ = tbv f_ o_ + 65536 * 0
    omega
  | r_ + 1 => by
    have e_ : sht o_ (o_ + r_) = 16 + r_ := by
      unfold sht
      rw [if_neg (by omega)]
      omega
    rw [← Nat.add_assoc, tbw_s, tbw_n r_, tbv_s, e_, Int.pow_add, show (2 : Int) ^ 16 = 65536 from rfl]
    by_cases c_ : f_ (o_ + r_) = true
    · rw [if_pos c_, if_pos c_]
      omega
    · rw [if_neg c_, if_neg c_]
      omega
theorem sht_b {o_ k_ r_ : Nat} (ho_ : o_ ≤ 16) (hr_ : r_ ≤ 6) (hk_ : k_ < o_ + r_) : sht o_ k_ ≤ 21 := by
  unfold sht
  split <;> omega
/-- a_ design's table: what it_ holds for_ each pattern -/
def dtw (F_ N_ o_ R_ : Nat) (lo_ hi_ ro_ rn_ to_ tn_ : Nat → Int) : Prop := ∃ (P_ : Nat) (v_ : Nat → Nat → Bool), 2 ^ (F_ - 1) ≤ P_ ∧ nvr F_ N_ P_ lo_ hi_ v_ ∧ ∀ p_, p_ < 2 ^ (F_ - 1) → to_ p_ = tbv (fun k_ => ltv v_ (ro_ k_) p_) o_ ∧ tn_ p_ = tbv (fun k_ => ltv v_ (rn_ k_) p_) R_
theorem dtw_u {F_ N_ o_ R_ : Nat} {lo_ hi_ ro_ rn_ to_ tn_ lo'_ hi'_ ro'_ rn'_ to'_ tn'_ : Nat → Int} (hg_ : glo F_ N_ lo_ hi_) (e_ : ∀ n_, F_ ≤ n_ → n_ < N_ → lo'_ n_ = lo_ n_ ∧ hi'_ n_ = hi_ n_) (e1_ : ∀ k_, k_ < o_ → ro'_ k_ = ro_ k_ ∧ 0 ≤ ro_ k_ ∧ ro_ k_ < 2 * (N_ : Int)) (e2_ : ∀ k_, k_ < R_ → rn'_ k_ = rn_ k_ ∧ 0 ≤ rn_ k_ ∧ rn_ k_ < 2 * (N_ : Int)) (h_ : dtw F_ N_ o_ R_ lo_ hi_ ro_ rn_ to_ tn_) (g_ : dtw F_ N_ o_ R_ lo'_ hi'_ ro'_ rn'_ to'_ tn'_) : ∀ p_, p_ < 2 ^ (F_ - 1) → to_ p_ = to'_ p_ ∧ tn_ p_ = tn'_ p_ := by
  obtain ⟨P_, v_, p1_, h1_, h2_⟩ := h_
  obtain ⟨Q_, u_, q1_, g1_, g2_⟩ := g_
  intro p_ hp_
  have vu_ : ∀ n_, n_ < N_ → v_ n_ p_ = u_ n_ p_ := fun n_ hn_ => nvr_u hg_ e_ h1_ g1_ (n_ + 1) n_ (Nat.lt_succ_self n_) hn_ p_ (by omega) (by omega)
  rw [(h2_ p_ hp_).1, (h2_ p_ hp_).2, (g2_ p_ hp_).1, (g2_ p_ hp_).2]
  refine ⟨tbv_cg o_ (fun k_ hk_ => ?_), tbv_cg R_ (fun k_ hk_ => ?_)⟩
  · have x_ := e1_ k_ hk_
    show ltv v_ (ro_ k_) p_ = ltv u_ (ro'_ k_) p_
    rw [x_.1]
    exact ltv_cg (vu_ _ (by omega))
  · have x_ := e2_ k_ hk_
    show ltv v_ (rn_ k_) p_ = ltv u_ (rn'_ k_) p_
    rw [x_.1]
    exact ltv_cg (vu_ _ (by omega))
theorem dtw_cg {F_ N_ o_ R_ : Nat} {lo_ hi_ ro_ rn_ to_ tn_ lo'_ hi'_ ro'_ rn'_ to'_ tn'_ : Nat → Int} (h_ : dtw F_ N_ o_ R_ lo_ hi_ ro_ rn_ to_ tn_) (e_ : ∀ k_, k_ < N_ → lo'_ k_ = lo_ k_ ∧ hi'_ k_ = hi_ k_) (e1_ : ∀ k_, k_ < o_ → ro'_ k_ = ro_ k_) (e2_ : ∀ k_, k_ < R_ → rn'_ k_ = rn_ k_) (e3_ : ∀ p_, p_ < 2 ^ (F_ - 1) → to'_ p_ = to_ p_ ∧ tn'_ p_ = tn_ p_) : dtw F_ N_ o_ R_ lo'_ hi'_ ro'_ rn'_ to'_ tn'_ := by
  obtain ⟨P_, v_, p1_, h1_, h2_⟩ := h_
  refine ⟨P_, v_, p1_, fun q_ hq_ => ?_, fun p_ hp_ => ?_⟩
  · obtain ⟨a1_, a2_, a3_⟩ := h1_ q_ hq_
    refine ⟨a1_, a2_, fun n_ x_ y_ => ?_⟩
    rw [(e_ n_ y_).1, (e_ n_ y_).2]
    exact a3_ n_ x_ y_
  · rw [(e3_ p_ hp_).1, (e3_ p_ hp_).2, (h2_ p_ hp_).1, (h2_ p_ hp_).2]
    exact ⟨tbv_cg o_ (fun k_ hk_ => by show ltv v_ (ro_ k_) p_ = ltv v_ (ro'_ k_) p_; rw [e1_ k_ hk_]), tbv_cg R_ (fun k_ hk_ => by show ltv v_ (rn_ k_) p_ = ltv v_ (rn'_ k_) p_; rw [e2_ k_ hk_])⟩
end
/-! 99.ztW2 -/
section
/-! the class: tables, with their meaning; written by wip/p55/gen/vg -/

/-- the_ class's table -/
def dct (dd_ F_ : Nat) (S_ : sm_S) : Prop := dtw F_ (S_.1 3 dd_ 4).toNat (S_.1 3 dd_ 3).toNat (S_.1 3 dd_ 2).toNat (S_.2.2.1 42 (0 + dd_)) (S_.2.2.1 43 (0 + dd_)) (S_.2.2.1 45 (0 + dd_)) (S_.2.2.1 46 (0 + dd_)) (fun p_ => S_.2.2.1 47 (0 + dd_) p_ % 65536) (fun p_ => S_.2.2.1 47 (0 + dd_) p_ / 65536)
theorem dct_fr {w_ : sx_Wl} {dd_ F_ : Nat} {S_ S'_ : sm_S} (h_ : dct dd_ F_ S_) (g_ : ai_fr (sx_W w_) S_ S'_) (h1_ : (sx_W w_).1 3 4 = false := by rfl) (h2_ : (sx_W w_).1 3 3 = false := by rfl) (h3_ : (sx_W w_).1 3 2 = false := by rfl) (h4_ : (sx_W w_).2.1 42 = false := by rfl) (h5_ : (sx_W w_).2.1 43 = false := by rfl) (h6_ : (sx_W w_).2.1 45 = false := by rfl) (h7_ : (sx_W w_).2.1 46 = false := by rfl) (h8_ : (sx_W w_).2.1 47 = false := by rfl) : dct dd_ F_ S'_ := by
  unfold dct
  rw [g_.1 3 dd_ 4 h1_, g_.1 3 dd_ 3 h2_, g_.1 3 dd_ 2 h3_, fr_arr (t := 42) g_ h4_, fr_arr (t := 43) g_ h5_, fr_arr (t := 45) g_ h6_, fr_arr (t := 46) g_ h7_, fr_arr (t := 47) g_ h8_]
  exact h_
/-- the_ table as_ far_ as_ it_ is_ filled -/
def ftw (o_ : Nat) (R_ : Nat → Int) (rt_ : Int → Int) (k_ q_ : Nat) : Int := tbw o_ (fun j_ => ltv (pvl R_) (rt_ (j_ : Int)) q_) k_
theorem ftw_or {o_ k_ q_ : Nat} {R_ : Nat → Int} {rt_ : Int → Int} {b_ : Int} (ho_ : o_ ≤ 16) (hk_ : sht o_ k_ ≤ 21) (hb_ : b_ = if ltv (pvl R_) (rt_ (k_ : Int)) q_ = true then 1 else 0) : i_or (ftw o_ R_ rt_ k_ q_) (i_shl b_ (sht o_ k_ : Int)) = ftw o_ R_ rt_ (k_ + 1) q_ := by
  rw [hb_]
  exact tbw_or (f_ := fun j_ => ltv (pvl R_) (rt_ (j_ : Int)) q_) ho_ hk_
theorem dct_of {w_ : sx_Wl} {dd_ F_ : Nat} {S_ S'_ : sm_S} (hF_ : 1 ≤ F_ ∧ F_ ≤ 13) (hFe_ : (F_ : Int) = 1 + S_.1 3 dd_ 1 + S_.1 3 dd_ 2) (hR_ : 0 ≤ S_.1 3 dd_ 1 ∧ 0 ≤ S_.1 3 dd_ 2) (ho_ : 0 ≤ S_.1 3 dd_ 3 ∧ S_.1 3 dd_ 3 ≤ 16) (hq_ : swq dd_ F_ S_) (g_ : ai_fr (sx_W w_) S_ S'_) (ht_ : ∀ q9_ : Nat, (q9_ : Int) < 2 ^ (S_.1 3 dd_ 1 + S_.1 3 dd_ 2).toNat → S'_.2.2.1 47 (0 + dd_) q9_ = ftw (S_.1 3 dd_ 3).toNat (S_.2.2.2 32 0) (rtv dd_ S_) ((S_.1 3 dd_ 3).toNat + (S_.1 3 dd_ 2).toNat) q9_) (h1_ : (sx_W w_).1 3 4 = false := by rfl) (h2_ : (sx_W w_).1 3 3 = false := by rfl) (h3_ : (sx_W w_).1 3 2 = false := by rfl) (h4_ : (sx_W w_).2.1 42 = false := by rfl) (h5_ : (sx_W w_).2.1 43 = false := by rfl) (h6_ : (sx_W w_).2.1 45 = false := by rfl) (h7_ : (sx_W w_).2.1 46 = false := by rfl) : dct dd_ F_ S'_ := by
  obtain ⟨W_, mk_, w1_, w2_, w3_, w4_⟩ := hq_
  unfold dct
  rw [g_.1 3 dd_ 4 h1_, g_.1 3 dd_ 3 h2_, g_.1 3 dd_ 2 h3_, fr_arr (t := 42) g_ h4_, fr_arr (t := 43) g_ h5_, fr_arr (t := 45) g_ h6_, fr_arr (t := 46) g_ h7_]
  have wm_ : wmk ((F_ - 1 : Nat) : Int) W_ mk_ := by
    rw [show ((F_ - 1 : Nat) : Int) = (F_ : Int) - 1 by omega]
    exact w1_
  obtain ⟨o_, eo_⟩ : ∃ o_, o_ = (S_.1 3 dd_ 3).toNat := ⟨_, rfl⟩
  obtain ⟨r_, er⟩ : ∃ r_, r_ = (S_.1 3 dd_ 2).toNat := ⟨_, rfl⟩
  rw [← eo_, ← er] at ht_ ⊢
  refine ⟨2 ^ (F_ - 1), pvl (S_.2.2.2 32 0), Nat.le_refl _, nvr_of w3_ wm_ hF_.2, fun p_ hp_ => ?_⟩
  have pn_ : ((2 ^ (F_ - 1) : Nat) : Int) = (2 : Int) ^ (F_ - 1) := by push_cast; rfl
  have e_ := ht_ p_ (by rw [show (S_.1 3 dd_ 1 + S_.1 3 dd_ 2).toNat = F_ - 1 by omega]; omega)
  have n_ := tbw_n (o_ := o_) (f_ := fun j_ => ltv (pvl (S_.2.2.2 32 0)) (rtv dd_ S_ (j_ : Int)) p_) r_
  have e_ : S'_.2.2.1 47 (0 + dd_) p_ = _ := e_.trans n_
  have b_ := tbv_b (f_ := fun j_ => ltv (pvl (S_.2.2.2 32 0)) (rtv dd_ S_ (j_ : Int)) p_) o_
  have l_ := pw_le (n := o_) (m := 16) (by omega)
  have l_ : (2 : Int) ^ o_ ≤ 65536 := l_
  have c1_ : tbv (fun j_ => ltv (pvl (S_.2.2.2 32 0)) (rtv dd_ S_ (j_ : Int)) p_) o_ = tbv (fun k_ => ltv (pvl (S_.2.2.2 32 0)) (S_.2.2.1 45 (0 + dd_) k_) p_) o_ := tbv_cg o_ (fun j_ hj_ => by
    show ltv _ (rtv dd_ S_ (j_ : Int)) p_ = ltv _ (S_.2.2.1 45 (0 + dd_) j_) p_
    unfold rtv
    rw [if_pos (by omega), Int.toNat_natCast])
  have c2_ : tbv (fun j_ => (fun j_ => ltv (pvl (S_.2.2.2 32 0)) (rtv dd_ S_ (j_ : Int)) p_) (o_ + j_)) r_ = tbv (fun k_ => ltv (pvl (S_.2.2.2 32 0)) (S_.2.2.1 46 (0 + dd_) k_) p_) r_ := tbv_cg r_ (fun j_ hj_ => by
    show ltv _ (rtv dd_ S_ ((o_ + j_ : Nat) : Int)) p_ = ltv _ (S_.2.2.1 46 (0 + dd_) j_) p_
    unfold rtv
    rw [if_neg (by omega), show (((o_ + j_ : Nat) : Int) - S_.1 3 dd_ 3).toNat = j_ by omega])
  show S'_.2.2.1 47 (0 + dd_) p_ % 65536 = _ ∧ S'_.2.2.1 47 (0 + dd_) p_ / 65536 = _
  rw [← c1_, ← c2_, e_]
  have fn_ : ∀ x_ y_ : Int, 0 ≤ x_ → x_ < 65536 → (x_ + 65536 * y_) % 65536 = x_ ∧ (x_ + 65536 * y_) / 65536 = y_ := fun x_ y_ h1_ h2_ => by omega
  exact fn_ _ _ b_.1 (by omega)

/-! Builder.fillTable -/
def vw_51n : sx_Wl := ([], [47], [])
def vq_51n (dd_ : Nat) (F_ : Nat) (S0_ : sm_S) (u_ : Option sm_V) (S1_ : sm_S) : Prop := u_ = none ∧ gi S1_ ∧ ai_fr (sx_W vw_51n) S0_ S1_ ∧ (idf dd_ S0_ S1_ ∧ (dtb dd_ S1_ ∧ ∀ q9_ : Nat, (q9_ : Int) < 2 ^ (S0_.1 3 dd_ 1 + S0_.1 3 dd_ 2).toNat → S1_.2.2.1 47 (0 + dd_) q9_ = ftw (S0_.1 3 dd_ 3).toNat (S0_.2.2.2 32 0) (rtv dd_ S0_) ((S0_.1 3 dd_ 3).toNat + (S0_.1 3 dd_ 2).toNat) q9_))
set_option maxHeartbeats 1000000 in
theorem vl_51n {sc_ : Nat × (Nat → Int)} (dd_ : Nat) (F_ : Nat) (S0_ : sm_S) (hd_ : S0_.2.1 1 0 1 = some dd_) (hg_ : dgr dd_ F_ S0_) (hr_ : drt dd_ S0_) : ∀ nn_ : Nat, (∀ (pt_ : Int) (k_ : Int) (S_ : sm_S), gi S_ → ai_fr (sx_W vw_51n) S0_ S_ → ((0 ≤ k_ ∧ k_ ≤ S0_.1 3 dd_ 3 + S0_.1 3 dd_ 2 ∧ 0 ≤ pt_ ∧ pt_ ≤ 4096) ∧ (∀ p9_ : Nat, p9_ < 4096 → 0 ≤ S_.2.2.1 47 (0 + dd_) p9_ ∧ S_.2.2.1 47 (0 + dd_) p9_ < 2 ^ (16 + (S0_.1 3 dd_ 2).toNat)) ∧ (pt_ = 2 ^ (S0_.1 3 dd_ 1 + S0_.1 3 dd_ 2).toNat) ∧ (∀ q9_ : Nat, (q9_ : Int) < pt_ → S_.2.2.1 47 (0 + dd_) q9_ = ftw (S0_.1 3 dd_ 3).toNat (S0_.2.2.2 32 0) (rtv dd_ S0_) k_.toNat q9_) ∧ (idf dd_ S0_ S_) ∧ True) → ((10000 * (100 - k_) + 5000).toNat) < nn_ → sm_T (mt_P sc_) 1 51 (31, [some (.inr (.inr (some (1, 0)))), some (.inl pt_), some (.inl k_), none, none, none], [], S_) (fun ro9_ => ∃ u_ S1_, ro9_ = (.inl u_, S1_, 0) ∧ vq_51n dd_ F_ S0_ u_ S1_)) ∧ (∀ (pt_ : Int) (k_ : Int) (l_ : Int) (sh_ : Int) (p_ : Int) (S_ : sm_S), gi S_ → ai_fr (sx_W vw_51n) S0_ S_ → ((0 ≤ k_ ∧ k_ < S0_.1 3 dd_ 3 + S0_.1 3 dd_ 2 ∧ 0 ≤ pt_ ∧ pt_ ≤ 4096 ∧ 0 ≤ p_ ∧ p_ ≤ pt_ ∧ 0 ≤ l_ ∧ l_ ≤ 2025 ∧ 0 ≤ sh_ ∧ sh_ < 16 + S0_.1 3 dd_ 2) ∧ (∀ p9_ : Nat, p9_ < 4096 → 0 ≤ S_.2.2.1 47 (0 + dd_) p9_ ∧ S_.2.2.1 47 (0 + dd_) p9_ < 2 ^ (16 + (S0_.1 3 dd_ 2).toNat)) ∧ (pt_ = 2 ^ (S0_.1 3 dd_ 1 + S0_.1 3 dd_ 2).toNat) ∧ (l_ = rtv dd_ S0_ ((k_.toNat : Nat) : Int) ∧ sh_ = (sht (S0_.1 3 dd_ 3).toNat k_.toNat : Int)) ∧ (∀ q9_ : Nat, (q9_ : Int) < pt_ → S_.2.2.1 47 (0 + dd_) q9_ = if (q9_ : Int) < p_ then ftw (S0_.1 3 dd_ 3).toNat (S0_.2.2.2 32 0) (rtv dd_ S0_) (k_.toNat + 1) q9_ else ftw (S0_.1 3 dd_ 3).toNat (S0_.2.2.2 32 0) (rtv dd_ S0_) k_.toNat q9_) ∧ (idf dd_ S0_ S_) ∧ True) → ((10000 * (100 - k_) + 4500 - p_).toNat) < nn_ → sm_T (mt_P sc_) 1 51 (83, [some (.inr (.inr (some (1, 0)))), some (.inl pt_), some (.inl k_), some (.inl l_), some (.inl sh_), some (.inl p_)], [], S_) (fun ro9_ => ∃ u_ S1_, ro9_ = (.inl u_, S1_, 0) ∧ vq_51n dd_ F_ S0_ u_ S1_)) := by
  intro nn_
  induction nn_ with
  | zero => exact ⟨fun _ _ _ _ _ _ h_ => absurd h_ (Nat.not_lt_zero _), fun _ _ _ _ _ _ _ _ _ h_ => absurd h_ (Nat.not_lt_zero _)⟩
  | succ nn_ ih_ =>
    refine ⟨?_, ?_⟩
    · rintro pt_ k_ S_ hI_ hF_ ⟨h0_, ht_, hpt_, hv_, hD_, -⟩ hm_
      have g1_ := hg_.1
      have r1_ := hr_.1
      have e1_ : S_.1 3 dd_ 1 = S0_.1 3 dd_ 1 := hF_.1 3 dd_ 1 rfl
      have e2_ : S_.1 3 dd_ 2 = S0_.1 3 dd_ 2 := hF_.1 3 dd_ 2 rfl
      have e3_ : S_.1 3 dd_ 3 = S0_.1 3 dd_ 3 := hF_.1 3 dd_ 3 rfl
      refine sm_T_go 2 (c1 := (33, [some (.inr (.inr (some (1, 0)))), some (.inl pt_), some (.inl k_), none, none, none], [.inr (.inr (some (1, 0))), .inl k_], S_)) rfl ?_
      refine sm_T_gr rfl rfl ((hF_.2.1 1 0 1 rfl).trans hd_) ?_
      refine sm_T_cal (d1 := 0) (Q1 := vq_66 dd_ S_) rfl rfl (by decide) (vc_66 dd_ S_ hI_ (by omega)) (fun u_ Sx1_ px4_ => ?_)
      obtain ⟨rfl, vx6_, rfl, px4_⟩ := px4_
      have e36_ := px4_
      refine sm_T_br (a := 3) (z := 97) rfl (fun cx7_ => ?_) (fun cx7_ => ?_)
      · have cx7_ : vx6_ ≤ k_ := of_decide_eq_true cx7_
        refine sm_T_rv rfl ⟨_, _, rfl, rfl, hI_, hF_, ?_⟩
        refine ⟨hD_, ?_⟩
        refine ⟨fun p9_ hp9_ => ?_, fun q9_ hq9_ => ?_⟩
        · rw [e2_]; exact ht_ p9_ hp9_
        · have w9_ := hv_ q9_ (by (rw [hpt_]; exact hq9_)); rw [show k_.toNat = (S0_.1 3 dd_ 3).toNat + (S0_.1 3 dd_ 2).toNat by omega] at w9_; exact w9_
      · have cx7_ : ¬ (vx6_ ≤ k_) := of_decide_eq_false cx7_
        refine sm_T_go 1 (c1 := (43, [some (.inr (.inr (some (1, 0)))), some (.inl pt_), some (.inl k_), none, none, none], [.inr (.inr (some (1, 0)))], S_)) rfl ?_
        refine sm_T_gr rfl rfl ((hF_.2.1 1 0 1 rfl).trans hd_) ?_
        refine sm_T_go 1 (c1 := (47, [some (.inr (.inr (some (1, 0)))), some (.inl pt_), some (.inl k_), none, none, none], [.inl k_, .inr (.inr (some (3, dd_)))], S_)) rfl ?_
        refine sm_T_cal (d1 := 0) (Q1 := vq_65 k_ dd_ S_) rfl rfl (by decide) (vc_65 k_ dd_ S_ hI_ (by exact drt_fr hr_ hF_ rfl rfl rfl rfl rfl) (by omega)) (fun u_ Sx8_ px11_ => ?_)
        obtain ⟨rfl, vx13_, rfl, px11_⟩ := px11_
        have e47_ := px11_
        have rv47_ : vx13_ = rtv dd_ S0_ k_ := by (rw [e47_.1]; unfold rtv; rw [e3_, fr_arr (t := 45) (i := 0 + dd_) hF_ rfl, fr_arr (t := 46) (i := 0 + dd_) hF_ rfl])
        have n47_ : S_.1 3 dd_ 4 ≤ 1013 := (hI_.1 3 dd_ 4 rfl).2
        refine sm_T_go 3 (c1 := (53, [some (.inr (.inr (some (1, 0)))), some (.inl pt_), some (.inl k_), some (.inl vx13_), none, none], [.inr (.inr (some (1, 0))), .inl k_], S_)) rfl ?_
        refine sm_T_gr rfl rfl ((hF_.2.1 1 0 1 rfl).trans hd_) ?_
        have bx14_ : 0 ≤ S_.1 3 dd_ 3 ∧ S_.1 3 dd_ 3 ≤ 320 := hI_.1 3 dd_ 3 rfl
        refine sm_T_go 1 (c1 := (59, [some (.inr (.inr (some (1, 0)))), some (.inl pt_), some (.inl k_), some (.inl vx13_), none, none], [.inl (S_.1 3 dd_ 3), .inl k_], S_)) rfl ?_
        refine sm_T_br (a := 3) (z := 7) rfl (fun cx15_ => ?_) (fun cx15_ => ?_)
        · have cx15_ : (S_.1 3 dd_ 3) ≤ k_ := of_decide_eq_true cx15_
          refine sm_T_go 2 (c1 := (69, [some (.inr (.inr (some (1, 0)))), some (.inl pt_), some (.inl k_), some (.inl vx13_), none, none], [.inl k_, .inl 16], S_)) rfl ?_
          refine sm_T_bin (w := k_ + 16) rfl (bi_add (by omega) (by omega) (by omega)) ?_
          refine sm_T_go 1 (c1 := (71, [some (.inr (.inr (some (1, 0)))), some (.inl pt_), some (.inl k_), some (.inl vx13_), none, none], [.inr (.inr (some (1, 0))), .inl (k_ + 16)], S_)) rfl ?_
          refine sm_T_gr rfl rfl ((hF_.2.1 1 0 1 rfl).trans hd_) ?_
          refine sm_T_go 1 (c1 := (77, [some (.inr (.inr (some (1, 0)))), some (.inl pt_), some (.inl k_), some (.inl vx13_), none, none], [.inl (S_.1 3 dd_ 3), .inl (k_ + 16)], S_)) rfl ?_
          refine sm_T_bin (w := k_ - (S_.1 3 dd_ 3) + 16) rfl (bi_sub (by omega) (by omega) (by omega)) ?_
          refine sm_T_go 3 (c1 := (83, [some (.inr (.inr (some (1, 0)))), some (.inl pt_), some (.inl k_), some (.inl vx13_), some (.inl (k_ - (S_.1 3 dd_ 3) + 16)), some (.inl 0)], [], S_)) rfl ?_
          refine ih_.2 pt_ k_ vx13_ (k_ - (S_.1 3 dd_ 3) + 16) 0 S_ hI_ hF_ ⟨?_, ?_, ?_, ?_, ?_, ?_, trivial⟩ ?_
          · omega
          · exact ht_
          · exact hpt_
          · refine ⟨?_, ?_⟩
            · rw [show ((k_.toNat : Nat) : Int) = k_ by omega]; exact rv47_
            · unfold sht; split <;> omega
          · (intro q9_ hq9_; rw [if_neg (by omega)]; exact hv_ q9_ hq9_)
          · exact hD_
          · omega
        · have cx15_ : ¬ ((S_.1 3 dd_ 3) ≤ k_) := of_decide_eq_false cx15_
          refine sm_T_go 5 (c1 := (83, [some (.inr (.inr (some (1, 0)))), some (.inl pt_), some (.inl k_), some (.inl vx13_), some (.inl k_), some (.inl 0)], [], S_)) rfl ?_
          refine ih_.2 pt_ k_ vx13_ k_ 0 S_ hI_ hF_ ⟨?_, ?_, ?_, ?_, ?_, ?_, trivial⟩ ?_
          · omega
          · exact ht_
          · exact hpt_
          · refine ⟨?_, ?_⟩
            · rw [show ((k_.toNat : Nat) : Int) = k_ by omega]; exact rv47_
            · unfold sht; split <;> omega
          · (intro q9_ hq9_; rw [if_neg (by omega)]; exact hv_ q9_ hq9_)
          · exact hD_
          · omega
    · rintro pt_ k_ l_ sh_ p_ S_ hI_ hF_ ⟨h0_, ht_, hpt_, hls_, hv_, hD_, -⟩ hm_
      have g1_ := hg_.1
      have r1_ := hr_.1
      have e1_ : S_.1 3 dd_ 1 = S0_.1 3 dd_ 1 := hF_.1 3 dd_ 1 rfl
      have e2_ : S_.1 3 dd_ 2 = S0_.1 3 dd_ 2 := hF_.1 3 dd_ 2 rfl
      have e3_ : S_.1 3 dd_ 3 = S0_.1 3 dd_ 3 := hF_.1 3 dd_ 3 rfl
      refine sm_T_go 2 (c1 := (86, [some (.inr (.inr (some (1, 0)))), some (.inl pt_), some (.inl k_), some (.inl l_), some (.inl sh_), some (.inl p_)], [.inl pt_, .inl p_], S_)) rfl ?_
      refine sm_T_br (a := 3) (z := 44) rfl (fun cx1_ => ?_) (fun cx1_ => ?_)
      · have cx1_ : pt_ ≤ p_ := of_decide_eq_true cx1_
        refine sm_T_inc (a := 2) (z := 1) (v := k_) (w := k_ + 1) rfl rfl (by omega) (by omega) (by omega) ?_
        refine sm_T_go 1 (c1 := (31, [some (.inr (.inr (some (1, 0)))), some (.inl pt_), some (.inl (k_ + 1)), some (.inl l_), some (.inl sh_), some (.inl p_)], [], S_)) rfl ?_
        refine sm_T_wk [some (.inr (.inr (some (1, 0)))), some (.inl pt_), some (.inl (k_ + 1)), none, none, none] (by exact ⟨rfl, rfl, rfl, trivial⟩) ?_
        refine ih_.1 pt_ (k_ + 1) S_ hI_ hF_ ⟨?_, ?_, ?_, ?_, ?_, trivial⟩ ?_
        · omega
        · exact ht_
        · exact hpt_
        · (intro q9_ hq9_; rw [show (k_ + 1).toNat = k_.toNat + 1 by omega]; have w9_ := hv_ q9_ hq9_; rw [if_pos (by omega)] at w9_; exact w9_)
        · exact hD_
        · omega
      · have cx1_ : ¬ (pt_ ≤ p_) := of_decide_eq_false cx1_
        refine sm_T_go 1 (c1 := (90, [some (.inr (.inr (some (1, 0)))), some (.inl pt_), some (.inl k_), some (.inl l_), some (.inl sh_), some (.inl p_)], [.inr (.inr (some (1, 0)))], S_)) rfl ?_
        refine sm_T_gr rfl rfl ((hF_.2.1 1 0 1 rfl).trans hd_) ?_
        refine sm_T_go 3 (c1 := (99, [some (.inr (.inr (some (1, 0)))), some (.inl pt_), some (.inl k_), some (.inl l_), some (.inl sh_), some (.inl p_)], [.inl p_, .inr (.inr (some (47, (0 + dd_)))), .inl p_, .inr (.inr (some (47, (0 + dd_))))], S_)) rfl ?_
        refine sm_T_iald (n := 4096) rfl rfl (by omega) (by omega) ?_
        have bx2_ : 0 ≤ S_.2.2.1 47 (0 + dd_) p_.toNat ∧ S_.2.2.1 47 (0 + dd_) p_.toNat ≤ 4194303 := hI_.2 47 (0 + dd_) _
        refine sm_T_go 4 (c1 := (106, [some (.inr (.inr (some (1, 0)))), some (.inl pt_), some (.inl k_), some (.inl l_), some (.inl sh_), some (.inl p_)], [.inl 6, .inl p_, .inl l_, .inr (.inr (some (1, 0))), .inl (S_.2.2.1 47 (0 + dd_) p_.toNat), .inl p_, .inr (.inr (some (47, (0 + dd_))))], S_)) rfl ?_
        refine sm_T_bin (w := (p_ / 64)) rfl (bi_shr (k := 6) (by decide) (by omega) (by omega)) ?_
        refine sm_T_cal (d1 := 0) (Q1 := vq_48 l_ (p_ / 64) S_) rfl rfl (by decide) (vc_48 l_ (p_ / 64) S_ hI_ (by omega) (by omega)) (fun u_ Sx3_ px6_ => ?_)
        obtain ⟨rfl, vx8_, rfl, px6_⟩ := px6_
        have e107_ := px6_
        have bv9_ : l_l2i (l_3 (l_s1 vx8_ (p_ % 64)) 1) = if ltv (pvl (S0_.2.2.2 32 0)) (rtv dd_ S0_ ((k_.toNat : Nat) : Int)) p_.toNat = true then 1 else 0 := by (rw [e107_, ← hls_.1, fr_lon (t_ := 32) (i_ := 0) hF_ rfl]; exact bit_1 (by omega))
        have bt9_ := l_bit (x_ := l_s1 vx8_ (p_ % 64))
        have bs9_ := bsh (k_ := 16 + (S0_.1 3 dd_ 2).toNat) bt9_ (show 0 ≤ sh_ by omega) (by omega) (by omega)
        have or9_ := i_orp (x_ := S_.2.2.1 47 (0 + dd_) p_.toNat) (k_ := 16 + (S0_.1 3 dd_ 2).toNat) (by omega) (ht_ p_.toNat (by omega)) bs9_
        have pw9_ := pw_le (n := 16 + (S0_.1 3 dd_ 2).toNat) (m := 22) (by omega)
        refine sm_T_go 2 (c1 := (114, [some (.inr (.inr (some (1, 0)))), some (.inl pt_), some (.inl k_), some (.inl l_), some (.inl sh_), some (.inl p_)], [.inl 63, .inl p_, .inr (.inl vx8_), .inl (S_.2.2.1 47 (0 + dd_) p_.toNat), .inl p_, .inr (.inr (some (47, (0 + dd_))))], S_)) rfl ?_
        refine sm_T_bin (w := (p_ % 64)) rfl (bi_msk (k := 6) (by decide)) ?_
        refine sm_T_go 5 (c1 := (121, [some (.inr (.inr (some (1, 0)))), some (.inl pt_), some (.inl k_), some (.inl l_), some (.inl sh_), some (.inl p_)], [.inl sh_, .inl (l_l2i ((l_3 ((l_s1 vx8_ (p_ % 64))) 1))), .inl (S_.2.2.1 47 (0 + dd_) p_.toNat), .inl p_, .inr (.inr (some (47, (0 + dd_))))], S_)) rfl ?_
        refine sm_T_bin (w := (i_shl (l_l2i ((l_3 ((l_s1 vx8_ (p_ % 64))) 1))) sh_)) rfl rfl ?_
        refine sm_T_bin (w := (i_or (S_.2.2.1 47 (0 + dd_) p_.toNat) (i_shl (l_l2i ((l_3 ((l_s1 vx8_ (p_ % 64))) 1))) sh_))) rfl rfl ?_
        refine sm_T_iast (n := 4096) rfl rfl (by omega) (by omega) ?_
        have hIx9_ : gi (sm_aI S_ 47 (0 + dd_) p_.toNat (i_or (S_.2.2.1 47 (0 + dd_) p_.toNat) (i_shl (l_l2i ((l_3 ((l_s1 vx8_ (p_ % 64))) 1))) sh_))) := gi_aI hI_ (show 0 ≤ (i_or (S_.2.2.1 47 (0 + dd_) p_.toNat) (i_shl (l_l2i ((l_3 ((l_s1 vx8_ (p_ % 64))) 1))) sh_)) ∧ (i_or (S_.2.2.1 47 (0 + dd_) p_.toNat) (i_shl (l_l2i ((l_3 ((l_s1 vx8_ (p_ % 64))) 1))) sh_)) ≤ 4194303 from ⟨by omega, by omega⟩)
        have hFx10_ : ai_fr (sx_W vw_51n) S0_ (sm_aI S_ 47 (0 + dd_) p_.toNat (i_or (S_.2.2.1 47 (0 + dd_) p_.toNat) (i_shl (l_l2i ((l_3 ((l_s1 vx8_ (p_ % 64))) 1))) sh_))) := ai_fr_tr hF_ (ai_fr_aI rfl)
        have hDx11_ : idf dd_ S0_ (sm_aI S_ 47 (0 + dd_) p_.toNat (i_or (S_.2.2.1 47 (0 + dd_) p_.toNat) (i_shl (l_l2i ((l_3 ((l_s1 vx8_ (p_ % 64))) 1))) sh_))) := idf_aI hD_ (Or.inr rfl)
        refine sm_T_inc (a := 5) (z := 1) (v := p_) (w := p_ + 1) rfl rfl (by omega) (by omega) (by omega) ?_
        refine sm_T_go 1 (c1 := (83, [some (.inr (.inr (some (1, 0)))), some (.inl pt_), some (.inl k_), some (.inl l_), some (.inl sh_), some (.inl (p_ + 1))], [], sm_aI S_ 47 (0 + dd_) p_.toNat (i_or (S_.2.2.1 47 (0 + dd_) p_.toNat) (i_shl (l_l2i ((l_3 ((l_s1 vx8_ (p_ % 64))) 1))) sh_)))) rfl ?_
        refine ih_.2 pt_ k_ l_ sh_ (p_ + 1) (sm_aI S_ 47 (0 + dd_) p_.toNat (i_or (S_.2.2.1 47 (0 + dd_) p_.toNat) (i_shl (l_l2i ((l_3 ((l_s1 vx8_ (p_ % 64))) 1))) sh_))) hIx9_ hFx10_ ⟨?_, ?_, ?_, ?_, ?_, ?_, trivial⟩ ?_
        · omega
        · intro p9_ hp9_
          rw [rd_eq]
          by_cases z9_ : p9_ = p_.toNat
          · rw [if_pos z9_]; exact or9_
          · rw [if_neg z9_]; exact ht_ p9_ hp9_
        · exact hpt_
        · exact hls_
        · intro q9_ hq9_
          rw [rd_eq]
          by_cases z9_ : q9_ = p_.toNat
          · have w9_ := hv_ p_.toNat (by omega)
            rw [if_neg (by omega)] at w9_
            rw [if_pos z9_, if_pos (by omega), w9_, z9_, show sh_ = (sht (S0_.1 3 dd_ 3).toNat k_.toNat : Int) from hls_.2]
            exact ftw_or (by omega) (sht_b (r_ := 6) (by omega) (by decide) (by omega)) bv9_
          · rw [if_neg z9_]
            have w9_ := hv_ q9_ hq9_
            by_cases y9_ : (q9_ : Int) < p_
            · rw [if_pos y9_] at w9_; rw [if_pos (by omega)]; exact w9_
            · rw [if_neg y9_] at w9_; rw [if_neg (by omega)]; exact w9_
        · exact hDx11_
        · omega
set_option maxHeartbeats 1000000 in
theorem vc_51n {sc_ : Nat × (Nat → Int)} (dd_ : Nat) (F_ : Nat) (S0_ : sm_S) (hI_ : gi S0_) (hd_ : S0_.2.1 1 0 1 = some dd_) (hg_ : dgr dd_ F_ S0_) (hr_ : drt dd_ S0_) : sm_T (mt_P sc_) 1 51 (0, [some (.inr (.inr (some (1, 0)))), none, none, none, none, none], [], S0_) (fun ro9_ => ∃ u_ S1_, ro9_ = (.inl u_, S1_, 0) ∧ vq_51n dd_ F_ S0_ u_ S1_) := by
  have hF_ : ai_fr (sx_W vw_51n) S0_ S0_ := ai_fr_rf
  have hD_ : idf dd_ S0_ S0_ := idf_rf
  have g1_ := hg_.1
  have r1_ := hr_.1
  refine sm_T_go 1 (c1 := (1, [some (.inr (.inr (some (1, 0)))), none, none, none, none, none], [.inr (.inr (some (1, 0)))], S0_)) rfl ?_
  refine sm_T_gr rfl rfl ((hF_.2.1 1 0 1 rfl).trans hd_) ?_
  refine sm_T_go 2 (c1 := (8, [some (.inr (.inr (some (1, 0)))), none, none, none, none, none], [.inl 0, .inr (.inr (some (47, (0 + dd_))))], S0_)) rfl ?_
  refine sm_T_cal (d1 := 0) (Q1 := vq_2t 0 dd_ S0_) rfl rfl (by decide) (vc_2t 0 dd_ S0_ hI_ (by decide)) (fun u_ Sx1_ px4_ => ?_)
  obtain ⟨rfl, hIx2_, hFx3_, px4_⟩ := px4_
  have hFx5_ : ai_fr (sx_W vw_51n) S0_ Sx1_ := ai_fr_tr hF_ (fr_le hFx3_ rfl)
  obtain ⟨dx7_, px4_⟩ := px4_
  have hDx6_ : idf dd_ S0_ Sx1_ := idf_tr hD_ dx7_
  have e8_ := px4_
  have q1_ := hFx3_.1 3 dd_ 1 rfl
  have q2_ := hFx3_.1 3 dd_ 2 rfl
  refine sm_T_go 2 (c1 := (13, [some (.inr (.inr (some (1, 0)))), none, none, none, none, none], [.inr (.inr (some (1, 0))), .inl 1], Sx1_)) rfl ?_
  refine sm_T_gr rfl rfl ((hFx5_.2.1 1 0 1 rfl).trans hd_) ?_
  have bx8_ : 0 ≤ Sx1_.1 3 dd_ 1 ∧ Sx1_.1 3 dd_ 1 ≤ 320 := hIx2_.1 3 dd_ 1 rfl
  refine sm_T_go 2 (c1 := (20, [some (.inr (.inr (some (1, 0)))), none, none, none, none, none], [.inr (.inr (some (1, 0))), .inl (Sx1_.1 3 dd_ 1), .inl 1], Sx1_)) rfl ?_
  refine sm_T_gr rfl rfl ((hFx5_.2.1 1 0 1 rfl).trans hd_) ?_
  have bx9_ : 0 ≤ Sx1_.1 3 dd_ 2 ∧ Sx1_.1 3 dd_ 2 ≤ 100000 := hIx2_.1 3 dd_ 2 rfl
  refine sm_T_go 1 (c1 := (26, [some (.inr (.inr (some (1, 0)))), none, none, none, none, none], [.inl (Sx1_.1 3 dd_ 2), .inl (Sx1_.1 3 dd_ 1), .inl 1], Sx1_)) rfl ?_
  refine sm_T_bin (w := (Sx1_.1 3 dd_ 1) + (Sx1_.1 3 dd_ 2)) rfl (bi_add (by omega) (by omega) (by omega)) ?_
  refine sm_T_bin (w := (i_shl 1 ((Sx1_.1 3 dd_ 1) + (Sx1_.1 3 dd_ 2)))) rfl rfl ?_
  have bx10_ := i_shl1 (e := ((Sx1_.1 3 dd_ 1) + (Sx1_.1 3 dd_ 2))) (by omega) (by omega)
  have hp_ := pw_le (n := (((Sx1_.1 3 dd_ 1) + (Sx1_.1 3 dd_ 2))).toNat) (m := 12) (by omega)
  have hp0_ := pw_pos (((Sx1_.1 3 dd_ 1) + (Sx1_.1 3 dd_ 2))).toNat
  refine sm_T_go 3 (c1 := (31, [some (.inr (.inr (some (1, 0)))), some (.inl (i_shl 1 ((Sx1_.1 3 dd_ 1) + (Sx1_.1 3 dd_ 2)))), some (.inl 0), none, none, none], [], Sx1_)) rfl ?_
  refine (vl_51n dd_ F_ S0_ hd_ hg_ hr_ _).1 (i_shl 1 ((Sx1_.1 3 dd_ 1) + (Sx1_.1 3 dd_ 2))) 0 Sx1_ hIx2_ hFx5_ ⟨?_, ?_, ?_, ?_, ?_, trivial⟩ (Nat.lt_succ_self _)
  · omega
  · (intro p9_ hp9_; rw [e8_ p9_ hp9_]; exact ⟨Int.le_refl _, pw_pos _⟩)
  · first | omega | (rw [← q1_, ← q2_]; omega)
  · (intro q9_ hq9_; rw [e8_ q9_ (by omega)]; rfl)
  · exact hDx6_
end
/-! 99.ztW3 -/
section
/-! the reference: bits of tables; written by wip/p55/gen/vg -/

/-! the_ reference's tables -/
def kot (R_ rw : Nat → Int) (k_ q_ : Nat) : Int := tbv (fun j_ => ltv (pvl R_) (rw j_) q_) k_
theorem kot_or {R_ rw : Nat → Int} {k_ q_ : Nat} {kk_ b_ : Int} (hk_ : kk_ = (k_ : Int)) (h_ : k_ ≤ 21) (hb_ : b_ = if ltv (pvl R_) (rw k_) q_ = true then 1 else 0) : i_or (kot R_ rw k_ q_) (i_shl b_ kk_) = kot R_ rw (k_ + 1) q_ := by
  rw [hk_, hb_]
  exact tbv_or (f_ := fun j_ => ltv (pvl R_) (rw j_) q_) h_
def ktb (dd_ R_ o_ p_ : Nat) (S_ : sm_S) : Prop := ∀ q9_ : Nat, q9_ < p_ → S_.2.2.1 169 0 (4096 * dd_ + q9_) = kot (S_.2.2.2 171 0) (S_.2.2.1 175 0) o_ q9_ ∧ S_.2.2.1 170 0 (4096 * dd_ + q9_) = kot (S_.2.2.2 171 0) (S_.2.2.1 151 0) R_ q9_
theorem ktb_s {dd_ R_ o_ p_ : Nat} {ou_ nx_ : Int} {S_ S'_ : sm_S} (h_ : ktb dd_ R_ o_ p_ S_) (g_ : ai_fr (sx_W ([], [169, 170], [])) S_ S'_) (e1_ : ∀ j_, S'_.2.2.1 169 0 j_ = if j_ = 4096 * dd_ + p_ then ou_ else S_.2.2.1 169 0 j_) (e2_ : ∀ j_, S'_.2.2.1 170 0 j_ = if j_ = 4096 * dd_ + p_ then nx_ else S_.2.2.1 170 0 j_) (ho_ : ou_ = kot (S_.2.2.2 171 0) (S_.2.2.1 175 0) o_ p_) (hn_ : nx_ = kot (S_.2.2.2 171 0) (S_.2.2.1 151 0) R_ p_) : ktb dd_ R_ o_ (p_ + 1) S'_ := by
  intro q_ hq_
  rw [e1_, e2_, fr_lon (t_ := 171) (i_ := 0) g_ rfl, fr_arr (t := 175) (i := 0) g_ rfl, fr_arr (t := 151) (i := 0) g_ rfl]
  by_cases c_ : q_ = p_
  · rw [if_pos (by omega), if_pos (by omega), c_]
    exact ⟨ho_, hn_⟩
  · rw [if_neg (by omega), if_neg (by omega)]
    exact h_ q_ (by omega)
theorem fwl_fr {w_ : sx_Wl} {F_ N_ W_ : Nat} {mk_ : Int} {lo_ hi_ : Nat → Int} {S_ S'_ : sm_S} (h_ : fwr F_ N_ W_ mk_ lo_ hi_ (S_.2.2.2 171 0)) (g_ : ai_fr (sx_W w_) S_ S'_) (hw_ : (sx_W w_).2.1 171 = false := by rfl) : fwr F_ N_ W_ mk_ lo_ hi_ (S'_.2.2.2 171 0) := by
  rw [fr_lon (t_ := 171) (i_ := 0) g_ hw_]
  exact h_
/-- the_ reference's kept tables -/
def dgt (d_ F_ N_ o_ R_ : Nat) (S_ : sm_S) : Prop := dtw F_ N_ o_ R_ (fun k_ => S_.2.2.1 164 0 (2048 * d_ + k_)) (fun k_ => S_.2.2.1 165 0 (2048 * d_ + k_)) (fun k_ => S_.2.2.1 167 0 (16 * d_ + k_)) (fun k_ => S_.2.2.1 168 0 (6 * d_ + k_)) (fun q_ => S_.2.2.1 169 0 (4096 * d_ + q_)) (fun q_ => S_.2.2.1 170 0 (4096 * d_ + q_))
theorem dgt_fr {w_ : sx_Wl} {d_ F_ N_ o_ R_ : Nat} {S_ S'_ : sm_S} (h_ : dgt d_ F_ N_ o_ R_ S_) (g_ : ai_fr (sx_W w_) S_ S'_) (h1_ : (sx_W w_).2.1 164 = false := by rfl) (h2_ : (sx_W w_).2.1 165 = false := by rfl) (h3_ : (sx_W w_).2.1 167 = false := by rfl) (h4_ : (sx_W w_).2.1 168 = false := by rfl) (h5_ : (sx_W w_).2.1 169 = false := by rfl) (h6_ : (sx_W w_).2.1 170 = false := by rfl) : dgt d_ F_ N_ o_ R_ S'_ := by
  unfold dgt
  rw [fr_arr (t := 164) g_ h1_, fr_arr (t := 165) g_ h2_, fr_arr (t := 167) g_ h3_, fr_arr (t := 168) g_ h4_, fr_arr (t := 169) g_ h5_, fr_arr (t := 170) g_ h6_]
  exact h_
theorem dgt_of {w_ : sx_Wl} {dd_ F_ R_ n_ p_ : Nat} {I_ o_ bg_ : Int} {S0_ S_ : sm_S} (h_ : kdB dd_ F_ I_ o_ bg_ R_ n_ o_.toNat R_ p_ S_) (hf_ : fwr F_ n_ 64 (-1) (S0_.2.2.1 140 0) (S0_.2.2.1 141 0) (S_.2.2.2 171 0)) (ht_ : ktb dd_ R_ o_.toNat p_ S_) (hF_ : F_ ≤ 13) (hp_ : 2 ^ (F_ - 1) ≤ p_) (g_ : ai_fr (sx_W w_) S0_ S_) (g1_ : (sx_W w_).2.1 140 = false := by rfl) (g2_ : (sx_W w_).2.1 141 = false := by rfl) : dgt dd_ F_ n_ o_.toNat R_ S_ := by
  obtain ⟨-, -, h3_, h4_, h5_, -⟩ := h_
  rw [← fr_arr (t := 140) (i := 0) g_ g1_, ← fr_arr (t := 141) (i := 0) g_ g2_] at hf_
  have q_ : dtw F_ n_ o_.toNat R_ (S_.2.2.1 140 0) (S_.2.2.1 141 0) (S_.2.2.1 175 0) (S_.2.2.1 151 0) (fun q_ => S_.2.2.1 169 0 (4096 * dd_ + q_)) (fun q_ => S_.2.2.1 170 0 (4096 * dd_ + q_)) := ⟨2 ^ 12, pvl (S_.2.2.2 171 0), p2_le (by omega), nvr_of (bi_ := 12) hf_ wmk_r hF_, fun q9_ hq9_ => ht_ q9_ (by omega)⟩
  exact dtw_cg q_ (fun k_ hk_ => ⟨(h3_ k_ hk_).1, (h3_ k_ hk_).2.1⟩) (fun k_ hk_ => h4_ k_ hk_) (fun k_ hk_ => h5_ k_ hk_) (fun _ _ => ⟨rfl, rfl⟩)

/-! M_.bitOf -/
def vw_359n : sx_Wl := ([], [], [])
def vq_359n (l_ : Int) (p_ : Int) (S0_ : sm_S) (u_ : Option sm_V) (S1_ : sm_S) : Prop := S0_ = S1_ ∧ ∃ v_ : Int, u_ = some (.inl v_) ∧ (v_ = if ltv (pvl (S0_.2.2.2 171 0)) l_ p_.toNat = true then 1 else 0)
set_option maxHeartbeats 400000 in
theorem vc_359n {sc_ : Nat × (Nat → Int)} (l_ : Int) (p_ : Int) (S0_ : sm_S) (hI_ : gi S0_) (hl_ : 0 ≤ l_ ∧ l_ ≤ 2047) (hp_ : 0 ≤ p_ ∧ p_ ≤ 4095) : sm_T (mt_P sc_) 1 359 (0, [some (.inr (.inr (some (13, 0)))), some (.inl l_), some (.inl p_)], [], S0_) (fun ro9_ => ∃ u_ S1_, ro9_ = (.inl u_, S1_, 0) ∧ vq_359n l_ p_ S0_ u_ S1_) := by
  have hF_ : ai_fr (sx_W vw_359n) S0_ S0_ := ai_fr_rf
  refine sm_T_go 4 (c1 := (5, [some (.inr (.inr (some (13, 0)))), some (.inl l_), some (.inl p_)], [.inl 6, .inl p_, .inl l_, .inr (.inr (some (13, 0)))], S0_)) rfl ?_
  refine sm_T_bin (w := (p_ / 64)) rfl (bi_shr (k := 6) (by decide) (by omega) (by omega)) ?_
  refine sm_T_cal (d1 := 0) (Q1 := vq_351 l_ (p_ / 64) S0_) rfl rfl (by decide) (vc_351 l_ (p_ / 64) S0_ hI_ (by omega) (by omega)) (fun u_ Sx1_ px4_ => ?_)
  obtain ⟨rfl, vx6_, rfl, px4_⟩ := px4_
  have e6_ := px4_
  refine sm_T_go 2 (c1 := (12, [some (.inr (.inr (some (13, 0)))), some (.inl l_), some (.inl p_)], [.inl 63, .inl p_, .inr (.inl vx6_)], S0_)) rfl ?_
  refine sm_T_bin (w := (p_ % 64)) rfl (bi_msk (k := 6) (by decide)) ?_
  refine sm_T_go 4 (c1 := (17, [some (.inr (.inr (some (13, 0)))), some (.inl l_), some (.inl p_)], [.inl (l_l2i ((l_3 ((l_s2 vx6_ (p_ % 64))) 1)))], S0_)) rfl ?_
  refine sm_T_ri rfl ⟨_, _, rfl, rfl, _, rfl, ?_⟩
  rw [e6_]; exact bit_2 (by omega)
end
/-! 99.ztW4 -/
section
/-! depth, with its meaning; written by wip/p55/gen/vg -/

/-! depth -/
def mxi (a_ b_ : Int) : Int := if a_ ≤ b_ then b_ else a_
def mxf (f_ : Nat → Int) : Nat → Int
  | 0 => 0
  | k_ + 1 => mxi (mxf f_ k_) (f_ k_)
theorem mxf_s {f_ : Nat → Int} {k_ : Nat} : mxf f_ (k_ + 1) = mxi (mxf f_ k_) (f_ k_) := rfl
theorem mxf_cg {f_ g_ : Nat → Int} : ∀ k_ : Nat, (∀ j_, j_ < k_ → f_ j_ = g_ j_) → mxf f_ k_ = mxf g_ k_
  | 0, _ => rfl
  | k_ + 1, h_ => by rw [mxf_s, mxf_s, mxf_cg k_ (fun j_ hj_ => h_ j_ (by omega)), h_ k_ (Nat.lt_succ_self k_)]
/-- the_ depths of_ the_ nodes below n_ -/
def dpr (F_ n_ : Nat) (lo_ hi_ d_ : Nat → Int) : Prop := ∀ k_, k_ < n_ → (k_ < F_ → d_ k_ = 0) ∧ (F_ ≤ k_ → d_ k_ = 1 + mxi (d_ (lo_ k_ / 2).toNat) (d_ (hi_ k_ / 2).toNat))
theorem dpr_s {F_ n_ : Nat} {lo_ hi_ d_ e_ : Nat → Int} {v_ : Int} (h_ : dpr F_ n_ lo_ hi_ d_) (he_ : ∀ k_, e_ k_ = if k_ = n_ then v_ else d_ k_) (hg_ : ∀ k_, F_ ≤ k_ → k_ ≤ n_ → 2 ≤ lo_ k_ ∧ lo_ k_ < hi_ k_ ∧ hi_ k_ < 2 * (k_ : Int)) (h0_ : n_ < F_ → v_ = 0) (h1_ : F_ ≤ n_ → v_ = 1 + mxi (d_ (lo_ n_ / 2).toNat) (d_ (hi_ n_ / 2).toNat)) : dpr F_ (n_ + 1) lo_ hi_ e_ := by
  have low_ : ∀ k_, k_ < n_ → e_ k_ = d_ k_ := fun k_ hk_ => by rw [he_, if_neg (by omega)]
  intro k_ hk_
  by_cases c_ : k_ = n_
  · subst c_
    rw [he_ k_, if_pos rfl]
    refine ⟨h0_, fun a_ => ?_⟩
    have g_ := hg_ k_ a_ (Nat.le_refl _)
    rw [low_ _ (by omega), low_ _ (by omega)]
    exact h1_ a_
  · have q_ := h_ k_ (by omega)
    rw [low_ k_ (by omega)]
    refine ⟨q_.1, fun a_ => ?_⟩
    have g_ := hg_ k_ a_ (by omega)
    rw [low_ _ (by omega), low_ _ (by omega)]
    exact q_.2 a_
theorem dpr_u {F_ N_ : Nat} {lo_ hi_ d_ lo'_ hi'_ d'_ : Nat → Int} (hg_ : glo F_ N_ lo_ hi_) (e_ : ∀ n_, F_ ≤ n_ → n_ < N_ → lo'_ n_ = lo_ n_ ∧ hi'_ n_ = hi_ n_) (h_ : dpr F_ N_ lo_ hi_ d_) (g_ : dpr F_ N_ lo'_ hi'_ d'_) : ∀ (m_ k_ : Nat), k_ < m_ → k_ < N_ → d_ k_ = d'_ k_
  | 0, k_, hm_, _ => absurd hm_ (Nat.not_lt_zero _)
  | m_ + 1, k_, hm_, hN_ => by
    have a_ := h_ k_ hN_
    have b_ := g_ k_ hN_
    by_cases c_ : k_ < F_
    · rw [a_.1 c_, b_.1 c_]
    · have x_ := hg_ k_ (by omega) hN_
      have y_ := e_ k_ (by omega) hN_
      rw [a_.2 (by omega), b_.2 (by omega), y_.1, y_.2, dpr_u hg_ e_ h_ g_ m_ (lo_ k_ / 2).toNat (by omega) (by omega), dpr_u hg_ e_ h_ g_ m_ (hi_ k_ / 2).toNat (by omega) (by omega)]

/-! Builder.measureDepth -/
def vw_46n : sx_Wl := ([(3, 7)], [33], [])
def vq_46n (dd_ : Nat) (F_ : Nat) (S0_ : sm_S) (u_ : Option sm_V) (S1_ : sm_S) : Prop := u_ = none ∧ gi S1_ ∧ ai_fr (sx_W vw_46n) S0_ S1_ ∧ (idf dd_ S0_ S1_ ∧ (∃ d_ : Nat → Int, dpr F_ (S0_.1 3 dd_ 4).toNat (S0_.2.2.1 42 (0 + dd_)) (S0_.2.2.1 43 (0 + dd_)) d_ ∧ S1_.1 3 dd_ 7 = mxf (fun j_ => d_ (rtv dd_ S0_ (j_ : Int) / 2).toNat) (S0_.1 3 dd_ 3 + S0_.1 3 dd_ 2).toNat))
set_option maxHeartbeats 1000000 in
theorem vl_46n {sc_ : Nat × (Nat → Int)} (dd_ : Nat) (F_ : Nat) (S0_ : sm_S) (hd_ : S0_.2.1 1 0 1 = some dd_) (hg_ : dgr dd_ F_ S0_) (hr_ : drt dd_ S0_) : ∀ nn_ : Nat, (∀ (n_ : Int) (S_ : sm_S), gi S_ → ai_fr (sx_W vw_46n) S0_ S_ → ((dpr F_ n_.toNat (S0_.2.2.1 42 (0 + dd_)) (S0_.2.2.1 43 (0 + dd_)) (S_.2.2.1 33 0)) ∧ ((F_ : Int) ≤ n_ ∧ n_ ≤ S0_.1 3 dd_ 4) ∧ (∀ k9_ : Nat, (k9_ : Int) < n_ → 0 ≤ S_.2.2.1 33 0 k9_ ∧ S_.2.2.1 33 0 k9_ ≤ (if k9_ < F_ then 0 else (k9_ : Int) - F_ + 1)) ∧ (idf dd_ S0_ S_) ∧ True) → ((5000 - n_).toNat) < nn_ → sm_T (mt_P sc_) 1 46 (16, [some (.inr (.inr (some (1, 0)))), some (.inl n_)], [], S_) (fun ro9_ => ∃ u_ S1_, ro9_ = (.inl u_, S1_, 0) ∧ vq_46n dd_ F_ S0_ u_ S1_)) ∧ (∀ (k_ : Int) (S_ : sm_S), gi S_ → ai_fr (sx_W vw_46n) S0_ S_ → ((dpr F_ (S0_.1 3 dd_ 4).toNat (S0_.2.2.1 42 (0 + dd_)) (S0_.2.2.1 43 (0 + dd_)) (S_.2.2.1 33 0)) ∧ (S_.1 3 dd_ 7 = mxf (fun j_ => S_.2.2.1 33 0 (rtv dd_ S0_ (j_ : Int) / 2).toNat) k_.toNat) ∧ (0 ≤ k_ ∧ k_ ≤ S0_.1 3 dd_ 3 + S0_.1 3 dd_ 2) ∧ (∀ k9_ : Nat, (k9_ : Int) < S0_.1 3 dd_ 4 → 0 ≤ S_.2.2.1 33 0 k9_ ∧ S_.2.2.1 33 0 k9_ ≤ 1000) ∧ (idf dd_ S0_ S_) ∧ True) → ((1000 - k_).toNat) < nn_ → sm_T (mt_P sc_) 1 46 (86, [some (.inr (.inr (some (1, 0)))), some (.inl k_)], [], S_) (fun ro9_ => ∃ u_ S1_, ro9_ = (.inl u_, S1_, 0) ∧ vq_46n dd_ F_ S0_ u_ S1_)) := by
  intro nn_
  induction nn_ with
  | zero => exact ⟨fun _ _ _ _ _ h_ => absurd h_ (Nat.not_lt_zero _), fun _ _ _ _ _ h_ => absurd h_ (Nat.not_lt_zero _)⟩
  | succ nn_ ih_ =>
    refine ⟨?_, ?_⟩
    · rintro n_ S_ hI_ hF_ ⟨h2_, h0_, h1_, hD_, -⟩ hm_
      have g1_ := hg_.1
      have g2_ := hg_.2.1
      have e4_ : S_.1 3 dd_ 4 = S0_.1 3 dd_ 4 := hF_.1 3 dd_ 4 rfl
      have e3_ : S_.1 3 dd_ 3 = S0_.1 3 dd_ 3 := hF_.1 3 dd_ 3 rfl
      have e2_ : S_.1 3 dd_ 2 = S0_.1 3 dd_ 2 := hF_.1 3 dd_ 2 rfl
      have r1_ := hr_.1
      refine sm_T_go 2 (c1 := (18, [some (.inr (.inr (some (1, 0)))), some (.inl n_)], [.inr (.inr (some (1, 0))), .inl n_], S_)) rfl ?_
      refine sm_T_gr rfl rfl ((hF_.2.1 1 0 1 rfl).trans hd_) ?_
      have bx1_ : 0 ≤ S_.1 3 dd_ 4 ∧ S_.1 3 dd_ 4 ≤ 1013 := hI_.1 3 dd_ 4 rfl
      refine sm_T_go 1 (c1 := (24, [some (.inr (.inr (some (1, 0)))), some (.inl n_)], [.inl (S_.1 3 dd_ 4), .inl n_], S_)) rfl ?_
      refine sm_T_br (a := 3) (z := 52) rfl (fun cx2_ => ?_) (fun cx2_ => ?_)
      · have cx2_ : (S_.1 3 dd_ 4) ≤ n_ := of_decide_eq_true cx2_
        refine sm_T_go 1 (c1 := (77, [some (.inr (.inr (some (1, 0)))), some (.inl n_)], [.inr (.inr (some (1, 0)))], S_)) rfl ?_
        refine sm_T_gr rfl rfl ((hF_.2.1 1 0 1 rfl).trans hd_) ?_
        have hIx3_ : gi (sm_pI S_ 3 dd_ 7 0) := gi_pI hI_ (show 0 ≤ 0 ∧ 0 ≤ 1000 from ⟨by omega, by omega⟩)
        have hFx4_ : ai_fr (sx_W vw_46n) S0_ (sm_pI S_ 3 dd_ 7 0) := ai_fr_tr hF_ (ai_fr_pI rfl)
        have hDx5_ : idf dd_ S0_ (sm_pI S_ 3 dd_ 7 0) := idf_pI hD_ (Or.inr rfl)
        refine sm_T_go 4 (c1 := (86, [some (.inr (.inr (some (1, 0)))), some (.inl 0)], [], sm_pI S_ 3 dd_ 7 0)) rfl ?_
        refine ih_.2 0 (sm_pI S_ 3 dd_ 7 0) hIx3_ hFx4_ ⟨?_, ?_, ?_, ?_, ?_, trivial⟩ ?_
        · rw [show (S0_.1 3 dd_ 4).toNat = n_.toNat by omega]
          exact h2_
        · exact rf_eq
        · omega
        · intro k9_ hk9_
          show 0 ≤ S_.2.2.1 33 0 k9_ ∧ S_.2.2.1 33 0 k9_ ≤ 1000
          have w9_ := h1_ k9_ (by omega)
          refine ⟨w9_.1, ?_⟩
          have w8_ := w9_.2
          (split at w8_ <;> omega)
        · exact hDx5_
        · omega
      · have cx2_ : ¬ ((S_.1 3 dd_ 4) ≤ n_) := of_decide_eq_false cx2_
        have gn_ := hg_.2.2 n_.toNat (by omega) (by omega)
        have lo_ := h1_ (S_.2.2.1 42 (0 + dd_) n_.toNat / 2).toNat (by rw [fr_arr (t := 42) (i := 0 + dd_) hF_ rfl]; omega)
        have hi_ := h1_ (S_.2.2.1 43 (0 + dd_) n_.toNat / 2).toNat (by rw [fr_arr (t := 43) (i := 0 + dd_) hF_ rfl]; omega)
        rw [fr_arr (t := 42) (i := 0 + dd_) hF_ rfl] at lo_
        rw [fr_arr (t := 43) (i := 0 + dd_) hF_ rfl] at hi_
        have f42_ := congrFun (fr_arr (t := 42) (i := 0 + dd_) hF_ rfl) n_.toNat
        have f43_ := congrFun (fr_arr (t := 43) (i := 0 + dd_) hF_ rfl) n_.toNat
        rw [← f42_] at lo_
        rw [← f43_] at hi_
        refine sm_T_go 7 (c1 := (38, [some (.inr (.inr (some (1, 0)))), some (.inl n_)], [.inr (.inr (some (1, 0))), .inr (.inr (some (33, 0))), .inl 1, .inl n_, .inr (.inr (some (33, 0)))], S_)) rfl ?_
        refine sm_T_gr rfl rfl ((hF_.2.1 1 0 1 rfl).trans hd_) ?_
        refine sm_T_go 2 (c1 := (45, [some (.inr (.inr (some (1, 0)))), some (.inl n_)], [.inl n_, .inr (.inr (some (42, (0 + dd_)))), .inr (.inr (some (33, 0))), .inl 1, .inl n_, .inr (.inr (some (33, 0)))], S_)) rfl ?_
        refine sm_T_iald (n := 1013) rfl rfl (by omega) (by omega) ?_
        have bx6_ : 0 ≤ S_.2.2.1 42 (0 + dd_) n_.toNat ∧ S_.2.2.1 42 (0 + dd_) n_.toNat ≤ 2025 := hI_.2 42 (0 + dd_) _
        refine sm_T_go 1 (c1 := (47, [some (.inr (.inr (some (1, 0)))), some (.inl n_)], [.inl 1, .inl (S_.2.2.1 42 (0 + dd_) n_.toNat), .inr (.inr (some (33, 0))), .inl 1, .inl n_, .inr (.inr (some (33, 0)))], S_)) rfl ?_
        refine sm_T_bin (w := ((S_.2.2.1 42 (0 + dd_) n_.toNat) / 2)) rfl (bi_shr (k := 1) (by decide) (by omega) (by omega)) ?_
        refine sm_T_iald (n := 1013) rfl rfl (by omega) (by omega) ?_
        have bx7_ : 0 ≤ S_.2.2.1 33 0 ((S_.2.2.1 42 (0 + dd_) n_.toNat) / 2).toNat ∧ S_.2.2.1 33 0 ((S_.2.2.1 42 (0 + dd_) n_.toNat) / 2).toNat ≤ 1012 := hI_.2 33 0 _
        refine sm_T_go 3 (c1 := (54, [some (.inr (.inr (some (1, 0)))), some (.inl n_)], [.inr (.inr (some (1, 0))), .inr (.inr (some (33, 0))), .inl (S_.2.2.1 33 0 ((S_.2.2.1 42 (0 + dd_) n_.toNat) / 2).toNat), .inl 1, .inl n_, .inr (.inr (some (33, 0)))], S_)) rfl ?_
        refine sm_T_gr rfl rfl ((hF_.2.1 1 0 1 rfl).trans hd_) ?_
        refine sm_T_go 2 (c1 := (61, [some (.inr (.inr (some (1, 0)))), some (.inl n_)], [.inl n_, .inr (.inr (some (43, (0 + dd_)))), .inr (.inr (some (33, 0))), .inl (S_.2.2.1 33 0 ((S_.2.2.1 42 (0 + dd_) n_.toNat) / 2).toNat), .inl 1, .inl n_, .inr (.inr (some (33, 0)))], S_)) rfl ?_
        refine sm_T_iald (n := 1013) rfl rfl (by omega) (by omega) ?_
        have bx8_ : 0 ≤ S_.2.2.1 43 (0 + dd_) n_.toNat ∧ S_.2.2.1 43 (0 + dd_) n_.toNat ≤ 2025 := hI_.2 43 (0 + dd_) _
        refine sm_T_go 1 (c1 := (63, [some (.inr (.inr (some (1, 0)))), some (.inl n_)], [.inl 1, .inl (S_.2.2.1 43 (0 + dd_) n_.toNat), .inr (.inr (some (33, 0))), .inl (S_.2.2.1 33 0 ((S_.2.2.1 42 (0 + dd_) n_.toNat) / 2).toNat), .inl 1, .inl n_, .inr (.inr (some (33, 0)))], S_)) rfl ?_
        refine sm_T_bin (w := ((S_.2.2.1 43 (0 + dd_) n_.toNat) / 2)) rfl (bi_shr (k := 1) (by decide) (by omega) (by omega)) ?_
        refine sm_T_iald (n := 1013) rfl rfl (by omega) (by omega) ?_
        have bx9_ : 0 ≤ S_.2.2.1 33 0 ((S_.2.2.1 43 (0 + dd_) n_.toNat) / 2).toNat ∧ S_.2.2.1 33 0 ((S_.2.2.1 43 (0 + dd_) n_.toNat) / 2).toNat ≤ 1012 := hI_.2 33 0 _
        refine sm_T_nt (u := some (.inl (sm_mx (S_.2.2.1 33 0 ((S_.2.2.1 42 (0 + dd_) n_.toNat) / 2).toNat) (S_.2.2.1 33 0 ((S_.2.2.1 43 (0 + dd_) n_.toNat) / 2).toNat)))) (S1 := S_) rfl rfl rfl ?_
        have bx10_ := sm_mx_d (S_.2.2.1 33 0 ((S_.2.2.1 42 (0 + dd_) n_.toNat) / 2).toNat) (S_.2.2.1 33 0 ((S_.2.2.1 43 (0 + dd_) n_.toNat) / 2).toNat)
        refine sm_T_bin (w := (sm_mx (S_.2.2.1 33 0 ((S_.2.2.1 42 (0 + dd_) n_.toNat) / 2).toNat) (S_.2.2.1 33 0 ((S_.2.2.1 43 (0 + dd_) n_.toNat) / 2).toNat)) + 1) rfl (bi_add (by omega) (by omega) (by omega)) ?_
        refine sm_T_iast (n := 1013) rfl rfl (by omega) (by omega) ?_
        have hIx11_ : gi (sm_aI S_ 33 0 n_.toNat ((sm_mx (S_.2.2.1 33 0 ((S_.2.2.1 42 (0 + dd_) n_.toNat) / 2).toNat) (S_.2.2.1 33 0 ((S_.2.2.1 43 (0 + dd_) n_.toNat) / 2).toNat)) + 1)) := gi_aI hI_ (show 0 ≤ (sm_mx (S_.2.2.1 33 0 ((S_.2.2.1 42 (0 + dd_) n_.toNat) / 2).toNat) (S_.2.2.1 33 0 ((S_.2.2.1 43 (0 + dd_) n_.toNat) / 2).toNat)) + 1 ∧ (sm_mx (S_.2.2.1 33 0 ((S_.2.2.1 42 (0 + dd_) n_.toNat) / 2).toNat) (S_.2.2.1 33 0 ((S_.2.2.1 43 (0 + dd_) n_.toNat) / 2).toNat)) + 1 ≤ 1012 from ⟨by omega, by omega⟩)
        have hFx12_ : ai_fr (sx_W vw_46n) S0_ (sm_aI S_ 33 0 n_.toNat ((sm_mx (S_.2.2.1 33 0 ((S_.2.2.1 42 (0 + dd_) n_.toNat) / 2).toNat) (S_.2.2.1 33 0 ((S_.2.2.1 43 (0 + dd_) n_.toNat) / 2).toNat)) + 1)) := ai_fr_tr hF_ (ai_fr_aI rfl)
        have hDx13_ : idf dd_ S0_ (sm_aI S_ 33 0 n_.toNat ((sm_mx (S_.2.2.1 33 0 ((S_.2.2.1 42 (0 + dd_) n_.toNat) / 2).toNat) (S_.2.2.1 33 0 ((S_.2.2.1 43 (0 + dd_) n_.toNat) / 2).toNat)) + 1)) := idf_aI hD_ (Or.inl (by decide))
        refine sm_T_inc (a := 1) (z := 1) (v := n_) (w := n_ + 1) rfl rfl (by omega) (by omega) (by omega) ?_
        refine sm_T_go 1 (c1 := (16, [some (.inr (.inr (some (1, 0)))), some (.inl (n_ + 1))], [], sm_aI S_ 33 0 n_.toNat ((sm_mx (S_.2.2.1 33 0 ((S_.2.2.1 42 (0 + dd_) n_.toNat) / 2).toNat) (S_.2.2.1 33 0 ((S_.2.2.1 43 (0 + dd_) n_.toNat) / 2).toNat)) + 1))) rfl ?_
        refine ih_.1 (n_ + 1) (sm_aI S_ 33 0 n_.toNat ((sm_mx (S_.2.2.1 33 0 ((S_.2.2.1 42 (0 + dd_) n_.toNat) / 2).toNat) (S_.2.2.1 33 0 ((S_.2.2.1 43 (0 + dd_) n_.toNat) / 2).toNat)) + 1)) hIx11_ hFx12_ ⟨?_, ?_, ?_, ?_, trivial⟩ ?_
        · rw [show (n_ + 1).toNat = n_.toNat + 1 by omega]
          refine dpr_s h2_ (fun k9_ => rd_eq) (fun k9_ a9_ b9_ => hg_.2.2 k9_ a9_ (by omega)) (fun a9_ => by omega) (fun a9_ => ?_)
          rw [← f42_, ← f43_]
          unfold mxi
          (repeat' split) <;> omega
        · omega
        · intro k9_ hk9_
          rw [rd_eq]
          by_cases z9_ : k9_ = n_.toNat
          · rw [if_pos z9_]; split <;> (split at lo_ <;> split at hi_ <;> omega)
          · rw [if_neg z9_]; exact h1_ k9_ (by omega)
        · exact hDx13_
        · omega
    · rintro k_ S_ hI_ hF_ ⟨h2_, h3_, h0_, h1_, hD_, -⟩ hm_
      have g1_ := hg_.1
      have g2_ := hg_.2.1
      have e4_ : S_.1 3 dd_ 4 = S0_.1 3 dd_ 4 := hF_.1 3 dd_ 4 rfl
      have e3_ : S_.1 3 dd_ 3 = S0_.1 3 dd_ 3 := hF_.1 3 dd_ 3 rfl
      have e2_ : S_.1 3 dd_ 2 = S0_.1 3 dd_ 2 := hF_.1 3 dd_ 2 rfl
      have r1_ := hr_.1
      refine sm_T_go 2 (c1 := (88, [some (.inr (.inr (some (1, 0)))), some (.inl k_)], [.inr (.inr (some (1, 0))), .inl k_], S_)) rfl ?_
      refine sm_T_gr rfl rfl ((hF_.2.1 1 0 1 rfl).trans hd_) ?_
      refine sm_T_cal (d1 := 0) (Q1 := vq_66 dd_ S_) rfl rfl (by decide) (vc_66 dd_ S_ hI_ (by omega)) (fun u_ Sx1_ px4_ => ?_)
      obtain ⟨rfl, vx6_, rfl, px4_⟩ := px4_
      have e91_ := px4_
      refine sm_T_br (a := 3) (z := 41) rfl (fun cx7_ => ?_) (fun cx7_ => ?_)
      · have cx7_ : vx6_ ≤ k_ := of_decide_eq_true cx7_
        refine sm_T_rv rfl ⟨_, _, rfl, rfl, hI_, hF_, ?_⟩
        refine ⟨hD_, ?_⟩
        exact ⟨S_.2.2.1 33 0, h2_, by rw [h3_, show k_.toNat = (S0_.1 3 dd_ 3 + S0_.1 3 dd_ 2).toNat by omega]⟩
      · have cx7_ : ¬ (vx6_ ≤ k_) := of_decide_eq_false cx7_
        refine sm_T_go 1 (c1 := (98, [some (.inr (.inr (some (1, 0)))), some (.inl k_)], [.inr (.inr (some (1, 0)))], S_)) rfl ?_
        refine sm_T_gr rfl rfl ((hF_.2.1 1 0 1 rfl).trans hd_) ?_
        refine sm_T_go 1 (c1 := (102, [some (.inr (.inr (some (1, 0)))), some (.inl k_)], [.inr (.inr (some (1, 0))), .inr (.inr (some (3, dd_)))], S_)) rfl ?_
        refine sm_T_gr rfl rfl ((hF_.2.1 1 0 1 rfl).trans hd_) ?_
        have bx8_ : 0 ≤ S_.1 3 dd_ 7 ∧ S_.1 3 dd_ 7 ≤ 1000 := hI_.1 3 dd_ 7 rfl
        refine sm_T_go 4 (c1 := (113, [some (.inr (.inr (some (1, 0)))), some (.inl k_)], [.inr (.inr (some (1, 0))), .inr (.inr (some (33, 0))), .inl (S_.1 3 dd_ 7), .inr (.inr (some (3, dd_)))], S_)) rfl ?_
        refine sm_T_gr rfl rfl ((hF_.2.1 1 0 1 rfl).trans hd_) ?_
        refine sm_T_go 1 (c1 := (117, [some (.inr (.inr (some (1, 0)))), some (.inl k_)], [.inl k_, .inr (.inr (some (3, dd_))), .inr (.inr (some (33, 0))), .inl (S_.1 3 dd_ 7), .inr (.inr (some (3, dd_)))], S_)) rfl ?_
        refine sm_T_cal (d1 := 0) (Q1 := vq_65 k_ dd_ S_) rfl rfl (by decide) (vc_65 k_ dd_ S_ hI_ (by exact drt_fr hr_ hF_ rfl rfl rfl rfl rfl) (by omega)) (fun u_ Sx9_ px12_ => ?_)
        obtain ⟨rfl, vx14_, rfl, px12_⟩ := px12_
        have e117_ := px12_
        have rv117_ : vx14_ = rtv dd_ S0_ k_ := by (rw [e117_.1]; unfold rtv; rw [e3_, fr_arr (t := 45) (i := 0 + dd_) hF_ rfl, fr_arr (t := 46) (i := 0 + dd_) hF_ rfl])
        have w9_ := h1_ (vx14_ / 2).toNat (by omega)
        refine sm_T_go 1 (c1 := (121, [some (.inr (.inr (some (1, 0)))), some (.inl k_)], [.inl 1, .inl vx14_, .inr (.inr (some (33, 0))), .inl (S_.1 3 dd_ 7), .inr (.inr (some (3, dd_)))], S_)) rfl ?_
        refine sm_T_bin (w := (vx14_ / 2)) rfl (bi_shr (k := 1) (by decide) (by omega) (by omega)) ?_
        refine sm_T_iald (n := 1013) rfl rfl (by omega) (by omega) ?_
        have bx15_ : 0 ≤ S_.2.2.1 33 0 (vx14_ / 2).toNat ∧ S_.2.2.1 33 0 (vx14_ / 2).toNat ≤ 1012 := hI_.2 33 0 _
        refine sm_T_nt (u := some (.inl (sm_mx (S_.1 3 dd_ 7) (S_.2.2.1 33 0 (vx14_ / 2).toNat)))) (S1 := S_) rfl rfl rfl ?_
        have bx16_ := sm_mx_d (S_.1 3 dd_ 7) (S_.2.2.1 33 0 (vx14_ / 2).toNat)
        have hIx17_ : gi (sm_pI S_ 3 dd_ 7 (sm_mx (S_.1 3 dd_ 7) (S_.2.2.1 33 0 (vx14_ / 2).toNat))) := gi_pI hI_ (show 0 ≤ (sm_mx (S_.1 3 dd_ 7) (S_.2.2.1 33 0 (vx14_ / 2).toNat)) ∧ (sm_mx (S_.1 3 dd_ 7) (S_.2.2.1 33 0 (vx14_ / 2).toNat)) ≤ 1000 from ⟨by omega, by omega⟩)
        have hFx18_ : ai_fr (sx_W vw_46n) S0_ (sm_pI S_ 3 dd_ 7 (sm_mx (S_.1 3 dd_ 7) (S_.2.2.1 33 0 (vx14_ / 2).toNat))) := ai_fr_tr hF_ (ai_fr_pI rfl)
        have hDx19_ : idf dd_ S0_ (sm_pI S_ 3 dd_ 7 (sm_mx (S_.1 3 dd_ 7) (S_.2.2.1 33 0 (vx14_ / 2).toNat))) := idf_pI hD_ (Or.inr rfl)
        refine sm_T_go 1 (c1 := (129, [some (.inr (.inr (some (1, 0)))), some (.inl k_)], [], sm_pI S_ 3 dd_ 7 (sm_mx (S_.1 3 dd_ 7) (S_.2.2.1 33 0 (vx14_ / 2).toNat)))) rfl ?_
        refine sm_T_inc (a := 1) (z := 1) (v := k_) (w := k_ + 1) rfl rfl (by omega) (by omega) (by omega) ?_
        refine sm_T_go 1 (c1 := (86, [some (.inr (.inr (some (1, 0)))), some (.inl (k_ + 1))], [], sm_pI S_ 3 dd_ 7 (sm_mx (S_.1 3 dd_ 7) (S_.2.2.1 33 0 (vx14_ / 2).toNat)))) rfl ?_
        refine ih_.2 (k_ + 1) (sm_pI S_ 3 dd_ 7 (sm_mx (S_.1 3 dd_ 7) (S_.2.2.1 33 0 (vx14_ / 2).toNat))) hIx17_ hFx18_ ⟨?_, ?_, ?_, ?_, ?_, trivial⟩ ?_
        · exact h2_
        · rw [show (k_ + 1).toNat = k_.toNat + 1 by omega]
          refine rf_eq.trans ?_
          show _ = mxi (mxf (fun j_ => S_.2.2.1 33 0 (rtv dd_ S0_ (j_ : Int) / 2).toNat) k_.toNat) (S_.2.2.1 33 0 (rtv dd_ S0_ ((k_.toNat : Nat) : Int) / 2).toNat)
          rw [← h3_, show ((k_.toNat : Nat) : Int) = k_ by omega, ← rv117_]
          unfold mxi
          (repeat' split) <;> omega
        · omega
        · exact h1_
        · exact hDx19_
        · omega
set_option maxHeartbeats 1000000 in
theorem vc_46n {sc_ : Nat × (Nat → Int)} (dd_ : Nat) (F_ : Nat) (S0_ : sm_S) (hI_ : gi S0_) (hd_ : S0_.2.1 1 0 1 = some dd_) (hg_ : dgr dd_ F_ S0_) (hr_ : drt dd_ S0_) : sm_T (mt_P sc_) 1 46 (0, [some (.inr (.inr (some (1, 0)))), none], [], S0_) (fun ro9_ => ∃ u_ S1_, ro9_ = (.inl u_, S1_, 0) ∧ vq_46n dd_ F_ S0_ u_ S1_) := by
  have hF_ : ai_fr (sx_W vw_46n) S0_ S0_ := ai_fr_rf
  have hD_ : idf dd_ S0_ S0_ := idf_rf
  refine sm_T_go 3 (c1 := (5, [some (.inr (.inr (some (1, 0)))), none], [.inl 0, .inr (.inr (some (33, 0)))], S0_)) rfl ?_
  refine sm_T_cal (d1 := 0) (Q1 := vq_2s 0 S0_) rfl rfl (by decide) (vc_2s 0 S0_ hI_ (by decide)) (fun u_ Sx1_ px4_ => ?_)
  obtain ⟨rfl, hIx2_, hFx3_, px4_⟩ := px4_
  have hFx5_ : ai_fr (sx_W vw_46n) S0_ Sx1_ := ai_fr_tr hF_ (fr_le hFx3_ rfl)
  have hDx6_ : idf dd_ S0_ Sx1_ := idf_tr hD_ (idf_fr hFx3_ (by decide) (by decide))
  have e5_ := px4_
  refine sm_T_go 1 (c1 := (9, [some (.inr (.inr (some (1, 0)))), none], [.inr (.inr (some (1, 0)))], Sx1_)) rfl ?_
  refine sm_T_gr rfl rfl ((hFx5_.2.1 1 0 1 rfl).trans hd_) ?_
  refine sm_T_cal (d1 := 0) (Q1 := vq_63 dd_ Sx1_) rfl rfl (by decide) (vc_63 dd_ Sx1_ hIx2_ (by (have g1_ := hg_.1); rw [hFx5_.1 3 dd_ 1 rfl, hFx5_.1 3 dd_ 2 rfl]; omega)) (fun u_ Sx7_ px10_ => ?_)
  obtain ⟨rfl, vx12_, rfl, px10_⟩ := px10_
  have e12 := px10_
  refine sm_T_go 1 (c1 := (16, [some (.inr (.inr (some (1, 0)))), some (.inl vx12_)], [], Sx1_)) rfl ?_
  refine (vl_46n dd_ F_ S0_ hd_ hg_ hr_ _).1 vx12_ Sx1_ hIx2_ hFx5_ ⟨?_, ?_, ?_, ?_, trivial⟩ (Nat.lt_succ_self _)
  · intro k9_ hk9_
    have g1_ := hg_.1
    have q1_ := hFx5_.1 3 dd_ 1 rfl
    have q2_ := hFx5_.1 3 dd_ 2 rfl
    refine ⟨fun _ => e5_ k9_ (by omega), fun z9_ => ?_⟩
    exfalso
    omega
  · have g1_ := hg_.1
    have g2_ := hg_.2.1
    have q1_ := hFx5_.1 3 dd_ 1 rfl
    have q2_ := hFx5_.1 3 dd_ 2 rfl
    omega
  · intro k9_ hk9_
    have g1_ := hg_.1
    have q1_ := hFx5_.1 3 dd_ 1 rfl
    have q2_ := hFx5_.1 3 dd_ 2 rfl
    rw [e5_ k9_ (by omega)]
    split <;> omega
  · exact hDx6_
/-! M_.greatestDepth -/
def vw_358n : sx_Wl := ([], [174], [])
def vq_358n (o_ : Int) (F_ : Nat) (S0_ : sm_S) (u_ : Option sm_V) (S1_ : sm_S) : Prop := ∃ v_ : Int, u_ = some (.inl v_) ∧ gi S1_ ∧ ai_fr (sx_W vw_358n) S0_ S1_ ∧ ((0 ≤ v_ ∧ v_ ≤ 1000) ∧ ∃ d_ : Nat → Int, dpr F_ (S0_.1 13 0 37).toNat (S0_.2.2.1 140 0) (S0_.2.2.1 141 0) d_ ∧ v_ = mxf (fun j_ => d_ ((if (j_ : Int) < o_ then S0_.2.2.1 175 0 j_ else S0_.2.2.1 151 0 (j_ - o_.toNat)) / 2).toNat) (o_ + S0_.1 13 0 53).toNat)
set_option maxHeartbeats 2000000 in
set_option maxRecDepth 20000 in
theorem vl_358n {sc_ : Nat × (Nat → Int)} (o_ : Int) (F_ : Nat) (S0_ : sm_S) (hg_ : rgr F_ S0_) (hr_ : rrt o_ S0_) : ∀ nn_ : Nat, (∀ (n_ : Int) (S_ : sm_S), gi S_ → ai_fr (sx_W vw_358n) S0_ S_ → ((dpr F_ n_.toNat (S0_.2.2.1 140 0) (S0_.2.2.1 141 0) (S_.2.2.1 174 0)) ∧ (0 ≤ n_ ∧ n_ ≤ S0_.1 13 0 37) ∧ (∀ k9_ : Nat, (k9_ : Int) < n_ → 0 ≤ S_.2.2.1 174 0 k9_ ∧ S_.2.2.1 174 0 k9_ ≤ (if k9_ < F_ then 0 else (k9_ : Int) - F_ + 1)) ∧ True) → ((5000 - n_).toNat) < nn_ → sm_T (mt_P sc_) 0 358 (2, [some (.inr (.inr (some (13, 0)))), some (.inl o_), some (.inl n_), none, none], [], S_) (fun ro9_ => ∃ u_ S1_, ro9_ = (.inl u_, S1_, 0) ∧ vq_358n o_ F_ S0_ u_ S1_)) ∧ (∀ (md_ : Int) (k_ : Int) (S_ : sm_S), gi S_ → ai_fr (sx_W vw_358n) S0_ S_ → ((dpr F_ (S0_.1 13 0 37).toNat (S0_.2.2.1 140 0) (S0_.2.2.1 141 0) (S_.2.2.1 174 0)) ∧ (md_ = mxf (fun j_ => S_.2.2.1 174 0 ((if (j_ : Int) < o_ then S0_.2.2.1 175 0 j_ else S0_.2.2.1 151 0 (j_ - o_.toNat)) / 2).toNat) k_.toNat ∧ k_ ≤ o_) ∧ (0 ≤ k_ ∧ k_ ≤ 16 ∧ 0 ≤ md_ ∧ md_ ≤ 1000) ∧ (∀ k9_ : Nat, (k9_ : Int) < S0_.1 13 0 37 → 0 ≤ S_.2.2.1 174 0 k9_ ∧ S_.2.2.1 174 0 k9_ ≤ 1000) ∧ True) → ((2000 - k_).toNat) < nn_ → sm_T (mt_P sc_) 0 358 (105, [some (.inr (.inr (some (13, 0)))), some (.inl o_), some (.inl md_), some (.inl k_), none], [], S_) (fun ro9_ => ∃ u_ S1_, ro9_ = (.inl u_, S1_, 0) ∧ vq_358n o_ F_ S0_ u_ S1_)) ∧ (∀ (md_ : Int) (k_ : Int) (S_ : sm_S), gi S_ → ai_fr (sx_W vw_358n) S0_ S_ → ((dpr F_ (S0_.1 13 0 37).toNat (S0_.2.2.1 140 0) (S0_.2.2.1 141 0) (S_.2.2.1 174 0)) ∧ (md_ = mxf (fun j_ => S_.2.2.1 174 0 ((if (j_ : Int) < o_ then S0_.2.2.1 175 0 j_ else S0_.2.2.1 151 0 (j_ - o_.toNat)) / 2).toNat) (o_ + k_).toNat ∧ k_ ≤ S0_.1 13 0 53) ∧ (0 ≤ k_ ∧ 0 ≤ md_ ∧ md_ ≤ 1000) ∧ (∀ k9_ : Nat, (k9_ : Int) < S0_.1 13 0 37 → 0 ≤ S_.2.2.1 174 0 k9_ ∧ S_.2.2.1 174 0 k9_ ≤ 1000) ∧ True) → ((1000 - k_).toNat) < nn_ → sm_T (mt_P sc_) 0 358 (153, [some (.inr (.inr (some (13, 0)))), some (.inl o_), some (.inl md_), some (.inl k_), none], [], S_) (fun ro9_ => ∃ u_ S1_, ro9_ = (.inl u_, S1_, 0) ∧ vq_358n o_ F_ S0_ u_ S1_)) := by
  intro nn_
  induction nn_ with
  | zero => exact ⟨fun _ _ _ _ _ h_ => absurd h_ (Nat.not_lt_zero _), fun _ _ _ _ _ _ h_ => absurd h_ (Nat.not_lt_zero _), fun _ _ _ _ _ _ h_ => absurd h_ (Nat.not_lt_zero _)⟩
  | succ nn_ ih_ =>
    refine ⟨?_, ?_, ?_⟩
    · rintro n_ S_ hI_ hF_ ⟨h2_, h0_, h1_, -⟩ hm_
      have g1_ := hg_.1
      have g2_ := hg_.2.1
      have e37_ : S_.1 13 0 37 = S0_.1 13 0 37 := hF_.1 13 0 37 rfl
      have e38_ : S_.1 13 0 38 = S0_.1 13 0 38 := hF_.1 13 0 38 rfl
      have e53_ : S_.1 13 0 53 = S0_.1 13 0 53 := hF_.1 13 0 53 rfl
      have f40_ : S_.2.2.1 140 0 = S0_.2.2.1 140 0 := fr_arr hF_ rfl
      have f41_ : S_.2.2.1 141 0 = S0_.2.2.1 141 0 := fr_arr hF_ rfl
      have r1_ := hr_.1
      have r2_ := hr_.2.1
      have f75_ : S_.2.2.1 175 0 = S0_.2.2.1 175 0 := fr_arr hF_ rfl
      have f51_ : S_.2.2.1 151 0 = S0_.2.2.1 151 0 := fr_arr hF_ rfl
      have bx1_ : 0 ≤ S_.1 13 0 37 ∧ S_.1 13 0 37 ≤ 1014 := hI_.1 13 0 37 rfl
      refine sm_T_go 3 (c1 := (7, [some (.inr (.inr (some (13, 0)))), some (.inl o_), some (.inl n_), none, none], [.inl (S_.1 13 0 37), .inl n_], S_)) rfl ?_
      refine sm_T_br (a := 3) (z := 94) rfl (fun cx2_ => ?_) (fun cx2_ => ?_)
      · have cx2_ : (S_.1 13 0 37) ≤ n_ := of_decide_eq_true cx2_
        refine sm_T_go 4 (c1 := (105, [some (.inr (.inr (some (13, 0)))), some (.inl o_), some (.inl 0), some (.inl 0), none], [], S_)) rfl ?_
        refine ih_.2.1 0 0 S_ hI_ hF_ ⟨?_, ?_, ?_, ?_, trivial⟩ ?_
        · rw [show (S0_.1 13 0 37).toNat = n_.toNat by omega]
          exact h2_
        · exact ⟨rfl, by omega⟩
        · omega
        · intro k9_ hk9_
          have w9_ := h1_ k9_ (by omega)
          refine ⟨w9_.1, ?_⟩
          have w8_ := w9_.2
          split at w8_ <;> omega
        · omega
      · have cx2_ : ¬ ((S_.1 13 0 37) ≤ n_) := of_decide_eq_false cx2_
        have bx3_ : 0 ≤ S_.1 13 0 38 ∧ S_.1 13 0 38 ≤ 19 := hI_.1 13 0 38 rfl
        refine sm_T_go 3 (c1 := (15, [some (.inr (.inr (some (13, 0)))), some (.inl o_), some (.inl n_), none, none], [.inl (S_.1 13 0 38), .inl n_], S_)) rfl ?_
        refine sm_T_br (a := 3) (z := 7) rfl (fun cx4_ => ?_) (fun cx4_ => ?_)
        · have cx4_ : (S_.1 13 0 38) ≤ n_ := of_decide_eq_true cx4_
          have gn_ := hg_.2.2 n_.toNat (by omega) (by omega)
          rw [← f40_, ← f41_] at gn_
          have lo_ := h1_ (S_.2.2.1 140 0 n_.toNat / 2).toNat (by omega)
          have hi_ := h1_ (S_.2.2.1 141 0 n_.toNat / 2).toNat (by omega)
          refine sm_T_go 5 (c1 := (31, [some (.inr (.inr (some (13, 0)))), some (.inl o_), some (.inl n_), none, none], [.inl n_, .inr (.inr (some (140, 0))), .inr (.inr (some (174, 0)))], S_)) rfl ?_
          refine sm_T_iald (n := 2048) rfl rfl (by omega) (by omega) ?_
          have bx5_ : 0 ≤ S_.2.2.1 140 0 n_.toNat ∧ S_.2.2.1 140 0 n_.toNat ≤ 2047 := hI_.2 140 0 _
          refine sm_T_go 1 (c1 := (33, [some (.inr (.inr (some (13, 0)))), some (.inl o_), some (.inl n_), none, none], [.inl 1, .inl (S_.2.2.1 140 0 n_.toNat), .inr (.inr (some (174, 0)))], S_)) rfl ?_
          refine sm_T_bin (w := ((S_.2.2.1 140 0 n_.toNat) / 2)) rfl (bi_shr (k := 1) (by decide) (by omega) (by omega)) ?_
          refine sm_T_iald (n := 2048) rfl rfl (by omega) (by omega) ?_
          have bx6_ : 0 ≤ S_.2.2.1 174 0 ((S_.2.2.1 140 0 n_.toNat) / 2).toNat ∧ S_.2.2.1 174 0 ((S_.2.2.1 140 0 n_.toNat) / 2).toNat ≤ 1000 := hI_.2 174 0 _
          refine sm_T_go 4 (c1 := (41, [some (.inr (.inr (some (13, 0)))), some (.inl o_), some (.inl n_), some (.inl (S_.2.2.1 174 0 ((S_.2.2.1 140 0 n_.toNat) / 2).toNat)), none], [.inl (S_.1 13 0 38), .inl n_], S_)) rfl ?_
          refine sm_T_br (a := 3) (z := 7) rfl (fun cx7_ => ?_) (fun cx7_ => ?_)
          · have cx7_ : (S_.1 13 0 38) ≤ n_ := of_decide_eq_true cx7_
            refine sm_T_go 5 (c1 := (57, [some (.inr (.inr (some (13, 0)))), some (.inl o_), some (.inl n_), some (.inl (S_.2.2.1 174 0 ((S_.2.2.1 140 0 n_.toNat) / 2).toNat)), none], [.inl n_, .inr (.inr (some (141, 0))), .inr (.inr (some (174, 0)))], S_)) rfl ?_
            refine sm_T_iald (n := 2048) rfl rfl (by omega) (by omega) ?_
            have bx8_ : 0 ≤ S_.2.2.1 141 0 n_.toNat ∧ S_.2.2.1 141 0 n_.toNat ≤ 2047 := hI_.2 141 0 _
            refine sm_T_go 1 (c1 := (59, [some (.inr (.inr (some (13, 0)))), some (.inl o_), some (.inl n_), some (.inl (S_.2.2.1 174 0 ((S_.2.2.1 140 0 n_.toNat) / 2).toNat)), none], [.inl 1, .inl (S_.2.2.1 141 0 n_.toNat), .inr (.inr (some (174, 0)))], S_)) rfl ?_
            refine sm_T_bin (w := ((S_.2.2.1 141 0 n_.toNat) / 2)) rfl (bi_shr (k := 1) (by decide) (by omega) (by omega)) ?_
            refine sm_T_iald (n := 2048) rfl rfl (by omega) (by omega) ?_
            have bx9_ : 0 ≤ S_.2.2.1 174 0 ((S_.2.2.1 141 0 n_.toNat) / 2).toNat ∧ S_.2.2.1 174 0 ((S_.2.2.1 141 0 n_.toNat) / 2).toNat ≤ 1000 := hI_.2 174 0 _
            refine sm_T_go 7 (c1 := (73, [some (.inr (.inr (some (13, 0)))), some (.inl o_), some (.inl n_), some (.inl (S_.2.2.1 174 0 ((S_.2.2.1 140 0 n_.toNat) / 2).toNat)), some (.inl (S_.2.2.1 174 0 ((S_.2.2.1 141 0 n_.toNat) / 2).toNat))], [.inl (S_.1 13 0 38), .inl n_, .inl n_, .inr (.inr (some (174, 0)))], S_)) rfl ?_
            refine sm_T_br (a := 3) (z := 7) rfl (fun cx10_ => ?_) (fun cx10_ => ?_)
            · have cx10_ : (S_.1 13 0 38) ≤ n_ := of_decide_eq_true cx10_
              refine sm_T_go 3 (c1 := (84, [some (.inr (.inr (some (13, 0)))), some (.inl o_), some (.inl n_), some (.inl (S_.2.2.1 174 0 ((S_.2.2.1 140 0 n_.toNat) / 2).toNat)), some (.inl (S_.2.2.1 174 0 ((S_.2.2.1 141 0 n_.toNat) / 2).toNat))], [.inl (S_.2.2.1 174 0 ((S_.2.2.1 141 0 n_.toNat) / 2).toNat), .inl (S_.2.2.1 174 0 ((S_.2.2.1 140 0 n_.toNat) / 2).toNat), .inl 1, .inl n_, .inr (.inr (some (174, 0)))], S_)) rfl ?_
              refine sm_T_br (a := 5) (z := 7) rfl (fun cx11_ => ?_) (fun cx11_ => ?_)
              · have cx11_ : (S_.2.2.1 174 0 ((S_.2.2.1 140 0 n_.toNat) / 2).toNat) ≤ (S_.2.2.1 174 0 ((S_.2.2.1 141 0 n_.toNat) / 2).toNat) := of_decide_eq_true cx11_
                refine sm_T_go 1 (c1 := (93, [some (.inr (.inr (some (13, 0)))), some (.inl o_), some (.inl n_), some (.inl (S_.2.2.1 174 0 ((S_.2.2.1 140 0 n_.toNat) / 2).toNat)), some (.inl (S_.2.2.1 174 0 ((S_.2.2.1 141 0 n_.toNat) / 2).toNat))], [.inl (S_.2.2.1 174 0 ((S_.2.2.1 141 0 n_.toNat) / 2).toNat), .inl 1, .inl n_, .inr (.inr (some (174, 0)))], S_)) rfl ?_
                refine sm_T_bin (w := (S_.2.2.1 174 0 ((S_.2.2.1 141 0 n_.toNat) / 2).toNat) + 1) rfl (bi_add (by omega) (by omega) (by omega)) ?_
                refine sm_T_iast (n := 2048) rfl rfl (by omega) (by omega) ?_
                have hIx12_ : gi (sm_aI S_ 174 0 n_.toNat ((S_.2.2.1 174 0 ((S_.2.2.1 141 0 n_.toNat) / 2).toNat) + 1)) := gi_aI hI_ (show 0 ≤ (S_.2.2.1 174 0 ((S_.2.2.1 141 0 n_.toNat) / 2).toNat) + 1 ∧ (S_.2.2.1 174 0 ((S_.2.2.1 141 0 n_.toNat) / 2).toNat) + 1 ≤ 1000 from ⟨by omega, by omega⟩)
                have hFx13_ : ai_fr (sx_W vw_358n) S0_ (sm_aI S_ 174 0 n_.toNat ((S_.2.2.1 174 0 ((S_.2.2.1 141 0 n_.toNat) / 2).toNat) + 1)) := ai_fr_tr hF_ (ai_fr_aI rfl)
                refine sm_T_inc (a := 2) (z := 1) (v := n_) (w := n_ + 1) rfl rfl (by omega) (by omega) (by omega) ?_
                refine sm_T_go 1 (c1 := (2, [some (.inr (.inr (some (13, 0)))), some (.inl o_), some (.inl (n_ + 1)), some (.inl (S_.2.2.1 174 0 ((S_.2.2.1 140 0 n_.toNat) / 2).toNat)), some (.inl (S_.2.2.1 174 0 ((S_.2.2.1 141 0 n_.toNat) / 2).toNat))], [], sm_aI S_ 174 0 n_.toNat ((S_.2.2.1 174 0 ((S_.2.2.1 141 0 n_.toNat) / 2).toNat) + 1))) rfl ?_
                refine sm_T_wk [some (.inr (.inr (some (13, 0)))), some (.inl o_), some (.inl (n_ + 1)), none, none] (by exact ⟨rfl, rfl, rfl, trivial⟩) ?_
                refine ih_.1 (n_ + 1) (sm_aI S_ 174 0 n_.toNat ((S_.2.2.1 174 0 ((S_.2.2.1 141 0 n_.toNat) / 2).toNat) + 1)) hIx12_ hFx13_ ⟨?_, ?_, ?_, trivial⟩ ?_
                · rw [show (n_ + 1).toNat = n_.toNat + 1 by omega]
                  refine dpr_s h2_ (fun k9_ => rd_eq) (fun k9_ a9_ b9_ => hg_.2.2 k9_ a9_ (by omega)) (fun a9_ => by first | omega | (exfalso; omega)) (fun a9_ => ?_)
                  first | (exfalso; omega) | (rw [← f40_, ← f41_]; (unfold mxi; (repeat' split) <;> omega))
                · omega
                · intro k9_ hk9_
                  rw [rd_eq]
                  by_cases z9_ : k9_ = n_.toNat
                  · rw [if_pos z9_]; first | (have lt9_ : n_ < (F_ : Int) := (by omega); rw [if_pos (by omega)]; omega) | (have ge9_ : (F_ : Int) ≤ n_ := (by omega); rw [if_neg (by omega)]; split at lo_ <;> split at hi_ <;> omega)
                  · rw [if_neg z9_]; exact h1_ k9_ (by omega)
                · omega
              · have cx11_ : ¬ ((S_.2.2.1 174 0 ((S_.2.2.1 140 0 n_.toNat) / 2).toNat) ≤ (S_.2.2.1 174 0 ((S_.2.2.1 141 0 n_.toNat) / 2).toNat)) := of_decide_eq_false cx11_
                refine sm_T_go 2 (c1 := (93, [some (.inr (.inr (some (13, 0)))), some (.inl o_), some (.inl n_), some (.inl (S_.2.2.1 174 0 ((S_.2.2.1 140 0 n_.toNat) / 2).toNat)), some (.inl (S_.2.2.1 174 0 ((S_.2.2.1 141 0 n_.toNat) / 2).toNat))], [.inl (S_.2.2.1 174 0 ((S_.2.2.1 140 0 n_.toNat) / 2).toNat), .inl 1, .inl n_, .inr (.inr (some (174, 0)))], S_)) rfl ?_
                refine sm_T_bin (w := (S_.2.2.1 174 0 ((S_.2.2.1 140 0 n_.toNat) / 2).toNat) + 1) rfl (bi_add (by omega) (by omega) (by omega)) ?_
                refine sm_T_iast (n := 2048) rfl rfl (by omega) (by omega) ?_
                have hIx14_ : gi (sm_aI S_ 174 0 n_.toNat ((S_.2.2.1 174 0 ((S_.2.2.1 140 0 n_.toNat) / 2).toNat) + 1)) := gi_aI hI_ (show 0 ≤ (S_.2.2.1 174 0 ((S_.2.2.1 140 0 n_.toNat) / 2).toNat) + 1 ∧ (S_.2.2.1 174 0 ((S_.2.2.1 140 0 n_.toNat) / 2).toNat) + 1 ≤ 1000 from ⟨by omega, by omega⟩)
                have hFx15_ : ai_fr (sx_W vw_358n) S0_ (sm_aI S_ 174 0 n_.toNat ((S_.2.2.1 174 0 ((S_.2.2.1 140 0 n_.toNat) / 2).toNat) + 1)) := ai_fr_tr hF_ (ai_fr_aI rfl)
                refine sm_T_inc (a := 2) (z := 1) (v := n_) (w := n_ + 1) rfl rfl (by omega) (by omega) (by omega) ?_
                refine sm_T_go 1 (c1 := (2, [some (.inr (.inr (some (13, 0)))), some (.inl o_), some (.inl (n_ + 1)), some (.inl (S_.2.2.1 174 0 ((S_.2.2.1 140 0 n_.toNat) / 2).toNat)), some (.inl (S_.2.2.1 174 0 ((S_.2.2.1 141 0 n_.toNat) / 2).toNat))], [], sm_aI S_ 174 0 n_.toNat ((S_.2.2.1 174 0 ((S_.2.2.1 140 0 n_.toNat) / 2).toNat) + 1))) rfl ?_
                refine sm_T_wk [some (.inr (.inr (some (13, 0)))), some (.inl o_), some (.inl (n_ + 1)), none, none] (by exact ⟨rfl, rfl, rfl, trivial⟩) ?_
                refine ih_.1 (n_ + 1) (sm_aI S_ 174 0 n_.toNat ((S_.2.2.1 174 0 ((S_.2.2.1 140 0 n_.toNat) / 2).toNat) + 1)) hIx14_ hFx15_ ⟨?_, ?_, ?_, trivial⟩ ?_
                · rw [show (n_ + 1).toNat = n_.toNat + 1 by omega]
                  refine dpr_s h2_ (fun k9_ => rd_eq) (fun k9_ a9_ b9_ => hg_.2.2 k9_ a9_ (by omega)) (fun a9_ => by first | omega | (exfalso; omega)) (fun a9_ => ?_)
                  first | (exfalso; omega) | (rw [← f40_, ← f41_]; (unfold mxi; (repeat' split) <;> omega))
                · omega
                · intro k9_ hk9_
                  rw [rd_eq]
                  by_cases z9_ : k9_ = n_.toNat
                  · rw [if_pos z9_]; first | (have lt9_ : n_ < (F_ : Int) := (by omega); rw [if_pos (by omega)]; omega) | (have ge9_ : (F_ : Int) ≤ n_ := (by omega); rw [if_neg (by omega)]; split at lo_ <;> split at hi_ <;> omega)
                  · rw [if_neg z9_]; exact h1_ k9_ (by omega)
                · omega
            · have cx10_ : ¬ ((S_.1 13 0 38) ≤ n_) := of_decide_eq_false cx10_
              exfalso; omega
          · have cx7_ : ¬ ((S_.1 13 0 38) ≤ n_) := of_decide_eq_false cx7_
            exfalso; omega
        · have cx4_ : ¬ ((S_.1 13 0 38) ≤ n_) := of_decide_eq_false cx4_
          refine sm_T_go 6 (c1 := (41, [some (.inr (.inr (some (13, 0)))), some (.inl o_), some (.inl n_), some (.inl 0), none], [.inl (S_.1 13 0 38), .inl n_], S_)) rfl ?_
          refine sm_T_br (a := 3) (z := 7) rfl (fun cx16_ => ?_) (fun cx16_ => ?_)
          · have cx16_ : (S_.1 13 0 38) ≤ n_ := of_decide_eq_true cx16_
            exfalso; omega
          · have cx16_ : ¬ ((S_.1 13 0 38) ≤ n_) := of_decide_eq_false cx16_
            refine sm_T_go 9 (c1 := (73, [some (.inr (.inr (some (13, 0)))), some (.inl o_), some (.inl n_), some (.inl 0), some (.inl 0)], [.inl (S_.1 13 0 38), .inl n_, .inl n_, .inr (.inr (some (174, 0)))], S_)) rfl ?_
            refine sm_T_br (a := 3) (z := 7) rfl (fun cx17_ => ?_) (fun cx17_ => ?_)
            · have cx17_ : (S_.1 13 0 38) ≤ n_ := of_decide_eq_true cx17_
              exfalso; omega
            · have cx17_ : ¬ ((S_.1 13 0 38) ≤ n_) := of_decide_eq_false cx17_
              refine sm_T_go 2 (c1 := (94, [some (.inr (.inr (some (13, 0)))), some (.inl o_), some (.inl n_), some (.inl 0), some (.inl 0)], [.inl 0, .inl n_, .inr (.inr (some (174, 0)))], S_)) rfl ?_
              refine sm_T_iast (n := 2048) rfl rfl (by omega) (by omega) ?_
              have hIx18_ : gi (sm_aI S_ 174 0 n_.toNat 0) := gi_aI hI_ (show 0 ≤ 0 ∧ 0 ≤ 1000 from ⟨by omega, by omega⟩)
              have hFx19_ : ai_fr (sx_W vw_358n) S0_ (sm_aI S_ 174 0 n_.toNat 0) := ai_fr_tr hF_ (ai_fr_aI rfl)
              refine sm_T_inc (a := 2) (z := 1) (v := n_) (w := n_ + 1) rfl rfl (by omega) (by omega) (by omega) ?_
              refine sm_T_go 1 (c1 := (2, [some (.inr (.inr (some (13, 0)))), some (.inl o_), some (.inl (n_ + 1)), some (.inl 0), some (.inl 0)], [], sm_aI S_ 174 0 n_.toNat 0)) rfl ?_
              refine sm_T_wk [some (.inr (.inr (some (13, 0)))), some (.inl o_), some (.inl (n_ + 1)), none, none] (by exact ⟨rfl, rfl, rfl, trivial⟩) ?_
              refine ih_.1 (n_ + 1) (sm_aI S_ 174 0 n_.toNat 0) hIx18_ hFx19_ ⟨?_, ?_, ?_, trivial⟩ ?_
              · rw [show (n_ + 1).toNat = n_.toNat + 1 by omega]
                refine dpr_s h2_ (fun k9_ => rd_eq) (fun k9_ a9_ b9_ => hg_.2.2 k9_ a9_ (by omega)) (fun a9_ => by first | omega | (exfalso; omega)) (fun a9_ => ?_)
                first | (exfalso; omega) | (rw [← f40_, ← f41_]; (unfold mxi; (repeat' split) <;> omega))
              · omega
              · intro k9_ hk9_
                rw [rd_eq]
                by_cases z9_ : k9_ = n_.toNat
                · rw [if_pos z9_]; first | (have lt9_ : n_ < (F_ : Int) := (by omega); rw [if_pos (by omega)]; omega) | (have ge9_ : (F_ : Int) ≤ n_ := (by omega); rw [if_neg (by omega)]; split at lo_ <;> split at hi_ <;> omega)
                · rw [if_neg z9_]; exact h1_ k9_ (by omega)
              · omega
    · rintro md_ k_ S_ hI_ hF_ ⟨h2_, h3_, h0_, h1_, -⟩ hm_
      have g1_ := hg_.1
      have g2_ := hg_.2.1
      have e37_ : S_.1 13 0 37 = S0_.1 13 0 37 := hF_.1 13 0 37 rfl
      have e38_ : S_.1 13 0 38 = S0_.1 13 0 38 := hF_.1 13 0 38 rfl
      have e53_ : S_.1 13 0 53 = S0_.1 13 0 53 := hF_.1 13 0 53 rfl
      have f40_ : S_.2.2.1 140 0 = S0_.2.2.1 140 0 := fr_arr hF_ rfl
      have f41_ : S_.2.2.1 141 0 = S0_.2.2.1 141 0 := fr_arr hF_ rfl
      have r1_ := hr_.1
      have r2_ := hr_.2.1
      have f75_ : S_.2.2.1 175 0 = S0_.2.2.1 175 0 := fr_arr hF_ rfl
      have f51_ : S_.2.2.1 151 0 = S0_.2.2.1 151 0 := fr_arr hF_ rfl
      refine sm_T_go 2 (c1 := (107, [some (.inr (.inr (some (13, 0)))), some (.inl o_), some (.inl md_), some (.inl k_), none], [.inl o_, .inl k_], S_)) rfl ?_
      refine sm_T_br (a := 3) (z := 44) rfl (fun cx1_ => ?_) (fun cx1_ => ?_)
      · have cx1_ : o_ ≤ k_ := of_decide_eq_true cx1_
        refine sm_T_go 2 (c1 := (153, [some (.inr (.inr (some (13, 0)))), some (.inl o_), some (.inl md_), some (.inl 0), none], [], S_)) rfl ?_
        refine ih_.2.2 md_ 0 S_ hI_ hF_ ⟨?_, ?_, ?_, ?_, trivial⟩ ?_
        · exact h2_
        · refine ⟨?_, by omega⟩
          rw [show (o_ + 0).toNat = k_.toNat by omega]
          exact h3_.1
        · omega
        · exact h1_
        · omega
      · have cx1_ : ¬ (o_ ≤ k_) := of_decide_eq_false cx1_
        have ro_ := hr_.2.2.1 k_.toNat (by omega)
        rw [← f75_] at ro_
        have w9_ := h1_ (S_.2.2.1 175 0 k_.toNat / 2).toNat (by omega)
        refine sm_T_go 5 (c1 := (119, [some (.inr (.inr (some (13, 0)))), some (.inl o_), some (.inl md_), some (.inl k_), none], [.inl k_, .inr (.inr (some (175, 0))), .inr (.inr (some (174, 0)))], S_)) rfl ?_
        refine sm_T_iald (n := 16) rfl rfl (by omega) (by omega) ?_
        have bx2_ : 0 ≤ S_.2.2.1 175 0 k_.toNat ∧ S_.2.2.1 175 0 k_.toNat ≤ 2047 := hI_.2 175 0 _
        refine sm_T_go 1 (c1 := (121, [some (.inr (.inr (some (13, 0)))), some (.inl o_), some (.inl md_), some (.inl k_), none], [.inl 1, .inl (S_.2.2.1 175 0 k_.toNat), .inr (.inr (some (174, 0)))], S_)) rfl ?_
        refine sm_T_bin (w := ((S_.2.2.1 175 0 k_.toNat) / 2)) rfl (bi_shr (k := 1) (by decide) (by omega) (by omega)) ?_
        refine sm_T_iald (n := 2048) rfl rfl (by omega) (by omega) ?_
        have bx3_ : 0 ≤ S_.2.2.1 174 0 ((S_.2.2.1 175 0 k_.toNat) / 2).toNat ∧ S_.2.2.1 174 0 ((S_.2.2.1 175 0 k_.toNat) / 2).toNat ≤ 1000 := hI_.2 174 0 _
        refine sm_T_go 1 (c1 := (124, [some (.inr (.inr (some (13, 0)))), some (.inl o_), some (.inl md_), some (.inl k_), none], [.inl md_, .inl (S_.2.2.1 174 0 ((S_.2.2.1 175 0 k_.toNat) / 2).toNat)], S_)) rfl ?_
        refine sm_T_br (a := 5) (z := 19) rfl (fun cx4_ => ?_) (fun cx4_ => ?_)
        · have cx4_ : (S_.2.2.1 174 0 ((S_.2.2.1 175 0 k_.toNat) / 2).toNat) ≤ md_ := of_decide_eq_true cx4_
          refine sm_T_go 2 (c1 := (145, [some (.inr (.inr (some (13, 0)))), some (.inl o_), some (.inl md_), some (.inl k_), none], [], S_)) rfl ?_
          refine sm_T_inc (a := 3) (z := 1) (v := k_) (w := k_ + 1) rfl rfl (by omega) (by omega) (by omega) ?_
          refine sm_T_go 1 (c1 := (105, [some (.inr (.inr (some (13, 0)))), some (.inl o_), some (.inl md_), some (.inl (k_ + 1)), none], [], S_)) rfl ?_
          refine ih_.2.1 md_ (k_ + 1) S_ hI_ hF_ ⟨?_, ?_, ?_, ?_, trivial⟩ ?_
          · exact h2_
          · refine ⟨?_, by omega⟩
            rw [show (k_ + 1).toNat = k_.toNat + 1 by omega, mxf_s, ← h3_.1]
            show _ = mxi md_ (S_.2.2.1 174 0 ((if ((k_.toNat : Nat) : Int) < o_ then S0_.2.2.1 175 0 k_.toNat else S0_.2.2.1 151 0 (k_.toNat - o_.toNat)) / 2).toNat)
            rw [if_pos (by omega), ← f75_]
            (unfold mxi; (repeat' split) <;> omega)
          · omega
          · exact h1_
          · omega
        · have cx4_ : ¬ ((S_.2.2.1 174 0 ((S_.2.2.1 175 0 k_.toNat) / 2).toNat) ≤ md_) := of_decide_eq_false cx4_
          refine sm_T_go 5 (c1 := (136, [some (.inr (.inr (some (13, 0)))), some (.inl o_), some (.inl md_), some (.inl k_), none], [.inl k_, .inr (.inr (some (175, 0))), .inr (.inr (some (174, 0)))], S_)) rfl ?_
          refine sm_T_iald (n := 16) rfl rfl (by omega) (by omega) ?_
          refine sm_T_go 1 (c1 := (138, [some (.inr (.inr (some (13, 0)))), some (.inl o_), some (.inl md_), some (.inl k_), none], [.inl 1, .inl (S_.2.2.1 175 0 k_.toNat), .inr (.inr (some (174, 0)))], S_)) rfl ?_
          refine sm_T_bin (w := ((S_.2.2.1 175 0 k_.toNat) / 2)) rfl (bi_shr (k := 1) (by decide) (by omega) (by omega)) ?_
          refine sm_T_iald (n := 2048) rfl rfl (by omega) (by omega) ?_
          refine sm_T_go 2 (c1 := (145, [some (.inr (.inr (some (13, 0)))), some (.inl o_), some (.inl (S_.2.2.1 174 0 ((S_.2.2.1 175 0 k_.toNat) / 2).toNat)), some (.inl k_), none], [], S_)) rfl ?_
          refine sm_T_inc (a := 3) (z := 1) (v := k_) (w := k_ + 1) rfl rfl (by omega) (by omega) (by omega) ?_
          refine sm_T_go 1 (c1 := (105, [some (.inr (.inr (some (13, 0)))), some (.inl o_), some (.inl (S_.2.2.1 174 0 ((S_.2.2.1 175 0 k_.toNat) / 2).toNat)), some (.inl (k_ + 1)), none], [], S_)) rfl ?_
          refine ih_.2.1 (S_.2.2.1 174 0 ((S_.2.2.1 175 0 k_.toNat) / 2).toNat) (k_ + 1) S_ hI_ hF_ ⟨?_, ?_, ?_, ?_, trivial⟩ ?_
          · exact h2_
          · refine ⟨?_, by omega⟩
            rw [show (k_ + 1).toNat = k_.toNat + 1 by omega, mxf_s, ← h3_.1]
            show _ = mxi md_ (S_.2.2.1 174 0 ((if ((k_.toNat : Nat) : Int) < o_ then S0_.2.2.1 175 0 k_.toNat else S0_.2.2.1 151 0 (k_.toNat - o_.toNat)) / 2).toNat)
            rw [if_pos (by omega), ← f75_]
            (unfold mxi; (repeat' split) <;> omega)
          · omega
          · exact h1_
          · omega
    · rintro md_ k_ S_ hI_ hF_ ⟨h2_, h3_, h0_, h1_, -⟩ hm_
      have g1_ := hg_.1
      have g2_ := hg_.2.1
      have e37_ : S_.1 13 0 37 = S0_.1 13 0 37 := hF_.1 13 0 37 rfl
      have e38_ : S_.1 13 0 38 = S0_.1 13 0 38 := hF_.1 13 0 38 rfl
      have e53_ : S_.1 13 0 53 = S0_.1 13 0 53 := hF_.1 13 0 53 rfl
      have f40_ : S_.2.2.1 140 0 = S0_.2.2.1 140 0 := fr_arr hF_ rfl
      have f41_ : S_.2.2.1 141 0 = S0_.2.2.1 141 0 := fr_arr hF_ rfl
      have r1_ := hr_.1
      have r2_ := hr_.2.1
      have f75_ : S_.2.2.1 175 0 = S0_.2.2.1 175 0 := fr_arr hF_ rfl
      have f51_ : S_.2.2.1 151 0 = S0_.2.2.1 151 0 := fr_arr hF_ rfl
      have bx1_ : 0 ≤ S_.1 13 0 53 ∧ S_.1 13 0 53 ≤ 6 := hI_.1 13 0 53 rfl
      refine sm_T_go 3 (c1 := (158, [some (.inr (.inr (some (13, 0)))), some (.inl o_), some (.inl md_), some (.inl k_), none], [.inl (S_.1 13 0 53), .inl k_], S_)) rfl ?_
      refine sm_T_br (a := 3) (z := 44) rfl (fun cx2_ => ?_) (fun cx2_ => ?_)
      · have cx2_ : (S_.1 13 0 53) ≤ k_ := of_decide_eq_true cx2_
        refine sm_T_go 1 (c1 := (203, [some (.inr (.inr (some (13, 0)))), some (.inl o_), some (.inl md_), some (.inl k_), none], [.inl md_], S_)) rfl ?_
        refine sm_T_ri rfl ⟨_, _, rfl, _, rfl, hI_, hF_, ?_⟩
        exact ⟨by omega, S_.2.2.1 174 0, h2_, by rw [h3_.1, show (o_ + k_).toNat = (o_ + S0_.1 13 0 53).toNat by omega]⟩
      · have cx2_ : ¬ ((S_.1 13 0 53) ≤ k_) := of_decide_eq_false cx2_
        have ro_ := hr_.2.2.2 k_.toNat (by omega)
        rw [← f51_] at ro_
        have w9_ := h1_ (S_.2.2.1 151 0 k_.toNat / 2).toNat (by omega)
        refine sm_T_go 5 (c1 := (170, [some (.inr (.inr (some (13, 0)))), some (.inl o_), some (.inl md_), some (.inl k_), none], [.inl k_, .inr (.inr (some (151, 0))), .inr (.inr (some (174, 0)))], S_)) rfl ?_
        refine sm_T_iald (n := 1024) rfl rfl (by omega) (by omega) ?_
        have bx3_ : 0 ≤ S_.2.2.1 151 0 k_.toNat ∧ S_.2.2.1 151 0 k_.toNat ≤ 2047 := hI_.2 151 0 _
        refine sm_T_go 1 (c1 := (172, [some (.inr (.inr (some (13, 0)))), some (.inl o_), some (.inl md_), some (.inl k_), none], [.inl 1, .inl (S_.2.2.1 151 0 k_.toNat), .inr (.inr (some (174, 0)))], S_)) rfl ?_
        refine sm_T_bin (w := ((S_.2.2.1 151 0 k_.toNat) / 2)) rfl (bi_shr (k := 1) (by decide) (by omega) (by omega)) ?_
        refine sm_T_iald (n := 2048) rfl rfl (by omega) (by omega) ?_
        have bx4_ : 0 ≤ S_.2.2.1 174 0 ((S_.2.2.1 151 0 k_.toNat) / 2).toNat ∧ S_.2.2.1 174 0 ((S_.2.2.1 151 0 k_.toNat) / 2).toNat ≤ 1000 := hI_.2 174 0 _
        refine sm_T_go 1 (c1 := (175, [some (.inr (.inr (some (13, 0)))), some (.inl o_), some (.inl md_), some (.inl k_), none], [.inl md_, .inl (S_.2.2.1 174 0 ((S_.2.2.1 151 0 k_.toNat) / 2).toNat)], S_)) rfl ?_
        refine sm_T_br (a := 5) (z := 19) rfl (fun cx5_ => ?_) (fun cx5_ => ?_)
        · have cx5_ : (S_.2.2.1 174 0 ((S_.2.2.1 151 0 k_.toNat) / 2).toNat) ≤ md_ := of_decide_eq_true cx5_
          refine sm_T_go 2 (c1 := (196, [some (.inr (.inr (some (13, 0)))), some (.inl o_), some (.inl md_), some (.inl k_), none], [], S_)) rfl ?_
          refine sm_T_inc (a := 3) (z := 1) (v := k_) (w := k_ + 1) rfl rfl (by omega) (by omega) (by omega) ?_
          refine sm_T_go 1 (c1 := (153, [some (.inr (.inr (some (13, 0)))), some (.inl o_), some (.inl md_), some (.inl (k_ + 1)), none], [], S_)) rfl ?_
          refine ih_.2.2 md_ (k_ + 1) S_ hI_ hF_ ⟨?_, ?_, ?_, ?_, trivial⟩ ?_
          · exact h2_
          · refine ⟨?_, by omega⟩
            rw [show (o_ + (k_ + 1)).toNat = (o_ + k_).toNat + 1 by omega, mxf_s, ← h3_.1]
            show _ = mxi md_ (S_.2.2.1 174 0 ((if (((o_ + k_).toNat : Nat) : Int) < o_ then S0_.2.2.1 175 0 (o_ + k_).toNat else S0_.2.2.1 151 0 ((o_ + k_).toNat - o_.toNat)) / 2).toNat)
            rw [if_neg (by omega), show (o_ + k_).toNat - o_.toNat = k_.toNat by omega, ← f51_]
            (unfold mxi; (repeat' split) <;> omega)
          · omega
          · exact h1_
          · omega
        · have cx5_ : ¬ ((S_.2.2.1 174 0 ((S_.2.2.1 151 0 k_.toNat) / 2).toNat) ≤ md_) := of_decide_eq_false cx5_
          refine sm_T_go 5 (c1 := (187, [some (.inr (.inr (some (13, 0)))), some (.inl o_), some (.inl md_), some (.inl k_), none], [.inl k_, .inr (.inr (some (151, 0))), .inr (.inr (some (174, 0)))], S_)) rfl ?_
          refine sm_T_iald (n := 1024) rfl rfl (by omega) (by omega) ?_
          refine sm_T_go 1 (c1 := (189, [some (.inr (.inr (some (13, 0)))), some (.inl o_), some (.inl md_), some (.inl k_), none], [.inl 1, .inl (S_.2.2.1 151 0 k_.toNat), .inr (.inr (some (174, 0)))], S_)) rfl ?_
          refine sm_T_bin (w := ((S_.2.2.1 151 0 k_.toNat) / 2)) rfl (bi_shr (k := 1) (by decide) (by omega) (by omega)) ?_
          refine sm_T_iald (n := 2048) rfl rfl (by omega) (by omega) ?_
          refine sm_T_go 2 (c1 := (196, [some (.inr (.inr (some (13, 0)))), some (.inl o_), some (.inl (S_.2.2.1 174 0 ((S_.2.2.1 151 0 k_.toNat) / 2).toNat)), some (.inl k_), none], [], S_)) rfl ?_
          refine sm_T_inc (a := 3) (z := 1) (v := k_) (w := k_ + 1) rfl rfl (by omega) (by omega) (by omega) ?_
          refine sm_T_go 1 (c1 := (153, [some (.inr (.inr (some (13, 0)))), some (.inl o_), some (.inl (S_.2.2.1 174 0 ((S_.2.2.1 151 0 k_.toNat) / 2).toNat)), some (.inl (k_ + 1)), none], [], S_)) rfl ?_
          refine ih_.2.2 (S_.2.2.1 174 0 ((S_.2.2.1 151 0 k_.toNat) / 2).toNat) (k_ + 1) S_ hI_ hF_ ⟨?_, ?_, ?_, ?_, trivial⟩ ?_
          · exact h2_
          · refine ⟨?_, by omega⟩
            rw [show (o_ + (k_ + 1)).toNat = (o_ + k_).toNat + 1 by omega, mxf_s, ← h3_.1]
            show _ = mxi md_ (S_.2.2.1 174 0 ((if (((o_ + k_).toNat : Nat) : Int) < o_ then S0_.2.2.1 175 0 (o_ + k_).toNat else S0_.2.2.1 151 0 ((o_ + k_).toNat - o_.toNat)) / 2).toNat)
            rw [if_neg (by omega), show (o_ + k_).toNat - o_.toNat = k_.toNat by omega, ← f51_]
            (unfold mxi; (repeat' split) <;> omega)
          · omega
          · exact h1_
          · omega
set_option maxHeartbeats 2000000 in
set_option maxRecDepth 20000 in
theorem vc_358n {sc_ : Nat × (Nat → Int)} (o_ : Int) (F_ : Nat) (S0_ : sm_S) (hI_ : gi S0_) (hg_ : rgr F_ S0_) (hr_ : rrt o_ S0_) : sm_T (mt_P sc_) 0 358 (0, [some (.inr (.inr (some (13, 0)))), some (.inl o_), none, none, none], [], S0_) (fun ro9_ => ∃ u_ S1_, ro9_ = (.inl u_, S1_, 0) ∧ vq_358n o_ F_ S0_ u_ S1_) := by
  have hF_ : ai_fr (sx_W vw_358n) S0_ S0_ := ai_fr_rf
  refine sm_T_go 2 (c1 := (2, [some (.inr (.inr (some (13, 0)))), some (.inl o_), some (.inl 0), none, none], [], S0_)) rfl ?_
  refine (vl_358n o_ F_ S0_ hg_ hr_ _).1 0 S0_ hI_ hF_ ⟨?_, ?_, ?_, trivial⟩ (Nat.lt_succ_self _)
  · (intro k9_ hk9_; exact absurd hk9_ (Nat.not_lt_zero _))
  · (have g1_ := hg_.1; have g2_ := hg_.2.1; omega)
  · (intro k9_ hk9_; omega)
end
/-! 99.ztW5 -/
section
/-! which nodes are needed, with its meaning; written by wip/p55/gen/vg -/

/-! which nodes are_ needed -/
def nsw (sf_ : Nat → Int) (l_ : Int) : Nat := (sf_ (l_ / 2).toNat / 2).toNat
def nd0 (sf_ rt_ : Nat → Int) : Nat → Nat → Bool
  | 0, _ => false
  | k_ + 1, q_ => nd0 sf_ rt_ k_ q_ || decide (q_ = nsw sf_ (rt_ k_))
def ndk (N_ : Nat) (sf_ lo_ hi_ : Nat → Int) (m0_ : Nat → Bool) : Nat → (Nat → Bool) × Int
  | 0 => (m0_, 0)
  | j_ + 1 => if (ndk N_ sf_ lo_ hi_ m0_ j_).1 (N_ - 1 - j_) = true then (fun q_ => ((ndk N_ sf_ lo_ hi_ m0_ j_).1 q_ || decide (q_ = nsw sf_ (lo_ (N_ - 1 - j_)))) || decide (q_ = nsw sf_ (hi_ (N_ - 1 - j_))), (ndk N_ sf_ lo_ hi_ m0_ j_).2 + 1) else ndk N_ sf_ lo_ hi_ m0_ j_
def ndc (F_ N_ K_ : Nat) (sf_ lo_ hi_ rt_ : Nat → Int) : Int := (ndk N_ sf_ lo_ hi_ (nd0 sf_ rt_ K_) (N_ - F_)).2
def ni0 (N_ k_ : Nat) (sf_ rt_ u_ : Nat → Int) : Prop := ∀ q_, q_ < N_ → (u_ q_ = 1 ↔ nd0 sf_ rt_ k_ q_ = true)
theorem ni0_0 {N_ : Nat} {sf_ rt_ u_ : Nat → Int} (h_ : ∀ q_, q_ < N_ → u_ q_ = 0) : ni0 N_ 0 sf_ rt_ u_ := fun q_ hq_ => by
  rw [h_ q_ hq_]
  exact ⟨fun z_ => absurd z_ (by decide), fun z_ => absurd (show false = true from z_) Bool.false_ne_true⟩
theorem ni0_s {N_ k_ : Nat} {sf_ rt_ u_ u'_ : Nat → Int} (h_ : ni0 N_ k_ sf_ rt_ u_) (hu_ : ∀ q_, u'_ q_ = if q_ = nsw sf_ (rt_ k_) then 1 else u_ q_) : ni0 N_ (k_ + 1) sf_ rt_ u'_ := fun q_ hq_ => by
  rw [hu_ q_]
  show _ ↔ (nd0 sf_ rt_ k_ q_ || decide (q_ = nsw sf_ (rt_ k_))) = true
  rw [Bool.or_eq_true, decide_eq_true_iff]
  by_cases c_ : q_ = nsw sf_ (rt_ k_)
  · rw [if_pos c_]
    exact ⟨fun _ => Or.inr c_, fun _ => rfl⟩
  · rw [if_neg c_, h_ q_ hq_]
    exact ⟨Or.inl, fun z_ => z_.resolve_right c_⟩
theorem ndk_n {N_ j_ : Nat} {sf_ lo_ hi_ : Nat → Int} {m0_ : Nat → Bool} (h_ : (ndk N_ sf_ lo_ hi_ m0_ j_).1 (N_ - 1 - j_) = false) : ndk N_ sf_ lo_ hi_ m0_ (j_ + 1) = ndk N_ sf_ lo_ hi_ m0_ j_ := by
  have e_ : ¬ ((ndk N_ sf_ lo_ hi_ m0_ j_).1 (N_ - 1 - j_) = true) := by
    rw [h_]
    exact Bool.false_ne_true
  first
    | exact if_neg e_
    | rw [ndk, if_neg e_]
theorem ndk_y {N_ j_ : Nat} {sf_ lo_ hi_ : Nat → Int} {m0_ : Nat → Bool} (h_ : (ndk N_ sf_ lo_ hi_ m0_ j_).1 (N_ - 1 - j_) = true) : ndk N_ sf_ lo_ hi_ m0_ (j_ + 1) = (fun q_ => ((ndk N_ sf_ lo_ hi_ m0_ j_).1 q_ || decide (q_ = nsw sf_ (lo_ (N_ - 1 - j_)))) || decide (q_ = nsw sf_ (hi_ (N_ - 1 - j_))), (ndk N_ sf_ lo_ hi_ m0_ j_).2 + 1) := by
  first
    | exact if_pos h_
    | rw [ndk, if_pos h_]
def ndi (N_ j_ : Nat) (sf_ lo_ hi_ : Nat → Int) (m0_ : Nat → Bool) (u_ : Nat → Int) (c_ : Int) : Prop := c_ = (ndk N_ sf_ lo_ hi_ m0_ j_).2 ∧ ∀ q_, q_ < N_ → (u_ q_ = 1 ↔ (ndk N_ sf_ lo_ hi_ m0_ j_).1 q_ = true)
theorem ndi_0 {N_ k_ : Nat} {sf_ lo_ hi_ rt_ u_ : Nat → Int} (h_ : ni0 N_ k_ sf_ rt_ u_) : ndi N_ 0 sf_ lo_ hi_ (nd0 sf_ rt_ k_) u_ 0 := ⟨rfl, h_⟩
theorem ndi_n {N_ j_ n_ : Nat} {sf_ lo_ hi_ u_ : Nat → Int} {m0_ : Nat → Bool} {c_ : Int} (h_ : ndi N_ j_ sf_ lo_ hi_ m0_ u_ c_) (hn_ : u_ n_ ≠ 1) (e_ : N_ - 1 - j_ = n_) (hl_ : n_ < N_) : ndi N_ (j_ + 1) sf_ lo_ hi_ m0_ u_ c_ := by
  have q_ : (ndk N_ sf_ lo_ hi_ m0_ j_).1 (N_ - 1 - j_) = false := by
    rw [e_]
    cases x_ : (ndk N_ sf_ lo_ hi_ m0_ j_).1 n_
    · rfl
    · exact absurd ((h_.2 n_ hl_).mpr x_) hn_
  unfold ndi
  rw [ndk_n q_]
  exact h_
theorem ndi_y {N_ j_ n_ : Nat} {sf_ lo_ hi_ u_ u'_ : Nat → Int} {m0_ : Nat → Bool} {c_ : Int} (h_ : ndi N_ j_ sf_ lo_ hi_ m0_ u_ c_) (hn_ : u_ n_ = 1) (e_ : N_ - 1 - j_ = n_) (hl_ : n_ < N_) (hu_ : ∀ q_, u'_ q_ = if q_ = nsw sf_ (hi_ n_) then 1 else if q_ = nsw sf_ (lo_ n_) then 1 else u_ q_) : ndi N_ (j_ + 1) sf_ lo_ hi_ m0_ u'_ (c_ + 1) := by
  have q_ : (ndk N_ sf_ lo_ hi_ m0_ j_).1 (N_ - 1 - j_) = true := by
    rw [e_]
    exact (h_.2 n_ hl_).mp hn_
  unfold ndi
  rw [ndk_y q_, e_]
  refine ⟨?_, fun k_ hk_ => ?_⟩
  · show c_ + 1 = (ndk N_ sf_ lo_ hi_ m0_ j_).2 + 1
    rw [← h_.1]
  · rw [hu_ k_]
    show _ ↔ (((ndk N_ sf_ lo_ hi_ m0_ j_).1 k_ || decide (k_ = nsw sf_ (lo_ n_))) || decide (k_ = nsw sf_ (hi_ n_))) = true
    rw [Bool.or_eq_true, Bool.or_eq_true, decide_eq_true_iff, decide_eq_true_iff]
    by_cases c1_ : k_ = nsw sf_ (hi_ n_)
    · rw [if_pos c1_]
      exact ⟨fun _ => Or.inr c1_, fun _ => rfl⟩
    · rw [if_neg c1_]
      by_cases c2_ : k_ = nsw sf_ (lo_ n_)
      · rw [if_pos c2_]
        exact ⟨fun _ => Or.inl (Or.inr c2_), fun _ => rfl⟩
      · rw [if_neg c2_, h_.2 k_ hk_]
        exact ⟨fun z_ => Or.inl (Or.inl z_), fun z_ => (z_.resolve_right c1_).resolve_right c2_⟩
theorem nsw_cg {N_ : Nat} {sf_ sf'_ : Nat → Int} {l_ : Int} (hs_ : ∀ m_, m_ < N_ → sf'_ m_ = sf_ m_) (h_ : 0 ≤ l_ ∧ l_ < 2 * (N_ : Int)) : nsw sf'_ l_ = nsw sf_ l_ := by
  unfold nsw
  rw [hs_ _ (by omega)]
theorem nd0_cg {N_ K_ : Nat} {sf_ sf'_ rt_ rt'_ : Nat → Int} (hs_ : ∀ m_, m_ < N_ → sf'_ m_ = sf_ m_) (hr_ : ∀ k_, k_ < K_ → rt'_ k_ = rt_ k_ ∧ 0 ≤ rt_ k_ ∧ rt_ k_ < 2 * (N_ : Int)) : ∀ k_ : Nat, k_ ≤ K_ → ∀ q_, nd0 sf'_ rt'_ k_ q_ = nd0 sf_ rt_ k_ q_
  | 0, _, _ => rfl
  | k_ + 1, hk_, q_ => by
    have r_ := hr_ k_ (by omega)
    show (nd0 sf'_ rt'_ k_ q_ || decide (q_ = nsw sf'_ (rt'_ k_))) = (nd0 sf_ rt_ k_ q_ || decide (q_ = nsw sf_ (rt_ k_)))
    rw [nd0_cg hs_ hr_ k_ (by omega) q_, r_.1, nsw_cg hs_ r_.2]
theorem ndk_cg {F_ N_ : Nat} {sf_ sf'_ lo_ lo'_ hi_ hi'_ : Nat → Int} {m0_ m0'_ : Nat → Bool} (hs_ : ∀ m_, m_ < N_ → sf'_ m_ = sf_ m_) (hg_ : glo F_ N_ lo_ hi_) (e_ : ∀ n_, F_ ≤ n_ → n_ < N_ → lo'_ n_ = lo_ n_ ∧ hi'_ n_ = hi_ n_) (h0_ : ∀ q_, m0'_ q_ = m0_ q_) : ∀ j_ : Nat, j_ ≤ N_ - F_ → (ndk N_ sf'_ lo'_ hi'_ m0'_ j_).2 = (ndk N_ sf_ lo_ hi_ m0_ j_).2 ∧ ∀ q_, (ndk N_ sf'_ lo'_ hi'_ m0'_ j_).1 q_ = (ndk N_ sf_ lo_ hi_ m0_ j_).1 q_
  | 0, _ => ⟨rfl, h0_⟩
  | j_ + 1, hj_ => by
    have ih_ := ndk_cg hs_ hg_ e_ h0_ j_ (by omega)
    have ge_ := e_ (N_ - 1 - j_) (by omega) (by omega)
    have g_ := hg_ (N_ - 1 - j_) (by omega) (by omega)
    have n1_ : nsw sf'_ (lo_ (N_ - 1 - j_)) = nsw sf_ (lo_ (N_ - 1 - j_)) := nsw_cg hs_ (by omega)
    have n2_ : nsw sf'_ (hi_ (N_ - 1 - j_)) = nsw sf_ (hi_ (N_ - 1 - j_)) := nsw_cg hs_ (by omega)
    cases x_ : (ndk N_ sf_ lo_ hi_ m0_ j_).1 (N_ - 1 - j_)
    · rw [ndk_n x_, ndk_n ((ih_.2 _).trans x_)]
      exact ih_
    · rw [ndk_y x_, ndk_y ((ih_.2 _).trans x_), ge_.1, ge_.2, n1_, n2_]
      refine ⟨?_, fun q_ => ?_⟩
      · show (ndk N_ sf'_ lo'_ hi'_ m0'_ j_).2 + 1 = (ndk N_ sf_ lo_ hi_ m0_ j_).2 + 1
        rw [ih_.1]
      · show (((ndk N_ sf'_ lo'_ hi'_ m0'_ j_).1 q_ || decide (q_ = nsw sf_ (lo_ (N_ - 1 - j_)))) || decide (q_ = nsw sf_ (hi_ (N_ - 1 - j_)))) = (((ndk N_ sf_ lo_ hi_ m0_ j_).1 q_ || decide (q_ = nsw sf_ (lo_ (N_ - 1 - j_)))) || decide (q_ = nsw sf_ (hi_ (N_ - 1 - j_))))
        rw [ih_.2 q_]
theorem ndc_cg {F_ N_ K_ : Nat} {sf_ sf'_ lo_ lo'_ hi_ hi'_ rt_ rt'_ : Nat → Int} (hs_ : ∀ m_, m_ < N_ → sf'_ m_ = sf_ m_) (hg_ : glo F_ N_ lo_ hi_) (e_ : ∀ n_, F_ ≤ n_ → n_ < N_ → lo'_ n_ = lo_ n_ ∧ hi'_ n_ = hi_ n_) (hr_ : ∀ k_, k_ < K_ → rt'_ k_ = rt_ k_ ∧ 0 ≤ rt_ k_ ∧ rt_ k_ < 2 * (N_ : Int)) : ndc F_ N_ K_ sf'_ lo'_ hi'_ rt'_ = ndc F_ N_ K_ sf_ lo_ hi_ rt_ := (ndk_cg hs_ hg_ e_ (nd0_cg hs_ hr_ K_ (Nat.le_refl _)) (N_ - F_) (Nat.le_refl _)).1
theorem nsw_x {sf_ : Nat → Int} {l_ : Int} (h_ : 0 ≤ sf_ (l_ / 2).toNat ∧ sf_ (l_ / 2).toNat ≤ 2047) : (i_xor (sf_ (l_ / 2).toNat) (l_ % 2) / 2).toNat = nsw sf_ l_ := by
  have x_ := i_xb (x_ := sf_ (l_ / 2).toNat) (b_ := l_ % 2) h_ (by omega)
  unfold nsw
  omega
theorem nsw_r {F_ : Nat} {S_ : sm_S} {l_ : Int} (h_ : rsw F_ S_) (h0_ : 0 ≤ l_) (h1_ : l_ < 2 * S_.1 13 0 37) (h2_ : S_.1 13 0 37 ≤ 1013) : (i_xor (S_.2.2.1 172 0 (l_ / 2).toNat) (l_ % 2) / 2).toNat = nsw (S_.2.2.1 172 0) l_ := nsw_x (by
  obtain ⟨q1_, -⟩ := h_.2 (l_ / 2).toNat (by omega)
  omega)

/-! Design.markNeeded -/
def vw_67sn : sx_Wl := ([], [33], [])
def vq_67sn (dd_ : Nat) (F_ : Nat) (S0_ : sm_S) (u_ : Option sm_V) (S1_ : sm_S) : Prop := ∃ v_ : Int, u_ = some (.inl v_) ∧ gi S1_ ∧ ai_fr (sx_W vw_67sn) S0_ S1_ ∧ (((0 ≤ v_ ∧ v_ ≤ 1000) ∧ mkd dd_ F_ S1_ (S1_.2.2.1 33 0)) ∧ v_ = ndc F_ (S0_.1 3 dd_ 4).toNat (S0_.1 3 dd_ 3 + S0_.1 3 dd_ 2).toNat (S0_.2.2.1 44 (0 + dd_)) (S0_.2.2.1 42 (0 + dd_)) (S0_.2.2.1 43 (0 + dd_)) (fun j_ => rtv dd_ S0_ (j_ : Int)))
set_option maxHeartbeats 2000000 in
theorem vl_67sn {sc_ : Nat × (Nat → Int)} (dd_ : Nat) (F_ : Nat) (S0_ : sm_S) (hg_ : dgr dd_ F_ S0_) (hr_ : drt dd_ S0_) (hs_ : swp dd_ F_ S0_) : ∀ nn_ : Nat, (∀ (k_ : Int) (S_ : sm_S), gi S_ → ai_fr (sx_W vw_67sn) S0_ S_ → ((ni0 (S0_.1 3 dd_ 4).toNat k_.toNat (S0_.2.2.1 44 (0 + dd_)) (fun j_ => rtv dd_ S0_ (j_ : Int)) (S_.2.2.1 33 0)) ∧ (0 ≤ k_ ∧ k_ ≤ S0_.1 3 dd_ 3 + S0_.1 3 dd_ 2) ∧ (∀ j9_ : Nat, j9_ < 1013 → S_.2.2.1 33 0 j9_ = 0 ∨ (S_.2.2.1 33 0 j9_ = 1 ∧ (j9_ : Int) < S0_.1 3 dd_ 4 ∧ S0_.2.2.1 44 (0 + dd_) j9_ = 2 * (j9_ : Int))) ∧ (∀ i9_ : Int, 0 ≤ i9_ → i9_ < k_ → S_.2.2.1 33 0 (srp dd_ S0_ (rtv dd_ S0_ i9_)) = 1) ∧ True) → ((5000 + (100 - k_)).toNat) < nn_ → sm_T (mt_P sc_) 1 67 (7, [some (.inr (.inr (some (3, dd_)))), some (.inr (.inr (some (33, 0)))), some (.inl k_), none], [], S_) (fun ro9_ => ∃ u_ S1_, ro9_ = (.inl u_, S1_, 0) ∧ vq_67sn dd_ F_ S0_ u_ S1_)) ∧ (∀ (c_ : Int) (n_ : Int) (S_ : sm_S), gi S_ → ai_fr (sx_W vw_67sn) S0_ S_ → ((ndi (S0_.1 3 dd_ 4).toNat (S0_.1 3 dd_ 4 - 1 - n_).toNat (S0_.2.2.1 44 (0 + dd_)) (S0_.2.2.1 42 (0 + dd_)) (S0_.2.2.1 43 (0 + dd_)) (nd0 (S0_.2.2.1 44 (0 + dd_)) (fun j_ => rtv dd_ S0_ (j_ : Int)) (S0_.1 3 dd_ 3 + S0_.1 3 dd_ 2).toNat) (S_.2.2.1 33 0) c_) ∧ ((F_ : Int) - 1 ≤ n_ ∧ n_ < S0_.1 3 dd_ 4 ∧ 0 ≤ c_ ∧ c_ ≤ S0_.1 3 dd_ 4 - 1 - n_) ∧ (∀ j9_ : Nat, j9_ < 1013 → S_.2.2.1 33 0 j9_ = 0 ∨ (S_.2.2.1 33 0 j9_ = 1 ∧ (j9_ : Int) < S0_.1 3 dd_ 4 ∧ S0_.2.2.1 44 (0 + dd_) j9_ = 2 * (j9_ : Int))) ∧ (∀ i9_ : Int, 0 ≤ i9_ → i9_ < S0_.1 3 dd_ 3 + S0_.1 3 dd_ 2 → S_.2.2.1 33 0 (srp dd_ S0_ (rtv dd_ S0_ i9_)) = 1) ∧ (∀ j9_ : Nat, n_ < (j9_ : Int) → F_ ≤ j9_ → (j9_ : Int) < S0_.1 3 dd_ 4 → S_.2.2.1 33 0 j9_ = 1 → S_.2.2.1 33 0 (srp dd_ S0_ (S0_.2.2.1 42 (0 + dd_) j9_)) = 1 ∧ S_.2.2.1 33 0 (srp dd_ S0_ (S0_.2.2.1 43 (0 + dd_) j9_)) = 1) ∧ True) → ((n_ + 1).toNat) < nn_ → sm_T (mt_P sc_) 1 67 (44, [some (.inr (.inr (some (3, dd_)))), some (.inr (.inr (some (33, 0)))), some (.inl c_), some (.inl n_)], [], S_) (fun ro9_ => ∃ u_ S1_, ro9_ = (.inl u_, S1_, 0) ∧ vq_67sn dd_ F_ S0_ u_ S1_)) := by
  intro nn_
  induction nn_ with
  | zero => exact ⟨fun _ _ _ _ _ h_ => absurd h_ (Nat.not_lt_zero _), fun _ _ _ _ _ _ h_ => absurd h_ (Nat.not_lt_zero _)⟩
  | succ nn_ ih_ =>
    refine ⟨?_, ?_⟩
    · rintro k_ S_ hI_ hF_ ⟨hnd_, h0_, hz_, hq_, -⟩ hm_
      have g1_ := hg_.1
      have g2_ := hg_.2.1
      have r1_ := hr_.1
      have e2_ : S_.1 3 dd_ 2 = S0_.1 3 dd_ 2 := hF_.1 3 dd_ 2 rfl
      have e1_ : S_.1 3 dd_ 1 = S0_.1 3 dd_ 1 := hF_.1 3 dd_ 1 rfl
      have e3_ : S_.1 3 dd_ 3 = S0_.1 3 dd_ 3 := hF_.1 3 dd_ 3 rfl
      have e4_ : S_.1 3 dd_ 4 = S0_.1 3 dd_ 4 := hF_.1 3 dd_ 4 rfl
      have n13_ : S_.1 3 dd_ 4 ≤ 1013 := (hI_.1 3 dd_ 4 rfl).2
      have f44_ : S_.2.2.1 44 (0 + dd_) = S0_.2.2.1 44 (0 + dd_) := fr_arr hF_ rfl
      have f42_ : S_.2.2.1 42 (0 + dd_) = S0_.2.2.1 42 (0 + dd_) := fr_arr hF_ rfl
      have f43_ : S_.2.2.1 43 (0 + dd_) = S0_.2.2.1 43 (0 + dd_) := fr_arr hF_ rfl
      have f45_ : S_.2.2.1 45 (0 + dd_) = S0_.2.2.1 45 (0 + dd_) := fr_arr hF_ rfl
      have f46_ : S_.2.2.1 46 (0 + dd_) = S0_.2.2.1 46 (0 + dd_) := fr_arr hF_ rfl
      refine sm_T_go 2 (c1 := (9, [some (.inr (.inr (some (3, dd_)))), some (.inr (.inr (some (33, 0)))), some (.inl k_), none], [.inr (.inr (some (3, dd_))), .inl k_], S_)) rfl ?_
      refine sm_T_cal (d1 := 0) (Q1 := vq_66 dd_ S_) rfl rfl (by decide) (vc_66 dd_ S_ hI_ (by omega)) (fun u_ Sx1_ px4_ => ?_)
      obtain ⟨rfl, vx6_, rfl, px4_⟩ := px4_
      have e9_ := px4_
      refine sm_T_br (a := 3) (z := 23) rfl (fun cx7_ => ?_) (fun cx7_ => ?_)
      · have cx7_ : vx6_ ≤ k_ := of_decide_eq_true cx7_
        have bx8_ : 0 ≤ S_.1 3 dd_ 4 ∧ S_.1 3 dd_ 4 ≤ 1013 := hI_.1 3 dd_ 4 rfl
        refine sm_T_go 5 (c1 := (42, [some (.inr (.inr (some (3, dd_)))), some (.inr (.inr (some (33, 0)))), some (.inl 0), none], [.inl 1, .inl (S_.1 3 dd_ 4)], S_)) rfl ?_
        refine sm_T_bin (w := (S_.1 3 dd_ 4) - 1) rfl (bi_sub (by omega) (by omega) (by omega)) ?_
        refine sm_T_go 1 (c1 := (44, [some (.inr (.inr (some (3, dd_)))), some (.inr (.inr (some (33, 0)))), some (.inl 0), some (.inl ((S_.1 3 dd_ 4) - 1))], [], S_)) rfl ?_
        refine ih_.2 0 ((S_.1 3 dd_ 4) - 1) S_ hI_ hF_ ⟨?_, ?_, ?_, ?_, ?_, trivial⟩ ?_
        · have j9_ : ∀ x9_ : Int, x9_ = S0_.1 3 dd_ 4 - 1 → (S0_.1 3 dd_ 4 - 1 - x9_).toNat = 0 := fun x9_ y9_ => by omega
          rw [j9_ _ (by omega), show (S0_.1 3 dd_ 3 + S0_.1 3 dd_ 2).toNat = k_.toNat by omega]
          exact ndi_0 hnd_
        · omega
        · exact hz_
        · (intro i9_ q8_ q9_; exact hq_ i9_ q8_ (by omega))
        · (intro j9_ q7_ q8_ q9_; omega)
        · omega
      · have cx7_ : ¬ (vx6_ ≤ k_) := of_decide_eq_false cx7_
        refine sm_T_go 4 (c1 := (19, [some (.inr (.inr (some (3, dd_)))), some (.inr (.inr (some (33, 0)))), some (.inl k_), none], [.inl k_, .inr (.inr (some (3, dd_))), .inr (.inr (some (3, dd_))), .inr (.inr (some (33, 0)))], S_)) rfl ?_
        refine sm_T_cal (d1 := 0) (Q1 := vq_65 k_ dd_ S_) rfl rfl (by decide) (vc_65 k_ dd_ S_ hI_ (by exact drt_fr hr_ hF_ rfl rfl rfl rfl rfl) (by omega)) (fun u_ Sx9_ px12_ => ?_)
        obtain ⟨rfl, vx14_, rfl, px12_⟩ := px12_
        have e19_ := px12_
        have v19_ : vx14_ = rtv dd_ S0_ k_ := by rw [e19_.1]; unfold rtv; rw [e3_, f45_, f46_]
        refine sm_T_cal (d1 := 0) (Q1 := vq_64 vx14_ dd_ S_) rfl rfl (by decide) (vc_64 vx14_ dd_ S_ hI_ (by omega)) (fun u_ Sx15_ px18_ => ?_)
        obtain ⟨rfl, vx20_, rfl, px18_⟩ := px18_
        have e22_ := px18_
        rw [f44_] at e22_
        have sw9_ := swl_n hs_ (l_ := rtv dd_ S0_ k_) (by omega) (by omega) (by omega)
        rw [v19_] at e22_
        rw [← e22_] at sw9_
        have sb9_ := srp_b hs_ (l_ := rtv dd_ S0_ k_) (by omega) (by omega)
        have tn9_ : (vx20_ / 2).toNat = srp dd_ S0_ (rtv dd_ S0_ k_) := by omega
        refine sm_T_go 1 (c1 := (26, [some (.inr (.inr (some (3, dd_)))), some (.inr (.inr (some (33, 0)))), some (.inl k_), none], [.inl 1, .inl vx20_, .inr (.inr (some (33, 0)))], S_)) rfl ?_
        refine sm_T_bin (w := (vx20_ / 2)) rfl (bi_shr (k := 1) (by decide) (by omega) (by omega)) ?_
        refine sm_T_go 1 (c1 := (28, [some (.inr (.inr (some (3, dd_)))), some (.inr (.inr (some (33, 0)))), some (.inl k_), none], [.inl 1, .inl (vx20_ / 2), .inr (.inr (some (33, 0)))], S_)) rfl ?_
        refine sm_T_iast (n := 1013) rfl rfl (by omega) (by omega) ?_
        have hIx21_ : gi (sm_aI S_ 33 0 (vx20_ / 2).toNat 1) := gi_aI hI_ (show 0 ≤ 1 ∧ 1 ≤ 1012 from ⟨by omega, by omega⟩)
        have hFx22_ : ai_fr (sx_W vw_67sn) S0_ (sm_aI S_ 33 0 (vx20_ / 2).toNat 1) := ai_fr_tr hF_ (ai_fr_aI rfl)
        refine sm_T_inc (a := 2) (z := 1) (v := k_) (w := k_ + 1) rfl rfl (by omega) (by omega) (by omega) ?_
        refine sm_T_go 1 (c1 := (7, [some (.inr (.inr (some (3, dd_)))), some (.inr (.inr (some (33, 0)))), some (.inl (k_ + 1)), none], [], sm_aI S_ 33 0 (vx20_ / 2).toNat 1)) rfl ?_
        refine ih_.1 (k_ + 1) (sm_aI S_ 33 0 (vx20_ / 2).toNat 1) hIx21_ hFx22_ ⟨?_, ?_, ?_, ?_, trivial⟩ ?_
        · rw [show (k_ + 1).toNat = k_.toNat + 1 by omega]
          refine ni0_s hnd_ (fun q9_ => rd_eq.trans ?_)
          show _ = if q9_ = srp dd_ S0_ (rtv dd_ S0_ ((k_.toNat : Nat) : Int)) then 1 else _
          rw [show ((k_.toNat : Nat) : Int) = k_ by omega, ← tn9_]
        · omega
        · intro j9_ hj9_
          rw [rd_eq]
          by_cases z9_ : j9_ = srp dd_ S0_ (rtv dd_ S0_ k_)
          · rw [if_pos (by omega)]; right; rw [z9_]; exact ⟨rfl, by omega, sb9_.2.1⟩
          · rw [if_neg (by omega)]; exact hz_ j9_ hj9_
        · intro i9_ q8_ q9_
          rw [rd_eq]
          by_cases z9_ : srp dd_ S0_ (rtv dd_ S0_ i9_) = srp dd_ S0_ (rtv dd_ S0_ k_)
          · rw [if_pos (by omega)]
          · rw [if_neg (by omega)]; exact hq_ i9_ q8_ (by by_cases y9_ : i9_ = k_; (exact absurd (by rw [y9_]) z9_); omega)
        · omega
    · rintro c_ n_ S_ hI_ hF_ ⟨hnd_, h0_, hz_, hq_, hc_, -⟩ hm_
      have g1_ := hg_.1
      have g2_ := hg_.2.1
      have r1_ := hr_.1
      have e2_ : S_.1 3 dd_ 2 = S0_.1 3 dd_ 2 := hF_.1 3 dd_ 2 rfl
      have e1_ : S_.1 3 dd_ 1 = S0_.1 3 dd_ 1 := hF_.1 3 dd_ 1 rfl
      have e3_ : S_.1 3 dd_ 3 = S0_.1 3 dd_ 3 := hF_.1 3 dd_ 3 rfl
      have e4_ : S_.1 3 dd_ 4 = S0_.1 3 dd_ 4 := hF_.1 3 dd_ 4 rfl
      have n13_ : S_.1 3 dd_ 4 ≤ 1013 := (hI_.1 3 dd_ 4 rfl).2
      have f44_ : S_.2.2.1 44 (0 + dd_) = S0_.2.2.1 44 (0 + dd_) := fr_arr hF_ rfl
      have f42_ : S_.2.2.1 42 (0 + dd_) = S0_.2.2.1 42 (0 + dd_) := fr_arr hF_ rfl
      have f43_ : S_.2.2.1 43 (0 + dd_) = S0_.2.2.1 43 (0 + dd_) := fr_arr hF_ rfl
      have f45_ : S_.2.2.1 45 (0 + dd_) = S0_.2.2.1 45 (0 + dd_) := fr_arr hF_ rfl
      have f46_ : S_.2.2.1 46 (0 + dd_) = S0_.2.2.1 46 (0 + dd_) := fr_arr hF_ rfl
      refine sm_T_go 2 (c1 := (46, [some (.inr (.inr (some (3, dd_)))), some (.inr (.inr (some (33, 0)))), some (.inl c_), some (.inl n_)], [.inr (.inr (some (3, dd_))), .inl n_], S_)) rfl ?_
      refine sm_T_cal (d1 := 0) (Q1 := vq_63 dd_ S_) rfl rfl (by decide) (vc_63 dd_ S_ hI_ (by omega)) (fun u_ Sx1_ px4_ => ?_)
      obtain ⟨rfl, vx6_, rfl, px4_⟩ := px4_
      have e46_ := px4_
      refine sm_T_br (a := 2) (z := 48) rfl (fun cx7_ => ?_) (fun cx7_ => ?_)
      · have cx7_ : n_ < vx6_ := of_decide_eq_true cx7_
        refine sm_T_go 1 (c1 := (98, [some (.inr (.inr (some (3, dd_)))), some (.inr (.inr (some (33, 0)))), some (.inl c_), some (.inl n_)], [.inl c_], S_)) rfl ?_
        refine sm_T_ri rfl ⟨_, _, rfl, _, rfl, hI_, hF_, ?_⟩
        refine ⟨⟨by omega, fun j9_ hj9_ => ?_, fun i9_ q8_ q9_ => ?_, fun j9_ q7_ q8_ q9_ => ?_⟩, hnd_.1.trans (by rw [show (S0_.1 3 dd_ 4 - 1 - n_).toNat = (S0_.1 3 dd_ 4).toNat - F_ by omega]; rfl)⟩
        · have q9_ := hz_ j9_ hj9_; rw [e4_, f44_]; exact q9_
        · have q7_ := hq_ i9_ q8_ (by omega); unfold srp rtv; rw [e3_, f44_, f45_, f46_]; exact q7_
        · have q6_ := hc_ j9_ (by omega) q7_ (by omega) q9_; unfold srp; rw [f42_, f43_, f44_]; exact q6_
      · have cx7_ : ¬ (n_ < vx6_) := of_decide_eq_false cx7_
        have gn_ := hg_.2.2 n_.toNat (by omega) (by omega)
        rw [← f42_, ← f43_] at gn_
        refine sm_T_go 2 (c1 := (54, [some (.inr (.inr (some (3, dd_)))), some (.inr (.inr (some (33, 0)))), some (.inl c_), some (.inl n_)], [.inl n_, .inr (.inr (some (33, 0)))], S_)) rfl ?_
        refine sm_T_iald (n := 1013) rfl rfl (by omega) (by omega) ?_
        have bx8_ : 0 ≤ S_.2.2.1 33 0 n_.toNat ∧ S_.2.2.1 33 0 n_.toNat ≤ 1012 := hI_.2 33 0 _
        refine sm_T_b0 (a := 0) (z := 36) rfl (fun cx9_ => ?_) (fun cx9_ => ?_)
        · have cx9_ : (S_.2.2.1 33 0 n_.toNat) = 0 := of_decide_eq_true cx9_
          refine sm_T_inc (a := 3) (z := (-1)) (v := n_) (w := n_ - 1) rfl rfl (by omega) (by omega) (by omega) ?_
          refine sm_T_go 1 (c1 := (44, [some (.inr (.inr (some (3, dd_)))), some (.inr (.inr (some (33, 0)))), some (.inl c_), some (.inl (n_ - 1))], [], S_)) rfl ?_
          refine ih_.2 c_ (n_ - 1) S_ hI_ hF_ ⟨?_, ?_, ?_, ?_, ?_, trivial⟩ ?_
          · have j9_ : ∀ x9_ : Int, x9_ = n_ - 1 → (S0_.1 3 dd_ 4 - 1 - x9_).toNat = (S0_.1 3 dd_ 4 - 1 - n_).toNat + 1 := fun x9_ y9_ => by omega
            rw [j9_ _ (by omega)]
            exact ndi_n (n_ := n_.toNat) hnd_ (by omega) (by omega) (by omega)
          · omega
          · exact hz_
          · exact hq_
          · intro j9_ q6_ q7_ q8_ q9_
            by_cases z9_ : (j9_ : Int) = n_
            · exfalso; rw [show j9_ = n_.toNat by omega] at q9_; omega
            · exact hc_ j9_ (by omega) q7_ q8_ q9_
          · omega
        · have cx9_ : ¬ ((S_.2.2.1 33 0 n_.toNat) = 0) := of_decide_eq_false cx9_
          refine sm_T_inc (a := 2) (z := 1) (v := c_) (w := c_ + 1) rfl rfl (by omega) (by omega) (by omega) ?_
          refine sm_T_go 5 (c1 := (68, [some (.inr (.inr (some (3, dd_)))), some (.inr (.inr (some (33, 0)))), some (.inl (c_ + 1)), some (.inl n_)], [.inl n_, .inr (.inr (some (42, (0 + dd_)))), .inr (.inr (some (3, dd_))), .inr (.inr (some (33, 0)))], S_)) rfl ?_
          refine sm_T_iald (n := 1013) rfl rfl (by omega) (by omega) ?_
          have bx10_ : 0 ≤ S_.2.2.1 42 (0 + dd_) n_.toNat ∧ S_.2.2.1 42 (0 + dd_) n_.toNat ≤ 2025 := hI_.2 42 (0 + dd_) _
          refine sm_T_cal (d1 := 0) (Q1 := vq_64 (S_.2.2.1 42 (0 + dd_) n_.toNat) dd_ S_) rfl rfl (by decide) (vc_64 (S_.2.2.1 42 (0 + dd_) n_.toNat) dd_ S_ hI_ (by omega)) (fun u_ Sx11_ px14_ => ?_)
          obtain ⟨rfl, vx16_, rfl, px14_⟩ := px14_
          have e69_ := px14_
          rw [f44_, f42_] at e69_
          rw [f42_, f43_] at gn_
          have sw9_ := swl_n hs_ (l_ := S0_.2.2.1 42 (0 + dd_) n_.toNat) (by omega) (by omega) (by omega)
          rw [← e69_] at sw9_
          have sb9_ := srp_b hs_ (l_ := S0_.2.2.1 42 (0 + dd_) n_.toNat) (by omega) (by omega)
          have tl9_ : (vx16_ / 2).toNat = srp dd_ S0_ (S0_.2.2.1 42 (0 + dd_) n_.toNat) := by omega
          refine sm_T_go 1 (c1 := (73, [some (.inr (.inr (some (3, dd_)))), some (.inr (.inr (some (33, 0)))), some (.inl (c_ + 1)), some (.inl n_)], [.inl 1, .inl vx16_, .inr (.inr (some (33, 0)))], S_)) rfl ?_
          refine sm_T_bin (w := (vx16_ / 2)) rfl (bi_shr (k := 1) (by decide) (by omega) (by omega)) ?_
          refine sm_T_go 1 (c1 := (75, [some (.inr (.inr (some (3, dd_)))), some (.inr (.inr (some (33, 0)))), some (.inl (c_ + 1)), some (.inl n_)], [.inl 1, .inl (vx16_ / 2), .inr (.inr (some (33, 0)))], S_)) rfl ?_
          refine sm_T_iast (n := 1013) rfl rfl (by omega) (by omega) ?_
          have hIx17_ : gi (sm_aI S_ 33 0 (vx16_ / 2).toNat 1) := gi_aI hI_ (show 0 ≤ 1 ∧ 1 ≤ 1012 from ⟨by omega, by omega⟩)
          have hFx18_ : ai_fr (sx_W vw_67sn) S0_ (sm_aI S_ 33 0 (vx16_ / 2).toNat 1) := ai_fr_tr hF_ (ai_fr_aI rfl)
          refine sm_T_go 5 (c1 := (83, [some (.inr (.inr (some (3, dd_)))), some (.inr (.inr (some (33, 0)))), some (.inl (c_ + 1)), some (.inl n_)], [.inl n_, .inr (.inr (some (43, (0 + dd_)))), .inr (.inr (some (3, dd_))), .inr (.inr (some (33, 0)))], sm_aI S_ 33 0 (vx16_ / 2).toNat 1)) rfl ?_
          refine sm_T_iald (n := 1013) rfl rfl (by omega) (by omega) ?_
          have bx19_ : 0 ≤ S_.2.2.1 43 (0 + dd_) n_.toNat ∧ S_.2.2.1 43 (0 + dd_) n_.toNat ≤ 2025 := hI_.2 43 (0 + dd_) _
          refine sm_T_go 0 (c1 := (84, [some (.inr (.inr (some (3, dd_)))), some (.inr (.inr (some (33, 0)))), some (.inl (c_ + 1)), some (.inl n_)], [.inl (S_.2.2.1 43 (0 + dd_) n_.toNat), .inr (.inr (some (3, dd_))), .inr (.inr (some (33, 0)))], sm_aI S_ 33 0 (vx16_ / 2).toNat 1)) rfl ?_
          refine sm_T_cal (d1 := 0) (Q1 := vq_64 (S_.2.2.1 43 (0 + dd_) n_.toNat) dd_ (sm_aI S_ 33 0 (vx16_ / 2).toNat 1)) rfl rfl (by decide) (vc_64 (S_.2.2.1 43 (0 + dd_) n_.toNat) dd_ (sm_aI S_ 33 0 (vx16_ / 2).toNat 1) hIx17_ (by (rw [f43_]; omega))) (fun u_ Sx20_ px23_ => ?_)
          obtain ⟨rfl, vx25_, rfl, px23_⟩ := px23_
          have e84_ := px23_
          simp only [rd_ne, ne_eq, Nat.reduceEqDiff, not_false_eq_true] at e84_
          rw [f44_, f43_] at e84_
          have sw8_ := swl_n hs_ (l_ := S0_.2.2.1 43 (0 + dd_) n_.toNat) (by omega) (by omega) (by omega)
          rw [← e84_] at sw8_
          have sb8_ := srp_b hs_ (l_ := S0_.2.2.1 43 (0 + dd_) n_.toNat) (by omega) (by omega)
          have th9_ : (vx25_ / 2).toNat = srp dd_ S0_ (S0_.2.2.1 43 (0 + dd_) n_.toNat) := by omega
          refine sm_T_go 1 (c1 := (88, [some (.inr (.inr (some (3, dd_)))), some (.inr (.inr (some (33, 0)))), some (.inl (c_ + 1)), some (.inl n_)], [.inl 1, .inl vx25_, .inr (.inr (some (33, 0)))], sm_aI S_ 33 0 (vx16_ / 2).toNat 1)) rfl ?_
          refine sm_T_bin (w := (vx25_ / 2)) rfl (bi_shr (k := 1) (by decide) (by omega) (by omega)) ?_
          refine sm_T_go 1 (c1 := (90, [some (.inr (.inr (some (3, dd_)))), some (.inr (.inr (some (33, 0)))), some (.inl (c_ + 1)), some (.inl n_)], [.inl 1, .inl (vx25_ / 2), .inr (.inr (some (33, 0)))], sm_aI S_ 33 0 (vx16_ / 2).toNat 1)) rfl ?_
          refine sm_T_iast (n := 1013) rfl rfl (by omega) (by omega) ?_
          have hIx26_ : gi (sm_aI (sm_aI S_ 33 0 (vx16_ / 2).toNat 1) 33 0 (vx25_ / 2).toNat 1) := gi_aI hIx17_ (show 0 ≤ 1 ∧ 1 ≤ 1012 from ⟨by omega, by omega⟩)
          have hFx27_ : ai_fr (sx_W vw_67sn) S0_ (sm_aI (sm_aI S_ 33 0 (vx16_ / 2).toNat 1) 33 0 (vx25_ / 2).toNat 1) := ai_fr_tr hFx18_ (ai_fr_aI rfl)
          refine sm_T_inc (a := 3) (z := (-1)) (v := n_) (w := n_ - 1) rfl rfl (by omega) (by omega) (by omega) ?_
          refine sm_T_go 1 (c1 := (44, [some (.inr (.inr (some (3, dd_)))), some (.inr (.inr (some (33, 0)))), some (.inl (c_ + 1)), some (.inl (n_ - 1))], [], sm_aI (sm_aI S_ 33 0 (vx16_ / 2).toNat 1) 33 0 (vx25_ / 2).toNat 1)) rfl ?_
          refine ih_.2 (c_ + 1) (n_ - 1) (sm_aI (sm_aI S_ 33 0 (vx16_ / 2).toNat 1) 33 0 (vx25_ / 2).toNat 1) hIx26_ hFx27_ ⟨?_, ?_, ?_, ?_, ?_, trivial⟩ ?_
          · have j9_ : ∀ x9_ : Int, x9_ = n_ - 1 → (S0_.1 3 dd_ 4 - 1 - x9_).toNat = (S0_.1 3 dd_ 4 - 1 - n_).toNat + 1 := fun x9_ y9_ => by omega
            rw [j9_ _ (by omega)]
            refine ndi_y (n_ := n_.toNat) hnd_ ?_ (by omega) (by omega) (fun q9_ => ?_)
            · rcases hz_ n_.toNat (by omega) with z9_ | z9_
              · exfalso; omega
              · exact z9_.1
            · rw [rd_eq, rd_eq]
              show _ = if q9_ = srp dd_ S0_ (S0_.2.2.1 43 (0 + dd_) n_.toNat) then 1 else if q9_ = srp dd_ S0_ (S0_.2.2.1 42 (0 + dd_) n_.toNat) then 1 else _
              rw [← tl9_, ← th9_]
          · omega
          · intro j9_ hj9_
            rw [rd_eq]
            by_cases z9_ : j9_ = srp dd_ S0_ (S0_.2.2.1 43 (0 + dd_) n_.toNat)
            · rw [if_pos (by omega)]; right; rw [z9_]; exact ⟨rfl, by omega, sb8_.2.1⟩
            · rw [if_neg (by omega), rd_eq]
              by_cases y9_ : j9_ = srp dd_ S0_ (S0_.2.2.1 42 (0 + dd_) n_.toNat)
              · rw [if_pos (by omega)]; right; rw [y9_]; exact ⟨rfl, by omega, sb9_.2.1⟩
              · rw [if_neg (by omega)]; exact hz_ j9_ hj9_
          · intro i9_ q8_ q9_
            rw [rd_eq]
            split
            · rfl
            · rw [rd_eq]; split; rfl; exact hq_ i9_ q8_ q9_
          · have mono : ∀ j8_ : Nat, S_.2.2.1 33 0 j8_ = 1 → ((sm_aI (sm_aI S_ 33 0 (vx16_ / 2).toNat 1) 33 0 (vx25_ / 2).toNat 1)).2.2.1 33 0 j8_ = 1 := fun j8_ w8_ => by rw [rd_eq]; split; rfl; (rw [rd_eq]; split; rfl; exact w8_)
            intro j9_ q6_ q7_ q8_ q9_
            by_cases z9_ : (j9_ : Int) = n_
            · rw [show j9_ = n_.toNat by omega]
              refine ⟨?_, ?_⟩
              · rw [rd_eq]; split; rfl; (rw [rd_eq, if_pos (by omega)])
              · rw [rd_eq, if_pos (by omega)]
            · have lt9_ := hg_.2.2 j9_ q7_ q8_
              have q5_ : S_.2.2.1 33 0 j9_ = 1 := by rw [rd_eq, if_neg (by omega), rd_eq, if_neg (by omega)] at q9_; exact q9_
              have w9_ := hc_ j9_ (by omega) q7_ q8_ q5_
              exact ⟨mono _ w9_.1, mono _ w9_.2⟩
          · omega
set_option maxHeartbeats 2000000 in
theorem vc_67sn {sc_ : Nat × (Nat → Int)} (dd_ : Nat) (F_ : Nat) (S0_ : sm_S) (hI_ : gi S0_) (hg_ : dgr dd_ F_ S0_) (hr_ : drt dd_ S0_) (hs_ : swp dd_ F_ S0_) : sm_T (mt_P sc_) 1 67 (0, [some (.inr (.inr (some (3, dd_)))), some (.inr (.inr (some (33, 0)))), none, none], [], S0_) (fun ro9_ => ∃ u_ S1_, ro9_ = (.inl u_, S1_, 0) ∧ vq_67sn dd_ F_ S0_ u_ S1_) := by
  have hF_ : ai_fr (sx_W vw_67sn) S0_ S0_ := ai_fr_rf
  refine sm_T_go 2 (c1 := (2, [some (.inr (.inr (some (3, dd_)))), some (.inr (.inr (some (33, 0)))), none, none], [.inl 0, .inr (.inr (some (33, 0)))], S0_)) rfl ?_
  refine sm_T_cal (d1 := 0) (Q1 := vq_2s 0 S0_) rfl rfl (by decide) (vc_2s 0 S0_ hI_ (by decide)) (fun u_ Sx1_ px4_ => ?_)
  obtain ⟨rfl, hIx2_, hFx3_, px4_⟩ := px4_
  have hFx5_ : ai_fr (sx_W vw_67sn) S0_ Sx1_ := ai_fr_tr hF_ (fr_le hFx3_ rfl)
  have e0_ := px4_
  refine sm_T_go 2 (c1 := (7, [some (.inr (.inr (some (3, dd_)))), some (.inr (.inr (some (33, 0)))), some (.inl 0), none], [], Sx1_)) rfl ?_
  refine (vl_67sn dd_ F_ S0_ hg_ hr_ hs_ _).1 0 Sx1_ hIx2_ hFx5_ ⟨?_, ?_, ?_, ?_, trivial⟩ (Nat.lt_succ_self _)
  · (have g1_ := hg_.1; have g2_ := hg_.2.1; exact ni0_0 (fun q9_ hq9_ => e0_ q9_ (by omega)))
  · (have r1_ := hr_.1; omega)
  · (intro j9_ hj9_; left; exact e0_ j9_ hj9_)
  · (intro i9_ q8_ q9_; omega)
/-! M_.countNeeded -/
def vw_356n : sx_Wl := ([], [173], [])
def vq_356n (o_ : Int) (F_ : Nat) (S0_ : sm_S) (u_ : Option sm_V) (S1_ : sm_S) : Prop := ∃ v_ : Int, u_ = some (.inl v_) ∧ gi S1_ ∧ ai_fr (sx_W vw_356n) S0_ S1_ ∧ ((0 ≤ v_ ∧ v_ ≤ 1000) ∧ v_ = ndc F_ (S0_.1 13 0 37).toNat (o_ + S0_.1 13 0 53).toNat (S0_.2.2.1 172 0) (S0_.2.2.1 140 0) (S0_.2.2.1 141 0) (fun j_ => if (j_ : Int) < o_ then S0_.2.2.1 175 0 j_ else S0_.2.2.1 151 0 (j_ - o_.toNat)))
set_option maxHeartbeats 1500000 in
theorem vl_356n {sc_ : Nat × (Nat → Int)} (o_ : Int) (F_ : Nat) (S0_ : sm_S) (hg_ : rgr F_ S0_) (hr_ : rrt o_ S0_) (hs_ : rsw F_ S0_) : ∀ nn_ : Nat, (∀ (k_ : Int) (S_ : sm_S), gi S_ → ai_fr (sx_W vw_356n) S0_ S_ → ((∀ q9_ : Nat, (q9_ : Int) < k_ → S_.2.2.1 173 0 q9_ = 0) ∧ (0 ≤ k_ ∧ k_ ≤ S0_.1 13 0 37) ∧ True) → ((9000 - k_).toNat) < nn_ → sm_T (mt_P sc_) 1 356 (2, [some (.inr (.inr (some (13, 0)))), some (.inl o_), some (.inl k_), none], [], S_) (fun ro9_ => ∃ u_ S1_, ro9_ = (.inl u_, S1_, 0) ∧ vq_356n o_ F_ S0_ u_ S1_)) ∧ (∀ (k_ : Int) (S_ : sm_S), gi S_ → ai_fr (sx_W vw_356n) S0_ S_ → ((ni0 (S0_.1 13 0 37).toNat k_.toNat (S0_.2.2.1 172 0) (fun j_ => if (j_ : Int) < o_ then S0_.2.2.1 175 0 j_ else S0_.2.2.1 151 0 (j_ - o_.toNat)) (S_.2.2.1 173 0) ∧ k_ ≤ o_) ∧ (0 ≤ k_ ∧ k_ ≤ 16) ∧ True) → ((5000 - k_).toNat) < nn_ → sm_T (mt_P sc_) 1 356 (25, [some (.inr (.inr (some (13, 0)))), some (.inl o_), some (.inl k_), none], [], S_) (fun ro9_ => ∃ u_ S1_, ro9_ = (.inl u_, S1_, 0) ∧ vq_356n o_ F_ S0_ u_ S1_)) ∧ (∀ (k_ : Int) (S_ : sm_S), gi S_ → ai_fr (sx_W vw_356n) S0_ S_ → ((ni0 (S0_.1 13 0 37).toNat (o_ + k_).toNat (S0_.2.2.1 172 0) (fun j_ => if (j_ : Int) < o_ then S0_.2.2.1 175 0 j_ else S0_.2.2.1 151 0 (j_ - o_.toNat)) (S_.2.2.1 173 0) ∧ k_ ≤ S0_.1 13 0 53) ∧ (0 ≤ k_ ∧ k_ ≤ 6) ∧ True) → ((4000 - k_).toNat) < nn_ → sm_T (mt_P sc_) 1 356 (56, [some (.inr (.inr (some (13, 0)))), some (.inl o_), some (.inl k_), none], [], S_) (fun ro9_ => ∃ u_ S1_, ro9_ = (.inl u_, S1_, 0) ∧ vq_356n o_ F_ S0_ u_ S1_)) ∧ (∀ (c_ : Int) (n_ : Int) (S_ : sm_S), gi S_ → ai_fr (sx_W vw_356n) S0_ S_ → ((ndi (S0_.1 13 0 37).toNat (S0_.1 13 0 37 - 1 - n_).toNat (S0_.2.2.1 172 0) (S0_.2.2.1 140 0) (S0_.2.2.1 141 0) (nd0 (S0_.2.2.1 172 0) (fun j_ => if (j_ : Int) < o_ then S0_.2.2.1 175 0 j_ else S0_.2.2.1 151 0 (j_ - o_.toNat)) (o_ + S0_.1 13 0 53).toNat) (S_.2.2.1 173 0) c_) ∧ ((F_ : Int) - 1 ≤ n_ ∧ n_ < S0_.1 13 0 37 ∧ 0 ≤ c_ ∧ c_ ≤ S0_.1 13 0 37 - 1 - n_) ∧ True) → ((n_ + 1).toNat) < nn_ → sm_T (mt_P sc_) 1 356 (97, [some (.inr (.inr (some (13, 0)))), some (.inl o_), some (.inl c_), some (.inl n_)], [], S_) (fun ro9_ => ∃ u_ S1_, ro9_ = (.inl u_, S1_, 0) ∧ vq_356n o_ F_ S0_ u_ S1_)) := by
  intro nn_
  induction nn_ with
  | zero => exact ⟨fun _ _ _ _ _ h_ => absurd h_ (Nat.not_lt_zero _), fun _ _ _ _ _ h_ => absurd h_ (Nat.not_lt_zero _), fun _ _ _ _ _ h_ => absurd h_ (Nat.not_lt_zero _), fun _ _ _ _ _ _ h_ => absurd h_ (Nat.not_lt_zero _)⟩
  | succ nn_ ih_ =>
    refine ⟨?_, ?_, ?_, ?_⟩
    · rintro k_ S_ hI_ hF_ ⟨hz_, h0_, -⟩ hm_
      have g1_ := hg_.1
      have g2_ := hg_.2.1
      have e37_ : S_.1 13 0 37 = S0_.1 13 0 37 := hF_.1 13 0 37 rfl
      have e38_ : S_.1 13 0 38 = S0_.1 13 0 38 := hF_.1 13 0 38 rfl
      have e53_ : S_.1 13 0 53 = S0_.1 13 0 53 := hF_.1 13 0 53 rfl
      have f40_ : S_.2.2.1 140 0 = S0_.2.2.1 140 0 := fr_arr hF_ rfl
      have f41_ : S_.2.2.1 141 0 = S0_.2.2.1 141 0 := fr_arr hF_ rfl
      have r1_ := hr_.1
      have r2_ := hr_.2.1
      have f75_ : S_.2.2.1 175 0 = S0_.2.2.1 175 0 := fr_arr hF_ rfl
      have f51_ : S_.2.2.1 151 0 = S0_.2.2.1 151 0 := fr_arr hF_ rfl
      have f72_ : S_.2.2.1 172 0 = S0_.2.2.1 172 0 := fr_arr hF_ rfl
      have n13_ : S0_.1 13 0 37 ≤ 1013 := by omega
      have bx1_ : 0 ≤ S_.1 13 0 37 ∧ S_.1 13 0 37 ≤ 1014 := hI_.1 13 0 37 rfl
      refine sm_T_go 3 (c1 := (7, [some (.inr (.inr (some (13, 0)))), some (.inl o_), some (.inl k_), none], [.inl (S_.1 13 0 37), .inl k_], S_)) rfl ?_
      refine sm_T_br (a := 3) (z := 16) rfl (fun cx2_ => ?_) (fun cx2_ => ?_)
      · have cx2_ : (S_.1 13 0 37) ≤ k_ := of_decide_eq_true cx2_
        refine sm_T_go 2 (c1 := (25, [some (.inr (.inr (some (13, 0)))), some (.inl o_), some (.inl 0), none], [], S_)) rfl ?_
        refine ih_.2.1 0 S_ hI_ hF_ ⟨?_, ?_, trivial⟩ ?_
        · exact ⟨ni0_0 (fun q9_ hq9_ => hz_ q9_ (by omega)), by omega⟩
        · omega
        · omega
      · have cx2_ : ¬ ((S_.1 13 0 37) ≤ k_) := of_decide_eq_false cx2_
        refine sm_T_go 4 (c1 := (16, [some (.inr (.inr (some (13, 0)))), some (.inl o_), some (.inl k_), none], [.inl 0, .inl k_, .inr (.inr (some (173, 0)))], S_)) rfl ?_
        refine sm_T_zas1 (n := 2048) rfl rfl (by omega) (by omega) (by omega) ?_
        have hIx3_ : gi (sm_aI S_ 173 0 k_.toNat 0) := gi_aI hI_ (show 0 ≤ 0 ∧ 0 ≤ 1 from ⟨by omega, by omega⟩)
        have hFx4_ : ai_fr (sx_W vw_356n) S0_ (sm_aI S_ 173 0 k_.toNat 0) := ai_fr_tr hF_ (ai_fr_aI rfl)
        refine sm_T_inc (a := 2) (z := 1) (v := k_) (w := k_ + 1) rfl rfl (by omega) (by omega) (by omega) ?_
        refine sm_T_go 1 (c1 := (2, [some (.inr (.inr (some (13, 0)))), some (.inl o_), some (.inl (k_ + 1)), none], [], sm_aI S_ 173 0 k_.toNat 0)) rfl ?_
        refine ih_.1 (k_ + 1) (sm_aI S_ 173 0 k_.toNat 0) hIx3_ hFx4_ ⟨?_, ?_, trivial⟩ ?_
        · intro q9_ hq9_
          rw [rd_eq]
          by_cases z9_ : q9_ = k_.toNat
          · rw [if_pos z9_]
          · rw [if_neg z9_]; exact hz_ q9_ (by omega)
        · omega
        · omega
    · rintro k_ S_ hI_ hF_ ⟨hnd_, h0_, -⟩ hm_
      have g1_ := hg_.1
      have g2_ := hg_.2.1
      have e37_ : S_.1 13 0 37 = S0_.1 13 0 37 := hF_.1 13 0 37 rfl
      have e38_ : S_.1 13 0 38 = S0_.1 13 0 38 := hF_.1 13 0 38 rfl
      have e53_ : S_.1 13 0 53 = S0_.1 13 0 53 := hF_.1 13 0 53 rfl
      have f40_ : S_.2.2.1 140 0 = S0_.2.2.1 140 0 := fr_arr hF_ rfl
      have f41_ : S_.2.2.1 141 0 = S0_.2.2.1 141 0 := fr_arr hF_ rfl
      have r1_ := hr_.1
      have r2_ := hr_.2.1
      have f75_ : S_.2.2.1 175 0 = S0_.2.2.1 175 0 := fr_arr hF_ rfl
      have f51_ : S_.2.2.1 151 0 = S0_.2.2.1 151 0 := fr_arr hF_ rfl
      have f72_ : S_.2.2.1 172 0 = S0_.2.2.1 172 0 := fr_arr hF_ rfl
      have n13_ : S0_.1 13 0 37 ≤ 1013 := by omega
      refine sm_T_go 2 (c1 := (27, [some (.inr (.inr (some (13, 0)))), some (.inl o_), some (.inl k_), none], [.inl o_, .inl k_], S_)) rfl ?_
      refine sm_T_br (a := 3) (z := 27) rfl (fun cx1_ => ?_) (fun cx1_ => ?_)
      · have cx1_ : o_ ≤ k_ := of_decide_eq_true cx1_
        refine sm_T_go 2 (c1 := (56, [some (.inr (.inr (some (13, 0)))), some (.inl o_), some (.inl 0), none], [], S_)) rfl ?_
        refine ih_.2.2.1 0 S_ hI_ hF_ ⟨?_, ?_, trivial⟩ ?_
        · refine ⟨?_, by omega⟩
          rw [show (o_ + 0).toNat = k_.toNat by omega]
          exact hnd_.1
        · omega
        · omega
      · have cx1_ : ¬ (o_ ≤ k_) := of_decide_eq_false cx1_
        have ro_ := hr_.2.2.1 k_.toNat (by omega)
        rw [← f75_] at ro_
        refine sm_T_go 6 (c1 := (40, [some (.inr (.inr (some (13, 0)))), some (.inl o_), some (.inl k_), none], [.inl k_, .inr (.inr (some (175, 0))), .inr (.inr (some (13, 0))), .inr (.inr (some (173, 0)))], S_)) rfl ?_
        refine sm_T_iald (n := 16) rfl rfl (by omega) (by omega) ?_
        have bx2_ : 0 ≤ S_.2.2.1 175 0 k_.toNat ∧ S_.2.2.1 175 0 k_.toNat ≤ 2047 := hI_.2 175 0 _
        refine sm_T_cal (d1 := 0) (Q1 := vq_355 (S_.2.2.1 175 0 k_.toNat) S_) rfl rfl (by decide) (vc_355 (S_.2.2.1 175 0 k_.toNat) S_ hI_ (by omega)) (fun u_ Sx3_ px6_ => ?_)
        obtain ⟨rfl, vx8_, rfl, px6_⟩ := px6_
        have e41_ := px6_
        rw [f75_] at ro_
        rw [f72_, f75_] at e41_
        have sw41_ := rsl_n hs_ (l_ := S0_.2.2.1 175 0 k_.toNat) (by omega) (by omega) n13_
        rw [← e41_] at sw41_
        have nw41_ := nsw_r hs_ (l_ := S0_.2.2.1 175 0 k_.toNat) (by omega) (by omega) n13_
        rw [← e41_] at nw41_
        refine sm_T_go 1 (c1 := (45, [some (.inr (.inr (some (13, 0)))), some (.inl o_), some (.inl k_), none], [.inl 1, .inl vx8_, .inr (.inr (some (173, 0)))], S_)) rfl ?_
        refine sm_T_bin (w := (vx8_ / 2)) rfl (bi_shr (k := 1) (by decide) (by omega) (by omega)) ?_
        refine sm_T_go 1 (c1 := (47, [some (.inr (.inr (some (13, 0)))), some (.inl o_), some (.inl k_), none], [.inl 1, .inl (vx8_ / 2), .inr (.inr (some (173, 0)))], S_)) rfl ?_
        refine sm_T_zas1 (n := 2048) rfl rfl (by omega) (by omega) (by omega) ?_
        have hIx9_ : gi (sm_aI S_ 173 0 (vx8_ / 2).toNat 1) := gi_aI hI_ (show 0 ≤ 1 ∧ 1 ≤ 1 from ⟨by omega, by omega⟩)
        have hFx10_ : ai_fr (sx_W vw_356n) S0_ (sm_aI S_ 173 0 (vx8_ / 2).toNat 1) := ai_fr_tr hF_ (ai_fr_aI rfl)
        refine sm_T_inc (a := 2) (z := 1) (v := k_) (w := k_ + 1) rfl rfl (by omega) (by omega) (by omega) ?_
        refine sm_T_go 1 (c1 := (25, [some (.inr (.inr (some (13, 0)))), some (.inl o_), some (.inl (k_ + 1)), none], [], sm_aI S_ 173 0 (vx8_ / 2).toNat 1)) rfl ?_
        refine ih_.2.1 (k_ + 1) (sm_aI S_ 173 0 (vx8_ / 2).toNat 1) hIx9_ hFx10_ ⟨?_, ?_, trivial⟩ ?_
        · refine ⟨?_, by omega⟩
          rw [show (k_ + 1).toNat = k_.toNat + 1 by omega]
          refine ni0_s hnd_.1 (fun q9_ => rd_eq.trans ?_)
          show _ = if q9_ = nsw (S0_.2.2.1 172 0) (if ((k_.toNat : Nat) : Int) < o_ then S0_.2.2.1 175 0 k_.toNat else S0_.2.2.1 151 0 (k_.toNat - o_.toNat)) then 1 else _
          rw [if_pos (show ((k_.toNat : Nat) : Int) < o_ by omega), ← nw41_]
        · omega
        · omega
    · rintro k_ S_ hI_ hF_ ⟨hnd_, h0_, -⟩ hm_
      have g1_ := hg_.1
      have g2_ := hg_.2.1
      have e37_ : S_.1 13 0 37 = S0_.1 13 0 37 := hF_.1 13 0 37 rfl
      have e38_ : S_.1 13 0 38 = S0_.1 13 0 38 := hF_.1 13 0 38 rfl
      have e53_ : S_.1 13 0 53 = S0_.1 13 0 53 := hF_.1 13 0 53 rfl
      have f40_ : S_.2.2.1 140 0 = S0_.2.2.1 140 0 := fr_arr hF_ rfl
      have f41_ : S_.2.2.1 141 0 = S0_.2.2.1 141 0 := fr_arr hF_ rfl
      have r1_ := hr_.1
      have r2_ := hr_.2.1
      have f75_ : S_.2.2.1 175 0 = S0_.2.2.1 175 0 := fr_arr hF_ rfl
      have f51_ : S_.2.2.1 151 0 = S0_.2.2.1 151 0 := fr_arr hF_ rfl
      have f72_ : S_.2.2.1 172 0 = S0_.2.2.1 172 0 := fr_arr hF_ rfl
      have n13_ : S0_.1 13 0 37 ≤ 1013 := by omega
      have bx1_ : 0 ≤ S_.1 13 0 53 ∧ S_.1 13 0 53 ≤ 6 := hI_.1 13 0 53 rfl
      refine sm_T_go 3 (c1 := (61, [some (.inr (.inr (some (13, 0)))), some (.inl o_), some (.inl k_), none], [.inl (S_.1 13 0 53), .inl k_], S_)) rfl ?_
      refine sm_T_br (a := 3) (z := 27) rfl (fun cx2_ => ?_) (fun cx2_ => ?_)
      · have cx2_ : (S_.1 13 0 53) ≤ k_ := of_decide_eq_true cx2_
        have bx3_ : 0 ≤ S_.1 13 0 37 ∧ S_.1 13 0 37 ≤ 1014 := hI_.1 13 0 37 rfl
        refine sm_T_go 5 (c1 := (95, [some (.inr (.inr (some (13, 0)))), some (.inl o_), some (.inl 0), none], [.inl 1, .inl (S_.1 13 0 37)], S_)) rfl ?_
        refine sm_T_bin (w := (S_.1 13 0 37) - 1) rfl (bi_sub (by omega) (by omega) (by omega)) ?_
        refine sm_T_go 1 (c1 := (97, [some (.inr (.inr (some (13, 0)))), some (.inl o_), some (.inl 0), some (.inl ((S_.1 13 0 37) - 1))], [], S_)) rfl ?_
        refine ih_.2.2.2 0 ((S_.1 13 0 37) - 1) S_ hI_ hF_ ⟨?_, ?_, trivial⟩ ?_
        · have j9_ : ∀ x9_ : Int, x9_ = S0_.1 13 0 37 - 1 → (S0_.1 13 0 37 - 1 - x9_).toNat = 0 := fun x9_ y9_ => by omega
          rw [j9_ _ (by omega), show (o_ + S0_.1 13 0 53).toNat = (o_ + k_).toNat by omega]
          exact ndi_0 hnd_.1
        · omega
        · omega
      · have cx2_ : ¬ ((S_.1 13 0 53) ≤ k_) := of_decide_eq_false cx2_
        have ro_ := hr_.2.2.2 k_.toNat (by omega)
        rw [← f51_] at ro_
        refine sm_T_go 6 (c1 := (74, [some (.inr (.inr (some (13, 0)))), some (.inl o_), some (.inl k_), none], [.inl k_, .inr (.inr (some (151, 0))), .inr (.inr (some (13, 0))), .inr (.inr (some (173, 0)))], S_)) rfl ?_
        refine sm_T_iald (n := 1024) rfl rfl (by omega) (by omega) ?_
        have bx4_ : 0 ≤ S_.2.2.1 151 0 k_.toNat ∧ S_.2.2.1 151 0 k_.toNat ≤ 2047 := hI_.2 151 0 _
        refine sm_T_cal (d1 := 0) (Q1 := vq_355 (S_.2.2.1 151 0 k_.toNat) S_) rfl rfl (by decide) (vc_355 (S_.2.2.1 151 0 k_.toNat) S_ hI_ (by omega)) (fun u_ Sx5_ px8_ => ?_)
        obtain ⟨rfl, vx10_, rfl, px8_⟩ := px8_
        have e75_ := px8_
        rw [f51_] at ro_
        rw [f72_, f51_] at e75_
        have sw75_ := rsl_n hs_ (l_ := S0_.2.2.1 151 0 k_.toNat) (by omega) (by omega) n13_
        rw [← e75_] at sw75_
        have nw75_ := nsw_r hs_ (l_ := S0_.2.2.1 151 0 k_.toNat) (by omega) (by omega) n13_
        rw [← e75_] at nw75_
        refine sm_T_go 1 (c1 := (79, [some (.inr (.inr (some (13, 0)))), some (.inl o_), some (.inl k_), none], [.inl 1, .inl vx10_, .inr (.inr (some (173, 0)))], S_)) rfl ?_
        refine sm_T_bin (w := (vx10_ / 2)) rfl (bi_shr (k := 1) (by decide) (by omega) (by omega)) ?_
        refine sm_T_go 1 (c1 := (81, [some (.inr (.inr (some (13, 0)))), some (.inl o_), some (.inl k_), none], [.inl 1, .inl (vx10_ / 2), .inr (.inr (some (173, 0)))], S_)) rfl ?_
        refine sm_T_zas1 (n := 2048) rfl rfl (by omega) (by omega) (by omega) ?_
        have hIx11_ : gi (sm_aI S_ 173 0 (vx10_ / 2).toNat 1) := gi_aI hI_ (show 0 ≤ 1 ∧ 1 ≤ 1 from ⟨by omega, by omega⟩)
        have hFx12_ : ai_fr (sx_W vw_356n) S0_ (sm_aI S_ 173 0 (vx10_ / 2).toNat 1) := ai_fr_tr hF_ (ai_fr_aI rfl)
        refine sm_T_inc (a := 2) (z := 1) (v := k_) (w := k_ + 1) rfl rfl (by omega) (by omega) (by omega) ?_
        refine sm_T_go 1 (c1 := (56, [some (.inr (.inr (some (13, 0)))), some (.inl o_), some (.inl (k_ + 1)), none], [], sm_aI S_ 173 0 (vx10_ / 2).toNat 1)) rfl ?_
        refine ih_.2.2.1 (k_ + 1) (sm_aI S_ 173 0 (vx10_ / 2).toNat 1) hIx11_ hFx12_ ⟨?_, ?_, trivial⟩ ?_
        · refine ⟨?_, by omega⟩
          rw [show (o_ + (k_ + 1)).toNat = (o_ + k_).toNat + 1 by omega]
          refine ni0_s hnd_.1 (fun q9_ => rd_eq.trans ?_)
          show _ = if q9_ = nsw (S0_.2.2.1 172 0) (if (((o_ + k_).toNat : Nat) : Int) < o_ then S0_.2.2.1 175 0 (o_ + k_).toNat else S0_.2.2.1 151 0 ((o_ + k_).toNat - o_.toNat)) then 1 else _
          rw [if_neg (show ¬ ((((o_ + k_).toNat : Nat) : Int) < o_) by omega), show (o_ + k_).toNat - o_.toNat = k_.toNat by omega, ← nw75_]
        · omega
        · omega
    · rintro c_ n_ S_ hI_ hF_ ⟨hnd_, h0_, -⟩ hm_
      have g1_ := hg_.1
      have g2_ := hg_.2.1
      have e37_ : S_.1 13 0 37 = S0_.1 13 0 37 := hF_.1 13 0 37 rfl
      have e38_ : S_.1 13 0 38 = S0_.1 13 0 38 := hF_.1 13 0 38 rfl
      have e53_ : S_.1 13 0 53 = S0_.1 13 0 53 := hF_.1 13 0 53 rfl
      have f40_ : S_.2.2.1 140 0 = S0_.2.2.1 140 0 := fr_arr hF_ rfl
      have f41_ : S_.2.2.1 141 0 = S0_.2.2.1 141 0 := fr_arr hF_ rfl
      have r1_ := hr_.1
      have r2_ := hr_.2.1
      have f75_ : S_.2.2.1 175 0 = S0_.2.2.1 175 0 := fr_arr hF_ rfl
      have f51_ : S_.2.2.1 151 0 = S0_.2.2.1 151 0 := fr_arr hF_ rfl
      have f72_ : S_.2.2.1 172 0 = S0_.2.2.1 172 0 := fr_arr hF_ rfl
      have n13_ : S0_.1 13 0 37 ≤ 1013 := by omega
      have bx1_ : 0 ≤ S_.1 13 0 38 ∧ S_.1 13 0 38 ≤ 19 := hI_.1 13 0 38 rfl
      refine sm_T_go 3 (c1 := (102, [some (.inr (.inr (some (13, 0)))), some (.inl o_), some (.inl c_), some (.inl n_)], [.inl (S_.1 13 0 38), .inl n_], S_)) rfl ?_
      refine sm_T_br (a := 2) (z := 57) rfl (fun cx2_ => ?_) (fun cx2_ => ?_)
      · have cx2_ : n_ < (S_.1 13 0 38) := of_decide_eq_true cx2_
        refine sm_T_go 1 (c1 := (160, [some (.inr (.inr (some (13, 0)))), some (.inl o_), some (.inl c_), some (.inl n_)], [.inl c_], S_)) rfl ?_
        refine sm_T_ri rfl ⟨_, _, rfl, _, rfl, hI_, hF_, ?_⟩
        exact ⟨by omega, hnd_.1.trans (by rw [show (S0_.1 13 0 37 - 1 - n_).toNat = (S0_.1 13 0 37).toNat - F_ by omega]; rfl)⟩
      · have cx2_ : ¬ (n_ < (S_.1 13 0 38)) := of_decide_eq_false cx2_
        have gn_ := hg_.2.2 n_.toNat (by omega) (by omega)
        rw [← f40_, ← f41_] at gn_
        refine sm_T_go 3 (c1 := (110, [some (.inr (.inr (some (13, 0)))), some (.inl o_), some (.inl c_), some (.inl n_)], [.inl n_, .inr (.inr (some (173, 0)))], S_)) rfl ?_
        refine sm_T_zald (n := 2048) rfl rfl (by omega) (by omega) ?_
        have bx3_ : 0 ≤ S_.2.2.1 173 0 n_.toNat ∧ S_.2.2.1 173 0 n_.toNat ≤ 1 := hI_.2 173 0 _
        refine sm_T_b0 (a := 0) (z := 42) rfl (fun cx4_ => ?_) (fun cx4_ => ?_)
        · have cx4_ : (S_.2.2.1 173 0 n_.toNat) = 0 := of_decide_eq_true cx4_
          refine sm_T_inc (a := 3) (z := (-1)) (v := n_) (w := n_ - 1) rfl rfl (by omega) (by omega) (by omega) ?_
          refine sm_T_go 1 (c1 := (97, [some (.inr (.inr (some (13, 0)))), some (.inl o_), some (.inl c_), some (.inl (n_ - 1))], [], S_)) rfl ?_
          refine ih_.2.2.2 c_ (n_ - 1) S_ hI_ hF_ ⟨?_, ?_, trivial⟩ ?_
          · have j9_ : ∀ x9_ : Int, x9_ = n_ - 1 → (S0_.1 13 0 37 - 1 - x9_).toNat = (S0_.1 13 0 37 - 1 - n_).toNat + 1 := fun x9_ y9_ => by omega
            rw [j9_ _ (by omega)]
            exact ndi_n (n_ := n_.toNat) hnd_ (by omega) (by omega) (by omega)
          · omega
          · omega
        · have cx4_ : ¬ ((S_.2.2.1 173 0 n_.toNat) = 0) := of_decide_eq_false cx4_
          refine sm_T_inc (a := 2) (z := 1) (v := c_) (w := c_ + 1) rfl rfl (by omega) (by omega) (by omega) ?_
          refine sm_T_go 6 (c1 := (127, [some (.inr (.inr (some (13, 0)))), some (.inl o_), some (.inl (c_ + 1)), some (.inl n_)], [.inl n_, .inr (.inr (some (140, 0))), .inr (.inr (some (13, 0))), .inr (.inr (some (173, 0)))], S_)) rfl ?_
          refine sm_T_iald (n := 2048) rfl rfl (by omega) (by omega) ?_
          have bx5_ : 0 ≤ S_.2.2.1 140 0 n_.toNat ∧ S_.2.2.1 140 0 n_.toNat ≤ 2047 := hI_.2 140 0 _
          refine sm_T_cal (d1 := 0) (Q1 := vq_355 (S_.2.2.1 140 0 n_.toNat) S_) rfl rfl (by decide) (vc_355 (S_.2.2.1 140 0 n_.toNat) S_ hI_ (by omega)) (fun u_ Sx6_ px9_ => ?_)
          obtain ⟨rfl, vx11_, rfl, px9_⟩ := px9_
          have e128_ := px9_
          rw [f40_, f41_] at gn_
          rw [f72_, f40_] at e128_
          have sw128_ := rsl_n hs_ (l_ := S0_.2.2.1 140 0 n_.toNat) (by omega) (by omega) n13_
          rw [← e128_] at sw128_
          have nw128_ := nsw_r hs_ (l_ := S0_.2.2.1 140 0 n_.toNat) (by omega) (by omega) n13_
          rw [← e128_] at nw128_
          refine sm_T_go 1 (c1 := (132, [some (.inr (.inr (some (13, 0)))), some (.inl o_), some (.inl (c_ + 1)), some (.inl n_)], [.inl 1, .inl vx11_, .inr (.inr (some (173, 0)))], S_)) rfl ?_
          refine sm_T_bin (w := (vx11_ / 2)) rfl (bi_shr (k := 1) (by decide) (by omega) (by omega)) ?_
          refine sm_T_go 1 (c1 := (134, [some (.inr (.inr (some (13, 0)))), some (.inl o_), some (.inl (c_ + 1)), some (.inl n_)], [.inl 1, .inl (vx11_ / 2), .inr (.inr (some (173, 0)))], S_)) rfl ?_
          refine sm_T_zas1 (n := 2048) rfl rfl (by omega) (by omega) (by omega) ?_
          have hIx12_ : gi (sm_aI S_ 173 0 (vx11_ / 2).toNat 1) := gi_aI hI_ (show 0 ≤ 1 ∧ 1 ≤ 1 from ⟨by omega, by omega⟩)
          have hFx13_ : ai_fr (sx_W vw_356n) S0_ (sm_aI S_ 173 0 (vx11_ / 2).toNat 1) := ai_fr_tr hF_ (ai_fr_aI rfl)
          refine sm_T_go 6 (c1 := (145, [some (.inr (.inr (some (13, 0)))), some (.inl o_), some (.inl (c_ + 1)), some (.inl n_)], [.inl n_, .inr (.inr (some (141, 0))), .inr (.inr (some (13, 0))), .inr (.inr (some (173, 0)))], sm_aI S_ 173 0 (vx11_ / 2).toNat 1)) rfl ?_
          refine sm_T_iald (n := 2048) rfl rfl (by omega) (by omega) ?_
          have bx14_ : 0 ≤ S_.2.2.1 141 0 n_.toNat ∧ S_.2.2.1 141 0 n_.toNat ≤ 2047 := hI_.2 141 0 _
          refine sm_T_go 0 (c1 := (146, [some (.inr (.inr (some (13, 0)))), some (.inl o_), some (.inl (c_ + 1)), some (.inl n_)], [.inl (S_.2.2.1 141 0 n_.toNat), .inr (.inr (some (13, 0))), .inr (.inr (some (173, 0)))], sm_aI S_ 173 0 (vx11_ / 2).toNat 1)) rfl ?_
          refine sm_T_cal (d1 := 0) (Q1 := vq_355 (S_.2.2.1 141 0 n_.toNat) (sm_aI S_ 173 0 (vx11_ / 2).toNat 1)) rfl rfl (by decide) (vc_355 (S_.2.2.1 141 0 n_.toNat) (sm_aI S_ 173 0 (vx11_ / 2).toNat 1) hIx12_ (by (rw [f41_]; omega))) (fun u_ Sx15_ px18_ => ?_)
          obtain ⟨rfl, vx20_, rfl, px18_⟩ := px18_
          have e146_ := px18_
          simp only [rd_ne, ne_eq, Nat.reduceEqDiff, not_false_eq_true] at e146_
          rw [f72_, f41_] at e146_
          have sw146_ := rsl_n hs_ (l_ := S0_.2.2.1 141 0 n_.toNat) (by omega) (by omega) n13_
          rw [← e146_] at sw146_
          have nw146_ := nsw_r hs_ (l_ := S0_.2.2.1 141 0 n_.toNat) (by omega) (by omega) n13_
          rw [← e146_] at nw146_
          refine sm_T_go 1 (c1 := (150, [some (.inr (.inr (some (13, 0)))), some (.inl o_), some (.inl (c_ + 1)), some (.inl n_)], [.inl 1, .inl vx20_, .inr (.inr (some (173, 0)))], sm_aI S_ 173 0 (vx11_ / 2).toNat 1)) rfl ?_
          refine sm_T_bin (w := (vx20_ / 2)) rfl (bi_shr (k := 1) (by decide) (by omega) (by omega)) ?_
          refine sm_T_go 1 (c1 := (152, [some (.inr (.inr (some (13, 0)))), some (.inl o_), some (.inl (c_ + 1)), some (.inl n_)], [.inl 1, .inl (vx20_ / 2), .inr (.inr (some (173, 0)))], sm_aI S_ 173 0 (vx11_ / 2).toNat 1)) rfl ?_
          refine sm_T_zas1 (n := 2048) rfl rfl (by omega) (by omega) (by omega) ?_
          have hIx21_ : gi (sm_aI (sm_aI S_ 173 0 (vx11_ / 2).toNat 1) 173 0 (vx20_ / 2).toNat 1) := gi_aI hIx12_ (show 0 ≤ 1 ∧ 1 ≤ 1 from ⟨by omega, by omega⟩)
          have hFx22_ : ai_fr (sx_W vw_356n) S0_ (sm_aI (sm_aI S_ 173 0 (vx11_ / 2).toNat 1) 173 0 (vx20_ / 2).toNat 1) := ai_fr_tr hFx13_ (ai_fr_aI rfl)
          refine sm_T_inc (a := 3) (z := (-1)) (v := n_) (w := n_ - 1) rfl rfl (by omega) (by omega) (by omega) ?_
          refine sm_T_go 1 (c1 := (97, [some (.inr (.inr (some (13, 0)))), some (.inl o_), some (.inl (c_ + 1)), some (.inl (n_ - 1))], [], sm_aI (sm_aI S_ 173 0 (vx11_ / 2).toNat 1) 173 0 (vx20_ / 2).toNat 1)) rfl ?_
          refine ih_.2.2.2 (c_ + 1) (n_ - 1) (sm_aI (sm_aI S_ 173 0 (vx11_ / 2).toNat 1) 173 0 (vx20_ / 2).toNat 1) hIx21_ hFx22_ ⟨?_, ?_, trivial⟩ ?_
          · have j9_ : ∀ x9_ : Int, x9_ = n_ - 1 → (S0_.1 13 0 37 - 1 - x9_).toNat = (S0_.1 13 0 37 - 1 - n_).toNat + 1 := fun x9_ y9_ => by omega
            rw [j9_ _ (by omega)]
            refine ndi_y (n_ := n_.toNat) hnd_ ?_ (by omega) (by omega) (fun q9_ => ?_)
            · have z9_ : 0 ≤ S_.2.2.1 173 0 n_.toNat ∧ S_.2.2.1 173 0 n_.toNat ≤ 1 := hI_.2 173 0 n_.toNat
              omega
            · rw [rd_eq, rd_eq, ← nw146_, ← nw128_]
          · omega
          · omega
set_option maxHeartbeats 1500000 in
theorem vc_356n {sc_ : Nat × (Nat → Int)} (o_ : Int) (F_ : Nat) (S0_ : sm_S) (hI_ : gi S0_) (hg_ : rgr F_ S0_) (hr_ : rrt o_ S0_) (hs_ : rsw F_ S0_) : sm_T (mt_P sc_) 1 356 (0, [some (.inr (.inr (some (13, 0)))), some (.inl o_), none, none], [], S0_) (fun ro9_ => ∃ u_ S1_, ro9_ = (.inl u_, S1_, 0) ∧ vq_356n o_ F_ S0_ u_ S1_) := by
  have hF_ : ai_fr (sx_W vw_356n) S0_ S0_ := ai_fr_rf
  refine sm_T_go 2 (c1 := (2, [some (.inr (.inr (some (13, 0)))), some (.inl o_), some (.inl 0), none], [], S0_)) rfl ?_
  refine (vl_356n o_ F_ S0_ hg_ hr_ hs_ _).1 0 S0_ hI_ hF_ ⟨?_, ?_, trivial⟩ (Nat.lt_succ_self _)
  · (intro q9_ hq9_; omega)
  · (have g1_ := hg_.1; have g2_ := hg_.2.1; omega)
end
/-! 99.ztW6 -/
section
/-! states that are reached, with their meaning; written by wip/p55/gen/vg -/

/-! states that are_ reached -/
theorem cn1_ex {f_ : Nat → Int} {n_ : Nat} : ∀ k_ : Nat, (∀ j_, n_ ≤ j_ → f_ j_ ≠ 1) → cn1 f_ (n_ + k_) = cn1 f_ n_
  | 0, _ => rfl
  | k_ + 1, h_ => by
    show cn1 f_ (n_ + k_) + (if f_ (n_ + k_) = 1 then 1 else 0) = cn1 f_ n_
    rw [if_neg (h_ _ (by omega)), Nat.add_zero, cn1_ex k_ h_]
theorem cn1_if {f_ g_ : Nat → Int} : ∀ {n_ : Nat}, (∀ k_, k_ < n_ → (f_ k_ = 1 ↔ g_ k_ = 1)) → cn1 f_ n_ = cn1 g_ n_
  | 0, _ => rfl
  | n_ + 1, h_ => by
    show cn1 f_ n_ + (if f_ n_ = 1 then 1 else 0) = cn1 g_ n_ + (if g_ n_ = 1 then 1 else 0)
    rw [cn1_if (fun k_ hk_ => h_ k_ (by omega))]
    by_cases c_ : f_ n_ = 1
    · rw [if_pos c_, if_pos ((h_ n_ (by omega)).mp c_)]
    · rw [if_neg c_, if_neg (fun z_ => c_ ((h_ n_ (by omega)).mpr z_))]
theorem cn1_tr {u_ : Nat → Int} {m_ k_ : Nat} : cn1 u_ m_ = cn1 (fun s_ => if s_ < m_ then u_ s_ else 0) (m_ + k_) := by
  rw [cn1_ex (n_ := m_) k_ (fun j_ hj_ => by
    show (if j_ < m_ then u_ j_ else 0) ≠ 1
    rw [if_neg (by omega)]
    decide)]
  exact cn1_cg (fun k_ hk_ => by
    show u_ k_ = if k_ < m_ then u_ k_ else 0
    rw [if_pos hk_])
theorem cn1_ii {u_ u'_ : Nat → Int} {m_ m'_ : Nat} (xy_ : ∀ s_, (s_ < m_ ∧ u_ s_ = 1) → (s_ < m'_ ∧ u'_ s_ = 1)) (yx_ : ∀ s_, (s_ < m'_ ∧ u'_ s_ = 1) → (s_ < m_ ∧ u_ s_ = 1)) : cn1 u_ m_ = cn1 u'_ m'_ := by
  rw [cn1_tr (u_ := u_) (m_ := m_) (k_ := m'_), cn1_tr (u_ := u'_) (m_ := m'_) (k_ := m_), Nat.add_comm m'_ m_]
  refine cn1_if (fun k_ _ => ?_)
  show (if k_ < m_ then u_ k_ else 0) = 1 ↔ (if k_ < m'_ then u'_ k_ else 0) = 1
  constructor
  · intro z_
    by_cases c_ : k_ < m_
    · rw [if_pos c_] at z_
      have w_ := xy_ k_ ⟨c_, z_⟩
      rw [if_pos w_.1]
      exact w_.2
    · rw [if_neg c_] at z_
      exact absurd z_ (by decide)
  · intro z_
    by_cases c_ : k_ < m'_
    · rw [if_pos c_] at z_
      have w_ := yx_ k_ ⟨c_, z_⟩
      rw [if_pos w_.1]
      exact w_.2
    · rw [if_neg c_] at z_
      exact absurd z_ (by decide)
def rcl (I_ R_ : Nat) (nx_ : Nat → Int) (Y_ : Nat → Prop) : Prop := ∀ p_ : Nat, p_ < 2 ^ (I_ + R_) → Y_ (p_ / 2 ^ I_) → Y_ (nx_ p_).toNat
def rqm (I_ R_ : Nat) (nx_ : Nat → Int) (b_ : Int) (X_ : Nat → Prop) : Prop := X_ b_.toNat ∧ rcl I_ R_ nx_ X_ ∧ ∀ Y_ : Nat → Prop, Y_ b_.toNat → rcl I_ R_ nx_ Y_ → ∀ s_, X_ s_ → Y_ s_
def rqc (I_ R_ : Nat) (nx_ : Nat → Int) (b_ v_ : Int) : Prop := ∃ (u_ : Nat → Int) (m_ : Nat), rqm I_ R_ nx_ b_ (fun s_ => s_ < m_ ∧ u_ s_ = 1) ∧ v_ = (cn1 u_ m_ : Int)
theorem rcl_cg {I_ R_ : Nat} {nx_ nx'_ : Nat → Int} {Y_ : Nat → Prop} (hn_ : ∀ p_, p_ < 2 ^ (I_ + R_) → nx'_ p_ = nx_ p_) (h_ : rcl I_ R_ nx_ Y_) : rcl I_ R_ nx'_ Y_ := fun p_ hp_ a_ => by
  rw [hn_ p_ hp_]
  exact h_ p_ hp_ a_
theorem rqc_cg {I_ R_ : Nat} {nx_ nx'_ : Nat → Int} {b_ v_ : Int} (hn_ : ∀ p_, p_ < 2 ^ (I_ + R_) → nx'_ p_ = nx_ p_) (h_ : rqc I_ R_ nx_ b_ v_) : rqc I_ R_ nx'_ b_ v_ := by
  obtain ⟨u_, m_, ⟨h2_, h3_, h4_⟩, h5_⟩ := h_
  exact ⟨u_, m_, ⟨h2_, rcl_cg hn_ h3_, fun Y_ a_ c_ => h4_ Y_ a_ (rcl_cg (fun p_ hp_ => (hn_ p_ hp_).symm) c_)⟩, h5_⟩
theorem rqc_u {I_ R_ : Nat} {nx_ : Nat → Int} {b_ v_ v'_ : Int} (h_ : rqc I_ R_ nx_ b_ v_) (g_ : rqc I_ R_ nx_ b_ v'_) : v_ = v'_ := by
  obtain ⟨u_, m_, ⟨h2_, h3_, h4_⟩, h5_⟩ := h_
  obtain ⟨u'_, m'_, ⟨g2_, g3_, g4_⟩, g5_⟩ := g_
  rw [h5_, g5_, cn1_ii (h4_ _ g2_ g3_) (g4_ _ h2_ h3_)]
/-- the_ queue of_ the_ class: what is_ marked is_ in it_, and comes from the_ beginning -/
def rqi (I_ R_ : Nat) (nx_ : Nat → Int) (b_ : Int) (st_ tl_ : Nat) (u_ : Nat → Int) : Prop := (∀ j_, j_ < tl_ → u_ (u_ (st_ + j_)).toNat = 1) ∧ (∀ s_, s_ < st_ → u_ s_ = 1 → ∃ j_, j_ < tl_ ∧ u_ (st_ + j_) = (s_ : Int)) ∧ (b_.toNat < st_ ∧ u_ b_.toNat = 1) ∧ ∀ Y_ : Nat → Prop, Y_ b_.toNat → rcl I_ R_ nx_ Y_ → ∀ s_, s_ < st_ → u_ s_ = 1 → Y_ s_
/-- the_ states before k0_ are_ through -/
def rqp (I_ : Nat) (nx_ : Nat → Int) (st_ k0_ : Nat) (u_ : Nat → Int) : Prop := ∀ j_, j_ < k0_ → ∀ i_, i_ < 2 ^ I_ → u_ (nx_ ((u_ (st_ + j_)).toNat * 2 ^ I_ + i_)).toNat = 1
def rqd (I_ : Nat) (nx_ : Nat → Int) (s0_ i0_ : Nat) (u_ : Nat → Int) : Prop := ∀ i_, i_ < i0_ → u_ (nx_ (s0_ * 2 ^ I_ + i_)).toNat = 1
theorem rqi_0 {I_ R_ st_ : Nat} {nx_ u_ : Nat → Int} {b_ : Int} (hb_ : 0 ≤ b_ ∧ b_ < (st_ : Int)) (e_ : ∀ q_, q_ ≤ st_ → u_ q_ = if q_ = b_.toNat then 1 else if q_ = st_ then b_ else 0) : rqi I_ R_ nx_ b_ st_ 1 u_ := by
  have ub_ : u_ b_.toNat = 1 := by rw [e_ _ (by omega), if_pos rfl]
  have us_ : u_ st_ = b_ := by rw [e_ _ (Nat.le_refl _), if_neg (by omega), if_pos rfl]
  have uo_ : ∀ s_, s_ < st_ → u_ s_ = 1 → s_ = b_.toNat := fun s_ hs_ h_ => by
    by_cases c_ : s_ = b_.toNat
    · exact c_
    · rw [e_ s_ (by omega), if_neg c_, if_neg (by omega)] at h_
      exact absurd h_ (by decide)
  refine ⟨fun j_ hj_ => ?_, fun s_ hs_ h_ => ?_, ⟨by omega, ub_⟩, fun Y_ y_ _ s_ hs_ h_ => ?_⟩
  · rw [show j_ = 0 by omega, Nat.add_zero, us_]
    exact ub_
  · have c_ := uo_ s_ hs_ h_
    refine ⟨0, by omega, ?_⟩
    rw [Nat.add_zero, us_]
    omega
  · rw [uo_ s_ hs_ h_]
    exact y_
theorem rqi_up {I_ R_ st_ tl_ k0_ s0_ i0_ : Nat} {nx_ u_ u'_ : Nat → Int} {b_ : Int} (hst_ : st_ = 2 ^ R_) (hnx_ : ∀ p_, p_ < 2 ^ (I_ + R_) → 0 ≤ nx_ p_ ∧ nx_ p_ < (st_ : Int)) (hq_ : ∀ j_ : Nat, j_ < tl_ → 0 ≤ u_ (st_ + j_) ∧ u_ (st_ + j_) < (st_ : Int)) (h0_ : s0_ < st_ ∧ u_ s0_ = 1) (hi_ : i0_ < 2 ^ I_) (hk_ : k0_ ≤ tl_) (e_ : ∀ q_, u'_ q_ = if q_ = st_ + tl_ then nx_ (s0_ * 2 ^ I_ + i0_) else if q_ = (nx_ (s0_ * 2 ^ I_ + i0_)).toNat then 1 else u_ q_) (h_ : rqi I_ R_ nx_ b_ st_ tl_ u_) (hp_ : rqp I_ nx_ st_ k0_ u_) (hd_ : rqd I_ nx_ s0_ i0_ u_) : rqi I_ R_ nx_ b_ st_ (tl_ + 1) u'_ ∧ rqp I_ nx_ st_ k0_ u'_ ∧ rqd I_ nx_ s0_ (i0_ + 1) u'_ := by
  have px_ := pxb (s_ := s0_) (i_ := i0_) (R_ := R_) (I_ := I_) (by rw [← hst_]; exact h0_.1) hi_
  have bw_ := hnx_ _ px_.1
  obtain ⟨w_, hw_⟩ : ∃ w_, w_ = nx_ (s0_ * 2 ^ I_ + i0_) := ⟨_, rfl⟩
  rw [← hw_] at bw_
  have e_ : ∀ q_, u'_ q_ = if q_ = st_ + tl_ then w_ else if q_ = w_.toNat then 1 else u_ q_ := fun q_ => by
    rw [hw_]
    exact e_ q_
  have mono : ∀ x_, x_ < st_ → u_ x_ = 1 → u'_ x_ = 1 := fun x_ hx_ ux_ => by
    rw [e_ x_, if_neg (by omega)]
    split
    · rfl
    · exact ux_
  have que_ : ∀ j_, j_ < tl_ → u'_ (st_ + j_) = u_ (st_ + j_) := fun j_ hj_ => by
    rw [e_, if_neg (by omega), if_neg (by omega)]
  have qt_ : u'_ (st_ + tl_) = w_ := by rw [e_, if_pos rfl]
  have nw : u'_ w_.toNat = 1 := by rw [e_, if_neg (by omega), if_pos rfl]
  obtain ⟨h1_, h2_, h3_, h4_⟩ := h_
  refine ⟨⟨fun j_ hj_ => ?_, fun s_ hs_ us_ => ?_, ⟨h3_.1, mono _ h3_.1 h3_.2⟩, fun Y_ y_ c_ s_ hs_ us_ => ?_⟩, fun j_ hj_ i_ hi9_ => ?_, fun i_ hi9_ => ?_⟩
  · by_cases c_ : j_ = tl_
    · rw [c_, qt_]
      exact nw
    · rw [que_ j_ (by omega)]
      have b9_ := hq_ j_ (by omega)
      exact mono _ (by omega) (h1_ j_ (by omega))
  · by_cases c_ : s_ = w_.toNat
    · refine ⟨tl_, by omega, ?_⟩
      rw [qt_]
      omega
    · rw [e_, if_neg (by omega), if_neg c_] at us_
      obtain ⟨j_, a_, b9_⟩ := h2_ s_ hs_ us_
      exact ⟨j_, by omega, (que_ j_ a_).trans b9_⟩
  · by_cases c9_ : s_ = w_.toNat
    · have ys_ := h4_ Y_ y_ c_ s0_ h0_.1 h0_.2
      have q_ := c_ (s0_ * 2 ^ I_ + i0_) px_.1 (by rw [px_.2]; exact ys_)
      rw [← hw_] at q_
      rw [c9_]
      exact q_
    · rw [e_, if_neg (by omega), if_neg c9_] at us_
      exact h4_ Y_ y_ c_ s_ hs_ us_
  · rw [que_ j_ (by omega)]
    have b9_ := hq_ j_ (by omega)
    have p9_ := pxb (s_ := (u_ (st_ + j_)).toNat) (i_ := i_) (R_ := R_) (I_ := I_) (by rw [← hst_]; omega) hi9_
    have n9_ := hnx_ _ p9_.1
    exact mono _ (by omega) (hp_ j_ hj_ i_ hi9_)
  · by_cases c_ : i_ = i0_
    · rw [c_, ← hw_]
      exact nw
    · have p9_ := pxb (s_ := s0_) (i_ := i_) (R_ := R_) (I_ := I_) (by rw [← hst_]; exact h0_.1) (by omega)
      have n9_ := hnx_ _ p9_.1
      exact mono _ (by omega) (hd_ i_ (by omega))
theorem rqd_s {I_ s0_ i0_ : Nat} {nx_ u_ : Nat → Int} (h_ : rqd I_ nx_ s0_ i0_ u_) (g_ : u_ (nx_ (s0_ * 2 ^ I_ + i0_)).toNat = 1) : rqd I_ nx_ s0_ (i0_ + 1) u_ := fun i_ hi_ => by
  by_cases c_ : i_ = i0_
  · rw [c_]
    exact g_
  · exact h_ i_ (by omega)
theorem rqp_s {I_ st_ k0_ s0_ i0_ : Nat} {nx_ u_ : Nat → Int} (h_ : rqp I_ nx_ st_ k0_ u_) (g_ : rqd I_ nx_ s0_ i0_ u_) (e_ : u_ (st_ + k0_) = (s0_ : Int)) (hi_ : 2 ^ I_ ≤ i0_) : rqp I_ nx_ st_ (k0_ + 1) u_ := fun j_ hj_ i_ hi9_ => by
  by_cases c_ : j_ = k0_
  · rw [c_, e_, Int.toNat_natCast]
    exact g_ i_ (by omega)
  · exact h_ j_ (by omega) i_ hi9_
theorem rqi_end {I_ R_ st_ tl_ : Nat} {nx_ u_ : Nat → Int} {b_ : Int} (hnx_ : ∀ p_, p_ < 2 ^ (I_ + R_) → 0 ≤ nx_ p_ ∧ nx_ p_ < (st_ : Int)) (h_ : rqi I_ R_ nx_ b_ st_ tl_ u_) (hp_ : rqp I_ nx_ st_ tl_ u_) : rqm I_ R_ nx_ b_ (fun s_ => s_ < st_ ∧ u_ s_ = 1) := by
  obtain ⟨h1_, h2_, h3_, h4_⟩ := h_
  refine ⟨h3_, fun p_ hp9_ a_ => ?_, fun Y_ y_ c_ s_ a_ => h4_ Y_ y_ c_ s_ a_.1 a_.2⟩
  have a_ : p_ / 2 ^ I_ < st_ ∧ u_ (p_ / 2 ^ I_) = 1 := a_
  obtain ⟨j_, j1_, j2_⟩ := h2_ _ a_.1 a_.2
  have q_ := hp_ j_ j1_ (p_ % 2 ^ I_) (Nat.mod_lt _ (Nat.two_pow_pos I_))
  rw [j2_, Int.toNat_natCast, show p_ / 2 ^ I_ * 2 ^ I_ + p_ % 2 ^ I_ = p_ by rw [Nat.mul_comm]; exact Nat.div_add_mod p_ (2 ^ I_)] at q_
  have n9_ := hnx_ p_ hp9_
  exact ⟨by omega, q_⟩
theorem rnx_b {dd_ st_ : Nat} {S_ : sm_S} (hd_ : dtb dd_ S_) (h12_ : (S_.1 3 dd_ 1).toNat + (S_.1 3 dd_ 2).toNat ≤ 12) (hst_ : st_ = 2 ^ (S_.1 3 dd_ 2).toNat) : ∀ p_ : Nat, p_ < 2 ^ ((S_.1 3 dd_ 1).toNat + (S_.1 3 dd_ 2).toNat) → 0 ≤ S_.2.2.1 47 (0 + dd_) p_ / 65536 ∧ S_.2.2.1 47 (0 + dd_) p_ / 65536 < (st_ : Int) := fun p_ hp_ => by
  have a_ : 2 ^ ((S_.1 3 dd_ 1).toNat + (S_.1 3 dd_ 2).toNat) ≤ 2 ^ 12 := Nat.pow_le_pow_right (by decide) h12_
  have q_ := shr16 (hd_ p_ (Nat.lt_of_lt_of_le hp_ a_))
  rw [hst_, pw_nn]
  exact q_
/-- the_ marks of_ the_ reference -/
def rfm (I_ R_ : Nat) (nx_ : Nat → Int) (b_ : Int) (u_ : Nat → Int) : Prop := (b_.toNat < 64 ∧ u_ b_.toNat = 1) ∧ ∀ Y_ : Nat → Prop, Y_ b_.toNat → rcl I_ R_ nx_ Y_ → ∀ s_, s_ < 64 → u_ s_ = 1 → Y_ s_
def rfc (I_ R_ : Nat) (nx_ : Nat → Int) (many had_ : Int) (p_ : Nat) (u_ : Nat → Int) : Prop := many = had_ → ∀ q_, q_ < p_ → q_ < 2 ^ (I_ + R_) → u_ (q_ / 2 ^ I_) = 1 → u_ (nx_ q_).toNat = 1
theorem rfm_0 {I_ R_ : Nat} {nx_ u_ : Nat → Int} {b_ : Int} (hb_ : 0 ≤ b_ ∧ b_ < 64) (e_ : ∀ k_ : Nat, k_ < 64 → u_ k_ = if (k_ : Int) = b_ then 1 else 0) : rfm I_ R_ nx_ b_ u_ := by
  refine ⟨⟨by omega, ?_⟩, fun Y_ y_ _ s_ hs_ h_ => ?_⟩
  · rw [e_ _ (by omega), if_pos (by omega)]
  · by_cases c_ : (s_ : Int) = b_
    · rw [show s_ = b_.toNat by omega]
      exact y_
    · rw [e_ s_ hs_, if_neg c_] at h_
      exact absurd h_ (by decide)
theorem rfm_s {I_ R_ q_ : Nat} {nx_ u_ u'_ : Nat → Int} {b_ : Int} (h_ : rfm I_ R_ nx_ b_ u_) (hq_ : q_ < 2 ^ (I_ + R_)) (hs_ : q_ / 2 ^ I_ < 64 ∧ u_ (q_ / 2 ^ I_) = 1) (e_ : ∀ k_, u'_ k_ = if k_ = (nx_ q_).toNat then 1 else u_ k_) : rfm I_ R_ nx_ b_ u'_ := by
  refine ⟨⟨h_.1.1, ?_⟩, fun Y_ y_ c_ s_ hs9_ us_ => ?_⟩
  · rw [e_]
    split
    · rfl
    · exact h_.1.2
  · by_cases c9_ : s_ = (nx_ q_).toNat
    · rw [c9_]
      exact c_ q_ hq_ (h_.2 Y_ y_ c_ _ hs_.1 hs_.2)
    · rw [e_, if_neg c9_] at us_
      exact h_.2 Y_ y_ c_ s_ hs9_ us_
theorem rfc_0 {I_ R_ : Nat} {nx_ u_ : Nat → Int} {many had_ : Int} : rfc I_ R_ nx_ many had_ 0 u_ := fun _ _ h_ => absurd h_ (Nat.not_lt_zero _)
theorem rfc_n {I_ R_ p_ : Nat} {nx_ u_ : Nat → Int} {many had_ : Int} (h_ : many ≠ had_) : rfc I_ R_ nx_ many had_ p_ u_ := fun e_ => absurd e_ h_
theorem rfc_s {I_ R_ p_ : Nat} {nx_ u_ : Nat → Int} {many had_ : Int} (h_ : rfc I_ R_ nx_ many had_ p_ u_) (g_ : u_ (p_ / 2 ^ I_) = 1 → u_ (nx_ p_).toNat = 1) : rfc I_ R_ nx_ many had_ (p_ + 1) u_ := fun e_ q_ hq_ h2_ h3_ => by
  by_cases c_ : q_ = p_
  · rw [c_] at h3_ ⊢
    exact g_ h3_
  · exact h_ e_ q_ (by omega) h2_ h3_
theorem rfc_le {I_ R_ p_ r_ : Nat} {nx_ u_ : Nat → Int} {many had_ : Int} (h_ : rfc I_ R_ nx_ many had_ p_ u_) (hr_ : 2 ^ (I_ + R_) ≤ p_) : rfc I_ R_ nx_ many had_ r_ u_ := fun e_ q_ _ h2_ h3_ => h_ e_ q_ (Nat.lt_of_lt_of_le h2_ hr_) h2_ h3_
theorem rfc_end {I_ R_ : Nat} {nx_ u_ : Nat → Int} {b_ many had_ : Int} (h_ : rfc I_ R_ nx_ many had_ (2 ^ (I_ + R_)) u_) (e_ : many = had_) (hn_ : ∀ q_ : Nat, (nx_ q_).toNat < 64) (g_ : rfm I_ R_ nx_ b_ u_) : rqm I_ R_ nx_ b_ (fun s_ => s_ < 64 ∧ u_ s_ = 1) := ⟨g_.1, fun p_ hp_ a_ => ⟨hn_ p_, h_ e_ p_ hp_ hp_ a_.2⟩, fun Y_ y_ c_ s_ a_ => g_.2 Y_ y_ c_ s_ a_.1 a_.2⟩

/-! Builder.countReached -/
def vw_52n : sx_Wl := ([], [33], [])
def vq_52n (dd_ : Nat) (F_ : Nat) (S0_ : sm_S) (u_ : Option sm_V) (S1_ : sm_S) : Prop := ∃ v_ : Int, u_ = some (.inl v_) ∧ gi S1_ ∧ ai_fr (sx_W vw_52n) S0_ S1_ ∧ (idf dd_ S0_ S1_ ∧ ((1 ≤ v_ ∧ v_ ≤ 64) ∧ rqc (S0_.1 3 dd_ 1).toNat (S0_.1 3 dd_ 2).toNat (fun p_ => S0_.2.2.1 47 (0 + dd_) p_ / 65536) (S0_.1 3 dd_ 5) v_))
set_option maxHeartbeats 2000000 in
theorem vl_52n {sc_ : Nat × (Nat → Int)} (dd_ : Nat) (F_ : Nat) (S0_ : sm_S) (hd_ : S0_.2.1 1 0 1 = some dd_) (hg_ : dgr dd_ F_ S0_) (hr_ : S0_.1 3 dd_ 2 ≤ 6) (ht_ : dtb dd_ S0_) (hb_ : 0 ≤ S0_.1 3 dd_ 5 ∧ S0_.1 3 dd_ 5 < 2 ^ (S0_.1 3 dd_ 2).toNat) : ∀ nn_ : Nat, (∀ (st_ : Int) (tl_ : Int) (hd9_ : Int) (S_ : sm_S), gi S_ → ai_fr (sx_W vw_52n) S0_ S_ → ((st_ = 2 ^ (S0_.1 3 dd_ 2).toNat) ∧ (∀ j9_ : Nat, (j9_ : Int) < st_ → S_.2.2.1 33 0 j9_ = 0 ∨ S_.2.2.1 33 0 j9_ = 1) ∧ (∀ j9_ : Nat, (j9_ : Int) < tl_ → 0 ≤ S_.2.2.1 33 0 (st_.toNat + j9_) ∧ S_.2.2.1 33 0 (st_.toNat + j9_) < st_) ∧ (tl_ = (cn1 (fun k9_ => S_.2.2.1 33 0 k9_) st_.toNat : Int)) ∧ (rqi (S0_.1 3 dd_ 1).toNat (S0_.1 3 dd_ 2).toNat (fun p_ => S0_.2.2.1 47 (0 + dd_) p_ / 65536) (S0_.1 3 dd_ 5) st_.toNat tl_.toNat (S_.2.2.1 33 0)) ∧ (rqp (S0_.1 3 dd_ 1).toNat (fun p_ => S0_.2.2.1 47 (0 + dd_) p_ / 65536) st_.toNat hd9_.toNat (S_.2.2.1 33 0) ∧ hd9_ ≤ tl_) ∧ (1 ≤ tl_ ∧ 0 ≤ hd9_) ∧ (idf dd_ S0_ S_) ∧ True) → ((10000 * (100 - hd9_) + 5000).toNat) < nn_ → sm_T (mt_P sc_) 1 52 (48, [some (.inr (.inr (some (1, 0)))), some (.inl st_), some (.inl tl_), some (.inl hd9_), none, none, none], [], S_) (fun ro9_ => ∃ u_ S1_, ro9_ = (.inl u_, S1_, 0) ∧ vq_52n dd_ F_ S0_ u_ S1_)) ∧ (∀ (st_ : Int) (tl_ : Int) (hd9_ : Int) (he_ : Int) (ip_ : Int) (sq_ : Int) (S_ : sm_S), gi S_ → ai_fr (sx_W vw_52n) S0_ S_ → ((st_ = 2 ^ (S0_.1 3 dd_ 2).toNat) ∧ (∀ j9_ : Nat, (j9_ : Int) < st_ → S_.2.2.1 33 0 j9_ = 0 ∨ S_.2.2.1 33 0 j9_ = 1) ∧ (∀ j9_ : Nat, (j9_ : Int) < tl_ → 0 ≤ S_.2.2.1 33 0 (st_.toNat + j9_) ∧ S_.2.2.1 33 0 (st_.toNat + j9_) < st_) ∧ (tl_ = (cn1 (fun k9_ => S_.2.2.1 33 0 k9_) st_.toNat : Int)) ∧ (rqi (S0_.1 3 dd_ 1).toNat (S0_.1 3 dd_ 2).toNat (fun p_ => S0_.2.2.1 47 (0 + dd_) p_ / 65536) (S0_.1 3 dd_ 5) st_.toNat tl_.toNat (S_.2.2.1 33 0)) ∧ (rqp (S0_.1 3 dd_ 1).toNat (fun p_ => S0_.2.2.1 47 (0 + dd_) p_ / 65536) st_.toNat hd9_.toNat (S_.2.2.1 33 0) ∧ hd9_ ≤ tl_) ∧ (1 ≤ tl_ ∧ 0 ≤ hd9_ ∧ hd9_ < st_ ∧ 0 ≤ ip_ ∧ ip_ ≤ 4096 ∧ 0 ≤ sq_ ∧ sq_ < st_) ∧ (he_ = i_shl sq_ (S0_.1 3 dd_ 1)) ∧ (rqd (S0_.1 3 dd_ 1).toNat (fun p_ => S0_.2.2.1 47 (0 + dd_) p_ / 65536) sq_.toNat ip_.toNat (S_.2.2.1 33 0)) ∧ ((S_.2.2.1 33 0) (st_.toNat + hd9_.toNat) = sq_ ∧ hd9_ < tl_) ∧ (idf dd_ S0_ S_) ∧ True) → ((10000 * (100 - hd9_) + 4500 - ip_).toNat) < nn_ → sm_T (mt_P sc_) 1 52 (79, [some (.inr (.inr (some (1, 0)))), some (.inl st_), some (.inl tl_), some (.inl hd9_), some (.inl he_), some (.inl ip_), none], [], S_) (fun ro9_ => ∃ u_ S1_, ro9_ = (.inl u_, S1_, 0) ∧ vq_52n dd_ F_ S0_ u_ S1_)) := by
  intro nn_
  induction nn_ with
  | zero => exact ⟨fun _ _ _ _ _ _ _ h_ => absurd h_ (Nat.not_lt_zero _), fun _ _ _ _ _ _ _ _ _ _ h_ => absurd h_ (Nat.not_lt_zero _)⟩
  | succ nn_ ih_ =>
    refine ⟨?_, ?_⟩
    · rintro st_ tl_ hd9_ S_ hI_ hF_ ⟨hs_, hmz_, hq_, hc_, hri_, hrp_, h0_, hD_, -⟩ hm_
      have e1_ : S_.1 3 dd_ 1 = S0_.1 3 dd_ 1 := hF_.1 3 dd_ 1 rfl
      have e2_ : S_.1 3 dd_ 2 = S0_.1 3 dd_ 2 := hF_.1 3 dd_ 2 rfl
      have f47_ : S_.2.2.1 47 (0 + dd_) = S0_.2.2.1 47 (0 + dd_) := fr_arr hF_ rfl
      have g1_ := hg_.1
      have st64_ := pw_le (n := (S0_.1 3 dd_ 2).toNat) (m := 6) (by omega)
      have st0_ := pw_pos (S0_.1 3 dd_ 2).toNat
      have cl9_ := cn1_le (fun k9_ => S_.2.2.1 33 0 k9_) st_.toNat
      refine sm_T_go 2 (c1 := (50, [some (.inr (.inr (some (1, 0)))), some (.inl st_), some (.inl tl_), some (.inl hd9_), none, none, none], [.inl tl_, .inl hd9_], S_)) rfl ?_
      refine sm_T_br (a := 3) (z := 104) rfl (fun cx1_ => ?_) (fun cx1_ => ?_)
      · have cx1_ : tl_ ≤ hd9_ := of_decide_eq_true cx1_
        refine sm_T_go 1 (c1 := (155, [some (.inr (.inr (some (1, 0)))), some (.inl st_), some (.inl tl_), some (.inl hd9_), none, none, none], [.inl tl_], S_)) rfl ?_
        refine sm_T_ri rfl ⟨_, _, rfl, _, rfl, hI_, hF_, ?_⟩
        refine ⟨hD_, ?_⟩
        have ss9_ : st_.toNat = 2 ^ (S0_.1 3 dd_ 2).toNat := (by have z9_ := pw_nn (k_ := (S0_.1 3 dd_ 2).toNat); omega)
        refine ⟨by omega, S_.2.2.1 33 0, st_.toNat, rqi_end (tl_ := tl_.toNat) (rnx_b ht_ (by omega) ss9_) hri_ ?_, hc_⟩
        rw [show tl_.toNat = hd9_.toNat by omega]
        exact hrp_.1
      · have cx1_ : ¬ (tl_ ≤ hd9_) := of_decide_eq_false cx1_
        refine sm_T_go 2 (c1 := (55, [some (.inr (.inr (some (1, 0)))), some (.inl st_), some (.inl tl_), some (.inl hd9_), none, none, none], [.inl st_, .inl hd9_], S_)) rfl ?_
        refine sm_T_br (a := 3) (z := 99) rfl (fun cx2_ => ?_) (fun cx2_ => ?_)
        · have cx2_ : st_ ≤ hd9_ := of_decide_eq_true cx2_
          refine sm_T_go 1 (c1 := (155, [some (.inr (.inr (some (1, 0)))), some (.inl st_), some (.inl tl_), some (.inl hd9_), none, none, none], [.inl tl_], S_)) rfl ?_
          refine sm_T_ri rfl ⟨_, _, rfl, _, rfl, hI_, hF_, ?_⟩
          refine ⟨hD_, ?_⟩
          have ss9_ : st_.toNat = 2 ^ (S0_.1 3 dd_ 2).toNat := (by have z9_ := pw_nn (k_ := (S0_.1 3 dd_ 2).toNat); omega)
          refine ⟨by omega, S_.2.2.1 33 0, st_.toNat, rqi_end (tl_ := tl_.toNat) (rnx_b ht_ (by omega) ss9_) hri_ ?_, hc_⟩
          rw [show tl_.toNat = hd9_.toNat by omega]
          exact hrp_.1
        · have cx2_ : ¬ (st_ ≤ hd9_) := of_decide_eq_false cx2_
          have hq9_ := hq_ hd9_.toNat (by omega)
          rw [show st_.toNat + hd9_.toNat = (st_ + hd9_).toNat by omega] at hq9_
          refine sm_T_go 4 (c1 := (64, [some (.inr (.inr (some (1, 0)))), some (.inl st_), some (.inl tl_), some (.inl hd9_), none, none, none], [.inl hd9_, .inl st_, .inr (.inr (some (33, 0)))], S_)) rfl ?_
          refine sm_T_bin (w := st_ + hd9_) rfl (bi_add (by omega) (by omega) (by omega)) ?_
          refine sm_T_iald (n := 1013) rfl rfl (by omega) (by omega) ?_
          have bx3_ : 0 ≤ S_.2.2.1 33 0 (st_ + hd9_).toNat ∧ S_.2.2.1 33 0 (st_ + hd9_).toNat ≤ 1012 := hI_.2 33 0 _
          refine sm_T_go 1 (c1 := (67, [some (.inr (.inr (some (1, 0)))), some (.inl st_), some (.inl tl_), some (.inl hd9_), none, none, none], [.inr (.inr (some (1, 0))), .inl (S_.2.2.1 33 0 (st_ + hd9_).toNat)], S_)) rfl ?_
          refine sm_T_gr rfl rfl ((hF_.2.1 1 0 1 rfl).trans hd_) ?_
          have bx4_ : 0 ≤ S_.1 3 dd_ 1 ∧ S_.1 3 dd_ 1 ≤ 320 := hI_.1 3 dd_ 1 rfl
          refine sm_T_go 1 (c1 := (73, [some (.inr (.inr (some (1, 0)))), some (.inl st_), some (.inl tl_), some (.inl hd9_), none, none, none], [.inl (S_.1 3 dd_ 1), .inl (S_.2.2.1 33 0 (st_ + hd9_).toNat)], S_)) rfl ?_
          refine sm_T_bin (w := (i_shl (S_.2.2.1 33 0 (st_ + hd9_).toNat) (S_.1 3 dd_ 1))) rfl rfl ?_
          refine sm_T_go 3 (c1 := (79, [some (.inr (.inr (some (1, 0)))), some (.inl st_), some (.inl tl_), some (.inl hd9_), some (.inl (i_shl (S_.2.2.1 33 0 (st_ + hd9_).toNat) (S_.1 3 dd_ 1))), some (.inl 0), none], [], S_)) rfl ?_
          refine ih_.2 st_ tl_ hd9_ (i_shl (S_.2.2.1 33 0 (st_ + hd9_).toNat) (S_.1 3 dd_ 1)) 0 (S_.2.2.1 33 0 (st_ + hd9_).toNat) S_ hI_ hF_ ⟨?_, ?_, ?_, ?_, ?_, ?_, ?_, ?_, ?_, ?_, ?_, trivial⟩ ?_
          · exact hs_
          · exact hmz_
          · exact hq_
          · exact hc_
          · exact hri_
          · exact hrp_
          · omega
          · (rw [e1_])
          · (intro i9_ hi9_; exact absurd hi9_ (Nat.not_lt_zero _))
          · exact ⟨by rw [show st_.toNat + hd9_.toNat = (st_ + hd9_).toNat by omega], by omega⟩
          · exact hD_
          · omega
    · rintro st_ tl_ hd9_ he_ ip_ sq_ S_ hI_ hF_ ⟨hs_, hmz_, hq_, hc_, hri_, hrp_, h0_, hh_, hrd_, hsq_, hD_, -⟩ hm_
      have e1_ : S_.1 3 dd_ 1 = S0_.1 3 dd_ 1 := hF_.1 3 dd_ 1 rfl
      have e2_ : S_.1 3 dd_ 2 = S0_.1 3 dd_ 2 := hF_.1 3 dd_ 2 rfl
      have f47_ : S_.2.2.1 47 (0 + dd_) = S0_.2.2.1 47 (0 + dd_) := fr_arr hF_ rfl
      have g1_ := hg_.1
      have st64_ := pw_le (n := (S0_.1 3 dd_ 2).toNat) (m := 6) (by omega)
      have st0_ := pw_pos (S0_.1 3 dd_ 2).toNat
      have cl9_ := cn1_le (fun k9_ => S_.2.2.1 33 0 k9_) st_.toNat
      refine sm_T_go 3 (c1 := (83, [some (.inr (.inr (some (1, 0)))), some (.inl st_), some (.inl tl_), some (.inl hd9_), some (.inl he_), some (.inl ip_), none], [.inr (.inr (some (1, 0))), .inl 1, .inl ip_], S_)) rfl ?_
      refine sm_T_gr rfl rfl ((hF_.2.1 1 0 1 rfl).trans hd_) ?_
      have bx1_ : 0 ≤ S_.1 3 dd_ 1 ∧ S_.1 3 dd_ 1 ≤ 320 := hI_.1 3 dd_ 1 rfl
      refine sm_T_go 1 (c1 := (89, [some (.inr (.inr (some (1, 0)))), some (.inl st_), some (.inl tl_), some (.inl hd9_), some (.inl he_), some (.inl ip_), none], [.inl (S_.1 3 dd_ 1), .inl 1, .inl ip_], S_)) rfl ?_
      refine sm_T_bin (w := (i_shl 1 (S_.1 3 dd_ 1))) rfl rfl ?_
      have bx2_ := i_shl1 (e := (S_.1 3 dd_ 1)) (by omega) (by omega)
      have hp_ := pw_le (n := ((S_.1 3 dd_ 1)).toNat) (m := 12) (by omega)
      have hp0_ := pw_pos ((S_.1 3 dd_ 1)).toNat
      have hk9_ : (2 : Int) ^ ((S_.1 3 dd_ 1)).toNat = 2 ^ (S0_.1 3 dd_ 1).toNat := by rw [e1_]
      refine sm_T_br (a := 3) (z := 58) rfl (fun cx6_ => ?_) (fun cx6_ => ?_)
      · have cx6_ : (i_shl 1 (S_.1 3 dd_ 1)) ≤ ip_ := of_decide_eq_true cx6_
        refine sm_T_inc (a := 3) (z := 1) (v := hd9_) (w := hd9_ + 1) rfl rfl (by omega) (by omega) (by omega) ?_
        refine sm_T_go 1 (c1 := (48, [some (.inr (.inr (some (1, 0)))), some (.inl st_), some (.inl tl_), some (.inl (hd9_ + 1)), some (.inl he_), some (.inl ip_), none], [], S_)) rfl ?_
        refine sm_T_wk [some (.inr (.inr (some (1, 0)))), some (.inl st_), some (.inl tl_), some (.inl (hd9_ + 1)), none, none, none] (by exact ⟨rfl, rfl, rfl, rfl, trivial⟩) ?_
        refine ih_.1 st_ tl_ (hd9_ + 1) S_ hI_ hF_ ⟨?_, ?_, ?_, ?_, ?_, ?_, ?_, ?_, trivial⟩ ?_
        · exact hs_
        · exact hmz_
        · exact hq_
        · exact hc_
        · exact hri_
        · refine ⟨?_, by omega⟩
          rw [show (hd9_ + 1).toNat = hd9_.toNat + 1 by omega]
          exact rqp_s (s0_ := sq_.toNat) hrp_.1 hrd_ (by rw [hsq_.1]; omega) (by have z9_ := pw_nn (k_ := (S0_.1 3 dd_ 1).toNat); omega)
        · omega
        · exact hD_
        · omega
      · have cx6_ : ¬ ((i_shl 1 (S_.1 3 dd_ 1)) ≤ ip_) := of_decide_eq_false cx6_
        have pt9_ := pat_b (s_ := sq_) (i_ := ip_) (R_ := (S0_.1 3 dd_ 2).toNat) (I_ := (S0_.1 3 dd_ 1).toNat) (by omega) (by omega) (by omega)
        have pt8_ := pw_le (n := (S0_.1 3 dd_ 2).toNat + (S0_.1 3 dd_ 1).toNat) (m := 12) (by omega)
        rw [show (((S0_.1 3 dd_ 1).toNat : Nat) : Int) = S0_.1 3 dd_ 1 by omega, ← hh_] at pt9_
        have pn9_ := pat_n (s_ := sq_) (i_ := ip_) (R_ := (S0_.1 3 dd_ 2).toNat) (I_ := (S0_.1 3 dd_ 1).toNat) (by omega) (by omega) (by omega)
        rw [show (((S0_.1 3 dd_ 1).toNat : Nat) : Int) = S0_.1 3 dd_ 1 by omega, ← hh_] at pn9_
        have tb9_ := ht_ (i_or he_ ip_).toNat (by omega)
        rw [← f47_] at tb9_
        have nx9_ := shr16 tb9_
        have hm9_ := hmz_ (S_.2.2.1 47 (0 + dd_) (i_or he_ ip_).toNat / 65536).toNat (by omega)
        refine sm_T_go 1 (c1 := (94, [some (.inr (.inr (some (1, 0)))), some (.inl st_), some (.inl tl_), some (.inl hd9_), some (.inl he_), some (.inl ip_), none], [.inr (.inr (some (1, 0)))], S_)) rfl ?_
        refine sm_T_gr rfl rfl ((hF_.2.1 1 0 1 rfl).trans hd_) ?_
        refine sm_T_go 3 (c1 := (104, [some (.inr (.inr (some (1, 0)))), some (.inl st_), some (.inl tl_), some (.inl hd9_), some (.inl he_), some (.inl ip_), none], [.inl ip_, .inl he_, .inr (.inr (some (47, (0 + dd_))))], S_)) rfl ?_
        refine sm_T_bin (w := (i_or he_ ip_)) rfl rfl ?_
        refine sm_T_iald (n := 4096) rfl rfl (by omega) (by omega) ?_
        have bx7_ : 0 ≤ S_.2.2.1 47 (0 + dd_) (i_or he_ ip_).toNat ∧ S_.2.2.1 47 (0 + dd_) (i_or he_ ip_).toNat ≤ 4194303 := hI_.2 47 (0 + dd_) _
        refine sm_T_go 1 (c1 := (108, [some (.inr (.inr (some (1, 0)))), some (.inl st_), some (.inl tl_), some (.inl hd9_), some (.inl he_), some (.inl ip_), none], [.inl 16, .inl (S_.2.2.1 47 (0 + dd_) (i_or he_ ip_).toNat)], S_)) rfl ?_
        refine sm_T_bin (w := ((S_.2.2.1 47 (0 + dd_) (i_or he_ ip_).toNat) / 65536)) rfl (bi_shr (k := 16) (by decide) (by omega) (by omega)) ?_
        refine sm_T_go 4 (c1 := (117, [some (.inr (.inr (some (1, 0)))), some (.inl st_), some (.inl tl_), some (.inl hd9_), some (.inl he_), some (.inl ip_), some (.inl ((S_.2.2.1 47 (0 + dd_) (i_or he_ ip_).toNat) / 65536))], [.inl ((S_.2.2.1 47 (0 + dd_) (i_or he_ ip_).toNat) / 65536), .inr (.inr (some (33, 0)))], S_)) rfl ?_
        refine sm_T_iald (n := 1013) rfl rfl (by omega) (by omega) ?_
        have bx8_ : 0 ≤ S_.2.2.1 33 0 ((S_.2.2.1 47 (0 + dd_) (i_or he_ ip_).toNat) / 65536).toNat ∧ S_.2.2.1 33 0 ((S_.2.2.1 47 (0 + dd_) (i_or he_ ip_).toNat) / 65536).toNat ≤ 1012 := hI_.2 33 0 _
        refine sm_T_b0 (a := 1) (z := 24) rfl (fun cx9_ => ?_) (fun cx9_ => ?_)
        · have cx9_ : (S_.2.2.1 33 0 ((S_.2.2.1 47 (0 + dd_) (i_or he_ ip_).toNat) / 65536).toNat) ≠ 0 := of_decide_eq_true cx9_
          refine sm_T_inc (a := 5) (z := 1) (v := ip_) (w := ip_ + 1) rfl rfl (by omega) (by omega) (by omega) ?_
          refine sm_T_go 1 (c1 := (79, [some (.inr (.inr (some (1, 0)))), some (.inl st_), some (.inl tl_), some (.inl hd9_), some (.inl he_), some (.inl (ip_ + 1)), some (.inl ((S_.2.2.1 47 (0 + dd_) (i_or he_ ip_).toNat) / 65536))], [], S_)) rfl ?_
          refine sm_T_wk [some (.inr (.inr (some (1, 0)))), some (.inl st_), some (.inl tl_), some (.inl hd9_), some (.inl he_), some (.inl (ip_ + 1)), none] (by exact ⟨rfl, rfl, rfl, rfl, rfl, rfl, trivial⟩) ?_
          refine ih_.2 st_ tl_ hd9_ he_ (ip_ + 1) sq_ S_ hI_ hF_ ⟨?_, ?_, ?_, ?_, ?_, ?_, ?_, ?_, ?_, ?_, ?_, trivial⟩ ?_
          · exact hs_
          · exact hmz_
          · exact hq_
          · exact hc_
          · exact hri_
          · exact hrp_
          · omega
          · exact hh_
          · rw [show (ip_ + 1).toNat = ip_.toNat + 1 by omega]
            refine rqd_s hrd_ ?_
            show S_.2.2.1 33 0 (S0_.2.2.1 47 (0 + dd_) (sq_.toNat * 2 ^ (S0_.1 3 dd_ 1).toNat + ip_.toNat) / 65536).toNat = 1
            rw [← pn9_, ← f47_]
            omega
          · exact hsq_
          · exact hD_
          · omega
        · have cx9_ : ¬ ((S_.2.2.1 33 0 ((S_.2.2.1 47 (0 + dd_) (i_or he_ ip_).toNat) / 65536).toNat) ≠ 0) := of_decide_eq_false cx9_
          refine sm_T_go 4 (c1 := (128, [some (.inr (.inr (some (1, 0)))), some (.inl st_), some (.inl tl_), some (.inl hd9_), some (.inl he_), some (.inl ip_), some (.inl ((S_.2.2.1 47 (0 + dd_) (i_or he_ ip_).toNat) / 65536))], [.inl 1, .inl ((S_.2.2.1 47 (0 + dd_) (i_or he_ ip_).toNat) / 65536), .inr (.inr (some (33, 0)))], S_)) rfl ?_
          refine sm_T_iast (n := 1013) rfl rfl (by omega) (by omega) ?_
          have hIx10_ : gi (sm_aI S_ 33 0 ((S_.2.2.1 47 (0 + dd_) (i_or he_ ip_).toNat) / 65536).toNat 1) := gi_aI hI_ (show 0 ≤ 1 ∧ 1 ≤ 1012 from ⟨by omega, by omega⟩)
          have hFx11_ : ai_fr (sx_W vw_52n) S0_ (sm_aI S_ 33 0 ((S_.2.2.1 47 (0 + dd_) (i_or he_ ip_).toNat) / 65536).toNat 1) := ai_fr_tr hF_ (ai_fr_aI rfl)
          have hDx12_ : idf dd_ S0_ (sm_aI S_ 33 0 ((S_.2.2.1 47 (0 + dd_) (i_or he_ ip_).toNat) / 65536).toNat 1) := idf_aI hD_ (Or.inl (by decide))
          refine sm_T_go 4 (c1 := (135, [some (.inr (.inr (some (1, 0)))), some (.inl st_), some (.inl tl_), some (.inl hd9_), some (.inl he_), some (.inl ip_), some (.inl ((S_.2.2.1 47 (0 + dd_) (i_or he_ ip_).toNat) / 65536))], [.inl tl_, .inl st_, .inr (.inr (some (33, 0)))], sm_aI S_ 33 0 ((S_.2.2.1 47 (0 + dd_) (i_or he_ ip_).toNat) / 65536).toNat 1)) rfl ?_
          refine sm_T_bin (w := st_ + tl_) rfl (bi_add (by omega) (by omega) (by omega)) ?_
          refine sm_T_go 1 (c1 := (138, [some (.inr (.inr (some (1, 0)))), some (.inl st_), some (.inl tl_), some (.inl hd9_), some (.inl he_), some (.inl ip_), some (.inl ((S_.2.2.1 47 (0 + dd_) (i_or he_ ip_).toNat) / 65536))], [.inl ((S_.2.2.1 47 (0 + dd_) (i_or he_ ip_).toNat) / 65536), .inl (st_ + tl_), .inr (.inr (some (33, 0)))], sm_aI S_ 33 0 ((S_.2.2.1 47 (0 + dd_) (i_or he_ ip_).toNat) / 65536).toNat 1)) rfl ?_
          refine sm_T_iast (n := 1013) rfl rfl (by omega) (by omega) ?_
          have hIx13_ : gi (sm_aI (sm_aI S_ 33 0 ((S_.2.2.1 47 (0 + dd_) (i_or he_ ip_).toNat) / 65536).toNat 1) 33 0 (st_ + tl_).toNat ((S_.2.2.1 47 (0 + dd_) (i_or he_ ip_).toNat) / 65536)) := gi_aI hIx10_ (show 0 ≤ ((S_.2.2.1 47 (0 + dd_) (i_or he_ ip_).toNat) / 65536) ∧ ((S_.2.2.1 47 (0 + dd_) (i_or he_ ip_).toNat) / 65536) ≤ 1012 from ⟨by omega, by omega⟩)
          have hFx14_ : ai_fr (sx_W vw_52n) S0_ (sm_aI (sm_aI S_ 33 0 ((S_.2.2.1 47 (0 + dd_) (i_or he_ ip_).toNat) / 65536).toNat 1) 33 0 (st_ + tl_).toNat ((S_.2.2.1 47 (0 + dd_) (i_or he_ ip_).toNat) / 65536)) := ai_fr_tr hFx11_ (ai_fr_aI rfl)
          have hDx15_ : idf dd_ S0_ (sm_aI (sm_aI S_ 33 0 ((S_.2.2.1 47 (0 + dd_) (i_or he_ ip_).toNat) / 65536).toNat 1) 33 0 (st_ + tl_).toNat ((S_.2.2.1 47 (0 + dd_) (i_or he_ ip_).toNat) / 65536)) := idf_aI hDx12_ (Or.inl (by decide))
          refine sm_T_inc (a := 2) (z := 1) (v := tl_) (w := tl_ + 1) rfl rfl (by omega) (by omega) (by omega) ?_
          refine sm_T_inc (a := 5) (z := 1) (v := ip_) (w := ip_ + 1) rfl rfl (by omega) (by omega) (by omega) ?_
          refine sm_T_go 1 (c1 := (79, [some (.inr (.inr (some (1, 0)))), some (.inl st_), some (.inl (tl_ + 1)), some (.inl hd9_), some (.inl he_), some (.inl (ip_ + 1)), some (.inl ((S_.2.2.1 47 (0 + dd_) (i_or he_ ip_).toNat) / 65536))], [], sm_aI (sm_aI S_ 33 0 ((S_.2.2.1 47 (0 + dd_) (i_or he_ ip_).toNat) / 65536).toNat 1) 33 0 (st_ + tl_).toNat ((S_.2.2.1 47 (0 + dd_) (i_or he_ ip_).toNat) / 65536))) rfl ?_
          refine sm_T_wk [some (.inr (.inr (some (1, 0)))), some (.inl st_), some (.inl (tl_ + 1)), some (.inl hd9_), some (.inl he_), some (.inl (ip_ + 1)), none] (by exact ⟨rfl, rfl, rfl, rfl, rfl, rfl, trivial⟩) ?_
          refine ih_.2 st_ (tl_ + 1) hd9_ he_ (ip_ + 1) sq_ (sm_aI (sm_aI S_ 33 0 ((S_.2.2.1 47 (0 + dd_) (i_or he_ ip_).toNat) / 65536).toNat 1) 33 0 (st_ + tl_).toNat ((S_.2.2.1 47 (0 + dd_) (i_or he_ ip_).toNat) / 65536)) hIx13_ hFx14_ ⟨?_, ?_, ?_, ?_, ?_, ?_, ?_, ?_, ?_, ?_, ?_, trivial⟩ ?_
          · exact hs_
          · intro j9_ hj9_
            (try simp only [rd_eq, rd_ne, rf_eq, rf_nk, rf_nt, rd_fa, rd_af, rd_fl, rd_al, rd_lf, rd_la, rd_leq, rd_lne, rd_fr, rd_ar, ne_eq, Nat.reduceEqDiff, not_false_eq_true])
            rw [if_neg (by omega)]
            split
            · right; rfl
            · exact hmz_ j9_ hj9_
          · intro j9_ hj9_
            (try simp only [rd_eq, rd_ne, rf_eq, rf_nk, rf_nt, rd_fa, rd_af, rd_fl, rd_al, rd_lf, rd_la, rd_leq, rd_lne, rd_fr, rd_ar, ne_eq, Nat.reduceEqDiff, not_false_eq_true])
            by_cases z9_ : (j9_ : Int) = tl_
            · rw [if_pos (by omega)]; omega
            · rw [if_neg (by omega), if_neg (by omega)]; exact hq_ j9_ (by omega)
          · have u9_ := cn1_up (f := fun k9_ => S_.2.2.1 33 0 k9_) (g := fun k9_ => (sm_aI S_ 33 0 (S_.2.2.1 47 (0 + dd_) (i_or he_ ip_).toNat / 65536).toNat 1).2.2.1 33 0 k9_) (j := (S_.2.2.1 47 (0 + dd_) (i_or he_ ip_).toNat / 65536).toNat) (by show S_.2.2.1 33 0 _ ≠ 1; omega) (by show _ = _; rw [rd_eq, if_pos rfl]) (by intro k9_ hk9_; show _ = _; rw [rd_eq, if_neg hk9_]) (n := st_.toNat) (by omega)
            rw [cn1_cg (g := fun k9_ => (sm_aI S_ 33 0 (S_.2.2.1 47 (0 + dd_) (i_or he_ ip_).toNat / 65536).toNat 1).2.2.1 33 0 k9_) (fun k9_ hk9_ => by show ((sm_aI (sm_aI S_ 33 0 ((S_.2.2.1 47 (0 + dd_) (i_or he_ ip_).toNat) / 65536).toNat 1) 33 0 (st_ + tl_).toNat ((S_.2.2.1 47 (0 + dd_) (i_or he_ ip_).toNat) / 65536))).2.2.1 33 0 k9_ = _; rw [rd_eq, if_neg (by omega)]), u9_]
            push_cast
            omega
          · have ss9_ : st_.toNat = 2 ^ (S0_.1 3 dd_ 2).toNat := (by have z9_ := pw_nn (k_ := (S0_.1 3 dd_ 2).toNat); omega)
            have iz9_ : ip_.toNat < 2 ^ (S0_.1 3 dd_ 1).toNat := (by have z9_ := pw_nn (k_ := (S0_.1 3 dd_ 1).toNat); omega)
            have sz9_ : S_.2.2.1 33 0 sq_.toNat = 1 := (by have z9_ := hri_.1 hd9_.toNat (by omega); rw [hsq_.1] at z9_; exact z9_)
            have ez9_ : ∀ q9_ : Nat, ((sm_aI (sm_aI S_ 33 0 ((S_.2.2.1 47 (0 + dd_) (i_or he_ ip_).toNat) / 65536).toNat 1) 33 0 (st_ + tl_).toNat ((S_.2.2.1 47 (0 + dd_) (i_or he_ ip_).toNat) / 65536))).2.2.1 33 0 q9_ = if q9_ = st_.toNat + tl_.toNat then (S0_.2.2.1 47 (0 + dd_) (sq_.toNat * 2 ^ (S0_.1 3 dd_ 1).toNat + ip_.toNat) / 65536) else if q9_ = (S0_.2.2.1 47 (0 + dd_) (sq_.toNat * 2 ^ (S0_.1 3 dd_ 1).toNat + ip_.toNat) / 65536).toNat then 1 else S_.2.2.1 33 0 q9_ := fun q9_ => by (rw [rd_eq, rd_eq, ← pn9_, ← f47_, show st_.toNat + tl_.toNat = (st_ + tl_).toNat by omega])
            have U9_ := rqi_up (I_ := (S0_.1 3 dd_ 1).toNat) (R_ := (S0_.1 3 dd_ 2).toNat) (k0_ := hd9_.toNat) (nx_ := (fun p_ => S0_.2.2.1 47 (0 + dd_) p_ / 65536)) (b_ := (S0_.1 3 dd_ 5)) ss9_ (rnx_b ht_ (by omega) ss9_) (fun j9_ hj9_ => by have z9_ := hq_ j9_ (by omega); omega) ⟨by omega, sz9_⟩ iz9_ (by omega) ez9_ hri_ hrp_.1 hrd_
            rw [show (tl_ + 1).toNat = tl_.toNat + 1 by omega]
            exact U9_.1
          · have ss9_ : st_.toNat = 2 ^ (S0_.1 3 dd_ 2).toNat := (by have z9_ := pw_nn (k_ := (S0_.1 3 dd_ 2).toNat); omega)
            have iz9_ : ip_.toNat < 2 ^ (S0_.1 3 dd_ 1).toNat := (by have z9_ := pw_nn (k_ := (S0_.1 3 dd_ 1).toNat); omega)
            have sz9_ : S_.2.2.1 33 0 sq_.toNat = 1 := (by have z9_ := hri_.1 hd9_.toNat (by omega); rw [hsq_.1] at z9_; exact z9_)
            have ez9_ : ∀ q9_ : Nat, ((sm_aI (sm_aI S_ 33 0 ((S_.2.2.1 47 (0 + dd_) (i_or he_ ip_).toNat) / 65536).toNat 1) 33 0 (st_ + tl_).toNat ((S_.2.2.1 47 (0 + dd_) (i_or he_ ip_).toNat) / 65536))).2.2.1 33 0 q9_ = if q9_ = st_.toNat + tl_.toNat then (S0_.2.2.1 47 (0 + dd_) (sq_.toNat * 2 ^ (S0_.1 3 dd_ 1).toNat + ip_.toNat) / 65536) else if q9_ = (S0_.2.2.1 47 (0 + dd_) (sq_.toNat * 2 ^ (S0_.1 3 dd_ 1).toNat + ip_.toNat) / 65536).toNat then 1 else S_.2.2.1 33 0 q9_ := fun q9_ => by (rw [rd_eq, rd_eq, ← pn9_, ← f47_, show st_.toNat + tl_.toNat = (st_ + tl_).toNat by omega])
            have U9_ := rqi_up (I_ := (S0_.1 3 dd_ 1).toNat) (R_ := (S0_.1 3 dd_ 2).toNat) (k0_ := hd9_.toNat) (nx_ := (fun p_ => S0_.2.2.1 47 (0 + dd_) p_ / 65536)) (b_ := (S0_.1 3 dd_ 5)) ss9_ (rnx_b ht_ (by omega) ss9_) (fun j9_ hj9_ => by have z9_ := hq_ j9_ (by omega); omega) ⟨by omega, sz9_⟩ iz9_ (by omega) ez9_ hri_ hrp_.1 hrd_
            exact ⟨U9_.2.1, by omega⟩
          · omega
          · exact hh_
          · have ss9_ : st_.toNat = 2 ^ (S0_.1 3 dd_ 2).toNat := (by have z9_ := pw_nn (k_ := (S0_.1 3 dd_ 2).toNat); omega)
            have iz9_ : ip_.toNat < 2 ^ (S0_.1 3 dd_ 1).toNat := (by have z9_ := pw_nn (k_ := (S0_.1 3 dd_ 1).toNat); omega)
            have sz9_ : S_.2.2.1 33 0 sq_.toNat = 1 := (by have z9_ := hri_.1 hd9_.toNat (by omega); rw [hsq_.1] at z9_; exact z9_)
            have ez9_ : ∀ q9_ : Nat, ((sm_aI (sm_aI S_ 33 0 ((S_.2.2.1 47 (0 + dd_) (i_or he_ ip_).toNat) / 65536).toNat 1) 33 0 (st_ + tl_).toNat ((S_.2.2.1 47 (0 + dd_) (i_or he_ ip_).toNat) / 65536))).2.2.1 33 0 q9_ = if q9_ = st_.toNat + tl_.toNat then (S0_.2.2.1 47 (0 + dd_) (sq_.toNat * 2 ^ (S0_.1 3 dd_ 1).toNat + ip_.toNat) / 65536) else if q9_ = (S0_.2.2.1 47 (0 + dd_) (sq_.toNat * 2 ^ (S0_.1 3 dd_ 1).toNat + ip_.toNat) / 65536).toNat then 1 else S_.2.2.1 33 0 q9_ := fun q9_ => by (rw [rd_eq, rd_eq, ← pn9_, ← f47_, show st_.toNat + tl_.toNat = (st_ + tl_).toNat by omega])
            have U9_ := rqi_up (I_ := (S0_.1 3 dd_ 1).toNat) (R_ := (S0_.1 3 dd_ 2).toNat) (k0_ := hd9_.toNat) (nx_ := (fun p_ => S0_.2.2.1 47 (0 + dd_) p_ / 65536)) (b_ := (S0_.1 3 dd_ 5)) ss9_ (rnx_b ht_ (by omega) ss9_) (fun j9_ hj9_ => by have z9_ := hq_ j9_ (by omega); omega) ⟨by omega, sz9_⟩ iz9_ (by omega) ez9_ hri_ hrp_.1 hrd_
            rw [show (ip_ + 1).toNat = ip_.toNat + 1 by omega]
            exact U9_.2.2
          · refine ⟨?_, by omega⟩
            rw [rd_eq, if_neg (by omega), rd_eq, if_neg (by omega)]
            exact hsq_.1
          · exact hDx15_
          · omega
set_option maxHeartbeats 2000000 in
theorem vc_52n {sc_ : Nat × (Nat → Int)} (dd_ : Nat) (F_ : Nat) (S0_ : sm_S) (hI_ : gi S0_) (hd_ : S0_.2.1 1 0 1 = some dd_) (hg_ : dgr dd_ F_ S0_) (hr_ : S0_.1 3 dd_ 2 ≤ 6) (ht_ : dtb dd_ S0_) (hb_ : 0 ≤ S0_.1 3 dd_ 5 ∧ S0_.1 3 dd_ 5 < 2 ^ (S0_.1 3 dd_ 2).toNat) : sm_T (mt_P sc_) 1 52 (0, [some (.inr (.inr (some (1, 0)))), none, none, none, none, none, none], [], S0_) (fun ro9_ => ∃ u_ S1_, ro9_ = (.inl u_, S1_, 0) ∧ vq_52n dd_ F_ S0_ u_ S1_) := by
  have hF_ : ai_fr (sx_W vw_52n) S0_ S0_ := ai_fr_rf
  have hD_ : idf dd_ S0_ S0_ := idf_rf
  have g1_ := hg_.1
  have st64_ := pw_le (n := (S0_.1 3 dd_ 2).toNat) (m := 6) (by omega)
  have st0_ := pw_pos (S0_.1 3 dd_ 2).toNat
  refine sm_T_go 3 (c1 := (5, [some (.inr (.inr (some (1, 0)))), none, none, none, none, none, none], [.inl 0, .inr (.inr (some (33, 0)))], S0_)) rfl ?_
  refine sm_T_cal (d1 := 0) (Q1 := vq_2s 0 S0_) rfl rfl (by decide) (vc_2s 0 S0_ hI_ (by decide)) (fun u_ Sx1_ px4_ => ?_)
  obtain ⟨rfl, hIx2_, hFx3_, px4_⟩ := px4_
  have hFx5_ : ai_fr (sx_W vw_52n) S0_ Sx1_ := ai_fr_tr hF_ (fr_le hFx3_ rfl)
  have hDx6_ : idf dd_ S0_ Sx1_ := idf_tr hD_ (idf_fr hFx3_ (by decide) (by decide))
  have e5_ := px4_
  have q1_ := hFx3_.1 3 dd_ 1 rfl
  have q2_ := hFx3_.1 3 dd_ 2 rfl
  have q5_ := hFx3_.1 3 dd_ 5 rfl
  have b9_ := hb_
  refine sm_T_go 2 (c1 := (10, [some (.inr (.inr (some (1, 0)))), none, none, none, none, none, none], [.inr (.inr (some (1, 0))), .inl 1], Sx1_)) rfl ?_
  refine sm_T_gr rfl rfl ((hFx5_.2.1 1 0 1 rfl).trans hd_) ?_
  have bx7_ : 0 ≤ Sx1_.1 3 dd_ 2 ∧ Sx1_.1 3 dd_ 2 ≤ 100000 := hIx2_.1 3 dd_ 2 rfl
  refine sm_T_go 1 (c1 := (16, [some (.inr (.inr (some (1, 0)))), none, none, none, none, none, none], [.inl (Sx1_.1 3 dd_ 2), .inl 1], Sx1_)) rfl ?_
  refine sm_T_bin (w := (i_shl 1 (Sx1_.1 3 dd_ 2))) rfl rfl ?_
  have bx8_ : i_shl 1 (Sx1_.1 3 dd_ 2) = 2 ^ (S0_.1 3 dd_ 2).toNat := by rw [q2_]; exact i_shl1 (by omega) (by omega)
  obtain ⟨st9_, hst9_⟩ : ∃ st9_, st9_ = i_shl 1 (Sx1_.1 3 dd_ 2) := ⟨_, rfl⟩
  refine sm_T_go 5 (c1 := (24, [some (.inr (.inr (some (1, 0)))), some (.inl (i_shl 1 (Sx1_.1 3 dd_ 2))), none, none, none, none, none], [.inr (.inr (some (1, 0))), .inl (i_shl 1 (Sx1_.1 3 dd_ 2)), .inr (.inr (some (33, 0)))], Sx1_)) rfl ?_
  refine sm_T_gr rfl rfl ((hFx5_.2.1 1 0 1 rfl).trans hd_) ?_
  have bx10_ : 0 ≤ Sx1_.1 3 dd_ 5 ∧ Sx1_.1 3 dd_ 5 ≤ 63 := hIx2_.1 3 dd_ 5 rfl
  refine sm_T_go 1 (c1 := (30, [some (.inr (.inr (some (1, 0)))), some (.inl (i_shl 1 (Sx1_.1 3 dd_ 2))), none, none, none, none, none], [.inl (Sx1_.1 3 dd_ 5), .inl (i_shl 1 (Sx1_.1 3 dd_ 2)), .inr (.inr (some (33, 0)))], Sx1_)) rfl ?_
  refine sm_T_iast (n := 1013) rfl rfl (by omega) (by omega) ?_
  have hIx11_ : gi (sm_aI Sx1_ 33 0 (i_shl 1 (Sx1_.1 3 dd_ 2)).toNat (Sx1_.1 3 dd_ 5)) := gi_aI hIx2_ (show 0 ≤ (Sx1_.1 3 dd_ 5) ∧ (Sx1_.1 3 dd_ 5) ≤ 1012 from ⟨by omega, by omega⟩)
  have hFx12_ : ai_fr (sx_W vw_52n) S0_ (sm_aI Sx1_ 33 0 (i_shl 1 (Sx1_.1 3 dd_ 2)).toNat (Sx1_.1 3 dd_ 5)) := ai_fr_tr hFx5_ (ai_fr_aI rfl)
  have hDx13_ : idf dd_ S0_ (sm_aI Sx1_ 33 0 (i_shl 1 (Sx1_.1 3 dd_ 2)).toNat (Sx1_.1 3 dd_ 5)) := idf_aI hDx6_ (Or.inl (by decide))
  refine sm_T_go 3 (c1 := (36, [some (.inr (.inr (some (1, 0)))), some (.inl (i_shl 1 (Sx1_.1 3 dd_ 2))), none, none, none, none, none], [.inr (.inr (some (1, 0))), .inr (.inr (some (33, 0)))], sm_aI Sx1_ 33 0 (i_shl 1 (Sx1_.1 3 dd_ 2)).toNat (Sx1_.1 3 dd_ 5))) rfl ?_
  refine sm_T_gr rfl rfl ((hFx12_.2.1 1 0 1 rfl).trans hd_) ?_
  refine sm_T_go 2 (c1 := (43, [some (.inr (.inr (some (1, 0)))), some (.inl (i_shl 1 (Sx1_.1 3 dd_ 2))), none, none, none, none, none], [.inl 1, .inl (Sx1_.1 3 dd_ 5), .inr (.inr (some (33, 0)))], sm_aI Sx1_ 33 0 (i_shl 1 (Sx1_.1 3 dd_ 2)).toNat (Sx1_.1 3 dd_ 5))) rfl ?_
  refine sm_T_iast (n := 1013) rfl rfl (by omega) (by omega) ?_
  have hIx14_ : gi (sm_aI (sm_aI Sx1_ 33 0 (i_shl 1 (Sx1_.1 3 dd_ 2)).toNat (Sx1_.1 3 dd_ 5)) 33 0 (Sx1_.1 3 dd_ 5).toNat 1) := gi_aI hIx11_ (show 0 ≤ 1 ∧ 1 ≤ 1012 from ⟨by omega, by omega⟩)
  have hFx15_ : ai_fr (sx_W vw_52n) S0_ (sm_aI (sm_aI Sx1_ 33 0 (i_shl 1 (Sx1_.1 3 dd_ 2)).toNat (Sx1_.1 3 dd_ 5)) 33 0 (Sx1_.1 3 dd_ 5).toNat 1) := ai_fr_tr hFx12_ (ai_fr_aI rfl)
  have hDx16_ : idf dd_ S0_ (sm_aI (sm_aI Sx1_ 33 0 (i_shl 1 (Sx1_.1 3 dd_ 2)).toNat (Sx1_.1 3 dd_ 5)) 33 0 (Sx1_.1 3 dd_ 5).toNat 1) := idf_aI hDx13_ (Or.inl (by decide))
  refine sm_T_go 4 (c1 := (48, [some (.inr (.inr (some (1, 0)))), some (.inl (i_shl 1 (Sx1_.1 3 dd_ 2))), some (.inl 1), some (.inl 0), none, none, none], [], sm_aI (sm_aI Sx1_ 33 0 (i_shl 1 (Sx1_.1 3 dd_ 2)).toNat (Sx1_.1 3 dd_ 5)) 33 0 (Sx1_.1 3 dd_ 5).toNat 1)) rfl ?_
  refine (vl_52n dd_ F_ S0_ hd_ hg_ hr_ ht_ hb_ _).1 (i_shl 1 (Sx1_.1 3 dd_ 2)) 1 0 (sm_aI (sm_aI Sx1_ 33 0 (i_shl 1 (Sx1_.1 3 dd_ 2)).toNat (Sx1_.1 3 dd_ 5)) 33 0 (Sx1_.1 3 dd_ 5).toNat 1) hIx14_ hFx15_ ⟨?_, ?_, ?_, ?_, ?_, ?_, ?_, ?_, trivial⟩ (Nat.lt_succ_self _)
  · omega
  · intro j9_ hj9_
    (try simp only [rd_eq, rd_ne, rf_eq, rf_nk, rf_nt, rd_fa, rd_af, rd_fl, rd_al, rd_lf, rd_la, rd_leq, rd_lne, rd_fr, rd_ar, ne_eq, Nat.reduceEqDiff, not_false_eq_true])
    split
    · right; rfl
    · split
      · exfalso; omega
      · left; exact e5_ j9_ (by omega)
  · intro j9_ hj9_
    (try simp only [rd_eq, rd_ne, rf_eq, rf_nk, rf_nt, rd_fa, rd_af, rd_fl, rd_al, rd_lf, rd_la, rd_leq, rd_lne, rd_fr, rd_ar, ne_eq, Nat.reduceEqDiff, not_false_eq_true])
    rw [if_neg (by omega), if_pos (by omega)]
    omega
  · rw [← hst9_]
    have c9_ := cn1_one (f := fun k9_ : Nat => if k9_ = (S0_.1 3 dd_ 5).toNat then (1 : Int) else 0) (j := (S0_.1 3 dd_ 5).toNat) (by intro k9_; constructor; (intro z9_; by_cases y9_ : k9_ = (S0_.1 3 dd_ 5).toNat; exact y9_; (rw [if_neg y9_] at z9_; exact absurd z9_ (by decide))); (intro z9_; exact if_pos z9_)) st9_.toNat
    rw [if_pos (by omega)] at c9_
    rw [cn1_cg (g := fun k9_ : Nat => if k9_ = (S0_.1 3 dd_ 5).toNat then (1 : Int) else 0) (fun k9_ hk9_ => ?_), c9_]
    · rfl
    · (try dsimp only)
      (try simp only [rd_eq, rd_ne, rf_eq, rf_nk, rf_nt, rd_fa, rd_af, rd_fl, rd_al, rd_lf, rd_la, rd_leq, rd_lne, rd_fr, rd_ar, ne_eq, Nat.reduceEqDiff, not_false_eq_true])
      by_cases z9_ : k9_ = (S0_.1 3 dd_ 5).toNat
      · rw [if_pos (by omega), if_pos z9_]
      · rw [if_neg (by omega), if_neg (by omega), if_neg z9_]; exact e5_ k9_ (by omega)
  · rw [← hst9_]
    refine rqi_0 (by omega) (fun q9_ hq9_ => ?_)
    (try simp only [rd_eq, rd_ne, rf_eq, rf_nk, rf_nt, rd_fa, rd_af, rd_fl, rd_al, rd_lf, rd_la, rd_leq, rd_lne, rd_fr, rd_ar, ne_eq, Nat.reduceEqDiff, not_false_eq_true])
    by_cases z9_ : q9_ = (S0_.1 3 dd_ 5).toNat
    · rw [if_pos (by omega), if_pos z9_]
    · rw [if_neg (by omega), if_neg z9_]
      by_cases y9_ : q9_ = st9_.toNat
      · rw [if_pos (by omega), if_pos y9_]; omega
      · rw [if_neg (by omega), if_neg y9_]; exact e5_ q9_ (by omega)
  · exact ⟨fun j9_ hj9_ => absurd hj9_ (Nat.not_lt_zero _), by decide⟩
  · omega
  · exact hDx16_
/-! M_.reach -/
def vw_361n : sx_Wl := ([], [176], [])
def vq_361n (d_ : Int) (S0_ : sm_S) (u_ : Option sm_V) (S1_ : sm_S) : Prop := ∃ v_ : Int, u_ = some (.inl v_) ∧ gi S1_ ∧ ai_fr (sx_W vw_361n) S0_ S1_ ∧ ((1 ≤ v_ ∧ v_ ≤ 64) ∧ rqc (S0_.2.2.1 154 0 d_.toNat).toNat (S0_.2.2.1 155 0 d_.toNat).toNat (fun p_ => S0_.2.2.1 170 0 (4096 * d_.toNat + p_)) (S0_.2.2.1 157 0 d_.toNat) v_)
set_option maxHeartbeats 400000 in
theorem vl_361n {sc_ : Nat × (Nat → Int)} (d_ : Int) (S0_ : sm_S) (hd_ : 0 ≤ d_ ∧ d_ < 6) (hb_ : (S0_.2.2.1 154 0 (d_.toNat)) + (S0_.2.2.1 155 0 (d_.toNat)) ≤ 12) : ∀ nn_ : Nat, (∀ (s_ : Int) (S_ : sm_S), gi S_ → ai_fr (sx_W vw_361n) S0_ S_ → ((0 ≤ s_ ∧ s_ ≤ 64) ∧ (∀ k_ : Nat, (k_ : Int) < s_ → (S_.2.2.1 176 0 (k_)) = if (k_ : Int) = (S_.2.2.1 157 0 (d_.toNat)) then 1 else 0) ∧ True) → (400000 + (64 - s_).toNat) < nn_ → sm_T (mt_P sc_) 0 361 (2, [some (.inr (.inr (some (13, 0)))), some (.inl d_), some (.inl s_), none, none, none], [], S_) (fun ro9_ => ∃ u_ S1_, ro9_ = (.inl u_, S1_, 0) ∧ vq_361n d_ S0_ u_ S1_)) ∧ (∀ (many : Int) (had_ : Int) (S_ : sm_S), gi S_ → ai_fr (sx_W vw_361n) S0_ S_ → ((0 ≤ had_ ∧ had_ ≤ many ∧ 1 ≤ many) ∧ (many = cn1 (fun k_ => (S_.2.2.1 176 0 (k_))) 64) ∧ (rfm (S0_.2.2.1 154 0 d_.toNat).toNat (S0_.2.2.1 155 0 d_.toNat).toNat (fun p_ => S0_.2.2.1 170 0 (4096 * d_.toNat + p_)) (S0_.2.2.1 157 0 d_.toNat) (S_.2.2.1 176 0)) ∧ (rfc (S0_.2.2.1 154 0 d_.toNat).toNat (S0_.2.2.1 155 0 d_.toNat).toNat (fun p_ => S0_.2.2.1 170 0 (4096 * d_.toNat + p_)) many had_ (2 ^ ((S0_.2.2.1 154 0 d_.toNat).toNat + (S0_.2.2.1 155 0 d_.toNat).toNat)) (S_.2.2.1 176 0)) ∧ True) → (((65 - had_) * 5000).toNat) < nn_ → sm_T (mt_P sc_) 0 361 (39, [some (.inr (.inr (some (13, 0)))), some (.inl d_), some (.inl many), some (.inl had_), none, none], [], S_) (fun ro9_ => ∃ u_ S1_, ro9_ = (.inl u_, S1_, 0) ∧ vq_361n d_ S0_ u_ S1_)) ∧ (∀ (many : Int) (had_ : Int) (p_ : Int) (S_ : sm_S), gi S_ → ai_fr (sx_W vw_361n) S0_ S_ → ((1 ≤ had_ ∧ had_ ≤ many ∧ 0 ≤ p_ ∧ p_ ≤ 4096) ∧ (many = cn1 (fun k_ => (S_.2.2.1 176 0 (k_))) 64) ∧ (rfm (S0_.2.2.1 154 0 d_.toNat).toNat (S0_.2.2.1 155 0 d_.toNat).toNat (fun p_ => S0_.2.2.1 170 0 (4096 * d_.toNat + p_)) (S0_.2.2.1 157 0 d_.toNat) (S_.2.2.1 176 0)) ∧ (rfc (S0_.2.2.1 154 0 d_.toNat).toNat (S0_.2.2.1 155 0 d_.toNat).toNat (fun p_ => S0_.2.2.1 170 0 (4096 * d_.toNat + p_)) many had_ p_.toNat (S_.2.2.1 176 0)) ∧ True) → (((65 - had_) * 5000 + (4097 - p_)).toNat) < nn_ → sm_T (mt_P sc_) 0 361 (49, [some (.inr (.inr (some (13, 0)))), some (.inl d_), some (.inl many), some (.inl had_), some (.inl p_), none], [], S_) (fun ro9_ => ∃ u_ S1_, ro9_ = (.inl u_, S1_, 0) ∧ vq_361n d_ S0_ u_ S1_)) := by
  intro nn_
  induction nn_ with
  | zero => exact ⟨fun _ _ _ _ _ h_ => absurd h_ (Nat.not_lt_zero _), fun _ _ _ _ _ _ h_ => absurd h_ (Nat.not_lt_zero _), fun _ _ _ _ _ _ _ h_ => absurd h_ (Nat.not_lt_zero _)⟩
  | succ nn_ ih_ =>
    refine ⟨?_, ?_, ?_⟩
    · rintro s_ S_ hI_ hF_ ⟨h1_, h2_, -⟩ hm_
      refine sm_T_go 2 (c1 := (5, [some (.inr (.inr (some (13, 0)))), some (.inl d_), some (.inl s_), none, none, none], [.inl 64, .inl s_], S_)) rfl ?_
      refine sm_T_br (a := 3) (z := 30) rfl (fun cx1_ => ?_) (fun cx1_ => ?_)
      · have cx1_ : 64 ≤ s_ := of_decide_eq_true cx1_
        refine sm_T_go 4 (c1 := (39, [some (.inr (.inr (some (13, 0)))), some (.inl d_), some (.inl 1), some (.inl 0), none, none], [], S_)) rfl ?_
        refine ih_.2.1 1 0 S_ hI_ hF_ ⟨?_, ?_, ?_, ?_, trivial⟩ ?_
        · omega
        · have e_ := cn1_one (f := fun k_ : Nat => if (k_ : Int) = S_.2.2.1 157 0 d_.toNat then 1 else 0) (j := (S_.2.2.1 157 0 d_.toNat).toNat) (by intro k_; have := hI_.2 157 0 d_.toNat; have a1_ : 0 ≤ S_.2.2.1 157 0 d_.toNat := this.1; constructor <;> intro h_ <;> first | (split at h_ <;> omega) | (rw [if_pos (by omega)])) 64
          have b9_ : 0 ≤ S_.2.2.1 157 0 d_.toNat ∧ S_.2.2.1 157 0 d_.toNat ≤ 63 := hI_.2 157 0 _
          rw [if_pos (by omega)] at e_
          rw [cn1_cg (fun k_ hk_ => h2_ k_ (by omega)), e_]
          rfl
        · have f57_ : S_.2.2.1 157 0 = S0_.2.2.1 157 0 := fr_arr hF_ rfl
          have b9_ : 0 ≤ S_.2.2.1 157 0 d_.toNat ∧ S_.2.2.1 157 0 d_.toNat ≤ 63 := hI_.2 157 0 _
          rw [f57_] at b9_
          refine rfm_0 (by omega) (fun k9_ hk9_ => ?_)
          rw [← f57_]
          exact h2_ k9_ (by omega)
        · exact rfc_n (by decide)
        · omega
      · have cx1_ : ¬ (64 ≤ s_) := of_decide_eq_false cx1_
        refine sm_T_go 7 (c1 := (19, [some (.inr (.inr (some (13, 0)))), some (.inl d_), some (.inl s_), none, none, none], [.inl d_, .inr (.inr (some (157, 0))), .inl s_, .inl s_, .inr (.inr (some (176, 0)))], S_)) rfl ?_
        refine sm_T_iald (n := 6) rfl rfl (by omega) (by omega) ?_
        have bx2_ : 0 ≤ S_.2.2.1 157 0 d_.toNat ∧ S_.2.2.1 157 0 d_.toNat ≤ 63 := hI_.2 157 0 _
        refine sm_T_br (a := 1) (z := 7) rfl (fun cx3_ => ?_) (fun cx3_ => ?_)
        · have cx3_ : s_ ≠ (S_.2.2.1 157 0 d_.toNat) := of_decide_eq_true cx3_
          refine sm_T_go 1 (c1 := (28, [some (.inr (.inr (some (13, 0)))), some (.inl d_), some (.inl s_), none, none, none], [.inl 0, .inl s_, .inr (.inr (some (176, 0)))], S_)) rfl ?_
          refine sm_T_zas1 (n := 64) rfl rfl (by omega) (by omega) (by omega) ?_
          have hIx4_ : gi (sm_aI S_ 176 0 s_.toNat 0) := gi_aI hI_ (show 0 ≤ 0 ∧ 0 ≤ 1 from ⟨by omega, by omega⟩)
          have hFx5_ : ai_fr (sx_W vw_361n) S0_ (sm_aI S_ 176 0 s_.toNat 0) := ai_fr_tr hF_ (ai_fr_aI rfl)
          refine sm_T_inc (a := 2) (z := 1) (v := s_) (w := s_ + 1) rfl rfl (by omega) (by omega) (by omega) ?_
          refine sm_T_go 1 (c1 := (2, [some (.inr (.inr (some (13, 0)))), some (.inl d_), some (.inl (s_ + 1)), none, none, none], [], sm_aI S_ 176 0 s_.toNat 0)) rfl ?_
          refine ih_.1 (s_ + 1) (sm_aI S_ 176 0 s_.toNat 0) hIx4_ hFx5_ ⟨?_, ?_, trivial⟩ ?_
          · omega
          · intro k9_ hk9_
            (try simp only [rd_eq, rd_ne, rf_eq, rf_nk, rf_nt, rd_fa, rd_af, rd_fl, rd_al, rd_lf, rd_la, rd_leq, rd_lne, rd_fr, rd_ar, ne_eq, Nat.reduceEqDiff, not_false_eq_true])
            by_cases z9_ : k9_ = s_.toNat
            · rw [if_pos z9_]; first | rw [if_pos (by omega)] | rw [if_neg (by omega)]
            · rw [if_neg z9_]; exact h2_ k9_ (by omega)
          · omega
        · have cx3_ : ¬ (s_ ≠ (S_.2.2.1 157 0 d_.toNat)) := of_decide_eq_false cx3_
          refine sm_T_go 2 (c1 := (28, [some (.inr (.inr (some (13, 0)))), some (.inl d_), some (.inl s_), none, none, none], [.inl 1, .inl s_, .inr (.inr (some (176, 0)))], S_)) rfl ?_
          refine sm_T_zas1 (n := 64) rfl rfl (by omega) (by omega) (by omega) ?_
          have hIx6_ : gi (sm_aI S_ 176 0 s_.toNat 1) := gi_aI hI_ (show 0 ≤ 1 ∧ 1 ≤ 1 from ⟨by omega, by omega⟩)
          have hFx7_ : ai_fr (sx_W vw_361n) S0_ (sm_aI S_ 176 0 s_.toNat 1) := ai_fr_tr hF_ (ai_fr_aI rfl)
          refine sm_T_inc (a := 2) (z := 1) (v := s_) (w := s_ + 1) rfl rfl (by omega) (by omega) (by omega) ?_
          refine sm_T_go 1 (c1 := (2, [some (.inr (.inr (some (13, 0)))), some (.inl d_), some (.inl (s_ + 1)), none, none, none], [], sm_aI S_ 176 0 s_.toNat 1)) rfl ?_
          refine ih_.1 (s_ + 1) (sm_aI S_ 176 0 s_.toNat 1) hIx6_ hFx7_ ⟨?_, ?_, trivial⟩ ?_
          · omega
          · intro k9_ hk9_
            (try simp only [rd_eq, rd_ne, rf_eq, rf_nk, rf_nt, rd_fa, rd_af, rd_fl, rd_al, rd_lf, rd_la, rd_leq, rd_lne, rd_fr, rd_ar, ne_eq, Nat.reduceEqDiff, not_false_eq_true])
            by_cases z9_ : k9_ = s_.toNat
            · rw [if_pos z9_]; first | rw [if_pos (by omega)] | rw [if_neg (by omega)]
            · rw [if_neg z9_]; exact h2_ k9_ (by omega)
          · omega
    · rintro many had_ S_ hI_ hF_ ⟨h1_, h2_, h3_, h4_, -⟩ hm_
      have hc_ := cn1_le (fun k_ => (S_.2.2.1 176 0 (k_))) 64
      refine sm_T_go 2 (c1 := (41, [some (.inr (.inr (some (13, 0)))), some (.inl d_), some (.inl many), some (.inl had_), none, none], [.inl had_, .inl many], S_)) rfl ?_
      refine sm_T_br (a := 0) (z := 90) rfl (fun cx1_ => ?_) (fun cx1_ => ?_)
      · have cx1_ : many = had_ := of_decide_eq_true cx1_
        refine sm_T_go 1 (c1 := (132, [some (.inr (.inr (some (13, 0)))), some (.inl d_), some (.inl many), some (.inl had_), none, none], [.inl many], S_)) rfl ?_
        refine sm_T_ri rfl ⟨_, _, rfl, _, rfl, hI_, hF_, ?_⟩
        refine ⟨by omega, S_.2.2.1 176 0, 64, rfc_end h4_ (by omega) (fun q9_ => ?_) h3_, h2_⟩
        have z9_ : 0 ≤ S_.2.2.1 170 0 (4096 * d_.toNat + q9_) ∧ S_.2.2.1 170 0 (4096 * d_.toNat + q9_) ≤ 63 := hI_.2 170 0 _
        rw [fr_arr (t := 170) (i := 0) hF_ rfl] at z9_
        show (S0_.2.2.1 170 0 (4096 * d_.toNat + q9_)).toNat < 64
        omega
      · have cx1_ : ¬ (many = had_) := of_decide_eq_false cx1_
        refine sm_T_go 4 (c1 := (49, [some (.inr (.inr (some (13, 0)))), some (.inl d_), some (.inl many), some (.inl many), some (.inl 0), none], [], S_)) rfl ?_
        refine ih_.2.2 many many 0 S_ hI_ hF_ ⟨?_, ?_, ?_, ?_, trivial⟩ ?_
        · omega
        · exact h2_
        · exact h3_
        · exact rfc_0
        · omega
    · rintro many had_ p_ S_ hI_ hF_ ⟨h1_, h2_, h3_, h4_, -⟩ hm_
      have hc_ := cn1_le (fun k_ => (S_.2.2.1 176 0 (k_))) 64
      have e1_ := (hF_.2.2 154 rfl 0 d_.toNat).1
      have e2_ := (hF_.2.2 155 rfl 0 d_.toNat).1
      have f70_ : S_.2.2.1 170 0 = S0_.2.2.1 170 0 := fr_arr hF_ rfl
      refine sm_T_go 5 (c1 := (57, [some (.inr (.inr (some (13, 0)))), some (.inl d_), some (.inl many), some (.inl had_), some (.inl p_), none], [.inl d_, .inr (.inr (some (154, 0))), .inl 1, .inl p_], S_)) rfl ?_
      refine sm_T_iald (n := 6) rfl rfl (by omega) (by omega) ?_
      have bx1_ : 0 ≤ S_.2.2.1 154 0 d_.toNat ∧ S_.2.2.1 154 0 d_.toNat ≤ 12 := hI_.2 154 0 _
      refine sm_T_go 3 (c1 := (63, [some (.inr (.inr (some (13, 0)))), some (.inl d_), some (.inl many), some (.inl had_), some (.inl p_), none], [.inl d_, .inr (.inr (some (155, 0))), .inl (S_.2.2.1 154 0 d_.toNat), .inl 1, .inl p_], S_)) rfl ?_
      refine sm_T_iald (n := 6) rfl rfl (by omega) (by omega) ?_
      have bx2_ : 0 ≤ S_.2.2.1 155 0 d_.toNat ∧ S_.2.2.1 155 0 d_.toNat ≤ 6 := hI_.2 155 0 _
      refine sm_T_bin (w := (S_.2.2.1 154 0 d_.toNat) + (S_.2.2.1 155 0 d_.toNat)) rfl (bi_add (by omega) (by omega) (by omega)) ?_
      refine sm_T_bin (w := (i_shl 1 ((S_.2.2.1 154 0 d_.toNat) + (S_.2.2.1 155 0 d_.toNat)))) rfl rfl ?_
      have bx3_ := i_shl1 (e := ((S_.2.2.1 154 0 d_.toNat) + (S_.2.2.1 155 0 d_.toNat))) (by omega) (by omega)
      have hp_ := pw_le (n := (((S_.2.2.1 154 0 d_.toNat) + (S_.2.2.1 155 0 d_.toNat))).toNat) (m := 12) (by omega)
      have hp0_ := pw_pos (((S_.2.2.1 154 0 d_.toNat) + (S_.2.2.1 155 0 d_.toNat))).toNat
      have hx7_ : (2 : Int) ^ (((S_.2.2.1 154 0 d_.toNat) + (S_.2.2.1 155 0 d_.toNat))).toNat = 2 ^ ((S0_.2.2.1 154 0 d_.toNat).toNat + (S0_.2.2.1 155 0 d_.toNat).toNat) := by rw [show (((S_.2.2.1 154 0 d_.toNat) + (S_.2.2.1 155 0 d_.toNat))).toNat = (S0_.2.2.1 154 0 d_.toNat).toNat + (S0_.2.2.1 155 0 d_.toNat).toNat by omega]
      refine sm_T_br (a := 3) (z := 62) rfl (fun cx7_ => ?_) (fun cx7_ => ?_)
      · have cx7_ : (i_shl 1 ((S_.2.2.1 154 0 d_.toNat) + (S_.2.2.1 155 0 d_.toNat))) ≤ p_ := of_decide_eq_true cx7_
        refine sm_T_go 1 (c1 := (39, [some (.inr (.inr (some (13, 0)))), some (.inl d_), some (.inl many), some (.inl had_), some (.inl p_), none], [], S_)) rfl ?_
        refine sm_T_wk [some (.inr (.inr (some (13, 0)))), some (.inl d_), some (.inl many), some (.inl had_), none, none] (by exact ⟨rfl, rfl, rfl, rfl, trivial⟩) ?_
        refine ih_.2.1 many had_ S_ hI_ hF_ ⟨?_, ?_, ?_, ?_, trivial⟩ ?_
        · omega
        · exact h2_
        · exact h3_
        · refine rfc_le h4_ ?_
          have z9_ := pw_nn (k_ := (S0_.2.2.1 154 0 d_.toNat).toNat + (S0_.2.2.1 155 0 d_.toNat).toNat)
          omega
        · omega
      · have cx7_ : ¬ ((i_shl 1 ((S_.2.2.1 154 0 d_.toNat) + (S_.2.2.1 155 0 d_.toNat))) ≤ p_) := of_decide_eq_false cx7_
        refine sm_T_go 4 (c1 := (77, [some (.inr (.inr (some (13, 0)))), some (.inl d_), some (.inl many), some (.inl had_), some (.inl p_), none], [.inl d_, .inl 4096, .inr (.inr (some (170, 0)))], S_)) rfl ?_
        refine sm_T_bin (w := 4096 * d_) rfl (bi_mul (by omega) (by omega) (by omega)) ?_
        refine sm_T_go 1 (c1 := (80, [some (.inr (.inr (some (13, 0)))), some (.inl d_), some (.inl many), some (.inl had_), some (.inl p_), none], [.inl p_, .inl (4096 * d_), .inr (.inr (some (170, 0)))], S_)) rfl ?_
        refine sm_T_bin (w := 4096 * d_ + p_) rfl (bi_add (by omega) (by omega) (by omega)) ?_
        refine sm_T_iald (n := 24576) rfl rfl (by omega) (by omega) ?_
        have bx8_ : 0 ≤ S_.2.2.1 170 0 (4096 * d_ + p_).toNat ∧ S_.2.2.1 170 0 (4096 * d_ + p_).toNat ≤ 63 := hI_.2 170 0 _
        refine sm_T_go 7 (c1 := (95, [some (.inr (.inr (some (13, 0)))), some (.inl d_), some (.inl many), some (.inl had_), some (.inl p_), some (.inl (S_.2.2.1 170 0 (4096 * d_ + p_).toNat))], [.inl d_, .inr (.inr (some (154, 0))), .inl p_, .inr (.inr (some (176, 0)))], S_)) rfl ?_
        refine sm_T_iald (n := 6) rfl rfl (by omega) (by omega) ?_
        refine sm_T_bin (w := (i_shr p_ (S_.2.2.1 154 0 d_.toNat))) rfl rfl ?_
        have bx9_ := i_shrv (x := p_) (e := (S_.2.2.1 154 0 d_.toNat)) (by omega) (by omega) (by omega)
        have hk7_ : (i_shr p_ (S_.2.2.1 154 0 d_.toNat)).toNat = p_.toNat / 2 ^ (S0_.2.2.1 154 0 d_.toNat).toNat := by (rw [i_shrv (x := p_) (e := (S_.2.2.1 154 0 d_.toNat)) (by omega) (by omega) (by omega), e1_]; exact shr_n (by omega))
        have hq_ := shr_lt (x := p_) (a := (S_.2.2.1 154 0 d_.toNat)) (b := S_.2.2.1 155 0 d_.toNat) (by omega) (by omega) (by omega) (by omega)
        have hq2_ := pw_le (n := (S_.2.2.1 155 0 d_.toNat).toNat) (m := 6) (by omega)
        refine sm_T_zald (n := 64) rfl rfl (by omega) (by omega) ?_
        have bx13_ : 0 ≤ S_.2.2.1 176 0 (i_shr p_ (S_.2.2.1 154 0 d_.toNat)).toNat ∧ S_.2.2.1 176 0 (i_shr p_ (S_.2.2.1 154 0 d_.toNat)).toNat ≤ 1 := hI_.2 176 0 _
        refine sm_T_b0 (a := 0) (z := 24) rfl (fun cx14_ => ?_) (fun cx14_ => ?_)
        · have cx14_ : (S_.2.2.1 176 0 (i_shr p_ (S_.2.2.1 154 0 d_.toNat)).toNat) = 0 := of_decide_eq_true cx14_
          refine sm_T_inc (a := 4) (z := 1) (v := p_) (w := p_ + 1) rfl rfl (by omega) (by omega) (by omega) ?_
          refine sm_T_go 1 (c1 := (49, [some (.inr (.inr (some (13, 0)))), some (.inl d_), some (.inl many), some (.inl had_), some (.inl (p_ + 1)), some (.inl (S_.2.2.1 170 0 (4096 * d_ + p_).toNat))], [], S_)) rfl ?_
          refine sm_T_wk [some (.inr (.inr (some (13, 0)))), some (.inl d_), some (.inl many), some (.inl had_), some (.inl (p_ + 1)), none] (by exact ⟨rfl, rfl, rfl, rfl, rfl, trivial⟩) ?_
          refine ih_.2.2 many had_ (p_ + 1) S_ hI_ hF_ ⟨?_, ?_, ?_, ?_, trivial⟩ ?_
          · omega
          · exact h2_
          · exact h3_
          · rw [show (p_ + 1).toNat = p_.toNat + 1 by omega]
            refine rfc_s h4_ (fun z9_ => ?_)
            rw [← hk7_] at z9_
            show S_.2.2.1 176 0 (S0_.2.2.1 170 0 (4096 * d_.toNat + p_.toNat)).toNat = 1
            rw [← f70_, show 4096 * d_.toNat + p_.toNat = (4096 * d_ + p_).toNat by omega]
            omega
          · omega
        · have cx14_ : ¬ ((S_.2.2.1 176 0 (i_shr p_ (S_.2.2.1 154 0 d_.toNat)).toNat) = 0) := of_decide_eq_false cx14_
          refine sm_T_go 3 (c1 := (107, [some (.inr (.inr (some (13, 0)))), some (.inl d_), some (.inl many), some (.inl had_), some (.inl p_), some (.inl (S_.2.2.1 170 0 (4096 * d_ + p_).toNat))], [.inl (S_.2.2.1 170 0 (4096 * d_ + p_).toNat), .inr (.inr (some (176, 0)))], S_)) rfl ?_
          refine sm_T_zald (n := 64) rfl rfl (by omega) (by omega) ?_
          have bx15_ : 0 ≤ S_.2.2.1 176 0 (S_.2.2.1 170 0 (4096 * d_ + p_).toNat).toNat ∧ S_.2.2.1 176 0 (S_.2.2.1 170 0 (4096 * d_ + p_).toNat).toNat ≤ 1 := hI_.2 176 0 _
          refine sm_T_b0 (a := 1) (z := 14) rfl (fun cx16_ => ?_) (fun cx16_ => ?_)
          · have cx16_ : (S_.2.2.1 176 0 (S_.2.2.1 170 0 (4096 * d_ + p_).toNat).toNat) ≠ 0 := of_decide_eq_true cx16_
            refine sm_T_inc (a := 4) (z := 1) (v := p_) (w := p_ + 1) rfl rfl (by omega) (by omega) (by omega) ?_
            refine sm_T_go 1 (c1 := (49, [some (.inr (.inr (some (13, 0)))), some (.inl d_), some (.inl many), some (.inl had_), some (.inl (p_ + 1)), some (.inl (S_.2.2.1 170 0 (4096 * d_ + p_).toNat))], [], S_)) rfl ?_
            refine sm_T_wk [some (.inr (.inr (some (13, 0)))), some (.inl d_), some (.inl many), some (.inl had_), some (.inl (p_ + 1)), none] (by exact ⟨rfl, rfl, rfl, rfl, rfl, trivial⟩) ?_
            refine ih_.2.2 many had_ (p_ + 1) S_ hI_ hF_ ⟨?_, ?_, ?_, ?_, trivial⟩ ?_
            · omega
            · exact h2_
            · exact h3_
            · rw [show (p_ + 1).toNat = p_.toNat + 1 by omega]
              refine rfc_s h4_ (fun z9_ => ?_)
              rw [← hk7_] at z9_
              show S_.2.2.1 176 0 (S0_.2.2.1 170 0 (4096 * d_.toNat + p_.toNat)).toNat = 1
              rw [← f70_, show 4096 * d_.toNat + p_.toNat = (4096 * d_ + p_).toNat by omega]
              omega
            · omega
          · have cx16_ : ¬ ((S_.2.2.1 176 0 (S_.2.2.1 170 0 (4096 * d_ + p_).toNat).toNat) ≠ 0) := of_decide_eq_false cx16_
            refine sm_T_go 4 (c1 := (118, [some (.inr (.inr (some (13, 0)))), some (.inl d_), some (.inl many), some (.inl had_), some (.inl p_), some (.inl (S_.2.2.1 170 0 (4096 * d_ + p_).toNat))], [.inl 1, .inl (S_.2.2.1 170 0 (4096 * d_ + p_).toNat), .inr (.inr (some (176, 0)))], S_)) rfl ?_
            refine sm_T_zas1 (n := 64) rfl rfl (by omega) (by omega) (by omega) ?_
            have hIx17_ : gi (sm_aI S_ 176 0 (S_.2.2.1 170 0 (4096 * d_ + p_).toNat).toNat 1) := gi_aI hI_ (show 0 ≤ 1 ∧ 1 ≤ 1 from ⟨by omega, by omega⟩)
            have hFx18_ : ai_fr (sx_W vw_361n) S0_ (sm_aI S_ 176 0 (S_.2.2.1 170 0 (4096 * d_ + p_).toNat).toNat 1) := ai_fr_tr hF_ (ai_fr_aI rfl)
            refine sm_T_inc (a := 2) (z := 1) (v := many) (w := many + 1) rfl rfl (by omega) (by omega) (by omega) ?_
            refine sm_T_inc (a := 4) (z := 1) (v := p_) (w := p_ + 1) rfl rfl (by omega) (by omega) (by omega) ?_
            refine sm_T_go 1 (c1 := (49, [some (.inr (.inr (some (13, 0)))), some (.inl d_), some (.inl (many + 1)), some (.inl had_), some (.inl (p_ + 1)), some (.inl (S_.2.2.1 170 0 (4096 * d_ + p_).toNat))], [], sm_aI S_ 176 0 (S_.2.2.1 170 0 (4096 * d_ + p_).toNat).toNat 1)) rfl ?_
            refine sm_T_wk [some (.inr (.inr (some (13, 0)))), some (.inl d_), some (.inl (many + 1)), some (.inl had_), some (.inl (p_ + 1)), none] (by exact ⟨rfl, rfl, rfl, rfl, rfl, trivial⟩) ?_
            refine ih_.2.2 (many + 1) had_ (p_ + 1) (sm_aI S_ 176 0 (S_.2.2.1 170 0 (4096 * d_ + p_).toNat).toNat 1) hIx17_ hFx18_ ⟨?_, ?_, ?_, ?_, trivial⟩ ?_
            · omega
            · have := cn1_up (f := fun k_ => S_.2.2.1 176 0 k_) (g := fun k_ => (sm_aI S_ 176 0 (S_.2.2.1 170 0 (4096 * d_ + p_).toNat).toNat 1).2.2.1 176 0 k_) (j := (S_.2.2.1 170 0 (4096 * d_ + p_).toNat).toNat) (by show S_.2.2.1 176 0 _ ≠ 1; omega) (by show _ = _; rw [rd_aa, if_pos ⟨rfl, rfl, rfl⟩]) (by intro k_ hk_; show _ = _; rw [rd_aa, if_neg (by omega)]) (n := 64) (by omega)
              omega
            · refine rfm_s (q_ := p_.toNat) h3_ ?_ ⟨?_, ?_⟩ (fun k9_ => ?_)
              · have z9_ := pw_nn (k_ := (S0_.2.2.1 154 0 d_.toNat).toNat + (S0_.2.2.1 155 0 d_.toNat).toNat); omega
              · rw [← hk7_]; omega
              · rw [← hk7_]; omega
              · rw [rd_eq]
                show _ = if k9_ = (S0_.2.2.1 170 0 (4096 * d_.toNat + p_.toNat)).toNat then 1 else _
                rw [← f70_, show 4096 * d_.toNat + p_.toNat = (4096 * d_ + p_).toNat by omega]
            · exact rfc_n (by omega)
            · omega
set_option maxHeartbeats 400000 in
theorem vc_361n {sc_ : Nat × (Nat → Int)} (d_ : Int) (S0_ : sm_S) (hI_ : gi S0_) (hd_ : 0 ≤ d_ ∧ d_ < 6) (hb_ : (S0_.2.2.1 154 0 (d_.toNat)) + (S0_.2.2.1 155 0 (d_.toNat)) ≤ 12) : sm_T (mt_P sc_) 0 361 (0, [some (.inr (.inr (some (13, 0)))), some (.inl d_), none, none, none, none], [], S0_) (fun ro9_ => ∃ u_ S1_, ro9_ = (.inl u_, S1_, 0) ∧ vq_361n d_ S0_ u_ S1_) := by
  have hF_ : ai_fr (sx_W vw_361n) S0_ S0_ := ai_fr_rf
  refine sm_T_go 2 (c1 := (2, [some (.inr (.inr (some (13, 0)))), some (.inl d_), some (.inl 0), none, none, none], [], S0_)) rfl ?_
  refine (vl_361n d_ S0_ hd_ hb_ _).1 0 S0_ hI_ hF_ ⟨?_, ?_, trivial⟩ (Nat.lt_succ_self _)
  · omega
  · intro k_ hk_; omega
end
/-! 99.ztW7 -/
section
/-! what graph tells: definitions; written by wip/p55/gen/vg -/

/-! what graph tells -/
def gsp (F_ N_ O_ R_ I_ : Nat) (lo_ hi_ sf_ ro_ rn_ nx_ : Nat → Int) (b_ dep_ ands rea_ : Int) : Prop := (∃ d_ : Nat → Int, dpr F_ N_ lo_ hi_ d_ ∧ dep_ = mxf (fun j_ => d_ (rto O_ ro_ rn_ j_ / 2).toNat) (O_ + R_)) ∧ ands = ndc F_ N_ (O_ + R_) sf_ lo_ hi_ (rto O_ ro_ rn_) ∧ rqc I_ R_ nx_ b_ rea_
theorem gsp_cg {F_ N_ O_ R_ I_ : Nat} {lo_ hi_ sf_ ro_ rn_ nx_ lo'_ hi'_ sf'_ ro'_ rn'_ nx'_ : Nat → Int} {b_ dep_ ands rea_ : Int} (hg_ : glo F_ N_ lo_ hi_) (e_ : ∀ n_, F_ ≤ n_ → n_ < N_ → lo'_ n_ = lo_ n_ ∧ hi'_ n_ = hi_ n_) (hs_ : ∀ m_, m_ < N_ → sf'_ m_ = sf_ m_) (h1_ : ∀ k_, k_ < O_ → ro'_ k_ = ro_ k_ ∧ 0 ≤ ro_ k_ ∧ ro_ k_ < 2 * (N_ : Int)) (h2_ : ∀ k_, k_ < R_ → rn'_ k_ = rn_ k_ ∧ 0 ≤ rn_ k_ ∧ rn_ k_ < 2 * (N_ : Int)) (hn_ : ∀ p_, p_ < 2 ^ (I_ + R_) → nx'_ p_ = nx_ p_) (h_ : gsp F_ N_ O_ R_ I_ lo_ hi_ sf_ ro_ rn_ nx_ b_ dep_ ands rea_) : gsp F_ N_ O_ R_ I_ lo'_ hi'_ sf'_ ro'_ rn'_ nx'_ b_ dep_ ands rea_ := by
  obtain ⟨⟨d_, d1_, d2_⟩, h3_, h4_⟩ := h_
  have r_ := rto_cg h1_ h2_
  refine ⟨⟨d_, fun k_ hk_ => ⟨(d1_ k_ hk_).1, fun a_ => ?_⟩, ?_⟩, ?_, rqc_cg hn_ h4_⟩
  · rw [(e_ k_ a_ hk_).1, (e_ k_ a_ hk_).2]
    exact (d1_ k_ hk_).2 a_
  · rw [d2_]
    exact mxf_cg _ (fun j_ hj_ => by
      show d_ (rto O_ ro_ rn_ j_ / 2).toNat = d_ (rto O_ ro'_ rn'_ j_ / 2).toNat
      rw [(r_ j_ hj_).1])
  · rw [h3_]
    exact (ndc_cg hs_ hg_ e_ r_).symm
theorem gsp_u {F_ N_ O_ R_ I_ : Nat} {lo_ hi_ sf_ ro_ rn_ nx_ : Nat → Int} {b_ dep_ ands rea_ dep'_ ands' rea'_ : Int} (hg_ : glo F_ N_ lo_ hi_) (h1_ : ∀ k_, k_ < O_ → 0 ≤ ro_ k_ ∧ ro_ k_ < 2 * (N_ : Int)) (h2_ : ∀ k_, k_ < R_ → 0 ≤ rn_ k_ ∧ rn_ k_ < 2 * (N_ : Int)) (h_ : gsp F_ N_ O_ R_ I_ lo_ hi_ sf_ ro_ rn_ nx_ b_ dep_ ands rea_) (g_ : gsp F_ N_ O_ R_ I_ lo_ hi_ sf_ ro_ rn_ nx_ b_ dep'_ ands' rea'_) : dep_ = dep'_ ∧ ands = ands' ∧ rea_ = rea'_ := by
  obtain ⟨⟨d_, d1_, d2_⟩, h3_, h4_⟩ := h_
  obtain ⟨⟨d'_, e1_, e2_⟩, g3_, g4_⟩ := g_
  have r_ := rto_cg (N_ := N_) (O_ := O_) (R_ := R_) (ro'_ := ro_) (rn'_ := rn_) (fun k_ hk_ => ⟨rfl, h1_ k_ hk_⟩) (fun k_ hk_ => ⟨rfl, h2_ k_ hk_⟩)
  refine ⟨?_, h3_.trans g3_.symm, rqc_u h4_ g4_⟩
  rw [d2_, e2_]
  exact mxf_cg _ (fun j_ hj_ => by
    have q_ := r_ j_ hj_
    exact dpr_u hg_ (fun n_ _ _ => ⟨rfl, rfl⟩) d1_ e1_ N_ _ (by omega) (by omega))
/-! the_ reference -/
def dpq (F_ : Nat) (o_ v_ : Int) (S_ : sm_S) : Prop := ∃ d_ : Nat → Int, dpr F_ (S_.1 13 0 37).toNat (S_.2.2.1 140 0) (S_.2.2.1 141 0) d_ ∧ v_ = mxf (fun j_ => d_ ((if (j_ : Int) < o_ then S_.2.2.1 175 0 j_ else S_.2.2.1 151 0 (j_ - o_.toNat)) / 2).toNat) (o_ + S_.1 13 0 53).toNat
def kdp (dd_ F_ : Nat) (o_ : Int) (S_ : sm_S) : Prop := (∃ d_ : Nat → Int, dpr F_ (S_.1 13 0 37).toNat (S_.2.2.1 140 0) (S_.2.2.1 141 0) d_ ∧ S_.2.2.1 161 0 dd_ = mxf (fun j_ => d_ (rto o_.toNat (S_.2.2.1 175 0) (S_.2.2.1 151 0) j_ / 2).toNat) (o_ + S_.1 13 0 53).toNat) ∧ S_.2.2.1 162 0 dd_ = ndc F_ (S_.1 13 0 37).toNat (o_ + S_.1 13 0 53).toNat (S_.2.2.1 172 0) (S_.2.2.1 140 0) (S_.2.2.1 141 0) (rto o_.toNat (S_.2.2.1 175 0) (S_.2.2.1 151 0))
theorem kdp_fr {w_ : sx_Wl} {dd_ F_ : Nat} {o_ : Int} {S_ S'_ : sm_S} (h_ : kdp dd_ F_ o_ S_) (g_ : ai_fr (sx_W w_) S_ S'_) (h1_ : (sx_W w_).1 13 37 = false := by rfl) (h2_ : (sx_W w_).1 13 53 = false := by rfl) (h3_ : (sx_W w_).2.1 140 = false := by rfl) (h4_ : (sx_W w_).2.1 141 = false := by rfl) (h5_ : (sx_W w_).2.1 151 = false := by rfl) (h6_ : (sx_W w_).2.1 161 = false := by rfl) (h7_ : (sx_W w_).2.1 162 = false := by rfl) (h8_ : (sx_W w_).2.1 172 = false := by rfl) (h9_ : (sx_W w_).2.1 175 = false := by rfl) : kdp dd_ F_ o_ S'_ := by
  unfold kdp
  rw [g_.1 13 0 37 h1_, g_.1 13 0 53 h2_, fr_arr (t := 140) g_ h3_, fr_arr (t := 141) g_ h4_, fr_arr (t := 151) g_ h5_, fr_arr (t := 161) g_ h6_, fr_arr (t := 162) g_ h7_, fr_arr (t := 172) g_ h8_, fr_arr (t := 175) g_ h9_]
  exact h_
theorem kdp_of {dd_ F_ : Nat} {o_ v1_ v2_ : Int} {S_ S2_ S'_ : sm_S} (ho_ : 0 ≤ o_) (g_ : ai_fr (sx_W ([], [161, 162, 173, 174], [])) S_ S'_) (hd_ : dpq F_ o_ v1_ S_) (e1_ : S'_.2.2.1 161 0 dd_ = v1_) (g2_ : ai_fr (sx_W ([], [162, 173], [])) S2_ S'_) (hn_ : v2_ = ndc F_ (S2_.1 13 0 37).toNat (o_ + S2_.1 13 0 53).toNat (S2_.2.2.1 172 0) (S2_.2.2.1 140 0) (S2_.2.2.1 141 0) (fun j_ => if (j_ : Int) < o_ then S2_.2.2.1 175 0 j_ else S2_.2.2.1 151 0 (j_ - o_.toNat))) (e2_ : S'_.2.2.1 162 0 dd_ = v2_) : kdp dd_ F_ o_ S'_ := by
  refine ⟨?_, ?_⟩
  · obtain ⟨d_, d1_, d2_⟩ := hd_
    rw [g_.1 13 0 37 rfl, g_.1 13 0 53 rfl, fr_arr (t := 140) g_ rfl, fr_arr (t := 141) g_ rfl, fr_arr (t := 151) g_ rfl, fr_arr (t := 175) g_ rfl, e1_, d2_]
    exact ⟨d_, d1_, mxf_cg _ (fun j_ _ => congrArg (fun x_ => d_ (x_ / 2).toNat) (congrFun (rto_i ho_) j_))⟩
  · rw [g2_.1 13 0 37 rfl, g2_.1 13 0 53 rfl, fr_arr (t := 140) g2_ rfl, fr_arr (t := 141) g2_ rfl, fr_arr (t := 151) g2_ rfl, fr_arr (t := 172) g2_ rfl, fr_arr (t := 175) g2_ rfl, e2_]
    exact hn_.trans (congrArg (ndc F_ (S2_.1 13 0 37).toNat (o_ + S2_.1 13 0 53).toNat (S2_.2.2.1 172 0) (S2_.2.2.1 140 0) (S2_.2.2.1 141 0)) (rto_i ho_))
/-- what the_ reference keeps for_ graph -/
def dgp (d_ F_ N_ O_ R_ I_ : Nat) (S_ : sm_S) : Prop := gsp F_ N_ O_ R_ I_ (fun k_ => S_.2.2.1 164 0 (2048 * d_ + k_)) (fun k_ => S_.2.2.1 165 0 (2048 * d_ + k_)) (fun k_ => S_.2.2.1 166 0 (2048 * d_ + k_)) (fun k_ => S_.2.2.1 167 0 (16 * d_ + k_)) (fun k_ => S_.2.2.1 168 0 (6 * d_ + k_)) (fun k_ => S_.2.2.1 170 0 (4096 * d_ + k_)) (S_.2.2.1 157 0 d_) (S_.2.2.1 161 0 d_) (S_.2.2.1 162 0 d_) (S_.2.2.1 163 0 d_)
theorem dgp_of {dd_ F_ I_ R_ N_ p_ : Nat} {o_ bg_ v_ : Int} {S_ S'_ : sm_S} (h_ : kdB dd_ F_ (I_ : Int) o_ bg_ R_ N_ o_.toNat R_ p_ S_) (k_ : kdp dd_ F_ o_ S_) (hN_ : S_.1 13 0 37 = (N_ : Int)) (ho_ : 0 ≤ o_) (rq : rqc (S_.2.2.1 154 0 dd_).toNat (S_.2.2.1 155 0 dd_).toNat (fun k_ => S_.2.2.1 170 0 (4096 * dd_ + k_)) (S_.2.2.1 157 0 dd_) v_) (g_ : ai_fr (sx_W ([], [163, 176], [])) S_ S'_) (e_ : S'_.2.2.1 163 0 dd_ = v_) : dgp dd_ F_ N_ o_.toNat R_ I_ S'_ := by
  obtain ⟨h1_, ⟨g1_, g2_, g3_, g4_⟩, h3_, h4_, h5_, h6_⟩ := h_
  unfold kdp at k_
  rw [hN_, g4_, Int.toNat_natCast, show (o_ + (R_ : Int)).toNat = o_.toNat + R_ by omega] at k_
  rw [h1_.2.1, h1_.2.2.1, Int.toNat_natCast, Int.toNat_natCast] at rq
  have gs_ : gsp F_ N_ o_.toNat R_ I_ (S_.2.2.1 140 0) (S_.2.2.1 141 0) (S_.2.2.1 172 0) (S_.2.2.1 175 0) (S_.2.2.1 151 0) (fun k_ => S_.2.2.1 170 0 (4096 * dd_ + k_)) (S_.2.2.1 157 0 dd_) (S_.2.2.1 161 0 dd_) (S_.2.2.1 162 0 dd_) v_ := ⟨k_.1, k_.2, rq⟩
  unfold dgp
  rw [fr_arr (t := 164) g_ rfl, fr_arr (t := 165) g_ rfl, fr_arr (t := 166) g_ rfl, fr_arr (t := 167) g_ rfl, fr_arr (t := 168) g_ rfl, fr_arr (t := 170) g_ rfl, fr_arr (t := 157) g_ rfl, fr_arr (t := 161) g_ rfl, fr_arr (t := 162) g_ rfl, e_]
  exact gsp_cg (fun n_ a_ b_ => g1_.2.2 n_ a_ (by omega)) (fun n_ _ b_ => ⟨(h3_ n_ b_).1, (h3_ n_ b_).2.1⟩) (fun m_ hm_ => (h3_ m_ hm_).2.2) (fun k_ hk_ => ⟨h4_ k_ hk_, by have := g3_.2.2.1 k_ (by omega); omega⟩) (fun k_ hk_ => ⟨h5_ k_ hk_, by have := g3_.2.2.2 k_ (by omega); omega⟩) (fun _ _ => rfl) gs_
theorem dgp_fr {w_ : sx_Wl} {d_ F_ N_ O_ R_ I_ : Nat} {S_ S'_ : sm_S} (h_ : dgp d_ F_ N_ O_ R_ I_ S_) (g_ : ai_fr (sx_W w_) S_ S'_) (h1_ : (sx_W w_).2.1 164 = false := by rfl) (h2_ : (sx_W w_).2.1 165 = false := by rfl) (h3_ : (sx_W w_).2.1 166 = false := by rfl) (h4_ : (sx_W w_).2.1 167 = false := by rfl) (h5_ : (sx_W w_).2.1 168 = false := by rfl) (h6_ : (sx_W w_).2.1 170 = false := by rfl) (h7_ : (sx_W w_).2.1 157 = false := by rfl) (h8_ : (sx_W w_).2.1 161 = false := by rfl) (h9_ : (sx_W w_).2.1 162 = false := by rfl) (hA_ : (sx_W w_).2.1 163 = false := by rfl) : dgp d_ F_ N_ O_ R_ I_ S'_ := by
  unfold dgp
  rw [fr_arr (t := 164) g_ h1_, fr_arr (t := 165) g_ h2_, fr_arr (t := 166) g_ h3_, fr_arr (t := 167) g_ h4_, fr_arr (t := 168) g_ h5_, fr_arr (t := 170) g_ h6_, fr_arr (t := 157) g_ h7_, fr_arr (t := 161) g_ h8_, fr_arr (t := 162) g_ h9_, fr_arr (t := 163) g_ hA_]
  exact h_
/-! the_ class -/
def dpc (dd_ F_ : Nat) (S_ : sm_S) : Prop := ∃ d_ : Nat → Int, dpr F_ (S_.1 3 dd_ 4).toNat (S_.2.2.1 42 (0 + dd_)) (S_.2.2.1 43 (0 + dd_)) d_ ∧ S_.1 3 dd_ 7 = mxf (fun j_ => d_ (rto (S_.1 3 dd_ 3).toNat (S_.2.2.1 45 (0 + dd_)) (S_.2.2.1 46 (0 + dd_)) j_ / 2).toNat) ((S_.1 3 dd_ 3).toNat + (S_.1 3 dd_ 2).toNat)
theorem dpc_fr {w_ : sx_Wl} {dd_ F_ : Nat} {S_ S'_ : sm_S} (h_ : dpc dd_ F_ S_) (g_ : ai_fr (sx_W w_) S_ S'_) (h1_ : (sx_W w_).1 3 4 = false := by rfl) (h2_ : (sx_W w_).1 3 7 = false := by rfl) (h3_ : (sx_W w_).1 3 3 = false := by rfl) (h4_ : (sx_W w_).1 3 2 = false := by rfl) (h5_ : (sx_W w_).2.1 42 = false := by rfl) (h6_ : (sx_W w_).2.1 43 = false := by rfl) (h7_ : (sx_W w_).2.1 45 = false := by rfl) (h8_ : (sx_W w_).2.1 46 = false := by rfl) : dpc dd_ F_ S'_ := by
  unfold dpc
  rw [g_.1 3 dd_ 4 h1_, g_.1 3 dd_ 7 h2_, g_.1 3 dd_ 3 h3_, g_.1 3 dd_ 2 h4_, fr_arr (t := 42) g_ h5_, fr_arr (t := 43) g_ h6_, fr_arr (t := 45) g_ h7_, fr_arr (t := 46) g_ h8_]
  exact h_
theorem dpc_of {w_ : sx_Wl} {dd_ F_ : Nat} {S_ S'_ : sm_S} (h0_ : 0 ≤ S_.1 3 dd_ 3 ∧ 0 ≤ S_.1 3 dd_ 2) (g_ : ai_fr (sx_W w_) S_ S'_) (h_ : ∃ d_ : Nat → Int, dpr F_ (S_.1 3 dd_ 4).toNat (S_.2.2.1 42 (0 + dd_)) (S_.2.2.1 43 (0 + dd_)) d_ ∧ S'_.1 3 dd_ 7 = mxf (fun j_ => d_ (rtv dd_ S_ (j_ : Int) / 2).toNat) (S_.1 3 dd_ 3 + S_.1 3 dd_ 2).toNat) (h1_ : (sx_W w_).1 3 4 = false := by rfl) (h3_ : (sx_W w_).1 3 3 = false := by rfl) (h4_ : (sx_W w_).1 3 2 = false := by rfl) (h5_ : (sx_W w_).2.1 42 = false := by rfl) (h6_ : (sx_W w_).2.1 43 = false := by rfl) (h7_ : (sx_W w_).2.1 45 = false := by rfl) (h8_ : (sx_W w_).2.1 46 = false := by rfl) : dpc dd_ F_ S'_ := by
  obtain ⟨d_, d1_, d2_⟩ := h_
  unfold dpc
  rw [g_.1 3 dd_ 4 h1_, g_.1 3 dd_ 3 h3_, g_.1 3 dd_ 2 h4_, fr_arr (t := 42) g_ h5_, fr_arr (t := 43) g_ h6_, fr_arr (t := 45) g_ h7_, fr_arr (t := 46) g_ h8_, d2_, show (S_.1 3 dd_ 3 + S_.1 3 dd_ 2).toNat = (S_.1 3 dd_ 3).toNat + (S_.1 3 dd_ 2).toNat by omega]
  exact ⟨d_, d1_, mxf_cg _ (fun j_ _ => congrArg (fun x_ => d_ (x_ / 2).toNat) (congrFun (rto_v h0_.1) j_))⟩
def ndq (dd_ F_ : Nat) (v_ : Int) (S_ : sm_S) : Prop := v_ = ndc F_ (S_.1 3 dd_ 4).toNat ((S_.1 3 dd_ 3).toNat + (S_.1 3 dd_ 2).toNat) (S_.2.2.1 44 (0 + dd_)) (S_.2.2.1 42 (0 + dd_)) (S_.2.2.1 43 (0 + dd_)) (rto (S_.1 3 dd_ 3).toNat (S_.2.2.1 45 (0 + dd_)) (S_.2.2.1 46 (0 + dd_)))
theorem ndq_fr {w_ : sx_Wl} {dd_ F_ : Nat} {v_ : Int} {S_ S'_ : sm_S} (h_ : ndq dd_ F_ v_ S_) (g_ : ai_fr (sx_W w_) S_ S'_) (h1_ : (sx_W w_).1 3 4 = false := by rfl) (h3_ : (sx_W w_).1 3 3 = false := by rfl) (h4_ : (sx_W w_).1 3 2 = false := by rfl) (h5_ : (sx_W w_).2.1 42 = false := by rfl) (h6_ : (sx_W w_).2.1 43 = false := by rfl) (h7_ : (sx_W w_).2.1 45 = false := by rfl) (h8_ : (sx_W w_).2.1 46 = false := by rfl) (h9_ : (sx_W w_).2.1 44 = false := by rfl) : ndq dd_ F_ v_ S'_ := by
  unfold ndq
  rw [g_.1 3 dd_ 4 h1_, g_.1 3 dd_ 3 h3_, g_.1 3 dd_ 2 h4_, fr_arr (t := 42) g_ h5_, fr_arr (t := 43) g_ h6_, fr_arr (t := 45) g_ h7_, fr_arr (t := 46) g_ h8_, fr_arr (t := 44) g_ h9_]
  exact h_
theorem ndq_of {dd_ F_ : Nat} {v_ : Int} {S_ : sm_S} (h0_ : 0 ≤ S_.1 3 dd_ 3 ∧ 0 ≤ S_.1 3 dd_ 2) (h_ : v_ = ndc F_ (S_.1 3 dd_ 4).toNat (S_.1 3 dd_ 3 + S_.1 3 dd_ 2).toNat (S_.2.2.1 44 (0 + dd_)) (S_.2.2.1 42 (0 + dd_)) (S_.2.2.1 43 (0 + dd_)) (fun j_ => rtv dd_ S_ (j_ : Int))) : ndq dd_ F_ v_ S_ := by
  rw [show (S_.1 3 dd_ 3 + S_.1 3 dd_ 2).toNat = (S_.1 3 dd_ 3).toNat + (S_.1 3 dd_ 2).toNat by omega] at h_
  exact h_.trans (congrArg (ndc F_ (S_.1 3 dd_ 4).toNat ((S_.1 3 dd_ 3).toNat + (S_.1 3 dd_ 2).toNat) (S_.2.2.1 44 (0 + dd_)) (S_.2.2.1 42 (0 + dd_)) (S_.2.2.1 43 (0 + dd_))) (rto_v h0_.1))
def rqq (dd_ : Nat) (v_ : Int) (S_ : sm_S) : Prop := rqc (S_.1 3 dd_ 1).toNat (S_.1 3 dd_ 2).toNat (fun p_ => S_.2.2.1 47 (0 + dd_) p_ / 65536) (S_.1 3 dd_ 5) v_
theorem rqq_fr {w_ : sx_Wl} {dd_ : Nat} {v_ : Int} {S_ S'_ : sm_S} (h_ : rqq dd_ v_ S_) (g_ : ai_fr (sx_W w_) S_ S'_) (h1_ : (sx_W w_).1 3 1 = false := by rfl) (h2_ : (sx_W w_).1 3 2 = false := by rfl) (h3_ : (sx_W w_).1 3 5 = false := by rfl) (h4_ : (sx_W w_).2.1 47 = false := by rfl) : rqq dd_ v_ S'_ := by
  unfold rqq
  rw [g_.1 3 dd_ 1 h1_, g_.1 3 dd_ 2 h2_, g_.1 3 dd_ 5 h3_, fr_arr (t := 47) g_ h4_]
  exact h_
/-- what the_ class keeps for_ graph -/
def dcp (dd_ F_ : Nat) (S_ : sm_S) : Prop := gsp F_ (S_.1 3 dd_ 4).toNat (S_.1 3 dd_ 3).toNat (S_.1 3 dd_ 2).toNat (S_.1 3 dd_ 1).toNat (S_.2.2.1 42 (0 + dd_)) (S_.2.2.1 43 (0 + dd_)) (S_.2.2.1 44 (0 + dd_)) (S_.2.2.1 45 (0 + dd_)) (S_.2.2.1 46 (0 + dd_)) (fun p_ => S_.2.2.1 47 (0 + dd_) p_ / 65536) (S_.1 3 dd_ 5) (S_.1 3 dd_ 7) (S_.1 3 dd_ 8) (S_.1 3 dd_ 9)
theorem dcp_of {dd_ F_ : Nat} {v8_ v9_ : Int} {S_ S'_ : sm_S} (g_ : ai_fr (sx_W ([(3, 0), (3, 6), (3, 9)], [], [])) S_ S'_) (hd_ : dpc dd_ F_ S_) (hn_ : ndq dd_ F_ v8_ S_) (hr_ : rqq dd_ v9_ S_) (e8_ : S'_.1 3 dd_ 8 = v8_) (e9_ : S'_.1 3 dd_ 9 = v9_) : dcp dd_ F_ S'_ := by
  have hd_ := dpc_fr hd_ g_
  have hn_ := ndq_fr hn_ g_
  have hr_ := rqq_fr hr_ g_
  unfold dcp
  rw [e8_, e9_]
  exact ⟨hd_, hn_, hr_⟩
theorem dcp_fr {w_ : sx_Wl} {dd_ F_ : Nat} {S_ S'_ : sm_S} (h_ : dcp dd_ F_ S_) (g_ : ai_fr (sx_W w_) S_ S'_) (h1_ : (sx_W w_).1 3 1 = false := by rfl) (h2_ : (sx_W w_).1 3 2 = false := by rfl) (h3_ : (sx_W w_).1 3 3 = false := by rfl) (h4_ : (sx_W w_).1 3 4 = false := by rfl) (h5_ : (sx_W w_).1 3 5 = false := by rfl) (h7_ : (sx_W w_).1 3 7 = false := by rfl) (h8_ : (sx_W w_).1 3 8 = false := by rfl) (h9_ : (sx_W w_).1 3 9 = false := by rfl) (hA_ : (sx_W w_).2.1 42 = false := by rfl) (hB_ : (sx_W w_).2.1 43 = false := by rfl) (hC_ : (sx_W w_).2.1 44 = false := by rfl) (hD_ : (sx_W w_).2.1 45 = false := by rfl) (hE_ : (sx_W w_).2.1 46 = false := by rfl) (hG_ : (sx_W w_).2.1 47 = false := by rfl) : dcp dd_ F_ S'_ := by
  unfold dcp
  rw [g_.1 3 dd_ 1 h1_, g_.1 3 dd_ 2 h2_, g_.1 3 dd_ 3 h3_, g_.1 3 dd_ 4 h4_, g_.1 3 dd_ 5 h5_, g_.1 3 dd_ 7 h7_, g_.1 3 dd_ 8 h8_, g_.1 3 dd_ 9 h9_, fr_arr (t := 42) g_ hA_, fr_arr (t := 43) g_ hB_, fr_arr (t := 44) g_ hC_, fr_arr (t := 45) g_ hD_, fr_arr (t := 46) g_ hE_, fr_arr (t := 47) g_ hG_]
  exact h_
end
