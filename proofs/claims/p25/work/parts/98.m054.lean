/-! 99.ztZS -/
section
/-! ways, views of cells; written by wip/p55/gen/vg -/

/-! ways: cost, cell, turns, nodes -/
def wst (b_ : Int × Int × Int × (Nat → Int)) (co_ : Int) (cd_ : Int × Int × (Nat → Int)) : Int × Int × Int × (Nat → Int) := if co_ < b_.1 then (co_, cd_) else b_
def cfo (f_ : Nat → Int × Int × Int × (Nat → Int) → Int × Int × Int × (Nat → Int)) : Nat → Int × Int × Int × (Nat → Int) → Int × Int × Int × (Nat → Int)
  | 0, b_ => b_
  | i_ + 1, b_ => f_ i_ (cfo f_ i_ b_)
def wic (ip_ : Nat) : Nat := if ip_ = 2 then 8 else 48
def cdn (c_ : List Nat) (ip_ o_ k_ : Nat) : Int := cva c_ (iat (ip_ : Int) (o_ : Int) (k_ : Int)).toNat
def cco (ad_ pc_ : Int → Int → Int) (a_ : Int) (c_ : List Nat) (ip_ v_ : Nat) : Nat → Int
  | 0 => a_
  | k_ + 1 => ad_ (cco ad_ pc_ a_ c_ ip_ v_ k_) (pc_ (cdn c_ ip_ (v_ / 2 ^ ip_) k_) ((v_ / 2 ^ k_ % 2 : Nat) : Int))
def wvs (ad_ pc_ : Int → Int → Int) (hit_ : Nat → Bool) (a_ : Int) (cell : Nat) (c_ : List Nat) (ip_ v_ : Nat) (b_ : Int × Int × Int × (Nat → Int)) : Int × Int × Int × (Nat → Int) := if hit_ v_ = true then wst b_ (cco ad_ pc_ a_ c_ ip_ v_ ip_) ((cell : Int), ((v_ % 2 ^ ip_ : Nat) : Int), cdn c_ ip_ (v_ / 2 ^ ip_)) else b_
def wct (ad_ pc_ : Int → Int → Int) (hit_ : Nat → Nat → Bool) (a_ : Int) (cell ip_ : Nat) (Q_ : Nat → List Nat) (i_ : Nat) (b_ : Int × Int × Int × (Nat → Int)) : Int × Int × Int × (Nat → Int) := if ip_ = (Q_ i_).length then cfo (wvs ad_ pc_ (hit_ i_) a_ cell (Q_ i_) ip_) (wic ip_) b_ else b_
def wcl (ad_ pc_ : Int → Int → Int) (hit_ : Nat → Nat → Nat → Bool) (ar_ : Nat → Int) (inp : Nat → Nat) (Q_ : Nat → List Nat) (len_ cell : Nat) (b_ : Int × Int × Int × (Nat → Int)) : Int × Int × Int × (Nat → Int) := cfo (wct ad_ pc_ (hit_ cell) (ar_ cell) cell (inp cell) Q_) len_ b_
def wbs (ad_ pc_ : Int → Int → Int) (hit_ : Nat → Nat → Nat → Bool) (ar_ : Nat → Int) (inp : Nat → Nat) (Q_ : Nat → List Nat) (len_ nc : Nat) (inf_ : Int) : Int × Int × Int × (Nat → Int) := cfo (wcl ad_ pc_ hit_ ar_ inp Q_ len_) nc (inf_, -1, 0, fun _ => 0)
/-! orders, states -/
theorem pli_2 : ∀ o_ : Fin 2, ∀ k_ : Fin 2, plo 2 ((o_.val : Nat) : Int) ((k_.val : Nat) : Int) = iat 2 ((o_.val : Nat) : Int) ((k_.val : Nat) : Int) := by decide +kernel
theorem pli_3 : ∀ o_ : Fin 6, ∀ k_ : Fin 3, plo 3 ((o_.val : Nat) : Int) ((k_.val : Nat) : Int) = iat 3 ((o_.val : Nat) : Int) ((k_.val : Nat) : Int) := by decide +kernel
theorem plo_i {ip_ o_ k_ : Int} (h_ : (ip_ = 2 ∧ 0 ≤ o_ ∧ o_ ≤ 1 ∧ 0 ≤ k_ ∧ k_ ≤ 1) ∨ (ip_ = 3 ∧ 0 ≤ o_ ∧ o_ ≤ 5 ∧ 0 ≤ k_ ∧ k_ ≤ 2)) : plo ip_ o_ k_ = iat ip_ o_ k_ := by
  have a_ : ((o_.toNat : Nat) : Int) = o_ := by omega
  have b_ : ((k_.toNat : Nat) : Int) = k_ := by omega
  rcases h_ with h_ | h_
  · have q_ := pli_2 ⟨o_.toNat, by omega⟩ ⟨k_.toNat, by omega⟩
    simp only [a_, b_] at q_
    rw [h_.1]
    exact q_
  · have q_ := pli_3 ⟨o_.toNat, by omega⟩ ⟨k_.toNat, by omega⟩
    simp only [a_, b_] at q_
    rw [h_.1]
    exact q_
def cse (ip_ o_ tu_ s_ : Int) : Nat → Int
  | 0 => tu_
  | k_ + 1 => i_xor (cse ip_ o_ tu_ s_ k_) (i_shl (i_shr s_ (plo ip_ o_ (k_ : Int)) % 2) (k_ : Int))
def rst (sz_ o_ tu_ v_ : Int) : Nat → Int
  | 0 => 0
  | k_ + 1 => i_or (rst sz_ o_ tu_ v_ k_) (i_shl (i_xor (i_shr v_ (iat sz_ o_ (k_ : Int))) (i_shr tu_ (k_ : Int)) % 2) (k_ : Int))
theorem cse_2 : ∀ o_ : Fin 2, ∀ t_ : Fin 4, ∀ s_ : Fin 4, cse 2 ((o_.val : Nat) : Int) ((t_.val : Nat) : Int) ((s_.val : Nat) : Int) 2 = rst 2 ((o_.val : Nat) : Int) ((t_.val : Nat) : Int) ((s_.val : Nat) : Int) 2 ∧ rst 2 ((o_.val : Nat) : Int) ((t_.val : Nat) : Int) (((s_.val + 4 : Nat)) : Int) 2 = rst 2 ((o_.val : Nat) : Int) ((t_.val : Nat) : Int) ((s_.val : Nat) : Int) 2 := by decide +kernel
theorem cse_3 : ∀ o_ : Fin 6, ∀ t_ : Fin 8, ∀ s_ : Fin 8, cse 3 ((o_.val : Nat) : Int) ((t_.val : Nat) : Int) ((s_.val : Nat) : Int) 3 = rst 3 ((o_.val : Nat) : Int) ((t_.val : Nat) : Int) ((s_.val : Nat) : Int) 3 := by decide +kernel
/-- what a_ cell tells, by order and turns -/
def vwt (f_ : Int) (ip_ v_ m_ : Nat) : Int := tbv (fun s_ => decide (i_shr f_ (rst (ip_ : Int) ((v_ / 2 ^ ip_ : Nat) : Int) ((v_ % 2 ^ ip_ : Nat) : Int) (s_ : Int) ip_) % 2 = 1)) m_
def vwc (f_ : Int) (ip_ v_ m_ : Nat) : Int := tbv (fun s_ => decide (i_shr f_ (cse (ip_ : Int) ((v_ / 2 ^ ip_ : Nat) : Int) ((v_ % 2 ^ ip_ : Nat) : Int) (s_ : Int) ip_) % 2 = 1)) m_
theorem tbv_17 {f_ : Nat → Bool} (h_ : ∀ s_, s_ < 4 → f_ (s_ + 4) = f_ s_) : tbv f_ 8 = 17 * tbv f_ 4 := by
  have h4_ : f_ 4 = f_ 0 := h_ 0 (by decide)
  have h5_ : f_ 5 = f_ 1 := h_ 1 (by decide)
  have h6_ : f_ 6 = f_ 2 := h_ 2 (by decide)
  have h7_ : f_ 7 = f_ 3 := h_ 3 (by decide)
  have e8_ : tbv f_ 8 = 0 + (if f_ 0 = true then (2 : Int) ^ 0 else 0) + (if f_ 1 = true then (2 : Int) ^ 1 else 0) + (if f_ 2 = true then (2 : Int) ^ 2 else 0) + (if f_ 3 = true then (2 : Int) ^ 3 else 0) + (if f_ 4 = true then (2 : Int) ^ 4 else 0) + (if f_ 5 = true then (2 : Int) ^ 5 else 0) + (if f_ 6 = true then (2 : Int) ^ 6 else 0) + (if f_ 7 = true then (2 : Int) ^ 7 else 0) := rfl
  have e4_ : tbv f_ 4 = 0 + (if f_ 0 = true then (2 : Int) ^ 0 else 0) + (if f_ 1 = true then (2 : Int) ^ 1 else 0) + (if f_ 2 = true then (2 : Int) ^ 2 else 0) + (if f_ 3 = true then (2 : Int) ^ 3 else 0) := rfl
  rw [e8_, e4_, h4_, h5_, h6_, h7_]
  generalize f_ 0 = a_
  generalize f_ 1 = b_
  generalize f_ 2 = c_
  generalize f_ 3 = d_
  cases a_ <;> cases b_ <;> cases c_ <;> cases d_ <;> rfl
theorem vwc_2 {f_ : Int} {v_ : Nat} (hv_ : v_ < 8) : vwc f_ 2 v_ 4 = vwt f_ 2 v_ 4 ∧ vwt f_ 2 v_ 8 = 17 * vwt f_ 2 v_ 4 := by
  have ho_ : v_ / 2 ^ 2 < 2 := by omega
  have ht_ : v_ % 2 ^ 2 < 4 := by omega
  refine ⟨tbv_cg 4 (fun s_ hs_ => ?_), tbv_17 (fun s_ hs_ => ?_)⟩
  · have q_ := (cse_2 ⟨v_ / 2 ^ 2, ho_⟩ ⟨v_ % 2 ^ 2, ht_⟩ ⟨s_, hs_⟩).1
    show decide (i_shr f_ (cse 2 ((v_ / 2 ^ 2 : Nat) : Int) ((v_ % 2 ^ 2 : Nat) : Int) (s_ : Int) 2) % 2 = 1) = decide (i_shr f_ (rst 2 ((v_ / 2 ^ 2 : Nat) : Int) ((v_ % 2 ^ 2 : Nat) : Int) (s_ : Int) 2) % 2 = 1)
    have q_ : cse 2 ((v_ / 2 ^ 2 : Nat) : Int) ((v_ % 2 ^ 2 : Nat) : Int) (s_ : Int) 2 = rst 2 ((v_ / 2 ^ 2 : Nat) : Int) ((v_ % 2 ^ 2 : Nat) : Int) (s_ : Int) 2 := q_
    rw [q_]
  · have q_ := (cse_2 ⟨v_ / 2 ^ 2, ho_⟩ ⟨v_ % 2 ^ 2, ht_⟩ ⟨s_, hs_⟩).2
    show decide (i_shr f_ (rst 2 ((v_ / 2 ^ 2 : Nat) : Int) ((v_ % 2 ^ 2 : Nat) : Int) ((s_ + 4 : Nat) : Int) 2) % 2 = 1) = decide (i_shr f_ (rst 2 ((v_ / 2 ^ 2 : Nat) : Int) ((v_ % 2 ^ 2 : Nat) : Int) (s_ : Int) 2) % 2 = 1)
    have q_ : rst 2 ((v_ / 2 ^ 2 : Nat) : Int) ((v_ % 2 ^ 2 : Nat) : Int) ((s_ + 4 : Nat) : Int) 2 = rst 2 ((v_ / 2 ^ 2 : Nat) : Int) ((v_ % 2 ^ 2 : Nat) : Int) (s_ : Int) 2 := q_
    rw [q_]
theorem vwc_3 {f_ : Int} {v_ : Nat} (hv_ : v_ < 48) : vwc f_ 3 v_ 8 = vwt f_ 3 v_ 8 := by
  have ho_ : v_ / 2 ^ 3 < 6 := by omega
  have ht_ : v_ % 2 ^ 3 < 8 := by omega
  refine tbv_cg 8 (fun s_ hs_ => ?_)
  have q_ := cse_3 ⟨v_ / 2 ^ 3, ho_⟩ ⟨v_ % 2 ^ 3, ht_⟩ ⟨s_, hs_⟩
  show decide (i_shr f_ (cse 3 ((v_ / 2 ^ 3 : Nat) : Int) ((v_ % 2 ^ 3 : Nat) : Int) (s_ : Int) 3) % 2 = 1) = decide (i_shr f_ (rst 3 ((v_ / 2 ^ 3 : Nat) : Int) ((v_ % 2 ^ 3 : Nat) : Int) (s_ : Int) 3) % 2 = 1)
  have q_ : cse 3 ((v_ / 2 ^ 3 : Nat) : Int) ((v_ % 2 ^ 3 : Nat) : Int) (s_ : Int) 3 = rst 3 ((v_ / 2 ^ 3 : Nat) : Int) ((v_ % 2 ^ 3 : Nat) : Int) (s_ : Int) 3 := q_
  rw [q_]
theorem tbv_orb {f_ : Nat → Bool} {k_ : Nat} {x_ : Int} (hk_ : k_ ≤ 21) (e_ : f_ k_ = decide (x_ % 2 = 1)) : i_or (tbv f_ k_) (i_shl (x_ % 2) (k_ : Int)) = tbv f_ (k_ + 1) := by
  have q_ := tbv_or (f_ := f_) hk_
  have w_ : (if f_ k_ = true then (1 : Int) else 0) = x_ % 2 := by
    rw [e_]
    by_cases z_ : x_ % 2 = 1
    · rw [decide_eq_true z_, if_pos rfl, z_]
    · rw [decide_eq_false z_, if_neg Bool.false_ne_true]
      omega
  rw [w_] at q_
  exact q_
theorem vsp {v_ e_ : Int} (hv_ : 0 ≤ v_ ∧ v_ < 48) (h_ : e_ = 2 ∨ e_ = 3) : i_shr v_ e_ = ((v_.toNat / 2 ^ e_.toNat : Nat) : Int) ∧ i_and v_ (i_shl 1 e_ - 1) = ((v_.toNat % 2 ^ e_.toNat : Nat) : Int) := by
  rcases h_ with h_ | h_
  · rw [h_]
    refine ⟨?_, ?_⟩
    · rw [i_shrv (by decide) (by decide) (by omega)]
      show v_ / 4 = ((v_.toNat / 4 : Nat) : Int)
      omega
    · have q_ : i_and v_ (i_shl 1 2 - 1) = v_ % 2 ^ 2 := bt_mask (k := 2) (by decide)
      rw [q_]
      show v_ % 4 = ((v_.toNat % 4 : Nat) : Int)
      omega
  · rw [h_]
    refine ⟨?_, ?_⟩
    · rw [i_shrv (by decide) (by decide) (by omega)]
      show v_ / 8 = ((v_.toNat / 8 : Nat) : Int)
      omega
    · have q_ : i_and v_ (i_shl 1 3 - 1) = v_ % 2 ^ 3 := bt_mask (k := 3) (by decide)
      rw [q_]
      show v_ % 8 = ((v_.toNat % 8 : Nat) : Int)
      omega
theorem shl_1 {e_ : Int} (h_ : e_ = 2 ∨ e_ = 3) : i_shl 1 e_ = ((2 ^ e_.toNat : Nat) : Int) := by
  rcases h_ with h_ | h_ <;> rw [h_] <;> decide
/-- the_ views of_ a_ cell stand -/
def vwd (ll_ : Nat) (S_ : sm_S) (V_ : Nat → Int) (c_ v_ : Nat) : Prop := V_ (48 * c_ + v_) = vwc (S_.2.2.1 56 (0 + ll_) c_) (S_.2.2.1 55 (0 + ll_) c_).toNat v_ (2 ^ (S_.2.2.1 55 (0 + ll_) c_).toNat)
theorem vwd_w {ll_ : Nat} {S_ : sm_S} {V_ V'_ : Nat → Int} {c_ v_ k_ : Nat} {z_ : Int} (h_ : vwd ll_ S_ V_ c_ v_) (e_ : ∀ j_, V'_ j_ = if j_ = k_ then z_ else V_ j_) (n_ : 48 * c_ + v_ ≠ k_) : vwd ll_ S_ V'_ c_ v_ := by
  unfold vwd at *
  rw [e_, if_neg n_]
  exact h_

/-! Mapper.viewCells -/
def vw_97n : sx_Wl := ([], [69], [])
def vq_97n (ll_ : Nat) (S0_ : sm_S) (u_ : Option sm_V) (S1_ : sm_S) : Prop := u_ = none ∧ gi S1_ ∧ ai_fr (sx_W vw_97n) S0_ S1_ ∧ (∀ c_ v_ : Nat, (c_ : Int) < S0_.1 5 ll_ 1 → (2 ≤ S0_.2.2.1 55 (0 + ll_) c_) → v_ < wic (S0_.2.2.1 55 (0 + ll_) c_).toNat → vwd ll_ S0_ (S1_.2.2.1 69 0) c_ v_)
set_option maxHeartbeats 4000000 in
set_option maxRecDepth 20000 in
theorem vl_97n {sc_ : Nat × (Nat → Int)} (ll_ : Nat) (S0_ : sm_S) (hc_ : S0_.2.1 6 0 1 = some ll_) : ∀ nn_ : Nat, (∀ (c9_ : Int) (S_ : sm_S), gi S_ → ai_fr (sx_W vw_97n) S0_ S_ → ((0 ≤ c9_ ∧ c9_ ≤ 12) ∧ (∀ c_ v_ : Nat, (c_ : Int) < c9_ → (2 ≤ S0_.2.2.1 55 (0 + ll_) c_) → v_ < wic (S0_.2.2.1 55 (0 + ll_) c_).toNat → vwd ll_ S0_ (S_.2.2.1 69 0) c_ v_) ∧ True) → ((100000 * (20 - c9_) + 90000).toNat) < nn_ → sm_T (mt_P sc_) 1 97 (2, [some (.inr (.inr (some (6, 0)))), some (.inl c9_), none, none, none, none, none, none, none, none, none], [], S_) (fun ro9_ => ∃ u_ S1_, ro9_ = (.inl u_, S1_, 0) ∧ vq_97n ll_ S0_ u_ S1_)) ∧ (∀ (c9_ : Int) (is_ : Int) (od_ : Int) (vw_ : Int) (S_ : sm_S), gi S_ → ai_fr (sx_W vw_97n) S0_ S_ → ((0 ≤ c9_ ∧ c9_ < 12 ∧ ((is_ = 2 ∧ od_ = 2) ∨ (is_ = 3 ∧ od_ = 6) ∨ is_ ≤ 1) ∧ 0 ≤ is_ ∧ is_ ≤ 3 ∧ 0 ≤ vw_ ∧ vw_ ≤ 48) ∧ (∀ c_ v_ : Nat, (c_ : Int) < c9_ → (2 ≤ S0_.2.2.1 55 (0 + ll_) c_) → v_ < wic (S0_.2.2.1 55 (0 + ll_) c_).toNat → vwd ll_ S0_ (S_.2.2.1 69 0) c_ v_) ∧ (is_ = S0_.2.2.1 55 (0 + ll_) c9_.toNat) ∧ (∀ v_ : Nat, (v_ : Int) < vw_ → vwd ll_ S0_ (S_.2.2.1 69 0) c9_.toNat v_) ∧ True) → ((100000 * (20 - c9_) + 1000 * (60 - vw_) + 900).toNat) < nn_ → sm_T (mt_P sc_) 1 97 (38, [some (.inr (.inr (some (6, 0)))), some (.inl c9_), some (.inl is_), some (.inl od_), some (.inl vw_), none, none, none, none, none, none], [], S_) (fun ro9_ => ∃ u_ S1_, ro9_ = (.inl u_, S1_, 0) ∧ vq_97n ll_ S0_ u_ S1_)) ∧ (∀ (c9_ : Int) (is_ : Int) (od_ : Int) (vw_ : Int) (ox_ : Int) (tn_ : Int) (tb_ : Int) (sx_ : Int) (S_ : sm_S), gi S_ → ai_fr (sx_W vw_97n) S0_ S_ → ((0 ≤ c9_ ∧ c9_ < 12 ∧ ((is_ = 2 ∧ od_ = 2) ∨ (is_ = 3 ∧ od_ = 6)) ∧ 0 ≤ is_ ∧ is_ ≤ 3 ∧ 0 ≤ vw_ ∧ ((is_ = 2 ∧ vw_ < 8) ∨ (is_ = 3 ∧ vw_ < 48)) ∧ 0 ≤ ox_ ∧ ((is_ = 2 ∧ ox_ ≤ 1) ∨ (is_ = 3 ∧ ox_ ≤ 5)) ∧ 0 ≤ tn_ ∧ tn_ ≤ 7 ∧ 0 ≤ tb_ ∧ tb_ ≤ 255 ∧ 0 ≤ sx_ ∧ sx_ ≤ 8 ∧ sx_ ≤ i_shl 1 is_) ∧ (∀ c_ v_ : Nat, (c_ : Int) < c9_ → (2 ≤ S0_.2.2.1 55 (0 + ll_) c_) → v_ < wic (S0_.2.2.1 55 (0 + ll_) c_).toNat → vwd ll_ S0_ (S_.2.2.1 69 0) c_ v_) ∧ (is_ = S0_.2.2.1 55 (0 + ll_) c9_.toNat) ∧ (∀ v_ : Nat, (v_ : Int) < vw_ → vwd ll_ S0_ (S_.2.2.1 69 0) c9_.toNat v_) ∧ (ox_ = ((vw_.toNat / 2 ^ is_.toNat : Nat) : Int) ∧ tn_ = ((vw_.toNat % 2 ^ is_.toNat : Nat) : Int)) ∧ (tb_ = vwc (S0_.2.2.1 56 (0 + ll_) c9_.toNat) is_.toNat vw_.toNat sx_.toNat) ∧ True) → ((100000 * (20 - c9_) + 1000 * (60 - vw_) + 20 * (20 - sx_) + 19).toNat) < nn_ → sm_T (mt_P sc_) 1 97 (73, [some (.inr (.inr (some (6, 0)))), some (.inl c9_), some (.inl is_), some (.inl od_), some (.inl vw_), some (.inl ox_), some (.inl tn_), some (.inl tb_), some (.inl sx_), none, none], [], S_) (fun ro9_ => ∃ u_ S1_, ro9_ = (.inl u_, S1_, 0) ∧ vq_97n ll_ S0_ u_ S1_)) ∧ (∀ (c9_ : Int) (is_ : Int) (od_ : Int) (vw_ : Int) (ox_ : Int) (tn_ : Int) (tb_ : Int) (sx_ : Int) (st_ : Int) (k_ : Int) (S_ : sm_S), gi S_ → ai_fr (sx_W vw_97n) S0_ S_ → ((0 ≤ c9_ ∧ c9_ < 12 ∧ ((is_ = 2 ∧ od_ = 2) ∨ (is_ = 3 ∧ od_ = 6)) ∧ 0 ≤ is_ ∧ is_ ≤ 3 ∧ 0 ≤ vw_ ∧ ((is_ = 2 ∧ vw_ < 8) ∨ (is_ = 3 ∧ vw_ < 48)) ∧ 0 ≤ ox_ ∧ ((is_ = 2 ∧ ox_ ≤ 1) ∨ (is_ = 3 ∧ ox_ ≤ 5)) ∧ 0 ≤ tn_ ∧ tn_ ≤ 7 ∧ 0 ≤ tb_ ∧ tb_ ≤ 255 ∧ 0 ≤ sx_ ∧ sx_ ≤ 8 ∧ sx_ ≤ i_shl 1 is_ ∧ sx_ < 8 ∧ 0 ≤ st_ ∧ st_ ≤ 7 ∧ 0 ≤ k_ ∧ k_ ≤ 3 ∧ k_ ≤ is_ ∧ sx_ < i_shl 1 is_) ∧ (∀ c_ v_ : Nat, (c_ : Int) < c9_ → (2 ≤ S0_.2.2.1 55 (0 + ll_) c_) → v_ < wic (S0_.2.2.1 55 (0 + ll_) c_).toNat → vwd ll_ S0_ (S_.2.2.1 69 0) c_ v_) ∧ (is_ = S0_.2.2.1 55 (0 + ll_) c9_.toNat) ∧ (∀ v_ : Nat, (v_ : Int) < vw_ → vwd ll_ S0_ (S_.2.2.1 69 0) c9_.toNat v_) ∧ (ox_ = ((vw_.toNat / 2 ^ is_.toNat : Nat) : Int) ∧ tn_ = ((vw_.toNat % 2 ^ is_.toNat : Nat) : Int)) ∧ (tb_ = vwc (S0_.2.2.1 56 (0 + ll_) c9_.toNat) is_.toNat vw_.toNat sx_.toNat) ∧ (st_ = cse is_ ox_ tn_ sx_ k_.toNat) ∧ True) → ((100000 * (20 - c9_) + 1000 * (60 - vw_) + 20 * (20 - sx_) + 18 - k_).toNat) < nn_ → sm_T (mt_P sc_) 1 97 (88, [some (.inr (.inr (some (6, 0)))), some (.inl c9_), some (.inl is_), some (.inl od_), some (.inl vw_), some (.inl ox_), some (.inl tn_), some (.inl tb_), some (.inl sx_), some (.inl st_), some (.inl k_)], [], S_) (fun ro9_ => ∃ u_ S1_, ro9_ = (.inl u_, S1_, 0) ∧ vq_97n ll_ S0_ u_ S1_)) := by
  intro nn_
  induction nn_ with
  | zero => exact ⟨fun _ _ _ _ _ h_ => absurd h_ (Nat.not_lt_zero _), fun _ _ _ _ _ _ _ _ h_ => absurd h_ (Nat.not_lt_zero _), fun _ _ _ _ _ _ _ _ _ _ _ _ h_ => absurd h_ (Nat.not_lt_zero _), fun _ _ _ _ _ _ _ _ _ _ _ _ _ _ h_ => absurd h_ (Nat.not_lt_zero _)⟩
  | succ nn_ ih_ =>
    refine ⟨?_, ?_, ?_, ?_⟩
    · rintro c9_ S_ hI_ hF_ ⟨h0_, hq_, -⟩ hm_
      have f55_ : S_.2.2.1 55 (0 + ll_) = S0_.2.2.1 55 (0 + ll_) := fr_arr hF_ rfl
      have f56_ : S_.2.2.1 56 (0 + ll_) = S0_.2.2.1 56 (0 + ll_) := fr_arr hF_ rfl
      have fl1_ : S_.1 5 ll_ 1 = S0_.1 5 ll_ 1 := hF_.1 5 ll_ 1 rfl
      refine sm_T_go 2 (c1 := (4, [some (.inr (.inr (some (6, 0)))), some (.inl c9_), none, none, none, none, none, none, none, none, none], [.inr (.inr (some (6, 0))), .inl c9_], S_)) rfl ?_
      refine sm_T_gr rfl rfl ((hF_.2.1 6 0 1 rfl).trans hc_) ?_
      have bx1_ : 0 ≤ S_.1 5 ll_ 1 ∧ S_.1 5 ll_ 1 ≤ 12 := hI_.1 5 ll_ 1 rfl
      refine sm_T_go 1 (c1 := (10, [some (.inr (.inr (some (6, 0)))), some (.inl c9_), none, none, none, none, none, none, none, none, none], [.inl (S_.1 5 ll_ 1), .inl c9_], S_)) rfl ?_
      refine sm_T_br (a := 3) (z := 165) rfl (fun cx2_ => ?_) (fun cx2_ => ?_)
      · have cx2_ : (S_.1 5 ll_ 1) ≤ c9_ := of_decide_eq_true cx2_
        refine sm_T_rv rfl ⟨_, _, rfl, rfl, hI_, hF_, ?_⟩
        intro c_ v_ u_ w_ x_
        exact hq_ c_ v_ (by omega) w_ x_
      · have cx2_ : ¬ ((S_.1 5 ll_ 1) ≤ c9_) := of_decide_eq_false cx2_
        refine sm_T_go 1 (c1 := (14, [some (.inr (.inr (some (6, 0)))), some (.inl c9_), none, none, none, none, none, none, none, none, none], [.inr (.inr (some (6, 0)))], S_)) rfl ?_
        refine sm_T_gr rfl rfl ((hF_.2.1 6 0 1 rfl).trans hc_) ?_
        refine sm_T_go 2 (c1 := (21, [some (.inr (.inr (some (6, 0)))), some (.inl c9_), none, none, none, none, none, none, none, none, none], [.inl c9_, .inr (.inr (some (55, (0 + ll_))))], S_)) rfl ?_
        refine sm_T_iald (n := 12) rfl rfl (by omega) (by omega) ?_
        have bx3_ : 0 ≤ S_.2.2.1 55 (0 + ll_) c9_.toNat ∧ S_.2.2.1 55 (0 + ll_) c9_.toNat ≤ 3 := hI_.2 55 (0 + ll_) _
        refine sm_T_go 3 (c1 := (25, [some (.inr (.inr (some (6, 0)))), some (.inl c9_), some (.inl (S_.2.2.1 55 (0 + ll_) c9_.toNat)), none, none, none, none, none, none, none, none], [.inl 2, .inl (S_.2.2.1 55 (0 + ll_) c9_.toNat)], S_)) rfl ?_
        refine sm_T_br (a := 1) (z := 7) rfl (fun cx4_ => ?_) (fun cx4_ => ?_)
        · have cx4_ : (S_.2.2.1 55 (0 + ll_) c9_.toNat) ≠ 2 := of_decide_eq_true cx4_
          refine sm_T_go 4 (c1 := (38, [some (.inr (.inr (some (6, 0)))), some (.inl c9_), some (.inl (S_.2.2.1 55 (0 + ll_) c9_.toNat)), some (.inl 6), some (.inl 0), none, none, none, none, none, none], [], S_)) rfl ?_
          refine ih_.2.1 c9_ (S_.2.2.1 55 (0 + ll_) c9_.toNat) 6 0 S_ hI_ hF_ ⟨?_, ?_, ?_, ?_, trivial⟩ ?_
          · omega
          · exact hq_
          · (rw [f55_])
          · (intro v_ u_; exfalso; omega)
          · omega
        · have cx4_ : ¬ ((S_.2.2.1 55 (0 + ll_) c9_.toNat) ≠ 2) := of_decide_eq_false cx4_
          refine sm_T_go 5 (c1 := (38, [some (.inr (.inr (some (6, 0)))), some (.inl c9_), some (.inl (S_.2.2.1 55 (0 + ll_) c9_.toNat)), some (.inl 2), some (.inl 0), none, none, none, none, none, none], [], S_)) rfl ?_
          refine ih_.2.1 c9_ (S_.2.2.1 55 (0 + ll_) c9_.toNat) 2 0 S_ hI_ hF_ ⟨?_, ?_, ?_, ?_, trivial⟩ ?_
          · omega
          · exact hq_
          · (rw [f55_])
          · (intro v_ u_; exfalso; omega)
          · omega
    · rintro c9_ is_ od_ vw_ S_ hI_ hF_ ⟨h0_, hq_, hi9_, hv_, -⟩ hm_
      have f55_ : S_.2.2.1 55 (0 + ll_) = S0_.2.2.1 55 (0 + ll_) := fr_arr hF_ rfl
      have f56_ : S_.2.2.1 56 (0 + ll_) = S0_.2.2.1 56 (0 + ll_) := fr_arr hF_ rfl
      have fl1_ : S_.1 5 ll_ 1 = S0_.1 5 ll_ 1 := hF_.1 5 ll_ 1 rfl
      refine sm_T_go 2 (c1 := (40, [some (.inr (.inr (some (6, 0)))), some (.inl c9_), some (.inl is_), some (.inl od_), some (.inl vw_), none, none, none, none, none, none], [.inl 1, .inl is_], S_)) rfl ?_
      refine sm_T_br (a := 5) (z := 129) rfl (fun cx1_ => ?_) (fun cx1_ => ?_)
      · have cx1_ : is_ ≤ 1 := of_decide_eq_true cx1_
        refine sm_T_inc (a := 1) (z := 1) (v := c9_) (w := c9_ + 1) rfl rfl (by omega) (by omega) (by omega) ?_ -- pc_ 169
        refine sm_T_go 1 (c1 := (2, [some (.inr (.inr (some (6, 0)))), some (.inl (c9_ + 1)), some (.inl is_), some (.inl od_), some (.inl vw_), none, none, none, none, none, none], [], S_)) rfl ?_
        refine sm_T_wk [some (.inr (.inr (some (6, 0)))), some (.inl (c9_ + 1)), none, none, none, none, none, none, none, none, none] (by exact ⟨rfl, rfl, trivial⟩) ?_
        refine ih_.1 (c9_ + 1) S_ hI_ hF_ ⟨?_, ?_, trivial⟩ ?_
        · omega
        · intro c_ v_ u_ w_ x_
          by_cases z9_ : (c_ : Int) = c9_
          · rw [show c_ = c9_.toNat by omega] at w_ x_ ⊢
            refine hv_ v_ ?_
            rw [← hi9_] at w_ x_
            unfold wic at x_
            first | (exfalso; omega) | (rcases od9_ with od8_ | od8_; (rw [if_pos (show is_.toNat = 2 by omega)] at x_; omega); (rw [if_neg (show ¬ is_.toNat = 2 by omega)] at x_; omega))
          · exact hq_ c_ v_ (by omega) w_ x_
        · omega
      · have cx1_ : ¬ (is_ ≤ 1) := of_decide_eq_false cx1_
        have vp9_ := vpw (e_ := is_) (by omega)
        refine sm_T_go 3 (c1 := (47, [some (.inr (.inr (some (6, 0)))), some (.inl c9_), some (.inl is_), some (.inl od_), some (.inl vw_), none, none, none, none, none, none], [.inl is_, .inl od_, .inl vw_], S_)) rfl ?_
        refine sm_T_bin (w := (i_shl od_ is_)) rfl rfl ?_ -- pc_ 47
        have bx2_ : i_shl od_ is_ = 8 ∨ i_shl od_ is_ = 48 := by (rcases vp9_ with u9_ | u9_; (have w9_ : od_ = 2 := (by omega); rw [w9_]; left; exact u9_.2.2); (have w9_ : od_ = 6 := (by omega); rw [w9_]; right; exact u9_.2.2))
        have od9_ : (is_ = 2 ∧ i_shl od_ is_ = 8) ∨ (is_ = 3 ∧ i_shl od_ is_ = 48) := by (rcases vp9_ with u9_ | u9_; (have w9_ : od_ = 2 := (by omega); rw [w9_]; left; exact ⟨u9_.1, u9_.2.2⟩); (have w9_ : od_ = 6 := (by omega); rw [w9_]; right; exact ⟨u9_.1, u9_.2.2⟩))
        refine sm_T_br (a := 3) (z := 121) rfl (fun cx4_ => ?_) (fun cx4_ => ?_)
        · have cx4_ : (i_shl od_ is_) ≤ vw_ := of_decide_eq_true cx4_
          refine sm_T_inc (a := 1) (z := 1) (v := c9_) (w := c9_ + 1) rfl rfl (by omega) (by omega) (by omega) ?_ -- pc_ 169
          refine sm_T_go 1 (c1 := (2, [some (.inr (.inr (some (6, 0)))), some (.inl (c9_ + 1)), some (.inl is_), some (.inl od_), some (.inl vw_), none, none, none, none, none, none], [], S_)) rfl ?_
          refine sm_T_wk [some (.inr (.inr (some (6, 0)))), some (.inl (c9_ + 1)), none, none, none, none, none, none, none, none, none] (by exact ⟨rfl, rfl, trivial⟩) ?_
          refine ih_.1 (c9_ + 1) S_ hI_ hF_ ⟨?_, ?_, trivial⟩ ?_
          · omega
          · intro c_ v_ u_ w_ x_
            by_cases z9_ : (c_ : Int) = c9_
            · rw [show c_ = c9_.toNat by omega] at w_ x_ ⊢
              refine hv_ v_ ?_
              rw [← hi9_] at w_ x_
              unfold wic at x_
              first | (exfalso; omega) | (rcases od9_ with od8_ | od8_; (rw [if_pos (show is_.toNat = 2 by omega)] at x_; omega); (rw [if_neg (show ¬ is_.toNat = 2 by omega)] at x_; omega))
            · exact hq_ c_ v_ (by omega) w_ x_
          · omega
        · have cx4_ : ¬ ((i_shl od_ is_) ≤ vw_) := of_decide_eq_false cx4_
          have vo9_ := vor (v_ := vw_) (e_ := is_) (by omega) (by omega)
          refine sm_T_go 2 (c1 := (54, [some (.inr (.inr (some (6, 0)))), some (.inl c9_), some (.inl is_), some (.inl od_), some (.inl vw_), none, none, none, none, none, none], [.inl is_, .inl vw_], S_)) rfl ?_
          refine sm_T_bin (w := (i_shr vw_ is_)) rfl rfl ?_ -- pc_ 54
          refine sm_T_go 4 (c1 := (61, [some (.inr (.inr (some (6, 0)))), some (.inl c9_), some (.inl is_), some (.inl od_), some (.inl vw_), some (.inl (i_shr vw_ is_)), none, none, none, none, none], [.inl is_, .inl 1, .inl vw_], S_)) rfl ?_
          refine sm_T_bin (w := (i_shl 1 is_)) rfl rfl ?_ -- pc_ 61
          refine sm_T_go 1 (c1 := (63, [some (.inr (.inr (some (6, 0)))), some (.inl c9_), some (.inl is_), some (.inl od_), some (.inl vw_), some (.inl (i_shr vw_ is_)), none, none, none, none, none], [.inl 1, .inl (i_shl 1 is_), .inl vw_], S_)) rfl ?_
          refine sm_T_bin (w := (i_shl 1 is_) - 1) rfl (bi_sub (by omega) (by omega) (by omega)) ?_ -- pc_ 63
          refine sm_T_bin (w := (i_and vw_ ((i_shl 1 is_) - 1))) rfl rfl ?_ -- pc_ 64
          have bx5_ := i_and_y vw_ (y_ := ((i_shl 1 is_) - 1)) (by omega)
          refine sm_T_go 5 (c1 := (73, [some (.inr (.inr (some (6, 0)))), some (.inl c9_), some (.inl is_), some (.inl od_), some (.inl vw_), some (.inl (i_shr vw_ is_)), some (.inl (i_and vw_ ((i_shl 1 is_) - 1))), some (.inl 0), some (.inl 0), none, none], [], S_)) rfl ?_
          refine ih_.2.2.1 c9_ is_ od_ vw_ (i_shr vw_ is_) (i_and vw_ ((i_shl 1 is_) - 1)) 0 0 S_ hI_ hF_ ⟨?_, ?_, ?_, ?_, ?_, ?_, trivial⟩ ?_
          · omega
          · exact hq_
          · exact hi9_
          · exact hv_
          · exact vsp (by omega) (by omega)
          · rfl
          · omega
    · rintro c9_ is_ od_ vw_ ox_ tn_ tb_ sx_ S_ hI_ hF_ ⟨h0_, hq_, hi9_, hv_, hox_, htb_, -⟩ hm_
      have f55_ : S_.2.2.1 55 (0 + ll_) = S0_.2.2.1 55 (0 + ll_) := fr_arr hF_ rfl
      have f56_ : S_.2.2.1 56 (0 + ll_) = S0_.2.2.1 56 (0 + ll_) := fr_arr hF_ rfl
      have fl1_ : S_.1 5 ll_ 1 = S0_.1 5 ll_ 1 := hF_.1 5 ll_ 1 rfl
      refine sm_T_go 3 (c1 := (77, [some (.inr (.inr (some (6, 0)))), some (.inl c9_), some (.inl is_), some (.inl od_), some (.inl vw_), some (.inl ox_), some (.inl tn_), some (.inl tb_), some (.inl sx_), none, none], [.inl is_, .inl 1, .inl sx_], S_)) rfl ?_
      refine sm_T_bin (w := (i_shl 1 is_)) rfl rfl ?_ -- pc_ 77
      have vq9_ := vpw (e_ := is_) (by omega)
      refine sm_T_br (a := 3) (z := 71) rfl (fun cx2_ => ?_) (fun cx2_ => ?_)
      · have cx2_ : (i_shl 1 is_) ≤ sx_ := of_decide_eq_true cx2_
        refine sm_T_go 4 (c1 := (156, [some (.inr (.inr (some (6, 0)))), some (.inl c9_), some (.inl is_), some (.inl od_), some (.inl vw_), some (.inl ox_), some (.inl tn_), some (.inl tb_), some (.inl sx_), none, none], [.inl 48, .inl c9_, .inr (.inr (some (69, 0)))], S_)) rfl ?_
        refine sm_T_bin (w := 48 * c9_) rfl (bi_mul (by omega) (by omega) (by omega)) ?_ -- pc_ 156
        refine sm_T_go 1 (c1 := (159, [some (.inr (.inr (some (6, 0)))), some (.inl c9_), some (.inl is_), some (.inl od_), some (.inl vw_), some (.inl ox_), some (.inl tn_), some (.inl tb_), some (.inl sx_), none, none], [.inl vw_, .inl (48 * c9_), .inr (.inr (some (69, 0)))], S_)) rfl ?_
        refine sm_T_bin (w := 48 * c9_ + vw_) rfl (bi_add (by omega) (by omega) (by omega)) ?_ -- pc_ 159
        refine sm_T_go 1 (c1 := (162, [some (.inr (.inr (some (6, 0)))), some (.inl c9_), some (.inl is_), some (.inl od_), some (.inl vw_), some (.inl ox_), some (.inl tn_), some (.inl tb_), some (.inl sx_), none, none], [.inl tb_, .inl (48 * c9_ + vw_), .inr (.inr (some (69, 0)))], S_)) rfl ?_
        refine sm_T_iast (n := 576) rfl rfl (by omega) (by omega) ?_
        have hIx3_ : gi (sm_aI S_ 69 0 (48 * c9_ + vw_).toNat tb_) := gi_aI hI_ (show 0 ≤ tb_ ∧ tb_ ≤ 255 from ⟨by omega, by omega⟩)
        have hFx4_ : ai_fr (sx_W vw_97n) S0_ (sm_aI S_ 69 0 (48 * c9_ + vw_).toNat tb_) := ai_fr_tr hF_ (ai_fr_aI rfl)
        refine sm_T_inc (a := 4) (z := 1) (v := vw_) (w := vw_ + 1) rfl rfl (by omega) (by omega) (by omega) ?_ -- pc_ 163
        refine sm_T_go 1 (c1 := (38, [some (.inr (.inr (some (6, 0)))), some (.inl c9_), some (.inl is_), some (.inl od_), some (.inl (vw_ + 1)), some (.inl ox_), some (.inl tn_), some (.inl tb_), some (.inl sx_), none, none], [], sm_aI S_ 69 0 (48 * c9_ + vw_).toNat tb_)) rfl ?_
        refine sm_T_wk [some (.inr (.inr (some (6, 0)))), some (.inl c9_), some (.inl is_), some (.inl od_), some (.inl (vw_ + 1)), none, none, none, none, none, none] (by exact ⟨rfl, rfl, rfl, rfl, rfl, trivial⟩) ?_
        refine ih_.2.1 c9_ is_ od_ (vw_ + 1) (sm_aI S_ 69 0 (48 * c9_ + vw_).toNat tb_) hIx3_ hFx4_ ⟨?_, ?_, ?_, ?_, trivial⟩ ?_
        · omega
        · intro c_ v_ u_ w_ x_
          exact vwd_w (hq_ c_ v_ u_ w_ x_) (fun j_ => rd_eq) (by (unfold wic at x_; split at x_ <;> omega))
        · exact hi9_
        · intro v_ u_
          by_cases z9_ : (v_ : Int) = vw_
          · unfold vwd
            rw [rd_eq, if_pos (by omega), show v_ = vw_.toNat by omega, htb_, ← hi9_]
            have w9_ := shl_1 (e_ := is_) (by omega)
            have q9_ : sx_ = i_shl 1 is_ := by omega
            rw [w9_] at q9_
            rw [show sx_.toNat = 2 ^ is_.toNat from by rw [q9_, Int.toNat_natCast]]
          · exact vwd_w (hv_ v_ (by omega)) (fun j_ => rd_eq) (by omega)
        · omega
      · have cx2_ : ¬ ((i_shl 1 is_) ≤ sx_) := of_decide_eq_false cx2_
        refine sm_T_go 4 (c1 := (88, [some (.inr (.inr (some (6, 0)))), some (.inl c9_), some (.inl is_), some (.inl od_), some (.inl vw_), some (.inl ox_), some (.inl tn_), some (.inl tb_), some (.inl sx_), some (.inl tn_), some (.inl 0)], [], S_)) rfl ?_
        refine ih_.2.2.2 c9_ is_ od_ vw_ ox_ tn_ tb_ sx_ tn_ 0 S_ hI_ hF_ ⟨?_, ?_, ?_, ?_, ?_, ?_, ?_, trivial⟩ ?_
        · omega
        · exact hq_
        · exact hi9_
        · exact hv_
        · exact hox_
        · exact htb_
        · rfl
        · omega
    · rintro c9_ is_ od_ vw_ ox_ tn_ tb_ sx_ st_ k_ S_ hI_ hF_ ⟨h0_, hq_, hi9_, hv_, hox_, htb_, hst_, -⟩ hm_
      have f55_ : S_.2.2.1 55 (0 + ll_) = S0_.2.2.1 55 (0 + ll_) := fr_arr hF_ rfl
      have f56_ : S_.2.2.1 56 (0 + ll_) = S0_.2.2.1 56 (0 + ll_) := fr_arr hF_ rfl
      have fl1_ : S_.1 5 ll_ 1 = S0_.1 5 ll_ 1 := hF_.1 5 ll_ 1 rfl
      refine sm_T_go 2 (c1 := (91, [some (.inr (.inr (some (6, 0)))), some (.inl c9_), some (.inl is_), some (.inl od_), some (.inl vw_), some (.inl ox_), some (.inl tn_), some (.inl tb_), some (.inl sx_), some (.inl st_), some (.inl k_)], [.inl is_, .inl k_], S_)) rfl ?_
      refine sm_T_br (a := 3) (z := 30) rfl (fun cx1_ => ?_) (fun cx1_ => ?_)
      · have cx1_ : is_ ≤ k_ := of_decide_eq_true cx1_
        refine sm_T_go 2 (c1 := (124, [some (.inr (.inr (some (6, 0)))), some (.inl c9_), some (.inl is_), some (.inl od_), some (.inl vw_), some (.inl ox_), some (.inl tn_), some (.inl tb_), some (.inl sx_), some (.inl st_), some (.inl k_)], [.inr (.inr (some (6, 0))), .inl tb_], S_)) rfl ?_
        refine sm_T_gr rfl rfl ((hF_.2.1 6 0 1 rfl).trans hc_) ?_
        refine sm_T_go 2 (c1 := (131, [some (.inr (.inr (some (6, 0)))), some (.inl c9_), some (.inl is_), some (.inl od_), some (.inl vw_), some (.inl ox_), some (.inl tn_), some (.inl tb_), some (.inl sx_), some (.inl st_), some (.inl k_)], [.inl c9_, .inr (.inr (some (56, (0 + ll_)))), .inl tb_], S_)) rfl ?_
        refine sm_T_iald (n := 12) rfl rfl (by omega) (by omega) ?_
        have bx2_ : 0 ≤ S_.2.2.1 56 (0 + ll_) c9_.toNat ∧ S_.2.2.1 56 (0 + ll_) c9_.toNat ≤ 255 := hI_.2 56 (0 + ll_) _
        refine sm_T_go 1 (c1 := (134, [some (.inr (.inr (some (6, 0)))), some (.inl c9_), some (.inl is_), some (.inl od_), some (.inl vw_), some (.inl ox_), some (.inl tn_), some (.inl tb_), some (.inl sx_), some (.inl st_), some (.inl k_)], [.inl st_, .inl (S_.2.2.1 56 (0 + ll_) c9_.toNat), .inl tb_], S_)) rfl ?_
        refine sm_T_bin (w := (i_shr (S_.2.2.1 56 (0 + ll_) c9_.toNat) st_)) rfl rfl ?_ -- pc_ 134
        have bx3_ := i_shr_p (x_ := (S_.2.2.1 56 (0 + ll_) c9_.toNat)) (e_ := st_) (by omega) (by omega) (by omega)
        refine sm_T_go 1 (c1 := (136, [some (.inr (.inr (some (6, 0)))), some (.inl c9_), some (.inl is_), some (.inl od_), some (.inl vw_), some (.inl ox_), some (.inl tn_), some (.inl tb_), some (.inl sx_), some (.inl st_), some (.inl k_)], [.inl 1, .inl (i_shr (S_.2.2.1 56 (0 + ll_) c9_.toNat) st_), .inl tb_], S_)) rfl ?_
        refine sm_T_bin (w := ((i_shr (S_.2.2.1 56 (0 + ll_) c9_.toNat) st_) % 2)) rfl (bi_msk (k := 1) (by decide)) ?_ -- pc_ 136
        refine sm_T_go 1 (c1 := (139, [some (.inr (.inr (some (6, 0)))), some (.inl c9_), some (.inl is_), some (.inl od_), some (.inl vw_), some (.inl ox_), some (.inl tn_), some (.inl tb_), some (.inl sx_), some (.inl st_), some (.inl k_)], [.inl sx_, .inl ((i_shr (S_.2.2.1 56 (0 + ll_) c9_.toNat) st_) % 2), .inl tb_], S_)) rfl ?_
        refine sm_T_bin (w := (i_shl ((i_shr (S_.2.2.1 56 (0 + ll_) c9_.toNat) st_) % 2) sx_)) rfl rfl ?_ -- pc_ 139
        have bx4_ := bsh (x_ := ((i_shr (S_.2.2.1 56 (0 + ll_) c9_.toNat) st_) % 2)) (e_ := sx_) (k_ := 8) (by omega) (by omega) (by omega) (by decide)
        refine sm_T_bin (w := (i_or tb_ (i_shl ((i_shr (S_.2.2.1 56 (0 + ll_) c9_.toNat) st_) % 2) sx_))) rfl rfl ?_ -- pc_ 140
        have bx5_ := i_orp (x_ := tb_) (y_ := (i_shl ((i_shr (S_.2.2.1 56 (0 + ll_) c9_.toNat) st_) % 2) sx_)) (k_ := 8) (by decide) (by omega) (by omega)
        refine sm_T_go 1 (c1 := (143, [some (.inr (.inr (some (6, 0)))), some (.inl c9_), some (.inl is_), some (.inl od_), some (.inl vw_), some (.inl ox_), some (.inl tn_), some (.inl (i_or tb_ (i_shl ((i_shr (S_.2.2.1 56 (0 + ll_) c9_.toNat) st_) % 2) sx_))), some (.inl sx_), some (.inl st_), some (.inl k_)], [], S_)) rfl ?_
        refine sm_T_inc (a := 8) (z := 1) (v := sx_) (w := sx_ + 1) rfl rfl (by omega) (by omega) (by omega) ?_ -- pc_ 143
        refine sm_T_go 1 (c1 := (73, [some (.inr (.inr (some (6, 0)))), some (.inl c9_), some (.inl is_), some (.inl od_), some (.inl vw_), some (.inl ox_), some (.inl tn_), some (.inl (i_or tb_ (i_shl ((i_shr (S_.2.2.1 56 (0 + ll_) c9_.toNat) st_) % 2) sx_))), some (.inl (sx_ + 1)), some (.inl st_), some (.inl k_)], [], S_)) rfl ?_
        refine sm_T_wk [some (.inr (.inr (some (6, 0)))), some (.inl c9_), some (.inl is_), some (.inl od_), some (.inl vw_), some (.inl ox_), some (.inl tn_), some (.inl (i_or tb_ (i_shl ((i_shr (S_.2.2.1 56 (0 + ll_) c9_.toNat) st_) % 2) sx_))), some (.inl (sx_ + 1)), none, none] (by exact ⟨rfl, rfl, rfl, rfl, rfl, rfl, rfl, rfl, rfl, trivial⟩) ?_
        refine ih_.2.2.1 c9_ is_ od_ vw_ ox_ tn_ (i_or tb_ (i_shl ((i_shr (S_.2.2.1 56 (0 + ll_) c9_.toNat) st_) % 2) sx_)) (sx_ + 1) S_ hI_ hF_ ⟨?_, ?_, ?_, ?_, ?_, ?_, trivial⟩ ?_
        · omega
        · exact hq_
        · exact hi9_
        · exact hv_
        · exact hox_
        · rw [show (sx_ + 1).toNat = sx_.toNat + 1 by omega]
          unfold vwc at htb_ ⊢
          have z9_ : st_ = cse ((is_.toNat : Nat) : Int) ((vw_.toNat / 2 ^ is_.toNat : Nat) : Int) ((vw_.toNat % 2 ^ is_.toNat : Nat) : Int) ((sx_.toNat : Nat) : Int) is_.toNat := by (rw [← hox_.1, ← hox_.2, show ((is_.toNat : Nat) : Int) = is_ by omega, show ((sx_.toNat : Nat) : Int) = sx_ by omega, hst_, show k_.toNat = is_.toNat by omega])
          have y9_ := tbv_orb (f_ := fun s_ => decide (i_shr (S0_.2.2.1 56 (0 + ll_) c9_.toNat) (cse ((is_.toNat : Nat) : Int) ((vw_.toNat / 2 ^ is_.toNat : Nat) : Int) ((vw_.toNat % 2 ^ is_.toNat : Nat) : Int) (s_ : Int) is_.toNat) % 2 = 1)) (k_ := sx_.toNat) (x_ := i_shr (S0_.2.2.1 56 (0 + ll_) c9_.toNat) st_) (by omega) (by (rw [z9_]))
          rw [show ((sx_.toNat : Nat) : Int) = sx_ by omega, ← htb_] at y9_
          rw [f56_]
          exact y9_
        · omega
      · have cx1_ : ¬ (is_ ≤ k_) := of_decide_eq_false cx1_
        refine sm_T_go 5 (c1 := (103, [some (.inr (.inr (some (6, 0)))), some (.inl c9_), some (.inl is_), some (.inl od_), some (.inl vw_), some (.inl ox_), some (.inl tn_), some (.inl tb_), some (.inl sx_), some (.inl st_), some (.inl k_)], [.inl k_, .inl ox_, .inl is_, .inl sx_, .inl st_], S_)) rfl ?_
        refine sm_T_cal (d1 := 0) (Q1 := vq_98 is_ ox_ k_ S_) rfl rfl (by decide) (vc_98 is_ ox_ k_ S_ hI_ (by omega)) (fun u_ Sx6_ px9_ => ?_)
        obtain ⟨rfl, vx11_, rfl, px9_⟩ := px9_
        have pl9_ := px9_.1
        have pl8_ : vx11_ = plo is_ ox_ k_ := px9_.2
        refine sm_T_bin (w := (i_shr sx_ vx11_)) rfl rfl ?_ -- pc_ 106
        have bx12_ := i_shr_p (x_ := sx_) (e_ := vx11_) (by omega) (by omega) (by omega)
        refine sm_T_go 1 (c1 := (108, [some (.inr (.inr (some (6, 0)))), some (.inl c9_), some (.inl is_), some (.inl od_), some (.inl vw_), some (.inl ox_), some (.inl tn_), some (.inl tb_), some (.inl sx_), some (.inl st_), some (.inl k_)], [.inl 1, .inl (i_shr sx_ vx11_), .inl st_], S_)) rfl ?_
        refine sm_T_bin (w := ((i_shr sx_ vx11_) % 2)) rfl (bi_msk (k := 1) (by decide)) ?_ -- pc_ 108
        refine sm_T_go 1 (c1 := (111, [some (.inr (.inr (some (6, 0)))), some (.inl c9_), some (.inl is_), some (.inl od_), some (.inl vw_), some (.inl ox_), some (.inl tn_), some (.inl tb_), some (.inl sx_), some (.inl st_), some (.inl k_)], [.inl k_, .inl ((i_shr sx_ vx11_) % 2), .inl st_], S_)) rfl ?_
        refine sm_T_bin (w := (i_shl ((i_shr sx_ vx11_) % 2) k_)) rfl rfl ?_ -- pc_ 111
        have bx13_ := vsh (x_ := ((i_shr sx_ vx11_) % 2)) (k_ := k_) (by omega) (by omega)
        refine sm_T_bin (w := (i_xor st_ (i_shl ((i_shr sx_ vx11_) % 2) k_))) rfl rfl ?_ -- pc_ 112
        have bx14_ := i_xrp (x_ := st_) (y_ := (i_shl ((i_shr sx_ vx11_) % 2) k_)) (k_ := 3) (by decide) (by omega) (by omega)
        refine sm_T_go 1 (c1 := (115, [some (.inr (.inr (some (6, 0)))), some (.inl c9_), some (.inl is_), some (.inl od_), some (.inl vw_), some (.inl ox_), some (.inl tn_), some (.inl tb_), some (.inl sx_), some (.inl (i_xor st_ (i_shl ((i_shr sx_ vx11_) % 2) k_))), some (.inl k_)], [], S_)) rfl ?_
        refine sm_T_inc (a := 10) (z := 1) (v := k_) (w := k_ + 1) rfl rfl (by omega) (by omega) (by omega) ?_ -- pc_ 115
        refine sm_T_go 1 (c1 := (88, [some (.inr (.inr (some (6, 0)))), some (.inl c9_), some (.inl is_), some (.inl od_), some (.inl vw_), some (.inl ox_), some (.inl tn_), some (.inl tb_), some (.inl sx_), some (.inl (i_xor st_ (i_shl ((i_shr sx_ vx11_) % 2) k_))), some (.inl (k_ + 1))], [], S_)) rfl ?_
        refine ih_.2.2.2 c9_ is_ od_ vw_ ox_ tn_ tb_ sx_ (i_xor st_ (i_shl ((i_shr sx_ vx11_) % 2) k_)) (k_ + 1) S_ hI_ hF_ ⟨?_, ?_, ?_, ?_, ?_, ?_, ?_, trivial⟩ ?_
        · omega
        · exact hq_
        · exact hi9_
        · exact hv_
        · exact hox_
        · exact htb_
        · rw [show (k_ + 1).toNat = k_.toNat + 1 by omega]
          show _ = i_xor (cse is_ ox_ tn_ sx_ k_.toNat) (i_shl (i_shr sx_ (plo is_ ox_ ((k_.toNat : Nat) : Int)) % 2) ((k_.toNat : Nat) : Int))
          rw [show ((k_.toNat : Nat) : Int) = k_ by omega, ← hst_, ← pl8_]
        · omega
set_option maxHeartbeats 4000000 in
set_option maxRecDepth 20000 in
theorem vc_97n {sc_ : Nat × (Nat → Int)} (ll_ : Nat) (S0_ : sm_S) (hI_ : gi S0_) (hc_ : S0_.2.1 6 0 1 = some ll_) : sm_T (mt_P sc_) 1 97 (0, [some (.inr (.inr (some (6, 0)))), none, none, none, none, none, none, none, none, none, none], [], S0_) (fun ro9_ => ∃ u_ S1_, ro9_ = (.inl u_, S1_, 0) ∧ vq_97n ll_ S0_ u_ S1_) := by
  have hF_ : ai_fr (sx_W vw_97n) S0_ S0_ := ai_fr_rf
  refine sm_T_go 2 (c1 := (2, [some (.inr (.inr (some (6, 0)))), some (.inl 0), none, none, none, none, none, none, none, none, none], [], S0_)) rfl ?_
  refine (vl_97n ll_ S0_ hc_ _).1 0 S0_ hI_ hF_ ⟨?_, ?_, trivial⟩ (Nat.lt_succ_self _)
  · omega
  · (intro c_ v_ u_; exfalso; omega)
end
/-! 99.ztZT -/
section
/-! ways of a literal: the class; written by wip/p55/gen/vg -/

/-! the_ ways of_ a_ literal, the_ class -/
def wrc (ll_ : Nat) (S_ : sm_S) (l_ : Nat) (b_ : Int × Int × Int × (Nat → Int)) : Prop := S_.2.2.1 61 0 l_ = b_.1 ∧ ((b_.1 = 268435456 ∧ S_.2.2.1 62 0 l_ = -1) ∨ (b_.1 < 268435456 ∧ S_.2.2.1 62 0 l_ = b_.2.1 ∧ S_.2.2.1 63 0 l_ = b_.2.2.1 ∧ ∀ k_ : Nat, (k_ : Int) < S_.2.2.1 55 (0 + ll_) b_.2.1.toNat → S_.2.2.1 64 0 (3 * l_ + k_) = b_.2.2.2 k_))
def pcc (F_ : Int) (ll_ : Nat) (S_ : sm_S) (x_ t_ : Int) : Int := if F_ ≤ x_ ∧ S_.2.2.1 60 0 x_.toNat = 0 then S_.2.2.1 61 0 (2 * x_ + t_).toNat else if t_ = 0 then 0 else if S_.1 5 ll_ 2 = -1 then 268435456 else S_.2.2.1 57 (0 + ll_) (S_.1 5 ll_ 2).toNat
def adc (a_ b_ : Int) : Int := if a_ + b_ ≤ 268435456 then a_ + b_ else 268435456
theorem tn_k {v_ k_ : Int} (hv_ : 0 ≤ v_ ∧ v_ < 48) (hk_ : 0 ≤ k_ ∧ k_ ≤ 2) : i_shr v_ k_ % 2 = ((v_.toNat / 2 ^ k_.toNat % 2 : Nat) : Int) := by
  have c_ : k_ = 0 ∨ k_ = 1 ∨ k_ = 2 := by omega
  rw [i_shrv hk_.1 (by omega) (by omega)]
  rcases c_ with c_ | c_ | c_
  · rw [c_]
    show v_ / 1 % 2 = ((v_.toNat / 1 % 2 : Nat) : Int)
    omega
  · rw [c_]
    show v_ / 2 % 2 = ((v_.toNat / 2 % 2 : Nat) : Int)
    omega
  · rw [c_]
    show v_ / 4 % 2 = ((v_.toNat / 4 % 2 : Nat) : Int)
    omega
theorem cdn_e {c_ : List Nat} {V_ : Nat → Int} {ip_ a3_ v_ k_ p_ : Int} (hcv_ : ∀ j_ : Nat, j_ < 3 → V_ (3 * a3_.toNat + j_) = cva c_ j_) (h3_ : 0 ≤ a3_) (hv_ : (ip_ = 2 ∧ 0 ≤ v_ ∧ v_ < 8) ∨ (ip_ = 3 ∧ 0 ≤ v_ ∧ v_ < 48)) (hk_ : 0 ≤ k_ ∧ k_ < ip_) (hp_ : p_ = plo ip_ (i_shr v_ ip_) k_) (hpb_ : 0 ≤ p_ ∧ p_ ≤ 2) : cdn c_ ip_.toNat (v_.toNat / 2 ^ ip_.toNat) k_.toNat = V_ (3 * a3_ + p_).toNat := by
  have hip_ : ip_ = 2 ∨ ip_ = 3 := by omega
  have s_ := (vsp (v_ := v_) (e_ := ip_) (by omega) hip_).1
  have o_ : (ip_ = 2 ∧ 0 ≤ i_shr v_ ip_ ∧ i_shr v_ ip_ ≤ 1 ∧ 0 ≤ k_ ∧ k_ ≤ 1) ∨ (ip_ = 3 ∧ 0 ≤ i_shr v_ ip_ ∧ i_shr v_ ip_ ≤ 5 ∧ 0 ≤ k_ ∧ k_ ≤ 2) := by
    have := vor (v_ := v_) (e_ := ip_) (by omega) hip_
    omega
  unfold cdn
  rw [← s_, show ((ip_.toNat : Nat) : Int) = ip_ by omega, show ((k_.toNat : Nat) : Int) = k_ by omega, ← plo_i o_, ← hp_, ← hcv_ p_.toNat (by omega), show 3 * a3_.toNat + p_.toNat = (3 * a3_ + p_).toNat by omega]
theorem cco_s {ad_ pc_ : Int → Int → Int} {a_ : Int} {c_ : List Nat} {ip_ v_ k_ : Nat} : cco ad_ pc_ a_ c_ ip_ v_ (k_ + 1) = ad_ (cco ad_ pc_ a_ c_ ip_ v_ k_) (pc_ (cdn c_ ip_ (v_ / 2 ^ ip_) k_) ((v_ / 2 ^ k_ % 2 : Nat) : Int)) := rfl
theorem cco_cg {ad_ pc_ pd_ : Int → Int → Int} {a_ : Int} {c_ : List Nat} {ip_ v_ : Nat} : ∀ m_ : Nat, (∀ k_, k_ < m_ → pc_ (cdn c_ ip_ (v_ / 2 ^ ip_) k_) ((v_ / 2 ^ k_ % 2 : Nat) : Int) = pd_ (cdn c_ ip_ (v_ / 2 ^ ip_) k_) ((v_ / 2 ^ k_ % 2 : Nat) : Int)) → cco ad_ pc_ a_ c_ ip_ v_ m_ = cco ad_ pd_ a_ c_ ip_ v_ m_
  | 0, _ => rfl
  | m_ + 1, h_ => by
    rw [cco_s, cco_s, cco_cg m_ (fun k_ hk_ => h_ k_ (by omega)), h_ m_ (Nat.lt_succ_self m_)]
/-- another literal's way_ -/
theorem wrc_o {ll_ l_ : Nat} {S_ S'_ : sm_S} {b_ : Int × Int × Int × (Nat → Int)} (h_ : wrc ll_ S_ l_ b_) (e1_ : S'_.2.2.1 61 0 l_ = S_.2.2.1 61 0 l_) (e2_ : S'_.2.2.1 62 0 l_ = S_.2.2.1 62 0 l_) (e3_ : S'_.2.2.1 63 0 l_ = S_.2.2.1 63 0 l_) (e4_ : ∀ k_, k_ < 3 → S'_.2.2.1 64 0 (3 * l_ + k_) = S_.2.2.1 64 0 (3 * l_ + k_)) (e5_ : S'_.2.2.1 55 (0 + ll_) = S_.2.2.1 55 (0 + ll_)) (c55_ : ∀ k_, S_.2.2.1 55 (0 + ll_) k_ ≤ 3) : wrc ll_ S'_ l_ b_ := by
  unfold wrc at *
  rw [e1_, e2_, e3_, e5_]
  refine ⟨h_.1, ?_⟩
  rcases h_.2 with g_ | g_
  · exact Or.inl g_
  · refine Or.inr ⟨g_.1, g_.2.1, g_.2.2.1, fun k_ hk_ => ?_⟩
    have q_ := c55_ b_.2.1.toNat
    rw [e4_ k_ (by omega)]
    exact g_.2.2.2 k_ hk_
theorem wrc_f {ll_ l_ m_ : Nat} {S_ S'_ : sm_S} {b_ : Int × Int × Int × (Nat → Int)} (h_ : wrc ll_ S_ l_ b_) (g_ : wfl m_ S_ S'_) (ne : l_ ≠ m_) (e5_ : S'_.2.2.1 55 (0 + ll_) = S_.2.2.1 55 (0 + ll_)) (c55_ : ∀ k_, S_.2.2.1 55 (0 + ll_) k_ ≤ 3) : wrc ll_ S'_ l_ b_ := wrc_o h_ (g_.1 l_ ne).1 (g_.1 l_ ne).2.1 (g_.1 l_ ne).2.2 (fun k_ hk_ => g_.2 _ (by omega)) e5_ c55_
theorem wrc_fr {w_ : sx_Wl} {ll_ l_ : Nat} {S_ S'_ : sm_S} {b_ : Int × Int × Int × (Nat → Int)} (h_ : wrc ll_ S_ l_ b_) (g_ : ai_fr (sx_W w_) S_ S'_) (a1_ : (sx_W w_).2.1 61 = false := by rfl) (a2_ : (sx_W w_).2.1 62 = false := by rfl) (a3_ : (sx_W w_).2.1 63 = false := by rfl) (a4_ : (sx_W w_).2.1 64 = false := by rfl) (a5_ : (sx_W w_).2.1 55 = false := by rfl) : wrc ll_ S'_ l_ b_ := by
  unfold wrc at *
  rw [fr_arr (t := 61) g_ a1_, fr_arr (t := 62) g_ a2_, fr_arr (t := 63) g_ a3_, fr_arr (t := 64) g_ a4_, fr_arr (t := 55) g_ a5_]
  exact h_
theorem pcc_cg {F_ : Int} {ll_ : Nat} {S_ S'_ : sm_S} {n_ x_ t_ : Int} (hx_ : 0 ≤ x_ ∧ x_ < n_) (ht_ : 0 ≤ t_ ∧ t_ ≤ 1) (e0_ : S'_.2.2.1 60 0 = S_.2.2.1 60 0) (e1_ : ∀ j_ : Nat, (j_ : Int) < 2 * n_ → S'_.2.2.1 61 0 j_ = S_.2.2.1 61 0 j_) (e2_ : S'_.1 5 ll_ 2 = S_.1 5 ll_ 2) (e3_ : S'_.2.2.1 57 (0 + ll_) = S_.2.2.1 57 (0 + ll_)) : pcc F_ ll_ S'_ x_ t_ = pcc F_ ll_ S_ x_ t_ := by
  unfold pcc
  rw [e0_, e1_ _ (by omega), e2_, e3_]
theorem wvs_h {ad_ pc_ : Int → Int → Int} {hit_ : Nat → Bool} {a_ : Int} {cell : Nat} {c_ : List Nat} {ip_ v_ : Nat} {b_ : Int × Int × Int × (Nat → Int)} (h_ : hit_ v_ = true) : wvs ad_ pc_ hit_ a_ cell c_ ip_ v_ b_ = wst b_ (cco ad_ pc_ a_ c_ ip_ v_ ip_) ((cell : Int), ((v_ % 2 ^ ip_ : Nat) : Int), cdn c_ ip_ (v_ / 2 ^ ip_)) := if_pos h_
theorem wvs_n {ad_ pc_ : Int → Int → Int} {hit_ : Nat → Bool} {a_ : Int} {cell : Nat} {c_ : List Nat} {ip_ v_ : Nat} {b_ : Int × Int × Int × (Nat → Int)} (h_ : ¬ hit_ v_ = true) : wvs ad_ pc_ hit_ a_ cell c_ ip_ v_ b_ = b_ := if_neg h_
theorem cfo_s {f_ : Nat → Int × Int × Int × (Nat → Int) → Int × Int × Int × (Nat → Int)} {i_ : Nat} {b_ : Int × Int × Int × (Nat → Int)} : cfo f_ (i_ + 1) b_ = f_ i_ (cfo f_ i_ b_) := rfl

/-! Mapper.offer -/
def vw_108n : sx_Wl := ([], [61, 62, 63, 64], [])
def vq_108n (a1_ : Int) (a2_ : Int) (a3_ : Int) (a4_ : Int) (dd_ : Nat) (ll_ : Nat) (n9_ : Int) (c_ : List Nat) (b_ : Int × Int × Int × (Nat → Int)) (S0_ : sm_S) (u_ : Option sm_V) (S1_ : sm_S) : Prop := u_ = none ∧ gi S1_ ∧ ai_fr (sx_W vw_108n) S0_ S1_ ∧ ((wo3 (1 + S0_.1 3 dd_ 1 + S0_.1 3 dd_ 2) n9_ ll_ S1_ a1_.toNat ∧ wfl a1_.toNat S0_ S1_) ∧ wrc ll_ S1_ a1_.toNat (wst b_ (cco adc (pcc (1 + S0_.1 3 dd_ 1 + S0_.1 3 dd_ 2) ll_ S0_) (S0_.2.2.1 57 (0 + ll_) a2_.toNat) c_ (S0_.2.2.1 55 (0 + ll_) a2_.toNat).toNat a4_.toNat (S0_.2.2.1 55 (0 + ll_) a2_.toNat).toNat) (a2_, ((a4_.toNat % 2 ^ (S0_.2.2.1 55 (0 + ll_) a2_.toNat).toNat : Nat) : Int), cdn c_ (S0_.2.2.1 55 (0 + ll_) a2_.toNat).toNat (a4_.toNat / 2 ^ (S0_.2.2.1 55 (0 + ll_) a2_.toNat).toNat))))
set_option maxHeartbeats 3000000 in
set_option maxRecDepth 20000 in
theorem vl_108n {sc_ : Nat × (Nat → Int)} (a1_ : Int) (a2_ : Int) (a3_ : Int) (a4_ : Int) (dd_ : Nat) (ll_ : Nat) (n9_ : Int) (c_ : List Nat) (b_ : Int × Int × Int × (Nat → Int)) (S0_ : sm_S) (hcv_ : ∀ j_ : Nat, j_ < 3 → S0_.2.2.1 65 0 (3 * a3_.toNat + j_) = cva c_ j_) (hb_ : wrc ll_ S0_ a1_.toNat b_) (hd_ : S0_.2.1 6 0 0 = some dd_) (hc_ : S0_.2.1 6 0 1 = some ll_) (h1_ : (a1_ = 2 * n9_ ∨ a1_ = 2 * n9_ + 1) ∧ 1 ≤ n9_ ∧ n9_ ≤ 1012) (h2_ : 0 ≤ a2_ ∧ a2_ ≤ 11) (h3_ : 0 ≤ a3_ ∧ a3_ < S0_.1 6 0 11) (his_ : ((S0_.2.2.1 55 (0 + ll_) a2_.toNat) = 2 ∧ 0 ≤ a4_ ∧ a4_ < 8) ∨ ((S0_.2.2.1 55 (0 + ll_) a2_.toNat) = 3 ∧ 0 ≤ a4_ ∧ a4_ < 48 ∧ S0_.2.2.1 65 0 (3 * a3_ + 2).toNat ≠ -1)) (hcs_ : mcs (npd n9_ (S0_.2.2.1 59 0)) S0_) (hw_ : wo3 (1 + S0_.1 3 dd_ 1 + S0_.1 3 dd_ 2) n9_ ll_ S0_ a1_.toNat) : ∀ nn_ : Nat, (∀ (is_ : Int) (co_ : Int) (k_ : Int) (S_ : sm_S), gi S_ → ai_fr (sx_W vw_108n) S0_ S_ → ((is_ = (S0_.2.2.1 55 (0 + ll_) a2_.toNat) ∧ 0 ≤ co_ ∧ co_ ≤ 268435456 ∧ 0 ≤ k_ ∧ k_ ≤ is_) ∧ (S_ = S0_) ∧ (co_ < 268435456 → ∀ j_ : Nat, (j_ : Int) < k_ → wpt (1 + S0_.1 3 dd_ 1 + S0_.1 3 dd_ 2) n9_ (S0_.1 5 ll_ 2) (S0_.2.2.1 59 0) (S0_.2.2.1 60 0) (S0_.2.2.1 61 0) (S0_.2.2.1 65 0 (3 * a3_ + plo (S0_.2.2.1 55 (0 + ll_) a2_.toNat) (i_shr a4_ (S0_.2.2.1 55 (0 + ll_) a2_.toNat)) (j_ : Int)).toNat) (i_shr a4_ (j_ : Int) % 2)) ∧ (co_ = cco adc (pcc (1 + S0_.1 3 dd_ 1 + S0_.1 3 dd_ 2) ll_ S0_) (S0_.2.2.1 57 (0 + ll_) a2_.toNat) c_ (S0_.2.2.1 55 (0 + ll_) a2_.toNat).toNat a4_.toNat k_.toNat) ∧ True) → ((1000 - k_).toNat) < nn_ → sm_T (mt_P sc_) 2 108 (25, [some (.inr (.inr (some (6, 0)))), some (.inl a1_), some (.inl a2_), some (.inl a3_), some (.inl a4_), some (.inl is_), some (.inl co_), some (.inl k_), none, none], [], S_) (fun ro9_ => ∃ u_ S1_, ro9_ = (.inl u_, S1_, 0) ∧ vq_108n a1_ a2_ a3_ a4_ dd_ ll_ n9_ c_ b_ S0_ u_ S1_)) ∧ (∀ (is_ : Int) (co_ : Int) (k_ : Int) (S_ : sm_S), gi S_ → ai_fr (sx_W vw_108n) S0_ S_ → ((is_ = (S0_.2.2.1 55 (0 + ll_) a2_.toNat) ∧ 0 ≤ k_ ∧ k_ ≤ is_ ∧ 0 ≤ co_ ∧ co_ < 268435456) ∧ (∀ j_ : Nat, (j_ : Int) < is_ → wpt (1 + S0_.1 3 dd_ 1 + S0_.1 3 dd_ 2) n9_ (S0_.1 5 ll_ 2) (S0_.2.2.1 59 0) (S0_.2.2.1 60 0) (S0_.2.2.1 61 0) (S0_.2.2.1 65 0 (3 * a3_ + plo (S0_.2.2.1 55 (0 + ll_) a2_.toNat) (i_shr a4_ (S0_.2.2.1 55 (0 + ll_) a2_.toNat)) (j_ : Int)).toNat) (i_shr a4_ (j_ : Int) % 2)) ∧ (co_ = cco adc (pcc (1 + S0_.1 3 dd_ 1 + S0_.1 3 dd_ 2) ll_ S0_) (S0_.2.2.1 57 (0 + ll_) a2_.toNat) c_ (S0_.2.2.1 55 (0 + ll_) a2_.toNat).toNat a4_.toNat (S0_.2.2.1 55 (0 + ll_) a2_.toNat).toNat ∧ co_ < b_.1) ∧ (S_.2.2.1 61 0 a1_.toNat = co_ ∧ S_.2.2.1 62 0 a1_.toNat = a2_ ∧ S_.2.2.1 63 0 a1_.toNat = i_and a4_ (i_shl 1 is_ - 1)) ∧ (wfl a1_.toNat S0_ S_) ∧ (∀ j_ : Nat, (j_ : Int) < k_ → S_.2.2.1 64 0 (3 * a1_.toNat + j_) = (S0_.2.2.1 65 0 (3 * a3_ + plo (S0_.2.2.1 55 (0 + ll_) a2_.toNat) (i_shr a4_ (S0_.2.2.1 55 (0 + ll_) a2_.toNat)) (j_ : Int)).toNat)) ∧ True) → ((100 - k_).toNat) < nn_ → sm_T (mt_P sc_) 2 108 (193, [some (.inr (.inr (some (6, 0)))), some (.inl a1_), some (.inl a2_), some (.inl a3_), some (.inl a4_), some (.inl is_), some (.inl co_), some (.inl k_), none, none], [], S_) (fun ro9_ => ∃ u_ S1_, ro9_ = (.inl u_, S1_, 0) ∧ vq_108n a1_ a2_ a3_ a4_ dd_ ll_ n9_ c_ b_ S0_ u_ S1_)) := by
  intro nn_
  induction nn_ with
  | zero => exact ⟨fun _ _ _ _ _ _ _ h_ => absurd h_ (Nat.not_lt_zero _), fun _ _ _ _ _ _ _ h_ => absurd h_ (Nat.not_lt_zero _)⟩
  | succ nn_ ih_ =>
    refine ⟨?_, ?_⟩
    · rintro is_ co_ k_ S_ hI_ hF_ ⟨h0_, hS_, hp_, hco_, -⟩ hm_
      have f55_ : S_.2.2.1 55 (0 + ll_) = S0_.2.2.1 55 (0 + ll_) := fr_arr hF_ rfl
      have f65_ : S_.2.2.1 65 0 = S0_.2.2.1 65 0 := fr_arr hF_ rfl
      have f60_ : S_.2.2.1 60 0 = S0_.2.2.1 60 0 := fr_arr hF_ rfl
      have f1_ : S_.1 3 dd_ 1 = S0_.1 3 dd_ 1 := hF_.1 3 dd_ 1 rfl
      have f2_ : S_.1 3 dd_ 2 = S0_.1 3 dd_ 2 := hF_.1 3 dd_ 2 rfl
      have f5_ : S_.1 5 ll_ 2 = S0_.1 5 ll_ 2 := hF_.1 5 ll_ 2 rfl
      have ck_ : 0 ≤ S_.1 6 0 11 ∧ S_.1 6 0 11 ≤ 1024 := hI_.1 6 0 11 rfl
      have ek_ : S_.1 6 0 11 = S0_.1 6 0 11 := by rw [hS_]
      refine sm_T_go 2 (c1 := (29, [some (.inr (.inr (some (6, 0)))), some (.inl a1_), some (.inl a2_), some (.inl a3_), some (.inl a4_), some (.inl is_), some (.inl co_), some (.inl k_), none, none], [.inl is_, .inl k_], S_)) rfl ?_
      refine sm_T_br (a := 3) (z := 120) rfl (fun cx1_ => ?_) (fun cx1_ => ?_)
      · have cx1_ : is_ ≤ k_ := of_decide_eq_true cx1_
        refine sm_T_go 4 (c1 := (156, [some (.inr (.inr (some (6, 0)))), some (.inl a1_), some (.inl a2_), some (.inl a3_), some (.inl a4_), some (.inl is_), some (.inl co_), some (.inl k_), none, none], [.inl a1_, .inr (.inr (some (61, 0))), .inl co_], S_)) rfl ?_
        refine sm_T_iald (n := 2026) rfl rfl (by omega) (by omega) ?_
        have bx2_ : 0 ≤ S_.2.2.1 61 0 a1_.toNat ∧ S_.2.2.1 61 0 a1_.toNat ≤ 268435456 := hI_.2 61 0 _
        refine sm_T_br (a := 3) (z := 81) rfl (fun cx3_ => ?_) (fun cx3_ => ?_)
        · have cx3_ : (S_.2.2.1 61 0 a1_.toNat) ≤ co_ := of_decide_eq_true cx3_
          refine sm_T_rv rfl ⟨_, _, rfl, rfl, hI_, hF_, ?_⟩
          refine ⟨?_, ?_⟩
          · first | exact ⟨by (rw [hS_]; exact hw_), by (rw [hS_]; exact wfl_rf)⟩ | (refine ⟨Or.inr ⟨by rw [hv_.2.1]; exact h2_.1, by rw [hv_.1]; exact h0_.2.2.2.2, fun j_ hj_ => ?_⟩, hf_⟩; rw [hv_.2.1, f55_, ← h0_.1] at hj_; rw [f5_, fr_arr (t := 59) (i := 0) hF_ rfl, f60_, hn_ j_ (by omega), hv_.2.2, tbit (by omega) (by omega) (by omega)]; exact wpt_cg (hp_ j_ hj_) (by omega) (fun q9_ w9_ => (hf_.1 q9_ (by omega)).1))
          · first | (have y8_ := hS_; rw [show k_.toNat = (S0_.2.2.1 55 (0 + ll_) a2_.toNat).toNat by omega] at hco_; rw [← hco_]; unfold wst; rw [if_neg (by (rw [← hb_.1, ← hS_]; omega)), hS_]; exact hb_) | (have y8_ := hv_; rw [← hco_.1]; unfold wst; rw [if_pos hco_.2]; refine ⟨hv_.1, Or.inr ⟨h0_.2.2.2.2, hv_.2.1, ?_, fun j_ hj_ => ?_⟩⟩; (rw [hv_.2.2, h0_.1]; exact (vsp (by omega) (by omega)).2); (have hj_ : (j_ : Int) < S_.2.2.1 55 (0 + ll_) a2_.toNat := hj_; rw [f55_, ← h0_.1] at hj_; rw [hn_ j_ (by omega)]; have z9_ := cdn_e (k_ := (j_ : Int)) (p_ := plo (S0_.2.2.1 55 (0 + ll_) a2_.toNat) (i_shr a4_ (S0_.2.2.1 55 (0 + ll_) a2_.toNat)) (j_ : Int)) hcv_ h3_.1 (by omega) (by omega) rfl (by (have y9_ := vor (v_ := a4_) (e_ := (S0_.2.2.1 55 (0 + ll_) a2_.toNat)) (by omega) (by omega); have w9_ := plo_i (ip_ := (S0_.2.2.1 55 (0 + ll_) a2_.toNat)) (o_ := i_shr a4_ (S0_.2.2.1 55 (0 + ll_) a2_.toNat)) (k_ := (j_ : Int)) (by omega); have u9_ := iat_b (sz_ := (S0_.2.2.1 55 (0 + ll_) a2_.toNat)) (o_ := i_shr a4_ (S0_.2.2.1 55 (0 + ll_) a2_.toNat)) (k_ := (j_ : Int)) (by omega) (by omega) (by omega); rw [w9_]; omega)); rw [Int.toNat_natCast] at z9_; exact z9_.symm))
        · have cx3_ : ¬ ((S_.2.2.1 61 0 a1_.toNat) ≤ co_) := of_decide_eq_false cx3_
          refine sm_T_go 4 (c1 := (167, [some (.inr (.inr (some (6, 0)))), some (.inl a1_), some (.inl a2_), some (.inl a3_), some (.inl a4_), some (.inl is_), some (.inl co_), some (.inl k_), none, none], [.inl co_, .inl a1_, .inr (.inr (some (61, 0)))], S_)) rfl ?_
          refine sm_T_iast (n := 2026) rfl rfl (by omega) (by omega) ?_
          have hIx4_ : gi (sm_aI S_ 61 0 a1_.toNat co_) := gi_aI hI_ (show 0 ≤ co_ ∧ co_ ≤ 268435456 from ⟨by omega, by omega⟩)
          have hFx5_ : ai_fr (sx_W vw_108n) S0_ (sm_aI S_ 61 0 a1_.toNat co_) := ai_fr_tr hF_ (ai_fr_aI rfl)
          refine sm_T_go 4 (c1 := (174, [some (.inr (.inr (some (6, 0)))), some (.inl a1_), some (.inl a2_), some (.inl a3_), some (.inl a4_), some (.inl is_), some (.inl co_), some (.inl k_), none, none], [.inl a2_, .inl a1_, .inr (.inr (some (62, 0)))], sm_aI S_ 61 0 a1_.toNat co_)) rfl ?_
          refine sm_T_iast (n := 2026) rfl rfl (by omega) (by omega) ?_
          have hIx6_ : gi (sm_aI (sm_aI S_ 61 0 a1_.toNat co_) 62 0 a1_.toNat a2_) := gi_aI hIx4_ (show (-2) ≤ a2_ ∧ a2_ ≤ 11 from ⟨by omega, by omega⟩)
          have hFx7_ : ai_fr (sx_W vw_108n) S0_ (sm_aI (sm_aI S_ 61 0 a1_.toNat co_) 62 0 a1_.toNat a2_) := ai_fr_tr hFx5_ (ai_fr_aI rfl)
          refine sm_T_go 6 (c1 := (185, [some (.inr (.inr (some (6, 0)))), some (.inl a1_), some (.inl a2_), some (.inl a3_), some (.inl a4_), some (.inl is_), some (.inl co_), some (.inl k_), none, none], [.inl is_, .inl 1, .inl a4_, .inl a1_, .inr (.inr (some (63, 0)))], sm_aI (sm_aI S_ 61 0 a1_.toNat co_) 62 0 a1_.toNat a2_)) rfl ?_
          refine sm_T_bin (w := (i_shl 1 is_)) rfl rfl ?_ -- pc_ 185
          have vp8_ := vpw (e_ := is_) (by omega)
          refine sm_T_go 1 (c1 := (187, [some (.inr (.inr (some (6, 0)))), some (.inl a1_), some (.inl a2_), some (.inl a3_), some (.inl a4_), some (.inl is_), some (.inl co_), some (.inl k_), none, none], [.inl 1, .inl (i_shl 1 is_), .inl a4_, .inl a1_, .inr (.inr (some (63, 0)))], sm_aI (sm_aI S_ 61 0 a1_.toNat co_) 62 0 a1_.toNat a2_)) rfl ?_
          refine sm_T_bin (w := (i_shl 1 is_) - 1) rfl (bi_sub (by omega) (by omega) (by omega)) ?_ -- pc_ 187
          refine sm_T_bin (w := (i_and a4_ ((i_shl 1 is_) - 1))) rfl rfl ?_ -- pc_ 188
          have bx9_ := i_and_y a4_ (y_ := ((i_shl 1 is_) - 1)) (by omega)
          refine sm_T_iast (n := 2026) rfl rfl (by omega) (by omega) ?_
          have hIx10_ : gi (sm_aI (sm_aI (sm_aI S_ 61 0 a1_.toNat co_) 62 0 a1_.toNat a2_) 63 0 a1_.toNat (i_and a4_ ((i_shl 1 is_) - 1))) := gi_aI hIx6_ (show 0 ≤ (i_and a4_ ((i_shl 1 is_) - 1)) ∧ (i_and a4_ ((i_shl 1 is_) - 1)) ≤ 15 from ⟨by omega, by omega⟩)
          have hFx11_ : ai_fr (sx_W vw_108n) S0_ (sm_aI (sm_aI (sm_aI S_ 61 0 a1_.toNat co_) 62 0 a1_.toNat a2_) 63 0 a1_.toNat (i_and a4_ ((i_shl 1 is_) - 1))) := ai_fr_tr hFx7_ (ai_fr_aI rfl)
          refine sm_T_go 2 (c1 := (193, [some (.inr (.inr (some (6, 0)))), some (.inl a1_), some (.inl a2_), some (.inl a3_), some (.inl a4_), some (.inl is_), some (.inl co_), some (.inl 0), none, none], [], sm_aI (sm_aI (sm_aI S_ 61 0 a1_.toNat co_) 62 0 a1_.toNat a2_) 63 0 a1_.toNat (i_and a4_ ((i_shl 1 is_) - 1)))) rfl ?_
          refine ih_.2 is_ co_ 0 (sm_aI (sm_aI (sm_aI S_ 61 0 a1_.toNat co_) 62 0 a1_.toNat a2_) 63 0 a1_.toNat (i_and a4_ ((i_shl 1 is_) - 1))) hIx10_ hFx11_ ⟨?_, ?_, ?_, ?_, ?_, ?_, trivial⟩ ?_
          · omega
          · (intro j_ hj_; exact hp_ (by omega) j_ (by omega))
          · rw [show k_.toNat = (S0_.2.2.1 55 (0 + ll_) a2_.toNat).toNat by omega] at hco_
            exact ⟨hco_, by (rw [← hb_.1, ← hS_]; omega)⟩
          · (rw [rd_ne (by decide), rd_ne (by decide), rd_eq, if_pos rfl, rd_ne (by decide), rd_eq, if_pos rfl, rd_eq, if_pos rfl]; exact ⟨rfl, rfl, rfl⟩)
          · refine ⟨fun j_ hj_ => ?_, fun j_ hj_ => ?_⟩
            · rw [hS_, rd_ne (by decide), rd_ne (by decide), rd_eq, if_neg hj_, rd_ne (by decide), rd_eq, if_neg hj_, rd_ne (by decide), rd_eq, if_neg hj_, rd_ne (by decide), rd_ne (by decide)]; exact ⟨rfl, rfl, rfl⟩
            · rw [hS_, rd_ne (by decide), rd_ne (by decide), rd_ne (by decide)]
          · (intro j_ hj_; exfalso; omega)
          · omega
      · have cx1_ : ¬ (is_ ≤ k_) := of_decide_eq_false cx1_
        refine sm_T_go 4 (c1 := (38, [some (.inr (.inr (some (6, 0)))), some (.inl a1_), some (.inl a2_), some (.inl a3_), some (.inl a4_), some (.inl is_), some (.inl co_), some (.inl k_), none, none], [.inl a3_, .inl 3, .inr (.inr (some (65, 0)))], S_)) rfl ?_
        refine sm_T_bin (w := 3 * a3_) rfl (bi_mul (by omega) (by omega) (by omega)) ?_ -- pc_ 38
        refine sm_T_go 3 (c1 := (45, [some (.inr (.inr (some (6, 0)))), some (.inl a1_), some (.inl a2_), some (.inl a3_), some (.inl a4_), some (.inl is_), some (.inl co_), some (.inl k_), none, none], [.inl is_, .inl a4_, .inl is_, .inl (3 * a3_), .inr (.inr (some (65, 0)))], S_)) rfl ?_
        refine sm_T_bin (w := (i_shr a4_ is_)) rfl rfl ?_ -- pc_ 45
        have vo9_ := vor (v_ := a4_) (e_ := is_) (by omega) (by omega)
        refine sm_T_go 1 (c1 := (48, [some (.inr (.inr (some (6, 0)))), some (.inl a1_), some (.inl a2_), some (.inl a3_), some (.inl a4_), some (.inl is_), some (.inl co_), some (.inl k_), none, none], [.inl k_, .inl (i_shr a4_ is_), .inl is_, .inl (3 * a3_), .inr (.inr (some (65, 0)))], S_)) rfl ?_
        refine sm_T_cal (d1 := 0) (Q1 := vq_98 is_ (i_shr a4_ is_) k_ S_) rfl rfl (by decide) (vc_98 is_ (i_shr a4_ is_) k_ S_ hI_ (by omega)) (fun u_ Sx13_ px16_ => ?_)
        obtain ⟨rfl, vx18_, rfl, px16_⟩ := px16_
        have p48_ := px16_.1
        have q48_ : vx18_ = plo (S0_.2.2.1 55 (0 + ll_) a2_.toNat) (i_shr a4_ (S0_.2.2.1 55 (0 + ll_) a2_.toNat)) k_ := by (have z9_ := px16_.2; rw [h0_.1] at z9_; exact z9_)
        have nx9_ : npd n9_ (S0_.2.2.1 59 0) (S0_.2.2.1 65 0 (3 * a3_ + vx18_).toNat) := mcs_b hcs_ h3_ (by omega) (fun u9_ => by rcases his_ with w9_ | w9_; (exfalso; omega); exact w9_.2.2.2)
        have nx1_ := nx9_.1
        have nx2_ := nx9_.2.1
        have nx0 : S_.2.2.1 65 0 (3 * a3_ + vx18_).toNat = S0_.2.2.1 65 0 (3 * a3_ + vx18_).toNat := by rw [f65_]
        have xk9_ : S0_.2.2.1 65 0 (3 * a3_ + vx18_).toNat = (S0_.2.2.1 65 0 (3 * a3_ + plo (S0_.2.2.1 55 (0 + ll_) a2_.toNat) (i_shr a4_ (S0_.2.2.1 55 (0 + ll_) a2_.toNat)) k_).toNat) := by rw [q48_]
        have cd9_ : cdn c_ (S0_.2.2.1 55 (0 + ll_) a2_.toNat).toNat (a4_.toNat / 2 ^ (S0_.2.2.1 55 (0 + ll_) a2_.toNat).toNat) k_.toNat = S0_.2.2.1 65 0 (3 * a3_ + vx18_).toNat := cdn_e hcv_ h3_.1 (by omega) (by omega) q48_ (by omega)
        refine sm_T_bin (w := 3 * a3_ + vx18_) rfl (bi_add (by omega) (by omega) (by omega)) ?_ -- pc_ 51
        refine sm_T_iald (n := 3072) rfl rfl (by omega) (by omega) ?_
        have bx19_ : (-1) ≤ S_.2.2.1 65 0 (3 * a3_ + vx18_).toNat ∧ S_.2.2.1 65 0 (3 * a3_ + vx18_).toNat ≤ 1012 := hI_.2 65 0 _
        refine sm_T_go 3 (c1 := (59, [some (.inr (.inr (some (6, 0)))), some (.inl a1_), some (.inl a2_), some (.inl a3_), some (.inl a4_), some (.inl is_), some (.inl co_), some (.inl k_), some (.inl (S_.2.2.1 65 0 (3 * a3_ + vx18_).toNat)), none], [.inl k_, .inl a4_], S_)) rfl ?_
        refine sm_T_bin (w := (i_shr a4_ k_)) rfl rfl ?_ -- pc_ 59
        first | have bx20_ := i_shr_p (x_ := a4_) (e_ := k_) (by omega) (by omega) (by omega) | have bx20_ := i_shr_n a4_ k_
        refine sm_T_go 1 (c1 := (61, [some (.inr (.inr (some (6, 0)))), some (.inl a1_), some (.inl a2_), some (.inl a3_), some (.inl a4_), some (.inl is_), some (.inl co_), some (.inl k_), some (.inl (S_.2.2.1 65 0 (3 * a3_ + vx18_).toNat)), none], [.inl 1, .inl (i_shr a4_ k_)], S_)) rfl ?_
        refine sm_T_bin (w := ((i_shr a4_ k_) % 2)) rfl (bi_msk (k := 1) (by decide)) ?_ -- pc_ 61
        refine sm_T_go 3 (c1 := (67, [some (.inr (.inr (some (6, 0)))), some (.inl a1_), some (.inl a2_), some (.inl a3_), some (.inl a4_), some (.inl is_), some (.inl co_), some (.inl k_), some (.inl (S_.2.2.1 65 0 (3 * a3_ + vx18_).toNat)), some (.inl ((i_shr a4_ k_) % 2))], [.inl (S_.2.2.1 65 0 (3 * a3_ + vx18_).toNat), .inr (.inr (some (6, 0)))], S_)) rfl ?_
        refine sm_T_cal (d1 := 1) (Q1 := vq_94 (S_.2.2.1 65 0 (3 * a3_ + vx18_).toNat) dd_ S_) rfl rfl (by decide) (vc_94 (S_.2.2.1 65 0 (3 * a3_ + vx18_).toNat) dd_ S_ hI_ (by exact (hF_.2.1 6 0 0 rfl).trans hd_) (by omega)) (fun u_ Sx21_ px24_ => ?_)
        obtain ⟨rfl, vx26_, rfl, px24_⟩ := px24_
        have lf9_ := px24_
        rw [f1_, f2_, f60_] at lf9_
        refine sm_T_b0 (a := 1) (z := 23) rfl (fun cx27_ => ?_) (fun cx27_ => ?_)
        · have cx27_ : vx26_ ≠ 0 := of_decide_eq_true cx27_
          refine sm_T_go 1 (c1 := (95, [some (.inr (.inr (some (6, 0)))), some (.inl a1_), some (.inl a2_), some (.inl a3_), some (.inl a4_), some (.inl is_), some (.inl co_), some (.inl k_), some (.inl (S_.2.2.1 65 0 (3 * a3_ + vx18_).toNat)), some (.inl ((i_shr a4_ k_) % 2))], [.inl ((i_shr a4_ k_) % 2)], S_)) rfl ?_
          refine sm_T_b0 (a := 0) (z := 39) rfl (fun cx28_ => ?_) (fun cx28_ => ?_)
          · have cx28_ : ((i_shr a4_ k_) % 2) = 0 := of_decide_eq_true cx28_
            refine sm_T_go 1 (c1 := (136, [some (.inr (.inr (some (6, 0)))), some (.inl a1_), some (.inl a2_), some (.inl a3_), some (.inl a4_), some (.inl is_), some (.inl co_), some (.inl k_), some (.inl (S_.2.2.1 65 0 (3 * a3_ + vx18_).toNat)), some (.inl ((i_shr a4_ k_) % 2))], [.inl co_], S_)) rfl ?_
            refine sm_T_nt (u := some (.inl 268435456)) (S1 := S_) rfl rfl rfl ?_
            refine sm_T_nt (u := some (.inl (sm_mn co_ 268435456))) (S1 := S_) rfl rfl rfl ?_
            have bx29_ := sm_mn_d co_ 268435456
            refine sm_T_go 1 (c1 := (143, [some (.inr (.inr (some (6, 0)))), some (.inl a1_), some (.inl a2_), some (.inl a3_), some (.inl a4_), some (.inl is_), some (.inl (sm_mn co_ 268435456)), some (.inl k_), some (.inl (S_.2.2.1 65 0 (3 * a3_ + vx18_).toNat)), some (.inl ((i_shr a4_ k_) % 2))], [], S_)) rfl ?_
            refine sm_T_inc (a := 7) (z := 1) (v := k_) (w := k_ + 1) rfl rfl (by omega) (by omega) (by omega) ?_ -- pc_ 143
            refine sm_T_go 1 (c1 := (25, [some (.inr (.inr (some (6, 0)))), some (.inl a1_), some (.inl a2_), some (.inl a3_), some (.inl a4_), some (.inl is_), some (.inl (sm_mn co_ 268435456)), some (.inl (k_ + 1)), some (.inl (S_.2.2.1 65 0 (3 * a3_ + vx18_).toNat)), some (.inl ((i_shr a4_ k_) % 2))], [], S_)) rfl ?_
            refine sm_T_wk [some (.inr (.inr (some (6, 0)))), some (.inl a1_), some (.inl a2_), some (.inl a3_), some (.inl a4_), some (.inl is_), some (.inl (sm_mn co_ 268435456)), some (.inl (k_ + 1)), none, none] (by exact ⟨rfl, rfl, rfl, rfl, rfl, rfl, rfl, rfl, trivial⟩) ?_
            refine ih_.1 is_ (sm_mn co_ 268435456) (k_ + 1) S_ hI_ hF_ ⟨?_, ?_, ?_, ?_, trivial⟩ ?_
            · omega
            · exact hS_
            · intro lt9_ j_ hj_
              by_cases y9_ : (j_ : Int) = k_
              · rw [y9_, ← xk9_]
                have lf8_ := lf9_
                rw [nx0] at lf8_
                refine ⟨nx9_, fun q9_ => ?_, fun q9_ => ?_⟩
                · have q8_ := q9_.1; have q7_ := q9_.2; simp only [hS_] at *; omega
                · have q8_ := q9_.1; have q7_ := q9_.2; simp only [hS_] at *; first | omega | (exfalso; omega)
              · exact hp_ (by simp only [hS_] at *; omega) j_ (by omega)
            · have tn9_ := tn_k (v_ := a4_) (k_ := k_) (by omega) (by omega)
              have lf8_ := lf9_
              rw [nx0] at lf8_
              subst hS_
              rw [show (k_ + 1).toNat = k_.toNat + 1 by omega, cco_s, ← hco_, cd9_, ← tn9_]
              unfold pcc
              first | rw [if_pos (by omega)] | rw [if_neg (by omega), if_pos (by omega)] | rw [if_neg (by omega), if_neg (by omega), if_pos (by omega)] | rw [if_neg (by omega), if_neg (by omega), if_neg (by omega)]
              unfold adc
              split <;> omega
            · omega
          · have cx28_ : ¬ (((i_shr a4_ k_) % 2) = 0) := of_decide_eq_false cx28_
            refine sm_T_go 2 (c1 := (101, [some (.inr (.inr (some (6, 0)))), some (.inl a1_), some (.inl a2_), some (.inl a3_), some (.inl a4_), some (.inl is_), some (.inl co_), some (.inl k_), some (.inl (S_.2.2.1 65 0 (3 * a3_ + vx18_).toNat)), some (.inl ((i_shr a4_ k_) % 2))], [.inr (.inr (some (6, 0))), .inl co_], S_)) rfl ?_
            refine sm_T_gr rfl rfl ((hF_.2.1 6 0 1 rfl).trans hc_) ?_
            have bx30_ : (-1) ≤ S_.1 5 ll_ 2 ∧ S_.1 5 ll_ 2 ≤ 11 := hI_.1 5 ll_ 2 rfl
            refine sm_T_go 2 (c1 := (108, [some (.inr (.inr (some (6, 0)))), some (.inl a1_), some (.inl a2_), some (.inl a3_), some (.inl a4_), some (.inl is_), some (.inl co_), some (.inl k_), some (.inl (S_.2.2.1 65 0 (3 * a3_ + vx18_).toNat)), some (.inl ((i_shr a4_ k_) % 2))], [.inl (-1), .inl (S_.1 5 ll_ 2), .inl co_], S_)) rfl ?_
            refine sm_T_br (a := 1) (z := 8) rfl (fun cx31_ => ?_) (fun cx31_ => ?_)
            · have cx31_ : (S_.1 5 ll_ 2) ≠ (-1) := of_decide_eq_true cx31_
              refine sm_T_go 1 (c1 := (117, [some (.inr (.inr (some (6, 0)))), some (.inl a1_), some (.inl a2_), some (.inl a3_), some (.inl a4_), some (.inl is_), some (.inl co_), some (.inl k_), some (.inl (S_.2.2.1 65 0 (3 * a3_ + vx18_).toNat)), some (.inl ((i_shr a4_ k_) % 2))], [.inr (.inr (some (6, 0))), .inl co_], S_)) rfl ?_
              refine sm_T_gr rfl rfl ((hF_.2.1 6 0 1 rfl).trans hc_) ?_
              refine sm_T_go 2 (c1 := (124, [some (.inr (.inr (some (6, 0)))), some (.inl a1_), some (.inl a2_), some (.inl a3_), some (.inl a4_), some (.inl is_), some (.inl co_), some (.inl k_), some (.inl (S_.2.2.1 65 0 (3 * a3_ + vx18_).toNat)), some (.inl ((i_shr a4_ k_) % 2))], [.inr (.inr (some (6, 0))), .inr (.inr (some (57, (0 + ll_)))), .inl co_], S_)) rfl ?_
              refine sm_T_gr rfl rfl ((hF_.2.1 6 0 1 rfl).trans hc_) ?_
              refine sm_T_go 1 (c1 := (130, [some (.inr (.inr (some (6, 0)))), some (.inl a1_), some (.inl a2_), some (.inl a3_), some (.inl a4_), some (.inl is_), some (.inl co_), some (.inl k_), some (.inl (S_.2.2.1 65 0 (3 * a3_ + vx18_).toNat)), some (.inl ((i_shr a4_ k_) % 2))], [.inl (S_.1 5 ll_ 2), .inr (.inr (some (57, (0 + ll_)))), .inl co_], S_)) rfl ?_
              refine sm_T_iald (n := 12) rfl rfl (by omega) (by omega) ?_
              have bx32_ : 0 ≤ S_.2.2.1 57 (0 + ll_) (S_.1 5 ll_ 2).toNat ∧ S_.2.2.1 57 (0 + ll_) (S_.1 5 ll_ 2).toNat ≤ 1000 := hI_.2 57 (0 + ll_) _
              refine sm_T_bin (w := co_ + (S_.2.2.1 57 (0 + ll_) (S_.1 5 ll_ 2).toNat)) rfl (bi_add (by omega) (by omega) (by omega)) ?_ -- pc_ 131
              refine sm_T_go 2 (c1 := (136, [some (.inr (.inr (some (6, 0)))), some (.inl a1_), some (.inl a2_), some (.inl a3_), some (.inl a4_), some (.inl is_), some (.inl (co_ + (S_.2.2.1 57 (0 + ll_) (S_.1 5 ll_ 2).toNat))), some (.inl k_), some (.inl (S_.2.2.1 65 0 (3 * a3_ + vx18_).toNat)), some (.inl ((i_shr a4_ k_) % 2))], [.inl (co_ + (S_.2.2.1 57 (0 + ll_) (S_.1 5 ll_ 2).toNat))], S_)) rfl ?_
              refine sm_T_nt (u := some (.inl 268435456)) (S1 := S_) rfl rfl rfl ?_
              refine sm_T_nt (u := some (.inl (sm_mn (co_ + (S_.2.2.1 57 (0 + ll_) (S_.1 5 ll_ 2).toNat)) 268435456))) (S1 := S_) rfl rfl rfl ?_
              have bx33_ := sm_mn_d (co_ + (S_.2.2.1 57 (0 + ll_) (S_.1 5 ll_ 2).toNat)) 268435456
              refine sm_T_go 1 (c1 := (143, [some (.inr (.inr (some (6, 0)))), some (.inl a1_), some (.inl a2_), some (.inl a3_), some (.inl a4_), some (.inl is_), some (.inl (sm_mn (co_ + (S_.2.2.1 57 (0 + ll_) (S_.1 5 ll_ 2).toNat)) 268435456)), some (.inl k_), some (.inl (S_.2.2.1 65 0 (3 * a3_ + vx18_).toNat)), some (.inl ((i_shr a4_ k_) % 2))], [], S_)) rfl ?_
              refine sm_T_inc (a := 7) (z := 1) (v := k_) (w := k_ + 1) rfl rfl (by omega) (by omega) (by omega) ?_ -- pc_ 143
              refine sm_T_go 1 (c1 := (25, [some (.inr (.inr (some (6, 0)))), some (.inl a1_), some (.inl a2_), some (.inl a3_), some (.inl a4_), some (.inl is_), some (.inl (sm_mn (co_ + (S_.2.2.1 57 (0 + ll_) (S_.1 5 ll_ 2).toNat)) 268435456)), some (.inl (k_ + 1)), some (.inl (S_.2.2.1 65 0 (3 * a3_ + vx18_).toNat)), some (.inl ((i_shr a4_ k_) % 2))], [], S_)) rfl ?_
              refine sm_T_wk [some (.inr (.inr (some (6, 0)))), some (.inl a1_), some (.inl a2_), some (.inl a3_), some (.inl a4_), some (.inl is_), some (.inl (sm_mn (co_ + (S_.2.2.1 57 (0 + ll_) (S_.1 5 ll_ 2).toNat)) 268435456)), some (.inl (k_ + 1)), none, none] (by exact ⟨rfl, rfl, rfl, rfl, rfl, rfl, rfl, rfl, trivial⟩) ?_
              refine ih_.1 is_ (sm_mn (co_ + (S_.2.2.1 57 (0 + ll_) (S_.1 5 ll_ 2).toNat)) 268435456) (k_ + 1) S_ hI_ hF_ ⟨?_, ?_, ?_, ?_, trivial⟩ ?_
              · omega
              · exact hS_
              · intro lt9_ j_ hj_
                by_cases y9_ : (j_ : Int) = k_
                · rw [y9_, ← xk9_]
                  have lf8_ := lf9_
                  rw [nx0] at lf8_
                  refine ⟨nx9_, fun q9_ => ?_, fun q9_ => ?_⟩
                  · have q8_ := q9_.1; have q7_ := q9_.2; simp only [hS_] at *; omega
                  · have q8_ := q9_.1; have q7_ := q9_.2; simp only [hS_] at *; first | omega | (exfalso; omega)
                · exact hp_ (by simp only [hS_] at *; omega) j_ (by omega)
              · have tn9_ := tn_k (v_ := a4_) (k_ := k_) (by omega) (by omega)
                have lf8_ := lf9_
                rw [nx0] at lf8_
                subst hS_
                rw [show (k_ + 1).toNat = k_.toNat + 1 by omega, cco_s, ← hco_, cd9_, ← tn9_]
                unfold pcc
                first | rw [if_pos (by omega)] | rw [if_neg (by omega), if_pos (by omega)] | rw [if_neg (by omega), if_neg (by omega), if_pos (by omega)] | rw [if_neg (by omega), if_neg (by omega), if_neg (by omega)]
                unfold adc
                split <;> omega
              · omega
            · have cx31_ : ¬ ((S_.1 5 ll_ 2) ≠ (-1)) := of_decide_eq_false cx31_
              refine sm_T_nt (u := some (.inl 268435456)) (S1 := S_) rfl rfl rfl ?_
              refine sm_T_go 1 (c1 := (131, [some (.inr (.inr (some (6, 0)))), some (.inl a1_), some (.inl a2_), some (.inl a3_), some (.inl a4_), some (.inl is_), some (.inl co_), some (.inl k_), some (.inl (S_.2.2.1 65 0 (3 * a3_ + vx18_).toNat)), some (.inl ((i_shr a4_ k_) % 2))], [.inl 268435456, .inl co_], S_)) rfl ?_
              refine sm_T_bin (w := co_ + 268435456) rfl (bi_add (by omega) (by omega) (by omega)) ?_ -- pc_ 131
              refine sm_T_go 2 (c1 := (136, [some (.inr (.inr (some (6, 0)))), some (.inl a1_), some (.inl a2_), some (.inl a3_), some (.inl a4_), some (.inl is_), some (.inl (co_ + 268435456)), some (.inl k_), some (.inl (S_.2.2.1 65 0 (3 * a3_ + vx18_).toNat)), some (.inl ((i_shr a4_ k_) % 2))], [.inl (co_ + 268435456)], S_)) rfl ?_
              refine sm_T_nt (u := some (.inl 268435456)) (S1 := S_) rfl rfl rfl ?_
              refine sm_T_nt (u := some (.inl (sm_mn (co_ + 268435456) 268435456))) (S1 := S_) rfl rfl rfl ?_
              have bx34_ := sm_mn_d (co_ + 268435456) 268435456
              refine sm_T_go 1 (c1 := (143, [some (.inr (.inr (some (6, 0)))), some (.inl a1_), some (.inl a2_), some (.inl a3_), some (.inl a4_), some (.inl is_), some (.inl (sm_mn (co_ + 268435456) 268435456)), some (.inl k_), some (.inl (S_.2.2.1 65 0 (3 * a3_ + vx18_).toNat)), some (.inl ((i_shr a4_ k_) % 2))], [], S_)) rfl ?_
              refine sm_T_inc (a := 7) (z := 1) (v := k_) (w := k_ + 1) rfl rfl (by omega) (by omega) (by omega) ?_ -- pc_ 143
              refine sm_T_go 1 (c1 := (25, [some (.inr (.inr (some (6, 0)))), some (.inl a1_), some (.inl a2_), some (.inl a3_), some (.inl a4_), some (.inl is_), some (.inl (sm_mn (co_ + 268435456) 268435456)), some (.inl (k_ + 1)), some (.inl (S_.2.2.1 65 0 (3 * a3_ + vx18_).toNat)), some (.inl ((i_shr a4_ k_) % 2))], [], S_)) rfl ?_
              refine sm_T_wk [some (.inr (.inr (some (6, 0)))), some (.inl a1_), some (.inl a2_), some (.inl a3_), some (.inl a4_), some (.inl is_), some (.inl (sm_mn (co_ + 268435456) 268435456)), some (.inl (k_ + 1)), none, none] (by exact ⟨rfl, rfl, rfl, rfl, rfl, rfl, rfl, rfl, trivial⟩) ?_
              refine ih_.1 is_ (sm_mn (co_ + 268435456) 268435456) (k_ + 1) S_ hI_ hF_ ⟨?_, ?_, ?_, ?_, trivial⟩ ?_
              · omega
              · exact hS_
              · intro lt9_ j_ hj_
                by_cases y9_ : (j_ : Int) = k_
                · rw [y9_, ← xk9_]
                  have lf8_ := lf9_
                  rw [nx0] at lf8_
                  refine ⟨nx9_, fun q9_ => ?_, fun q9_ => ?_⟩
                  · have q8_ := q9_.1; have q7_ := q9_.2; simp only [hS_] at *; omega
                  · have q8_ := q9_.1; have q7_ := q9_.2; simp only [hS_] at *; first | omega | (exfalso; omega)
                · exact hp_ (by simp only [hS_] at *; omega) j_ (by omega)
              · have tn9_ := tn_k (v_ := a4_) (k_ := k_) (by omega) (by omega)
                have lf8_ := lf9_
                rw [nx0] at lf8_
                subst hS_
                rw [show (k_ + 1).toNat = k_.toNat + 1 by omega, cco_s, ← hco_, cd9_, ← tn9_]
                unfold pcc
                first | rw [if_pos (by omega)] | rw [if_neg (by omega), if_pos (by omega)] | rw [if_neg (by omega), if_neg (by omega), if_pos (by omega)] | rw [if_neg (by omega), if_neg (by omega), if_neg (by omega)]
                unfold adc
                split <;> omega
              · omega
        · have cx27_ : ¬ (vx26_ ≠ 0) := of_decide_eq_false cx27_
          refine sm_T_go 5 (c1 := (82, [some (.inr (.inr (some (6, 0)))), some (.inl a1_), some (.inl a2_), some (.inl a3_), some (.inl a4_), some (.inl is_), some (.inl co_), some (.inl k_), some (.inl (S_.2.2.1 65 0 (3 * a3_ + vx18_).toNat)), some (.inl ((i_shr a4_ k_) % 2))], [.inl (S_.2.2.1 65 0 (3 * a3_ + vx18_).toNat), .inl 2, .inr (.inr (some (61, 0))), .inl co_], S_)) rfl ?_
          refine sm_T_bin (w := 2 * (S_.2.2.1 65 0 (3 * a3_ + vx18_).toNat)) rfl (bi_mul (by omega) (by omega) (by omega)) ?_ -- pc_ 82
          refine sm_T_go 1 (c1 := (85, [some (.inr (.inr (some (6, 0)))), some (.inl a1_), some (.inl a2_), some (.inl a3_), some (.inl a4_), some (.inl is_), some (.inl co_), some (.inl k_), some (.inl (S_.2.2.1 65 0 (3 * a3_ + vx18_).toNat)), some (.inl ((i_shr a4_ k_) % 2))], [.inl ((i_shr a4_ k_) % 2), .inl (2 * (S_.2.2.1 65 0 (3 * a3_ + vx18_).toNat)), .inr (.inr (some (61, 0))), .inl co_], S_)) rfl ?_
          refine sm_T_bin (w := 2 * (S_.2.2.1 65 0 (3 * a3_ + vx18_).toNat) + ((i_shr a4_ k_) % 2)) rfl (bi_add (by omega) (by omega) (by omega)) ?_ -- pc_ 85
          refine sm_T_iald (n := 2026) rfl rfl (by omega) (by omega) ?_
          have bx35_ : 0 ≤ S_.2.2.1 61 0 (2 * (S_.2.2.1 65 0 (3 * a3_ + vx18_).toNat) + ((i_shr a4_ k_) % 2)).toNat ∧ S_.2.2.1 61 0 (2 * (S_.2.2.1 65 0 (3 * a3_ + vx18_).toNat) + ((i_shr a4_ k_) % 2)).toNat ≤ 268435456 := hI_.2 61 0 _
          refine sm_T_bin (w := co_ + (S_.2.2.1 61 0 (2 * (S_.2.2.1 65 0 (3 * a3_ + vx18_).toNat) + ((i_shr a4_ k_) % 2)).toNat)) rfl (bi_add (by omega) (by omega) (by omega)) ?_ -- pc_ 87
          refine sm_T_go 3 (c1 := (136, [some (.inr (.inr (some (6, 0)))), some (.inl a1_), some (.inl a2_), some (.inl a3_), some (.inl a4_), some (.inl is_), some (.inl (co_ + (S_.2.2.1 61 0 (2 * (S_.2.2.1 65 0 (3 * a3_ + vx18_).toNat) + ((i_shr a4_ k_) % 2)).toNat))), some (.inl k_), some (.inl (S_.2.2.1 65 0 (3 * a3_ + vx18_).toNat)), some (.inl ((i_shr a4_ k_) % 2))], [.inl (co_ + (S_.2.2.1 61 0 (2 * (S_.2.2.1 65 0 (3 * a3_ + vx18_).toNat) + ((i_shr a4_ k_) % 2)).toNat))], S_)) rfl ?_
          refine sm_T_nt (u := some (.inl 268435456)) (S1 := S_) rfl rfl rfl ?_
          refine sm_T_nt (u := some (.inl (sm_mn (co_ + (S_.2.2.1 61 0 (2 * (S_.2.2.1 65 0 (3 * a3_ + vx18_).toNat) + ((i_shr a4_ k_) % 2)).toNat)) 268435456))) (S1 := S_) rfl rfl rfl ?_
          have bx36_ := sm_mn_d (co_ + (S_.2.2.1 61 0 (2 * (S_.2.2.1 65 0 (3 * a3_ + vx18_).toNat) + ((i_shr a4_ k_) % 2)).toNat)) 268435456
          refine sm_T_go 1 (c1 := (143, [some (.inr (.inr (some (6, 0)))), some (.inl a1_), some (.inl a2_), some (.inl a3_), some (.inl a4_), some (.inl is_), some (.inl (sm_mn (co_ + (S_.2.2.1 61 0 (2 * (S_.2.2.1 65 0 (3 * a3_ + vx18_).toNat) + ((i_shr a4_ k_) % 2)).toNat)) 268435456)), some (.inl k_), some (.inl (S_.2.2.1 65 0 (3 * a3_ + vx18_).toNat)), some (.inl ((i_shr a4_ k_) % 2))], [], S_)) rfl ?_
          refine sm_T_inc (a := 7) (z := 1) (v := k_) (w := k_ + 1) rfl rfl (by omega) (by omega) (by omega) ?_ -- pc_ 143
          refine sm_T_go 1 (c1 := (25, [some (.inr (.inr (some (6, 0)))), some (.inl a1_), some (.inl a2_), some (.inl a3_), some (.inl a4_), some (.inl is_), some (.inl (sm_mn (co_ + (S_.2.2.1 61 0 (2 * (S_.2.2.1 65 0 (3 * a3_ + vx18_).toNat) + ((i_shr a4_ k_) % 2)).toNat)) 268435456)), some (.inl (k_ + 1)), some (.inl (S_.2.2.1 65 0 (3 * a3_ + vx18_).toNat)), some (.inl ((i_shr a4_ k_) % 2))], [], S_)) rfl ?_
          refine sm_T_wk [some (.inr (.inr (some (6, 0)))), some (.inl a1_), some (.inl a2_), some (.inl a3_), some (.inl a4_), some (.inl is_), some (.inl (sm_mn (co_ + (S_.2.2.1 61 0 (2 * (S_.2.2.1 65 0 (3 * a3_ + vx18_).toNat) + ((i_shr a4_ k_) % 2)).toNat)) 268435456)), some (.inl (k_ + 1)), none, none] (by exact ⟨rfl, rfl, rfl, rfl, rfl, rfl, rfl, rfl, trivial⟩) ?_
          refine ih_.1 is_ (sm_mn (co_ + (S_.2.2.1 61 0 (2 * (S_.2.2.1 65 0 (3 * a3_ + vx18_).toNat) + ((i_shr a4_ k_) % 2)).toNat)) 268435456) (k_ + 1) S_ hI_ hF_ ⟨?_, ?_, ?_, ?_, trivial⟩ ?_
          · omega
          · exact hS_
          · intro lt9_ j_ hj_
            by_cases y9_ : (j_ : Int) = k_
            · rw [y9_, ← xk9_]
              have lf8_ := lf9_
              rw [nx0] at lf8_
              refine ⟨nx9_, fun q9_ => ?_, fun q9_ => ?_⟩
              · have q8_ := q9_.1; have q7_ := q9_.2; simp only [hS_] at *; omega
              · have q8_ := q9_.1; have q7_ := q9_.2; simp only [hS_] at *; first | omega | (exfalso; omega)
            · exact hp_ (by simp only [hS_] at *; omega) j_ (by omega)
          · have tn9_ := tn_k (v_ := a4_) (k_ := k_) (by omega) (by omega)
            have lf8_ := lf9_
            rw [nx0] at lf8_
            subst hS_
            rw [show (k_ + 1).toNat = k_.toNat + 1 by omega, cco_s, ← hco_, cd9_, ← tn9_]
            unfold pcc
            first | rw [if_pos (by omega)] | rw [if_neg (by omega), if_pos (by omega)] | rw [if_neg (by omega), if_neg (by omega), if_pos (by omega)] | rw [if_neg (by omega), if_neg (by omega), if_neg (by omega)]
            unfold adc
            split <;> omega
          · omega
    · rintro is_ co_ k_ S_ hI_ hF_ ⟨h0_, hp_, hco_, hv_, hf_, hn_, -⟩ hm_
      have f55_ : S_.2.2.1 55 (0 + ll_) = S0_.2.2.1 55 (0 + ll_) := fr_arr hF_ rfl
      have f65_ : S_.2.2.1 65 0 = S0_.2.2.1 65 0 := fr_arr hF_ rfl
      have f60_ : S_.2.2.1 60 0 = S0_.2.2.1 60 0 := fr_arr hF_ rfl
      have f1_ : S_.1 3 dd_ 1 = S0_.1 3 dd_ 1 := hF_.1 3 dd_ 1 rfl
      have f2_ : S_.1 3 dd_ 2 = S0_.1 3 dd_ 2 := hF_.1 3 dd_ 2 rfl
      have f5_ : S_.1 5 ll_ 2 = S0_.1 5 ll_ 2 := hF_.1 5 ll_ 2 rfl
      have ck_ : 0 ≤ S_.1 6 0 11 ∧ S_.1 6 0 11 ≤ 1024 := hI_.1 6 0 11 rfl
      have ek_ : S_.1 6 0 11 = S0_.1 6 0 11 := hF_.1 6 0 11 rfl
      refine sm_T_go 2 (c1 := (197, [some (.inr (.inr (some (6, 0)))), some (.inl a1_), some (.inl a2_), some (.inl a3_), some (.inl a4_), some (.inl is_), some (.inl co_), some (.inl k_), none, none], [.inl is_, .inl k_], S_)) rfl ?_
      refine sm_T_br (a := 3) (z := 41) rfl (fun cx1_ => ?_) (fun cx1_ => ?_)
      · have cx1_ : is_ ≤ k_ := of_decide_eq_true cx1_
        refine sm_T_rv rfl ⟨_, _, rfl, rfl, hI_, hF_, ?_⟩
        refine ⟨?_, ?_⟩
        · first | exact ⟨by (rw [hS_]; exact hw_), by (rw [hS_]; exact wfl_rf)⟩ | (refine ⟨Or.inr ⟨by rw [hv_.2.1]; exact h2_.1, by rw [hv_.1]; exact h0_.2.2.2.2, fun j_ hj_ => ?_⟩, hf_⟩; rw [hv_.2.1, f55_, ← h0_.1] at hj_; rw [f5_, fr_arr (t := 59) (i := 0) hF_ rfl, f60_, hn_ j_ (by omega), hv_.2.2, tbit (by omega) (by omega) (by omega)]; exact wpt_cg (hp_ j_ hj_) (by omega) (fun q9_ w9_ => (hf_.1 q9_ (by omega)).1))
        · first | (have y8_ := hS_; rw [show k_.toNat = (S0_.2.2.1 55 (0 + ll_) a2_.toNat).toNat by omega] at hco_; rw [← hco_]; unfold wst; rw [if_neg (by (rw [← hb_.1, ← hS_]; omega)), hS_]; exact hb_) | (have y8_ := hv_; rw [← hco_.1]; unfold wst; rw [if_pos hco_.2]; refine ⟨hv_.1, Or.inr ⟨h0_.2.2.2.2, hv_.2.1, ?_, fun j_ hj_ => ?_⟩⟩; (rw [hv_.2.2, h0_.1]; exact (vsp (by omega) (by omega)).2); (have hj_ : (j_ : Int) < S_.2.2.1 55 (0 + ll_) a2_.toNat := hj_; rw [f55_, ← h0_.1] at hj_; rw [hn_ j_ (by omega)]; have z9_ := cdn_e (k_ := (j_ : Int)) (p_ := plo (S0_.2.2.1 55 (0 + ll_) a2_.toNat) (i_shr a4_ (S0_.2.2.1 55 (0 + ll_) a2_.toNat)) (j_ : Int)) hcv_ h3_.1 (by omega) (by omega) rfl (by (have y9_ := vor (v_ := a4_) (e_ := (S0_.2.2.1 55 (0 + ll_) a2_.toNat)) (by omega) (by omega); have w9_ := plo_i (ip_ := (S0_.2.2.1 55 (0 + ll_) a2_.toNat)) (o_ := i_shr a4_ (S0_.2.2.1 55 (0 + ll_) a2_.toNat)) (k_ := (j_ : Int)) (by omega); have u9_ := iat_b (sz_ := (S0_.2.2.1 55 (0 + ll_) a2_.toNat)) (o_ := i_shr a4_ (S0_.2.2.1 55 (0 + ll_) a2_.toNat)) (k_ := (j_ : Int)) (by omega) (by omega) (by omega); rw [w9_]; omega)); rw [Int.toNat_natCast] at z9_; exact z9_.symm))
      · have cx1_ : ¬ (is_ ≤ k_) := of_decide_eq_false cx1_
        refine sm_T_go 4 (c1 := (206, [some (.inr (.inr (some (6, 0)))), some (.inl a1_), some (.inl a2_), some (.inl a3_), some (.inl a4_), some (.inl is_), some (.inl co_), some (.inl k_), none, none], [.inl a1_, .inl 3, .inr (.inr (some (64, 0)))], S_)) rfl ?_
        refine sm_T_bin (w := 3 * a1_) rfl (bi_mul (by omega) (by omega) (by omega)) ?_ -- pc_ 206
        refine sm_T_go 1 (c1 := (209, [some (.inr (.inr (some (6, 0)))), some (.inl a1_), some (.inl a2_), some (.inl a3_), some (.inl a4_), some (.inl is_), some (.inl co_), some (.inl k_), none, none], [.inl k_, .inl (3 * a1_), .inr (.inr (some (64, 0)))], S_)) rfl ?_
        refine sm_T_bin (w := 3 * a1_ + k_) rfl (bi_add (by omega) (by omega) (by omega)) ?_ -- pc_ 209
        refine sm_T_go 4 (c1 := (216, [some (.inr (.inr (some (6, 0)))), some (.inl a1_), some (.inl a2_), some (.inl a3_), some (.inl a4_), some (.inl is_), some (.inl co_), some (.inl k_), none, none], [.inl a3_, .inl 3, .inr (.inr (some (65, 0))), .inl (3 * a1_ + k_), .inr (.inr (some (64, 0)))], S_)) rfl ?_
        refine sm_T_bin (w := 3 * a3_) rfl (bi_mul (by omega) (by omega) (by omega)) ?_ -- pc_ 216
        refine sm_T_go 3 (c1 := (223, [some (.inr (.inr (some (6, 0)))), some (.inl a1_), some (.inl a2_), some (.inl a3_), some (.inl a4_), some (.inl is_), some (.inl co_), some (.inl k_), none, none], [.inl is_, .inl a4_, .inl is_, .inl (3 * a3_), .inr (.inr (some (65, 0))), .inl (3 * a1_ + k_), .inr (.inr (some (64, 0)))], S_)) rfl ?_
        refine sm_T_bin (w := (i_shr a4_ is_)) rfl rfl ?_ -- pc_ 223
        have vo9_ := vor (v_ := a4_) (e_ := is_) (by omega) (by omega)
        refine sm_T_go 1 (c1 := (226, [some (.inr (.inr (some (6, 0)))), some (.inl a1_), some (.inl a2_), some (.inl a3_), some (.inl a4_), some (.inl is_), some (.inl co_), some (.inl k_), none, none], [.inl k_, .inl (i_shr a4_ is_), .inl is_, .inl (3 * a3_), .inr (.inr (some (65, 0))), .inl (3 * a1_ + k_), .inr (.inr (some (64, 0)))], S_)) rfl ?_
        refine sm_T_cal (d1 := 0) (Q1 := vq_98 is_ (i_shr a4_ is_) k_ S_) rfl rfl (by decide) (vc_98 is_ (i_shr a4_ is_) k_ S_ hI_ (by omega)) (fun u_ Sx3_ px6_ => ?_)
        obtain ⟨rfl, vx8_, rfl, px6_⟩ := px6_
        have p226_ := px6_.1
        have q226_ : vx8_ = plo (S0_.2.2.1 55 (0 + ll_) a2_.toNat) (i_shr a4_ (S0_.2.2.1 55 (0 + ll_) a2_.toNat)) k_ := by (have z9_ := px6_.2; rw [h0_.1] at z9_; exact z9_)
        have nx9_ : npd n9_ (S0_.2.2.1 59 0) (S0_.2.2.1 65 0 (3 * a3_ + vx8_).toNat) := mcs_b hcs_ h3_ (by omega) (fun u9_ => by rcases his_ with w9_ | w9_; (exfalso; omega); exact w9_.2.2.2)
        have nx1_ := nx9_.1
        have nx2_ := nx9_.2.1
        have nx0 : S_.2.2.1 65 0 (3 * a3_ + vx8_).toNat = S0_.2.2.1 65 0 (3 * a3_ + vx8_).toNat := by rw [f65_]
        have xk9_ : S0_.2.2.1 65 0 (3 * a3_ + vx8_).toNat = (S0_.2.2.1 65 0 (3 * a3_ + plo (S0_.2.2.1 55 (0 + ll_) a2_.toNat) (i_shr a4_ (S0_.2.2.1 55 (0 + ll_) a2_.toNat)) k_).toNat) := by rw [q226_]
        have cd9_ : cdn c_ (S0_.2.2.1 55 (0 + ll_) a2_.toNat).toNat (a4_.toNat / 2 ^ (S0_.2.2.1 55 (0 + ll_) a2_.toNat).toNat) k_.toNat = S0_.2.2.1 65 0 (3 * a3_ + vx8_).toNat := cdn_e hcv_ h3_.1 (by omega) (by omega) q226_ (by omega)
        refine sm_T_bin (w := 3 * a3_ + vx8_) rfl (bi_add (by omega) (by omega) (by omega)) ?_ -- pc_ 229
        refine sm_T_iald (n := 3072) rfl rfl (by omega) (by omega) ?_
        have bx9_ : (-1) ≤ S_.2.2.1 65 0 (3 * a3_ + vx8_).toNat ∧ S_.2.2.1 65 0 (3 * a3_ + vx8_).toNat ≤ 1012 := hI_.2 65 0 _
        refine sm_T_iast (n := 6078) rfl rfl (by omega) (by omega) ?_
        have hIx10_ : gi (sm_aI S_ 64 0 (3 * a1_ + k_).toNat (S_.2.2.1 65 0 (3 * a3_ + vx8_).toNat)) := gi_aI hI_ (show 0 ≤ (S_.2.2.1 65 0 (3 * a3_ + vx8_).toNat) ∧ (S_.2.2.1 65 0 (3 * a3_ + vx8_).toNat) ≤ 1012 from ⟨by omega, by omega⟩)
        have hFx11_ : ai_fr (sx_W vw_108n) S0_ (sm_aI S_ 64 0 (3 * a1_ + k_).toNat (S_.2.2.1 65 0 (3 * a3_ + vx8_).toNat)) := ai_fr_tr hF_ (ai_fr_aI rfl)
        refine sm_T_inc (a := 7) (z := 1) (v := k_) (w := k_ + 1) rfl rfl (by omega) (by omega) (by omega) ?_ -- pc_ 232
        refine sm_T_go 1 (c1 := (193, [some (.inr (.inr (some (6, 0)))), some (.inl a1_), some (.inl a2_), some (.inl a3_), some (.inl a4_), some (.inl is_), some (.inl co_), some (.inl (k_ + 1)), none, none], [], sm_aI S_ 64 0 (3 * a1_ + k_).toNat (S_.2.2.1 65 0 (3 * a3_ + vx8_).toNat))) rfl ?_
        refine ih_.2 is_ co_ (k_ + 1) (sm_aI S_ 64 0 (3 * a1_ + k_).toNat (S_.2.2.1 65 0 (3 * a3_ + vx8_).toNat)) hIx10_ hFx11_ ⟨?_, ?_, ?_, ?_, ?_, ?_, trivial⟩ ?_
        · omega
        · exact hp_
        · exact hco_
        · (rw [rd_ne (by decide), rd_ne (by decide), rd_ne (by decide)]; exact hv_)
        · refine ⟨fun j_ hj_ => ?_, fun j_ hj_ => ?_⟩
          · rw [rd_ne (by decide), rd_ne (by decide), rd_ne (by decide)]; exact hf_.1 j_ hj_
          · rw [rd_eq, if_neg (by omega)]; exact hf_.2 j_ hj_
        · intro j_ hj_
          rw [rd_eq]
          by_cases y9_ : (j_ : Int) = k_
          · rw [if_pos (by omega), nx0, xk9_, y9_]
          · rw [if_neg (by omega)]; exact hn_ j_ (by omega)
        · omega
set_option maxHeartbeats 3000000 in
set_option maxRecDepth 20000 in
theorem vc_108n {sc_ : Nat × (Nat → Int)} (a1_ : Int) (a2_ : Int) (a3_ : Int) (a4_ : Int) (dd_ : Nat) (ll_ : Nat) (n9_ : Int) (c_ : List Nat) (b_ : Int × Int × Int × (Nat → Int)) (S0_ : sm_S) (hI_ : gi S0_) (hcv_ : ∀ j_ : Nat, j_ < 3 → S0_.2.2.1 65 0 (3 * a3_.toNat + j_) = cva c_ j_) (hb_ : wrc ll_ S0_ a1_.toNat b_) (hd_ : S0_.2.1 6 0 0 = some dd_) (hc_ : S0_.2.1 6 0 1 = some ll_) (h1_ : (a1_ = 2 * n9_ ∨ a1_ = 2 * n9_ + 1) ∧ 1 ≤ n9_ ∧ n9_ ≤ 1012) (h2_ : 0 ≤ a2_ ∧ a2_ ≤ 11) (h3_ : 0 ≤ a3_ ∧ a3_ < S0_.1 6 0 11) (his_ : ((S0_.2.2.1 55 (0 + ll_) a2_.toNat) = 2 ∧ 0 ≤ a4_ ∧ a4_ < 8) ∨ ((S0_.2.2.1 55 (0 + ll_) a2_.toNat) = 3 ∧ 0 ≤ a4_ ∧ a4_ < 48 ∧ S0_.2.2.1 65 0 (3 * a3_ + 2).toNat ≠ -1)) (hcs_ : mcs (npd n9_ (S0_.2.2.1 59 0)) S0_) (hw_ : wo3 (1 + S0_.1 3 dd_ 1 + S0_.1 3 dd_ 2) n9_ ll_ S0_ a1_.toNat) : sm_T (mt_P sc_) 2 108 (0, [some (.inr (.inr (some (6, 0)))), some (.inl a1_), some (.inl a2_), some (.inl a3_), some (.inl a4_), none, none, none, none, none], [], S0_) (fun ro9_ => ∃ u_ S1_, ro9_ = (.inl u_, S1_, 0) ∧ vq_108n a1_ a2_ a3_ a4_ dd_ ll_ n9_ c_ b_ S0_ u_ S1_) := by
  have hF_ : ai_fr (sx_W vw_108n) S0_ S0_ := ai_fr_rf
  have ck0_ : 0 ≤ S0_.1 6 0 11 ∧ S0_.1 6 0 11 ≤ 1024 := hI_.1 6 0 11 rfl
  refine sm_T_go 1 (c1 := (1, [some (.inr (.inr (some (6, 0)))), some (.inl a1_), some (.inl a2_), some (.inl a3_), some (.inl a4_), none, none, none, none, none], [.inr (.inr (some (6, 0)))], S0_)) rfl ?_
  refine sm_T_gr rfl rfl ((hF_.2.1 6 0 1 rfl).trans hc_) ?_
  refine sm_T_go 2 (c1 := (8, [some (.inr (.inr (some (6, 0)))), some (.inl a1_), some (.inl a2_), some (.inl a3_), some (.inl a4_), none, none, none, none, none], [.inl a2_, .inr (.inr (some (55, (0 + ll_))))], S0_)) rfl ?_
  refine sm_T_iald (n := 12) rfl rfl (by omega) (by omega) ?_
  have bx1_ : 0 ≤ S0_.2.2.1 55 (0 + ll_) a2_.toNat ∧ S0_.2.2.1 55 (0 + ll_) a2_.toNat ≤ 3 := hI_.2 55 (0 + ll_) _
  refine sm_T_go 2 (c1 := (12, [some (.inr (.inr (some (6, 0)))), some (.inl a1_), some (.inl a2_), some (.inl a3_), some (.inl a4_), some (.inl (S0_.2.2.1 55 (0 + ll_) a2_.toNat)), none, none, none, none], [.inr (.inr (some (6, 0)))], S0_)) rfl ?_
  refine sm_T_gr rfl rfl ((hF_.2.1 6 0 1 rfl).trans hc_) ?_
  refine sm_T_go 2 (c1 := (19, [some (.inr (.inr (some (6, 0)))), some (.inl a1_), some (.inl a2_), some (.inl a3_), some (.inl a4_), some (.inl (S0_.2.2.1 55 (0 + ll_) a2_.toNat)), none, none, none, none], [.inl a2_, .inr (.inr (some (57, (0 + ll_))))], S0_)) rfl ?_
  refine sm_T_iald (n := 12) rfl rfl (by omega) (by omega) ?_
  have bx2_ : 0 ≤ S0_.2.2.1 57 (0 + ll_) a2_.toNat ∧ S0_.2.2.1 57 (0 + ll_) a2_.toNat ≤ 1000 := hI_.2 57 (0 + ll_) _
  refine sm_T_go 3 (c1 := (25, [some (.inr (.inr (some (6, 0)))), some (.inl a1_), some (.inl a2_), some (.inl a3_), some (.inl a4_), some (.inl (S0_.2.2.1 55 (0 + ll_) a2_.toNat)), some (.inl (S0_.2.2.1 57 (0 + ll_) a2_.toNat)), some (.inl 0), none, none], [], S0_)) rfl ?_
  refine (vl_108n a1_ a2_ a3_ a4_ dd_ ll_ n9_ c_ b_ S0_ hcv_ hb_ hd_ hc_ h1_ h2_ h3_ his_ hcs_ hw_ _).1 (S0_.2.2.1 55 (0 + ll_) a2_.toNat) (S0_.2.2.1 57 (0 + ll_) a2_.toNat) 0 S0_ hI_ hF_ ⟨?_, ?_, ?_, ?_, trivial⟩ (Nat.lt_succ_self _)
  · omega
  · rfl
  · (intro _ j_ hj_; exfalso; omega)
  · rfl
/-! Mapper.tryCut -/
def vw_107n : sx_Wl := ([], [61, 62, 63, 64], [])
def vq_107n (a1_ : Int) (a2_ : Int) (a3_ : Int) (dd_ : Nat) (ll_ : Nat) (c_ : List Nat) (b0_ : Int × Int × Int × (Nat → Int)) (b1_ : Int × Int × Int × (Nat → Int)) (S0_ : sm_S) (u_ : Option sm_V) (S1_ : sm_S) : Prop := u_ = none ∧ gi S1_ ∧ ai_fr (sx_W vw_107n) S0_ S1_ ∧ ((wo3 (1 + S0_.1 3 dd_ 1 + S0_.1 3 dd_ 2) a1_ ll_ S1_ (2 * a1_).toNat ∧ wo3 (1 + S0_.1 3 dd_ 1 + S0_.1 3 dd_ 2) a1_ ll_ S1_ (2 * a1_ + 1).toNat ∧ wfn a1_.toNat S0_ S1_) ∧ wrc ll_ S1_ (2 * a1_).toNat (cfo (wvs adc (pcc (1 + S0_.1 3 dd_ 1 + S0_.1 3 dd_ 2) ll_ S0_) (fun v_ => decide (S0_.2.2.1 69 0 (48 * a2_.toNat + v_) = S0_.2.2.1 67 0 a3_.toNat)) (S0_.2.2.1 57 (0 + ll_) a2_.toNat) a2_.toNat c_ (S0_.2.2.1 55 (0 + ll_) a2_.toNat).toNat) (wic (S0_.2.2.1 55 (0 + ll_) a2_.toNat).toNat) b0_) ∧ wrc ll_ S1_ (2 * a1_ + 1).toNat (cfo (wvs adc (pcc (1 + S0_.1 3 dd_ 1 + S0_.1 3 dd_ 2) ll_ S0_) (fun v_ => decide (S0_.2.2.1 69 0 (48 * a2_.toNat + v_) = i_xor (S0_.2.2.1 67 0 a3_.toNat) (if (S0_.2.2.1 55 (0 + ll_) a2_.toNat) = 2 then 15 else 255))) (S0_.2.2.1 57 (0 + ll_) a2_.toNat) a2_.toNat c_ (S0_.2.2.1 55 (0 + ll_) a2_.toNat).toNat) (wic (S0_.2.2.1 55 (0 + ll_) a2_.toNat).toNat) b1_))
set_option maxHeartbeats 3000000 in
theorem vl_107n {sc_ : Nat × (Nat → Int)} (a1_ : Int) (a2_ : Int) (a3_ : Int) (dd_ : Nat) (ll_ : Nat) (c_ : List Nat) (b0_ : Int × Int × Int × (Nat → Int)) (b1_ : Int × Int × Int × (Nat → Int)) (S0_ : sm_S) (hcv_ : ∀ j_ : Nat, j_ < 3 → S0_.2.2.1 65 0 (3 * a3_.toNat + j_) = cva c_ j_) (hb0_ : wrc ll_ S0_ (2 * a1_).toNat b0_) (hb1_ : wrc ll_ S0_ (2 * a1_ + 1).toNat b1_) (hd_ : S0_.2.1 6 0 0 = some dd_) (hc_ : S0_.2.1 6 0 1 = some ll_) (h1_ : 1 ≤ a1_ ∧ a1_ ≤ 1012) (h2_ : 0 ≤ a2_ ∧ a2_ ≤ 11) (h3_ : 0 ≤ a3_ ∧ a3_ < S0_.1 6 0 11) (his_ : (S0_.2.2.1 55 (0 + ll_) a2_.toNat) = 2 ∨ ((S0_.2.2.1 55 (0 + ll_) a2_.toNat) = 3 ∧ S0_.2.2.1 65 0 (3 * a3_ + 2).toNat ≠ -1)) (hcs_ : mcs (npd a1_ (S0_.2.2.1 59 0)) S0_) (hw0_ : wo3 (1 + S0_.1 3 dd_ 1 + S0_.1 3 dd_ 2) a1_ ll_ S0_ (2 * a1_).toNat) (hw1_ : wo3 (1 + S0_.1 3 dd_ 1 + S0_.1 3 dd_ 2) a1_ ll_ S0_ (2 * a1_ + 1).toNat) : ∀ nn_ : Nat, (∀ (is_ : Int) (mk_ : Int) (ct : Int) (vw_ : Int) (S_ : sm_S), gi S_ → ai_fr (sx_W vw_107n) S0_ S_ → ((is_ = (S0_.2.2.1 55 (0 + ll_) a2_.toNat) ∧ 0 ≤ vw_ ∧ vw_ ≤ 48 ∧ ((is_ = 2 ∧ ct = 8) ∨ (is_ = 3 ∧ ct = 48))) ∧ (wo3 (1 + S0_.1 3 dd_ 1 + S0_.1 3 dd_ 2) a1_ ll_ S_ (2 * a1_).toNat) ∧ (wo3 (1 + S0_.1 3 dd_ 1 + S0_.1 3 dd_ 2) a1_ ll_ S_ (2 * a1_ + 1).toNat) ∧ (wrc ll_ S_ (2 * a1_).toNat (cfo (wvs adc (pcc (1 + S0_.1 3 dd_ 1 + S0_.1 3 dd_ 2) ll_ S0_) (fun v_ => decide (S0_.2.2.1 69 0 (48 * a2_.toNat + v_) = S0_.2.2.1 67 0 a3_.toNat)) (S0_.2.2.1 57 (0 + ll_) a2_.toNat) a2_.toNat c_ (S0_.2.2.1 55 (0 + ll_) a2_.toNat).toNat) (vw_.toNat) b0_)) ∧ (wrc ll_ S_ (2 * a1_ + 1).toNat (cfo (wvs adc (pcc (1 + S0_.1 3 dd_ 1 + S0_.1 3 dd_ 2) ll_ S0_) (fun v_ => decide (S0_.2.2.1 69 0 (48 * a2_.toNat + v_) = i_xor (S0_.2.2.1 67 0 a3_.toNat) (if (S0_.2.2.1 55 (0 + ll_) a2_.toNat) = 2 then 15 else 255))) (S0_.2.2.1 57 (0 + ll_) a2_.toNat) a2_.toNat c_ (S0_.2.2.1 55 (0 + ll_) a2_.toNat).toNat) (vw_.toNat) b1_)) ∧ (mk_ = if (S0_.2.2.1 55 (0 + ll_) a2_.toNat) = 2 then 15 else 255) ∧ (vw_ ≤ ct) ∧ (wfn a1_.toNat S0_ S_) ∧ True) → ((2 * (100 - vw_) + 1).toNat) < nn_ → sm_T (mt_P sc_) 3 107 (47, [some (.inr (.inr (some (6, 0)))), some (.inl a1_), some (.inl a2_), some (.inl a3_), some (.inl is_), some (.inl mk_), some (.inl ct), some (.inl vw_), none], [], S_) (fun ro9_ => ∃ u_ S1_, ro9_ = (.inl u_, S1_, 0) ∧ vq_107n a1_ a2_ a3_ dd_ ll_ c_ b0_ b1_ S0_ u_ S1_)) ∧ (∀ (is_ : Int) (mk_ : Int) (ct : Int) (vw_ : Int) (tb_ : Int) (S_ : sm_S), gi S_ → ai_fr (sx_W vw_107n) S0_ S_ → ((is_ = (S0_.2.2.1 55 (0 + ll_) a2_.toNat) ∧ 0 ≤ vw_ ∧ vw_ < 48 ∧ vw_ < ct ∧ ((is_ = 2 ∧ ct = 8) ∨ (is_ = 3 ∧ ct = 48))) ∧ (wo3 (1 + S0_.1 3 dd_ 1 + S0_.1 3 dd_ 2) a1_ ll_ S_ (2 * a1_).toNat) ∧ (wo3 (1 + S0_.1 3 dd_ 1 + S0_.1 3 dd_ 2) a1_ ll_ S_ (2 * a1_ + 1).toNat) ∧ (wrc ll_ S_ (2 * a1_).toNat (cfo (wvs adc (pcc (1 + S0_.1 3 dd_ 1 + S0_.1 3 dd_ 2) ll_ S0_) (fun v_ => decide (S0_.2.2.1 69 0 (48 * a2_.toNat + v_) = S0_.2.2.1 67 0 a3_.toNat)) (S0_.2.2.1 57 (0 + ll_) a2_.toNat) a2_.toNat c_ (S0_.2.2.1 55 (0 + ll_) a2_.toNat).toNat) (vw_.toNat + 1) b0_)) ∧ (wrc ll_ S_ (2 * a1_ + 1).toNat (cfo (wvs adc (pcc (1 + S0_.1 3 dd_ 1 + S0_.1 3 dd_ 2) ll_ S0_) (fun v_ => decide (S0_.2.2.1 69 0 (48 * a2_.toNat + v_) = i_xor (S0_.2.2.1 67 0 a3_.toNat) (if (S0_.2.2.1 55 (0 + ll_) a2_.toNat) = 2 then 15 else 255))) (S0_.2.2.1 57 (0 + ll_) a2_.toNat) a2_.toNat c_ (S0_.2.2.1 55 (0 + ll_) a2_.toNat).toNat) (vw_.toNat) b1_)) ∧ (mk_ = if (S0_.2.2.1 55 (0 + ll_) a2_.toNat) = 2 then 15 else 255) ∧ (vw_ < ct) ∧ (tb_ = S0_.2.2.1 69 0 (48 * a2_.toNat + vw_.toNat)) ∧ (wfn a1_.toNat S0_ S_) ∧ True) → ((2 * (100 - vw_)).toNat) < nn_ → sm_T (mt_P sc_) 3 107 (90, [some (.inr (.inr (some (6, 0)))), some (.inl a1_), some (.inl a2_), some (.inl a3_), some (.inl is_), some (.inl mk_), some (.inl ct), some (.inl vw_), some (.inl tb_)], [], S_) (fun ro9_ => ∃ u_ S1_, ro9_ = (.inl u_, S1_, 0) ∧ vq_107n a1_ a2_ a3_ dd_ ll_ c_ b0_ b1_ S0_ u_ S1_)) := by
  intro nn_
  induction nn_ with
  | zero => exact ⟨fun _ _ _ _ _ _ _ _ h_ => absurd h_ (Nat.not_lt_zero _), fun _ _ _ _ _ _ _ _ _ h_ => absurd h_ (Nat.not_lt_zero _)⟩
  | succ nn_ ih_ =>
    refine ⟨?_, ?_⟩
    · rintro is_ mk_ ct vw_ S_ hI_ hF_ ⟨h0_, hv0_, hv1_, hr0_, hr1_, hmk_, hvc_, hf_, -⟩ hm_
      have f57_ : S_.2.2.1 57 (0 + ll_) = S0_.2.2.1 57 (0 + ll_) := fr_arr hF_ rfl
      have f67_ : S_.2.2.1 67 0 = S0_.2.2.1 67 0 := fr_arr hF_ rfl
      have f69_ : S_.2.2.1 69 0 = S0_.2.2.1 69 0 := fr_arr hF_ rfl
      have f55_ : S_.2.2.1 55 (0 + ll_) = S0_.2.2.1 55 (0 + ll_) := fr_arr hF_ rfl
      have f65_ : S_.2.2.1 65 0 = S0_.2.2.1 65 0 := fr_arr hF_ rfl
      have f59_ : S_.2.2.1 59 0 = S0_.2.2.1 59 0 := fr_arr hF_ rfl
      have f60_ : S_.2.2.1 60 0 = S0_.2.2.1 60 0 := fr_arr hF_ rfl
      have f1_ : S_.1 3 dd_ 1 = S0_.1 3 dd_ 1 := hF_.1 3 dd_ 1 rfl
      have f2_ : S_.1 3 dd_ 2 = S0_.1 3 dd_ 2 := hF_.1 3 dd_ 2 rfl
      have f5_ : S_.1 5 ll_ 2 = S0_.1 5 ll_ 2 := hF_.1 5 ll_ 2 rfl
      have ek_ : S_.1 6 0 11 = S0_.1 6 0 11 := hF_.1 6 0 11 rfl
      have ck_ : 0 ≤ S_.1 6 0 11 ∧ S_.1 6 0 11 ≤ 1024 := hI_.1 6 0 11 rfl
      refine sm_T_go 2 (c1 := (51, [some (.inr (.inr (some (6, 0)))), some (.inl a1_), some (.inl a2_), some (.inl a3_), some (.inl is_), some (.inl mk_), some (.inl ct), some (.inl vw_), none], [.inl ct, .inl vw_], S_)) rfl ?_
      refine sm_T_br (a := 3) (z := 72) rfl (fun cx1_ => ?_) (fun cx1_ => ?_)
      · have cx1_ : ct ≤ vw_ := of_decide_eq_true cx1_
        refine sm_T_rv rfl ⟨_, _, rfl, rfl, hI_, hF_, ?_⟩
        rw [show wic (S0_.2.2.1 55 (0 + ll_) a2_.toNat).toNat = vw_.toNat by (unfold wic; by_cases w9_ : (S0_.2.2.1 55 (0 + ll_) a2_.toNat).toNat = 2; (rw [if_pos w9_]; omega); (rw [if_neg w9_]; omega))]
        exact ⟨⟨hv0_, hv1_, hf_⟩, hr0_, hr1_⟩
      · have cx1_ : ¬ (ct ≤ vw_) := of_decide_eq_false cx1_
        refine sm_T_go 4 (c1 := (61, [some (.inr (.inr (some (6, 0)))), some (.inl a1_), some (.inl a2_), some (.inl a3_), some (.inl is_), some (.inl mk_), some (.inl ct), some (.inl vw_), none], [.inl 48, .inl a2_, .inr (.inr (some (69, 0)))], S_)) rfl ?_
        refine sm_T_bin (w := 48 * a2_) rfl (bi_mul (by omega) (by omega) (by omega)) ?_ -- pc_ 61
        refine sm_T_go 1 (c1 := (64, [some (.inr (.inr (some (6, 0)))), some (.inl a1_), some (.inl a2_), some (.inl a3_), some (.inl is_), some (.inl mk_), some (.inl ct), some (.inl vw_), none], [.inl vw_, .inl (48 * a2_), .inr (.inr (some (69, 0)))], S_)) rfl ?_
        refine sm_T_bin (w := 48 * a2_ + vw_) rfl (bi_add (by omega) (by omega) (by omega)) ?_ -- pc_ 64
        refine sm_T_iald (n := 576) rfl rfl (by omega) (by omega) ?_
        have bx2_ : 0 ≤ S_.2.2.1 69 0 (48 * a2_ + vw_).toNat ∧ S_.2.2.1 69 0 (48 * a2_ + vw_).toNat ≤ 255 := hI_.2 69 0 _
        refine sm_T_go 5 (c1 := (75, [some (.inr (.inr (some (6, 0)))), some (.inl a1_), some (.inl a2_), some (.inl a3_), some (.inl is_), some (.inl mk_), some (.inl ct), some (.inl vw_), some (.inl (S_.2.2.1 69 0 (48 * a2_ + vw_).toNat))], [.inl a3_, .inr (.inr (some (67, 0))), .inl (S_.2.2.1 69 0 (48 * a2_ + vw_).toNat)], S_)) rfl ?_
        refine sm_T_iald (n := 1024) rfl rfl (by omega) (by omega) ?_
        have bx3_ : 0 ≤ S_.2.2.1 67 0 a3_.toNat ∧ S_.2.2.1 67 0 a3_.toNat ≤ 255 := hI_.2 67 0 _
        refine sm_T_br (a := 1) (z := 14) rfl (fun cx4_ => ?_) (fun cx4_ => ?_)
        · have cx4_ : (S_.2.2.1 69 0 (48 * a2_ + vw_).toNat) ≠ (S_.2.2.1 67 0 a3_.toNat) := of_decide_eq_true cx4_
          refine sm_T_go 0 (c1 := (90, [some (.inr (.inr (some (6, 0)))), some (.inl a1_), some (.inl a2_), some (.inl a3_), some (.inl is_), some (.inl mk_), some (.inl ct), some (.inl vw_), some (.inl (S_.2.2.1 69 0 (48 * a2_ + vw_).toNat))], [], S_)) rfl ?_
          refine ih_.2 is_ mk_ ct vw_ (S_.2.2.1 69 0 (48 * a2_ + vw_).toNat) S_ hI_ hF_ ⟨?_, ?_, ?_, ?_, ?_, ?_, ?_, ?_, ?_, trivial⟩ ?_
          · omega
          · first | exact hv0_ | exact o87_
          · first | exact hv1_ | exact x87_
          · have d9_ : S_.2.2.1 69 0 (48 * a2_ + vw_).toNat = S0_.2.2.1 69 0 (48 * a2_.toNat + vw_.toNat) := by (rw [f69_, show (48 * a2_ + vw_).toNat = 48 * a2_.toNat + vw_.toNat by omega])
            have e9_ : S_.2.2.1 67 0 a3_.toNat = S0_.2.2.1 67 0 a3_.toNat := by rw [f67_]
            rw [cfo_s]
            first | (have y8_ := r87_; have h9_ : (fun v_ => decide (S0_.2.2.1 69 0 (48 * a2_.toNat + v_) = S0_.2.2.1 67 0 a3_.toNat)) vw_.toNat = true := decide_eq_true (show S0_.2.2.1 69 0 (48 * a2_.toNat + vw_.toNat) = S0_.2.2.1 67 0 a3_.toNat by omega); rw [wvs_h h9_, show ((a2_.toNat : Nat) : Int) = a2_ by omega]; exact r87_) | (have h9_ : ¬ ((fun v_ => decide (S0_.2.2.1 69 0 (48 * a2_.toNat + v_) = S0_.2.2.1 67 0 a3_.toNat)) vw_.toNat = true) := fun u9_ => absurd (of_decide_eq_true u9_) (show ¬ (S0_.2.2.1 69 0 (48 * a2_.toNat + vw_.toNat) = S0_.2.2.1 67 0 a3_.toNat) by omega); rw [wvs_n h9_]; exact hr0_)
          · first | (have y8_ := r87_; exact q87_) | exact hr1_
          · exact hmk_
          · omega
          · (rw [f69_, show (48 * a2_ + vw_).toNat = 48 * a2_.toNat + vw_.toNat by omega])
          · first | exact hf_ | exact wfn_tr hf_ (wfn_l w87_ (by omega))
          · omega
        · have cx4_ : ¬ ((S_.2.2.1 69 0 (48 * a2_ + vw_).toNat) ≠ (S_.2.2.1 67 0 a3_.toNat)) := of_decide_eq_false cx4_
          refine sm_T_go 3 (c1 := (82, [some (.inr (.inr (some (6, 0)))), some (.inl a1_), some (.inl a2_), some (.inl a3_), some (.inl is_), some (.inl mk_), some (.inl ct), some (.inl vw_), some (.inl (S_.2.2.1 69 0 (48 * a2_ + vw_).toNat))], [.inl a1_, .inl 2, .inr (.inr (some (6, 0)))], S_)) rfl ?_
          refine sm_T_bin (w := 2 * a1_) rfl (bi_mul (by omega) (by omega) (by omega)) ?_ -- pc_ 82
          refine sm_T_go 3 (c1 := (87, [some (.inr (.inr (some (6, 0)))), some (.inl a1_), some (.inl a2_), some (.inl a3_), some (.inl is_), some (.inl mk_), some (.inl ct), some (.inl vw_), some (.inl (S_.2.2.1 69 0 (48 * a2_ + vw_).toNat))], [.inl vw_, .inl a3_, .inl a2_, .inl (2 * a1_), .inr (.inr (some (6, 0)))], S_)) rfl ?_
          refine sm_T_cal (d1 := 2) (Q1 := vq_108n (2 * a1_) a2_ a3_ vw_ dd_ ll_ a1_ c_ (cfo (wvs adc (pcc (1 + S0_.1 3 dd_ 1 + S0_.1 3 dd_ 2) ll_ S0_) (fun v_ => decide (S0_.2.2.1 69 0 (48 * a2_.toNat + v_) = S0_.2.2.1 67 0 a3_.toNat)) (S0_.2.2.1 57 (0 + ll_) a2_.toNat) a2_.toNat c_ (S0_.2.2.1 55 (0 + ll_) a2_.toNat).toNat) (vw_.toNat) b0_) S_) rfl rfl (by decide) (vc_108n (2 * a1_) a2_ a3_ vw_ dd_ ll_ a1_ c_ (cfo (wvs adc (pcc (1 + S0_.1 3 dd_ 1 + S0_.1 3 dd_ 2) ll_ S0_) (fun v_ => decide (S0_.2.2.1 69 0 (48 * a2_.toNat + v_) = S0_.2.2.1 67 0 a3_.toNat)) (S0_.2.2.1 57 (0 + ll_) a2_.toNat) a2_.toNat c_ (S0_.2.2.1 55 (0 + ll_) a2_.toNat).toNat) (vw_.toNat) b0_) S_ hI_ (by (intro j9_ u9_; rw [fr_arr (t := 65) (i := 0) hF_ rfl]; exact hcv_ j9_ u9_)) (by exact hr0_) (by exact (hF_.2.1 6 0 0 rfl).trans hd_) (by exact (hF_.2.1 6 0 1 rfl).trans hc_) (by omega) (by omega) (by (first | omega | (rw [hF_.1 6 0 11 rfl]; omega))) (by (rw [fr_arr (t := 55) (i := 0 + ll_) hF_ rfl, fr_arr (t := 65) (i := 0) hF_ rfl]; rcases his_ with w9_ | w9_; (left; omega); (right; exact ⟨w9_.1, by omega, by omega, w9_.2⟩))) (by (rw [fr_arr (t := 59) (i := 0) hF_ rfl]; exact mcs_fr hcs_ hF_)) (by (rw [hF_.1 3 dd_ 1 rfl, hF_.1 3 dd_ 2 rfl]; exact hv0_))) (fun u_ Sx5_ px8_ => ?_)
          obtain ⟨rfl, hIx6_, hFx7_, px8_⟩ := px8_
          have hFx9_ : ai_fr (sx_W vw_107n) S0_ Sx5_ := ai_fr_tr hF_ (fr_le hFx7_ rfl)
          have o87_ : wo3 (1 + S0_.1 3 dd_ 1 + S0_.1 3 dd_ 2) a1_ ll_ Sx5_ (2 * a1_).toNat := by (have z9_ := (px8_).1.1; rw [f1_, f2_] at z9_; exact z9_)
          have w87_ := (px8_).1.2
          have c87_ : cco adc (pcc (1 + S0_.1 3 dd_ 1 + S0_.1 3 dd_ 2) ll_ S_) (S0_.2.2.1 57 (0 + ll_) a2_.toNat) c_ (S0_.2.2.1 55 (0 + ll_) a2_.toNat).toNat vw_.toNat (S0_.2.2.1 55 (0 + ll_) a2_.toNat).toNat = cco adc (pcc (1 + S0_.1 3 dd_ 1 + S0_.1 3 dd_ 2) ll_ S0_) (S0_.2.2.1 57 (0 + ll_) a2_.toNat) c_ (S0_.2.2.1 55 (0 + ll_) a2_.toNat).toNat vw_.toNat (S0_.2.2.1 55 (0 + ll_) a2_.toNat).toNat := cco_cg _ (fun k9_ u9_ => by (have z9_ := cdn_e (V_ := S0_.2.2.1 65 0) (k_ := (k9_ : Int)) (v_ := vw_) (p_ := plo (S0_.2.2.1 55 (0 + ll_) a2_.toNat) (i_shr vw_ (S0_.2.2.1 55 (0 + ll_) a2_.toNat)) (k9_ : Int)) hcv_ h3_.1 (by omega) (by omega) rfl (by (have y9_ := vor (v_ := vw_) (e_ := (S0_.2.2.1 55 (0 + ll_) a2_.toNat)) (by omega) (by omega); have w9_ := plo_i (ip_ := (S0_.2.2.1 55 (0 + ll_) a2_.toNat)) (o_ := i_shr vw_ (S0_.2.2.1 55 (0 + ll_) a2_.toNat)) (k_ := (k9_ : Int)) (by omega); have u8_ := iat_b (sz_ := (S0_.2.2.1 55 (0 + ll_) a2_.toNat)) (o_ := i_shr vw_ (S0_.2.2.1 55 (0 + ll_) a2_.toNat)) (k_ := (k9_ : Int)) (by omega) (by omega) (by omega); rw [w9_]; omega)); rw [Int.toNat_natCast] at z9_; have y9_ := vor (v_ := vw_) (e_ := (S0_.2.2.1 55 (0 + ll_) a2_.toNat)) (by omega) (by omega); have w9_ := plo_i (ip_ := (S0_.2.2.1 55 (0 + ll_) a2_.toNat)) (o_ := i_shr vw_ (S0_.2.2.1 55 (0 + ll_) a2_.toNat)) (k_ := (k9_ : Int)) (by omega); have u8_ := iat_b (sz_ := (S0_.2.2.1 55 (0 + ll_) a2_.toNat)) (o_ := i_shr vw_ (S0_.2.2.1 55 (0 + ll_) a2_.toNat)) (k_ := (k9_ : Int)) (by omega) (by omega) (by omega); have nx9_ : npd a1_ (S0_.2.2.1 59 0) (S0_.2.2.1 65 0 (3 * a3_ + plo (S0_.2.2.1 55 (0 + ll_) a2_.toNat) (i_shr vw_ (S0_.2.2.1 55 (0 + ll_) a2_.toNat)) (k9_ : Int)).toNat) := mcs_b hcs_ h3_ (by (rw [w9_]; omega)) (fun q9_ => by rcases his_ with x9_ | x9_; (exfalso; rw [w9_] at q9_; omega); exact x9_.2); rw [z9_]; exact pcc_cg (n_ := a1_) ⟨by have := nx9_.1; omega, nx9_.2.1⟩ (by omega) f60_ (fun j9_ v9_ => (hf_.1 j9_ (by omega) (by omega)).1) f5_ f57_))
          have r87_ := (px8_).2
          rw [f55_, f57_, f1_, f2_, c87_] at r87_
          have q87_ : wrc ll_ Sx5_ (2 * a1_ + 1).toNat (cfo (wvs adc (pcc (1 + S0_.1 3 dd_ 1 + S0_.1 3 dd_ 2) ll_ S0_) (fun v_ => decide (S0_.2.2.1 69 0 (48 * a2_.toNat + v_) = i_xor (S0_.2.2.1 67 0 a3_.toNat) (if (S0_.2.2.1 55 (0 + ll_) a2_.toNat) = 2 then 15 else 255))) (S0_.2.2.1 57 (0 + ll_) a2_.toNat) a2_.toNat c_ (S0_.2.2.1 55 (0 + ll_) a2_.toNat).toNat) (vw_.toNat) b1_) := wrc_f hr1_ w87_ (by omega) (fr_arr hFx7_ rfl) (fun k9_ => (hI_.2 55 (0 + ll_) k9_).2)
          have x87_ : wo3 (1 + S0_.1 3 dd_ 1 + S0_.1 3 dd_ 2) a1_ ll_ Sx5_ (2 * a1_ + 1).toNat := wo3_cg hv1_ w87_ (by omega) (by omega) (hFx7_.1 5 ll_ 2 rfl) (fr_arr hFx7_ rfl) (fr_arr hFx7_ rfl) (fr_arr hFx7_ rfl) (fun k9_ => (hI_.2 55 (0 + ll_) k9_).2)
          refine sm_T_go 0 (c1 := (90, [some (.inr (.inr (some (6, 0)))), some (.inl a1_), some (.inl a2_), some (.inl a3_), some (.inl is_), some (.inl mk_), some (.inl ct), some (.inl vw_), some (.inl (S_.2.2.1 69 0 (48 * a2_ + vw_).toNat))], [], Sx5_)) rfl ?_
          refine ih_.2 is_ mk_ ct vw_ (S_.2.2.1 69 0 (48 * a2_ + vw_).toNat) Sx5_ hIx6_ hFx9_ ⟨?_, ?_, ?_, ?_, ?_, ?_, ?_, ?_, ?_, trivial⟩ ?_
          · omega
          · first | exact hv0_ | exact o87_
          · first | exact hv1_ | exact x87_
          · have d9_ : S_.2.2.1 69 0 (48 * a2_ + vw_).toNat = S0_.2.2.1 69 0 (48 * a2_.toNat + vw_.toNat) := by (rw [f69_, show (48 * a2_ + vw_).toNat = 48 * a2_.toNat + vw_.toNat by omega])
            have e9_ : S_.2.2.1 67 0 a3_.toNat = S0_.2.2.1 67 0 a3_.toNat := by rw [f67_]
            rw [cfo_s]
            first | (have y8_ := r87_; have h9_ : (fun v_ => decide (S0_.2.2.1 69 0 (48 * a2_.toNat + v_) = S0_.2.2.1 67 0 a3_.toNat)) vw_.toNat = true := decide_eq_true (show S0_.2.2.1 69 0 (48 * a2_.toNat + vw_.toNat) = S0_.2.2.1 67 0 a3_.toNat by omega); rw [wvs_h h9_, show ((a2_.toNat : Nat) : Int) = a2_ by omega]; exact r87_) | (have h9_ : ¬ ((fun v_ => decide (S0_.2.2.1 69 0 (48 * a2_.toNat + v_) = S0_.2.2.1 67 0 a3_.toNat)) vw_.toNat = true) := fun u9_ => absurd (of_decide_eq_true u9_) (show ¬ (S0_.2.2.1 69 0 (48 * a2_.toNat + vw_.toNat) = S0_.2.2.1 67 0 a3_.toNat) by omega); rw [wvs_n h9_]; exact hr0_)
          · first | (have y8_ := r87_; exact q87_) | exact hr1_
          · exact hmk_
          · omega
          · (rw [f69_, show (48 * a2_ + vw_).toNat = 48 * a2_.toNat + vw_.toNat by omega])
          · first | exact hf_ | exact wfn_tr hf_ (wfn_l w87_ (by omega))
          · omega
    · rintro is_ mk_ ct vw_ tb_ S_ hI_ hF_ ⟨h0_, hv0_, hv1_, hr0_, hr1_, hmk_, hvc_, htb_, hf_, -⟩ hm_
      have f57_ : S_.2.2.1 57 (0 + ll_) = S0_.2.2.1 57 (0 + ll_) := fr_arr hF_ rfl
      have f67_ : S_.2.2.1 67 0 = S0_.2.2.1 67 0 := fr_arr hF_ rfl
      have f69_ : S_.2.2.1 69 0 = S0_.2.2.1 69 0 := fr_arr hF_ rfl
      have f55_ : S_.2.2.1 55 (0 + ll_) = S0_.2.2.1 55 (0 + ll_) := fr_arr hF_ rfl
      have f65_ : S_.2.2.1 65 0 = S0_.2.2.1 65 0 := fr_arr hF_ rfl
      have f59_ : S_.2.2.1 59 0 = S0_.2.2.1 59 0 := fr_arr hF_ rfl
      have f60_ : S_.2.2.1 60 0 = S0_.2.2.1 60 0 := fr_arr hF_ rfl
      have f1_ : S_.1 3 dd_ 1 = S0_.1 3 dd_ 1 := hF_.1 3 dd_ 1 rfl
      have f2_ : S_.1 3 dd_ 2 = S0_.1 3 dd_ 2 := hF_.1 3 dd_ 2 rfl
      have f5_ : S_.1 5 ll_ 2 = S0_.1 5 ll_ 2 := hF_.1 5 ll_ 2 rfl
      have ek_ : S_.1 6 0 11 = S0_.1 6 0 11 := hF_.1 6 0 11 rfl
      have ck_ : 0 ≤ S_.1 6 0 11 ∧ S_.1 6 0 11 ≤ 1024 := hI_.1 6 0 11 rfl
      refine sm_T_go 4 (c1 := (97, [some (.inr (.inr (some (6, 0)))), some (.inl a1_), some (.inl a2_), some (.inl a3_), some (.inl is_), some (.inl mk_), some (.inl ct), some (.inl vw_), some (.inl tb_)], [.inl a3_, .inr (.inr (some (67, 0))), .inl tb_], S_)) rfl ?_
      refine sm_T_iald (n := 1024) rfl rfl (by omega) (by omega) ?_
      have bx1_ : 0 ≤ S_.2.2.1 67 0 a3_.toNat ∧ S_.2.2.1 67 0 a3_.toNat ≤ 255 := hI_.2 67 0 _
      refine sm_T_go 1 (c1 := (100, [some (.inr (.inr (some (6, 0)))), some (.inl a1_), some (.inl a2_), some (.inl a3_), some (.inl is_), some (.inl mk_), some (.inl ct), some (.inl vw_), some (.inl tb_)], [.inl mk_, .inl (S_.2.2.1 67 0 a3_.toNat), .inl tb_], S_)) rfl ?_
      refine sm_T_bin (w := (i_xor (S_.2.2.1 67 0 a3_.toNat) mk_)) rfl rfl ?_ -- pc_ 100
      first | have bx2_ := i_xrp (x_ := (S_.2.2.1 67 0 a3_.toNat)) (y_ := mk_) (k_ := 1) (by decide) (by omega) (by omega) | have bx2_ := i_xrp (x_ := (S_.2.2.1 67 0 a3_.toNat)) (y_ := mk_) (k_ := 3) (by decide) (by omega) (by omega) | have bx2_ := i_xrp (x_ := (S_.2.2.1 67 0 a3_.toNat)) (y_ := mk_) (k_ := 4) (by decide) (by omega) (by omega) | have bx2_ := i_xrp (x_ := (S_.2.2.1 67 0 a3_.toNat)) (y_ := mk_) (k_ := 6) (by decide) (by omega) (by omega) | have bx2_ := i_xrp (x_ := (S_.2.2.1 67 0 a3_.toNat)) (y_ := mk_) (k_ := 8) (by decide) (by omega) (by omega) | have bx2_ := i_xrp (x_ := (S_.2.2.1 67 0 a3_.toNat)) (y_ := mk_) (k_ := 11) (by decide) (by omega) (by omega) | have bx2_ := i_xrp (x_ := (S_.2.2.1 67 0 a3_.toNat)) (y_ := mk_) (k_ := 12) (by decide) (by omega) (by omega) | have bx2_ := i_xrp (x_ := (S_.2.2.1 67 0 a3_.toNat)) (y_ := mk_) (k_ := 16) (by decide) (by omega) (by omega) | have bx2_ := i_xrp (x_ := (S_.2.2.1 67 0 a3_.toNat)) (y_ := mk_) (k_ := 22) (by decide) (by omega) (by omega) | have bx2_ := i_xrp (x_ := (S_.2.2.1 67 0 a3_.toNat)) (y_ := mk_) (k_ := 31) (by decide) (by omega) (by omega) | have bx2_ := i_xor_n (S_.2.2.1 67 0 a3_.toNat) mk_
      refine sm_T_br (a := 1) (z := 16) rfl (fun cx3_ => ?_) (fun cx3_ => ?_)
      · have cx3_ : tb_ ≠ (i_xor (S_.2.2.1 67 0 a3_.toNat) mk_) := of_decide_eq_true cx3_
        refine sm_T_inc (a := 7) (z := 1) (v := vw_) (w := vw_ + 1) rfl rfl (by omega) (by omega) (by omega) ?_ -- pc_ 117
        refine sm_T_go 1 (c1 := (47, [some (.inr (.inr (some (6, 0)))), some (.inl a1_), some (.inl a2_), some (.inl a3_), some (.inl is_), some (.inl mk_), some (.inl ct), some (.inl (vw_ + 1)), some (.inl tb_)], [], S_)) rfl ?_
        refine sm_T_wk [some (.inr (.inr (some (6, 0)))), some (.inl a1_), some (.inl a2_), some (.inl a3_), some (.inl is_), some (.inl mk_), some (.inl ct), some (.inl (vw_ + 1)), none] (by exact ⟨rfl, rfl, rfl, rfl, rfl, rfl, rfl, rfl, trivial⟩) ?_
        refine ih_.1 is_ mk_ ct (vw_ + 1) S_ hI_ hF_ ⟨?_, ?_, ?_, ?_, ?_, ?_, ?_, ?_, trivial⟩ ?_
        · omega
        · first | exact hv0_ | exact x114_
        · first | exact hv1_ | exact o114_
        · (rw [show (vw_ + 1).toNat = vw_.toNat + 1 by omega]; first | (have y8_ := r114_; exact q114_) | exact hr0_)
        · have e9_ : S_.2.2.1 67 0 a3_.toNat = S0_.2.2.1 67 0 a3_.toNat := by rw [f67_]
          rw [show (vw_ + 1).toNat = vw_.toNat + 1 by omega, cfo_s]
          rw [e9_, htb_, hmk_] at cx3_
          first | (have y8_ := r114_; have h9_ : (fun v_ => decide (S0_.2.2.1 69 0 (48 * a2_.toNat + v_) = i_xor (S0_.2.2.1 67 0 a3_.toNat) (if (S0_.2.2.1 55 (0 + ll_) a2_.toNat) = 2 then 15 else 255))) vw_.toNat = true := decide_eq_true (Classical.byContradiction (fun u9_ => cx3_ u9_)); rw [wvs_h h9_, show ((a2_.toNat : Nat) : Int) = a2_ by omega]; exact r114_) | (have h9_ : ¬ ((fun v_ => decide (S0_.2.2.1 69 0 (48 * a2_.toNat + v_) = i_xor (S0_.2.2.1 67 0 a3_.toNat) (if (S0_.2.2.1 55 (0 + ll_) a2_.toNat) = 2 then 15 else 255))) vw_.toNat = true) := fun u9_ => cx3_ (of_decide_eq_true u9_); rw [wvs_n h9_]; exact hr1_)
        · exact hmk_
        · omega
        · first | exact hf_ | exact wfn_tr hf_ (wfn_l w114_ (by omega))
        · omega
      · have cx3_ : ¬ (tb_ ≠ (i_xor (S_.2.2.1 67 0 a3_.toNat) mk_)) := of_decide_eq_false cx3_
        refine sm_T_go 3 (c1 := (107, [some (.inr (.inr (some (6, 0)))), some (.inl a1_), some (.inl a2_), some (.inl a3_), some (.inl is_), some (.inl mk_), some (.inl ct), some (.inl vw_), some (.inl tb_)], [.inl a1_, .inl 2, .inr (.inr (some (6, 0)))], S_)) rfl ?_
        refine sm_T_bin (w := 2 * a1_) rfl (bi_mul (by omega) (by omega) (by omega)) ?_ -- pc_ 107
        refine sm_T_go 1 (c1 := (109, [some (.inr (.inr (some (6, 0)))), some (.inl a1_), some (.inl a2_), some (.inl a3_), some (.inl is_), some (.inl mk_), some (.inl ct), some (.inl vw_), some (.inl tb_)], [.inl 1, .inl (2 * a1_), .inr (.inr (some (6, 0)))], S_)) rfl ?_
        refine sm_T_bin (w := 2 * a1_ + 1) rfl (bi_add (by omega) (by omega) (by omega)) ?_ -- pc_ 109
        refine sm_T_go 3 (c1 := (114, [some (.inr (.inr (some (6, 0)))), some (.inl a1_), some (.inl a2_), some (.inl a3_), some (.inl is_), some (.inl mk_), some (.inl ct), some (.inl vw_), some (.inl tb_)], [.inl vw_, .inl a3_, .inl a2_, .inl (2 * a1_ + 1), .inr (.inr (some (6, 0)))], S_)) rfl ?_
        refine sm_T_cal (d1 := 2) (Q1 := vq_108n (2 * a1_ + 1) a2_ a3_ vw_ dd_ ll_ a1_ c_ (cfo (wvs adc (pcc (1 + S0_.1 3 dd_ 1 + S0_.1 3 dd_ 2) ll_ S0_) (fun v_ => decide (S0_.2.2.1 69 0 (48 * a2_.toNat + v_) = i_xor (S0_.2.2.1 67 0 a3_.toNat) (if (S0_.2.2.1 55 (0 + ll_) a2_.toNat) = 2 then 15 else 255))) (S0_.2.2.1 57 (0 + ll_) a2_.toNat) a2_.toNat c_ (S0_.2.2.1 55 (0 + ll_) a2_.toNat).toNat) (vw_.toNat) b1_) S_) rfl rfl (by decide) (vc_108n (2 * a1_ + 1) a2_ a3_ vw_ dd_ ll_ a1_ c_ (cfo (wvs adc (pcc (1 + S0_.1 3 dd_ 1 + S0_.1 3 dd_ 2) ll_ S0_) (fun v_ => decide (S0_.2.2.1 69 0 (48 * a2_.toNat + v_) = i_xor (S0_.2.2.1 67 0 a3_.toNat) (if (S0_.2.2.1 55 (0 + ll_) a2_.toNat) = 2 then 15 else 255))) (S0_.2.2.1 57 (0 + ll_) a2_.toNat) a2_.toNat c_ (S0_.2.2.1 55 (0 + ll_) a2_.toNat).toNat) (vw_.toNat) b1_) S_ hI_ (by (intro j9_ u9_; rw [fr_arr (t := 65) (i := 0) hF_ rfl]; exact hcv_ j9_ u9_)) (by exact hr1_) (by exact (hF_.2.1 6 0 0 rfl).trans hd_) (by exact (hF_.2.1 6 0 1 rfl).trans hc_) (by omega) (by omega) (by (first | omega | (rw [hF_.1 6 0 11 rfl]; omega))) (by (rw [fr_arr (t := 55) (i := 0 + ll_) hF_ rfl, fr_arr (t := 65) (i := 0) hF_ rfl]; rcases his_ with w9_ | w9_; (left; omega); (right; exact ⟨w9_.1, by omega, by omega, w9_.2⟩))) (by (rw [fr_arr (t := 59) (i := 0) hF_ rfl]; exact mcs_fr hcs_ hF_)) (by (rw [hF_.1 3 dd_ 1 rfl, hF_.1 3 dd_ 2 rfl]; exact hv1_))) (fun u_ Sx4_ px7_ => ?_)
        obtain ⟨rfl, hIx5_, hFx6_, px7_⟩ := px7_
        have hFx8_ : ai_fr (sx_W vw_107n) S0_ Sx4_ := ai_fr_tr hF_ (fr_le hFx6_ rfl)
        have o114_ : wo3 (1 + S0_.1 3 dd_ 1 + S0_.1 3 dd_ 2) a1_ ll_ Sx4_ (2 * a1_ + 1).toNat := by (have z9_ := (px7_).1.1; rw [f1_, f2_] at z9_; exact z9_)
        have w114_ := (px7_).1.2
        have c114_ : cco adc (pcc (1 + S0_.1 3 dd_ 1 + S0_.1 3 dd_ 2) ll_ S_) (S0_.2.2.1 57 (0 + ll_) a2_.toNat) c_ (S0_.2.2.1 55 (0 + ll_) a2_.toNat).toNat vw_.toNat (S0_.2.2.1 55 (0 + ll_) a2_.toNat).toNat = cco adc (pcc (1 + S0_.1 3 dd_ 1 + S0_.1 3 dd_ 2) ll_ S0_) (S0_.2.2.1 57 (0 + ll_) a2_.toNat) c_ (S0_.2.2.1 55 (0 + ll_) a2_.toNat).toNat vw_.toNat (S0_.2.2.1 55 (0 + ll_) a2_.toNat).toNat := cco_cg _ (fun k9_ u9_ => by (have z9_ := cdn_e (V_ := S0_.2.2.1 65 0) (k_ := (k9_ : Int)) (v_ := vw_) (p_ := plo (S0_.2.2.1 55 (0 + ll_) a2_.toNat) (i_shr vw_ (S0_.2.2.1 55 (0 + ll_) a2_.toNat)) (k9_ : Int)) hcv_ h3_.1 (by omega) (by omega) rfl (by (have y9_ := vor (v_ := vw_) (e_ := (S0_.2.2.1 55 (0 + ll_) a2_.toNat)) (by omega) (by omega); have w9_ := plo_i (ip_ := (S0_.2.2.1 55 (0 + ll_) a2_.toNat)) (o_ := i_shr vw_ (S0_.2.2.1 55 (0 + ll_) a2_.toNat)) (k_ := (k9_ : Int)) (by omega); have u8_ := iat_b (sz_ := (S0_.2.2.1 55 (0 + ll_) a2_.toNat)) (o_ := i_shr vw_ (S0_.2.2.1 55 (0 + ll_) a2_.toNat)) (k_ := (k9_ : Int)) (by omega) (by omega) (by omega); rw [w9_]; omega)); rw [Int.toNat_natCast] at z9_; have y9_ := vor (v_ := vw_) (e_ := (S0_.2.2.1 55 (0 + ll_) a2_.toNat)) (by omega) (by omega); have w9_ := plo_i (ip_ := (S0_.2.2.1 55 (0 + ll_) a2_.toNat)) (o_ := i_shr vw_ (S0_.2.2.1 55 (0 + ll_) a2_.toNat)) (k_ := (k9_ : Int)) (by omega); have u8_ := iat_b (sz_ := (S0_.2.2.1 55 (0 + ll_) a2_.toNat)) (o_ := i_shr vw_ (S0_.2.2.1 55 (0 + ll_) a2_.toNat)) (k_ := (k9_ : Int)) (by omega) (by omega) (by omega); have nx9_ : npd a1_ (S0_.2.2.1 59 0) (S0_.2.2.1 65 0 (3 * a3_ + plo (S0_.2.2.1 55 (0 + ll_) a2_.toNat) (i_shr vw_ (S0_.2.2.1 55 (0 + ll_) a2_.toNat)) (k9_ : Int)).toNat) := mcs_b hcs_ h3_ (by (rw [w9_]; omega)) (fun q9_ => by rcases his_ with x9_ | x9_; (exfalso; rw [w9_] at q9_; omega); exact x9_.2); rw [z9_]; exact pcc_cg (n_ := a1_) ⟨by have := nx9_.1; omega, nx9_.2.1⟩ (by omega) f60_ (fun j9_ v9_ => (hf_.1 j9_ (by omega) (by omega)).1) f5_ f57_))
        have r114_ := (px7_).2
        rw [f55_, f57_, f1_, f2_, c114_] at r114_
        have q114_ : wrc ll_ Sx4_ (2 * a1_).toNat (cfo (wvs adc (pcc (1 + S0_.1 3 dd_ 1 + S0_.1 3 dd_ 2) ll_ S0_) (fun v_ => decide (S0_.2.2.1 69 0 (48 * a2_.toNat + v_) = S0_.2.2.1 67 0 a3_.toNat)) (S0_.2.2.1 57 (0 + ll_) a2_.toNat) a2_.toNat c_ (S0_.2.2.1 55 (0 + ll_) a2_.toNat).toNat) (vw_.toNat + 1) b0_) := wrc_f hr0_ w114_ (by omega) (fr_arr hFx6_ rfl) (fun k9_ => (hI_.2 55 (0 + ll_) k9_).2)
        have x114_ : wo3 (1 + S0_.1 3 dd_ 1 + S0_.1 3 dd_ 2) a1_ ll_ Sx4_ (2 * a1_).toNat := wo3_cg hv0_ w114_ (by omega) (by omega) (hFx6_.1 5 ll_ 2 rfl) (fr_arr hFx6_ rfl) (fr_arr hFx6_ rfl) (fr_arr hFx6_ rfl) (fun k9_ => (hI_.2 55 (0 + ll_) k9_).2)
        refine sm_T_inc (a := 7) (z := 1) (v := vw_) (w := vw_ + 1) rfl rfl (by omega) (by omega) (by omega) ?_ -- pc_ 117
        refine sm_T_go 1 (c1 := (47, [some (.inr (.inr (some (6, 0)))), some (.inl a1_), some (.inl a2_), some (.inl a3_), some (.inl is_), some (.inl mk_), some (.inl ct), some (.inl (vw_ + 1)), some (.inl tb_)], [], Sx4_)) rfl ?_
        refine sm_T_wk [some (.inr (.inr (some (6, 0)))), some (.inl a1_), some (.inl a2_), some (.inl a3_), some (.inl is_), some (.inl mk_), some (.inl ct), some (.inl (vw_ + 1)), none] (by exact ⟨rfl, rfl, rfl, rfl, rfl, rfl, rfl, rfl, trivial⟩) ?_
        refine ih_.1 is_ mk_ ct (vw_ + 1) Sx4_ hIx5_ hFx8_ ⟨?_, ?_, ?_, ?_, ?_, ?_, ?_, ?_, trivial⟩ ?_
        · omega
        · first | exact hv0_ | exact x114_
        · first | exact hv1_ | exact o114_
        · (rw [show (vw_ + 1).toNat = vw_.toNat + 1 by omega]; first | (have y8_ := r114_; exact q114_) | exact hr0_)
        · have e9_ : S_.2.2.1 67 0 a3_.toNat = S0_.2.2.1 67 0 a3_.toNat := by rw [f67_]
          rw [show (vw_ + 1).toNat = vw_.toNat + 1 by omega, cfo_s]
          rw [e9_, htb_, hmk_] at cx3_
          first | (have y8_ := r114_; have h9_ : (fun v_ => decide (S0_.2.2.1 69 0 (48 * a2_.toNat + v_) = i_xor (S0_.2.2.1 67 0 a3_.toNat) (if (S0_.2.2.1 55 (0 + ll_) a2_.toNat) = 2 then 15 else 255))) vw_.toNat = true := decide_eq_true (Classical.byContradiction (fun u9_ => cx3_ u9_)); rw [wvs_h h9_, show ((a2_.toNat : Nat) : Int) = a2_ by omega]; exact r114_) | (have h9_ : ¬ ((fun v_ => decide (S0_.2.2.1 69 0 (48 * a2_.toNat + v_) = i_xor (S0_.2.2.1 67 0 a3_.toNat) (if (S0_.2.2.1 55 (0 + ll_) a2_.toNat) = 2 then 15 else 255))) vw_.toNat = true) := fun u9_ => cx3_ (of_decide_eq_true u9_); rw [wvs_n h9_]; exact hr1_)
        · exact hmk_
        · omega
        · first | exact hf_ | exact wfn_tr hf_ (wfn_l w114_ (by omega))
        · omega
set_option maxHeartbeats 3000000 in
theorem vc_107n {sc_ : Nat × (Nat → Int)} (a1_ : Int) (a2_ : Int) (a3_ : Int) (dd_ : Nat) (ll_ : Nat) (c_ : List Nat) (b0_ : Int × Int × Int × (Nat → Int)) (b1_ : Int × Int × Int × (Nat → Int)) (S0_ : sm_S) (hI_ : gi S0_) (hcv_ : ∀ j_ : Nat, j_ < 3 → S0_.2.2.1 65 0 (3 * a3_.toNat + j_) = cva c_ j_) (hb0_ : wrc ll_ S0_ (2 * a1_).toNat b0_) (hb1_ : wrc ll_ S0_ (2 * a1_ + 1).toNat b1_) (hd_ : S0_.2.1 6 0 0 = some dd_) (hc_ : S0_.2.1 6 0 1 = some ll_) (h1_ : 1 ≤ a1_ ∧ a1_ ≤ 1012) (h2_ : 0 ≤ a2_ ∧ a2_ ≤ 11) (h3_ : 0 ≤ a3_ ∧ a3_ < S0_.1 6 0 11) (his_ : (S0_.2.2.1 55 (0 + ll_) a2_.toNat) = 2 ∨ ((S0_.2.2.1 55 (0 + ll_) a2_.toNat) = 3 ∧ S0_.2.2.1 65 0 (3 * a3_ + 2).toNat ≠ -1)) (hcs_ : mcs (npd a1_ (S0_.2.2.1 59 0)) S0_) (hw0_ : wo3 (1 + S0_.1 3 dd_ 1 + S0_.1 3 dd_ 2) a1_ ll_ S0_ (2 * a1_).toNat) (hw1_ : wo3 (1 + S0_.1 3 dd_ 1 + S0_.1 3 dd_ 2) a1_ ll_ S0_ (2 * a1_ + 1).toNat) : sm_T (mt_P sc_) 3 107 (0, [some (.inr (.inr (some (6, 0)))), some (.inl a1_), some (.inl a2_), some (.inl a3_), none, none, none, none, none], [], S0_) (fun ro9_ => ∃ u_ S1_, ro9_ = (.inl u_, S1_, 0) ∧ vq_107n a1_ a2_ a3_ dd_ ll_ c_ b0_ b1_ S0_ u_ S1_) := by
  have hF_ : ai_fr (sx_W vw_107n) S0_ S0_ := ai_fr_rf
  have ck0_ : 0 ≤ S0_.1 6 0 11 ∧ S0_.1 6 0 11 ≤ 1024 := hI_.1 6 0 11 rfl
  refine sm_T_go 1 (c1 := (1, [some (.inr (.inr (some (6, 0)))), some (.inl a1_), some (.inl a2_), some (.inl a3_), none, none, none, none, none], [.inr (.inr (some (6, 0)))], S0_)) rfl ?_
  refine sm_T_gr rfl rfl ((hF_.2.1 6 0 1 rfl).trans hc_) ?_
  refine sm_T_go 2 (c1 := (8, [some (.inr (.inr (some (6, 0)))), some (.inl a1_), some (.inl a2_), some (.inl a3_), none, none, none, none, none], [.inl a2_, .inr (.inr (some (55, (0 + ll_))))], S0_)) rfl ?_
  refine sm_T_iald (n := 12) rfl rfl (by omega) (by omega) ?_
  have bx1_ : 0 ≤ S0_.2.2.1 55 (0 + ll_) a2_.toNat ∧ S0_.2.2.1 55 (0 + ll_) a2_.toNat ≤ 3 := hI_.2 55 (0 + ll_) _
  refine sm_T_go 3 (c1 := (14, [some (.inr (.inr (some (6, 0)))), some (.inl a1_), some (.inl a2_), some (.inl a3_), some (.inl (S0_.2.2.1 55 (0 + ll_) a2_.toNat)), none, none, none, none], [.inl 2, .inl (S0_.2.2.1 55 (0 + ll_) a2_.toNat)], S0_)) rfl ?_
  refine sm_T_br (a := 1) (z := 8) rfl (fun cx2_ => ?_) (fun cx2_ => ?_)
  · have cx2_ : (S0_.2.2.1 55 (0 + ll_) a2_.toNat) ≠ 2 := of_decide_eq_true cx2_
    refine sm_T_go 4 (c1 := (30, [some (.inr (.inr (some (6, 0)))), some (.inl a1_), some (.inl a2_), some (.inl a3_), some (.inl (S0_.2.2.1 55 (0 + ll_) a2_.toNat)), some (.inl 255), none, none, none], [.inl 2, .inl (S0_.2.2.1 55 (0 + ll_) a2_.toNat)], S0_)) rfl ?_
    refine sm_T_br (a := 1) (z := 7) rfl (fun cx3_ => ?_) (fun cx3_ => ?_)
    · have cx3_ : (S0_.2.2.1 55 (0 + ll_) a2_.toNat) ≠ 2 := of_decide_eq_true cx3_
      refine sm_T_go 2 (c1 := (41, [some (.inr (.inr (some (6, 0)))), some (.inl a1_), some (.inl a2_), some (.inl a3_), some (.inl (S0_.2.2.1 55 (0 + ll_) a2_.toNat)), some (.inl 255), none, none, none], [.inl (S0_.2.2.1 55 (0 + ll_) a2_.toNat), .inl 6], S0_)) rfl ?_
      refine sm_T_bin (w := (i_shl 6 (S0_.2.2.1 55 (0 + ll_) a2_.toNat))) rfl rfl ?_ -- pc_ 41
      have vp9_ := vpw (e_ := (S0_.2.2.1 55 (0 + ll_) a2_.toNat)) (by omega)
      refine sm_T_go 3 (c1 := (47, [some (.inr (.inr (some (6, 0)))), some (.inl a1_), some (.inl a2_), some (.inl a3_), some (.inl (S0_.2.2.1 55 (0 + ll_) a2_.toNat)), some (.inl 255), some (.inl (i_shl 6 (S0_.2.2.1 55 (0 + ll_) a2_.toNat))), some (.inl 0), none], [], S0_)) rfl ?_
      refine (vl_107n a1_ a2_ a3_ dd_ ll_ c_ b0_ b1_ S0_ hcv_ hb0_ hb1_ hd_ hc_ h1_ h2_ h3_ his_ hcs_ hw0_ hw1_ _).1 (S0_.2.2.1 55 (0 + ll_) a2_.toNat) 255 (i_shl 6 (S0_.2.2.1 55 (0 + ll_) a2_.toNat)) 0 S0_ hI_ hF_ ⟨?_, ?_, ?_, ?_, ?_, ?_, ?_, ?_, trivial⟩ (Nat.lt_succ_self _)
      · omega
      · exact hw0_
      · exact hw1_
      · exact hb0_
      · exact hb1_
      · first | (exfalso; omega) | (rw [if_pos (by omega)]) | (rw [if_neg (by omega)])
      · omega
      · exact wfn_rf
    · have cx3_ : ¬ ((S0_.2.2.1 55 (0 + ll_) a2_.toNat) ≠ 2) := of_decide_eq_false cx3_
      refine sm_T_go 3 (c1 := (41, [some (.inr (.inr (some (6, 0)))), some (.inl a1_), some (.inl a2_), some (.inl a3_), some (.inl (S0_.2.2.1 55 (0 + ll_) a2_.toNat)), some (.inl 255), none, none, none], [.inl (S0_.2.2.1 55 (0 + ll_) a2_.toNat), .inl 2], S0_)) rfl ?_
      refine sm_T_bin (w := (i_shl 2 (S0_.2.2.1 55 (0 + ll_) a2_.toNat))) rfl rfl ?_ -- pc_ 41
      have vp9_ := vpw (e_ := (S0_.2.2.1 55 (0 + ll_) a2_.toNat)) (by omega)
      refine sm_T_go 3 (c1 := (47, [some (.inr (.inr (some (6, 0)))), some (.inl a1_), some (.inl a2_), some (.inl a3_), some (.inl (S0_.2.2.1 55 (0 + ll_) a2_.toNat)), some (.inl 255), some (.inl (i_shl 2 (S0_.2.2.1 55 (0 + ll_) a2_.toNat))), some (.inl 0), none], [], S0_)) rfl ?_
      refine (vl_107n a1_ a2_ a3_ dd_ ll_ c_ b0_ b1_ S0_ hcv_ hb0_ hb1_ hd_ hc_ h1_ h2_ h3_ his_ hcs_ hw0_ hw1_ _).1 (S0_.2.2.1 55 (0 + ll_) a2_.toNat) 255 (i_shl 2 (S0_.2.2.1 55 (0 + ll_) a2_.toNat)) 0 S0_ hI_ hF_ ⟨?_, ?_, ?_, ?_, ?_, ?_, ?_, ?_, trivial⟩ (Nat.lt_succ_self _)
      · omega
      · exact hw0_
      · exact hw1_
      · exact hb0_
      · exact hb1_
      · first | (exfalso; omega) | (rw [if_pos (by omega)]) | (rw [if_neg (by omega)])
      · omega
      · exact wfn_rf
  · have cx2_ : ¬ ((S0_.2.2.1 55 (0 + ll_) a2_.toNat) ≠ 2) := of_decide_eq_false cx2_
    refine sm_T_go 5 (c1 := (30, [some (.inr (.inr (some (6, 0)))), some (.inl a1_), some (.inl a2_), some (.inl a3_), some (.inl (S0_.2.2.1 55 (0 + ll_) a2_.toNat)), some (.inl 15), none, none, none], [.inl 2, .inl (S0_.2.2.1 55 (0 + ll_) a2_.toNat)], S0_)) rfl ?_
    refine sm_T_br (a := 1) (z := 7) rfl (fun cx6_ => ?_) (fun cx6_ => ?_)
    · have cx6_ : (S0_.2.2.1 55 (0 + ll_) a2_.toNat) ≠ 2 := of_decide_eq_true cx6_
      exfalso; omega
    · have cx6_ : ¬ ((S0_.2.2.1 55 (0 + ll_) a2_.toNat) ≠ 2) := of_decide_eq_false cx6_
      refine sm_T_go 3 (c1 := (41, [some (.inr (.inr (some (6, 0)))), some (.inl a1_), some (.inl a2_), some (.inl a3_), some (.inl (S0_.2.2.1 55 (0 + ll_) a2_.toNat)), some (.inl 15), none, none, none], [.inl (S0_.2.2.1 55 (0 + ll_) a2_.toNat), .inl 2], S0_)) rfl ?_
      refine sm_T_bin (w := (i_shl 2 (S0_.2.2.1 55 (0 + ll_) a2_.toNat))) rfl rfl ?_ -- pc_ 41
      have vp9_ := vpw (e_ := (S0_.2.2.1 55 (0 + ll_) a2_.toNat)) (by omega)
      refine sm_T_go 3 (c1 := (47, [some (.inr (.inr (some (6, 0)))), some (.inl a1_), some (.inl a2_), some (.inl a3_), some (.inl (S0_.2.2.1 55 (0 + ll_) a2_.toNat)), some (.inl 15), some (.inl (i_shl 2 (S0_.2.2.1 55 (0 + ll_) a2_.toNat))), some (.inl 0), none], [], S0_)) rfl ?_
      refine (vl_107n a1_ a2_ a3_ dd_ ll_ c_ b0_ b1_ S0_ hcv_ hb0_ hb1_ hd_ hc_ h1_ h2_ h3_ his_ hcs_ hw0_ hw1_ _).1 (S0_.2.2.1 55 (0 + ll_) a2_.toNat) 15 (i_shl 2 (S0_.2.2.1 55 (0 + ll_) a2_.toNat)) 0 S0_ hI_ hF_ ⟨?_, ?_, ?_, ?_, ?_, ?_, ?_, ?_, trivial⟩ (Nat.lt_succ_self _)
      · omega
      · exact hw0_
      · exact hw1_
      · exact hb0_
      · exact hb1_
      · first | (exfalso; omega) | (rw [if_pos (by omega)]) | (rw [if_neg (by omega)])
      · omega
      · exact wfn_rf
end
