/-! what a module says; written by wip/p55/gen/vg -/

/-! what a_ module says -/
theorem pb_r {α β : Type} {x_ : pE α} {f_ : α → pE β} {a_ : α} (h_ : x_ = .inr a_) : pb x_ f_ = f_ a_ := by rw [h_]; rfl
theorem pb_l {α β : Type} {x_ : pE α} {f_ : α → pE β} {e_ : Int × Nat} (h_ : x_ = .inl e_) : pb x_ f_ = .inl e_ := by rw [h_]; rfl
theorem stk_ex (f_ : Nat → Int) : ∀ k_ : Nat, ∃ l_ : List Int, l_.length = k_ ∧ stk f_ l_
  | 0 => ⟨[], rfl, trivial⟩
  | k_ + 1 => by
    obtain ⟨l_, h1_, h2_⟩ := stk_ex f_ k_
    exact ⟨f_ k_ :: l_, by rw [List.length_cons, h1_], by rw [h1_], h2_⟩
theorem stk_e2 (f_ g_ : Nat → Int) (hg_ : ∀ k_, 0 ≤ g_ k_) : ∀ k_ : Nat, ∃ o_ : List (Int × Nat), o_.length = k_ ∧ stk f_ (o_.map fun x_ => x_.1) ∧ stk g_ (o_.map fun x_ => (x_.2 : Int))
  | 0 => ⟨[], rfl, trivial, trivial⟩
  | k_ + 1 => by
    obtain ⟨o_, h1_, h2_, h3_⟩ := stk_e2 f_ g_ hg_ k_
    refine ⟨(f_ k_, (g_ k_).toNat) :: o_, by rw [List.length_cons, h1_], ⟨?_, h2_⟩, ⟨?_, h3_⟩⟩
    · show f_ (o_.map fun x_ => x_.1).length = f_ k_
      rw [List.length_map, h1_]
    · show g_ (o_.map fun x_ => (x_.2 : Int)).length = ((g_ k_).toNat : Int)
      rw [List.length_map, h1_]
      have := hg_ k_
      omega
theorem xs_ex {S_ : sm_S} {c_ : List Int} (hI_ : gi S_) (hl_ : S_.2.1 7 0 11 = none) (h1_ : S_.1 7 0 2 = (c_.length : Int)) (h2_ : stk (S_.2.2.1 74 0) c_) : ∃ o_ g_, xs false o_ g_ c_ S_ := by
  have b1_ : 0 ≤ S_.1 7 0 14 ∧ S_.1 7 0 14 ≤ 488 := hI_.1 7 0 14 rfl
  have b2_ : 0 ≤ S_.1 7 0 16 ∧ S_.1 7 0 16 ≤ 488 := hI_.1 7 0 16 rfl
  obtain ⟨g_, g1_, g2_⟩ := stk_ex (S_.2.2.1 84 0) (S_.1 7 0 16).toNat
  obtain ⟨o_, o1_, o2_, o3_⟩ := stk_e2 (S_.2.2.1 82 0) (S_.2.2.1 83 0) (fun k_ => (show 0 ≤ S_.2.2.1 83 0 k_ ∧ S_.2.2.1 83 0 k_ ≤ 1280 from hI_.2 83 0 k_).1) (S_.1 7 0 14).toNat
  refine ⟨o_, g_, by omega, by omega, o2_, o3_, g2_, ⟨fun _ => rfl, fun _ => hl_⟩, fun _ => ⟨h1_, h2_⟩⟩
/-! widths, new_ names, telling -/
def p_wi (b_ : Nat → Int) (n_ p_ : Nat) : pE (Nat × Int) := if lx_kd b_ n_ p_ = 58 then pb (p_ad b_ n_ p_) fun q_ => pb (p_nu b_ n_ 1 8 q_) fun w_ => pb (p_ad b_ n_ q_) fun r_ => .inr (r_, w_) else .inr (p_, 1)
def a_te (A_ : pA) (M_ p_ : Nat) (so_ wd_ dt_ : Int) : pA := (fun m_ => if m_ = M_ then A_.1 M_ + 1 else A_.1 m_, fun i_ => if i_ = 40 * M_ + A_.1 M_ then p_ else A_.2.1 i_, fun i_ => if i_ = 40 * M_ + A_.1 M_ then so_ else A_.2.2.1 i_, fun i_ => if i_ = 40 * M_ + A_.1 M_ then wd_ else A_.2.2.2.1 i_, fun i_ => if i_ = 40 * M_ + A_.1 M_ then dt_ else A_.2.2.2.2 i_)
def a_dr (A_ : pA) (k_ : Nat) : pA := (A_.1, A_.2.1, fun i_ => if i_ = k_ then 4 else A_.2.2.1 i_, A_.2.2.2.1, A_.2.2.2.2)
def p_nw (b_ : Nat → Int) (n_ : Nat) (A_ : pA) (M_ p_ : Nat) : pE Nat := p_nn b_ n_ (A_.1 M_) (fun s_ => A_.2.1 (40 * M_ + s_)) 40 p_
abbrev pT : Type := pA × List Int × Nat
def p_xd (b_ : Nat → Int) (n_ : Nat) (A_ : pA) (M_ : Nat) (c_ : List Int) (p_ : Nat) : pE pR := p_ex b_ n_ false (p_pd b_ n_ A_ M_) c_ p_
def p_in (b_ : Nat → Int) (n_ : Nat) (A_ : pA) (M_ : Nat) (c_ : List Int) (p_ : Nat) : pE pT := pb (p_ad b_ n_ p_) fun q_ => pb (p_nw b_ n_ A_ M_ q_) fun r_ => pb (p_wi b_ n_ r_) fun u_ => pb (p_nd b_ n_ 59 u_.1) fun y_ => .inr (a_te A_ M_ q_ 0 u_.2 0, c_, y_)
def p_va (b_ : Nat → Int) (n_ : Nat) (A_ : pA) (M_ : Nat) (so_ : Int) (c_ : List Int) (p_ : Nat) : pE pT := pb (p_ad b_ n_ p_) fun q_ => pb (p_nw b_ n_ A_ M_ q_) fun r_ => pb (p_wi b_ n_ r_) fun u_ => pb (p_nd b_ n_ 61 u_.1) fun v_ => pb (p_xd b_ n_ A_ M_ c_ v_) fun x_ => if h_tp x_.2.1 = u_.2 then pb (p_nd b_ n_ 59 x_.1) fun y_ => .inr (a_te A_ M_ q_ so_ u_.2 0, cw 12 (A_.1 M_) 0 :: x_.2.2, y_) else .inl (13, u_.1)
def p_rb (b_ : Nat → Int) (n_ : Nat) (w_ : Int) (p_ : Nat) : pE (Nat × Int) := if lx_kd b_ n_ p_ = 61 then pb (p_ad b_ n_ p_) fun q_ => pb (p_nu b_ n_ 0 (2 ^ w_.toNat - 1) q_) fun x_ => pb (p_ad b_ n_ q_) fun r_ => .inr (r_, x_) else .inr (p_, 0)
def p_re (b_ : Nat → Int) (n_ : Nat) (A_ : pA) (M_ : Nat) (c_ : List Int) (p_ : Nat) : pE pT := pb (p_ad b_ n_ p_) fun q_ => pb (p_nw b_ n_ A_ M_ q_) fun r_ => pb (p_wi b_ n_ r_) fun u_ => pb (p_rb b_ n_ u_.2 u_.1) fun z_ => pb (p_nd b_ n_ 59 z_.1) fun y_ => .inr (a_te A_ M_ q_ 3 u_.2 z_.2, cw 13 (A_.1 M_) 0 :: c_, y_)
def p_ne (b_ : Nat → Int) (n_ : Nat) (A_ : pA) (M_ : Nat) (c_ : List Int) (p_ : Nat) : pE pT := if p_fn b_ n_ A_ M_ p_ = -1 ∨ A_.2.2.1 (40 * M_ + (p_fn b_ n_ A_ M_ p_).toNat) ≠ 3 then .inl (11, p_) else pb (p_ad b_ n_ p_) fun q_ => pb (p_nd b_ n_ 256 q_) fun r_ => pb (p_xd b_ n_ A_ M_ c_ r_) fun x_ => if h_tp x_.2.1 = A_.2.2.2.1 (40 * M_ + (p_fn b_ n_ A_ M_ p_).toNat) then pb (p_nd b_ n_ 59 x_.1) fun y_ => .inr (a_dr A_ (40 * M_ + (p_fn b_ n_ A_ M_ p_).toNat), cw 14 (p_fn b_ n_ A_ M_ p_) 0 :: x_.2.2, y_) else .inl (13, q_)
/-! the_ modules' names -/
def p_fm (b_ : Nat → Int) (n_ : Nat) (N_ : Nat → Nat) (M_ p_ : Nat) : Int := p_fd (fun m_ => nm_q b_ n_ (N_ m_) p_) M_
def p_ni (A_ : pA) (m_ k_ : Nat) : Int := p_fd (fun s_ => decide (k_ ≤ s_) && decide (A_.2.2.1 (40 * m_ + s_) = 0)) (A_.1 m_)
def p_ae (b_ : Nat → Int) (n_ pl_ : Nat) (t_ : Bool) (c_ : List Int) (p_ : Nat) : pE (List Int × Nat) := if lx_kd b_ n_ p_ = 41 ∧ t_ = true then .inl (14, pl_) else pb (p_nd b_ n_ 41 p_) fun q_ => .inr (c_, q_)
def p_a1 (A_ : pA) (m_ s_ : Nat) (i_ : Int) (l_ : List Int) : List Int := if i_ = -1 then l_ else cw 16 s_ i_ :: l_
def p_a2 (A_ : pA) (m_ : Nat) (i_ : Int) : Int := if i_ = -1 then -1 else p_ni A_ m_ (i_.toNat + 1)
def p_ar (b_ : Nat → Int) (n_ : Nat) (A_ : pA) (M_ m_ s_ pl_ : Nat) : Nat → Int → List Int → Nat → pE (List Int × Nat)
  | 0, _, _, _ => .inl (0, 0)
  | f_ + 1, i_, c_, p_ => pb (p_xd b_ n_ A_ M_ c_ p_) fun x_ => if i_ ≠ -1 ∧ h_tp x_.2.1 ≠ A_.2.2.2.1 (40 * m_ + i_.toNat) then .inl (13, p_) else if lx_kd b_ n_ x_.1 = 44 then (if p_a2 A_ m_ i_ = -1 then .inl (14, pl_) else pb (p_ad b_ n_ x_.1) fun q_ => p_ar b_ n_ A_ M_ m_ s_ pl_ f_ (p_a2 A_ m_ i_) (p_a1 A_ m_ s_ i_ x_.2.2) q_) else p_ae b_ n_ pl_ (decide (i_ = -1 ∨ p_a2 A_ m_ i_ ≠ -1)) (p_a1 A_ m_ s_ i_ x_.2.2) x_.1
def p_ua (b_ : Nat → Int) (n_ : Nat) (A_ : pA) (M_ m_ s_ pl_ : Nat) (c_ : List Int) (p_ : Nat) : pE (List Int × Nat) := if lx_kd b_ n_ p_ = 41 then p_ae b_ n_ pl_ (decide (p_ni A_ m_ 0 ≠ -1)) c_ p_ else p_ar b_ n_ A_ M_ m_ s_ pl_ (n_ + 1) (p_ni A_ m_ 0) c_ p_
def p_us (b_ : Nat → Int) (n_ : Nat) (A_ : pA) (N_ : Nat → Nat) (M_ : Nat) (c_ : List Int) (p_ : Nat) : pE pT := pb (p_ad b_ n_ p_) fun q_ => pb (p_nw b_ n_ A_ M_ q_) fun r_ => if lx_kd b_ n_ r_ = 1 then (if p_fm b_ n_ N_ M_ r_ = -1 then .inl (11, r_) else pb (p_ad b_ n_ r_) fun u_ => pb (p_nd b_ n_ 40 u_) fun v_ => pb (p_ua b_ n_ A_ M_ (p_fm b_ n_ N_ M_ r_).toNat (A_.1 M_) q_ (cw 15 (A_.1 M_) 0 :: c_) v_) fun x_ => pb (p_nd b_ n_ 59 x_.2) fun y_ => .inr (a_te A_ M_ q_ 5 0 (p_fm b_ n_ N_ M_ r_), cw 17 (A_.1 M_) (p_fm b_ n_ N_ M_ r_) :: x_.1, y_)) else .inl (2, r_)
/-! what the_ class holds of_ a_ design -/
def nr (b_ : Nat → Int) (n_ : Nat) (N_ : Nat → Nat) (M_ : Nat) (S_ : sm_S) : Prop := M_ ≤ 16 ∧ ∀ m_, m_ < M_ → S_.2.2.1 75 0 m_ = (16 * N_ m_ + lx_sz b_ n_ (N_ m_) : Nat) ∧ nmp b_ n_ (N_ m_)
def cr (c_ : List Int) (S_ : sm_S) : Prop := S_.2.1 7 0 11 = none ∧ S_.1 7 0 2 = (c_.length : Int) ∧ stk (S_.2.2.1 74 0) c_
def dr (b_ : Nat → Int) (n_ : Nat) (A_ : pA) (N_ : Nat → Nat) (M_ : Nat) (c_ : List Int) (S_ : sm_S) : Prop := er b_ n_ A_ M_ S_ ∧ nr b_ n_ N_ M_ S_ ∧ cr c_ S_
theorem nr_fr {w_ : sx_Wl} {S_ S'_ : sm_S} {b_ : Nat → Int} {n_ M_ : Nat} {N_ : Nat → Nat} (x_ : nr b_ n_ N_ M_ S_) (g_ : ai_fr (sx_W w_) S_ S'_) (h0_ : (sx_W w_).2.1 75 = false) : nr b_ n_ N_ M_ S'_ := by
  unfold nr at x_ ⊢
  rw [fr_arr g_ h0_]
  exact x_
theorem cr_fr {w_ : sx_Wl} {S_ S'_ : sm_S} {c_ : List Int} (x_ : cr c_ S_) (g_ : ai_fr (sx_W w_) S_ S'_) (h0_ : (sx_W w_).2.2 7 11 = false) (h1_ : (sx_W w_).1 7 2 = false) (h2_ : (sx_W w_).2.1 74 = false) : cr c_ S'_ := by
  unfold cr at x_ ⊢
  rw [fr_arr g_ h2_, g_.1 7 0 2 h1_, g_.2.1 7 0 11 h0_]
  exact x_
theorem dr_fr {w_ : sx_Wl} {S_ S'_ : sm_S} {b_ : Nat → Int} {n_ M_ : Nat} {A_ : pA} {N_ : Nat → Nat} {c_ : List Int} (x_ : dr b_ n_ A_ N_ M_ c_ S_) (g_ : ai_fr (sx_W w_) S_ S'_) (h0_ : (sx_W w_).2.1 77 = false) (h1_ : (sx_W w_).2.1 78 = false) (h2_ : (sx_W w_).2.1 79 = false) (h3_ : (sx_W w_).2.1 80 = false) (h4_ : (sx_W w_).2.1 81 = false) (h5_ : (sx_W w_).1 7 3 = false) (h6_ : (sx_W w_).2.1 75 = false) (h7_ : (sx_W w_).2.2 7 11 = false) (h8_ : (sx_W w_).1 7 2 = false) (h9_ : (sx_W w_).2.1 74 = false) : dr b_ n_ A_ N_ M_ c_ S'_ :=
  ⟨er_fr x_.1 g_ h0_ h1_ h2_ h3_ h4_ h5_, nr_fr x_.2.1 g_ h6_, cr_fr x_.2.2 g_ h7_ h8_ h9_⟩
/-- a_ name is_ told -/
theorem a_te_ok {b_ : Nat → Int} {n_ M_ p_ : Nat} {A_ : pA} {so_ wd_ dt_ : Int} (h_ : a_ok b_ n_ A_ M_) (hc_ : A_.1 M_ < 40) (hp_ : nmp b_ n_ p_) (h1_ : 0 ≤ so_ ∧ so_ ≤ 5) (h2_ : 0 ≤ wd_ ∧ wd_ ≤ 8) (h3_ : so_ ≠ 5 → 1 ≤ wd_) (h4_ : so_ = 5 → 0 ≤ dt_ ∧ dt_ < M_) (h5_ : 0 ≤ dt_ ∧ dt_ ≤ 255) : a_ok b_ n_ (a_te A_ M_ p_ so_ wd_ dt_) M_ := by
  refine ⟨h_.1, fun m_ hm_ => ?_⟩
  have hh_ := h_.2 m_ hm_
  by_cases e_ : m_ = M_
  · subst e_
    refine ⟨?_, fun s_ hs_ => ?_⟩
    · show (if m_ = m_ then A_.1 m_ + 1 else A_.1 m_) ≤ 40
      rw [if_pos rfl]; omega
    · have hs_ : s_ < (if m_ = m_ then A_.1 m_ + 1 else A_.1 m_) := hs_
      rw [if_pos rfl] at hs_
      simp only [a_te]
      by_cases e_ : s_ = A_.1 m_
      · rw [if_pos (by omega), if_pos (by omega), if_pos (by omega), if_pos (by omega)]
        exact ⟨hp_, h1_, h2_, h3_, h4_, h5_⟩
      · rw [if_neg (by omega), if_neg (by omega), if_neg (by omega), if_neg (by omega)]
        exact hh_.2 s_ (by omega)
  · refine ⟨?_, fun s_ hs_ => ?_⟩
    · show (if m_ = M_ then A_.1 M_ + 1 else A_.1 m_) ≤ 40
      rw [if_neg e_]; exact hh_.1
    · have hs_ : s_ < (if m_ = M_ then A_.1 M_ + 1 else A_.1 m_) := hs_
      rw [if_neg e_] at hs_
      have := hh_.1
      simp only [a_te]
      rw [if_neg (by omega), if_neg (by omega), if_neg (by omega), if_neg (by omega)]
      exact hh_.2 s_ hs_
theorem a_dr_ok {b_ : Nat → Int} {n_ M_ k_ : Nat} {A_ : pA} (h_ : a_ok b_ n_ A_ M_) (hk_ : A_.2.2.1 k_ = 3) : a_ok b_ n_ (a_dr A_ k_) M_ := by
  refine ⟨h_.1, fun m_ hm_ => ⟨(h_.2 m_ hm_).1, fun s_ hs_ => ?_⟩⟩
  have hh_ := (h_.2 m_ hm_).2 s_ hs_
  simp only [a_dr]
  by_cases e_ : 40 * m_ + s_ = k_
  · rw [if_pos e_]
    rw [e_] at hh_ ⊢
    rw [hk_] at hh_
    exact ⟨hh_.1, by decide, hh_.2.2.1, fun _ => hh_.2.2.2.1 (by decide), fun z_ => absurd z_ (by decide), hh_.2.2.2.2.2⟩
  · rw [if_neg e_]
    exact hh_
theorem p_wi_ok {b_ : Nat → Int} {n_ p_ : Nat} {u_ : Nat × Int} (hp_ : p_ ≤ n_) (hk_ : lx_kd b_ n_ p_ ≠ -1) (h_ : p_wi b_ n_ p_ = .inr u_) : p_ ≤ u_.1 ∧ u_.1 ≤ n_ ∧ lx_kd b_ n_ u_.1 ≠ -1 ∧ 1 ≤ u_.2 ∧ u_.2 ≤ 8 := by
  unfold p_wi at h_
  split at h_
  · obtain ⟨q_, h1_, h_⟩ := pb_inr h_
    obtain ⟨w_, h2_, h_⟩ := pb_inr h_
    obtain ⟨r_, h3_, h_⟩ := pb_inr h_
    cases h_
    have k1_ := p_ad_ok hp_ (by omega) h1_
    have k2_ := p_nu_ok h2_
    have k3_ := p_ad_ok k1_.2.2.1 (by omega) h3_
    exact ⟨by show p_ ≤ r_; omega, k3_.2.2.1, k3_.2.2.2, k2_.2.2.1, k2_.2.2.2⟩
  · cases h_
    exact ⟨Nat.le_refl _, hp_, hk_, by show (1 : Int) ≤ 1; decide, by show (1 : Int) ≤ 8; decide⟩

