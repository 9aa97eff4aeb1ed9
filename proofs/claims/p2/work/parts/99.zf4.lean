/-! items and what they come to; written by wip/p55/gen/vg -/

/-! items: what is_ there, what it_ comes to_ -/
section MK_
variable {b_ : Nat → Int} {n_ F_ I_ M_ : Nat} {A_ B_ : pA} {N_ : Nat → Nat} {X_ : Nat → gQ → gE → Option (gQ × gE)}
theorem ev_pre {k_ c_ : List Int} {s0_ r_ : gS} (h_ : ev F_ I_ B_ X_ M_ s0_ (k_ ++ c_) = some r_) : ∃ s_, ev F_ I_ B_ X_ M_ s0_ c_ = some s_ ∧ ev F_ I_ B_ X_ M_ s_ k_ = some r_ := by
  cases e_ : ev F_ I_ B_ X_ M_ s0_ c_ with
  | some s_ =>
    rw [ev_a e_] at h_
    exact ⟨s_, rfl, h_⟩
  | none =>
    exfalso
    unfold ev at h_ e_
    rw [List.reverse_append, ec_ap, e_] at h_
    cases h_
theorem ev_cw {w_ : Int} {c_ : List Int} {s0_ r_ : gS} (h_ : ev F_ I_ B_ X_ M_ s0_ (w_ :: c_) = some r_) : ∃ s_, ev F_ I_ B_ X_ M_ s0_ c_ = some s_ ∧ ew F_ I_ B_ X_ M_ w_ s_ = some r_ := by
  obtain ⟨s_, h1_, h2_⟩ := ev_pre (k_ := [w_]) h_
  refine ⟨s_, h1_, ?_⟩
  rw [← ev_c ev_n]
  exact h2_
theorem nxs_s {s_ : Int} {p_ q_ u_ f_ : Nat} (h1_ : lx_kd b_ n_ p_ ≠ s_) (h2_ : lx_kd b_ n_ p_ ≠ 0) (h3_ : p_ad b_ n_ p_ = .inr q_) (h4_ : nxs b_ n_ s_ f_ q_ u_) : nxs b_ n_ s_ (f_ + 1) p_ u_ := ⟨h1_, h2_, q_, h3_, h4_⟩
theorem wi_nx {s_ : Int} {p_ w_ f_ : Nat} {u_ : Nat × Int} (h_ : p_wi b_ n_ p_ = .inr u_) (hs_ : s_ ≠ 58 ∧ s_ ≠ 2) (g_ : nxs b_ n_ s_ f_ u_.1 w_) : ∃ f'_, nxs b_ n_ s_ f'_ p_ w_ := by
  unfold p_wi at h_
  by_cases k_ : lx_kd b_ n_ p_ = 58
  · rw [if_pos k_] at h_
    obtain ⟨q_, h1_, h2_⟩ := pb_inr h_
    obtain ⟨x_, h3_, h4_⟩ := pb_inr h2_
    obtain ⟨r_, h5_, h6_⟩ := pb_inr h4_
    cases h6_
    have k2_ := (p_nu_ok h3_).1
    exact ⟨_, nxs_s (by omega) (by omega) h1_ (nxs_s (by omega) (by omega) h5_ g_)⟩
  · rw [if_neg k_] at h_
    cases h_
    exact ⟨f_, g_⟩
theorem rb_nx {s_ wd_ : Int} {p_ w_ f_ : Nat} {u_ : Nat × Int} (h_ : p_rb b_ n_ wd_ p_ = .inr u_) (hs_ : s_ ≠ 61 ∧ s_ ≠ 2) (g_ : nxs b_ n_ s_ f_ u_.1 w_) : ∃ f'_, nxs b_ n_ s_ f'_ p_ w_ := by
  unfold p_rb at h_
  by_cases k_ : lx_kd b_ n_ p_ = 61
  · rw [if_pos k_] at h_
    obtain ⟨q_, h1_, h2_⟩ := pb_inr h_
    obtain ⟨x_, h3_, h4_⟩ := pb_inr h2_
    obtain ⟨r_, h5_, h6_⟩ := pb_inr h4_
    cases h6_
    have k2_ := (p_nu_ok h3_).1
    exact ⟨_, nxs_s (by omega) (by omega) h1_ (nxs_s (by omega) (by omega) h5_ g_)⟩
  · rw [if_neg k_] at h_
    cases h_
    exact ⟨f_, g_⟩
theorem nd_r {w_ : Int} {p_ q_ : Nat} (h_ : p_nd b_ n_ w_ p_ = .inr q_) : lx_kd b_ n_ p_ = w_ ∧ p_ad b_ n_ p_ = .inr q_ := by
  unfold p_nd at h_
  by_cases k_ : lx_kd b_ n_ p_ = w_
  · rw [if_pos k_] at h_
    exact ⟨k_, h_⟩
  · rw [if_neg k_] at h_
    cases h_
theorem m_st13 {a_ : Nat} {d_ : Int} {q_ q1_ : gQ} {E_ E1_ : gE} {O_ O1_ : gO} {V_ V1_ : gV} (h_ : e_st I_ B_ M_ 13 a_ d_ (q_, E_, O_, V_) = some (q1_, E1_, O1_, V1_)) : a_ < B_.1 M_ ∧ (1 ≤ B_.2.2.2.1 (40 * M_ + a_) ∧ B_.2.2.2.1 (40 * M_ + a_) ≤ 8) ∧ q_.2.1 + (B_.2.2.2.1 (40 * M_ + a_)).toNat ≤ 6 ∧ q1_ = (q_.1, q_.2.1 + (B_.2.2.2.1 (40 * M_ + a_)).toNat, q_.2.2) ∧ E1_ = up1 E_ a_ (r_bt I_ q_.2.1 (B_.2.2.2.1 (40 * M_ + a_)).toNat) ∧ O1_ = O_ ∧ V1_ = V_ := by
  unfold e_st at h_
  by_cases g_ : B_.1 M_ ≤ a_
  · rw [if_pos g_] at h_; cases h_
  · rw [if_neg g_, if_neg (by decide), if_pos rfl] at h_
    by_cases g2_ : O_ a_ = none ∧ 1 ≤ B_.2.2.2.1 (40 * M_ + a_) ∧ B_.2.2.2.1 (40 * M_ + a_) ≤ 8 ∧ q_.2.1 + (B_.2.2.2.1 (40 * M_ + a_)).toNat ≤ 6
    · have h_ := (if_pos g2_).symm.trans h_
      cases h_
      exact ⟨by omega, ⟨g2_.2.1, g2_.2.2.1⟩, g2_.2.2.2, rfl, rfl, rfl, rfl⟩
    · have h_ := (if_neg g2_).symm.trans h_
      cases h_
theorem m_st14 {a_ : Nat} {d_ : Int} {q_ q1_ : gQ} {E_ E1_ : gE} {O_ O1_ : gO} {V_ V1_ : gV} (h_ : e_st I_ B_ M_ 14 a_ d_ (q_, E_, O_, V_) = some (q1_, E1_, O1_, V1_)) : q1_ = q_ ∧ E1_ = E_ ∧ O1_ = O_ ∧ V1_ = V_.tail := by
  unfold e_st at h_
  by_cases g_ : B_.1 M_ ≤ a_
  · rw [if_pos g_] at h_; cases h_
  · rw [if_neg g_, if_neg (by decide), if_neg (by decide)] at h_
    cases V_ with
    | nil => cases h_
    | cons x_ l_ =>
      have h_ : (if (14 : Int) = 12 then (if O_ a_ = none ∧ x_.length ≤ 8 then some (q_, up1 E_ a_ x_, O_, l_) else none) else _) = some (q1_, E1_, O1_, V1_) := h_
      rw [if_neg (by decide), if_pos rfl] at h_
      split at h_
      · cases h_
      · split at h_
        · cases h_
          exact ⟨rfl, rfl, rfl, rfl⟩
        · cases h_
theorem m_st15 {a_ : Nat} {d_ : Int} {q_ : gQ} {E_ : gE} {O_ : gO} {V_ : gV} {r_ : gS} (h_ : e_st I_ B_ M_ 15 a_ d_ (q_, E_, O_, V_) = some r_) : q_.2.2 ≤ 200 := by
  unfold e_st at h_
  by_cases g_ : B_.1 M_ ≤ a_
  · rw [if_pos g_] at h_; cases h_
  · rw [if_neg g_, if_pos rfl] at h_
    by_cases g2_ : q_.2.2 ≤ 200 ∧ E_ a_ = [] ∧ O_ a_ = none
    · exact g2_.1
    · have h_ := (if_neg g2_).symm.trans h_
      cases h_
theorem ew_i {k_ a_ d_ : Int} {s_ r_ : gS} (hk_ : 12 ≤ k_ ∧ k_ ≤ 16) (ha_ : 0 ≤ a_ ∧ a_ < 64) (h_ : ew F_ I_ B_ X_ M_ (cw k_ a_ d_) s_ = some r_) : e_st I_ B_ M_ k_ a_.toNat d_ s_ = some r_ := by
  obtain ⟨e1_, e2_, e3_⟩ := cw_d (k_ := k_) (a_ := a_) (d_ := d_) (by omega) ha_
  have w_ := ew_s h_ (by omega) (by omega)
  rw [e1_, e2_, e3_] at w_
  exact w_
theorem acd_ap {K_ : Nat} : ∀ (l_ : List (pR × Nat)) (c_ : List Int), ∃ k_, acd K_ l_ c_ = k_ ++ c_ ∧ ∀ c'_, acd K_ l_ c'_ = k_ ++ c'_
  | [], c_ => ⟨[], rfl, fun _ => rfl⟩
  | xi_ :: l_, c_ => by
    obtain ⟨k_, h1_, h2_⟩ := acd_ap l_ (cw 16 (K_ : Int) (xi_.2 : Int) :: (xi_.1.2.2 ++ c_))
    refine ⟨k_ ++ (cw 16 (K_ : Int) (xi_.2 : Int) :: xi_.1.2.2), ?_, fun c'_ => ?_⟩
    · show acd K_ l_ _ = _
      rw [h1_]
      simp
    · show acd K_ l_ _ = _
      rw [h2_]
      simp
variable {p_ : Nat} {rr_ : pT} {c_ kk_ : List Int} {q0_ q1_ : gQ} {E_ E1_ : gE} {O_ O1_ : gO} {V1_ : gV}
theorem mk_in (hit_ : p_it b_ n_ A_ N_ M_ c_ p_ = some (.inr rr_)) (hkd_ : lx_kd b_ n_ p_ = 4) (hkk_ : rr_.2.1 = kk_ ++ c_) (hxr_ : a_ex rr_.1 B_ M_) (hev_ : ev F_ I_ B_ X_ M_ (q0_, E_, O_, []) kk_ = some (q1_, E1_, O1_, V1_)) (hts_ : tst B_ I_ M_ (A_.1 M_) E_ O_) : ∃ uu_ f_, nxs b_ n_ 59 f_ p_ uu_ ∧ p_ad b_ n_ uu_ = .inr rr_.2.2 ∧ q1_ = q0_ ∧ E1_ = E_ ∧ O1_ = O_ ∧ tst B_ I_ M_ (rr_.1.1 M_) E_ O_ ∧ rr_.1.1 M_ = A_.1 M_ + 1 ∧ V1_ = [] := by
  unfold p_it at hit_
  rw [if_pos hkd_] at hit_
  obtain ⟨q_, r1_, u_, y_, h1_, h2_, h3_, h4_, h5_⟩ := in_r (Option.some.inj hit_)
  subst h5_
  have k0_ : kk_ = [] := by
    have hkk_ : c_ = kk_ ++ c_ := hkk_
    have e_ := congrArg List.length hkk_
    rw [List.length_append] at e_
    exact List.eq_nil_of_length_eq_zero (by omega)
  subst k0_
  rw [ev_n] at hev_
  cases hev_
  obtain ⟨n1_, n2_⟩ := nd_r h4_
  obtain ⟨a1_, a2_, a3_⟩ := p_nn_ok h2_
  obtain ⟨f1_, g1_⟩ := wi_nx (s_ := 59) (f_ := 0) h3_ (by decide) ⟨rfl, n1_⟩
  obtain ⟨x1_, x2_, x3_, x4_⟩ := te_ex hxr_
  refine ⟨u_.1, _, nxs_s (by omega) (by omega) h1_ (nxs_s (by omega) (by omega) a3_ g1_), n2_, rfl, rfl, rfl, ?_, te_f.1, rfl⟩
  show tst B_ I_ M_ ((a_te A_ M_ q_ 0 u_.2 0).1 M_) E_ O_
  rw [te_f.1]
  exact tst_in hts_ x1_ (by rcases x4_ with z_ | z_; exact z_; (exact absurd z_.1 (by decide)))
theorem mk_re (hit_ : p_it b_ n_ A_ N_ M_ c_ p_ = some (.inr rr_)) (hkd_ : lx_kd b_ n_ p_ = 7) (hB_ : a_ok b_ n_ B_ M_) (hkk_ : rr_.2.1 = kk_ ++ c_) (hxr_ : a_ex rr_.1 B_ M_) (hev_ : ev F_ I_ B_ X_ M_ (q0_, E_, O_, []) kk_ = some (q1_, E1_, O1_, V1_)) (hts_ : tst B_ I_ M_ (A_.1 M_) E_ O_) : ∃ uu_ f_ wd_ : Nat, nxs b_ n_ 59 f_ p_ uu_ ∧ p_ad b_ n_ uu_ = .inr rr_.2.2 ∧ A_.1 M_ < B_.1 M_ ∧ (B_.2.2.2.1 (40 * M_ + A_.1 M_) = (wd_ : Int) ∧ 1 ≤ wd_ ∧ wd_ ≤ 8) ∧ q0_.2.1 + wd_ ≤ 6 ∧ q1_ = (q0_.1, q0_.2.1 + wd_, q0_.2.2) ∧ E1_ = up1 E_ (A_.1 M_) (r_bt I_ q0_.2.1 wd_) ∧ O1_ = O_ ∧ tst B_ I_ M_ (rr_.1.1 M_) E1_ O_ ∧ rr_.1.1 M_ = A_.1 M_ + 1 ∧ V1_ = [] := by
  unfold p_it at hit_
  rw [if_neg (by omega), if_neg (by omega), if_neg (by omega), if_pos hkd_] at hit_
  obtain ⟨q_, r1_, u_, z_, y_, h1_, h2_, h3_, h4_, h5_, h6_⟩ := re_r (Option.some.inj hit_)
  subst h6_
  have k0_ : kk_ = [cw 13 (A_.1 M_ : Int) 0] := by
    have hkk_ : [cw 13 (A_.1 M_ : Int) 0] ++ c_ = kk_ ++ c_ := hkk_
    exact (List.append_cancel_right hkk_).symm
  subst k0_
  obtain ⟨n1_, n2_⟩ := nd_r h5_
  obtain ⟨a1_, a2_, a3_⟩ := p_nn_ok h2_
  obtain ⟨f1_, g1_⟩ := rb_nx (s_ := 59) (f_ := 0) h4_ (by decide) ⟨rfl, n1_⟩
  obtain ⟨f2_, g2_⟩ := wi_nx (s_ := 59) h3_ (by decide) g1_
  obtain ⟨x1_, x2_, x3_, x4_⟩ := te_ex hxr_
  have B40_ := (hB_.2 M_ (Nat.le_refl _)).1
  obtain ⟨s_, w1_, w2_⟩ := ev_cw hev_
  rw [ev_n] at w1_
  cases w1_
  have w3_ := ew_i (by decide) (by omega) w2_
  rw [Int.toNat_natCast] at w3_
  obtain ⟨y1_, y2_, y3_, y4_, y5_, y6_, y7_⟩ := m_st13 w3_
  refine ⟨z_.1, _, (B_.2.2.2.1 (40 * M_ + A_.1 M_)).toNat, nxs_s (by omega) (by omega) h1_ (nxs_s (by omega) (by omega) a3_ g2_), n2_, x1_, by omega, y3_, y4_, y5_, y6_, ?_, te_f.1, y7_⟩
  show tst B_ I_ M_ ((a_te A_ M_ q_ 3 u_.2 z_.2).1 M_) E1_ O_
  rw [te_f.1, y5_]
  exact tst_up hts_ x1_ (by rcases x4_ with z_ | z_ <;> omega) (by rw [r_bt_l]; omega) (fun _ => ⟨q0_.2.1, rfl, y3_⟩)
theorem mk_va (hit_ : p_it b_ n_ A_ N_ M_ c_ p_ = some (.inr rr_)) (hkd_ : lx_kd b_ n_ p_ = 5 ∨ lx_kd b_ n_ p_ = 6) (hB_ : a_ok b_ n_ B_ M_) (hkk_ : rr_.2.1 = kk_ ++ c_) (hxr_ : a_ex rr_.1 B_ M_) (hev_ : ev F_ I_ B_ X_ M_ (q0_, E_, O_, []) kk_ = some (q1_, E1_, O1_, V1_)) (hts_ : tst B_ I_ M_ (A_.1 M_) E_ O_) : ∃ uu_ f_ v_ : Nat, ∃ xr : pR, nxs b_ n_ 61 f_ p_ uu_ ∧ p_ad b_ n_ uu_ = .inr v_ ∧ p_ex b_ n_ false (p_pd b_ n_ A_ M_) [] v_ = .inr xr ∧ p_nd b_ n_ 59 xr.1 = .inr rr_.2.2 ∧ A_.1 M_ < B_.1 M_ ∧ rr_.1.1 M_ = A_.1 M_ + 1 ∧ ∀ (G_ : pGr) (v9_ : List Int), ev F_ I_ B_ X_ M_ (q0_, E_, O_, []) xr.2.2 = some ((G_, q0_.2), E_, O_, [v9_]) → h_tp xr.2.1 = (v9_.length : Int) → v9_.length ≤ 8 → q1_ = (G_, q0_.2) ∧ E1_ = up1 E_ (A_.1 M_) v9_ ∧ O1_ = O_ ∧ tst B_ I_ M_ (rr_.1.1 M_) E1_ O_ ∧ V1_ = [] := by
  obtain ⟨so_, hso_, hva_⟩ : ∃ so_ : Int, (so_ = 1 ∨ so_ = 2) ∧ p_va b_ n_ A_ M_ so_ c_ p_ = .inr rr_ := by
    unfold p_it at hit_
    rw [if_neg (by omega)] at hit_
    by_cases k5_ : lx_kd b_ n_ p_ = 5
    · rw [if_pos k5_] at hit_
      exact ⟨1, Or.inl rfl, Option.some.inj hit_⟩
    · rw [if_neg k5_, if_pos (by omega)] at hit_
      exact ⟨2, Or.inr rfl, Option.some.inj hit_⟩
  obtain ⟨q_, r1_, u_, v_, x_, y_, h1_, h2_, h3_, h4_, h5_, h6_, h7_, h8_⟩ := va_r hva_
  subst h8_
  obtain ⟨k_, e1_, e2_⟩ := ex_ac h5_
  have k0_ : kk_ = cw 12 (A_.1 M_ : Int) 0 :: k_ := by
    have hkk_ : cw 12 (A_.1 M_ : Int) 0 :: x_.2.2 = kk_ ++ c_ := hkk_
    rw [e2_, ← List.cons_append] at hkk_
    exact (List.append_cancel_right hkk_).symm
  subst k0_
  obtain ⟨n1_, n2_⟩ := nd_r h4_
  obtain ⟨a1_, a2_, a3_⟩ := p_nn_ok h2_
  obtain ⟨f1_, g1_⟩ := wi_nx (s_ := 61) (f_ := 0) h3_ (by decide) ⟨rfl, n1_⟩
  obtain ⟨x1_, x2_, x3_, x4_⟩ := te_ex hxr_
  have B40_ := (hB_.2 M_ (Nat.le_refl _)).1
  have x4_ : B_.2.2.1 (40 * M_ + A_.1 M_) = so_ := by rcases x4_ with z_ | z_; exact z_; omega
  refine ⟨u_.1, _, v_, (x_.1, x_.2.1, k_), nxs_s (by omega) (by omega) h1_ (nxs_s (by omega) (by omega) a3_ g1_), n2_, e1_, h7_, x1_, te_f.1, fun G_ v9_ d1_ d2_ d3_ => ?_⟩
  have d1_ : ev F_ I_ B_ X_ M_ (q0_, E_, O_, []) k_ = some ((G_, q0_.2), E_, O_, [v9_]) := d1_
  have d2_ : h_tp x_.2.1 = (v9_.length : Int) := d2_
  rw [ev_c d1_] at hev_
  have w3_ := ew_i (by decide) (by omega) hev_
  rw [Int.toNat_natCast] at w3_
  have hO_ : O_ (A_.1 M_) = none := (hts_.2.2.1 (A_.1 M_) (Nat.le_refl _) x1_ (by omega)).2
  rw [st12 x1_ hO_ d3_] at w3_
  cases w3_
  refine ⟨rfl, rfl, rfl, ?_, rfl⟩
  show tst B_ I_ M_ ((a_te A_ M_ q_ so_ u_.2 0).1 M_) _ O_
  rw [te_f.1]
  exact tst_up hts_ x1_ (by omega) (by omega) (fun z_ => by omega)
theorem mk_ne (hit_ : p_it b_ n_ A_ N_ M_ c_ p_ = some (.inr rr_)) (hkd_ : lx_kd b_ n_ p_ = 1) (hA_ : a_ok b_ n_ A_ M_) (hkk_ : rr_.2.1 = kk_ ++ c_) (hev_ : ev F_ I_ B_ X_ M_ (q0_, E_, O_, []) kk_ = some (q1_, E1_, O1_, V1_)) : ∃ s_ r1_ r2_ : Nat, ∃ xr : pR, p_fn b_ n_ A_ M_ p_ = (s_ : Int) ∧ p_ad b_ n_ p_ = .inr r1_ ∧ lx_kd b_ n_ r1_ = 256 ∧ p_ad b_ n_ r1_ = .inr r2_ ∧ p_ex b_ n_ false (p_pd b_ n_ A_ M_) [] r2_ = .inr xr ∧ p_nd b_ n_ 59 xr.1 = .inr rr_.2.2 ∧ rr_.1.1 M_ = A_.1 M_ ∧ (h_tp xr.2.1 = A_.2.2.2.1 (40 * M_ + s_) ∧ s_ < A_.1 M_) ∧ ∀ (G_ : pGr) (v9_ : List Int), ev F_ I_ B_ X_ M_ (q0_, E_, O_, []) xr.2.2 = some ((G_, q0_.2), E_, O_, [v9_]) → q1_ = (G_, q0_.2) ∧ E1_ = E_ ∧ O1_ = O_ ∧ V1_ = [] := by
  unfold p_it at hit_
  rw [if_neg (by omega), if_neg (by omega), if_neg (by omega), if_neg (by omega), if_neg (by omega), if_pos hkd_] at hit_
  obtain ⟨s_, q_, r1_, x_, y_, h1_, h2_, h3_, h4_, h5_, h6_, h7_, h8_, h9_⟩ := ne_r (Option.some.inj hit_)
  subst h9_
  obtain ⟨k_, e1_, e2_⟩ := ex_ac h6_
  have k0_ : kk_ = cw 14 (s_ : Int) 0 :: k_ := by
    have hkk_ : cw 14 (s_ : Int) 0 :: x_.2.2 = kk_ ++ c_ := hkk_
    rw [e2_, ← List.cons_append] at hkk_
    exact (List.append_cancel_right hkk_).symm
  subst k0_
  obtain ⟨n1_, n2_⟩ := nd_r h5_
  have A40_ := (hA_.2 M_ (Nat.le_refl _)).1
  refine ⟨s_, q_, r1_, (x_.1, x_.2.1, k_), h1_, h4_, n1_, n2_, e1_, h8_, rfl, ⟨h7_, h2_⟩, fun G_ v9_ d1_ => ?_⟩
  have d1_ : ev F_ I_ B_ X_ M_ (q0_, E_, O_, []) k_ = some ((G_, q0_.2), E_, O_, [v9_]) := d1_
  rw [ev_c d1_] at hev_
  have w3_ := ew_i (by decide) (by omega) hev_
  exact m_st14 w3_
theorem mk_us (hit_ : p_it b_ n_ A_ N_ M_ c_ p_ = some (.inr rr_)) (hkd_ : lx_kd b_ n_ p_ = 8) (hB_ : a_ok b_ n_ B_ M_) (hkk_ : rr_.2.1 = kk_ ++ c_) (hxr_ : a_ex rr_.1 B_ M_) (hev_ : ev F_ I_ B_ X_ M_ (q0_, E_, O_, []) kk_ = some (q1_, E1_, O1_, V1_)) (hts_ : tst B_ I_ M_ (A_.1 M_) E_ O_) : ∃ (d_ p1_ p2_ p3_ p4_ p5_ pe_ : Nat) (l_ : List (pR × Nat)), d_ < M_ ∧ A_.1 M_ < B_.1 M_ ∧ B_.2.2.2.2 (40 * M_ + A_.1 M_) = (d_ : Int) ∧ B_.2.2.1 (40 * M_ + A_.1 M_) = 5 ∧ p_ad b_ n_ p_ = .inr p1_ ∧ (lx_kd b_ n_ p_ ≠ 0 ∧ lx_kd b_ n_ p1_ ≠ 0 ∧ lx_kd b_ n_ p2_ ≠ 0) ∧ p_ad b_ n_ p1_ = .inr p2_ ∧ p_ad b_ n_ p2_ = .inr p3_ ∧ p_nd b_ n_ 40 p3_ = .inr p4_ ∧ uch b_ n_ A_ M_ d_ l_ 0 p4_ pe_ ∧ p_nd b_ n_ 41 pe_ = .inr p5_ ∧ p_nd b_ n_ 59 p5_ = .inr rr_.2.2 ∧ E_ (A_.1 M_) = [] ∧ O_ (A_.1 M_) = none ∧ q0_.2.2 ≤ 200 ∧ kk_ = cw 17 (A_.1 M_ : Int) (d_ : Int) :: acd (A_.1 M_) l_ [cw 15 (A_.1 M_ : Int) 0] ∧ rr_.1.1 M_ = A_.1 M_ + 1 := by
  unfold p_it at hit_
  rw [if_neg (by omega), if_neg (by omega), if_neg (by omega), if_neg (by omega), if_pos hkd_] at hit_
  obtain ⟨q_, r1_, d_, u_, v_, x_, y_, h1_, h2_, h3_, h4_, h5_, h6_, h7_, h8_, h9_, h10_⟩ := us_r (Option.some.inj hit_)
  subst h10_
  obtain ⟨l_, pe_, u1_, u2_, u3_, u4_⟩ := ua_ac h8_
  obtain ⟨a1_, a2_, a3_⟩ := p_nn_ok h2_
  obtain ⟨x1_, x2_, x3_, x4_⟩ := te_ex hxr_
  have B40_ := (hB_.2 M_ (Nat.le_refl _)).1
  have x4_ : B_.2.2.1 (40 * M_ + A_.1 M_) = 5 := by rcases x4_ with z_ | z_; exact z_; (exact absurd z_.1 (by decide))
  obtain ⟨ka_, ka1_, ka2_⟩ := acd_ap (K_ := A_.1 M_) l_ (cw 15 (A_.1 M_ : Int) 0 :: c_)
  have k0_ : kk_ = cw 17 (A_.1 M_ : Int) (d_ : Int) :: acd (A_.1 M_) l_ [cw 15 (A_.1 M_ : Int) 0] := by
    have hkk_ : cw 17 (A_.1 M_ : Int) (d_ : Int) :: x_.1 = kk_ ++ c_ := hkk_
    rw [u2_, ka1_, show cw 17 (A_.1 M_ : Int) (d_ : Int) :: (ka_ ++ cw 15 (A_.1 M_ : Int) 0 :: c_) = (cw 17 (A_.1 M_ : Int) (d_ : Int) :: (ka_ ++ [cw 15 (A_.1 M_ : Int) 0])) ++ c_ by simp] at hkk_
    rw [ka2_]
    exact (List.append_cancel_right hkk_).symm
  have t3_ := hts_.2.2.1 (A_.1 M_) (Nat.le_refl _) x1_ (by omega)
  have f200_ : q0_.2.2 ≤ 200 := by
    rw [k0_, ka2_, show cw 17 (A_.1 M_ : Int) (d_ : Int) :: (ka_ ++ [cw 15 (A_.1 M_ : Int) 0]) = (cw 17 (A_.1 M_ : Int) (d_ : Int) :: ka_) ++ [cw 15 (A_.1 M_ : Int) 0] by simp] at hev_
    obtain ⟨s_, w1_, -⟩ := ev_pre hev_
    obtain ⟨s2_, w2_, w3_⟩ := ev_cw w1_
    rw [ev_n] at w2_
    cases w2_
    exact m_st15 (ew_i (by decide) (by omega) w3_)
  refine ⟨d_, q_, r1_, u_, v_, x_.2, pe_, l_, h5_, x1_, x3_, x4_, h1_, ⟨by omega, by omega, by omega⟩, a3_, h6_, h7_, u1_, ?_, h9_, t3_.1, t3_.2, f200_, k0_, te_f.1⟩
  unfold p_nd
  rw [if_pos u3_]
  exact u4_
end MK_
/-- the_ row_ of_ a_ name that has_ just got_ its_ value -/
theorem rev_k {fr_ K_ : Nat} {E_ : gE} {O_ : gO} {v_ : List Int} {ok_ ok'_ : Prop} {S_ S'_ : sm_S} (h_ : rev fr_ K_ E_ O_ ok_ S_) (hok_ : ok'_ → ok_) (hK_ : K_ < 40) (hE_ : ∀ s_, s_ < 40 → (E_ s_).length ≤ 8) (hO_ : O_ K_ = none) (e1_ : ∀ j_, j_ < 8 * (40 * fr_ + K_) ∨ 8 * (40 * fr_ + K_) + 8 ≤ j_ → S'_.2.2.1 144 0 j_ = S_.2.2.1 144 0 j_) (e2_ : S'_.2.2.1 145 0 = S_.2.2.1 145 0) (hv_ : ok'_ → rwv (S'_.2.2.1 144 0) (8 * (40 * fr_ + K_)) v_) : rev fr_ (K_ + 1) (up1 E_ K_ v_) O_ ok'_ S'_ := by
  intro q_
  obtain ⟨h1_, h2_⟩ := h_ (hok_ q_)
  refine ⟨fun s_ hs_ => ?_, fun s_ o_ hs_ e_ o1_ ho1_ => ?_⟩
  · unfold up1
    by_cases z_ : s_ = K_
    · rw [if_pos z_, z_]
      exact hv_ q_
    · rw [if_neg z_]
      have l1_ := hE_ s_ hs_
      exact rwv_cg (h1_ s_ hs_) (fun k9_ hk9_ => e1_ _ (by omega))
  · rw [e2_]
    by_cases z_ : s_ = K_
    · rw [z_, hO_] at e_
      cases e_
    · exact h2_ s_ o_ (by omega) e_ o1_ ho1_
theorem rev_i {fr_ K_ : Nat} {E_ : gE} {O_ : gO} {ok_ ok'_ : Prop} {S_ : sm_S} (h_ : rev fr_ K_ E_ O_ ok_ S_) (hok_ : ok'_ → ok_) (hO_ : O_ K_ = none) : rev fr_ (K_ + 1) E_ O_ ok'_ S_ := by
  intro q_
  obtain ⟨h1_, h2_⟩ := h_ (hok_ q_)
  refine ⟨h1_, fun s_ o_ hs_ e_ o1_ ho1_ => ?_⟩
  by_cases z_ : s_ = K_
  · rw [z_, hO_] at e_
    cases e_
  · exact h2_ s_ o_ (by omega) e_ o1_ ho1_
theorem rev_m {fr_ K_ : Nat} {E_ : gE} {O_ : gO} {ok_ ok'_ : Prop} {S_ : sm_S} (h_ : rev fr_ K_ E_ O_ ok_ S_) (hok_ : ok'_ → ok_) : rev fr_ K_ E_ O_ ok'_ S_ := fun q_ => h_ (hok_ q_)
theorem up_8 {E_ : gE} {K_ : Nat} {v_ : List Int} (hE_ : ∀ s_, s_ < 40 → (E_ s_).length ≤ 8) (hv_ : v_.length ≤ 8) : ∀ s_, s_ < 40 → ((up1 E_ K_ v_) s_).length ≤ 8 := by
  intro s_ hs_
  unfold up1
  by_cases z_ : s_ = K_
  · rw [if_pos z_]; exact hv_
  · rw [if_neg z_]; exact hE_ s_ hs_
