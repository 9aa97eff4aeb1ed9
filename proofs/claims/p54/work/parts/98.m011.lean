/-! 99.zd4 -/
section
/-! items; written by wip/p55/gen/vg -/

/-! what items are_ made of_ -/
theorem in_r {b_ : Nat → Int} {n_ m_ p_ : Nat} {A_ : pA} {c_ : List Int} {r_ : pT} (h_ : p_in b_ n_ A_ m_ c_ p_ = .inr r_) : ∃ q_ r1_ u_ y_, p_ad b_ n_ p_ = .inr q_ ∧ p_nw b_ n_ A_ m_ q_ = .inr r1_ ∧ p_wi b_ n_ r1_ = .inr u_ ∧ p_nd b_ n_ 59 u_.1 = .inr y_ ∧ r_ = (a_te A_ m_ q_ 0 u_.2 0, c_, y_) := by
  obtain ⟨q_, h1_, h2_⟩ := pb_inr h_
  obtain ⟨r1_, h3_, h4_⟩ := pb_inr h2_
  obtain ⟨u_, h5_, h6_⟩ := pb_inr h4_
  obtain ⟨y_, h7_, h8_⟩ := pb_inr h6_
  cases h8_
  exact ⟨q_, r1_, u_, y_, h1_, h3_, h5_, h7_, rfl⟩
theorem va_r {b_ : Nat → Int} {n_ m_ p_ : Nat} {A_ : pA} {so_ : Int} {c_ : List Int} {r_ : pT} (h_ : p_va b_ n_ A_ m_ so_ c_ p_ = .inr r_) : ∃ q_ r1_ u_ v_ x_ y_, p_ad b_ n_ p_ = .inr q_ ∧ p_nw b_ n_ A_ m_ q_ = .inr r1_ ∧ p_wi b_ n_ r1_ = .inr u_ ∧ p_nd b_ n_ 61 u_.1 = .inr v_ ∧ p_xd b_ n_ A_ m_ c_ v_ = .inr x_ ∧ h_tp x_.2.1 = u_.2 ∧ p_nd b_ n_ 59 x_.1 = .inr y_ ∧ r_ = (a_te A_ m_ q_ so_ u_.2 0, cw 12 (A_.1 m_) 0 :: x_.2.2, y_) := by
  obtain ⟨q_, h1_, h2_⟩ := pb_inr h_
  obtain ⟨r1_, h3_, h4_⟩ := pb_inr h2_
  obtain ⟨u_, h5_, h6_⟩ := pb_inr h4_
  obtain ⟨v_, h7_, h8_⟩ := pb_inr h6_
  obtain ⟨x_, h9_, h10_⟩ := pb_inr h8_
  by_cases g_ : h_tp x_.2.1 = u_.2
  · rw [if_pos g_] at h10_
    obtain ⟨y_, h11_, h12_⟩ := pb_inr h10_
    cases h12_
    exact ⟨q_, r1_, u_, v_, x_, y_, h1_, h3_, h5_, h7_, h9_, g_, h11_, rfl⟩
  · rw [if_neg g_] at h10_
    cases h10_
theorem re_r {b_ : Nat → Int} {n_ m_ p_ : Nat} {A_ : pA} {c_ : List Int} {r_ : pT} (h_ : p_re b_ n_ A_ m_ c_ p_ = .inr r_) : ∃ q_ r1_ u_ z_ y_, p_ad b_ n_ p_ = .inr q_ ∧ p_nw b_ n_ A_ m_ q_ = .inr r1_ ∧ p_wi b_ n_ r1_ = .inr u_ ∧ p_rb b_ n_ u_.2 u_.1 = .inr z_ ∧ p_nd b_ n_ 59 z_.1 = .inr y_ ∧ r_ = (a_te A_ m_ q_ 3 u_.2 z_.2, cw 13 (A_.1 m_) 0 :: c_, y_) := by
  obtain ⟨q_, h1_, h2_⟩ := pb_inr h_
  obtain ⟨r1_, h3_, h4_⟩ := pb_inr h2_
  obtain ⟨u_, h5_, h6_⟩ := pb_inr h4_
  obtain ⟨z_, h7_, h8_⟩ := pb_inr h6_
  obtain ⟨y_, h9_, h10_⟩ := pb_inr h8_
  cases h10_
  exact ⟨q_, r1_, u_, z_, y_, h1_, h3_, h5_, h7_, h9_, rfl⟩
theorem ne_r {b_ : Nat → Int} {n_ m_ p_ : Nat} {A_ : pA} {c_ : List Int} {r_ : pT} (h_ : p_ne b_ n_ A_ m_ c_ p_ = .inr r_) : ∃ (s_ : Nat) (q_ r1_ : Nat) (x_ : pR) (y_ : Nat), p_fn b_ n_ A_ m_ p_ = (s_ : Int) ∧ s_ < A_.1 m_ ∧ A_.2.2.1 (40 * m_ + s_) = 3 ∧ p_ad b_ n_ p_ = .inr q_ ∧ p_nd b_ n_ 256 q_ = .inr r1_ ∧ p_xd b_ n_ A_ m_ c_ r1_ = .inr x_ ∧ h_tp x_.2.1 = A_.2.2.2.1 (40 * m_ + s_) ∧ p_nd b_ n_ 59 x_.1 = .inr y_ ∧ r_ = (a_dr A_ (40 * m_ + s_), cw 14 (s_ : Int) 0 :: x_.2.2, y_) := by
  unfold p_ne at h_
  by_cases g_ : p_fn b_ n_ A_ m_ p_ = -1 ∨ A_.2.2.1 (40 * m_ + (p_fn b_ n_ A_ m_ p_).toNat) ≠ 3
  · rw [if_pos g_] at h_
    cases h_
  · rw [if_neg g_] at h_
    obtain ⟨s_, q1_, q2_, q3_, -⟩ := p_fn_b (b_ := b_) (n_ := n_) (A_ := A_) (m_ := m_) (p_ := p_) (fun z_ => g_ (Or.inl z_))
    have s3_ : A_.2.2.1 (40 * m_ + s_) = 3 := by
      by_cases z_ : A_.2.2.1 (40 * m_ + s_) = 3
      · exact z_
      · exact absurd (Or.inr (by rw [q3_]; exact z_)) g_
    obtain ⟨q_, h1_, h2_⟩ := pb_inr h_
    obtain ⟨r1_, h3_, h4_⟩ := pb_inr h2_
    obtain ⟨x_, h5_, h6_⟩ := pb_inr h4_
    rw [q3_, q1_] at h6_
    by_cases w_ : h_tp x_.2.1 = A_.2.2.2.1 (40 * m_ + s_)
    · rw [if_pos w_] at h6_
      obtain ⟨y_, h7_, h8_⟩ := pb_inr h6_
      cases h8_
      exact ⟨s_, q_, r1_, x_, y_, q1_, q2_, s3_, h1_, h3_, h5_, w_, h7_, rfl⟩
    · rw [if_neg w_] at h6_
      cases h6_
theorem us_r {b_ : Nat → Int} {n_ m_ p_ : Nat} {A_ : pA} {N_ : Nat → Nat} {c_ : List Int} {r_ : pT} (h_ : p_us b_ n_ A_ N_ m_ c_ p_ = .inr r_) : ∃ (q_ r1_ d_ u_ v_ : Nat) (x_ : List Int × Nat) (y_ : Nat), p_ad b_ n_ p_ = .inr q_ ∧ p_nw b_ n_ A_ m_ q_ = .inr r1_ ∧ lx_kd b_ n_ r1_ = 1 ∧ p_fm b_ n_ N_ m_ r1_ = (d_ : Int) ∧ d_ < m_ ∧ p_ad b_ n_ r1_ = .inr u_ ∧ p_nd b_ n_ 40 u_ = .inr v_ ∧ p_ua b_ n_ A_ m_ d_ (A_.1 m_) q_ (cw 15 (A_.1 m_) 0 :: c_) v_ = .inr x_ ∧ p_nd b_ n_ 59 x_.2 = .inr y_ ∧ r_ = (a_te A_ m_ q_ 5 0 (d_ : Int), cw 17 (A_.1 m_) (d_ : Int) :: x_.1, y_) := by
  obtain ⟨q_, h1_, h2_⟩ := pb_inr h_
  obtain ⟨r1_, h3_, h4_⟩ := pb_inr h2_
  by_cases k1_ : lx_kd b_ n_ r1_ = 1
  · rw [if_pos k1_] at h4_
    by_cases g_ : p_fm b_ n_ N_ m_ r1_ = -1
    · rw [if_pos g_] at h4_
      cases h4_
    · rw [if_neg g_] at h4_
      have fb_ : -1 ≤ p_fm b_ n_ N_ m_ r1_ ∧ p_fm b_ n_ N_ m_ r1_ < m_ := p_fd_b (f_ := fun k_ => nm_q b_ n_ (N_ k_) r1_) m_
      obtain ⟨d_, hd_⟩ : ∃ d_ : Nat, p_fm b_ n_ N_ m_ r1_ = (d_ : Int) := ⟨(p_fm b_ n_ N_ m_ r1_).toNat, by omega⟩
      rw [hd_] at h4_
      obtain ⟨u_, h5_, h6_⟩ := pb_inr h4_
      obtain ⟨v_, h7_, h8_⟩ := pb_inr h6_
      obtain ⟨x_, h9_, h10_⟩ := pb_inr h8_
      obtain ⟨y_, h11_, h12_⟩ := pb_inr h10_
      cases h12_
      exact ⟨q_, r1_, d_, u_, v_, x_, y_, h1_, h3_, k1_, hd_, by omega, h5_, h7_, h9_, h11_, rfl⟩
  · rw [if_neg k1_] at h4_
    cases h4_
/-! the_ names that are_ told have values -/
theorem te_f {A_ : pA} {m_ q_ : Nat} {so_ w_ d_ : Int} : (a_te A_ m_ q_ so_ w_ d_).1 m_ = A_.1 m_ + 1 ∧ (a_te A_ m_ q_ so_ w_ d_).2.1 (40 * m_ + A_.1 m_) = q_ ∧ (a_te A_ m_ q_ so_ w_ d_).2.2.1 (40 * m_ + A_.1 m_) = so_ ∧ (a_te A_ m_ q_ so_ w_ d_).2.2.2.1 (40 * m_ + A_.1 m_) = w_ ∧ (a_te A_ m_ q_ so_ w_ d_).2.2.2.2 (40 * m_ + A_.1 m_) = d_ := by
  unfold a_te
  exact ⟨if_pos rfl, if_pos rfl, if_pos rfl, if_pos rfl, if_pos rfl⟩
section IT_
variable {b_ : Nat → Int} {n_ F_ I_ m_ : Nat} {A_ B_ : pA} {N_ : Nat → Nat} {X_ : Nat → gQ → gE → Option (gQ × gE)} {s0_ : gS}
theorem pd_ev (hA_ : a_ok b_ n_ A_ m_) (hB_ : a_ok b_ n_ B_ m_) (hx_ : a_ex A_ B_ m_) (ht_ : ten B_ m_ (A_.1 m_) s0_.2.1 s0_.2.2.1) : pr_ev F_ I_ B_ X_ m_ s0_ (p_pd b_ n_ A_ m_) := by
  intro p_ r_ hr_
  have hq_ := pd_ex hA_ hx_ hr_
  have e_ := hq_.1
  have hm40_ := (hB_.2 m_ (Nat.le_refl _)).1
  unfold p_pd at e_
  by_cases k2_ : lx_kd b_ n_ p_ = 2
  · rw [if_pos k2_] at e_
    obtain ⟨qa_, qb_, qu_, -, -, -, -, qw_, -, -, hr9_⟩ := co_r e_
    have vp_ := lx_vl_0 k2_
    rw [hr9_]
    exact ⟨c_bt (lx_vl b_ n_ qb_).toNat (lx_vl b_ n_ p_), ev1_cn qw_ vp_, by rw [c_bt_l]; show _ = lx_vl b_ n_ qb_; omega, by rw [c_bt_l]; omega⟩
  · rw [if_neg k2_] at e_
    by_cases k1_ : lx_kd b_ n_ p_ = 1
    · rw [if_pos k1_] at e_
      have hk_ := hq_.2 k1_
      obtain ⟨s9_, q_, q1_, q2_, q3_, q4_⟩ := na_r e_
      have sK_ : s9_ < A_.1 m_ := by omega
      have ao_ := (hB_.2 m_ (Nat.le_refl _)).2 s9_ q2_
      have key_ : A_.1 m_ ≤ B_.1 m_ := hx_.1
      have e1o : B_.2.2.1 (40 * m_ + s9_) ≠ 5 → ev1 F_ I_ B_ X_ m_ s0_.2.1 s0_.2.2.1 [cw 9 (s9_ : Int) 0] (s0_.2.1 s9_) ∧ ((s0_.2.1 s9_).length : Int) = B_.2.2.2.1 (40 * m_ + s9_) ∧ 1 ≤ (s0_.2.1 s9_).length ∧ (s0_.2.1 s9_).length ≤ 8 := by
        intro nso_
        have lE := (ht_.2 s9_ sK_).1 nso_
        have wA_ := ao_.2.2.1
        have wA1_ := ao_.2.2.2.1 nso_
        have q9_ := ev1_ld (F_ := F_) (I_ := I_) (X_ := X_) (E_ := s0_.2.1) (O_ := s0_.2.2.1) (a_ := (s9_ : Int)) (m_ := m_) (A_ := B_) (by omega) hm40_ (by rw [Int.toNat_natCast]; omega) (by rw [Int.toNat_natCast]; exact lE)
        rw [Int.toNat_natCast] at q9_
        exact ⟨q9_, lE, by omega, by omega⟩
      rcases q4_ with ⟨z1_, z2_, z3_⟩ | ⟨z1_, u_, z2_, z3_⟩
      · obtain ⟨w1_, w2_, w3_⟩ := e1o z2_
        rw [z3_]
        exact ⟨_, w1_, w2_, w3_⟩
      · rcases z3_ with ⟨z3_, z4_, z5_⟩ | ⟨z3_, z4_, v_, z5_, z6_⟩
        · obtain ⟨o9_, q7_, pq1_, pq2_, pq3_, pq4_, pq5_⟩ := pa_r z5_
          have d5_ := ao_.2.2.2.2.1 z4_
          obtain ⟨o_, hO_, hOl_⟩ := (ht_.2 s9_ sK_).2 z4_
          have lo1_ := hOl_ o9_ pq2_ (by rw [pq3_]; decide)
          have aoD_ := (hB_.2 (B_.2.2.2.2 (40 * m_ + s9_)).toNat (by omega)).2 o9_ pq2_
          have wD_ := aoD_.2.2.1
          have wD1_ := aoD_.2.2.2.1 (by rw [pq3_]; decide)
          have e1p : ev1 F_ I_ B_ X_ m_ s0_.2.1 s0_.2.2.1 [cw 10 (s9_ : Int) (o9_ : Int)] (o_ o9_) := by
            have q9_ := ev1_pt (F_ := F_) (I_ := I_) (X_ := X_) (E_ := s0_.2.1) (a_ := (s9_ : Int)) (d_ := (o9_ : Int)) (o_ := o_) (m_ := m_) (A_ := B_) (O_ := s0_.2.2.1) (by omega) hm40_ (by rw [Int.toNat_natCast]; exact hO_) (by rw [Int.toNat_natCast]; omega) (by rw [Int.toNat_natCast]; exact d5_) (by rw [Int.toNat_natCast]; omega) (by rw [Int.toNat_natCast, Int.toNat_natCast]; exact lo1_)
            rw [Int.toNat_natCast] at q9_
            exact q9_
          rcases pq5_ with ⟨w1_, w2_⟩ | ⟨w1_, y1_, y2_, w2_, w3_, w4_⟩
          · rw [w2_]
            exact ⟨_, e1p, lo1_, by omega⟩
          · have r9_ := bp_rr w3_
            rw [w4_]
            exact ⟨_, ev1_bi e1p (by omega) (by omega), rfl, ⟨by simp, by simp⟩⟩
        · obtain ⟨w1_, w2_, w3_⟩ := e1o z4_
          have r9_ := bp_rr z5_
          rw [z6_]
          exact ⟨_, ev1_bi w1_ (by omega) (by omega), rfl, ⟨by simp, by simp⟩⟩
    · rw [if_neg k1_] at e_
      cases e_
/-- what is_ true of_ the_ values while a_ module is_ worked out_ -/
def tst (B_ : pA) (I_ m_ K_ : Nat) (E_ : gE) (O_ : gO) : Prop := ten B_ m_ K_ E_ O_ ∧ (∀ s_, s_ < K_ → B_.2.2.1 (40 * m_ + s_) = 3 ∨ B_.2.2.1 (40 * m_ + s_) = 4 → ∃ rb, E_ s_ = r_bt I_ rb (B_.2.2.2.1 (40 * m_ + s_)).toNat ∧ rb + (B_.2.2.2.1 (40 * m_ + s_)).toNat ≤ 6) ∧ (∀ s_, K_ ≤ s_ → s_ < B_.1 m_ → B_.2.2.1 (40 * m_ + s_) ≠ 0 → E_ s_ = [] ∧ O_ s_ = none) ∧ ∀ s_, s_ < B_.1 m_ → B_.2.2.1 (40 * m_ + s_) = 0 → ((E_ s_).length : Int) = B_.2.2.2.1 (40 * m_ + s_)
theorem ew_st {k_ a_ d_ : Int} {s_ r_ : gS} (hk_ : 12 ≤ k_ ∧ k_ ≤ 16) (ha_ : 0 ≤ a_ ∧ a_ < 64) (h_ : e_st I_ B_ m_ k_ a_.toNat d_ s_ = some r_) : ew F_ I_ B_ X_ m_ (cw k_ a_ d_) s_ = some r_ := by
  obtain ⟨e1_, e2_, e3_⟩ := cw_d (k_ := k_) (a_ := a_) (d_ := d_) (by omega) ha_
  unfold ew
  rw [e1_, e2_, e3_, if_neg (by omega), if_neg (by omega), if_neg (by omega)]
  exact h_
/-- the_ expression of_ an_ item, on_ top_ of_ what is_ there -/
theorem xd_tot {p_ : Nat} {x_ : pR} {c_ c0_ kk_ : List Int} {q_ : gQ} {E_ : gE} {O_ : gO} (hn_ : n_ ≤ 1280) (hpr_ : pr_ok b_ n_ (p_pd b_ n_ A_ m_)) (hA_ : a_ok b_ n_ A_ m_) (hB_ : a_ok b_ n_ B_ m_) (hx_ : a_ex A_ B_ m_) (ht_ : ten B_ m_ (A_.1 m_) E_ O_) (hp_ : p_ ≤ n_) (hk_ : lx_kd b_ n_ p_ ≠ -1) (hc_ : c_ = kk_ ++ c0_) (he_ : ev F_ I_ B_ X_ m_ s0_ kk_ = some (q_, E_, O_, [])) (e_ : p_xd b_ n_ A_ m_ c_ p_ = .inr x_) : ∃ k_ G_ v_, p_ex b_ n_ false (p_pd b_ n_ A_ m_) [] p_ = .inr (x_.1, x_.2.1, k_) ∧ x_.2.2 = (k_ ++ kk_) ++ c0_ ∧ ev F_ I_ B_ X_ m_ (q_, E_, O_, []) k_ = some ((G_, q_.2), E_, O_, [v_]) ∧ ev F_ I_ B_ X_ m_ s0_ (k_ ++ kk_) = some ((G_, q_.2), E_, O_, [v_]) ∧ h_tp x_.2.1 = (v_.length : Int) ∧ (1 ≤ v_.length ∧ v_.length ≤ 8) := by
  obtain ⟨k_, h1_, h2_⟩ := ex_ac e_
  obtain ⟨G_, v_, h3_, h4_, h5_⟩ := ex_tot (F_ := F_) (I_ := I_) (A_ := B_) (X_ := X_) (m_ := m_) (s0_ := (q_, E_, O_, [])) hn_ hpr_ (pd_ev hA_ hB_ hx_ ht_) hp_ hk_ rfl h1_
  have h3_ : ev F_ I_ B_ X_ m_ (q_, E_, O_, []) k_ = some ((G_, q_.2), E_, O_, [v_]) := h3_
  refine ⟨k_, G_, v_, h1_, by rw [h2_, hc_, List.append_assoc], h3_, ?_, h4_, h5_⟩
  rw [ev_a he_, h3_]
theorem tst_up {K_ : Nat} {E_ : gE} {O_ : gO} {v_ : List Int} (h_ : tst B_ I_ m_ K_ E_ O_) (hK_ : K_ < B_.1 m_) (hs_ : B_.2.2.1 (40 * m_ + K_) ≠ 5) (hl_ : (v_.length : Int) = B_.2.2.2.1 (40 * m_ + K_)) (hr_ : B_.2.2.1 (40 * m_ + K_) = 3 ∨ B_.2.2.1 (40 * m_ + K_) = 4 → ∃ rb, v_ = r_bt I_ rb (B_.2.2.2.1 (40 * m_ + K_)).toNat ∧ rb + (B_.2.2.2.1 (40 * m_ + K_)).toNat ≤ 6) : tst B_ I_ m_ (K_ + 1) (up1 E_ K_ v_) O_ := by
  obtain ⟨⟨h0_, h1_⟩, h2_, h3_, h4_⟩ := h_
  refine ⟨⟨by omega, fun s_ hs1_ => ?_⟩, fun s_ hs1_ hs2_ => ?_, fun s_ hs1_ hs2_ hs3_ => ?_, fun s_ hs1_ hs2_ => ?_⟩
  · unfold up1
    by_cases e_ : s_ = K_
    · rw [if_pos e_, e_]
      exact ⟨fun _ => hl_, fun z_ => absurd z_ hs_⟩
    · rw [if_neg e_]
      exact h1_ s_ (by omega)
  · unfold up1
    by_cases e_ : s_ = K_
    · rw [if_pos e_, e_]
      rw [e_] at hs2_
      exact hr_ hs2_
    · rw [if_neg e_]
      exact h2_ s_ (by omega) hs2_
  · unfold up1
    rw [if_neg (by omega)]
    exact h3_ s_ (by omega) hs2_ hs3_
  · unfold up1
    by_cases e_ : s_ = K_
    · rw [if_pos e_, e_]
      exact hl_
    · rw [if_neg e_]
      exact h4_ s_ hs1_ hs2_
end IT_
end
/-! 99.zd5 -/
section
/-! items can be worked out; written by wip/p55/gen/vg -/

/-! items can_ be_ worked out_ -/
section IT2_
variable {b_ : Nat → Int} {n_ F_ I_ m_ : Nat} {A_ B_ : pA} {N_ : Nat → Nat} {X_ : Nat → gQ → gE → Option (gQ × gE)} {s0_ : gS}
theorem st12 {a_ : Nat} {d_ : Int} {q_ : gQ} {E_ : gE} {O_ : gO} {x_ : List Int} {l_ : gV} (ha_ : a_ < B_.1 m_) (hO_ : O_ a_ = none) (hl_ : x_.length ≤ 8) : e_st I_ B_ m_ 12 a_ d_ (q_, E_, O_, x_ :: l_) = some (q_, up1 E_ a_ x_, O_, l_) := by
  unfold e_st
  rw [if_neg (by omega), if_neg (by decide), if_neg (by decide)]
  simp [hO_, hl_]
theorem st13 {a_ : Nat} {d_ : Int} {G_ : pGr} {R_ fc_ : Nat} {E_ : gE} {O_ : gO} {l_ : gV} (ha_ : a_ < B_.1 m_) (hO_ : O_ a_ = none) (h1_ : 1 ≤ B_.2.2.2.1 (40 * m_ + a_) ∧ B_.2.2.2.1 (40 * m_ + a_) ≤ 8) (hR_ : R_ + (B_.2.2.2.1 (40 * m_ + a_)).toNat ≤ 6) : e_st I_ B_ m_ 13 a_ d_ ((G_, R_, fc_), E_, O_, l_) = some ((G_, R_ + (B_.2.2.2.1 (40 * m_ + a_)).toNat, fc_), up1 E_ a_ (r_bt I_ R_ (B_.2.2.2.1 (40 * m_ + a_)).toNat), O_, l_) := by
  unfold e_st
  rw [if_neg (by omega), if_neg (by decide), if_pos rfl, if_pos ⟨hO_, h1_.1, h1_.2, hR_⟩]
theorem st14 {a_ : Nat} {d_ z_ : Int} {q_ : gQ} {E_ : gE} {O_ : gO} {x_ y_ : List Int} {l_ : gV} (ha_ : a_ < B_.1 m_) (hE_ : E_ a_ = z_ :: y_) (h1_ : 2 * (1 + (I_ : Int)) ≤ z_) (h2_ : z_ / 2 - 1 - I_ + x_.length ≤ 6) : e_st I_ B_ m_ 14 a_ d_ (q_, E_, O_, x_ :: l_) = some (q_, E_, O_, l_) := by
  unfold e_st
  rw [if_neg (by omega), if_neg (by decide), if_neg (by decide)]
  simp [hE_, h1_, h2_]
theorem st15 {a_ : Nat} {d_ : Int} {G_ : pGr} {R_ fc_ : Nat} {E_ : gE} {O_ : gO} {l_ : gV} (ha_ : a_ < B_.1 m_) (hE_ : E_ a_ = []) (hO_ : O_ a_ = none) (hf_ : fc_ ≤ 200) : e_st I_ B_ m_ 15 a_ d_ ((G_, R_, fc_), E_, O_, l_) = some ((G_, R_, fc_ + 1), E_, up1 O_ a_ (some fun _ => []), l_) := by
  unfold e_st
  rw [if_neg (by omega), if_pos rfl, if_pos ⟨hf_, hE_, hO_⟩]
theorem st16 {a_ : Nat} {d_ : Int} {q_ : gQ} {E_ : gE} {O_ : gO} {o_ : Nat → List Int} {x_ : List Int} {l_ : gV} (ha_ : a_ < B_.1 m_) (hO_ : O_ a_ = some o_) (hd_ : 0 ≤ d_ ∧ d_ < 40) (hl_ : x_.length ≤ 8) : e_st I_ B_ m_ 16 a_ d_ (q_, E_, O_, x_ :: l_) = some (q_, E_, up1 O_ a_ (some (up1 o_ d_.toNat x_)), l_) := by
  unfold e_st
  rw [if_neg (by omega), if_neg (by decide), if_neg (by decide)]
  simp [hO_, hd_.1, hd_.2, hl_]
theorem tst_in {K_ : Nat} {E_ : gE} {O_ : gO} (h_ : tst B_ I_ m_ K_ E_ O_) (hK_ : K_ < B_.1 m_) (hs_ : B_.2.2.1 (40 * m_ + K_) = 0) : tst B_ I_ m_ (K_ + 1) E_ O_ := by
  obtain ⟨⟨h0_, h1_⟩, h2_, h3_, h4_⟩ := h_
  refine ⟨⟨by omega, fun s_ hs1_ => ?_⟩, fun s_ hs1_ hs2_ => ?_, fun s_ hs1_ => h3_ s_ (by omega), h4_⟩
  · by_cases e_ : s_ = K_
    · rw [e_]
      exact ⟨fun _ => h4_ K_ hK_ hs_, fun z_ => by omega⟩
    · exact h1_ s_ (by omega)
  · by_cases e_ : s_ = K_
    · rw [e_] at hs2_
      omega
    · exact h2_ s_ (by omega) hs2_
theorem ten_o {K_ : Nat} {E_ : gE} {O_ : gO} {z_ : Option (Nat → List Int)} (h_ : ten B_ m_ K_ E_ O_) : ten B_ m_ K_ E_ (up1 O_ K_ z_) := by
  refine ⟨h_.1, fun s_ hs_ => ⟨(h_.2 s_ hs_).1, fun h5_ => ?_⟩⟩
  unfold up1
  rw [if_neg (by omega)]
  exact (h_.2 s_ hs_).2 h5_
theorem tst_us {K_ : Nat} {E_ : gE} {O_ : gO} {o_ : Nat → List Int} (h_ : tst B_ I_ m_ K_ E_ O_) (hK_ : K_ < B_.1 m_) (hs_ : B_.2.2.1 (40 * m_ + K_) = 5) (ho_ : ∀ o1_, o1_ < B_.1 (B_.2.2.2.2 (40 * m_ + K_)).toNat → B_.2.2.1 (40 * (B_.2.2.2.2 (40 * m_ + K_)).toNat + o1_) ≠ 5 → ((o_ o1_).length : Int) = B_.2.2.2.1 (40 * (B_.2.2.2.2 (40 * m_ + K_)).toNat + o1_)) : tst B_ I_ m_ (K_ + 1) E_ (up1 O_ K_ (some o_)) := by
  obtain ⟨⟨h0_, h1_⟩, h2_, h3_, h4_⟩ := h_
  refine ⟨⟨by omega, fun s_ hs1_ => ?_⟩, fun s_ hs1_ hs2_ => ?_, fun s_ hs1_ hs2_ hs3_ => ?_, h4_⟩
  · unfold up1
    by_cases e_ : s_ = K_
    · rw [if_pos e_, e_]
      exact ⟨fun z_ => absurd hs_ z_, fun _ => ⟨o_, rfl, ho_⟩⟩
    · rw [if_neg e_]
      exact h1_ s_ (by omega)
  · by_cases e_ : s_ = K_
    · rw [e_] at hs2_
      omega
    · exact h2_ s_ (by omega) hs2_
  · unfold up1
    rw [if_neg (by omega)]
    exact h3_ s_ (by omega) hs2_ hs3_
theorem up1_2 {α : Type} {f_ : Nat → α} {a_ : Nat} {v_ w_ : α} : up1 (up1 f_ a_ v_) a_ w_ = up1 f_ a_ w_ := by
  funext k_
  unfold up1
  by_cases e_ : k_ = a_
  · rw [if_pos e_, if_pos e_]
  · rw [if_neg e_, if_neg e_, if_neg e_]
/-- the_ arguments that have come so_ far_ -/
def oin (B_ : pA) (d_ i_ : Nat) (o_ : Nat → List Int) : Prop := (∀ s_, s_ < B_.1 d_ → B_.2.2.1 (40 * d_ + s_) = 0 → s_ < i_ → ((o_ s_).length : Int) = B_.2.2.2.1 (40 * d_ + s_)) ∧ ∀ s_, s_ < B_.1 d_ → B_.2.2.1 (40 * d_ + s_) ≠ 0 → o_ s_ = []
theorem ni_n {d_ k_ : Nat} (h_ : p_ni A_ d_ k_ = -1) : ∀ s_, s_ < A_.1 d_ → k_ ≤ s_ → A_.2.2.1 (40 * d_ + s_) ≠ 0 := by
  intro s_ hs_ hk_ z_
  have q_ := p_fd_no (f_ := fun s_ => decide (k_ ≤ s_) && decide (A_.2.2.1 (40 * d_ + s_) = 0)) h_ s_ hs_
  have q_ : (decide (k_ ≤ s_) && decide (A_.2.2.1 (40 * d_ + s_) = 0)) = false := q_
  rw [decide_eq_true hk_, decide_eq_true z_] at q_
  cases q_
theorem ni_s {d_ k_ i_ : Nat} (h_ : p_ni A_ d_ k_ = (i_ : Int)) : k_ ≤ i_ ∧ i_ < A_.1 d_ ∧ A_.2.2.1 (40 * d_ + i_) = 0 := by
  have q_ := p_fd_f (f_ := fun s_ => decide (k_ ≤ s_) && decide (A_.2.2.1 (40 * d_ + s_) = 0)) h_
  have q1_ : (decide (k_ ≤ i_) && decide (A_.2.2.1 (40 * d_ + i_) = 0)) = true := q_.1
  rw [Bool.and_eq_true, decide_eq_true_eq, decide_eq_true_eq] at q1_
  exact ⟨q1_.1, q_.2, q1_.2⟩
theorem fd_lt {f_ : Nat → Bool} : ∀ {k_ : Nat} {i_ : Nat}, p_fd f_ k_ = (i_ : Int) → ∀ s_, s_ < i_ → f_ s_ = false
  | 0, i_, h_, s_, hs_ => by
    rw [p_fd] at h_
    omega
  | k_ + 1, i_, h_, s_, hs_ => by
    rw [p_fd] at h_
    split at h_
    · rename_i g_
      split at h_
      · have : k_ = i_ := by omega
        exact p_fd_no g_ s_ (by omega)
      · omega
    · exact fd_lt h_ s_ hs_
theorem ni_l {d_ k_ i_ : Nat} (h_ : p_ni A_ d_ k_ = (i_ : Int)) : ∀ s_, k_ ≤ s_ → s_ < i_ → A_.2.2.1 (40 * d_ + s_) ≠ 0 := by
  intro s_ hk_ hs_ z_
  have q_ := fd_lt (f_ := fun s_ => decide (k_ ≤ s_) && decide (A_.2.2.1 (40 * d_ + s_) = 0)) h_ s_ hs_
  have q_ : (decide (k_ ≤ s_) && decide (A_.2.2.1 (40 * d_ + s_) = 0)) = false := q_
  rw [decide_eq_true hk_, decide_eq_true z_] at q_
  cases q_
theorem ae_r {pl_ p_ : Nat} {t_ : Bool} {c_ : List Int} {x_ : List Int × Nat} (h_ : p_ae b_ n_ pl_ t_ c_ p_ = .inr x_) : t_ = false ∧ lx_kd b_ n_ p_ = 41 ∧ x_.1 = c_ ∧ p_ad b_ n_ p_ = .inr x_.2 := by
  unfold p_ae at h_
  by_cases g_ : lx_kd b_ n_ p_ = 41 ∧ t_ = true
  · rw [if_pos g_] at h_
    cases h_
  · rw [if_neg g_] at h_
    obtain ⟨q_, h1_, h2_⟩ := pb_inr h_
    cases h2_
    unfold p_nd at h1_
    by_cases k_ : lx_kd b_ n_ p_ = 41
    · rw [if_pos k_] at h1_
      refine ⟨?_, k_, rfl, h1_⟩
      cases t_ with
      | false => rfl
      | true => exact absurd ⟨k_, rfl⟩ g_
    · rw [if_neg k_] at h1_
      cases h1_
theorem ar_tot {d_ K_ pl_ : Nat} {c0_ : List Int} {E_ : gE} {O_ : gO} {R_ fc_ : Nat} (hn_ : n_ ≤ 1280) (hA_ : a_ok b_ n_ A_ m_) (hB_ : a_ok b_ n_ B_ m_) (hx_ : a_ex A_ B_ m_) (ht_ : ten B_ m_ (A_.1 m_) E_ O_) (hK_ : K_ = A_.1 m_) (hKB_ : K_ < B_.1 m_) (hd_ : d_ < m_) : ∀ (f_ : Nat) (i_ : Int) (c_ kk_ : List Int) (p_ : Nat) (x_ : List Int × Nat) (G_ : pGr) (o_ : Nat → List Int) (k_ : Nat), p_ar b_ n_ A_ m_ d_ K_ pl_ f_ i_ c_ p_ = .inr x_ → i_ = p_ni A_ d_ k_ → p_ ≤ n_ → lx_kd b_ n_ p_ ≠ -1 → c_ = kk_ ++ c0_ → ev F_ I_ B_ X_ m_ s0_ kk_ = some ((G_, R_, fc_), E_, up1 O_ K_ (some o_), []) → oin B_ d_ k_ o_ → ∃ kk'_ G'_ o'_, x_.1 = kk'_ ++ c0_ ∧ ev F_ I_ B_ X_ m_ s0_ kk'_ = some ((G'_, R_, fc_), E_, up1 O_ K_ (some o'_), []) ∧ oin B_ d_ (B_.1 d_) o'_
  | 0, _, _, _, _, _, _, _, _, h_, _, _, _, _, _, _ => by cases h_
  | f_ + 1, i_, c_, kk_, p_, x_, G_, o_, k_, h_, hi_, hp_, hkd_, hc_, he_, ho_ => by
    rw [p_ar] at h_
    obtain ⟨x1_, h1_, h2_⟩ := pb_inr h_
    have ten2_ : ten B_ m_ (A_.1 m_) E_ (up1 O_ K_ (some o_)) := by rw [hK_]; exact ten_o ht_
    obtain ⟨k1_, G1_, v_, q1_, q2_, q3_, q4_, q5_, q6_⟩ := xd_tot (F_ := F_) (I_ := I_) (X_ := X_) hn_ (pd_ok hA_) hA_ hB_ hx_ ten2_ hp_ hkd_ hc_ he_ h1_
    have x1b : p_ < x1_.1 ∧ x1_.1 ≤ n_ ∧ lx_kd b_ n_ x1_.1 ≠ -1 := by
      have w_ := pex_ok hn_ (pd_ok hA_) hp_ hkd_ (Nat.zero_le _) q1_
      exact ⟨w_.1, w_.2.1, w_.2.2.1⟩
    have ad_ : A_.1 d_ = B_.1 d_ := hx_.2.1 d_ hd_
    have same : ∀ s_, s_ < A_.1 d_ → (A_.2.2.1 (40 * d_ + s_) = 0 ↔ B_.2.2.1 (40 * d_ + s_) = 0) ∧ A_.2.2.2.1 (40 * d_ + s_) = B_.2.2.2.1 (40 * d_ + s_) := by
      intro s_ hs_
      have w_ := hx_.2.2 d_ s_ (by omega) hs_
      refine ⟨?_, w_.2.1⟩
      rcases w_.2.2.2 with z_ | z_ <;> omega
    have d40_ := (hB_.2 d_ (by omega)).1
    have K40_ := (hB_.2 m_ (Nat.le_refl _)).1
    by_cases im_ : i_ = -1
    · exfalso
      rw [if_neg (fun z_ => z_.1 im_)] at h2_
      have a2_ : p_a2 A_ d_ i_ = -1 := if_pos im_
      by_cases k44_ : lx_kd b_ n_ x1_.1 = 44
      · rw [if_pos k44_, if_pos a2_] at h2_
        cases h2_
      · rw [if_neg k44_] at h2_
        have w_ := (ae_r h2_).1
        rw [decide_eq_true (Or.inl im_)] at w_
        cases w_
    · obtain ⟨iN_, hiN_⟩ : ∃ iN_ : Nat, p_ni A_ d_ k_ = (iN_ : Int) := by
        rcases p_ni_c (A_ := A_) (m_ := d_) (k_ := k_) with z_ | z_
        · exact absurd (hi_.trans z_) im_
        · exact ⟨(p_ni A_ d_ k_).toNat, by omega⟩
      have iv_ : i_ = (iN_ : Int) := hi_.trans hiN_
      obtain ⟨n1_, n2_, n3_⟩ := ni_s hiN_
      have n4_ := ni_l hiN_
      have wl : h_tp x1_.2.1 = A_.2.2.2.1 (40 * d_ + iN_) := by
        by_cases z_ : h_tp x1_.2.1 = A_.2.2.2.1 (40 * d_ + iN_)
        · exact z_
        · rw [if_pos ⟨im_, by rw [iv_, Int.toNat_natCast]; exact z_⟩] at h2_
          cases h2_
      rw [if_neg (fun z_ => z_.2 (by rw [iv_, Int.toNat_natCast]; exact wl))] at h2_
      have a1_ : p_a1 A_ d_ K_ i_ x1_.2.2 = (cw 16 (K_ : Int) (iN_ : Int) :: (k1_ ++ kk_)) ++ c0_ := by
        unfold p_a1
        rw [if_neg im_, q2_, iv_]
        rfl
      have a2_ : p_a2 A_ d_ i_ = p_ni A_ d_ (iN_ + 1) := by
        unfold p_a2
        rw [if_neg im_, iv_, Int.toNat_natCast]
      have he2_ : ev F_ I_ B_ X_ m_ s0_ (cw 16 (K_ : Int) (iN_ : Int) :: (k1_ ++ kk_)) = some ((G1_, R_, fc_), E_, up1 O_ K_ (some (up1 o_ iN_ v_)), []) := by
        rw [ev_c q4_]
        refine ew_st (by decide) (by omega) ?_
        have w_ := st16 (B_ := B_) (m_ := m_) (I_ := I_) (a_ := K_) (d_ := (iN_ : Int)) (q_ := (G1_, R_, fc_)) (E_ := E_) (O_ := up1 O_ K_ (some o_)) (o_ := o_) (x_ := v_) (l_ := []) hKB_ (if_pos rfl) (by omega) q6_.2
        rw [up1_2, Int.toNat_natCast] at w_
        rw [Int.toNat_natCast]
        exact w_
      have ho2_ : oin B_ d_ (iN_ + 1) (up1 o_ iN_ v_) := by
        refine ⟨fun s_ hs_ h0_ hlt_ => ?_, fun s_ hs_ h0_ => ?_⟩
        · unfold up1
          by_cases e_ : s_ = iN_
          · rw [if_pos e_, e_, ← q5_, wl]
            exact (same iN_ n2_).2
          · rw [if_neg e_]
            refine ho_.1 s_ hs_ h0_ ?_
            by_cases z_ : s_ < k_
            · exact z_
            · exact absurd ((same s_ (by omega)).1.mpr h0_) (n4_ s_ (by omega) (by omega))
        · unfold up1
          rw [if_neg (fun e_ => h0_ (by rw [e_]; exact (same iN_ n2_).1.mp n3_))]
          exact ho_.2 s_ hs_ h0_
      rw [a1_, a2_] at h2_
      by_cases k44_ : lx_kd b_ n_ x1_.1 = 44
      · rw [if_pos k44_] at h2_
        by_cases z_ : p_ni A_ d_ (iN_ + 1) = -1
        · rw [if_pos z_] at h2_
          cases h2_
        · rw [if_neg z_] at h2_
          obtain ⟨q7_, q8_, q9_⟩ := pb_inr h2_
          have w_ := p_ad_ok x1b.2.1 (by omega) q8_
          exact ar_tot (pl_ := pl_) hn_ hA_ hB_ hx_ ht_ hK_ hKB_ hd_ f_ _ _ _ q7_ x_ G1_ _ (iN_ + 1) q9_ rfl w_.2.2.1 w_.2.2.2 rfl he2_ ho2_
      · rw [if_neg k44_] at h2_
        obtain ⟨w1_, w2_, w3_, w4_⟩ := ae_r h2_
        have w5_ : p_ni A_ d_ (iN_ + 1) = -1 := by
          by_cases z_ : p_ni A_ d_ (iN_ + 1) = -1
          · exact z_
          · rw [decide_eq_true (Or.inr z_)] at w1_
            cases w1_
        refine ⟨_, G1_, _, w3_, he2_, fun s_ hs_ h0_ _ => ?_, ho2_.2⟩
        refine ho2_.1 s_ hs_ h0_ ?_
        by_cases z_ : s_ < iN_ + 1
        · exact z_
        · exact absurd ((same s_ (by omega)).1.mpr h0_) (ni_n w5_ s_ (by omega) (by omega))
end IT2_
end
/-! 99.zd6 -/
section
/-! every right item can be worked out; written by wip/p55/gen/vg -/

/-! every right item can_ be_ worked out_ -/
section IT3_
variable {b_ : Nat → Int} {n_ F_ I_ m_ : Nat} {A_ B_ : pA} {N_ : Nat → Nat} {X_ : Nat → gQ → gE → Option (gQ × gE)} {s0_ : gS}
theorem te_ex {q_ : Nat} {so_ w_ d_ : Int} (h_ : a_ex (a_te A_ m_ q_ so_ w_ d_) B_ m_) : A_.1 m_ < B_.1 m_ ∧ B_.2.2.2.1 (40 * m_ + A_.1 m_) = w_ ∧ B_.2.2.2.2 (40 * m_ + A_.1 m_) = d_ ∧ (B_.2.2.1 (40 * m_ + A_.1 m_) = so_ ∨ (so_ = 3 ∧ B_.2.2.1 (40 * m_ + A_.1 m_) = 4)) := by
  have t_ := te_f (A_ := A_) (m_ := m_) (q_ := q_) (so_ := so_) (w_ := w_) (d_ := d_)
  have h1_ := h_.1
  have h2_ := h_.2.2 m_ (A_.1 m_) (Nat.le_refl _) (by rw [t_.1]; omega)
  rw [t_.1] at h1_
  rw [t_.2.1, t_.2.2.1, t_.2.2.2.1, t_.2.2.2.2] at h2_
  refine ⟨by omega, h2_.2.1.symm, h2_.2.2.1.symm, ?_⟩
  rcases h2_.2.2.2 with z_ | z_
  · exact Or.inl z_.symm
  · exact Or.inr z_
theorem ar_pl {d_ K_ pl_ : Nat} (hn_ : n_ ≤ 1280) (hA_ : a_ok b_ n_ A_ m_) : ∀ (f_ : Nat) (i_ : Int) (c_ : List Int) (p_ : Nat) (x_ : List Int × Nat), p_ar b_ n_ A_ m_ d_ K_ pl_ f_ i_ c_ p_ = .inr x_ → p_ ≤ n_ → lx_kd b_ n_ p_ ≠ -1 → p_ < x_.2 ∧ x_.2 ≤ n_ ∧ lx_kd b_ n_ x_.2 ≠ -1
  | 0, _, _, _, _, h_, _, _ => by cases h_
  | f_ + 1, i_, c_, p_, x_, h_, hp_, hk_ => by
    rw [p_ar] at h_
    obtain ⟨x1_, h1_, h2_⟩ := pb_inr h_
    obtain ⟨k_, q1_, q2_⟩ := ex_ac h1_
    have w_ := pex_ok hn_ (pd_ok hA_) hp_ hk_ (Nat.zero_le _) q1_
    have w1_ : p_ < x1_.1 := w_.1
    have w2_ : x1_.1 ≤ n_ := w_.2.1
    by_cases g_ : i_ ≠ -1 ∧ h_tp x1_.2.1 ≠ A_.2.2.2.1 (40 * d_ + i_.toNat)
    · rw [if_pos g_] at h2_
      cases h2_
    · rw [if_neg g_] at h2_
      by_cases k44_ : lx_kd b_ n_ x1_.1 = 44
      · rw [if_pos k44_] at h2_
        by_cases z_ : p_a2 A_ d_ i_ = -1
        · rw [if_pos z_] at h2_
          cases h2_
        · rw [if_neg z_] at h2_
          obtain ⟨q7_, q8_, q9_⟩ := pb_inr h2_
          have a_ := p_ad_ok w2_ (by omega) q8_
          have y_ := ar_pl hn_ hA_ f_ _ _ q7_ x_ q9_ a_.2.2.1 a_.2.2.2
          exact ⟨by omega, y_.2⟩
      · rw [if_neg k44_] at h2_
        obtain ⟨a1_, a2_, a3_, a4_⟩ := ae_r h2_
        have a_ := p_ad_ok w2_ (by omega) a4_
        exact ⟨by omega, a_.2.2⟩
theorem us_tot {p_ : Nat} {r_ : pT} {c_ kk_ c0_ : List Int} {G_ : pGr} {R_ fc_ : Nat} {E_ : gE} {O_ : gO} {r1_ i1_ : Nat → Int} (hn_ : n_ ≤ 1280) (hA_ : a_ok b_ n_ A_ m_) (hB_ : a_ok b_ n_ B_ m_) (hx_ : a_ex A_ B_ m_) (hx'_ : a_ex r_.1 B_ m_) (hp_ : p_ ≤ n_) (hk0_ : lx_kd b_ n_ p_ ≠ 0) (e_ : p_us b_ n_ A_ N_ m_ c_ p_ = .inr r_) (hc_ : c_ = kk_ ++ c0_) (he_ : ev F_ I_ B_ X_ m_ s0_ kk_ = some ((G_, R_, fc_), E_, O_, [])) (ht_ : tst B_ I_ m_ (A_.1 m_) E_ O_) (hf_ : (fc_ : Int) + t_is i1_ B_ m_ (A_.1 m_) ≤ 201) (hnn_ : ∀ d_, 0 ≤ r1_ d_ ∧ 0 ≤ i1_ d_) (hX_ : ∀ d_, d_ < m_ → B_.2.2.1 (40 * m_ + A_.1 m_) = 5 → B_.2.2.2.2 (40 * m_ + A_.1 m_) = (d_ : Int) → ∀ G_ o_, oin B_ d_ (B_.1 d_) o_ → ∃ G'_ e'_, X_ d_ (G_, R_, fc_ + 1) o_ = some ((G'_, R_ + (r1_ d_).toNat, fc_ + 1 + (i1_ d_).toNat), e'_) ∧ ∀ o1_, o1_ < B_.1 d_ → B_.2.2.1 (40 * d_ + o1_) ≠ 5 → ((e'_ o1_).length : Int) = B_.2.2.2.1 (40 * d_ + o1_)) : ∃ kk'_ G'_ R'_ fc'_ O'_, r_.2.1 = kk'_ ++ c0_ ∧ ev F_ I_ B_ X_ m_ s0_ kk'_ = some ((G'_, R'_, fc'_), E_, O'_, []) ∧ tst B_ I_ m_ (r_.1.1 m_) E_ O'_ ∧ r_.1.1 m_ = A_.1 m_ + 1 ∧ (R'_ : Int) = R_ + t_rg r1_ B_ m_ (A_.1 m_) ∧ (fc'_ : Int) = fc_ + t_is i1_ B_ m_ (A_.1 m_) ∧ p_ < r_.2.2 ∧ r_.2.2 ≤ n_ ∧ lx_kd b_ n_ r_.2.2 ≠ -1 := by
  obtain ⟨q_, r9_, d_, u_, v_, x_, y_, h1_, h2_, h3_, h4_, h5_, h6_, h7_, h8_, h9_, h10_⟩ := us_r e_
  subst h10_
  have tx_ := te_ex hx'_
  have te1_ : (a_te A_ m_ q_ 5 0 (d_ : Int)).1 m_ = A_.1 m_ + 1 := te_f.1
  have s5_ : B_.2.2.1 (40 * m_ + A_.1 m_) = 5 := by
    rcases tx_.2.2.2 with z_ | z_
    · exact z_
    · omega
  have dd_ : B_.2.2.2.2 (40 * m_ + A_.1 m_) = (d_ : Int) := tx_.2.2.1
  have ti_ : t_is i1_ B_ m_ (A_.1 m_) = 1 + i1_ d_ := by unfold t_is; rw [if_pos s5_, dd_, Int.toNat_natCast]
  have tr_ : t_rg r1_ B_ m_ (A_.1 m_) = r1_ d_ := by unfold t_rg; rw [if_neg (by omega), if_pos s5_, dd_, Int.toNat_natCast]
  have nd_ := hnn_ d_
  obtain ⟨e3_, e4_⟩ := ht_.2.2.1 (A_.1 m_) (Nat.le_refl _) tx_.1 (by omega)
  have K40_ := (hB_.2 m_ (Nat.le_refl _)).1
  have p1_ := p_ad_ok hp_ hk0_ h1_
  obtain ⟨-, p2a, p2b⟩ := p_nn_ok h2_
  have p2_ := p_ad_ok p1_.2.2.1 (by omega) p2b
  have p3_ := p_ad_ok p2_.2.2.1 (by omega) h6_
  have p4_ := p_nd_ok (by decide) p3_.2.2.1 h7_
  have he1_ : ev F_ I_ B_ X_ m_ s0_ (cw 15 (A_.1 m_ : Int) 0 :: kk_) = some ((G_, R_, fc_ + 1), E_, up1 O_ (A_.1 m_) (some fun _ => []), []) := by
    rw [ev_c he_]
    refine ew_st (by decide) (by omega) ?_
    rw [Int.toNat_natCast]
    exact st15 tx_.1 e3_ e4_ (by omega)
  have ho0_ : oin B_ d_ 0 (fun _ => []) := ⟨fun s_ _ _ h_ => absurd h_ (Nat.not_lt_zero _), fun _ _ _ => rfl⟩
  obtain ⟨kk1_, G1_, o1_, w1_, w2_, w3_, w4_⟩ : ∃ kk1_ G1_ o1_, x_.1 = kk1_ ++ c0_ ∧ ev F_ I_ B_ X_ m_ s0_ kk1_ = some ((G1_, R_, fc_ + 1), E_, up1 O_ (A_.1 m_) (some o1_), []) ∧ oin B_ d_ (B_.1 d_) o1_ ∧ (v_ < x_.2 ∧ x_.2 ≤ n_ ∧ lx_kd b_ n_ x_.2 ≠ -1) := by
    unfold p_ua at h8_
    by_cases k41_ : lx_kd b_ n_ v_ = 41
    · rw [if_pos k41_] at h8_
      obtain ⟨a1_, a2_, a3_, a4_⟩ := ae_r h8_
      have a5_ : p_ni A_ d_ 0 = -1 := by
        by_cases z_ : p_ni A_ d_ 0 = -1
        · exact z_
        · rw [decide_eq_true z_] at a1_
          cases a1_
      have a6_ := p_ad_ok p4_.2.2.1 (by omega) a4_
      refine ⟨_, G_, _, by rw [a3_, hc_]; rfl, he1_, ⟨fun s_ hs_ h0_ _ => ?_, fun _ _ _ => rfl⟩, a6_.2⟩
      have w_ := hx_.2.2 d_ s_ (by omega) (by rw [hx_.2.1 d_ h5_]; exact hs_)
      exfalso
      refine ni_n a5_ s_ (by rw [hx_.2.1 d_ h5_]; exact hs_) (Nat.zero_le _) ?_
      rcases w_.2.2.2 with z_ | z_ <;> omega
    · rw [if_neg k41_] at h8_
      obtain ⟨kk1_, G1_, o1_, w1_, w2_, w3_⟩ := ar_tot (F_ := F_) (I_ := I_) (X_ := X_) (s0_ := s0_) (c0_ := c0_) hn_ hA_ hB_ hx_ ht_.1 rfl tx_.1 h5_ _ _ _ (cw 15 (A_.1 m_ : Int) 0 :: kk_) v_ x_ G_ _ 0 h8_ rfl p4_.2.2.1 p4_.2.2.2 (by rw [hc_]; rfl) he1_ ho0_
      exact ⟨kk1_, G1_, o1_, w1_, w2_, w3_, ar_pl hn_ hA_ (n_ + 1) _ _ v_ x_ h8_ p4_.2.2.1 p4_.2.2.2⟩
  have p5_ := p_nd_ok (by decide) w4_.2.1 h9_
  obtain ⟨G2_, e2_, x1_, x2_⟩ := hX_ d_ h5_ s5_ dd_ G1_ o1_ w3_
  refine ⟨cw 17 (A_.1 m_ : Int) (d_ : Int) :: kk1_, G2_, R_ + (r1_ d_).toNat, fc_ + 1 + (i1_ d_).toNat, up1 O_ (A_.1 m_) (some e2_), by show cw 17 _ _ :: x_.1 = _; rw [w1_]; rfl, ?_, ?_, te1_, by rw [tr_]; push_cast; omega, by rw [ti_]; push_cast; omega, by show p_ < y_; omega, p5_.2.2.1, p5_.2.2.2⟩
  · rw [ev_c w2_]
    obtain ⟨c1_, c2_, c3_⟩ := cw_d (k_ := 17) (a_ := (A_.1 m_ : Int)) (d_ := (d_ : Int)) (by decide) (by omega)
    unfold ew
    rw [c1_, c2_, c3_, if_pos rfl]
    simp only [Int.toNat_natCast]
    rw [show up1 O_ (A_.1 m_) (some o1_) (A_.1 m_) = some o1_ from if_pos rfl]
    simp only []
    rw [if_pos ⟨tx_.1, by omega, by omega⟩, x1_]
    show some (_, E_, up1 (up1 O_ (A_.1 m_) (some o1_)) (A_.1 m_) (some e2_), []) = _
    rw [up1_2]
  · show tst B_ I_ m_ ((a_te A_ m_ q_ 5 0 (d_ : Int)).1 m_) E_ _
    rw [te1_]
    refine tst_us ht_ tx_.1 s5_ ?_
    rw [dd_, Int.toNat_natCast]
    exact x2_
end IT3_
end
/-! 99.zd7 -/
section
/-! every right item can be worked out; written by wip/p55/gen/vg -/

/-! modules can_ be_ worked out_ -/
theorem su_el {f_ : Nat → Int} : ∀ {k_ : Nat}, (∀ j_, j_ < k_ → 0 ≤ f_ j_) → (0 ≤ su f_ k_) ∧ (∀ j_, j_ < k_ → f_ j_ ≤ su f_ k_) ∧ ∀ j_, j_ ≤ k_ → 0 ≤ su f_ j_ ∧ su f_ j_ ≤ su f_ k_
  | 0, _ => ⟨Int.le_refl _, fun j_ hj_ => absurd hj_ (Nat.not_lt_zero _), fun j_ hj_ => by
    have : j_ = 0 := by omega
    subst this
    exact ⟨Int.le_refl _, Int.le_refl _⟩⟩
  | k_ + 1, h_ => by
    have ih_ := su_el (f_ := f_) (k_ := k_) (fun j_ hj_ => h_ j_ (by omega))
    have hk_ := h_ k_ (by omega)
    have e_ : su f_ (k_ + 1) = su f_ k_ + f_ k_ := rfl
    refine ⟨by omega, fun j_ hj_ => ?_, fun j_ hj_ => ?_⟩
    · by_cases z_ : j_ = k_
      · rw [z_]; omega
      · have := ih_.2.1 j_ (by omega)
        omega
    · by_cases z_ : j_ = k_ + 1
      · rw [z_]; omega
      · have := ih_.2.2 j_ (by omega)
        omega
theorem r_bt_c {I_ R_ w_ : Nat} (h_ : 1 ≤ w_) : ∃ y_, r_bt I_ R_ w_ = 2 * ((1 + I_ + R_ : Nat) : Int) :: y_ := by
  cases e_ : r_bt I_ R_ w_ with
  | nil =>
    have := congrArg List.length e_
    rw [r_bt_l] at this
    simp at this
    omega
  | cons z_ y_ =>
    refine ⟨y_, ?_⟩
    have q_ : (r_bt I_ R_ w_)[0]? = some z_ := by rw [e_]; rfl
    unfold r_bt at q_
    rw [List.getElem?_map, List.getElem?_range (by omega)] at q_
    have q_ := Option.some.inj q_
    rw [← q_]
    simp
section IT4_
variable {b_ : Nat → Int} {n_ F_ I_ m_ : Nat} {A_ B_ : pA} {N_ : Nat → Nat} {X_ : Nat → gQ → gE → Option (gQ × gE)} {s0_ : gS}
theorem rb_pl {w_ : Int} {p_ : Nat} {z_ : Nat × Int} (hp_ : p_ ≤ n_) (hk_ : lx_kd b_ n_ p_ ≠ -1) (h_ : p_rb b_ n_ w_ p_ = .inr z_) : p_ ≤ z_.1 ∧ z_.1 ≤ n_ ∧ lx_kd b_ n_ z_.1 ≠ -1 := by
  unfold p_rb at h_
  by_cases g_ : lx_kd b_ n_ p_ = 61
  · rw [if_pos g_] at h_
    obtain ⟨q_, h1_, h2_⟩ := pb_inr h_
    obtain ⟨x_, h3_, h4_⟩ := pb_inr h2_
    obtain ⟨r_, h5_, h6_⟩ := pb_inr h4_
    cases h6_
    have a1_ := p_ad_ok hp_ (by omega) h1_
    have kq_ : lx_kd b_ n_ q_ = 2 := (p_nu_ok h3_).1
    have a2_ := p_ad_ok a1_.2.2.1 (by omega) h5_
    exact ⟨by show p_ ≤ r_; omega, a2_.2.2⟩
  · rw [if_neg g_] at h_
    cases h_
    exact ⟨Nat.le_refl _, hp_, hk_⟩
theorem it_tot {p_ : Nat} {r_ : pT} {c_ kk_ c0_ : List Int} {G_ : pGr} {R_ fc_ : Nat} {E_ : gE} {O_ : gO} {r1_ i1_ : Nat → Int} (hn_ : n_ ≤ 1280) (hA_ : a_ok b_ n_ A_ m_) (hB_ : a_ok b_ n_ B_ m_) (hx_ : a_ex A_ B_ m_) (hx'_ : a_ex r_.1 B_ m_) (hp_ : p_ ≤ n_) (hkd_ : lx_kd b_ n_ p_ ≠ -1) (e_ : p_it b_ n_ A_ N_ m_ c_ p_ = some (.inr r_)) (hc_ : c_ = kk_ ++ c0_) (he_ : ev F_ I_ B_ X_ m_ s0_ kk_ = some ((G_, R_, fc_), E_, O_, [])) (ht_ : tst B_ I_ m_ (A_.1 m_) E_ O_) (hR_ : A_.1 m_ < B_.1 m_ → (R_ : Int) + t_rg r1_ B_ m_ (A_.1 m_) ≤ 6) (hf_ : A_.1 m_ < B_.1 m_ → (fc_ : Int) + t_is i1_ B_ m_ (A_.1 m_) ≤ 201) (hnn_ : ∀ d_, 0 ≤ r1_ d_ ∧ 0 ≤ i1_ d_) (hX_ : A_.1 m_ < B_.1 m_ → ∀ d_, d_ < m_ → B_.2.2.1 (40 * m_ + A_.1 m_) = 5 → B_.2.2.2.2 (40 * m_ + A_.1 m_) = (d_ : Int) → ∀ G_ o_, oin B_ d_ (B_.1 d_) o_ → ∃ G'_ e'_, X_ d_ (G_, R_, fc_ + 1) o_ = some ((G'_, R_ + (r1_ d_).toNat, fc_ + 1 + (i1_ d_).toNat), e'_) ∧ ∀ o1_, o1_ < B_.1 d_ → B_.2.2.1 (40 * d_ + o1_) ≠ 5 → ((e'_ o1_).length : Int) = B_.2.2.2.1 (40 * d_ + o1_)) : ∃ kk'_ G'_ R'_ fc'_ E'_ O'_, r_.2.1 = kk'_ ++ c0_ ∧ ev F_ I_ B_ X_ m_ s0_ kk'_ = some ((G'_, R'_, fc'_), E'_, O'_, []) ∧ tst B_ I_ m_ (r_.1.1 m_) E'_ O'_ ∧ ((r_.1.1 m_ = A_.1 m_ ∧ R'_ = R_ ∧ fc'_ = fc_) ∨ (r_.1.1 m_ = A_.1 m_ + 1 ∧ A_.1 m_ < B_.1 m_ ∧ (R'_ : Int) = R_ + t_rg r1_ B_ m_ (A_.1 m_) ∧ (fc'_ : Int) = fc_ + t_is i1_ B_ m_ (A_.1 m_))) ∧ p_ < r_.2.2 ∧ r_.2.2 ≤ n_ ∧ lx_kd b_ n_ r_.2.2 ≠ -1 := by
  have K40_ := (hB_.2 m_ (Nat.le_refl _)).1
  unfold p_it at e_
  by_cases k4_ : lx_kd b_ n_ p_ = 4
  · rw [if_pos k4_] at e_
    obtain ⟨q_, r9_, u_, y_, h1_, h2_, h3_, h4_, h5_⟩ := in_r (Option.some.inj e_)
    subst h5_
    have tx_ := te_ex hx'_
    have te1_ : (a_te A_ m_ q_ 0 u_.2 0).1 m_ = A_.1 m_ + 1 := te_f.1
    have s5_ : B_.2.2.1 (40 * m_ + A_.1 m_) = 0 := by
      rcases tx_.2.2.2 with z_ | z_
      · exact z_
      · omega
    have p1_ := p_ad_ok hp_ (by omega) h1_
    obtain ⟨-, p2a, p2b⟩ := p_nn_ok h2_
    have p2_ := p_ad_ok p1_.2.2.1 (by omega) p2b
    have p3_ := p_wi_ok p2_.2.2.1 p2_.2.2.2 h3_
    have p4_ := p_nd_ok (by decide) p3_.2.1 h4_
    refine ⟨kk_, G_, R_, fc_, E_, O_, hc_, he_, ?_, Or.inr ⟨te1_, tx_.1, ?_, ?_⟩, by show p_ < y_; omega, p4_.2.2.1, p4_.2.2.2⟩
    · show tst B_ I_ m_ ((a_te A_ m_ q_ 0 u_.2 0).1 m_) E_ O_
      rw [te1_]
      exact tst_in ht_ tx_.1 s5_
    · unfold t_rg
      rw [if_neg (by omega), if_neg (by omega)]
      omega
    · unfold t_is
      rw [if_neg (by omega)]
      omega
  · rw [if_neg k4_] at e_
    have va_ : ∀ so_ : Int, (so_ = 1 ∨ so_ = 2) → lx_kd b_ n_ p_ ≠ 0 → p_va b_ n_ A_ m_ so_ c_ p_ = .inr r_ → ∃ kk'_ G'_ R'_ fc'_ E'_ O'_, r_.2.1 = kk'_ ++ c0_ ∧ ev F_ I_ B_ X_ m_ s0_ kk'_ = some ((G'_, R'_, fc'_), E'_, O'_, []) ∧ tst B_ I_ m_ (r_.1.1 m_) E'_ O'_ ∧ ((r_.1.1 m_ = A_.1 m_ ∧ R'_ = R_ ∧ fc'_ = fc_) ∨ (r_.1.1 m_ = A_.1 m_ + 1 ∧ A_.1 m_ < B_.1 m_ ∧ (R'_ : Int) = R_ + t_rg r1_ B_ m_ (A_.1 m_) ∧ (fc'_ : Int) = fc_ + t_is i1_ B_ m_ (A_.1 m_))) ∧ p_ < r_.2.2 ∧ r_.2.2 ≤ n_ ∧ lx_kd b_ n_ r_.2.2 ≠ -1 := by
      intro so_ hso_ k0_ e_
      obtain ⟨q_, r9_, u_, v_, x_, y_, h1_, h2_, h3_, h4_, h5_, h6_, h7_, h8_⟩ := va_r e_
      subst h8_
      have tx_ := te_ex hx'_
      have te1_ : (a_te A_ m_ q_ so_ u_.2 0).1 m_ = A_.1 m_ + 1 := te_f.1
      have s5_ : B_.2.2.1 (40 * m_ + A_.1 m_) = so_ := by
        rcases tx_.2.2.2 with z_ | z_
        · exact z_
        · omega
      have p1_ := p_ad_ok hp_ k0_ h1_
      obtain ⟨-, p2a, p2b⟩ := p_nn_ok h2_
      have p2_ := p_ad_ok p1_.2.2.1 (by omega) p2b
      have p3_ := p_wi_ok p2_.2.2.1 p2_.2.2.2 h3_
      have p4_ := p_nd_ok (by decide) p3_.2.1 h4_
      obtain ⟨k_, G1_, w_, q1_, q2_, q3_, q4_, q5_, q6_⟩ := xd_tot (F_ := F_) (I_ := I_) (X_ := X_) hn_ (pd_ok hA_) hA_ hB_ hx_ ht_.1 p4_.2.2.1 p4_.2.2.2 hc_ he_ h5_
      have p5_ : v_ < x_.1 ∧ x_.1 ≤ n_ ∧ lx_kd b_ n_ x_.1 ≠ -1 := by
        have z_ := pex_ok hn_ (pd_ok hA_) p4_.2.2.1 p4_.2.2.2 (Nat.zero_le _) q1_
        exact ⟨z_.1, z_.2.1, z_.2.2.1⟩
      have p6_ := p_nd_ok (by decide) p5_.2.1 h7_
      obtain ⟨e3_, e4_⟩ := ht_.2.2.1 (A_.1 m_) (Nat.le_refl _) tx_.1 (by omega)
      refine ⟨cw 12 (A_.1 m_ : Int) 0 :: (k_ ++ kk_), G1_, R_, fc_, up1 E_ (A_.1 m_) w_, O_, by show cw 12 _ _ :: x_.2.2 = _; rw [q2_]; rfl, ?_, ?_, Or.inr ⟨te1_, tx_.1, ?_, ?_⟩, by show p_ < y_; omega, p6_.2.2.1, p6_.2.2.2⟩
      · rw [ev_c q4_]
        refine ew_st (by decide) (by omega) ?_
        rw [Int.toNat_natCast]
        exact st12 tx_.1 e4_ q6_.2
      · show tst B_ I_ m_ ((a_te A_ m_ q_ so_ u_.2 0).1 m_) _ O_
        rw [te1_]
        exact tst_up ht_ tx_.1 (by omega) (by rw [← q5_, h6_]; exact tx_.2.1.symm) (fun z_ => by omega)
      · unfold t_rg
        rw [if_neg (by omega), if_neg (by omega)]
        omega
      · unfold t_is
        rw [if_neg (by omega)]
        omega
    by_cases k5_ : lx_kd b_ n_ p_ = 5
    · rw [if_pos k5_] at e_
      exact va_ 1 (Or.inl rfl) (by omega) (Option.some.inj e_)
    · rw [if_neg k5_] at e_
      by_cases k6_ : lx_kd b_ n_ p_ = 6
      · rw [if_pos k6_] at e_
        exact va_ 2 (Or.inr rfl) (by omega) (Option.some.inj e_)
      · rw [if_neg k6_] at e_
        by_cases k7_ : lx_kd b_ n_ p_ = 7
        · rw [if_pos k7_] at e_
          obtain ⟨q_, r9_, u_, z_, y_, h1_, h2_, h3_, h4_, h5_, h6_⟩ := re_r (Option.some.inj e_)
          subst h6_
          have tx_ := te_ex hx'_
          have te1_ : (a_te A_ m_ q_ 3 u_.2 z_.2).1 m_ = A_.1 m_ + 1 := te_f.1
          have s5_ : B_.2.2.1 (40 * m_ + A_.1 m_) = 3 ∨ B_.2.2.1 (40 * m_ + A_.1 m_) = 4 := by
            rcases tx_.2.2.2 with z_ | z_
            · exact Or.inl z_
            · exact Or.inr z_.2
          have p1_ := p_ad_ok hp_ (by omega) h1_
          obtain ⟨-, p2a, p2b⟩ := p_nn_ok h2_
          have p2_ := p_ad_ok p1_.2.2.1 (by omega) p2b
          have p3_ := p_wi_ok p2_.2.2.1 p2_.2.2.2 h3_
          have p4_ := rb_pl p3_.2.1 p3_.2.2.1 h4_
          have p5_ := p_nd_ok (by decide) p4_.2.1 h5_
          obtain ⟨e3_, e4_⟩ := ht_.2.2.1 (A_.1 m_) (Nat.le_refl _) tx_.1 (by omega)
          have tr_ : t_rg r1_ B_ m_ (A_.1 m_) = B_.2.2.2.1 (40 * m_ + A_.1 m_) := by unfold t_rg; rw [if_pos s5_]
          have hR1_ := hR_ tx_.1
          rw [tr_] at hR1_
          have w8_ : 1 ≤ B_.2.2.2.1 (40 * m_ + A_.1 m_) ∧ B_.2.2.2.1 (40 * m_ + A_.1 m_) ≤ 8 := by rw [tx_.2.1]; exact p3_.2.2.2
          refine ⟨cw 13 (A_.1 m_ : Int) 0 :: kk_, G_, R_ + (B_.2.2.2.1 (40 * m_ + A_.1 m_)).toNat, fc_, up1 E_ (A_.1 m_) (r_bt I_ R_ (B_.2.2.2.1 (40 * m_ + A_.1 m_)).toNat), O_, by show cw 13 _ _ :: c_ = _; rw [hc_]; rfl, ?_, ?_, Or.inr ⟨te1_, tx_.1, ?_, ?_⟩, by show p_ < y_; omega, p5_.2.2.1, p5_.2.2.2⟩
          · rw [ev_c he_]
            refine ew_st (by decide) (by omega) ?_
            rw [Int.toNat_natCast]
            exact st13 tx_.1 e4_ w8_ (by omega)
          · show tst B_ I_ m_ ((a_te A_ m_ q_ 3 u_.2 z_.2).1 m_) _ O_
            rw [te1_]
            exact tst_up ht_ tx_.1 (by omega) (by rw [r_bt_l]; omega) (fun _ => ⟨R_, rfl, by omega⟩)
          · rw [tr_]
            push_cast
            omega
          · unfold t_is
            rw [if_neg (by omega)]
            omega
        · rw [if_neg k7_] at e_
          by_cases k8_ : lx_kd b_ n_ p_ = 8
          · rw [if_pos k8_] at e_
            have e_ := Option.some.inj e_
            obtain ⟨q_, r9_, d_, u_, v_, x_, y_, -, -, -, -, -, -, -, -, -, h10_⟩ := us_r e_
            have tx_ : A_.1 m_ < B_.1 m_ := by
              have hx2_ := hx'_
              rw [h10_] at hx2_
              exact (te_ex hx2_).1
            obtain ⟨kk'_, G'_, R'_, fc'_, O'_, w1_, w2_, w3_, w4_, w5_, w6_, w7_⟩ := us_tot (r1_ := r1_) hn_ hA_ hB_ hx_ hx'_ hp_ (by omega) e_ hc_ he_ ht_ (hf_ tx_) hnn_ (hX_ tx_)
            exact ⟨kk'_, G'_, R'_, fc'_, E_, O'_, w1_, w2_, w3_, Or.inr ⟨w4_, tx_, w5_, w6_⟩, w7_⟩
          · rw [if_neg k8_] at e_
            by_cases k1_ : lx_kd b_ n_ p_ = 1
            · rw [if_pos k1_] at e_
              obtain ⟨s_, q_, r9_, x_, y_, h1_, h2_, h3_, h4_, h5_, h6_, h7_, h8_, h9_⟩ := ne_r (Option.some.inj e_)
              subst h9_
              have p1_ := p_ad_ok hp_ (by omega) h4_
              have p2_ := p_nd_ok (by decide) p1_.2.2.1 h5_
              obtain ⟨k_, G1_, w_, q1_, q2_, q3_, q4_, q5_, q6_⟩ := xd_tot (F_ := F_) (I_ := I_) (X_ := X_) hn_ (pd_ok hA_) hA_ hB_ hx_ ht_.1 p2_.2.2.1 p2_.2.2.2 hc_ he_ h6_
              have p5_ : r9_ < x_.1 ∧ x_.1 ≤ n_ ∧ lx_kd b_ n_ x_.1 ≠ -1 := by
                have z_ := pex_ok hn_ (pd_ok hA_) p2_.2.2.1 p2_.2.2.2 (Nat.zero_le _) q1_
                exact ⟨z_.1, z_.2.1, z_.2.2.1⟩
              have p6_ := p_nd_ok (by decide) p5_.2.1 h8_
              have ex_ := hx_.2.2 m_ s_ (Nat.le_refl _) h2_
              have s34_ : B_.2.2.1 (40 * m_ + s_) = 3 ∨ B_.2.2.1 (40 * m_ + s_) = 4 := by
                rcases ex_.2.2.2 with z_ | z_ <;> omega
              obtain ⟨rb, g1_, g2_⟩ := ht_.2.1 s_ h2_ s34_
              have sB_ : s_ < B_.1 m_ := by have := hx_.1; omega
              have ao_ := (hB_.2 m_ (Nat.le_refl _)).2 s_ sB_
              have w1_ := ao_.2.2.2.1 (by omega)
              obtain ⟨yy_, hyy_⟩ := r_bt_c (I_ := I_) (R_ := rb) (w_ := (B_.2.2.2.1 (40 * m_ + s_)).toNat) (by omega)
              have wl : (w_.length : Int) = B_.2.2.2.1 (40 * m_ + s_) := by rw [← q5_, h7_]; exact ex_.2.1
              refine ⟨cw 14 (s_ : Int) 0 :: (k_ ++ kk_), G1_, R_, fc_, E_, O_, by show cw 14 _ _ :: x_.2.2 = _; rw [q2_]; rfl, ?_, ht_, Or.inl ⟨rfl, rfl, rfl⟩, by show p_ < y_; omega, p6_.2.2.1, p6_.2.2.2⟩
              rw [ev_c q4_]
              refine ew_st (by decide) (by omega) ?_
              rw [Int.toNat_natCast]
              exact st14 sB_ (g1_.trans hyy_) (by push_cast; omega) (by push_cast; omega)
            · rw [if_neg k1_] at e_
              cases e_
end IT4_
end
/-! 99.zd8 -/
section
/-! modules can be worked out; written by wip/p55/gen/vg -/

/-! a_ module's items, and what it_ is_ worked out_ to_ -/
def mch (b_ : Nat → Int) (n_ : Nat) (B_ : pA) (N_ : Nat → Nat) (m_ : Nat) : Nat → pA → List Int → Nat → List Int → Prop
  | 0, _, _, _, _ => False
  | f_ + 1, A_, c_, p_, ce_ => (a_ok b_ n_ A_ m_ ∧ a_ex A_ B_ m_ ∧ p_ ≤ n_ ∧ lx_kd b_ n_ p_ ≠ -1) ∧ ((lx_kd b_ n_ p_ = 125 ∧ A_.1 m_ = B_.1 m_ ∧ ce_ = c_) ∨ ∃ r_, p_it b_ n_ A_ N_ m_ c_ p_ = some (.inr r_) ∧ mch b_ n_ B_ N_ m_ f_ r_.1 r_.2.1 r_.2.2 ce_)
theorem mch_ex {b_ : Nat → Int} {n_ m_ f_ : Nat} {A_ B_ : pA} {N_ : Nat → Nat} {c_ ce_ : List Int} {p_ : Nat} (h_ : mch b_ n_ B_ N_ m_ f_ A_ c_ p_ ce_) : a_ok b_ n_ A_ m_ ∧ a_ex A_ B_ m_ ∧ p_ ≤ n_ ∧ lx_kd b_ n_ p_ ≠ -1 := by
  cases f_ with
  | zero => exact h_.elim
  | succ f_ => exact h_.1
theorem mod_tot {b_ : Nat → Int} {n_ F_ I_ m_ : Nat} {B_ : pA} {N_ : Nat → Nat} {X_ : Nat → gQ → gE → Option (gQ × gE)} {s0_ : gS} {r1_ i1_ : Nat → Int} {R0_ fc0_ : Nat} {c0_ : List Int} (hn_ : n_ ≤ 1280) (hB_ : a_ok b_ n_ B_ m_) (hnn_ : ∀ d_, 0 ≤ r1_ d_ ∧ 0 ≤ i1_ d_) (hlim : ∀ K_, K_ ≤ B_.1 m_ → (R0_ : Int) + su (t_rg r1_ B_ m_) K_ ≤ 6 ∧ (fc0_ : Int) + su (t_is i1_ B_ m_) K_ ≤ 201) (hX_ : ∀ d_ K_ : Nat, d_ < m_ → K_ < B_.1 m_ → B_.2.2.1 (40 * m_ + K_) = 5 → B_.2.2.2.2 (40 * m_ + K_) = (d_ : Int) → ∀ (G_ : pGr) (R_ fc_ : Nat) (o_ : Nat → List Int), (R_ : Int) + r1_ d_ ≤ 6 → (fc_ : Int) + i1_ d_ ≤ 201 → oin B_ d_ (B_.1 d_) o_ → ∃ G'_ e'_, X_ d_ (G_, R_, fc_) o_ = some ((G'_, R_ + (r1_ d_).toNat, fc_ + (i1_ d_).toNat), e'_) ∧ ∀ o1_, o1_ < B_.1 d_ → B_.2.2.1 (40 * d_ + o1_) ≠ 5 → ((e'_ o1_).length : Int) = B_.2.2.2.1 (40 * d_ + o1_)) : ∀ (f_ : Nat) (A_ : pA) (c_ : List Int) (p_ : Nat) (ce_ kk_ : List Int) (G_ : pGr) (R_ fc_ : Nat) (E_ : gE) (O_ : gO), mch b_ n_ B_ N_ m_ f_ A_ c_ p_ ce_ → c_ = kk_ ++ c0_ → ev F_ I_ B_ X_ m_ s0_ kk_ = some ((G_, R_, fc_), E_, O_, []) → tst B_ I_ m_ (A_.1 m_) E_ O_ → (R_ : Int) = R0_ + su (t_rg r1_ B_ m_) (A_.1 m_) → (fc_ : Int) = fc0_ + su (t_is i1_ B_ m_) (A_.1 m_) → ∃ kk'_ G'_ R'_ fc'_ E'_ O'_, ce_ = kk'_ ++ c0_ ∧ ev F_ I_ B_ X_ m_ s0_ kk'_ = some ((G'_, R'_, fc'_), E'_, O'_, []) ∧ tst B_ I_ m_ (B_.1 m_) E'_ O'_ ∧ (R'_ : Int) = R0_ + su (t_rg r1_ B_ m_) (B_.1 m_) ∧ (fc'_ : Int) = fc0_ + su (t_is i1_ B_ m_) (B_.1 m_)
  | 0, _, _, _, _, _, _, _, _, _, _, h_, _, _, _, _, _ => h_.elim
  | f_ + 1, A_, c_, p_, ce_, kk_, G_, R_, fc_, E_, O_, h_, hc_, he_, ht_, hR_, hf_ => by
    obtain ⟨⟨hA_, hx_, hp_, hk_⟩, h2_⟩ := h_
    rcases h2_ with ⟨z1_, z2_, z3_⟩ | ⟨r_, z1_, z2_⟩
    · rw [z3_]
      rw [z2_] at ht_ hR_ hf_
      exact ⟨kk_, G_, R_, fc_, E_, O_, hc_, he_, ht_, hR_, hf_⟩
    · have hx'_ := (mch_ex z2_).2.1
      have lim1_ : ∀ K_, K_ < B_.1 m_ → su (t_rg r1_ B_ m_) (K_ + 1) = su (t_rg r1_ B_ m_) K_ + t_rg r1_ B_ m_ K_ ∧ su (t_is i1_ B_ m_) (K_ + 1) = su (t_is i1_ B_ m_) K_ + t_is i1_ B_ m_ K_ := fun K_ _ => ⟨rfl, rfl⟩
      obtain ⟨kk'_, G'_, R'_, fc'_, E'_, O'_, w1_, w2_, w3_, w4_, w5_⟩ := it_tot (r1_ := r1_) (i1_ := i1_) hn_ hA_ hB_ hx_ hx'_ hp_ hk_ z1_ hc_ he_ ht_ (fun z_ => by
        have q_ := hlim (A_.1 m_ + 1) (by omega)
        have q2_ := lim1_ (A_.1 m_) z_
        omega) (fun z_ => by
        have q_ := hlim (A_.1 m_ + 1) (by omega)
        have q2_ := lim1_ (A_.1 m_) z_
        omega) hnn_ (fun z_ d_ hd_ h5_ hdd_ G_ o_ ho_ => by
        have q_ := hlim (A_.1 m_ + 1) (by omega)
        have q2_ := lim1_ (A_.1 m_) z_
        have ti_ : t_is i1_ B_ m_ (A_.1 m_) = 1 + i1_ d_ := by unfold t_is; rw [if_pos h5_, hdd_, Int.toNat_natCast]
        have tr_ : t_rg r1_ B_ m_ (A_.1 m_) = r1_ d_ := by unfold t_rg; rw [if_neg (by omega), if_pos h5_, hdd_, Int.toNat_natCast]
        exact hX_ d_ (A_.1 m_) hd_ z_ h5_ hdd_ G_ R_ (fc_ + 1) o_ (by omega) (by push_cast; omega) ho_)
      rcases w4_ with ⟨y1_, y2_, y3_⟩ | ⟨y1_, y2_, y3_, y4_⟩
      · exact mod_tot hn_ hB_ hnn_ hlim hX_ f_ r_.1 r_.2.1 r_.2.2 ce_ kk'_ G'_ R'_ fc'_ E'_ O'_ z2_ w1_ w2_ w3_ (by rw [y1_, y2_]; exact hR_) (by rw [y1_, y3_]; exact hf_)
      · have q2_ := lim1_ (A_.1 m_) y2_
        exact mod_tot hn_ hB_ hnn_ hlim hX_ f_ r_.1 r_.2.1 r_.2.2 ce_ kk'_ G'_ R'_ fc'_ E'_ O'_ z2_ w1_ w2_ w3_ (by rw [y1_]; omega) (by rw [y1_]; omega)
/-! more fuel gives the_ same -/
theorem ew_mo {F_ I_ : Nat} {A_ : pA} {X_ Y_ : Nat → gQ → gE → Option (gQ × gE)} {m_ : Nat} {w_ : Int} {s_ r_ : gS} (hXY_ : ∀ d_ q_ e_ z_, X_ d_ q_ e_ = some z_ → Y_ d_ q_ e_ = some z_) (h_ : ew F_ I_ A_ X_ m_ w_ s_ = some r_) : ew F_ I_ A_ Y_ m_ w_ s_ = some r_ := by
  by_cases h17_ : w_ % 32 = 17
  · obtain ⟨o_, z_, h1_, h2_, h3_, h4_, h5_, h6_, h7_⟩ := ew17 h_ h17_
    have h8_ := hXY_ _ _ _ _ h6_
    unfold ew
    rw [if_pos h17_, h1_, h2_]
    simp only []
    rw [if_pos ⟨h3_, h4_, h5_⟩, h8_, h7_]
  · unfold ew at h_ ⊢
    rw [if_neg h17_] at h_ ⊢
    exact h_
theorem ec_mo {F_ I_ : Nat} {A_ : pA} {X_ Y_ : Nat → gQ → gE → Option (gQ × gE)} {m_ : Nat} (hXY_ : ∀ d_ q_ e_ z_, X_ d_ q_ e_ = some z_ → Y_ d_ q_ e_ = some z_) : ∀ (c_ : List Int) (s_ r_ : gS), ec F_ I_ A_ X_ m_ c_ s_ = some r_ → ec F_ I_ A_ Y_ m_ c_ s_ = some r_
  | [], s_, r_, h_ => h_
  | w_ :: c_, s_, r_, h_ => by
    rw [ec] at h_ ⊢
    split at h_
    · rename_i s1_ e_
      rw [ew_mo hXY_ e_]
      exact ec_mo hXY_ c_ s1_ r_ h_
    · cases h_
theorem exm_mo {F_ I_ : Nat} {A_ : pA} {C_ : Nat → List Int} : ∀ (f_ d_ : Nat) (q_ : gQ) (e_ : gE) (z_ : gQ × gE), exm F_ I_ A_ C_ f_ d_ q_ e_ = some z_ → exm F_ I_ A_ C_ (f_ + 1) d_ q_ e_ = some z_
  | 0, _, _, _, _, h_ => by cases h_
  | f_ + 1, d_, q_, e_, z_, h_ => by
    rw [exm] at h_ ⊢
    split at h_
    · rename_i s_ e1_
      rw [ec_mo (fun d_ q_ e_ z_ => exm_mo f_ d_ q_ e_ z_) _ _ _ e1_]
      exact h_
    · cases h_
/-- every module can_ be_ worked out_ -/
theorem exm_tot {b_ : Nat → Int} {n_ F_ I_ M_ : Nat} {B_ : pA} {N_ : Nat → Nat} {C_ : Nat → List Int} {r1_ i1_ : Nat → Int} (hn_ : n_ ≤ 1280) (hB_ : ∀ m_, m_ < M_ → a_ok b_ n_ B_ m_) (hnn_ : ∀ d_, 0 ≤ r1_ d_ ∧ 0 ≤ i1_ d_) (hs_ : ∀ m_, m_ < M_ → r1_ m_ = mc (su (t_rg r1_ B_ m_) (B_.1 m_)) ∧ i1_ m_ = mc (su (t_is i1_ B_ m_) (B_.1 m_))) (hC_ : ∀ m_, m_ < M_ → ∃ f_ A_ c0_ u_ ce_, mch b_ n_ B_ N_ m_ f_ A_ c0_ u_ ce_ ∧ A_.1 m_ = 0 ∧ ce_ = (C_ m_).reverse ++ c0_) : ∀ (k_ m_ : Nat), m_ < k_ → m_ < M_ → r1_ m_ ≤ 6 → i1_ m_ ≤ 200 → ∀ (f_ : Nat) (G_ : pGr) (R_ fc_ : Nat) (e_ : gE), m_ < f_ → (R_ : Int) + r1_ m_ ≤ 6 → (fc_ : Int) + i1_ m_ ≤ 201 → oin B_ m_ (B_.1 m_) e_ → ∃ G'_ e'_, exm F_ I_ B_ C_ f_ m_ (G_, R_, fc_) e_ = some ((G'_, R_ + (r1_ m_).toNat, fc_ + (i1_ m_).toNat), e'_) ∧ ∀ s_, s_ < B_.1 m_ → B_.2.2.1 (40 * m_ + s_) ≠ 5 → ((e'_ s_).length : Int) = B_.2.2.2.1 (40 * m_ + s_)
  | 0, m_, hk_, _, _, _ => absurd hk_ (Nat.not_lt_zero _)
  | k_ + 1, m_, hk_, hM_, h6_, h200_ => by
    intro f_ G_ R_ fc_ e_ hf_ hR_ hfc_ ho_
    obtain ⟨g_, rfl⟩ : ∃ g_, f_ = g_ + 1 := ⟨f_ - 1, by omega⟩
    have hm_ := hs_ m_ hM_
    have bm_ := hB_ m_ hM_
    have am_ := bm_.2 m_ (Nat.le_refl _)
    have nr : ∀ j_, j_ < B_.1 m_ → 0 ≤ t_rg r1_ B_ m_ j_ := by
      intro j_ hj_
      unfold t_rg
      split
      · exact (am_.2 j_ hj_).2.2.1.1
      · split
        · exact (hnn_ _).1
        · exact Int.le_refl _
    have ni_ : ∀ j_, j_ < B_.1 m_ → 0 ≤ t_is i1_ B_ m_ j_ := by
      intro j_ hj_
      unfold t_is
      split
      · have := (hnn_ (B_.2.2.2.2 (40 * m_ + j_)).toNat).2
        omega
      · exact Int.le_refl _
    have er := su_el nr
    have ei_ := su_el ni_
    have xr : su (t_rg r1_ B_ m_) (B_.1 m_) = r1_ m_ := by
      have q_ := hm_.1
      unfold mc at q_
      split at q_ <;> omega
    have xi_ : su (t_is i1_ B_ m_) (B_.1 m_) = i1_ m_ := by
      have q_ := hm_.2
      unfold mc at q_
      split at q_ <;> omega
    obtain ⟨f1_, A_, c0_, u_, ce_, c1_, c2_, c3_⟩ := hC_ m_ hM_
    have t0_ : tst B_ I_ m_ (A_.1 m_) e_ (fun _ => none) := by
      rw [c2_]
      exact ⟨⟨Nat.zero_le _, fun s_ hs_ => absurd hs_ (Nat.not_lt_zero _)⟩, fun s_ hs_ => absurd hs_ (Nat.not_lt_zero _), fun s_ _ hs_ h0_ => ⟨ho_.2 s_ hs_ h0_, rfl⟩, fun s_ hs_ h0_ => ho_.1 s_ hs_ h0_ hs_⟩
    obtain ⟨kk_, G'_, R'_, fc'_, E'_, O'_, w1_, w2_, w3_, w4_, w5_⟩ := mod_tot (F_ := F_) (I_ := I_) (X_ := exm F_ I_ B_ C_ g_) (s0_ := ((G_, R_, fc_), e_, fun _ => none, [])) (r1_ := r1_) (i1_ := i1_) (R0_ := R_) (fc0_ := fc_) (c0_ := c0_) hn_ bm_ hnn_ (fun K_ hK_ => by
      have q1_ := er.2.2 K_ hK_
      have q2_ := ei_.2.2 K_ hK_
      omega) (fun d_ K_ hd_ hK_ h5_ hdd_ G1_ R1_ fc1_ o_ hR1_ hf1_ ho1_ => by
      have ti_ : t_is i1_ B_ m_ K_ = 1 + i1_ d_ := by unfold t_is; rw [if_pos h5_, hdd_, Int.toNat_natCast]
      have tr_ : t_rg r1_ B_ m_ K_ = r1_ d_ := by unfold t_rg; rw [if_neg (by omega), if_pos h5_, hdd_, Int.toNat_natCast]
      have q1_ := er.2.1 K_ hK_
      have q2_ := ei_.2.1 K_ hK_
      exact exm_tot hn_ hB_ hnn_ hs_ hC_ k_ d_ (by omega) (by omega) (by omega) (by omega) g_ G1_ R1_ fc1_ o_ (by omega) hR1_ hf1_ ho1_) f1_ A_ c0_ u_ ce_ [] G_ R_ fc_ e_ (fun _ => none) c1_ rfl rfl t0_ (by rw [c2_]; show (R_ : Int) = R_ + 0; omega) (by rw [c2_]; show (fc_ : Int) = fc_ + 0; omega)
    have ek_ : kk_ = (C_ m_).reverse := by
      rw [w1_] at c3_
      exact List.append_cancel_right c3_
    rw [ek_] at w2_
    have w2_ : ec F_ I_ B_ (exm F_ I_ B_ C_ g_) m_ (C_ m_).reverse.reverse ((G_, R_, fc_), e_, fun _ => none, []) = some ((G'_, R'_, fc'_), E'_, O'_, []) := w2_
    rw [List.reverse_reverse] at w2_
    have nm_ := hnn_ m_
    refine ⟨G'_, E'_, ?_, fun s_ hs_ h5_ => (w3_.1.2 s_ hs_).1 h5_⟩
    rw [exm, w2_]
    show some ((G'_, R'_, fc'_), E'_) = _
    rw [show R'_ = R_ + (r1_ m_).toNat by omega, show fc'_ = fc_ + (i1_ m_).toNat by omega]
end
/-! 99.zd9 -/
section
/-! the items of all modules; written by wip/p55/gen/vg -/

/-! the_ items of_ all_ modules -/
theorem ex_rf {A_ : pA} {M_ : Nat} : a_ex A_ A_ M_ := ⟨Nat.le_refl _, fun _ _ => rfl, fun _ _ _ _ => ⟨rfl, rfl, rfl, Or.inl rfl⟩⟩
theorem ex_tr {A_ B_ C_ : pA} {M_ : Nat} (h_ : a_ex A_ B_ M_) (g_ : a_ex B_ C_ M_) : a_ex A_ C_ M_ := by
  have le_ : ∀ m_, m_ ≤ M_ → A_.1 m_ ≤ B_.1 m_ := by
    intro m_ hm_
    by_cases z_ : m_ = M_
    · rw [z_]; exact h_.1
    · rw [h_.2.1 m_ (by omega)]; exact Nat.le_refl _
  refine ⟨Nat.le_trans h_.1 g_.1, fun m_ hm_ => (h_.2.1 m_ hm_).trans (g_.2.1 m_ hm_), fun m_ s_ hm_ hs_ => ?_⟩
  have x_ := h_.2.2 m_ s_ hm_ hs_
  have y_ := g_.2.2 m_ s_ hm_ (Nat.lt_of_lt_of_le hs_ (le_ m_ hm_))
  refine ⟨x_.1.trans y_.1, x_.2.1.trans y_.2.1, x_.2.2.1.trans y_.2.2.1, ?_⟩
  rcases x_.2.2.2 with z_ | z_
  · rcases y_.2.2.2 with w_ | w_
    · exact Or.inl (z_.trans w_)
    · exact Or.inr ⟨by omega, w_.2⟩
  · rcases y_.2.2.2 with w_ | w_
    · exact Or.inr ⟨z_.1, by omega⟩
    · omega
theorem te_xx {b_ : Nat → Int} {n_ m_ q_ : Nat} {A_ : pA} {so_ w_ d_ : Int} (hA_ : a_ok b_ n_ A_ m_) (h40_ : A_.1 m_ < 40) : a_ex A_ (a_te A_ m_ q_ so_ w_ d_) m_ := by
  refine ⟨?_, fun k_ hk_ => ?_, fun k_ s_ hk_ hs_ => ?_⟩
  · rw [te_f.1]; omega
  · show A_.1 k_ = if k_ = m_ then A_.1 m_ + 1 else A_.1 k_
    rw [if_neg (by omega)]
  · have a40_ := (hA_.2 k_ hk_).1
    have ne_ : 40 * k_ + s_ ≠ 40 * m_ + A_.1 m_ := by
      by_cases z_ : k_ = m_
      · rw [z_] at hs_ ⊢; omega
      · omega
    unfold a_te
    simp only []
    rw [if_neg ne_, if_neg ne_, if_neg ne_, if_neg ne_]
    exact ⟨rfl, rfl, rfl, Or.inl rfl⟩
theorem dr_xx {m_ k_ : Nat} {A_ : pA} (h3_ : A_.2.2.1 k_ = 3) : a_ex A_ (a_dr A_ k_) m_ := by
  refine ⟨Nat.le_refl _, fun _ _ => rfl, fun j_ s_ hj_ hs_ => ⟨rfl, rfl, rfl, ?_⟩⟩
  show A_.2.2.1 (40 * j_ + s_) = (if 40 * j_ + s_ = k_ then 4 else A_.2.2.1 (40 * j_ + s_)) ∨ (A_.2.2.1 (40 * j_ + s_) = 3 ∧ (if 40 * j_ + s_ = k_ then (4 : Int) else A_.2.2.1 (40 * j_ + s_)) = 4)
  by_cases z_ : 40 * j_ + s_ = k_
  · rw [if_pos z_, z_]
    exact Or.inr ⟨h3_, rfl⟩
  · rw [if_neg z_]
    exact Or.inl rfl
section CH_
variable {b_ : Nat → Int} {n_ m_ : Nat} {A_ B_ : pA} {N_ : Nat → Nat}
theorem rb_vl {w_ : Int} {p_ : Nat} {z_ : Nat × Int} (hw_ : 1 ≤ w_ ∧ w_ ≤ 8) (h_ : p_rb b_ n_ w_ p_ = .inr z_) : 0 ≤ z_.2 ∧ z_.2 ≤ 255 := by
  unfold p_rb at h_
  by_cases g_ : lx_kd b_ n_ p_ = 61
  · rw [if_pos g_] at h_
    obtain ⟨q_, h1_, h2_⟩ := pb_inr h_
    obtain ⟨x_, h3_, h4_⟩ := pb_inr h2_
    obtain ⟨r_, h5_, h6_⟩ := pb_inr h4_
    cases h6_
    have k_ := (p_nu_ok h3_).2.2
    have k8_ := pw_8 w_.toNat (by omega)
    show 0 ≤ x_ ∧ x_ ≤ 255
    omega
  · rw [if_neg g_] at h_
    cases h_
    exact ⟨by show (0 : Int) ≤ 0; decide, by show (0 : Int) ≤ 255; decide⟩
theorem xd_pl {c_ : List Int} {p_ : Nat} {x_ : pR} (hn_ : n_ ≤ 1280) (hA_ : a_ok b_ n_ A_ m_) (hp_ : p_ ≤ n_) (hk_ : lx_kd b_ n_ p_ ≠ -1) (h_ : p_xd b_ n_ A_ m_ c_ p_ = .inr x_) : (p_ < x_.1 ∧ x_.1 ≤ n_ ∧ lx_kd b_ n_ x_.1 ≠ -1) ∧ ∃ k_, x_.2.2 = k_ ++ c_ := by
  obtain ⟨k_, q1_, q2_⟩ := ex_ac h_
  have z_ := pex_ok hn_ (pd_ok hA_) hp_ hk_ (Nat.zero_le _) q1_
  exact ⟨⟨z_.1, z_.2.1, z_.2.2.1⟩, k_, q2_⟩
theorem ar_cd {d_ K_ pl_ : Nat} (hn_ : n_ ≤ 1280) (hA_ : a_ok b_ n_ A_ m_) : ∀ (f_ : Nat) (i_ : Int) (c_ : List Int) (p_ : Nat) (x_ : List Int × Nat), p_ar b_ n_ A_ m_ d_ K_ pl_ f_ i_ c_ p_ = .inr x_ → ∃ k_, x_.1 = k_ ++ c_
  | 0, _, _, _, _, h_ => by cases h_
  | f_ + 1, i_, c_, p_, x_, h_ => by
    rw [p_ar] at h_
    obtain ⟨x1_, h1_, h2_⟩ := pb_inr h_
    obtain ⟨k_, q1_, q2_⟩ := ex_ac h1_
    have a1_ : ∃ k1_, p_a1 A_ d_ K_ i_ x1_.2.2 = k1_ ++ c_ := by
      unfold p_a1
      rw [q2_]
      by_cases z_ : i_ = -1
      · rw [if_pos z_]; exact ⟨k_, rfl⟩
      · rw [if_neg z_]; exact ⟨cw 16 K_ i_ :: k_, rfl⟩
    obtain ⟨k1_, ha_⟩ := a1_
    by_cases g_ : i_ ≠ -1 ∧ h_tp x1_.2.1 ≠ A_.2.2.2.1 (40 * d_ + i_.toNat)
    · rw [if_pos g_] at h2_
      cases h2_
    · rw [if_neg g_] at h2_
      by_cases k44_ : lx_kd b_ n_ x1_.1 = 44
      · rw [if_pos k44_] at h2_
        by_cases z_ : p_a2 A_ d_ i_ = -1
        · rw [if_pos z_] at h2_
          cases h2_
        · rw [if_neg z_] at h2_
          obtain ⟨q7_, q8_, q9_⟩ := pb_inr h2_
          obtain ⟨k2_, w_⟩ := ar_cd hn_ hA_ f_ _ _ q7_ x_ q9_
          rw [ha_, ← List.append_assoc] at w_
          exact ⟨k2_ ++ k1_, w_⟩
      · rw [if_neg k44_] at h2_
        rw [(ae_r h2_).2.2.1]
        exact ⟨k1_, ha_⟩
theorem it_b {p_ : Nat} {r_ : pT} {c_ : List Int} (hn_ : n_ ≤ 1280) (hA_ : a_ok b_ n_ A_ m_) (hp_ : p_ ≤ n_) (hkd_ : lx_kd b_ n_ p_ ≠ -1) (e_ : p_it b_ n_ A_ N_ m_ c_ p_ = some (.inr r_)) : a_ok b_ n_ r_.1 m_ ∧ a_ex A_ r_.1 m_ ∧ (p_ < r_.2.2 ∧ r_.2.2 ≤ n_ ∧ lx_kd b_ n_ r_.2.2 ≠ -1) ∧ ∃ k_, r_.2.1 = k_ ++ c_ := by
  have A40_ := (hA_.2 m_ (Nat.le_refl _)).1
  have hm15_ := hA_.1
  have nw_ : ∀ q_ r9_, p_ < q_ → q_ ≤ n_ → p_nw b_ n_ A_ m_ q_ = .inr r9_ → A_.1 m_ < 40 ∧ nmp b_ n_ q_ ∧ q_ < r9_ ∧ r9_ ≤ n_ ∧ lx_kd b_ n_ r9_ ≠ -1 := by
    intro q_ r9_ hq_ hqn_ h_
    obtain ⟨a1_, a2_, a3_⟩ := p_nn_ok h_
    have a4_ := p_ad_ok hqn_ (by omega) a3_
    exact ⟨by omega, ⟨hqn_, a2_⟩, a4_.2⟩
  unfold p_it at e_
  by_cases k4_ : lx_kd b_ n_ p_ = 4
  · rw [if_pos k4_] at e_
    obtain ⟨q_, r9_, u_, y_, h1_, h2_, h3_, h4_, h5_⟩ := in_r (Option.some.inj e_)
    subst h5_
    have p1_ := p_ad_ok hp_ (by omega) h1_
    have p2_ := nw_ q_ r9_ p1_.2.1 p1_.2.2.1 h2_
    have p3_ := p_wi_ok p2_.2.2.2.1 p2_.2.2.2.2 h3_
    have p4_ := p_nd_ok (by decide) p3_.2.1 h4_
    exact ⟨a_te_ok hA_ p2_.1 p2_.2.1 (by decide) (by omega) (fun _ => by omega) (fun z_ => by cases z_) (by decide), te_xx hA_ p2_.1, ⟨by show p_ < y_; omega, p4_.2.2⟩, [], rfl⟩
  · rw [if_neg k4_] at e_
    have va_ : ∀ so_ : Int, (so_ = 1 ∨ so_ = 2) → lx_kd b_ n_ p_ ≠ 0 → p_va b_ n_ A_ m_ so_ c_ p_ = .inr r_ → a_ok b_ n_ r_.1 m_ ∧ a_ex A_ r_.1 m_ ∧ (p_ < r_.2.2 ∧ r_.2.2 ≤ n_ ∧ lx_kd b_ n_ r_.2.2 ≠ -1) ∧ ∃ k_, r_.2.1 = k_ ++ c_ := by
      intro so_ hso_ k0_ e_
      obtain ⟨q_, r9_, u_, v_, x_, y_, h1_, h2_, h3_, h4_, h5_, h6_, h7_, h8_⟩ := va_r e_
      subst h8_
      have p1_ := p_ad_ok hp_ k0_ h1_
      have p2_ := nw_ q_ r9_ p1_.2.1 p1_.2.2.1 h2_
      have p3_ := p_wi_ok p2_.2.2.2.1 p2_.2.2.2.2 h3_
      have p4_ := p_nd_ok (by decide) p3_.2.1 h4_
      obtain ⟨p5_, k_, hk_⟩ := xd_pl hn_ hA_ p4_.2.2.1 p4_.2.2.2 h5_
      have p6_ := p_nd_ok (by decide) p5_.2.1 h7_
      exact ⟨a_te_ok hA_ p2_.1 p2_.2.1 (by omega) (by omega) (fun _ => by omega) (fun z_ => by omega) (by decide), te_xx hA_ p2_.1, ⟨by show p_ < y_; omega, p6_.2.2⟩, cw 12 (A_.1 m_) 0 :: k_, by show cw 12 _ _ :: x_.2.2 = _; rw [hk_]; rfl⟩
    by_cases k5_ : lx_kd b_ n_ p_ = 5
    · rw [if_pos k5_] at e_
      exact va_ 1 (Or.inl rfl) (by omega) (Option.some.inj e_)
    · rw [if_neg k5_] at e_
      by_cases k6_ : lx_kd b_ n_ p_ = 6
      · rw [if_pos k6_] at e_
        exact va_ 2 (Or.inr rfl) (by omega) (Option.some.inj e_)
      · rw [if_neg k6_] at e_
        by_cases k7_ : lx_kd b_ n_ p_ = 7
        · rw [if_pos k7_] at e_
          obtain ⟨q_, r9_, u_, z_, y_, h1_, h2_, h3_, h4_, h5_, h6_⟩ := re_r (Option.some.inj e_)
          subst h6_
          have p1_ := p_ad_ok hp_ (by omega) h1_
          have p2_ := nw_ q_ r9_ p1_.2.1 p1_.2.2.1 h2_
          have p3_ := p_wi_ok p2_.2.2.2.1 p2_.2.2.2.2 h3_
          have p4_ := rb_pl p3_.2.1 p3_.2.2.1 h4_
          have zb_ := rb_vl p3_.2.2.2 h4_
          have p5_ := p_nd_ok (by decide) p4_.2.1 h5_
          exact ⟨a_te_ok hA_ p2_.1 p2_.2.1 (by decide) (by omega) (fun _ => by omega) (fun z_ => by cases z_) zb_, te_xx hA_ p2_.1, ⟨by show p_ < y_; omega, p5_.2.2⟩, [cw 13 (A_.1 m_) 0], rfl⟩
        · rw [if_neg k7_] at e_
          by_cases k8_ : lx_kd b_ n_ p_ = 8
          · rw [if_pos k8_] at e_
            obtain ⟨q_, r9_, d_, u_, v_, x_, y_, h1_, h2_, h3_, h4_, h5_, h6_, h7_, h8_, h9_, h10_⟩ := us_r (Option.some.inj e_)
            subst h10_
            have p1_ := p_ad_ok hp_ (by omega) h1_
            have p2_ := nw_ q_ r9_ p1_.2.1 p1_.2.2.1 h2_
            have p3_ := p_ad_ok p2_.2.2.2.1 (by omega) h6_
            have p4_ := p_nd_ok (by decide) p3_.2.2.1 h7_
            have p5_ : (v_ < x_.2 ∧ x_.2 ≤ n_ ∧ lx_kd b_ n_ x_.2 ≠ -1) ∧ ∃ k_, x_.1 = k_ ++ (cw 15 (A_.1 m_) 0 :: c_) := by
              unfold p_ua at h8_
              by_cases k41_ : lx_kd b_ n_ v_ = 41
              · rw [if_pos k41_] at h8_
                obtain ⟨a1_, a2_, a3_, a4_⟩ := ae_r h8_
                have a6_ := p_ad_ok p4_.2.2.1 (by omega) a4_
                exact ⟨a6_.2, [], by rw [a3_]; rfl⟩
              · rw [if_neg k41_] at h8_
                exact ⟨ar_pl hn_ hA_ _ _ _ _ _ h8_ p4_.2.2.1 p4_.2.2.2, ar_cd hn_ hA_ _ _ _ _ _ h8_⟩
            obtain ⟨p5_, k_, hk_⟩ := p5_
            have p6_ := p_nd_ok (by decide) p5_.2.1 h9_
            exact ⟨a_te_ok hA_ p2_.1 p2_.2.1 (by decide) (by decide) (fun z_ => absurd rfl z_) (fun _ => by omega) (by omega), te_xx hA_ p2_.1, ⟨by show p_ < y_; omega, p6_.2.2⟩, cw 17 (A_.1 m_) d_ :: (k_ ++ [cw 15 (A_.1 m_) 0]), by show cw 17 _ _ :: x_.1 = _; rw [hk_]; simp⟩
          · rw [if_neg k8_] at e_
            by_cases k1_ : lx_kd b_ n_ p_ = 1
            · rw [if_pos k1_] at e_
              obtain ⟨s_, q_, r9_, x_, y_, h1_, h2_, h3_, h4_, h5_, h6_, h7_, h8_, h9_⟩ := ne_r (Option.some.inj e_)
              subst h9_
              have p1_ := p_ad_ok hp_ (by omega) h4_
              have p2_ := p_nd_ok (by decide) p1_.2.2.1 h5_
              obtain ⟨p5_, k_, hk_⟩ := xd_pl hn_ hA_ p2_.2.2.1 p2_.2.2.2 h6_
              have p6_ := p_nd_ok (by decide) p5_.2.1 h8_
              exact ⟨a_dr_ok hA_ h3_, dr_xx h3_, ⟨by show p_ < y_; omega, p6_.2.2⟩, cw 14 (s_ : Int) 0 :: k_, by show cw 14 _ _ :: x_.2.2 = _; rw [hk_]; rfl⟩
            · rw [if_neg k1_] at e_
              cases e_
theorem it_N {N'_ : Nat → Nat} {p_ : Nat} {c_ : List Int} (h_ : ∀ k_, k_ < m_ → N_ k_ = N'_ k_) : p_it b_ n_ A_ N_ m_ c_ p_ = p_it b_ n_ A_ N'_ m_ c_ p_ := by
  have e_ : ∀ r_, p_fm b_ n_ N_ m_ r_ = p_fm b_ n_ N'_ m_ r_ := fun r_ => p_fd_cg (fun j_ hj_ => by show nm_q b_ n_ (N_ j_) r_ = nm_q b_ n_ (N'_ j_) r_; rw [h_ j_ hj_])
  have e2_ : p_us b_ n_ A_ N_ m_ c_ p_ = p_us b_ n_ A_ N'_ m_ c_ p_ := by
    unfold p_us
    simp only [e_]
  unfold p_it
  rw [e2_]
theorem mch_cd (hn_ : n_ ≤ 1280) : ∀ (f_ : Nat) (A_ : pA) (c_ : List Int) (p_ : Nat) (ce_ : List Int), mch b_ n_ B_ N_ m_ f_ A_ c_ p_ ce_ → ∃ k_, ce_ = k_ ++ c_
  | 0, _, _, _, _, h_ => h_.elim
  | f_ + 1, A_, c_, p_, ce_, h_ => by
    obtain ⟨⟨hA_, hx_, hp_, hk_⟩, h2_⟩ := h_
    rcases h2_ with ⟨z1_, z2_, z3_⟩ | ⟨r_, z1_, z2_⟩
    · exact ⟨[], z3_⟩
    · obtain ⟨-, -, -, k1_, h1_⟩ := it_b hn_ hA_ hp_ hk_ z1_
      obtain ⟨k2_, h2_⟩ := mch_cd hn_ f_ _ _ _ ce_ z2_
      rw [h1_, ← List.append_assoc] at h2_
      exact ⟨k2_ ++ k1_, h2_⟩
end CH_
end
/-! 99.ze1 -/
section
/-! the modules of a design; written by wip/p55/gen/vg -/

/-! a_ design's modules, each with its_ items -/
/-- where a_ module's body begins -/
def bod (b_ : Nat → Int) (n_ q_ : Nat) : pE Nat := pb (p_ad b_ n_ q_) (p_nd b_ n_ 123)
def mcc (b_ : Nat → Int) (n_ : Nat) (r_ : pD) (m_ : Nat) : Prop := ∃ f_ A_ c0_ u_ ce_ l_, mch b_ n_ r_.1 r_.2.1 m_ f_ A_ c0_ u_ ce_ ∧ A_.1 m_ = 0 ∧ bod b_ n_ (r_.2.1 m_) = .inr u_ ∧ r_.2.2.2.1 m_ = c0_.length ∧ r_.2.2.2.1 (m_ + 1) = ce_.length ∧ r_.2.2.2.2 = l_ ++ ce_
theorem bm_r {b_ : Nat → Int} {n_ M_ p_ : Nat} {A_ : pA} {N_ : Nat → Nat} {x_ : pA × (Nat → Nat) × Nat} (h_ : p_bm b_ n_ A_ N_ M_ p_ = .inr x_) (hp_ : p_ ≤ n_) : ∃ q_ u_, M_ ≠ 16 ∧ bod b_ n_ q_ = .inr u_ ∧ x_ = (a_bm A_ M_, n_up N_ M_ q_, u_) ∧ p_ < u_ ∧ u_ ≤ n_ ∧ lx_kd b_ n_ u_ ≠ -1 := by
  unfold p_bm at h_
  obtain ⟨q_, h1_, h2_⟩ := pb_inr h_
  by_cases k1_ : lx_kd b_ n_ q_ = 1
  · rw [if_pos k1_] at h2_
    by_cases g_ : p_fm b_ n_ N_ M_ q_ = -1
    · rw [if_pos g_] at h2_
      by_cases g2_ : M_ = 16
      · rw [if_pos g2_] at h2_
        cases h2_
      · rw [if_neg g2_] at h2_
        obtain ⟨r_, h3_, h4_⟩ := pb_inr h2_
        obtain ⟨u_, h5_, h6_⟩ := pb_inr h4_
        cases h6_
        have p1_ := p_nd_ok (by decide) hp_ h1_
        have p2_ := p_ad_ok p1_.2.2.1 (by omega) h3_
        have p3_ := p_nd_ok (by decide) p2_.2.2.1 h5_
        exact ⟨q_, u_, g2_, by unfold bod; rw [pb_r h3_]; exact h5_, rfl, by omega, p3_.2.2⟩
    · rw [if_neg g_] at h2_
      cases h2_
  · rw [if_neg k1_] at h2_
    cases h2_
theorem dl_ch {b_ : Nat → Int} {n_ : Nat} (hn_ : n_ ≤ 1280) : ∀ (f_ : Nat) (A_ : pA) (N_ : Nat → Nat) (M_ : Nat) (mc : Nat → Nat) (c_ : List Int) (p_ : Nat) (r_ : pD), p_dl b_ n_ f_ A_ N_ M_ mc c_ p_ = .inr r_ → a_ok b_ n_ A_ M_ → p_ ≤ n_ → lx_kd b_ n_ p_ ≠ -1 → M_ < r_.2.2.1 ∧ a_ex A_ r_.1 M_ ∧ (∀ m_, m_ ≤ M_ → r_.2.1 m_ = N_ m_ ∧ r_.2.2.2.1 m_ = mc m_) ∧ (∃ f1_ ce_ l_, mch b_ n_ r_.1 r_.2.1 M_ f1_ A_ c_ p_ ce_ ∧ r_.2.2.2.1 (M_ + 1) = ce_.length ∧ r_.2.2.2.2 = l_ ++ ce_) ∧ (∀ m_, M_ < m_ → m_ < r_.2.2.1 → mcc b_ n_ r_ m_) ∧ ∀ m_, m_ < r_.2.2.1 → a_ok b_ n_ r_.1 m_
  | 0, _, _, _, _, _, _, _, h_, _, _, _ => by cases h_
  | f_ + 1, A_, N_, M_, mc, c_, p_, r_, h_, hA_, hp_, hk_ => by
    cases hi_ : p_it b_ n_ A_ N_ M_ c_ p_ with
    | some x_ =>
      rw [dl_i hi_] at h_
      obtain ⟨r1_, h1_, h2_⟩ := pb_inr h_
      rw [h1_] at hi_
      obtain ⟨b1_, b2_, b3_, k_, b4_⟩ := it_b hn_ hA_ hp_ hk_ hi_
      obtain ⟨i1_, i2_, i3_, ⟨f1_, ce_, l_, i4_, i5_, i6_⟩, i7_, i8_⟩ := dl_ch hn_ f_ r1_.1 N_ M_ mc r1_.2.1 r1_.2.2 r_ h2_ b1_ b3_.2.1 b3_.2.2
      have ex_ := ex_tr b2_ i2_
      refine ⟨i1_, ex_, i3_, ⟨f1_ + 1, ce_, l_, ⟨⟨hA_, ex_, hp_, hk_⟩, Or.inr ⟨r1_, ?_, i4_⟩⟩, i5_, i6_⟩, i7_, i8_⟩
      rw [← hi_]
      exact it_N (fun k_ hk_ => (i3_ k_ (by omega)).1)
    | none =>
      rw [dl_n hi_] at h_
      obtain ⟨y_, h1_, h2_⟩ := pb_inr h_
      unfold p_en at h1_
      obtain ⟨q_, h3_, h4_⟩ := pb_inr h1_
      have p1_ := p_nd_ok (by decide) hp_ h3_
      by_cases k0_ : lx_kd b_ n_ q_ = 0
      · rw [if_pos k0_] at h4_
        cases h4_
        have h2_ := Sum.inr.inj h2_
        subst h2_
        refine ⟨Nat.lt_succ_self _, ex_rf, fun m_ hm_ => ⟨rfl, if_neg (by omega)⟩, ⟨1, c_, [], ⟨⟨hA_, ex_rf, hp_, hk_⟩, Or.inl ⟨p1_.1, rfl, rfl⟩⟩, if_pos rfl, rfl⟩, fun m_ hm1_ hm2_ => ?_, fun m_ hm_ => a_ok_le hA_ (by have hm_ : m_ < M_ + 1 := hm_; omega)⟩
        have hm2_ : m_ < M_ + 1 := hm2_
        omega
      · rw [if_neg k0_] at h4_
        obtain ⟨x_, h5_, h6_⟩ := pb_inr h4_
        cases h6_
        obtain ⟨q2_, u_, m16_, hb_, hx_, p2_⟩ := bm_r h5_ p1_.2.2.1
        subst hx_
        have M15_ := hA_.1
        have ok1_ : a_ok b_ n_ (a_bm A_ (M_ + 1)) (M_ + 1) := a_bm_ok (fun m_ hm_ => a_ok_le hA_ (by omega)) (by omega)
        have h2_ : p_dl b_ n_ f_ (a_bm A_ (M_ + 1)) (n_up N_ (M_ + 1) q2_) (M_ + 1) (n_up mc (M_ + 1) c_.length) c_ u_ = .inr r_ := h2_
        obtain ⟨i1_, i2_, i3_, ⟨f1_, ce_, l_, i4_, i5_, i6_⟩, i7_, i8_⟩ := dl_ch hn_ f_ _ _ (M_ + 1) _ c_ u_ r_ h2_ ok1_ p2_.2.1 p2_.2.2
        have bmA_ : ∀ m_, m_ ≤ M_ → (a_bm A_ (M_ + 1)).1 m_ = A_.1 m_ := fun m_ hm_ => if_neg (by omega)
        have ex_ : a_ex A_ r_.1 M_ := by
          refine ⟨?_, fun m_ hm_ => ?_, fun m_ s_ hm_ hs_ => ?_⟩
          · rw [← bmA_ M_ (Nat.le_refl _), i2_.2.1 M_ (by omega)]
            exact Nat.le_refl _
          · rw [← bmA_ m_ (by omega), i2_.2.1 m_ (by omega)]
          · exact i2_.2.2 m_ s_ (by omega) (by rw [bmA_ m_ hm_]; exact hs_)
        have cM_ : A_.1 M_ = r_.1.1 M_ := by rw [← bmA_ M_ (Nat.le_refl _), i2_.2.1 M_ (by omega)]
        have mcM_ := (i3_ (M_ + 1) (Nat.le_refl _)).2
        have e1_ : n_up mc (M_ + 1) c_.length (M_ + 1) = c_.length := if_pos rfl
        obtain ⟨kk_, hkk_⟩ := mch_cd hn_ _ _ _ _ _ i4_
        refine ⟨by omega, ex_, fun m_ hm_ => ?_, ⟨1, c_, l_ ++ kk_, ⟨⟨hA_, ex_, hp_, hk_⟩, Or.inl ⟨p1_.1, cM_, rfl⟩⟩, by rw [mcM_, e1_], by rw [i6_, hkk_, List.append_assoc]⟩, fun m_ hm1_ hm2_ => ?_, i8_⟩
        · have w_ := i3_ m_ (by omega)
          exact ⟨w_.1.trans (if_neg (by omega)), w_.2.trans (if_neg (by omega))⟩
        · by_cases z_ : m_ = M_ + 1
          · subst z_
            refine ⟨f1_, _, c_, u_, ce_, l_, i4_, if_pos rfl, ?_, by rw [mcM_, e1_], i5_, i6_⟩
            rw [(i3_ (M_ + 1) (Nat.le_refl _)).1, show n_up N_ (M_ + 1) q2_ (M_ + 1) = q2_ from if_pos rfl]
            exact hb_
          · exact i7_ m_ (by omega) hm2_
/-- each module of_ a_ right design has_ its_ items -/
theorem de_ch {b_ : Nat → Int} {n_ : Nat} {r_ : pD} (hn_ : n_ ≤ 1280) (h_ : p_de b_ n_ = .inr r_) : (∀ m_, m_ < r_.2.2.1 → mcc b_ n_ r_ m_ ∧ a_ok b_ n_ r_.1 m_) ∧ 0 < r_.2.2.1 := by
  unfold p_de at h_
  by_cases g_ : lx_kd b_ n_ (lx_k b_ n_ 0) = -1
  · rw [if_pos g_] at h_
    cases h_
  · rw [if_neg g_] at h_
    obtain ⟨x_, h1_, h2_⟩ := pb_inr h_
    have k0_ : lx_k b_ n_ 0 ≤ n_ := (lx_k_le (Nat.zero_le n_)).2
    obtain ⟨q_, u_, -, hb_, hx_, p2_⟩ := bm_r h1_ k0_
    subst hx_
    have ok1_ : a_ok b_ n_ (a_bm (fun _ => 0, fun _ => 0, fun _ => 0, fun _ => 0, fun _ => 0) 0) 0 := a_bm_ok (fun m_ hm_ => absurd hm_ (Nat.not_lt_zero _)) (by decide)
    have h2_ : p_dl b_ n_ (n_ + 1) (a_bm (fun _ => 0, fun _ => 0, fun _ => 0, fun _ => 0, fun _ => 0) 0) (n_up (fun _ => 0) 0 q_) 0 (fun _ => 0) [] u_ = .inr r_ := h2_
    obtain ⟨i1_, i2_, i3_, ⟨f1_, ce_, l_, i4_, i5_, i6_⟩, i7_, i8_⟩ := dl_ch hn_ _ _ _ 0 _ [] u_ r_ h2_ ok1_ p2_.2.1 p2_.2.2
    refine ⟨fun m_ hm_ => ⟨?_, i8_ m_ hm_⟩, i1_⟩
    by_cases z_ : m_ = 0
    · subst z_
      refine ⟨f1_, _, [], u_, ce_, l_, i4_, rfl, ?_, (i3_ 0 (Nat.le_refl _)).2, i5_, i6_⟩
      rw [(i3_ 0 (Nat.le_refl _)).1, show n_up (fun _ => 0) 0 q_ 0 = q_ from if_pos rfl]
      exact hb_
    · exact i7_ m_ (by omega) hm_
/-- the_ code of_ each module, in its_ order -/
def dC (r_ : pD) (m_ : Nat) : List Int := ((r_.2.2.2.2.drop (r_.2.2.2.2.length - r_.2.2.2.1 (m_ + 1))).take (r_.2.2.2.1 (m_ + 1) - r_.2.2.2.1 m_)).reverse
theorem dC_r {b_ : Nat → Int} {n_ m_ : Nat} {r_ : pD} (hn_ : n_ ≤ 1280) (h_ : mcc b_ n_ r_ m_) : ∃ f_ A_ c0_ u_ ce_ l_, mch b_ n_ r_.1 r_.2.1 m_ f_ A_ c0_ u_ ce_ ∧ A_.1 m_ = 0 ∧ ce_ = (dC r_ m_).reverse ++ c0_ ∧ bod b_ n_ (r_.2.1 m_) = .inr u_ ∧ r_.2.2.2.1 m_ = c0_.length ∧ r_.2.2.2.1 (m_ + 1) = c0_.length + (dC r_ m_).length ∧ r_.2.2.2.2 = l_ ++ ce_ := by
  obtain ⟨f_, A_, c0_, u_, ce_, l_, h1_, h2_, h3_, h4_, h5_, h6_⟩ := h_
  obtain ⟨k_, hk_⟩ := mch_cd hn_ _ _ _ _ _ h1_
  have e_ : dC r_ m_ = k_.reverse := by
    unfold dC
    rw [h4_, h5_, h6_, hk_]
    rw [show (l_ ++ (k_ ++ c0_)).length - (k_ ++ c0_).length = l_.length by simp, List.drop_left, show (k_ ++ c0_).length - c0_.length = k_.length by simp, List.take_left]
  refine ⟨f_, A_, c0_, u_, ce_, l_, h1_, h2_, by rw [e_, List.reverse_reverse]; exact hk_, h3_, h4_, ?_, h6_⟩
  rw [h5_, hk_, e_]
  simp
  omega
end
/-! 99.ze2a -/
section
/-! the reference: next values; written by wip/p55/gen/vg -/

/-! next values, second pass -/
theorem rg_p2 {b_ : Nat → Int} {n_ T_ p_ q_ r_ : Nat} {S_ : sm_S} {x_ : Int} (ht_ : rtab b_ n_ T_ S_) (hg_ : rg b_ n_ T_ (.inr p_) S_) (hk_ : lx_kd b_ n_ p_ ≠ 0) (ha_ : p_ad b_ n_ p_ = .inr q_) (hk2_ : lx_kd b_ n_ q_ ≠ 0) (ha2_ : p_ad b_ n_ q_ = .inr r_) (hx_ : x_ = S_.1 13 0 9 + 2) : rg b_ n_ T_ (.inr r_) (sm_pI S_ 13 0 9 x_) ∧ S_.1 13 0 9 + 2 ≤ (T_ : Int) := by
  obtain ⟨w1_, w2_⟩ := rg_pp (x_ := S_.1 13 0 9 + 1) ht_ hg_ hk_ ha_ rfl
  have ht1_ : rtab b_ n_ T_ (sm_pI S_ 13 0 9 (S_.1 13 0 9 + 1)) := rtab_fr (w_ := ([(13, 9)], [], [])) ht_ (ai_fr_pI rfl) rfl rfl rfl rfl rfl
  obtain ⟨w3_, w4_⟩ := rg_pp (x_ := S_.1 13 0 9 + 2) ht1_ w1_ hk2_ ha2_ (by rw [rf_eq]; omega)
  rw [rf_eq] at w4_
  refine ⟨⟨hg_.1, ?_⟩, by omega⟩
  obtain ⟨i_, h1_, h2_⟩ := w3_.2
  refine ⟨i_, ?_, h2_⟩
  rw [rf_eq] at h1_ ⊢
  omega
theorem rg_p3 {b_ : Nat → Int} {n_ T_ p_ q_ r_ u_ : Nat} {S_ : sm_S} {x_ : Int} (ht_ : rtab b_ n_ T_ S_) (hg_ : rg b_ n_ T_ (.inr p_) S_) (hk_ : lx_kd b_ n_ p_ ≠ 0) (ha_ : p_ad b_ n_ p_ = .inr q_) (hk2_ : lx_kd b_ n_ q_ ≠ 0) (ha2_ : p_ad b_ n_ q_ = .inr r_) (hk3_ : lx_kd b_ n_ r_ ≠ 0) (ha3_ : p_ad b_ n_ r_ = .inr u_) (hx_ : x_ = S_.1 13 0 9 + 3) : rg b_ n_ T_ (.inr u_) (sm_pI S_ 13 0 9 x_) ∧ S_.1 13 0 9 + 3 ≤ (T_ : Int) := by
  obtain ⟨w1_, w2_⟩ := rg_p2 (x_ := S_.1 13 0 9 + 2) ht_ hg_ hk_ ha_ hk2_ ha2_ rfl
  have ht1_ : rtab b_ n_ T_ (sm_pI S_ 13 0 9 (S_.1 13 0 9 + 2)) := rtab_fr (w_ := ([(13, 9)], [], [])) ht_ (ai_fr_pI rfl) rfl rfl rfl rfl rfl
  obtain ⟨w3_, w4_⟩ := rg_pp (x_ := S_.1 13 0 9 + 3) ht1_ w1_ hk3_ ha3_ (by rw [rf_eq]; omega)
  rw [rf_eq] at w4_
  refine ⟨⟨hg_.1, ?_⟩, by omega⟩
  obtain ⟨i_, h1_, h2_⟩ := w3_.2
  refine ⟨i_, ?_, h2_⟩
  rw [rf_eq] at h1_ ⊢
  omega
theorem rwv_lz {st_ : Nat → Int} {p_ k_ N_ : Nat} {v_ : List Int} (h_ : rwv st_ p_ v_) (hl_ : lwl N_ v_) (hk_ : k_ < v_.length) : 0 ≤ st_ (p_ + k_) ∧ st_ (p_ + k_) < 2 * (N_ : Int) := by
  rw [h_ k_ v_[k_] (List.getElem?_eq_getElem hk_)]
  exact hl_ _ (List.getElem_mem hk_)
/-! M_.makeNext -/
end
/-! 99.ze3 -/
section
/-! arguments one behind the other; written by wip/p55/gen/vg -/

/-! the_ arguments of_ an_ instance, one_ behind the_ other -/
def ach (b_ : Nat → Int) (n_ : Nat) (A_ : pA) (m_ d_ : Nat) : List (pR × Nat) → Nat → Nat → Nat → Prop
  | [], _, _, _ => False
  | xi_ :: l_, k_, p_, pe_ => p_ni A_ d_ k_ = (xi_.2 : Int) ∧ p_ex b_ n_ false (p_pd b_ n_ A_ m_) [] p_ = .inr xi_.1 ∧ h_tp xi_.1.2.1 = A_.2.2.2.1 (40 * d_ + xi_.2) ∧ ((l_ = [] ∧ p_ni A_ d_ (xi_.2 + 1) = -1 ∧ pe_ = xi_.1.1) ∨ (l_ ≠ [] ∧ lx_kd b_ n_ xi_.1.1 = 44 ∧ ∃ p1_, p_ad b_ n_ xi_.1.1 = .inr p1_ ∧ ach b_ n_ A_ m_ d_ l_ (xi_.2 + 1) p1_ pe_))
def uch (b_ : Nat → Int) (n_ : Nat) (A_ : pA) (m_ d_ : Nat) (l_ : List (pR × Nat)) (k_ p_ pe_ : Nat) : Prop := (l_ = [] ∧ p_ni A_ d_ k_ = -1 ∧ pe_ = p_) ∨ ach b_ n_ A_ m_ d_ l_ k_ p_ pe_
def acd (K_ : Nat) : List (pR × Nat) → List Int → List Int
  | [], c_ => c_
  | xi_ :: l_, c_ => acd K_ l_ (cw 16 (K_ : Int) (xi_.2 : Int) :: (xi_.1.2.2 ++ c_))
section AC_
variable {b_ : Nat → Int} {n_ m_ d_ : Nat} {A_ : pA}
theorem ar_ac {K_ pl_ : Nat} : ∀ (f_ : Nat) (i_ : Int) (c_ : List Int) (p_ : Nat) (x_ : List Int × Nat) (k_ : Nat), p_ar b_ n_ A_ m_ d_ K_ pl_ f_ i_ c_ p_ = .inr x_ → i_ = p_ni A_ d_ k_ → ∃ l_ pe_, ach b_ n_ A_ m_ d_ l_ k_ p_ pe_ ∧ x_.1 = acd K_ l_ c_ ∧ lx_kd b_ n_ pe_ = 41 ∧ p_ad b_ n_ pe_ = .inr x_.2
  | 0, _, _, _, _, _, h_, _ => by cases h_
  | f_ + 1, i_, c_, p_, x_, k_, h_, hi_ => by
    rw [p_ar] at h_
    obtain ⟨x1_, h1_, h2_⟩ := pb_inr h_
    obtain ⟨k1_, q1_, q2_⟩ := ex_ac h1_
    by_cases im_ : i_ = -1
    · exfalso
      rw [if_neg (fun z_ => z_.1 im_)] at h2_
      have a2_ : p_a2 A_ d_ i_ = -1 := if_pos im_
      by_cases k44_ : lx_kd b_ n_ x1_.1 = 44
      · rw [if_pos k44_, if_pos a2_] at h2_
        cases h2_
      · rw [if_neg k44_] at h2_
        have w_ := (ae_r h2_).1
        rw [decide_eq_true (Or.inl im_)] at w_
        cases w_
    · obtain ⟨iN_, hiN_⟩ : ∃ iN_ : Nat, p_ni A_ d_ k_ = (iN_ : Int) := by
        rcases p_ni_c (A_ := A_) (m_ := d_) (k_ := k_) with z_ | z_
        · exact absurd (hi_.trans z_) im_
        · exact ⟨(p_ni A_ d_ k_).toNat, by omega⟩
      have iv_ : i_ = (iN_ : Int) := hi_.trans hiN_
      have wl : h_tp x1_.2.1 = A_.2.2.2.1 (40 * d_ + iN_) := by
        by_cases z_ : h_tp x1_.2.1 = A_.2.2.2.1 (40 * d_ + iN_)
        · exact z_
        · rw [if_pos ⟨im_, by rw [iv_, Int.toNat_natCast]; exact z_⟩] at h2_
          cases h2_
      rw [if_neg (fun z_ => z_.2 (by rw [iv_, Int.toNat_natCast]; exact wl))] at h2_
      have a1_ : p_a1 A_ d_ K_ i_ x1_.2.2 = cw 16 (K_ : Int) (iN_ : Int) :: (k1_ ++ c_) := by
        unfold p_a1
        rw [if_neg im_, q2_, iv_]
      have a2_ : p_a2 A_ d_ i_ = p_ni A_ d_ (iN_ + 1) := by
        unfold p_a2
        rw [if_neg im_, iv_, Int.toNat_natCast]
      rw [a1_, a2_] at h2_
      by_cases k44_ : lx_kd b_ n_ x1_.1 = 44
      · rw [if_pos k44_] at h2_
        by_cases z_ : p_ni A_ d_ (iN_ + 1) = -1
        · rw [if_pos z_] at h2_
          cases h2_
        · rw [if_neg z_] at h2_
          obtain ⟨q7_, q8_, q9_⟩ := pb_inr h2_
          obtain ⟨l_, pe_, w1_, w2_, w3_, w4_⟩ := ar_ac f_ _ _ q7_ x_ (iN_ + 1) q9_ rfl
          refine ⟨((x1_.1, x1_.2.1, k1_), iN_) :: l_, pe_, ⟨hiN_, q1_, wl, Or.inr ⟨?_, k44_, q7_, q8_, w1_⟩⟩, w2_, w3_, w4_⟩
          intro e_
          rw [e_] at w1_
          exact w1_
      · rw [if_neg k44_] at h2_
        obtain ⟨w1_, w2_, w3_, w4_⟩ := ae_r h2_
        have w5_ : p_ni A_ d_ (iN_ + 1) = -1 := by
          by_cases z_ : p_ni A_ d_ (iN_ + 1) = -1
          · exact z_
          · rw [decide_eq_true (Or.inr z_)] at w1_
            cases w1_
        exact ⟨[((x1_.1, x1_.2.1, k1_), iN_)], x1_.1, ⟨hiN_, q1_, wl, Or.inl ⟨rfl, w5_, rfl⟩⟩, w3_, w2_, w4_⟩
theorem ua_ac {K_ pl_ p_ : Nat} {c_ : List Int} {x_ : List Int × Nat} (h_ : p_ua b_ n_ A_ m_ d_ K_ pl_ c_ p_ = .inr x_) : ∃ l_ pe_, uch b_ n_ A_ m_ d_ l_ 0 p_ pe_ ∧ x_.1 = acd K_ l_ c_ ∧ lx_kd b_ n_ pe_ = 41 ∧ p_ad b_ n_ pe_ = .inr x_.2 := by
  unfold p_ua at h_
  by_cases k41_ : lx_kd b_ n_ p_ = 41
  · rw [if_pos k41_] at h_
    obtain ⟨a1_, a2_, a3_, a4_⟩ := ae_r h_
    have a5_ : p_ni A_ d_ 0 = -1 := by
      by_cases z_ : p_ni A_ d_ 0 = -1
      · exact z_
      · rw [decide_eq_true z_] at a1_
        cases a1_
    exact ⟨[], p_, Or.inl ⟨rfl, a5_, rfl⟩, a3_, k41_, a4_⟩
  · rw [if_neg k41_] at h_
    obtain ⟨l_, pe_, w1_, w2_⟩ := ar_ac _ _ _ _ _ 0 h_ rfl
    exact ⟨l_, pe_, Or.inr w1_, w2_⟩
/-- how_ many there are_, and which -/
theorem ach_n {M_ : Nat} (hA_ : a_ok b_ n_ A_ M_) (hd_ : d_ ≤ M_) : ∀ (l_ : List (pR × Nat)) (k_ p_ pe_ : Nat), uch b_ n_ A_ m_ d_ l_ k_ p_ pe_ → k_ ≤ A_.1 d_ → p_cn (g_in A_ d_) (A_.1 d_) = p_cn (g_in A_ d_) k_ + l_.length
  | [], k_, p_, pe_, h_, hk_ => by
    rcases h_ with h_ | h_
    · rcases p_ni_r (k_ := k_) hA_ hd_ with z_ | ⟨v_, z1_, z2_, z3_, z4_, z5_⟩
      · have := p_cn_le (g_ := g_in A_ d_) hk_
        simp only [List.length_nil]
        omega
      · have := h_.2.1
        omega
    · exact h_.elim
  | xi_ :: l_, k_, p_, pe_, h_, hk_ => by
    rcases h_ with h_ | h_
    · cases h_.1
    · obtain ⟨h1_, h2_, h3_, h4_⟩ := h_
      rcases p_ni_r (k_ := k_) hA_ hd_ with z_ | ⟨v_, z1_, z2_, z3_, z4_, z5_⟩
      · have := z_.1
        omega
      · have ev : v_ = xi_.2 := by omega
        subst ev
        have e1_ : p_cn (g_in A_ d_) (xi_.2 + 1) = p_cn (g_in A_ d_) k_ + 1 := by
          rw [p_cn, z4_, if_pos rfl]
          omega
        rcases h4_ with ⟨w1_, w2_, w3_⟩ | ⟨w1_, w2_, p1_, w3_, w4_⟩
        · subst w1_
          have w_ := ach_n hA_ hd_ [] (xi_.2 + 1) pe_ pe_ (Or.inl ⟨rfl, w2_, rfl⟩) z3_
          rw [w_, e1_]
          simp
        · have w_ := ach_n hA_ hd_ l_ (xi_.2 + 1) p1_ pe_ (Or.inr w4_) z3_
          rw [w_, e1_, List.length_cons]
          omega
end AC_
end
/-! 99.zf1a -/
section
/-! the class: the graph begins; written by wip/p55/gen/vg -/

/-! the_ graph begins -/
theorem cn1_0 {f_ : Nat → Int} : ∀ {n_ : Nat}, (∀ k_, k_ < n_ → f_ k_ ≠ 1) → cn1 f_ n_ = 0
  | 0, _ => rfl
  | n_ + 1, h_ => by
    unfold cn1
    rw [cn1_0 (fun k_ hk_ => h_ k_ (by omega)), if_neg (h_ n_ (by omega))]
theorem bkr_0 {F_ : Nat} {u_ : Nat → Int} (h_ : ∀ j_, j_ < 4096 → u_ j_ = 0) : bkr F_ [] u_ := by
  refine ⟨fun j_ hj_ => Or.inl (h_ j_ hj_), fun k_ x_ y_ e_ => by simp at e_, ?_⟩
  exact cn1_0 (fun k_ hk_ => by unfold nz; rw [if_pos (h_ k_ hk_)]; decide)
/-- the_ inputs' values at the_ beginning -/
def ein (A_ : pA) (m_ s_ : Nat) : List Int := if s_ < A_.1 m_ ∧ A_.2.2.1 (40 * m_ + s_) = 0 then r_bt 0 (su (t_in A_ 0 m_) s_).toNat (A_.2.2.2.1 (40 * m_ + s_)).toNat else []
theorem ein_o {b_ : Nat → Int} {n_ m_ : Nat} {A_ : pA} (hA_ : a_ok b_ n_ A_ m_) : oin A_ m_ (A_.1 m_) (ein A_ m_) := by
  refine ⟨fun s_ hs_ h0_ _ => ?_, fun s_ hs_ h0_ => ?_⟩
  · have w_ := ((hA_.2 m_ (Nat.le_refl _)).2 s_ hs_).2.2.1
    unfold ein
    rw [if_pos ⟨hs_, h0_⟩, r_bt_l]
    omega
  · unfold ein
    rw [if_neg (fun z_ => h0_ z_.2)]
/-! java/util/Arrays.fill -/
def vw_2b : sx_Wl := ([], [29], [])
def vq_2b (v0_ : Int) (S0_ : sm_S) (u_ : Option sm_V) (S1_ : sm_S) : Prop := u_ = none ∧ gi S1_ ∧ ai_fr (sx_W vw_2b) S0_ S1_ ∧ (∀ j_, j_ < 4096 → S1_.2.2.1 29 0 j_ = v0_)
set_option maxHeartbeats 400000 in
theorem vl_2b {sc_ : Nat × (Nat → Int)} (v0_ : Int) (S0_ : sm_S) (hv_ : (-1) ≤ v0_ ∧ v0_ ≤ 1012) : ∀ nn_ : Nat, (∀ (k_ : Int) (S_ : sm_S), gi S_ → ai_fr (sx_W vw_2b) S0_ S_ → ((0 ≤ k_ ∧ k_ ≤ 4096) ∧ (∀ j_, j_ < k_.toNat → S_.2.2.1 29 0 j_ = v0_) ∧ True) → ((4096 - k_).toNat) < nn_ → sm_T (mt_P sc_) 0 2 (5, [some (.inr (.inr (some (29, 0)))), some (.inl v0_), some (.inl k_), some (.inl 4096)], [], S_) (fun ro9_ => ∃ u_ S1_, ro9_ = (.inl u_, S1_, 0) ∧ vq_2b v0_ S0_ u_ S1_)) := by
  intro nn_
  induction nn_ with
  | zero => exact fun _ _ _ _ _ h_ => absurd h_ (Nat.not_lt_zero _)
  | succ nn_ ih_ =>
    rintro k_ S_ hI_ hF_ ⟨h0_, h1_, -⟩ hm_
    refine sm_T_go 2 (c1 := (7, [some (.inr (.inr (some (29, 0)))), some (.inl v0_), some (.inl k_), some (.inl 4096)], [.inl 4096, .inl k_], S_)) rfl ?_
    refine sm_T_br (a := 3) (z := 13) rfl (fun cx1_ => ?_) (fun cx1_ => ?_)
    · have cx1_ : 4096 ≤ k_ := of_decide_eq_true cx1_
      refine sm_T_rv rfl ⟨_, _, rfl, rfl, hI_, hF_, ?_⟩
      exact fun j_ hj_ => h1_ j_ (by omega)
    · have cx1_ : ¬ (4096 ≤ k_) := of_decide_eq_false cx1_
      refine sm_T_go 3 (c1 := (13, [some (.inr (.inr (some (29, 0)))), some (.inl v0_), some (.inl k_), some (.inl 4096)], [.inl v0_, .inl k_, .inr (.inr (some (29, 0)))], S_)) rfl ?_
      refine sm_T_iast (n := 4096) rfl rfl (by omega) (by omega) ?_
      have hIx2_ : gi (sm_aI S_ 29 0 k_.toNat v0_) := gi_aI hI_ (show (-1) ≤ v0_ ∧ v0_ ≤ 1012 from ⟨by omega, by omega⟩)
      have hFx3_ : ai_fr (sx_W vw_2b) S0_ (sm_aI S_ 29 0 k_.toNat v0_) := ai_fr_tr hF_ (ai_fr_aI rfl)
      refine sm_T_inc (a := 2) (z := 1) (v := k_) (w := k_ + 1) rfl rfl (by omega) (by omega) (by omega) ?_
      refine sm_T_go 1 (c1 := (5, [some (.inr (.inr (some (29, 0)))), some (.inl v0_), some (.inl (k_ + 1)), some (.inl 4096)], [], sm_aI S_ 29 0 k_.toNat v0_)) rfl ?_
      refine ih_ (k_ + 1) (sm_aI S_ 29 0 k_.toNat v0_) hIx2_ hFx3_ ⟨?_, ?_, trivial⟩ ?_
      · omega
      · intro j_ hj_
        rw [rd_eq]
        by_cases z_ : j_ = k_.toNat
        · rw [if_pos z_]
        · rw [if_neg z_]; exact h1_ j_ (by omega)
      · omega
set_option maxHeartbeats 400000 in
theorem vc_2b {sc_ : Nat × (Nat → Int)} (v0_ : Int) (S0_ : sm_S) (hI_ : gi S0_) (hv_ : (-1) ≤ v0_ ∧ v0_ ≤ 1012) : sm_T (mt_P sc_) 0 2 (0, [some (.inr (.inr (some (29, 0)))), some (.inl v0_), none, none], [], S0_) (fun ro9_ => ∃ u_ S1_, ro9_ = (.inl u_, S1_, 0) ∧ vq_2b v0_ S0_ u_ S1_) := by
  have hF_ : ai_fr (sx_W vw_2b) S0_ S0_ := ai_fr_rf
  refine sm_T_go 5 (c1 := (5, [some (.inr (.inr (some (29, 0)))), some (.inl v0_), some (.inl 0), some (.inl 4096)], [], S0_)) rfl ?_
  refine (vl_2b v0_ S0_ hv_ _) 0 S0_ hI_ hF_ ⟨?_, ?_, trivial⟩ (Nat.lt_succ_self _)
  · omega
  · (intro j_ hj_; exact absurd hj_ (Nat.not_lt_zero _))
end
/-! 99.zf1b -/
section
/-! java/util/Arrays.fill -/
def vw_2l : sx_Wl := ([], [42], [])
def vq_2l (v0_ : Int) (dd_ : Nat) (S0_ : sm_S) (u_ : Option sm_V) (S1_ : sm_S) : Prop := u_ = none ∧ gi S1_ ∧ ai_fr (sx_W vw_2l) S0_ S1_ ∧ (idf dd_ S0_ S1_ ∧ (∀ j_, j_ < 1013 → S1_.2.2.1 42 (0 + dd_) j_ = v0_))
set_option maxHeartbeats 400000 in
theorem vl_2l {sc_ : Nat × (Nat → Int)} (v0_ : Int) (dd_ : Nat) (S0_ : sm_S) (hv_ : 0 ≤ v0_ ∧ v0_ ≤ 2025) : ∀ nn_ : Nat, (∀ (k_ : Int) (S_ : sm_S), gi S_ → ai_fr (sx_W vw_2l) S0_ S_ → ((0 ≤ k_ ∧ k_ ≤ 1013) ∧ (∀ j_, j_ < k_.toNat → S_.2.2.1 42 (0 + dd_) j_ = v0_) ∧ (idf dd_ S0_ S_) ∧ True) → ((1013 - k_).toNat) < nn_ → sm_T (mt_P sc_) 0 2 (5, [some (.inr (.inr (some (42, (0 + dd_))))), some (.inl v0_), some (.inl k_), some (.inl 1013)], [], S_) (fun ro9_ => ∃ u_ S1_, ro9_ = (.inl u_, S1_, 0) ∧ vq_2l v0_ dd_ S0_ u_ S1_)) := by
  intro nn_
  induction nn_ with
  | zero => exact fun _ _ _ _ _ h_ => absurd h_ (Nat.not_lt_zero _)
  | succ nn_ ih_ =>
    rintro k_ S_ hI_ hF_ ⟨h0_, h1_, hD_, -⟩ hm_
    refine sm_T_go 2 (c1 := (7, [some (.inr (.inr (some (42, (0 + dd_))))), some (.inl v0_), some (.inl k_), some (.inl 1013)], [.inl 1013, .inl k_], S_)) rfl ?_
    refine sm_T_br (a := 3) (z := 13) rfl (fun cx1_ => ?_) (fun cx1_ => ?_)
    · have cx1_ : 1013 ≤ k_ := of_decide_eq_true cx1_
      refine sm_T_rv rfl ⟨_, _, rfl, rfl, hI_, hF_, ?_⟩
      refine ⟨hD_, ?_⟩
      exact fun j_ hj_ => h1_ j_ (by omega)
    · have cx1_ : ¬ (1013 ≤ k_) := of_decide_eq_false cx1_
      refine sm_T_go 3 (c1 := (13, [some (.inr (.inr (some (42, (0 + dd_))))), some (.inl v0_), some (.inl k_), some (.inl 1013)], [.inl v0_, .inl k_, .inr (.inr (some (42, (0 + dd_))))], S_)) rfl ?_
      refine sm_T_iast (n := 1013) rfl rfl (by omega) (by omega) ?_
      have hIx2_ : gi (sm_aI S_ 42 (0 + dd_) k_.toNat v0_) := gi_aI hI_ (show 0 ≤ v0_ ∧ v0_ ≤ 2025 from ⟨by omega, by omega⟩)
      have hFx3_ : ai_fr (sx_W vw_2l) S0_ (sm_aI S_ 42 (0 + dd_) k_.toNat v0_) := ai_fr_tr hF_ (ai_fr_aI rfl)
      have hDx4_ : idf dd_ S0_ (sm_aI S_ 42 (0 + dd_) k_.toNat v0_) := idf_aI hD_ (Or.inr rfl)
      refine sm_T_inc (a := 2) (z := 1) (v := k_) (w := k_ + 1) rfl rfl (by omega) (by omega) (by omega) ?_
      refine sm_T_go 1 (c1 := (5, [some (.inr (.inr (some (42, (0 + dd_))))), some (.inl v0_), some (.inl (k_ + 1)), some (.inl 1013)], [], sm_aI S_ 42 (0 + dd_) k_.toNat v0_)) rfl ?_
      refine ih_ (k_ + 1) (sm_aI S_ 42 (0 + dd_) k_.toNat v0_) hIx2_ hFx3_ ⟨?_, ?_, ?_, trivial⟩ ?_
      · omega
      · intro j_ hj_
        rw [rd_eq]
        by_cases z_ : j_ = k_.toNat
        · rw [if_pos z_]
        · rw [if_neg z_]; exact h1_ j_ (by omega)
      · exact hDx4_
      · omega
set_option maxHeartbeats 400000 in
theorem vc_2l {sc_ : Nat × (Nat → Int)} (v0_ : Int) (dd_ : Nat) (S0_ : sm_S) (hI_ : gi S0_) (hv_ : 0 ≤ v0_ ∧ v0_ ≤ 2025) : sm_T (mt_P sc_) 0 2 (0, [some (.inr (.inr (some (42, (0 + dd_))))), some (.inl v0_), none, none], [], S0_) (fun ro9_ => ∃ u_ S1_, ro9_ = (.inl u_, S1_, 0) ∧ vq_2l v0_ dd_ S0_ u_ S1_) := by
  have hF_ : ai_fr (sx_W vw_2l) S0_ S0_ := ai_fr_rf
  have hD_ : idf dd_ S0_ S0_ := idf_rf
  refine sm_T_go 5 (c1 := (5, [some (.inr (.inr (some (42, (0 + dd_))))), some (.inl v0_), some (.inl 0), some (.inl 1013)], [], S0_)) rfl ?_
  refine (vl_2l v0_ dd_ S0_ hv_ _) 0 S0_ hI_ hF_ ⟨?_, ?_, ?_, trivial⟩ (Nat.lt_succ_self _)
  · omega
  · (intro j_ hj_; exact absurd hj_ (Nat.not_lt_zero _))
  · exact hD_
end
/-! 99.zf1c -/
section
/-! java/util/Arrays.fill -/
def vw_2h : sx_Wl := ([], [43], [])
def vq_2h (v0_ : Int) (dd_ : Nat) (S0_ : sm_S) (u_ : Option sm_V) (S1_ : sm_S) : Prop := u_ = none ∧ gi S1_ ∧ ai_fr (sx_W vw_2h) S0_ S1_ ∧ (idf dd_ S0_ S1_ ∧ (∀ j_, j_ < 1013 → S1_.2.2.1 43 (0 + dd_) j_ = v0_))
set_option maxHeartbeats 400000 in
theorem vl_2h {sc_ : Nat × (Nat → Int)} (v0_ : Int) (dd_ : Nat) (S0_ : sm_S) (hv_ : 0 ≤ v0_ ∧ v0_ ≤ 2025) : ∀ nn_ : Nat, (∀ (k_ : Int) (S_ : sm_S), gi S_ → ai_fr (sx_W vw_2h) S0_ S_ → ((0 ≤ k_ ∧ k_ ≤ 1013) ∧ (∀ j_, j_ < k_.toNat → S_.2.2.1 43 (0 + dd_) j_ = v0_) ∧ (idf dd_ S0_ S_) ∧ True) → ((1013 - k_).toNat) < nn_ → sm_T (mt_P sc_) 0 2 (5, [some (.inr (.inr (some (43, (0 + dd_))))), some (.inl v0_), some (.inl k_), some (.inl 1013)], [], S_) (fun ro9_ => ∃ u_ S1_, ro9_ = (.inl u_, S1_, 0) ∧ vq_2h v0_ dd_ S0_ u_ S1_)) := by
  intro nn_
  induction nn_ with
  | zero => exact fun _ _ _ _ _ h_ => absurd h_ (Nat.not_lt_zero _)
  | succ nn_ ih_ =>
    rintro k_ S_ hI_ hF_ ⟨h0_, h1_, hD_, -⟩ hm_
    refine sm_T_go 2 (c1 := (7, [some (.inr (.inr (some (43, (0 + dd_))))), some (.inl v0_), some (.inl k_), some (.inl 1013)], [.inl 1013, .inl k_], S_)) rfl ?_
    refine sm_T_br (a := 3) (z := 13) rfl (fun cx1_ => ?_) (fun cx1_ => ?_)
    · have cx1_ : 1013 ≤ k_ := of_decide_eq_true cx1_
      refine sm_T_rv rfl ⟨_, _, rfl, rfl, hI_, hF_, ?_⟩
      refine ⟨hD_, ?_⟩
      exact fun j_ hj_ => h1_ j_ (by omega)
    · have cx1_ : ¬ (1013 ≤ k_) := of_decide_eq_false cx1_
      refine sm_T_go 3 (c1 := (13, [some (.inr (.inr (some (43, (0 + dd_))))), some (.inl v0_), some (.inl k_), some (.inl 1013)], [.inl v0_, .inl k_, .inr (.inr (some (43, (0 + dd_))))], S_)) rfl ?_
      refine sm_T_iast (n := 1013) rfl rfl (by omega) (by omega) ?_
      have hIx2_ : gi (sm_aI S_ 43 (0 + dd_) k_.toNat v0_) := gi_aI hI_ (show 0 ≤ v0_ ∧ v0_ ≤ 2025 from ⟨by omega, by omega⟩)
      have hFx3_ : ai_fr (sx_W vw_2h) S0_ (sm_aI S_ 43 (0 + dd_) k_.toNat v0_) := ai_fr_tr hF_ (ai_fr_aI rfl)
      have hDx4_ : idf dd_ S0_ (sm_aI S_ 43 (0 + dd_) k_.toNat v0_) := idf_aI hD_ (Or.inr rfl)
      refine sm_T_inc (a := 2) (z := 1) (v := k_) (w := k_ + 1) rfl rfl (by omega) (by omega) (by omega) ?_
      refine sm_T_go 1 (c1 := (5, [some (.inr (.inr (some (43, (0 + dd_))))), some (.inl v0_), some (.inl (k_ + 1)), some (.inl 1013)], [], sm_aI S_ 43 (0 + dd_) k_.toNat v0_)) rfl ?_
      refine ih_ (k_ + 1) (sm_aI S_ 43 (0 + dd_) k_.toNat v0_) hIx2_ hFx3_ ⟨?_, ?_, ?_, trivial⟩ ?_
      · omega
      · intro j_ hj_
        rw [rd_eq]
        by_cases z_ : j_ = k_.toNat
        · rw [if_pos z_]
        · rw [if_neg z_]; exact h1_ j_ (by omega)
      · exact hDx4_
      · omega
set_option maxHeartbeats 400000 in
theorem vc_2h {sc_ : Nat × (Nat → Int)} (v0_ : Int) (dd_ : Nat) (S0_ : sm_S) (hI_ : gi S0_) (hv_ : 0 ≤ v0_ ∧ v0_ ≤ 2025) : sm_T (mt_P sc_) 0 2 (0, [some (.inr (.inr (some (43, (0 + dd_))))), some (.inl v0_), none, none], [], S0_) (fun ro9_ => ∃ u_ S1_, ro9_ = (.inl u_, S1_, 0) ∧ vq_2h v0_ dd_ S0_ u_ S1_) := by
  have hF_ : ai_fr (sx_W vw_2h) S0_ S0_ := ai_fr_rf
  have hD_ : idf dd_ S0_ S0_ := idf_rf
  refine sm_T_go 5 (c1 := (5, [some (.inr (.inr (some (43, (0 + dd_))))), some (.inl v0_), some (.inl 0), some (.inl 1013)], [], S0_)) rfl ?_
  refine (vl_2h v0_ dd_ S0_ hv_ _) 0 S0_ hI_ hF_ ⟨?_, ?_, ?_, trivial⟩ (Nat.lt_succ_self _)
  · omega
  · (intro j_ hj_; exact absurd hj_ (Nat.not_lt_zero _))
  · exact hD_
end
/-! 99.zf1d -/
section
/-! java/util/Arrays.fill -/
def vw_2s : sx_Wl := ([], [33], [])
def vq_2s (v0_ : Int) (S0_ : sm_S) (u_ : Option sm_V) (S1_ : sm_S) : Prop := u_ = none ∧ gi S1_ ∧ ai_fr (sx_W vw_2s) S0_ S1_ ∧ (∀ j_, j_ < 1013 → S1_.2.2.1 33 0 j_ = v0_)
set_option maxHeartbeats 400000 in
theorem vl_2s {sc_ : Nat × (Nat → Int)} (v0_ : Int) (S0_ : sm_S) (hv_ : 0 ≤ v0_ ∧ v0_ ≤ 1012) : ∀ nn_ : Nat, (∀ (k_ : Int) (S_ : sm_S), gi S_ → ai_fr (sx_W vw_2s) S0_ S_ → ((0 ≤ k_ ∧ k_ ≤ 1013) ∧ (∀ j_, j_ < k_.toNat → S_.2.2.1 33 0 j_ = v0_) ∧ True) → ((1013 - k_).toNat) < nn_ → sm_T (mt_P sc_) 0 2 (5, [some (.inr (.inr (some (33, 0)))), some (.inl v0_), some (.inl k_), some (.inl 1013)], [], S_) (fun ro9_ => ∃ u_ S1_, ro9_ = (.inl u_, S1_, 0) ∧ vq_2s v0_ S0_ u_ S1_)) := by
  intro nn_
  induction nn_ with
  | zero => exact fun _ _ _ _ _ h_ => absurd h_ (Nat.not_lt_zero _)
  | succ nn_ ih_ =>
    rintro k_ S_ hI_ hF_ ⟨h0_, h1_, -⟩ hm_
    refine sm_T_go 2 (c1 := (7, [some (.inr (.inr (some (33, 0)))), some (.inl v0_), some (.inl k_), some (.inl 1013)], [.inl 1013, .inl k_], S_)) rfl ?_
    refine sm_T_br (a := 3) (z := 13) rfl (fun cx1_ => ?_) (fun cx1_ => ?_)
    · have cx1_ : 1013 ≤ k_ := of_decide_eq_true cx1_
      refine sm_T_rv rfl ⟨_, _, rfl, rfl, hI_, hF_, ?_⟩
      exact fun j_ hj_ => h1_ j_ (by omega)
    · have cx1_ : ¬ (1013 ≤ k_) := of_decide_eq_false cx1_
      refine sm_T_go 3 (c1 := (13, [some (.inr (.inr (some (33, 0)))), some (.inl v0_), some (.inl k_), some (.inl 1013)], [.inl v0_, .inl k_, .inr (.inr (some (33, 0)))], S_)) rfl ?_
      refine sm_T_iast (n := 1013) rfl rfl (by omega) (by omega) ?_
      have hIx2_ : gi (sm_aI S_ 33 0 k_.toNat v0_) := gi_aI hI_ (show 0 ≤ v0_ ∧ v0_ ≤ 1012 from ⟨by omega, by omega⟩)
      have hFx3_ : ai_fr (sx_W vw_2s) S0_ (sm_aI S_ 33 0 k_.toNat v0_) := ai_fr_tr hF_ (ai_fr_aI rfl)
      refine sm_T_inc (a := 2) (z := 1) (v := k_) (w := k_ + 1) rfl rfl (by omega) (by omega) (by omega) ?_
      refine sm_T_go 1 (c1 := (5, [some (.inr (.inr (some (33, 0)))), some (.inl v0_), some (.inl (k_ + 1)), some (.inl 1013)], [], sm_aI S_ 33 0 k_.toNat v0_)) rfl ?_
      refine ih_ (k_ + 1) (sm_aI S_ 33 0 k_.toNat v0_) hIx2_ hFx3_ ⟨?_, ?_, trivial⟩ ?_
      · omega
      · intro j_ hj_
        rw [rd_eq]
        by_cases z_ : j_ = k_.toNat
        · rw [if_pos z_]
        · rw [if_neg z_]; exact h1_ j_ (by omega)
      · omega
set_option maxHeartbeats 400000 in
theorem vc_2s {sc_ : Nat × (Nat → Int)} (v0_ : Int) (S0_ : sm_S) (hI_ : gi S0_) (hv_ : 0 ≤ v0_ ∧ v0_ ≤ 1012) : sm_T (mt_P sc_) 0 2 (0, [some (.inr (.inr (some (33, 0)))), some (.inl v0_), none, none], [], S0_) (fun ro9_ => ∃ u_ S1_, ro9_ = (.inl u_, S1_, 0) ∧ vq_2s v0_ S0_ u_ S1_) := by
  have hF_ : ai_fr (sx_W vw_2s) S0_ S0_ := ai_fr_rf
  refine sm_T_go 5 (c1 := (5, [some (.inr (.inr (some (33, 0)))), some (.inl v0_), some (.inl 0), some (.inl 1013)], [], S0_)) rfl ?_
  refine (vl_2s v0_ S0_ hv_ _) 0 S0_ hI_ hF_ ⟨?_, ?_, trivial⟩ (Nat.lt_succ_self _)
  · omega
  · (intro j_ hj_; exact absurd hj_ (Nat.not_lt_zero _))
end
/-! 99.zf1e -/
section
/-! Builder.startGraph -/
def vw_34 : sx_Wl := ([(1, 3), (1, 6), (1, 8), (1, 9), (3, 4), (3, 5)], [26, 29, 42, 43], [])
def vq_34 (m_ : Int) (tb_ : Nat → Int) (tn_ : Nat) (A_ : pA) (mm_ : Nat) (dd_ : Nat) (F_ : Nat) (I_ : Nat) (S0_ : sm_S) (u_ : Option sm_V) (S1_ : sm_S) : Prop := u_ = none ∧ gi S1_ ∧ ai_fr (sx_W vw_34) S0_ S1_ ∧ (idf dd_ S0_ S1_ ∧ (cxs dd_ F_ I_ 0 1 (([], 0, 1), ein A_ mm_, fun _ => none, []) S1_))
set_option maxHeartbeats 2000000 in
theorem vl_34 {sc_ : Nat × (Nat → Int)} (m_ : Int) (tb_ : Nat → Int) (tn_ : Nat) (A_ : pA) (mm_ : Nat) (dd_ : Nat) (F_ : Nat) (I_ : Nat) (S0_ : sm_S) (hd_ : S0_.2.1 1 0 1 = some dd_) (hFn_ : (F_ : Int) = 1 + S0_.1 3 dd_ 1 + S0_.1 3 dd_ 2 ∧ 1 ≤ F_ ∧ F_ ≤ 13) (hin0_ : S0_.1 3 dd_ 1 = (I_ : Int) ∧ I_ ≤ 12 ∧ 0 ≤ S0_.1 3 dd_ 2) (hm1_ : m_ = (mm_ : Int) ∧ mm_ ≤ 15) (her_ : er1 tb_ tn_ A_ mm_ S0_) (hA_ : a_ok tb_ tn_ A_ mm_) (hsu_ : su (t_in A_ 0 mm_) (A_.1 mm_) = (I_ : Int)) : ∀ nn_ : Nat, (∀ (nd_ : Int) (s_ : Int) (S_ : sm_S), gi S_ → ai_fr (sx_W vw_34) S0_ S_ → ((S_.1 3 dd_ 5 = 0) ∧ (cgl dd_ F_ [] S_) ∧ ((S_.1 1 0 6) = 0 ∧ (S_.1 1 0 9) = 0 ∧ (S_.1 1 0 3) = 1) ∧ (0 ≤ s_ ∧ s_ ≤ (A_.1 mm_ : Int) ∧ nd_ = 1 + su (t_in A_ 0 mm_) s_.toNat) ∧ (∀ s9_ : Nat, s9_ < s_.toNat → rwv (S_.2.2.1 26 0) (8 * s9_) (ein A_ mm_ s9_) ∧ (ein A_ mm_ s9_).length ≤ 8) ∧ (S_.1 3 dd_ 1 = (I_ : Int)) ∧ (idf dd_ S0_ S_) ∧ True) → ((20 * (50 - s_) + 10).toNat) < nn_ → sm_T (mt_P sc_) 1 34 (76, [some (.inr (.inr (some (1, 0)))), some (.inl m_), some (.inl nd_), some (.inl s_), none], [], S_) (fun ro9_ => ∃ u_ S1_, ro9_ = (.inl u_, S1_, 0) ∧ vq_34 m_ tb_ tn_ A_ mm_ dd_ F_ I_ S0_ u_ S1_)) ∧ (∀ (nd_ : Int) (s_ : Int) (k_ : Int) (S_ : sm_S), gi S_ → ai_fr (sx_W vw_34) S0_ S_ → ((S_.1 3 dd_ 5 = 0) ∧ (cgl dd_ F_ [] S_) ∧ ((S_.1 1 0 6) = 0 ∧ (S_.1 1 0 9) = 0 ∧ (S_.1 1 0 3) = 1) ∧ (0 ≤ s_ ∧ s_ < (A_.1 mm_ : Int) ∧ nd_ = 1 + su (t_in A_ 0 mm_) s_.toNat + k_ ∧ 0 ≤ k_ ∧ k_ ≤ A_.2.2.2.1 (40 * mm_ + s_.toNat) ∧ A_.2.2.1 (40 * mm_ + s_.toNat) = 0) ∧ (∀ s9_ : Nat, s9_ < s_.toNat → rwv (S_.2.2.1 26 0) (8 * s9_) (ein A_ mm_ s9_) ∧ (ein A_ mm_ s9_).length ≤ 8) ∧ (rwv (S_.2.2.1 26 0) (8 * s_.toNat) (r_bt 0 (su (t_in A_ 0 mm_) s_.toNat).toNat k_.toNat)) ∧ (S_.1 3 dd_ 1 = (I_ : Int)) ∧ (idf dd_ S0_ S_) ∧ True) → ((20 * (50 - s_) + 9 - k_).toNat) < nn_ → sm_T (mt_P sc_) 1 34 (109, [some (.inr (.inr (some (1, 0)))), some (.inl m_), some (.inl nd_), some (.inl s_), some (.inl k_)], [], S_) (fun ro9_ => ∃ u_ S1_, ro9_ = (.inl u_, S1_, 0) ∧ vq_34 m_ tb_ tn_ A_ mm_ dd_ F_ I_ S0_ u_ S1_)) := by
  intro nn_
  induction nn_ with
  | zero => exact ⟨fun _ _ _ _ _ _ h_ => absurd h_ (Nat.not_lt_zero _), fun _ _ _ _ _ _ _ h_ => absurd h_ (Nat.not_lt_zero _)⟩
  | succ nn_ ih_ =>
    refine ⟨?_, ?_⟩
    · rintro nd_ s_ S_ hI_ hF_ ⟨hbg_, hg_, hb_, h0_, h1_, hin_, hD_, -⟩ hm_
      have A40_ := (hA_.2 mm_ (Nat.le_refl _)).1
      have cn_ : S_.2.2.1 77 0 m_.toNat = (A_.1 mm_ : Int) := by rw [fr_arr (t := 77) (i := 0) hF_ rfl, show m_.toNat = mm_ by omega]; exact her_.1
      have cb_ := su_el (f_ := t_in A_ 0 mm_) (k_ := A_.1 mm_) (fun j_ hj_ => by have z_ := ((hA_.2 mm_ (Nat.le_refl _)).2 j_ hj_).2.2.1; unfold t_in; split <;> omega)
      have sv_ : s_ < (A_.1 mm_ : Int) → S_.2.2.1 79 0 (40 * m_ + s_).toNat = A_.2.2.1 (40 * mm_ + s_.toNat) ∧ S_.2.2.1 80 0 (40 * m_ + s_).toNat = A_.2.2.2.1 (40 * mm_ + s_.toNat) := by intro z_; rw [fr_arr (t := 79) (i := 0) hF_ rfl, fr_arr (t := 80) (i := 0) hF_ rfl, show (40 * m_ + s_).toNat = 40 * mm_ + s_.toNat by omega]; exact ⟨(her_.2 s_.toNat (by omega)).2.1, (her_.2 s_.toNat (by omega)).2.2.1⟩
      have s1_ : s_ < (A_.1 mm_ : Int) → su (t_in A_ 0 mm_) (s_.toNat + 1) = su (t_in A_ 0 mm_) s_.toNat + t_in A_ 0 mm_ s_.toNat ∧ su (t_in A_ 0 mm_) (s_.toNat + 1) ≤ su (t_in A_ 0 mm_) (A_.1 mm_) ∧ 0 ≤ su (t_in A_ 0 mm_) s_.toNat := fun z_ => ⟨rfl, (cb_.2.2 (s_.toNat + 1) (by omega)).2, (cb_.2.2 s_.toNat (by omega)).1⟩
      refine sm_T_go 5 (c1 := (85, [some (.inr (.inr (some (1, 0)))), some (.inl m_), some (.inl nd_), some (.inl s_), none], [.inl m_, .inr (.inr (some (77, 0))), .inl s_], S_)) rfl ?_
      refine sm_T_iald (n := 17) rfl rfl (by omega) (by omega) ?_
      have bx1_ : 0 ≤ S_.2.2.1 77 0 m_.toNat ∧ S_.2.2.1 77 0 m_.toNat ≤ 40 := hI_.2 77 0 _
      refine sm_T_br (a := 3) (z := 73) rfl (fun cx2_ => ?_) (fun cx2_ => ?_)
      · have cx2_ : (S_.2.2.1 77 0 m_.toNat) ≤ s_ := of_decide_eq_true cx2_
        refine sm_T_rv rfl ⟨_, _, rfl, rfl, hI_, hF_, ?_⟩
        refine ⟨hD_, ?_⟩
        refine ⟨hg_, hb_.2.1, hb_.2.2, by show (1 : Nat) ≤ 201; decide, by decide, by show (1 : Nat) ≤ 1; decide, ⟨fun s9_ hs9_ => ?_, fun _ => 0, fun a_ ha_ o_ ho_ => by cases ho_⟩, ⟨hb_.1, trivial⟩, ⟨hin_, by rw [hbg_]; exact ⟨Int.le_refl _, (by decide : (0 : Int) < 2 ^ 0)⟩, fun k9_ hk9_ => absurd hk9_ (Nat.not_lt_zero _)⟩⟩
        by_cases z_ : s9_ < s_.toNat
        · have w_ := h1_ s9_ z_; rw [show 8 * (40 * 0 + s9_) = 8 * s9_ by omega]; exact w_
        · have e0_ : ein A_ mm_ s9_ = [] := by unfold ein; rw [if_neg (by rintro ⟨z1_, z2_⟩; omega)]
          show rwv _ _ (ein A_ mm_ s9_) ∧ (ein A_ mm_ s9_).length ≤ 8; rw [e0_]; exact ⟨fun k9_ z9_ e9_ => by simp at e9_, by simp⟩
      · have cx2_ : ¬ ((S_.2.2.1 77 0 m_.toNat) ≤ s_) := of_decide_eq_false cx2_
        obtain ⟨sv1_, sv2_⟩ := sv_ (by omega)
        have s2_ := s1_ (by omega)
        refine sm_T_go 5 (c1 := (99, [some (.inr (.inr (some (1, 0)))), some (.inl m_), some (.inl nd_), some (.inl s_), none], [.inl 40, .inl m_, .inr (.inr (some (79, 0)))], S_)) rfl ?_
        refine sm_T_bin (w := 40 * m_) rfl (bi_mul (by omega) (by omega) (by omega)) ?_
        refine sm_T_go 1 (c1 := (101, [some (.inr (.inr (some (1, 0)))), some (.inl m_), some (.inl nd_), some (.inl s_), none], [.inl s_, .inl (40 * m_), .inr (.inr (some (79, 0)))], S_)) rfl ?_
        refine sm_T_bin (w := 40 * m_ + s_) rfl (bi_add (by omega) (by omega) (by omega)) ?_
        refine sm_T_iald (n := 640) rfl rfl (by omega) (by omega) ?_
        have bx3_ : 0 ≤ S_.2.2.1 79 0 (40 * m_ + s_).toNat ∧ S_.2.2.1 79 0 (40 * m_ + s_).toNat ≤ 5 := hI_.2 79 0 _
        refine sm_T_b0 (a := 1) (z := 50) rfl (fun cx4_ => ?_) (fun cx4_ => ?_)
        · have cx4_ : (S_.2.2.1 79 0 (40 * m_ + s_).toNat) ≠ 0 := of_decide_eq_true cx4_
          refine sm_T_inc (a := 3) (z := 1) (v := s_) (w := s_ + 1) rfl rfl (by omega) (by omega) (by omega) ?_
          refine sm_T_go 1 (c1 := (76, [some (.inr (.inr (some (1, 0)))), some (.inl m_), some (.inl nd_), some (.inl (s_ + 1)), none], [], S_)) rfl ?_
          refine ih_.1 nd_ (s_ + 1) S_ hI_ hF_ ⟨?_, ?_, ?_, ?_, ?_, ?_, ?_, trivial⟩ ?_
          · exact hbg_
          · exact hg_
          · exact hb_
          · have t9_ : t_in A_ 0 mm_ s_.toNat = 0 := by unfold t_in; rw [if_neg (by omega)]
            rw [show (s_ + 1).toNat = s_.toNat + 1 by omega]
            omega
          · intro s9_ hs9_
            by_cases z_ : s9_ < s_.toNat
            · exact h1_ s9_ z_
            · have e0_ : ein A_ mm_ s9_ = [] := by unfold ein; rw [if_neg (by rintro ⟨z1_, z2_⟩; rw [show s9_ = s_.toNat by omega] at z2_; omega)]
              rw [e0_]; exact ⟨fun k9_ z9_ e9_ => by simp at e9_, by simp⟩
          · exact hin_
          · exact hD_
          · omega
        · have cx4_ : ¬ ((S_.2.2.1 79 0 (40 * m_ + s_).toNat) ≠ 0) := of_decide_eq_false cx4_
          refine sm_T_go 2 (c1 := (109, [some (.inr (.inr (some (1, 0)))), some (.inl m_), some (.inl nd_), some (.inl s_), some (.inl 0)], [], S_)) rfl ?_
          refine ih_.2 nd_ s_ 0 S_ hI_ hF_ ⟨?_, ?_, ?_, ?_, ?_, ?_, ?_, ?_, trivial⟩ ?_
          · exact hbg_
          · exact hg_
          · exact hb_
          · (have wb_ := ((hA_.2 mm_ (Nat.le_refl _)).2 s_.toNat (by omega)).2.2.1); omega
          · exact h1_
          · (intro k9_ z9_ e9_; simp [r_bt] at e9_)
          · exact hin_
          · exact hD_
          · omega
    · rintro nd_ s_ k_ S_ hI_ hF_ ⟨hbg_, hg_, hb_, h0_, h1_, h2_, hin_, hD_, -⟩ hm_
      have A40_ := (hA_.2 mm_ (Nat.le_refl _)).1
      have cn_ : S_.2.2.1 77 0 m_.toNat = (A_.1 mm_ : Int) := by rw [fr_arr (t := 77) (i := 0) hF_ rfl, show m_.toNat = mm_ by omega]; exact her_.1
      have cb_ := su_el (f_ := t_in A_ 0 mm_) (k_ := A_.1 mm_) (fun j_ hj_ => by have z_ := ((hA_.2 mm_ (Nat.le_refl _)).2 j_ hj_).2.2.1; unfold t_in; split <;> omega)
      have sv_ : s_ < (A_.1 mm_ : Int) → S_.2.2.1 79 0 (40 * m_ + s_).toNat = A_.2.2.1 (40 * mm_ + s_.toNat) ∧ S_.2.2.1 80 0 (40 * m_ + s_).toNat = A_.2.2.2.1 (40 * mm_ + s_.toNat) := by intro z_; rw [fr_arr (t := 79) (i := 0) hF_ rfl, fr_arr (t := 80) (i := 0) hF_ rfl, show (40 * m_ + s_).toNat = 40 * mm_ + s_.toNat by omega]; exact ⟨(her_.2 s_.toNat (by omega)).2.1, (her_.2 s_.toNat (by omega)).2.2.1⟩
      have s1_ : s_ < (A_.1 mm_ : Int) → su (t_in A_ 0 mm_) (s_.toNat + 1) = su (t_in A_ 0 mm_) s_.toNat + t_in A_ 0 mm_ s_.toNat ∧ su (t_in A_ 0 mm_) (s_.toNat + 1) ≤ su (t_in A_ 0 mm_) (A_.1 mm_) ∧ 0 ≤ su (t_in A_ 0 mm_) s_.toNat := fun z_ => ⟨rfl, (cb_.2.2 (s_.toNat + 1) (by omega)).2, (cb_.2.2 s_.toNat (by omega)).1⟩
      obtain ⟨sv1_, sv2_⟩ := sv_ (by omega)
      have s2_ := s1_ (by omega)
      have wb_ := ((hA_.2 mm_ (Nat.le_refl _)).2 s_.toNat (by omega)).2.2.1
      have tn0_ : t_in A_ 0 mm_ s_.toNat = A_.2.2.2.1 (40 * mm_ + s_.toNat) := by unfold t_in; rw [if_pos (by omega)]
      refine sm_T_go 6 (c1 := (121, [some (.inr (.inr (some (1, 0)))), some (.inl m_), some (.inl nd_), some (.inl s_), some (.inl k_)], [.inl 40, .inl m_, .inr (.inr (some (80, 0))), .inl k_], S_)) rfl ?_
      refine sm_T_bin (w := 40 * m_) rfl (bi_mul (by omega) (by omega) (by omega)) ?_
      refine sm_T_go 1 (c1 := (123, [some (.inr (.inr (some (1, 0)))), some (.inl m_), some (.inl nd_), some (.inl s_), some (.inl k_)], [.inl s_, .inl (40 * m_), .inr (.inr (some (80, 0))), .inl k_], S_)) rfl ?_
      refine sm_T_bin (w := 40 * m_ + s_) rfl (bi_add (by omega) (by omega) (by omega)) ?_
      refine sm_T_iald (n := 640) rfl rfl (by omega) (by omega) ?_
      have bx1_ : 0 ≤ S_.2.2.1 80 0 (40 * m_ + s_).toNat ∧ S_.2.2.1 80 0 (40 * m_ + s_).toNat ≤ 8 := hI_.2 80 0 _
      refine sm_T_br (a := 3) (z := 28) rfl (fun cx2_ => ?_) (fun cx2_ => ?_)
      · have cx2_ : (S_.2.2.1 80 0 (40 * m_ + s_).toNat) ≤ k_ := of_decide_eq_true cx2_
        refine sm_T_inc (a := 3) (z := 1) (v := s_) (w := s_ + 1) rfl rfl (by omega) (by omega) (by omega) ?_
        refine sm_T_go 1 (c1 := (76, [some (.inr (.inr (some (1, 0)))), some (.inl m_), some (.inl nd_), some (.inl (s_ + 1)), some (.inl k_)], [], S_)) rfl ?_
        refine sm_T_wk [some (.inr (.inr (some (1, 0)))), some (.inl m_), some (.inl nd_), some (.inl (s_ + 1)), none] (by exact ⟨rfl, rfl, rfl, rfl, trivial⟩) ?_
        refine ih_.1 nd_ (s_ + 1) S_ hI_ hF_ ⟨?_, ?_, ?_, ?_, ?_, ?_, ?_, trivial⟩ ?_
        · exact hbg_
        · exact hg_
        · exact hb_
        · rw [show (s_ + 1).toNat = s_.toNat + 1 by omega]
          omega
        · intro s9_ hs9_
          by_cases z_ : s9_ < s_.toNat
          · exact h1_ s9_ z_
          · have z9_ : s9_ = s_.toNat := by omega
            have e0_ : ein A_ mm_ s9_ = r_bt 0 (su (t_in A_ 0 mm_) s_.toNat).toNat k_.toNat := by unfold ein; rw [z9_, if_pos ⟨by omega, by omega⟩, show (A_.2.2.2.1 (40 * mm_ + s_.toNat)).toNat = k_.toNat by omega]
            rw [e0_, z9_, r_bt_l]; exact ⟨h2_, by omega⟩
        · exact hin_
        · exact hD_
        · omega
      · have cx2_ : ¬ ((S_.2.2.1 80 0 (40 * m_ + s_).toNat) ≤ k_) := of_decide_eq_false cx2_
        refine sm_T_go 4 (c1 := (134, [some (.inr (.inr (some (1, 0)))), some (.inl m_), some (.inl nd_), some (.inl s_), some (.inl k_)], [.inl s_, .inl 0, .inr (.inr (some (26, 0)))], S_)) rfl ?_
        refine sm_T_cal (d1 := 0) (Q1 := vq_35 0 s_ S_) rfl rfl (by decide) (vc_35 0 s_ S_ hI_ (by decide) (by omega)) (fun u_ Sx3_ px6_ => ?_)
        obtain ⟨rfl, vx8_, rfl, px6_⟩ := px6_
        have e134_ := px6_
        refine sm_T_go 1 (c1 := (139, [some (.inr (.inr (some (1, 0)))), some (.inl m_), some (.inl nd_), some (.inl s_), some (.inl k_)], [.inl k_, .inl vx8_, .inr (.inr (some (26, 0)))], S_)) rfl ?_
        refine sm_T_bin (w := vx8_ + k_) rfl (bi_add (by omega) (by omega) (by omega)) ?_
        refine sm_T_go 2 (c1 := (142, [some (.inr (.inr (some (1, 0)))), some (.inl m_), some (.inl nd_), some (.inl s_), some (.inl k_)], [.inl nd_, .inl 2, .inl (vx8_ + k_), .inr (.inr (some (26, 0)))], S_)) rfl ?_
        refine sm_T_bin (w := 2 * nd_) rfl (bi_mul (by omega) (by omega) (by omega)) ?_
        refine sm_T_iast (n := 64320) rfl rfl (by omega) (by omega) ?_
        have hIx9_ : gi (sm_aI S_ 26 0 (vx8_ + k_).toNat (2 * nd_)) := gi_aI hI_ (show 0 ≤ 2 * nd_ ∧ 2 * nd_ ≤ 2025 from ⟨by omega, by omega⟩)
        have hFx10_ : ai_fr (sx_W vw_34) S0_ (sm_aI S_ 26 0 (vx8_ + k_).toNat (2 * nd_)) := ai_fr_tr hF_ (ai_fr_aI rfl)
        have hDx11_ : idf dd_ S0_ (sm_aI S_ 26 0 (vx8_ + k_).toNat (2 * nd_)) := idf_aI hD_ (Or.inl (by decide))
        refine sm_T_inc (a := 2) (z := 1) (v := nd_) (w := nd_ + 1) rfl rfl (by omega) (by omega) (by omega) ?_
        refine sm_T_inc (a := 4) (z := 1) (v := k_) (w := k_ + 1) rfl rfl (by omega) (by omega) (by omega) ?_
        refine sm_T_go 1 (c1 := (109, [some (.inr (.inr (some (1, 0)))), some (.inl m_), some (.inl (nd_ + 1)), some (.inl s_), some (.inl (k_ + 1))], [], sm_aI S_ 26 0 (vx8_ + k_).toNat (2 * nd_))) rfl ?_
        refine ih_.2 (nd_ + 1) s_ (k_ + 1) (sm_aI S_ 26 0 (vx8_ + k_).toNat (2 * nd_)) hIx9_ hFx10_ ⟨?_, ?_, ?_, ?_, ?_, ?_, ?_, ?_, trivial⟩ ?_
        · exact hbg_
        · exact cgl_fr (w_ := ([], [26], [])) hg_ (ai_fr_aI rfl) rfl rfl rfl rfl rfl rfl rfl rfl
        · exact hb_
        · omega
        · intro s9_ hs9_
          have w_ := h1_ s9_ hs9_
          exact ⟨rwv_cg w_.1 (fun k9_ hk9_ => by have w2_ := w_.2; rw [rd_eq, if_neg (by omega)]), w_.2⟩
        · rw [show (k_ + 1).toNat = k_.toNat + 1 by omega, r_bt_s]
          refine rwv_ap (q_ := 8 * s_.toNat + k_.toNat) h2_ (by rw [r_bt_l]) (fun j9_ => ?_)
          rw [rd_eq, show (_ : Int).toNat = 8 * s_.toNat + k_.toNat from by omega]
          by_cases q9_ : j9_ = 8 * s_.toNat + k_.toNat
          · rw [if_pos q9_, if_pos q9_]; push_cast; omega
          · rw [if_neg q9_, if_neg q9_]
        · exact hin_
        · exact hDx11_
        · omega
set_option maxHeartbeats 2000000 in
theorem vc_34 {sc_ : Nat × (Nat → Int)} (m_ : Int) (tb_ : Nat → Int) (tn_ : Nat) (A_ : pA) (mm_ : Nat) (dd_ : Nat) (F_ : Nat) (I_ : Nat) (S0_ : sm_S) (hI_ : gi S0_) (hd_ : S0_.2.1 1 0 1 = some dd_) (hFn_ : (F_ : Int) = 1 + S0_.1 3 dd_ 1 + S0_.1 3 dd_ 2 ∧ 1 ≤ F_ ∧ F_ ≤ 13) (hin0_ : S0_.1 3 dd_ 1 = (I_ : Int) ∧ I_ ≤ 12 ∧ 0 ≤ S0_.1 3 dd_ 2) (hm1_ : m_ = (mm_ : Int) ∧ mm_ ≤ 15) (her_ : er1 tb_ tn_ A_ mm_ S0_) (hA_ : a_ok tb_ tn_ A_ mm_) (hsu_ : su (t_in A_ 0 mm_) (A_.1 mm_) = (I_ : Int)) : sm_T (mt_P sc_) 1 34 (0, [some (.inr (.inr (some (1, 0)))), some (.inl m_), none, none, none], [], S0_) (fun ro9_ => ∃ u_ S1_, ro9_ = (.inl u_, S1_, 0) ∧ vq_34 m_ tb_ tn_ A_ mm_ dd_ F_ I_ S0_ u_ S1_) := by
  have hF_ : ai_fr (sx_W vw_34) S0_ S0_ := ai_fr_rf
  have hD_ : idf dd_ S0_ S0_ := idf_rf
  refine sm_T_go 1 (c1 := (1, [some (.inr (.inr (some (1, 0)))), some (.inl m_), none, none, none], [.inr (.inr (some (1, 0)))], S0_)) rfl ?_
  refine sm_T_gr rfl rfl ((hF_.2.1 1 0 1 rfl).trans hd_) ?_
  refine sm_T_go 1 (c1 := (5, [some (.inr (.inr (some (1, 0)))), some (.inl m_), none, none, none], [.inr (.inr (some (1, 0))), .inr (.inr (some (3, dd_)))], S0_)) rfl ?_
  refine sm_T_gr rfl rfl ((hF_.2.1 1 0 1 rfl).trans hd_) ?_
  refine sm_T_cal (d1 := 0) (Q1 := vq_63 dd_ S0_) rfl rfl (by decide) (vc_63 dd_ S0_ hI_ (by omega)) (fun u_ Sx1_ px4_ => ?_)
  obtain ⟨rfl, vx6_, rfl, px4_⟩ := px4_
  have e8_ := px4_
  have hIx7_ : gi (sm_pI S0_ 3 dd_ 4 vx6_) := gi_pI hI_ (show 0 ≤ vx6_ ∧ vx6_ ≤ 1013 from ⟨by omega, by omega⟩)
  have hFx8_ : ai_fr (sx_W vw_34) S0_ (sm_pI S0_ 3 dd_ 4 vx6_) := ai_fr_tr hF_ (ai_fr_pI rfl)
  have hDx9_ : idf dd_ S0_ (sm_pI S0_ 3 dd_ 4 vx6_) := idf_pI hD_ (Or.inr rfl)
  refine sm_T_go 2 (c1 := (15, [some (.inr (.inr (some (1, 0)))), some (.inl m_), none, none, none], [.inr (.inr (some (1, 0)))], sm_pI S0_ 3 dd_ 4 vx6_)) rfl ?_
  refine sm_T_gr rfl rfl ((hFx8_.2.1 1 0 1 rfl).trans hd_) ?_
  have hIx10_ : gi (sm_pI (sm_pI S0_ 3 dd_ 4 vx6_) 3 dd_ 5 0) := gi_pI hIx7_ (show 0 ≤ 0 ∧ 0 ≤ 63 from ⟨by omega, by omega⟩)
  have hFx11_ : ai_fr (sx_W vw_34) S0_ (sm_pI (sm_pI S0_ 3 dd_ 4 vx6_) 3 dd_ 5 0) := ai_fr_tr hFx8_ (ai_fr_pI rfl)
  have hDx12_ : idf dd_ S0_ (sm_pI (sm_pI S0_ 3 dd_ 4 vx6_) 3 dd_ 5 0) := idf_pI hDx9_ (Or.inr rfl)
  refine sm_T_go 3 (c1 := (23, [some (.inr (.inr (some (1, 0)))), some (.inl m_), none, none, none], [.inr (.inr (some (1, 0)))], sm_pI (sm_pI S0_ 3 dd_ 4 vx6_) 3 dd_ 5 0)) rfl ?_
  refine sm_T_gr rfl rfl ((hFx11_.2.1 1 0 1 rfl).trans hd_) ?_
  refine sm_T_go 2 (c1 := (30, [some (.inr (.inr (some (1, 0)))), some (.inl m_), none, none, none], [.inl 0, .inr (.inr (some (42, (0 + dd_))))], sm_pI (sm_pI S0_ 3 dd_ 4 vx6_) 3 dd_ 5 0)) rfl ?_
  refine sm_T_cal (d1 := 0) (Q1 := vq_2l 0 dd_ (sm_pI (sm_pI S0_ 3 dd_ 4 vx6_) 3 dd_ 5 0)) rfl rfl (by decide) (vc_2l 0 dd_ (sm_pI (sm_pI S0_ 3 dd_ 4 vx6_) 3 dd_ 5 0) hIx10_ (by decide)) (fun u_ Sx13_ px16_ => ?_)
  obtain ⟨rfl, hIx14_, hFx15_, px16_⟩ := px16_
  have hFx17_ : ai_fr (sx_W vw_34) S0_ Sx13_ := ai_fr_tr hFx11_ (fr_le hFx15_ rfl)
  obtain ⟨dx19_, px16_⟩ := px16_
  have hDx18_ : idf dd_ S0_ Sx13_ := idf_tr hDx12_ dx19_
  have e30_ := px16_
  have n30_ := hFx15_.1 3 dd_ 4 rfl
  simp only [rf_eq, rf_nk, ne_eq, Nat.reduceEqDiff, not_false_eq_true] at n30_
  have m30_ := hFx15_.1 3 dd_ 5 rfl
  simp only [rf_eq, rf_nk, ne_eq, Nat.reduceEqDiff, not_false_eq_true] at m30_
  refine sm_T_go 1 (c1 := (34, [some (.inr (.inr (some (1, 0)))), some (.inl m_), none, none, none], [.inr (.inr (some (1, 0)))], Sx13_)) rfl ?_
  refine sm_T_gr rfl rfl ((hFx17_.2.1 1 0 1 rfl).trans hd_) ?_
  refine sm_T_go 2 (c1 := (41, [some (.inr (.inr (some (1, 0)))), some (.inl m_), none, none, none], [.inl 0, .inr (.inr (some (43, (0 + dd_))))], Sx13_)) rfl ?_
  refine sm_T_cal (d1 := 0) (Q1 := vq_2h 0 dd_ Sx13_) rfl rfl (by decide) (vc_2h 0 dd_ Sx13_ hIx14_ (by decide)) (fun u_ Sx20_ px23_ => ?_)
  obtain ⟨rfl, hIx21_, hFx22_, px23_⟩ := px23_
  have hFx24_ : ai_fr (sx_W vw_34) S0_ Sx20_ := ai_fr_tr hFx17_ (fr_le hFx22_ rfl)
  obtain ⟨dx26_, px23_⟩ := px23_
  have hDx25_ : idf dd_ S0_ Sx20_ := idf_tr hDx18_ dx26_
  have e41_ := px23_
  have n41_ := hFx22_.1 3 dd_ 4 rfl
  have m41_ := hFx22_.1 3 dd_ 5 rfl
  refine sm_T_go 3 (c1 := (49, [some (.inr (.inr (some (1, 0)))), some (.inl m_), none, none, none], [.inl 0, .inr (.inr (some (29, 0)))], Sx20_)) rfl ?_
  refine sm_T_cal (d1 := 0) (Q1 := vq_2b 0 Sx20_) rfl rfl (by decide) (vc_2b 0 Sx20_ hIx21_ (by decide)) (fun u_ Sx27_ px30_ => ?_)
  obtain ⟨rfl, hIx28_, hFx29_, px30_⟩ := px30_
  have hFx31_ : ai_fr (sx_W vw_34) S0_ Sx27_ := ai_fr_tr hFx24_ (fr_le hFx29_ rfl)
  have hDx32_ : idf dd_ S0_ Sx27_ := idf_tr hDx25_ (idf_fr hFx29_ (by decide) (by decide))
  have e48_ := px30_
  have n49_ := hFx29_.1 3 dd_ 4 rfl
  have m49_ := hFx29_.1 3 dd_ 5 rfl
  have hIx33_ : gi (sm_pI Sx27_ 1 0 8 0) := gi_pI hIx28_ (show 0 ≤ 0 ∧ 0 ≤ 1 from ⟨by omega, by omega⟩)
  have hFx34_ : ai_fr (sx_W vw_34) S0_ (sm_pI Sx27_ 1 0 8 0) := ai_fr_tr hFx31_ (ai_fr_pI rfl)
  have hDx35_ : idf dd_ S0_ (sm_pI Sx27_ 1 0 8 0) := idf_pI hDx32_ (Or.inl (by decide))
  have hIx36_ : gi (sm_pI (sm_pI Sx27_ 1 0 8 0) 1 0 6 0) := gi_pI hIx33_ (show 0 ≤ 0 ∧ 0 ≤ 512 from ⟨by omega, by omega⟩)
  have hFx37_ : ai_fr (sx_W vw_34) S0_ (sm_pI (sm_pI Sx27_ 1 0 8 0) 1 0 6 0) := ai_fr_tr hFx34_ (ai_fr_pI rfl)
  have hDx38_ : idf dd_ S0_ (sm_pI (sm_pI Sx27_ 1 0 8 0) 1 0 6 0) := idf_pI hDx35_ (Or.inl (by decide))
  have hIx39_ : gi (sm_pI (sm_pI (sm_pI Sx27_ 1 0 8 0) 1 0 6 0) 1 0 9 0) := gi_pI hIx36_ (show 0 ≤ 0 ∧ 0 ≤ 6 from ⟨by omega, by omega⟩)
  have hFx40_ : ai_fr (sx_W vw_34) S0_ (sm_pI (sm_pI (sm_pI Sx27_ 1 0 8 0) 1 0 6 0) 1 0 9 0) := ai_fr_tr hFx37_ (ai_fr_pI rfl)
  have hDx41_ : idf dd_ S0_ (sm_pI (sm_pI (sm_pI Sx27_ 1 0 8 0) 1 0 6 0) 1 0 9 0) := idf_pI hDx38_ (Or.inl (by decide))
  have hIx42_ : gi (sm_pI (sm_pI (sm_pI (sm_pI Sx27_ 1 0 8 0) 1 0 6 0) 1 0 9 0) 1 0 3 1) := gi_pI hIx39_ (show 0 ≤ 1 ∧ 1 ≤ 201 from ⟨by omega, by omega⟩)
  have hFx43_ : ai_fr (sx_W vw_34) S0_ (sm_pI (sm_pI (sm_pI (sm_pI Sx27_ 1 0 8 0) 1 0 6 0) 1 0 9 0) 1 0 3 1) := ai_fr_tr hFx40_ (ai_fr_pI rfl)
  have hDx44_ : idf dd_ S0_ (sm_pI (sm_pI (sm_pI (sm_pI Sx27_ 1 0 8 0) 1 0 6 0) 1 0 9 0) 1 0 3 1) := idf_pI hDx41_ (Or.inl (by decide))
  refine sm_T_go 16 (c1 := (76, [some (.inr (.inr (some (1, 0)))), some (.inl m_), some (.inl 1), some (.inl 0), none], [], sm_pI (sm_pI (sm_pI (sm_pI Sx27_ 1 0 8 0) 1 0 6 0) 1 0 9 0) 1 0 3 1)) rfl ?_
  refine (vl_34 m_ tb_ tn_ A_ mm_ dd_ F_ I_ S0_ hd_ hFn_ hin0_ hm1_ her_ hA_ hsu_ _).1 1 0 (sm_pI (sm_pI (sm_pI (sm_pI Sx27_ 1 0 8 0) 1 0 6 0) 1 0 9 0) 1 0 3 1) hIx42_ hFx43_ ⟨?_, ?_, ?_, ?_, ?_, ?_, ?_, trivial⟩ (Nat.lt_succ_self _)
  · ((try simp only [rd_eq, rd_ne, rf_eq, rf_nk, rf_nt, rd_fa, rd_af, rd_fl, rd_al, rd_lf, rd_la, rd_leq, rd_lne, rd_fr, rd_ar, ne_eq, Nat.reduceEqDiff, not_false_eq_true]); omega)
  · refine ⟨[], ⟨?_, ?_, hFn_.2, ?_, by decide, fun k_ x_ y_ e_ => by simp at e_, fun i_ j_ p_ e_ => by simp at e_, ?_⟩, Or.inl ⟨by decide, rfl, ?_⟩⟩
    · exact (hFx43_.2.1 1 0 1 rfl).trans hd_
    · have q1_ := hFn_.1; have q2_ := hFx43_.1 3 dd_ 1 rfl; have q3_ := hFx43_.1 3 dd_ 2 rfl; omega
    · (try simp only [rd_eq, rd_ne, rf_eq, rf_nk, rf_nt, rd_fa, rd_af, rd_fl, rd_al, rd_lf, rd_la, rd_leq, rd_lne, rd_fr, rd_ar, ne_eq, Nat.reduceEqDiff, not_false_eq_true]); simp only [List.length_nil]; push_cast; omega
    · exact bkr_0 (fun j_ hj_ => by (try simp only [rd_eq, rd_ne, rf_eq, rf_nk, rf_nt, rd_fa, rd_af, rd_fl, rd_al, rd_lf, rd_la, rd_leq, rd_lne, rd_fr, rd_ar, ne_eq, Nat.reduceEqDiff, not_false_eq_true]); exact e48_ j_ hj_)
    · (try simp only [rd_eq, rd_ne, rf_eq, rf_nk, rf_nt, rd_fa, rd_af, rd_fl, rd_al, rd_lf, rd_la, rd_leq, rd_lne, rd_fr, rd_ar, ne_eq, Nat.reduceEqDiff, not_false_eq_true])
  · (refine ⟨?_, ?_, ?_⟩ <;> (try simp only [rd_eq, rd_ne, rf_eq, rf_nk, rf_nt, rd_fa, rd_af, rd_fl, rd_al, rd_lf, rd_la, rd_leq, rd_lne, rd_fr, rd_ar, ne_eq, Nat.reduceEqDiff, not_false_eq_true]))
  · exact ⟨by decide, by omega, rfl⟩
  · (intro s9_ hs9_; exact absurd hs9_ (Nat.not_lt_zero _))
  · exact (hFx43_.1 3 dd_ 1 rfl).trans hin0_.1
  · exact hDx44_
end
/-! 99.zf2 -/
section
/-! arguments and their values; written by wip/p55/gen/vg -/

/-! arguments one_ behind the_ other, with what they come to_ -/
section AQ_
variable {b_ : Nat → Int} {n_ m_ d_ : Nat} {A_ B_ : pA}
theorem gi_ex (hA_ : a_ok b_ n_ A_ m_) (hB_ : a_ok b_ n_ B_ m_) (hx_ : a_ex A_ B_ m_) (hd_ : d_ < m_) : A_.1 d_ = B_.1 d_ ∧ (∀ s_, s_ < A_.1 d_ → g_in A_ d_ s_ = g_in B_ d_ s_) ∧ (∀ s_, s_ < A_.1 d_ → (A_.2.2.1 (40 * d_ + s_) = 0 ↔ B_.2.2.1 (40 * d_ + s_) = 0)) ∧ ∀ k_, k_ ≤ A_.1 d_ → p_cn (g_in A_ d_) k_ = p_cn (g_in B_ d_) k_ := by
  have e1_ := hx_.2.1 d_ hd_
  have e3_ : ∀ s_, s_ < A_.1 d_ → (A_.2.2.1 (40 * d_ + s_) = 0 ↔ B_.2.2.1 (40 * d_ + s_) = 0) := by
    intro s_ hs_
    have z_ := (hx_.2.2 d_ s_ (by omega) hs_).2.2.2
    omega
  have e2_ : ∀ s_, s_ < A_.1 d_ → g_in A_ d_ s_ = g_in B_ d_ s_ := by
    intro s_ hs_
    rw [g_in_0 hA_ (by omega) hs_, g_in_0 hB_ (by omega) (by omega)]
    exact decide_eq_decide.mpr (e3_ s_ hs_)
  refine ⟨e1_, e2_, e3_, ?_⟩
  intro k_
  induction k_ with
  | zero => intro _; rfl
  | succ k_ ih_ =>
    intro hk_
    rw [p_cn, p_cn, ih_ (by omega), e2_ k_ (by omega)]
theorem ac_st {xi_ : pR × Nat} {l3_ : List (pR × Nat)} {k0_ p_ pe_ : Nat} (hA_ : a_ok b_ n_ A_ m_) (hB_ : a_ok b_ n_ B_ m_) (hx_ : a_ex A_ B_ m_) (hd_ : d_ < m_) (h_ : uch b_ n_ A_ m_ d_ (xi_ :: l3_) k0_ p_ pe_) (hk0_ : k0_ ≤ B_.1 d_) : (k0_ ≤ xi_.2 ∧ xi_.2 < B_.1 d_ ∧ B_.2.2.1 (40 * d_ + xi_.2) = 0) ∧ p_ex b_ n_ false (p_pd b_ n_ A_ m_) [] p_ = .inr xi_.1 ∧ h_tp xi_.1.2.1 = B_.2.2.2.1 (40 * d_ + xi_.2) ∧ (p_cn (g_in B_ d_) xi_.2 = p_cn (g_in B_ d_) k0_ ∧ p_cn (g_in B_ d_) (xi_.2 + 1) = p_cn (g_in B_ d_) k0_ + 1) ∧ (l3_ = [] → uch b_ n_ A_ m_ d_ l3_ (xi_.2 + 1) xi_.1.1 pe_) ∧ (l3_ ≠ [] → lx_kd b_ n_ xi_.1.1 = 44 ∧ ∃ p1_, p_ad b_ n_ xi_.1.1 = .inr p1_ ∧ uch b_ n_ A_ m_ d_ l3_ (xi_.2 + 1) p1_ pe_) ∧ ∀ s_, k0_ ≤ s_ → s_ < xi_.2 → B_.2.2.1 (40 * d_ + s_) ≠ 0 := by
  obtain ⟨g1_, g2_, g3_, g4_⟩ := gi_ex hA_ hB_ hx_ hd_
  rcases h_ with h_ | h_
  · cases h_.1
  · obtain ⟨h1_, h2_, h3_, h4_⟩ := h_
    have s1_ := ni_s h1_
    have s2_ := ni_l h1_
    refine ⟨⟨s1_.1, by omega, (g3_ _ s1_.2.1).mp s1_.2.2⟩, h2_, ?_, ?_, ?_, ?_, ?_⟩
    · rw [h3_]
      exact (hx_.2.2 d_ xi_.2 (by omega) s1_.2.1).2.1
    · rcases p_ni_r (k_ := k0_) hA_ (show d_ ≤ m_ by omega) with z_ | ⟨v_, z1_, z2_, z3_, z4_, z5_⟩
      · have := z_.1
        omega
      · have ev : v_ = xi_.2 := by omega
        subst ev
        have e1_ : p_cn (g_in A_ d_) (xi_.2 + 1) = p_cn (g_in A_ d_) k0_ + 1 := by
          rw [p_cn, z4_, if_pos rfl]
          omega
        rw [g4_ _ (by omega), g4_ _ (by omega)] at e1_
        rw [g4_ _ (by omega), g4_ _ (by omega)] at z5_
        exact ⟨z5_, e1_⟩
    · intro e_
      rcases h4_ with ⟨w1_, w2_, w3_⟩ | ⟨w1_, w2_, p1_, w3_, w4_⟩
      · exact Or.inl ⟨e_, w2_, w3_⟩
      · exact absurd e_ w1_
    · intro e_
      rcases h4_ with ⟨w1_, w2_, w3_⟩ | ⟨w1_, w2_, p1_, w3_, w4_⟩
      · exact absurd w1_ e_
      · exact ⟨w2_, p1_, w3_, Or.inr w4_⟩
    · intro s_ hs1_ hs2_
      have z_ := s2_ s_ hs1_ hs2_
      have z2_ := g3_ s_ (by omega)
      exact fun w_ => z_ (z2_.mpr w_)
theorem ac_nn {l_ : List (pR × Nat)} {k0_ p_ pe_ : Nat} (hA_ : a_ok b_ n_ A_ m_) (hB_ : a_ok b_ n_ B_ m_) (hx_ : a_ex A_ B_ m_) (hd_ : d_ < m_) (h_ : uch b_ n_ A_ m_ d_ l_ k0_ p_ pe_) (hk0_ : k0_ ≤ B_.1 d_) : p_cn (g_in B_ d_) (B_.1 d_) = p_cn (g_in B_ d_) k0_ + l_.length := by
  obtain ⟨g1_, g2_, g3_, g4_⟩ := gi_ex hA_ hB_ hx_ hd_
  have w_ := ach_n (M_ := m_) hA_ (by omega) l_ k0_ p_ pe_ h_ (by omega)
  rw [g4_ _ (Nat.le_refl _), g4_ _ (by omega), g1_] at w_
  exact w_
theorem ac_0 {k0_ p_ pe_ : Nat} (hA_ : a_ok b_ n_ A_ m_) (hB_ : a_ok b_ n_ B_ m_) (hx_ : a_ex A_ B_ m_) (hd_ : d_ < m_) (h_ : uch b_ n_ A_ m_ d_ [] k0_ p_ pe_) : pe_ = p_ ∧ ∀ s_, s_ < B_.1 d_ → k0_ ≤ s_ → B_.2.2.1 (40 * d_ + s_) ≠ 0 := by
  obtain ⟨g1_, g2_, g3_, g4_⟩ := gi_ex hA_ hB_ hx_ hd_
  rcases h_ with h_ | h_
  · refine ⟨h_.2.2, fun s_ hs_ hk_ => ?_⟩
    have z_ := ni_n h_.2.1 s_ (by omega) hk_
    have z2_ := g3_ s_ (by omega)
    exact fun w_ => z_ (z2_.mpr w_)
  · exact h_.elim
/-- the_ values of_ the_ arguments so_ far_ -/
def aro (B_ : pA) (d_ k0_ : Nat) (o_ : Nat → List Int) (a_ : Nat → Int) (ok_ : Prop) : Prop := oin B_ d_ k0_ o_ ∧ (∀ s_, B_.1 d_ ≤ s_ → o_ s_ = []) ∧ imq ok_ (∀ s_, s_ < k0_ → s_ < B_.1 d_ → B_.2.2.1 (40 * d_ + s_) = 0 → rwv a_ (8 * p_cn (g_in B_ d_) s_) (o_ s_))
theorem aro_0 {a_ : Nat → Int} {ok_ : Prop} : aro B_ d_ 0 (fun _ => []) a_ ok_ := ⟨⟨fun s_ _ _ h_ => absurd h_ (Nat.not_lt_zero _), fun s_ _ _ => rfl⟩, fun s_ _ => rfl, fun _ s_ h_ => absurd h_ (Nat.not_lt_zero _)⟩
theorem cn_lt {g_ : Nat → Bool} {s_ k_ : Nat} (h_ : s_ < k_) (hg_ : g_ s_ = true) : p_cn g_ s_ + 1 ≤ p_cn g_ k_ := by
  have e_ : p_cn g_ (s_ + 1) = p_cn g_ s_ + 1 := by
    rw [p_cn, hg_, if_pos rfl]
  rw [← e_]
  exact p_cn_le h_
theorem aro_cg {k0_ : Nat} {o_ : Nat → List Int} {a_ a'_ : Nat → Int} {ok_ : Prop} (hB_ : a_ok b_ n_ B_ m_) (hd_ : d_ < m_) (h_ : aro B_ d_ k0_ o_ a_ ok_) (he_ : ∀ i_, i_ < 8 * p_cn (g_in B_ d_) k0_ → a'_ i_ = a_ i_) : aro B_ d_ k0_ o_ a'_ ok_ := by
  refine ⟨h_.1, h_.2.1, fun z_ s_ hs_ hs2_ h0_ => ?_⟩
  have w_ := h_.2.2 z_ s_ hs_ hs2_ h0_
  have l1_ := h_.1.1 s_ hs2_ h0_ hs_
  have l2_ := ((hB_.2 d_ (by omega)).2 s_ hs2_).2.2.1
  have g1_ : g_in B_ d_ s_ = true := by
    rw [g_in_0 hB_ (by omega) hs2_]
    exact decide_eq_true h0_
  have c1_ := cn_lt hs_ g1_
  intro k9_ z9_ e9_
  have kl_ : k9_ < (o_ s_).length := by
    by_cases q_ : k9_ < (o_ s_).length
    · exact q_
    · rw [List.getElem?_eq_none (by omega)] at e9_
      cases e9_
  rw [he_ _ (by omega)]
  exact w_ k9_ z9_ e9_
theorem aro_up {k0_ i_ : Nat} {o_ : Nat → List Int} {v_ : List Int} {a_ : Nat → Int} {ok_ ok'_ : Prop} (h_ : aro B_ d_ k0_ o_ a_ ok_) (hi_ : k0_ ≤ i_ ∧ i_ < B_.1 d_ ∧ B_.2.2.1 (40 * d_ + i_) = 0) (hv_ : (v_.length : Int) = B_.2.2.2.1 (40 * d_ + i_)) (hc_ : p_cn (g_in B_ d_) i_ = p_cn (g_in B_ d_) k0_) (hn_ : ∀ s_, k0_ ≤ s_ → s_ < i_ → B_.2.2.1 (40 * d_ + s_) ≠ 0) (hok_ : ok'_ → ok_) (hr_ : imq ok'_ (rwv a_ (8 * p_cn (g_in B_ d_) k0_) v_)) : aro B_ d_ (i_ + 1) (up1 o_ i_ v_) a_ ok'_ := by
  refine ⟨⟨fun s_ hs_ h0_ hl_ => ?_, fun s_ hs_ h0_ => ?_⟩, fun s_ hs_ => ?_, fun z_ s_ hs_ hs2_ h0_ => ?_⟩
  · by_cases q_ : s_ = i_
    · rw [q_]
      show ((if i_ = i_ then v_ else o_ i_).length : Int) = _
      rw [if_pos rfl]
      exact hv_
    · show ((if s_ = i_ then v_ else o_ s_).length : Int) = _
      rw [if_neg q_]
      by_cases q2_ : s_ < k0_
      · exact h_.1.1 s_ hs_ h0_ q2_
      · exact absurd h0_ (hn_ s_ (by omega) (by omega))
  · show (if s_ = i_ then v_ else o_ s_) = []
    rw [if_neg (fun q_ => h0_ (by rw [q_]; exact hi_.2.2))]
    exact h_.1.2 s_ hs_ h0_
  · show (if s_ = i_ then v_ else o_ s_) = []
    rw [if_neg (by omega)]
    exact h_.2.1 s_ hs_
  · show rwv a_ _ (if s_ = i_ then v_ else o_ s_)
    by_cases q_ : s_ = i_
    · rw [if_pos q_, q_, hc_]
      exact hr_ z_
    · rw [if_neg q_]
      by_cases q2_ : s_ < k0_
      · exact h_.2.2 (hok_ z_) s_ q2_ hs2_ h0_
      · exact absurd h0_ (hn_ s_ (by omega) (by omega))
end AQ_
theorem rev_o {fr_ K_ : Nat} {E_ : gE} {O_ : gO} {ok_ ok'_ : Prop} {z_ : Option (Nat → List Int)} {S_ : sm_S} (h_ : rev fr_ K_ E_ O_ ok_ S_) (hok_ : ok'_ → ok_) : rev fr_ K_ E_ (up1 O_ K_ z_) ok'_ S_ := by
  intro q_
  obtain ⟨h1_, h2_⟩ := h_ (hok_ q_)
  refine ⟨h1_, fun s_ o_ hs_ e_ => h2_ s_ o_ hs_ ?_⟩
  rw [← e_]
  show _ = if s_ = K_ then z_ else O_ s_
  rw [if_neg (by omega)]
theorem rev_lo {fr_ K_ : Nat} {E_ : gE} {O_ : gO} {ok_ ok'_ : Prop} {S_ S'_ : sm_S} (h_ : rev fr_ K_ E_ O_ ok_ S_) (hok_ : ok'_ → ok_) (hE_ : ∀ s_, s_ < 40 → (E_ s_).length ≤ 8) (e1_ : ∀ j_, j_ < 8 * (40 * (fr_ + 1)) → S'_.2.2.1 144 0 j_ = S_.2.2.1 144 0 j_) (e2_ : S'_.2.2.1 145 0 = S_.2.2.1 145 0) : rev fr_ K_ E_ O_ ok'_ S'_ := by
  intro q_
  obtain ⟨h1_, h2_⟩ := h_ (hok_ q_)
  refine ⟨fun s_ hs_ => ?_, fun s_ o_ hs_ e_ o1_ ho1_ => ?_⟩
  · have w_ := h1_ s_ hs_
    have l1_ := hE_ s_ hs_
    intro k9_ z9_ e9_
    have kl_ : k9_ < (E_ s_).length := by
      by_cases q_ : k9_ < (E_ s_).length
      · exact q_
      · rw [List.getElem?_eq_none (by omega)] at e9_
        cases e9_
    rw [e1_ _ (by omega)]
    exact w_ k9_ z9_ e9_
  · rw [e2_]
    exact h2_ s_ o_ hs_ e_ o1_ ho1_
theorem ev_15 {F_ I_ m_ K_ fc_ : Nat} {B_ : pA} {X_ : Nat → gQ → gE → Option (gQ × gE)} {q_ : gQ} {E_ : gE} {O_ : gO} (hK_ : K_ < B_.1 m_) (h40_ : B_.1 m_ ≤ 40) (hE_ : E_ K_ = []) (hO_ : O_ K_ = none) (hf_ : q_.2.2 ≤ 200) : ev F_ I_ B_ X_ m_ (q_, E_, O_, []) [cw 15 (K_ : Int) 0] = some ((q_.1, q_.2.1, q_.2.2 + 1), E_, up1 O_ K_ (some fun _ => []), []) := by
  rw [ev_c ev_n]
  refine ew_st (by decide) (by omega) ?_
  rw [Int.toNat_natCast]
  exact st15 hK_ hE_ hO_ hf_
theorem ev_16 {F_ I_ m_ K_ i_ : Nat} {B_ : pA} {X_ : Nat → gQ → gE → Option (gQ × gE)} {s0_ : gS} {q_ : gQ} {E_ : gE} {O_ : gO} {o_ : Nat → List Int} {c_ v_ : List Int} (h_ : ev F_ I_ B_ X_ m_ s0_ c_ = some (q_, E_, up1 O_ K_ (some o_), [v_])) (hK_ : K_ < B_.1 m_) (h40_ : B_.1 m_ ≤ 40) (hi_ : i_ < 40) (hv_ : v_.length ≤ 8) : ev F_ I_ B_ X_ m_ s0_ (cw 16 (K_ : Int) (i_ : Int) :: c_) = some (q_, E_, up1 O_ K_ (some (up1 o_ i_ v_)), []) := by
  rw [ev_c h_]
  refine ew_st (by decide) (by omega) ?_
  rw [Int.toNat_natCast]
  have w_ := st16 (I_ := I_) (B_ := B_) (m_ := m_) (a_ := K_) (d_ := (i_ : Int)) (q_ := q_) (E_ := E_) (O_ := up1 O_ K_ (some o_)) (o_ := o_) (x_ := v_) (l_ := []) hK_ (if_pos rfl) (by omega) hv_
  rw [w_, Int.toNat_natCast, up1_2]
end
/-! 99.zf3a -/
section
/-! the reference: instances; written by wip/p55/gen/vg -/

/-! instances, second pass -/
def miq (fr_ : Nat) (S0_ S_ : sm_S) : Prop := S_.1 13 0 28 = S0_.1 13 0 28 ∧ S_.1 13 0 29 = S0_.1 13 0 29 ∧ (∀ j_, j_ < 8 * (40 * (fr_ + 1)) → S_.2.2.1 144 0 j_ = S0_.2.2.1 144 0 j_) ∧ S_.1 13 0 27 = S0_.1 13 0 27 ∧ (S_.2.2.1 146 0 = S0_.2.2.1 146 0 ∧ S_.2.2.1 147 0 = S0_.2.2.1 147 0 ∧ S_.2.2.1 148 0 = S0_.2.2.1 148 0 ∧ S_.2.2.1 149 0 = S0_.2.2.1 149 0)
theorem miq_rf {fr_ : Nat} {S_ : sm_S} : miq fr_ S_ S_ := ⟨rfl, rfl, fun _ _ => rfl, rfl, rfl, rfl, rfl, rfl⟩
theorem miq_fr {w_ : sx_Wl} {fr_ : Nat} {S0_ S_ S'_ : sm_S} (h_ : miq fr_ S0_ S_) (g_ : ai_fr (sx_W w_) S_ S'_) (h0_ : (sx_W w_).1 13 28 = false) (h1_ : (sx_W w_).1 13 29 = false) (h2_ : (sx_W w_).1 13 27 = false) (h3_ : (sx_W w_).2.1 144 = false) (h4_ : (sx_W w_).2.1 146 = false) (h5_ : (sx_W w_).2.1 147 = false) (h6_ : (sx_W w_).2.1 148 = false) (h7_ : (sx_W w_).2.1 149 = false) : miq fr_ S0_ S'_ := by
  obtain ⟨x1_, x2_, x3_, x4_, x5_, x6_, x7_, x8_⟩ := h_
  refine ⟨(g_.1 13 0 28 h0_).trans x1_, (g_.1 13 0 29 h1_).trans x2_, ?_, (g_.1 13 0 27 h2_).trans x4_, (fr_arr g_ h4_).trans x5_, (fr_arr g_ h5_).trans x6_, (fr_arr g_ h6_).trans x7_, (fr_arr g_ h7_).trans x8_⟩
  intro j_ hj_
  rw [fr_arr g_ h3_]
  exact x3_ j_ hj_
/-- the_ frame that has_ been entered -/
def mfr (fr_ d_ K_ i9_ : Nat) (S0_ S_ : sm_S) : Prop := (∀ j_, S_.2.2.1 146 0 j_ = if j_ = fr_ + 1 then (d_ : Int) else S0_.2.2.1 146 0 j_) ∧ (∀ j_, S_.2.2.1 147 0 j_ = if j_ = fr_ + 1 then (i9_ : Int) else S0_.2.2.1 147 0 j_) ∧ (∀ j_, S_.2.2.1 148 0 j_ = if j_ = fr_ + 1 then (K_ : Int) else S0_.2.2.1 148 0 j_) ∧ (∀ j_, S_.2.2.1 149 0 j_ = if j_ = fr_ + 1 then 0 else S0_.2.2.1 149 0 j_) ∧ S_.1 13 0 28 = (d_ : Int) ∧ S_.1 13 0 29 = (fr_ : Int) + 1 ∧ S_.1 13 0 9 = S0_.2.2.1 125 0 d_ ∧ S_.1 13 0 10 = 0
theorem mfr_fr {w_ : sx_Wl} {fr_ d_ K_ i9_ : Nat} {S0_ S_ S'_ : sm_S} (h_ : mfr fr_ d_ K_ i9_ S0_ S_) (g_ : ai_fr (sx_W w_) S_ S'_) (h0_ : (sx_W w_).1 13 28 = false) (h1_ : (sx_W w_).1 13 29 = false) (h2_ : (sx_W w_).1 13 9 = false) (h3_ : (sx_W w_).1 13 10 = false) (h4_ : (sx_W w_).2.1 146 = false) (h5_ : (sx_W w_).2.1 147 = false) (h6_ : (sx_W w_).2.1 148 = false) (h7_ : (sx_W w_).2.1 149 = false) : mfr fr_ d_ K_ i9_ S0_ S'_ := by
  unfold mfr at h_ ⊢
  rw [fr_arr g_ h4_, fr_arr g_ h5_, fr_arr g_ h6_, fr_arr g_ h7_, g_.1 13 0 28 h0_, g_.1 13 0 29 h1_, g_.1 13 0 9 h2_, g_.1 13 0 10 h3_]
  exact h_
/-! M_.makeInstance -/
def vw_345 : sx_Wl := ([(13, 9), (13, 10), (13, 11), (13, 28), (13, 29), (13, 32), (13, 33), (13, 34), (13, 37)], [136, 137, 138, 139, 140, 141, 142, 143, 144, 146, 147, 148, 149, 152], [])
def vq_345 (nm_ : Int) (b_ : Nat → Int) (n_ : Nat) (T_ : Nat) (F_ : Nat) (I_ : Nat) (A_ : pA) (B_ : pA) (X_ : Nat → gQ → gE → Option (gQ × gE)) (M_ : Nat) (fr_ : Nat) (q0_ : gQ) (E_ : gE) (O_ : gO) (p_ : Nat) (d_ : Nat) (p1_ : Nat) (p2_ : Nat) (p3_ : Nat) (p4_ : Nat) (p5_ : Nat) (pe_ : Nat) (y_ : Nat) (l_ : List (pR × Nat)) (S0_ : sm_S) (u_ : Option sm_V) (S1_ : sm_S) : Prop := u_ = none ∧ gi S1_ ∧ ai_fr (sx_W vw_345) S0_ S1_ ∧ (∃ (G_ : pGr) (o_ : Nat → List Int) (i9_ : Nat), ev F_ I_ B_ X_ M_ (q0_, E_, O_, []) (acd (A_.1 M_) l_ [cw 15 (A_.1 M_ : Int) 0]) = some ((G_, q0_.2.1, q0_.2.2 + 1), E_, up1 O_ (A_.1 M_) (some o_), []) ∧ oin B_ d_ (B_.1 d_) o_ ∧ (∀ s_, s_ < 40 → (o_ s_).length ≤ 8) ∧ (∀ s_, B_.1 d_ ≤ s_ → o_ s_ = []) ∧ rgl F_ G_ S1_ ∧ rp b_ n_ T_ i9_ y_ ∧ (mfr fr_ d_ (A_.1 M_) i9_ S0_ S1_) ∧ (∀ j_, j_ < 8 * (40 * (fr_ + 1)) → S1_.2.2.1 144 0 j_ = S0_.2.2.1 144 0 j_) ∧ rev (fr_ + 1) 0 o_ (fun _ => none) (G_.length ≤ 1001) S1_)
set_option maxHeartbeats 2000000 in
set_option maxRecDepth 20000 in
theorem vl_345 {sc_ : Nat × (Nat → Int)} (nm_ : Int) (b_ : Nat → Int) (n_ : Nat) (T_ : Nat) (F_ : Nat) (I_ : Nat) (A_ : pA) (B_ : pA) (X_ : Nat → gQ → gE → Option (gQ × gE)) (M_ : Nat) (fr_ : Nat) (q0_ : gQ) (E_ : gE) (O_ : gO) (p_ : Nat) (d_ : Nat) (p1_ : Nat) (p2_ : Nat) (p3_ : Nat) (p4_ : Nat) (p5_ : Nat) (pe_ : Nat) (y_ : Nat) (l_ : List (pR × Nat)) (S0_ : sm_S) (ht_ : rtab b_ n_ T_ S0_) (hx_ : rg b_ n_ T_ (.inr p_) S0_) (hm1_ : (S0_.1 13 0 27) = 1) (hen_ : r_e1 b_ n_ T_ B_ M_ fr_ S0_) (hA_ : a_ok b_ n_ A_ M_) (hxx_ : a_ex A_ B_ M_) (hX_ : ∀ d_ q_ e_ z_, X_ d_ q_ e_ = some z_ → q_.1.length ≤ z_.1.1.length) (hte_ : ten B_ M_ (A_.1 M_) E_ O_) (hev_ : rev fr_ (A_.1 M_) E_ O_ (q0_.1.length ≤ 1001) S0_) (hg_ : rgl F_ q0_.1 S0_) (hd1_ : d_ < M_ ∧ fr_ + 1 ≤ 15 ∧ nm_ = (A_.1 M_ : Int) ∧ A_.1 M_ < B_.1 M_) (h5_ : B_.2.2.2.2 (40 * M_ + A_.1 M_) = (d_ : Int)) (ha1_ : p_ad b_ n_ p_ = .inr p1_) (hk1_ : lx_kd b_ n_ p_ ≠ 0 ∧ lx_kd b_ n_ p1_ ≠ 0 ∧ lx_kd b_ n_ p2_ ≠ 0) (ha2_ : p_ad b_ n_ p1_ = .inr p2_) (ha3_ : p_ad b_ n_ p2_ = .inr p3_) (h40_ : p_nd b_ n_ 40 p3_ = .inr p4_) (hu_ : uch b_ n_ A_ M_ d_ l_ 0 p4_ pe_) (h41_ : p_nd b_ n_ 41 pe_ = .inr p5_) (h59_ : p_nd b_ n_ 59 p5_ = .inr y_) (hE_ : E_ (A_.1 M_) = []) (hO_ : O_ (A_.1 M_) = none) (hfc_ : q0_.2.2 ≤ 200) (hE8_ : ∀ s_, s_ < 40 → (E_ s_).length ≤ 8) : ∀ nn_ : Nat, (∀ (dm_ : Int) (mn : Int) (k_ : Int) (S_ : sm_S), gi S_ → ai_fr (sx_W vw_345) S0_ S_ → ((dm_ = (d_ : Int) ∧ mn = (p_cn (g_in B_ d_) (B_.1 d_) : Int) ∧ 0 ≤ k_) ∧ (miq fr_ S0_ S_) ∧ (∃ (l2_ : List (pR × Nat)) (k0_ : Nat) (pc_ : Nat) (cc_ : List Int) (G_ : pGr) (o_ : Nat → List Int), uch b_ n_ A_ M_ d_ l2_ k0_ pc_ pe_ ∧ k0_ ≤ B_.1 d_ ∧ k_ = (p_cn (g_in B_ d_) k0_ : Int) ∧ acd (A_.1 M_) l2_ cc_ = acd (A_.1 M_) l_ [cw 15 (A_.1 M_ : Int) 0] ∧ ev F_ I_ B_ X_ M_ (q0_, E_, O_, []) cc_ = some ((G_, q0_.2.1, q0_.2.2 + 1), E_, up1 O_ (A_.1 M_) (some o_), []) ∧ aro B_ d_ k0_ o_ (S_.2.2.1 152 0) (G_.length ≤ 1001) ∧ rgl F_ G_ S_ ∧ rg b_ n_ T_ (.inr pc_) S_) ∧ True) → ((2000 + 20 * (50 - k_) + 10).toNat) < nn_ → sm_T (mt_P sc_) 9 345 (41, [some (.inr (.inr (some (13, 0)))), some (.inl nm_), some (.inl dm_), some (.inl mn), some (.inl k_), none, none, none], [], S_) (fun ro9_ => ∃ u_ S1_, ro9_ = (.inl u_, S1_, 0) ∧ vq_345 nm_ b_ n_ T_ F_ I_ A_ B_ X_ M_ fr_ q0_ E_ O_ p_ d_ p1_ p2_ p3_ p4_ p5_ pe_ y_ l_ S0_ u_ S1_)) ∧ (∀ (dm_ : Int) (mn : Int) (k_ : Int) (j_ : Int) (S_ : sm_S), gi S_ → ai_fr (sx_W vw_345) S0_ S_ → ((dm_ = (d_ : Int) ∧ mn = (p_cn (g_in B_ d_) (B_.1 d_) : Int) ∧ 0 ≤ k_ ∧ k_ < mn ∧ 0 ≤ j_ ∧ j_ ≤ 8) ∧ (miq fr_ S0_ S_) ∧ (∃ (xi_ : pR × Nat) (l3_ : List (pR × Nat)) (k0_ : Nat) (pc_ : Nat) (cc_ : List Int) (G_ : pGr) (G1_ : pGr) (o_ : Nat → List Int) (v9_ : List Int), uch b_ n_ A_ M_ d_ (xi_ :: l3_) k0_ pc_ pe_ ∧ k0_ ≤ B_.1 d_ ∧ k_ = (p_cn (g_in B_ d_) k0_ : Int) ∧ acd (A_.1 M_) (xi_ :: l3_) cc_ = acd (A_.1 M_) l_ [cw 15 (A_.1 M_ : Int) 0] ∧ G_.length ≤ G1_.length ∧ ev F_ I_ B_ X_ M_ (q0_, E_, O_, []) (xi_.1.2.2 ++ cc_) = some ((G1_, q0_.2.1, q0_.2.2 + 1), E_, up1 O_ (A_.1 M_) (some o_), [v9_]) ∧ ((v9_.length : Int) = h_tp xi_.1.2.1 ∧ v9_.length ≤ 8) ∧ aro B_ d_ k0_ o_ (S_.2.2.1 152 0) (G_.length ≤ 1001) ∧ rgl F_ G1_ S_ ∧ rg b_ n_ T_ (.inr xi_.1.1) S_ ∧ imq (G1_.length ≤ 1001) (rwv (S_.2.2.1 139 0) 0 v9_) ∧ ∀ i_, i_ < j_.toNat → S_.2.2.1 152 0 (8 * k_.toNat + i_) = S_.2.2.1 139 0 i_) ∧ True) → ((2000 + 20 * (50 - k_) + 9 - j_).toNat) < nn_ → sm_T (mt_P sc_) 9 345 (54, [some (.inr (.inr (some (13, 0)))), some (.inl nm_), some (.inl dm_), some (.inl mn), some (.inl k_), some (.inl j_), none, none], [], S_) (fun ro9_ => ∃ u_ S1_, ro9_ = (.inl u_, S1_, 0) ∧ vq_345 nm_ b_ n_ T_ F_ I_ A_ B_ X_ M_ fr_ q0_ E_ O_ p_ d_ p1_ p2_ p3_ p4_ p5_ pe_ y_ l_ S0_ u_ S1_)) ∧ (∀ (dm_ : Int) (mn : Int) (tk_ : Int) (k5_ : Int) (S_ : sm_S), gi S_ → ai_fr (sx_W vw_345) S0_ S_ → ((dm_ = (d_ : Int) ∧ mn = (p_cn (g_in B_ d_) (B_.1 d_) : Int) ∧ 0 ≤ k5_ ∧ k5_ ≤ mn) ∧ (S_.1 13 0 29 = (fr_ : Int) + 1) ∧ (∃ (G_ : pGr) (o_ : Nat → List Int) (i9_ : Nat), ev F_ I_ B_ X_ M_ (q0_, E_, O_, []) (acd (A_.1 M_) l_ [cw 15 (A_.1 M_ : Int) 0]) = some ((G_, q0_.2.1, q0_.2.2 + 1), E_, up1 O_ (A_.1 M_) (some o_), []) ∧ aro B_ d_ (B_.1 d_) o_ (S_.2.2.1 152 0) (G_.length ≤ 1001) ∧ rgl F_ G_ S_ ∧ rp b_ n_ T_ i9_ y_ ∧ tk_ = (i9_ : Int) ∧ imq (G_.length ≤ 1001) (∀ s_, s_ < B_.1 d_ → B_.2.2.1 (40 * d_ + s_) = 0 → (p_cn (g_in B_ d_) s_ : Int) < k5_ → rwv (S_.2.2.1 144 0) (8 * (40 * (fr_ + 1) + s_)) (o_ s_)) ∧ (mfr fr_ d_ (A_.1 M_) i9_ S0_ S_) ∧ (∀ j_, j_ < 8 * (40 * (fr_ + 1)) → S_.2.2.1 144 0 j_ = S0_.2.2.1 144 0 j_)) ∧ True) → ((20 * (50 - k5_) + 10).toNat) < nn_ → sm_T (mt_P sc_) 9 345 (154, [some (.inr (.inr (some (13, 0)))), some (.inl nm_), some (.inl dm_), some (.inl mn), some (.inl tk_), some (.inl k5_), none, none], [], S_) (fun ro9_ => ∃ u_ S1_, ro9_ = (.inl u_, S1_, 0) ∧ vq_345 nm_ b_ n_ T_ F_ I_ A_ B_ X_ M_ fr_ q0_ E_ O_ p_ d_ p1_ p2_ p3_ p4_ p5_ pe_ y_ l_ S0_ u_ S1_)) ∧ (∀ (dm_ : Int) (mn : Int) (tk_ : Int) (k5_ : Int) (s6_ : Int) (k7_ : Int) (S_ : sm_S), gi S_ → ai_fr (sx_W vw_345) S0_ S_ → ((dm_ = (d_ : Int) ∧ mn = (p_cn (g_in B_ d_) (B_.1 d_) : Int) ∧ 0 ≤ k5_ ∧ k5_ < mn ∧ 0 ≤ k7_ ∧ k7_ ≤ 8 ∧ 0 ≤ s6_ ∧ s6_ < (B_.1 d_ : Int)) ∧ (S_.1 13 0 29 = (fr_ : Int) + 1) ∧ (g_in B_ d_ s6_.toNat = true ∧ B_.2.2.1 (40 * d_ + s6_.toNat) = 0 ∧ (p_cn (g_in B_ d_) s6_.toNat : Int) = k5_ ∧ ∀ i_, i_ < k7_.toNat → S_.2.2.1 144 0 (8 * (40 * (fr_ + 1) + s6_.toNat) + i_) = S_.2.2.1 152 0 (8 * k5_.toNat + i_)) ∧ (∃ (G_ : pGr) (o_ : Nat → List Int) (i9_ : Nat), ev F_ I_ B_ X_ M_ (q0_, E_, O_, []) (acd (A_.1 M_) l_ [cw 15 (A_.1 M_ : Int) 0]) = some ((G_, q0_.2.1, q0_.2.2 + 1), E_, up1 O_ (A_.1 M_) (some o_), []) ∧ aro B_ d_ (B_.1 d_) o_ (S_.2.2.1 152 0) (G_.length ≤ 1001) ∧ rgl F_ G_ S_ ∧ rp b_ n_ T_ i9_ y_ ∧ tk_ = (i9_ : Int) ∧ imq (G_.length ≤ 1001) (∀ s_, s_ < B_.1 d_ → B_.2.2.1 (40 * d_ + s_) = 0 → (p_cn (g_in B_ d_) s_ : Int) < k5_ → rwv (S_.2.2.1 144 0) (8 * (40 * (fr_ + 1) + s_)) (o_ s_)) ∧ (mfr fr_ d_ (A_.1 M_) i9_ S0_ S_) ∧ (∀ j_, j_ < 8 * (40 * (fr_ + 1)) → S_.2.2.1 144 0 j_ = S0_.2.2.1 144 0 j_)) ∧ True) → ((20 * (50 - k5_) + 9 - k7_).toNat) < nn_ → sm_T (mt_P sc_) 9 345 (173, [some (.inr (.inr (some (13, 0)))), some (.inl nm_), some (.inl dm_), some (.inl mn), some (.inl tk_), some (.inl k5_), some (.inl s6_), some (.inl k7_)], [], S_) (fun ro9_ => ∃ u_ S1_, ro9_ = (.inl u_, S1_, 0) ∧ vq_345 nm_ b_ n_ T_ F_ I_ A_ B_ X_ M_ fr_ q0_ E_ O_ p_ d_ p1_ p2_ p3_ p4_ p5_ pe_ y_ l_ S0_ u_ S1_)) := by
  intro nn_
  induction nn_ with
  | zero => exact ⟨fun _ _ _ _ _ _ _ h_ => absurd h_ (Nat.not_lt_zero _), fun _ _ _ _ _ _ _ _ h_ => absurd h_ (Nat.not_lt_zero _), fun _ _ _ _ _ _ _ _ h_ => absurd h_ (Nat.not_lt_zero _), fun _ _ _ _ _ _ _ _ _ _ h_ => absurd h_ (Nat.not_lt_zero _)⟩
  | succ nn_ ih_ =>
    refine ⟨?_, ?_, ?_, ?_⟩
    · rintro dm_ mn k_ S_ hI_ hF_ ⟨h0_, hq_, h1_, -⟩ hm_
      have ht1_ := rtab_fr ht_ hF_ rfl rfl rfl rfl rfl
      have M15_ := hA_.1
      have dM_ := hd1_.1
      have B40_ := (hen_.1.2 d_ (by omega)).1
      have cb_ := p_cn_b (g_ := g_in B_ d_) (B_.1 d_)
      have hB_ := hen_.1
      have BM40_ := (hen_.1.2 M_ (Nat.le_refl _)).1
      have en1_ : r_e1 b_ n_ T_ B_ M_ fr_ S_ := ⟨hen_.1, hq_.1.trans hen_.2.1, ⟨hq_.2.1.trans hen_.2.2.1.1, hen_.2.2.1.2⟩, fun m_ hm_ => re1_fr (hen_.2.2.2 m_ hm_) hF_ rfl rfl rfl rfl rfl rfl⟩
      have hev1_ : rev fr_ (A_.1 M_) E_ O_ (q0_.1.length ≤ 1001) S_ := rev_lo hev_ id hE8_ (fun j_ hj_ => hq_.2.2.1 j_ hj_) (fr_arr (t := 145) (i := 0) hF_ rfl)
      refine sm_T_go 2 (c1 := (44, [some (.inr (.inr (some (13, 0)))), some (.inl nm_), some (.inl dm_), some (.inl mn), some (.inl k_), none, none, none], [.inl mn, .inl k_], S_)) rfl ?_
      refine sm_T_br (a := 3) (z := 71) rfl (fun cx1_ => ?_) (fun cx1_ => ?_)
      · have cx1_ : mn ≤ k_ := of_decide_eq_true cx1_
        obtain ⟨l2_, k0_, pc_, cc_, G_, o_, z1_, z2_, z3_, z4_, z5_, z6_, z7_, z8_⟩ := h1_
        have nn1_ := ac_nn hA_ hB_ hxx_ dM_ z1_ z2_
        have hl_ : l2_ = [] := List.eq_nil_of_length_eq_zero (by omega)
        subst hl_
        obtain ⟨w1_, w2_⟩ := ac_0 hA_ hB_ hxx_ dM_ z1_
        subst w1_
        have z4_ : cc_ = acd (A_.1 M_) l_ [cw 15 (A_.1 M_ : Int) 0] := z4_
        subst z4_
        have aB_ : aro B_ d_ (B_.1 d_) o_ (S_.2.2.1 152 0) (G_.length ≤ 1001) := ⟨⟨fun s_ hs_ h0_ _ => by by_cases q9_ : s_ < k0_; exact z6_.1.1 s_ hs_ h0_ q9_; exact absurd h0_ (w2_ s_ hs_ (by omega)), z6_.1.2⟩, z6_.2.1, fun z_ s_ hs_ hs2_ h0_ => by by_cases q9_ : s_ < k0_; exact z6_.2.2 z_ s_ q9_ hs2_ h0_; exact absurd h0_ (w2_ s_ hs2_ (by omega))⟩
        refine sm_T_go 2 (c1 := (118, [some (.inr (.inr (some (13, 0)))), some (.inl nm_), some (.inl dm_), some (.inl mn), some (.inl k_), none, none, none], [.inl 41, .inr (.inr (some (13, 0)))], S_)) rfl ?_
        refine sm_T_cal (d1 := 3) (Q1 := vq_300 41 b_ n_ T_ (.inr pe_) S_) rfl rfl (by decide) (vc_300 41 b_ n_ T_ (.inr pe_) S_ hI_ (by exact ht1_) (by exact z8_) (by decide)) (fun u_ Sx2_ px5_ => ?_)
        obtain ⟨rfl, hIx3_, hFx4_, px5_⟩ := px5_
        have hFx6_ : ai_fr (sx_W vw_345) S0_ Sx2_ := ai_fr_tr hF_ (fr_le hFx4_ rfl)
        have g118_ := px5_
        rw [pb_r rfl, h41_] at g118_
        have t118_ := rtab_fr ht1_ hFx4_ rfl rfl rfl rfl rfl
        have F118_ := hFx4_
        refine sm_T_go 2 (c1 := (124, [some (.inr (.inr (some (13, 0)))), some (.inl nm_), some (.inl dm_), some (.inl mn), some (.inl k_), none, none, none], [.inl 59, .inr (.inr (some (13, 0)))], Sx2_)) rfl ?_
        refine sm_T_cal (d1 := 3) (Q1 := vq_300 59 b_ n_ T_ (.inr p5_) Sx2_) rfl rfl (by decide) (vc_300 59 b_ n_ T_ (.inr p5_) Sx2_ hIx3_ (by exact t118_) (by exact g118_) (by decide)) (fun u_ Sx7_ px10_ => ?_)
        obtain ⟨rfl, hIx8_, hFx9_, px10_⟩ := px10_
        have hFx11_ : ai_fr (sx_W vw_345) S0_ Sx7_ := ai_fr_tr hFx6_ (fr_le hFx9_ rfl)
        have g124_ := px10_
        rw [pb_r rfl, h59_] at g124_
        obtain ⟨i9_, hi1_, hi2_⟩ := id g124_.2
        have f124_ := g124_.1
        have F124_ := hFx9_
        have hi3_ := hi2_.1
        have hT_ := ht_.2.1
        have M124_ : miq fr_ S0_ Sx7_ := miq_fr (miq_fr hq_ F118_ rfl rfl rfl rfl rfl rfl rfl rfl) hFx9_ rfl rfl rfl rfl rfl rfl rfl rfl
        have d124_ := M124_.2.1
        have d125_ := hen_.2.2.1.1
        have a124_ : Sx7_.2.2.1 152 0 = S_.2.2.1 152 0 := (fr_arr (t := 152) (i := 0) hFx9_ rfl).trans (fr_arr (t := 152) (i := 0) F118_ rfl)
        have r124_ := rgl_fr (rgl_fr z7_ F118_ rfl rfl rfl rfl rfl rfl) hFx9_ rfl rfl rfl rfl rfl rfl
        have H124_ := hFx11_
        have bx12_ : 0 ≤ Sx7_.1 13 0 9 ∧ Sx7_.1 13 0 9 ≤ 1280 := hIx8_.1 13 0 9 rfl
        have bx13_ : 0 ≤ Sx7_.1 13 0 29 ∧ Sx7_.1 13 0 29 ≤ 16 := hIx8_.1 13 0 29 rfl
        refine sm_T_go 7 (c1 := (139, [some (.inr (.inr (some (13, 0)))), some (.inl nm_), some (.inl dm_), some (.inl mn), some (.inl (Sx7_.1 13 0 9)), none, none, none], [.inl 1, .inl (Sx7_.1 13 0 29), .inr (.inr (some (13, 0)))], Sx7_)) rfl ?_
        refine sm_T_bin (w := (Sx7_.1 13 0 29) + 1) rfl (bi_add (by omega) (by omega) (by omega)) ?_
        have hIx14_ : gi (sm_pI Sx7_ 13 0 29 ((Sx7_.1 13 0 29) + 1)) := gi_pI hIx8_ (show 0 ≤ (Sx7_.1 13 0 29) + 1 ∧ (Sx7_.1 13 0 29) + 1 ≤ 16 from ⟨by omega, by omega⟩)
        have hFx15_ : ai_fr (sx_W vw_345) S0_ (sm_pI Sx7_ 13 0 29 ((Sx7_.1 13 0 29) + 1)) := ai_fr_tr hFx11_ (ai_fr_pI rfl)
        refine sm_T_go 5 (c1 := (148, [some (.inr (.inr (some (13, 0)))), some (.inl nm_), some (.inl dm_), some (.inl mn), some (.inl (Sx7_.1 13 0 9)), none, none, none], [.inl nm_, .inl (Sx7_.1 13 0 9), .inl dm_, .inr (.inr (some (13, 0)))], sm_pI Sx7_ 13 0 29 ((Sx7_.1 13 0 29) + 1))) rfl ?_
        refine sm_T_cal (d1 := 0) (Q1 := vq_341 dm_ (Sx7_.1 13 0 9) nm_ (fr_ + 1) (sm_pI Sx7_ 13 0 29 ((Sx7_.1 13 0 29) + 1))) rfl rfl (by decide) (vc_341 dm_ (Sx7_.1 13 0 9) nm_ (fr_ + 1) (sm_pI Sx7_ 13 0 29 ((Sx7_.1 13 0 29) + 1)) hIx14_ (by (refine ⟨?_, by omega⟩; (try simp only [rd_eq, rd_ne, rf_eq, rf_nk, rf_nt, rd_fa, rd_af, rd_fl, rd_al, rd_lf, rd_la, rd_leq, rd_lne, rd_fr, rd_ar, ne_eq, Nat.reduceEqDiff, not_false_eq_true]); push_cast; omega)) (by omega) (by omega) (by omega)) (fun u_ Sx16_ px19_ => ?_)
        obtain ⟨rfl, hIx17_, hFx18_, px19_⟩ := px19_
        have hFx20_ : ai_fr (sx_W vw_345) S0_ Sx16_ := ai_fr_tr hFx15_ (fr_le hFx18_ rfl)
        obtain ⟨e1_, e2_, e3_, e4_, e5_, e6_⟩ := px19_
        have b148_ := fr_arr (t := 144) (i := 0) hFx18_ rfl
        have a148_ := fr_arr (t := 152) (i := 0) hFx18_ rfl
        have f148_ := hFx18_.1 13 0 10 rfl
        have g148_ := hFx18_.1 13 0 29 rfl
        have r148_ := rgl_fr (S_ := (sm_pI Sx7_ 13 0 29 ((Sx7_.1 13 0 29) + 1))) (rgl_fr (w_ := ([(13, 29)], [], [])) r124_ (ai_fr_pI rfl) rfl rfl rfl rfl rfl rfl) hFx18_ rfl rfl rfl rfl rfl rfl
        have F148_ := hFx18_
        refine sm_T_go 2 (c1 := (154, [some (.inr (.inr (some (13, 0)))), some (.inl nm_), some (.inl dm_), some (.inl mn), some (.inl (Sx7_.1 13 0 9)), some (.inl 0), none, none], [], Sx16_)) rfl ?_
        refine ih_.2.2.1 dm_ mn (Sx7_.1 13 0 9) 0 Sx16_ hIx17_ hFx20_ ⟨?_, ?_, ?_, trivial⟩ ?_
        · omega
        · exact g148_.trans (by (try simp only [rd_eq, rd_ne, rf_eq, rf_nk, rf_nt, rd_fa, rd_af, rd_fl, rd_al, rd_lf, rd_la, rd_leq, rd_lne, rd_fr, rd_ar, ne_eq, Nat.reduceEqDiff, not_false_eq_true]); omega)
        · refine ⟨G_, o_, i9_, z5_, by rw [a148_]; exact (a124_ ▸ aB_), r148_, hi2_, hi1_, fun _ s_ _ _ hl_ => by omega, ⟨fun j_ => (e1_ j_).trans ?_, fun j_ => (e2_ j_).trans ?_, fun j_ => (e3_ j_).trans ?_, fun j_ => (e4_ j_).trans ?_, e5_.trans h0_.1, g148_.trans (by (try simp only [rd_eq, rd_ne, rf_eq, rf_nk, rf_nt, rd_fa, rd_af, rd_fl, rd_al, rd_lf, rd_la, rd_leq, rd_lne, rd_fr, rd_ar, ne_eq, Nat.reduceEqDiff, not_false_eq_true]); omega), e6_.trans ?_, f148_.trans f124_⟩, fun j_ hj_ => ?_⟩
          · have q1_ := congrFun M124_.2.2.2.2.1 j_; by_cases zj_ : j_ = fr_ + 1; (rw [if_pos zj_, if_pos zj_] <;> first | exact h0_.1 | exact hi1_ | exact hd1_.2.2.1 | rfl); (rw [if_neg zj_, if_neg zj_]; exact q1_)
          · have q1_ := congrFun M124_.2.2.2.2.2.1 j_; by_cases zj_ : j_ = fr_ + 1; (rw [if_pos zj_, if_pos zj_] <;> first | exact h0_.1 | exact hi1_ | exact hd1_.2.2.1 | rfl); (rw [if_neg zj_, if_neg zj_]; exact q1_)
          · have q1_ := congrFun M124_.2.2.2.2.2.2.1 j_; by_cases zj_ : j_ = fr_ + 1; (rw [if_pos zj_, if_pos zj_] <;> first | exact h0_.1 | exact hi1_ | exact hd1_.2.2.1 | rfl); (rw [if_neg zj_, if_neg zj_]; exact q1_)
          · have q1_ := congrFun M124_.2.2.2.2.2.2.2 j_; by_cases zj_ : j_ = fr_ + 1; (rw [if_pos zj_, if_pos zj_] <;> first | exact h0_.1 | exact hi1_ | exact hd1_.2.2.1 | rfl); (rw [if_neg zj_, if_neg zj_]; exact q1_)
          · rw [show dm_.toNat = d_ by omega]; exact congrFun (fr_arr (t := 125) (i := 0) H124_ rfl) d_
          · rw [b148_]; exact M124_.2.2.1 j_ hj_
        · omega
      · have cx1_ : ¬ (mn ≤ k_) := of_decide_eq_false cx1_
        obtain ⟨l2_, k0_, pc_, cc_, G_, o_, z1_, z2_, z3_, z4_, z5_, z6_, z7_, z8_⟩ := h1_
        have nn1_ := ac_nn hA_ hB_ hxx_ dM_ z1_ z2_
        obtain ⟨xi_, l3_, hl_⟩ : ∃ xi_ l3_, l2_ = xi_ :: l3_ := by cases l2_ with | nil => (exfalso; simp only [List.length_nil] at nn1_; omega) | cons a_ l9_ => exact ⟨a_, l9_, rfl⟩
        subst hl_
        obtain ⟨y1_, y2_, y3_, y4_, y5_, y6_, y7_⟩ := ac_st hA_ hB_ hxx_ dM_ z1_ z2_
        have gl_ : q0_.1.length ≤ G_.length := ev_le hX_ z5_
        refine sm_T_go 1 (c1 := (48, [some (.inr (.inr (some (13, 0)))), some (.inl nm_), some (.inl dm_), some (.inl mn), some (.inl k_), none, none, none], [.inr (.inr (some (13, 0)))], S_)) rfl ?_
        refine sm_T_cal (d1 := 8) (Q1 := vq_321g b_ n_ T_ F_ I_ B_ X_ M_ ((G_, q0_.2.1, q0_.2.2 + 1), E_, up1 O_ (A_.1 M_) (some o_), []) (p_pd b_ n_ A_ M_) (A_.1 M_) fr_ pc_ xi_.1 S_) rfl rfl (by decide) (vc_321g b_ n_ T_ F_ I_ B_ X_ M_ ((G_, q0_.2.1, q0_.2.2 + 1), E_, up1 O_ (A_.1 M_) (some o_), []) (p_pd b_ n_ A_ M_) (A_.1 M_) fr_ pc_ xi_.1 S_ hI_ (by exact ht1_) (by exact pd_ok hA_) (by (intro p9_ r9_ h9_; exact pd_ex hA_ hxx_ h9_)) (by exact hX_) (by exact en1_) (by exact ten_o hte_) (by exact rev_o hev1_ (fun z_ => Nat.le_trans gl_ z_)) (by exact z8_) (by exact hq_.2.2.2.1.trans hm1_) (by exact ⟨rfl, z7_⟩) (by exact y2_)) (fun u_ Sx21_ px24_ => ?_)
        obtain ⟨rfl, hIx22_, hFx23_, px24_⟩ := px24_
        have hFx25_ : ai_fr (sx_W vw_345) S0_ Sx21_ := ai_fr_tr hF_ (fr_le hFx23_ rfl)
        obtain ⟨g48_, G1_, v1_, x1_, x2_, x3_, x4_, x5_, x6_⟩ := px24_
        have gl1_ : G_.length ≤ G1_.length := ev_le hX_ x1_
        have a48_ := fr_arr (t := 152) (i := 0) hFx23_ rfl
        have F48_ := hFx23_
        refine sm_T_go 2 (c1 := (54, [some (.inr (.inr (some (13, 0)))), some (.inl nm_), some (.inl dm_), some (.inl mn), some (.inl k_), some (.inl 0), none, none], [], Sx21_)) rfl ?_
        refine ih_.2.1 dm_ mn k_ 0 Sx21_ hIx22_ hFx25_ ⟨?_, ?_, ?_, trivial⟩ ?_
        · omega
        · exact miq_fr hq_ F48_ rfl rfl rfl rfl rfl rfl rfl rfl
        · refine ⟨xi_, l3_, k0_, pc_, cc_, G_, G1_, o_, v1_, z1_, z2_, z3_, z4_, gl1_, by rw [ev_a z5_]; exact x1_, ⟨x2_.symm, x3_.2⟩, by rw [a48_]; exact z6_, x5_, g48_, x6_, fun i_ hi_ => absurd hi_ (Nat.not_lt_zero _)⟩
        · omega
    · rintro dm_ mn k_ j_ S_ hI_ hF_ ⟨h0_, hq_, h1_, -⟩ hm_
      have ht1_ := rtab_fr ht_ hF_ rfl rfl rfl rfl rfl
      have M15_ := hA_.1
      have dM_ := hd1_.1
      have B40_ := (hen_.1.2 d_ (by omega)).1
      have cb_ := p_cn_b (g_ := g_in B_ d_) (B_.1 d_)
      have hB_ := hen_.1
      have BM40_ := (hen_.1.2 M_ (Nat.le_refl _)).1
      have en1_ : r_e1 b_ n_ T_ B_ M_ fr_ S_ := ⟨hen_.1, hq_.1.trans hen_.2.1, ⟨hq_.2.1.trans hen_.2.2.1.1, hen_.2.2.1.2⟩, fun m_ hm_ => re1_fr (hen_.2.2.2 m_ hm_) hF_ rfl rfl rfl rfl rfl rfl⟩
      have hev1_ : rev fr_ (A_.1 M_) E_ O_ (q0_.1.length ≤ 1001) S_ := rev_lo hev_ id hE8_ (fun j_ hj_ => hq_.2.2.1 j_ hj_) (fr_arr (t := 145) (i := 0) hF_ rfl)
      refine sm_T_go 2 (c1 := (58, [some (.inr (.inr (some (13, 0)))), some (.inl nm_), some (.inl dm_), some (.inl mn), some (.inl k_), some (.inl j_), none, none], [.inl 8, .inl j_], S_)) rfl ?_
      refine sm_T_br (a := 3) (z := 29) rfl (fun cx1_ => ?_) (fun cx1_ => ?_)
      · have cx1_ : 8 ≤ j_ := of_decide_eq_true cx1_
        obtain ⟨xi_, l3_, k0_, pc_, cc_, G_, G1_, o_, v9_, z1_, z2_, z3_, z4_, z5_, z6_, z7_, z8_, z9_, za_, zb_, zc_⟩ := h1_
        have nn1_ := ac_nn hA_ hB_ hxx_ dM_ z1_ z2_
        simp only [List.length_cons] at nn1_
        obtain ⟨y1_, y2_, y3_, y4_, y5_, y6_, y7_⟩ := ac_st hA_ hB_ hxx_ dM_ z1_ z2_
        have y1b := y1_.2.1
        have y4b := y4_.2
        have hrow : imq (G1_.length ≤ 1001) (rwv (S_.2.2.1 152 0) (8 * p_cn (g_in B_ d_) k0_) v9_) := fun z_ k9_ q9_ e9_ => by (have kl_ : k9_ < v9_.length := by by_cases q_ : k9_ < v9_.length; exact q_; (rw [List.getElem?_eq_none (by omega)] at e9_; cases e9_)); (have q8_ := zb_ z_ k9_ q9_ e9_); (have q7_ := zc_ k9_ (by have := z7_.2; omega)); rw [Nat.zero_add] at q8_; rw [show 8 * p_cn (g_in B_ d_) k0_ + k9_ = 8 * k_.toNat + k9_ by omega, q7_, q8_]
        have up_ := aro_up z8_ y1_ (z7_.1.trans y3_) y4_.1 y7_ (fun z_ => Nat.le_trans z5_ z_) hrow
        have e16_ := ev_16 (i_ := xi_.2) z6_ hd1_.2.2.2 BM40_ (by omega) z7_.2
        have hT_ := ht_.2.1
        have bx2_ : 0 ≤ S_.1 13 0 9 ∧ S_.1 13 0 9 ≤ 1280 := hI_.1 13 0 9 rfl
        refine sm_T_go 6 (c1 := (96, [some (.inr (.inr (some (13, 0)))), some (.inl nm_), some (.inl dm_), some (.inl mn), some (.inl k_), some (.inl j_), none, none], [.inl 1, .inl mn, .inl k_, .inl (S_.1 13 0 9), .inr (.inr (some (13, 0)))], S_)) rfl ?_
        refine sm_T_bin (w := mn - 1) rfl (bi_sub (by omega) (by omega) (by omega)) ?_
        refine sm_T_br (a := 3) (z := 7) rfl (fun cx3_ => ?_) (fun cx3_ => ?_)
        · have cx3_ : mn - 1 ≤ k_ := of_decide_eq_true cx3_
          have l30_ : l3_ = [] := List.eq_nil_of_length_eq_zero (by omega)
          have w3_ := y5_ l30_
          refine sm_T_go 1 (c1 := (105, [some (.inr (.inr (some (13, 0)))), some (.inl nm_), some (.inl dm_), some (.inl mn), some (.inl k_), some (.inl j_), none, none], [.inl 0, .inl (S_.1 13 0 9), .inr (.inr (some (13, 0)))], S_)) rfl ?_
          refine sm_T_bin (w := (S_.1 13 0 9)) rfl (bi_add (by omega) (by omega) (by omega)) ?_
          have hIx4_ : gi (sm_pI S_ 13 0 9 (S_.1 13 0 9)) := gi_pI hI_ (show 0 ≤ (S_.1 13 0 9) ∧ (S_.1 13 0 9) ≤ 1280 from ⟨by omega, by omega⟩)
          have hFx5_ : ai_fr (sx_W vw_345) S0_ (sm_pI S_ 13 0 9 (S_.1 13 0 9)) := ai_fr_tr hF_ (ai_fr_pI rfl)
          refine sm_T_go 1 (c1 := (109, [some (.inr (.inr (some (13, 0)))), some (.inl nm_), some (.inl dm_), some (.inl mn), some (.inl k_), some (.inl j_), none, none], [], sm_pI S_ 13 0 9 (S_.1 13 0 9))) rfl ?_
          refine sm_T_inc (a := 4) (z := 1) (v := k_) (w := k_ + 1) rfl rfl (by omega) (by omega) (by omega) ?_
          refine sm_T_go 1 (c1 := (41, [some (.inr (.inr (some (13, 0)))), some (.inl nm_), some (.inl dm_), some (.inl mn), some (.inl (k_ + 1)), some (.inl j_), none, none], [], sm_pI S_ 13 0 9 (S_.1 13 0 9))) rfl ?_
          refine sm_T_wk [some (.inr (.inr (some (13, 0)))), some (.inl nm_), some (.inl dm_), some (.inl mn), some (.inl (k_ + 1)), none, none, none] (by exact ⟨rfl, rfl, rfl, rfl, rfl, trivial⟩) ?_
          refine ih_.1 dm_ mn (k_ + 1) (sm_pI S_ 13 0 9 (S_.1 13 0 9)) hIx4_ hFx5_ ⟨?_, ?_, ?_, trivial⟩ ?_
          · omega
          · exact miq_fr (w_ := ([(13, 9)], [], [])) hq_ (ai_fr_pI rfl) rfl rfl rfl rfl rfl rfl rfl rfl
          · first | (refine ⟨l3_, xi_.2 + 1, pq_, _, G1_, up1 o_ xi_.2 v9_, w3_, by omega, by omega, z4_, e16_, up_, rgl_fr (w_ := ([(13, 9)], [], [])) z9_ (ai_fr_pI rfl) rfl rfl rfl rfl rfl rfl, rp.1⟩) | (refine ⟨l3_, xi_.2 + 1, xi_.1.1, _, G1_, up1 o_ xi_.2 v9_, w3_, by omega, by omega, z4_, e16_, up_, rgl_fr (w_ := ([(13, 9)], [], [])) z9_ (ai_fr_pI rfl) rfl rfl rfl rfl rfl rfl, ⟨za_.1, ?_⟩⟩; obtain ⟨i8_, q1_, q2_⟩ := za_.2; exact ⟨i8_, by rw [rf_eq]; omega, q2_⟩)
          · omega
        · have cx3_ : ¬ (mn - 1 ≤ k_) := of_decide_eq_false cx3_
          obtain ⟨w1_, pq_, w2_, w3_⟩ := y6_ (by intro z_; rw [z_] at nn1_; simp only [List.length_nil] at nn1_; omega)
          have rp := rg_pp (x_ := S_.1 13 0 9 + 1) ht1_ za_ (by omega) w2_ rfl
          have rp2_ := rp.2
          refine sm_T_go 2 (c1 := (105, [some (.inr (.inr (some (13, 0)))), some (.inl nm_), some (.inl dm_), some (.inl mn), some (.inl k_), some (.inl j_), none, none], [.inl 1, .inl (S_.1 13 0 9), .inr (.inr (some (13, 0)))], S_)) rfl ?_
          refine sm_T_bin (w := (S_.1 13 0 9) + 1) rfl (bi_add (by omega) (by omega) (by omega)) ?_
          have hIx6_ : gi (sm_pI S_ 13 0 9 ((S_.1 13 0 9) + 1)) := gi_pI hI_ (show 0 ≤ (S_.1 13 0 9) + 1 ∧ (S_.1 13 0 9) + 1 ≤ 1280 from ⟨by omega, by omega⟩)
          have hFx7_ : ai_fr (sx_W vw_345) S0_ (sm_pI S_ 13 0 9 ((S_.1 13 0 9) + 1)) := ai_fr_tr hF_ (ai_fr_pI rfl)
          refine sm_T_go 1 (c1 := (109, [some (.inr (.inr (some (13, 0)))), some (.inl nm_), some (.inl dm_), some (.inl mn), some (.inl k_), some (.inl j_), none, none], [], sm_pI S_ 13 0 9 ((S_.1 13 0 9) + 1))) rfl ?_
          refine sm_T_inc (a := 4) (z := 1) (v := k_) (w := k_ + 1) rfl rfl (by omega) (by omega) (by omega) ?_
          refine sm_T_go 1 (c1 := (41, [some (.inr (.inr (some (13, 0)))), some (.inl nm_), some (.inl dm_), some (.inl mn), some (.inl (k_ + 1)), some (.inl j_), none, none], [], sm_pI S_ 13 0 9 ((S_.1 13 0 9) + 1))) rfl ?_
          refine sm_T_wk [some (.inr (.inr (some (13, 0)))), some (.inl nm_), some (.inl dm_), some (.inl mn), some (.inl (k_ + 1)), none, none, none] (by exact ⟨rfl, rfl, rfl, rfl, rfl, trivial⟩) ?_
          refine ih_.1 dm_ mn (k_ + 1) (sm_pI S_ 13 0 9 ((S_.1 13 0 9) + 1)) hIx6_ hFx7_ ⟨?_, ?_, ?_, trivial⟩ ?_
          · omega
          · exact miq_fr (w_ := ([(13, 9)], [], [])) hq_ (ai_fr_pI rfl) rfl rfl rfl rfl rfl rfl rfl rfl
          · first | (refine ⟨l3_, xi_.2 + 1, pq_, _, G1_, up1 o_ xi_.2 v9_, w3_, by omega, by omega, z4_, e16_, up_, rgl_fr (w_ := ([(13, 9)], [], [])) z9_ (ai_fr_pI rfl) rfl rfl rfl rfl rfl rfl, rp.1⟩) | (refine ⟨l3_, xi_.2 + 1, xi_.1.1, _, G1_, up1 o_ xi_.2 v9_, w3_, by omega, by omega, z4_, e16_, up_, rgl_fr (w_ := ([(13, 9)], [], [])) z9_ (ai_fr_pI rfl) rfl rfl rfl rfl rfl rfl, ⟨za_.1, ?_⟩⟩; obtain ⟨i8_, q1_, q2_⟩ := za_.2; exact ⟨i8_, by rw [rf_eq]; omega, q2_⟩)
          · omega
      · have cx1_ : ¬ (8 ≤ j_) := of_decide_eq_false cx1_
        refine sm_T_go 4 (c1 := (69, [some (.inr (.inr (some (13, 0)))), some (.inl nm_), some (.inl dm_), some (.inl mn), some (.inl k_), some (.inl j_), none, none], [.inl k_, .inl 8, .inr (.inr (some (152, 0)))], S_)) rfl ?_
        refine sm_T_bin (w := 8 * k_) rfl (bi_mul (by omega) (by omega) (by omega)) ?_
        refine sm_T_go 1 (c1 := (72, [some (.inr (.inr (some (13, 0)))), some (.inl nm_), some (.inl dm_), some (.inl mn), some (.inl k_), some (.inl j_), none, none], [.inl j_, .inl (8 * k_), .inr (.inr (some (152, 0)))], S_)) rfl ?_
        refine sm_T_bin (w := 8 * k_ + j_) rfl (bi_add (by omega) (by omega) (by omega)) ?_
        refine sm_T_go 3 (c1 := (79, [some (.inr (.inr (some (13, 0)))), some (.inl nm_), some (.inl dm_), some (.inl mn), some (.inl k_), some (.inl j_), none, none], [.inl j_, .inr (.inr (some (139, 0))), .inl (8 * k_ + j_), .inr (.inr (some (152, 0)))], S_)) rfl ?_
        refine sm_T_iald (n := 8192) rfl rfl (by omega) (by omega) ?_
        have bx8_ : 0 ≤ S_.2.2.1 139 0 j_.toNat ∧ S_.2.2.1 139 0 j_.toNat ≤ 2047 := hI_.2 139 0 _
        refine sm_T_iast (n := 320) rfl rfl (by omega) (by omega) ?_
        have hIx9_ : gi (sm_aI S_ 152 0 (8 * k_ + j_).toNat (S_.2.2.1 139 0 j_.toNat)) := gi_aI hI_ (show 0 ≤ (S_.2.2.1 139 0 j_.toNat) ∧ (S_.2.2.1 139 0 j_.toNat) ≤ 2047 from ⟨by omega, by omega⟩)
        have hFx10_ : ai_fr (sx_W vw_345) S0_ (sm_aI S_ 152 0 (8 * k_ + j_).toNat (S_.2.2.1 139 0 j_.toNat)) := ai_fr_tr hF_ (ai_fr_aI rfl)
        refine sm_T_inc (a := 5) (z := 1) (v := j_) (w := j_ + 1) rfl rfl (by omega) (by omega) (by omega) ?_
        refine sm_T_go 1 (c1 := (54, [some (.inr (.inr (some (13, 0)))), some (.inl nm_), some (.inl dm_), some (.inl mn), some (.inl k_), some (.inl (j_ + 1)), none, none], [], sm_aI S_ 152 0 (8 * k_ + j_).toNat (S_.2.2.1 139 0 j_.toNat))) rfl ?_
        refine ih_.2.1 dm_ mn k_ (j_ + 1) (sm_aI S_ 152 0 (8 * k_ + j_).toNat (S_.2.2.1 139 0 j_.toNat)) hIx9_ hFx10_ ⟨?_, ?_, ?_, trivial⟩ ?_
        · omega
        · exact miq_fr (w_ := ([], [152], [])) hq_ (ai_fr_aI rfl) rfl rfl rfl rfl rfl rfl rfl rfl
        · obtain ⟨xi_, l3_, k0_, pc_, cc_, G_, G1_, o_, v9_, z1_, z2_, z3_, z4_, z5_, z6_, z7_, z8_, z9_, za_, zb_, zc_⟩ := h1_
          refine ⟨xi_, l3_, k0_, pc_, cc_, G_, G1_, o_, v9_, z1_, z2_, z3_, z4_, z5_, z6_, z7_, aro_cg hB_ dM_ z8_ (fun i_ hi_ => by rw [rd_eq, if_neg (by omega)]), rgl_fr (w_ := ([], [152], [])) z9_ (ai_fr_aI rfl) rfl rfl rfl rfl rfl rfl, za_, zb_, fun i_ hi_ => ?_⟩
          rw [rd_ne (show (139 : Nat) ≠ 152 by decide)]
          by_cases w_ : i_ < j_.toNat
          · rw [rd_eq, if_neg (by omega)]; exact zc_ i_ w_
          · rw [rd_eq, if_pos (by omega), show i_ = j_.toNat by omega]
        · omega
    · rintro dm_ mn tk_ k5_ S_ hI_ hF_ ⟨h0_, hq_, h1_, -⟩ hm_
      have ht1_ := rtab_fr ht_ hF_ rfl rfl rfl rfl rfl
      have M15_ := hA_.1
      have dM_ := hd1_.1
      have B40_ := (hen_.1.2 d_ (by omega)).1
      have cb_ := p_cn_b (g_ := g_in B_ d_) (B_.1 d_)
      have hB_ := hen_.1
      have BM40_ := (hen_.1.2 M_ (Nat.le_refl _)).1
      refine sm_T_go 2 (c1 := (157, [some (.inr (.inr (some (13, 0)))), some (.inl nm_), some (.inl dm_), some (.inl mn), some (.inl tk_), some (.inl k5_), none, none], [.inl mn, .inl k5_], S_)) rfl ?_
      refine sm_T_br (a := 3) (z := 69) rfl (fun cx1_ => ?_) (fun cx1_ => ?_)
      · have cx1_ : mn ≤ k5_ := of_decide_eq_true cx1_
        refine sm_T_rv rfl ⟨_, _, rfl, rfl, hI_, hF_, ?_⟩
        obtain ⟨G_, o_, i9_, z1_, z2_, z3_, z4_, z5_, z6_, z7_, z8_⟩ := h1_
        have o8_ : ∀ s_, s_ < 40 → (o_ s_).length ≤ 8 := fun s_ hs_ => by by_cases w1_ : s_ < B_.1 d_; (by_cases w2_ : B_.2.2.1 (40 * d_ + s_) = 0; (have l1_ := z2_.1.1 s_ w1_ w2_ w1_; have l2_ := ((hB_.2 d_ (by omega)).2 s_ w1_).2.2.1; omega); (rw [z2_.1.2 s_ w1_ w2_]; simp)); (rw [z2_.2.1 s_ (by omega)]; simp)
        refine ⟨G_, o_, i9_, z1_, z2_.1, o8_, z2_.2.1, z3_, z4_, z7_, z8_, fun q_ => ⟨fun s_ hs_ => ?_, fun s_ o9_ hs_ => absurd hs_ (Nat.not_lt_zero _)⟩⟩
        by_cases w1_ : s_ < B_.1 d_
        · by_cases w2_ : B_.2.2.1 (40 * d_ + s_) = 0
          · have c1_ := cn_lt (g_ := g_in B_ d_) w1_ (by rw [g_in_0 hB_ (by omega) w1_]; exact decide_eq_true w2_)
            exact z6_ q_ s_ w1_ w2_ (by omega)
          · rw [z2_.1.2 s_ w1_ w2_]; intro k9_ z9_ e9_; simp at e9_
        · rw [z2_.2.1 s_ (by omega)]; intro k9_ z9_ e9_; simp at e9_
      · have cx1_ : ¬ (mn ≤ k5_) := of_decide_eq_false cx1_
        refine sm_T_go 4 (c1 := (165, [some (.inr (.inr (some (13, 0)))), some (.inl nm_), some (.inl dm_), some (.inl mn), some (.inl tk_), some (.inl k5_), none, none], [.inl k5_, .inl 1, .inl dm_, .inr (.inr (some (13, 0)))], S_)) rfl ?_
        refine sm_T_cal (d1 := 0) (Q1 := vq_304 dm_ 1 k5_ b_ n_ T_ B_ d_ S_) rfl rfl (by decide) (vc_304 dm_ 1 k5_ b_ n_ T_ B_ d_ S_ hI_ (by omega) (by exact re1_fr (hen_.2.2.2 d_ (by omega)) hF_ rfl rfl rfl rfl rfl rfl) (by exact B40_) (by omega)) (fun u_ Sx2_ px5_ => ?_)
        obtain ⟨rfl, vx7_, rfl, px5_⟩ := px5_
        obtain ⟨sx_, hv9_, sx1_, sx2_, sx3_⟩ : ∃ u_ : Nat, vx7_ = (u_ : Int) ∧ u_ < B_.1 d_ ∧ g_in B_ d_ u_ = true ∧ (p_cn (g_in B_ d_) u_ : Int) = k5_ := by rcases px5_ with z_ | z_; (exfalso; have z2_ : (p_cn (g_in B_ d_) (B_.1 d_) : Int) ≤ k5_ := z_.2; omega); exact z_
        have sx4_ : B_.2.2.1 (40 * d_ + sx_) = 0 := by rw [g_in_0 hB_ (by omega) sx1_] at sx2_; exact of_decide_eq_true sx2_
        refine sm_T_go 3 (c1 := (173, [some (.inr (.inr (some (13, 0)))), some (.inl nm_), some (.inl dm_), some (.inl mn), some (.inl tk_), some (.inl k5_), some (.inl vx7_), some (.inl 0)], [], S_)) rfl ?_
        refine ih_.2.2.2 dm_ mn tk_ k5_ vx7_ 0 S_ hI_ hF_ ⟨?_, ?_, ?_, ?_, trivial⟩ ?_
        · omega
        · exact hq_
        · rw [hv9_, Int.toNat_natCast]; exact ⟨sx2_, sx4_, sx3_, fun i_ hi_ => absurd hi_ (Nat.not_lt_zero _)⟩
        · exact h1_
        · omega
    · rintro dm_ mn tk_ k5_ s6_ k7_ S_ hI_ hF_ ⟨h0_, hq_, h3_, h1_, -⟩ hm_
      have ht1_ := rtab_fr ht_ hF_ rfl rfl rfl rfl rfl
      have M15_ := hA_.1
      have dM_ := hd1_.1
      have B40_ := (hen_.1.2 d_ (by omega)).1
      have cb_ := p_cn_b (g_ := g_in B_ d_) (B_.1 d_)
      have hB_ := hen_.1
      have BM40_ := (hen_.1.2 M_ (Nat.le_refl _)).1
      refine sm_T_go 2 (c1 := (177, [some (.inr (.inr (some (13, 0)))), some (.inl nm_), some (.inl dm_), some (.inl mn), some (.inl tk_), some (.inl k5_), some (.inl s6_), some (.inl k7_)], [.inl 8, .inl k7_], S_)) rfl ?_
      refine sm_T_br (a := 3) (z := 43) rfl (fun cx1_ => ?_) (fun cx1_ => ?_)
      · have cx1_ : 8 ≤ k7_ := of_decide_eq_true cx1_
        refine sm_T_inc (a := 5) (z := 1) (v := k5_) (w := k5_ + 1) rfl rfl (by omega) (by omega) (by omega) ?_
        refine sm_T_go 1 (c1 := (154, [some (.inr (.inr (some (13, 0)))), some (.inl nm_), some (.inl dm_), some (.inl mn), some (.inl tk_), some (.inl (k5_ + 1)), some (.inl s6_), some (.inl k7_)], [], S_)) rfl ?_
        refine sm_T_wk [some (.inr (.inr (some (13, 0)))), some (.inl nm_), some (.inl dm_), some (.inl mn), some (.inl tk_), some (.inl (k5_ + 1)), none, none] (by exact ⟨rfl, rfl, rfl, rfl, rfl, rfl, trivial⟩) ?_
        refine ih_.2.2.1 dm_ mn tk_ (k5_ + 1) S_ hI_ hF_ ⟨?_, ?_, ?_, trivial⟩ ?_
        · omega
        · exact hq_
        · obtain ⟨G_, o_, i9_, z1_, z2_, z3_, z4_, z5_, z6_, z7_, z8_⟩ := h1_
          refine ⟨G_, o_, i9_, z1_, z2_, z3_, z4_, z5_, fun q_ s_ hs_ h0s hl_ => ?_, z7_, z8_⟩
          by_cases w_ : (p_cn (g_in B_ d_) s_ : Int) < k5_
          · exact z6_ q_ s_ hs_ h0s w_
          · have g1_ : g_in B_ d_ s_ = true := by rw [g_in_0 hB_ (by omega) hs_]; exact decide_eq_true h0s
            have es_ : s_ = s6_.toNat := p_cn_u g1_ h3_.1 (by have := h3_.2.2.1; omega)
            have l1_ := z2_.1.1 s_ hs_ h0s hs_
            have l2_ := ((hB_.2 d_ (by omega)).2 s_ hs_).2.2.1
            intro k9_ q9_ e9_
            have kl_ : k9_ < (o_ s_).length := by by_cases q_ : k9_ < (o_ s_).length; exact q_; (rw [List.getElem?_eq_none (by omega)] at e9_; cases e9_)
            have w1_ := h3_.2.2.2 k9_ (by omega)
            have w2_ := z2_.2.2 q_ s_ hs_ hs_ h0s k9_ q9_ e9_
            rw [es_, w1_, ← w2_, es_]
            exact congrArg (S_.2.2.1 152 0) (by have := h3_.2.2.1; omega)
        · omega
      · have cx1_ : ¬ (8 ≤ k7_) := of_decide_eq_false cx1_
        have bx2_ : 0 ≤ S_.1 13 0 29 ∧ S_.1 13 0 29 ≤ 16 := hI_.1 13 0 29 rfl
        refine sm_T_go 6 (c1 := (192, [some (.inr (.inr (some (13, 0)))), some (.inl nm_), some (.inl dm_), some (.inl mn), some (.inl tk_), some (.inl k5_), some (.inl s6_), some (.inl k7_)], [.inl (S_.1 13 0 29), .inl 40, .inl 8, .inr (.inr (some (144, 0)))], S_)) rfl ?_
        refine sm_T_bin (w := 40 * (S_.1 13 0 29)) rfl (bi_mul (by omega) (by omega) (by omega)) ?_
        refine sm_T_go 1 (c1 := (195, [some (.inr (.inr (some (13, 0)))), some (.inl nm_), some (.inl dm_), some (.inl mn), some (.inl tk_), some (.inl k5_), some (.inl s6_), some (.inl k7_)], [.inl s6_, .inl (40 * (S_.1 13 0 29)), .inl 8, .inr (.inr (some (144, 0)))], S_)) rfl ?_
        refine sm_T_bin (w := 40 * (S_.1 13 0 29) + s6_) rfl (bi_add (by omega) (by omega) (by omega)) ?_
        refine sm_T_bin (w := 320 * (S_.1 13 0 29) + 8 * s6_) rfl (bi_mul (by omega) (by omega) (by omega)) ?_
        refine sm_T_go 1 (c1 := (199, [some (.inr (.inr (some (13, 0)))), some (.inl nm_), some (.inl dm_), some (.inl mn), some (.inl tk_), some (.inl k5_), some (.inl s6_), some (.inl k7_)], [.inl k7_, .inl (320 * (S_.1 13 0 29) + 8 * s6_), .inr (.inr (some (144, 0)))], S_)) rfl ?_
        refine sm_T_bin (w := 320 * (S_.1 13 0 29) + 8 * s6_ + k7_) rfl (bi_add (by omega) (by omega) (by omega)) ?_
        refine sm_T_go 4 (c1 := (208, [some (.inr (.inr (some (13, 0)))), some (.inl nm_), some (.inl dm_), some (.inl mn), some (.inl tk_), some (.inl k5_), some (.inl s6_), some (.inl k7_)], [.inl k5_, .inl 8, .inr (.inr (some (152, 0))), .inl (320 * (S_.1 13 0 29) + 8 * s6_ + k7_), .inr (.inr (some (144, 0)))], S_)) rfl ?_
        refine sm_T_bin (w := 8 * k5_) rfl (bi_mul (by omega) (by omega) (by omega)) ?_
        refine sm_T_go 1 (c1 := (211, [some (.inr (.inr (some (13, 0)))), some (.inl nm_), some (.inl dm_), some (.inl mn), some (.inl tk_), some (.inl k5_), some (.inl s6_), some (.inl k7_)], [.inl k7_, .inl (8 * k5_), .inr (.inr (some (152, 0))), .inl (320 * (S_.1 13 0 29) + 8 * s6_ + k7_), .inr (.inr (some (144, 0)))], S_)) rfl ?_
        refine sm_T_bin (w := 8 * k5_ + k7_) rfl (bi_add (by omega) (by omega) (by omega)) ?_
        refine sm_T_iald (n := 320) rfl rfl (by omega) (by omega) ?_
        have bx3_ : 0 ≤ S_.2.2.1 152 0 (8 * k5_ + k7_).toNat ∧ S_.2.2.1 152 0 (8 * k5_ + k7_).toNat ≤ 2047 := hI_.2 152 0 _
        refine sm_T_iast (n := 5120) rfl rfl (by omega) (by omega) ?_
        have hIx4_ : gi (sm_aI S_ 144 0 (320 * (S_.1 13 0 29) + 8 * s6_ + k7_).toNat (S_.2.2.1 152 0 (8 * k5_ + k7_).toNat)) := gi_aI hI_ (show 0 ≤ (S_.2.2.1 152 0 (8 * k5_ + k7_).toNat) ∧ (S_.2.2.1 152 0 (8 * k5_ + k7_).toNat) ≤ 2047 from ⟨by omega, by omega⟩)
        have hFx5_ : ai_fr (sx_W vw_345) S0_ (sm_aI S_ 144 0 (320 * (S_.1 13 0 29) + 8 * s6_ + k7_).toNat (S_.2.2.1 152 0 (8 * k5_ + k7_).toNat)) := ai_fr_tr hF_ (ai_fr_aI rfl)
        refine sm_T_inc (a := 7) (z := 1) (v := k7_) (w := k7_ + 1) rfl rfl (by omega) (by omega) (by omega) ?_
        refine sm_T_go 1 (c1 := (173, [some (.inr (.inr (some (13, 0)))), some (.inl nm_), some (.inl dm_), some (.inl mn), some (.inl tk_), some (.inl k5_), some (.inl s6_), some (.inl (k7_ + 1))], [], sm_aI S_ 144 0 (320 * (S_.1 13 0 29) + 8 * s6_ + k7_).toNat (S_.2.2.1 152 0 (8 * k5_ + k7_).toNat))) rfl ?_
        refine ih_.2.2.2 dm_ mn tk_ k5_ s6_ (k7_ + 1) (sm_aI S_ 144 0 (320 * (S_.1 13 0 29) + 8 * s6_ + k7_).toNat (S_.2.2.1 152 0 (8 * k5_ + k7_).toNat)) hIx4_ hFx5_ ⟨?_, ?_, ?_, ?_, trivial⟩ ?_
        · omega
        · exact hq_
        · refine ⟨h3_.1, h3_.2.1, h3_.2.2.1, fun i_ hi_ => ?_⟩
          rw [rd_ne (show (152 : Nat) ≠ 144 by decide)]
          by_cases w_ : i_ < k7_.toNat
          · rw [rd_eq, if_neg (by omega)]; exact h3_.2.2.2 i_ w_
          · rw [rd_eq, if_pos (by omega), show i_ = k7_.toNat by omega]; exact congrArg (S_.2.2.1 152 0) (by omega)
        · obtain ⟨G_, o_, i9_, z1_, z2_, z3_, z4_, z5_, z6_, z7_, z8_⟩ := h1_
          refine ⟨G_, o_, i9_, z1_, aro_cg hB_ dM_ z2_ (fun i_ _ => by rw [rd_ne (by decide)]), rgl_fr (w_ := ([], [144], [])) z3_ (ai_fr_aI rfl) rfl rfl rfl rfl rfl rfl, z4_, z5_, fun q_ s_ hs_ h0s hl_ => rwv_cg (z6_ q_ s_ hs_ h0s hl_) (fun k9_ hk9_ => ?_), mfr_fr (w_ := ([], [144], [])) z7_ (ai_fr_aI rfl) rfl rfl rfl rfl rfl rfl rfl rfl, fun j_ hj_ => by rw [rd_eq, if_neg (by omega)]; exact z8_ j_ hj_⟩
          have l1_ := z2_.1.1 s_ hs_ h0s hs_
          have l2_ := ((hB_.2 d_ (by omega)).2 s_ hs_).2.2.1
          have ne_ : s_ ≠ s6_.toNat := fun z_ => by rw [z_] at hl_; have := h3_.2.2.1; omega
          rw [rd_eq, if_neg (by omega)]
        · omega
set_option maxHeartbeats 2000000 in
set_option maxRecDepth 20000 in
theorem vc_345 {sc_ : Nat × (Nat → Int)} (nm_ : Int) (b_ : Nat → Int) (n_ : Nat) (T_ : Nat) (F_ : Nat) (I_ : Nat) (A_ : pA) (B_ : pA) (X_ : Nat → gQ → gE → Option (gQ × gE)) (M_ : Nat) (fr_ : Nat) (q0_ : gQ) (E_ : gE) (O_ : gO) (p_ : Nat) (d_ : Nat) (p1_ : Nat) (p2_ : Nat) (p3_ : Nat) (p4_ : Nat) (p5_ : Nat) (pe_ : Nat) (y_ : Nat) (l_ : List (pR × Nat)) (S0_ : sm_S) (hI_ : gi S0_) (ht_ : rtab b_ n_ T_ S0_) (hx_ : rg b_ n_ T_ (.inr p_) S0_) (hm1_ : (S0_.1 13 0 27) = 1) (hen_ : r_e1 b_ n_ T_ B_ M_ fr_ S0_) (hA_ : a_ok b_ n_ A_ M_) (hxx_ : a_ex A_ B_ M_) (hX_ : ∀ d_ q_ e_ z_, X_ d_ q_ e_ = some z_ → q_.1.length ≤ z_.1.1.length) (hte_ : ten B_ M_ (A_.1 M_) E_ O_) (hev_ : rev fr_ (A_.1 M_) E_ O_ (q0_.1.length ≤ 1001) S0_) (hg_ : rgl F_ q0_.1 S0_) (hd1_ : d_ < M_ ∧ fr_ + 1 ≤ 15 ∧ nm_ = (A_.1 M_ : Int) ∧ A_.1 M_ < B_.1 M_) (h5_ : B_.2.2.2.2 (40 * M_ + A_.1 M_) = (d_ : Int)) (ha1_ : p_ad b_ n_ p_ = .inr p1_) (hk1_ : lx_kd b_ n_ p_ ≠ 0 ∧ lx_kd b_ n_ p1_ ≠ 0 ∧ lx_kd b_ n_ p2_ ≠ 0) (ha2_ : p_ad b_ n_ p1_ = .inr p2_) (ha3_ : p_ad b_ n_ p2_ = .inr p3_) (h40_ : p_nd b_ n_ 40 p3_ = .inr p4_) (hu_ : uch b_ n_ A_ M_ d_ l_ 0 p4_ pe_) (h41_ : p_nd b_ n_ 41 pe_ = .inr p5_) (h59_ : p_nd b_ n_ 59 p5_ = .inr y_) (hE_ : E_ (A_.1 M_) = []) (hO_ : O_ (A_.1 M_) = none) (hfc_ : q0_.2.2 ≤ 200) (hE8_ : ∀ s_, s_ < 40 → (E_ s_).length ≤ 8) : sm_T (mt_P sc_) 9 345 (0, [some (.inr (.inr (some (13, 0)))), some (.inl nm_), none, none, none, none, none, none], [], S0_) (fun ro9_ => ∃ u_ S1_, ro9_ = (.inl u_, S1_, 0) ∧ vq_345 nm_ b_ n_ T_ F_ I_ A_ B_ X_ M_ fr_ q0_ E_ O_ p_ d_ p1_ p2_ p3_ p4_ p5_ pe_ y_ l_ S0_ u_ S1_) := by
  have hF_ : ai_fr (sx_W vw_345) S0_ S0_ := ai_fr_rf
  have n13_ : S0_.2.2.1 130 0 (40 * S0_.1 13 0 28 + nm_).toNat = (d_ : Int) := by rw [show (40 * S0_.1 13 0 28 + nm_).toNat = 40 * M_ + A_.1 M_ by have q9_ := hen_.2.1; have q8_ := hd1_.2.2.1; omega, ((hen_.2.2.2 M_ (Nat.le_refl _)).2 (A_.1 M_) hd1_.2.2.2).2.2.2.1]; exact h5_
  have M15_ := hA_.1
  have dM_ := hd1_.1
  have B40_ := (hen_.1.2 d_ (by omega)).1
  have BM40_ := (hen_.1.2 M_ (Nat.le_refl _)).1
  have rp3_ := rg_p3 (x_ := S0_.1 13 0 9 + 3) ht_ hx_ hk1_.1 ha1_ hk1_.2.1 ha2_ hk1_.2.2 ha3_ rfl
  have rp4_ := rp3_.2
  have hT_ := ht_.2.1
  have t3_ : rtab b_ n_ T_ (sm_pI S0_ 13 0 9 (S0_.1 13 0 9 + 3)) := rtab_fr (w_ := ([(13, 9)], [], [])) ht_ (ai_fr_pI rfl) rfl rfl rfl rfl rfl
  have bx1_ : 0 ≤ S0_.1 13 0 28 ∧ S0_.1 13 0 28 ≤ 15 := hI_.1 13 0 28 rfl
  refine sm_T_go 5 (c1 := (10, [some (.inr (.inr (some (13, 0)))), some (.inl nm_), none, none, none, none, none, none], [.inl (S0_.1 13 0 28), .inl 40, .inr (.inr (some (130, 0)))], S0_)) rfl ?_
  refine sm_T_bin (w := 40 * (S0_.1 13 0 28)) rfl (bi_mul (by omega) (by omega) (by omega)) ?_
  refine sm_T_go 1 (c1 := (12, [some (.inr (.inr (some (13, 0)))), some (.inl nm_), none, none, none, none, none, none], [.inl nm_, .inl (40 * (S0_.1 13 0 28)), .inr (.inr (some (130, 0)))], S0_)) rfl ?_
  refine sm_T_bin (w := 40 * (S0_.1 13 0 28) + nm_) rfl (bi_add (by omega) (by omega) (by omega)) ?_
  refine sm_T_iald (n := 640) rfl rfl (by omega) (by omega) ?_
  have bx2_ : 0 ≤ S0_.2.2.1 130 0 (40 * (S0_.1 13 0 28) + nm_).toNat ∧ S0_.2.2.1 130 0 (40 * (S0_.1 13 0 28) + nm_).toNat ≤ 2147483647 := hI_.2 130 0 _
  have bx3_ : 0 ≤ S0_.1 13 0 9 ∧ S0_.1 13 0 9 ≤ 1280 := hI_.1 13 0 9 rfl
  refine sm_T_go 5 (c1 := (21, [some (.inr (.inr (some (13, 0)))), some (.inl nm_), some (.inl (S0_.2.2.1 130 0 (40 * (S0_.1 13 0 28) + nm_).toNat)), none, none, none, none, none], [.inl 3, .inl (S0_.1 13 0 9), .inr (.inr (some (13, 0)))], S0_)) rfl ?_
  refine sm_T_bin (w := (S0_.1 13 0 9) + 3) rfl (bi_add (by omega) (by omega) (by omega)) ?_
  have hIx4_ : gi (sm_pI S0_ 13 0 9 ((S0_.1 13 0 9) + 3)) := gi_pI hI_ (show 0 ≤ (S0_.1 13 0 9) + 3 ∧ (S0_.1 13 0 9) + 3 ≤ 1280 from ⟨by omega, by omega⟩)
  have hFx5_ : ai_fr (sx_W vw_345) S0_ (sm_pI S0_ 13 0 9 ((S0_.1 13 0 9) + 3)) := ai_fr_tr hF_ (ai_fr_pI rfl)
  refine sm_T_go 4 (c1 := (28, [some (.inr (.inr (some (13, 0)))), some (.inl nm_), some (.inl (S0_.2.2.1 130 0 (40 * (S0_.1 13 0 28) + nm_).toNat)), none, none, none, none, none], [.inl 1, .inl (S0_.2.2.1 130 0 (40 * (S0_.1 13 0 28) + nm_).toNat), .inr (.inr (some (13, 0)))], sm_pI S0_ 13 0 9 ((S0_.1 13 0 9) + 3))) rfl ?_
  refine sm_T_cal (d1 := 0) (Q1 := vq_305 (S0_.2.2.1 130 0 (40 * (S0_.1 13 0 28) + nm_).toNat) 1 b_ n_ T_ B_ d_ (sm_pI S0_ 13 0 9 ((S0_.1 13 0 9) + 3))) rfl rfl (by decide) (vc_305 (S0_.2.2.1 130 0 (40 * (S0_.1 13 0 28) + nm_).toNat) 1 b_ n_ T_ B_ d_ (sm_pI S0_ 13 0 9 ((S0_.1 13 0 9) + 3)) hIx4_ (by exact ⟨n13_, by omega⟩) (by exact hen_.2.2.2 d_ (by omega)) (by exact B40_)) (fun u_ Sx6_ px9_ => ?_)
  obtain ⟨rfl, vx11_, rfl, px9_⟩ := px9_
  have e28_ : vx11_ = (p_cn (g_in B_ d_) (B_.1 d_) : Int) := px9_
  refine sm_T_go 3 (c1 := (35, [some (.inr (.inr (some (13, 0)))), some (.inl nm_), some (.inl (S0_.2.2.1 130 0 (40 * (S0_.1 13 0 28) + nm_).toNat)), some (.inl vx11_), none, none, none, none], [.inl 40, .inr (.inr (some (13, 0)))], sm_pI S0_ 13 0 9 ((S0_.1 13 0 9) + 3))) rfl ?_
  refine sm_T_cal (d1 := 3) (Q1 := vq_300 40 b_ n_ T_ (.inr p3_) (sm_pI S0_ 13 0 9 ((S0_.1 13 0 9) + 3))) rfl rfl (by decide) (vc_300 40 b_ n_ T_ (.inr p3_) (sm_pI S0_ 13 0 9 ((S0_.1 13 0 9) + 3)) hIx4_ (by exact t3_) (by exact rp3_.1) (by decide)) (fun u_ Sx12_ px15_ => ?_)
  obtain ⟨rfl, hIx13_, hFx14_, px15_⟩ := px15_
  have hFx16_ : ai_fr (sx_W vw_345) S0_ Sx12_ := ai_fr_tr hFx5_ (fr_le hFx14_ rfl)
  have g35_ := px15_
  rw [pb_r rfl, h40_] at g35_
  have r35_ := rgl_fr (w_ := vw_300) (rgl_fr (w_ := ([(13, 9)], [], [])) hg_ (ai_fr_pI rfl) rfl rfl rfl rfl rfl rfl) hFx14_ rfl rfl rfl rfl rfl rfl
  have q35_ := miq_fr (S_ := (sm_pI S0_ 13 0 9 ((S0_.1 13 0 9) + 3))) (miq_fr (w_ := ([(13, 9)], [], [])) (miq_rf (fr_ := fr_)) (ai_fr_pI rfl) rfl rfl rfl rfl rfl rfl rfl rfl) hFx14_ rfl rfl rfl rfl rfl rfl rfl rfl
  refine sm_T_go 2 (c1 := (41, [some (.inr (.inr (some (13, 0)))), some (.inl nm_), some (.inl (S0_.2.2.1 130 0 (40 * (S0_.1 13 0 28) + nm_).toNat)), some (.inl vx11_), some (.inl 0), none, none, none], [], Sx12_)) rfl ?_
  refine (vl_345 nm_ b_ n_ T_ F_ I_ A_ B_ X_ M_ fr_ q0_ E_ O_ p_ d_ p1_ p2_ p3_ p4_ p5_ pe_ y_ l_ S0_ ht_ hx_ hm1_ hen_ hA_ hxx_ hX_ hte_ hev_ hg_ hd1_ h5_ ha1_ hk1_ ha2_ ha3_ h40_ hu_ h41_ h59_ hE_ hO_ hfc_ hE8_ _).1 (S0_.2.2.1 130 0 (40 * (S0_.1 13 0 28) + nm_).toNat) vx11_ 0 Sx12_ hIx13_ hFx16_ ⟨?_, ?_, ?_, trivial⟩ (Nat.lt_succ_self _)
  · exact ⟨n13_, e28_, by decide⟩
  · exact q35_
  · refine ⟨l_, 0, p4_, [cw 15 (A_.1 M_ : Int) 0], q0_.1, fun _ => [], hu_, Nat.zero_le _, rfl, rfl, ev_15 (fc_ := 0) hd1_.2.2.2 BM40_ hE_ hO_ hfc_, aro_0, r35_, g35_⟩
end
/-! 99.zf4 -/
section
/-! items and what they come to; written by wip/p55/gen/vg -/

/-! items: what is_ there, what it_ comes to_ -/
section MK_
variable {b_ : Nat → Int} {n_ F_ I_ M_ : Nat} {A_ B_ : pA} {N_ : Nat → Nat} {X_ : Nat → gQ → gE → Option (gQ × gE)}
theorem ev_pre {k_ c_ : List Int} {s0_ r_ : gS} (h_ : ev F_ I_ B_ X_ M_ s0_ (k_ ++ c_) = some r_) : ∃ s_, ev F_ I_ B_ X_ M_ s0_ c_ = some s_ ∧ ev F_ I_ B_ X_ M_ s_ k_ = some r_ := by
  cases e_ : ev F_ I_ B_ X_ M_ s0_ c_ with
  | some s_ =>
    rw [ev_a e_] at h_
    exact ⟨s_, rfl, h_⟩
  | none =>
    exfalso
    unfold ev at h_ e_
    rw [List.reverse_append, ec_ap, e_] at h_
    cases h_
theorem ev_cw {w_ : Int} {c_ : List Int} {s0_ r_ : gS} (h_ : ev F_ I_ B_ X_ M_ s0_ (w_ :: c_) = some r_) : ∃ s_, ev F_ I_ B_ X_ M_ s0_ c_ = some s_ ∧ ew F_ I_ B_ X_ M_ w_ s_ = some r_ := by
  obtain ⟨s_, h1_, h2_⟩ := ev_pre (k_ := [w_]) h_
  refine ⟨s_, h1_, ?_⟩
  rw [← ev_c ev_n]
  exact h2_
theorem nxs_s {s_ : Int} {p_ q_ u_ f_ : Nat} (h1_ : lx_kd b_ n_ p_ ≠ s_) (h2_ : lx_kd b_ n_ p_ ≠ 0) (h3_ : p_ad b_ n_ p_ = .inr q_) (h4_ : nxs b_ n_ s_ f_ q_ u_) : nxs b_ n_ s_ (f_ + 1) p_ u_ := ⟨h1_, h2_, q_, h3_, h4_⟩
theorem wi_nx {s_ : Int} {p_ w_ f_ : Nat} {u_ : Nat × Int} (h_ : p_wi b_ n_ p_ = .inr u_) (hs_ : s_ ≠ 58 ∧ s_ ≠ 2) (g_ : nxs b_ n_ s_ f_ u_.1 w_) : ∃ f'_, nxs b_ n_ s_ f'_ p_ w_ := by
  unfold p_wi at h_
  by_cases k_ : lx_kd b_ n_ p_ = 58
  · rw [if_pos k_] at h_
    obtain ⟨q_, h1_, h2_⟩ := pb_inr h_
    obtain ⟨x_, h3_, h4_⟩ := pb_inr h2_
    obtain ⟨r_, h5_, h6_⟩ := pb_inr h4_
    cases h6_
    have k2_ := (p_nu_ok h3_).1
    exact ⟨_, nxs_s (by omega) (by omega) h1_ (nxs_s (by omega) (by omega) h5_ g_)⟩
  · rw [if_neg k_] at h_
    cases h_
    exact ⟨f_, g_⟩
theorem rb_nx {s_ wd_ : Int} {p_ w_ f_ : Nat} {u_ : Nat × Int} (h_ : p_rb b_ n_ wd_ p_ = .inr u_) (hs_ : s_ ≠ 61 ∧ s_ ≠ 2) (g_ : nxs b_ n_ s_ f_ u_.1 w_) : ∃ f'_, nxs b_ n_ s_ f'_ p_ w_ := by
  unfold p_rb at h_
  by_cases k_ : lx_kd b_ n_ p_ = 61
  · rw [if_pos k_] at h_
    obtain ⟨q_, h1_, h2_⟩ := pb_inr h_
    obtain ⟨x_, h3_, h4_⟩ := pb_inr h2_
    obtain ⟨r_, h5_, h6_⟩ := pb_inr h4_
    cases h6_
    have k2_ := (p_nu_ok h3_).1
    exact ⟨_, nxs_s (by omega) (by omega) h1_ (nxs_s (by omega) (by omega) h5_ g_)⟩
  · rw [if_neg k_] at h_
    cases h_
    exact ⟨f_, g_⟩
theorem nd_r {w_ : Int} {p_ q_ : Nat} (h_ : p_nd b_ n_ w_ p_ = .inr q_) : lx_kd b_ n_ p_ = w_ ∧ p_ad b_ n_ p_ = .inr q_ := by
  unfold p_nd at h_
  by_cases k_ : lx_kd b_ n_ p_ = w_
  · rw [if_pos k_] at h_
    exact ⟨k_, h_⟩
  · rw [if_neg k_] at h_
    cases h_
theorem m_st13 {a_ : Nat} {d_ : Int} {q_ q1_ : gQ} {E_ E1_ : gE} {O_ O1_ : gO} {V_ V1_ : gV} (h_ : e_st I_ B_ M_ 13 a_ d_ (q_, E_, O_, V_) = some (q1_, E1_, O1_, V1_)) : a_ < B_.1 M_ ∧ (1 ≤ B_.2.2.2.1 (40 * M_ + a_) ∧ B_.2.2.2.1 (40 * M_ + a_) ≤ 8) ∧ q_.2.1 + (B_.2.2.2.1 (40 * M_ + a_)).toNat ≤ 6 ∧ q1_ = (q_.1, q_.2.1 + (B_.2.2.2.1 (40 * M_ + a_)).toNat, q_.2.2) ∧ E1_ = up1 E_ a_ (r_bt I_ q_.2.1 (B_.2.2.2.1 (40 * M_ + a_)).toNat) ∧ O1_ = O_ ∧ V1_ = V_ := by
  unfold e_st at h_
  by_cases g_ : B_.1 M_ ≤ a_
  · rw [if_pos g_] at h_; cases h_
  · rw [if_neg g_, if_neg (by decide), if_pos rfl] at h_
    by_cases g2_ : O_ a_ = none ∧ 1 ≤ B_.2.2.2.1 (40 * M_ + a_) ∧ B_.2.2.2.1 (40 * M_ + a_) ≤ 8 ∧ q_.2.1 + (B_.2.2.2.1 (40 * M_ + a_)).toNat ≤ 6
    · have h_ := (if_pos g2_).symm.trans h_
      cases h_
      exact ⟨by omega, ⟨g2_.2.1, g2_.2.2.1⟩, g2_.2.2.2, rfl, rfl, rfl, rfl⟩
    · have h_ := (if_neg g2_).symm.trans h_
      cases h_
theorem m_st14 {a_ : Nat} {d_ : Int} {q_ q1_ : gQ} {E_ E1_ : gE} {O_ O1_ : gO} {V_ V1_ : gV} (h_ : e_st I_ B_ M_ 14 a_ d_ (q_, E_, O_, V_) = some (q1_, E1_, O1_, V1_)) : q1_ = q_ ∧ E1_ = E_ ∧ O1_ = O_ ∧ V1_ = V_.tail := by
  unfold e_st at h_
  by_cases g_ : B_.1 M_ ≤ a_
  · rw [if_pos g_] at h_; cases h_
  · rw [if_neg g_, if_neg (by decide), if_neg (by decide)] at h_
    cases V_ with
    | nil => cases h_
    | cons x_ l_ =>
      have h_ : (if (14 : Int) = 12 then (if O_ a_ = none ∧ x_.length ≤ 8 then some (q_, up1 E_ a_ x_, O_, l_) else none) else _) = some (q1_, E1_, O1_, V1_) := h_
      rw [if_neg (by decide), if_pos rfl] at h_
      split at h_
      · cases h_
      · split at h_
        · cases h_
          exact ⟨rfl, rfl, rfl, rfl⟩
        · cases h_
theorem m_st15 {a_ : Nat} {d_ : Int} {q_ : gQ} {E_ : gE} {O_ : gO} {V_ : gV} {r_ : gS} (h_ : e_st I_ B_ M_ 15 a_ d_ (q_, E_, O_, V_) = some r_) : q_.2.2 ≤ 200 := by
  unfold e_st at h_
  by_cases g_ : B_.1 M_ ≤ a_
  · rw [if_pos g_] at h_; cases h_
  · rw [if_neg g_, if_pos rfl] at h_
    by_cases g2_ : q_.2.2 ≤ 200 ∧ E_ a_ = [] ∧ O_ a_ = none
    · exact g2_.1
    · have h_ := (if_neg g2_).symm.trans h_
      cases h_
theorem ew_i {k_ a_ d_ : Int} {s_ r_ : gS} (hk_ : 12 ≤ k_ ∧ k_ ≤ 16) (ha_ : 0 ≤ a_ ∧ a_ < 64) (h_ : ew F_ I_ B_ X_ M_ (cw k_ a_ d_) s_ = some r_) : e_st I_ B_ M_ k_ a_.toNat d_ s_ = some r_ := by
  obtain ⟨e1_, e2_, e3_⟩ := cw_d (k_ := k_) (a_ := a_) (d_ := d_) (by omega) ha_
  have w_ := ew_s h_ (by omega) (by omega)
  rw [e1_, e2_, e3_] at w_
  exact w_
theorem acd_ap {K_ : Nat} : ∀ (l_ : List (pR × Nat)) (c_ : List Int), ∃ k_, acd K_ l_ c_ = k_ ++ c_ ∧ ∀ c'_, acd K_ l_ c'_ = k_ ++ c'_
  | [], c_ => ⟨[], rfl, fun _ => rfl⟩
  | xi_ :: l_, c_ => by
    obtain ⟨k_, h1_, h2_⟩ := acd_ap l_ (cw 16 (K_ : Int) (xi_.2 : Int) :: (xi_.1.2.2 ++ c_))
    refine ⟨k_ ++ (cw 16 (K_ : Int) (xi_.2 : Int) :: xi_.1.2.2), ?_, fun c'_ => ?_⟩
    · show acd K_ l_ _ = _
      rw [h1_]
      simp
    · show acd K_ l_ _ = _
      rw [h2_]
      simp
variable {p_ : Nat} {rr_ : pT} {c_ kk_ : List Int} {q0_ q1_ : gQ} {E_ E1_ : gE} {O_ O1_ : gO} {V1_ : gV}
theorem mk_in (hit_ : p_it b_ n_ A_ N_ M_ c_ p_ = some (.inr rr_)) (hkd_ : lx_kd b_ n_ p_ = 4) (hkk_ : rr_.2.1 = kk_ ++ c_) (hxr_ : a_ex rr_.1 B_ M_) (hev_ : ev F_ I_ B_ X_ M_ (q0_, E_, O_, []) kk_ = some (q1_, E1_, O1_, V1_)) (hts_ : tst B_ I_ M_ (A_.1 M_) E_ O_) : ∃ uu_ f_, nxs b_ n_ 59 f_ p_ uu_ ∧ p_ad b_ n_ uu_ = .inr rr_.2.2 ∧ q1_ = q0_ ∧ E1_ = E_ ∧ O1_ = O_ ∧ tst B_ I_ M_ (rr_.1.1 M_) E_ O_ ∧ rr_.1.1 M_ = A_.1 M_ + 1 ∧ V1_ = [] := by
  unfold p_it at hit_
  rw [if_pos hkd_] at hit_
  obtain ⟨q_, r1_, u_, y_, h1_, h2_, h3_, h4_, h5_⟩ := in_r (Option.some.inj hit_)
  subst h5_
  have k0_ : kk_ = [] := by
    have hkk_ : c_ = kk_ ++ c_ := hkk_
    have e_ := congrArg List.length hkk_
    rw [List.length_append] at e_
    exact List.eq_nil_of_length_eq_zero (by omega)
  subst k0_
  rw [ev_n] at hev_
  cases hev_
  obtain ⟨n1_, n2_⟩ := nd_r h4_
  obtain ⟨a1_, a2_, a3_⟩ := p_nn_ok h2_
  obtain ⟨f1_, g1_⟩ := wi_nx (s_ := 59) (f_ := 0) h3_ (by decide) ⟨rfl, n1_⟩
  obtain ⟨x1_, x2_, x3_, x4_⟩ := te_ex hxr_
  refine ⟨u_.1, _, nxs_s (by omega) (by omega) h1_ (nxs_s (by omega) (by omega) a3_ g1_), n2_, rfl, rfl, rfl, ?_, te_f.1, rfl⟩
  show tst B_ I_ M_ ((a_te A_ M_ q_ 0 u_.2 0).1 M_) E_ O_
  rw [te_f.1]
  exact tst_in hts_ x1_ (by rcases x4_ with z_ | z_; exact z_; (exact absurd z_.1 (by decide)))
theorem mk_re (hit_ : p_it b_ n_ A_ N_ M_ c_ p_ = some (.inr rr_)) (hkd_ : lx_kd b_ n_ p_ = 7) (hB_ : a_ok b_ n_ B_ M_) (hkk_ : rr_.2.1 = kk_ ++ c_) (hxr_ : a_ex rr_.1 B_ M_) (hev_ : ev F_ I_ B_ X_ M_ (q0_, E_, O_, []) kk_ = some (q1_, E1_, O1_, V1_)) (hts_ : tst B_ I_ M_ (A_.1 M_) E_ O_) : ∃ uu_ f_ wd_ : Nat, nxs b_ n_ 59 f_ p_ uu_ ∧ p_ad b_ n_ uu_ = .inr rr_.2.2 ∧ A_.1 M_ < B_.1 M_ ∧ (B_.2.2.2.1 (40 * M_ + A_.1 M_) = (wd_ : Int) ∧ 1 ≤ wd_ ∧ wd_ ≤ 8) ∧ q0_.2.1 + wd_ ≤ 6 ∧ q1_ = (q0_.1, q0_.2.1 + wd_, q0_.2.2) ∧ E1_ = up1 E_ (A_.1 M_) (r_bt I_ q0_.2.1 wd_) ∧ O1_ = O_ ∧ tst B_ I_ M_ (rr_.1.1 M_) E1_ O_ ∧ rr_.1.1 M_ = A_.1 M_ + 1 ∧ V1_ = [] := by
  unfold p_it at hit_
  rw [if_neg (by omega), if_neg (by omega), if_neg (by omega), if_pos hkd_] at hit_
  obtain ⟨q_, r1_, u_, z_, y_, h1_, h2_, h3_, h4_, h5_, h6_⟩ := re_r (Option.some.inj hit_)
  subst h6_
  have k0_ : kk_ = [cw 13 (A_.1 M_ : Int) 0] := by
    have hkk_ : [cw 13 (A_.1 M_ : Int) 0] ++ c_ = kk_ ++ c_ := hkk_
    exact (List.append_cancel_right hkk_).symm
  subst k0_
  obtain ⟨n1_, n2_⟩ := nd_r h5_
  obtain ⟨a1_, a2_, a3_⟩ := p_nn_ok h2_
  obtain ⟨f1_, g1_⟩ := rb_nx (s_ := 59) (f_ := 0) h4_ (by decide) ⟨rfl, n1_⟩
  obtain ⟨f2_, g2_⟩ := wi_nx (s_ := 59) h3_ (by decide) g1_
  obtain ⟨x1_, x2_, x3_, x4_⟩ := te_ex hxr_
  have B40_ := (hB_.2 M_ (Nat.le_refl _)).1
  obtain ⟨s_, w1_, w2_⟩ := ev_cw hev_
  rw [ev_n] at w1_
  cases w1_
  have w3_ := ew_i (by decide) (by omega) w2_
  rw [Int.toNat_natCast] at w3_
  obtain ⟨y1_, y2_, y3_, y4_, y5_, y6_, y7_⟩ := m_st13 w3_
  refine ⟨z_.1, _, (B_.2.2.2.1 (40 * M_ + A_.1 M_)).toNat, nxs_s (by omega) (by omega) h1_ (nxs_s (by omega) (by omega) a3_ g2_), n2_, x1_, by omega, y3_, y4_, y5_, y6_, ?_, te_f.1, y7_⟩
  show tst B_ I_ M_ ((a_te A_ M_ q_ 3 u_.2 z_.2).1 M_) E1_ O_
  rw [te_f.1, y5_]
  exact tst_up hts_ x1_ (by rcases x4_ with z_ | z_ <;> omega) (by rw [r_bt_l]; omega) (fun _ => ⟨q0_.2.1, rfl, y3_⟩)
theorem mk_us (hit_ : p_it b_ n_ A_ N_ M_ c_ p_ = some (.inr rr_)) (hkd_ : lx_kd b_ n_ p_ = 8) (hB_ : a_ok b_ n_ B_ M_) (hkk_ : rr_.2.1 = kk_ ++ c_) (hxr_ : a_ex rr_.1 B_ M_) (hev_ : ev F_ I_ B_ X_ M_ (q0_, E_, O_, []) kk_ = some (q1_, E1_, O1_, V1_)) (hts_ : tst B_ I_ M_ (A_.1 M_) E_ O_) : ∃ (d_ p1_ p2_ p3_ p4_ p5_ pe_ : Nat) (l_ : List (pR × Nat)), d_ < M_ ∧ A_.1 M_ < B_.1 M_ ∧ B_.2.2.2.2 (40 * M_ + A_.1 M_) = (d_ : Int) ∧ B_.2.2.1 (40 * M_ + A_.1 M_) = 5 ∧ p_ad b_ n_ p_ = .inr p1_ ∧ (lx_kd b_ n_ p_ ≠ 0 ∧ lx_kd b_ n_ p1_ ≠ 0 ∧ lx_kd b_ n_ p2_ ≠ 0) ∧ p_ad b_ n_ p1_ = .inr p2_ ∧ p_ad b_ n_ p2_ = .inr p3_ ∧ p_nd b_ n_ 40 p3_ = .inr p4_ ∧ uch b_ n_ A_ M_ d_ l_ 0 p4_ pe_ ∧ p_nd b_ n_ 41 pe_ = .inr p5_ ∧ p_nd b_ n_ 59 p5_ = .inr rr_.2.2 ∧ E_ (A_.1 M_) = [] ∧ O_ (A_.1 M_) = none ∧ q0_.2.2 ≤ 200 ∧ kk_ = cw 17 (A_.1 M_ : Int) (d_ : Int) :: acd (A_.1 M_) l_ [cw 15 (A_.1 M_ : Int) 0] ∧ rr_.1.1 M_ = A_.1 M_ + 1 := by
  unfold p_it at hit_
  rw [if_neg (by omega), if_neg (by omega), if_neg (by omega), if_neg (by omega), if_pos hkd_] at hit_
  obtain ⟨q_, r1_, d_, u_, v_, x_, y_, h1_, h2_, h3_, h4_, h5_, h6_, h7_, h8_, h9_, h10_⟩ := us_r (Option.some.inj hit_)
  subst h10_
  obtain ⟨l_, pe_, u1_, u2_, u3_, u4_⟩ := ua_ac h8_
  obtain ⟨a1_, a2_, a3_⟩ := p_nn_ok h2_
  obtain ⟨x1_, x2_, x3_, x4_⟩ := te_ex hxr_
  have B40_ := (hB_.2 M_ (Nat.le_refl _)).1
  have x4_ : B_.2.2.1 (40 * M_ + A_.1 M_) = 5 := by rcases x4_ with z_ | z_; exact z_; (exact absurd z_.1 (by decide))
  obtain ⟨ka_, ka1_, ka2_⟩ := acd_ap (K_ := A_.1 M_) l_ (cw 15 (A_.1 M_ : Int) 0 :: c_)
  have k0_ : kk_ = cw 17 (A_.1 M_ : Int) (d_ : Int) :: acd (A_.1 M_) l_ [cw 15 (A_.1 M_ : Int) 0] := by
    have hkk_ : cw 17 (A_.1 M_ : Int) (d_ : Int) :: x_.1 = kk_ ++ c_ := hkk_
    rw [u2_, ka1_, show cw 17 (A_.1 M_ : Int) (d_ : Int) :: (ka_ ++ cw 15 (A_.1 M_ : Int) 0 :: c_) = (cw 17 (A_.1 M_ : Int) (d_ : Int) :: (ka_ ++ [cw 15 (A_.1 M_ : Int) 0])) ++ c_ by simp] at hkk_
    rw [ka2_]
    exact (List.append_cancel_right hkk_).symm
  have t3_ := hts_.2.2.1 (A_.1 M_) (Nat.le_refl _) x1_ (by omega)
  have f200_ : q0_.2.2 ≤ 200 := by
    rw [k0_, ka2_, show cw 17 (A_.1 M_ : Int) (d_ : Int) :: (ka_ ++ [cw 15 (A_.1 M_ : Int) 0]) = (cw 17 (A_.1 M_ : Int) (d_ : Int) :: ka_) ++ [cw 15 (A_.1 M_ : Int) 0] by simp] at hev_
    obtain ⟨s_, w1_, -⟩ := ev_pre hev_
    obtain ⟨s2_, w2_, w3_⟩ := ev_cw w1_
    rw [ev_n] at w2_
    cases w2_
    exact m_st15 (ew_i (by decide) (by omega) w3_)
  refine ⟨d_, q_, r1_, u_, v_, x_.2, pe_, l_, h5_, x1_, x3_, x4_, h1_, ⟨by omega, by omega, by omega⟩, a3_, h6_, h7_, u1_, ?_, h9_, t3_.1, t3_.2, f200_, k0_, te_f.1⟩
  unfold p_nd
  rw [if_pos u3_]
  exact u4_
end MK_
/-- the_ row_ of_ a_ name that has_ just got_ its_ value -/
theorem rev_k {fr_ K_ : Nat} {E_ : gE} {O_ : gO} {v_ : List Int} {ok_ ok'_ : Prop} {S_ S'_ : sm_S} (h_ : rev fr_ K_ E_ O_ ok_ S_) (hok_ : ok'_ → ok_) (hK_ : K_ < 40) (hE_ : ∀ s_, s_ < 40 → (E_ s_).length ≤ 8) (hO_ : O_ K_ = none) (e1_ : ∀ j_, j_ < 8 * (40 * fr_ + K_) ∨ 8 * (40 * fr_ + K_) + 8 ≤ j_ → S'_.2.2.1 144 0 j_ = S_.2.2.1 144 0 j_) (e2_ : S'_.2.2.1 145 0 = S_.2.2.1 145 0) (hv_ : ok'_ → rwv (S'_.2.2.1 144 0) (8 * (40 * fr_ + K_)) v_) : rev fr_ (K_ + 1) (up1 E_ K_ v_) O_ ok'_ S'_ := by
  intro q_
  obtain ⟨h1_, h2_⟩ := h_ (hok_ q_)
  refine ⟨fun s_ hs_ => ?_, fun s_ o_ hs_ e_ o1_ ho1_ => ?_⟩
  · unfold up1
    by_cases z_ : s_ = K_
    · rw [if_pos z_, z_]
      exact hv_ q_
    · rw [if_neg z_]
      have l1_ := hE_ s_ hs_
      exact rwv_cg (h1_ s_ hs_) (fun k9_ hk9_ => e1_ _ (by omega))
  · rw [e2_]
    by_cases z_ : s_ = K_
    · rw [z_, hO_] at e_
      cases e_
    · exact h2_ s_ o_ (by omega) e_ o1_ ho1_
theorem rev_i {fr_ K_ : Nat} {E_ : gE} {O_ : gO} {ok_ ok'_ : Prop} {S_ : sm_S} (h_ : rev fr_ K_ E_ O_ ok_ S_) (hok_ : ok'_ → ok_) (hO_ : O_ K_ = none) : rev fr_ (K_ + 1) E_ O_ ok'_ S_ := by
  intro q_
  obtain ⟨h1_, h2_⟩ := h_ (hok_ q_)
  refine ⟨h1_, fun s_ o_ hs_ e_ o1_ ho1_ => ?_⟩
  by_cases z_ : s_ = K_
  · rw [z_, hO_] at e_
    cases e_
  · exact h2_ s_ o_ (by omega) e_ o1_ ho1_
theorem rev_m {fr_ K_ : Nat} {E_ : gE} {O_ : gO} {ok_ ok'_ : Prop} {S_ : sm_S} (h_ : rev fr_ K_ E_ O_ ok_ S_) (hok_ : ok'_ → ok_) : rev fr_ K_ E_ O_ ok'_ S_ := fun q_ => h_ (hok_ q_)
theorem up_8 {E_ : gE} {K_ : Nat} {v_ : List Int} (hE_ : ∀ s_, s_ < 40 → (E_ s_).length ≤ 8) (hv_ : v_.length ≤ 8) : ∀ s_, s_ < 40 → ((up1 E_ K_ v_) s_).length ≤ 8 := by
  intro s_ hs_
  unfold up1
  by_cases z_ : s_ = K_
  · rw [if_pos z_]; exact hv_
  · rw [if_neg z_]; exact hE_ s_ hs_
end
/-! 99.zf5a -/
section
/-! the reference: items, second pass; written by wip/p55/gen/vg -/

/-! items, second pass -/
theorem up_B {E_ : gE} {K_ N_ : Nat} {v_ : List Int} (hE_ : ∀ s_, N_ ≤ s_ → E_ s_ = []) (hK_ : K_ < N_) : ∀ s_, N_ ≤ s_ → (up1 E_ K_ v_) s_ = [] := by
  intro s_ hs_
  unfold up1
  rw [if_neg (by omega)]
  exact hE_ s_ hs_
theorem it_K {b_ : Nat → Int} {n_ M_ p_ : Nat} {A_ : pA} {N_ : Nat → Nat} {c_ : List Int} {rr_ : pT} (hit_ : p_it b_ n_ A_ N_ M_ c_ p_ = some (.inr rr_)) (hk_ : lx_kd b_ n_ p_ ≠ 1) : rr_.1.1 M_ = A_.1 M_ + 1 := by
  unfold p_it at hit_
  by_cases k4_ : lx_kd b_ n_ p_ = 4
  · rw [if_pos k4_] at hit_
    obtain ⟨q_, r1_, u_, y_, h1_, h2_, h3_, h4_, h5_⟩ := in_r (Option.some.inj hit_)
    rw [h5_]
    exact te_f.1
  · rw [if_neg k4_] at hit_
    by_cases k5_ : lx_kd b_ n_ p_ = 5
    · rw [if_pos k5_] at hit_
      obtain ⟨q_, r1_, u_, v_, x_, y_, h1_, h2_, h3_, h4_, h5_, h6_, h7_, h8_⟩ := va_r (Option.some.inj hit_)
      rw [h8_]
      exact te_f.1
    · rw [if_neg k5_] at hit_
      by_cases k6_ : lx_kd b_ n_ p_ = 6
      · rw [if_pos k6_] at hit_
        obtain ⟨q_, r1_, u_, v_, x_, y_, h1_, h2_, h3_, h4_, h5_, h6_, h7_, h8_⟩ := va_r (Option.some.inj hit_)
        rw [h8_]
        exact te_f.1
      · rw [if_neg k6_] at hit_
        by_cases k7_ : lx_kd b_ n_ p_ = 7
        · rw [if_pos k7_] at hit_
          obtain ⟨q_, r1_, u_, z_, y_, h1_, h2_, h3_, h4_, h5_, h6_⟩ := re_r (Option.some.inj hit_)
          rw [h6_]
          exact te_f.1
        · rw [if_neg k7_] at hit_
          by_cases k8_ : lx_kd b_ n_ p_ = 8
          · rw [if_pos k8_] at hit_
            obtain ⟨q_, r1_, d_, u_, v_, x_, y_, h1_, h2_, h3_, h4_, h5_, h6_, h7_, h8_, h9_, h10_⟩ := us_r (Option.some.inj hit_)
            rw [h10_]
            exact te_f.1
          · rw [if_neg k8_, if_neg hk_] at hit_
            cases hit_
def pN (b_ : Nat → Int) (n_ T_ F_ I_ : Nat) (B_ : pA) (M_ fr_ K_ fc_ : Nat) (q1_ : gQ) (E1_ : gE) (O_ O1_ : gO) (V1_ : gV) (y_ : Nat) (S0_ S1_ : sm_S) : Prop := rg b_ n_ T_ (.inr y_) S1_ ∧ rgl F_ q1_.1 S1_ ∧ rev fr_ K_ E1_ O1_ (q1_.1.length ≤ 1001) S1_ ∧ S1_.1 13 0 53 = (q1_.2.1 : Int) ∧ (∀ s_, s_ < 40 → (E1_ s_).length ≤ 8) ∧ (S1_.1 13 0 28 = S0_.1 13 0 28 ∧ S1_.1 13 0 29 = S0_.1 13 0 29) ∧ (S1_.2.2.1 146 0 = S0_.2.2.1 146 0 ∧ S1_.2.2.1 147 0 = S0_.2.2.1 147 0 ∧ S1_.2.2.1 148 0 = S0_.2.2.1 148 0) ∧ (∀ j_, S1_.2.2.1 149 0 j_ = if j_ = fr_ then (K_ : Int) else S0_.2.2.1 149 0 j_) ∧ (∀ j_, j_ < 8 * (40 * fr_) → S1_.2.2.1 144 0 j_ = S0_.2.2.1 144 0 j_) ∧ tst B_ I_ M_ K_ E1_ O1_ ∧ q1_.2.2 = fc_ ∧ O1_ = O_ ∧ V1_ = [] ∧ ∀ s_, B_.1 M_ ≤ s_ → E1_ s_ = []
def p8 (b_ : Nat → Int) (n_ T_ F_ I_ : Nat) (B_ : pA) (X_ : Nat → gQ → gE → Option (gQ × gE)) (M_ fr_ K_ : Nat) (q0_ : gQ) (E_ : gE) (O_ : gO) (kk_ : List Int) (K1_ y_ : Nat) (S0_ S1_ : sm_S) : Prop := ∃ (d_ : Nat) (k8_ : List Int) (G_ : pGr) (o_ : Nat → List Int) (i9_ : Nat), kk_ = cw 17 (K_ : Int) (d_ : Int) :: k8_ ∧ d_ < M_ ∧ K_ < B_.1 M_ ∧ K1_ = K_ + 1 ∧ B_.2.2.1 (40 * M_ + K_) = 5 ∧ B_.2.2.2.2 (40 * M_ + K_) = (d_ : Int) ∧ ev F_ I_ B_ X_ M_ (q0_, E_, O_, []) k8_ = some ((G_, q0_.2.1, q0_.2.2 + 1), E_, up1 O_ K_ (some o_), []) ∧ oin B_ d_ (B_.1 d_) o_ ∧ (∀ s_, s_ < 40 → (o_ s_).length ≤ 8) ∧ (∀ s_, B_.1 d_ ≤ s_ → o_ s_ = []) ∧ q0_.2.2 ≤ 200 ∧ rgl F_ G_ S1_ ∧ rp b_ n_ T_ i9_ y_ ∧ mfr fr_ d_ K_ i9_ (sm_aI S0_ 149 0 fr_ ((K_ : Int) + 1)) S1_ ∧ (∀ j_, j_ < 8 * (40 * (fr_ + 1)) → S1_.2.2.1 144 0 j_ = S0_.2.2.1 144 0 j_) ∧ rev (fr_ + 1) 0 o_ (fun _ => none) (G_.length ≤ 1001) S1_ ∧ S1_.1 13 0 53 = S0_.1 13 0 53
/-! M_.makeItem -/
end
/-! 99.zf6 -/
section
/-! the frames of the reference; written by wip/p55/gen/vg -/

/-! the_ frames: what is_ still to_ be_ done -/
theorem rev_l2 {fr_ K_ : Nat} {E_ : gE} {O_ : gO} {ok_ ok'_ : Prop} {S_ S'_ : sm_S} (h_ : rev fr_ K_ E_ O_ ok_ S_) (hK_ : K_ ≤ 40) (hok_ : ok'_ → ok_) (hE_ : ∀ s_, s_ < 40 → (E_ s_).length ≤ 8) (hO_ : ∀ s_ o_, O_ s_ = some o_ → ∀ o1_, o1_ < 40 → (o_ o1_).length ≤ 8) (e1_ : ∀ j_, j_ < 8 * (40 * (fr_ + 1)) → S'_.2.2.1 144 0 j_ = S_.2.2.1 144 0 j_) (e2_ : ∀ j_, j_ < 8 * (40 * (40 * (fr_ + 1))) → S'_.2.2.1 145 0 j_ = S_.2.2.1 145 0 j_) : rev fr_ K_ E_ O_ ok'_ S'_ := by
  intro q_
  obtain ⟨h1_, h2_⟩ := h_ (hok_ q_)
  refine ⟨fun s_ hs_ => ?_, fun s_ o_ hs_ e_ o1_ ho1_ => ?_⟩
  · have l1_ := hE_ s_ hs_
    exact rwv_cg (h1_ s_ hs_) (fun k9_ hk9_ => e1_ _ (by omega))
  · have l1_ := hO_ s_ o_ e_ o1_ ho1_
    exact rwv_cg (h2_ s_ o_ hs_ e_ o1_ ho1_) (fun k9_ hk9_ => e2_ _ (by omega))
/-- literals of_ what a_ frame holds are_ below the_ size of_ the_ graph -/
def lwB (F_ : Nat) (q_ : gQ) (E_ : gE) (O_ : gO) : Prop := imq (q_.1.length ≤ 1001) ((∀ s_, lwl (F_ + q_.1.length) (E_ s_)) ∧ ∀ s_ o_, O_ s_ = some o_ → ∀ t_, lwl (F_ + q_.1.length) (o_ t_))
def lwG (F_ : Nat) (q_ : gQ) (E_ : gE) (O_ : gO) : Prop := imq (q_.1.length ≤ 1001) (lwS F_ (q_, E_, O_, []))
/-- what the_ frames below do_, once the_ frame fr_ (module d_) has_ come to_ (q_, e_) -/
def bel (b_ : Nat → Int) (n_ T_ F_ I_ tp_ : Nat) (B_ : pA) (N_ : Nat → Nat) (X_ : Nat → gQ → gE → Option (gQ × gE)) (S_ : sm_S) (z_ : gQ × gE) : Nat → Nat → gQ → gE → Nat → Prop
  | 0, _, q_, e_, w_ => z_ = (q_, e_) ∧ w_ = 0
  | fr_ + 1, d_, q_, e_, w_ => ∃ (M_ f_ : Nat) (A_ : pA) (c_ : List Int) (p_ : Nat) (ce_ rest : List Int) (K_ : Nat) (E_ : gE) (O_ : gO) (i_ : Nat) (q'_ : gQ) (E'_ : gE) (O'_ : gO) (w'_ : Nat), (S_.2.2.1 146 0 fr_ = (M_ : Int) ∧ S_.2.2.1 148 0 (fr_ + 1) = (K_ : Int) ∧ S_.2.2.1 147 0 (fr_ + 1) = (i_ : Int) ∧ S_.2.2.1 149 0 fr_ = (K_ : Int) + 1) ∧ rp b_ n_ T_ i_ p_ ∧ mch b_ n_ B_ N_ M_ f_ A_ c_ p_ ce_ ∧ ce_ = rest ++ c_ ∧ (A_.1 M_ = K_ + 1 ∧ d_ < M_ ∧ fr_ + M_ ≤ tp_ ∧ K_ < B_.1 M_) ∧ (B_.2.2.1 (40 * M_ + K_) = 5 ∧ B_.2.2.2.2 (40 * M_ + K_) = (d_ : Int)) ∧ tst B_ I_ M_ K_ E_ O_ ∧ (∀ s_, s_ < 40 → (E_ s_).length ≤ 8) ∧ (∀ s_, B_.1 M_ ≤ s_ → E_ s_ = []) ∧ (∀ s_, K_ ≤ s_ → O_ s_ = none) ∧ (∀ s_ o_, O_ s_ = some o_ → ∀ o1_, o1_ < 40 → (o_ o1_).length ≤ 8) ∧ (rev fr_ K_ E_ O_ (q_.1.length ≤ 1001) S_ ∧ lwB F_ q_ E_ O_) ∧ ev F_ I_ B_ X_ M_ (q_, E_, up1 O_ K_ (some e_), []) rest = some (q'_, E'_, O'_, []) ∧ w_ = (1301 - p_) + w'_ ∧ bel b_ n_ T_ F_ I_ tp_ B_ N_ X_ S_ z_ fr_ M_ q'_ E'_ w'_
theorem bel_fr {b_ : Nat → Int} {n_ T_ F_ I_ tp_ : Nat} {B_ : pA} {N_ : Nat → Nat} {X_ : Nat → gQ → gE → Option (gQ × gE)} {S_ S'_ : sm_S} {z_ : gQ × gE} : ∀ (fr_ d_ : Nat) (q_ : gQ) (e_ : gE) (w_ : Nat), bel b_ n_ T_ F_ I_ tp_ B_ N_ X_ S_ z_ fr_ d_ q_ e_ w_ → (∀ j_, j_ < fr_ → S'_.2.2.1 146 0 j_ = S_.2.2.1 146 0 j_ ∧ S'_.2.2.1 149 0 j_ = S_.2.2.1 149 0 j_) → (∀ j_, j_ ≤ fr_ → S'_.2.2.1 147 0 j_ = S_.2.2.1 147 0 j_ ∧ S'_.2.2.1 148 0 j_ = S_.2.2.1 148 0 j_) → (∀ j_, j_ < 8 * (40 * fr_) → S'_.2.2.1 144 0 j_ = S_.2.2.1 144 0 j_) → (∀ j_, j_ < 8 * (40 * (40 * fr_)) → S'_.2.2.1 145 0 j_ = S_.2.2.1 145 0 j_) → bel b_ n_ T_ F_ I_ tp_ B_ N_ X_ S'_ z_ fr_ d_ q_ e_ w_
  | 0, d_, q_, e_, w_, h_, _, _, _, _ => h_
  | fr_ + 1, d_, q_, e_, w_, h_, a1_, a2_, a3_, a4_ => by
    obtain ⟨M_, f_, A_, c_, p_, ce_, rest, K_, E_, O_, i_, q'_, E'_, O'_, w'_, h1_, h2_, h3_, h4_, h5_, h6_, h7_, h8_, h9_, h10_, h11_, h12_, h13_, h14_, h15_⟩ := h_
    have K40_ : K_ ≤ 40 := by
      have := (mch_ex h3_).1.2 M_ (Nat.le_refl _)
      omega
    refine ⟨M_, f_, A_, c_, p_, ce_, rest, K_, E_, O_, i_, q'_, E'_, O'_, w'_, ?_, h2_, h3_, h4_, h5_, h6_, h7_, h8_, h9_, h10_, h11_, ⟨rev_l2 h12_.1 K40_ id h8_ h11_ (fun j_ hj_ => a3_ j_ hj_) (fun j_ hj_ => a4_ j_ hj_), h12_.2⟩, h13_, h14_, bel_fr fr_ M_ q'_ E'_ w'_ h15_ (fun j_ hj_ => a1_ j_ (by omega)) (fun j_ hj_ => a2_ j_ (by omega)) (fun j_ hj_ => a3_ j_ (by omega)) (fun j_ hj_ => a4_ j_ (by omega))⟩
    rw [(a1_ fr_ (by omega)).1, (a1_ fr_ (by omega)).2, (a2_ (fr_ + 1) (by omega)).1, (a2_ (fr_ + 1) (by omega)).2]
    exact h1_
theorem bel_le {b_ : Nat → Int} {n_ T_ F_ I_ tp_ : Nat} {B_ : pA} {N_ : Nat → Nat} {X_ : Nat → gQ → gE → Option (gQ × gE)} {S_ : sm_S} {z_ : gQ × gE} (hX_ : ∀ d_ q_ e_ z_, X_ d_ q_ e_ = some z_ → q_.1.length ≤ z_.1.1.length) : ∀ (fr_ d_ : Nat) (q_ : gQ) (e_ : gE) (w_ : Nat), bel b_ n_ T_ F_ I_ tp_ B_ N_ X_ S_ z_ fr_ d_ q_ e_ w_ → q_.1.length ≤ z_.1.1.length
  | 0, d_, q_, e_, w_, h_ => by rw [h_.1]; exact Nat.le_refl _
  | fr_ + 1, d_, q_, e_, w_, h_ => by
    obtain ⟨M_, f_, A_, c_, p_, ce_, rest, K_, E_, O_, i_, q'_, E'_, O'_, w'_, h1_, h2_, h3_, h4_, h5_, h6_, h7_, h8_, h9_, h10_, h11_, h12_, h13_, h14_, h15_⟩ := h_
    have l1_ : q_.1.length ≤ q'_.1.length := ev_le hX_ h13_
    exact Nat.le_trans l1_ (bel_le hX_ fr_ M_ q'_ E'_ w'_ h15_)
theorem bel_R {b_ : Nat → Int} {n_ T_ F_ I_ tp_ : Nat} {B_ : pA} {N_ : Nat → Nat} {X_ : Nat → gQ → gE → Option (gQ × gE)} {S_ : sm_S} {z_ : gQ × gE} (hX_ : lwX F_ I_ X_) : ∀ (fr_ d_ : Nat) (q_ : gQ) (e_ : gE) (w_ : Nat), bel b_ n_ T_ F_ I_ tp_ B_ N_ X_ S_ z_ fr_ d_ q_ e_ w_ → q_.2.1 ≤ z_.1.2.1
  | 0, d_, q_, e_, w_, h_ => by rw [h_.1]; exact Nat.le_refl _
  | fr_ + 1, d_, q_, e_, w_, h_ => by
    obtain ⟨M_, f_, A_, c_, p_, ce_, rest, K_, E_, O_, i_, q'_, E'_, O'_, w'_, h1_, h2_, h3_, h4_, h5_, h6_, h7_, h8_, h9_, h10_, h11_, h12_, h13_, h14_, h15_⟩ := h_
    have l1_ : q_.2.1 ≤ q'_.2.1 := ev_R hX_ h13_
    exact Nat.le_trans l1_ (bel_R hX_ fr_ M_ q'_ E'_ w'_ h15_)
/-- the_ state of_ the_ work: the_ frame on_ top_, and those below -/
def gin (b_ : Nat → Int) (n_ T_ F_ I_ tp_ : Nat) (B_ : pA) (N_ : Nat → Nat) (X_ : Nat → gQ → gE → Option (gQ × gE)) (z_ : gQ × gE) (mu_ fr_ M_ f_ : Nat) (A_ : pA) (c_ : List Int) (p_ : Nat) (ce_ rest : List Int) (E_ : gE) (O_ : gO) (q_ : gQ) (q'_ : gQ) (E'_ : gE) (O'_ : gO) (w_ : Nat) (S_ : sm_S) : Prop := (S_.1 13 0 29 = (fr_ : Int) ∧ S_.1 13 0 28 = (M_ : Int) ∧ S_.1 13 0 53 = (q_.2.1 : Int) ∧ S_.2.2.1 146 0 fr_ = (M_ : Int) ∧ S_.2.2.1 149 0 fr_ = (A_.1 M_ : Int)) ∧ rg b_ n_ T_ (.inr p_) S_ ∧ mch b_ n_ B_ N_ M_ f_ A_ c_ p_ ce_ ∧ ce_ = rest ++ c_ ∧ fr_ + M_ ≤ tp_ ∧ tst B_ I_ M_ (A_.1 M_) E_ O_ ∧ (∀ s_, s_ < 40 → (E_ s_).length ≤ 8) ∧ (∀ s_, B_.1 M_ ≤ s_ → E_ s_ = []) ∧ (∀ s_, A_.1 M_ ≤ s_ → O_ s_ = none) ∧ (∀ s_ o_, O_ s_ = some o_ → ∀ o1_, o1_ < 40 → (o_ o1_).length ≤ 8) ∧ (rev fr_ (A_.1 M_) E_ O_ (q_.1.length ≤ 1001) S_ ∧ lwG F_ q_ E_ O_) ∧ rgl F_ q_.1 S_ ∧ q_.2.2 ≤ 201 ∧ ev F_ I_ B_ X_ M_ (q_, E_, O_, []) rest = some (q'_, E'_, O'_, []) ∧ bel b_ n_ T_ F_ I_ tp_ B_ N_ X_ S_ z_ fr_ M_ q'_ E'_ w_ ∧ mu_ = (300 - q_.2.2) * 3000 + (1301 - p_) + w_
/-- a_ module, its_ code, its_ place -/
def gmd (b_ : Nat → Int) (n_ T_ : Nat) (B_ : pA) (N_ : Nat → Nat) (C_ : Nat → List Int) (m_ : Nat) (S_ : sm_S) : Prop := ∃ f_ A_ c0_ u_ ce_ i_, mch b_ n_ B_ N_ m_ f_ A_ c0_ u_ ce_ ∧ A_.1 m_ = 0 ∧ ce_ = (C_ m_).reverse ++ c0_ ∧ rp b_ n_ T_ i_ u_ ∧ S_.2.2.1 125 0 m_ = (i_ : Int)
theorem exm_hX {F_ I_ : Nat} {B_ : pA} {C_ : Nat → List Int} {f_ : Nat} : ∀ d_ q_ e_ z_, exm F_ I_ B_ C_ f_ d_ q_ e_ = some z_ → q_.1.length ≤ z_.1.1.length := exm_le f_
theorem exm_ev {F_ I_ d_ : Nat} {B_ : pA} {C_ : Nat → List Int} {q_ : gQ} {e_ : gE} {z_ : gQ × gE} (h_ : exm F_ I_ B_ C_ 16 d_ q_ e_ = some z_) : ∃ O'_, ev F_ I_ B_ (exm F_ I_ B_ C_ 16) d_ (q_, e_, fun _ => none, []) (C_ d_).reverse = some (z_.1, z_.2, O'_, []) := by
  rw [show (16 : Nat) = 15 + 1 from rfl, exm] at h_
  cases hs_ : ec F_ I_ B_ (exm F_ I_ B_ C_ 15) d_ (C_ d_) (q_, e_, fun _ => none, []) with
  | none => rw [hs_] at h_; cases h_
  | some s_ =>
    rw [hs_] at h_
    obtain ⟨s1_, s2_, s3_, s4_⟩ := s_
    cases s4_ with
    | cons x_ l_ =>
      have h_ : (none : Option (gQ × gE)) = some z_ := h_
      cases h_
    | nil =>
      have h_ : some (s1_, s2_) = some z_ := h_
      cases h_
      refine ⟨s3_, ?_⟩
      unfold ev
      rw [List.reverse_reverse]
      exact ec_mo (fun d_ q_ e_ z_ => exm_mo 15 d_ q_ e_ z_) _ _ _ hs_
theorem tst_0 {B_ : pA} {I_ d_ : Nat} {o_ : gE} (ho_ : oin B_ d_ (B_.1 d_) o_) : tst B_ I_ d_ 0 o_ (fun _ => none) := ⟨⟨Nat.zero_le _, fun s_ hs_ => absurd hs_ (Nat.not_lt_zero _)⟩, fun s_ hs_ => absurd hs_ (Nat.not_lt_zero _), fun s_ _ hs_ h0_ => ⟨ho_.2 s_ hs_ h0_, rfl⟩, fun s_ hs_ h0_ => ho_.1 s_ hs_ h0_ hs_⟩
theorem hB_40 {b_ : Nat → Int} {n_ M_ f_ : Nat} {A_ B_ : pA} {N_ : Nat → Nat} {c_ ce_ : List Int} {p_ : Nat} (h_ : mch b_ n_ B_ N_ M_ f_ A_ c_ p_ ce_) : A_.1 M_ ≤ 40 := ((mch_ex h_).1.2 M_ (Nat.le_refl _)).1
section GI_
variable {b_ : Nat → Int} {n_ T_ F_ I_ tp_ : Nat} {B_ : pA} {N_ : Nat → Nat} {C_ : Nat → List Int} {z_ : gQ × gE} {mu_ fr_ M_ f_ : Nat} {A_ : pA} {c_ : List Int} {p_ : Nat} {ce_ rest : List Int} {E_ : gE} {O_ : gO} {q_ q'_ : gQ} {E'_ : gE} {O'_ : gO} {w_ : Nat} {S_ S1_ : sm_S}
/-- one_ more item: what it_ is_ -/
theorem gin_it {X_ : Nat → gQ → gE → Option (gQ × gE)} (hn_ : n_ ≤ 1280) (h_ : gin b_ n_ T_ F_ I_ tp_ B_ N_ X_ z_ mu_ fr_ M_ f_ A_ c_ p_ ce_ rest E_ O_ q_ q'_ E'_ O'_ w_ S_) (hk_ : lx_kd b_ n_ p_ ≠ 125) : ∃ f1_ rr_ kk_ rest1 q1_ E1_ O1_ V1_, p_it b_ n_ A_ N_ M_ c_ p_ = some (.inr rr_) ∧ rr_.2.1 = kk_ ++ c_ ∧ a_ex rr_.1 B_ M_ ∧ ev F_ I_ B_ X_ M_ (q_, E_, O_, []) kk_ = some (q1_, E1_, O1_, V1_) ∧ mch b_ n_ B_ N_ M_ f1_ rr_.1 rr_.2.1 rr_.2.2 ce_ ∧ ce_ = rest1 ++ rr_.2.1 ∧ ev F_ I_ B_ X_ M_ (q1_, E1_, O1_, V1_) rest1 = some (q'_, E'_, O'_, []) ∧ (p_ < rr_.2.2 ∧ rr_.2.2 ≤ n_) ∧ A_.1 M_ ≤ rr_.1.1 M_ := by
  obtain ⟨h1_, h2_, h3_, h4_, h5_, h6_, h7_, h8_, h9_, h10_, h11_, h12_, h13_, h14_, h15_, h16_⟩ := h_
  cases f_ with
  | zero => exact h3_.elim
  | succ f1_ =>
    obtain ⟨⟨m1_, m2_, m3, m4_⟩, m5_⟩ := h3_
    rcases m5_ with ⟨z1_, -⟩ | ⟨rr_, z1_, z2_⟩
    · exact absurd z1_ hk_
    · obtain ⟨i1_, i2_, i3_, kk_, i4_⟩ := it_b hn_ m1_ m3 m4_ z1_
      obtain ⟨rest1, r1_⟩ := mch_cd hn_ _ _ _ _ _ z2_
      have hr_ : rest = rest1 ++ kk_ := by
        rw [h4_, i4_, ← List.append_assoc] at r1_
        exact List.append_cancel_right r1_
      rw [hr_] at h14_
      obtain ⟨⟨q1_, E1_, O1_, V1_⟩, s1_, s2_⟩ := ev_pre h14_
      exact ⟨f1_, rr_, kk_, rest1, q1_, E1_, O1_, V1_, z1_, i4_, (mch_ex z2_).2.1, s1_, z2_, r1_, s2_, ⟨i3_.1, i3_.2.1⟩, i2_.1⟩
theorem gin_N {X_ : Nat → gQ → gE → Option (gQ × gE)} {f1_ : Nat} {rr_ : pT} {kk_ rest1 : List Int} {q1_ : gQ} {E1_ : gE} {O1_ : gO} {V1_ : gV} (hn_ : n_ ≤ 1280) (h_ : gin b_ n_ T_ F_ I_ tp_ B_ N_ X_ z_ mu_ fr_ M_ f_ A_ c_ p_ ce_ rest E_ O_ q_ q'_ E'_ O'_ w_ S_) (hm_ : mch b_ n_ B_ N_ M_ f1_ rr_.1 rr_.2.1 rr_.2.2 ce_) (hc_ : ce_ = rest1 ++ rr_.2.1) (hv_ : ev F_ I_ B_ X_ M_ (q1_, E1_, O1_, V1_) rest1 = some (q'_, E'_, O'_, [])) (hp_ : p_ < rr_.2.2 ∧ rr_.2.2 ≤ n_) (hK_ : A_.1 M_ ≤ rr_.1.1 M_) (h45_ : S1_.2.2.1 145 0 = S_.2.2.1 145 0) (hXw_ : lwX F_ I_ X_) (hF13_ : F_ ≤ 13) (hek_ : ev F_ I_ B_ X_ M_ (q_, E_, O_, []) kk_ = some (q1_, E1_, O1_, V1_)) (hRF_ : 1 + I_ + q1_.2.1 ≤ F_) (hN_ : pN b_ n_ T_ F_ I_ B_ M_ fr_ (rr_.1.1 M_) q_.2.2 q1_ E1_ O_ O1_ V1_ rr_.2.2 S_ S1_) : ∃ mu1_, mu1_ < mu_ ∧ gin b_ n_ T_ F_ I_ tp_ B_ N_ X_ z_ mu1_ fr_ M_ f1_ rr_.1 rr_.2.1 rr_.2.2 ce_ rest1 E1_ O1_ q1_ q'_ E'_ O'_ w_ S1_ := by
  obtain ⟨h1_, h2_, h3_, h4_, h5_, h6_, h7_, h8_, h9_, h10_, h11_, h12_, h13_, h14_, h15_, h16_⟩ := h_
  obtain ⟨k1_, k2_, k3_, k4_, k5_, k6_, k7_, k8_, k9_, ka_, kb_, kc_, kd_, ke_⟩ := hN_
  subst kc_
  subst kd_
  have LW_ : lwG F_ q1_ E1_ O1_ := fun ok_ => ev_w hXw_ hek_ (by show F_ + q1_.1.length ≤ 1023; omega) hRF_ (h11_.2 (Nat.le_trans (ev_le (fun d_ q_ e_ z_ hz_ => (hXw_ d_ q_ e_ z_ hz_).1) hek_) ok_))
  refine ⟨(300 - q1_.2.2) * 3000 + (1301 - rr_.2.2) + w_, ?_, ⟨k6_.2.trans h1_.1, k6_.1.trans h1_.2.1, k4_, ?_, ?_⟩, k1_, hm_, hc_, h5_, ka_, k5_, ke_, fun s_ hs_ => h9_ s_ (by omega), h10_, ⟨k3_, LW_⟩, k2_, by omega, hv_, ?_, rfl⟩
  · rw [h16_, kb_]
    omega
  · rw [k7_.1]
    exact h1_.2.2.2.1
  · rw [k8_, if_pos rfl]
  · refine bel_fr fr_ M_ q'_ E'_ w_ h15_ (fun j_ hj_ => ⟨congrFun k7_.1 j_, ?_⟩) (fun j_ hj_ => ⟨congrFun k7_.2.1 j_, congrFun k7_.2.2 j_⟩) k9_ (fun j_ hj_ => congrFun h45_ j_)
    rw [k8_, if_neg (by omega)]
theorem gin_e {X_ : Nat → gQ → gE → Option (gQ × gE)} (h_ : gin b_ n_ T_ F_ I_ tp_ B_ N_ X_ z_ mu_ fr_ M_ f_ A_ c_ p_ ce_ rest E_ O_ q_ q'_ E'_ O'_ w_ S_) (hk_ : lx_kd b_ n_ p_ = 125) : A_.1 M_ = B_.1 M_ ∧ q'_ = q_ ∧ E'_ = E_ := by
  obtain ⟨h1_, h2_, h3_, h4_, h5_, h6_, h7_, h8_, h9_, h10_, h11_, h12_, h13_, h14_, h15_, h16_⟩ := h_
  cases f_ with
  | zero => exact h3_.elim
  | succ f1_ =>
    obtain ⟨⟨m1_, m2_, m3, m4_⟩, m5_⟩ := h3_
    rcases m5_ with ⟨z1_, z2_, z3_⟩ | ⟨rr_, z1_, z2_⟩
    · have r0_ : rest = [] := by
        rw [z3_] at h4_
        have e_ := congrArg List.length h4_
        rw [List.length_append] at e_
        exact List.eq_nil_of_length_eq_zero (by omega)
      rw [r0_, ev_n] at h14_
      cases h14_
      exact ⟨z2_, rfl, rfl⟩
    · exfalso
      unfold p_it at z1_
      rw [if_neg (by omega), if_neg (by omega), if_neg (by omega), if_neg (by omega), if_neg (by omega), if_neg (by omega)] at z1_
      cases z1_
theorem gin_le {X_ : Nat → gQ → gE → Option (gQ × gE)} (hX_ : ∀ d_ q_ e_ z_, X_ d_ q_ e_ = some z_ → q_.1.length ≤ z_.1.1.length) (h_ : gin b_ n_ T_ F_ I_ tp_ B_ N_ X_ z_ mu_ fr_ M_ f_ A_ c_ p_ ce_ rest E_ O_ q_ q'_ E'_ O'_ w_ S_) : q_.1.length ≤ z_.1.1.length := by
  obtain ⟨h1_, h2_, h3_, h4_, h5_, h6_, h7_, h8_, h9_, h10_, h11_, h12_, h13_, h14_, h15_, h16_⟩ := h_
  have l1_ : q_.1.length ≤ q'_.1.length := ev_le hX_ h14_
  exact Nat.le_trans l1_ (bel_le hX_ _ _ _ _ _ h15_)
theorem gin_D {X_ : Nat → gQ → gE → Option (gQ × gE)} (h_ : gin b_ n_ T_ F_ I_ tp_ B_ N_ X_ z_ mu_ 0 M_ f_ A_ c_ p_ ce_ rest E_ O_ q_ q'_ E'_ O'_ w_ S_) (hk_ : lx_kd b_ n_ p_ = 125) : z_ = (q_, E_) := by
  obtain ⟨e1_, e2_, e3_⟩ := gin_e h_ hk_
  obtain ⟨h1_, h2_, h3_, h4_, h5_, h6_, h7_, h8_, h9_, h10_, h11_, h12_, h13_, h14_, h15_, h16_⟩ := h_
  rw [e2_, e3_] at h15_
  exact h15_.1
theorem gin_L0 {X_ : Nat → gQ → gE → Option (gQ × gE)} (htp_ : tp_ ≤ 15) (h_ : gin b_ n_ T_ F_ I_ tp_ B_ N_ X_ z_ mu_ (fr_ + 1) M_ f_ A_ c_ p_ ce_ rest E_ O_ q_ q'_ E'_ O'_ w_ S_) : ∃ K_ : Nat, S_.2.2.1 148 0 (fr_ + 1) = (K_ : Int) ∧ K_ ≤ 39 ∧ M_ ≤ 15 ∧ fr_ ≤ 14 ∧ B_.1 M_ = B_.1 M_ := by
  obtain ⟨h1_, h2_, h3_, h4_, h5_, h6_, h7_, h8_, h9_, h10_, h11_, h12_, h13_, h14_, h15_, h16_⟩ := h_
  obtain ⟨M0_, f0_, A0_, c0_, p0_, ce0_, rest0, K_, E0_, O0_, i_, q2_, E2_, O2_, w'_, b1_, b2_, b3_, b4_, b5_, b6_, b7_, b8_, b9_, b10_, b11_, b12_, b13_, b14_, b15_⟩ := h15_
  have k_ := hB_40 b3_
  have m_ := (mch_ex h3_).1.1
  exact ⟨K_, b1_.2.1, by omega, m_, by omega, rfl⟩
theorem gin_R {X_ : Nat → gQ → gE → Option (gQ × gE)} (hX_ : lwX F_ I_ X_) (h_ : gin b_ n_ T_ F_ I_ tp_ B_ N_ X_ z_ mu_ fr_ M_ f_ A_ c_ p_ ce_ rest E_ O_ q_ q'_ E'_ O'_ w_ S_) : q'_.2.1 ≤ z_.1.2.1 := by
  obtain ⟨h1_, h2_, h3_, h4_, h5_, h6_, h7_, h8_, h9_, h10_, h11_, h12_, h13_, h14_, h15_, h16_⟩ := h_
  exact bel_R hX_ _ _ _ _ _ h15_
end GI_
end
/-! 99.zf7a -/
section
/-! the reference: the graph; written by wip/p55/gen/vg -/

/-! the_ graph of_ the_ reference -/
theorem rgl_0 {F_ : Nat} {S_ : sm_S} (h1_ : S_.1 13 0 38 = (F_ : Int)) (h2_ : S_.1 13 0 37 = (F_ : Int)) (hF_ : 1 ≤ F_ ∧ F_ ≤ 13) (h3_ : ∀ c_, c_ < 4096 → S_.2.2.1 142 0 c_ = 0) : rgl F_ [] S_ := by
  refine ⟨[], ⟨h1_, hF_, by rw [h2_]; rfl, by simp, fun k_ x_ y_ e_ => by simp at e_, fun i_ j_ p_ e_ => by simp at e_, fun c_ hc_ => Or.inl (h3_ c_ hc_), fun k_ hk_ => absurd hk_ (Nat.not_lt_zero _), fun k_ x_ y_ e_ => by simp at e_⟩, Or.inl ⟨by simp, rfl⟩⟩
def gq0 (tp_ F_ : Nat) (S0_ S_ : sm_S) : Prop := S_.1 13 0 9 = S0_.2.2.1 125 0 tp_ ∧ S_.1 13 0 28 = (tp_ : Int) ∧ S_.1 13 0 29 = 0 ∧ S_.1 13 0 27 = 1 ∧ S_.1 13 0 53 = 0 ∧ S_.1 13 0 10 = 0 ∧ S_.1 13 0 37 = (F_ : Int) ∧ S_.1 13 0 38 = (F_ : Int) ∧ S_.2.2.1 146 0 0 = (tp_ : Int) ∧ S_.2.2.1 149 0 0 = 0 ∧ ∀ c_, c_ < 4096 → S_.2.2.1 142 0 c_ = 0
theorem gq0_fr {w_ : sx_Wl} {tp_ F_ : Nat} {S0_ S_ S'_ : sm_S} (h_ : gq0 tp_ F_ S0_ S_) (g_ : ai_fr (sx_W w_) S_ S'_) (h0_ : (sx_W w_).1 13 9 = false) (h1_ : (sx_W w_).1 13 28 = false) (h2_ : (sx_W w_).1 13 29 = false) (h3_ : (sx_W w_).1 13 27 = false) (h4_ : (sx_W w_).1 13 53 = false) (h5_ : (sx_W w_).1 13 10 = false) (h6_ : (sx_W w_).1 13 37 = false) (h7_ : (sx_W w_).1 13 38 = false) (h8_ : (sx_W w_).2.1 146 = false) (h9_ : (sx_W w_).2.1 149 = false) (h10_ : (sx_W w_).2.1 142 = false) : gq0 tp_ F_ S0_ S'_ := by
  unfold gq0 at h_ ⊢
  rw [g_.1 13 0 9 h0_, g_.1 13 0 28 h1_, g_.1 13 0 29 h2_, g_.1 13 0 27 h3_, g_.1 13 0 53 h4_, g_.1 13 0 10 h5_, g_.1 13 0 37 h6_, g_.1 13 0 38 h7_, fr_arr g_ h8_, fr_arr g_ h9_, fr_arr g_ h10_]
  exact h_
theorem gmd_fr {w_ : sx_Wl} {b_ : Nat → Int} {n_ T_ m_ : Nat} {B_ : pA} {N_ : Nat → Nat} {C_ : Nat → List Int} {S_ S'_ : sm_S} (h_ : gmd b_ n_ T_ B_ N_ C_ m_ S_) (g_ : ai_fr (sx_W w_) S_ S'_) (h0_ : (sx_W w_).2.1 125 = false) : gmd b_ n_ T_ B_ N_ C_ m_ S'_ := by
  obtain ⟨f_, A_, c0_, u_, ce_, i_, h1_, h2_, h3_, h4_, h5_⟩ := h_
  exact ⟨f_, A_, c0_, u_, ce_, i_, h1_, h2_, h3_, h4_, by rw [fr_arr g_ h0_]; exact h5_⟩
theorem ein_8 {b_ : Nat → Int} {n_ m_ : Nat} {A_ : pA} (hA_ : a_ok b_ n_ A_ m_) : (∀ s_, s_ < 40 → (ein A_ m_ s_).length ≤ 8) ∧ ∀ s_, A_.1 m_ ≤ s_ → ein A_ m_ s_ = [] := by
  refine ⟨fun s_ _ => ?_, fun s_ hs_ => ?_⟩
  · unfold ein
    split
    · rename_i h_
      rw [r_bt_l]
      have := ((hA_.2 m_ (Nat.le_refl _)).2 s_ h_.1).2.2.1
      omega
    · simp
  · unfold ein
    rw [if_neg (by omega)]
theorem ein_w {b_ : Nat → Int} {n_ m_ F_ : Nat} {A_ : pA} (hA_ : a_ok b_ n_ A_ m_) (hF_ : 1 + su (t_in A_ 0 m_) (A_.1 m_) ≤ (F_ : Int)) {N_ : Nat} (hN_ : F_ ≤ N_) (s_ : Nat) : lwl N_ (ein A_ m_ s_) := by
  unfold ein
  split
  · rename_i q_
    have cb_ := su_el (f_ := t_in A_ 0 m_) (k_ := A_.1 m_) (fun j_ hj_ => by
      have z_ := ((hA_.2 m_ (Nat.le_refl _)).2 j_ hj_).2.2.1
      unfold t_in
      split <;> omega)
    have b1_ := cb_.2.2 (s_ + 1) (by omega)
    have b2_ := cb_.2.2 s_ (by omega)
    have e_ : su (t_in A_ 0 m_) (s_ + 1) = su (t_in A_ 0 m_) s_ + t_in A_ 0 m_ s_ := rfl
    have e2_ : t_in A_ 0 m_ s_ = A_.2.2.2.1 (40 * m_ + s_) := by unfold t_in; rw [if_pos q_.2]
    refine rbt_w (F_ := F_) (by omega) hN_
  · exact lwl_n
/-! M_.makeGraph -/
end
/-! 99.zg1a -/
section
/-! the class: limits, and the other designs; written by wip/p55/gen/vg -/
/-! Builder.limitFault -/
def vw_32d : sx_Wl := ([(3, 1), (3, 2), (3, 3)], [30, 31], [])
def vq_32d (mx_ : Int) (b_ : Nat → Int) (n_ : Nat) (A_ : pA) (mm_ : Nat) (dd_ : Nat) (S0_ : sm_S) (u_ : Option sm_V) (S1_ : sm_S) : Prop := ∃ v_ : Int, u_ = some (.inl v_) ∧ gi S1_ ∧ ai_fr (sx_W vw_32d) S0_ S1_ ∧ (idf dd_ S0_ S1_ ∧ (v_ = p_lm (S1_.2.2.1 30 0 mm_) (su (t_in A_ 0 mm_) (A_.1 mm_)) (S1_.2.2.1 31 0 mm_) (su (t_in A_ 1 mm_) (A_.1 mm_)) ∧ (∀ k_ : Nat, k_ < mm_ + 1 → lt1 A_ k_ S1_) ∧ (v_ ≠ 20 → S1_.1 3 dd_ 1 = su (t_in A_ 0 mm_) (A_.1 mm_) ∧ S1_.1 3 dd_ 2 = S1_.2.2.1 31 0 mm_ ∧ S1_.1 3 dd_ 3 = su (t_in A_ 1 mm_) (A_.1 mm_))))
set_option maxHeartbeats 1500000 in
set_option maxRecDepth 20000 in
theorem vl_32d {sc_ : Nat × (Nat → Int)} (mx_ : Int) (b_ : Nat → Int) (n_ : Nat) (A_ : pA) (mm_ : Nat) (dd_ : Nat) (S0_ : sm_S) (hmx_ : mx_ = (mm_ : Int) ∧ mm_ ≤ 15) (her_ : ∀ k_, k_ ≤ mm_ → er1 b_ n_ A_ k_ S0_) (hA_ : a_ok b_ n_ A_ mm_) (hd_ : S0_.2.1 1 0 1 = some dd_) : ∀ nn_ : Nat, (∀ (m_ : Int) (S_ : sm_S), gi S_ → ai_fr (sx_W vw_32d) S0_ S_ → ((0 ≤ m_ ∧ m_ ≤ mx_ + 1) ∧ (∀ k_ : Nat, k_ < m_.toNat → lt1 A_ k_ S_) ∧ (idf dd_ S0_ S_) ∧ True) → ((100 * (20 - m_) + 50).toNat) < nn_ → sm_T (mt_P sc_) 1 32 (2, [some (.inr (.inr (some (1, 0)))), some (.inl mx_), some (.inl m_), none, none, none, none], [], S_) (fun ro9_ => ∃ u_ S1_, ro9_ = (.inl u_, S1_, 0) ∧ vq_32d mx_ b_ n_ A_ mm_ dd_ S0_ u_ S1_)) ∧ (∀ (m_ : Int) (us_ : Int) (bi_ : Int) (s_ : Int) (S_ : sm_S), gi S_ → ai_fr (sx_W vw_32d) S0_ S_ → ((0 ≤ m_ ∧ m_ ≤ mx_) ∧ (0 ≤ s_ ∧ s_ ≤ (A_.1 m_.toNat : Int)) ∧ (us_ = su (t_is (S_.2.2.1 30 0) A_ m_.toNat) s_.toNat) ∧ (bi_ = su (t_rg (S_.2.2.1 31 0) A_ m_.toNat) s_.toNat) ∧ ((0 ≤ us_ ∧ us_ ≤ 100001 * s_) ∧ (0 ≤ bi_ ∧ bi_ ≤ 100000 * s_)) ∧ (∀ k_ : Nat, k_ < m_.toNat → lt1 A_ k_ S_) ∧ (idf dd_ S0_ S_) ∧ True) → ((100 * (20 - m_) + 45 - s_).toNat) < nn_ → sm_T (mt_P sc_) 1 32 (15, [some (.inr (.inr (some (1, 0)))), some (.inl mx_), some (.inl m_), some (.inl us_), some (.inl bi_), some (.inl s_), none], [], S_) (fun ro9_ => ∃ u_ S1_, ro9_ = (.inl u_, S1_, 0) ∧ vq_32d mx_ b_ n_ A_ mm_ dd_ S0_ u_ S1_)) := by
  intro nn_
  induction nn_ with
  | zero => exact ⟨fun _ _ _ _ _ h_ => absurd h_ (Nat.not_lt_zero _), fun _ _ _ _ _ _ _ _ h_ => absurd h_ (Nat.not_lt_zero _)⟩
  | succ nn_ ih_ =>
    refine ⟨?_, ?_⟩
    · rintro m_ S_ hI_ hF_ ⟨h0_, h1_, hD_, -⟩ hm_
      have her1_ : ∀ k_, k_ ≤ mm_ → er1 b_ n_ A_ k_ S_ := fun k_ hk_ => er1_fr (her_ k_ hk_) hF_ rfl rfl rfl rfl rfl
      have dsg_ : S_.2.1 1 0 1 = some dd_ := (hF_.2.1 1 0 1 rfl).trans hd_
      refine sm_T_go 2 (c1 := (4, [some (.inr (.inr (some (1, 0)))), some (.inl mx_), some (.inl m_), none, none, none, none], [.inl mx_, .inl m_], S_)) rfl ?_
      refine sm_T_br (a := 4) (z := 171) rfl (fun cx1_ => ?_) (fun cx1_ => ?_)
      · have cx1_ : mx_ < m_ := of_decide_eq_true cx1_
        have tb_ : ∀ k_ : Nat, k_ < mm_ + 1 → lt1 A_ k_ S_ := fun k_ hk_ => h1_ k_ (by omega)
        have mI_ : mx_.toNat = mm_ := by omega
        refine sm_T_go 3 (c1 := (180, [some (.inr (.inr (some (1, 0)))), some (.inl mx_), some (.inl m_), none, none, none, none], [.inl mx_, .inr (.inr (some (30, 0)))], S_)) rfl ?_
        refine sm_T_iald (n := 16) rfl rfl (by omega) (by omega) ?_
        have bx2_ : 0 ≤ S_.2.2.1 30 0 mx_.toNat ∧ S_.2.2.1 30 0 mx_.toNat ≤ 100000 := hI_.2 30 0 _
        refine sm_T_go 1 (c1 := (184, [some (.inr (.inr (some (1, 0)))), some (.inl mx_), some (.inl m_), none, none, none, none], [.inl 200, .inl (S_.2.2.1 30 0 mx_.toNat)], S_)) rfl ?_
        refine sm_T_br (a := 5) (z := 6) rfl (fun cx3_ => ?_) (fun cx3_ => ?_)
        · have cx3_ : (S_.2.2.1 30 0 mx_.toNat) ≤ 200 := of_decide_eq_true cx3_
          refine sm_T_go 1 (c1 := (191, [some (.inr (.inr (some (1, 0)))), some (.inl mx_), some (.inl m_), none, none, none, none], [.inr (.inr (some (1, 0)))], S_)) rfl ?_
          refine sm_T_gr rfl rfl ((hF_.2.1 1 0 1 rfl).trans hd_) ?_
          refine sm_T_go 3 (c1 := (197, [some (.inr (.inr (some (1, 0)))), some (.inl mx_), some (.inl m_), none, none, none, none], [.inl 0, .inl mx_, .inr (.inr (some (1, 0))), .inr (.inr (some (3, dd_)))], S_)) rfl ?_
          refine sm_T_cal (d1 := 0) (Q1 := vq_33 mx_ 0 b_ n_ A_ mm_ S_) rfl rfl (by decide) (vc_33 mx_ 0 b_ n_ A_ mm_ S_ hI_ (by omega) (by first | exact her1_ mm_ (Nat.le_refl _) | exact er1_fr (her_ mm_ (Nat.le_refl _)) hF_ rfl rfl rfl rfl rfl) (by exact hA_)) (fun u_ Sx4_ px7_ => ?_)
          obtain ⟨rfl, vx9_, rfl, px7_⟩ := px7_
          have b197_ := px7_
          have hIx10_ : gi (sm_pI S_ 3 dd_ 1 vx9_) := gi_pI hI_ (show 0 ≤ vx9_ ∧ vx9_ ≤ 320 from ⟨by omega, by omega⟩)
          have hFx11_ : ai_fr (sx_W vw_32d) S0_ (sm_pI S_ 3 dd_ 1 vx9_) := ai_fr_tr hF_ (ai_fr_pI rfl)
          have hDx12_ : idf dd_ S0_ (sm_pI S_ 3 dd_ 1 vx9_) := idf_pI hD_ (Or.inr rfl)
          refine sm_T_go 2 (c1 := (204, [some (.inr (.inr (some (1, 0)))), some (.inl mx_), some (.inl m_), none, none, none, none], [.inr (.inr (some (1, 0)))], sm_pI S_ 3 dd_ 1 vx9_)) rfl ?_
          refine sm_T_gr rfl rfl ((hFx11_.2.1 1 0 1 rfl).trans hd_) ?_
          refine sm_T_go 3 (c1 := (212, [some (.inr (.inr (some (1, 0)))), some (.inl mx_), some (.inl m_), none, none, none, none], [.inl mx_, .inr (.inr (some (31, 0))), .inr (.inr (some (3, dd_)))], sm_pI S_ 3 dd_ 1 vx9_)) rfl ?_
          refine sm_T_iald (n := 16) rfl rfl (by omega) (by omega) ?_
          have bx13_ : 0 ≤ S_.2.2.1 31 0 mx_.toNat ∧ S_.2.2.1 31 0 mx_.toNat ≤ 100000 := hI_.2 31 0 _
          have hIx14_ : gi (sm_pI (sm_pI S_ 3 dd_ 1 vx9_) 3 dd_ 2 (S_.2.2.1 31 0 mx_.toNat)) := gi_pI hIx10_ (show 0 ≤ (S_.2.2.1 31 0 mx_.toNat) ∧ (S_.2.2.1 31 0 mx_.toNat) ≤ 100000 from ⟨by omega, by omega⟩)
          have hFx15_ : ai_fr (sx_W vw_32d) S0_ (sm_pI (sm_pI S_ 3 dd_ 1 vx9_) 3 dd_ 2 (S_.2.2.1 31 0 mx_.toNat)) := ai_fr_tr hFx11_ (ai_fr_pI rfl)
          have hDx16_ : idf dd_ S0_ (sm_pI (sm_pI S_ 3 dd_ 1 vx9_) 3 dd_ 2 (S_.2.2.1 31 0 mx_.toNat)) := idf_pI hDx12_ (Or.inr rfl)
          refine sm_T_go 2 (c1 := (217, [some (.inr (.inr (some (1, 0)))), some (.inl mx_), some (.inl m_), none, none, none, none], [.inr (.inr (some (1, 0)))], sm_pI (sm_pI S_ 3 dd_ 1 vx9_) 3 dd_ 2 (S_.2.2.1 31 0 mx_.toNat))) rfl ?_
          refine sm_T_gr rfl rfl ((hFx15_.2.1 1 0 1 rfl).trans hd_) ?_
          refine sm_T_go 3 (c1 := (223, [some (.inr (.inr (some (1, 0)))), some (.inl mx_), some (.inl m_), none, none, none, none], [.inl 1, .inl mx_, .inr (.inr (some (1, 0))), .inr (.inr (some (3, dd_)))], sm_pI (sm_pI S_ 3 dd_ 1 vx9_) 3 dd_ 2 (S_.2.2.1 31 0 mx_.toNat))) rfl ?_
          refine sm_T_cal (d1 := 0) (Q1 := vq_33 mx_ 1 b_ n_ A_ mm_ (sm_pI (sm_pI S_ 3 dd_ 1 vx9_) 3 dd_ 2 (S_.2.2.1 31 0 mx_.toNat))) rfl rfl (by decide) (vc_33 mx_ 1 b_ n_ A_ mm_ (sm_pI (sm_pI S_ 3 dd_ 1 vx9_) 3 dd_ 2 (S_.2.2.1 31 0 mx_.toNat)) hIx14_ (by omega) (by first | exact her1_ mm_ (Nat.le_refl _) | exact er1_fr (her_ mm_ (Nat.le_refl _)) hFx15_ rfl rfl rfl rfl rfl) (by exact hA_)) (fun u_ Sx17_ px20_ => ?_)
          obtain ⟨rfl, vx22_, rfl, px20_⟩ := px20_
          have b223_ := px20_
          have hIx23_ : gi (sm_pI (sm_pI (sm_pI S_ 3 dd_ 1 vx9_) 3 dd_ 2 (S_.2.2.1 31 0 mx_.toNat)) 3 dd_ 3 vx22_) := gi_pI hIx14_ (show 0 ≤ vx22_ ∧ vx22_ ≤ 320 from ⟨by omega, by omega⟩)
          have hFx24_ : ai_fr (sx_W vw_32d) S0_ (sm_pI (sm_pI (sm_pI S_ 3 dd_ 1 vx9_) 3 dd_ 2 (S_.2.2.1 31 0 mx_.toNat)) 3 dd_ 3 vx22_) := ai_fr_tr hFx15_ (ai_fr_pI rfl)
          have hDx25_ : idf dd_ S0_ (sm_pI (sm_pI (sm_pI S_ 3 dd_ 1 vx9_) 3 dd_ 2 (S_.2.2.1 31 0 mx_.toNat)) 3 dd_ 3 vx22_) := idf_pI hDx16_ (Or.inr rfl)
          refine sm_T_go 2 (c1 := (230, [some (.inr (.inr (some (1, 0)))), some (.inl mx_), some (.inl m_), none, none, none, none], [.inr (.inr (some (1, 0)))], sm_pI (sm_pI (sm_pI S_ 3 dd_ 1 vx9_) 3 dd_ 2 (S_.2.2.1 31 0 mx_.toNat)) 3 dd_ 3 vx22_)) rfl ?_
          refine sm_T_gr rfl rfl ((hFx24_.2.1 1 0 1 rfl).trans hd_) ?_
          have ex26_ : (sm_pI (sm_pI (sm_pI S_ 3 dd_ 1 vx9_) 3 dd_ 2 (S_.2.2.1 31 0 mx_.toNat)) 3 dd_ 3 vx22_).1 3 dd_ 2 = (S_.2.2.1 31 0 mx_.toNat) := by (try simp only [rf_eq, rf_nk, rf_nt, rd_fa, rd_af, ne_eq, Nat.reduceEqDiff, not_false_eq_true])
          refine sm_T_go 2 (c1 := (238, [some (.inr (.inr (some (1, 0)))), some (.inl mx_), some (.inl m_), none, none, none, none], [.inl 6, .inl ((sm_pI (sm_pI (sm_pI S_ 3 dd_ 1 vx9_) 3 dd_ 2 (S_.2.2.1 31 0 mx_.toNat)) 3 dd_ 3 vx22_).1 3 dd_ 2)], sm_pI (sm_pI (sm_pI S_ 3 dd_ 1 vx9_) 3 dd_ 2 (S_.2.2.1 31 0 mx_.toNat)) 3 dd_ 3 vx22_)) rfl ?_
          refine sm_T_br (a := 4) (z := 23) rfl (fun cx27_ => ?_) (fun cx27_ => ?_)
          · have cx27_ : 6 < ((sm_pI (sm_pI (sm_pI S_ 3 dd_ 1 vx9_) 3 dd_ 2 (S_.2.2.1 31 0 mx_.toNat)) 3 dd_ 3 vx22_).1 3 dd_ 2) := of_decide_eq_true cx27_
            refine sm_T_go 1 (c1 := (263, [some (.inr (.inr (some (1, 0)))), some (.inl mx_), some (.inl m_), none, none, none, none], [.inl 21], sm_pI (sm_pI (sm_pI S_ 3 dd_ 1 vx9_) 3 dd_ 2 (S_.2.2.1 31 0 mx_.toNat)) 3 dd_ 3 vx22_)) rfl ?_
            refine sm_T_ri rfl ⟨_, _, rfl, _, rfl, hIx23_, hFx24_, ?_⟩
            refine ⟨hDx25_, ?_⟩
            refine ⟨?_, ?_, fun _ => ⟨?_, ?_, ?_⟩⟩
            · show _ = p_lm (S_.2.2.1 30 0 mm_) _ (S_.2.2.1 31 0 mm_) _
              unfold p_lm
              rw [← b197_.1, ← b223_.1, ← mI_]
              first | (rw [if_neg (by omega), if_pos (by omega)]) | (rw [if_neg (by omega), if_neg (by omega), if_pos (by omega)]) | (rw [if_neg (by omega), if_neg (by omega), if_neg (by omega)])
            · exact tb_
            · (try simp only [rd_eq, rd_ne, rf_eq, rf_nk, rf_nt, rd_fa, rd_af, rd_fl, rd_al, rd_lf, rd_la, rd_leq, rd_lne, rd_fr, rd_ar, ne_eq, Nat.reduceEqDiff, not_false_eq_true]); exact b197_.1
            · (try simp only [rd_eq, rd_ne, rf_eq, rf_nk, rf_nt, rd_fa, rd_af, rd_fl, rd_al, rd_lf, rd_la, rd_leq, rd_lne, rd_fr, rd_ar, ne_eq, Nat.reduceEqDiff, not_false_eq_true]); rw [mI_]
            · (try simp only [rd_eq, rd_ne, rf_eq, rf_nk, rf_nt, rd_fa, rd_af, rd_fl, rd_al, rd_lf, rd_la, rd_leq, rd_lne, rd_fr, rd_ar, ne_eq, Nat.reduceEqDiff, not_false_eq_true]); exact b223_.1
          · have cx27_ : ¬ (6 < ((sm_pI (sm_pI (sm_pI S_ 3 dd_ 1 vx9_) 3 dd_ 2 (S_.2.2.1 31 0 mx_.toNat)) 3 dd_ 3 vx22_).1 3 dd_ 2)) := of_decide_eq_false cx27_
            refine sm_T_go 1 (c1 := (242, [some (.inr (.inr (some (1, 0)))), some (.inl mx_), some (.inl m_), none, none, none, none], [.inr (.inr (some (1, 0)))], sm_pI (sm_pI (sm_pI S_ 3 dd_ 1 vx9_) 3 dd_ 2 (S_.2.2.1 31 0 mx_.toNat)) 3 dd_ 3 vx22_)) rfl ?_
            refine sm_T_gr rfl rfl ((hFx24_.2.1 1 0 1 rfl).trans hd_) ?_
            have ex28_ : (sm_pI (sm_pI (sm_pI S_ 3 dd_ 1 vx9_) 3 dd_ 2 (S_.2.2.1 31 0 mx_.toNat)) 3 dd_ 3 vx22_).1 3 dd_ 1 = vx9_ := by (try simp only [rf_eq, rf_nk, rf_nt, rd_fa, rd_af, ne_eq, Nat.reduceEqDiff, not_false_eq_true])
            refine sm_T_go 2 (c1 := (249, [some (.inr (.inr (some (1, 0)))), some (.inl mx_), some (.inl m_), none, none, none, none], [.inr (.inr (some (1, 0))), .inl ((sm_pI (sm_pI (sm_pI S_ 3 dd_ 1 vx9_) 3 dd_ 2 (S_.2.2.1 31 0 mx_.toNat)) 3 dd_ 3 vx22_).1 3 dd_ 1)], sm_pI (sm_pI (sm_pI S_ 3 dd_ 1 vx9_) 3 dd_ 2 (S_.2.2.1 31 0 mx_.toNat)) 3 dd_ 3 vx22_)) rfl ?_
            refine sm_T_gr rfl rfl ((hFx24_.2.1 1 0 1 rfl).trans hd_) ?_
            have ex29_ : (sm_pI (sm_pI (sm_pI S_ 3 dd_ 1 vx9_) 3 dd_ 2 (S_.2.2.1 31 0 mx_.toNat)) 3 dd_ 3 vx22_).1 3 dd_ 2 = (S_.2.2.1 31 0 mx_.toNat) := by (try simp only [rf_eq, rf_nk, rf_nt, rd_fa, rd_af, ne_eq, Nat.reduceEqDiff, not_false_eq_true])
            refine sm_T_go 1 (c1 := (255, [some (.inr (.inr (some (1, 0)))), some (.inl mx_), some (.inl m_), none, none, none, none], [.inl ((sm_pI (sm_pI (sm_pI S_ 3 dd_ 1 vx9_) 3 dd_ 2 (S_.2.2.1 31 0 mx_.toNat)) 3 dd_ 3 vx22_).1 3 dd_ 2), .inl ((sm_pI (sm_pI (sm_pI S_ 3 dd_ 1 vx9_) 3 dd_ 2 (S_.2.2.1 31 0 mx_.toNat)) 3 dd_ 3 vx22_).1 3 dd_ 1)], sm_pI (sm_pI (sm_pI S_ 3 dd_ 1 vx9_) 3 dd_ 2 (S_.2.2.1 31 0 mx_.toNat)) 3 dd_ 3 vx22_)) rfl ?_
            refine sm_T_bin (w := ((sm_pI (sm_pI (sm_pI S_ 3 dd_ 1 vx9_) 3 dd_ 2 (S_.2.2.1 31 0 mx_.toNat)) 3 dd_ 3 vx22_).1 3 dd_ 1) + ((sm_pI (sm_pI (sm_pI S_ 3 dd_ 1 vx9_) 3 dd_ 2 (S_.2.2.1 31 0 mx_.toNat)) 3 dd_ 3 vx22_).1 3 dd_ 2)) rfl (bi_add (by omega) (by omega) (by omega)) ?_
            refine sm_T_go 1 (c1 := (258, [some (.inr (.inr (some (1, 0)))), some (.inl mx_), some (.inl m_), none, none, none, none], [.inl 12, .inl (((sm_pI (sm_pI (sm_pI S_ 3 dd_ 1 vx9_) 3 dd_ 2 (S_.2.2.1 31 0 mx_.toNat)) 3 dd_ 3 vx22_).1 3 dd_ 1) + ((sm_pI (sm_pI (sm_pI S_ 3 dd_ 1 vx9_) 3 dd_ 2 (S_.2.2.1 31 0 mx_.toNat)) 3 dd_ 3 vx22_).1 3 dd_ 2))], sm_pI (sm_pI (sm_pI S_ 3 dd_ 1 vx9_) 3 dd_ 2 (S_.2.2.1 31 0 mx_.toNat)) 3 dd_ 3 vx22_)) rfl ?_
            refine sm_T_br (a := 5) (z := 6) rfl (fun cx30_ => ?_) (fun cx30_ => ?_)
            · have cx30_ : ((sm_pI (sm_pI (sm_pI S_ 3 dd_ 1 vx9_) 3 dd_ 2 (S_.2.2.1 31 0 mx_.toNat)) 3 dd_ 3 vx22_).1 3 dd_ 1) + ((sm_pI (sm_pI (sm_pI S_ 3 dd_ 1 vx9_) 3 dd_ 2 (S_.2.2.1 31 0 mx_.toNat)) 3 dd_ 3 vx22_).1 3 dd_ 2) ≤ 12 := of_decide_eq_true cx30_
              refine sm_T_go 1 (c1 := (265, [some (.inr (.inr (some (1, 0)))), some (.inl mx_), some (.inl m_), none, none, none, none], [.inr (.inr (some (1, 0)))], sm_pI (sm_pI (sm_pI S_ 3 dd_ 1 vx9_) 3 dd_ 2 (S_.2.2.1 31 0 mx_.toNat)) 3 dd_ 3 vx22_)) rfl ?_
              refine sm_T_gr rfl rfl ((hFx24_.2.1 1 0 1 rfl).trans hd_) ?_
              have ex31_ : (sm_pI (sm_pI (sm_pI S_ 3 dd_ 1 vx9_) 3 dd_ 2 (S_.2.2.1 31 0 mx_.toNat)) 3 dd_ 3 vx22_).1 3 dd_ 3 = vx22_ := by (try simp only [rf_eq, rf_nk, rf_nt, rd_fa, rd_af, ne_eq, Nat.reduceEqDiff, not_false_eq_true])
              refine sm_T_go 2 (c1 := (272, [some (.inr (.inr (some (1, 0)))), some (.inl mx_), some (.inl m_), none, none, none, none], [.inl 1, .inl ((sm_pI (sm_pI (sm_pI S_ 3 dd_ 1 vx9_) 3 dd_ 2 (S_.2.2.1 31 0 mx_.toNat)) 3 dd_ 3 vx22_).1 3 dd_ 3)], sm_pI (sm_pI (sm_pI S_ 3 dd_ 1 vx9_) 3 dd_ 2 (S_.2.2.1 31 0 mx_.toNat)) 3 dd_ 3 vx22_)) rfl ?_
              refine sm_T_br (a := 2) (z := 15) rfl (fun cx32_ => ?_) (fun cx32_ => ?_)
              · have cx32_ : ((sm_pI (sm_pI (sm_pI S_ 3 dd_ 1 vx9_) 3 dd_ 2 (S_.2.2.1 31 0 mx_.toNat)) 3 dd_ 3 vx22_).1 3 dd_ 3) < 1 := of_decide_eq_true cx32_
                refine sm_T_go 2 (c1 := (293, [some (.inr (.inr (some (1, 0)))), some (.inl mx_), some (.inl m_), none, none, none, none], [.inl 22], sm_pI (sm_pI (sm_pI S_ 3 dd_ 1 vx9_) 3 dd_ 2 (S_.2.2.1 31 0 mx_.toNat)) 3 dd_ 3 vx22_)) rfl ?_
                refine sm_T_ri rfl ⟨_, _, rfl, _, rfl, hIx23_, hFx24_, ?_⟩
                refine ⟨hDx25_, ?_⟩
                refine ⟨?_, ?_, fun _ => ⟨?_, ?_, ?_⟩⟩
                · show _ = p_lm (S_.2.2.1 30 0 mm_) _ (S_.2.2.1 31 0 mm_) _
                  unfold p_lm
                  rw [← b197_.1, ← b223_.1, ← mI_]
                  first | (rw [if_neg (by omega), if_pos (by omega)]) | (rw [if_neg (by omega), if_neg (by omega), if_pos (by omega)]) | (rw [if_neg (by omega), if_neg (by omega), if_neg (by omega)])
                · exact tb_
                · (try simp only [rd_eq, rd_ne, rf_eq, rf_nk, rf_nt, rd_fa, rd_af, rd_fl, rd_al, rd_lf, rd_la, rd_leq, rd_lne, rd_fr, rd_ar, ne_eq, Nat.reduceEqDiff, not_false_eq_true]); exact b197_.1
                · (try simp only [rd_eq, rd_ne, rf_eq, rf_nk, rf_nt, rd_fa, rd_af, rd_fl, rd_al, rd_lf, rd_la, rd_leq, rd_lne, rd_fr, rd_ar, ne_eq, Nat.reduceEqDiff, not_false_eq_true]); rw [mI_]
                · (try simp only [rd_eq, rd_ne, rf_eq, rf_nk, rf_nt, rd_fa, rd_af, rd_fl, rd_al, rd_lf, rd_la, rd_leq, rd_lne, rd_fr, rd_ar, ne_eq, Nat.reduceEqDiff, not_false_eq_true]); exact b223_.1
              · have cx32_ : ¬ (((sm_pI (sm_pI (sm_pI S_ 3 dd_ 1 vx9_) 3 dd_ 2 (S_.2.2.1 31 0 mx_.toNat)) 3 dd_ 3 vx22_).1 3 dd_ 3) < 1) := of_decide_eq_false cx32_
                refine sm_T_go 1 (c1 := (276, [some (.inr (.inr (some (1, 0)))), some (.inl mx_), some (.inl m_), none, none, none, none], [.inr (.inr (some (1, 0)))], sm_pI (sm_pI (sm_pI S_ 3 dd_ 1 vx9_) 3 dd_ 2 (S_.2.2.1 31 0 mx_.toNat)) 3 dd_ 3 vx22_)) rfl ?_
                refine sm_T_gr rfl rfl ((hFx24_.2.1 1 0 1 rfl).trans hd_) ?_
                have ex33_ : (sm_pI (sm_pI (sm_pI S_ 3 dd_ 1 vx9_) 3 dd_ 2 (S_.2.2.1 31 0 mx_.toNat)) 3 dd_ 3 vx22_).1 3 dd_ 3 = vx22_ := by (try simp only [rf_eq, rf_nk, rf_nt, rd_fa, rd_af, ne_eq, Nat.reduceEqDiff, not_false_eq_true])
                refine sm_T_go 2 (c1 := (284, [some (.inr (.inr (some (1, 0)))), some (.inl mx_), some (.inl m_), none, none, none, none], [.inl 16, .inl ((sm_pI (sm_pI (sm_pI S_ 3 dd_ 1 vx9_) 3 dd_ 2 (S_.2.2.1 31 0 mx_.toNat)) 3 dd_ 3 vx22_).1 3 dd_ 3)], sm_pI (sm_pI (sm_pI S_ 3 dd_ 1 vx9_) 3 dd_ 2 (S_.2.2.1 31 0 mx_.toNat)) 3 dd_ 3 vx22_)) rfl ?_
                refine sm_T_br (a := 5) (z := 8) rfl (fun cx34_ => ?_) (fun cx34_ => ?_)
                · have cx34_ : ((sm_pI (sm_pI (sm_pI S_ 3 dd_ 1 vx9_) 3 dd_ 2 (S_.2.2.1 31 0 mx_.toNat)) 3 dd_ 3 vx22_).1 3 dd_ 3) ≤ 16 := of_decide_eq_true cx34_
                  refine sm_T_go 1 (c1 := (293, [some (.inr (.inr (some (1, 0)))), some (.inl mx_), some (.inl m_), none, none, none, none], [.inl 0], sm_pI (sm_pI (sm_pI S_ 3 dd_ 1 vx9_) 3 dd_ 2 (S_.2.2.1 31 0 mx_.toNat)) 3 dd_ 3 vx22_)) rfl ?_
                  refine sm_T_ri rfl ⟨_, _, rfl, _, rfl, hIx23_, hFx24_, ?_⟩
                  refine ⟨hDx25_, ?_⟩
                  refine ⟨?_, ?_, fun _ => ⟨?_, ?_, ?_⟩⟩
                  · show _ = p_lm (S_.2.2.1 30 0 mm_) _ (S_.2.2.1 31 0 mm_) _
                    unfold p_lm
                    rw [← b197_.1, ← b223_.1, ← mI_]
                    first | (rw [if_neg (by omega), if_pos (by omega)]) | (rw [if_neg (by omega), if_neg (by omega), if_pos (by omega)]) | (rw [if_neg (by omega), if_neg (by omega), if_neg (by omega)])
                  · exact tb_
                  · (try simp only [rd_eq, rd_ne, rf_eq, rf_nk, rf_nt, rd_fa, rd_af, rd_fl, rd_al, rd_lf, rd_la, rd_leq, rd_lne, rd_fr, rd_ar, ne_eq, Nat.reduceEqDiff, not_false_eq_true]); exact b197_.1
                  · (try simp only [rd_eq, rd_ne, rf_eq, rf_nk, rf_nt, rd_fa, rd_af, rd_fl, rd_al, rd_lf, rd_la, rd_leq, rd_lne, rd_fr, rd_ar, ne_eq, Nat.reduceEqDiff, not_false_eq_true]); rw [mI_]
                  · (try simp only [rd_eq, rd_ne, rf_eq, rf_nk, rf_nt, rd_fa, rd_af, rd_fl, rd_al, rd_lf, rd_la, rd_leq, rd_lne, rd_fr, rd_ar, ne_eq, Nat.reduceEqDiff, not_false_eq_true]); exact b223_.1
                · have cx34_ : ¬ (((sm_pI (sm_pI (sm_pI S_ 3 dd_ 1 vx9_) 3 dd_ 2 (S_.2.2.1 31 0 mx_.toNat)) 3 dd_ 3 vx22_).1 3 dd_ 3) ≤ 16) := of_decide_eq_false cx34_
                  refine sm_T_go 2 (c1 := (293, [some (.inr (.inr (some (1, 0)))), some (.inl mx_), some (.inl m_), none, none, none, none], [.inl 22], sm_pI (sm_pI (sm_pI S_ 3 dd_ 1 vx9_) 3 dd_ 2 (S_.2.2.1 31 0 mx_.toNat)) 3 dd_ 3 vx22_)) rfl ?_
                  refine sm_T_ri rfl ⟨_, _, rfl, _, rfl, hIx23_, hFx24_, ?_⟩
                  refine ⟨hDx25_, ?_⟩
                  refine ⟨?_, ?_, fun _ => ⟨?_, ?_, ?_⟩⟩
                  · show _ = p_lm (S_.2.2.1 30 0 mm_) _ (S_.2.2.1 31 0 mm_) _
                    unfold p_lm
                    rw [← b197_.1, ← b223_.1, ← mI_]
                    first | (rw [if_neg (by omega), if_pos (by omega)]) | (rw [if_neg (by omega), if_neg (by omega), if_pos (by omega)]) | (rw [if_neg (by omega), if_neg (by omega), if_neg (by omega)])
                  · exact tb_
                  · (try simp only [rd_eq, rd_ne, rf_eq, rf_nk, rf_nt, rd_fa, rd_af, rd_fl, rd_al, rd_lf, rd_la, rd_leq, rd_lne, rd_fr, rd_ar, ne_eq, Nat.reduceEqDiff, not_false_eq_true]); exact b197_.1
                  · (try simp only [rd_eq, rd_ne, rf_eq, rf_nk, rf_nt, rd_fa, rd_af, rd_fl, rd_al, rd_lf, rd_la, rd_leq, rd_lne, rd_fr, rd_ar, ne_eq, Nat.reduceEqDiff, not_false_eq_true]); rw [mI_]
                  · (try simp only [rd_eq, rd_ne, rf_eq, rf_nk, rf_nt, rd_fa, rd_af, rd_fl, rd_al, rd_lf, rd_la, rd_leq, rd_lne, rd_fr, rd_ar, ne_eq, Nat.reduceEqDiff, not_false_eq_true]); exact b223_.1
            · have cx30_ : ¬ (((sm_pI (sm_pI (sm_pI S_ 3 dd_ 1 vx9_) 3 dd_ 2 (S_.2.2.1 31 0 mx_.toNat)) 3 dd_ 3 vx22_).1 3 dd_ 1) + ((sm_pI (sm_pI (sm_pI S_ 3 dd_ 1 vx9_) 3 dd_ 2 (S_.2.2.1 31 0 mx_.toNat)) 3 dd_ 3 vx22_).1 3 dd_ 2) ≤ 12) := of_decide_eq_false cx30_
              refine sm_T_go 1 (c1 := (263, [some (.inr (.inr (some (1, 0)))), some (.inl mx_), some (.inl m_), none, none, none, none], [.inl 21], sm_pI (sm_pI (sm_pI S_ 3 dd_ 1 vx9_) 3 dd_ 2 (S_.2.2.1 31 0 mx_.toNat)) 3 dd_ 3 vx22_)) rfl ?_
              refine sm_T_ri rfl ⟨_, _, rfl, _, rfl, hIx23_, hFx24_, ?_⟩
              refine ⟨hDx25_, ?_⟩
              refine ⟨?_, ?_, fun _ => ⟨?_, ?_, ?_⟩⟩
              · show _ = p_lm (S_.2.2.1 30 0 mm_) _ (S_.2.2.1 31 0 mm_) _
                unfold p_lm
                rw [← b197_.1, ← b223_.1, ← mI_]
                first | (rw [if_neg (by omega), if_pos (by omega)]) | (rw [if_neg (by omega), if_neg (by omega), if_pos (by omega)]) | (rw [if_neg (by omega), if_neg (by omega), if_neg (by omega)])
              · exact tb_
              · (try simp only [rd_eq, rd_ne, rf_eq, rf_nk, rf_nt, rd_fa, rd_af, rd_fl, rd_al, rd_lf, rd_la, rd_leq, rd_lne, rd_fr, rd_ar, ne_eq, Nat.reduceEqDiff, not_false_eq_true]); exact b197_.1
              · (try simp only [rd_eq, rd_ne, rf_eq, rf_nk, rf_nt, rd_fa, rd_af, rd_fl, rd_al, rd_lf, rd_la, rd_leq, rd_lne, rd_fr, rd_ar, ne_eq, Nat.reduceEqDiff, not_false_eq_true]); rw [mI_]
              · (try simp only [rd_eq, rd_ne, rf_eq, rf_nk, rf_nt, rd_fa, rd_af, rd_fl, rd_al, rd_lf, rd_la, rd_leq, rd_lne, rd_fr, rd_ar, ne_eq, Nat.reduceEqDiff, not_false_eq_true]); exact b223_.1
        · have cx3_ : ¬ ((S_.2.2.1 30 0 mx_.toNat) ≤ 200) := of_decide_eq_false cx3_
          refine sm_T_go 1 (c1 := (189, [some (.inr (.inr (some (1, 0)))), some (.inl mx_), some (.inl m_), none, none, none, none], [.inl 20], S_)) rfl ?_
          refine sm_T_ri rfl ⟨_, _, rfl, _, rfl, hI_, hF_, ?_⟩
          refine ⟨hD_, ?_⟩
          refine ⟨?_, tb_, fun z_ => absurd rfl z_⟩
          unfold p_lm; rw [← mI_, if_pos (by omega)]
      · have cx1_ : ¬ (mx_ < m_) := of_decide_eq_false cx1_
        refine sm_T_go 6 (c1 := (15, [some (.inr (.inr (some (1, 0)))), some (.inl mx_), some (.inl m_), some (.inl 0), some (.inl 0), some (.inl 0), none], [], S_)) rfl ?_
        refine ih_.2 m_ 0 0 0 S_ hI_ hF_ ⟨?_, ?_, ?_, ?_, ?_, ?_, ?_, trivial⟩ ?_
        · omega
        · omega
        · rfl
        · rfl
        · omega
        · exact h1_
        · exact hD_
        · omega
    · rintro m_ us_ bi_ s_ S_ hI_ hF_ ⟨h0_, hs_, hu_, hb_, hub_, h1_, hD_, -⟩ hm_
      have her1_ : ∀ k_, k_ ≤ mm_ → er1 b_ n_ A_ k_ S_ := fun k_ hk_ => er1_fr (her_ k_ hk_) hF_ rfl rfl rfl rfl rfl
      have dsg_ : S_.2.1 1 0 1 = some dd_ := (hF_.2.1 1 0 1 rfl).trans hd_
      have cn_ : S_.2.2.1 77 0 m_.toNat = (A_.1 m_.toNat : Int) := (her1_ m_.toNat (by omega)).1
      have aM_ := hA_.2 m_.toNat (by omega)
      have A40_ := aM_.1
      have rw1_ : s_ < (A_.1 m_.toNat : Int) → S_.2.2.1 79 0 (40 * m_ + s_).toNat = A_.2.2.1 (40 * m_.toNat + s_.toNat) ∧ S_.2.2.1 80 0 (40 * m_ + s_).toNat = A_.2.2.2.1 (40 * m_.toNat + s_.toNat) ∧ S_.2.2.1 81 0 (40 * m_ + s_).toNat = A_.2.2.2.2 (40 * m_.toNat + s_.toNat) := by intro z_; rw [show (40 * m_ + s_).toNat = 40 * m_.toNat + s_.toNat by omega]; exact ((her1_ m_.toNat (by omega)).2 s_.toNat (by omega)).2
      have ok1_ : s_ < (A_.1 m_.toNat : Int) → (A_.2.2.1 (40 * m_.toNat + s_.toNat) = 5 → 0 ≤ A_.2.2.2.2 (40 * m_.toNat + s_.toNat) ∧ A_.2.2.2.2 (40 * m_.toNat + s_.toNat) < m_) ∧ 0 ≤ A_.2.2.2.1 (40 * m_.toNat + s_.toNat) ∧ A_.2.2.2.1 (40 * m_.toNat + s_.toNat) ≤ 8 := by intro z_; have y_ := aM_.2 s_.toNat (by omega); exact ⟨fun w_ => by have := y_.2.2.2.2.1 w_; omega, y_.2.2.1⟩
      refine sm_T_go 5 (c1 := (25, [some (.inr (.inr (some (1, 0)))), some (.inl mx_), some (.inl m_), some (.inl us_), some (.inl bi_), some (.inl s_), none], [.inl m_, .inr (.inr (some (77, 0))), .inl s_], S_)) rfl ?_
      refine sm_T_iald (n := 17) rfl rfl (by omega) (by omega) ?_
      have bx1_ : 0 ≤ S_.2.2.1 77 0 m_.toNat ∧ S_.2.2.1 77 0 m_.toNat ≤ 40 := hI_.2 77 0 _
      refine sm_T_br (a := 3) (z := 118) rfl (fun cx2_ => ?_) (fun cx2_ => ?_)
      · have cx2_ : (S_.2.2.1 77 0 m_.toNat) ≤ s_ := of_decide_eq_true cx2_
        refine sm_T_go 4 (c1 := (150, [some (.inr (.inr (some (1, 0)))), some (.inl mx_), some (.inl m_), some (.inl us_), some (.inl bi_), some (.inl s_), none], [.inl us_, .inl m_, .inr (.inr (some (30, 0)))], S_)) rfl ?_
        refine sm_T_nt (u := some (.inl 100000)) (S1 := S_) rfl rfl rfl ?_
        refine sm_T_nt (u := some (.inl (sm_mn us_ 100000))) (S1 := S_) rfl rfl rfl ?_
        have bx3_ := sm_mn_d us_ 100000
        refine sm_T_iast (n := 16) rfl rfl (by omega) (by omega) ?_
        have hIx4_ : gi (sm_aI S_ 30 0 m_.toNat (sm_mn us_ 100000)) := gi_aI hI_ (show 0 ≤ (sm_mn us_ 100000) ∧ (sm_mn us_ 100000) ≤ 100000 from ⟨by omega, by omega⟩)
        have hFx5_ : ai_fr (sx_W vw_32d) S0_ (sm_aI S_ 30 0 m_.toNat (sm_mn us_ 100000)) := ai_fr_tr hF_ (ai_fr_aI rfl)
        have hDx6_ : idf dd_ S0_ (sm_aI S_ 30 0 m_.toNat (sm_mn us_ 100000)) := idf_aI hD_ (Or.inl (by decide))
        refine sm_T_go 4 (c1 := (163, [some (.inr (.inr (some (1, 0)))), some (.inl mx_), some (.inl m_), some (.inl us_), some (.inl bi_), some (.inl s_), none], [.inl bi_, .inl m_, .inr (.inr (some (31, 0)))], sm_aI S_ 30 0 m_.toNat (sm_mn us_ 100000))) rfl ?_
        refine sm_T_nt (u := some (.inl 100000)) (S1 := sm_aI S_ 30 0 m_.toNat (sm_mn us_ 100000)) rfl rfl rfl ?_
        refine sm_T_nt (u := some (.inl (sm_mn bi_ 100000))) (S1 := sm_aI S_ 30 0 m_.toNat (sm_mn us_ 100000)) rfl rfl rfl ?_
        have bx7_ := sm_mn_d bi_ 100000
        refine sm_T_iast (n := 16) rfl rfl (by omega) (by omega) ?_
        have hIx8_ : gi (sm_aI (sm_aI S_ 30 0 m_.toNat (sm_mn us_ 100000)) 31 0 m_.toNat (sm_mn bi_ 100000)) := gi_aI hIx4_ (show 0 ≤ (sm_mn bi_ 100000) ∧ (sm_mn bi_ 100000) ≤ 100000 from ⟨by omega, by omega⟩)
        have hFx9_ : ai_fr (sx_W vw_32d) S0_ (sm_aI (sm_aI S_ 30 0 m_.toNat (sm_mn us_ 100000)) 31 0 m_.toNat (sm_mn bi_ 100000)) := ai_fr_tr hFx5_ (ai_fr_aI rfl)
        have hDx10_ : idf dd_ S0_ (sm_aI (sm_aI S_ 30 0 m_.toNat (sm_mn us_ 100000)) 31 0 m_.toNat (sm_mn bi_ 100000)) := idf_aI hDx6_ (Or.inl (by decide))
        refine sm_T_inc (a := 2) (z := 1) (v := m_) (w := m_ + 1) rfl rfl (by omega) (by omega) (by omega) ?_
        refine sm_T_go 1 (c1 := (2, [some (.inr (.inr (some (1, 0)))), some (.inl mx_), some (.inl (m_ + 1)), some (.inl us_), some (.inl bi_), some (.inl s_), none], [], sm_aI (sm_aI S_ 30 0 m_.toNat (sm_mn us_ 100000)) 31 0 m_.toNat (sm_mn bi_ 100000))) rfl ?_
        refine sm_T_wk [some (.inr (.inr (some (1, 0)))), some (.inl mx_), some (.inl (m_ + 1)), none, none, none, none] (by exact ⟨rfl, rfl, rfl, trivial⟩) ?_
        refine ih_.1 (m_ + 1) (sm_aI (sm_aI S_ 30 0 m_.toNat (sm_mn us_ 100000)) 31 0 m_.toNat (sm_mn bi_ 100000)) hIx8_ hFx9_ ⟨?_, ?_, ?_, trivial⟩ ?_
        · omega
        · rw [show (m_ + 1).toNat = m_.toNat + 1 by omega]
          have es_ : s_.toNat = A_.1 m_.toNat := by omega
          rw [es_] at hu_ hb_
          exact lt1_up (a_ok_le hA_ (by omega)) h1_ (fun j_ => by rw [rd_ne (by decide), rd_eq, sm_mc, hu_]) (fun j_ => by rw [rd_eq, rd_ne (by decide), sm_mc, hb_])
        · exact hDx10_
        · omega
      · have cx2_ : ¬ ((S_.2.2.1 77 0 m_.toNat) ≤ s_) := of_decide_eq_false cx2_
        obtain ⟨r79_, r80_, r81_⟩ := rw1_ (by omega)
        obtain ⟨ok5_, okw_⟩ := ok1_ (by omega)
        refine sm_T_go 2 (c1 := (32, [some (.inr (.inr (some (1, 0)))), some (.inl mx_), some (.inl m_), some (.inl us_), some (.inl bi_), some (.inl s_), none], [.inl 40, .inl m_], S_)) rfl ?_
        refine sm_T_bin (w := 40 * m_) rfl (bi_mul (by omega) (by omega) (by omega)) ?_
        refine sm_T_go 1 (c1 := (35, [some (.inr (.inr (some (1, 0)))), some (.inl mx_), some (.inl m_), some (.inl us_), some (.inl bi_), some (.inl s_), none], [.inl s_, .inl (40 * m_)], S_)) rfl ?_
        refine sm_T_bin (w := 40 * m_ + s_) rfl (bi_add (by omega) (by omega) (by omega)) ?_
        refine sm_T_go 5 (c1 := (47, [some (.inr (.inr (some (1, 0)))), some (.inl mx_), some (.inl m_), some (.inl us_), some (.inl bi_), some (.inl s_), some (.inl (40 * m_ + s_))], [.inl (40 * m_ + s_), .inr (.inr (some (79, 0)))], S_)) rfl ?_
        refine sm_T_iald (n := 640) rfl rfl (by omega) (by omega) ?_
        have bx11_ : 0 ≤ S_.2.2.1 79 0 (40 * m_ + s_).toNat ∧ S_.2.2.1 79 0 (40 * m_ + s_).toNat ≤ 5 := hI_.2 79 0 _
        refine sm_T_go 1 (c1 := (49, [some (.inr (.inr (some (1, 0)))), some (.inl mx_), some (.inl m_), some (.inl us_), some (.inl bi_), some (.inl s_), some (.inl (40 * m_ + s_))], [.inl 5, .inl (S_.2.2.1 79 0 (40 * m_ + s_).toNat)], S_)) rfl ?_
        refine sm_T_br (a := 1) (z := 46) rfl (fun cx12_ => ?_) (fun cx12_ => ?_)
        · have cx12_ : (S_.2.2.1 79 0 (40 * m_ + s_).toNat) ≠ 5 := of_decide_eq_true cx12_
          refine sm_T_go 4 (c1 := (104, [some (.inr (.inr (some (1, 0)))), some (.inl mx_), some (.inl m_), some (.inl us_), some (.inl bi_), some (.inl s_), some (.inl (40 * m_ + s_))], [.inl (40 * m_ + s_), .inr (.inr (some (79, 0)))], S_)) rfl ?_
          refine sm_T_iald (n := 640) rfl rfl (by omega) (by omega) ?_
          refine sm_T_go 1 (c1 := (106, [some (.inr (.inr (some (1, 0)))), some (.inl mx_), some (.inl m_), some (.inl us_), some (.inl bi_), some (.inl s_), some (.inl (40 * m_ + s_))], [.inl 3, .inl (S_.2.2.1 79 0 (40 * m_ + s_).toNat)], S_)) rfl ?_
          refine sm_T_br (a := 0) (z := 17) rfl (fun cx13_ => ?_) (fun cx13_ => ?_)
          · have cx13_ : (S_.2.2.1 79 0 (40 * m_ + s_).toNat) = 3 := of_decide_eq_true cx13_
            refine sm_T_go 5 (c1 := (134, [some (.inr (.inr (some (1, 0)))), some (.inl mx_), some (.inl m_), some (.inl us_), some (.inl bi_), some (.inl s_), some (.inl (40 * m_ + s_))], [.inl (40 * m_ + s_), .inr (.inr (some (80, 0))), .inl bi_], S_)) rfl ?_
            refine sm_T_iald (n := 640) rfl rfl (by omega) (by omega) ?_
            have bx14_ : 0 ≤ S_.2.2.1 80 0 (40 * m_ + s_).toNat ∧ S_.2.2.1 80 0 (40 * m_ + s_).toNat ≤ 8 := hI_.2 80 0 _
            refine sm_T_bin (w := bi_ + (S_.2.2.1 80 0 (40 * m_ + s_).toNat)) rfl (bi_add (by omega) (by omega) (by omega)) ?_
            refine sm_T_go 1 (c1 := (138, [some (.inr (.inr (some (1, 0)))), some (.inl mx_), some (.inl m_), some (.inl us_), some (.inl (bi_ + (S_.2.2.1 80 0 (40 * m_ + s_).toNat))), some (.inl s_), some (.inl (40 * m_ + s_))], [], S_)) rfl ?_
            refine sm_T_inc (a := 5) (z := 1) (v := s_) (w := s_ + 1) rfl rfl (by omega) (by omega) (by omega) ?_
            refine sm_T_go 1 (c1 := (15, [some (.inr (.inr (some (1, 0)))), some (.inl mx_), some (.inl m_), some (.inl us_), some (.inl (bi_ + (S_.2.2.1 80 0 (40 * m_ + s_).toNat))), some (.inl (s_ + 1)), some (.inl (40 * m_ + s_))], [], S_)) rfl ?_
            refine sm_T_wk [some (.inr (.inr (some (1, 0)))), some (.inl mx_), some (.inl m_), some (.inl us_), some (.inl (bi_ + (S_.2.2.1 80 0 (40 * m_ + s_).toNat))), some (.inl (s_ + 1)), none] (by exact ⟨rfl, rfl, rfl, rfl, rfl, rfl, trivial⟩) ?_
            refine ih_.2 m_ us_ (bi_ + (S_.2.2.1 80 0 (40 * m_ + s_).toNat)) (s_ + 1) S_ hI_ hF_ ⟨?_, ?_, ?_, ?_, ?_, ?_, ?_, trivial⟩ ?_
            · omega
            · omega
            · rw [show (s_ + 1).toNat = s_.toNat + 1 by omega]
              show _ = su (t_is (S_.2.2.1 30 0) A_ m_.toNat) s_.toNat + (if A_.2.2.1 (40 * m_.toNat + s_.toNat) = 5 then 1 + S_.2.2.1 30 0 (A_.2.2.2.2 (40 * m_.toNat + s_.toNat)).toNat else 0)
              first | (rw [if_pos (by omega), ← r81_]; omega) | (rw [if_neg (by omega)]; omega)
            · rw [show (s_ + 1).toNat = s_.toNat + 1 by omega]
              show _ = su (t_rg (S_.2.2.1 31 0) A_ m_.toNat) s_.toNat + (if A_.2.2.1 (40 * m_.toNat + s_.toNat) = 3 ∨ A_.2.2.1 (40 * m_.toNat + s_.toNat) = 4 then A_.2.2.2.1 (40 * m_.toNat + s_.toNat) else if A_.2.2.1 (40 * m_.toNat + s_.toNat) = 5 then S_.2.2.1 31 0 (A_.2.2.2.2 (40 * m_.toNat + s_.toNat)).toNat else 0)
              first | (rw [if_pos (by omega)]; omega) | (rw [if_neg (by omega), if_pos (by omega), ← r81_]; omega) | (rw [if_neg (by omega), if_neg (by omega)]; omega)
            · omega
            · exact h1_
            · exact hD_
            · omega
          · have cx13_ : ¬ ((S_.2.2.1 79 0 (40 * m_ + s_).toNat) = 3) := of_decide_eq_false cx13_
            refine sm_T_go 4 (c1 := (118, [some (.inr (.inr (some (1, 0)))), some (.inl mx_), some (.inl m_), some (.inl us_), some (.inl bi_), some (.inl s_), some (.inl (40 * m_ + s_))], [.inl (40 * m_ + s_), .inr (.inr (some (79, 0)))], S_)) rfl ?_
            refine sm_T_iald (n := 640) rfl rfl (by omega) (by omega) ?_
            refine sm_T_go 1 (c1 := (120, [some (.inr (.inr (some (1, 0)))), some (.inl mx_), some (.inl m_), some (.inl us_), some (.inl bi_), some (.inl s_), some (.inl (40 * m_ + s_))], [.inl 4, .inl (S_.2.2.1 79 0 (40 * m_ + s_).toNat)], S_)) rfl ?_
            refine sm_T_br (a := 1) (z := 18) rfl (fun cx15_ => ?_) (fun cx15_ => ?_)
            · have cx15_ : (S_.2.2.1 79 0 (40 * m_ + s_).toNat) ≠ 4 := of_decide_eq_true cx15_
              refine sm_T_inc (a := 5) (z := 1) (v := s_) (w := s_ + 1) rfl rfl (by omega) (by omega) (by omega) ?_
              refine sm_T_go 1 (c1 := (15, [some (.inr (.inr (some (1, 0)))), some (.inl mx_), some (.inl m_), some (.inl us_), some (.inl bi_), some (.inl (s_ + 1)), some (.inl (40 * m_ + s_))], [], S_)) rfl ?_
              refine sm_T_wk [some (.inr (.inr (some (1, 0)))), some (.inl mx_), some (.inl m_), some (.inl us_), some (.inl bi_), some (.inl (s_ + 1)), none] (by exact ⟨rfl, rfl, rfl, rfl, rfl, rfl, trivial⟩) ?_
              refine ih_.2 m_ us_ bi_ (s_ + 1) S_ hI_ hF_ ⟨?_, ?_, ?_, ?_, ?_, ?_, ?_, trivial⟩ ?_
              · omega
              · omega
              · rw [show (s_ + 1).toNat = s_.toNat + 1 by omega]
                show _ = su (t_is (S_.2.2.1 30 0) A_ m_.toNat) s_.toNat + (if A_.2.2.1 (40 * m_.toNat + s_.toNat) = 5 then 1 + S_.2.2.1 30 0 (A_.2.2.2.2 (40 * m_.toNat + s_.toNat)).toNat else 0)
                first | (rw [if_pos (by omega), ← r81_]; omega) | (rw [if_neg (by omega)]; omega)
              · rw [show (s_ + 1).toNat = s_.toNat + 1 by omega]
                show _ = su (t_rg (S_.2.2.1 31 0) A_ m_.toNat) s_.toNat + (if A_.2.2.1 (40 * m_.toNat + s_.toNat) = 3 ∨ A_.2.2.1 (40 * m_.toNat + s_.toNat) = 4 then A_.2.2.2.1 (40 * m_.toNat + s_.toNat) else if A_.2.2.1 (40 * m_.toNat + s_.toNat) = 5 then S_.2.2.1 31 0 (A_.2.2.2.2 (40 * m_.toNat + s_.toNat)).toNat else 0)
                first | (rw [if_pos (by omega)]; omega) | (rw [if_neg (by omega), if_pos (by omega), ← r81_]; omega) | (rw [if_neg (by omega), if_neg (by omega)]; omega)
              · omega
              · exact h1_
              · exact hD_
              · omega
            · have cx15_ : ¬ ((S_.2.2.1 79 0 (40 * m_ + s_).toNat) ≠ 4) := of_decide_eq_false cx15_
              refine sm_T_go 5 (c1 := (134, [some (.inr (.inr (some (1, 0)))), some (.inl mx_), some (.inl m_), some (.inl us_), some (.inl bi_), some (.inl s_), some (.inl (40 * m_ + s_))], [.inl (40 * m_ + s_), .inr (.inr (some (80, 0))), .inl bi_], S_)) rfl ?_
              refine sm_T_iald (n := 640) rfl rfl (by omega) (by omega) ?_
              have bx16_ : 0 ≤ S_.2.2.1 80 0 (40 * m_ + s_).toNat ∧ S_.2.2.1 80 0 (40 * m_ + s_).toNat ≤ 8 := hI_.2 80 0 _
              refine sm_T_bin (w := bi_ + (S_.2.2.1 80 0 (40 * m_ + s_).toNat)) rfl (bi_add (by omega) (by omega) (by omega)) ?_
              refine sm_T_go 1 (c1 := (138, [some (.inr (.inr (some (1, 0)))), some (.inl mx_), some (.inl m_), some (.inl us_), some (.inl (bi_ + (S_.2.2.1 80 0 (40 * m_ + s_).toNat))), some (.inl s_), some (.inl (40 * m_ + s_))], [], S_)) rfl ?_
              refine sm_T_inc (a := 5) (z := 1) (v := s_) (w := s_ + 1) rfl rfl (by omega) (by omega) (by omega) ?_
              refine sm_T_go 1 (c1 := (15, [some (.inr (.inr (some (1, 0)))), some (.inl mx_), some (.inl m_), some (.inl us_), some (.inl (bi_ + (S_.2.2.1 80 0 (40 * m_ + s_).toNat))), some (.inl (s_ + 1)), some (.inl (40 * m_ + s_))], [], S_)) rfl ?_
              refine sm_T_wk [some (.inr (.inr (some (1, 0)))), some (.inl mx_), some (.inl m_), some (.inl us_), some (.inl (bi_ + (S_.2.2.1 80 0 (40 * m_ + s_).toNat))), some (.inl (s_ + 1)), none] (by exact ⟨rfl, rfl, rfl, rfl, rfl, rfl, trivial⟩) ?_
              refine ih_.2 m_ us_ (bi_ + (S_.2.2.1 80 0 (40 * m_ + s_).toNat)) (s_ + 1) S_ hI_ hF_ ⟨?_, ?_, ?_, ?_, ?_, ?_, ?_, trivial⟩ ?_
              · omega
              · omega
              · rw [show (s_ + 1).toNat = s_.toNat + 1 by omega]
                show _ = su (t_is (S_.2.2.1 30 0) A_ m_.toNat) s_.toNat + (if A_.2.2.1 (40 * m_.toNat + s_.toNat) = 5 then 1 + S_.2.2.1 30 0 (A_.2.2.2.2 (40 * m_.toNat + s_.toNat)).toNat else 0)
                first | (rw [if_pos (by omega), ← r81_]; omega) | (rw [if_neg (by omega)]; omega)
              · rw [show (s_ + 1).toNat = s_.toNat + 1 by omega]
                show _ = su (t_rg (S_.2.2.1 31 0) A_ m_.toNat) s_.toNat + (if A_.2.2.1 (40 * m_.toNat + s_.toNat) = 3 ∨ A_.2.2.1 (40 * m_.toNat + s_.toNat) = 4 then A_.2.2.2.1 (40 * m_.toNat + s_.toNat) else if A_.2.2.1 (40 * m_.toNat + s_.toNat) = 5 then S_.2.2.1 31 0 (A_.2.2.2.2 (40 * m_.toNat + s_.toNat)).toNat else 0)
                first | (rw [if_pos (by omega)]; omega) | (rw [if_neg (by omega), if_pos (by omega), ← r81_]; omega) | (rw [if_neg (by omega), if_neg (by omega)]; omega)
              · omega
              · exact h1_
              · exact hD_
              · omega
        · have cx12_ : ¬ ((S_.2.2.1 79 0 (40 * m_ + s_).toNat) ≠ 5) := of_decide_eq_false cx12_
          have s5_ : A_.2.2.1 (40 * m_.toNat + s_.toNat) = 5 := by omega
          have d5_ := ok5_ s5_
          refine sm_T_go 8 (c1 := (67, [some (.inr (.inr (some (1, 0)))), some (.inl mx_), some (.inl m_), some (.inl us_), some (.inl bi_), some (.inl s_), some (.inl (40 * m_ + s_))], [.inl (40 * m_ + s_), .inr (.inr (some (81, 0))), .inr (.inr (some (30, 0))), .inl 1, .inl us_], S_)) rfl ?_
          refine sm_T_iald (n := 640) rfl rfl (by omega) (by omega) ?_
          have bx17_ : 0 ≤ S_.2.2.1 81 0 (40 * m_ + s_).toNat ∧ S_.2.2.1 81 0 (40 * m_ + s_).toNat ≤ 255 := hI_.2 81 0 _
          refine sm_T_iald (n := 16) rfl rfl (by omega) (by omega) ?_
          have bx18_ : 0 ≤ S_.2.2.1 30 0 (S_.2.2.1 81 0 (40 * m_ + s_).toNat).toNat ∧ S_.2.2.1 30 0 (S_.2.2.1 81 0 (40 * m_ + s_).toNat).toNat ≤ 100000 := hI_.2 30 0 _
          refine sm_T_bin (w := (S_.2.2.1 30 0 (S_.2.2.1 81 0 (40 * m_ + s_).toNat).toNat) + 1) rfl (bi_add (by omega) (by omega) (by omega)) ?_
          refine sm_T_bin (w := us_ + (S_.2.2.1 30 0 (S_.2.2.1 81 0 (40 * m_ + s_).toNat).toNat) + 1) rfl (bi_add (by omega) (by omega) (by omega)) ?_
          refine sm_T_go 8 (c1 := (87, [some (.inr (.inr (some (1, 0)))), some (.inl mx_), some (.inl m_), some (.inl (us_ + (S_.2.2.1 30 0 (S_.2.2.1 81 0 (40 * m_ + s_).toNat).toNat) + 1)), some (.inl bi_), some (.inl s_), some (.inl (40 * m_ + s_))], [.inl (40 * m_ + s_), .inr (.inr (some (81, 0))), .inr (.inr (some (31, 0))), .inl bi_], S_)) rfl ?_
          refine sm_T_iald (n := 640) rfl rfl (by omega) (by omega) ?_
          refine sm_T_iald (n := 16) rfl rfl (by omega) (by omega) ?_
          have bx19_ : 0 ≤ S_.2.2.1 31 0 (S_.2.2.1 81 0 (40 * m_ + s_).toNat).toNat ∧ S_.2.2.1 31 0 (S_.2.2.1 81 0 (40 * m_ + s_).toNat).toNat ≤ 100000 := hI_.2 31 0 _
          refine sm_T_bin (w := bi_ + (S_.2.2.1 31 0 (S_.2.2.1 81 0 (40 * m_ + s_).toNat).toNat)) rfl (bi_add (by omega) (by omega) (by omega)) ?_
          refine sm_T_go 2 (c1 := (138, [some (.inr (.inr (some (1, 0)))), some (.inl mx_), some (.inl m_), some (.inl (us_ + (S_.2.2.1 30 0 (S_.2.2.1 81 0 (40 * m_ + s_).toNat).toNat) + 1)), some (.inl (bi_ + (S_.2.2.1 31 0 (S_.2.2.1 81 0 (40 * m_ + s_).toNat).toNat))), some (.inl s_), some (.inl (40 * m_ + s_))], [], S_)) rfl ?_
          refine sm_T_inc (a := 5) (z := 1) (v := s_) (w := s_ + 1) rfl rfl (by omega) (by omega) (by omega) ?_
          refine sm_T_go 1 (c1 := (15, [some (.inr (.inr (some (1, 0)))), some (.inl mx_), some (.inl m_), some (.inl (us_ + (S_.2.2.1 30 0 (S_.2.2.1 81 0 (40 * m_ + s_).toNat).toNat) + 1)), some (.inl (bi_ + (S_.2.2.1 31 0 (S_.2.2.1 81 0 (40 * m_ + s_).toNat).toNat))), some (.inl (s_ + 1)), some (.inl (40 * m_ + s_))], [], S_)) rfl ?_
          refine sm_T_wk [some (.inr (.inr (some (1, 0)))), some (.inl mx_), some (.inl m_), some (.inl (us_ + (S_.2.2.1 30 0 (S_.2.2.1 81 0 (40 * m_ + s_).toNat).toNat) + 1)), some (.inl (bi_ + (S_.2.2.1 31 0 (S_.2.2.1 81 0 (40 * m_ + s_).toNat).toNat))), some (.inl (s_ + 1)), none] (by exact ⟨rfl, rfl, rfl, rfl, rfl, rfl, trivial⟩) ?_
          refine ih_.2 m_ (us_ + (S_.2.2.1 30 0 (S_.2.2.1 81 0 (40 * m_ + s_).toNat).toNat) + 1) (bi_ + (S_.2.2.1 31 0 (S_.2.2.1 81 0 (40 * m_ + s_).toNat).toNat)) (s_ + 1) S_ hI_ hF_ ⟨?_, ?_, ?_, ?_, ?_, ?_, ?_, trivial⟩ ?_
          · omega
          · omega
          · rw [show (s_ + 1).toNat = s_.toNat + 1 by omega]
            show _ = su (t_is (S_.2.2.1 30 0) A_ m_.toNat) s_.toNat + (if A_.2.2.1 (40 * m_.toNat + s_.toNat) = 5 then 1 + S_.2.2.1 30 0 (A_.2.2.2.2 (40 * m_.toNat + s_.toNat)).toNat else 0)
            first | (rw [if_pos (by omega), ← r81_]; omega) | (rw [if_neg (by omega)]; omega)
          · rw [show (s_ + 1).toNat = s_.toNat + 1 by omega]
            show _ = su (t_rg (S_.2.2.1 31 0) A_ m_.toNat) s_.toNat + (if A_.2.2.1 (40 * m_.toNat + s_.toNat) = 3 ∨ A_.2.2.1 (40 * m_.toNat + s_.toNat) = 4 then A_.2.2.2.1 (40 * m_.toNat + s_.toNat) else if A_.2.2.1 (40 * m_.toNat + s_.toNat) = 5 then S_.2.2.1 31 0 (A_.2.2.2.2 (40 * m_.toNat + s_.toNat)).toNat else 0)
            first | (rw [if_pos (by omega)]; omega) | (rw [if_neg (by omega), if_pos (by omega), ← r81_]; omega) | (rw [if_neg (by omega), if_neg (by omega)]; omega)
          · omega
          · exact h1_
          · exact hD_
          · omega
set_option maxHeartbeats 1500000 in
set_option maxRecDepth 20000 in
theorem vc_32d {sc_ : Nat × (Nat → Int)} (mx_ : Int) (b_ : Nat → Int) (n_ : Nat) (A_ : pA) (mm_ : Nat) (dd_ : Nat) (S0_ : sm_S) (hI_ : gi S0_) (hmx_ : mx_ = (mm_ : Int) ∧ mm_ ≤ 15) (her_ : ∀ k_, k_ ≤ mm_ → er1 b_ n_ A_ k_ S0_) (hA_ : a_ok b_ n_ A_ mm_) (hd_ : S0_.2.1 1 0 1 = some dd_) : sm_T (mt_P sc_) 1 32 (0, [some (.inr (.inr (some (1, 0)))), some (.inl mx_), none, none, none, none, none], [], S0_) (fun ro9_ => ∃ u_ S1_, ro9_ = (.inl u_, S1_, 0) ∧ vq_32d mx_ b_ n_ A_ mm_ dd_ S0_ u_ S1_) := by
  have hF_ : ai_fr (sx_W vw_32d) S0_ S0_ := ai_fr_rf
  have hD_ : idf dd_ S0_ S0_ := idf_rf
  refine sm_T_go 2 (c1 := (2, [some (.inr (.inr (some (1, 0)))), some (.inl mx_), some (.inl 0), none, none, none, none], [], S0_)) rfl ?_
  refine (vl_32d mx_ b_ n_ A_ mm_ dd_ S0_ hmx_ her_ hA_ hd_ _).1 0 S0_ hI_ hF_ ⟨?_, ?_, ?_, trivial⟩ (Nat.lt_succ_self _)
  · omega
  · (intro k_ hk_; exact absurd hk_ (Nat.not_lt_zero _))
  · exact hD_
end
/-! 99.zg2 -/
section
/-! the graph that a right design comes to; written by wip/p55/gen/vg -/

/-! sums of_ all_ modules, and the_ graph that a_ right design comes to_ -/
def sR (A_ : pA) : Nat → Nat → Int
  | 0, _ => 0
  | f_ + 1, m_ => mc (su (t_rg (sR A_ f_) A_ m_) (A_.1 m_))
def sI (A_ : pA) : Nat → Nat → Int
  | 0, _ => 0
  | f_ + 1, m_ => mc (su (t_is (sI A_ f_) A_ m_) (A_.1 m_))
theorem dt_lt {b_ : Nat → Int} {n_ m_ s_ : Nat} {A_ : pA} (h_ : a_ok b_ n_ A_ m_) (hs_ : s_ < A_.1 m_) (h5_ : A_.2.2.1 (40 * m_ + s_) = 5) : (A_.2.2.2.2 (40 * m_ + s_)).toNat < m_ := by
  have := ((h_.2 m_ (Nat.le_refl _)).2 s_ hs_).2.2.2.2.1 h5_
  omega
theorem trg_cg {b_ : Nat → Int} {n_ m_ : Nat} {A_ : pA} {f_ g_ : Nat → Int} (h_ : a_ok b_ n_ A_ m_) (e_ : ∀ d_, d_ < m_ → f_ d_ = g_ d_) : su (t_rg f_ A_ m_) (A_.1 m_) = su (t_rg g_ A_ m_) (A_.1 m_) := su_cg (fun s_ hs_ => by
  unfold t_rg
  by_cases z_ : A_.2.2.1 (40 * m_ + s_) = 3 ∨ A_.2.2.1 (40 * m_ + s_) = 4
  · rw [if_pos z_, if_pos z_]
  · rw [if_neg z_, if_neg z_]
    by_cases z2_ : A_.2.2.1 (40 * m_ + s_) = 5
    · rw [if_pos z2_, if_pos z2_, e_ _ (dt_lt h_ hs_ z2_)]
    · rw [if_neg z2_, if_neg z2_])
theorem tis_cg {b_ : Nat → Int} {n_ m_ : Nat} {A_ : pA} {f_ g_ : Nat → Int} (h_ : a_ok b_ n_ A_ m_) (e_ : ∀ d_, d_ < m_ → f_ d_ = g_ d_) : su (t_is f_ A_ m_) (A_.1 m_) = su (t_is g_ A_ m_) (A_.1 m_) := su_cg (fun s_ hs_ => by
  unfold t_is
  by_cases z2_ : A_.2.2.1 (40 * m_ + s_) = 5
  · rw [if_pos z2_, if_pos z2_, e_ _ (dt_lt h_ hs_ z2_)]
  · rw [if_neg z2_, if_neg z2_])
section SU_
variable {b_ : Nat → Int} {n_ M_ : Nat} {A_ : pA}
theorem sR_st (hA_ : ∀ m_, m_ < M_ → a_ok b_ n_ A_ m_) : ∀ (k_ m_ f_ : Nat), m_ < k_ → m_ < M_ → m_ < f_ → sR A_ f_ m_ = sR A_ (m_ + 1) m_ ∧ sI A_ f_ m_ = sI A_ (m_ + 1) m_
  | 0, _, _, h_, _, _ => absurd h_ (Nat.not_lt_zero _)
  | k_ + 1, m_, f_, hk_, hM_, hf_ => by
    obtain ⟨g_, rfl⟩ : ∃ g_, f_ = g_ + 1 := ⟨f_ - 1, by omega⟩
    constructor
    · show mc (su (t_rg (sR A_ g_) A_ m_) (A_.1 m_)) = mc (su (t_rg (sR A_ m_) A_ m_) (A_.1 m_))
      rw [trg_cg (g_ := sR A_ m_) (hA_ m_ hM_) (fun d_ hd_ => by rw [(sR_st hA_ k_ d_ g_ (by omega) (by omega) (by omega)).1, (sR_st hA_ k_ d_ m_ (by omega) (by omega) (by omega)).1])]
    · show mc (su (t_is (sI A_ g_) A_ m_) (A_.1 m_)) = mc (su (t_is (sI A_ m_) A_ m_) (A_.1 m_))
      rw [tis_cg (g_ := sI A_ m_) (hA_ m_ hM_) (fun d_ hd_ => by rw [(sR_st hA_ k_ d_ g_ (by omega) (by omega) (by omega)).2, (sR_st hA_ k_ d_ m_ (by omega) (by omega) (by omega)).2])]
theorem sR_nn (hA_ : ∀ m_, m_ < M_ → a_ok b_ n_ A_ m_) : ∀ (f_ m_ : Nat), m_ < M_ → 0 ≤ sR A_ f_ m_ ∧ 0 ≤ sI A_ f_ m_
  | 0, _, _ => ⟨Int.le_refl _, Int.le_refl _⟩
  | f_ + 1, m_, hM_ => by
    have a_ := (hA_ m_ hM_).2 m_ (Nat.le_refl _)
    have q1_ := (su_el (f_ := t_rg (sR A_ f_) A_ m_) (k_ := A_.1 m_) (fun s_ hs_ => by
      unfold t_rg
      split
      · exact (a_.2 s_ hs_).2.2.1.1
      · split
        · rename_i z2_
          exact (sR_nn hA_ f_ _ (Nat.lt_trans (dt_lt (hA_ m_ hM_) hs_ z2_) hM_)).1
        · exact Int.le_refl _)).1
    have q2_ := (su_el (f_ := t_is (sI A_ f_) A_ m_) (k_ := A_.1 m_) (fun s_ hs_ => by
      unfold t_is
      split
      · rename_i z2_
        have := (sR_nn hA_ f_ _ (Nat.lt_trans (dt_lt (hA_ m_ hM_) hs_ z2_) hM_)).2
        omega
      · exact Int.le_refl _)).1
    exact ⟨(mc_b q1_).1, (mc_b q2_).1⟩
/-- the_ sums of_ a_ module -/
def gR (A_ : pA) (M_ m_ : Nat) : Int := if m_ < M_ then sR A_ (m_ + 1) m_ else 0
def gI (A_ : pA) (M_ m_ : Nat) : Int := if m_ < M_ then sI A_ (m_ + 1) m_ else 0
theorem g_sum (hA_ : ∀ m_, m_ < M_ → a_ok b_ n_ A_ m_) : (∀ d_, 0 ≤ gR A_ M_ d_ ∧ 0 ≤ gI A_ M_ d_) ∧ ∀ m_, m_ < M_ → gR A_ M_ m_ = mc (su (t_rg (gR A_ M_) A_ m_) (A_.1 m_)) ∧ gI A_ M_ m_ = mc (su (t_is (gI A_ M_) A_ m_) (A_.1 m_)) := by
  refine ⟨fun d_ => ?_, fun m_ hm_ => ?_⟩
  · unfold gR gI
    by_cases z_ : d_ < M_
    · rw [if_pos z_, if_pos z_]
      exact sR_nn hA_ _ d_ z_
    · rw [if_neg z_, if_neg z_]
      exact ⟨Int.le_refl _, Int.le_refl _⟩
  · have e_ : ∀ d_, d_ < m_ → sR A_ m_ d_ = gR A_ M_ d_ ∧ sI A_ m_ d_ = gI A_ M_ d_ := by
      intro d_ hd_
      have q_ := sR_st hA_ (d_ + 1) d_ m_ (by omega) (by omega) hd_
      unfold gR gI
      rw [if_pos (by omega), if_pos (by omega)]
      exact q_
    constructor
    · rw [show gR A_ M_ m_ = mc (su (t_rg (sR A_ m_) A_ m_) (A_.1 m_)) from if_pos hm_, trg_cg (hA_ m_ hm_) (fun d_ hd_ => (e_ d_ hd_).1)]
    · rw [show gI A_ M_ m_ = mc (su (t_is (sI A_ m_) A_ m_) (A_.1 m_)) from if_pos hm_, tis_cg (hA_ m_ hm_) (fun d_ hd_ => (e_ d_ hd_).2)]
/-- sums told in a_ row_ are_ these -/
theorem g_uq (hA_ : ∀ m_, m_ < M_ → a_ok b_ n_ A_ m_) {r_ i_ : Nat → Int} (h_ : ∀ m_, m_ < M_ → r_ m_ = mc (su (t_rg r_ A_ m_) (A_.1 m_)) ∧ i_ m_ = mc (su (t_is i_ A_ m_) (A_.1 m_))) : ∀ (k_ m_ : Nat), m_ < k_ → m_ < M_ → r_ m_ = gR A_ M_ m_ ∧ i_ m_ = gI A_ M_ m_
  | 0, _, h_, _ => absurd h_ (Nat.not_lt_zero _)
  | k_ + 1, m_, hk_, hM_ => by
    have g_ := (g_sum hA_).2 m_ hM_
    rw [(h_ m_ hM_).1, (h_ m_ hM_).2, g_.1, g_.2, trg_cg (hA_ m_ hM_) (fun d_ hd_ => (g_uq hA_ h_ k_ d_ (by omega) (by omega)).1), tis_cg (hA_ m_ hM_) (fun d_ hd_ => (g_uq hA_ h_ k_ d_ (by omega) (by omega)).2)]
    exact ⟨rfl, rfl⟩
end SU_
/-- what a_ right design is_ told to_ be_: the_ number of_ its_ last module, its_ inputs and registers -/
def d_tp (r_ : pD) : Nat := r_.2.2.1 - 1
def d_lm (r_ : pD) : Int := p_lm (gI r_.1 r_.2.2.1 (d_tp r_)) (su (t_in r_.1 0 (d_tp r_)) (r_.1.1 (d_tp r_))) (gR r_.1 r_.2.2.1 (d_tp r_)) (su (t_in r_.1 1 (d_tp r_)) (r_.1.1 (d_tp r_)))
def d_I (r_ : pD) : Nat := (su (t_in r_.1 0 (d_tp r_)) (r_.1.1 (d_tp r_))).toNat
def d_R (r_ : pD) : Nat := (gR r_.1 r_.2.2.1 (d_tp r_)).toNat
theorem lm_0 {i_ x_ g_ o_ : Int} (h_ : p_lm i_ x_ g_ o_ = 0) : i_ ≤ 200 ∧ x_ + g_ ≤ 12 ∧ g_ ≤ 6 ∧ o_ ≠ 0 ∧ o_ ≤ 16 := by
  unfold p_lm at h_
  split at h_
  · exact absurd h_ (by decide)
  · split at h_
    · exact absurd h_ (by decide)
    · split at h_
      · exact absurd h_ (by decide)
      · omega
theorem d_in {b_ : Nat → Int} {n_ : Nat} {r_ : pD} (hn_ : n_ ≤ 1280) (h_ : p_de b_ n_ = .inr r_) : (d_I r_ : Int) = su (t_in r_.1 0 (d_tp r_)) (r_.1.1 (d_tp r_)) ∧ (d_R r_ : Int) = gR r_.1 r_.2.2.1 (d_tp r_) ∧ d_tp r_ < r_.2.2.1 ∧ d_tp r_ ≤ 15 ∧ 0 ≤ su (t_in r_.1 1 (d_tp r_)) (r_.1.1 (d_tp r_)) := by
  obtain ⟨h1_, h2_⟩ := de_ch hn_ h_
  have tp_ : d_tp r_ < r_.2.2.1 := by unfold d_tp; omega
  have a_ := (h1_ (d_tp r_) tp_).2
  have q_ : ∀ so_, 0 ≤ su (t_in r_.1 so_ (d_tp r_)) (r_.1.1 (d_tp r_)) := fun so_ => (su_el (fun s_ hs_ => by
    unfold t_in
    split
    · exact ((a_.2 _ (Nat.le_refl _)).2 s_ hs_).2.2.1.1
    · exact Int.le_refl _)).1
  have g_ := ((g_sum (fun m_ hm_ => (h1_ m_ hm_).2)).1 (d_tp r_)).1
  unfold d_I d_R
  exact ⟨by have := q_ 0; omega, by omega, tp_, a_.1, q_ 1⟩
end
/-! 99.zg3 -/
section
/-! bits; written by wip/p55/gen/vg -/

/-! bits -/
theorem i_shlv {x_ e_ : Int} (h0_ : 0 ≤ e_) (h1_ : e_ ≤ 31) (hx_ : 0 ≤ x_) (h_ : x_ * 2 ^ e_.toNat ≤ 2147483647) : i_shl x_ e_ = x_ * 2 ^ e_.toNat := by
  obtain ⟨k_, rfl⟩ : ∃ k_ : Nat, e_ = (k_ : Int) := ⟨e_.toNat, by omega⟩
  rw [Int.toNat_natCast] at h_ ⊢
  have p0_ : 0 ≤ x_ * 2 ^ k_ := Int.mul_nonneg hx_ (Int.le_of_lt (pw_pos k_))
  exact bs_shl (k := k_) (x := x_) (by omega) ⟨by omega, by omega⟩
theorem pw_tn {x_ : Int} {k_ : Nat} (h0_ : 0 ≤ x_) (h_ : x_ < 2 ^ k_) : x_.toNat < 2 ^ k_ := by
  have hpn_ : (2 : Int) ^ k_ = ((2 ^ k_ : Nat) : Int) := by push_cast; rfl
  rw [hpn_] at h_
  omega
theorem pw_31 {k_ : Nat} (hk_ : k_ ≤ 31) : (2 : Int) ^ k_ ≤ 2147483648 := pw_le hk_
theorem i_orp {x_ y_ : Int} {k_ : Nat} (hk_ : k_ ≤ 31) (hx_ : 0 ≤ x_ ∧ x_ < 2 ^ k_) (hy_ : 0 ≤ y_ ∧ y_ < 2 ^ k_) : 0 ≤ i_or x_ y_ ∧ i_or x_ y_ < 2 ^ k_ := by
  have p_ := pw_31 hk_
  have e_ : i_or x_ y_ = ((x_.toNat ||| y_.toNat : Nat) : Int) := bt_or_nat hx_.1 (by omega) hy_.1 (by omega)
  have h_ := Nat.or_lt_two_pow (pw_tn hx_.1 hx_.2) (pw_tn hy_.1 hy_.2)
  rw [e_]
  refine ⟨Int.natCast_nonneg _, ?_⟩
  exact_mod_cast h_
theorem i_xrp {x_ y_ : Int} {k_ : Nat} (hk_ : k_ ≤ 31) (hx_ : 0 ≤ x_ ∧ x_ < 2 ^ k_) (hy_ : 0 ≤ y_ ∧ y_ < 2 ^ k_) : 0 ≤ i_xor x_ y_ ∧ i_xor x_ y_ < 2 ^ k_ := by
  have p_ := pw_31 hk_
  have e_ : i_xor x_ y_ = ((x_.toNat ^^^ y_.toNat : Nat) : Int) := bt_xor_nat hx_.1 (by omega) hy_.1 (by omega)
  have h_ := Nat.xor_lt_two_pow (pw_tn hx_.1 hx_.2) (pw_tn hy_.1 hy_.2)
  rw [e_]
  refine ⟨Int.natCast_nonneg _, ?_⟩
  exact_mod_cast h_
theorem i_xz {x_ : Int} (h_ : 0 ≤ x_ ∧ x_ ≤ 2147483647) : i_xor x_ 0 = x_ := by
  have e_ : i_xor x_ 0 = ((x_.toNat ^^^ (0 : Int).toNat : Nat) : Int) := bt_xor_nat h_.1 h_.2 (by decide) (by decide)
  rw [e_, show (0 : Int).toNat = 0 from rfl, Nat.xor_zero]
  omega
theorem i_xb {x_ b_ : Int} (h_ : 0 ≤ x_ ∧ x_ ≤ 2047) (hb_ : 0 ≤ b_ ∧ b_ ≤ 1) : 2 * (x_ / 2) ≤ i_xor x_ b_ ∧ i_xor x_ b_ ≤ 2 * (x_ / 2) + 1 := by
  by_cases z_ : b_ = 0
  · rw [z_, i_xz ⟨h_.1, by omega⟩]
    omega
  · rw [show b_ = 1 by omega, i_x1 h_]
    omega
/-- a_ state and an_ input together are_ a_ pattern -/
theorem pat_b {s_ i_ : Int} {R_ I_ : Nat} (hs_ : 0 ≤ s_ ∧ s_ < 2 ^ R_) (hi_ : 0 ≤ i_ ∧ i_ < 2 ^ I_) (h_ : R_ + I_ ≤ 12) : 0 ≤ i_shl s_ (I_ : Int) ∧ 0 ≤ i_or (i_shl s_ (I_ : Int)) i_ ∧ i_or (i_shl s_ (I_ : Int)) i_ < 2 ^ (R_ + I_) := by
  have pI := pw_pos I_
  have e1_ : s_ * 2 ^ I_ + 2 ^ I_ ≤ 2 ^ (R_ + I_) := by
    rw [pw_add, show s_ * 2 ^ I_ + 2 ^ I_ = (s_ + 1) * 2 ^ I_ by rw [Int.add_mul, Int.one_mul]]
    exact Int.mul_le_mul_of_nonneg_right (by omega) (Int.le_of_lt pI)
  have e2_ : (2 : Int) ^ (R_ + I_) ≤ 4096 := pw_le (m := 12) h_
  have e0_ : 0 ≤ s_ * 2 ^ I_ := Int.mul_nonneg hs_.1 (Int.le_of_lt pI)
  have e3_ : i_shl s_ (I_ : Int) = s_ * 2 ^ I_ := by
    rw [i_shlv (by omega) (by omega) hs_.1 (by rw [Int.toNat_natCast]; omega), Int.toNat_natCast]
  rw [e3_]
  have e4_ : i_or (s_ * 2 ^ I_) i_ = s_ * 2 ^ I_ + i_ := i_or_add (s := I_) e0_ hi_.1 hi_.2 (by omega) ⟨s_, Int.mul_comm _ _⟩
  rw [e4_]
  omega
end
/-! 99.zg4a -/
section
/-! the class: outputs, depth; written by wip/p55/gen/vg -/

/-! the_ design's graph as_ it_ stands -/
def dgr (dd_ F_ : Nat) (S_ : sm_S) : Prop := ((F_ : Int) = 1 + S_.1 3 dd_ 1 + S_.1 3 dd_ 2 ∧ (1 ≤ F_ ∧ F_ ≤ 13) ∧ 0 ≤ S_.1 3 dd_ 1 ∧ 0 ≤ S_.1 3 dd_ 2) ∧ ((F_ : Int) ≤ S_.1 3 dd_ 4 ∧ S_.1 3 dd_ 4 ≤ F_ + 1000) ∧ ∀ n_ : Nat, F_ ≤ n_ → (n_ : Int) < S_.1 3 dd_ 4 → 2 ≤ S_.2.2.1 42 (0 + dd_) n_ ∧ S_.2.2.1 42 (0 + dd_) n_ < S_.2.2.1 43 (0 + dd_) n_ ∧ S_.2.2.1 43 (0 + dd_) n_ < 2 * (n_ : Int)
def drt (dd_ : Nat) (S_ : sm_S) : Prop := (1 ≤ S_.1 3 dd_ 3 ∧ S_.1 3 dd_ 3 ≤ 16 ∧ 0 ≤ S_.1 3 dd_ 2 ∧ S_.1 3 dd_ 2 ≤ 6) ∧ (∀ k_ : Nat, (k_ : Int) < S_.1 3 dd_ 3 → 0 ≤ S_.2.2.1 45 (0 + dd_) k_ ∧ S_.2.2.1 45 (0 + dd_) k_ < 2 * S_.1 3 dd_ 4) ∧ ∀ k_ : Nat, (k_ : Int) < S_.1 3 dd_ 2 → 0 ≤ S_.2.2.1 46 (0 + dd_) k_ ∧ S_.2.2.1 46 (0 + dd_) k_ < 2 * S_.1 3 dd_ 4
/-- the_ literal of_ a_ root, the_ node that a_ literal stands for_ -/
def rtv (dd_ : Nat) (S_ : sm_S) (i_ : Int) : Int := if i_ < S_.1 3 dd_ 3 then S_.2.2.1 45 (0 + dd_) i_.toNat else S_.2.2.1 46 (0 + dd_) (i_ - S_.1 3 dd_ 3).toNat
def srp (dd_ : Nat) (S_ : sm_S) (l_ : Int) : Nat := (S_.2.2.1 44 (0 + dd_) (l_ / 2).toNat / 2).toNat
theorem dgr_fr {w_ : sx_Wl} {dd_ F_ : Nat} {S_ S'_ : sm_S} (h_ : dgr dd_ F_ S_) (g_ : ai_fr (sx_W w_) S_ S'_) (h1_ : (sx_W w_).1 3 1 = false) (h2_ : (sx_W w_).1 3 2 = false) (h3_ : (sx_W w_).1 3 4 = false) (h4_ : (sx_W w_).2.1 42 = false) (h5_ : (sx_W w_).2.1 43 = false) : dgr dd_ F_ S'_ := by
  unfold dgr
  rw [g_.1 3 dd_ 1 h1_, g_.1 3 dd_ 2 h2_, g_.1 3 dd_ 4 h3_, fr_arr (t := 42) g_ h4_, fr_arr (t := 43) g_ h5_]
  exact h_
theorem drt_fr {w_ : sx_Wl} {dd_ : Nat} {S_ S'_ : sm_S} (h_ : drt dd_ S_) (g_ : ai_fr (sx_W w_) S_ S'_) (h1_ : (sx_W w_).1 3 3 = false) (h2_ : (sx_W w_).1 3 2 = false) (h3_ : (sx_W w_).1 3 4 = false) (h4_ : (sx_W w_).2.1 45 = false) (h5_ : (sx_W w_).2.1 46 = false) : drt dd_ S'_ := by
  unfold drt
  rw [g_.1 3 dd_ 3 h1_, g_.1 3 dd_ 2 h2_, g_.1 3 dd_ 4 h3_, fr_arr (t := 45) g_ h4_, fr_arr (t := 46) g_ h5_]
  exact h_
theorem cgx_dgr {dd_ F_ : Nat} {G_ : pGr} {S_ : sm_S} (h_ : cgx dd_ F_ G_ S_) (hw_ : gwf F_ G_) (h1_ : 0 ≤ S_.1 3 dd_ 1) (h2_ : 0 ≤ S_.1 3 dd_ 2) : dgr dd_ F_ S_ := by
  obtain ⟨-, x2_, x3_, x4_, x5_, x6_, -, -⟩ := h_
  refine ⟨⟨x2_, x3_, h1_, h2_⟩, by rw [x4_]; push_cast; omega, fun n_ hn_ hN_ => ?_⟩
  rw [x4_] at hN_
  have l_ : n_ - F_ < G_.length := by omega
  have e_ := List.getElem?_eq_getElem l_
  have q_ := x6_ (n_ - F_) G_[n_ - F_].1 G_[n_ - F_].2 e_
  have w_ := hw_.2 (n_ - F_) G_[n_ - F_].1 G_[n_ - F_].2 e_
  rw [show F_ + (n_ - F_) = n_ by omega] at q_ w_
  rw [q_.1, q_.2]
  exact w_
/-! Builder.takeOutputs -/
end
/-! 99.zg4b -/
section
/-! Design.roots -/
def vw_66 : sx_Wl := ([], [], [])
def vq_66 (dd_ : Nat) (S0_ : sm_S) (u_ : Option sm_V) (S1_ : sm_S) : Prop := S0_ = S1_ ∧ ∃ v_ : Int, u_ = some (.inl v_) ∧ (v_ = S0_.1 3 dd_ 3 + S0_.1 3 dd_ 2)
set_option maxHeartbeats 400000 in
theorem vc_66 {sc_ : Nat × (Nat → Int)} (dd_ : Nat) (S0_ : sm_S) (hI_ : gi S0_) (hx_ : 0 ≤ S0_.1 3 dd_ 3 ∧ S0_.1 3 dd_ 3 ≤ 1000 ∧ 0 ≤ S0_.1 3 dd_ 2 ∧ S0_.1 3 dd_ 2 ≤ 1000) : sm_T (mt_P sc_) 0 66 (0, [some (.inr (.inr (some (3, dd_))))], [], S0_) (fun ro9_ => ∃ u_ S1_, ro9_ = (.inl u_, S1_, 0) ∧ vq_66 dd_ S0_ u_ S1_) := by
  have hF_ : ai_fr (sx_W vw_66) S0_ S0_ := ai_fr_rf
  have bx1_ : 0 ≤ S0_.1 3 dd_ 3 ∧ S0_.1 3 dd_ 3 ≤ 320 := hI_.1 3 dd_ 3 rfl
  have bx2_ : 0 ≤ S0_.1 3 dd_ 2 ∧ S0_.1 3 dd_ 2 ≤ 100000 := hI_.1 3 dd_ 2 rfl
  refine sm_T_go 4 (c1 := (8, [some (.inr (.inr (some (3, dd_))))], [.inl (S0_.1 3 dd_ 2), .inl (S0_.1 3 dd_ 3)], S0_)) rfl ?_
  refine sm_T_bin (w := (S0_.1 3 dd_ 3) + (S0_.1 3 dd_ 2)) rfl (bi_add (by omega) (by omega) (by omega)) ?_
  refine sm_T_ri rfl ⟨_, _, rfl, rfl, _, rfl, ?_⟩
  omega
end
/-! 99.zg4c -/
section
/-! Design.rootAt -/
def vw_65 : sx_Wl := ([], [], [])
def vq_65 (k_ : Int) (dd_ : Nat) (S0_ : sm_S) (u_ : Option sm_V) (S1_ : sm_S) : Prop := S0_ = S1_ ∧ ∃ v_ : Int, u_ = some (.inl v_) ∧ (v_ = rtv dd_ S0_ k_ ∧ 0 ≤ v_ ∧ v_ < 2 * S0_.1 3 dd_ 4)
set_option maxHeartbeats 400000 in
theorem vc_65 {sc_ : Nat × (Nat → Int)} (k_ : Int) (dd_ : Nat) (S0_ : sm_S) (hI_ : gi S0_) (hx_ : drt dd_ S0_) (hk_ : 0 ≤ k_ ∧ k_ < S0_.1 3 dd_ 3 + S0_.1 3 dd_ 2) : sm_T (mt_P sc_) 0 65 (0, [some (.inr (.inr (some (3, dd_)))), some (.inl k_)], [], S0_) (fun ro9_ => ∃ u_ S1_, ro9_ = (.inl u_, S1_, 0) ∧ vq_65 k_ dd_ S0_ u_ S1_) := by
  have hF_ : ai_fr (sx_W vw_65) S0_ S0_ := ai_fr_rf
  have x1_ := hx_.1
  have bx1_ : 0 ≤ S0_.1 3 dd_ 3 ∧ S0_.1 3 dd_ 3 ≤ 320 := hI_.1 3 dd_ 3 rfl
  refine sm_T_go 3 (c1 := (5, [some (.inr (.inr (some (3, dd_)))), some (.inl k_)], [.inl (S0_.1 3 dd_ 3), .inl k_], S0_)) rfl ?_
  refine sm_T_br (a := 3) (z := 12) rfl (fun cx2_ => ?_) (fun cx2_ => ?_)
  · have cx2_ : (S0_.1 3 dd_ 3) ≤ k_ := of_decide_eq_true cx2_
    have w9_ := hx_.2.2 (k_ - S0_.1 3 dd_ 3).toNat (by omega)
    refine sm_T_go 5 (c1 := (26, [some (.inr (.inr (some (3, dd_)))), some (.inl k_)], [.inl (S0_.1 3 dd_ 3), .inl k_, .inr (.inr (some (46, (0 + dd_))))], S0_)) rfl ?_
    refine sm_T_bin (w := k_ - (S0_.1 3 dd_ 3)) rfl (bi_sub (by omega) (by omega) (by omega)) ?_
    refine sm_T_iald (n := 6) rfl rfl (by omega) (by omega) ?_
    have bx3_ : 0 ≤ S0_.2.2.1 46 (0 + dd_) (k_ - (S0_.1 3 dd_ 3)).toNat ∧ S0_.2.2.1 46 (0 + dd_) (k_ - (S0_.1 3 dd_ 3)).toNat ≤ 2025 := hI_.2 46 (0 + dd_) _
    refine sm_T_ri rfl ⟨_, _, rfl, rfl, _, rfl, ?_⟩
    refine ⟨?_, w9_⟩
    unfold rtv
    first | rw [if_pos (by omega)] | rw [if_neg (by omega)]
  · have cx2_ : ¬ ((S0_.1 3 dd_ 3) ≤ k_) := of_decide_eq_false cx2_
    have w9_ := hx_.2.1 k_.toNat (by omega)
    refine sm_T_go 3 (c1 := (13, [some (.inr (.inr (some (3, dd_)))), some (.inl k_)], [.inl k_, .inr (.inr (some (45, (0 + dd_))))], S0_)) rfl ?_
    refine sm_T_iald (n := 16) rfl rfl (by omega) (by omega) ?_
    have bx4_ : 0 ≤ S0_.2.2.1 45 (0 + dd_) k_.toNat ∧ S0_.2.2.1 45 (0 + dd_) k_.toNat ≤ 2025 := hI_.2 45 (0 + dd_) _
    refine sm_T_go 1 (c1 := (28, [some (.inr (.inr (some (3, dd_)))), some (.inl k_)], [.inl (S0_.2.2.1 45 (0 + dd_) k_.toNat)], S0_)) rfl ?_
    refine sm_T_ri rfl ⟨_, _, rfl, rfl, _, rfl, ?_⟩
    refine ⟨?_, w9_⟩
    unfold rtv
    first | rw [if_pos (by omega)] | rw [if_neg (by omega)]
end
/-! 99.zg4d -/
section
/-! Design.sweptLiteral -/
def vw_64 : sx_Wl := ([], [], [])
def vq_64 (l_ : Int) (dd_ : Nat) (S0_ : sm_S) (u_ : Option sm_V) (S1_ : sm_S) : Prop := S0_ = S1_ ∧ ∃ v_ : Int, u_ = some (.inl v_) ∧ (v_ = i_xor (S0_.2.2.1 44 (0 + dd_) (l_ / 2).toNat) (l_ % 2))
set_option maxHeartbeats 400000 in
theorem vc_64 {sc_ : Nat × (Nat → Int)} (l_ : Int) (dd_ : Nat) (S0_ : sm_S) (hI_ : gi S0_) (hl_ : 0 ≤ l_ ∧ l_ ≤ 2025) : sm_T (mt_P sc_) 0 64 (0, [some (.inr (.inr (some (3, dd_)))), some (.inl l_)], [], S0_) (fun ro9_ => ∃ u_ S1_, ro9_ = (.inl u_, S1_, 0) ∧ vq_64 l_ dd_ S0_ u_ S1_) := by
  have hF_ : ai_fr (sx_W vw_64) S0_ S0_ := ai_fr_rf
  refine sm_T_go 4 (c1 := (6, [some (.inr (.inr (some (3, dd_)))), some (.inl l_)], [.inl 1, .inl l_, .inr (.inr (some (44, (0 + dd_))))], S0_)) rfl ?_
  refine sm_T_bin (w := (l_ / 2)) rfl (bi_shr (k := 1) (by decide) (by omega) (by omega)) ?_
  refine sm_T_iald (n := 1013) rfl rfl (by omega) (by omega) ?_
  have bx1_ : 0 ≤ S0_.2.2.1 44 (0 + dd_) (l_ / 2).toNat ∧ S0_.2.2.1 44 (0 + dd_) (l_ / 2).toNat ≤ 2025 := hI_.2 44 (0 + dd_) _
  refine sm_T_go 2 (c1 := (10, [some (.inr (.inr (some (3, dd_)))), some (.inl l_)], [.inl 1, .inl l_, .inl (S0_.2.2.1 44 (0 + dd_) (l_ / 2).toNat)], S0_)) rfl ?_
  refine sm_T_bin (w := (l_ % 2)) rfl (bi_msk (k := 1) (by decide)) ?_
  refine sm_T_bin (w := (i_xor (S0_.2.2.1 44 (0 + dd_) (l_ / 2).toNat) (l_ % 2))) rfl rfl ?_
  refine sm_T_ri rfl ⟨_, _, rfl, rfl, _, rfl, ?_⟩
  omega
end
/-! 99.zg4e -/
section
/-! Builder.measureDepth -/
def vw_46 : sx_Wl := ([(3, 7)], [33], [])
def vq_46 (dd_ : Nat) (F_ : Nat) (S0_ : sm_S) (u_ : Option sm_V) (S1_ : sm_S) : Prop := u_ = none ∧ gi S1_ ∧ ai_fr (sx_W vw_46) S0_ S1_ ∧ (idf dd_ S0_ S1_ ∧ (True))
set_option maxHeartbeats 1000000 in
theorem vl_46 {sc_ : Nat × (Nat → Int)} (dd_ : Nat) (F_ : Nat) (S0_ : sm_S) (hd_ : S0_.2.1 1 0 1 = some dd_) (hg_ : dgr dd_ F_ S0_) (hr_ : drt dd_ S0_) : ∀ nn_ : Nat, (∀ (n_ : Int) (S_ : sm_S), gi S_ → ai_fr (sx_W vw_46) S0_ S_ → (((F_ : Int) ≤ n_ ∧ n_ ≤ S0_.1 3 dd_ 4) ∧ (∀ k9_ : Nat, (k9_ : Int) < n_ → 0 ≤ S_.2.2.1 33 0 k9_ ∧ S_.2.2.1 33 0 k9_ ≤ (if k9_ < F_ then 0 else (k9_ : Int) - F_ + 1)) ∧ (idf dd_ S0_ S_) ∧ True) → ((5000 - n_).toNat) < nn_ → sm_T (mt_P sc_) 1 46 (16, [some (.inr (.inr (some (1, 0)))), some (.inl n_)], [], S_) (fun ro9_ => ∃ u_ S1_, ro9_ = (.inl u_, S1_, 0) ∧ vq_46 dd_ F_ S0_ u_ S1_)) ∧ (∀ (k_ : Int) (S_ : sm_S), gi S_ → ai_fr (sx_W vw_46) S0_ S_ → ((0 ≤ k_) ∧ (∀ k9_ : Nat, (k9_ : Int) < S0_.1 3 dd_ 4 → 0 ≤ S_.2.2.1 33 0 k9_ ∧ S_.2.2.1 33 0 k9_ ≤ 1000) ∧ (idf dd_ S0_ S_) ∧ True) → ((1000 - k_).toNat) < nn_ → sm_T (mt_P sc_) 1 46 (86, [some (.inr (.inr (some (1, 0)))), some (.inl k_)], [], S_) (fun ro9_ => ∃ u_ S1_, ro9_ = (.inl u_, S1_, 0) ∧ vq_46 dd_ F_ S0_ u_ S1_)) := by
  intro nn_
  induction nn_ with
  | zero => exact ⟨fun _ _ _ _ _ h_ => absurd h_ (Nat.not_lt_zero _), fun _ _ _ _ _ h_ => absurd h_ (Nat.not_lt_zero _)⟩
  | succ nn_ ih_ =>
    refine ⟨?_, ?_⟩
    · rintro n_ S_ hI_ hF_ ⟨h0_, h1_, hD_, -⟩ hm_
      have g1_ := hg_.1
      have g2_ := hg_.2.1
      have e4_ : S_.1 3 dd_ 4 = S0_.1 3 dd_ 4 := hF_.1 3 dd_ 4 rfl
      have e3_ : S_.1 3 dd_ 3 = S0_.1 3 dd_ 3 := hF_.1 3 dd_ 3 rfl
      have e2_ : S_.1 3 dd_ 2 = S0_.1 3 dd_ 2 := hF_.1 3 dd_ 2 rfl
      have r1_ := hr_.1
      refine sm_T_go 2 (c1 := (18, [some (.inr (.inr (some (1, 0)))), some (.inl n_)], [.inr (.inr (some (1, 0))), .inl n_], S_)) rfl ?_
      refine sm_T_gr rfl rfl ((hF_.2.1 1 0 1 rfl).trans hd_) ?_
      have bx1_ : 0 ≤ S_.1 3 dd_ 4 ∧ S_.1 3 dd_ 4 ≤ 1013 := hI_.1 3 dd_ 4 rfl
      refine sm_T_go 1 (c1 := (24, [some (.inr (.inr (some (1, 0)))), some (.inl n_)], [.inl (S_.1 3 dd_ 4), .inl n_], S_)) rfl ?_
      refine sm_T_br (a := 3) (z := 52) rfl (fun cx2_ => ?_) (fun cx2_ => ?_)
      · have cx2_ : (S_.1 3 dd_ 4) ≤ n_ := of_decide_eq_true cx2_
        refine sm_T_go 1 (c1 := (77, [some (.inr (.inr (some (1, 0)))), some (.inl n_)], [.inr (.inr (some (1, 0)))], S_)) rfl ?_
        refine sm_T_gr rfl rfl ((hF_.2.1 1 0 1 rfl).trans hd_) ?_
        have hIx3_ : gi (sm_pI S_ 3 dd_ 7 0) := gi_pI hI_ (show 0 ≤ 0 ∧ 0 ≤ 1000 from ⟨by omega, by omega⟩)
        have hFx4_ : ai_fr (sx_W vw_46) S0_ (sm_pI S_ 3 dd_ 7 0) := ai_fr_tr hF_ (ai_fr_pI rfl)
        have hDx5_ : idf dd_ S0_ (sm_pI S_ 3 dd_ 7 0) := idf_pI hD_ (Or.inr rfl)
        refine sm_T_go 4 (c1 := (86, [some (.inr (.inr (some (1, 0)))), some (.inl 0)], [], sm_pI S_ 3 dd_ 7 0)) rfl ?_
        refine ih_.2 0 (sm_pI S_ 3 dd_ 7 0) hIx3_ hFx4_ ⟨?_, ?_, ?_, trivial⟩ ?_
        · omega
        · intro k9_ hk9_
          show 0 ≤ S_.2.2.1 33 0 k9_ ∧ S_.2.2.1 33 0 k9_ ≤ 1000
          have w9_ := h1_ k9_ (by omega)
          refine ⟨w9_.1, ?_⟩
          have w8_ := w9_.2
          (split at w8_ <;> omega)
        · exact hDx5_
        · omega
      · have cx2_ : ¬ ((S_.1 3 dd_ 4) ≤ n_) := of_decide_eq_false cx2_
        have gn_ := hg_.2.2 n_.toNat (by omega) (by omega)
        have lo_ := h1_ (S_.2.2.1 42 (0 + dd_) n_.toNat / 2).toNat (by rw [fr_arr (t := 42) (i := 0 + dd_) hF_ rfl]; omega)
        have hi_ := h1_ (S_.2.2.1 43 (0 + dd_) n_.toNat / 2).toNat (by rw [fr_arr (t := 43) (i := 0 + dd_) hF_ rfl]; omega)
        rw [fr_arr (t := 42) (i := 0 + dd_) hF_ rfl] at lo_
        rw [fr_arr (t := 43) (i := 0 + dd_) hF_ rfl] at hi_
        have f42_ := congrFun (fr_arr (t := 42) (i := 0 + dd_) hF_ rfl) n_.toNat
        have f43_ := congrFun (fr_arr (t := 43) (i := 0 + dd_) hF_ rfl) n_.toNat
        rw [← f42_] at lo_
        rw [← f43_] at hi_
        refine sm_T_go 7 (c1 := (38, [some (.inr (.inr (some (1, 0)))), some (.inl n_)], [.inr (.inr (some (1, 0))), .inr (.inr (some (33, 0))), .inl 1, .inl n_, .inr (.inr (some (33, 0)))], S_)) rfl ?_
        refine sm_T_gr rfl rfl ((hF_.2.1 1 0 1 rfl).trans hd_) ?_
        refine sm_T_go 2 (c1 := (45, [some (.inr (.inr (some (1, 0)))), some (.inl n_)], [.inl n_, .inr (.inr (some (42, (0 + dd_)))), .inr (.inr (some (33, 0))), .inl 1, .inl n_, .inr (.inr (some (33, 0)))], S_)) rfl ?_
        refine sm_T_iald (n := 1013) rfl rfl (by omega) (by omega) ?_
        have bx6_ : 0 ≤ S_.2.2.1 42 (0 + dd_) n_.toNat ∧ S_.2.2.1 42 (0 + dd_) n_.toNat ≤ 2025 := hI_.2 42 (0 + dd_) _
        refine sm_T_go 1 (c1 := (47, [some (.inr (.inr (some (1, 0)))), some (.inl n_)], [.inl 1, .inl (S_.2.2.1 42 (0 + dd_) n_.toNat), .inr (.inr (some (33, 0))), .inl 1, .inl n_, .inr (.inr (some (33, 0)))], S_)) rfl ?_
        refine sm_T_bin (w := ((S_.2.2.1 42 (0 + dd_) n_.toNat) / 2)) rfl (bi_shr (k := 1) (by decide) (by omega) (by omega)) ?_
        refine sm_T_iald (n := 1013) rfl rfl (by omega) (by omega) ?_
        have bx7_ : 0 ≤ S_.2.2.1 33 0 ((S_.2.2.1 42 (0 + dd_) n_.toNat) / 2).toNat ∧ S_.2.2.1 33 0 ((S_.2.2.1 42 (0 + dd_) n_.toNat) / 2).toNat ≤ 1012 := hI_.2 33 0 _
        refine sm_T_go 3 (c1 := (54, [some (.inr (.inr (some (1, 0)))), some (.inl n_)], [.inr (.inr (some (1, 0))), .inr (.inr (some (33, 0))), .inl (S_.2.2.1 33 0 ((S_.2.2.1 42 (0 + dd_) n_.toNat) / 2).toNat), .inl 1, .inl n_, .inr (.inr (some (33, 0)))], S_)) rfl ?_
        refine sm_T_gr rfl rfl ((hF_.2.1 1 0 1 rfl).trans hd_) ?_
        refine sm_T_go 2 (c1 := (61, [some (.inr (.inr (some (1, 0)))), some (.inl n_)], [.inl n_, .inr (.inr (some (43, (0 + dd_)))), .inr (.inr (some (33, 0))), .inl (S_.2.2.1 33 0 ((S_.2.2.1 42 (0 + dd_) n_.toNat) / 2).toNat), .inl 1, .inl n_, .inr (.inr (some (33, 0)))], S_)) rfl ?_
        refine sm_T_iald (n := 1013) rfl rfl (by omega) (by omega) ?_
        have bx8_ : 0 ≤ S_.2.2.1 43 (0 + dd_) n_.toNat ∧ S_.2.2.1 43 (0 + dd_) n_.toNat ≤ 2025 := hI_.2 43 (0 + dd_) _
        refine sm_T_go 1 (c1 := (63, [some (.inr (.inr (some (1, 0)))), some (.inl n_)], [.inl 1, .inl (S_.2.2.1 43 (0 + dd_) n_.toNat), .inr (.inr (some (33, 0))), .inl (S_.2.2.1 33 0 ((S_.2.2.1 42 (0 + dd_) n_.toNat) / 2).toNat), .inl 1, .inl n_, .inr (.inr (some (33, 0)))], S_)) rfl ?_
        refine sm_T_bin (w := ((S_.2.2.1 43 (0 + dd_) n_.toNat) / 2)) rfl (bi_shr (k := 1) (by decide) (by omega) (by omega)) ?_
        refine sm_T_iald (n := 1013) rfl rfl (by omega) (by omega) ?_
        have bx9_ : 0 ≤ S_.2.2.1 33 0 ((S_.2.2.1 43 (0 + dd_) n_.toNat) / 2).toNat ∧ S_.2.2.1 33 0 ((S_.2.2.1 43 (0 + dd_) n_.toNat) / 2).toNat ≤ 1012 := hI_.2 33 0 _
        refine sm_T_nt (u := some (.inl (sm_mx (S_.2.2.1 33 0 ((S_.2.2.1 42 (0 + dd_) n_.toNat) / 2).toNat) (S_.2.2.1 33 0 ((S_.2.2.1 43 (0 + dd_) n_.toNat) / 2).toNat)))) (S1 := S_) rfl rfl rfl ?_
        have bx10_ := sm_mx_d (S_.2.2.1 33 0 ((S_.2.2.1 42 (0 + dd_) n_.toNat) / 2).toNat) (S_.2.2.1 33 0 ((S_.2.2.1 43 (0 + dd_) n_.toNat) / 2).toNat)
        refine sm_T_bin (w := (sm_mx (S_.2.2.1 33 0 ((S_.2.2.1 42 (0 + dd_) n_.toNat) / 2).toNat) (S_.2.2.1 33 0 ((S_.2.2.1 43 (0 + dd_) n_.toNat) / 2).toNat)) + 1) rfl (bi_add (by omega) (by omega) (by omega)) ?_
        refine sm_T_iast (n := 1013) rfl rfl (by omega) (by omega) ?_
        have hIx11_ : gi (sm_aI S_ 33 0 n_.toNat ((sm_mx (S_.2.2.1 33 0 ((S_.2.2.1 42 (0 + dd_) n_.toNat) / 2).toNat) (S_.2.2.1 33 0 ((S_.2.2.1 43 (0 + dd_) n_.toNat) / 2).toNat)) + 1)) := gi_aI hI_ (show 0 ≤ (sm_mx (S_.2.2.1 33 0 ((S_.2.2.1 42 (0 + dd_) n_.toNat) / 2).toNat) (S_.2.2.1 33 0 ((S_.2.2.1 43 (0 + dd_) n_.toNat) / 2).toNat)) + 1 ∧ (sm_mx (S_.2.2.1 33 0 ((S_.2.2.1 42 (0 + dd_) n_.toNat) / 2).toNat) (S_.2.2.1 33 0 ((S_.2.2.1 43 (0 + dd_) n_.toNat) / 2).toNat)) + 1 ≤ 1012 from ⟨by omega, by omega⟩)
        have hFx12_ : ai_fr (sx_W vw_46) S0_ (sm_aI S_ 33 0 n_.toNat ((sm_mx (S_.2.2.1 33 0 ((S_.2.2.1 42 (0 + dd_) n_.toNat) / 2).toNat) (S_.2.2.1 33 0 ((S_.2.2.1 43 (0 + dd_) n_.toNat) / 2).toNat)) + 1)) := ai_fr_tr hF_ (ai_fr_aI rfl)
        have hDx13_ : idf dd_ S0_ (sm_aI S_ 33 0 n_.toNat ((sm_mx (S_.2.2.1 33 0 ((S_.2.2.1 42 (0 + dd_) n_.toNat) / 2).toNat) (S_.2.2.1 33 0 ((S_.2.2.1 43 (0 + dd_) n_.toNat) / 2).toNat)) + 1)) := idf_aI hD_ (Or.inl (by decide))
        refine sm_T_inc (a := 1) (z := 1) (v := n_) (w := n_ + 1) rfl rfl (by omega) (by omega) (by omega) ?_
        refine sm_T_go 1 (c1 := (16, [some (.inr (.inr (some (1, 0)))), some (.inl (n_ + 1))], [], sm_aI S_ 33 0 n_.toNat ((sm_mx (S_.2.2.1 33 0 ((S_.2.2.1 42 (0 + dd_) n_.toNat) / 2).toNat) (S_.2.2.1 33 0 ((S_.2.2.1 43 (0 + dd_) n_.toNat) / 2).toNat)) + 1))) rfl ?_
        refine ih_.1 (n_ + 1) (sm_aI S_ 33 0 n_.toNat ((sm_mx (S_.2.2.1 33 0 ((S_.2.2.1 42 (0 + dd_) n_.toNat) / 2).toNat) (S_.2.2.1 33 0 ((S_.2.2.1 43 (0 + dd_) n_.toNat) / 2).toNat)) + 1)) hIx11_ hFx12_ ⟨?_, ?_, ?_, trivial⟩ ?_
        · omega
        · intro k9_ hk9_
          rw [rd_eq]
          by_cases z9_ : k9_ = n_.toNat
          · rw [if_pos z9_]; split <;> (split at lo_ <;> split at hi_ <;> omega)
          · rw [if_neg z9_]; exact h1_ k9_ (by omega)
        · exact hDx13_
        · omega
    · rintro k_ S_ hI_ hF_ ⟨h0_, h1_, hD_, -⟩ hm_
      have g1_ := hg_.1
      have g2_ := hg_.2.1
      have e4_ : S_.1 3 dd_ 4 = S0_.1 3 dd_ 4 := hF_.1 3 dd_ 4 rfl
      have e3_ : S_.1 3 dd_ 3 = S0_.1 3 dd_ 3 := hF_.1 3 dd_ 3 rfl
      have e2_ : S_.1 3 dd_ 2 = S0_.1 3 dd_ 2 := hF_.1 3 dd_ 2 rfl
      have r1_ := hr_.1
      refine sm_T_go 2 (c1 := (88, [some (.inr (.inr (some (1, 0)))), some (.inl k_)], [.inr (.inr (some (1, 0))), .inl k_], S_)) rfl ?_
      refine sm_T_gr rfl rfl ((hF_.2.1 1 0 1 rfl).trans hd_) ?_
      refine sm_T_cal (d1 := 0) (Q1 := vq_66 dd_ S_) rfl rfl (by decide) (vc_66 dd_ S_ hI_ (by omega)) (fun u_ Sx1_ px4_ => ?_)
      obtain ⟨rfl, vx6_, rfl, px4_⟩ := px4_
      have e91_ := px4_
      refine sm_T_br (a := 3) (z := 41) rfl (fun cx7_ => ?_) (fun cx7_ => ?_)
      · have cx7_ : vx6_ ≤ k_ := of_decide_eq_true cx7_
        refine sm_T_rv rfl ⟨_, _, rfl, rfl, hI_, hF_, ?_⟩
        refine ⟨hD_, ?_⟩
        trivial
      · have cx7_ : ¬ (vx6_ ≤ k_) := of_decide_eq_false cx7_
        refine sm_T_go 1 (c1 := (98, [some (.inr (.inr (some (1, 0)))), some (.inl k_)], [.inr (.inr (some (1, 0)))], S_)) rfl ?_
        refine sm_T_gr rfl rfl ((hF_.2.1 1 0 1 rfl).trans hd_) ?_
        refine sm_T_go 1 (c1 := (102, [some (.inr (.inr (some (1, 0)))), some (.inl k_)], [.inr (.inr (some (1, 0))), .inr (.inr (some (3, dd_)))], S_)) rfl ?_
        refine sm_T_gr rfl rfl ((hF_.2.1 1 0 1 rfl).trans hd_) ?_
        have bx8_ : 0 ≤ S_.1 3 dd_ 7 ∧ S_.1 3 dd_ 7 ≤ 1000 := hI_.1 3 dd_ 7 rfl
        refine sm_T_go 4 (c1 := (113, [some (.inr (.inr (some (1, 0)))), some (.inl k_)], [.inr (.inr (some (1, 0))), .inr (.inr (some (33, 0))), .inl (S_.1 3 dd_ 7), .inr (.inr (some (3, dd_)))], S_)) rfl ?_
        refine sm_T_gr rfl rfl ((hF_.2.1 1 0 1 rfl).trans hd_) ?_
        refine sm_T_go 1 (c1 := (117, [some (.inr (.inr (some (1, 0)))), some (.inl k_)], [.inl k_, .inr (.inr (some (3, dd_))), .inr (.inr (some (33, 0))), .inl (S_.1 3 dd_ 7), .inr (.inr (some (3, dd_)))], S_)) rfl ?_
        refine sm_T_cal (d1 := 0) (Q1 := vq_65 k_ dd_ S_) rfl rfl (by decide) (vc_65 k_ dd_ S_ hI_ (by exact drt_fr hr_ hF_ rfl rfl rfl rfl rfl) (by omega)) (fun u_ Sx9_ px12_ => ?_)
        obtain ⟨rfl, vx14_, rfl, px12_⟩ := px12_
        have e117_ := px12_
        have w9_ := h1_ (vx14_ / 2).toNat (by omega)
        refine sm_T_go 1 (c1 := (121, [some (.inr (.inr (some (1, 0)))), some (.inl k_)], [.inl 1, .inl vx14_, .inr (.inr (some (33, 0))), .inl (S_.1 3 dd_ 7), .inr (.inr (some (3, dd_)))], S_)) rfl ?_
        refine sm_T_bin (w := (vx14_ / 2)) rfl (bi_shr (k := 1) (by decide) (by omega) (by omega)) ?_
        refine sm_T_iald (n := 1013) rfl rfl (by omega) (by omega) ?_
        have bx15_ : 0 ≤ S_.2.2.1 33 0 (vx14_ / 2).toNat ∧ S_.2.2.1 33 0 (vx14_ / 2).toNat ≤ 1012 := hI_.2 33 0 _
        refine sm_T_nt (u := some (.inl (sm_mx (S_.1 3 dd_ 7) (S_.2.2.1 33 0 (vx14_ / 2).toNat)))) (S1 := S_) rfl rfl rfl ?_
        have bx16_ := sm_mx_d (S_.1 3 dd_ 7) (S_.2.2.1 33 0 (vx14_ / 2).toNat)
        have hIx17_ : gi (sm_pI S_ 3 dd_ 7 (sm_mx (S_.1 3 dd_ 7) (S_.2.2.1 33 0 (vx14_ / 2).toNat))) := gi_pI hI_ (show 0 ≤ (sm_mx (S_.1 3 dd_ 7) (S_.2.2.1 33 0 (vx14_ / 2).toNat)) ∧ (sm_mx (S_.1 3 dd_ 7) (S_.2.2.1 33 0 (vx14_ / 2).toNat)) ≤ 1000 from ⟨by omega, by omega⟩)
        have hFx18_ : ai_fr (sx_W vw_46) S0_ (sm_pI S_ 3 dd_ 7 (sm_mx (S_.1 3 dd_ 7) (S_.2.2.1 33 0 (vx14_ / 2).toNat))) := ai_fr_tr hF_ (ai_fr_pI rfl)
        have hDx19_ : idf dd_ S0_ (sm_pI S_ 3 dd_ 7 (sm_mx (S_.1 3 dd_ 7) (S_.2.2.1 33 0 (vx14_ / 2).toNat))) := idf_pI hD_ (Or.inr rfl)
        refine sm_T_go 1 (c1 := (129, [some (.inr (.inr (some (1, 0)))), some (.inl k_)], [], sm_pI S_ 3 dd_ 7 (sm_mx (S_.1 3 dd_ 7) (S_.2.2.1 33 0 (vx14_ / 2).toNat)))) rfl ?_
        refine sm_T_inc (a := 1) (z := 1) (v := k_) (w := k_ + 1) rfl rfl (by omega) (by omega) (by omega) ?_
        refine sm_T_go 1 (c1 := (86, [some (.inr (.inr (some (1, 0)))), some (.inl (k_ + 1))], [], sm_pI S_ 3 dd_ 7 (sm_mx (S_.1 3 dd_ 7) (S_.2.2.1 33 0 (vx14_ / 2).toNat)))) rfl ?_
        refine ih_.2 (k_ + 1) (sm_pI S_ 3 dd_ 7 (sm_mx (S_.1 3 dd_ 7) (S_.2.2.1 33 0 (vx14_ / 2).toNat))) hIx17_ hFx18_ ⟨?_, ?_, ?_, trivial⟩ ?_
        · omega
        · exact h1_
        · exact hDx19_
        · omega
set_option maxHeartbeats 1000000 in
theorem vc_46 {sc_ : Nat × (Nat → Int)} (dd_ : Nat) (F_ : Nat) (S0_ : sm_S) (hI_ : gi S0_) (hd_ : S0_.2.1 1 0 1 = some dd_) (hg_ : dgr dd_ F_ S0_) (hr_ : drt dd_ S0_) : sm_T (mt_P sc_) 1 46 (0, [some (.inr (.inr (some (1, 0)))), none], [], S0_) (fun ro9_ => ∃ u_ S1_, ro9_ = (.inl u_, S1_, 0) ∧ vq_46 dd_ F_ S0_ u_ S1_) := by
  have hF_ : ai_fr (sx_W vw_46) S0_ S0_ := ai_fr_rf
  have hD_ : idf dd_ S0_ S0_ := idf_rf
  refine sm_T_go 3 (c1 := (5, [some (.inr (.inr (some (1, 0)))), none], [.inl 0, .inr (.inr (some (33, 0)))], S0_)) rfl ?_
  refine sm_T_cal (d1 := 0) (Q1 := vq_2s 0 S0_) rfl rfl (by decide) (vc_2s 0 S0_ hI_ (by decide)) (fun u_ Sx1_ px4_ => ?_)
  obtain ⟨rfl, hIx2_, hFx3_, px4_⟩ := px4_
  have hFx5_ : ai_fr (sx_W vw_46) S0_ Sx1_ := ai_fr_tr hF_ (fr_le hFx3_ rfl)
  have hDx6_ : idf dd_ S0_ Sx1_ := idf_tr hD_ (idf_fr hFx3_ (by decide) (by decide))
  have e5_ := px4_
  refine sm_T_go 1 (c1 := (9, [some (.inr (.inr (some (1, 0)))), none], [.inr (.inr (some (1, 0)))], Sx1_)) rfl ?_
  refine sm_T_gr rfl rfl ((hFx5_.2.1 1 0 1 rfl).trans hd_) ?_
  refine sm_T_cal (d1 := 0) (Q1 := vq_63 dd_ Sx1_) rfl rfl (by decide) (vc_63 dd_ Sx1_ hIx2_ (by (have g1_ := hg_.1); rw [hFx5_.1 3 dd_ 1 rfl, hFx5_.1 3 dd_ 2 rfl]; omega)) (fun u_ Sx7_ px10_ => ?_)
  obtain ⟨rfl, vx12_, rfl, px10_⟩ := px10_
  have e12 := px10_
  refine sm_T_go 1 (c1 := (16, [some (.inr (.inr (some (1, 0)))), some (.inl vx12_)], [], Sx1_)) rfl ?_
  refine (vl_46 dd_ F_ S0_ hd_ hg_ hr_ _).1 vx12_ Sx1_ hIx2_ hFx5_ ⟨?_, ?_, ?_, trivial⟩ (Nat.lt_succ_self _)
  · have g1_ := hg_.1
    have g2_ := hg_.2.1
    have q1_ := hFx5_.1 3 dd_ 1 rfl
    have q2_ := hFx5_.1 3 dd_ 2 rfl
    omega
  · intro k9_ hk9_
    have g1_ := hg_.1
    have q1_ := hFx5_.1 3 dd_ 1 rfl
    have q2_ := hFx5_.1 3 dd_ 2 rfl
    rw [e5_ k9_ (by omega)]
    split <;> omega
  · exact hDx6_
end
