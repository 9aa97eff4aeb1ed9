/-! items; written by wip/p55/gen/vg -/

/-! what items are_ made of_ -/
theorem in_r {b_ : Nat → Int} {n_ m_ p_ : Nat} {A_ : pA} {c_ : List Int} {r_ : pT} (h_ : p_in b_ n_ A_ m_ c_ p_ = .inr r_) : ∃ q_ r1_ u_ y_, p_ad b_ n_ p_ = .inr q_ ∧ p_nw b_ n_ A_ m_ q_ = .inr r1_ ∧ p_wi b_ n_ r1_ = .inr u_ ∧ p_nd b_ n_ 59 u_.1 = .inr y_ ∧ r_ = (a_te A_ m_ q_ 0 u_.2 0, c_, y_) := by
  obtain ⟨q_, h1_, h2_⟩ := pb_inr h_
  obtain ⟨r1_, h3_, h4_⟩ := pb_inr h2_
  obtain ⟨u_, h5_, h6_⟩ := pb_inr h4_
  obtain ⟨y_, h7_, h8_⟩ := pb_inr h6_
  cases h8_
  exact ⟨q_, r1_, u_, y_, h1_, h3_, h5_, h7_, rfl⟩
theorem va_r {b_ : Nat → Int} {n_ m_ p_ : Nat} {A_ : pA} {so_ : Int} {c_ : List Int} {r_ : pT} (h_ : p_va b_ n_ A_ m_ so_ c_ p_ = .inr r_) : ∃ q_ r1_ u_ v_ x_ y_, p_ad b_ n_ p_ = .inr q_ ∧ p_nw b_ n_ A_ m_ q_ = .inr r1_ ∧ p_wi b_ n_ r1_ = .inr u_ ∧ p_nd b_ n_ 61 u_.1 = .inr v_ ∧ p_xd b_ n_ A_ m_ c_ v_ = .inr x_ ∧ h_tp x_.2.1 = u_.2 ∧ p_nd b_ n_ 59 x_.1 = .inr y_ ∧ r_ = (a_te A_ m_ q_ so_ u_.2 0, cw 12 (A_.1 m_) 0 :: x_.2.2, y_) := by
  obtain ⟨q_, h1_, h2_⟩ := pb_inr h_
  obtain ⟨r1_, h3_, h4_⟩ := pb_inr h2_
  obtain ⟨u_, h5_, h6_⟩ := pb_inr h4_
  obtain ⟨v_, h7_, h8_⟩ := pb_inr h6_
  obtain ⟨x_, h9_, h10_⟩ := pb_inr h8_
  by_cases g_ : h_tp x_.2.1 = u_.2
  · rw [if_pos g_] at h10_
    obtain ⟨y_, h11_, h12_⟩ := pb_inr h10_
    cases h12_
    exact ⟨q_, r1_, u_, v_, x_, y_, h1_, h3_, h5_, h7_, h9_, g_, h11_, rfl⟩
  · rw [if_neg g_] at h10_
    cases h10_
theorem re_r {b_ : Nat → Int} {n_ m_ p_ : Nat} {A_ : pA} {c_ : List Int} {r_ : pT} (h_ : p_re b_ n_ A_ m_ c_ p_ = .inr r_) : ∃ q_ r1_ u_ z_ y_, p_ad b_ n_ p_ = .inr q_ ∧ p_nw b_ n_ A_ m_ q_ = .inr r1_ ∧ p_wi b_ n_ r1_ = .inr u_ ∧ p_rb b_ n_ u_.2 u_.1 = .inr z_ ∧ p_nd b_ n_ 59 z_.1 = .inr y_ ∧ r_ = (a_te A_ m_ q_ 3 u_.2 z_.2, cw 13 (A_.1 m_) 0 :: c_, y_) := by
  obtain ⟨q_, h1_, h2_⟩ := pb_inr h_
  obtain ⟨r1_, h3_, h4_⟩ := pb_inr h2_
  obtain ⟨u_, h5_, h6_⟩ := pb_inr h4_
  obtain ⟨z_, h7_, h8_⟩ := pb_inr h6_
  obtain ⟨y_, h9_, h10_⟩ := pb_inr h8_
  cases h10_
  exact ⟨q_, r1_, u_, z_, y_, h1_, h3_, h5_, h7_, h9_, rfl⟩
theorem ne_r {b_ : Nat → Int} {n_ m_ p_ : Nat} {A_ : pA} {c_ : List Int} {r_ : pT} (h_ : p_ne b_ n_ A_ m_ c_ p_ = .inr r_) : ∃ (s_ : Nat) (q_ r1_ : Nat) (x_ : pR) (y_ : Nat), p_fn b_ n_ A_ m_ p_ = (s_ : Int) ∧ s_ < A_.1 m_ ∧ A_.2.2.1 (40 * m_ + s_) = 3 ∧ p_ad b_ n_ p_ = .inr q_ ∧ p_nd b_ n_ 256 q_ = .inr r1_ ∧ p_xd b_ n_ A_ m_ c_ r1_ = .inr x_ ∧ h_tp x_.2.1 = A_.2.2.2.1 (40 * m_ + s_) ∧ p_nd b_ n_ 59 x_.1 = .inr y_ ∧ r_ = (a_dr A_ (40 * m_ + s_), cw 14 (s_ : Int) 0 :: x_.2.2, y_) := by
  unfold p_ne at h_
  by_cases g_ : p_fn b_ n_ A_ m_ p_ = -1 ∨ A_.2.2.1 (40 * m_ + (p_fn b_ n_ A_ m_ p_).toNat) ≠ 3
  · rw [if_pos g_] at h_
    cases h_
  · rw [if_neg g_] at h_
    obtain ⟨s_, q1_, q2_, q3_, -⟩ := p_fn_b (b_ := b_) (n_ := n_) (A_ := A_) (m_ := m_) (p_ := p_) (fun z_ => g_ (Or.inl z_))
    have s3_ : A_.2.2.1 (40 * m_ + s_) = 3 := by
      by_cases z_ : A_.2.2.1 (40 * m_ + s_) = 3
      · exact z_
      · exact absurd (Or.inr (by rw [q3_]; exact z_)) g_
    obtain ⟨q_, h1_, h2_⟩ := pb_inr h_
    obtain ⟨r1_, h3_, h4_⟩ := pb_inr h2_
    obtain ⟨x_, h5_, h6_⟩ := pb_inr h4_
    rw [q3_, q1_] at h6_
    by_cases w_ : h_tp x_.2.1 = A_.2.2.2.1 (40 * m_ + s_)
    · rw [if_pos w_] at h6_
      obtain ⟨y_, h7_, h8_⟩ := pb_inr h6_
      cases h8_
      exact ⟨s_, q_, r1_, x_, y_, q1_, q2_, s3_, h1_, h3_, h5_, w_, h7_, rfl⟩
    · rw [if_neg w_] at h6_
      cases h6_
theorem us_r {b_ : Nat → Int} {n_ m_ p_ : Nat} {A_ : pA} {N_ : Nat → Nat} {c_ : List Int} {r_ : pT} (h_ : p_us b_ n_ A_ N_ m_ c_ p_ = .inr r_) : ∃ (q_ r1_ d_ u_ v_ : Nat) (x_ : List Int × Nat) (y_ : Nat), p_ad b_ n_ p_ = .inr q_ ∧ p_nw b_ n_ A_ m_ q_ = .inr r1_ ∧ lx_kd b_ n_ r1_ = 1 ∧ p_fm b_ n_ N_ m_ r1_ = (d_ : Int) ∧ d_ < m_ ∧ p_ad b_ n_ r1_ = .inr u_ ∧ p_nd b_ n_ 40 u_ = .inr v_ ∧ p_ua b_ n_ A_ m_ d_ (A_.1 m_) q_ (cw 15 (A_.1 m_) 0 :: c_) v_ = .inr x_ ∧ p_nd b_ n_ 59 x_.2 = .inr y_ ∧ r_ = (a_te A_ m_ q_ 5 0 (d_ : Int), cw 17 (A_.1 m_) (d_ : Int) :: x_.1, y_) := by
  obtain ⟨q_, h1_, h2_⟩ := pb_inr h_
  obtain ⟨r1_, h3_, h4_⟩ := pb_inr h2_
  by_cases k1_ : lx_kd b_ n_ r1_ = 1
  · rw [if_pos k1_] at h4_
    by_cases g_ : p_fm b_ n_ N_ m_ r1_ = -1
    · rw [if_pos g_] at h4_
      cases h4_
    · rw [if_neg g_] at h4_
      have fb_ : -1 ≤ p_fm b_ n_ N_ m_ r1_ ∧ p_fm b_ n_ N_ m_ r1_ < m_ := p_fd_b (f_ := fun k_ => nm_q b_ n_ (N_ k_) r1_) m_
      obtain ⟨d_, hd_⟩ : ∃ d_ : Nat, p_fm b_ n_ N_ m_ r1_ = (d_ : Int) := ⟨(p_fm b_ n_ N_ m_ r1_).toNat, by omega⟩
      rw [hd_] at h4_
      obtain ⟨u_, h5_, h6_⟩ := pb_inr h4_
      obtain ⟨v_, h7_, h8_⟩ := pb_inr h6_
      obtain ⟨x_, h9_, h10_⟩ := pb_inr h8_
      obtain ⟨y_, h11_, h12_⟩ := pb_inr h10_
      cases h12_
      exact ⟨q_, r1_, d_, u_, v_, x_, y_, h1_, h3_, k1_, hd_, by omega, h5_, h7_, h9_, h11_, rfl⟩
  · rw [if_neg k1_] at h4_
    cases h4_
/-! the_ names that are_ told have values -/
theorem te_f {A_ : pA} {m_ q_ : Nat} {so_ w_ d_ : Int} : (a_te A_ m_ q_ so_ w_ d_).1 m_ = A_.1 m_ + 1 ∧ (a_te A_ m_ q_ so_ w_ d_).2.1 (40 * m_ + A_.1 m_) = q_ ∧ (a_te A_ m_ q_ so_ w_ d_).2.2.1 (40 * m_ + A_.1 m_) = so_ ∧ (a_te A_ m_ q_ so_ w_ d_).2.2.2.1 (40 * m_ + A_.1 m_) = w_ ∧ (a_te A_ m_ q_ so_ w_ d_).2.2.2.2 (40 * m_ + A_.1 m_) = d_ := by
  unfold a_te
  exact ⟨if_pos rfl, if_pos rfl, if_pos rfl, if_pos rfl, if_pos rfl⟩
section IT_
variable {b_ : Nat → Int} {n_ F_ I_ m_ : Nat} {A_ B_ : pA} {N_ : Nat → Nat} {X_ : Nat → gQ → gE → Option (gQ × gE)} {s0_ : gS}
theorem pd_ev (hA_ : a_ok b_ n_ A_ m_) (hB_ : a_ok b_ n_ B_ m_) (hx_ : a_ex A_ B_ m_) (ht_ : ten B_ m_ (A_.1 m_) s0_.2.1 s0_.2.2.1) : pr_ev F_ I_ B_ X_ m_ s0_ (p_pd b_ n_ A_ m_) := by
  intro p_ r_ hr_
  have hq_ := pd_ex hA_ hx_ hr_
  have e_ := hq_.1
  have hm40_ := (hB_.2 m_ (Nat.le_refl _)).1
  unfold p_pd at e_
  by_cases k2_ : lx_kd b_ n_ p_ = 2
  · rw [if_pos k2_] at e_
    obtain ⟨qa_, qb_, qu_, -, -, -, -, qw_, -, -, hr9_⟩ := co_r e_
    have vp_ := lx_vl_0 k2_
    rw [hr9_]
    exact ⟨c_bt (lx_vl b_ n_ qb_).toNat (lx_vl b_ n_ p_), ev1_cn qw_ vp_, by rw [c_bt_l]; show _ = lx_vl b_ n_ qb_; omega, by rw [c_bt_l]; omega⟩
  · rw [if_neg k2_] at e_
    by_cases k1_ : lx_kd b_ n_ p_ = 1
    · rw [if_pos k1_] at e_
      have hk_ := hq_.2 k1_
      obtain ⟨s9_, q_, q1_, q2_, q3_, q4_⟩ := na_r e_
      have sK_ : s9_ < A_.1 m_ := by omega
      have ao_ := (hB_.2 m_ (Nat.le_refl _)).2 s9_ q2_
      have key_ : A_.1 m_ ≤ B_.1 m_ := hx_.1
      have e1o : B_.2.2.1 (40 * m_ + s9_) ≠ 5 → ev1 F_ I_ B_ X_ m_ s0_.2.1 s0_.2.2.1 [cw 9 (s9_ : Int) 0] (s0_.2.1 s9_) ∧ ((s0_.2.1 s9_).length : Int) = B_.2.2.2.1 (40 * m_ + s9_) ∧ 1 ≤ (s0_.2.1 s9_).length ∧ (s0_.2.1 s9_).length ≤ 8 := by
        intro nso_
        have lE := (ht_.2 s9_ sK_).1 nso_
        have wA_ := ao_.2.2.1
        have wA1_ := ao_.2.2.2.1 nso_
        have q9_ := ev1_ld (F_ := F_) (I_ := I_) (X_ := X_) (E_ := s0_.2.1) (O_ := s0_.2.2.1) (a_ := (s9_ : Int)) (m_ := m_) (A_ := B_) (by omega) hm40_ (by rw [Int.toNat_natCast]; omega) (by rw [Int.toNat_natCast]; exact lE)
        rw [Int.toNat_natCast] at q9_
        exact ⟨q9_, lE, by omega, by omega⟩
      rcases q4_ with ⟨z1_, z2_, z3_⟩ | ⟨z1_, u_, z2_, z3_⟩
      · obtain ⟨w1_, w2_, w3_⟩ := e1o z2_
        rw [z3_]
        exact ⟨_, w1_, w2_, w3_⟩
      · rcases z3_ with ⟨z3_, z4_, z5_⟩ | ⟨z3_, z4_, v_, z5_, z6_⟩
        · obtain ⟨o9_, q7_, pq1_, pq2_, pq3_, pq4_, pq5_⟩ := pa_r z5_
          have d5_ := ao_.2.2.2.2.1 z4_
          obtain ⟨o_, hO_, hOl_⟩ := (ht_.2 s9_ sK_).2 z4_
          have lo1_ := hOl_ o9_ pq2_ (by rw [pq3_]; decide)
          have aoD_ := (hB_.2 (B_.2.2.2.2 (40 * m_ + s9_)).toNat (by omega)).2 o9_ pq2_
          have wD_ := aoD_.2.2.1
          have wD1_ := aoD_.2.2.2.1 (by rw [pq3_]; decide)
          have e1p : ev1 F_ I_ B_ X_ m_ s0_.2.1 s0_.2.2.1 [cw 10 (s9_ : Int) (o9_ : Int)] (o_ o9_) := by
            have q9_ := ev1_pt (F_ := F_) (I_ := I_) (X_ := X_) (E_ := s0_.2.1) (a_ := (s9_ : Int)) (d_ := (o9_ : Int)) (o_ := o_) (m_ := m_) (A_ := B_) (O_ := s0_.2.2.1) (by omega) hm40_ (by rw [Int.toNat_natCast]; exact hO_) (by rw [Int.toNat_natCast]; omega) (by rw [Int.toNat_natCast]; exact d5_) (by rw [Int.toNat_natCast]; omega) (by rw [Int.toNat_natCast, Int.toNat_natCast]; exact lo1_)
            rw [Int.toNat_natCast] at q9_
            exact q9_
          rcases pq5_ with ⟨w1_, w2_⟩ | ⟨w1_, y1_, y2_, w2_, w3_, w4_⟩
          · rw [w2_]
            exact ⟨_, e1p, lo1_, by omega⟩
          · have r9_ := bp_rr w3_
            rw [w4_]
            exact ⟨_, ev1_bi e1p (by omega) (by omega), rfl, ⟨by simp, by simp⟩⟩
        · obtain ⟨w1_, w2_, w3_⟩ := e1o z4_
          have r9_ := bp_rr z5_
          rw [z6_]
          exact ⟨_, ev1_bi w1_ (by omega) (by omega), rfl, ⟨by simp, by simp⟩⟩
    · rw [if_neg k1_] at e_
      cases e_
/-- what is_ true of_ the_ values while a_ module is_ worked out_ -/
def tst (B_ : pA) (I_ m_ K_ : Nat) (E_ : gE) (O_ : gO) : Prop := ten B_ m_ K_ E_ O_ ∧ (∀ s_, s_ < K_ → B_.2.2.1 (40 * m_ + s_) = 3 ∨ B_.2.2.1 (40 * m_ + s_) = 4 → ∃ rb, E_ s_ = r_bt I_ rb (B_.2.2.2.1 (40 * m_ + s_)).toNat ∧ rb + (B_.2.2.2.1 (40 * m_ + s_)).toNat ≤ 6) ∧ (∀ s_, K_ ≤ s_ → s_ < B_.1 m_ → B_.2.2.1 (40 * m_ + s_) ≠ 0 → E_ s_ = [] ∧ O_ s_ = none) ∧ ∀ s_, s_ < B_.1 m_ → B_.2.2.1 (40 * m_ + s_) = 0 → ((E_ s_).length : Int) = B_.2.2.2.1 (40 * m_ + s_)
theorem ew_st {k_ a_ d_ : Int} {s_ r_ : gS} (hk_ : 12 ≤ k_ ∧ k_ ≤ 16) (ha_ : 0 ≤ a_ ∧ a_ < 64) (h_ : e_st I_ B_ m_ k_ a_.toNat d_ s_ = some r_) : ew F_ I_ B_ X_ m_ (cw k_ a_ d_) s_ = some r_ := by
  obtain ⟨e1_, e2_, e3_⟩ := cw_d (k_ := k_) (a_ := a_) (d_ := d_) (by omega) ha_
  unfold ew
  rw [e1_, e2_, e3_, if_neg (by omega), if_neg (by omega), if_neg (by omega)]
  exact h_
/-- the_ expression of_ an_ item, on_ top_ of_ what is_ there -/
theorem xd_tot {p_ : Nat} {x_ : pR} {c_ c0_ kk_ : List Int} {q_ : gQ} {E_ : gE} {O_ : gO} (hn_ : n_ ≤ 1280) (hpr_ : pr_ok b_ n_ (p_pd b_ n_ A_ m_)) (hA_ : a_ok b_ n_ A_ m_) (hB_ : a_ok b_ n_ B_ m_) (hx_ : a_ex A_ B_ m_) (ht_ : ten B_ m_ (A_.1 m_) E_ O_) (hp_ : p_ ≤ n_) (hk_ : lx_kd b_ n_ p_ ≠ -1) (hc_ : c_ = kk_ ++ c0_) (he_ : ev F_ I_ B_ X_ m_ s0_ kk_ = some (q_, E_, O_, [])) (e_ : p_xd b_ n_ A_ m_ c_ p_ = .inr x_) : ∃ k_ G_ v_, p_ex b_ n_ false (p_pd b_ n_ A_ m_) [] p_ = .inr (x_.1, x_.2.1, k_) ∧ x_.2.2 = (k_ ++ kk_) ++ c0_ ∧ ev F_ I_ B_ X_ m_ (q_, E_, O_, []) k_ = some ((G_, q_.2), E_, O_, [v_]) ∧ ev F_ I_ B_ X_ m_ s0_ (k_ ++ kk_) = some ((G_, q_.2), E_, O_, [v_]) ∧ h_tp x_.2.1 = (v_.length : Int) ∧ (1 ≤ v_.length ∧ v_.length ≤ 8) := by
  obtain ⟨k_, h1_, h2_⟩ := ex_ac e_
  obtain ⟨G_, v_, h3_, h4_, h5_⟩ := ex_tot (F_ := F_) (I_ := I_) (A_ := B_) (X_ := X_) (m_ := m_) (s0_ := (q_, E_, O_, [])) hn_ hpr_ (pd_ev hA_ hB_ hx_ ht_) hp_ hk_ rfl h1_
  have h3_ : ev F_ I_ B_ X_ m_ (q_, E_, O_, []) k_ = some ((G_, q_.2), E_, O_, [v_]) := h3_
  refine ⟨k_, G_, v_, h1_, by rw [h2_, hc_, List.append_assoc], h3_, ?_, h4_, h5_⟩
  rw [ev_a he_, h3_]
theorem tst_up {K_ : Nat} {E_ : gE} {O_ : gO} {v_ : List Int} (h_ : tst B_ I_ m_ K_ E_ O_) (hK_ : K_ < B_.1 m_) (hs_ : B_.2.2.1 (40 * m_ + K_) ≠ 5) (hl_ : (v_.length : Int) = B_.2.2.2.1 (40 * m_ + K_)) (hr_ : B_.2.2.1 (40 * m_ + K_) = 3 ∨ B_.2.2.1 (40 * m_ + K_) = 4 → ∃ rb, v_ = r_bt I_ rb (B_.2.2.2.1 (40 * m_ + K_)).toNat ∧ rb + (B_.2.2.2.1 (40 * m_ + K_)).toNat ≤ 6) : tst B_ I_ m_ (K_ + 1) (up1 E_ K_ v_) O_ := by
  obtain ⟨⟨h0_, h1_⟩, h2_, h3_, h4_⟩ := h_
  refine ⟨⟨by omega, fun s_ hs1_ => ?_⟩, fun s_ hs1_ hs2_ => ?_, fun s_ hs1_ hs2_ hs3_ => ?_, fun s_ hs1_ hs2_ => ?_⟩
  · unfold up1
    by_cases e_ : s_ = K_
    · rw [if_pos e_, e_]
      exact ⟨fun _ => hl_, fun z_ => absurd z_ hs_⟩
    · rw [if_neg e_]
      exact h1_ s_ (by omega)
  · unfold up1
    by_cases e_ : s_ = K_
    · rw [if_pos e_, e_]
      rw [e_] at hs2_
      exact hr_ hs2_
    · rw [if_neg e_]
      exact h2_ s_ (by omega) hs2_
  · unfold up1
    rw [if_neg (by omega)]
    exact h3_ s_ (by omega) hs2_ hs3_
  · unfold up1
    by_cases e_ : s_ = K_
    · rw [if_pos e_, e_]
      exact hl_
    · rw [if_neg e_]
      exact h4_ s_ hs1_ hs2_
end IT_
