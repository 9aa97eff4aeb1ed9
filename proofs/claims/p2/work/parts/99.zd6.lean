/-! every right item can be worked out; written by wip/p55/gen/vg -/

/-! every right item can_ be_ worked out_ -/
section IT3_
variable {b_ : Nat → Int} {n_ F_ I_ m_ : Nat} {A_ B_ : pA} {N_ : Nat → Nat} {X_ : Nat → gQ → gE → Option (gQ × gE)} {s0_ : gS}
theorem te_ex {q_ : Nat} {so_ w_ d_ : Int} (h_ : a_ex (a_te A_ m_ q_ so_ w_ d_) B_ m_) : A_.1 m_ < B_.1 m_ ∧ B_.2.2.2.1 (40 * m_ + A_.1 m_) = w_ ∧ B_.2.2.2.2 (40 * m_ + A_.1 m_) = d_ ∧ (B_.2.2.1 (40 * m_ + A_.1 m_) = so_ ∨ (so_ = 3 ∧ B_.2.2.1 (40 * m_ + A_.1 m_) = 4)) := by
  have t_ := te_f (A_ := A_) (m_ := m_) (q_ := q_) (so_ := so_) (w_ := w_) (d_ := d_)
  have h1_ := h_.1
  have h2_ := h_.2.2 m_ (A_.1 m_) (Nat.le_refl _) (by rw [t_.1]; omega)
  rw [t_.1] at h1_
  rw [t_.2.1, t_.2.2.1, t_.2.2.2.1, t_.2.2.2.2] at h2_
  refine ⟨by omega, h2_.2.1.symm, h2_.2.2.1.symm, ?_⟩
  rcases h2_.2.2.2 with z_ | z_
  · exact Or.inl z_.symm
  · exact Or.inr z_
theorem ar_pl {d_ K_ pl_ : Nat} (hn_ : n_ ≤ 1280) (hA_ : a_ok b_ n_ A_ m_) : ∀ (f_ : Nat) (i_ : Int) (c_ : List Int) (p_ : Nat) (x_ : List Int × Nat), p_ar b_ n_ A_ m_ d_ K_ pl_ f_ i_ c_ p_ = .inr x_ → p_ ≤ n_ → lx_kd b_ n_ p_ ≠ -1 → p_ < x_.2 ∧ x_.2 ≤ n_ ∧ lx_kd b_ n_ x_.2 ≠ -1
  | 0, _, _, _, _, h_, _, _ => by cases h_
  | f_ + 1, i_, c_, p_, x_, h_, hp_, hk_ => by
    rw [p_ar] at h_
    obtain ⟨x1_, h1_, h2_⟩ := pb_inr h_
    obtain ⟨k_, q1_, q2_⟩ := ex_ac h1_
    have w_ := pex_ok hn_ (pd_ok hA_) hp_ hk_ (Nat.zero_le _) q1_
    have w1_ : p_ < x1_.1 := w_.1
    have w2_ : x1_.1 ≤ n_ := w_.2.1
    by_cases g_ : i_ ≠ -1 ∧ h_tp x1_.2.1 ≠ A_.2.2.2.1 (40 * d_ + i_.toNat)
    · rw [if_pos g_] at h2_
      cases h2_
    · rw [if_neg g_] at h2_
      by_cases k44_ : lx_kd b_ n_ x1_.1 = 44
      · rw [if_pos k44_] at h2_
        by_cases z_ : p_a2 A_ d_ i_ = -1
        · rw [if_pos z_] at h2_
          cases h2_
        · rw [if_neg z_] at h2_
          obtain ⟨q7_, q8_, q9_⟩ := pb_inr h2_
          have a_ := p_ad_ok w2_ (by omega) q8_
          have y_ := ar_pl hn_ hA_ f_ _ _ q7_ x_ q9_ a_.2.2.1 a_.2.2.2
          exact ⟨by omega, y_.2⟩
      · rw [if_neg k44_] at h2_
        obtain ⟨a1_, a2_, a3_, a4_⟩ := ae_r h2_
        have a_ := p_ad_ok w2_ (by omega) a4_
        exact ⟨by omega, a_.2.2⟩
theorem us_tot {p_ : Nat} {r_ : pT} {c_ kk_ c0_ : List Int} {G_ : pGr} {R_ fc_ : Nat} {E_ : gE} {O_ : gO} {r1_ i1_ : Nat → Int} (hn_ : n_ ≤ 1280) (hA_ : a_ok b_ n_ A_ m_) (hB_ : a_ok b_ n_ B_ m_) (hx_ : a_ex A_ B_ m_) (hx'_ : a_ex r_.1 B_ m_) (hp_ : p_ ≤ n_) (hk0_ : lx_kd b_ n_ p_ ≠ 0) (e_ : p_us b_ n_ A_ N_ m_ c_ p_ = .inr r_) (hc_ : c_ = kk_ ++ c0_) (he_ : ev F_ I_ B_ X_ m_ s0_ kk_ = some ((G_, R_, fc_), E_, O_, [])) (ht_ : tst B_ I_ m_ (A_.1 m_) E_ O_) (hf_ : (fc_ : Int) + t_is i1_ B_ m_ (A_.1 m_) ≤ 201) (hnn_ : ∀ d_, 0 ≤ r1_ d_ ∧ 0 ≤ i1_ d_) (hX_ : ∀ d_, d_ < m_ → B_.2.2.1 (40 * m_ + A_.1 m_) = 5 → B_.2.2.2.2 (40 * m_ + A_.1 m_) = (d_ : Int) → ∀ G_ o_, oin B_ d_ (B_.1 d_) o_ → ∃ G'_ e'_, X_ d_ (G_, R_, fc_ + 1) o_ = some ((G'_, R_ + (r1_ d_).toNat, fc_ + 1 + (i1_ d_).toNat), e'_) ∧ ∀ o1_, o1_ < B_.1 d_ → B_.2.2.1 (40 * d_ + o1_) ≠ 5 → ((e'_ o1_).length : Int) = B_.2.2.2.1 (40 * d_ + o1_)) : ∃ kk'_ G'_ R'_ fc'_ O'_, r_.2.1 = kk'_ ++ c0_ ∧ ev F_ I_ B_ X_ m_ s0_ kk'_ = some ((G'_, R'_, fc'_), E_, O'_, []) ∧ tst B_ I_ m_ (r_.1.1 m_) E_ O'_ ∧ r_.1.1 m_ = A_.1 m_ + 1 ∧ (R'_ : Int) = R_ + t_rg r1_ B_ m_ (A_.1 m_) ∧ (fc'_ : Int) = fc_ + t_is i1_ B_ m_ (A_.1 m_) ∧ p_ < r_.2.2 ∧ r_.2.2 ≤ n_ ∧ lx_kd b_ n_ r_.2.2 ≠ -1 := by
  obtain ⟨q_, r9_, d_, u_, v_, x_, y_, h1_, h2_, h3_, h4_, h5_, h6_, h7_, h8_, h9_, h10_⟩ := us_r e_
  subst h10_
  have tx_ := te_ex hx'_
  have te1_ : (a_te A_ m_ q_ 5 0 (d_ : Int)).1 m_ = A_.1 m_ + 1 := te_f.1
  have s5_ : B_.2.2.1 (40 * m_ + A_.1 m_) = 5 := by
    rcases tx_.2.2.2 with z_ | z_
    · exact z_
    · omega
  have dd_ : B_.2.2.2.2 (40 * m_ + A_.1 m_) = (d_ : Int) := tx_.2.2.1
  have ti_ : t_is i1_ B_ m_ (A_.1 m_) = 1 + i1_ d_ := by unfold t_is; rw [if_pos s5_, dd_, Int.toNat_natCast]
  have tr_ : t_rg r1_ B_ m_ (A_.1 m_) = r1_ d_ := by unfold t_rg; rw [if_neg (by omega), if_pos s5_, dd_, Int.toNat_natCast]
  have nd_ := hnn_ d_
  obtain ⟨e3_, e4_⟩ := ht_.2.2.1 (A_.1 m_) (Nat.le_refl _) tx_.1 (by omega)
  have K40_ := (hB_.2 m_ (Nat.le_refl _)).1
  have p1_ := p_ad_ok hp_ hk0_ h1_
  obtain ⟨-, p2a, p2b⟩ := p_nn_ok h2_
  have p2_ := p_ad_ok p1_.2.2.1 (by omega) p2b
  have p3_ := p_ad_ok p2_.2.2.1 (by omega) h6_
  have p4_ := p_nd_ok (by decide) p3_.2.2.1 h7_
  have he1_ : ev F_ I_ B_ X_ m_ s0_ (cw 15 (A_.1 m_ : Int) 0 :: kk_) = some ((G_, R_, fc_ + 1), E_, up1 O_ (A_.1 m_) (some fun _ => []), []) := by
    rw [ev_c he_]
    refine ew_st (by decide) (by omega) ?_
    rw [Int.toNat_natCast]
    exact st15 tx_.1 e3_ e4_ (by omega)
  have ho0_ : oin B_ d_ 0 (fun _ => []) := ⟨fun s_ _ _ h_ => absurd h_ (Nat.not_lt_zero _), fun _ _ _ => rfl⟩
  obtain ⟨kk1_, G1_, o1_, w1_, w2_, w3_, w4_⟩ : ∃ kk1_ G1_ o1_, x_.1 = kk1_ ++ c0_ ∧ ev F_ I_ B_ X_ m_ s0_ kk1_ = some ((G1_, R_, fc_ + 1), E_, up1 O_ (A_.1 m_) (some o1_), []) ∧ oin B_ d_ (B_.1 d_) o1_ ∧ (v_ < x_.2 ∧ x_.2 ≤ n_ ∧ lx_kd b_ n_ x_.2 ≠ -1) := by
    unfold p_ua at h8_
    by_cases k41_ : lx_kd b_ n_ v_ = 41
    · rw [if_pos k41_] at h8_
      obtain ⟨a1_, a2_, a3_, a4_⟩ := ae_r h8_
      have a5_ : p_ni A_ d_ 0 = -1 := by
        by_cases z_ : p_ni A_ d_ 0 = -1
        · exact z_
        · rw [decide_eq_true z_] at a1_
          cases a1_
      have a6_ := p_ad_ok p4_.2.2.1 (by omega) a4_
      refine ⟨_, G_, _, by rw [a3_, hc_]; rfl, he1_, ⟨fun s_ hs_ h0_ _ => ?_, fun _ _ _ => rfl⟩, a6_.2⟩
      have w_ := hx_.2.2 d_ s_ (by omega) (by rw [hx_.2.1 d_ h5_]; exact hs_)
      exfalso
      refine ni_n a5_ s_ (by rw [hx_.2.1 d_ h5_]; exact hs_) (Nat.zero_le _) ?_
      rcases w_.2.2.2 with z_ | z_ <;> omega
    · rw [if_neg k41_] at h8_
      obtain ⟨kk1_, G1_, o1_, w1_, w2_, w3_⟩ := ar_tot (F_ := F_) (I_ := I_) (X_ := X_) (s0_ := s0_) (c0_ := c0_) hn_ hA_ hB_ hx_ ht_.1 rfl tx_.1 h5_ _ _ _ (cw 15 (A_.1 m_ : Int) 0 :: kk_) v_ x_ G_ _ 0 h8_ rfl p4_.2.2.1 p4_.2.2.2 (by rw [hc_]; rfl) he1_ ho0_
      exact ⟨kk1_, G1_, o1_, w1_, w2_, w3_, ar_pl hn_ hA_ (n_ + 1) _ _ v_ x_ h8_ p4_.2.2.1 p4_.2.2.2⟩
  have p5_ := p_nd_ok (by decide) w4_.2.1 h9_
  obtain ⟨G2_, e2_, x1_, x2_⟩ := hX_ d_ h5_ s5_ dd_ G1_ o1_ w3_
  refine ⟨cw 17 (A_.1 m_ : Int) (d_ : Int) :: kk1_, G2_, R_ + (r1_ d_).toNat, fc_ + 1 + (i1_ d_).toNat, up1 O_ (A_.1 m_) (some e2_), by show cw 17 _ _ :: x_.1 = _; rw [w1_]; rfl, ?_, ?_, te1_, by rw [tr_]; push_cast; omega, by rw [ti_]; push_cast; omega, by show p_ < y_; omega, p5_.2.2.1, p5_.2.2.2⟩
  · rw [ev_c w2_]
    obtain ⟨c1_, c2_, c3_⟩ := cw_d (k_ := 17) (a_ := (A_.1 m_ : Int)) (d_ := (d_ : Int)) (by decide) (by omega)
    unfold ew
    rw [c1_, c2_, c3_, if_pos rfl]
    simp only [Int.toNat_natCast]
    rw [show up1 O_ (A_.1 m_) (some o1_) (A_.1 m_) = some o1_ from if_pos rfl]
    simp only []
    rw [if_pos ⟨tx_.1, by omega, by omega⟩, x1_]
    show some (_, E_, up1 (up1 O_ (A_.1 m_) (some o1_)) (A_.1 m_) (some e2_), []) = _
    rw [up1_2]
  · show tst B_ I_ m_ ((a_te A_ m_ q_ 5 0 (d_ : Int)).1 m_) E_ _
    rw [te1_]
    refine tst_us ht_ tx_.1 s5_ ?_
    rw [dd_, Int.toNat_natCast]
    exact x2_
end IT3_
