/-! every right item can be worked out; written by wip/p55/gen/vg -/

/-! modules can_ be_ worked out_ -/
theorem su_el {f_ : Nat → Int} : ∀ {k_ : Nat}, (∀ j_, j_ < k_ → 0 ≤ f_ j_) → (0 ≤ su f_ k_) ∧ (∀ j_, j_ < k_ → f_ j_ ≤ su f_ k_) ∧ ∀ j_, j_ ≤ k_ → 0 ≤ su f_ j_ ∧ su f_ j_ ≤ su f_ k_
  | 0, _ => ⟨Int.le_refl _, fun j_ hj_ => absurd hj_ (Nat.not_lt_zero _), fun j_ hj_ => by
    have : j_ = 0 := by omega
    subst this
    exact ⟨Int.le_refl _, Int.le_refl _⟩⟩
  | k_ + 1, h_ => by
    have ih_ := su_el (f_ := f_) (k_ := k_) (fun j_ hj_ => h_ j_ (by omega))
    have hk_ := h_ k_ (by omega)
    have e_ : su f_ (k_ + 1) = su f_ k_ + f_ k_ := rfl
    refine ⟨by omega, fun j_ hj_ => ?_, fun j_ hj_ => ?_⟩
    · by_cases z_ : j_ = k_
      · rw [z_]; omega
      · have := ih_.2.1 j_ (by omega)
        omega
    · by_cases z_ : j_ = k_ + 1
      · rw [z_]; omega
      · have := ih_.2.2 j_ (by omega)
        omega
theorem r_bt_c {I_ R_ w_ : Nat} (h_ : 1 ≤ w_) : ∃ y_, r_bt I_ R_ w_ = 2 * ((1 + I_ + R_ : Nat) : Int) :: y_ := by
  cases e_ : r_bt I_ R_ w_ with
  | nil =>
    have := congrArg List.length e_
    rw [r_bt_l] at this
    simp at this
    omega
  | cons z_ y_ =>
    refine ⟨y_, ?_⟩
    have q_ : (r_bt I_ R_ w_)[0]? = some z_ := by rw [e_]; rfl
    unfold r_bt at q_
    rw [List.getElem?_map, List.getElem?_range (by omega)] at q_
    have q_ := Option.some.inj q_
    rw [← q_]
    simp
section IT4_
variable {b_ : Nat → Int} {n_ F_ I_ m_ : Nat} {A_ B_ : pA} {N_ : Nat → Nat} {X_ : Nat → gQ → gE → Option (gQ × gE)} {s0_ : gS}
theorem rb_pl {w_ : Int} {p_ : Nat} {z_ : Nat × Int} (hp_ : p_ ≤ n_) (hk_ : lx_kd b_ n_ p_ ≠ -1) (h_ : p_rb b_ n_ w_ p_ = .inr z_) : p_ ≤ z_.1 ∧ z_.1 ≤ n_ ∧ lx_kd b_ n_ z_.1 ≠ -1 := by
  unfold p_rb at h_
  by_cases g_ : lx_kd b_ n_ p_ = 61
  · rw [if_pos g_] at h_
    obtain ⟨q_, h1_, h2_⟩ := pb_inr h_
    obtain ⟨x_, h3_, h4_⟩ := pb_inr h2_
    obtain ⟨r_, h5_, h6_⟩ := pb_inr h4_
    cases h6_
    have a1_ := p_ad_ok hp_ (by omega) h1_
    have kq_ : lx_kd b_ n_ q_ = 2 := (p_nu_ok h3_).1
    have a2_ := p_ad_ok a1_.2.2.1 (by omega) h5_
    exact ⟨by show p_ ≤ r_; omega, a2_.2.2⟩
  · rw [if_neg g_] at h_
    cases h_
    exact ⟨Nat.le_refl _, hp_, hk_⟩
theorem it_tot {p_ : Nat} {r_ : pT} {c_ kk_ c0_ : List Int} {G_ : pGr} {R_ fc_ : Nat} {E_ : gE} {O_ : gO} {r1_ i1_ : Nat → Int} (hn_ : n_ ≤ 1280) (hA_ : a_ok b_ n_ A_ m_) (hB_ : a_ok b_ n_ B_ m_) (hx_ : a_ex A_ B_ m_) (hx'_ : a_ex r_.1 B_ m_) (hp_ : p_ ≤ n_) (hkd_ : lx_kd b_ n_ p_ ≠ -1) (e_ : p_it b_ n_ A_ N_ m_ c_ p_ = some (.inr r_)) (hc_ : c_ = kk_ ++ c0_) (he_ : ev F_ I_ B_ X_ m_ s0_ kk_ = some ((G_, R_, fc_), E_, O_, [])) (ht_ : tst B_ I_ m_ (A_.1 m_) E_ O_) (hR_ : A_.1 m_ < B_.1 m_ → (R_ : Int) + t_rg r1_ B_ m_ (A_.1 m_) ≤ 6) (hf_ : A_.1 m_ < B_.1 m_ → (fc_ : Int) + t_is i1_ B_ m_ (A_.1 m_) ≤ 201) (hnn_ : ∀ d_, 0 ≤ r1_ d_ ∧ 0 ≤ i1_ d_) (hX_ : A_.1 m_ < B_.1 m_ → ∀ d_, d_ < m_ → B_.2.2.1 (40 * m_ + A_.1 m_) = 5 → B_.2.2.2.2 (40 * m_ + A_.1 m_) = (d_ : Int) → ∀ G_ o_, oin B_ d_ (B_.1 d_) o_ → ∃ G'_ e'_, X_ d_ (G_, R_, fc_ + 1) o_ = some ((G'_, R_ + (r1_ d_).toNat, fc_ + 1 + (i1_ d_).toNat), e'_) ∧ ∀ o1_, o1_ < B_.1 d_ → B_.2.2.1 (40 * d_ + o1_) ≠ 5 → ((e'_ o1_).length : Int) = B_.2.2.2.1 (40 * d_ + o1_)) : ∃ kk'_ G'_ R'_ fc'_ E'_ O'_, r_.2.1 = kk'_ ++ c0_ ∧ ev F_ I_ B_ X_ m_ s0_ kk'_ = some ((G'_, R'_, fc'_), E'_, O'_, []) ∧ tst B_ I_ m_ (r_.1.1 m_) E'_ O'_ ∧ ((r_.1.1 m_ = A_.1 m_ ∧ R'_ = R_ ∧ fc'_ = fc_) ∨ (r_.1.1 m_ = A_.1 m_ + 1 ∧ A_.1 m_ < B_.1 m_ ∧ (R'_ : Int) = R_ + t_rg r1_ B_ m_ (A_.1 m_) ∧ (fc'_ : Int) = fc_ + t_is i1_ B_ m_ (A_.1 m_))) ∧ p_ < r_.2.2 ∧ r_.2.2 ≤ n_ ∧ lx_kd b_ n_ r_.2.2 ≠ -1 := by
  have K40_ := (hB_.2 m_ (Nat.le_refl _)).1
  unfold p_it at e_
  by_cases k4_ : lx_kd b_ n_ p_ = 4
  · rw [if_pos k4_] at e_
    obtain ⟨q_, r9_, u_, y_, h1_, h2_, h3_, h4_, h5_⟩ := in_r (Option.some.inj e_)
    subst h5_
    have tx_ := te_ex hx'_
    have te1_ : (a_te A_ m_ q_ 0 u_.2 0).1 m_ = A_.1 m_ + 1 := te_f.1
    have s5_ : B_.2.2.1 (40 * m_ + A_.1 m_) = 0 := by
      rcases tx_.2.2.2 with z_ | z_
      · exact z_
      · omega
    have p1_ := p_ad_ok hp_ (by omega) h1_
    obtain ⟨-, p2a, p2b⟩ := p_nn_ok h2_
    have p2_ := p_ad_ok p1_.2.2.1 (by omega) p2b
    have p3_ := p_wi_ok p2_.2.2.1 p2_.2.2.2 h3_
    have p4_ := p_nd_ok (by decide) p3_.2.1 h4_
    refine ⟨kk_, G_, R_, fc_, E_, O_, hc_, he_, ?_, Or.inr ⟨te1_, tx_.1, ?_, ?_⟩, by show p_ < y_; omega, p4_.2.2.1, p4_.2.2.2⟩
    · show tst B_ I_ m_ ((a_te A_ m_ q_ 0 u_.2 0).1 m_) E_ O_
      rw [te1_]
      exact tst_in ht_ tx_.1 s5_
    · unfold t_rg
      rw [if_neg (by omega), if_neg (by omega)]
      omega
    · unfold t_is
      rw [if_neg (by omega)]
      omega
  · rw [if_neg k4_] at e_
    have va_ : ∀ so_ : Int, (so_ = 1 ∨ so_ = 2) → lx_kd b_ n_ p_ ≠ 0 → p_va b_ n_ A_ m_ so_ c_ p_ = .inr r_ → ∃ kk'_ G'_ R'_ fc'_ E'_ O'_, r_.2.1 = kk'_ ++ c0_ ∧ ev F_ I_ B_ X_ m_ s0_ kk'_ = some ((G'_, R'_, fc'_), E'_, O'_, []) ∧ tst B_ I_ m_ (r_.1.1 m_) E'_ O'_ ∧ ((r_.1.1 m_ = A_.1 m_ ∧ R'_ = R_ ∧ fc'_ = fc_) ∨ (r_.1.1 m_ = A_.1 m_ + 1 ∧ A_.1 m_ < B_.1 m_ ∧ (R'_ : Int) = R_ + t_rg r1_ B_ m_ (A_.1 m_) ∧ (fc'_ : Int) = fc_ + t_is i1_ B_ m_ (A_.1 m_))) ∧ p_ < r_.2.2 ∧ r_.2.2 ≤ n_ ∧ lx_kd b_ n_ r_.2.2 ≠ -1 := by
      intro so_ hso_ k0_ e_
      obtain ⟨q_, r9_, u_, v_, x_, y_, h1_, h2_, h3_, h4_, h5_, h6_, h7_, h8_⟩ := va_r e_
      subst h8_
      have tx_ := te_ex hx'_
      have te1_ : (a_te A_ m_ q_ so_ u_.2 0).1 m_ = A_.1 m_ + 1 := te_f.1
      have s5_ : B_.2.2.1 (40 * m_ + A_.1 m_) = so_ := by
        rcases tx_.2.2.2 with z_ | z_
        · exact z_
        · omega
      have p1_ := p_ad_ok hp_ k0_ h1_
      obtain ⟨-, p2a, p2b⟩ := p_nn_ok h2_
      have p2_ := p_ad_ok p1_.2.2.1 (by omega) p2b
      have p3_ := p_wi_ok p2_.2.2.1 p2_.2.2.2 h3_
      have p4_ := p_nd_ok (by decide) p3_.2.1 h4_
      obtain ⟨k_, G1_, w_, q1_, q2_, q3_, q4_, q5_, q6_⟩ := xd_tot (F_ := F_) (I_ := I_) (X_ := X_) hn_ (pd_ok hA_) hA_ hB_ hx_ ht_.1 p4_.2.2.1 p4_.2.2.2 hc_ he_ h5_
      have p5_ : v_ < x_.1 ∧ x_.1 ≤ n_ ∧ lx_kd b_ n_ x_.1 ≠ -1 := by
        have z_ := pex_ok hn_ (pd_ok hA_) p4_.2.2.1 p4_.2.2.2 (Nat.zero_le _) q1_
        exact ⟨z_.1, z_.2.1, z_.2.2.1⟩
      have p6_ := p_nd_ok (by decide) p5_.2.1 h7_
      obtain ⟨e3_, e4_⟩ := ht_.2.2.1 (A_.1 m_) (Nat.le_refl _) tx_.1 (by omega)
      refine ⟨cw 12 (A_.1 m_ : Int) 0 :: (k_ ++ kk_), G1_, R_, fc_, up1 E_ (A_.1 m_) w_, O_, by show cw 12 _ _ :: x_.2.2 = _; rw [q2_]; rfl, ?_, ?_, Or.inr ⟨te1_, tx_.1, ?_, ?_⟩, by show p_ < y_; omega, p6_.2.2.1, p6_.2.2.2⟩
      · rw [ev_c q4_]
        refine ew_st (by decide) (by omega) ?_
        rw [Int.toNat_natCast]
        exact st12 tx_.1 e4_ q6_.2
      · show tst B_ I_ m_ ((a_te A_ m_ q_ so_ u_.2 0).1 m_) _ O_
        rw [te1_]
        exact tst_up ht_ tx_.1 (by omega) (by rw [← q5_, h6_]; exact tx_.2.1.symm) (fun z_ => by omega)
      · unfold t_rg
        rw [if_neg (by omega), if_neg (by omega)]
        omega
      · unfold t_is
        rw [if_neg (by omega)]
        omega
    by_cases k5_ : lx_kd b_ n_ p_ = 5
    · rw [if_pos k5_] at e_
      exact va_ 1 (Or.inl rfl) (by omega) (Option.some.inj e_)
    · rw [if_neg k5_] at e_
      by_cases k6_ : lx_kd b_ n_ p_ = 6
      · rw [if_pos k6_] at e_
        exact va_ 2 (Or.inr rfl) (by omega) (Option.some.inj e_)
      · rw [if_neg k6_] at e_
        by_cases k7_ : lx_kd b_ n_ p_ = 7
        · rw [if_pos k7_] at e_
          obtain ⟨q_, r9_, u_, z_, y_, h1_, h2_, h3_, h4_, h5_, h6_⟩ := re_r (Option.some.inj e_)
          subst h6_
          have tx_ := te_ex hx'_
          have te1_ : (a_te A_ m_ q_ 3 u_.2 z_.2).1 m_ = A_.1 m_ + 1 := te_f.1
          have s5_ : B_.2.2.1 (40 * m_ + A_.1 m_) = 3 ∨ B_.2.2.1 (40 * m_ + A_.1 m_) = 4 := by
            rcases tx_.2.2.2 with z_ | z_
            · exact Or.inl z_
            · exact Or.inr z_.2
          have p1_ := p_ad_ok hp_ (by omega) h1_
          obtain ⟨-, p2a, p2b⟩ := p_nn_ok h2_
          have p2_ := p_ad_ok p1_.2.2.1 (by omega) p2b
          have p3_ := p_wi_ok p2_.2.2.1 p2_.2.2.2 h3_
          have p4_ := rb_pl p3_.2.1 p3_.2.2.1 h4_
          have p5_ := p_nd_ok (by decide) p4_.2.1 h5_
          obtain ⟨e3_, e4_⟩ := ht_.2.2.1 (A_.1 m_) (Nat.le_refl _) tx_.1 (by omega)
          have tr_ : t_rg r1_ B_ m_ (A_.1 m_) = B_.2.2.2.1 (40 * m_ + A_.1 m_) := by unfold t_rg; rw [if_pos s5_]
          have hR1_ := hR_ tx_.1
          rw [tr_] at hR1_
          have w8_ : 1 ≤ B_.2.2.2.1 (40 * m_ + A_.1 m_) ∧ B_.2.2.2.1 (40 * m_ + A_.1 m_) ≤ 8 := by rw [tx_.2.1]; exact p3_.2.2.2
          refine ⟨cw 13 (A_.1 m_ : Int) 0 :: kk_, G_, R_ + (B_.2.2.2.1 (40 * m_ + A_.1 m_)).toNat, fc_, up1 E_ (A_.1 m_) (r_bt I_ R_ (B_.2.2.2.1 (40 * m_ + A_.1 m_)).toNat), O_, by show cw 13 _ _ :: c_ = _; rw [hc_]; rfl, ?_, ?_, Or.inr ⟨te1_, tx_.1, ?_, ?_⟩, by show p_ < y_; omega, p5_.2.2.1, p5_.2.2.2⟩
          · rw [ev_c he_]
            refine ew_st (by decide) (by omega) ?_
            rw [Int.toNat_natCast]
            exact st13 tx_.1 e4_ w8_ (by omega)
          · show tst B_ I_ m_ ((a_te A_ m_ q_ 3 u_.2 z_.2).1 m_) _ O_
            rw [te1_]
            exact tst_up ht_ tx_.1 (by omega) (by rw [r_bt_l]; omega) (fun _ => ⟨R_, rfl, by omega⟩)
          · rw [tr_]
            push_cast
            omega
          · unfold t_is
            rw [if_neg (by omega)]
            omega
        · rw [if_neg k7_] at e_
          by_cases k8_ : lx_kd b_ n_ p_ = 8
          · rw [if_pos k8_] at e_
            have e_ := Option.some.inj e_
            obtain ⟨q_, r9_, d_, u_, v_, x_, y_, -, -, -, -, -, -, -, -, -, h10_⟩ := us_r e_
            have tx_ : A_.1 m_ < B_.1 m_ := by
              have hx2_ := hx'_
              rw [h10_] at hx2_
              exact (te_ex hx2_).1
            obtain ⟨kk'_, G'_, R'_, fc'_, O'_, w1_, w2_, w3_, w4_, w5_, w6_, w7_⟩ := us_tot (r1_ := r1_) hn_ hA_ hB_ hx_ hx'_ hp_ (by omega) e_ hc_ he_ ht_ (hf_ tx_) hnn_ (hX_ tx_)
            exact ⟨kk'_, G'_, R'_, fc'_, E_, O'_, w1_, w2_, w3_, Or.inr ⟨w4_, tx_, w5_, w6_⟩, w7_⟩
          · rw [if_neg k8_] at e_
            by_cases k1_ : lx_kd b_ n_ p_ = 1
            · rw [if_pos k1_] at e_
              obtain ⟨s_, q_, r9_, x_, y_, h1_, h2_, h3_, h4_, h5_, h6_, h7_, h8_, h9_⟩ := ne_r (Option.some.inj e_)
              subst h9_
              have p1_ := p_ad_ok hp_ (by omega) h4_
              have p2_ := p_nd_ok (by decide) p1_.2.2.1 h5_
              obtain ⟨k_, G1_, w_, q1_, q2_, q3_, q4_, q5_, q6_⟩ := xd_tot (F_ := F_) (I_ := I_) (X_ := X_) hn_ (pd_ok hA_) hA_ hB_ hx_ ht_.1 p2_.2.2.1 p2_.2.2.2 hc_ he_ h6_
              have p5_ : r9_ < x_.1 ∧ x_.1 ≤ n_ ∧ lx_kd b_ n_ x_.1 ≠ -1 := by
                have z_ := pex_ok hn_ (pd_ok hA_) p2_.2.2.1 p2_.2.2.2 (Nat.zero_le _) q1_
                exact ⟨z_.1, z_.2.1, z_.2.2.1⟩
              have p6_ := p_nd_ok (by decide) p5_.2.1 h8_
              have ex_ := hx_.2.2 m_ s_ (Nat.le_refl _) h2_
              have s34_ : B_.2.2.1 (40 * m_ + s_) = 3 ∨ B_.2.2.1 (40 * m_ + s_) = 4 := by
                rcases ex_.2.2.2 with z_ | z_ <;> omega
              obtain ⟨rb, g1_, g2_⟩ := ht_.2.1 s_ h2_ s34_
              have sB_ : s_ < B_.1 m_ := by have := hx_.1; omega
              have ao_ := (hB_.2 m_ (Nat.le_refl _)).2 s_ sB_
              have w1_ := ao_.2.2.2.1 (by omega)
              obtain ⟨yy_, hyy_⟩ := r_bt_c (I_ := I_) (R_ := rb) (w_ := (B_.2.2.2.1 (40 * m_ + s_)).toNat) (by omega)
              have wl : (w_.length : Int) = B_.2.2.2.1 (40 * m_ + s_) := by rw [← q5_, h7_]; exact ex_.2.1
              refine ⟨cw 14 (s_ : Int) 0 :: (k_ ++ kk_), G1_, R_, fc_, E_, O_, by show cw 14 _ _ :: x_.2.2 = _; rw [q2_]; rfl, ?_, ht_, Or.inl ⟨rfl, rfl, rfl⟩, by show p_ < y_; omega, p6_.2.2.1, p6_.2.2.2⟩
              rw [ev_c q4_]
              refine ew_st (by decide) (by omega) ?_
              rw [Int.toNat_natCast]
              exact st14 sB_ (g1_.trans hyy_) (by push_cast; omega) (by push_cast; omega)
            · rw [if_neg k1_] at e_
              cases e_
end IT4_
