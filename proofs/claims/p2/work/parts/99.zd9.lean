/-! the items of all modules; written by wip/p55/gen/vg -/

/-! the_ items of_ all_ modules -/
theorem ex_rf {A_ : pA} {M_ : Nat} : a_ex A_ A_ M_ := ⟨Nat.le_refl _, fun _ _ => rfl, fun _ _ _ _ => ⟨rfl, rfl, rfl, Or.inl rfl⟩⟩
theorem ex_tr {A_ B_ C_ : pA} {M_ : Nat} (h_ : a_ex A_ B_ M_) (g_ : a_ex B_ C_ M_) : a_ex A_ C_ M_ := by
  have le_ : ∀ m_, m_ ≤ M_ → A_.1 m_ ≤ B_.1 m_ := by
    intro m_ hm_
    by_cases z_ : m_ = M_
    · rw [z_]; exact h_.1
    · rw [h_.2.1 m_ (by omega)]; exact Nat.le_refl _
  refine ⟨Nat.le_trans h_.1 g_.1, fun m_ hm_ => (h_.2.1 m_ hm_).trans (g_.2.1 m_ hm_), fun m_ s_ hm_ hs_ => ?_⟩
  have x_ := h_.2.2 m_ s_ hm_ hs_
  have y_ := g_.2.2 m_ s_ hm_ (Nat.lt_of_lt_of_le hs_ (le_ m_ hm_))
  refine ⟨x_.1.trans y_.1, x_.2.1.trans y_.2.1, x_.2.2.1.trans y_.2.2.1, ?_⟩
  rcases x_.2.2.2 with z_ | z_
  · rcases y_.2.2.2 with w_ | w_
    · exact Or.inl (z_.trans w_)
    · exact Or.inr ⟨by omega, w_.2⟩
  · rcases y_.2.2.2 with w_ | w_
    · exact Or.inr ⟨z_.1, by omega⟩
    · omega
theorem te_xx {b_ : Nat → Int} {n_ m_ q_ : Nat} {A_ : pA} {so_ w_ d_ : Int} (hA_ : a_ok b_ n_ A_ m_) (h40_ : A_.1 m_ < 40) : a_ex A_ (a_te A_ m_ q_ so_ w_ d_) m_ := by
  refine ⟨?_, fun k_ hk_ => ?_, fun k_ s_ hk_ hs_ => ?_⟩
  · rw [te_f.1]; omega
  · show A_.1 k_ = if k_ = m_ then A_.1 m_ + 1 else A_.1 k_
    rw [if_neg (by omega)]
  · have a40_ := (hA_.2 k_ hk_).1
    have ne_ : 40 * k_ + s_ ≠ 40 * m_ + A_.1 m_ := by
      by_cases z_ : k_ = m_
      · rw [z_] at hs_ ⊢; omega
      · omega
    unfold a_te
    simp only []
    rw [if_neg ne_, if_neg ne_, if_neg ne_, if_neg ne_]
    exact ⟨rfl, rfl, rfl, Or.inl rfl⟩
theorem dr_xx {m_ k_ : Nat} {A_ : pA} (h3_ : A_.2.2.1 k_ = 3) : a_ex A_ (a_dr A_ k_) m_ := by
  refine ⟨Nat.le_refl _, fun _ _ => rfl, fun j_ s_ hj_ hs_ => ⟨rfl, rfl, rfl, ?_⟩⟩
  show A_.2.2.1 (40 * j_ + s_) = (if 40 * j_ + s_ = k_ then 4 else A_.2.2.1 (40 * j_ + s_)) ∨ (A_.2.2.1 (40 * j_ + s_) = 3 ∧ (if 40 * j_ + s_ = k_ then (4 : Int) else A_.2.2.1 (40 * j_ + s_)) = 4)
  by_cases z_ : 40 * j_ + s_ = k_
  · rw [if_pos z_, z_]
    exact Or.inr ⟨h3_, rfl⟩
  · rw [if_neg z_]
    exact Or.inl rfl
section CH_
variable {b_ : Nat → Int} {n_ m_ : Nat} {A_ B_ : pA} {N_ : Nat → Nat}
theorem rb_vl {w_ : Int} {p_ : Nat} {z_ : Nat × Int} (hw_ : 1 ≤ w_ ∧ w_ ≤ 8) (h_ : p_rb b_ n_ w_ p_ = .inr z_) : 0 ≤ z_.2 ∧ z_.2 ≤ 255 := by
  unfold p_rb at h_
  by_cases g_ : lx_kd b_ n_ p_ = 61
  · rw [if_pos g_] at h_
    obtain ⟨q_, h1_, h2_⟩ := pb_inr h_
    obtain ⟨x_, h3_, h4_⟩ := pb_inr h2_
    obtain ⟨r_, h5_, h6_⟩ := pb_inr h4_
    cases h6_
    have k_ := (p_nu_ok h3_).2.2
    have k8_ := pw_8 w_.toNat (by omega)
    show 0 ≤ x_ ∧ x_ ≤ 255
    omega
  · rw [if_neg g_] at h_
    cases h_
    exact ⟨by show (0 : Int) ≤ 0; decide, by show (0 : Int) ≤ 255; decide⟩
theorem xd_pl {c_ : List Int} {p_ : Nat} {x_ : pR} (hn_ : n_ ≤ 1280) (hA_ : a_ok b_ n_ A_ m_) (hp_ : p_ ≤ n_) (hk_ : lx_kd b_ n_ p_ ≠ -1) (h_ : p_xd b_ n_ A_ m_ c_ p_ = .inr x_) : (p_ < x_.1 ∧ x_.1 ≤ n_ ∧ lx_kd b_ n_ x_.1 ≠ -1) ∧ ∃ k_, x_.2.2 = k_ ++ c_ := by
  obtain ⟨k_, q1_, q2_⟩ := ex_ac h_
  have z_ := pex_ok hn_ (pd_ok hA_) hp_ hk_ (Nat.zero_le _) q1_
  exact ⟨⟨z_.1, z_.2.1, z_.2.2.1⟩, k_, q2_⟩
theorem ar_cd {d_ K_ pl_ : Nat} (hn_ : n_ ≤ 1280) (hA_ : a_ok b_ n_ A_ m_) : ∀ (f_ : Nat) (i_ : Int) (c_ : List Int) (p_ : Nat) (x_ : List Int × Nat), p_ar b_ n_ A_ m_ d_ K_ pl_ f_ i_ c_ p_ = .inr x_ → ∃ k_, x_.1 = k_ ++ c_
  | 0, _, _, _, _, h_ => by cases h_
  | f_ + 1, i_, c_, p_, x_, h_ => by
    rw [p_ar] at h_
    obtain ⟨x1_, h1_, h2_⟩ := pb_inr h_
    obtain ⟨k_, q1_, q2_⟩ := ex_ac h1_
    have a1_ : ∃ k1_, p_a1 A_ d_ K_ i_ x1_.2.2 = k1_ ++ c_ := by
      unfold p_a1
      rw [q2_]
      by_cases z_ : i_ = -1
      · rw [if_pos z_]; exact ⟨k_, rfl⟩
      · rw [if_neg z_]; exact ⟨cw 16 K_ i_ :: k_, rfl⟩
    obtain ⟨k1_, ha_⟩ := a1_
    by_cases g_ : i_ ≠ -1 ∧ h_tp x1_.2.1 ≠ A_.2.2.2.1 (40 * d_ + i_.toNat)
    · rw [if_pos g_] at h2_
      cases h2_
    · rw [if_neg g_] at h2_
      by_cases k44_ : lx_kd b_ n_ x1_.1 = 44
      · rw [if_pos k44_] at h2_
        by_cases z_ : p_a2 A_ d_ i_ = -1
        · rw [if_pos z_] at h2_
          cases h2_
        · rw [if_neg z_] at h2_
          obtain ⟨q7_, q8_, q9_⟩ := pb_inr h2_
          obtain ⟨k2_, w_⟩ := ar_cd hn_ hA_ f_ _ _ q7_ x_ q9_
          rw [ha_, ← List.append_assoc] at w_
          exact ⟨k2_ ++ k1_, w_⟩
      · rw [if_neg k44_] at h2_
        rw [(ae_r h2_).2.2.1]
        exact ⟨k1_, ha_⟩
theorem it_b {p_ : Nat} {r_ : pT} {c_ : List Int} (hn_ : n_ ≤ 1280) (hA_ : a_ok b_ n_ A_ m_) (hp_ : p_ ≤ n_) (hkd_ : lx_kd b_ n_ p_ ≠ -1) (e_ : p_it b_ n_ A_ N_ m_ c_ p_ = some (.inr r_)) : a_ok b_ n_ r_.1 m_ ∧ a_ex A_ r_.1 m_ ∧ (p_ < r_.2.2 ∧ r_.2.2 ≤ n_ ∧ lx_kd b_ n_ r_.2.2 ≠ -1) ∧ ∃ k_, r_.2.1 = k_ ++ c_ := by
  have A40_ := (hA_.2 m_ (Nat.le_refl _)).1
  have hm15_ := hA_.1
  have nw_ : ∀ q_ r9_, p_ < q_ → q_ ≤ n_ → p_nw b_ n_ A_ m_ q_ = .inr r9_ → A_.1 m_ < 40 ∧ nmp b_ n_ q_ ∧ q_ < r9_ ∧ r9_ ≤ n_ ∧ lx_kd b_ n_ r9_ ≠ -1 := by
    intro q_ r9_ hq_ hqn_ h_
    obtain ⟨a1_, a2_, a3_⟩ := p_nn_ok h_
    have a4_ := p_ad_ok hqn_ (by omega) a3_
    exact ⟨by omega, ⟨hqn_, a2_⟩, a4_.2⟩
  unfold p_it at e_
  by_cases k4_ : lx_kd b_ n_ p_ = 4
  · rw [if_pos k4_] at e_
    obtain ⟨q_, r9_, u_, y_, h1_, h2_, h3_, h4_, h5_⟩ := in_r (Option.some.inj e_)
    subst h5_
    have p1_ := p_ad_ok hp_ (by omega) h1_
    have p2_ := nw_ q_ r9_ p1_.2.1 p1_.2.2.1 h2_
    have p3_ := p_wi_ok p2_.2.2.2.1 p2_.2.2.2.2 h3_
    have p4_ := p_nd_ok (by decide) p3_.2.1 h4_
    exact ⟨a_te_ok hA_ p2_.1 p2_.2.1 (by decide) (by omega) (fun _ => by omega) (fun z_ => by cases z_) (by decide), te_xx hA_ p2_.1, ⟨by show p_ < y_; omega, p4_.2.2⟩, [], rfl⟩
  · rw [if_neg k4_] at e_
    have va_ : ∀ so_ : Int, (so_ = 1 ∨ so_ = 2) → lx_kd b_ n_ p_ ≠ 0 → p_va b_ n_ A_ m_ so_ c_ p_ = .inr r_ → a_ok b_ n_ r_.1 m_ ∧ a_ex A_ r_.1 m_ ∧ (p_ < r_.2.2 ∧ r_.2.2 ≤ n_ ∧ lx_kd b_ n_ r_.2.2 ≠ -1) ∧ ∃ k_, r_.2.1 = k_ ++ c_ := by
      intro so_ hso_ k0_ e_
      obtain ⟨q_, r9_, u_, v_, x_, y_, h1_, h2_, h3_, h4_, h5_, h6_, h7_, h8_⟩ := va_r e_
      subst h8_
      have p1_ := p_ad_ok hp_ k0_ h1_
      have p2_ := nw_ q_ r9_ p1_.2.1 p1_.2.2.1 h2_
      have p3_ := p_wi_ok p2_.2.2.2.1 p2_.2.2.2.2 h3_
      have p4_ := p_nd_ok (by decide) p3_.2.1 h4_
      obtain ⟨p5_, k_, hk_⟩ := xd_pl hn_ hA_ p4_.2.2.1 p4_.2.2.2 h5_
      have p6_ := p_nd_ok (by decide) p5_.2.1 h7_
      exact ⟨a_te_ok hA_ p2_.1 p2_.2.1 (by omega) (by omega) (fun _ => by omega) (fun z_ => by omega) (by decide), te_xx hA_ p2_.1, ⟨by show p_ < y_; omega, p6_.2.2⟩, cw 12 (A_.1 m_) 0 :: k_, by show cw 12 _ _ :: x_.2.2 = _; rw [hk_]; rfl⟩
    by_cases k5_ : lx_kd b_ n_ p_ = 5
    · rw [if_pos k5_] at e_
      exact va_ 1 (Or.inl rfl) (by omega) (Option.some.inj e_)
    · rw [if_neg k5_] at e_
      by_cases k6_ : lx_kd b_ n_ p_ = 6
      · rw [if_pos k6_] at e_
        exact va_ 2 (Or.inr rfl) (by omega) (Option.some.inj e_)
      · rw [if_neg k6_] at e_
        by_cases k7_ : lx_kd b_ n_ p_ = 7
        · rw [if_pos k7_] at e_
          obtain ⟨q_, r9_, u_, z_, y_, h1_, h2_, h3_, h4_, h5_, h6_⟩ := re_r (Option.some.inj e_)
          subst h6_
          have p1_ := p_ad_ok hp_ (by omega) h1_
          have p2_ := nw_ q_ r9_ p1_.2.1 p1_.2.2.1 h2_
          have p3_ := p_wi_ok p2_.2.2.2.1 p2_.2.2.2.2 h3_
          have p4_ := rb_pl p3_.2.1 p3_.2.2.1 h4_
          have zb_ := rb_vl p3_.2.2.2 h4_
          have p5_ := p_nd_ok (by decide) p4_.2.1 h5_
          exact ⟨a_te_ok hA_ p2_.1 p2_.2.1 (by decide) (by omega) (fun _ => by omega) (fun z_ => by cases z_) zb_, te_xx hA_ p2_.1, ⟨by show p_ < y_; omega, p5_.2.2⟩, [cw 13 (A_.1 m_) 0], rfl⟩
        · rw [if_neg k7_] at e_
          by_cases k8_ : lx_kd b_ n_ p_ = 8
          · rw [if_pos k8_] at e_
            obtain ⟨q_, r9_, d_, u_, v_, x_, y_, h1_, h2_, h3_, h4_, h5_, h6_, h7_, h8_, h9_, h10_⟩ := us_r (Option.some.inj e_)
            subst h10_
            have p1_ := p_ad_ok hp_ (by omega) h1_
            have p2_ := nw_ q_ r9_ p1_.2.1 p1_.2.2.1 h2_
            have p3_ := p_ad_ok p2_.2.2.2.1 (by omega) h6_
            have p4_ := p_nd_ok (by decide) p3_.2.2.1 h7_
            have p5_ : (v_ < x_.2 ∧ x_.2 ≤ n_ ∧ lx_kd b_ n_ x_.2 ≠ -1) ∧ ∃ k_, x_.1 = k_ ++ (cw 15 (A_.1 m_) 0 :: c_) := by
              unfold p_ua at h8_
              by_cases k41_ : lx_kd b_ n_ v_ = 41
              · rw [if_pos k41_] at h8_
                obtain ⟨a1_, a2_, a3_, a4_⟩ := ae_r h8_
                have a6_ := p_ad_ok p4_.2.2.1 (by omega) a4_
                exact ⟨a6_.2, [], by rw [a3_]; rfl⟩
              · rw [if_neg k41_] at h8_
                exact ⟨ar_pl hn_ hA_ _ _ _ _ _ h8_ p4_.2.2.1 p4_.2.2.2, ar_cd hn_ hA_ _ _ _ _ _ h8_⟩
            obtain ⟨p5_, k_, hk_⟩ := p5_
            have p6_ := p_nd_ok (by decide) p5_.2.1 h9_
            exact ⟨a_te_ok hA_ p2_.1 p2_.2.1 (by decide) (by decide) (fun z_ => absurd rfl z_) (fun _ => by omega) (by omega), te_xx hA_ p2_.1, ⟨by show p_ < y_; omega, p6_.2.2⟩, cw 17 (A_.1 m_) d_ :: (k_ ++ [cw 15 (A_.1 m_) 0]), by show cw 17 _ _ :: x_.1 = _; rw [hk_]; simp⟩
          · rw [if_neg k8_] at e_
            by_cases k1_ : lx_kd b_ n_ p_ = 1
            · rw [if_pos k1_] at e_
              obtain ⟨s_, q_, r9_, x_, y_, h1_, h2_, h3_, h4_, h5_, h6_, h7_, h8_, h9_⟩ := ne_r (Option.some.inj e_)
              subst h9_
              have p1_ := p_ad_ok hp_ (by omega) h4_
              have p2_ := p_nd_ok (by decide) p1_.2.2.1 h5_
              obtain ⟨p5_, k_, hk_⟩ := xd_pl hn_ hA_ p2_.2.2.1 p2_.2.2.2 h6_
              have p6_ := p_nd_ok (by decide) p5_.2.1 h8_
              exact ⟨a_dr_ok hA_ h3_, dr_xx h3_, ⟨by show p_ < y_; omega, p6_.2.2⟩, cw 14 (s_ : Int) 0 :: k_, by show cw 14 _ _ :: x_.2.2 = _; rw [hk_]; rfl⟩
            · rw [if_neg k1_] at e_
              cases e_
theorem it_N {N'_ : Nat → Nat} {p_ : Nat} {c_ : List Int} (h_ : ∀ k_, k_ < m_ → N_ k_ = N'_ k_) : p_it b_ n_ A_ N_ m_ c_ p_ = p_it b_ n_ A_ N'_ m_ c_ p_ := by
  have e_ : ∀ r_, p_fm b_ n_ N_ m_ r_ = p_fm b_ n_ N'_ m_ r_ := fun r_ => p_fd_cg (fun j_ hj_ => by show nm_q b_ n_ (N_ j_) r_ = nm_q b_ n_ (N'_ j_) r_; rw [h_ j_ hj_])
  have e2_ : p_us b_ n_ A_ N_ m_ c_ p_ = p_us b_ n_ A_ N'_ m_ c_ p_ := by
    unfold p_us
    simp only [e_]
  unfold p_it
  rw [e2_]
theorem mch_cd (hn_ : n_ ≤ 1280) : ∀ (f_ : Nat) (A_ : pA) (c_ : List Int) (p_ : Nat) (ce_ : List Int), mch b_ n_ B_ N_ m_ f_ A_ c_ p_ ce_ → ∃ k_, ce_ = k_ ++ c_
  | 0, _, _, _, _, h_ => h_.elim
  | f_ + 1, A_, c_, p_, ce_, h_ => by
    obtain ⟨⟨hA_, hx_, hp_, hk_⟩, h2_⟩ := h_
    rcases h2_ with ⟨z1_, z2_, z3_⟩ | ⟨r_, z1_, z2_⟩
    · exact ⟨[], z3_⟩
    · obtain ⟨-, -, -, k1_, h1_⟩ := it_b hn_ hA_ hp_ hk_ z1_
      obtain ⟨k2_, h2_⟩ := mch_cd hn_ f_ _ _ _ ce_ z2_
      rw [h1_, ← List.append_assoc] at h2_
      exact ⟨k2_ ++ k1_, h2_⟩
end CH_
