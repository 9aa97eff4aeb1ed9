/-! items can be worked out; written by wip/p55/gen/vg -/

/-! items can_ be_ worked out_ -/
section IT2_
variable {b_ : Nat → Int} {n_ F_ I_ m_ : Nat} {A_ B_ : pA} {N_ : Nat → Nat} {X_ : Nat → gQ → gE → Option (gQ × gE)} {s0_ : gS}
theorem st12 {a_ : Nat} {d_ : Int} {q_ : gQ} {E_ : gE} {O_ : gO} {x_ : List Int} {l_ : gV} (ha_ : a_ < B_.1 m_) (hO_ : O_ a_ = none) (hl_ : x_.length ≤ 8) : e_st I_ B_ m_ 12 a_ d_ (q_, E_, O_, x_ :: l_) = some (q_, up1 E_ a_ x_, O_, l_) := by
  unfold e_st
  rw [if_neg (by omega), if_neg (by decide), if_neg (by decide)]
  simp [hO_, hl_]
theorem st13 {a_ : Nat} {d_ : Int} {G_ : pGr} {R_ fc_ : Nat} {E_ : gE} {O_ : gO} {l_ : gV} (ha_ : a_ < B_.1 m_) (hO_ : O_ a_ = none) (h1_ : 1 ≤ B_.2.2.2.1 (40 * m_ + a_) ∧ B_.2.2.2.1 (40 * m_ + a_) ≤ 8) (hR_ : R_ + (B_.2.2.2.1 (40 * m_ + a_)).toNat ≤ 6) : e_st I_ B_ m_ 13 a_ d_ ((G_, R_, fc_), E_, O_, l_) = some ((G_, R_ + (B_.2.2.2.1 (40 * m_ + a_)).toNat, fc_), up1 E_ a_ (r_bt I_ R_ (B_.2.2.2.1 (40 * m_ + a_)).toNat), O_, l_) := by
  unfold e_st
  rw [if_neg (by omega), if_neg (by decide), if_pos rfl, if_pos ⟨hO_, h1_.1, h1_.2, hR_⟩]
theorem st14 {a_ : Nat} {d_ z_ : Int} {q_ : gQ} {E_ : gE} {O_ : gO} {x_ y_ : List Int} {l_ : gV} (ha_ : a_ < B_.1 m_) (hE_ : E_ a_ = z_ :: y_) (h1_ : 2 * (1 + (I_ : Int)) ≤ z_) (h2_ : z_ / 2 - 1 - I_ + x_.length ≤ 6) : e_st I_ B_ m_ 14 a_ d_ (q_, E_, O_, x_ :: l_) = some (q_, E_, O_, l_) := by
  unfold e_st
  rw [if_neg (by omega), if_neg (by decide), if_neg (by decide)]
  simp [hE_, h1_, h2_]
theorem st15 {a_ : Nat} {d_ : Int} {G_ : pGr} {R_ fc_ : Nat} {E_ : gE} {O_ : gO} {l_ : gV} (ha_ : a_ < B_.1 m_) (hE_ : E_ a_ = []) (hO_ : O_ a_ = none) (hf_ : fc_ ≤ 200) : e_st I_ B_ m_ 15 a_ d_ ((G_, R_, fc_), E_, O_, l_) = some ((G_, R_, fc_ + 1), E_, up1 O_ a_ (some fun _ => []), l_) := by
  unfold e_st
  rw [if_neg (by omega), if_pos rfl, if_pos ⟨hf_, hE_, hO_⟩]
theorem st16 {a_ : Nat} {d_ : Int} {q_ : gQ} {E_ : gE} {O_ : gO} {o_ : Nat → List Int} {x_ : List Int} {l_ : gV} (ha_ : a_ < B_.1 m_) (hO_ : O_ a_ = some o_) (hd_ : 0 ≤ d_ ∧ d_ < 40) (hl_ : x_.length ≤ 8) : e_st I_ B_ m_ 16 a_ d_ (q_, E_, O_, x_ :: l_) = some (q_, E_, up1 O_ a_ (some (up1 o_ d_.toNat x_)), l_) := by
  unfold e_st
  rw [if_neg (by omega), if_neg (by decide), if_neg (by decide)]
  simp [hO_, hd_.1, hd_.2, hl_]
theorem tst_in {K_ : Nat} {E_ : gE} {O_ : gO} (h_ : tst B_ I_ m_ K_ E_ O_) (hK_ : K_ < B_.1 m_) (hs_ : B_.2.2.1 (40 * m_ + K_) = 0) : tst B_ I_ m_ (K_ + 1) E_ O_ := by
  obtain ⟨⟨h0_, h1_⟩, h2_, h3_, h4_⟩ := h_
  refine ⟨⟨by omega, fun s_ hs1_ => ?_⟩, fun s_ hs1_ hs2_ => ?_, fun s_ hs1_ => h3_ s_ (by omega), h4_⟩
  · by_cases e_ : s_ = K_
    · rw [e_]
      exact ⟨fun _ => h4_ K_ hK_ hs_, fun z_ => by omega⟩
    · exact h1_ s_ (by omega)
  · by_cases e_ : s_ = K_
    · rw [e_] at hs2_
      omega
    · exact h2_ s_ (by omega) hs2_
theorem ten_o {K_ : Nat} {E_ : gE} {O_ : gO} {z_ : Option (Nat → List Int)} (h_ : ten B_ m_ K_ E_ O_) : ten B_ m_ K_ E_ (up1 O_ K_ z_) := by
  refine ⟨h_.1, fun s_ hs_ => ⟨(h_.2 s_ hs_).1, fun h5_ => ?_⟩⟩
  unfold up1
  rw [if_neg (by omega)]
  exact (h_.2 s_ hs_).2 h5_
theorem tst_us {K_ : Nat} {E_ : gE} {O_ : gO} {o_ : Nat → List Int} (h_ : tst B_ I_ m_ K_ E_ O_) (hK_ : K_ < B_.1 m_) (hs_ : B_.2.2.1 (40 * m_ + K_) = 5) (ho_ : ∀ o1_, o1_ < B_.1 (B_.2.2.2.2 (40 * m_ + K_)).toNat → B_.2.2.1 (40 * (B_.2.2.2.2 (40 * m_ + K_)).toNat + o1_) ≠ 5 → ((o_ o1_).length : Int) = B_.2.2.2.1 (40 * (B_.2.2.2.2 (40 * m_ + K_)).toNat + o1_)) : tst B_ I_ m_ (K_ + 1) E_ (up1 O_ K_ (some o_)) := by
  obtain ⟨⟨h0_, h1_⟩, h2_, h3_, h4_⟩ := h_
  refine ⟨⟨by omega, fun s_ hs1_ => ?_⟩, fun s_ hs1_ hs2_ => ?_, fun s_ hs1_ hs2_ hs3_ => ?_, h4_⟩
  · unfold up1
    by_cases e_ : s_ = K_
    · rw [if_pos e_, e_]
      exact ⟨fun z_ => absurd hs_ z_, fun _ => ⟨o_, rfl, ho_⟩⟩
    · rw [if_neg e_]
      exact h1_ s_ (by omega)
  · by_cases e_ : s_ = K_
    · rw [e_] at hs2_
      omega
    · exact h2_ s_ (by omega) hs2_
  · unfold up1
    rw [if_neg (by omega)]
    exact h3_ s_ (by omega) hs2_ hs3_
theorem up1_2 {α : Type} {f_ : Nat → α} {a_ : Nat} {v_ w_ : α} : up1 (up1 f_ a_ v_) a_ w_ = up1 f_ a_ w_ := by
  funext k_
  unfold up1
  by_cases e_ : k_ = a_
  · rw [if_pos e_, if_pos e_]
  · rw [if_neg e_, if_neg e_, if_neg e_]
/-- the_ arguments that have come so_ far_ -/
def oin (B_ : pA) (d_ i_ : Nat) (o_ : Nat → List Int) : Prop := (∀ s_, s_ < B_.1 d_ → B_.2.2.1 (40 * d_ + s_) = 0 → s_ < i_ → ((o_ s_).length : Int) = B_.2.2.2.1 (40 * d_ + s_)) ∧ ∀ s_, s_ < B_.1 d_ → B_.2.2.1 (40 * d_ + s_) ≠ 0 → o_ s_ = []
theorem ni_n {d_ k_ : Nat} (h_ : p_ni A_ d_ k_ = -1) : ∀ s_, s_ < A_.1 d_ → k_ ≤ s_ → A_.2.2.1 (40 * d_ + s_) ≠ 0 := by
  intro s_ hs_ hk_ z_
  have q_ := p_fd_no (f_ := fun s_ => decide (k_ ≤ s_) && decide (A_.2.2.1 (40 * d_ + s_) = 0)) h_ s_ hs_
  have q_ : (decide (k_ ≤ s_) && decide (A_.2.2.1 (40 * d_ + s_) = 0)) = false := q_
  rw [decide_eq_true hk_, decide_eq_true z_] at q_
  cases q_
theorem ni_s {d_ k_ i_ : Nat} (h_ : p_ni A_ d_ k_ = (i_ : Int)) : k_ ≤ i_ ∧ i_ < A_.1 d_ ∧ A_.2.2.1 (40 * d_ + i_) = 0 := by
  have q_ := p_fd_f (f_ := fun s_ => decide (k_ ≤ s_) && decide (A_.2.2.1 (40 * d_ + s_) = 0)) h_
  have q1_ : (decide (k_ ≤ i_) && decide (A_.2.2.1 (40 * d_ + i_) = 0)) = true := q_.1
  rw [Bool.and_eq_true, decide_eq_true_eq, decide_eq_true_eq] at q1_
  exact ⟨q1_.1, q_.2, q1_.2⟩
theorem fd_lt {f_ : Nat → Bool} : ∀ {k_ : Nat} {i_ : Nat}, p_fd f_ k_ = (i_ : Int) → ∀ s_, s_ < i_ → f_ s_ = false
  | 0, i_, h_, s_, hs_ => by
    rw [p_fd] at h_
    omega
  | k_ + 1, i_, h_, s_, hs_ => by
    rw [p_fd] at h_
    split at h_
    · rename_i g_
      split at h_
      · have : k_ = i_ := by omega
        exact p_fd_no g_ s_ (by omega)
      · omega
    · exact fd_lt h_ s_ hs_
theorem ni_l {d_ k_ i_ : Nat} (h_ : p_ni A_ d_ k_ = (i_ : Int)) : ∀ s_, k_ ≤ s_ → s_ < i_ → A_.2.2.1 (40 * d_ + s_) ≠ 0 := by
  intro s_ hk_ hs_ z_
  have q_ := fd_lt (f_ := fun s_ => decide (k_ ≤ s_) && decide (A_.2.2.1 (40 * d_ + s_) = 0)) h_ s_ hs_
  have q_ : (decide (k_ ≤ s_) && decide (A_.2.2.1 (40 * d_ + s_) = 0)) = false := q_
  rw [decide_eq_true hk_, decide_eq_true z_] at q_
  cases q_
theorem ae_r {pl_ p_ : Nat} {t_ : Bool} {c_ : List Int} {x_ : List Int × Nat} (h_ : p_ae b_ n_ pl_ t_ c_ p_ = .inr x_) : t_ = false ∧ lx_kd b_ n_ p_ = 41 ∧ x_.1 = c_ ∧ p_ad b_ n_ p_ = .inr x_.2 := by
  unfold p_ae at h_
  by_cases g_ : lx_kd b_ n_ p_ = 41 ∧ t_ = true
  · rw [if_pos g_] at h_
    cases h_
  · rw [if_neg g_] at h_
    obtain ⟨q_, h1_, h2_⟩ := pb_inr h_
    cases h2_
    unfold p_nd at h1_
    by_cases k_ : lx_kd b_ n_ p_ = 41
    · rw [if_pos k_] at h1_
      refine ⟨?_, k_, rfl, h1_⟩
      cases t_ with
      | false => rfl
      | true => exact absurd ⟨k_, rfl⟩ g_
    · rw [if_neg k_] at h1_
      cases h1_
theorem ar_tot {d_ K_ pl_ : Nat} {c0_ : List Int} {E_ : gE} {O_ : gO} {R_ fc_ : Nat} (hn_ : n_ ≤ 1280) (hA_ : a_ok b_ n_ A_ m_) (hB_ : a_ok b_ n_ B_ m_) (hx_ : a_ex A_ B_ m_) (ht_ : ten B_ m_ (A_.1 m_) E_ O_) (hK_ : K_ = A_.1 m_) (hKB_ : K_ < B_.1 m_) (hd_ : d_ < m_) : ∀ (f_ : Nat) (i_ : Int) (c_ kk_ : List Int) (p_ : Nat) (x_ : List Int × Nat) (G_ : pGr) (o_ : Nat → List Int) (k_ : Nat), p_ar b_ n_ A_ m_ d_ K_ pl_ f_ i_ c_ p_ = .inr x_ → i_ = p_ni A_ d_ k_ → p_ ≤ n_ → lx_kd b_ n_ p_ ≠ -1 → c_ = kk_ ++ c0_ → ev F_ I_ B_ X_ m_ s0_ kk_ = some ((G_, R_, fc_), E_, up1 O_ K_ (some o_), []) → oin B_ d_ k_ o_ → ∃ kk'_ G'_ o'_, x_.1 = kk'_ ++ c0_ ∧ ev F_ I_ B_ X_ m_ s0_ kk'_ = some ((G'_, R_, fc_), E_, up1 O_ K_ (some o'_), []) ∧ oin B_ d_ (B_.1 d_) o'_
  | 0, _, _, _, _, _, _, _, _, h_, _, _, _, _, _, _ => by cases h_
  | f_ + 1, i_, c_, kk_, p_, x_, G_, o_, k_, h_, hi_, hp_, hkd_, hc_, he_, ho_ => by
    rw [p_ar] at h_
    obtain ⟨x1_, h1_, h2_⟩ := pb_inr h_
    have ten2_ : ten B_ m_ (A_.1 m_) E_ (up1 O_ K_ (some o_)) := by rw [hK_]; exact ten_o ht_
    obtain ⟨k1_, G1_, v_, q1_, q2_, q3_, q4_, q5_, q6_⟩ := xd_tot (F_ := F_) (I_ := I_) (X_ := X_) hn_ (pd_ok hA_) hA_ hB_ hx_ ten2_ hp_ hkd_ hc_ he_ h1_
    have x1b : p_ < x1_.1 ∧ x1_.1 ≤ n_ ∧ lx_kd b_ n_ x1_.1 ≠ -1 := by
      have w_ := pex_ok hn_ (pd_ok hA_) hp_ hkd_ (Nat.zero_le _) q1_
      exact ⟨w_.1, w_.2.1, w_.2.2.1⟩
    have ad_ : A_.1 d_ = B_.1 d_ := hx_.2.1 d_ hd_
    have same : ∀ s_, s_ < A_.1 d_ → (A_.2.2.1 (40 * d_ + s_) = 0 ↔ B_.2.2.1 (40 * d_ + s_) = 0) ∧ A_.2.2.2.1 (40 * d_ + s_) = B_.2.2.2.1 (40 * d_ + s_) := by
      intro s_ hs_
      have w_ := hx_.2.2 d_ s_ (by omega) hs_
      refine ⟨?_, w_.2.1⟩
      rcases w_.2.2.2 with z_ | z_ <;> omega
    have d40_ := (hB_.2 d_ (by omega)).1
    have K40_ := (hB_.2 m_ (Nat.le_refl _)).1
    by_cases im_ : i_ = -1
    · exfalso
      rw [if_neg (fun z_ => z_.1 im_)] at h2_
      have a2_ : p_a2 A_ d_ i_ = -1 := if_pos im_
      by_cases k44_ : lx_kd b_ n_ x1_.1 = 44
      · rw [if_pos k44_, if_pos a2_] at h2_
        cases h2_
      · rw [if_neg k44_] at h2_
        have w_ := (ae_r h2_).1
        rw [decide_eq_true (Or.inl im_)] at w_
        cases w_
    · obtain ⟨iN_, hiN_⟩ : ∃ iN_ : Nat, p_ni A_ d_ k_ = (iN_ : Int) := by
        rcases p_ni_c (A_ := A_) (m_ := d_) (k_ := k_) with z_ | z_
        · exact absurd (hi_.trans z_) im_
        · exact ⟨(p_ni A_ d_ k_).toNat, by omega⟩
      have iv_ : i_ = (iN_ : Int) := hi_.trans hiN_
      obtain ⟨n1_, n2_, n3_⟩ := ni_s hiN_
      have n4_ := ni_l hiN_
      have wl : h_tp x1_.2.1 = A_.2.2.2.1 (40 * d_ + iN_) := by
        by_cases z_ : h_tp x1_.2.1 = A_.2.2.2.1 (40 * d_ + iN_)
        · exact z_
        · rw [if_pos ⟨im_, by rw [iv_, Int.toNat_natCast]; exact z_⟩] at h2_
          cases h2_
      rw [if_neg (fun z_ => z_.2 (by rw [iv_, Int.toNat_natCast]; exact wl))] at h2_
      have a1_ : p_a1 A_ d_ K_ i_ x1_.2.2 = (cw 16 (K_ : Int) (iN_ : Int) :: (k1_ ++ kk_)) ++ c0_ := by
        unfold p_a1
        rw [if_neg im_, q2_, iv_]
        rfl
      have a2_ : p_a2 A_ d_ i_ = p_ni A_ d_ (iN_ + 1) := by
        unfold p_a2
        rw [if_neg im_, iv_, Int.toNat_natCast]
      have he2_ : ev F_ I_ B_ X_ m_ s0_ (cw 16 (K_ : Int) (iN_ : Int) :: (k1_ ++ kk_)) = some ((G1_, R_, fc_), E_, up1 O_ K_ (some (up1 o_ iN_ v_)), []) := by
        rw [ev_c q4_]
        refine ew_st (by decide) (by omega) ?_
        have w_ := st16 (B_ := B_) (m_ := m_) (I_ := I_) (a_ := K_) (d_ := (iN_ : Int)) (q_ := (G1_, R_, fc_)) (E_ := E_) (O_ := up1 O_ K_ (some o_)) (o_ := o_) (x_ := v_) (l_ := []) hKB_ (if_pos rfl) (by omega) q6_.2
        rw [up1_2, Int.toNat_natCast] at w_
        rw [Int.toNat_natCast]
        exact w_
      have ho2_ : oin B_ d_ (iN_ + 1) (up1 o_ iN_ v_) := by
        refine ⟨fun s_ hs_ h0_ hlt_ => ?_, fun s_ hs_ h0_ => ?_⟩
        · unfold up1
          by_cases e_ : s_ = iN_
          · rw [if_pos e_, e_, ← q5_, wl]
            exact (same iN_ n2_).2
          · rw [if_neg e_]
            refine ho_.1 s_ hs_ h0_ ?_
            by_cases z_ : s_ < k_
            · exact z_
            · exact absurd ((same s_ (by omega)).1.mpr h0_) (n4_ s_ (by omega) (by omega))
        · unfold up1
          rw [if_neg (fun e_ => h0_ (by rw [e_]; exact (same iN_ n2_).1.mp n3_))]
          exact ho_.2 s_ hs_ h0_
      rw [a1_, a2_] at h2_
      by_cases k44_ : lx_kd b_ n_ x1_.1 = 44
      · rw [if_pos k44_] at h2_
        by_cases z_ : p_ni A_ d_ (iN_ + 1) = -1
        · rw [if_pos z_] at h2_
          cases h2_
        · rw [if_neg z_] at h2_
          obtain ⟨q7_, q8_, q9_⟩ := pb_inr h2_
          have w_ := p_ad_ok x1b.2.1 (by omega) q8_
          exact ar_tot (pl_ := pl_) hn_ hA_ hB_ hx_ ht_ hK_ hKB_ hd_ f_ _ _ _ q7_ x_ G1_ _ (iN_ + 1) q9_ rfl w_.2.2.1 w_.2.2.2 rfl he2_ ho2_
      · rw [if_neg k44_] at h2_
        obtain ⟨w1_, w2_, w3_, w4_⟩ := ae_r h2_
        have w5_ : p_ni A_ d_ (iN_ + 1) = -1 := by
          by_cases z_ : p_ni A_ d_ (iN_ + 1) = -1
          · exact z_
          · rw [decide_eq_true (Or.inr z_)] at w1_
            cases w1_
        refine ⟨_, G1_, _, w3_, he2_, fun s_ hs_ h0_ _ => ?_, ho2_.2⟩
        refine ho2_.1 s_ hs_ h0_ ?_
        by_cases z_ : s_ < iN_ + 1
        · exact z_
        · exact absurd ((same s_ (by omega)).1.mpr h0_) (ni_n w5_ s_ (by omega) (by omega))
end IT2_
