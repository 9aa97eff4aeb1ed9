/-! arguments and their values; written by wip/p55/gen/vg -/

/-! arguments one_ behind the_ other, with what they come to_ -/
section AQ_
variable {b_ : Nat → Int} {n_ m_ d_ : Nat} {A_ B_ : pA}
theorem gi_ex (hA_ : a_ok b_ n_ A_ m_) (hB_ : a_ok b_ n_ B_ m_) (hx_ : a_ex A_ B_ m_) (hd_ : d_ < m_) : A_.1 d_ = B_.1 d_ ∧ (∀ s_, s_ < A_.1 d_ → g_in A_ d_ s_ = g_in B_ d_ s_) ∧ (∀ s_, s_ < A_.1 d_ → (A_.2.2.1 (40 * d_ + s_) = 0 ↔ B_.2.2.1 (40 * d_ + s_) = 0)) ∧ ∀ k_, k_ ≤ A_.1 d_ → p_cn (g_in A_ d_) k_ = p_cn (g_in B_ d_) k_ := by
  have e1_ := hx_.2.1 d_ hd_
  have e3_ : ∀ s_, s_ < A_.1 d_ → (A_.2.2.1 (40 * d_ + s_) = 0 ↔ B_.2.2.1 (40 * d_ + s_) = 0) := by
    intro s_ hs_
    have z_ := (hx_.2.2 d_ s_ (by omega) hs_).2.2.2
    omega
  have e2_ : ∀ s_, s_ < A_.1 d_ → g_in A_ d_ s_ = g_in B_ d_ s_ := by
    intro s_ hs_
    rw [g_in_0 hA_ (by omega) hs_, g_in_0 hB_ (by omega) (by omega)]
    exact decide_eq_decide.mpr (e3_ s_ hs_)
  refine ⟨e1_, e2_, e3_, ?_⟩
  intro k_
  induction k_ with
  | zero => intro _; rfl
  | succ k_ ih_ =>
    intro hk_
    rw [p_cn, p_cn, ih_ (by omega), e2_ k_ (by omega)]
theorem ac_st {xi_ : pR × Nat} {l3_ : List (pR × Nat)} {k0_ p_ pe_ : Nat} (hA_ : a_ok b_ n_ A_ m_) (hB_ : a_ok b_ n_ B_ m_) (hx_ : a_ex A_ B_ m_) (hd_ : d_ < m_) (h_ : uch b_ n_ A_ m_ d_ (xi_ :: l3_) k0_ p_ pe_) (hk0_ : k0_ ≤ B_.1 d_) : (k0_ ≤ xi_.2 ∧ xi_.2 < B_.1 d_ ∧ B_.2.2.1 (40 * d_ + xi_.2) = 0) ∧ p_ex b_ n_ false (p_pd b_ n_ A_ m_) [] p_ = .inr xi_.1 ∧ h_tp xi_.1.2.1 = B_.2.2.2.1 (40 * d_ + xi_.2) ∧ (p_cn (g_in B_ d_) xi_.2 = p_cn (g_in B_ d_) k0_ ∧ p_cn (g_in B_ d_) (xi_.2 + 1) = p_cn (g_in B_ d_) k0_ + 1) ∧ (l3_ = [] → uch b_ n_ A_ m_ d_ l3_ (xi_.2 + 1) xi_.1.1 pe_) ∧ (l3_ ≠ [] → lx_kd b_ n_ xi_.1.1 = 44 ∧ ∃ p1_, p_ad b_ n_ xi_.1.1 = .inr p1_ ∧ uch b_ n_ A_ m_ d_ l3_ (xi_.2 + 1) p1_ pe_) ∧ ∀ s_, k0_ ≤ s_ → s_ < xi_.2 → B_.2.2.1 (40 * d_ + s_) ≠ 0 := by
  obtain ⟨g1_, g2_, g3_, g4_⟩ := gi_ex hA_ hB_ hx_ hd_
  rcases h_ with h_ | h_
  · cases h_.1
  · obtain ⟨h1_, h2_, h3_, h4_⟩ := h_
    have s1_ := ni_s h1_
    have s2_ := ni_l h1_
    refine ⟨⟨s1_.1, by omega, (g3_ _ s1_.2.1).mp s1_.2.2⟩, h2_, ?_, ?_, ?_, ?_, ?_⟩
    · rw [h3_]
      exact (hx_.2.2 d_ xi_.2 (by omega) s1_.2.1).2.1
    · rcases p_ni_r (k_ := k0_) hA_ (show d_ ≤ m_ by omega) with z_ | ⟨v_, z1_, z2_, z3_, z4_, z5_⟩
      · have := z_.1
        omega
      · have ev : v_ = xi_.2 := by omega
        subst ev
        have e1_ : p_cn (g_in A_ d_) (xi_.2 + 1) = p_cn (g_in A_ d_) k0_ + 1 := by
          rw [p_cn, z4_, if_pos rfl]
          omega
        rw [g4_ _ (by omega), g4_ _ (by omega)] at e1_
        rw [g4_ _ (by omega), g4_ _ (by omega)] at z5_
        exact ⟨z5_, e1_⟩
    · intro e_
      rcases h4_ with ⟨w1_, w2_, w3_⟩ | ⟨w1_, w2_, p1_, w3_, w4_⟩
      · exact Or.inl ⟨e_, w2_, w3_⟩
      · exact absurd e_ w1_
    · intro e_
      rcases h4_ with ⟨w1_, w2_, w3_⟩ | ⟨w1_, w2_, p1_, w3_, w4_⟩
      · exact absurd w1_ e_
      · exact ⟨w2_, p1_, w3_, Or.inr w4_⟩
    · intro s_ hs1_ hs2_
      have z_ := s2_ s_ hs1_ hs2_
      have z2_ := g3_ s_ (by omega)
      exact fun w_ => z_ (z2_.mpr w_)
theorem ac_nn {l_ : List (pR × Nat)} {k0_ p_ pe_ : Nat} (hA_ : a_ok b_ n_ A_ m_) (hB_ : a_ok b_ n_ B_ m_) (hx_ : a_ex A_ B_ m_) (hd_ : d_ < m_) (h_ : uch b_ n_ A_ m_ d_ l_ k0_ p_ pe_) (hk0_ : k0_ ≤ B_.1 d_) : p_cn (g_in B_ d_) (B_.1 d_) = p_cn (g_in B_ d_) k0_ + l_.length := by
  obtain ⟨g1_, g2_, g3_, g4_⟩ := gi_ex hA_ hB_ hx_ hd_
  have w_ := ach_n (M_ := m_) hA_ (by omega) l_ k0_ p_ pe_ h_ (by omega)
  rw [g4_ _ (Nat.le_refl _), g4_ _ (by omega), g1_] at w_
  exact w_
theorem ac_0 {k0_ p_ pe_ : Nat} (hA_ : a_ok b_ n_ A_ m_) (hB_ : a_ok b_ n_ B_ m_) (hx_ : a_ex A_ B_ m_) (hd_ : d_ < m_) (h_ : uch b_ n_ A_ m_ d_ [] k0_ p_ pe_) : pe_ = p_ ∧ ∀ s_, s_ < B_.1 d_ → k0_ ≤ s_ → B_.2.2.1 (40 * d_ + s_) ≠ 0 := by
  obtain ⟨g1_, g2_, g3_, g4_⟩ := gi_ex hA_ hB_ hx_ hd_
  rcases h_ with h_ | h_
  · refine ⟨h_.2.2, fun s_ hs_ hk_ => ?_⟩
    have z_ := ni_n h_.2.1 s_ (by omega) hk_
    have z2_ := g3_ s_ (by omega)
    exact fun w_ => z_ (z2_.mpr w_)
  · exact h_.elim
/-- the_ values of_ the_ arguments so_ far_ -/
def aro (B_ : pA) (d_ k0_ : Nat) (o_ : Nat → List Int) (a_ : Nat → Int) (ok_ : Prop) : Prop := oin B_ d_ k0_ o_ ∧ (∀ s_, B_.1 d_ ≤ s_ → o_ s_ = []) ∧ imq ok_ (∀ s_, s_ < k0_ → s_ < B_.1 d_ → B_.2.2.1 (40 * d_ + s_) = 0 → rwv a_ (8 * p_cn (g_in B_ d_) s_) (o_ s_))
theorem aro_0 {a_ : Nat → Int} {ok_ : Prop} : aro B_ d_ 0 (fun _ => []) a_ ok_ := ⟨⟨fun s_ _ _ h_ => absurd h_ (Nat.not_lt_zero _), fun s_ _ _ => rfl⟩, fun s_ _ => rfl, fun _ s_ h_ => absurd h_ (Nat.not_lt_zero _)⟩
theorem cn_lt {g_ : Nat → Bool} {s_ k_ : Nat} (h_ : s_ < k_) (hg_ : g_ s_ = true) : p_cn g_ s_ + 1 ≤ p_cn g_ k_ := by
  have e_ : p_cn g_ (s_ + 1) = p_cn g_ s_ + 1 := by
    rw [p_cn, hg_, if_pos rfl]
  rw [← e_]
  exact p_cn_le h_
theorem aro_cg {k0_ : Nat} {o_ : Nat → List Int} {a_ a'_ : Nat → Int} {ok_ : Prop} (hB_ : a_ok b_ n_ B_ m_) (hd_ : d_ < m_) (h_ : aro B_ d_ k0_ o_ a_ ok_) (he_ : ∀ i_, i_ < 8 * p_cn (g_in B_ d_) k0_ → a'_ i_ = a_ i_) : aro B_ d_ k0_ o_ a'_ ok_ := by
  refine ⟨h_.1, h_.2.1, fun z_ s_ hs_ hs2_ h0_ => ?_⟩
  have w_ := h_.2.2 z_ s_ hs_ hs2_ h0_
  have l1_ := h_.1.1 s_ hs2_ h0_ hs_
  have l2_ := ((hB_.2 d_ (by omega)).2 s_ hs2_).2.2.1
  have g1_ : g_in B_ d_ s_ = true := by
    rw [g_in_0 hB_ (by omega) hs2_]
    exact decide_eq_true h0_
  have c1_ := cn_lt hs_ g1_
  intro k9_ z9_ e9_
  have kl_ : k9_ < (o_ s_).length := by
    by_cases q_ : k9_ < (o_ s_).length
    · exact q_
    · rw [List.getElem?_eq_none (by omega)] at e9_
      cases e9_
  rw [he_ _ (by omega)]
  exact w_ k9_ z9_ e9_
theorem aro_up {k0_ i_ : Nat} {o_ : Nat → List Int} {v_ : List Int} {a_ : Nat → Int} {ok_ ok'_ : Prop} (h_ : aro B_ d_ k0_ o_ a_ ok_) (hi_ : k0_ ≤ i_ ∧ i_ < B_.1 d_ ∧ B_.2.2.1 (40 * d_ + i_) = 0) (hv_ : (v_.length : Int) = B_.2.2.2.1 (40 * d_ + i_)) (hc_ : p_cn (g_in B_ d_) i_ = p_cn (g_in B_ d_) k0_) (hn_ : ∀ s_, k0_ ≤ s_ → s_ < i_ → B_.2.2.1 (40 * d_ + s_) ≠ 0) (hok_ : ok'_ → ok_) (hr_ : imq ok'_ (rwv a_ (8 * p_cn (g_in B_ d_) k0_) v_)) : aro B_ d_ (i_ + 1) (up1 o_ i_ v_) a_ ok'_ := by
  refine ⟨⟨fun s_ hs_ h0_ hl_ => ?_, fun s_ hs_ h0_ => ?_⟩, fun s_ hs_ => ?_, fun z_ s_ hs_ hs2_ h0_ => ?_⟩
  · by_cases q_ : s_ = i_
    · rw [q_]
      show ((if i_ = i_ then v_ else o_ i_).length : Int) = _
      rw [if_pos rfl]
      exact hv_
    · show ((if s_ = i_ then v_ else o_ s_).length : Int) = _
      rw [if_neg q_]
      by_cases q2_ : s_ < k0_
      · exact h_.1.1 s_ hs_ h0_ q2_
      · exact absurd h0_ (hn_ s_ (by omega) (by omega))
  · show (if s_ = i_ then v_ else o_ s_) = []
    rw [if_neg (fun q_ => h0_ (by rw [q_]; exact hi_.2.2))]
    exact h_.1.2 s_ hs_ h0_
  · show (if s_ = i_ then v_ else o_ s_) = []
    rw [if_neg (by omega)]
    exact h_.2.1 s_ hs_
  · show rwv a_ _ (if s_ = i_ then v_ else o_ s_)
    by_cases q_ : s_ = i_
    · rw [if_pos q_, q_, hc_]
      exact hr_ z_
    · rw [if_neg q_]
      by_cases q2_ : s_ < k0_
      · exact h_.2.2 (hok_ z_) s_ q2_ hs2_ h0_
      · exact absurd h0_ (hn_ s_ (by omega) (by omega))
end AQ_
theorem rev_o {fr_ K_ : Nat} {E_ : gE} {O_ : gO} {ok_ ok'_ : Prop} {z_ : Option (Nat → List Int)} {S_ : sm_S} (h_ : rev fr_ K_ E_ O_ ok_ S_) (hok_ : ok'_ → ok_) : rev fr_ K_ E_ (up1 O_ K_ z_) ok'_ S_ := by
  intro q_
  obtain ⟨h1_, h2_⟩ := h_ (hok_ q_)
  refine ⟨h1_, fun s_ o_ hs_ e_ => h2_ s_ o_ hs_ ?_⟩
  rw [← e_]
  show _ = if s_ = K_ then z_ else O_ s_
  rw [if_neg (by omega)]
theorem rev_lo {fr_ K_ : Nat} {E_ : gE} {O_ : gO} {ok_ ok'_ : Prop} {S_ S'_ : sm_S} (h_ : rev fr_ K_ E_ O_ ok_ S_) (hok_ : ok'_ → ok_) (hE_ : ∀ s_, s_ < 40 → (E_ s_).length ≤ 8) (e1_ : ∀ j_, j_ < 8 * (40 * (fr_ + 1)) → S'_.2.2.1 144 0 j_ = S_.2.2.1 144 0 j_) (e2_ : S'_.2.2.1 145 0 = S_.2.2.1 145 0) : rev fr_ K_ E_ O_ ok'_ S'_ := by
  intro q_
  obtain ⟨h1_, h2_⟩ := h_ (hok_ q_)
  refine ⟨fun s_ hs_ => ?_, fun s_ o_ hs_ e_ o1_ ho1_ => ?_⟩
  · have w_ := h1_ s_ hs_
    have l1_ := hE_ s_ hs_
    intro k9_ z9_ e9_
    have kl_ : k9_ < (E_ s_).length := by
      by_cases q_ : k9_ < (E_ s_).length
      · exact q_
      · rw [List.getElem?_eq_none (by omega)] at e9_
        cases e9_
    rw [e1_ _ (by omega)]
    exact w_ k9_ z9_ e9_
  · rw [e2_]
    exact h2_ s_ o_ hs_ e_ o1_ ho1_
theorem ev_15 {F_ I_ m_ K_ fc_ : Nat} {B_ : pA} {X_ : Nat → gQ → gE → Option (gQ × gE)} {q_ : gQ} {E_ : gE} {O_ : gO} (hK_ : K_ < B_.1 m_) (h40_ : B_.1 m_ ≤ 40) (hE_ : E_ K_ = []) (hO_ : O_ K_ = none) (hf_ : q_.2.2 ≤ 200) : ev F_ I_ B_ X_ m_ (q_, E_, O_, []) [cw 15 (K_ : Int) 0] = some ((q_.1, q_.2.1, q_.2.2 + 1), E_, up1 O_ K_ (some fun _ => []), []) := by
  rw [ev_c ev_n]
  refine ew_st (by decide) (by omega) ?_
  rw [Int.toNat_natCast]
  exact st15 hK_ hE_ hO_ hf_
theorem ev_16 {F_ I_ m_ K_ i_ : Nat} {B_ : pA} {X_ : Nat → gQ → gE → Option (gQ × gE)} {s0_ : gS} {q_ : gQ} {E_ : gE} {O_ : gO} {o_ : Nat → List Int} {c_ v_ : List Int} (h_ : ev F_ I_ B_ X_ m_ s0_ c_ = some (q_, E_, up1 O_ K_ (some o_), [v_])) (hK_ : K_ < B_.1 m_) (h40_ : B_.1 m_ ≤ 40) (hi_ : i_ < 40) (hv_ : v_.length ≤ 8) : ev F_ I_ B_ X_ m_ s0_ (cw 16 (K_ : Int) (i_ : Int) :: c_) = some (q_, E_, up1 O_ K_ (some (up1 o_ i_ v_)), []) := by
  rw [ev_c h_]
  refine ew_st (by decide) (by omega) ?_
  rw [Int.toNat_natCast]
  have w_ := st16 (I_ := I_) (B_ := B_) (m_ := m_) (a_ := K_) (d_ := (i_ : Int)) (q_ := q_) (E_ := E_) (O_ := up1 O_ K_ (some o_)) (o_ := o_) (x_ := v_) (l_ := []) hK_ (if_pos rfl) (by omega) hv_
  rw [w_, Int.toNat_natCast, up1_2]
