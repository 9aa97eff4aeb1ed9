/-! modules can be worked out; written by wip/p55/gen/vg -/

/-! a_ module's items, and what it_ is_ worked out_ to_ -/
def mch (b_ : Nat → Int) (n_ : Nat) (B_ : pA) (N_ : Nat → Nat) (m_ : Nat) : Nat → pA → List Int → Nat → List Int → Prop
  | 0, _, _, _, _ => False
  | f_ + 1, A_, c_, p_, ce_ => (a_ok b_ n_ A_ m_ ∧ a_ex A_ B_ m_ ∧ p_ ≤ n_ ∧ lx_kd b_ n_ p_ ≠ -1) ∧ ((lx_kd b_ n_ p_ = 125 ∧ A_.1 m_ = B_.1 m_ ∧ ce_ = c_) ∨ ∃ r_, p_it b_ n_ A_ N_ m_ c_ p_ = some (.inr r_) ∧ mch b_ n_ B_ N_ m_ f_ r_.1 r_.2.1 r_.2.2 ce_)
theorem mch_ex {b_ : Nat → Int} {n_ m_ f_ : Nat} {A_ B_ : pA} {N_ : Nat → Nat} {c_ ce_ : List Int} {p_ : Nat} (h_ : mch b_ n_ B_ N_ m_ f_ A_ c_ p_ ce_) : a_ok b_ n_ A_ m_ ∧ a_ex A_ B_ m_ ∧ p_ ≤ n_ ∧ lx_kd b_ n_ p_ ≠ -1 := by
  cases f_ with
  | zero => exact h_.elim
  | succ f_ => exact h_.1
theorem mod_tot {b_ : Nat → Int} {n_ F_ I_ m_ : Nat} {B_ : pA} {N_ : Nat → Nat} {X_ : Nat → gQ → gE → Option (gQ × gE)} {s0_ : gS} {r1_ i1_ : Nat → Int} {R0_ fc0_ : Nat} {c0_ : List Int} (hn_ : n_ ≤ 1280) (hB_ : a_ok b_ n_ B_ m_) (hnn_ : ∀ d_, 0 ≤ r1_ d_ ∧ 0 ≤ i1_ d_) (hlim : ∀ K_, K_ ≤ B_.1 m_ → (R0_ : Int) + su (t_rg r1_ B_ m_) K_ ≤ 6 ∧ (fc0_ : Int) + su (t_is i1_ B_ m_) K_ ≤ 201) (hX_ : ∀ d_ K_ : Nat, d_ < m_ → K_ < B_.1 m_ → B_.2.2.1 (40 * m_ + K_) = 5 → B_.2.2.2.2 (40 * m_ + K_) = (d_ : Int) → ∀ (G_ : pGr) (R_ fc_ : Nat) (o_ : Nat → List Int), (R_ : Int) + r1_ d_ ≤ 6 → (fc_ : Int) + i1_ d_ ≤ 201 → oin B_ d_ (B_.1 d_) o_ → ∃ G'_ e'_, X_ d_ (G_, R_, fc_) o_ = some ((G'_, R_ + (r1_ d_).toNat, fc_ + (i1_ d_).toNat), e'_) ∧ ∀ o1_, o1_ < B_.1 d_ → B_.2.2.1 (40 * d_ + o1_) ≠ 5 → ((e'_ o1_).length : Int) = B_.2.2.2.1 (40 * d_ + o1_)) : ∀ (f_ : Nat) (A_ : pA) (c_ : List Int) (p_ : Nat) (ce_ kk_ : List Int) (G_ : pGr) (R_ fc_ : Nat) (E_ : gE) (O_ : gO), mch b_ n_ B_ N_ m_ f_ A_ c_ p_ ce_ → c_ = kk_ ++ c0_ → ev F_ I_ B_ X_ m_ s0_ kk_ = some ((G_, R_, fc_), E_, O_, []) → tst B_ I_ m_ (A_.1 m_) E_ O_ → (R_ : Int) = R0_ + su (t_rg r1_ B_ m_) (A_.1 m_) → (fc_ : Int) = fc0_ + su (t_is i1_ B_ m_) (A_.1 m_) → ∃ kk'_ G'_ R'_ fc'_ E'_ O'_, ce_ = kk'_ ++ c0_ ∧ ev F_ I_ B_ X_ m_ s0_ kk'_ = some ((G'_, R'_, fc'_), E'_, O'_, []) ∧ tst B_ I_ m_ (B_.1 m_) E'_ O'_ ∧ (R'_ : Int) = R0_ + su (t_rg r1_ B_ m_) (B_.1 m_) ∧ (fc'_ : Int) = fc0_ + su (t_is i1_ B_ m_) (B_.1 m_)
  | 0, _, _, _, _, _, _, _, _, _, _, h_, _, _, _, _, _ => h_.elim
  | f_ + 1, A_, c_, p_, ce_, kk_, G_, R_, fc_, E_, O_, h_, hc_, he_, ht_, hR_, hf_ => by
    obtain ⟨⟨hA_, hx_, hp_, hk_⟩, h2_⟩ := h_
    rcases h2_ with ⟨z1_, z2_, z3_⟩ | ⟨r_, z1_, z2_⟩
    · rw [z3_]
      rw [z2_] at ht_ hR_ hf_
      exact ⟨kk_, G_, R_, fc_, E_, O_, hc_, he_, ht_, hR_, hf_⟩
    · have hx'_ := (mch_ex z2_).2.1
      have lim1_ : ∀ K_, K_ < B_.1 m_ → su (t_rg r1_ B_ m_) (K_ + 1) = su (t_rg r1_ B_ m_) K_ + t_rg r1_ B_ m_ K_ ∧ su (t_is i1_ B_ m_) (K_ + 1) = su (t_is i1_ B_ m_) K_ + t_is i1_ B_ m_ K_ := fun K_ _ => ⟨rfl, rfl⟩
      obtain ⟨kk'_, G'_, R'_, fc'_, E'_, O'_, w1_, w2_, w3_, w4_, w5_⟩ := it_tot (r1_ := r1_) (i1_ := i1_) hn_ hA_ hB_ hx_ hx'_ hp_ hk_ z1_ hc_ he_ ht_ (fun z_ => by
        have q_ := hlim (A_.1 m_ + 1) (by omega)
        have q2_ := lim1_ (A_.1 m_) z_
        omega) (fun z_ => by
        have q_ := hlim (A_.1 m_ + 1) (by omega)
        have q2_ := lim1_ (A_.1 m_) z_
        omega) hnn_ (fun z_ d_ hd_ h5_ hdd_ G_ o_ ho_ => by
        have q_ := hlim (A_.1 m_ + 1) (by omega)
        have q2_ := lim1_ (A_.1 m_) z_
        have ti_ : t_is i1_ B_ m_ (A_.1 m_) = 1 + i1_ d_ := by unfold t_is; rw [if_pos h5_, hdd_, Int.toNat_natCast]
        have tr_ : t_rg r1_ B_ m_ (A_.1 m_) = r1_ d_ := by unfold t_rg; rw [if_neg (by omega), if_pos h5_, hdd_, Int.toNat_natCast]
        exact hX_ d_ (A_.1 m_) hd_ z_ h5_ hdd_ G_ R_ (fc_ + 1) o_ (by omega) (by push_cast; omega) ho_)
      rcases w4_ with ⟨y1_, y2_, y3_⟩ | ⟨y1_, y2_, y3_, y4_⟩
      · exact mod_tot hn_ hB_ hnn_ hlim hX_ f_ r_.1 r_.2.1 r_.2.2 ce_ kk'_ G'_ R'_ fc'_ E'_ O'_ z2_ w1_ w2_ w3_ (by rw [y1_, y2_]; exact hR_) (by rw [y1_, y3_]; exact hf_)
      · have q2_ := lim1_ (A_.1 m_) y2_
        exact mod_tot hn_ hB_ hnn_ hlim hX_ f_ r_.1 r_.2.1 r_.2.2 ce_ kk'_ G'_ R'_ fc'_ E'_ O'_ z2_ w1_ w2_ w3_ (by rw [y1_]; omega) (by rw [y1_]; omega)
/-! more fuel gives the_ same -/
theorem ew_mo {F_ I_ : Nat} {A_ : pA} {X_ Y_ : Nat → gQ → gE → Option (gQ × gE)} {m_ : Nat} {w_ : Int} {s_ r_ : gS} (hXY_ : ∀ d_ q_ e_ z_, X_ d_ q_ e_ = some z_ → Y_ d_ q_ e_ = some z_) (h_ : ew F_ I_ A_ X_ m_ w_ s_ = some r_) : ew F_ I_ A_ Y_ m_ w_ s_ = some r_ := by
  by_cases h17_ : w_ % 32 = 17
  · obtain ⟨o_, z_, h1_, h2_, h3_, h4_, h5_, h6_, h7_⟩ := ew17 h_ h17_
    have h8_ := hXY_ _ _ _ _ h6_
    unfold ew
    rw [if_pos h17_, h1_, h2_]
    simp only []
    rw [if_pos ⟨h3_, h4_, h5_⟩, h8_, h7_]
  · unfold ew at h_ ⊢
    rw [if_neg h17_] at h_ ⊢
    exact h_
theorem ec_mo {F_ I_ : Nat} {A_ : pA} {X_ Y_ : Nat → gQ → gE → Option (gQ × gE)} {m_ : Nat} (hXY_ : ∀ d_ q_ e_ z_, X_ d_ q_ e_ = some z_ → Y_ d_ q_ e_ = some z_) : ∀ (c_ : List Int) (s_ r_ : gS), ec F_ I_ A_ X_ m_ c_ s_ = some r_ → ec F_ I_ A_ Y_ m_ c_ s_ = some r_
  | [], s_, r_, h_ => h_
  | w_ :: c_, s_, r_, h_ => by
    rw [ec] at h_ ⊢
    split at h_
    · rename_i s1_ e_
      rw [ew_mo hXY_ e_]
      exact ec_mo hXY_ c_ s1_ r_ h_
    · cases h_
theorem exm_mo {F_ I_ : Nat} {A_ : pA} {C_ : Nat → List Int} : ∀ (f_ d_ : Nat) (q_ : gQ) (e_ : gE) (z_ : gQ × gE), exm F_ I_ A_ C_ f_ d_ q_ e_ = some z_ → exm F_ I_ A_ C_ (f_ + 1) d_ q_ e_ = some z_
  | 0, _, _, _, _, h_ => by cases h_
  | f_ + 1, d_, q_, e_, z_, h_ => by
    rw [exm] at h_ ⊢
    split at h_
    · rename_i s_ e1_
      rw [ec_mo (fun d_ q_ e_ z_ => exm_mo f_ d_ q_ e_ z_) _ _ _ e1_]
      exact h_
    · cases h_
theorem exm_le2 {F_ I_ : Nat} {A_ : pA} {C_ : Nat → List Int} {f_ d_ : Nat} {q_ : gQ} {e_ : gE} {z_ : gQ × gE} (h_ : exm F_ I_ A_ C_ f_ d_ q_ e_ = some z_) : ∀ k_, exm F_ I_ A_ C_ (f_ + k_) d_ q_ e_ = some z_
  | 0 => h_
  | k_ + 1 => exm_mo (f_ + k_) d_ q_ e_ z_ (exm_le2 h_ k_)
/-- every module can_ be_ worked out_ -/
theorem exm_tot {b_ : Nat → Int} {n_ F_ I_ M_ : Nat} {B_ : pA} {N_ : Nat → Nat} {C_ : Nat → List Int} {r1_ i1_ : Nat → Int} (hn_ : n_ ≤ 1280) (hB_ : ∀ m_, m_ < M_ → a_ok b_ n_ B_ m_) (hnn_ : ∀ d_, 0 ≤ r1_ d_ ∧ 0 ≤ i1_ d_) (hs_ : ∀ m_, m_ < M_ → r1_ m_ = mc (su (t_rg r1_ B_ m_) (B_.1 m_)) ∧ i1_ m_ = mc (su (t_is i1_ B_ m_) (B_.1 m_))) (hC_ : ∀ m_, m_ < M_ → ∃ f_ A_ c0_ u_ ce_, mch b_ n_ B_ N_ m_ f_ A_ c0_ u_ ce_ ∧ A_.1 m_ = 0 ∧ ce_ = (C_ m_).reverse ++ c0_) : ∀ (k_ m_ : Nat), m_ < k_ → m_ < M_ → r1_ m_ ≤ 6 → i1_ m_ ≤ 200 → ∀ (f_ : Nat) (G_ : pGr) (R_ fc_ : Nat) (e_ : gE), m_ < f_ → (R_ : Int) + r1_ m_ ≤ 6 → (fc_ : Int) + i1_ m_ ≤ 201 → oin B_ m_ (B_.1 m_) e_ → ∃ G'_ e'_, exm F_ I_ B_ C_ f_ m_ (G_, R_, fc_) e_ = some ((G'_, R_ + (r1_ m_).toNat, fc_ + (i1_ m_).toNat), e'_) ∧ ∀ s_, s_ < B_.1 m_ → B_.2.2.1 (40 * m_ + s_) ≠ 5 → ((e'_ s_).length : Int) = B_.2.2.2.1 (40 * m_ + s_)
  | 0, m_, hk_, _, _, _ => absurd hk_ (Nat.not_lt_zero _)
  | k_ + 1, m_, hk_, hM_, h6_, h200_ => by
    intro f_ G_ R_ fc_ e_ hf_ hR_ hfc_ ho_
    obtain ⟨g_, rfl⟩ : ∃ g_, f_ = g_ + 1 := ⟨f_ - 1, by omega⟩
    have hm_ := hs_ m_ hM_
    have bm_ := hB_ m_ hM_
    have am_ := bm_.2 m_ (Nat.le_refl _)
    have nr : ∀ j_, j_ < B_.1 m_ → 0 ≤ t_rg r1_ B_ m_ j_ := by
      intro j_ hj_
      unfold t_rg
      split
      · exact (am_.2 j_ hj_).2.2.1.1
      · split
        · exact (hnn_ _).1
        · exact Int.le_refl _
    have ni_ : ∀ j_, j_ < B_.1 m_ → 0 ≤ t_is i1_ B_ m_ j_ := by
      intro j_ hj_
      unfold t_is
      split
      · have := (hnn_ (B_.2.2.2.2 (40 * m_ + j_)).toNat).2
        omega
      · exact Int.le_refl _
    have er := su_el nr
    have ei_ := su_el ni_
    have xr : su (t_rg r1_ B_ m_) (B_.1 m_) = r1_ m_ := by
      have q_ := hm_.1
      unfold mc at q_
      split at q_ <;> omega
    have xi_ : su (t_is i1_ B_ m_) (B_.1 m_) = i1_ m_ := by
      have q_ := hm_.2
      unfold mc at q_
      split at q_ <;> omega
    obtain ⟨f1_, A_, c0_, u_, ce_, c1_, c2_, c3_⟩ := hC_ m_ hM_
    have t0_ : tst B_ I_ m_ (A_.1 m_) e_ (fun _ => none) := by
      rw [c2_]
      exact ⟨⟨Nat.zero_le _, fun s_ hs_ => absurd hs_ (Nat.not_lt_zero _)⟩, fun s_ hs_ => absurd hs_ (Nat.not_lt_zero _), fun s_ _ hs_ h0_ => ⟨ho_.2 s_ hs_ h0_, rfl⟩, fun s_ hs_ h0_ => ho_.1 s_ hs_ h0_ hs_⟩
    obtain ⟨kk_, G'_, R'_, fc'_, E'_, O'_, w1_, w2_, w3_, w4_, w5_⟩ := mod_tot (F_ := F_) (I_ := I_) (X_ := exm F_ I_ B_ C_ g_) (s0_ := ((G_, R_, fc_), e_, fun _ => none, [])) (r1_ := r1_) (i1_ := i1_) (R0_ := R_) (fc0_ := fc_) (c0_ := c0_) hn_ bm_ hnn_ (fun K_ hK_ => by
      have q1_ := er.2.2 K_ hK_
      have q2_ := ei_.2.2 K_ hK_
      omega) (fun d_ K_ hd_ hK_ h5_ hdd_ G1_ R1_ fc1_ o_ hR1_ hf1_ ho1_ => by
      have ti_ : t_is i1_ B_ m_ K_ = 1 + i1_ d_ := by unfold t_is; rw [if_pos h5_, hdd_, Int.toNat_natCast]
      have tr_ : t_rg r1_ B_ m_ K_ = r1_ d_ := by unfold t_rg; rw [if_neg (by omega), if_pos h5_, hdd_, Int.toNat_natCast]
      have q1_ := er.2.1 K_ hK_
      have q2_ := ei_.2.1 K_ hK_
      exact exm_tot hn_ hB_ hnn_ hs_ hC_ k_ d_ (by omega) (by omega) (by omega) (by omega) g_ G1_ R1_ fc1_ o_ (by omega) hR1_ hf1_ ho1_) f1_ A_ c0_ u_ ce_ [] G_ R_ fc_ e_ (fun _ => none) c1_ rfl rfl t0_ (by rw [c2_]; show (R_ : Int) = R_ + 0; omega) (by rw [c2_]; show (fc_ : Int) = fc_ + 0; omega)
    have ek_ : kk_ = (C_ m_).reverse := by
      rw [w1_] at c3_
      exact List.append_cancel_right c3_
    rw [ek_] at w2_
    have w2_ : ec F_ I_ B_ (exm F_ I_ B_ C_ g_) m_ (C_ m_).reverse.reverse ((G_, R_, fc_), e_, fun _ => none, []) = some ((G'_, R'_, fc'_), E'_, O'_, []) := w2_
    rw [List.reverse_reverse] at w2_
    have nm_ := hnn_ m_
    refine ⟨G'_, E'_, ?_, fun s_ hs_ h5_ => (w3_.1.2 s_ hs_).1 h5_⟩
    rw [exm, w2_]
    show some ((G'_, R'_, fc'_), E'_) = _
    rw [show R'_ = R_ + (r1_ m_).toNat by omega, show fc'_ = fc_ + (i1_ m_).toNat by omega]
