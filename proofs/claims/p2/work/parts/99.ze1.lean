/-! the modules of a design; written by wip/p55/gen/vg -/

/-! a_ design's modules, each with its_ items -/
/-- where a_ module's body begins -/
def bod (b_ : Nat → Int) (n_ q_ : Nat) : pE Nat := pb (p_ad b_ n_ q_) (p_nd b_ n_ 123)
def mcc (b_ : Nat → Int) (n_ : Nat) (r_ : pD) (m_ : Nat) : Prop := ∃ f_ A_ c0_ u_ ce_ l_, mch b_ n_ r_.1 r_.2.1 m_ f_ A_ c0_ u_ ce_ ∧ A_.1 m_ = 0 ∧ bod b_ n_ (r_.2.1 m_) = .inr u_ ∧ r_.2.2.2.1 m_ = c0_.length ∧ r_.2.2.2.1 (m_ + 1) = ce_.length ∧ r_.2.2.2.2 = l_ ++ ce_
theorem bm_r {b_ : Nat → Int} {n_ M_ p_ : Nat} {A_ : pA} {N_ : Nat → Nat} {x_ : pA × (Nat → Nat) × Nat} (h_ : p_bm b_ n_ A_ N_ M_ p_ = .inr x_) (hp_ : p_ ≤ n_) : ∃ q_ u_, M_ ≠ 16 ∧ bod b_ n_ q_ = .inr u_ ∧ x_ = (a_bm A_ M_, n_up N_ M_ q_, u_) ∧ p_ < u_ ∧ u_ ≤ n_ ∧ lx_kd b_ n_ u_ ≠ -1 := by
  unfold p_bm at h_
  obtain ⟨q_, h1_, h2_⟩ := pb_inr h_
  by_cases k1_ : lx_kd b_ n_ q_ = 1
  · rw [if_pos k1_] at h2_
    by_cases g_ : p_fm b_ n_ N_ M_ q_ = -1
    · rw [if_pos g_] at h2_
      by_cases g2_ : M_ = 16
      · rw [if_pos g2_] at h2_
        cases h2_
      · rw [if_neg g2_] at h2_
        obtain ⟨r_, h3_, h4_⟩ := pb_inr h2_
        obtain ⟨u_, h5_, h6_⟩ := pb_inr h4_
        cases h6_
        have p1_ := p_nd_ok (by decide) hp_ h1_
        have p2_ := p_ad_ok p1_.2.2.1 (by omega) h3_
        have p3_ := p_nd_ok (by decide) p2_.2.2.1 h5_
        exact ⟨q_, u_, g2_, by unfold bod; rw [pb_r h3_]; exact h5_, rfl, by omega, p3_.2.2⟩
    · rw [if_neg g_] at h2_
      cases h2_
  · rw [if_neg k1_] at h2_
    cases h2_
theorem dl_ch {b_ : Nat → Int} {n_ : Nat} (hn_ : n_ ≤ 1280) : ∀ (f_ : Nat) (A_ : pA) (N_ : Nat → Nat) (M_ : Nat) (mc : Nat → Nat) (c_ : List Int) (p_ : Nat) (r_ : pD), p_dl b_ n_ f_ A_ N_ M_ mc c_ p_ = .inr r_ → a_ok b_ n_ A_ M_ → p_ ≤ n_ → lx_kd b_ n_ p_ ≠ -1 → M_ < r_.2.2.1 ∧ a_ex A_ r_.1 M_ ∧ (∀ m_, m_ ≤ M_ → r_.2.1 m_ = N_ m_ ∧ r_.2.2.2.1 m_ = mc m_) ∧ (∃ f1_ ce_ l_, mch b_ n_ r_.1 r_.2.1 M_ f1_ A_ c_ p_ ce_ ∧ r_.2.2.2.1 (M_ + 1) = ce_.length ∧ r_.2.2.2.2 = l_ ++ ce_) ∧ (∀ m_, M_ < m_ → m_ < r_.2.2.1 → mcc b_ n_ r_ m_) ∧ ∀ m_, m_ < r_.2.2.1 → a_ok b_ n_ r_.1 m_
  | 0, _, _, _, _, _, _, _, h_, _, _, _ => by cases h_
  | f_ + 1, A_, N_, M_, mc, c_, p_, r_, h_, hA_, hp_, hk_ => by
    cases hi_ : p_it b_ n_ A_ N_ M_ c_ p_ with
    | some x_ =>
      rw [dl_i hi_] at h_
      obtain ⟨r1_, h1_, h2_⟩ := pb_inr h_
      rw [h1_] at hi_
      obtain ⟨b1_, b2_, b3_, k_, b4_⟩ := it_b hn_ hA_ hp_ hk_ hi_
      obtain ⟨i1_, i2_, i3_, ⟨f1_, ce_, l_, i4_, i5_, i6_⟩, i7_, i8_⟩ := dl_ch hn_ f_ r1_.1 N_ M_ mc r1_.2.1 r1_.2.2 r_ h2_ b1_ b3_.2.1 b3_.2.2
      have ex_ := ex_tr b2_ i2_
      refine ⟨i1_, ex_, i3_, ⟨f1_ + 1, ce_, l_, ⟨⟨hA_, ex_, hp_, hk_⟩, Or.inr ⟨r1_, ?_, i4_⟩⟩, i5_, i6_⟩, i7_, i8_⟩
      rw [← hi_]
      exact it_N (fun k_ hk_ => (i3_ k_ (by omega)).1)
    | none =>
      rw [dl_n hi_] at h_
      obtain ⟨y_, h1_, h2_⟩ := pb_inr h_
      unfold p_en at h1_
      obtain ⟨q_, h3_, h4_⟩ := pb_inr h1_
      have p1_ := p_nd_ok (by decide) hp_ h3_
      by_cases k0_ : lx_kd b_ n_ q_ = 0
      · rw [if_pos k0_] at h4_
        cases h4_
        have h2_ := Sum.inr.inj h2_
        subst h2_
        refine ⟨Nat.lt_succ_self _, ex_rf, fun m_ hm_ => ⟨rfl, if_neg (by omega)⟩, ⟨1, c_, [], ⟨⟨hA_, ex_rf, hp_, hk_⟩, Or.inl ⟨p1_.1, rfl, rfl⟩⟩, if_pos rfl, rfl⟩, fun m_ hm1_ hm2_ => ?_, fun m_ hm_ => a_ok_le hA_ (by have hm_ : m_ < M_ + 1 := hm_; omega)⟩
        have hm2_ : m_ < M_ + 1 := hm2_
        omega
      · rw [if_neg k0_] at h4_
        obtain ⟨x_, h5_, h6_⟩ := pb_inr h4_
        cases h6_
        obtain ⟨q2_, u_, m16_, hb_, hx_, p2_⟩ := bm_r h5_ p1_.2.2.1
        subst hx_
        have M15_ := hA_.1
        have ok1_ : a_ok b_ n_ (a_bm A_ (M_ + 1)) (M_ + 1) := a_bm_ok (fun m_ hm_ => a_ok_le hA_ (by omega)) (by omega)
        have h2_ : p_dl b_ n_ f_ (a_bm A_ (M_ + 1)) (n_up N_ (M_ + 1) q2_) (M_ + 1) (n_up mc (M_ + 1) c_.length) c_ u_ = .inr r_ := h2_
        obtain ⟨i1_, i2_, i3_, ⟨f1_, ce_, l_, i4_, i5_, i6_⟩, i7_, i8_⟩ := dl_ch hn_ f_ _ _ (M_ + 1) _ c_ u_ r_ h2_ ok1_ p2_.2.1 p2_.2.2
        have bmA_ : ∀ m_, m_ ≤ M_ → (a_bm A_ (M_ + 1)).1 m_ = A_.1 m_ := fun m_ hm_ => if_neg (by omega)
        have ex_ : a_ex A_ r_.1 M_ := by
          refine ⟨?_, fun m_ hm_ => ?_, fun m_ s_ hm_ hs_ => ?_⟩
          · rw [← bmA_ M_ (Nat.le_refl _), i2_.2.1 M_ (by omega)]
            exact Nat.le_refl _
          · rw [← bmA_ m_ (by omega), i2_.2.1 m_ (by omega)]
          · exact i2_.2.2 m_ s_ (by omega) (by rw [bmA_ m_ hm_]; exact hs_)
        have cM_ : A_.1 M_ = r_.1.1 M_ := by rw [← bmA_ M_ (Nat.le_refl _), i2_.2.1 M_ (by omega)]
        have mcM_ := (i3_ (M_ + 1) (Nat.le_refl _)).2
        have e1_ : n_up mc (M_ + 1) c_.length (M_ + 1) = c_.length := if_pos rfl
        obtain ⟨kk_, hkk_⟩ := mch_cd hn_ _ _ _ _ _ i4_
        refine ⟨by omega, ex_, fun m_ hm_ => ?_, ⟨1, c_, l_ ++ kk_, ⟨⟨hA_, ex_, hp_, hk_⟩, Or.inl ⟨p1_.1, cM_, rfl⟩⟩, by rw [mcM_, e1_], by rw [i6_, hkk_, List.append_assoc]⟩, fun m_ hm1_ hm2_ => ?_, i8_⟩
        · have w_ := i3_ m_ (by omega)
          exact ⟨w_.1.trans (if_neg (by omega)), w_.2.trans (if_neg (by omega))⟩
        · by_cases z_ : m_ = M_ + 1
          · subst z_
            refine ⟨f1_, _, c_, u_, ce_, l_, i4_, if_pos rfl, ?_, by rw [mcM_, e1_], i5_, i6_⟩
            rw [(i3_ (M_ + 1) (Nat.le_refl _)).1, show n_up N_ (M_ + 1) q2_ (M_ + 1) = q2_ from if_pos rfl]
            exact hb_
          · exact i7_ m_ (by omega) hm2_
/-- each module of_ a_ right design has_ its_ items -/
theorem de_ch {b_ : Nat → Int} {n_ : Nat} {r_ : pD} (hn_ : n_ ≤ 1280) (h_ : p_de b_ n_ = .inr r_) : (∀ m_, m_ < r_.2.2.1 → mcc b_ n_ r_ m_ ∧ a_ok b_ n_ r_.1 m_) ∧ 0 < r_.2.2.1 := by
  unfold p_de at h_
  by_cases g_ : lx_kd b_ n_ (lx_k b_ n_ 0) = -1
  · rw [if_pos g_] at h_
    cases h_
  · rw [if_neg g_] at h_
    obtain ⟨x_, h1_, h2_⟩ := pb_inr h_
    have k0_ : lx_k b_ n_ 0 ≤ n_ := (lx_k_le (Nat.zero_le n_)).2
    obtain ⟨q_, u_, -, hb_, hx_, p2_⟩ := bm_r h1_ k0_
    subst hx_
    have ok1_ : a_ok b_ n_ (a_bm (fun _ => 0, fun _ => 0, fun _ => 0, fun _ => 0, fun _ => 0) 0) 0 := a_bm_ok (fun m_ hm_ => absurd hm_ (Nat.not_lt_zero _)) (by decide)
    have h2_ : p_dl b_ n_ (n_ + 1) (a_bm (fun _ => 0, fun _ => 0, fun _ => 0, fun _ => 0, fun _ => 0) 0) (n_up (fun _ => 0) 0 q_) 0 (fun _ => 0) [] u_ = .inr r_ := h2_
    obtain ⟨i1_, i2_, i3_, ⟨f1_, ce_, l_, i4_, i5_, i6_⟩, i7_, i8_⟩ := dl_ch hn_ _ _ _ 0 _ [] u_ r_ h2_ ok1_ p2_.2.1 p2_.2.2
    refine ⟨fun m_ hm_ => ⟨?_, i8_ m_ hm_⟩, i1_⟩
    by_cases z_ : m_ = 0
    · subst z_
      refine ⟨f1_, _, [], u_, ce_, l_, i4_, rfl, ?_, (i3_ 0 (Nat.le_refl _)).2, i5_, i6_⟩
      rw [(i3_ 0 (Nat.le_refl _)).1, show n_up (fun _ => 0) 0 q_ 0 = q_ from if_pos rfl]
      exact hb_
    · exact i7_ m_ (by omega) hm_
/-- the_ code of_ each module, in its_ order -/
def dC (r_ : pD) (m_ : Nat) : List Int := ((r_.2.2.2.2.drop (r_.2.2.2.2.length - r_.2.2.2.1 (m_ + 1))).take (r_.2.2.2.1 (m_ + 1) - r_.2.2.2.1 m_)).reverse
theorem dC_r {b_ : Nat → Int} {n_ m_ : Nat} {r_ : pD} (hn_ : n_ ≤ 1280) (h_ : mcc b_ n_ r_ m_) : ∃ f_ A_ c0_ u_ ce_ l_, mch b_ n_ r_.1 r_.2.1 m_ f_ A_ c0_ u_ ce_ ∧ A_.1 m_ = 0 ∧ ce_ = (dC r_ m_).reverse ++ c0_ ∧ bod b_ n_ (r_.2.1 m_) = .inr u_ ∧ r_.2.2.2.1 m_ = c0_.length ∧ r_.2.2.2.1 (m_ + 1) = c0_.length + (dC r_ m_).length ∧ r_.2.2.2.2 = l_ ++ ce_ := by
  obtain ⟨f_, A_, c0_, u_, ce_, l_, h1_, h2_, h3_, h4_, h5_, h6_⟩ := h_
  obtain ⟨k_, hk_⟩ := mch_cd hn_ _ _ _ _ _ h1_
  have e_ : dC r_ m_ = k_.reverse := by
    unfold dC
    rw [h4_, h5_, h6_, hk_]
    rw [show (l_ ++ (k_ ++ c0_)).length - (k_ ++ c0_).length = l_.length by simp, List.drop_left, show (k_ ++ c0_).length - c0_.length = k_.length by simp, List.take_left]
  refine ⟨f_, A_, c0_, u_, ce_, l_, h1_, h2_, by rw [e_, List.reverse_reverse]; exact hk_, h3_, h4_, ?_, h6_⟩
  rw [h5_, hk_, e_]
  simp
  omega
