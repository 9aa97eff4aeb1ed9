/-! literals are below the size of the graph; written by wip/p55/gen/vg -/

/-! literals are_ below the_ size of_ the_ graph -/
def lz (N_ : Nat) (z_ : Int) : Prop := 0 ≤ z_ ∧ z_ < 2 * (N_ : Int)
def lwl (N_ : Nat) (l_ : List Int) : Prop := ∀ z_, z_ ∈ l_ → lz N_ z_
def gwf (F_ : Nat) (G_ : pGr) : Prop := 1 ≤ F_ ∧ ∀ (k_ : Nat) (x_ y_ : Int), G_[k_]? = some (x_, y_) → 2 ≤ x_ ∧ x_ < y_ ∧ y_ < 2 * ((F_ + k_ : Nat) : Int)
theorem lz_up {N_ M_ : Nat} {z_ : Int} (h_ : N_ ≤ M_) (hz_ : lz N_ z_) : lz M_ z_ := by
  unfold lz at *
  omega
theorem lwl_up {N_ M_ : Nat} {l_ : List Int} (h_ : N_ ≤ M_) (hz_ : lwl N_ l_) : lwl M_ l_ := fun z_ q_ => lz_up h_ (hz_ z_ q_)
theorem lz_x {N_ : Nat} {z_ : Int} (h_ : N_ ≤ 1023) (hz_ : lz N_ z_) : lz N_ (i_xor z_ 1) := by
  unfold lz at *
  rw [i_x1 (by omega)]
  omega
def opw (F_ : Nat) (op_ : pGr → Int → Int → Int × pGr) : Prop := ∀ G_ a_ b_, gwf F_ G_ → lz (F_ + G_.length) a_ → lz (F_ + G_.length) b_ → F_ + (op_ G_ a_ b_).2.length ≤ 1023 → gwf F_ (op_ G_ a_ b_).2 ∧ lz (F_ + (op_ G_ a_ b_).2.length) (op_ G_ a_ b_).1
theorem a2_w {F_ : Nat} {G_ : pGr} {x_ y_ : Int} (hG_ : gwf F_ G_) (hx_ : lz (F_ + G_.length) x_) (hy_ : lz (F_ + G_.length) y_) (hxy_ : x_ ≤ y_) : gwf F_ (g_a2 F_ G_ x_ y_).2 ∧ lz (F_ + (g_a2 F_ G_ x_ y_).2.length) (g_a2 F_ G_ x_ y_).1 := by
  unfold g_a2
  split
  · exact ⟨hG_, Int.le_refl _, by have := hG_.1; push_cast; omega⟩
  · rename_i n0_
    split
    · exact ⟨hG_, hy_⟩
    · rename_i n1_
      split
      · rename_i k_ hk_
        have q_ := g_fd_b hk_
        exact ⟨hG_, by unfold lz; push_cast; omega⟩
      · refine ⟨⟨hG_.1, fun k_ u_ v_ e_ => ?_⟩, by unfold lz; simp only [List.length_append, List.length_cons, List.length_nil]; push_cast; omega⟩
        by_cases z_ : k_ < G_.length
        · rw [List.getElem?_append_left z_] at e_
          exact hG_.2 k_ u_ v_ e_
        · rw [List.getElem?_append_right (by omega)] at e_
          by_cases z2_ : k_ = G_.length
          · rw [z2_, Nat.sub_self, List.getElem?_cons_zero] at e_
            cases e_
            unfold lz at hx_ hy_
            have a1_ : x_ ≠ 0 := fun q_ => n0_ (Or.inl q_)
            have a2_ : x_ ≠ 1 := fun q_ => n1_ (Or.inl q_)
            have a3_ : x_ ≠ y_ := fun q_ => n1_ (Or.inr q_)
            rw [z2_]
            omega
          · rw [show k_ - G_.length = (k_ - G_.length - 1) + 1 by omega, List.getElem?_cons_succ] at e_
            simp at e_
theorem an_w {F_ : Nat} : opw F_ (g_an F_) := by
  intro G_ a_ b_ hG_ ha_ hb_ _
  unfold g_an
  split
  · exact a2_w hG_ ha_ hb_ (by omega)
  · exact a2_w hG_ hb_ ha_ (by omega)
theorem or_w {F_ : Nat} : opw F_ (g_or F_) := by
  intro G_ a_ b_ hG_ ha_ hb_ hl_
  have l1_ := (g_an_le (F_ := F_) (G_ := G_) (a_ := i_xor a_ 1) (b_ := i_xor b_ 1)).1
  have hl2_ : F_ + (g_an F_ G_ (i_xor a_ 1) (i_xor b_ 1)).2.length ≤ 1023 := hl_
  have e_ := an_w (F_ := F_) G_ (i_xor a_ 1) (i_xor b_ 1) hG_ (lz_x (by omega) ha_) (lz_x (by omega) hb_) hl2_
  exact ⟨e_.1, lz_x hl2_ e_.2⟩
theorem xo_w {F_ : Nat} : opw F_ (g_xo F_) := by
  intro G_ a_ b_ hG_ ha_ hb_ hl_
  have l1_ := (g_an_le (F_ := F_) (G_ := G_) (a_ := a_) (b_ := i_xor b_ 1)).1
  have l2_ := (g_an_le (F_ := F_) (G_ := (g_an F_ G_ a_ (i_xor b_ 1)).2) (a_ := i_xor a_ 1) (b_ := b_)).1
  have l3_ := g_or_le (F_ := F_) (G_ := (g_an F_ (g_an F_ G_ a_ (i_xor b_ 1)).2 (i_xor a_ 1) b_).2) (a_ := (g_an F_ G_ a_ (i_xor b_ 1)).1) (b_ := (g_an F_ (g_an F_ G_ a_ (i_xor b_ 1)).2 (i_xor a_ 1) b_).1)
  have hl2_ : F_ + (g_or F_ (g_an F_ (g_an F_ G_ a_ (i_xor b_ 1)).2 (i_xor a_ 1) b_).2 (g_an F_ G_ a_ (i_xor b_ 1)).1 (g_an F_ (g_an F_ G_ a_ (i_xor b_ 1)).2 (i_xor a_ 1) b_).1).2.length ≤ 1023 := hl_
  have e1_ := an_w (F_ := F_) G_ a_ (i_xor b_ 1) hG_ ha_ (lz_x (by omega) hb_) (by omega)
  have e2_ := an_w (F_ := F_) (g_an F_ G_ a_ (i_xor b_ 1)).2 (i_xor a_ 1) b_ e1_.1 (lz_up (by omega) (lz_x (by omega) ha_)) (lz_up (by omega) hb_) (by omega)
  exact or_w (F_ := F_) _ _ _ e2_.1 (lz_up (by omega) e1_.2) e2_.2 hl2_
theorem lwl_c {N_ : Nat} {a_ : Int} {l_ : List Int} : lwl N_ (a_ :: l_) ↔ lz N_ a_ ∧ lwl N_ l_ := by
  constructor
  · intro h_
    exact ⟨h_ a_ List.mem_cons_self, fun z_ hz_ => h_ z_ (List.mem_cons_of_mem _ hz_)⟩
  · rintro ⟨h1_, h2_⟩ z_ hz_
    rcases List.mem_cons.mp hz_ with q_ | q_
    · rw [q_]; exact h1_
    · exact h2_ z_ q_
theorem lwl_n {N_ : Nat} : lwl N_ [] := fun z_ hz_ => by simp at hz_
theorem z2_w {F_ : Nat} {op_ : pGr → Int → Int → Int × pGr} (h_ : opw F_ op_) (hle_ : ∀ G_ a_ b_, G_.length ≤ (op_ G_ a_ b_).2.length) : ∀ (x_ y_ : List Int) (G_ : pGr), gwf F_ G_ → lwl (F_ + G_.length) x_ → lwl (F_ + G_.length) y_ → F_ + (g_z2 op_ G_ x_ y_).2.length ≤ 1023 → gwf F_ (g_z2 op_ G_ x_ y_).2 ∧ lwl (F_ + (g_z2 op_ G_ x_ y_).2.length) (g_z2 op_ G_ x_ y_).1
  | a_ :: x_, b_ :: y_, G_, hG_, hx_, hy_, hl_ => by
    have l1_ := hle_ G_ a_ b_
    have l2_ := g_z2_le hle_ x_ y_ (op_ G_ a_ b_).2
    have hl2_ : F_ + (g_z2 op_ (op_ G_ a_ b_).2 x_ y_).2.length ≤ 1023 := hl_
    have e1_ := h_ G_ a_ b_ hG_ (lwl_c.mp hx_).1 (lwl_c.mp hy_).1 (by omega)
    have e2_ := z2_w h_ hle_ x_ y_ (op_ G_ a_ b_).2 e1_.1 (lwl_up (by omega) (lwl_c.mp hx_).2) (lwl_up (by omega) (lwl_c.mp hy_).2) hl2_
    exact ⟨e2_.1, lwl_c.mpr ⟨lz_up (Nat.add_le_add_left l2_ F_) e1_.2, e2_.2⟩⟩
  | [], y_, G_, hG_, _, _, _ => ⟨hG_, lwl_n⟩
  | a_ :: x_, [], G_, hG_, _, _, _ => ⟨hG_, lwl_n⟩
theorem s3_w {F_ : Nat} {G_ : pGr} {c_ a_ b_ : Int} (hG_ : gwf F_ G_) (hc_ : lz (F_ + G_.length) c_) (ha_ : lz (F_ + G_.length) a_) (hb_ : lz (F_ + G_.length) b_) (hl_ : F_ + (g_s3 F_ G_ c_ a_ b_).2.2.length ≤ 1023) : gwf F_ (g_s3 F_ G_ c_ a_ b_).2.2 ∧ lz (F_ + (g_s3 F_ G_ c_ a_ b_).2.2.length) (g_s3 F_ G_ c_ a_ b_).1 ∧ lz (F_ + (g_s3 F_ G_ c_ a_ b_).2.2.length) (g_s3 F_ G_ c_ a_ b_).2.1 := by
  obtain ⟨h_, hh_⟩ : ∃ h_, h_ = g_xo F_ G_ a_ b_ := ⟨_, rfl⟩
  obtain ⟨s_, hs_⟩ : ∃ s_, s_ = g_xo F_ h_.2 h_.1 c_ := ⟨_, rfl⟩
  obtain ⟨m_, hm_⟩ : ∃ m_, m_ = g_an F_ s_.2 a_ b_ := ⟨_, rfl⟩
  obtain ⟨t_, ht_⟩ : ∃ t_, t_ = g_an F_ m_.2 h_.1 c_ := ⟨_, rfl⟩
  obtain ⟨o_, ho_⟩ : ∃ o_, o_ = g_or F_ t_.2 m_.1 t_.1 := ⟨_, rfl⟩
  have e_ : g_s3 F_ G_ c_ a_ b_ = (s_.1, o_.1, o_.2) := by subst ho_ ht_ hm_ hs_ hh_; rfl
  rw [e_] at hl_ ⊢
  have hl_ : F_ + o_.2.length ≤ 1023 := hl_
  have l1_ : G_.length ≤ h_.2.length := by rw [hh_]; exact g_xo_le
  have l2_ : h_.2.length ≤ s_.2.length := by rw [hs_]; exact g_xo_le
  have l3_ : s_.2.length ≤ m_.2.length := by rw [hm_]; exact g_an_le.1
  have l4_ : m_.2.length ≤ t_.2.length := by rw [ht_]; exact g_an_le.1
  have l5_ : t_.2.length ≤ o_.2.length := by rw [ho_]; exact g_or_le
  have e1_ := xo_w (F_ := F_) G_ a_ b_ hG_ ha_ hb_ (by rw [← hh_]; omega)
  rw [← hh_] at e1_
  have e2_ := xo_w (F_ := F_) h_.2 h_.1 c_ e1_.1 e1_.2 (lz_up (by omega) hc_) (by rw [← hs_]; omega)
  rw [← hs_] at e2_
  have e3_ := an_w (F_ := F_) s_.2 a_ b_ e2_.1 (lz_up (by omega) ha_) (lz_up (by omega) hb_) (by rw [← hm_]; omega)
  rw [← hm_] at e3_
  have e4_ := an_w (F_ := F_) m_.2 h_.1 c_ e3_.1 (lz_up (by omega) e1_.2) (lz_up (by omega) hc_) (by rw [← ht_]; omega)
  rw [← ht_] at e4_
  have e5_ := or_w (F_ := F_) t_.2 m_.1 t_.1 e4_.1 (lz_up (by omega) e3_.2) e4_.2 (by rw [← ho_]; omega)
  rw [← ho_] at e5_
  exact ⟨e5_.1, lz_up (by show F_ + s_.2.length ≤ F_ + o_.2.length; omega) e2_.2, e5_.2⟩
theorem su_w {F_ : Nat} : ∀ (x_ y_ : List Int) (G_ : pGr) (c_ : Int), gwf F_ G_ → lz (F_ + G_.length) c_ → lwl (F_ + G_.length) x_ → lwl (F_ + G_.length) y_ → F_ + (g_su F_ G_ c_ x_ y_).2.length ≤ 1023 → gwf F_ (g_su F_ G_ c_ x_ y_).2 ∧ lwl (F_ + (g_su F_ G_ c_ x_ y_).2.length) (g_su F_ G_ c_ x_ y_).1
  | a_ :: x_, b_ :: y_, G_, c_, hG_, hc_, hx_, hy_, hl_ => by
    have l1_ := g_s3_le (F_ := F_) (G_ := G_) (c_ := c_) (a_ := a_) (b_ := b_)
    have l2_ := g_su_le (F_ := F_) x_ y_ (g_s3 F_ G_ c_ a_ b_).2.2 (g_s3 F_ G_ c_ a_ b_).2.1
    have hl2_ : F_ + (g_su F_ (g_s3 F_ G_ c_ a_ b_).2.2 (g_s3 F_ G_ c_ a_ b_).2.1 x_ y_).2.length ≤ 1023 := hl_
    have e1_ := s3_w hG_ hc_ (lwl_c.mp hx_).1 (lwl_c.mp hy_).1 (by omega)
    have e2_ := su_w x_ y_ (g_s3 F_ G_ c_ a_ b_).2.2 (g_s3 F_ G_ c_ a_ b_).2.1 e1_.1 e1_.2.2 (lwl_up (by omega) (lwl_c.mp hx_).2) (lwl_up (by omega) (lwl_c.mp hy_).2) hl2_
    exact ⟨e2_.1, lwl_c.mpr ⟨lz_up (Nat.add_le_add_left l2_ F_) e1_.2.1, e2_.2⟩⟩
  | [], y_, G_, c_, hG_, _, _, _, _ => ⟨hG_, lwl_n⟩
  | a_ :: x_, [], G_, c_, hG_, _, _, _, _ => ⟨hG_, lwl_n⟩
theorem e3_w {F_ : Nat} {G_ : pGr} {s_ a_ b_ : Int} (hG_ : gwf F_ G_) (hs_ : lz (F_ + G_.length) s_) (ha_ : lz (F_ + G_.length) a_) (hb_ : lz (F_ + G_.length) b_) (hl_ : F_ + (g_e3 F_ G_ s_ a_ b_).2.length ≤ 1023) : gwf F_ (g_e3 F_ G_ s_ a_ b_).2 ∧ lz (F_ + (g_e3 F_ G_ s_ a_ b_).2.length) (g_e3 F_ G_ s_ a_ b_).1 := by
  have l1_ := g_xo_le (F_ := F_) (G_ := G_) (a_ := a_) (b_ := b_)
  have l2_ := (g_an_le (F_ := F_) (G_ := (g_xo F_ G_ a_ b_).2) (a_ := s_) (b_ := i_xor (g_xo F_ G_ a_ b_).1 1)).1
  have hl2_ : F_ + (g_an F_ (g_xo F_ G_ a_ b_).2 s_ (i_xor (g_xo F_ G_ a_ b_).1 1)).2.length ≤ 1023 := hl_
  have e1_ := xo_w (F_ := F_) G_ a_ b_ hG_ ha_ hb_ (by omega)
  exact an_w (F_ := F_) _ _ _ e1_.1 (lz_up (by omega) hs_) (lz_x (by omega) e1_.2) hl2_
theorem s1_w {F_ : Nat} : ∀ (x_ y_ : List Int) (G_ : pGr) (s_ : Int), gwf F_ G_ → lz (F_ + G_.length) s_ → lwl (F_ + G_.length) x_ → lwl (F_ + G_.length) y_ → F_ + (g_s1 F_ G_ s_ x_ y_).2.length ≤ 1023 → gwf F_ (g_s1 F_ G_ s_ x_ y_).2 ∧ lz (F_ + (g_s1 F_ G_ s_ x_ y_).2.length) (g_s1 F_ G_ s_ x_ y_).1
  | a_ :: x_, b_ :: y_, G_, s_, hG_, hc_, hx_, hy_, hl_ => by
    have l1_ := g_e3_le (F_ := F_) (G_ := G_) (s_ := s_) (a_ := a_) (b_ := b_)
    have l2_ := g_s1_le (F_ := F_) x_ y_ (g_e3 F_ G_ s_ a_ b_).2 (g_e3 F_ G_ s_ a_ b_).1
    have hl2_ : F_ + (g_s1 F_ (g_e3 F_ G_ s_ a_ b_).2 (g_e3 F_ G_ s_ a_ b_).1 x_ y_).2.length ≤ 1023 := hl_
    have e1_ := e3_w hG_ hc_ (lwl_c.mp hx_).1 (lwl_c.mp hy_).1 (by omega)
    exact s1_w x_ y_ (g_e3 F_ G_ s_ a_ b_).2 (g_e3 F_ G_ s_ a_ b_).1 e1_.1 e1_.2 (lwl_up (by omega) (lwl_c.mp hx_).2) (lwl_up (by omega) (lwl_c.mp hy_).2) hl2_
  | [], y_, G_, s_, hG_, hs_, _, _, _ => ⟨hG_, hs_⟩
  | a_ :: x_, [], G_, s_, hG_, hs_, _, _, _ => ⟨hG_, hs_⟩
theorem sa_w {F_ : Nat} : ∀ (x_ y_ : List Int) (G_ : pGr), gwf F_ G_ → lwl (F_ + G_.length) x_ → lwl (F_ + G_.length) y_ → F_ + (g_sa F_ G_ x_ y_).2.length ≤ 1023 → gwf F_ (g_sa F_ G_ x_ y_).2 ∧ lwl (F_ + (g_sa F_ G_ x_ y_).2.length) (g_sa F_ G_ x_ y_).1
  | a_ :: x_, b_ :: y_, G_, hG_, hx_, hy_, hl_ => by
    have l1_ := g_xo_le (F_ := F_) (G_ := G_) (a_ := a_) (b_ := b_)
    have l2_ := g_s1_le (F_ := F_) x_ y_ (g_xo F_ G_ a_ b_).2 (i_xor (g_xo F_ G_ a_ b_).1 1)
    have hl2_ : F_ + (g_s1 F_ (g_xo F_ G_ a_ b_).2 (i_xor (g_xo F_ G_ a_ b_).1 1) x_ y_).2.length ≤ 1023 := hl_
    have e1_ := xo_w (F_ := F_) G_ a_ b_ hG_ (lwl_c.mp hx_).1 (lwl_c.mp hy_).1 (by omega)
    have e2_ := s1_w x_ y_ (g_xo F_ G_ a_ b_).2 (i_xor (g_xo F_ G_ a_ b_).1 1) e1_.1 (lz_x (by omega) e1_.2) (lwl_up (by omega) (lwl_c.mp hx_).2) (lwl_up (by omega) (lwl_c.mp hy_).2) hl2_
    exact ⟨e2_.1, lwl_c.mpr ⟨e2_.2, lwl_n⟩⟩
  | [], y_, G_, hG_, _, _, _ => ⟨hG_, lwl_n⟩
  | a_ :: x_, [], G_, hG_, _, _, _ => ⟨hG_, lwl_n⟩
theorem gc3_w {F_ : Nat} {G_ : pGr} {c_ a_ b_ : Int} (hG_ : gwf F_ G_) (hc_ : lz (F_ + G_.length) c_) (ha_ : lz (F_ + G_.length) a_) (hb_ : lz (F_ + G_.length) b_) (hl_ : F_ + (g_c3 F_ G_ c_ a_ b_).2.length ≤ 1023) : gwf F_ (g_c3 F_ G_ c_ a_ b_).2 ∧ lz (F_ + (g_c3 F_ G_ c_ a_ b_).2.length) (g_c3 F_ G_ c_ a_ b_).1 := by
  have l1_ := (g_an_le (F_ := F_) (G_ := G_) (a_ := c_) (b_ := a_)).1
  have l2_ := (g_an_le (F_ := F_) (G_ := (g_an F_ G_ c_ a_).2) (a_ := i_xor c_ 1) (b_ := b_)).1
  have l3_ := g_or_le (F_ := F_) (G_ := (g_an F_ (g_an F_ G_ c_ a_).2 (i_xor c_ 1) b_).2) (a_ := (g_an F_ G_ c_ a_).1) (b_ := (g_an F_ (g_an F_ G_ c_ a_).2 (i_xor c_ 1) b_).1)
  have hl2_ : F_ + (g_or F_ (g_an F_ (g_an F_ G_ c_ a_).2 (i_xor c_ 1) b_).2 (g_an F_ G_ c_ a_).1 (g_an F_ (g_an F_ G_ c_ a_).2 (i_xor c_ 1) b_).1).2.length ≤ 1023 := hl_
  have e1_ := an_w (F_ := F_) G_ c_ a_ hG_ hc_ ha_ (by omega)
  have e2_ := an_w (F_ := F_) (g_an F_ G_ c_ a_).2 (i_xor c_ 1) b_ e1_.1 (lz_up (by omega) (lz_x (by omega) hc_)) (lz_up (by omega) hb_) (by omega)
  exact or_w (F_ := F_) _ _ _ e2_.1 (lz_up (by omega) e1_.2) e2_.2 hl2_
theorem ch_w {F_ : Nat} {c_ : Int} : ∀ (x_ y_ : List Int) (G_ : pGr), gwf F_ G_ → lz (F_ + G_.length) c_ → lwl (F_ + G_.length) x_ → lwl (F_ + G_.length) y_ → F_ + (g_ch F_ c_ G_ x_ y_).2.length ≤ 1023 → gwf F_ (g_ch F_ c_ G_ x_ y_).2 ∧ lwl (F_ + (g_ch F_ c_ G_ x_ y_).2.length) (g_ch F_ c_ G_ x_ y_).1
  | a_ :: x_, b_ :: y_, G_, hG_, hc_, hx_, hy_, hl_ => by
    have l1_ := g_c3_le (F_ := F_) (G_ := G_) (c_ := c_) (a_ := a_) (b_ := b_)
    have l2_ := g_z2_le (fun G_ a_ b_ => g_c3_le (F_ := F_) (G_ := G_) (c_ := c_) (a_ := a_) (b_ := b_)) x_ y_ (g_c3 F_ G_ c_ a_ b_).2
    have hl2_ : F_ + (g_ch F_ c_ (g_c3 F_ G_ c_ a_ b_).2 x_ y_).2.length ≤ 1023 := hl_
    have l2_ : (g_c3 F_ G_ c_ a_ b_).2.length ≤ (g_ch F_ c_ (g_c3 F_ G_ c_ a_ b_).2 x_ y_).2.length := l2_
    have e1_ := gc3_w hG_ hc_ (lwl_c.mp hx_).1 (lwl_c.mp hy_).1 (by omega)
    have e2_ := ch_w (c_ := c_) x_ y_ (g_c3 F_ G_ c_ a_ b_).2 e1_.1 (lz_up (by omega) hc_) (lwl_up (by omega) (lwl_c.mp hx_).2) (lwl_up (by omega) (lwl_c.mp hy_).2) hl2_
    exact ⟨e2_.1, lwl_c.mpr ⟨lz_up (by show F_ + (g_c3 F_ G_ c_ a_ b_).2.length ≤ F_ + (g_ch F_ c_ (g_c3 F_ G_ c_ a_ b_).2 x_ y_).2.length; omega) e1_.2, e2_.2⟩⟩
  | [], y_, G_, hG_, _, _, _, _ => ⟨hG_, lwl_n⟩
  | a_ :: x_, [], G_, hG_, _, _, _, _ => ⟨hG_, lwl_n⟩
theorem bw_w {F_ : Nat} {k_ : Int} : opw F_ (g_bw F_ k_) := by
  unfold g_bw
  split
  · exact an_w
  · split
    · exact or_w
    · exact xo_w
theorem op_w {F_ : Nat} {k_ : Int} {x_ y_ : List Int} {G_ : pGr} (hG_ : gwf F_ G_) (hx_ : lwl (F_ + G_.length) x_) (hy_ : lwl (F_ + G_.length) y_) (hl_ : F_ + (g_op F_ k_ G_ x_ y_).2.length ≤ 1023) : gwf F_ (g_op F_ k_ G_ x_ y_).2 ∧ lwl (F_ + (g_op F_ k_ G_ x_ y_).2.length) (g_op F_ k_ G_ x_ y_).1 := by
  unfold g_op at hl_ ⊢
  split at hl_
  · rename_i q_
    rw [if_pos q_]
    exact su_w x_ y_ G_ 0 hG_ ⟨Int.le_refl _, by have := hG_.1; push_cast; omega⟩ hx_ hy_ hl_
  · rename_i q_
    rw [if_neg q_]
    split at hl_
    · rename_i q2_
      rw [if_pos q2_]
      exact sa_w x_ y_ G_ hG_ hx_ hy_ hl_
    · rename_i q2_
      rw [if_neg q2_]
      exact z2_w bw_w g_bw_le x_ y_ G_ hG_ hx_ hy_ hl_
def lwV (N_ : Nat) (V_ : gV) : Prop := ∀ v_, v_ ∈ V_ → lwl N_ v_
theorem lwV_up {N_ M_ : Nat} {V_ : gV} (h_ : N_ ≤ M_) (hz_ : lwV N_ V_) : lwV M_ V_ := fun z_ q_ => lwl_up h_ (hz_ z_ q_)
theorem lwV_c {N_ : Nat} {a_ : List Int} {l_ : gV} : lwV N_ (a_ :: l_) ↔ lwl N_ a_ ∧ lwV N_ l_ := by
  constructor
  · intro h_
    exact ⟨h_ a_ List.mem_cons_self, fun z_ hz_ => h_ z_ (List.mem_cons_of_mem _ hz_)⟩
  · rintro ⟨h1_, h2_⟩ z_ hz_
    rcases List.mem_cons.mp hz_ with q_ | q_
    · rw [q_]; exact h1_
    · exact h2_ z_ q_
theorem eop_w {F_ : Nat} {k_ : Int} {G_ : pGr} {V_ : gV} {r_ : pGr × gV} (h_ : e_op F_ k_ G_ V_ = some r_) (hG_ : gwf F_ G_) (hV_ : lwV (F_ + G_.length) V_) (hl_ : F_ + r_.1.length ≤ 1023) : gwf F_ r_.1 ∧ lwV (F_ + r_.1.length) r_.2 := by
  have le_ := e_op_le h_
  unfold e_op at h_
  split at h_
  · split at h_
    · rename_i x_ l_
      cases h_
      have q_ := lwV_c.mp hV_
      refine ⟨hG_, lwV_c.mpr ⟨fun z_ hz_ => ?_, q_.2⟩⟩
      obtain ⟨w_, hw_, e_⟩ := List.mem_map.mp hz_
      rw [← e_]
      exact lz_x hl_ (q_.1 w_ hw_)
    · cases h_
  · split at h_
    · split at h_
      · rename_i e_ a_ c_ l_
        split at h_
        · cases h_
          have q_ := lwV_c.mp hV_
          have q2_ := lwV_c.mp q_.2
          have q3_ := lwV_c.mp q2_.2
          have w_ := ch_w a_ e_ G_ hG_ (q3_.1 c_ (by simp)) q2_.1 q_.1 hl_
          exact ⟨w_.1, lwV_c.mpr ⟨w_.2, lwV_up (Nat.add_le_add_left le_ F_) q3_.2⟩⟩
        · cases h_
      · cases h_
    · split at h_
      · split at h_
        · rename_i y_ x_ l_
          split at h_
          · cases h_
            have q_ := lwV_c.mp hV_
            have q2_ := lwV_c.mp q_.2
            have w_ := op_w hG_ q2_.1 q_.1 hl_
            exact ⟨w_.1, lwV_c.mpr ⟨w_.2, lwV_up (Nat.add_le_add_left le_ F_) q2_.2⟩⟩
          · cases h_
        · cases h_
      · cases h_
theorem shr2 {N_ : Nat} (hN_ : 1 ≤ N_) {d_ k_ : Int} : lz N_ (i_shr d_ k_ % 2) := by
  unfold lz
  omega
theorem eld_w {N_ m_ a_ : Nat} {A_ : pA} {k_ d_ : Int} {E_ : gE} {O_ : gO} {V_ W_ : gV} (h_ : e_ld A_ m_ k_ a_ d_ E_ O_ V_ = some W_) (hN_ : 1 ≤ N_) (hE_ : ∀ s_, lwl N_ (E_ s_)) (hO_ : ∀ s_ o_, O_ s_ = some o_ → ∀ t_, lwl N_ (o_ t_)) (hV_ : lwV N_ V_) : lwV N_ W_ := by
  unfold e_ld at h_
  split at h_
  · split at h_
    · rename_i x_ l_
      split at h_
      · rename_i al_
        cases h_
        have q_ := lwV_c.mp hV_
        refine lwV_c.mpr ⟨lwl_c.mpr ⟨?_, lwl_n⟩, q_.2⟩
        have e9_ : x_.getD a_ 0 = x_[a_] := by simp [List.getD, List.getElem?_eq_getElem al_]
        rw [e9_]
        exact q_.1 _ (List.getElem_mem al_)
      · cases h_
    · cases h_
  · split at h_
    · cases h_
    · split at h_
      · split at h_
        · cases h_
          refine lwV_c.mpr ⟨fun z_ hz_ => ?_, hV_⟩
          obtain ⟨w_, hw_, e_⟩ := List.mem_map.mp hz_
          rw [← e_]
          exact shr2 hN_
        · cases h_
      · split at h_
        · split at h_
          · cases h_
            exact lwV_c.mpr ⟨hE_ _, hV_⟩
          · cases h_
        · split at h_
          · split at h_
            · rename_i o_ ho_
              split at h_
              · cases h_
                exact lwV_c.mpr ⟨hO_ _ o_ ho_ _, hV_⟩
              · cases h_
            · cases h_
          · cases h_
/-- all_ literals of_ a_ state -/
def lwS (F_ : Nat) (s_ : gS) : Prop := gwf F_ s_.1.1 ∧ (∀ a_, lwl (F_ + s_.1.1.length) (s_.2.1 a_)) ∧ (∀ a_ o_, s_.2.2.1 a_ = some o_ → ∀ t_, lwl (F_ + s_.1.1.length) (o_ t_)) ∧ lwV (F_ + s_.1.1.length) s_.2.2.2


/-! steps taken apart -/
theorem e_st15 {I_ m_ a_ : Nat} {A_ : pA} {d_ : Int} {s_ r_ : gS} (h_ : e_st I_ A_ m_ 15 a_ d_ s_ = some r_) : a_ < A_.1 m_ ∧ s_.1.2.2 ≤ 200 ∧ s_.2.1 a_ = [] ∧ s_.2.2.1 a_ = none ∧ r_ = ((s_.1.1, s_.1.2.1, s_.1.2.2 + 1), s_.2.1, up1 s_.2.2.1 a_ (some fun _ => []), s_.2.2.2) := by
  unfold e_st at h_
  split at h_
  · cases h_
  · rw [if_pos rfl] at h_
    split at h_
    · rename_i g1_ g_
      cases h_
      exact ⟨by omega, g_.1, g_.2.1, g_.2.2, rfl⟩
    · cases h_
theorem e_st13 {I_ m_ a_ : Nat} {A_ : pA} {d_ : Int} {s_ r_ : gS} (h_ : e_st I_ A_ m_ 13 a_ d_ s_ = some r_) : a_ < A_.1 m_ ∧ s_.2.2.1 a_ = none ∧ 1 ≤ A_.2.2.2.1 (40 * m_ + a_) ∧ A_.2.2.2.1 (40 * m_ + a_) ≤ 8 ∧ s_.1.2.1 + (A_.2.2.2.1 (40 * m_ + a_)).toNat ≤ 6 ∧ r_ = ((s_.1.1, s_.1.2.1 + (A_.2.2.2.1 (40 * m_ + a_)).toNat, s_.1.2.2), up1 s_.2.1 a_ (r_bt I_ s_.1.2.1 (A_.2.2.2.1 (40 * m_ + a_)).toNat), s_.2.2.1, s_.2.2.2) := by
  unfold e_st at h_
  split at h_
  · cases h_
  · rw [if_neg (by decide), if_pos rfl] at h_
    split at h_
    · rename_i g1_ g_
      cases h_
      exact ⟨by omega, g_.1, g_.2.1, g_.2.2.1, g_.2.2.2, rfl⟩
    · cases h_
theorem e_stp {I_ m_ a_ : Nat} {A_ : pA} {k_ d_ : Int} {s_ r_ : gS} (h_ : e_st I_ A_ m_ k_ a_ d_ s_ = some r_) (h15_ : k_ ≠ 15) (h13_ : k_ ≠ 13) : a_ < A_.1 m_ ∧ ∃ x_ l_, s_.2.2.2 = x_ :: l_ ∧ ((k_ = 12 ∧ s_.2.2.1 a_ = none ∧ x_.length ≤ 8 ∧ r_ = (s_.1, up1 s_.2.1 a_ x_, s_.2.2.1, l_)) ∨ (k_ = 14 ∧ ∃ z_ y_, s_.2.1 a_ = z_ :: y_ ∧ 2 * (1 + (I_ : Int)) ≤ z_ ∧ z_ / 2 - 1 - I_ + x_.length ≤ 6 ∧ r_ = (s_.1, s_.2.1, s_.2.2.1, l_)) ∨ (k_ = 16 ∧ ∃ o_, s_.2.2.1 a_ = some o_ ∧ (0 ≤ d_ ∧ d_ < 40) ∧ x_.length ≤ 8 ∧ r_ = (s_.1, s_.2.1, up1 s_.2.2.1 a_ (some (up1 o_ d_.toNat x_)), l_))) := by
  unfold e_st at h_
  split at h_
  · cases h_
  · rename_i g0_
    try rw [if_neg h15_, if_neg h13_] at h_
    refine ⟨by omega, ?_⟩
    split at h_
    · cases h_
    · rename_i x_ l_ hs_
      refine ⟨x_, l_, hs_, ?_⟩
      split at h_
      · rename_i k12_
        split at h_
        · rename_i g_
          cases h_
          exact Or.inl ⟨k12_, g_.1, g_.2, rfl⟩
        · cases h_
      · split at h_
        · rename_i k14_
          split at h_
          · cases h_
          · rename_i z_ y_ hz_
            split at h_
            · rename_i g_
              cases h_
              exact Or.inr (Or.inl ⟨k14_, z_, y_, hz_, g_.1, g_.2, rfl⟩)
            · cases h_
        · split at h_
          · rename_i k16_
            split at h_
            · rename_i o_ ho_
              split at h_
              · rename_i g_
                cases h_
                exact Or.inr (Or.inr ⟨k16_, o_, ho_, ⟨g_.1, g_.2.1⟩, g_.2.2, rfl⟩)
              · cases h_
            · cases h_
          · cases h_
theorem ew17 {F_ I_ : Nat} {A_ : pA} {X_ : Nat → gQ → gE → Option (gQ × gE)} {m_ : Nat} {w_ : Int} {s_ r_ : gS} (h_ : ew F_ I_ A_ X_ m_ w_ s_ = some r_) (h17_ : w_ % 32 = 17) : ∃ o_ z_, s_.2.2.1 (w_ / 32 % 64).toNat = some o_ ∧ s_.2.2.2 = [] ∧ (w_ / 32 % 64).toNat < A_.1 m_ ∧ 0 ≤ w_ / 2048 ∧ w_ / 2048 < m_ ∧ X_ (w_ / 2048).toNat s_.1 o_ = some z_ ∧ r_ = (z_.1, s_.2.1, up1 s_.2.2.1 (w_ / 32 % 64).toNat (some z_.2), []) := by
  unfold ew at h_
  rw [if_pos h17_] at h_
  split at h_
  · rename_i o_ ho_ hv_
    split at h_
    · rename_i g_
      split at h_
      · rename_i z_ hz_
        cases h_
        exact ⟨o_, z_, ho_, hv_, g_.1, g_.2.1, g_.2.2, hz_, rfl⟩
      · cases h_
    · cases h_
  · cases h_
theorem ew_o {F_ I_ : Nat} {A_ : pA} {X_ : Nat → gQ → gE → Option (gQ × gE)} {m_ : Nat} {w_ : Int} {s_ r_ : gS} (h_ : ew F_ I_ A_ X_ m_ w_ s_ = some r_) (h17_ : w_ % 32 ≠ 17) (h7_ : w_ % 32 ≤ 7) : ∃ z_, e_op F_ (w_ % 32) s_.1.1 s_.2.2.2 = some z_ ∧ r_ = ((z_.1, s_.1.2), s_.2.1, s_.2.2.1, z_.2) := by
  unfold ew at h_
  rw [if_neg h17_, if_pos h7_] at h_
  split at h_
  · rename_i z_ hz_
    cases h_
    exact ⟨z_, hz_, rfl⟩
  · cases h_
theorem ew_l {F_ I_ : Nat} {A_ : pA} {X_ : Nat → gQ → gE → Option (gQ × gE)} {m_ : Nat} {w_ : Int} {s_ r_ : gS} (h_ : ew F_ I_ A_ X_ m_ w_ s_ = some r_) (h17_ : w_ % 32 ≠ 17) (h7_ : ¬ w_ % 32 ≤ 7) (h11_ : w_ % 32 ≤ 11) : ∃ V_, e_ld A_ m_ (w_ % 32) (w_ / 32 % 64).toNat (w_ / 2048) s_.2.1 s_.2.2.1 s_.2.2.2 = some V_ ∧ r_ = (s_.1, s_.2.1, s_.2.2.1, V_) := by
  unfold ew at h_
  rw [if_neg h17_, if_neg h7_, if_pos h11_] at h_
  split at h_
  · rename_i z_ hz_
    cases h_
    exact ⟨z_, hz_, rfl⟩
  · cases h_
theorem ew_s {F_ I_ : Nat} {A_ : pA} {X_ : Nat → gQ → gE → Option (gQ × gE)} {m_ : Nat} {w_ : Int} {s_ r_ : gS} (h_ : ew F_ I_ A_ X_ m_ w_ s_ = some r_) (h17_ : w_ % 32 ≠ 17) (h11_ : ¬ w_ % 32 ≤ 11) : e_st I_ A_ m_ (w_ % 32) (w_ / 32 % 64).toNat (w_ / 2048) s_ = some r_ := by
  unfold ew at h_
  rw [if_neg h17_, if_neg (by omega), if_neg h11_] at h_
  exact h_
theorem e_st_k {I_ m_ a_ : Nat} {A_ : pA} {k_ d_ : Int} {s_ r_ : gS} (h_ : e_st I_ A_ m_ k_ a_ d_ s_ = some r_) : 12 ≤ k_ ∧ k_ ≤ 16 := by
  by_cases g1_ : k_ = 15
  · omega
  · by_cases g2_ : k_ = 13
    · omega
    · obtain ⟨_, x_, l_, _, q_⟩ := e_stp h_ g1_ g2_
      rcases q_ with q_ | q_ | q_
      · have := q_.1; omega
      · have := q_.1; omega
      · have := q_.1; omega
theorem up1_w {N_ a_ : Nat} {E_ : gE} {v_ : List Int} (hE_ : ∀ s_, lwl N_ (E_ s_)) (hv_ : lwl N_ v_) : ∀ s_, lwl N_ (up1 E_ a_ v_ s_) := by
  intro s_
  unfold up1
  split
  · exact hv_
  · exact hE_ s_
theorem rbt_w {F_ I_ R_ wd_ : Nat} (h_ : 1 + I_ + R_ + wd_ ≤ F_) {N_ : Nat} (hN_ : F_ ≤ N_) : lwl N_ (r_bt I_ R_ wd_) := by
  intro z_ hz_
  obtain ⟨w_, hw_, e_⟩ := List.mem_map.mp hz_
  have := List.mem_range.mp hw_
  rw [← e_]
  unfold lz
  push_cast
  omega
theorem est_w {F_ I_ m_ a_ : Nat} {A_ : pA} {k_ d_ : Int} {s_ r_ : gS} (h_ : e_st I_ A_ m_ k_ a_ d_ s_ = some r_) (hR_ : 1 + I_ + r_.1.2.1 ≤ F_) (hs_ : lwS F_ s_) : lwS F_ r_ := by
  obtain ⟨h1_, h2_, h3_, h4_⟩ := hs_
  by_cases k15_ : k_ = 15
  · subst k15_
    obtain ⟨-, -, -, -, e_⟩ := e_st15 h_
    subst e_
    refine ⟨h1_, h2_, fun b_ o_ ho_ t_ => ?_, h4_⟩
    have ho_ : (if b_ = a_ then some (fun _ => []) else s_.2.2.1 b_) = some o_ := ho_
    split at ho_
    · cases ho_
      exact lwl_n
    · exact h3_ b_ o_ ho_ t_
  · by_cases k13_ : k_ = 13
    · subst k13_
      obtain ⟨-, -, -, -, -, e_⟩ := e_st13 h_
      subst e_
      have hR2_ : 1 + I_ + (s_.1.2.1 + (A_.2.2.2.1 (40 * m_ + a_)).toNat) ≤ F_ := hR_
      exact ⟨h1_, up1_w h2_ (rbt_w (F_ := F_) (by omega) (Nat.le_add_right _ _)), h3_, h4_⟩
    · obtain ⟨-, x_, l_, e_, q_⟩ := e_stp h_ k15_ k13_
      rw [e_] at h4_
      have v_ := lwV_c.mp h4_
      rcases q_ with ⟨-, -, -, q_⟩ | ⟨-, z_, y_, -, -, -, q_⟩ | ⟨-, o_, ho_, -, -, q_⟩
      · subst q_
        exact ⟨h1_, up1_w h2_ v_.1, h3_, v_.2⟩
      · subst q_
        exact ⟨h1_, h2_, h3_, v_.2⟩
      · subst q_
        refine ⟨h1_, h2_, fun b_ o1_ ho1_ t_ => ?_, v_.2⟩
        have ho1_ : (if b_ = a_ then some (up1 o_ d_.toNat x_) else s_.2.2.1 b_) = some o1_ := ho1_
        split at ho1_
        · cases ho1_
          exact up1_w (fun s_ => h3_ a_ o_ ho_ s_) v_.1 t_
        · exact h3_ b_ o1_ ho1_ t_
theorem est_R {I_ m_ a_ : Nat} {A_ : pA} {k_ d_ : Int} {s_ r_ : gS} (h_ : e_st I_ A_ m_ k_ a_ d_ s_ = some r_) : s_.1.2.1 ≤ r_.1.2.1 := by
  by_cases k15_ : k_ = 15
  · subst k15_
    obtain ⟨-, -, -, -, e_⟩ := e_st15 h_
    subst e_
    exact Nat.le_refl _
  · by_cases k13_ : k_ = 13
    · subst k13_
      obtain ⟨-, -, -, -, -, e_⟩ := e_st13 h_
      subst e_
      exact Nat.le_add_right _ _
    · obtain ⟨-, x_, l_, e_, q_⟩ := e_stp h_ k15_ k13_
      rcases q_ with ⟨-, -, -, q_⟩ | ⟨-, z_, y_, -, -, -, q_⟩ | ⟨-, o_, ho_, -, -, q_⟩
      · subst q_; exact Nat.le_refl _
      · subst q_; exact Nat.le_refl _
      · subst q_; exact Nat.le_refl _
/-- what is_ asked of_ the_ modules used -/
def lwX (F_ I_ : Nat) (X_ : Nat → gQ → gE → Option (gQ × gE)) : Prop := ∀ d_ q_ e_ z_, X_ d_ q_ e_ = some z_ → q_.1.length ≤ z_.1.1.length ∧ q_.2.1 ≤ z_.1.2.1 ∧ (F_ + z_.1.1.length ≤ 1023 → 1 + I_ + z_.1.2.1 ≤ F_ → gwf F_ q_.1 → (∀ a_, lwl (F_ + q_.1.length) (e_ a_)) → gwf F_ z_.1.1 ∧ ∀ a_, lwl (F_ + z_.1.1.length) (z_.2 a_))
theorem ew_R {F_ I_ : Nat} {A_ : pA} {X_ : Nat → gQ → gE → Option (gQ × gE)} {m_ : Nat} {w_ : Int} {s_ r_ : gS} (hX_ : lwX F_ I_ X_) (h_ : ew F_ I_ A_ X_ m_ w_ s_ = some r_) : s_.1.2.1 ≤ r_.1.2.1 := by
  by_cases c17_ : w_ % 32 = 17
  · obtain ⟨o_, z_, -, -, -, -, -, q_, e_⟩ := ew17 h_ c17_
    subst e_
    exact (hX_ _ _ _ _ q_).2.1
  · by_cases c7_ : w_ % 32 ≤ 7
    · obtain ⟨z_, -, e_⟩ := ew_o h_ c17_ c7_
      subst e_
      exact Nat.le_refl _
    · by_cases c11_ : w_ % 32 ≤ 11
      · obtain ⟨z_, -, e_⟩ := ew_l h_ c17_ c7_ c11_
        subst e_
        exact Nat.le_refl _
      · exact est_R (ew_s h_ c17_ c11_)
theorem ew_w {F_ I_ : Nat} {A_ : pA} {X_ : Nat → gQ → gE → Option (gQ × gE)} {m_ : Nat} {w_ : Int} {s_ r_ : gS} (hX_ : lwX F_ I_ X_) (h_ : ew F_ I_ A_ X_ m_ w_ s_ = some r_) (hl_ : F_ + r_.1.1.length ≤ 1023) (hR_ : 1 + I_ + r_.1.2.1 ≤ F_) (hs_ : lwS F_ s_) : lwS F_ r_ := by
  obtain ⟨h1_, h2_, h3_, h4_⟩ := id hs_
  by_cases c17_ : w_ % 32 = 17
  · obtain ⟨o_, z_, ho_, -, -, -, -, q_, e_⟩ := ew17 h_ c17_
    subst e_
    have x_ := hX_ _ _ _ _ q_
    have y_ := x_.2.2 hl_ hR_ h1_ (fun t_ => h3_ _ o_ ho_ t_)
    have le_ : F_ + s_.1.1.length ≤ F_ + z_.1.1.length := by have := x_.1; omega
    refine ⟨y_.1, fun t_ => lwl_up le_ (h2_ t_), fun b_ o1_ ho1_ t_ => ?_, fun v_ hv_ => by simp at hv_⟩
    have ho1_ : (if b_ = (w_ / 32 % 64).toNat then some z_.2 else s_.2.2.1 b_) = some o1_ := ho1_
    split at ho1_
    · cases ho1_
      exact y_.2 t_
    · exact lwl_up le_ (h3_ b_ o1_ ho1_ t_)
  · by_cases c7_ : w_ % 32 ≤ 7
    · obtain ⟨z_, q_, e_⟩ := ew_o h_ c17_ c7_
      subst e_
      have le_ : F_ + s_.1.1.length ≤ F_ + z_.1.length := by have := e_op_le q_; omega
      have y_ := eop_w q_ h1_ h4_ hl_
      exact ⟨y_.1, fun t_ => lwl_up le_ (h2_ t_), fun b_ o1_ ho1_ t_ => lwl_up le_ (h3_ b_ o1_ ho1_ t_), y_.2⟩
    · by_cases c11_ : w_ % 32 ≤ 11
      · obtain ⟨z_, q_, e_⟩ := ew_l h_ c17_ c7_ c11_
        subst e_
        exact ⟨h1_, h2_, h3_, eld_w q_ (by have := h1_.1; omega) h2_ h3_ h4_⟩
      · exact est_w (ew_s h_ c17_ c11_) hR_ hs_
theorem ec_R {F_ I_ : Nat} {A_ : pA} {X_ : Nat → gQ → gE → Option (gQ × gE)} {m_ : Nat} (hX_ : lwX F_ I_ X_) : ∀ (c_ : List Int) (s_ r_ : gS), ec F_ I_ A_ X_ m_ c_ s_ = some r_ → s_.1.2.1 ≤ r_.1.2.1
  | [], s_, r_, h_ => by cases h_; exact Nat.le_refl _
  | w_ :: c_, s_, r_, h_ => by
    rw [ec] at h_
    split at h_
    · rename_i e_
      exact Nat.le_trans (ew_R hX_ e_) (ec_R hX_ c_ _ _ h_)
    · cases h_
theorem ec_w {F_ I_ : Nat} {A_ : pA} {X_ : Nat → gQ → gE → Option (gQ × gE)} {m_ : Nat} (hX_ : lwX F_ I_ X_) : ∀ (c_ : List Int) (s_ r_ : gS), ec F_ I_ A_ X_ m_ c_ s_ = some r_ → F_ + r_.1.1.length ≤ 1023 → 1 + I_ + r_.1.2.1 ≤ F_ → lwS F_ s_ → lwS F_ r_
  | [], s_, r_, h_, _, _, hs_ => by cases h_; exact hs_
  | w_ :: c_, s_, r_, h_, hl_, hR_, hs_ => by
    rw [ec] at h_
    split at h_
    · rename_i s1_ e_
      have l1_ := ec_le (fun d_ q_ e_ z_ hz_ => (hX_ d_ q_ e_ z_ hz_).1) c_ _ _ h_
      have l2_ := ec_R hX_ c_ _ _ h_
      exact ec_w hX_ c_ _ _ h_ hl_ hR_ (ew_w hX_ e_ (by omega) (by omega) hs_)
    · cases h_
theorem exm_w {F_ I_ : Nat} {A_ : pA} {C_ : Nat → List Int} : ∀ f_ : Nat, lwX F_ I_ (exm F_ I_ A_ C_ f_)
  | 0, _, _, _, _, h_ => by cases h_
  | f_ + 1, d_, q_, e_, z_, h_ => by
    have ih_ := exm_w (F_ := F_) (I_ := I_) (A_ := A_) (C_ := C_) f_
    have le_ := exm_le _ _ _ _ _ h_
    rw [exm] at h_
    split at h_
    · rename_i s_ e1_
      split at h_
      · cases h_
        refine ⟨le_, ec_R ih_ _ _ _ e1_, fun hl_ hR_ hG_ he_ => ?_⟩
        have w_ := ec_w ih_ _ _ _ e1_ hl_ hR_ ⟨hG_, he_, (fun a_ o_ ho_ => by cases ho_), (fun v_ hv_ => by cases hv_)⟩
        exact ⟨w_.1, w_.2.1⟩
      · cases h_
    · cases h_

