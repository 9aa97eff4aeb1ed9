/-! 99.ztZO -/
section
/-! cuts: no more than 47; written by wip/p55/gen/vg -/

/-! no_ more than 47 cuts -/
section CT_
variable {inn_ : Nat → Bool} {cl_ ch_ : Nat → Nat} {tl_ th : Nat → Bool} {n_ P_ : Nat} {T_ U_ : Nat → Prop} {v_ : Nat → Nat → Bool} {E_ : List Nat}
theorem frc_na (ht_ : trh inn_ cl_ ch_ n_ T_) (hk_ : frk inn_ cl_ ch_ n_ E_) {z_ : Nat} (h_ : z_ ∈ frc cl_ ch_ n_ E_) : ¬ z_ ∈ n_ :: E_ := by
  obtain ⟨⟨p_, hp_, hs_⟩, nz⟩ := ((frc_a ht_ E_ hk_).2 z_).mp h_
  have s_ := fra_s ht_ hk_ (List.mem_cons.mpr hp_) hs_
  intro u_
  rcases List.mem_cons.mp u_ with e_ | e_
  · exact s_.2.1 e_
  · exact nz e_
theorem lv_1 (ht_ : trh inn_ cl_ ch_ n_ T_) (hk_ : frk inn_ cl_ ch_ n_ E_) {w_ : Nat} (hw_ : frg inn_ cl_ ch_ (n_ :: E_) n_ = [w_]) (h3_ : (frc cl_ ch_ n_ E_).length ≤ 3) : ∃ a_ b_, onh inn_ cl_ ch_ n_ a_ b_ w_ E_ := by
  have mw_ : w_ ∈ frg inn_ cl_ ch_ (n_ :: E_) n_ := by
    rw [hw_]
    exact List.mem_singleton.mpr rfl
  obtain ⟨cw, iw_⟩ := (frg_m ht_ hk_).mp mw_
  have nw := frc_na ht_ hk_ cw
  have lf_ := fil_i cw
  obtain ⟨L_, hL_⟩ : ∃ L_, (frc cl_ ch_ n_ E_).filter (fun y_ => y_ != w_) = L_ := ⟨_, rfl⟩
  rw [hL_] at lf_
  have mem_ : ∀ z_, z_ ∈ frc cl_ ch_ n_ E_ → ¬ inn_ z_ = true → z_ ∈ L_ := by
    intro z_ hz_ i_
    rw [← hL_]
    exact List.mem_filter.mpr ⟨hz_, bne_iff_ne.mpr (fun e_ => i_ (by rw [e_]; exact iw_))⟩
  have out_ : ∀ z_, z_ ∈ L_ → ¬ z_ ∈ n_ :: E_ := by
    intro z_ hz_
    rw [← hL_] at hz_
    exact frc_na ht_ hk_ (List.mem_filter.mp hz_).1
  rcases L_ with _ | ⟨a_, _ | ⟨b_, _ | ⟨c_, l_⟩⟩⟩
  · exact ⟨w_, w_, hw_, fun z_ hz_ i_ => absurd (mem_ z_ hz_ i_) List.not_mem_nil, nw, nw⟩
  · refine ⟨a_, a_, hw_, fun z_ hz_ i_ => Or.inl (List.mem_singleton.mp (mem_ z_ hz_ i_)), out_ a_ List.mem_cons_self, out_ a_ List.mem_cons_self⟩
  · refine ⟨a_, b_, hw_, fun z_ hz_ i_ => ?_, out_ a_ List.mem_cons_self, out_ b_ (List.mem_cons_of_mem _ List.mem_cons_self)⟩
    rcases List.mem_cons.mp (mem_ z_ hz_ i_) with e_ | e_
    · exact Or.inl e_
    · exact Or.inr (List.mem_singleton.mp e_)
  · exfalso
    have lf_ : l_.length + 1 + 1 + 1 < (frc cl_ ch_ n_ E_).length := lf_
    omega
theorem lv_2 (ht_ : trh inn_ cl_ ch_ n_ T_) (hk_ : frk inn_ cl_ ch_ n_ E_) (hw_ : (frg inn_ cl_ ch_ (n_ :: E_) n_).length = 2) (h3_ : (frc cl_ ch_ n_ E_).length ≤ 3) : ∃ a_, ∀ z_, z_ ∈ frc cl_ ch_ n_ E_ → ¬ inn_ z_ = true → z_ = a_ := by
  have nd_ := frg_nd ht_ hk_ (n_ + 1) n_ (Nat.lt_succ_self _)
  obtain ⟨g_, hg_⟩ : ∃ g_, frg inn_ cl_ ch_ (n_ :: E_) n_ = g_ := ⟨_, rfl⟩
  have fm_ : ∀ z_, z_ ∈ g_ ↔ z_ ∈ frc cl_ ch_ n_ E_ ∧ inn_ z_ = true := fun z_ => by
    rw [← hg_]
    exact frg_m ht_ hk_
  rw [hg_] at hw_ nd_
  rcases g_ with _ | ⟨w1_, _ | ⟨w2_, _ | ⟨w3_, l_⟩⟩⟩
  · exact absurd hw_ (by decide)
  · have hw_ : 1 = 2 := hw_
    omega
  · have m1_ := (fm_ w1_).mp List.mem_cons_self
    have m2_ := (fm_ w2_).mp (List.mem_cons_of_mem _ List.mem_cons_self)
    have ne : w2_ ≠ w1_ := fun e_ => nd_.1 (by
      rw [e_]
      exact List.mem_cons_self)
    have l1_ := fil_i m1_.1
    have c2_ : w2_ ∈ (frc cl_ ch_ n_ E_).filter (fun y_ => y_ != w1_) := List.mem_filter.mpr ⟨m2_.1, bne_iff_ne.mpr ne⟩
    have l2_ := fil_i c2_
    obtain ⟨L_, hL_⟩ : ∃ L_, ((frc cl_ ch_ n_ E_).filter (fun y_ => y_ != w1_)).filter (fun y_ => y_ != w2_) = L_ := ⟨_, rfl⟩
    rw [hL_] at l2_
    have mem_ : ∀ z_, z_ ∈ frc cl_ ch_ n_ E_ → ¬ inn_ z_ = true → z_ ∈ L_ := by
      intro z_ hz_ i_
      rw [← hL_]
      exact List.mem_filter.mpr ⟨List.mem_filter.mpr ⟨hz_, bne_iff_ne.mpr (fun e_ => i_ (by rw [e_]; exact m1_.2))⟩, bne_iff_ne.mpr (fun e_ => i_ (by rw [e_]; exact m2_.2))⟩
    rcases L_ with _ | ⟨a_, _ | ⟨b_, l_⟩⟩
    · exact ⟨0, fun z_ hz_ i_ => absurd (mem_ z_ hz_ i_) List.not_mem_nil⟩
    · exact ⟨a_, fun z_ hz_ i_ => List.mem_singleton.mp (mem_ z_ hz_ i_)⟩
    · exfalso
      have l2_ : l_.length + 1 + 1 < ((frc cl_ ch_ n_ E_).filter (fun y_ => y_ != w1_)).length := l2_
      omega
  · have hw_ : l_.length + 1 + 1 + 1 = 2 := hw_
    omega
theorem on_o1 (ht_ : trh inn_ cl_ ch_ n_ T_) {E0_ : List Nat} (hk0_ : frk inn_ cl_ ch_ n_ E0_) {w0_ : Nat} (h0_ : frg inn_ cl_ ch_ (n_ :: E0_) n_ = [w0_]) (hk_ : frk inn_ cl_ ch_ n_ E_) (ih_ : ∀ y_, y_ ∈ E_ → y_ ∈ n_ :: E0_ ∨ y_ ≤ w0_) {z_ : Nat} (hz_ : z_ ∈ frc cl_ ch_ n_ E_) (i_ : inn_ z_ = true) : z_ ∈ n_ :: E0_ ∨ z_ ≤ w0_ := by
  obtain ⟨⟨p_, hp_, hs_⟩, nz⟩ := ((frc_a ht_ E_ hk_).2 z_).mp hz_
  have s_ := fra_s ht_ hk_ (List.mem_cons.mpr hp_) hs_
  have hp0_ : p_ ∈ n_ :: E0_ ∨ p_ ≤ w0_ := by
    rcases hp_ with e_ | e_
    · rw [e_]
      exact Or.inl List.mem_cons_self
    · exact ih_ p_ e_
  rcases hp0_ with e_ | e_
  · have s0_ := fra_s ht_ hk0_ e_ hs_
    rcases s0_.2.2 with u_ | u_
    · exact Or.inl u_
    · have m_ := (frg_m ht_ hk0_).mpr ⟨u_.1, i_⟩
      rw [h0_] at m_
      exact Or.inr (Nat.le_of_eq (List.mem_singleton.mp m_))
  · exact Or.inr (by omega)
theorem on_o (ht_ : trh inn_ cl_ ch_ n_ T_) {E0_ : List Nat} (hk0_ : frk inn_ cl_ ch_ n_ E0_) {w0_ : Nat} (h0_ : frg inn_ cl_ ch_ (n_ :: E0_) n_ = [w0_]) : ∀ E_, frk inn_ cl_ ch_ n_ E_ → ∀ y_, y_ ∈ E_ → y_ ∈ n_ :: E0_ ∨ y_ ≤ w0_
  | [], _, y_, h_ => absurd h_ List.not_mem_nil
  | x_ :: E_, hk_, y_, h_ => by
    have ih_ := on_o ht_ hk0_ h0_ E_ hk_.1
    rcases List.mem_cons.mp h_ with e_ | e_
    · rw [e_]
      exact on_o1 ht_ hk0_ h0_ hk_.1 ih_ hk_.2.1 hk_.2.2
    · exact ih_ y_ e_
/-- a_ number for_ each cut_ with one_ inner node -/
theorem one_k (ht_ : trh inn_ cl_ ch_ n_ T_) (hv_ : svh cl_ ch_ tl_ th T_ U_ v_ P_) : ∃ g_ : Nat → Nat, (∀ w_, g_ w_ < 35) ∧ ∀ E_ w_ F_ x_, frk inn_ cl_ ch_ n_ E_ → (frc cl_ ch_ n_ E_).length ≤ 3 → frg inn_ cl_ ch_ (n_ :: E_) n_ = [w_] → frk inn_ cl_ ch_ n_ F_ → (frc cl_ ch_ n_ F_).length ≤ 3 → frg inn_ cl_ ch_ (n_ :: F_) n_ = [x_] → g_ w_ = g_ x_ → w_ = x_ := by
  by_cases c_ : ∃ w_ E_, frk inn_ cl_ ch_ n_ E_ ∧ (frc cl_ ch_ n_ E_).length ≤ 3 ∧ frg inn_ cl_ ch_ (n_ :: E_) n_ = [w_]
  · obtain ⟨w'_, h'_⟩ := c_
    obtain ⟨w0_, ⟨E0_, hk0_, hl0_, h0_⟩, mn⟩ := nat_min (p_ := fun w_ => ∃ E_, frk inn_ cl_ ch_ n_ E_ ∧ (frc cl_ ch_ n_ E_).length ≤ 3 ∧ frg inn_ cl_ ch_ (n_ :: E_) n_ = [w_]) (w'_ + 1) w'_ (Nat.lt_succ_self _) h'_
    obtain ⟨a_, b_, ho_⟩ := lv_1 ht_ hk0_ h0_ hl0_
    obtain ⟨p_, hp_, pp_⟩ := on_p (tl_ := tl_) (th := th) ht_ hk0_ ho_
    have ow_ := on_w ht_ hk0_ ho_
    have dm_ : ∀ E_ w_, frk inn_ cl_ ch_ n_ E_ → (frc cl_ ch_ n_ E_).length ≤ 3 → frg inn_ cl_ ch_ (n_ :: E_) n_ = [w_] → w_ ∈ n_ :: E0_ ∨ w_ = w0_ := by
      intro E_ w_ hk_ hl_ h_
      have m_ : w_ ∈ frg inn_ cl_ ch_ (n_ :: E_) n_ := by
        rw [h_]
        exact List.mem_singleton.mpr rfl
      obtain ⟨cw, iw_⟩ := (frg_m ht_ hk_).mp m_
      rcases on_o1 ht_ hk0_ h0_ hk_ (on_o ht_ hk0_ h0_ E_ hk_) cw iw_ with u_ | u_
      · exact Or.inl u_
      · have := mn w_ ⟨E_, hk_, hl_, h_⟩
        exact Or.inr (by omega)
    have uu_ : ∀ x_, x_ ∈ n_ :: E0_ ∨ x_ = w0_ → U_ x_ := by
      intro x_ hx_
      rcases hx_ with e_ | e_
      · exact (hv_.1 x_ ((fra ht_ hk0_).1 x_ e_).1).1
      · rw [e_]
        obtain ⟨⟨r_, hr_, hs_⟩, _⟩ := ((frc_a ht_ E0_ hk0_).2 w0_).mp ow_.2.2
        have t_ := hv_.1 r_ ((fra ht_ hk0_).1 r_ (List.mem_cons.mpr hr_)).1
        rcases hs_ with g_ | g_
        · rw [g_]
          exact t_.2.1
        · rw [g_]
          exact t_.2.2
    have d4_ : ∀ x_, x_ ∈ n_ :: E0_ ∨ x_ = w0_ → x_ ∈ n_ :: E0_ ∨ x_ = w0_ ∨ x_ = a_ ∨ x_ = b_ := by
      intro x_ hx_
      rcases hx_ with e_ | e_
      · exact Or.inl e_
      · exact Or.inr (Or.inl e_)
    have b4_ : ∀ x_, x_ ∈ n_ :: E0_ ∨ x_ = w0_ → ∀ q_, q_ < 4 → kdx cl_ ch_ tl_ th a_ b_ w0_ x_ q_ < 4 := fun x_ hx_ q_ hq_ => on_4 ht_ hk0_ ho_ hq_ (x_ + 1) x_ (Nat.lt_succ_self _) (d4_ x_ hx_)
    have sg_ : ∀ x_, x_ ∈ n_ :: E0_ ∨ x_ = w0_ → (∀ q_, q_ < 4 → kdx cl_ ch_ tl_ th a_ b_ w0_ x_ q_ < 2) ∨ (2 ≤ kdx cl_ ch_ tl_ th a_ b_ w0_ x_ p_ ∧ ∀ q_, q_ < 4 → 2 ≤ kdx cl_ ch_ tl_ th a_ b_ w0_ x_ q_ → kdx cl_ ch_ tl_ th a_ b_ w0_ x_ q_ = kdx cl_ ch_ tl_ th a_ b_ w0_ x_ p_) := by
      intro x_ hx_
      by_cases k_ : w0_ ∈ frg inn_ cl_ ch_ (n_ :: E0_) x_
      · by_cases d_ : ∃ q_, q_ < 4 ∧ 2 ≤ kdx cl_ ch_ tl_ th a_ b_ w0_ x_ q_
        · have z_ := pp_ x_ k_ d_
          exact Or.inr ⟨z_, fun q_ hq_ g_ => on_g ht_ hk0_ ho_ hq_ hp_ (x_ + 1) x_ (Nat.lt_succ_self _) k_ g_ z_⟩
        · refine Or.inl (fun q_ hq_ => ?_)
          by_cases g_ : kdx cl_ ch_ tl_ th a_ b_ w0_ x_ q_ < 2
          · exact g_
          · exact absurd ⟨q_, hq_, by omega⟩ d_
      · exact Or.inl (fun q_ hq_ => on_2 ht_ hk0_ ho_ hq_ (x_ + 1) x_ (Nat.lt_succ_self _) (d4_ x_ hx_) k_)
    refine ⟨fun x_ => kky (kdx cl_ ch_ tl_ th a_ b_ w0_ x_) p_, fun w_ => kky_l, fun E_ w_ F_ x_ k1_ l1_ g1_ k2_ l2_ g2_ e_ => ?_⟩
    have e_ : kky (kdx cl_ ch_ tl_ th a_ b_ w0_ w_) p_ = kky (kdx cl_ ch_ tl_ th a_ b_ w0_ x_) p_ := e_
    have m1_ := dm_ E_ w_ k1_ l1_ g1_
    have m2_ := dm_ F_ x_ k2_ l2_ g2_
    obtain ⟨s_, hs_⟩ := kky_u hp_ (b4_ w_ m1_) (b4_ x_ m2_) (sg_ w_ m1_) (sg_ x_ m2_) e_
    refine (hv_.2.2.1 x_ w_ s_ (uu_ x_ m2_) (uu_ w_ m1_) (fun q_ hq_ => ?_)).symm
    have b1_ : (v_ a_ q_).toNat < 2 := Bool.toNat_lt (v_ a_ q_)
    have b2_ : (v_ b_ q_).toNat < 2 := Bool.toNat_lt (v_ b_ q_)
    have h4_ : (v_ a_ q_).toNat + 2 * (v_ b_ q_).toNat < 4 := by omega
    rw [on_v ht_ hk0_ hv_ ho_ hq_ (x_ + 1) x_ (Nat.lt_succ_self _) (d4_ x_ m2_), on_v ht_ hk0_ hv_ ho_ hq_ (w_ + 1) w_ (Nat.lt_succ_self _) (d4_ w_ m1_), hs_ _ h4_]
    exact (ktn_l (b4_ w_ m1_ _ h4_)).2.2 _
  · refine ⟨fun _ => 0, fun _ => (show (0 : Nat) < 35 by decide), fun E_ w_ F_ x_ k1_ l1_ g1_ _ _ _ _ => absurd ⟨w_, E_, k1_, l1_, g1_⟩ c_⟩
/-- the_ key_ of_ a_ cut_ -/
def ckq (inn_ : Nat → Bool) (cl_ ch_ : Nat → Nat) (n_ : Nat) (g_ : Nat → Nat) (c_ : List Nat) (k_ : Nat) : Prop := ∃ E_, frk inn_ cl_ ch_ n_ E_ ∧ c_ = frc cl_ ch_ n_ E_ ∧ c_.length ≤ 3 ∧ ((k_ = 0 ∧ frg inn_ cl_ ch_ (n_ :: E_) n_ = []) ∨ (k_ = 1 ∧ E_ = [cl_ n_]) ∨ (k_ = 2 ∧ E_ = [ch_ n_]) ∨ (∃ i_ j_, i_ < 3 ∧ j_ < 3 ∧ k_ = 3 + 3 * i_ + j_ ∧ frg inn_ cl_ ch_ (n_ :: E_) n_ = [cnk inn_ cl_ ch_ i_ (cl_ (tpx inn_ cl_ ch_ (n_ + 1) n_)), cnk inn_ cl_ ch_ j_ (ch_ (tpx inn_ cl_ ch_ (n_ + 1) n_))]) ∨ ∃ w_, k_ = 12 + g_ w_ ∧ frg inn_ cl_ ch_ (n_ :: E_) n_ = [w_])
theorem ckq_u (ht_ : trh inn_ cl_ ch_ n_ T_) {g_ : Nat → Nat} (hg_ : ∀ E_ w_ F_ x_, frk inn_ cl_ ch_ n_ E_ → (frc cl_ ch_ n_ E_).length ≤ 3 → frg inn_ cl_ ch_ (n_ :: E_) n_ = [w_] → frk inn_ cl_ ch_ n_ F_ → (frc cl_ ch_ n_ F_).length ≤ 3 → frg inn_ cl_ ch_ (n_ :: F_) n_ = [x_] → g_ w_ = g_ x_ → w_ = x_) : ∀ c_ d_ k_, ckq inn_ cl_ ch_ n_ g_ c_ k_ → ckq inn_ cl_ ch_ n_ g_ d_ k_ → c_ = d_ := by
  rintro c_ d_ k_ ⟨E_, k1_, e1_, l1_, h1_⟩ ⟨F_, k2_, e2_, l2_, h2_⟩
  rw [e1_] at l1_
  rw [e2_] at l2_
  have same : frg inn_ cl_ ch_ (n_ :: E_) n_ = frg inn_ cl_ ch_ (n_ :: F_) n_ → c_ = d_ := fun h_ => by
    rw [e1_, e2_]
    exact frg_u ht_ k1_ k2_ h_
  have eq_ : E_ = F_ → c_ = d_ := fun h_ => by
    rw [e1_, e2_, h_]
  rcases h1_ with ⟨a1_, a2_⟩ | ⟨a1_, a2_⟩ | ⟨a1_, a2_⟩ | ⟨i_, j_, hi_, hj_, a1_, a2_⟩ | ⟨w_, a1_, a2_⟩ <;> rcases h2_ with ⟨b1_, b2_⟩ | ⟨b1_, b2_⟩ | ⟨b1_, b2_⟩ | ⟨i'_, j'_, hi'_, hj'_, b1_, b2_⟩ | ⟨x_, b1_, b2_⟩ <;> first
    | (exfalso; omega; done)
    | exact same (a2_.trans b2_.symm)
    | exact eq_ (a2_.trans b2_.symm)
    | (have x1_ : i_ = i'_ := by omega
       have x2_ : j_ = j'_ := by omega
       rw [← x1_, ← x2_] at b2_
       exact same (a2_.trans b2_.symm))
    | (have x1_ := hg_ E_ w_ F_ x_ k1_ l1_ a2_ k2_ l2_ b2_ (by omega)
       rw [← x1_] at b2_
       exact same (a2_.trans b2_.symm))
theorem ckq_e (ht_ : trh inn_ cl_ ch_ n_ T_) (hv_ : svh cl_ ch_ tl_ th T_ U_ v_ P_) {g_ : Nat → Nat} (hg_ : ∀ w_, g_ w_ < 35) {c_ : List Nat} (hk_ : frk inn_ cl_ ch_ n_ E_) (he_ : c_ = frc cl_ ch_ n_ E_) (h3_ : c_.length ≤ 3) : ∃ k_, k_ < 47 ∧ ckq inn_ cl_ ch_ n_ g_ c_ k_ := by
  have h3'_ := h3_
  rw [he_] at h3'_
  have nd_ := frg_nd ht_ hk_ (n_ + 1) n_ (Nat.lt_succ_self _)
  obtain ⟨G_, hG_⟩ : ∃ G_, frg inn_ cl_ ch_ (n_ :: E_) n_ = G_ := ⟨_, rfl⟩
  rw [hG_] at nd_
  have fm_ : ∀ z_, z_ ∈ G_ ↔ z_ ∈ frc cl_ ch_ n_ E_ ∧ inn_ z_ = true := fun z_ => by
    rw [← hG_]
    exact frg_m ht_ hk_
  have lg_ := nod1_s (frc cl_ ch_ n_ E_) G_ nd_ (fun z_ hz_ => ((fm_ z_).mp hz_).1)
  rcases G_ with _ | ⟨w1_, _ | ⟨w2_, _ | ⟨w3_, l_⟩⟩⟩
  · exact ⟨0, by decide, E_, hk_, he_, h3_, Or.inl ⟨rfl, hG_⟩⟩
  · have := hg_ w1_
    exact ⟨12 + g_ w1_, by omega, E_, hk_, he_, h3_, Or.inr (Or.inr (Or.inr (Or.inr ⟨w1_, rfl, hG_⟩)))⟩
  · have l2_ : (frg inn_ cl_ ch_ (n_ :: E_) n_).length = 2 := by
      rw [hG_]
      rfl
    obtain ⟨a_, ha_⟩ := lv_2 ht_ hk_ l2_ h3'_
    obtain ⟨i_, j_, hi_, hj_, e_⟩ := tw_2 ht_ hk_ hv_ ha_ (n_ + 1) n_ (Nat.lt_succ_self _) List.mem_cons_self l2_
    exact ⟨3 + 3 * i_ + j_, by omega, E_, hk_, he_, h3_, Or.inr (Or.inr (Or.inr (Or.inl ⟨i_, j_, hi_, hj_, rfl, e_⟩)))⟩
  · have lg_ : l_.length + 1 + 1 + 1 ≤ (frc cl_ ch_ n_ E_).length := lg_
    have al_ : ∀ z_, z_ ∈ frc cl_ ch_ n_ E_ → inn_ z_ = true := by
      intro z_ hz_
      by_cases i_ : inn_ z_ = true
      · exact i_
      · exfalso
        have nz : nod1 (z_ :: w1_ :: w2_ :: w3_ :: l_) := ⟨fun u_ => i_ ((fm_ z_).mp u_).2, nd_⟩
        have q_ := nod1_s (frc cl_ ch_ n_ E_) _ nz (fun y_ hy_ => by
          rcases List.mem_cons.mp hy_ with e_ | e_
          · rw [e_]
            exact hz_
          · exact ((fm_ y_).mp e_).1)
        have q_ : l_.length + 1 + 1 + 1 + 1 ≤ (frc cl_ ch_ n_ E_).length := q_
        omega
    have q_ := frc_l ht_ E_ hk_ al_
    rcases E_ with _ | ⟨x_, _ | ⟨y_, t_⟩⟩
    · exfalso
      have lg_ : l_.length + 1 + 1 + 1 ≤ (ins (cl_ n_) [ch_ n_]).length := lg_
      rw [ins_ln (fun u_ => (ht_.2.1 n_ ht_.1).1.2.2 (List.mem_singleton.mp u_))] at lg_
      have lg_ : l_.length + 1 + 1 + 1 ≤ 2 := lg_
      omega
    · have xm_ : x_ ∈ ins (cl_ n_) [ch_ n_] := hk_.2.1
      rcases ins_m.mp xm_ with u_ | u_
      · exact ⟨1, by decide, [x_], hk_, he_, h3_, Or.inr (Or.inl ⟨rfl, by rw [u_]⟩)⟩
      · exact ⟨2, by decide, [x_], hk_, he_, h3_, Or.inr (Or.inr (Or.inl ⟨rfl, by rw [List.mem_singleton.mp u_]⟩))⟩
    · exfalso
      have q_ : t_.length + 1 + 1 + 2 ≤ (frc cl_ ch_ n_ (x_ :: y_ :: t_)).length := q_
      omega
/-- never more than 47 cuts -/
theorem crn_47 (ht_ : trh inn_ cl_ ch_ n_ T_) (hv_ : svh cl_ ch_ tl_ th T_ U_ v_ P_) (m_ : Nat) : (crn inn_ cl_ ch_ n_ m_).length ≤ 47 := by
  obtain ⟨g_, g1_, g2_⟩ := one_k ht_ hv_
  refine nodl_n (ckq_u ht_ g2_) (crn_nd m_) (fun c_ hc_ => ?_)
  obtain ⟨E_, k1_, k2_, k3_⟩ := crn_fr m_ c_ hc_
  refine ckq_e ht_ hv_ g1_ k1_ k2_ ?_
  by_cases e_ : E_ = []
  · rw [k2_, e_]
    show (ins (cl_ n_) [ch_ n_]).length ≤ 3
    rw [ins_ln (fun u_ => (ht_.2.1 n_ ht_.1).1.2.2 (List.mem_singleton.mp u_))]
    show 2 ≤ 3
    decide
  · exact k3_ e_
end CT_
end
/-! 99.ztZP -/
section
/-! cuts of the swept graph; written by wip/p55/gen/vg -/

/-! the_ swept graph: trees and values -/
theorem psm_1 {g_ : Nat → Nat} {a_ : Nat} : ∀ (l_ x_ : Nat), a_ ≤ x_ → x_ < a_ + l_ → g_ x_ ≤ psm g_ a_ l_
  | 0, x_, h1_, h2_ => by omega
  | l_ + 1, x_, h1_, h2_ => by
    show g_ x_ ≤ psm g_ a_ l_ + g_ (a_ + l_)
    by_cases e_ : x_ = a_ + l_
    · rw [e_]
      omega
    · have := psm_1 (g_ := g_) l_ x_ h1_ (by omega)
      omega
theorem psm_2 {g_ : Nat → Nat} {a_ : Nat} : ∀ (l_ x_ y_ : Nat), a_ ≤ x_ → x_ < y_ → y_ < a_ + l_ → g_ x_ + g_ y_ ≤ psm g_ a_ l_
  | 0, x_, y_, h1_, h2_, h3_ => by omega
  | l_ + 1, x_, y_, h1_, h2_, h3_ => by
    show g_ x_ + g_ y_ ≤ psm g_ a_ l_ + g_ (a_ + l_)
    by_cases e_ : y_ = a_ + l_
    · have := psm_1 (g_ := g_) l_ x_ h1_ (by omega)
      rw [e_]
      omega
    · have := psm_2 (g_ := g_) l_ x_ y_ h1_ h2_ (by omega)
      omega
theorem pgn_1 {sf_ lo_ hi_ : Nat → Int} {nd_ : Nat → Bool} {x_ z_ : Nat} (hn_ : nd_ x_ = true) (hz_ : z_ = nsw sf_ (lo_ x_) ∨ z_ = nsw sf_ (hi_ x_)) : 1 ≤ pgn sf_ lo_ hi_ nd_ z_ x_ := by
  unfold pgn
  rw [if_pos hn_]
  rcases hz_ with e_ | e_
  · rw [if_pos e_]
    omega
  · rw [if_pos e_]
    omega
/-- turned, swept -/
def nsx (sf_ : Nat → Int) (l_ : Int) : Bool := Bool.xor (decide (sf_ (l_ / 2).toNat % 2 = 1)) (decide (l_ % 2 = 1))
theorem nsw_b {F_ N_ : Nat} {sf_ lo_ hi_ : Nat → Int} (hs_ : ∀ m_, m_ < N_ → sfo F_ lo_ hi_ sf_ m_) {l_ : Int} (h0_ : 0 ≤ l_) (h1_ : l_ < 2 * (N_ : Int)) : (nsw sf_ l_ : Int) ≤ l_ / 2 ∧ sf_ (nsw sf_ l_) = 2 * (nsw sf_ l_ : Int) ∧ (nsw sf_ l_ : Int) = sf_ (l_ / 2).toNat / 2 := by
  have s_ := hs_ (l_ / 2).toNat (by omega)
  have e_ : (nsw sf_ l_ : Int) = sf_ (l_ / 2).toNat / 2 := by
    unfold nsw
    have := s_.1.1
    omega
  have b_ := s_.1
  refine ⟨by omega, ?_, e_⟩
  have k_ := s_.2.1
  have e2_ : (sf_ (l_ / 2).toNat / 2).toNat = nsw sf_ l_ := rfl
  rw [e2_] at k_
  rw [k_, e_]
section SG_
variable {F_ N_ : Nat} {sf_ lo_ hi_ : Nat → Int} {nd_ : Nat → Bool}
theorem sid_of (hF_ : 1 ≤ F_) (hg_ : glo F_ N_ lo_ hi_) (hs_ : ∀ m_, m_ < N_ → sfo F_ lo_ hi_ sf_ m_) {x_ : Nat} (h1_ : F_ ≤ x_) (h2_ : x_ < N_) (h3_ : sf_ x_ = 2 * (x_ : Int)) : (nsw sf_ (lo_ x_) < x_ ∧ nsw sf_ (hi_ x_) < x_ ∧ nsw sf_ (lo_ x_) ≠ nsw sf_ (hi_ x_)) ∧ (1 ≤ nsw sf_ (lo_ x_) ∧ sf_ (nsw sf_ (lo_ x_)) = 2 * (nsw sf_ (lo_ x_) : Int)) ∧ (1 ≤ nsw sf_ (hi_ x_) ∧ sf_ (nsw sf_ (hi_ x_)) = 2 * (nsw sf_ (hi_ x_) : Int)) := by
  have g_ := hg_ x_ h1_ h2_
  have m_ := (hs_ x_ h2_).2.2 h1_ h3_
  have a_ := nsw_b hs_ (l_ := lo_ x_) (by omega) (by omega)
  have b_ := nsw_b hs_ (l_ := hi_ x_) (by omega) (by omega)
  have m1_ := m_.1
  have m2_ := m_.2.1
  have m3'_ := m_.2.2
  refine ⟨⟨by omega, by omega, fun e_ => m3'_ ?_⟩, ⟨by omega, a_.2.1⟩, ⟨by omega, b_.2.1⟩⟩
  rw [← a_.2.2, ← b_.2.2, e_]
theorem trh_of {inn_ : Nat → Bool} {n_ : Nat} (hF_ : 1 ≤ F_) (hg_ : glo F_ N_ lo_ hi_) (hs_ : ∀ m_, m_ < N_ → sfo F_ lo_ hi_ sf_ m_) (hc_ : ∀ x_, F_ ≤ x_ → x_ < N_ → nd_ x_ = true → sf_ x_ = 2 * (x_ : Int) ∧ nd_ (nsw sf_ (lo_ x_)) = true ∧ nd_ (nsw sf_ (hi_ x_)) = true) (hi9_ : ∀ z_, z_ < N_ → inn_ z_ = true → F_ ≤ z_ ∧ psm (pgn sf_ lo_ hi_ nd_ z_) F_ (N_ - F_) ≤ 1) (hn_ : F_ ≤ n_ ∧ n_ < N_ ∧ nd_ n_ = true) : trh inn_ (fun x_ => nsw sf_ (lo_ x_)) (fun x_ => nsw sf_ (hi_ x_)) n_ (fun x_ => F_ ≤ x_ ∧ x_ < N_ ∧ nd_ x_ = true) := by
  refine ⟨hn_, fun x_ hx_ => ?_, fun x_ y_ z_ hx_ hy_ zx_ zy_ iz_ => ?_⟩
  · obtain ⟨h1_, h2_, h3_⟩ := hx_
    have c_ := hc_ x_ h1_ h2_ h3_
    have s_ := sid_of hF_ hg_ hs_ h1_ h2_ c_.1
    have q1_ := s_.1.1
    have q2_ := s_.1.2.1
    refine ⟨s_.1, fun i_ => ?_, fun i_ => ?_⟩
    · exact ⟨(hi9_ (nsw sf_ (lo_ x_)) (by omega) i_).1, show nsw sf_ (lo_ x_) < N_ by omega, c_.2.1⟩
    · exact ⟨(hi9_ (nsw sf_ (hi_ x_)) (by omega) i_).1, show nsw sf_ (hi_ x_) < N_ by omega, c_.2.2⟩
  · obtain ⟨h1_, h2_, h3_⟩ := hx_
    obtain ⟨k1_, k2_, k3_⟩ := hy_
    have c_ := hc_ x_ h1_ h2_ h3_
    have s_ := sid_of hF_ hg_ hs_ h1_ h2_ c_.1
    have q1_ := s_.1.1
    have q2_ := s_.1.2.1
    have zN_ : z_ < N_ := by
      rcases zx_ with e_ | e_
      · have e_ : z_ = nsw sf_ (lo_ x_) := e_
        omega
      · have e_ : z_ = nsw sf_ (hi_ x_) := e_
        omega
    have u_ := (hi9_ z_ zN_ iz_).2
    have p1_ := pgn_1 (sf_ := sf_) (lo_ := lo_) (hi_ := hi_) (nd_ := nd_) h3_ zx_
    have p2_ := pgn_1 (sf_ := sf_) (lo_ := lo_) (hi_ := hi_) (nd_ := nd_) k3_ zy_
    rcases Nat.lt_trichotomy x_ y_ with g_ | g_ | g_
    · have := psm_2 (g_ := pgn sf_ lo_ hi_ nd_ z_) (N_ - F_) x_ y_ h1_ g_ (by omega)
      omega
    · exact g_
    · have := psm_2 (g_ := pgn sf_ lo_ hi_ nd_ z_) (N_ - F_) y_ x_ k1_ g_ (by omega)
      omega
theorem svh_of (hF_ : 1 ≤ F_ ∧ F_ ≤ 13) (hg_ : glo F_ N_ lo_ hi_) (hs_ : ∀ m_, m_ < N_ → sfo F_ lo_ hi_ sf_ m_) (h0_ : sf_ 0 = 0) (hc_ : ∀ x_, F_ ≤ x_ → x_ < N_ → nd_ x_ = true → sf_ x_ = 2 * (x_ : Int) ∧ nd_ (nsw sf_ (lo_ x_)) = true ∧ nd_ (nsw sf_ (hi_ x_)) = true) (hw_ : swd F_ N_ lo_ hi_ sf_) : ∃ v_ P_, svh (fun x_ => nsw sf_ (lo_ x_)) (fun x_ => nsw sf_ (hi_ x_)) (fun x_ => nsx sf_ (lo_ x_)) (fun x_ => nsx sf_ (hi_ x_)) (fun x_ => F_ ≤ x_ ∧ x_ < N_ ∧ nd_ x_ = true) (fun x_ => 1 ≤ x_ ∧ x_ < N_ ∧ sf_ x_ = 2 * (x_ : Int)) v_ P_ := by
  obtain ⟨bi_, W_, mk_, R_, x1_, x2_, x3_, x4_⟩ := hw_
  have vn_ := nvr_of x3_ x2_ hF_.2
  have sc_ := swl_c x2_ (fun n_ hn_ w_ hw_ => ((x3_ n_ hn_).1 w_ hw_).1) x4_
  have dis_ : ∀ x_ y_ s_, (1 ≤ x_ ∧ x_ < N_ ∧ sf_ x_ = 2 * (x_ : Int)) → y_ < x_ → sf_ y_ = 2 * (y_ : Int) → (∀ q_, q_ < 2 ^ bi_ → pvl R_ x_ q_ = Bool.xor (pvl R_ y_ q_) s_) → False := by
    intro x_ y_ s_ hx_ hl_ hy_ hp_
    rcases sc_ x_ hx_.2.1 with ⟨_, k_⟩ | ⟨p_, t_, k1_, k2_, k3_⟩
    · exact k_ y_ ⟨hl_, hy_⟩ s_ hp_
    · have k4_ := k1_.1
      have k5_ := hx_.2.2
      split at k3_ <;> omega
  have val_ : ∀ l_ : Int, 0 ≤ l_ → l_ < 2 * (N_ : Int) → ∀ q_, q_ < 2 ^ bi_ → ltv (pvl R_) l_ q_ = Bool.xor (pvl R_ (nsw sf_ l_) q_) (nsx sf_ l_) := by
    intro l_ l0_ l1_ q_ hq_
    have b_ := (nsw_b hs_ l0_ l1_).2.2
    have hm_ : (l_ / 2).toNat < N_ := by omega
    have one_ : pvl R_ (l_ / 2).toNat q_ = Bool.xor (pvl R_ (nsw sf_ l_) q_) (decide (sf_ (l_ / 2).toNat % 2 = 1)) := by
      rcases sc_ (l_ / 2).toNat hm_ with ⟨k_, _⟩ | ⟨p_, t_, k1_, k2_, k3_⟩
      · have e_ : nsw sf_ l_ = (l_ / 2).toNat := by omega
        rw [e_, decide_eq_false (by omega), Bool.xor_false]
      · cases t_
        · rw [if_neg Bool.false_ne_true] at k3_
          have e_ : nsw sf_ l_ = p_ := by omega
          rw [e_, decide_eq_false (by omega)]
          exact k2_ q_ hq_
        · rw [if_pos rfl] at k3_
          have e_ : nsw sf_ l_ = p_ := by omega
          rw [e_, decide_eq_true (by omega)]
          exact k2_ q_ hq_
    unfold ltv nsx
    rw [one_, Bool.xor_assoc]
  refine ⟨pvl R_, 2 ^ bi_, fun x_ hx_ => ?_, fun x_ hx_ q_ hq_ => ?_, fun x_ y_ s_ hx_ hy_ hp_ => ?_, fun x_ s_ hx_ hp_ => ?_⟩
  · obtain ⟨h1_, h2_, h3_⟩ := hx_
    have c_ := hc_ x_ h1_ h2_ h3_
    have s_ := sid_of hF_.1 hg_ hs_ h1_ h2_ c_.1
    have q1_ := s_.1.1
    have q2_ := s_.1.2.1
    exact ⟨⟨by omega, h2_, c_.1⟩, ⟨s_.2.1.1, show nsw sf_ (lo_ x_) < N_ by omega, s_.2.1.2⟩, ⟨s_.2.2.1, show nsw sf_ (hi_ x_) < N_ by omega, s_.2.2.2⟩⟩
  · obtain ⟨h1_, h2_, h3_⟩ := hx_
    have g_ := hg_ x_ h1_ h2_
    have e_ := (vn_ q_ hq_).2.2 x_ h1_ h2_
    rw [e_, val_ (lo_ x_) (by omega) (by omega) q_ hq_, val_ (hi_ x_) (by omega) (by omega) q_ hq_]
  · rcases Nat.lt_trichotomy x_ y_ with g_ | g_ | g_
    · exfalso
      refine dis_ y_ x_ s_ hy_ g_ hx_.2.2 (fun q_ hq_ => ?_)
      have e_ := hp_ q_ hq_
      rw [e_, Bool.xor_assoc, Bool.xor_self, Bool.xor_false]
    · exact g_
    · exact (dis_ x_ y_ s_ hx_ g_ hy_.2.2 hp_).elim
  · refine dis_ x_ 0 s_ hx_ (by omega) ?_ (fun q_ hq_ => ?_)
    · rw [h0_]
      rfl
    · rw [(vn_ q_ hq_).1 (by omega), hp_ q_ hq_, Bool.false_xor]
/-- no_ more than 47 cuts -/
theorem crn_sw {inn_ : Nat → Bool} {n_ : Nat} (hF_ : 1 ≤ F_ ∧ F_ ≤ 13) (hg_ : glo F_ N_ lo_ hi_) (hs_ : ∀ m_, m_ < N_ → sfo F_ lo_ hi_ sf_ m_) (h0_ : sf_ 0 = 0) (hc_ : ∀ x_, F_ ≤ x_ → x_ < N_ → nd_ x_ = true → sf_ x_ = 2 * (x_ : Int) ∧ nd_ (nsw sf_ (lo_ x_)) = true ∧ nd_ (nsw sf_ (hi_ x_)) = true) (hw_ : swd F_ N_ lo_ hi_ sf_) (hi9_ : ∀ z_, z_ < N_ → inn_ z_ = true → F_ ≤ z_ ∧ psm (pgn sf_ lo_ hi_ nd_ z_) F_ (N_ - F_) ≤ 1) (hn_ : F_ ≤ n_ ∧ n_ < N_ ∧ nd_ n_ = true) (m_ : Nat) : (crn inn_ (fun x_ => nsw sf_ (lo_ x_)) (fun x_ => nsw sf_ (hi_ x_)) n_ m_).length ≤ 47 := by
  obtain ⟨v_, P_, hv_⟩ := svh_of hF_ hg_ hs_ h0_ hc_ hw_
  exact crn_47 (trh_of hF_.1 hg_ hs_ hc_ hi9_ hn_) hv_ m_
end SG_
end
/-! 99.ztZQ -/
section
/-! tables over cuts; written by wip/p55/gen/vg -/

/-! tables over cuts: numbers of_ eight bits -/
theorem a32 {A_ B_ T_ U_ M_ T'_ U'_ : Int32} (hT_ : ∀ i_, i_ < 32 → T'_.toBitVec.getLsbD i_ = (T_.toBitVec.getLsbD i_ && M_.toBitVec.getLsbD i_)) (hU_ : ∀ i_, i_ < 32 → U'_.toBitVec.getLsbD i_ = (U_.toBitVec.getLsbD i_ && M_.toBitVec.getLsbD i_)) : ((A_ ^^^ T_) &&& (B_ ^^^ U_)) &&& M_ = ((A_ &&& M_) ^^^ T'_) &&& ((B_ &&& M_) ^^^ U'_) := by
  refine Int32.toBitVec_inj.mp (BitVec.eq_of_getLsbD_eq (fun i_ hi_ => ?_))
  have h1_ := hT_ i_ hi_
  have h2_ := hU_ i_ hi_
  simp only [Int32.toBitVec_and, Int32.toBitVec_xor, BitVec.getLsbD_and, BitVec.getLsbD_xor, h1_, h2_]
  generalize A_.toBitVec.getLsbD i_ = a_
  generalize B_.toBitVec.getLsbD i_ = b_
  generalize T_.toBitVec.getLsbD i_ = t_
  generalize U_.toBitVec.getLsbD i_ = u_
  generalize M_.toBitVec.getLsbD i_ = m_
  cases a_ <;> cases b_ <;> cases t_ <;> cases u_ <;> cases m_ <;> rfl
theorem z32 : ∀ i_ : Fin 32, (Int32.ofInt (255 * 0)).toBitVec.getLsbD (i_ : Nat) = ((Int32.ofInt (-0)).toBitVec.getLsbD (i_ : Nat) && (Int32.ofInt 255).toBitVec.getLsbD (i_ : Nat)) := by decide +kernel
theorem k32 : ∀ i_ : Fin 32, (Int32.ofInt (255 * 1)).toBitVec.getLsbD (i_ : Nat) = ((Int32.ofInt (-1)).toBitVec.getLsbD (i_ : Nat) && (Int32.ofInt 255).toBitVec.getLsbD (i_ : Nat)) := by decide +kernel
theorem m255 {x_ : Int} : i_and x_ 255 = x_ % 256 := bt_mask (k := 8) (by decide)
theorem tand {u_ v_ t_ s_ : Int} (ht_ : t_ = 0 ∨ t_ = 1) (hs_ : s_ = 0 ∨ s_ = 1) : i_and (i_xor u_ (-t_)) (i_xor v_ (-s_)) % 256 = i_and (i_xor (u_ % 256) (255 * t_)) (i_xor (v_ % 256) (255 * s_)) := by
  rw [← m255, ← m255, ← m255]
  have e_ : ∀ t_ : Int, (t_ = 0 ∨ t_ = 1) → ∀ i_, i_ < 32 → (Int32.ofInt (255 * t_)).toBitVec.getLsbD i_ = ((Int32.ofInt (-t_)).toBitVec.getLsbD i_ && (Int32.ofInt 255).toBitVec.getLsbD i_) := by
    intro t_ h_ i_ hi_
    rcases h_ with rfl | rfl
    · exact z32 ⟨i_, hi_⟩
    · exact k32 ⟨i_, hi_⟩
  unfold i_and i_xor
  simp only [Int32.ofInt_toInt]
  rw [a32 (e_ t_ ht_) (e_ s_ hs_)]
theorem i_and_c {x_ y_ : Int} : i_and x_ y_ = i_and y_ x_ := by
  unfold i_and
  rw [Int32.and_comm]
theorem i_axb {x_ y_ t_ s_ : Int} (hx_ : 0 ≤ x_ ∧ x_ ≤ 255) (hy_ : 0 ≤ y_ ∧ y_ ≤ 255) (ht_ : t_ = 0 ∨ t_ = 1) (hs_ : s_ = 0 ∨ s_ = 1) : 0 ≤ i_and (i_xor x_ (255 * t_)) (i_xor y_ (255 * s_)) ∧ i_and (i_xor x_ (255 * t_)) (i_xor y_ (255 * s_)) ≤ 255 := by
  have h_ := tand (u_ := x_) (v_ := y_) ht_ hs_
  rw [Int.emod_eq_of_lt hx_.1 (by omega), Int.emod_eq_of_lt hy_.1 (by omega)] at h_
  rw [← h_]
  omega
/-! what a_ table is_ -/
def vtk (k_ : Nat) : Int := if k_ = 0 then 170 else if k_ = 1 then 204 else 240
theorem vtk_b {k_ : Nat} : 0 ≤ vtk k_ ∧ vtk k_ ≤ 255 := by
  unfold vtk
  split
  · decide
  · split <;> decide
theorem vtk_s {k_ : Int} (h_ : 0 ≤ k_ ∧ k_ ≤ 2) : st_at 3 k_ = vtk k_.toNat := by
  have c_ : k_ = 0 ∨ k_ = 1 ∨ k_ = 2 := by omega
  rcases c_ with c_ | c_ | c_ <;> rw [c_] <;> decide
/-- a_ swept literal -/
def slt (dd_ : Nat) (S_ : sm_S) (l_ : Int) : Int := i_xor (S_.2.2.1 44 (0 + dd_) (l_ / 2).toNat) (l_ % 2)
def tvf (cl_ ch_ : Nat → Nat) (tl_ tu_ : Nat → Int) (c_ : List Nat) (B_ : Nat → Prop) (t_ : Nat → Int) : Prop := (∀ k_ x_ : Nat, c_[k_]? = some x_ → t_ x_ = vtk k_) ∧ ∀ x_, B_ x_ → ((cl_ x_ < x_ ∧ ch_ x_ < x_) ∧ (B_ (cl_ x_) ∨ cl_ x_ ∈ c_) ∧ (B_ (ch_ x_) ∨ ch_ x_ ∈ c_)) ∧ t_ x_ = i_and (i_xor (t_ (cl_ x_)) (255 * tl_ x_)) (i_xor (t_ (ch_ x_)) (255 * tu_ x_))
/-- there is_ one_ table -/
theorem tvf_u {cl_ ch_ dl_ dh_ : Nat → Nat} {tl_ tu_ sl_ su : Nat → Int} {c_ : List Nat} {B_ B'_ : Nat → Prop} {t_ t'_ : Nat → Int} (h_ : tvf cl_ ch_ tl_ tu_ c_ B_ t_) (h'_ : tvf dl_ dh_ sl_ su c_ B'_ t'_) (ag_ : ∀ x_, B_ x_ → B'_ x_ → (cl_ x_ = dl_ x_ ∧ ch_ x_ = dh_ x_ ∧ tl_ x_ = sl_ x_ ∧ tu_ x_ = su x_) ∨ (cl_ x_ = dh_ x_ ∧ ch_ x_ = dl_ x_ ∧ tl_ x_ = su x_ ∧ tu_ x_ = sl_ x_)) : ∀ m_ x_, x_ < m_ → B_ x_ → B'_ x_ → t_ x_ = t'_ x_
  | 0, x_, hx_, _, _ => absurd hx_ (Nat.not_lt_zero _)
  | m_ + 1, x_, hx_, b_, b'_ => by
    have side : ∀ z_, z_ < x_ → (B_ z_ ∨ z_ ∈ c_) → (B'_ z_ ∨ z_ ∈ c_) → t_ z_ = t'_ z_ := by
      intro z_ hz_ p_ p'_
      by_cases q_ : z_ ∈ c_
      · obtain ⟨k_, hk_⟩ := List.getElem?_of_mem q_
        rw [h_.1 k_ z_ hk_, h'_.1 k_ z_ hk_]
      · exact tvf_u h_ h'_ ag_ m_ z_ (by omega) (p_.resolve_right q_) (p'_.resolve_right q_)
    obtain ⟨⟨⟨l1_, l2_⟩, s1_, s2_⟩, e_⟩ := h_.2 x_ b_
    obtain ⟨⟨⟨l1'_, l2'_⟩, s1'_, s2'_⟩, e'_⟩ := h'_.2 x_ b'_
    rcases ag_ x_ b_ b'_ with ⟨a1_, a2_, a3_, a4_⟩ | ⟨a1_, a2_, a3_, a4_⟩
    · have u1_ := side (cl_ x_) l1_ s1_ (by rw [a1_]; exact s1'_)
      have u2_ := side (ch_ x_) l2_ s2_ (by rw [a2_]; exact s2'_)
      rw [e_, e'_, u1_, u2_, a1_, a2_, a3_, a4_]
    · have u1_ := side (cl_ x_) l1_ s1_ (by rw [a1_]; exact s2'_)
      have u2_ := side (ch_ x_) l2_ s2_ (by rw [a2_]; exact s1'_)
      rw [e_, e'_, u1_, u2_, a1_, a2_, a3_, a4_, i_and_c]
/-! a_ node's tree down to_ a_ cut_ -/
def sds (cl_ ch_ : Nat → Nat) (b_ x_ : Nat) : Nat := if b_ = 0 then cl_ x_ else ch_ x_
def clo (sd_ : Nat → Nat → Nat) (n_ : Nat) (A_ : Nat → Prop) (c_ : List Nat) : Prop := A_ n_ ∧ (∀ x_, A_ x_ → x_ ≤ n_ ∧ ¬ x_ ∈ c_ ∧ sd_ 0 x_ ≠ sd_ 1 x_ ∧ ∀ b_, b_ < 2 → sd_ b_ x_ < x_ ∧ (A_ (sd_ b_ x_) ∨ sd_ b_ x_ ∈ c_)) ∧ ∀ x_ y_ b_ d_, A_ x_ → A_ y_ → b_ < 2 → d_ < 2 → A_ (sd_ b_ x_) → sd_ b_ x_ = sd_ d_ y_ → x_ = y_
theorem clo_of {inn_ : Nat → Bool} {cl_ ch_ : Nat → Nat} {n_ : Nat} {T_ : Nat → Prop} {E_ : List Nat} (ht_ : trh inn_ cl_ ch_ n_ T_) (hk_ : frk inn_ cl_ ch_ n_ E_) : clo (sds cl_ ch_) n_ (fun x_ => x_ ∈ n_ :: E_) (frc cl_ ch_ n_ E_) := by
  have fa_ := frc_a ht_ E_ hk_
  have tA_ : ∀ x_, x_ ∈ n_ :: E_ → T_ x_ ∧ x_ ≤ n_ := by
    intro x_ hx_
    rcases List.mem_cons.mp hx_ with e_ | e_
    · rw [e_]
      exact ⟨ht_.1, Nat.le_refl _⟩
    · have q_ := fa_.1 x_ e_
      exact ⟨q_.2.1, Nat.le_of_lt q_.2.2.1⟩
  have sd_ : ∀ x_ b_, b_ < 2 → (sds cl_ ch_ b_ x_ = cl_ x_ ∨ sds cl_ ch_ b_ x_ = ch_ x_) := by
    intro x_ b_ _
    unfold sds
    split
    · exact Or.inl rfl
    · exact Or.inr rfl
  refine ⟨List.mem_cons_self, fun x_ hx_ => ?_, fun x_ y_ b_ d_ hx_ hy_ hb_ hd_ hz_ e_ => ?_⟩
  · have tx_ := tA_ x_ hx_
    have q_ := (ht_.2.1 x_ tx_.1).1
    refine ⟨tx_.2, fun u_ => frc_na ht_ hk_ u_ hx_, q_.2.2, fun b_ hb_ => ?_⟩
    have s_ := fra_s ht_ hk_ hx_ (sd_ x_ b_ hb_)
    refine ⟨s_.1, ?_⟩
    rcases s_.2.2 with u_ | u_
    · exact Or.inl u_
    · exact Or.inr u_.1
  · have s_ := fra_s ht_ hk_ hx_ (sd_ x_ b_ hb_)
    have i_ : inn_ (sds cl_ ch_ b_ x_) = true := by
      rcases List.mem_cons.mp hz_ with u_ | u_
      · exact absurd u_ s_.2.1
      · exact (fa_.1 _ u_).1
    exact ht_.2.2 x_ y_ _ (tA_ x_ hx_).1 (tA_ y_ hy_).1 (sd_ x_ b_ hb_) (by rw [e_]; exact sd_ y_ d_ hd_) i_
def rgq : Nat → List Nat
  | 0 => []
  | k_ + 1 => k_ :: rgq k_
theorem rgq_m {z_ : Nat} : ∀ {k_ : Nat}, z_ ∈ rgq k_ → z_ < k_
  | 0, h_ => absurd h_ List.not_mem_nil
  | k_ + 1, h_ => by
    rcases List.mem_cons.mp h_ with e_ | e_
    · omega
    · have := rgq_m e_
      omega
theorem rgq_d : ∀ k_ : Nat, nod1 (rgq k_)
  | 0 => trivial
  | k_ + 1 => ⟨fun h_ => absurd (rgq_m h_) (Nat.lt_irrefl _), rgq_d k_⟩
theorem rgq_l : ∀ k_ : Nat, (rgq k_).length = k_
  | 0 => rfl
  | k_ + 1 => by
    show (rgq k_).length + 1 = k_ + 1
    rw [rgq_l k_]
/-- no_ more than there is_ room for_ -/
theorem php {g_ : Nat → Nat} {N_ ct : Nat} (hb_ : ∀ j_, j_ < ct → g_ j_ < N_) (hi_ : ∀ i_ j_, i_ < j_ → j_ < ct → g_ i_ ≠ g_ j_) : ct ≤ N_ := by
  have h_ := nod1_k (g_ := g_) (l_ := rgq ct) (N_ := N_) (rgq_d ct) (fun x_ y_ hx_ hy_ e_ => by
    have a_ := rgq_m hx_
    have b_ := rgq_m hy_
    rcases Nat.lt_trichotomy x_ y_ with u_ | u_ | u_
    · exact absurd e_ (hi_ x_ y_ u_ b_)
    · exact u_
    · exact absurd e_.symm (hi_ y_ x_ u_ a_)) (fun x_ hx_ => hb_ x_ (rgq_m hx_))
  rw [rgq_l] at h_
  exact h_
/-- the_ row_ of_ nodes gone through: p_ sides are_ looked at -/
def inq (sd_ : Nat → Nat → Nat) (n_ : Nat) (A_ : Nat → Prop) (c_ : List Nat) (I_ : Nat → Int) (p_ ct : Nat) : Prop := (I_ 0 = (n_ : Int) ∧ 1 ≤ ct) ∧ (∀ j_, j_ < ct → 0 ≤ I_ j_ ∧ A_ (I_ j_).toNat) ∧ (∀ i_ j_, i_ < j_ → j_ < ct → I_ i_ ≠ I_ j_) ∧ (∀ j_, 1 ≤ j_ → j_ < ct → ∃ q_, q_ < p_ ∧ q_ / 2 < j_ ∧ I_ j_ = (sd_ (q_ % 2) (I_ (q_ / 2)).toNat : Int)) ∧ ∀ q_, q_ < p_ → sd_ (q_ % 2) (I_ (q_ / 2)).toNat ∈ c_ ∨ ∃ j_, q_ / 2 < j_ ∧ j_ < ct ∧ I_ j_ = (sd_ (q_ % 2) (I_ (q_ / 2)).toNat : Int)
section IQ_
variable {sd_ : Nat → Nat → Nat} {n_ : Nat} {A_ : Nat → Prop} {c_ : List Nat} {I_ : Nat → Int} {p_ ct : Nat}
theorem inq_0 (h_ : A_ n_) (e_ : I_ 0 = (n_ : Int)) : inq sd_ n_ A_ c_ I_ 0 1 := by
  refine ⟨⟨e_, Nat.le_refl _⟩, fun j_ hj_ => ?_, fun i_ j_ h1_ h2_ => ?_, fun j_ h1_ h2_ => ?_, fun q_ h1_ => absurd h1_ (Nat.not_lt_zero _)⟩
  · rw [show j_ = 0 by omega, e_, Int.toNat_natCast]
    exact ⟨Int.natCast_nonneg _, h_⟩
  · exfalso
    omega
  · exfalso
    omega
theorem inq_c (h_ : inq sd_ n_ A_ c_ I_ p_ ct) (z_ : sd_ (p_ % 2) (I_ (p_ / 2)).toNat ∈ c_) : inq sd_ n_ A_ c_ I_ (p_ + 1) ct := by
  obtain ⟨h0_, h2_, h3_, h4_, h5_⟩ := h_
  refine ⟨h0_, h2_, h3_, fun j_ a_ b_ => ?_, fun q_ hq_ => ?_⟩
  · obtain ⟨q_, q1_, q2_⟩ := h4_ j_ a_ b_
    exact ⟨q_, by omega, q2_⟩
  · by_cases e_ : q_ = p_
    · rw [e_]
      exact Or.inl z_
    · exact h5_ q_ (by omega)
theorem inq_p (hc_ : clo sd_ n_ A_ c_) (h_ : inq sd_ n_ A_ c_ I_ p_ ct) (hp_ : p_ / 2 < ct) (z_ : ¬ sd_ (p_ % 2) (I_ (p_ / 2)).toNat ∈ c_) : ct ≤ n_ ∧ ∀ J_ : Nat → Int, (∀ j_, J_ j_ = if j_ = ct then (sd_ (p_ % 2) (I_ (p_ / 2)).toNat : Int) else I_ j_) → inq sd_ n_ A_ c_ J_ (p_ + 1) (ct + 1) := by
  obtain ⟨⟨h0_, h1_⟩, h2_, h3_, h4_, h5_⟩ := h_
  have ax_ := h2_ (p_ / 2) hp_
  obtain ⟨x_, hx_⟩ : ∃ x_, (I_ (p_ / 2)).toNat = x_ := ⟨_, rfl⟩
  rw [hx_] at ax_ z_ ⊢
  have cx_ := hc_.2.1 x_ ax_.2
  have b2_ : p_ % 2 < 2 := Nat.mod_lt _ (by decide)
  have sx_ := cx_.2.2.2 _ b2_
  have az_ := sx_.2.resolve_right z_
  have new_ : ∀ j_, j_ < ct → I_ j_ ≠ (sd_ (p_ % 2) x_ : Int) := by
    intro j_ hj_ e_
    by_cases j0_ : j_ = 0
    · rw [j0_, h0_] at e_
      have := cx_.1
      have := sx_.1
      omega
    · obtain ⟨q_, q1_, q2_, q3_⟩ := h4_ j_ (by omega) hj_
      have ay_ := h2_ (q_ / 2) (by omega)
      have eq_ : sd_ (p_ % 2) x_ = sd_ (q_ % 2) (I_ (q_ / 2)).toNat := by omega
      have xy_ := hc_.2.2 _ _ _ _ ax_.2 ay_.2 b2_ (Nat.mod_lt _ (by decide)) az_ eq_
      have pq_ : p_ / 2 = q_ / 2 := by
        rcases Nat.lt_trichotomy (p_ / 2) (q_ / 2) with g_ | g_ | g_
        · exact absurd (show I_ (p_ / 2) = I_ (q_ / 2) by omega) (h3_ _ _ g_ (by omega))
        · exact g_
        · exact absurd (show I_ (q_ / 2) = I_ (p_ / 2) by omega) (h3_ _ _ g_ hp_)
      have q0_ : q_ % 2 = 0 := by omega
      have p1_ : p_ % 2 = 1 := by omega
      rw [q0_, p1_, ← xy_] at eq_
      exact cx_.2.2.1 eq_.symm
  have lz : sd_ (p_ % 2) x_ ≤ n_ := by
    have := cx_.1
    have := sx_.1
    omega
  have cnt_ : ct + 1 ≤ n_ + 1 := by
    refine php (g_ := fun j_ => if j_ = ct then sd_ (p_ % 2) x_ else (I_ j_).toNat) (fun j_ hj_ => ?_) (fun i_ j_ hij_ hj_ => ?_)
    · show (if j_ = ct then sd_ (p_ % 2) x_ else (I_ j_).toNat) < n_ + 1
      split
      · omega
      · have := (hc_.2.1 _ (h2_ j_ (by omega)).2).1
        omega
    · show (if i_ = ct then sd_ (p_ % 2) x_ else (I_ i_).toNat) ≠ (if j_ = ct then sd_ (p_ % 2) x_ else (I_ j_).toNat)
      have i0_ := (h2_ i_ (by omega)).1
      rw [if_neg (show ¬ i_ = ct by omega)]
      by_cases e_ : j_ = ct
      · rw [if_pos e_]
        have := new_ i_ (by omega)
        omega
      · rw [if_neg e_]
        have := h3_ i_ j_ hij_ (by omega)
        have := (h2_ j_ (by omega)).1
        omega
  refine ⟨by omega, fun J_ hJ_ => ?_⟩
  have hl_ : ∀ j_, j_ < ct → J_ j_ = I_ j_ := fun j_ hj_ => by rw [hJ_ j_, if_neg (by omega)]
  have hn_ : J_ ct = (sd_ (p_ % 2) x_ : Int) := by rw [hJ_ ct, if_pos rfl]
  refine ⟨⟨by rw [hl_ 0 (by omega), h0_], by omega⟩, fun j_ hj_ => ?_, fun i_ j_ hij_ hj_ => ?_, fun j_ a_ b_ => ?_, fun q_ hq_ => ?_⟩
  · by_cases e_ : j_ = ct
    · rw [e_, hn_, Int.toNat_natCast]
      exact ⟨Int.natCast_nonneg _, az_⟩
    · rw [hl_ j_ (by omega)]
      exact h2_ j_ (by omega)
  · rw [hl_ i_ (by omega)]
    by_cases e_ : j_ = ct
    · rw [e_, hn_]
      exact new_ i_ (by omega)
    · rw [hl_ j_ (by omega)]
      exact h3_ i_ j_ hij_ (by omega)
  · by_cases e_ : j_ = ct
    · refine ⟨p_, by omega, by omega, ?_⟩
      rw [e_, hn_, hl_ _ hp_, hx_]
    · obtain ⟨q_, q1_, q2_, q3_⟩ := h4_ j_ a_ (by omega)
      refine ⟨q_, by omega, q2_, ?_⟩
      rw [hl_ j_ (by omega), hl_ _ (by omega), q3_]
  · by_cases e_ : q_ = p_
    · refine Or.inr ⟨ct, by omega, by omega, ?_⟩
      rw [e_, hn_, hl_ _ hp_, hx_]
    · have q2_ : q_ / 2 < ct := by omega
      rw [hl_ _ q2_]
      rcases h5_ q_ (by omega) with u_ | ⟨j_, j1_, j2_, j3_⟩
      · exact Or.inl u_
      · exact Or.inr ⟨j_, j1_, by omega, by rw [hl_ j_ j2_, j3_]⟩
end IQ_
/-- both sides of_ one_ -/
theorem inq_2 {cl_ ch_ : Nat → Nat} {n_ : Nat} {A_ : Nat → Prop} {c_ : List Nat} {I_ : Nat → Int} {k_ ct : Nat} (hc_ : clo (sds cl_ ch_) n_ A_ c_) (h_ : inq (sds cl_ ch_) n_ A_ c_ I_ (2 * k_) ct) (hk_ : k_ < ct) :
    (cl_ (I_ k_).toNat ∈ c_ → ch_ (I_ k_).toNat ∈ c_ → inq (sds cl_ ch_) n_ A_ c_ I_ (2 * (k_ + 1)) ct) ∧
    (cl_ (I_ k_).toNat ∈ c_ → ¬ ch_ (I_ k_).toNat ∈ c_ → ct ≤ n_ ∧ ∀ J_ : Nat → Int, (∀ j_, J_ j_ = if j_ = ct then (ch_ (I_ k_).toNat : Int) else I_ j_) → inq (sds cl_ ch_) n_ A_ c_ J_ (2 * (k_ + 1)) (ct + 1)) ∧
    (¬ cl_ (I_ k_).toNat ∈ c_ → ct ≤ n_) ∧
    (¬ cl_ (I_ k_).toNat ∈ c_ → ch_ (I_ k_).toNat ∈ c_ → ∀ J_ : Nat → Int, (∀ j_, J_ j_ = if j_ = ct then (cl_ (I_ k_).toNat : Int) else I_ j_) → inq (sds cl_ ch_) n_ A_ c_ J_ (2 * (k_ + 1)) (ct + 1)) ∧
    (¬ cl_ (I_ k_).toNat ∈ c_ → ¬ ch_ (I_ k_).toNat ∈ c_ → ct + 1 ≤ n_ ∧ ∀ J_ : Nat → Int, (∀ j_, J_ j_ = if j_ = ct + 1 then (ch_ (I_ k_).toNat : Int) else if j_ = ct then (cl_ (I_ k_).toNat : Int) else I_ j_) → inq (sds cl_ ch_) n_ A_ c_ J_ (2 * (k_ + 1)) (ct + 2)) := by
  have r0_ : 2 * k_ / 2 = k_ := by omega
  have r1_ : 2 * k_ % 2 = 0 := by omega
  have t0_ : (2 * k_ + 1) / 2 = k_ := by omega
  have t1_ : (2 * k_ + 1) % 2 = 1 := by omega
  have e0_ : ∀ x_, sds cl_ ch_ 0 x_ = cl_ x_ := fun x_ => rfl
  have e1_ : ∀ x_, sds cl_ ch_ 1 x_ = ch_ x_ := fun x_ => rfl
  have one_ : cl_ (I_ k_).toNat ∈ c_ → inq (sds cl_ ch_) n_ A_ c_ I_ (2 * k_ + 1) ct := fun z_ => inq_c h_ (by rw [r0_, r1_, e0_]; exact z_)
  have two_ : ¬ cl_ (I_ k_).toNat ∈ c_ → ct ≤ n_ ∧ ∀ J_ : Nat → Int, (∀ j_, J_ j_ = if j_ = ct then (cl_ (I_ k_).toNat : Int) else I_ j_) → inq (sds cl_ ch_) n_ A_ c_ J_ (2 * k_ + 1) (ct + 1) := fun z_ => by
    have q_ := inq_p hc_ h_ (by rw [r0_]; exact hk_) (by rw [r0_, r1_, e0_]; exact z_)
    rw [r0_, r1_, e0_] at q_
    exact q_
  refine ⟨fun z_ y_ => ?_, fun z_ y_ => ?_, fun z_ => (two_ z_).1, fun z_ y_ J_ hJ_ => ?_, fun z_ y_ => ?_⟩
  · exact inq_c (p_ := 2 * k_ + 1) (one_ z_) (by rw [t0_, t1_, e1_]; exact y_)
  · have q_ := inq_p (p_ := 2 * k_ + 1) hc_ (one_ z_) (by rw [t0_]; exact hk_) (by rw [t0_, t1_, e1_]; exact y_)
    rw [t0_, t1_, e1_] at q_
    exact q_
  · have q_ := (two_ z_).2 J_ hJ_
    have jk_ : J_ k_ = I_ k_ := by rw [hJ_ k_, if_neg (by omega)]
    exact inq_c (p_ := 2 * k_ + 1) q_ (by rw [t0_, t1_, e1_, jk_]; exact y_)
  · have q_ := (two_ z_).2 (fun j_ => if j_ = ct then (cl_ (I_ k_).toNat : Int) else I_ j_) (fun j_ => rfl)
    have jk_ : (if k_ = ct then (cl_ (I_ k_).toNat : Int) else I_ k_) = I_ k_ := if_neg (by omega)
    have w_ := inq_p (p_ := 2 * k_ + 1) hc_ q_ (by rw [t0_]; omega) (by rw [t0_, t1_, e1_, jk_]; exact y_)
    rw [t0_, t1_, e1_, jk_] at w_
    refine ⟨w_.1, fun J_ hJ_ => w_.2 J_ (fun j_ => ?_)⟩
    exact hJ_ j_
/-- values worked out_ from the_ last one_ on_ -/
def vdn (cl_ ch_ : Nat → Nat) (tl_ tu_ : Nat → Int) (c_ : List Nat) (I_ V_ : Nat → Int) (m_ ct : Nat) : Prop := (∀ k_ x_ : Nat, c_[k_]? = some x_ → V_ x_ = vtk k_) ∧ ∀ j_, m_ ≤ j_ → j_ < ct → V_ (I_ j_).toNat % 256 = i_and (i_xor (V_ (cl_ (I_ j_).toNat) % 256) (255 * tl_ (I_ j_).toNat)) (i_xor (V_ (ch_ (I_ j_).toNat) % 256) (255 * tu_ (I_ j_).toNat))
section VD_
variable {cl_ ch_ : Nat → Nat} {tl_ tu_ : Nat → Int} {n_ : Nat} {A_ : Nat → Prop} {c_ : List Nat} {I_ V_ : Nat → Int} {m_ ct : Nat}
theorem inq_s (h_ : inq (sds cl_ ch_) n_ A_ c_ I_ (2 * ct) ct) {j_ : Nat} (hj_ : j_ < ct) : (cl_ (I_ j_).toNat ∈ c_ ∨ ∃ i_, j_ < i_ ∧ i_ < ct ∧ I_ i_ = (cl_ (I_ j_).toNat : Int)) ∧ (ch_ (I_ j_).toNat ∈ c_ ∨ ∃ i_, j_ < i_ ∧ i_ < ct ∧ I_ i_ = (ch_ (I_ j_).toNat : Int)) := by
  have a_ := h_.2.2.2.2 (2 * j_) (by omega)
  have b_ := h_.2.2.2.2 (2 * j_ + 1) (by omega)
  rw [show 2 * j_ / 2 = j_ by omega, show 2 * j_ % 2 = 0 by omega] at a_
  rw [show (2 * j_ + 1) / 2 = j_ by omega, show (2 * j_ + 1) % 2 = 1 by omega] at b_
  exact ⟨a_, b_⟩
theorem vdn_s {V'_ : Nat → Int} {w_ : Int} (hc_ : clo (sds cl_ ch_) n_ A_ c_) (h_ : inq (sds cl_ ch_) n_ A_ c_ I_ (2 * ct) ct) (v_ : vdn cl_ ch_ tl_ tu_ c_ I_ V_ (m_ + 1) ct) (hm9_ : m_ < ct) (hw_ : w_ % 256 = i_and (i_xor (V_ (cl_ (I_ m_).toNat) % 256) (255 * tl_ (I_ m_).toNat)) (i_xor (V_ (ch_ (I_ m_).toNat) % 256) (255 * tu_ (I_ m_).toNat))) (hJ_ : ∀ j_, V'_ j_ = if j_ = (I_ m_).toNat then w_ else V_ j_) : vdn cl_ ch_ tl_ tu_ c_ I_ V'_ m_ ct := by
  have am_ := h_.2.1 m_ hm9_
  have mc := (hc_.2.1 _ am_.2).2.1
  have oc_ : ∀ z_, z_ ∈ c_ → V'_ z_ = V_ z_ := fun z_ hz_ => by rw [hJ_ z_, if_neg (fun e_ => mc (by rw [← e_]; exact hz_))]
  have oi_ : ∀ i_, m_ < i_ → i_ < ct → V'_ (I_ i_).toNat = V_ (I_ i_).toNat := fun i_ h1_ h2_ => by
    rw [hJ_, if_neg (fun e_ => h_.2.2.1 m_ i_ h1_ h2_ (by
      have := (h_.2.1 i_ h2_).1
      omega))]
  have os_ : ∀ j_ z_, m_ ≤ j_ → (z_ ∈ c_ ∨ ∃ i_, j_ < i_ ∧ i_ < ct ∧ I_ i_ = (z_ : Int)) → V'_ z_ = V_ z_ := by
    intro j_ z_ hj_ hz_
    rcases hz_ with u_ | ⟨i_, i1_, i2_, i3_⟩
    · exact oc_ z_ u_
    · have q_ := oi_ i_ (by omega) i2_
      rw [i3_, Int.toNat_natCast] at q_
      exact q_
  refine ⟨fun k_ x_ hx_ => ?_, fun j_ h1_ h2_ => ?_⟩
  · rw [oc_ x_ (List.mem_of_getElem? hx_)]
    exact v_.1 k_ x_ hx_
  · have s_ := inq_s h_ h2_
    rw [os_ j_ _ h1_ s_.1, os_ j_ _ h1_ s_.2]
    by_cases e_ : j_ = m_
    · rw [e_, hJ_, if_pos rfl]
      exact hw_
    · rw [oi_ j_ (by omega) h2_]
      exact v_.2 j_ (by omega) h2_
theorem vdn_t (hc_ : clo (sds cl_ ch_) n_ A_ c_) (h_ : inq (sds cl_ ch_) n_ A_ c_ I_ (2 * ct) ct) (v_ : vdn cl_ ch_ tl_ tu_ c_ I_ V_ 0 ct) : ∃ (B_ : Nat → Prop) (t_ : Nat → Int), B_ n_ ∧ (∀ x_, B_ x_ → A_ x_) ∧ tvf cl_ ch_ tl_ tu_ c_ B_ t_ ∧ V_ n_ % 256 = t_ n_ := by
  refine ⟨fun x_ => ∃ j_, j_ < ct ∧ I_ j_ = (x_ : Int), fun x_ => V_ x_ % 256, ⟨0, h_.1.2, h_.1.1⟩, fun x_ hx_ => ?_, ⟨fun k_ x_ hx_ => ?_, fun x_ hx_ => ?_⟩, rfl⟩
  · obtain ⟨j_, j1_, j2_⟩ := hx_
    have q_ := (h_.2.1 j_ j1_).2
    rw [j2_, Int.toNat_natCast] at q_
    exact q_
  · show V_ x_ % 256 = vtk k_
    rw [v_.1 k_ x_ hx_]
    have b_ := vtk_b (k_ := k_)
    omega
  · obtain ⟨j_, j1_, j2_⟩ := hx_
    have ej_ : (I_ j_).toNat = x_ := by rw [j2_, Int.toNat_natCast]
    have a_ := h_.2.1 j_ j1_
    have s_ := inq_s h_ j1_
    have e_ := v_.2 j_ (Nat.zero_le _) j1_
    rw [ej_] at a_ s_ e_
    have cx_ := hc_.2.1 x_ a_.2
    refine ⟨⟨⟨(cx_.2.2.2 0 (by decide)).1, (cx_.2.2.2 1 (by decide)).1⟩, ?_, ?_⟩, e_⟩
    · rcases s_.1 with u_ | ⟨i_, _, i2_, i3_⟩
      · exact Or.inr u_
      · exact Or.inl ⟨i_, i2_, i3_⟩
    · rcases s_.2 with u_ | ⟨i_, _, i2_, i3_⟩
      · exact Or.inr u_
      · exact Or.inl ⟨i_, i2_, i3_⟩
end VD_

/-! Mapper.placeIn -/
def vw_106n : sx_Wl := ([], [], [])
def vq_106n (a1_ : Int) (a2_ : Int) (c_ : List Nat) (S0_ : sm_S) (u_ : Option sm_V) (S1_ : sm_S) : Prop := S0_ = S1_ ∧ ∃ v_ : Int, u_ = some (.inl v_) ∧ ((-1 ≤ v_ ∧ v_ ≤ 2) ∧ (v_ = -1 ↔ ¬ a2_.toNat ∈ c_))
set_option maxHeartbeats 400000 in
theorem vl_106n {sc_ : Nat × (Nat → Int)} (a1_ : Int) (a2_ : Int) (c_ : List Nat) (S0_ : sm_S) (h1_ : 0 ≤ a1_ ∧ a1_ ≤ 1023) (h2_ : 0 ≤ a2_) (hl_ : (2 ≤ c_.length ∧ c_.length ≤ 3) ∧ ris c_) (hcv_ : ∀ j_ : Nat, j_ < 3 → S0_.2.2.1 65 0 (3 * a1_.toNat + j_) = cva c_ j_) : ∀ nn_ : Nat, (∀ (k_ : Int) (S_ : sm_S), gi S_ → ai_fr (sx_W vw_106n) S0_ S_ → ((0 ≤ k_ ∧ k_ ≤ 3) ∧ (∀ j_ : Nat, (j_ : Int) < k_ → cva c_ j_ ≠ a2_) ∧ (S_ = S0_) ∧ True) → ((10 - k_).toNat) < nn_ → sm_T (mt_P sc_) 0 106 (2, [some (.inr (.inr (some (6, 0)))), some (.inl a1_), some (.inl a2_), some (.inl k_)], [], S_) (fun ro9_ => ∃ u_ S1_, ro9_ = (.inl u_, S1_, 0) ∧ vq_106n a1_ a2_ c_ S0_ u_ S1_)) := by
  intro nn_
  induction nn_ with
  | zero => exact fun _ _ _ _ _ h_ => absurd h_ (Nat.not_lt_zero _)
  | succ nn_ ih_ =>
    rintro k_ S_ hI_ hF_ ⟨h0_, hn_, hS_, -⟩ hm_
    subst hS_
    refine sm_T_go 2 (c1 := (4, [some (.inr (.inr (some (6, 0)))), some (.inl a1_), some (.inl a2_), some (.inl k_)], [.inl 3, .inl k_], S_)) rfl ?_
    refine sm_T_br (a := 3) (z := 25) rfl (fun cx1_ => ?_) (fun cx1_ => ?_)
    · have cx1_ : 3 ≤ k_ := of_decide_eq_true cx1_
      refine sm_T_go 1 (c1 := (30, [some (.inr (.inr (some (6, 0)))), some (.inl a1_), some (.inl a2_), some (.inl k_)], [.inl (-1)], S_)) rfl ?_
      refine sm_T_ri rfl ⟨_, _, rfl, (by first | rfl | exact hS_.symm), _, rfl, ?_⟩
      refine ⟨by omega, fun _ u_ => ?_, fun _ => rfl⟩
      obtain ⟨j9_, hj9_⟩ := List.getElem?_of_mem u_
      have l9_ := (List.getElem?_eq_some_iff.mp hj9_).1
      have c9_ : cva c_ j9_ = ((a2_.toNat : Nat) : Int) := by (unfold cva; rw [hj9_])
      exact hn_ j9_ (by omega) (by omega)
    · have cx1_ : ¬ (3 ≤ k_) := of_decide_eq_false cx1_
      refine sm_T_go 4 (c1 := (13, [some (.inr (.inr (some (6, 0)))), some (.inl a1_), some (.inl a2_), some (.inl k_)], [.inl a1_, .inl 3, .inr (.inr (some (65, 0)))], S_)) rfl ?_
      refine sm_T_bin (w := 3 * a1_) rfl (bi_mul (by omega) (by omega) (by omega)) ?_ -- pc_ 13
      refine sm_T_go 1 (c1 := (15, [some (.inr (.inr (some (6, 0)))), some (.inl a1_), some (.inl a2_), some (.inl k_)], [.inl k_, .inl (3 * a1_), .inr (.inr (some (65, 0)))], S_)) rfl ?_
      refine sm_T_bin (w := 3 * a1_ + k_) rfl (bi_add (by omega) (by omega) (by omega)) ?_ -- pc_ 15
      refine sm_T_iald (n := 3072) rfl rfl (by omega) (by omega) ?_
      have bx2_ : (-1) ≤ S_.2.2.1 65 0 (3 * a1_ + k_).toNat ∧ S_.2.2.1 65 0 (3 * a1_ + k_).toNat ≤ 1012 := hI_.2 65 0 _
      refine sm_T_go 1 (c1 := (18, [some (.inr (.inr (some (6, 0)))), some (.inl a1_), some (.inl a2_), some (.inl k_)], [.inl a2_, .inl (S_.2.2.1 65 0 (3 * a1_ + k_).toNat)], S_)) rfl ?_
      refine sm_T_br (a := 1) (z := 5) rfl (fun cx3_ => ?_) (fun cx3_ => ?_)
      · have cx3_ : (S_.2.2.1 65 0 (3 * a1_ + k_).toNat) ≠ a2_ := of_decide_eq_true cx3_
        have e9_ := hcv_ k_.toNat (by omega)
        rw [show 3 * a1_.toNat + k_.toNat = (3 * a1_ + k_).toNat by omega] at e9_
        refine sm_T_inc (a := 3) (z := 1) (v := k_) (w := k_ + 1) rfl rfl (by omega) (by omega) (by omega) ?_ -- pc_ 23
        refine sm_T_go 1 (c1 := (2, [some (.inr (.inr (some (6, 0)))), some (.inl a1_), some (.inl a2_), some (.inl (k_ + 1))], [], S_)) rfl ?_
        refine ih_ (k_ + 1) S_ hI_ hF_ ⟨?_, ?_, ?_, trivial⟩ ?_
        · omega
        · intro j_ hj_
          by_cases z9_ : (j_ : Int) = k_
          · rw [show j_ = k_.toNat by omega]; omega
          · exact hn_ j_ (by omega)
        · rfl
        · omega
      · have cx3_ : ¬ ((S_.2.2.1 65 0 (3 * a1_ + k_).toNat) ≠ a2_) := of_decide_eq_false cx3_
        have e9_ := hcv_ k_.toNat (by omega)
        rw [show 3 * a1_.toNat + k_.toNat = (3 * a1_ + k_).toNat by omega] at e9_
        refine sm_T_go 1 (c1 := (22, [some (.inr (.inr (some (6, 0)))), some (.inl a1_), some (.inl a2_), some (.inl k_)], [.inl k_], S_)) rfl ?_
        refine sm_T_ri rfl ⟨_, _, rfl, (by first | rfl | exact hS_.symm), _, rfl, ?_⟩
        refine ⟨by omega, fun u_ => by (exfalso; omega), fun u_ => ?_⟩
        exfalso
        have q9_ := cva_x (c_ := c_) (k_ := k_.toNat) (v_ := a2_) (by omega) (by omega)
        exact u_ (List.mem_of_getElem? q9_)
set_option maxHeartbeats 400000 in
theorem vc_106n {sc_ : Nat × (Nat → Int)} (a1_ : Int) (a2_ : Int) (c_ : List Nat) (S0_ : sm_S) (hI_ : gi S0_) (h1_ : 0 ≤ a1_ ∧ a1_ ≤ 1023) (h2_ : 0 ≤ a2_) (hl_ : (2 ≤ c_.length ∧ c_.length ≤ 3) ∧ ris c_) (hcv_ : ∀ j_ : Nat, j_ < 3 → S0_.2.2.1 65 0 (3 * a1_.toNat + j_) = cva c_ j_) : sm_T (mt_P sc_) 0 106 (0, [some (.inr (.inr (some (6, 0)))), some (.inl a1_), some (.inl a2_), none], [], S0_) (fun ro9_ => ∃ u_ S1_, ro9_ = (.inl u_, S1_, 0) ∧ vq_106n a1_ a2_ c_ S0_ u_ S1_) := by
  have hF_ : ai_fr (sx_W vw_106n) S0_ S0_ := ai_fr_rf
  refine sm_T_go 2 (c1 := (2, [some (.inr (.inr (some (6, 0)))), some (.inl a1_), some (.inl a2_), some (.inl 0)], [], S0_)) rfl ?_
  refine (vl_106n a1_ a2_ c_ S0_ h1_ h2_ hl_ hcv_ _) 0 S0_ hI_ hF_ ⟨?_, ?_, ?_, trivial⟩ (Nat.lt_succ_self _)
  · omega
  · (intro j_ hj_; exfalso; omega)
  · rfl
/-! Mapper.tableOver -/
def vw_105n : sx_Wl := ([], [70, 71], [])
def vq_105n (a1_ : Int) (a2_ : Int) (dd_ : Nat) (F_ : Nat) (A_ : Nat → Prop) (c_ : List Nat) (S0_ : sm_S) (u_ : Option sm_V) (S1_ : sm_S) : Prop := ∃ v_ : Int, u_ = some (.inl v_) ∧ gi S1_ ∧ ai_fr (sx_W vw_105n) S0_ S1_ ∧ ((0 ≤ v_ ∧ v_ ≤ 255) ∧ ∃ (B_ : Nat → Prop) (t_ : Nat → Int), B_ a1_.toNat ∧ (∀ x_, B_ x_ → A_ x_) ∧ tvf (fun x_ => srp dd_ S0_ (S0_.2.2.1 42 (0 + dd_) x_)) (fun x_ => srp dd_ S0_ (S0_.2.2.1 43 (0 + dd_) x_)) (fun x_ => slt dd_ S0_ (S0_.2.2.1 42 (0 + dd_) x_) % 2) (fun x_ => slt dd_ S0_ (S0_.2.2.1 43 (0 + dd_) x_) % 2) c_ B_ t_ ∧ v_ = t_ a1_.toNat % (if c_.length = 2 then 16 else 256))
set_option maxHeartbeats 3000000 in
set_option maxRecDepth 20000 in
theorem vl_105n {sc_ : Nat × (Nat → Int)} (a1_ : Int) (a2_ : Int) (dd_ : Nat) (F_ : Nat) (A_ : Nat → Prop) (c_ : List Nat) (S0_ : sm_S) (hd_ : S0_.2.1 6 0 0 = some dd_) (hg_ : dgr dd_ F_ S0_) (hs_ : swp dd_ F_ S0_) (h1_ : (F_ : Int) ≤ a1_ ∧ a1_ < S0_.1 3 dd_ 4) (h2_ : 0 ≤ a2_ ∧ a2_ ≤ 1023) (hl_ : (2 ≤ c_.length ∧ c_.length ≤ 3) ∧ ris c_) (hcv_ : ∀ j_ : Nat, j_ < 3 → S0_.2.2.1 65 0 (3 * a2_.toNat + j_) = cva c_ j_) (hclo : clo (sds (fun x_ => srp dd_ S0_ (S0_.2.2.1 42 (0 + dd_) x_)) (fun x_ => srp dd_ S0_ (S0_.2.2.1 43 (0 + dd_) x_))) a1_.toNat A_ c_) (hAF_ : ∀ x_, A_ x_ → F_ ≤ x_) : ∀ nn_ : Nat, (∀ (ct : Int) (k_ : Int) (S_ : sm_S), gi S_ → ai_fr (sx_W vw_105n) S0_ S_ → ((1 ≤ ct ∧ ct ≤ 1013 ∧ 0 ≤ k_ ∧ k_ ≤ ct) ∧ (inq (sds (fun x_ => srp dd_ S0_ (S0_.2.2.1 42 (0 + dd_) x_)) (fun x_ => srp dd_ S0_ (S0_.2.2.1 43 (0 + dd_) x_))) a1_.toNat A_ c_ (S_.2.2.1 70 0) (2 * k_.toNat) ct.toNat) ∧ True) → ((9000 - k_).toNat) < nn_ → sm_T (mt_P sc_) 2 105 (12, [some (.inr (.inr (some (6, 0)))), some (.inl a1_), some (.inl a2_), some (.inl ct), some (.inl k_), none, none], [], S_) (fun ro9_ => ∃ u_ S1_, ro9_ = (.inl u_, S1_, 0) ∧ vq_105n a1_ a2_ dd_ F_ A_ c_ S0_ u_ S1_)) ∧ (∀ (ct : Int) (k_ : Int) (S_ : sm_S), gi S_ → ai_fr (sx_W vw_105n) S0_ S_ → ((1 ≤ ct ∧ ct ≤ 1013 ∧ 0 ≤ k_ ∧ k_ ≤ 3) ∧ (inq (sds (fun x_ => srp dd_ S0_ (S0_.2.2.1 42 (0 + dd_) x_)) (fun x_ => srp dd_ S0_ (S0_.2.2.1 43 (0 + dd_) x_))) a1_.toNat A_ c_ (S_.2.2.1 70 0) (2 * ct.toNat) ct.toNat) ∧ (∀ m_ x_ : Nat, (m_ : Int) < k_ → c_[m_]? = some x_ → S_.2.2.1 71 0 x_ = vtk m_) ∧ True) → ((7000 - k_).toNat) < nn_ → sm_T (mt_P sc_) 2 105 (125, [some (.inr (.inr (some (6, 0)))), some (.inl a1_), some (.inl a2_), some (.inl ct), some (.inl k_), none, none], [], S_) (fun ro9_ => ∃ u_ S1_, ro9_ = (.inl u_, S1_, 0) ∧ vq_105n a1_ a2_ dd_ F_ A_ c_ S0_ u_ S1_)) ∧ (∀ (ct : Int) (k_ : Int) (S_ : sm_S), gi S_ → ai_fr (sx_W vw_105n) S0_ S_ → ((1 ≤ ct ∧ ct ≤ 1013 ∧ -1 ≤ k_ ∧ k_ < ct) ∧ (inq (sds (fun x_ => srp dd_ S0_ (S0_.2.2.1 42 (0 + dd_) x_)) (fun x_ => srp dd_ S0_ (S0_.2.2.1 43 (0 + dd_) x_))) a1_.toNat A_ c_ (S_.2.2.1 70 0) (2 * ct.toNat) ct.toNat) ∧ (vdn (fun x_ => srp dd_ S0_ (S0_.2.2.1 42 (0 + dd_) x_)) (fun x_ => srp dd_ S0_ (S0_.2.2.1 43 (0 + dd_) x_)) (fun x_ => slt dd_ S0_ (S0_.2.2.1 42 (0 + dd_) x_) % 2) (fun x_ => slt dd_ S0_ (S0_.2.2.1 43 (0 + dd_) x_) % 2) c_ (S_.2.2.1 70 0) (S_.2.2.1 71 0) (k_ + 1).toNat ct.toNat) ∧ True) → ((k_ + 5).toNat) < nn_ → sm_T (mt_P sc_) 2 105 (179, [some (.inr (.inr (some (6, 0)))), some (.inl a1_), some (.inl a2_), some (.inl ct), some (.inl k_), none, none], [], S_) (fun ro9_ => ∃ u_ S1_, ro9_ = (.inl u_, S1_, 0) ∧ vq_105n a1_ a2_ dd_ F_ A_ c_ S0_ u_ S1_)) := by
  intro nn_
  induction nn_ with
  | zero => exact ⟨fun _ _ _ _ _ _ h_ => absurd h_ (Nat.not_lt_zero _), fun _ _ _ _ _ _ h_ => absurd h_ (Nat.not_lt_zero _), fun _ _ _ _ _ _ h_ => absurd h_ (Nat.not_lt_zero _)⟩
  | succ nn_ ih_ =>
    refine ⟨?_, ?_, ?_⟩
    · rintro ct k_ S_ hI_ hF_ ⟨h0_, hq_, -⟩ hm_
      have f42_ : S_.2.2.1 42 (0 + dd_) = S0_.2.2.1 42 (0 + dd_) := fr_arr hF_ rfl
      have f43_ : S_.2.2.1 43 (0 + dd_) = S0_.2.2.1 43 (0 + dd_) := fr_arr hF_ rfl
      have f44_ : S_.2.2.1 44 (0 + dd_) = S0_.2.2.1 44 (0 + dd_) := fr_arr hF_ rfl
      have f65_ : S_.2.2.1 65 0 = S0_.2.2.1 65 0 := fr_arr hF_ rfl
      have n13_ : 0 ≤ S_.1 3 dd_ 4 ∧ S_.1 3 dd_ 4 ≤ 1013 := hI_.1 3 dd_ 4 rfl
      have f4_ : S_.1 3 dd_ 4 = S0_.1 3 dd_ 4 := hF_.1 3 dd_ 4 rfl
      refine sm_T_go 2 (c1 := (15, [some (.inr (.inr (some (6, 0)))), some (.inl a1_), some (.inl a2_), some (.inl ct), some (.inl k_), none, none], [.inl ct, .inl k_], S_)) rfl ?_
      refine sm_T_br (a := 3) (z := 107) rfl (fun cx1_ => ?_) (fun cx1_ => ?_)
      · have cx1_ : ct ≤ k_ := of_decide_eq_true cx1_
        refine sm_T_go 2 (c1 := (125, [some (.inr (.inr (some (6, 0)))), some (.inl a1_), some (.inl a2_), some (.inl ct), some (.inl 0), none, none], [], S_)) rfl ?_
        refine ih_.2.1 ct 0 S_ hI_ hF_ ⟨?_, ?_, ?_, trivial⟩ ?_
        · omega
        · have e9_ : k_.toNat = ct.toNat := by omega
          rw [e9_] at hq_
          exact hq_
        · (intro m_ x_ u_ w_; exfalso; omega)
        · omega
      · have cx1_ : ¬ (ct ≤ k_) := of_decide_eq_false cx1_
        refine sm_T_go 4 (c1 := (25, [some (.inr (.inr (some (6, 0)))), some (.inl a1_), some (.inl a2_), some (.inl ct), some (.inl k_), none, none], [.inl 1013, .inl k_], S_)) rfl ?_
        refine sm_T_br (a := 3) (z := 97) rfl (fun cx2_ => ?_) (fun cx2_ => ?_)
        · have cx2_ : 1013 ≤ k_ := of_decide_eq_true cx2_
          refine sm_T_go 2 (c1 := (125, [some (.inr (.inr (some (6, 0)))), some (.inl a1_), some (.inl a2_), some (.inl ct), some (.inl 0), none, none], [], S_)) rfl ?_
          refine ih_.2.1 ct 0 S_ hI_ hF_ ⟨?_, ?_, ?_, trivial⟩ ?_
          · omega
          · have e9_ : k_.toNat = ct.toNat := by omega
            rw [e9_] at hq_
            exact hq_
          · (intro m_ x_ u_ w_; exfalso; omega)
          · omega
        · have cx2_ : ¬ (1013 ≤ k_) := of_decide_eq_false cx2_
          have ik9_ := hq_.2.1 k_.toNat (by omega)
          have ax9_ := hclo.2.1 _ ik9_.2
          have fx9_ := hAF_ _ ik9_.2
          have xn9_ := ax9_.1
          have Q9_ := inq_2 (k_ := k_.toNat) hclo hq_ (by omega)
          refine sm_T_go 4 (c1 := (35, [some (.inr (.inr (some (6, 0)))), some (.inl a1_), some (.inl a2_), some (.inl ct), some (.inl k_), none, none], [.inl k_, .inr (.inr (some (70, 0))), .inr (.inr (some (6, 0)))], S_)) rfl ?_
          refine sm_T_iald (n := 1013) rfl rfl (by omega) (by omega) ?_
          have bx3_ : 0 ≤ S_.2.2.1 70 0 k_.toNat ∧ S_.2.2.1 70 0 k_.toNat ≤ 1012 := hI_.2 70 0 _
          refine sm_T_cal (d1 := 1) (Q1 := vq_92 (S_.2.2.1 70 0 k_.toNat) dd_ S_) rfl rfl (by decide) (vc_92 (S_.2.2.1 70 0 k_.toNat) dd_ S_ hI_ (by exact (hF_.2.1 6 0 0 rfl).trans hd_) (by omega)) (fun u_ Sx4_ px7_ => ?_)
          obtain ⟨rfl, vx9_, rfl, px7_⟩ := px7_
          have l36_ := px7_.1
          have v36_ : vx9_ = (srp dd_ S0_ (S0_.2.2.1 42 (0 + dd_) (S_.2.2.1 70 0 k_.toNat).toNat) : Int) := by (have q9_ := px7_.2 F_ (dgr_fr hg_ hF_ rfl rfl rfl rfl rfl) (swp_fr hs_ hF_ rfl rfl rfl rfl) (by omega) (by rw [hF_.1 3 dd_ 4 rfl]; omega); unfold srp at q9_ ⊢; rw [fr_arr (t := 44) (i := 0 + dd_) hF_ rfl, fr_arr (t := 42) (i := 0 + dd_) hF_ rfl] at q9_; exact q9_)
          refine sm_T_go 5 (c1 := (48, [some (.inr (.inr (some (6, 0)))), some (.inl a1_), some (.inl a2_), some (.inl ct), some (.inl k_), some (.inl vx9_), none], [.inl k_, .inr (.inr (some (70, 0))), .inr (.inr (some (6, 0)))], S_)) rfl ?_
          refine sm_T_iald (n := 1013) rfl rfl (by omega) (by omega) ?_
          refine sm_T_cal (d1 := 1) (Q1 := vq_93 (S_.2.2.1 70 0 k_.toNat) dd_ S_) rfl rfl (by decide) (vc_93 (S_.2.2.1 70 0 k_.toNat) dd_ S_ hI_ (by exact (hF_.2.1 6 0 0 rfl).trans hd_) (by omega)) (fun u_ Sx10_ px13_ => ?_)
          obtain ⟨rfl, vx15_, rfl, px13_⟩ := px13_
          have l49_ := px13_.1
          have v49_ : vx15_ = (srp dd_ S0_ (S0_.2.2.1 43 (0 + dd_) (S_.2.2.1 70 0 k_.toNat).toNat) : Int) := by (have q9_ := px13_.2 F_ (dgr_fr hg_ hF_ rfl rfl rfl rfl rfl) (swp_fr hs_ hF_ rfl rfl rfl rfl) (by omega) (by rw [hF_.1 3 dd_ 4 rfl]; omega); unfold srp at q9_ ⊢; rw [fr_arr (t := 44) (i := 0 + dd_) hF_ rfl, fr_arr (t := 43) (i := 0 + dd_) hF_ rfl] at q9_; exact q9_)
          refine sm_T_go 4 (c1 := (58, [some (.inr (.inr (some (6, 0)))), some (.inl a1_), some (.inl a2_), some (.inl ct), some (.inl k_), some (.inl vx9_), some (.inl vx15_)], [.inl vx9_, .inl a2_, .inr (.inr (some (6, 0)))], S_)) rfl ?_
          refine sm_T_cal (d1 := 0) (Q1 := vq_106n a2_ vx9_ c_ S_) rfl rfl (by decide) (vc_106n a2_ vx9_ c_ S_ hI_ (by omega) (by omega) (by exact hl_) (by (intro j9_ u9_; first | (rw [rd_ne (by decide), fr_arr (t := 65) (i := 0) hF_ rfl]; exact hcv_ j9_ u9_) | (rw [fr_arr (t := 65) (i := 0) hF_ rfl]; exact hcv_ j9_ u9_)))) (fun u_ Sx16_ px19_ => ?_)
          obtain ⟨rfl, vx21_, rfl, px19_⟩ := px19_
          have p58_ := px19_
          rw [v36_, Int.toNat_natCast] at p58_
          refine sm_T_go 1 (c1 := (62, [some (.inr (.inr (some (6, 0)))), some (.inl a1_), some (.inl a2_), some (.inl ct), some (.inl k_), some (.inl vx9_), some (.inl vx15_)], [.inl (-1), .inl vx21_], S_)) rfl ?_
          refine sm_T_br (a := 1) (z := 23) rfl (fun cx22_ => ?_) (fun cx22_ => ?_)
          · have cx22_ : vx21_ ≠ (-1) := of_decide_eq_true cx22_
            have i58_ : srp dd_ S0_ (S0_.2.2.1 42 (0 + dd_) (S_.2.2.1 70 0 k_.toNat).toNat) ∈ c_ := Classical.byContradiction (fun h9_ => cx22_ (p58_.2.mpr h9_))
            refine sm_T_go 3 (c1 := (89, [some (.inr (.inr (some (6, 0)))), some (.inl a1_), some (.inl a2_), some (.inl ct), some (.inl k_), some (.inl vx9_), some (.inl vx15_)], [.inl vx15_, .inl a2_, .inr (.inr (some (6, 0)))], S_)) rfl ?_
            refine sm_T_cal (d1 := 0) (Q1 := vq_106n a2_ vx15_ c_ S_) rfl rfl (by decide) (vc_106n a2_ vx15_ c_ S_ hI_ (by omega) (by omega) (by exact hl_) (by (intro j9_ u9_; first | (rw [rd_ne (by decide), fr_arr (t := 65) (i := 0) hF_ rfl]; exact hcv_ j9_ u9_) | (rw [fr_arr (t := 65) (i := 0) hF_ rfl]; exact hcv_ j9_ u9_)))) (fun u_ Sx23_ px26_ => ?_)
            obtain ⟨rfl, vx28_, rfl, px26_⟩ := px26_
            have p89_ := px26_
            rw [v49_, Int.toNat_natCast] at p89_
            refine sm_T_go 1 (c1 := (93, [some (.inr (.inr (some (6, 0)))), some (.inl a1_), some (.inl a2_), some (.inl ct), some (.inl k_), some (.inl vx9_), some (.inl vx15_)], [.inl (-1), .inl vx28_], S_)) rfl ?_
            refine sm_T_br (a := 1) (z := 23) rfl (fun cx29_ => ?_) (fun cx29_ => ?_)
            · have cx29_ : vx28_ ≠ (-1) := of_decide_eq_true cx29_
              have i89_ : srp dd_ S0_ (S0_.2.2.1 43 (0 + dd_) (S_.2.2.1 70 0 k_.toNat).toNat) ∈ c_ := Classical.byContradiction (fun h9_ => cx29_ (p89_.2.mpr h9_))
              refine sm_T_inc (a := 4) (z := 1) (v := k_) (w := k_ + 1) rfl rfl (by omega) (by omega) (by omega) ?_ -- pc_ 116
              refine sm_T_go 1 (c1 := (12, [some (.inr (.inr (some (6, 0)))), some (.inl a1_), some (.inl a2_), some (.inl ct), some (.inl (k_ + 1)), some (.inl vx9_), some (.inl vx15_)], [], S_)) rfl ?_
              refine sm_T_wk [some (.inr (.inr (some (6, 0)))), some (.inl a1_), some (.inl a2_), some (.inl ct), some (.inl (k_ + 1)), none, none] (by exact ⟨rfl, rfl, rfl, rfl, rfl, trivial⟩) ?_
              refine ih_.1 ct (k_ + 1) S_ hI_ hF_ ⟨?_, ?_, trivial⟩ ?_
              · omega
              · rw [show (k_ + 1).toNat = k_.toNat + 1 by omega]
                exact Q9_.1 i58_ i89_
              · omega
            · have cx29_ : ¬ (vx28_ ≠ (-1)) := of_decide_eq_false cx29_
              have o89_ : ¬ srp dd_ S0_ (S0_.2.2.1 43 (0 + dd_) (S_.2.2.1 70 0 k_.toNat).toNat) ∈ c_ := p89_.2.mp (Classical.byContradiction (fun h9_ => cx29_ h9_))
              refine sm_T_go 4 (c1 := (102, [some (.inr (.inr (some (6, 0)))), some (.inl a1_), some (.inl a2_), some (.inl ct), some (.inl k_), some (.inl vx9_), some (.inl vx15_)], [.inl 1013, .inl ct], S_)) rfl ?_
              refine sm_T_br (a := 3) (z := 14) rfl (fun cx30_ => ?_) (fun cx30_ => ?_)
              · have cx30_ : 1013 ≤ ct := of_decide_eq_true cx30_
                exfalso; first | (have y8_ := o58_; have z9_ := (Q9_.2.2.2.2 o58_ o89_).1; omega) | (have y8_ := i58_; have z9_ := (Q9_.2.1 i58_ o89_).1; omega)
              · have cx30_ : ¬ (1013 ≤ ct) := of_decide_eq_false cx30_
                refine sm_T_go 4 (c1 := (112, [some (.inr (.inr (some (6, 0)))), some (.inl a1_), some (.inl a2_), some (.inl ct), some (.inl k_), some (.inl vx9_), some (.inl vx15_)], [.inl vx15_, .inl ct, .inr (.inr (some (70, 0)))], S_)) rfl ?_
                refine sm_T_iast (n := 1013) rfl rfl (by omega) (by omega) ?_
                have hIx31_ : gi (sm_aI S_ 70 0 ct.toNat vx15_) := gi_aI hI_ (show 0 ≤ vx15_ ∧ vx15_ ≤ 1012 from ⟨by omega, by omega⟩)
                have hFx32_ : ai_fr (sx_W vw_105n) S0_ (sm_aI S_ 70 0 ct.toNat vx15_) := ai_fr_tr hF_ (ai_fr_aI rfl)
                refine sm_T_inc (a := 3) (z := 1) (v := ct) (w := ct + 1) rfl rfl (by omega) (by omega) (by omega) ?_ -- pc_ 113
                refine sm_T_inc (a := 4) (z := 1) (v := k_) (w := k_ + 1) rfl rfl (by omega) (by omega) (by omega) ?_ -- pc_ 116
                refine sm_T_go 1 (c1 := (12, [some (.inr (.inr (some (6, 0)))), some (.inl a1_), some (.inl a2_), some (.inl (ct + 1)), some (.inl (k_ + 1)), some (.inl vx9_), some (.inl vx15_)], [], sm_aI S_ 70 0 ct.toNat vx15_)) rfl ?_
                refine sm_T_wk [some (.inr (.inr (some (6, 0)))), some (.inl a1_), some (.inl a2_), some (.inl (ct + 1)), some (.inl (k_ + 1)), none, none] (by exact ⟨rfl, rfl, rfl, rfl, rfl, trivial⟩) ?_
                refine ih_.1 (ct + 1) (k_ + 1) (sm_aI S_ 70 0 ct.toNat vx15_) hIx31_ hFx32_ ⟨?_, ?_, trivial⟩ ?_
                · omega
                · rw [show (k_ + 1).toNat = k_.toNat + 1 by omega, show (ct + 1).toNat = ct.toNat + 1 by omega]
                  first | (have y8_ := i58_; exact (Q9_.2.1 i58_ o89_).2 _ (fun j_ => by rw [rd_eq, v49_])) | (have y8_ := o58_; exact Q9_.2.2.2.1 o58_ i89_ _ (fun j_ => by rw [rd_eq, v36_]))
                · omega
          · have cx22_ : ¬ (vx21_ ≠ (-1)) := of_decide_eq_false cx22_
            have o58_ : ¬ srp dd_ S0_ (S0_.2.2.1 42 (0 + dd_) (S_.2.2.1 70 0 k_.toNat).toNat) ∈ c_ := p58_.2.mp (Classical.byContradiction (fun h9_ => cx22_ h9_))
            refine sm_T_go 4 (c1 := (71, [some (.inr (.inr (some (6, 0)))), some (.inl a1_), some (.inl a2_), some (.inl ct), some (.inl k_), some (.inl vx9_), some (.inl vx15_)], [.inl 1013, .inl ct], S_)) rfl ?_
            refine sm_T_br (a := 3) (z := 14) rfl (fun cx33_ => ?_) (fun cx33_ => ?_)
            · have cx33_ : 1013 ≤ ct := of_decide_eq_true cx33_
              exfalso; (have z9_ := Q9_.2.2.1 o58_; omega)
            · have cx33_ : ¬ (1013 ≤ ct) := of_decide_eq_false cx33_
              refine sm_T_go 4 (c1 := (81, [some (.inr (.inr (some (6, 0)))), some (.inl a1_), some (.inl a2_), some (.inl ct), some (.inl k_), some (.inl vx9_), some (.inl vx15_)], [.inl vx9_, .inl ct, .inr (.inr (some (70, 0)))], S_)) rfl ?_
              refine sm_T_iast (n := 1013) rfl rfl (by omega) (by omega) ?_
              have hIx34_ : gi (sm_aI S_ 70 0 ct.toNat vx9_) := gi_aI hI_ (show 0 ≤ vx9_ ∧ vx9_ ≤ 1012 from ⟨by omega, by omega⟩)
              have hFx35_ : ai_fr (sx_W vw_105n) S0_ (sm_aI S_ 70 0 ct.toNat vx9_) := ai_fr_tr hF_ (ai_fr_aI rfl)
              refine sm_T_inc (a := 3) (z := 1) (v := ct) (w := ct + 1) rfl rfl (by omega) (by omega) (by omega) ?_ -- pc_ 82
              refine sm_T_go 3 (c1 := (89, [some (.inr (.inr (some (6, 0)))), some (.inl a1_), some (.inl a2_), some (.inl (ct + 1)), some (.inl k_), some (.inl vx9_), some (.inl vx15_)], [.inl vx15_, .inl a2_, .inr (.inr (some (6, 0)))], sm_aI S_ 70 0 ct.toNat vx9_)) rfl ?_
              refine sm_T_cal (d1 := 0) (Q1 := vq_106n a2_ vx15_ c_ (sm_aI S_ 70 0 ct.toNat vx9_)) rfl rfl (by decide) (vc_106n a2_ vx15_ c_ (sm_aI S_ 70 0 ct.toNat vx9_) hIx34_ (by omega) (by omega) (by exact hl_) (by (intro j9_ u9_; first | (rw [rd_ne (by decide), fr_arr (t := 65) (i := 0) hF_ rfl]; exact hcv_ j9_ u9_) | (rw [fr_arr (t := 65) (i := 0) hF_ rfl]; exact hcv_ j9_ u9_)))) (fun u_ Sx36_ px39_ => ?_)
              obtain ⟨rfl, vx41_, rfl, px39_⟩ := px39_
              have p89_ := px39_
              rw [v49_, Int.toNat_natCast] at p89_
              refine sm_T_go 1 (c1 := (93, [some (.inr (.inr (some (6, 0)))), some (.inl a1_), some (.inl a2_), some (.inl (ct + 1)), some (.inl k_), some (.inl vx9_), some (.inl vx15_)], [.inl (-1), .inl vx41_], sm_aI S_ 70 0 ct.toNat vx9_)) rfl ?_
              refine sm_T_br (a := 1) (z := 23) rfl (fun cx42_ => ?_) (fun cx42_ => ?_)
              · have cx42_ : vx41_ ≠ (-1) := of_decide_eq_true cx42_
                have i89_ : srp dd_ S0_ (S0_.2.2.1 43 (0 + dd_) (S_.2.2.1 70 0 k_.toNat).toNat) ∈ c_ := Classical.byContradiction (fun h9_ => cx42_ (p89_.2.mpr h9_))
                refine sm_T_inc (a := 4) (z := 1) (v := k_) (w := k_ + 1) rfl rfl (by omega) (by omega) (by omega) ?_ -- pc_ 116
                refine sm_T_go 1 (c1 := (12, [some (.inr (.inr (some (6, 0)))), some (.inl a1_), some (.inl a2_), some (.inl (ct + 1)), some (.inl (k_ + 1)), some (.inl vx9_), some (.inl vx15_)], [], sm_aI S_ 70 0 ct.toNat vx9_)) rfl ?_
                refine sm_T_wk [some (.inr (.inr (some (6, 0)))), some (.inl a1_), some (.inl a2_), some (.inl (ct + 1)), some (.inl (k_ + 1)), none, none] (by exact ⟨rfl, rfl, rfl, rfl, rfl, trivial⟩) ?_
                refine ih_.1 (ct + 1) (k_ + 1) (sm_aI S_ 70 0 ct.toNat vx9_) hIx34_ hFx35_ ⟨?_, ?_, trivial⟩ ?_
                · omega
                · rw [show (k_ + 1).toNat = k_.toNat + 1 by omega, show (ct + 1).toNat = ct.toNat + 1 by omega]
                  first | (have y8_ := i58_; exact (Q9_.2.1 i58_ o89_).2 _ (fun j_ => by rw [rd_eq, v49_])) | (have y8_ := o58_; exact Q9_.2.2.2.1 o58_ i89_ _ (fun j_ => by rw [rd_eq, v36_]))
                · omega
              · have cx42_ : ¬ (vx41_ ≠ (-1)) := of_decide_eq_false cx42_
                have o89_ : ¬ srp dd_ S0_ (S0_.2.2.1 43 (0 + dd_) (S_.2.2.1 70 0 k_.toNat).toNat) ∈ c_ := p89_.2.mp (Classical.byContradiction (fun h9_ => cx42_ h9_))
                refine sm_T_go 4 (c1 := (102, [some (.inr (.inr (some (6, 0)))), some (.inl a1_), some (.inl a2_), some (.inl (ct + 1)), some (.inl k_), some (.inl vx9_), some (.inl vx15_)], [.inl 1013, .inl (ct + 1)], sm_aI S_ 70 0 ct.toNat vx9_)) rfl ?_
                refine sm_T_br (a := 3) (z := 14) rfl (fun cx43_ => ?_) (fun cx43_ => ?_)
                · have cx43_ : 1013 ≤ ct + 1 := of_decide_eq_true cx43_
                  exfalso; first | (have y8_ := o58_; have z9_ := (Q9_.2.2.2.2 o58_ o89_).1; omega) | (have y8_ := i58_; have z9_ := (Q9_.2.1 i58_ o89_).1; omega)
                · have cx43_ : ¬ (1013 ≤ ct + 1) := of_decide_eq_false cx43_
                  refine sm_T_go 4 (c1 := (112, [some (.inr (.inr (some (6, 0)))), some (.inl a1_), some (.inl a2_), some (.inl (ct + 1)), some (.inl k_), some (.inl vx9_), some (.inl vx15_)], [.inl vx15_, .inl (ct + 1), .inr (.inr (some (70, 0)))], sm_aI S_ 70 0 ct.toNat vx9_)) rfl ?_
                  refine sm_T_iast (n := 1013) rfl rfl (by omega) (by omega) ?_
                  have hIx44_ : gi (sm_aI (sm_aI S_ 70 0 ct.toNat vx9_) 70 0 (ct + 1).toNat vx15_) := gi_aI hIx34_ (show 0 ≤ vx15_ ∧ vx15_ ≤ 1012 from ⟨by omega, by omega⟩)
                  have hFx45_ : ai_fr (sx_W vw_105n) S0_ (sm_aI (sm_aI S_ 70 0 ct.toNat vx9_) 70 0 (ct + 1).toNat vx15_) := ai_fr_tr hFx35_ (ai_fr_aI rfl)
                  refine sm_T_inc (a := 3) (z := 1) (v := ct + 1) (w := ct + 2) rfl rfl (by omega) (by omega) (by omega) ?_ -- pc_ 113
                  refine sm_T_inc (a := 4) (z := 1) (v := k_) (w := k_ + 1) rfl rfl (by omega) (by omega) (by omega) ?_ -- pc_ 116
                  refine sm_T_go 1 (c1 := (12, [some (.inr (.inr (some (6, 0)))), some (.inl a1_), some (.inl a2_), some (.inl (ct + 2)), some (.inl (k_ + 1)), some (.inl vx9_), some (.inl vx15_)], [], sm_aI (sm_aI S_ 70 0 ct.toNat vx9_) 70 0 (ct + 1).toNat vx15_)) rfl ?_
                  refine sm_T_wk [some (.inr (.inr (some (6, 0)))), some (.inl a1_), some (.inl a2_), some (.inl (ct + 2)), some (.inl (k_ + 1)), none, none] (by exact ⟨rfl, rfl, rfl, rfl, rfl, trivial⟩) ?_
                  refine ih_.1 (ct + 2) (k_ + 1) (sm_aI (sm_aI S_ 70 0 ct.toNat vx9_) 70 0 (ct + 1).toNat vx15_) hIx44_ hFx45_ ⟨?_, ?_, trivial⟩ ?_
                  · omega
                  · rw [show (k_ + 1).toNat = k_.toNat + 1 by omega, show (ct + 2).toNat = ct.toNat + 2 by omega]
                    exact (Q9_.2.2.2.2 o58_ o89_).2 _ (fun j_ => by rw [rd_eq, rd_eq, v36_, v49_, show (ct + 1).toNat = ct.toNat + 1 by omega])
                  · omega
    · rintro ct k_ S_ hI_ hF_ ⟨h0_, hq_, hv_, -⟩ hm_
      have f42_ : S_.2.2.1 42 (0 + dd_) = S0_.2.2.1 42 (0 + dd_) := fr_arr hF_ rfl
      have f43_ : S_.2.2.1 43 (0 + dd_) = S0_.2.2.1 43 (0 + dd_) := fr_arr hF_ rfl
      have f44_ : S_.2.2.1 44 (0 + dd_) = S0_.2.2.1 44 (0 + dd_) := fr_arr hF_ rfl
      have f65_ : S_.2.2.1 65 0 = S0_.2.2.1 65 0 := fr_arr hF_ rfl
      have n13_ : 0 ≤ S_.1 3 dd_ 4 ∧ S_.1 3 dd_ 4 ≤ 1013 := hI_.1 3 dd_ 4 rfl
      have f4_ : S_.1 3 dd_ 4 = S0_.1 3 dd_ 4 := hF_.1 3 dd_ 4 rfl
      refine sm_T_go 2 (c1 := (128, [some (.inr (.inr (some (6, 0)))), some (.inl a1_), some (.inl a2_), some (.inl ct), some (.inl k_), none, none], [.inl 3, .inl k_], S_)) rfl ?_
      refine sm_T_br (a := 3) (z := 46) rfl (fun cx1_ => ?_) (fun cx1_ => ?_)
      · have cx1_ : 3 ≤ k_ := of_decide_eq_true cx1_
        refine sm_T_go 2 (c1 := (176, [some (.inr (.inr (some (6, 0)))), some (.inl a1_), some (.inl a2_), some (.inl ct), some (.inl k_), none, none], [.inl 1, .inl ct], S_)) rfl ?_
        refine sm_T_bin (w := ct - 1) rfl (bi_sub (by omega) (by omega) (by omega)) ?_ -- pc_ 176
        refine sm_T_go 1 (c1 := (179, [some (.inr (.inr (some (6, 0)))), some (.inl a1_), some (.inl a2_), some (.inl ct), some (.inl (ct - 1)), none, none], [], S_)) rfl ?_
        refine ih_.2.2 ct (ct - 1) S_ hI_ hF_ ⟨?_, ?_, ?_, trivial⟩ ?_
        · omega
        · exact hq_
        · rw [show (ct - 1 + 1).toNat = ct.toNat by omega]
          refine ⟨fun m_ x_ w_ => hv_ m_ x_ ?_ w_, fun j_ u_ w_ => by (exfalso; omega)⟩
          have l9_ := (List.getElem?_eq_some_iff.mp w_).1
          have l8_ := hl_.1
          omega
        · omega
      · have cx1_ : ¬ (3 ≤ k_) := of_decide_eq_false cx1_
        refine sm_T_go 4 (c1 := (137, [some (.inr (.inr (some (6, 0)))), some (.inl a1_), some (.inl a2_), some (.inl ct), some (.inl k_), none, none], [.inl a2_, .inl 3, .inr (.inr (some (65, 0)))], S_)) rfl ?_
        refine sm_T_bin (w := 3 * a2_) rfl (bi_mul (by omega) (by omega) (by omega)) ?_ -- pc_ 137
        refine sm_T_go 1 (c1 := (140, [some (.inr (.inr (some (6, 0)))), some (.inl a1_), some (.inl a2_), some (.inl ct), some (.inl k_), none, none], [.inl k_, .inl (3 * a2_), .inr (.inr (some (65, 0)))], S_)) rfl ?_
        refine sm_T_bin (w := 3 * a2_ + k_) rfl (bi_add (by omega) (by omega) (by omega)) ?_ -- pc_ 140
        refine sm_T_iald (n := 3072) rfl rfl (by omega) (by omega) ?_
        have bx2_ : (-1) ≤ S_.2.2.1 65 0 (3 * a2_ + k_).toNat ∧ S_.2.2.1 65 0 (3 * a2_ + k_).toNat ≤ 1012 := hI_.2 65 0 _
        refine sm_T_go 1 (c1 := (143, [some (.inr (.inr (some (6, 0)))), some (.inl a1_), some (.inl a2_), some (.inl ct), some (.inl k_), none, none], [.inl (-1), .inl (S_.2.2.1 65 0 (3 * a2_ + k_).toNat)], S_)) rfl ?_
        refine sm_T_br (a := 0) (z := 25) rfl (fun cx3_ => ?_) (fun cx3_ => ?_)
        · have cx3_ : (S_.2.2.1 65 0 (3 * a2_ + k_).toNat) = (-1) := of_decide_eq_true cx3_
          have c9_ := hcv_ k_.toNat (by omega)
          rw [show 3 * a2_.toNat + k_.toNat = (3 * a2_ + k_).toNat by omega, ← f65_] at c9_
          have x9_ := cva_z (c_ := c_) (k_ := k_.toNat) (by omega)
          refine sm_T_inc (a := 4) (z := 1) (v := k_) (w := k_ + 1) rfl rfl (by omega) (by omega) (by omega) ?_ -- pc_ 168
          refine sm_T_go 1 (c1 := (125, [some (.inr (.inr (some (6, 0)))), some (.inl a1_), some (.inl a2_), some (.inl ct), some (.inl (k_ + 1)), none, none], [], S_)) rfl ?_
          refine ih_.2.1 ct (k_ + 1) S_ hI_ hF_ ⟨?_, ?_, ?_, trivial⟩ ?_
          · omega
          · first | exact hq_ | (rw [rd_ne_ (by decide)]; exact hq_)
          · intro m_ x_ u_ w_
            by_cases z9_ : (m_ : Int) = k_
            · rw [show m_ = k_.toNat by omega, x9_] at w_; cases w_
            · exact hv_ m_ x_ (by omega) w_
          · omega
        · have cx3_ : ¬ ((S_.2.2.1 65 0 (3 * a2_ + k_).toNat) = (-1)) := of_decide_eq_false cx3_
          have vt9_ := vt3 (k_ := k_) (by omega)
          have c9_ := hcv_ k_.toNat (by omega)
          rw [show 3 * a2_.toNat + k_.toNat = (3 * a2_ + k_).toNat by omega, ← f65_] at c9_
          have x9_ := cva_x c9_.symm (by omega)
          refine sm_T_go 6 (c1 := (156, [some (.inr (.inr (some (6, 0)))), some (.inl a1_), some (.inl a2_), some (.inl ct), some (.inl k_), none, none], [.inl a2_, .inl 3, .inr (.inr (some (65, 0))), .inr (.inr (some (71, 0)))], S_)) rfl ?_
          refine sm_T_bin (w := 3 * a2_) rfl (bi_mul (by omega) (by omega) (by omega)) ?_ -- pc_ 156
          refine sm_T_go 1 (c1 := (159, [some (.inr (.inr (some (6, 0)))), some (.inl a1_), some (.inl a2_), some (.inl ct), some (.inl k_), none, none], [.inl k_, .inl (3 * a2_), .inr (.inr (some (65, 0))), .inr (.inr (some (71, 0)))], S_)) rfl ?_
          refine sm_T_bin (w := 3 * a2_ + k_) rfl (bi_add (by omega) (by omega) (by omega)) ?_ -- pc_ 159
          refine sm_T_iald (n := 3072) rfl rfl (by omega) (by omega) ?_
          refine sm_T_nt (u := some (.inr (.inr (some (299, 0))))) (S1 := S_) rfl rfl rfl ?_
          refine sm_T_go 1 (c1 := (166, [some (.inr (.inr (some (6, 0)))), some (.inl a1_), some (.inl a2_), some (.inl ct), some (.inl k_), none, none], [.inl k_, .inr (.inr (some (299, 0))), .inl (S_.2.2.1 65 0 (3 * a2_ + k_).toNat), .inr (.inr (some (71, 0)))], S_)) rfl ?_
          refine sm_T_nt (u := some (.inl (st_at 3 k_))) (S1 := S_) rfl rfl (nt_st (sc := sc_) (j := 3) (n := 3) (by decide) rfl rfl (by omega) (by omega)) ?_
          refine sm_T_iast (n := 1013) rfl rfl (by omega) (by omega) ?_
          have hIx4_ : gi (sm_aI S_ 71 0 (S_.2.2.1 65 0 (3 * a2_ + k_).toNat).toNat (st_at 3 k_)) := gi_aI hI_ (show (-2147483648) ≤ (st_at 3 k_) ∧ (st_at 3 k_) ≤ 2147483647 from ⟨by omega, by omega⟩)
          have hFx5_ : ai_fr (sx_W vw_105n) S0_ (sm_aI S_ 71 0 (S_.2.2.1 65 0 (3 * a2_ + k_).toNat).toNat (st_at 3 k_)) := ai_fr_tr hF_ (ai_fr_aI rfl)
          refine sm_T_inc (a := 4) (z := 1) (v := k_) (w := k_ + 1) rfl rfl (by omega) (by omega) (by omega) ?_ -- pc_ 168
          refine sm_T_go 1 (c1 := (125, [some (.inr (.inr (some (6, 0)))), some (.inl a1_), some (.inl a2_), some (.inl ct), some (.inl (k_ + 1)), none, none], [], sm_aI S_ 71 0 (S_.2.2.1 65 0 (3 * a2_ + k_).toNat).toNat (st_at 3 k_))) rfl ?_
          refine ih_.2.1 ct (k_ + 1) (sm_aI S_ 71 0 (S_.2.2.1 65 0 (3 * a2_ + k_).toNat).toNat (st_at 3 k_)) hIx4_ hFx5_ ⟨?_, ?_, ?_, trivial⟩ ?_
          · omega
          · first | exact hq_ | (rw [rd_ne_ (by decide)]; exact hq_)
          · intro m_ x_ u_ w_
            rw [rd_eq]
            by_cases z9_ : (m_ : Int) = k_
            · rw [show m_ = k_.toNat by omega, x9_] at w_
              rw [if_pos (Option.some.inj w_).symm, vtk_s (by omega), show m_ = k_.toNat by omega]
            · have y9_ := ris_lt hl_.2 (show m_ < k_.toNat by omega) w_ x9_
              rw [if_neg (by omega)]
              exact hv_ m_ x_ (by omega) w_
          · omega
    · rintro ct k_ S_ hI_ hF_ ⟨h0_, hq_, hv_, -⟩ hm_
      have f42_ : S_.2.2.1 42 (0 + dd_) = S0_.2.2.1 42 (0 + dd_) := fr_arr hF_ rfl
      have f43_ : S_.2.2.1 43 (0 + dd_) = S0_.2.2.1 43 (0 + dd_) := fr_arr hF_ rfl
      have f44_ : S_.2.2.1 44 (0 + dd_) = S0_.2.2.1 44 (0 + dd_) := fr_arr hF_ rfl
      have f65_ : S_.2.2.1 65 0 = S0_.2.2.1 65 0 := fr_arr hF_ rfl
      have n13_ : 0 ≤ S_.1 3 dd_ 4 ∧ S_.1 3 dd_ 4 ≤ 1013 := hI_.1 3 dd_ 4 rfl
      have f4_ : S_.1 3 dd_ 4 = S0_.1 3 dd_ 4 := hF_.1 3 dd_ 4 rfl
      refine sm_T_go 1 (c1 := (181, [some (.inr (.inr (some (6, 0)))), some (.inl a1_), some (.inl a2_), some (.inl ct), some (.inl k_), none, none], [.inl k_], S_)) rfl ?_
      refine sm_T_b0 (a := 2) (z := 100) rfl (fun cx1_ => ?_) (fun cx1_ => ?_)
      · have cx1_ : k_ < 0 := of_decide_eq_true cx1_
        refine sm_T_go 3 (c1 := (286, [some (.inr (.inr (some (6, 0)))), some (.inl a1_), some (.inl a2_), some (.inl ct), some (.inl k_), none, none], [.inl a1_, .inr (.inr (some (71, 0)))], S_)) rfl ?_
        refine sm_T_iald (n := 1013) rfl rfl (by omega) (by omega) ?_
        have bx2_ : (-2147483648) ≤ S_.2.2.1 71 0 a1_.toNat ∧ S_.2.2.1 71 0 a1_.toNat ≤ 2147483647 := hI_.2 71 0 _
        refine sm_T_go 4 (c1 := (293, [some (.inr (.inr (some (6, 0)))), some (.inl a1_), some (.inl a2_), some (.inl ct), some (.inl k_), none, none], [.inl a2_, .inl 3, .inr (.inr (some (65, 0))), .inl (S_.2.2.1 71 0 a1_.toNat)], S_)) rfl ?_
        refine sm_T_bin (w := 3 * a2_) rfl (bi_mul (by omega) (by omega) (by omega)) ?_ -- pc_ 293
        refine sm_T_go 1 (c1 := (295, [some (.inr (.inr (some (6, 0)))), some (.inl a1_), some (.inl a2_), some (.inl ct), some (.inl k_), none, none], [.inl 2, .inl (3 * a2_), .inr (.inr (some (65, 0))), .inl (S_.2.2.1 71 0 a1_.toNat)], S_)) rfl ?_
        refine sm_T_bin (w := 3 * a2_ + 2) rfl (bi_add (by omega) (by omega) (by omega)) ?_ -- pc_ 295
        refine sm_T_iald (n := 3072) rfl rfl (by omega) (by omega) ?_
        have bx3_ : (-1) ≤ S_.2.2.1 65 0 (3 * a2_ + 2).toNat ∧ S_.2.2.1 65 0 (3 * a2_ + 2).toNat ≤ 1012 := hI_.2 65 0 _
        refine sm_T_go 1 (c1 := (298, [some (.inr (.inr (some (6, 0)))), some (.inl a1_), some (.inl a2_), some (.inl ct), some (.inl k_), none, none], [.inl (-1), .inl (S_.2.2.1 65 0 (3 * a2_ + 2).toNat), .inl (S_.2.2.1 71 0 a1_.toNat)], S_)) rfl ?_
        refine sm_T_br (a := 1) (z := 8) rfl (fun cx4_ => ?_) (fun cx4_ => ?_)
        · have cx4_ : (S_.2.2.1 65 0 (3 * a2_ + 2).toNat) ≠ (-1) := of_decide_eq_true cx4_
          have c9_ := hcv_ 2 (by omega)
          rw [show 3 * a2_.toNat + 2 = (3 * a2_ + 2).toNat by omega, ← f65_] at c9_
          have x9_ := cva_x c9_.symm (by omega)
          have l9_ := (List.getElem?_eq_some_iff.mp x9_).1
          refine sm_T_go 1 (c1 := (309, [some (.inr (.inr (some (6, 0)))), some (.inl a1_), some (.inl a2_), some (.inl ct), some (.inl k_), none, none], [.inl 255, .inl (S_.2.2.1 71 0 a1_.toNat)], S_)) rfl ?_
          refine sm_T_bin (w := ((S_.2.2.1 71 0 a1_.toNat) % 256)) rfl (bi_msk (k := 8) (by decide)) ?_ -- pc_ 309
          refine sm_T_ri rfl ⟨_, _, rfl, _, rfl, hI_, hF_, ?_⟩
          refine ⟨by omega, ?_⟩
          rw [show (k_ + 1).toNat = 0 by omega] at hv_
          obtain ⟨B9_, t9_, b1_, b2_, b3_, b4_⟩ := vdn_t hclo hq_ hv_
          refine ⟨B9_, t9_, b1_, b2_, b3_, ?_⟩
          first | (rw [if_neg (show ¬ c_.length = 2 by omega), ← b4_]; omega) | (rw [if_pos (show c_.length = 2 by omega), ← b4_]; omega)
        · have cx4_ : ¬ ((S_.2.2.1 65 0 (3 * a2_ + 2).toNat) ≠ (-1)) := of_decide_eq_false cx4_
          have c9_ := hcv_ 2 (by omega)
          rw [show 3 * a2_.toNat + 2 = (3 * a2_ + 2).toNat by omega, ← f65_] at c9_
          have x9_ := cva_z (c_ := c_) (k_ := 2) (by omega)
          have l9_ := List.getElem?_eq_none_iff.mp x9_
          refine sm_T_go 2 (c1 := (309, [some (.inr (.inr (some (6, 0)))), some (.inl a1_), some (.inl a2_), some (.inl ct), some (.inl k_), none, none], [.inl 15, .inl (S_.2.2.1 71 0 a1_.toNat)], S_)) rfl ?_
          refine sm_T_bin (w := ((S_.2.2.1 71 0 a1_.toNat) % 16)) rfl (bi_msk (k := 4) (by decide)) ?_ -- pc_ 309
          refine sm_T_ri rfl ⟨_, _, rfl, _, rfl, hI_, hF_, ?_⟩
          refine ⟨by omega, ?_⟩
          rw [show (k_ + 1).toNat = 0 by omega] at hv_
          obtain ⟨B9_, t9_, b1_, b2_, b3_, b4_⟩ := vdn_t hclo hq_ hv_
          refine ⟨B9_, t9_, b1_, b2_, b3_, ?_⟩
          first | (rw [if_neg (show ¬ c_.length = 2 by omega), ← b4_]; omega) | (rw [if_pos (show c_.length = 2 by omega), ← b4_]; omega)
      · have cx1_ : ¬ (k_ < 0) := of_decide_eq_false cx1_
        have ik9_ := hq_.2.1 k_.toNat (by omega)
        have ax9_ := hclo.2.1 _ ik9_.2
        have fx9_ := hAF_ _ ik9_.2
        have xn9_ := ax9_.1
        have g42_ := hg_.2.2 (S_.2.2.1 70 0 k_.toNat).toNat fx9_ (by omega)
        refine sm_T_go 1 (c1 := (185, [some (.inr (.inr (some (6, 0)))), some (.inl a1_), some (.inl a2_), some (.inl ct), some (.inl k_), none, none], [.inr (.inr (some (6, 0)))], S_)) rfl ?_
        refine sm_T_gr rfl rfl ((hF_.2.1 6 0 0 rfl).trans hd_) ?_
        refine sm_T_go 1 (c1 := (189, [some (.inr (.inr (some (6, 0)))), some (.inl a1_), some (.inl a2_), some (.inl ct), some (.inl k_), none, none], [.inr (.inr (some (6, 0))), .inr (.inr (some (3, dd_)))], S_)) rfl ?_
        refine sm_T_gr rfl rfl ((hF_.2.1 6 0 0 rfl).trans hd_) ?_
        refine sm_T_go 4 (c1 := (201, [some (.inr (.inr (some (6, 0)))), some (.inl a1_), some (.inl a2_), some (.inl ct), some (.inl k_), none, none], [.inl k_, .inr (.inr (some (70, 0))), .inr (.inr (some (42, (0 + dd_)))), .inr (.inr (some (3, dd_)))], S_)) rfl ?_
        refine sm_T_iald (n := 1013) rfl rfl (by omega) (by omega) ?_
        have bx5_ : 0 ≤ S_.2.2.1 70 0 k_.toNat ∧ S_.2.2.1 70 0 k_.toNat ≤ 1012 := hI_.2 70 0 _
        refine sm_T_iald (n := 1013) rfl rfl (by omega) (by omega) ?_
        have bx6_ : 0 ≤ S_.2.2.1 42 (0 + dd_) (S_.2.2.1 70 0 k_.toNat).toNat ∧ S_.2.2.1 42 (0 + dd_) (S_.2.2.1 70 0 k_.toNat).toNat ≤ 2025 := hI_.2 42 (0 + dd_) _
        refine sm_T_cal (d1 := 0) (Q1 := vq_64 (S_.2.2.1 42 (0 + dd_) (S_.2.2.1 70 0 k_.toNat).toNat) dd_ S_) rfl rfl (by decide) (vc_64 (S_.2.2.1 42 (0 + dd_) (S_.2.2.1 70 0 k_.toNat).toNat) dd_ S_ hI_ (by omega)) (fun u_ Sx7_ px10_ => ?_)
        obtain ⟨rfl, vx12_, rfl, px10_⟩ := px10_
        have e203_ : vx12_ = i_xor (S0_.2.2.1 44 (0 + dd_) (S0_.2.2.1 42 (0 + dd_) (S_.2.2.1 70 0 k_.toNat).toNat / 2).toNat) (S0_.2.2.1 42 (0 + dd_) (S_.2.2.1 70 0 k_.toNat).toNat % 2) := by (rw [px10_, f44_, f42_])
        have s203_ := swl_n hs_ (l_ := S0_.2.2.1 42 (0 + dd_) (S_.2.2.1 70 0 k_.toNat).toNat) (by omega) (by omega) (by omega)
        rw [← e203_] at s203_
        have z203_ : (vx12_ / 2).toNat = srp dd_ S0_ (S0_.2.2.1 42 (0 + dd_) (S_.2.2.1 70 0 k_.toNat).toNat) := by omega
        have t203_ : vx12_ % 2 = slt dd_ S0_ (S0_.2.2.1 42 (0 + dd_) (S_.2.2.1 70 0 k_.toNat).toNat) % 2 := by (rw [e203_]; rfl)
        refine sm_T_go 2 (c1 := (209, [some (.inr (.inr (some (6, 0)))), some (.inl a1_), some (.inl a2_), some (.inl ct), some (.inl k_), some (.inl vx12_), none], [.inr (.inr (some (6, 0)))], S_)) rfl ?_
        refine sm_T_gr rfl rfl ((hF_.2.1 6 0 0 rfl).trans hd_) ?_
        refine sm_T_go 1 (c1 := (213, [some (.inr (.inr (some (6, 0)))), some (.inl a1_), some (.inl a2_), some (.inl ct), some (.inl k_), some (.inl vx12_), none], [.inr (.inr (some (6, 0))), .inr (.inr (some (3, dd_)))], S_)) rfl ?_
        refine sm_T_gr rfl rfl ((hF_.2.1 6 0 0 rfl).trans hd_) ?_
        refine sm_T_go 4 (c1 := (225, [some (.inr (.inr (some (6, 0)))), some (.inl a1_), some (.inl a2_), some (.inl ct), some (.inl k_), some (.inl vx12_), none], [.inl k_, .inr (.inr (some (70, 0))), .inr (.inr (some (43, (0 + dd_)))), .inr (.inr (some (3, dd_)))], S_)) rfl ?_
        refine sm_T_iald (n := 1013) rfl rfl (by omega) (by omega) ?_
        refine sm_T_iald (n := 1013) rfl rfl (by omega) (by omega) ?_
        have bx13_ : 0 ≤ S_.2.2.1 43 (0 + dd_) (S_.2.2.1 70 0 k_.toNat).toNat ∧ S_.2.2.1 43 (0 + dd_) (S_.2.2.1 70 0 k_.toNat).toNat ≤ 2025 := hI_.2 43 (0 + dd_) _
        refine sm_T_cal (d1 := 0) (Q1 := vq_64 (S_.2.2.1 43 (0 + dd_) (S_.2.2.1 70 0 k_.toNat).toNat) dd_ S_) rfl rfl (by decide) (vc_64 (S_.2.2.1 43 (0 + dd_) (S_.2.2.1 70 0 k_.toNat).toNat) dd_ S_ hI_ (by omega)) (fun u_ Sx14_ px17_ => ?_)
        obtain ⟨rfl, vx19_, rfl, px17_⟩ := px17_
        have e227_ : vx19_ = i_xor (S0_.2.2.1 44 (0 + dd_) (S0_.2.2.1 43 (0 + dd_) (S_.2.2.1 70 0 k_.toNat).toNat / 2).toNat) (S0_.2.2.1 43 (0 + dd_) (S_.2.2.1 70 0 k_.toNat).toNat % 2) := by (rw [px17_, f44_, f43_])
        have s227_ := swl_n hs_ (l_ := S0_.2.2.1 43 (0 + dd_) (S_.2.2.1 70 0 k_.toNat).toNat) (by omega) (by omega) (by omega)
        rw [← e227_] at s227_
        have z227_ : (vx19_ / 2).toNat = srp dd_ S0_ (S0_.2.2.1 43 (0 + dd_) (S_.2.2.1 70 0 k_.toNat).toNat) := by omega
        have t227_ : vx19_ % 2 = slt dd_ S0_ (S0_.2.2.1 43 (0 + dd_) (S_.2.2.1 70 0 k_.toNat).toNat) % 2 := by (rw [e227_]; rfl)
        refine sm_T_go 6 (c1 := (242, [some (.inr (.inr (some (6, 0)))), some (.inl a1_), some (.inl a2_), some (.inl ct), some (.inl k_), some (.inl vx12_), some (.inl vx19_)], [.inl k_, .inr (.inr (some (70, 0))), .inr (.inr (some (71, 0)))], S_)) rfl ?_
        refine sm_T_iald (n := 1013) rfl rfl (by omega) (by omega) ?_
        refine sm_T_go 4 (c1 := (250, [some (.inr (.inr (some (6, 0)))), some (.inl a1_), some (.inl a2_), some (.inl ct), some (.inl k_), some (.inl vx12_), some (.inl vx19_)], [.inl 1, .inl vx12_, .inr (.inr (some (71, 0))), .inl (S_.2.2.1 70 0 k_.toNat), .inr (.inr (some (71, 0)))], S_)) rfl ?_
        refine sm_T_bin (w := (vx12_ / 2)) rfl (bi_shr (k := 1) (by decide) (by omega) (by omega)) ?_ -- pc_ 250
        refine sm_T_iald (n := 1013) rfl rfl (by omega) (by omega) ?_
        have bx20_ : (-2147483648) ≤ S_.2.2.1 71 0 (vx12_ / 2).toNat ∧ S_.2.2.1 71 0 (vx12_ / 2).toNat ≤ 2147483647 := hI_.2 71 0 _
        refine sm_T_go 2 (c1 := (255, [some (.inr (.inr (some (6, 0)))), some (.inl a1_), some (.inl a2_), some (.inl ct), some (.inl k_), some (.inl vx12_), some (.inl vx19_)], [.inl 1, .inl vx12_, .inl (S_.2.2.1 71 0 (vx12_ / 2).toNat), .inl (S_.2.2.1 70 0 k_.toNat), .inr (.inr (some (71, 0)))], S_)) rfl ?_
        refine sm_T_bin (w := (vx12_ % 2)) rfl (bi_msk (k := 1) (by decide)) ?_ -- pc_ 255
        refine sm_T_neg (w := -(vx12_ % 2)) rfl (by omega) (by omega) (by omega) ?_ -- pc_ 256
        refine sm_T_bin (w := (i_xor (S_.2.2.1 71 0 (vx12_ / 2).toNat) (-(vx12_ % 2)))) rfl rfl ?_ -- pc_ 257
        have bx21_ := i_xor_n (S_.2.2.1 71 0 (vx12_ / 2).toNat) (-(vx12_ % 2))
        refine sm_T_go 4 (c1 := (265, [some (.inr (.inr (some (6, 0)))), some (.inl a1_), some (.inl a2_), some (.inl ct), some (.inl k_), some (.inl vx12_), some (.inl vx19_)], [.inl 1, .inl vx19_, .inr (.inr (some (71, 0))), .inl (i_xor (S_.2.2.1 71 0 (vx12_ / 2).toNat) (-(vx12_ % 2))), .inl (S_.2.2.1 70 0 k_.toNat), .inr (.inr (some (71, 0)))], S_)) rfl ?_
        refine sm_T_bin (w := (vx19_ / 2)) rfl (bi_shr (k := 1) (by decide) (by omega) (by omega)) ?_ -- pc_ 265
        refine sm_T_iald (n := 1013) rfl rfl (by omega) (by omega) ?_
        have bx22_ : (-2147483648) ≤ S_.2.2.1 71 0 (vx19_ / 2).toNat ∧ S_.2.2.1 71 0 (vx19_ / 2).toNat ≤ 2147483647 := hI_.2 71 0 _
        refine sm_T_go 2 (c1 := (270, [some (.inr (.inr (some (6, 0)))), some (.inl a1_), some (.inl a2_), some (.inl ct), some (.inl k_), some (.inl vx12_), some (.inl vx19_)], [.inl 1, .inl vx19_, .inl (S_.2.2.1 71 0 (vx19_ / 2).toNat), .inl (i_xor (S_.2.2.1 71 0 (vx12_ / 2).toNat) (-(vx12_ % 2))), .inl (S_.2.2.1 70 0 k_.toNat), .inr (.inr (some (71, 0)))], S_)) rfl ?_
        refine sm_T_bin (w := (vx19_ % 2)) rfl (bi_msk (k := 1) (by decide)) ?_ -- pc_ 270
        refine sm_T_neg (w := -(vx19_ % 2)) rfl (by omega) (by omega) (by omega) ?_ -- pc_ 271
        refine sm_T_bin (w := (i_xor (S_.2.2.1 71 0 (vx19_ / 2).toNat) (-(vx19_ % 2)))) rfl rfl ?_ -- pc_ 272
        have bx23_ := i_xor_n (S_.2.2.1 71 0 (vx19_ / 2).toNat) (-(vx19_ % 2))
        refine sm_T_bin (w := (i_and (i_xor (S_.2.2.1 71 0 (vx12_ / 2).toNat) (-(vx12_ % 2))) (i_xor (S_.2.2.1 71 0 (vx19_ / 2).toNat) (-(vx19_ % 2))))) rfl rfl ?_ -- pc_ 273
        have bx24_ := i_and_n (i_xor (S_.2.2.1 71 0 (vx12_ / 2).toNat) (-(vx12_ % 2))) (i_xor (S_.2.2.1 71 0 (vx19_ / 2).toNat) (-(vx19_ % 2)))
        refine sm_T_iast (n := 1013) rfl rfl (by omega) (by omega) ?_
        have hIx25_ : gi (sm_aI S_ 71 0 (S_.2.2.1 70 0 k_.toNat).toNat (i_and (i_xor (S_.2.2.1 71 0 (vx12_ / 2).toNat) (-(vx12_ % 2))) (i_xor (S_.2.2.1 71 0 (vx19_ / 2).toNat) (-(vx19_ % 2))))) := gi_aI hI_ (show (-2147483648) ≤ (i_and (i_xor (S_.2.2.1 71 0 (vx12_ / 2).toNat) (-(vx12_ % 2))) (i_xor (S_.2.2.1 71 0 (vx19_ / 2).toNat) (-(vx19_ % 2)))) ∧ (i_and (i_xor (S_.2.2.1 71 0 (vx12_ / 2).toNat) (-(vx12_ % 2))) (i_xor (S_.2.2.1 71 0 (vx19_ / 2).toNat) (-(vx19_ % 2)))) ≤ 2147483647 from ⟨by omega, by omega⟩)
        have hFx26_ : ai_fr (sx_W vw_105n) S0_ (sm_aI S_ 71 0 (S_.2.2.1 70 0 k_.toNat).toNat (i_and (i_xor (S_.2.2.1 71 0 (vx12_ / 2).toNat) (-(vx12_ % 2))) (i_xor (S_.2.2.1 71 0 (vx19_ / 2).toNat) (-(vx19_ % 2))))) := ai_fr_tr hF_ (ai_fr_aI rfl)
        refine sm_T_inc (a := 4) (z := (-1)) (v := k_) (w := k_ - 1) rfl rfl (by omega) (by omega) (by omega) ?_ -- pc_ 275
        refine sm_T_go 1 (c1 := (179, [some (.inr (.inr (some (6, 0)))), some (.inl a1_), some (.inl a2_), some (.inl ct), some (.inl (k_ - 1)), some (.inl vx12_), some (.inl vx19_)], [], sm_aI S_ 71 0 (S_.2.2.1 70 0 k_.toNat).toNat (i_and (i_xor (S_.2.2.1 71 0 (vx12_ / 2).toNat) (-(vx12_ % 2))) (i_xor (S_.2.2.1 71 0 (vx19_ / 2).toNat) (-(vx19_ % 2)))))) rfl ?_
        refine sm_T_wk [some (.inr (.inr (some (6, 0)))), some (.inl a1_), some (.inl a2_), some (.inl ct), some (.inl (k_ - 1)), none, none] (by exact ⟨rfl, rfl, rfl, rfl, rfl, trivial⟩) ?_
        refine ih_.2.2 ct (k_ - 1) (sm_aI S_ 71 0 (S_.2.2.1 70 0 k_.toNat).toNat (i_and (i_xor (S_.2.2.1 71 0 (vx12_ / 2).toNat) (-(vx12_ % 2))) (i_xor (S_.2.2.1 71 0 (vx19_ / 2).toNat) (-(vx19_ % 2))))) hIx25_ hFx26_ ⟨?_, ?_, ?_, trivial⟩ ?_
        · omega
        · (rw [rd_ne_ (by decide)]; exact hq_)
        · rw [rd_ne_ (t'_ := 70) (t_ := 71) (by decide)]
          rw [show (k_ - 1 + 1).toNat = k_.toNat by omega]
          rw [show (k_ + 1).toNat = k_.toNat + 1 by omega] at hv_
          exact vdn_s hclo hq_ hv_ (by omega) (by rw [tand (by omega) (by omega), z203_, z227_, t203_, t227_]) (fun j_ => rd_eq)
        · omega
set_option maxHeartbeats 3000000 in
set_option maxRecDepth 20000 in
theorem vc_105n {sc_ : Nat × (Nat → Int)} (a1_ : Int) (a2_ : Int) (dd_ : Nat) (F_ : Nat) (A_ : Nat → Prop) (c_ : List Nat) (S0_ : sm_S) (hI_ : gi S0_) (hd_ : S0_.2.1 6 0 0 = some dd_) (hg_ : dgr dd_ F_ S0_) (hs_ : swp dd_ F_ S0_) (h1_ : (F_ : Int) ≤ a1_ ∧ a1_ < S0_.1 3 dd_ 4) (h2_ : 0 ≤ a2_ ∧ a2_ ≤ 1023) (hl_ : (2 ≤ c_.length ∧ c_.length ≤ 3) ∧ ris c_) (hcv_ : ∀ j_ : Nat, j_ < 3 → S0_.2.2.1 65 0 (3 * a2_.toNat + j_) = cva c_ j_) (hclo : clo (sds (fun x_ => srp dd_ S0_ (S0_.2.2.1 42 (0 + dd_) x_)) (fun x_ => srp dd_ S0_ (S0_.2.2.1 43 (0 + dd_) x_))) a1_.toNat A_ c_) (hAF_ : ∀ x_, A_ x_ → F_ ≤ x_) : sm_T (mt_P sc_) 2 105 (0, [some (.inr (.inr (some (6, 0)))), some (.inl a1_), some (.inl a2_), none, none, none, none], [], S0_) (fun ro9_ => ∃ u_ S1_, ro9_ = (.inl u_, S1_, 0) ∧ vq_105n a1_ a2_ dd_ F_ A_ c_ S0_ u_ S1_) := by
  have hF_ : ai_fr (sx_W vw_105n) S0_ S0_ := ai_fr_rf
  have n13_ : 0 ≤ S0_.1 3 dd_ 4 ∧ S0_.1 3 dd_ 4 ≤ 1013 := hI_.1 3 dd_ 4 rfl
  refine sm_T_go 4 (c1 := (6, [some (.inr (.inr (some (6, 0)))), some (.inl a1_), some (.inl a2_), none, none, none, none], [.inl a1_, .inl 0, .inr (.inr (some (70, 0)))], S0_)) rfl ?_
  refine sm_T_iast (n := 1013) rfl rfl (by omega) (by omega) ?_
  have hIx1_ : gi (sm_aI S0_ 70 0 (0 : Int).toNat a1_) := gi_aI hI_ (show 0 ≤ a1_ ∧ a1_ ≤ 1012 from ⟨by omega, by omega⟩)
  have hFx2_ : ai_fr (sx_W vw_105n) S0_ (sm_aI S0_ 70 0 (0 : Int).toNat a1_) := ai_fr_tr hF_ (ai_fr_aI rfl)
  refine sm_T_go 4 (c1 := (12, [some (.inr (.inr (some (6, 0)))), some (.inl a1_), some (.inl a2_), some (.inl 1), some (.inl 0), none, none], [], sm_aI S0_ 70 0 (0 : Int).toNat a1_)) rfl ?_
  refine (vl_105n a1_ a2_ dd_ F_ A_ c_ S0_ hd_ hg_ hs_ h1_ h2_ hl_ hcv_ hclo hAF_ _).1 1 0 (sm_aI S0_ 70 0 (0 : Int).toNat a1_) hIx1_ hFx2_ ⟨?_, ?_, trivial⟩ (Nat.lt_succ_self _)
  · omega
  · refine inq_0 hclo.1 ?_
    rw [rd_eq, if_pos (by decide)]
    omega
end
/-! 99.ztZR -/
section
/-! tables over cuts: the reference; written by wip/p55/gen/vg -/

/-! tables over cuts, the_ reference: marks -/
def m25 (n_ : Nat) (c_ : List Nat) (R_ : Int) (M_ T_ : Nat → Int) (k_ : Nat) : Prop := M_ n_ = R_ ∧ (∀ m_ x_, m_ < k_ → c_[m_]? = some x_ → M_ x_ = -R_ ∧ T_ x_ = vtk m_) ∧ ∀ x_, x_ ≠ n_ → (∀ m_, m_ < k_ → c_[m_]? ≠ some x_) → -R_ < M_ x_ ∧ M_ x_ < R_
theorem m25_s {n_ : Nat} {c_ : List Nat} {R_ : Int} {M_ T_ M'_ T'_ : Nat → Int} {k_ x_ : Nat} (h_ : m25 n_ c_ R_ M_ T_ k_) (hk_ : c_[k_]? = some x_) (hr_ : ris c_) (hn_ : ¬ n_ ∈ c_) (eM_ : ∀ z_, M'_ z_ = if z_ = x_ then -R_ else M_ z_) (eT_ : ∀ z_, T'_ z_ = if z_ = x_ then vtk k_ else T_ z_) : m25 n_ c_ R_ M'_ T'_ (k_ + 1) := by
  have nx_ : n_ ≠ x_ := fun e_ => hn_ (by rw [e_]; exact List.mem_of_getElem? hk_)
  refine ⟨?_, fun m_ y_ hm9_ hy_ => ?_, fun y_ h1_ h2_ => ?_⟩
  · rw [eM_, if_neg nx_]
    exact h_.1
  · by_cases e_ : m_ = k_
    · rw [e_, hk_] at hy_
      have e2_ : y_ = x_ := (Option.some.inj hy_).symm
      rw [eM_, eT_, if_pos e2_, if_pos e2_, e_]
      exact ⟨rfl, rfl⟩
    · have l_ := ris_lt hr_ (show m_ < k_ by omega) hy_ hk_
      rw [eM_, eT_, if_neg (by omega), if_neg (by omega)]
      exact h_.2.1 m_ y_ (by omega) hy_
  · have yx_ : y_ ≠ x_ := fun e_ => h2_ k_ (by omega) (by rw [e_]; exact hk_)
    rw [eM_, if_neg yx_]
    exact h_.2.2 y_ h1_ (fun m_ hm9_ => h2_ m_ (by omega))
/-- marks from n_ down to_ x_ -/
def mrq (sd_ : Nat → Nat → Nat) (n_ : Nat) (A_ : Nat → Prop) (c_ : List Nat) (R_ : Int) (M_ : Nat → Int) (x_ : Int) : Prop := M_ n_ = R_ ∧ (∀ z_, z_ ∈ c_ → M_ z_ = -R_) ∧ (∀ z_, ¬ z_ ∈ c_ → -R_ < M_ z_ ∧ M_ z_ ≤ R_ ∧ (M_ z_ = R_ → A_ z_)) ∧ ∀ y_ : Nat, x_ < (y_ : Int) → M_ y_ = R_ → ∀ b_, b_ < 2 → sd_ b_ y_ ∈ c_ ∨ M_ (sd_ b_ y_) = R_
section MR_
variable {sd_ : Nat → Nat → Nat} {n_ : Nat} {A_ : Nat → Prop} {c_ : List Nat} {R_ : Int} {M_ T_ : Nat → Int}
theorem mrq_0 {k_ : Nat} (hR_ : 0 < R_) (hA_ : A_ n_) (h_ : m25 n_ c_ R_ M_ T_ k_) (hk_ : c_.length ≤ k_) (hn_ : ¬ n_ ∈ c_) : mrq sd_ n_ A_ c_ R_ M_ (n_ : Int) ∧ ∀ m_ x_, c_[m_]? = some x_ → T_ x_ = vtk m_ := by
  have ix_ : ∀ m_ x_, c_[m_]? = some x_ → m_ < k_ := fun m_ x_ e_ => by
    have := (List.getElem?_eq_some_iff.mp e_).1
    omega
  have out_ : ∀ z_, ¬ z_ ∈ c_ → ∀ m_, m_ < k_ → c_[m_]? ≠ some z_ := fun z_ hz_ m_ _ e_ => hz_ (List.mem_of_getElem? e_)
  refine ⟨⟨h_.1, fun z_ hz_ => ?_, fun z_ hz_ => ?_, fun y_ hy_ e_ => ?_⟩, fun m_ x_ e_ => (h_.2.1 m_ x_ (ix_ m_ x_ e_) e_).2⟩
  · obtain ⟨m_, e_⟩ := List.getElem?_of_mem hz_
    exact (h_.2.1 m_ z_ (ix_ m_ z_ e_) e_).1
  · by_cases e_ : z_ = n_
    · rw [e_, h_.1]
      exact ⟨by omega, Int.le_refl _, fun _ => hA_⟩
    · have q_ := h_.2.2 z_ e_ (out_ z_ hz_)
      exact ⟨q_.1, by omega, fun u_ => by omega⟩
  · exfalso
    by_cases u_ : y_ ∈ c_
    · obtain ⟨m_, w_⟩ := List.getElem?_of_mem u_
      have q_ := (h_.2.1 m_ y_ (ix_ m_ y_ w_) w_).1
      omega
    · have q_ := h_.2.2 y_ (by omega) (out_ y_ u_)
      omega
theorem mrq_n {x_ : Int} (h_ : mrq sd_ n_ A_ c_ R_ M_ x_) (hx_ : ¬ M_ x_.toNat = R_) (h0_ : 0 ≤ x_) : mrq sd_ n_ A_ c_ R_ M_ (x_ - 1) := by
  refine ⟨h_.1, h_.2.1, h_.2.2.1, fun y_ hy_ e_ => ?_⟩
  by_cases u_ : (y_ : Int) = x_
  · rw [show y_ = x_.toNat by omega] at e_
    exact absurd e_ hx_
  · exact h_.2.2.2 y_ (by omega) e_
theorem mrq_s {x_ va_ vb_ : Int} {M1_ M'_ : Nat → Int} (hR_ : 0 < R_) (hc_ : clo sd_ n_ A_ c_) (h_ : mrq sd_ n_ A_ c_ R_ M_ x_) (hx_ : M_ x_.toNat = R_) (h0_ : 0 ≤ x_) (ha_ : (M_ (sd_ 0 x_.toNat) = -R_ ∧ va_ = -R_) ∨ (M_ (sd_ 0 x_.toNat) ≠ -R_ ∧ va_ = R_)) (e1_ : ∀ z_, M1_ z_ = if z_ = sd_ 0 x_.toNat then va_ else M_ z_) (hb_ : (M1_ (sd_ 1 x_.toNat) = -R_ ∧ vb_ = -R_) ∨ (M1_ (sd_ 1 x_.toNat) ≠ -R_ ∧ vb_ = R_)) (e2_ : ∀ z_, M'_ z_ = if z_ = sd_ 1 x_.toNat then vb_ else M1_ z_) : mrq sd_ n_ A_ c_ R_ M'_ (x_ - 1) := by
  obtain ⟨h1_, h2_, h3_, h4_⟩ := h_
  obtain ⟨X_, hX_⟩ : ∃ X_, x_.toNat = X_ := ⟨_, rfl⟩
  rw [hX_] at hx_ ha_ e1_ hb_ e2_
  have nc : ¬ X_ ∈ c_ := fun u_ => by
    have := h2_ X_ u_
    omega
  have ax_ := (h3_ X_ nc).2.2 hx_
  have cx_ := hc_.2.1 X_ ax_
  have s0_ := cx_.2.2.2 0 (by decide)
  have s1_ := cx_.2.2.2 1 (by decide)
  have ne := cx_.2.2.1
  have cM_ : ∀ z_, z_ ∈ c_ ↔ M_ z_ = -R_ := fun z_ => ⟨h2_ z_, fun u_ => Classical.byContradiction (fun v_ => by
    have := (h3_ z_ v_).1
    omega)⟩
  have m1_ : M1_ (sd_ 1 X_) = M_ (sd_ 1 X_) := by rw [e1_, if_neg (fun u_ => ne u_.symm)]
  rw [m1_] at hb_
  have val_ : ∀ z_, M'_ z_ = if (z_ = sd_ 0 X_ ∨ z_ = sd_ 1 X_) ∧ ¬ z_ ∈ c_ then R_ else M_ z_ := by
    intro z_
    rw [e2_, e1_]
    by_cases u_ : z_ = sd_ 1 X_
    · rw [if_pos u_]
      by_cases w_ : z_ ∈ c_
      · rw [if_neg (fun q_ => q_.2 w_)]
        have q_ := (cM_ z_).mp w_
        rw [u_] at q_ ⊢
        omega
      · rw [if_pos ⟨Or.inr u_, w_⟩]
        have q_ : ¬ M_ z_ = -R_ := fun q_ => w_ ((cM_ z_).mpr q_)
        rw [u_] at q_
        omega
    · rw [if_neg u_]
      by_cases t_ : z_ = sd_ 0 X_
      · rw [if_pos t_]
        by_cases w_ : z_ ∈ c_
        · rw [if_neg (fun q_ => q_.2 w_)]
          have q_ := (cM_ z_).mp w_
          rw [t_] at q_ ⊢
          omega
        · rw [if_pos ⟨Or.inl t_, w_⟩]
          have q_ : ¬ M_ z_ = -R_ := fun q_ => w_ ((cM_ z_).mpr q_)
          rw [t_] at q_
          omega
      · rw [if_neg t_, if_neg (fun q_ => q_.1.elim t_ u_)]
  have up_ : ∀ z_, M_ z_ = R_ → M'_ z_ = R_ := fun z_ hz_ => by
    rw [val_ z_]
    split
    · rfl
    · exact hz_
  have big_ : ∀ y_, X_ ≤ y_ → M'_ y_ = M_ y_ := fun y_ hy_ => by
    rw [val_ y_, if_neg (fun q_ => by
      rcases q_.1 with u_ | u_
      · have := s0_.1
        omega
      · have := s1_.1
        omega)]
  refine ⟨up_ n_ h1_, fun z_ hz_ => ?_, fun z_ hz_ => ?_, fun y_ hy_ e_ b_ hb2_ => ?_⟩
  · rw [val_ z_, if_neg (fun q_ => q_.2 hz_)]
    exact h2_ z_ hz_
  · rw [val_ z_]
    split
    · rename_i q_
      refine ⟨by omega, Int.le_refl _, fun _ => ?_⟩
      rcases q_.1 with u_ | u_
      · rw [u_] at hz_ ⊢
        exact s0_.2.resolve_right hz_
      · rw [u_] at hz_ ⊢
        exact s1_.2.resolve_right hz_
    · exact h3_ z_ hz_
  · by_cases u_ : y_ = X_
    · rw [u_]
      by_cases w_ : sd_ b_ X_ ∈ c_
      · exact Or.inl w_
      · refine Or.inr ?_
        rw [val_, if_pos]
        refine ⟨?_, w_⟩
        have d_ : b_ = 0 ∨ b_ = 1 := by omega
        rcases d_ with d_ | d_
        · rw [d_]
          exact Or.inl rfl
        · rw [d_]
          exact Or.inr rfl
    · have y2_ : x_ < (y_ : Int) := by omega
      rw [big_ y_ (by omega)] at e_
      rcases h4_ y_ y2_ e_ b_ hb2_ with w_ | w_
      · exact Or.inl w_
      · exact Or.inr (up_ _ w_)
theorem mrq_t {cl_ ch_ : Nat → Nat} {tl_ tu_ : Nat → Int} {F_ : Int} (hR_ : 0 < R_) (hc_ : clo (sds cl_ ch_) n_ A_ c_) (h_ : mrq (sds cl_ ch_) n_ A_ c_ R_ M_ (F_ - 1)) (hF_ : ∀ x_, A_ x_ → F_ ≤ (x_ : Int)) (ht_ : ∀ m_ x_, c_[m_]? = some x_ → T_ x_ = vtk m_) (hv_ : ∀ y_ : Nat, M_ y_ = R_ → T_ y_ = i_and (i_xor (T_ (cl_ y_)) (255 * tl_ y_)) (i_xor (T_ (ch_ y_)) (255 * tu_ y_))) : (∀ x_, M_ x_ = R_ → A_ x_) ∧ tvf cl_ ch_ tl_ tu_ c_ (fun y_ => M_ y_ = R_) T_ := by
  have inA_ : ∀ x_, M_ x_ = R_ → A_ x_ := fun x_ e_ => by
    have nc : ¬ x_ ∈ c_ := fun u_ => by
      have := h_.2.1 x_ u_
      omega
    exact (h_.2.2.1 x_ nc).2.2 e_
  refine ⟨inA_, ht_, fun x_ hx_ => ⟨?_, hv_ x_ hx_⟩⟩
  have ax_ := inA_ x_ hx_
  have cx_ := hc_.2.1 x_ ax_
  have q_ := h_.2.2.2 x_ (by have := hF_ x_ ax_; omega) hx_
  refine ⟨⟨(cx_.2.2.2 0 (by decide)).1, (cx_.2.2.2 1 (by decide)).1⟩, ?_, ?_⟩
  · exact (q_ 0 (by decide)).symm
  · exact (q_ 1 (by decide)).symm
end MR_

/-! M_.tableOf -/
def vw_401n : sx_Wl := ([], [], [])
def vq_401n (l_ : Int) (S0_ : sm_S) (u_ : Option sm_V) (S1_ : sm_S) : Prop := S0_ = S1_ ∧ ∃ v_ : Int, u_ = some (.inl v_) ∧ (v_ = i_xor (S0_.2.2.1 214 0 (l_ / 2).toNat) (255 * (l_ % 2)) ∧ 0 ≤ v_ ∧ v_ ≤ 255)
set_option maxHeartbeats 400000 in
set_option maxRecDepth 20000 in
theorem vc_401n {sc_ : Nat × (Nat → Int)} (l_ : Int) (S0_ : sm_S) (hI_ : gi S0_) (hl_ : 0 ≤ l_ ∧ l_ ≤ 2047) : sm_T (mt_P sc_) 0 401 (0, [some (.inr (.inr (some (13, 0)))), some (.inl l_)], [], S0_) (fun ro9_ => ∃ u_ S1_, ro9_ = (.inl u_, S1_, 0) ∧ vq_401n l_ S0_ u_ S1_) := by
  have hF_ : ai_fr (sx_W vw_401n) S0_ S0_ := ai_fr_rf
  refine sm_T_go 4 (c1 := (6, [some (.inr (.inr (some (13, 0)))), some (.inl l_)], [.inl 1, .inl l_, .inr (.inr (some (214, 0)))], S0_)) rfl ?_
  refine sm_T_bin (w := (l_ / 2)) rfl (bi_shr (k := 1) (by decide) (by omega) (by omega)) ?_ -- pc_ 6
  refine sm_T_iald (n := 2048) rfl rfl (by omega) (by omega) ?_
  have bx1_ : 0 ≤ S0_.2.2.1 214 0 (l_ / 2).toNat ∧ S0_.2.2.1 214 0 (l_ / 2).toNat ≤ 255 := hI_.2 214 0 _
  refine sm_T_go 2 (c1 := (10, [some (.inr (.inr (some (13, 0)))), some (.inl l_)], [.inl 1, .inl l_, .inl (S0_.2.2.1 214 0 (l_ / 2).toNat)], S0_)) rfl ?_
  refine sm_T_bin (w := (l_ % 2)) rfl (bi_msk (k := 1) (by decide)) ?_ -- pc_ 10
  refine sm_T_go 1 (c1 := (12, [some (.inr (.inr (some (13, 0)))), some (.inl l_)], [.inl 1, .inl (l_ % 2), .inl (S0_.2.2.1 214 0 (l_ / 2).toNat)], S0_)) rfl ?_
  refine sm_T_br (a := 1) (z := 9) rfl (fun cx2_ => ?_) (fun cx2_ => ?_)
  · have cx2_ : (l_ % 2) ≠ 1 := of_decide_eq_true cx2_
    refine sm_T_go 1 (c1 := (22, [some (.inr (.inr (some (13, 0)))), some (.inl l_)], [.inl 0, .inl (S0_.2.2.1 214 0 (l_ / 2).toNat)], S0_)) rfl ?_
    refine sm_T_bin (w := (i_xor (S0_.2.2.1 214 0 (l_ / 2).toNat) 0)) rfl rfl ?_ -- pc_ 22
    first | have bx3_ := i_xrp (x_ := (S0_.2.2.1 214 0 (l_ / 2).toNat)) (y_ := 0) (k_ := 1) (by decide) (by omega) (by omega) | have bx3_ := i_xrp (x_ := (S0_.2.2.1 214 0 (l_ / 2).toNat)) (y_ := 0) (k_ := 3) (by decide) (by omega) (by omega) | have bx3_ := i_xrp (x_ := (S0_.2.2.1 214 0 (l_ / 2).toNat)) (y_ := 0) (k_ := 4) (by decide) (by omega) (by omega) | have bx3_ := i_xrp (x_ := (S0_.2.2.1 214 0 (l_ / 2).toNat)) (y_ := 0) (k_ := 6) (by decide) (by omega) (by omega) | have bx3_ := i_xrp (x_ := (S0_.2.2.1 214 0 (l_ / 2).toNat)) (y_ := 0) (k_ := 8) (by decide) (by omega) (by omega) | have bx3_ := i_xrp (x_ := (S0_.2.2.1 214 0 (l_ / 2).toNat)) (y_ := 0) (k_ := 11) (by decide) (by omega) (by omega) | have bx3_ := i_xrp (x_ := (S0_.2.2.1 214 0 (l_ / 2).toNat)) (y_ := 0) (k_ := 12) (by decide) (by omega) (by omega) | have bx3_ := i_xrp (x_ := (S0_.2.2.1 214 0 (l_ / 2).toNat)) (y_ := 0) (k_ := 16) (by decide) (by omega) (by omega) | have bx3_ := i_xrp (x_ := (S0_.2.2.1 214 0 (l_ / 2).toNat)) (y_ := 0) (k_ := 22) (by decide) (by omega) (by omega) | have bx3_ := i_xrp (x_ := (S0_.2.2.1 214 0 (l_ / 2).toNat)) (y_ := 0) (k_ := 31) (by decide) (by omega) (by omega) | have bx3_ := i_xor_n (S0_.2.2.1 214 0 (l_ / 2).toNat) 0
    refine sm_T_ri rfl ⟨_, _, rfl, rfl, _, rfl, ?_⟩
    have b9_ : 0 ≤ S0_.2.2.1 214 0 (l_ / 2).toNat ∧ S0_.2.2.1 214 0 (l_ / 2).toNat ≤ 255 := hI_.2 214 0 _
    first | (have e9_ : l_ % 2 = 1 := (by omega); have x9_ := i_xrp (k_ := 8) (x_ := S0_.2.2.1 214 0 (l_ / 2).toNat) (y_ := 255) (by decide) ⟨b9_.1, by (have q9_ : (2 : Int) ^ 8 = 256 := rfl; omega)⟩ (by decide); have q9_ : (2 : Int) ^ 8 = 256 := rfl; refine ⟨?_, by omega, by omega⟩; rw [e9_]; rfl) | (have e9_ : l_ % 2 = 0 := (by omega); rw [e9_]; have x9_ := i_xz (x_ := S0_.2.2.1 214 0 (l_ / 2).toNat) (by omega); refine ⟨?_, by omega, by omega⟩; rfl)
  · have cx2_ : ¬ ((l_ % 2) ≠ 1) := of_decide_eq_false cx2_
    refine sm_T_go 2 (c1 := (22, [some (.inr (.inr (some (13, 0)))), some (.inl l_)], [.inl 255, .inl (S0_.2.2.1 214 0 (l_ / 2).toNat)], S0_)) rfl ?_
    refine sm_T_bin (w := (i_xor (S0_.2.2.1 214 0 (l_ / 2).toNat) 255)) rfl rfl ?_ -- pc_ 22
    first | have bx4_ := i_xrp (x_ := (S0_.2.2.1 214 0 (l_ / 2).toNat)) (y_ := 255) (k_ := 1) (by decide) (by omega) (by omega) | have bx4_ := i_xrp (x_ := (S0_.2.2.1 214 0 (l_ / 2).toNat)) (y_ := 255) (k_ := 3) (by decide) (by omega) (by omega) | have bx4_ := i_xrp (x_ := (S0_.2.2.1 214 0 (l_ / 2).toNat)) (y_ := 255) (k_ := 4) (by decide) (by omega) (by omega) | have bx4_ := i_xrp (x_ := (S0_.2.2.1 214 0 (l_ / 2).toNat)) (y_ := 255) (k_ := 6) (by decide) (by omega) (by omega) | have bx4_ := i_xrp (x_ := (S0_.2.2.1 214 0 (l_ / 2).toNat)) (y_ := 255) (k_ := 8) (by decide) (by omega) (by omega) | have bx4_ := i_xrp (x_ := (S0_.2.2.1 214 0 (l_ / 2).toNat)) (y_ := 255) (k_ := 11) (by decide) (by omega) (by omega) | have bx4_ := i_xrp (x_ := (S0_.2.2.1 214 0 (l_ / 2).toNat)) (y_ := 255) (k_ := 12) (by decide) (by omega) (by omega) | have bx4_ := i_xrp (x_ := (S0_.2.2.1 214 0 (l_ / 2).toNat)) (y_ := 255) (k_ := 16) (by decide) (by omega) (by omega) | have bx4_ := i_xrp (x_ := (S0_.2.2.1 214 0 (l_ / 2).toNat)) (y_ := 255) (k_ := 22) (by decide) (by omega) (by omega) | have bx4_ := i_xrp (x_ := (S0_.2.2.1 214 0 (l_ / 2).toNat)) (y_ := 255) (k_ := 31) (by decide) (by omega) (by omega) | have bx4_ := i_xor_n (S0_.2.2.1 214 0 (l_ / 2).toNat) 255
    refine sm_T_ri rfl ⟨_, _, rfl, rfl, _, rfl, ?_⟩
    have b9_ : 0 ≤ S0_.2.2.1 214 0 (l_ / 2).toNat ∧ S0_.2.2.1 214 0 (l_ / 2).toNat ≤ 255 := hI_.2 214 0 _
    first | (have e9_ : l_ % 2 = 1 := (by omega); have x9_ := i_xrp (k_ := 8) (x_ := S0_.2.2.1 214 0 (l_ / 2).toNat) (y_ := 255) (by decide) ⟨b9_.1, by (have q9_ : (2 : Int) ^ 8 = 256 := rfl; omega)⟩ (by decide); have q9_ : (2 : Int) ^ 8 = 256 := rfl; refine ⟨?_, by omega, by omega⟩; rw [e9_]; rfl) | (have e9_ : l_ % 2 = 0 := (by omega); rw [e9_]; have x9_ := i_xz (x_ := S0_.2.2.1 214 0 (l_ / 2).toNat) (by omega); refine ⟨?_, by omega, by omega⟩; rfl)
/-! M_.functionOver -/
def vw_402n : sx_Wl := ([(13, 127)], [213, 214], [])
def vq_402n (n_ : Int) (ci_ : Int) (F_ : Int) (A_ : Nat → Prop) (c_ : List Nat) (S0_ : sm_S) (u_ : Option sm_V) (S1_ : sm_S) : Prop := ∃ v_ : Int, u_ = some (.inl v_) ∧ gi S1_ ∧ ai_fr (sx_W vw_402n) S0_ S1_ ∧ ((0 ≤ v_ ∧ v_ ≤ 255) ∧ S1_.1 13 0 127 = (S0_.1 13 0 127 + 1) ∧ (∀ x_ : Nat, -(S0_.1 13 0 127 + 1) ≤ S1_.2.2.1 213 0 x_ ∧ S1_.2.2.1 213 0 x_ ≤ (S0_.1 13 0 127 + 1)) ∧ ∃ (B_ : Nat → Prop) (t_ : Nat → Int), B_ n_.toNat ∧ (∀ x_, B_ x_ → A_ x_) ∧ tvf (fun x_ => (S0_.2.2.1 199 0 x_ / 2).toNat) (fun x_ => (S0_.2.2.1 200 0 x_ / 2).toNat) (fun x_ => S0_.2.2.1 199 0 x_ % 2) (fun x_ => S0_.2.2.1 200 0 x_ % 2) c_ B_ t_ ∧ v_ = t_ n_.toNat)
set_option maxHeartbeats 4000000 in
set_option maxRecDepth 20000 in
theorem vl_402n {sc_ : Nat × (Nat → Int)} (n_ : Int) (ci_ : Int) (F_ : Int) (A_ : Nat → Prop) (c_ : List Nat) (S0_ : sm_S) (hf_ : S0_.2.2.1 160 0 (S0_.1 13 0 105).toNat = F_) (hn_ : 1 ≤ F_ ∧ F_ ≤ n_ ∧ n_ ≤ 1012) (hci_ : 0 ≤ ci_ ∧ ci_ ≤ 63) (hl_ : (2 ≤ c_.length ∧ c_.length ≤ 3) ∧ ris c_) (hcs_ : S0_.2.2.1 204 0 ci_.toNat = (c_.length : Int)) (hcv_ : ∀ k_ x_ : Nat, c_[k_]? = some x_ → S0_.2.2.1 205 0 (3 * ci_.toNat + k_) = (x_ : Int)) (hclo : clo (sds (fun x_ => (S0_.2.2.1 199 0 x_ / 2).toNat) (fun x_ => (S0_.2.2.1 200 0 x_ / 2).toNat)) n_.toNat A_ c_) (hAF_ : ∀ x_ : Nat, A_ x_ → F_ ≤ (x_ : Int)) (hrd_ : 0 ≤ S0_.1 13 0 127 ∧ S0_.1 13 0 127 ≤ 2000000000) (hmb_ : ∀ x_ : Nat, -(S0_.1 13 0 127) ≤ S0_.2.2.1 213 0 x_ ∧ S0_.2.2.1 213 0 x_ ≤ S0_.1 13 0 127) : ∀ nn_ : Nat, (∀ (le_ : Int) (k_ : Int) (S_ : sm_S), gi S_ → ai_fr (sx_W vw_402n) S0_ S_ → ((le_ = n_ ∧ 0 ≤ k_ ∧ k_ ≤ 3) ∧ (S_.1 13 0 127 = (S0_.1 13 0 127 + 1)) ∧ (m25 n_.toNat c_ (S0_.1 13 0 127 + 1) (S_.2.2.1 213 0) (S_.2.2.1 214 0) k_.toNat) ∧ True) → ((90000 - k_).toNat) < nn_ → sm_T (mt_P sc_) 1 402 (25, [some (.inr (.inr (some (13, 0)))), some (.inl n_), some (.inl ci_), some (.inl le_), some (.inl k_), none, none], [], S_) (fun ro9_ => ∃ u_ S1_, ro9_ = (.inl u_, S1_, 0) ∧ vq_402n n_ ci_ F_ A_ c_ S0_ u_ S1_)) ∧ (∀ (le_ : Int) (x_ : Int) (S_ : sm_S), gi S_ → ai_fr (sx_W vw_402n) S0_ S_ → ((F_ ≤ le_ ∧ le_ ≤ n_ ∧ F_ - 1 ≤ x_ ∧ x_ ≤ n_) ∧ (S_.1 13 0 127 = (S0_.1 13 0 127 + 1)) ∧ (mrq (sds (fun x_ => (S0_.2.2.1 199 0 x_ / 2).toNat) (fun x_ => (S0_.2.2.1 200 0 x_ / 2).toNat)) n_.toNat A_ c_ (S0_.1 13 0 127 + 1) (S_.2.2.1 213 0) x_) ∧ (∀ m_ x_ : Nat, c_[m_]? = some x_ → S_.2.2.1 214 0 x_ = vtk m_) ∧ (∀ y_ : Nat, x_ < (y_ : Int) → S_.2.2.1 213 0 y_ = (S0_.1 13 0 127 + 1) → le_ ≤ (y_ : Int)) ∧ True) → ((50000 + x_).toNat) < nn_ → sm_T (mt_P sc_) 1 402 (108, [some (.inr (.inr (some (13, 0)))), some (.inl n_), some (.inl ci_), some (.inl le_), some (.inl x_), none, none], [], S_) (fun ro9_ => ∃ u_ S1_, ro9_ = (.inl u_, S1_, 0) ∧ vq_402n n_ ci_ F_ A_ c_ S0_ u_ S1_)) ∧ (∀ (le_ : Int) (x_ : Int) (S_ : sm_S), gi S_ → ai_fr (sx_W vw_402n) S0_ S_ → ((F_ ≤ le_ ∧ le_ ≤ x_ ∧ x_ ≤ n_ + 1) ∧ (S_.1 13 0 127 = (S0_.1 13 0 127 + 1)) ∧ (mrq (sds (fun x_ => (S0_.2.2.1 199 0 x_ / 2).toNat) (fun x_ => (S0_.2.2.1 200 0 x_ / 2).toNat)) n_.toNat A_ c_ (S0_.1 13 0 127 + 1) (S_.2.2.1 213 0) (F_ - 1)) ∧ (∀ m_ x_ : Nat, c_[m_]? = some x_ → S_.2.2.1 214 0 x_ = vtk m_) ∧ (∀ y_ : Nat, S_.2.2.1 213 0 y_ = (S0_.1 13 0 127 + 1) → le_ ≤ (y_ : Int)) ∧ (∀ y_ : Nat, (y_ : Int) < x_ → S_.2.2.1 213 0 y_ = (S0_.1 13 0 127 + 1) → S_.2.2.1 214 0 y_ = i_and (i_xor (S_.2.2.1 214 0 (S0_.2.2.1 199 0 y_ / 2).toNat) (255 * (S0_.2.2.1 199 0 y_ % 2))) (i_xor (S_.2.2.1 214 0 (S0_.2.2.1 200 0 y_ / 2).toNat) (255 * (S0_.2.2.1 200 0 y_ % 2)))) ∧ True) → ((5000 - x_).toNat) < nn_ → sm_T (mt_P sc_) 1 402 (238, [some (.inr (.inr (some (13, 0)))), some (.inl n_), some (.inl ci_), some (.inl le_), some (.inl x_), none, none], [], S_) (fun ro9_ => ∃ u_ S1_, ro9_ = (.inl u_, S1_, 0) ∧ vq_402n n_ ci_ F_ A_ c_ S0_ u_ S1_)) := by
  intro nn_
  induction nn_ with
  | zero => exact ⟨fun _ _ _ _ _ _ h_ => absurd h_ (Nat.not_lt_zero _), fun _ _ _ _ _ _ h_ => absurd h_ (Nat.not_lt_zero _), fun _ _ _ _ _ _ h_ => absurd h_ (Nat.not_lt_zero _)⟩
  | succ nn_ ih_ =>
    refine ⟨?_, ?_, ?_⟩
    · rintro le_ k_ S_ hI_ hF_ ⟨h0_, hr_, hmk_, -⟩ hm_
      have f199_ : S_.2.2.1 199 0 = S0_.2.2.1 199 0 := fr_arr hF_ rfl
      have f200_ : S_.2.2.1 200 0 = S0_.2.2.1 200 0 := fr_arr hF_ rfl
      have f204_ : S_.2.2.1 204 0 = S0_.2.2.1 204 0 := fr_arr hF_ rfl
      have f205_ : S_.2.2.1 205 0 = S0_.2.2.1 205 0 := fr_arr hF_ rfl
      have f160_ : S_.2.2.1 160 0 (S_.1 13 0 105).toNat = F_ := by (rw [hF_.1 13 0 105 rfl, fr_arr (t := 160) (i := 0) hF_ rfl]; exact hf_)
      have l8_ := hl_.1
      refine sm_T_go 4 (c1 := (32, [some (.inr (.inr (some (13, 0)))), some (.inl n_), some (.inl ci_), some (.inl le_), some (.inl k_), none, none], [.inl ci_, .inr (.inr (some (204, 0))), .inl k_], S_)) rfl ?_
      refine sm_T_iald (n := 64) rfl rfl (by omega) (by omega) ?_
      have bx1_ : 0 ≤ S_.2.2.1 204 0 ci_.toNat ∧ S_.2.2.1 204 0 ci_.toNat ≤ 3 := hI_.2 204 0 _
      refine sm_T_br (a := 3) (z := 72) rfl (fun cx2_ => ?_) (fun cx2_ => ?_)
      · have cx2_ : (S_.2.2.1 204 0 ci_.toNat) ≤ k_ := of_decide_eq_true cx2_
        rw [f204_, hcs_] at cx2_
        refine sm_T_go 2 (c1 := (108, [some (.inr (.inr (some (13, 0)))), some (.inl n_), some (.inl ci_), some (.inl le_), some (.inl n_), none, none], [], S_)) rfl ?_
        refine ih_.2.1 le_ n_ S_ hI_ hF_ ⟨?_, ?_, ?_, ?_, ?_, trivial⟩ ?_
        · omega
        · exact hr_
        · have z9_ := (mrq_0 (sd_ := (sds (fun x_ => (S0_.2.2.1 199 0 x_ / 2).toNat) (fun x_ => (S0_.2.2.1 200 0 x_ / 2).toNat))) (by omega) hclo.1 hmk_ (by omega) (hclo.2.1 _ hclo.1).2.1).1
          rw [show ((n_.toNat : Nat) : Int) = n_ by omega] at z9_
          exact z9_
        · exact (mrq_0 (sd_ := (sds (fun x_ => (S0_.2.2.1 199 0 x_ / 2).toNat) (fun x_ => (S0_.2.2.1 200 0 x_ / 2).toNat))) (by omega) hclo.1 hmk_ (by omega) (hclo.2.1 _ hclo.1).2.1).2
        · intro y_ u_ w_
          exfalso
          have z9_ := mrq_0 (sd_ := (sds (fun x_ => (S0_.2.2.1 199 0 x_ / 2).toNat) (fun x_ => (S0_.2.2.1 200 0 x_ / 2).toNat))) (by omega) hclo.1 hmk_ (by omega) (hclo.2.1 _ hclo.1).2.1
          have nc9_ : ¬ y_ ∈ c_ := fun q_ => by (have := z9_.1.2.1 _ q_; omega)
          have y9_ := (hclo.2.1 _ ((z9_.1.2.2.1 _ nc9_).2.2 w_)).1
          omega
        · omega
      · have cx2_ : ¬ ((S_.2.2.1 204 0 ci_.toNat) ≤ k_) := of_decide_eq_false cx2_
        rw [f204_, hcs_] at cx2_
        obtain ⟨x9_, hx9_⟩ : ∃ x9_, c_[k_.toNat]? = some x9_ := ⟨_, List.getElem?_eq_getElem (by omega)⟩
        have ve9_ := hcv_ _ _ hx9_
        rw [show 3 * ci_.toNat + k_.toNat = (3 * ci_ + k_).toNat by omega, ← f205_] at ve9_
        have xt9_ : (S_.2.2.1 205 0 (3 * ci_ + k_).toNat).toNat = x9_ := by omega
        have nn9_ : ¬ n_.toNat ∈ c_ := (hclo.2.1 _ hclo.1).2.1
        refine sm_T_go 6 (c1 := (46, [some (.inr (.inr (some (13, 0)))), some (.inl n_), some (.inl ci_), some (.inl le_), some (.inl k_), none, none], [.inl ci_, .inl 3, .inr (.inr (some (205, 0))), .inr (.inr (some (214, 0)))], S_)) rfl ?_
        refine sm_T_bin (w := 3 * ci_) rfl (bi_mul (by omega) (by omega) (by omega)) ?_ -- pc_ 46
        refine sm_T_go 1 (c1 := (49, [some (.inr (.inr (some (13, 0)))), some (.inl n_), some (.inl ci_), some (.inl le_), some (.inl k_), none, none], [.inl k_, .inl (3 * ci_), .inr (.inr (some (205, 0))), .inr (.inr (some (214, 0)))], S_)) rfl ?_
        refine sm_T_bin (w := 3 * ci_ + k_) rfl (bi_add (by omega) (by omega) (by omega)) ?_ -- pc_ 49
        refine sm_T_iald (n := 192) rfl rfl (by omega) (by omega) ?_
        have bx3_ : 0 ≤ S_.2.2.1 205 0 (3 * ci_ + k_).toNat ∧ S_.2.2.1 205 0 (3 * ci_ + k_).toNat ≤ 1012 := hI_.2 205 0 _
        refine sm_T_go 1 (c1 := (53, [some (.inr (.inr (some (13, 0)))), some (.inl n_), some (.inl ci_), some (.inl le_), some (.inl k_), none, none], [.inl k_, .inl (S_.2.2.1 205 0 (3 * ci_ + k_).toNat), .inr (.inr (some (214, 0)))], S_)) rfl ?_
        refine sm_T_b0 (a := 1) (z := 9) rfl (fun cx4_ => ?_) (fun cx4_ => ?_)
        · have cx4_ : k_ ≠ 0 := of_decide_eq_true cx4_
          refine sm_T_go 2 (c1 := (65, [some (.inr (.inr (some (13, 0)))), some (.inl n_), some (.inl ci_), some (.inl le_), some (.inl k_), none, none], [.inl 1, .inl k_, .inl (S_.2.2.1 205 0 (3 * ci_ + k_).toNat), .inr (.inr (some (214, 0)))], S_)) rfl ?_
          refine sm_T_br (a := 1) (z := 9) rfl (fun cx5_ => ?_) (fun cx5_ => ?_)
          · have cx5_ : k_ ≠ 1 := of_decide_eq_true cx5_
            refine sm_T_go 1 (c1 := (77, [some (.inr (.inr (some (13, 0)))), some (.inl n_), some (.inl ci_), some (.inl le_), some (.inl k_), none, none], [.inl 240, .inl (S_.2.2.1 205 0 (3 * ci_ + k_).toNat), .inr (.inr (some (214, 0)))], S_)) rfl ?_
            refine sm_T_iast (n := 2048) rfl rfl (by omega) (by omega) ?_
            have hIx6_ : gi (sm_aI S_ 214 0 (S_.2.2.1 205 0 (3 * ci_ + k_).toNat).toNat 240) := gi_aI hI_ (show 0 ≤ 240 ∧ 240 ≤ 255 from ⟨by omega, by omega⟩)
            have hFx7_ : ai_fr (sx_W vw_402n) S0_ (sm_aI S_ 214 0 (S_.2.2.1 205 0 (3 * ci_ + k_).toNat).toNat 240) := ai_fr_tr hF_ (ai_fr_aI rfl)
            refine sm_T_go 6 (c1 := (88, [some (.inr (.inr (some (13, 0)))), some (.inl n_), some (.inl ci_), some (.inl le_), some (.inl k_), none, none], [.inl ci_, .inl 3, .inr (.inr (some (205, 0))), .inr (.inr (some (213, 0)))], sm_aI S_ 214 0 (S_.2.2.1 205 0 (3 * ci_ + k_).toNat).toNat 240)) rfl ?_
            refine sm_T_bin (w := 3 * ci_) rfl (bi_mul (by omega) (by omega) (by omega)) ?_ -- pc_ 88
            refine sm_T_go 1 (c1 := (91, [some (.inr (.inr (some (13, 0)))), some (.inl n_), some (.inl ci_), some (.inl le_), some (.inl k_), none, none], [.inl k_, .inl (3 * ci_), .inr (.inr (some (205, 0))), .inr (.inr (some (213, 0)))], sm_aI S_ 214 0 (S_.2.2.1 205 0 (3 * ci_ + k_).toNat).toNat 240)) rfl ?_
            refine sm_T_bin (w := 3 * ci_ + k_) rfl (bi_add (by omega) (by omega) (by omega)) ?_ -- pc_ 91
            refine sm_T_iald (n := 192) rfl rfl (by omega) (by omega) ?_
            have bx8_ : (-2147483648) ≤ S_.1 13 0 127 ∧ S_.1 13 0 127 ≤ 2147483647 := hI_.1 13 0 127 rfl
            refine sm_T_go 2 (c1 := (97, [some (.inr (.inr (some (13, 0)))), some (.inl n_), some (.inl ci_), some (.inl le_), some (.inl k_), none, none], [.inl (S_.1 13 0 127), .inl (S_.2.2.1 205 0 (3 * ci_ + k_).toNat), .inr (.inr (some (213, 0)))], sm_aI S_ 214 0 (S_.2.2.1 205 0 (3 * ci_ + k_).toNat).toNat 240)) rfl ?_
            refine sm_T_neg (w := -(S_.1 13 0 127)) rfl (by omega) (by omega) (by omega) ?_ -- pc_ 97
            refine sm_T_iast (n := 2048) rfl rfl (by omega) (by omega) ?_
            have hIx9_ : gi (sm_aI (sm_aI S_ 214 0 (S_.2.2.1 205 0 (3 * ci_ + k_).toNat).toNat 240) 213 0 (S_.2.2.1 205 0 (3 * ci_ + k_).toNat).toNat (-(S_.1 13 0 127))) := gi_aI hIx6_ (show (-2147483648) ≤ -(S_.1 13 0 127) ∧ -(S_.1 13 0 127) ≤ 2147483647 from ⟨by omega, by omega⟩)
            have hFx10_ : ai_fr (sx_W vw_402n) S0_ (sm_aI (sm_aI S_ 214 0 (S_.2.2.1 205 0 (3 * ci_ + k_).toNat).toNat 240) 213 0 (S_.2.2.1 205 0 (3 * ci_ + k_).toNat).toNat (-(S_.1 13 0 127))) := ai_fr_tr hFx7_ (ai_fr_aI rfl)
            refine sm_T_inc (a := 4) (z := 1) (v := k_) (w := k_ + 1) rfl rfl (by omega) (by omega) (by omega) ?_ -- pc_ 99
            refine sm_T_go 1 (c1 := (25, [some (.inr (.inr (some (13, 0)))), some (.inl n_), some (.inl ci_), some (.inl le_), some (.inl (k_ + 1)), none, none], [], sm_aI (sm_aI S_ 214 0 (S_.2.2.1 205 0 (3 * ci_ + k_).toNat).toNat 240) 213 0 (S_.2.2.1 205 0 (3 * ci_ + k_).toNat).toNat (-(S_.1 13 0 127)))) rfl ?_
            refine ih_.1 le_ (k_ + 1) (sm_aI (sm_aI S_ 214 0 (S_.2.2.1 205 0 (3 * ci_ + k_).toNat).toNat 240) 213 0 (S_.2.2.1 205 0 (3 * ci_ + k_).toNat).toNat (-(S_.1 13 0 127))) hIx9_ hFx10_ ⟨?_, ?_, ?_, trivial⟩ ?_
            · omega
            · ((try simp only [rd_eq, rd_ne, rf_eq, rf_nk, rf_nt, rd_fa, rd_af, rd_fl, rd_al, rd_lf, rd_la, rd_leq, rd_lne, rd_fr, rd_ar, ne_eq, Nat.reduceEqDiff, not_false_eq_true]); exact hr_)
            · rw [show (k_ + 1).toNat = k_.toNat + 1 by omega]
              refine m25_s hmk_ hx9_ hl_.2 nn9_ (fun z_ => ?_) (fun z_ => ?_)
              · rw [rd_eq, xt9_, rd_ne (by decide)]; first | rw [hr_] | ((try simp only [rd_eq, rd_ne, rf_eq, rf_nk, rf_nt, rd_fa, rd_af, rd_fl, rd_al, rd_lf, rd_la, rd_leq, rd_lne, rd_fr, rd_ar, ne_eq, Nat.reduceEqDiff, not_false_eq_true]); rw [hr_])
              · rw [rd_ne (by decide), rd_eq, xt9_]; first | (rw [show k_.toNat = 0 by omega]; rfl) | (rw [show k_.toNat = 1 by omega]; rfl) | (rw [show k_.toNat = 2 by omega]; rfl)
            · omega
          · have cx5_ : ¬ (k_ ≠ 1) := of_decide_eq_false cx5_
            refine sm_T_go 2 (c1 := (77, [some (.inr (.inr (some (13, 0)))), some (.inl n_), some (.inl ci_), some (.inl le_), some (.inl k_), none, none], [.inl 204, .inl (S_.2.2.1 205 0 (3 * ci_ + k_).toNat), .inr (.inr (some (214, 0)))], S_)) rfl ?_
            refine sm_T_iast (n := 2048) rfl rfl (by omega) (by omega) ?_
            have hIx11_ : gi (sm_aI S_ 214 0 (S_.2.2.1 205 0 (3 * ci_ + k_).toNat).toNat 204) := gi_aI hI_ (show 0 ≤ 204 ∧ 204 ≤ 255 from ⟨by omega, by omega⟩)
            have hFx12_ : ai_fr (sx_W vw_402n) S0_ (sm_aI S_ 214 0 (S_.2.2.1 205 0 (3 * ci_ + k_).toNat).toNat 204) := ai_fr_tr hF_ (ai_fr_aI rfl)
            refine sm_T_go 6 (c1 := (88, [some (.inr (.inr (some (13, 0)))), some (.inl n_), some (.inl ci_), some (.inl le_), some (.inl k_), none, none], [.inl ci_, .inl 3, .inr (.inr (some (205, 0))), .inr (.inr (some (213, 0)))], sm_aI S_ 214 0 (S_.2.2.1 205 0 (3 * ci_ + k_).toNat).toNat 204)) rfl ?_
            refine sm_T_bin (w := 3 * ci_) rfl (bi_mul (by omega) (by omega) (by omega)) ?_ -- pc_ 88
            refine sm_T_go 1 (c1 := (91, [some (.inr (.inr (some (13, 0)))), some (.inl n_), some (.inl ci_), some (.inl le_), some (.inl k_), none, none], [.inl k_, .inl (3 * ci_), .inr (.inr (some (205, 0))), .inr (.inr (some (213, 0)))], sm_aI S_ 214 0 (S_.2.2.1 205 0 (3 * ci_ + k_).toNat).toNat 204)) rfl ?_
            refine sm_T_bin (w := 3 * ci_ + k_) rfl (bi_add (by omega) (by omega) (by omega)) ?_ -- pc_ 91
            refine sm_T_iald (n := 192) rfl rfl (by omega) (by omega) ?_
            have bx13_ : (-2147483648) ≤ S_.1 13 0 127 ∧ S_.1 13 0 127 ≤ 2147483647 := hI_.1 13 0 127 rfl
            refine sm_T_go 2 (c1 := (97, [some (.inr (.inr (some (13, 0)))), some (.inl n_), some (.inl ci_), some (.inl le_), some (.inl k_), none, none], [.inl (S_.1 13 0 127), .inl (S_.2.2.1 205 0 (3 * ci_ + k_).toNat), .inr (.inr (some (213, 0)))], sm_aI S_ 214 0 (S_.2.2.1 205 0 (3 * ci_ + k_).toNat).toNat 204)) rfl ?_
            refine sm_T_neg (w := -(S_.1 13 0 127)) rfl (by omega) (by omega) (by omega) ?_ -- pc_ 97
            refine sm_T_iast (n := 2048) rfl rfl (by omega) (by omega) ?_
            have hIx14_ : gi (sm_aI (sm_aI S_ 214 0 (S_.2.2.1 205 0 (3 * ci_ + k_).toNat).toNat 204) 213 0 (S_.2.2.1 205 0 (3 * ci_ + k_).toNat).toNat (-(S_.1 13 0 127))) := gi_aI hIx11_ (show (-2147483648) ≤ -(S_.1 13 0 127) ∧ -(S_.1 13 0 127) ≤ 2147483647 from ⟨by omega, by omega⟩)
            have hFx15_ : ai_fr (sx_W vw_402n) S0_ (sm_aI (sm_aI S_ 214 0 (S_.2.2.1 205 0 (3 * ci_ + k_).toNat).toNat 204) 213 0 (S_.2.2.1 205 0 (3 * ci_ + k_).toNat).toNat (-(S_.1 13 0 127))) := ai_fr_tr hFx12_ (ai_fr_aI rfl)
            refine sm_T_inc (a := 4) (z := 1) (v := k_) (w := k_ + 1) rfl rfl (by omega) (by omega) (by omega) ?_ -- pc_ 99
            refine sm_T_go 1 (c1 := (25, [some (.inr (.inr (some (13, 0)))), some (.inl n_), some (.inl ci_), some (.inl le_), some (.inl (k_ + 1)), none, none], [], sm_aI (sm_aI S_ 214 0 (S_.2.2.1 205 0 (3 * ci_ + k_).toNat).toNat 204) 213 0 (S_.2.2.1 205 0 (3 * ci_ + k_).toNat).toNat (-(S_.1 13 0 127)))) rfl ?_
            refine ih_.1 le_ (k_ + 1) (sm_aI (sm_aI S_ 214 0 (S_.2.2.1 205 0 (3 * ci_ + k_).toNat).toNat 204) 213 0 (S_.2.2.1 205 0 (3 * ci_ + k_).toNat).toNat (-(S_.1 13 0 127))) hIx14_ hFx15_ ⟨?_, ?_, ?_, trivial⟩ ?_
            · omega
            · ((try simp only [rd_eq, rd_ne, rf_eq, rf_nk, rf_nt, rd_fa, rd_af, rd_fl, rd_al, rd_lf, rd_la, rd_leq, rd_lne, rd_fr, rd_ar, ne_eq, Nat.reduceEqDiff, not_false_eq_true]); exact hr_)
            · rw [show (k_ + 1).toNat = k_.toNat + 1 by omega]
              refine m25_s hmk_ hx9_ hl_.2 nn9_ (fun z_ => ?_) (fun z_ => ?_)
              · rw [rd_eq, xt9_, rd_ne (by decide)]; first | rw [hr_] | ((try simp only [rd_eq, rd_ne, rf_eq, rf_nk, rf_nt, rd_fa, rd_af, rd_fl, rd_al, rd_lf, rd_la, rd_leq, rd_lne, rd_fr, rd_ar, ne_eq, Nat.reduceEqDiff, not_false_eq_true]); rw [hr_])
              · rw [rd_ne (by decide), rd_eq, xt9_]; first | (rw [show k_.toNat = 0 by omega]; rfl) | (rw [show k_.toNat = 1 by omega]; rfl) | (rw [show k_.toNat = 2 by omega]; rfl)
            · omega
        · have cx4_ : ¬ (k_ ≠ 0) := of_decide_eq_false cx4_
          refine sm_T_go 2 (c1 := (77, [some (.inr (.inr (some (13, 0)))), some (.inl n_), some (.inl ci_), some (.inl le_), some (.inl k_), none, none], [.inl 170, .inl (S_.2.2.1 205 0 (3 * ci_ + k_).toNat), .inr (.inr (some (214, 0)))], S_)) rfl ?_
          refine sm_T_iast (n := 2048) rfl rfl (by omega) (by omega) ?_
          have hIx16_ : gi (sm_aI S_ 214 0 (S_.2.2.1 205 0 (3 * ci_ + k_).toNat).toNat 170) := gi_aI hI_ (show 0 ≤ 170 ∧ 170 ≤ 255 from ⟨by omega, by omega⟩)
          have hFx17_ : ai_fr (sx_W vw_402n) S0_ (sm_aI S_ 214 0 (S_.2.2.1 205 0 (3 * ci_ + k_).toNat).toNat 170) := ai_fr_tr hF_ (ai_fr_aI rfl)
          refine sm_T_go 6 (c1 := (88, [some (.inr (.inr (some (13, 0)))), some (.inl n_), some (.inl ci_), some (.inl le_), some (.inl k_), none, none], [.inl ci_, .inl 3, .inr (.inr (some (205, 0))), .inr (.inr (some (213, 0)))], sm_aI S_ 214 0 (S_.2.2.1 205 0 (3 * ci_ + k_).toNat).toNat 170)) rfl ?_
          refine sm_T_bin (w := 3 * ci_) rfl (bi_mul (by omega) (by omega) (by omega)) ?_ -- pc_ 88
          refine sm_T_go 1 (c1 := (91, [some (.inr (.inr (some (13, 0)))), some (.inl n_), some (.inl ci_), some (.inl le_), some (.inl k_), none, none], [.inl k_, .inl (3 * ci_), .inr (.inr (some (205, 0))), .inr (.inr (some (213, 0)))], sm_aI S_ 214 0 (S_.2.2.1 205 0 (3 * ci_ + k_).toNat).toNat 170)) rfl ?_
          refine sm_T_bin (w := 3 * ci_ + k_) rfl (bi_add (by omega) (by omega) (by omega)) ?_ -- pc_ 91
          refine sm_T_iald (n := 192) rfl rfl (by omega) (by omega) ?_
          have bx18_ : (-2147483648) ≤ S_.1 13 0 127 ∧ S_.1 13 0 127 ≤ 2147483647 := hI_.1 13 0 127 rfl
          refine sm_T_go 2 (c1 := (97, [some (.inr (.inr (some (13, 0)))), some (.inl n_), some (.inl ci_), some (.inl le_), some (.inl k_), none, none], [.inl (S_.1 13 0 127), .inl (S_.2.2.1 205 0 (3 * ci_ + k_).toNat), .inr (.inr (some (213, 0)))], sm_aI S_ 214 0 (S_.2.2.1 205 0 (3 * ci_ + k_).toNat).toNat 170)) rfl ?_
          refine sm_T_neg (w := -(S_.1 13 0 127)) rfl (by omega) (by omega) (by omega) ?_ -- pc_ 97
          refine sm_T_iast (n := 2048) rfl rfl (by omega) (by omega) ?_
          have hIx19_ : gi (sm_aI (sm_aI S_ 214 0 (S_.2.2.1 205 0 (3 * ci_ + k_).toNat).toNat 170) 213 0 (S_.2.2.1 205 0 (3 * ci_ + k_).toNat).toNat (-(S_.1 13 0 127))) := gi_aI hIx16_ (show (-2147483648) ≤ -(S_.1 13 0 127) ∧ -(S_.1 13 0 127) ≤ 2147483647 from ⟨by omega, by omega⟩)
          have hFx20_ : ai_fr (sx_W vw_402n) S0_ (sm_aI (sm_aI S_ 214 0 (S_.2.2.1 205 0 (3 * ci_ + k_).toNat).toNat 170) 213 0 (S_.2.2.1 205 0 (3 * ci_ + k_).toNat).toNat (-(S_.1 13 0 127))) := ai_fr_tr hFx17_ (ai_fr_aI rfl)
          refine sm_T_inc (a := 4) (z := 1) (v := k_) (w := k_ + 1) rfl rfl (by omega) (by omega) (by omega) ?_ -- pc_ 99
          refine sm_T_go 1 (c1 := (25, [some (.inr (.inr (some (13, 0)))), some (.inl n_), some (.inl ci_), some (.inl le_), some (.inl (k_ + 1)), none, none], [], sm_aI (sm_aI S_ 214 0 (S_.2.2.1 205 0 (3 * ci_ + k_).toNat).toNat 170) 213 0 (S_.2.2.1 205 0 (3 * ci_ + k_).toNat).toNat (-(S_.1 13 0 127)))) rfl ?_
          refine ih_.1 le_ (k_ + 1) (sm_aI (sm_aI S_ 214 0 (S_.2.2.1 205 0 (3 * ci_ + k_).toNat).toNat 170) 213 0 (S_.2.2.1 205 0 (3 * ci_ + k_).toNat).toNat (-(S_.1 13 0 127))) hIx19_ hFx20_ ⟨?_, ?_, ?_, trivial⟩ ?_
          · omega
          · ((try simp only [rd_eq, rd_ne, rf_eq, rf_nk, rf_nt, rd_fa, rd_af, rd_fl, rd_al, rd_lf, rd_la, rd_leq, rd_lne, rd_fr, rd_ar, ne_eq, Nat.reduceEqDiff, not_false_eq_true]); exact hr_)
          · rw [show (k_ + 1).toNat = k_.toNat + 1 by omega]
            refine m25_s hmk_ hx9_ hl_.2 nn9_ (fun z_ => ?_) (fun z_ => ?_)
            · rw [rd_eq, xt9_, rd_ne (by decide)]; first | rw [hr_] | ((try simp only [rd_eq, rd_ne, rf_eq, rf_nk, rf_nt, rd_fa, rd_af, rd_fl, rd_al, rd_lf, rd_la, rd_leq, rd_lne, rd_fr, rd_ar, ne_eq, Nat.reduceEqDiff, not_false_eq_true]); rw [hr_])
            · rw [rd_ne (by decide), rd_eq, xt9_]; first | (rw [show k_.toNat = 0 by omega]; rfl) | (rw [show k_.toNat = 1 by omega]; rfl) | (rw [show k_.toNat = 2 by omega]; rfl)
          · omega
    · rintro le_ x_ S_ hI_ hF_ ⟨h0_, hr_, hmk_, htb_, hle_, -⟩ hm_
      have f199_ : S_.2.2.1 199 0 = S0_.2.2.1 199 0 := fr_arr hF_ rfl
      have f200_ : S_.2.2.1 200 0 = S0_.2.2.1 200 0 := fr_arr hF_ rfl
      have f204_ : S_.2.2.1 204 0 = S0_.2.2.1 204 0 := fr_arr hF_ rfl
      have f205_ : S_.2.2.1 205 0 = S0_.2.2.1 205 0 := fr_arr hF_ rfl
      have f160_ : S_.2.2.1 160 0 (S_.1 13 0 105).toNat = F_ := by (rw [hF_.1 13 0 105 rfl, fr_arr (t := 160) (i := 0) hF_ rfl]; exact hf_)
      have l8_ := hl_.1
      have bx1_ : 0 ≤ S_.1 13 0 105 ∧ S_.1 13 0 105 ≤ 5 := hI_.1 13 0 105 rfl
      refine sm_T_go 5 (c1 := (118, [some (.inr (.inr (some (13, 0)))), some (.inl n_), some (.inl ci_), some (.inl le_), some (.inl x_), none, none], [.inl (S_.1 13 0 105), .inr (.inr (some (160, 0))), .inl x_], S_)) rfl ?_
      refine sm_T_iald (n := 6) rfl rfl (by omega) (by omega) ?_
      have bx2_ : 0 ≤ S_.2.2.1 160 0 (S_.1 13 0 105).toNat ∧ S_.2.2.1 160 0 (S_.1 13 0 105).toNat ≤ 19 := hI_.2 160 0 _
      refine sm_T_br (a := 2) (z := 116) rfl (fun cx3_ => ?_) (fun cx3_ => ?_)
      · have cx3_ : x_ < (S_.2.2.1 160 0 (S_.1 13 0 105).toNat) := of_decide_eq_true cx3_
        refine sm_T_go 2 (c1 := (238, [some (.inr (.inr (some (13, 0)))), some (.inl n_), some (.inl ci_), some (.inl le_), some (.inl le_), none, none], [], S_)) rfl ?_
        refine ih_.2.2 le_ le_ S_ hI_ hF_ ⟨?_, ?_, ?_, ?_, ?_, ?_, trivial⟩ ?_
        · omega
        · exact hr_
        · rw [show F_ - 1 = x_ by omega]
          exact hmk_
        · exact htb_
        · intro y_ w_
          have nc9_ : ¬ y_ ∈ c_ := fun q_ => by (have := hmk_.2.1 _ q_; omega)
          have y9_ := hAF_ y_ ((hmk_.2.2.1 _ nc9_).2.2 w_)
          exact hle_ y_ (by omega) w_
        · intro y_ u_ w_
          exfalso
          have nc9_ : ¬ y_ ∈ c_ := fun q_ => by (have := hmk_.2.1 _ q_; omega)
          have y9_ := hAF_ y_ ((hmk_.2.2.1 _ nc9_).2.2 w_)
          have y8_ := hle_ y_ (by omega) w_
          omega
        · omega
      · have cx3_ : ¬ (x_ < (S_.2.2.1 160 0 (S_.1 13 0 105).toNat)) := of_decide_eq_false cx3_
        refine sm_T_go 3 (c1 := (128, [some (.inr (.inr (some (13, 0)))), some (.inl n_), some (.inl ci_), some (.inl le_), some (.inl x_), none, none], [.inl x_, .inr (.inr (some (213, 0)))], S_)) rfl ?_
        refine sm_T_iald (n := 2048) rfl rfl (by omega) (by omega) ?_
        have bx4_ : (-2147483648) ≤ S_.2.2.1 213 0 x_.toNat ∧ S_.2.2.1 213 0 x_.toNat ≤ 2147483647 := hI_.2 213 0 _
        have bx5_ : (-2147483648) ≤ S_.1 13 0 127 ∧ S_.1 13 0 127 ≤ 2147483647 := hI_.1 13 0 127 rfl
        refine sm_T_go 2 (c1 := (133, [some (.inr (.inr (some (13, 0)))), some (.inl n_), some (.inl ci_), some (.inl le_), some (.inl x_), none, none], [.inl (S_.1 13 0 127), .inl (S_.2.2.1 213 0 x_.toNat)], S_)) rfl ?_
        refine sm_T_br (a := 1) (z := 96) rfl (fun cx6_ => ?_) (fun cx6_ => ?_)
        · have cx6_ : (S_.2.2.1 213 0 x_.toNat) ≠ (S_.1 13 0 127) := of_decide_eq_true cx6_
          refine sm_T_inc (a := 4) (z := (-1)) (v := x_) (w := x_ - 1) rfl rfl (by omega) (by omega) (by omega) ?_ -- pc_ 229
          refine sm_T_go 1 (c1 := (108, [some (.inr (.inr (some (13, 0)))), some (.inl n_), some (.inl ci_), some (.inl le_), some (.inl (x_ - 1)), none, none], [], S_)) rfl ?_
          refine ih_.2.1 le_ (x_ - 1) S_ hI_ hF_ ⟨?_, ?_, ?_, ?_, ?_, trivial⟩ ?_
          · omega
          · first | exact hr_ | ((try simp only [rd_eq, rd_ne, rf_eq, rf_nk, rf_nt, rd_fa, rd_af, rd_fl, rd_al, rd_lf, rd_la, rd_leq, rd_lne, rd_fr, rd_ar, ne_eq, Nat.reduceEqDiff, not_false_eq_true]); exact hr_)
          · exact mrq_n hmk_ (by omega) (by omega)
          · exact htb_
          · intro y_ u_ w_
            by_cases z9_ : (y_ : Int) = x_
            · exfalso; rw [show y_ = x_.toNat by omega] at w_; omega
            · exact hle_ y_ (by omega) w_
          · omega
        · have cx6_ : ¬ ((S_.2.2.1 213 0 x_.toNat) ≠ (S_.1 13 0 127)) := of_decide_eq_false cx6_
          have nc9_ : ¬ x_.toNat ∈ c_ := fun u_ => by (have := hmk_.2.1 _ u_; omega)
          have ax9_ := (hmk_.2.2.1 _ nc9_).2.2 (by omega)
          have cx9_ := hclo.2.1 _ ax9_
          have sa9_ : (S0_.2.2.1 199 0 x_.toNat / 2).toNat < x_.toNat := (cx9_.2.2.2 0 (by decide)).1
          have sb9_ : (S0_.2.2.1 200 0 x_.toNat / 2).toNat < x_.toNat := (cx9_.2.2.2 1 (by decide)).1
          rw [← f199_] at sa9_
          rw [← f200_] at sb9_
          refine sm_T_go 5 (c1 := (145, [some (.inr (.inr (some (13, 0)))), some (.inl n_), some (.inl ci_), some (.inl x_), some (.inl x_), none, none], [.inl x_, .inr (.inr (some (199, 0)))], S_)) rfl ?_
          refine sm_T_iald (n := 2048) rfl rfl (by omega) (by omega) ?_
          have bx7_ : 0 ≤ S_.2.2.1 199 0 x_.toNat ∧ S_.2.2.1 199 0 x_.toNat ≤ 2025 := hI_.2 199 0 _
          refine sm_T_go 1 (c1 := (147, [some (.inr (.inr (some (13, 0)))), some (.inl n_), some (.inl ci_), some (.inl x_), some (.inl x_), none, none], [.inl 1, .inl (S_.2.2.1 199 0 x_.toNat)], S_)) rfl ?_
          refine sm_T_bin (w := ((S_.2.2.1 199 0 x_.toNat) / 2)) rfl (bi_shr (k := 1) (by decide) (by omega) (by omega)) ?_ -- pc_ 147
          refine sm_T_go 4 (c1 := (156, [some (.inr (.inr (some (13, 0)))), some (.inl n_), some (.inl ci_), some (.inl x_), some (.inl x_), some (.inl ((S_.2.2.1 199 0 x_.toNat) / 2)), none], [.inl x_, .inr (.inr (some (200, 0)))], S_)) rfl ?_
          refine sm_T_iald (n := 2048) rfl rfl (by omega) (by omega) ?_
          have bx8_ : 0 ≤ S_.2.2.1 200 0 x_.toNat ∧ S_.2.2.1 200 0 x_.toNat ≤ 2025 := hI_.2 200 0 _
          refine sm_T_go 1 (c1 := (158, [some (.inr (.inr (some (13, 0)))), some (.inl n_), some (.inl ci_), some (.inl x_), some (.inl x_), some (.inl ((S_.2.2.1 199 0 x_.toNat) / 2)), none], [.inl 1, .inl (S_.2.2.1 200 0 x_.toNat)], S_)) rfl ?_
          refine sm_T_bin (w := ((S_.2.2.1 200 0 x_.toNat) / 2)) rfl (bi_shr (k := 1) (by decide) (by omega) (by omega)) ?_ -- pc_ 158
          refine sm_T_go 7 (c1 := (173, [some (.inr (.inr (some (13, 0)))), some (.inl n_), some (.inl ci_), some (.inl x_), some (.inl x_), some (.inl ((S_.2.2.1 199 0 x_.toNat) / 2)), some (.inl ((S_.2.2.1 200 0 x_.toNat) / 2))], [.inl ((S_.2.2.1 199 0 x_.toNat) / 2), .inr (.inr (some (213, 0))), .inl ((S_.2.2.1 199 0 x_.toNat) / 2), .inr (.inr (some (213, 0)))], S_)) rfl ?_
          refine sm_T_iald (n := 2048) rfl rfl (by omega) (by omega) ?_
          have bx9_ : (-2147483648) ≤ S_.2.2.1 213 0 ((S_.2.2.1 199 0 x_.toNat) / 2).toNat ∧ S_.2.2.1 213 0 ((S_.2.2.1 199 0 x_.toNat) / 2).toNat ≤ 2147483647 := hI_.2 213 0 _
          refine sm_T_go 2 (c1 := (178, [some (.inr (.inr (some (13, 0)))), some (.inl n_), some (.inl ci_), some (.inl x_), some (.inl x_), some (.inl ((S_.2.2.1 199 0 x_.toNat) / 2)), some (.inl ((S_.2.2.1 200 0 x_.toNat) / 2))], [.inl (S_.1 13 0 127), .inl (S_.2.2.1 213 0 ((S_.2.2.1 199 0 x_.toNat) / 2).toNat), .inl ((S_.2.2.1 199 0 x_.toNat) / 2), .inr (.inr (some (213, 0)))], S_)) rfl ?_
          refine sm_T_neg (w := -(S_.1 13 0 127)) rfl (by omega) (by omega) (by omega) ?_ -- pc_ 178
          refine sm_T_br (a := 1) (z := 11) rfl (fun cx10_ => ?_) (fun cx10_ => ?_)
          · have cx10_ : (S_.2.2.1 213 0 ((S_.2.2.1 199 0 x_.toNat) / 2).toNat) ≠ -(S_.1 13 0 127) := of_decide_eq_true cx10_
            refine sm_T_go 2 (c1 := (194, [some (.inr (.inr (some (13, 0)))), some (.inl n_), some (.inl ci_), some (.inl x_), some (.inl x_), some (.inl ((S_.2.2.1 199 0 x_.toNat) / 2)), some (.inl ((S_.2.2.1 200 0 x_.toNat) / 2))], [.inl (S_.1 13 0 127), .inl ((S_.2.2.1 199 0 x_.toNat) / 2), .inr (.inr (some (213, 0)))], S_)) rfl ?_
            refine sm_T_iast (n := 2048) rfl rfl (by omega) (by omega) ?_
            have hIx11_ : gi (sm_aI S_ 213 0 ((S_.2.2.1 199 0 x_.toNat) / 2).toNat (S_.1 13 0 127)) := gi_aI hI_ (show (-2147483648) ≤ (S_.1 13 0 127) ∧ (S_.1 13 0 127) ≤ 2147483647 from ⟨by omega, by omega⟩)
            have hFx12_ : ai_fr (sx_W vw_402n) S0_ (sm_aI S_ 213 0 ((S_.2.2.1 199 0 x_.toNat) / 2).toNat (S_.1 13 0 127)) := ai_fr_tr hF_ (ai_fr_aI rfl)
            refine sm_T_go 6 (c1 := (207, [some (.inr (.inr (some (13, 0)))), some (.inl n_), some (.inl ci_), some (.inl x_), some (.inl x_), some (.inl ((S_.2.2.1 199 0 x_.toNat) / 2)), some (.inl ((S_.2.2.1 200 0 x_.toNat) / 2))], [.inl ((S_.2.2.1 200 0 x_.toNat) / 2), .inr (.inr (some (213, 0))), .inl ((S_.2.2.1 200 0 x_.toNat) / 2), .inr (.inr (some (213, 0)))], sm_aI S_ 213 0 ((S_.2.2.1 199 0 x_.toNat) / 2).toNat (S_.1 13 0 127))) rfl ?_
            refine sm_T_iald (n := 2048) rfl rfl (by omega) (by omega) ?_
            have bx13_ : (-2147483648) ≤ (sm_aI S_ 213 0 ((S_.2.2.1 199 0 x_.toNat) / 2).toNat (S_.1 13 0 127)).2.2.1 213 0 ((S_.2.2.1 200 0 x_.toNat) / 2).toNat ∧ (sm_aI S_ 213 0 ((S_.2.2.1 199 0 x_.toNat) / 2).toNat (S_.1 13 0 127)).2.2.1 213 0 ((S_.2.2.1 200 0 x_.toNat) / 2).toNat ≤ 2147483647 := hIx11_.2 213 0 _
            refine sm_T_go 2 (c1 := (212, [some (.inr (.inr (some (13, 0)))), some (.inl n_), some (.inl ci_), some (.inl x_), some (.inl x_), some (.inl ((S_.2.2.1 199 0 x_.toNat) / 2)), some (.inl ((S_.2.2.1 200 0 x_.toNat) / 2))], [.inl (S_.1 13 0 127), .inl ((sm_aI S_ 213 0 ((S_.2.2.1 199 0 x_.toNat) / 2).toNat (S_.1 13 0 127)).2.2.1 213 0 ((S_.2.2.1 200 0 x_.toNat) / 2).toNat), .inl ((S_.2.2.1 200 0 x_.toNat) / 2), .inr (.inr (some (213, 0)))], sm_aI S_ 213 0 ((S_.2.2.1 199 0 x_.toNat) / 2).toNat (S_.1 13 0 127))) rfl ?_
            refine sm_T_neg (w := -(S_.1 13 0 127)) rfl (by omega) (by omega) (by omega) ?_ -- pc_ 212
            refine sm_T_br (a := 1) (z := 11) rfl (fun cx14_ => ?_) (fun cx14_ => ?_)
            · have cx14_ : ((sm_aI S_ 213 0 ((S_.2.2.1 199 0 x_.toNat) / 2).toNat (S_.1 13 0 127)).2.2.1 213 0 ((S_.2.2.1 200 0 x_.toNat) / 2).toNat) ≠ -(S_.1 13 0 127) := of_decide_eq_true cx14_
              refine sm_T_go 2 (c1 := (228, [some (.inr (.inr (some (13, 0)))), some (.inl n_), some (.inl ci_), some (.inl x_), some (.inl x_), some (.inl ((S_.2.2.1 199 0 x_.toNat) / 2)), some (.inl ((S_.2.2.1 200 0 x_.toNat) / 2))], [.inl (S_.1 13 0 127), .inl ((S_.2.2.1 200 0 x_.toNat) / 2), .inr (.inr (some (213, 0)))], sm_aI S_ 213 0 ((S_.2.2.1 199 0 x_.toNat) / 2).toNat (S_.1 13 0 127))) rfl ?_
              refine sm_T_iast (n := 2048) rfl rfl (by omega) (by omega) ?_
              have hIx15_ : gi (sm_aI (sm_aI S_ 213 0 ((S_.2.2.1 199 0 x_.toNat) / 2).toNat (S_.1 13 0 127)) 213 0 ((S_.2.2.1 200 0 x_.toNat) / 2).toNat (S_.1 13 0 127)) := gi_aI hIx11_ (show (-2147483648) ≤ (S_.1 13 0 127) ∧ (S_.1 13 0 127) ≤ 2147483647 from ⟨by omega, by omega⟩)
              have hFx16_ : ai_fr (sx_W vw_402n) S0_ (sm_aI (sm_aI S_ 213 0 ((S_.2.2.1 199 0 x_.toNat) / 2).toNat (S_.1 13 0 127)) 213 0 ((S_.2.2.1 200 0 x_.toNat) / 2).toNat (S_.1 13 0 127)) := ai_fr_tr hFx12_ (ai_fr_aI rfl)
              refine sm_T_inc (a := 4) (z := (-1)) (v := x_) (w := x_ - 1) rfl rfl (by omega) (by omega) (by omega) ?_ -- pc_ 229
              refine sm_T_go 1 (c1 := (108, [some (.inr (.inr (some (13, 0)))), some (.inl n_), some (.inl ci_), some (.inl x_), some (.inl (x_ - 1)), some (.inl ((S_.2.2.1 199 0 x_.toNat) / 2)), some (.inl ((S_.2.2.1 200 0 x_.toNat) / 2))], [], sm_aI (sm_aI S_ 213 0 ((S_.2.2.1 199 0 x_.toNat) / 2).toNat (S_.1 13 0 127)) 213 0 ((S_.2.2.1 200 0 x_.toNat) / 2).toNat (S_.1 13 0 127))) rfl ?_
              refine sm_T_wk [some (.inr (.inr (some (13, 0)))), some (.inl n_), some (.inl ci_), some (.inl x_), some (.inl (x_ - 1)), none, none] (by exact ⟨rfl, rfl, rfl, rfl, rfl, trivial⟩) ?_
              refine ih_.2.1 x_ (x_ - 1) (sm_aI (sm_aI S_ 213 0 ((S_.2.2.1 199 0 x_.toNat) / 2).toNat (S_.1 13 0 127)) 213 0 ((S_.2.2.1 200 0 x_.toNat) / 2).toNat (S_.1 13 0 127)) hIx15_ hFx16_ ⟨?_, ?_, ?_, ?_, ?_, trivial⟩ ?_
              · omega
              · first | exact hr_ | ((try simp only [rd_eq, rd_ne, rf_eq, rf_nk, rf_nt, rd_fa, rd_af, rd_fl, rd_al, rd_lf, rd_la, rd_leq, rd_lne, rd_fr, rd_ar, ne_eq, Nat.reduceEqDiff, not_false_eq_true]); exact hr_)
              · first | (refine mrq_s (va_ := -S_.1 13 0 127) (vb_ := -S_.1 13 0 127) (M1_ := fun z_ => (sm_aI S_ 213 0 (S_.2.2.1 199 0 x_.toNat / 2).toNat (-S_.1 13 0 127)).2.2.1 213 0 z_) (by omega) hclo hmk_ (by omega) (by omega) (by first | (refine Or.inl ⟨?_, ?_⟩; (show S_.2.2.1 213 0 (S0_.2.2.1 199 0 x_.toNat / 2).toNat = _; rw [← f199_]; omega); omega) | (refine Or.inr ⟨?_, ?_⟩; (show S_.2.2.1 213 0 (S0_.2.2.1 199 0 x_.toNat / 2).toNat ≠ _; rw [← f199_]; omega); omega)) (fun z_ => by (show (sm_aI S_ 213 0 (S_.2.2.1 199 0 x_.toNat / 2).toNat (-S_.1 13 0 127)).2.2.1 213 0 z_ = if z_ = (S0_.2.2.1 199 0 x_.toNat / 2).toNat then (-S_.1 13 0 127) else S_.2.2.1 213 0 z_; rw [rd_eq, f199_])) (by first | (refine Or.inl ⟨?_, ?_⟩; (show (sm_aI S_ 213 0 (S_.2.2.1 199 0 x_.toNat / 2).toNat (-S_.1 13 0 127)).2.2.1 213 0 (S0_.2.2.1 200 0 x_.toNat / 2).toNat = _; rw [← f200_]; omega); omega) | (refine Or.inr ⟨?_, ?_⟩; (show (sm_aI S_ 213 0 (S_.2.2.1 199 0 x_.toNat / 2).toNat (-S_.1 13 0 127)).2.2.1 213 0 (S0_.2.2.1 200 0 x_.toNat / 2).toNat ≠ _; rw [← f200_]; omega); omega)) (fun z_ => by (show _ = if z_ = (S0_.2.2.1 200 0 x_.toNat / 2).toNat then (-S_.1 13 0 127) else (sm_aI S_ 213 0 (S_.2.2.1 199 0 x_.toNat / 2).toNat (-S_.1 13 0 127)).2.2.1 213 0 z_; rw [← f200_]; exact rd_eq))) | (refine mrq_s (va_ := -S_.1 13 0 127) (vb_ := S_.1 13 0 127) (M1_ := fun z_ => (sm_aI S_ 213 0 (S_.2.2.1 199 0 x_.toNat / 2).toNat (-S_.1 13 0 127)).2.2.1 213 0 z_) (by omega) hclo hmk_ (by omega) (by omega) (by first | (refine Or.inl ⟨?_, ?_⟩; (show S_.2.2.1 213 0 (S0_.2.2.1 199 0 x_.toNat / 2).toNat = _; rw [← f199_]; omega); omega) | (refine Or.inr ⟨?_, ?_⟩; (show S_.2.2.1 213 0 (S0_.2.2.1 199 0 x_.toNat / 2).toNat ≠ _; rw [← f199_]; omega); omega)) (fun z_ => by (show (sm_aI S_ 213 0 (S_.2.2.1 199 0 x_.toNat / 2).toNat (-S_.1 13 0 127)).2.2.1 213 0 z_ = if z_ = (S0_.2.2.1 199 0 x_.toNat / 2).toNat then (-S_.1 13 0 127) else S_.2.2.1 213 0 z_; rw [rd_eq, f199_])) (by first | (refine Or.inl ⟨?_, ?_⟩; (show (sm_aI S_ 213 0 (S_.2.2.1 199 0 x_.toNat / 2).toNat (-S_.1 13 0 127)).2.2.1 213 0 (S0_.2.2.1 200 0 x_.toNat / 2).toNat = _; rw [← f200_]; omega); omega) | (refine Or.inr ⟨?_, ?_⟩; (show (sm_aI S_ 213 0 (S_.2.2.1 199 0 x_.toNat / 2).toNat (-S_.1 13 0 127)).2.2.1 213 0 (S0_.2.2.1 200 0 x_.toNat / 2).toNat ≠ _; rw [← f200_]; omega); omega)) (fun z_ => by (show _ = if z_ = (S0_.2.2.1 200 0 x_.toNat / 2).toNat then (S_.1 13 0 127) else (sm_aI S_ 213 0 (S_.2.2.1 199 0 x_.toNat / 2).toNat (-S_.1 13 0 127)).2.2.1 213 0 z_; rw [← f200_]; exact rd_eq))) | (refine mrq_s (va_ := S_.1 13 0 127) (vb_ := -S_.1 13 0 127) (M1_ := fun z_ => (sm_aI S_ 213 0 (S_.2.2.1 199 0 x_.toNat / 2).toNat (S_.1 13 0 127)).2.2.1 213 0 z_) (by omega) hclo hmk_ (by omega) (by omega) (by first | (refine Or.inl ⟨?_, ?_⟩; (show S_.2.2.1 213 0 (S0_.2.2.1 199 0 x_.toNat / 2).toNat = _; rw [← f199_]; omega); omega) | (refine Or.inr ⟨?_, ?_⟩; (show S_.2.2.1 213 0 (S0_.2.2.1 199 0 x_.toNat / 2).toNat ≠ _; rw [← f199_]; omega); omega)) (fun z_ => by (show (sm_aI S_ 213 0 (S_.2.2.1 199 0 x_.toNat / 2).toNat (S_.1 13 0 127)).2.2.1 213 0 z_ = if z_ = (S0_.2.2.1 199 0 x_.toNat / 2).toNat then (S_.1 13 0 127) else S_.2.2.1 213 0 z_; rw [rd_eq, f199_])) (by first | (refine Or.inl ⟨?_, ?_⟩; (show (sm_aI S_ 213 0 (S_.2.2.1 199 0 x_.toNat / 2).toNat (S_.1 13 0 127)).2.2.1 213 0 (S0_.2.2.1 200 0 x_.toNat / 2).toNat = _; rw [← f200_]; omega); omega) | (refine Or.inr ⟨?_, ?_⟩; (show (sm_aI S_ 213 0 (S_.2.2.1 199 0 x_.toNat / 2).toNat (S_.1 13 0 127)).2.2.1 213 0 (S0_.2.2.1 200 0 x_.toNat / 2).toNat ≠ _; rw [← f200_]; omega); omega)) (fun z_ => by (show _ = if z_ = (S0_.2.2.1 200 0 x_.toNat / 2).toNat then (-S_.1 13 0 127) else (sm_aI S_ 213 0 (S_.2.2.1 199 0 x_.toNat / 2).toNat (S_.1 13 0 127)).2.2.1 213 0 z_; rw [← f200_]; exact rd_eq))) | (refine mrq_s (va_ := S_.1 13 0 127) (vb_ := S_.1 13 0 127) (M1_ := fun z_ => (sm_aI S_ 213 0 (S_.2.2.1 199 0 x_.toNat / 2).toNat (S_.1 13 0 127)).2.2.1 213 0 z_) (by omega) hclo hmk_ (by omega) (by omega) (by first | (refine Or.inl ⟨?_, ?_⟩; (show S_.2.2.1 213 0 (S0_.2.2.1 199 0 x_.toNat / 2).toNat = _; rw [← f199_]; omega); omega) | (refine Or.inr ⟨?_, ?_⟩; (show S_.2.2.1 213 0 (S0_.2.2.1 199 0 x_.toNat / 2).toNat ≠ _; rw [← f199_]; omega); omega)) (fun z_ => by (show (sm_aI S_ 213 0 (S_.2.2.1 199 0 x_.toNat / 2).toNat (S_.1 13 0 127)).2.2.1 213 0 z_ = if z_ = (S0_.2.2.1 199 0 x_.toNat / 2).toNat then (S_.1 13 0 127) else S_.2.2.1 213 0 z_; rw [rd_eq, f199_])) (by first | (refine Or.inl ⟨?_, ?_⟩; (show (sm_aI S_ 213 0 (S_.2.2.1 199 0 x_.toNat / 2).toNat (S_.1 13 0 127)).2.2.1 213 0 (S0_.2.2.1 200 0 x_.toNat / 2).toNat = _; rw [← f200_]; omega); omega) | (refine Or.inr ⟨?_, ?_⟩; (show (sm_aI S_ 213 0 (S_.2.2.1 199 0 x_.toNat / 2).toNat (S_.1 13 0 127)).2.2.1 213 0 (S0_.2.2.1 200 0 x_.toNat / 2).toNat ≠ _; rw [← f200_]; omega); omega)) (fun z_ => by (show _ = if z_ = (S0_.2.2.1 200 0 x_.toNat / 2).toNat then (S_.1 13 0 127) else (sm_aI S_ 213 0 (S_.2.2.1 199 0 x_.toNat / 2).toNat (S_.1 13 0 127)).2.2.1 213 0 z_; rw [← f200_]; exact rd_eq)))
              · (intro m_ z_ u_; rw [rd_ne (by decide), rd_ne (by decide)]; exact htb_ m_ z_ u_)
              · intro y_ u_ w_
                by_cases z9_ : (y_ : Int) = x_
                · omega
                · rw [rd_eq, rd_eq, if_neg (by omega), if_neg (by omega)] at w_
                  have y9_ := hle_ y_ (by omega) w_
                  omega
              · omega
            · have cx14_ : ¬ (((sm_aI S_ 213 0 ((S_.2.2.1 199 0 x_.toNat) / 2).toNat (S_.1 13 0 127)).2.2.1 213 0 ((S_.2.2.1 200 0 x_.toNat) / 2).toNat) ≠ -(S_.1 13 0 127)) := of_decide_eq_false cx14_
              refine sm_T_go 2 (c1 := (220, [some (.inr (.inr (some (13, 0)))), some (.inl n_), some (.inl ci_), some (.inl x_), some (.inl x_), some (.inl ((S_.2.2.1 199 0 x_.toNat) / 2)), some (.inl ((S_.2.2.1 200 0 x_.toNat) / 2))], [.inl (S_.1 13 0 127), .inl ((S_.2.2.1 200 0 x_.toNat) / 2), .inr (.inr (some (213, 0)))], sm_aI S_ 213 0 ((S_.2.2.1 199 0 x_.toNat) / 2).toNat (S_.1 13 0 127))) rfl ?_
              refine sm_T_neg (w := -(S_.1 13 0 127)) rfl (by omega) (by omega) (by omega) ?_ -- pc_ 220
              refine sm_T_go 1 (c1 := (228, [some (.inr (.inr (some (13, 0)))), some (.inl n_), some (.inl ci_), some (.inl x_), some (.inl x_), some (.inl ((S_.2.2.1 199 0 x_.toNat) / 2)), some (.inl ((S_.2.2.1 200 0 x_.toNat) / 2))], [.inl (-(S_.1 13 0 127)), .inl ((S_.2.2.1 200 0 x_.toNat) / 2), .inr (.inr (some (213, 0)))], sm_aI S_ 213 0 ((S_.2.2.1 199 0 x_.toNat) / 2).toNat (S_.1 13 0 127))) rfl ?_
              refine sm_T_iast (n := 2048) rfl rfl (by omega) (by omega) ?_
              have hIx17_ : gi (sm_aI (sm_aI S_ 213 0 ((S_.2.2.1 199 0 x_.toNat) / 2).toNat (S_.1 13 0 127)) 213 0 ((S_.2.2.1 200 0 x_.toNat) / 2).toNat (-(S_.1 13 0 127))) := gi_aI hIx11_ (show (-2147483648) ≤ -(S_.1 13 0 127) ∧ -(S_.1 13 0 127) ≤ 2147483647 from ⟨by omega, by omega⟩)
              have hFx18_ : ai_fr (sx_W vw_402n) S0_ (sm_aI (sm_aI S_ 213 0 ((S_.2.2.1 199 0 x_.toNat) / 2).toNat (S_.1 13 0 127)) 213 0 ((S_.2.2.1 200 0 x_.toNat) / 2).toNat (-(S_.1 13 0 127))) := ai_fr_tr hFx12_ (ai_fr_aI rfl)
              refine sm_T_inc (a := 4) (z := (-1)) (v := x_) (w := x_ - 1) rfl rfl (by omega) (by omega) (by omega) ?_ -- pc_ 229
              refine sm_T_go 1 (c1 := (108, [some (.inr (.inr (some (13, 0)))), some (.inl n_), some (.inl ci_), some (.inl x_), some (.inl (x_ - 1)), some (.inl ((S_.2.2.1 199 0 x_.toNat) / 2)), some (.inl ((S_.2.2.1 200 0 x_.toNat) / 2))], [], sm_aI (sm_aI S_ 213 0 ((S_.2.2.1 199 0 x_.toNat) / 2).toNat (S_.1 13 0 127)) 213 0 ((S_.2.2.1 200 0 x_.toNat) / 2).toNat (-(S_.1 13 0 127)))) rfl ?_
              refine sm_T_wk [some (.inr (.inr (some (13, 0)))), some (.inl n_), some (.inl ci_), some (.inl x_), some (.inl (x_ - 1)), none, none] (by exact ⟨rfl, rfl, rfl, rfl, rfl, trivial⟩) ?_
              refine ih_.2.1 x_ (x_ - 1) (sm_aI (sm_aI S_ 213 0 ((S_.2.2.1 199 0 x_.toNat) / 2).toNat (S_.1 13 0 127)) 213 0 ((S_.2.2.1 200 0 x_.toNat) / 2).toNat (-(S_.1 13 0 127))) hIx17_ hFx18_ ⟨?_, ?_, ?_, ?_, ?_, trivial⟩ ?_
              · omega
              · first | exact hr_ | ((try simp only [rd_eq, rd_ne, rf_eq, rf_nk, rf_nt, rd_fa, rd_af, rd_fl, rd_al, rd_lf, rd_la, rd_leq, rd_lne, rd_fr, rd_ar, ne_eq, Nat.reduceEqDiff, not_false_eq_true]); exact hr_)
              · first | (refine mrq_s (va_ := -S_.1 13 0 127) (vb_ := -S_.1 13 0 127) (M1_ := fun z_ => (sm_aI S_ 213 0 (S_.2.2.1 199 0 x_.toNat / 2).toNat (-S_.1 13 0 127)).2.2.1 213 0 z_) (by omega) hclo hmk_ (by omega) (by omega) (by first | (refine Or.inl ⟨?_, ?_⟩; (show S_.2.2.1 213 0 (S0_.2.2.1 199 0 x_.toNat / 2).toNat = _; rw [← f199_]; omega); omega) | (refine Or.inr ⟨?_, ?_⟩; (show S_.2.2.1 213 0 (S0_.2.2.1 199 0 x_.toNat / 2).toNat ≠ _; rw [← f199_]; omega); omega)) (fun z_ => by (show (sm_aI S_ 213 0 (S_.2.2.1 199 0 x_.toNat / 2).toNat (-S_.1 13 0 127)).2.2.1 213 0 z_ = if z_ = (S0_.2.2.1 199 0 x_.toNat / 2).toNat then (-S_.1 13 0 127) else S_.2.2.1 213 0 z_; rw [rd_eq, f199_])) (by first | (refine Or.inl ⟨?_, ?_⟩; (show (sm_aI S_ 213 0 (S_.2.2.1 199 0 x_.toNat / 2).toNat (-S_.1 13 0 127)).2.2.1 213 0 (S0_.2.2.1 200 0 x_.toNat / 2).toNat = _; rw [← f200_]; omega); omega) | (refine Or.inr ⟨?_, ?_⟩; (show (sm_aI S_ 213 0 (S_.2.2.1 199 0 x_.toNat / 2).toNat (-S_.1 13 0 127)).2.2.1 213 0 (S0_.2.2.1 200 0 x_.toNat / 2).toNat ≠ _; rw [← f200_]; omega); omega)) (fun z_ => by (show _ = if z_ = (S0_.2.2.1 200 0 x_.toNat / 2).toNat then (-S_.1 13 0 127) else (sm_aI S_ 213 0 (S_.2.2.1 199 0 x_.toNat / 2).toNat (-S_.1 13 0 127)).2.2.1 213 0 z_; rw [← f200_]; exact rd_eq))) | (refine mrq_s (va_ := -S_.1 13 0 127) (vb_ := S_.1 13 0 127) (M1_ := fun z_ => (sm_aI S_ 213 0 (S_.2.2.1 199 0 x_.toNat / 2).toNat (-S_.1 13 0 127)).2.2.1 213 0 z_) (by omega) hclo hmk_ (by omega) (by omega) (by first | (refine Or.inl ⟨?_, ?_⟩; (show S_.2.2.1 213 0 (S0_.2.2.1 199 0 x_.toNat / 2).toNat = _; rw [← f199_]; omega); omega) | (refine Or.inr ⟨?_, ?_⟩; (show S_.2.2.1 213 0 (S0_.2.2.1 199 0 x_.toNat / 2).toNat ≠ _; rw [← f199_]; omega); omega)) (fun z_ => by (show (sm_aI S_ 213 0 (S_.2.2.1 199 0 x_.toNat / 2).toNat (-S_.1 13 0 127)).2.2.1 213 0 z_ = if z_ = (S0_.2.2.1 199 0 x_.toNat / 2).toNat then (-S_.1 13 0 127) else S_.2.2.1 213 0 z_; rw [rd_eq, f199_])) (by first | (refine Or.inl ⟨?_, ?_⟩; (show (sm_aI S_ 213 0 (S_.2.2.1 199 0 x_.toNat / 2).toNat (-S_.1 13 0 127)).2.2.1 213 0 (S0_.2.2.1 200 0 x_.toNat / 2).toNat = _; rw [← f200_]; omega); omega) | (refine Or.inr ⟨?_, ?_⟩; (show (sm_aI S_ 213 0 (S_.2.2.1 199 0 x_.toNat / 2).toNat (-S_.1 13 0 127)).2.2.1 213 0 (S0_.2.2.1 200 0 x_.toNat / 2).toNat ≠ _; rw [← f200_]; omega); omega)) (fun z_ => by (show _ = if z_ = (S0_.2.2.1 200 0 x_.toNat / 2).toNat then (S_.1 13 0 127) else (sm_aI S_ 213 0 (S_.2.2.1 199 0 x_.toNat / 2).toNat (-S_.1 13 0 127)).2.2.1 213 0 z_; rw [← f200_]; exact rd_eq))) | (refine mrq_s (va_ := S_.1 13 0 127) (vb_ := -S_.1 13 0 127) (M1_ := fun z_ => (sm_aI S_ 213 0 (S_.2.2.1 199 0 x_.toNat / 2).toNat (S_.1 13 0 127)).2.2.1 213 0 z_) (by omega) hclo hmk_ (by omega) (by omega) (by first | (refine Or.inl ⟨?_, ?_⟩; (show S_.2.2.1 213 0 (S0_.2.2.1 199 0 x_.toNat / 2).toNat = _; rw [← f199_]; omega); omega) | (refine Or.inr ⟨?_, ?_⟩; (show S_.2.2.1 213 0 (S0_.2.2.1 199 0 x_.toNat / 2).toNat ≠ _; rw [← f199_]; omega); omega)) (fun z_ => by (show (sm_aI S_ 213 0 (S_.2.2.1 199 0 x_.toNat / 2).toNat (S_.1 13 0 127)).2.2.1 213 0 z_ = if z_ = (S0_.2.2.1 199 0 x_.toNat / 2).toNat then (S_.1 13 0 127) else S_.2.2.1 213 0 z_; rw [rd_eq, f199_])) (by first | (refine Or.inl ⟨?_, ?_⟩; (show (sm_aI S_ 213 0 (S_.2.2.1 199 0 x_.toNat / 2).toNat (S_.1 13 0 127)).2.2.1 213 0 (S0_.2.2.1 200 0 x_.toNat / 2).toNat = _; rw [← f200_]; omega); omega) | (refine Or.inr ⟨?_, ?_⟩; (show (sm_aI S_ 213 0 (S_.2.2.1 199 0 x_.toNat / 2).toNat (S_.1 13 0 127)).2.2.1 213 0 (S0_.2.2.1 200 0 x_.toNat / 2).toNat ≠ _; rw [← f200_]; omega); omega)) (fun z_ => by (show _ = if z_ = (S0_.2.2.1 200 0 x_.toNat / 2).toNat then (-S_.1 13 0 127) else (sm_aI S_ 213 0 (S_.2.2.1 199 0 x_.toNat / 2).toNat (S_.1 13 0 127)).2.2.1 213 0 z_; rw [← f200_]; exact rd_eq))) | (refine mrq_s (va_ := S_.1 13 0 127) (vb_ := S_.1 13 0 127) (M1_ := fun z_ => (sm_aI S_ 213 0 (S_.2.2.1 199 0 x_.toNat / 2).toNat (S_.1 13 0 127)).2.2.1 213 0 z_) (by omega) hclo hmk_ (by omega) (by omega) (by first | (refine Or.inl ⟨?_, ?_⟩; (show S_.2.2.1 213 0 (S0_.2.2.1 199 0 x_.toNat / 2).toNat = _; rw [← f199_]; omega); omega) | (refine Or.inr ⟨?_, ?_⟩; (show S_.2.2.1 213 0 (S0_.2.2.1 199 0 x_.toNat / 2).toNat ≠ _; rw [← f199_]; omega); omega)) (fun z_ => by (show (sm_aI S_ 213 0 (S_.2.2.1 199 0 x_.toNat / 2).toNat (S_.1 13 0 127)).2.2.1 213 0 z_ = if z_ = (S0_.2.2.1 199 0 x_.toNat / 2).toNat then (S_.1 13 0 127) else S_.2.2.1 213 0 z_; rw [rd_eq, f199_])) (by first | (refine Or.inl ⟨?_, ?_⟩; (show (sm_aI S_ 213 0 (S_.2.2.1 199 0 x_.toNat / 2).toNat (S_.1 13 0 127)).2.2.1 213 0 (S0_.2.2.1 200 0 x_.toNat / 2).toNat = _; rw [← f200_]; omega); omega) | (refine Or.inr ⟨?_, ?_⟩; (show (sm_aI S_ 213 0 (S_.2.2.1 199 0 x_.toNat / 2).toNat (S_.1 13 0 127)).2.2.1 213 0 (S0_.2.2.1 200 0 x_.toNat / 2).toNat ≠ _; rw [← f200_]; omega); omega)) (fun z_ => by (show _ = if z_ = (S0_.2.2.1 200 0 x_.toNat / 2).toNat then (S_.1 13 0 127) else (sm_aI S_ 213 0 (S_.2.2.1 199 0 x_.toNat / 2).toNat (S_.1 13 0 127)).2.2.1 213 0 z_; rw [← f200_]; exact rd_eq)))
              · (intro m_ z_ u_; rw [rd_ne (by decide), rd_ne (by decide)]; exact htb_ m_ z_ u_)
              · intro y_ u_ w_
                by_cases z9_ : (y_ : Int) = x_
                · omega
                · rw [rd_eq, rd_eq, if_neg (by omega), if_neg (by omega)] at w_
                  have y9_ := hle_ y_ (by omega) w_
                  omega
              · omega
          · have cx10_ : ¬ ((S_.2.2.1 213 0 ((S_.2.2.1 199 0 x_.toNat) / 2).toNat) ≠ -(S_.1 13 0 127)) := of_decide_eq_false cx10_
            refine sm_T_go 2 (c1 := (186, [some (.inr (.inr (some (13, 0)))), some (.inl n_), some (.inl ci_), some (.inl x_), some (.inl x_), some (.inl ((S_.2.2.1 199 0 x_.toNat) / 2)), some (.inl ((S_.2.2.1 200 0 x_.toNat) / 2))], [.inl (S_.1 13 0 127), .inl ((S_.2.2.1 199 0 x_.toNat) / 2), .inr (.inr (some (213, 0)))], S_)) rfl ?_
            refine sm_T_neg (w := -(S_.1 13 0 127)) rfl (by omega) (by omega) (by omega) ?_ -- pc_ 186
            refine sm_T_go 1 (c1 := (194, [some (.inr (.inr (some (13, 0)))), some (.inl n_), some (.inl ci_), some (.inl x_), some (.inl x_), some (.inl ((S_.2.2.1 199 0 x_.toNat) / 2)), some (.inl ((S_.2.2.1 200 0 x_.toNat) / 2))], [.inl (-(S_.1 13 0 127)), .inl ((S_.2.2.1 199 0 x_.toNat) / 2), .inr (.inr (some (213, 0)))], S_)) rfl ?_
            refine sm_T_iast (n := 2048) rfl rfl (by omega) (by omega) ?_
            have hIx19_ : gi (sm_aI S_ 213 0 ((S_.2.2.1 199 0 x_.toNat) / 2).toNat (-(S_.1 13 0 127))) := gi_aI hI_ (show (-2147483648) ≤ -(S_.1 13 0 127) ∧ -(S_.1 13 0 127) ≤ 2147483647 from ⟨by omega, by omega⟩)
            have hFx20_ : ai_fr (sx_W vw_402n) S0_ (sm_aI S_ 213 0 ((S_.2.2.1 199 0 x_.toNat) / 2).toNat (-(S_.1 13 0 127))) := ai_fr_tr hF_ (ai_fr_aI rfl)
            refine sm_T_go 6 (c1 := (207, [some (.inr (.inr (some (13, 0)))), some (.inl n_), some (.inl ci_), some (.inl x_), some (.inl x_), some (.inl ((S_.2.2.1 199 0 x_.toNat) / 2)), some (.inl ((S_.2.2.1 200 0 x_.toNat) / 2))], [.inl ((S_.2.2.1 200 0 x_.toNat) / 2), .inr (.inr (some (213, 0))), .inl ((S_.2.2.1 200 0 x_.toNat) / 2), .inr (.inr (some (213, 0)))], sm_aI S_ 213 0 ((S_.2.2.1 199 0 x_.toNat) / 2).toNat (-(S_.1 13 0 127)))) rfl ?_
            refine sm_T_iald (n := 2048) rfl rfl (by omega) (by omega) ?_
            have bx21_ : (-2147483648) ≤ (sm_aI S_ 213 0 ((S_.2.2.1 199 0 x_.toNat) / 2).toNat (-(S_.1 13 0 127))).2.2.1 213 0 ((S_.2.2.1 200 0 x_.toNat) / 2).toNat ∧ (sm_aI S_ 213 0 ((S_.2.2.1 199 0 x_.toNat) / 2).toNat (-(S_.1 13 0 127))).2.2.1 213 0 ((S_.2.2.1 200 0 x_.toNat) / 2).toNat ≤ 2147483647 := hIx19_.2 213 0 _
            refine sm_T_go 2 (c1 := (212, [some (.inr (.inr (some (13, 0)))), some (.inl n_), some (.inl ci_), some (.inl x_), some (.inl x_), some (.inl ((S_.2.2.1 199 0 x_.toNat) / 2)), some (.inl ((S_.2.2.1 200 0 x_.toNat) / 2))], [.inl (S_.1 13 0 127), .inl ((sm_aI S_ 213 0 ((S_.2.2.1 199 0 x_.toNat) / 2).toNat (-(S_.1 13 0 127))).2.2.1 213 0 ((S_.2.2.1 200 0 x_.toNat) / 2).toNat), .inl ((S_.2.2.1 200 0 x_.toNat) / 2), .inr (.inr (some (213, 0)))], sm_aI S_ 213 0 ((S_.2.2.1 199 0 x_.toNat) / 2).toNat (-(S_.1 13 0 127)))) rfl ?_
            refine sm_T_neg (w := -(S_.1 13 0 127)) rfl (by omega) (by omega) (by omega) ?_ -- pc_ 212
            refine sm_T_br (a := 1) (z := 11) rfl (fun cx22_ => ?_) (fun cx22_ => ?_)
            · have cx22_ : ((sm_aI S_ 213 0 ((S_.2.2.1 199 0 x_.toNat) / 2).toNat (-(S_.1 13 0 127))).2.2.1 213 0 ((S_.2.2.1 200 0 x_.toNat) / 2).toNat) ≠ -(S_.1 13 0 127) := of_decide_eq_true cx22_
              refine sm_T_go 2 (c1 := (228, [some (.inr (.inr (some (13, 0)))), some (.inl n_), some (.inl ci_), some (.inl x_), some (.inl x_), some (.inl ((S_.2.2.1 199 0 x_.toNat) / 2)), some (.inl ((S_.2.2.1 200 0 x_.toNat) / 2))], [.inl (S_.1 13 0 127), .inl ((S_.2.2.1 200 0 x_.toNat) / 2), .inr (.inr (some (213, 0)))], sm_aI S_ 213 0 ((S_.2.2.1 199 0 x_.toNat) / 2).toNat (-(S_.1 13 0 127)))) rfl ?_
              refine sm_T_iast (n := 2048) rfl rfl (by omega) (by omega) ?_
              have hIx23_ : gi (sm_aI (sm_aI S_ 213 0 ((S_.2.2.1 199 0 x_.toNat) / 2).toNat (-(S_.1 13 0 127))) 213 0 ((S_.2.2.1 200 0 x_.toNat) / 2).toNat (S_.1 13 0 127)) := gi_aI hIx19_ (show (-2147483648) ≤ (S_.1 13 0 127) ∧ (S_.1 13 0 127) ≤ 2147483647 from ⟨by omega, by omega⟩)
              have hFx24_ : ai_fr (sx_W vw_402n) S0_ (sm_aI (sm_aI S_ 213 0 ((S_.2.2.1 199 0 x_.toNat) / 2).toNat (-(S_.1 13 0 127))) 213 0 ((S_.2.2.1 200 0 x_.toNat) / 2).toNat (S_.1 13 0 127)) := ai_fr_tr hFx20_ (ai_fr_aI rfl)
              refine sm_T_inc (a := 4) (z := (-1)) (v := x_) (w := x_ - 1) rfl rfl (by omega) (by omega) (by omega) ?_ -- pc_ 229
              refine sm_T_go 1 (c1 := (108, [some (.inr (.inr (some (13, 0)))), some (.inl n_), some (.inl ci_), some (.inl x_), some (.inl (x_ - 1)), some (.inl ((S_.2.2.1 199 0 x_.toNat) / 2)), some (.inl ((S_.2.2.1 200 0 x_.toNat) / 2))], [], sm_aI (sm_aI S_ 213 0 ((S_.2.2.1 199 0 x_.toNat) / 2).toNat (-(S_.1 13 0 127))) 213 0 ((S_.2.2.1 200 0 x_.toNat) / 2).toNat (S_.1 13 0 127))) rfl ?_
              refine sm_T_wk [some (.inr (.inr (some (13, 0)))), some (.inl n_), some (.inl ci_), some (.inl x_), some (.inl (x_ - 1)), none, none] (by exact ⟨rfl, rfl, rfl, rfl, rfl, trivial⟩) ?_
              refine ih_.2.1 x_ (x_ - 1) (sm_aI (sm_aI S_ 213 0 ((S_.2.2.1 199 0 x_.toNat) / 2).toNat (-(S_.1 13 0 127))) 213 0 ((S_.2.2.1 200 0 x_.toNat) / 2).toNat (S_.1 13 0 127)) hIx23_ hFx24_ ⟨?_, ?_, ?_, ?_, ?_, trivial⟩ ?_
              · omega
              · first | exact hr_ | ((try simp only [rd_eq, rd_ne, rf_eq, rf_nk, rf_nt, rd_fa, rd_af, rd_fl, rd_al, rd_lf, rd_la, rd_leq, rd_lne, rd_fr, rd_ar, ne_eq, Nat.reduceEqDiff, not_false_eq_true]); exact hr_)
              · first | (refine mrq_s (va_ := -S_.1 13 0 127) (vb_ := -S_.1 13 0 127) (M1_ := fun z_ => (sm_aI S_ 213 0 (S_.2.2.1 199 0 x_.toNat / 2).toNat (-S_.1 13 0 127)).2.2.1 213 0 z_) (by omega) hclo hmk_ (by omega) (by omega) (by first | (refine Or.inl ⟨?_, ?_⟩; (show S_.2.2.1 213 0 (S0_.2.2.1 199 0 x_.toNat / 2).toNat = _; rw [← f199_]; omega); omega) | (refine Or.inr ⟨?_, ?_⟩; (show S_.2.2.1 213 0 (S0_.2.2.1 199 0 x_.toNat / 2).toNat ≠ _; rw [← f199_]; omega); omega)) (fun z_ => by (show (sm_aI S_ 213 0 (S_.2.2.1 199 0 x_.toNat / 2).toNat (-S_.1 13 0 127)).2.2.1 213 0 z_ = if z_ = (S0_.2.2.1 199 0 x_.toNat / 2).toNat then (-S_.1 13 0 127) else S_.2.2.1 213 0 z_; rw [rd_eq, f199_])) (by first | (refine Or.inl ⟨?_, ?_⟩; (show (sm_aI S_ 213 0 (S_.2.2.1 199 0 x_.toNat / 2).toNat (-S_.1 13 0 127)).2.2.1 213 0 (S0_.2.2.1 200 0 x_.toNat / 2).toNat = _; rw [← f200_]; omega); omega) | (refine Or.inr ⟨?_, ?_⟩; (show (sm_aI S_ 213 0 (S_.2.2.1 199 0 x_.toNat / 2).toNat (-S_.1 13 0 127)).2.2.1 213 0 (S0_.2.2.1 200 0 x_.toNat / 2).toNat ≠ _; rw [← f200_]; omega); omega)) (fun z_ => by (show _ = if z_ = (S0_.2.2.1 200 0 x_.toNat / 2).toNat then (-S_.1 13 0 127) else (sm_aI S_ 213 0 (S_.2.2.1 199 0 x_.toNat / 2).toNat (-S_.1 13 0 127)).2.2.1 213 0 z_; rw [← f200_]; exact rd_eq))) | (refine mrq_s (va_ := -S_.1 13 0 127) (vb_ := S_.1 13 0 127) (M1_ := fun z_ => (sm_aI S_ 213 0 (S_.2.2.1 199 0 x_.toNat / 2).toNat (-S_.1 13 0 127)).2.2.1 213 0 z_) (by omega) hclo hmk_ (by omega) (by omega) (by first | (refine Or.inl ⟨?_, ?_⟩; (show S_.2.2.1 213 0 (S0_.2.2.1 199 0 x_.toNat / 2).toNat = _; rw [← f199_]; omega); omega) | (refine Or.inr ⟨?_, ?_⟩; (show S_.2.2.1 213 0 (S0_.2.2.1 199 0 x_.toNat / 2).toNat ≠ _; rw [← f199_]; omega); omega)) (fun z_ => by (show (sm_aI S_ 213 0 (S_.2.2.1 199 0 x_.toNat / 2).toNat (-S_.1 13 0 127)).2.2.1 213 0 z_ = if z_ = (S0_.2.2.1 199 0 x_.toNat / 2).toNat then (-S_.1 13 0 127) else S_.2.2.1 213 0 z_; rw [rd_eq, f199_])) (by first | (refine Or.inl ⟨?_, ?_⟩; (show (sm_aI S_ 213 0 (S_.2.2.1 199 0 x_.toNat / 2).toNat (-S_.1 13 0 127)).2.2.1 213 0 (S0_.2.2.1 200 0 x_.toNat / 2).toNat = _; rw [← f200_]; omega); omega) | (refine Or.inr ⟨?_, ?_⟩; (show (sm_aI S_ 213 0 (S_.2.2.1 199 0 x_.toNat / 2).toNat (-S_.1 13 0 127)).2.2.1 213 0 (S0_.2.2.1 200 0 x_.toNat / 2).toNat ≠ _; rw [← f200_]; omega); omega)) (fun z_ => by (show _ = if z_ = (S0_.2.2.1 200 0 x_.toNat / 2).toNat then (S_.1 13 0 127) else (sm_aI S_ 213 0 (S_.2.2.1 199 0 x_.toNat / 2).toNat (-S_.1 13 0 127)).2.2.1 213 0 z_; rw [← f200_]; exact rd_eq))) | (refine mrq_s (va_ := S_.1 13 0 127) (vb_ := -S_.1 13 0 127) (M1_ := fun z_ => (sm_aI S_ 213 0 (S_.2.2.1 199 0 x_.toNat / 2).toNat (S_.1 13 0 127)).2.2.1 213 0 z_) (by omega) hclo hmk_ (by omega) (by omega) (by first | (refine Or.inl ⟨?_, ?_⟩; (show S_.2.2.1 213 0 (S0_.2.2.1 199 0 x_.toNat / 2).toNat = _; rw [← f199_]; omega); omega) | (refine Or.inr ⟨?_, ?_⟩; (show S_.2.2.1 213 0 (S0_.2.2.1 199 0 x_.toNat / 2).toNat ≠ _; rw [← f199_]; omega); omega)) (fun z_ => by (show (sm_aI S_ 213 0 (S_.2.2.1 199 0 x_.toNat / 2).toNat (S_.1 13 0 127)).2.2.1 213 0 z_ = if z_ = (S0_.2.2.1 199 0 x_.toNat / 2).toNat then (S_.1 13 0 127) else S_.2.2.1 213 0 z_; rw [rd_eq, f199_])) (by first | (refine Or.inl ⟨?_, ?_⟩; (show (sm_aI S_ 213 0 (S_.2.2.1 199 0 x_.toNat / 2).toNat (S_.1 13 0 127)).2.2.1 213 0 (S0_.2.2.1 200 0 x_.toNat / 2).toNat = _; rw [← f200_]; omega); omega) | (refine Or.inr ⟨?_, ?_⟩; (show (sm_aI S_ 213 0 (S_.2.2.1 199 0 x_.toNat / 2).toNat (S_.1 13 0 127)).2.2.1 213 0 (S0_.2.2.1 200 0 x_.toNat / 2).toNat ≠ _; rw [← f200_]; omega); omega)) (fun z_ => by (show _ = if z_ = (S0_.2.2.1 200 0 x_.toNat / 2).toNat then (-S_.1 13 0 127) else (sm_aI S_ 213 0 (S_.2.2.1 199 0 x_.toNat / 2).toNat (S_.1 13 0 127)).2.2.1 213 0 z_; rw [← f200_]; exact rd_eq))) | (refine mrq_s (va_ := S_.1 13 0 127) (vb_ := S_.1 13 0 127) (M1_ := fun z_ => (sm_aI S_ 213 0 (S_.2.2.1 199 0 x_.toNat / 2).toNat (S_.1 13 0 127)).2.2.1 213 0 z_) (by omega) hclo hmk_ (by omega) (by omega) (by first | (refine Or.inl ⟨?_, ?_⟩; (show S_.2.2.1 213 0 (S0_.2.2.1 199 0 x_.toNat / 2).toNat = _; rw [← f199_]; omega); omega) | (refine Or.inr ⟨?_, ?_⟩; (show S_.2.2.1 213 0 (S0_.2.2.1 199 0 x_.toNat / 2).toNat ≠ _; rw [← f199_]; omega); omega)) (fun z_ => by (show (sm_aI S_ 213 0 (S_.2.2.1 199 0 x_.toNat / 2).toNat (S_.1 13 0 127)).2.2.1 213 0 z_ = if z_ = (S0_.2.2.1 199 0 x_.toNat / 2).toNat then (S_.1 13 0 127) else S_.2.2.1 213 0 z_; rw [rd_eq, f199_])) (by first | (refine Or.inl ⟨?_, ?_⟩; (show (sm_aI S_ 213 0 (S_.2.2.1 199 0 x_.toNat / 2).toNat (S_.1 13 0 127)).2.2.1 213 0 (S0_.2.2.1 200 0 x_.toNat / 2).toNat = _; rw [← f200_]; omega); omega) | (refine Or.inr ⟨?_, ?_⟩; (show (sm_aI S_ 213 0 (S_.2.2.1 199 0 x_.toNat / 2).toNat (S_.1 13 0 127)).2.2.1 213 0 (S0_.2.2.1 200 0 x_.toNat / 2).toNat ≠ _; rw [← f200_]; omega); omega)) (fun z_ => by (show _ = if z_ = (S0_.2.2.1 200 0 x_.toNat / 2).toNat then (S_.1 13 0 127) else (sm_aI S_ 213 0 (S_.2.2.1 199 0 x_.toNat / 2).toNat (S_.1 13 0 127)).2.2.1 213 0 z_; rw [← f200_]; exact rd_eq)))
              · (intro m_ z_ u_; rw [rd_ne (by decide), rd_ne (by decide)]; exact htb_ m_ z_ u_)
              · intro y_ u_ w_
                by_cases z9_ : (y_ : Int) = x_
                · omega
                · rw [rd_eq, rd_eq, if_neg (by omega), if_neg (by omega)] at w_
                  have y9_ := hle_ y_ (by omega) w_
                  omega
              · omega
            · have cx22_ : ¬ (((sm_aI S_ 213 0 ((S_.2.2.1 199 0 x_.toNat) / 2).toNat (-(S_.1 13 0 127))).2.2.1 213 0 ((S_.2.2.1 200 0 x_.toNat) / 2).toNat) ≠ -(S_.1 13 0 127)) := of_decide_eq_false cx22_
              refine sm_T_go 2 (c1 := (220, [some (.inr (.inr (some (13, 0)))), some (.inl n_), some (.inl ci_), some (.inl x_), some (.inl x_), some (.inl ((S_.2.2.1 199 0 x_.toNat) / 2)), some (.inl ((S_.2.2.1 200 0 x_.toNat) / 2))], [.inl (S_.1 13 0 127), .inl ((S_.2.2.1 200 0 x_.toNat) / 2), .inr (.inr (some (213, 0)))], sm_aI S_ 213 0 ((S_.2.2.1 199 0 x_.toNat) / 2).toNat (-(S_.1 13 0 127)))) rfl ?_
              refine sm_T_neg (w := -(S_.1 13 0 127)) rfl (by omega) (by omega) (by omega) ?_ -- pc_ 220
              refine sm_T_go 1 (c1 := (228, [some (.inr (.inr (some (13, 0)))), some (.inl n_), some (.inl ci_), some (.inl x_), some (.inl x_), some (.inl ((S_.2.2.1 199 0 x_.toNat) / 2)), some (.inl ((S_.2.2.1 200 0 x_.toNat) / 2))], [.inl (-(S_.1 13 0 127)), .inl ((S_.2.2.1 200 0 x_.toNat) / 2), .inr (.inr (some (213, 0)))], sm_aI S_ 213 0 ((S_.2.2.1 199 0 x_.toNat) / 2).toNat (-(S_.1 13 0 127)))) rfl ?_
              refine sm_T_iast (n := 2048) rfl rfl (by omega) (by omega) ?_
              have hIx25_ : gi (sm_aI (sm_aI S_ 213 0 ((S_.2.2.1 199 0 x_.toNat) / 2).toNat (-(S_.1 13 0 127))) 213 0 ((S_.2.2.1 200 0 x_.toNat) / 2).toNat (-(S_.1 13 0 127))) := gi_aI hIx19_ (show (-2147483648) ≤ -(S_.1 13 0 127) ∧ -(S_.1 13 0 127) ≤ 2147483647 from ⟨by omega, by omega⟩)
              have hFx26_ : ai_fr (sx_W vw_402n) S0_ (sm_aI (sm_aI S_ 213 0 ((S_.2.2.1 199 0 x_.toNat) / 2).toNat (-(S_.1 13 0 127))) 213 0 ((S_.2.2.1 200 0 x_.toNat) / 2).toNat (-(S_.1 13 0 127))) := ai_fr_tr hFx20_ (ai_fr_aI rfl)
              refine sm_T_inc (a := 4) (z := (-1)) (v := x_) (w := x_ - 1) rfl rfl (by omega) (by omega) (by omega) ?_ -- pc_ 229
              refine sm_T_go 1 (c1 := (108, [some (.inr (.inr (some (13, 0)))), some (.inl n_), some (.inl ci_), some (.inl x_), some (.inl (x_ - 1)), some (.inl ((S_.2.2.1 199 0 x_.toNat) / 2)), some (.inl ((S_.2.2.1 200 0 x_.toNat) / 2))], [], sm_aI (sm_aI S_ 213 0 ((S_.2.2.1 199 0 x_.toNat) / 2).toNat (-(S_.1 13 0 127))) 213 0 ((S_.2.2.1 200 0 x_.toNat) / 2).toNat (-(S_.1 13 0 127)))) rfl ?_
              refine sm_T_wk [some (.inr (.inr (some (13, 0)))), some (.inl n_), some (.inl ci_), some (.inl x_), some (.inl (x_ - 1)), none, none] (by exact ⟨rfl, rfl, rfl, rfl, rfl, trivial⟩) ?_
              refine ih_.2.1 x_ (x_ - 1) (sm_aI (sm_aI S_ 213 0 ((S_.2.2.1 199 0 x_.toNat) / 2).toNat (-(S_.1 13 0 127))) 213 0 ((S_.2.2.1 200 0 x_.toNat) / 2).toNat (-(S_.1 13 0 127))) hIx25_ hFx26_ ⟨?_, ?_, ?_, ?_, ?_, trivial⟩ ?_
              · omega
              · first | exact hr_ | ((try simp only [rd_eq, rd_ne, rf_eq, rf_nk, rf_nt, rd_fa, rd_af, rd_fl, rd_al, rd_lf, rd_la, rd_leq, rd_lne, rd_fr, rd_ar, ne_eq, Nat.reduceEqDiff, not_false_eq_true]); exact hr_)
              · first | (refine mrq_s (va_ := -S_.1 13 0 127) (vb_ := -S_.1 13 0 127) (M1_ := fun z_ => (sm_aI S_ 213 0 (S_.2.2.1 199 0 x_.toNat / 2).toNat (-S_.1 13 0 127)).2.2.1 213 0 z_) (by omega) hclo hmk_ (by omega) (by omega) (by first | (refine Or.inl ⟨?_, ?_⟩; (show S_.2.2.1 213 0 (S0_.2.2.1 199 0 x_.toNat / 2).toNat = _; rw [← f199_]; omega); omega) | (refine Or.inr ⟨?_, ?_⟩; (show S_.2.2.1 213 0 (S0_.2.2.1 199 0 x_.toNat / 2).toNat ≠ _; rw [← f199_]; omega); omega)) (fun z_ => by (show (sm_aI S_ 213 0 (S_.2.2.1 199 0 x_.toNat / 2).toNat (-S_.1 13 0 127)).2.2.1 213 0 z_ = if z_ = (S0_.2.2.1 199 0 x_.toNat / 2).toNat then (-S_.1 13 0 127) else S_.2.2.1 213 0 z_; rw [rd_eq, f199_])) (by first | (refine Or.inl ⟨?_, ?_⟩; (show (sm_aI S_ 213 0 (S_.2.2.1 199 0 x_.toNat / 2).toNat (-S_.1 13 0 127)).2.2.1 213 0 (S0_.2.2.1 200 0 x_.toNat / 2).toNat = _; rw [← f200_]; omega); omega) | (refine Or.inr ⟨?_, ?_⟩; (show (sm_aI S_ 213 0 (S_.2.2.1 199 0 x_.toNat / 2).toNat (-S_.1 13 0 127)).2.2.1 213 0 (S0_.2.2.1 200 0 x_.toNat / 2).toNat ≠ _; rw [← f200_]; omega); omega)) (fun z_ => by (show _ = if z_ = (S0_.2.2.1 200 0 x_.toNat / 2).toNat then (-S_.1 13 0 127) else (sm_aI S_ 213 0 (S_.2.2.1 199 0 x_.toNat / 2).toNat (-S_.1 13 0 127)).2.2.1 213 0 z_; rw [← f200_]; exact rd_eq))) | (refine mrq_s (va_ := -S_.1 13 0 127) (vb_ := S_.1 13 0 127) (M1_ := fun z_ => (sm_aI S_ 213 0 (S_.2.2.1 199 0 x_.toNat / 2).toNat (-S_.1 13 0 127)).2.2.1 213 0 z_) (by omega) hclo hmk_ (by omega) (by omega) (by first | (refine Or.inl ⟨?_, ?_⟩; (show S_.2.2.1 213 0 (S0_.2.2.1 199 0 x_.toNat / 2).toNat = _; rw [← f199_]; omega); omega) | (refine Or.inr ⟨?_, ?_⟩; (show S_.2.2.1 213 0 (S0_.2.2.1 199 0 x_.toNat / 2).toNat ≠ _; rw [← f199_]; omega); omega)) (fun z_ => by (show (sm_aI S_ 213 0 (S_.2.2.1 199 0 x_.toNat / 2).toNat (-S_.1 13 0 127)).2.2.1 213 0 z_ = if z_ = (S0_.2.2.1 199 0 x_.toNat / 2).toNat then (-S_.1 13 0 127) else S_.2.2.1 213 0 z_; rw [rd_eq, f199_])) (by first | (refine Or.inl ⟨?_, ?_⟩; (show (sm_aI S_ 213 0 (S_.2.2.1 199 0 x_.toNat / 2).toNat (-S_.1 13 0 127)).2.2.1 213 0 (S0_.2.2.1 200 0 x_.toNat / 2).toNat = _; rw [← f200_]; omega); omega) | (refine Or.inr ⟨?_, ?_⟩; (show (sm_aI S_ 213 0 (S_.2.2.1 199 0 x_.toNat / 2).toNat (-S_.1 13 0 127)).2.2.1 213 0 (S0_.2.2.1 200 0 x_.toNat / 2).toNat ≠ _; rw [← f200_]; omega); omega)) (fun z_ => by (show _ = if z_ = (S0_.2.2.1 200 0 x_.toNat / 2).toNat then (S_.1 13 0 127) else (sm_aI S_ 213 0 (S_.2.2.1 199 0 x_.toNat / 2).toNat (-S_.1 13 0 127)).2.2.1 213 0 z_; rw [← f200_]; exact rd_eq))) | (refine mrq_s (va_ := S_.1 13 0 127) (vb_ := -S_.1 13 0 127) (M1_ := fun z_ => (sm_aI S_ 213 0 (S_.2.2.1 199 0 x_.toNat / 2).toNat (S_.1 13 0 127)).2.2.1 213 0 z_) (by omega) hclo hmk_ (by omega) (by omega) (by first | (refine Or.inl ⟨?_, ?_⟩; (show S_.2.2.1 213 0 (S0_.2.2.1 199 0 x_.toNat / 2).toNat = _; rw [← f199_]; omega); omega) | (refine Or.inr ⟨?_, ?_⟩; (show S_.2.2.1 213 0 (S0_.2.2.1 199 0 x_.toNat / 2).toNat ≠ _; rw [← f199_]; omega); omega)) (fun z_ => by (show (sm_aI S_ 213 0 (S_.2.2.1 199 0 x_.toNat / 2).toNat (S_.1 13 0 127)).2.2.1 213 0 z_ = if z_ = (S0_.2.2.1 199 0 x_.toNat / 2).toNat then (S_.1 13 0 127) else S_.2.2.1 213 0 z_; rw [rd_eq, f199_])) (by first | (refine Or.inl ⟨?_, ?_⟩; (show (sm_aI S_ 213 0 (S_.2.2.1 199 0 x_.toNat / 2).toNat (S_.1 13 0 127)).2.2.1 213 0 (S0_.2.2.1 200 0 x_.toNat / 2).toNat = _; rw [← f200_]; omega); omega) | (refine Or.inr ⟨?_, ?_⟩; (show (sm_aI S_ 213 0 (S_.2.2.1 199 0 x_.toNat / 2).toNat (S_.1 13 0 127)).2.2.1 213 0 (S0_.2.2.1 200 0 x_.toNat / 2).toNat ≠ _; rw [← f200_]; omega); omega)) (fun z_ => by (show _ = if z_ = (S0_.2.2.1 200 0 x_.toNat / 2).toNat then (-S_.1 13 0 127) else (sm_aI S_ 213 0 (S_.2.2.1 199 0 x_.toNat / 2).toNat (S_.1 13 0 127)).2.2.1 213 0 z_; rw [← f200_]; exact rd_eq))) | (refine mrq_s (va_ := S_.1 13 0 127) (vb_ := S_.1 13 0 127) (M1_ := fun z_ => (sm_aI S_ 213 0 (S_.2.2.1 199 0 x_.toNat / 2).toNat (S_.1 13 0 127)).2.2.1 213 0 z_) (by omega) hclo hmk_ (by omega) (by omega) (by first | (refine Or.inl ⟨?_, ?_⟩; (show S_.2.2.1 213 0 (S0_.2.2.1 199 0 x_.toNat / 2).toNat = _; rw [← f199_]; omega); omega) | (refine Or.inr ⟨?_, ?_⟩; (show S_.2.2.1 213 0 (S0_.2.2.1 199 0 x_.toNat / 2).toNat ≠ _; rw [← f199_]; omega); omega)) (fun z_ => by (show (sm_aI S_ 213 0 (S_.2.2.1 199 0 x_.toNat / 2).toNat (S_.1 13 0 127)).2.2.1 213 0 z_ = if z_ = (S0_.2.2.1 199 0 x_.toNat / 2).toNat then (S_.1 13 0 127) else S_.2.2.1 213 0 z_; rw [rd_eq, f199_])) (by first | (refine Or.inl ⟨?_, ?_⟩; (show (sm_aI S_ 213 0 (S_.2.2.1 199 0 x_.toNat / 2).toNat (S_.1 13 0 127)).2.2.1 213 0 (S0_.2.2.1 200 0 x_.toNat / 2).toNat = _; rw [← f200_]; omega); omega) | (refine Or.inr ⟨?_, ?_⟩; (show (sm_aI S_ 213 0 (S_.2.2.1 199 0 x_.toNat / 2).toNat (S_.1 13 0 127)).2.2.1 213 0 (S0_.2.2.1 200 0 x_.toNat / 2).toNat ≠ _; rw [← f200_]; omega); omega)) (fun z_ => by (show _ = if z_ = (S0_.2.2.1 200 0 x_.toNat / 2).toNat then (S_.1 13 0 127) else (sm_aI S_ 213 0 (S_.2.2.1 199 0 x_.toNat / 2).toNat (S_.1 13 0 127)).2.2.1 213 0 z_; rw [← f200_]; exact rd_eq)))
              · (intro m_ z_ u_; rw [rd_ne (by decide), rd_ne (by decide)]; exact htb_ m_ z_ u_)
              · intro y_ u_ w_
                by_cases z9_ : (y_ : Int) = x_
                · omega
                · rw [rd_eq, rd_eq, if_neg (by omega), if_neg (by omega)] at w_
                  have y9_ := hle_ y_ (by omega) w_
                  omega
              · omega
    · rintro le_ x_ S_ hI_ hF_ ⟨h0_, hr_, hmk_, htb_, hle_, hvd_, -⟩ hm_
      have f199_ : S_.2.2.1 199 0 = S0_.2.2.1 199 0 := fr_arr hF_ rfl
      have f200_ : S_.2.2.1 200 0 = S0_.2.2.1 200 0 := fr_arr hF_ rfl
      have f204_ : S_.2.2.1 204 0 = S0_.2.2.1 204 0 := fr_arr hF_ rfl
      have f205_ : S_.2.2.1 205 0 = S0_.2.2.1 205 0 := fr_arr hF_ rfl
      have f160_ : S_.2.2.1 160 0 (S_.1 13 0 105).toNat = F_ := by (rw [hF_.1 13 0 105 rfl, fr_arr (t := 160) (i := 0) hF_ rfl]; exact hf_)
      have l8_ := hl_.1
      refine sm_T_go 2 (c1 := (241, [some (.inr (.inr (some (13, 0)))), some (.inl n_), some (.inl ci_), some (.inl le_), some (.inl x_), none, none], [.inl n_, .inl x_], S_)) rfl ?_
      refine sm_T_br (a := 4) (z := 53) rfl (fun cx1_ => ?_) (fun cx1_ => ?_)
      · have cx1_ : n_ < x_ := of_decide_eq_true cx1_
        refine sm_T_go 3 (c1 := (299, [some (.inr (.inr (some (13, 0)))), some (.inl n_), some (.inl ci_), some (.inl le_), some (.inl x_), none, none], [.inl n_, .inr (.inr (some (214, 0)))], S_)) rfl ?_
        refine sm_T_iald (n := 2048) rfl rfl (by omega) (by omega) ?_
        have bx2_ : 0 ≤ S_.2.2.1 214 0 n_.toNat ∧ S_.2.2.1 214 0 n_.toNat ≤ 255 := hI_.2 214 0 _
        refine sm_T_ri rfl ⟨_, _, rfl, _, rfl, hI_, hF_, ?_⟩
        have q9_ := mrq_t (T_ := S_.2.2.1 214 0) (tl_ := (fun x_ => S0_.2.2.1 199 0 x_ % 2)) (tu_ := (fun x_ => S0_.2.2.1 200 0 x_ % 2)) (by omega) hclo hmk_ hAF_ htb_ (fun y_ e_ => hvd_ y_ (by (have w9_ : y_ ≤ n_.toNat := (by (have nc9_ : ¬ y_ ∈ c_ := fun u_ => (by (have := hmk_.2.1 _ u_; omega)); exact (hclo.2.1 _ ((hmk_.2.2.1 _ nc9_).2.2 e_)).1)); omega)) e_)
        refine ⟨by omega, hr_, fun z_ => ?_, ⟨fun y_ => S_.2.2.1 213 0 y_ = (S0_.1 13 0 127 + 1), S_.2.2.1 214 0, hmk_.1, q9_.1, q9_.2, rfl⟩⟩
        by_cases u9_ : z_ ∈ c_
        · have w9_ := hmk_.2.1 z_ u9_
          omega
        · have w9_ := hmk_.2.2.1 z_ u9_
          omega
      · have cx1_ : ¬ (n_ < x_) := of_decide_eq_false cx1_
        refine sm_T_go 3 (c1 := (250, [some (.inr (.inr (some (13, 0)))), some (.inl n_), some (.inl ci_), some (.inl le_), some (.inl x_), none, none], [.inl x_, .inr (.inr (some (213, 0)))], S_)) rfl ?_
        refine sm_T_iald (n := 2048) rfl rfl (by omega) (by omega) ?_
        have bx3_ : (-2147483648) ≤ S_.2.2.1 213 0 x_.toNat ∧ S_.2.2.1 213 0 x_.toNat ≤ 2147483647 := hI_.2 213 0 _
        have bx4_ : (-2147483648) ≤ S_.1 13 0 127 ∧ S_.1 13 0 127 ≤ 2147483647 := hI_.1 13 0 127 rfl
        refine sm_T_go 2 (c1 := (255, [some (.inr (.inr (some (13, 0)))), some (.inl n_), some (.inl ci_), some (.inl le_), some (.inl x_), none, none], [.inl (S_.1 13 0 127), .inl (S_.2.2.1 213 0 x_.toNat)], S_)) rfl ?_
        refine sm_T_br (a := 1) (z := 33) rfl (fun cx5_ => ?_) (fun cx5_ => ?_)
        · have cx5_ : (S_.2.2.1 213 0 x_.toNat) ≠ (S_.1 13 0 127) := of_decide_eq_true cx5_
          refine sm_T_inc (a := 4) (z := 1) (v := x_) (w := x_ + 1) rfl rfl (by omega) (by omega) (by omega) ?_ -- pc_ 288
          refine sm_T_go 1 (c1 := (238, [some (.inr (.inr (some (13, 0)))), some (.inl n_), some (.inl ci_), some (.inl le_), some (.inl (x_ + 1)), none, none], [], S_)) rfl ?_
          refine ih_.2.2 le_ (x_ + 1) S_ hI_ hF_ ⟨?_, ?_, ?_, ?_, ?_, ?_, trivial⟩ ?_
          · omega
          · first | exact hr_ | ((try simp only [rd_eq, rd_ne, rf_eq, rf_nk, rf_nt, rd_fa, rd_af, rd_fl, rd_al, rd_lf, rd_la, rd_leq, rd_lne, rd_fr, rd_ar, ne_eq, Nat.reduceEqDiff, not_false_eq_true]); exact hr_)
          · first | exact hmk_ | (rw [rd_ne_ (by decide)]; exact hmk_)
          · exact htb_
          · first | exact hle_ | (intro y_ w_; rw [rd_ne (by decide)] at w_; exact hle_ y_ w_)
          · intro y_ u_ w_
            by_cases z9_ : (y_ : Int) = x_
            · exfalso; rw [show y_ = x_.toNat by omega] at w_; omega
            · exact hvd_ y_ (by omega) w_
          · omega
        · have cx5_ : ¬ ((S_.2.2.1 213 0 x_.toNat) ≠ (S_.1 13 0 127)) := of_decide_eq_false cx5_
          have nc9_ : ¬ x_.toNat ∈ c_ := fun u_ => by (have := hmk_.2.1 _ u_; omega)
          have ax9_ := (hmk_.2.2.1 _ nc9_).2.2 (by omega)
          have cx9_ := hclo.2.1 _ ax9_
          have sa9_ : (S0_.2.2.1 199 0 x_.toNat / 2).toNat < x_.toNat := (cx9_.2.2.2 0 (by decide)).1
          have sb9_ : (S0_.2.2.1 200 0 x_.toNat / 2).toNat < x_.toNat := (cx9_.2.2.2 1 (by decide)).1
          refine sm_T_go 7 (c1 := (271, [some (.inr (.inr (some (13, 0)))), some (.inl n_), some (.inl ci_), some (.inl le_), some (.inl x_), none, none], [.inl x_, .inr (.inr (some (199, 0))), .inr (.inr (some (13, 0))), .inl x_, .inr (.inr (some (214, 0)))], S_)) rfl ?_
          refine sm_T_iald (n := 2048) rfl rfl (by omega) (by omega) ?_
          have bx6_ : 0 ≤ S_.2.2.1 199 0 x_.toNat ∧ S_.2.2.1 199 0 x_.toNat ≤ 2025 := hI_.2 199 0 _
          refine sm_T_cal (d1 := 0) (Q1 := vq_401n (S_.2.2.1 199 0 x_.toNat) S_) rfl rfl (by decide) (vc_401n (S_.2.2.1 199 0 x_.toNat) S_ hI_ (by (have b9_ : 0 ≤ S_.2.2.1 199 0 x_.toNat ∧ S_.2.2.1 199 0 x_.toNat ≤ 2047 := (by (have q9_ := hI_.2 199 0 x_.toNat; exact ⟨q9_.1, Int.le_trans q9_.2 (by decide)⟩)); omega))) (fun u_ Sx7_ px10_ => ?_)
          obtain ⟨rfl, vx12_, rfl, px10_⟩ := px10_
          have e272_ := px10_
          rw [f199_] at e272_
          refine sm_T_go 4 (c1 := (282, [some (.inr (.inr (some (13, 0)))), some (.inl n_), some (.inl ci_), some (.inl le_), some (.inl x_), none, none], [.inl x_, .inr (.inr (some (200, 0))), .inr (.inr (some (13, 0))), .inl vx12_, .inl x_, .inr (.inr (some (214, 0)))], S_)) rfl ?_
          refine sm_T_iald (n := 2048) rfl rfl (by omega) (by omega) ?_
          have bx13_ : 0 ≤ S_.2.2.1 200 0 x_.toNat ∧ S_.2.2.1 200 0 x_.toNat ≤ 2025 := hI_.2 200 0 _
          refine sm_T_cal (d1 := 0) (Q1 := vq_401n (S_.2.2.1 200 0 x_.toNat) S_) rfl rfl (by decide) (vc_401n (S_.2.2.1 200 0 x_.toNat) S_ hI_ (by (have b9_ : 0 ≤ S_.2.2.1 200 0 x_.toNat ∧ S_.2.2.1 200 0 x_.toNat ≤ 2047 := (by (have q9_ := hI_.2 200 0 x_.toNat; exact ⟨q9_.1, Int.le_trans q9_.2 (by decide)⟩)); omega))) (fun u_ Sx14_ px17_ => ?_)
          obtain ⟨rfl, vx19_, rfl, px17_⟩ := px17_
          have e283_ := px17_
          rw [f200_] at e283_
          refine sm_T_bin (w := (i_and vx12_ vx19_)) rfl rfl ?_ -- pc_ 286
          first | have bx20_ := i_and_p (x_ := vx12_) (y_ := vx19_) (by omega) (by omega) | have bx20_ := i_and_y vx12_ (y_ := vx19_) (by omega) | have bx20_ := i_and_x (x_ := vx12_) vx19_ (by omega) | have bx20_ := i_and_n vx12_ vx19_
          refine sm_T_iast (n := 2048) rfl rfl (by omega) (by omega) ?_
          have hIx21_ : gi (sm_aI S_ 214 0 x_.toNat (i_and vx12_ vx19_)) := gi_aI hI_ (show 0 ≤ (i_and vx12_ vx19_) ∧ (i_and vx12_ vx19_) ≤ 255 from ⟨by omega, by omega⟩)
          have hFx22_ : ai_fr (sx_W vw_402n) S0_ (sm_aI S_ 214 0 x_.toNat (i_and vx12_ vx19_)) := ai_fr_tr hF_ (ai_fr_aI rfl)
          refine sm_T_inc (a := 4) (z := 1) (v := x_) (w := x_ + 1) rfl rfl (by omega) (by omega) (by omega) ?_ -- pc_ 288
          refine sm_T_go 1 (c1 := (238, [some (.inr (.inr (some (13, 0)))), some (.inl n_), some (.inl ci_), some (.inl le_), some (.inl (x_ + 1)), none, none], [], sm_aI S_ 214 0 x_.toNat (i_and vx12_ vx19_))) rfl ?_
          refine ih_.2.2 le_ (x_ + 1) (sm_aI S_ 214 0 x_.toNat (i_and vx12_ vx19_)) hIx21_ hFx22_ ⟨?_, ?_, ?_, ?_, ?_, ?_, trivial⟩ ?_
          · omega
          · first | exact hr_ | ((try simp only [rd_eq, rd_ne, rf_eq, rf_nk, rf_nt, rd_fa, rd_af, rd_fl, rd_al, rd_lf, rd_la, rd_leq, rd_lne, rd_fr, rd_ar, ne_eq, Nat.reduceEqDiff, not_false_eq_true]); exact hr_)
          · first | exact hmk_ | (rw [rd_ne_ (by decide)]; exact hmk_)
          · intro m_ z_ u_
            rw [rd_eq, if_neg (fun q_ => nc9_ (by rw [← q_]; exact List.mem_of_getElem? u_))]
            exact htb_ m_ z_ u_
          · first | exact hle_ | (intro y_ w_; rw [rd_ne (by decide)] at w_; exact hle_ y_ w_)
          · intro y_ u_ w_
            rw [rd_ne (by decide)] at w_
            by_cases z9_ : (y_ : Int) = x_
            · rw [show y_ = x_.toNat by omega, rd_eq, if_pos rfl, rd_eq, if_neg (by omega), rd_eq, if_neg (by omega), e272_.1, e283_.1]
            · have nc8_ : ¬ y_ ∈ c_ := fun q_ => by (have := hmk_.2.1 _ q_; omega)
              have cy9_ := hclo.2.1 _ ((hmk_.2.2.1 _ nc8_).2.2 w_)
              have ya9_ : (S0_.2.2.1 199 0 y_ / 2).toNat < y_ := (cy9_.2.2.2 0 (by decide)).1
              have yb9_ : (S0_.2.2.1 200 0 y_ / 2).toNat < y_ := (cy9_.2.2.2 1 (by decide)).1
              rw [rd_eq, if_neg (by omega), rd_eq, if_neg (by omega), rd_eq, if_neg (by omega)]
              exact hvd_ y_ (by omega) w_
          · omega
set_option maxHeartbeats 4000000 in
set_option maxRecDepth 20000 in
theorem vc_402n {sc_ : Nat × (Nat → Int)} (n_ : Int) (ci_ : Int) (F_ : Int) (A_ : Nat → Prop) (c_ : List Nat) (S0_ : sm_S) (hI_ : gi S0_) (hf_ : S0_.2.2.1 160 0 (S0_.1 13 0 105).toNat = F_) (hn_ : 1 ≤ F_ ∧ F_ ≤ n_ ∧ n_ ≤ 1012) (hci_ : 0 ≤ ci_ ∧ ci_ ≤ 63) (hl_ : (2 ≤ c_.length ∧ c_.length ≤ 3) ∧ ris c_) (hcs_ : S0_.2.2.1 204 0 ci_.toNat = (c_.length : Int)) (hcv_ : ∀ k_ x_ : Nat, c_[k_]? = some x_ → S0_.2.2.1 205 0 (3 * ci_.toNat + k_) = (x_ : Int)) (hclo : clo (sds (fun x_ => (S0_.2.2.1 199 0 x_ / 2).toNat) (fun x_ => (S0_.2.2.1 200 0 x_ / 2).toNat)) n_.toNat A_ c_) (hAF_ : ∀ x_ : Nat, A_ x_ → F_ ≤ (x_ : Int)) (hrd_ : 0 ≤ S0_.1 13 0 127 ∧ S0_.1 13 0 127 ≤ 2000000000) (hmb_ : ∀ x_ : Nat, -(S0_.1 13 0 127) ≤ S0_.2.2.1 213 0 x_ ∧ S0_.2.2.1 213 0 x_ ≤ S0_.1 13 0 127) : sm_T (mt_P sc_) 1 402 (0, [some (.inr (.inr (some (13, 0)))), some (.inl n_), some (.inl ci_), none, none, none, none], [], S0_) (fun ro9_ => ∃ u_ S1_, ro9_ = (.inl u_, S1_, 0) ∧ vq_402n n_ ci_ F_ A_ c_ S0_ u_ S1_) := by
  have hF_ : ai_fr (sx_W vw_402n) S0_ S0_ := ai_fr_rf
  have bx1_ : (-2147483648) ≤ S0_.1 13 0 127 ∧ S0_.1 13 0 127 ≤ 2147483647 := hI_.1 13 0 127 rfl
  refine sm_T_go 4 (c1 := (6, [some (.inr (.inr (some (13, 0)))), some (.inl n_), some (.inl ci_), none, none, none, none], [.inl 1, .inl (S0_.1 13 0 127), .inr (.inr (some (13, 0)))], S0_)) rfl ?_
  refine sm_T_bin (w := (S0_.1 13 0 127) + 1) rfl (bi_add (by omega) (by omega) (by omega)) ?_ -- pc_ 6
  have hIx2_ : gi (sm_pI S0_ 13 0 127 ((S0_.1 13 0 127) + 1)) := gi_pI hI_ (show (-2147483648) ≤ (S0_.1 13 0 127) + 1 ∧ (S0_.1 13 0 127) + 1 ≤ 2147483647 from ⟨by omega, by omega⟩)
  have hFx3_ : ai_fr (sx_W vw_402n) S0_ (sm_pI S0_ 13 0 127 ((S0_.1 13 0 127) + 1)) := ai_fr_tr hF_ (ai_fr_pI rfl)
  refine sm_T_go 8 (c1 := (21, [some (.inr (.inr (some (13, 0)))), some (.inl n_), some (.inl ci_), some (.inl n_), none, none, none], [.inl ((S0_.1 13 0 127) + 1), .inl n_, .inr (.inr (some (213, 0)))], sm_pI S0_ 13 0 127 ((S0_.1 13 0 127) + 1))) rfl ?_
  refine sm_T_iast (n := 2048) rfl rfl (by omega) (by omega) ?_
  have hIx4_ : gi (sm_aI (sm_pI S0_ 13 0 127 ((S0_.1 13 0 127) + 1)) 213 0 n_.toNat ((S0_.1 13 0 127) + 1)) := gi_aI hIx2_ (show (-2147483648) ≤ (S0_.1 13 0 127) + 1 ∧ (S0_.1 13 0 127) + 1 ≤ 2147483647 from ⟨by omega, by omega⟩)
  have hFx5_ : ai_fr (sx_W vw_402n) S0_ (sm_aI (sm_pI S0_ 13 0 127 ((S0_.1 13 0 127) + 1)) 213 0 n_.toNat ((S0_.1 13 0 127) + 1)) := ai_fr_tr hFx3_ (ai_fr_aI rfl)
  refine sm_T_go 2 (c1 := (25, [some (.inr (.inr (some (13, 0)))), some (.inl n_), some (.inl ci_), some (.inl n_), some (.inl 0), none, none], [], sm_aI (sm_pI S0_ 13 0 127 ((S0_.1 13 0 127) + 1)) 213 0 n_.toNat ((S0_.1 13 0 127) + 1))) rfl ?_
  refine (vl_402n n_ ci_ F_ A_ c_ S0_ hf_ hn_ hci_ hl_ hcs_ hcv_ hclo hAF_ hrd_ hmb_ _).1 n_ 0 (sm_aI (sm_pI S0_ 13 0 127 ((S0_.1 13 0 127) + 1)) 213 0 n_.toNat ((S0_.1 13 0 127) + 1)) hIx4_ hFx5_ ⟨?_, ?_, ?_, trivial⟩ (Nat.lt_succ_self _)
  · omega
  · ((try simp only [rd_eq, rd_ne, rf_eq, rf_nk, rf_nt, rd_fa, rd_af, rd_fl, rd_al, rd_lf, rd_la, rd_leq, rd_lne, rd_fr, rd_ar, ne_eq, Nat.reduceEqDiff, not_false_eq_true]))
  · have r9_ : ∀ z_ : Nat, ((sm_aI (sm_pI S0_ 13 0 127 ((S0_.1 13 0 127) + 1)) 213 0 n_.toNat ((S0_.1 13 0 127) + 1))).2.2.1 213 0 z_ = if z_ = n_.toNat then (S0_.1 13 0 127 + 1) else S0_.2.2.1 213 0 z_ := fun z_ => by (rw [rd_eq]; (try simp only [rd_eq, rd_ne, rf_eq, rf_nk, rf_nt, rd_fa, rd_af, rd_fl, rd_al, rd_lf, rd_la, rd_leq, rd_lne, rd_fr, rd_ar, ne_eq, Nat.reduceEqDiff, not_false_eq_true]))
    refine ⟨by rw [r9_, if_pos rfl], fun m_ x_ u_ => absurd u_ (Nat.not_lt_zero _), fun x_ u_ _ => ?_⟩
    rw [r9_, if_neg u_]
    have b9_ := hmb_ x_
    omega
end
/-! 99.ztZS -/
section
/-! ways, views of cells; written by wip/p55/gen/vg -/

/-! ways: cost, cell, turns, nodes -/
def wst (b_ : Int × Int × Int × (Nat → Int)) (co_ : Int) (cd_ : Int × Int × (Nat → Int)) : Int × Int × Int × (Nat → Int) := if co_ < b_.1 then (co_, cd_) else b_
def cfo (f_ : Nat → Int × Int × Int × (Nat → Int) → Int × Int × Int × (Nat → Int)) : Nat → Int × Int × Int × (Nat → Int) → Int × Int × Int × (Nat → Int)
  | 0, b_ => b_
  | i_ + 1, b_ => f_ i_ (cfo f_ i_ b_)
def wic (ip_ : Nat) : Nat := if ip_ = 2 then 8 else 48
def cdn (c_ : List Nat) (ip_ o_ k_ : Nat) : Int := cva c_ (iat (ip_ : Int) (o_ : Int) (k_ : Int)).toNat
def cco (ad_ pc_ : Int → Int → Int) (a_ : Int) (c_ : List Nat) (ip_ v_ : Nat) : Nat → Int
  | 0 => a_
  | k_ + 1 => ad_ (cco ad_ pc_ a_ c_ ip_ v_ k_) (pc_ (cdn c_ ip_ (v_ / 2 ^ ip_) k_) ((v_ / 2 ^ k_ % 2 : Nat) : Int))
def wvs (ad_ pc_ : Int → Int → Int) (hit_ : Nat → Bool) (a_ : Int) (cell : Nat) (c_ : List Nat) (ip_ v_ : Nat) (b_ : Int × Int × Int × (Nat → Int)) : Int × Int × Int × (Nat → Int) := if hit_ v_ = true then wst b_ (cco ad_ pc_ a_ c_ ip_ v_ ip_) ((cell : Int), ((v_ % 2 ^ ip_ : Nat) : Int), cdn c_ ip_ (v_ / 2 ^ ip_)) else b_
def wct (ad_ pc_ : Int → Int → Int) (hit_ : Nat → Nat → Bool) (a_ : Int) (cell ip_ : Nat) (Q_ : Nat → List Nat) (i_ : Nat) (b_ : Int × Int × Int × (Nat → Int)) : Int × Int × Int × (Nat → Int) := if ip_ = (Q_ i_).length then cfo (wvs ad_ pc_ (hit_ i_) a_ cell (Q_ i_) ip_) (wic ip_) b_ else b_
def wcl (ad_ pc_ : Int → Int → Int) (hit_ : Nat → Nat → Nat → Bool) (ar_ : Nat → Int) (inp : Nat → Nat) (Q_ : Nat → List Nat) (len_ cell : Nat) (b_ : Int × Int × Int × (Nat → Int)) : Int × Int × Int × (Nat → Int) := cfo (wct ad_ pc_ (hit_ cell) (ar_ cell) cell (inp cell) Q_) len_ b_
def wbs (ad_ pc_ : Int → Int → Int) (hit_ : Nat → Nat → Nat → Bool) (ar_ : Nat → Int) (inp : Nat → Nat) (Q_ : Nat → List Nat) (len_ nc : Nat) (inf_ : Int) : Int × Int × Int × (Nat → Int) := cfo (wcl ad_ pc_ hit_ ar_ inp Q_ len_) nc (inf_, -1, 0, fun _ => 0)
/-! orders, states -/
theorem pli_2 : ∀ o_ : Fin 2, ∀ k_ : Fin 2, plo 2 ((o_.val : Nat) : Int) ((k_.val : Nat) : Int) = iat 2 ((o_.val : Nat) : Int) ((k_.val : Nat) : Int) := by decide +kernel
theorem pli_3 : ∀ o_ : Fin 6, ∀ k_ : Fin 3, plo 3 ((o_.val : Nat) : Int) ((k_.val : Nat) : Int) = iat 3 ((o_.val : Nat) : Int) ((k_.val : Nat) : Int) := by decide +kernel
theorem plo_i {ip_ o_ k_ : Int} (h_ : (ip_ = 2 ∧ 0 ≤ o_ ∧ o_ ≤ 1 ∧ 0 ≤ k_ ∧ k_ ≤ 1) ∨ (ip_ = 3 ∧ 0 ≤ o_ ∧ o_ ≤ 5 ∧ 0 ≤ k_ ∧ k_ ≤ 2)) : plo ip_ o_ k_ = iat ip_ o_ k_ := by
  have a_ : ((o_.toNat : Nat) : Int) = o_ := by omega
  have b_ : ((k_.toNat : Nat) : Int) = k_ := by omega
  rcases h_ with h_ | h_
  · have q_ := pli_2 ⟨o_.toNat, by omega⟩ ⟨k_.toNat, by omega⟩
    simp only [a_, b_] at q_
    rw [h_.1]
    exact q_
  · have q_ := pli_3 ⟨o_.toNat, by omega⟩ ⟨k_.toNat, by omega⟩
    simp only [a_, b_] at q_
    rw [h_.1]
    exact q_
def cse (ip_ o_ tu_ s_ : Int) : Nat → Int
  | 0 => tu_
  | k_ + 1 => i_xor (cse ip_ o_ tu_ s_ k_) (i_shl (i_shr s_ (plo ip_ o_ (k_ : Int)) % 2) (k_ : Int))
def rst (sz_ o_ tu_ v_ : Int) : Nat → Int
  | 0 => 0
  | k_ + 1 => i_or (rst sz_ o_ tu_ v_ k_) (i_shl (i_xor (i_shr v_ (iat sz_ o_ (k_ : Int))) (i_shr tu_ (k_ : Int)) % 2) (k_ : Int))
theorem cse_2 : ∀ o_ : Fin 2, ∀ t_ : Fin 4, ∀ s_ : Fin 4, cse 2 ((o_.val : Nat) : Int) ((t_.val : Nat) : Int) ((s_.val : Nat) : Int) 2 = rst 2 ((o_.val : Nat) : Int) ((t_.val : Nat) : Int) ((s_.val : Nat) : Int) 2 ∧ rst 2 ((o_.val : Nat) : Int) ((t_.val : Nat) : Int) (((s_.val + 4 : Nat)) : Int) 2 = rst 2 ((o_.val : Nat) : Int) ((t_.val : Nat) : Int) ((s_.val : Nat) : Int) 2 := by decide +kernel
theorem cse_3 : ∀ o_ : Fin 6, ∀ t_ : Fin 8, ∀ s_ : Fin 8, cse 3 ((o_.val : Nat) : Int) ((t_.val : Nat) : Int) ((s_.val : Nat) : Int) 3 = rst 3 ((o_.val : Nat) : Int) ((t_.val : Nat) : Int) ((s_.val : Nat) : Int) 3 := by decide +kernel
/-- what a_ cell tells, by order and turns -/
def vwt (f_ : Int) (ip_ v_ m_ : Nat) : Int := tbv (fun s_ => decide (i_shr f_ (rst (ip_ : Int) ((v_ / 2 ^ ip_ : Nat) : Int) ((v_ % 2 ^ ip_ : Nat) : Int) (s_ : Int) ip_) % 2 = 1)) m_
def vwc (f_ : Int) (ip_ v_ m_ : Nat) : Int := tbv (fun s_ => decide (i_shr f_ (cse (ip_ : Int) ((v_ / 2 ^ ip_ : Nat) : Int) ((v_ % 2 ^ ip_ : Nat) : Int) (s_ : Int) ip_) % 2 = 1)) m_
theorem tbv_17 {f_ : Nat → Bool} (h_ : ∀ s_, s_ < 4 → f_ (s_ + 4) = f_ s_) : tbv f_ 8 = 17 * tbv f_ 4 := by
  have h4_ : f_ 4 = f_ 0 := h_ 0 (by decide)
  have h5_ : f_ 5 = f_ 1 := h_ 1 (by decide)
  have h6_ : f_ 6 = f_ 2 := h_ 2 (by decide)
  have h7_ : f_ 7 = f_ 3 := h_ 3 (by decide)
  have e8_ : tbv f_ 8 = 0 + (if f_ 0 = true then (2 : Int) ^ 0 else 0) + (if f_ 1 = true then (2 : Int) ^ 1 else 0) + (if f_ 2 = true then (2 : Int) ^ 2 else 0) + (if f_ 3 = true then (2 : Int) ^ 3 else 0) + (if f_ 4 = true then (2 : Int) ^ 4 else 0) + (if f_ 5 = true then (2 : Int) ^ 5 else 0) + (if f_ 6 = true then (2 : Int) ^ 6 else 0) + (if f_ 7 = true then (2 : Int) ^ 7 else 0) := rfl
  have e4_ : tbv f_ 4 = 0 + (if f_ 0 = true then (2 : Int) ^ 0 else 0) + (if f_ 1 = true then (2 : Int) ^ 1 else 0) + (if f_ 2 = true then (2 : Int) ^ 2 else 0) + (if f_ 3 = true then (2 : Int) ^ 3 else 0) := rfl
  rw [e8_, e4_, h4_, h5_, h6_, h7_]
  generalize f_ 0 = a_
  generalize f_ 1 = b_
  generalize f_ 2 = c_
  generalize f_ 3 = d_
  cases a_ <;> cases b_ <;> cases c_ <;> cases d_ <;> rfl
theorem vwc_2 {f_ : Int} {v_ : Nat} (hv_ : v_ < 8) : vwc f_ 2 v_ 4 = vwt f_ 2 v_ 4 ∧ vwt f_ 2 v_ 8 = 17 * vwt f_ 2 v_ 4 := by
  have ho_ : v_ / 2 ^ 2 < 2 := by omega
  have ht_ : v_ % 2 ^ 2 < 4 := by omega
  refine ⟨tbv_cg 4 (fun s_ hs_ => ?_), tbv_17 (fun s_ hs_ => ?_)⟩
  · have q_ := (cse_2 ⟨v_ / 2 ^ 2, ho_⟩ ⟨v_ % 2 ^ 2, ht_⟩ ⟨s_, hs_⟩).1
    show decide (i_shr f_ (cse 2 ((v_ / 2 ^ 2 : Nat) : Int) ((v_ % 2 ^ 2 : Nat) : Int) (s_ : Int) 2) % 2 = 1) = decide (i_shr f_ (rst 2 ((v_ / 2 ^ 2 : Nat) : Int) ((v_ % 2 ^ 2 : Nat) : Int) (s_ : Int) 2) % 2 = 1)
    have q_ : cse 2 ((v_ / 2 ^ 2 : Nat) : Int) ((v_ % 2 ^ 2 : Nat) : Int) (s_ : Int) 2 = rst 2 ((v_ / 2 ^ 2 : Nat) : Int) ((v_ % 2 ^ 2 : Nat) : Int) (s_ : Int) 2 := q_
    rw [q_]
  · have q_ := (cse_2 ⟨v_ / 2 ^ 2, ho_⟩ ⟨v_ % 2 ^ 2, ht_⟩ ⟨s_, hs_⟩).2
    show decide (i_shr f_ (rst 2 ((v_ / 2 ^ 2 : Nat) : Int) ((v_ % 2 ^ 2 : Nat) : Int) ((s_ + 4 : Nat) : Int) 2) % 2 = 1) = decide (i_shr f_ (rst 2 ((v_ / 2 ^ 2 : Nat) : Int) ((v_ % 2 ^ 2 : Nat) : Int) (s_ : Int) 2) % 2 = 1)
    have q_ : rst 2 ((v_ / 2 ^ 2 : Nat) : Int) ((v_ % 2 ^ 2 : Nat) : Int) ((s_ + 4 : Nat) : Int) 2 = rst 2 ((v_ / 2 ^ 2 : Nat) : Int) ((v_ % 2 ^ 2 : Nat) : Int) (s_ : Int) 2 := q_
    rw [q_]
theorem vwc_3 {f_ : Int} {v_ : Nat} (hv_ : v_ < 48) : vwc f_ 3 v_ 8 = vwt f_ 3 v_ 8 := by
  have ho_ : v_ / 2 ^ 3 < 6 := by omega
  have ht_ : v_ % 2 ^ 3 < 8 := by omega
  refine tbv_cg 8 (fun s_ hs_ => ?_)
  have q_ := cse_3 ⟨v_ / 2 ^ 3, ho_⟩ ⟨v_ % 2 ^ 3, ht_⟩ ⟨s_, hs_⟩
  show decide (i_shr f_ (cse 3 ((v_ / 2 ^ 3 : Nat) : Int) ((v_ % 2 ^ 3 : Nat) : Int) (s_ : Int) 3) % 2 = 1) = decide (i_shr f_ (rst 3 ((v_ / 2 ^ 3 : Nat) : Int) ((v_ % 2 ^ 3 : Nat) : Int) (s_ : Int) 3) % 2 = 1)
  have q_ : cse 3 ((v_ / 2 ^ 3 : Nat) : Int) ((v_ % 2 ^ 3 : Nat) : Int) (s_ : Int) 3 = rst 3 ((v_ / 2 ^ 3 : Nat) : Int) ((v_ % 2 ^ 3 : Nat) : Int) (s_ : Int) 3 := q_
  rw [q_]
theorem tbv_orb {f_ : Nat → Bool} {k_ : Nat} {x_ : Int} (hk_ : k_ ≤ 21) (e_ : f_ k_ = decide (x_ % 2 = 1)) : i_or (tbv f_ k_) (i_shl (x_ % 2) (k_ : Int)) = tbv f_ (k_ + 1) := by
  have q_ := tbv_or (f_ := f_) hk_
  have w_ : (if f_ k_ = true then (1 : Int) else 0) = x_ % 2 := by
    rw [e_]
    by_cases z_ : x_ % 2 = 1
    · rw [decide_eq_true z_, if_pos rfl, z_]
    · rw [decide_eq_false z_, if_neg Bool.false_ne_true]
      omega
  rw [w_] at q_
  exact q_
theorem vsp {v_ e_ : Int} (hv_ : 0 ≤ v_ ∧ v_ < 48) (h_ : e_ = 2 ∨ e_ = 3) : i_shr v_ e_ = ((v_.toNat / 2 ^ e_.toNat : Nat) : Int) ∧ i_and v_ (i_shl 1 e_ - 1) = ((v_.toNat % 2 ^ e_.toNat : Nat) : Int) := by
  rcases h_ with h_ | h_
  · rw [h_]
    refine ⟨?_, ?_⟩
    · rw [i_shrv (by decide) (by decide) (by omega)]
      show v_ / 4 = ((v_.toNat / 4 : Nat) : Int)
      omega
    · have q_ : i_and v_ (i_shl 1 2 - 1) = v_ % 2 ^ 2 := bt_mask (k := 2) (by decide)
      rw [q_]
      show v_ % 4 = ((v_.toNat % 4 : Nat) : Int)
      omega
  · rw [h_]
    refine ⟨?_, ?_⟩
    · rw [i_shrv (by decide) (by decide) (by omega)]
      show v_ / 8 = ((v_.toNat / 8 : Nat) : Int)
      omega
    · have q_ : i_and v_ (i_shl 1 3 - 1) = v_ % 2 ^ 3 := bt_mask (k := 3) (by decide)
      rw [q_]
      show v_ % 8 = ((v_.toNat % 8 : Nat) : Int)
      omega
theorem shl_1 {e_ : Int} (h_ : e_ = 2 ∨ e_ = 3) : i_shl 1 e_ = ((2 ^ e_.toNat : Nat) : Int) := by
  rcases h_ with h_ | h_ <;> rw [h_] <;> decide
/-- the_ views of_ a_ cell stand -/
def vwd (ll_ : Nat) (S_ : sm_S) (V_ : Nat → Int) (c_ v_ : Nat) : Prop := V_ (48 * c_ + v_) = vwc (S_.2.2.1 56 (0 + ll_) c_) (S_.2.2.1 55 (0 + ll_) c_).toNat v_ (2 ^ (S_.2.2.1 55 (0 + ll_) c_).toNat)
theorem vwd_w {ll_ : Nat} {S_ : sm_S} {V_ V'_ : Nat → Int} {c_ v_ k_ : Nat} {z_ : Int} (h_ : vwd ll_ S_ V_ c_ v_) (e_ : ∀ j_, V'_ j_ = if j_ = k_ then z_ else V_ j_) (n_ : 48 * c_ + v_ ≠ k_) : vwd ll_ S_ V'_ c_ v_ := by
  unfold vwd at *
  rw [e_, if_neg n_]
  exact h_

/-! Mapper.viewCells -/
def vw_97n : sx_Wl := ([], [69], [])
def vq_97n (ll_ : Nat) (S0_ : sm_S) (u_ : Option sm_V) (S1_ : sm_S) : Prop := u_ = none ∧ gi S1_ ∧ ai_fr (sx_W vw_97n) S0_ S1_ ∧ (∀ c_ v_ : Nat, (c_ : Int) < S0_.1 5 ll_ 1 → (2 ≤ S0_.2.2.1 55 (0 + ll_) c_) → v_ < wic (S0_.2.2.1 55 (0 + ll_) c_).toNat → vwd ll_ S0_ (S1_.2.2.1 69 0) c_ v_)
set_option maxHeartbeats 4000000 in
set_option maxRecDepth 20000 in
theorem vl_97n {sc_ : Nat × (Nat → Int)} (ll_ : Nat) (S0_ : sm_S) (hc_ : S0_.2.1 6 0 1 = some ll_) : ∀ nn_ : Nat, (∀ (c9_ : Int) (S_ : sm_S), gi S_ → ai_fr (sx_W vw_97n) S0_ S_ → ((0 ≤ c9_ ∧ c9_ ≤ 12) ∧ (∀ c_ v_ : Nat, (c_ : Int) < c9_ → (2 ≤ S0_.2.2.1 55 (0 + ll_) c_) → v_ < wic (S0_.2.2.1 55 (0 + ll_) c_).toNat → vwd ll_ S0_ (S_.2.2.1 69 0) c_ v_) ∧ True) → ((100000 * (20 - c9_) + 90000).toNat) < nn_ → sm_T (mt_P sc_) 1 97 (2, [some (.inr (.inr (some (6, 0)))), some (.inl c9_), none, none, none, none, none, none, none, none, none], [], S_) (fun ro9_ => ∃ u_ S1_, ro9_ = (.inl u_, S1_, 0) ∧ vq_97n ll_ S0_ u_ S1_)) ∧ (∀ (c9_ : Int) (is_ : Int) (od_ : Int) (vw_ : Int) (S_ : sm_S), gi S_ → ai_fr (sx_W vw_97n) S0_ S_ → ((0 ≤ c9_ ∧ c9_ < 12 ∧ ((is_ = 2 ∧ od_ = 2) ∨ (is_ = 3 ∧ od_ = 6) ∨ is_ ≤ 1) ∧ 0 ≤ is_ ∧ is_ ≤ 3 ∧ 0 ≤ vw_ ∧ vw_ ≤ 48) ∧ (∀ c_ v_ : Nat, (c_ : Int) < c9_ → (2 ≤ S0_.2.2.1 55 (0 + ll_) c_) → v_ < wic (S0_.2.2.1 55 (0 + ll_) c_).toNat → vwd ll_ S0_ (S_.2.2.1 69 0) c_ v_) ∧ (is_ = S0_.2.2.1 55 (0 + ll_) c9_.toNat) ∧ (∀ v_ : Nat, (v_ : Int) < vw_ → vwd ll_ S0_ (S_.2.2.1 69 0) c9_.toNat v_) ∧ True) → ((100000 * (20 - c9_) + 1000 * (60 - vw_) + 900).toNat) < nn_ → sm_T (mt_P sc_) 1 97 (38, [some (.inr (.inr (some (6, 0)))), some (.inl c9_), some (.inl is_), some (.inl od_), some (.inl vw_), none, none, none, none, none, none], [], S_) (fun ro9_ => ∃ u_ S1_, ro9_ = (.inl u_, S1_, 0) ∧ vq_97n ll_ S0_ u_ S1_)) ∧ (∀ (c9_ : Int) (is_ : Int) (od_ : Int) (vw_ : Int) (ox_ : Int) (tn_ : Int) (tb_ : Int) (sx_ : Int) (S_ : sm_S), gi S_ → ai_fr (sx_W vw_97n) S0_ S_ → ((0 ≤ c9_ ∧ c9_ < 12 ∧ ((is_ = 2 ∧ od_ = 2) ∨ (is_ = 3 ∧ od_ = 6)) ∧ 0 ≤ is_ ∧ is_ ≤ 3 ∧ 0 ≤ vw_ ∧ ((is_ = 2 ∧ vw_ < 8) ∨ (is_ = 3 ∧ vw_ < 48)) ∧ 0 ≤ ox_ ∧ ((is_ = 2 ∧ ox_ ≤ 1) ∨ (is_ = 3 ∧ ox_ ≤ 5)) ∧ 0 ≤ tn_ ∧ tn_ ≤ 7 ∧ 0 ≤ tb_ ∧ tb_ ≤ 255 ∧ 0 ≤ sx_ ∧ sx_ ≤ 8 ∧ sx_ ≤ i_shl 1 is_) ∧ (∀ c_ v_ : Nat, (c_ : Int) < c9_ → (2 ≤ S0_.2.2.1 55 (0 + ll_) c_) → v_ < wic (S0_.2.2.1 55 (0 + ll_) c_).toNat → vwd ll_ S0_ (S_.2.2.1 69 0) c_ v_) ∧ (is_ = S0_.2.2.1 55 (0 + ll_) c9_.toNat) ∧ (∀ v_ : Nat, (v_ : Int) < vw_ → vwd ll_ S0_ (S_.2.2.1 69 0) c9_.toNat v_) ∧ (ox_ = ((vw_.toNat / 2 ^ is_.toNat : Nat) : Int) ∧ tn_ = ((vw_.toNat % 2 ^ is_.toNat : Nat) : Int)) ∧ (tb_ = vwc (S0_.2.2.1 56 (0 + ll_) c9_.toNat) is_.toNat vw_.toNat sx_.toNat) ∧ True) → ((100000 * (20 - c9_) + 1000 * (60 - vw_) + 20 * (20 - sx_) + 19).toNat) < nn_ → sm_T (mt_P sc_) 1 97 (73, [some (.inr (.inr (some (6, 0)))), some (.inl c9_), some (.inl is_), some (.inl od_), some (.inl vw_), some (.inl ox_), some (.inl tn_), some (.inl tb_), some (.inl sx_), none, none], [], S_) (fun ro9_ => ∃ u_ S1_, ro9_ = (.inl u_, S1_, 0) ∧ vq_97n ll_ S0_ u_ S1_)) ∧ (∀ (c9_ : Int) (is_ : Int) (od_ : Int) (vw_ : Int) (ox_ : Int) (tn_ : Int) (tb_ : Int) (sx_ : Int) (st_ : Int) (k_ : Int) (S_ : sm_S), gi S_ → ai_fr (sx_W vw_97n) S0_ S_ → ((0 ≤ c9_ ∧ c9_ < 12 ∧ ((is_ = 2 ∧ od_ = 2) ∨ (is_ = 3 ∧ od_ = 6)) ∧ 0 ≤ is_ ∧ is_ ≤ 3 ∧ 0 ≤ vw_ ∧ ((is_ = 2 ∧ vw_ < 8) ∨ (is_ = 3 ∧ vw_ < 48)) ∧ 0 ≤ ox_ ∧ ((is_ = 2 ∧ ox_ ≤ 1) ∨ (is_ = 3 ∧ ox_ ≤ 5)) ∧ 0 ≤ tn_ ∧ tn_ ≤ 7 ∧ 0 ≤ tb_ ∧ tb_ ≤ 255 ∧ 0 ≤ sx_ ∧ sx_ ≤ 8 ∧ sx_ ≤ i_shl 1 is_ ∧ sx_ < 8 ∧ 0 ≤ st_ ∧ st_ ≤ 7 ∧ 0 ≤ k_ ∧ k_ ≤ 3 ∧ k_ ≤ is_ ∧ sx_ < i_shl 1 is_) ∧ (∀ c_ v_ : Nat, (c_ : Int) < c9_ → (2 ≤ S0_.2.2.1 55 (0 + ll_) c_) → v_ < wic (S0_.2.2.1 55 (0 + ll_) c_).toNat → vwd ll_ S0_ (S_.2.2.1 69 0) c_ v_) ∧ (is_ = S0_.2.2.1 55 (0 + ll_) c9_.toNat) ∧ (∀ v_ : Nat, (v_ : Int) < vw_ → vwd ll_ S0_ (S_.2.2.1 69 0) c9_.toNat v_) ∧ (ox_ = ((vw_.toNat / 2 ^ is_.toNat : Nat) : Int) ∧ tn_ = ((vw_.toNat % 2 ^ is_.toNat : Nat) : Int)) ∧ (tb_ = vwc (S0_.2.2.1 56 (0 + ll_) c9_.toNat) is_.toNat vw_.toNat sx_.toNat) ∧ (st_ = cse is_ ox_ tn_ sx_ k_.toNat) ∧ True) → ((100000 * (20 - c9_) + 1000 * (60 - vw_) + 20 * (20 - sx_) + 18 - k_).toNat) < nn_ → sm_T (mt_P sc_) 1 97 (88, [some (.inr (.inr (some (6, 0)))), some (.inl c9_), some (.inl is_), some (.inl od_), some (.inl vw_), some (.inl ox_), some (.inl tn_), some (.inl tb_), some (.inl sx_), some (.inl st_), some (.inl k_)], [], S_) (fun ro9_ => ∃ u_ S1_, ro9_ = (.inl u_, S1_, 0) ∧ vq_97n ll_ S0_ u_ S1_)) := by
  intro nn_
  induction nn_ with
  | zero => exact ⟨fun _ _ _ _ _ h_ => absurd h_ (Nat.not_lt_zero _), fun _ _ _ _ _ _ _ _ h_ => absurd h_ (Nat.not_lt_zero _), fun _ _ _ _ _ _ _ _ _ _ _ _ h_ => absurd h_ (Nat.not_lt_zero _), fun _ _ _ _ _ _ _ _ _ _ _ _ _ _ h_ => absurd h_ (Nat.not_lt_zero _)⟩
  | succ nn_ ih_ =>
    refine ⟨?_, ?_, ?_, ?_⟩
    · rintro c9_ S_ hI_ hF_ ⟨h0_, hq_, -⟩ hm_
      have f55_ : S_.2.2.1 55 (0 + ll_) = S0_.2.2.1 55 (0 + ll_) := fr_arr hF_ rfl
      have f56_ : S_.2.2.1 56 (0 + ll_) = S0_.2.2.1 56 (0 + ll_) := fr_arr hF_ rfl
      have fl1_ : S_.1 5 ll_ 1 = S0_.1 5 ll_ 1 := hF_.1 5 ll_ 1 rfl
      refine sm_T_go 2 (c1 := (4, [some (.inr (.inr (some (6, 0)))), some (.inl c9_), none, none, none, none, none, none, none, none, none], [.inr (.inr (some (6, 0))), .inl c9_], S_)) rfl ?_
      refine sm_T_gr rfl rfl ((hF_.2.1 6 0 1 rfl).trans hc_) ?_
      have bx1_ : 0 ≤ S_.1 5 ll_ 1 ∧ S_.1 5 ll_ 1 ≤ 12 := hI_.1 5 ll_ 1 rfl
      refine sm_T_go 1 (c1 := (10, [some (.inr (.inr (some (6, 0)))), some (.inl c9_), none, none, none, none, none, none, none, none, none], [.inl (S_.1 5 ll_ 1), .inl c9_], S_)) rfl ?_
      refine sm_T_br (a := 3) (z := 165) rfl (fun cx2_ => ?_) (fun cx2_ => ?_)
      · have cx2_ : (S_.1 5 ll_ 1) ≤ c9_ := of_decide_eq_true cx2_
        refine sm_T_rv rfl ⟨_, _, rfl, rfl, hI_, hF_, ?_⟩
        intro c_ v_ u_ w_ x_
        exact hq_ c_ v_ (by omega) w_ x_
      · have cx2_ : ¬ ((S_.1 5 ll_ 1) ≤ c9_) := of_decide_eq_false cx2_
        refine sm_T_go 1 (c1 := (14, [some (.inr (.inr (some (6, 0)))), some (.inl c9_), none, none, none, none, none, none, none, none, none], [.inr (.inr (some (6, 0)))], S_)) rfl ?_
        refine sm_T_gr rfl rfl ((hF_.2.1 6 0 1 rfl).trans hc_) ?_
        refine sm_T_go 2 (c1 := (21, [some (.inr (.inr (some (6, 0)))), some (.inl c9_), none, none, none, none, none, none, none, none, none], [.inl c9_, .inr (.inr (some (55, (0 + ll_))))], S_)) rfl ?_
        refine sm_T_iald (n := 12) rfl rfl (by omega) (by omega) ?_
        have bx3_ : 0 ≤ S_.2.2.1 55 (0 + ll_) c9_.toNat ∧ S_.2.2.1 55 (0 + ll_) c9_.toNat ≤ 3 := hI_.2 55 (0 + ll_) _
        refine sm_T_go 3 (c1 := (25, [some (.inr (.inr (some (6, 0)))), some (.inl c9_), some (.inl (S_.2.2.1 55 (0 + ll_) c9_.toNat)), none, none, none, none, none, none, none, none], [.inl 2, .inl (S_.2.2.1 55 (0 + ll_) c9_.toNat)], S_)) rfl ?_
        refine sm_T_br (a := 1) (z := 7) rfl (fun cx4_ => ?_) (fun cx4_ => ?_)
        · have cx4_ : (S_.2.2.1 55 (0 + ll_) c9_.toNat) ≠ 2 := of_decide_eq_true cx4_
          refine sm_T_go 4 (c1 := (38, [some (.inr (.inr (some (6, 0)))), some (.inl c9_), some (.inl (S_.2.2.1 55 (0 + ll_) c9_.toNat)), some (.inl 6), some (.inl 0), none, none, none, none, none, none], [], S_)) rfl ?_
          refine ih_.2.1 c9_ (S_.2.2.1 55 (0 + ll_) c9_.toNat) 6 0 S_ hI_ hF_ ⟨?_, ?_, ?_, ?_, trivial⟩ ?_
          · omega
          · exact hq_
          · (rw [f55_])
          · (intro v_ u_; exfalso; omega)
          · omega
        · have cx4_ : ¬ ((S_.2.2.1 55 (0 + ll_) c9_.toNat) ≠ 2) := of_decide_eq_false cx4_
          refine sm_T_go 5 (c1 := (38, [some (.inr (.inr (some (6, 0)))), some (.inl c9_), some (.inl (S_.2.2.1 55 (0 + ll_) c9_.toNat)), some (.inl 2), some (.inl 0), none, none, none, none, none, none], [], S_)) rfl ?_
          refine ih_.2.1 c9_ (S_.2.2.1 55 (0 + ll_) c9_.toNat) 2 0 S_ hI_ hF_ ⟨?_, ?_, ?_, ?_, trivial⟩ ?_
          · omega
          · exact hq_
          · (rw [f55_])
          · (intro v_ u_; exfalso; omega)
          · omega
    · rintro c9_ is_ od_ vw_ S_ hI_ hF_ ⟨h0_, hq_, hi9_, hv_, -⟩ hm_
      have f55_ : S_.2.2.1 55 (0 + ll_) = S0_.2.2.1 55 (0 + ll_) := fr_arr hF_ rfl
      have f56_ : S_.2.2.1 56 (0 + ll_) = S0_.2.2.1 56 (0 + ll_) := fr_arr hF_ rfl
      have fl1_ : S_.1 5 ll_ 1 = S0_.1 5 ll_ 1 := hF_.1 5 ll_ 1 rfl
      refine sm_T_go 2 (c1 := (40, [some (.inr (.inr (some (6, 0)))), some (.inl c9_), some (.inl is_), some (.inl od_), some (.inl vw_), none, none, none, none, none, none], [.inl 1, .inl is_], S_)) rfl ?_
      refine sm_T_br (a := 5) (z := 129) rfl (fun cx1_ => ?_) (fun cx1_ => ?_)
      · have cx1_ : is_ ≤ 1 := of_decide_eq_true cx1_
        refine sm_T_inc (a := 1) (z := 1) (v := c9_) (w := c9_ + 1) rfl rfl (by omega) (by omega) (by omega) ?_ -- pc_ 169
        refine sm_T_go 1 (c1 := (2, [some (.inr (.inr (some (6, 0)))), some (.inl (c9_ + 1)), some (.inl is_), some (.inl od_), some (.inl vw_), none, none, none, none, none, none], [], S_)) rfl ?_
        refine sm_T_wk [some (.inr (.inr (some (6, 0)))), some (.inl (c9_ + 1)), none, none, none, none, none, none, none, none, none] (by exact ⟨rfl, rfl, trivial⟩) ?_
        refine ih_.1 (c9_ + 1) S_ hI_ hF_ ⟨?_, ?_, trivial⟩ ?_
        · omega
        · intro c_ v_ u_ w_ x_
          by_cases z9_ : (c_ : Int) = c9_
          · rw [show c_ = c9_.toNat by omega] at w_ x_ ⊢
            refine hv_ v_ ?_
            rw [← hi9_] at w_ x_
            unfold wic at x_
            first | (exfalso; omega) | (rcases od9_ with od8_ | od8_; (rw [if_pos (show is_.toNat = 2 by omega)] at x_; omega); (rw [if_neg (show ¬ is_.toNat = 2 by omega)] at x_; omega))
          · exact hq_ c_ v_ (by omega) w_ x_
        · omega
      · have cx1_ : ¬ (is_ ≤ 1) := of_decide_eq_false cx1_
        have vp9_ := vpw (e_ := is_) (by omega)
        refine sm_T_go 3 (c1 := (47, [some (.inr (.inr (some (6, 0)))), some (.inl c9_), some (.inl is_), some (.inl od_), some (.inl vw_), none, none, none, none, none, none], [.inl is_, .inl od_, .inl vw_], S_)) rfl ?_
        refine sm_T_bin (w := (i_shl od_ is_)) rfl rfl ?_ -- pc_ 47
        have bx2_ : i_shl od_ is_ = 8 ∨ i_shl od_ is_ = 48 := by (rcases vp9_ with u9_ | u9_; (have w9_ : od_ = 2 := (by omega); rw [w9_]; left; exact u9_.2.2); (have w9_ : od_ = 6 := (by omega); rw [w9_]; right; exact u9_.2.2))
        have od9_ : (is_ = 2 ∧ i_shl od_ is_ = 8) ∨ (is_ = 3 ∧ i_shl od_ is_ = 48) := by (rcases vp9_ with u9_ | u9_; (have w9_ : od_ = 2 := (by omega); rw [w9_]; left; exact ⟨u9_.1, u9_.2.2⟩); (have w9_ : od_ = 6 := (by omega); rw [w9_]; right; exact ⟨u9_.1, u9_.2.2⟩))
        refine sm_T_br (a := 3) (z := 121) rfl (fun cx4_ => ?_) (fun cx4_ => ?_)
        · have cx4_ : (i_shl od_ is_) ≤ vw_ := of_decide_eq_true cx4_
          refine sm_T_inc (a := 1) (z := 1) (v := c9_) (w := c9_ + 1) rfl rfl (by omega) (by omega) (by omega) ?_ -- pc_ 169
          refine sm_T_go 1 (c1 := (2, [some (.inr (.inr (some (6, 0)))), some (.inl (c9_ + 1)), some (.inl is_), some (.inl od_), some (.inl vw_), none, none, none, none, none, none], [], S_)) rfl ?_
          refine sm_T_wk [some (.inr (.inr (some (6, 0)))), some (.inl (c9_ + 1)), none, none, none, none, none, none, none, none, none] (by exact ⟨rfl, rfl, trivial⟩) ?_
          refine ih_.1 (c9_ + 1) S_ hI_ hF_ ⟨?_, ?_, trivial⟩ ?_
          · omega
          · intro c_ v_ u_ w_ x_
            by_cases z9_ : (c_ : Int) = c9_
            · rw [show c_ = c9_.toNat by omega] at w_ x_ ⊢
              refine hv_ v_ ?_
              rw [← hi9_] at w_ x_
              unfold wic at x_
              first | (exfalso; omega) | (rcases od9_ with od8_ | od8_; (rw [if_pos (show is_.toNat = 2 by omega)] at x_; omega); (rw [if_neg (show ¬ is_.toNat = 2 by omega)] at x_; omega))
            · exact hq_ c_ v_ (by omega) w_ x_
          · omega
        · have cx4_ : ¬ ((i_shl od_ is_) ≤ vw_) := of_decide_eq_false cx4_
          have vo9_ := vor (v_ := vw_) (e_ := is_) (by omega) (by omega)
          refine sm_T_go 2 (c1 := (54, [some (.inr (.inr (some (6, 0)))), some (.inl c9_), some (.inl is_), some (.inl od_), some (.inl vw_), none, none, none, none, none, none], [.inl is_, .inl vw_], S_)) rfl ?_
          refine sm_T_bin (w := (i_shr vw_ is_)) rfl rfl ?_ -- pc_ 54
          refine sm_T_go 4 (c1 := (61, [some (.inr (.inr (some (6, 0)))), some (.inl c9_), some (.inl is_), some (.inl od_), some (.inl vw_), some (.inl (i_shr vw_ is_)), none, none, none, none, none], [.inl is_, .inl 1, .inl vw_], S_)) rfl ?_
          refine sm_T_bin (w := (i_shl 1 is_)) rfl rfl ?_ -- pc_ 61
          refine sm_T_go 1 (c1 := (63, [some (.inr (.inr (some (6, 0)))), some (.inl c9_), some (.inl is_), some (.inl od_), some (.inl vw_), some (.inl (i_shr vw_ is_)), none, none, none, none, none], [.inl 1, .inl (i_shl 1 is_), .inl vw_], S_)) rfl ?_
          refine sm_T_bin (w := (i_shl 1 is_) - 1) rfl (bi_sub (by omega) (by omega) (by omega)) ?_ -- pc_ 63
          refine sm_T_bin (w := (i_and vw_ ((i_shl 1 is_) - 1))) rfl rfl ?_ -- pc_ 64
          have bx5_ := i_and_y vw_ (y_ := ((i_shl 1 is_) - 1)) (by omega)
          refine sm_T_go 5 (c1 := (73, [some (.inr (.inr (some (6, 0)))), some (.inl c9_), some (.inl is_), some (.inl od_), some (.inl vw_), some (.inl (i_shr vw_ is_)), some (.inl (i_and vw_ ((i_shl 1 is_) - 1))), some (.inl 0), some (.inl 0), none, none], [], S_)) rfl ?_
          refine ih_.2.2.1 c9_ is_ od_ vw_ (i_shr vw_ is_) (i_and vw_ ((i_shl 1 is_) - 1)) 0 0 S_ hI_ hF_ ⟨?_, ?_, ?_, ?_, ?_, ?_, trivial⟩ ?_
          · omega
          · exact hq_
          · exact hi9_
          · exact hv_
          · exact vsp (by omega) (by omega)
          · rfl
          · omega
    · rintro c9_ is_ od_ vw_ ox_ tn_ tb_ sx_ S_ hI_ hF_ ⟨h0_, hq_, hi9_, hv_, hox_, htb_, -⟩ hm_
      have f55_ : S_.2.2.1 55 (0 + ll_) = S0_.2.2.1 55 (0 + ll_) := fr_arr hF_ rfl
      have f56_ : S_.2.2.1 56 (0 + ll_) = S0_.2.2.1 56 (0 + ll_) := fr_arr hF_ rfl
      have fl1_ : S_.1 5 ll_ 1 = S0_.1 5 ll_ 1 := hF_.1 5 ll_ 1 rfl
      refine sm_T_go 3 (c1 := (77, [some (.inr (.inr (some (6, 0)))), some (.inl c9_), some (.inl is_), some (.inl od_), some (.inl vw_), some (.inl ox_), some (.inl tn_), some (.inl tb_), some (.inl sx_), none, none], [.inl is_, .inl 1, .inl sx_], S_)) rfl ?_
      refine sm_T_bin (w := (i_shl 1 is_)) rfl rfl ?_ -- pc_ 77
      have vq9_ := vpw (e_ := is_) (by omega)
      refine sm_T_br (a := 3) (z := 71) rfl (fun cx2_ => ?_) (fun cx2_ => ?_)
      · have cx2_ : (i_shl 1 is_) ≤ sx_ := of_decide_eq_true cx2_
        refine sm_T_go 4 (c1 := (156, [some (.inr (.inr (some (6, 0)))), some (.inl c9_), some (.inl is_), some (.inl od_), some (.inl vw_), some (.inl ox_), some (.inl tn_), some (.inl tb_), some (.inl sx_), none, none], [.inl 48, .inl c9_, .inr (.inr (some (69, 0)))], S_)) rfl ?_
        refine sm_T_bin (w := 48 * c9_) rfl (bi_mul (by omega) (by omega) (by omega)) ?_ -- pc_ 156
        refine sm_T_go 1 (c1 := (159, [some (.inr (.inr (some (6, 0)))), some (.inl c9_), some (.inl is_), some (.inl od_), some (.inl vw_), some (.inl ox_), some (.inl tn_), some (.inl tb_), some (.inl sx_), none, none], [.inl vw_, .inl (48 * c9_), .inr (.inr (some (69, 0)))], S_)) rfl ?_
        refine sm_T_bin (w := 48 * c9_ + vw_) rfl (bi_add (by omega) (by omega) (by omega)) ?_ -- pc_ 159
        refine sm_T_go 1 (c1 := (162, [some (.inr (.inr (some (6, 0)))), some (.inl c9_), some (.inl is_), some (.inl od_), some (.inl vw_), some (.inl ox_), some (.inl tn_), some (.inl tb_), some (.inl sx_), none, none], [.inl tb_, .inl (48 * c9_ + vw_), .inr (.inr (some (69, 0)))], S_)) rfl ?_
        refine sm_T_iast (n := 576) rfl rfl (by omega) (by omega) ?_
        have hIx3_ : gi (sm_aI S_ 69 0 (48 * c9_ + vw_).toNat tb_) := gi_aI hI_ (show 0 ≤ tb_ ∧ tb_ ≤ 255 from ⟨by omega, by omega⟩)
        have hFx4_ : ai_fr (sx_W vw_97n) S0_ (sm_aI S_ 69 0 (48 * c9_ + vw_).toNat tb_) := ai_fr_tr hF_ (ai_fr_aI rfl)
        refine sm_T_inc (a := 4) (z := 1) (v := vw_) (w := vw_ + 1) rfl rfl (by omega) (by omega) (by omega) ?_ -- pc_ 163
        refine sm_T_go 1 (c1 := (38, [some (.inr (.inr (some (6, 0)))), some (.inl c9_), some (.inl is_), some (.inl od_), some (.inl (vw_ + 1)), some (.inl ox_), some (.inl tn_), some (.inl tb_), some (.inl sx_), none, none], [], sm_aI S_ 69 0 (48 * c9_ + vw_).toNat tb_)) rfl ?_
        refine sm_T_wk [some (.inr (.inr (some (6, 0)))), some (.inl c9_), some (.inl is_), some (.inl od_), some (.inl (vw_ + 1)), none, none, none, none, none, none] (by exact ⟨rfl, rfl, rfl, rfl, rfl, trivial⟩) ?_
        refine ih_.2.1 c9_ is_ od_ (vw_ + 1) (sm_aI S_ 69 0 (48 * c9_ + vw_).toNat tb_) hIx3_ hFx4_ ⟨?_, ?_, ?_, ?_, trivial⟩ ?_
        · omega
        · intro c_ v_ u_ w_ x_
          exact vwd_w (hq_ c_ v_ u_ w_ x_) (fun j_ => rd_eq) (by (unfold wic at x_; split at x_ <;> omega))
        · exact hi9_
        · intro v_ u_
          by_cases z9_ : (v_ : Int) = vw_
          · unfold vwd
            rw [rd_eq, if_pos (by omega), show v_ = vw_.toNat by omega, htb_, ← hi9_]
            have w9_ := shl_1 (e_ := is_) (by omega)
            have q9_ : sx_ = i_shl 1 is_ := by omega
            rw [w9_] at q9_
            rw [show sx_.toNat = 2 ^ is_.toNat from by rw [q9_, Int.toNat_natCast]]
          · exact vwd_w (hv_ v_ (by omega)) (fun j_ => rd_eq) (by omega)
        · omega
      · have cx2_ : ¬ ((i_shl 1 is_) ≤ sx_) := of_decide_eq_false cx2_
        refine sm_T_go 4 (c1 := (88, [some (.inr (.inr (some (6, 0)))), some (.inl c9_), some (.inl is_), some (.inl od_), some (.inl vw_), some (.inl ox_), some (.inl tn_), some (.inl tb_), some (.inl sx_), some (.inl tn_), some (.inl 0)], [], S_)) rfl ?_
        refine ih_.2.2.2 c9_ is_ od_ vw_ ox_ tn_ tb_ sx_ tn_ 0 S_ hI_ hF_ ⟨?_, ?_, ?_, ?_, ?_, ?_, ?_, trivial⟩ ?_
        · omega
        · exact hq_
        · exact hi9_
        · exact hv_
        · exact hox_
        · exact htb_
        · rfl
        · omega
    · rintro c9_ is_ od_ vw_ ox_ tn_ tb_ sx_ st_ k_ S_ hI_ hF_ ⟨h0_, hq_, hi9_, hv_, hox_, htb_, hst_, -⟩ hm_
      have f55_ : S_.2.2.1 55 (0 + ll_) = S0_.2.2.1 55 (0 + ll_) := fr_arr hF_ rfl
      have f56_ : S_.2.2.1 56 (0 + ll_) = S0_.2.2.1 56 (0 + ll_) := fr_arr hF_ rfl
      have fl1_ : S_.1 5 ll_ 1 = S0_.1 5 ll_ 1 := hF_.1 5 ll_ 1 rfl
      refine sm_T_go 2 (c1 := (91, [some (.inr (.inr (some (6, 0)))), some (.inl c9_), some (.inl is_), some (.inl od_), some (.inl vw_), some (.inl ox_), some (.inl tn_), some (.inl tb_), some (.inl sx_), some (.inl st_), some (.inl k_)], [.inl is_, .inl k_], S_)) rfl ?_
      refine sm_T_br (a := 3) (z := 30) rfl (fun cx1_ => ?_) (fun cx1_ => ?_)
      · have cx1_ : is_ ≤ k_ := of_decide_eq_true cx1_
        refine sm_T_go 2 (c1 := (124, [some (.inr (.inr (some (6, 0)))), some (.inl c9_), some (.inl is_), some (.inl od_), some (.inl vw_), some (.inl ox_), some (.inl tn_), some (.inl tb_), some (.inl sx_), some (.inl st_), some (.inl k_)], [.inr (.inr (some (6, 0))), .inl tb_], S_)) rfl ?_
        refine sm_T_gr rfl rfl ((hF_.2.1 6 0 1 rfl).trans hc_) ?_
        refine sm_T_go 2 (c1 := (131, [some (.inr (.inr (some (6, 0)))), some (.inl c9_), some (.inl is_), some (.inl od_), some (.inl vw_), some (.inl ox_), some (.inl tn_), some (.inl tb_), some (.inl sx_), some (.inl st_), some (.inl k_)], [.inl c9_, .inr (.inr (some (56, (0 + ll_)))), .inl tb_], S_)) rfl ?_
        refine sm_T_iald (n := 12) rfl rfl (by omega) (by omega) ?_
        have bx2_ : 0 ≤ S_.2.2.1 56 (0 + ll_) c9_.toNat ∧ S_.2.2.1 56 (0 + ll_) c9_.toNat ≤ 255 := hI_.2 56 (0 + ll_) _
        refine sm_T_go 1 (c1 := (134, [some (.inr (.inr (some (6, 0)))), some (.inl c9_), some (.inl is_), some (.inl od_), some (.inl vw_), some (.inl ox_), some (.inl tn_), some (.inl tb_), some (.inl sx_), some (.inl st_), some (.inl k_)], [.inl st_, .inl (S_.2.2.1 56 (0 + ll_) c9_.toNat), .inl tb_], S_)) rfl ?_
        refine sm_T_bin (w := (i_shr (S_.2.2.1 56 (0 + ll_) c9_.toNat) st_)) rfl rfl ?_ -- pc_ 134
        have bx3_ := i_shr_p (x_ := (S_.2.2.1 56 (0 + ll_) c9_.toNat)) (e_ := st_) (by omega) (by omega) (by omega)
        refine sm_T_go 1 (c1 := (136, [some (.inr (.inr (some (6, 0)))), some (.inl c9_), some (.inl is_), some (.inl od_), some (.inl vw_), some (.inl ox_), some (.inl tn_), some (.inl tb_), some (.inl sx_), some (.inl st_), some (.inl k_)], [.inl 1, .inl (i_shr (S_.2.2.1 56 (0 + ll_) c9_.toNat) st_), .inl tb_], S_)) rfl ?_
        refine sm_T_bin (w := ((i_shr (S_.2.2.1 56 (0 + ll_) c9_.toNat) st_) % 2)) rfl (bi_msk (k := 1) (by decide)) ?_ -- pc_ 136
        refine sm_T_go 1 (c1 := (139, [some (.inr (.inr (some (6, 0)))), some (.inl c9_), some (.inl is_), some (.inl od_), some (.inl vw_), some (.inl ox_), some (.inl tn_), some (.inl tb_), some (.inl sx_), some (.inl st_), some (.inl k_)], [.inl sx_, .inl ((i_shr (S_.2.2.1 56 (0 + ll_) c9_.toNat) st_) % 2), .inl tb_], S_)) rfl ?_
        refine sm_T_bin (w := (i_shl ((i_shr (S_.2.2.1 56 (0 + ll_) c9_.toNat) st_) % 2) sx_)) rfl rfl ?_ -- pc_ 139
        have bx4_ := bsh (x_ := ((i_shr (S_.2.2.1 56 (0 + ll_) c9_.toNat) st_) % 2)) (e_ := sx_) (k_ := 8) (by omega) (by omega) (by omega) (by decide)
        refine sm_T_bin (w := (i_or tb_ (i_shl ((i_shr (S_.2.2.1 56 (0 + ll_) c9_.toNat) st_) % 2) sx_))) rfl rfl ?_ -- pc_ 140
        have bx5_ := i_orp (x_ := tb_) (y_ := (i_shl ((i_shr (S_.2.2.1 56 (0 + ll_) c9_.toNat) st_) % 2) sx_)) (k_ := 8) (by decide) (by omega) (by omega)
        refine sm_T_go 1 (c1 := (143, [some (.inr (.inr (some (6, 0)))), some (.inl c9_), some (.inl is_), some (.inl od_), some (.inl vw_), some (.inl ox_), some (.inl tn_), some (.inl (i_or tb_ (i_shl ((i_shr (S_.2.2.1 56 (0 + ll_) c9_.toNat) st_) % 2) sx_))), some (.inl sx_), some (.inl st_), some (.inl k_)], [], S_)) rfl ?_
        refine sm_T_inc (a := 8) (z := 1) (v := sx_) (w := sx_ + 1) rfl rfl (by omega) (by omega) (by omega) ?_ -- pc_ 143
        refine sm_T_go 1 (c1 := (73, [some (.inr (.inr (some (6, 0)))), some (.inl c9_), some (.inl is_), some (.inl od_), some (.inl vw_), some (.inl ox_), some (.inl tn_), some (.inl (i_or tb_ (i_shl ((i_shr (S_.2.2.1 56 (0 + ll_) c9_.toNat) st_) % 2) sx_))), some (.inl (sx_ + 1)), some (.inl st_), some (.inl k_)], [], S_)) rfl ?_
        refine sm_T_wk [some (.inr (.inr (some (6, 0)))), some (.inl c9_), some (.inl is_), some (.inl od_), some (.inl vw_), some (.inl ox_), some (.inl tn_), some (.inl (i_or tb_ (i_shl ((i_shr (S_.2.2.1 56 (0 + ll_) c9_.toNat) st_) % 2) sx_))), some (.inl (sx_ + 1)), none, none] (by exact ⟨rfl, rfl, rfl, rfl, rfl, rfl, rfl, rfl, rfl, trivial⟩) ?_
        refine ih_.2.2.1 c9_ is_ od_ vw_ ox_ tn_ (i_or tb_ (i_shl ((i_shr (S_.2.2.1 56 (0 + ll_) c9_.toNat) st_) % 2) sx_)) (sx_ + 1) S_ hI_ hF_ ⟨?_, ?_, ?_, ?_, ?_, ?_, trivial⟩ ?_
        · omega
        · exact hq_
        · exact hi9_
        · exact hv_
        · exact hox_
        · rw [show (sx_ + 1).toNat = sx_.toNat + 1 by omega]
          unfold vwc at htb_ ⊢
          have z9_ : st_ = cse ((is_.toNat : Nat) : Int) ((vw_.toNat / 2 ^ is_.toNat : Nat) : Int) ((vw_.toNat % 2 ^ is_.toNat : Nat) : Int) ((sx_.toNat : Nat) : Int) is_.toNat := by (rw [← hox_.1, ← hox_.2, show ((is_.toNat : Nat) : Int) = is_ by omega, show ((sx_.toNat : Nat) : Int) = sx_ by omega, hst_, show k_.toNat = is_.toNat by omega])
          have y9_ := tbv_orb (f_ := fun s_ => decide (i_shr (S0_.2.2.1 56 (0 + ll_) c9_.toNat) (cse ((is_.toNat : Nat) : Int) ((vw_.toNat / 2 ^ is_.toNat : Nat) : Int) ((vw_.toNat % 2 ^ is_.toNat : Nat) : Int) (s_ : Int) is_.toNat) % 2 = 1)) (k_ := sx_.toNat) (x_ := i_shr (S0_.2.2.1 56 (0 + ll_) c9_.toNat) st_) (by omega) (by (rw [z9_]))
          rw [show ((sx_.toNat : Nat) : Int) = sx_ by omega, ← htb_] at y9_
          rw [f56_]
          exact y9_
        · omega
      · have cx1_ : ¬ (is_ ≤ k_) := of_decide_eq_false cx1_
        refine sm_T_go 5 (c1 := (103, [some (.inr (.inr (some (6, 0)))), some (.inl c9_), some (.inl is_), some (.inl od_), some (.inl vw_), some (.inl ox_), some (.inl tn_), some (.inl tb_), some (.inl sx_), some (.inl st_), some (.inl k_)], [.inl k_, .inl ox_, .inl is_, .inl sx_, .inl st_], S_)) rfl ?_
        refine sm_T_cal (d1 := 0) (Q1 := vq_98 is_ ox_ k_ S_) rfl rfl (by decide) (vc_98 is_ ox_ k_ S_ hI_ (by omega)) (fun u_ Sx6_ px9_ => ?_)
        obtain ⟨rfl, vx11_, rfl, px9_⟩ := px9_
        have pl9_ := px9_.1
        have pl8_ : vx11_ = plo is_ ox_ k_ := px9_.2
        refine sm_T_bin (w := (i_shr sx_ vx11_)) rfl rfl ?_ -- pc_ 106
        have bx12_ := i_shr_p (x_ := sx_) (e_ := vx11_) (by omega) (by omega) (by omega)
        refine sm_T_go 1 (c1 := (108, [some (.inr (.inr (some (6, 0)))), some (.inl c9_), some (.inl is_), some (.inl od_), some (.inl vw_), some (.inl ox_), some (.inl tn_), some (.inl tb_), some (.inl sx_), some (.inl st_), some (.inl k_)], [.inl 1, .inl (i_shr sx_ vx11_), .inl st_], S_)) rfl ?_
        refine sm_T_bin (w := ((i_shr sx_ vx11_) % 2)) rfl (bi_msk (k := 1) (by decide)) ?_ -- pc_ 108
        refine sm_T_go 1 (c1 := (111, [some (.inr (.inr (some (6, 0)))), some (.inl c9_), some (.inl is_), some (.inl od_), some (.inl vw_), some (.inl ox_), some (.inl tn_), some (.inl tb_), some (.inl sx_), some (.inl st_), some (.inl k_)], [.inl k_, .inl ((i_shr sx_ vx11_) % 2), .inl st_], S_)) rfl ?_
        refine sm_T_bin (w := (i_shl ((i_shr sx_ vx11_) % 2) k_)) rfl rfl ?_ -- pc_ 111
        have bx13_ := vsh (x_ := ((i_shr sx_ vx11_) % 2)) (k_ := k_) (by omega) (by omega)
        refine sm_T_bin (w := (i_xor st_ (i_shl ((i_shr sx_ vx11_) % 2) k_))) rfl rfl ?_ -- pc_ 112
        have bx14_ := i_xrp (x_ := st_) (y_ := (i_shl ((i_shr sx_ vx11_) % 2) k_)) (k_ := 3) (by decide) (by omega) (by omega)
        refine sm_T_go 1 (c1 := (115, [some (.inr (.inr (some (6, 0)))), some (.inl c9_), some (.inl is_), some (.inl od_), some (.inl vw_), some (.inl ox_), some (.inl tn_), some (.inl tb_), some (.inl sx_), some (.inl (i_xor st_ (i_shl ((i_shr sx_ vx11_) % 2) k_))), some (.inl k_)], [], S_)) rfl ?_
        refine sm_T_inc (a := 10) (z := 1) (v := k_) (w := k_ + 1) rfl rfl (by omega) (by omega) (by omega) ?_ -- pc_ 115
        refine sm_T_go 1 (c1 := (88, [some (.inr (.inr (some (6, 0)))), some (.inl c9_), some (.inl is_), some (.inl od_), some (.inl vw_), some (.inl ox_), some (.inl tn_), some (.inl tb_), some (.inl sx_), some (.inl (i_xor st_ (i_shl ((i_shr sx_ vx11_) % 2) k_))), some (.inl (k_ + 1))], [], S_)) rfl ?_
        refine ih_.2.2.2 c9_ is_ od_ vw_ ox_ tn_ tb_ sx_ (i_xor st_ (i_shl ((i_shr sx_ vx11_) % 2) k_)) (k_ + 1) S_ hI_ hF_ ⟨?_, ?_, ?_, ?_, ?_, ?_, ?_, trivial⟩ ?_
        · omega
        · exact hq_
        · exact hi9_
        · exact hv_
        · exact hox_
        · exact htb_
        · rw [show (k_ + 1).toNat = k_.toNat + 1 by omega]
          show _ = i_xor (cse is_ ox_ tn_ sx_ k_.toNat) (i_shl (i_shr sx_ (plo is_ ox_ ((k_.toNat : Nat) : Int)) % 2) ((k_.toNat : Nat) : Int))
          rw [show ((k_.toNat : Nat) : Int) = k_ by omega, ← hst_, ← pl8_]
        · omega
set_option maxHeartbeats 4000000 in
set_option maxRecDepth 20000 in
theorem vc_97n {sc_ : Nat × (Nat → Int)} (ll_ : Nat) (S0_ : sm_S) (hI_ : gi S0_) (hc_ : S0_.2.1 6 0 1 = some ll_) : sm_T (mt_P sc_) 1 97 (0, [some (.inr (.inr (some (6, 0)))), none, none, none, none, none, none, none, none, none, none], [], S0_) (fun ro9_ => ∃ u_ S1_, ro9_ = (.inl u_, S1_, 0) ∧ vq_97n ll_ S0_ u_ S1_) := by
  have hF_ : ai_fr (sx_W vw_97n) S0_ S0_ := ai_fr_rf
  refine sm_T_go 2 (c1 := (2, [some (.inr (.inr (some (6, 0)))), some (.inl 0), none, none, none, none, none, none, none, none, none], [], S0_)) rfl ?_
  refine (vl_97n ll_ S0_ hc_ _).1 0 S0_ hI_ hF_ ⟨?_, ?_, trivial⟩ (Nat.lt_succ_self _)
  · omega
  · (intro c_ v_ u_; exfalso; omega)
end
