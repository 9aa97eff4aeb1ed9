/-! the reference: designs and libraries read; written by wip/p55/gen/vg -/

/-! the_ reference: designs and libraries read -/
theorem rdf_sl {a_ d_ : Nat} {S_ S'_ : sm_S} (g_ : rdf a_ S_ S'_) (h_ : d_ ≠ a_) (t_ : Nat) (h1_ : 153 ≤ t_) (h2_ : t_ < 171) (j_ : Nat) (j0_ : rds t_ * d_ ≤ j_) (j1_ : j_ < rds t_ * d_ + rds t_) : S'_.2.2.1 t_ 0 j_ = S_.2.2.1 t_ 0 j_ := g_ t_ h2_ h1_ j_ (by
  rcases Nat.lt_or_gt_of_ne h_ with z_ | z_
  · left
    have := Nat.mul_le_mul_left (rds t_) (show d_ + 1 ≤ a_ by omega)
    rw [Nat.mul_add] at this
    omega
  · right
    have := Nat.mul_le_mul_left (rds t_) (show a_ + 1 ≤ d_ by omega)
    rw [Nat.mul_add] at this
    omega)
theorem dRk_rd {a_ d_ : Nat} {S_ S'_ : sm_S} (h_ : dRk d_ S_) (g_ : rdf a_ S_ S'_) (hd_ : d_ ≠ a_) : dRk d_ S'_ := by
  have q_ : ∀ t_, 153 ≤ t_ → t_ < 171 → rds t_ = 1 → S'_.2.2.1 t_ 0 d_ = S_.2.2.1 t_ 0 d_ := fun t_ h1_ h2_ e_ => rdf_sl g_ hd_ t_ h1_ h2_ d_ (by rw [e_]; omega) (by rw [e_]; omega)
  have w_ : ∀ t_, 164 ≤ t_ → t_ < 167 → ∀ k_, k_ < 2048 → S'_.2.2.1 t_ 0 (2048 * d_ + k_) = S_.2.2.1 t_ 0 (2048 * d_ + k_) := fun t_ h1_ h2_ k_ hk_ => by
    have e_ : rds t_ = 2048 := by
      unfold rds
      rw [if_neg (by omega), if_pos (by omega)]
    exact rdf_sl g_ hd_ t_ (by omega) (by omega) _ (by rw [e_]; omega) (by rw [e_]; omega)
  obtain ⟨F_, I_, R_, N_, k1_, k2_, k3_, k4_, k5_, k6_, k7_, k8_⟩ := h_
  refine ⟨F_, I_, R_, N_, ?_, fun k_ a_ b_ => ?_, ⟨?_, fun m_ hm_ => ?_⟩, fun k_ hk_ => ?_, fun k_ hk_ => ?_, ?_, ?_, fun p_ hp_ => ?_⟩
  · rw [q_ 154 (by decide) (by decide) rfl, q_ 155 (by decide) (by decide) rfl, q_ 156 (by decide) (by decide) rfl, q_ 159 (by decide) (by decide) rfl, q_ 160 (by decide) (by decide) rfl]
    exact k1_
  · have z_ := k2_ k_ a_ b_
    show 2 ≤ S'_.2.2.1 164 0 (2048 * d_ + k_) ∧ S'_.2.2.1 164 0 (2048 * d_ + k_) < S'_.2.2.1 165 0 (2048 * d_ + k_) ∧ S'_.2.2.1 165 0 (2048 * d_ + k_) < 2 * (k_ : Int)
    rw [w_ 164 (by decide) (by decide) k_ (by omega), w_ 165 (by decide) (by decide) k_ (by omega)]
    exact z_
  · have y_ := w_ 166 (by decide) (by decide) 0 (by decide)
    rw [Nat.add_zero] at y_
    rw [y_]
    exact k3_.1
  · exact sfo_ap (n_ := N_) (fun a_ => k2_ m_ a_ hm_) hm_ (k3_.2 m_ hm_) (fun k_ hk_ => w_ 164 (by decide) (by decide) k_ (by omega)) (fun k_ hk_ => w_ 165 (by decide) (by decide) k_ (by omega)) (fun k_ hk_ => w_ 166 (by decide) (by decide) k_ (by omega))
  · rw [q_ 156 (by decide) (by decide) rfl] at hk_
    rw [rdf_sl g_ hd_ 167 (by decide) (by decide) (16 * d_ + k_) (by rw [show rds 167 = 16 from rfl]; omega) (by rw [show rds 167 = 16 from rfl]; omega)]
    exact k4_ k_ hk_
  · rw [rdf_sl g_ hd_ 168 (by decide) (by decide) (6 * d_ + k_) (by rw [show rds 168 = 6 from rfl]; omega) (by rw [show rds 168 = 6 from rfl]; omega)]
    exact k5_ k_ hk_
  · rw [q_ 157 (by decide) (by decide) rfl]
    exact k6_
  · rw [q_ 158 (by decide) (by decide) rfl]
    exact k7_
  · have l_ : 2 ^ (I_ + R_) ≤ 2 ^ 12 := Nat.pow_le_pow_right (by decide) (by omega)
    have l2_ : 2 ^ 12 = 4096 := by decide
    rw [rdf_sl g_ hd_ 170 (by decide) (by decide) (4096 * d_ + p_) (by rw [show rds 170 = 4096 from rfl]; omega) (by rw [show rds 170 = 4096 from rfl]; omega)]
    exact k8_ p_ hp_
theorem jR_de {b_ : Nat → Int} {n_ : Nat} {S0_ S1_ : sm_S} {u_ : Option sm_V} (hJ_ : jR S0_) (q_ : vq_363 b_ n_ S0_ u_ S1_) : jR S1_ := by
  obtain ⟨v_, -, hI_, f_, h_⟩ := q_
  refine ⟨fun d_ hd_ z_ => ?_, rcAll_fr hJ_.2 hI_ f_ rfl⟩
  have k_ : ∀ a_, rdf a_ S0_ S1_ → d_ ≠ a_ → dRk d_ S1_ := fun a_ g_ e_ => by
    rw [rdf_sl g_ e_ 153 (by decide) (by decide) d_ (by rw [show rds 153 = 1 from rfl]; omega) (by rw [show rds 153 = 1 from rfl]; omega)] at z_
    exact dRk_rd (hJ_.1 d_ hd_ z_) g_ e_
  rcases h_ with ⟨-, -, -, g_⟩ | ⟨-, s_, hs_, -, -, -, g_, h_⟩
  · exact k_ 6 g_ (by omega)
  · by_cases e_ : d_ = s_
    · subst e_
      rcases h_ with h_ | h_
      · exact h_.2.2
      · rw [h_.2] at z_
        exact absurd z_ (by decide)
    · exact k_ s_ g_ e_
theorem jR_li {b_ : Nat → Int} {n_ : Nat} {S0_ S1_ : sm_S} {u_ : Option sm_V} (hJ_ : jR S0_) (q_ : vq_367 b_ n_ S0_ u_ S1_) : jR S1_ := by
  obtain ⟨v_, -, hI_, f_, -⟩ := q_
  exact jR_fr hJ_ hI_ f_ rfl rfl
