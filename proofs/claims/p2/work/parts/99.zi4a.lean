/-! the reference keeps a design; written by wip/p55/gen/vg -/

/-! the_ reference keeps a_ design -/
def rds (t_ : Nat) : Nat := if t_ ≤ 163 then 1 else if t_ ≤ 166 then 2048 else if t_ = 167 then 16 else if t_ = 168 then 6 else 4096
/-- the_ other designs stay as_ they were -/
def rdf (d_ : Nat) (S_ S'_ : sm_S) : Prop := ∀ t_, t_ < 171 → 153 ≤ t_ → ∀ j_, (j_ < rds t_ * d_ ∨ rds t_ * d_ + rds t_ ≤ j_) → S'_.2.2.1 t_ 0 j_ = S_.2.2.1 t_ 0 j_
theorem rdf_rf {d_ : Nat} {S_ : sm_S} : rdf d_ S_ S_ := fun _ _ _ _ _ => rfl
theorem rdf_tr {d_ : Nat} {S_ S'_ S2_ : sm_S} (h_ : rdf d_ S_ S'_) (g_ : rdf d_ S'_ S2_) : rdf d_ S_ S2_ := fun t_ h1_ h2_ j_ hj_ => (g_ t_ h1_ h2_ j_ hj_).trans (h_ t_ h1_ h2_ j_ hj_)
theorem rdf_fr {w_ : sx_Wl} {d_ : Nat} {S_ S'_ : sm_S} (g_ : ai_fr (sx_W w_) S_ S'_) (h_ : ∀ t_, t_ < 171 → 153 ≤ t_ → (sx_W w_).2.1 t_ = false) : rdf d_ S_ S'_ := fun t_ h1_ h2_ j_ _ => congrFun (fr_arr g_ (h_ t_ h1_ h2_)) j_
theorem rdf_aI {d_ t_ k_ : Nat} {S_ S'_ : sm_S} {v_ : Int} (h_ : rdf d_ S_ S'_) (g_ : (t_ < 153 ∨ 170 < t_) ∨ (rds t_ * d_ ≤ k_ ∧ k_ < rds t_ * d_ + rds t_)) : rdf d_ S_ (sm_aI S'_ t_ 0 k_ v_) := fun t1_ h1_ h2_ j_ hj_ => by
  rw [rd_aa, if_neg (by
    rintro ⟨q1_, -, q3_⟩
    rcases g_ with g_ | g_
    · omega
    · rw [q1_] at hj_; omega)]
  exact h_ t1_ h1_ h2_ j_ hj_
/-- how_ far_ a_ design is_ kept -/
def kdB (dd_ F_ : Nat) (I_ o_ bg_ : Int) (R_ n_ k1_ k2_ p_ : Nat) (S_ : sm_S) : Prop := (S_.2.2.1 153 0 dd_ = 1 ∧ S_.2.2.1 154 0 dd_ = I_ ∧ S_.2.2.1 155 0 dd_ = (R_ : Int) ∧ S_.2.2.1 156 0 dd_ = o_ ∧ S_.2.2.1 157 0 dd_ = bg_ ∧ S_.2.2.1 158 0 dd_ = bg_ ∧ S_.2.2.1 159 0 dd_ = S_.1 13 0 37 ∧ S_.2.2.1 160 0 dd_ = (F_ : Int)) ∧ (rgr F_ S_ ∧ rsw F_ S_ ∧ rrt o_ S_ ∧ S_.1 13 0 53 = (R_ : Int)) ∧ (∀ j_, j_ < n_ → S_.2.2.1 164 0 (2048 * dd_ + j_) = S_.2.2.1 140 0 j_ ∧ S_.2.2.1 165 0 (2048 * dd_ + j_) = S_.2.2.1 141 0 j_ ∧ S_.2.2.1 166 0 (2048 * dd_ + j_) = S_.2.2.1 172 0 j_) ∧ (∀ j_, j_ < k1_ → S_.2.2.1 167 0 (16 * dd_ + j_) = S_.2.2.1 175 0 j_) ∧ (∀ j_, j_ < k2_ → S_.2.2.1 168 0 (6 * dd_ + j_) = S_.2.2.1 151 0 j_) ∧ ∀ j_, j_ < p_ → 0 ≤ S_.2.2.1 170 0 (4096 * dd_ + j_) ∧ S_.2.2.1 170 0 (4096 * dd_ + j_) < 2 ^ R_
theorem kd8 {S_ : sm_S} {d_ : Nat} {v0_ v1_ v2_ v3_ v4_ v5_ v6_ v7_ : Int} : ((sm_aI (sm_aI (sm_aI (sm_aI (sm_aI (sm_aI (sm_aI (sm_aI S_ 153 0 d_ v0_) 154 0 d_ v1_) 155 0 d_ v2_) 156 0 d_ v3_) 157 0 d_ v4_) 158 0 d_ v5_) 159 0 d_ v6_) 160 0 d_ v7_).2.2.1 153 0 d_ = v0_ ∧ (sm_aI (sm_aI (sm_aI (sm_aI (sm_aI (sm_aI (sm_aI (sm_aI S_ 153 0 d_ v0_) 154 0 d_ v1_) 155 0 d_ v2_) 156 0 d_ v3_) 157 0 d_ v4_) 158 0 d_ v5_) 159 0 d_ v6_) 160 0 d_ v7_).2.2.1 154 0 d_ = v1_ ∧ (sm_aI (sm_aI (sm_aI (sm_aI (sm_aI (sm_aI (sm_aI (sm_aI S_ 153 0 d_ v0_) 154 0 d_ v1_) 155 0 d_ v2_) 156 0 d_ v3_) 157 0 d_ v4_) 158 0 d_ v5_) 159 0 d_ v6_) 160 0 d_ v7_).2.2.1 155 0 d_ = v2_ ∧ (sm_aI (sm_aI (sm_aI (sm_aI (sm_aI (sm_aI (sm_aI (sm_aI S_ 153 0 d_ v0_) 154 0 d_ v1_) 155 0 d_ v2_) 156 0 d_ v3_) 157 0 d_ v4_) 158 0 d_ v5_) 159 0 d_ v6_) 160 0 d_ v7_).2.2.1 156 0 d_ = v3_ ∧ (sm_aI (sm_aI (sm_aI (sm_aI (sm_aI (sm_aI (sm_aI (sm_aI S_ 153 0 d_ v0_) 154 0 d_ v1_) 155 0 d_ v2_) 156 0 d_ v3_) 157 0 d_ v4_) 158 0 d_ v5_) 159 0 d_ v6_) 160 0 d_ v7_).2.2.1 157 0 d_ = v4_ ∧ (sm_aI (sm_aI (sm_aI (sm_aI (sm_aI (sm_aI (sm_aI (sm_aI S_ 153 0 d_ v0_) 154 0 d_ v1_) 155 0 d_ v2_) 156 0 d_ v3_) 157 0 d_ v4_) 158 0 d_ v5_) 159 0 d_ v6_) 160 0 d_ v7_).2.2.1 158 0 d_ = v5_ ∧ (sm_aI (sm_aI (sm_aI (sm_aI (sm_aI (sm_aI (sm_aI (sm_aI S_ 153 0 d_ v0_) 154 0 d_ v1_) 155 0 d_ v2_) 156 0 d_ v3_) 157 0 d_ v4_) 158 0 d_ v5_) 159 0 d_ v6_) 160 0 d_ v7_).2.2.1 159 0 d_ = v6_ ∧ (sm_aI (sm_aI (sm_aI (sm_aI (sm_aI (sm_aI (sm_aI (sm_aI S_ 153 0 d_ v0_) 154 0 d_ v1_) 155 0 d_ v2_) 156 0 d_ v3_) 157 0 d_ v4_) 158 0 d_ v5_) 159 0 d_ v6_) 160 0 d_ v7_).2.2.1 160 0 d_ = v7_) ∧ ai_fr (sx_W ([], [153, 154, 155, 156, 157, 158, 159, 160], [])) S_ (sm_aI (sm_aI (sm_aI (sm_aI (sm_aI (sm_aI (sm_aI (sm_aI S_ 153 0 d_ v0_) 154 0 d_ v1_) 155 0 d_ v2_) 156 0 d_ v3_) 157 0 d_ v4_) 158 0 d_ v5_) 159 0 d_ v6_) 160 0 d_ v7_) := by
  refine ⟨⟨?_, ?_, ?_, ?_, ?_, ?_, ?_, ?_⟩, ai_fr_tr (ai_fr_tr (ai_fr_tr (ai_fr_tr (ai_fr_tr (ai_fr_tr (ai_fr_tr (ai_fr_aI rfl) (ai_fr_aI rfl)) (ai_fr_aI rfl)) (ai_fr_aI rfl)) (ai_fr_aI rfl)) (ai_fr_aI rfl)) (ai_fr_aI rfl)) (ai_fr_aI rfl)⟩
  all_goals (simp only [rd_eq, rd_ne, ne_eq, Nat.reduceEqDiff, not_false_eq_true, if_true])
section KD_
variable {dd_ F_ R_ n_ k1_ k2_ p_ : Nat} {I_ o_ bg_ : Int} {S_ S'_ : sm_S}
theorem kdB_k (h_ : kdB dd_ F_ I_ o_ bg_ R_ n_ k1_ k2_ p_ S_) (g_ : ai_fr (sx_W ([], [164, 165, 166], [])) S_ S'_) (e1_ : ∀ j_, S'_.2.2.1 164 0 j_ = if j_ = 2048 * dd_ + n_ then S_.2.2.1 140 0 n_ else S_.2.2.1 164 0 j_) (e2_ : ∀ j_, S'_.2.2.1 165 0 j_ = if j_ = 2048 * dd_ + n_ then S_.2.2.1 141 0 n_ else S_.2.2.1 165 0 j_) (e3_ : ∀ j_, S'_.2.2.1 166 0 j_ = if j_ = 2048 * dd_ + n_ then S_.2.2.1 172 0 n_ else S_.2.2.1 166 0 j_) : kdB dd_ F_ I_ o_ bg_ R_ (n_ + 1) k1_ k2_ p_ S'_ := by
  obtain ⟨h1_, h2_, h3_, h4_, h5_, h6_⟩ := h_
  refine ⟨?_, ⟨rgr_fr h2_.1 g_ rfl rfl rfl rfl, rsw_fr h2_.2.1 g_ rfl rfl rfl rfl, rrt_fr h2_.2.2.1 g_ rfl rfl rfl rfl, (g_.1 13 0 53 rfl).trans h2_.2.2.2⟩, fun j_ hj_ => ?_, fun j_ hj_ => ?_, fun j_ hj_ => ?_, fun j_ hj_ => ?_⟩
  · rw [fr_arr (t := 153) g_ rfl, fr_arr (t := 154) g_ rfl, fr_arr (t := 155) g_ rfl, fr_arr (t := 156) g_ rfl, fr_arr (t := 157) g_ rfl, fr_arr (t := 158) g_ rfl, fr_arr (t := 159) g_ rfl, fr_arr (t := 160) g_ rfl, g_.1 13 0 37 rfl]
    exact h1_
  · rw [e1_, e2_, e3_, fr_arr (t := 140) g_ rfl, fr_arr (t := 141) g_ rfl, fr_arr (t := 172) g_ rfl]
    by_cases z_ : j_ = n_
    · rw [if_pos (by omega), if_pos (by omega), if_pos (by omega), z_]
      exact ⟨rfl, rfl, rfl⟩
    · rw [if_neg (by omega), if_neg (by omega), if_neg (by omega)]
      exact h3_ j_ (by omega)
  · rw [fr_arr (t := 167) g_ rfl, fr_arr (t := 175) g_ rfl]; exact h4_ j_ hj_
  · rw [fr_arr (t := 168) g_ rfl, fr_arr (t := 151) g_ rfl]; exact h5_ j_ hj_
  · rw [fr_arr (t := 170) g_ rfl]; exact h6_ j_ hj_
theorem kdB_o (h_ : kdB dd_ F_ I_ o_ bg_ R_ n_ k1_ k2_ p_ S_) (g_ : ai_fr (sx_W ([], [167], [])) S_ S'_) (e1_ : ∀ j_, S'_.2.2.1 167 0 j_ = if j_ = 16 * dd_ + k1_ then S_.2.2.1 175 0 k1_ else S_.2.2.1 167 0 j_) : kdB dd_ F_ I_ o_ bg_ R_ n_ (k1_ + 1) k2_ p_ S'_ := by
  obtain ⟨h1_, h2_, h3_, h4_, h5_, h6_⟩ := h_
  refine ⟨?_, ⟨rgr_fr h2_.1 g_ rfl rfl rfl rfl, rsw_fr h2_.2.1 g_ rfl rfl rfl rfl, rrt_fr h2_.2.2.1 g_ rfl rfl rfl rfl, (g_.1 13 0 53 rfl).trans h2_.2.2.2⟩, fun j_ hj_ => ?_, fun j_ hj_ => ?_, fun j_ hj_ => ?_, fun j_ hj_ => ?_⟩
  · rw [fr_arr (t := 153) g_ rfl, fr_arr (t := 154) g_ rfl, fr_arr (t := 155) g_ rfl, fr_arr (t := 156) g_ rfl, fr_arr (t := 157) g_ rfl, fr_arr (t := 158) g_ rfl, fr_arr (t := 159) g_ rfl, fr_arr (t := 160) g_ rfl, g_.1 13 0 37 rfl]
    exact h1_
  · rw [fr_arr (t := 164) g_ rfl, fr_arr (t := 165) g_ rfl, fr_arr (t := 166) g_ rfl, fr_arr (t := 140) g_ rfl, fr_arr (t := 141) g_ rfl, fr_arr (t := 172) g_ rfl]; exact h3_ j_ hj_
  · rw [e1_, fr_arr (t := 175) g_ rfl]
    by_cases z_ : j_ = k1_
    · rw [if_pos (by omega), z_]
    · rw [if_neg (by omega)]; exact h4_ j_ (by omega)
  · rw [fr_arr (t := 168) g_ rfl, fr_arr (t := 151) g_ rfl]; exact h5_ j_ hj_
  · rw [fr_arr (t := 170) g_ rfl]; exact h6_ j_ hj_
theorem kdB_x (h_ : kdB dd_ F_ I_ o_ bg_ R_ n_ k1_ k2_ p_ S_) (g_ : ai_fr (sx_W ([], [168], [])) S_ S'_) (e1_ : ∀ j_, S'_.2.2.1 168 0 j_ = if j_ = 6 * dd_ + k2_ then S_.2.2.1 151 0 k2_ else S_.2.2.1 168 0 j_) : kdB dd_ F_ I_ o_ bg_ R_ n_ k1_ (k2_ + 1) p_ S'_ := by
  obtain ⟨h1_, h2_, h3_, h4_, h5_, h6_⟩ := h_
  refine ⟨?_, ⟨rgr_fr h2_.1 g_ rfl rfl rfl rfl, rsw_fr h2_.2.1 g_ rfl rfl rfl rfl, rrt_fr h2_.2.2.1 g_ rfl rfl rfl rfl, (g_.1 13 0 53 rfl).trans h2_.2.2.2⟩, fun j_ hj_ => ?_, fun j_ hj_ => ?_, fun j_ hj_ => ?_, fun j_ hj_ => ?_⟩
  · rw [fr_arr (t := 153) g_ rfl, fr_arr (t := 154) g_ rfl, fr_arr (t := 155) g_ rfl, fr_arr (t := 156) g_ rfl, fr_arr (t := 157) g_ rfl, fr_arr (t := 158) g_ rfl, fr_arr (t := 159) g_ rfl, fr_arr (t := 160) g_ rfl, g_.1 13 0 37 rfl]
    exact h1_
  · rw [fr_arr (t := 164) g_ rfl, fr_arr (t := 165) g_ rfl, fr_arr (t := 166) g_ rfl, fr_arr (t := 140) g_ rfl, fr_arr (t := 141) g_ rfl, fr_arr (t := 172) g_ rfl]; exact h3_ j_ hj_
  · rw [fr_arr (t := 167) g_ rfl, fr_arr (t := 175) g_ rfl]; exact h4_ j_ hj_
  · rw [e1_, fr_arr (t := 151) g_ rfl]
    by_cases z_ : j_ = k2_
    · rw [if_pos (by omega), z_]
    · rw [if_neg (by omega)]; exact h5_ j_ (by omega)
  · rw [fr_arr (t := 170) g_ rfl]; exact h6_ j_ hj_
theorem kdB_t {v_ : Int} (h_ : kdB dd_ F_ I_ o_ bg_ R_ n_ k1_ k2_ p_ S_) (g_ : ai_fr (sx_W ([], [169, 170], [])) S_ S'_) (hv_ : 0 ≤ v_ ∧ v_ < 2 ^ R_) (e1_ : ∀ j_, S'_.2.2.1 170 0 j_ = if j_ = 4096 * dd_ + p_ then v_ else S_.2.2.1 170 0 j_) : kdB dd_ F_ I_ o_ bg_ R_ n_ k1_ k2_ (p_ + 1) S'_ := by
  obtain ⟨h1_, h2_, h3_, h4_, h5_, h6_⟩ := h_
  refine ⟨?_, ⟨rgr_fr h2_.1 g_ rfl rfl rfl rfl, rsw_fr h2_.2.1 g_ rfl rfl rfl rfl, rrt_fr h2_.2.2.1 g_ rfl rfl rfl rfl, (g_.1 13 0 53 rfl).trans h2_.2.2.2⟩, fun j_ hj_ => ?_, fun j_ hj_ => ?_, fun j_ hj_ => ?_, fun j_ hj_ => ?_⟩
  · rw [fr_arr (t := 153) g_ rfl, fr_arr (t := 154) g_ rfl, fr_arr (t := 155) g_ rfl, fr_arr (t := 156) g_ rfl, fr_arr (t := 157) g_ rfl, fr_arr (t := 158) g_ rfl, fr_arr (t := 159) g_ rfl, fr_arr (t := 160) g_ rfl, g_.1 13 0 37 rfl]
    exact h1_
  · rw [fr_arr (t := 164) g_ rfl, fr_arr (t := 165) g_ rfl, fr_arr (t := 166) g_ rfl, fr_arr (t := 140) g_ rfl, fr_arr (t := 141) g_ rfl, fr_arr (t := 172) g_ rfl]; exact h3_ j_ hj_
  · rw [fr_arr (t := 167) g_ rfl, fr_arr (t := 175) g_ rfl]; exact h4_ j_ hj_
  · rw [fr_arr (t := 168) g_ rfl, fr_arr (t := 151) g_ rfl]; exact h5_ j_ hj_
  · rw [e1_]
    by_cases z_ : j_ = p_
    · rw [if_pos (by omega)]; exact hv_
    · rw [if_neg (by omega)]; exact h6_ j_ (by omega)
end KD_
/-- a_ design that the_ reference keeps -/
def dRk (d_ : Nat) (S_ : sm_S) : Prop := ∃ (F_ I_ R_ N_ : Nat), (S_.2.2.1 154 0 d_ = (I_ : Int) ∧ S_.2.2.1 155 0 d_ = (R_ : Int) ∧ S_.2.2.1 159 0 d_ = (N_ : Int) ∧ S_.2.2.1 160 0 d_ = (F_ : Int) ∧ F_ = 1 + I_ + R_ ∧ F_ ≤ 13 ∧ R_ ≤ 6 ∧ F_ ≤ N_ ∧ N_ ≤ F_ + 1000 ∧ 1 ≤ S_.2.2.1 156 0 d_ ∧ S_.2.2.1 156 0 d_ ≤ 16) ∧ glo F_ N_ (fun k_ => S_.2.2.1 164 0 (2048 * d_ + k_)) (fun k_ => S_.2.2.1 165 0 (2048 * d_ + k_)) ∧ (S_.2.2.1 166 0 (2048 * d_) = 0 ∧ ∀ m_, m_ < N_ → sfo F_ (fun k_ => S_.2.2.1 164 0 (2048 * d_ + k_)) (fun k_ => S_.2.2.1 165 0 (2048 * d_ + k_)) (fun k_ => S_.2.2.1 166 0 (2048 * d_ + k_)) m_) ∧ (∀ k_ : Nat, (k_ : Int) < S_.2.2.1 156 0 d_ → 0 ≤ S_.2.2.1 167 0 (16 * d_ + k_) ∧ S_.2.2.1 167 0 (16 * d_ + k_) < 2 * (N_ : Int)) ∧ (∀ k_, k_ < R_ → 0 ≤ S_.2.2.1 168 0 (6 * d_ + k_) ∧ S_.2.2.1 168 0 (6 * d_ + k_) < 2 * (N_ : Int)) ∧ (0 ≤ S_.2.2.1 157 0 d_ ∧ S_.2.2.1 157 0 d_ < 2 ^ R_) ∧ (0 ≤ S_.2.2.1 158 0 d_ ∧ S_.2.2.1 158 0 d_ < 2 ^ R_) ∧ ∀ p_, p_ < 2 ^ (I_ + R_) → 0 ≤ S_.2.2.1 170 0 (4096 * d_ + p_) ∧ S_.2.2.1 170 0 (4096 * d_ + p_) < 2 ^ R_
theorem sfo_ap {F_ n_ m_ : Nat} {lo_ hi_ sf_ lo'_ hi'_ sf'_ : Nat → Int} (hg_ : F_ ≤ m_ → 2 ≤ lo_ m_ ∧ lo_ m_ < hi_ m_ ∧ hi_ m_ < 2 * (m_ : Int)) (hm_ : m_ < n_) (h_ : sfo F_ lo_ hi_ sf_ m_) (e1_ : ∀ k_, k_ < n_ → lo'_ k_ = lo_ k_) (e2_ : ∀ k_, k_ < n_ → hi'_ k_ = hi_ k_) (e3_ : ∀ k_, k_ < n_ → sf'_ k_ = sf_ k_) : sfo F_ lo'_ hi'_ sf'_ m_ := by
  unfold sfo at *
  rw [e3_ m_ hm_, e3_ _ (by omega)]
  refine ⟨h_.1, h_.2.1, fun a_ b_ => ?_⟩
  have g_ := hg_ a_
  have q_ := h_.2.2 a_ b_
  unfold m3 at *
  rw [e1_ m_ hm_, e2_ m_ hm_, e3_ _ (by omega), e3_ _ (by omega)]
  exact q_
theorem kdB_end {dd_ F_ I_ R_ N_ : Nat} {o_ bg_ : Int} {S_ : sm_S} (h_ : kdB dd_ F_ (I_ : Int) o_ bg_ R_ N_ o_.toNat R_ (2 ^ (I_ + R_)) S_) (hN_ : S_.1 13 0 37 = (N_ : Int)) (hF_ : F_ = 1 + I_ + R_) (hF13_ : F_ ≤ 13) (hR_ : R_ ≤ 6) (ho_ : 1 ≤ o_ ∧ o_ ≤ 16) (hb_ : 0 ≤ bg_ ∧ bg_ < 2 ^ R_) : dRk dd_ S_ := by
  obtain ⟨h1_, ⟨g1_, g2_, g3_, g4_⟩, h3_, h4_, h5_, h6_⟩ := h_
  have gg_ := g1_.2.1
  refine ⟨F_, I_, R_, N_, ⟨h1_.2.1, h1_.2.2.1, h1_.2.2.2.2.2.2.1.trans hN_, h1_.2.2.2.2.2.2.2, hF_, hF13_, hR_, by omega, by omega, by rw [h1_.2.2.2.1]; exact ho_.1, by rw [h1_.2.2.2.1]; exact ho_.2⟩, fun k_ a_ b_ => ?_, ⟨?_, fun m_ hm_ => ?_⟩, fun k_ hk_ => ?_, fun k_ hk_ => ?_, by rw [h1_.2.2.2.2.1]; exact hb_, by rw [h1_.2.2.2.2.2.1]; exact hb_, h6_⟩
  · show 2 ≤ S_.2.2.1 164 0 (2048 * dd_ + k_) ∧ S_.2.2.1 164 0 (2048 * dd_ + k_) < S_.2.2.1 165 0 (2048 * dd_ + k_) ∧ S_.2.2.1 165 0 (2048 * dd_ + k_) < 2 * (k_ : Int)
    rw [(h3_ k_ b_).1, (h3_ k_ b_).2.1]
    exact g1_.2.2 k_ a_ (by omega)
  · have e_ := (h3_ 0 (by omega)).2.2
    rw [Nat.add_zero] at e_
    rw [e_]
    exact g2_.1
  · exact sfo_ap (n_ := N_) (fun a_ => g1_.2.2 m_ a_ (by omega)) hm_ (g2_.2 m_ (by omega)) (fun k_ hk_ => (h3_ k_ hk_).1) (fun k_ hk_ => (h3_ k_ hk_).2.1) (fun k_ hk_ => (h3_ k_ hk_).2.2)
  · rw [h1_.2.2.2.1] at hk_
    rw [h4_ k_ (by omega)]
    have := g3_.2.2.1 k_ hk_
    omega
  · rw [h5_ k_ hk_]
    have := g3_.2.2.2 k_ (by omega)
    omega
theorem dRk_fr {w_ : sx_Wl} {d_ : Nat} {S_ S'_ : sm_S} (h_ : dRk d_ S_) (g_ : ai_fr (sx_W w_) S_ S'_) (hw_ : ∀ t_, t_ < 171 → (153 < t_ ∧ t_ ≠ 161 ∧ t_ ≠ 162 ∧ t_ ≠ 163) → (sx_W w_).2.1 t_ = false) : dRk d_ S'_ := by
  unfold dRk
  rw [fr_arr (t := 154) g_ (hw_ _ (by decide) (by decide)), fr_arr (t := 155) g_ (hw_ _ (by decide) (by decide)), fr_arr (t := 156) g_ (hw_ _ (by decide) (by decide)), fr_arr (t := 157) g_ (hw_ _ (by decide) (by decide)), fr_arr (t := 158) g_ (hw_ _ (by decide) (by decide)), fr_arr (t := 159) g_ (hw_ _ (by decide) (by decide)), fr_arr (t := 160) g_ (hw_ _ (by decide) (by decide)), fr_arr (t := 164) g_ (hw_ _ (by decide) (by decide)), fr_arr (t := 165) g_ (hw_ _ (by decide) (by decide)), fr_arr (t := 166) g_ (hw_ _ (by decide) (by decide)), fr_arr (t := 167) g_ (hw_ _ (by decide) (by decide)), fr_arr (t := 168) g_ (hw_ _ (by decide) (by decide)), fr_arr (t := 170) g_ (hw_ _ (by decide) (by decide))]
  exact h_
/-! M_.keepDesign -/
def vw_360 : sx_Wl := ([], [153, 154, 155, 156, 157, 158, 159, 160, 161, 162, 163, 164, 165, 166, 167, 168, 169, 170, 171, 172, 173, 174, 175, 176], [])
def vq_360 (d_ : Int) (b_ : Nat → Int) (n_ : Nat) (T_ : Nat) (tp_ : Nat) (B_ : pA) (e_ : gE) (N_ : Nat) (F_ : Nat) (I_ : Nat) (R_ : Nat) (dd_ : Nat) (S0_ : sm_S) (u_ : Option sm_V) (S1_ : sm_S) : Prop := u_ = none ∧ gi S1_ ∧ ai_fr (sx_W vw_360) S0_ S1_ ∧ (rdf dd_ S0_ S1_ ∧ (S1_.2.2.1 153 0 dd_ = 1 ∧ dRk dd_ S1_))
set_option maxHeartbeats 4000000 in
set_option maxRecDepth 20000 in
theorem vl_360 {sc_ : Nat × (Nat → Int)} (d_ : Int) (b_ : Nat → Int) (n_ : Nat) (T_ : Nat) (tp_ : Nat) (B_ : pA) (e_ : gE) (N_ : Nat) (F_ : Nat) (I_ : Nat) (R_ : Nat) (dd_ : Nat) (S0_ : sm_S) (hd_ : d_ = (dd_ : Int) ∧ dd_ ≤ 5) (hmo_ : (S0_.1 13 0 12) = (tp_ : Int) + 1 ∧ tp_ ≤ 15) (hre_ : re1 b_ n_ T_ B_ tp_ S0_) (hB_ : a_ok b_ n_ B_ tp_) (hsu_ : 1 ≤ su (t_in B_ 1 tp_) (B_.1 tp_) ∧ su (t_in B_ 1 tp_) (B_.1 tp_) ≤ 16) (hE_ : ∀ s9_, s9_ < 40 → rwv (S0_.2.2.1 144 0) (8 * s9_) (e_ s9_)) (hln_ : ∀ s9_, s9_ < B_.1 tp_ → B_.2.2.1 (40 * tp_ + s9_) ≠ 5 → ((e_ s9_).length : Int) = B_.2.2.2.1 (40 * tp_ + s9_)) (hlw_ : ∀ s9_, lwl N_ (e_ s9_)) (hN_ : (S0_.1 13 0 37) = (N_ : Int)) (hg_ : rgr F_ S0_) (hrn_ : rnS S0_) (hI1_ : S0_.2.2.1 132 0 tp_ = (I_ : Int)) (hR1_ : (S0_.1 13 0 53) = (R_ : Int) ∧ R_ ≤ 6) (hFn_ : F_ = 1 + I_ + R_ ∧ F_ ≤ 13) : ∀ nn_ : Nat, (∀ (mo_ : Int) (o_ : Int) (n9_ : Int) (S_ : sm_S), gi S_ → ai_fr (sx_W vw_360) S0_ S_ → ((0 ≤ mo_ ∧ mo_ = (tp_ : Int) ∧ 1 ≤ o_ ∧ o_ ≤ 16) ∧ (0 ≤ n9_ ∧ n9_ ≤ S0_.1 13 0 37) ∧ (kdB dd_ F_ (I_ : Int) o_ (S0_.1 13 0 52) R_ n9_.toNat 0 0 0 S_) ∧ (rdf dd_ S0_ S_) ∧ True) → ((900000 - n9_).toNat) < nn_ → sm_T (mt_P sc_) 2 360 (121, [some (.inr (.inr (some (13, 0)))), some (.inl d_), some (.inl mo_), some (.inl o_), some (.inl n9_), none, none, none], [], S_) (fun ro9_ => ∃ u_ S1_, ro9_ = (.inl u_, S1_, 0) ∧ vq_360 d_ b_ n_ T_ tp_ B_ e_ N_ F_ I_ R_ dd_ S0_ u_ S1_)) ∧ (∀ (mo_ : Int) (o_ : Int) (k_ : Int) (S_ : sm_S), gi S_ → ai_fr (sx_W vw_360) S0_ S_ → ((0 ≤ mo_ ∧ mo_ = (tp_ : Int) ∧ 1 ≤ o_ ∧ o_ ≤ 16) ∧ (0 ≤ k_ ∧ k_ ≤ o_) ∧ (kdB dd_ F_ (I_ : Int) o_ (S0_.1 13 0 52) R_ (S0_.1 13 0 37).toNat k_.toNat 0 0 S_) ∧ (rdf dd_ S0_ S_) ∧ True) → ((800000 - k_).toNat) < nn_ → sm_T (mt_P sc_) 2 360 (199, [some (.inr (.inr (some (13, 0)))), some (.inl d_), some (.inl mo_), some (.inl o_), some (.inl k_), none, none, none], [], S_) (fun ro9_ => ∃ u_ S1_, ro9_ = (.inl u_, S1_, 0) ∧ vq_360 d_ b_ n_ T_ tp_ B_ e_ N_ F_ I_ R_ dd_ S0_ u_ S1_)) ∧ (∀ (mo_ : Int) (o_ : Int) (k_ : Int) (S_ : sm_S), gi S_ → ai_fr (sx_W vw_360) S0_ S_ → ((0 ≤ mo_ ∧ mo_ = (tp_ : Int) ∧ 1 ≤ o_ ∧ o_ ≤ 16) ∧ (0 ≤ k_ ∧ k_ ≤ (R_ : Int)) ∧ (kdB dd_ F_ (I_ : Int) o_ (S0_.1 13 0 52) R_ (S0_.1 13 0 37).toNat o_.toNat k_.toNat 0 S_) ∧ (rdf dd_ S0_ S_) ∧ True) → ((700000 - k_).toNat) < nn_ → sm_T (mt_P sc_) 2 360 (233, [some (.inr (.inr (some (13, 0)))), some (.inl d_), some (.inl mo_), some (.inl o_), some (.inl k_), none, none, none], [], S_) (fun ro9_ => ∃ u_ S1_, ro9_ = (.inl u_, S1_, 0) ∧ vq_360 d_ b_ n_ T_ tp_ B_ e_ N_ F_ I_ R_ dd_ S0_ u_ S1_)) ∧ (∀ (mo_ : Int) (o_ : Int) (p_ : Int) (S_ : sm_S), gi S_ → ai_fr (sx_W vw_360) S0_ S_ → ((0 ≤ mo_ ∧ mo_ = (tp_ : Int) ∧ 1 ≤ o_ ∧ o_ ≤ 16) ∧ (0 ≤ p_ ∧ p_ ≤ 2 ^ (I_ + R_)) ∧ (kdB dd_ F_ (I_ : Int) o_ (S0_.1 13 0 52) R_ (S0_.1 13 0 37).toNat o_.toNat R_ p_.toNat S_) ∧ (rdf dd_ S0_ S_) ∧ True) → ((100 * (5000 - p_) + 90).toNat) < nn_ → sm_T (mt_P sc_) 2 360 (270, [some (.inr (.inr (some (13, 0)))), some (.inl d_), some (.inl mo_), some (.inl o_), some (.inl p_), none, none, none], [], S_) (fun ro9_ => ∃ u_ S1_, ro9_ = (.inl u_, S1_, 0) ∧ vq_360 d_ b_ n_ T_ tp_ B_ e_ N_ F_ I_ R_ dd_ S0_ u_ S1_)) ∧ (∀ (mo_ : Int) (o_ : Int) (p_ : Int) (ou_ : Int) (nx_ : Int) (k_ : Int) (S_ : sm_S), gi S_ → ai_fr (sx_W vw_360) S0_ S_ → ((0 ≤ mo_ ∧ mo_ = (tp_ : Int) ∧ 1 ≤ o_ ∧ o_ ≤ 16) ∧ (0 ≤ p_ ∧ p_ < 2 ^ (I_ + R_) ∧ 0 ≤ k_ ∧ k_ ≤ o_ ∧ 0 ≤ ou_ ∧ ou_ < 65536 ∧ nx_ = 0) ∧ (kdB dd_ F_ (I_ : Int) o_ (S0_.1 13 0 52) R_ (S0_.1 13 0 37).toNat o_.toNat R_ p_.toNat S_) ∧ (rdf dd_ S0_ S_) ∧ True) → ((100 * (5000 - p_) + 80 - k_).toNat) < nn_ → sm_T (mt_P sc_) 2 360 (297, [some (.inr (.inr (some (13, 0)))), some (.inl d_), some (.inl mo_), some (.inl o_), some (.inl p_), some (.inl ou_), some (.inl nx_), some (.inl k_)], [], S_) (fun ro9_ => ∃ u_ S1_, ro9_ = (.inl u_, S1_, 0) ∧ vq_360 d_ b_ n_ T_ tp_ B_ e_ N_ F_ I_ R_ dd_ S0_ u_ S1_)) ∧ (∀ (mo_ : Int) (o_ : Int) (p_ : Int) (ou_ : Int) (nx_ : Int) (k_ : Int) (S_ : sm_S), gi S_ → ai_fr (sx_W vw_360) S0_ S_ → ((0 ≤ mo_ ∧ mo_ = (tp_ : Int) ∧ 1 ≤ o_ ∧ o_ ≤ 16) ∧ (0 ≤ p_ ∧ p_ < 2 ^ (I_ + R_) ∧ 0 ≤ k_ ∧ k_ ≤ (R_ : Int) ∧ 0 ≤ ou_ ∧ ou_ < 65536) ∧ (0 ≤ nx_ ∧ nx_ < 2 ^ R_) ∧ (kdB dd_ F_ (I_ : Int) o_ (S0_.1 13 0 52) R_ (S0_.1 13 0 37).toNat o_.toNat R_ p_.toNat S_) ∧ (rdf dd_ S0_ S_) ∧ True) → ((100 * (5000 - p_) + 40 - k_).toNat) < nn_ → sm_T (mt_P sc_) 2 360 (333, [some (.inr (.inr (some (13, 0)))), some (.inl d_), some (.inl mo_), some (.inl o_), some (.inl p_), some (.inl ou_), some (.inl nx_), some (.inl k_)], [], S_) (fun ro9_ => ∃ u_ S1_, ro9_ = (.inl u_, S1_, 0) ∧ vq_360 d_ b_ n_ T_ tp_ B_ e_ N_ F_ I_ R_ dd_ S0_ u_ S1_)) := by
  intro nn_
  induction nn_ with
  | zero => exact ⟨fun _ _ _ _ _ _ _ h_ => absurd h_ (Nat.not_lt_zero _), fun _ _ _ _ _ _ _ h_ => absurd h_ (Nat.not_lt_zero _), fun _ _ _ _ _ _ _ h_ => absurd h_ (Nat.not_lt_zero _), fun _ _ _ _ _ _ _ h_ => absurd h_ (Nat.not_lt_zero _), fun _ _ _ _ _ _ _ _ _ _ h_ => absurd h_ (Nat.not_lt_zero _), fun _ _ _ _ _ _ _ _ _ _ h_ => absurd h_ (Nat.not_lt_zero _)⟩
  | succ nn_ ih_ =>
    refine ⟨?_, ?_, ?_, ?_, ?_, ?_⟩
    · rintro mo_ o_ n9_ S_ hI_ hF_ ⟨hb_, h0_, hk_, hR_, -⟩ hm_
      have n37_ : S_.1 13 0 37 = S0_.1 13 0 37 := hF_.1 13 0 37 rfl
      have u53_ : S_.1 13 0 53 = (R_ : Int) := hk_.2.1.2.2.2
      have i54_ : S_.2.2.1 132 0 mo_.toNat = (I_ : Int) := by rw [fr_arr (t := 132) (i := 0) hF_ rfl, show mo_.toNat = tp_ by omega]; exact hI1_
      have gg_ := hg_.2.1
      have g0_ := hg_.1
      have bx1_ : 0 ≤ S_.1 13 0 37 ∧ S_.1 13 0 37 ≤ 1014 := hI_.1 13 0 37 rfl
      refine sm_T_go 3 (c1 := (127, [some (.inr (.inr (some (13, 0)))), some (.inl d_), some (.inl mo_), some (.inl o_), some (.inl n9_), none, none, none], [.inl (S_.1 13 0 37), .inl n9_], S_)) rfl ?_
      refine sm_T_br (a := 3) (z := 69) rfl (fun cx2_ => ?_) (fun cx2_ => ?_)
      · have cx2_ : (S_.1 13 0 37) ≤ n9_ := of_decide_eq_true cx2_
        refine sm_T_go 2 (c1 := (199, [some (.inr (.inr (some (13, 0)))), some (.inl d_), some (.inl mo_), some (.inl o_), some (.inl 0), none, none, none], [], S_)) rfl ?_
        refine ih_.2.1 mo_ o_ 0 S_ hI_ hF_ ⟨?_, ?_, ?_, ?_, trivial⟩ ?_
        · omega
        · omega
        · (rw [show (S0_.1 13 0 37).toNat = n9_.toNat by omega]; exact hk_)
        · exact hR_
        · omega
      · have cx2_ : ¬ ((S_.1 13 0 37) ≤ n9_) := of_decide_eq_false cx2_
        refine sm_T_go 4 (c1 := (138, [some (.inr (.inr (some (13, 0)))), some (.inl d_), some (.inl mo_), some (.inl o_), some (.inl n9_), none, none, none], [.inl d_, .inl 2048, .inr (.inr (some (164, 0)))], S_)) rfl ?_
        refine sm_T_bin (w := 2048 * d_) rfl (bi_mul (by omega) (by omega) (by omega)) ?_
        refine sm_T_go 1 (c1 := (141, [some (.inr (.inr (some (13, 0)))), some (.inl d_), some (.inl mo_), some (.inl o_), some (.inl n9_), none, none, none], [.inl n9_, .inl (2048 * d_), .inr (.inr (some (164, 0)))], S_)) rfl ?_
        refine sm_T_bin (w := 2048 * d_ + n9_) rfl (bi_add (by omega) (by omega) (by omega)) ?_
        refine sm_T_go 3 (c1 := (148, [some (.inr (.inr (some (13, 0)))), some (.inl d_), some (.inl mo_), some (.inl o_), some (.inl n9_), none, none, none], [.inl n9_, .inr (.inr (some (140, 0))), .inl (2048 * d_ + n9_), .inr (.inr (some (164, 0)))], S_)) rfl ?_
        refine sm_T_iald (n := 2048) rfl rfl (by omega) (by omega) ?_
        have bx3_ : 0 ≤ S_.2.2.1 140 0 n9_.toNat ∧ S_.2.2.1 140 0 n9_.toNat ≤ 2047 := hI_.2 140 0 _
        refine sm_T_iast (n := 12288) rfl rfl (by omega) (by omega) ?_
        have hIx4_ : gi (sm_aI S_ 164 0 (2048 * d_ + n9_).toNat (S_.2.2.1 140 0 n9_.toNat)) := gi_aI hI_ (show 0 ≤ (S_.2.2.1 140 0 n9_.toNat) ∧ (S_.2.2.1 140 0 n9_.toNat) ≤ 2047 from ⟨by omega, by omega⟩)
        have hFx5_ : ai_fr (sx_W vw_360) S0_ (sm_aI S_ 164 0 (2048 * d_ + n9_).toNat (S_.2.2.1 140 0 n9_.toNat)) := ai_fr_tr hF_ (ai_fr_aI rfl)
        have hRx6_ : rdf dd_ S0_ (sm_aI S_ 164 0 (2048 * d_ + n9_).toNat (S_.2.2.1 140 0 n9_.toNat)) := rdf_aI hR_ (Or.inr (by rw [show rds 164 = 2048 from rfl]; omega))
        refine sm_T_go 4 (c1 := (158, [some (.inr (.inr (some (13, 0)))), some (.inl d_), some (.inl mo_), some (.inl o_), some (.inl n9_), none, none, none], [.inl d_, .inl 2048, .inr (.inr (some (165, 0)))], sm_aI S_ 164 0 (2048 * d_ + n9_).toNat (S_.2.2.1 140 0 n9_.toNat))) rfl ?_
        refine sm_T_bin (w := 2048 * d_) rfl (bi_mul (by omega) (by omega) (by omega)) ?_
        refine sm_T_go 1 (c1 := (161, [some (.inr (.inr (some (13, 0)))), some (.inl d_), some (.inl mo_), some (.inl o_), some (.inl n9_), none, none, none], [.inl n9_, .inl (2048 * d_), .inr (.inr (some (165, 0)))], sm_aI S_ 164 0 (2048 * d_ + n9_).toNat (S_.2.2.1 140 0 n9_.toNat))) rfl ?_
        refine sm_T_bin (w := 2048 * d_ + n9_) rfl (bi_add (by omega) (by omega) (by omega)) ?_
        refine sm_T_go 3 (c1 := (168, [some (.inr (.inr (some (13, 0)))), some (.inl d_), some (.inl mo_), some (.inl o_), some (.inl n9_), none, none, none], [.inl n9_, .inr (.inr (some (141, 0))), .inl (2048 * d_ + n9_), .inr (.inr (some (165, 0)))], sm_aI S_ 164 0 (2048 * d_ + n9_).toNat (S_.2.2.1 140 0 n9_.toNat))) rfl ?_
        refine sm_T_iald (n := 2048) rfl rfl (by omega) (by omega) ?_
        have bx7_ : 0 ≤ S_.2.2.1 141 0 n9_.toNat ∧ S_.2.2.1 141 0 n9_.toNat ≤ 2047 := hI_.2 141 0 _
        refine sm_T_go 0 (c1 := (169, [some (.inr (.inr (some (13, 0)))), some (.inl d_), some (.inl mo_), some (.inl o_), some (.inl n9_), none, none, none], [.inl (S_.2.2.1 141 0 n9_.toNat), .inl (2048 * d_ + n9_), .inr (.inr (some (165, 0)))], sm_aI S_ 164 0 (2048 * d_ + n9_).toNat (S_.2.2.1 140 0 n9_.toNat))) rfl ?_
        refine sm_T_iast (n := 12288) rfl rfl (by omega) (by omega) ?_
        have hIx8_ : gi (sm_aI (sm_aI S_ 164 0 (2048 * d_ + n9_).toNat (S_.2.2.1 140 0 n9_.toNat)) 165 0 (2048 * d_ + n9_).toNat (S_.2.2.1 141 0 n9_.toNat)) := gi_aI hIx4_ (show 0 ≤ (S_.2.2.1 141 0 n9_.toNat) ∧ (S_.2.2.1 141 0 n9_.toNat) ≤ 2047 from ⟨by omega, by omega⟩)
        have hFx9_ : ai_fr (sx_W vw_360) S0_ (sm_aI (sm_aI S_ 164 0 (2048 * d_ + n9_).toNat (S_.2.2.1 140 0 n9_.toNat)) 165 0 (2048 * d_ + n9_).toNat (S_.2.2.1 141 0 n9_.toNat)) := ai_fr_tr hFx5_ (ai_fr_aI rfl)
        have hRx10_ : rdf dd_ S0_ (sm_aI (sm_aI S_ 164 0 (2048 * d_ + n9_).toNat (S_.2.2.1 140 0 n9_.toNat)) 165 0 (2048 * d_ + n9_).toNat (S_.2.2.1 141 0 n9_.toNat)) := rdf_aI hRx6_ (Or.inr (by rw [show rds 165 = 2048 from rfl]; omega))
        refine sm_T_go 4 (c1 := (178, [some (.inr (.inr (some (13, 0)))), some (.inl d_), some (.inl mo_), some (.inl o_), some (.inl n9_), none, none, none], [.inl d_, .inl 2048, .inr (.inr (some (166, 0)))], sm_aI (sm_aI S_ 164 0 (2048 * d_ + n9_).toNat (S_.2.2.1 140 0 n9_.toNat)) 165 0 (2048 * d_ + n9_).toNat (S_.2.2.1 141 0 n9_.toNat))) rfl ?_
        refine sm_T_bin (w := 2048 * d_) rfl (bi_mul (by omega) (by omega) (by omega)) ?_
        refine sm_T_go 1 (c1 := (181, [some (.inr (.inr (some (13, 0)))), some (.inl d_), some (.inl mo_), some (.inl o_), some (.inl n9_), none, none, none], [.inl n9_, .inl (2048 * d_), .inr (.inr (some (166, 0)))], sm_aI (sm_aI S_ 164 0 (2048 * d_ + n9_).toNat (S_.2.2.1 140 0 n9_.toNat)) 165 0 (2048 * d_ + n9_).toNat (S_.2.2.1 141 0 n9_.toNat))) rfl ?_
        refine sm_T_bin (w := 2048 * d_ + n9_) rfl (bi_add (by omega) (by omega) (by omega)) ?_
        refine sm_T_go 3 (c1 := (188, [some (.inr (.inr (some (13, 0)))), some (.inl d_), some (.inl mo_), some (.inl o_), some (.inl n9_), none, none, none], [.inl n9_, .inr (.inr (some (172, 0))), .inl (2048 * d_ + n9_), .inr (.inr (some (166, 0)))], sm_aI (sm_aI S_ 164 0 (2048 * d_ + n9_).toNat (S_.2.2.1 140 0 n9_.toNat)) 165 0 (2048 * d_ + n9_).toNat (S_.2.2.1 141 0 n9_.toNat))) rfl ?_
        refine sm_T_iald (n := 2048) rfl rfl (by omega) (by omega) ?_
        have bx11_ : 0 ≤ S_.2.2.1 172 0 n9_.toNat ∧ S_.2.2.1 172 0 n9_.toNat ≤ 2025 := hI_.2 172 0 _
        refine sm_T_go 0 (c1 := (189, [some (.inr (.inr (some (13, 0)))), some (.inl d_), some (.inl mo_), some (.inl o_), some (.inl n9_), none, none, none], [.inl (S_.2.2.1 172 0 n9_.toNat), .inl (2048 * d_ + n9_), .inr (.inr (some (166, 0)))], sm_aI (sm_aI S_ 164 0 (2048 * d_ + n9_).toNat (S_.2.2.1 140 0 n9_.toNat)) 165 0 (2048 * d_ + n9_).toNat (S_.2.2.1 141 0 n9_.toNat))) rfl ?_
        refine sm_T_iast (n := 12288) rfl rfl (by omega) (by omega) ?_
        have hIx12_ : gi (sm_aI (sm_aI (sm_aI S_ 164 0 (2048 * d_ + n9_).toNat (S_.2.2.1 140 0 n9_.toNat)) 165 0 (2048 * d_ + n9_).toNat (S_.2.2.1 141 0 n9_.toNat)) 166 0 (2048 * d_ + n9_).toNat (S_.2.2.1 172 0 n9_.toNat)) := gi_aI hIx8_ (show 0 ≤ (S_.2.2.1 172 0 n9_.toNat) ∧ (S_.2.2.1 172 0 n9_.toNat) ≤ 2025 from ⟨by omega, by omega⟩)
        have hFx13_ : ai_fr (sx_W vw_360) S0_ (sm_aI (sm_aI (sm_aI S_ 164 0 (2048 * d_ + n9_).toNat (S_.2.2.1 140 0 n9_.toNat)) 165 0 (2048 * d_ + n9_).toNat (S_.2.2.1 141 0 n9_.toNat)) 166 0 (2048 * d_ + n9_).toNat (S_.2.2.1 172 0 n9_.toNat)) := ai_fr_tr hFx9_ (ai_fr_aI rfl)
        have hRx14_ : rdf dd_ S0_ (sm_aI (sm_aI (sm_aI S_ 164 0 (2048 * d_ + n9_).toNat (S_.2.2.1 140 0 n9_.toNat)) 165 0 (2048 * d_ + n9_).toNat (S_.2.2.1 141 0 n9_.toNat)) 166 0 (2048 * d_ + n9_).toNat (S_.2.2.1 172 0 n9_.toNat)) := rdf_aI hRx10_ (Or.inr (by rw [show rds 166 = 2048 from rfl]; omega))
        refine sm_T_inc (a := 4) (z := 1) (v := n9_) (w := n9_ + 1) rfl rfl (by omega) (by omega) (by omega) ?_
        refine sm_T_go 1 (c1 := (121, [some (.inr (.inr (some (13, 0)))), some (.inl d_), some (.inl mo_), some (.inl o_), some (.inl (n9_ + 1)), none, none, none], [], sm_aI (sm_aI (sm_aI S_ 164 0 (2048 * d_ + n9_).toNat (S_.2.2.1 140 0 n9_.toNat)) 165 0 (2048 * d_ + n9_).toNat (S_.2.2.1 141 0 n9_.toNat)) 166 0 (2048 * d_ + n9_).toNat (S_.2.2.1 172 0 n9_.toNat))) rfl ?_
        refine ih_.1 mo_ o_ (n9_ + 1) (sm_aI (sm_aI (sm_aI S_ 164 0 (2048 * d_ + n9_).toNat (S_.2.2.1 140 0 n9_.toNat)) 165 0 (2048 * d_ + n9_).toNat (S_.2.2.1 141 0 n9_.toNat)) 166 0 (2048 * d_ + n9_).toNat (S_.2.2.1 172 0 n9_.toNat)) hIx12_ hFx13_ ⟨?_, ?_, ?_, ?_, trivial⟩ ?_
        · omega
        · omega
        · rw [show (n9_ + 1).toNat = n9_.toNat + 1 by omega]
          refine kdB_k hk_ (ai_fr_tr (ai_fr_tr (ai_fr_aI rfl) (ai_fr_aI rfl)) (ai_fr_aI rfl)) (fun j9_ => ?_) (fun j9_ => ?_) (fun j9_ => ?_) <;> (rw [show 2048 * dd_ + n9_.toNat = (2048 * d_ + n9_).toNat by omega]; (try simp only [rd_eq, rd_ne, rf_eq, rf_nk, rf_nt, rd_fa, rd_af, rd_fl, rd_al, rd_lf, rd_la, rd_leq, rd_lne, rd_fr, rd_ar, ne_eq, Nat.reduceEqDiff, not_false_eq_true]))
        · exact hRx14_
        · omega
    · rintro mo_ o_ k_ S_ hI_ hF_ ⟨hb_, h0_, hk_, hR_, -⟩ hm_
      have n37_ : S_.1 13 0 37 = S0_.1 13 0 37 := hF_.1 13 0 37 rfl
      have u53_ : S_.1 13 0 53 = (R_ : Int) := hk_.2.1.2.2.2
      have i54_ : S_.2.2.1 132 0 mo_.toNat = (I_ : Int) := by rw [fr_arr (t := 132) (i := 0) hF_ rfl, show mo_.toNat = tp_ by omega]; exact hI1_
      have gg_ := hg_.2.1
      have g0_ := hg_.1
      refine sm_T_go 2 (c1 := (202, [some (.inr (.inr (some (13, 0)))), some (.inl d_), some (.inl mo_), some (.inl o_), some (.inl k_), none, none, none], [.inl o_, .inl k_], S_)) rfl ?_
      refine sm_T_br (a := 3) (z := 28) rfl (fun cx1_ => ?_) (fun cx1_ => ?_)
      · have cx1_ : o_ ≤ k_ := of_decide_eq_true cx1_
        refine sm_T_go 2 (c1 := (233, [some (.inr (.inr (some (13, 0)))), some (.inl d_), some (.inl mo_), some (.inl o_), some (.inl 0), none, none, none], [], S_)) rfl ?_
        refine ih_.2.2.1 mo_ o_ 0 S_ hI_ hF_ ⟨?_, ?_, ?_, ?_, trivial⟩ ?_
        · omega
        · omega
        · (rw [show o_.toNat = k_.toNat by omega]; exact hk_)
        · exact hR_
        · omega
      · have cx1_ : ¬ (o_ ≤ k_) := of_decide_eq_false cx1_
        refine sm_T_go 4 (c1 := (212, [some (.inr (.inr (some (13, 0)))), some (.inl d_), some (.inl mo_), some (.inl o_), some (.inl k_), none, none, none], [.inl d_, .inl 16, .inr (.inr (some (167, 0)))], S_)) rfl ?_
        refine sm_T_bin (w := 16 * d_) rfl (bi_mul (by omega) (by omega) (by omega)) ?_
        refine sm_T_go 1 (c1 := (215, [some (.inr (.inr (some (13, 0)))), some (.inl d_), some (.inl mo_), some (.inl o_), some (.inl k_), none, none, none], [.inl k_, .inl (16 * d_), .inr (.inr (some (167, 0)))], S_)) rfl ?_
        refine sm_T_bin (w := 16 * d_ + k_) rfl (bi_add (by omega) (by omega) (by omega)) ?_
        refine sm_T_go 3 (c1 := (222, [some (.inr (.inr (some (13, 0)))), some (.inl d_), some (.inl mo_), some (.inl o_), some (.inl k_), none, none, none], [.inl k_, .inr (.inr (some (175, 0))), .inl (16 * d_ + k_), .inr (.inr (some (167, 0)))], S_)) rfl ?_
        refine sm_T_iald (n := 16) rfl rfl (by omega) (by omega) ?_
        have bx2_ : 0 ≤ S_.2.2.1 175 0 k_.toNat ∧ S_.2.2.1 175 0 k_.toNat ≤ 2047 := hI_.2 175 0 _
        refine sm_T_iast (n := 96) rfl rfl (by omega) (by omega) ?_
        have hIx3_ : gi (sm_aI S_ 167 0 (16 * d_ + k_).toNat (S_.2.2.1 175 0 k_.toNat)) := gi_aI hI_ (show 0 ≤ (S_.2.2.1 175 0 k_.toNat) ∧ (S_.2.2.1 175 0 k_.toNat) ≤ 2047 from ⟨by omega, by omega⟩)
        have hFx4_ : ai_fr (sx_W vw_360) S0_ (sm_aI S_ 167 0 (16 * d_ + k_).toNat (S_.2.2.1 175 0 k_.toNat)) := ai_fr_tr hF_ (ai_fr_aI rfl)
        have hRx5_ : rdf dd_ S0_ (sm_aI S_ 167 0 (16 * d_ + k_).toNat (S_.2.2.1 175 0 k_.toNat)) := rdf_aI hR_ (Or.inr (by rw [show rds 167 = 16 from rfl]; omega))
        refine sm_T_inc (a := 4) (z := 1) (v := k_) (w := k_ + 1) rfl rfl (by omega) (by omega) (by omega) ?_
        refine sm_T_go 1 (c1 := (199, [some (.inr (.inr (some (13, 0)))), some (.inl d_), some (.inl mo_), some (.inl o_), some (.inl (k_ + 1)), none, none, none], [], sm_aI S_ 167 0 (16 * d_ + k_).toNat (S_.2.2.1 175 0 k_.toNat))) rfl ?_
        refine ih_.2.1 mo_ o_ (k_ + 1) (sm_aI S_ 167 0 (16 * d_ + k_).toNat (S_.2.2.1 175 0 k_.toNat)) hIx3_ hFx4_ ⟨?_, ?_, ?_, ?_, trivial⟩ ?_
        · omega
        · omega
        · rw [show (k_ + 1).toNat = k_.toNat + 1 by omega]
          refine kdB_o hk_ (ai_fr_aI rfl) (fun j9_ => ?_)
          rw [show 16 * dd_ + k_.toNat = (16 * d_ + k_).toNat by omega]
          (try simp only [rd_eq, rd_ne, rf_eq, rf_nk, rf_nt, rd_fa, rd_af, rd_fl, rd_al, rd_lf, rd_la, rd_leq, rd_lne, rd_fr, rd_ar, ne_eq, Nat.reduceEqDiff, not_false_eq_true])
        · exact hRx5_
        · omega
    · rintro mo_ o_ k_ S_ hI_ hF_ ⟨hb_, h0_, hk_, hR_, -⟩ hm_
      have n37_ : S_.1 13 0 37 = S0_.1 13 0 37 := hF_.1 13 0 37 rfl
      have u53_ : S_.1 13 0 53 = (R_ : Int) := hk_.2.1.2.2.2
      have i54_ : S_.2.2.1 132 0 mo_.toNat = (I_ : Int) := by rw [fr_arr (t := 132) (i := 0) hF_ rfl, show mo_.toNat = tp_ by omega]; exact hI1_
      have gg_ := hg_.2.1
      have g0_ := hg_.1
      have bx1_ : 0 ≤ S_.1 13 0 53 ∧ S_.1 13 0 53 ≤ 6 := hI_.1 13 0 53 rfl
      refine sm_T_go 3 (c1 := (239, [some (.inr (.inr (some (13, 0)))), some (.inl d_), some (.inl mo_), some (.inl o_), some (.inl k_), none, none, none], [.inl (S_.1 13 0 53), .inl k_], S_)) rfl ?_
      refine sm_T_br (a := 3) (z := 28) rfl (fun cx2_ => ?_) (fun cx2_ => ?_)
      · have cx2_ : (S_.1 13 0 53) ≤ k_ := of_decide_eq_true cx2_
        refine sm_T_go 2 (c1 := (270, [some (.inr (.inr (some (13, 0)))), some (.inl d_), some (.inl mo_), some (.inl o_), some (.inl 0), none, none, none], [], S_)) rfl ?_
        refine ih_.2.2.2.1 mo_ o_ 0 S_ hI_ hF_ ⟨?_, ?_, ?_, ?_, trivial⟩ ?_
        · omega
        · exact ⟨by decide, Int.le_of_lt (pw_pos _)⟩
        · (rw [show k_.toNat = R_ by omega] at hk_; exact hk_)
        · exact hR_
        · omega
      · have cx2_ : ¬ ((S_.1 13 0 53) ≤ k_) := of_decide_eq_false cx2_
        refine sm_T_go 4 (c1 := (249, [some (.inr (.inr (some (13, 0)))), some (.inl d_), some (.inl mo_), some (.inl o_), some (.inl k_), none, none, none], [.inl d_, .inl 6, .inr (.inr (some (168, 0)))], S_)) rfl ?_
        refine sm_T_bin (w := 6 * d_) rfl (bi_mul (by omega) (by omega) (by omega)) ?_
        refine sm_T_go 1 (c1 := (252, [some (.inr (.inr (some (13, 0)))), some (.inl d_), some (.inl mo_), some (.inl o_), some (.inl k_), none, none, none], [.inl k_, .inl (6 * d_), .inr (.inr (some (168, 0)))], S_)) rfl ?_
        refine sm_T_bin (w := 6 * d_ + k_) rfl (bi_add (by omega) (by omega) (by omega)) ?_
        refine sm_T_go 3 (c1 := (259, [some (.inr (.inr (some (13, 0)))), some (.inl d_), some (.inl mo_), some (.inl o_), some (.inl k_), none, none, none], [.inl k_, .inr (.inr (some (151, 0))), .inl (6 * d_ + k_), .inr (.inr (some (168, 0)))], S_)) rfl ?_
        refine sm_T_iald (n := 1024) rfl rfl (by omega) (by omega) ?_
        have bx3_ : 0 ≤ S_.2.2.1 151 0 k_.toNat ∧ S_.2.2.1 151 0 k_.toNat ≤ 2047 := hI_.2 151 0 _
        refine sm_T_iast (n := 36) rfl rfl (by omega) (by omega) ?_
        have hIx4_ : gi (sm_aI S_ 168 0 (6 * d_ + k_).toNat (S_.2.2.1 151 0 k_.toNat)) := gi_aI hI_ (show 0 ≤ (S_.2.2.1 151 0 k_.toNat) ∧ (S_.2.2.1 151 0 k_.toNat) ≤ 2047 from ⟨by omega, by omega⟩)
        have hFx5_ : ai_fr (sx_W vw_360) S0_ (sm_aI S_ 168 0 (6 * d_ + k_).toNat (S_.2.2.1 151 0 k_.toNat)) := ai_fr_tr hF_ (ai_fr_aI rfl)
        have hRx6_ : rdf dd_ S0_ (sm_aI S_ 168 0 (6 * d_ + k_).toNat (S_.2.2.1 151 0 k_.toNat)) := rdf_aI hR_ (Or.inr (by rw [show rds 168 = 6 from rfl]; omega))
        refine sm_T_inc (a := 4) (z := 1) (v := k_) (w := k_ + 1) rfl rfl (by omega) (by omega) (by omega) ?_
        refine sm_T_go 1 (c1 := (233, [some (.inr (.inr (some (13, 0)))), some (.inl d_), some (.inl mo_), some (.inl o_), some (.inl (k_ + 1)), none, none, none], [], sm_aI S_ 168 0 (6 * d_ + k_).toNat (S_.2.2.1 151 0 k_.toNat))) rfl ?_
        refine ih_.2.2.1 mo_ o_ (k_ + 1) (sm_aI S_ 168 0 (6 * d_ + k_).toNat (S_.2.2.1 151 0 k_.toNat)) hIx4_ hFx5_ ⟨?_, ?_, ?_, ?_, trivial⟩ ?_
        · omega
        · omega
        · rw [show (k_ + 1).toNat = k_.toNat + 1 by omega]
          refine kdB_x hk_ (ai_fr_aI rfl) (fun j9_ => ?_)
          rw [show 6 * dd_ + k_.toNat = (6 * d_ + k_).toNat by omega]
          (try simp only [rd_eq, rd_ne, rf_eq, rf_nk, rf_nt, rd_fa, rd_af, rd_fl, rd_al, rd_lf, rd_la, rd_leq, rd_lne, rd_fr, rd_ar, ne_eq, Nat.reduceEqDiff, not_false_eq_true])
        · exact hRx6_
        · omega
    · rintro mo_ o_ p_ S_ hI_ hF_ ⟨hb_, h0_, hk_, hR_, -⟩ hm_
      have n37_ : S_.1 13 0 37 = S0_.1 13 0 37 := hF_.1 13 0 37 rfl
      have u53_ : S_.1 13 0 53 = (R_ : Int) := hk_.2.1.2.2.2
      have i54_ : S_.2.2.1 132 0 mo_.toNat = (I_ : Int) := by rw [fr_arr (t := 132) (i := 0) hF_ rfl, show mo_.toNat = tp_ by omega]; exact hI1_
      have gg_ := hg_.2.1
      have g0_ := hg_.1
      have pw9_ := pw_le (n := I_ + R_) (m := 12) (by omega)
      have pw8_ := pw_pos (I_ + R_)
      have sh9_ : i_shl 1 ((I_ : Int) + R_) = 2 ^ (I_ + R_) := by rw [i_shl1 (by omega) (by omega), show ((I_ : Int) + R_).toNat = I_ + R_ by omega]
      have pn9_ : ((2 ^ (I_ + R_) : Nat) : Int) = (2 : Int) ^ (I_ + R_) := by push_cast; rfl
      refine sm_T_go 5 (c1 := (278, [some (.inr (.inr (some (13, 0)))), some (.inl d_), some (.inl mo_), some (.inl o_), some (.inl p_), none, none, none], [.inl mo_, .inr (.inr (some (132, 0))), .inl 1, .inl p_], S_)) rfl ?_
      refine sm_T_iald (n := 16) rfl rfl (by omega) (by omega) ?_
      have bx1_ : 0 ≤ S_.2.2.1 132 0 mo_.toNat ∧ S_.2.2.1 132 0 mo_.toNat ≤ 320 := hI_.2 132 0 _
      have bx2_ : 0 ≤ S_.1 13 0 53 ∧ S_.1 13 0 53 ≤ 6 := hI_.1 13 0 53 rfl
      refine sm_T_go 2 (c1 := (283, [some (.inr (.inr (some (13, 0)))), some (.inl d_), some (.inl mo_), some (.inl o_), some (.inl p_), none, none, none], [.inl (S_.1 13 0 53), .inl (S_.2.2.1 132 0 mo_.toNat), .inl 1, .inl p_], S_)) rfl ?_
      refine sm_T_bin (w := (S_.2.2.1 132 0 mo_.toNat) + (S_.1 13 0 53)) rfl (bi_add (by omega) (by omega) (by omega)) ?_
      refine sm_T_bin (w := (i_shl 1 ((S_.2.2.1 132 0 mo_.toNat) + (S_.1 13 0 53)))) rfl rfl ?_
      have bx3_ : i_shl 1 ((S_.2.2.1 132 0 mo_.toNat) + (S_.1 13 0 53)) = 2 ^ (I_ + R_) := by rw [i54_, u53_]; exact sh9_
      refine sm_T_br (a := 3) (z := 120) rfl (fun cx4_ => ?_) (fun cx4_ => ?_)
      · have cx4_ : (i_shl 1 ((S_.2.2.1 132 0 mo_.toNat) + (S_.1 13 0 53))) ≤ p_ := of_decide_eq_true cx4_
        refine sm_T_go 5 (c1 := (412, [some (.inr (.inr (some (13, 0)))), some (.inl d_), some (.inl mo_), some (.inl o_), some (.inl p_), none, none, none], [.inl d_, .inr (.inr (some (13, 0))), .inl d_, .inr (.inr (some (163, 0)))], S_)) rfl ?_
        refine sm_T_cal (d1 := 0) (Q1 := vq_361 d_ S_) rfl rfl (by decide) (vc_361 d_ S_ hI_ (by omega) (by (have z1_ := hk_.1.2.1; have z2_ := hk_.1.2.2.1; rw [show d_.toNat = dd_ by omega]; omega))) (fun u_ Sx5_ px8_ => ?_)
        obtain ⟨vx10_, rfl, hIx6_, hFx7_, px8_⟩ := px8_
        have hFx9_ : ai_fr (sx_W vw_360) S0_ Sx5_ := ai_fr_tr hF_ (fr_le hFx7_ rfl)
        have hRx11_ : rdf dd_ S0_ Sx5_ := rdf_tr hR_ (rdf_fr hFx7_ (by decide))
        have ex12_ : Sx5_.1 13 0 53 = S_.1 13 0 53 := hFx7_.1 13 0 53 rfl
        have e412_ := px8_
        have k412_ := dRk_fr (kdB_end (N_ := N_) (by rw [show p_.toNat = 2 ^ (I_ + R_) by omega, show (S0_.1 13 0 37).toNat = N_ by omega] at hk_; exact hk_) (by omega) (by omega) (by omega) (by omega) (by omega) (by have z9_ := hrn_.1; rw [hR1_.1, Int.toNat_natCast] at z9_; exact z9_)) hFx7_ (by decide)
        have t412_ : Sx5_.2.2.1 153 0 dd_ = 1 := (congrFun (fr_arr (t := 153) (i := 0) hFx7_ rfl) dd_).trans hk_.1.1
        refine sm_T_iast (n := 6) rfl rfl (by omega) (by omega) ?_
        have hIx13_ : gi (sm_aI Sx5_ 163 0 d_.toNat vx10_) := gi_aI hIx6_ (show 0 ≤ vx10_ ∧ vx10_ ≤ 64 from ⟨by omega, by omega⟩)
        have hFx14_ : ai_fr (sx_W vw_360) S0_ (sm_aI Sx5_ 163 0 d_.toNat vx10_) := ai_fr_tr hFx9_ (ai_fr_aI rfl)
        have hRx15_ : rdf dd_ S0_ (sm_aI Sx5_ 163 0 d_.toNat vx10_) := rdf_aI hRx11_ (Or.inr (by rw [show rds 163 = 1 from rfl]; omega))
        refine sm_T_rv rfl ⟨_, _, rfl, rfl, hIx13_, hFx14_, ?_⟩
        refine ⟨hRx15_, ?_⟩
        exact ⟨(rd_ne (by decide)).trans t412_, dRk_fr (w_ := ([], [163], [])) k412_ (ai_fr_aI rfl) (by decide)⟩
      · have cx4_ : ¬ ((i_shl 1 ((S_.2.2.1 132 0 mo_.toNat) + (S_.1 13 0 53))) ≤ p_) := of_decide_eq_false cx4_
        refine sm_T_go 6 (c1 := (297, [some (.inr (.inr (some (13, 0)))), some (.inl d_), some (.inl mo_), some (.inl o_), some (.inl p_), some (.inl 0), some (.inl 0), some (.inl 0)], [], S_)) rfl ?_
        refine ih_.2.2.2.2.1 mo_ o_ p_ 0 0 0 S_ hI_ hF_ ⟨?_, ?_, ?_, ?_, trivial⟩ ?_
        · omega
        · omega
        · exact hk_
        · exact hR_
        · omega
    · rintro mo_ o_ p_ ou_ nx_ k_ S_ hI_ hF_ ⟨hb_, h0_, hk_, hR_, -⟩ hm_
      have n37_ : S_.1 13 0 37 = S0_.1 13 0 37 := hF_.1 13 0 37 rfl
      have u53_ : S_.1 13 0 53 = (R_ : Int) := hk_.2.1.2.2.2
      have i54_ : S_.2.2.1 132 0 mo_.toNat = (I_ : Int) := by rw [fr_arr (t := 132) (i := 0) hF_ rfl, show mo_.toNat = tp_ by omega]; exact hI1_
      have gg_ := hg_.2.1
      have g0_ := hg_.1
      have pw9_ := pw_le (n := I_ + R_) (m := 12) (by omega)
      have pw8_ := pw_pos (I_ + R_)
      have sh9_ : i_shl 1 ((I_ : Int) + R_) = 2 ^ (I_ + R_) := by rw [i_shl1 (by omega) (by omega), show ((I_ : Int) + R_).toNat = I_ + R_ by omega]
      have pn9_ : ((2 ^ (I_ + R_) : Nat) : Int) = (2 : Int) ^ (I_ + R_) := by push_cast; rfl
      refine sm_T_go 2 (c1 := (300, [some (.inr (.inr (some (13, 0)))), some (.inl d_), some (.inl mo_), some (.inl o_), some (.inl p_), some (.inl ou_), some (.inl nx_), some (.inl k_)], [.inl o_, .inl k_], S_)) rfl ?_
      refine sm_T_br (a := 3) (z := 30) rfl (fun cx1_ => ?_) (fun cx1_ => ?_)
      · have cx1_ : o_ ≤ k_ := of_decide_eq_true cx1_
        refine sm_T_go 2 (c1 := (333, [some (.inr (.inr (some (13, 0)))), some (.inl d_), some (.inl mo_), some (.inl o_), some (.inl p_), some (.inl ou_), some (.inl nx_), some (.inl 0)], [], S_)) rfl ?_
        refine ih_.2.2.2.2.2 mo_ o_ p_ ou_ nx_ 0 S_ hI_ hF_ ⟨?_, ?_, ?_, ?_, ?_, trivial⟩ ?_
        · omega
        · omega
        · (rw [h0_.2.2.2.2.2.2]; exact ⟨Int.le_refl _, pw_pos _⟩)
        · exact hk_
        · exact hR_
        · omega
      · have cx1_ : ¬ (o_ ≤ k_) := of_decide_eq_false cx1_
        refine sm_T_go 5 (c1 := (312, [some (.inr (.inr (some (13, 0)))), some (.inl d_), some (.inl mo_), some (.inl o_), some (.inl p_), some (.inl ou_), some (.inl nx_), some (.inl k_)], [.inl k_, .inr (.inr (some (175, 0))), .inr (.inr (some (13, 0))), .inl ou_], S_)) rfl ?_
        refine sm_T_iald (n := 16) rfl rfl (by omega) (by omega) ?_
        have bx2_ : 0 ≤ S_.2.2.1 175 0 k_.toNat ∧ S_.2.2.1 175 0 k_.toNat ≤ 2047 := hI_.2 175 0 _
        refine sm_T_go 1 (c1 := (315, [some (.inr (.inr (some (13, 0)))), some (.inl d_), some (.inl mo_), some (.inl o_), some (.inl p_), some (.inl ou_), some (.inl nx_), some (.inl k_)], [.inl p_, .inl (S_.2.2.1 175 0 k_.toNat), .inr (.inr (some (13, 0))), .inl ou_], S_)) rfl ?_
        refine sm_T_cal (d1 := 1) (Q1 := vq_359 (S_.2.2.1 175 0 k_.toNat) p_ S_) rfl rfl (by decide) (vc_359 (S_.2.2.1 175 0 k_.toNat) p_ S_ hI_ (by (have c9_ := hI_.2 175 0 k_.toNat; have c8_ : 0 ≤ S_.2.2.1 175 0 k_.toNat ∧ S_.2.2.1 175 0 k_.toNat ≤ 2047 := c9_; omega)) (by omega)) (fun u_ Sx3_ px6_ => ?_)
        obtain ⟨rfl, vx8_, rfl, px6_⟩ := px6_
        have e315_ := px6_
        have bs9_ := bsh (k_ := 16) e315_ (show 0 ≤ k_ by omega) (by omega) (by decide)
        have or9_ := i_orp (x_ := ou_) (k_ := 16) (by decide) (by omega) bs9_
        refine sm_T_go 1 (c1 := (320, [some (.inr (.inr (some (13, 0)))), some (.inl d_), some (.inl mo_), some (.inl o_), some (.inl p_), some (.inl ou_), some (.inl nx_), some (.inl k_)], [.inl k_, .inl vx8_, .inl ou_], S_)) rfl ?_
        refine sm_T_bin (w := (i_shl vx8_ k_)) rfl rfl ?_
        refine sm_T_bin (w := (i_or ou_ (i_shl vx8_ k_))) rfl rfl ?_
        refine sm_T_go 1 (c1 := (324, [some (.inr (.inr (some (13, 0)))), some (.inl d_), some (.inl mo_), some (.inl o_), some (.inl p_), some (.inl (i_or ou_ (i_shl vx8_ k_))), some (.inl nx_), some (.inl k_)], [], S_)) rfl ?_
        refine sm_T_inc (a := 7) (z := 1) (v := k_) (w := k_ + 1) rfl rfl (by omega) (by omega) (by omega) ?_
        refine sm_T_go 1 (c1 := (297, [some (.inr (.inr (some (13, 0)))), some (.inl d_), some (.inl mo_), some (.inl o_), some (.inl p_), some (.inl (i_or ou_ (i_shl vx8_ k_))), some (.inl nx_), some (.inl (k_ + 1))], [], S_)) rfl ?_
        refine ih_.2.2.2.2.1 mo_ o_ p_ (i_or ou_ (i_shl vx8_ k_)) nx_ (k_ + 1) S_ hI_ hF_ ⟨?_, ?_, ?_, ?_, trivial⟩ ?_
        · omega
        · omega
        · exact hk_
        · exact hR_
        · omega
    · rintro mo_ o_ p_ ou_ nx_ k_ S_ hI_ hF_ ⟨hb_, h0_, hnx_, hk_, hR_, -⟩ hm_
      have n37_ : S_.1 13 0 37 = S0_.1 13 0 37 := hF_.1 13 0 37 rfl
      have u53_ : S_.1 13 0 53 = (R_ : Int) := hk_.2.1.2.2.2
      have i54_ : S_.2.2.1 132 0 mo_.toNat = (I_ : Int) := by rw [fr_arr (t := 132) (i := 0) hF_ rfl, show mo_.toNat = tp_ by omega]; exact hI1_
      have gg_ := hg_.2.1
      have g0_ := hg_.1
      have pw9_ := pw_le (n := I_ + R_) (m := 12) (by omega)
      have pw8_ := pw_pos (I_ + R_)
      have sh9_ : i_shl 1 ((I_ : Int) + R_) = 2 ^ (I_ + R_) := by rw [i_shl1 (by omega) (by omega), show ((I_ : Int) + R_).toNat = I_ + R_ by omega]
      have pn9_ : ((2 ^ (I_ + R_) : Nat) : Int) = (2 : Int) ^ (I_ + R_) := by push_cast; rfl
      have pr9_ := pw_le (n := R_) (m := 6) (by omega)
      have bx1_ : 0 ≤ S_.1 13 0 53 ∧ S_.1 13 0 53 ≤ 6 := hI_.1 13 0 53 rfl
      refine sm_T_go 3 (c1 := (339, [some (.inr (.inr (some (13, 0)))), some (.inl d_), some (.inl mo_), some (.inl o_), some (.inl p_), some (.inl ou_), some (.inl nx_), some (.inl k_)], [.inl (S_.1 13 0 53), .inl k_], S_)) rfl ?_
      refine sm_T_br (a := 3) (z := 30) rfl (fun cx2_ => ?_) (fun cx2_ => ?_)
      · have cx2_ : (S_.1 13 0 53) ≤ k_ := of_decide_eq_true cx2_
        refine sm_T_go 4 (c1 := (377, [some (.inr (.inr (some (13, 0)))), some (.inl d_), some (.inl mo_), some (.inl o_), some (.inl p_), some (.inl ou_), some (.inl nx_), some (.inl k_)], [.inl d_, .inl 4096, .inr (.inr (some (169, 0)))], S_)) rfl ?_
        refine sm_T_bin (w := 4096 * d_) rfl (bi_mul (by omega) (by omega) (by omega)) ?_
        refine sm_T_go 1 (c1 := (380, [some (.inr (.inr (some (13, 0)))), some (.inl d_), some (.inl mo_), some (.inl o_), some (.inl p_), some (.inl ou_), some (.inl nx_), some (.inl k_)], [.inl p_, .inl (4096 * d_), .inr (.inr (some (169, 0)))], S_)) rfl ?_
        refine sm_T_bin (w := 4096 * d_ + p_) rfl (bi_add (by omega) (by omega) (by omega)) ?_
        refine sm_T_go 1 (c1 := (383, [some (.inr (.inr (some (13, 0)))), some (.inl d_), some (.inl mo_), some (.inl o_), some (.inl p_), some (.inl ou_), some (.inl nx_), some (.inl k_)], [.inl ou_, .inl (4096 * d_ + p_), .inr (.inr (some (169, 0)))], S_)) rfl ?_
        refine sm_T_iast (n := 24576) rfl rfl (by omega) (by omega) ?_
        have hIx3_ : gi (sm_aI S_ 169 0 (4096 * d_ + p_).toNat ou_) := gi_aI hI_ (show 0 ≤ ou_ ∧ ou_ ≤ 65535 from ⟨by omega, by omega⟩)
        have hFx4_ : ai_fr (sx_W vw_360) S0_ (sm_aI S_ 169 0 (4096 * d_ + p_).toNat ou_) := ai_fr_tr hF_ (ai_fr_aI rfl)
        have hRx5_ : rdf dd_ S0_ (sm_aI S_ 169 0 (4096 * d_ + p_).toNat ou_) := rdf_aI hR_ (Or.inr (by rw [show rds 169 = 4096 from rfl]; omega))
        refine sm_T_go 4 (c1 := (392, [some (.inr (.inr (some (13, 0)))), some (.inl d_), some (.inl mo_), some (.inl o_), some (.inl p_), some (.inl ou_), some (.inl nx_), some (.inl k_)], [.inl d_, .inl 4096, .inr (.inr (some (170, 0)))], sm_aI S_ 169 0 (4096 * d_ + p_).toNat ou_)) rfl ?_
        refine sm_T_bin (w := 4096 * d_) rfl (bi_mul (by omega) (by omega) (by omega)) ?_
        refine sm_T_go 1 (c1 := (395, [some (.inr (.inr (some (13, 0)))), some (.inl d_), some (.inl mo_), some (.inl o_), some (.inl p_), some (.inl ou_), some (.inl nx_), some (.inl k_)], [.inl p_, .inl (4096 * d_), .inr (.inr (some (170, 0)))], sm_aI S_ 169 0 (4096 * d_ + p_).toNat ou_)) rfl ?_
        refine sm_T_bin (w := 4096 * d_ + p_) rfl (bi_add (by omega) (by omega) (by omega)) ?_
        refine sm_T_go 1 (c1 := (398, [some (.inr (.inr (some (13, 0)))), some (.inl d_), some (.inl mo_), some (.inl o_), some (.inl p_), some (.inl ou_), some (.inl nx_), some (.inl k_)], [.inl nx_, .inl (4096 * d_ + p_), .inr (.inr (some (170, 0)))], sm_aI S_ 169 0 (4096 * d_ + p_).toNat ou_)) rfl ?_
        refine sm_T_iast (n := 24576) rfl rfl (by omega) (by omega) ?_
        have hIx6_ : gi (sm_aI (sm_aI S_ 169 0 (4096 * d_ + p_).toNat ou_) 170 0 (4096 * d_ + p_).toNat nx_) := gi_aI hIx3_ (show 0 ≤ nx_ ∧ nx_ ≤ 63 from ⟨by omega, by omega⟩)
        have hFx7_ : ai_fr (sx_W vw_360) S0_ (sm_aI (sm_aI S_ 169 0 (4096 * d_ + p_).toNat ou_) 170 0 (4096 * d_ + p_).toNat nx_) := ai_fr_tr hFx4_ (ai_fr_aI rfl)
        have hRx8_ : rdf dd_ S0_ (sm_aI (sm_aI S_ 169 0 (4096 * d_ + p_).toNat ou_) 170 0 (4096 * d_ + p_).toNat nx_) := rdf_aI hRx5_ (Or.inr (by rw [show rds 170 = 4096 from rfl]; omega))
        refine sm_T_inc (a := 4) (z := 1) (v := p_) (w := p_ + 1) rfl rfl (by omega) (by omega) (by omega) ?_
        refine sm_T_go 1 (c1 := (270, [some (.inr (.inr (some (13, 0)))), some (.inl d_), some (.inl mo_), some (.inl o_), some (.inl (p_ + 1)), some (.inl ou_), some (.inl nx_), some (.inl k_)], [], sm_aI (sm_aI S_ 169 0 (4096 * d_ + p_).toNat ou_) 170 0 (4096 * d_ + p_).toNat nx_)) rfl ?_
        refine sm_T_wk [some (.inr (.inr (some (13, 0)))), some (.inl d_), some (.inl mo_), some (.inl o_), some (.inl (p_ + 1)), none, none, none] (by exact ⟨rfl, rfl, rfl, rfl, rfl, trivial⟩) ?_
        refine ih_.2.2.2.1 mo_ o_ (p_ + 1) (sm_aI (sm_aI S_ 169 0 (4096 * d_ + p_).toNat ou_) 170 0 (4096 * d_ + p_).toNat nx_) hIx6_ hFx7_ ⟨?_, ?_, ?_, ?_, trivial⟩ ?_
        · omega
        · omega
        · rw [show (p_ + 1).toNat = p_.toNat + 1 by omega]
          refine kdB_t (v_ := nx_) hk_ (ai_fr_tr (ai_fr_aI rfl) (ai_fr_aI rfl)) hnx_ (fun j9_ => ?_)
          rw [show 4096 * dd_ + p_.toNat = (4096 * d_ + p_).toNat by omega]
          (try simp only [rd_eq, rd_ne, rf_eq, rf_nk, rf_nt, rd_fa, rd_af, rd_fl, rd_al, rd_lf, rd_la, rd_leq, rd_lne, rd_fr, rd_ar, ne_eq, Nat.reduceEqDiff, not_false_eq_true])
        · exact hRx8_
        · omega
      · have cx2_ : ¬ ((S_.1 13 0 53) ≤ k_) := of_decide_eq_false cx2_
        refine sm_T_go 5 (c1 := (351, [some (.inr (.inr (some (13, 0)))), some (.inl d_), some (.inl mo_), some (.inl o_), some (.inl p_), some (.inl ou_), some (.inl nx_), some (.inl k_)], [.inl k_, .inr (.inr (some (151, 0))), .inr (.inr (some (13, 0))), .inl nx_], S_)) rfl ?_
        refine sm_T_iald (n := 1024) rfl rfl (by omega) (by omega) ?_
        have bx9_ : 0 ≤ S_.2.2.1 151 0 k_.toNat ∧ S_.2.2.1 151 0 k_.toNat ≤ 2047 := hI_.2 151 0 _
        refine sm_T_go 1 (c1 := (354, [some (.inr (.inr (some (13, 0)))), some (.inl d_), some (.inl mo_), some (.inl o_), some (.inl p_), some (.inl ou_), some (.inl nx_), some (.inl k_)], [.inl p_, .inl (S_.2.2.1 151 0 k_.toNat), .inr (.inr (some (13, 0))), .inl nx_], S_)) rfl ?_
        refine sm_T_cal (d1 := 1) (Q1 := vq_359 (S_.2.2.1 151 0 k_.toNat) p_ S_) rfl rfl (by decide) (vc_359 (S_.2.2.1 151 0 k_.toNat) p_ S_ hI_ (by (have c9_ := hI_.2 151 0 k_.toNat; have c8_ : 0 ≤ S_.2.2.1 151 0 k_.toNat ∧ S_.2.2.1 151 0 k_.toNat ≤ 2047 := c9_; omega)) (by omega)) (fun u_ Sx10_ px13_ => ?_)
        obtain ⟨rfl, vx15_, rfl, px13_⟩ := px13_
        have e354_ := px13_
        have bs9_ := bsh (k_ := R_) e354_ (show 0 ≤ k_ by omega) (by omega) (by omega)
        have or9_ := i_orp (x_ := nx_) (k_ := R_) (by omega) hnx_ bs9_
        refine sm_T_go 1 (c1 := (359, [some (.inr (.inr (some (13, 0)))), some (.inl d_), some (.inl mo_), some (.inl o_), some (.inl p_), some (.inl ou_), some (.inl nx_), some (.inl k_)], [.inl k_, .inl vx15_, .inl nx_], S_)) rfl ?_
        refine sm_T_bin (w := (i_shl vx15_ k_)) rfl rfl ?_
        refine sm_T_bin (w := (i_or nx_ (i_shl vx15_ k_))) rfl rfl ?_
        refine sm_T_go 1 (c1 := (363, [some (.inr (.inr (some (13, 0)))), some (.inl d_), some (.inl mo_), some (.inl o_), some (.inl p_), some (.inl ou_), some (.inl (i_or nx_ (i_shl vx15_ k_))), some (.inl k_)], [], S_)) rfl ?_
        refine sm_T_inc (a := 7) (z := 1) (v := k_) (w := k_ + 1) rfl rfl (by omega) (by omega) (by omega) ?_
        refine sm_T_go 1 (c1 := (333, [some (.inr (.inr (some (13, 0)))), some (.inl d_), some (.inl mo_), some (.inl o_), some (.inl p_), some (.inl ou_), some (.inl (i_or nx_ (i_shl vx15_ k_))), some (.inl (k_ + 1))], [], S_)) rfl ?_
        refine ih_.2.2.2.2.2 mo_ o_ p_ ou_ (i_or nx_ (i_shl vx15_ k_)) (k_ + 1) S_ hI_ hF_ ⟨?_, ?_, ?_, ?_, ?_, trivial⟩ ?_
        · omega
        · omega
        · exact or9_
        · exact hk_
        · exact hR_
        · omega
set_option maxHeartbeats 4000000 in
set_option maxRecDepth 20000 in
theorem vc_360 {sc_ : Nat × (Nat → Int)} (d_ : Int) (b_ : Nat → Int) (n_ : Nat) (T_ : Nat) (tp_ : Nat) (B_ : pA) (e_ : gE) (N_ : Nat) (F_ : Nat) (I_ : Nat) (R_ : Nat) (dd_ : Nat) (S0_ : sm_S) (hI_ : gi S0_) (hd_ : d_ = (dd_ : Int) ∧ dd_ ≤ 5) (hmo_ : (S0_.1 13 0 12) = (tp_ : Int) + 1 ∧ tp_ ≤ 15) (hre_ : re1 b_ n_ T_ B_ tp_ S0_) (hB_ : a_ok b_ n_ B_ tp_) (hsu_ : 1 ≤ su (t_in B_ 1 tp_) (B_.1 tp_) ∧ su (t_in B_ 1 tp_) (B_.1 tp_) ≤ 16) (hE_ : ∀ s9_, s9_ < 40 → rwv (S0_.2.2.1 144 0) (8 * s9_) (e_ s9_)) (hln_ : ∀ s9_, s9_ < B_.1 tp_ → B_.2.2.1 (40 * tp_ + s9_) ≠ 5 → ((e_ s9_).length : Int) = B_.2.2.2.1 (40 * tp_ + s9_)) (hlw_ : ∀ s9_, lwl N_ (e_ s9_)) (hN_ : (S0_.1 13 0 37) = (N_ : Int)) (hg_ : rgr F_ S0_) (hrn_ : rnS S0_) (hI1_ : S0_.2.2.1 132 0 tp_ = (I_ : Int)) (hR1_ : (S0_.1 13 0 53) = (R_ : Int) ∧ R_ ≤ 6) (hFn_ : F_ = 1 + I_ + R_ ∧ F_ ≤ 13) : sm_T (mt_P sc_) 2 360 (0, [some (.inr (.inr (some (13, 0)))), some (.inl d_), none, none, none, none, none, none], [], S0_) (fun ro9_ => ∃ u_ S1_, ro9_ = (.inl u_, S1_, 0) ∧ vq_360 d_ b_ n_ T_ tp_ B_ e_ N_ F_ I_ R_ dd_ S0_ u_ S1_) := by
  have hF_ : ai_fr (sx_W vw_360) S0_ S0_ := ai_fr_rf
  have hR_ : rdf dd_ S0_ S0_ := rdf_rf
  have bx1_ : 0 ≤ S0_.1 13 0 12 ∧ S0_.1 13 0 12 ≤ 16 := hI_.1 13 0 12 rfl
  refine sm_T_go 3 (c1 := (5, [some (.inr (.inr (some (13, 0)))), some (.inl d_), none, none, none, none, none, none], [.inl 1, .inl (S0_.1 13 0 12)], S0_)) rfl ?_
  refine sm_T_bin (w := (S0_.1 13 0 12) - 1) rfl (bi_sub (by omega) (by omega) (by omega)) ?_
  refine sm_T_go 2 (c1 := (8, [some (.inr (.inr (some (13, 0)))), some (.inl d_), some (.inl ((S0_.1 13 0 12) - 1)), none, none, none, none, none], [.inr (.inr (some (13, 0)))], S0_)) rfl ?_
  refine sm_T_cal (d1 := 1) (Q1 := vq_352 F_ S0_) rfl rfl (by decide) (vc_352 F_ S0_ hI_ (by exact hg_)) (fun u_ Sx2_ px5_ => ?_)
  obtain ⟨rfl, hIx3_, hFx4_, px5_⟩ := px5_
  have hFx6_ : ai_fr (sx_W vw_360) S0_ Sx2_ := ai_fr_tr hF_ (fr_le hFx4_ rfl)
  have hRx7_ : rdf dd_ S0_ Sx2_ := rdf_tr hR_ (rdf_fr hFx4_ (by decide))
  have ex8_ : Sx2_.1 13 0 12 = S0_.1 13 0 12 := hFx4_.1 13 0 12 rfl
  have e8_ := px5_
  have g8_ := rgr_fr hg_ hFx4_ rfl rfl rfl rfl
  have a40_ := fr_arr (t := 140) (i := 0) hFx4_ rfl
  have a41_ := fr_arr (t := 141) (i := 0) hFx4_ rfl
  have n8_ := hFx4_.1 13 0 37 rfl
  refine sm_T_go 1 (c1 := (12, [some (.inr (.inr (some (13, 0)))), some (.inl d_), some (.inl ((S0_.1 13 0 12) - 1)), none, none, none, none, none], [.inr (.inr (some (13, 0)))], Sx2_)) rfl ?_
  refine sm_T_cal (d1 := 1) (Q1 := vq_354 F_ Sx2_) rfl rfl (by decide) (vc_354 F_ Sx2_ hIx3_ (by exact g8_) (by (rw [a40_, a41_, n8_]; exact e8_))) (fun u_ Sx9_ px12_ => ?_)
  obtain ⟨rfl, hIx10_, hFx11_, px12_⟩ := px12_
  have hFx13_ : ai_fr (sx_W vw_360) S0_ Sx9_ := ai_fr_tr hFx6_ (fr_le hFx11_ rfl)
  have hRx14_ : rdf dd_ S0_ Sx9_ := rdf_tr hRx7_ (rdf_fr hFx11_ (by decide))
  have s12_ := px12_
  have g12_ := rgr_fr g8_ hFx11_ rfl rfl rfl rfl
  refine sm_T_go 1 (c1 := (16, [some (.inr (.inr (some (13, 0)))), some (.inl d_), some (.inl ((S0_.1 13 0 12) - 1)), none, none, none, none, none], [.inr (.inr (some (13, 0)))], Sx9_)) rfl ?_
  refine sm_T_cal (d1 := 0) (Q1 := vq_357 b_ n_ T_ tp_ B_ e_ N_ Sx9_) rfl rfl (by decide) (vc_357 b_ n_ T_ tp_ B_ e_ N_ Sx9_ hIx10_ (by (rw [hFx13_.1 13 0 12 rfl]; exact hmo_)) (by exact re1_fr hre_ hFx13_ rfl rfl rfl rfl rfl rfl) (by exact hB_) (by exact hsu_.2) (by (rw [fr_arr (t := 144) (i := 0) hFx13_ rfl]; exact hE_)) (by exact hln_) (by exact hlw_)) (fun u_ Sx15_ px18_ => ?_)
  obtain ⟨vx20_, rfl, hIx16_, hFx17_, px18_⟩ := px18_
  have hFx19_ : ai_fr (sx_W vw_360) S0_ Sx15_ := ai_fr_tr hFx13_ (fr_le hFx17_ rfl)
  have hRx21_ : rdf dd_ S0_ Sx15_ := rdf_tr hRx14_ (rdf_fr hFx17_ (by decide))
  have e16_ := px18_
  have g16_ := rgr_fr g12_ hFx17_ rfl rfl rfl rfl
  have s16_ := rsw_fr s12_ hFx17_ rfl rfl rfl rfl
  have n16_ : Sx15_.1 13 0 37 = (N_ : Int) := (hFx19_.1 13 0 37 rfl).trans hN_
  have u16_ : Sx15_.1 13 0 53 = (R_ : Int) := (hFx19_.1 13 0 53 rfl).trans hR1_.1
  have R6_ := hR1_.2
  have b16_ : Sx15_.1 13 0 52 = S0_.1 13 0 52 := hFx19_.1 13 0 52 rfl
  have i16_ : Sx15_.2.2.1 132 0 (S0_.1 13 0 12 - 1).toNat = (I_ : Int) := by rw [fr_arr (t := 132) (i := 0) hFx19_ rfl, show (S0_.1 13 0 12 - 1).toNat = tp_ by omega]; exact hI1_
  have f16_ := g16_.1.1
  have gz16_ := g16_.2.1
  have o16_ : 1 ≤ vx20_ ∧ vx20_ ≤ 16 := by omega
  have r16_ : rrt vx20_ Sx15_ := ⟨by omega, by omega, fun k9_ hk9_ => by rw [n16_]; exact e16_.2 k9_ hk9_, fun k9_ hk9_ => by rw [hFx19_.1 13 0 37 rfl, fr_arr (t := 151) hFx19_ rfl]; exact hrn_.2 k9_ (by omega)⟩
  have bb16_ : 0 ≤ S0_.1 13 0 52 ∧ S0_.1 13 0 52 ≤ 63 := hI_.1 13 0 52 rfl
  refine sm_T_go 5 (c1 := (26, [some (.inr (.inr (some (13, 0)))), some (.inl d_), some (.inl ((S0_.1 13 0 12) - 1)), some (.inl vx20_), none, none, none, none], [.inl 1, .inl d_, .inr (.inr (some (153, 0)))], Sx15_)) rfl ?_
  refine sm_T_zas1 (n := 6) rfl rfl (by omega) (by omega) (by omega) ?_
  have hIx22_ : gi (sm_aI Sx15_ 153 0 d_.toNat 1) := gi_aI hIx16_ (show 0 ≤ 1 ∧ 1 ≤ 1 from ⟨by omega, by omega⟩)
  have hFx23_ : ai_fr (sx_W vw_360) S0_ (sm_aI Sx15_ 153 0 d_.toNat 1) := ai_fr_tr hFx19_ (ai_fr_aI rfl)
  have hRx24_ : rdf dd_ S0_ (sm_aI Sx15_ 153 0 d_.toNat 1) := rdf_aI hRx21_ (Or.inr (by rw [show rds 153 = 1 from rfl]; omega))
  refine sm_T_go 6 (c1 := (37, [some (.inr (.inr (some (13, 0)))), some (.inl d_), some (.inl ((S0_.1 13 0 12) - 1)), some (.inl vx20_), none, none, none, none], [.inl ((S0_.1 13 0 12) - 1), .inr (.inr (some (132, 0))), .inl d_, .inr (.inr (some (154, 0)))], sm_aI Sx15_ 153 0 d_.toNat 1)) rfl ?_
  refine sm_T_iald (n := 16) rfl rfl (by omega) (by omega) ?_
  have bx25_ : 0 ≤ Sx15_.2.2.1 132 0 ((S0_.1 13 0 12) - 1).toNat ∧ Sx15_.2.2.1 132 0 ((S0_.1 13 0 12) - 1).toNat ≤ 320 := hIx16_.2 132 0 _
  refine sm_T_go 0 (c1 := (38, [some (.inr (.inr (some (13, 0)))), some (.inl d_), some (.inl ((S0_.1 13 0 12) - 1)), some (.inl vx20_), none, none, none, none], [.inl (Sx15_.2.2.1 132 0 ((S0_.1 13 0 12) - 1).toNat), .inl d_, .inr (.inr (some (154, 0)))], sm_aI Sx15_ 153 0 d_.toNat 1)) rfl ?_
  refine sm_T_iast (n := 6) rfl rfl (by omega) (by omega) ?_
  have hIx26_ : gi (sm_aI (sm_aI Sx15_ 153 0 d_.toNat 1) 154 0 d_.toNat (Sx15_.2.2.1 132 0 ((S0_.1 13 0 12) - 1).toNat)) := gi_aI hIx22_ (show 0 ≤ (Sx15_.2.2.1 132 0 ((S0_.1 13 0 12) - 1).toNat) ∧ (Sx15_.2.2.1 132 0 ((S0_.1 13 0 12) - 1).toNat) ≤ 12 from ⟨by omega, by omega⟩)
  have hFx27_ : ai_fr (sx_W vw_360) S0_ (sm_aI (sm_aI Sx15_ 153 0 d_.toNat 1) 154 0 d_.toNat (Sx15_.2.2.1 132 0 ((S0_.1 13 0 12) - 1).toNat)) := ai_fr_tr hFx23_ (ai_fr_aI rfl)
  have hRx28_ : rdf dd_ S0_ (sm_aI (sm_aI Sx15_ 153 0 d_.toNat 1) 154 0 d_.toNat (Sx15_.2.2.1 132 0 ((S0_.1 13 0 12) - 1).toNat)) := rdf_aI hRx24_ (Or.inr (by rw [show rds 154 = 1 from rfl]; omega))
  have bx29_ : 0 ≤ Sx15_.1 13 0 53 ∧ Sx15_.1 13 0 53 ≤ 6 := hIx16_.1 13 0 53 rfl
  refine sm_T_go 5 (c1 := (48, [some (.inr (.inr (some (13, 0)))), some (.inl d_), some (.inl ((S0_.1 13 0 12) - 1)), some (.inl vx20_), none, none, none, none], [.inl (Sx15_.1 13 0 53), .inl d_, .inr (.inr (some (155, 0)))], sm_aI (sm_aI Sx15_ 153 0 d_.toNat 1) 154 0 d_.toNat (Sx15_.2.2.1 132 0 ((S0_.1 13 0 12) - 1).toNat))) rfl ?_
  refine sm_T_iast (n := 6) rfl rfl (by omega) (by omega) ?_
  have hIx30_ : gi (sm_aI (sm_aI (sm_aI Sx15_ 153 0 d_.toNat 1) 154 0 d_.toNat (Sx15_.2.2.1 132 0 ((S0_.1 13 0 12) - 1).toNat)) 155 0 d_.toNat (Sx15_.1 13 0 53)) := gi_aI hIx26_ (show 0 ≤ (Sx15_.1 13 0 53) ∧ (Sx15_.1 13 0 53) ≤ 6 from ⟨by omega, by omega⟩)
  have hFx31_ : ai_fr (sx_W vw_360) S0_ (sm_aI (sm_aI (sm_aI Sx15_ 153 0 d_.toNat 1) 154 0 d_.toNat (Sx15_.2.2.1 132 0 ((S0_.1 13 0 12) - 1).toNat)) 155 0 d_.toNat (Sx15_.1 13 0 53)) := ai_fr_tr hFx27_ (ai_fr_aI rfl)
  have hRx32_ : rdf dd_ S0_ (sm_aI (sm_aI (sm_aI Sx15_ 153 0 d_.toNat 1) 154 0 d_.toNat (Sx15_.2.2.1 132 0 ((S0_.1 13 0 12) - 1).toNat)) 155 0 d_.toNat (Sx15_.1 13 0 53)) := rdf_aI hRx28_ (Or.inr (by rw [show rds 155 = 1 from rfl]; omega))
  refine sm_T_go 4 (c1 := (55, [some (.inr (.inr (some (13, 0)))), some (.inl d_), some (.inl ((S0_.1 13 0 12) - 1)), some (.inl vx20_), none, none, none, none], [.inl vx20_, .inl d_, .inr (.inr (some (156, 0)))], sm_aI (sm_aI (sm_aI Sx15_ 153 0 d_.toNat 1) 154 0 d_.toNat (Sx15_.2.2.1 132 0 ((S0_.1 13 0 12) - 1).toNat)) 155 0 d_.toNat (Sx15_.1 13 0 53))) rfl ?_
  refine sm_T_iast (n := 6) rfl rfl (by omega) (by omega) ?_
  have hIx33_ : gi (sm_aI (sm_aI (sm_aI (sm_aI Sx15_ 153 0 d_.toNat 1) 154 0 d_.toNat (Sx15_.2.2.1 132 0 ((S0_.1 13 0 12) - 1).toNat)) 155 0 d_.toNat (Sx15_.1 13 0 53)) 156 0 d_.toNat vx20_) := gi_aI hIx30_ (show 0 ≤ vx20_ ∧ vx20_ ≤ 16 from ⟨by omega, by omega⟩)
  have hFx34_ : ai_fr (sx_W vw_360) S0_ (sm_aI (sm_aI (sm_aI (sm_aI Sx15_ 153 0 d_.toNat 1) 154 0 d_.toNat (Sx15_.2.2.1 132 0 ((S0_.1 13 0 12) - 1).toNat)) 155 0 d_.toNat (Sx15_.1 13 0 53)) 156 0 d_.toNat vx20_) := ai_fr_tr hFx31_ (ai_fr_aI rfl)
  have hRx35_ : rdf dd_ S0_ (sm_aI (sm_aI (sm_aI (sm_aI Sx15_ 153 0 d_.toNat 1) 154 0 d_.toNat (Sx15_.2.2.1 132 0 ((S0_.1 13 0 12) - 1).toNat)) 155 0 d_.toNat (Sx15_.1 13 0 53)) 156 0 d_.toNat vx20_) := rdf_aI hRx32_ (Or.inr (by rw [show rds 156 = 1 from rfl]; omega))
  have bx36_ : 0 ≤ Sx15_.1 13 0 52 ∧ Sx15_.1 13 0 52 ≤ 63 := hIx16_.1 13 0 52 rfl
  refine sm_T_go 5 (c1 := (65, [some (.inr (.inr (some (13, 0)))), some (.inl d_), some (.inl ((S0_.1 13 0 12) - 1)), some (.inl vx20_), none, none, none, none], [.inl (Sx15_.1 13 0 52), .inl d_, .inr (.inr (some (157, 0)))], sm_aI (sm_aI (sm_aI (sm_aI Sx15_ 153 0 d_.toNat 1) 154 0 d_.toNat (Sx15_.2.2.1 132 0 ((S0_.1 13 0 12) - 1).toNat)) 155 0 d_.toNat (Sx15_.1 13 0 53)) 156 0 d_.toNat vx20_)) rfl ?_
  refine sm_T_iast (n := 6) rfl rfl (by omega) (by omega) ?_
  have hIx37_ : gi (sm_aI (sm_aI (sm_aI (sm_aI (sm_aI Sx15_ 153 0 d_.toNat 1) 154 0 d_.toNat (Sx15_.2.2.1 132 0 ((S0_.1 13 0 12) - 1).toNat)) 155 0 d_.toNat (Sx15_.1 13 0 53)) 156 0 d_.toNat vx20_) 157 0 d_.toNat (Sx15_.1 13 0 52)) := gi_aI hIx33_ (show 0 ≤ (Sx15_.1 13 0 52) ∧ (Sx15_.1 13 0 52) ≤ 63 from ⟨by omega, by omega⟩)
  have hFx38_ : ai_fr (sx_W vw_360) S0_ (sm_aI (sm_aI (sm_aI (sm_aI (sm_aI Sx15_ 153 0 d_.toNat 1) 154 0 d_.toNat (Sx15_.2.2.1 132 0 ((S0_.1 13 0 12) - 1).toNat)) 155 0 d_.toNat (Sx15_.1 13 0 53)) 156 0 d_.toNat vx20_) 157 0 d_.toNat (Sx15_.1 13 0 52)) := ai_fr_tr hFx34_ (ai_fr_aI rfl)
  have hRx39_ : rdf dd_ S0_ (sm_aI (sm_aI (sm_aI (sm_aI (sm_aI Sx15_ 153 0 d_.toNat 1) 154 0 d_.toNat (Sx15_.2.2.1 132 0 ((S0_.1 13 0 12) - 1).toNat)) 155 0 d_.toNat (Sx15_.1 13 0 53)) 156 0 d_.toNat vx20_) 157 0 d_.toNat (Sx15_.1 13 0 52)) := rdf_aI hRx35_ (Or.inr (by rw [show rds 157 = 1 from rfl]; omega))
  refine sm_T_go 5 (c1 := (75, [some (.inr (.inr (some (13, 0)))), some (.inl d_), some (.inl ((S0_.1 13 0 12) - 1)), some (.inl vx20_), none, none, none, none], [.inl (Sx15_.1 13 0 52), .inl d_, .inr (.inr (some (158, 0)))], sm_aI (sm_aI (sm_aI (sm_aI (sm_aI Sx15_ 153 0 d_.toNat 1) 154 0 d_.toNat (Sx15_.2.2.1 132 0 ((S0_.1 13 0 12) - 1).toNat)) 155 0 d_.toNat (Sx15_.1 13 0 53)) 156 0 d_.toNat vx20_) 157 0 d_.toNat (Sx15_.1 13 0 52))) rfl ?_
  refine sm_T_iast (n := 6) rfl rfl (by omega) (by omega) ?_
  have hIx40_ : gi (sm_aI (sm_aI (sm_aI (sm_aI (sm_aI (sm_aI Sx15_ 153 0 d_.toNat 1) 154 0 d_.toNat (Sx15_.2.2.1 132 0 ((S0_.1 13 0 12) - 1).toNat)) 155 0 d_.toNat (Sx15_.1 13 0 53)) 156 0 d_.toNat vx20_) 157 0 d_.toNat (Sx15_.1 13 0 52)) 158 0 d_.toNat (Sx15_.1 13 0 52)) := gi_aI hIx37_ (show 0 ≤ (Sx15_.1 13 0 52) ∧ (Sx15_.1 13 0 52) ≤ 63 from ⟨by omega, by omega⟩)
  have hFx41_ : ai_fr (sx_W vw_360) S0_ (sm_aI (sm_aI (sm_aI (sm_aI (sm_aI (sm_aI Sx15_ 153 0 d_.toNat 1) 154 0 d_.toNat (Sx15_.2.2.1 132 0 ((S0_.1 13 0 12) - 1).toNat)) 155 0 d_.toNat (Sx15_.1 13 0 53)) 156 0 d_.toNat vx20_) 157 0 d_.toNat (Sx15_.1 13 0 52)) 158 0 d_.toNat (Sx15_.1 13 0 52)) := ai_fr_tr hFx38_ (ai_fr_aI rfl)
  have hRx42_ : rdf dd_ S0_ (sm_aI (sm_aI (sm_aI (sm_aI (sm_aI (sm_aI Sx15_ 153 0 d_.toNat 1) 154 0 d_.toNat (Sx15_.2.2.1 132 0 ((S0_.1 13 0 12) - 1).toNat)) 155 0 d_.toNat (Sx15_.1 13 0 53)) 156 0 d_.toNat vx20_) 157 0 d_.toNat (Sx15_.1 13 0 52)) 158 0 d_.toNat (Sx15_.1 13 0 52)) := rdf_aI hRx39_ (Or.inr (by rw [show rds 158 = 1 from rfl]; omega))
  have bx43_ : 0 ≤ Sx15_.1 13 0 37 ∧ Sx15_.1 13 0 37 ≤ 1014 := hIx16_.1 13 0 37 rfl
  refine sm_T_go 5 (c1 := (85, [some (.inr (.inr (some (13, 0)))), some (.inl d_), some (.inl ((S0_.1 13 0 12) - 1)), some (.inl vx20_), none, none, none, none], [.inl (Sx15_.1 13 0 37), .inl d_, .inr (.inr (some (159, 0)))], sm_aI (sm_aI (sm_aI (sm_aI (sm_aI (sm_aI Sx15_ 153 0 d_.toNat 1) 154 0 d_.toNat (Sx15_.2.2.1 132 0 ((S0_.1 13 0 12) - 1).toNat)) 155 0 d_.toNat (Sx15_.1 13 0 53)) 156 0 d_.toNat vx20_) 157 0 d_.toNat (Sx15_.1 13 0 52)) 158 0 d_.toNat (Sx15_.1 13 0 52))) rfl ?_
  refine sm_T_iast (n := 6) rfl rfl (by omega) (by omega) ?_
  have hIx44_ : gi (sm_aI (sm_aI (sm_aI (sm_aI (sm_aI (sm_aI (sm_aI Sx15_ 153 0 d_.toNat 1) 154 0 d_.toNat (Sx15_.2.2.1 132 0 ((S0_.1 13 0 12) - 1).toNat)) 155 0 d_.toNat (Sx15_.1 13 0 53)) 156 0 d_.toNat vx20_) 157 0 d_.toNat (Sx15_.1 13 0 52)) 158 0 d_.toNat (Sx15_.1 13 0 52)) 159 0 d_.toNat (Sx15_.1 13 0 37)) := gi_aI hIx40_ (show 0 ≤ (Sx15_.1 13 0 37) ∧ (Sx15_.1 13 0 37) ≤ 1013 from ⟨by omega, by omega⟩)
  have hFx45_ : ai_fr (sx_W vw_360) S0_ (sm_aI (sm_aI (sm_aI (sm_aI (sm_aI (sm_aI (sm_aI Sx15_ 153 0 d_.toNat 1) 154 0 d_.toNat (Sx15_.2.2.1 132 0 ((S0_.1 13 0 12) - 1).toNat)) 155 0 d_.toNat (Sx15_.1 13 0 53)) 156 0 d_.toNat vx20_) 157 0 d_.toNat (Sx15_.1 13 0 52)) 158 0 d_.toNat (Sx15_.1 13 0 52)) 159 0 d_.toNat (Sx15_.1 13 0 37)) := ai_fr_tr hFx41_ (ai_fr_aI rfl)
  have hRx46_ : rdf dd_ S0_ (sm_aI (sm_aI (sm_aI (sm_aI (sm_aI (sm_aI (sm_aI Sx15_ 153 0 d_.toNat 1) 154 0 d_.toNat (Sx15_.2.2.1 132 0 ((S0_.1 13 0 12) - 1).toNat)) 155 0 d_.toNat (Sx15_.1 13 0 53)) 156 0 d_.toNat vx20_) 157 0 d_.toNat (Sx15_.1 13 0 52)) 158 0 d_.toNat (Sx15_.1 13 0 52)) 159 0 d_.toNat (Sx15_.1 13 0 37)) := rdf_aI hRx42_ (Or.inr (by rw [show rds 159 = 1 from rfl]; omega))
  have bx47_ : 0 ≤ Sx15_.1 13 0 38 ∧ Sx15_.1 13 0 38 ≤ 19 := hIx16_.1 13 0 38 rfl
  refine sm_T_go 5 (c1 := (95, [some (.inr (.inr (some (13, 0)))), some (.inl d_), some (.inl ((S0_.1 13 0 12) - 1)), some (.inl vx20_), none, none, none, none], [.inl (Sx15_.1 13 0 38), .inl d_, .inr (.inr (some (160, 0)))], sm_aI (sm_aI (sm_aI (sm_aI (sm_aI (sm_aI (sm_aI Sx15_ 153 0 d_.toNat 1) 154 0 d_.toNat (Sx15_.2.2.1 132 0 ((S0_.1 13 0 12) - 1).toNat)) 155 0 d_.toNat (Sx15_.1 13 0 53)) 156 0 d_.toNat vx20_) 157 0 d_.toNat (Sx15_.1 13 0 52)) 158 0 d_.toNat (Sx15_.1 13 0 52)) 159 0 d_.toNat (Sx15_.1 13 0 37))) rfl ?_
  refine sm_T_iast (n := 6) rfl rfl (by omega) (by omega) ?_
  have hIx48_ : gi (sm_aI (sm_aI (sm_aI (sm_aI (sm_aI (sm_aI (sm_aI (sm_aI Sx15_ 153 0 d_.toNat 1) 154 0 d_.toNat (Sx15_.2.2.1 132 0 ((S0_.1 13 0 12) - 1).toNat)) 155 0 d_.toNat (Sx15_.1 13 0 53)) 156 0 d_.toNat vx20_) 157 0 d_.toNat (Sx15_.1 13 0 52)) 158 0 d_.toNat (Sx15_.1 13 0 52)) 159 0 d_.toNat (Sx15_.1 13 0 37)) 160 0 d_.toNat (Sx15_.1 13 0 38)) := gi_aI hIx44_ (show 0 ≤ (Sx15_.1 13 0 38) ∧ (Sx15_.1 13 0 38) ≤ 19 from ⟨by omega, by omega⟩)
  have hFx49_ : ai_fr (sx_W vw_360) S0_ (sm_aI (sm_aI (sm_aI (sm_aI (sm_aI (sm_aI (sm_aI (sm_aI Sx15_ 153 0 d_.toNat 1) 154 0 d_.toNat (Sx15_.2.2.1 132 0 ((S0_.1 13 0 12) - 1).toNat)) 155 0 d_.toNat (Sx15_.1 13 0 53)) 156 0 d_.toNat vx20_) 157 0 d_.toNat (Sx15_.1 13 0 52)) 158 0 d_.toNat (Sx15_.1 13 0 52)) 159 0 d_.toNat (Sx15_.1 13 0 37)) 160 0 d_.toNat (Sx15_.1 13 0 38)) := ai_fr_tr hFx45_ (ai_fr_aI rfl)
  have hRx50_ : rdf dd_ S0_ (sm_aI (sm_aI (sm_aI (sm_aI (sm_aI (sm_aI (sm_aI (sm_aI Sx15_ 153 0 d_.toNat 1) 154 0 d_.toNat (Sx15_.2.2.1 132 0 ((S0_.1 13 0 12) - 1).toNat)) 155 0 d_.toNat (Sx15_.1 13 0 53)) 156 0 d_.toNat vx20_) 157 0 d_.toNat (Sx15_.1 13 0 52)) 158 0 d_.toNat (Sx15_.1 13 0 52)) 159 0 d_.toNat (Sx15_.1 13 0 37)) 160 0 d_.toNat (Sx15_.1 13 0 38)) := rdf_aI hRx46_ (Or.inr (by rw [show rds 160 = 1 from rfl]; omega))
  refine sm_T_go 5 (c1 := (103, [some (.inr (.inr (some (13, 0)))), some (.inl d_), some (.inl ((S0_.1 13 0 12) - 1)), some (.inl vx20_), none, none, none, none], [.inl vx20_, .inr (.inr (some (13, 0))), .inl d_, .inr (.inr (some (161, 0)))], sm_aI (sm_aI (sm_aI (sm_aI (sm_aI (sm_aI (sm_aI (sm_aI Sx15_ 153 0 d_.toNat 1) 154 0 d_.toNat (Sx15_.2.2.1 132 0 ((S0_.1 13 0 12) - 1).toNat)) 155 0 d_.toNat (Sx15_.1 13 0 53)) 156 0 d_.toNat vx20_) 157 0 d_.toNat (Sx15_.1 13 0 52)) 158 0 d_.toNat (Sx15_.1 13 0 52)) 159 0 d_.toNat (Sx15_.1 13 0 37)) 160 0 d_.toNat (Sx15_.1 13 0 38))) rfl ?_
  refine sm_T_cal (d1 := 0) (Q1 := vq_358 vx20_ F_ (sm_aI (sm_aI (sm_aI (sm_aI (sm_aI (sm_aI (sm_aI (sm_aI Sx15_ 153 0 d_.toNat 1) 154 0 d_.toNat (Sx15_.2.2.1 132 0 ((S0_.1 13 0 12) - 1).toNat)) 155 0 d_.toNat (Sx15_.1 13 0 53)) 156 0 d_.toNat vx20_) 157 0 d_.toNat (Sx15_.1 13 0 52)) 158 0 d_.toNat (Sx15_.1 13 0 52)) 159 0 d_.toNat (Sx15_.1 13 0 37)) 160 0 d_.toNat (Sx15_.1 13 0 38))) rfl rfl (by decide) (vc_358 vx20_ F_ (sm_aI (sm_aI (sm_aI (sm_aI (sm_aI (sm_aI (sm_aI (sm_aI Sx15_ 153 0 d_.toNat 1) 154 0 d_.toNat (Sx15_.2.2.1 132 0 ((S0_.1 13 0 12) - 1).toNat)) 155 0 d_.toNat (Sx15_.1 13 0 53)) 156 0 d_.toNat vx20_) 157 0 d_.toNat (Sx15_.1 13 0 52)) 158 0 d_.toNat (Sx15_.1 13 0 52)) 159 0 d_.toNat (Sx15_.1 13 0 37)) 160 0 d_.toNat (Sx15_.1 13 0 38)) hIx48_ (by exact rgr_fr (w_ := ([], [153, 154, 155, 156, 157, 158, 159, 160], [])) g16_ kd8.2 rfl rfl rfl rfl) (by exact rrt_fr (w_ := ([], [153, 154, 155, 156, 157, 158, 159, 160], [])) r16_ kd8.2 rfl rfl rfl rfl)) (fun u_ Sx51_ px54_ => ?_)
  obtain ⟨vx56_, rfl, hIx52_, hFx53_, px54_⟩ := px54_
  have hFx55_ : ai_fr (sx_W vw_360) S0_ Sx51_ := ai_fr_tr hFx49_ (fr_le hFx53_ rfl)
  have hRx57_ : rdf dd_ S0_ Sx51_ := rdf_tr hRx50_ (rdf_fr hFx53_ (by decide))
  have e103_ := px54_
  have K8_ := (kd8 : (((sm_aI (sm_aI (sm_aI (sm_aI (sm_aI (sm_aI (sm_aI (sm_aI Sx15_ 153 0 d_.toNat 1) 154 0 d_.toNat (Sx15_.2.2.1 132 0 ((S0_.1 13 0 12) - 1).toNat)) 155 0 d_.toNat (Sx15_.1 13 0 53)) 156 0 d_.toNat vx20_) 157 0 d_.toNat (Sx15_.1 13 0 52)) 158 0 d_.toNat (Sx15_.1 13 0 52)) 159 0 d_.toNat (Sx15_.1 13 0 37)) 160 0 d_.toNat (Sx15_.1 13 0 38))).2.2.1 153 0 d_.toNat = _ ∧ ((sm_aI (sm_aI (sm_aI (sm_aI (sm_aI (sm_aI (sm_aI (sm_aI Sx15_ 153 0 d_.toNat 1) 154 0 d_.toNat (Sx15_.2.2.1 132 0 ((S0_.1 13 0 12) - 1).toNat)) 155 0 d_.toNat (Sx15_.1 13 0 53)) 156 0 d_.toNat vx20_) 157 0 d_.toNat (Sx15_.1 13 0 52)) 158 0 d_.toNat (Sx15_.1 13 0 52)) 159 0 d_.toNat (Sx15_.1 13 0 37)) 160 0 d_.toNat (Sx15_.1 13 0 38))).2.2.1 154 0 d_.toNat = _ ∧ ((sm_aI (sm_aI (sm_aI (sm_aI (sm_aI (sm_aI (sm_aI (sm_aI Sx15_ 153 0 d_.toNat 1) 154 0 d_.toNat (Sx15_.2.2.1 132 0 ((S0_.1 13 0 12) - 1).toNat)) 155 0 d_.toNat (Sx15_.1 13 0 53)) 156 0 d_.toNat vx20_) 157 0 d_.toNat (Sx15_.1 13 0 52)) 158 0 d_.toNat (Sx15_.1 13 0 52)) 159 0 d_.toNat (Sx15_.1 13 0 37)) 160 0 d_.toNat (Sx15_.1 13 0 38))).2.2.1 155 0 d_.toNat = _ ∧ ((sm_aI (sm_aI (sm_aI (sm_aI (sm_aI (sm_aI (sm_aI (sm_aI Sx15_ 153 0 d_.toNat 1) 154 0 d_.toNat (Sx15_.2.2.1 132 0 ((S0_.1 13 0 12) - 1).toNat)) 155 0 d_.toNat (Sx15_.1 13 0 53)) 156 0 d_.toNat vx20_) 157 0 d_.toNat (Sx15_.1 13 0 52)) 158 0 d_.toNat (Sx15_.1 13 0 52)) 159 0 d_.toNat (Sx15_.1 13 0 37)) 160 0 d_.toNat (Sx15_.1 13 0 38))).2.2.1 156 0 d_.toNat = _ ∧ ((sm_aI (sm_aI (sm_aI (sm_aI (sm_aI (sm_aI (sm_aI (sm_aI Sx15_ 153 0 d_.toNat 1) 154 0 d_.toNat (Sx15_.2.2.1 132 0 ((S0_.1 13 0 12) - 1).toNat)) 155 0 d_.toNat (Sx15_.1 13 0 53)) 156 0 d_.toNat vx20_) 157 0 d_.toNat (Sx15_.1 13 0 52)) 158 0 d_.toNat (Sx15_.1 13 0 52)) 159 0 d_.toNat (Sx15_.1 13 0 37)) 160 0 d_.toNat (Sx15_.1 13 0 38))).2.2.1 157 0 d_.toNat = _ ∧ ((sm_aI (sm_aI (sm_aI (sm_aI (sm_aI (sm_aI (sm_aI (sm_aI Sx15_ 153 0 d_.toNat 1) 154 0 d_.toNat (Sx15_.2.2.1 132 0 ((S0_.1 13 0 12) - 1).toNat)) 155 0 d_.toNat (Sx15_.1 13 0 53)) 156 0 d_.toNat vx20_) 157 0 d_.toNat (Sx15_.1 13 0 52)) 158 0 d_.toNat (Sx15_.1 13 0 52)) 159 0 d_.toNat (Sx15_.1 13 0 37)) 160 0 d_.toNat (Sx15_.1 13 0 38))).2.2.1 158 0 d_.toNat = _ ∧ ((sm_aI (sm_aI (sm_aI (sm_aI (sm_aI (sm_aI (sm_aI (sm_aI Sx15_ 153 0 d_.toNat 1) 154 0 d_.toNat (Sx15_.2.2.1 132 0 ((S0_.1 13 0 12) - 1).toNat)) 155 0 d_.toNat (Sx15_.1 13 0 53)) 156 0 d_.toNat vx20_) 157 0 d_.toNat (Sx15_.1 13 0 52)) 158 0 d_.toNat (Sx15_.1 13 0 52)) 159 0 d_.toNat (Sx15_.1 13 0 37)) 160 0 d_.toNat (Sx15_.1 13 0 38))).2.2.1 159 0 d_.toNat = _ ∧ ((sm_aI (sm_aI (sm_aI (sm_aI (sm_aI (sm_aI (sm_aI (sm_aI Sx15_ 153 0 d_.toNat 1) 154 0 d_.toNat (Sx15_.2.2.1 132 0 ((S0_.1 13 0 12) - 1).toNat)) 155 0 d_.toNat (Sx15_.1 13 0 53)) 156 0 d_.toNat vx20_) 157 0 d_.toNat (Sx15_.1 13 0 52)) 158 0 d_.toNat (Sx15_.1 13 0 52)) 159 0 d_.toNat (Sx15_.1 13 0 37)) 160 0 d_.toNat (Sx15_.1 13 0 38))).2.2.1 160 0 d_.toNat = _) ∧ ai_fr (sx_W ([], [153, 154, 155, 156, 157, 158, 159, 160], [])) _ ((sm_aI (sm_aI (sm_aI (sm_aI (sm_aI (sm_aI (sm_aI (sm_aI Sx15_ 153 0 d_.toNat 1) 154 0 d_.toNat (Sx15_.2.2.1 132 0 ((S0_.1 13 0 12) - 1).toNat)) 155 0 d_.toNat (Sx15_.1 13 0 53)) 156 0 d_.toNat vx20_) 157 0 d_.toNat (Sx15_.1 13 0 52)) 158 0 d_.toNat (Sx15_.1 13 0 52)) 159 0 d_.toNat (Sx15_.1 13 0 37)) 160 0 d_.toNat (Sx15_.1 13 0 38))))
  have F103_ := ai_fr_tr (W := sx_W ([], [153, 154, 155, 156, 157, 158, 159, 160, 161, 162, 173, 174], [])) (fr_le K8_.2 rfl) (fr_le hFx53_ rfl)
  have G103_ : ai_fr (sx_W ([], [161, 162, 173, 174], [])) ((sm_aI (sm_aI (sm_aI (sm_aI (sm_aI (sm_aI (sm_aI (sm_aI Sx15_ 153 0 d_.toNat 1) 154 0 d_.toNat (Sx15_.2.2.1 132 0 ((S0_.1 13 0 12) - 1).toNat)) 155 0 d_.toNat (Sx15_.1 13 0 53)) 156 0 d_.toNat vx20_) 157 0 d_.toNat (Sx15_.1 13 0 52)) 158 0 d_.toNat (Sx15_.1 13 0 52)) 159 0 d_.toNat (Sx15_.1 13 0 37)) 160 0 d_.toNat (Sx15_.1 13 0 38))) Sx51_ := fr_le hFx53_ rfl
  obtain ⟨q0_, q1_, q2_, q3_, q4_, q5_, q6_, q7_⟩ := K8_.1
  refine sm_T_iast (n := 6) rfl rfl (by omega) (by omega) ?_
  have hIx58_ : gi (sm_aI Sx51_ 161 0 d_.toNat vx56_) := gi_aI hIx52_ (show 0 ≤ vx56_ ∧ vx56_ ≤ 1000 from ⟨by omega, by omega⟩)
  have hFx59_ : ai_fr (sx_W vw_360) S0_ (sm_aI Sx51_ 161 0 d_.toNat vx56_) := ai_fr_tr hFx55_ (ai_fr_aI rfl)
  have hRx60_ : rdf dd_ S0_ (sm_aI Sx51_ 161 0 d_.toNat vx56_) := rdf_aI hRx57_ (Or.inr (by rw [show rds 161 = 1 from rfl]; omega))
  refine sm_T_go 5 (c1 := (114, [some (.inr (.inr (some (13, 0)))), some (.inl d_), some (.inl ((S0_.1 13 0 12) - 1)), some (.inl vx20_), none, none, none, none], [.inl vx20_, .inr (.inr (some (13, 0))), .inl d_, .inr (.inr (some (162, 0)))], sm_aI Sx51_ 161 0 d_.toNat vx56_)) rfl ?_
  refine sm_T_cal (d1 := 1) (Q1 := vq_356 vx20_ F_ (sm_aI Sx51_ 161 0 d_.toNat vx56_)) rfl rfl (by decide) (vc_356 vx20_ F_ (sm_aI Sx51_ 161 0 d_.toNat vx56_) hIx58_ (by exact rgr_fr (w_ := ([], [153, 154, 155, 156, 157, 158, 159, 160, 161, 162, 173, 174], [])) g16_ (ai_fr_tr F103_ (ai_fr_aI rfl)) rfl rfl rfl rfl) (by exact rrt_fr (w_ := ([], [153, 154, 155, 156, 157, 158, 159, 160, 161, 162, 173, 174], [])) r16_ (ai_fr_tr F103_ (ai_fr_aI rfl)) rfl rfl rfl rfl) (by exact rsw_fr (w_ := ([], [153, 154, 155, 156, 157, 158, 159, 160, 161, 162, 173, 174], [])) s16_ (ai_fr_tr F103_ (ai_fr_aI rfl)) rfl rfl rfl rfl)) (fun u_ Sx61_ px64_ => ?_)
  obtain ⟨vx66_, rfl, hIx62_, hFx63_, px64_⟩ := px64_
  have hFx65_ : ai_fr (sx_W vw_360) S0_ Sx61_ := ai_fr_tr hFx59_ (fr_le hFx63_ rfl)
  have hRx67_ : rdf dd_ S0_ Sx61_ := rdf_tr hRx60_ (rdf_fr hFx63_ (by decide))
  have e114_ := px64_
  have F114_ := ai_fr_tr (ai_fr_tr F103_ (ai_fr_aI (t := 161) rfl)) (fr_le hFx63_ rfl)
  have G114_ := ai_fr_tr (ai_fr_tr G103_ (ai_fr_aI (t := 161) rfl)) (fr_le hFx63_ rfl)
  refine sm_T_iast (n := 6) rfl rfl (by omega) (by omega) ?_
  have hIx68_ : gi (sm_aI Sx61_ 162 0 d_.toNat vx66_) := gi_aI hIx62_ (show 0 ≤ vx66_ ∧ vx66_ ≤ 1000 from ⟨by omega, by omega⟩)
  have hFx69_ : ai_fr (sx_W vw_360) S0_ (sm_aI Sx61_ 162 0 d_.toNat vx66_) := ai_fr_tr hFx65_ (ai_fr_aI rfl)
  have hRx70_ : rdf dd_ S0_ (sm_aI Sx61_ 162 0 d_.toNat vx66_) := rdf_aI hRx67_ (Or.inr (by rw [show rds 162 = 1 from rfl]; omega))
  refine sm_T_go 2 (c1 := (121, [some (.inr (.inr (some (13, 0)))), some (.inl d_), some (.inl ((S0_.1 13 0 12) - 1)), some (.inl vx20_), some (.inl 0), none, none, none], [], sm_aI Sx61_ 162 0 d_.toNat vx66_)) rfl ?_
  refine (vl_360 d_ b_ n_ T_ tp_ B_ e_ N_ F_ I_ R_ dd_ S0_ hd_ hmo_ hre_ hB_ hsu_ hE_ hln_ hlw_ hN_ hg_ hrn_ hI1_ hR1_ hFn_ _).1 ((S0_.1 13 0 12) - 1) vx20_ 0 (sm_aI Sx61_ 162 0 d_.toNat vx66_) hIx68_ hFx69_ ⟨?_, ?_, ?_, ?_, trivial⟩ (Nat.lt_succ_self _)
  · omega
  · (clear K8_; omega)
  · have GE_ : ai_fr (sx_W ([], [161, 162, 173, 174], [])) _ ((sm_aI Sx61_ 162 0 d_.toNat vx66_)) := ai_fr_tr G114_ (ai_fr_aI rfl)
    have FE_ : ai_fr (sx_W ([], [153, 154, 155, 156, 157, 158, 159, 160, 161, 162, 173, 174], [])) _ ((sm_aI Sx61_ 162 0 d_.toNat vx66_)) := ai_fr_tr F114_ (ai_fr_aI rfl)
    have dn_ : d_.toNat = dd_ := by omega
    rw [← dn_]
    refine ⟨⟨(congrFun (fr_arr (t := 153) (i := 0) GE_ rfl) d_.toNat).trans q0_, (congrFun (fr_arr (t := 154) (i := 0) GE_ rfl) d_.toNat).trans (q1_.trans i16_), (congrFun (fr_arr (t := 155) (i := 0) GE_ rfl) d_.toNat).trans (q2_.trans u16_), (congrFun (fr_arr (t := 156) (i := 0) GE_ rfl) d_.toNat).trans q3_, (congrFun (fr_arr (t := 157) (i := 0) GE_ rfl) d_.toNat).trans (q4_.trans b16_), (congrFun (fr_arr (t := 158) (i := 0) GE_ rfl) d_.toNat).trans (q5_.trans b16_), (congrFun (fr_arr (t := 159) (i := 0) GE_ rfl) d_.toNat).trans (q6_.trans (FE_.1 13 0 37 rfl).symm), (congrFun (fr_arr (t := 160) (i := 0) GE_ rfl) d_.toNat).trans (q7_.trans f16_)⟩, ⟨rgr_fr g16_ FE_ rfl rfl rfl rfl, rsw_fr s16_ FE_ rfl rfl rfl rfl, rrt_fr r16_ FE_ rfl rfl rfl rfl, (FE_.1 13 0 53 rfl).trans u16_⟩, fun j9_ h9_ => absurd h9_ (Nat.not_lt_zero _), fun j9_ h9_ => absurd h9_ (Nat.not_lt_zero _), fun j9_ h9_ => absurd h9_ (Nat.not_lt_zero _), fun j9_ h9_ => absurd h9_ (Nat.not_lt_zero _)⟩
  · exact hRx70_
