/-! the reference: names; written by wip/p55/gen/vg -/

/-! named values -/
theorem rg_e2 {b_ : Nat → Int} {n_ T_ : Nat} {e_ : Int × Nat} {S_ S'_ : sm_S} (h_ : rg b_ n_ T_ (.inl e_) S_) (h1_ : S'_.1 13 0 10 = S_.1 13 0 10) (h2_ : S'_.1 13 0 11 = S_.1 13 0 11) : rg b_ n_ T_ (.inl e_) S'_ := ⟨h1_.trans h_.1, h2_.trans h_.2.1, h_.2.2⟩
theorem bi_pl {b_ : Nat → Int} {n_ p_ : Nat} {wd_ : Int} {l_ : List Int} : pb (p_bi b_ n_ wd_ l_ p_) (fun r_ => .inr r_.1) = p_bp b_ n_ wd_ p_ := by
  rw [bp_bi]
  cases p_bp b_ n_ wd_ p_ <;> rfl
theorem bi_1 {b_ : Nat → Int} {n_ p_ : Nat} {wd_ : Int} {l_ : List Int} {r_ : Nat × Int × List Int} (h_ : p_bi b_ n_ wd_ l_ p_ = .inr r_) : r_.2.1 = 1 ∧ p_bp b_ n_ wd_ p_ = .inr r_.1 := by
  rw [bp_bi] at h_
  obtain ⟨q_, h1_, h2_⟩ := pb_inr h_
  cases h2_
  exact ⟨rfl, h1_⟩
/-! M_.isValue -/
def vw_323 : sx_Wl := ([], [], [])
def vq_323 (s_ : Int) (S0_ : sm_S) (u_ : Option sm_V) (S1_ : sm_S) : Prop := S0_ = S1_ ∧ ∃ v_ : Int, u_ = some (.inl v_) ∧ ((v_ = 0 ∨ v_ = 1) ∧ (v_ = 1 ↔ 1 ≤ s_ ∧ s_ ≤ 4))
set_option maxHeartbeats 400000 in
theorem vc_323 {sc_ : Nat × (Nat → Int)} (s_ : Int) (S0_ : sm_S) (hI_ : gi S0_)  : sm_T (mt_P sc_) 0 323 (0, [some (.inl s_)], [], S0_) (fun r_ => ∃ u_ S1_, r_ = (.inl u_, S1_, 0) ∧ vq_323 s_ S0_ u_ S1_) := by
  have hF_ : ai_fr (sx_W vw_323) S0_ S0_ := ai_fr_rf
  refine sm_T_go 2 (c1 := (2, [some (.inl s_)], [.inl 1, .inl s_], S0_)) rfl ?_
  refine sm_T_br (a := 0) (z := 18) rfl (fun cx1_ => ?_) (fun cx1_ => ?_)
  · have cx1_ : s_ = 1 := of_decide_eq_true cx1_
    refine sm_T_go 2 (c1 := (25, [some (.inl s_)], [.inl 1], S0_)) rfl ?_
    refine sm_T_rz rfl (by omega) ⟨_, _, rfl, rfl, _, rfl, ?_⟩
    omega
  · have cx1_ : ¬ (s_ = 1) := of_decide_eq_false cx1_
    refine sm_T_go 2 (c1 := (7, [some (.inl s_)], [.inl 2, .inl s_], S0_)) rfl ?_
    refine sm_T_br (a := 0) (z := 13) rfl (fun cx2_ => ?_) (fun cx2_ => ?_)
    · have cx2_ : s_ = 2 := of_decide_eq_true cx2_
      refine sm_T_go 2 (c1 := (25, [some (.inl s_)], [.inl 1], S0_)) rfl ?_
      refine sm_T_rz rfl (by omega) ⟨_, _, rfl, rfl, _, rfl, ?_⟩
      omega
    · have cx2_ : ¬ (s_ = 2) := of_decide_eq_false cx2_
      refine sm_T_go 2 (c1 := (12, [some (.inl s_)], [.inl 3, .inl s_], S0_)) rfl ?_
      refine sm_T_br (a := 0) (z := 8) rfl (fun cx3_ => ?_) (fun cx3_ => ?_)
      · have cx3_ : s_ = 3 := of_decide_eq_true cx3_
        refine sm_T_go 2 (c1 := (25, [some (.inl s_)], [.inl 1], S0_)) rfl ?_
        refine sm_T_rz rfl (by omega) ⟨_, _, rfl, rfl, _, rfl, ?_⟩
        omega
      · have cx3_ : ¬ (s_ = 3) := of_decide_eq_false cx3_
        refine sm_T_go 2 (c1 := (17, [some (.inl s_)], [.inl 4, .inl s_], S0_)) rfl ?_
        refine sm_T_br (a := 1) (z := 7) rfl (fun cx4_ => ?_) (fun cx4_ => ?_)
        · have cx4_ : s_ ≠ 4 := of_decide_eq_true cx4_
          refine sm_T_go 1 (c1 := (25, [some (.inl s_)], [.inl 0], S0_)) rfl ?_
          refine sm_T_rz rfl (by omega) ⟨_, _, rfl, rfl, _, rfl, ?_⟩
          omega
        · have cx4_ : ¬ (s_ ≠ 4) := of_decide_eq_false cx4_
          refine sm_T_go 2 (c1 := (25, [some (.inl s_)], [.inl 1], S0_)) rfl ?_
          refine sm_T_rz rfl (by omega) ⟨_, _, rfl, rfl, _, rfl, ?_⟩
          omega
theorem re1_fr {w_ : sx_Wl} {S_ S'_ : sm_S} {b_ : Nat → Int} {n_ T_ m_ : Nat} {A_ : pA} (x_ : re1 b_ n_ T_ A_ m_ S_) (g_ : ai_fr (sx_W w_) S_ S'_) (h0_ : (sx_W w_).2.1 126 = false) (h1_ : (sx_W w_).2.1 127 = false) (h2_ : (sx_W w_).2.1 128 = false) (h3_ : (sx_W w_).2.1 129 = false) (h4_ : (sx_W w_).2.1 130 = false) (h5_ : (sx_W w_).2.1 131 = false) : re1 b_ n_ T_ A_ m_ S'_ := by
  unfold re1 at x_ ⊢
  rw [fr_arr g_ h0_, fr_arr g_ h1_, fr_arr g_ h2_, fr_arr g_ h3_, fr_arr g_ h4_, fr_arr g_ h5_]
  exact x_
