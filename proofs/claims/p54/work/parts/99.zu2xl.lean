/-! the reference: test, shows; written by wip/p55/gen/vg -/

def okr_test (a1_ a2_ : Int) (S_ : sm_S) : Prop := (0 ≤ a1_ ∧ a1_ < 4 ∧ S_.2.2.1 222 0 a1_.toNat = 1) ∧ (0 ≤ a2_ ∧ a2_ < fco a1_ S_)
def ora_shows (a1_ a2_ a3_ : Int) (S_ : sm_S) : Prop := (0 ≤ a1_ ∧ a1_ < 4 ∧ S_.2.2.1 222 0 a1_.toNat = 1) ∧ (0 ≤ a3_ ∧ a3_ < fco a1_ S_)
def okr_shows (a1_ a2_ a3_ : Int) (S_ : sm_S) : Prop := ora_shows a1_ a2_ a3_ S_ ∧ (0 ≤ a2_ ∧ a2_ < 2 ^ (S_.2.2.1 223 0 a1_.toNat + S_.2.2.1 224 0 a1_.toNat).toNat)
/-- a_ word's bit_ asked as_ the_ reference asks -/
theorem lb_q {x_ k_ : Int} {b_ : Bool} (hk_ : 0 ≤ k_ ∧ k_ ≤ 63) (h_ : b_ = true ↔ ¬ (sm_lcmp (l_3 (l_s2 x_ k_) 1) 1 ≠ 0)) : lbt x_ k_.toNat = b_ := by
  have e_ : sm_lcmp (l_3 (l_s2 x_ k_) 1) 1 = 0 ↔ l_3 (l_s2 x_ k_) 1 = 1 := by
    unfold sm_lcmp
    split
    · rename_i q_
      exact ⟨fun z_ => absurd z_ (by decide), fun z_ => by omega⟩
    · split
      · rename_i q_
        exact ⟨fun _ => q_, fun _ => rfl⟩
      · rename_i q_
        exact ⟨fun z_ => absurd z_ (by decide), fun z_ => absurd z_ q_⟩
  have v_ : l_3 (l_s2 x_ k_) 1 = if lbt x_ k_.toNat = true then 1 else 0 := by
    obtain ⟨u_, rfl⟩ : ∃ u_ : Nat, k_ = (u_ : Int) := ⟨k_.toNat, by omega⟩
    rw [Int.toNat_natCast]
    refine lbt_e (lcn_i _) (by split; exact lcn_i 1; exact lcn_i 0) (fun i_ hi_ => ?_)
    rw [lbt_3]
    by_cases c_ : i_ = 0
    · rw [c_, lbt_s2 (by omega), lbt_1, Bool.and_true]
      cases lbt x_ u_
      · rw [if_neg (by decide), lbt_0]
      · rw [if_pos rfl, lbt_1]
    · rw [lb_k1 ⟨i_, hi_⟩ c_, Bool.and_false]
      split
      · rw [lb_k1 ⟨i_, hi_⟩ c_]
      · rw [lbt_0]
  have h_ : b_ = true ↔ l_3 (l_s2 x_ k_) 1 = 1 := h_.trans (Decidable.not_not.trans e_)
  cases q_ : lbt x_ k_.toNat
  · rw [q_, if_neg (by decide)] at v_
    cases b_
    · rfl
    · have := h_.mp rfl
      omega
  · rw [q_, if_pos rfl] at v_
    cases b_
    · exact absurd (h_.mpr v_) (by decide)
    · rfl
/-! M_.leastPattern -/
def vw_520n : sx_Wl := ([(13, 221), (13, 222)], [238, 293, 294], [])
def vq_520n (c_ : Int) (f_ : Int) (S0_ : sm_S) (u_ : Option sm_V) (S1_ : sm_S) : Prop := ∃ v_ : Int, u_ = some (.inl v_) ∧ gi S1_ ∧ ai_fr (sx_W vw_520n) S0_ S1_ ∧ ((-1 ≤ v_ ∧ v_ ≤ 4095) ∧ rsl c_ S0_ f_ v_ ∧ S1_.2.2.1 294 0 (1280 * c_ + f_).toNat = v_ + 2 ∧ ∀ j9_, j9_ ≠ (1280 * c_ + f_).toNat → S1_.2.2.1 294 0 j9_ = S0_.2.2.1 294 0 j9_)
set_option maxHeartbeats 400000 in
set_option maxRecDepth 20000 in
theorem vc_520n {sc_ : Nat × (Nat → Int)} (c_ : Int) (f_ : Int) (S0_ : sm_S) (hI_ : gi S0_) (hc_ : 0 ≤ c_ ∧ c_ ≤ 3) (hx_ : S0_.2.2.1 223 0 c_.toNat + S0_.2.2.1 224 0 c_.toNat ≤ 12) (hg_ : cgt c_ S0_) (ho_ : con c_ S0_) (hf_ : 0 ≤ f_ ∧ f_ < fco c_ S0_) (hk_ : imq (S0_.2.2.1 294 0 (1280 * c_ + f_).toNat ≠ 0) (rsl c_ S0_ f_ (S0_.2.2.1 294 0 (1280 * c_ + f_).toNat - 2))) : sm_T (mt_P sc_) 4 520 (0, [some (.inr (.inr (some (13, 0)))), some (.inl c_), some (.inl f_)], [], S0_) (fun ro9_ => ∃ u_ S1_, ro9_ = (.inl u_, S1_, 0) ∧ vq_520n c_ f_ S0_ u_ S1_) := by
  have hF_ : ai_fr (sx_W vw_520n) S0_ S0_ := ai_fr_rf
  have fb9_ := fco_b hI_ hx_
  refine sm_T_go 4 (c1 := (8, [some (.inr (.inr (some (13, 0)))), some (.inl c_), some (.inl f_)], [.inl c_, .inl 1280, .inr (.inr (some (294, 0)))], S0_)) rfl ?_
  refine sm_T_bin (w := 1280 * c_) rfl (bi_mul (by omega) (by omega) (by omega)) ?_ -- pc_ 8
  refine sm_T_go 1 (c1 := (10, [some (.inr (.inr (some (13, 0)))), some (.inl c_), some (.inl f_)], [.inl f_, .inl (1280 * c_), .inr (.inr (some (294, 0)))], S0_)) rfl ?_
  refine sm_T_bin (w := 1280 * c_ + f_) rfl (bi_add (by omega) (by omega) (by omega)) ?_ -- pc_ 10
  refine sm_T_iald (n := 5120) rfl rfl (by omega) (by omega) ?_
  have bx1_ : 0 ≤ S0_.2.2.1 294 0 (1280 * c_ + f_).toNat ∧ S0_.2.2.1 294 0 (1280 * c_ + f_).toNat ≤ 4097 := hI_.2 294 0 _
  refine sm_T_b0 (a := 1) (z := 23) rfl (fun cx2_ => ?_) (fun cx2_ => ?_)
  · have cx2_ : (S0_.2.2.1 294 0 (1280 * c_ + f_).toNat) ≠ 0 := of_decide_eq_true cx2_
    refine sm_T_go 4 (c1 := (43, [some (.inr (.inr (some (13, 0)))), some (.inl c_), some (.inl f_)], [.inl c_, .inl 1280, .inr (.inr (some (294, 0)))], S0_)) rfl ?_
    refine sm_T_bin (w := 1280 * c_) rfl (bi_mul (by omega) (by omega) (by omega)) ?_ -- pc_ 43
    refine sm_T_go 1 (c1 := (45, [some (.inr (.inr (some (13, 0)))), some (.inl c_), some (.inl f_)], [.inl f_, .inl (1280 * c_), .inr (.inr (some (294, 0)))], S0_)) rfl ?_
    refine sm_T_bin (w := 1280 * c_ + f_) rfl (bi_add (by omega) (by omega) (by omega)) ?_ -- pc_ 45
    refine sm_T_iald (n := 5120) rfl rfl (by omega) (by omega) ?_
    refine sm_T_go 1 (c1 := (48, [some (.inr (.inr (some (13, 0)))), some (.inl c_), some (.inl f_)], [.inl 2, .inl (S0_.2.2.1 294 0 (1280 * c_ + f_).toNat)], S0_)) rfl ?_
    refine sm_T_bin (w := (S0_.2.2.1 294 0 (1280 * c_ + f_).toNat) - 2) rfl (bi_sub (by omega) (by omega) (by omega)) ?_ -- pc_ 48
    refine sm_T_ri rfl ⟨_, _, rfl, _, rfl, hI_, hF_, ?_⟩
    first | (have c9_ : S0_.2.2.1 294 0 (1280 * c_ + f_).toNat ≠ 0 := (by omega); have l9_ := hk_ c9_; exact ⟨by (rcases l9_ with l9_ | ⟨q9_, l8_, l7_, -⟩; omega; omega), l9_, by omega, fun _ _ => rfl⟩) | (rw [rd_eq, if_pos rfl]; refine ⟨by omega, ?_, by omega, fun j9_ hj9_ => ?_⟩; (rw [Int.add_sub_cancel]; exact e30_.2); (rw [rd_eq, if_neg hj9_, g30_]))
  · have cx2_ : ¬ ((S0_.2.2.1 294 0 (1280 * c_ + f_).toNat) ≠ 0) := of_decide_eq_false cx2_
    refine sm_T_go 4 (c1 := (23, [some (.inr (.inr (some (13, 0)))), some (.inl c_), some (.inl f_)], [.inl c_, .inl 1280, .inr (.inr (some (294, 0)))], S0_)) rfl ?_
    refine sm_T_bin (w := 1280 * c_) rfl (bi_mul (by omega) (by omega) (by omega)) ?_ -- pc_ 23
    refine sm_T_go 1 (c1 := (25, [some (.inr (.inr (some (13, 0)))), some (.inl c_), some (.inl f_)], [.inl f_, .inl (1280 * c_), .inr (.inr (some (294, 0)))], S0_)) rfl ?_
    refine sm_T_bin (w := 1280 * c_ + f_) rfl (bi_add (by omega) (by omega) (by omega)) ?_ -- pc_ 25
    refine sm_T_go 4 (c1 := (30, [some (.inr (.inr (some (13, 0)))), some (.inl c_), some (.inl f_)], [.inl f_, .inl c_, .inr (.inr (some (13, 0))), .inl 2, .inl (1280 * c_ + f_), .inr (.inr (some (294, 0)))], S0_)) rfl ?_
    refine sm_T_cal (d1 := 3) (Q1 := vq_521n c_ f_ S0_) rfl rfl (by decide) (vc_521n c_ f_ S0_ hI_ (by exact hc_) (by exact hx_) (by exact hg_) (by exact ho_) (by exact hf_)) (fun u_ Sx3_ px6_ => ?_)
    obtain ⟨vx8_, rfl, hIx4_, hFx5_, px6_⟩ := px6_
    have hFx7_ : ai_fr (sx_W vw_520n) S0_ Sx3_ := ai_fr_tr hF_ (fr_le hFx5_ rfl)
    have e30_ := px6_
    have g30_ : Sx3_.2.2.1 294 0 = S0_.2.2.1 294 0 := fr_arr hFx5_ rfl
    have b30_ := e30_.1
    refine sm_T_bin (w := vx8_ + 2) rfl (bi_add (by omega) (by omega) (by omega)) ?_ -- pc_ 33
    refine sm_T_iast (n := 5120) rfl rfl (by omega) (by omega) ?_
    have hIx9_ : gi (sm_aI Sx3_ 294 0 (1280 * c_ + f_).toNat (vx8_ + 2)) := gi_aI hIx4_ (show 0 ≤ vx8_ + 2 ∧ vx8_ + 2 ≤ 4097 from ⟨by omega, by omega⟩)
    have hFx10_ : ai_fr (sx_W vw_520n) S0_ (sm_aI Sx3_ 294 0 (1280 * c_ + f_).toNat (vx8_ + 2)) := ai_fr_tr hFx7_ (ai_fr_aI rfl)
    refine sm_T_go 4 (c1 := (43, [some (.inr (.inr (some (13, 0)))), some (.inl c_), some (.inl f_)], [.inl c_, .inl 1280, .inr (.inr (some (294, 0)))], sm_aI Sx3_ 294 0 (1280 * c_ + f_).toNat (vx8_ + 2))) rfl ?_
    refine sm_T_bin (w := 1280 * c_) rfl (bi_mul (by omega) (by omega) (by omega)) ?_ -- pc_ 43
    refine sm_T_go 1 (c1 := (45, [some (.inr (.inr (some (13, 0)))), some (.inl c_), some (.inl f_)], [.inl f_, .inl (1280 * c_), .inr (.inr (some (294, 0)))], sm_aI Sx3_ 294 0 (1280 * c_ + f_).toNat (vx8_ + 2))) rfl ?_
    refine sm_T_bin (w := 1280 * c_ + f_) rfl (bi_add (by omega) (by omega) (by omega)) ?_ -- pc_ 45
    refine sm_T_iald (n := 5120) rfl rfl (by omega) (by omega) ?_
    have bx11_ : 0 ≤ (sm_aI Sx3_ 294 0 (1280 * c_ + f_).toNat (vx8_ + 2)).2.2.1 294 0 (1280 * c_ + f_).toNat ∧ (sm_aI Sx3_ 294 0 (1280 * c_ + f_).toNat (vx8_ + 2)).2.2.1 294 0 (1280 * c_ + f_).toNat ≤ 4097 := hIx9_.2 294 0 _
    refine sm_T_go 1 (c1 := (48, [some (.inr (.inr (some (13, 0)))), some (.inl c_), some (.inl f_)], [.inl 2, .inl ((sm_aI Sx3_ 294 0 (1280 * c_ + f_).toNat (vx8_ + 2)).2.2.1 294 0 (1280 * c_ + f_).toNat)], sm_aI Sx3_ 294 0 (1280 * c_ + f_).toNat (vx8_ + 2))) rfl ?_
    refine sm_T_bin (w := ((sm_aI Sx3_ 294 0 (1280 * c_ + f_).toNat (vx8_ + 2)).2.2.1 294 0 (1280 * c_ + f_).toNat) - 2) rfl (bi_sub (by omega) (by omega) (by omega)) ?_ -- pc_ 48
    refine sm_T_ri rfl ⟨_, _, rfl, _, rfl, hIx9_, hFx10_, ?_⟩
    first | (have c9_ : S0_.2.2.1 294 0 (1280 * c_ + f_).toNat ≠ 0 := (by omega); have l9_ := hk_ c9_; exact ⟨by (rcases l9_ with l9_ | ⟨q9_, l8_, l7_, -⟩; omega; omega), l9_, by omega, fun _ _ => rfl⟩) | (rw [rd_eq, if_pos rfl]; refine ⟨by omega, ?_, by omega, fun j9_ hj9_ => ?_⟩; (rw [Int.add_sub_cancel]; exact e30_.2); (rw [rd_eq, if_neg hj9_, g30_]))
/-! M_.test -/
def vw_522t : sx_Wl := ([(13, 0), (13, 221), (13, 222)], [238, 293, 294], [])
def vq_522t (a1_ : Int) (a2_ : Int) (S0_ : sm_S) (u_ : Option sm_V) (S1_ : sm_S) : Prop := ∃ v_ : Int, u_ = some (.inl v_) ∧ gi S1_ ∧ ai_fr (sx_W vw_522t) S0_ S1_ ∧ (((-2147483648) ≤ v_ ∧ v_ ≤ 2147483647) ∧ (jR S1_ ∧ ((S1_.1 13 0 0 = 1 ∧ ¬ okr_test a1_ a2_ S0_ ∧ ∀ j9_, S1_.2.2.1 294 0 j9_ = S0_.2.2.1 294 0 j9_) ∨ (S1_.1 13 0 0 = 0 ∧ okr_test a1_ a2_ S0_ ∧ rsl a1_ S0_ a2_ v_ ∧ S1_.2.2.1 294 0 (1280 * a1_ + a2_).toNat = v_ + 2 ∧ ∀ j9_, j9_ ≠ (1280 * a1_ + a2_).toNat → S1_.2.2.1 294 0 j9_ = S0_.2.2.1 294 0 j9_))))
set_option maxHeartbeats 400000 in
set_option maxRecDepth 20000 in
theorem vc_522t {sc_ : Nat × (Nat → Int)} (a1_ : Int) (a2_ : Int) (S0_ : sm_S) (hI_ : gi S0_) (ha1_ : (-2147483648) ≤ a1_ ∧ a1_ ≤ 2147483647) (ha2_ : (-2147483648) ≤ a2_ ∧ a2_ ≤ 2147483647) (hJ_ : jR S0_) (hk_ : lsk S0_) : sm_T (mt_P sc_) 5 522 (0, [some (.inr (.inr (some (13, 0)))), some (.inl a1_), some (.inl a2_)], [], S0_) (fun ro9_ => ∃ u_ S1_, ro9_ = (.inl u_, S1_, 0) ∧ vq_522t a1_ a2_ S0_ u_ S1_) := by
  have hF_ : ai_fr (sx_W vw_522t) S0_ S0_ := ai_fr_rf
  refine sm_T_go 3 (c1 := (3, [some (.inr (.inr (some (13, 0)))), some (.inl a1_), some (.inl a2_)], [.inl a1_, .inr (.inr (some (13, 0))), .inr (.inr (some (13, 0)))], S0_)) rfl ?_
  refine sm_T_cal (d1 := 0) (Q1 := vq_371 a1_ S0_) rfl rfl (by decide) (vc_371 a1_ S0_ hI_ (by omega)) (fun u_ Sx1_ px4_ => ?_)
  obtain ⟨rfl, vx6_, rfl, px4_⟩ := px4_
  have d3_ := px4_
  refine sm_T_b0 (a := 0) (z := 16) rfl (fun cx7_ => ?_) (fun cx7_ => ?_)
  · have cx7_ : vx6_ = 0 := of_decide_eq_true cx7_
    have hIx8_ : gi (sm_pI S0_ 13 0 0 1) := gi_pI hI_ (show 0 ≤ 1 ∧ 1 ≤ 4 from ⟨by omega, by omega⟩)
    have hFx9_ : ai_fr (sx_W vw_522t) S0_ (sm_pI S0_ 13 0 0 1) := ai_fr_tr hF_ (ai_fr_pI rfl)
    refine sm_T_go 8 (c1 := (47, [some (.inr (.inr (some (13, 0)))), some (.inl a1_), some (.inl a2_)], [.inl 0], sm_pI S0_ 13 0 0 1)) rfl ?_
    refine sm_T_ri rfl ⟨_, _, rfl, _, rfl, hIx8_, hFx9_, ?_⟩
    refine ⟨⟨by omega, by omega⟩, jR_fr hJ_ hIx8_ hFx9_, ?_⟩
    first | exact Or.inl ⟨rf_eq, by (unfold okr_test; omega), fun _ => rfl⟩ | exact Or.inr ⟨cd44_, by (unfold okr_test; omega), e44_.2⟩
  · have cx7_ : ¬ (vx6_ = 0) := of_decide_eq_false cx7_
    have K9_ : cRk a1_ S0_ := hJ_.2 a1_ (by omega) (by omega) (by omega)
    obtain ⟨K1_, K2_, K3_, K4_, K5_, K6_, K7_⟩ := K9_
    have fb9_ := fco_b hI_ K1_
    refine sm_T_go 1 (c1 := (10, [some (.inr (.inr (some (13, 0)))), some (.inl a1_), some (.inl a2_)], [.inl a2_, .inr (.inr (some (13, 0)))], S0_)) rfl ?_
    refine sm_T_b0 (a := 2) (z := 12) rfl (fun cx10_ => ?_) (fun cx10_ => ?_)
    · have cx10_ : a2_ < 0 := of_decide_eq_true cx10_
      have hIx11_ : gi (sm_pI S0_ 13 0 0 1) := gi_pI hI_ (show 0 ≤ 1 ∧ 1 ≤ 4 from ⟨by omega, by omega⟩)
      have hFx12_ : ai_fr (sx_W vw_522t) S0_ (sm_pI S0_ 13 0 0 1) := ai_fr_tr hF_ (ai_fr_pI rfl)
      refine sm_T_go 8 (c1 := (47, [some (.inr (.inr (some (13, 0)))), some (.inl a1_), some (.inl a2_)], [.inl 0], sm_pI S0_ 13 0 0 1)) rfl ?_
      refine sm_T_ri rfl ⟨_, _, rfl, _, rfl, hIx11_, hFx12_, ?_⟩
      refine ⟨⟨by omega, by omega⟩, jR_fr hJ_ hIx11_ hFx12_, ?_⟩
      first | exact Or.inl ⟨rf_eq, by (unfold okr_test; omega), fun _ => rfl⟩ | exact Or.inr ⟨cd44_, by (unfold okr_test; omega), e44_.2⟩
    · have cx10_ : ¬ (a2_ < 0) := of_decide_eq_false cx10_
      refine sm_T_go 3 (c1 := (16, [some (.inr (.inr (some (13, 0)))), some (.inl a1_), some (.inl a2_)], [.inl a1_, .inr (.inr (some (13, 0))), .inl a2_, .inr (.inr (some (13, 0)))], S0_)) rfl ?_
      refine sm_T_cal (d1 := 1) (Q1 := vq_514 a1_ S0_) rfl rfl (by decide) (vc_514 a1_ S0_ hI_ (by omega) (by exact K1_)) (fun u_ Sx13_ px16_ => ?_)
      obtain ⟨rfl, vx18_, rfl, px16_⟩ := px16_
      have e16_ := px16_
      refine sm_T_br (a := 2) (z := 7) rfl (fun cx19_ => ?_) (fun cx19_ => ?_)
      · have cx19_ : a2_ < vx18_ := of_decide_eq_true cx19_
        have hIx20_ : gi (sm_pI S0_ 13 0 0 0) := gi_pI hI_ (show 0 ≤ 0 ∧ 0 ≤ 4 from ⟨by omega, by omega⟩)
        have hFx21_ : ai_fr (sx_W vw_522t) S0_ (sm_pI S0_ 13 0 0 0) := ai_fr_tr hF_ (ai_fr_pI rfl)
        refine sm_T_go 8 (c1 := (44, [some (.inr (.inr (some (13, 0)))), some (.inl a1_), some (.inl a2_)], [.inl a2_, .inl a1_, .inr (.inr (some (13, 0)))], sm_pI S0_ 13 0 0 0)) rfl ?_
        refine sm_T_cal (d1 := 4) (Q1 := vq_520n a1_ a2_ (sm_pI S0_ 13 0 0 0)) rfl rfl (by decide) (vc_520n a1_ a2_ (sm_pI S0_ 13 0 0 0) hIx20_ (by omega) (by exact K1_) (by exact K4_) (by exact K5_) (by (show 0 ≤ a2_ ∧ a2_ < fco a1_ S0_; omega)) (by exact hk_ a1_ (by omega) (by omega) (by omega) a2_ (by omega) (by omega))) (fun u_ Sx22_ px25_ => ?_)
        obtain ⟨vx27_, rfl, hIx23_, hFx24_, px25_⟩ := px25_
        have hFx26_ : ai_fr (sx_W vw_522t) S0_ Sx22_ := ai_fr_tr hFx21_ (fr_le hFx24_ rfl)
        have e44_ := px25_
        have b44_ := e44_.1
        have cd44_ : Sx22_.1 13 0 0 = 0 := (hFx24_.1 13 0 0 rfl).trans rf_eq
        refine sm_T_ri rfl ⟨_, _, rfl, _, rfl, hIx23_, hFx26_, ?_⟩
        refine ⟨⟨by omega, by omega⟩, jR_fr hJ_ hIx23_ hFx26_, ?_⟩
        first | exact Or.inl ⟨rf_eq, by (unfold okr_test; omega), fun _ => rfl⟩ | exact Or.inr ⟨cd44_, by (unfold okr_test; omega), e44_.2⟩
      · have cx19_ : ¬ (a2_ < vx18_) := of_decide_eq_false cx19_
        have hIx28_ : gi (sm_pI S0_ 13 0 0 1) := gi_pI hI_ (show 0 ≤ 1 ∧ 1 ≤ 4 from ⟨by omega, by omega⟩)
        have hFx29_ : ai_fr (sx_W vw_522t) S0_ (sm_pI S0_ 13 0 0 1) := ai_fr_tr hF_ (ai_fr_pI rfl)
        refine sm_T_go 8 (c1 := (47, [some (.inr (.inr (some (13, 0)))), some (.inl a1_), some (.inl a2_)], [.inl 0], sm_pI S0_ 13 0 0 1)) rfl ?_
        refine sm_T_ri rfl ⟨_, _, rfl, _, rfl, hIx28_, hFx29_, ?_⟩
        refine ⟨⟨by omega, by omega⟩, jR_fr hJ_ hIx28_ hFx29_, ?_⟩
        first | exact Or.inl ⟨rf_eq, by (unfold okr_test; omega), fun _ => rfl⟩ | exact Or.inr ⟨cd44_, by (unfold okr_test; omega), e44_.2⟩
/-! M_.shows -/
def vw_523t : sx_Wl := ([(13, 0), (13, 221), (13, 222)], [238, 293], [])
def vq_523t (a1_ : Int) (a2_ : Int) (a3_ : Int) (S0_ : sm_S) (u_ : Option sm_V) (S1_ : sm_S) : Prop := ∃ v_ : Int, u_ = some (.inl v_) ∧ gi S1_ ∧ ai_fr (sx_W vw_523t) S0_ S1_ ∧ (((-2147483648) ≤ v_ ∧ v_ ≤ 2147483647) ∧ (jR S1_ ∧ ((S1_.1 13 0 0 = 1 ∧ ¬ ora_shows a1_ a2_ a3_ S0_) ∨ (S1_.1 13 0 0 = 2 ∧ ora_shows a1_ a2_ a3_ S0_ ∧ ¬ okr_shows a1_ a2_ a3_ S0_) ∨ (S1_.1 13 0 0 = 0 ∧ okr_shows a1_ a2_ a3_ S0_ ∧ (v_ = 0 ∨ v_ = 1) ∧ rshq a1_ S0_ a3_ a2_.toNat (decide (v_ = 1))))))
set_option maxHeartbeats 400000 in
set_option maxRecDepth 20000 in
theorem vc_523t {sc_ : Nat × (Nat → Int)} (a1_ : Int) (a2_ : Int) (a3_ : Int) (S0_ : sm_S) (hI_ : gi S0_) (ha1_ : (-2147483648) ≤ a1_ ∧ a1_ ≤ 2147483647) (ha2_ : (-2147483648) ≤ a2_ ∧ a2_ ≤ 2147483647) (ha3_ : (-2147483648) ≤ a3_ ∧ a3_ ≤ 2147483647) (hJ_ : jR S0_) : sm_T (mt_P sc_) 3 523 (0, [some (.inr (.inr (some (13, 0)))), some (.inl a1_), some (.inl a2_), some (.inl a3_)], [], S0_) (fun ro9_ => ∃ u_ S1_, ro9_ = (.inl u_, S1_, 0) ∧ vq_523t a1_ a2_ a3_ S0_ u_ S1_) := by
  have hF_ : ai_fr (sx_W vw_523t) S0_ S0_ := ai_fr_rf
  refine sm_T_go 3 (c1 := (3, [some (.inr (.inr (some (13, 0)))), some (.inl a1_), some (.inl a2_), some (.inl a3_)], [.inl a1_, .inr (.inr (some (13, 0))), .inr (.inr (some (13, 0)))], S0_)) rfl ?_
  refine sm_T_cal (d1 := 0) (Q1 := vq_371 a1_ S0_) rfl rfl (by decide) (vc_371 a1_ S0_ hI_ (by omega)) (fun u_ Sx1_ px4_ => ?_)
  obtain ⟨rfl, vx6_, rfl, px4_⟩ := px4_
  have d3_ := px4_
  refine sm_T_b0 (a := 0) (z := 16) rfl (fun cx7_ => ?_) (fun cx7_ => ?_)
  · have cx7_ : vx6_ = 0 := of_decide_eq_true cx7_
    have hIx8_ : gi (sm_pI S0_ 13 0 0 1) := gi_pI hI_ (show 0 ≤ 1 ∧ 1 ≤ 4 from ⟨by omega, by omega⟩)
    have hFx9_ : ai_fr (sx_W vw_523t) S0_ (sm_pI S0_ 13 0 0 1) := ai_fr_tr hF_ (ai_fr_pI rfl)
    refine sm_T_go 7 (c1 := (62, [some (.inr (.inr (some (13, 0)))), some (.inl a1_), some (.inl a2_), some (.inl a3_)], [.inl 0], sm_pI S0_ 13 0 0 1)) rfl ?_
    refine sm_T_rz rfl (by omega) ⟨_, _, rfl, _, rfl, hIx8_, hFx9_, ?_⟩
    refine ⟨⟨by omega, by omega⟩, jR_fr hJ_ hIx8_ hFx9_, ?_⟩
    first | exact Or.inl ⟨rf_eq, by (unfold ora_shows; omega)⟩ | exact Or.inr (Or.inl ⟨rf_eq, by (unfold ora_shows; omega), by (unfold okr_shows ora_shows; omega)⟩) | exact Or.inr (Or.inr ⟨cd79_, by (unfold okr_shows ora_shows; omega), Or.inl rfl, b79_ ▸ s79_⟩) | exact Or.inr (Or.inr ⟨cd79_, by (unfold okr_shows ora_shows; omega), Or.inr rfl, b79_ ▸ s79_⟩)
  · have cx7_ : ¬ (vx6_ = 0) := of_decide_eq_false cx7_
    have K9_ : cRk a1_ S0_ := hJ_.2 a1_ (by omega) (by omega) (by omega)
    obtain ⟨K1_, K2_, K3_, K4_, K5_, K6_, K7_⟩ := K9_
    have fb9_ := fco_b hI_ K1_
    have w9_ := pw_le (n := (S0_.2.2.1 223 0 a1_.toNat + S0_.2.2.1 224 0 a1_.toNat).toNat) (m := 12) (by omega)
    have q1_ : 0 ≤ S0_.2.2.1 223 0 a1_.toNat ∧ S0_.2.2.1 223 0 a1_.toNat ≤ 12 := hI_.2 223 0 _
    have q2_ : 0 ≤ S0_.2.2.1 224 0 a1_.toNat ∧ S0_.2.2.1 224 0 a1_.toNat ≤ 6 := hI_.2 224 0 _
    refine sm_T_go 1 (c1 := (10, [some (.inr (.inr (some (13, 0)))), some (.inl a1_), some (.inl a2_), some (.inl a3_)], [.inl a3_, .inr (.inr (some (13, 0)))], S0_)) rfl ?_
    refine sm_T_b0 (a := 2) (z := 12) rfl (fun cx10_ => ?_) (fun cx10_ => ?_)
    · have cx10_ : a3_ < 0 := of_decide_eq_true cx10_
      have hIx11_ : gi (sm_pI S0_ 13 0 0 1) := gi_pI hI_ (show 0 ≤ 1 ∧ 1 ≤ 4 from ⟨by omega, by omega⟩)
      have hFx12_ : ai_fr (sx_W vw_523t) S0_ (sm_pI S0_ 13 0 0 1) := ai_fr_tr hF_ (ai_fr_pI rfl)
      refine sm_T_go 7 (c1 := (62, [some (.inr (.inr (some (13, 0)))), some (.inl a1_), some (.inl a2_), some (.inl a3_)], [.inl 0], sm_pI S0_ 13 0 0 1)) rfl ?_
      refine sm_T_rz rfl (by omega) ⟨_, _, rfl, _, rfl, hIx11_, hFx12_, ?_⟩
      refine ⟨⟨by omega, by omega⟩, jR_fr hJ_ hIx11_ hFx12_, ?_⟩
      first | exact Or.inl ⟨rf_eq, by (unfold ora_shows; omega)⟩ | exact Or.inr (Or.inl ⟨rf_eq, by (unfold ora_shows; omega), by (unfold okr_shows ora_shows; omega)⟩) | exact Or.inr (Or.inr ⟨cd79_, by (unfold okr_shows ora_shows; omega), Or.inl rfl, b79_ ▸ s79_⟩) | exact Or.inr (Or.inr ⟨cd79_, by (unfold okr_shows ora_shows; omega), Or.inr rfl, b79_ ▸ s79_⟩)
    · have cx10_ : ¬ (a3_ < 0) := of_decide_eq_false cx10_
      refine sm_T_go 3 (c1 := (16, [some (.inr (.inr (some (13, 0)))), some (.inl a1_), some (.inl a2_), some (.inl a3_)], [.inl a1_, .inr (.inr (some (13, 0))), .inl a3_, .inr (.inr (some (13, 0)))], S0_)) rfl ?_
      refine sm_T_cal (d1 := 1) (Q1 := vq_514 a1_ S0_) rfl rfl (by decide) (vc_514 a1_ S0_ hI_ (by omega) (by exact K1_)) (fun u_ Sx13_ px16_ => ?_)
      obtain ⟨rfl, vx18_, rfl, px16_⟩ := px16_
      have e16_ := px16_
      refine sm_T_br (a := 2) (z := 7) rfl (fun cx19_ => ?_) (fun cx19_ => ?_)
      · have cx19_ : a3_ < vx18_ := of_decide_eq_true cx19_
        refine sm_T_go 4 (c1 := (32, [some (.inr (.inr (some (13, 0)))), some (.inl a1_), some (.inl a2_), some (.inl a3_)], [.inl a1_, .inr (.inr (some (223, 0))), .inl a2_, .inr (.inr (some (13, 0)))], S0_)) rfl ?_
        refine sm_T_iald (n := 4) rfl rfl (by omega) (by omega) ?_
        have bx20_ : 0 ≤ S0_.2.2.1 223 0 a1_.toNat ∧ S0_.2.2.1 223 0 a1_.toNat ≤ 12 := hI_.2 223 0 _
        refine sm_T_go 3 (c1 := (38, [some (.inr (.inr (some (13, 0)))), some (.inl a1_), some (.inl a2_), some (.inl a3_)], [.inl a1_, .inr (.inr (some (224, 0))), .inl (S0_.2.2.1 223 0 a1_.toNat), .inl a2_, .inr (.inr (some (13, 0)))], S0_)) rfl ?_
        refine sm_T_iald (n := 4) rfl rfl (by omega) (by omega) ?_
        have bx21_ : 0 ≤ S0_.2.2.1 224 0 a1_.toNat ∧ S0_.2.2.1 224 0 a1_.toNat ≤ 6 := hI_.2 224 0 _
        refine sm_T_bin (w := (S0_.2.2.1 223 0 a1_.toNat) + (S0_.2.2.1 224 0 a1_.toNat)) rfl (bi_add (by omega) (by omega) (by omega)) ?_ -- pc_ 39
        refine sm_T_cal (d1 := 0) (Q1 := vq_381 a2_ ((S0_.2.2.1 223 0 a1_.toNat) + (S0_.2.2.1 224 0 a1_.toNat)) S0_) rfl rfl (by decide) (vc_381 a2_ ((S0_.2.2.1 223 0 a1_.toNat) + (S0_.2.2.1 224 0 a1_.toNat)) S0_ hI_ (by omega) (by omega)) (fun u_ Sx22_ px25_ => ?_)
        obtain ⟨rfl, vx27_, rfl, px25_⟩ := px25_
        have e40_ := px25_
        refine sm_T_b0 (a := 1) (z := 7) rfl (fun cx28_ => ?_) (fun cx28_ => ?_)
        · have cx28_ : vx27_ ≠ 0 := of_decide_eq_true cx28_
          have hIx29_ : gi (sm_pI S0_ 13 0 0 0) := gi_pI hI_ (show 0 ≤ 0 ∧ 0 ≤ 4 from ⟨by omega, by omega⟩)
          have hFx30_ : ai_fr (sx_W vw_523t) S0_ (sm_pI S0_ 13 0 0 0) := ai_fr_tr hF_ (ai_fr_pI rfl)
          refine sm_T_go 9 (c1 := (68, [some (.inr (.inr (some (13, 0)))), some (.inl a1_), some (.inl a2_), some (.inl a3_)], [.inl 6, .inl a2_, .inl a1_, .inr (.inr (some (13, 0)))], sm_pI S0_ 13 0 0 0)) rfl ?_
          refine sm_T_bin (w := (a2_ / 64)) rfl (bi_shr (k := 6) (by decide) (by omega) (by omega)) ?_ -- pc_ 68
          refine sm_T_cal (d1 := 2) (Q1 := vq_517n a1_ (a2_ / 64) (sm_pI S0_ 13 0 0 0)) rfl rfl (by decide) (vc_517n a1_ (a2_ / 64) (sm_pI S0_ 13 0 0 0) hIx29_ (by omega) (by exact K1_) (by exact K4_) (by exact K5_) (by omega)) (fun u_ Sx31_ px34_ => ?_)
          obtain ⟨rfl, hIx32_, hFx33_, px34_⟩ := px34_
          have hFx35_ : ai_fr (sx_W vw_523t) S0_ Sx31_ := ai_fr_tr hFx30_ (fr_le hFx33_ rfl)
          have r69_ := px34_
          have G69_ := hFx33_
          have F69_ := hFx35_
          have z3_ : Sx31_.2.2.1 223 0 a1_.toNat + Sx31_.2.2.1 224 0 a1_.toNat = S0_.2.2.1 223 0 a1_.toNat + S0_.2.2.1 224 0 a1_.toNat := by (rw [fr_arr hFx35_ (t := 223) rfl, fr_arr hFx35_ (t := 224) rfl])
          refine sm_T_go 4 (c1 := (77, [some (.inr (.inr (some (13, 0)))), some (.inl a1_), some (.inl a2_), some (.inl a3_)], [.inl 6, .inl a2_, .inl a1_, .inr (.inr (some (13, 0)))], Sx31_)) rfl ?_
          refine sm_T_bin (w := (a2_ / 64)) rfl (bi_shr (k := 6) (by decide) (by omega) (by omega)) ?_ -- pc_ 77
          refine sm_T_go 1 (c1 := (79, [some (.inr (.inr (some (13, 0)))), some (.inl a1_), some (.inl a2_), some (.inl a3_)], [.inl a3_, .inl (a2_ / 64), .inl a1_, .inr (.inr (some (13, 0)))], Sx31_)) rfl ?_
          refine sm_T_cal (d1 := 2) (Q1 := vq_518n a1_ (a2_ / 64) a3_ Sx31_) rfl rfl (by decide) (vc_518n a1_ (a2_ / 64) a3_ Sx31_ hIx32_ (by omega) (by (rw [fr_arr hFx35_ (t := 223) rfl, fr_arr hFx35_ (t := 224) rfl]; exact K1_)) (by exact cgt_fr (by omega) hIx32_ K4_ hFx35_) (by exact con_fr (by omega) hIx32_ K5_ hFx35_) (by omega) (by (rw [fco_fr hFx35_]; omega)) (by exact rgh_fr r69_ G69_)) (fun u_ Sx36_ px39_ => ?_)
          obtain ⟨vx41_, rfl, hIx37_, hFx38_, px39_⟩ := px39_
          have hFx40_ : ai_fr (sx_W vw_523t) S0_ Sx36_ := ai_fr_tr hFx35_ (fr_le hFx38_ rfl)
          have cd79_ : Sx36_.1 13 0 0 = 0 := (hFx38_.1 13 0 0 rfl).trans ((G69_.1 13 0 0 rfl).trans rf_eq)
          have s79_ := (rsh_fr F69_).mp ((px39_).1 (a2_ % 64).toNat (by omega) (by (rw [z3_]; by_cases y9_ : 6 ≤ S0_.2.2.1 223 0 a1_.toNat + S0_.2.2.1 224 0 a1_.toNat; exact Or.inr y9_; (left; have w7_ := pw_le (n := (S0_.2.2.1 223 0 a1_.toNat + S0_.2.2.1 224 0 a1_.toNat).toNat) (m := 6) (by omega); omega))))
          rw [show 64 * (a2_ / 64).toNat + (a2_ % 64).toNat = a2_.toNat by omega] at s79_
          refine sm_T_go 2 (c1 := (85, [some (.inr (.inr (some (13, 0)))), some (.inl a1_), some (.inl a2_), some (.inl a3_)], [.inl 63, .inl a2_, .inr (.inl vx41_)], Sx36_)) rfl ?_
          refine sm_T_bin (w := (a2_ % 64)) rfl (bi_msk (k := 6) (by decide)) ?_ -- pc_ 85
          refine sm_T_go 5 (c1 := (91, [some (.inr (.inr (some (13, 0)))), some (.inl a1_), some (.inl a2_), some (.inl a3_)], [.inl (sm_lcmp ((l_3 ((l_s2 vx41_ (a2_ % 64))) 1)) 1)], Sx36_)) rfl ?_
          refine sm_T_b0 (a := 1) (z := 7) rfl (fun cx42_ => ?_) (fun cx42_ => ?_)
          · have cx42_ : (sm_lcmp ((l_3 ((l_s2 vx41_ (a2_ % 64))) 1)) 1) ≠ 0 := of_decide_eq_true cx42_
            have b79_ := lb_q (b_ := decide ((0 : Int) = 1)) (by omega) ⟨fun z9_ => absurd z9_ (by decide), fun z9_ => absurd cx42_ z9_⟩
            refine sm_T_go 1 (c1 := (99, [some (.inr (.inr (some (13, 0)))), some (.inl a1_), some (.inl a2_), some (.inl a3_)], [.inl 0], Sx36_)) rfl ?_
            refine sm_T_rz rfl (by omega) ⟨_, _, rfl, _, rfl, hIx37_, hFx40_, ?_⟩
            refine ⟨⟨by omega, by omega⟩, jR_fr hJ_ hIx37_ hFx40_, ?_⟩
            first | exact Or.inl ⟨rf_eq, by (unfold ora_shows; omega)⟩ | exact Or.inr (Or.inl ⟨rf_eq, by (unfold ora_shows; omega), by (unfold okr_shows ora_shows; omega)⟩) | exact Or.inr (Or.inr ⟨cd79_, by (unfold okr_shows ora_shows; omega), Or.inl rfl, b79_ ▸ s79_⟩) | exact Or.inr (Or.inr ⟨cd79_, by (unfold okr_shows ora_shows; omega), Or.inr rfl, b79_ ▸ s79_⟩)
          · have cx42_ : ¬ ((sm_lcmp ((l_3 ((l_s2 vx41_ (a2_ % 64))) 1)) 1) ≠ 0) := of_decide_eq_false cx42_
            have b79_ := lb_q (b_ := decide ((1 : Int) = 1)) (by omega) ⟨fun _ => cx42_, fun _ => by decide⟩
            refine sm_T_go 2 (c1 := (99, [some (.inr (.inr (some (13, 0)))), some (.inl a1_), some (.inl a2_), some (.inl a3_)], [.inl 1], Sx36_)) rfl ?_
            refine sm_T_rz rfl (by omega) ⟨_, _, rfl, _, rfl, hIx37_, hFx40_, ?_⟩
            refine ⟨⟨by omega, by omega⟩, jR_fr hJ_ hIx37_ hFx40_, ?_⟩
            first | exact Or.inl ⟨rf_eq, by (unfold ora_shows; omega)⟩ | exact Or.inr (Or.inl ⟨rf_eq, by (unfold ora_shows; omega), by (unfold okr_shows ora_shows; omega)⟩) | exact Or.inr (Or.inr ⟨cd79_, by (unfold okr_shows ora_shows; omega), Or.inl rfl, b79_ ▸ s79_⟩) | exact Or.inr (Or.inr ⟨cd79_, by (unfold okr_shows ora_shows; omega), Or.inr rfl, b79_ ▸ s79_⟩)
        · have cx28_ : ¬ (vx27_ ≠ 0) := of_decide_eq_false cx28_
          have hIx43_ : gi (sm_pI S0_ 13 0 0 2) := gi_pI hI_ (show 0 ≤ 2 ∧ 2 ≤ 4 from ⟨by omega, by omega⟩)
          have hFx44_ : ai_fr (sx_W vw_523t) S0_ (sm_pI S0_ 13 0 0 2) := ai_fr_tr hF_ (ai_fr_pI rfl)
          refine sm_T_go 7 (c1 := (62, [some (.inr (.inr (some (13, 0)))), some (.inl a1_), some (.inl a2_), some (.inl a3_)], [.inl 0], sm_pI S0_ 13 0 0 2)) rfl ?_
          refine sm_T_rz rfl (by omega) ⟨_, _, rfl, _, rfl, hIx43_, hFx44_, ?_⟩
          refine ⟨⟨by omega, by omega⟩, jR_fr hJ_ hIx43_ hFx44_, ?_⟩
          first | exact Or.inl ⟨rf_eq, by (unfold ora_shows; omega)⟩ | exact Or.inr (Or.inl ⟨rf_eq, by (unfold ora_shows; omega), by (unfold okr_shows ora_shows; omega)⟩) | exact Or.inr (Or.inr ⟨cd79_, by (unfold okr_shows ora_shows; omega), Or.inl rfl, b79_ ▸ s79_⟩) | exact Or.inr (Or.inr ⟨cd79_, by (unfold okr_shows ora_shows; omega), Or.inr rfl, b79_ ▸ s79_⟩)
      · have cx19_ : ¬ (a3_ < vx18_) := of_decide_eq_false cx19_
        have hIx45_ : gi (sm_pI S0_ 13 0 0 1) := gi_pI hI_ (show 0 ≤ 1 ∧ 1 ≤ 4 from ⟨by omega, by omega⟩)
        have hFx46_ : ai_fr (sx_W vw_523t) S0_ (sm_pI S0_ 13 0 0 1) := ai_fr_tr hF_ (ai_fr_pI rfl)
        refine sm_T_go 7 (c1 := (62, [some (.inr (.inr (some (13, 0)))), some (.inl a1_), some (.inl a2_), some (.inl a3_)], [.inl 0], sm_pI S0_ 13 0 0 1)) rfl ?_
        refine sm_T_rz rfl (by omega) ⟨_, _, rfl, _, rfl, hIx45_, hFx46_, ?_⟩
        refine ⟨⟨by omega, by omega⟩, jR_fr hJ_ hIx45_ hFx46_, ?_⟩
        first | exact Or.inl ⟨rf_eq, by (unfold ora_shows; omega)⟩ | exact Or.inr (Or.inl ⟨rf_eq, by (unfold ora_shows; omega), by (unfold okr_shows ora_shows; omega)⟩) | exact Or.inr (Or.inr ⟨cd79_, by (unfold okr_shows ora_shows; omega), Or.inl rfl, b79_ ▸ s79_⟩) | exact Or.inr (Or.inr ⟨cd79_, by (unfold okr_shows ora_shows; omega), Or.inr rfl, b79_ ▸ s79_⟩)
