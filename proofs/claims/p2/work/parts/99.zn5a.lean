/-! views of cells; written by wip/p55/gen/vg -/

/-! views of_ cells -/
theorem vsh {x_ k_ : Int} (hx_ : 0 ≤ x_ ∧ x_ ≤ 1) (hk_ : 0 ≤ k_ ∧ k_ ≤ 2) : 0 ≤ i_shl x_ k_ ∧ i_shl x_ k_ < 2 ^ 3 := by
  have a_ : x_ = 0 ∨ x_ = 1 := by omega
  have b_ : k_ = 0 ∨ k_ = 1 ∨ k_ = 2 := by omega
  rcases a_ with a_ | a_ <;> rcases b_ with b_ | b_ | b_ <;> rw [a_, b_] <;> decide
theorem vpw {e_ : Int} (h_ : e_ = 2 ∨ e_ = 3) : (e_ = 2 ∧ i_shl 1 e_ = 4 ∧ i_shl 2 e_ = 8) ∨ (e_ = 3 ∧ i_shl 1 e_ = 8 ∧ i_shl 6 e_ = 48) := by
  rcases h_ with h_ | h_ <;> rw [h_]
  · left; decide
  · right; decide
theorem vor {v_ e_ : Int} (hv_ : 0 ≤ v_ ∧ v_ < 48) (h_ : e_ = 2 ∨ e_ = 3) : (e_ = 2 ∧ i_shr v_ e_ = v_ / 4) ∨ (e_ = 3 ∧ i_shr v_ e_ = v_ / 8) := by
  rcases h_ with h_ | h_
  · left; exact ⟨h_, by rw [h_, i_shrv (by decide) (by decide) (by omega)]; rfl⟩
  · right; exact ⟨h_, by rw [h_, i_shrv (by decide) (by decide) (by omega)]; rfl⟩
/-! Mapper.viewCells -/
def vw_97 : sx_Wl := ([], [69], [])
def vq_97 (ll_ : Nat) (S0_ : sm_S) (u_ : Option sm_V) (S1_ : sm_S) : Prop := u_ = none ∧ gi S1_ ∧ ai_fr (sx_W vw_97) S0_ S1_ ∧ (True)
set_option maxHeartbeats 3000000 in
set_option maxRecDepth 20000 in
theorem vl_97 {sc_ : Nat × (Nat → Int)} (ll_ : Nat) (S0_ : sm_S) (hc_ : S0_.2.1 6 0 1 = some ll_) : ∀ nn_ : Nat, (∀ (c9_ : Int) (S_ : sm_S), gi S_ → ai_fr (sx_W vw_97) S0_ S_ → ((0 ≤ c9_ ∧ c9_ ≤ 12) ∧ True) → ((100000 * (20 - c9_) + 90000).toNat) < nn_ → sm_T (mt_P sc_) 1 97 (2, [some (.inr (.inr (some (6, 0)))), some (.inl c9_), none, none, none, none, none, none, none, none, none], [], S_) (fun ro9_ => ∃ u_ S1_, ro9_ = (.inl u_, S1_, 0) ∧ vq_97 ll_ S0_ u_ S1_)) ∧ (∀ (c9_ : Int) (is_ : Int) (od_ : Int) (vw_ : Int) (S_ : sm_S), gi S_ → ai_fr (sx_W vw_97) S0_ S_ → ((0 ≤ c9_ ∧ c9_ < 12 ∧ ((is_ = 2 ∧ od_ = 2) ∨ (is_ = 3 ∧ od_ = 6) ∨ is_ ≤ 1) ∧ 0 ≤ is_ ∧ is_ ≤ 3 ∧ 0 ≤ vw_ ∧ vw_ ≤ 48) ∧ True) → ((100000 * (20 - c9_) + 1000 * (60 - vw_) + 900).toNat) < nn_ → sm_T (mt_P sc_) 1 97 (38, [some (.inr (.inr (some (6, 0)))), some (.inl c9_), some (.inl is_), some (.inl od_), some (.inl vw_), none, none, none, none, none, none], [], S_) (fun ro9_ => ∃ u_ S1_, ro9_ = (.inl u_, S1_, 0) ∧ vq_97 ll_ S0_ u_ S1_)) ∧ (∀ (c9_ : Int) (is_ : Int) (od_ : Int) (vw_ : Int) (ox_ : Int) (tn_ : Int) (tb_ : Int) (sx_ : Int) (S_ : sm_S), gi S_ → ai_fr (sx_W vw_97) S0_ S_ → ((0 ≤ c9_ ∧ c9_ < 12 ∧ ((is_ = 2 ∧ od_ = 2) ∨ (is_ = 3 ∧ od_ = 6)) ∧ 0 ≤ is_ ∧ is_ ≤ 3 ∧ 0 ≤ vw_ ∧ ((is_ = 2 ∧ vw_ < 8) ∨ (is_ = 3 ∧ vw_ < 48)) ∧ 0 ≤ ox_ ∧ ((is_ = 2 ∧ ox_ ≤ 1) ∨ (is_ = 3 ∧ ox_ ≤ 5)) ∧ 0 ≤ tn_ ∧ tn_ ≤ 7 ∧ 0 ≤ tb_ ∧ tb_ ≤ 255 ∧ 0 ≤ sx_ ∧ sx_ ≤ 8) ∧ True) → ((100000 * (20 - c9_) + 1000 * (60 - vw_) + 20 * (20 - sx_) + 19).toNat) < nn_ → sm_T (mt_P sc_) 1 97 (73, [some (.inr (.inr (some (6, 0)))), some (.inl c9_), some (.inl is_), some (.inl od_), some (.inl vw_), some (.inl ox_), some (.inl tn_), some (.inl tb_), some (.inl sx_), none, none], [], S_) (fun ro9_ => ∃ u_ S1_, ro9_ = (.inl u_, S1_, 0) ∧ vq_97 ll_ S0_ u_ S1_)) ∧ (∀ (c9_ : Int) (is_ : Int) (od_ : Int) (vw_ : Int) (ox_ : Int) (tn_ : Int) (tb_ : Int) (sx_ : Int) (st_ : Int) (k_ : Int) (S_ : sm_S), gi S_ → ai_fr (sx_W vw_97) S0_ S_ → ((0 ≤ c9_ ∧ c9_ < 12 ∧ ((is_ = 2 ∧ od_ = 2) ∨ (is_ = 3 ∧ od_ = 6)) ∧ 0 ≤ is_ ∧ is_ ≤ 3 ∧ 0 ≤ vw_ ∧ ((is_ = 2 ∧ vw_ < 8) ∨ (is_ = 3 ∧ vw_ < 48)) ∧ 0 ≤ ox_ ∧ ((is_ = 2 ∧ ox_ ≤ 1) ∨ (is_ = 3 ∧ ox_ ≤ 5)) ∧ 0 ≤ tn_ ∧ tn_ ≤ 7 ∧ 0 ≤ tb_ ∧ tb_ ≤ 255 ∧ 0 ≤ sx_ ∧ sx_ ≤ 8 ∧ sx_ < 8 ∧ 0 ≤ st_ ∧ st_ ≤ 7 ∧ 0 ≤ k_ ∧ k_ ≤ 3) ∧ True) → ((100000 * (20 - c9_) + 1000 * (60 - vw_) + 20 * (20 - sx_) + 18 - k_).toNat) < nn_ → sm_T (mt_P sc_) 1 97 (88, [some (.inr (.inr (some (6, 0)))), some (.inl c9_), some (.inl is_), some (.inl od_), some (.inl vw_), some (.inl ox_), some (.inl tn_), some (.inl tb_), some (.inl sx_), some (.inl st_), some (.inl k_)], [], S_) (fun ro9_ => ∃ u_ S1_, ro9_ = (.inl u_, S1_, 0) ∧ vq_97 ll_ S0_ u_ S1_)) := by
  intro nn_
  induction nn_ with
  | zero => exact ⟨fun _ _ _ _ _ h_ => absurd h_ (Nat.not_lt_zero _), fun _ _ _ _ _ _ _ _ h_ => absurd h_ (Nat.not_lt_zero _), fun _ _ _ _ _ _ _ _ _ _ _ _ h_ => absurd h_ (Nat.not_lt_zero _), fun _ _ _ _ _ _ _ _ _ _ _ _ _ _ h_ => absurd h_ (Nat.not_lt_zero _)⟩
  | succ nn_ ih_ =>
    refine ⟨?_, ?_, ?_, ?_⟩
    · rintro c9_ S_ hI_ hF_ ⟨h0_, -⟩ hm_
      refine sm_T_go 2 (c1 := (4, [some (.inr (.inr (some (6, 0)))), some (.inl c9_), none, none, none, none, none, none, none, none, none], [.inr (.inr (some (6, 0))), .inl c9_], S_)) rfl ?_
      refine sm_T_gr rfl rfl ((hF_.2.1 6 0 1 rfl).trans hc_) ?_
      have bx1_ : 0 ≤ S_.1 5 ll_ 1 ∧ S_.1 5 ll_ 1 ≤ 12 := hI_.1 5 ll_ 1 rfl
      refine sm_T_go 1 (c1 := (10, [some (.inr (.inr (some (6, 0)))), some (.inl c9_), none, none, none, none, none, none, none, none, none], [.inl (S_.1 5 ll_ 1), .inl c9_], S_)) rfl ?_
      refine sm_T_br (a := 3) (z := 165) rfl (fun cx2_ => ?_) (fun cx2_ => ?_)
      · have cx2_ : (S_.1 5 ll_ 1) ≤ c9_ := of_decide_eq_true cx2_
        refine sm_T_rv rfl ⟨_, _, rfl, rfl, hI_, hF_, ?_⟩
        trivial
      · have cx2_ : ¬ ((S_.1 5 ll_ 1) ≤ c9_) := of_decide_eq_false cx2_
        refine sm_T_go 1 (c1 := (14, [some (.inr (.inr (some (6, 0)))), some (.inl c9_), none, none, none, none, none, none, none, none, none], [.inr (.inr (some (6, 0)))], S_)) rfl ?_
        refine sm_T_gr rfl rfl ((hF_.2.1 6 0 1 rfl).trans hc_) ?_
        refine sm_T_go 2 (c1 := (21, [some (.inr (.inr (some (6, 0)))), some (.inl c9_), none, none, none, none, none, none, none, none, none], [.inl c9_, .inr (.inr (some (55, (0 + ll_))))], S_)) rfl ?_
        refine sm_T_iald (n := 12) rfl rfl (by omega) (by omega) ?_
        have bx3_ : 0 ≤ S_.2.2.1 55 (0 + ll_) c9_.toNat ∧ S_.2.2.1 55 (0 + ll_) c9_.toNat ≤ 3 := hI_.2 55 (0 + ll_) _
        refine sm_T_go 3 (c1 := (25, [some (.inr (.inr (some (6, 0)))), some (.inl c9_), some (.inl (S_.2.2.1 55 (0 + ll_) c9_.toNat)), none, none, none, none, none, none, none, none], [.inl 2, .inl (S_.2.2.1 55 (0 + ll_) c9_.toNat)], S_)) rfl ?_
        refine sm_T_br (a := 1) (z := 7) rfl (fun cx4_ => ?_) (fun cx4_ => ?_)
        · have cx4_ : (S_.2.2.1 55 (0 + ll_) c9_.toNat) ≠ 2 := of_decide_eq_true cx4_
          refine sm_T_go 4 (c1 := (38, [some (.inr (.inr (some (6, 0)))), some (.inl c9_), some (.inl (S_.2.2.1 55 (0 + ll_) c9_.toNat)), some (.inl 6), some (.inl 0), none, none, none, none, none, none], [], S_)) rfl ?_
          refine ih_.2.1 c9_ (S_.2.2.1 55 (0 + ll_) c9_.toNat) 6 0 S_ hI_ hF_ ⟨?_, trivial⟩ ?_
          · omega
          · omega
        · have cx4_ : ¬ ((S_.2.2.1 55 (0 + ll_) c9_.toNat) ≠ 2) := of_decide_eq_false cx4_
          refine sm_T_go 5 (c1 := (38, [some (.inr (.inr (some (6, 0)))), some (.inl c9_), some (.inl (S_.2.2.1 55 (0 + ll_) c9_.toNat)), some (.inl 2), some (.inl 0), none, none, none, none, none, none], [], S_)) rfl ?_
          refine ih_.2.1 c9_ (S_.2.2.1 55 (0 + ll_) c9_.toNat) 2 0 S_ hI_ hF_ ⟨?_, trivial⟩ ?_
          · omega
          · omega
    · rintro c9_ is_ od_ vw_ S_ hI_ hF_ ⟨h0_, -⟩ hm_
      refine sm_T_go 2 (c1 := (40, [some (.inr (.inr (some (6, 0)))), some (.inl c9_), some (.inl is_), some (.inl od_), some (.inl vw_), none, none, none, none, none, none], [.inl 1, .inl is_], S_)) rfl ?_
      refine sm_T_br (a := 5) (z := 129) rfl (fun cx1_ => ?_) (fun cx1_ => ?_)
      · have cx1_ : is_ ≤ 1 := of_decide_eq_true cx1_
        refine sm_T_inc (a := 1) (z := 1) (v := c9_) (w := c9_ + 1) rfl rfl (by omega) (by omega) (by omega) ?_ -- pc_ 169
        refine sm_T_go 1 (c1 := (2, [some (.inr (.inr (some (6, 0)))), some (.inl (c9_ + 1)), some (.inl is_), some (.inl od_), some (.inl vw_), none, none, none, none, none, none], [], S_)) rfl ?_
        refine sm_T_wk [some (.inr (.inr (some (6, 0)))), some (.inl (c9_ + 1)), none, none, none, none, none, none, none, none, none] (by exact ⟨rfl, rfl, trivial⟩) ?_
        refine ih_.1 (c9_ + 1) S_ hI_ hF_ ⟨?_, trivial⟩ ?_
        · omega
        · omega
      · have cx1_ : ¬ (is_ ≤ 1) := of_decide_eq_false cx1_
        have vp9_ := vpw (e_ := is_) (by omega)
        refine sm_T_go 3 (c1 := (47, [some (.inr (.inr (some (6, 0)))), some (.inl c9_), some (.inl is_), some (.inl od_), some (.inl vw_), none, none, none, none, none, none], [.inl is_, .inl od_, .inl vw_], S_)) rfl ?_
        refine sm_T_bin (w := (i_shl od_ is_)) rfl rfl ?_ -- pc_ 47
        have bx2_ : i_shl od_ is_ = 8 ∨ i_shl od_ is_ = 48 := by (rcases vp9_ with u9_ | u9_; (have w9_ : od_ = 2 := (by omega); rw [w9_]; left; exact u9_.2.2); (have w9_ : od_ = 6 := (by omega); rw [w9_]; right; exact u9_.2.2))
        have od9_ : (is_ = 2 ∧ i_shl od_ is_ = 8) ∨ (is_ = 3 ∧ i_shl od_ is_ = 48) := by (rcases vp9_ with u9_ | u9_; (have w9_ : od_ = 2 := (by omega); rw [w9_]; left; exact ⟨u9_.1, u9_.2.2⟩); (have w9_ : od_ = 6 := (by omega); rw [w9_]; right; exact ⟨u9_.1, u9_.2.2⟩))
        refine sm_T_br (a := 3) (z := 121) rfl (fun cx4_ => ?_) (fun cx4_ => ?_)
        · have cx4_ : (i_shl od_ is_) ≤ vw_ := of_decide_eq_true cx4_
          refine sm_T_inc (a := 1) (z := 1) (v := c9_) (w := c9_ + 1) rfl rfl (by omega) (by omega) (by omega) ?_ -- pc_ 169
          refine sm_T_go 1 (c1 := (2, [some (.inr (.inr (some (6, 0)))), some (.inl (c9_ + 1)), some (.inl is_), some (.inl od_), some (.inl vw_), none, none, none, none, none, none], [], S_)) rfl ?_
          refine sm_T_wk [some (.inr (.inr (some (6, 0)))), some (.inl (c9_ + 1)), none, none, none, none, none, none, none, none, none] (by exact ⟨rfl, rfl, trivial⟩) ?_
          refine ih_.1 (c9_ + 1) S_ hI_ hF_ ⟨?_, trivial⟩ ?_
          · omega
          · omega
        · have cx4_ : ¬ ((i_shl od_ is_) ≤ vw_) := of_decide_eq_false cx4_
          have vo9_ := vor (v_ := vw_) (e_ := is_) (by omega) (by omega)
          refine sm_T_go 2 (c1 := (54, [some (.inr (.inr (some (6, 0)))), some (.inl c9_), some (.inl is_), some (.inl od_), some (.inl vw_), none, none, none, none, none, none], [.inl is_, .inl vw_], S_)) rfl ?_
          refine sm_T_bin (w := (i_shr vw_ is_)) rfl rfl ?_ -- pc_ 54
          refine sm_T_go 4 (c1 := (61, [some (.inr (.inr (some (6, 0)))), some (.inl c9_), some (.inl is_), some (.inl od_), some (.inl vw_), some (.inl (i_shr vw_ is_)), none, none, none, none, none], [.inl is_, .inl 1, .inl vw_], S_)) rfl ?_
          refine sm_T_bin (w := (i_shl 1 is_)) rfl rfl ?_ -- pc_ 61
          refine sm_T_go 1 (c1 := (63, [some (.inr (.inr (some (6, 0)))), some (.inl c9_), some (.inl is_), some (.inl od_), some (.inl vw_), some (.inl (i_shr vw_ is_)), none, none, none, none, none], [.inl 1, .inl (i_shl 1 is_), .inl vw_], S_)) rfl ?_
          refine sm_T_bin (w := (i_shl 1 is_) - 1) rfl (bi_sub (by omega) (by omega) (by omega)) ?_ -- pc_ 63
          refine sm_T_bin (w := (i_and vw_ ((i_shl 1 is_) - 1))) rfl rfl ?_ -- pc_ 64
          have bx5_ := i_and_y vw_ (y_ := ((i_shl 1 is_) - 1)) (by omega)
          refine sm_T_go 5 (c1 := (73, [some (.inr (.inr (some (6, 0)))), some (.inl c9_), some (.inl is_), some (.inl od_), some (.inl vw_), some (.inl (i_shr vw_ is_)), some (.inl (i_and vw_ ((i_shl 1 is_) - 1))), some (.inl 0), some (.inl 0), none, none], [], S_)) rfl ?_
          refine ih_.2.2.1 c9_ is_ od_ vw_ (i_shr vw_ is_) (i_and vw_ ((i_shl 1 is_) - 1)) 0 0 S_ hI_ hF_ ⟨?_, trivial⟩ ?_
          · omega
          · omega
    · rintro c9_ is_ od_ vw_ ox_ tn_ tb_ sx_ S_ hI_ hF_ ⟨h0_, -⟩ hm_
      refine sm_T_go 3 (c1 := (77, [some (.inr (.inr (some (6, 0)))), some (.inl c9_), some (.inl is_), some (.inl od_), some (.inl vw_), some (.inl ox_), some (.inl tn_), some (.inl tb_), some (.inl sx_), none, none], [.inl is_, .inl 1, .inl sx_], S_)) rfl ?_
      refine sm_T_bin (w := (i_shl 1 is_)) rfl rfl ?_ -- pc_ 77
      have vq9_ := vpw (e_ := is_) (by omega)
      refine sm_T_br (a := 3) (z := 71) rfl (fun cx2_ => ?_) (fun cx2_ => ?_)
      · have cx2_ : (i_shl 1 is_) ≤ sx_ := of_decide_eq_true cx2_
        refine sm_T_go 4 (c1 := (156, [some (.inr (.inr (some (6, 0)))), some (.inl c9_), some (.inl is_), some (.inl od_), some (.inl vw_), some (.inl ox_), some (.inl tn_), some (.inl tb_), some (.inl sx_), none, none], [.inl 48, .inl c9_, .inr (.inr (some (69, 0)))], S_)) rfl ?_
        refine sm_T_bin (w := 48 * c9_) rfl (bi_mul (by omega) (by omega) (by omega)) ?_ -- pc_ 156
        refine sm_T_go 1 (c1 := (159, [some (.inr (.inr (some (6, 0)))), some (.inl c9_), some (.inl is_), some (.inl od_), some (.inl vw_), some (.inl ox_), some (.inl tn_), some (.inl tb_), some (.inl sx_), none, none], [.inl vw_, .inl (48 * c9_), .inr (.inr (some (69, 0)))], S_)) rfl ?_
        refine sm_T_bin (w := 48 * c9_ + vw_) rfl (bi_add (by omega) (by omega) (by omega)) ?_ -- pc_ 159
        refine sm_T_go 1 (c1 := (162, [some (.inr (.inr (some (6, 0)))), some (.inl c9_), some (.inl is_), some (.inl od_), some (.inl vw_), some (.inl ox_), some (.inl tn_), some (.inl tb_), some (.inl sx_), none, none], [.inl tb_, .inl (48 * c9_ + vw_), .inr (.inr (some (69, 0)))], S_)) rfl ?_
        refine sm_T_iast (n := 576) rfl rfl (by omega) (by omega) ?_
        have hIx3_ : gi (sm_aI S_ 69 0 (48 * c9_ + vw_).toNat tb_) := gi_aI hI_ (show 0 ≤ tb_ ∧ tb_ ≤ 255 from ⟨by omega, by omega⟩)
        have hFx4_ : ai_fr (sx_W vw_97) S0_ (sm_aI S_ 69 0 (48 * c9_ + vw_).toNat tb_) := ai_fr_tr hF_ (ai_fr_aI rfl)
        refine sm_T_inc (a := 4) (z := 1) (v := vw_) (w := vw_ + 1) rfl rfl (by omega) (by omega) (by omega) ?_ -- pc_ 163
        refine sm_T_go 1 (c1 := (38, [some (.inr (.inr (some (6, 0)))), some (.inl c9_), some (.inl is_), some (.inl od_), some (.inl (vw_ + 1)), some (.inl ox_), some (.inl tn_), some (.inl tb_), some (.inl sx_), none, none], [], sm_aI S_ 69 0 (48 * c9_ + vw_).toNat tb_)) rfl ?_
        refine sm_T_wk [some (.inr (.inr (some (6, 0)))), some (.inl c9_), some (.inl is_), some (.inl od_), some (.inl (vw_ + 1)), none, none, none, none, none, none] (by exact ⟨rfl, rfl, rfl, rfl, rfl, trivial⟩) ?_
        refine ih_.2.1 c9_ is_ od_ (vw_ + 1) (sm_aI S_ 69 0 (48 * c9_ + vw_).toNat tb_) hIx3_ hFx4_ ⟨?_, trivial⟩ ?_
        · omega
        · omega
      · have cx2_ : ¬ ((i_shl 1 is_) ≤ sx_) := of_decide_eq_false cx2_
        refine sm_T_go 4 (c1 := (88, [some (.inr (.inr (some (6, 0)))), some (.inl c9_), some (.inl is_), some (.inl od_), some (.inl vw_), some (.inl ox_), some (.inl tn_), some (.inl tb_), some (.inl sx_), some (.inl tn_), some (.inl 0)], [], S_)) rfl ?_
        refine ih_.2.2.2 c9_ is_ od_ vw_ ox_ tn_ tb_ sx_ tn_ 0 S_ hI_ hF_ ⟨?_, trivial⟩ ?_
        · omega
        · omega
    · rintro c9_ is_ od_ vw_ ox_ tn_ tb_ sx_ st_ k_ S_ hI_ hF_ ⟨h0_, -⟩ hm_
      refine sm_T_go 2 (c1 := (91, [some (.inr (.inr (some (6, 0)))), some (.inl c9_), some (.inl is_), some (.inl od_), some (.inl vw_), some (.inl ox_), some (.inl tn_), some (.inl tb_), some (.inl sx_), some (.inl st_), some (.inl k_)], [.inl is_, .inl k_], S_)) rfl ?_
      refine sm_T_br (a := 3) (z := 30) rfl (fun cx1_ => ?_) (fun cx1_ => ?_)
      · have cx1_ : is_ ≤ k_ := of_decide_eq_true cx1_
        refine sm_T_go 2 (c1 := (124, [some (.inr (.inr (some (6, 0)))), some (.inl c9_), some (.inl is_), some (.inl od_), some (.inl vw_), some (.inl ox_), some (.inl tn_), some (.inl tb_), some (.inl sx_), some (.inl st_), some (.inl k_)], [.inr (.inr (some (6, 0))), .inl tb_], S_)) rfl ?_
        refine sm_T_gr rfl rfl ((hF_.2.1 6 0 1 rfl).trans hc_) ?_
        refine sm_T_go 2 (c1 := (131, [some (.inr (.inr (some (6, 0)))), some (.inl c9_), some (.inl is_), some (.inl od_), some (.inl vw_), some (.inl ox_), some (.inl tn_), some (.inl tb_), some (.inl sx_), some (.inl st_), some (.inl k_)], [.inl c9_, .inr (.inr (some (56, (0 + ll_)))), .inl tb_], S_)) rfl ?_
        refine sm_T_iald (n := 12) rfl rfl (by omega) (by omega) ?_
        have bx2_ : 0 ≤ S_.2.2.1 56 (0 + ll_) c9_.toNat ∧ S_.2.2.1 56 (0 + ll_) c9_.toNat ≤ 255 := hI_.2 56 (0 + ll_) _
        refine sm_T_go 1 (c1 := (134, [some (.inr (.inr (some (6, 0)))), some (.inl c9_), some (.inl is_), some (.inl od_), some (.inl vw_), some (.inl ox_), some (.inl tn_), some (.inl tb_), some (.inl sx_), some (.inl st_), some (.inl k_)], [.inl st_, .inl (S_.2.2.1 56 (0 + ll_) c9_.toNat), .inl tb_], S_)) rfl ?_
        refine sm_T_bin (w := (i_shr (S_.2.2.1 56 (0 + ll_) c9_.toNat) st_)) rfl rfl ?_ -- pc_ 134
        have bx3_ := i_shr_p (x_ := (S_.2.2.1 56 (0 + ll_) c9_.toNat)) (e_ := st_) (by omega) (by omega) (by omega)
        refine sm_T_go 1 (c1 := (136, [some (.inr (.inr (some (6, 0)))), some (.inl c9_), some (.inl is_), some (.inl od_), some (.inl vw_), some (.inl ox_), some (.inl tn_), some (.inl tb_), some (.inl sx_), some (.inl st_), some (.inl k_)], [.inl 1, .inl (i_shr (S_.2.2.1 56 (0 + ll_) c9_.toNat) st_), .inl tb_], S_)) rfl ?_
        refine sm_T_bin (w := ((i_shr (S_.2.2.1 56 (0 + ll_) c9_.toNat) st_) % 2)) rfl (bi_msk (k := 1) (by decide)) ?_ -- pc_ 136
        refine sm_T_go 1 (c1 := (139, [some (.inr (.inr (some (6, 0)))), some (.inl c9_), some (.inl is_), some (.inl od_), some (.inl vw_), some (.inl ox_), some (.inl tn_), some (.inl tb_), some (.inl sx_), some (.inl st_), some (.inl k_)], [.inl sx_, .inl ((i_shr (S_.2.2.1 56 (0 + ll_) c9_.toNat) st_) % 2), .inl tb_], S_)) rfl ?_
        refine sm_T_bin (w := (i_shl ((i_shr (S_.2.2.1 56 (0 + ll_) c9_.toNat) st_) % 2) sx_)) rfl rfl ?_ -- pc_ 139
        have bx4_ := bsh (x_ := ((i_shr (S_.2.2.1 56 (0 + ll_) c9_.toNat) st_) % 2)) (e_ := sx_) (k_ := 8) (by omega) (by omega) (by omega) (by decide)
        refine sm_T_bin (w := (i_or tb_ (i_shl ((i_shr (S_.2.2.1 56 (0 + ll_) c9_.toNat) st_) % 2) sx_))) rfl rfl ?_ -- pc_ 140
        have bx5_ := i_orp (x_ := tb_) (y_ := (i_shl ((i_shr (S_.2.2.1 56 (0 + ll_) c9_.toNat) st_) % 2) sx_)) (k_ := 8) (by decide) (by omega) (by omega)
        refine sm_T_go 1 (c1 := (143, [some (.inr (.inr (some (6, 0)))), some (.inl c9_), some (.inl is_), some (.inl od_), some (.inl vw_), some (.inl ox_), some (.inl tn_), some (.inl (i_or tb_ (i_shl ((i_shr (S_.2.2.1 56 (0 + ll_) c9_.toNat) st_) % 2) sx_))), some (.inl sx_), some (.inl st_), some (.inl k_)], [], S_)) rfl ?_
        refine sm_T_inc (a := 8) (z := 1) (v := sx_) (w := sx_ + 1) rfl rfl (by omega) (by omega) (by omega) ?_ -- pc_ 143
        refine sm_T_go 1 (c1 := (73, [some (.inr (.inr (some (6, 0)))), some (.inl c9_), some (.inl is_), some (.inl od_), some (.inl vw_), some (.inl ox_), some (.inl tn_), some (.inl (i_or tb_ (i_shl ((i_shr (S_.2.2.1 56 (0 + ll_) c9_.toNat) st_) % 2) sx_))), some (.inl (sx_ + 1)), some (.inl st_), some (.inl k_)], [], S_)) rfl ?_
        refine sm_T_wk [some (.inr (.inr (some (6, 0)))), some (.inl c9_), some (.inl is_), some (.inl od_), some (.inl vw_), some (.inl ox_), some (.inl tn_), some (.inl (i_or tb_ (i_shl ((i_shr (S_.2.2.1 56 (0 + ll_) c9_.toNat) st_) % 2) sx_))), some (.inl (sx_ + 1)), none, none] (by exact ⟨rfl, rfl, rfl, rfl, rfl, rfl, rfl, rfl, rfl, trivial⟩) ?_
        refine ih_.2.2.1 c9_ is_ od_ vw_ ox_ tn_ (i_or tb_ (i_shl ((i_shr (S_.2.2.1 56 (0 + ll_) c9_.toNat) st_) % 2) sx_)) (sx_ + 1) S_ hI_ hF_ ⟨?_, trivial⟩ ?_
        · omega
        · omega
      · have cx1_ : ¬ (is_ ≤ k_) := of_decide_eq_false cx1_
        refine sm_T_go 5 (c1 := (103, [some (.inr (.inr (some (6, 0)))), some (.inl c9_), some (.inl is_), some (.inl od_), some (.inl vw_), some (.inl ox_), some (.inl tn_), some (.inl tb_), some (.inl sx_), some (.inl st_), some (.inl k_)], [.inl k_, .inl ox_, .inl is_, .inl sx_, .inl st_], S_)) rfl ?_
        refine sm_T_cal (d1 := 0) (Q1 := vq_98 is_ ox_ k_ S_) rfl rfl (by decide) (vc_98 is_ ox_ k_ S_ hI_ (by omega)) (fun u_ Sx6_ px9_ => ?_)
        obtain ⟨rfl, vx11_, rfl, px9_⟩ := px9_
        have pl9_ := px9_.1
        refine sm_T_bin (w := (i_shr sx_ vx11_)) rfl rfl ?_ -- pc_ 106
        have bx12_ := i_shr_p (x_ := sx_) (e_ := vx11_) (by omega) (by omega) (by omega)
        refine sm_T_go 1 (c1 := (108, [some (.inr (.inr (some (6, 0)))), some (.inl c9_), some (.inl is_), some (.inl od_), some (.inl vw_), some (.inl ox_), some (.inl tn_), some (.inl tb_), some (.inl sx_), some (.inl st_), some (.inl k_)], [.inl 1, .inl (i_shr sx_ vx11_), .inl st_], S_)) rfl ?_
        refine sm_T_bin (w := ((i_shr sx_ vx11_) % 2)) rfl (bi_msk (k := 1) (by decide)) ?_ -- pc_ 108
        refine sm_T_go 1 (c1 := (111, [some (.inr (.inr (some (6, 0)))), some (.inl c9_), some (.inl is_), some (.inl od_), some (.inl vw_), some (.inl ox_), some (.inl tn_), some (.inl tb_), some (.inl sx_), some (.inl st_), some (.inl k_)], [.inl k_, .inl ((i_shr sx_ vx11_) % 2), .inl st_], S_)) rfl ?_
        refine sm_T_bin (w := (i_shl ((i_shr sx_ vx11_) % 2) k_)) rfl rfl ?_ -- pc_ 111
        have bx13_ := vsh (x_ := ((i_shr sx_ vx11_) % 2)) (k_ := k_) (by omega) (by omega)
        refine sm_T_bin (w := (i_xor st_ (i_shl ((i_shr sx_ vx11_) % 2) k_))) rfl rfl ?_ -- pc_ 112
        have bx14_ := i_xrp (x_ := st_) (y_ := (i_shl ((i_shr sx_ vx11_) % 2) k_)) (k_ := 3) (by decide) (by omega) (by omega)
        refine sm_T_go 1 (c1 := (115, [some (.inr (.inr (some (6, 0)))), some (.inl c9_), some (.inl is_), some (.inl od_), some (.inl vw_), some (.inl ox_), some (.inl tn_), some (.inl tb_), some (.inl sx_), some (.inl (i_xor st_ (i_shl ((i_shr sx_ vx11_) % 2) k_))), some (.inl k_)], [], S_)) rfl ?_
        refine sm_T_inc (a := 10) (z := 1) (v := k_) (w := k_ + 1) rfl rfl (by omega) (by omega) (by omega) ?_ -- pc_ 115
        refine sm_T_go 1 (c1 := (88, [some (.inr (.inr (some (6, 0)))), some (.inl c9_), some (.inl is_), some (.inl od_), some (.inl vw_), some (.inl ox_), some (.inl tn_), some (.inl tb_), some (.inl sx_), some (.inl (i_xor st_ (i_shl ((i_shr sx_ vx11_) % 2) k_))), some (.inl (k_ + 1))], [], S_)) rfl ?_
        refine ih_.2.2.2 c9_ is_ od_ vw_ ox_ tn_ tb_ sx_ (i_xor st_ (i_shl ((i_shr sx_ vx11_) % 2) k_)) (k_ + 1) S_ hI_ hF_ ⟨?_, trivial⟩ ?_
        · omega
        · omega
set_option maxHeartbeats 3000000 in
set_option maxRecDepth 20000 in
theorem vc_97 {sc_ : Nat × (Nat → Int)} (ll_ : Nat) (S0_ : sm_S) (hI_ : gi S0_) (hc_ : S0_.2.1 6 0 1 = some ll_) : sm_T (mt_P sc_) 1 97 (0, [some (.inr (.inr (some (6, 0)))), none, none, none, none, none, none, none, none, none, none], [], S0_) (fun ro9_ => ∃ u_ S1_, ro9_ = (.inl u_, S1_, 0) ∧ vq_97 ll_ S0_ u_ S1_) := by
  have hF_ : ai_fr (sx_W vw_97) S0_ S0_ := ai_fr_rf
  refine sm_T_go 2 (c1 := (2, [some (.inr (.inr (some (6, 0)))), some (.inl 0), none, none, none, none, none, none, none, none, none], [], S0_)) rfl ?_
  refine (vl_97 ll_ S0_ hc_ _).1 0 S0_ hI_ hF_ ⟨?_, trivial⟩ (Nat.lt_succ_self _)
  · omega
