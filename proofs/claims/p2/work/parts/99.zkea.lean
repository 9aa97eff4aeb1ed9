/-! wires lost; the nearest pin; written by wip/p55/gen/vg -/

/-! wires lost, joined; the_ nearest pin_ -/
def ppk (bb_ : Nat) (S_ : sm_S) (c_ k_ : Nat) : Int := ppt bb_ S_ (S_.2.2.1 18 (0 + bb_) ((S_.2.2.1 19 (0 + bb_) c_).toNat + k_))
def rpt (bb_ : Nat) (S_ : sm_S) : Prop := ∀ c_ : Nat, c_ < 162 → ∀ k_ : Nat, (k_ : Int) < S_.2.2.1 20 (0 + bb_) c_ → 0 ≤ ppk bb_ S_ c_ k_ ∧ ppk bb_ S_ c_ k_ < S_.1 8 0 2
/-- a_ net's wire is_ gone -/
def rls (bb_ : Nat) (t_ : Int) (S_ S'_ : sm_S) : Prop := ∀ p_ : Nat, S'_.2.2.1 22 (0 + bb_) p_ = (if (p_ : Int) < 2 * S_.1 8 0 2 ∧ S_.2.2.1 22 (0 + bb_) p_ = t_ then -1 else S_.2.2.1 22 (0 + bb_) p_) ∧ S'_.2.2.1 23 (0 + bb_) p_ = (if (p_ : Int) < 2 * S_.1 8 0 2 ∧ S_.2.2.1 22 (0 + bb_) p_ = t_ then 0 else S_.2.2.1 23 (0 + bb_) p_)
def rls9 (bb_ : Nat) (t_ k_ : Int) (S_ S'_ : sm_S) : Prop := ∀ p_ : Nat, S'_.2.2.1 22 (0 + bb_) p_ = (if (p_ : Int) < k_ ∧ S_.2.2.1 22 (0 + bb_) p_ = t_ then -1 else S_.2.2.1 22 (0 + bb_) p_) ∧ S'_.2.2.1 23 (0 + bb_) p_ = (if (p_ : Int) < k_ ∧ S_.2.2.1 22 (0 + bb_) p_ = t_ then 0 else S_.2.2.1 23 (0 + bb_) p_)
theorem rls_0 {bb_ : Nat} {t_ k_ : Int} {S_ S'_ S2_ : sm_S} (h_ : rls9 bb_ t_ k_ S_ S'_) (hk_ : 0 ≤ k_) (ho_ : S'_.2.2.1 22 (0 + bb_) k_.toNat ≠ t_) : rls9 bb_ t_ (k_ + 1) S_ S'_ := by
  intro p_
  have a_ := h_ p_
  by_cases z_ : (p_ : Int) = k_
  · have e_ : k_.toNat = p_ := by omega
    rw [e_] at ho_
    rw [if_neg (by omega), if_neg (by omega)] at a_
    rw [a_.1] at ho_
    rw [if_neg (fun q_ => ho_ q_.2), if_neg (fun q_ => ho_ q_.2)]
    exact a_
  · by_cases y_ : (p_ : Int) < k_ ∧ S_.2.2.1 22 (0 + bb_) p_ = t_
    · rw [if_pos y_, if_pos y_] at a_
      rw [if_pos ⟨by omega, y_.2⟩, if_pos ⟨by omega, y_.2⟩]; exact a_
    · rw [if_neg y_, if_neg y_] at a_
      rw [if_neg (fun q_ => y_ ⟨by omega, q_.2⟩), if_neg (fun q_ => y_ ⟨by omega, q_.2⟩)]; exact a_
theorem rls_1 {bb_ : Nat} {t_ k_ : Int} {S_ S'_ : sm_S} (h_ : rls9 bb_ t_ k_ S_ S'_) (hk_ : 0 ≤ k_) (ho_ : S'_.2.2.1 22 (0 + bb_) k_.toNat = t_) : rls9 bb_ t_ (k_ + 1) S_ (sm_aI (sm_aI S'_ 22 (0 + bb_) k_.toNat (-1)) 23 (0 + bb_) k_.toNat 0) := by
  intro p_
  have a_ := h_ p_
  rw [rd_ne (by decide), rd_eq, rd_eq, rd_ne (by decide)]
  by_cases z_ : (p_ : Int) = k_
  · have e_ : p_ = k_.toNat := by omega
    simp only [if_pos e_]
    rw [e_] at a_
    rw [if_neg (by omega), if_neg (by omega)] at a_
    rw [a_.1] at ho_
    rw [e_, if_pos ⟨by omega, ho_⟩, if_pos ⟨by omega, ho_⟩]
    exact ⟨rfl, rfl⟩
  · have e_ : ¬ p_ = k_.toNat := by omega
    simp only [if_neg e_]
    by_cases y_ : (p_ : Int) < k_ ∧ S_.2.2.1 22 (0 + bb_) p_ = t_
    · rw [if_pos y_, if_pos y_] at a_
      rw [if_pos ⟨by omega, y_.2⟩, if_pos ⟨by omega, y_.2⟩]; exact a_
    · rw [if_neg y_, if_neg y_] at a_
      rw [if_neg (fun q_ => y_ ⟨by omega, q_.2⟩), if_neg (fun q_ => y_ ⟨by omega, q_.2⟩)]; exact a_
/-! Router.lose -/
def vw_159 : sx_Wl := ([], [22, 23, 24], [])
def vq_159 (a1_ : Int) (bb_ : Nat) (S0_ : sm_S) (u_ : Option sm_V) (S1_ : sm_S) : Prop := u_ = none ∧ gi S1_ ∧ ai_fr (sx_W vw_159) S0_ S1_ ∧ (cdf bb_ S0_ S1_ ∧ (rls bb_ a1_ S0_ S1_ ∧ ∀ c_, S1_.2.2.1 24 (0 + bb_) c_ = if c_ = a1_.toNat then 1 else S0_.2.2.1 24 (0 + bb_) c_))
set_option maxHeartbeats 400000 in
theorem vl_159 {sc_ : Nat × (Nat → Int)} (a1_ : Int) (bb_ : Nat) (S0_ : sm_S) (hb_ : S0_.2.1 8 0 0 = some bb_) (h1_ : 0 ≤ a1_ ∧ a1_ ≤ 161) : ∀ nn_ : Nat, (∀ (k_ : Int) (S_ : sm_S), gi S_ → ai_fr (sx_W vw_159) S0_ S_ → ((0 ≤ k_ ∧ k_ ≤ 4712 ∧ k_ ≤ 2 * S0_.1 8 0 2 ) ∧ (rls9 bb_ a1_ k_ S0_ S_) ∧ (∀ c_, S_.2.2.1 24 (0 + bb_) c_ = if c_ = a1_.toNat then 1 else S0_.2.2.1 24 (0 + bb_) c_) ∧ (cdf bb_ S0_ S_) ∧ True) → ((5000 - k_).toNat) < nn_ → sm_T (mt_P sc_) 0 159 (12, [some (.inr (.inr (some (8, 0)))), some (.inl a1_), some (.inl k_)], [], S_) (fun ro9_ => ∃ u_ S1_, ro9_ = (.inl u_, S1_, 0) ∧ vq_159 a1_ bb_ S0_ u_ S1_)) := by
  intro nn_
  induction nn_ with
  | zero => exact fun _ _ _ _ _ h_ => absurd h_ (Nat.not_lt_zero _)
  | succ nn_ ih_ =>
    rintro k_ S_ hI_ hF_ ⟨h0_, hl_, ho_, hC_, -⟩ hm_
    have e2_ : S_.1 8 0 2 = S0_.1 8 0 2 := hF_.1 8 0 2 rfl
    have cL_ : 0 ≤ S_.1 8 0 2 ∧ S_.1 8 0 2 ≤ 2356 := hI_.1 8 0 2 rfl
    have bx1_ : 0 ≤ S_.1 8 0 2 ∧ S_.1 8 0 2 ≤ 2356 := hI_.1 8 0 2 rfl
    refine sm_T_go 4 (c1 := (18, [some (.inr (.inr (some (8, 0)))), some (.inl a1_), some (.inl k_)], [.inl (S_.1 8 0 2), .inl 2, .inl k_], S_)) rfl ?_
    refine sm_T_bin (w := 2 * (S_.1 8 0 2)) rfl (bi_mul (by omega) (by omega) (by omega)) ?_ -- pc_ 18
    refine sm_T_br (a := 3) (z := 42) rfl (fun cx2_ => ?_) (fun cx2_ => ?_)
    · have cx2_ : 2 * (S_.1 8 0 2) ≤ k_ := of_decide_eq_true cx2_
      refine sm_T_rv rfl ⟨_, _, rfl, rfl, hI_, hF_, ?_⟩
      refine ⟨hC_, ?_⟩
      refine ⟨?_, ho_⟩
      intro p_
      have a_ := hl_ p_
      rw [show k_ = 2 * S0_.1 8 0 2 by omega] at a_
      exact a_
    · have cx2_ : ¬ (2 * (S_.1 8 0 2) ≤ k_) := of_decide_eq_false cx2_
      refine sm_T_go 1 (c1 := (23, [some (.inr (.inr (some (8, 0)))), some (.inl a1_), some (.inl k_)], [.inr (.inr (some (8, 0)))], S_)) rfl ?_
      refine sm_T_gr rfl rfl ((hF_.2.1 8 0 0 rfl).trans hb_) ?_
      refine sm_T_go 2 (c1 := (30, [some (.inr (.inr (some (8, 0)))), some (.inl a1_), some (.inl k_)], [.inl k_, .inr (.inr (some (22, (0 + bb_))))], S_)) rfl ?_
      refine sm_T_iald (n := 4712) rfl rfl (by omega) (by omega) ?_
      have bx3_ : (-1) ≤ S_.2.2.1 22 (0 + bb_) k_.toNat ∧ S_.2.2.1 22 (0 + bb_) k_.toNat ≤ 161 := hI_.2 22 (0 + bb_) _
      refine sm_T_go 1 (c1 := (32, [some (.inr (.inr (some (8, 0)))), some (.inl a1_), some (.inl k_)], [.inl a1_, .inl (S_.2.2.1 22 (0 + bb_) k_.toNat)], S_)) rfl ?_
      refine sm_T_br (a := 1) (z := 23) rfl (fun cx4_ => ?_) (fun cx4_ => ?_)
      · have cx4_ : (S_.2.2.1 22 (0 + bb_) k_.toNat) ≠ a1_ := of_decide_eq_true cx4_
        refine sm_T_inc (a := 2) (z := 1) (v := k_) (w := k_ + 1) rfl rfl (by omega) (by omega) (by omega) ?_ -- pc_ 55
        refine sm_T_go 1 (c1 := (12, [some (.inr (.inr (some (8, 0)))), some (.inl a1_), some (.inl (k_ + 1))], [], S_)) rfl ?_
        refine ih_ (k_ + 1) S_ hI_ hF_ ⟨?_, ?_, ?_, ?_, trivial⟩ ?_
        · omega
        · exact rls_0 (S2_ := S0_) hl_ (by omega) (by omega)
        · exact ho_
        · exact hC_
        · omega
      · have cx4_ : ¬ ((S_.2.2.1 22 (0 + bb_) k_.toNat) ≠ a1_) := of_decide_eq_false cx4_
        refine sm_T_go 1 (c1 := (36, [some (.inr (.inr (some (8, 0)))), some (.inl a1_), some (.inl k_)], [.inr (.inr (some (8, 0)))], S_)) rfl ?_
        refine sm_T_gr rfl rfl ((hF_.2.1 8 0 0 rfl).trans hb_) ?_
        refine sm_T_go 3 (c1 := (44, [some (.inr (.inr (some (8, 0)))), some (.inl a1_), some (.inl k_)], [.inl (-1), .inl k_, .inr (.inr (some (22, (0 + bb_))))], S_)) rfl ?_
        refine sm_T_iast (n := 4712) rfl rfl (by omega) (by omega) ?_
        have hIx5_ : gi (sm_aI S_ 22 (0 + bb_) k_.toNat (-1)) := gi_aI hI_ (show (-1) ≤ (-1) ∧ (-1) ≤ 161 from ⟨by omega, by omega⟩)
        have hFx6_ : ai_fr (sx_W vw_159) S0_ (sm_aI S_ 22 (0 + bb_) k_.toNat (-1)) := ai_fr_tr hF_ (ai_fr_aI rfl)
        have hCx7_ : cdf bb_ S0_ (sm_aI S_ 22 (0 + bb_) k_.toNat (-1)) := cdf_aI hC_ (Or.inr (by rw [show cof 22 = 0 from rfl] <;> omega))
        refine sm_T_go 1 (c1 := (46, [some (.inr (.inr (some (8, 0)))), some (.inl a1_), some (.inl k_)], [.inr (.inr (some (8, 0)))], sm_aI S_ 22 (0 + bb_) k_.toNat (-1))) rfl ?_
        refine sm_T_gr rfl rfl ((hFx6_.2.1 8 0 0 rfl).trans hb_) ?_
        refine sm_T_go 3 (c1 := (54, [some (.inr (.inr (some (8, 0)))), some (.inl a1_), some (.inl k_)], [.inl 0, .inl k_, .inr (.inr (some (23, (0 + bb_))))], sm_aI S_ 22 (0 + bb_) k_.toNat (-1))) rfl ?_
        refine sm_T_iast (n := 4712) rfl rfl (by omega) (by omega) ?_
        have hIx8_ : gi (sm_aI (sm_aI S_ 22 (0 + bb_) k_.toNat (-1)) 23 (0 + bb_) k_.toNat 0) := gi_aI hIx5_ (show 0 ≤ 0 ∧ 0 ≤ 7 from ⟨by omega, by omega⟩)
        have hFx9_ : ai_fr (sx_W vw_159) S0_ (sm_aI (sm_aI S_ 22 (0 + bb_) k_.toNat (-1)) 23 (0 + bb_) k_.toNat 0) := ai_fr_tr hFx6_ (ai_fr_aI rfl)
        have hCx10_ : cdf bb_ S0_ (sm_aI (sm_aI S_ 22 (0 + bb_) k_.toNat (-1)) 23 (0 + bb_) k_.toNat 0) := cdf_aI hCx7_ (Or.inr (by rw [show cof 23 = 0 from rfl] <;> omega))
        refine sm_T_inc (a := 2) (z := 1) (v := k_) (w := k_ + 1) rfl rfl (by omega) (by omega) (by omega) ?_ -- pc_ 55
        refine sm_T_go 1 (c1 := (12, [some (.inr (.inr (some (8, 0)))), some (.inl a1_), some (.inl (k_ + 1))], [], sm_aI (sm_aI S_ 22 (0 + bb_) k_.toNat (-1)) 23 (0 + bb_) k_.toNat 0)) rfl ?_
        refine ih_ (k_ + 1) (sm_aI (sm_aI S_ 22 (0 + bb_) k_.toNat (-1)) 23 (0 + bb_) k_.toNat 0) hIx8_ hFx9_ ⟨?_, ?_, ?_, ?_, trivial⟩ ?_
        · omega
        · exact rls_1 hl_ (by omega) (by omega)
        · (intro c_; rw [rd_ne (by decide), rd_ne (by decide)]; exact ho_ c_)
        · exact hCx10_
        · omega
set_option maxHeartbeats 400000 in
theorem vc_159 {sc_ : Nat × (Nat → Int)} (a1_ : Int) (bb_ : Nat) (S0_ : sm_S) (hI_ : gi S0_) (hb_ : S0_.2.1 8 0 0 = some bb_) (h1_ : 0 ≤ a1_ ∧ a1_ ≤ 161) : sm_T (mt_P sc_) 0 159 (0, [some (.inr (.inr (some (8, 0)))), some (.inl a1_), none], [], S0_) (fun ro9_ => ∃ u_ S1_, ro9_ = (.inl u_, S1_, 0) ∧ vq_159 a1_ bb_ S0_ u_ S1_) := by
  have hF_ : ai_fr (sx_W vw_159) S0_ S0_ := ai_fr_rf
  have hC_ : cdf bb_ S0_ S0_ := cdf_rf
  have cL_ : 0 ≤ S0_.1 8 0 2 ∧ S0_.1 8 0 2 ≤ 2356 := hI_.1 8 0 2 rfl
  refine sm_T_go 1 (c1 := (1, [some (.inr (.inr (some (8, 0)))), some (.inl a1_), none], [.inr (.inr (some (8, 0)))], S0_)) rfl ?_
  refine sm_T_gr rfl rfl ((hF_.2.1 8 0 0 rfl).trans hb_) ?_
  refine sm_T_go 3 (c1 := (9, [some (.inr (.inr (some (8, 0)))), some (.inl a1_), none], [.inl 1, .inl a1_, .inr (.inr (some (24, (0 + bb_))))], S0_)) rfl ?_
  refine sm_T_iast (n := 162) rfl rfl (by omega) (by omega) ?_
  have hIx1_ : gi (sm_aI S0_ 24 (0 + bb_) a1_.toNat 1) := gi_aI hI_ (show 0 ≤ 1 ∧ 1 ≤ 1 from ⟨by omega, by omega⟩)
  have hFx2_ : ai_fr (sx_W vw_159) S0_ (sm_aI S0_ 24 (0 + bb_) a1_.toNat 1) := ai_fr_tr hF_ (ai_fr_aI rfl)
  have hCx3_ : cdf bb_ S0_ (sm_aI S0_ 24 (0 + bb_) a1_.toNat 1) := cdf_aI hC_ (Or.inr (by rw [show cof 24 = 0 from rfl] <;> omega))
  refine sm_T_go 2 (c1 := (12, [some (.inr (.inr (some (8, 0)))), some (.inl a1_), some (.inl 0)], [], sm_aI S0_ 24 (0 + bb_) a1_.toNat 1)) rfl ?_
  refine (vl_159 a1_ bb_ S0_ hb_ h1_ _) 0 (sm_aI S0_ 24 (0 + bb_) a1_.toNat 1) hIx1_ hFx2_ ⟨?_, ?_, ?_, ?_, trivial⟩ (Nat.lt_succ_self _)
  · omega
  · intro p_
    rw [if_neg (by omega), if_neg (by omega), rd_ne (by decide), rd_ne (by decide)]
    exact ⟨rfl, rfl⟩
  · (intro c_; rw [rd_eq])
  · exact hCx3_
