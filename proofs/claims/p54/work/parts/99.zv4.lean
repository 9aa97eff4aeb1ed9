/-! the law from its start; written by wip/p55/gen/vg/d09.py -/
theorem cap_A0 : ∀ l_ ∈ cap_AL, ∀ p_ ∈ l_, p_.1 ≤ (0 : Int) ∧ (0 : Int) ≤ p_.2 := by decide +kernel
theorem cap_F0 : ∀ l_ ∈ cap_FL, ∀ p_ ∈ l_, p_.1 ≤ (0 : Int) ∧ (0 : Int) ≤ p_.2 := by decide +kernel
theorem cap_0 {L_ : List (List (Int × Int))} (h_ : ∀ l_ ∈ L_, ∀ p_ ∈ l_, p_.1 ≤ (0 : Int) ∧ (0 : Int) ≤ p_.2) (t_ k_ : Nat) : ((L_.getD t_ []).getD k_ (0, 0)).1 ≤ 0 ∧ 0 ≤ ((L_.getD t_ []).getD k_ (0, 0)).2 := by
  by_cases c_ : t_ < L_.length
  · have e_ : L_.getD t_ [] = L_[t_] := by rw [List.getD_eq_getElem?_getD, List.getElem?_eq_getElem c_]; rfl
    rw [e_]
    by_cases d_ : k_ < L_[t_].length
    · have f_ : L_[t_].getD k_ (0, 0) = L_[t_][k_] := by rw [List.getD_eq_getElem?_getD, List.getElem?_eq_getElem d_]; rfl
      rw [f_]
      exact h_ _ (List.getElem_mem c_) _ (List.getElem_mem d_)
    · rw [List.getD_eq_getElem?_getD, List.getElem?_eq_none (by omega)]
      exact ⟨Int.le_refl _, Int.le_refl _⟩
  · have e_ : L_.getD t_ [] = [] := by rw [List.getD_eq_getElem?_getD, List.getElem?_eq_none (by omega)]; rfl
    rw [e_]
    exact ⟨Int.le_refl _, Int.le_refl _⟩
theorem gi_0 : gi z_S0 := ⟨fun t_ i_ k_ _ => cap_0 cap_F0 t_ k_, fun t_ i_ k_ => cap_0 cap_A0 (t_ / 16) (t_ % 16)⟩
theorem jB_0 : jB 0 z_S0 := by
  refine ⟨gi_0, ⟨fun i_ _ h_ => ?_, fun i_ _ h_ => ?_, ⟨?_, fun i_ h_ g_ => ?_⟩, fun k_ => ?_⟩, ⟨fun d_ _ h_ => ?_, fun c_ _ _ h_ => ?_⟩, rfl, rfl, ⟨⟨Int.le_refl _, ?_⟩, ⟨⟨⟨Int.le_refl _, Int.le_refl _⟩, fun x_ => ⟨Int.le_refl _, Int.le_refl _⟩⟩, fun c_ _ => rfl, fun c_ _ h_ => absurd (show (0 : Int) = 1 from h_) (by decide)⟩, ⟨⟨fun c_ => ⟨Int.le_refl _, Int.le_refl _⟩, fun c_ _ => Int.le_refl _⟩, fun c_ _ h_ => absurd (show (0 : Int) = 1 from h_) (by decide)⟩, fun c_ _ h_ => absurd (show (0 : Int) = 1 from h_) (by decide)⟩, fun j_ _ => rfl, fun j_ _ => rfl, rfl, fun d_ _ h_ => absurd (show (0 : Int) = 1 from h_) (by decide), fun l_ _ h_ => absurd (show (0 : Int) = 1 from h_) (by decide)⟩
  · exact absurd (show (0 : Int) = 1 from h_) (by decide)
  · exact absurd (show (0 : Int) = 1 from h_) (by decide)
  · show (0 : Int) ≤ 40
    decide
  · have a_ : (i_ : Int) ≤ 0 := h_
    have b_ : (i_ : Int) ≠ 0 := g_
    exact absurd a_ (by omega)
  · exact ⟨show (-9223372036854775808 : Int) ≤ 0 by decide, show (0 : Int) < 9223372036854775808 by decide⟩
  · exact absurd (show (0 : Int) = 1 from h_) (by decide)
  · exact absurd (show (0 : Int) = 1 from h_) (by decide)
  · show (0 : Int) ≤ 20 * ((0 : Nat) : Int)
    decide
set_option maxRecDepth 100000 in
set_option maxHeartbeats 4000000 in
theorem law_0 {sc_ : Nat × (Nat → Int)} (hs_ : scB sc_) : sm_T (mt_P sc_) 40 588 (20, [some (.inr (.inr (some (302, 0)))), some (.inr (.inr (some (12, 0)))), some (.inr (.inr (some (13, 0)))), some (.inr (.inr (some (295, 0)))), none, none, none], [], z_S0) (lwQ 65) := by
  refine sm_T_go 2 (c1 := (23, [some (.inr (.inr (some (302, 0)))), some (.inr (.inr (some (12, 0)))), some (.inr (.inr (some (13, 0)))), some (.inr (.inr (some (295, 0)))), some (.inl 0), none, none], [], z_S0)) rfl ?_
  have b_ := hs_.1
  exact law_C hs_ 65 0 none none z_S0 jB_0 (by omega)
