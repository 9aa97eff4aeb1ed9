/-! one symbolic step -/
def sx_st (E : ai_E) (x : sm_I) (a : sx_C) : Option (List sx_C) :=
  if x.1 < 40 then match sx_st1 x a with
    | some r => some r
    | none => match sx_st2 x a with
      | some r => some r
      | none => match sx_st3 E x a with
        | some r => some r
        | none => match sx_st4 x a with
          | some r => some r
          | none => match sx_st5 E x a with
            | some r => some r
            | none => sx_st6 E x a
  else none
theorem sx_st_g {ρ : Nat → Int} {τ : Nat → Nat} {E : ai_E} {x : sm_I} {a : sx_C} {cs : List sx_C} {c : sm_C} (h : sx_st E x a = some cs) (g : sx_gC ρ τ a c) (hG : ai_GI E.1 E.2.1 c.2.2.2) : x.1 < 40 ∧ ∃ c1 a1 ρ' τ', sm_stp x c.1 c.2.1 c.2.2.1 c.2.2.2 = some c1 ∧ a1 ∈ cs ∧ sx_gC ρ' τ' a1 c1 ∧ sx_lk a.2.2.2.2.2.1.length a.2.2.2.2.2.2.2.2 ρ ρ' τ τ' ∧ ai_GI E.1 E.2.1 c1.2.2.2 ∧ ai_fr E.2.2 c.2.2.2 c1.2.2.2 := by
  have rf : sx_lk a.2.2.2.2.2.1.length a.2.2.2.2.2.2.2.2 ρ ρ τ τ := ⟨fun _ _ => rfl, fun _ _ => rfl⟩
  unfold sx_st at h
  split at h
  · rename_i hx
    refine ⟨hx, ?_⟩
    split at h
    · rename_i r hr
      cases h
      obtain ⟨c1, a1, q1, q2, q3, q4⟩ := sx_st1_g hr g
      exact ⟨c1, a1, ρ, τ, q1, q2, q3, rf, by rw [q4]; exact hG, by rw [q4]; exact ai_fr_rf⟩
    · split at h
      · rename_i r hr
        cases h
        obtain ⟨c1, a1, ρ', q1, q2, q3, q5, q4⟩ := sx_st2_g hr g
        exact ⟨c1, a1, ρ', τ, q1, q2, q3, q5, by rw [q4]; exact hG, by rw [q4]; exact ai_fr_rf⟩
      · split at h
        · rename_i r hr
          cases h
          obtain ⟨c1, a1, ρ', q1, q2, q3, q5, q4, q6⟩ := sx_st3_g hr g hG
          exact ⟨c1, a1, ρ', τ, q1, q2, q3, q5, q4, q6⟩
        · split at h
          · rename_i r hr
            cases h
            obtain ⟨c1, a1, ρ', q1, q2, q3, q5, q4⟩ := sx_st4_g hr g
            exact ⟨c1, a1, ρ', τ, q1, q2, q3, q5, by rw [q4]; exact hG, by rw [q4]; exact ai_fr_rf⟩
          · split at h
            · rename_i r hr
              cases h
              obtain ⟨c1, a1, τ', q1, q2, q3, q5, q4, q6⟩ := sx_st5_g hr g hG
              exact ⟨c1, a1, ρ, τ', q1, q2, q3, q5, q4, q6⟩
            · exact sx_st6_g h g hG
  · cases h
