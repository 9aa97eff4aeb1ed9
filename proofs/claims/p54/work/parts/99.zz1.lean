/-! every script's run of the law comes to 1 -/
theorem law_all : ∀ (L : Nat) (xs : Nat → Int32), L ≤ 448 → law_run L xs := fun L xs hL => by
  have hs : scB (lw_sc L xs) := ⟨hL, fun k => ⟨Int32.le_toInt (xs k), by
    have z : (xs k).toInt < 2147483648 := Int32.toInt_lt (xs k)
    show (xs k).toInt ≤ 2147483647
    omega⟩⟩
  obtain ⟨n, r, h1, S1, k, e, hk⟩ := law_0 hs
  subst e
  exact ⟨n, 40, k, S1, by decide, by omega, h1⟩
theorem i_vc : Claimed_1_1 ∧ Claimed_1_2 := i_of law_all
