/-! first walks -/
abbrev tM : sm_V := .inr (.inr (some (13, 0)))
theorem tm_282 {sc : Nat × (Nat → Int)} {S : sm_S} {k : Int} (hk : 0 ≤ k) (hs : S.1 13 0 2 ≤ 65536) : sm_T (mt_P sc) 0 282 (0, [some tM, some (.inl k)], [], S) (fun r => ∃ u S1, r = (.inl u, S1, 0) ∧ S1 = S ∧ u = some (.inl (if k < S.1 13 0 2 then (Int32.ofInt (S.2.2.1 118 0 k.toNat) &&& Int32.ofInt 255).toInt else -1))) := by
  refine sm_T_go 3 (c1 := (5, [some tM, some (.inl k)], [.inl (S.1 13 0 2), .inl k], S)) rfl ?_
  refine sm_T_br (a := 3) (b := 0) (v := 0) (z := 16) rfl (fun c => ?_) (fun c => ?_)
  · have c : S.1 13 0 2 ≤ k := of_decide_eq_true c
    refine sm_T_go 1 (c1 := (22, [some tM, some (.inl k)], [.inl (-1)], S)) rfl ?_
    refine sm_T_ri (n0 := 1) (a := 0) (v := 0) (z := 0) rfl ⟨_, _, rfl, rfl, ?_⟩
    rw [if_neg (by omega)]
  · have c : ¬ S.1 13 0 2 ≤ k := of_decide_eq_false c
    refine sm_T_go 3 (c1 := (13, [some tM, some (.inl k)], [.inl k, .inr (.inr (some (118, 0)))], S)) rfl ?_
    refine sm_T_bald (n := 65536) (n0 := 1) (a := 0) (b := 0) (v := 0) (z := 0) rfl rfl hk (by omega) ?_
    refine sm_T_go 3 (c1 := (22, [some tM, some (.inl k)], [.inl (Int32.ofInt (S.2.2.1 118 0 k.toNat) &&& Int32.ofInt 255).toInt], S)) rfl ?_
    refine sm_T_ri (n0 := 1) (a := 0) (v := 0) (z := 0) rfl ⟨_, _, rfl, rfl, ?_⟩
    rw [if_pos (by omega)]
