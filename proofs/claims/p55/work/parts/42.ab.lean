/-! what a branch tells -/
/-- when condition k holds of x and y: bounds of x, bounds of y -/
def ai_cut (k : Nat) (x y : ai_I) : (Int × Int) × (Int × Int) := match k with
  | 0 => ((y.1, y.2.1), (x.1, x.2.1))
  | 1 => ((if y.1 = y.2.1 ∧ y.1 = x.1 then x.1 + 1 else x.1, if y.1 = y.2.1 ∧ y.1 = x.2.1 then x.2.1 - 1 else x.2.1), (if x.1 = x.2.1 ∧ x.1 = y.1 then y.1 + 1 else y.1, if x.1 = x.2.1 ∧ x.1 = y.2.1 then y.2.1 - 1 else y.2.1))
  | 2 => ((x.1, y.2.1 - 1), (x.1 + 1, y.2.1))
  | 3 => ((y.1, x.2.1), (y.1, x.2.1))
  | 4 => ((y.1 + 1, x.2.1), (y.1, x.2.1 - 1))
  | _ => ((x.1, y.2.1), (x.1, y.2.1))
theorem ai_cut_g {k : Nat} {x y : ai_I} {u v : Int} (hx : ai_in x u) (hy : ai_in y v) (h : sm_cnd k u v = true) : ((ai_cut k x y).1.1 ≤ u ∧ u ≤ (ai_cut k x y).1.2) ∧ (ai_cut k x y).2.1 ≤ v ∧ v ≤ (ai_cut k x y).2.2 := by
  unfold ai_in at hx hy
  rcases k with _ | _ | _ | _ | _ | k
  · have h : u = v := of_decide_eq_true h
    show (y.1 ≤ u ∧ u ≤ y.2.1) ∧ x.1 ≤ v ∧ v ≤ x.2.1
    omega
  · have h : u ≠ v := of_decide_eq_true h
    show ((if y.1 = y.2.1 ∧ y.1 = x.1 then x.1 + 1 else x.1) ≤ u ∧ u ≤ (if y.1 = y.2.1 ∧ y.1 = x.2.1 then x.2.1 - 1 else x.2.1)) ∧ (if x.1 = x.2.1 ∧ x.1 = y.1 then y.1 + 1 else y.1) ≤ v ∧ v ≤ (if x.1 = x.2.1 ∧ x.1 = y.2.1 then y.2.1 - 1 else y.2.1)
    refine ⟨⟨?_, ?_⟩, ?_, ?_⟩ <;> split <;> omega
  · have h : u < v := of_decide_eq_true h
    show (x.1 ≤ u ∧ u ≤ y.2.1 - 1) ∧ x.1 + 1 ≤ v ∧ v ≤ y.2.1
    omega
  · have h : v ≤ u := of_decide_eq_true h
    show (y.1 ≤ u ∧ u ≤ x.2.1) ∧ y.1 ≤ v ∧ v ≤ x.2.1
    omega
  · have h : v < u := of_decide_eq_true h
    show (y.1 + 1 ≤ u ∧ u ≤ x.2.1) ∧ y.1 ≤ v ∧ v ≤ x.2.1 - 1
    omega
  · have h : u ≤ v := of_decide_eq_true h
    show (x.1 ≤ u ∧ u ≤ y.2.1) ∧ x.1 ≤ v ∧ v ≤ y.2.1
    omega
/-- the condition that holds when k doesn't -/
def ai_neg (k : Nat) : Nat := match k with
  | 0 => 1
  | 1 => 0
  | 2 => 3
  | 3 => 2
  | 4 => 5
  | _ => 4
theorem ai_neg_g {k : Nat} {u v : Int} (h : sm_cnd k u v = false) : sm_cnd (ai_neg k) u v = true := by
  rcases k with _ | _ | _ | _ | _ | k
  · have h : ¬ u = v := of_decide_eq_false h
    exact decide_eq_true h
  · have h : ¬ u ≠ v := of_decide_eq_false h
    exact decide_eq_true (show u = v by omega)
  · have h : ¬ u < v := of_decide_eq_false h
    exact decide_eq_true (show v ≤ u by omega)
  · have h : ¬ v ≤ u := of_decide_eq_false h
    exact decide_eq_true (show u < v by omega)
  · have h : ¬ v < u := of_decide_eq_false h
    exact decide_eq_true (show u ≤ v by omega)
  · have h : ¬ u ≤ v := of_decide_eq_false h
    exact decide_eq_true (show v < u by omega)
def ai_meet (i : ai_I) (lo hi : Int) : ai_I := (max i.1 lo, min i.2.1 hi, i.2.2)
/-- a number that is now known better: the local, or the field, that it comes from, too -/
def ai_ref (aL : ai_L) (F : ai_F) (i : ai_I) (lo hi : Int) : ai_L × ai_F := match i.2.2.2 with
  | none => (aL, F)
  | some (.inl j) => match aL.getD j none with
    | some (.inl q) => (aL.set j (some (.inl (ai_meet q (max i.1 lo) (min i.2.1 hi)))), F)
    | _ => (aL, F)
  | some (.inr (j, k)) => (aL, ((j, k), max i.1 lo, min i.2.1 hi) :: F)
theorem ai_ref_g {L0 L : sm_L} {S : sm_S} {aL : ai_L} {F : ai_F} {i : ai_I} {lo hi z : Int} (hL : ai_gL L0 L S aL) (hF : ai_gF L0 S F) (hi0 : ai_gI L0 L S i z) (h1 : lo ≤ z) (h2 : z ≤ hi) : ai_gL L0 L S (ai_ref aL F i lo hi).1 ∧ ai_gF L0 S (ai_ref aL F i lo hi).2 := by
  unfold ai_ref
  split
  · exact ⟨hL, hF⟩
  · rename_i j ho
    split
    · rename_i q hq
      refine ⟨⟨by rw [List.length_set]; exact hL.1, fun j' a hj => ?_⟩, hF⟩
      have hz := hi0.2.2.1 j ho
      by_cases e : j = j'
      · subst e
        have hlt : j < aL.length := by
          by_cases g : j < aL.length
          · exact g
          · rw [List.getD_eq_getElem?_getD, List.getElem?_eq_none (by omega)] at hq
            cases hq
        rw [List.getD_eq_getElem?_getD, List.getElem?_set_self hlt] at hj
        cases hj
        obtain ⟨v, g1, g2⟩ := hL.2 j _ hq
        rw [hz] at g1
        cases g1
        refine ⟨_, hz, ?_⟩
        have g2 : ai_gI L0 L S q z := g2
        have hb := hi0.1
        have hc := g2.1
        exact ⟨⟨by show max q.1 (max i.1 lo) ≤ z; omega, by show z ≤ min q.2.1 (min i.2.1 hi); omega⟩, g2.2⟩
      · rw [List.getD_eq_getElem?_getD, List.getElem?_set_ne e, ← List.getD_eq_getElem?_getD] at hj
        exact hL.2 j' a hj
    · exact ⟨hL, hF⟩
  · rename_i j k ho
    refine ⟨hL, fun q hq t i' hq0 => ?_⟩
    rcases List.mem_cons.mp hq with rfl | hq
    · obtain ⟨t1, i1, g1, g2⟩ := hi0.2.2.2 j k ho
      have e := hq0.symm.trans g1
      cases e
      have hb := hi0.1
      rw [g2]
      exact ⟨by show max i.1 lo ≤ z; omega, by show z ≤ min i.2.1 hi; omega⟩
    · exact hF q hq t i' hq0
def ai_ok (i : ai_I) : Bool := decide (-2147483648 ≤ i.1) && decide (i.2.1 ≤ 2147483647)
theorem ai_ok_g {i : ai_I} {z : Int} (h : ai_ok i = true) (hz : ai_in i z) : sm_ni z := by
  unfold ai_ok at h
  simp only [Bool.and_eq_true, decide_eq_true_eq] at h
  unfold ai_in at hz
  unfold sm_ni
  omega
/-- what a field of an object in a local is known to be -/
def ai_fact (F : ai_F) (j : Option Nat) (k : Nat) (g : Int × Int) : Int × Int := match j with
  | none => g
  | some j => match F.find? (fun q => q.1.1 = j && q.1.2 = k) with
    | some q => (max g.1 q.2.1, min g.2 q.2.2)
    | none => g
theorem ai_fact_g {L0 : sm_L} {S : sm_S} {F : ai_F} {j : Option Nat} {k t i : Nat} {g : Int × Int} (hF : ai_gF L0 S F) (hj : ∀ j', j = some j' → L0.getD j' none = some (.inr (.inr (some (t, i))))) (hg : g.1 ≤ S.1 t i k ∧ S.1 t i k ≤ g.2) : (ai_fact F j k g).1 ≤ S.1 t i k ∧ S.1 t i k ≤ (ai_fact F j k g).2 := by
  unfold ai_fact
  split
  · exact hg
  · rename_i j'
    split
    · rename_i q hq
      have h1 := List.find?_some hq
      have h2 := List.mem_of_find?_eq_some hq
      simp only [Bool.and_eq_true, decide_eq_true_eq] at h1
      have h3 := hF q h2 t i (by rw [h1.1]; exact hj j' rfl)
      rw [h1.2] at h3
      dsimp only
      omega
    · exact hg
