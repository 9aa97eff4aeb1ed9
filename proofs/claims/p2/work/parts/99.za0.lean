/-! the graph, abstractly; written by wip/p55/gen/vg -/

/-! the_ graph: pairs of_ literals, the_ lesser first, in the_ order in which they are_ made -/
abbrev pGr : Type := List (Int × Int)
def g_fd (x_ y_ : Int) : pGr → Nat → Option Nat
  | [], _ => none
  | p_ :: l_, k_ => if p_.1 = x_ ∧ p_.2 = y_ then some k_ else g_fd x_ y_ l_ (k_ + 1)
def g_a2 (F_ : Nat) (G_ : pGr) (x_ y_ : Int) : Int × pGr := if x_ = 0 ∨ x_ = i_xor y_ 1 then (0, G_) else if x_ = 1 ∨ x_ = y_ then (y_, G_) else match g_fd x_ y_ G_ 0 with
  | some k_ => (2 * ((F_ + k_ : Nat) : Int), G_)
  | none => (2 * ((F_ + G_.length : Nat) : Int), G_ ++ [(x_, y_)])
/-- both, either, one_ alone; each with the_ graph behind it_ -/
def g_an (F_ : Nat) (G_ : pGr) (a_ b_ : Int) : Int × pGr := if a_ < b_ then g_a2 F_ G_ a_ b_ else g_a2 F_ G_ b_ a_
def g_or (F_ : Nat) (G_ : pGr) (a_ b_ : Int) : Int × pGr := (i_xor (g_an F_ G_ (i_xor a_ 1) (i_xor b_ 1)).1 1, (g_an F_ G_ (i_xor a_ 1) (i_xor b_ 1)).2)
def g_xo (F_ : Nat) (G_ : pGr) (a_ b_ : Int) : Int × pGr := g_or F_ (g_an F_ (g_an F_ G_ a_ (i_xor b_ 1)).2 (i_xor a_ 1) b_).2 (g_an F_ G_ a_ (i_xor b_ 1)).1 (g_an F_ (g_an F_ G_ a_ (i_xor b_ 1)).2 (i_xor a_ 1) b_).1
theorem g_fd_b {x_ y_ : Int} : ∀ {l_ : pGr} {k_ i_ : Nat}, g_fd x_ y_ l_ k_ = some i_ → k_ ≤ i_ ∧ i_ < k_ + l_.length ∧ l_[i_ - k_]? = some (x_, y_)
  | [], k_, i_, h_ => by cases h_
  | p_ :: l_, k_, i_, h_ => by
    unfold g_fd at h_
    split at h_
    · rename_i g_
      cases h_
      refine ⟨Nat.le_refl _, by simp, ?_⟩
      rw [Nat.sub_self]
      show some p_ = _
      rw [← g_.1, ← g_.2]
    · have k1_ := g_fd_b h_
      refine ⟨by omega, by simp only [List.length_cons]; omega, ?_⟩
      rw [show i_ - k_ = (i_ - (k_ + 1)) + 1 by omega, List.getElem?_cons_succ]
      exact k1_.2.2
theorem g_a2_le {F_ : Nat} {G_ : pGr} {x_ y_ : Int} : G_.length ≤ (g_a2 F_ G_ x_ y_).2.length ∧ (g_a2 F_ G_ x_ y_).2.length ≤ G_.length + 1 := by
  unfold g_a2
  split
  · exact ⟨Nat.le_refl _, Nat.le_succ _⟩
  · split
    · exact ⟨Nat.le_refl _, Nat.le_succ _⟩
    · split
      · exact ⟨Nat.le_refl _, Nat.le_succ _⟩
      · simp
theorem g_an_le {F_ : Nat} {G_ : pGr} {a_ b_ : Int} : G_.length ≤ (g_an F_ G_ a_ b_).2.length ∧ (g_an F_ G_ a_ b_).2.length ≤ G_.length + 1 := by
  unfold g_an
  split <;> exact g_a2_le
