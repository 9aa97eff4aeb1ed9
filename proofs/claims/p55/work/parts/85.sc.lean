/-! conditions -/
def sx_cd (k : Nat) (x y : sx_E) (a : sx_C) : Option sx_C := match k with
  | 0 => (sx_as (sx_ad (-1) x y) a).bind (sx_as (sx_ad (-1) y x))
  | 1 => if sx_low a.2.2.2.2.2.1 a.2.2.2.2.2.2.1 (sx_ad (-1) x y) = 0 then sx_as (sx_ad (-1) (sx_ad (-1) x y) (sx_c 1)) a else if sx_hi a.2.2.2.2.2.1 a.2.2.2.2.2.2.1 (sx_ad (-1) x y) = 0 then sx_as (sx_ad (-1) (sx_ad (-1) y x) (sx_c 1)) a else some a
  | 2 => sx_as (sx_ad (-1) (sx_ad (-1) y x) (sx_c 1)) a
  | 3 => sx_as (sx_ad (-1) x y) a
  | 4 => sx_as (sx_ad (-1) (sx_ad (-1) x y) (sx_c 1)) a
  | _ => sx_as (sx_ad (-1) y x) a
/-- the same but for what is known of atoms -/
def sx_al (a a' : sx_C) : Prop := a'.1 = a.1 ∧ a'.2.1 = a.2.1 ∧ a'.2.2.1 = a.2.2.1 ∧ a'.2.2.2.2.2.1.length = a.2.2.2.2.2.1.length
theorem sx_cd_g {ρ : Nat → Int} {τ : Nat → Nat} {k : Nat} {x y : sx_E} {a : sx_C} {c : sm_C} (g : sx_gC ρ τ a c) (wx : sx_wf a.2.2.2.2.2.1.length x) (wy : sx_wf a.2.2.2.2.2.1.length y) (h : sm_cnd k (sx_ev ρ x) (sx_ev ρ y) = true) : ∃ a', sx_cd k x y a = some a' ∧ sx_gC ρ τ a' c ∧ sx_al a a' := by
  have wd : sx_wf a.2.2.2.2.2.1.length (sx_ad (-1) x y) := sx_ad_wf wx wy
  have we : sx_wf a.2.2.2.2.2.1.length (sx_ad (-1) y x) := sx_ad_wf wy wx
  have vd : sx_ev ρ (sx_ad (-1) x y) = sx_ev ρ x + -1 * sx_ev ρ y := sx_ad_ev ρ _ _ _
  have ve : sx_ev ρ (sx_ad (-1) y x) = sx_ev ρ y + -1 * sx_ev ρ x := sx_ad_ev ρ _ _ _
  have w1 : ∀ z : sx_E, sx_wf a.2.2.2.2.2.1.length z → sx_wf a.2.2.2.2.2.1.length (sx_ad (-1) z (sx_c 1)) := fun z hz => sx_ad_wf hz (sx_c_wf _ _)
  have v1 : ∀ z : sx_E, sx_ev ρ (sx_ad (-1) z (sx_c 1)) = sx_ev ρ z + -1 * 1 := fun z => by rw [sx_ad_ev, sx_c_ev]
  have hb : sx_low a.2.2.2.2.2.1 a.2.2.2.2.2.2.1 (sx_ad (-1) x y) ≤ sx_ev ρ (sx_ad (-1) x y) ∧ sx_ev ρ (sx_ad (-1) x y) ≤ sx_hi a.2.2.2.2.2.1 a.2.2.2.2.2.2.1 (sx_ad (-1) x y) := by
    obtain ⟨pc, aL, st, m, nn, iv, fs, kk, t⟩ := a
    obtain ⟨-, -, -, -, -, gi, gf, -, -⟩ := g
    exact ⟨sx_low_le gi gf wd, sx_hi_le gi gf wd⟩
  unfold sm_cnd at h
  unfold sx_cd
  split at h
  · have h := of_decide_eq_true h
    obtain ⟨a1, e1, g1, l1⟩ := sx_as_g g wd (by omega)
    obtain ⟨a2, e2, g2, l2⟩ := sx_as_g g1 (by rw [l1.2.2.2]; exact we) (by omega)
    exact ⟨a2, by rw [e1]; exact e2, g2, l2.1.trans l1.1, l2.2.1.trans l1.2.1, l2.2.2.1.trans l1.2.2.1, l2.2.2.2.trans l1.2.2.2⟩
  · have h := of_decide_eq_true h
    show ∃ a', (if sx_low a.2.2.2.2.2.1 a.2.2.2.2.2.2.1 (sx_ad (-1) x y) = 0 then sx_as (sx_ad (-1) (sx_ad (-1) x y) (sx_c 1)) a else if sx_hi a.2.2.2.2.2.1 a.2.2.2.2.2.2.1 (sx_ad (-1) x y) = 0 then sx_as (sx_ad (-1) (sx_ad (-1) y x) (sx_c 1)) a else some a) = some a' ∧ sx_gC ρ τ a' c ∧ sx_al a a'
    split
    · exact sx_as_g g (w1 _ wd) (by rw [v1]; omega)
    · split
      · exact sx_as_g g (w1 _ we) (by rw [v1]; omega)
      · exact ⟨a, rfl, g, rfl, rfl, rfl, rfl⟩
  · have h := of_decide_eq_true h
    exact sx_as_g g (w1 _ we) (by rw [v1]; omega)
  · have h := of_decide_eq_true h
    exact sx_as_g g wd (by omega)
  · have h := of_decide_eq_true h
    exact sx_as_g g (w1 _ wd) (by rw [v1]; omega)
  · rename_i n0 n1 n2 n3 n4
    have h := of_decide_eq_true h
    split
    · exact absurd rfl n0
    · exact absurd rfl n1
    · exact absurd rfl n2
    · exact absurd rfl n3
    · exact absurd rfl n4
    · exact sx_as_g g we (by omega)
