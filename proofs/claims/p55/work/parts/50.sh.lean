/-! from the check of a method to its safety -/
def ai_vis (a : ai_V) : ai_L := match a with
  | .inr (.inl u) => [some (.inr (.inl u)), none]
  | a => [some a]
def ai_vsl (as : List ai_V) : ai_L := as.flatMap ai_vis
def ai_ent (n : Nat) (as : List ai_V) : ai_L := ai_vsl as ++ List.replicate (n - (ai_vsl as).length) none
theorem ai_vsl_len : ∀ {as : List ai_V} {vs : List sm_V}, ai_hS as vs → (ai_vsl as).length = (sm_vsl vs).length
  | [], [], _ => rfl
  | a :: as, v :: vs, h => by
    have ih := ai_vsl_len h.2
    unfold ai_vsl sm_vsl at ih ⊢
    rw [List.flatMap_cons, List.flatMap_cons, List.length_append, List.length_append, ih]
    congr 1
    have hd := h.1
    rcases a with x | _ | x
    · rcases v with z | z | v <;> first | rfl | exact hd.elim
    · rcases v with z | z | v <;> first | rfl | exact hd.elim
    · rcases v with z | z | _ | v <;> first | rfl | exact hd.elim
  | [], _ :: _, h => h.elim
  | _ :: _, [], h => h.elim
theorem ai_vsl_at : ∀ {as : List ai_V} {vs : List sm_V}, ai_hS as vs → ∀ {j : Nat} {b : ai_V}, (ai_vsl as)[j]? = some (some b) → ∃ v, (sm_vsl vs)[j]? = some (some v) ∧ ai_h b v
  | [], [], _, j, b, hj => by cases hj
  | a :: as, v :: vs, h, j, b, hj => by
    have hd := h.1
    have ih := @ai_vsl_at as vs h.2
    unfold ai_vsl at hj ih
    unfold sm_vsl at ih ⊢
    rw [List.flatMap_cons] at hj ⊢
    rcases a with x | _ | x
    · rcases v with z | z | v
      · rcases j with _ | j
        · cases hj; exact ⟨_, rfl, hd⟩
        · exact ih hj
      · exact hd.elim
      · exact hd.elim
    · rcases v with z | z | v
      · exact hd.elim
      · rcases j with _ | _ | j
        · cases hj; exact ⟨_, rfl, hd⟩
        · cases hj
        · exact ih hj
      · exact hd.elim
    · rcases v with z | z | _ | v
      · exact hd.elim
      · exact hd.elim
      · rcases j with _ | j
        · cases hj; exact ⟨_, rfl, hd⟩
        · exact ih hj
      · rcases j with _ | j
        · cases hj; exact ⟨_, rfl, hd⟩
        · exact ih hj
  | [], _ :: _, h, _, _, _ => h.elim
  | _ :: _, [], h, _, _, _ => h.elim
theorem ai_ent_g {n : Nat} {as : List ai_V} {vs : List sm_V} (h : ai_hS as vs) (hn : (ai_vsl as).length ≤ n) : ai_hL (ai_ent n as) (sm_ent n vs) := by
  have hlen := ai_vsl_len h
  refine ⟨?_, fun j b hj => ?_⟩
  · rw [sm_ent_len (by omega)]
    unfold ai_ent
    rw [List.length_append, List.length_replicate]
    omega
  · have h1 : (ai_vsl as)[j]? = some (some b) := by
      unfold ai_ent at hj
      rw [List.getD_eq_getElem?_getD, List.getElem?_append] at hj
      split at hj
      · rename_i q
        rw [List.getElem?_eq_getElem q] at hj ⊢
        exact congrArg some hj
      · cases hr : (List.replicate (n - (ai_vsl as).length) (none : Option ai_V))[j - (ai_vsl as).length]? with
        | none => rw [hr] at hj; cases hj
        | some w =>
          rw [hr] at hj
          have := List.eq_of_mem_replicate (List.mem_of_getElem? hr)
          subst this
          cases hj
    obtain ⟨v, g1, g2⟩ := ai_vsl_at h h1
    refine ⟨v, ?_, g2⟩
    unfold sm_ent
    have hlt := (List.getElem?_eq_some_iff.mp g1).1
    rw [List.getD_eq_getElem?_getD, List.getElem?_append_left hlt, g1]
    rfl
/-- annotations as a list -/
def ai_look (l : List (Nat × ai_A)) (pc : Nat) : Option ai_A := l.lookup pc
def ai_chk (P : sm_P) (E : ai_E) (An : List (Nat × ai_A)) (Sp : Nat → Option ai_P) (Co : List (Nat × Int)) (mid : Nat) (sp : ai_P) (fuel : Nat) : Bool :=
  (match ai_look An 0 with
    | some A => ai_leL (ai_ini (ai_ent (P.2.1 mid).2 sp.1)) A.1 && A.2.1.isEmpty
    | none => false) && decide ((ai_vsl sp.1).length ≤ (P.2.1 mid).2) &&
  An.all fun q => ai_mok q.2 && ai_ex P E (ai_look An, Sp, Co, []) mid q.2 sp.2.1 sp.2.2 fuel (q.1, ai_ini q.2.1, q.2.2.1.map ai_pv, [])
theorem ai_look_mem {l : List (Nat × ai_A)} {pc : Nat} {A : ai_A} (h : ai_look l pc = some A) : (pc, A) ∈ l := by
  unfold ai_look at h
  induction l with
  | nil => cases h
  | cons q l ih =>
    obtain ⟨k, B⟩ := q
    rw [List.lookup_cons] at h
    split at h
    · rename_i e
      have e : pc = k := by simpa using e
      cases h
      rw [e]
      exact List.mem_cons_self
    · exact List.mem_cons_of_mem _ (ih h)
/-- the check is sound: a method whose callees are safe is safe -/
theorem ai_safe_of {P : sm_P} {E : ai_E} {An : List (Nat × ai_A)} {Sp : Nat → Option ai_P} {Co : List (Nat × Int)} {mid d fuel : Nat} {sp : ai_P} (h : ai_chk P E An Sp Co mid sp fuel = true) (hcon : ∀ a c, Co.lookup a = some c → ai_nat P a c) (hcal : ∀ a s, Sp a = some s → ai_safe P E d a s) : ai_safe P E (d + 1) mid sp := by
  simp only [ai_chk, Bool.and_eq_true] at h
  obtain ⟨⟨c1, c2⟩, c3⟩ := h
  have c2 := of_decide_eq_true c2
  have main : ∀ (N : Nat) (q : Nat) (A : ai_A), ai_look An q = some A → ∀ (L : sm_L) (vs : List sm_V) (S : sm_S), ai_hL A.1 L → ai_hS A.2.1 vs → ai_GI E.1 E.2.1 S → (ai_mz L A.2.2).toNat = N → sm_T P (d + 1) mid (q, L, vs, S) (fun r => ai_ty E r sp.2.1 sp.2.2) := by
    intro N
    induction N using Nat.strongRecOn with
    | _ N ihN =>
      intro q A hA L vs S hL hS hG hN
      have hq := List.all_eq_true.mp c3 (q, A) (ai_look_mem hA)
      simp only [Bool.and_eq_true] at hq
      refine ai_ex_g (D := (ai_look An, Sp, Co, [])) (A0 := A) (L0 := L) hcon hcal hL hq.1 (fun q' A' hA' L' vs' S' hL' hS' hG' hlt h0 => ?_) fuel _ _ hq.2 ⟨rfl, ai_ini_g hL, ai_pvS_g hS, fun y hy => absurd hy List.not_mem_nil⟩ hG
      exact ihN _ (by omega) q' A' hA' L' vs' S' hL' hS' hG' rfl
  intro vs S hvs hG
  split at c1
  · rename_i A hA
    simp only [Bool.and_eq_true] at c1
    have he : A.2.1 = [] := List.isEmpty_iff.mp c1.2
    exact main _ 0 A hA _ [] S (ai_leL_g c1.1 (ai_ini_g (S := S) (ai_ent_g hvs c2))) (by rw [he]; trivial) hG rfl
  · cases c1
