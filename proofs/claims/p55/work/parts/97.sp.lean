/-! symbolic natives -/
def sx_mm : List Int → Int × Int
  | [] => (0, 0)
  | [x] => (x, x)
  | x :: r => (min x (sx_mm r).1, max x (sx_mm r).2)
theorem sx_mm_g : ∀ {l : List Int} {z : Int}, z ∈ l → (sx_mm l).1 ≤ z ∧ z ≤ (sx_mm l).2
  | [], _, h => absurd h List.not_mem_nil
  | [x], z, h => by
    rw [List.mem_singleton.mp h]
    exact ⟨Int.le_refl _, Int.le_refl _⟩
  | x :: y :: r, z, h => by
    show min x (sx_mm (y :: r)).1 ≤ z ∧ z ≤ max x (sx_mm (y :: r)).2
    rcases List.mem_cons.mp h with rfl | h
    · omega
    · have := sx_mm_g h
      omega
theorem sx_ixr : ∀ {l : List Int} {x i : Int}, -1 ≤ i → -1 ≤ mt_ix l x i ∧ mt_ix l x i ≤ max (-1) (i + l.length - 1)
  | [], _, _, _ => by
    show (-1 : Int) ≤ -1 ∧ (-1 : Int) ≤ max (-1) _
    omega
  | y :: r, x, i, h => by
    have ih := @sx_ixr r x (i + 1) (by omega)
    show -1 ≤ (if y = x then i else mt_ix r x (i + 1)) ∧ (if y = x then i else mt_ix r x (i + 1)) ≤ max (-1) (i + ((y :: r).length : Nat) - 1)
    rw [List.length_cons]
    split
    · omega
    · omega
def sx_nt (E : ai_E) (x : sm_I) (a : sx_C) : Option sx_C := match x, a with
  | (_, n, w, b, _, _), (pc, aL, st, m, nn, iv, fs, k, t) =>
    if w = 2 then match b, st with
      | 5, .inl z :: .inl y :: .inr (.inr (t2, _, _, false)) :: .inl x :: .inr (.inr (t1, _, _, false)) :: r =>
        if decide (0 ≤ sx_low iv fs x) && decide (0 ≤ sx_low iv fs y) && decide (0 ≤ sx_low iv fs z) && decide (sx_hi iv fs (sx_ad 1 x z) ≤ (sh_kd t1).2.2) && decide (sx_hi iv fs (sx_ad 1 y z) ≤ (sh_kd t2).2.2) && E.2.2.2.1 t2 && ((decide ((sh_kd t1).1 = 1) && decide ((sh_kd t2).1 = 1) && decide ((E.2.1 t2).1 ≤ (E.2.1 t1).1) && decide ((E.2.1 t1).2 ≤ (E.2.1 t2).2)) || (decide ((sh_kd t1).1 = 4) && decide ((sh_kd t2).1 = 4))) then some (pc + n, aL, r, m, sx_drA t2 nn, iv, fs, k, t) else none
      | _, _ => none
    else if w = 3 then match b, st with
      | 2, .inl y :: .inl x :: r => some (pc + n, aL, .inl (sx_a iv.length) :: r, m, nn, iv ++ [(max (sx_low iv fs x) (sx_low iv fs y), max (sx_hi iv fs x) (sx_hi iv fs y))], sx_ad (-1) (sx_a iv.length) x :: sx_ad (-1) (sx_a iv.length) y :: fs, k, t)
      | _, _ => none
    else if w = 4 then match b, st with
      | 2, .inl y :: .inl x :: r => some (pc + n, aL, .inl (sx_a iv.length) :: r, m, nn, iv ++ [(min (sx_low iv fs x) (sx_low iv fs y), min (sx_hi iv fs x) (sx_hi iv fs y))], sx_ad (-1) x (sx_a iv.length) :: sx_ad (-1) y (sx_a iv.length) :: fs, k, t)
      | _, _ => none
    else if w = 10 then match b, st with
      | 2, .inl x :: .inr (.inr (301, 0, 0, false)) :: r => if sx_in iv fs x (0, 65535) then some (pc + n, aL, .inl (sx_a iv.length) :: r, m, nn, iv ++ [(-1, 15)], fs, k, t) else none
      | _, _ => none
    else if w < 100 then none
    else if w < 200 then match b, mt_ci[w - 100]? with
      | 0, some z => some (pc + n, aL, .inl (sx_c z) :: st, m, nn, iv, fs, k, t)
      | _, _ => none
    else if w < 300 then match b, mt_cl[w - 200]? with
      | 0, some _ => some (pc + n, aL, .inr (.inl ()) :: st, m, nn, iv, fs, k, t)
      | _, _ => none
    else if w = 300 then match b with
      | 0 => if 0 < t then some (pc + n, aL, .inr (.inr (301, 0, 0, false)) :: st, m, nn, iv, fs, k, t) else none
      | _ => none
    else if w < 320 then match b with
      | 0 => if 0 < t then some (pc + n, aL, .inr (.inr (296 + (w - 310), 0, 0, false)) :: st, m, nn, iv, fs, k, t) else none
      | _ => none
    else if w < 330 then match b, st with
      | 2, .inl x :: .inr (.inr (t0, 0, 0, false)) :: r => if decide (t0 = 296 + (w - 320)) && sx_in iv fs x (0, ((sm_stv.getD (w - 320) []).length : Int) - 1) then
          (if sm_stl (w - 320) then some (pc + n, aL, .inr (.inl ()) :: r, m, nn, iv, fs, k, t) else some (pc + n, aL, .inl (sx_a iv.length) :: r, m, nn, iv ++ [sx_mm (sm_stv.getD (w - 320) [])], fs, k, t)) else none
      | _, _ => none
    else if w = 340 then none
    else if w = 341 then none
    else match b, st with
      | 1, .inr (.inr (t0, 0, 0, false)) :: r => if t0 = 296 + (w - 330) then some (pc + n, aL, .inl (sx_c ((sm_stv.getD (w - 330) []).length : Int)) :: r, m, nn, iv, fs, k, t) else none
      | _, _ => none
theorem sx_cp_b {f g : Nat → Int} {lo hi : Int} (hf : ∀ k, lo ≤ f k ∧ f k ≤ hi) (hg : ∀ k, lo ≤ g k ∧ g k ≤ hi) {a b n j : Nat} : lo ≤ sm_cp f g a b n j ∧ sm_cp f g a b n j ≤ hi := by
  unfold sm_cp
  split
  · exact hf _
  · exact hg _
theorem ai_GI_ac {E : ai_E} {S : sm_S} {t i t' i' a b n : Nat} (hG : ai_GI E.1 E.2.1 S) (h1 : (E.2.1 t').1 ≤ (E.2.1 t).1) (h2 : (E.2.1 t).2 ≤ (E.2.1 t').2) : ai_GI E.1 E.2.1 (sm_acI S t i t' i' a b n) := by
  refine ⟨hG.1, fun x y j => ?_⟩
  by_cases q : x = t' ∧ y = i'
  · obtain ⟨rfl, rfl⟩ := q
    rw [sm_acI_at]
    exact sx_cp_b (fun k => ⟨Int.le_trans h1 (hG.2 t i k).1, Int.le_trans (hG.2 t i k).2 h2⟩) (fun k => hG.2 x y k)
  · rw [sm_acI_ne q]
    exact hG.2 x y j
theorem ai_fr_acI {W : ai_W} {S : sm_S} {t i t' i' a b n : Nat} (h : W.2.1 t' = true) : ai_fr W S (sm_acI S t i t' i' a b n) := ⟨fun _ _ _ _ => rfl, fun _ _ _ _ => rfl, fun x q y k => ⟨by rw [sm_acI_ne (fun g => by obtain ⟨rfl, rfl⟩ := g; rw [h] at q; cases q)], rfl⟩⟩
theorem ai_fr_acL {W : ai_W} {S : sm_S} {t i t' i' a b n : Nat} (h : W.2.1 t' = true) : ai_fr W S (sm_acL S t i t' i' a b n) := ⟨fun _ _ _ _ => rfl, fun _ _ _ _ => rfl, fun x q y k => ⟨rfl, by rw [sm_acL_ne (fun g => by obtain ⟨rfl, rfl⟩ := g; rw [h] at q; cases q)]⟩⟩
section SP
variable {ρ : Nat → Int} {τ : Nat → Nat}
/-- a fresh int is pushed, with two facts -/
theorem sx_pushF {pc pc' t : Nat} {aL : sx_L} {st r : List sx_V} {m : sx_M} {nn : sx_N} {iv : sx_I} {fs : List sx_E} {k : sx_K} {L : sm_L} {vs w : List sm_V} {S : sm_S} {lo hi v : Int} {f1 f2 : sx_E} (g : sx_gC ρ τ (pc, aL, st, m, nn, iv, fs, k, t) (pc, L, vs, S)) (hS : sx_gS ρ τ r w) (wS : sx_wS iv.length t r) (h1 : lo ≤ v) (h2 : v ≤ hi)
    (w1 : sx_wf (iv.length + 1) f1) (w2 : sx_wf (iv.length + 1) f2) (hf : ∀ ρ', sx_lk iv.length t ρ ρ' τ τ → ρ' iv.length = v → 0 ≤ sx_ev ρ' f1 ∧ 0 ≤ sx_ev ρ' f2) :
    ∃ ρ', sx_gC ρ' τ (pc', aL, .inl (sx_a iv.length) :: r, m, nn, iv ++ [(lo, hi)], f1 :: f2 :: fs, k, t) (pc', L, .inl v :: w, S) ∧ sx_lk iv.length t ρ ρ' τ τ := by
  obtain ⟨ρ', ⟨q0, q1, q2, q3, q4, q5, q6, q7⟩, l⟩ := sx_pushI (pc' := pc') g hS wS h1 h2
  have e1 : ρ' iv.length = v := by
    have := q2.1.1
    have e : sx_ev ρ' (sx_a iv.length) = v := this
    rw [sx_a_ev] at e
    exact e
  have hl : (iv ++ [(lo, hi)]).length = iv.length + 1 := by rw [List.length_append]; rfl
  refine ⟨ρ', ⟨q0, q1, q2, q3, q4, q5, fun f hf' => ?_, q7⟩, l⟩
  rw [hl]
  rcases List.mem_cons.mp hf' with rfl | hf'
  · exact ⟨w1, (hf ρ' l e1).1⟩
  · rcases List.mem_cons.mp hf' with rfl | hf'
    · exact ⟨w2, (hf ρ' l e1).2⟩
    · have := q6 f hf'
      rw [hl] at this
      exact this
theorem sx_nt_g {sc : Nat × (Nat → Int)} {E : ai_E} {x : sm_I} {a b : sx_C} {c : sm_C} (h : sx_nt E x a = some b) (g : sx_gC ρ τ a c) (hz : τ 0 = 0) (hG : ai_GI E.1 E.2.1 c.2.2.2) : ∃ u S1 ρ', (c.2.2.1.take x.2.2.2.1).length = x.2.2.2.1 ∧ mt_nat sc x.2.2.1 (c.2.2.1.take x.2.2.2.1).reverse c.2.2.2 = some (u, S1) ∧ sx_gC ρ' τ b (c.1 + x.2.1, c.2.1, u.toList ++ c.2.2.1.drop x.2.2.2.1, S1) ∧ sx_lk a.2.2.2.2.2.1.length a.2.2.2.2.2.2.2.2 ρ ρ' τ τ ∧ ai_GI E.1 E.2.1 S1 ∧ ai_fr E.2.2 c.2.2.2 S1 := by
  obtain ⟨op, n, w, b0, d, z0⟩ := x
  obtain ⟨pc, aL, st, m, nn, iv, fs, k, t⟩ := a
  obtain ⟨pc0, L, vs, S⟩ := c
  obtain ⟨rfl, ⟨gL, wL⟩, ⟨gS, wS⟩, gM, gN, gi, gf, gk⟩ := id g
  have rf : sx_lk iv.length t ρ ρ τ τ := ⟨fun _ _ => rfl, fun _ _ => rfl⟩
  unfold sx_nt at h
  dsimp only at h ⊢ gL gS hG
  by_cases n2 : w = 2
  · rw [if_pos n2] at h
    subst n2
    split at h
    · rename_i z y t2 tk2 o2 x t1 tk1 o1 r
      split at h
      · rename_i hc
        simp only [Bool.and_eq_true, Bool.or_eq_true, decide_eq_true_eq] at hc
        obtain ⟨⟨⟨⟨⟨⟨c1, c2⟩, c3⟩, c4⟩, c5⟩, c6⟩, c7⟩ := hc
        cases h
        obtain ⟨w, rfl, g1⟩ := sx_inv_i gS
        obtain ⟨w, rfl, g2⟩ := sx_inv_i g1
        obtain ⟨w, rfl, g3⟩ := sx_inv_n g2
        obtain ⟨w, rfl, g4⟩ := sx_inv_i g3
        obtain ⟨w, rfl, g5⟩ := sx_inv_n g4
        have wz : sx_wf iv.length z := sx_wS_hd wS
        have wy : sx_wf iv.length y := sx_wS_hd (sx_wS_tl wS)
        have wx : sx_wf iv.length x := sx_wS_hd (sx_wS_tl (sx_wS_tl (sx_wS_tl wS)))
        have h1 := sx_low_le gi gf wx
        have h2 := sx_low_le gi gf wy
        have h3 := sx_low_le gi gf wz
        have h4 := sx_hi_le gi gf (sx_ad_wf (k := 1) wx wz)
        have h5 := sx_hi_le gi gf (sx_ad_wf (k := 1) wy wz)
        rw [sx_ad_ev, Int.one_mul] at h4 h5
        have hcond : (decide (0 ≤ sx_ev ρ x) && decide (0 ≤ sx_ev ρ y) && decide (0 ≤ sx_ev ρ z) && decide (sx_ev ρ x + sx_ev ρ z ≤ (sh_kd t1).2.2) && decide (sx_ev ρ y + sx_ev ρ z ≤ (sh_kd t2).2.2)) = true := by
          simp only [Bool.and_eq_true, decide_eq_true_eq]
          omega
        have wr := sx_wS_tl (sx_wS_tl (sx_wS_tl (sx_wS_tl (sx_wS_tl wS))))
        rcases c7 with ⟨⟨⟨d1, d2⟩, d3⟩, d4⟩ | ⟨d1, d2⟩
        · refine ⟨none, sm_acI S t1 (τ tk1 + o1) t2 (τ tk2 + o2) (sx_ev ρ x).toNat (sx_ev ρ y).toNat (sx_ev ρ z).toNat, ρ, rfl, ?_, sx_gC_dA (t0 := t2) (sx_mk g gL wL g5 wr) rfl rfl (fun t1 i j hne => by rw [sm_acI_ne (fun q => hne q.1)]), rf, ai_GI_ac hG d3 d4, ai_fr_acI c6⟩
          show mt_nat sc 2 [.inr (.inr (some (t1, τ tk1 + o1))), .inl (sx_ev ρ x), .inr (.inr (some (t2, τ tk2 + o2))), .inl (sx_ev ρ y), .inl (sx_ev ρ z)] S = _
          unfold mt_nat
          rw [if_pos rfl]
          dsimp only
          rw [if_pos hcond, if_pos (by simp [d1, d2])]
        · refine ⟨none, sm_acL S t1 (τ tk1 + o1) t2 (τ tk2 + o2) (sx_ev ρ x).toNat (sx_ev ρ y).toNat (sx_ev ρ z).toNat, ρ, rfl, ?_, sx_gC_dA (t0 := t2) (sx_mk g gL wL g5 wr) rfl rfl (fun _ _ _ _ => rfl), rf, hG, ai_fr_acL c6⟩
          show mt_nat sc 2 [.inr (.inr (some (t1, τ tk1 + o1))), .inl (sx_ev ρ x), .inr (.inr (some (t2, τ tk2 + o2))), .inl (sx_ev ρ y), .inl (sx_ev ρ z)] S = _
          unfold mt_nat
          rw [if_pos rfl]
          dsimp only
          rw [if_pos hcond, if_neg (by simp [d1]), if_pos (by simp [d1, d2])]
      · cases h
    · cases h
  rw [if_neg n2] at h
  by_cases n3 : w = 3
  · rw [if_pos n3] at h
    subst n3
    split at h
    · rename_i y x r
      cases h
      obtain ⟨w, rfl, g1⟩ := sx_inv_i gS
      obtain ⟨w, rfl, g2⟩ := sx_inv_i g1
      have wy : sx_wf iv.length y := sx_wS_hd wS
      have wx : sx_wf iv.length x := sx_wS_hd (sx_wS_tl wS)
      have h1 := sx_low_le gi gf wx
      have h2 := sx_low_le gi gf wy
      have h3 := sx_hi_le gi gf wx
      have h4 := sx_hi_le gi gf wy
      have wx' := sx_wf_mono (Nat.le_succ _) wx
      have wy' := sx_wf_mono (Nat.le_succ _) wy
      have wa : sx_wf (iv.length + 1) (sx_a iv.length) := sx_a_wf (Nat.lt_succ_self _)
      obtain ⟨ρ', q1, q2⟩ := sx_pushF (pc' := pc + n) (v := sm_mx (sx_ev ρ x) (sx_ev ρ y)) (lo := max (sx_low iv fs x) (sx_low iv fs y)) (hi := max (sx_hi iv fs x) (sx_hi iv fs y)) (f1 := sx_ad (-1) (sx_a iv.length) x) (f2 := sx_ad (-1) (sx_a iv.length) y) g g2 (sx_wS_tl (sx_wS_tl wS)) (by unfold sm_mx; split <;> omega) (by unfold sm_mx; split <;> omega) (sx_ad_wf wa wx') (sx_ad_wf wa wy') (fun ρ' l e => by
        rw [sx_ad_ev, sx_ad_ev, sx_a_ev, e, sx_ev_up l.1 wx, sx_ev_up l.1 wy]
        unfold sm_mx
        split <;> omega)
      exact ⟨_, _, ρ', rfl, rfl, q1, q2, hG, ai_fr_rf⟩
    · cases h
  rw [if_neg n3] at h
  by_cases n4 : w = 4
  · rw [if_pos n4] at h
    subst n4
    split at h
    · rename_i y x r
      cases h
      obtain ⟨w, rfl, g1⟩ := sx_inv_i gS
      obtain ⟨w, rfl, g2⟩ := sx_inv_i g1
      have wy : sx_wf iv.length y := sx_wS_hd wS
      have wx : sx_wf iv.length x := sx_wS_hd (sx_wS_tl wS)
      have h1 := sx_low_le gi gf wx
      have h2 := sx_low_le gi gf wy
      have h3 := sx_hi_le gi gf wx
      have h4 := sx_hi_le gi gf wy
      have wx' := sx_wf_mono (Nat.le_succ _) wx
      have wy' := sx_wf_mono (Nat.le_succ _) wy
      have wa : sx_wf (iv.length + 1) (sx_a iv.length) := sx_a_wf (Nat.lt_succ_self _)
      obtain ⟨ρ', q1, q2⟩ := sx_pushF (pc' := pc + n) (v := sm_mn (sx_ev ρ x) (sx_ev ρ y)) (lo := min (sx_low iv fs x) (sx_low iv fs y)) (hi := min (sx_hi iv fs x) (sx_hi iv fs y)) (f1 := sx_ad (-1) x (sx_a iv.length)) (f2 := sx_ad (-1) y (sx_a iv.length)) g g2 (sx_wS_tl (sx_wS_tl wS)) (by unfold sm_mn; split <;> omega) (by unfold sm_mn; split <;> omega) (sx_ad_wf wx' wa) (sx_ad_wf wy' wa) (fun ρ' l e => by
        rw [sx_ad_ev, sx_ad_ev, sx_a_ev, e, sx_ev_up l.1 wx, sx_ev_up l.1 wy]
        unfold sm_mn
        split <;> omega)
      exact ⟨_, _, ρ', rfl, rfl, q1, q2, hG, ai_fr_rf⟩
    · cases h
  rw [if_neg n4] at h
  by_cases n10 : w = 10
  · rw [if_pos n10] at h
    subst n10
    split at h
    · rename_i x r
      split at h
      · rename_i hc
        cases h
        obtain ⟨w, rfl, g1⟩ := sx_inv_i gS
        obtain ⟨w, rfl, g2⟩ := sx_inv_n g1
        have hb := sx_in_g gi gf (sx_wS_hd wS) hc
        dsimp only at hb
        have hr := @sx_ixr mt_sgn (sx_ev ρ x) 0 (by omega)
        have hl : (mt_sgn.length : Int) = 16 := rfl
        rw [hl] at hr
        obtain ⟨ρ', q1, q2⟩ := sx_pushI (pc' := pc + n) (v := mt_ix mt_sgn (sx_ev ρ x) 0) (lo := -1) (hi := 15) g g2 (sx_wS_tl (sx_wS_tl wS)) hr.1 (by omega)
        refine ⟨some (.inl (mt_ix mt_sgn (sx_ev ρ x) 0)), S, ρ', rfl, ?_, q1, q2, hG, ai_fr_rf⟩
        show mt_nat sc 10 [.inr (.inr (some (301, τ 0 + 0))), .inl (sx_ev ρ x)] S = _
        rw [show τ 0 + 0 = 0 from hz]
        unfold mt_nat
        rw [if_neg (by decide), if_neg (by decide), if_neg (by decide), if_pos rfl]
        show (if (decide (0 ≤ sx_ev ρ x) && decide (sx_ev ρ x < 65536)) = true then some (some (Sum.inl (mt_ix mt_sgn (sx_ev ρ x) 0)), S) else none) = _
        rw [if_pos (by simp only [Bool.and_eq_true, decide_eq_true_eq]; omega)]
      · cases h
    · cases h
  rw [if_neg n10] at h
  by_cases n100 : w < 100
  · rw [if_pos n100] at h
    cases h
  rw [if_neg n100] at h
  by_cases l200 : w < 200
  · rw [if_pos l200] at h
    split at h
    · rename_i z hzc
      cases h
      refine ⟨some (.inl z), S, ρ, rfl, ?_, sx_mk g gL wL ⟨sx_c_ev ρ z, gS⟩ (sx_wS_cons (sx_c_wf _ _) wS), rf, hG, ai_fr_rf⟩
      show mt_nat sc w [] S = _
      unfold mt_nat
      rw [if_neg n2, if_neg n3, if_neg n4, if_neg n10, if_neg n100, if_pos l200]
      dsimp only
      rw [hzc]
      rfl
    · cases h
  have n200 := l200
  rw [if_neg n200] at h
  by_cases l300 : w < 300
  · rw [if_pos l300] at h
    split at h
    · rename_i z hzc
      cases h
      refine ⟨some (.inr (.inl z)), S, ρ, rfl, ?_, sx_mk g gL wL ⟨trivial, gS⟩ (sx_wS_cons trivial wS), rf, hG, ai_fr_rf⟩
      show mt_nat sc w [] S = _
      unfold mt_nat
      rw [if_neg n2, if_neg n3, if_neg n4, if_neg n10, if_neg n100, if_neg n200, if_pos l300]
      dsimp only
      rw [hzc]
      rfl
    · cases h
  have n300 := l300
  rw [if_neg n300] at h
  by_cases e300 : w = 300
  · rw [if_pos e300] at h
    split at h
    · split at h
      · rename_i ht
        cases h
        refine ⟨some (.inr (.inr (some (301, 0)))), S, ρ, rfl, ?_, sx_mk g gL wL ⟨?_, gS⟩ (sx_wS_cons ht wS), rf, hG, ai_fr_rf⟩
        · show mt_nat sc w [] S = _
          unfold mt_nat
          rw [if_neg n2, if_neg n3, if_neg n4, if_neg n10, if_neg n100, if_neg n200, if_neg n300, if_pos e300]
        · show some (301, 0) = some (301, τ 0 + 0)
          rw [hz]
      · cases h
    · cases h
  have n301 := e300
  rw [if_neg n301] at h
  by_cases l320 : w < 320
  · rw [if_pos l320] at h
    split at h
    · split at h
      · rename_i ht
        cases h
        refine ⟨some (.inr (.inr (some (296 + (w - 310), 0)))), S, ρ, rfl, ?_, sx_mk g gL wL ⟨?_, gS⟩ (sx_wS_cons ht wS), rf, hG, ai_fr_rf⟩
        · show mt_nat sc w [] S = _
          unfold mt_nat
          rw [if_neg n2, if_neg n3, if_neg n4, if_neg n10, if_neg n100, if_neg n200, if_neg n300, if_neg n301, if_pos l320]
        · show some (296 + (w - 310), 0) = some (296 + (w - 310), τ 0 + 0)
          rw [hz]
      · cases h
    · cases h
  have n320 := l320
  rw [if_neg n320] at h
  by_cases l330 : w < 330
  · rw [if_pos l330] at h
    split at h
    · rename_i x t0 r
      split at h
      · rename_i hc
        simp only [Bool.and_eq_true, decide_eq_true_eq] at hc
        obtain ⟨e0, c1⟩ := hc
        obtain ⟨u, rfl, g1⟩ := sx_inv_i gS
        obtain ⟨u, rfl, g2⟩ := sx_inv_n g1
        have hb := sx_in_g gi gf (sx_wS_hd wS) c1
        dsimp only at hb
        have hlt : (sx_ev ρ x).toNat < (sm_stv.getD (w - 320) []).length := by omega
        have hget : (sm_stv.getD (w - 320) [])[(sx_ev ρ x).toNat]? = some ((sm_stv.getD (w - 320) [])[(sx_ev ρ x).toNat]) := List.getElem?_eq_getElem hlt
        have hmt : ∀ r, (if sm_stl (w - 320) then (.inr (.inl ((sm_stv.getD (w - 320) [])[(sx_ev ρ x).toNat])) : sm_V) else .inl ((sm_stv.getD (w - 320) [])[(sx_ev ρ x).toNat])) = r → mt_nat sc w [.inr (.inr (some (t0, τ 0 + 0))), .inl (sx_ev ρ x)] S = some (some r, S) := by
          intro r hr
          rw [show τ 0 + 0 = 0 from hz]
          unfold mt_nat
          rw [if_neg n2, if_neg n3, if_neg n4, if_neg n10, if_neg n100, if_neg n200, if_neg n300, if_neg n301, if_neg n320, if_pos l330]
          show (if (decide (t0 = 296 + (w - 320)) && decide (0 ≤ sx_ev ρ x)) = true then ((sm_stv.getD (w - 320) [])[(sx_ev ρ x).toNat]?).map (fun z => (some (if sm_stl (w - 320) then (.inr (.inl z) : sm_V) else .inl z), S)) else none) = _
          rw [if_pos (by simp only [Bool.and_eq_true, decide_eq_true_eq]; exact ⟨e0, hb.1⟩), hget, ← hr]
          rfl
        split at h
        · rename_i hl
          cases h
          refine ⟨some (.inr (.inl ((sm_stv.getD (w - 320) [])[(sx_ev ρ x).toNat]))), S, ρ, rfl, hmt _ (if_pos hl), sx_mk g gL wL ⟨trivial, g2⟩ (sx_wS_cons trivial (sx_wS_tl (sx_wS_tl wS))), rf, hG, ai_fr_rf⟩
        · rename_i hl
          have hm := sx_mm_g (List.getElem_mem hlt)
          generalize sx_mm (sm_stv.getD (w - 320) []) = mm at h hm
          obtain ⟨mm1, mm2⟩ := mm
          cases h
          obtain ⟨ρ', q1, q2⟩ := sx_pushI (pc' := pc + n) g g2 (sx_wS_tl (sx_wS_tl wS)) hm.1 hm.2
          refine ⟨some (.inl ((sm_stv.getD (w - 320) [])[(sx_ev ρ x).toNat])), S, ρ', rfl, hmt _ (if_neg hl), q1, q2, hG, ai_fr_rf⟩
      · cases h
    · cases h
  have n330 := l330
  rw [if_neg n330] at h
  by_cases n340 : w = 340
  · rw [if_pos n340] at h
    cases h
  rw [if_neg n340] at h
  by_cases n341 : w = 341
  · rw [if_pos n341] at h
    cases h
  rw [if_neg n341] at h
  split at h
  · rename_i t0 r
    split at h
    · rename_i e0
      cases h
      obtain ⟨u, rfl, g1⟩ := sx_inv_n gS
      refine ⟨some (.inl ((sm_stv.getD (w - 330) []).length : Int)), S, ρ, rfl, ?_, sx_mk g gL wL ⟨sx_c_ev ρ _, g1⟩ (sx_wS_cons (sx_c_wf _ _) (sx_wS_tl wS)), rf, hG, ai_fr_rf⟩
      show mt_nat sc w [.inr (.inr (some (t0, τ 0 + 0)))] S = _
      rw [show τ 0 + 0 = 0 from hz]
      unfold mt_nat
      rw [if_neg n2, if_neg n3, if_neg n4, if_neg n10, if_neg n100, if_neg n200, if_neg n300, if_neg n301, if_neg n320, if_neg n330, if_neg n340, if_neg n341]
      show (if t0 = 296 + (w - 330) then some (some (Sum.inl ((sm_stv.getD (w - 330) []).length : Int)), S) else none) = _
      rw [if_pos e0]
    · cases h
  · cases h
end SP
