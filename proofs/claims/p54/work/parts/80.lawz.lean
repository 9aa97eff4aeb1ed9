/-! the law, from its entry to its end, by a run of the small machine -/
def law_L0 : sm_L := [some (.inr (.inr (some (302, 0)))), some (.inr (.inr (some (12, 0)))), some (.inr (.inr (some (13, 0)))), some (.inr (.inr (some (295, 0)))), none, none, none]
/-- what is left to be shown of a script: the loop of the law, run on the small machine, ends with 1 -/
def law_run (L : Nat) (xs : Nat → Int32) : Prop := ∃ n d k S, d ≤ 800 ∧ k ≤ 500000 ∧ sm_run (mt_P (lw_sc L xs)) n d 588 (20, law_L0, [], sm_S0) = some (.inl (some (.inl 1)), S, k)
theorem sbn_forget {s t : State} {L : List Loc} {k n : Nat} (h : s.sameButNew t L k n) (hL : ∀ q ∈ L, s.heap.size ≤ q.base) : s.sameButNew t [] k n := by
  obtain ⟨h1, h2, h3, h4, h5, h6⟩ := h
  refine ⟨h1, h2, h3, h4, h5, fun a c hc => ?_⟩
  obtain ⟨c', g1, g2, g3, g4⟩ := h6 a c hc
  refine ⟨c', g1, g2, g3, fun i _ => g4 i (fun hm => ?_)⟩
  have := hL _ hm
  exact absurd (Array.getElem?_eq_some_iff.mp hc).1 (Nat.not_lt.mpr this)
theorem law_S0 : sm_nS sm_S0 := by
  refine ⟨fun t i k => ?_, fun t i k j h => (nomatch h), fun _ _ _ => (by show sm_ni 0; unfold sm_ni; omega), fun _ _ _ => (by show sm_nl 0; unfold sm_nl; omega)⟩
  split
  · show sm_nl 0
    unfold sm_nl
    omega
  · show sm_ni 0
    unfold sm_ni
    omega
theorem law_nL0 : sm_nL law_L0 := by
  intro j v h
  rcases j with _ | _ | _ | _ | _ | _ | _ | j
  · cases h; exact (by decide : (0 : Nat) < sh_cz 302)
  · cases h; exact (by decide : (0 : Nat) < sh_cz 12)
  · cases h; exact (by decide : (0 : Nat) < sh_cz 13)
  · cases h; exact (by decide : (0 : Nat) < sh_cz 295)
  · cases h
  · cases h
  · cases h
  · simp [law_L0] at h
theorem law_ixs : cm_ix (sh_bs 12 + 0) = 0 ∧ cm_ix (sh_bs 13 + 0) = 272 ∧ cm_ix (sh_bs 295 + 0) = 450 := by decide +kernel
set_option maxHeartbeats 1000000 in
theorem law_start {p : Program} {e : Env} {s : State} {m : MethodId} {below : List Frame} {meth : Method} {c : Code} (l : Launch) (hlt : l.stackTraces = false) {b L : Nat} {xs : Nat → Int32} (hL : L ≤ 448) (C0 : lw_At p s m meth c b L xs) (hrun : law_run L xs) : W p l e room_1 s m #[Value.ref b] below meth c s.heap [] 0 0 (lw_Z below #[Value.ref b] s) (entryFrame m ([Value.ref b] : List Value).toArray 7) := by
  obtain ⟨hx, hb, hr, hml, hown0, hts0, hX, hbl, hlocks, hgv, htab⟩ := id C0
  have hts : ∀ w ∈ BG, w.before #[Value.ref b] s = true := fun w h => hts0 w (List.mem_filter.mp h).1
  obtain ⟨D, hD⟩ := law_D C0
  obtain ⟨K, hKs⟩ := law_K C0
  have hK : va_K D CL (sm_tys K) s := ⟨hD, hKs⟩
  obtain ⟨oth, ho, hev⟩ := law_ev hL C0
  have hcx : cm_cx 14 code p s m #[Value.ref b] meth c D K := ⟨hx, hb, hts, hown0, hK, law_ne C0⟩
  obtain ⟨A, eA⟩ : ∃ z : Nat → Prop, z = fun q : Nat => s.heap.size ≤ q := ⟨_, rfl⟩
  have hA : ∀ q : Nat, s.heap.size ≤ q → A q := fun q h => by rw [eA]; exact h
  have hA2 : ∀ q : Nat, A q → s.heap.size ≤ q := fun q h => by rw [eA] at h; exact h
  have hw0 : cm_wd D K (fun _ => 0) [] A s.heap s.heap [] := ⟨fun k q h => by simp [cm_W] at h, ⟨fun i j p q h => by simp [cm_W] at h, fun k q h => by simp [cm_W] at h⟩, va_S.rf, fun d h => by cases h⟩
  have hl := lv_entry ([.ref b]) (n := 7) (Nat.le_of_ble_eq_true rfl)
  rw [lg_entry_eq]
  generalize (lg_sl ([.ref b]) ++ List.replicate (7 - (lg_sl ([.ref b])).length) Slot.unset).toArray = ls at hl ⊢
  have hl : lv_has ls 7 [(0, .ref b)] := hl
  refine cm_mk (ci := 12) (ik := 8) (im := 187) (pl := 0) (d := 4) hcx hw0 hA (by rw [hml]; exact hl.1.symm) (cm_met 4) cm_ok12 cm_r12 (by decide +kernel) (by decide +kernel) (by decide) (by decide) ⟨by decide, by decide⟩ (by decide) (show decode code 0 = .ok (.new 8, 3) by decide +kernel) (show decode code 3 = .ok (.dup, 1) by decide +kernel) (show decode code 4 = .ok (.invokespecial 187, 3) by decide +kernel) (fun adr1 H1 locs1 a1 a2 hw1 => ?_)
  refine lv_astore_n hx hb (show decode code 7 = .ok (.astore_n 1, 1) by decide +kernel) rfl hl (by decide) rfl (fun ls1 hl1 => ?_)
  have hl1 : lv_has ls1 7 [(1, .ref (adr1 0)), (0, .ref b)] := hl1
  refine cm_mk (pc := 8) (ci := 13) (ik := 188) (im := 190) (pl := 0) (d := 4) hcx hw1 hA (by rw [hml]; exact hl1.1.symm) (cm_met 4) cm_ok13 cm_r13 (by decide +kernel) (by decide +kernel) (by decide) (by decide) ⟨by decide, by decide⟩ (by decide) (show decode code 8 = .ok (.new 188, 3) by decide +kernel) (show decode code 11 = .ok (.dup, 1) by decide +kernel) (show decode code 12 = .ok (.invokespecial 190, 3) by decide +kernel) (fun adr2 H2 locs2 b1 b2 hw2 => ?_)
  rw [cm_len12] at b1
  rw [cm_len12]
  refine lv_astore_n hx hb (show decode code 15 = .ok (.astore_n 2, 1) by decide +kernel) rfl hl1 (by decide) rfl (fun ls2 hl2 => ?_)
  have hl2 : lv_has ls2 7 [(2, .ref (adr2 272)), (1, .ref (adr1 0)), (0, .ref b)] := hl2
  refine lv_iconst (v := Int32.ofInt ((1 : Nat) : Int)) hx hb (show decode code 16 = .ok (.iconst 1, 1) by decide +kernel) rfl ?_
  refine cm_narr (pc := 17) (ty := 3) (N := 1) hcx hw2 hA (by decide) (by decide) (by decide) (by decide) (show decode code 17 = .ok (.newarray (cm_aty 3), 2) by decide +kernel) (fun q H3 hw3 => ?_)
  refine lv_astore_n hx hb (show decode code 19 = .ok (.astore_n 3, 1) by decide +kernel) rfl hl2 (by decide) rfl (fun ls3 hl3 => ?_)
  have hl3 : lv_has ls3 7 [(3, .ref q), (2, .ref (adr2 272)), (1, .ref (adr1 0)), (0, .ref b)] := hl3
  rw [cm_len13] at hw3
  generalize hadr : cm_ad adr2 450 q = adr3 at hw3
  replace hw3 : cm_wd D K adr3 cm_lit A s.heap H3 locs2 := hw3
  obtain ⟨n, d, k, S, hd, hk, hrun⟩ := hrun
  have hD1 : va_D A (sm_ws K (cm_adr adr3 oth) sm_S0) := cm_DD hw3.2.1
  have hAA : ∀ q, sm_A (cm_adr adr3 oth) s.heap.size q → s.heap.size ≤ q := by
    intro q0 h
    rcases h with ⟨t, i, h1, rfl⟩ | h
    · exact hA2 _ (hD1.2 _ _ (sm_ws_at h1))
    · exact h
  have hwd : sm_wd D K (cm_adr adr3 oth) (sm_A (cm_adr adr3 oth) s.heap.size) s.heap H3 locs2 sm_S0 := ⟨cm_PP hw3.1, sm_D hD1 (fun t i h => sm_A_in h), hw3.2.2.1.1, fun q0 h1 _ => hw3.2.2.1.2.1 q0 h1 (fun z => absurd (hA2 _ z) (Nat.not_le.mpr h1)), fun l0 hl0 => Or.inr (hA2 _ (hw3.2.2.1.2.2 l0 hl0))⟩
  have hcx2 : sm_cx (mt_P (lw_sc L xs)) (mt_M (lw_sc L xs)) 588 p l s m #[Value.ref b] meth c (cm_adr adr3 oth) D K := ⟨hx, hb, hts, hown0, hK, hml, hr, hlocks, (hev adr3).narrow hAA, hlt, htab, trivial⟩
  have G := sm_sim (ok_mt (sc := lw_sc L xs)) n d 588 _ _ hrun p l e room_1 s m #[Value.ref b] below meth c (0 + 272 + 178 + 1) (0 + 670835 + 2038306 + 1) 600128 7301098 (cm_adr adr3 oth) D K hcx2 (by show d + 6 ≤ 2048; omega) (by show 150 + 100 * d ≤ 84000; omega) (by show 0 + 272 + 178 + 1 + k ≤ _; omega) (by show 0 + 670835 + 2038306 + 1 + 6 * k ≤ _; omega) (Nat.le_refl _) (Nat.le_refl _)
  have e12 : cm_adr adr3 oth 12 0 = adr1 0 := by
    unfold cm_adr
    rw [if_pos (by decide), law_ixs.1, ← hadr]
    show (if (0 : Nat) = 450 then q else adr2 0) = _
    rw [if_neg (by decide), b1 0 (by decide)]
  have e13 : cm_adr adr3 oth 13 0 = adr2 272 := by
    unfold cm_adr
    rw [if_pos (by decide), law_ixs.2.1, ← hadr]
    exact if_neg (by decide)
  have eO : cm_adr adr3 oth 295 0 = q := by
    unfold cm_adr
    rw [if_pos (by decide), law_ixs.2.2, ← hadr]
    exact if_pos rfl
  have eS : cm_adr adr3 oth 302 0 = b := by
    unfold cm_adr
    rw [if_neg (by decide)]
    exact ho
  have hl4 : sm_hl (cm_adr adr3 oth) law_L0 ls3 := by
    refine ⟨hl3.1, hl3.2.1, fun x hx9 => ?_⟩
    replace hx9 : x ∈ [(0, Value.ref (cm_adr adr3 oth 302 0)), (1, .ref (cm_adr adr3 oth 12 0)), (2, .ref (cm_adr adr3 oth 13 0)), (3, .ref (cm_adr adr3 oth 295 0))] := hx9
    rw [e12, e13, eO, eS] at hx9
    refine hl3.2.2 x ?_
    simp only [List.mem_cons, List.not_mem_nil, or_false] at hx9 ⊢
    rcases hx9 with h | h | h | h
    · exact Or.inr (Or.inr (Or.inr h))
    · exact Or.inr (Or.inr (Or.inl h))
    · exact Or.inr (Or.inl h)
    · exact Or.inl h
  intro T hT X
  obtain ⟨t, a9, o, b9, b10, b11⟩ := G ls3 H3 locs2 hl4 hwd (fun _ h => absurd h List.not_mem_nil) law_nL0 law_S0 T hT X
  refine ⟨t, a9, o, b9, b10, ?_⟩
  rcases b11 with ⟨⟨⟨v, hv, hoc, -⟩, -⟩, Lc, hF, hLc⟩ | ⟨q9, -, E, ce, Lc, ⟨⟨x9, hx9, -⟩, -⟩, -⟩
  · cases hv
    exact ⟨hoc, hF.1, hF.2.1, sbn_forget hF.2.2 (fun z hz => hAA _ (hLc z hz))⟩
  · cases hx9
