/-! what the small machine doesn't step itself: throws, switches, constants, static arrays -/
theorem sm_P_kept {D : va_G} {K : Nat → ClassId} {ad : Nat → Nat → Nat} {S : sm_S} {H H1 : Heap} (h : va_P D CL (sm_ws K ad S) H) (hk : ∀ q : Nat, q < H.size → H1[q]? = H[q]?) : va_P D CL (sm_ws K ad S) H1 := fun k q hq => (h k q hq).kept (hk q.1 (h k q hq).lt)
theorem sm_thr_of {P : sm_P} {M : sm_M} {mid pc a ik ic : Nat} {E : String} (hE : exs[a]? = some E) (hfit : Bundle.fit E = true) (hraw : M.2.2.2.1 mid = [])
    (w1 : Cond.classLink (sh_R (P.2.1 mid).1) ik E ∈ BG) (w2 : Cond.initialized E ∈ BG) (hat : ∀ w ∈ (vx_at0 (sh_R (P.2.1 mid).1) ic E ["java/lang/RuntimeException", "java/lang/Exception"]).filter goodWord, w ∈ BG)
    (han : ∀ w ∈ (vx_at0 (sh_R (P.2.1 mid).1) ic E ["java/lang/RuntimeException", "java/lang/Exception"]).filter (fun w => !goodWord w), w ∈ [Cond.castable E E, Cond.declares (Bundle.init0 "java/lang/RuntimeException"), Cond.declares (Bundle.init0 "java/lang/Exception"), Cond.declares (Bundle.init0 "java/lang/Throwable")])
    (hgood : ∀ w ∈ Cond.classLink (sh_R (P.2.1 mid).1) ik E :: Cond.initialized E :: vx_at0 (sh_R (P.2.1 mid).1) ic E ["java/lang/RuntimeException", "java/lang/Exception"], vx_ot w = true)
    (d0 : decode (M.2.1 mid) pc = .ok (.new ik, 3)) (d3 : decode (M.2.1 mid) (pc + 3) = .ok (.dup, 1)) (d4 : decode (M.2.1 mid) (pc + 4) = .ok (.invokespecial ic, 3)) (d7 : decode (M.2.1 mid) (pc + 7) = .ok (.athrow, 1)) : sm_thr P M mid pc a := by
  intro p l e R s m args below meth c cells slots mc ms ad D K L S k hcx hLl hR1 hR2 hR3 hR4 hc hs
  obtain ⟨hx, hb, hts, hown, hK, hml, hr, hlocks, hev, hlt, htab, hho⟩ := hcx
  intro ls H locs hl hw h1 h2 h3
  have hth := hev.1
  have hEm : E ∈ exs := List.mem_of_getElem? hE
  refine vx_throw0 (own := sh_R (P.2.1 mid).1) (cls := E) (names := ["java/lang/RuntimeException", "java/lang/Exception"]) (ik := ik) (ic := ic) (A := sm_A ad s.heap.size) hx hb hlt hown hfit (by decide) (hts _ w1) (hts _ w2) (vx_hat (fun w h => hts w (hat w h)) han (vx_c (hth.cast hEm) (vx_c (hth.decl (by decide)) (vx_c (hth.decl (by decide)) (vx_c (hth.decl (by decide)) vx_n))))) hgood hth.1 hth.2.1 hw.2.2 (by rw [hml, ← hLl]; exact hl.1) d0 d3 d4 d7 (fun x hx1 => ?_) ?_ ?_ hR3 hR4 hlocks (fun t hvm hz hk => ?_) hw.2.2.2.2 hc hs
  · rw [htab, hraw] at hx1
    cases hx1
  · show 2 + 3 < R.frames
    omega
  · show 0 + (13 * (2 + 1) + 42) ≤ R.locals
    omega
  · refine ⟨⟨a, rfl, hE⟩, sm_P_kept hw.1 hk, h3, Nat.le_trans hw.2.2.1 hz, fun q g1 g2 => ?_⟩
    rw [hk q (Nat.lt_of_lt_of_le g1 hw.2.2.1)]
    exact hw.2.2.2.1 q g1 g2
theorem sm_loc_tab {P : sm_P} {M : sm_M} {mid pc len df : Nat} {dflt lo hi : Int} {offs : Array Int} {ts : List Nat} {y : Int} {L : sm_L} {r : List sm_V} {S : sm_S} (hdg : decode (M.2.1 mid) pc = .ok (.tableswitch dflt lo hi offs, len)) (hdf : (pc : Int) + dflt = (df : Int)) (hlen : (ts.length : Int) = hi - lo + 1) (hts : ts.map (fun t : Nat => (t : Int)) = offs.toList.map (fun o => (pc : Int) + o)) : sm_loc P M mid (pc, L, .inl y :: r, S) ((if y < lo then none else ts[(y - lo).toNat]?).getD df, L, r, S) := by
  intro p l e R s m args below meth c cells slots Q ad D K hcx _ _ _ _ G
  obtain ⟨hx, hb, -⟩ := hcx
  intro ls H locs hl hw h1 h2 h3
  have ny : sm_ni y := sm_nst_hd h1
  have k := G ls H locs hl hw (sm_nst_tl h1) h2 h3
  dsimp only at k
  show W p l e R s m args below meth c H locs cells slots Q (F0 m pc ls (.int (Int32.ofInt y) :: r.map (sm_tr ad)))
  by_cases c1 : y < lo
  · rw [if_pos c1] at k
    exact lv_tableOut hx hb hdg (by rw [sm_ti ny]; exact Or.inl c1) hdf k
  · rw [if_neg c1] at k
    by_cases c2 : hi < y
    · rw [List.getElem?_eq_none (by omega)] at k
      exact lv_tableOut hx hb hdg (by rw [sm_ti ny]; exact Or.inr c2) hdf k
    · have hlt : (y - lo).toNat < ts.length := by omega
      rw [List.getElem?_eq_getElem hlt] at k
      have h5 : (offs.toList.map (fun o => (pc : Int) + o))[(y - lo).toNat]? = some ((ts[(y - lo).toNat] : Nat) : Int) := by
        rw [← hts, List.getElem?_map, List.getElem?_eq_getElem hlt]
        rfl
      rw [List.getElem?_map, Option.map_eq_some_iff] at h5
      obtain ⟨off, h6, h7⟩ := h5
      refine lv_tableIn hx hb hdg (by rw [sm_ti ny]; exact c1) (by rw [sm_ti ny]; exact c2) (off := off) (tgt := ts[(y - lo).toNat]) (by rw [sm_ti ny, ← Array.getElem?_toList]; exact h6) h7 k
theorem sm_loc_ldc {P : sm_P} {M : sm_M} {mid pc ix : Nat} {z : Int} {L : sm_L} {st : List sm_V} {S : sm_S} (nz : sm_ni z) (hw0 : Cond.constant (sh_R (P.2.1 mid).1) ix (Int32.ofInt z) ∈ BG) (hdg : decode (M.2.1 mid) pc = .ok (.ldc ix, 2)) : sm_loc P M mid (pc, L, st, S) (pc + 2, L, .inl z :: st, S) := by
  intro p l e R s m args below meth c cells slots Q ad D K hcx _ _ _ _ G
  obtain ⟨hx, hb, hts, hown, -⟩ := hcx
  intro ls H locs hl hw h1 h2 h3
  exact lv_ldc hx hb hown (hts _ hw0) hdg (G ls H locs hl hw (sm_nst_cons nz h1) h2 h3)
theorem sm_loc_ldcw {P : sm_P} {M : sm_M} {mid pc ix : Nat} {z : Int} {L : sm_L} {st : List sm_V} {S : sm_S} (nz : sm_ni z) (hw0 : Cond.constant (sh_R (P.2.1 mid).1) ix (Int32.ofInt z) ∈ BG) (hdg : decode (M.2.1 mid) pc = .ok (.ldc_w ix, 3)) : sm_loc P M mid (pc, L, st, S) (pc + 3, L, .inl z :: st, S) := by
  intro p l e R s m args below meth c cells slots Q ad D K hcx _ _ _ _ G
  obtain ⟨hx, hb, hts, hown, -⟩ := hcx
  intro ls H locs hl hw h1 h2 h3
  exact lv_ldcw hx hb hown (hts _ hw0) hdg (G ls H locs hl hw (sm_nst_cons nz h1) h2 h3)
theorem sm_loc_ldc2 {P : sm_P} {M : sm_M} {mid pc ix : Nat} {z : Int} {L : sm_L} {st : List sm_V} {S : sm_S} (nz : sm_nl z) (hw0 : Cond.constantLong (sh_R (P.2.1 mid).1) ix (Int64.ofInt z) ∈ BG) (hdg : decode (M.2.1 mid) pc = .ok (.ldc2_w ix, 3)) : sm_loc P M mid (pc, L, st, S) (pc + 3, L, .inr (.inl z) :: st, S) := by
  intro p l e R s m args below meth c cells slots Q ad D K hcx _ _ _ _ G
  obtain ⟨hx, hb, hts, hown, -⟩ := hcx
  intro ls H locs hl hw h1 h2 h3
  exact lv_ldc2 hx hb hown (hts _ hw0) hdg (G ls H locs hl hw (sm_nst_cons nz h1) h2 h3)
theorem sm_loc_gs {P : sm_P} {M : sm_M} {mid pc ix j : Nat} {q : String × String × String} {L : sm_L} {st : List sm_V} {S : sm_S} (hq : sm_stn[j]? = some q) (hlk : Cond.fieldLink (sh_R (P.2.1 mid).1) ix q.1 q.2.1 q.2.2 ∈ BG) (hdg : decode (M.2.1 mid) pc = .ok (.getstatic ix, 3)) : sm_loc P M mid (pc, L, st, S) (pc + 3, L, .inr (.inr (some (296 + j, 0))) :: st, S) := by
  intro p l e R s m args below meth c cells slots Q ad D K hcx _ _ _ _ G
  obtain ⟨hx, hb, hts, hown, hK, hml, hr, hlocks, hev, -⟩ := hcx
  intro ls H locs hl hw h1 h2 h3
  have nz : (0 : Nat) < sh_cz (296 + j) := by unfold sh_cz; rw [if_neg (by omega)]; exact Nat.one_pos
  exact va_gets hx hb (hev.2.1 j q hq).1 hw.2.2 hown (hts _ hlk) (fun _ h => h) hdg (G ls H locs hl hw (sm_nst_cons nz h1) h2 h3)
theorem sm_loc_si {P : sm_P} {M : sm_M} {mid pc j : Nat} {q : String × String × String} {L : sm_L} {r : List sm_V} {S : sm_S} {x v : Int} (hq : sm_stn[j]? = some q) (hj : sm_stl j = false) (h0 : 0 ≤ x) (hv : (sm_stv.getD j [])[x.toNat]? = some v) (nz : sm_ni v) (hdg : decode (M.2.1 mid) pc = .ok (.iaload, 1)) : sm_loc P M mid (pc, L, .inl x :: .inr (.inr (some (296 + j, 0))) :: r, S) (pc + 1, L, .inl v :: r, S) := by
  intro p l e R s m args below meth c cells slots Q ad D K hcx _ _ _ _ G
  obtain ⟨hx, hb, hts, hown, hK, hml, hr, hlocks, hev, -⟩ := hcx
  intro ls H locs hl hw h1 h2 h3
  have nx : sm_ni x := sm_nst_hd h1
  have hT := (hev.2.1 j q hq).2
  unfold sm_sty at hT
  rw [hj, if_neg (by decide)] at hT
  have hlt : x.toNat < (sm_stv.getD j []).length := (List.getElem?_eq_some_iff.mp hv).1
  refine va_ti hx hb hT hw.2.2 (sm_in nx h0 (by omega)) (v := .int (Int32.ofInt v)) ?_ hdg (G ls H locs hl hw (sm_nst_cons nz (sm_nst_tl (sm_nst_tl h1))) h2 h3)
  unfold sm_sva
  rw [hj, if_neg (by decide), sm_tn nx, List.getD_eq_getElem?_getD, hv]
  rfl
theorem sm_loc_sl {P : sm_P} {M : sm_M} {mid pc j : Nat} {q : String × String × String} {L : sm_L} {r : List sm_V} {S : sm_S} {x v : Int} (hq : sm_stn[j]? = some q) (hj : sm_stl j = true) (h0 : 0 ≤ x) (hv : (sm_stv.getD j [])[x.toNat]? = some v) (nz : sm_nl v) (hlen : (sm_stv.getD j []).length ≤ 100) (hdg : decode (M.2.1 mid) pc = .ok (.laload, 1)) : sm_loc P M mid (pc, L, .inl x :: .inr (.inr (some (296 + j, 0))) :: r, S) (pc + 1, L, .inr (.inl v) :: r, S) := by
  intro p l e R s m args below meth c cells slots Q ad D K hcx _ _ _ _ G
  obtain ⟨hx, hb, hts, hown, hK, hml, hr, hlocks, hev, -⟩ := hcx
  intro ls H locs hl hw h1 h2 h3
  have nx : sm_ni x := sm_nst_hd h1
  have hT := (hev.2.1 j q hq).2
  unfold sm_sty at hT
  rw [hj, if_pos rfl] at hT
  have hlt : x.toNat < (sm_stv.getD j []).length := (List.getElem?_eq_some_iff.mp hv).1
  refine va_tl hx hb hT hw.2.2 (sm_in nx h0 (by omega)) (v := .long (Int64.ofInt v)) ?_ hdg (G ls H locs hl hw (sm_nst_cons nz (sm_nst_tl (sm_nst_tl h1))) h2 h3)
  unfold sm_sva
  rw [hj, if_pos rfl, sm_tn nx, List.getD_eq_getElem?_getD, hv]
  rfl
