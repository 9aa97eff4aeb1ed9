/-! a run of the small machine is a run of the machine: the proof -/
theorem sm_stp_loc {P : sm_P} {M : sm_M} {mid pc : Nat} {x : sm_I} {L : sm_L} {st : List sm_V} {S : sm_S} {c1 : sm_C} (h : decode (M.2.1 mid) pc = .ok (sm_dec x, x.2.1) ∧ sm_chk (P.2.1 mid).1 x = true ∧ (17 ≤ x.1 → x.1 ≤ 22 → 0 ≤ (pc : Int) + x.2.2.2.2.2)) (hs : sm_stp x pc L st S = some c1) : sm_loc P M mid (pc, L, st, S) c1 := by
  obtain ⟨op, n, a, b, d, z⟩ := x
  obtain ⟨hdg, hck, hz⟩ := h
  intro p l e R s m args below meth c cells slots Q ad D K hcx _ _ _ _ G
  obtain ⟨hx, hb, hts, hown, hK, -⟩ := hcx
  dsimp only at hdg hz
  rcases op with _ | _ | _ | _ | _ | _ | _ | _ | _ | _ | _ | _ | _ | _ | _ | _ | _ | _ | _ | _ | _ | _ | _ | _ | _ | _ | _ | _ | _ | _ | _ | _ | _ | _ | _ | _ | _ | _ | _ | op
  · exact sm_q0 hx hb hs hck hdg G
  · exact sm_q1 hx hb hs hck hdg G
  · exact sm_q2 hx hb hs hck hdg G
  · exact sm_q3 hx hb hs hck hdg G
  · exact sm_q4 hx hb hs hck hdg G
  · exact sm_q5 hx hb hs hck hdg G
  · exact sm_q6 hx hb hs hck hdg G
  · exact sm_q7 hx hb hs hck hdg G
  · exact sm_q8 hx hb hs hck hdg G
  · exact sm_q9 hx hb hs hck hdg G
  · exact sm_q10 hx hb hs hck hdg G
  · exact sm_q11 hx hb hs hck hdg G
  · exact sm_q12 hx hb hs hck hdg G
  · exact sm_q13 hx hb hs hck hdg G
  · exact sm_q14 hx hb hs hck hdg G
  · exact sm_q15 hx hb hs hck hdg G
  · exact sm_q16 hx hb hs hck hdg G
  · exact sm_q17 hx hb (hz (by omega) (by omega)) hs hck hdg G
  · exact sm_q18 hx hb (hz (by omega) (by omega)) hs hck hdg G
  · exact sm_q19 hx hb (hz (by omega) (by omega)) hs hck hdg G
  · exact sm_q20 hx hb (hz (by omega) (by omega)) hs hck hdg G
  · exact sm_q21 hx hb (hz (by omega) (by omega)) hs hck hdg G
  · exact sm_q22 hx hb (hz (by omega) (by omega)) hs hck hdg G
  · exact sm_q23 hx hb hts hown hK hs hck hdg G
  · exact sm_q24 hx hb hts hown hK hs hck hdg G
  · exact sm_q25 hx hb hts hown hK hs hck hdg G
  · exact sm_q26 hx hb hts hown hK hs hck hdg G
  · exact sm_q27 hx hb hts hown hK hs hck hdg G
  · exact sm_q28 hx hb hK hs hck hdg G
  · exact sm_q29 hx hb hK hs hck hdg G
  · exact sm_q30 hx hb hK hs hck hdg G
  · exact sm_q31 hx hb hK hs hck hdg G
  · exact sm_q32 hx hb hK hs hck hdg G
  · exact sm_q33 hx hb hK hs hck hdg G
  · exact sm_q34 hx hb hK hs hck hdg G
  · exact sm_q35 hx hb hK hs hck hdg G
  · exact sm_q36 hx hb hK hs hck hdg G
  · exact sm_q37 hx hb hK hs hck hdg G
  · exact sm_q38 hx hb hs hck hdg G
  · cases hs
/-- a call that was run: behind it, or with what it threw -/
theorem sm_call {p : Program} {l : Launch} {e : Env} {R : Room} {s : State} {m : MethodId} {args : Array Value} {below : List Frame} {meth : Method} {c : Code} {H : Heap} {locs : List Loc} {cells slots mc ms : Nat} {Q : State → Prop} {ad : Nat → Nat → Nat} {D : va_G} {K : Nat → ClassId} {pc : Nat} {ls : Array Slot} {st0 rest : List Value} {S0 : sm_S} {r : sm_R} {av : Array Value}
    (hw : sm_wd D K ad (sm_A ad s.heap.size) s.heap H locs S0)
    (hr : vx_Run p l e R s m args below meth c H locs cells slots mc ms (F0 m pc ls st0) rest (sm_Qn D K ad (sm_A ad H.size) r av) (sm_Qx D K ad (sm_A ad H.size) r) (sm_A ad H.size))
    (kn : ∀ v, r.1 = .inl v → (∀ u, v = some u → sm_nz sh_cz u) → sm_nS r.2.1 → ∀ (H1 : Heap) (locs1 : List Loc), sm_wd D K ad (sm_A ad s.heap.size) s.heap H1 locs1 r.2.1 → W p l e R s m args below meth c H1 locs1 (cells + mc) (slots + ms) Q (F0 m (pc + 3) ls ((v.map (sm_tr ad)).toList ++ rest)))
    (kx : ∀ x E, r.1 = .inr x → exs[x]? = some E → sm_nS r.2.1 → ∀ (H1 : Heap) (locs1 : List Loc) (ce : Cell) (q : Addr), sm_wd D K ad (sm_A ad s.heap.size) s.heap H1 locs1 r.2.1 → H1[q]? = some ce → ce.vm = .none → s.vm.findClass E = some ce.cls → vx_W p l e R s m args below meth c H1 locs1 (cells + mc) (slots + ms) Q (F0 m pc ls rest) q) :
    W p l e R s m args below meth c H locs cells slots Q (F0 m pc ls st0) := by
  have hle : s.heap.size ≤ H.size := hw.2.2.1
  have hA : ∀ q, q < H.size → sm_A ad H.size q → sm_A ad s.heap.size q := fun q _ h => sm_A_mono hle h
  have hf : ∀ q, sm_A ad H.size q → sm_A ad s.heap.size q := fun q h => sm_A_mono hle h
  have hD1 : va_D (sm_A ad s.heap.size) (sm_ws K ad r.2.1) := sm_D hw.2.1 (fun t i h => sm_A_in h)
  intro T hT X
  rcases hr T hT X with ⟨v, st₀, t, T', L, h0, X', hL, e1, e2, hq, st⟩ | ⟨q, st₀, t, T', L, E, ce, h0, X', hL, e1, e2, hq, hce, hcv, hcl, st⟩
  · obtain ⟨⟨v', hv', hoc, hnz⟩, hP1, hnS, hF⟩ := hq
    obtain ⟨k1, k2, k3⟩ := vx_keep h0 e1 hw.2.2 hA hf hL hF
    cases hoc
    obtain ⟨t2, a1, b1⟩ := kn v' hv' hnz hnS T'.heap (locs ++ L) ⟨by rw [e1]; exact hP1, hD1, k3⟩ T' rfl X'
    exact ⟨t2, st t2 a1, b1⟩
  · obtain ⟨⟨x, hx', hE⟩, hP1, hnS, hF⟩ := hq
    obtain ⟨k1, k2, k3⟩ := vx_keep h0 e1 hw.2.2 hA hf hL hF
    obtain ⟨t2, a1, b1⟩ := kx x E hx' hE hnS T'.heap (locs ++ L) ce q ⟨by rw [e1]; exact hP1, hD1, k3⟩ (by rw [e1]; exact hce) hcv hcl T' rfl X'
    exact ⟨t2, st.trans a1, b1⟩
def sm_Pre (sc : Nat × (Nat → Int)) (D : va_G) (K : Nat → ClassId) (ad : Nat → Nat → Nat) (sz : Nat) (S : sm_S) (U : State) : Prop := U.heap.size = sz ∧ va_P D CL (sm_ws K ad S) U.heap ∧ va_K D CL (sm_tys K) U ∧ va_D (fun _ => True) (sm_ws K ad S) ∧ sm_ev sc ad (sm_A ad sz) U U.heap
def sm_rm (d k : Nat) : Room := { frames := d + 6, cells := k, slots := 6 * k, locals := 150 + 100 * d }
/-- what is proved of a run -/
def sm_simP (P : sm_P) (M : sm_M) (n : Nat) : Prop := ∀ (d mid : Nat) (c0 : sm_C) (r : sm_R), sm_run P n d mid c0 = some r → ∀ (p : Program) (l : Launch) (e : Env) (R : Room) (s : State) (m : MethodId) (args : Array Value) (below : List Frame) (meth : Method) (c : Code) (cells slots mc ms : Nat) (ad : Nat → Nat → Nat) (D : va_G) (K : Nat → ClassId),
  sm_cx P M mid p l s m args meth c ad D K → d + 6 ≤ R.frames → 150 + 100 * d ≤ R.locals → cells + r.2.2 ≤ mc → slots + 6 * r.2.2 ≤ ms → mc ≤ R.cells → ms ≤ R.slots →
  sm_G p l e R s m args below meth c cells slots (vx_MQ below (sm_Qn D K ad (sm_A ad s.heap.size) r) (sm_Qx D K ad (sm_A ad s.heap.size) r) args s mc ms (sm_A ad s.heap.size)) ad D K (sm_A ad s.heap.size) s.heap c0
theorem sm_met {P : sm_P} {M : sm_M} {n : Nat} (sim : sm_simP P M n) {d mid : Nat} {vs : List sm_V} {S : sm_S} {r : sm_R} (hrun : sm_run P n d mid (0, sm_ent (P.2.1 mid).2 vs, [], S) = some r) (hm : sm_mok P M mid) (hlen : (sm_vsl vs).length ≤ (P.2.1 mid).2) (hvs : sm_nst vs) (hS : sm_nS S)
    {l : Launch} (hlt : l.stackTraces = false) (ad : Nat → Nat → Nat) (D : va_G) (K : Nat → ClassId) (sz : Nat) :
    vx_Met l (M.1 mid) (sm_cw P M mid :: BG) (sm_rm d r.2.2) (va_Pc (vs.map (sm_tr ad)) (sm_Pre M.2.2.2.2 D K ad sz S)) (sm_Qn D K ad (sm_A ad sz) r) (sm_Qx D K ad (sm_A ad sz) r) r.2.2 (6 * r.2.2) (sm_A ad sz) := by
  obtain ⟨w1, w2, w3, w4, w5, w6, w7⟩ := hm
  have body : ∀ (p : Program) (e : Env) (s : State) (m : MethodId) (args : Array Value) (below : List Frame) (meth : Method) (c : Code) (s₁ : State), BodyLoose p l (M.1 mid) (headSpec (sm_cw P M mid :: BG) (sm_rm d r.2.2)) (M.2.1 mid) (P.2.1 mid).2 (M.2.2.1 mid) e s m args below meth c s₁ → c.maxLocals = (P.2.1 mid).2 → c.exceptionTable.toList = tableOf (M.2.2.2.1 mid) → va_Pc (vs.map (sm_tr ad)) (sm_Pre M.2.2.2.2 D K ad sz S) args s →
      W p l e (sm_rm d r.2.2) s m args below meth c s.heap [] 0 0 (vx_MQ below (sm_Qn D K ad (sm_A ad sz) r) (sm_Qx D K ad (sm_A ad sz) r) args s r.2.2 (6 * r.2.2) (sm_A ad sz)) (entryFrame m args (P.2.1 mid).2) := by
    intro p e s m args below meth c s₁ B hml htab hv
    obtain ⟨rfl, hsz, hP, hK, hD, hth⟩ := hv
    subst hsz
    have hts : ∀ w ∈ BG, w.before _ s = true := fun w h => atoms_spec (ws := sm_cw P M mid :: BG) B.pre w (List.mem_cons_of_mem _ h)
    have hown : s.vm.findClass (sh_R (P.2.1 mid).1) = some m.cls := by rw [← w2]; exact findClass_of_methodNamed B.named
    have hl := lv_entry (vs.map (sm_tr ad)) (n := (P.2.1 mid).2) (by rw [sm_sl_len]; exact hlen)
    rw [lg_entry_eq]
    have G := sim d mid _ r hrun p l e (sm_rm d r.2.2) s m _ below meth c 0 0 r.2.2 (6 * r.2.2) ad D K ⟨B.exec, B.bytes, hts, hown, hK, hml, B.returns, B.notSynchronized, hth, hlt, htab, w7⟩ (Nat.le_refl _) (Nat.le_refl _) (by omega) (by omega) (Nat.le_refl _) (Nat.le_refl _)
    exact G _ s.heap [] (sm_hl_ent hlen hl) ⟨hP, sm_D hD (fun t i h => sm_A_in h), va_S.rf⟩ (fun _ h => absurd h List.not_mem_nil) (sm_nL_ent hvs) hS
  unfold sm_cw at w1 body ⊢
  split at body
  · rename_i hraw
    refine vx_ofW w3 rfl (fun p e s m args below meth c s₁ B hml htab hv => ?_)
    refine body p e s m args below meth c s₁ B hml ?_ hv
    rw [hraw]
    cases hq : c.exceptionTable.toList with
    | nil => rfl
    | cons x y => exact (htab x (by rw [hq]; exact List.mem_cons_self)).elim
  · rename_i h0 r0 hraw
    refine vx_ofWH w3 rfl (fun p e s m args below meth c s₁ B hml hv => ?_)
    refine body p e s m args below meth c s₁ B hml ?_ hv
    rw [hraw]
    exact vx_table (x := M.1 mid) B (atoms_spec (ws := Cond.codeWith (M.1 mid) (M.2.1 mid) (P.2.1 mid).2 (M.2.2.1 mid) (h0 :: r0) :: BG) B.pre _ List.mem_cons_self)
