/-! the induction over the time of a run -/
theorem sm_run_call {P : sm_P} {M : sm_M} {mid pc : Nat} {x : sm_I} (hi : x.1 = 40) (ok : sm_iok P M mid pc x)
    {p : Program} {l : Launch} {e : Env} {R : Room} {s : State} {m : MethodId} {args : Array Value} {below : List Frame} {meth : Method} {c : Code} {H : Heap} {locs : List Loc} {cells slots : Nat} {ad : Nat → Nat → Nat} {D : va_G} {K : Nat → ClassId} {ls : Array Slot} {L : sm_L} {st : List sm_V} {S : sm_S} {r : sm_R} {d : Nat}
    (hcx : sm_cx P M mid p l s m args meth c ad D K) (hl : sm_hl ad L ls) (hw : sm_wd D K ad (sm_A ad s.heap.size) s.heap H locs S) (hst : sm_nst st) (hLl : L.length = (P.2.1 mid).2) (hb : (st.take x.2.2.2.1).length = x.2.2.2.1) (hsum : ((st.drop x.2.2.2.1).map sm_cat).sum ≤ 8) (hrcv : x.2.2.2.2.1 = 1 ∨ sm_rcv (P.2.1 x.2.2.1).1 (st.take x.2.2.2.1).reverse = true)
    (hM : ∀ sz, vx_Met l (M.1 x.2.2.1) (sm_cw P M x.2.2.1 :: BG) (sm_rm d r.2.2) (va_Pc ((st.take x.2.2.2.1).reverse.map (sm_tr ad)) (sm_Pre M.2.2.2.2 D K ad sz S)) (sm_Qn D K ad (sm_A ad sz) r) (sm_Qx D K ad (sm_A ad sz) r) r.2.2 (6 * r.2.2) (sm_A ad sz))
    (hR1 : d + 7 ≤ R.frames) (hR2 : 250 + 100 * d ≤ R.locals) (hf : cells + r.2.2 ≤ R.cells ∧ slots + 6 * r.2.2 ≤ R.slots) :
    ∃ av, vx_Run p l e R s m args below meth c H locs cells slots r.2.2 (6 * r.2.2) (F0 m pc ls (st.map (sm_tr ad))) ((st.drop x.2.2.2.1).map (sm_tr ad)) (sm_Qn D K ad (sm_A ad H.size) r av) (sm_Qx D K ad (sm_A ad H.size) r) (sm_A ad H.size) := by
  obtain ⟨op, n, a, b, v, z⟩ := x
  dsimp only at hi hb hsum hrcv hM
  subst hi
  obtain ⟨-, ok40, -⟩ := ok
  obtain ⟨hm, hlink, hV, hSt⟩ := ok40 rfl
  dsimp only at hlink hV hSt hm
  obtain ⟨hx, hbc, hts, hown, hK, hml, hr, hlocks, hth, hlt, htab, hho⟩ := hcx
  obtain ⟨w1, w2, w3, w4, w5, w6, w7⟩ := hm
  have hsplit : st.map (sm_tr ad) = ((st.take b).reverse.map (sm_tr ad)).reverse ++ (st.drop b).map (sm_tr ad) := by
    rw [← List.map_reverse, List.reverse_reverse, ← List.map_append, List.take_append_drop]
  have hcat : 2 * (F0 m pc ls (st.map (sm_tr ad))).monitorRoom + (((st.drop b).map (sm_tr ad)).map fun v => v.category).sum ≤ 8 := by
    refine lv_room (rest := st.map (sm_tr ad)) ?_
    rw [sm_cat_tr]
    exact hsum
  have hle : s.heap.size ≤ H.size := hw.2.2.1
  have hsize : ls.size = (P.2.1 mid).2 := by rw [← hLl]; exact hl.1
  have hpre : ∀ U : State, U.heap = H → s.WarmedH U.vm → va_Pc ((st.take b).reverse.map (sm_tr ad)) (sm_Pre M.2.2.2.2 D K ad H.size S) ((st.take b).reverse.map (sm_tr ad)).toArray U := by
    intro U hU hW
    refine ⟨rfl, by rw [hU], by rw [hU]; exact hw.1, va_K.moved hW.alike hK, hw.2.1.weaken (fun _ _ _ _ => trivial), ?_⟩
    rw [hU]
    exact sm_ev.moved hW.alike (vk_R.warm hW) (sm_ev.narrow (sm_ev.kept hth (fun q h1 h2 => hw.2.2.2.1 q h1 h2)) (fun q h => sm_A_mono hle h))
  have hblind : FrameBlind (va_Pc ((st.take b).reverse.map (sm_tr ad)) (sm_Pre M.2.2.2.2 D K ad H.size S)) := by
    intro a' U g mk q
    obtain ⟨q0, q1, qP, qK, qD, qT⟩ := q
    exact ⟨q0, q1, qP, va_K.moved (u := U) (U := U.calling g mk a') (Vm.Alike.refl U.vm) qK, qD, sm_ev.moved (u := U) (U := U.calling g mk a') (Vm.Alike.refl U.vm) (vk_R.same rfl) qT⟩
  have hfix : CallFix p m c (M.2.1 mid) (P.2.1 mid).2 s args BG (sh_R (P.2.1 mid).1) := ⟨hx, hbc, hml, hown, hts⟩
  have hroom : (sm_rm d r.2.2).frames + 1 ≤ R.frames ∧ 8 + ((P.2.1 a).2 + 11) + (sm_rm d r.2.2).locals ≤ R.locals := by
    unfold sm_rm
    dsimp only
    omega
  have hall : ∀ w ∈ sm_cw P M a :: BG, ∀ (a' : Array Value) (U : State), s.WarmedH U.vm → w.before a' U = true := by
    intro w hw' a' U hW
    have hin : w ∈ BG := bg_cons w1 w hw'
    exact word_at hW (bg_good w hin) (hts w hin)
  have hcd : (sm_cw P M a).before args s = true := hts _ w1
  have hini : (Cond.initialized (M.1 a).cls).before args s = true := hts _ w4
  refine ⟨((st.take b).reverse.map (sm_tr ad)).toArray, ?_⟩
  by_cases hv1 : v = 1
  · obtain ⟨hdg, hs1, hn⟩ := hSt hv1
    have hcount : ∀ sig, parseMethodDescriptor (M.1 a).desc = some sig → b = sig.parameters.length := by
      intro sig hsig
      rw [hsig] at hn
      exact (Option.some.inj hn).symm
    have hlenb : ((st.take b).reverse.map (sm_tr ad)).length = b := by rw [List.length_map, List.length_reverse]; exact hb
    unfold sm_cw at hcd hall hM w1
    split at hcd
    · rename_i hraw
      rw [hraw] at hall hM
      dsimp only at hall hM
      exact vx_runS hfix (hM H.size) ⟨⟨rfl, rfl, hroom.1, hroom.2, hall, List.mem_cons_self, hcd, hini, w5, hcount, hts _ hlink⟩, hts _ hs1⟩ ⟨hblind, hpre⟩ rfl hlenb hsize hsplit hcat hdg hf
    · rename_i h0 r0 hraw
      rw [hraw] at hall hM
      dsimp only at hall hM
      exact vx_runSX hfix (hM H.size) ⟨⟨rfl, rfl, hroom.1, hroom.2, hall, List.mem_cons_self⟩, hcd, hini, w5, hcount, hts _ hlink, hts _ hs1⟩ ⟨hblind, hpre⟩ rfl hlenb hsize hsplit hcat hdg hf
  · obtain ⟨hdg, hi1, hsel, hn, h14⟩ := hV hv1
    have hrc := hrcv.resolve_left hv1
    unfold sm_rcv at hrc
    split at hrc
    · rename_i q vs' hvs
      have hq : q.1 = (P.2.1 a).1 := of_decide_eq_true hrc
      have hqi : q.2 < sh_cn q.1 := sh_cz_lt (by omega) <| hst (.inr (.inr (some q))) (by
        have : (Sum.inr (Sum.inr (some q)) : sm_V) ∈ (st.take b).reverse := by rw [hvs]; exact List.mem_cons_self
        exact List.mem_of_mem_take (List.mem_reverse.mp this))
      have hlenb : vs'.length + 1 = b := by
        have h1 : ((st.take b).reverse).length = b := by rw [List.length_reverse]; exact hb
        rw [hvs] at h1
        exact h1
      have hcount : ∀ sig, parseMethodDescriptor (M.1 a).desc = some sig → (vs'.map (sm_tr ad)).length = sig.parameters.length := by
        intro sig hsig
        rw [hsig] at hn
        have h2 : sig.parameters.length + 1 = b := Option.some.inj hn
        rw [List.length_map]
        omega
      obtain ⟨o1, o2, -⟩ := sh_oks h14
      have hrecv : ∃ cellB : Cell, H[ad q.1 q.2]? = some cellB ∧ cellB.vm.isStatics = false ∧ s.vm.findClass (M.1 a).cls = some cellB.cls := by
        have he := sm_ws_at (K := K) (ad := ad) (S := S) hqi
        rw [sm_cell_o (by rw [hq]; exact o2)] at he
        have h3 := va_recv hK hw.1 o1 he
        rw [w2]
        exact h3
      rw [hvs] at hsplit hpre hblind hM ⊢
      have hsplit : st.map (sm_tr ad) = (vs'.map (sm_tr ad)).reverse ++ .ref (ad q.1 q.2) :: (st.drop b).map (sm_tr ad) := by
        rw [hsplit, List.map_cons, List.reverse_cons, List.append_assoc]
        rfl
      unfold sm_cw at hcd hall hM w1
      split at hcd
      · rename_i hraw
        rw [hraw] at hall hM
        dsimp only at hall hM
        exact vx_runV hfix (hM H.size) ⟨⟨rfl, rfl, hroom.1, hroom.2, hall, List.mem_cons_self, hcd, hini, w5, hcount, hts _ hlink⟩, hts _ hi1, hts _ hsel⟩ ⟨hblind, hrecv, hpre⟩ rfl rfl hsize hsplit hcat hdg hf
      · rename_i h0 r0 hraw
        rw [hraw] at hall hM
        dsimp only at hall hM
        exact vx_runVX hfix (hM H.size) ⟨⟨rfl, rfl, hroom.1, hroom.2, hall, List.mem_cons_self⟩, hcd, hini, w5, hcount, hts _ hlink, hts _ hi1, hts _ hsel⟩ ⟨hblind, hrecv, hpre⟩ rfl rfl hsize hsplit hcat hdg hf
    · cases hrc
theorem sm_add_0 (r : sm_R) : sm_add 0 r = r := by unfold sm_add; rw [Nat.zero_add]
theorem sm_sim {P : sm_P} {M : sm_M} (ok : sm_ok P M) : ∀ n, sm_simP P M n := by
  intro n
  induction n with
  | zero => intro d mid c0 r h; cases h
  | succ n ih =>
    intro d mid c0 r hrun p l e R s m args below meth c cells slots mc ms ad D K hcx hR1 hR2 hc1 hs1 hmc hms
    obtain ⟨pc, L, st, S⟩ := c0
    replace hrun : sm_bd P (sm_run P n) d mid (pc, L, st, S) = some r := hrun
    simp only [sm_bd] at hrun
    split at hrun
    · cases hrun
    · rename_i op n0 a b v z hx0
      have iok := ok mid pc _ hx0
      split at hrun
      · -- a call
        split at hrun
        · cases hrun
        · rename_i d
          split at hrun
          · rename_i hcond
            simp only [Bool.and_eq_true, Bool.or_eq_true, decide_eq_true_eq] at hcond
            obtain ⟨⟨⟨⟨g1, g2⟩, g3⟩, g4⟩, g5⟩ := hcond
            intro ls H locs hl hw h1 h2 h3
            have hvs : sm_nst (st.take b).reverse := fun u hu => h1 u (List.mem_of_mem_take (List.mem_reverse.mp hu))
            split at hrun
            · cases hrun
            · -- it returned
              rename_i u S1 k1 hsub
              rw [Option.map_eq_some_iff] at hrun
              obtain ⟨r2, hr2, rfl⟩ := hrun
              have hk : (sm_add k1 r2).2.2 = k1 + r2.2.2 := rfl
              rw [hk] at hc1 hs1
              obtain ⟨av, hR⟩ := sm_run_call (x := (40, n0, a, b, v, z)) rfl iok hcx hl hw h1 g1 g2 g3 g4 (r := (.inl u, S1, k1)) (d := d) (fun sz => sm_met ih hsub (iok.2.1 rfl).1 g5 hvs h3 hcx.2.2.2.2.2.2.2.2.2.1 ad D K sz) (cells := cells) (slots := slots) (e := e) (below := below) (by omega) (by omega) ⟨by dsimp only; omega, by dsimp only; omega⟩
              refine sm_call hw hR (fun w hw1 hnz hnS H1 locs1 hw2 => ?_) (fun x E hx1 => by cases hx1)
              cases hw1
              have G := ih (d + 1) mid _ r2 hr2 p l e R s m args below meth c (cells + k1) (slots + 6 * k1) mc ms ad D K hcx hR1 hR2 (by omega) (by omega) hmc hms
              have G := G ls H1 locs1 hl hw2 ?_ h2 hnS
              · dsimp only at G
                rw [List.map_append] at G
                cases u with
                | none => exact G
                | some u => exact G
              · intro w hw'
                rcases List.mem_append.mp hw' with q | q
                · cases u with
                  | none => cases q
                  | some u => rw [List.mem_singleton.mp q]; exact hnz u rfl
                · exact h1 w (List.mem_of_mem_drop q)
            · -- it threw
              rename_i ex S1 k1 hsub
              have hcall : ∀ (Q : State → Prop), k1 ≤ r.2.2 → (∀ E, exs[ex]? = some E → sm_nS S1 → ∀ (H1 : Heap) (locs1 : List Loc) (ce : Cell) (q : Addr), sm_wd D K ad (sm_A ad s.heap.size) s.heap H1 locs1 S1 → H1[q]? = some ce → ce.vm = .none → s.vm.findClass E = some ce.cls → vx_W p l e R s m args below meth c H1 locs1 (cells + k1) (slots + 6 * k1) Q (F0 m pc ls ((st.drop b).map (sm_tr ad))) q) → W p l e R s m args below meth c H locs cells slots Q (F0 m pc ls (st.map (sm_tr ad))) := by
                intro Q hk kx
                obtain ⟨av, hR⟩ := sm_run_call (x := (40, n0, a, b, v, z)) rfl iok hcx hl hw h1 g1 g2 g3 g4 (r := (.inr ex, S1, k1)) (d := d) (fun sz => sm_met ih hsub (iok.2.1 rfl).1 g5 hvs h3 hcx.2.2.2.2.2.2.2.2.2.1 ad D K sz) (cells := cells) (slots := slots) (e := e) (below := below) (by omega) (by omega) ⟨by dsimp only; omega, by dsimp only; omega⟩
                exact sm_call hw hR (fun w hw1 => by cases hw1) (fun x E hx1 hE hnS H1 locs1 ce q hw2 q1 q2 q3 => by cases hx1; exact kx E hE hnS H1 locs1 ce q hw2 q1 q2 q3)
              split at hrun
              · split at hrun
                · cases hrun
                · rename_i hcov
                  cases hrun
                  refine hcall _ (Nat.le_refl _) (fun E hE hnS H1 locs1 ce q hw2 q1 q2 q3 => ?_)
                  refine vx_out (fun x hx1 => ?_) hcx.2.2.2.2.2.2.2.1 q1 q2 q3 (fun t ht _ => ⟨⟨ex, rfl, hE⟩, by rw [ht]; exact hw2.1, hnS, hw2.2.2.F ht⟩) hw2.2.2.2.2 hc1 hs1
                  rw [hcx.2.2.2.2.2.2.2.2.2.2.1] at hx1
                  exact sm_cov_none hcx.2.2.2.2.2.2.2.2.2.2.2 (by simpa using hcov) x hx1
              · rename_i h hfh
                split at hrun
                · rename_i n' a' b' v' z' hx1
                  split at hrun
                  · rename_i hal
                    rw [Option.map_eq_some_iff] at hrun
                    obtain ⟨r2, hr2, rfl⟩ := hrun
                    have hk : (sm_add k1 r2).2.2 = k1 + r2.2.2 := rfl
                    rw [hk] at hc1 hs1
                    refine hcall _ (by rw [hk]; omega) (fun E hE hnS H1 locs1 ce q hw2 q1 q2 q3 => ?_)
                    obtain ⟨pre, x, suf, t1, t2, t3, t4, t5, t6⟩ := sm_fh_some hE hcx.2.2.2.2.2.2.2.2.2.2.2 hfh
                    have hth := hcx.2.2.2.2.2.2.2.2.1.1
                    have hts := hcx.2.2.1
                    have hEm : E ∈ exs := List.mem_of_getElem? hE
                    refine vx_catch hcx.2.2.2.1 pre x suf (by rw [hcx.2.2.2.2.2.2.2.2.2.2.1]; exact t1) (fun z hz => ?_) t3 t4 (hts _ t5) (hth.cast hEm) q1 q2 q3 ?_
                    · rcases t2 z hz with q | ⟨q4, nm, q5, q6, q7⟩
                      · exact Or.inl q
                      · exact Or.inr ⟨q4, nm, hts _ q5, hth.2.2.2.1 E hEm nm q6 q7⟩
                    · rw [t6]
                      have iok2 := (ok mid h _ hx1).1 (by show 7 < 40; omega)
                      obtain ⟨hdg, hck, -⟩ := iok2
                      have G := ih (d + 1) mid _ r2 hr2 p l e R s m args below meth c (cells + k1) (slots + 6 * k1) mc ms ad D K hcx hR1 hR2 (by omega) (by omega) hmc hms
                      have G2 := fun ls' (hh : lv_has ls' L.length ((a', Value.ref q) :: (sm_lv ad L).filter (fun q => !(q.1 == a') && !(q.1 + 1 == a' && q.2.category == 2)))) => G ls' H1 locs1 (sm_hl_s0 hh) hw2 (fun _ h => absurd h List.not_mem_nil) (sm_nL_s0 h2) hnS
                      rcases b' with _ | b'
                      · simp only [sm_chk, Bool.and_eq_true, decide_eq_true_eq] at hck
                        obtain ⟨rfl, q0⟩ := hck
                        exact lv_astore_n hcx.1 hcx.2.1 hdg (sm_f4v q0) hl hal rfl G2
                      · simp only [sm_chk, decide_eq_true_eq] at hck
                        subst hck
                        exact lv_astore hcx.1 hcx.2.1 hdg hl hal rfl G2
                  · cases hrun
                · cases hrun
          · cases hrun
      · -- ireturn
        obtain ⟨hdg, ht0, ht1⟩ := iok.2.2.1 rfl
        dsimp only at ht0 ht1
        intro ls H locs hl hw h1 h2 h3
        split at hrun
        · rename_i u
          cases hrun
          exact vx_ret (W.widen hc1 hs1 (W.iret hcx.1 hcx.2.1 (hcx.2.2.2.2.2.2.1.trans (ht0 rfl)) (fun t ht _ => ⟨⟨some (.inl u), rfl, rfl, fun w hw' => by cases hw'; exact sm_nst_hd h1⟩, by rw [ht]; exact hw.1, h3, hw.2.2.F ht⟩) hw.2.2.2.2 hdg hcx.2.2.2.2.2.2.2.1))
        · rename_i u
          split at hrun
          · rename_i hu
            cases hrun
            simp only [Bool.or_eq_true, decide_eq_true_eq] at hu
            exact vx_ret (W.widen hc1 hs1 (W.zret hcx.1 hcx.2.1 (hcx.2.2.2.2.2.2.1.trans (ht1 rfl)) (by rcases hu with rfl | rfl <;> rfl) (fun t ht _ => ⟨⟨some (.inl u), rfl, rfl, fun w hw' => by cases hw'; exact sm_nst_hd h1⟩, by rw [ht]; exact hw.1, h3, hw.2.2.F ht⟩) hw.2.2.2.2 hdg hcx.2.2.2.2.2.2.2.1))
          · cases hrun
        · cases hrun
      · -- lreturn
        obtain ⟨hdg, ht0⟩ := iok.2.2.2.1 rfl
        intro ls H locs hl hw h1 h2 h3
        split at hrun
        · rename_i u
          cases hrun
          exact vx_ret (W.widen hc1 hs1 (W.lret hcx.1 hcx.2.1 (hcx.2.2.2.2.2.2.1.trans ht0) (fun t ht _ => ⟨⟨some (.inr (.inl u)), rfl, rfl, fun w hw' => by cases hw'; exact sm_nst_hd h1⟩, by rw [ht]; exact hw.1, h3, hw.2.2.F ht⟩) hw.2.2.2.2 hdg hcx.2.2.2.2.2.2.2.1))
        · cases hrun
      · -- areturn
        obtain ⟨hdg, nm, ht0⟩ := iok.2.2.2.2.1 rfl
        intro ls H locs hl hw h1 h2 h3
        split at hrun
        · rename_i u
          cases hrun
          exact vx_ret (W.widen hc1 hs1 (W.aret hcx.1 hcx.2.1 (hcx.2.2.2.2.2.2.1.trans ht0) (Or.inl ⟨nm, rfl⟩) (by cases u with | none => exact Or.inl rfl | some u => exact Or.inr ⟨_, rfl⟩) (fun t ht _ => ⟨⟨some (.inr (.inr u)), rfl, rfl, fun w hw' => by cases hw'; exact sm_nst_hd h1⟩, by rw [ht]; exact hw.1, h3, hw.2.2.F ht⟩) hw.2.2.2.2 hdg hcx.2.2.2.2.2.2.2.1))
        · cases hrun
      · -- return
        obtain ⟨hdg, ht0⟩ := iok.2.2.2.2.2.1 rfl
        intro ls H locs hl hw h1 h2 h3
        split at hrun
        · cases hrun
          exact vx_ret (W.widen hc1 hs1 (W.vret hcx.1 hcx.2.1 (hcx.2.2.2.2.2.2.1.trans ht0) (fun t ht _ => ⟨⟨none, rfl, rfl, fun w hw' => by cases hw'⟩, by rw [ht]; exact hw.1, h3, hw.2.2.F ht⟩) hw.2.2.2.2 hdg hcx.2.2.2.2.2.2.2.1))
        · cases hrun
      · -- a throw
        have hthr := iok.2.2.2.2.2.2.1 rfl
        split at hrun
        · split at hrun
          · rename_i hLl
            cases hrun
            replace hc1 : cells + 1 ≤ mc := hc1
            replace hs1 : slots + 6 * 1 ≤ ms := hs1
            exact hthr p l e R s m args below meth c cells slots mc ms ad D K L S 1 hcx hLl (by omega) (by omega) (by omega) (by omega) hc1 hs1
          · cases hrun
        · cases hrun
      · -- a switch
        have hsw := iok.2.2.2.2.2.2.2.1 rfl
        split at hrun
        · rename_i y r0
          split at hrun
          · rename_i lo df ts hsw0
            refine hsw lo df ts y L r0 S hsw0 p l e R s m args below meth c cells slots _ ad D K hcx (by omega) (by omega) (by omega) (by omega) ?_
            split at hrun
            · rename_i t ht
              rw [ht]
              exact ih d mid _ r hrun p l e R s m args below meth c cells slots mc ms ad D K hcx hR1 hR2 hc1 hs1 hmc hms
            · rename_i ht
              rw [ht]
              exact ih d mid _ r hrun p l e R s m args below meth c cells slots mc ms ad D K hcx hR1 hR2 hc1 hs1 hmc hms
          · cases hrun
        · cases hrun
      · -- a method of the JDK
        have hnat := iok.2.2.2.2.2.2.2.2 rfl
        split at hrun
        · rename_i hb
          simp only [Bool.and_eq_true, decide_eq_true_eq] at hb
          obtain ⟨⟨hb, hLl⟩, hsm⟩ := hb
          split at hrun
          · rename_i u S1 hu
            exact hnat L st S S1 u hb hLl hsm hu p l e R s m args below meth c cells slots _ ad D K hcx (by omega) (by omega) (by omega) (by omega) (ih d mid _ r hrun p l e R s m args below meth c cells slots mc ms ad D K hcx hR1 hR2 hc1 hs1 hmc hms)
          · cases hrun
        · cases hrun
      · -- a step
        split at hrun
        · rename_i c1 hst
          have hop : op < 40 := by
            by_cases q : op < 40
            · exact q
            · exfalso
              obtain ⟨k, rfl⟩ : ∃ k, op = k + 39 := ⟨op - 39, by omega⟩
              cases hst
          exact sm_stp_loc (iok.1 hop) hst p l e R s m args below meth c cells slots _ ad D K hcx (by omega) (by omega) (by omega) (by omega) (ih d mid _ r hrun p l e R s m args below meth c cells slots mc ms ad D K hcx hR1 hR2 hc1 hs1 hmc hms)
        · cases hrun
