/-! a constructor's doings, one after the other -/
def cm_lv (adr : Nat → Nat) (i0 : Nat) (arg : Option Nat) : List (Nat × Value) := (0, .ref (adr i0)) :: (arg.map fun j => (1, Value.ref (adr j))).toList
theorem cm_lv_ext {adr adr' : Nat → Nat} {i0 : Nat} {arg : Option Nat} {n : Nat} (ha : ∀ i, i < n → adr' i = adr i) (h0 : i0 < n) (h1 : ∀ j, arg = some j → j < n) : cm_lv adr' i0 arg = cm_lv adr i0 arg := by
  unfold cm_lv
  rw [ha i0 h0]
  cases arg with
  | none => rfl
  | some j => rw [Option.map_some, Option.map_some, ha j (h1 j rfl)]
theorem cm_lv0 {adr : Nat → Nat} {i0 nL : Nat} {arg : Option Nat} {ls : Array Slot} (h : lv_has ls nL (cm_lv adr i0 arg)) : ls[0]? = some (.val (.ref (adr i0))) := lv_at h 0 rfl
section CM
variable {p : Program} {l : Launch} {e : Env} {R : Room} {s : State} {m : MethodId} {args : Array Value} {below : List Frame} {meth : Method} {c : Code} {Q : State → Prop}
variable {cc : ByteArray} {D : va_G} {A : Nat → Prop} {K : Nat → ClassId} {own : Nat} {rec : cm_F} {ok : Nat → Bool} {d : Nat}
theorem cm_loop (hcx : cm_cx own cc p s m args meth c D K) (hA : ∀ q, s.heap.size ≤ q → A q) (hml : c.maxLocals = 2) (hrec : cm_rec l D K d rec ok) {ci ik im b k ty N pl ph i0 : Nat} (hok : ok ci = true) (h14 : own < 14) (hNN : N ≤ 1000) (hnw : cm_nw own ik ci = true) (hiw : cm_iw 1 own im ci 0 = true) (hlk : cm_lk own b k = true) (htc : ty = 4 ∧ ci = 3 ∨ ty = 5 ∧ ci = 5 ∨ ty = 6 ∧ ci = 2) (hR1 : d + 1 ≤ R.frames) (hR2 : 12 + 40 * (d + 1) ≤ R.locals)
    (d0 : decode cc ph = .ok (.iload_n 1, 1)) (d1 : cm_pd cc own (ph + 1) pl N 0 = true) (d2 : decode cc (ph + 1 + cm_pl pl) = .ok (.if_icmp .ge 22, 3)) (d3 : decode cc (ph + 4 + cm_pl pl) = .ok (.aload_n 0, 1)) (d4 : decode cc (ph + 5 + cm_pl pl) = .ok (.getfield b, 3)) (d5 : decode cc (ph + 8 + cm_pl pl) = .ok (.iload_n 1, 1)) (d6 : decode cc (ph + 9 + cm_pl pl) = .ok (.new ik, 3)) (d7 : decode cc (ph + 12 + cm_pl pl) = .ok (.dup, 1)) (d8 : decode cc (ph + 13 + cm_pl pl) = .ok (.invokespecial im, 3)) (d9 : decode cc (ph + 16 + cm_pl pl) = .ok (.aastore, 1)) (d10 : decode cc (ph + 17 + cm_pl pl) = .ok (.iinc 1 1, 3)) (d11 : decode cc (ph + 20 + cm_pl pl) = .ok (.goto (-20 - (cm_pl pl : Int)), 3)) :
    ∀ (n j : Nat) (w : List cm_D) (adr : Nat → Nat) (ls : Array Slot) (H : Heap) (locs : List Loc) (cells slots : Nat) (r : cm_R), cm_lp rec own i0 k ci ty n j w = some r → j + n = N → lv_has ls 2 [(1, .int (Int32.ofInt (j : Int))), (0, .ref (adr i0))] → cm_wd D K adr w A s.heap H locs → i0 < w.length → cells + r.2.1 ≤ R.cells ∧ slots + r.2.2 ≤ R.slots →
    (∀ (adr' : Nat → Nat) (ls' : Array Slot) (H1 : Heap) (locs1 : List Loc), (∀ i, i < w.length → adr' i = adr i) → w.length ≤ r.1.length → lv_has ls' 2 (cm_lv adr' i0 none) → cm_wd D K adr' r.1 A s.heap H1 locs1 → W p l e R s m args below meth c H1 locs1 (cells + r.2.1) (slots + r.2.2) Q (F0 m (ph + 23 + cm_pl pl) ls' [])) →
    W p l e R s m args below meth c H locs cells slots Q (F0 m ph ls []) := by
  intro n
  induction n with
  | zero =>
    intro j w adr ls H locs cells slots r hr hj hl hw hi0 hf kk
    cases hr
    have nN : sm_ni (N : Int) := by unfold sm_ni; omega
    obtain rfl : j = N := by omega
    refine lv_iload_n hcx.1 hcx.2.1 d0 rfl (lv_at hl 0 rfl) ?_
    refine cm_push hcx d1 ?_
    refine lv_icmp_ge (tgt := ph + 23 + cm_pl pl) hcx.1 hcx.2.1 d2 (by omega) (fun _ => ?_) (fun q => absurd (Int32.le_refl _) q)
    exact kk adr ls H locs (fun _ _ => rfl) (Nat.le_refl _) ⟨hl.1, hl.2.1, fun q hq => hl.2.2 q (List.mem_cons_of_mem _ hq)⟩ hw
  | succ n ih =>
    intro j w adr ls H locs cells slots r hr hj hl hw hi0 hf kk
    have nN : sm_ni (N : Int) := by unfold sm_ni; omega
    have nj : sm_ni (j : Int) := by unfold sm_ni; omega
    simp only [cm_lp] at hr
    split at hr
    · cases hr
    · rename_i ra hra
      split at hr
      · cases hr
      · rename_i r1 hr1
        split at hr
        · cases hr
        · rename_i w2 hw2
          rw [Option.map_eq_some_iff] at hr
          obtain ⟨r2, hr2, rfl⟩ := hr
          dsimp only at hf kk
          obtain ⟨fl, g1, g2, g3, g4⟩ := cm_fd_spec hra
          have hral : ra < w.length := hw.2.2.2 _ (List.mem_of_getElem? g1) k ra g4
          refine lv_iload_n hcx.1 hcx.2.1 d0 rfl (lv_at hl 0 rfl) ?_
          refine cm_push hcx d1 ?_
          refine lv_icmp_ge (tgt := ph + 23 + cm_pl pl) hcx.1 hcx.2.1 d2 (by omega) (fun q => ?_) (fun _ => ?_)
          · rw [Int32.le_iff_toInt_le, sm_ti nN, sm_ti nj] at q
            omega
          · rw [show ph + 1 + cm_pl pl + 3 = ph + 4 + cm_pl pl by omega]
            refine lv_aload_n hcx.1 hcx.2.1 d3 rfl (lv_at hl 1 rfl) ?_
            rw [show ph + 4 + cm_pl pl + 1 = ph + 5 + cm_pl pl by omega]
            refine cm_getf (k := k) (j := ra) (fl := fl) hcx hw g1 g3 g2 g4 h14 (sh_any (own := own) (a := b) (b := own) (d := k) hlk).1 d4 ?_
            rw [show ph + 5 + cm_pl pl + 3 = ph + 8 + cm_pl pl by omega]
            refine lv_iload_n hcx.1 hcx.2.1 d5 rfl (lv_at hl 0 rfl) ?_
            rw [show ph + 8 + cm_pl pl + 1 = ph + 9 + cm_pl pl by omega]
            refine cm_mk hcx hw hA (by rw [hml]; exact hl.1.symm) hrec hok hr1 hnw hiw hR1 hR2 ⟨by omega, by omega⟩ (Nat.le_of_ble_eq_true rfl) d6 (by rw [show ph + 9 + cm_pl pl + 3 = ph + 12 + cm_pl pl by omega]; exact d7) (by rw [show ph + 9 + cm_pl pl + 4 = ph + 13 + cm_pl pl by omega]; exact d8) (fun adr1 H1 locs1 a1 a2 hw1 => ?_)
            rw [show ph + 9 + cm_pl pl + 7 = ph + 16 + cm_pl pl by omega, ← a1 ra hral]
            obtain ⟨el, fl2, c1, c2, c3, c4, rfl⟩ := cm_set_spec hw2
            refine cm_ast hcx hw1 c1 c2 c3 c4 htc d9 (fun H2 locs2 hw3 => ?_)
            rw [show ph + 16 + cm_pl pl + 1 = ph + 17 + cm_pl pl by omega]
            refine lv_iinc (k := 0) (v := Int32.ofInt ((j + 1 : Nat) : Int)) hcx.1 hcx.2.1 d10 hl rfl ?_ (by decide) rfl (fun ls2 hl2 => ?_)
            · rw [← Int32.ofInt_add]
              rfl
            · rw [show ph + 17 + cm_pl pl + 3 = ph + 20 + cm_pl pl by omega]
              refine lv_goto (tgt := ph) hcx.1 hcx.2.1 d11 (by omega) ?_
              have ei0 : adr1 i0 = adr i0 := a1 i0 hi0
              rw [← ei0] at hl2
              refine ih (j + 1) _ adr1 ls2 H2 locs2 (cells + r1.2.1) (slots + r1.2.2) r2 hr2 (by omega) hl2 hw3 (by rw [List.length_set]; omega) ⟨by omega, by omega⟩ (fun adr3 ls3 H3 locs3 b1 b2 b3 b4 => ?_)
              rw [List.length_set] at b1 b2
              rw [Nat.add_assoc, Nat.add_assoc slots]
              exact kk adr3 ls3 H3 locs3 (fun i hi => by rw [b1 i (by omega), a1 i hi]) (by omega) b3 b4
end CM
