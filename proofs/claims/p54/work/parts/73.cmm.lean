/-! a constructor's run, by its list of doings -/
def cm_Pre (D : va_G) (K : Nat → ClassId) (adr : Nat → Nat) (w : List cm_D) (sz : Nat) (U : State) : Prop := U.heap.size = sz ∧ va_P D CL (cm_W K adr w) U.heap ∧ va_K D CL (sm_tys K) U ∧ va_D (fun _ => True) (cm_W K adr w) ∧ ne U
def cm_B (D : va_G) (K : Nat → ClassId) (adr : Nat → Nat) (w w' : List cm_D) (A : Nat → Prop) (_ : Unit) (t : State) : Prop := ∃ adr' : Nat → Nat, (∀ i, i < w.length → adr' i = adr i) ∧ w.length ≤ w'.length ∧ cm_wf w' ∧ va_P D CL (cm_W K adr' w') t.heap ∧ va_D A (cm_W K adr' w')
def cm_rm (d : Nat) (r : cm_R) : Room := { frames := d, cells := r.2.1, slots := r.2.2, locals := 12 + 40 * d }
def cm_as (adr : Nat → Nat) (arg : Option Nat) : List Value := (arg.map fun j => Value.ref (adr j)).toList
def cm_Met (l : Launch) (D : va_G) (K : Nat → ClassId) (d ci x : Nat) (arg : Option Nat) (adr : Nat → Nat) (w : List cm_D) (r : cm_R) (sz : Nat) : Prop := Met l (cm_y ci) (Cond.code (cm_y ci) (cm_b ci) (cm_m ci) none :: BG) (cm_rm d r) (va_Pc (.ref (adr x) :: cm_as adr arg) (cm_Pre D K adr w sz)) (va_Qv (fun _ : Unit => True) (cm_B D K adr w r.1 (va_A (cm_W K adr w) sz)) (va_A (cm_W K adr w) sz)) r.2.1 r.2.2 (va_A (cm_W K adr w) sz)
def cm_rec (l : Launch) (D : va_G) (K : Nat → ClassId) (d : Nat) (rec : cm_F) (ok : Nat → Bool) : Prop := ∀ (ci x : Nat) (arg : Option Nat) (w : List cm_D) (r : cm_R), rec ci x arg w = some r → ok ci = true → cm_wf w → x < w.length → (∀ j, arg = some j → j < w.length) → ∀ (adr : Nat → Nat) (sz : Nat), cm_Met l D K d ci x arg adr w r sz
section CM
variable {p : Program} {l : Launch} {e : Env} {R : Room} {s : State} {m : MethodId} {args : Array Value} {below : List Frame} {meth : Method} {c : Code} {H : Heap} {locs : List Loc} {cells slots : Nat} {Q : State → Prop}
variable {cc : ByteArray} {pc : Nat} {ls : Array Slot} {rest : List Value} {D : va_G} {A : Nat → Prop} {K : Nat → ClassId} {adr : Nat → Nat} {w : List cm_D} {own : Nat}
theorem cm_A_sub (hw : cm_wd D K adr w A s.heap H locs) (hA : ∀ q, s.heap.size ≤ q → A q) : ∀ q, va_A (cm_W K adr w) H.size q → A q := by
  intro q h
  rcases h with ⟨k, e, h⟩ | h
  · exact hw.2.1.2 k _ h
  · exact hA q (Nat.le_trans hw.2.2.1.1 h)
theorem cm_blind {As : List Value} {sz : Nat} : FrameBlind (va_Pc As (cm_Pre D K adr w sz)) := by
  intro a' U g mk q
  obtain ⟨q0, q1, qP, qK, qD, qN⟩ := q
  exact ⟨q0, q1, qP, va_K.moved (u := U) (U := U.calling g mk a') (Vm.Alike.refl U.vm) qK, qD, ne.same (u := U) (U := U.calling g mk a') rfl qN⟩
/-- a constructor is called -/
theorem cm_call0 (hcx : cm_cx own cc p s m args meth c D K) (hw : cm_wd D K adr w A s.heap H locs) (hA : ∀ q, s.heap.size ≤ q → A q) (hml : c.maxLocals = ls.size) {y : MethodName} {bytes : ByteArray} {maxL mc ms fr lo x im na : Nat} {As st0 : List Value} {w' : List cm_D}
    (hM : Met l y (Cond.code y bytes maxL none :: BG) { frames := fr, cells := mc, slots := ms, locals := lo } (va_Pc (.ref x :: As) (cm_Pre D K adr w H.size)) (va_Qv (fun _ : Unit => True) (cm_B D K adr w w' (va_A (cm_W K adr w) H.size)) (va_A (cm_W K adr w) H.size)) mc ms (va_A (cm_W K adr w) H.size))
    (v1 : Cond.code y bytes maxL none ∈ BG) (v2 : Cond.initialized y.cls ∈ BG) (v3 : Cond.instanceMethod y ∈ BG) (v4 : y.cls ≠ "java/lang/invoke/MethodHandle" ∧ y.cls ≠ "java/lang/invoke/VarHandle") (v5 : (parseMethodDescriptor y.desc).map (fun d => d.parameters.length) = some na) (v6 : y.name = "<init>") (v7 : va_Nw (.methodLinkNest (sh_R own) im y "ChipFlow") s ∨ Cond.methodLink (sh_R own) im y ∈ BG)
    (hna : As.length = na) (hR : fr + 1 ≤ R.frames ∧ 8 + (maxL + 11) + lo ≤ R.locals) (hf : cells + mc ≤ R.cells ∧ slots + ms ≤ R.slots) (hcat : (rest.map fun v => v.category).sum ≤ 8) (hst : st0 = As.reverse ++ .ref x :: rest) (hdg : decode cc pc = .ok (.invokespecial im, 3))
    (kk : ∀ (adr' : Nat → Nat) (H1 : Heap) (locs1 : List Loc), (∀ i, i < w.length → adr' i = adr i) → w.length ≤ w'.length → cm_wd D K adr' w' A s.heap H1 locs1 → W p l e R s m args below meth c H1 locs1 (cells + mc) (slots + ms) Q (F0 m (pc + 3) ls rest)) : W p l e R s m args below meth c H locs cells slots Q (F0 m pc ls st0) := by
  subst hst
  have hsub := cm_A_sub hw hA
  obtain ⟨hx, hb, hts, hown, hK, hne⟩ := id hcx
  obtain ⟨hP, hD, hS, hwf⟩ := id hw
  have hG : GoodIn BG (Cond.code y bytes maxL none :: BG) := fun v hv => ⟨bg_cons v1 v hv, bg_good v (bg_cons v1 v hv)⟩
  have hpre : PreS s H (va_Pc (.ref x :: As) (cm_Pre D K adr w H.size)) (.ref x :: As) := ⟨cm_blind, fun U hU hW => ⟨rfl, by rw [hU], by rw [hU]; exact hP, va_K.moved hW.alike hK, hD.weaken (fun _ _ _ _ => trivial), ne.warm hW hne⟩⟩
  have fin : va_Run p l e R s m args below meth c H locs cells slots mc ms (F0 m pc ls (As.reverse ++ .ref x :: rest)) rest (va_Qv (fun _ : Unit => True) (cm_B D K adr w w' (va_A (cm_W K adr w) H.size)) (va_A (cm_W K adr w) H.size) (Value.ref x :: As).toArray) (va_A (cm_W K adr w) H.size) := by
    rcases v7 with v7 | v7
    · exact va_runIN (As := As) (rest := rest) (n := na) (Ts := BG) (own := sh_R own) (nL := ls.size) (host := "ChipFlow") (index := im) (y := y) (bytes := bytes) (maxL := maxL) (mc := mc) (ms := ms) (b := x) ⟨hx, hb, hml, hown, hts⟩ hM ⟨va_cnB na hts hG rfl rfl rfl v7 (hts _ v2) ⟨v4.1, v4.2, v5⟩ hR, v6, hts _ v3⟩ hpre rfl hna rfl rfl (lv_room hcat) hdg hf
    · exact va_runI (As := As) (rest := rest) (n := na) (Ts := BG) (own := sh_R own) (nL := ls.size) (index := im) (y := y) (bytes := bytes) (maxL := maxL) (mc := mc) (ms := ms) (b := x) ⟨hx, hb, hml, hown, hts⟩ hM (cwI na hts hG rfl rfl rfl (hts _ v2) (hts _ v7) (hts _ v3) v6 ⟨v4.1, v4.2, v5⟩ hR) hpre rfl hna rfl rfl (lv_room hcat) hdg hf
  refine va_callv fin hS (fun q _ h => hsub q h) hsub (fun u t H1 locs1 ht hvm _ hB hz hk hS1 => ?_)
  obtain ⟨adr', b1, b2, b3, b4, b5⟩ := hB
  rw [ht] at b4
  exact kk adr' H1 locs1 b1 b2 ⟨b4, b5.weaken (fun _ q _ h => hsub _ h), hS1, b3⟩
theorem cm_call (hcx : cm_cx own cc p s m args meth c D K) (hw : cm_wd D K adr w A s.heap H locs) (hA : ∀ q, s.heap.size ≤ q → A q) (hml : c.maxLocals = ls.size) {d ci x im pl na : Nat} {arg : Option Nat} {r : cm_R} {st0 : List Value} (hM : cm_Met l D K d ci x arg adr w r H.size) (hiw : cm_iw pl own im ci na = true) (hna : (cm_as adr arg).length = na) (hR1 : d + 1 ≤ R.frames) (hR2 : 12 + 40 * (d + 1) ≤ R.locals) (hf : cells + r.2.1 ≤ R.cells ∧ slots + r.2.2 ≤ R.slots) (hcat : (rest.map fun v => v.category).sum ≤ 8) (hst : st0 = (cm_as adr arg).reverse ++ .ref (adr x) :: rest) (hdg : decode cc pc = .ok (.invokespecial im, 3))
    (kk : ∀ (adr' : Nat → Nat) (H1 : Heap) (locs1 : List Loc), (∀ i, i < w.length → adr' i = adr i) → w.length ≤ r.1.length → cm_wd D K adr' r.1 A s.heap H1 locs1 → W p l e R s m args below meth c H1 locs1 (cells + r.2.1) (slots + r.2.2) Q (F0 m (pc + 3) ls rest)) : W p l e R s m args below meth c H locs cells slots Q (F0 m pc ls st0) := by
  obtain ⟨v1, v2, v3, v4, v5, v6, v7, v8, v9⟩ := cm_iw_spec hiw
  have v10 : va_Nw (.methodLinkNest (sh_R own) im (cm_y ci) "ChipFlow") s ∨ Cond.methodLink (sh_R own) im (cm_y ci) ∈ BG := by
    by_cases hp : pl = 1
    · have h := hcx.2.2.2.2.2.1 (own, im, ci) (v7 hp)
      exact Or.inl h
    · exact Or.inr (v8 hp)
  unfold cm_Met at hM
  generalize cm_y ci = y at hM v1 v2 v3 v4 v5 v6 v10
  generalize cm_b ci = bytes at hM v1
  generalize cm_m ci = maxL at hM v1 v9
  exact cm_call0 hcx hw hA hml hM v1 v2 v3 v4 v5 v6 v10 hna ⟨hR1, by omega⟩ hf hcat hst hdg kk
/-- new, dup, a constructor without arguments, or with one that is read off a field -/
theorem cm_mk (hcx : cm_cx own cc p s m args meth c D K) (hw : cm_wd D K adr w A s.heap H locs) (hA : ∀ q, s.heap.size ≤ q → A q) (hml : c.maxLocals = ls.size) {d ci im pl ik : Nat} {rec : cm_F} {ok : Nat → Bool} (hrec : cm_rec l D K d rec ok) (hok : ok ci = true) {r : cm_R} (hr : cm_sub rec ci none w = some r) (hnw : cm_nw own ik ci = true) (hiw : cm_iw pl own im ci 0 = true) (hR1 : d + 1 ≤ R.frames) (hR2 : 12 + 40 * (d + 1) ≤ R.locals) (hf : cells + r.2.1 ≤ R.cells ∧ slots + r.2.2 ≤ R.slots) (hcat : (rest.map fun v => v.category).sum ≤ 7) (d0 : decode cc pc = .ok (.new ik, 3)) (d3 : decode cc (pc + 3) = .ok (.dup, 1)) (d4 : decode cc (pc + 4) = .ok (.invokespecial im, 3))
    (kk : ∀ (adr' : Nat → Nat) (H1 : Heap) (locs1 : List Loc), (∀ i, i < w.length → adr' i = adr i) → w.length < r.1.length → cm_wd D K adr' r.1 A s.heap H1 locs1 → W p l e R s m args below meth c H1 locs1 (cells + r.2.1) (slots + r.2.2) Q (F0 m (pc + 7) ls (.ref (adr' w.length) :: rest))) : W p l e R s m args below meth c H locs cells slots Q (F0 m pc ls rest) := by
  obtain ⟨n1, n2, n3, n4⟩ := cm_nw_spec hnw
  unfold cm_sub at hr
  rw [Option.map_eq_some_iff] at hr
  obtain ⟨r0, hr0, rfl⟩ := hr
  dsimp only at hf
  refine cm_nobj hcx hw hA n4 n1 n2 n3 (by omega) (by omega) d0 (fun q H1 hw1 => ?_)
  have e1 : cm_ad adr w.length q w.length = q := if_pos rfl
  refine lv_dup hcx.1 hcx.2.1 d3 rfl ?_
  refine cm_call (arg := none) (x := w.length) (rest := .ref q :: rest) hcx hw1 hA hml (hrec ci w.length none (w ++ [cm_o ci]) r0 hr0 hok hw1.2.2.2 (by rw [List.length_append]; exact Nat.lt_succ_self _) (fun j h => by cases h) _ _) hiw rfl hR1 hR2 ⟨by omega, by omega⟩ (by rw [List.map_cons, List.sum_cons]; show 1 + _ ≤ 8; omega) (by rw [e1]; rfl) d4 (fun adr' H2 locs2 b1 b2 hw2 => ?_)
  rw [List.length_append, List.length_singleton] at b1 b2
  have e2 : adr' w.length = q := by rw [b1 _ (Nat.lt_succ_self _), e1]
  have k := kk adr' H2 locs2 (fun i hi => by rw [b1 i (by omega)]; exact if_neg (by omega)) (by show w.length < r0.1.length; omega) hw2
  rw [e2] at k
  have e3 : cells + 1 + r0.2.1 = cells + (1 + r0.2.1) := by omega
  have e4 : slots + (sh_kd ci).2.2 + r0.2.2 = slots + ((sh_kd ci).2.2 + r0.2.2) := by omega
  rw [e3, e4]
  exact k
theorem cm_mka (hcx : cm_cx own cc p s m args meth c D K) (hw : cm_wd D K adr w A s.heap H locs) (hA : ∀ q, s.heap.size ≤ q → A q) (hml : c.maxLocals = ls.size) {d ci im pl ik i0 ig g j : Nat} {rec : cm_F} {ok : Nat → Bool} (hrec : cm_rec l D K d rec ok) (hok : ok ci = true) {r : cm_R} (hg : cm_fd w i0 own g = some j) (hr : cm_sub rec ci (some j) w = some r) (h14 : own < 14) (hls : ls[0]? = some (.val (.ref (adr i0)))) (hnw : cm_nw own ik ci = true) (hiw : cm_iw pl own im ci 1 = true) (hlk : cm_lk own ig g = true) (hR1 : d + 1 ≤ R.frames) (hR2 : 12 + 40 * (d + 1) ≤ R.locals) (hf : cells + r.2.1 ≤ R.cells ∧ slots + r.2.2 ≤ R.slots) (hcat : (rest.map fun v => v.category).sum ≤ 7) (d0 : decode cc pc = .ok (.new ik, 3)) (d3 : decode cc (pc + 3) = .ok (.dup, 1)) (d4 : decode cc (pc + 4) = .ok (.aload_n 0, 1)) (d5 : decode cc (pc + 5) = .ok (.getfield ig, 3)) (d8 : decode cc (pc + 8) = .ok (.invokespecial im, 3))
    (kk : ∀ (adr' : Nat → Nat) (H1 : Heap) (locs1 : List Loc), (∀ i, i < w.length → adr' i = adr i) → w.length < r.1.length → cm_wd D K adr' r.1 A s.heap H1 locs1 → W p l e R s m args below meth c H1 locs1 (cells + r.2.1) (slots + r.2.2) Q (F0 m (pc + 11) ls (.ref (adr' w.length) :: rest))) : W p l e R s m args below meth c H locs cells slots Q (F0 m pc ls rest) := by
  obtain ⟨n1, n2, n3, n4⟩ := cm_nw_spec hnw
  obtain ⟨fl, g1, g2, g3, g4⟩ := cm_fd_spec hg
  unfold cm_sub at hr
  rw [Option.map_eq_some_iff] at hr
  obtain ⟨r0, hr0, rfl⟩ := hr
  dsimp only at hf
  have hi0 : i0 < w.length := (List.getElem?_eq_some_iff.mp g1).1
  have hj : j < w.length := hw.2.2.2 _ (List.mem_of_getElem? g1) g j g4
  refine cm_nobj hcx hw hA n4 n1 n2 n3 (by omega) (by omega) d0 (fun q H1 hw1 => ?_)
  have e1 : cm_ad adr w.length q w.length = q := if_pos rfl
  have ei : cm_ad adr w.length q i0 = adr i0 := if_neg (by omega)
  refine lv_dup hcx.1 hcx.2.1 d3 rfl ?_
  refine lv_aload_n hcx.1 hcx.2.1 d4 rfl hls ?_
  have hl := (sh_any (own := own) (a := ig) (b := own) (d := g) hlk).1
  rw [← ei]
  refine cm_getf (k := g) (j := j) (fl := fl) hcx hw1 (by rw [List.getElem?_append_left hi0]; exact g1) g3 g2 g4 h14 hl d5 ?_
  refine cm_call (arg := some j) (x := w.length) (rest := .ref q :: rest) hcx hw1 hA hml (hrec ci w.length (some j) (w ++ [cm_o ci]) r0 hr0 hok hw1.2.2.2 (by rw [List.length_append]; exact Nat.lt_succ_self _) (fun j' h => by cases h; rw [List.length_append]; omega) _ _) hiw rfl hR1 hR2 ⟨by omega, by omega⟩ (by rw [List.map_cons, List.sum_cons]; show 1 + _ ≤ 8; omega) (by rw [e1]; rfl) d8 (fun adr' H2 locs2 b1 b2 hw2 => ?_)
  rw [List.length_append, List.length_singleton] at b1 b2
  have e2 : adr' w.length = q := by rw [b1 _ (Nat.lt_succ_self _), e1]
  have k := kk adr' H2 locs2 (fun i hi => by rw [b1 i (by omega)]; exact if_neg (by omega)) (by show w.length < r0.1.length; omega) hw2
  rw [e2] at k
  have e3 : cells + 1 + r0.2.1 = cells + (1 + r0.2.1) := by omega
  have e4 : slots + (sh_kd ci).2.2 + r0.2.2 = slots + ((sh_kd ci).2.2 + r0.2.2) := by omega
  rw [e3, e4]
  exact k
theorem cm_fo_spec {k : Nat} (h : cm_fo own k = true) : (sh_T own k).2.2.2 = true ∧ (sh_T own k).1 = sh_R own ∧ ∃ ty, parseFieldDescriptor (sh_T own k).2.2.1 = some ty ∧ fits ty (.ref 0) = true := by
  unfold cm_fo at h
  simp only [Bool.and_eq_true, decide_eq_true_eq] at h
  obtain ⟨⟨h1, h2⟩, h3⟩ := h
  refine ⟨h1, h2, ?_⟩
  split at h3
  · rename_i ty hty
    exact ⟨ty, hty, h3⟩
  · cases h3
theorem cm_putx (hcx : cm_cx own cc p s m args meth c D K) (hw : cm_wd D K adr w A s.heap H locs) (hin : meth.name = "<init>") {i0 k j ix : Nat} {w' : List cm_D} (hp : cm_put w i0 own k j = some w') (hlk : cm_lk own ix k = true) (hfo : cm_fo own k = true) (hdg : decode cc pc = .ok (.putfield ix, 3))
    (kk : ∀ (H1 : Heap) (locs1 : List Loc), w'.length = w.length → cm_wd D K adr w' A s.heap H1 locs1 → W p l e R s m args below meth c H1 locs1 cells slots Q (F0 m (pc + 3) ls rest)) : W p l e R s m args below meth c H locs cells slots Q (F0 m pc ls (.ref (adr j) :: .ref (adr i0) :: rest)) := by
  obtain ⟨fl, g1, g2, g3, g4, rfl⟩ := cm_put_spec hp
  obtain ⟨f1, f2, ty, f3, f4⟩ := cm_fo_spec hfo
  obtain ⟨l1, l2, l3⟩ := sh_any (own := own) (a := ix) (b := own) (d := k) hlk
  exact cm_putf hcx hw hin g1 g3 g2 g4 l2 l1 f1 f2 f3 f4 hdg (fun H1 locs1 h => kk H1 locs1 (List.length_set) h)
end CM
