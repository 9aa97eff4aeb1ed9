section CM
variable {p : Program} {l : Launch} {e : Env} {R : Room} {s : State} {m : MethodId} {args : Array Value} {below : List Frame} {meth : Method} {c : Code} {Q : State → Prop}
variable {cc : ByteArray} {D : va_G} {A : Nat → Prop} {K : Nat → ClassId} {own : Nat} {rec : cm_F} {ok : Nat → Bool} {d : Nat}
/-- one doing -/
theorem cm_one (hcx : cm_cx own cc p s m args meth c D K) (hA : ∀ q, s.heap.size ≤ q → A q) (hin : meth.name = "<init>") (hml : c.maxLocals = cm_m own) (hrec : cm_rec l D K d rec ok) (h14 : own < 14) (hR1 : d + 1 ≤ R.frames) (hR2 : 12 + 40 * (d + 1) ≤ R.locals)
    {I : cm_I} {i0 : Nat} {arg : Option Nat} {w : List cm_D} {adr : Nat → Nat} {ls : Array Slot} {H : Heap} {locs : List Loc} {cells slots : Nat} {r : cm_R} (hI : cm_c1 own cc I = true) (hk : cm_k1 ok I = true) (hr : cm_x1 rec own i0 arg I w = some r) (hl : lv_has ls (cm_m own) (cm_lv adr i0 arg)) (hw : cm_wd D K adr w A s.heap H locs) (hi0 : i0 < w.length) (harg : ∀ j, arg = some j → j < w.length) (hf : cells + r.2.1 ≤ R.cells ∧ slots + r.2.2 ≤ R.slots)
    (kk : ∀ (adr' : Nat → Nat) (ls' : Array Slot) (H1 : Heap) (locs1 : List Loc), (∀ i, i < w.length → adr' i = adr i) → w.length ≤ r.1.length → lv_has ls' (cm_m own) (cm_lv adr' i0 arg) → cm_wd D K adr' r.1 A s.heap H1 locs1 → W p l e R s m args below meth c H1 locs1 (cells + r.2.1) (slots + r.2.2) Q (F0 m (cm_nx I) ls' [])) : W p l e R s m args below meth c H locs cells slots Q (F0 m I.2.1 ls []) := by
  obtain ⟨op, pc, pl, n, a, b, k, im, ig, f⟩ := I
  have hls : c.maxLocals = ls.size := by rw [hml]; exact hl.1.symm
  unfold cm_c1 at hI
  simp only [Bool.and_eq_true, decide_eq_true_eq] at hI
  obtain ⟨⟨⟨i1, i2⟩, i3⟩, hI⟩ := hI
  unfold cm_k1 at hk
  unfold cm_x1 at hr
  dsimp only at hr hk ⊢
  refine lv_aload_n hcx.1 hcx.2.1 i1 rfl (cm_lv0 hl) ?_
  split at hr
  · -- an array
    simp only [Bool.and_eq_true, decide_eq_true_eq] at hI
    obtain ⟨⟨⟨⟨j1, j2⟩, j3⟩, j4⟩, j5⟩ := hI
    rw [Option.map_eq_some_iff] at hr
    obtain ⟨w', hp, rfl⟩ := hr
    dsimp only at hf kk
    refine cm_push hcx j1 ?_
    refine cm_narr hcx hw hA j2 j3 hf.1 hf.2 j4 (fun q H1 hw1 => ?_)
    have e1 : cm_ad adr w.length q w.length = q := if_pos rfl
    have ei : ∀ i, i < w.length → cm_ad adr w.length q i = adr i := fun i hi => if_neg (by omega)
    have k1 := cm_putx (pc := pc + 3 + cm_pl pl) (ls := ls) (rest := []) (l := l) (e := e) (R := R) (below := below) (Q := Q) (cells := cells + 1) (slots := slots + n) hcx hw1 hin hp i2 i3 j5 (fun H2 locs2 e2 hw2 => by
      rw [show pc + 3 + cm_pl pl + 3 = pc + cm_pl pl + 6 by omega]
      rw [List.length_append, List.length_singleton] at e2
      exact kk (cm_ad adr w.length q) ls H2 locs2 ei (by omega) (by rw [cm_lv_ext ei hi0 harg]; exact hl) hw2)
    rw [e1, ei i0 hi0] at k1
    rw [show pc + 1 + cm_pl pl + 2 = pc + 3 + cm_pl pl by omega]
    exact k1
  · -- the argument
    simp only [Bool.and_eq_true, decide_eq_true_eq] at hI
    split at hr
    · cases hr
    · rename_i j
      rw [Option.map_eq_some_iff] at hr
      obtain ⟨w', hp, rfl⟩ := hr
      dsimp only at hf kk
      refine lv_aload_n hcx.1 hcx.2.1 hI.1 rfl (lv_at hl 1 rfl) ?_
      exact cm_putx (pc := pc + 2) hcx hw hin hp i2 i3 hI.2 (fun H2 locs2 e2 hw2 => kk adr ls H2 locs2 (fun _ _ => rfl) (by omega) hl hw2)
  · -- an object
    simp only [Bool.and_eq_true, decide_eq_true_eq] at hI
    obtain ⟨⟨⟨⟨⟨j1, j2⟩, j3⟩, j4⟩, j5⟩, j6⟩ := hI
    split at hr
    · cases hr
    · rename_i r1 hr1
      rw [Option.map_eq_some_iff] at hr
      obtain ⟨w', hp, rfl⟩ := hr
      dsimp only at hf kk
      refine cm_mk (pc := pc + 1) hcx hw hA hls hrec hk hr1 j2 j5 hR1 hR2 hf (Nat.le_of_ble_eq_true rfl) j1 j3 j4 (fun adr1 H1 locs1 a1 a2 hw1 => ?_)
      rw [← a1 i0 hi0]
      exact cm_putx (pc := pc + 8) hcx hw1 hin hp i2 i3 j6 (fun H2 locs2 e2 hw2 => kk adr1 ls H2 locs2 a1 (by omega) (by rw [cm_lv_ext a1 hi0 harg]; exact hl) hw2)
  · -- an object made of a field
    simp only [Bool.and_eq_true, decide_eq_true_eq] at hI
    obtain ⟨⟨⟨⟨⟨⟨⟨⟨j1, j2⟩, j3⟩, j4⟩, j5⟩, j6⟩, j7⟩, j8⟩, j9⟩ := hI
    split at hr
    · cases hr
    · rename_i j hj
      split at hr
      · cases hr
      · rename_i r1 hr1
        rw [Option.map_eq_some_iff] at hr
        obtain ⟨w', hp, rfl⟩ := hr
        dsimp only at hf kk
        refine cm_mka (pc := pc + 1) hcx hw hA hls hrec hk hj hr1 h14 (cm_lv0 hl) j2 j8 j6 hR1 hR2 hf (Nat.le_of_ble_eq_true rfl) j1 j3 j4 j5 j7 (fun adr1 H1 locs1 a1 a2 hw1 => ?_)
        rw [← a1 i0 hi0]
        exact cm_putx (pc := pc + 12) hcx hw1 hin hp i2 i3 j9 (fun H2 locs2 e2 hw2 => kk adr1 ls H2 locs2 a1 (by omega) (by rw [cm_lv_ext a1 hi0 harg]; exact hl) hw2)
  · -- a row of objects
    simp only [Bool.and_eq_true, decide_eq_true_eq] at hI
    obtain ⟨⟨⟨⟨⟨⟨⟨⟨⟨⟨⟨⟨⟨⟨⟨⟨⟨⟨⟨⟨⟨j0, j1⟩, j2⟩, j3⟩, j4⟩, j5⟩, j6⟩, j7⟩, j8⟩, j9⟩, j10⟩, j11⟩, j12⟩, j13⟩, j14⟩, j15⟩, j16⟩, j17⟩, j18⟩, j19⟩, j20⟩, j21⟩ := hI
    split at hr
    · cases hr
    · split at hr
      · cases hr
      · rename_i w1 hp
        rw [Option.map_eq_some_iff] at hr
        obtain ⟨r1, hr1, rfl⟩ := hr
        dsimp only at hf kk
        refine cm_push hcx j1 ?_
        refine cm_nrow hcx hw hA (by omega) j3 (cm_nw_row j4 j2) (by omega) (by omega) j5 (fun q H1 hw1 => ?_)
        have e1 : cm_ad adr w.length q w.length = q := if_pos rfl
        have ei : ∀ i, i < w.length → cm_ad adr w.length q i = adr i := fun i hi => if_neg (by omega)
        have k1 := cm_putx (pc := pc + 4 + cm_pl pl) (ls := ls) (rest := []) (l := l) (e := e) (R := R) (below := below) (Q := Q) (cells := cells + 1) (slots := slots + n) hcx hw1 hin hp i2 i3 j6 (fun H2 locs2 e2 hw2 => by
          rw [show pc + 4 + cm_pl pl + 3 = pc + 7 + cm_pl pl by omega]
          rw [List.length_append, List.length_singleton] at e2
          refine lv_iconst (v := Int32.ofInt ((0 : Nat) : Int)) hcx.1 hcx.2.1 j7 rfl ?_
          rw [show pc + 7 + cm_pl pl + 1 = pc + 8 + cm_pl pl by omega]
          rw [j0] at hl
          refine lv_istore_n hcx.1 hcx.2.1 j8 rfl hl (by decide) rfl (fun ls2 hl2 => ?_)
          rw [show pc + 8 + cm_pl pl + 1 = pc + 9 + cm_pl pl by omega]
          refine cm_loop (ph := pc + 9 + cm_pl pl) (N := n) hcx hA (by rw [hml, j0]) hrec hk h14 j3 j4 j18 i2 j2 hR1 hR2 j9 (by rw [show pc + 9 + cm_pl pl + 1 = pc + 10 + cm_pl pl by omega]; exact j10) (by rw [show pc + 9 + cm_pl pl + 1 + cm_pl pl = pc + 10 + 2 * cm_pl pl by omega]; exact j11) (by rw [show pc + 9 + cm_pl pl + 4 + cm_pl pl = pc + 13 + 2 * cm_pl pl by omega]; exact j12) (by rw [show pc + 9 + cm_pl pl + 5 + cm_pl pl = pc + 14 + 2 * cm_pl pl by omega]; exact j13) (by rw [show pc + 9 + cm_pl pl + 8 + cm_pl pl = pc + 17 + 2 * cm_pl pl by omega]; exact j14) (by rw [show pc + 9 + cm_pl pl + 9 + cm_pl pl = pc + 18 + 2 * cm_pl pl by omega]; exact j15) (by rw [show pc + 9 + cm_pl pl + 12 + cm_pl pl = pc + 21 + 2 * cm_pl pl by omega]; exact j16) (by rw [show pc + 9 + cm_pl pl + 13 + cm_pl pl = pc + 22 + 2 * cm_pl pl by omega]; exact j17) (by rw [show pc + 9 + cm_pl pl + 16 + cm_pl pl = pc + 25 + 2 * cm_pl pl by omega]; exact j19) (by rw [show pc + 9 + cm_pl pl + 17 + cm_pl pl = pc + 26 + 2 * cm_pl pl by omega]; exact j20) (by rw [show pc + 9 + cm_pl pl + 20 + cm_pl pl = pc + 29 + 2 * cm_pl pl by omega]; exact j21) n 0 w1 (cm_ad adr w.length q) ls2 H2 locs2 (cells + 1) (slots + n) r1 hr1 (by omega) (by rw [ei i0 hi0]; exact hl2) hw2 (by omega) ⟨by omega, by omega⟩ (fun adr3 ls3 H3 locs3 b1 b2 b3 b4 => ?_)
          rw [show pc + 9 + cm_pl pl + 23 + cm_pl pl = pc + 2 * cm_pl pl + 32 by omega, Nat.add_assoc, Nat.add_assoc slots]
          exact kk adr3 ls3 H3 locs3 (fun i hi => by rw [b1 i (by omega), ei i hi]) (by omega) (by rw [j0]; exact b3) b4)
        rw [e1, ei i0 hi0] at k1
        rw [show pc + 1 + cm_pl pl + 3 = pc + 4 + cm_pl pl by omega]
        exact k1
  · cases hr
/-- all doings -/
theorem cm_all (hcx : cm_cx own cc p s m args meth c D K) (hA : ∀ q, s.heap.size ≤ q → A q) (hin : meth.name = "<init>") (hml : c.maxLocals = cm_m own) (hrec : cm_rec l D K d rec ok) (h14 : own < 14) (hR1 : d + 1 ≤ R.frames) (hR2 : 12 + 40 * (d + 1) ≤ R.locals) {pe i0 : Nat} {arg : Option Nat} :
    ∀ (Is : List cm_I) (pc : Nat) (w : List cm_D) (adr : Nat → Nat) (ls : Array Slot) (H : Heap) (locs : List Loc) (cells slots : Nat) (r : cm_R), cm_cl own cc pe Is pc = true → Is.all (cm_k1 ok) = true → cm_xl rec own i0 arg Is w = some r → lv_has ls (cm_m own) (cm_lv adr i0 arg) → cm_wd D K adr w A s.heap H locs → i0 < w.length → (∀ j, arg = some j → j < w.length) → cells + r.2.1 ≤ R.cells ∧ slots + r.2.2 ≤ R.slots →
    (∀ (adr' : Nat → Nat) (ls' : Array Slot) (H1 : Heap) (locs1 : List Loc), (∀ i, i < w.length → adr' i = adr i) → w.length ≤ r.1.length → cm_wd D K adr' r.1 A s.heap H1 locs1 → W p l e R s m args below meth c H1 locs1 (cells + r.2.1) (slots + r.2.2) Q (F0 m pe ls' [])) → W p l e R s m args below meth c H locs cells slots Q (F0 m pc ls []) := by
  intro Is
  induction Is with
  | nil =>
    intro pc w adr ls H locs cells slots r hc _ hr hl hw hi0 harg hf kk
    cases hr
    have e1 : pc = pe := of_decide_eq_true hc
    rw [e1]
    exact kk adr ls H locs (fun _ _ => rfl) (Nat.le_refl _) hw
  | cons I Is ih =>
    intro pc w adr ls H locs cells slots r hc hk hr hl hw hi0 harg hf kk
    simp only [cm_cl, Bool.and_eq_true, decide_eq_true_eq] at hc
    obtain ⟨⟨rfl, hc1⟩, hc2⟩ := hc
    rw [List.all_cons, Bool.and_eq_true] at hk
    simp only [cm_xl] at hr
    split at hr
    · cases hr
    · rename_i a ha
      rw [Option.map_eq_some_iff] at hr
      obtain ⟨b, hb, rfl⟩ := hr
      dsimp only at hf kk
      refine cm_one hcx hA hin hml hrec h14 hR1 hR2 hc1 hk.1 ha hl hw hi0 harg ⟨by omega, by omega⟩ (fun adr1 ls1 H1 locs1 a1 a2 a3 a4 => ?_)
      refine ih _ a.1 adr1 ls1 H1 locs1 (cells + a.2.1) (slots + a.2.2) b hc2 hk.2 hb a3 a4 (by omega) (fun j hj => by have := harg j hj; omega) ⟨by omega, by omega⟩ (fun adr2 ls2 H2 locs2 b1 b2 b3 => ?_)
      rw [Nat.add_assoc, Nat.add_assoc slots]
      exact kk adr2 ls2 H2 locs2 (fun i hi => by rw [b1 i (by omega), a1 i hi]) (by omega) b3
end CM
/-- which constructors are known, by depth -/
def cm_okd : Nat → Nat → Bool
  | 0 => fun _ => false
  | d + 1 => fun ci => (cm_T ci).all (cm_k1 (cm_okd d)) && cm_hd ci
theorem cm_met {l : Launch} {D : va_G} {K : Nat → ClassId} : ∀ d, cm_rec l D K d (cm_x cm_T d) (cm_okd d) := by
  intro d
  induction d with
  | zero => intro ci x arg w r h; cases h
  | succ d ih =>
    intro ci x arg w r hr hok hwf hx harg adr sz
    replace hr : (if arg.isNone || decide (2 ≤ cm_m ci) then cm_xl (cm_x cm_T d) ci x arg (cm_T ci) w else none) = some r := hr
    split at hr
    case isFalse => cases hr
    rename_i harg2
    simp only [cm_okd, Bool.and_eq_true] at hok
    obtain ⟨hk, hhd⟩ := hok
    unfold cm_hd at hhd
    simp only [Bool.and_eq_true, decide_eq_true_eq] at hhd
    obtain ⟨⟨⟨⟨p1, q4⟩, q6⟩, q7⟩, q8⟩ := hhd
    obtain ⟨⟨-, -, -, -, q5⟩, q2, q3, q1, -, -, h14, q9, -⟩ := cm_isc_spec p1
    refine Met.ofW (cc := cm_b ci) (maxL := cm_m ci) (ret := none) q1 rfl ?_
    intro p e s m args below meth c s₁ B hml hv
    obtain ⟨rfl, hsz, hP, hK, hD0, hne⟩ := hv
    have hx0 := B.exec
    have hb := B.bytes
    have hr0 := B.returns
    have hts : ∀ w ∈ BG, w.before _ s = true := fun w h => atoms_spec (ws := Cond.code (cm_y ci) (cm_b ci) (cm_m ci) none :: BG) B.pre w (List.mem_cons_of_mem _ h)
    have hown : s.vm.findClass (sh_R ci) = some m.cls := by rw [← q2]; exact findClass_of_methodNamed B.named
    have hlocks := B.notSynchronized
    have hin : meth.name = "<init>" := ((name_of_methodNamed B.named B.method).1).trans q3
    subst hsz
    have hD : va_D (va_A (cm_W K adr w) s.heap.size) (cm_W K adr w) := hD0.self (sz := s.heap.size)
    have hA : ∀ q : Nat, s.heap.size ≤ q → va_A (cm_W K adr w) s.heap.size q := fun q h => Or.inr h
    have hS : va_S (va_A (cm_W K adr w) s.heap.size) s.heap s.heap [] := va_S.rf
    have hlen : (lg_sl (.ref (adr x) :: cm_as adr arg)).length ≤ cm_m ci := by
      cases arg with
      | none => show 1 ≤ _; omega
      | some j =>
        have h9 : 2 ≤ cm_m ci := by simpa using harg2
        exact h9
    have hl := lv_entry (.ref (adr x) :: cm_as adr arg) (n := cm_m ci) hlen
    rw [lg_entry_eq]
    generalize (lg_sl (.ref (adr x) :: cm_as adr arg) ++ List.replicate (cm_m ci - (lg_sl (.ref (adr x) :: cm_as adr arg)).length) Slot.unset).toArray = ls at hl ⊢
    have hl : lv_has ls (cm_m ci) (cm_lv adr x arg) := by
      cases arg with
      | none => exact hl
      | some j => exact hl
    have hcx : cm_cx ci (cm_b ci) p s m (Value.ref (adr x) :: cm_as adr arg).toArray meth c D K := ⟨hx0, hb, hts, hown, hK, hne⟩
    refine lv_aload_n hx0 hb q4 rfl (cm_lv0 hl) ?_
    refine W.objInit hx0 hb hown (hts _ q5) (hts _ cm_wo1) (hts _ cm_wo2) rfl (by rw [hml]; exact hl.1) rfl q6 ?_ ?_ ?_
    · show 1 ≤ d + 1
      omega
    · show 2 * 0 + 0 + 12 ≤ 12 + 40 * (d + 1)
      omega
    refine W.eq (g2 := F0 m 4 ls []) rfl ?_
    refine cm_all (d := d) hcx hA hin hml ih h14 (Nat.le_refl _) (Nat.le_refl _) (cm_T ci) 4 w adr ls s.heap [] 0 0 r q7 hk hr hl ⟨hP, hD, hS, hwf⟩ hx harg ⟨by show 0 + r.2.1 ≤ r.2.1; omega, by show 0 + r.2.2 ≤ r.2.2; omega⟩ (fun adr1 ls1 H1 locs1 a1 a2 hw1 => ?_)
    rw [Nat.zero_add, Nat.zero_add]
    exact W.vret hx0 hb hr0 (fun t ht hW => ⟨⟨(), rfl, trivial, adr1, a1, a2, hw1.2.2.2, by rw [ht]; exact hw1.1, hw1.2.1⟩, hw1.2.2.1.F ht⟩) hw1.2.2.1.2.2 q8 hlocks
