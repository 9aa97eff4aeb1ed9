/-! System.arraycopy, lengths of static arrays -/
/-- places a .. a + n - 1 of one array into places b .. of another -/
def sm_cp (f g : Nat → Int) (a b n : Nat) : Nat → Int := fun k => if b ≤ k ∧ k < b + n then f (a + (k - b)) else g k
def sm_acI (S : sm_S) (t i t' i' a b n : Nat) : sm_S := (S.1, S.2.1, (fun x y => if x = t' ∧ y = i' then sm_cp (S.2.2.1 t i) (S.2.2.1 t' i') a b n else S.2.2.1 x y), S.2.2.2)
def sm_acL (S : sm_S) (t i t' i' a b n : Nat) : sm_S := (S.1, S.2.1, S.2.2.1, (fun x y => if x = t' ∧ y = i' then sm_cp (S.2.2.2 t i) (S.2.2.2 t' i') a b n else S.2.2.2 x y))
theorem sm_acI_at {S : sm_S} {t i t' i' a b n : Nat} : (sm_acI S t i t' i' a b n).2.2.1 t' i' = sm_cp (S.2.2.1 t i) (S.2.2.1 t' i') a b n := if_pos ⟨rfl, rfl⟩
theorem sm_acI_ne {S : sm_S} {t i t' i' a b n x y : Nat} (h : ¬ (x = t' ∧ y = i')) : (sm_acI S t i t' i' a b n).2.2.1 x y = S.2.2.1 x y := if_neg h
theorem sm_acL_at {S : sm_S} {t i t' i' a b n : Nat} : (sm_acL S t i t' i' a b n).2.2.2 t' i' = sm_cp (S.2.2.2 t i) (S.2.2.2 t' i') a b n := if_pos ⟨rfl, rfl⟩
theorem sm_acL_ne {S : sm_S} {t i t' i' a b n x y : Nat} (h : ¬ (x = t' ∧ y = i')) : (sm_acL S t i t' i' a b n).2.2.2 x y = S.2.2.2 x y := if_neg h
theorem sm_nlt {z : Int} (nz : sm_ni z) (h : 0 ≤ z) : ¬ Int32.ofInt z < 0 := by rw [sm_i0, sm_lt nz sm_n0]; omega
theorem sm_loc_acI {P : sm_P} {M : sm_M} {mid pc ix t i t' i' n n' : Nat} {x y k : Int} {L : sm_L} {r : List sm_V} {S : sm_S} (hkd : sh_kd t = (1, 0, n)) (hkd' : sh_kd t' = (1, 0, n')) (h0 : 0 ≤ x) (h1 : 0 ≤ y) (h2 : 0 ≤ k) (h3 : x + k ≤ n) (h4 : y + k ≤ n')
    (w1 : Cond.methodLink (sh_R (P.2.1 mid).1) ix arraycopyName ∈ BG) (w2 : Cond.native arraycopyName ∈ BG) (w3 : Cond.static arraycopyName ∈ BG) (w4 : Cond.initialized "java/lang/System" ∈ BG) (hLl : L.length = (P.2.1 mid).2) (hsum : (r.map sm_cat).sum ≤ 8) (hdg : decode (M.2.1 mid) pc = .ok (.invokestatic ix, 3)) :
    sm_loc P M mid (pc, L, .inl k :: .inl y :: .inr (.inr (some (t', i'))) :: .inl x :: .inr (.inr (some (t, i))) :: r, S) (pc + 3, L, r, sm_acI S t i t' i' x.toNat y.toNat k.toNat) := by
  intro p l e R s m args below meth c cells slots Q ad D K hcx hR1 hR2 _ _ G
  obtain ⟨hx, hb, hts, hown, hK, hml, hr, hlocks, hev, -⟩ := hcx
  intro ls H locs hl hw g1 g2 g3
  have nk : sm_ni k := sm_nst_hd g1
  have ny : sm_ni y := sm_nst_hd (sm_nst_tl g1)
  have nx : sm_ni x := sm_nst_hd (sm_nst_tl (sm_nst_tl (sm_nst_tl g1)))
  have hi' : i' < sh_cn t' := sh_cz_kd (by rw [hkd']; simp) (sm_nst_hd (sm_nst_tl (sm_nst_tl g1)))
  have hi : i < sh_cn t := sh_cz_kd (by rw [hkd]; simp) (sm_nst_hd (sm_nst_tl (sm_nst_tl (sm_nst_tl (sm_nst_tl g1)))))
  have he := sm_ws_at (K := K) (ad := ad) (S := S) hi
  have he' := sm_ws_at (K := K) (ad := ad) (S := S) hi'
  rw [sm_cell_i hkd (by omega)] at he
  rw [sm_cell_i hkd' (by omega)] at he'
  have hgr := sm_nst_tl (sm_nst_tl (sm_nst_tl (sm_nst_tl (sm_nst_tl g1))))
  refine va_copyi hx hb (by rw [hml, ← hLl]; exact hl.1.symm) hown (hts _ w1) (hts _ w2) (hts _ w3) (hts _ w4) hK hw.1 hw.2.1 hw.2.2 _ _ 0 0 he he' rfl rfl rfl (sm_nlt nx h0) (sm_nlt ny h1) (sm_nlt nk h2) (by rw [sm_tn nx, sm_tn nk]; omega) (by rw [sm_tn ny, sm_tn nk]; omega) (fun _ _ => rfl) (by omega) ?_ hdg (fun H1 locs1 q1 q2 q3 => ?_)
  · rw [sm_cat_tr]
    show (r.map sm_cat).sum + (5 + 2 + 11) ≤ R.locals
    omega
  · rw [sm_tn nx, sm_tn ny, sm_tn nk] at q1 q2
    have hset := sm_ws_set (K := K) (ad := ad) (S := S) (S' := sm_acI S t i t' i' x.toNat y.toNat k.toNat) hi' (e := .inl (K 0, n', .inl (va_cpy (fun j => Int32.ofInt (S.2.2.1 t i j)) (fun j => Int32.ofInt (S.2.2.1 t' i' j)) x.toNat y.toNat k.toNat))) (by
      rw [sm_cell_i hkd' (by omega)]
      congr 3
      congr 1
      funext j
      rw [sm_acI_at]
      unfold va_cpy sm_cp
      split <;> rfl) (fun t2 i2 hne => by
      refine sm_cell_eq (fun _ => rfl) (fun _ => rfl) (fun j => ?_) (fun _ => rfl)
      rw [sm_acI_ne hne])
    rw [hset] at q1 q2
    refine G ls H1 locs1 hl ⟨q1, q2, q3⟩ hgr g2 ⟨g3.1, g3.2.1, fun t2 i2 j => ?_, g3.2.2.2⟩
    show sm_ni ((if t2 = t' ∧ i2 = i' then sm_cp (S.2.2.1 t i) (S.2.2.1 t' i') x.toNat y.toNat k.toNat else S.2.2.1 t2 i2) j)
    split
    · unfold sm_cp
      split
      · exact g3.2.2.1 _ _ _
      · exact g3.2.2.1 _ _ _
    · exact g3.2.2.1 _ _ _
theorem sm_loc_acL {P : sm_P} {M : sm_M} {mid pc ix t i t' i' n n' : Nat} {x y k : Int} {L : sm_L} {r : List sm_V} {S : sm_S} (hkd : sh_kd t = (4, 3, n)) (hkd' : sh_kd t' = (4, 3, n')) (h0 : 0 ≤ x) (h1 : 0 ≤ y) (h2 : 0 ≤ k) (h3 : x + k ≤ n) (h4 : y + k ≤ n')
    (w1 : Cond.methodLink (sh_R (P.2.1 mid).1) ix arraycopyName ∈ BG) (w2 : Cond.native arraycopyName ∈ BG) (w3 : Cond.static arraycopyName ∈ BG) (w4 : Cond.initialized "java/lang/System" ∈ BG) (hLl : L.length = (P.2.1 mid).2) (hsum : (r.map sm_cat).sum ≤ 8) (hdg : decode (M.2.1 mid) pc = .ok (.invokestatic ix, 3)) :
    sm_loc P M mid (pc, L, .inl k :: .inl y :: .inr (.inr (some (t', i'))) :: .inl x :: .inr (.inr (some (t, i))) :: r, S) (pc + 3, L, r, sm_acL S t i t' i' x.toNat y.toNat k.toNat) := by
  intro p l e R s m args below meth c cells slots Q ad D K hcx hR1 hR2 _ _ G
  obtain ⟨hx, hb, hts, hown, hK, hml, hr, hlocks, hev, -⟩ := hcx
  intro ls H locs hl hw g1 g2 g3
  have nk : sm_ni k := sm_nst_hd g1
  have ny : sm_ni y := sm_nst_hd (sm_nst_tl g1)
  have nx : sm_ni x := sm_nst_hd (sm_nst_tl (sm_nst_tl (sm_nst_tl g1)))
  have hi' : i' < sh_cn t' := sh_cz_kd (by rw [hkd']; simp) (sm_nst_hd (sm_nst_tl (sm_nst_tl g1)))
  have hi : i < sh_cn t := sh_cz_kd (by rw [hkd]; simp) (sm_nst_hd (sm_nst_tl (sm_nst_tl (sm_nst_tl (sm_nst_tl g1)))))
  have he := sm_ws_at (K := K) (ad := ad) (S := S) hi
  have he' := sm_ws_at (K := K) (ad := ad) (S := S) hi'
  rw [sm_cell_l hkd] at he
  rw [sm_cell_l hkd'] at he'
  have hgr := sm_nst_tl (sm_nst_tl (sm_nst_tl (sm_nst_tl (sm_nst_tl g1))))
  refine va_copyl hx hb (by rw [hml, ← hLl]; exact hl.1.symm) hown (hts _ w1) (hts _ w2) (hts _ w3) (hts _ w4) hK hw.1 hw.2.1 hw.2.2 _ _ 3 3 he he' rfl rfl rfl (sm_nlt nx h0) (sm_nlt ny h1) (sm_nlt nk h2) (by rw [sm_tn nx, sm_tn nk]; omega) (by rw [sm_tn ny, sm_tn nk]; omega) (fun _ _ => rfl) (by omega) ?_ hdg (fun H1 locs1 q1 q2 q3 => ?_)
  · rw [sm_cat_tr]
    show (r.map sm_cat).sum + (5 + 2 + 11) ≤ R.locals
    omega
  · rw [sm_tn nx, sm_tn ny, sm_tn nk] at q1 q2
    have hset := sm_ws_set (K := K) (ad := ad) (S := S) (S' := sm_acL S t i t' i' x.toNat y.toNat k.toNat) hi' (e := .inl (K 3, n', .inr (.inl (va_cpy (fun j => Int64.ofInt (S.2.2.2 t i j)) (fun j => Int64.ofInt (S.2.2.2 t' i' j)) x.toNat y.toNat k.toNat)))) (by
      rw [sm_cell_l hkd']
      congr 4
      congr 1
      funext j
      rw [sm_acL_at]
      unfold va_cpy sm_cp
      split <;> rfl) (fun t2 i2 hne => by
      refine sm_cell_eq (fun _ => rfl) (fun _ => rfl) (fun _ => rfl) (fun j => ?_)
      rw [sm_acL_ne hne])
    rw [hset] at q1 q2
    refine G ls H1 locs1 hl ⟨q1, q2, q3⟩ hgr g2 ⟨g3.1, g3.2.1, g3.2.2.1, fun t2 i2 j => ?_⟩
    show sm_nl ((if t2 = t' ∧ i2 = i' then sm_cp (S.2.2.2 t i) (S.2.2.2 t' i') x.toNat y.toNat k.toNat else S.2.2.2 t2 i2) j)
    split
    · unfold sm_cp
      split
      · exact g3.2.2.2 _ _ _
      · exact g3.2.2.2 _ _ _
    · exact g3.2.2.2 _ _ _
theorem sm_loc_sn {P : sm_P} {M : sm_M} {mid pc j : Nat} {q : String × String × String} {L : sm_L} {r : List sm_V} {S : sm_S} (hq : sm_stn[j]? = some q) (hlen : (sm_stv.getD j []).length ≤ 100) (hdg : decode (M.2.1 mid) pc = .ok (.arraylength, 1)) : sm_loc P M mid (pc, L, .inr (.inr (some (296 + j, 0))) :: r, S) (pc + 1, L, .inl ((sm_stv.getD j []).length : Int) :: r, S) := by
  intro p l e R s m args below meth c cells slots Q ad D K hcx _ _ _ _ G
  obtain ⟨hx, hb, hts, hown, hK, hml, hr, hlocks, hev, -⟩ := hcx
  intro ls H locs hl hw h1 h2 h3
  have nz : sm_ni ((sm_stv.getD j []).length : Int) := by unfold sm_ni; omega
  exact va_tlen hx hb (hev.2.1 j q hq).2 hw.2.2 (v := Int32.ofInt ((sm_stv.getD j []).length : Int)) rfl hdg (G ls H locs hl hw (sm_nst_cons nz (sm_nst_tl h1)) h2 h3)
/-- the greater and the lesser of two numbers -/
def sm_mx (x y : Int) : Int := if x < y then y else x
def sm_mn (x y : Int) : Int := if y < x then y else x
theorem sm_mx_n {x y : Int} (hx : sm_ni x) (hy : sm_ni y) : sm_ni (sm_mx x y) := by unfold sm_mx; split <;> assumption
theorem sm_mn_n {x y : Int} (hx : sm_ni x) (hy : sm_ni y) : sm_ni (sm_mn x y) := by unfold sm_mn; split <;> assumption
theorem sm_loc_mx {P : sm_P} {M : sm_M} {mid pc ix : Nat} {x y : Int} {L : sm_L} {r : List sm_V} {S : sm_S} (hLl : L.length = (P.2.1 mid).2) (hsm : (r.map sm_cat).sum ≤ 8) (w1 : Cond.methodLink (sh_R (P.2.1 mid).1) ix Lib.Math.max.name ∈ BG) (w2 : Cond.static Lib.Math.max.name ∈ BG) (w3 : Cond.initialized "java/lang/Math" ∈ BG) (w4 : Cond.code Lib.Math.max.name Lib.Math.max.code 2 (some .int) ∈ BG) (hdg : decode (M.2.1 mid) pc = .ok (.invokestatic ix, 3)) : sm_loc P M mid (pc, L, .inl y :: .inl x :: r, S) (pc + 3, L, .inl (sm_mx x y) :: r, S) := by
  intro p l e R s m args below meth c cells slots Q ad D K hcx hR1 hR2 hR3 hR4 G
  obtain ⟨hx, hb, hts, hown, hK, hml, hr, hlocks, hev, -⟩ := hcx
  intro ls H locs hl hw g1 g2 g3
  have ny : sm_ni y := sm_nst_hd g1
  have nx : sm_ni x := sm_nst_hd (sm_nst_tl g1)
  have k := G ls H locs hl hw (sm_nst_cons (sm_mx_n nx ny) (sm_nst_tl (sm_nst_tl g1))) g2 g3
  refine va_mmax hx hb (by rw [hml, ← hLl]; exact hl.1.symm) hown (hts _ w1) (hts _ w2) (hts _ w3) (hts _ w4) (by omega) ?_ hR3 hR4 hdg ?_
  · rw [sm_cat_tr]
    omega
  · have e : (if Int32.ofInt x < Int32.ofInt y then Int32.ofInt y else Int32.ofInt x) = Int32.ofInt (sm_mx x y) := by
      unfold sm_mx
      by_cases q : x < y
      · rw [if_pos q, if_pos ((sm_lt nx ny).mpr q)]
      · rw [if_neg q, if_neg (fun z => q ((sm_lt nx ny).mp z))]
    rw [e]
    exact k
theorem sm_loc_mn {P : sm_P} {M : sm_M} {mid pc ix : Nat} {x y : Int} {L : sm_L} {r : List sm_V} {S : sm_S} (hLl : L.length = (P.2.1 mid).2) (hsm : (r.map sm_cat).sum ≤ 8) (w1 : Cond.methodLink (sh_R (P.2.1 mid).1) ix Lib.Math.min.name ∈ BG) (w2 : Cond.static Lib.Math.min.name ∈ BG) (w3 : Cond.initialized "java/lang/Math" ∈ BG) (w4 : Cond.code Lib.Math.min.name Lib.Math.min.code 2 (some .int) ∈ BG) (hdg : decode (M.2.1 mid) pc = .ok (.invokestatic ix, 3)) : sm_loc P M mid (pc, L, .inl y :: .inl x :: r, S) (pc + 3, L, .inl (sm_mn x y) :: r, S) := by
  intro p l e R s m args below meth c cells slots Q ad D K hcx hR1 hR2 hR3 hR4 G
  obtain ⟨hx, hb, hts, hown, hK, hml, hr, hlocks, hev, -⟩ := hcx
  intro ls H locs hl hw g1 g2 g3
  have ny : sm_ni y := sm_nst_hd g1
  have nx : sm_ni x := sm_nst_hd (sm_nst_tl g1)
  have k := G ls H locs hl hw (sm_nst_cons (sm_mn_n nx ny) (sm_nst_tl (sm_nst_tl g1))) g2 g3
  refine va_mmin hx hb (by rw [hml, ← hLl]; exact hl.1.symm) hown (hts _ w1) (hts _ w2) (hts _ w3) (hts _ w4) (by omega) ?_ hR3 hR4 hdg ?_
  · rw [sm_cat_tr]
    omega
  · have e : (if Int32.ofInt y < Int32.ofInt x then Int32.ofInt y else Int32.ofInt x) = Int32.ofInt (sm_mn x y) := by
      unfold sm_mn
      by_cases q : y < x
      · rw [if_pos q, if_pos ((sm_lt ny nx).mpr q)]
      · rw [if_neg q, if_neg (fun z => q ((sm_lt ny nx).mp z))]
    rw [e]
    exact k
/-- a lookupswitch as a table -/
theorem sm_loc_lk {P : sm_P} {M : sm_M} {mid pc len df : Nat} {dflt lo : Int} {ps : Array (Int × Int)} {ts : List Nat} {y : Int} {L : sm_L} {r : List sm_V} {S : sm_S} (hdg : decode (M.2.1 mid) pc = .ok (.lookupswitch dflt ps, len)) (hp : (ps.toList.zip (ps.toList.drop 1)).all (fun (a, next) => a.1 < next.1) = true) (hof : ∀ y : Int, (pc : Int) + Op.lookupswitch.offset ps.toList dflt y = (((if y < lo then none else ts[(y - lo).toNat]?).getD df : Nat) : Int)) : sm_loc P M mid (pc, L, .inl y :: r, S) ((if y < lo then none else ts[(y - lo).toNat]?).getD df, L, r, S) := by
  intro p l e R s m args below meth c cells slots Q ad D K hcx _ _ _ _ G
  obtain ⟨hx, hb, -⟩ := hcx
  intro ls H locs hl hw h1 h2 h3
  have ny : sm_ni y := sm_nst_hd h1
  have k := G ls H locs hl hw (sm_nst_tl h1) h2 h3
  exact lv_lookup hx hb hdg hp (x := Int32.ofInt y) rfl (by rw [sm_ti ny]; exact hof y) k
/-! the script -/
theorem sm_loc_sr {P : sm_P} {M : sm_M} {mid pc : Nat} {L : sm_L} {r : List sm_V} {S : sm_S} {x : Int} (h0 : 0 ≤ x) (hv : x < M.2.2.2.2.1) (hdg : decode (M.2.1 mid) pc = .ok (.iaload, 1)) : sm_loc P M mid (pc, L, .inl x :: .inr (.inr (some (302, 0))) :: r, S) (pc + 1, L, .inl (M.2.2.2.2.2 x.toNat) :: r, S) := by
  intro p l e R s m args below meth c cells slots Q ad D K hcx _ _ _ _ G
  obtain ⟨hx, hb, hts, hown, hK, hml, hr, hlocks, hev, -⟩ := hcx
  intro ls H locs hl hw h1 h2 h3
  have nx : sm_ni x := sm_nst_hd h1
  obtain ⟨e1, e2, hT⟩ := hev.2.2.2.2
  refine va_ti hx hb hT hw.2.2 (sm_in nx h0 (by omega)) (v := .int (Int32.ofInt (M.2.2.2.2.2 x.toNat))) (by rw [sm_tn nx]) hdg ?_
  exact G ls H locs hl hw (sm_nst_cons (e2 x.toNat) (sm_nst_tl (sm_nst_tl h1))) h2 h3
theorem sm_loc_sz {P : sm_P} {M : sm_M} {mid pc : Nat} {L : sm_L} {r : List sm_V} {S : sm_S} (hdg : decode (M.2.1 mid) pc = .ok (.arraylength, 1)) : sm_loc P M mid (pc, L, .inr (.inr (some (302, 0))) :: r, S) (pc + 1, L, .inl (M.2.2.2.2.1 : Int) :: r, S) := by
  intro p l e R s m args below meth c cells slots Q ad D K hcx _ _ _ _ G
  obtain ⟨hx, hb, hts, hown, hK, hml, hr, hlocks, hev, -⟩ := hcx
  intro ls H locs hl hw h1 h2 h3
  obtain ⟨e1, e2, hT⟩ := hev.2.2.2.2
  refine va_tlen hx hb hT hw.2.2 (v := Int32.ofInt (M.2.2.2.2.1 : Int)) rfl hdg ?_
  exact G ls H locs hl hw (sm_nst_cons (show sm_ni _ by unfold sm_ni; omega) (sm_nst_tl h1)) h2 h3
