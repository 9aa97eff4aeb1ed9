/-! the law's code -/
theorem lw_td {α : Type} {l : List α} {p : α → Bool} {k b : Nat} (h1 : ((l.drop k).take b).all p = true) (h2 : (l.drop (k + b)).all p = true) : (l.drop k).all p = true := by
  rw [← List.take_append_drop b (l.drop k), List.all_append, h1, List.drop_drop, h2]
  rfl
theorem lw_k : (mt_cd 588).all (fun q => ck_sI 588 q && ck_rI 588 q && ck_cI 588 q && ck_nI 588 q) = true := by
  have h29 : ((mt_cd 588).drop 1740).all (fun q => ck_sI 588 q && ck_rI 588 q && ck_cI 588 q && ck_nI 588 q) = true := by rw [List.drop_eq_nil_of_le (by decide +kernel)]; rfl
  have h28 := lw_td lw_k28 h29
  have h27 := lw_td lw_k27 h28
  have h26 := lw_td lw_k26 h27
  have h25 := lw_td lw_k25 h26
  have h24 := lw_td lw_k24 h25
  have h23 := lw_td lw_k23 h24
  have h22 := lw_td lw_k22 h23
  have h21 := lw_td lw_k21 h22
  have h20 := lw_td lw_k20 h21
  have h19 := lw_td lw_k19 h20
  have h18 := lw_td lw_k18 h19
  have h17 := lw_td lw_k17 h18
  have h16 := lw_td lw_k16 h17
  have h15 := lw_td lw_k15 h16
  have h14 := lw_td lw_k14 h15
  have h13 := lw_td lw_k13 h14
  have h12 := lw_td lw_k12 h13
  have h11 := lw_td lw_k11 h12
  have h10 := lw_td lw_k10 h11
  have h9 := lw_td lw_k9 h10
  have h8 := lw_td lw_k8 h9
  have h7 := lw_td lw_k7 h8
  have h6 := lw_td lw_k6 h7
  have h5 := lw_td lw_k5 h6
  have h4 := lw_td lw_k4 h5
  have h3 := lw_td lw_k3 h4
  have h2 := lw_td lw_k2 h3
  have h1 := lw_td lw_k1 h2
  have h0 := lw_td lw_k0 h1
  exact h0
theorem lw_ck : ck_s 588 = true ∧ ck_r 588 = true ∧ ck_c 588 = true ∧ ck_n 588 = true := by
  have h := List.all_eq_true.mp lw_k
  simp only [Bool.and_eq_true] at h
  exact ⟨List.all_eq_true.mpr fun q hq => (h q hq).1.1.1, List.all_eq_true.mpr fun q hq => (h q hq).1.1.2, List.all_eq_true.mpr fun q hq => (h q hq).1.2, List.all_eq_true.mpr fun q hq => (h q hq).2⟩
