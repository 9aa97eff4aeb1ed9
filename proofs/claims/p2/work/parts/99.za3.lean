/-! frames; written by wip/p55/gen/vg -/

/-! frames -/
def cfr (f_ fc0_ fc_ : Nat) (E_ : gE) (O_ : gO) (fr_ : Nat → Int) : Prop := (∀ s_, s_ < 40 → rwv fr_ (8 * (40 * f_ + s_)) (E_ s_) ∧ (E_ s_).length ≤ 8) ∧ ∃ P_ : Nat → Nat, ∀ a_, a_ < 40 → ∀ o_, O_ a_ = some o_ → fr_ (8 * (40 * f_ + a_)) = (P_ a_ : Int) ∧ (fc0_ ≤ P_ a_ ∧ P_ a_ < fc_) ∧ (∀ a1_, a1_ < 40 → a1_ ≠ a_ → O_ a1_ ≠ none → P_ a1_ ≠ P_ a_) ∧ ∀ o1_, o1_ < 40 → rwv fr_ (8 * (40 * P_ a_ + o1_)) (o_ o1_) ∧ (o_ o1_).length ≤ 8
theorem rwv_cp {g_ h_ : Nat → Int} {p_ q_ : Nat} {v_ : List Int} (hv_ : rwv g_ p_ v_) (hl_ : v_.length ≤ 8) : rwv (sm_cp g_ h_ p_ q_ 8) q_ v_ := by
  intro k_ z_ e_
  have hk_ : k_ < v_.length := by
    by_cases w_ : k_ < v_.length
    · exact w_
    · rw [List.getElem?_eq_none (by omega)] at e_; cases e_
  show (if q_ ≤ q_ + k_ ∧ q_ + k_ < q_ + 8 then g_ (p_ + (q_ + k_ - q_)) else h_ (q_ + k_)) = z_
  rw [if_pos (by omega), show q_ + k_ - q_ = k_ by omega]
  exact hv_ k_ z_ e_
theorem sm_cp_o {g_ h_ : Nat → Int} {p_ q_ n_ j_ : Nat} (hj_ : j_ < q_ ∨ q_ + n_ ≤ j_) : sm_cp g_ h_ p_ q_ n_ j_ = h_ j_ := by
  show (if q_ ≤ j_ ∧ j_ < q_ + n_ then _ else _) = _
  rw [if_neg (by omega)]
theorem cfr_st {f_ fc0_ fc_ a_ : Nat} {E_ : gE} {O_ : gO} {fr_ fr'_ : Nat → Int} {v_ : List Int} (h_ : cfr f_ fc0_ fc_ E_ O_ fr_) (hf_ : f_ < fc0_) (ha_ : a_ < 40) (hO_ : O_ a_ = none) (hv_ : v_.length ≤ 8) (h1_ : rwv fr'_ (8 * (40 * f_ + a_)) v_) (h2_ : ∀ j_, j_ < 8 * (40 * f_ + a_) ∨ 8 * (40 * f_ + a_) + 8 ≤ j_ → fr'_ j_ = fr_ j_) : cfr f_ fc0_ fc_ (up1 E_ a_ v_) O_ fr'_ := by
  obtain ⟨x1_, P_, x2_⟩ := h_
  refine ⟨fun s_ hs_ => ?_, P_, fun a1_ ha1_ o_ ho_ => ?_⟩
  · unfold up1
    by_cases e_ : s_ = a_
    · rw [if_pos e_, e_]
      exact ⟨h1_, hv_⟩
    · rw [if_neg e_]
      have q_ := x1_ s_ hs_
      exact ⟨rwv_cg q_.1 (fun k_ hk_ => h2_ _ (by omega)), q_.2⟩
  · have q_ := x2_ a1_ ha1_ o_ ho_
    have e_ : a1_ ≠ a_ := fun e_ => by rw [e_, hO_] at ho_; cases ho_
    refine ⟨by rw [h2_ _ (by omega)]; exact q_.1, q_.2.1, q_.2.2.1, fun o1_ ho1_ => ?_⟩
    have w_ := q_.2.2.2 o1_ ho1_
    have := q_.2.1
    exact ⟨rwv_cg w_.1 (fun k_ hk_ => h2_ _ (by omega)), w_.2⟩
theorem cfr_bg {f_ fc0_ fc_ a_ : Nat} {E_ : gE} {O_ : gO} {fr_ fr'_ : Nat → Int} (h_ : cfr f_ fc0_ fc_ E_ O_ fr_) (hf_ : f_ < fc0_) (hc_ : fc0_ ≤ fc_) (ha_ : a_ < 40) (hE_ : E_ a_ = []) (hO_ : O_ a_ = none) (h2_ : ∀ j_, fr'_ j_ = if j_ = 8 * (40 * f_ + a_) then (fc_ : Int) else fr_ j_) : cfr f_ fc0_ (fc_ + 1) E_ (up1 O_ a_ (some fun _ => [])) fr'_ := by
  obtain ⟨x1_, P_, x2_⟩ := h_
  refine ⟨fun s_ hs_ => ?_, up1 P_ a_ fc_, fun a1_ ha1_ o_ ho_ => ?_⟩
  · have q_ := x1_ s_ hs_
    by_cases e_ : s_ = a_
    · rw [e_, hE_]
      exact ⟨fun k_ z_ w_ => by simp at w_, by simp⟩
    · exact ⟨rwv_cg q_.1 (fun k_ hk_ => by rw [h2_, if_neg (by omega)]), q_.2⟩
  · unfold up1 at ho_ ⊢
    by_cases e_ : a1_ = a_
    · rw [if_pos e_] at ho_
      cases ho_
      rw [if_pos e_, h2_, if_pos (by rw [e_])]
      refine ⟨rfl, by omega, fun a2_ ha2_ e2_ w_ => ?_, fun o1_ ho1_ => ⟨fun k_ z_ w_ => by simp at w_, by simp⟩⟩
      rw [if_neg (by omega)] at w_ ⊢
      obtain ⟨o2_, w2_⟩ : ∃ o2_, O_ a2_ = some o2_ := by
        cases z_ : O_ a2_ with
        | none => exact absurd z_ w_
        | some o2_ => exact ⟨o2_, rfl⟩
      have := (x2_ a2_ ha2_ o2_ w2_).2.1
      omega
    · rw [if_neg e_] at ho_
      have q_ := x2_ a1_ ha1_ o_ ho_
      rw [if_neg e_, h2_, if_neg (by omega)]
      have q1_ := q_.2.1
      refine ⟨q_.1, by omega, fun a2_ ha2_ e2_ w_ => ?_, fun o1_ ho1_ => ?_⟩
      · by_cases e3_ : a2_ = a_
        · rw [if_pos e3_]; omega
        · rw [if_neg e3_] at w_ ⊢
          exact q_.2.2.1 a2_ ha2_ e2_ w_
      · have w_ := q_.2.2.2 o1_ ho1_
        exact ⟨rwv_cg w_.1 (fun k_ hk_ => by rw [h2_, if_neg (by omega)]), w_.2⟩
/-- an_ argument: into the_ frame that is_ begun -/
theorem cfr_ag {f_ fc0_ fc_ a_ d_ p_ : Nat} {E_ : gE} {O_ : gO} {o_ : Nat → List Int} {fr_ fr'_ : Nat → Int} {v_ : List Int} (h_ : cfr f_ fc0_ fc_ E_ O_ fr_) (hf_ : f_ < fc0_) (ha_ : a_ < 40) (hO_ : O_ a_ = some o_) (hd_ : d_ < 40) (hv_ : v_.length ≤ 8) (hp_ : fr_ (8 * (40 * f_ + a_)) = (p_ : Int)) (h1_ : rwv fr'_ (8 * (40 * p_ + d_)) v_) (h2_ : ∀ j_, j_ < 8 * (40 * p_ + d_) ∨ 8 * (40 * p_ + d_) + 8 ≤ j_ → fr'_ j_ = fr_ j_) : cfr f_ fc0_ fc_ E_ (up1 O_ a_ (some (up1 o_ d_ v_))) fr'_ := by
  obtain ⟨x1_, P_, x2_⟩ := h_
  have y_ := x2_ a_ ha_ o_ hO_
  have py_ : p_ = P_ a_ := by have := y_.1; omega
  subst py_
  have y1_ := y_.2.1
  refine ⟨fun s_ hs_ => ?_, P_, fun a1_ ha1_ o1_ ho1_ => ?_⟩
  · have q_ := x1_ s_ hs_
    exact ⟨rwv_cg q_.1 (fun k_ hk_ => h2_ _ (by omega)), q_.2⟩
  · have hx_ : ∀ a2_, up1 O_ a_ (some (up1 o_ d_ v_)) a2_ ≠ none → O_ a2_ ≠ none := by
      intro a2_ w_
      unfold up1 at w_
      by_cases e_ : a2_ = a_
      · rw [e_, hO_]; exact fun z_ => by cases z_
      · rw [if_neg e_] at w_; exact w_
    by_cases e_ : a1_ = a_
    · have q0_ : o1_ = up1 o_ d_ v_ := by
        unfold up1 at ho1_
        rw [if_pos e_] at ho1_
        exact (Option.some.inj ho1_).symm
      rw [e_, q0_]
      refine ⟨by rw [h2_ _ (by omega)]; exact y_.1, y1_, fun a2_ ha2_ e2_ w_ => y_.2.2.1 a2_ ha2_ e2_ (hx_ a2_ w_), fun o2_ ho2_ => ?_⟩
      unfold up1
      by_cases e3_ : o2_ = d_
      · rw [if_pos e3_, e3_]
        exact ⟨h1_, hv_⟩
      · rw [if_neg e3_]
        have w_ := y_.2.2.2 o2_ ho2_
        exact ⟨rwv_cg w_.1 (fun k_ hk_ => h2_ _ (by omega)), w_.2⟩
    · have q0_ : O_ a1_ = some o1_ := by
        unfold up1 at ho1_
        rw [if_neg e_] at ho1_
        exact ho1_
      have q_ := x2_ a1_ ha1_ o1_ q0_
      have q1_ := q_.2.1
      have ne_ := q_.2.2.1 a_ ha_ (fun z_ => e_ z_.symm) (by rw [hO_]; exact fun z_ => by cases z_)
      refine ⟨by rw [h2_ _ (by omega)]; exact q_.1, q_.2.1, fun a2_ ha2_ e2_ w_ => q_.2.2.1 a2_ ha2_ e2_ (hx_ a2_ w_), fun o2_ ho2_ => ?_⟩
      have w_ := q_.2.2.2 o2_ ho2_
      exact ⟨rwv_cg w_.1 (fun k_ hk_ => h2_ _ (by omega)), w_.2⟩
/-- a_ call: the_ frame that was_ begun holds all_ names -/
theorem cfr_cl {f_ fc0_ fc_ fc1_ a_ p_ : Nat} {E_ e1_ : gE} {O_ : gO} {o_ : Nat → List Int} {fr_ fr'_ : Nat → Int} (h_ : cfr f_ fc0_ fc_ E_ O_ fr_) (hf_ : f_ < fc0_) (ha_ : a_ < 40) (hO_ : O_ a_ = some o_) (hp_ : fr_ (8 * (40 * f_ + a_)) = (p_ : Int)) (hc_ : fc_ ≤ fc1_) (h1_ : ∀ s_, s_ < 40 → rwv fr'_ (8 * (40 * p_ + s_)) (e1_ s_) ∧ (e1_ s_).length ≤ 8) (h2_ : ∀ j_, j_ < 8 * (40 * fc_) → j_ < 8 * (40 * p_) ∨ 8 * (40 * p_) + 320 ≤ j_ → fr'_ j_ = fr_ j_) (hf2_ : fc0_ ≤ fc_) : cfr f_ fc0_ fc1_ E_ (up1 O_ a_ (some e1_)) fr'_ := by
  obtain ⟨x1_, P_, x2_⟩ := h_
  have y_ := x2_ a_ ha_ o_ hO_
  have py_ : p_ = P_ a_ := by have := y_.1; omega
  subst py_
  have y1_ := y_.2.1
  refine ⟨fun s_ hs_ => ?_, P_, fun a1_ ha1_ o1_ ho1_ => ?_⟩
  · have q_ := x1_ s_ hs_
    exact ⟨rwv_cg q_.1 (fun k_ hk_ => h2_ _ (by omega) (by omega)), q_.2⟩
  · have hx_ : ∀ a2_, up1 O_ a_ (some e1_) a2_ ≠ none → O_ a2_ ≠ none := by
      intro a2_ w_
      unfold up1 at w_
      by_cases e_ : a2_ = a_
      · rw [e_, hO_]; exact fun z_ => by cases z_
      · rw [if_neg e_] at w_; exact w_
    by_cases e_ : a1_ = a_
    · have q0_ : o1_ = e1_ := by
        unfold up1 at ho1_
        rw [if_pos e_] at ho1_
        exact (Option.some.inj ho1_).symm
      rw [e_, q0_]
      exact ⟨by rw [h2_ _ (by omega) (by omega)]; exact y_.1, by omega, fun a2_ ha2_ e2_ w_ => y_.2.2.1 a2_ ha2_ e2_ (hx_ a2_ w_), fun o2_ ho2_ => h1_ o2_ ho2_⟩
    · have q0_ : O_ a1_ = some o1_ := by
        unfold up1 at ho1_
        rw [if_neg e_] at ho1_
        exact ho1_
      have q_ := x2_ a1_ ha1_ o1_ q0_
      have q1_ := q_.2.1
      have ne_ := q_.2.2.1 a_ ha_ (fun z_ => e_ z_.symm) (by rw [hO_]; exact fun z_ => by cases z_)
      refine ⟨by rw [h2_ _ (by omega) (by omega)]; exact q_.1, by omega, fun a2_ ha2_ e2_ w_ => q_.2.2.1 a2_ ha2_ e2_ (hx_ a2_ w_), fun o2_ ho2_ => ?_⟩
      have w_ := q_.2.2.2 o2_ ho2_
      exact ⟨rwv_cg w_.1 (fun k_ hk_ => h2_ _ (by omega) (by omega)), w_.2⟩
theorem c_bt_s {j_ : Nat} {d_ : Int} : c_bt (j_ + 1) d_ = c_bt j_ d_ ++ [i_shr d_ (j_ : Int) % 2] := by
  unfold c_bt
  rw [List.range_succ, List.map_append]
  rfl
theorem c_bt_l {j_ : Nat} {d_ : Int} : (c_bt j_ d_).length = j_ := by
  unfold c_bt
  rw [List.length_map, List.length_range]
theorem r_bt_s {I_ R_ j_ : Nat} : r_bt I_ R_ (j_ + 1) = r_bt I_ R_ j_ ++ [2 * ((1 + I_ + R_ + j_ : Nat) : Int)] := by
  unfold r_bt
  rw [List.range_succ, List.map_append]
  rfl
theorem r_bt_l {I_ R_ j_ : Nat} : (r_bt I_ R_ j_).length = j_ := by
  unfold r_bt
  rw [List.length_map, List.length_range]
theorem i_o63 : ∀ x_ y_ : Fin 64, 0 ≤ i_or (x_.val : Int) (y_.val : Int) ∧ i_or (x_.val : Int) (y_.val : Int) ≤ 63 := by decide +kernel
theorem i_orb {x_ y_ : Int} (hx_ : 0 ≤ x_ ∧ x_ ≤ 63) (hy_ : 0 ≤ y_ ∧ y_ ≤ 63) : 0 ≤ i_or x_ y_ ∧ i_or x_ y_ ≤ 63 := by
  have k_ := i_o63 ⟨x_.toNat, by omega⟩ ⟨y_.toNat, by omega⟩
  rw [show ((⟨x_.toNat, by omega⟩ : Fin 64).val : Int) = x_ from Int.toNat_of_nonneg hx_.1, show ((⟨y_.toNat, by omega⟩ : Fin 64).val : Int) = y_ from Int.toNat_of_nonneg hy_.1] at k_
  exact k_
theorem i_s63 : ∀ (x_ : Fin 2) (y_ : Fin 6), 0 ≤ i_shl (x_.val : Int) (y_.val : Int) ∧ i_shl (x_.val : Int) (y_.val : Int) ≤ 63 := by decide +kernel
theorem i_shb {x_ y_ : Int} (hx_ : 0 ≤ x_ ∧ x_ ≤ 1) (hy_ : 0 ≤ y_ ∧ y_ ≤ 5) : 0 ≤ i_shl x_ y_ ∧ i_shl x_ y_ ≤ 63 := by
  have k_ := i_s63 ⟨x_.toNat, by omega⟩ ⟨y_.toNat, by omega⟩
  rw [show ((⟨x_.toNat, by omega⟩ : Fin 2).val : Int) = x_ from Int.toNat_of_nonneg hx_.1, show ((⟨y_.toNat, by omega⟩ : Fin 6).val : Int) = y_ from Int.toNat_of_nonneg hy_.1] at k_
  exact k_
