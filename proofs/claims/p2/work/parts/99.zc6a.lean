/-! the reference: parts of instances, second pass; written by wip/p55/gen/vg -/

/-! names, second pass -/
def ev1 (F_ I_ : Nat) (A_ : pA) (X_ : Nat → gQ → gE → Option (gQ × gE)) (m_ : Nat) (E_ : gE) (O_ : gO) (c1_ : List Int) (v_ : List Int) : Prop := ∀ (q_ : gQ) (V_ : gV) (c_ : List Int) (s0_ : gS), V_.length < 512 → ev F_ I_ A_ X_ m_ s0_ c_ = some (q_, E_, O_, V_) → ev F_ I_ A_ X_ m_ s0_ (c1_ ++ c_) = some (q_, E_, O_, v_ :: V_)
def ten (A_ : pA) (m_ K_ : Nat) (E_ : gE) (O_ : gO) : Prop := K_ ≤ A_.1 m_ ∧ ∀ s_, s_ < K_ → (A_.2.2.1 (40 * m_ + s_) ≠ 5 → ((E_ s_).length : Int) = A_.2.2.2.1 (40 * m_ + s_)) ∧ (A_.2.2.1 (40 * m_ + s_) = 5 → ∃ o_, O_ s_ = some o_ ∧ ∀ o1_, o1_ < A_.1 (A_.2.2.2.2 (40 * m_ + s_)).toNat → A_.2.2.1 (40 * (A_.2.2.2.2 (40 * m_ + s_)).toNat + o1_) ≠ 5 → ((o_ o1_).length : Int) = A_.2.2.2.1 (40 * (A_.2.2.2.2 (40 * m_ + s_)).toNat + o1_))
def rev (fr_ K_ : Nat) (E_ : gE) (O_ : gO) (ok_ : Prop) (S_ : sm_S) : Prop := ok_ → (∀ s_, s_ < 40 → rwv (S_.2.2.1 144 0) (8 * (40 * fr_ + s_)) (E_ s_)) ∧ ∀ s_ o_, s_ < K_ → O_ s_ = some o_ → ∀ o1_, o1_ < 40 → rwv (S_.2.2.1 145 0) (8 * (40 * (40 * fr_ + s_) + o1_)) (o_ o1_)
theorem rev_fr {w_ : sx_Wl} {fr_ K_ : Nat} {E_ : gE} {O_ : gO} {ok_ : Prop} {S_ S'_ : sm_S} (h_ : rev fr_ K_ E_ O_ ok_ S_) (g_ : ai_fr (sx_W w_) S_ S'_) (h0_ : (sx_W w_).2.1 144 = false) (h1_ : (sx_W w_).2.1 145 = false) : rev fr_ K_ E_ O_ ok_ S'_ := by
  unfold rev at h_ ⊢
  rw [fr_arr g_ h0_, fr_arr g_ h1_]
  exact h_
section EV1_
variable {F_ I_ m_ : Nat} {A_ : pA} {X_ : Nat → gQ → gE → Option (gQ × gE)} {E_ : gE} {O_ : gO}
theorem ev1_cn {a_ d_ : Int} (ha_ : 1 ≤ a_ ∧ a_ ≤ 8) (hd_ : 0 ≤ d_) : ev1 F_ I_ A_ X_ m_ E_ O_ [cw 8 a_ d_] (c_bt a_.toNat d_) := fun _ _ _ _ hV_ h_ => ev_cn h_ hV_ ha_ hd_
theorem ev1_ld {a_ : Int} (ha_ : 0 ≤ a_ ∧ a_ < A_.1 m_) (hm_ : A_.1 m_ ≤ 40) (hl_ : 1 ≤ (E_ a_.toNat).length ∧ (E_ a_.toNat).length ≤ 8) (hw_ : ((E_ a_.toNat).length : Int) = A_.2.2.2.1 (40 * m_ + a_.toNat)) : ev1 F_ I_ A_ X_ m_ E_ O_ [cw 9 a_ 0] (E_ a_.toNat) := fun _ _ _ _ hV_ h_ => ev_ld h_ hV_ ha_ hm_ hl_ hw_
theorem ev1_pt {a_ d_ : Int} {o_ : Nat → List Int} (ha_ : 0 ≤ a_ ∧ a_ < A_.1 m_) (hm_ : A_.1 m_ ≤ 40) (hO_ : O_ a_.toNat = some o_) (hd_ : 0 ≤ d_ ∧ d_ < A_.1 (A_.2.2.2.2 (40 * m_ + a_.toNat)).toNat) (h5_ : 0 ≤ A_.2.2.2.2 (40 * m_ + a_.toNat) ∧ A_.2.2.2.2 (40 * m_ + a_.toNat) < m_) (hl_ : 1 ≤ (o_ d_.toNat).length ∧ (o_ d_.toNat).length ≤ 8) (hw_ : ((o_ d_.toNat).length : Int) = A_.2.2.2.1 (40 * (A_.2.2.2.2 (40 * m_ + a_.toNat)).toNat + d_.toNat)) : ev1 F_ I_ A_ X_ m_ E_ O_ [cw 10 a_ d_] (o_ d_.toNat) := fun _ _ _ _ hV_ h_ => ev_pt h_ hV_ ha_ hm_ hO_ hd_ h5_ hl_ hw_
theorem ev1_bi {k_ : Int} {c_ : List Int} {v_ : List Int} (h_ : ev1 F_ I_ A_ X_ m_ E_ O_ c_ v_) (hk_ : 0 ≤ k_ ∧ k_ < v_.length) (h8_ : v_.length ≤ 8) : ev1 F_ I_ A_ X_ m_ E_ O_ (cw 11 k_ 0 :: c_) [v_.getD k_.toNat 0] := fun q_ V_ c1_ s0_ hV_ h1_ => ev_bi (h_ q_ V_ c1_ s0_ hV_ h1_) hk_ h8_
end EV1_
/-- row_ gl_ holds v_, the_ other rows are_ as_ they were -/
def rowv (gl_ : Nat) (v_ : List Int) (ok_ : Prop) (S0_ S1_ : sm_S) : Prop := (∀ j_, S1_.2.2.1 138 0 j_ = if j_ = gl_ then (v_.length : Int) else S0_.2.2.1 138 0 j_) ∧ (ok_ → rwv (S1_.2.2.1 139 0) (8 * gl_) v_) ∧ (∀ j_, j_ < 8 * gl_ ∨ 8 * gl_ + 8 ≤ j_ → S1_.2.2.1 139 0 j_ = S0_.2.2.1 139 0 j_)
theorem rowv_of {gl_ : Nat} {v_ : List Int} {f_ : Nat → Int} {w_ : Int} {ok_ : Prop} {S0_ S1_ : sm_S} (h_ : rowat gl_ w_ f_ S0_ S1_) (hw_ : w_ = (v_.length : Int)) (h8_ : v_.length ≤ 8) (hf_ : ok_ → ∀ (k_ : Nat) (z_ : Int), v_[k_]? = some z_ → f_ k_ = z_) : rowv gl_ v_ ok_ S0_ S1_ := by
  refine ⟨fun j_ => by rw [h_.1, hw_], fun z_ k_ x_ e_ => ?_, h_.2.2⟩
  have hk_ : k_ < v_.length := by
    by_cases w_ : k_ < v_.length
    · exact w_
    · rw [List.getElem?_eq_none (by omega)] at e_; cases e_
  rw [h_.2.1 k_ (by omega)]
  exact hf_ z_ k_ x_ e_
theorem rowv_bi {gl_ k_ : Nat} {v_ : List Int} {ok_ : Prop} {S0_ S1_ S2_ : sm_S} (h_ : rowv gl_ v_ ok_ S0_ S1_) (hk_ : k_ < v_.length) (h8_ : v_.length ≤ 8) (e1_ : ∀ j_, S2_.2.2.1 138 0 j_ = if j_ = gl_ then 1 else S1_.2.2.1 138 0 j_) (e2_ : ∀ j_, S2_.2.2.1 139 0 j_ = if j_ = 8 * gl_ then S1_.2.2.1 139 0 (8 * gl_ + k_) else S1_.2.2.1 139 0 j_) : rowv gl_ [v_.getD k_ 0] ok_ S0_ S2_ := by
  refine ⟨fun j_ => ?_, fun z_ k1_ x_ e_ => ?_, fun j_ hj_ => ?_⟩
  · rw [e1_, h_.1]
    by_cases q_ : j_ = gl_
    · rw [if_pos q_, if_pos q_]; rfl
    · rw [if_neg q_, if_neg q_, if_neg q_]
  · have k0_ : k1_ = 0 := by
      cases k1_ with
      | zero => rfl
      | succ k1_ => simp at e_
    subst k0_
    rw [e2_, if_pos (by omega), rwv_g (h_.2.1 z_) hk_]
    exact Option.some.inj e_
  · rw [e2_, if_neg (by omega)]
    exact h_.2.2 j_ hj_
theorem pa_r {b_ : Nat → Int} {n_ d_ p_ : Nat} {A_ : pA} {s_ : Int} {r_ : Nat × Int × List Int} (hr_ : p_pa b_ n_ A_ s_ d_ p_ = .inr r_) : ∃ o9_ q_ : Nat, p_fn b_ n_ A_ d_ p_ = (o9_ : Int) ∧ o9_ < A_.1 d_ ∧ A_.2.2.1 (40 * d_ + o9_) = 1 ∧ p_ad b_ n_ p_ = .inr q_ ∧ ((lx_kd b_ n_ q_ ≠ 46 ∧ r_ = (q_, A_.2.2.2.1 (40 * d_ + o9_), [cw 10 s_ (o9_ : Int)])) ∨ (lx_kd b_ n_ q_ = 46 ∧ ∃ q2_ u_, p_ad b_ n_ q_ = .inr q2_ ∧ p_bp b_ n_ (A_.2.2.2.1 (40 * d_ + o9_)) q2_ = .inr u_ ∧ r_ = (u_, 1, [cw 11 (lx_vl b_ n_ q2_) 0, cw 10 s_ (o9_ : Int)]))) := by
  unfold p_pa at hr_
  by_cases h_ : p_fn b_ n_ A_ d_ p_ = -1 ∨ A_.2.2.1 (40 * d_ + (p_fn b_ n_ A_ d_ p_).toNat) ≠ 1
  · rw [if_pos h_] at hr_
    cases hr_
  · rw [if_neg h_] at hr_
    have hf_ : p_fn b_ n_ A_ d_ p_ ≠ -1 := fun z_ => h_ (Or.inl z_)
    obtain ⟨o9_, q1_, q2_, q3_, -⟩ := p_fn_b (b_ := b_) (n_ := n_) (A_ := A_) (m_ := d_) (p_ := p_) hf_
    have hs_ : A_.2.2.1 (40 * d_ + o9_) = 1 := by
      by_cases z_ : A_.2.2.1 (40 * d_ + o9_) = 1
      · exact z_
      · exact absurd (Or.inr (by rw [q3_]; exact z_)) h_
    obtain ⟨q_, h1_, h2_⟩ := pb_inr hr_
    rw [q3_, q1_] at h2_
    refine ⟨o9_, q_, q1_, q2_, hs_, h1_, ?_⟩
    split at h2_
    · rename_i g_
      obtain ⟨u_, h3_, h4_⟩ := pb_inr h2_
      rw [bp_bi] at h4_
      obtain ⟨v_, h5_, h6_⟩ := pb_inr h4_
      cases h6_
      exact Or.inr ⟨g_, u_, v_, h3_, h5_, rfl⟩
    · rename_i g_
      cases h2_
      exact Or.inl ⟨g_, rfl⟩
/-! M_.ofInstance -/
def vw_326g : sx_Wl := ([(13, 9), (13, 10), (13, 11)], [138, 139], [])
def vq_326g (s_ : Int) (b_ : Nat → Int) (n_ : Nat) (T_ : Nat) (p_ : Nat) (gl_ : Nat) (F_ : Nat) (I_ : Nat) (A_ : pA) (X_ : Nat → gQ → gE → Option (gQ × gE)) (M_ : Nat) (K_ : Nat) (fr_ : Nat) (E_ : gE) (O_ : gO) (ok_ : Prop) (r_ : Nat × Int × List Int) (s9_ : Nat) (S0_ : sm_S) (u_ : Option sm_V) (S1_ : sm_S) : Prop := u_ = none ∧ gi S1_ ∧ ai_fr (sx_W vw_326g) S0_ S1_ ∧ (∃ v9_, ev1 F_ I_ A_ X_ M_ E_ O_ r_.2.2 v9_ ∧ (v9_.length : Int) = r_.2.1 ∧ (1 ≤ v9_.length ∧ v9_.length ≤ 8) ∧ rg b_ n_ T_ (.inr r_.1) S1_ ∧ rowv gl_ v9_ ok_ S0_ S1_)
set_option maxHeartbeats 1500000 in
theorem vc_326g {sc_ : Nat × (Nat → Int)} (s_ : Int) (b_ : Nat → Int) (n_ : Nat) (T_ : Nat) (p_ : Nat) (gl_ : Nat) (F_ : Nat) (I_ : Nat) (A_ : pA) (X_ : Nat → gQ → gE → Option (gQ × gE)) (M_ : Nat) (K_ : Nat) (fr_ : Nat) (E_ : gE) (O_ : gO) (ok_ : Prop) (r_ : Nat × Int × List Int) (s9_ : Nat) (S0_ : sm_S) (hI_ : gi S0_) (ht_ : rtab b_ n_ T_ S0_) (hx_ : rg b_ n_ T_ (.inr p_) S0_) (hv_ : (S0_.1 13 0 34) = (gl_ : Int) ∧ gl_ ≤ 1000) (hmo_ : (S0_.1 13 0 27) = 1) (hk_ : lx_kd b_ n_ p_ = 1) (hA_ : a_ok b_ n_ A_ M_) (hmd_ : (S0_.1 13 0 28) = (M_ : Int)) (hfr_ : (S0_.1 13 0 29) = (fr_ : Int) ∧ fr_ ≤ 15) (hre_ : ∀ m_, m_ ≤ M_ → re1 b_ n_ T_ A_ m_ S0_) (hte_ : ten A_ M_ K_ E_ O_) (hev_ : rev fr_ K_ E_ O_ ok_ S0_) (hs9_ : s_ = (s9_ : Int) ∧ s9_ < K_) (h5_ : A_.2.2.1 (40 * M_ + s9_) = 5) (hpa_ : p_pa b_ n_ A_ s_ (A_.2.2.2.2 (40 * M_ + s9_)).toNat p_ = .inr r_) : sm_T (mt_P sc_) 4 326 (0, [some (.inr (.inr (some (13, 0)))), some (.inl s_), none, none, none], [], S0_) (fun ro9_ => ∃ u_ S1_, ro9_ = (.inl u_, S1_, 0) ∧ vq_326g s_ b_ n_ T_ p_ gl_ F_ I_ A_ X_ M_ K_ fr_ E_ O_ ok_ r_ s9_ S0_ u_ S1_) := by
  have hF_ : ai_fr (sx_W vw_326g) S0_ S0_ := ai_fr_rf
  obtain ⟨i_, hi_⟩ := id hx_.2
  have hi9_ := hi_.2.1
  have hT_ := ht_.2.1
  have hf_ := hx_.1
  have rt1_ := rp_rtk ht_ hi_.2 hk_
  have hM1_ := hA_.1
  have aM_ := hA_.2 M_ (Nat.le_refl _)
  have aM1_ := aM_.1
  have sA_ := Nat.lt_of_lt_of_le hs9_.2 hte_.1
  have d5_ := (aM_.2 s9_ sA_).2.2.2.2.1 h5_
  have e13_ : S0_.2.2.1 130 0 (40 * (S0_.1 13 0 28) + s_).toNat = A_.2.2.2.2 (40 * M_ + s9_) := by rw [show (40 * (S0_.1 13 0 28) + s_).toNat = 40 * M_ + s9_ by omega]; exact ((hre_ M_ (Nat.le_refl _)).2 s9_ sA_).2.2.2.1
  obtain ⟨o9_, q_, pq1_, pq2_, pq3_, pq4_, pq5_⟩ := pa_r hpa_
  obtain ⟨o_, hO_, hOl_⟩ := ((hte_.2 s9_ hs9_.2).2 h5_)
  have lo1_ := hOl_ o9_ pq2_ (by rw [pq3_]; decide)
  have aoD_ := (hA_.2 (A_.2.2.2.2 (40 * M_ + s9_)).toNat (by omega)).2 o9_ pq2_
  have wD_ := aoD_.2.2.1
  have wD1_ := aoD_.2.2.2.1 (by rw [pq3_]; decide)
  have e1o : ev1 F_ I_ A_ X_ M_ E_ O_ [cw 10 s_ (o9_ : Int)] (o_ o9_) := by have q9_ := ev1_pt (F_ := F_) (I_ := I_) (X_ := X_) (E_ := E_) (a_ := s_) (d_ := (o9_ : Int)) (o_ := o_) (m_ := M_) (A_ := A_) (O_ := O_) (by omega) aM1_ (by rw [hs9_.1, Int.toNat_natCast]; exact hO_) (by rw [hs9_.1, Int.toNat_natCast]; omega) (by rw [hs9_.1, Int.toNat_natCast]; exact d5_) (by rw [Int.toNat_natCast]; omega) (by rw [hs9_.1, Int.toNat_natCast, Int.toNat_natCast]; exact lo1_); rw [Int.toNat_natCast] at q9_; exact q9_
  have bx1_ : 0 ≤ S0_.1 13 0 28 ∧ S0_.1 13 0 28 ≤ 15 := hI_.1 13 0 28 rfl
  refine sm_T_go 5 (c1 := (10, [some (.inr (.inr (some (13, 0)))), some (.inl s_), none, none, none], [.inl (S0_.1 13 0 28), .inl 40, .inr (.inr (some (130, 0)))], S0_)) rfl ?_
  refine sm_T_bin (w := 40 * (S0_.1 13 0 28)) rfl (bi_mul (by omega) (by omega) (by omega)) ?_
  refine sm_T_go 1 (c1 := (12, [some (.inr (.inr (some (13, 0)))), some (.inl s_), none, none, none], [.inl s_, .inl (40 * (S0_.1 13 0 28)), .inr (.inr (some (130, 0)))], S0_)) rfl ?_
  refine sm_T_bin (w := 40 * (S0_.1 13 0 28) + s_) rfl (bi_add (by omega) (by omega) (by omega)) ?_
  refine sm_T_iald (n := 640) rfl rfl (by omega) (by omega) ?_
  have bx2_ : 0 ≤ S0_.2.2.1 130 0 (40 * (S0_.1 13 0 28) + s_).toNat ∧ S0_.2.2.1 130 0 (40 * (S0_.1 13 0 28) + s_).toNat ≤ 2147483647 := hI_.2 130 0 _
  have bx3_ : 0 ≤ S0_.1 13 0 9 ∧ S0_.1 13 0 9 ≤ 1280 := hI_.1 13 0 9 rfl
  refine sm_T_go 5 (c1 := (21, [some (.inr (.inr (some (13, 0)))), some (.inl s_), some (.inl (S0_.2.2.1 130 0 (40 * (S0_.1 13 0 28) + s_).toNat)), none, none], [.inl (S0_.1 13 0 9), .inl (S0_.2.2.1 130 0 (40 * (S0_.1 13 0 28) + s_).toNat), .inr (.inr (some (13, 0)))], S0_)) rfl ?_
  refine sm_T_cal (d1 := 1) (Q1 := vq_302 (S0_.2.2.1 130 0 (40 * (S0_.1 13 0 28) + s_).toNat) (S0_.1 13 0 9) b_ n_ T_ A_ (A_.2.2.2.2 (40 * M_ + s9_)).toNat p_ S0_) rfl rfl (by decide) (vc_302 (S0_.2.2.1 130 0 (40 * (S0_.1 13 0 28) + s_).toNat) (S0_.1 13 0 9) b_ n_ T_ A_ (A_.2.2.2.2 (40 * M_ + s9_)).toNat p_ S0_ hI_ (by exact ht_) (by exact ⟨by rw [e13_]; omega, by omega⟩) (by exact hre_ _ (by omega)) (by exact (hA_.2 _ (by omega)).1) (by rw [hi_.1]; exact rt1_.1)) (fun u_ Sx4_ px7_ => ?_)
  obtain ⟨rfl, vx9_, rfl, px7_⟩ := px7_
  have e21_ := px7_.trans pq1_
  have oix_ : (40 * S0_.2.2.1 130 0 (40 * (S0_.1 13 0 28) + s_).toNat + vx9_).toNat = 40 * (A_.2.2.2.2 (40 * M_ + s9_)).toNat + o9_ := by rw [e21_, e13_]; omega
  have ro_ := (hre_ (A_.2.2.2.2 (40 * M_ + s9_)).toNat (by omega)).2 o9_ pq2_
  have ao_ := (hA_.2 (A_.2.2.2.2 (40 * M_ + s9_)).toNat (by omega)).2 o9_ pq2_
  have so9_ := (congrArg (S0_.2.2.1 128 0) oix_).trans ro_.2.1
  rw [pq3_, show r_s2 1 = 2 from rfl] at so9_
  have wb_ := ao_.2.2.1
  have w1_ := ao_.2.2.2.1 (by rw [pq3_]; decide)
  have hA9_ := (hA_.2 (A_.2.2.2.2 (40 * M_ + s9_)).toNat (by omega)).1
  refine sm_T_go 3 (c1 := (27, [some (.inr (.inr (some (13, 0)))), some (.inl s_), some (.inl (S0_.2.2.1 130 0 (40 * (S0_.1 13 0 28) + s_).toNat)), some (.inl vx9_), none], [.inl (-1), .inl vx9_], S0_)) rfl ?_
  refine sm_T_br (a := 0) (z := 18) rfl (fun cx10_ => ?_) (fun cx10_ => ?_)
  · have cx10_ : vx9_ = (-1) := of_decide_eq_true cx10_
    exfalso; omega
  · have cx10_ : ¬ (vx9_ = (-1)) := of_decide_eq_false cx10_
    refine sm_T_go 4 (c1 := (37, [some (.inr (.inr (some (13, 0)))), some (.inl s_), some (.inl (S0_.2.2.1 130 0 (40 * (S0_.1 13 0 28) + s_).toNat)), some (.inl vx9_), none], [.inl (S0_.2.2.1 130 0 (40 * (S0_.1 13 0 28) + s_).toNat), .inl 40, .inr (.inr (some (128, 0)))], S0_)) rfl ?_
    refine sm_T_bin (w := 40 * (S0_.2.2.1 130 0 (40 * (S0_.1 13 0 28) + s_).toNat)) rfl (bi_mul (by omega) (by omega) (by omega)) ?_
    refine sm_T_go 1 (c1 := (39, [some (.inr (.inr (some (13, 0)))), some (.inl s_), some (.inl (S0_.2.2.1 130 0 (40 * (S0_.1 13 0 28) + s_).toNat)), some (.inl vx9_), none], [.inl vx9_, .inl (40 * (S0_.2.2.1 130 0 (40 * (S0_.1 13 0 28) + s_).toNat)), .inr (.inr (some (128, 0)))], S0_)) rfl ?_
    refine sm_T_bin (w := 40 * (S0_.2.2.1 130 0 (40 * (S0_.1 13 0 28) + s_).toNat) + vx9_) rfl (bi_add (by omega) (by omega) (by omega)) ?_
    refine sm_T_iald (n := 640) rfl rfl (by omega) (by omega) ?_
    have bx11_ : 0 ≤ S0_.2.2.1 128 0 (40 * (S0_.2.2.1 130 0 (40 * (S0_.1 13 0 28) + s_).toNat) + vx9_).toNat ∧ S0_.2.2.1 128 0 (40 * (S0_.2.2.1 130 0 (40 * (S0_.1 13 0 28) + s_).toNat) + vx9_).toNat ≤ 5 := hI_.2 128 0 _
    refine sm_T_go 1 (c1 := (42, [some (.inr (.inr (some (13, 0)))), some (.inl s_), some (.inl (S0_.2.2.1 130 0 (40 * (S0_.1 13 0 28) + s_).toNat)), some (.inl vx9_), none], [.inl 2, .inl (S0_.2.2.1 128 0 (40 * (S0_.2.2.1 130 0 (40 * (S0_.1 13 0 28) + s_).toNat) + vx9_).toNat)], S0_)) rfl ?_
    refine sm_T_br (a := 0) (z := 14) rfl (fun cx12_ => ?_) (fun cx12_ => ?_)
    · have cx12_ : (S0_.2.2.1 128 0 (40 * (S0_.2.2.1 130 0 (40 * (S0_.1 13 0 28) + s_).toNat) + vx9_).toNat) = 2 := of_decide_eq_true cx12_
      refine sm_T_go 1 (c1 := (57, [some (.inr (.inr (some (13, 0)))), some (.inl s_), some (.inl (S0_.2.2.1 130 0 (40 * (S0_.1 13 0 28) + s_).toNat)), some (.inl vx9_), none], [.inr (.inr (some (13, 0)))], S0_)) rfl ?_
      refine sm_T_cal (d1 := 2) (Q1 := vq_297 b_ n_ T_ (.inr p_) S0_) rfl rfl (by decide) (vc_297 b_ n_ T_ (.inr p_) S0_ hI_ (by exact ht_) (by exact hx_) (by (intro q9_ e_; cases e_; omega))) (fun u_ Sx13_ px16_ => ?_)
      obtain ⟨rfl, hIx14_, hFx15_, px16_⟩ := px16_
      have hFx17_ : ai_fr (sx_W vw_326g) S0_ Sx13_ := ai_fr_tr hF_ (fr_le hFx15_ rfl)
      have ex18_ : Sx13_.1 13 0 28 = S0_.1 13 0 28 := hFx15_.1 13 0 28 rfl
      have g57_ := px16_.1
      rw [pb_r rfl, pq4_] at g57_
      have t57_ := rtab_fr ht_ hFx15_ rfl rfl rfl rfl rfl
      have nw57_ := fr_arr (t := 129) (i := 0) hFx15_ rfl
      have v57_ : Sx13_.1 13 0 34 = (gl_ : Int) := (hFx17_.1 13 0 34 rfl).trans hv_.1
      have m57_ : Sx13_.1 13 0 27 = 1 := (hFx17_.1 13 0 27 rfl).trans hmo_
      have fr57_ : Sx13_.1 13 0 29 = (fr_ : Int) := (hFx17_.1 13 0 29 rfl).trans hfr_.1
      have wd57_ := (congrFun nw57_ _).trans ((congrArg (S0_.2.2.1 129 0) oix_).trans ro_.2.2.1)
      have i57_ := fr_arr (t := 145) (i := 0) hFx17_ rfl
      have lw57_ := fr_arr (t := 138) (i := 0) hFx15_ rfl
      have ll57_ := fr_arr (t := 139) (i := 0) hFx15_ rfl
      refine sm_T_go 4 (c1 := (67, [some (.inr (.inr (some (13, 0)))), some (.inl s_), some (.inl (S0_.2.2.1 130 0 (40 * (S0_.1 13 0 28) + s_).toNat)), some (.inl vx9_), none], [.inl (S0_.2.2.1 130 0 (40 * (S0_.1 13 0 28) + s_).toNat), .inl 40, .inr (.inr (some (129, 0)))], Sx13_)) rfl ?_
      refine sm_T_bin (w := 40 * (S0_.2.2.1 130 0 (40 * (S0_.1 13 0 28) + s_).toNat)) rfl (bi_mul (by omega) (by omega) (by omega)) ?_
      refine sm_T_go 1 (c1 := (69, [some (.inr (.inr (some (13, 0)))), some (.inl s_), some (.inl (S0_.2.2.1 130 0 (40 * (S0_.1 13 0 28) + s_).toNat)), some (.inl vx9_), none], [.inl vx9_, .inl (40 * (S0_.2.2.1 130 0 (40 * (S0_.1 13 0 28) + s_).toNat)), .inr (.inr (some (129, 0)))], Sx13_)) rfl ?_
      refine sm_T_bin (w := 40 * (S0_.2.2.1 130 0 (40 * (S0_.1 13 0 28) + s_).toNat) + vx9_) rfl (bi_add (by omega) (by omega) (by omega)) ?_
      refine sm_T_iald (n := 640) rfl rfl (by omega) (by omega) ?_
      have bx19_ : 0 ≤ Sx13_.2.2.1 129 0 (40 * (S0_.2.2.1 130 0 (40 * (S0_.1 13 0 28) + s_).toNat) + vx9_).toNat ∧ Sx13_.2.2.1 129 0 (40 * (S0_.2.2.1 130 0 (40 * (S0_.1 13 0 28) + s_).toNat) + vx9_).toNat ≤ 8 := hIx14_.2 129 0 _
      have bx20_ : 0 ≤ Sx13_.1 13 0 29 ∧ Sx13_.1 13 0 29 ≤ 16 := hIx14_.1 13 0 29 rfl
      refine sm_T_go 9 (c1 := (87, [some (.inr (.inr (some (13, 0)))), some (.inl s_), some (.inl (S0_.2.2.1 130 0 (40 * (S0_.1 13 0 28) + s_).toNat)), some (.inl vx9_), some (.inl (Sx13_.2.2.1 129 0 (40 * (S0_.2.2.1 130 0 (40 * (S0_.1 13 0 28) + s_).toNat) + vx9_).toNat))], [.inl (Sx13_.1 13 0 29), .inl 40, .inl 40, .inl 8, .inl 1, .inl (Sx13_.2.2.1 129 0 (40 * (S0_.2.2.1 130 0 (40 * (S0_.1 13 0 28) + s_).toNat) + vx9_).toNat), .inr (.inr (some (13, 0)))], Sx13_)) rfl ?_
      refine sm_T_bin (w := 40 * (Sx13_.1 13 0 29)) rfl (bi_mul (by omega) (by omega) (by omega)) ?_
      refine sm_T_go 1 (c1 := (89, [some (.inr (.inr (some (13, 0)))), some (.inl s_), some (.inl (S0_.2.2.1 130 0 (40 * (S0_.1 13 0 28) + s_).toNat)), some (.inl vx9_), some (.inl (Sx13_.2.2.1 129 0 (40 * (S0_.2.2.1 130 0 (40 * (S0_.1 13 0 28) + s_).toNat) + vx9_).toNat))], [.inl s_, .inl (40 * (Sx13_.1 13 0 29)), .inl 40, .inl 8, .inl 1, .inl (Sx13_.2.2.1 129 0 (40 * (S0_.2.2.1 130 0 (40 * (S0_.1 13 0 28) + s_).toNat) + vx9_).toNat), .inr (.inr (some (13, 0)))], Sx13_)) rfl ?_
      refine sm_T_bin (w := 40 * (Sx13_.1 13 0 29) + s_) rfl (bi_add (by omega) (by omega) (by omega)) ?_
      refine sm_T_bin (w := 1600 * (Sx13_.1 13 0 29) + 40 * s_) rfl (bi_mul (by omega) (by omega) (by omega)) ?_
      refine sm_T_go 1 (c1 := (92, [some (.inr (.inr (some (13, 0)))), some (.inl s_), some (.inl (S0_.2.2.1 130 0 (40 * (S0_.1 13 0 28) + s_).toNat)), some (.inl vx9_), some (.inl (Sx13_.2.2.1 129 0 (40 * (S0_.2.2.1 130 0 (40 * (S0_.1 13 0 28) + s_).toNat) + vx9_).toNat))], [.inl vx9_, .inl (1600 * (Sx13_.1 13 0 29) + 40 * s_), .inl 8, .inl 1, .inl (Sx13_.2.2.1 129 0 (40 * (S0_.2.2.1 130 0 (40 * (S0_.1 13 0 28) + s_).toNat) + vx9_).toNat), .inr (.inr (some (13, 0)))], Sx13_)) rfl ?_
      refine sm_T_bin (w := 1600 * (Sx13_.1 13 0 29) + 40 * s_ + vx9_) rfl (bi_add (by omega) (by omega) (by omega)) ?_
      refine sm_T_bin (w := 12800 * (Sx13_.1 13 0 29) + 320 * s_ + 8 * vx9_) rfl (bi_mul (by omega) (by omega) (by omega)) ?_
      refine sm_T_cal (d1 := 0) (Q1 := vq_333g (Sx13_.2.2.1 129 0 (40 * (S0_.2.2.1 130 0 (40 * (S0_.1 13 0 28) + s_).toNat) + vx9_).toNat) 1 (12800 * (Sx13_.1 13 0 29) + 320 * s_ + 8 * vx9_) gl_ Sx13_) rfl rfl (by decide) (vc_333g (Sx13_.2.2.1 129 0 (40 * (S0_.2.2.1 130 0 (40 * (S0_.1 13 0 28) + s_).toNat) + vx9_).toNat) 1 (12800 * (Sx13_.1 13 0 29) + 320 * s_ + 8 * vx9_) gl_ Sx13_ hIx14_ (by exact ⟨v57_, hv_.2⟩) (by exact m57_) (by omega) (by (right; refine ⟨rfl, ?_, ?_⟩ <;> omega))) (fun u_ Sx21_ px24_ => ?_)
      obtain ⟨rfl, hIx22_, hFx23_, px24_⟩ := px24_
      have hFx25_ : ai_fr (sx_W vw_326g) S0_ Sx21_ := ai_fr_tr hFx17_ (fr_le hFx23_ rfl)
      have ex26_ : Sx21_.1 13 0 29 = Sx13_.1 13 0 29 := hFx23_.1 13 0 29 rfl
      have c94_ := px24_
      rw [wd57_] at c94_
      have g94_ := rg_fr g57_ hFx23_ rfl rfl rfl
      have t94_ := rtab_fr t57_ hFx23_ rfl rfl rfl rfl rfl
      have v94_ : Sx21_.1 13 0 34 = (gl_ : Int) := (hFx25_.1 13 0 34 rfl).trans hv_.1
      have m94_ : Sx21_.1 13 0 27 = 1 := (hFx25_.1 13 0 27 rfl).trans hmo_
      have r94_ : rowv gl_ (o_ o9_) ok_ S0_ Sx21_ := ⟨fun j_ => by rw [c94_.1, lw57_, lo1_], fun z_ k9_ z9_ e9_ => by have hk9_ : k9_ < (o_ o9_).length := (by by_cases w9_ : k9_ < (o_ o9_).length; exact w9_; (rw [List.getElem?_eq_none (by omega)] at e9_; cases e9_)); refine (c94_.2.1 k9_ (by omega)).trans ?_; show (if (1 : Int) = 1 then _ else _) = z9_; rw [if_pos rfl, i57_]; exact (congrArg (S0_.2.2.1 145 0) (show _ = 8 * (40 * (40 * fr_ + s9_) + o9_) + k9_ by omega)).trans (((hev_ z_).2 s9_ o_ (by omega) hO_ o9_ (by omega)) k9_ z9_ e9_), fun j_ hj_ => by rw [c94_.2.2 j_ hj_, ll57_]⟩
      refine sm_T_go 2 (c1 := (100, [some (.inr (.inr (some (13, 0)))), some (.inl s_), some (.inl (S0_.2.2.1 130 0 (40 * (S0_.1 13 0 28) + s_).toNat)), some (.inl vx9_), some (.inl (Sx13_.2.2.1 129 0 (40 * (S0_.2.2.1 130 0 (40 * (S0_.1 13 0 28) + s_).toNat) + vx9_).toNat))], [.inl 46, .inr (.inr (some (13, 0)))], Sx21_)) rfl ?_
      refine sm_T_cal (d1 := 0) (Q1 := vq_295 46 b_ n_ T_ (.inr q_) Sx21_) rfl rfl (by decide) (vc_295 46 b_ n_ T_ (.inr q_) Sx21_ hIx22_ (by exact t94_) (by exact g94_) (by decide)) (fun u_ Sx27_ px30_ => ?_)
      obtain ⟨rfl, vx32_, rfl, px30_⟩ := px30_
      have e100_ := px30_.2 q_ rfl
      have r100_ := px30_.1
      refine sm_T_b0 (a := 0) (z := 13) rfl (fun cx33_ => ?_) (fun cx33_ => ?_)
      · have cx33_ : vx32_ = 0 := of_decide_eq_true cx33_
        refine sm_T_rv rfl ⟨_, _, rfl, rfl, hIx22_, hFx25_, ?_⟩
        first | (have q5_ : r_ = (q_, A_.2.2.2.1 (40 * (A_.2.2.2.2 (40 * M_ + s9_)).toNat + o9_), [cw 10 s_ (o9_ : Int)]) := (by rcases pq5_ with z_ | z_; (exact z_.2); (have := e100_.mpr z_.1; omega)); rw [q5_]; exact ⟨o_ o9_, e1o, lo1_, by omega, g94_, r94_⟩) | (have r9_ := bp_rr q4_; rw [q5_]; exact ⟨_, ev1_bi e1o (by omega) (by omega), rfl, ⟨by simp, by simp⟩, e113_.1, rowv_bi r94_ (by omega) (by omega) e113_.2.1 e113_.2.2⟩)
      · have cx33_ : ¬ (vx32_ = 0) := of_decide_eq_false cx33_
        refine sm_T_go 1 (c1 := (107, [some (.inr (.inr (some (13, 0)))), some (.inl s_), some (.inl (S0_.2.2.1 130 0 (40 * (S0_.1 13 0 28) + s_).toNat)), some (.inl vx9_), some (.inl (Sx13_.2.2.1 129 0 (40 * (S0_.2.2.1 130 0 (40 * (S0_.1 13 0 28) + s_).toNat) + vx9_).toNat))], [.inr (.inr (some (13, 0)))], Sx21_)) rfl ?_
        refine sm_T_cal (d1 := 2) (Q1 := vq_297 b_ n_ T_ (.inr q_) Sx21_) rfl rfl (by decide) (vc_297 b_ n_ T_ (.inr q_) Sx21_ hIx22_ (by exact t94_) (by exact g94_) (by (intro q9_ e_; cases e_; have := e100_.mp (by omega); omega))) (fun u_ Sx34_ px37_ => ?_)
        obtain ⟨rfl, hIx35_, hFx36_, px37_⟩ := px37_
        have hFx38_ : ai_fr (sx_W vw_326g) S0_ Sx34_ := ai_fr_tr hFx25_ (fr_le hFx36_ rfl)
        have k46_ : lx_kd b_ n_ q_ = 46 := e100_.mp (by omega)
        obtain ⟨q2_, u_, q3_, q4_, q5_⟩ : ∃ q2_ u_, p_ad b_ n_ q_ = .inr q2_ ∧ p_bp b_ n_ (A_.2.2.2.1 (40 * (A_.2.2.2.2 (40 * M_ + s9_)).toNat + o9_)) q2_ = .inr u_ ∧ r_ = (u_, 1, [cw 11 (lx_vl b_ n_ q2_) 0, cw 10 s_ (o9_ : Int)]) := by rcases pq5_ with z_ | z_; (exact absurd k46_ z_.1); (exact z_.2)
        have g107_ := px37_.1
        rw [pb_r rfl, q3_] at g107_
        have t107_ := rtab_fr t94_ hFx36_ rfl rfl rfl rfl rfl
        have v107_ : Sx34_.1 13 0 34 = (gl_ : Int) := (hFx38_.1 13 0 34 rfl).trans hv_.1
        have m107_ : Sx34_.1 13 0 27 = 1 := (hFx38_.1 13 0 27 rfl).trans hmo_
        have w107_ := fr_arr (t := 138) (i := 0) hFx36_ rfl
        have l107_ := fr_arr (t := 139) (i := 0) hFx36_ rfl
        refine sm_T_go 2 (c1 := (113, [some (.inr (.inr (some (13, 0)))), some (.inl s_), some (.inl (S0_.2.2.1 130 0 (40 * (S0_.1 13 0 28) + s_).toNat)), some (.inl vx9_), some (.inl (Sx13_.2.2.1 129 0 (40 * (S0_.2.2.1 130 0 (40 * (S0_.1 13 0 28) + s_).toNat) + vx9_).toNat))], [.inl (Sx13_.2.2.1 129 0 (40 * (S0_.2.2.1 130 0 (40 * (S0_.1 13 0 28) + s_).toNat) + vx9_).toNat), .inr (.inr (some (13, 0)))], Sx34_)) rfl ?_
        refine sm_T_cal (d1 := 3) (Q1 := vq_325g (Sx13_.2.2.1 129 0 (40 * (S0_.2.2.1 130 0 (40 * (S0_.1 13 0 28) + s_).toNat) + vx9_).toNat) b_ n_ T_ q2_ gl_ u_ Sx34_) rfl rfl (by decide) (vc_325g (Sx13_.2.2.1 129 0 (40 * (S0_.2.2.1 130 0 (40 * (S0_.1 13 0 28) + s_).toNat) + vx9_).toNat) b_ n_ T_ q2_ gl_ u_ Sx34_ hIx35_ (by exact t107_) (by exact g107_) (by exact ⟨v107_, hv_.2⟩) (by exact m107_) (by omega) (by (rw [wd57_]; exact q4_))) (fun u_ Sx39_ px42_ => ?_)
        obtain ⟨rfl, hIx40_, hFx41_, px42_⟩ := px42_
        have hFx43_ : ai_fr (sx_W vw_326g) S0_ Sx39_ := ai_fr_tr hFx38_ (fr_le hFx41_ rfl)
        have e113_ := px42_
        rw [w107_, l107_] at e113_
        refine sm_T_rv rfl ⟨_, _, rfl, rfl, hIx40_, hFx43_, ?_⟩
        first | (have q5_ : r_ = (q_, A_.2.2.2.1 (40 * (A_.2.2.2.2 (40 * M_ + s9_)).toNat + o9_), [cw 10 s_ (o9_ : Int)]) := (by rcases pq5_ with z_ | z_; (exact z_.2); (have := e100_.mpr z_.1; omega)); rw [q5_]; exact ⟨o_ o9_, e1o, lo1_, by omega, g94_, r94_⟩) | (have r9_ := bp_rr q4_; rw [q5_]; exact ⟨_, ev1_bi e1o (by omega) (by omega), rfl, ⟨by simp, by simp⟩, e113_.1, rowv_bi r94_ (by omega) (by omega) e113_.2.1 e113_.2.2⟩)
    · have cx12_ : ¬ ((S0_.2.2.1 128 0 (40 * (S0_.2.2.1 130 0 (40 * (S0_.1 13 0 28) + s_).toNat) + vx9_).toNat) = 2) := of_decide_eq_false cx12_
      exfalso; omega
