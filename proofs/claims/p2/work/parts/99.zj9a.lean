/-! elements in rows; written by wip/p55/gen/vg -/

/-! elements in rows -/
def lo9 (f_ : Nat → Int) (w_ : Int) : Nat → Int × Int
  | 0 => (0, 0)
  | n_ + 1 => if w_ < (lo9 f_ w_ n_).2 + f_ n_ then ((lo9 f_ w_ n_).1 + 1, f_ n_) else ((lo9 f_ w_ n_).1, (lo9 f_ w_ n_).2 + f_ n_)
theorem lo9_s (f_ : Nat → Int) (w_ : Int) (n_ : Nat) : lo9 f_ w_ (n_ + 1) = if w_ < (lo9 f_ w_ n_).2 + f_ n_ then ((lo9 f_ w_ n_).1 + 1, f_ n_) else ((lo9 f_ w_ n_).1, (lo9 f_ w_ n_).2 + f_ n_) := rfl
theorem lo9_b {f_ : Nat → Int} {w_ : Int} (hf_ : ∀ k_, 0 ≤ f_ k_ ∧ f_ k_ ≤ 4) (hw_ : 4 ≤ w_) : ∀ n_ : Nat, (0 ≤ (lo9 f_ w_ n_).1 ∧ (lo9 f_ w_ n_).1 ≤ n_) ∧ 0 ≤ (lo9 f_ w_ n_).2 ∧ (lo9 f_ w_ n_).2 ≤ w_
  | 0 => by
    show ((0 : Int) ≤ 0 ∧ (0 : Int) ≤ _) ∧ (0 : Int) ≤ 0 ∧ (0 : Int) ≤ w_
    omega
  | n_ + 1 => by
    have a_ := lo9_b hf_ hw_ n_
    have b_ := hf_ n_
    rw [lo9_s]
    split <;> (dsimp only; omega)
theorem lo9_mo {f_ : Nat → Int} {w_ : Int} {n_ : Nat} : ∀ {m_ : Nat}, n_ ≤ m_ → (lo9 f_ w_ n_).1 ≤ (lo9 f_ w_ m_).1
  | 0, h_ => by rw [show n_ = 0 by omega]; exact Int.le_refl _
  | m_ + 1, h_ => by
    by_cases z_ : n_ = m_ + 1
    · rw [z_]; exact Int.le_refl _
    · have a_ := lo9_mo (f_ := f_) (w_ := w_) (n_ := n_) (m_ := m_) (by omega)
      rw [lo9_s]
      split <;> (dsimp only; omega)
/-- a_ placed board's elements stand within it_ -/
def bpl (bi_ ci_ : Nat) (S_ : sm_S) : Prop := 0 < S_.1 0 bi_ 1 → (4 ≤ S_.1 0 bi_ 0 ∧ 3 * S_.1 0 bi_ 1 + 2 ≤ S_.1 0 bi_ 2 ∧ S_.1 2 ci_ 1 ≤ S_.1 0 bi_ 2 ∧ S_.1 2 ci_ 3 ≤ S_.1 0 bi_ 2) ∧ ∀ e_ : Nat, (e_ : Int) < S_.1 2 ci_ 2 + S_.1 2 ci_ 8 → S_.2.2.1 14 (0 + bi_) e_ + S_.2.2.1 16 (0 + bi_) e_ ≤ S_.1 0 bi_ 0 ∧ S_.2.2.1 15 (0 + bi_) e_ < S_.1 0 bi_ 1
def bpp (bi_ ci_ : Nat) (S_ : sm_S) : Prop := ∀ p_ : Nat, p_ < 652 → S_.2.2.1 17 (0 + bi_) p_ ≠ -1 → (p_ < 624 → ((p_ / 4 : Nat) : Int) < S_.1 2 ci_ 2 + S_.1 2 ci_ 8 ∧ ((p_ % 4 : Nat) : Int) < S_.2.2.1 16 (0 + bi_) (p_ / 4)) ∧ (624 ≤ p_ → p_ < 636 → (p_ : Int) - 624 < S_.1 2 ci_ 1) ∧ (636 ≤ p_ → (p_ : Int) - 636 < S_.1 2 ci_ 3)
/-- two_ elements have changed places -/
def xch (ii_ a_ b_ : Nat) (S_ S'_ : sm_S) : Prop := ∀ e_, S'_.2.2.1 14 (0 + ii_) e_ = (if e_ = b_ then S_.2.2.1 14 (0 + ii_) a_ else if e_ = a_ then S_.2.2.1 14 (0 + ii_) b_ else S_.2.2.1 14 (0 + ii_) e_) ∧ S'_.2.2.1 15 (0 + ii_) e_ = (if e_ = b_ then S_.2.2.1 15 (0 + ii_) a_ else if e_ = a_ then S_.2.2.1 15 (0 + ii_) b_ else S_.2.2.1 15 (0 + ii_) e_)
theorem xch_2 {ii_ a_ b_ : Nat} {S_ S'_ S2_ : sm_S} (h_ : xch ii_ a_ b_ S_ S'_) (g_ : xch ii_ a_ b_ S'_ S2_) (e_ : Nat) : S2_.2.2.1 14 (0 + ii_) e_ = S_.2.2.1 14 (0 + ii_) e_ ∧ S2_.2.2.1 15 (0 + ii_) e_ = S_.2.2.1 15 (0 + ii_) e_ := by
  have x_ := g_ e_
  have ha_ := h_ a_
  have hb_ := h_ b_
  have he_ := h_ e_
  rw [if_pos rfl, if_pos rfl] at hb_
  by_cases y_ : e_ = b_
  · rw [if_pos y_, if_pos y_] at x_
    rw [x_.1, x_.2, ha_.1, ha_.2, y_]
    by_cases z_ : a_ = b_
    · rw [if_pos z_, if_pos z_, z_]; exact ⟨rfl, rfl⟩
    · rw [if_neg z_, if_neg z_, if_pos rfl, if_pos rfl]; exact ⟨rfl, rfl⟩
  · rw [if_neg y_, if_neg y_] at x_ he_
    by_cases z_ : e_ = a_
    · rw [if_pos z_, if_pos z_] at x_
      rw [x_.1, x_.2, hb_.1, hb_.2, z_]; exact ⟨rfl, rfl⟩
    · rw [if_neg z_, if_neg z_] at x_ he_
      rw [x_.1, x_.2]; exact he_
theorem bpn_fr {w_ : sx_Wl} {ii_ : Nat} {S_ S'_ : sm_S} (h_ : bpn ii_ S_) (g_ : ai_fr (sx_W w_) S_ S'_) (h1_ : (sx_W w_).2.1 17 = false) (h2_ : (sx_W w_).2.1 18 = false) (h3_ : (sx_W w_).2.1 19 = false) (h4_ : (sx_W w_).2.1 20 = false) : bpn ii_ S'_ := by
  unfold bpn
  rw [fr_arr g_ h1_, fr_arr g_ h2_, fr_arr g_ h3_, fr_arr g_ h4_]
  exact h_
theorem bpl_sw {bi_ ci_ : Nat} {S_ S'_ : sm_S} (h_ : bpl bi_ ci_ S_) (f0_ : S'_.1 0 bi_ 0 = S_.1 0 bi_ 0) (f1_ : S'_.1 0 bi_ 1 = S_.1 0 bi_ 1) (f2_ : S'_.1 0 bi_ 2 = S_.1 0 bi_ 2) (g1_ : S'_.1 2 ci_ 1 = S_.1 2 ci_ 1) (g2_ : S'_.1 2 ci_ 2 = S_.1 2 ci_ 2) (g3_ : S'_.1 2 ci_ 3 = S_.1 2 ci_ 3) (g8_ : S'_.1 2 ci_ 8 = S_.1 2 ci_ 8) (z_ : S'_.2.2.1 16 (0 + bi_) = S_.2.2.1 16 (0 + bi_))
    (q_ : ∀ e_ : Nat, (e_ : Int) < S_.1 2 ci_ 2 + S_.1 2 ci_ 8 → ∃ e'_ : Nat, (e'_ : Int) < S_.1 2 ci_ 2 + S_.1 2 ci_ 8 ∧ S_.2.2.1 16 (0 + bi_) e'_ = S_.2.2.1 16 (0 + bi_) e_ ∧ S'_.2.2.1 14 (0 + bi_) e_ = S_.2.2.1 14 (0 + bi_) e'_ ∧ S'_.2.2.1 15 (0 + bi_) e_ = S_.2.2.1 15 (0 + bi_) e'_) : bpl bi_ ci_ S'_ := by
  intro r_
  rw [f1_] at r_
  obtain ⟨a_, b_⟩ := h_ r_
  rw [f0_, f1_, f2_, g1_, g2_, g3_, g8_, z_]
  refine ⟨a_, fun e_ he_ => ?_⟩
  obtain ⟨e'_, x1_, x2_, x3_, x4_⟩ := q_ e_ he_
  have y_ := b_ e'_ x1_
  rw [x3_, x4_, ← x2_]
  exact y_
theorem bpl_xch {bi_ ci_ a_ b_ : Nat} {S_ S'_ : sm_S} (h_ : bpl bi_ ci_ S_) (x_ : xch bi_ a_ b_ S_ S'_) (ha_ : (a_ : Int) < S_.1 2 ci_ 2 + S_.1 2 ci_ 8) (hb_ : (b_ : Int) < S_.1 2 ci_ 2 + S_.1 2 ci_ 8) (hz_ : S_.2.2.1 16 (0 + bi_) a_ = S_.2.2.1 16 (0 + bi_) b_) (f0_ : S'_.1 0 bi_ 0 = S_.1 0 bi_ 0) (f1_ : S'_.1 0 bi_ 1 = S_.1 0 bi_ 1) (f2_ : S'_.1 0 bi_ 2 = S_.1 0 bi_ 2) (g1_ : S'_.1 2 ci_ 1 = S_.1 2 ci_ 1) (g2_ : S'_.1 2 ci_ 2 = S_.1 2 ci_ 2) (g3_ : S'_.1 2 ci_ 3 = S_.1 2 ci_ 3) (g8_ : S'_.1 2 ci_ 8 = S_.1 2 ci_ 8) (z_ : S'_.2.2.1 16 (0 + bi_) = S_.2.2.1 16 (0 + bi_)) : bpl bi_ ci_ S'_ := by
  refine bpl_sw h_ f0_ f1_ f2_ g1_ g2_ g3_ g8_ z_ (fun e_ he_ => ?_)
  have y_ := x_ e_
  by_cases p_ : e_ = b_
  · rw [if_pos p_, if_pos p_] at y_
    exact ⟨a_, ha_, by rw [p_]; exact hz_, y_⟩
  · rw [if_neg p_, if_neg p_] at y_
    by_cases q_ : e_ = a_
    · rw [if_pos q_, if_pos q_] at y_
      exact ⟨b_, hb_, by rw [q_]; exact hz_.symm, y_⟩
    · rw [if_neg q_, if_neg q_] at y_
      exact ⟨e_, he_, rfl, y_⟩
theorem bpl_fr {w_ : sx_Wl} {bi_ ci_ : Nat} {S_ S'_ : sm_S} (h_ : bpl bi_ ci_ S_) (g_ : ai_fr (sx_W w_) S_ S'_) (h0_ : (sx_W w_).1 0 0 = false) (h1_ : (sx_W w_).1 0 1 = false) (h2_ : (sx_W w_).1 0 2 = false) (k1_ : (sx_W w_).1 2 1 = false) (k2_ : (sx_W w_).1 2 2 = false) (k3_ : (sx_W w_).1 2 3 = false) (k8_ : (sx_W w_).1 2 8 = false) (a1_ : (sx_W w_).2.1 14 = false) (a2_ : (sx_W w_).2.1 15 = false) (a3_ : (sx_W w_).2.1 16 = false) : bpl bi_ ci_ S'_ :=
  bpl_sw h_ (g_.1 _ _ _ h0_) (g_.1 _ _ _ h1_) (g_.1 _ _ _ h2_) (g_.1 _ _ _ k1_) (g_.1 _ _ _ k2_) (g_.1 _ _ _ k3_) (g_.1 _ _ _ k8_) (fr_arr g_ a3_) (fun e_ he_ => ⟨e_, he_, rfl, by rw [fr_arr g_ a1_], by rw [fr_arr g_ a2_]⟩)
/-! Board.wholeWire -/
def vw_24 : sx_Wl := ([], [], [])
def vq_24 (a1_ : Int) (ii_ : Nat) (S0_ : sm_S) (u_ : Option sm_V) (S1_ : sm_S) : Prop := S0_ = S1_ ∧ ∃ v_ : Int, u_ = some (.inl v_) ∧ (-9999 * a1_ ≤ v_ ∧ v_ ≤ 20000 * a1_)
set_option maxHeartbeats 400000 in
theorem vl_24 {sc_ : Nat × (Nat → Int)} (a1_ : Int) (ii_ : Nat) (S0_ : sm_S) (h1_ : 0 ≤ a1_ ∧ a1_ ≤ 162) : ∀ nn_ : Nat, (∀ (al_ : Int) (k_ : Int) (S_ : sm_S), gi S_ → ai_fr (sx_W vw_24) S0_ S_ → ((0 ≤ k_ ∧ k_ ≤ a1_ ∧ -9999 * k_ ≤ al_ ∧ al_ ≤ 20000 * k_) ∧ (S_ = S0_) ∧ True) → ((1000 - k_).toNat) < nn_ → sm_T (mt_P sc_) 0 24 (4, [some (.inr (.inr (some (0, ii_)))), some (.inl a1_), some (.inl al_), some (.inl k_)], [], S_) (fun ro9_ => ∃ u_ S1_, ro9_ = (.inl u_, S1_, 0) ∧ vq_24 a1_ ii_ S0_ u_ S1_)) := by
  intro nn_
  induction nn_ with
  | zero => exact fun _ _ _ _ _ _ h_ => absurd h_ (Nat.not_lt_zero _)
  | succ nn_ ih_ =>
    rintro al_ k_ S_ hI_ hF_ ⟨h0_, hS_, -⟩ hm_
    refine sm_T_go 2 (c1 := (6, [some (.inr (.inr (some (0, ii_)))), some (.inl a1_), some (.inl al_), some (.inl k_)], [.inl a1_, .inl k_], S_)) rfl ?_
    refine sm_T_br (a := 3) (z := 18) rfl (fun cx1_ => ?_) (fun cx1_ => ?_)
    · have cx1_ : a1_ ≤ k_ := of_decide_eq_true cx1_
      refine sm_T_go 1 (c1 := (25, [some (.inr (.inr (some (0, ii_)))), some (.inl a1_), some (.inl al_), some (.inl k_)], [.inl al_], S_)) rfl ?_
      refine sm_T_ri rfl ⟨_, _, rfl, (by first | rfl | exact hS_.symm), _, rfl, ?_⟩
      omega
    · have cx1_ : ¬ (a1_ ≤ k_) := of_decide_eq_false cx1_
      refine sm_T_go 4 (c1 := (15, [some (.inr (.inr (some (0, ii_)))), some (.inl a1_), some (.inl al_), some (.inl k_)], [.inl k_, .inr (.inr (some (21, (0 + ii_)))), .inl al_], S_)) rfl ?_
      refine sm_T_iald (n := 162) rfl rfl (by omega) (by omega) ?_
      have bx2_ : (-9999) ≤ S_.2.2.1 21 (0 + ii_) k_.toNat ∧ S_.2.2.1 21 (0 + ii_) k_.toNat ≤ 20000 := hI_.2 21 (0 + ii_) _
      refine sm_T_bin (w := al_ + (S_.2.2.1 21 (0 + ii_) k_.toNat)) rfl (bi_add (by omega) (by omega) (by omega)) ?_ -- pc_ 16
      refine sm_T_go 1 (c1 := (18, [some (.inr (.inr (some (0, ii_)))), some (.inl a1_), some (.inl (al_ + (S_.2.2.1 21 (0 + ii_) k_.toNat))), some (.inl k_)], [], S_)) rfl ?_
      refine sm_T_inc (a := 3) (z := 1) (v := k_) (w := k_ + 1) rfl rfl (by omega) (by omega) (by omega) ?_ -- pc_ 18
      refine sm_T_go 1 (c1 := (4, [some (.inr (.inr (some (0, ii_)))), some (.inl a1_), some (.inl (al_ + (S_.2.2.1 21 (0 + ii_) k_.toNat))), some (.inl (k_ + 1))], [], S_)) rfl ?_
      refine ih_ (al_ + (S_.2.2.1 21 (0 + ii_) k_.toNat)) (k_ + 1) S_ hI_ hF_ ⟨?_, ?_, trivial⟩ ?_
      · omega
      · first | rfl | exact hS_
      · omega
set_option maxHeartbeats 400000 in
theorem vc_24 {sc_ : Nat × (Nat → Int)} (a1_ : Int) (ii_ : Nat) (S0_ : sm_S) (hI_ : gi S0_) (h1_ : 0 ≤ a1_ ∧ a1_ ≤ 162) : sm_T (mt_P sc_) 0 24 (0, [some (.inr (.inr (some (0, ii_)))), some (.inl a1_), none, none], [], S0_) (fun ro9_ => ∃ u_ S1_, ro9_ = (.inl u_, S1_, 0) ∧ vq_24 a1_ ii_ S0_ u_ S1_) := by
  have hF_ : ai_fr (sx_W vw_24) S0_ S0_ := ai_fr_rf
  refine sm_T_go 4 (c1 := (4, [some (.inr (.inr (some (0, ii_)))), some (.inl a1_), some (.inl 0), some (.inl 0)], [], S0_)) rfl ?_
  refine (vl_24 a1_ ii_ S0_ h1_ _) 0 0 S0_ hI_ hF_ ⟨?_, ?_, trivial⟩ (Nat.lt_succ_self _)
  · omega
  · first | rfl | exact hS_
