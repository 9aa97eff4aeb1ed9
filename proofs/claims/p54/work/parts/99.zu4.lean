/-! both sides together; written by wip/p55/gen/vg/d04.py -/
/-- what holds between the calls: n_ calls were made -/
def jB (n_ : Nat) (S_ : sm_S) : Prop := gi S_ ∧ jC S_ ∧ jR S_ ∧ S_.2.2.1 98 0 = S_.2.2.1 118 0 ∧ S_.1 10 0 1 = S_.1 13 0 2 ∧ ((0 ≤ S_.1 10 0 1 ∧ S_.1 10 0 1 ≤ 20 * (n_ : Int)) ∧ jK n_ S_) ∧ (∀ j_ : Nat, j_ < 6 → S_.1 3 j_ 0 = S_.2.2.1 153 0 j_) ∧ (∀ j_ : Nat, j_ < 3 → S_.1 5 j_ 0 = S_.2.2.1 183 0 j_) ∧ jG S_
theorem jB_up {n_ : Nat} {S_ : sm_S} (h_ : jB n_ S_) : jB (n_ + 1) S_ := by
  obtain ⟨a1_, a2_, a3_, a4_, a5_, a6_, a7_, a8_, a9_⟩ := h_
  exact ⟨a1_, a2_, a3_, a4_, a5_, ⟨⟨a6_.1.1, by (have z_ := a6_.1.2; omega)⟩, jK_up a6_.2⟩, a7_, a8_, a9_⟩
/-- a call of the class that leaves tape, designs and libraries -/
theorem jB_c {n_ : Nat} {w_ : sx_Wl} {S_ S'_ : sm_S} (h_ : jB n_ S_) (q_ : lhq w_ S_ S'_) (b1_ : (sx_W (wo9 w_)).1 10 1 = false := by rfl) (b2_ : (sx_W (wo9 w_)).1 13 2 = false := by rfl) (b3_ : (sx_W (wo9 w_)).1 3 0 = false := by rfl) (b4_ : (sx_W (wo9 w_)).1 5 0 = false := by rfl) (c1_ : (sx_W (wo9 w_)).2.1 98 = false := by rfl) (c2_ : (sx_W (wo9 w_)).2.1 118 = false := by rfl) (c3_ : (sx_W (wo9 w_)).2.1 153 = false := by rfl) (c4_ : (sx_W (wo9 w_)).2.1 183 = false := by rfl) (d1_ : dwf (wo9 w_) = true := by rfl) (d2_ : rwf (wo9 w_) = true := by rfl) (k9_ : jkw (wo9 w_) = true := by rfl) (k8_ : (sx_W (wo9 w_)).1 2 0 = false := by rfl) (k7_ : (sx_W (wo9 w_)).2.1 222 = false := by rfl) (g9_ : jgw (wo9 w_) = true := by rfl) (h9_ : lgw (wo9 w_) = true := by rfl) : jB n_ S'_ := by
  obtain ⟨a1_, a2_, a3_, a4_, a5_, a6_, a7_, a8_, a9_⟩ := h_
  obtain ⟨i_, f_, j_⟩ := q_
  refine ⟨i_, j_, jR_fr a3_ i_ f_ d1_ d2_, ?_, ?_, ?_, fun k_ hk_ => ?_, fun k_ hk_ => ?_, jG_fr a9_ f_ g9_ b3_ h9_ b4_⟩
  · rw [fr_arr f_ c1_, fr_arr f_ c2_]; exact a4_
  · rw [f_.1 10 0 1 b1_, f_.1 13 0 2 b2_]; exact a5_
  · rw [f_.1 10 0 1 b1_]; exact ⟨a6_.1, jK_fr a6_.2 f_ k9_ k8_ k7_⟩
  · rw [f_.1 3 k_ 0 b3_, fr_arr f_ c3_]; exact a7_ k_ hk_
  · rw [f_.1 5 k_ 0 b4_, fr_arr f_ c4_]; exact a8_ k_ hk_
/-- a call of the reference that leaves them -/
theorem jB_r {n_ : Nat} {w_ : sx_Wl} {S_ S'_ : sm_S} (h_ : jB n_ S_) (i_ : gi S'_) (f_ : ai_fr (sx_W w_) S_ S'_) (j_ : jR S'_) (b1_ : (sx_W w_).1 10 1 = false := by rfl) (b2_ : (sx_W w_).1 13 2 = false := by rfl) (b3_ : (sx_W w_).1 3 0 = false := by rfl) (b4_ : (sx_W w_).1 5 0 = false := by rfl) (c1_ : (sx_W w_).2.1 98 = false := by rfl) (c2_ : (sx_W w_).2.1 118 = false := by rfl) (c3_ : (sx_W w_).2.1 153 = false := by rfl) (c4_ : (sx_W w_).2.1 183 = false := by rfl) (d1_ : ∀ k_, k_ < 7 → (sx_W w_).1 3 k_ = false := by decide) (d2_ : ∀ t_, t_ < 48 → 42 ≤ t_ → (sx_W w_).2.1 t_ = false := by decide) (h2_ : ∀ k_, k_ < 9 → (sx_W w_).1 2 k_ = false := by decide) (h0_ : ∀ k_, k_ < 12 → (sx_W w_).1 0 k_ = false := by decide) (ha_ : ∀ t_, t_ < 24 → 14 ≤ t_ → t_ ≠ 21 → (sx_W w_).2.1 t_ = false := by decide) (hb_ : (sx_W w_).2.1 34 = false := by rfl) (t1_ : (sx_W w_).1 11 5 = false := by rfl) (t2_ : (sx_W w_).2.1 102 = false := by rfl) (t3_ : (sx_W w_).2.1 104 = false := by rfl) (t4_ : (sx_W w_).2.1 105 = false := by rfl) (t5_ : (sx_W w_).2.1 95 = false := by rfl) (k9_ : jkw w_ = true := by rfl) (k8_ : (sx_W w_).1 2 0 = false := by rfl) (k7_ : (sx_W w_).2.1 222 = false := by rfl) (g9_ : jgw w_ = true := by rfl) (h9_ : lgw w_ = true := by rfl) : jB n_ S'_ := by
  obtain ⟨a1_, a2_, a3_, a4_, a5_, a6_, a7_, a8_, a9_⟩ := h_
  refine ⟨i_, jC_fr a2_ f_ d1_ d2_ h2_ h0_ ha_ hb_ t1_ t2_ t3_ t4_ t5_, j_, ?_, ?_, ?_, fun k_ hk_ => ?_, fun k_ hk_ => ?_, jG_fr a9_ f_ g9_ b3_ h9_ b4_⟩
  · rw [fr_arr f_ c1_, fr_arr f_ c2_]; exact a4_
  · rw [f_.1 10 0 1 b1_, f_.1 13 0 2 b2_]; exact a5_
  · rw [f_.1 10 0 1 b1_]; exact ⟨a6_.1, jK_fr a6_.2 f_ k9_ k8_ k7_⟩
  · rw [f_.1 3 k_ 0 b3_, fr_arr f_ c3_]; exact a7_ k_ hk_
  · rw [f_.1 5 k_ 0 b4_, fr_arr f_ c4_]; exact a8_ k_ hk_
/-- what the script holds -/
def scB (sc_ : Nat × (Nat → Int)) : Prop := sc_.1 ≤ 448 ∧ ∀ k_, -2147483648 ≤ sc_.2 k_ ∧ sc_.2 k_ ≤ 2147483647
theorem lw_n {sc_ : Nat × (Nat → Int)} {x_ : Int} {S_ : sm_S} (h0_ : 0 ≤ x_) (h1_ : x_ < sc_.1) : (mt_P sc_).2.2.2.2 341 [.inr (.inr (some (302, 0))), .inl x_] S_ = some (some (.inl (sc_.2 x_.toNat)), S_) := by
  show (if (decide (0 ≤ x_) && decide (x_ < sc_.1)) = true then (some (some (Sum.inl (sc_.2 x_.toNat)), S_) : Option (Option sm_V × sm_S)) else none) = _
  rw [if_pos (by rw [decide_eq_true h0_, decide_eq_true h1_]; rfl)]
/-- the law's variables -/
def Lw (i_ : Int) (x_ y_ : Option sm_V) : sm_L := [some (.inr (.inr (some (302, 0)))), some (.inr (.inr (some (12, 0)))), some (.inr (.inr (some (13, 0)))), some (.inr (.inr (some (295, 0)))), some (.inl i_), x_, y_]
def lwQ (m_ : Nat) (r_ : sm_R) : Prop := ∃ S1_ k_, r_ = (.inl (some (.inl 1)), S1_, k_) ∧ k_ ≤ 2 * m_
/-- the law's loop with m_ calls to go at most -/
def lwC (sc_ : Nat × (Nat → Int)) (m_ : Nat) : Prop := ∀ (n_ : Nat) (x_ y_ : Option sm_V) (S_ : sm_S), jB n_ S_ → sc_.1 ≤ 7 * n_ + 7 * m_ → sm_T (mt_P sc_) 40 588 (23, Lw (7 * (n_ : Int)) x_ y_, [], S_) (lwQ m_)
set_option maxRecDepth 100000 in
set_option maxHeartbeats 2000000 in
theorem lc_end {sc_ : Nat × (Nat → Int)} {m_ n_ k_ : Nat} {x_ y_ : Option sm_V} {S_ : sm_S} (ih_ : lwC sc_ m_) (hs_ : scB sc_) (hn_ : 7 * n_ + 7 ≤ sc_.1) (hm_ : sc_.1 ≤ 7 * n_ + 7 * (m_ + 1)) (hk_ : k_ ≤ 2) (h_ : jB (n_ + 1) S_) : sm_T (mt_P sc_) 40 588 (2670, Lw (7 * (n_ : Int)) x_ y_, [], S_) (fun r_ => lwQ (m_ + 1) (sm_add k_ r_)) := by
  have b_ := hs_.1
  unfold Lw
  refine sm_T_inc (a := 4) (z := 7) (v := 7 * (n_ : Int)) (w := 7 * (n_ : Int) + 7) rfl rfl (by omega) (by omega) (by omega) ?_
  refine sm_T_go 1 (c1 := (23, [some (.inr (.inr (some (302, 0)))), some (.inr (.inr (some (12, 0)))), some (.inr (.inr (some (13, 0)))), some (.inr (.inr (some (295, 0)))), some (.inl (7 * (n_ : Int) + 7)), x_, y_], [], S_)) rfl ?_
  have q_ := ih_ (n_ + 1) x_ y_ S_ h_ (by omega)
  unfold Lw at q_
  rw [show 7 * ((n_ + 1 : Nat) : Int) = 7 * (n_ : Int) + 7 by omega] at q_
  refine q_.mono (fun r_ z_ => ?_)
  obtain ⟨S1_, k1_, e_, l_⟩ := z_
  subst e_
  exact ⟨S1_, k_ + k1_, rfl, by omega⟩
