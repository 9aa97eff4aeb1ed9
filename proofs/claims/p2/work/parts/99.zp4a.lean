/-! a chip is made; written by wip/p55/gen/vg -/

/-! a_ chip is_ made -/
theorem cOk_nw {w_ : sx_Wl} {c_ dd_ : Nat} {S0_ S1_ S2_ : sm_S} (hd_ : dOk dd_ S0_) (h_ : S1_.1 2 c_ 1 = S0_.1 3 dd_ 1 ∧ S1_.1 2 c_ 2 = S0_.1 3 dd_ 2 ∧ S1_.1 2 c_ 3 = S0_.1 3 dd_ 3 ∧ S1_.1 2 c_ 4 = S0_.1 3 dd_ 5 ∧ S1_.1 2 c_ 5 = S0_.1 3 dd_ 5) (hn_ : bpn (0 + c_) S1_) (hp_ : bpp (0 + c_) c_ S1_) (r1_ : S1_.1 0 (0 + c_) 1 = 0) (r11_ : S1_.1 0 (0 + c_) 11 = 0) (g_ : ai_fr (sx_W w_) S1_ S2_) (h2_ : ∀ k_, k_ < 9 → (sx_W w_).1 2 k_ = false) (h0_ : ∀ k_, k_ < 12 → (sx_W w_).1 0 k_ = false) (ha_ : ∀ t_, t_ < 24 → 14 ≤ t_ → (sx_W w_).2.1 t_ = false) (ht_ : ctb c_ S2_) : cOk c_ S2_ := by
  have q_ := dOk_b hd_
  have q1_ := q_.1
  have q2_ := q_.2.1
  refine ⟨?_, ?_, ?_, ht_, ⟨bpn_fr hn_ g_ (ha_ _ (by decide) (by decide)) (ha_ _ (by decide) (by decide)) (ha_ _ (by decide) (by decide)) (ha_ _ (by decide) (by decide)), bpp_fr hp_ g_ (h2_ _ (by decide)) (h2_ _ (by decide)) (h2_ _ (by decide)) (h2_ _ (by decide)) (ha_ _ (by decide) (by decide)) (ha_ _ (by decide) (by decide)), fun z_ => ?_⟩, fun z_ => ?_⟩
  · rw [g_.1 2 c_ 1 (h2_ _ (by decide)), g_.1 2 c_ 2 (h2_ _ (by decide)), g_.1 2 c_ 3 (h2_ _ (by decide)), h_.1, h_.2.1, h_.2.2.1]; omega
  · rw [g_.1 2 c_ 4 (h2_ _ (by decide)), g_.1 2 c_ 2 (h2_ _ (by decide)), h_.2.2.2.1, h_.2.1]; exact q_.2.2.1
  · rw [g_.1 2 c_ 5 (h2_ _ (by decide)), g_.1 2 c_ 2 (h2_ _ (by decide)), h_.2.2.2.2, h_.2.1]; exact q_.2.2.1
  · rw [g_.1 0 (0 + c_) 1 (h0_ _ (by decide)), r1_] at z_
    exact absurd z_ (by decide)
  · rw [g_.1 0 (0 + c_) 11 (h0_ _ (by decide)), r11_] at z_
    exact absurd z_ (by decide)
theorem cOk_us {c_ : Nat} {S_ : sm_S} {v_ : Int} (h_ : cOk c_ S_) : cOk c_ (sm_pI S_ 2 c_ 0 v_) :=
  cOk_q h_ (fun k_ a_ _ => rf_nk (by omega)) (fun k_ _ => rf_nt (by decide)) (fun t_ _ _ _ => rfl) rfl
/-! ChipFlow.freeChip -/
def vw_275 : sx_Wl := ([], [], [])
def vq_275  (S0_ : sm_S) (u_ : Option sm_V) (S1_ : sm_S) : Prop := S0_ = S1_ ∧ ∃ v_ : Int, u_ = some (.inl v_) ∧ (v_ = -1 ∨ (0 ≤ v_ ∧ v_ < 4 ∧ S1_.1 2 v_.toNat 0 = 0))
set_option maxHeartbeats 400000 in
theorem vl_275 {sc_ : Nat × (Nat → Int)}  (S0_ : sm_S)  : ∀ nn_ : Nat, (∀ (i_ : Int) (S_ : sm_S), gi S_ → ai_fr (sx_W vw_275) S0_ S_ → ((0 ≤ i_ ∧ i_ ≤ 4) ∧ (S_ = S0_) ∧ True) → ((20 - i_).toNat) < nn_ → sm_T (mt_P sc_) 0 275 (2, [some (.inr (.inr (some (12, 0)))), some (.inl i_)], [], S_) (fun ro9_ => ∃ u_ S1_, ro9_ = (.inl u_, S1_, 0) ∧ vq_275  S0_ u_ S1_)) := by
  intro nn_
  induction nn_ with
  | zero => exact fun _ _ _ _ _ h_ => absurd h_ (Nat.not_lt_zero _)
  | succ nn_ ih_ =>
    rintro i_ S_ hI_ hF_ ⟨h0_, hS_, -⟩ hm_
    refine sm_T_go 2 (c1 := (4, [some (.inr (.inr (some (12, 0)))), some (.inl i_)], [.inl 4, .inl i_], S_)) rfl ?_
    refine sm_T_br (a := 3) (z := 23) rfl (fun cx1_ => ?_) (fun cx1_ => ?_)
    · have cx1_ : 4 ≤ i_ := of_decide_eq_true cx1_
      refine sm_T_go 1 (c1 := (28, [some (.inr (.inr (some (12, 0)))), some (.inl i_)], [.inl (-1)], S_)) rfl ?_
      refine sm_T_ri rfl ⟨_, _, rfl, (by first | rfl | exact hS_.symm), _, rfl, ?_⟩
      first | exact Or.inl rfl | exact Or.inr ⟨by omega, by omega, by omega⟩
    · have cx1_ : ¬ (4 ≤ i_) := of_decide_eq_false cx1_
      refine sm_T_go 3 (c1 := (12, [some (.inr (.inr (some (12, 0)))), some (.inl i_)], [.inl i_, .inr (.inr (some (112, 0)))], S_)) rfl ?_
      refine sm_T_aald (t0 := 6) (n := 4) rfl rfl (by omega) (by omega) ?_
      have bx2_ : 0 ≤ S_.1 2 i_.toNat 0 ∧ S_.1 2 i_.toNat 0 ≤ 1 := hI_.1 2 i_.toNat 0 rfl
      refine sm_T_go 1 (c1 := (16, [some (.inr (.inr (some (12, 0)))), some (.inl i_)], [.inl (S_.1 2 i_.toNat 0)], S_)) rfl ?_
      refine sm_T_b0 (a := 1) (z := 5) rfl (fun cx3_ => ?_) (fun cx3_ => ?_)
      · have cx3_ : (S_.1 2 i_.toNat 0) ≠ 0 := of_decide_eq_true cx3_
        refine sm_T_inc (a := 1) (z := 1) (v := i_) (w := i_ + 1) rfl rfl (by omega) (by omega) (by omega) ?_ -- pc_ 21
        refine sm_T_go 1 (c1 := (2, [some (.inr (.inr (some (12, 0)))), some (.inl (i_ + 1))], [], S_)) rfl ?_
        refine ih_ (i_ + 1) S_ hI_ hF_ ⟨?_, ?_, trivial⟩ ?_
        · omega
        · first | rfl | exact hS_
        · omega
      · have cx3_ : ¬ ((S_.1 2 i_.toNat 0) ≠ 0) := of_decide_eq_false cx3_
        refine sm_T_go 1 (c1 := (20, [some (.inr (.inr (some (12, 0)))), some (.inl i_)], [.inl i_], S_)) rfl ?_
        refine sm_T_ri rfl ⟨_, _, rfl, (by first | rfl | exact hS_.symm), _, rfl, ?_⟩
        first | exact Or.inl rfl | exact Or.inr ⟨by omega, by omega, by omega⟩
set_option maxHeartbeats 400000 in
theorem vc_275 {sc_ : Nat × (Nat → Int)}  (S0_ : sm_S) (hI_ : gi S0_)  : sm_T (mt_P sc_) 0 275 (0, [some (.inr (.inr (some (12, 0)))), none], [], S0_) (fun ro9_ => ∃ u_ S1_, ro9_ = (.inl u_, S1_, 0) ∧ vq_275  S0_ u_ S1_) := by
  have hF_ : ai_fr (sx_W vw_275) S0_ S0_ := ai_fr_rf
  refine sm_T_go 2 (c1 := (2, [some (.inr (.inr (some (12, 0)))), some (.inl 0)], [], S0_)) rfl ?_
  refine (vl_275 S0_ _) 0 S0_ hI_ hF_ ⟨?_, ?_, trivial⟩ (Nat.lt_succ_self _)
  · omega
  · first | rfl | exact hS_

theorem cOk_tb {w_ : sx_Wl} {i_ : Nat} {S_ S'_ : sm_S} (h_ : cOk i_ S_) (g_ : ai_fr (sx_W w_) S_ S'_) (h2_ : ∀ k_, k_ < 9 → (sx_W w_).1 2 k_ = false) (h0_ : ∀ k_, k_ < 12 → (sx_W w_).1 0 k_ = false) (ha_ : ∀ t_, t_ < 24 → 14 ≤ t_ → (sx_W w_).2.1 t_ = false) (ht_ : ctb i_ S'_) : cOk i_ S'_ := by
  obtain ⟨a1_, a2_, a3_, a4_, ⟨a5_, a6_, a7_⟩, a8_⟩ := h_
  refine ⟨?_, ?_, ?_, ht_, ⟨bpn_fr a5_ g_ (ha_ _ (by decide) (by decide)) (ha_ _ (by decide) (by decide)) (ha_ _ (by decide) (by decide)) (ha_ _ (by decide) (by decide)), bpp_fr a6_ g_ (h2_ _ (by decide)) (h2_ _ (by decide)) (h2_ _ (by decide)) (h2_ _ (by decide)) (ha_ _ (by decide) (by decide)) (ha_ _ (by decide) (by decide)), ?_⟩, ?_⟩
  · rw [g_.1 2 i_ 1 (h2_ _ (by decide)), g_.1 2 i_ 2 (h2_ _ (by decide)), g_.1 2 i_ 3 (h2_ _ (by decide))]; exact a1_
  · rw [g_.1 2 i_ 4 (h2_ _ (by decide)), g_.1 2 i_ 2 (h2_ _ (by decide))]; exact a2_
  · rw [g_.1 2 i_ 5 (h2_ _ (by decide)), g_.1 2 i_ 2 (h2_ _ (by decide))]; exact a3_
  · unfold bpl
    rw [g_.1 0 (0 + i_) 0 (h0_ _ (by decide)), g_.1 0 (0 + i_) 1 (h0_ _ (by decide)), g_.1 0 (0 + i_) 2 (h0_ _ (by decide)), g_.1 2 i_ 1 (h2_ _ (by decide)), g_.1 2 i_ 2 (h2_ _ (by decide)), g_.1 2 i_ 3 (h2_ _ (by decide)), g_.1 2 i_ 8 (h2_ _ (by decide)), fr_arr g_ (ha_ 14 (by decide) (by decide)), fr_arr g_ (ha_ 15 (by decide) (by decide)), fr_arr g_ (ha_ 16 (by decide) (by decide))]
    exact a7_
  · unfold bst
    rw [g_.1 0 (0 + i_) 11 (h0_ _ (by decide)), fr_arr g_ (ha_ 22 (by decide) (by decide)), fr_arr g_ (ha_ 23 (by decide) (by decide)), g_.1 2 i_ 1 (h2_ _ (by decide)), g_.1 2 i_ 2 (h2_ _ (by decide)), g_.1 2 i_ 8 (h2_ _ (by decide))]
    exact a8_
