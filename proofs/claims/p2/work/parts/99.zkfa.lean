/-! wires: distances; written by wip/p55/gen/vg -/

/-! a_ net's tree; its_ distances -/
def trt (bb_ : Nat) (t_ : Int) (S_ : sm_S) : Prop := S_.1 8 0 11 = (cne (S_.2.2.1 22 (0 + bb_)) t_ (2 * S_.1 8 0 2).toNat : Int) ∧ (∀ i_ : Nat, (i_ : Int) < S_.1 8 0 11 → (0 ≤ S_.2.2.1 90 0 i_ ∧ S_.2.2.1 90 0 i_ < 2 * S_.1 8 0 2) ∧ S_.2.2.1 22 (0 + bb_) (S_.2.2.1 90 0 i_).toNat = t_) ∧ ∀ p_ : Nat, (p_ : Int) < 2 * S_.1 8 0 2 → S_.2.2.1 22 (0 + bb_) p_ = t_ → ∃ i_ : Nat, (i_ : Int) < S_.1 8 0 11 ∧ S_.2.2.1 90 0 i_ = (p_ : Int)
theorem rpt_fr {w_ : sx_Wl} {bb_ : Nat} {S_ S'_ : sm_S} (h_ : rpt bb_ S_) (g_ : ai_fr (sx_W w_) S_ S'_) (h0_ : (sx_W w_).1 0 0 = false := by rfl) (h1_ : (sx_W w_).1 8 2 = false := by rfl) (a1_ : (sx_W w_).2.1 14 = false := by rfl) (a2_ : (sx_W w_).2.1 15 = false := by rfl) (a3_ : (sx_W w_).2.1 18 = false := by rfl) (a4_ : (sx_W w_).2.1 19 = false := by rfl) (a5_ : (sx_W w_).2.1 20 = false := by rfl) : rpt bb_ S'_ := by
  intro c_ hc_ k_ hk_
  have e_ : ppk bb_ S'_ c_ k_ = ppk bb_ S_ c_ k_ := by
    unfold ppk ppt ppx ppy
    rw [fr_arr g_ a1_, fr_arr g_ a2_, fr_arr g_ a3_, fr_arr g_ a4_, g_.1 0 bb_ 0 h0_]
  rw [fr_arr g_ a5_] at hk_
  rw [e_, g_.1 8 0 2 h1_]
  exact h_ c_ hc_ k_ hk_
theorem rsp_0 {bb_ : Nat} {t_ : Int} {S_ : sm_S} (L0_ : 0 ≤ S_.1 8 0 2) (hd_ : ∀ p_ : Nat, (p_ : Int) < 2 * S_.1 8 0 2 → S_.2.2.1 86 0 p_ = -1 ∨ S_.2.2.1 86 0 p_ = 0) (hz_ : ∀ p_ : Nat, (p_ : Int) < 2 * S_.1 8 0 2 → (S_.2.2.1 86 0 p_ = 0 ↔ S_.2.2.1 22 (0 + bb_) p_ = t_)) (hn_ : S_.1 8 0 6 = (cne (S_.2.2.1 22 (0 + bb_)) t_ (2 * S_.1 8 0 2).toNat : Int)) (hf_ : S_.1 8 0 8 = 0) (hc_ : ∀ i_ : Nat, (i_ : Int) < S_.1 8 0 6 → (0 ≤ S_.2.2.1 87 0 i_ ∧ S_.2.2.1 87 0 i_ < 2 * S_.1 8 0 2) ∧ S_.2.2.1 22 (0 + bb_) (S_.2.2.1 87 0 i_).toNat = t_) : rsp bb_ t_ S_ := by
  refine ⟨hz_, fun p_ hp_ h0_ => ?_, ?_, fun i_ hi_ => ?_, fun i_ hi_ => ?_, fun p_ hp_ => ?_⟩
  · rcases hd_ p_ hp_ with z_ | z_ <;> (exfalso; omega)
  · have u_ := cne_cp (f := S_.2.2.1 86 0) (g := S_.2.2.1 22 (0 + bb_)) (c := -1) (d := t_) (n := (2 * S_.1 8 0 2).toNat) (fun k_ hk_ => by
      rw [← hz_ k_ (by omega)]
      rcases hd_ k_ (by omega) with z_ | z_ <;> omega)
    omega
  · have a_ := hc_ i_ hi_
    refine ⟨a_.1, ?_⟩
    have b_ := (hz_ (S_.2.2.1 87 0 i_).toNat (by omega)).mpr a_.2
    omega
  · exfalso; omega
  · rcases hd_ p_ hp_ with z_ | z_ <;> omega
/-! java/util/Arrays.rangeCheck -/
def vw_6 : sx_Wl := ([], [], [])
def vq_6 (a0_ : Int) (a1_ : Int) (a2_ : Int) (S0_ : sm_S) (u_ : Option sm_V) (S1_ : sm_S) : Prop := u_ = none ∧ gi S1_ ∧ ai_fr (sx_W vw_6) S0_ S1_ ∧ (S1_ = S0_)
set_option maxHeartbeats 400000 in
theorem vc_6 {sc_ : Nat × (Nat → Int)} (a0_ : Int) (a1_ : Int) (a2_ : Int) (S0_ : sm_S) (hI_ : gi S0_) (h0_ : 0 ≤ a1_ ∧ a1_ ≤ a2_ ∧ a2_ ≤ a0_) : sm_T (mt_P sc_) 0 6 (0, [some (.inl a0_), some (.inl a1_), some (.inl a2_)], [], S0_) (fun ro9_ => ∃ u_ S1_, ro9_ = (.inl u_, S1_, 0) ∧ vq_6 a0_ a1_ a2_ S0_ u_ S1_) := by
  have hF_ : ai_fr (sx_W vw_6) S0_ S0_ := ai_fr_rf
  refine sm_T_go 2 (c1 := (2, [some (.inl a0_), some (.inl a1_), some (.inl a2_)], [.inl a2_, .inl a1_], S0_)) rfl ?_
  refine sm_T_br (a := 5) (z := 44) rfl (fun cx1_ => ?_) (fun cx1_ => ?_)
  · have cx1_ : a1_ ≤ a2_ := of_decide_eq_true cx1_
    refine sm_T_go 1 (c1 := (47, [some (.inl a0_), some (.inl a1_), some (.inl a2_)], [.inl a1_], S0_)) rfl ?_
    refine sm_T_b0 (a := 3) (z := 12) rfl (fun cx2_ => ?_) (fun cx2_ => ?_)
    · have cx2_ : 0 ≤ a1_ := of_decide_eq_true cx2_
      refine sm_T_go 2 (c1 := (61, [some (.inl a0_), some (.inl a1_), some (.inl a2_)], [.inl a0_, .inl a2_], S0_)) rfl ?_
      refine sm_T_br (a := 5) (z := 12) rfl (fun cx3_ => ?_) (fun cx3_ => ?_)
      · have cx3_ : a2_ ≤ a0_ := of_decide_eq_true cx3_
        refine sm_T_rv rfl ⟨_, _, rfl, rfl, hI_, hF_, ?_⟩
        rfl
      · have cx3_ : ¬ (a2_ ≤ a0_) := of_decide_eq_false cx3_
        exfalso; omega
    · have cx2_ : ¬ (0 ≤ a1_) := of_decide_eq_false cx2_
      exfalso; omega
  · have cx1_ : ¬ (a1_ ≤ a2_) := of_decide_eq_false cx1_
    exfalso; omega
