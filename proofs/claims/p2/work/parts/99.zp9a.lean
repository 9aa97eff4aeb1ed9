/-! the face of the class: draw; written by wip/p55/gen/vg -/

/-! the_ face: draw -/
theorem idx_b {y_ W_ x_ : Int} (hy_ : 0 ≤ y_ ∧ y_ ≤ 75) (hW_ : 0 ≤ W_ ∧ W_ ≤ 62) (hx_ : 0 ≤ x_ ∧ x_ < W_) : (y_ * W_ + x_).toNat < 4712 := by
  have a_ : y_ * W_ ≤ 75 * W_ := Int.mul_le_mul_of_nonneg_right hy_.2 hW_.1
  have b_ : 0 ≤ y_ * W_ := Int.mul_nonneg hy_.1 hW_.1
  omega
theorem cg_zb {g_ : Nat → Nat → Int} {c_ : Int} {w_ : Nat} : ∀ {h_ : Nat}, (∀ y_ x_, y_ < h_ → x_ < w_ → g_ y_ x_ ≠ c_) → cg g_ c_ w_ h_ = 0
  | 0, _ => rfl
  | h_ + 1, q_ => by rw [cg_s, cg_zb (h_ := h_) (fun y_ x_ a_ b_ => q_ y_ x_ (by omega) b_), cne_0 (fun x_ hx_ => q_ h_ x_ (by omega) hx_)]
theorem btot_zb {bb_ : Nat} {S_ : sm_S} {c_ : Int} (hc_ : 0 ≤ c_) (hw_ : 0 ≤ S_.1 0 bb_ 0 ∧ S_.1 0 bb_ 0 ≤ 60) (hh_ : 0 ≤ S_.1 0 bb_ 2 ∧ S_.1 0 bb_ 2 ≤ 38) (h_ : ∀ k_, k_ < 4712 → S_.2.2.1 22 (0 + bb_) k_ ≠ c_) : btot bb_ S_ c_ = 0 := by
  have n_ : (-1 : Int) ≠ c_ := by omega
  unfold btot gtw gth
  rw [cg_zb, cg_zb, cg_zb]
  · intro y_ x_ hy_ hx_
    unfold gt2 tk2
    split
    · exact n_
    · exact h_ _ (idx_b (by omega) (by omega) (by omega))
  · intro x_ y_ hx_ hy_
    unfold gt1 tk1
    split
    · exact n_
    · split
      · exact n_
      · exact h_ _ (idx_b (by omega) (by omega) (by omega))
  · intro y_ x_ hy_ hx_
    unfold gt0 tk0
    split
    · exact n_
    · split
      · exact n_
      · exact h_ _ (idx_b (by omega) (by omega) (by omega))
/-! ChipFlow.draw -/
def vw_246 : sx_Wl := ([(4, 0), (4, 1), (4, 9), (4, 10), (4, 11)], [48, 49], [])
def vq_246 (kk_ : Int) (S0_ : sm_S) (u_ : Option sm_V) (S1_ : sm_S) : Prop := ∃ v_ : Int, u_ = some (.inl v_) ∧ gi S1_ ∧ ai_fr (sx_W vw_246) S0_ S1_ ∧ (jC S1_)
def vx_246 (kk_ : Int) (S0_ : sm_S) (S1_ : sm_S) : Prop := gi S1_ ∧ ai_fr (sx_W vw_246) S0_ S1_ ∧ (jC S1_)
set_option maxHeartbeats 400000 in
theorem vc_246 {sc_ : Nat × (Nat → Int)} (kk_ : Int) (S0_ : sm_S) (hI_ : gi S0_) (hJ_ : jC S0_) : sm_T (mt_P sc_) 5 246 (0, [some (.inr (.inr (some (12, 0)))), some (.inl kk_), none, none], [], S0_) (fun ro9_ => (∃ u_ S1_, ro9_ = (.inl u_, S1_, 0) ∧ vq_246 kk_ S0_ u_ S1_) ∨ ∃ ex_ S1_, ro9_ = (.inr ex_, S1_, 1) ∧ ex_ ∈ ([0, 2, 3] : List Nat) ∧ vx_246 kk_ S0_ S1_) := by
  have hF_ : ai_fr (sx_W vw_246) S0_ S0_ := ai_fr_rf
  refine sm_T_go 2 (c1 := (2, [some (.inr (.inr (some (12, 0)))), some (.inl kk_), none, none], [.inl kk_, .inr (.inr (some (12, 0)))], S0_)) rfl ?_
  refine sm_T_cale (d1_ := 1) (Q1_ := vq_272 kk_ S0_) (Q2_ := (fun ex_ S1_ => ex_ ∈ ([0] : List Nat) ∧ vx_272 kk_ S0_ S1_)) rfl rfl (by decide) (vc_272 kk_ S0_ hI_ ) rfl (fun xx6_ Sx1_ px4_ => ?_) (fun u_ Sx1_ px4_ => ?_)
  · obtain ⟨px4m, hIx2_, hFx3_, px4_⟩ := px4_
    refine Or.inr ⟨_, _, rfl, by first | exact px4m | (simp only [List.mem_cons, List.not_mem_nil, or_false] at px4m ⊢; omega), hIx2_, ai_fr_tr hF_ (fr_le hFx3_ rfl), ?_⟩
    first | (rw [px4_.2]; exact hJ_) | (rw [px4_]; exact hJ_)
  obtain ⟨rfl, -, -, rfl, px4_⟩ := px4_
  have a9_ := px4_
  have J9_ := hJ_.2.1 kk_.toNat (by omega) a9_.2
  have J1_ := J9_.1
  have q9_ := a9_.2
  have c8_ : 0 ≤ S0_.1 2 (kk_.toNat) 8 ∧ S0_.1 2 (kk_.toNat) 8 ≤ 150 := hI_.1 2 (kk_.toNat) 8 rfl
  have c1_ : 0 ≤ S0_.1 2 (kk_.toNat) 1 ∧ S0_.1 2 (kk_.toNat) 1 ≤ 12 := hI_.1 2 (kk_.toNat) 1 rfl
  have c2_ : 0 ≤ S0_.1 2 (kk_.toNat) 2 ∧ S0_.1 2 (kk_.toNat) 2 ≤ 6 := hI_.1 2 (kk_.toNat) 2 rfl
  have bx7_ : 0 ≤ S0_.1 0 (0 + kk_.toNat) 11 ∧ S0_.1 0 (0 + kk_.toNat) 11 ≤ 1 := hI_.1 0 (0 + kk_.toNat) 11 rfl
  refine sm_T_go 4 (c1 := (13, [some (.inr (.inr (some (12, 0)))), some (.inl kk_), some (.inr (.inr (some (2, kk_.toNat)))), none], [.inl (S0_.1 0 (0 + kk_.toNat) 11)], S0_)) rfl ?_
  refine sm_T_cale (d1_ := 0) (Q1_ := vq_267e (S0_.1 0 (0 + kk_.toNat) 11) S0_) (Q2_ := (fun ex_ S1_ => ex_ ∈ ([2] : List Nat) ∧ vx_267e (S0_.1 0 (0 + kk_.toNat) 11) S0_ S1_)) rfl rfl (by decide) (vc_267e (S0_.1 0 (0 + kk_.toNat) 11) S0_ hI_ ) rfl (fun xx13_ Sx8_ px11_ => ?_) (fun u_ Sx8_ px11_ => ?_)
  · obtain ⟨px11m, hIx9_, hFx10_, px11_⟩ := px11_
    refine Or.inr ⟨_, _, rfl, by first | exact px11m | (simp only [List.mem_cons, List.not_mem_nil, or_false] at px11m ⊢; omega), hIx9_, ai_fr_tr hF_ (fr_le hFx10_ rfl), ?_⟩
    first | (rw [px11_.2]; exact hJ_) | (rw [px11_]; exact hJ_)
  obtain ⟨rfl, -, -, px11_, rfl⟩ := px11_
  have n13_ := px11_
  have cr : 0 ≤ S0_.1 0 (0 + kk_.toNat) 11 ∧ S0_.1 0 (0 + kk_.toNat) 11 ≤ 1 := hI_.1 0 (0 + kk_.toNat) 11 rfl
  have cs_ : 0 ≤ S0_.1 0 (0 + kk_.toNat) 0 ∧ S0_.1 0 (0 + kk_.toNat) 0 ≤ 60 := hI_.1 0 (0 + kk_.toNat) 0 rfl
  have ch_ : 0 ≤ S0_.1 0 (0 + kk_.toNat) 2 ∧ S0_.1 0 (0 + kk_.toNat) 2 ≤ 38 := hI_.1 0 (0 + kk_.toNat) 2 rfl
  have R9_ := J9_.2.2.2.2.2 (by omega)
  refine sm_T_go 6 (c1 := (28, [some (.inr (.inr (some (12, 0)))), some (.inl kk_), some (.inr (.inr (some (2, kk_.toNat)))), none], [.inr (.inr (some (2, kk_.toNat))), .inr (.inr (some (0, (0 + kk_.toNat)))), .inr (.inr (some (4, (0 + (0 + kk_.toNat)))))], S0_)) rfl ?_
  refine sm_T_cal (d1 := 0) (Q1 := vq_55 kk_.toNat S0_) rfl rfl (by decide) (vc_55 kk_.toNat S0_ hI_ ) (fun u_ Sx14_ px17_ => ?_)
  obtain ⟨rfl, vx19_, rfl, px17_⟩ := px17_
  have n28_ := px17_
  obtain ⟨N9_, hN9_⟩ : ∃ N9_, N9_ = vx19_ := ⟨_, rfl⟩
  refine sm_T_cal (d1 := 4) (Q1 := vq_71 vx19_ (0 + (0 + kk_.toNat)) (0 + kk_.toNat) S0_) rfl rfl (by decide) (vc_71 vx19_ (0 + (0 + kk_.toNat)) (0 + kk_.toNat) S0_ hI_ (by omega) (by exact R9_.1)) (fun u_ Sx20_ px23_ => ?_)
  obtain ⟨vx25_, rfl, hIx21_, hFx22_, px23_⟩ := px23_
  have hFx24_ : ai_fr (sx_W vw_246) S0_ Sx20_ := ai_fr_tr hF_ (fr_le hFx22_ rfl)
  obtain ⟨dx26_, px23_⟩ := px23_
  have p31_ := px23_
  rw [← hN9_] at p31_
  have g31_ := hFx22_
  have J8_ := jC_fr hJ_ hFx24_ (by decide) (by decide) (by decide) (by decide) (by decide) rfl rfl rfl rfl rfl rfl
  have y1_ := hFx22_.1 2 kk_.toNat 1 rfl
  have y2_ := hFx22_.1 2 kk_.toNat 2 rfl
  have y8_ := hFx22_.1 2 kk_.toNat 8 rfl
  refine sm_T_go 3 (c1 := (39, [some (.inr (.inr (some (12, 0)))), some (.inl kk_), some (.inr (.inr (some (2, kk_.toNat)))), some (.inl vx25_)], [.inl 2000, .inl vx25_], Sx20_)) rfl ?_
  refine sm_T_br (a := 4) (z := 7) rfl (fun cx27_ => ?_) (fun cx27_ => ?_)
  · have cx27_ : 2000 < vx25_ := of_decide_eq_true cx27_
    refine sm_T_go 1 (c1 := (47, [some (.inr (.inr (some (12, 0)))), some (.inl kk_), some (.inr (.inr (some (2, kk_.toNat)))), some (.inl vx25_)], [.inl 0], Sx20_)) rfl ?_
    refine sm_T_cale (d1_ := 0) (Q1_ := vq_268e 0 Sx20_) (Q2_ := (fun ex_ S1_ => ex_ ∈ ([3] : List Nat) ∧ vx_268e 0 Sx20_ S1_)) rfl rfl (by decide) (vc_268e 0 Sx20_ hIx21_ ) rfl (fun xx33_ Sx28_ px31_ => ?_) (fun u_ Sx28_ px31_ => ?_)
    · obtain ⟨px31m, hIx29_, hFx30_, px31_⟩ := px31_
      refine Or.inr ⟨_, _, rfl, by first | exact px31m | (simp only [List.mem_cons, List.not_mem_nil, or_false] at px31m ⊢; omega), hIx29_, ai_fr_tr hFx24_ (fr_le hFx30_ rfl), ?_⟩
      rw [px31_.2]; exact J8_
    · exact absurd rfl px31_.2.2.2.1
  · have cx27_ : ¬ (2000 < vx25_) := of_decide_eq_false cx27_
    refine sm_T_go 2 (c1 := (47, [some (.inr (.inr (some (12, 0)))), some (.inl kk_), some (.inr (.inr (some (2, kk_.toNat)))), some (.inl vx25_)], [.inl 1], Sx20_)) rfl ?_
    refine sm_T_cale (d1_ := 0) (Q1_ := vq_268e 1 Sx20_) (Q2_ := (fun ex_ S1_ => ex_ ∈ ([3] : List Nat) ∧ vx_268e 1 Sx20_ S1_)) rfl rfl (by decide) (vc_268e 1 Sx20_ hIx21_ ) rfl (fun xx39_ Sx34_ px37_ => ?_) (fun u_ Sx34_ px37_ => ?_)
    · exact absurd px37_.2.2.2.1 (by decide)
    obtain ⟨rfl, -, -, px37_, rfl⟩ := px37_
    refine sm_T_go 6 (c1 := (62, [some (.inr (.inr (some (12, 0)))), some (.inl kk_), some (.inr (.inr (some (2, kk_.toNat)))), some (.inl vx25_)], [.inr (.inr (some (2, kk_.toNat))), .inr (.inr (some (0, (0 + kk_.toNat)))), .inr (.inr (some (4, (0 + (0 + kk_.toNat)))))], Sx20_)) rfl ?_
    refine sm_T_cal (d1 := 0) (Q1 := vq_55 kk_.toNat Sx20_) rfl rfl (by decide) (vc_55 kk_.toNat Sx20_ hIx21_ ) (fun u_ Sx40_ px43_ => ?_)
    obtain ⟨rfl, vx45_, rfl, px43_⟩ := px43_
    have n62_ := px43_
    have q62_ : vx45_ = N9_ := by omega
    refine sm_T_cal (d1 := 4) (Q1 := vq_72 vx45_ (0 + (0 + kk_.toNat)) (0 + kk_.toNat) Sx20_) rfl rfl (by decide) (vc_72 vx45_ (0 + (0 + kk_.toNat)) (0 + kk_.toNat) Sx20_ hIx21_ (by omega) (by (unfold bst; rw [fr_arr (t := 22) (i := 0 + (0 + kk_.toNat)) g31_ rfl, fr_arr (t := 23) (i := 0 + (0 + kk_.toNat)) g31_ rfl]; exact R9_.1)) (by (intro p9_ h9_; rw [fr_arr (t := 22) (i := 0 + (0 + kk_.toNat)) g31_ rfl]; have z9_ := R9_.2 p9_ h9_; omega)) (by (intro c9_ h9_; rw [p31_.2 c9_ h9_]; unfold btf; rw [btot_cg (fr_arr g31_ rfl) (fr_arr g31_ rfl) (g31_.1 0 (0 + kk_.toNat) 0 rfl) (g31_.1 0 (0 + kk_.toNat) 2 rfl)])) (by (rw [q62_, ssm_cg (g_ := btf (0 + kk_.toNat) S0_) (fun k9_ _ => by (unfold btf; rw [btot_cg (fr_arr g31_ rfl) (fr_arr g31_ rfl) (g31_.1 0 (0 + kk_.toNat) 0 rfl) (g31_.1 0 (0 + kk_.toNat) 2 rfl)]))]; omega)) (by (intro c9_ h9_; unfold btf; rw [btot_cg (fr_arr g31_ rfl) (fr_arr g31_ rfl) (g31_.1 0 (0 + kk_.toNat) 0 rfl) (g31_.1 0 (0 + kk_.toNat) 2 rfl), btot_zb (by omega) (by omega) (by omega) (fun k9_ h8_ => by (have z9_ := R9_.2 k9_ h8_; omega))]; rfl))) (fun u_ Sx46_ px49_ => ?_)
    obtain ⟨rfl, hIx47_, hFx48_, px49_⟩ := px49_
    have hFx50_ : ai_fr (sx_W vw_246) S0_ Sx46_ := ai_fr_tr hFx24_ (fr_le hFx48_ rfl)
    obtain ⟨dx51_, px49_⟩ := px49_
    refine sm_T_go 1 (c1 := (69, [some (.inr (.inr (some (12, 0)))), some (.inl kk_), some (.inr (.inr (some (2, kk_.toNat)))), some (.inl vx25_)], [.inl vx25_], Sx46_)) rfl ?_
    refine sm_T_ri rfl (Or.inl ⟨_, _, rfl, _, rfl, hIx47_, hFx50_, ?_⟩)
    exact jC_fr hJ_ hFx50_ (by decide) (by decide) (by decide) (by decide) (by decide) rfl rfl rfl rfl rfl rfl
