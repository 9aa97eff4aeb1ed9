/-! the face of the class: boards; written by wip/p55/gen/vg -/

/-! a_ chip's board changes -/
theorem jC_bd {w_ : sx_Wl} {i_ : Nat} {S_ S'_ : sm_S} (h_ : jC S_) (u_ : S_.1 2 i_ 0 = 1 ∧ i_ < 4) (g_ : ai_fr (sx_W w_) S_ S'_) (c_ : cdf (0 + i_) S_ S'_) (hl_ : bpl (0 + i_) i_ S'_) (hr_ : S'_.1 0 (0 + i_) 11 = 0 ∨ S'_.1 0 (0 + i_) 11 = S_.1 0 (0 + i_) 11) (d1_ : ∀ k_, k_ < 7 → (sx_W w_).1 3 k_ = false) (d2_ : ∀ t_, t_ < 48 → 42 ≤ t_ → (sx_W w_).2.1 t_ = false) (h2_ : ∀ k_, k_ < 9 → (sx_W w_).1 2 k_ = false) (ha_ : ∀ t_, t_ < 24 → 16 ≤ t_ → t_ ≠ 21 → (sx_W w_).2.1 t_ = false) (hb_ : (sx_W w_).2.1 34 = false := by rfl) (t1_ : (sx_W w_).1 11 5 = false := by rfl) (t2_ : (sx_W w_).2.1 102 = false := by rfl) (t3_ : (sx_W w_).2.1 104 = false := by rfl) (t4_ : (sx_W w_).2.1 105 = false := by rfl) (t5_ : (sx_W w_).2.1 95 = false := by rfl) : jC S'_ := by
  refine ⟨dAll_fr h_.1 g_ d1_ d2_, cAll_cd h_.2.1 (cdf_cg (Nat.zero_add i_) c_) (fun _ => ?_), tpo_fr h_.2.2.1 g_ t1_ t2_ t3_ t4_, shn_fr h_.2.2.2 g_ t5_⟩
  obtain ⟨a1_, a2_, a3_, a4_, ⟨a5_, a6_, a7_⟩, a8_⟩ := h_.2.1 i_ u_.2 u_.1
  refine ⟨?_, ?_, ?_, ?_, ⟨bpn_fr a5_ g_ (ha_ _ (by decide) (by decide) (by decide)) (ha_ _ (by decide) (by decide) (by decide)) (ha_ _ (by decide) (by decide) (by decide)) (ha_ _ (by decide) (by decide) (by decide)), bpp_fr a6_ g_ (h2_ _ (by decide)) (h2_ _ (by decide)) (h2_ _ (by decide)) (h2_ _ (by decide)) (ha_ _ (by decide) (by decide) (by decide)) (ha_ _ (by decide) (by decide) (by decide)), hl_⟩, fun q_ => ?_⟩
  · rw [g_.1 2 i_ 1 (h2_ _ (by decide)), g_.1 2 i_ 2 (h2_ _ (by decide)), g_.1 2 i_ 3 (h2_ _ (by decide))]; exact a1_
  · rw [g_.1 2 i_ 4 (h2_ _ (by decide)), g_.1 2 i_ 2 (h2_ _ (by decide))]; exact a2_
  · rw [g_.1 2 i_ 5 (h2_ _ (by decide)), g_.1 2 i_ 2 (h2_ _ (by decide))]; exact a3_
  · unfold ctb
    rw [fr_arr g_ hb_, g_.1 2 i_ 2 (h2_ _ (by decide))]; exact a4_
  · unfold bst
    rw [fr_arr g_ (ha_ 22 (by decide) (by decide) (by decide)), fr_arr g_ (ha_ 23 (by decide) (by decide) (by decide)), g_.1 2 i_ 1 (h2_ _ (by decide)), g_.1 2 i_ 2 (h2_ _ (by decide)), g_.1 2 i_ 8 (h2_ _ (by decide))]
    exact a8_ (by omega)
/-! ChipFlow.run -/
def vw_235 : sx_Wl := ([(2, 5)], [], [])
def vq_235 (kk_ : Int) (ip_ : Int) (S0_ : sm_S) (u_ : Option sm_V) (S1_ : sm_S) : Prop := ∃ v_ : Int, u_ = some (.inl v_) ∧ gi S1_ ∧ ai_fr (sx_W vw_235) S0_ S1_ ∧ (jC S1_)
def vx_235 (kk_ : Int) (ip_ : Int) (S0_ : sm_S) (S1_ : sm_S) : Prop := gi S1_ ∧ ai_fr (sx_W vw_235) S0_ S1_ ∧ (S1_ = S0_)
set_option maxHeartbeats 400000 in
theorem vc_235 {sc_ : Nat × (Nat → Int)} (kk_ : Int) (ip_ : Int) (S0_ : sm_S) (hI_ : gi S0_) (hJ_ : jC S0_) : sm_T (mt_P sc_) 2 235 (0, [some (.inr (.inr (some (12, 0)))), some (.inl kk_), some (.inl ip_), none, none], [], S0_) (fun ro9_ => (∃ u_ S1_, ro9_ = (.inl u_, S1_, 0) ∧ vq_235 kk_ ip_ S0_ u_ S1_) ∨ ∃ ex_ S1_, ro9_ = (.inr ex_, S1_, 1) ∧ ex_ ∈ ([0, 1] : List Nat) ∧ vx_235 kk_ ip_ S0_ S1_) := by
  have hF_ : ai_fr (sx_W vw_235) S0_ S0_ := ai_fr_rf
  refine sm_T_go 2 (c1 := (2, [some (.inr (.inr (some (12, 0)))), some (.inl kk_), some (.inl ip_), none, none], [.inl kk_, .inr (.inr (some (12, 0)))], S0_)) rfl ?_
  refine sm_T_cale (d1_ := 1) (Q1_ := vq_272 kk_ S0_) (Q2_ := (fun ex_ S1_ => ex_ ∈ ([0] : List Nat) ∧ vx_272 kk_ S0_ S1_)) rfl rfl (by decide) (vc_272 kk_ S0_ hI_ ) rfl (fun xx6_ Sx1_ px4_ => ?_) (fun u_ Sx1_ px4_ => ?_)
  · obtain ⟨px4m, hIx2_, hFx3_, px4_⟩ := px4_
    refine Or.inr ⟨_, _, rfl, by first | exact px4m | (simp only [List.mem_cons, List.not_mem_nil, or_false] at px4m ⊢; omega), hIx2_, ai_fr_tr hF_ (fr_le hFx3_ rfl), ?_⟩
    first | exact px4_.2 | exact px4_ | rfl
  obtain ⟨rfl, -, -, rfl, px4_⟩ := px4_
  have a9_ := px4_
  have J9_ := hJ_.2.1 kk_.toNat (by omega) a9_.2
  have J1_ := J9_.1
  have q9_ := a9_.2
  have c8_ : 0 ≤ S0_.1 2 (kk_.toNat) 8 ∧ S0_.1 2 (kk_.toNat) 8 ≤ 150 := hI_.1 2 (kk_.toNat) 8 rfl
  have c1_ : 0 ≤ S0_.1 2 (kk_.toNat) 1 ∧ S0_.1 2 (kk_.toNat) 1 ≤ 12 := hI_.1 2 (kk_.toNat) 1 rfl
  have c2_ : 0 ≤ S0_.1 2 (kk_.toNat) 2 ∧ S0_.1 2 (kk_.toNat) 2 ≤ 6 := hI_.1 2 (kk_.toNat) 2 rfl
  refine sm_T_go 2 (c1 := (7, [some (.inr (.inr (some (12, 0)))), some (.inl kk_), some (.inl ip_), some (.inr (.inr (some (2, kk_.toNat)))), none], [.inl ip_], S0_)) rfl ?_
  refine sm_T_b0 (a := 2) (z := 17) rfl (fun cx7_ => ?_) (fun cx7_ => ?_)
  · have cx7_ : ip_ < 0 := of_decide_eq_true cx7_
    refine sm_T_go 1 (c1 := (25, [some (.inr (.inr (some (12, 0)))), some (.inl kk_), some (.inl ip_), some (.inr (.inr (some (2, kk_.toNat)))), none], [.inl 0], S0_)) rfl ?_
    refine sm_T_cale (d1_ := 0) (Q1_ := vq_266e 0 S0_) (Q2_ := (fun ex_ S1_ => ex_ ∈ ([1] : List Nat) ∧ vx_266e 0 S0_ S1_)) rfl rfl (by decide) (vc_266e 0 S0_ hI_ ) rfl (fun xx13_ Sx8_ px11_ => ?_) (fun u_ Sx8_ px11_ => ?_)
    · obtain ⟨px11m, hIx9_, hFx10_, px11_⟩ := px11_
      refine Or.inr ⟨_, _, rfl, by first | exact px11m | (simp only [List.mem_cons, List.not_mem_nil, or_false] at px11m ⊢; omega), hIx9_, ai_fr_tr hF_ (fr_le hFx10_ rfl), ?_⟩
      first | exact px11_.2 | exact px11_ | rfl
    · exact absurd rfl px11_.2.2.2.1
  · have cx7_ : ¬ (ip_ < 0) := of_decide_eq_false cx7_
    have bx14_ : 0 ≤ S0_.1 2 kk_.toNat 1 ∧ S0_.1 2 kk_.toNat 1 ≤ 12 := hI_.1 2 kk_.toNat 1 rfl
    refine sm_T_go 4 (c1 := (16, [some (.inr (.inr (some (12, 0)))), some (.inl kk_), some (.inl ip_), some (.inr (.inr (some (2, kk_.toNat)))), none], [.inl (S0_.1 2 kk_.toNat 1), .inl 1, .inl ip_], S0_)) rfl ?_
    refine sm_T_bin (w := (i_shl 1 (S0_.1 2 kk_.toNat 1))) rfl rfl ?_ -- pc_ 16
    have bx15_ := i_shl1 (e := (S0_.1 2 kk_.toNat 1)) (by omega) (by omega)
    have hp0_ := pw_pos ((S0_.1 2 kk_.toNat 1)).toNat
    refine sm_T_br (a := 3) (z := 7) rfl (fun cx17_ => ?_) (fun cx17_ => ?_)
    · have cx17_ : (i_shl 1 (S0_.1 2 kk_.toNat 1)) ≤ ip_ := of_decide_eq_true cx17_
      refine sm_T_go 1 (c1 := (25, [some (.inr (.inr (some (12, 0)))), some (.inl kk_), some (.inl ip_), some (.inr (.inr (some (2, kk_.toNat)))), none], [.inl 0], S0_)) rfl ?_
      refine sm_T_cale (d1_ := 0) (Q1_ := vq_266e 0 S0_) (Q2_ := (fun ex_ S1_ => ex_ ∈ ([1] : List Nat) ∧ vx_266e 0 S0_ S1_)) rfl rfl (by decide) (vc_266e 0 S0_ hI_ ) rfl (fun xx23_ Sx18_ px21_ => ?_) (fun u_ Sx18_ px21_ => ?_)
      · obtain ⟨px21m, hIx19_, hFx20_, px21_⟩ := px21_
        refine Or.inr ⟨_, _, rfl, by first | exact px21m | (simp only [List.mem_cons, List.not_mem_nil, or_false] at px21m ⊢; omega), hIx19_, ai_fr_tr hF_ (fr_le hFx20_ rfl), ?_⟩
        first | exact px21_.2 | exact px21_ | rfl
      · exact absurd rfl px21_.2.2.2.1
    · have cx17_ : ¬ ((i_shl 1 (S0_.1 2 kk_.toNat 1)) ≤ ip_) := of_decide_eq_false cx17_
      refine sm_T_go 2 (c1 := (25, [some (.inr (.inr (some (12, 0)))), some (.inl kk_), some (.inl ip_), some (.inr (.inr (some (2, kk_.toNat)))), none], [.inl 1], S0_)) rfl ?_
      refine sm_T_cale (d1_ := 0) (Q1_ := vq_266e 1 S0_) (Q2_ := (fun ex_ S1_ => ex_ ∈ ([1] : List Nat) ∧ vx_266e 1 S0_ S1_)) rfl rfl (by decide) (vc_266e 1 S0_ hI_ ) rfl (fun xx29_ Sx24_ px27_ => ?_) (fun u_ Sx24_ px27_ => ?_)
      · exact absurd px27_.2.2.2.1 (by decide)
      obtain ⟨rfl, -, -, px27_, rfl⟩ := px27_
      have n25_ := px27_
      have J9d := J9_.2.2.1
      have pt9_ := pat_b (s_ := S0_.1 2 kk_.toNat 5) (i_ := ip_) (R_ := (S0_.1 2 kk_.toNat 2).toNat) (I_ := (S0_.1 2 kk_.toNat 1).toNat) (by omega) (by omega) (by omega)
      have pt8_ := pw_le (n := (S0_.1 2 kk_.toNat 2).toNat + (S0_.1 2 kk_.toNat 1).toNat) (m := 12) (by omega)
      rw [show (((S0_.1 2 kk_.toNat 1).toNat : Nat) : Int) = S0_.1 2 kk_.toNat 1 by omega, i_or_c] at pt9_
      have tb9_ := J9_.2.2.2.1 (i_or ip_ (i_shl (S0_.1 2 kk_.toNat 5) (S0_.1 2 kk_.toNat 1))).toNat (by omega)
      have nx9_ := shr16 tb9_
      have nx8_ := pw_le (n := (S0_.1 2 kk_.toNat 2).toNat) (m := 6) (by omega)
      have bx30_ : 0 ≤ S0_.1 2 kk_.toNat 5 ∧ S0_.1 2 kk_.toNat 5 ≤ 63 := hI_.1 2 kk_.toNat 5 rfl
      refine sm_T_go 7 (c1 := (41, [some (.inr (.inr (some (12, 0)))), some (.inl kk_), some (.inl ip_), some (.inr (.inr (some (2, kk_.toNat)))), none], [.inl (S0_.1 2 kk_.toNat 1), .inl (S0_.1 2 kk_.toNat 5), .inl ip_, .inr (.inr (some (34, (0 + kk_.toNat))))], S0_)) rfl ?_
      refine sm_T_bin (w := (i_shl (S0_.1 2 kk_.toNat 5) (S0_.1 2 kk_.toNat 1))) rfl rfl ?_ -- pc_ 41
      refine sm_T_bin (w := (i_or ip_ (i_shl (S0_.1 2 kk_.toNat 5) (S0_.1 2 kk_.toNat 1)))) rfl rfl ?_ -- pc_ 42
      refine sm_T_iald (n := 4096) rfl rfl (by omega) (by omega) ?_
      have bx31_ : 0 ≤ S0_.2.2.1 34 (0 + kk_.toNat) (i_or ip_ (i_shl (S0_.1 2 kk_.toNat 5) (S0_.1 2 kk_.toNat 1))).toNat ∧ S0_.2.2.1 34 (0 + kk_.toNat) (i_or ip_ (i_shl (S0_.1 2 kk_.toNat 5) (S0_.1 2 kk_.toNat 1))).toNat ≤ 4194303 := hI_.2 34 (0 + kk_.toNat) _
      refine sm_T_go 4 (c1 := (51, [some (.inr (.inr (some (12, 0)))), some (.inl kk_), some (.inl ip_), some (.inr (.inr (some (2, kk_.toNat)))), some (.inl (S0_.2.2.1 34 (0 + kk_.toNat) (i_or ip_ (i_shl (S0_.1 2 kk_.toNat 5) (S0_.1 2 kk_.toNat 1))).toNat))], [.inl 16, .inl (S0_.2.2.1 34 (0 + kk_.toNat) (i_or ip_ (i_shl (S0_.1 2 kk_.toNat 5) (S0_.1 2 kk_.toNat 1))).toNat), .inr (.inr (some (2, kk_.toNat)))], S0_)) rfl ?_
      refine sm_T_bin (w := ((S0_.2.2.1 34 (0 + kk_.toNat) (i_or ip_ (i_shl (S0_.1 2 kk_.toNat 5) (S0_.1 2 kk_.toNat 1))).toNat) / 65536)) rfl (bi_shr (k := 16) (by decide) (by omega) (by omega)) ?_ -- pc_ 51
      have hIx32_ : gi (sm_pI S0_ 2 kk_.toNat 5 ((S0_.2.2.1 34 (0 + kk_.toNat) (i_or ip_ (i_shl (S0_.1 2 kk_.toNat 5) (S0_.1 2 kk_.toNat 1))).toNat) / 65536)) := gi_pI hI_ (show 0 ≤ ((S0_.2.2.1 34 (0 + kk_.toNat) (i_or ip_ (i_shl (S0_.1 2 kk_.toNat 5) (S0_.1 2 kk_.toNat 1))).toNat) / 65536) ∧ ((S0_.2.2.1 34 (0 + kk_.toNat) (i_or ip_ (i_shl (S0_.1 2 kk_.toNat 5) (S0_.1 2 kk_.toNat 1))).toNat) / 65536) ≤ 63 from ⟨by omega, by omega⟩)
      have hFx33_ : ai_fr (sx_W vw_235) S0_ (sm_pI S0_ 2 kk_.toNat 5 ((S0_.2.2.1 34 (0 + kk_.toNat) (i_or ip_ (i_shl (S0_.1 2 kk_.toNat 5) (S0_.1 2 kk_.toNat 1))).toNat) / 65536)) := ai_fr_tr hF_ (ai_fr_pI rfl)
      refine sm_T_go 2 (c1 := (57, [some (.inr (.inr (some (12, 0)))), some (.inl kk_), some (.inl ip_), some (.inr (.inr (some (2, kk_.toNat)))), some (.inl (S0_.2.2.1 34 (0 + kk_.toNat) (i_or ip_ (i_shl (S0_.1 2 kk_.toNat 5) (S0_.1 2 kk_.toNat 1))).toNat))], [.inl (S0_.2.2.1 34 (0 + kk_.toNat) (i_or ip_ (i_shl (S0_.1 2 kk_.toNat 5) (S0_.1 2 kk_.toNat 1))).toNat)], sm_pI S0_ 2 kk_.toNat 5 ((S0_.2.2.1 34 (0 + kk_.toNat) (i_or ip_ (i_shl (S0_.1 2 kk_.toNat 5) (S0_.1 2 kk_.toNat 1))).toNat) / 65536))) rfl ?_
      refine sm_T_nt (u := some (.inl 65535)) (S1 := sm_pI S0_ 2 kk_.toNat 5 ((S0_.2.2.1 34 (0 + kk_.toNat) (i_or ip_ (i_shl (S0_.1 2 kk_.toNat 5) (S0_.1 2 kk_.toNat 1))).toNat) / 65536)) rfl rfl rfl ?_
      refine sm_T_bin (w := ((S0_.2.2.1 34 (0 + kk_.toNat) (i_or ip_ (i_shl (S0_.1 2 kk_.toNat 5) (S0_.1 2 kk_.toNat 1))).toNat) % 65536)) rfl (bi_msk (k := 16) (by decide)) ?_ -- pc_ 59
      refine sm_T_ri rfl (Or.inl ⟨_, _, rfl, _, rfl, hIx32_, hFx33_, ?_⟩)
      first | exact jC_st hJ_ ⟨a9_.2, by omega⟩ nx9_ | exact jC_st hJ_ ⟨a9_.2, by omega⟩ (by simpa using nx9_)
