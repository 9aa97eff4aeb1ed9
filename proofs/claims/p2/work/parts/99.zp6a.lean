/-! the face of the class: wires, layouts; written by wip/p55/gen/vg -/

/-! faces: wires, layouts -/
theorem jC_rt {w_ : sx_Wl} {i_ : Nat} {S_ S'_ : sm_S} (h_ : jC S_) (u_ : S_.1 2 i_ 0 = 1 ∧ i_ < 4) (g_ : ai_fr (sx_W w_) S_ S'_) (c_ : cdf i_ S_ S'_) (hst_ : bst (0 + i_) S'_) (ho_ : ∀ p_ : Nat, p_ < 4712 → S'_.2.2.1 22 (0 + (0 + i_)) p_ < S_.1 2 i_ 1 + S_.1 2 i_ 2 + S_.1 2 i_ 8) (d1_ : ∀ k_, k_ < 7 → (sx_W w_).1 3 k_ = false) (d2_ : ∀ t_, t_ < 48 → 42 ≤ t_ → (sx_W w_).2.1 t_ = false) (h2_ : ∀ k_, k_ < 9 → (sx_W w_).1 2 k_ = false) (h0_ : ∀ k_, k_ < 3 → (sx_W w_).1 0 k_ = false) (ha_ : ∀ t_, t_ < 21 → 14 ≤ t_ → (sx_W w_).2.1 t_ = false) (hb_ : (sx_W w_).2.1 34 = false := by rfl) (t1_ : (sx_W w_).1 11 5 = false := by rfl) (t2_ : (sx_W w_).2.1 102 = false := by rfl) (t3_ : (sx_W w_).2.1 104 = false := by rfl) (t4_ : (sx_W w_).2.1 105 = false := by rfl) (t5_ : (sx_W w_).2.1 95 = false := by rfl) : jC S'_ := by
  refine ⟨dAll_fr h_.1 g_ d1_ d2_, cAll_cd h_.2.1 c_ (fun _ => ?_), tpo_fr h_.2.2.1 g_ t1_ t2_ t3_ t4_, shn_fr h_.2.2.2 g_ t5_⟩
  obtain ⟨a1_, a2_, a3_, a4_, ⟨a5_, a6_, a7_⟩, a8_⟩ := h_.2.1 i_ u_.2 u_.1
  refine ⟨?_, ?_, ?_, ?_, ⟨bpn_fr a5_ g_ (ha_ _ (by decide) (by decide)) (ha_ _ (by decide) (by decide)) (ha_ _ (by decide) (by decide)) (ha_ _ (by decide) (by decide)), bpp_fr a6_ g_ (h2_ _ (by decide)) (h2_ _ (by decide)) (h2_ _ (by decide)) (h2_ _ (by decide)) (ha_ _ (by decide) (by decide)) (ha_ _ (by decide) (by decide)), ?_⟩, fun q_ => ⟨hst_, ?_⟩⟩
  · rw [g_.1 2 i_ 1 (h2_ _ (by decide)), g_.1 2 i_ 2 (h2_ _ (by decide)), g_.1 2 i_ 3 (h2_ _ (by decide))]; exact a1_
  · rw [g_.1 2 i_ 4 (h2_ _ (by decide)), g_.1 2 i_ 2 (h2_ _ (by decide))]; exact a2_
  · rw [g_.1 2 i_ 5 (h2_ _ (by decide)), g_.1 2 i_ 2 (h2_ _ (by decide))]; exact a3_
  · unfold ctb
    rw [fr_arr g_ hb_, g_.1 2 i_ 2 (h2_ _ (by decide))]; exact a4_
  · exact bpl_fr a7_ g_ (h0_ _ (by decide)) (h0_ _ (by decide)) (h0_ _ (by decide)) (h2_ _ (by decide)) (h2_ _ (by decide)) (h2_ _ (by decide)) (h2_ _ (by decide)) (ha_ _ (by decide) (by decide)) (ha_ _ (by decide) (by decide)) (ha_ _ (by decide) (by decide))
  · rw [g_.1 2 i_ 1 (h2_ _ (by decide)), g_.1 2 i_ 2 (h2_ _ (by decide)), g_.1 2 i_ 8 (h2_ _ (by decide))]; exact ho_
/-! ChipFlow.route -/
def vw_243 : sx_Wl := ([(0, 11), (4, 0), (8, 1), (8, 2), (8, 6), (8, 8), (8, 11), (8, 13)], [22, 23, 24, 85, 86, 87, 88, 89, 90, 91], [(8, 0)])
def vq_243 (kk_ : Int) (rd_ : Int) (S0_ : sm_S) (u_ : Option sm_V) (S1_ : sm_S) : Prop := ∃ v_ : Int, u_ = some (.inl v_) ∧ gi S1_ ∧ ai_fr (sx_W vw_243) S0_ S1_ ∧ (cdf kk_.toNat S0_ S1_ ∧ (jC S1_))
def vx_243 (kk_ : Int) (rd_ : Int) (S0_ : sm_S) (S1_ : sm_S) : Prop := gi S1_ ∧ ai_fr (sx_W vw_243) S0_ S1_ ∧ (S1_ = S0_)
set_option maxHeartbeats 400000 in
theorem vc_243 {sc_ : Nat × (Nat → Int)} (kk_ : Int) (rd_ : Int) (S0_ : sm_S) (hI_ : gi S0_) (hJ_ : jC S0_) : sm_T (mt_P sc_) 6 243 (0, [some (.inr (.inr (some (12, 0)))), some (.inl kk_), some (.inl rd_), none], [], S0_) (fun ro9_ => (∃ u_ S1_, ro9_ = (.inl u_, S1_, 0) ∧ vq_243 kk_ rd_ S0_ u_ S1_) ∨ ∃ ex_ S1_, ro9_ = (.inr ex_, S1_, 1) ∧ ex_ ∈ ([0, 1, 2] : List Nat) ∧ vx_243 kk_ rd_ S0_ S1_) := by
  have hF_ : ai_fr (sx_W vw_243) S0_ S0_ := ai_fr_rf
  have hC_ : cdf kk_.toNat S0_ S0_ := cdf_rf
  refine sm_T_go 2 (c1 := (2, [some (.inr (.inr (some (12, 0)))), some (.inl kk_), some (.inl rd_), none], [.inl kk_, .inr (.inr (some (12, 0)))], S0_)) rfl ?_
  refine sm_T_cale (d1_ := 1) (Q1_ := vq_272 kk_ S0_) (Q2_ := (fun ex_ S1_ => ex_ ∈ ([0] : List Nat) ∧ vx_272 kk_ S0_ S1_)) rfl rfl (by decide) (vc_272 kk_ S0_ hI_ ) rfl (fun xx6_ Sx1_ px4_ => ?_) (fun u_ Sx1_ px4_ => ?_)
  · obtain ⟨px4m, hIx2_, hFx3_, px4_⟩ := px4_
    refine Or.inr ⟨_, _, rfl, by first | exact px4m | (simp only [List.mem_cons, List.not_mem_nil, or_false] at px4m ⊢; omega), hIx2_, ai_fr_tr hF_ (fr_le hFx3_ rfl), ?_⟩
    first | exact px4_.2 | exact px4_ | rfl
  obtain ⟨rfl, -, -, rfl, px4_⟩ := px4_
  have a9_ := px4_
  have J9_ := hJ_.2.1 kk_.toNat (by omega) a9_.2
  have J1_ := J9_.1
  have q9_ := a9_.2
  have c8_ : 0 ≤ S0_.1 2 (kk_.toNat) 8 ∧ S0_.1 2 (kk_.toNat) 8 ≤ 150 := hI_.1 2 (kk_.toNat) 8 rfl
  have c1_ : 0 ≤ S0_.1 2 (kk_.toNat) 1 ∧ S0_.1 2 (kk_.toNat) 1 ≤ 12 := hI_.1 2 (kk_.toNat) 1 rfl
  have c2_ : 0 ≤ S0_.1 2 (kk_.toNat) 2 ∧ S0_.1 2 (kk_.toNat) 2 ≤ 6 := hI_.1 2 (kk_.toNat) 2 rfl
  refine sm_T_go 2 (c1 := (7, [some (.inr (.inr (some (12, 0)))), some (.inl kk_), some (.inl rd_), some (.inr (.inr (some (2, kk_.toNat))))], [.inl rd_], S0_)) rfl ?_
  refine sm_T_b0 (a := 2) (z := 13) rfl (fun cx7_ => ?_) (fun cx7_ => ?_)
  · have cx7_ : rd_ < 0 := of_decide_eq_true cx7_
    refine sm_T_go 1 (c1 := (21, [some (.inr (.inr (some (12, 0)))), some (.inl kk_), some (.inl rd_), some (.inr (.inr (some (2, kk_.toNat))))], [.inl 0], S0_)) rfl ?_
    refine sm_T_cale (d1_ := 0) (Q1_ := vq_266e 0 S0_) (Q2_ := (fun ex_ S1_ => ex_ ∈ ([1] : List Nat) ∧ vx_266e 0 S0_ S1_)) rfl rfl (by decide) (vc_266e 0 S0_ hI_ ) rfl (fun xx13_ Sx8_ px11_ => ?_) (fun u_ Sx8_ px11_ => ?_)
    · obtain ⟨px11m, hIx9_, hFx10_, px11_⟩ := px11_
      refine Or.inr ⟨_, _, rfl, by first | exact px11m | (simp only [List.mem_cons, List.not_mem_nil, or_false] at px11m ⊢; omega), hIx9_, ai_fr_tr hF_ (fr_le hFx10_ rfl), ?_⟩
      first | exact px11_.2 | exact px11_ | rfl
    · exact absurd rfl px11_.2.2.2.1
  · have cx7_ : ¬ (rd_ < 0) := of_decide_eq_false cx7_
    refine sm_T_go 2 (c1 := (13, [some (.inr (.inr (some (12, 0)))), some (.inl kk_), some (.inl rd_), some (.inr (.inr (some (2, kk_.toNat))))], [.inl 12, .inl rd_], S0_)) rfl ?_
    refine sm_T_br (a := 4) (z := 7) rfl (fun cx14_ => ?_) (fun cx14_ => ?_)
    · have cx14_ : 12 < rd_ := of_decide_eq_true cx14_
      refine sm_T_go 1 (c1 := (21, [some (.inr (.inr (some (12, 0)))), some (.inl kk_), some (.inl rd_), some (.inr (.inr (some (2, kk_.toNat))))], [.inl 0], S0_)) rfl ?_
      refine sm_T_cale (d1_ := 0) (Q1_ := vq_266e 0 S0_) (Q2_ := (fun ex_ S1_ => ex_ ∈ ([1] : List Nat) ∧ vx_266e 0 S0_ S1_)) rfl rfl (by decide) (vc_266e 0 S0_ hI_ ) rfl (fun xx20_ Sx15_ px18_ => ?_) (fun u_ Sx15_ px18_ => ?_)
      · obtain ⟨px18m, hIx16_, hFx17_, px18_⟩ := px18_
        refine Or.inr ⟨_, _, rfl, by first | exact px18m | (simp only [List.mem_cons, List.not_mem_nil, or_false] at px18m ⊢; omega), hIx16_, ai_fr_tr hF_ (fr_le hFx17_ rfl), ?_⟩
        first | exact px18_.2 | exact px18_ | rfl
      · exact absurd rfl px18_.2.2.2.1
    · have cx14_ : ¬ (12 < rd_) := of_decide_eq_false cx14_
      refine sm_T_go 2 (c1 := (21, [some (.inr (.inr (some (12, 0)))), some (.inl kk_), some (.inl rd_), some (.inr (.inr (some (2, kk_.toNat))))], [.inl 1], S0_)) rfl ?_
      refine sm_T_cale (d1_ := 0) (Q1_ := vq_266e 1 S0_) (Q2_ := (fun ex_ S1_ => ex_ ∈ ([1] : List Nat) ∧ vx_266e 1 S0_ S1_)) rfl rfl (by decide) (vc_266e 1 S0_ hI_ ) rfl (fun xx26_ Sx21_ px24_ => ?_) (fun u_ Sx21_ px24_ => ?_)
      · exact absurd px24_.2.2.2.1 (by decide)
      obtain ⟨rfl, -, -, px24_, rfl⟩ := px24_
      have bx27_ : 0 ≤ S0_.1 0 (0 + kk_.toNat) 1 ∧ S0_.1 0 (0 + kk_.toNat) 1 ≤ 12 := hI_.1 0 (0 + kk_.toNat) 1 rfl
      refine sm_T_go 3 (c1 := (31, [some (.inr (.inr (some (12, 0)))), some (.inl kk_), some (.inl rd_), some (.inr (.inr (some (2, kk_.toNat))))], [.inl (S0_.1 0 (0 + kk_.toNat) 1)], S0_)) rfl ?_
      refine sm_T_b0 (a := 5) (z := 7) rfl (fun cx28_ => ?_) (fun cx28_ => ?_)
      · have cx28_ : (S0_.1 0 (0 + kk_.toNat) 1) ≤ 0 := of_decide_eq_true cx28_
        refine sm_T_go 1 (c1 := (39, [some (.inr (.inr (some (12, 0)))), some (.inl kk_), some (.inl rd_), some (.inr (.inr (some (2, kk_.toNat))))], [.inl 0], S0_)) rfl ?_
        refine sm_T_cale (d1_ := 0) (Q1_ := vq_267e 0 S0_) (Q2_ := (fun ex_ S1_ => ex_ ∈ ([2] : List Nat) ∧ vx_267e 0 S0_ S1_)) rfl rfl (by decide) (vc_267e 0 S0_ hI_ ) rfl (fun xx34_ Sx29_ px32_ => ?_) (fun u_ Sx29_ px32_ => ?_)
        · obtain ⟨px32m, hIx30_, hFx31_, px32_⟩ := px32_
          refine Or.inr ⟨_, _, rfl, by first | exact px32m | (simp only [List.mem_cons, List.not_mem_nil, or_false] at px32m ⊢; omega), hIx30_, ai_fr_tr hF_ (fr_le hFx31_ rfl), ?_⟩
          first | exact px32_.2 | exact px32_ | rfl
        · exact absurd rfl px32_.2.2.2.1
      · have cx28_ : ¬ ((S0_.1 0 (0 + kk_.toNat) 1) ≤ 0) := of_decide_eq_false cx28_
        refine sm_T_go 2 (c1 := (39, [some (.inr (.inr (some (12, 0)))), some (.inl kk_), some (.inl rd_), some (.inr (.inr (some (2, kk_.toNat))))], [.inl 1], S0_)) rfl ?_
        refine sm_T_cale (d1_ := 0) (Q1_ := vq_267e 1 S0_) (Q2_ := (fun ex_ S1_ => ex_ ∈ ([2] : List Nat) ∧ vx_267e 1 S0_ S1_)) rfl rfl (by decide) (vc_267e 1 S0_ hI_ ) rfl (fun xx40_ Sx35_ px38_ => ?_) (fun u_ Sx35_ px38_ => ?_)
        · exact absurd px38_.2.2.2.1 (by decide)
        obtain ⟨rfl, -, -, px38_, rfl⟩ := px38_
        have hIx41_ : gi (sm_pI S0_ 4 (0 + (0 + kk_.toNat)) 0 0) := gi_pI hI_ (show 0 ≤ 0 ∧ 0 ≤ 1 from ⟨by omega, by omega⟩)
        have hFx42_ : ai_fr (sx_W vw_243) S0_ (sm_pI S0_ 4 (0 + (0 + kk_.toNat)) 0 0) := ai_fr_tr hF_ (ai_fr_pI rfl)
        have hCx43_ : cdf kk_.toNat S0_ (sm_pI S0_ 4 (0 + (0 + kk_.toNat)) 0 0) := cdf_pI hC_ (Or.inr (by rw [show cof 4 = 0 from rfl] <;> omega))
        refine sm_T_go 10 (c1 := (62, [some (.inr (.inr (some (12, 0)))), some (.inl kk_), some (.inl rd_), some (.inr (.inr (some (2, kk_.toNat))))], [.inr (.inr (some (2, kk_.toNat))), .inr (.inr (some (0, (0 + kk_.toNat)))), .inr (.inr (some (8, 0)))], sm_pI S0_ 4 (0 + (0 + kk_.toNat)) 0 0)) rfl ?_
        refine sm_T_cal (d1 := 0) (Q1 := vq_55 kk_.toNat (sm_pI S0_ 4 (0 + (0 + kk_.toNat)) 0 0)) rfl rfl (by decide) (vc_55 kk_.toNat (sm_pI S0_ 4 (0 + (0 + kk_.toNat)) 0 0) hIx41_ ) (fun u_ Sx44_ px47_ => ?_)
        obtain ⟨rfl, vx49_, rfl, px47_⟩ := px47_
        have n62_ := px47_
        refine sm_T_go 1 (c1 := (66, [some (.inr (.inr (some (12, 0)))), some (.inl kk_), some (.inl rd_), some (.inr (.inr (some (2, kk_.toNat))))], [.inl rd_, .inl vx49_, .inr (.inr (some (0, (0 + kk_.toNat)))), .inr (.inr (some (8, 0)))], sm_pI S0_ 4 (0 + (0 + kk_.toNat)) 0 0)) rfl ?_
        refine sm_T_cal (d1 := 5) (Q1 := vq_153 vx49_ rd_ (0 + kk_.toNat) kk_.toNat (sm_pI S0_ 4 (0 + (0 + kk_.toNat)) 0 0)) rfl rfl (by decide) (vc_153 vx49_ rd_ (0 + kk_.toNat) kk_.toNat (sm_pI S0_ 4 (0 + (0 + kk_.toNat)) 0 0) hIx41_ (by (simp only [rf_nt, ne_eq, Nat.reduceEqDiff, not_false_eq_true] at n62_; omega)) (by omega) (by exact bpn_fr J9_.2.2.2.2.1.1 hFx42_ rfl rfl rfl rfl) (by exact bpl_fr J9_.2.2.2.2.1.2.2 hFx42_ rfl rfl rfl rfl rfl rfl rfl rfl rfl rfl) (by exact bpp_fr J9_.2.2.2.2.1.2.1 hFx42_) (by (rw [hFx42_.1 0 (0 + kk_.toNat) 1 rfl]; omega))) (fun u_ Sx50_ px53_ => ?_)
        obtain ⟨vx55_, rfl, hIx51_, hFx52_, px53_⟩ := px53_
        have hFx54_ : ai_fr (sx_W vw_243) S0_ Sx50_ := ai_fr_tr hFx42_ (fr_le hFx52_ rfl)
        obtain ⟨dx57_, px53_⟩ := px53_
        have hCx56_ : cdf kk_.toNat S0_ Sx50_ := cdf_tr hCx43_ (cdf_cg (by omega) dx57_)
        have p66_ := px53_
        refine sm_T_ri rfl (Or.inl ⟨_, _, rfl, _, rfl, hIx51_, hFx54_, ?_⟩)
        refine ⟨hCx56_, ?_⟩
        exact jC_rt hJ_ ⟨a9_.2, by omega⟩ hFx54_ hCx56_ p66_.1 (fun p9_ h9_ => by (have z9_ := p66_.2 p9_ h9_; simp only [rf_nt, ne_eq, Nat.reduceEqDiff, not_false_eq_true] at n62_; omega)) (by decide) (by decide) (by decide) (by decide) (by decide)
