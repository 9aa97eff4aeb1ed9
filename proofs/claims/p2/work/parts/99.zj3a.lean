/-! the face of the class: designs; written by wip/p55/gen/vg -/

/-! designs and the_ calls that ask_ for_ them -/
theorem dOk_b {i_ : Nat} {S_ : sm_S} (h_ : dOk i_ S_) : (0 ≤ S_.1 3 i_ 1 ∧ 0 ≤ S_.1 3 i_ 2 ∧ S_.1 3 i_ 1 + S_.1 3 i_ 2 ≤ 12) ∧ (1 ≤ S_.1 3 i_ 3 ∧ S_.1 3 i_ 3 ≤ 16 ∧ S_.1 3 i_ 2 ≤ 6) ∧ (0 ≤ S_.1 3 i_ 5 ∧ S_.1 3 i_ 5 < 2 ^ (S_.1 3 i_ 2).toNat) ∧ (0 ≤ S_.1 3 i_ 6 ∧ S_.1 3 i_ 6 < 2 ^ (S_.1 3 i_ 2).toNat) ∧ dtb i_ S_ := by
  obtain ⟨F_, h1_, h2_, h3_, h4_, h5_, h6_⟩ := h_
  have a_ := h1_.1
  have b_ := h2_.1
  exact ⟨by omega, by omega, h5_, h6_, h4_⟩
theorem dOk_fr {w_ : sx_Wl} {i_ : Nat} {S_ S'_ : sm_S} (h_ : dOk i_ S_) (g_ : ai_fr (sx_W w_) S_ S'_) (h1_ : ∀ k_, k_ < 7 → (0 < k_) → (sx_W w_).1 3 k_ = false) (h2_ : ∀ t_, t_ < 48 → 42 ≤ t_ → (sx_W w_).2.1 t_ = false) : dOk i_ S'_ := by
  obtain ⟨F_, a1_, a2_, a3_, a4_, a5_, a6_⟩ := h_
  refine ⟨F_, dgr_fr a1_ g_ (h1_ _ (by decide) (by decide)) (h1_ _ (by decide) (by decide)) (h1_ _ (by decide) (by decide)) (h2_ _ (by decide) (by decide)) (h2_ _ (by decide) (by decide)), drt_fr a2_ g_ (h1_ _ (by decide) (by decide)) (h1_ _ (by decide) (by decide)) (h1_ _ (by decide) (by decide)) (h2_ _ (by decide) (by decide)) (h2_ _ (by decide) (by decide)), swp_fr a3_ g_ (h1_ _ (by decide) (by decide)) (h2_ _ (by decide) (by decide)) (h2_ _ (by decide) (by decide)) (h2_ _ (by decide) (by decide)), dtb_fr a4_ g_ (h1_ _ (by decide) (by decide)) (h2_ _ (by decide) (by decide)), ?_⟩
  rw [g_.1 3 i_ 5 (h1_ _ (by decide) (by decide)), g_.1 3 i_ 6 (h1_ _ (by decide) (by decide)), g_.1 3 i_ 2 (h1_ _ (by decide) (by decide))]
  exact ⟨a5_, a6_⟩
theorem dAll_fr {w_ : sx_Wl} {S_ S'_ : sm_S} (h_ : dAll S_) (g_ : ai_fr (sx_W w_) S_ S'_) (h1_ : ∀ k_, k_ < 7 → (sx_W w_).1 3 k_ = false) (h2_ : ∀ t_, t_ < 48 → 42 ≤ t_ → (sx_W w_).2.1 t_ = false) : dAll S'_ := by
  intro j_ hj_ q_
  rw [g_.1 3 j_ 0 (h1_ _ (by decide))] at q_
  exact dOk_fr (h_ j_ hj_ q_) g_ (fun k_ hk_ _ => h1_ k_ hk_) h2_
/-- a_ design's state changes -/
theorem dAll_st {i_ : Nat} {S_ : sm_S} {v_ : Int} (h_ : dAll S_) (hv_ : 0 ≤ v_ ∧ v_ < 2 ^ (S_.1 3 i_ 2).toNat) : dAll (sm_pI S_ 3 i_ 6 v_) := by
  intro j_ hj_ q_
  rw [rf_nk (by decide)] at q_
  obtain ⟨F_, h1_, h2_, h3_, h4_, h5_, h6_⟩ := h_ j_ hj_ q_
  have fx : ai_fr (sx_W ([(3, 6)], [], [])) S_ (sm_pI S_ 3 i_ 6 v_) := ai_fr_pI rfl
  refine ⟨F_, dgr_fr h1_ fx rfl rfl rfl rfl rfl, drt_fr h2_ fx rfl rfl rfl rfl rfl, swp_fr h3_ fx rfl rfl rfl rfl, dtb_fr h4_ fx rfl rfl, ?_, ?_⟩
  · rw [fx.1 3 j_ 5 rfl, fx.1 3 j_ 2 rfl]; exact h5_
  · rw [fx.1 3 j_ 2 rfl, rd_ff]
    by_cases z_ : j_ = i_
    · rw [z_, if_pos ⟨rfl, rfl, rfl⟩]; exact hv_
    · rw [if_neg (fun q_ => z_ q_.2.1)]; exact h6_
theorem dAll_dr {i_ : Nat} {S_ : sm_S} (h_ : dAll S_) : dAll (sm_pI S_ 3 i_ 0 0) := by
  intro j_ hj_ q_
  have fx : ai_fr (sx_W ([(3, 0)], [], [])) S_ (sm_pI S_ 3 i_ 0 0) := ai_fr_pI rfl
  by_cases z_ : j_ = i_
  · rw [z_, rf_eq] at q_
    exact absurd q_ (by decide)
  · rw [rd_ff, if_neg (fun q_ => z_ q_.2.1)] at q_
    exact dOk_fr (h_ j_ hj_ q_) fx (by decide) (by decide)
theorem i_or_c {x_ y_ : Int} : i_or x_ y_ = i_or y_ x_ := by
  unfold i_or
  rw [Int32.or_comm]
/-! ChipFlow.graph -/
def vw_219 : sx_Wl := ([], [], [])
def vq_219 (kk_ : Int) (wh_ : Int) (S0_ : sm_S) (u_ : Option sm_V) (S1_ : sm_S) : Prop := ∃ v_ : Int, u_ = some (.inl v_) ∧ gi S1_ ∧ ai_fr (sx_W vw_219) S0_ S1_ ∧ (True)
def vx_219 (kk_ : Int) (wh_ : Int) (S0_ : sm_S) (S1_ : sm_S) : Prop := gi S1_ ∧ ai_fr (sx_W vw_219) S0_ S1_ ∧ (S1_ = S0_)
set_option maxHeartbeats 400000 in
theorem vc_219 {sc_ : Nat × (Nat → Int)} (kk_ : Int) (wh_ : Int) (S0_ : sm_S) (hI_ : gi S0_) (hJ_ : dAll S0_) : sm_T (mt_P sc_) 2 219 (0, [some (.inr (.inr (some (12, 0)))), some (.inl kk_), some (.inl wh_), none], [], S0_) (fun ro9_ => (∃ u_ S1_, ro9_ = (.inl u_, S1_, 0) ∧ vq_219 kk_ wh_ S0_ u_ S1_) ∨ ∃ ex_ S1_, ro9_ = (.inr ex_, S1_, 1) ∧ ex_ ∈ ([0, 1] : List Nat) ∧ vx_219 kk_ wh_ S0_ S1_) := by
  have hF_ : ai_fr (sx_W vw_219) S0_ S0_ := ai_fr_rf
  refine sm_T_go 2 (c1 := (2, [some (.inr (.inr (some (12, 0)))), some (.inl kk_), some (.inl wh_), none], [.inl kk_, .inr (.inr (some (12, 0)))], S0_)) rfl ?_
  refine sm_T_cale (d1_ := 1) (Q1_ := vq_270 kk_ S0_) (Q2_ := (fun ex_ S1_ => ex_ ∈ ([0] : List Nat) ∧ vx_270 kk_ S0_ S1_)) rfl rfl (by decide) (vc_270 kk_ S0_ hI_ ) rfl (fun xx6_ Sx1_ px4_ => ?_) (fun u_ Sx1_ px4_ => ?_)
  · obtain ⟨px4m, hIx2_, hFx3_, px4_⟩ := px4_
    refine Or.inr ⟨_, _, rfl, by first | exact px4m | (simp only [List.mem_cons, List.not_mem_nil, or_false] at px4m ⊢; omega), hIx2_, ai_fr_tr hF_ (fr_le hFx3_ rfl), ?_⟩
    first | exact px4_.2 | exact px4_ | rfl
  obtain ⟨rfl, -, -, rfl, px4_⟩ := px4_
  have a9_ := px4_
  have J9_ := dOk_b (hJ_ kk_.toNat (by omega) a9_.2)
  have J9a := J9_.1
  have J9b := J9_.2.1
  refine sm_T_go 2 (c1 := (7, [some (.inr (.inr (some (12, 0)))), some (.inl kk_), some (.inl wh_), some (.inr (.inr (some (3, kk_.toNat))))], [.inl wh_], S0_)) rfl ?_
  refine sm_T_b0 (a := 2) (z := 13) rfl (fun cx7_ => ?_) (fun cx7_ => ?_)
  · have cx7_ : wh_ < 0 := of_decide_eq_true cx7_
    refine sm_T_go 1 (c1 := (21, [some (.inr (.inr (some (12, 0)))), some (.inl kk_), some (.inl wh_), some (.inr (.inr (some (3, kk_.toNat))))], [.inl 0], S0_)) rfl ?_
    refine sm_T_cale (d1_ := 0) (Q1_ := vq_266e 0 S0_) (Q2_ := (fun ex_ S1_ => ex_ ∈ ([1] : List Nat) ∧ vx_266e 0 S0_ S1_)) rfl rfl (by decide) (vc_266e 0 S0_ hI_ ) rfl (fun xx13_ Sx8_ px11_ => ?_) (fun u_ Sx8_ px11_ => ?_)
    · obtain ⟨px11m, hIx9_, hFx10_, px11_⟩ := px11_
      refine Or.inr ⟨_, _, rfl, by first | exact px11m | (simp only [List.mem_cons, List.not_mem_nil, or_false] at px11m ⊢; omega), hIx9_, ai_fr_tr hF_ (fr_le hFx10_ rfl), ?_⟩
      first | exact px11_.2 | exact px11_ | rfl
    · exact absurd rfl px11_.2.2.2.1
  · have cx7_ : ¬ (wh_ < 0) := of_decide_eq_false cx7_
    refine sm_T_go 2 (c1 := (13, [some (.inr (.inr (some (12, 0)))), some (.inl kk_), some (.inl wh_), some (.inr (.inr (some (3, kk_.toNat))))], [.inl 7, .inl wh_], S0_)) rfl ?_
    refine sm_T_br (a := 4) (z := 7) rfl (fun cx14_ => ?_) (fun cx14_ => ?_)
    · have cx14_ : 7 < wh_ := of_decide_eq_true cx14_
      refine sm_T_go 1 (c1 := (21, [some (.inr (.inr (some (12, 0)))), some (.inl kk_), some (.inl wh_), some (.inr (.inr (some (3, kk_.toNat))))], [.inl 0], S0_)) rfl ?_
      refine sm_T_cale (d1_ := 0) (Q1_ := vq_266e 0 S0_) (Q2_ := (fun ex_ S1_ => ex_ ∈ ([1] : List Nat) ∧ vx_266e 0 S0_ S1_)) rfl rfl (by decide) (vc_266e 0 S0_ hI_ ) rfl (fun xx20_ Sx15_ px18_ => ?_) (fun u_ Sx15_ px18_ => ?_)
      · obtain ⟨px18m, hIx16_, hFx17_, px18_⟩ := px18_
        refine Or.inr ⟨_, _, rfl, by first | exact px18m | (simp only [List.mem_cons, List.not_mem_nil, or_false] at px18m ⊢; omega), hIx16_, ai_fr_tr hF_ (fr_le hFx17_ rfl), ?_⟩
        first | exact px18_.2 | exact px18_ | rfl
      · exact absurd rfl px18_.2.2.2.1
    · have cx14_ : ¬ (7 < wh_) := of_decide_eq_false cx14_
      refine sm_T_go 2 (c1 := (21, [some (.inr (.inr (some (12, 0)))), some (.inl kk_), some (.inl wh_), some (.inr (.inr (some (3, kk_.toNat))))], [.inl 1], S0_)) rfl ?_
      refine sm_T_cale (d1_ := 0) (Q1_ := vq_266e 1 S0_) (Q2_ := (fun ex_ S1_ => ex_ ∈ ([1] : List Nat) ∧ vx_266e 1 S0_ S1_)) rfl rfl (by decide) (vc_266e 1 S0_ hI_ ) rfl (fun xx26_ Sx21_ px24_ => ?_) (fun u_ Sx21_ px24_ => ?_)
      · exact absurd px24_.2.2.2.1 (by decide)
      obtain ⟨rfl, -, -, px24_, rfl⟩ := px24_
      refine sm_T_go 1 (c1 := (25, [some (.inr (.inr (some (12, 0)))), some (.inl kk_), some (.inl wh_), some (.inr (.inr (some (3, kk_.toNat))))], [.inl wh_], S0_)) rfl ?_
      by_cases cx27_ : wh_ = 0
      · refine sm_T_sw (t := 68) rfl rfl (by rw [cx27_]; rfl) ?_
        have bx28_ : 0 ≤ S0_.1 3 kk_.toNat 1 ∧ S0_.1 3 kk_.toNat 1 ≤ 320 := hI_.1 3 kk_.toNat 1 rfl
        refine sm_T_go 2 (c1 := (72, [some (.inr (.inr (some (12, 0)))), some (.inl kk_), some (.inl wh_), some (.inr (.inr (some (3, kk_.toNat))))], [.inl (S0_.1 3 kk_.toNat 1)], S0_)) rfl ?_
        refine sm_T_ri rfl (Or.inl ⟨_, _, rfl, _, rfl, hI_, hF_, ?_⟩)
        trivial
      by_cases cx29_ : wh_ = 1
      · refine sm_T_sw (t := 73) rfl rfl (by rw [cx29_]; rfl) ?_
        have bx30_ : 0 ≤ S0_.1 3 kk_.toNat 2 ∧ S0_.1 3 kk_.toNat 2 ≤ 100000 := hI_.1 3 kk_.toNat 2 rfl
        refine sm_T_go 2 (c1 := (77, [some (.inr (.inr (some (12, 0)))), some (.inl kk_), some (.inl wh_), some (.inr (.inr (some (3, kk_.toNat))))], [.inl (S0_.1 3 kk_.toNat 2)], S0_)) rfl ?_
        refine sm_T_ri rfl (Or.inl ⟨_, _, rfl, _, rfl, hI_, hF_, ?_⟩)
        trivial
      by_cases cx31_ : wh_ = 2
      · refine sm_T_sw (t := 78) rfl rfl (by rw [cx31_]; rfl) ?_
        have bx32_ : 0 ≤ S0_.1 3 kk_.toNat 3 ∧ S0_.1 3 kk_.toNat 3 ≤ 320 := hI_.1 3 kk_.toNat 3 rfl
        refine sm_T_go 2 (c1 := (82, [some (.inr (.inr (some (12, 0)))), some (.inl kk_), some (.inl wh_), some (.inr (.inr (some (3, kk_.toNat))))], [.inl (S0_.1 3 kk_.toNat 3)], S0_)) rfl ?_
        refine sm_T_ri rfl (Or.inl ⟨_, _, rfl, _, rfl, hI_, hF_, ?_⟩)
        trivial
      by_cases cx33_ : wh_ = 3
      · refine sm_T_sw (t := 83) rfl rfl (by rw [cx33_]; rfl) ?_
        have bx34_ : 0 ≤ S0_.1 3 kk_.toNat 4 ∧ S0_.1 3 kk_.toNat 4 ≤ 1013 := hI_.1 3 kk_.toNat 4 rfl
        refine sm_T_go 3 (c1 := (88, [some (.inr (.inr (some (12, 0)))), some (.inl kk_), some (.inl wh_), some (.inr (.inr (some (3, kk_.toNat))))], [.inr (.inr (some (3, kk_.toNat))), .inl (S0_.1 3 kk_.toNat 4)], S0_)) rfl ?_
        refine sm_T_cal (d1 := 0) (Q1 := vq_63 kk_.toNat S0_) rfl rfl (by decide) (vc_63 kk_.toNat S0_ hI_ (by omega)) (fun u_ Sx35_ px38_ => ?_)
        obtain ⟨rfl, vx40_, rfl, px38_⟩ := px38_
        have f88_ := px38_
        refine sm_T_bin (w := (S0_.1 3 kk_.toNat 4) - vx40_) rfl (bi_sub (by omega) (by omega) (by omega)) ?_
        refine sm_T_ri rfl (Or.inl ⟨_, _, rfl, _, rfl, hI_, hF_, ?_⟩)
        trivial
      by_cases cx41_ : wh_ = 4
      · refine sm_T_sw (t := 93) rfl rfl (by rw [cx41_]; rfl) ?_
        have bx42_ : 0 ≤ S0_.1 3 kk_.toNat 7 ∧ S0_.1 3 kk_.toNat 7 ≤ 1000 := hI_.1 3 kk_.toNat 7 rfl
        refine sm_T_go 2 (c1 := (97, [some (.inr (.inr (some (12, 0)))), some (.inl kk_), some (.inl wh_), some (.inr (.inr (some (3, kk_.toNat))))], [.inl (S0_.1 3 kk_.toNat 7)], S0_)) rfl ?_
        refine sm_T_ri rfl (Or.inl ⟨_, _, rfl, _, rfl, hI_, hF_, ?_⟩)
        trivial
      by_cases cx43_ : wh_ = 5
      · refine sm_T_sw (t := 98) rfl rfl (by rw [cx43_]; rfl) ?_
        have bx44_ : 0 ≤ S0_.1 3 kk_.toNat 8 ∧ S0_.1 3 kk_.toNat 8 ≤ 1000 := hI_.1 3 kk_.toNat 8 rfl
        refine sm_T_go 2 (c1 := (102, [some (.inr (.inr (some (12, 0)))), some (.inl kk_), some (.inl wh_), some (.inr (.inr (some (3, kk_.toNat))))], [.inl (S0_.1 3 kk_.toNat 8)], S0_)) rfl ?_
        refine sm_T_ri rfl (Or.inl ⟨_, _, rfl, _, rfl, hI_, hF_, ?_⟩)
        trivial
      by_cases cx45_ : wh_ = 6
      · refine sm_T_sw (t := 103) rfl rfl (by rw [cx45_]; rfl) ?_
        have bx46_ : 0 ≤ S0_.1 3 kk_.toNat 9 ∧ S0_.1 3 kk_.toNat 9 ≤ 64 := hI_.1 3 kk_.toNat 9 rfl
        refine sm_T_go 2 (c1 := (107, [some (.inr (.inr (some (12, 0)))), some (.inl kk_), some (.inl wh_), some (.inr (.inr (some (3, kk_.toNat))))], [.inl (S0_.1 3 kk_.toNat 9)], S0_)) rfl ?_
        refine sm_T_ri rfl (Or.inl ⟨_, _, rfl, _, rfl, hI_, hF_, ?_⟩)
        trivial
      refine sm_T_sw (t := 108) rfl rfl (by (have hh_ : wh_ < 0 ∨ 7 ≤ wh_ := by omega); rcases hh_ with hh_ | hh_; (exact sm_swd (Or.inl hh_)); (exact sm_swd (Or.inr (by simp only [List.length_cons, List.length_nil]; omega)))) ?_
      have bx47_ : 0 ≤ S0_.1 3 kk_.toNat 5 ∧ S0_.1 3 kk_.toNat 5 ≤ 63 := hI_.1 3 kk_.toNat 5 rfl
      refine sm_T_go 2 (c1 := (112, [some (.inr (.inr (some (12, 0)))), some (.inl kk_), some (.inl wh_), some (.inr (.inr (some (3, kk_.toNat))))], [.inl (S0_.1 3 kk_.toNat 5)], S0_)) rfl ?_
      refine sm_T_ri rfl (Or.inl ⟨_, _, rfl, _, rfl, hI_, hF_, ?_⟩)
      trivial
