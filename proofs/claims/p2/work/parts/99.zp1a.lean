/-! the face of the class: chips; written by wip/p55/gen/vg -/

/-! chips that are_ there -/
def cOk (i_ : Nat) (S_ : sm_S) : Prop := (S_.1 2 i_ 1 + S_.1 2 i_ 2 ≤ 12 ∧ 1 ≤ S_.1 2 i_ 3) ∧ (0 ≤ S_.1 2 i_ 4 ∧ S_.1 2 i_ 4 < 2 ^ (S_.1 2 i_ 2).toNat) ∧ (0 ≤ S_.1 2 i_ 5 ∧ S_.1 2 i_ 5 < 2 ^ (S_.1 2 i_ 2).toNat) ∧ ctb i_ S_ ∧ (bpn (0 + i_) S_ ∧ bpp (0 + i_) i_ S_ ∧ bpl (0 + i_) i_ S_) ∧ imq (S_.1 0 (0 + i_) 11 = 1) (bst (0 + i_) S_ ∧ ∀ p_ : Nat, p_ < 4712 → S_.2.2.1 22 (0 + (0 + i_)) p_ < S_.1 2 i_ 1 + S_.1 2 i_ 2 + S_.1 2 i_ 8)
theorem cOk_q {i_ : Nat} {S_ S'_ : sm_S} (h_ : cOk i_ S_) (f2_ : ∀ k_, 0 < k_ → k_ < 9 → S'_.1 2 i_ k_ = S_.1 2 i_ k_) (f0_ : ∀ k_, k_ < 12 → S'_.1 0 (0 + i_) k_ = S_.1 0 (0 + i_) k_) (a_ : ∀ t_, 14 ≤ t_ → t_ < 24 → t_ ≠ 21 → S'_.2.2.1 t_ (0 + (0 + i_)) = S_.2.2.1 t_ (0 + (0 + i_))) (b_ : S'_.2.2.1 34 (0 + i_) = S_.2.2.1 34 (0 + i_)) : cOk i_ S'_ := by
  unfold cOk ctb bpn bpp bpl bst
  rw [f2_ 1 (by decide) (by decide), f2_ 2 (by decide) (by decide), f2_ 3 (by decide) (by decide), f2_ 4 (by decide) (by decide), f2_ 5 (by decide) (by decide), f2_ 8 (by decide) (by decide), f0_ 0 (by decide), f0_ 1 (by decide), f0_ 2 (by decide), f0_ 11 (by decide), a_ 14 (by decide) (by decide) (by decide), a_ 15 (by decide) (by decide) (by decide), a_ 16 (by decide) (by decide) (by decide), a_ 17 (by decide) (by decide) (by decide), a_ 18 (by decide) (by decide) (by decide), a_ 19 (by decide) (by decide) (by decide), a_ 20 (by decide) (by decide) (by decide), a_ 22 (by decide) (by decide) (by decide), a_ 23 (by decide) (by decide) (by decide), b_]
  exact h_
theorem cof_0 {t_ : Nat} (h_ : t_ < 55) (h5_ : t_ ≠ 5) : cof t_ = 0 := by
  unfold cof
  rw [if_neg (by omega)]
theorem ckn_a {t_ : Nat} (h1_ : 14 ≤ t_) (h2_ : t_ < 24) : ckn t_ = true := by
  have c_ : t_ = 14 ∨ t_ = 15 ∨ t_ = 16 ∨ t_ = 17 ∨ t_ = 18 ∨ t_ = 19 ∨ t_ = 20 ∨ t_ = 21 ∨ t_ = 22 ∨ t_ = 23 := by omega
  rcases c_ with c_ | c_ | c_ | c_ | c_ | c_ | c_ | c_ | c_ | c_ <;> rw [c_] <;> rfl
theorem cOk_cd {i_ c_ : Nat} {S_ S'_ : sm_S} (h_ : cOk i_ S_) (g_ : cdf c_ S_ S'_) (ne_ : i_ ≠ c_) : cOk i_ S'_ :=
  cOk_q h_ (fun k_ _ _ => (g_ 2 rfl i_ (by rw [cof_0 (by decide) (by decide)]; omega)).1 k_) (fun k_ _ => (g_ 0 rfl (0 + i_) (by rw [cof_0 (by decide) (by decide)]; omega)).1 k_) (fun t_ h1_ h2_ _ => (g_ t_ (ckn_a h1_ h2_) (0 + (0 + i_)) (by rw [cof_0 (by omega) (by omega)]; omega)).2) (g_ 34 rfl (0 + i_) (by rw [cof_0 (by decide) (by decide)]; omega)).2
theorem cOk_fr {w_ : sx_Wl} {i_ : Nat} {S_ S'_ : sm_S} (h_ : cOk i_ S_) (g_ : ai_fr (sx_W w_) S_ S'_) (h2_ : ∀ k_, k_ < 9 → 0 < k_ → (sx_W w_).1 2 k_ = false) (h0_ : ∀ k_, k_ < 12 → (sx_W w_).1 0 k_ = false) (ha_ : ∀ t_, t_ < 24 → 14 ≤ t_ → t_ ≠ 21 → (sx_W w_).2.1 t_ = false) (hb_ : (sx_W w_).2.1 34 = false) : cOk i_ S'_ :=
  cOk_q h_ (fun k_ a_ b_ => g_.1 2 i_ k_ (h2_ k_ b_ a_)) (fun k_ a_ => g_.1 0 (0 + i_) k_ (h0_ k_ a_)) (fun t_ a_ b_ c_ => fr_arr g_ (ha_ t_ b_ a_ c_)) (fr_arr g_ hb_)
def cAll (S_ : sm_S) : Prop := ∀ i_, i_ < 4 → S_.1 2 i_ 0 = 1 → cOk i_ S_
theorem cAll_fr {w_ : sx_Wl} {S_ S'_ : sm_S} (h_ : cAll S_) (g_ : ai_fr (sx_W w_) S_ S'_) (h2_ : ∀ k_, k_ < 9 → (sx_W w_).1 2 k_ = false) (h0_ : ∀ k_, k_ < 12 → (sx_W w_).1 0 k_ = false) (ha_ : ∀ t_, t_ < 24 → 14 ≤ t_ → t_ ≠ 21 → (sx_W w_).2.1 t_ = false) (hb_ : (sx_W w_).2.1 34 = false) : cAll S'_ := fun i_ hi_ q_ => by
  rw [g_.1 2 i_ 0 (h2_ 0 (by decide))] at q_
  exact cOk_fr (h_ i_ hi_ q_) g_ (fun k_ a_ _ => h2_ k_ a_) h0_ ha_ hb_
/-- one_ chip changes -/
theorem cAll_cd {c_ : Nat} {S_ S'_ : sm_S} (h_ : cAll S_) (g_ : cdf c_ S_ S'_) (k_ : S'_.1 2 c_ 0 = 1 → cOk c_ S'_) : cAll S'_ := fun i_ hi_ q_ => by
  by_cases e_ : i_ = c_
  · rw [e_] at q_ ⊢; exact k_ q_
  · have z_ := (g_ 2 rfl i_ (by rw [cof_0 (by decide) (by decide)]; omega)).1 0
    rw [z_] at q_
    exact cOk_cd (h_ i_ hi_ q_) g_ e_
/-- what holds between the_ calls of_ the_ class -/
def jC (S_ : sm_S) : Prop := dAll S_ ∧ cAll S_ ∧ tpo S_ ∧ shn S_
theorem jC_fr {w_ : sx_Wl} {S_ S'_ : sm_S} (h_ : jC S_) (g_ : ai_fr (sx_W w_) S_ S'_) (d1_ : ∀ k_, k_ < 7 → (sx_W w_).1 3 k_ = false) (d2_ : ∀ t_, t_ < 48 → 42 ≤ t_ → (sx_W w_).2.1 t_ = false) (h2_ : ∀ k_, k_ < 9 → (sx_W w_).1 2 k_ = false) (h0_ : ∀ k_, k_ < 12 → (sx_W w_).1 0 k_ = false) (ha_ : ∀ t_, t_ < 24 → 14 ≤ t_ → t_ ≠ 21 → (sx_W w_).2.1 t_ = false) (hb_ : (sx_W w_).2.1 34 = false) (t1_ : (sx_W w_).1 11 5 = false) (t2_ : (sx_W w_).2.1 102 = false) (t3_ : (sx_W w_).2.1 104 = false) (t4_ : (sx_W w_).2.1 105 = false) (t5_ : (sx_W w_).2.1 95 = false) : jC S'_ :=
  ⟨dAll_fr h_.1 g_ d1_ d2_, cAll_fr h_.2.1 g_ h2_ h0_ ha_ hb_, tpo_fr h_.2.2.1 g_ t1_ t2_ t3_ t4_, shn_fr h_.2.2.2 g_ t5_⟩
theorem cOk_st {i_ : Nat} {S_ : sm_S} {v_ : Int} (h_ : cOk i_ S_) (hv_ : 0 ≤ v_ ∧ v_ < 2 ^ (S_.1 2 i_ 2).toNat) : cOk i_ (sm_pI S_ 2 i_ 5 v_) := by
  obtain ⟨a_, b_, c_, d_, e_, f_⟩ := h_
  have fx : ai_fr (sx_W ([(2, 5)], [], [])) S_ (sm_pI S_ 2 i_ 5 v_) := ai_fr_pI rfl
  unfold cOk ctb bpn bpp bpl bst at *
  rw [fx.1 2 i_ 1 rfl, fx.1 2 i_ 2 rfl, fx.1 2 i_ 3 rfl, fx.1 2 i_ 4 rfl, fx.1 2 i_ 8 rfl, rf_eq]
  exact ⟨a_, b_, hv_, d_, e_, f_⟩
theorem jC_st {i_ : Nat} {S_ : sm_S} {v_ : Int} (h_ : jC S_) (u_ : S_.1 2 i_ 0 = 1 ∧ i_ < 4) (hv_ : 0 ≤ v_ ∧ v_ < 2 ^ (S_.1 2 i_ 2).toNat) : jC (sm_pI S_ 2 i_ 5 v_) := by
  have fx : ai_fr (sx_W ([(2, 5)], [], [])) S_ (sm_pI S_ 2 i_ 5 v_) := ai_fr_pI rfl
  exact ⟨dAll_fr h_.1 fx (by decide) (by decide), cAll_cd h_.2.1 (cdf_pI cdf_rf (Or.inr (by rw [cof_0 (by decide) (by decide)]; omega))) (fun _ => cOk_st (h_.2.1 i_ u_.2 u_.1) hv_), tpo_fr h_.2.2.1 fx, shn_fr h_.2.2.2 fx⟩
/-! ChipFlow.chip -/
def vw_231 : sx_Wl := ([], [], [])
def vq_231 (kk_ : Int) (wh_ : Int) (S0_ : sm_S) (u_ : Option sm_V) (S1_ : sm_S) : Prop := ∃ v_ : Int, u_ = some (.inl v_) ∧ gi S1_ ∧ ai_fr (sx_W vw_231) S0_ S1_ ∧ (True)
def vx_231 (kk_ : Int) (wh_ : Int) (S0_ : sm_S) (S1_ : sm_S) : Prop := gi S1_ ∧ ai_fr (sx_W vw_231) S0_ S1_ ∧ (S1_ = S0_)
set_option maxHeartbeats 400000 in
theorem vc_231 {sc_ : Nat × (Nat → Int)} (kk_ : Int) (wh_ : Int) (S0_ : sm_S) (hI_ : gi S0_) (hJ_ : jC S0_) : sm_T (mt_P sc_) 2 231 (0, [some (.inr (.inr (some (12, 0)))), some (.inl kk_), some (.inl wh_), none, none], [], S0_) (fun ro9_ => (∃ u_ S1_, ro9_ = (.inl u_, S1_, 0) ∧ vq_231 kk_ wh_ S0_ u_ S1_) ∨ ∃ ex_ S1_, ro9_ = (.inr ex_, S1_, 1) ∧ ex_ ∈ ([0, 1] : List Nat) ∧ vx_231 kk_ wh_ S0_ S1_) := by
  have hF_ : ai_fr (sx_W vw_231) S0_ S0_ := ai_fr_rf
  refine sm_T_go 2 (c1 := (2, [some (.inr (.inr (some (12, 0)))), some (.inl kk_), some (.inl wh_), none, none], [.inl kk_, .inr (.inr (some (12, 0)))], S0_)) rfl ?_
  refine sm_T_cale (d1_ := 1) (Q1_ := vq_272 kk_ S0_) (Q2_ := (fun ex_ S1_ => ex_ ∈ ([0] : List Nat) ∧ vx_272 kk_ S0_ S1_)) rfl rfl (by decide) (vc_272 kk_ S0_ hI_ ) rfl (fun xx6_ Sx1_ px4_ => ?_) (fun u_ Sx1_ px4_ => ?_)
  · obtain ⟨px4m, hIx2_, hFx3_, px4_⟩ := px4_
    refine Or.inr ⟨_, _, rfl, by first | exact px4m | (simp only [List.mem_cons, List.not_mem_nil, or_false] at px4m ⊢; omega), hIx2_, ai_fr_tr hF_ (fr_le hFx3_ rfl), ?_⟩
    first | exact px4_.2 | exact px4_ | rfl
  obtain ⟨rfl, -, -, rfl, px4_⟩ := px4_
  have a9_ := px4_
  have J9_ := hJ_.2.1 kk_.toNat (by omega) a9_.2
  have J1_ := J9_.1
  have q9_ := a9_.2
  have c8_ : 0 ≤ S0_.1 2 (kk_.toNat) 8 ∧ S0_.1 2 (kk_.toNat) 8 ≤ 150 := hI_.1 2 (kk_.toNat) 8 rfl
  refine sm_T_go 2 (c1 := (7, [some (.inr (.inr (some (12, 0)))), some (.inl kk_), some (.inl wh_), some (.inr (.inr (some (2, kk_.toNat)))), none], [.inl wh_], S0_)) rfl ?_
  refine sm_T_b0 (a := 2) (z := 13) rfl (fun cx7_ => ?_) (fun cx7_ => ?_)
  · have cx7_ : wh_ < 0 := of_decide_eq_true cx7_
    refine sm_T_go 1 (c1 := (21, [some (.inr (.inr (some (12, 0)))), some (.inl kk_), some (.inl wh_), some (.inr (.inr (some (2, kk_.toNat)))), none], [.inl 0], S0_)) rfl ?_
    refine sm_T_cale (d1_ := 0) (Q1_ := vq_266e 0 S0_) (Q2_ := (fun ex_ S1_ => ex_ ∈ ([1] : List Nat) ∧ vx_266e 0 S0_ S1_)) rfl rfl (by decide) (vc_266e 0 S0_ hI_ ) rfl (fun xx13_ Sx8_ px11_ => ?_) (fun u_ Sx8_ px11_ => ?_)
    · obtain ⟨px11m, hIx9_, hFx10_, px11_⟩ := px11_
      refine Or.inr ⟨_, _, rfl, by first | exact px11m | (simp only [List.mem_cons, List.not_mem_nil, or_false] at px11m ⊢; omega), hIx9_, ai_fr_tr hF_ (fr_le hFx10_ rfl), ?_⟩
      first | exact px11_.2 | exact px11_ | rfl
    · exact absurd rfl px11_.2.2.2.1
  · have cx7_ : ¬ (wh_ < 0) := of_decide_eq_false cx7_
    refine sm_T_go 2 (c1 := (13, [some (.inr (.inr (some (12, 0)))), some (.inl kk_), some (.inl wh_), some (.inr (.inr (some (2, kk_.toNat)))), none], [.inl 7, .inl wh_], S0_)) rfl ?_
    refine sm_T_br (a := 4) (z := 7) rfl (fun cx14_ => ?_) (fun cx14_ => ?_)
    · have cx14_ : 7 < wh_ := of_decide_eq_true cx14_
      refine sm_T_go 1 (c1 := (21, [some (.inr (.inr (some (12, 0)))), some (.inl kk_), some (.inl wh_), some (.inr (.inr (some (2, kk_.toNat)))), none], [.inl 0], S0_)) rfl ?_
      refine sm_T_cale (d1_ := 0) (Q1_ := vq_266e 0 S0_) (Q2_ := (fun ex_ S1_ => ex_ ∈ ([1] : List Nat) ∧ vx_266e 0 S0_ S1_)) rfl rfl (by decide) (vc_266e 0 S0_ hI_ ) rfl (fun xx20_ Sx15_ px18_ => ?_) (fun u_ Sx15_ px18_ => ?_)
      · obtain ⟨px18m, hIx16_, hFx17_, px18_⟩ := px18_
        refine Or.inr ⟨_, _, rfl, by first | exact px18m | (simp only [List.mem_cons, List.not_mem_nil, or_false] at px18m ⊢; omega), hIx16_, ai_fr_tr hF_ (fr_le hFx17_ rfl), ?_⟩
        first | exact px18_.2 | exact px18_ | rfl
      · exact absurd rfl px18_.2.2.2.1
    · have cx14_ : ¬ (7 < wh_) := of_decide_eq_false cx14_
      refine sm_T_go 2 (c1 := (21, [some (.inr (.inr (some (12, 0)))), some (.inl kk_), some (.inl wh_), some (.inr (.inr (some (2, kk_.toNat)))), none], [.inl 1], S0_)) rfl ?_
      refine sm_T_cale (d1_ := 0) (Q1_ := vq_266e 1 S0_) (Q2_ := (fun ex_ S1_ => ex_ ∈ ([1] : List Nat) ∧ vx_266e 1 S0_ S1_)) rfl rfl (by decide) (vc_266e 1 S0_ hI_ ) rfl (fun xx26_ Sx21_ px24_ => ?_) (fun u_ Sx21_ px24_ => ?_)
      · exact absurd px24_.2.2.2.1 (by decide)
      obtain ⟨rfl, -, -, px24_, rfl⟩ := px24_
      have bx27_ : 0 ≤ S0_.1 0 (0 + kk_.toNat) 1 ∧ S0_.1 0 (0 + kk_.toNat) 1 ≤ 12 := hI_.1 0 (0 + kk_.toNat) 1 rfl
      refine sm_T_go 3 (c1 := (31, [some (.inr (.inr (some (12, 0)))), some (.inl kk_), some (.inl wh_), some (.inr (.inr (some (2, kk_.toNat)))), none], [.inl (S0_.1 0 (0 + kk_.toNat) 1)], S0_)) rfl ?_
      refine sm_T_b0 (a := 5) (z := 7) rfl (fun cx28_ => ?_) (fun cx28_ => ?_)
      · have cx28_ : (S0_.1 0 (0 + kk_.toNat) 1) ≤ 0 := of_decide_eq_true cx28_
        refine sm_T_go 3 (c1 := (42, [some (.inr (.inr (some (12, 0)))), some (.inl kk_), some (.inl wh_), some (.inr (.inr (some (2, kk_.toNat)))), some (.inl 0)], [.inl wh_], S0_)) rfl ?_
        by_cases cx29_ : wh_ = 0
        · refine sm_T_sw (t := 84) rfl rfl (by rw [cx29_]; rfl) ?_
          have bx30_ : 0 ≤ S0_.1 2 kk_.toNat 8 ∧ S0_.1 2 kk_.toNat 8 ≤ 150 := hI_.1 2 kk_.toNat 8 rfl
          refine sm_T_go 2 (c1 := (88, [some (.inr (.inr (some (12, 0)))), some (.inl kk_), some (.inl wh_), some (.inr (.inr (some (2, kk_.toNat)))), some (.inl 0)], [.inl (S0_.1 2 kk_.toNat 8)], S0_)) rfl ?_
          refine sm_T_ri rfl (Or.inl ⟨_, _, rfl, _, rfl, hI_, hF_, ?_⟩)
          trivial
        by_cases cx31_ : wh_ = 1
        · refine sm_T_sw (t := 89) rfl rfl (by rw [cx31_]; rfl) ?_
          refine sm_T_go 1 (c1 := (90, [some (.inr (.inr (some (12, 0)))), some (.inl kk_), some (.inl wh_), some (.inr (.inr (some (2, kk_.toNat)))), some (.inl 0)], [.inr (.inr (some (2, kk_.toNat)))], S0_)) rfl ?_
          refine sm_T_cal (d1 := 0) (Q1 := vq_55 kk_.toNat S0_) rfl rfl (by decide) (vc_55 kk_.toNat S0_ hI_ ) (fun u_ Sx32_ px35_ => ?_)
          obtain ⟨rfl, vx37_, rfl, px35_⟩ := px35_
          refine sm_T_ri rfl (Or.inl ⟨_, _, rfl, _, rfl, hI_, hF_, ?_⟩)
          trivial
        by_cases cx38_ : wh_ = 2
        · refine sm_T_sw (t := 94) rfl rfl (by rw [cx38_]; rfl) ?_
          have bx39_ : 0 ≤ S0_.1 2 kk_.toNat 2 ∧ S0_.1 2 kk_.toNat 2 ≤ 6 := hI_.1 2 kk_.toNat 2 rfl
          refine sm_T_go 2 (c1 := (98, [some (.inr (.inr (some (12, 0)))), some (.inl kk_), some (.inl wh_), some (.inr (.inr (some (2, kk_.toNat)))), some (.inl 0)], [.inl (S0_.1 2 kk_.toNat 2)], S0_)) rfl ?_
          refine sm_T_ri rfl (Or.inl ⟨_, _, rfl, _, rfl, hI_, hF_, ?_⟩)
          trivial
        by_cases cx40_ : wh_ = 3
        · refine sm_T_sw (t := 99) rfl rfl (by rw [cx40_]; rfl) ?_
          refine sm_T_go 1 (c1 := (100, [some (.inr (.inr (some (12, 0)))), some (.inl kk_), some (.inl wh_), some (.inr (.inr (some (2, kk_.toNat)))), some (.inl 0)], [.inr (.inr (some (2, kk_.toNat)))], S0_)) rfl ?_
          refine sm_T_cal (d1 := 0) (Q1 := vq_60 kk_.toNat S0_) rfl rfl (by decide) (vc_60 kk_.toNat S0_ hI_ ) (fun u_ Sx41_ px44_ => ?_)
          obtain ⟨rfl, vx46_, rfl, px44_⟩ := px44_
          refine sm_T_ri rfl (Or.inl ⟨_, _, rfl, _, rfl, hI_, hF_, ?_⟩)
          trivial
        by_cases cx47_ : wh_ = 4
        · refine sm_T_sw (t := 104) rfl rfl (by rw [cx47_]; rfl) ?_
          refine sm_T_go 1 (c1 := (105, [some (.inr (.inr (some (12, 0)))), some (.inl kk_), some (.inl wh_), some (.inr (.inr (some (2, kk_.toNat)))), some (.inl 0)], [.inr (.inr (some (2, kk_.toNat)))], S0_)) rfl ?_
          refine sm_T_cal (d1 := 0) (Q1 := vq_56 kk_.toNat S0_) rfl rfl (by decide) (vc_56 kk_.toNat S0_ hI_ ) (fun u_ Sx48_ px51_ => ?_)
          obtain ⟨rfl, vx53_, rfl, px51_⟩ := px51_
          refine sm_T_ri rfl (Or.inl ⟨_, _, rfl, _, rfl, hI_, hF_, ?_⟩)
          trivial
        by_cases cx54_ : wh_ = 5
        · refine sm_T_sw (t := 109) rfl rfl (by rw [cx54_]; rfl) ?_
          refine sm_T_go 3 (c1 := (116, [some (.inr (.inr (some (12, 0)))), some (.inl kk_), some (.inl wh_), some (.inr (.inr (some (2, kk_.toNat)))), some (.inl 0)], [.inl (S0_.1 0 (0 + kk_.toNat) 1)], S0_)) rfl ?_
          refine sm_T_ri rfl (Or.inl ⟨_, _, rfl, _, rfl, hI_, hF_, ?_⟩)
          trivial
        by_cases cx55_ : wh_ = 6
        · refine sm_T_sw (t := 117) rfl rfl (by rw [cx55_]; rfl) ?_
          refine sm_T_go 3 (c1 := (133, [some (.inr (.inr (some (12, 0)))), some (.inl kk_), some (.inl wh_), some (.inr (.inr (some (2, kk_.toNat)))), some (.inl 0)], [.inl 0], S0_)) rfl ?_
          refine sm_T_ri rfl (Or.inl ⟨_, _, rfl, _, rfl, hI_, hF_, ?_⟩)
          trivial
        refine sm_T_sw (t := 134) rfl rfl (by (have hh_ : wh_ < 0 ∨ 7 ≤ wh_ := by omega); rcases hh_ with hh_ | hh_; (exact sm_swd (Or.inl hh_)); (exact sm_swd (Or.inr (by simp only [List.length_cons, List.length_nil]; omega)))) ?_
        refine sm_T_go 3 (c1 := (150, [some (.inr (.inr (some (12, 0)))), some (.inl kk_), some (.inl wh_), some (.inr (.inr (some (2, kk_.toNat)))), some (.inl 0)], [.inl 0], S0_)) rfl ?_
        refine sm_T_ri rfl (Or.inl ⟨_, _, rfl, _, rfl, hI_, hF_, ?_⟩)
        trivial
      · have cx28_ : ¬ ((S0_.1 0 (0 + kk_.toNat) 1) ≤ 0) := of_decide_eq_false cx28_
        refine sm_T_go 4 (c1 := (42, [some (.inr (.inr (some (12, 0)))), some (.inl kk_), some (.inl wh_), some (.inr (.inr (some (2, kk_.toNat)))), some (.inl 1)], [.inl wh_], S0_)) rfl ?_
        by_cases cx56_ : wh_ = 0
        · refine sm_T_sw (t := 84) rfl rfl (by rw [cx56_]; rfl) ?_
          have bx57_ : 0 ≤ S0_.1 2 kk_.toNat 8 ∧ S0_.1 2 kk_.toNat 8 ≤ 150 := hI_.1 2 kk_.toNat 8 rfl
          refine sm_T_go 2 (c1 := (88, [some (.inr (.inr (some (12, 0)))), some (.inl kk_), some (.inl wh_), some (.inr (.inr (some (2, kk_.toNat)))), some (.inl 1)], [.inl (S0_.1 2 kk_.toNat 8)], S0_)) rfl ?_
          refine sm_T_ri rfl (Or.inl ⟨_, _, rfl, _, rfl, hI_, hF_, ?_⟩)
          trivial
        by_cases cx58_ : wh_ = 1
        · refine sm_T_sw (t := 89) rfl rfl (by rw [cx58_]; rfl) ?_
          refine sm_T_go 1 (c1 := (90, [some (.inr (.inr (some (12, 0)))), some (.inl kk_), some (.inl wh_), some (.inr (.inr (some (2, kk_.toNat)))), some (.inl 1)], [.inr (.inr (some (2, kk_.toNat)))], S0_)) rfl ?_
          refine sm_T_cal (d1 := 0) (Q1 := vq_55 kk_.toNat S0_) rfl rfl (by decide) (vc_55 kk_.toNat S0_ hI_ ) (fun u_ Sx59_ px62_ => ?_)
          obtain ⟨rfl, vx64_, rfl, px62_⟩ := px62_
          refine sm_T_ri rfl (Or.inl ⟨_, _, rfl, _, rfl, hI_, hF_, ?_⟩)
          trivial
        by_cases cx65_ : wh_ = 2
        · refine sm_T_sw (t := 94) rfl rfl (by rw [cx65_]; rfl) ?_
          have bx66_ : 0 ≤ S0_.1 2 kk_.toNat 2 ∧ S0_.1 2 kk_.toNat 2 ≤ 6 := hI_.1 2 kk_.toNat 2 rfl
          refine sm_T_go 2 (c1 := (98, [some (.inr (.inr (some (12, 0)))), some (.inl kk_), some (.inl wh_), some (.inr (.inr (some (2, kk_.toNat)))), some (.inl 1)], [.inl (S0_.1 2 kk_.toNat 2)], S0_)) rfl ?_
          refine sm_T_ri rfl (Or.inl ⟨_, _, rfl, _, rfl, hI_, hF_, ?_⟩)
          trivial
        by_cases cx67_ : wh_ = 3
        · refine sm_T_sw (t := 99) rfl rfl (by rw [cx67_]; rfl) ?_
          refine sm_T_go 1 (c1 := (100, [some (.inr (.inr (some (12, 0)))), some (.inl kk_), some (.inl wh_), some (.inr (.inr (some (2, kk_.toNat)))), some (.inl 1)], [.inr (.inr (some (2, kk_.toNat)))], S0_)) rfl ?_
          refine sm_T_cal (d1 := 0) (Q1 := vq_60 kk_.toNat S0_) rfl rfl (by decide) (vc_60 kk_.toNat S0_ hI_ ) (fun u_ Sx68_ px71_ => ?_)
          obtain ⟨rfl, vx73_, rfl, px71_⟩ := px71_
          refine sm_T_ri rfl (Or.inl ⟨_, _, rfl, _, rfl, hI_, hF_, ?_⟩)
          trivial
        by_cases cx74_ : wh_ = 4
        · refine sm_T_sw (t := 104) rfl rfl (by rw [cx74_]; rfl) ?_
          refine sm_T_go 1 (c1 := (105, [some (.inr (.inr (some (12, 0)))), some (.inl kk_), some (.inl wh_), some (.inr (.inr (some (2, kk_.toNat)))), some (.inl 1)], [.inr (.inr (some (2, kk_.toNat)))], S0_)) rfl ?_
          refine sm_T_cal (d1 := 0) (Q1 := vq_56 kk_.toNat S0_) rfl rfl (by decide) (vc_56 kk_.toNat S0_ hI_ ) (fun u_ Sx75_ px78_ => ?_)
          obtain ⟨rfl, vx80_, rfl, px78_⟩ := px78_
          refine sm_T_ri rfl (Or.inl ⟨_, _, rfl, _, rfl, hI_, hF_, ?_⟩)
          trivial
        by_cases cx81_ : wh_ = 5
        · refine sm_T_sw (t := 109) rfl rfl (by rw [cx81_]; rfl) ?_
          refine sm_T_go 3 (c1 := (116, [some (.inr (.inr (some (12, 0)))), some (.inl kk_), some (.inl wh_), some (.inr (.inr (some (2, kk_.toNat)))), some (.inl 1)], [.inl (S0_.1 0 (0 + kk_.toNat) 1)], S0_)) rfl ?_
          refine sm_T_ri rfl (Or.inl ⟨_, _, rfl, _, rfl, hI_, hF_, ?_⟩)
          trivial
        by_cases cx82_ : wh_ = 6
        · refine sm_T_sw (t := 117) rfl rfl (by rw [cx82_]; rfl) ?_
          have bx83_ : 0 ≤ S0_.1 0 (0 + kk_.toNat) 2 ∧ S0_.1 0 (0 + kk_.toNat) 2 ≤ 38 := hI_.1 0 (0 + kk_.toNat) 2 rfl
          refine sm_T_go 6 (c1 := (133, [some (.inr (.inr (some (12, 0)))), some (.inl kk_), some (.inl wh_), some (.inr (.inr (some (2, kk_.toNat)))), some (.inl 1)], [.inl (S0_.1 0 (0 + kk_.toNat) 2)], S0_)) rfl ?_
          refine sm_T_ri rfl (Or.inl ⟨_, _, rfl, _, rfl, hI_, hF_, ?_⟩)
          trivial
        refine sm_T_sw (t := 134) rfl rfl (by (have hh_ : wh_ < 0 ∨ 7 ≤ wh_ := by omega); rcases hh_ with hh_ | hh_; (exact sm_swd (Or.inl hh_)); (exact sm_swd (Or.inr (by simp only [List.length_cons, List.length_nil]; omega)))) ?_
        have bx84_ : 0 ≤ S0_.1 0 (0 + kk_.toNat) 0 ∧ S0_.1 0 (0 + kk_.toNat) 0 ≤ 60 := hI_.1 0 (0 + kk_.toNat) 0 rfl
        refine sm_T_go 6 (c1 := (150, [some (.inr (.inr (some (12, 0)))), some (.inl kk_), some (.inl wh_), some (.inr (.inr (some (2, kk_.toNat)))), some (.inl 1)], [.inl (S0_.1 0 (0 + kk_.toNat) 0)], S0_)) rfl ?_
        refine sm_T_ri rfl (Or.inl ⟨_, _, rfl, _, rfl, hI_, hF_, ?_⟩)
        trivial
