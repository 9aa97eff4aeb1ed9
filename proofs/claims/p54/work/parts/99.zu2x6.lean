/-! the class: run, reset; written by wip/p55/gen/vg -/
def okc_reset (kk_ : Int) (S_ : sm_S) : Prop := (0 ≤ kk_ ∧ kk_ < 4 ∧ S_.1 2 kk_.toNat 0 = 1)
def pxr (kk_ ip_ : Int) (S_ : sm_S) : Nat := (i_or ip_ (i_shl (S_.1 2 kk_.toNat 5) (S_.1 2 kk_.toNat 1))).toNat
def oka_run (kk_ ip_ : Int) (S_ : sm_S) : Prop := (0 ≤ kk_ ∧ kk_ < 4 ∧ S_.1 2 kk_.toNat 0 = 1)
def okc_run (kk_ ip_ : Int) (S_ : sm_S) : Prop := oka_run kk_ ip_ S_ ∧ (0 ≤ ip_ ∧ ip_ < 2 ^ (S_.1 2 kk_.toNat 1).toNat)
def vac_run (kk_ ip_ : Int) (S_ : sm_S) : Int := S_.2.2.1 34 (0 + kk_.toNat) (pxr kk_ ip_ S_) % 65536
def nwc_run (kk_ ip_ : Int) (S_ : sm_S) : Int := S_.2.2.1 34 (0 + kk_.toNat) (pxr kk_ ip_ S_) / 65536
/-! ChipFlow.reset -/
def vw_236t : sx_Wl := ([(2, 5)], [], [])
def vq_236t (kk_ : Int) (S0_ : sm_S) (u_ : Option sm_V) (S1_ : sm_S) : Prop := ∃ v_ : Int, u_ = some (.inl v_) ∧ gi S1_ ∧ ai_fr (sx_W vw_236t) S0_ S1_ ∧ ((S1_.1 2 kk_.toNat 5 = S0_.1 2 kk_.toNat 4 ∧ ∀ j_, j_ ≠ kk_.toNat → S1_.1 2 j_ 5 = S0_.1 2 j_ 5) ∧ okc_reset kk_ S0_ ∧ v_ = S0_.1 2 kk_.toNat 5 ∧ jC S1_)
def vx_236t (kk_ : Int) (S0_ : sm_S) (S1_ : sm_S) : Prop := gi S1_ ∧ ai_fr (sx_W vw_236t) S0_ S1_ ∧ (S1_ = S0_ ∧ ¬ okc_reset kk_ S0_)
set_option maxHeartbeats 400000 in
theorem vc_236t {sc_ : Nat × (Nat → Int)} (kk_ : Int) (S0_ : sm_S) (hI_ : gi S0_) (hJ_ : jC S0_) : sm_T (mt_P sc_) 2 236 (0, [some (.inr (.inr (some (12, 0)))), some (.inl kk_), none, none], [], S0_) (fun ro9_ => (∃ u_ S1_, ro9_ = (.inl u_, S1_, 0) ∧ vq_236t kk_ S0_ u_ S1_) ∨ ∃ ex_ S1_, ro9_ = (.inr ex_, S1_, 1) ∧ ex_ ∈ ([0] : List Nat) ∧ vx_236t kk_ S0_ S1_) := by
  have hF_ : ai_fr (sx_W vw_236t) S0_ S0_ := ai_fr_rf
  refine sm_T_go 2 (c1 := (2, [some (.inr (.inr (some (12, 0)))), some (.inl kk_), none, none], [.inl kk_, .inr (.inr (some (12, 0)))], S0_)) rfl ?_
  refine sm_T_cale (d1_ := 1) (Q1_ := vq_272t kk_ S0_) (Q2_ := (fun ex_ S1_ => ex_ ∈ ([0] : List Nat) ∧ vx_272t kk_ S0_ S1_)) rfl rfl (by decide) (vc_272t kk_ S0_ hI_ ) rfl (fun xx6_ Sx1_ px4_ => ?_) (fun u_ Sx1_ px4_ => ?_)
  · obtain ⟨px4m, hIx2_, hFx3_, px4_⟩ := px4_
    refine Or.inr ⟨_, _, rfl, by first | exact px4m | (simp only [List.mem_cons, List.not_mem_nil, or_false] at px4m ⊢; omega), hIx2_, ai_fr_tr hF_ (fr_le hFx3_ rfl), ?_⟩
    exact ⟨px4_.1, fun y9_ => px4_.2 y9_⟩
  obtain ⟨rfl, -, -, rfl, px4_⟩ := px4_
  have a9_ := px4_
  have J9_ := hJ_.2.1 kk_.toNat (by omega) a9_.2
  have J1_ := J9_.1
  have q9_ := a9_.2
  have c8_ : 0 ≤ S0_.1 2 (kk_.toNat) 8 ∧ S0_.1 2 (kk_.toNat) 8 ≤ 150 := hI_.1 2 (kk_.toNat) 8 rfl
  have bx7_ : 0 ≤ S0_.1 2 kk_.toNat 5 ∧ S0_.1 2 kk_.toNat 5 ≤ 63 := hI_.1 2 kk_.toNat 5 rfl
  have bx8_ : 0 ≤ S0_.1 2 kk_.toNat 4 ∧ S0_.1 2 kk_.toNat 4 ≤ 63 := hI_.1 2 kk_.toNat 4 rfl
  have hIx9_ : gi (sm_pI S0_ 2 kk_.toNat 5 (S0_.1 2 kk_.toNat 4)) := gi_pI hI_ (show 0 ≤ (S0_.1 2 kk_.toNat 4) ∧ (S0_.1 2 kk_.toNat 4) ≤ 63 from ⟨by omega, by omega⟩)
  have hFx10_ : ai_fr (sx_W vw_236t) S0_ (sm_pI S0_ 2 kk_.toNat 5 (S0_.1 2 kk_.toNat 4)) := ai_fr_tr hF_ (ai_fr_pI rfl)
  refine sm_T_go 9 (c1 := (20, [some (.inr (.inr (some (12, 0)))), some (.inl kk_), some (.inr (.inr (some (2, kk_.toNat)))), some (.inl (S0_.1 2 kk_.toNat 5))], [.inl (S0_.1 2 kk_.toNat 5)], sm_pI S0_ 2 kk_.toNat 5 (S0_.1 2 kk_.toNat 4))) rfl ?_
  refine sm_T_ri rfl (Or.inl ⟨_, _, rfl, _, rfl, hIx9_, hFx10_, ?_⟩)
  exact ⟨⟨rf_eq, fun j_ hj_ => by rw [rd_ff, if_neg (fun q_ => hj_ q_.2.1)]⟩, by (unfold okc_reset; omega), rfl, jC_st hJ_ ⟨a9_.2, by omega⟩ J9_.2.1⟩
/-! ChipFlow.run -/
def vw_235t : sx_Wl := ([(2, 5)], [], [])
def vq_235t (kk_ : Int) (ip_ : Int) (S0_ : sm_S) (u_ : Option sm_V) (S1_ : sm_S) : Prop := ∃ v_ : Int, u_ = some (.inl v_) ∧ gi S1_ ∧ ai_fr (sx_W vw_235t) S0_ S1_ ∧ ((S1_.1 2 kk_.toNat 5 = nwc_run kk_ ip_ S0_ ∧ ∀ j_, j_ ≠ kk_.toNat → S1_.1 2 j_ 5 = S0_.1 2 j_ 5) ∧ okc_run kk_ ip_ S0_ ∧ v_ = vac_run kk_ ip_ S0_ ∧ jC S1_)
def vx_235t (kk_ : Int) (ip_ : Int) (S0_ : sm_S) (ex_ : Nat) (S1_ : sm_S) : Prop := gi S1_ ∧ ai_fr (sx_W vw_235t) S0_ S1_ ∧ (S1_ = S0_ ∧ ((ex_ = 0 ∧ ¬ oka_run kk_ ip_ S0_) ∨ (ex_ = 1 ∧ oka_run kk_ ip_ S0_ ∧ ¬ okc_run kk_ ip_ S0_)))
set_option maxHeartbeats 400000 in
theorem vc_235t {sc_ : Nat × (Nat → Int)} (kk_ : Int) (ip_ : Int) (S0_ : sm_S) (hI_ : gi S0_) (hJ_ : jC S0_) : sm_T (mt_P sc_) 2 235 (0, [some (.inr (.inr (some (12, 0)))), some (.inl kk_), some (.inl ip_), none, none], [], S0_) (fun ro9_ => (∃ u_ S1_, ro9_ = (.inl u_, S1_, 0) ∧ vq_235t kk_ ip_ S0_ u_ S1_) ∨ ∃ ex_ S1_, ro9_ = (.inr ex_, S1_, 1) ∧ ex_ ∈ ([0, 1] : List Nat) ∧ vx_235t kk_ ip_ S0_ ex_ S1_) := by
  have hF_ : ai_fr (sx_W vw_235t) S0_ S0_ := ai_fr_rf
  refine sm_T_go 2 (c1 := (2, [some (.inr (.inr (some (12, 0)))), some (.inl kk_), some (.inl ip_), none, none], [.inl kk_, .inr (.inr (some (12, 0)))], S0_)) rfl ?_
  refine sm_T_cale (d1_ := 1) (Q1_ := vq_272t kk_ S0_) (Q2_ := (fun ex_ S1_ => ex_ ∈ ([0] : List Nat) ∧ vx_272t kk_ S0_ S1_)) rfl rfl (by decide) (vc_272t kk_ S0_ hI_ ) rfl (fun xx6_ Sx1_ px4_ => ?_) (fun u_ Sx1_ px4_ => ?_)
  · obtain ⟨px4m, hIx2_, hFx3_, px4_⟩ := px4_
    refine Or.inr ⟨_, _, rfl, by first | exact px4m | (simp only [List.mem_cons, List.not_mem_nil, or_false] at px4m ⊢; omega), hIx2_, ai_fr_tr hF_ (fr_le hFx3_ rfl), ?_⟩
    exact ⟨px4_.1, Or.inl ⟨List.mem_singleton.mp px4m, fun y9_ => px4_.2 y9_⟩⟩
  obtain ⟨rfl, -, -, rfl, px4_⟩ := px4_
  have a9_ := px4_
  have J9_ := hJ_.2.1 kk_.toNat (by omega) a9_.2
  have J1_ := J9_.1
  have q9_ := a9_.2
  have c8_ : 0 ≤ S0_.1 2 (kk_.toNat) 8 ∧ S0_.1 2 (kk_.toNat) 8 ≤ 150 := hI_.1 2 (kk_.toNat) 8 rfl
  have c1_ : 0 ≤ S0_.1 2 (kk_.toNat) 1 ∧ S0_.1 2 (kk_.toNat) 1 ≤ 12 := hI_.1 2 (kk_.toNat) 1 rfl
  have c2_ : 0 ≤ S0_.1 2 (kk_.toNat) 2 ∧ S0_.1 2 (kk_.toNat) 2 ≤ 6 := hI_.1 2 (kk_.toNat) 2 rfl
  refine sm_T_go 2 (c1 := (7, [some (.inr (.inr (some (12, 0)))), some (.inl kk_), some (.inl ip_), some (.inr (.inr (some (2, kk_.toNat)))), none], [.inl ip_], S0_)) rfl ?_
  refine sm_T_b0 (a := 2) (z := 17) rfl (fun cx7_ => ?_) (fun cx7_ => ?_)
  · have cx7_ : ip_ < 0 := of_decide_eq_true cx7_
    refine sm_T_go 1 (c1 := (25, [some (.inr (.inr (some (12, 0)))), some (.inl kk_), some (.inl ip_), some (.inr (.inr (some (2, kk_.toNat)))), none], [.inl 0], S0_)) rfl ?_
    refine sm_T_cale (d1_ := 0) (Q1_ := vq_266e 0 S0_) (Q2_ := (fun ex_ S1_ => ex_ ∈ ([1] : List Nat) ∧ vx_266e 0 S0_ S1_)) rfl rfl (by decide) (vc_266e 0 S0_ hI_ ) rfl (fun xx13_ Sx8_ px11_ => ?_) (fun u_ Sx8_ px11_ => ?_)
    · obtain ⟨px11m, hIx9_, hFx10_, px11_⟩ := px11_
      refine Or.inr ⟨_, _, rfl, by first | exact px11m | (simp only [List.mem_cons, List.not_mem_nil, or_false] at px11m ⊢; omega), hIx9_, ai_fr_tr hF_ (fr_le hFx10_ rfl), ?_⟩
      first | exact ⟨px11_.2, Or.inl ⟨List.mem_singleton.mp px11m, by (have y9_ := px11_.1; unfold oka_run; omega)⟩⟩ | exact ⟨px11_.2, Or.inr ⟨List.mem_singleton.mp px11m, by (unfold oka_run; omega), by (have y9_ := px11_.1; unfold okc_run oka_run; omega)⟩⟩
    · exact absurd rfl px11_.2.2.2.1
  · have cx7_ : ¬ (ip_ < 0) := of_decide_eq_false cx7_
    have bx14_ : 0 ≤ S0_.1 2 kk_.toNat 1 ∧ S0_.1 2 kk_.toNat 1 ≤ 12 := hI_.1 2 kk_.toNat 1 rfl
    refine sm_T_go 4 (c1 := (16, [some (.inr (.inr (some (12, 0)))), some (.inl kk_), some (.inl ip_), some (.inr (.inr (some (2, kk_.toNat)))), none], [.inl (S0_.1 2 kk_.toNat 1), .inl 1, .inl ip_], S0_)) rfl ?_
    refine sm_T_bin (w := (i_shl 1 (S0_.1 2 kk_.toNat 1))) rfl rfl ?_ -- pc_ 16
    have bx15_ := i_shl1 (e := (S0_.1 2 kk_.toNat 1)) (by omega) (by omega)
    have hp0_ := pw_pos ((S0_.1 2 kk_.toNat 1)).toNat
    refine sm_T_br (a := 3) (z := 7) rfl (fun cx17_ => ?_) (fun cx17_ => ?_)
    · have cx17_ : (i_shl 1 (S0_.1 2 kk_.toNat 1)) ≤ ip_ := of_decide_eq_true cx17_
      refine sm_T_go 1 (c1 := (25, [some (.inr (.inr (some (12, 0)))), some (.inl kk_), some (.inl ip_), some (.inr (.inr (some (2, kk_.toNat)))), none], [.inl 0], S0_)) rfl ?_
      refine sm_T_cale (d1_ := 0) (Q1_ := vq_266e 0 S0_) (Q2_ := (fun ex_ S1_ => ex_ ∈ ([1] : List Nat) ∧ vx_266e 0 S0_ S1_)) rfl rfl (by decide) (vc_266e 0 S0_ hI_ ) rfl (fun xx23_ Sx18_ px21_ => ?_) (fun u_ Sx18_ px21_ => ?_)
      · obtain ⟨px21m, hIx19_, hFx20_, px21_⟩ := px21_
        refine Or.inr ⟨_, _, rfl, by first | exact px21m | (simp only [List.mem_cons, List.not_mem_nil, or_false] at px21m ⊢; omega), hIx19_, ai_fr_tr hF_ (fr_le hFx20_ rfl), ?_⟩
        first | exact ⟨px21_.2, Or.inl ⟨List.mem_singleton.mp px21m, by (have y9_ := px21_.1; unfold oka_run; omega)⟩⟩ | exact ⟨px21_.2, Or.inr ⟨List.mem_singleton.mp px21m, by (unfold oka_run; omega), by (have y9_ := px21_.1; unfold okc_run oka_run; omega)⟩⟩
      · exact absurd rfl px21_.2.2.2.1
    · have cx17_ : ¬ ((i_shl 1 (S0_.1 2 kk_.toNat 1)) ≤ ip_) := of_decide_eq_false cx17_
      refine sm_T_go 2 (c1 := (25, [some (.inr (.inr (some (12, 0)))), some (.inl kk_), some (.inl ip_), some (.inr (.inr (some (2, kk_.toNat)))), none], [.inl 1], S0_)) rfl ?_
      refine sm_T_cale (d1_ := 0) (Q1_ := vq_266e 1 S0_) (Q2_ := (fun ex_ S1_ => ex_ ∈ ([1] : List Nat) ∧ vx_266e 1 S0_ S1_)) rfl rfl (by decide) (vc_266e 1 S0_ hI_ ) rfl (fun xx29_ Sx24_ px27_ => ?_) (fun u_ Sx24_ px27_ => ?_)
      · exact absurd px27_.2.2.2.1 (by decide)
      obtain ⟨rfl, -, -, px27_, rfl⟩ := px27_
      have n25_ := px27_
      have J9d := J9_.2.2.1
      have pt9_ := pat_b (s_ := S0_.1 2 kk_.toNat 5) (i_ := ip_) (R_ := (S0_.1 2 kk_.toNat 2).toNat) (I_ := (S0_.1 2 kk_.toNat 1).toNat) (by omega) (by omega) (by omega)
      have pt8_ := pw_le (n := (S0_.1 2 kk_.toNat 2).toNat + (S0_.1 2 kk_.toNat 1).toNat) (m := 12) (by omega)
      rw [show (((S0_.1 2 kk_.toNat 1).toNat : Nat) : Int) = S0_.1 2 kk_.toNat 1 by omega, i_or_c] at pt9_
      have tb9_ := J9_.2.2.2.1 (i_or ip_ (i_shl (S0_.1 2 kk_.toNat 5) (S0_.1 2 kk_.toNat 1))).toNat (by omega)
      have nx9_ := shr16 tb9_
      have nx8_ := pw_le (n := (S0_.1 2 kk_.toNat 2).toNat) (m := 6) (by omega)
      have bx30_ : 0 ≤ S0_.1 2 kk_.toNat 5 ∧ S0_.1 2 kk_.toNat 5 ≤ 63 := hI_.1 2 kk_.toNat 5 rfl
      refine sm_T_go 7 (c1 := (41, [some (.inr (.inr (some (12, 0)))), some (.inl kk_), some (.inl ip_), some (.inr (.inr (some (2, kk_.toNat)))), none], [.inl (S0_.1 2 kk_.toNat 1), .inl (S0_.1 2 kk_.toNat 5), .inl ip_, .inr (.inr (some (34, (0 + kk_.toNat))))], S0_)) rfl ?_
      refine sm_T_bin (w := (i_shl (S0_.1 2 kk_.toNat 5) (S0_.1 2 kk_.toNat 1))) rfl rfl ?_ -- pc_ 41
      refine sm_T_bin (w := (i_or ip_ (i_shl (S0_.1 2 kk_.toNat 5) (S0_.1 2 kk_.toNat 1)))) rfl rfl ?_ -- pc_ 42
      refine sm_T_iald (n := 4096) rfl rfl (by omega) (by omega) ?_
      have bx31_ : 0 ≤ S0_.2.2.1 34 (0 + kk_.toNat) (i_or ip_ (i_shl (S0_.1 2 kk_.toNat 5) (S0_.1 2 kk_.toNat 1))).toNat ∧ S0_.2.2.1 34 (0 + kk_.toNat) (i_or ip_ (i_shl (S0_.1 2 kk_.toNat 5) (S0_.1 2 kk_.toNat 1))).toNat ≤ 4194303 := hI_.2 34 (0 + kk_.toNat) _
      refine sm_T_go 4 (c1 := (51, [some (.inr (.inr (some (12, 0)))), some (.inl kk_), some (.inl ip_), some (.inr (.inr (some (2, kk_.toNat)))), some (.inl (S0_.2.2.1 34 (0 + kk_.toNat) (i_or ip_ (i_shl (S0_.1 2 kk_.toNat 5) (S0_.1 2 kk_.toNat 1))).toNat))], [.inl 16, .inl (S0_.2.2.1 34 (0 + kk_.toNat) (i_or ip_ (i_shl (S0_.1 2 kk_.toNat 5) (S0_.1 2 kk_.toNat 1))).toNat), .inr (.inr (some (2, kk_.toNat)))], S0_)) rfl ?_
      refine sm_T_bin (w := ((S0_.2.2.1 34 (0 + kk_.toNat) (i_or ip_ (i_shl (S0_.1 2 kk_.toNat 5) (S0_.1 2 kk_.toNat 1))).toNat) / 65536)) rfl (bi_shr (k := 16) (by decide) (by omega) (by omega)) ?_ -- pc_ 51
      have hIx32_ : gi (sm_pI S0_ 2 kk_.toNat 5 ((S0_.2.2.1 34 (0 + kk_.toNat) (i_or ip_ (i_shl (S0_.1 2 kk_.toNat 5) (S0_.1 2 kk_.toNat 1))).toNat) / 65536)) := gi_pI hI_ (show 0 ≤ ((S0_.2.2.1 34 (0 + kk_.toNat) (i_or ip_ (i_shl (S0_.1 2 kk_.toNat 5) (S0_.1 2 kk_.toNat 1))).toNat) / 65536) ∧ ((S0_.2.2.1 34 (0 + kk_.toNat) (i_or ip_ (i_shl (S0_.1 2 kk_.toNat 5) (S0_.1 2 kk_.toNat 1))).toNat) / 65536) ≤ 63 from ⟨by omega, by omega⟩)
      have hFx33_ : ai_fr (sx_W vw_235t) S0_ (sm_pI S0_ 2 kk_.toNat 5 ((S0_.2.2.1 34 (0 + kk_.toNat) (i_or ip_ (i_shl (S0_.1 2 kk_.toNat 5) (S0_.1 2 kk_.toNat 1))).toNat) / 65536)) := ai_fr_tr hF_ (ai_fr_pI rfl)
      refine sm_T_go 2 (c1 := (57, [some (.inr (.inr (some (12, 0)))), some (.inl kk_), some (.inl ip_), some (.inr (.inr (some (2, kk_.toNat)))), some (.inl (S0_.2.2.1 34 (0 + kk_.toNat) (i_or ip_ (i_shl (S0_.1 2 kk_.toNat 5) (S0_.1 2 kk_.toNat 1))).toNat))], [.inl (S0_.2.2.1 34 (0 + kk_.toNat) (i_or ip_ (i_shl (S0_.1 2 kk_.toNat 5) (S0_.1 2 kk_.toNat 1))).toNat)], sm_pI S0_ 2 kk_.toNat 5 ((S0_.2.2.1 34 (0 + kk_.toNat) (i_or ip_ (i_shl (S0_.1 2 kk_.toNat 5) (S0_.1 2 kk_.toNat 1))).toNat) / 65536))) rfl ?_
      refine sm_T_nt (u := some (.inl 65535)) (S1 := sm_pI S0_ 2 kk_.toNat 5 ((S0_.2.2.1 34 (0 + kk_.toNat) (i_or ip_ (i_shl (S0_.1 2 kk_.toNat 5) (S0_.1 2 kk_.toNat 1))).toNat) / 65536)) rfl rfl rfl ?_
      refine sm_T_bin (w := ((S0_.2.2.1 34 (0 + kk_.toNat) (i_or ip_ (i_shl (S0_.1 2 kk_.toNat 5) (S0_.1 2 kk_.toNat 1))).toNat) % 65536)) rfl (bi_msk (k := 16) (by decide)) ?_ -- pc_ 59
      refine sm_T_ri rfl (Or.inl ⟨_, _, rfl, _, rfl, hIx32_, hFx33_, ?_⟩)
      refine ⟨?_, by (unfold okc_run oka_run; omega), ?_, ?_⟩; (unfold nwc_run pxr; first | exact ⟨rf_eq, fun j_ hj_ => by rw [rd_ff, if_neg (fun q_ => hj_ q_.2.1)]⟩ | (rw [Nat.zero_add]; exact ⟨rf_eq, fun j_ hj_ => by rw [rd_ff, if_neg (fun q_ => hj_ q_.2.1)]⟩) | (simp only [Nat.zero_add]; exact ⟨rf_eq, fun j_ hj_ => by rw [rd_ff, if_neg (fun q_ => hj_ q_.2.1)]⟩)); (unfold vac_run pxr; first | rfl | (rw [Nat.zero_add]) | (simp only [Nat.zero_add])); (first | exact jC_st hJ_ ⟨a9_.2, by omega⟩ nx9_ | exact jC_st hJ_ ⟨a9_.2, by omega⟩ (by simpa using nx9_))
