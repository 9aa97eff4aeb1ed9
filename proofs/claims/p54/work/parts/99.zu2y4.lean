/-! the class: tests asked; written by wip/p55/gen/vg -/

/-! tests asked: the_ class -/
def okc_test (kk_ f_ : Int) (S_ : sm_S) : Prop := (0 ≤ kk_ ∧ kk_ < 4 ∧ S_.1 2 kk_.toNat 0 = 1) ∧ (0 ≤ f_ ∧ f_ < cfu9 kk_.toNat S_)
def oka_shows (kk_ p_ f_ : Int) (S_ : sm_S) : Prop := (0 ≤ kk_ ∧ kk_ < 4 ∧ S_.1 2 kk_.toNat 0 = 1) ∧ (0 ≤ f_ ∧ f_ < cfu9 kk_.toNat S_)
def okc_shows (kk_ p_ f_ : Int) (S_ : sm_S) : Prop := oka_shows kk_ p_ f_ S_ ∧ (0 ≤ p_ ∧ p_ < cB9 kk_.toNat S_)
def okc_tests (kk_ : Int) (S_ : sm_S) : Prop := 0 ≤ kk_ ∧ kk_ < 4 ∧ S_.1 2 kk_.toNat 0 = 1
def oka_pattern (kk_ k_ : Int) (S_ : sm_S) : Prop := (0 ≤ kk_ ∧ kk_ < 4 ∧ S_.1 2 kk_.toNat 0 = 1) ∧ 0 ≤ k_ ∧ (S_.1 2 kk_.toNat 15 = -1 ∨ k_ < S_.1 2 kk_.toNat 15)
def okc_pattern (kk_ k_ : Int) (S_ : sm_S) : Prop := oka_pattern kk_ k_ S_ ∧ S_.1 2 kk_.toNat 15 ≠ -1
def oka_suspect (kk_ k_ : Int) (S_ : sm_S) : Prop := (0 ≤ kk_ ∧ kk_ < 4 ∧ S_.1 2 kk_.toNat 0 = 1) ∧ 0 ≤ k_
def okc_suspect (kk_ k_ : Int) (S_ : sm_S) : Prop := oka_suspect kk_ k_ S_ ∧ S_.1 2 kk_.toNat 15 ≠ -1
def oka_faults (kk_ wh_ : Int) (S_ : sm_S) : Prop := 0 ≤ kk_ ∧ kk_ < 4 ∧ S_.1 2 kk_.toNat 0 = 1
def okc_faults (kk_ wh_ : Int) (S_ : sm_S) : Prop := oka_faults kk_ wh_ S_ ∧ (0 ≤ wh_ ∧ wh_ ≤ 2)
def vac_faults (kk_ wh_ : Int) (P_ : Nat → Nat → Bool) (L_ : List Nat) (le_ : Nat → Int) (S_ : sm_S) : Int := if wh_ = 0 then cfu9 kk_.toNat S_ else if wh_ = 1 then ((sn9 (fun f9_ => if le_ f9_ = -1 then 1 else 0) (cfu9 kk_.toNat S_).toNat : Nat) : Int) else if S_.1 2 kk_.toNat 15 = -1 then -1 else ((sn9 (fun f9_ => if 0 < cn9 (P_ f9_) L_ then 1 else 0) (cfu9 kk_.toNat S_).toNat : Nat) : Int)
/-- what calls want of_ the_ tester and of_ chips that are_ there -/
def tgo (S_ : sm_S) : Prop := ∀ c9_ : Nat, c9_ < 4 → S_.1 2 c9_ 0 = 1 → tpr c9_ S_ ∧ tkp c9_ S_
/-! ChipFlow.test -/
def vw_258t : sx_Wl := ([(9, 1), (9, 2), (9, 3)], [92, 93, 94, 95, 96], [(9, 0)])
def vq_258t (kk_ : Int) (f_ : Int) (S0_ : sm_S) (u_ : Option sm_V) (S1_ : sm_S) : Prop := ∃ v_ : Int, u_ = some (.inl v_) ∧ gi S1_ ∧ ai_fr (sx_W vw_258t) S0_ S1_ ∧ (jC S1_ ∧ tkk S0_ S1_ ∧ okc_test kk_ f_ S0_ ∧ csl kk_.toNat S0_ f_ v_)
def vx_258t (kk_ : Int) (f_ : Int) (S0_ : sm_S) (S1_ : sm_S) : Prop := gi S1_ ∧ ai_fr (sx_W vw_258t) S0_ S1_ ∧ (S1_ = S0_ ∧ ¬ okc_test kk_ f_ S0_)
set_option maxHeartbeats 400000 in
theorem vc_258t {sc_ : Nat × (Nat → Int)} (kk_ : Int) (f_ : Int) (S0_ : sm_S) (hI_ : gi S0_) (hJ_ : jC S0_) (hg9_ : tgo S0_) : sm_T (mt_P sc_) 6 258 (0, [some (.inr (.inr (some (12, 0)))), some (.inl kk_), some (.inl f_), none], [], S0_) (fun ro9_ => (∃ u_ S1_, ro9_ = (.inl u_, S1_, 0) ∧ vq_258t kk_ f_ S0_ u_ S1_) ∨ ∃ ex_ S1_, ro9_ = (.inr ex_, S1_, 1) ∧ ex_ ∈ ([0] : List Nat) ∧ vx_258t kk_ f_ S0_ S1_) := by
  have hF_ : ai_fr (sx_W vw_258t) S0_ S0_ := ai_fr_rf
  refine sm_T_go 2 (c1 := (2, [some (.inr (.inr (some (12, 0)))), some (.inl kk_), some (.inl f_), none], [.inl kk_, .inr (.inr (some (12, 0)))], S0_)) rfl ?_
  refine sm_T_cale (d1_ := 1) (Q1_ := vq_272t kk_ S0_) (Q2_ := (fun ex_ S1_ => ex_ ∈ ([0] : List Nat) ∧ vx_272t kk_ S0_ S1_)) rfl rfl (by decide) (vc_272t kk_ S0_ hI_ ) rfl (fun xx6_ Sx1_ px4_ => ?_) (fun u_ Sx1_ px4_ => ?_)
  · obtain ⟨px4m, hIx2_, hFx3_, px4_⟩ := px4_
    refine Or.inr ⟨_, _, rfl, by first | exact px4m | (simp only [List.mem_cons, List.not_mem_nil, or_false] at px4m ⊢; omega), hIx2_, ai_fr_tr hF_ (fr_le hFx3_ rfl), ?_⟩
    exact ⟨px4_.1, fun y9_ => px4_.2 y9_.1⟩
  obtain ⟨rfl, -, -, rfl, px4_⟩ := px4_
  have a9_ := px4_
  have J9_ := hJ_.2.1 kk_.toNat (by omega) a9_.2
  have J1_ := J9_.1
  have q9_ := a9_.2
  have c8_ : 0 ≤ S0_.1 2 (kk_.toNat) 8 ∧ S0_.1 2 (kk_.toNat) 8 ≤ 150 := hI_.1 2 (kk_.toNat) 8 rfl
  have c1_ : 0 ≤ S0_.1 2 (kk_.toNat) 1 ∧ S0_.1 2 (kk_.toNat) 1 ≤ 12 := hI_.1 2 (kk_.toNat) 1 rfl
  have c2_ : 0 ≤ S0_.1 2 (kk_.toNat) 2 ∧ S0_.1 2 (kk_.toNat) 2 ≤ 6 := hI_.1 2 (kk_.toNat) 2 rfl
  have G9_ := hg9_ kk_.toNat (by omega) a9_.2
  refine sm_T_go 2 (c1 := (7, [some (.inr (.inr (some (12, 0)))), some (.inl kk_), some (.inl f_), some (.inr (.inr (some (2, kk_.toNat))))], [.inl f_], S0_)) rfl ?_
  refine sm_T_b0 (a := 2) (z := 15) rfl (fun cx7_ => ?_) (fun cx7_ => ?_)
  · have cx7_ : f_ < 0 := of_decide_eq_true cx7_
    refine sm_T_go 1 (c1 := (23, [some (.inr (.inr (some (12, 0)))), some (.inl kk_), some (.inl f_), some (.inr (.inr (some (2, kk_.toNat))))], [.inl 0], S0_)) rfl ?_
    refine sm_T_cale (d1_ := 0) (Q1_ := vq_265e 0 S0_) (Q2_ := (fun ex_ S1_ => ex_ ∈ ([0] : List Nat) ∧ vx_265e 0 S0_ S1_)) rfl rfl (by decide) (vc_265e 0 S0_ hI_ ) rfl (fun xx13_ Sx8_ px11_ => ?_) (fun u_ Sx8_ px11_ => ?_)
    · obtain ⟨px11m, hIx9_, hFx10_, px11_⟩ := px11_
      refine Or.inr ⟨_, _, rfl, by first | exact px11m | (simp only [List.mem_cons, List.not_mem_nil, or_false] at px11m ⊢; omega), hIx9_, ai_fr_tr hF_ (fr_le hFx10_ rfl), ?_⟩
      exact ⟨px11_.2, by (have y9_ := px11_.1; unfold okc_test; omega)⟩
    · exact absurd rfl px11_.2.2.2.1
  · have cx7_ : ¬ (f_ < 0) := of_decide_eq_false cx7_
    refine sm_T_go 2 (c1 := (12, [some (.inr (.inr (some (12, 0)))), some (.inl kk_), some (.inl f_), some (.inr (.inr (some (2, kk_.toNat))))], [.inr (.inr (some (2, kk_.toNat))), .inl f_], S0_)) rfl ?_
    refine sm_T_cal (d1 := 1) (Q1 := vq_62n kk_.toNat S0_) rfl rfl (by decide) (vc_62n kk_.toNat S0_ hI_ (by omega)) (fun u_ Sx14_ px17_ => ?_)
    obtain ⟨rfl, vx19_, rfl, px17_⟩ := px17_
    have f12_ := px17_
    refine sm_T_br (a := 3) (z := 7) rfl (fun cx20_ => ?_) (fun cx20_ => ?_)
    · have cx20_ : vx19_ ≤ f_ := of_decide_eq_true cx20_
      refine sm_T_go 1 (c1 := (23, [some (.inr (.inr (some (12, 0)))), some (.inl kk_), some (.inl f_), some (.inr (.inr (some (2, kk_.toNat))))], [.inl 0], S0_)) rfl ?_
      refine sm_T_cale (d1_ := 0) (Q1_ := vq_265e 0 S0_) (Q2_ := (fun ex_ S1_ => ex_ ∈ ([0] : List Nat) ∧ vx_265e 0 S0_ S1_)) rfl rfl (by decide) (vc_265e 0 S0_ hI_ ) rfl (fun xx26_ Sx21_ px24_ => ?_) (fun u_ Sx21_ px24_ => ?_)
      · obtain ⟨px24m, hIx22_, hFx23_, px24_⟩ := px24_
        refine Or.inr ⟨_, _, rfl, by first | exact px24m | (simp only [List.mem_cons, List.not_mem_nil, or_false] at px24m ⊢; omega), hIx22_, ai_fr_tr hF_ (fr_le hFx23_ rfl), ?_⟩
        exact ⟨px24_.2, by (have y9_ := px24_.1; unfold okc_test; omega)⟩
      · exact absurd rfl px24_.2.2.2.1
    · have cx20_ : ¬ (vx19_ ≤ f_) := of_decide_eq_false cx20_
      refine sm_T_go 2 (c1 := (23, [some (.inr (.inr (some (12, 0)))), some (.inl kk_), some (.inl f_), some (.inr (.inr (some (2, kk_.toNat))))], [.inl 1], S0_)) rfl ?_
      refine sm_T_cale (d1_ := 0) (Q1_ := vq_265e 1 S0_) (Q2_ := (fun ex_ S1_ => ex_ ∈ ([0] : List Nat) ∧ vx_265e 1 S0_ S1_)) rfl rfl (by decide) (vc_265e 1 S0_ hI_ ) rfl (fun xx32_ Sx27_ px30_ => ?_) (fun u_ Sx27_ px30_ => ?_)
      · exact absurd px30_.2.2.2.1 (by decide)
      obtain ⟨rfl, -, -, px30_, rfl⟩ := px30_
      refine sm_T_go 4 (c1 := (32, [some (.inr (.inr (some (12, 0)))), some (.inl kk_), some (.inl f_), some (.inr (.inr (some (2, kk_.toNat))))], [.inl f_, .inr (.inr (some (2, kk_.toNat))), .inr (.inr (some (9, 0)))], S0_)) rfl ?_
      refine sm_T_cal (d1 := 5) (Q1 := vq_177n f_ kk_.toNat S0_) rfl rfl (by decide) (vc_177n f_ kk_.toNat S0_ hI_ (by exact G9_.1) (by omega) (by exact hJ_.2.2.2) (by exact G9_.2)) (fun u_ Sx33_ px36_ => ?_)
      obtain ⟨vx38_, rfl, hIx34_, hFx35_, px36_⟩ := px36_
      have hFx37_ : ai_fr (sx_W vw_258t) S0_ Sx33_ := ai_fr_tr hF_ (fr_le hFx35_ rfl)
      have p32_ := px36_
      refine sm_T_ri rfl (Or.inl ⟨_, _, rfl, _, rfl, hIx34_, hFx37_, ?_⟩)
      exact ⟨jC_mk hJ_ hFx37_ (tpo_fr hJ_.2.2.1 hFx37_) p32_.2.2.1 (by decide) (by decide) (by decide) (by decide) (by decide), tkk_w ⟨⟨p32_.2.1.1, p32_.2.1.2.trans (hFx37_.1 2 kk_.toNat 19 rfl).symm⟩, p32_.2.2.2.1⟩, by (unfold okc_test; omega), p32_.2.2.2.2.2.2⟩
/-! Chip.isPattern -/
def vw_61n : sx_Wl := ([], [], [])
def vq_61n (a1_ : Int) (ii_ : Nat) (S0_ : sm_S) (u_ : Option sm_V) (S1_ : sm_S) : Prop := S0_ = S1_ ∧ ∃ v_ : Int, u_ = some (.inl v_) ∧ ((0 ≤ v_ ∧ v_ ≤ 1) ∧ (v_ = 1 ↔ 0 ≤ a1_ ∧ a1_ < cB9 ii_ S0_))
set_option maxHeartbeats 400000 in
theorem vc_61n {sc_ : Nat × (Nat → Int)} (a1_ : Int) (ii_ : Nat) (S0_ : sm_S) (hI_ : gi S0_) (hs_ : S0_.1 2 ii_ 1 + S0_.1 2 ii_ 2 ≤ 12) : sm_T (mt_P sc_) 0 61 (0, [some (.inr (.inr (some (2, ii_)))), some (.inl a1_)], [], S0_) (fun ro9_ => ∃ u_ S1_, ro9_ = (.inl u_, S1_, 0) ∧ vq_61n a1_ ii_ S0_ u_ S1_) := by
  have hF_ : ai_fr (sx_W vw_61n) S0_ S0_ := ai_fr_rf
  have c1_ : 0 ≤ S0_.1 2 ii_ 1 ∧ S0_.1 2 ii_ 1 ≤ 12 := hI_.1 2 ii_ 1 rfl
  have c2_ : 0 ≤ S0_.1 2 ii_ 2 ∧ S0_.1 2 ii_ 2 ≤ 6 := hI_.1 2 ii_ 2 rfl
  refine sm_T_go 1 (c1 := (1, [some (.inr (.inr (some (2, ii_)))), some (.inl a1_)], [.inl a1_], S0_)) rfl ?_
  refine sm_T_b0 (a := 2) (z := 22) rfl (fun cx1_ => ?_) (fun cx1_ => ?_)
  · have cx1_ : a1_ < 0 := of_decide_eq_true cx1_
    refine sm_T_go 1 (c1 := (24, [some (.inr (.inr (some (2, ii_)))), some (.inl a1_)], [.inl 0], S0_)) rfl ?_
    refine sm_T_rz rfl (by omega) ⟨_, _, rfl, rfl, _, rfl, ?_⟩
    (refine ⟨by omega, ?_⟩; unfold cB9; omega)
  · have cx1_ : ¬ (a1_ < 0) := of_decide_eq_false cx1_
    have bx2_ : 0 ≤ S0_.1 2 ii_ 1 ∧ S0_.1 2 ii_ 1 ≤ 12 := hI_.1 2 ii_ 1 rfl
    have bx3_ : 0 ≤ S0_.1 2 ii_ 2 ∧ S0_.1 2 ii_ 2 ≤ 6 := hI_.1 2 ii_ 2 rfl
    refine sm_T_go 6 (c1 := (14, [some (.inr (.inr (some (2, ii_)))), some (.inl a1_)], [.inl (S0_.1 2 ii_ 2), .inl (S0_.1 2 ii_ 1), .inl 1, .inl a1_], S0_)) rfl ?_
    refine sm_T_bin (w := (S0_.1 2 ii_ 1) + (S0_.1 2 ii_ 2)) rfl (bi_add (by omega) (by omega) (by omega)) ?_ -- pc_ 14
    refine sm_T_bin (w := (i_shl 1 ((S0_.1 2 ii_ 1) + (S0_.1 2 ii_ 2)))) rfl rfl ?_ -- pc_ 15
    have bx4_ := i_shl1 (e := ((S0_.1 2 ii_ 1) + (S0_.1 2 ii_ 2))) (by omega) (by omega)
    have hp8_ := pw_le (n := (((S0_.1 2 ii_ 1) + (S0_.1 2 ii_ 2))).toNat) (m := 12) (by omega)
    refine sm_T_br (a := 3) (z := 7) rfl (fun cx6_ => ?_) (fun cx6_ => ?_)
    · have cx6_ : (i_shl 1 ((S0_.1 2 ii_ 1) + (S0_.1 2 ii_ 2))) ≤ a1_ := of_decide_eq_true cx6_
      refine sm_T_go 1 (c1 := (24, [some (.inr (.inr (some (2, ii_)))), some (.inl a1_)], [.inl 0], S0_)) rfl ?_
      refine sm_T_rz rfl (by omega) ⟨_, _, rfl, rfl, _, rfl, ?_⟩
      (refine ⟨by omega, ?_⟩; unfold cB9; omega)
    · have cx6_ : ¬ ((i_shl 1 ((S0_.1 2 ii_ 1) + (S0_.1 2 ii_ 2))) ≤ a1_) := of_decide_eq_false cx6_
      refine sm_T_go 2 (c1 := (24, [some (.inr (.inr (some (2, ii_)))), some (.inl a1_)], [.inl 1], S0_)) rfl ?_
      refine sm_T_rz rfl (by omega) ⟨_, _, rfl, rfl, _, rfl, ?_⟩
      (refine ⟨by omega, ?_⟩; unfold cB9; omega)
/-! ChipFlow.shows -/
def vw_259t : sx_Wl := ([(9, 1), (9, 2), (9, 3)], [92, 93, 94, 95, 96], [(9, 0)])
def vq_259t (kk_ : Int) (p_ : Int) (f_ : Int) (S0_ : sm_S) (u_ : Option sm_V) (S1_ : sm_S) : Prop := ∃ v_ : Int, u_ = some (.inl v_) ∧ gi S1_ ∧ ai_fr (sx_W vw_259t) S0_ S1_ ∧ (jC S1_ ∧ tkk S0_ S1_ ∧ okc_shows kk_ p_ f_ S0_ ∧ (v_ = 0 ∨ v_ = 1) ∧ cshq kk_.toNat S0_ f_ p_.toNat (decide (v_ = 1)))
def vx_259t (kk_ : Int) (p_ : Int) (f_ : Int) (S0_ : sm_S) (ex_ : Nat) (S1_ : sm_S) : Prop := gi S1_ ∧ ai_fr (sx_W vw_259t) S0_ S1_ ∧ (S1_ = S0_ ∧ ((ex_ = 0 ∧ ¬ oka_shows kk_ p_ f_ S0_) ∨ (ex_ = 1 ∧ oka_shows kk_ p_ f_ S0_ ∧ ¬ okc_shows kk_ p_ f_ S0_)))
set_option maxHeartbeats 400000 in
theorem vc_259t {sc_ : Nat × (Nat → Int)} (kk_ : Int) (p_ : Int) (f_ : Int) (S0_ : sm_S) (hI_ : gi S0_) (hJ_ : jC S0_) (hg9_ : tgo S0_) : sm_T (mt_P sc_) 6 259 (0, [some (.inr (.inr (some (12, 0)))), some (.inl kk_), some (.inl p_), some (.inl f_), none], [], S0_) (fun ro9_ => (∃ u_ S1_, ro9_ = (.inl u_, S1_, 0) ∧ vq_259t kk_ p_ f_ S0_ u_ S1_) ∨ ∃ ex_ S1_, ro9_ = (.inr ex_, S1_, 1) ∧ ex_ ∈ ([0, 1] : List Nat) ∧ vx_259t kk_ p_ f_ S0_ ex_ S1_) := by
  have hF_ : ai_fr (sx_W vw_259t) S0_ S0_ := ai_fr_rf
  refine sm_T_go 2 (c1 := (2, [some (.inr (.inr (some (12, 0)))), some (.inl kk_), some (.inl p_), some (.inl f_), none], [.inl kk_, .inr (.inr (some (12, 0)))], S0_)) rfl ?_
  refine sm_T_cale (d1_ := 1) (Q1_ := vq_272t kk_ S0_) (Q2_ := (fun ex_ S1_ => ex_ ∈ ([0] : List Nat) ∧ vx_272t kk_ S0_ S1_)) rfl rfl (by decide) (vc_272t kk_ S0_ hI_ ) rfl (fun xx6_ Sx1_ px4_ => ?_) (fun u_ Sx1_ px4_ => ?_)
  · obtain ⟨px4m, hIx2_, hFx3_, px4_⟩ := px4_
    refine Or.inr ⟨_, _, rfl, by first | exact px4m | (simp only [List.mem_cons, List.not_mem_nil, or_false] at px4m ⊢; omega), hIx2_, ai_fr_tr hF_ (fr_le hFx3_ rfl), ?_⟩
    exact ⟨px4_.1, Or.inl ⟨List.mem_singleton.mp px4m, fun y9_ => px4_.2 y9_.1⟩⟩
  obtain ⟨rfl, -, -, rfl, px4_⟩ := px4_
  have a9_ := px4_
  have J9_ := hJ_.2.1 kk_.toNat (by omega) a9_.2
  have J1_ := J9_.1
  have q9_ := a9_.2
  have c8_ : 0 ≤ S0_.1 2 (kk_.toNat) 8 ∧ S0_.1 2 (kk_.toNat) 8 ≤ 150 := hI_.1 2 (kk_.toNat) 8 rfl
  have c1_ : 0 ≤ S0_.1 2 (kk_.toNat) 1 ∧ S0_.1 2 (kk_.toNat) 1 ≤ 12 := hI_.1 2 (kk_.toNat) 1 rfl
  have c2_ : 0 ≤ S0_.1 2 (kk_.toNat) 2 ∧ S0_.1 2 (kk_.toNat) 2 ≤ 6 := hI_.1 2 (kk_.toNat) 2 rfl
  have G9_ := hg9_ kk_.toNat (by omega) a9_.2
  refine sm_T_go 2 (c1 := (8, [some (.inr (.inr (some (12, 0)))), some (.inl kk_), some (.inl p_), some (.inl f_), some (.inr (.inr (some (2, kk_.toNat))))], [.inl f_], S0_)) rfl ?_
  refine sm_T_b0 (a := 2) (z := 16) rfl (fun cx7_ => ?_) (fun cx7_ => ?_)
  · have cx7_ : f_ < 0 := of_decide_eq_true cx7_
    refine sm_T_go 1 (c1 := (25, [some (.inr (.inr (some (12, 0)))), some (.inl kk_), some (.inl p_), some (.inl f_), some (.inr (.inr (some (2, kk_.toNat))))], [.inl 0], S0_)) rfl ?_
    refine sm_T_cale (d1_ := 0) (Q1_ := vq_265e 0 S0_) (Q2_ := (fun ex_ S1_ => ex_ ∈ ([0] : List Nat) ∧ vx_265e 0 S0_ S1_)) rfl rfl (by decide) (vc_265e 0 S0_ hI_ ) rfl (fun xx13_ Sx8_ px11_ => ?_) (fun u_ Sx8_ px11_ => ?_)
    · obtain ⟨px11m, hIx9_, hFx10_, px11_⟩ := px11_
      refine Or.inr ⟨_, _, rfl, by first | exact px11m | (simp only [List.mem_cons, List.not_mem_nil, or_false] at px11m ⊢; omega), hIx9_, ai_fr_tr hF_ (fr_le hFx10_ rfl), ?_⟩
      first | exact ⟨px11_.2, Or.inl ⟨List.mem_singleton.mp px11m, by (have y9_ := px11_.1; unfold oka_shows; omega)⟩⟩ | exact ⟨px11_.2, Or.inr ⟨List.mem_singleton.mp px11m, by (unfold oka_shows; omega), by (have y9_ := px11_.1; unfold okc_shows oka_shows; omega)⟩⟩
    · exact absurd rfl px11_.2.2.2.1
  · have cx7_ : ¬ (f_ < 0) := of_decide_eq_false cx7_
    refine sm_T_go 2 (c1 := (14, [some (.inr (.inr (some (12, 0)))), some (.inl kk_), some (.inl p_), some (.inl f_), some (.inr (.inr (some (2, kk_.toNat))))], [.inr (.inr (some (2, kk_.toNat))), .inl f_], S0_)) rfl ?_
    refine sm_T_cal (d1 := 1) (Q1 := vq_62n kk_.toNat S0_) rfl rfl (by decide) (vc_62n kk_.toNat S0_ hI_ (by omega)) (fun u_ Sx14_ px17_ => ?_)
    obtain ⟨rfl, vx19_, rfl, px17_⟩ := px17_
    have f14_ := px17_
    refine sm_T_br (a := 3) (z := 7) rfl (fun cx20_ => ?_) (fun cx20_ => ?_)
    · have cx20_ : vx19_ ≤ f_ := of_decide_eq_true cx20_
      refine sm_T_go 1 (c1 := (25, [some (.inr (.inr (some (12, 0)))), some (.inl kk_), some (.inl p_), some (.inl f_), some (.inr (.inr (some (2, kk_.toNat))))], [.inl 0], S0_)) rfl ?_
      refine sm_T_cale (d1_ := 0) (Q1_ := vq_265e 0 S0_) (Q2_ := (fun ex_ S1_ => ex_ ∈ ([0] : List Nat) ∧ vx_265e 0 S0_ S1_)) rfl rfl (by decide) (vc_265e 0 S0_ hI_ ) rfl (fun xx26_ Sx21_ px24_ => ?_) (fun u_ Sx21_ px24_ => ?_)
      · obtain ⟨px24m, hIx22_, hFx23_, px24_⟩ := px24_
        refine Or.inr ⟨_, _, rfl, by first | exact px24m | (simp only [List.mem_cons, List.not_mem_nil, or_false] at px24m ⊢; omega), hIx22_, ai_fr_tr hF_ (fr_le hFx23_ rfl), ?_⟩
        first | exact ⟨px24_.2, Or.inl ⟨List.mem_singleton.mp px24m, by (have y9_ := px24_.1; unfold oka_shows; omega)⟩⟩ | exact ⟨px24_.2, Or.inr ⟨List.mem_singleton.mp px24m, by (unfold oka_shows; omega), by (have y9_ := px24_.1; unfold okc_shows oka_shows; omega)⟩⟩
      · exact absurd rfl px24_.2.2.2.1
    · have cx20_ : ¬ (vx19_ ≤ f_) := of_decide_eq_false cx20_
      refine sm_T_go 2 (c1 := (25, [some (.inr (.inr (some (12, 0)))), some (.inl kk_), some (.inl p_), some (.inl f_), some (.inr (.inr (some (2, kk_.toNat))))], [.inl 1], S0_)) rfl ?_
      refine sm_T_cale (d1_ := 0) (Q1_ := vq_265e 1 S0_) (Q2_ := (fun ex_ S1_ => ex_ ∈ ([0] : List Nat) ∧ vx_265e 1 S0_ S1_)) rfl rfl (by decide) (vc_265e 1 S0_ hI_ ) rfl (fun xx32_ Sx27_ px30_ => ?_) (fun u_ Sx27_ px30_ => ?_)
      · exact absurd px30_.2.2.2.1 (by decide)
      obtain ⟨rfl, -, -, px30_, rfl⟩ := px30_
      refine sm_T_go 2 (c1 := (31, [some (.inr (.inr (some (12, 0)))), some (.inl kk_), some (.inl p_), some (.inl f_), some (.inr (.inr (some (2, kk_.toNat))))], [.inl p_, .inr (.inr (some (2, kk_.toNat)))], S0_)) rfl ?_
      refine sm_T_cal (d1 := 0) (Q1 := vq_61n p_ kk_.toNat S0_) rfl rfl (by decide) (vc_61n p_ kk_.toNat S0_ hI_ (by omega)) (fun u_ Sx33_ px36_ => ?_)
      obtain ⟨rfl, vx38_, rfl, px36_⟩ := px36_
      have n31_ := px36_
      refine sm_T_cale (d1_ := 0) (Q1_ := vq_266e vx38_ S0_) (Q2_ := (fun ex_ S1_ => ex_ ∈ ([1] : List Nat) ∧ vx_266e vx38_ S0_ S1_)) rfl rfl (by decide) (vc_266e vx38_ S0_ hI_ ) rfl (fun xx44_ Sx39_ px42_ => ?_) (fun u_ Sx39_ px42_ => ?_)
      · obtain ⟨px42m, hIx40_, hFx41_, px42_⟩ := px42_
        refine Or.inr ⟨_, _, rfl, by first | exact px42m | (simp only [List.mem_cons, List.not_mem_nil, or_false] at px42m ⊢; omega), hIx40_, ai_fr_tr hF_ (fr_le hFx41_ rfl), ?_⟩
        first | exact ⟨px42_.2, Or.inl ⟨List.mem_singleton.mp px42m, by (have y9_ := px42_.1; unfold oka_shows; omega)⟩⟩ | exact ⟨px42_.2, Or.inr ⟨List.mem_singleton.mp px42m, by (unfold oka_shows; omega), by (have y9_ := px42_.1; unfold okc_shows oka_shows; omega)⟩⟩
      obtain ⟨rfl, -, -, px42_, rfl⟩ := px42_
      refine sm_T_go 4 (c1 := (44, [some (.inr (.inr (some (12, 0)))), some (.inl kk_), some (.inl p_), some (.inl f_), some (.inr (.inr (some (2, kk_.toNat))))], [.inl f_, .inr (.inr (some (2, kk_.toNat))), .inr (.inr (some (9, 0)))], S0_)) rfl ?_
      refine sm_T_cal (d1 := 4) (Q1 := vq_174n f_ kk_.toNat S0_) rfl rfl (by decide) (vc_174n f_ kk_.toNat S0_ hI_ (by omega) (by omega) (by exact hJ_.2.2.2) (by exact G9_.2) (by exact G9_.1.2.1) (by exact G9_.1.2.2)) (fun u_ Sx45_ px48_ => ?_)
      obtain ⟨rfl, hIx46_, hFx47_, px48_⟩ := px48_
      have hFx49_ : ai_fr (sx_W vw_259t) S0_ Sx45_ := ai_fr_tr hF_ (fr_le hFx47_ rfl)
      have p44_ := px48_
      have F44_ := hFx47_
      have cb9_ := cB_b G9_.1.1
      have fq9_ := cfu_q9 hI_ G9_.1.1
      have sk9_ := (p44_.2.2.2.1.2.2 f_.toNat (by (rw [(cfu_fr (cc_ := kk_.toNat) hFx47_).1]; omega)) p44_.2.2.2.2).1 p_.toNat (by (rw [hFx47_.1 2 kk_.toNat 1 rfl, hFx47_.1 2 kk_.toNat 2 rfl]; show _ < cB9 kk_.toNat S0_; omega))
      rw [show ((f_.toNat : Nat) : Int) = f_ by omega] at sk9_
      refine sm_T_go 4 (c1 := (53, [some (.inr (.inr (some (12, 0)))), some (.inl kk_), some (.inl p_), some (.inl f_), some (.inr (.inr (some (2, kk_.toNat))))], [.inl f_, .inl p_, .inr (.inr (some (9, 0)))], Sx45_)) rfl ?_
      refine sm_T_cal (d1 := 0) (Q1 := vq_176n p_ f_ Sx45_) rfl rfl (by decide) (vc_176n p_ f_ Sx45_ hIx46_ (by omega) (by omega)) (fun u_ Sx50_ px53_ => ?_)
      obtain ⟨rfl, vx55_, rfl, px53_⟩ := px53_
      have i53_ := (px53_).1
      have j53_ := (px53_).2
      refine sm_T_rz rfl (by omega) (Or.inl ⟨_, _, rfl, _, rfl, hIx46_, hFx49_, ?_⟩)
      (rw [j53_] at sk9_; exact ⟨jC_mk hJ_ hFx49_ (tpo_fr hJ_.2.2.1 hFx49_) p44_.2.2.1 (by decide) (by decide) (by decide) (by decide) (by decide), tkk_w ⟨⟨p44_.2.1.1, p44_.2.1.2.trans (hFx49_.1 2 kk_.toNat 19 rfl).symm⟩, p44_.2.2.2.1⟩, by (unfold okc_shows oka_shows; omega), by omega, (csh_fr F44_).mp sk9_⟩)
/-! ChipFlow.tests -/
def vw_260t : sx_Wl := ([(2, 15), (9, 1), (9, 2), (9, 3)], [40, 41, 92, 93, 94, 95, 96, 97], [(9, 0)])
def vq_260t (kk_ : Int) (P_ : Nat → Nat → Bool) (le_ : Nat → Int) (S0_ : sm_S) (u_ : Option sm_V) (S1_ : sm_S) : Prop := ∃ v_ : Int, u_ = some (.inl v_) ∧ gi S1_ ∧ ai_fr (sx_W vw_260t) S0_ S1_ ∧ (jC S1_ ∧ tkk S0_ S1_ ∧ cdf kk_.toNat S0_ S1_ ∧ okc_tests kk_ S0_ ∧ tls kk_.toNat S1_ (tst9 P_ le_ (cfu9 kk_.toNat S0_).toNat) ∧ v_ = S1_.1 2 kk_.toNat 15 ∧ ∀ k9_ : Nat, k9_ < 1224 → S1_.2.2.1 41 (0 + kk_.toNat) k9_ = 0)
def vx_260t (kk_ : Int) (P_ : Nat → Nat → Bool) (le_ : Nat → Int) (S0_ : sm_S) (S1_ : sm_S) : Prop := gi S1_ ∧ ai_fr (sx_W vw_260t) S0_ S1_ ∧ (S1_ = S0_ ∧ ¬ okc_tests kk_ S0_)
set_option maxHeartbeats 400000 in
theorem vc_260t {sc_ : Nat × (Nat → Int)} (kk_ : Int) (P_ : Nat → Nat → Bool) (le_ : Nat → Int) (S0_ : sm_S) (hI_ : gi S0_) (hJ_ : jC S0_) (hg9_ : tgo S0_) (hU_ : okc_tests kk_ S0_ → shU kk_.toNat S0_ P_) (hle_ : okc_tests kk_ S0_ → leU kk_.toNat S0_ le_) : sm_T (mt_P sc_) 7 260 (0, [some (.inr (.inr (some (12, 0)))), some (.inl kk_), none], [], S0_) (fun ro9_ => (∃ u_ S1_, ro9_ = (.inl u_, S1_, 0) ∧ vq_260t kk_ P_ le_ S0_ u_ S1_) ∨ ∃ ex_ S1_, ro9_ = (.inr ex_, S1_, 1) ∧ ex_ ∈ ([0] : List Nat) ∧ vx_260t kk_ P_ le_ S0_ S1_) := by
  have hF_ : ai_fr (sx_W vw_260t) S0_ S0_ := ai_fr_rf
  refine sm_T_go 2 (c1 := (2, [some (.inr (.inr (some (12, 0)))), some (.inl kk_), none], [.inl kk_, .inr (.inr (some (12, 0)))], S0_)) rfl ?_
  refine sm_T_cale (d1_ := 1) (Q1_ := vq_272t kk_ S0_) (Q2_ := (fun ex_ S1_ => ex_ ∈ ([0] : List Nat) ∧ vx_272t kk_ S0_ S1_)) rfl rfl (by decide) (vc_272t kk_ S0_ hI_ ) rfl (fun xx6_ Sx1_ px4_ => ?_) (fun u_ Sx1_ px4_ => ?_)
  · obtain ⟨px4m, hIx2_, hFx3_, px4_⟩ := px4_
    refine Or.inr ⟨_, _, rfl, by first | exact px4m | (simp only [List.mem_cons, List.not_mem_nil, or_false] at px4m ⊢; omega), hIx2_, ai_fr_tr hF_ (fr_le hFx3_ rfl), ?_⟩
    exact ⟨px4_.1, fun y9_ => px4_.2 y9_⟩
  obtain ⟨rfl, -, -, rfl, px4_⟩ := px4_
  have a9_ := px4_
  have J9_ := hJ_.2.1 kk_.toNat (by omega) a9_.2
  have J1_ := J9_.1
  have q9_ := a9_.2
  have c8_ : 0 ≤ S0_.1 2 (kk_.toNat) 8 ∧ S0_.1 2 (kk_.toNat) 8 ≤ 150 := hI_.1 2 (kk_.toNat) 8 rfl
  have c1_ : 0 ≤ S0_.1 2 (kk_.toNat) 1 ∧ S0_.1 2 (kk_.toNat) 1 ≤ 12 := hI_.1 2 (kk_.toNat) 1 rfl
  have c2_ : 0 ≤ S0_.1 2 (kk_.toNat) 2 ∧ S0_.1 2 (kk_.toNat) 2 ≤ 6 := hI_.1 2 (kk_.toNat) 2 rfl
  have G9_ := hg9_ kk_.toNat (by omega) a9_.2
  refine sm_T_go 4 (c1 := (11, [some (.inr (.inr (some (12, 0)))), some (.inl kk_), some (.inr (.inr (some (2, kk_.toNat))))], [.inr (.inr (some (2, kk_.toNat))), .inr (.inr (some (9, 0)))], S0_)) rfl ?_
  refine sm_T_cal (d1 := 6) (Q1 := vq_179n kk_.toNat P_ le_ S0_) rfl rfl (by decide) (vc_179n kk_.toNat P_ le_ S0_ hI_ (by exact G9_.1) (by exact hJ_.2.2.2) (by exact G9_.2) (by exact hU_ ⟨by omega, by omega, a9_.2⟩) (by exact hle_ ⟨by omega, by omega, a9_.2⟩)) (fun u_ Sx7_ px10_ => ?_)
  obtain ⟨rfl, hIx8_, hFx9_, px10_⟩ := px10_
  have hFx11_ : ai_fr (sx_W vw_260t) S0_ Sx7_ := ai_fr_tr hF_ (fr_le hFx9_ rfl)
  obtain ⟨dx12_, px10_⟩ := px10_
  have p11_ := px10_
  have C11_ := dx12_
  have bx13_ : (-1) ≤ Sx7_.1 2 kk_.toNat 15 ∧ Sx7_.1 2 kk_.toNat 15 ≤ 1224 := hIx8_.1 2 kk_.toNat 15 rfl
  refine sm_T_go 2 (c1 := (18, [some (.inr (.inr (some (12, 0)))), some (.inl kk_), some (.inr (.inr (some (2, kk_.toNat))))], [.inl (Sx7_.1 2 kk_.toNat 15)], Sx7_)) rfl ?_
  refine sm_T_ri rfl (Or.inl ⟨_, _, rfl, _, rfl, hIx8_, hFx11_, ?_⟩)
  exact ⟨jC_mk hJ_ hFx11_ (tpo_fr hJ_.2.2.1 hFx11_) p11_.1 (by decide) (by decide) (by decide) (by decide) (by decide), p11_.2.1, C11_, ⟨by omega, by omega, a9_.2⟩, p11_.2.2.1, rfl, p11_.2.2.2⟩
/-! ChipFlow.needPattern -/
def vw_269t : sx_Wl := ([], [], [])
def vq_269t (k_ : Int) (cc_ : Nat) (S0_ : sm_S) (u_ : Option sm_V) (S1_ : sm_S) : Prop := u_ = none ∧ gi S1_ ∧ ai_fr (sx_W vw_269t) S0_ S1_ ∧ (S0_ = S1_ ∧ 0 ≤ k_ ∧ k_ < S0_.1 2 cc_ 15 ∧ S0_.1 2 cc_ 15 ≠ -1)
def vx_269t (k_ : Int) (cc_ : Nat) (S0_ : sm_S) (ex_ : Nat) (S1_ : sm_S) : Prop := gi S1_ ∧ ai_fr (sx_W vw_269t) S0_ S1_ ∧ (S1_ = S0_ ∧ ((ex_ = 0 ∧ ¬ (0 ≤ k_ ∧ (S0_.1 2 cc_ 15 = -1 ∨ k_ < S0_.1 2 cc_ 15))) ∨ (ex_ = 2 ∧ (0 ≤ k_ ∧ (S0_.1 2 cc_ 15 = -1 ∨ k_ < S0_.1 2 cc_ 15)) ∧ S0_.1 2 cc_ 15 = -1)))
set_option maxHeartbeats 400000 in
theorem vc_269t {sc_ : Nat × (Nat → Int)} (k_ : Int) (cc_ : Nat) (S0_ : sm_S) (hI_ : gi S0_)  : sm_T (mt_P sc_) 1 269 (0, [some (.inr (.inr (some (2, cc_)))), some (.inl k_)], [], S0_) (fun ro9_ => (∃ u_ S1_, ro9_ = (.inl u_, S1_, 0) ∧ vq_269t k_ cc_ S0_ u_ S1_) ∨ ∃ ex_ S1_, ro9_ = (.inr ex_, S1_, 1) ∧ ex_ ∈ ([0, 2] : List Nat) ∧ vx_269t k_ cc_ S0_ ex_ S1_) := by
  have hF_ : ai_fr (sx_W vw_269t) S0_ S0_ := ai_fr_rf
  refine sm_T_go 1 (c1 := (1, [some (.inr (.inr (some (2, cc_)))), some (.inl k_)], [.inl k_], S0_)) rfl ?_
  refine sm_T_b0 (a := 2) (z := 23) rfl (fun cx1_ => ?_) (fun cx1_ => ?_)
  · have cx1_ : k_ < 0 := of_decide_eq_true cx1_
    refine sm_T_go 1 (c1 := (25, [some (.inr (.inr (some (2, cc_)))), some (.inl k_)], [.inl 0], S0_)) rfl ?_
    refine sm_T_cale (d1_ := 0) (Q1_ := vq_265e 0 S0_) (Q2_ := (fun ex_ S1_ => ex_ ∈ ([0] : List Nat) ∧ vx_265e 0 S0_ S1_)) rfl rfl (by decide) (vc_265e 0 S0_ hI_ ) rfl (fun xx7_ Sx2_ px5_ => ?_) (fun u_ Sx2_ px5_ => ?_)
    · obtain ⟨px5m, hIx3_, hFx4_, px5_⟩ := px5_
      refine Or.inr ⟨_, _, rfl, by first | exact px5m | (simp only [List.mem_cons, List.not_mem_nil, or_false] at px5m ⊢; omega), hIx3_, ai_fr_tr hF_ (fr_le hFx4_ rfl), ?_⟩
      first | exact ⟨px5_.2, Or.inl ⟨List.mem_singleton.mp px5m, by omega⟩⟩ | exact ⟨px5_.2, Or.inr ⟨List.mem_singleton.mp px5m, by omega, by omega⟩⟩
    · exact absurd rfl px5_.2.2.2.1
  · have cx1_ : ¬ (k_ < 0) := of_decide_eq_false cx1_
    have bx8_ : (-1) ≤ S0_.1 2 cc_ 15 ∧ S0_.1 2 cc_ 15 ≤ 1224 := hI_.1 2 cc_ 15 rfl
    refine sm_T_go 3 (c1 := (9, [some (.inr (.inr (some (2, cc_)))), some (.inl k_)], [.inl (-1), .inl (S0_.1 2 cc_ 15)], S0_)) rfl ?_
    refine sm_T_br (a := 0) (z := 11) rfl (fun cx9_ => ?_) (fun cx9_ => ?_)
    · have cx9_ : (S0_.1 2 cc_ 15) = (-1) := of_decide_eq_true cx9_
      refine sm_T_go 2 (c1 := (25, [some (.inr (.inr (some (2, cc_)))), some (.inl k_)], [.inl 1], S0_)) rfl ?_
      refine sm_T_cale (d1_ := 0) (Q1_ := vq_265e 1 S0_) (Q2_ := (fun ex_ S1_ => ex_ ∈ ([0] : List Nat) ∧ vx_265e 1 S0_ S1_)) rfl rfl (by decide) (vc_265e 1 S0_ hI_ ) rfl (fun xx15_ Sx10_ px13_ => ?_) (fun u_ Sx10_ px13_ => ?_)
      · exact absurd px13_.2.2.2.1 (by decide)
      obtain ⟨rfl, -, -, px13_, rfl⟩ := px13_
      refine sm_T_go 3 (c1 := (33, [some (.inr (.inr (some (2, cc_)))), some (.inl k_)], [.inl (-1), .inl (S0_.1 2 cc_ 15)], S0_)) rfl ?_
      refine sm_T_br (a := 0) (z := 7) rfl (fun cx16_ => ?_) (fun cx16_ => ?_)
      · have cx16_ : (S0_.1 2 cc_ 15) = (-1) := of_decide_eq_true cx16_
        refine sm_T_go 1 (c1 := (41, [some (.inr (.inr (some (2, cc_)))), some (.inl k_)], [.inl 0], S0_)) rfl ?_
        refine sm_T_cale (d1_ := 0) (Q1_ := vq_267e 0 S0_) (Q2_ := (fun ex_ S1_ => ex_ ∈ ([2] : List Nat) ∧ vx_267e 0 S0_ S1_)) rfl rfl (by decide) (vc_267e 0 S0_ hI_ ) rfl (fun xx22_ Sx17_ px20_ => ?_) (fun u_ Sx17_ px20_ => ?_)
        · obtain ⟨px20m, hIx18_, hFx19_, px20_⟩ := px20_
          refine Or.inr ⟨_, _, rfl, by first | exact px20m | (simp only [List.mem_cons, List.not_mem_nil, or_false] at px20m ⊢; omega), hIx18_, ai_fr_tr hF_ (fr_le hFx19_ rfl), ?_⟩
          first | exact ⟨px20_.2, Or.inl ⟨List.mem_singleton.mp px20m, by omega⟩⟩ | exact ⟨px20_.2, Or.inr ⟨List.mem_singleton.mp px20m, by omega, by omega⟩⟩
        · exact absurd rfl px20_.2.2.2.1
      · have cx16_ : ¬ ((S0_.1 2 cc_ 15) = (-1)) := of_decide_eq_false cx16_
        exfalso; omega
    · have cx9_ : ¬ ((S0_.1 2 cc_ 15) = (-1)) := of_decide_eq_false cx9_
      refine sm_T_go 3 (c1 := (17, [some (.inr (.inr (some (2, cc_)))), some (.inl k_)], [.inl (S0_.1 2 cc_ 15), .inl k_], S0_)) rfl ?_
      refine sm_T_br (a := 3) (z := 7) rfl (fun cx23_ => ?_) (fun cx23_ => ?_)
      · have cx23_ : (S0_.1 2 cc_ 15) ≤ k_ := of_decide_eq_true cx23_
        refine sm_T_go 1 (c1 := (25, [some (.inr (.inr (some (2, cc_)))), some (.inl k_)], [.inl 0], S0_)) rfl ?_
        refine sm_T_cale (d1_ := 0) (Q1_ := vq_265e 0 S0_) (Q2_ := (fun ex_ S1_ => ex_ ∈ ([0] : List Nat) ∧ vx_265e 0 S0_ S1_)) rfl rfl (by decide) (vc_265e 0 S0_ hI_ ) rfl (fun xx29_ Sx24_ px27_ => ?_) (fun u_ Sx24_ px27_ => ?_)
        · obtain ⟨px27m, hIx25_, hFx26_, px27_⟩ := px27_
          refine Or.inr ⟨_, _, rfl, by first | exact px27m | (simp only [List.mem_cons, List.not_mem_nil, or_false] at px27m ⊢; omega), hIx25_, ai_fr_tr hF_ (fr_le hFx26_ rfl), ?_⟩
          first | exact ⟨px27_.2, Or.inl ⟨List.mem_singleton.mp px27m, by omega⟩⟩ | exact ⟨px27_.2, Or.inr ⟨List.mem_singleton.mp px27m, by omega, by omega⟩⟩
        · exact absurd rfl px27_.2.2.2.1
      · have cx23_ : ¬ ((S0_.1 2 cc_ 15) ≤ k_) := of_decide_eq_false cx23_
        refine sm_T_go 2 (c1 := (25, [some (.inr (.inr (some (2, cc_)))), some (.inl k_)], [.inl 1], S0_)) rfl ?_
        refine sm_T_cale (d1_ := 0) (Q1_ := vq_265e 1 S0_) (Q2_ := (fun ex_ S1_ => ex_ ∈ ([0] : List Nat) ∧ vx_265e 1 S0_ S1_)) rfl rfl (by decide) (vc_265e 1 S0_ hI_ ) rfl (fun xx35_ Sx30_ px33_ => ?_) (fun u_ Sx30_ px33_ => ?_)
        · exact absurd px33_.2.2.2.1 (by decide)
        obtain ⟨rfl, -, -, px33_, rfl⟩ := px33_
        refine sm_T_go 3 (c1 := (33, [some (.inr (.inr (some (2, cc_)))), some (.inl k_)], [.inl (-1), .inl (S0_.1 2 cc_ 15)], S0_)) rfl ?_
        refine sm_T_br (a := 0) (z := 7) rfl (fun cx36_ => ?_) (fun cx36_ => ?_)
        · have cx36_ : (S0_.1 2 cc_ 15) = (-1) := of_decide_eq_true cx36_
          refine sm_T_go 1 (c1 := (41, [some (.inr (.inr (some (2, cc_)))), some (.inl k_)], [.inl 0], S0_)) rfl ?_
          refine sm_T_cale (d1_ := 0) (Q1_ := vq_267e 0 S0_) (Q2_ := (fun ex_ S1_ => ex_ ∈ ([2] : List Nat) ∧ vx_267e 0 S0_ S1_)) rfl rfl (by decide) (vc_267e 0 S0_ hI_ ) rfl (fun xx42_ Sx37_ px40_ => ?_) (fun u_ Sx37_ px40_ => ?_)
          · obtain ⟨px40m, hIx38_, hFx39_, px40_⟩ := px40_
            refine Or.inr ⟨_, _, rfl, by first | exact px40m | (simp only [List.mem_cons, List.not_mem_nil, or_false] at px40m ⊢; omega), hIx38_, ai_fr_tr hF_ (fr_le hFx39_ rfl), ?_⟩
            first | exact ⟨px40_.2, Or.inl ⟨List.mem_singleton.mp px40m, by omega⟩⟩ | exact ⟨px40_.2, Or.inr ⟨List.mem_singleton.mp px40m, by omega, by omega⟩⟩
          · exact absurd rfl px40_.2.2.2.1
        · have cx36_ : ¬ ((S0_.1 2 cc_ 15) = (-1)) := of_decide_eq_false cx36_
          refine sm_T_go 2 (c1 := (41, [some (.inr (.inr (some (2, cc_)))), some (.inl k_)], [.inl 1], S0_)) rfl ?_
          refine sm_T_cale (d1_ := 0) (Q1_ := vq_267e 1 S0_) (Q2_ := (fun ex_ S1_ => ex_ ∈ ([2] : List Nat) ∧ vx_267e 1 S0_ S1_)) rfl rfl (by decide) (vc_267e 1 S0_ hI_ ) rfl (fun xx48_ Sx43_ px46_ => ?_) (fun u_ Sx43_ px46_ => ?_)
          · exact absurd px46_.2.2.2.1 (by decide)
          obtain ⟨rfl, -, -, px46_, rfl⟩ := px46_
          refine sm_T_go 0 (c1 := (44, [some (.inr (.inr (some (2, cc_)))), some (.inl k_)], [], S0_)) rfl ?_
          refine sm_T_rv rfl (Or.inl ⟨_, _, rfl, rfl, hI_, hF_, ?_⟩)
          exact ⟨rfl, by omega, by omega, by omega⟩
/-! ChipFlow.pattern -/
/-! ChipFlow.fails -/
def vw_262t : sx_Wl := ([], [41], [])
def vq_262t (kk_ : Int) (k_ : Int) (is_ : Int) (S0_ : sm_S) (u_ : Option sm_V) (S1_ : sm_S) : Prop := ∃ v_ : Int, u_ = some (.inl v_) ∧ gi S1_ ∧ ai_fr (sx_W vw_262t) S0_ S1_ ∧ (cdf kk_.toNat S0_ S1_ ∧ (jC S1_ ∧ okc_pattern kk_ k_ S0_ ∧ v_ = (if S0_.2.2.1 41 (0 + kk_.toNat) k_.toNat ≠ 0 then 1 else 0) ∧ ∀ j9_ : Nat, S1_.2.2.1 41 (0 + kk_.toNat) j9_ = if j9_ = k_.toNat then (if is_ ≠ 0 then 1 else 0) else S0_.2.2.1 41 (0 + kk_.toNat) j9_))
def vx_262t (kk_ : Int) (k_ : Int) (is_ : Int) (S0_ : sm_S) (ex_ : Nat) (S1_ : sm_S) : Prop := gi S1_ ∧ ai_fr (sx_W vw_262t) S0_ S1_ ∧ (S1_ = S0_ ∧ ((ex_ = 0 ∧ ¬ oka_pattern kk_ k_ S0_) ∨ (ex_ = 2 ∧ oka_pattern kk_ k_ S0_ ∧ ¬ okc_pattern kk_ k_ S0_)))
set_option maxHeartbeats 400000 in
theorem vc_262t {sc_ : Nat × (Nat → Int)} (kk_ : Int) (k_ : Int) (is_ : Int) (S0_ : sm_S) (hI_ : gi S0_) (hJ_ : jC S0_) : sm_T (mt_P sc_) 2 262 (0, [some (.inr (.inr (some (12, 0)))), some (.inl kk_), some (.inl k_), some (.inl is_), none, none], [], S0_) (fun ro9_ => (∃ u_ S1_, ro9_ = (.inl u_, S1_, 0) ∧ vq_262t kk_ k_ is_ S0_ u_ S1_) ∨ ∃ ex_ S1_, ro9_ = (.inr ex_, S1_, 1) ∧ ex_ ∈ ([0, 2] : List Nat) ∧ vx_262t kk_ k_ is_ S0_ ex_ S1_) := by
  have hF_ : ai_fr (sx_W vw_262t) S0_ S0_ := ai_fr_rf
  have hC_ : cdf kk_.toNat S0_ S0_ := cdf_rf
  refine sm_T_go 2 (c1 := (2, [some (.inr (.inr (some (12, 0)))), some (.inl kk_), some (.inl k_), some (.inl is_), none, none], [.inl kk_, .inr (.inr (some (12, 0)))], S0_)) rfl ?_
  refine sm_T_cale (d1_ := 1) (Q1_ := vq_272t kk_ S0_) (Q2_ := (fun ex_ S1_ => ex_ ∈ ([0] : List Nat) ∧ vx_272t kk_ S0_ S1_)) rfl rfl (by decide) (vc_272t kk_ S0_ hI_ ) rfl (fun xx6_ Sx1_ px4_ => ?_) (fun u_ Sx1_ px4_ => ?_)
  · obtain ⟨px4m, hIx2_, hFx3_, px4_⟩ := px4_
    refine Or.inr ⟨_, _, rfl, by first | exact px4m | (simp only [List.mem_cons, List.not_mem_nil, or_false] at px4m ⊢; omega), hIx2_, ai_fr_tr hF_ (fr_le hFx3_ rfl), ?_⟩
    exact ⟨px4_.1, Or.inl ⟨List.mem_singleton.mp px4m, fun y9_ => px4_.2 y9_.1⟩⟩
  obtain ⟨rfl, -, -, rfl, px4_⟩ := px4_
  have a9_ := px4_
  have J9_ := hJ_.2.1 kk_.toNat (by omega) a9_.2
  have J1_ := J9_.1
  have q9_ := a9_.2
  have c8_ : 0 ≤ S0_.1 2 (kk_.toNat) 8 ∧ S0_.1 2 (kk_.toNat) 8 ≤ 150 := hI_.1 2 (kk_.toNat) 8 rfl
  have c1_ : 0 ≤ S0_.1 2 (kk_.toNat) 1 ∧ S0_.1 2 (kk_.toNat) 1 ≤ 12 := hI_.1 2 (kk_.toNat) 1 rfl
  have c2_ : 0 ≤ S0_.1 2 (kk_.toNat) 2 ∧ S0_.1 2 (kk_.toNat) 2 ≤ 6 := hI_.1 2 (kk_.toNat) 2 rfl
  refine sm_T_go 3 (c1 := (10, [some (.inr (.inr (some (12, 0)))), some (.inl kk_), some (.inl k_), some (.inl is_), some (.inr (.inr (some (2, kk_.toNat)))), none], [.inl k_, .inr (.inr (some (2, kk_.toNat)))], S0_)) rfl ?_
  refine sm_T_cale (d1_ := 1) (Q1_ := vq_269t k_ kk_.toNat S0_) (Q2_ := (fun ex_ S1_ => ex_ ∈ ([0, 2] : List Nat) ∧ vx_269t k_ kk_.toNat S0_ ex_ S1_)) rfl rfl (by decide) (vc_269t k_ kk_.toNat S0_ hI_ ) rfl (fun xx12_ Sx7_ px10_ => ?_) (fun u_ Sx7_ px10_ => ?_)
  · obtain ⟨px10m, hIx8_, hFx9_, px10_⟩ := px10_
    refine Or.inr ⟨_, _, rfl, by first | exact px10m | (simp only [List.mem_cons, List.not_mem_nil, or_false] at px10m ⊢; omega), hIx8_, ai_fr_tr hF_ (fr_le hFx9_ rfl), ?_⟩
    exact ⟨px10_.1, px10_.2.elim (fun z9_ => Or.inl ⟨z9_.1, fun y9_ => z9_.2 y9_.2⟩) (fun z9_ => Or.inr ⟨z9_.1, ⟨⟨by omega, by omega, a9_.2⟩, z9_.2.1⟩, fun y9_ => y9_.2 z9_.2.2⟩)⟩
  obtain ⟨rfl, -, -, rfl, px10_⟩ := px10_
  have n10_ := px10_
  have c15_ : (-1) ≤ S0_.1 2 (kk_.toNat) 15 ∧ S0_.1 2 (kk_.toNat) 15 ≤ 1224 := hI_.1 2 (kk_.toNat) 15 rfl
  refine sm_T_go 3 (c1 := (19, [some (.inr (.inr (some (12, 0)))), some (.inl kk_), some (.inl k_), some (.inl is_), some (.inr (.inr (some (2, kk_.toNat)))), none], [.inl k_, .inr (.inr (some (41, (0 + kk_.toNat))))], S0_)) rfl ?_
  refine sm_T_iald (n := 1224) rfl rfl (by omega) (by omega) ?_
  have bx13_ : 0 ≤ S0_.2.2.1 41 (0 + kk_.toNat) k_.toNat ∧ S0_.2.2.1 41 (0 + kk_.toNat) k_.toNat ≤ 1 := hI_.2 41 (0 + kk_.toNat) _
  refine sm_T_b0 (a := 0) (z := 7) rfl (fun cx14_ => ?_) (fun cx14_ => ?_)
  · have cx14_ : (S0_.2.2.1 41 (0 + kk_.toNat) k_.toNat) = 0 := of_decide_eq_true cx14_
    refine sm_T_go 6 (c1 := (37, [some (.inr (.inr (some (12, 0)))), some (.inl kk_), some (.inl k_), some (.inl is_), some (.inr (.inr (some (2, kk_.toNat)))), some (.inl 0)], [.inl is_, .inl k_, .inr (.inr (some (41, (0 + kk_.toNat))))], S0_)) rfl ?_
    refine sm_T_b0 (a := 0) (z := 7) rfl (fun cx15_ => ?_) (fun cx15_ => ?_)
    · have cx15_ : is_ = 0 := of_decide_eq_true cx15_
      refine sm_T_go 1 (c1 := (45, [some (.inr (.inr (some (12, 0)))), some (.inl kk_), some (.inl k_), some (.inl is_), some (.inr (.inr (some (2, kk_.toNat)))), some (.inl 0)], [.inl 0, .inl k_, .inr (.inr (some (41, (0 + kk_.toNat))))], S0_)) rfl ?_
      refine sm_T_iast (n := 1224) rfl rfl (by omega) (by omega) ?_
      have hIx16_ : gi (sm_aI S0_ 41 (0 + kk_.toNat) k_.toNat 0) := gi_aI hI_ (show 0 ≤ 0 ∧ 0 ≤ 1 from ⟨by omega, by omega⟩)
      have hFx17_ : ai_fr (sx_W vw_262t) S0_ (sm_aI S0_ 41 (0 + kk_.toNat) k_.toNat 0) := ai_fr_tr hF_ (ai_fr_aI rfl)
      have hCx18_ : cdf kk_.toNat S0_ (sm_aI S0_ 41 (0 + kk_.toNat) k_.toNat 0) := cdf_aI hC_ (Or.inr (by rw [show cof 41 = 0 from rfl] <;> omega))
      refine sm_T_go 1 (c1 := (48, [some (.inr (.inr (some (12, 0)))), some (.inl kk_), some (.inl k_), some (.inl is_), some (.inr (.inr (some (2, kk_.toNat)))), some (.inl 0)], [.inl 0], sm_aI S0_ 41 (0 + kk_.toNat) k_.toNat 0)) rfl ?_
      refine sm_T_rz rfl (by omega) (Or.inl ⟨_, _, rfl, _, rfl, hIx16_, hFx17_, ?_⟩)
      refine ⟨hCx18_, ?_⟩
      refine ⟨jC_fr hJ_ hFx17_ (by decide) (by decide) (by decide) (by decide) (by decide) rfl rfl rfl rfl rfl rfl, by (unfold okc_pattern oka_pattern; omega), ?_, fun j9_ => ?_⟩
      · first | rw [if_pos (by omega)] | rw [if_neg (by omega)]
      · rw [rd_eq]; by_cases y9_ : j9_ = k_.toNat
        · rw [if_pos y9_, if_pos y9_]; first | rw [if_pos (by omega)] | rw [if_neg (by omega)]
        · rw [if_neg y9_, if_neg y9_]
    · have cx15_ : ¬ (is_ = 0) := of_decide_eq_false cx15_
      refine sm_T_go 2 (c1 := (45, [some (.inr (.inr (some (12, 0)))), some (.inl kk_), some (.inl k_), some (.inl is_), some (.inr (.inr (some (2, kk_.toNat)))), some (.inl 0)], [.inl 1, .inl k_, .inr (.inr (some (41, (0 + kk_.toNat))))], S0_)) rfl ?_
      refine sm_T_iast (n := 1224) rfl rfl (by omega) (by omega) ?_
      have hIx19_ : gi (sm_aI S0_ 41 (0 + kk_.toNat) k_.toNat 1) := gi_aI hI_ (show 0 ≤ 1 ∧ 1 ≤ 1 from ⟨by omega, by omega⟩)
      have hFx20_ : ai_fr (sx_W vw_262t) S0_ (sm_aI S0_ 41 (0 + kk_.toNat) k_.toNat 1) := ai_fr_tr hF_ (ai_fr_aI rfl)
      have hCx21_ : cdf kk_.toNat S0_ (sm_aI S0_ 41 (0 + kk_.toNat) k_.toNat 1) := cdf_aI hC_ (Or.inr (by rw [show cof 41 = 0 from rfl] <;> omega))
      refine sm_T_go 1 (c1 := (48, [some (.inr (.inr (some (12, 0)))), some (.inl kk_), some (.inl k_), some (.inl is_), some (.inr (.inr (some (2, kk_.toNat)))), some (.inl 0)], [.inl 0], sm_aI S0_ 41 (0 + kk_.toNat) k_.toNat 1)) rfl ?_
      refine sm_T_rz rfl (by omega) (Or.inl ⟨_, _, rfl, _, rfl, hIx19_, hFx20_, ?_⟩)
      refine ⟨hCx21_, ?_⟩
      refine ⟨jC_fr hJ_ hFx20_ (by decide) (by decide) (by decide) (by decide) (by decide) rfl rfl rfl rfl rfl rfl, by (unfold okc_pattern oka_pattern; omega), ?_, fun j9_ => ?_⟩
      · first | rw [if_pos (by omega)] | rw [if_neg (by omega)]
      · rw [rd_eq]; by_cases y9_ : j9_ = k_.toNat
        · rw [if_pos y9_, if_pos y9_]; first | rw [if_pos (by omega)] | rw [if_neg (by omega)]
        · rw [if_neg y9_, if_neg y9_]
  · have cx14_ : ¬ ((S0_.2.2.1 41 (0 + kk_.toNat) k_.toNat) = 0) := of_decide_eq_false cx14_
    refine sm_T_go 7 (c1 := (37, [some (.inr (.inr (some (12, 0)))), some (.inl kk_), some (.inl k_), some (.inl is_), some (.inr (.inr (some (2, kk_.toNat)))), some (.inl 1)], [.inl is_, .inl k_, .inr (.inr (some (41, (0 + kk_.toNat))))], S0_)) rfl ?_
    refine sm_T_b0 (a := 0) (z := 7) rfl (fun cx22_ => ?_) (fun cx22_ => ?_)
    · have cx22_ : is_ = 0 := of_decide_eq_true cx22_
      refine sm_T_go 1 (c1 := (45, [some (.inr (.inr (some (12, 0)))), some (.inl kk_), some (.inl k_), some (.inl is_), some (.inr (.inr (some (2, kk_.toNat)))), some (.inl 1)], [.inl 0, .inl k_, .inr (.inr (some (41, (0 + kk_.toNat))))], S0_)) rfl ?_
      refine sm_T_iast (n := 1224) rfl rfl (by omega) (by omega) ?_
      have hIx23_ : gi (sm_aI S0_ 41 (0 + kk_.toNat) k_.toNat 0) := gi_aI hI_ (show 0 ≤ 0 ∧ 0 ≤ 1 from ⟨by omega, by omega⟩)
      have hFx24_ : ai_fr (sx_W vw_262t) S0_ (sm_aI S0_ 41 (0 + kk_.toNat) k_.toNat 0) := ai_fr_tr hF_ (ai_fr_aI rfl)
      have hCx25_ : cdf kk_.toNat S0_ (sm_aI S0_ 41 (0 + kk_.toNat) k_.toNat 0) := cdf_aI hC_ (Or.inr (by rw [show cof 41 = 0 from rfl] <;> omega))
      refine sm_T_go 1 (c1 := (48, [some (.inr (.inr (some (12, 0)))), some (.inl kk_), some (.inl k_), some (.inl is_), some (.inr (.inr (some (2, kk_.toNat)))), some (.inl 1)], [.inl 1], sm_aI S0_ 41 (0 + kk_.toNat) k_.toNat 0)) rfl ?_
      refine sm_T_rz rfl (by omega) (Or.inl ⟨_, _, rfl, _, rfl, hIx23_, hFx24_, ?_⟩)
      refine ⟨hCx25_, ?_⟩
      refine ⟨jC_fr hJ_ hFx24_ (by decide) (by decide) (by decide) (by decide) (by decide) rfl rfl rfl rfl rfl rfl, by (unfold okc_pattern oka_pattern; omega), ?_, fun j9_ => ?_⟩
      · first | rw [if_pos (by omega)] | rw [if_neg (by omega)]
      · rw [rd_eq]; by_cases y9_ : j9_ = k_.toNat
        · rw [if_pos y9_, if_pos y9_]; first | rw [if_pos (by omega)] | rw [if_neg (by omega)]
        · rw [if_neg y9_, if_neg y9_]
    · have cx22_ : ¬ (is_ = 0) := of_decide_eq_false cx22_
      refine sm_T_go 2 (c1 := (45, [some (.inr (.inr (some (12, 0)))), some (.inl kk_), some (.inl k_), some (.inl is_), some (.inr (.inr (some (2, kk_.toNat)))), some (.inl 1)], [.inl 1, .inl k_, .inr (.inr (some (41, (0 + kk_.toNat))))], S0_)) rfl ?_
      refine sm_T_iast (n := 1224) rfl rfl (by omega) (by omega) ?_
      have hIx26_ : gi (sm_aI S0_ 41 (0 + kk_.toNat) k_.toNat 1) := gi_aI hI_ (show 0 ≤ 1 ∧ 1 ≤ 1 from ⟨by omega, by omega⟩)
      have hFx27_ : ai_fr (sx_W vw_262t) S0_ (sm_aI S0_ 41 (0 + kk_.toNat) k_.toNat 1) := ai_fr_tr hF_ (ai_fr_aI rfl)
      have hCx28_ : cdf kk_.toNat S0_ (sm_aI S0_ 41 (0 + kk_.toNat) k_.toNat 1) := cdf_aI hC_ (Or.inr (by rw [show cof 41 = 0 from rfl] <;> omega))
      refine sm_T_go 1 (c1 := (48, [some (.inr (.inr (some (12, 0)))), some (.inl kk_), some (.inl k_), some (.inl is_), some (.inr (.inr (some (2, kk_.toNat)))), some (.inl 1)], [.inl 1], sm_aI S0_ 41 (0 + kk_.toNat) k_.toNat 1)) rfl ?_
      refine sm_T_rz rfl (by omega) (Or.inl ⟨_, _, rfl, _, rfl, hIx26_, hFx27_, ?_⟩)
      refine ⟨hCx28_, ?_⟩
      refine ⟨jC_fr hJ_ hFx27_ (by decide) (by decide) (by decide) (by decide) (by decide) rfl rfl rfl rfl rfl rfl, by (unfold okc_pattern oka_pattern; omega), ?_, fun j9_ => ?_⟩
      · first | rw [if_pos (by omega)] | rw [if_neg (by omega)]
      · rw [rd_eq]; by_cases y9_ : j9_ = k_.toNat
        · rw [if_pos y9_, if_pos y9_]; first | rw [if_pos (by omega)] | rw [if_neg (by omega)]
        · rw [if_neg y9_, if_neg y9_]
/-! ChipFlow.suspect -/
def vw_263t : sx_Wl := ([(9, 1), (9, 2), (9, 3)], [92, 93, 94, 95, 96], [(9, 0)])
def vq_263t (kk_ : Int) (k_ : Int) (P_ : Nat → Nat → Bool) (L_ : List Nat) (fa_ : Nat → Bool) (S0_ : sm_S) (u_ : Option sm_V) (S1_ : sm_S) : Prop := ∃ v_ : Int, u_ = some (.inl v_) ∧ gi S1_ ∧ ai_fr (sx_W vw_263t) S0_ S1_ ∧ (jC S1_ ∧ tkk S0_ S1_ ∧ okc_suspect kk_ k_ S0_ ∧ kth9 (sus9 P_ L_ fa_) (cfu9 kk_.toNat S0_).toNat k_ v_)
def vx_263t (kk_ : Int) (k_ : Int) (P_ : Nat → Nat → Bool) (L_ : List Nat) (fa_ : Nat → Bool) (S0_ : sm_S) (ex_ : Nat) (S1_ : sm_S) : Prop := gi S1_ ∧ ai_fr (sx_W vw_263t) S0_ S1_ ∧ (S1_ = S0_ ∧ ((ex_ = 0 ∧ ¬ oka_suspect kk_ k_ S0_) ∨ (ex_ = 2 ∧ oka_suspect kk_ k_ S0_ ∧ ¬ okc_suspect kk_ k_ S0_)))
set_option maxHeartbeats 400000 in
theorem vc_263t {sc_ : Nat × (Nat → Int)} (kk_ : Int) (k_ : Int) (P_ : Nat → Nat → Bool) (L_ : List Nat) (fa_ : Nat → Bool) (S0_ : sm_S) (hI_ : gi S0_) (hJ_ : jC S0_) (hg9_ : tgo S0_) (hk9_ : -2147483648 ≤ k_ ∧ k_ ≤ 2147483647) (hL_ : okc_suspect kk_ k_ S0_ → shU kk_.toNat S0_ P_ ∧ tls kk_.toNat S0_ L_ ∧ ∀ k9_ : Nat, (k9_ : Int) < S0_.1 2 kk_.toNat 15 → fa_ k9_ = decide (S0_.2.2.1 41 (0 + kk_.toNat) k9_ ≠ 0)) : sm_T (mt_P sc_) 6 263 (0, [some (.inr (.inr (some (12, 0)))), some (.inl kk_), some (.inl k_), none], [], S0_) (fun ro9_ => (∃ u_ S1_, ro9_ = (.inl u_, S1_, 0) ∧ vq_263t kk_ k_ P_ L_ fa_ S0_ u_ S1_) ∨ ∃ ex_ S1_, ro9_ = (.inr ex_, S1_, 1) ∧ ex_ ∈ ([0, 2] : List Nat) ∧ vx_263t kk_ k_ P_ L_ fa_ S0_ ex_ S1_) := by
  have hF_ : ai_fr (sx_W vw_263t) S0_ S0_ := ai_fr_rf
  refine sm_T_go 2 (c1 := (2, [some (.inr (.inr (some (12, 0)))), some (.inl kk_), some (.inl k_), none], [.inl kk_, .inr (.inr (some (12, 0)))], S0_)) rfl ?_
  refine sm_T_cale (d1_ := 1) (Q1_ := vq_272t kk_ S0_) (Q2_ := (fun ex_ S1_ => ex_ ∈ ([0] : List Nat) ∧ vx_272t kk_ S0_ S1_)) rfl rfl (by decide) (vc_272t kk_ S0_ hI_ ) rfl (fun xx6_ Sx1_ px4_ => ?_) (fun u_ Sx1_ px4_ => ?_)
  · obtain ⟨px4m, hIx2_, hFx3_, px4_⟩ := px4_
    refine Or.inr ⟨_, _, rfl, by first | exact px4m | (simp only [List.mem_cons, List.not_mem_nil, or_false] at px4m ⊢; omega), hIx2_, ai_fr_tr hF_ (fr_le hFx3_ rfl), ?_⟩
    exact ⟨px4_.1, Or.inl ⟨List.mem_singleton.mp px4m, fun y9_ => px4_.2 y9_.1⟩⟩
  obtain ⟨rfl, -, -, rfl, px4_⟩ := px4_
  have a9_ := px4_
  have J9_ := hJ_.2.1 kk_.toNat (by omega) a9_.2
  have J1_ := J9_.1
  have q9_ := a9_.2
  have c8_ : 0 ≤ S0_.1 2 (kk_.toNat) 8 ∧ S0_.1 2 (kk_.toNat) 8 ≤ 150 := hI_.1 2 (kk_.toNat) 8 rfl
  have c1_ : 0 ≤ S0_.1 2 (kk_.toNat) 1 ∧ S0_.1 2 (kk_.toNat) 1 ≤ 12 := hI_.1 2 (kk_.toNat) 1 rfl
  have c2_ : 0 ≤ S0_.1 2 (kk_.toNat) 2 ∧ S0_.1 2 (kk_.toNat) 2 ≤ 6 := hI_.1 2 (kk_.toNat) 2 rfl
  have G9_ := hg9_ kk_.toNat (by omega) a9_.2
  refine sm_T_go 2 (c1 := (7, [some (.inr (.inr (some (12, 0)))), some (.inl kk_), some (.inl k_), some (.inr (.inr (some (2, kk_.toNat))))], [.inl k_], S0_)) rfl ?_
  refine sm_T_b0 (a := 2) (z := 7) rfl (fun cx7_ => ?_) (fun cx7_ => ?_)
  · have cx7_ : k_ < 0 := of_decide_eq_true cx7_
    refine sm_T_go 1 (c1 := (15, [some (.inr (.inr (some (12, 0)))), some (.inl kk_), some (.inl k_), some (.inr (.inr (some (2, kk_.toNat))))], [.inl 0], S0_)) rfl ?_
    refine sm_T_cale (d1_ := 0) (Q1_ := vq_265e 0 S0_) (Q2_ := (fun ex_ S1_ => ex_ ∈ ([0] : List Nat) ∧ vx_265e 0 S0_ S1_)) rfl rfl (by decide) (vc_265e 0 S0_ hI_ ) rfl (fun xx13_ Sx8_ px11_ => ?_) (fun u_ Sx8_ px11_ => ?_)
    · obtain ⟨px11m, hIx9_, hFx10_, px11_⟩ := px11_
      refine Or.inr ⟨_, _, rfl, by first | exact px11m | (simp only [List.mem_cons, List.not_mem_nil, or_false] at px11m ⊢; omega), hIx9_, ai_fr_tr hF_ (fr_le hFx10_ rfl), ?_⟩
      first | exact ⟨px11_.2, Or.inl ⟨List.mem_singleton.mp px11m, by (have y9_ := px11_.1; unfold oka_suspect; omega)⟩⟩ | exact ⟨px11_.2, Or.inr ⟨List.mem_singleton.mp px11m, by (unfold oka_suspect; omega), by (have y9_ := px11_.1; unfold okc_suspect oka_suspect; omega)⟩⟩
    · exact absurd rfl px11_.2.2.2.1
  · have cx7_ : ¬ (k_ < 0) := of_decide_eq_false cx7_
    refine sm_T_go 2 (c1 := (15, [some (.inr (.inr (some (12, 0)))), some (.inl kk_), some (.inl k_), some (.inr (.inr (some (2, kk_.toNat))))], [.inl 1], S0_)) rfl ?_
    refine sm_T_cale (d1_ := 0) (Q1_ := vq_265e 1 S0_) (Q2_ := (fun ex_ S1_ => ex_ ∈ ([0] : List Nat) ∧ vx_265e 1 S0_ S1_)) rfl rfl (by decide) (vc_265e 1 S0_ hI_ ) rfl (fun xx19_ Sx14_ px17_ => ?_) (fun u_ Sx14_ px17_ => ?_)
    · exact absurd px17_.2.2.2.1 (by decide)
    obtain ⟨rfl, -, -, px17_, rfl⟩ := px17_
    have bx20_ : (-1) ≤ S0_.1 2 kk_.toNat 15 ∧ S0_.1 2 kk_.toNat 15 ≤ 1224 := hI_.1 2 kk_.toNat 15 rfl
    refine sm_T_go 3 (c1 := (23, [some (.inr (.inr (some (12, 0)))), some (.inl kk_), some (.inl k_), some (.inr (.inr (some (2, kk_.toNat))))], [.inl (-1), .inl (S0_.1 2 kk_.toNat 15)], S0_)) rfl ?_
    refine sm_T_br (a := 0) (z := 7) rfl (fun cx21_ => ?_) (fun cx21_ => ?_)
    · have cx21_ : (S0_.1 2 kk_.toNat 15) = (-1) := of_decide_eq_true cx21_
      refine sm_T_go 1 (c1 := (31, [some (.inr (.inr (some (12, 0)))), some (.inl kk_), some (.inl k_), some (.inr (.inr (some (2, kk_.toNat))))], [.inl 0], S0_)) rfl ?_
      refine sm_T_cale (d1_ := 0) (Q1_ := vq_267e 0 S0_) (Q2_ := (fun ex_ S1_ => ex_ ∈ ([2] : List Nat) ∧ vx_267e 0 S0_ S1_)) rfl rfl (by decide) (vc_267e 0 S0_ hI_ ) rfl (fun xx27_ Sx22_ px25_ => ?_) (fun u_ Sx22_ px25_ => ?_)
      · obtain ⟨px25m, hIx23_, hFx24_, px25_⟩ := px25_
        refine Or.inr ⟨_, _, rfl, by first | exact px25m | (simp only [List.mem_cons, List.not_mem_nil, or_false] at px25m ⊢; omega), hIx23_, ai_fr_tr hF_ (fr_le hFx24_ rfl), ?_⟩
        first | exact ⟨px25_.2, Or.inl ⟨List.mem_singleton.mp px25m, by (have y9_ := px25_.1; unfold oka_suspect; omega)⟩⟩ | exact ⟨px25_.2, Or.inr ⟨List.mem_singleton.mp px25m, by (unfold oka_suspect; omega), by (have y9_ := px25_.1; unfold okc_suspect oka_suspect; omega)⟩⟩
      · exact absurd rfl px25_.2.2.2.1
    · have cx21_ : ¬ ((S0_.1 2 kk_.toNat 15) = (-1)) := of_decide_eq_false cx21_
      have ok9_ : okc_suspect kk_ k_ S0_ := by (unfold okc_suspect oka_suspect; omega)
      refine sm_T_go 2 (c1 := (31, [some (.inr (.inr (some (12, 0)))), some (.inl kk_), some (.inl k_), some (.inr (.inr (some (2, kk_.toNat))))], [.inl 1], S0_)) rfl ?_
      refine sm_T_cale (d1_ := 0) (Q1_ := vq_267e 1 S0_) (Q2_ := (fun ex_ S1_ => ex_ ∈ ([2] : List Nat) ∧ vx_267e 1 S0_ S1_)) rfl rfl (by decide) (vc_267e 1 S0_ hI_ ) rfl (fun xx33_ Sx28_ px31_ => ?_) (fun u_ Sx28_ px31_ => ?_)
      · exact absurd px31_.2.2.2.1 (by decide)
      obtain ⟨rfl, -, -, px31_, rfl⟩ := px31_
      refine sm_T_go 4 (c1 := (40, [some (.inr (.inr (some (12, 0)))), some (.inl kk_), some (.inl k_), some (.inr (.inr (some (2, kk_.toNat))))], [.inl k_, .inr (.inr (some (2, kk_.toNat))), .inr (.inr (some (9, 0)))], S0_)) rfl ?_
      refine sm_T_cal (d1 := 5) (Q1 := vq_184n k_ kk_.toNat P_ L_ fa_ S0_) rfl rfl (by decide) (vc_184n k_ kk_.toNat P_ L_ fa_ S0_ hI_ (by exact G9_.1) (by omega) (by exact hJ_.2.2.2) (by exact G9_.2) (by exact (hL_ ok9_).1) (by exact (hL_ ok9_).2.1) (by exact (hL_ ok9_).2.2)) (fun u_ Sx34_ px37_ => ?_)
      obtain ⟨vx39_, rfl, hIx35_, hFx36_, px37_⟩ := px37_
      have hFx38_ : ai_fr (sx_W vw_263t) S0_ Sx34_ := ai_fr_tr hF_ (fr_le hFx36_ rfl)
      have ex40_ : Sx34_.1 2 kk_.toNat 15 = S0_.1 2 kk_.toNat 15 := hFx36_.1 2 kk_.toNat 15 rfl
      have p40_ := px37_
      refine sm_T_ri rfl (Or.inl ⟨_, _, rfl, _, rfl, hIx35_, hFx38_, ?_⟩)
      exact ⟨jC_mk hJ_ hFx38_ (tpo_fr hJ_.2.2.1 hFx38_) p40_.1 (by decide) (by decide) (by decide) (by decide) (by decide), p40_.2.1, by (unfold okc_suspect oka_suspect; omega), p40_.2.2⟩
/-! ChipFlow.faults -/
def vw_264t : sx_Wl := ([(9, 1), (9, 2), (9, 3)], [92, 93, 94, 95, 96], [(9, 0)])
def vq_264t (kk_ : Int) (wh_ : Int) (P_ : Nat → Nat → Bool) (L_ : List Nat) (le_ : Nat → Int) (S0_ : sm_S) (u_ : Option sm_V) (S1_ : sm_S) : Prop := ∃ v_ : Int, u_ = some (.inl v_) ∧ gi S1_ ∧ ai_fr (sx_W vw_264t) S0_ S1_ ∧ (jC S1_ ∧ tkk S0_ S1_ ∧ okc_faults kk_ wh_ S0_ ∧ v_ = vac_faults kk_ wh_ P_ L_ le_ S0_)
def vx_264t (kk_ : Int) (wh_ : Int) (P_ : Nat → Nat → Bool) (L_ : List Nat) (le_ : Nat → Int) (S0_ : sm_S) (ex_ : Nat) (S1_ : sm_S) : Prop := gi S1_ ∧ ai_fr (sx_W vw_264t) S0_ S1_ ∧ (S1_ = S0_ ∧ ((ex_ = 0 ∧ ¬ oka_faults kk_ wh_ S0_) ∨ (ex_ = 1 ∧ oka_faults kk_ wh_ S0_ ∧ ¬ okc_faults kk_ wh_ S0_)))
set_option maxHeartbeats 400000 in
theorem vc_264t {sc_ : Nat × (Nat → Int)} (kk_ : Int) (wh_ : Int) (P_ : Nat → Nat → Bool) (L_ : List Nat) (le_ : Nat → Int) (S0_ : sm_S) (hI_ : gi S0_) (hJ_ : jC S0_) (hg9_ : tgo S0_) (hle_ : oka_faults kk_ wh_ S0_ → leU kk_.toNat S0_ le_) (hL_ : oka_faults kk_ wh_ S0_ → S0_.1 2 kk_.toNat 15 ≠ -1 → shU kk_.toNat S0_ P_ ∧ tls kk_.toNat S0_ L_) : sm_T (mt_P sc_) 7 264 (0, [some (.inr (.inr (some (12, 0)))), some (.inl kk_), some (.inl wh_), none], [], S0_) (fun ro9_ => (∃ u_ S1_, ro9_ = (.inl u_, S1_, 0) ∧ vq_264t kk_ wh_ P_ L_ le_ S0_ u_ S1_) ∨ ∃ ex_ S1_, ro9_ = (.inr ex_, S1_, 1) ∧ ex_ ∈ ([0, 1] : List Nat) ∧ vx_264t kk_ wh_ P_ L_ le_ S0_ ex_ S1_) := by
  have hF_ : ai_fr (sx_W vw_264t) S0_ S0_ := ai_fr_rf
  refine sm_T_go 2 (c1 := (2, [some (.inr (.inr (some (12, 0)))), some (.inl kk_), some (.inl wh_), none], [.inl kk_, .inr (.inr (some (12, 0)))], S0_)) rfl ?_
  refine sm_T_cale (d1_ := 1) (Q1_ := vq_272t kk_ S0_) (Q2_ := (fun ex_ S1_ => ex_ ∈ ([0] : List Nat) ∧ vx_272t kk_ S0_ S1_)) rfl rfl (by decide) (vc_272t kk_ S0_ hI_ ) rfl (fun xx6_ Sx1_ px4_ => ?_) (fun u_ Sx1_ px4_ => ?_)
  · obtain ⟨px4m, hIx2_, hFx3_, px4_⟩ := px4_
    refine Or.inr ⟨_, _, rfl, by first | exact px4m | (simp only [List.mem_cons, List.not_mem_nil, or_false] at px4m ⊢; omega), hIx2_, ai_fr_tr hF_ (fr_le hFx3_ rfl), ?_⟩
    exact ⟨px4_.1, Or.inl ⟨List.mem_singleton.mp px4m, fun y9_ => px4_.2 y9_⟩⟩
  obtain ⟨rfl, -, -, rfl, px4_⟩ := px4_
  have a9_ := px4_
  have J9_ := hJ_.2.1 kk_.toNat (by omega) a9_.2
  have J1_ := J9_.1
  have q9_ := a9_.2
  have c8_ : 0 ≤ S0_.1 2 (kk_.toNat) 8 ∧ S0_.1 2 (kk_.toNat) 8 ≤ 150 := hI_.1 2 (kk_.toNat) 8 rfl
  have c1_ : 0 ≤ S0_.1 2 (kk_.toNat) 1 ∧ S0_.1 2 (kk_.toNat) 1 ≤ 12 := hI_.1 2 (kk_.toNat) 1 rfl
  have c2_ : 0 ≤ S0_.1 2 (kk_.toNat) 2 ∧ S0_.1 2 (kk_.toNat) 2 ≤ 6 := hI_.1 2 (kk_.toNat) 2 rfl
  have G9_ := hg9_ kk_.toNat (by omega) a9_.2
  refine sm_T_go 2 (c1 := (7, [some (.inr (.inr (some (12, 0)))), some (.inl kk_), some (.inl wh_), some (.inr (.inr (some (2, kk_.toNat))))], [.inl wh_], S0_)) rfl ?_
  refine sm_T_b0 (a := 2) (z := 12) rfl (fun cx7_ => ?_) (fun cx7_ => ?_)
  · have cx7_ : wh_ < 0 := of_decide_eq_true cx7_
    refine sm_T_go 1 (c1 := (20, [some (.inr (.inr (some (12, 0)))), some (.inl kk_), some (.inl wh_), some (.inr (.inr (some (2, kk_.toNat))))], [.inl 0], S0_)) rfl ?_
    refine sm_T_cale (d1_ := 0) (Q1_ := vq_266e 0 S0_) (Q2_ := (fun ex_ S1_ => ex_ ∈ ([1] : List Nat) ∧ vx_266e 0 S0_ S1_)) rfl rfl (by decide) (vc_266e 0 S0_ hI_ ) rfl (fun xx13_ Sx8_ px11_ => ?_) (fun u_ Sx8_ px11_ => ?_)
    · obtain ⟨px11m, hIx9_, hFx10_, px11_⟩ := px11_
      refine Or.inr ⟨_, _, rfl, by first | exact px11m | (simp only [List.mem_cons, List.not_mem_nil, or_false] at px11m ⊢; omega), hIx9_, ai_fr_tr hF_ (fr_le hFx10_ rfl), ?_⟩
      first | exact ⟨px11_.2, Or.inl ⟨List.mem_singleton.mp px11m, by (have y9_ := px11_.1; unfold oka_faults; omega)⟩⟩ | exact ⟨px11_.2, Or.inr ⟨List.mem_singleton.mp px11m, by (unfold oka_faults; omega), by (have y9_ := px11_.1; unfold okc_faults oka_faults; omega)⟩⟩
    · exact absurd rfl px11_.2.2.2.1
  · have cx7_ : ¬ (wh_ < 0) := of_decide_eq_false cx7_
    refine sm_T_go 2 (c1 := (12, [some (.inr (.inr (some (12, 0)))), some (.inl kk_), some (.inl wh_), some (.inr (.inr (some (2, kk_.toNat))))], [.inl 2, .inl wh_], S0_)) rfl ?_
    refine sm_T_br (a := 4) (z := 7) rfl (fun cx14_ => ?_) (fun cx14_ => ?_)
    · have cx14_ : 2 < wh_ := of_decide_eq_true cx14_
      refine sm_T_go 1 (c1 := (20, [some (.inr (.inr (some (12, 0)))), some (.inl kk_), some (.inl wh_), some (.inr (.inr (some (2, kk_.toNat))))], [.inl 0], S0_)) rfl ?_
      refine sm_T_cale (d1_ := 0) (Q1_ := vq_266e 0 S0_) (Q2_ := (fun ex_ S1_ => ex_ ∈ ([1] : List Nat) ∧ vx_266e 0 S0_ S1_)) rfl rfl (by decide) (vc_266e 0 S0_ hI_ ) rfl (fun xx20_ Sx15_ px18_ => ?_) (fun u_ Sx15_ px18_ => ?_)
      · obtain ⟨px18m, hIx16_, hFx17_, px18_⟩ := px18_
        refine Or.inr ⟨_, _, rfl, by first | exact px18m | (simp only [List.mem_cons, List.not_mem_nil, or_false] at px18m ⊢; omega), hIx16_, ai_fr_tr hF_ (fr_le hFx17_ rfl), ?_⟩
        first | exact ⟨px18_.2, Or.inl ⟨List.mem_singleton.mp px18m, by (have y9_ := px18_.1; unfold oka_faults; omega)⟩⟩ | exact ⟨px18_.2, Or.inr ⟨List.mem_singleton.mp px18m, by (unfold oka_faults; omega), by (have y9_ := px18_.1; unfold okc_faults oka_faults; omega)⟩⟩
      · exact absurd rfl px18_.2.2.2.1
    · have cx14_ : ¬ (2 < wh_) := of_decide_eq_false cx14_
      refine sm_T_go 2 (c1 := (20, [some (.inr (.inr (some (12, 0)))), some (.inl kk_), some (.inl wh_), some (.inr (.inr (some (2, kk_.toNat))))], [.inl 1], S0_)) rfl ?_
      refine sm_T_cale (d1_ := 0) (Q1_ := vq_266e 1 S0_) (Q2_ := (fun ex_ S1_ => ex_ ∈ ([1] : List Nat) ∧ vx_266e 1 S0_ S1_)) rfl rfl (by decide) (vc_266e 1 S0_ hI_ ) rfl (fun xx26_ Sx21_ px24_ => ?_) (fun u_ Sx21_ px24_ => ?_)
      · exact absurd px24_.2.2.2.1 (by decide)
      obtain ⟨rfl, -, -, px24_, rfl⟩ := px24_
      refine sm_T_go 1 (c1 := (24, [some (.inr (.inr (some (12, 0)))), some (.inl kk_), some (.inl wh_), some (.inr (.inr (some (2, kk_.toNat))))], [.inl wh_], S0_)) rfl ?_
      refine sm_T_b0 (a := 1) (z := 8) rfl (fun cx27_ => ?_) (fun cx27_ => ?_)
      · have cx27_ : wh_ ≠ 0 := of_decide_eq_true cx27_
        refine sm_T_go 2 (c1 := (34, [some (.inr (.inr (some (12, 0)))), some (.inl kk_), some (.inl wh_), some (.inr (.inr (some (2, kk_.toNat))))], [.inl 1, .inl wh_], S0_)) rfl ?_
        refine sm_T_br (a := 1) (z := 12) rfl (fun cx28_ => ?_) (fun cx28_ => ?_)
        · have cx28_ : wh_ ≠ 1 := of_decide_eq_true cx28_
          have bx29_ : (-1) ≤ S0_.1 2 kk_.toNat 15 ∧ S0_.1 2 kk_.toNat 15 ≤ 1224 := hI_.1 2 kk_.toNat 15 rfl
          refine sm_T_go 3 (c1 := (51, [some (.inr (.inr (some (12, 0)))), some (.inl kk_), some (.inl wh_), some (.inr (.inr (some (2, kk_.toNat))))], [.inl (-1), .inl (S0_.1 2 kk_.toNat 15)], S0_)) rfl ?_
          refine sm_T_br (a := 1) (z := 7) rfl (fun cx30_ => ?_) (fun cx30_ => ?_)
          · have cx30_ : (S0_.1 2 kk_.toNat 15) ≠ (-1) := of_decide_eq_true cx30_
            refine sm_T_go 3 (c1 := (63, [some (.inr (.inr (some (12, 0)))), some (.inl kk_), some (.inl wh_), some (.inr (.inr (some (2, kk_.toNat))))], [.inr (.inr (some (2, kk_.toNat))), .inr (.inr (some (9, 0)))], S0_)) rfl ?_
            refine sm_T_cal (d1 := 5) (Q1 := vq_183n kk_.toNat P_ L_ S0_) rfl rfl (by decide) (vc_183n kk_.toNat P_ L_ S0_ hI_ (by exact G9_.1) (by exact hJ_.2.2.2) (by exact G9_.2) (by exact (hL_ ⟨by omega, by omega, a9_.2⟩ (by omega)).1) (by exact (hL_ ⟨by omega, by omega, a9_.2⟩ (by omega)).2)) (fun u_ Sx31_ px34_ => ?_)
            obtain ⟨vx36_, rfl, hIx32_, hFx33_, px34_⟩ := px34_
            have hFx35_ : ai_fr (sx_W vw_264t) S0_ Sx31_ := ai_fr_tr hF_ (fr_le hFx33_ rfl)
            have ex37_ : Sx31_.1 2 kk_.toNat 15 = S0_.1 2 kk_.toNat 15 := hFx33_.1 2 kk_.toNat 15 rfl
            have p63_ := px34_
            refine sm_T_ri rfl (Or.inl ⟨_, _, rfl, _, rfl, hIx32_, hFx35_, ?_⟩)
            unfold vac_faults
            first | exact ⟨hJ_, tkk_rf, by (unfold okc_faults oka_faults; omega), by (rw [if_pos (by omega)]; exact p28_.2)⟩ | exact ⟨hJ_, tkk_rf, by (unfold okc_faults oka_faults; omega), by (rw [if_neg (by omega), if_neg (by omega), if_pos (by omega)])⟩ | exact ⟨jC_mk hJ_ hFx35_ (tpo_fr hJ_.2.2.1 hFx35_) p42_.1 (by decide) (by decide) (by decide) (by decide) (by decide), p42_.2.1, by (unfold okc_faults oka_faults; omega), by (rw [if_neg (by omega), if_pos (by omega)]; exact p42_.2.2)⟩ | exact ⟨jC_mk hJ_ hFx35_ (tpo_fr hJ_.2.2.1 hFx35_) p63_.1 (by decide) (by decide) (by decide) (by decide) (by decide), p63_.2.1, by (unfold okc_faults oka_faults; omega), by (rw [if_neg (by omega), if_neg (by omega), if_neg (by omega)]; exact p63_.2.2)⟩
          · have cx30_ : ¬ ((S0_.1 2 kk_.toNat 15) ≠ (-1)) := of_decide_eq_false cx30_
            refine sm_T_go 2 (c1 := (66, [some (.inr (.inr (some (12, 0)))), some (.inl kk_), some (.inl wh_), some (.inr (.inr (some (2, kk_.toNat))))], [.inl (-1)], S0_)) rfl ?_
            refine sm_T_ri rfl (Or.inl ⟨_, _, rfl, _, rfl, hI_, hF_, ?_⟩)
            unfold vac_faults
            first | exact ⟨hJ_, tkk_rf, by (unfold okc_faults oka_faults; omega), by (rw [if_pos (by omega)]; exact p28_.2)⟩ | exact ⟨hJ_, tkk_rf, by (unfold okc_faults oka_faults; omega), by (rw [if_neg (by omega), if_neg (by omega), if_pos (by omega)])⟩ | exact ⟨jC_mk hJ_ hF_ (tpo_fr hJ_.2.2.1 hF_) p42_.1 (by decide) (by decide) (by decide) (by decide) (by decide), p42_.2.1, by (unfold okc_faults oka_faults; omega), by (rw [if_neg (by omega), if_pos (by omega)]; exact p42_.2.2)⟩ | exact ⟨jC_mk hJ_ hF_ (tpo_fr hJ_.2.2.1 hF_) p63_.1 (by decide) (by decide) (by decide) (by decide) (by decide), p63_.2.1, by (unfold okc_faults oka_faults; omega), by (rw [if_neg (by omega), if_neg (by omega), if_neg (by omega)]; exact p63_.2.2)⟩
        · have cx28_ : ¬ (wh_ ≠ 1) := of_decide_eq_false cx28_
          refine sm_T_go 3 (c1 := (42, [some (.inr (.inr (some (12, 0)))), some (.inl kk_), some (.inl wh_), some (.inr (.inr (some (2, kk_.toNat))))], [.inr (.inr (some (2, kk_.toNat))), .inr (.inr (some (9, 0)))], S0_)) rfl ?_
          refine sm_T_cal (d1 := 6) (Q1 := vq_178n kk_.toNat le_ S0_) rfl rfl (by decide) (vc_178n kk_.toNat le_ S0_ hI_ (by exact G9_.1) (by exact hJ_.2.2.2) (by exact G9_.2) (by exact hle_ ⟨by omega, by omega, a9_.2⟩)) (fun u_ Sx38_ px41_ => ?_)
          obtain ⟨vx43_, rfl, hIx39_, hFx40_, px41_⟩ := px41_
          have hFx42_ : ai_fr (sx_W vw_264t) S0_ Sx38_ := ai_fr_tr hF_ (fr_le hFx40_ rfl)
          have p42_ := px41_
          refine sm_T_ri rfl (Or.inl ⟨_, _, rfl, _, rfl, hIx39_, hFx42_, ?_⟩)
          unfold vac_faults
          first | exact ⟨hJ_, tkk_rf, by (unfold okc_faults oka_faults; omega), by (rw [if_pos (by omega)]; exact p28_.2)⟩ | exact ⟨hJ_, tkk_rf, by (unfold okc_faults oka_faults; omega), by (rw [if_neg (by omega), if_neg (by omega), if_pos (by omega)])⟩ | exact ⟨jC_mk hJ_ hFx42_ (tpo_fr hJ_.2.2.1 hFx42_) p42_.1 (by decide) (by decide) (by decide) (by decide) (by decide), p42_.2.1, by (unfold okc_faults oka_faults; omega), by (rw [if_neg (by omega), if_pos (by omega)]; exact p42_.2.2)⟩ | exact ⟨jC_mk hJ_ hFx42_ (tpo_fr hJ_.2.2.1 hFx42_) p63_.1 (by decide) (by decide) (by decide) (by decide) (by decide), p63_.2.1, by (unfold okc_faults oka_faults; omega), by (rw [if_neg (by omega), if_neg (by omega), if_neg (by omega)]; exact p63_.2.2)⟩
      · have cx27_ : ¬ (wh_ ≠ 0) := of_decide_eq_false cx27_
        refine sm_T_go 1 (c1 := (28, [some (.inr (.inr (some (12, 0)))), some (.inl kk_), some (.inl wh_), some (.inr (.inr (some (2, kk_.toNat))))], [.inr (.inr (some (2, kk_.toNat)))], S0_)) rfl ?_
        refine sm_T_cal (d1 := 1) (Q1 := vq_62n kk_.toNat S0_) rfl rfl (by decide) (vc_62n kk_.toNat S0_ hI_ (by omega)) (fun u_ Sx44_ px47_ => ?_)
        obtain ⟨rfl, vx49_, rfl, px47_⟩ := px47_
        have p28_ := px47_
        refine sm_T_ri rfl (Or.inl ⟨_, _, rfl, _, rfl, hI_, hF_, ?_⟩)
        unfold vac_faults
        first | exact ⟨hJ_, tkk_rf, by (unfold okc_faults oka_faults; omega), by (rw [if_pos (by omega)]; exact p28_.2)⟩ | exact ⟨hJ_, tkk_rf, by (unfold okc_faults oka_faults; omega), by (rw [if_neg (by omega), if_neg (by omega), if_pos (by omega)])⟩ | exact ⟨jC_mk hJ_ hF_ (tpo_fr hJ_.2.2.1 hF_) p42_.1 (by decide) (by decide) (by decide) (by decide) (by decide), p42_.2.1, by (unfold okc_faults oka_faults; omega), by (rw [if_neg (by omega), if_pos (by omega)]; exact p42_.2.2)⟩ | exact ⟨jC_mk hJ_ hF_ (tpo_fr hJ_.2.2.1 hF_) p63_.1 (by decide) (by decide) (by decide) (by decide) (by decide), p63_.2.1, by (unfold okc_faults oka_faults; omega), by (rw [if_neg (by omega), if_neg (by omega), if_neg (by omega)]; exact p63_.2.2)⟩
