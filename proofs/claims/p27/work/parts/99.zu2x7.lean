/-! the class: alter, with its table; written by wip/p55/gen/vg -/

/-- what the_ tester holds is_ not newer than the_ chip; stamps stay small -/
def tsk (c_ : Nat) (S_ : sm_S) : Prop := (0 ≤ S_.1 2 c_ 19 ∧ S_.1 2 c_ 19 ≤ 1000000) ∧ (S_.2.1 9 0 0 = some c_ → S_.1 9 0 1 ≤ S_.1 2 c_ 19)
/-- a_ chip whose table was_ filled last -/
def tsf (c_ : Nat) (S_ : sm_S) : Prop := kctb c_ S_ ∧ S_.2.1 9 0 0 = some c_ ∧ S_.1 9 0 1 = S_.1 2 c_ 19
/-! ChipFlow.alter -/
def vw_234m : sx_Wl := ([(0, 16), (2, 15), (2, 19), (9, 1), (9, 2), (9, 3)], [34, 35, 92, 93, 94, 96], [(9, 0)])
def vq_234m (kk_ : Int) (g_ : Int) (cl_ : Int) (S0_ : sm_S) (u_ : Option sm_V) (S1_ : sm_S) : Prop := ∃ v_ : Int, u_ = some (.inl v_) ∧ gi S1_ ∧ ai_fr (sx_W vw_234m) S0_ S1_ ∧ (cdf kk_.toNat S0_ S1_ ∧ ((tsf kk_.toNat S1_ ∧ S1_.1 2 kk_.toNat 19 = S0_.1 2 kk_.toNat 19 + 1) ∧ jC S1_ ∧ okc_alter kk_ g_ cl_ S0_ ∧ v_ = S0_.2.2.1 35 (0 + kk_.toNat) g_.toNat ∧ ∀ j_, S1_.2.2.1 35 (0 + kk_.toNat) j_ = if j_ = g_.toNat then cl_ else S0_.2.2.1 35 (0 + kk_.toNat) j_))
def vx_234m (kk_ : Int) (g_ : Int) (cl_ : Int) (S0_ : sm_S) (ex_ : Nat) (S1_ : sm_S) : Prop := gi S1_ ∧ ai_fr (sx_W vw_234m) S0_ S1_ ∧ (S1_ = S0_ ∧ ((ex_ = 0 ∧ ¬ oka_alter kk_ g_ cl_ S0_) ∨ (ex_ = 1 ∧ oka_alter kk_ g_ cl_ S0_ ∧ ¬ okc_alter kk_ g_ cl_ S0_)))
set_option maxHeartbeats 400000 in
theorem vc_234m {sc_ : Nat × (Nat → Int)} (kk_ : Int) (g_ : Int) (cl_ : Int) (S0_ : sm_S) (hI_ : gi S0_) (hJ_ : jC S0_) (hts_ : tsk kk_.toNat S0_) : sm_T (mt_P sc_) 5 234 (0, [some (.inr (.inr (some (12, 0)))), some (.inl kk_), some (.inl g_), some (.inl cl_), none, none], [], S0_) (fun ro9_ => (∃ u_ S1_, ro9_ = (.inl u_, S1_, 0) ∧ vq_234m kk_ g_ cl_ S0_ u_ S1_) ∨ ∃ ex_ S1_, ro9_ = (.inr ex_, S1_, 1) ∧ ex_ ∈ ([0, 1] : List Nat) ∧ vx_234m kk_ g_ cl_ S0_ ex_ S1_) := by
  have hF_ : ai_fr (sx_W vw_234m) S0_ S0_ := ai_fr_rf
  have hC_ : cdf kk_.toNat S0_ S0_ := cdf_rf
  have hts1_ := hts_.1
  refine sm_T_go 2 (c1 := (2, [some (.inr (.inr (some (12, 0)))), some (.inl kk_), some (.inl g_), some (.inl cl_), none, none], [.inl kk_, .inr (.inr (some (12, 0)))], S0_)) rfl ?_
  refine sm_T_cale (d1_ := 1) (Q1_ := vq_272t kk_ S0_) (Q2_ := (fun ex_ S1_ => ex_ ∈ ([0] : List Nat) ∧ vx_272t kk_ S0_ S1_)) rfl rfl (by decide) (vc_272t kk_ S0_ hI_ ) rfl (fun xx6_ Sx1_ px4_ => ?_) (fun u_ Sx1_ px4_ => ?_)
  · obtain ⟨px4m, hIx2_, hFx3_, px4_⟩ := px4_
    refine Or.inr ⟨_, _, rfl, by first | exact px4m | (simp only [List.mem_cons, List.not_mem_nil, or_false] at px4m ⊢; omega), hIx2_, ai_fr_tr hF_ (fr_le hFx3_ rfl), ?_⟩
    exact ⟨px4_.1, Or.inl ⟨List.mem_singleton.mp px4m, fun y9_ => px4_.2 y9_.1⟩⟩
  obtain ⟨rfl, -, -, rfl, px4_⟩ := px4_
  have a9_ := px4_
  have J9_ := hJ_.2.1 kk_.toNat (by omega) a9_.2
  have J1_ := J9_.1
  have q9_ := a9_.2
  have c8_ : 0 ≤ S0_.1 2 (kk_.toNat) 8 ∧ S0_.1 2 (kk_.toNat) 8 ≤ 150 := hI_.1 2 (kk_.toNat) 8 rfl
  have c1_ : 0 ≤ S0_.1 2 (kk_.toNat) 1 ∧ S0_.1 2 (kk_.toNat) 1 ≤ 12 := hI_.1 2 (kk_.toNat) 1 rfl
  have c2_ : 0 ≤ S0_.1 2 (kk_.toNat) 2 ∧ S0_.1 2 (kk_.toNat) 2 ≤ 6 := hI_.1 2 (kk_.toNat) 2 rfl
  refine sm_T_go 2 (c1 := (8, [some (.inr (.inr (some (12, 0)))), some (.inl kk_), some (.inl g_), some (.inl cl_), some (.inr (.inr (some (2, kk_.toNat)))), none], [.inl g_], S0_)) rfl ?_
  refine sm_T_b0 (a := 2) (z := 16) rfl (fun cx7_ => ?_) (fun cx7_ => ?_)
  · have cx7_ : g_ < 0 := of_decide_eq_true cx7_
    refine sm_T_go 1 (c1 := (25, [some (.inr (.inr (some (12, 0)))), some (.inl kk_), some (.inl g_), some (.inl cl_), some (.inr (.inr (some (2, kk_.toNat)))), none], [.inl 0], S0_)) rfl ?_
    refine sm_T_cale (d1_ := 0) (Q1_ := vq_265e 0 S0_) (Q2_ := (fun ex_ S1_ => ex_ ∈ ([0] : List Nat) ∧ vx_265e 0 S0_ S1_)) rfl rfl (by decide) (vc_265e 0 S0_ hI_ ) rfl (fun xx13_ Sx8_ px11_ => ?_) (fun u_ Sx8_ px11_ => ?_)
    · obtain ⟨px11m, hIx9_, hFx10_, px11_⟩ := px11_
      refine Or.inr ⟨_, _, rfl, by first | exact px11m | (simp only [List.mem_cons, List.not_mem_nil, or_false] at px11m ⊢; omega), hIx9_, ai_fr_tr hF_ (fr_le hFx10_ rfl), ?_⟩
      first | exact ⟨px11_.2, Or.inl ⟨List.mem_singleton.mp px11m, by (have y9_ := px11_.1; unfold oka_alter; omega)⟩⟩ | exact ⟨px11_.2, Or.inr ⟨List.mem_singleton.mp px11m, by (unfold oka_alter; omega), by (have y9_ := px11_.1; unfold okc_alter oka_alter; omega)⟩⟩
    · exact absurd rfl px11_.2.2.2.1
  · have cx7_ : ¬ (g_ < 0) := of_decide_eq_false cx7_
    have bx14_ : 0 ≤ S0_.1 2 kk_.toNat 8 ∧ S0_.1 2 kk_.toNat 8 ≤ 150 := hI_.1 2 kk_.toNat 8 rfl
    refine sm_T_go 3 (c1 := (17, [some (.inr (.inr (some (12, 0)))), some (.inl kk_), some (.inl g_), some (.inl cl_), some (.inr (.inr (some (2, kk_.toNat)))), none], [.inl (S0_.1 2 kk_.toNat 8), .inl g_], S0_)) rfl ?_
    refine sm_T_br (a := 3) (z := 7) rfl (fun cx15_ => ?_) (fun cx15_ => ?_)
    · have cx15_ : (S0_.1 2 kk_.toNat 8) ≤ g_ := of_decide_eq_true cx15_
      refine sm_T_go 1 (c1 := (25, [some (.inr (.inr (some (12, 0)))), some (.inl kk_), some (.inl g_), some (.inl cl_), some (.inr (.inr (some (2, kk_.toNat)))), none], [.inl 0], S0_)) rfl ?_
      refine sm_T_cale (d1_ := 0) (Q1_ := vq_265e 0 S0_) (Q2_ := (fun ex_ S1_ => ex_ ∈ ([0] : List Nat) ∧ vx_265e 0 S0_ S1_)) rfl rfl (by decide) (vc_265e 0 S0_ hI_ ) rfl (fun xx21_ Sx16_ px19_ => ?_) (fun u_ Sx16_ px19_ => ?_)
      · obtain ⟨px19m, hIx17_, hFx18_, px19_⟩ := px19_
        refine Or.inr ⟨_, _, rfl, by first | exact px19m | (simp only [List.mem_cons, List.not_mem_nil, or_false] at px19m ⊢; omega), hIx17_, ai_fr_tr hF_ (fr_le hFx18_ rfl), ?_⟩
        first | exact ⟨px19_.2, Or.inl ⟨List.mem_singleton.mp px19m, by (have y9_ := px19_.1; unfold oka_alter; omega)⟩⟩ | exact ⟨px19_.2, Or.inr ⟨List.mem_singleton.mp px19m, by (unfold oka_alter; omega), by (have y9_ := px19_.1; unfold okc_alter oka_alter; omega)⟩⟩
      · exact absurd rfl px19_.2.2.2.1
    · have cx15_ : ¬ ((S0_.1 2 kk_.toNat 8) ≤ g_) := of_decide_eq_false cx15_
      refine sm_T_go 2 (c1 := (25, [some (.inr (.inr (some (12, 0)))), some (.inl kk_), some (.inl g_), some (.inl cl_), some (.inr (.inr (some (2, kk_.toNat)))), none], [.inl 1], S0_)) rfl ?_
      refine sm_T_cale (d1_ := 0) (Q1_ := vq_265e 1 S0_) (Q2_ := (fun ex_ S1_ => ex_ ∈ ([0] : List Nat) ∧ vx_265e 1 S0_ S1_)) rfl rfl (by decide) (vc_265e 1 S0_ hI_ ) rfl (fun xx27_ Sx22_ px25_ => ?_) (fun u_ Sx22_ px25_ => ?_)
      · exact absurd px25_.2.2.2.1 (by decide)
      obtain ⟨rfl, -, -, px25_, rfl⟩ := px25_
      refine sm_T_go 1 (c1 := (29, [some (.inr (.inr (some (12, 0)))), some (.inl kk_), some (.inl g_), some (.inl cl_), some (.inr (.inr (some (2, kk_.toNat)))), none], [.inl cl_], S0_)) rfl ?_
      refine sm_T_b0 (a := 2) (z := 19) rfl (fun cx28_ => ?_) (fun cx28_ => ?_)
      · have cx28_ : cl_ < 0 := of_decide_eq_true cx28_
        refine sm_T_go 1 (c1 := (49, [some (.inr (.inr (some (12, 0)))), some (.inl kk_), some (.inl g_), some (.inl cl_), some (.inr (.inr (some (2, kk_.toNat)))), none], [.inl 0], S0_)) rfl ?_
        refine sm_T_cale (d1_ := 0) (Q1_ := vq_265e 0 S0_) (Q2_ := (fun ex_ S1_ => ex_ ∈ ([0] : List Nat) ∧ vx_265e 0 S0_ S1_)) rfl rfl (by decide) (vc_265e 0 S0_ hI_ ) rfl (fun xx34_ Sx29_ px32_ => ?_) (fun u_ Sx29_ px32_ => ?_)
        · obtain ⟨px32m, hIx30_, hFx31_, px32_⟩ := px32_
          refine Or.inr ⟨_, _, rfl, by first | exact px32m | (simp only [List.mem_cons, List.not_mem_nil, or_false] at px32m ⊢; omega), hIx30_, ai_fr_tr hF_ (fr_le hFx31_ rfl), ?_⟩
          first | exact ⟨px32_.2, Or.inl ⟨List.mem_singleton.mp px32m, by (have y9_ := px32_.1; unfold oka_alter; omega)⟩⟩ | exact ⟨px32_.2, Or.inr ⟨List.mem_singleton.mp px32m, by (unfold oka_alter; omega), by (have y9_ := px32_.1; unfold okc_alter oka_alter; omega)⟩⟩
        · exact absurd rfl px32_.2.2.2.1
      · have cx28_ : ¬ (cl_ < 0) := of_decide_eq_false cx28_
        have bx35_ : 0 ≤ S0_.1 5 (3 + kk_.toNat) 1 ∧ S0_.1 5 (3 + kk_.toNat) 1 ≤ 12 := hI_.1 5 (3 + kk_.toNat) 1 rfl
        refine sm_T_go 4 (c1 := (41, [some (.inr (.inr (some (12, 0)))), some (.inl kk_), some (.inl g_), some (.inl cl_), some (.inr (.inr (some (2, kk_.toNat)))), none], [.inl (S0_.1 5 (3 + kk_.toNat) 1), .inl cl_], S0_)) rfl ?_
        refine sm_T_br (a := 3) (z := 7) rfl (fun cx36_ => ?_) (fun cx36_ => ?_)
        · have cx36_ : (S0_.1 5 (3 + kk_.toNat) 1) ≤ cl_ := of_decide_eq_true cx36_
          refine sm_T_go 1 (c1 := (49, [some (.inr (.inr (some (12, 0)))), some (.inl kk_), some (.inl g_), some (.inl cl_), some (.inr (.inr (some (2, kk_.toNat)))), none], [.inl 0], S0_)) rfl ?_
          refine sm_T_cale (d1_ := 0) (Q1_ := vq_265e 0 S0_) (Q2_ := (fun ex_ S1_ => ex_ ∈ ([0] : List Nat) ∧ vx_265e 0 S0_ S1_)) rfl rfl (by decide) (vc_265e 0 S0_ hI_ ) rfl (fun xx42_ Sx37_ px40_ => ?_) (fun u_ Sx37_ px40_ => ?_)
          · obtain ⟨px40m, hIx38_, hFx39_, px40_⟩ := px40_
            refine Or.inr ⟨_, _, rfl, by first | exact px40m | (simp only [List.mem_cons, List.not_mem_nil, or_false] at px40m ⊢; omega), hIx38_, ai_fr_tr hF_ (fr_le hFx39_ rfl), ?_⟩
            first | exact ⟨px40_.2, Or.inl ⟨List.mem_singleton.mp px40m, by (have y9_ := px40_.1; unfold oka_alter; omega)⟩⟩ | exact ⟨px40_.2, Or.inr ⟨List.mem_singleton.mp px40m, by (unfold oka_alter; omega), by (have y9_ := px40_.1; unfold okc_alter oka_alter; omega)⟩⟩
          · exact absurd rfl px40_.2.2.2.1
        · have cx36_ : ¬ ((S0_.1 5 (3 + kk_.toNat) 1) ≤ cl_) := of_decide_eq_false cx36_
          refine sm_T_go 2 (c1 := (49, [some (.inr (.inr (some (12, 0)))), some (.inl kk_), some (.inl g_), some (.inl cl_), some (.inr (.inr (some (2, kk_.toNat)))), none], [.inl 1], S0_)) rfl ?_
          refine sm_T_cale (d1_ := 0) (Q1_ := vq_265e 1 S0_) (Q2_ := (fun ex_ S1_ => ex_ ∈ ([0] : List Nat) ∧ vx_265e 1 S0_ S1_)) rfl rfl (by decide) (vc_265e 1 S0_ hI_ ) rfl (fun xx48_ Sx43_ px46_ => ?_) (fun u_ Sx43_ px46_ => ?_)
          · exact absurd px46_.2.2.2.1 (by decide)
          obtain ⟨rfl, -, -, px46_, rfl⟩ := px46_
          refine sm_T_go 4 (c1 := (61, [some (.inr (.inr (some (12, 0)))), some (.inl kk_), some (.inl g_), some (.inl cl_), some (.inr (.inr (some (2, kk_.toNat)))), none], [.inl cl_, .inr (.inr (some (55, (0 + (3 + kk_.toNat)))))], S0_)) rfl ?_
          refine sm_T_iald (n := 12) rfl rfl (by omega) (by omega) ?_
          have bx49_ : 0 ≤ S0_.2.2.1 55 (0 + (3 + kk_.toNat)) cl_.toNat ∧ S0_.2.2.1 55 (0 + (3 + kk_.toNat)) cl_.toNat ≤ 3 := hI_.2 55 (0 + (3 + kk_.toNat)) _
          refine sm_T_go 2 (c1 := (65, [some (.inr (.inr (some (12, 0)))), some (.inl kk_), some (.inl g_), some (.inl cl_), some (.inr (.inr (some (2, kk_.toNat)))), none], [.inl g_, .inr (.inr (some (2, kk_.toNat))), .inl (S0_.2.2.1 55 (0 + (3 + kk_.toNat)) cl_.toNat)], S0_)) rfl ?_
          refine sm_T_cal (d1 := 0) (Q1 := vq_59n g_ kk_.toNat S0_) rfl rfl (by decide) (vc_59n g_ kk_.toNat S0_ hI_ (by omega)) (fun u_ Sx50_ px53_ => ?_)
          obtain ⟨rfl, vx55_, rfl, px53_⟩ := px53_
          have g65_ := px53_
          refine sm_T_br (a := 1) (z := 7) rfl (fun cx56_ => ?_) (fun cx56_ => ?_)
          · have cx56_ : (S0_.2.2.1 55 (0 + (3 + kk_.toNat)) cl_.toNat) ≠ vx55_ := of_decide_eq_true cx56_
            refine sm_T_go 1 (c1 := (76, [some (.inr (.inr (some (12, 0)))), some (.inl kk_), some (.inl g_), some (.inl cl_), some (.inr (.inr (some (2, kk_.toNat)))), none], [.inl 0], S0_)) rfl ?_
            refine sm_T_cale (d1_ := 0) (Q1_ := vq_266e 0 S0_) (Q2_ := (fun ex_ S1_ => ex_ ∈ ([1] : List Nat) ∧ vx_266e 0 S0_ S1_)) rfl rfl (by decide) (vc_266e 0 S0_ hI_ ) rfl (fun xx62_ Sx57_ px60_ => ?_) (fun u_ Sx57_ px60_ => ?_)
            · obtain ⟨px60m, hIx58_, hFx59_, px60_⟩ := px60_
              refine Or.inr ⟨_, _, rfl, by first | exact px60m | (simp only [List.mem_cons, List.not_mem_nil, or_false] at px60m ⊢; omega), hIx58_, ai_fr_tr hF_ (fr_le hFx59_ rfl), ?_⟩
              first | exact ⟨px60_.2, Or.inl ⟨List.mem_singleton.mp px60m, by (have y9_ := px60_.1; unfold oka_alter; omega)⟩⟩ | exact ⟨px60_.2, Or.inr ⟨List.mem_singleton.mp px60m, by (unfold oka_alter; omega), by (have y9_ := px60_.1; unfold okc_alter oka_alter; omega)⟩⟩
            · exact absurd rfl px60_.2.2.2.1
          · have cx56_ : ¬ ((S0_.2.2.1 55 (0 + (3 + kk_.toNat)) cl_.toNat) ≠ vx55_) := of_decide_eq_false cx56_
            refine sm_T_go 2 (c1 := (76, [some (.inr (.inr (some (12, 0)))), some (.inl kk_), some (.inl g_), some (.inl cl_), some (.inr (.inr (some (2, kk_.toNat)))), none], [.inl 1], S0_)) rfl ?_
            refine sm_T_cale (d1_ := 0) (Q1_ := vq_266e 1 S0_) (Q2_ := (fun ex_ S1_ => ex_ ∈ ([1] : List Nat) ∧ vx_266e 1 S0_ S1_)) rfl rfl (by decide) (vc_266e 1 S0_ hI_ ) rfl (fun xx68_ Sx63_ px66_ => ?_) (fun u_ Sx63_ px66_ => ?_)
            · exact absurd px66_.2.2.2.1 (by decide)
            obtain ⟨rfl, -, -, px66_, rfl⟩ := px66_
            refine sm_T_go 3 (c1 := (85, [some (.inr (.inr (some (12, 0)))), some (.inl kk_), some (.inl g_), some (.inl cl_), some (.inr (.inr (some (2, kk_.toNat)))), none], [.inl g_, .inr (.inr (some (35, (0 + kk_.toNat))))], S0_)) rfl ?_
            refine sm_T_iald (n := 150) rfl rfl (by omega) (by omega) ?_
            have bx69_ : 0 ≤ S0_.2.2.1 35 (0 + kk_.toNat) g_.toNat ∧ S0_.2.2.1 35 (0 + kk_.toNat) g_.toNat ≤ 11 := hI_.2 35 (0 + kk_.toNat) _
            refine sm_T_go 5 (c1 := (95, [some (.inr (.inr (some (12, 0)))), some (.inl kk_), some (.inl g_), some (.inl cl_), some (.inr (.inr (some (2, kk_.toNat)))), some (.inl (S0_.2.2.1 35 (0 + kk_.toNat) g_.toNat))], [.inl cl_, .inl g_, .inr (.inr (some (35, (0 + kk_.toNat))))], S0_)) rfl ?_
            refine sm_T_iast (n := 150) rfl rfl (by omega) (by omega) ?_
            have hIx70_ : gi (sm_aI S0_ 35 (0 + kk_.toNat) g_.toNat cl_) := gi_aI hI_ (show 0 ≤ cl_ ∧ cl_ ≤ 11 from ⟨by omega, by omega⟩)
            have hFx71_ : ai_fr (sx_W vw_234m) S0_ (sm_aI S0_ 35 (0 + kk_.toNat) g_.toNat cl_) := ai_fr_tr hF_ (ai_fr_aI rfl)
            have hCx72_ : cdf kk_.toNat S0_ (sm_aI S0_ 35 (0 + kk_.toNat) g_.toNat cl_) := cdf_aI hC_ (Or.inr (by rw [show cof 35 = 0 from rfl] <;> omega))
            have hIx73_ : gi (sm_pI (sm_aI S0_ 35 (0 + kk_.toNat) g_.toNat cl_) 2 kk_.toNat 15 (-1)) := gi_pI hIx70_ (show (-1) ≤ (-1) ∧ (-1) ≤ 1224 from ⟨by omega, by omega⟩)
            have hFx74_ : ai_fr (sx_W vw_234m) S0_ (sm_pI (sm_aI S0_ 35 (0 + kk_.toNat) g_.toNat cl_) 2 kk_.toNat 15 (-1)) := ai_fr_tr hFx71_ (ai_fr_pI rfl)
            have hCx75_ : cdf kk_.toNat S0_ (sm_pI (sm_aI S0_ 35 (0 + kk_.toNat) g_.toNat cl_) 2 kk_.toNat 15 (-1)) := cdf_pI hCx72_ (Or.inr (by rw [show cof 2 = 0 from rfl] <;> omega))
            have bx76_ : (-2147483648) ≤ S0_.1 2 kk_.toNat 19 ∧ S0_.1 2 kk_.toNat 19 ≤ 2147483647 := hI_.1 2 kk_.toNat 19 rfl
            have ex77_ : (sm_pI (sm_aI S0_ 35 (0 + kk_.toNat) g_.toNat cl_) 2 kk_.toNat 15 (-1)).1 2 kk_.toNat 19 = (S0_.1 2 kk_.toNat 19) := by (try simp only [rf_eq, rf_nk, rf_nt, rd_fa, rd_af, ne_eq, Nat.reduceEqDiff, not_false_eq_true])
            refine sm_T_go 7 (c1 := (109, [some (.inr (.inr (some (12, 0)))), some (.inl kk_), some (.inl g_), some (.inl cl_), some (.inr (.inr (some (2, kk_.toNat)))), some (.inl (S0_.2.2.1 35 (0 + kk_.toNat) g_.toNat))], [.inl 1, .inl ((sm_pI (sm_aI S0_ 35 (0 + kk_.toNat) g_.toNat cl_) 2 kk_.toNat 15 (-1)).1 2 kk_.toNat 19), .inr (.inr (some (2, kk_.toNat)))], sm_pI (sm_aI S0_ 35 (0 + kk_.toNat) g_.toNat cl_) 2 kk_.toNat 15 (-1))) rfl ?_
            refine sm_T_bin (w := ((sm_pI (sm_aI S0_ 35 (0 + kk_.toNat) g_.toNat cl_) 2 kk_.toNat 15 (-1)).1 2 kk_.toNat 19) + 1) rfl (bi_add (by omega) (by omega) (by omega)) ?_ -- pc_ 109
            have hIx78_ : gi (sm_pI (sm_pI (sm_aI S0_ 35 (0 + kk_.toNat) g_.toNat cl_) 2 kk_.toNat 15 (-1)) 2 kk_.toNat 19 (((sm_pI (sm_aI S0_ 35 (0 + kk_.toNat) g_.toNat cl_) 2 kk_.toNat 15 (-1)).1 2 kk_.toNat 19) + 1)) := gi_pI hIx73_ (show (-2147483648) ≤ ((sm_pI (sm_aI S0_ 35 (0 + kk_.toNat) g_.toNat cl_) 2 kk_.toNat 15 (-1)).1 2 kk_.toNat 19) + 1 ∧ ((sm_pI (sm_aI S0_ 35 (0 + kk_.toNat) g_.toNat cl_) 2 kk_.toNat 15 (-1)).1 2 kk_.toNat 19) + 1 ≤ 2147483647 from ⟨by omega, by omega⟩)
            have hFx79_ : ai_fr (sx_W vw_234m) S0_ (sm_pI (sm_pI (sm_aI S0_ 35 (0 + kk_.toNat) g_.toNat cl_) 2 kk_.toNat 15 (-1)) 2 kk_.toNat 19 (((sm_pI (sm_aI S0_ 35 (0 + kk_.toNat) g_.toNat cl_) 2 kk_.toNat 15 (-1)).1 2 kk_.toNat 19) + 1)) := ai_fr_tr hFx74_ (ai_fr_pI rfl)
            have hCx80_ : cdf kk_.toNat S0_ (sm_pI (sm_pI (sm_aI S0_ 35 (0 + kk_.toNat) g_.toNat cl_) 2 kk_.toNat 15 (-1)) 2 kk_.toNat 19 (((sm_pI (sm_aI S0_ 35 (0 + kk_.toNat) g_.toNat cl_) 2 kk_.toNat 15 (-1)).1 2 kk_.toNat 19) + 1)) := cdf_pI hCx75_ (Or.inr (by rw [show cof 2 = 0 from rfl] <;> omega))
            have bx81_ : (-2147483648) ≤ S0_.1 0 (0 + kk_.toNat) 16 ∧ S0_.1 0 (0 + kk_.toNat) 16 ≤ 2147483647 := hI_.1 0 (0 + kk_.toNat) 16 rfl
            refine sm_T_go 6 (c1 := (123, [some (.inr (.inr (some (12, 0)))), some (.inl kk_), some (.inl g_), some (.inl cl_), some (.inr (.inr (some (2, kk_.toNat)))), some (.inl (S0_.2.2.1 35 (0 + kk_.toNat) g_.toNat))], [.inl 1, .inl (S0_.1 0 (0 + kk_.toNat) 16), .inr (.inr (some (0, (0 + kk_.toNat))))], sm_pI (sm_pI (sm_aI S0_ 35 (0 + kk_.toNat) g_.toNat cl_) 2 kk_.toNat 15 (-1)) 2 kk_.toNat 19 (((sm_pI (sm_aI S0_ 35 (0 + kk_.toNat) g_.toNat cl_) 2 kk_.toNat 15 (-1)).1 2 kk_.toNat 19) + 1))) rfl ?_
            refine sm_T_bin (w := (i_add (S0_.1 0 (0 + kk_.toNat) 16) 1)) rfl rfl ?_ -- pc_ 123
            have bx82_ := i_add_r (S0_.1 0 (0 + kk_.toNat) 16) 1
            have hIx83_ : gi (sm_pI (sm_pI (sm_pI (sm_aI S0_ 35 (0 + kk_.toNat) g_.toNat cl_) 2 kk_.toNat 15 (-1)) 2 kk_.toNat 19 (((sm_pI (sm_aI S0_ 35 (0 + kk_.toNat) g_.toNat cl_) 2 kk_.toNat 15 (-1)).1 2 kk_.toNat 19) + 1)) 0 (0 + kk_.toNat) 16 (i_add (S0_.1 0 (0 + kk_.toNat) 16) 1)) := gi_pI hIx78_ (show (-2147483648) ≤ (i_add (S0_.1 0 (0 + kk_.toNat) 16) 1) ∧ (i_add (S0_.1 0 (0 + kk_.toNat) 16) 1) ≤ 2147483647 from ⟨by omega, by omega⟩)
            have hFx84_ : ai_fr (sx_W vw_234m) S0_ (sm_pI (sm_pI (sm_pI (sm_aI S0_ 35 (0 + kk_.toNat) g_.toNat cl_) 2 kk_.toNat 15 (-1)) 2 kk_.toNat 19 (((sm_pI (sm_aI S0_ 35 (0 + kk_.toNat) g_.toNat cl_) 2 kk_.toNat 15 (-1)).1 2 kk_.toNat 19) + 1)) 0 (0 + kk_.toNat) 16 (i_add (S0_.1 0 (0 + kk_.toNat) 16) 1)) := ai_fr_tr hFx79_ (ai_fr_pI rfl)
            have hCx85_ : cdf kk_.toNat S0_ (sm_pI (sm_pI (sm_pI (sm_aI S0_ 35 (0 + kk_.toNat) g_.toNat cl_) 2 kk_.toNat 15 (-1)) 2 kk_.toNat 19 (((sm_pI (sm_aI S0_ 35 (0 + kk_.toNat) g_.toNat cl_) 2 kk_.toNat 15 (-1)).1 2 kk_.toNat 19) + 1)) 0 (0 + kk_.toNat) 16 (i_add (S0_.1 0 (0 + kk_.toNat) 16) 1)) := cdf_pI hCx80_ (Or.inr (by rw [show cof 0 = 0 from rfl] <;> omega))
            refine sm_T_go 4 (c1 := (133, [some (.inr (.inr (some (12, 0)))), some (.inl kk_), some (.inl g_), some (.inl cl_), some (.inr (.inr (some (2, kk_.toNat)))), some (.inl (S0_.2.2.1 35 (0 + kk_.toNat) g_.toNat))], [.inr (.inr (some (2, kk_.toNat))), .inr (.inr (some (9, 0)))], sm_pI (sm_pI (sm_pI (sm_aI S0_ 35 (0 + kk_.toNat) g_.toNat cl_) 2 kk_.toNat 15 (-1)) 2 kk_.toNat 19 (((sm_pI (sm_aI S0_ 35 (0 + kk_.toNat) g_.toNat cl_) 2 kk_.toNat 15 (-1)).1 2 kk_.toNat 19) + 1)) 0 (0 + kk_.toNat) 16 (i_add (S0_.1 0 (0 + kk_.toNat) 16) 1))) rfl ?_
            refine sm_T_cal (d1 := 4) (Q1 := vq_169n kk_.toNat (sm_pI (sm_pI (sm_pI (sm_aI S0_ 35 (0 + kk_.toNat) g_.toNat cl_) 2 kk_.toNat 15 (-1)) 2 kk_.toNat 19 (((sm_pI (sm_aI S0_ 35 (0 + kk_.toNat) g_.toNat cl_) 2 kk_.toNat 15 (-1)).1 2 kk_.toNat 19) + 1)) 0 (0 + kk_.toNat) 16 (i_add (S0_.1 0 (0 + kk_.toNat) 16) 1))) rfl rfl (by decide) (vc_169n kk_.toNat (sm_pI (sm_pI (sm_pI (sm_aI S0_ 35 (0 + kk_.toNat) g_.toNat cl_) 2 kk_.toNat 15 (-1)) 2 kk_.toNat 19 (((sm_pI (sm_aI S0_ 35 (0 + kk_.toNat) g_.toNat cl_) 2 kk_.toNat 15 (-1)).1 2 kk_.toNat 19) + 1)) 0 (0 + kk_.toNat) 16 (i_add (S0_.1 0 (0 + kk_.toNat) 16) 1)) hIx83_ (by (simp only [rf_nk, rf_nt, rd_af, ne_eq, Nat.reduceEqDiff, not_false_eq_true]; omega)) (by (intro z9_; have y9_ := hts_.2 z9_; simp only [rf_eq, rf_nk, rf_nt, rd_af, rd_fa, ne_eq, Nat.reduceEqDiff, not_false_eq_true]; omega))) (fun u_ Sx86_ px89_ => ?_)
            obtain ⟨rfl, hIx87_, hFx88_, px89_⟩ := px89_
            have hFx90_ : ai_fr (sx_W vw_234m) S0_ Sx86_ := ai_fr_tr hFx84_ (fr_le hFx88_ rfl)
            obtain ⟨dx92_, px89_⟩ := px89_
            have hCx91_ : cdf kk_.toNat S0_ Sx86_ := cdf_tr hCx85_ (cdf_cg (by omega) dx92_)
            have p133_ := (px89_).1
            have t133_ := (px89_).2
            have l133_ : Sx86_.1 2 kk_.toNat 19 = ((sm_pI (sm_pI (sm_pI (sm_aI S0_ 35 (0 + kk_.toNat) g_.toNat cl_) 2 kk_.toNat 15 (-1)) 2 kk_.toNat 19 (((sm_pI (sm_aI S0_ 35 (0 + kk_.toNat) g_.toNat cl_) 2 kk_.toNat 15 (-1)).1 2 kk_.toNat 19) + 1)) 0 (0 + kk_.toNat) 16 (i_add (S0_.1 0 (0 + kk_.toNat) 16) 1))).1 2 kk_.toNat 19 := hFx88_.1 2 kk_.toNat 19 rfl
            have m133_ : ((sm_pI (sm_pI (sm_pI (sm_aI S0_ 35 (0 + kk_.toNat) g_.toNat cl_) 2 kk_.toNat 15 (-1)) 2 kk_.toNat 19 (((sm_pI (sm_aI S0_ 35 (0 + kk_.toNat) g_.toNat cl_) 2 kk_.toNat 15 (-1)).1 2 kk_.toNat 19) + 1)) 0 (0 + kk_.toNat) 16 (i_add (S0_.1 0 (0 + kk_.toNat) 16) 1))).1 2 kk_.toNat 19 = S0_.1 2 kk_.toNat 19 + 1 := by (simp only [rf_eq, rf_nk, rf_nt, rd_af, rd_fa, ne_eq, Nat.reduceEqDiff, not_false_eq_true]; try rfl)
            have r133_ : Sx86_.2.2.1 35 (0 + kk_.toNat) = ((sm_pI (sm_pI (sm_pI (sm_aI S0_ 35 (0 + kk_.toNat) g_.toNat cl_) 2 kk_.toNat 15 (-1)) 2 kk_.toNat 19 (((sm_pI (sm_aI S0_ 35 (0 + kk_.toNat) g_.toNat cl_) 2 kk_.toNat 15 (-1)).1 2 kk_.toNat 19) + 1)) 0 (0 + kk_.toNat) 16 (i_add (S0_.1 0 (0 + kk_.toNat) 16) 1))).2.2.1 35 (0 + kk_.toNat) := fr_arr (t := 35) (i := 0 + kk_.toNat) hFx88_ rfl
            refine sm_T_go 1 (c1 := (138, [some (.inr (.inr (some (12, 0)))), some (.inl kk_), some (.inl g_), some (.inl cl_), some (.inr (.inr (some (2, kk_.toNat)))), some (.inl (S0_.2.2.1 35 (0 + kk_.toNat) g_.toNat))], [.inl (S0_.2.2.1 35 (0 + kk_.toNat) g_.toNat)], Sx86_)) rfl ?_
            refine sm_T_ri rfl (Or.inl ⟨_, _, rfl, _, rfl, hIx87_, hFx90_, ?_⟩)
            refine ⟨hCx91_, ?_⟩
            refine ⟨⟨⟨t133_.2.2, t133_.1.2, t133_.1.1.trans l133_.symm⟩, l133_.trans m133_⟩, ?_, by (unfold okc_alter oka_alter; omega), rfl, fun j_ => by (rw [r133_]; (try simp only [rd_eq, rd_ne, rf_eq, rf_nk, rf_nt, rd_fa, rd_af, ne_eq, Nat.reduceEqDiff, not_false_eq_true]); try rfl)⟩; exact ⟨dAll_fr hJ_.1 hFx90_ (by decide) (by decide), cAll_cd hJ_.2.1 hCx91_ (fun _ => cOk_tb J9_ hFx90_ (by decide) (by decide) (by decide) p133_), tpo_fr hJ_.2.2.1 hFx90_, shn_fr hJ_.2.2.2 hFx90_⟩
