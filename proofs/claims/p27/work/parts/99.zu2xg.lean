/-! the reference: proves; written by wip/p55/gen/vg -/

def ora_proves (a1_ a2_ : Int) (S_ : sm_S) : Prop := (0 ≤ a1_ ∧ a1_ < 4 ∧ S_.2.2.1 222 0 a1_.toNat = 1) ∧ (0 ≤ a2_ ∧ a2_ < 6 ∧ S_.2.2.1 153 0 a2_.toNat = 1)
def okr_proves (a1_ a2_ : Int) (S_ : sm_S) : Prop := ora_proves a1_ a2_ S_ ∧ (S_.2.2.1 223 0 a1_.toNat = S_.2.2.1 154 0 a2_.toNat ∧ S_.2.2.1 225 0 a1_.toNat = S_.2.2.1 156 0 a2_.toNat)
def spr_proves (a1_ a2_ : Int) (S_ : sm_S) (v_ : Int) : Prop := ∃ oA_ nA_ : Nat → Int, (∀ p9_ : Nat, p9_ < 2 ^ ((S_.2.2.1 223 0 a1_.toNat).toNat + (S_.2.2.1 224 0 a1_.toNat).toNat) → ∃ u9_ : Nat → Bool, rcvq a1_ S_ p9_ u9_ ∧ oA_ p9_ = tbv (revq a1_ S_ u9_) (S_.2.2.1 225 0 a1_.toNat).toNat ∧ nA_ p9_ = tbv (rexq a1_ S_ u9_) (S_.2.2.1 224 0 a1_.toNat).toNat) ∧ bfsp (S_.2.2.1 223 0 a1_.toNat).toNat (neD oA_ (fun p_ => S_.2.2.1 169 0 (4096 * a2_.toNat + p_))) nA_ (fun p_ => S_.2.2.1 170 0 (4096 * a2_.toNat + p_)) (S_.2.2.1 226 0 a1_.toNat).toNat (S_.2.2.1 157 0 a2_.toNat).toNat v_
/-! M_.proves -/
def vw_435t : sx_Wl := ([(13, 0), (13, 95)], [189, 190, 191, 192, 193, 194, 195, 196, 197, 198, 238], [])
def vq_435t (a1_ : Int) (a2_ : Int) (S0_ : sm_S) (u_ : Option sm_V) (S1_ : sm_S) : Prop := ∃ v_ : Int, u_ = some (.inl v_) ∧ gi S1_ ∧ ai_fr (sx_W vw_435t) S0_ S1_ ∧ (((-2147483648) ≤ v_ ∧ v_ ≤ 2147483647) ∧ (jR S1_ ∧ ((S1_.1 13 0 0 = 1 ∧ ¬ ora_proves a1_ a2_ S0_) ∨ (S1_.1 13 0 0 = 2 ∧ ora_proves a1_ a2_ S0_ ∧ ¬ okr_proves a1_ a2_ S0_) ∨ (S1_.1 13 0 0 = 0 ∧ okr_proves a1_ a2_ S0_ ∧ spr_proves a1_ a2_ S0_ v_))))
set_option maxHeartbeats 400000 in
set_option maxRecDepth 20000 in
theorem vc_435t {sc_ : Nat × (Nat → Int)} (a1_ : Int) (a2_ : Int) (S0_ : sm_S) (hI_ : gi S0_) (ha1_ : (-2147483648) ≤ a1_ ∧ a1_ ≤ 2147483647) (ha2_ : (-2147483648) ≤ a2_ ∧ a2_ ≤ 2147483647) (hJ_ : jR S0_) : sm_T (mt_P sc_) 3 435 (0, [some (.inr (.inr (some (13, 0)))), some (.inl a1_), some (.inl a2_)], [], S0_) (fun ro9_ => ∃ u_ S1_, ro9_ = (.inl u_, S1_, 0) ∧ vq_435t a1_ a2_ S0_ u_ S1_) := by
  have hF_ : ai_fr (sx_W vw_435t) S0_ S0_ := ai_fr_rf
  refine sm_T_go 3 (c1 := (3, [some (.inr (.inr (some (13, 0)))), some (.inl a1_), some (.inl a2_)], [.inl a1_, .inr (.inr (some (13, 0))), .inr (.inr (some (13, 0)))], S0_)) rfl ?_
  refine sm_T_cal (d1 := 0) (Q1 := vq_371 a1_ S0_) rfl rfl (by decide) (vc_371 a1_ S0_ hI_ (by omega)) (fun u_ Sx1_ px4_ => ?_)
  obtain ⟨rfl, vx6_, rfl, px4_⟩ := px4_
  have d3_ := px4_
  refine sm_T_b0 (a := 0) (z := 11) rfl (fun cx7_ => ?_) (fun cx7_ => ?_)
  · have cx7_ : vx6_ = 0 := of_decide_eq_true cx7_
    have hIx8_ : gi (sm_pI S0_ 13 0 0 1) := gi_pI hI_ (show 0 ≤ 1 ∧ 1 ≤ 4 from ⟨by omega, by omega⟩)
    have hFx9_ : ai_fr (sx_W vw_435t) S0_ (sm_pI S0_ 13 0 0 1) := ai_fr_tr hF_ (ai_fr_pI rfl)
    refine sm_T_go 7 (c1 := (67, [some (.inr (.inr (some (13, 0)))), some (.inl a1_), some (.inl a2_)], [.inl 0], sm_pI S0_ 13 0 0 1)) rfl ?_
    refine sm_T_ri rfl ⟨_, _, rfl, _, rfl, hIx8_, hFx9_, ?_⟩
    refine ⟨⟨by omega, by omega⟩, jR_fr hJ_ hIx8_ hFx9_, ?_⟩
    first | exact Or.inl ⟨rf_eq, by (unfold ora_proves; omega)⟩ | exact Or.inr (Or.inl ⟨rf_eq, by (unfold ora_proves; omega), by (unfold okr_proves ora_proves; omega)⟩) | exact Or.inr (Or.inr ⟨cd97_, by (unfold okr_proves ora_proves; omega), sr97_⟩)
  · have cx7_ : ¬ (vx6_ = 0) := of_decide_eq_false cx7_
    refine sm_T_go 2 (c1 := (11, [some (.inr (.inr (some (13, 0)))), some (.inl a1_), some (.inl a2_)], [.inl a2_, .inr (.inr (some (13, 0))), .inr (.inr (some (13, 0)))], S0_)) rfl ?_
    refine sm_T_cal (d1 := 0) (Q1 := vq_369 a2_ S0_) rfl rfl (by decide) (vc_369 a2_ S0_ hI_ (by omega)) (fun u_ Sx10_ px13_ => ?_)
    obtain ⟨rfl, vx15_, rfl, px13_⟩ := px13_
    have d11_ := px13_
    refine sm_T_b0 (a := 1) (z := 7) rfl (fun cx16_ => ?_) (fun cx16_ => ?_)
    · have cx16_ : vx15_ ≠ 0 := of_decide_eq_true cx16_
      refine sm_T_go 3 (c1 := (26, [some (.inr (.inr (some (13, 0)))), some (.inl a1_), some (.inl a2_)], [.inl a1_, .inr (.inr (some (223, 0))), .inr (.inr (some (13, 0)))], S0_)) rfl ?_
      refine sm_T_iald (n := 4) rfl rfl (by omega) (by omega) ?_
      have bx17_ : 0 ≤ S0_.2.2.1 223 0 a1_.toNat ∧ S0_.2.2.1 223 0 a1_.toNat ≤ 12 := hI_.2 223 0 _
      refine sm_T_go 3 (c1 := (32, [some (.inr (.inr (some (13, 0)))), some (.inl a1_), some (.inl a2_)], [.inl a2_, .inr (.inr (some (154, 0))), .inl (S0_.2.2.1 223 0 a1_.toNat), .inr (.inr (some (13, 0)))], S0_)) rfl ?_
      refine sm_T_iald (n := 6) rfl rfl (by omega) (by omega) ?_
      have bx18_ : 0 ≤ S0_.2.2.1 154 0 a2_.toNat ∧ S0_.2.2.1 154 0 a2_.toNat ≤ 12 := hI_.2 154 0 _
      refine sm_T_br (a := 1) (z := 18) rfl (fun cx19_ => ?_) (fun cx19_ => ?_)
      · have cx19_ : (S0_.2.2.1 223 0 a1_.toNat) ≠ (S0_.2.2.1 154 0 a2_.toNat) := of_decide_eq_true cx19_
        have hIx20_ : gi (sm_pI S0_ 13 0 0 2) := gi_pI hI_ (show 0 ≤ 2 ∧ 2 ≤ 4 from ⟨by omega, by omega⟩)
        have hFx21_ : ai_fr (sx_W vw_435t) S0_ (sm_pI S0_ 13 0 0 2) := ai_fr_tr hF_ (ai_fr_pI rfl)
        refine sm_T_go 7 (c1 := (67, [some (.inr (.inr (some (13, 0)))), some (.inl a1_), some (.inl a2_)], [.inl 0], sm_pI S0_ 13 0 0 2)) rfl ?_
        refine sm_T_ri rfl ⟨_, _, rfl, _, rfl, hIx20_, hFx21_, ?_⟩
        refine ⟨⟨by omega, by omega⟩, jR_fr hJ_ hIx20_ hFx21_, ?_⟩
        first | exact Or.inl ⟨rf_eq, by (unfold ora_proves; omega)⟩ | exact Or.inr (Or.inl ⟨rf_eq, by (unfold ora_proves; omega), by (unfold okr_proves ora_proves; omega)⟩) | exact Or.inr (Or.inr ⟨cd97_, by (unfold okr_proves ora_proves; omega), sr97_⟩)
      · have cx19_ : ¬ ((S0_.2.2.1 223 0 a1_.toNat) ≠ (S0_.2.2.1 154 0 a2_.toNat)) := of_decide_eq_false cx19_
        refine sm_T_go 3 (c1 := (41, [some (.inr (.inr (some (13, 0)))), some (.inl a1_), some (.inl a2_)], [.inl a1_, .inr (.inr (some (225, 0))), .inr (.inr (some (13, 0)))], S0_)) rfl ?_
        refine sm_T_iald (n := 4) rfl rfl (by omega) (by omega) ?_
        have bx22_ : 0 ≤ S0_.2.2.1 225 0 a1_.toNat ∧ S0_.2.2.1 225 0 a1_.toNat ≤ 16 := hI_.2 225 0 _
        refine sm_T_go 3 (c1 := (47, [some (.inr (.inr (some (13, 0)))), some (.inl a1_), some (.inl a2_)], [.inl a2_, .inr (.inr (some (156, 0))), .inl (S0_.2.2.1 225 0 a1_.toNat), .inr (.inr (some (13, 0)))], S0_)) rfl ?_
        refine sm_T_iald (n := 6) rfl rfl (by omega) (by omega) ?_
        have bx23_ : 0 ≤ S0_.2.2.1 156 0 a2_.toNat ∧ S0_.2.2.1 156 0 a2_.toNat ≤ 16 := hI_.2 156 0 _
        refine sm_T_br (a := 0) (z := 7) rfl (fun cx24_ => ?_) (fun cx24_ => ?_)
        · have cx24_ : (S0_.2.2.1 225 0 a1_.toNat) = (S0_.2.2.1 156 0 a2_.toNat) := of_decide_eq_true cx24_
          have K9_ : cRk a1_ S0_ := hJ_.2 a1_ (by omega) (by omega) (by omega)
          obtain ⟨K1_, K2_, K3_, K4_, K5_, K6_, K7_⟩ := K9_
          have c24_ : 0 ≤ S0_.2.2.1 224 0 a1_.toNat ∧ S0_.2.2.1 224 0 a1_.toNat ≤ 6 := hI_.2 224 0 _
          have c26_ : 0 ≤ S0_.2.2.1 226 0 a1_.toNat := (hI_.2 226 0 _).1
          have Da2_ : dRk a2_.toNat S0_ := hJ_.1 a2_.toNat (by omega) (by omega)
          obtain ⟨Ja21_, Ja22_, Ja23_, Ja24_⟩ := dRk_b Da2_
          have hIx25_ : gi (sm_pI S0_ 13 0 0 0) := gi_pI hI_ (show 0 ≤ 0 ∧ 0 ≤ 4 from ⟨by omega, by omega⟩)
          have hFx26_ : ai_fr (sx_W vw_435t) S0_ (sm_pI S0_ 13 0 0 0) := ai_fr_tr hF_ (ai_fr_pI rfl)
          refine sm_T_go 7 (c1 := (70, [some (.inr (.inr (some (13, 0)))), some (.inl a1_), some (.inl a2_)], [.inl a1_, .inr (.inr (some (13, 0)))], sm_pI S0_ 13 0 0 0)) rfl ?_
          refine sm_T_cal (d1 := 2) (Q1 := vq_432n a1_ (sm_pI S0_ 13 0 0 0)) rfl rfl (by decide) (vc_432n a1_ (sm_pI S0_ 13 0 0 0) hIx25_ (by omega) (by exact K1_) (by exact K4_) (by exact K5_)) (fun u_ Sx27_ px30_ => ?_)
          obtain ⟨rfl, hIx28_, hFx29_, px30_⟩ := px30_
          have hFx31_ : ai_fr (sx_W vw_435t) S0_ Sx27_ := ai_fr_tr hFx26_ (fr_le hFx29_ rfl)
          have t70_ := (px30_).1
          have q70_ := (px30_).2
          have cd70_ : Sx27_.1 13 0 0 = 0 := (hFx29_.1 13 0 0 rfl).trans rf_eq
          have u70_ : Sx27_.2.2.1 169 0 = S0_.2.2.1 169 0 := fr_arr hFx31_ rfl
          have u71_ : Sx27_.2.2.1 170 0 = S0_.2.2.1 170 0 := fr_arr hFx31_ rfl
          have g154_ : Sx27_.2.2.1 154 0 = S0_.2.2.1 154 0 := fr_arr hFx31_ rfl
          have g155_ : Sx27_.2.2.1 155 0 = S0_.2.2.1 155 0 := fr_arr hFx31_ rfl
          refine sm_T_go 2 (c1 := (75, [some (.inr (.inr (some (13, 0)))), some (.inl a1_), some (.inl a2_)], [.inl a2_, .inr (.inr (some (13, 0)))], Sx27_)) rfl ?_
          refine sm_T_cal (d1 := 0) (Q1 := vq_388w a2_ Sx27_) rfl rfl (by decide) (vc_388w a2_ Sx27_ hIx28_ (by omega) (by exact dRk_fr Da2_ hFx31_ (by decide))) (fun u_ Sx32_ px35_ => ?_)
          obtain ⟨rfl, hIx33_, hFx34_, px35_⟩ := px35_
          have hFx36_ : ai_fr (sx_W vw_435t) S0_ Sx32_ := ai_fr_tr hFx31_ (fr_le hFx34_ rfl)
          have t75_ := (px35_).1
          have l75_ := (px35_).2
          rw [g154_, g155_] at t75_ l75_
          rw [u70_, u71_] at l75_
          have m75_ : Sx32_.2.2.1 190 0 = _ := fr_arr hFx34_ rfl
          have n75_ : Sx32_.2.2.1 191 0 = _ := fr_arr hFx34_ rfl
          have cd75_ : Sx32_.1 13 0 0 = 0 := (hFx34_.1 13 0 0 rfl).trans cd70_
          have y223_ : Sx32_.2.2.1 223 0 a1_.toNat = S0_.2.2.1 223 0 a1_.toNat := congrFun (fr_arr hFx36_ rfl) _
          have y224_ : Sx32_.2.2.1 224 0 a1_.toNat = S0_.2.2.1 224 0 a1_.toNat := congrFun (fr_arr hFx36_ rfl) _
          have y226_ : Sx32_.2.2.1 226 0 a1_.toNat = S0_.2.2.1 226 0 a1_.toNat := congrFun (fr_arr hFx36_ rfl) _
          have ea2154_ : Sx32_.2.2.1 154 0 a2_.toNat = S0_.2.2.1 154 0 a2_.toNat := congrFun (fr_arr hFx36_ rfl) _
          have ea2155_ : Sx32_.2.2.1 155 0 a2_.toNat = S0_.2.2.1 155 0 a2_.toNat := congrFun (fr_arr hFx36_ rfl) _
          have ea2157_ : Sx32_.2.2.1 157 0 a2_.toNat = S0_.2.2.1 157 0 a2_.toNat := congrFun (fr_arr hFx36_ rfl) _
          refine sm_T_go 4 (c1 := (84, [some (.inr (.inr (some (13, 0)))), some (.inl a1_), some (.inl a2_)], [.inl a1_, .inr (.inr (some (223, 0))), .inr (.inr (some (13, 0)))], Sx32_)) rfl ?_
          refine sm_T_iald (n := 4) rfl rfl (by omega) (by omega) ?_
          have bx37_ : 0 ≤ Sx32_.2.2.1 223 0 a1_.toNat ∧ Sx32_.2.2.1 223 0 a1_.toNat ≤ 12 := hIx33_.2 223 0 _
          refine sm_T_go 3 (c1 := (90, [some (.inr (.inr (some (13, 0)))), some (.inl a1_), some (.inl a2_)], [.inl a1_, .inr (.inr (some (226, 0))), .inl (Sx32_.2.2.1 223 0 a1_.toNat), .inr (.inr (some (13, 0)))], Sx32_)) rfl ?_
          refine sm_T_iald (n := 4) rfl rfl (by omega) (by omega) ?_
          have bx38_ : 0 ≤ Sx32_.2.2.1 226 0 a1_.toNat ∧ Sx32_.2.2.1 226 0 a1_.toNat ≤ 63 := hIx33_.2 226 0 _
          refine sm_T_go 3 (c1 := (96, [some (.inr (.inr (some (13, 0)))), some (.inl a1_), some (.inl a2_)], [.inl a2_, .inr (.inr (some (157, 0))), .inl (Sx32_.2.2.1 226 0 a1_.toNat), .inl (Sx32_.2.2.1 223 0 a1_.toNat), .inr (.inr (some (13, 0)))], Sx32_)) rfl ?_
          refine sm_T_iald (n := 6) rfl rfl (by omega) (by omega) ?_
          have bx39_ : 0 ≤ Sx32_.2.2.1 157 0 a2_.toNat ∧ Sx32_.2.2.1 157 0 a2_.toNat ≤ 63 := hIx33_.2 157 0 _
          refine sm_T_cal (d1 := 1) (Q1 := vq_386w (Sx32_.2.2.1 223 0 a1_.toNat) (Sx32_.2.2.1 226 0 a1_.toNat) (Sx32_.2.2.1 157 0 a2_.toNat) (S0_.2.2.1 224 0 a1_.toNat).toNat (S0_.2.2.1 155 0 a2_.toNat).toNat Sx32_) rfl rfl (by decide) (vc_386w (Sx32_.2.2.1 223 0 a1_.toNat) (Sx32_.2.2.1 226 0 a1_.toNat) (Sx32_.2.2.1 157 0 a2_.toNat) (S0_.2.2.1 224 0 a1_.toNat).toNat (S0_.2.2.1 155 0 a2_.toNat).toNat Sx32_ hIx33_ (by omega) (by (rw [y226_]; exact ⟨by omega, K2_⟩)) (by (rw [ea2157_]; exact Ja22_)) (by (rw [y223_, n75_]; exact t70_)) (by (rw [y223_, show S0_.2.2.1 223 0 a1_.toNat = S0_.2.2.1 154 0 a2_.toNat by omega]; exact t75_))) (fun u_ Sx40_ px43_ => ?_)
          obtain ⟨vx45_, rfl, hIx41_, hFx42_, px43_⟩ := px43_
          have hFx44_ : ai_fr (sx_W vw_435t) S0_ Sx40_ := ai_fr_tr hFx36_ (fr_le hFx42_ rfl)
          have b97_ := (px43_).1
          have cd97_ : Sx40_.1 13 0 0 = 0 := (hFx42_.1 13 0 0 rfl).trans cd75_
          have sr97_ : spr_proves a1_ a2_ S0_ vx45_ := by (have z9_ := (px43_).2; rw [y223_, y226_, ea2157_] at z9_; exact ⟨Sx32_.2.2.1 190 0, Sx32_.2.2.1 191 0, fun p9_ hp9_ => (by (obtain ⟨u9_, x1_, x2_, x3_⟩ := q70_ p9_ hp9_; exact ⟨u9_, x1_, (by (rw [m75_]; exact x2_)), (by (rw [n75_]; exact x3_))⟩)), bfsp_cg (RA_ := (S0_.2.2.1 224 0 a1_.toNat).toNat) (RB_ := (S0_.2.2.1 155 0 a2_.toNat).toNat) (fun p9_ hp9_ => ⟨rfl, by (rw [n75_]; exact t70_ p9_ hp9_)⟩) (fun p9_ hp9_ => by (rw [show S0_.2.2.1 223 0 a1_.toNat = S0_.2.2.1 154 0 a2_.toNat by omega] at hp9_; exact ⟨(l75_ p9_ hp9_).2.symm, t75_ p9_ hp9_⟩)) ⟨pw_tn c26_ K2_, pw_tn Ja22_.1 Ja22_.2⟩ (fun p9_ q9_ hp9_ hq9_ => by (rw [show S0_.2.2.1 223 0 a1_.toNat = S0_.2.2.1 154 0 a2_.toNat by omega] at hq9_; unfold neD; rw [(l75_ q9_ hq9_).1])) z9_⟩)
          refine sm_T_ri rfl ⟨_, _, rfl, _, rfl, hIx41_, hFx44_, ?_⟩
          refine ⟨⟨by omega, by omega⟩, jR_fr hJ_ hIx41_ hFx44_, ?_⟩
          first | exact Or.inl ⟨rf_eq, by (unfold ora_proves; omega)⟩ | exact Or.inr (Or.inl ⟨rf_eq, by (unfold ora_proves; omega), by (unfold okr_proves ora_proves; omega)⟩) | exact Or.inr (Or.inr ⟨cd97_, by (unfold okr_proves ora_proves; omega), sr97_⟩)
        · have cx24_ : ¬ ((S0_.2.2.1 225 0 a1_.toNat) = (S0_.2.2.1 156 0 a2_.toNat)) := of_decide_eq_false cx24_
          have hIx46_ : gi (sm_pI S0_ 13 0 0 2) := gi_pI hI_ (show 0 ≤ 2 ∧ 2 ≤ 4 from ⟨by omega, by omega⟩)
          have hFx47_ : ai_fr (sx_W vw_435t) S0_ (sm_pI S0_ 13 0 0 2) := ai_fr_tr hF_ (ai_fr_pI rfl)
          refine sm_T_go 7 (c1 := (67, [some (.inr (.inr (some (13, 0)))), some (.inl a1_), some (.inl a2_)], [.inl 0], sm_pI S0_ 13 0 0 2)) rfl ?_
          refine sm_T_ri rfl ⟨_, _, rfl, _, rfl, hIx46_, hFx47_, ?_⟩
          refine ⟨⟨by omega, by omega⟩, jR_fr hJ_ hIx46_ hFx47_, ?_⟩
          first | exact Or.inl ⟨rf_eq, by (unfold ora_proves; omega)⟩ | exact Or.inr (Or.inl ⟨rf_eq, by (unfold ora_proves; omega), by (unfold okr_proves ora_proves; omega)⟩) | exact Or.inr (Or.inr ⟨cd97_, by (unfold okr_proves ora_proves; omega), sr97_⟩)
    · have cx16_ : ¬ (vx15_ ≠ 0) := of_decide_eq_false cx16_
      have hIx48_ : gi (sm_pI S0_ 13 0 0 1) := gi_pI hI_ (show 0 ≤ 1 ∧ 1 ≤ 4 from ⟨by omega, by omega⟩)
      have hFx49_ : ai_fr (sx_W vw_435t) S0_ (sm_pI S0_ 13 0 0 1) := ai_fr_tr hF_ (ai_fr_pI rfl)
      refine sm_T_go 7 (c1 := (67, [some (.inr (.inr (some (13, 0)))), some (.inl a1_), some (.inl a2_)], [.inl 0], sm_pI S0_ 13 0 0 1)) rfl ?_
      refine sm_T_ri rfl ⟨_, _, rfl, _, rfl, hIx48_, hFx49_, ?_⟩
      refine ⟨⟨by omega, by omega⟩, jR_fr hJ_ hIx48_ hFx49_, ?_⟩
      first | exact Or.inl ⟨rf_eq, by (unfold ora_proves; omega)⟩ | exact Or.inr (Or.inl ⟨rf_eq, by (unfold ora_proves; omega), by (unfold okr_proves ora_proves; omega)⟩) | exact Or.inr (Or.inr ⟨cd97_, by (unfold okr_proves ora_proves; omega), sr97_⟩)
