/-! ChipFlow.falsify -/
def vw_254 : sx_Wl := ([(0, 16), (2, 14)], [39], [])
def vq_254 (kk_ : Int) (n_ : Int) (e_ : Int) (S0_ : sm_S) (u_ : Option sm_V) (S1_ : sm_S) : Prop := ∃ v_ : Int, u_ = some (.inl v_) ∧ gi S1_ ∧ ai_fr (sx_W vw_254) S0_ S1_ ∧ (jC S1_)
def vx_254 (kk_ : Int) (n_ : Int) (e_ : Int) (S0_ : sm_S) (S1_ : sm_S) : Prop := gi S1_ ∧ ai_fr (sx_W vw_254) S0_ S1_ ∧ (S1_ = S0_)
set_option maxHeartbeats 400000 in
theorem vc_254 {sc_ : Nat × (Nat → Int)} (kk_ : Int) (n_ : Int) (e_ : Int) (S0_ : sm_S) (hI_ : gi S0_) (hJ_ : jC S0_) : sm_T (mt_P sc_) 2 254 (0, [some (.inr (.inr (some (12, 0)))), some (.inl kk_), some (.inl n_), some (.inl e_), none], [], S0_) (fun ro9_ => (∃ u_ S1_, ro9_ = (.inl u_, S1_, 0) ∧ vq_254 kk_ n_ e_ S0_ u_ S1_) ∨ ∃ ex_ S1_, ro9_ = (.inr ex_, S1_, 1) ∧ ex_ ∈ ([0, 3] : List Nat) ∧ vx_254 kk_ n_ e_ S0_ S1_) := by
  have hF_ : ai_fr (sx_W vw_254) S0_ S0_ := ai_fr_rf
  refine sm_T_go 2 (c1 := (2, [some (.inr (.inr (some (12, 0)))), some (.inl kk_), some (.inl n_), some (.inl e_), none], [.inl kk_, .inr (.inr (some (12, 0)))], S0_)) rfl ?_
  refine sm_T_cale (d1_ := 1) (Q1_ := vq_272 kk_ S0_) (Q2_ := (fun ex_ S1_ => ex_ ∈ ([0] : List Nat) ∧ vx_272 kk_ S0_ S1_)) rfl rfl (by decide) (vc_272 kk_ S0_ hI_ ) rfl (fun xx6_ Sx1_ px4_ => ?_) (fun u_ Sx1_ px4_ => ?_)
  · obtain ⟨px4m, hIx2_, hFx3_, px4_⟩ := px4_
    refine Or.inr ⟨_, _, rfl, by first | exact px4m | (simp only [List.mem_cons, List.not_mem_nil, or_false] at px4m ⊢; omega), hIx2_, ai_fr_tr hF_ (fr_le hFx3_ rfl), ?_⟩
    first | exact px4_.2 | exact px4_ | rfl
  obtain ⟨rfl, -, -, rfl, px4_⟩ := px4_
  have a9_ := px4_
  have J9_ := hJ_.2.1 kk_.toNat (by omega) a9_.2
  have J1_ := J9_.1
  have q9_ := a9_.2
  have c8_ : 0 ≤ S0_.1 2 (kk_.toNat) 8 ∧ S0_.1 2 (kk_.toNat) 8 ≤ 150 := hI_.1 2 (kk_.toNat) 8 rfl
  have c1_ : 0 ≤ S0_.1 2 (kk_.toNat) 1 ∧ S0_.1 2 (kk_.toNat) 1 ≤ 12 := hI_.1 2 (kk_.toNat) 1 rfl
  have c2_ : 0 ≤ S0_.1 2 (kk_.toNat) 2 ∧ S0_.1 2 (kk_.toNat) 2 ≤ 6 := hI_.1 2 (kk_.toNat) 2 rfl
  refine sm_T_go 2 (c1 := (8, [some (.inr (.inr (some (12, 0)))), some (.inl kk_), some (.inl n_), some (.inl e_), some (.inr (.inr (some (2, kk_.toNat))))], [.inl n_], S0_)) rfl ?_
  refine sm_T_b0 (a := 2) (z := 16) rfl (fun cx7_ => ?_) (fun cx7_ => ?_)
  · have cx7_ : n_ < 0 := of_decide_eq_true cx7_
    refine sm_T_go 1 (c1 := (25, [some (.inr (.inr (some (12, 0)))), some (.inl kk_), some (.inl n_), some (.inl e_), some (.inr (.inr (some (2, kk_.toNat))))], [.inl 0], S0_)) rfl ?_
    refine sm_T_cale (d1_ := 0) (Q1_ := vq_265e 0 S0_) (Q2_ := (fun ex_ S1_ => ex_ ∈ ([0] : List Nat) ∧ vx_265e 0 S0_ S1_)) rfl rfl (by decide) (vc_265e 0 S0_ hI_ ) rfl (fun xx13_ Sx8_ px11_ => ?_) (fun u_ Sx8_ px11_ => ?_)
    · obtain ⟨px11m, hIx9_, hFx10_, px11_⟩ := px11_
      refine Or.inr ⟨_, _, rfl, by first | exact px11m | (simp only [List.mem_cons, List.not_mem_nil, or_false] at px11m ⊢; omega), hIx9_, ai_fr_tr hF_ (fr_le hFx10_ rfl), ?_⟩
      first | exact px11_.2 | exact px11_ | rfl
    · exact absurd rfl px11_.2.2.2.1
  · have cx7_ : ¬ (n_ < 0) := of_decide_eq_false cx7_
    refine sm_T_go 2 (c1 := (14, [some (.inr (.inr (some (12, 0)))), some (.inl kk_), some (.inl n_), some (.inl e_), some (.inr (.inr (some (2, kk_.toNat))))], [.inr (.inr (some (2, kk_.toNat))), .inl n_], S0_)) rfl ?_
    refine sm_T_cal (d1 := 0) (Q1 := vq_54 kk_.toNat S0_) rfl rfl (by decide) (vc_54 kk_.toNat S0_ hI_ ) (fun u_ Sx14_ px17_ => ?_)
    obtain ⟨rfl, vx19_, rfl, px17_⟩ := px17_
    refine sm_T_br (a := 3) (z := 7) rfl (fun cx20_ => ?_) (fun cx20_ => ?_)
    · have cx20_ : vx19_ ≤ n_ := of_decide_eq_true cx20_
      refine sm_T_go 1 (c1 := (25, [some (.inr (.inr (some (12, 0)))), some (.inl kk_), some (.inl n_), some (.inl e_), some (.inr (.inr (some (2, kk_.toNat))))], [.inl 0], S0_)) rfl ?_
      refine sm_T_cale (d1_ := 0) (Q1_ := vq_265e 0 S0_) (Q2_ := (fun ex_ S1_ => ex_ ∈ ([0] : List Nat) ∧ vx_265e 0 S0_ S1_)) rfl rfl (by decide) (vc_265e 0 S0_ hI_ ) rfl (fun xx26_ Sx21_ px24_ => ?_) (fun u_ Sx21_ px24_ => ?_)
      · obtain ⟨px24m, hIx22_, hFx23_, px24_⟩ := px24_
        refine Or.inr ⟨_, _, rfl, by first | exact px24m | (simp only [List.mem_cons, List.not_mem_nil, or_false] at px24m ⊢; omega), hIx22_, ai_fr_tr hF_ (fr_le hFx23_ rfl), ?_⟩
        first | exact px24_.2 | exact px24_ | rfl
      · exact absurd rfl px24_.2.2.2.1
    · have cx20_ : ¬ (vx19_ ≤ n_) := of_decide_eq_false cx20_
      refine sm_T_go 2 (c1 := (25, [some (.inr (.inr (some (12, 0)))), some (.inl kk_), some (.inl n_), some (.inl e_), some (.inr (.inr (some (2, kk_.toNat))))], [.inl 1], S0_)) rfl ?_
      refine sm_T_cale (d1_ := 0) (Q1_ := vq_265e 1 S0_) (Q2_ := (fun ex_ S1_ => ex_ ∈ ([0] : List Nat) ∧ vx_265e 1 S0_ S1_)) rfl rfl (by decide) (vc_265e 1 S0_ hI_ ) rfl (fun xx32_ Sx27_ px30_ => ?_) (fun u_ Sx27_ px30_ => ?_)
      · exact absurd px30_.2.2.2.1 (by decide)
      obtain ⟨rfl, -, -, px30_, rfl⟩ := px30_
      refine sm_T_go 1 (c1 := (29, [some (.inr (.inr (some (12, 0)))), some (.inl kk_), some (.inl n_), some (.inl e_), some (.inr (.inr (some (2, kk_.toNat))))], [.inl e_], S0_)) rfl ?_
      refine sm_T_b0 (a := 2) (z := 25) rfl (fun cx33_ => ?_) (fun cx33_ => ?_)
      · have cx33_ : e_ < 0 := of_decide_eq_true cx33_
        refine sm_T_go 1 (c1 := (55, [some (.inr (.inr (some (12, 0)))), some (.inl kk_), some (.inl n_), some (.inl e_), some (.inr (.inr (some (2, kk_.toNat))))], [.inl 0], S0_)) rfl ?_
        refine sm_T_cale (d1_ := 0) (Q1_ := vq_265e 0 S0_) (Q2_ := (fun ex_ S1_ => ex_ ∈ ([0] : List Nat) ∧ vx_265e 0 S0_ S1_)) rfl rfl (by decide) (vc_265e 0 S0_ hI_ ) rfl (fun xx39_ Sx34_ px37_ => ?_) (fun u_ Sx34_ px37_ => ?_)
        · obtain ⟨px37m, hIx35_, hFx36_, px37_⟩ := px37_
          refine Or.inr ⟨_, _, rfl, by first | exact px37m | (simp only [List.mem_cons, List.not_mem_nil, or_false] at px37m ⊢; omega), hIx35_, ai_fr_tr hF_ (fr_le hFx36_ rfl), ?_⟩
          first | exact px37_.2 | exact px37_ | rfl
        · exact absurd rfl px37_.2.2.2.1
      · have cx33_ : ¬ (e_ < 0) := of_decide_eq_false cx33_
        refine sm_T_go 2 (c1 := (35, [some (.inr (.inr (some (12, 0)))), some (.inl kk_), some (.inl n_), some (.inl e_), some (.inr (.inr (some (2, kk_.toNat))))], [.inr (.inr (some (2, kk_.toNat))), .inl e_], S0_)) rfl ?_
        refine sm_T_cal (d1 := 0) (Q1 := vq_57 kk_.toNat S0_) rfl rfl (by decide) (vc_57 kk_.toNat S0_ hI_ ) (fun u_ Sx40_ px43_ => ?_)
        obtain ⟨rfl, vx45_, rfl, px43_⟩ := px43_
        refine sm_T_br (a := 3) (z := 16) rfl (fun cx46_ => ?_) (fun cx46_ => ?_)
        · have cx46_ : vx45_ ≤ e_ := of_decide_eq_true cx46_
          refine sm_T_go 1 (c1 := (55, [some (.inr (.inr (some (12, 0)))), some (.inl kk_), some (.inl n_), some (.inl e_), some (.inr (.inr (some (2, kk_.toNat))))], [.inl 0], S0_)) rfl ?_
          refine sm_T_cale (d1_ := 0) (Q1_ := vq_265e 0 S0_) (Q2_ := (fun ex_ S1_ => ex_ ∈ ([0] : List Nat) ∧ vx_265e 0 S0_ S1_)) rfl rfl (by decide) (vc_265e 0 S0_ hI_ ) rfl (fun xx52_ Sx47_ px50_ => ?_) (fun u_ Sx47_ px50_ => ?_)
          · obtain ⟨px50m, hIx48_, hFx49_, px50_⟩ := px50_
            refine Or.inr ⟨_, _, rfl, by first | exact px50m | (simp only [List.mem_cons, List.not_mem_nil, or_false] at px50m ⊢; omega), hIx48_, ai_fr_tr hF_ (fr_le hFx49_ rfl), ?_⟩
            first | exact px50_.2 | exact px50_ | rfl
          · exact absurd rfl px50_.2.2.2.1
        · have cx46_ : ¬ (vx45_ ≤ e_) := of_decide_eq_false cx46_
          refine sm_T_go 2 (c1 := (44, [some (.inr (.inr (some (12, 0)))), some (.inl kk_), some (.inl n_), some (.inl e_), some (.inr (.inr (some (2, kk_.toNat))))], [.inl e_, .inr (.inr (some (2, kk_.toNat)))], S0_)) rfl ?_
          refine sm_T_cal (d1 := 0) (Q1 := vq_58 e_ kk_.toNat S0_) rfl rfl (by decide) (vc_58 e_ kk_.toNat S0_ hI_ (by omega)) (fun u_ Sx53_ px56_ => ?_)
          obtain ⟨rfl, vx58_, rfl, px56_⟩ := px56_
          refine sm_T_b0 (a := 2) (z := 7) rfl (fun cx59_ => ?_) (fun cx59_ => ?_)
          · have cx59_ : vx58_ < 0 := of_decide_eq_true cx59_
            refine sm_T_go 1 (c1 := (55, [some (.inr (.inr (some (12, 0)))), some (.inl kk_), some (.inl n_), some (.inl e_), some (.inr (.inr (some (2, kk_.toNat))))], [.inl 0], S0_)) rfl ?_
            refine sm_T_cale (d1_ := 0) (Q1_ := vq_265e 0 S0_) (Q2_ := (fun ex_ S1_ => ex_ ∈ ([0] : List Nat) ∧ vx_265e 0 S0_ S1_)) rfl rfl (by decide) (vc_265e 0 S0_ hI_ ) rfl (fun xx65_ Sx60_ px63_ => ?_) (fun u_ Sx60_ px63_ => ?_)
            · obtain ⟨px63m, hIx61_, hFx62_, px63_⟩ := px63_
              refine Or.inr ⟨_, _, rfl, by first | exact px63m | (simp only [List.mem_cons, List.not_mem_nil, or_false] at px63m ⊢; omega), hIx61_, ai_fr_tr hF_ (fr_le hFx62_ rfl), ?_⟩
              first | exact px63_.2 | exact px63_ | rfl
            · exact absurd rfl px63_.2.2.2.1
          · have cx59_ : ¬ (vx58_ < 0) := of_decide_eq_false cx59_
            refine sm_T_go 2 (c1 := (55, [some (.inr (.inr (some (12, 0)))), some (.inl kk_), some (.inl n_), some (.inl e_), some (.inr (.inr (some (2, kk_.toNat))))], [.inl 1], S0_)) rfl ?_
            refine sm_T_cale (d1_ := 0) (Q1_ := vq_265e 1 S0_) (Q2_ := (fun ex_ S1_ => ex_ ∈ ([0] : List Nat) ∧ vx_265e 1 S0_ S1_)) rfl rfl (by decide) (vc_265e 1 S0_ hI_ ) rfl (fun xx71_ Sx66_ px69_ => ?_) (fun u_ Sx66_ px69_ => ?_)
            · exact absurd px69_.2.2.2.1 (by decide)
            obtain ⟨rfl, -, -, px69_, rfl⟩ := px69_
            refine sm_T_go 3 (c1 := (64, [some (.inr (.inr (some (12, 0)))), some (.inl kk_), some (.inl n_), some (.inl e_), some (.inr (.inr (some (2, kk_.toNat))))], [.inl n_, .inr (.inr (some (39, (0 + kk_.toNat))))], S0_)) rfl ?_
            refine sm_T_iald (n := 12) rfl rfl (by omega) (by omega) ?_
            have bx72_ : 0 ≤ S0_.2.2.1 39 (0 + kk_.toNat) n_.toNat ∧ S0_.2.2.1 39 (0 + kk_.toNat) n_.toNat ≤ 4194303 := hI_.2 39 (0 + kk_.toNat) _
            refine sm_T_go 1 (c1 := (66, [some (.inr (.inr (some (12, 0)))), some (.inl kk_), some (.inl n_), some (.inl e_), some (.inr (.inr (some (2, kk_.toNat))))], [.inl e_, .inl (S0_.2.2.1 39 (0 + kk_.toNat) n_.toNat)], S0_)) rfl ?_
            refine sm_T_bin (w := (i_shr (S0_.2.2.1 39 (0 + kk_.toNat) n_.toNat) e_)) rfl rfl ?_ -- pc_ 66
            have bx73_ := i_shr_p (x_ := (S0_.2.2.1 39 (0 + kk_.toNat) n_.toNat)) (e_ := e_) (by omega) (by omega) (by omega)
            refine sm_T_go 1 (c1 := (68, [some (.inr (.inr (some (12, 0)))), some (.inl kk_), some (.inl n_), some (.inl e_), some (.inr (.inr (some (2, kk_.toNat))))], [.inl 1, .inl (i_shr (S0_.2.2.1 39 (0 + kk_.toNat) n_.toNat) e_)], S0_)) rfl ?_
            refine sm_T_bin (w := ((i_shr (S0_.2.2.1 39 (0 + kk_.toNat) n_.toNat) e_) % 2)) rfl (bi_msk (k := 1) (by decide)) ?_ -- pc_ 68
            refine sm_T_b0 (a := 0) (z := 5) rfl (fun cx74_ => ?_) (fun cx74_ => ?_)
            · have cx74_ : ((i_shr (S0_.2.2.1 39 (0 + kk_.toNat) n_.toNat) e_) % 2) = 0 := of_decide_eq_true cx74_
              have bx75_ : 0 ≤ S0_.1 2 kk_.toNat 14 ∧ S0_.1 2 kk_.toNat 14 ≤ 40 := hI_.1 2 kk_.toNat 14 rfl
              refine sm_T_go 3 (c1 := (81, [some (.inr (.inr (some (12, 0)))), some (.inl kk_), some (.inl n_), some (.inl e_), some (.inr (.inr (some (2, kk_.toNat))))], [.inl 40, .inl (S0_.1 2 kk_.toNat 14)], S0_)) rfl ?_
              refine sm_T_br (a := 3) (z := 7) rfl (fun cx76_ => ?_) (fun cx76_ => ?_)
              · have cx76_ : 40 ≤ (S0_.1 2 kk_.toNat 14) := of_decide_eq_true cx76_
                refine sm_T_go 1 (c1 := (89, [some (.inr (.inr (some (12, 0)))), some (.inl kk_), some (.inl n_), some (.inl e_), some (.inr (.inr (some (2, kk_.toNat))))], [.inl 0], S0_)) rfl ?_
                refine sm_T_cale (d1_ := 0) (Q1_ := vq_268e 0 S0_) (Q2_ := (fun ex_ S1_ => ex_ ∈ ([3] : List Nat) ∧ vx_268e 0 S0_ S1_)) rfl rfl (by decide) (vc_268e 0 S0_ hI_ ) rfl (fun xx82_ Sx77_ px80_ => ?_) (fun u_ Sx77_ px80_ => ?_)
                · obtain ⟨px80m, hIx78_, hFx79_, px80_⟩ := px80_
                  refine Or.inr ⟨_, _, rfl, by first | exact px80m | (simp only [List.mem_cons, List.not_mem_nil, or_false] at px80m ⊢; omega), hIx78_, ai_fr_tr hF_ (fr_le hFx79_ rfl), ?_⟩
                  first | exact px80_.2 | exact px80_ | rfl
                · exact absurd rfl px80_.2.2.2.1
              · have cx76_ : ¬ (40 ≤ (S0_.1 2 kk_.toNat 14)) := of_decide_eq_false cx76_
                refine sm_T_go 2 (c1 := (89, [some (.inr (.inr (some (12, 0)))), some (.inl kk_), some (.inl n_), some (.inl e_), some (.inr (.inr (some (2, kk_.toNat))))], [.inl 1], S0_)) rfl ?_
                refine sm_T_cale (d1_ := 0) (Q1_ := vq_268e 1 S0_) (Q2_ := (fun ex_ S1_ => ex_ ∈ ([3] : List Nat) ∧ vx_268e 1 S0_ S1_)) rfl rfl (by decide) (vc_268e 1 S0_ hI_ ) rfl (fun xx88_ Sx83_ px86_ => ?_) (fun u_ Sx83_ px86_ => ?_)
                · exact absurd px86_.2.2.2.1 (by decide)
                obtain ⟨rfl, -, -, px86_, rfl⟩ := px86_
                refine sm_T_go 4 (c1 := (99, [some (.inr (.inr (some (12, 0)))), some (.inl kk_), some (.inl n_), some (.inl e_), some (.inr (.inr (some (2, kk_.toNat))))], [.inl n_, .inr (.inr (some (39, (0 + kk_.toNat)))), .inl n_, .inr (.inr (some (39, (0 + kk_.toNat))))], S0_)) rfl ?_
                refine sm_T_iald (n := 12) rfl rfl (by omega) (by omega) ?_
                refine sm_T_go 2 (c1 := (102, [some (.inr (.inr (some (12, 0)))), some (.inl kk_), some (.inl n_), some (.inl e_), some (.inr (.inr (some (2, kk_.toNat))))], [.inl e_, .inl 1, .inl (S0_.2.2.1 39 (0 + kk_.toNat) n_.toNat), .inl n_, .inr (.inr (some (39, (0 + kk_.toNat))))], S0_)) rfl ?_
                refine sm_T_bin (w := (i_shl 1 e_)) rfl rfl ?_ -- pc_ 102
                have bx89_ := bsh (x_ := 1) (e_ := e_) (k_ := 22) (by omega) (by omega) (by omega) (by decide)
                refine sm_T_bin (w := (i_or (S0_.2.2.1 39 (0 + kk_.toNat) n_.toNat) (i_shl 1 e_))) rfl rfl ?_ -- pc_ 103
                have bx90_ := i_orp (x_ := (S0_.2.2.1 39 (0 + kk_.toNat) n_.toNat)) (y_ := (i_shl 1 e_)) (k_ := 22) (by decide) (by omega) (by omega)
                refine sm_T_iast (n := 12) rfl rfl (by omega) (by omega) ?_
                have hIx91_ : gi (sm_aI S0_ 39 (0 + kk_.toNat) n_.toNat (i_or (S0_.2.2.1 39 (0 + kk_.toNat) n_.toNat) (i_shl 1 e_))) := gi_aI hI_ (show 0 ≤ (i_or (S0_.2.2.1 39 (0 + kk_.toNat) n_.toNat) (i_shl 1 e_)) ∧ (i_or (S0_.2.2.1 39 (0 + kk_.toNat) n_.toNat) (i_shl 1 e_)) ≤ 4194303 from ⟨by omega, by omega⟩)
                have hFx92_ : ai_fr (sx_W vw_254) S0_ (sm_aI S0_ 39 (0 + kk_.toNat) n_.toNat (i_or (S0_.2.2.1 39 (0 + kk_.toNat) n_.toNat) (i_shl 1 e_))) := ai_fr_tr hF_ (ai_fr_aI rfl)
                refine sm_T_go 4 (c1 := (112, [some (.inr (.inr (some (12, 0)))), some (.inl kk_), some (.inl n_), some (.inl e_), some (.inr (.inr (some (2, kk_.toNat))))], [.inl 1, .inl (S0_.1 2 kk_.toNat 14), .inr (.inr (some (2, kk_.toNat)))], sm_aI S0_ 39 (0 + kk_.toNat) n_.toNat (i_or (S0_.2.2.1 39 (0 + kk_.toNat) n_.toNat) (i_shl 1 e_)))) rfl ?_
                refine sm_T_bin (w := (S0_.1 2 kk_.toNat 14) + 1) rfl (bi_add (by omega) (by omega) (by omega)) ?_ -- pc_ 112
                have hIx93_ : gi (sm_pI (sm_aI S0_ 39 (0 + kk_.toNat) n_.toNat (i_or (S0_.2.2.1 39 (0 + kk_.toNat) n_.toNat) (i_shl 1 e_))) 2 kk_.toNat 14 ((S0_.1 2 kk_.toNat 14) + 1)) := gi_pI hIx91_ (show 0 ≤ (S0_.1 2 kk_.toNat 14) + 1 ∧ (S0_.1 2 kk_.toNat 14) + 1 ≤ 40 from ⟨by omega, by omega⟩)
                have hFx94_ : ai_fr (sx_W vw_254) S0_ (sm_pI (sm_aI S0_ 39 (0 + kk_.toNat) n_.toNat (i_or (S0_.2.2.1 39 (0 + kk_.toNat) n_.toNat) (i_shl 1 e_))) 2 kk_.toNat 14 ((S0_.1 2 kk_.toNat 14) + 1)) := ai_fr_tr hFx92_ (ai_fr_pI rfl)
                have bx95_ : (-2147483648) ≤ S0_.1 0 (0 + kk_.toNat) 16 ∧ S0_.1 0 (0 + kk_.toNat) 16 ≤ 2147483647 := hI_.1 0 (0 + kk_.toNat) 16 rfl
                refine sm_T_go 6 (c1 := (126, [some (.inr (.inr (some (12, 0)))), some (.inl kk_), some (.inl n_), some (.inl e_), some (.inr (.inr (some (2, kk_.toNat))))], [.inl 1, .inl (S0_.1 0 (0 + kk_.toNat) 16), .inr (.inr (some (0, (0 + kk_.toNat))))], sm_pI (sm_aI S0_ 39 (0 + kk_.toNat) n_.toNat (i_or (S0_.2.2.1 39 (0 + kk_.toNat) n_.toNat) (i_shl 1 e_))) 2 kk_.toNat 14 ((S0_.1 2 kk_.toNat 14) + 1))) rfl ?_
                refine sm_T_bin (w := (i_add (S0_.1 0 (0 + kk_.toNat) 16) 1)) rfl rfl ?_ -- pc_ 126
                have bx96_ := i_add_r (S0_.1 0 (0 + kk_.toNat) 16) 1
                have hIx97_ : gi (sm_pI (sm_pI (sm_aI S0_ 39 (0 + kk_.toNat) n_.toNat (i_or (S0_.2.2.1 39 (0 + kk_.toNat) n_.toNat) (i_shl 1 e_))) 2 kk_.toNat 14 ((S0_.1 2 kk_.toNat 14) + 1)) 0 (0 + kk_.toNat) 16 (i_add (S0_.1 0 (0 + kk_.toNat) 16) 1)) := gi_pI hIx93_ (show (-2147483648) ≤ (i_add (S0_.1 0 (0 + kk_.toNat) 16) 1) ∧ (i_add (S0_.1 0 (0 + kk_.toNat) 16) 1) ≤ 2147483647 from ⟨by omega, by omega⟩)
                have hFx98_ : ai_fr (sx_W vw_254) S0_ (sm_pI (sm_pI (sm_aI S0_ 39 (0 + kk_.toNat) n_.toNat (i_or (S0_.2.2.1 39 (0 + kk_.toNat) n_.toNat) (i_shl 1 e_))) 2 kk_.toNat 14 ((S0_.1 2 kk_.toNat 14) + 1)) 0 (0 + kk_.toNat) 16 (i_add (S0_.1 0 (0 + kk_.toNat) 16) 1)) := ai_fr_tr hFx94_ (ai_fr_pI rfl)
                refine sm_T_go 2 (c1 := (131, [some (.inr (.inr (some (12, 0)))), some (.inl kk_), some (.inl n_), some (.inl e_), some (.inr (.inr (some (2, kk_.toNat))))], [.inl 1], sm_pI (sm_pI (sm_aI S0_ 39 (0 + kk_.toNat) n_.toNat (i_or (S0_.2.2.1 39 (0 + kk_.toNat) n_.toNat) (i_shl 1 e_))) 2 kk_.toNat 14 ((S0_.1 2 kk_.toNat 14) + 1)) 0 (0 + kk_.toNat) 16 (i_add (S0_.1 0 (0 + kk_.toNat) 16) 1))) rfl ?_
                refine sm_T_rz rfl (by omega) (Or.inl ⟨_, _, rfl, _, rfl, hIx97_, hFx98_, ?_⟩)
                first | exact hJ_ | exact jC_fr hJ_ hFx98_ (by decide) (by decide) (by decide) (by decide) (by decide) rfl rfl rfl rfl rfl rfl
            · have cx74_ : ¬ (((i_shr (S0_.2.2.1 39 (0 + kk_.toNat) n_.toNat) e_) % 2) = 0) := of_decide_eq_false cx74_
              refine sm_T_go 1 (c1 := (73, [some (.inr (.inr (some (12, 0)))), some (.inl kk_), some (.inl n_), some (.inl e_), some (.inr (.inr (some (2, kk_.toNat))))], [.inl 0], S0_)) rfl ?_
              refine sm_T_rz rfl (by omega) (Or.inl ⟨_, _, rfl, _, rfl, hI_, hF_, ?_⟩)
              first | exact hJ_ | exact jC_fr hJ_ hF_ (by decide) (by decide) (by decide) (by decide) (by decide) rfl rfl rfl rfl rfl rfl
