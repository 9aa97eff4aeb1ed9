/-! Builder.fillTable -/
def vw_51 : sx_Wl := ([], [47], [])
def vq_51 (dd_ : Nat) (F_ : Nat) (S0_ : sm_S) (u_ : Option sm_V) (S1_ : sm_S) : Prop := u_ = none ∧ gi S1_ ∧ ai_fr (sx_W vw_51) S0_ S1_ ∧ (idf dd_ S0_ S1_ ∧ (dtb dd_ S1_))
set_option maxHeartbeats 1000000 in
theorem vl_51 {sc_ : Nat × (Nat → Int)} (dd_ : Nat) (F_ : Nat) (S0_ : sm_S) (hd_ : S0_.2.1 1 0 1 = some dd_) (hg_ : dgr dd_ F_ S0_) (hr_ : drt dd_ S0_) : ∀ nn_ : Nat, (∀ (pt_ : Int) (k_ : Int) (S_ : sm_S), gi S_ → ai_fr (sx_W vw_51) S0_ S_ → ((0 ≤ k_ ∧ 0 ≤ pt_ ∧ pt_ ≤ 4096) ∧ (∀ p9_ : Nat, p9_ < 4096 → 0 ≤ S_.2.2.1 47 (0 + dd_) p9_ ∧ S_.2.2.1 47 (0 + dd_) p9_ < 2 ^ (16 + (S0_.1 3 dd_ 2).toNat)) ∧ (idf dd_ S0_ S_) ∧ True) → ((10000 * (100 - k_) + 5000).toNat) < nn_ → sm_T (mt_P sc_) 1 51 (31, [some (.inr (.inr (some (1, 0)))), some (.inl pt_), some (.inl k_), none, none, none], [], S_) (fun ro9_ => ∃ u_ S1_, ro9_ = (.inl u_, S1_, 0) ∧ vq_51 dd_ F_ S0_ u_ S1_)) ∧ (∀ (pt_ : Int) (k_ : Int) (l_ : Int) (sh_ : Int) (p_ : Int) (S_ : sm_S), gi S_ → ai_fr (sx_W vw_51) S0_ S_ → ((0 ≤ k_ ∧ k_ < S0_.1 3 dd_ 3 + S0_.1 3 dd_ 2 ∧ 0 ≤ pt_ ∧ pt_ ≤ 4096 ∧ 0 ≤ p_ ∧ p_ ≤ pt_ ∧ 0 ≤ l_ ∧ l_ ≤ 2025 ∧ 0 ≤ sh_ ∧ sh_ < 16 + S0_.1 3 dd_ 2) ∧ (∀ p9_ : Nat, p9_ < 4096 → 0 ≤ S_.2.2.1 47 (0 + dd_) p9_ ∧ S_.2.2.1 47 (0 + dd_) p9_ < 2 ^ (16 + (S0_.1 3 dd_ 2).toNat)) ∧ (idf dd_ S0_ S_) ∧ True) → ((10000 * (100 - k_) + 4500 - p_).toNat) < nn_ → sm_T (mt_P sc_) 1 51 (83, [some (.inr (.inr (some (1, 0)))), some (.inl pt_), some (.inl k_), some (.inl l_), some (.inl sh_), some (.inl p_)], [], S_) (fun ro9_ => ∃ u_ S1_, ro9_ = (.inl u_, S1_, 0) ∧ vq_51 dd_ F_ S0_ u_ S1_)) := by
  intro nn_
  induction nn_ with
  | zero => exact ⟨fun _ _ _ _ _ _ h_ => absurd h_ (Nat.not_lt_zero _), fun _ _ _ _ _ _ _ _ _ h_ => absurd h_ (Nat.not_lt_zero _)⟩
  | succ nn_ ih_ =>
    refine ⟨?_, ?_⟩
    · rintro pt_ k_ S_ hI_ hF_ ⟨h0_, ht_, hD_, -⟩ hm_
      have g1_ := hg_.1
      have r1_ := hr_.1
      have e1_ : S_.1 3 dd_ 1 = S0_.1 3 dd_ 1 := hF_.1 3 dd_ 1 rfl
      have e2_ : S_.1 3 dd_ 2 = S0_.1 3 dd_ 2 := hF_.1 3 dd_ 2 rfl
      have e3_ : S_.1 3 dd_ 3 = S0_.1 3 dd_ 3 := hF_.1 3 dd_ 3 rfl
      refine sm_T_go 2 (c1 := (33, [some (.inr (.inr (some (1, 0)))), some (.inl pt_), some (.inl k_), none, none, none], [.inr (.inr (some (1, 0))), .inl k_], S_)) rfl ?_
      refine sm_T_gr rfl rfl ((hF_.2.1 1 0 1 rfl).trans hd_) ?_
      refine sm_T_cal (d1 := 0) (Q1 := vq_66 dd_ S_) rfl rfl (by decide) (vc_66 dd_ S_ hI_ (by omega)) (fun u_ Sx1_ px4_ => ?_)
      obtain ⟨rfl, vx6_, rfl, px4_⟩ := px4_
      have e36_ := px4_
      refine sm_T_br (a := 3) (z := 97) rfl (fun cx7_ => ?_) (fun cx7_ => ?_)
      · have cx7_ : vx6_ ≤ k_ := of_decide_eq_true cx7_
        refine sm_T_rv rfl ⟨_, _, rfl, rfl, hI_, hF_, ?_⟩
        refine ⟨hD_, ?_⟩
        intro p9_ hp9_
        rw [e2_]
        exact ht_ p9_ hp9_
      · have cx7_ : ¬ (vx6_ ≤ k_) := of_decide_eq_false cx7_
        refine sm_T_go 1 (c1 := (43, [some (.inr (.inr (some (1, 0)))), some (.inl pt_), some (.inl k_), none, none, none], [.inr (.inr (some (1, 0)))], S_)) rfl ?_
        refine sm_T_gr rfl rfl ((hF_.2.1 1 0 1 rfl).trans hd_) ?_
        refine sm_T_go 1 (c1 := (47, [some (.inr (.inr (some (1, 0)))), some (.inl pt_), some (.inl k_), none, none, none], [.inl k_, .inr (.inr (some (3, dd_)))], S_)) rfl ?_
        refine sm_T_cal (d1 := 0) (Q1 := vq_65 k_ dd_ S_) rfl rfl (by decide) (vc_65 k_ dd_ S_ hI_ (by exact drt_fr hr_ hF_ rfl rfl rfl rfl rfl) (by omega)) (fun u_ Sx8_ px11_ => ?_)
        obtain ⟨rfl, vx13_, rfl, px11_⟩ := px11_
        have e47_ := px11_
        have n47_ : S_.1 3 dd_ 4 ≤ 1013 := (hI_.1 3 dd_ 4 rfl).2
        refine sm_T_go 3 (c1 := (53, [some (.inr (.inr (some (1, 0)))), some (.inl pt_), some (.inl k_), some (.inl vx13_), none, none], [.inr (.inr (some (1, 0))), .inl k_], S_)) rfl ?_
        refine sm_T_gr rfl rfl ((hF_.2.1 1 0 1 rfl).trans hd_) ?_
        have bx14_ : 0 ≤ S_.1 3 dd_ 3 ∧ S_.1 3 dd_ 3 ≤ 320 := hI_.1 3 dd_ 3 rfl
        refine sm_T_go 1 (c1 := (59, [some (.inr (.inr (some (1, 0)))), some (.inl pt_), some (.inl k_), some (.inl vx13_), none, none], [.inl (S_.1 3 dd_ 3), .inl k_], S_)) rfl ?_
        refine sm_T_br (a := 3) (z := 7) rfl (fun cx15_ => ?_) (fun cx15_ => ?_)
        · have cx15_ : (S_.1 3 dd_ 3) ≤ k_ := of_decide_eq_true cx15_
          refine sm_T_go 2 (c1 := (69, [some (.inr (.inr (some (1, 0)))), some (.inl pt_), some (.inl k_), some (.inl vx13_), none, none], [.inl k_, .inl 16], S_)) rfl ?_
          refine sm_T_bin (w := k_ + 16) rfl (bi_add (by omega) (by omega) (by omega)) ?_
          refine sm_T_go 1 (c1 := (71, [some (.inr (.inr (some (1, 0)))), some (.inl pt_), some (.inl k_), some (.inl vx13_), none, none], [.inr (.inr (some (1, 0))), .inl (k_ + 16)], S_)) rfl ?_
          refine sm_T_gr rfl rfl ((hF_.2.1 1 0 1 rfl).trans hd_) ?_
          refine sm_T_go 1 (c1 := (77, [some (.inr (.inr (some (1, 0)))), some (.inl pt_), some (.inl k_), some (.inl vx13_), none, none], [.inl (S_.1 3 dd_ 3), .inl (k_ + 16)], S_)) rfl ?_
          refine sm_T_bin (w := k_ - (S_.1 3 dd_ 3) + 16) rfl (bi_sub (by omega) (by omega) (by omega)) ?_
          refine sm_T_go 3 (c1 := (83, [some (.inr (.inr (some (1, 0)))), some (.inl pt_), some (.inl k_), some (.inl vx13_), some (.inl (k_ - (S_.1 3 dd_ 3) + 16)), some (.inl 0)], [], S_)) rfl ?_
          refine ih_.2 pt_ k_ vx13_ (k_ - (S_.1 3 dd_ 3) + 16) 0 S_ hI_ hF_ ⟨?_, ?_, ?_, trivial⟩ ?_
          · omega
          · exact ht_
          · exact hD_
          · omega
        · have cx15_ : ¬ ((S_.1 3 dd_ 3) ≤ k_) := of_decide_eq_false cx15_
          refine sm_T_go 5 (c1 := (83, [some (.inr (.inr (some (1, 0)))), some (.inl pt_), some (.inl k_), some (.inl vx13_), some (.inl k_), some (.inl 0)], [], S_)) rfl ?_
          refine ih_.2 pt_ k_ vx13_ k_ 0 S_ hI_ hF_ ⟨?_, ?_, ?_, trivial⟩ ?_
          · omega
          · exact ht_
          · exact hD_
          · omega
    · rintro pt_ k_ l_ sh_ p_ S_ hI_ hF_ ⟨h0_, ht_, hD_, -⟩ hm_
      have g1_ := hg_.1
      have r1_ := hr_.1
      have e1_ : S_.1 3 dd_ 1 = S0_.1 3 dd_ 1 := hF_.1 3 dd_ 1 rfl
      have e2_ : S_.1 3 dd_ 2 = S0_.1 3 dd_ 2 := hF_.1 3 dd_ 2 rfl
      have e3_ : S_.1 3 dd_ 3 = S0_.1 3 dd_ 3 := hF_.1 3 dd_ 3 rfl
      refine sm_T_go 2 (c1 := (86, [some (.inr (.inr (some (1, 0)))), some (.inl pt_), some (.inl k_), some (.inl l_), some (.inl sh_), some (.inl p_)], [.inl pt_, .inl p_], S_)) rfl ?_
      refine sm_T_br (a := 3) (z := 44) rfl (fun cx1_ => ?_) (fun cx1_ => ?_)
      · have cx1_ : pt_ ≤ p_ := of_decide_eq_true cx1_
        refine sm_T_inc (a := 2) (z := 1) (v := k_) (w := k_ + 1) rfl rfl (by omega) (by omega) (by omega) ?_
        refine sm_T_go 1 (c1 := (31, [some (.inr (.inr (some (1, 0)))), some (.inl pt_), some (.inl (k_ + 1)), some (.inl l_), some (.inl sh_), some (.inl p_)], [], S_)) rfl ?_
        refine sm_T_wk [some (.inr (.inr (some (1, 0)))), some (.inl pt_), some (.inl (k_ + 1)), none, none, none] (by exact ⟨rfl, rfl, rfl, trivial⟩) ?_
        refine ih_.1 pt_ (k_ + 1) S_ hI_ hF_ ⟨?_, ?_, ?_, trivial⟩ ?_
        · omega
        · exact ht_
        · exact hD_
        · omega
      · have cx1_ : ¬ (pt_ ≤ p_) := of_decide_eq_false cx1_
        refine sm_T_go 1 (c1 := (90, [some (.inr (.inr (some (1, 0)))), some (.inl pt_), some (.inl k_), some (.inl l_), some (.inl sh_), some (.inl p_)], [.inr (.inr (some (1, 0)))], S_)) rfl ?_
        refine sm_T_gr rfl rfl ((hF_.2.1 1 0 1 rfl).trans hd_) ?_
        refine sm_T_go 3 (c1 := (99, [some (.inr (.inr (some (1, 0)))), some (.inl pt_), some (.inl k_), some (.inl l_), some (.inl sh_), some (.inl p_)], [.inl p_, .inr (.inr (some (47, (0 + dd_)))), .inl p_, .inr (.inr (some (47, (0 + dd_))))], S_)) rfl ?_
        refine sm_T_iald (n := 4096) rfl rfl (by omega) (by omega) ?_
        have bx2_ : 0 ≤ S_.2.2.1 47 (0 + dd_) p_.toNat ∧ S_.2.2.1 47 (0 + dd_) p_.toNat ≤ 4194303 := hI_.2 47 (0 + dd_) _
        refine sm_T_go 4 (c1 := (106, [some (.inr (.inr (some (1, 0)))), some (.inl pt_), some (.inl k_), some (.inl l_), some (.inl sh_), some (.inl p_)], [.inl 6, .inl p_, .inl l_, .inr (.inr (some (1, 0))), .inl (S_.2.2.1 47 (0 + dd_) p_.toNat), .inl p_, .inr (.inr (some (47, (0 + dd_))))], S_)) rfl ?_
        refine sm_T_bin (w := (p_ / 64)) rfl (bi_shr (k := 6) (by decide) (by omega) (by omega)) ?_
        refine sm_T_cal (d1 := 0) (Q1 := vq_48 l_ (p_ / 64) S_) rfl rfl (by decide) (vc_48 l_ (p_ / 64) S_ hI_ (by omega) (by omega)) (fun u_ Sx3_ px6_ => ?_)
        obtain ⟨rfl, vx8_, rfl, px6_⟩ := px6_
        have e107_ := px6_
        have bt9_ := l_bit (x_ := l_s1 vx8_ (p_ % 64))
        have bs9_ := bsh (k_ := 16 + (S0_.1 3 dd_ 2).toNat) bt9_ (show 0 ≤ sh_ by omega) (by omega) (by omega)
        have or9_ := i_orp (x_ := S_.2.2.1 47 (0 + dd_) p_.toNat) (k_ := 16 + (S0_.1 3 dd_ 2).toNat) (by omega) (ht_ p_.toNat (by omega)) bs9_
        have pw9_ := pw_le (n := 16 + (S0_.1 3 dd_ 2).toNat) (m := 22) (by omega)
        refine sm_T_go 2 (c1 := (114, [some (.inr (.inr (some (1, 0)))), some (.inl pt_), some (.inl k_), some (.inl l_), some (.inl sh_), some (.inl p_)], [.inl 63, .inl p_, .inr (.inl vx8_), .inl (S_.2.2.1 47 (0 + dd_) p_.toNat), .inl p_, .inr (.inr (some (47, (0 + dd_))))], S_)) rfl ?_
        refine sm_T_bin (w := (p_ % 64)) rfl (bi_msk (k := 6) (by decide)) ?_
        refine sm_T_go 5 (c1 := (121, [some (.inr (.inr (some (1, 0)))), some (.inl pt_), some (.inl k_), some (.inl l_), some (.inl sh_), some (.inl p_)], [.inl sh_, .inl (l_l2i ((l_3 ((l_s1 vx8_ (p_ % 64))) 1))), .inl (S_.2.2.1 47 (0 + dd_) p_.toNat), .inl p_, .inr (.inr (some (47, (0 + dd_))))], S_)) rfl ?_
        refine sm_T_bin (w := (i_shl (l_l2i ((l_3 ((l_s1 vx8_ (p_ % 64))) 1))) sh_)) rfl rfl ?_
        refine sm_T_bin (w := (i_or (S_.2.2.1 47 (0 + dd_) p_.toNat) (i_shl (l_l2i ((l_3 ((l_s1 vx8_ (p_ % 64))) 1))) sh_))) rfl rfl ?_
        refine sm_T_iast (n := 4096) rfl rfl (by omega) (by omega) ?_
        have hIx9_ : gi (sm_aI S_ 47 (0 + dd_) p_.toNat (i_or (S_.2.2.1 47 (0 + dd_) p_.toNat) (i_shl (l_l2i ((l_3 ((l_s1 vx8_ (p_ % 64))) 1))) sh_))) := gi_aI hI_ (show 0 ≤ (i_or (S_.2.2.1 47 (0 + dd_) p_.toNat) (i_shl (l_l2i ((l_3 ((l_s1 vx8_ (p_ % 64))) 1))) sh_)) ∧ (i_or (S_.2.2.1 47 (0 + dd_) p_.toNat) (i_shl (l_l2i ((l_3 ((l_s1 vx8_ (p_ % 64))) 1))) sh_)) ≤ 4194303 from ⟨by omega, by omega⟩)
        have hFx10_ : ai_fr (sx_W vw_51) S0_ (sm_aI S_ 47 (0 + dd_) p_.toNat (i_or (S_.2.2.1 47 (0 + dd_) p_.toNat) (i_shl (l_l2i ((l_3 ((l_s1 vx8_ (p_ % 64))) 1))) sh_))) := ai_fr_tr hF_ (ai_fr_aI rfl)
        have hDx11_ : idf dd_ S0_ (sm_aI S_ 47 (0 + dd_) p_.toNat (i_or (S_.2.2.1 47 (0 + dd_) p_.toNat) (i_shl (l_l2i ((l_3 ((l_s1 vx8_ (p_ % 64))) 1))) sh_))) := idf_aI hD_ (Or.inr rfl)
        refine sm_T_inc (a := 5) (z := 1) (v := p_) (w := p_ + 1) rfl rfl (by omega) (by omega) (by omega) ?_
        refine sm_T_go 1 (c1 := (83, [some (.inr (.inr (some (1, 0)))), some (.inl pt_), some (.inl k_), some (.inl l_), some (.inl sh_), some (.inl (p_ + 1))], [], sm_aI S_ 47 (0 + dd_) p_.toNat (i_or (S_.2.2.1 47 (0 + dd_) p_.toNat) (i_shl (l_l2i ((l_3 ((l_s1 vx8_ (p_ % 64))) 1))) sh_)))) rfl ?_
        refine ih_.2 pt_ k_ l_ sh_ (p_ + 1) (sm_aI S_ 47 (0 + dd_) p_.toNat (i_or (S_.2.2.1 47 (0 + dd_) p_.toNat) (i_shl (l_l2i ((l_3 ((l_s1 vx8_ (p_ % 64))) 1))) sh_))) hIx9_ hFx10_ ⟨?_, ?_, ?_, trivial⟩ ?_
        · omega
        · intro p9_ hp9_
          rw [rd_eq]
          by_cases z9_ : p9_ = p_.toNat
          · rw [if_pos z9_]; exact or9_
          · rw [if_neg z9_]; exact ht_ p9_ hp9_
        · exact hDx11_
        · omega
set_option maxHeartbeats 1000000 in
theorem vc_51 {sc_ : Nat × (Nat → Int)} (dd_ : Nat) (F_ : Nat) (S0_ : sm_S) (hI_ : gi S0_) (hd_ : S0_.2.1 1 0 1 = some dd_) (hg_ : dgr dd_ F_ S0_) (hr_ : drt dd_ S0_) : sm_T (mt_P sc_) 1 51 (0, [some (.inr (.inr (some (1, 0)))), none, none, none, none, none], [], S0_) (fun ro9_ => ∃ u_ S1_, ro9_ = (.inl u_, S1_, 0) ∧ vq_51 dd_ F_ S0_ u_ S1_) := by
  have hF_ : ai_fr (sx_W vw_51) S0_ S0_ := ai_fr_rf
  have hD_ : idf dd_ S0_ S0_ := idf_rf
  have g1_ := hg_.1
  have r1_ := hr_.1
  refine sm_T_go 1 (c1 := (1, [some (.inr (.inr (some (1, 0)))), none, none, none, none, none], [.inr (.inr (some (1, 0)))], S0_)) rfl ?_
  refine sm_T_gr rfl rfl ((hF_.2.1 1 0 1 rfl).trans hd_) ?_
  refine sm_T_go 2 (c1 := (8, [some (.inr (.inr (some (1, 0)))), none, none, none, none, none], [.inl 0, .inr (.inr (some (47, (0 + dd_))))], S0_)) rfl ?_
  refine sm_T_cal (d1 := 0) (Q1 := vq_2t 0 dd_ S0_) rfl rfl (by decide) (vc_2t 0 dd_ S0_ hI_ (by decide)) (fun u_ Sx1_ px4_ => ?_)
  obtain ⟨rfl, hIx2_, hFx3_, px4_⟩ := px4_
  have hFx5_ : ai_fr (sx_W vw_51) S0_ Sx1_ := ai_fr_tr hF_ (fr_le hFx3_ rfl)
  obtain ⟨dx7_, px4_⟩ := px4_
  have hDx6_ : idf dd_ S0_ Sx1_ := idf_tr hD_ dx7_
  have e8_ := px4_
  have q1_ := hFx3_.1 3 dd_ 1 rfl
  have q2_ := hFx3_.1 3 dd_ 2 rfl
  refine sm_T_go 2 (c1 := (13, [some (.inr (.inr (some (1, 0)))), none, none, none, none, none], [.inr (.inr (some (1, 0))), .inl 1], Sx1_)) rfl ?_
  refine sm_T_gr rfl rfl ((hFx5_.2.1 1 0 1 rfl).trans hd_) ?_
  have bx8_ : 0 ≤ Sx1_.1 3 dd_ 1 ∧ Sx1_.1 3 dd_ 1 ≤ 320 := hIx2_.1 3 dd_ 1 rfl
  refine sm_T_go 2 (c1 := (20, [some (.inr (.inr (some (1, 0)))), none, none, none, none, none], [.inr (.inr (some (1, 0))), .inl (Sx1_.1 3 dd_ 1), .inl 1], Sx1_)) rfl ?_
  refine sm_T_gr rfl rfl ((hFx5_.2.1 1 0 1 rfl).trans hd_) ?_
  have bx9_ : 0 ≤ Sx1_.1 3 dd_ 2 ∧ Sx1_.1 3 dd_ 2 ≤ 100000 := hIx2_.1 3 dd_ 2 rfl
  refine sm_T_go 1 (c1 := (26, [some (.inr (.inr (some (1, 0)))), none, none, none, none, none], [.inl (Sx1_.1 3 dd_ 2), .inl (Sx1_.1 3 dd_ 1), .inl 1], Sx1_)) rfl ?_
  refine sm_T_bin (w := (Sx1_.1 3 dd_ 1) + (Sx1_.1 3 dd_ 2)) rfl (bi_add (by omega) (by omega) (by omega)) ?_
  refine sm_T_bin (w := (i_shl 1 ((Sx1_.1 3 dd_ 1) + (Sx1_.1 3 dd_ 2)))) rfl rfl ?_
  have bx10_ := i_shl1 (e := ((Sx1_.1 3 dd_ 1) + (Sx1_.1 3 dd_ 2))) (by omega) (by omega)
  have hp_ := pw_le (n := (((Sx1_.1 3 dd_ 1) + (Sx1_.1 3 dd_ 2))).toNat) (m := 12) (by omega)
  have hp0_ := pw_pos (((Sx1_.1 3 dd_ 1) + (Sx1_.1 3 dd_ 2))).toNat
  refine sm_T_go 3 (c1 := (31, [some (.inr (.inr (some (1, 0)))), some (.inl (i_shl 1 ((Sx1_.1 3 dd_ 1) + (Sx1_.1 3 dd_ 2)))), some (.inl 0), none, none, none], [], Sx1_)) rfl ?_
  refine (vl_51 dd_ F_ S0_ hd_ hg_ hr_ _).1 (i_shl 1 ((Sx1_.1 3 dd_ 1) + (Sx1_.1 3 dd_ 2))) 0 Sx1_ hIx2_ hFx5_ ⟨?_, ?_, ?_, trivial⟩ (Nat.lt_succ_self _)
  · omega
  · (intro p9_ hp9_; rw [e8_ p9_ hp9_]; exact ⟨Int.le_refl _, pw_pos _⟩)
  · exact hDx6_
