/-! 99.zg1a -/
section
/-! the class: limits, and the other designs; written by wip/p55/gen/vg -/
/-! Builder.limitFault -/
def vw_32d : sx_Wl := ([(3, 1), (3, 2), (3, 3)], [30, 31], [])
def vq_32d (mx_ : Int) (b_ : Nat → Int) (n_ : Nat) (A_ : pA) (mm_ : Nat) (dd_ : Nat) (S0_ : sm_S) (u_ : Option sm_V) (S1_ : sm_S) : Prop := ∃ v_ : Int, u_ = some (.inl v_) ∧ gi S1_ ∧ ai_fr (sx_W vw_32d) S0_ S1_ ∧ (idf dd_ S0_ S1_ ∧ (v_ = p_lm (S1_.2.2.1 30 0 mm_) (su (t_in A_ 0 mm_) (A_.1 mm_)) (S1_.2.2.1 31 0 mm_) (su (t_in A_ 1 mm_) (A_.1 mm_)) ∧ (∀ k_ : Nat, k_ < mm_ + 1 → lt1 A_ k_ S1_) ∧ (v_ ≠ 20 → S1_.1 3 dd_ 1 = su (t_in A_ 0 mm_) (A_.1 mm_) ∧ S1_.1 3 dd_ 2 = S1_.2.2.1 31 0 mm_ ∧ S1_.1 3 dd_ 3 = su (t_in A_ 1 mm_) (A_.1 mm_))))
set_option maxHeartbeats 1500000 in
set_option maxRecDepth 20000 in
theorem vl_32d {sc_ : Nat × (Nat → Int)} (mx_ : Int) (b_ : Nat → Int) (n_ : Nat) (A_ : pA) (mm_ : Nat) (dd_ : Nat) (S0_ : sm_S) (hmx_ : mx_ = (mm_ : Int) ∧ mm_ ≤ 15) (her_ : ∀ k_, k_ ≤ mm_ → er1 b_ n_ A_ k_ S0_) (hA_ : a_ok b_ n_ A_ mm_) (hd_ : S0_.2.1 1 0 1 = some dd_) : ∀ nn_ : Nat, (∀ (m_ : Int) (S_ : sm_S), gi S_ → ai_fr (sx_W vw_32d) S0_ S_ → ((0 ≤ m_ ∧ m_ ≤ mx_ + 1) ∧ (∀ k_ : Nat, k_ < m_.toNat → lt1 A_ k_ S_) ∧ (idf dd_ S0_ S_) ∧ True) → ((100 * (20 - m_) + 50).toNat) < nn_ → sm_T (mt_P sc_) 1 32 (2, [some (.inr (.inr (some (1, 0)))), some (.inl mx_), some (.inl m_), none, none, none, none], [], S_) (fun ro9_ => ∃ u_ S1_, ro9_ = (.inl u_, S1_, 0) ∧ vq_32d mx_ b_ n_ A_ mm_ dd_ S0_ u_ S1_)) ∧ (∀ (m_ : Int) (us_ : Int) (bi_ : Int) (s_ : Int) (S_ : sm_S), gi S_ → ai_fr (sx_W vw_32d) S0_ S_ → ((0 ≤ m_ ∧ m_ ≤ mx_) ∧ (0 ≤ s_ ∧ s_ ≤ (A_.1 m_.toNat : Int)) ∧ (us_ = su (t_is (S_.2.2.1 30 0) A_ m_.toNat) s_.toNat) ∧ (bi_ = su (t_rg (S_.2.2.1 31 0) A_ m_.toNat) s_.toNat) ∧ ((0 ≤ us_ ∧ us_ ≤ 100001 * s_) ∧ (0 ≤ bi_ ∧ bi_ ≤ 100000 * s_)) ∧ (∀ k_ : Nat, k_ < m_.toNat → lt1 A_ k_ S_) ∧ (idf dd_ S0_ S_) ∧ True) → ((100 * (20 - m_) + 45 - s_).toNat) < nn_ → sm_T (mt_P sc_) 1 32 (15, [some (.inr (.inr (some (1, 0)))), some (.inl mx_), some (.inl m_), some (.inl us_), some (.inl bi_), some (.inl s_), none], [], S_) (fun ro9_ => ∃ u_ S1_, ro9_ = (.inl u_, S1_, 0) ∧ vq_32d mx_ b_ n_ A_ mm_ dd_ S0_ u_ S1_)) := by
  intro nn_
  induction nn_ with
  | zero => exact ⟨fun _ _ _ _ _ h_ => absurd h_ (Nat.not_lt_zero _), fun _ _ _ _ _ _ _ _ h_ => absurd h_ (Nat.not_lt_zero _)⟩
  | succ nn_ ih_ =>
    refine ⟨?_, ?_⟩
    · rintro m_ S_ hI_ hF_ ⟨h0_, h1_, hD_, -⟩ hm_
      have her1_ : ∀ k_, k_ ≤ mm_ → er1 b_ n_ A_ k_ S_ := fun k_ hk_ => er1_fr (her_ k_ hk_) hF_ rfl rfl rfl rfl rfl
      have dsg_ : S_.2.1 1 0 1 = some dd_ := (hF_.2.1 1 0 1 rfl).trans hd_
      refine sm_T_go 2 (c1 := (4, [some (.inr (.inr (some (1, 0)))), some (.inl mx_), some (.inl m_), none, none, none, none], [.inl mx_, .inl m_], S_)) rfl ?_
      refine sm_T_br (a := 4) (z := 171) rfl (fun cx1_ => ?_) (fun cx1_ => ?_)
      · have cx1_ : mx_ < m_ := of_decide_eq_true cx1_
        have tb_ : ∀ k_ : Nat, k_ < mm_ + 1 → lt1 A_ k_ S_ := fun k_ hk_ => h1_ k_ (by omega)
        have mI_ : mx_.toNat = mm_ := by omega
        refine sm_T_go 3 (c1 := (180, [some (.inr (.inr (some (1, 0)))), some (.inl mx_), some (.inl m_), none, none, none, none], [.inl mx_, .inr (.inr (some (30, 0)))], S_)) rfl ?_
        refine sm_T_iald (n := 16) rfl rfl (by omega) (by omega) ?_
        have bx2_ : 0 ≤ S_.2.2.1 30 0 mx_.toNat ∧ S_.2.2.1 30 0 mx_.toNat ≤ 100000 := hI_.2 30 0 _
        refine sm_T_go 1 (c1 := (184, [some (.inr (.inr (some (1, 0)))), some (.inl mx_), some (.inl m_), none, none, none, none], [.inl 200, .inl (S_.2.2.1 30 0 mx_.toNat)], S_)) rfl ?_
        refine sm_T_br (a := 5) (z := 6) rfl (fun cx3_ => ?_) (fun cx3_ => ?_)
        · have cx3_ : (S_.2.2.1 30 0 mx_.toNat) ≤ 200 := of_decide_eq_true cx3_
          refine sm_T_go 1 (c1 := (191, [some (.inr (.inr (some (1, 0)))), some (.inl mx_), some (.inl m_), none, none, none, none], [.inr (.inr (some (1, 0)))], S_)) rfl ?_
          refine sm_T_gr rfl rfl ((hF_.2.1 1 0 1 rfl).trans hd_) ?_
          refine sm_T_go 3 (c1 := (197, [some (.inr (.inr (some (1, 0)))), some (.inl mx_), some (.inl m_), none, none, none, none], [.inl 0, .inl mx_, .inr (.inr (some (1, 0))), .inr (.inr (some (3, dd_)))], S_)) rfl ?_
          refine sm_T_cal (d1 := 0) (Q1 := vq_33 mx_ 0 b_ n_ A_ mm_ S_) rfl rfl (by decide) (vc_33 mx_ 0 b_ n_ A_ mm_ S_ hI_ (by omega) (by first | exact her1_ mm_ (Nat.le_refl _) | exact er1_fr (her_ mm_ (Nat.le_refl _)) hF_ rfl rfl rfl rfl rfl) (by exact hA_)) (fun u_ Sx4_ px7_ => ?_)
          obtain ⟨rfl, vx9_, rfl, px7_⟩ := px7_
          have b197_ := px7_
          have hIx10_ : gi (sm_pI S_ 3 dd_ 1 vx9_) := gi_pI hI_ (show 0 ≤ vx9_ ∧ vx9_ ≤ 320 from ⟨by omega, by omega⟩)
          have hFx11_ : ai_fr (sx_W vw_32d) S0_ (sm_pI S_ 3 dd_ 1 vx9_) := ai_fr_tr hF_ (ai_fr_pI rfl)
          have hDx12_ : idf dd_ S0_ (sm_pI S_ 3 dd_ 1 vx9_) := idf_pI hD_ (Or.inr rfl)
          refine sm_T_go 2 (c1 := (204, [some (.inr (.inr (some (1, 0)))), some (.inl mx_), some (.inl m_), none, none, none, none], [.inr (.inr (some (1, 0)))], sm_pI S_ 3 dd_ 1 vx9_)) rfl ?_
          refine sm_T_gr rfl rfl ((hFx11_.2.1 1 0 1 rfl).trans hd_) ?_
          refine sm_T_go 3 (c1 := (212, [some (.inr (.inr (some (1, 0)))), some (.inl mx_), some (.inl m_), none, none, none, none], [.inl mx_, .inr (.inr (some (31, 0))), .inr (.inr (some (3, dd_)))], sm_pI S_ 3 dd_ 1 vx9_)) rfl ?_
          refine sm_T_iald (n := 16) rfl rfl (by omega) (by omega) ?_
          have bx13_ : 0 ≤ S_.2.2.1 31 0 mx_.toNat ∧ S_.2.2.1 31 0 mx_.toNat ≤ 100000 := hI_.2 31 0 _
          have hIx14_ : gi (sm_pI (sm_pI S_ 3 dd_ 1 vx9_) 3 dd_ 2 (S_.2.2.1 31 0 mx_.toNat)) := gi_pI hIx10_ (show 0 ≤ (S_.2.2.1 31 0 mx_.toNat) ∧ (S_.2.2.1 31 0 mx_.toNat) ≤ 100000 from ⟨by omega, by omega⟩)
          have hFx15_ : ai_fr (sx_W vw_32d) S0_ (sm_pI (sm_pI S_ 3 dd_ 1 vx9_) 3 dd_ 2 (S_.2.2.1 31 0 mx_.toNat)) := ai_fr_tr hFx11_ (ai_fr_pI rfl)
          have hDx16_ : idf dd_ S0_ (sm_pI (sm_pI S_ 3 dd_ 1 vx9_) 3 dd_ 2 (S_.2.2.1 31 0 mx_.toNat)) := idf_pI hDx12_ (Or.inr rfl)
          refine sm_T_go 2 (c1 := (217, [some (.inr (.inr (some (1, 0)))), some (.inl mx_), some (.inl m_), none, none, none, none], [.inr (.inr (some (1, 0)))], sm_pI (sm_pI S_ 3 dd_ 1 vx9_) 3 dd_ 2 (S_.2.2.1 31 0 mx_.toNat))) rfl ?_
          refine sm_T_gr rfl rfl ((hFx15_.2.1 1 0 1 rfl).trans hd_) ?_
          refine sm_T_go 3 (c1 := (223, [some (.inr (.inr (some (1, 0)))), some (.inl mx_), some (.inl m_), none, none, none, none], [.inl 1, .inl mx_, .inr (.inr (some (1, 0))), .inr (.inr (some (3, dd_)))], sm_pI (sm_pI S_ 3 dd_ 1 vx9_) 3 dd_ 2 (S_.2.2.1 31 0 mx_.toNat))) rfl ?_
          refine sm_T_cal (d1 := 0) (Q1 := vq_33 mx_ 1 b_ n_ A_ mm_ (sm_pI (sm_pI S_ 3 dd_ 1 vx9_) 3 dd_ 2 (S_.2.2.1 31 0 mx_.toNat))) rfl rfl (by decide) (vc_33 mx_ 1 b_ n_ A_ mm_ (sm_pI (sm_pI S_ 3 dd_ 1 vx9_) 3 dd_ 2 (S_.2.2.1 31 0 mx_.toNat)) hIx14_ (by omega) (by first | exact her1_ mm_ (Nat.le_refl _) | exact er1_fr (her_ mm_ (Nat.le_refl _)) hFx15_ rfl rfl rfl rfl rfl) (by exact hA_)) (fun u_ Sx17_ px20_ => ?_)
          obtain ⟨rfl, vx22_, rfl, px20_⟩ := px20_
          have b223_ := px20_
          have hIx23_ : gi (sm_pI (sm_pI (sm_pI S_ 3 dd_ 1 vx9_) 3 dd_ 2 (S_.2.2.1 31 0 mx_.toNat)) 3 dd_ 3 vx22_) := gi_pI hIx14_ (show 0 ≤ vx22_ ∧ vx22_ ≤ 320 from ⟨by omega, by omega⟩)
          have hFx24_ : ai_fr (sx_W vw_32d) S0_ (sm_pI (sm_pI (sm_pI S_ 3 dd_ 1 vx9_) 3 dd_ 2 (S_.2.2.1 31 0 mx_.toNat)) 3 dd_ 3 vx22_) := ai_fr_tr hFx15_ (ai_fr_pI rfl)
          have hDx25_ : idf dd_ S0_ (sm_pI (sm_pI (sm_pI S_ 3 dd_ 1 vx9_) 3 dd_ 2 (S_.2.2.1 31 0 mx_.toNat)) 3 dd_ 3 vx22_) := idf_pI hDx16_ (Or.inr rfl)
          refine sm_T_go 2 (c1 := (230, [some (.inr (.inr (some (1, 0)))), some (.inl mx_), some (.inl m_), none, none, none, none], [.inr (.inr (some (1, 0)))], sm_pI (sm_pI (sm_pI S_ 3 dd_ 1 vx9_) 3 dd_ 2 (S_.2.2.1 31 0 mx_.toNat)) 3 dd_ 3 vx22_)) rfl ?_
          refine sm_T_gr rfl rfl ((hFx24_.2.1 1 0 1 rfl).trans hd_) ?_
          have ex26_ : (sm_pI (sm_pI (sm_pI S_ 3 dd_ 1 vx9_) 3 dd_ 2 (S_.2.2.1 31 0 mx_.toNat)) 3 dd_ 3 vx22_).1 3 dd_ 2 = (S_.2.2.1 31 0 mx_.toNat) := by (try simp only [rf_eq, rf_nk, rf_nt, rd_fa, rd_af, ne_eq, Nat.reduceEqDiff, not_false_eq_true])
          refine sm_T_go 2 (c1 := (238, [some (.inr (.inr (some (1, 0)))), some (.inl mx_), some (.inl m_), none, none, none, none], [.inl 6, .inl ((sm_pI (sm_pI (sm_pI S_ 3 dd_ 1 vx9_) 3 dd_ 2 (S_.2.2.1 31 0 mx_.toNat)) 3 dd_ 3 vx22_).1 3 dd_ 2)], sm_pI (sm_pI (sm_pI S_ 3 dd_ 1 vx9_) 3 dd_ 2 (S_.2.2.1 31 0 mx_.toNat)) 3 dd_ 3 vx22_)) rfl ?_
          refine sm_T_br (a := 4) (z := 23) rfl (fun cx27_ => ?_) (fun cx27_ => ?_)
          · have cx27_ : 6 < ((sm_pI (sm_pI (sm_pI S_ 3 dd_ 1 vx9_) 3 dd_ 2 (S_.2.2.1 31 0 mx_.toNat)) 3 dd_ 3 vx22_).1 3 dd_ 2) := of_decide_eq_true cx27_
            refine sm_T_go 1 (c1 := (263, [some (.inr (.inr (some (1, 0)))), some (.inl mx_), some (.inl m_), none, none, none, none], [.inl 21], sm_pI (sm_pI (sm_pI S_ 3 dd_ 1 vx9_) 3 dd_ 2 (S_.2.2.1 31 0 mx_.toNat)) 3 dd_ 3 vx22_)) rfl ?_
            refine sm_T_ri rfl ⟨_, _, rfl, _, rfl, hIx23_, hFx24_, ?_⟩
            refine ⟨hDx25_, ?_⟩
            refine ⟨?_, ?_, fun _ => ⟨?_, ?_, ?_⟩⟩
            · show _ = p_lm (S_.2.2.1 30 0 mm_) _ (S_.2.2.1 31 0 mm_) _
              unfold p_lm
              rw [← b197_.1, ← b223_.1, ← mI_]
              first | (rw [if_neg (by omega), if_pos (by omega)]) | (rw [if_neg (by omega), if_neg (by omega), if_pos (by omega)]) | (rw [if_neg (by omega), if_neg (by omega), if_neg (by omega)])
            · exact tb_
            · (try simp only [rd_eq, rd_ne, rf_eq, rf_nk, rf_nt, rd_fa, rd_af, rd_fl, rd_al, rd_lf, rd_la, rd_leq, rd_lne, rd_fr, rd_ar, ne_eq, Nat.reduceEqDiff, not_false_eq_true]); exact b197_.1
            · (try simp only [rd_eq, rd_ne, rf_eq, rf_nk, rf_nt, rd_fa, rd_af, rd_fl, rd_al, rd_lf, rd_la, rd_leq, rd_lne, rd_fr, rd_ar, ne_eq, Nat.reduceEqDiff, not_false_eq_true]); rw [mI_]
            · (try simp only [rd_eq, rd_ne, rf_eq, rf_nk, rf_nt, rd_fa, rd_af, rd_fl, rd_al, rd_lf, rd_la, rd_leq, rd_lne, rd_fr, rd_ar, ne_eq, Nat.reduceEqDiff, not_false_eq_true]); exact b223_.1
          · have cx27_ : ¬ (6 < ((sm_pI (sm_pI (sm_pI S_ 3 dd_ 1 vx9_) 3 dd_ 2 (S_.2.2.1 31 0 mx_.toNat)) 3 dd_ 3 vx22_).1 3 dd_ 2)) := of_decide_eq_false cx27_
            refine sm_T_go 1 (c1 := (242, [some (.inr (.inr (some (1, 0)))), some (.inl mx_), some (.inl m_), none, none, none, none], [.inr (.inr (some (1, 0)))], sm_pI (sm_pI (sm_pI S_ 3 dd_ 1 vx9_) 3 dd_ 2 (S_.2.2.1 31 0 mx_.toNat)) 3 dd_ 3 vx22_)) rfl ?_
            refine sm_T_gr rfl rfl ((hFx24_.2.1 1 0 1 rfl).trans hd_) ?_
            have ex28_ : (sm_pI (sm_pI (sm_pI S_ 3 dd_ 1 vx9_) 3 dd_ 2 (S_.2.2.1 31 0 mx_.toNat)) 3 dd_ 3 vx22_).1 3 dd_ 1 = vx9_ := by (try simp only [rf_eq, rf_nk, rf_nt, rd_fa, rd_af, ne_eq, Nat.reduceEqDiff, not_false_eq_true])
            refine sm_T_go 2 (c1 := (249, [some (.inr (.inr (some (1, 0)))), some (.inl mx_), some (.inl m_), none, none, none, none], [.inr (.inr (some (1, 0))), .inl ((sm_pI (sm_pI (sm_pI S_ 3 dd_ 1 vx9_) 3 dd_ 2 (S_.2.2.1 31 0 mx_.toNat)) 3 dd_ 3 vx22_).1 3 dd_ 1)], sm_pI (sm_pI (sm_pI S_ 3 dd_ 1 vx9_) 3 dd_ 2 (S_.2.2.1 31 0 mx_.toNat)) 3 dd_ 3 vx22_)) rfl ?_
            refine sm_T_gr rfl rfl ((hFx24_.2.1 1 0 1 rfl).trans hd_) ?_
            have ex29_ : (sm_pI (sm_pI (sm_pI S_ 3 dd_ 1 vx9_) 3 dd_ 2 (S_.2.2.1 31 0 mx_.toNat)) 3 dd_ 3 vx22_).1 3 dd_ 2 = (S_.2.2.1 31 0 mx_.toNat) := by (try simp only [rf_eq, rf_nk, rf_nt, rd_fa, rd_af, ne_eq, Nat.reduceEqDiff, not_false_eq_true])
            refine sm_T_go 1 (c1 := (255, [some (.inr (.inr (some (1, 0)))), some (.inl mx_), some (.inl m_), none, none, none, none], [.inl ((sm_pI (sm_pI (sm_pI S_ 3 dd_ 1 vx9_) 3 dd_ 2 (S_.2.2.1 31 0 mx_.toNat)) 3 dd_ 3 vx22_).1 3 dd_ 2), .inl ((sm_pI (sm_pI (sm_pI S_ 3 dd_ 1 vx9_) 3 dd_ 2 (S_.2.2.1 31 0 mx_.toNat)) 3 dd_ 3 vx22_).1 3 dd_ 1)], sm_pI (sm_pI (sm_pI S_ 3 dd_ 1 vx9_) 3 dd_ 2 (S_.2.2.1 31 0 mx_.toNat)) 3 dd_ 3 vx22_)) rfl ?_
            refine sm_T_bin (w := ((sm_pI (sm_pI (sm_pI S_ 3 dd_ 1 vx9_) 3 dd_ 2 (S_.2.2.1 31 0 mx_.toNat)) 3 dd_ 3 vx22_).1 3 dd_ 1) + ((sm_pI (sm_pI (sm_pI S_ 3 dd_ 1 vx9_) 3 dd_ 2 (S_.2.2.1 31 0 mx_.toNat)) 3 dd_ 3 vx22_).1 3 dd_ 2)) rfl (bi_add (by omega) (by omega) (by omega)) ?_
            refine sm_T_go 1 (c1 := (258, [some (.inr (.inr (some (1, 0)))), some (.inl mx_), some (.inl m_), none, none, none, none], [.inl 12, .inl (((sm_pI (sm_pI (sm_pI S_ 3 dd_ 1 vx9_) 3 dd_ 2 (S_.2.2.1 31 0 mx_.toNat)) 3 dd_ 3 vx22_).1 3 dd_ 1) + ((sm_pI (sm_pI (sm_pI S_ 3 dd_ 1 vx9_) 3 dd_ 2 (S_.2.2.1 31 0 mx_.toNat)) 3 dd_ 3 vx22_).1 3 dd_ 2))], sm_pI (sm_pI (sm_pI S_ 3 dd_ 1 vx9_) 3 dd_ 2 (S_.2.2.1 31 0 mx_.toNat)) 3 dd_ 3 vx22_)) rfl ?_
            refine sm_T_br (a := 5) (z := 6) rfl (fun cx30_ => ?_) (fun cx30_ => ?_)
            · have cx30_ : ((sm_pI (sm_pI (sm_pI S_ 3 dd_ 1 vx9_) 3 dd_ 2 (S_.2.2.1 31 0 mx_.toNat)) 3 dd_ 3 vx22_).1 3 dd_ 1) + ((sm_pI (sm_pI (sm_pI S_ 3 dd_ 1 vx9_) 3 dd_ 2 (S_.2.2.1 31 0 mx_.toNat)) 3 dd_ 3 vx22_).1 3 dd_ 2) ≤ 12 := of_decide_eq_true cx30_
              refine sm_T_go 1 (c1 := (265, [some (.inr (.inr (some (1, 0)))), some (.inl mx_), some (.inl m_), none, none, none, none], [.inr (.inr (some (1, 0)))], sm_pI (sm_pI (sm_pI S_ 3 dd_ 1 vx9_) 3 dd_ 2 (S_.2.2.1 31 0 mx_.toNat)) 3 dd_ 3 vx22_)) rfl ?_
              refine sm_T_gr rfl rfl ((hFx24_.2.1 1 0 1 rfl).trans hd_) ?_
              have ex31_ : (sm_pI (sm_pI (sm_pI S_ 3 dd_ 1 vx9_) 3 dd_ 2 (S_.2.2.1 31 0 mx_.toNat)) 3 dd_ 3 vx22_).1 3 dd_ 3 = vx22_ := by (try simp only [rf_eq, rf_nk, rf_nt, rd_fa, rd_af, ne_eq, Nat.reduceEqDiff, not_false_eq_true])
              refine sm_T_go 2 (c1 := (272, [some (.inr (.inr (some (1, 0)))), some (.inl mx_), some (.inl m_), none, none, none, none], [.inl 1, .inl ((sm_pI (sm_pI (sm_pI S_ 3 dd_ 1 vx9_) 3 dd_ 2 (S_.2.2.1 31 0 mx_.toNat)) 3 dd_ 3 vx22_).1 3 dd_ 3)], sm_pI (sm_pI (sm_pI S_ 3 dd_ 1 vx9_) 3 dd_ 2 (S_.2.2.1 31 0 mx_.toNat)) 3 dd_ 3 vx22_)) rfl ?_
              refine sm_T_br (a := 2) (z := 15) rfl (fun cx32_ => ?_) (fun cx32_ => ?_)
              · have cx32_ : ((sm_pI (sm_pI (sm_pI S_ 3 dd_ 1 vx9_) 3 dd_ 2 (S_.2.2.1 31 0 mx_.toNat)) 3 dd_ 3 vx22_).1 3 dd_ 3) < 1 := of_decide_eq_true cx32_
                refine sm_T_go 2 (c1 := (293, [some (.inr (.inr (some (1, 0)))), some (.inl mx_), some (.inl m_), none, none, none, none], [.inl 22], sm_pI (sm_pI (sm_pI S_ 3 dd_ 1 vx9_) 3 dd_ 2 (S_.2.2.1 31 0 mx_.toNat)) 3 dd_ 3 vx22_)) rfl ?_
                refine sm_T_ri rfl ⟨_, _, rfl, _, rfl, hIx23_, hFx24_, ?_⟩
                refine ⟨hDx25_, ?_⟩
                refine ⟨?_, ?_, fun _ => ⟨?_, ?_, ?_⟩⟩
                · show _ = p_lm (S_.2.2.1 30 0 mm_) _ (S_.2.2.1 31 0 mm_) _
                  unfold p_lm
                  rw [← b197_.1, ← b223_.1, ← mI_]
                  first | (rw [if_neg (by omega), if_pos (by omega)]) | (rw [if_neg (by omega), if_neg (by omega), if_pos (by omega)]) | (rw [if_neg (by omega), if_neg (by omega), if_neg (by omega)])
                · exact tb_
                · (try simp only [rd_eq, rd_ne, rf_eq, rf_nk, rf_nt, rd_fa, rd_af, rd_fl, rd_al, rd_lf, rd_la, rd_leq, rd_lne, rd_fr, rd_ar, ne_eq, Nat.reduceEqDiff, not_false_eq_true]); exact b197_.1
                · (try simp only [rd_eq, rd_ne, rf_eq, rf_nk, rf_nt, rd_fa, rd_af, rd_fl, rd_al, rd_lf, rd_la, rd_leq, rd_lne, rd_fr, rd_ar, ne_eq, Nat.reduceEqDiff, not_false_eq_true]); rw [mI_]
                · (try simp only [rd_eq, rd_ne, rf_eq, rf_nk, rf_nt, rd_fa, rd_af, rd_fl, rd_al, rd_lf, rd_la, rd_leq, rd_lne, rd_fr, rd_ar, ne_eq, Nat.reduceEqDiff, not_false_eq_true]); exact b223_.1
              · have cx32_ : ¬ (((sm_pI (sm_pI (sm_pI S_ 3 dd_ 1 vx9_) 3 dd_ 2 (S_.2.2.1 31 0 mx_.toNat)) 3 dd_ 3 vx22_).1 3 dd_ 3) < 1) := of_decide_eq_false cx32_
                refine sm_T_go 1 (c1 := (276, [some (.inr (.inr (some (1, 0)))), some (.inl mx_), some (.inl m_), none, none, none, none], [.inr (.inr (some (1, 0)))], sm_pI (sm_pI (sm_pI S_ 3 dd_ 1 vx9_) 3 dd_ 2 (S_.2.2.1 31 0 mx_.toNat)) 3 dd_ 3 vx22_)) rfl ?_
                refine sm_T_gr rfl rfl ((hFx24_.2.1 1 0 1 rfl).trans hd_) ?_
                have ex33_ : (sm_pI (sm_pI (sm_pI S_ 3 dd_ 1 vx9_) 3 dd_ 2 (S_.2.2.1 31 0 mx_.toNat)) 3 dd_ 3 vx22_).1 3 dd_ 3 = vx22_ := by (try simp only [rf_eq, rf_nk, rf_nt, rd_fa, rd_af, ne_eq, Nat.reduceEqDiff, not_false_eq_true])
                refine sm_T_go 2 (c1 := (284, [some (.inr (.inr (some (1, 0)))), some (.inl mx_), some (.inl m_), none, none, none, none], [.inl 16, .inl ((sm_pI (sm_pI (sm_pI S_ 3 dd_ 1 vx9_) 3 dd_ 2 (S_.2.2.1 31 0 mx_.toNat)) 3 dd_ 3 vx22_).1 3 dd_ 3)], sm_pI (sm_pI (sm_pI S_ 3 dd_ 1 vx9_) 3 dd_ 2 (S_.2.2.1 31 0 mx_.toNat)) 3 dd_ 3 vx22_)) rfl ?_
                refine sm_T_br (a := 5) (z := 8) rfl (fun cx34_ => ?_) (fun cx34_ => ?_)
                · have cx34_ : ((sm_pI (sm_pI (sm_pI S_ 3 dd_ 1 vx9_) 3 dd_ 2 (S_.2.2.1 31 0 mx_.toNat)) 3 dd_ 3 vx22_).1 3 dd_ 3) ≤ 16 := of_decide_eq_true cx34_
                  refine sm_T_go 1 (c1 := (293, [some (.inr (.inr (some (1, 0)))), some (.inl mx_), some (.inl m_), none, none, none, none], [.inl 0], sm_pI (sm_pI (sm_pI S_ 3 dd_ 1 vx9_) 3 dd_ 2 (S_.2.2.1 31 0 mx_.toNat)) 3 dd_ 3 vx22_)) rfl ?_
                  refine sm_T_ri rfl ⟨_, _, rfl, _, rfl, hIx23_, hFx24_, ?_⟩
                  refine ⟨hDx25_, ?_⟩
                  refine ⟨?_, ?_, fun _ => ⟨?_, ?_, ?_⟩⟩
                  · show _ = p_lm (S_.2.2.1 30 0 mm_) _ (S_.2.2.1 31 0 mm_) _
                    unfold p_lm
                    rw [← b197_.1, ← b223_.1, ← mI_]
                    first | (rw [if_neg (by omega), if_pos (by omega)]) | (rw [if_neg (by omega), if_neg (by omega), if_pos (by omega)]) | (rw [if_neg (by omega), if_neg (by omega), if_neg (by omega)])
                  · exact tb_
                  · (try simp only [rd_eq, rd_ne, rf_eq, rf_nk, rf_nt, rd_fa, rd_af, rd_fl, rd_al, rd_lf, rd_la, rd_leq, rd_lne, rd_fr, rd_ar, ne_eq, Nat.reduceEqDiff, not_false_eq_true]); exact b197_.1
                  · (try simp only [rd_eq, rd_ne, rf_eq, rf_nk, rf_nt, rd_fa, rd_af, rd_fl, rd_al, rd_lf, rd_la, rd_leq, rd_lne, rd_fr, rd_ar, ne_eq, Nat.reduceEqDiff, not_false_eq_true]); rw [mI_]
                  · (try simp only [rd_eq, rd_ne, rf_eq, rf_nk, rf_nt, rd_fa, rd_af, rd_fl, rd_al, rd_lf, rd_la, rd_leq, rd_lne, rd_fr, rd_ar, ne_eq, Nat.reduceEqDiff, not_false_eq_true]); exact b223_.1
                · have cx34_ : ¬ (((sm_pI (sm_pI (sm_pI S_ 3 dd_ 1 vx9_) 3 dd_ 2 (S_.2.2.1 31 0 mx_.toNat)) 3 dd_ 3 vx22_).1 3 dd_ 3) ≤ 16) := of_decide_eq_false cx34_
                  refine sm_T_go 2 (c1 := (293, [some (.inr (.inr (some (1, 0)))), some (.inl mx_), some (.inl m_), none, none, none, none], [.inl 22], sm_pI (sm_pI (sm_pI S_ 3 dd_ 1 vx9_) 3 dd_ 2 (S_.2.2.1 31 0 mx_.toNat)) 3 dd_ 3 vx22_)) rfl ?_
                  refine sm_T_ri rfl ⟨_, _, rfl, _, rfl, hIx23_, hFx24_, ?_⟩
                  refine ⟨hDx25_, ?_⟩
                  refine ⟨?_, ?_, fun _ => ⟨?_, ?_, ?_⟩⟩
                  · show _ = p_lm (S_.2.2.1 30 0 mm_) _ (S_.2.2.1 31 0 mm_) _
                    unfold p_lm
                    rw [← b197_.1, ← b223_.1, ← mI_]
                    first | (rw [if_neg (by omega), if_pos (by omega)]) | (rw [if_neg (by omega), if_neg (by omega), if_pos (by omega)]) | (rw [if_neg (by omega), if_neg (by omega), if_neg (by omega)])
                  · exact tb_
                  · (try simp only [rd_eq, rd_ne, rf_eq, rf_nk, rf_nt, rd_fa, rd_af, rd_fl, rd_al, rd_lf, rd_la, rd_leq, rd_lne, rd_fr, rd_ar, ne_eq, Nat.reduceEqDiff, not_false_eq_true]); exact b197_.1
                  · (try simp only [rd_eq, rd_ne, rf_eq, rf_nk, rf_nt, rd_fa, rd_af, rd_fl, rd_al, rd_lf, rd_la, rd_leq, rd_lne, rd_fr, rd_ar, ne_eq, Nat.reduceEqDiff, not_false_eq_true]); rw [mI_]
                  · (try simp only [rd_eq, rd_ne, rf_eq, rf_nk, rf_nt, rd_fa, rd_af, rd_fl, rd_al, rd_lf, rd_la, rd_leq, rd_lne, rd_fr, rd_ar, ne_eq, Nat.reduceEqDiff, not_false_eq_true]); exact b223_.1
            · have cx30_ : ¬ (((sm_pI (sm_pI (sm_pI S_ 3 dd_ 1 vx9_) 3 dd_ 2 (S_.2.2.1 31 0 mx_.toNat)) 3 dd_ 3 vx22_).1 3 dd_ 1) + ((sm_pI (sm_pI (sm_pI S_ 3 dd_ 1 vx9_) 3 dd_ 2 (S_.2.2.1 31 0 mx_.toNat)) 3 dd_ 3 vx22_).1 3 dd_ 2) ≤ 12) := of_decide_eq_false cx30_
              refine sm_T_go 1 (c1 := (263, [some (.inr (.inr (some (1, 0)))), some (.inl mx_), some (.inl m_), none, none, none, none], [.inl 21], sm_pI (sm_pI (sm_pI S_ 3 dd_ 1 vx9_) 3 dd_ 2 (S_.2.2.1 31 0 mx_.toNat)) 3 dd_ 3 vx22_)) rfl ?_
              refine sm_T_ri rfl ⟨_, _, rfl, _, rfl, hIx23_, hFx24_, ?_⟩
              refine ⟨hDx25_, ?_⟩
              refine ⟨?_, ?_, fun _ => ⟨?_, ?_, ?_⟩⟩
              · show _ = p_lm (S_.2.2.1 30 0 mm_) _ (S_.2.2.1 31 0 mm_) _
                unfold p_lm
                rw [← b197_.1, ← b223_.1, ← mI_]
                first | (rw [if_neg (by omega), if_pos (by omega)]) | (rw [if_neg (by omega), if_neg (by omega), if_pos (by omega)]) | (rw [if_neg (by omega), if_neg (by omega), if_neg (by omega)])
              · exact tb_
              · (try simp only [rd_eq, rd_ne, rf_eq, rf_nk, rf_nt, rd_fa, rd_af, rd_fl, rd_al, rd_lf, rd_la, rd_leq, rd_lne, rd_fr, rd_ar, ne_eq, Nat.reduceEqDiff, not_false_eq_true]); exact b197_.1
              · (try simp only [rd_eq, rd_ne, rf_eq, rf_nk, rf_nt, rd_fa, rd_af, rd_fl, rd_al, rd_lf, rd_la, rd_leq, rd_lne, rd_fr, rd_ar, ne_eq, Nat.reduceEqDiff, not_false_eq_true]); rw [mI_]
              · (try simp only [rd_eq, rd_ne, rf_eq, rf_nk, rf_nt, rd_fa, rd_af, rd_fl, rd_al, rd_lf, rd_la, rd_leq, rd_lne, rd_fr, rd_ar, ne_eq, Nat.reduceEqDiff, not_false_eq_true]); exact b223_.1
        · have cx3_ : ¬ ((S_.2.2.1 30 0 mx_.toNat) ≤ 200) := of_decide_eq_false cx3_
          refine sm_T_go 1 (c1 := (189, [some (.inr (.inr (some (1, 0)))), some (.inl mx_), some (.inl m_), none, none, none, none], [.inl 20], S_)) rfl ?_
          refine sm_T_ri rfl ⟨_, _, rfl, _, rfl, hI_, hF_, ?_⟩
          refine ⟨hD_, ?_⟩
          refine ⟨?_, tb_, fun z_ => absurd rfl z_⟩
          unfold p_lm; rw [← mI_, if_pos (by omega)]
      · have cx1_ : ¬ (mx_ < m_) := of_decide_eq_false cx1_
        refine sm_T_go 6 (c1 := (15, [some (.inr (.inr (some (1, 0)))), some (.inl mx_), some (.inl m_), some (.inl 0), some (.inl 0), some (.inl 0), none], [], S_)) rfl ?_
        refine ih_.2 m_ 0 0 0 S_ hI_ hF_ ⟨?_, ?_, ?_, ?_, ?_, ?_, ?_, trivial⟩ ?_
        · omega
        · omega
        · rfl
        · rfl
        · omega
        · exact h1_
        · exact hD_
        · omega
    · rintro m_ us_ bi_ s_ S_ hI_ hF_ ⟨h0_, hs_, hu_, hb_, hub_, h1_, hD_, -⟩ hm_
      have her1_ : ∀ k_, k_ ≤ mm_ → er1 b_ n_ A_ k_ S_ := fun k_ hk_ => er1_fr (her_ k_ hk_) hF_ rfl rfl rfl rfl rfl
      have dsg_ : S_.2.1 1 0 1 = some dd_ := (hF_.2.1 1 0 1 rfl).trans hd_
      have cn_ : S_.2.2.1 77 0 m_.toNat = (A_.1 m_.toNat : Int) := (her1_ m_.toNat (by omega)).1
      have aM_ := hA_.2 m_.toNat (by omega)
      have A40_ := aM_.1
      have rw1_ : s_ < (A_.1 m_.toNat : Int) → S_.2.2.1 79 0 (40 * m_ + s_).toNat = A_.2.2.1 (40 * m_.toNat + s_.toNat) ∧ S_.2.2.1 80 0 (40 * m_ + s_).toNat = A_.2.2.2.1 (40 * m_.toNat + s_.toNat) ∧ S_.2.2.1 81 0 (40 * m_ + s_).toNat = A_.2.2.2.2 (40 * m_.toNat + s_.toNat) := by intro z_; rw [show (40 * m_ + s_).toNat = 40 * m_.toNat + s_.toNat by omega]; exact ((her1_ m_.toNat (by omega)).2 s_.toNat (by omega)).2
      have ok1_ : s_ < (A_.1 m_.toNat : Int) → (A_.2.2.1 (40 * m_.toNat + s_.toNat) = 5 → 0 ≤ A_.2.2.2.2 (40 * m_.toNat + s_.toNat) ∧ A_.2.2.2.2 (40 * m_.toNat + s_.toNat) < m_) ∧ 0 ≤ A_.2.2.2.1 (40 * m_.toNat + s_.toNat) ∧ A_.2.2.2.1 (40 * m_.toNat + s_.toNat) ≤ 8 := by intro z_; have y_ := aM_.2 s_.toNat (by omega); exact ⟨fun w_ => by have := y_.2.2.2.2.1 w_; omega, y_.2.2.1⟩
      refine sm_T_go 5 (c1 := (25, [some (.inr (.inr (some (1, 0)))), some (.inl mx_), some (.inl m_), some (.inl us_), some (.inl bi_), some (.inl s_), none], [.inl m_, .inr (.inr (some (77, 0))), .inl s_], S_)) rfl ?_
      refine sm_T_iald (n := 17) rfl rfl (by omega) (by omega) ?_
      have bx1_ : 0 ≤ S_.2.2.1 77 0 m_.toNat ∧ S_.2.2.1 77 0 m_.toNat ≤ 40 := hI_.2 77 0 _
      refine sm_T_br (a := 3) (z := 118) rfl (fun cx2_ => ?_) (fun cx2_ => ?_)
      · have cx2_ : (S_.2.2.1 77 0 m_.toNat) ≤ s_ := of_decide_eq_true cx2_
        refine sm_T_go 4 (c1 := (150, [some (.inr (.inr (some (1, 0)))), some (.inl mx_), some (.inl m_), some (.inl us_), some (.inl bi_), some (.inl s_), none], [.inl us_, .inl m_, .inr (.inr (some (30, 0)))], S_)) rfl ?_
        refine sm_T_nt (u := some (.inl 100000)) (S1 := S_) rfl rfl rfl ?_
        refine sm_T_nt (u := some (.inl (sm_mn us_ 100000))) (S1 := S_) rfl rfl rfl ?_
        have bx3_ := sm_mn_d us_ 100000
        refine sm_T_iast (n := 16) rfl rfl (by omega) (by omega) ?_
        have hIx4_ : gi (sm_aI S_ 30 0 m_.toNat (sm_mn us_ 100000)) := gi_aI hI_ (show 0 ≤ (sm_mn us_ 100000) ∧ (sm_mn us_ 100000) ≤ 100000 from ⟨by omega, by omega⟩)
        have hFx5_ : ai_fr (sx_W vw_32d) S0_ (sm_aI S_ 30 0 m_.toNat (sm_mn us_ 100000)) := ai_fr_tr hF_ (ai_fr_aI rfl)
        have hDx6_ : idf dd_ S0_ (sm_aI S_ 30 0 m_.toNat (sm_mn us_ 100000)) := idf_aI hD_ (Or.inl (by decide))
        refine sm_T_go 4 (c1 := (163, [some (.inr (.inr (some (1, 0)))), some (.inl mx_), some (.inl m_), some (.inl us_), some (.inl bi_), some (.inl s_), none], [.inl bi_, .inl m_, .inr (.inr (some (31, 0)))], sm_aI S_ 30 0 m_.toNat (sm_mn us_ 100000))) rfl ?_
        refine sm_T_nt (u := some (.inl 100000)) (S1 := sm_aI S_ 30 0 m_.toNat (sm_mn us_ 100000)) rfl rfl rfl ?_
        refine sm_T_nt (u := some (.inl (sm_mn bi_ 100000))) (S1 := sm_aI S_ 30 0 m_.toNat (sm_mn us_ 100000)) rfl rfl rfl ?_
        have bx7_ := sm_mn_d bi_ 100000
        refine sm_T_iast (n := 16) rfl rfl (by omega) (by omega) ?_
        have hIx8_ : gi (sm_aI (sm_aI S_ 30 0 m_.toNat (sm_mn us_ 100000)) 31 0 m_.toNat (sm_mn bi_ 100000)) := gi_aI hIx4_ (show 0 ≤ (sm_mn bi_ 100000) ∧ (sm_mn bi_ 100000) ≤ 100000 from ⟨by omega, by omega⟩)
        have hFx9_ : ai_fr (sx_W vw_32d) S0_ (sm_aI (sm_aI S_ 30 0 m_.toNat (sm_mn us_ 100000)) 31 0 m_.toNat (sm_mn bi_ 100000)) := ai_fr_tr hFx5_ (ai_fr_aI rfl)
        have hDx10_ : idf dd_ S0_ (sm_aI (sm_aI S_ 30 0 m_.toNat (sm_mn us_ 100000)) 31 0 m_.toNat (sm_mn bi_ 100000)) := idf_aI hDx6_ (Or.inl (by decide))
        refine sm_T_inc (a := 2) (z := 1) (v := m_) (w := m_ + 1) rfl rfl (by omega) (by omega) (by omega) ?_
        refine sm_T_go 1 (c1 := (2, [some (.inr (.inr (some (1, 0)))), some (.inl mx_), some (.inl (m_ + 1)), some (.inl us_), some (.inl bi_), some (.inl s_), none], [], sm_aI (sm_aI S_ 30 0 m_.toNat (sm_mn us_ 100000)) 31 0 m_.toNat (sm_mn bi_ 100000))) rfl ?_
        refine sm_T_wk [some (.inr (.inr (some (1, 0)))), some (.inl mx_), some (.inl (m_ + 1)), none, none, none, none] (by exact ⟨rfl, rfl, rfl, trivial⟩) ?_
        refine ih_.1 (m_ + 1) (sm_aI (sm_aI S_ 30 0 m_.toNat (sm_mn us_ 100000)) 31 0 m_.toNat (sm_mn bi_ 100000)) hIx8_ hFx9_ ⟨?_, ?_, ?_, trivial⟩ ?_
        · omega
        · rw [show (m_ + 1).toNat = m_.toNat + 1 by omega]
          have es_ : s_.toNat = A_.1 m_.toNat := by omega
          rw [es_] at hu_ hb_
          exact lt1_up (a_ok_le hA_ (by omega)) h1_ (fun j_ => by rw [rd_ne (by decide), rd_eq, sm_mc, hu_]) (fun j_ => by rw [rd_eq, rd_ne (by decide), sm_mc, hb_])
        · exact hDx10_
        · omega
      · have cx2_ : ¬ ((S_.2.2.1 77 0 m_.toNat) ≤ s_) := of_decide_eq_false cx2_
        obtain ⟨r79_, r80_, r81_⟩ := rw1_ (by omega)
        obtain ⟨ok5_, okw_⟩ := ok1_ (by omega)
        refine sm_T_go 2 (c1 := (32, [some (.inr (.inr (some (1, 0)))), some (.inl mx_), some (.inl m_), some (.inl us_), some (.inl bi_), some (.inl s_), none], [.inl 40, .inl m_], S_)) rfl ?_
        refine sm_T_bin (w := 40 * m_) rfl (bi_mul (by omega) (by omega) (by omega)) ?_
        refine sm_T_go 1 (c1 := (35, [some (.inr (.inr (some (1, 0)))), some (.inl mx_), some (.inl m_), some (.inl us_), some (.inl bi_), some (.inl s_), none], [.inl s_, .inl (40 * m_)], S_)) rfl ?_
        refine sm_T_bin (w := 40 * m_ + s_) rfl (bi_add (by omega) (by omega) (by omega)) ?_
        refine sm_T_go 5 (c1 := (47, [some (.inr (.inr (some (1, 0)))), some (.inl mx_), some (.inl m_), some (.inl us_), some (.inl bi_), some (.inl s_), some (.inl (40 * m_ + s_))], [.inl (40 * m_ + s_), .inr (.inr (some (79, 0)))], S_)) rfl ?_
        refine sm_T_iald (n := 640) rfl rfl (by omega) (by omega) ?_
        have bx11_ : 0 ≤ S_.2.2.1 79 0 (40 * m_ + s_).toNat ∧ S_.2.2.1 79 0 (40 * m_ + s_).toNat ≤ 5 := hI_.2 79 0 _
        refine sm_T_go 1 (c1 := (49, [some (.inr (.inr (some (1, 0)))), some (.inl mx_), some (.inl m_), some (.inl us_), some (.inl bi_), some (.inl s_), some (.inl (40 * m_ + s_))], [.inl 5, .inl (S_.2.2.1 79 0 (40 * m_ + s_).toNat)], S_)) rfl ?_
        refine sm_T_br (a := 1) (z := 46) rfl (fun cx12_ => ?_) (fun cx12_ => ?_)
        · have cx12_ : (S_.2.2.1 79 0 (40 * m_ + s_).toNat) ≠ 5 := of_decide_eq_true cx12_
          refine sm_T_go 4 (c1 := (104, [some (.inr (.inr (some (1, 0)))), some (.inl mx_), some (.inl m_), some (.inl us_), some (.inl bi_), some (.inl s_), some (.inl (40 * m_ + s_))], [.inl (40 * m_ + s_), .inr (.inr (some (79, 0)))], S_)) rfl ?_
          refine sm_T_iald (n := 640) rfl rfl (by omega) (by omega) ?_
          refine sm_T_go 1 (c1 := (106, [some (.inr (.inr (some (1, 0)))), some (.inl mx_), some (.inl m_), some (.inl us_), some (.inl bi_), some (.inl s_), some (.inl (40 * m_ + s_))], [.inl 3, .inl (S_.2.2.1 79 0 (40 * m_ + s_).toNat)], S_)) rfl ?_
          refine sm_T_br (a := 0) (z := 17) rfl (fun cx13_ => ?_) (fun cx13_ => ?_)
          · have cx13_ : (S_.2.2.1 79 0 (40 * m_ + s_).toNat) = 3 := of_decide_eq_true cx13_
            refine sm_T_go 5 (c1 := (134, [some (.inr (.inr (some (1, 0)))), some (.inl mx_), some (.inl m_), some (.inl us_), some (.inl bi_), some (.inl s_), some (.inl (40 * m_ + s_))], [.inl (40 * m_ + s_), .inr (.inr (some (80, 0))), .inl bi_], S_)) rfl ?_
            refine sm_T_iald (n := 640) rfl rfl (by omega) (by omega) ?_
            have bx14_ : 0 ≤ S_.2.2.1 80 0 (40 * m_ + s_).toNat ∧ S_.2.2.1 80 0 (40 * m_ + s_).toNat ≤ 8 := hI_.2 80 0 _
            refine sm_T_bin (w := bi_ + (S_.2.2.1 80 0 (40 * m_ + s_).toNat)) rfl (bi_add (by omega) (by omega) (by omega)) ?_
            refine sm_T_go 1 (c1 := (138, [some (.inr (.inr (some (1, 0)))), some (.inl mx_), some (.inl m_), some (.inl us_), some (.inl (bi_ + (S_.2.2.1 80 0 (40 * m_ + s_).toNat))), some (.inl s_), some (.inl (40 * m_ + s_))], [], S_)) rfl ?_
            refine sm_T_inc (a := 5) (z := 1) (v := s_) (w := s_ + 1) rfl rfl (by omega) (by omega) (by omega) ?_
            refine sm_T_go 1 (c1 := (15, [some (.inr (.inr (some (1, 0)))), some (.inl mx_), some (.inl m_), some (.inl us_), some (.inl (bi_ + (S_.2.2.1 80 0 (40 * m_ + s_).toNat))), some (.inl (s_ + 1)), some (.inl (40 * m_ + s_))], [], S_)) rfl ?_
            refine sm_T_wk [some (.inr (.inr (some (1, 0)))), some (.inl mx_), some (.inl m_), some (.inl us_), some (.inl (bi_ + (S_.2.2.1 80 0 (40 * m_ + s_).toNat))), some (.inl (s_ + 1)), none] (by exact ⟨rfl, rfl, rfl, rfl, rfl, rfl, trivial⟩) ?_
            refine ih_.2 m_ us_ (bi_ + (S_.2.2.1 80 0 (40 * m_ + s_).toNat)) (s_ + 1) S_ hI_ hF_ ⟨?_, ?_, ?_, ?_, ?_, ?_, ?_, trivial⟩ ?_
            · omega
            · omega
            · rw [show (s_ + 1).toNat = s_.toNat + 1 by omega]
              show _ = su (t_is (S_.2.2.1 30 0) A_ m_.toNat) s_.toNat + (if A_.2.2.1 (40 * m_.toNat + s_.toNat) = 5 then 1 + S_.2.2.1 30 0 (A_.2.2.2.2 (40 * m_.toNat + s_.toNat)).toNat else 0)
              first | (rw [if_pos (by omega), ← r81_]; omega) | (rw [if_neg (by omega)]; omega)
            · rw [show (s_ + 1).toNat = s_.toNat + 1 by omega]
              show _ = su (t_rg (S_.2.2.1 31 0) A_ m_.toNat) s_.toNat + (if A_.2.2.1 (40 * m_.toNat + s_.toNat) = 3 ∨ A_.2.2.1 (40 * m_.toNat + s_.toNat) = 4 then A_.2.2.2.1 (40 * m_.toNat + s_.toNat) else if A_.2.2.1 (40 * m_.toNat + s_.toNat) = 5 then S_.2.2.1 31 0 (A_.2.2.2.2 (40 * m_.toNat + s_.toNat)).toNat else 0)
              first | (rw [if_pos (by omega)]; omega) | (rw [if_neg (by omega), if_pos (by omega), ← r81_]; omega) | (rw [if_neg (by omega), if_neg (by omega)]; omega)
            · omega
            · exact h1_
            · exact hD_
            · omega
          · have cx13_ : ¬ ((S_.2.2.1 79 0 (40 * m_ + s_).toNat) = 3) := of_decide_eq_false cx13_
            refine sm_T_go 4 (c1 := (118, [some (.inr (.inr (some (1, 0)))), some (.inl mx_), some (.inl m_), some (.inl us_), some (.inl bi_), some (.inl s_), some (.inl (40 * m_ + s_))], [.inl (40 * m_ + s_), .inr (.inr (some (79, 0)))], S_)) rfl ?_
            refine sm_T_iald (n := 640) rfl rfl (by omega) (by omega) ?_
            refine sm_T_go 1 (c1 := (120, [some (.inr (.inr (some (1, 0)))), some (.inl mx_), some (.inl m_), some (.inl us_), some (.inl bi_), some (.inl s_), some (.inl (40 * m_ + s_))], [.inl 4, .inl (S_.2.2.1 79 0 (40 * m_ + s_).toNat)], S_)) rfl ?_
            refine sm_T_br (a := 1) (z := 18) rfl (fun cx15_ => ?_) (fun cx15_ => ?_)
            · have cx15_ : (S_.2.2.1 79 0 (40 * m_ + s_).toNat) ≠ 4 := of_decide_eq_true cx15_
              refine sm_T_inc (a := 5) (z := 1) (v := s_) (w := s_ + 1) rfl rfl (by omega) (by omega) (by omega) ?_
              refine sm_T_go 1 (c1 := (15, [some (.inr (.inr (some (1, 0)))), some (.inl mx_), some (.inl m_), some (.inl us_), some (.inl bi_), some (.inl (s_ + 1)), some (.inl (40 * m_ + s_))], [], S_)) rfl ?_
              refine sm_T_wk [some (.inr (.inr (some (1, 0)))), some (.inl mx_), some (.inl m_), some (.inl us_), some (.inl bi_), some (.inl (s_ + 1)), none] (by exact ⟨rfl, rfl, rfl, rfl, rfl, rfl, trivial⟩) ?_
              refine ih_.2 m_ us_ bi_ (s_ + 1) S_ hI_ hF_ ⟨?_, ?_, ?_, ?_, ?_, ?_, ?_, trivial⟩ ?_
              · omega
              · omega
              · rw [show (s_ + 1).toNat = s_.toNat + 1 by omega]
                show _ = su (t_is (S_.2.2.1 30 0) A_ m_.toNat) s_.toNat + (if A_.2.2.1 (40 * m_.toNat + s_.toNat) = 5 then 1 + S_.2.2.1 30 0 (A_.2.2.2.2 (40 * m_.toNat + s_.toNat)).toNat else 0)
                first | (rw [if_pos (by omega), ← r81_]; omega) | (rw [if_neg (by omega)]; omega)
              · rw [show (s_ + 1).toNat = s_.toNat + 1 by omega]
                show _ = su (t_rg (S_.2.2.1 31 0) A_ m_.toNat) s_.toNat + (if A_.2.2.1 (40 * m_.toNat + s_.toNat) = 3 ∨ A_.2.2.1 (40 * m_.toNat + s_.toNat) = 4 then A_.2.2.2.1 (40 * m_.toNat + s_.toNat) else if A_.2.2.1 (40 * m_.toNat + s_.toNat) = 5 then S_.2.2.1 31 0 (A_.2.2.2.2 (40 * m_.toNat + s_.toNat)).toNat else 0)
                first | (rw [if_pos (by omega)]; omega) | (rw [if_neg (by omega), if_pos (by omega), ← r81_]; omega) | (rw [if_neg (by omega), if_neg (by omega)]; omega)
              · omega
              · exact h1_
              · exact hD_
              · omega
            · have cx15_ : ¬ ((S_.2.2.1 79 0 (40 * m_ + s_).toNat) ≠ 4) := of_decide_eq_false cx15_
              refine sm_T_go 5 (c1 := (134, [some (.inr (.inr (some (1, 0)))), some (.inl mx_), some (.inl m_), some (.inl us_), some (.inl bi_), some (.inl s_), some (.inl (40 * m_ + s_))], [.inl (40 * m_ + s_), .inr (.inr (some (80, 0))), .inl bi_], S_)) rfl ?_
              refine sm_T_iald (n := 640) rfl rfl (by omega) (by omega) ?_
              have bx16_ : 0 ≤ S_.2.2.1 80 0 (40 * m_ + s_).toNat ∧ S_.2.2.1 80 0 (40 * m_ + s_).toNat ≤ 8 := hI_.2 80 0 _
              refine sm_T_bin (w := bi_ + (S_.2.2.1 80 0 (40 * m_ + s_).toNat)) rfl (bi_add (by omega) (by omega) (by omega)) ?_
              refine sm_T_go 1 (c1 := (138, [some (.inr (.inr (some (1, 0)))), some (.inl mx_), some (.inl m_), some (.inl us_), some (.inl (bi_ + (S_.2.2.1 80 0 (40 * m_ + s_).toNat))), some (.inl s_), some (.inl (40 * m_ + s_))], [], S_)) rfl ?_
              refine sm_T_inc (a := 5) (z := 1) (v := s_) (w := s_ + 1) rfl rfl (by omega) (by omega) (by omega) ?_
              refine sm_T_go 1 (c1 := (15, [some (.inr (.inr (some (1, 0)))), some (.inl mx_), some (.inl m_), some (.inl us_), some (.inl (bi_ + (S_.2.2.1 80 0 (40 * m_ + s_).toNat))), some (.inl (s_ + 1)), some (.inl (40 * m_ + s_))], [], S_)) rfl ?_
              refine sm_T_wk [some (.inr (.inr (some (1, 0)))), some (.inl mx_), some (.inl m_), some (.inl us_), some (.inl (bi_ + (S_.2.2.1 80 0 (40 * m_ + s_).toNat))), some (.inl (s_ + 1)), none] (by exact ⟨rfl, rfl, rfl, rfl, rfl, rfl, trivial⟩) ?_
              refine ih_.2 m_ us_ (bi_ + (S_.2.2.1 80 0 (40 * m_ + s_).toNat)) (s_ + 1) S_ hI_ hF_ ⟨?_, ?_, ?_, ?_, ?_, ?_, ?_, trivial⟩ ?_
              · omega
              · omega
              · rw [show (s_ + 1).toNat = s_.toNat + 1 by omega]
                show _ = su (t_is (S_.2.2.1 30 0) A_ m_.toNat) s_.toNat + (if A_.2.2.1 (40 * m_.toNat + s_.toNat) = 5 then 1 + S_.2.2.1 30 0 (A_.2.2.2.2 (40 * m_.toNat + s_.toNat)).toNat else 0)
                first | (rw [if_pos (by omega), ← r81_]; omega) | (rw [if_neg (by omega)]; omega)
              · rw [show (s_ + 1).toNat = s_.toNat + 1 by omega]
                show _ = su (t_rg (S_.2.2.1 31 0) A_ m_.toNat) s_.toNat + (if A_.2.2.1 (40 * m_.toNat + s_.toNat) = 3 ∨ A_.2.2.1 (40 * m_.toNat + s_.toNat) = 4 then A_.2.2.2.1 (40 * m_.toNat + s_.toNat) else if A_.2.2.1 (40 * m_.toNat + s_.toNat) = 5 then S_.2.2.1 31 0 (A_.2.2.2.2 (40 * m_.toNat + s_.toNat)).toNat else 0)
                first | (rw [if_pos (by omega)]; omega) | (rw [if_neg (by omega), if_pos (by omega), ← r81_]; omega) | (rw [if_neg (by omega), if_neg (by omega)]; omega)
              · omega
              · exact h1_
              · exact hD_
              · omega
        · have cx12_ : ¬ ((S_.2.2.1 79 0 (40 * m_ + s_).toNat) ≠ 5) := of_decide_eq_false cx12_
          have s5_ : A_.2.2.1 (40 * m_.toNat + s_.toNat) = 5 := by omega
          have d5_ := ok5_ s5_
          refine sm_T_go 8 (c1 := (67, [some (.inr (.inr (some (1, 0)))), some (.inl mx_), some (.inl m_), some (.inl us_), some (.inl bi_), some (.inl s_), some (.inl (40 * m_ + s_))], [.inl (40 * m_ + s_), .inr (.inr (some (81, 0))), .inr (.inr (some (30, 0))), .inl 1, .inl us_], S_)) rfl ?_
          refine sm_T_iald (n := 640) rfl rfl (by omega) (by omega) ?_
          have bx17_ : 0 ≤ S_.2.2.1 81 0 (40 * m_ + s_).toNat ∧ S_.2.2.1 81 0 (40 * m_ + s_).toNat ≤ 255 := hI_.2 81 0 _
          refine sm_T_iald (n := 16) rfl rfl (by omega) (by omega) ?_
          have bx18_ : 0 ≤ S_.2.2.1 30 0 (S_.2.2.1 81 0 (40 * m_ + s_).toNat).toNat ∧ S_.2.2.1 30 0 (S_.2.2.1 81 0 (40 * m_ + s_).toNat).toNat ≤ 100000 := hI_.2 30 0 _
          refine sm_T_bin (w := (S_.2.2.1 30 0 (S_.2.2.1 81 0 (40 * m_ + s_).toNat).toNat) + 1) rfl (bi_add (by omega) (by omega) (by omega)) ?_
          refine sm_T_bin (w := us_ + (S_.2.2.1 30 0 (S_.2.2.1 81 0 (40 * m_ + s_).toNat).toNat) + 1) rfl (bi_add (by omega) (by omega) (by omega)) ?_
          refine sm_T_go 8 (c1 := (87, [some (.inr (.inr (some (1, 0)))), some (.inl mx_), some (.inl m_), some (.inl (us_ + (S_.2.2.1 30 0 (S_.2.2.1 81 0 (40 * m_ + s_).toNat).toNat) + 1)), some (.inl bi_), some (.inl s_), some (.inl (40 * m_ + s_))], [.inl (40 * m_ + s_), .inr (.inr (some (81, 0))), .inr (.inr (some (31, 0))), .inl bi_], S_)) rfl ?_
          refine sm_T_iald (n := 640) rfl rfl (by omega) (by omega) ?_
          refine sm_T_iald (n := 16) rfl rfl (by omega) (by omega) ?_
          have bx19_ : 0 ≤ S_.2.2.1 31 0 (S_.2.2.1 81 0 (40 * m_ + s_).toNat).toNat ∧ S_.2.2.1 31 0 (S_.2.2.1 81 0 (40 * m_ + s_).toNat).toNat ≤ 100000 := hI_.2 31 0 _
          refine sm_T_bin (w := bi_ + (S_.2.2.1 31 0 (S_.2.2.1 81 0 (40 * m_ + s_).toNat).toNat)) rfl (bi_add (by omega) (by omega) (by omega)) ?_
          refine sm_T_go 2 (c1 := (138, [some (.inr (.inr (some (1, 0)))), some (.inl mx_), some (.inl m_), some (.inl (us_ + (S_.2.2.1 30 0 (S_.2.2.1 81 0 (40 * m_ + s_).toNat).toNat) + 1)), some (.inl (bi_ + (S_.2.2.1 31 0 (S_.2.2.1 81 0 (40 * m_ + s_).toNat).toNat))), some (.inl s_), some (.inl (40 * m_ + s_))], [], S_)) rfl ?_
          refine sm_T_inc (a := 5) (z := 1) (v := s_) (w := s_ + 1) rfl rfl (by omega) (by omega) (by omega) ?_
          refine sm_T_go 1 (c1 := (15, [some (.inr (.inr (some (1, 0)))), some (.inl mx_), some (.inl m_), some (.inl (us_ + (S_.2.2.1 30 0 (S_.2.2.1 81 0 (40 * m_ + s_).toNat).toNat) + 1)), some (.inl (bi_ + (S_.2.2.1 31 0 (S_.2.2.1 81 0 (40 * m_ + s_).toNat).toNat))), some (.inl (s_ + 1)), some (.inl (40 * m_ + s_))], [], S_)) rfl ?_
          refine sm_T_wk [some (.inr (.inr (some (1, 0)))), some (.inl mx_), some (.inl m_), some (.inl (us_ + (S_.2.2.1 30 0 (S_.2.2.1 81 0 (40 * m_ + s_).toNat).toNat) + 1)), some (.inl (bi_ + (S_.2.2.1 31 0 (S_.2.2.1 81 0 (40 * m_ + s_).toNat).toNat))), some (.inl (s_ + 1)), none] (by exact ⟨rfl, rfl, rfl, rfl, rfl, rfl, trivial⟩) ?_
          refine ih_.2 m_ (us_ + (S_.2.2.1 30 0 (S_.2.2.1 81 0 (40 * m_ + s_).toNat).toNat) + 1) (bi_ + (S_.2.2.1 31 0 (S_.2.2.1 81 0 (40 * m_ + s_).toNat).toNat)) (s_ + 1) S_ hI_ hF_ ⟨?_, ?_, ?_, ?_, ?_, ?_, ?_, trivial⟩ ?_
          · omega
          · omega
          · rw [show (s_ + 1).toNat = s_.toNat + 1 by omega]
            show _ = su (t_is (S_.2.2.1 30 0) A_ m_.toNat) s_.toNat + (if A_.2.2.1 (40 * m_.toNat + s_.toNat) = 5 then 1 + S_.2.2.1 30 0 (A_.2.2.2.2 (40 * m_.toNat + s_.toNat)).toNat else 0)
            first | (rw [if_pos (by omega), ← r81_]; omega) | (rw [if_neg (by omega)]; omega)
          · rw [show (s_ + 1).toNat = s_.toNat + 1 by omega]
            show _ = su (t_rg (S_.2.2.1 31 0) A_ m_.toNat) s_.toNat + (if A_.2.2.1 (40 * m_.toNat + s_.toNat) = 3 ∨ A_.2.2.1 (40 * m_.toNat + s_.toNat) = 4 then A_.2.2.2.1 (40 * m_.toNat + s_.toNat) else if A_.2.2.1 (40 * m_.toNat + s_.toNat) = 5 then S_.2.2.1 31 0 (A_.2.2.2.2 (40 * m_.toNat + s_.toNat)).toNat else 0)
            first | (rw [if_pos (by omega)]; omega) | (rw [if_neg (by omega), if_pos (by omega), ← r81_]; omega) | (rw [if_neg (by omega), if_neg (by omega)]; omega)
          · omega
          · exact h1_
          · exact hD_
          · omega
set_option maxHeartbeats 1500000 in
set_option maxRecDepth 20000 in
theorem vc_32d {sc_ : Nat × (Nat → Int)} (mx_ : Int) (b_ : Nat → Int) (n_ : Nat) (A_ : pA) (mm_ : Nat) (dd_ : Nat) (S0_ : sm_S) (hI_ : gi S0_) (hmx_ : mx_ = (mm_ : Int) ∧ mm_ ≤ 15) (her_ : ∀ k_, k_ ≤ mm_ → er1 b_ n_ A_ k_ S0_) (hA_ : a_ok b_ n_ A_ mm_) (hd_ : S0_.2.1 1 0 1 = some dd_) : sm_T (mt_P sc_) 1 32 (0, [some (.inr (.inr (some (1, 0)))), some (.inl mx_), none, none, none, none, none], [], S0_) (fun ro9_ => ∃ u_ S1_, ro9_ = (.inl u_, S1_, 0) ∧ vq_32d mx_ b_ n_ A_ mm_ dd_ S0_ u_ S1_) := by
  have hF_ : ai_fr (sx_W vw_32d) S0_ S0_ := ai_fr_rf
  have hD_ : idf dd_ S0_ S0_ := idf_rf
  refine sm_T_go 2 (c1 := (2, [some (.inr (.inr (some (1, 0)))), some (.inl mx_), some (.inl 0), none, none, none, none], [], S0_)) rfl ?_
  refine (vl_32d mx_ b_ n_ A_ mm_ dd_ S0_ hmx_ her_ hA_ hd_ _).1 0 S0_ hI_ hF_ ⟨?_, ?_, ?_, trivial⟩ (Nat.lt_succ_self _)
  · omega
  · (intro k_ hk_; exact absurd hk_ (Nat.not_lt_zero _))
  · exact hD_
end
/-! 99.zg2 -/
section
/-! the graph that a right design comes to; written by wip/p55/gen/vg -/

/-! sums of_ all_ modules, and the_ graph that a_ right design comes to_ -/
def sR (A_ : pA) : Nat → Nat → Int
  | 0, _ => 0
  | f_ + 1, m_ => mc (su (t_rg (sR A_ f_) A_ m_) (A_.1 m_))
def sI (A_ : pA) : Nat → Nat → Int
  | 0, _ => 0
  | f_ + 1, m_ => mc (su (t_is (sI A_ f_) A_ m_) (A_.1 m_))
theorem dt_lt {b_ : Nat → Int} {n_ m_ s_ : Nat} {A_ : pA} (h_ : a_ok b_ n_ A_ m_) (hs_ : s_ < A_.1 m_) (h5_ : A_.2.2.1 (40 * m_ + s_) = 5) : (A_.2.2.2.2 (40 * m_ + s_)).toNat < m_ := by
  have := ((h_.2 m_ (Nat.le_refl _)).2 s_ hs_).2.2.2.2.1 h5_
  omega
theorem trg_cg {b_ : Nat → Int} {n_ m_ : Nat} {A_ : pA} {f_ g_ : Nat → Int} (h_ : a_ok b_ n_ A_ m_) (e_ : ∀ d_, d_ < m_ → f_ d_ = g_ d_) : su (t_rg f_ A_ m_) (A_.1 m_) = su (t_rg g_ A_ m_) (A_.1 m_) := su_cg (fun s_ hs_ => by
  unfold t_rg
  by_cases z_ : A_.2.2.1 (40 * m_ + s_) = 3 ∨ A_.2.2.1 (40 * m_ + s_) = 4
  · rw [if_pos z_, if_pos z_]
  · rw [if_neg z_, if_neg z_]
    by_cases z2_ : A_.2.2.1 (40 * m_ + s_) = 5
    · rw [if_pos z2_, if_pos z2_, e_ _ (dt_lt h_ hs_ z2_)]
    · rw [if_neg z2_, if_neg z2_])
theorem tis_cg {b_ : Nat → Int} {n_ m_ : Nat} {A_ : pA} {f_ g_ : Nat → Int} (h_ : a_ok b_ n_ A_ m_) (e_ : ∀ d_, d_ < m_ → f_ d_ = g_ d_) : su (t_is f_ A_ m_) (A_.1 m_) = su (t_is g_ A_ m_) (A_.1 m_) := su_cg (fun s_ hs_ => by
  unfold t_is
  by_cases z2_ : A_.2.2.1 (40 * m_ + s_) = 5
  · rw [if_pos z2_, if_pos z2_, e_ _ (dt_lt h_ hs_ z2_)]
  · rw [if_neg z2_, if_neg z2_])
section SU_
variable {b_ : Nat → Int} {n_ M_ : Nat} {A_ : pA}
theorem sR_st (hA_ : ∀ m_, m_ < M_ → a_ok b_ n_ A_ m_) : ∀ (k_ m_ f_ : Nat), m_ < k_ → m_ < M_ → m_ < f_ → sR A_ f_ m_ = sR A_ (m_ + 1) m_ ∧ sI A_ f_ m_ = sI A_ (m_ + 1) m_
  | 0, _, _, h_, _, _ => absurd h_ (Nat.not_lt_zero _)
  | k_ + 1, m_, f_, hk_, hM_, hf_ => by
    obtain ⟨g_, rfl⟩ : ∃ g_, f_ = g_ + 1 := ⟨f_ - 1, by omega⟩
    constructor
    · show mc (su (t_rg (sR A_ g_) A_ m_) (A_.1 m_)) = mc (su (t_rg (sR A_ m_) A_ m_) (A_.1 m_))
      rw [trg_cg (g_ := sR A_ m_) (hA_ m_ hM_) (fun d_ hd_ => by rw [(sR_st hA_ k_ d_ g_ (by omega) (by omega) (by omega)).1, (sR_st hA_ k_ d_ m_ (by omega) (by omega) (by omega)).1])]
    · show mc (su (t_is (sI A_ g_) A_ m_) (A_.1 m_)) = mc (su (t_is (sI A_ m_) A_ m_) (A_.1 m_))
      rw [tis_cg (g_ := sI A_ m_) (hA_ m_ hM_) (fun d_ hd_ => by rw [(sR_st hA_ k_ d_ g_ (by omega) (by omega) (by omega)).2, (sR_st hA_ k_ d_ m_ (by omega) (by omega) (by omega)).2])]
theorem sR_nn (hA_ : ∀ m_, m_ < M_ → a_ok b_ n_ A_ m_) : ∀ (f_ m_ : Nat), m_ < M_ → 0 ≤ sR A_ f_ m_ ∧ 0 ≤ sI A_ f_ m_
  | 0, _, _ => ⟨Int.le_refl _, Int.le_refl _⟩
  | f_ + 1, m_, hM_ => by
    have a_ := (hA_ m_ hM_).2 m_ (Nat.le_refl _)
    have q1_ := (su_el (f_ := t_rg (sR A_ f_) A_ m_) (k_ := A_.1 m_) (fun s_ hs_ => by
      unfold t_rg
      split
      · exact (a_.2 s_ hs_).2.2.1.1
      · split
        · rename_i z2_
          exact (sR_nn hA_ f_ _ (Nat.lt_trans (dt_lt (hA_ m_ hM_) hs_ z2_) hM_)).1
        · exact Int.le_refl _)).1
    have q2_ := (su_el (f_ := t_is (sI A_ f_) A_ m_) (k_ := A_.1 m_) (fun s_ hs_ => by
      unfold t_is
      split
      · rename_i z2_
        have := (sR_nn hA_ f_ _ (Nat.lt_trans (dt_lt (hA_ m_ hM_) hs_ z2_) hM_)).2
        omega
      · exact Int.le_refl _)).1
    exact ⟨(mc_b q1_).1, (mc_b q2_).1⟩
/-- the_ sums of_ a_ module -/
def gR (A_ : pA) (M_ m_ : Nat) : Int := if m_ < M_ then sR A_ (m_ + 1) m_ else 0
def gI (A_ : pA) (M_ m_ : Nat) : Int := if m_ < M_ then sI A_ (m_ + 1) m_ else 0
theorem g_sum (hA_ : ∀ m_, m_ < M_ → a_ok b_ n_ A_ m_) : (∀ d_, 0 ≤ gR A_ M_ d_ ∧ 0 ≤ gI A_ M_ d_) ∧ ∀ m_, m_ < M_ → gR A_ M_ m_ = mc (su (t_rg (gR A_ M_) A_ m_) (A_.1 m_)) ∧ gI A_ M_ m_ = mc (su (t_is (gI A_ M_) A_ m_) (A_.1 m_)) := by
  refine ⟨fun d_ => ?_, fun m_ hm_ => ?_⟩
  · unfold gR gI
    by_cases z_ : d_ < M_
    · rw [if_pos z_, if_pos z_]
      exact sR_nn hA_ _ d_ z_
    · rw [if_neg z_, if_neg z_]
      exact ⟨Int.le_refl _, Int.le_refl _⟩
  · have e_ : ∀ d_, d_ < m_ → sR A_ m_ d_ = gR A_ M_ d_ ∧ sI A_ m_ d_ = gI A_ M_ d_ := by
      intro d_ hd_
      have q_ := sR_st hA_ (d_ + 1) d_ m_ (by omega) (by omega) hd_
      unfold gR gI
      rw [if_pos (by omega), if_pos (by omega)]
      exact q_
    constructor
    · rw [show gR A_ M_ m_ = mc (su (t_rg (sR A_ m_) A_ m_) (A_.1 m_)) from if_pos hm_, trg_cg (hA_ m_ hm_) (fun d_ hd_ => (e_ d_ hd_).1)]
    · rw [show gI A_ M_ m_ = mc (su (t_is (sI A_ m_) A_ m_) (A_.1 m_)) from if_pos hm_, tis_cg (hA_ m_ hm_) (fun d_ hd_ => (e_ d_ hd_).2)]
/-- sums told in a_ row_ are_ these -/
theorem g_uq (hA_ : ∀ m_, m_ < M_ → a_ok b_ n_ A_ m_) {r_ i_ : Nat → Int} (h_ : ∀ m_, m_ < M_ → r_ m_ = mc (su (t_rg r_ A_ m_) (A_.1 m_)) ∧ i_ m_ = mc (su (t_is i_ A_ m_) (A_.1 m_))) : ∀ (k_ m_ : Nat), m_ < k_ → m_ < M_ → r_ m_ = gR A_ M_ m_ ∧ i_ m_ = gI A_ M_ m_
  | 0, _, h_, _ => absurd h_ (Nat.not_lt_zero _)
  | k_ + 1, m_, hk_, hM_ => by
    have g_ := (g_sum hA_).2 m_ hM_
    rw [(h_ m_ hM_).1, (h_ m_ hM_).2, g_.1, g_.2, trg_cg (hA_ m_ hM_) (fun d_ hd_ => (g_uq hA_ h_ k_ d_ (by omega) (by omega)).1), tis_cg (hA_ m_ hM_) (fun d_ hd_ => (g_uq hA_ h_ k_ d_ (by omega) (by omega)).2)]
    exact ⟨rfl, rfl⟩
end SU_
/-- what a_ right design is_ told to_ be_: the_ number of_ its_ last module, its_ inputs and registers -/
def d_tp (r_ : pD) : Nat := r_.2.2.1 - 1
def d_lm (r_ : pD) : Int := p_lm (gI r_.1 r_.2.2.1 (d_tp r_)) (su (t_in r_.1 0 (d_tp r_)) (r_.1.1 (d_tp r_))) (gR r_.1 r_.2.2.1 (d_tp r_)) (su (t_in r_.1 1 (d_tp r_)) (r_.1.1 (d_tp r_)))
def d_I (r_ : pD) : Nat := (su (t_in r_.1 0 (d_tp r_)) (r_.1.1 (d_tp r_))).toNat
def d_R (r_ : pD) : Nat := (gR r_.1 r_.2.2.1 (d_tp r_)).toNat
theorem lm_0 {i_ x_ g_ o_ : Int} (h_ : p_lm i_ x_ g_ o_ = 0) : i_ ≤ 200 ∧ x_ + g_ ≤ 12 ∧ g_ ≤ 6 ∧ o_ ≠ 0 ∧ o_ ≤ 16 := by
  unfold p_lm at h_
  split at h_
  · exact absurd h_ (by decide)
  · split at h_
    · exact absurd h_ (by decide)
    · split at h_
      · exact absurd h_ (by decide)
      · omega
theorem d_in {b_ : Nat → Int} {n_ : Nat} {r_ : pD} (hn_ : n_ ≤ 1280) (h_ : p_de b_ n_ = .inr r_) : (d_I r_ : Int) = su (t_in r_.1 0 (d_tp r_)) (r_.1.1 (d_tp r_)) ∧ (d_R r_ : Int) = gR r_.1 r_.2.2.1 (d_tp r_) ∧ d_tp r_ < r_.2.2.1 ∧ d_tp r_ ≤ 15 ∧ 0 ≤ su (t_in r_.1 1 (d_tp r_)) (r_.1.1 (d_tp r_)) := by
  obtain ⟨h1_, h2_⟩ := de_ch hn_ h_
  have tp_ : d_tp r_ < r_.2.2.1 := by unfold d_tp; omega
  have a_ := (h1_ (d_tp r_) tp_).2
  have q_ : ∀ so_, 0 ≤ su (t_in r_.1 so_ (d_tp r_)) (r_.1.1 (d_tp r_)) := fun so_ => (su_el (fun s_ hs_ => by
    unfold t_in
    split
    · exact ((a_.2 _ (Nat.le_refl _)).2 s_ hs_).2.2.1.1
    · exact Int.le_refl _)).1
  have g_ := ((g_sum (fun m_ hm_ => (h1_ m_ hm_).2)).1 (d_tp r_)).1
  unfold d_I d_R
  exact ⟨by have := q_ 0; omega, by omega, tp_, a_.1, q_ 1⟩
end
/-! 99.zg3 -/
section
/-! bits; written by wip/p55/gen/vg -/

/-! bits -/
theorem i_shlv {x_ e_ : Int} (h0_ : 0 ≤ e_) (h1_ : e_ ≤ 31) (hx_ : 0 ≤ x_) (h_ : x_ * 2 ^ e_.toNat ≤ 2147483647) : i_shl x_ e_ = x_ * 2 ^ e_.toNat := by
  obtain ⟨k_, rfl⟩ : ∃ k_ : Nat, e_ = (k_ : Int) := ⟨e_.toNat, by omega⟩
  rw [Int.toNat_natCast] at h_ ⊢
  have p0_ : 0 ≤ x_ * 2 ^ k_ := Int.mul_nonneg hx_ (Int.le_of_lt (pw_pos k_))
  exact bs_shl (k := k_) (x := x_) (by omega) ⟨by omega, by omega⟩
theorem pw_tn {x_ : Int} {k_ : Nat} (h0_ : 0 ≤ x_) (h_ : x_ < 2 ^ k_) : x_.toNat < 2 ^ k_ := by
  have hpn_ : (2 : Int) ^ k_ = ((2 ^ k_ : Nat) : Int) := by push_cast; rfl
  rw [hpn_] at h_
  omega
theorem pw_31 {k_ : Nat} (hk_ : k_ ≤ 31) : (2 : Int) ^ k_ ≤ 2147483648 := pw_le hk_
theorem i_orp {x_ y_ : Int} {k_ : Nat} (hk_ : k_ ≤ 31) (hx_ : 0 ≤ x_ ∧ x_ < 2 ^ k_) (hy_ : 0 ≤ y_ ∧ y_ < 2 ^ k_) : 0 ≤ i_or x_ y_ ∧ i_or x_ y_ < 2 ^ k_ := by
  have p_ := pw_31 hk_
  have e_ : i_or x_ y_ = ((x_.toNat ||| y_.toNat : Nat) : Int) := bt_or_nat hx_.1 (by omega) hy_.1 (by omega)
  have h_ := Nat.or_lt_two_pow (pw_tn hx_.1 hx_.2) (pw_tn hy_.1 hy_.2)
  rw [e_]
  refine ⟨Int.natCast_nonneg _, ?_⟩
  exact_mod_cast h_
theorem i_xrp {x_ y_ : Int} {k_ : Nat} (hk_ : k_ ≤ 31) (hx_ : 0 ≤ x_ ∧ x_ < 2 ^ k_) (hy_ : 0 ≤ y_ ∧ y_ < 2 ^ k_) : 0 ≤ i_xor x_ y_ ∧ i_xor x_ y_ < 2 ^ k_ := by
  have p_ := pw_31 hk_
  have e_ : i_xor x_ y_ = ((x_.toNat ^^^ y_.toNat : Nat) : Int) := bt_xor_nat hx_.1 (by omega) hy_.1 (by omega)
  have h_ := Nat.xor_lt_two_pow (pw_tn hx_.1 hx_.2) (pw_tn hy_.1 hy_.2)
  rw [e_]
  refine ⟨Int.natCast_nonneg _, ?_⟩
  exact_mod_cast h_
theorem i_xz {x_ : Int} (h_ : 0 ≤ x_ ∧ x_ ≤ 2147483647) : i_xor x_ 0 = x_ := by
  have e_ : i_xor x_ 0 = ((x_.toNat ^^^ (0 : Int).toNat : Nat) : Int) := bt_xor_nat h_.1 h_.2 (by decide) (by decide)
  rw [e_, show (0 : Int).toNat = 0 from rfl, Nat.xor_zero]
  omega
theorem i_xb {x_ b_ : Int} (h_ : 0 ≤ x_ ∧ x_ ≤ 2047) (hb_ : 0 ≤ b_ ∧ b_ ≤ 1) : 2 * (x_ / 2) ≤ i_xor x_ b_ ∧ i_xor x_ b_ ≤ 2 * (x_ / 2) + 1 := by
  by_cases z_ : b_ = 0
  · rw [z_, i_xz ⟨h_.1, by omega⟩]
    omega
  · rw [show b_ = 1 by omega, i_x1 h_]
    omega
/-- a_ state and an_ input together are_ a_ pattern -/
theorem pat_b {s_ i_ : Int} {R_ I_ : Nat} (hs_ : 0 ≤ s_ ∧ s_ < 2 ^ R_) (hi_ : 0 ≤ i_ ∧ i_ < 2 ^ I_) (h_ : R_ + I_ ≤ 12) : 0 ≤ i_shl s_ (I_ : Int) ∧ 0 ≤ i_or (i_shl s_ (I_ : Int)) i_ ∧ i_or (i_shl s_ (I_ : Int)) i_ < 2 ^ (R_ + I_) := by
  have pI := pw_pos I_
  have e1_ : s_ * 2 ^ I_ + 2 ^ I_ ≤ 2 ^ (R_ + I_) := by
    rw [pw_add, show s_ * 2 ^ I_ + 2 ^ I_ = (s_ + 1) * 2 ^ I_ by rw [Int.add_mul, Int.one_mul]]
    exact Int.mul_le_mul_of_nonneg_right (by omega) (Int.le_of_lt pI)
  have e2_ : (2 : Int) ^ (R_ + I_) ≤ 4096 := pw_le (m := 12) h_
  have e0_ : 0 ≤ s_ * 2 ^ I_ := Int.mul_nonneg hs_.1 (Int.le_of_lt pI)
  have e3_ : i_shl s_ (I_ : Int) = s_ * 2 ^ I_ := by
    rw [i_shlv (by omega) (by omega) hs_.1 (by rw [Int.toNat_natCast]; omega), Int.toNat_natCast]
  rw [e3_]
  have e4_ : i_or (s_ * 2 ^ I_) i_ = s_ * 2 ^ I_ + i_ := i_or_add (s := I_) e0_ hi_.1 hi_.2 (by omega) ⟨s_, Int.mul_comm _ _⟩
  rw [e4_]
  omega
end
/-! 99.zg4a -/
section
/-! the class: outputs, depth; written by wip/p55/gen/vg -/

/-! the_ design's graph as_ it_ stands -/
def dgr (dd_ F_ : Nat) (S_ : sm_S) : Prop := ((F_ : Int) = 1 + S_.1 3 dd_ 1 + S_.1 3 dd_ 2 ∧ (1 ≤ F_ ∧ F_ ≤ 13) ∧ 0 ≤ S_.1 3 dd_ 1 ∧ 0 ≤ S_.1 3 dd_ 2) ∧ ((F_ : Int) ≤ S_.1 3 dd_ 4 ∧ S_.1 3 dd_ 4 ≤ F_ + 1000) ∧ ∀ n_ : Nat, F_ ≤ n_ → (n_ : Int) < S_.1 3 dd_ 4 → 2 ≤ S_.2.2.1 42 (0 + dd_) n_ ∧ S_.2.2.1 42 (0 + dd_) n_ < S_.2.2.1 43 (0 + dd_) n_ ∧ S_.2.2.1 43 (0 + dd_) n_ < 2 * (n_ : Int)
def drt (dd_ : Nat) (S_ : sm_S) : Prop := (1 ≤ S_.1 3 dd_ 3 ∧ S_.1 3 dd_ 3 ≤ 16 ∧ 0 ≤ S_.1 3 dd_ 2 ∧ S_.1 3 dd_ 2 ≤ 6) ∧ (∀ k_ : Nat, (k_ : Int) < S_.1 3 dd_ 3 → 0 ≤ S_.2.2.1 45 (0 + dd_) k_ ∧ S_.2.2.1 45 (0 + dd_) k_ < 2 * S_.1 3 dd_ 4) ∧ ∀ k_ : Nat, (k_ : Int) < S_.1 3 dd_ 2 → 0 ≤ S_.2.2.1 46 (0 + dd_) k_ ∧ S_.2.2.1 46 (0 + dd_) k_ < 2 * S_.1 3 dd_ 4
/-- the_ literal of_ a_ root, the_ node that a_ literal stands for_ -/
def rtv (dd_ : Nat) (S_ : sm_S) (i_ : Int) : Int := if i_ < S_.1 3 dd_ 3 then S_.2.2.1 45 (0 + dd_) i_.toNat else S_.2.2.1 46 (0 + dd_) (i_ - S_.1 3 dd_ 3).toNat
def srp (dd_ : Nat) (S_ : sm_S) (l_ : Int) : Nat := (S_.2.2.1 44 (0 + dd_) (l_ / 2).toNat / 2).toNat
theorem dgr_fr {w_ : sx_Wl} {dd_ F_ : Nat} {S_ S'_ : sm_S} (h_ : dgr dd_ F_ S_) (g_ : ai_fr (sx_W w_) S_ S'_) (h1_ : (sx_W w_).1 3 1 = false) (h2_ : (sx_W w_).1 3 2 = false) (h3_ : (sx_W w_).1 3 4 = false) (h4_ : (sx_W w_).2.1 42 = false) (h5_ : (sx_W w_).2.1 43 = false) : dgr dd_ F_ S'_ := by
  unfold dgr
  rw [g_.1 3 dd_ 1 h1_, g_.1 3 dd_ 2 h2_, g_.1 3 dd_ 4 h3_, fr_arr (t := 42) g_ h4_, fr_arr (t := 43) g_ h5_]
  exact h_
theorem drt_fr {w_ : sx_Wl} {dd_ : Nat} {S_ S'_ : sm_S} (h_ : drt dd_ S_) (g_ : ai_fr (sx_W w_) S_ S'_) (h1_ : (sx_W w_).1 3 3 = false) (h2_ : (sx_W w_).1 3 2 = false) (h3_ : (sx_W w_).1 3 4 = false) (h4_ : (sx_W w_).2.1 45 = false) (h5_ : (sx_W w_).2.1 46 = false) : drt dd_ S'_ := by
  unfold drt
  rw [g_.1 3 dd_ 3 h1_, g_.1 3 dd_ 2 h2_, g_.1 3 dd_ 4 h3_, fr_arr (t := 45) g_ h4_, fr_arr (t := 46) g_ h5_]
  exact h_
theorem cgx_dgr {dd_ F_ : Nat} {G_ : pGr} {S_ : sm_S} (h_ : cgx dd_ F_ G_ S_) (hw_ : gwf F_ G_) (h1_ : 0 ≤ S_.1 3 dd_ 1) (h2_ : 0 ≤ S_.1 3 dd_ 2) : dgr dd_ F_ S_ := by
  obtain ⟨-, x2_, x3_, x4_, x5_, x6_, -, -⟩ := h_
  refine ⟨⟨x2_, x3_, h1_, h2_⟩, by rw [x4_]; push_cast; omega, fun n_ hn_ hN_ => ?_⟩
  rw [x4_] at hN_
  have l_ : n_ - F_ < G_.length := by omega
  have e_ := List.getElem?_eq_getElem l_
  have q_ := x6_ (n_ - F_) G_[n_ - F_].1 G_[n_ - F_].2 e_
  have w_ := hw_.2 (n_ - F_) G_[n_ - F_].1 G_[n_ - F_].2 e_
  rw [show F_ + (n_ - F_) = n_ by omega] at q_ w_
  rw [q_.1, q_.2]
  exact w_
/-! Builder.takeOutputs -/
end
/-! 99.zg4b -/
section
/-! Design.roots -/
def vw_66 : sx_Wl := ([], [], [])
def vq_66 (dd_ : Nat) (S0_ : sm_S) (u_ : Option sm_V) (S1_ : sm_S) : Prop := S0_ = S1_ ∧ ∃ v_ : Int, u_ = some (.inl v_) ∧ (v_ = S0_.1 3 dd_ 3 + S0_.1 3 dd_ 2)
set_option maxHeartbeats 400000 in
theorem vc_66 {sc_ : Nat × (Nat → Int)} (dd_ : Nat) (S0_ : sm_S) (hI_ : gi S0_) (hx_ : 0 ≤ S0_.1 3 dd_ 3 ∧ S0_.1 3 dd_ 3 ≤ 1000 ∧ 0 ≤ S0_.1 3 dd_ 2 ∧ S0_.1 3 dd_ 2 ≤ 1000) : sm_T (mt_P sc_) 0 66 (0, [some (.inr (.inr (some (3, dd_))))], [], S0_) (fun ro9_ => ∃ u_ S1_, ro9_ = (.inl u_, S1_, 0) ∧ vq_66 dd_ S0_ u_ S1_) := by
  have hF_ : ai_fr (sx_W vw_66) S0_ S0_ := ai_fr_rf
  have bx1_ : 0 ≤ S0_.1 3 dd_ 3 ∧ S0_.1 3 dd_ 3 ≤ 320 := hI_.1 3 dd_ 3 rfl
  have bx2_ : 0 ≤ S0_.1 3 dd_ 2 ∧ S0_.1 3 dd_ 2 ≤ 100000 := hI_.1 3 dd_ 2 rfl
  refine sm_T_go 4 (c1 := (8, [some (.inr (.inr (some (3, dd_))))], [.inl (S0_.1 3 dd_ 2), .inl (S0_.1 3 dd_ 3)], S0_)) rfl ?_
  refine sm_T_bin (w := (S0_.1 3 dd_ 3) + (S0_.1 3 dd_ 2)) rfl (bi_add (by omega) (by omega) (by omega)) ?_
  refine sm_T_ri rfl ⟨_, _, rfl, rfl, _, rfl, ?_⟩
  omega
end
/-! 99.zg4c -/
section
/-! Design.rootAt -/
def vw_65 : sx_Wl := ([], [], [])
def vq_65 (k_ : Int) (dd_ : Nat) (S0_ : sm_S) (u_ : Option sm_V) (S1_ : sm_S) : Prop := S0_ = S1_ ∧ ∃ v_ : Int, u_ = some (.inl v_) ∧ (v_ = rtv dd_ S0_ k_ ∧ 0 ≤ v_ ∧ v_ < 2 * S0_.1 3 dd_ 4)
set_option maxHeartbeats 400000 in
theorem vc_65 {sc_ : Nat × (Nat → Int)} (k_ : Int) (dd_ : Nat) (S0_ : sm_S) (hI_ : gi S0_) (hx_ : drt dd_ S0_) (hk_ : 0 ≤ k_ ∧ k_ < S0_.1 3 dd_ 3 + S0_.1 3 dd_ 2) : sm_T (mt_P sc_) 0 65 (0, [some (.inr (.inr (some (3, dd_)))), some (.inl k_)], [], S0_) (fun ro9_ => ∃ u_ S1_, ro9_ = (.inl u_, S1_, 0) ∧ vq_65 k_ dd_ S0_ u_ S1_) := by
  have hF_ : ai_fr (sx_W vw_65) S0_ S0_ := ai_fr_rf
  have x1_ := hx_.1
  have bx1_ : 0 ≤ S0_.1 3 dd_ 3 ∧ S0_.1 3 dd_ 3 ≤ 320 := hI_.1 3 dd_ 3 rfl
  refine sm_T_go 3 (c1 := (5, [some (.inr (.inr (some (3, dd_)))), some (.inl k_)], [.inl (S0_.1 3 dd_ 3), .inl k_], S0_)) rfl ?_
  refine sm_T_br (a := 3) (z := 12) rfl (fun cx2_ => ?_) (fun cx2_ => ?_)
  · have cx2_ : (S0_.1 3 dd_ 3) ≤ k_ := of_decide_eq_true cx2_
    have w9_ := hx_.2.2 (k_ - S0_.1 3 dd_ 3).toNat (by omega)
    refine sm_T_go 5 (c1 := (26, [some (.inr (.inr (some (3, dd_)))), some (.inl k_)], [.inl (S0_.1 3 dd_ 3), .inl k_, .inr (.inr (some (46, (0 + dd_))))], S0_)) rfl ?_
    refine sm_T_bin (w := k_ - (S0_.1 3 dd_ 3)) rfl (bi_sub (by omega) (by omega) (by omega)) ?_
    refine sm_T_iald (n := 6) rfl rfl (by omega) (by omega) ?_
    have bx3_ : 0 ≤ S0_.2.2.1 46 (0 + dd_) (k_ - (S0_.1 3 dd_ 3)).toNat ∧ S0_.2.2.1 46 (0 + dd_) (k_ - (S0_.1 3 dd_ 3)).toNat ≤ 2025 := hI_.2 46 (0 + dd_) _
    refine sm_T_ri rfl ⟨_, _, rfl, rfl, _, rfl, ?_⟩
    refine ⟨?_, w9_⟩
    unfold rtv
    first | rw [if_pos (by omega)] | rw [if_neg (by omega)]
  · have cx2_ : ¬ ((S0_.1 3 dd_ 3) ≤ k_) := of_decide_eq_false cx2_
    have w9_ := hx_.2.1 k_.toNat (by omega)
    refine sm_T_go 3 (c1 := (13, [some (.inr (.inr (some (3, dd_)))), some (.inl k_)], [.inl k_, .inr (.inr (some (45, (0 + dd_))))], S0_)) rfl ?_
    refine sm_T_iald (n := 16) rfl rfl (by omega) (by omega) ?_
    have bx4_ : 0 ≤ S0_.2.2.1 45 (0 + dd_) k_.toNat ∧ S0_.2.2.1 45 (0 + dd_) k_.toNat ≤ 2025 := hI_.2 45 (0 + dd_) _
    refine sm_T_go 1 (c1 := (28, [some (.inr (.inr (some (3, dd_)))), some (.inl k_)], [.inl (S0_.2.2.1 45 (0 + dd_) k_.toNat)], S0_)) rfl ?_
    refine sm_T_ri rfl ⟨_, _, rfl, rfl, _, rfl, ?_⟩
    refine ⟨?_, w9_⟩
    unfold rtv
    first | rw [if_pos (by omega)] | rw [if_neg (by omega)]
end
/-! 99.zg4d -/
section
/-! Design.sweptLiteral -/
def vw_64 : sx_Wl := ([], [], [])
def vq_64 (l_ : Int) (dd_ : Nat) (S0_ : sm_S) (u_ : Option sm_V) (S1_ : sm_S) : Prop := S0_ = S1_ ∧ ∃ v_ : Int, u_ = some (.inl v_) ∧ (v_ = i_xor (S0_.2.2.1 44 (0 + dd_) (l_ / 2).toNat) (l_ % 2))
set_option maxHeartbeats 400000 in
theorem vc_64 {sc_ : Nat × (Nat → Int)} (l_ : Int) (dd_ : Nat) (S0_ : sm_S) (hI_ : gi S0_) (hl_ : 0 ≤ l_ ∧ l_ ≤ 2025) : sm_T (mt_P sc_) 0 64 (0, [some (.inr (.inr (some (3, dd_)))), some (.inl l_)], [], S0_) (fun ro9_ => ∃ u_ S1_, ro9_ = (.inl u_, S1_, 0) ∧ vq_64 l_ dd_ S0_ u_ S1_) := by
  have hF_ : ai_fr (sx_W vw_64) S0_ S0_ := ai_fr_rf
  refine sm_T_go 4 (c1 := (6, [some (.inr (.inr (some (3, dd_)))), some (.inl l_)], [.inl 1, .inl l_, .inr (.inr (some (44, (0 + dd_))))], S0_)) rfl ?_
  refine sm_T_bin (w := (l_ / 2)) rfl (bi_shr (k := 1) (by decide) (by omega) (by omega)) ?_
  refine sm_T_iald (n := 1013) rfl rfl (by omega) (by omega) ?_
  have bx1_ : 0 ≤ S0_.2.2.1 44 (0 + dd_) (l_ / 2).toNat ∧ S0_.2.2.1 44 (0 + dd_) (l_ / 2).toNat ≤ 2025 := hI_.2 44 (0 + dd_) _
  refine sm_T_go 2 (c1 := (10, [some (.inr (.inr (some (3, dd_)))), some (.inl l_)], [.inl 1, .inl l_, .inl (S0_.2.2.1 44 (0 + dd_) (l_ / 2).toNat)], S0_)) rfl ?_
  refine sm_T_bin (w := (l_ % 2)) rfl (bi_msk (k := 1) (by decide)) ?_
  refine sm_T_bin (w := (i_xor (S0_.2.2.1 44 (0 + dd_) (l_ / 2).toNat) (l_ % 2))) rfl rfl ?_
  refine sm_T_ri rfl ⟨_, _, rfl, rfl, _, rfl, ?_⟩
  omega
end
/-! 99.zg4e -/
section
/-! Builder.measureDepth -/
def vw_46 : sx_Wl := ([(3, 7)], [33], [])
def vq_46 (dd_ : Nat) (F_ : Nat) (S0_ : sm_S) (u_ : Option sm_V) (S1_ : sm_S) : Prop := u_ = none ∧ gi S1_ ∧ ai_fr (sx_W vw_46) S0_ S1_ ∧ (idf dd_ S0_ S1_ ∧ (True))
set_option maxHeartbeats 1000000 in
theorem vl_46 {sc_ : Nat × (Nat → Int)} (dd_ : Nat) (F_ : Nat) (S0_ : sm_S) (hd_ : S0_.2.1 1 0 1 = some dd_) (hg_ : dgr dd_ F_ S0_) (hr_ : drt dd_ S0_) : ∀ nn_ : Nat, (∀ (n_ : Int) (S_ : sm_S), gi S_ → ai_fr (sx_W vw_46) S0_ S_ → (((F_ : Int) ≤ n_ ∧ n_ ≤ S0_.1 3 dd_ 4) ∧ (∀ k9_ : Nat, (k9_ : Int) < n_ → 0 ≤ S_.2.2.1 33 0 k9_ ∧ S_.2.2.1 33 0 k9_ ≤ (if k9_ < F_ then 0 else (k9_ : Int) - F_ + 1)) ∧ (idf dd_ S0_ S_) ∧ True) → ((5000 - n_).toNat) < nn_ → sm_T (mt_P sc_) 1 46 (16, [some (.inr (.inr (some (1, 0)))), some (.inl n_)], [], S_) (fun ro9_ => ∃ u_ S1_, ro9_ = (.inl u_, S1_, 0) ∧ vq_46 dd_ F_ S0_ u_ S1_)) ∧ (∀ (k_ : Int) (S_ : sm_S), gi S_ → ai_fr (sx_W vw_46) S0_ S_ → ((0 ≤ k_) ∧ (∀ k9_ : Nat, (k9_ : Int) < S0_.1 3 dd_ 4 → 0 ≤ S_.2.2.1 33 0 k9_ ∧ S_.2.2.1 33 0 k9_ ≤ 1000) ∧ (idf dd_ S0_ S_) ∧ True) → ((1000 - k_).toNat) < nn_ → sm_T (mt_P sc_) 1 46 (86, [some (.inr (.inr (some (1, 0)))), some (.inl k_)], [], S_) (fun ro9_ => ∃ u_ S1_, ro9_ = (.inl u_, S1_, 0) ∧ vq_46 dd_ F_ S0_ u_ S1_)) := by
  intro nn_
  induction nn_ with
  | zero => exact ⟨fun _ _ _ _ _ h_ => absurd h_ (Nat.not_lt_zero _), fun _ _ _ _ _ h_ => absurd h_ (Nat.not_lt_zero _)⟩
  | succ nn_ ih_ =>
    refine ⟨?_, ?_⟩
    · rintro n_ S_ hI_ hF_ ⟨h0_, h1_, hD_, -⟩ hm_
      have g1_ := hg_.1
      have g2_ := hg_.2.1
      have e4_ : S_.1 3 dd_ 4 = S0_.1 3 dd_ 4 := hF_.1 3 dd_ 4 rfl
      have e3_ : S_.1 3 dd_ 3 = S0_.1 3 dd_ 3 := hF_.1 3 dd_ 3 rfl
      have e2_ : S_.1 3 dd_ 2 = S0_.1 3 dd_ 2 := hF_.1 3 dd_ 2 rfl
      have r1_ := hr_.1
      refine sm_T_go 2 (c1 := (18, [some (.inr (.inr (some (1, 0)))), some (.inl n_)], [.inr (.inr (some (1, 0))), .inl n_], S_)) rfl ?_
      refine sm_T_gr rfl rfl ((hF_.2.1 1 0 1 rfl).trans hd_) ?_
      have bx1_ : 0 ≤ S_.1 3 dd_ 4 ∧ S_.1 3 dd_ 4 ≤ 1013 := hI_.1 3 dd_ 4 rfl
      refine sm_T_go 1 (c1 := (24, [some (.inr (.inr (some (1, 0)))), some (.inl n_)], [.inl (S_.1 3 dd_ 4), .inl n_], S_)) rfl ?_
      refine sm_T_br (a := 3) (z := 52) rfl (fun cx2_ => ?_) (fun cx2_ => ?_)
      · have cx2_ : (S_.1 3 dd_ 4) ≤ n_ := of_decide_eq_true cx2_
        refine sm_T_go 1 (c1 := (77, [some (.inr (.inr (some (1, 0)))), some (.inl n_)], [.inr (.inr (some (1, 0)))], S_)) rfl ?_
        refine sm_T_gr rfl rfl ((hF_.2.1 1 0 1 rfl).trans hd_) ?_
        have hIx3_ : gi (sm_pI S_ 3 dd_ 7 0) := gi_pI hI_ (show 0 ≤ 0 ∧ 0 ≤ 1000 from ⟨by omega, by omega⟩)
        have hFx4_ : ai_fr (sx_W vw_46) S0_ (sm_pI S_ 3 dd_ 7 0) := ai_fr_tr hF_ (ai_fr_pI rfl)
        have hDx5_ : idf dd_ S0_ (sm_pI S_ 3 dd_ 7 0) := idf_pI hD_ (Or.inr rfl)
        refine sm_T_go 4 (c1 := (86, [some (.inr (.inr (some (1, 0)))), some (.inl 0)], [], sm_pI S_ 3 dd_ 7 0)) rfl ?_
        refine ih_.2 0 (sm_pI S_ 3 dd_ 7 0) hIx3_ hFx4_ ⟨?_, ?_, ?_, trivial⟩ ?_
        · omega
        · intro k9_ hk9_
          show 0 ≤ S_.2.2.1 33 0 k9_ ∧ S_.2.2.1 33 0 k9_ ≤ 1000
          have w9_ := h1_ k9_ (by omega)
          refine ⟨w9_.1, ?_⟩
          have w8_ := w9_.2
          (split at w8_ <;> omega)
        · exact hDx5_
        · omega
      · have cx2_ : ¬ ((S_.1 3 dd_ 4) ≤ n_) := of_decide_eq_false cx2_
        have gn_ := hg_.2.2 n_.toNat (by omega) (by omega)
        have lo_ := h1_ (S_.2.2.1 42 (0 + dd_) n_.toNat / 2).toNat (by rw [fr_arr (t := 42) (i := 0 + dd_) hF_ rfl]; omega)
        have hi_ := h1_ (S_.2.2.1 43 (0 + dd_) n_.toNat / 2).toNat (by rw [fr_arr (t := 43) (i := 0 + dd_) hF_ rfl]; omega)
        rw [fr_arr (t := 42) (i := 0 + dd_) hF_ rfl] at lo_
        rw [fr_arr (t := 43) (i := 0 + dd_) hF_ rfl] at hi_
        have f42_ := congrFun (fr_arr (t := 42) (i := 0 + dd_) hF_ rfl) n_.toNat
        have f43_ := congrFun (fr_arr (t := 43) (i := 0 + dd_) hF_ rfl) n_.toNat
        rw [← f42_] at lo_
        rw [← f43_] at hi_
        refine sm_T_go 7 (c1 := (38, [some (.inr (.inr (some (1, 0)))), some (.inl n_)], [.inr (.inr (some (1, 0))), .inr (.inr (some (33, 0))), .inl 1, .inl n_, .inr (.inr (some (33, 0)))], S_)) rfl ?_
        refine sm_T_gr rfl rfl ((hF_.2.1 1 0 1 rfl).trans hd_) ?_
        refine sm_T_go 2 (c1 := (45, [some (.inr (.inr (some (1, 0)))), some (.inl n_)], [.inl n_, .inr (.inr (some (42, (0 + dd_)))), .inr (.inr (some (33, 0))), .inl 1, .inl n_, .inr (.inr (some (33, 0)))], S_)) rfl ?_
        refine sm_T_iald (n := 1013) rfl rfl (by omega) (by omega) ?_
        have bx6_ : 0 ≤ S_.2.2.1 42 (0 + dd_) n_.toNat ∧ S_.2.2.1 42 (0 + dd_) n_.toNat ≤ 2025 := hI_.2 42 (0 + dd_) _
        refine sm_T_go 1 (c1 := (47, [some (.inr (.inr (some (1, 0)))), some (.inl n_)], [.inl 1, .inl (S_.2.2.1 42 (0 + dd_) n_.toNat), .inr (.inr (some (33, 0))), .inl 1, .inl n_, .inr (.inr (some (33, 0)))], S_)) rfl ?_
        refine sm_T_bin (w := ((S_.2.2.1 42 (0 + dd_) n_.toNat) / 2)) rfl (bi_shr (k := 1) (by decide) (by omega) (by omega)) ?_
        refine sm_T_iald (n := 1013) rfl rfl (by omega) (by omega) ?_
        have bx7_ : 0 ≤ S_.2.2.1 33 0 ((S_.2.2.1 42 (0 + dd_) n_.toNat) / 2).toNat ∧ S_.2.2.1 33 0 ((S_.2.2.1 42 (0 + dd_) n_.toNat) / 2).toNat ≤ 1012 := hI_.2 33 0 _
        refine sm_T_go 3 (c1 := (54, [some (.inr (.inr (some (1, 0)))), some (.inl n_)], [.inr (.inr (some (1, 0))), .inr (.inr (some (33, 0))), .inl (S_.2.2.1 33 0 ((S_.2.2.1 42 (0 + dd_) n_.toNat) / 2).toNat), .inl 1, .inl n_, .inr (.inr (some (33, 0)))], S_)) rfl ?_
        refine sm_T_gr rfl rfl ((hF_.2.1 1 0 1 rfl).trans hd_) ?_
        refine sm_T_go 2 (c1 := (61, [some (.inr (.inr (some (1, 0)))), some (.inl n_)], [.inl n_, .inr (.inr (some (43, (0 + dd_)))), .inr (.inr (some (33, 0))), .inl (S_.2.2.1 33 0 ((S_.2.2.1 42 (0 + dd_) n_.toNat) / 2).toNat), .inl 1, .inl n_, .inr (.inr (some (33, 0)))], S_)) rfl ?_
        refine sm_T_iald (n := 1013) rfl rfl (by omega) (by omega) ?_
        have bx8_ : 0 ≤ S_.2.2.1 43 (0 + dd_) n_.toNat ∧ S_.2.2.1 43 (0 + dd_) n_.toNat ≤ 2025 := hI_.2 43 (0 + dd_) _
        refine sm_T_go 1 (c1 := (63, [some (.inr (.inr (some (1, 0)))), some (.inl n_)], [.inl 1, .inl (S_.2.2.1 43 (0 + dd_) n_.toNat), .inr (.inr (some (33, 0))), .inl (S_.2.2.1 33 0 ((S_.2.2.1 42 (0 + dd_) n_.toNat) / 2).toNat), .inl 1, .inl n_, .inr (.inr (some (33, 0)))], S_)) rfl ?_
        refine sm_T_bin (w := ((S_.2.2.1 43 (0 + dd_) n_.toNat) / 2)) rfl (bi_shr (k := 1) (by decide) (by omega) (by omega)) ?_
        refine sm_T_iald (n := 1013) rfl rfl (by omega) (by omega) ?_
        have bx9_ : 0 ≤ S_.2.2.1 33 0 ((S_.2.2.1 43 (0 + dd_) n_.toNat) / 2).toNat ∧ S_.2.2.1 33 0 ((S_.2.2.1 43 (0 + dd_) n_.toNat) / 2).toNat ≤ 1012 := hI_.2 33 0 _
        refine sm_T_nt (u := some (.inl (sm_mx (S_.2.2.1 33 0 ((S_.2.2.1 42 (0 + dd_) n_.toNat) / 2).toNat) (S_.2.2.1 33 0 ((S_.2.2.1 43 (0 + dd_) n_.toNat) / 2).toNat)))) (S1 := S_) rfl rfl rfl ?_
        have bx10_ := sm_mx_d (S_.2.2.1 33 0 ((S_.2.2.1 42 (0 + dd_) n_.toNat) / 2).toNat) (S_.2.2.1 33 0 ((S_.2.2.1 43 (0 + dd_) n_.toNat) / 2).toNat)
        refine sm_T_bin (w := (sm_mx (S_.2.2.1 33 0 ((S_.2.2.1 42 (0 + dd_) n_.toNat) / 2).toNat) (S_.2.2.1 33 0 ((S_.2.2.1 43 (0 + dd_) n_.toNat) / 2).toNat)) + 1) rfl (bi_add (by omega) (by omega) (by omega)) ?_
        refine sm_T_iast (n := 1013) rfl rfl (by omega) (by omega) ?_
        have hIx11_ : gi (sm_aI S_ 33 0 n_.toNat ((sm_mx (S_.2.2.1 33 0 ((S_.2.2.1 42 (0 + dd_) n_.toNat) / 2).toNat) (S_.2.2.1 33 0 ((S_.2.2.1 43 (0 + dd_) n_.toNat) / 2).toNat)) + 1)) := gi_aI hI_ (show 0 ≤ (sm_mx (S_.2.2.1 33 0 ((S_.2.2.1 42 (0 + dd_) n_.toNat) / 2).toNat) (S_.2.2.1 33 0 ((S_.2.2.1 43 (0 + dd_) n_.toNat) / 2).toNat)) + 1 ∧ (sm_mx (S_.2.2.1 33 0 ((S_.2.2.1 42 (0 + dd_) n_.toNat) / 2).toNat) (S_.2.2.1 33 0 ((S_.2.2.1 43 (0 + dd_) n_.toNat) / 2).toNat)) + 1 ≤ 1012 from ⟨by omega, by omega⟩)
        have hFx12_ : ai_fr (sx_W vw_46) S0_ (sm_aI S_ 33 0 n_.toNat ((sm_mx (S_.2.2.1 33 0 ((S_.2.2.1 42 (0 + dd_) n_.toNat) / 2).toNat) (S_.2.2.1 33 0 ((S_.2.2.1 43 (0 + dd_) n_.toNat) / 2).toNat)) + 1)) := ai_fr_tr hF_ (ai_fr_aI rfl)
        have hDx13_ : idf dd_ S0_ (sm_aI S_ 33 0 n_.toNat ((sm_mx (S_.2.2.1 33 0 ((S_.2.2.1 42 (0 + dd_) n_.toNat) / 2).toNat) (S_.2.2.1 33 0 ((S_.2.2.1 43 (0 + dd_) n_.toNat) / 2).toNat)) + 1)) := idf_aI hD_ (Or.inl (by decide))
        refine sm_T_inc (a := 1) (z := 1) (v := n_) (w := n_ + 1) rfl rfl (by omega) (by omega) (by omega) ?_
        refine sm_T_go 1 (c1 := (16, [some (.inr (.inr (some (1, 0)))), some (.inl (n_ + 1))], [], sm_aI S_ 33 0 n_.toNat ((sm_mx (S_.2.2.1 33 0 ((S_.2.2.1 42 (0 + dd_) n_.toNat) / 2).toNat) (S_.2.2.1 33 0 ((S_.2.2.1 43 (0 + dd_) n_.toNat) / 2).toNat)) + 1))) rfl ?_
        refine ih_.1 (n_ + 1) (sm_aI S_ 33 0 n_.toNat ((sm_mx (S_.2.2.1 33 0 ((S_.2.2.1 42 (0 + dd_) n_.toNat) / 2).toNat) (S_.2.2.1 33 0 ((S_.2.2.1 43 (0 + dd_) n_.toNat) / 2).toNat)) + 1)) hIx11_ hFx12_ ⟨?_, ?_, ?_, trivial⟩ ?_
        · omega
        · intro k9_ hk9_
          rw [rd_eq]
          by_cases z9_ : k9_ = n_.toNat
          · rw [if_pos z9_]; split <;> (split at lo_ <;> split at hi_ <;> omega)
          · rw [if_neg z9_]; exact h1_ k9_ (by omega)
        · exact hDx13_
        · omega
    · rintro k_ S_ hI_ hF_ ⟨h0_, h1_, hD_, -⟩ hm_
      have g1_ := hg_.1
      have g2_ := hg_.2.1
      have e4_ : S_.1 3 dd_ 4 = S0_.1 3 dd_ 4 := hF_.1 3 dd_ 4 rfl
      have e3_ : S_.1 3 dd_ 3 = S0_.1 3 dd_ 3 := hF_.1 3 dd_ 3 rfl
      have e2_ : S_.1 3 dd_ 2 = S0_.1 3 dd_ 2 := hF_.1 3 dd_ 2 rfl
      have r1_ := hr_.1
      refine sm_T_go 2 (c1 := (88, [some (.inr (.inr (some (1, 0)))), some (.inl k_)], [.inr (.inr (some (1, 0))), .inl k_], S_)) rfl ?_
      refine sm_T_gr rfl rfl ((hF_.2.1 1 0 1 rfl).trans hd_) ?_
      refine sm_T_cal (d1 := 0) (Q1 := vq_66 dd_ S_) rfl rfl (by decide) (vc_66 dd_ S_ hI_ (by omega)) (fun u_ Sx1_ px4_ => ?_)
      obtain ⟨rfl, vx6_, rfl, px4_⟩ := px4_
      have e91_ := px4_
      refine sm_T_br (a := 3) (z := 41) rfl (fun cx7_ => ?_) (fun cx7_ => ?_)
      · have cx7_ : vx6_ ≤ k_ := of_decide_eq_true cx7_
        refine sm_T_rv rfl ⟨_, _, rfl, rfl, hI_, hF_, ?_⟩
        refine ⟨hD_, ?_⟩
        trivial
      · have cx7_ : ¬ (vx6_ ≤ k_) := of_decide_eq_false cx7_
        refine sm_T_go 1 (c1 := (98, [some (.inr (.inr (some (1, 0)))), some (.inl k_)], [.inr (.inr (some (1, 0)))], S_)) rfl ?_
        refine sm_T_gr rfl rfl ((hF_.2.1 1 0 1 rfl).trans hd_) ?_
        refine sm_T_go 1 (c1 := (102, [some (.inr (.inr (some (1, 0)))), some (.inl k_)], [.inr (.inr (some (1, 0))), .inr (.inr (some (3, dd_)))], S_)) rfl ?_
        refine sm_T_gr rfl rfl ((hF_.2.1 1 0 1 rfl).trans hd_) ?_
        have bx8_ : 0 ≤ S_.1 3 dd_ 7 ∧ S_.1 3 dd_ 7 ≤ 1000 := hI_.1 3 dd_ 7 rfl
        refine sm_T_go 4 (c1 := (113, [some (.inr (.inr (some (1, 0)))), some (.inl k_)], [.inr (.inr (some (1, 0))), .inr (.inr (some (33, 0))), .inl (S_.1 3 dd_ 7), .inr (.inr (some (3, dd_)))], S_)) rfl ?_
        refine sm_T_gr rfl rfl ((hF_.2.1 1 0 1 rfl).trans hd_) ?_
        refine sm_T_go 1 (c1 := (117, [some (.inr (.inr (some (1, 0)))), some (.inl k_)], [.inl k_, .inr (.inr (some (3, dd_))), .inr (.inr (some (33, 0))), .inl (S_.1 3 dd_ 7), .inr (.inr (some (3, dd_)))], S_)) rfl ?_
        refine sm_T_cal (d1 := 0) (Q1 := vq_65 k_ dd_ S_) rfl rfl (by decide) (vc_65 k_ dd_ S_ hI_ (by exact drt_fr hr_ hF_ rfl rfl rfl rfl rfl) (by omega)) (fun u_ Sx9_ px12_ => ?_)
        obtain ⟨rfl, vx14_, rfl, px12_⟩ := px12_
        have e117_ := px12_
        have w9_ := h1_ (vx14_ / 2).toNat (by omega)
        refine sm_T_go 1 (c1 := (121, [some (.inr (.inr (some (1, 0)))), some (.inl k_)], [.inl 1, .inl vx14_, .inr (.inr (some (33, 0))), .inl (S_.1 3 dd_ 7), .inr (.inr (some (3, dd_)))], S_)) rfl ?_
        refine sm_T_bin (w := (vx14_ / 2)) rfl (bi_shr (k := 1) (by decide) (by omega) (by omega)) ?_
        refine sm_T_iald (n := 1013) rfl rfl (by omega) (by omega) ?_
        have bx15_ : 0 ≤ S_.2.2.1 33 0 (vx14_ / 2).toNat ∧ S_.2.2.1 33 0 (vx14_ / 2).toNat ≤ 1012 := hI_.2 33 0 _
        refine sm_T_nt (u := some (.inl (sm_mx (S_.1 3 dd_ 7) (S_.2.2.1 33 0 (vx14_ / 2).toNat)))) (S1 := S_) rfl rfl rfl ?_
        have bx16_ := sm_mx_d (S_.1 3 dd_ 7) (S_.2.2.1 33 0 (vx14_ / 2).toNat)
        have hIx17_ : gi (sm_pI S_ 3 dd_ 7 (sm_mx (S_.1 3 dd_ 7) (S_.2.2.1 33 0 (vx14_ / 2).toNat))) := gi_pI hI_ (show 0 ≤ (sm_mx (S_.1 3 dd_ 7) (S_.2.2.1 33 0 (vx14_ / 2).toNat)) ∧ (sm_mx (S_.1 3 dd_ 7) (S_.2.2.1 33 0 (vx14_ / 2).toNat)) ≤ 1000 from ⟨by omega, by omega⟩)
        have hFx18_ : ai_fr (sx_W vw_46) S0_ (sm_pI S_ 3 dd_ 7 (sm_mx (S_.1 3 dd_ 7) (S_.2.2.1 33 0 (vx14_ / 2).toNat))) := ai_fr_tr hF_ (ai_fr_pI rfl)
        have hDx19_ : idf dd_ S0_ (sm_pI S_ 3 dd_ 7 (sm_mx (S_.1 3 dd_ 7) (S_.2.2.1 33 0 (vx14_ / 2).toNat))) := idf_pI hD_ (Or.inr rfl)
        refine sm_T_go 1 (c1 := (129, [some (.inr (.inr (some (1, 0)))), some (.inl k_)], [], sm_pI S_ 3 dd_ 7 (sm_mx (S_.1 3 dd_ 7) (S_.2.2.1 33 0 (vx14_ / 2).toNat)))) rfl ?_
        refine sm_T_inc (a := 1) (z := 1) (v := k_) (w := k_ + 1) rfl rfl (by omega) (by omega) (by omega) ?_
        refine sm_T_go 1 (c1 := (86, [some (.inr (.inr (some (1, 0)))), some (.inl (k_ + 1))], [], sm_pI S_ 3 dd_ 7 (sm_mx (S_.1 3 dd_ 7) (S_.2.2.1 33 0 (vx14_ / 2).toNat)))) rfl ?_
        refine ih_.2 (k_ + 1) (sm_pI S_ 3 dd_ 7 (sm_mx (S_.1 3 dd_ 7) (S_.2.2.1 33 0 (vx14_ / 2).toNat))) hIx17_ hFx18_ ⟨?_, ?_, ?_, trivial⟩ ?_
        · omega
        · exact h1_
        · exact hDx19_
        · omega
set_option maxHeartbeats 1000000 in
theorem vc_46 {sc_ : Nat × (Nat → Int)} (dd_ : Nat) (F_ : Nat) (S0_ : sm_S) (hI_ : gi S0_) (hd_ : S0_.2.1 1 0 1 = some dd_) (hg_ : dgr dd_ F_ S0_) (hr_ : drt dd_ S0_) : sm_T (mt_P sc_) 1 46 (0, [some (.inr (.inr (some (1, 0)))), none], [], S0_) (fun ro9_ => ∃ u_ S1_, ro9_ = (.inl u_, S1_, 0) ∧ vq_46 dd_ F_ S0_ u_ S1_) := by
  have hF_ : ai_fr (sx_W vw_46) S0_ S0_ := ai_fr_rf
  have hD_ : idf dd_ S0_ S0_ := idf_rf
  refine sm_T_go 3 (c1 := (5, [some (.inr (.inr (some (1, 0)))), none], [.inl 0, .inr (.inr (some (33, 0)))], S0_)) rfl ?_
  refine sm_T_cal (d1 := 0) (Q1 := vq_2s 0 S0_) rfl rfl (by decide) (vc_2s 0 S0_ hI_ (by decide)) (fun u_ Sx1_ px4_ => ?_)
  obtain ⟨rfl, hIx2_, hFx3_, px4_⟩ := px4_
  have hFx5_ : ai_fr (sx_W vw_46) S0_ Sx1_ := ai_fr_tr hF_ (fr_le hFx3_ rfl)
  have hDx6_ : idf dd_ S0_ Sx1_ := idf_tr hD_ (idf_fr hFx3_ (by decide) (by decide))
  have e5_ := px4_
  refine sm_T_go 1 (c1 := (9, [some (.inr (.inr (some (1, 0)))), none], [.inr (.inr (some (1, 0)))], Sx1_)) rfl ?_
  refine sm_T_gr rfl rfl ((hFx5_.2.1 1 0 1 rfl).trans hd_) ?_
  refine sm_T_cal (d1 := 0) (Q1 := vq_63 dd_ Sx1_) rfl rfl (by decide) (vc_63 dd_ Sx1_ hIx2_ (by (have g1_ := hg_.1); rw [hFx5_.1 3 dd_ 1 rfl, hFx5_.1 3 dd_ 2 rfl]; omega)) (fun u_ Sx7_ px10_ => ?_)
  obtain ⟨rfl, vx12_, rfl, px10_⟩ := px10_
  have e12 := px10_
  refine sm_T_go 1 (c1 := (16, [some (.inr (.inr (some (1, 0)))), some (.inl vx12_)], [], Sx1_)) rfl ?_
  refine (vl_46 dd_ F_ S0_ hd_ hg_ hr_ _).1 vx12_ Sx1_ hIx2_ hFx5_ ⟨?_, ?_, ?_, trivial⟩ (Nat.lt_succ_self _)
  · have g1_ := hg_.1
    have g2_ := hg_.2.1
    have q1_ := hFx5_.1 3 dd_ 1 rfl
    have q2_ := hFx5_.1 3 dd_ 2 rfl
    omega
  · intro k9_ hk9_
    have g1_ := hg_.1
    have q1_ := hFx5_.1 3 dd_ 1 rfl
    have q2_ := hFx5_.1 3 dd_ 2 rfl
    rw [e5_ k9_ (by omega)]
    split <;> omega
  · exact hDx6_
end
/-! 99.zg5 -/
section
/-! rows of values; written by wip/p55/gen/vg -/

/-! rows of_ 64 values -/
def lcn (x_ : Int) : Prop := (Int64.ofInt x_).toInt = x_
theorem lcn_3 {x_ y_ : Int} : lcn (l_3 x_ y_) := by
  unfold lcn l_3
  rw [Int64.ofInt_toInt]
theorem lcn_5 {x_ y_ : Int} : lcn (l_5 x_ y_) := by
  unfold lcn l_5
  rw [Int64.ofInt_toInt]
theorem l3_dm {x_ y_ m_ : Int} : l_3 (l_3 x_ y_) m_ = l_3 (l_3 x_ m_) (l_3 y_ m_) := by
  unfold l_3
  simp only [Int64.ofInt_toInt]
  congr 1
  rw [Int64.and_assoc, Int64.and_assoc, Int64.and_comm (Int64.ofInt m_) (Int64.ofInt y_ &&& Int64.ofInt m_), Int64.and_assoc, Int64.and_self]
theorem l3_id {x_ m_ : Int} : l_3 (l_3 x_ m_) m_ = l_3 x_ m_ := by
  unfold l_3
  simp only [Int64.ofInt_toInt]
  rw [Int64.and_assoc, Int64.and_self]
theorem l5_0 {x_ : Int} (h_ : lcn x_) : l_5 x_ 0 = x_ := by
  unfold l_5
  rw [show Int64.ofInt 0 = 0 from rfl, Int64.xor_zero]
  exact h_
theorem l5_z {x_ : Int} (h_ : lcn x_) : l_5 0 x_ = x_ := by
  unfold l_5
  rw [show Int64.ofInt 0 = 0 from rfl, Int64.zero_xor]
  exact h_
theorem l5_5 {x_ m_ : Int} (h_ : lcn x_) : l_5 (l_5 x_ m_) m_ = x_ := by
  unfold l_5
  simp only [Int64.ofInt_toInt]
  rw [Int64.xor_assoc, Int64.xor_self, Int64.xor_zero]
  exact h_
theorem l5_self {x_ : Int} : l_5 x_ x_ = 0 := by
  unfold l_5
  rw [Int64.xor_self]
  rfl
theorem l5_c {x_ y_ : Int} : l_5 x_ y_ = l_5 y_ x_ := by
  unfold l_5
  rw [Int64.xor_comm]
theorem l3_0 {x_ : Int} : l_3 0 x_ = 0 := by
  unfold l_3
  rw [show Int64.ofInt 0 = 0 from rfl, Int64.zero_and]
  rfl
theorem l3_c {x_ y_ : Int} : l_3 x_ y_ = l_3 y_ x_ := by
  unfold l_3
  rw [Int64.and_comm]
theorem l3_self {x_ : Int} (h_ : lcn x_) : l_3 x_ x_ = x_ := by
  unfold l_3
  rw [Int64.and_self]
  exact h_
theorem i64_ax (x_ y_ z_ : Int64) : (x_ ^^^ y_) &&& z_ = (x_ &&& z_) ^^^ (y_ &&& z_) := by
  apply Int64.toBitVec_inj.mp
  simp only [Int64.toBitVec_and, Int64.toBitVec_xor]
  apply BitVec.eq_of_getElem_eq
  intro i9_ hi9_
  simp only [BitVec.getElem_and, BitVec.getElem_xor]
  cases x_.toBitVec[i9_] <;> cases y_.toBitVec[i9_] <;> cases z_.toBitVec[i9_] <;> rfl
/-- turned and cut_ off_: what is_ cut_ off_ before doesn't matter -/
theorem l3_tm {x_ m_ : Int} (hm_ : lcn m_) (hx_ : l_3 x_ m_ = x_) : l_3 (l_5 x_ (-1)) m_ = l_5 x_ m_ := by
  unfold l_3 l_5 at *
  simp only [Int64.ofInt_toInt]
  rw [i64_ax, show Int64.ofInt (-1) = -1 from rfl, Int64.and_comm (-1) _, Int64.and_neg_one]
  congr 2
  rw [← hx_, Int64.ofInt_toInt, Int64.and_assoc, Int64.and_self]
theorem l3_tn {x_ m_ : Int} (hm_ : lcn m_) : l_3 (l_5 x_ (-1)) m_ = l_5 (l_3 x_ m_) m_ := by
  unfold l_3 l_5 at *
  simp only [Int64.ofInt_toInt]
  rw [i64_ax, show Int64.ofInt (-1) = -1 from rfl, Int64.and_comm (-1) _, Int64.and_neg_one]
/-- a_ row_ and its_ opposite have nothing in common -/
theorem l3_op {x_ m_ : Int} (hx_ : l_3 x_ m_ = x_) : l_3 x_ (l_5 x_ m_) = 0 := by
  unfold l_3 l_5 at *
  simp only [Int64.ofInt_toInt]
  rw [Int64.and_comm, i64_ax, Int64.and_self, Int64.and_comm (Int64.ofInt m_) _]
  have e_ : Int64.ofInt x_ &&& Int64.ofInt m_ = Int64.ofInt x_ := by
    have q_ := congrArg Int64.ofInt hx_
    rw [Int64.ofInt_toInt] at q_
    exact q_
  rw [e_, Int64.xor_self]
  rfl
theorem l3_5m {x_ m_ : Int} (hx_ : l_3 x_ m_ = x_) (hm_ : lcn m_) : l_3 (l_5 x_ m_) m_ = l_5 x_ m_ := by
  unfold l_3 l_5 at *
  simp only [Int64.ofInt_toInt]
  rw [i64_ax, Int64.and_self]
  congr 2
  have q_ := congrArg Int64.ofInt hx_
  rw [Int64.ofInt_toInt] at q_
  exact q_
/-- what a_ row_ of_ values may_ be_ told by -/
def tmk (m_ t_ : Int) : Prop := t_ = 0 ∨ t_ = m_
/-- a_ literal's row_, cut_ off_ -/
def wlt (R_ : Nat → Int) (l_ : Int) (w_ : Nat) : Int := if l_ % 2 = 0 then R_ (64 * (l_ / 2).toNat + w_) else l_5 (R_ (64 * (l_ / 2).toNat + w_)) (-1)
def lik (W_ : Nat) (R_ : Nat → Int) (a_ b_ : Nat) (t_ : Int) : Prop := ∀ w_, w_ < W_ → R_ (64 * a_ + w_) = l_5 (R_ (64 * b_ + w_)) t_
def rok (W_ : Nat) (m_ : Int) (R_ : Nat → Int) (a_ : Nat) : Prop := ∀ w_, w_ < W_ → l_3 (R_ (64 * a_ + w_)) m_ = R_ (64 * a_ + w_)
theorem rok_c {W_ a_ : Nat} {m_ : Int} {R_ : Nat → Int} (h_ : rok W_ m_ R_ a_) : ∀ w_, w_ < W_ → lcn (R_ (64 * a_ + w_)) := fun w_ hw_ => by
  rw [← h_ w_ hw_]
  exact lcn_3
theorem tmk_x {m_ t_ : Int} (hm_ : lcn m_) (ht_ : tmk m_ t_) : tmk m_ (l_5 t_ m_) := by
  rcases ht_ with e_ | e_
  · rw [e_]; exact Or.inr (l5_z hm_)
  · rw [e_]; exact Or.inl l5_self
theorem l5_as {x_ y_ z_ : Int} : l_5 (l_5 x_ y_) z_ = l_5 x_ (l_5 y_ z_) := by
  unfold l_5
  simp only [Int64.ofInt_toInt]
  rw [Int64.xor_assoc]
theorem wlt_l {W_ p_ : Nat} {m_ t_ l_ : Int} {R_ : Nat → Int} (hm_ : lcn m_) (ho_ : rok W_ m_ R_ (l_ / 2).toNat) (ht_ : tmk m_ t_) (h_ : lik W_ R_ (l_ / 2).toNat p_ t_) : ∃ t'_, tmk m_ t'_ ∧ ∀ w_, w_ < W_ → l_3 (wlt R_ l_ w_) m_ = l_5 (R_ (64 * p_ + w_)) t'_ := by
  by_cases q_ : l_ % 2 = 0
  · refine ⟨t_, ht_, fun w_ hw_ => ?_⟩
    unfold wlt
    rw [if_pos q_, ho_ w_ hw_, h_ w_ hw_]
  · refine ⟨l_5 t_ m_, tmk_x hm_ ht_, fun w_ hw_ => ?_⟩
    unfold wlt
    rw [if_neg q_, l3_tm hm_ (ho_ w_ hw_), h_ w_ hw_, l5_as]
/-- an_ AND_ of_ rows that stand for_ one_ row_, or for_ nothing, is_ like one_ that is_ there -/
theorem and_like {W_ n_ p_ q_ z_ : Nat} {m_ t1_ t2_ : Int} {R_ : Nat → Int} {X_ Y_ : Nat → Int} (hm_ : lcn m_) (hp_ : rok W_ m_ R_ p_) (hq_ : rok W_ m_ R_ q_) (hz_ : ∀ w_, w_ < W_ → R_ (64 * z_ + w_) = 0) (h1_ : tmk m_ t1_) (h2_ : tmk m_ t2_) (hX_ : ∀ w_, w_ < W_ → X_ w_ = l_5 (R_ (64 * p_ + w_)) t1_) (hY_ : ∀ w_, w_ < W_ → Y_ w_ = l_5 (R_ (64 * q_ + w_)) t2_) (hR_ : ∀ w_, w_ < W_ → R_ (64 * n_ + w_) = l_3 (X_ w_) (Y_ w_)) (hc_ : p_ = z_ ∨ q_ = z_ ∨ p_ = q_) : (∃ t_, tmk m_ t_ ∧ lik W_ R_ n_ z_ t_) ∨ (∃ t_, tmk m_ t_ ∧ lik W_ R_ n_ p_ t_) ∨ ∃ t_, tmk m_ t_ ∧ lik W_ R_ n_ q_ t_ := by
  have key_ : ∀ {a_ b_ : Nat} {s1_ s2_ : Int} {U_ V_ : Nat → Int}, rok W_ m_ R_ b_ → (∀ w_, w_ < W_ → R_ (64 * a_ + w_) = 0) → tmk m_ s1_ → tmk m_ s2_ → (∀ w_, w_ < W_ → U_ w_ = l_5 (R_ (64 * a_ + w_)) s1_) → (∀ w_, w_ < W_ → V_ w_ = l_5 (R_ (64 * b_ + w_)) s2_) → (∀ w_, w_ < W_ → R_ (64 * n_ + w_) = l_3 (U_ w_) (V_ w_)) → (∃ t_, tmk m_ t_ ∧ lik W_ R_ n_ a_ t_) ∨ ∃ t_, tmk m_ t_ ∧ lik W_ R_ n_ b_ t_ := by
    intro a_ b_ s1_ s2_ U_ V_ hb_ ha_ k1_ k2_ hU_ hV_ hU2_
    rcases k1_ with e_ | e_
    · refine Or.inl ⟨0, Or.inl rfl, fun w_ hw_ => ?_⟩
      rw [hU2_ w_ hw_, hU_ w_ hw_, ha_ w_ hw_, e_, l5_self, l3_0]
    · refine Or.inr ⟨s2_, k2_, fun w_ hw_ => ?_⟩
      rw [hU2_ w_ hw_, hU_ w_ hw_, ha_ w_ hw_, e_, l5_z hm_, hV_ w_ hw_]
      rcases k2_ with f_ | f_
      · rw [f_, l5_0 (rok_c hb_ w_ hw_), l3_c, hb_ w_ hw_]
      · rw [f_, l3_c, l3_5m (hb_ w_ hw_) hm_]
  rcases hc_ with e_ | e_ | e_
  · rcases key_ (a_ := p_) (b_ := q_) hq_ (by rw [e_]; exact hz_) h1_ h2_ hX_ hY_ hR_ with k_ | k_
    · exact Or.inr (Or.inl k_)
    · exact Or.inr (Or.inr k_)
  · rcases key_ (a_ := q_) (b_ := p_) hp_ (by rw [e_]; exact hz_) h2_ h1_ hY_ hX_ (fun w_ hw_ => by rw [hR_ w_ hw_, l3_c]) with k_ | k_
    · exact Or.inr (Or.inr k_)
    · exact Or.inr (Or.inl k_)
  · subst e_
    rcases h1_ with e1_ | e1_
    · rcases h2_ with e2_ | e2_
      · refine Or.inr (Or.inl ⟨0, Or.inl rfl, fun w_ hw_ => ?_⟩)
        rw [hR_ w_ hw_, hX_ w_ hw_, hY_ w_ hw_, e1_, e2_, l5_0 (rok_c hp_ w_ hw_), l3_self (rok_c hp_ w_ hw_)]
      · refine Or.inl ⟨0, Or.inl rfl, fun w_ hw_ => ?_⟩
        rw [hR_ w_ hw_, hX_ w_ hw_, hY_ w_ hw_, e1_, e2_, l5_0 (rok_c hp_ w_ hw_), l3_op (hp_ w_ hw_), hz_ w_ hw_, l5_self]
    · rcases h2_ with e2_ | e2_
      · refine Or.inl ⟨0, Or.inl rfl, fun w_ hw_ => ?_⟩
        rw [hR_ w_ hw_, hX_ w_ hw_, hY_ w_ hw_, e1_, e2_, l5_0 (rok_c hp_ w_ hw_), l3_c, l3_op (hp_ w_ hw_), hz_ w_ hw_, l5_self]
      · refine Or.inr (Or.inl ⟨m_, Or.inr rfl, fun w_ hw_ => ?_⟩)
        rw [hR_ w_ hw_, hX_ w_ hw_, hY_ w_ hw_, e1_, e2_, l3_self lcn_5]
/-! the_ table of_ rows: open addressing -/
def nem (u_ : Nat → Int) : Nat → Int := fun j_ => if u_ j_ = -1 then 0 else 1
def bks (P_ : Nat → Prop) (K_ : Nat) (H_ : Nat → Nat) (u_ : Nat → Int) : Prop := (∀ j_, j_ < 4096 → u_ j_ = -1 ∨ ∃ m_, P_ m_ ∧ u_ j_ = (m_ : Int)) ∧ (∀ m_, P_ m_ → ∃ j_, j_ < 4096 ∧ u_ ((H_ m_ + j_) % 4096) = (m_ : Int) ∧ ∀ i_, i_ < j_ → u_ ((H_ m_ + i_) % 4096) ≠ -1) ∧ cn1 (nem u_) 4096 ≤ K_
theorem md_su (h_ q_ : Nat) (hq_ : q_ < 4096) : ∃ i_, i_ < 4096 ∧ (h_ + i_) % 4096 = q_ := ⟨(q_ + 4096 - h_ % 4096) % 4096, by omega, by omega⟩
theorem bks_end {P_ : Nat → Prop} {K_ h_ : Nat} {H_ : Nat → Nat} {u_ : Nat → Int} (hb_ : bks P_ K_ H_ u_) (hK_ : K_ < 4096) (hn_ : ∀ i_, i_ < 4096 → u_ ((h_ + i_) % 4096) ≠ -1) : False := by
  have e_ : cn1 (nem u_) 4096 = 4096 := cn1_all (fun k_ hk_ => by
    obtain ⟨i_, hi_, e_⟩ := md_su h_ k_ hk_
    have q_ := hn_ i_ hi_
    rw [e_] at q_
    exact if_neg q_)
  have := hb_.2.2
  omega
theorem bks_put {P_ : Nat → Prop} {K_ j_ n_ : Nat} {H_ : Nat → Nat} {u_ w_ : Nat → Int} (hb_ : bks P_ K_ H_ u_) (hj_ : j_ < 4096) (h1_ : ∀ i_, i_ < j_ → u_ ((H_ n_ + i_) % 4096) ≠ -1) (h2_ : u_ ((H_ n_ + j_) % 4096) = -1) (hw_ : ∀ k_, w_ k_ = if k_ = (H_ n_ + j_) % 4096 then (n_ : Int) else u_ k_) : bks (fun m_ => P_ m_ ∨ m_ = n_) (K_ + 1) H_ w_ := by
  have hz_ : ∀ k_, u_ k_ ≠ -1 → w_ k_ = u_ k_ := fun k_ z_ => by
    rw [hw_ k_, if_neg (fun e_ => z_ (by rw [e_]; exact h2_))]
  refine ⟨fun k_ hk_ => ?_, fun m_ hm_ => ?_, ?_⟩
  · rw [hw_ k_]
    by_cases e_ : k_ = (H_ n_ + j_) % 4096
    · rw [if_pos e_]
      exact Or.inr ⟨n_, Or.inr rfl, rfl⟩
    · rw [if_neg e_]
      rcases hb_.1 k_ hk_ with q_ | ⟨m_, q1_, q2_⟩
      · exact Or.inl q_
      · exact Or.inr ⟨m_, Or.inl q1_, q2_⟩
  · rcases hm_ with hm_ | hm_
    · obtain ⟨i_, q1_, q2_, q3_⟩ := hb_.2.1 m_ hm_
      exact ⟨i_, q1_, by rw [hz_ _ (by rw [q2_]; omega)]; exact q2_, fun i9_ h9_ => by rw [hz_ _ (q3_ i9_ h9_)]; exact q3_ i9_ h9_⟩
    · subst hm_
      exact ⟨j_, hj_, by rw [hw_ _, if_pos rfl], fun i9_ h9_ => by rw [hz_ _ (h1_ i9_ h9_)]; exact h1_ i9_ h9_⟩
  · have e_ := cn1_up (f := nem u_) (g := nem w_) (j := (H_ n_ + j_) % 4096) (by unfold nem; rw [if_pos h2_]; decide) (by unfold nem; rw [hw_ _, if_pos rfl, if_neg (by omega)]) (fun k_ hk_ => by unfold nem; rw [hw_ k_, if_neg hk_]) (n := 4096) (by omega)
    have := hb_.2.2
    omega
theorem bks_cg {P_ Q_ : Nat → Prop} {K_ L_ : Nat} {H_ I_ : Nat → Nat} {u_ : Nat → Int} (hb_ : bks P_ K_ H_ u_) (hP_ : ∀ m_, P_ m_ ↔ Q_ m_) (hK_ : K_ ≤ L_) (hH_ : ∀ m_, P_ m_ → H_ m_ = I_ m_) : bks Q_ L_ I_ u_ := by
  refine ⟨fun j_ hj_ => ?_, fun m_ hm_ => ?_, Nat.le_trans hb_.2.2 hK_⟩
  · rcases hb_.1 j_ hj_ with q_ | ⟨m_, q1_, q2_⟩
    · exact Or.inl q_
    · exact Or.inr ⟨m_, (hP_ m_).mp q1_, q2_⟩
  · rw [← hH_ m_ ((hP_ m_).mpr hm_)]
    exact hb_.2.1 m_ ((hP_ m_).mpr hm_)
/-- not found means that there is_ none -/
theorem bks_no {P_ : Nat → Prop} {K_ j_ h_ : Nat} {H_ : Nat → Nat} {u_ : Nat → Int} {L_ : Nat → Prop} (hb_ : bks P_ K_ H_ u_) (h1_ : ∀ i_, i_ < j_ → ∀ m_ : Nat, u_ ((h_ + i_) % 4096) = (m_ : Int) → ¬ L_ m_) (h2_ : u_ ((h_ + j_) % 4096) = -1) (hL_ : ∀ m_, P_ m_ → L_ m_ → H_ m_ = h_) : ∀ m_, P_ m_ → ¬ L_ m_ := by
  intro m_ hm_ hl_
  obtain ⟨i_, q1_, q2_, q3_⟩ := hb_.2.1 m_ hm_
  rw [hL_ m_ hm_ hl_] at q2_ q3_
  by_cases z_ : i_ < j_
  · exact h1_ i_ z_ m_ q2_ hl_
  · by_cases z2_ : i_ = j_
    · rw [z2_, h2_] at q2_
      omega
    · exact q3_ j_ (by omega) h2_
theorem bks_0 {P_ : Nat → Prop} {H_ : Nat → Nat} {u_ : Nat → Int} (h_ : ∀ j_, j_ < 4096 → u_ j_ = -1) (hP_ : ∀ m_, ¬ P_ m_) : bks P_ 0 H_ u_ := by
  refine ⟨fun j_ hj_ => Or.inl (h_ j_ hj_), fun m_ hm_ => absurd hm_ (hP_ m_), ?_⟩
  have e_ : cn1 (nem u_) 4096 = 0 := cn1_0 (fun k_ hk_ => by unfold nem; rw [if_pos (h_ k_ hk_)]; decide)
  omega
/-! the_ hash of_ a_ row_ -/
def nrw (m_ : Int) (R_ : Nat → Int) (a_ w_ : Nat) : Int := if l_3 (R_ (64 * a_)) 1 = 0 then R_ (64 * a_ + w_) else l_5 (R_ (64 * a_ + w_)) m_
def hsw (f_ : Nat → Int) : Nat → Int
  | 0 => 0
  | k_ + 1 => l_0 (l_2 (hsw f_ k_) 31) (l_5 (f_ k_) (l_s2 (f_ k_) 29))
theorem hsw_cg {f_ g_ : Nat → Int} : ∀ {k_ : Nat}, (∀ j_, j_ < k_ → f_ j_ = g_ j_) → hsw f_ k_ = hsw g_ k_
  | 0, _ => rfl
  | k_ + 1, h_ => by
    unfold hsw
    rw [hsw_cg (fun j_ hj_ => h_ j_ (by omega)), h_ k_ (by omega)]
def hps (z_ : Int) : Nat := (l_l2i (l_5 z_ (l_s2 z_ 32)) % 4096).toNat
def hrw (W_ : Nat) (m_ : Int) (R_ : Nat → Int) (a_ : Nat) : Nat := hps (hsw (nrw m_ R_ a_) W_)
theorem i64_1 (y_ : Int64) : y_ &&& 1 = 0 ∨ y_ &&& 1 = 1 := by
  have q_ : y_.toBitVec &&& 1#64 = 0#64 ∨ y_.toBitVec &&& 1#64 = 1#64 := by
    have r_ : (y_.toBitVec &&& 1#64).toNat = y_.toBitVec.toNat % 2 := by
      rw [BitVec.toNat_and]
      exact Nat.and_one_is_mod _
    rcases Nat.mod_two_eq_zero_or_one y_.toBitVec.toNat with z_ | z_
    · left
      apply BitVec.eq_of_toNat_eq
      rw [r_, z_]
      rfl
    · right
      apply BitVec.eq_of_toNat_eq
      rw [r_, z_]
      rfl
  rcases q_ with q_ | q_
  · left
    apply Int64.toBitVec_inj.mp
    rw [Int64.toBitVec_and]
    exact q_
  · right
    apply Int64.toBitVec_inj.mp
    rw [Int64.toBitVec_and]
    exact q_
theorem l3_x1 {x_ m_ : Int} (h1_ : l_3 m_ 1 = 1) : l_3 (l_5 x_ m_) 1 = 0 ↔ ¬ l_3 x_ 1 = 0 := by
  have e1_ : Int64.ofInt m_ &&& 1 = 1 := by
    have q_ := congrArg Int64.ofInt h1_
    unfold l_3 at q_
    rw [Int64.ofInt_toInt] at q_
    exact q_
  have e_ : l_3 (l_5 x_ m_) 1 = ((Int64.ofInt x_ &&& 1) ^^^ 1).toInt := by
    unfold l_3 l_5
    simp only [Int64.ofInt_toInt]
    rw [show Int64.ofInt 1 = 1 from rfl, i64_ax, e1_]
  have e2_ : l_3 x_ 1 = (Int64.ofInt x_ &&& 1).toInt := rfl
  rw [e_, e2_]
  have two_ : Int64.ofInt x_ &&& 1 = 0 ∨ Int64.ofInt x_ &&& 1 = 1 := by
    exact i64_1 _
  rcases two_ with z_ | z_
  · rw [z_]; decide
  · rw [z_]; decide
/-- rows that are_ alike have one_ hash -/
theorem hrw_l {W_ a_ b_ : Nat} {m_ t_ : Int} {R_ : Nat → Int} (hW_ : 0 < W_) (h1_ : l_3 m_ 1 = 1) (hb_ : rok W_ m_ R_ b_) (ht_ : tmk m_ t_) (h_ : lik W_ R_ a_ b_ t_) : hrw W_ m_ R_ b_ = hrw W_ m_ R_ a_ := by
  unfold hrw
  refine congrArg hps (hsw_cg (fun w_ hw_ => ?_))
  unfold nrw
  have e0_ := h_ 0 hW_
  rw [Nat.add_zero, Nat.add_zero] at e0_
  rcases ht_ with q_ | q_
  · rw [q_, l5_0 (by have := rok_c hb_ 0 hW_; rw [Nat.add_zero] at this; exact this)] at e0_
    rw [e0_, h_ w_ hw_, q_, l5_0 (rok_c hb_ w_ hw_)]
  · rw [q_] at e0_
    rw [e0_, h_ w_ hw_, q_]
    have x1_ := l3_x1 (x_ := R_ (64 * b_)) h1_
    by_cases z_ : l_3 (R_ (64 * b_)) 1 = 0
    · rw [if_pos z_, if_neg (fun k_ => x1_.mp k_ z_), l5_5 (rok_c hb_ w_ hw_)]
    · rw [if_neg z_, if_pos (x1_.mpr z_)]
theorem bks_nl {W_ nd_ K_ j_ : Nat} {mk_ : Int} {R_ u_ : Nat → Int} {P_ : Nat → Prop} (hb_ : bks P_ K_ (hrw W_ mk_ R_) u_) (hW_ : 0 < W_) (h1_ : l_3 mk_ 1 = 1) (hr_ : ∀ m_, P_ m_ → rok W_ mk_ R_ m_) (hp_ : ∀ i_, i_ < j_ → ∀ m_ : Nat, u_ ((hrw W_ mk_ R_ nd_ + i_) % 4096) = (m_ : Int) → ∀ t_, tmk mk_ t_ → ¬ lik W_ R_ nd_ m_ t_) (he_ : u_ ((hrw W_ mk_ R_ nd_ + j_) % 4096) = -1) : ∀ m_, P_ m_ → ∀ t_, tmk mk_ t_ → ¬ lik W_ R_ nd_ m_ t_ := by
  intro m_ hm_ t_ ht_ hl_
  exact bks_no (L_ := fun m_ => ∃ t_, tmk mk_ t_ ∧ lik W_ R_ nd_ m_ t_) hb_ (fun i_ hi_ m_ hm_ => fun ⟨t_, q1_, q2_⟩ => hp_ i_ hi_ m_ hm_ t_ q1_ q2_) he_ (fun m_ hm_ => fun ⟨t_, q1_, q2_⟩ => hrw_l hW_ h1_ (hr_ m_ hm_) q1_ q2_) m_ hm_ ⟨t_, ht_, hl_⟩
theorem hrw_cg {W_ a_ : Nat} {m_ : Int} {R_ Q_ : Nat → Int} (h_ : ∀ w_, w_ < W_ → Q_ (64 * a_ + w_) = R_ (64 * a_ + w_)) (hW_ : 0 < W_) : hrw W_ m_ Q_ a_ = hrw W_ m_ R_ a_ := by
  unfold hrw
  refine congrArg hps (hsw_cg (fun w_ hw_ => ?_))
  have e0_ := h_ 0 hW_
  rw [Nat.add_zero] at e0_
  unfold nrw
  rw [e0_, h_ w_ hw_]

/-! the_ sweep, node by node -/
def sPn (sf_ : Nat → Int) (n_ m_ : Nat) : Prop := m_ < n_ ∧ sf_ m_ = 2 * (m_ : Int)
def m3 (lo_ hi_ sf_ : Nat → Int) (m_ : Nat) : Prop := 1 ≤ sf_ (lo_ m_ / 2).toNat / 2 ∧ 1 ≤ sf_ (hi_ m_ / 2).toNat / 2 ∧ sf_ (lo_ m_ / 2).toNat / 2 ≠ sf_ (hi_ m_ / 2).toNat / 2
/-- what is_ told of_ a_ node: whom it_ stands for_ -/
def sfo (F_ : Nat) (lo_ hi_ sf_ : Nat → Int) (m_ : Nat) : Prop := (0 ≤ sf_ m_ ∧ sf_ m_ ≤ 2 * (m_ : Int) + 1) ∧ sf_ (sf_ m_ / 2).toNat = 2 * (sf_ m_ / 2) ∧ (F_ ≤ m_ → sf_ m_ = 2 * (m_ : Int) → m3 lo_ hi_ sf_ m_)
def sw1 (F_ W_ n_ : Nat) (mk_ : Int) (lo_ hi_ sf_ R_ : Nat → Int) : Prop := ∀ m_, m_ < n_ → sfo F_ lo_ hi_ sf_ m_ ∧ rok W_ mk_ R_ m_ ∧ ∃ t_, tmk mk_ t_ ∧ lik W_ R_ m_ (sf_ m_ / 2).toNat t_
def glo (F_ N_ : Nat) (lo_ hi_ : Nat → Int) : Prop := ∀ k_, F_ ≤ k_ → k_ < N_ → 2 ≤ lo_ k_ ∧ lo_ k_ < hi_ k_ ∧ hi_ k_ < 2 * (k_ : Int)
theorem sfo_cg {F_ n_ m_ : Nat} {lo_ hi_ sf_ sg_ : Nat → Int} (hg_ : F_ ≤ m_ → 2 ≤ lo_ m_ ∧ lo_ m_ < hi_ m_ ∧ hi_ m_ < 2 * (m_ : Int)) (hm_ : m_ < n_) (h_ : sfo F_ lo_ hi_ sf_ m_) (e_ : ∀ k_, k_ < n_ → sg_ k_ = sf_ k_) : sfo F_ lo_ hi_ sg_ m_ := by
  unfold sfo at *
  rw [e_ m_ hm_, e_ _ (by omega)]
  refine ⟨h_.1, h_.2.1, fun a_ b_ => ?_⟩
  have g_ := hg_ a_
  have q_ := h_.2.2 a_ b_
  unfold m3 at *
  rw [e_ _ (by omega), e_ _ (by omega)]
  exact q_
theorem sw_fd {F_ W_ n_ N_ p_ : Nat} {mk_ t_ v_ : Int} {lo_ hi_ sf_ sg_ R_ : Nat → Int} (hg_ : glo F_ N_ lo_ hi_) (hN_ : n_ < N_) (h_ : sw1 F_ W_ n_ mk_ lo_ hi_ sf_ R_) (hr_ : rok W_ mk_ R_ n_) (hp_ : sPn sf_ n_ p_) (ht_ : tmk mk_ t_) (hl_ : lik W_ R_ n_ p_ t_) (hv_ : v_ = 2 * (p_ : Int) + (if t_ = 0 then 0 else 1)) (e_ : ∀ k_, sg_ k_ = if k_ = n_ then v_ else sf_ k_) : sw1 F_ W_ (n_ + 1) mk_ lo_ hi_ sg_ R_ := by
  have e1_ : ∀ k_, k_ < n_ → sg_ k_ = sf_ k_ := fun k_ hk_ => by rw [e_ k_, if_neg (by omega)]
  have en_ : sg_ n_ = v_ := by rw [e_ n_, if_pos rfl]
  have v2_ : v_ / 2 = p_ := by rw [hv_]; split <;> omega
  intro m_ hm_
  by_cases z_ : m_ < n_
  · have q_ := h_ m_ z_
    refine ⟨sfo_cg (fun a_ => hg_ m_ a_ (by omega)) z_ q_.1 e1_, q_.2.1, ?_⟩
    rw [e1_ m_ z_]
    exact q_.2.2
  · have zn_ : m_ = n_ := by omega
    subst zn_
    refine ⟨?_, hr_, t_, ht_, ?_⟩
    · unfold sfo
      rw [en_, v2_, Int.toNat_natCast, e1_ p_ hp_.1, hp_.2]
      have := hp_.1
      refine ⟨?_, rfl, fun _ q_ => ?_⟩
      · rw [hv_]; split <;> omega
      · exfalso; rw [hv_] at q_; split at q_ <;> omega
    · rw [en_, v2_, Int.toNat_natCast]
      exact hl_
theorem sw_nw {F_ W_ n_ N_ : Nat} {mk_ : Int} {lo_ hi_ sf_ sg_ R_ : Nat → Int} (hg_ : glo F_ N_ lo_ hi_) (hF_ : 1 ≤ F_) (hN_ : n_ < N_) (hW_ : 0 < W_) (hm1_ : lcn mk_) (h_ : sw1 F_ W_ n_ mk_ lo_ hi_ sf_ R_) (h0_ : 0 < n_ → ∀ w_, w_ < W_ → R_ w_ = 0) (hr_ : rok W_ mk_ R_ n_) (hx_ : F_ ≤ n_ → ∀ w_, w_ < W_ → R_ (64 * n_ + w_) = l_3 (l_3 (wlt R_ (lo_ n_) w_) (wlt R_ (hi_ n_) w_)) mk_) (hno_ : ∀ p_, sPn sf_ n_ p_ → ∀ t_, tmk mk_ t_ → ¬ lik W_ R_ n_ p_ t_) (e_ : ∀ k_, sg_ k_ = if k_ = n_ then 2 * (n_ : Int) else sf_ k_) (hz_ : 0 < n_ → sf_ 0 = 0) : sw1 F_ W_ (n_ + 1) mk_ lo_ hi_ sg_ R_ := by
  have e1_ : ∀ k_, k_ < n_ → sg_ k_ = sf_ k_ := fun k_ hk_ => by rw [e_ k_, if_neg (by omega)]
  have en_ : sg_ n_ = 2 * (n_ : Int) := by rw [e_ n_, if_pos rfl]
  have v2_ : (2 * (n_ : Int)) / 2 = n_ := by omega
  intro m_ hm_
  by_cases z_ : m_ < n_
  · have q_ := h_ m_ z_
    refine ⟨sfo_cg (fun a_ => hg_ m_ a_ (by omega)) z_ q_.1 e1_, q_.2.1, ?_⟩
    rw [e1_ m_ z_]
    exact q_.2.2
  · have zn_ : m_ = n_ := by omega
    subst zn_
    refine ⟨?_, hr_, 0, Or.inl rfl, ?_⟩
    · unfold sfo
      rw [en_, v2_, Int.toNat_natCast, en_]
      refine ⟨by omega, rfl, fun a_ _ => ?_⟩
      have g_ := hg_ m_ a_ hN_
      obtain ⟨ql_, rl_, tl_, ul_, wl⟩ := h_ (lo_ m_ / 2).toNat (by omega)
      obtain ⟨qh_, rh_, th, uh_, wh_⟩ := h_ (hi_ m_ / 2).toNat (by omega)
      have pl_ : sPn sf_ m_ (sf_ (lo_ m_ / 2).toNat / 2).toNat := ⟨by have := ql_.1; omega, by rw [ql_.2.1]; have := ql_.1; omega⟩
      have ph_ : sPn sf_ m_ (sf_ (hi_ m_ / 2).toNat / 2).toNat := ⟨by have := qh_.1; omega, by rw [qh_.2.1]; have := qh_.1; omega⟩
      obtain ⟨t1_, k1_, x1_⟩ := wlt_l hm1_ rl_ ul_ wl
      obtain ⟨t2_, k2_, x2_⟩ := wlt_l hm1_ rh_ uh_ wh_
      have key_ : ¬ ((sf_ (lo_ m_ / 2).toNat / 2).toNat = 0 ∨ (sf_ (hi_ m_ / 2).toNat / 2).toNat = 0 ∨ (sf_ (lo_ m_ / 2).toNat / 2).toNat = (sf_ (hi_ m_ / 2).toNat / 2).toNat) := by
        intro hc_
        have al_ := and_like (n_ := m_) (z_ := 0) (X_ := fun w_ => l_3 (wlt R_ (lo_ m_) w_) mk_) (Y_ := fun w_ => l_3 (wlt R_ (hi_ m_) w_) mk_) hm1_ (h_ _ pl_.1).2.1 (h_ _ ph_.1).2.1 (fun w_ hw_ => by rw [Nat.mul_zero, Nat.zero_add]; exact h0_ (by omega) w_ hw_) k1_ k2_ x1_ x2_ (fun w_ hw_ => by rw [hx_ a_ w_ hw_, l3_dm]) hc_
        rcases al_ with ⟨t_, c1_, c2_⟩ | ⟨t_, c1_, c2_⟩ | ⟨t_, c1_, c2_⟩
        · exact hno_ 0 ⟨by omega, by rw [hz_ (by omega)]; rfl⟩ t_ c1_ c2_
        · exact hno_ _ pl_ t_ c1_ c2_
        · exact hno_ _ ph_ t_ c1_ c2_
      have b1_ := ql_.1
      have b2_ := qh_.1
      have e9_ : sg_ (lo_ m_ / 2).toNat = sf_ (lo_ m_ / 2).toNat := e1_ _ (by omega)
      have e8_ : sg_ (hi_ m_ / 2).toNat = sf_ (hi_ m_ / 2).toNat := e1_ _ (by omega)
      unfold m3
      rw [e9_, e8_]
      omega
    · rw [en_, v2_, Int.toNat_natCast]
      intro w_ hw_
      exact (l5_0 (rok_c hr_ w_ hw_)).symm
theorem lik_cg {W_ a_ b_ : Nat} {t_ : Int} {R_ Q_ : Nat → Int} (h_ : lik W_ R_ a_ b_ t_) (h1_ : ∀ w_, w_ < W_ → Q_ (64 * a_ + w_) = R_ (64 * a_ + w_)) (h2_ : ∀ w_, w_ < W_ → Q_ (64 * b_ + w_) = R_ (64 * b_ + w_)) : lik W_ Q_ a_ b_ t_ := fun w_ hw_ => by
  rw [h1_ w_ hw_, h2_ w_ hw_]
  exact h_ w_ hw_
theorem rok_cg {W_ a_ : Nat} {m_ : Int} {R_ Q_ : Nat → Int} (h_ : rok W_ m_ R_ a_) (h1_ : ∀ w_, w_ < W_ → Q_ (64 * a_ + w_) = R_ (64 * a_ + w_)) : rok W_ m_ Q_ a_ := fun w_ hw_ => by
  rw [h1_ w_ hw_]
  exact h_ w_ hw_
theorem sw1_cg {F_ W_ n_ : Nat} {mk_ : Int} {lo_ hi_ sf_ R_ Q_ : Nat → Int} (h_ : sw1 F_ W_ n_ mk_ lo_ hi_ sf_ R_) (hW_ : W_ ≤ 64) (hQ_ : ∀ j_, j_ < 64 * n_ → Q_ j_ = R_ j_) : sw1 F_ W_ n_ mk_ lo_ hi_ sf_ Q_ := fun m_ hm_ => by
  obtain ⟨q1_, q2_, t_, q3_, q4_⟩ := h_ m_ hm_
  refine ⟨q1_, rok_cg q2_ (fun w_ hw_ => hQ_ _ (by omega)), t_, q3_, lik_cg q4_ (fun w_ hw_ => hQ_ _ (by omega)) (fun w_ hw_ => hQ_ _ (by have := q1_.1; omega))⟩
/-- which of_ both it_ must be_, if rows are_ alike -/
theorem trn {W_ a_ b_ : Nat} {mk_ t_ tn_ : Int} {R_ : Nat → Int} (hW_ : 0 < W_) (h1_ : l_3 mk_ 1 = 1) (hm_ : lcn mk_) (hb_ : rok W_ mk_ R_ b_) (ht_ : tmk mk_ t_) (h_ : lik W_ R_ a_ b_ t_) (hn_ : (tn_ = 0 ∧ l_3 (l_5 (R_ (64 * a_)) (R_ (64 * b_))) 1 = 0) ∨ (tn_ = mk_ ∧ l_3 (l_5 (R_ (64 * a_)) (R_ (64 * b_))) 1 ≠ 0)) : t_ = tn_ := by
  have e0_ := h_ 0 hW_
  rw [Nat.add_zero, Nat.add_zero] at e0_
  have c0_ : lcn (R_ (64 * b_)) := by have := rok_c hb_ 0 hW_; rw [Nat.add_zero] at this; exact this
  have ct : lcn t_ := by
    rcases ht_ with q_ | q_
    · rw [q_]; show (Int64.ofInt 0).toInt = 0; decide
    · rw [q_]; exact hm_
  have e_ : l_5 (R_ (64 * a_)) (R_ (64 * b_)) = t_ := by
    rw [e0_, l5_c, ← l5_as, l5_self, l5_z ct]
  rw [e_] at hn_
  rcases ht_ with q_ | q_
  · rcases hn_ with ⟨n1_, n2_⟩ | ⟨n1_, n2_⟩
    · rw [q_, n1_]
    · exfalso; rw [q_] at n2_; exact n2_ (by decide)
  · rcases hn_ with ⟨n1_, n2_⟩ | ⟨n1_, n2_⟩
    · exfalso; rw [q_, h1_] at n2_; exact absurd n2_ (by decide)
    · rw [q_, n1_]
theorem lc_0 {x_ y_ : Int} : sm_lcmp x_ y_ = 0 ↔ x_ = y_ := by
  unfold sm_lcmp
  constructor
  · intro h_
    split at h_
    · omega
    · split at h_
      · assumption
      · omega
  · intro h_
    rw [if_neg (by omega), if_pos h_]
end
/-! 99.zg6a -/
section
/-! the class: a row that is like another; written by wip/p55/gen/vg -/
/-! Builder.wordOf -/
def vw_48 : sx_Wl := ([], [], [])
def vq_48 (l_ : Int) (w_ : Int) (S0_ : sm_S) (u_ : Option sm_V) (S1_ : sm_S) : Prop := S0_ = S1_ ∧ ∃ v_ : Int, u_ = some (.inr (.inl v_)) ∧ (v_ = wlt (S0_.2.2.2 32 0) l_ w_.toNat)
set_option maxHeartbeats 400000 in
theorem vc_48 {sc_ : Nat × (Nat → Int)} (l_ : Int) (w_ : Int) (S0_ : sm_S) (hI_ : gi S0_) (hl_ : 0 ≤ l_ ∧ l_ ≤ 2025) (hw_ : 0 ≤ w_ ∧ w_ ≤ 63) : sm_T (mt_P sc_) 0 48 (0, [some (.inr (.inr (some (1, 0)))), some (.inl l_), some (.inl w_), none, none], [], S0_) (fun ro9_ => ∃ u_ S1_, ro9_ = (.inl u_, S1_, 0) ∧ vq_48 l_ w_ S0_ u_ S1_) := by
  have hF_ : ai_fr (sx_W vw_48) S0_ S0_ := ai_fr_rf
  refine sm_T_go 4 (c1 := (6, [some (.inr (.inr (some (1, 0)))), some (.inl l_), some (.inl w_), none, none], [.inl 1, .inl l_, .inr (.inr (some (32, 0)))], S0_)) rfl ?_
  refine sm_T_bin (w := (l_ / 2)) rfl (bi_shr (k := 1) (by decide) (by omega) (by omega)) ?_
  refine sm_T_go 1 (c1 := (9, [some (.inr (.inr (some (1, 0)))), some (.inl l_), some (.inl w_), none, none], [.inl 64, .inl (l_ / 2), .inr (.inr (some (32, 0)))], S0_)) rfl ?_
  refine sm_T_bin (w := 64 * (l_ / 2)) rfl (bi_mul (by omega) (by omega) (by omega)) ?_
  refine sm_T_go 1 (c1 := (11, [some (.inr (.inr (some (1, 0)))), some (.inl l_), some (.inl w_), none, none], [.inl w_, .inl (64 * (l_ / 2)), .inr (.inr (some (32, 0)))], S0_)) rfl ?_
  refine sm_T_bin (w := 64 * (l_ / 2) + w_) rfl (bi_add (by omega) (by omega) (by omega)) ?_
  refine sm_T_lald (n := 64832) rfl rfl (by omega) (by omega) ?_
  refine sm_T_go 3 (c1 := (16, [some (.inr (.inr (some (1, 0)))), some (.inl l_), some (.inl w_), some (.inr (.inl (S0_.2.2.2 32 0 (64 * (l_ / 2) + w_).toNat))), none], [.inl 1, .inl l_], S0_)) rfl ?_
  refine sm_T_bin (w := (l_ % 2)) rfl (bi_msk (k := 1) (by decide)) ?_
  refine sm_T_b0 (a := 1) (z := 7) rfl (fun cx1_ => ?_) (fun cx1_ => ?_)
  · have cx1_ : (l_ % 2) ≠ 0 := of_decide_eq_true cx1_
    refine sm_T_go 1 (c1 := (25, [some (.inr (.inr (some (1, 0)))), some (.inl l_), some (.inl w_), some (.inr (.inl (S0_.2.2.2 32 0 (64 * (l_ / 2) + w_).toNat))), none], [.inr (.inl (S0_.2.2.2 32 0 (64 * (l_ / 2) + w_).toNat))], S0_)) rfl ?_
    refine sm_T_nt (u := some (.inr (.inl (-1)))) (S1 := S0_) rfl rfl rfl ?_
    refine sm_T_go 1 (c1 := (29, [some (.inr (.inr (some (1, 0)))), some (.inl l_), some (.inl w_), some (.inr (.inl (S0_.2.2.2 32 0 (64 * (l_ / 2) + w_).toNat))), none], [.inr (.inl (l_5 ((S0_.2.2.2 32 0 (64 * (l_ / 2) + w_).toNat)) (-1)))], S0_)) rfl ?_
    refine sm_T_rl rfl ⟨_, _, rfl, rfl, _, rfl, ?_⟩
    unfold wlt
    rw [show 64 * (l_ / 2).toNat + w_.toNat = (64 * (l_ / 2) + w_).toNat by omega]
    first | rw [if_pos (by omega)] | rw [if_neg (by omega)]
  · have cx1_ : ¬ ((l_ % 2) ≠ 0) := of_decide_eq_false cx1_
    refine sm_T_go 2 (c1 := (29, [some (.inr (.inr (some (1, 0)))), some (.inl l_), some (.inl w_), some (.inr (.inl (S0_.2.2.2 32 0 (64 * (l_ / 2) + w_).toNat))), none], [.inr (.inl (S0_.2.2.2 32 0 (64 * (l_ / 2) + w_).toNat))], S0_)) rfl ?_
    refine sm_T_rl rfl ⟨_, _, rfl, rfl, _, rfl, ?_⟩
    unfold wlt
    rw [show 64 * (l_ / 2).toNat + w_.toNat = (64 * (l_ / 2) + w_).toNat by omega]
    first | rw [if_pos (by omega)] | rw [if_neg (by omega)]
end
/-! 99.zg6b -/
section
/-! Builder.bitWord -/
def vw_49 : sx_Wl := ([], [], [])
def vq_49 (b_ : Int) (w_ : Int) (S0_ : sm_S) (u_ : Option sm_V) (S1_ : sm_S) : Prop := S0_ = S1_ ∧ ∃ v_ : Int, u_ = some (.inr (.inl v_)) ∧ (True)
set_option maxHeartbeats 400000 in
theorem vc_49 {sc_ : Nat × (Nat → Int)} (b_ : Int) (w_ : Int) (S0_ : sm_S) (hI_ : gi S0_) (hb_ : 0 ≤ b_ ∧ b_ ≤ 11) (hw_ : 0 ≤ w_ ∧ w_ ≤ 63) : sm_T (mt_P sc_) 0 49 (0, [some (.inl b_), some (.inl w_)], [], S0_) (fun ro9_ => ∃ u_ S1_, ro9_ = (.inl u_, S1_, 0) ∧ vq_49 b_ w_ S0_ u_ S1_) := by
  have hF_ : ai_fr (sx_W vw_49) S0_ S0_ := ai_fr_rf
  refine sm_T_go 2 (c1 := (3, [some (.inl b_), some (.inl w_)], [.inl 6, .inl b_], S0_)) rfl ?_
  refine sm_T_br (a := 3) (z := 9) rfl (fun cx1_ => ?_) (fun cx1_ => ?_)
  · have cx1_ : 6 ≤ b_ := of_decide_eq_true cx1_
    refine sm_T_go 3 (c1 := (16, [some (.inl b_), some (.inl w_)], [.inl 6, .inl b_, .inl w_], S0_)) rfl ?_
    refine sm_T_bin (w := b_ - 6) rfl (bi_sub (by omega) (by omega) (by omega)) ?_
    refine sm_T_bin (w := (i_shr w_ (b_ - 6))) rfl rfl ?_
    refine sm_T_go 1 (c1 := (19, [some (.inl b_), some (.inl w_)], [.inl 1, .inl (i_shr w_ (b_ - 6))], S0_)) rfl ?_
    refine sm_T_bin (w := ((i_shr w_ (b_ - 6)) % 2)) rfl (bi_msk (k := 1) (by decide)) ?_
    refine sm_T_b0 (a := 1) (z := 7) rfl (fun cx2_ => ?_) (fun cx2_ => ?_)
    · have cx2_ : ((i_shr w_ (b_ - 6)) % 2) ≠ 0 := of_decide_eq_true cx2_
      refine sm_T_nt (u := some (.inr (.inl (-1)))) (S1 := S0_) rfl rfl rfl ?_
      refine sm_T_rl rfl ⟨_, _, rfl, rfl, _, rfl, ?_⟩
      trivial
    · have cx2_ : ¬ (((i_shr w_ (b_ - 6)) % 2) ≠ 0) := of_decide_eq_false cx2_
      refine sm_T_go 2 (c1 := (30, [some (.inl b_), some (.inl w_)], [.inr (.inl 0)], S0_)) rfl ?_
      refine sm_T_rl rfl ⟨_, _, rfl, rfl, _, rfl, ?_⟩
      trivial
  · have cx1_ : ¬ (6 ≤ b_) := of_decide_eq_false cx1_
    refine sm_T_nt (u := some (.inr (.inr (some (298, 0))))) (S1 := S0_) rfl rfl rfl ?_
    refine sm_T_go 1 (c1 := (10, [some (.inl b_), some (.inl w_)], [.inl b_, .inr (.inr (some (298, 0)))], S0_)) rfl ?_
    refine sm_T_nt (u := some (.inr (.inl (st_at 2 b_)))) (S1 := S0_) rfl rfl (nt_stl (sc := sc_) (j := 2) (n := 6) (by decide) rfl rfl (by omega) (by omega)) ?_
    refine sm_T_rl rfl ⟨_, _, rfl, rfl, _, rfl, ?_⟩
    trivial

/-- how_ far_ a_ row_ is_ like the_ one_ that a_ place of_ the_ table holds -/
def flk (P_ : Nat → Prop) (W_ nd_ : Nat) (mk_ : Int) (u_ R_ : Nat → Int) (pl_ od_ tu_ lk_ w_ : Int) : Prop := ∃ m8_, P_ m8_ ∧ od_ = (m8_ : Int) ∧ u_ pl_.toNat = od_ ∧ ((tu_ = 0 ∧ l_3 (l_5 (R_ (64 * nd_)) (R_ (64 * m8_))) 1 = 0) ∨ (tu_ = mk_ ∧ l_3 (l_5 (R_ (64 * nd_)) (R_ (64 * m8_))) 1 ≠ 0)) ∧ imq (lk_ = 1) (∀ j9_, j9_ < w_.toNat → R_ (64 * nd_ + j9_) = l_5 (R_ (64 * m8_ + j9_)) tu_) ∧ imq (lk_ = 0) (∃ j9_, j9_ < W_ ∧ R_ (64 * nd_ + j9_) ≠ l_5 (R_ (64 * m8_ + j9_)) tu_)
end
/-! 99.zg6c -/
section
/-! Builder.findLike -/
def vw_50 : sx_Wl := ([], [29], [])
def vq_50 (n_ : Int) (hs_ : Int) (mk_ : Int) (P_ : Nat → Prop) (K_ : Nat) (W_ : Nat) (nd_ : Nat) (S0_ : sm_S) (u_ : Option sm_V) (S1_ : sm_S) : Prop := ∃ v_ : Int, u_ = some (.inl v_) ∧ gi S1_ ∧ ai_fr (sx_W vw_50) S0_ S1_ ∧ ((∃ m9_ t_, P_ m9_ ∧ tmk mk_ t_ ∧ lik W_ (S0_.2.2.2 32 0) nd_ m9_ t_ ∧ v_ = 2 * (m9_ : Int) + (if t_ = 0 then 0 else 1) ∧ S1_.2.2.1 29 0 = S0_.2.2.1 29 0) ∨ (v_ = 2 * (nd_ : Int) ∧ bks (fun m9_ => P_ m9_ ∨ m9_ = nd_) (K_ + 1) (hrw W_ mk_ (S0_.2.2.2 32 0)) (S1_.2.2.1 29 0) ∧ ∀ m9_, P_ m9_ → ∀ t_, tmk mk_ t_ → ¬ lik W_ (S0_.2.2.2 32 0) nd_ m9_ t_))
set_option maxHeartbeats 2000000 in
set_option maxRecDepth 20000 in
theorem vl_50 {sc_ : Nat × (Nat → Int)} (n_ : Int) (hs_ : Int) (mk_ : Int) (P_ : Nat → Prop) (K_ : Nat) (W_ : Nat) (nd_ : Nat) (S0_ : sm_S) (hn_ : n_ = (nd_ : Int) ∧ nd_ ≤ 1012) (hW_ : (S0_.1 1 0 13) = (W_ : Int) ∧ 1 ≤ W_ ∧ W_ ≤ 64) (hb_ : bks P_ K_ (hrw W_ mk_ (S0_.2.2.2 32 0)) (S0_.2.2.1 29 0) ∧ K_ ≤ 1013) (hP_ : ∀ m9_, P_ m9_ → m9_ < nd_) (hmk_ : lcn mk_ ∧ l_3 mk_ 1 = 1 ∧ mk_ ≠ 0) (hh_ : hs_ = hsw (nrw mk_ (S0_.2.2.2 32 0) nd_) W_) (hr_ : ∀ m9_, (P_ m9_ ∨ m9_ = nd_) → rok W_ mk_ (S0_.2.2.2 32 0) m9_) : ∀ nn_ : Nat, (∀ (pl_ : Int) (qb_ : Int) (S_ : sm_S), gi S_ → ai_fr (sx_W vw_50) S0_ S_ → ((S_ = S0_) ∧ (0 ≤ qb_ ∧ qb_ ≤ 4096 ∧ pl_ = (((hrw W_ mk_ (S0_.2.2.2 32 0) nd_ + qb_.toNat) % 4096 : Nat) : Int)) ∧ (∀ i9_, i9_ < qb_.toNat → S0_.2.2.1 29 0 ((hrw W_ mk_ (S0_.2.2.2 32 0) nd_ + i9_) % 4096) ≠ -1 ∧ ∀ m9_ : Nat, S0_.2.2.1 29 0 ((hrw W_ mk_ (S0_.2.2.2 32 0) nd_ + i9_) % 4096) = (m9_ : Int) → ∀ t_, tmk mk_ t_ → ¬ lik W_ (S0_.2.2.2 32 0) nd_ m9_ t_) ∧ True) → ((100 * (4097 - qb_) + 99).toNat) < nn_ → sm_T (mt_P sc_) 0 50 (16, [some (.inr (.inr (some (1, 0)))), some (.inl n_), some (.inr (.inl hs_)), none, some (.inr (.inl mk_)), none, some (.inl pl_), some (.inl qb_), none, none, none, none, none], [], S_) (fun ro9_ => ∃ u_ S1_, ro9_ = (.inl u_, S1_, 0) ∧ vq_50 n_ hs_ mk_ P_ K_ W_ nd_ S0_ u_ S1_)) ∧ (∀ (pl_ : Int) (qb_ : Int) (od_ : Int) (tu_ : Int) (lk_ : Int) (w_ : Int) (S_ : sm_S), gi S_ → ai_fr (sx_W vw_50) S0_ S_ → ((S_ = S0_) ∧ (0 ≤ qb_ ∧ qb_ < 4096 ∧ pl_ = (((hrw W_ mk_ (S0_.2.2.2 32 0) nd_ + qb_.toNat) % 4096 : Nat) : Int)) ∧ (∀ i9_, i9_ < qb_.toNat → S0_.2.2.1 29 0 ((hrw W_ mk_ (S0_.2.2.2 32 0) nd_ + i9_) % 4096) ≠ -1 ∧ ∀ m9_ : Nat, S0_.2.2.1 29 0 ((hrw W_ mk_ (S0_.2.2.2 32 0) nd_ + i9_) % 4096) = (m9_ : Int) → ∀ t_, tmk mk_ t_ → ¬ lik W_ (S0_.2.2.2 32 0) nd_ m9_ t_) ∧ (flk P_ W_ nd_ mk_ (S0_.2.2.1 29 0) (S0_.2.2.2 32 0) pl_ od_ tu_ lk_ w_) ∧ (0 ≤ w_ ∧ w_ ≤ (W_ : Int) ∧ (lk_ = 0 ∨ lk_ = 1) ∧ 0 ≤ od_ ∧ od_ ≤ 1012) ∧ True) → ((100 * (4097 - qb_) + 65 - w_).toNat) < nn_ → sm_T (mt_P sc_) 0 50 (85, [some (.inr (.inr (some (1, 0)))), some (.inl n_), some (.inr (.inl hs_)), none, some (.inr (.inl mk_)), none, some (.inl pl_), some (.inl qb_), some (.inl od_), some (.inr (.inl tu_)), none, some (.inl lk_), some (.inl w_)], [], S_) (fun ro9_ => ∃ u_ S1_, ro9_ = (.inl u_, S1_, 0) ∧ vq_50 n_ hs_ mk_ P_ K_ W_ nd_ S0_ u_ S1_)) := by
  intro nn_
  induction nn_ with
  | zero => exact ⟨fun _ _ _ _ _ _ h_ => absurd h_ (Nat.not_lt_zero _), fun _ _ _ _ _ _ _ _ _ _ h_ => absurd h_ (Nat.not_lt_zero _)⟩
  | succ nn_ ih_ =>
    refine ⟨?_, ?_⟩
    · rintro pl_ qb_ S_ hI_ hF_ ⟨hS_, h0_, h1_, -⟩ hm_
      refine sm_T_go 2 (c1 := (21, [some (.inr (.inr (some (1, 0)))), some (.inl n_), some (.inr (.inl hs_)), none, some (.inr (.inl mk_)), none, some (.inl pl_), some (.inl qb_), none, none, none, none, none], [.inl 4096, .inl qb_], S_)) rfl ?_
      refine sm_T_br (a := 3) (z := 162) rfl (fun cx1_ => ?_) (fun cx1_ => ?_)
      · have cx1_ : 4096 ≤ qb_ := of_decide_eq_true cx1_
        refine sm_T_go 4 (c1 := (190, [some (.inr (.inr (some (1, 0)))), some (.inl n_), some (.inr (.inl hs_)), none, some (.inr (.inl mk_)), none, some (.inl pl_), some (.inl qb_), none, none, none, none, none], [.inl n_, .inl pl_, .inr (.inr (some (29, 0)))], S_)) rfl ?_
        refine sm_T_iast (n := 4096) rfl rfl (by omega) (by omega) ?_
        have hIx2_ : gi (sm_aI S_ 29 0 pl_.toNat n_) := gi_aI hI_ (show (-1) ≤ n_ ∧ n_ ≤ 1012 from ⟨by omega, by omega⟩)
        have hFx3_ : ai_fr (sx_W vw_50) S0_ (sm_aI S_ 29 0 pl_.toNat n_) := ai_fr_tr hF_ (ai_fr_aI rfl)
        refine sm_T_go 2 (c1 := (193, [some (.inr (.inr (some (1, 0)))), some (.inl n_), some (.inr (.inl hs_)), none, some (.inr (.inl mk_)), none, some (.inl pl_), some (.inl qb_), none, none, none, none, none], [.inl n_, .inl 2], sm_aI S_ 29 0 pl_.toNat n_)) rfl ?_
        refine sm_T_bin (w := 2 * n_) rfl (bi_mul (by omega) (by omega) (by omega)) ?_
        refine sm_T_ri rfl ⟨_, _, rfl, _, rfl, hIx2_, hFx3_, ?_⟩
        have at9_ : pl_.toNat = (hrw W_ mk_ (S0_.2.2.2 32 0) nd_ + qb_.toNat) % 4096 := by omega
        have em_ : S0_.2.2.1 29 0 ((hrw W_ mk_ (S0_.2.2.2 32 0) nd_ + qb_.toNat) % 4096) = -1 ∧ qb_ < 4096 := by first | (refine ⟨?_, by omega⟩; rw [← at9_, ← hS_]; omega) | (exfalso; exact bks_end (h_ := hrw W_ mk_ (S0_.2.2.2 32 0) nd_) hb_.1 (by omega) (fun i9_ hi9_ => (h1_ i9_ (by omega)).1))
        have no_ := bks_nl (nd_ := nd_) (j_ := qb_.toNat) hb_.1 (by omega) hmk_.2.1 (fun m9_ p9_ => hr_ m9_ (Or.inl p9_)) (fun i9_ hi9_ m9_ hm9_ => (h1_ i9_ hi9_).2 m9_ hm9_) em_.1
        refine Or.inr ⟨by omega, ?_, no_⟩
        refine bks_put (j_ := qb_.toNat) hb_.1 (by omega) (fun i9_ hi9_ => (h1_ i9_ hi9_).1) em_.1 (fun k9_ => ?_)
        rw [rd_eq, at9_, hS_, hn_.1]
      · have cx1_ : ¬ (4096 ≤ qb_) := of_decide_eq_false cx1_
        refine sm_T_go 3 (c1 := (30, [some (.inr (.inr (some (1, 0)))), some (.inl n_), some (.inr (.inl hs_)), none, some (.inr (.inl mk_)), none, some (.inl pl_), some (.inl qb_), none, none, none, none, none], [.inl pl_, .inr (.inr (some (29, 0)))], S_)) rfl ?_
        refine sm_T_iald (n := 4096) rfl rfl (by omega) (by omega) ?_
        have bx4_ : (-1) ≤ S_.2.2.1 29 0 pl_.toNat ∧ S_.2.2.1 29 0 pl_.toNat ≤ 1012 := hI_.2 29 0 _
        refine sm_T_go 1 (c1 := (32, [some (.inr (.inr (some (1, 0)))), some (.inl n_), some (.inr (.inl hs_)), none, some (.inr (.inl mk_)), none, some (.inl pl_), some (.inl qb_), none, none, none, none, none], [.inl (-1), .inl (S_.2.2.1 29 0 pl_.toNat)], S_)) rfl ?_
        refine sm_T_br (a := 0) (z := 151) rfl (fun cx5_ => ?_) (fun cx5_ => ?_)
        · have cx5_ : (S_.2.2.1 29 0 pl_.toNat) = (-1) := of_decide_eq_true cx5_
          refine sm_T_go 4 (c1 := (190, [some (.inr (.inr (some (1, 0)))), some (.inl n_), some (.inr (.inl hs_)), none, some (.inr (.inl mk_)), none, some (.inl pl_), some (.inl qb_), none, none, none, none, none], [.inl n_, .inl pl_, .inr (.inr (some (29, 0)))], S_)) rfl ?_
          refine sm_T_iast (n := 4096) rfl rfl (by omega) (by omega) ?_
          have hIx6_ : gi (sm_aI S_ 29 0 pl_.toNat n_) := gi_aI hI_ (show (-1) ≤ n_ ∧ n_ ≤ 1012 from ⟨by omega, by omega⟩)
          have hFx7_ : ai_fr (sx_W vw_50) S0_ (sm_aI S_ 29 0 pl_.toNat n_) := ai_fr_tr hF_ (ai_fr_aI rfl)
          refine sm_T_go 2 (c1 := (193, [some (.inr (.inr (some (1, 0)))), some (.inl n_), some (.inr (.inl hs_)), none, some (.inr (.inl mk_)), none, some (.inl pl_), some (.inl qb_), none, none, none, none, none], [.inl n_, .inl 2], sm_aI S_ 29 0 pl_.toNat n_)) rfl ?_
          refine sm_T_bin (w := 2 * n_) rfl (bi_mul (by omega) (by omega) (by omega)) ?_
          refine sm_T_ri rfl ⟨_, _, rfl, _, rfl, hIx6_, hFx7_, ?_⟩
          have at9_ : pl_.toNat = (hrw W_ mk_ (S0_.2.2.2 32 0) nd_ + qb_.toNat) % 4096 := by omega
          have em_ : S0_.2.2.1 29 0 ((hrw W_ mk_ (S0_.2.2.2 32 0) nd_ + qb_.toNat) % 4096) = -1 ∧ qb_ < 4096 := by first | (refine ⟨?_, by omega⟩; rw [← at9_, ← hS_]; omega) | (exfalso; exact bks_end (h_ := hrw W_ mk_ (S0_.2.2.2 32 0) nd_) hb_.1 (by omega) (fun i9_ hi9_ => (h1_ i9_ (by omega)).1))
          have no_ := bks_nl (nd_ := nd_) (j_ := qb_.toNat) hb_.1 (by omega) hmk_.2.1 (fun m9_ p9_ => hr_ m9_ (Or.inl p9_)) (fun i9_ hi9_ m9_ hm9_ => (h1_ i9_ hi9_).2 m9_ hm9_) em_.1
          refine Or.inr ⟨by omega, ?_, no_⟩
          refine bks_put (j_ := qb_.toNat) hb_.1 (by omega) (fun i9_ hi9_ => (h1_ i9_ hi9_).1) em_.1 (fun k9_ => ?_)
          rw [rd_eq, at9_, hS_, hn_.1]
        · have cx5_ : ¬ ((S_.2.2.1 29 0 pl_.toNat) = (-1)) := of_decide_eq_false cx5_
          have bm_ := hb_.1.1 pl_.toNat (by omega)
          have u9_ : S_.2.2.1 29 0 pl_.toNat = S0_.2.2.1 29 0 pl_.toNat := by rw [hS_]
          obtain ⟨m8_, p8, o8_⟩ : ∃ m8_, P_ m8_ ∧ S0_.2.2.1 29 0 pl_.toNat = (m8_ : Int) := by rcases bm_ with q9_ | q9_; (exfalso; omega); (exact q9_)
          clear bm_
          have m8n := hP_ m8_ p8
          refine sm_T_go 3 (c1 := (41, [some (.inr (.inr (some (1, 0)))), some (.inl n_), some (.inr (.inl hs_)), none, some (.inr (.inl mk_)), none, some (.inl pl_), some (.inl qb_), none, none, none, none, none], [.inl pl_, .inr (.inr (some (29, 0)))], S_)) rfl ?_
          refine sm_T_iald (n := 4096) rfl rfl (by omega) (by omega) ?_
          refine sm_T_go 5 (c1 := (51, [some (.inr (.inr (some (1, 0)))), some (.inl n_), some (.inr (.inl hs_)), none, some (.inr (.inl mk_)), none, some (.inl pl_), some (.inl qb_), some (.inl (S_.2.2.1 29 0 pl_.toNat)), none, none, none, none], [.inl 64, .inl n_, .inr (.inr (some (32, 0)))], S_)) rfl ?_
          refine sm_T_bin (w := 64 * n_) rfl (bi_mul (by omega) (by omega) (by omega)) ?_
          refine sm_T_lald (n := 64832) rfl rfl (by omega) (by omega) ?_
          refine sm_T_go 4 (c1 := (61, [some (.inr (.inr (some (1, 0)))), some (.inl n_), some (.inr (.inl hs_)), none, some (.inr (.inl mk_)), none, some (.inl pl_), some (.inl qb_), some (.inl (S_.2.2.1 29 0 pl_.toNat)), none, none, none, none], [.inl 64, .inl (S_.2.2.1 29 0 pl_.toNat), .inr (.inr (some (32, 0))), .inr (.inl (S_.2.2.2 32 0 (64 * n_).toNat))], S_)) rfl ?_
          refine sm_T_bin (w := 64 * (S_.2.2.1 29 0 pl_.toNat)) rfl (bi_mul (by omega) (by omega) (by omega)) ?_
          refine sm_T_lald (n := 64832) rfl rfl (by omega) (by omega) ?_
          refine sm_T_go 5 (c1 := (68, [some (.inr (.inr (some (1, 0)))), some (.inl n_), some (.inr (.inl hs_)), none, some (.inr (.inl mk_)), none, some (.inl pl_), some (.inl qb_), some (.inl (S_.2.2.1 29 0 pl_.toNat)), none, none, none, none], [.inl (sm_lcmp ((l_3 ((l_5 ((S_.2.2.2 32 0 (64 * n_).toNat)) ((S_.2.2.2 32 0 (64 * (S_.2.2.1 29 0 pl_.toNat)).toNat)))) 1)) 0)], S_)) rfl ?_
          refine sm_T_b0 (a := 1) (z := 7) rfl (fun cx8_ => ?_) (fun cx8_ => ?_)
          · have cx8_ : (sm_lcmp ((l_3 ((l_5 ((S_.2.2.2 32 0 (64 * n_).toNat)) ((S_.2.2.2 32 0 (64 * (S_.2.2.1 29 0 pl_.toNat)).toNat)))) 1)) 0) ≠ 0 := of_decide_eq_true cx8_
            refine sm_T_go 6 (c1 := (85, [some (.inr (.inr (some (1, 0)))), some (.inl n_), some (.inr (.inl hs_)), none, some (.inr (.inl mk_)), none, some (.inl pl_), some (.inl qb_), some (.inl (S_.2.2.1 29 0 pl_.toNat)), some (.inr (.inl mk_)), none, some (.inl 1), some (.inl 0)], [], S_)) rfl ?_
            refine ih_.2 pl_ qb_ (S_.2.2.1 29 0 pl_.toNat) mk_ 1 0 S_ hI_ hF_ ⟨?_, ?_, ?_, ?_, ?_, trivial⟩ ?_
            · exact hS_
            · omega
            · exact h1_
            · refine ⟨m8_, p8, by omega, by omega, ?_, fun _ j9_ hj9_ => absurd hj9_ (Nat.not_lt_zero _), fun z9_ => absurd z9_ (by decide)⟩
              have i1_ : 64 * nd_ = (64 * n_).toNat := by omega
              have i2_ : 64 * m8_ = (64 * S_.2.2.1 29 0 pl_.toNat).toNat := by omega
              rw [i1_, i2_, ← hS_]
              first | exact Or.inl ⟨rfl, lc_0.mp (by omega)⟩ | exact Or.inr ⟨rfl, fun q9_ => by have := lc_0.mpr q9_; omega⟩
            · omega
            · omega
          · have cx8_ : ¬ ((sm_lcmp ((l_3 ((l_5 ((S_.2.2.2 32 0 (64 * n_).toNat)) ((S_.2.2.2 32 0 (64 * (S_.2.2.1 29 0 pl_.toNat)).toNat)))) 1)) 0) ≠ 0) := of_decide_eq_false cx8_
            refine sm_T_go 7 (c1 := (85, [some (.inr (.inr (some (1, 0)))), some (.inl n_), some (.inr (.inl hs_)), none, some (.inr (.inl mk_)), none, some (.inl pl_), some (.inl qb_), some (.inl (S_.2.2.1 29 0 pl_.toNat)), some (.inr (.inl 0)), none, some (.inl 1), some (.inl 0)], [], S_)) rfl ?_
            refine ih_.2 pl_ qb_ (S_.2.2.1 29 0 pl_.toNat) 0 1 0 S_ hI_ hF_ ⟨?_, ?_, ?_, ?_, ?_, trivial⟩ ?_
            · exact hS_
            · omega
            · exact h1_
            · refine ⟨m8_, p8, by omega, by omega, ?_, fun _ j9_ hj9_ => absurd hj9_ (Nat.not_lt_zero _), fun z9_ => absurd z9_ (by decide)⟩
              have i1_ : 64 * nd_ = (64 * n_).toNat := by omega
              have i2_ : 64 * m8_ = (64 * S_.2.2.1 29 0 pl_.toNat).toNat := by omega
              rw [i1_, i2_, ← hS_]
              first | exact Or.inl ⟨rfl, lc_0.mp (by omega)⟩ | exact Or.inr ⟨rfl, fun q9_ => by have := lc_0.mpr q9_; omega⟩
            · omega
            · omega
    · rintro pl_ qb_ od_ tu_ lk_ w_ S_ hI_ hF_ ⟨hS_, h0_, h1_, h2_, h3_, -⟩ hm_
      have w9_ : S_.1 1 0 13 = (W_ : Int) := by rw [hS_]; exact hW_.1
      have bx1_ : 0 ≤ S_.1 1 0 13 ∧ S_.1 1 0 13 ≤ 64 := hI_.1 1 0 13 rfl
      refine sm_T_go 3 (c1 := (91, [some (.inr (.inr (some (1, 0)))), some (.inl n_), some (.inr (.inl hs_)), none, some (.inr (.inl mk_)), none, some (.inl pl_), some (.inl qb_), some (.inl od_), some (.inr (.inl tu_)), none, some (.inl lk_), some (.inl w_)], [.inl (S_.1 1 0 13), .inl w_], S_)) rfl ?_
      refine sm_T_br (a := 3) (z := 53) rfl (fun cx2_ => ?_) (fun cx2_ => ?_)
      · have cx2_ : (S_.1 1 0 13) ≤ w_ := of_decide_eq_true cx2_
        refine sm_T_go 1 (c1 := (146, [some (.inr (.inr (some (1, 0)))), some (.inl n_), some (.inr (.inl hs_)), none, some (.inr (.inl mk_)), none, some (.inl pl_), some (.inl qb_), some (.inl od_), some (.inr (.inl tu_)), none, some (.inl lk_), some (.inl w_)], [.inl lk_], S_)) rfl ?_
        refine sm_T_b0 (a := 0) (z := 21) rfl (fun cx3_ => ?_) (fun cx3_ => ?_)
        · have cx3_ : lk_ = 0 := of_decide_eq_true cx3_
          refine sm_T_go 2 (c1 := (170, [some (.inr (.inr (some (1, 0)))), some (.inl n_), some (.inr (.inl hs_)), none, some (.inr (.inl mk_)), none, some (.inl pl_), some (.inl qb_), some (.inl od_), some (.inr (.inl tu_)), none, some (.inl lk_), some (.inl w_)], [.inl 1, .inl pl_], S_)) rfl ?_
          refine sm_T_bin (w := pl_ + 1) rfl (bi_add (by omega) (by omega) (by omega)) ?_
          refine sm_T_go 1 (c1 := (174, [some (.inr (.inr (some (1, 0)))), some (.inl n_), some (.inr (.inl hs_)), none, some (.inr (.inl mk_)), none, some (.inl pl_), some (.inl qb_), some (.inl od_), some (.inr (.inl tu_)), none, some (.inl lk_), some (.inl w_)], [.inl 4095, .inl (pl_ + 1)], S_)) rfl ?_
          refine sm_T_bin (w := ((pl_ + 1) % 4096)) rfl (bi_msk (k := 12) (by decide)) ?_
          refine sm_T_go 1 (c1 := (177, [some (.inr (.inr (some (1, 0)))), some (.inl n_), some (.inr (.inl hs_)), none, some (.inr (.inl mk_)), none, some (.inl ((pl_ + 1) % 4096)), some (.inl qb_), some (.inl od_), some (.inr (.inl tu_)), none, some (.inl lk_), some (.inl w_)], [], S_)) rfl ?_
          refine sm_T_inc (a := 7) (z := 1) (v := qb_) (w := qb_ + 1) rfl rfl (by omega) (by omega) (by omega) ?_
          refine sm_T_go 1 (c1 := (16, [some (.inr (.inr (some (1, 0)))), some (.inl n_), some (.inr (.inl hs_)), none, some (.inr (.inl mk_)), none, some (.inl ((pl_ + 1) % 4096)), some (.inl (qb_ + 1)), some (.inl od_), some (.inr (.inl tu_)), none, some (.inl lk_), some (.inl w_)], [], S_)) rfl ?_
          refine sm_T_wk [some (.inr (.inr (some (1, 0)))), some (.inl n_), some (.inr (.inl hs_)), none, some (.inr (.inl mk_)), none, some (.inl ((pl_ + 1) % 4096)), some (.inl (qb_ + 1)), none, none, none, none, none] (by exact ⟨rfl, rfl, rfl, rfl, rfl, rfl, trivial⟩) ?_
          refine ih_.1 ((pl_ + 1) % 4096) (qb_ + 1) S_ hI_ hF_ ⟨?_, ?_, ?_, trivial⟩ ?_
          · exact hS_
          · omega
          · obtain ⟨m8_, p8, o8_, o9_, tr_, l1_, l0_⟩ := h2_
            obtain ⟨j8_, j9_, j10_⟩ := l0_ (by omega)
            intro i9_ hi9_
            by_cases q9_ : i9_ < qb_.toNat
            · exact h1_ i9_ q9_
            · have q8_ : i9_ = qb_.toNat := by omega
              rw [q8_, show (hrw W_ mk_ (S0_.2.2.2 32 0) nd_ + qb_.toNat) % 4096 = pl_.toNat by omega, o9_, o8_]
              refine ⟨by omega, fun m9_ hm9_ t9_ k9_ k8_ => ?_⟩
              have mm9_ : m9_ = m8_ := by omega
              rw [mm9_] at k8_
              have e9_ := trn (by omega) hmk_.2.1 hmk_.1 (hr_ m8_ (Or.inl p8)) k9_ k8_ tr_
              rw [← e9_] at j10_
              exact j10_ (k8_ j8_ j9_)
          · omega
        · have cx3_ : ¬ (lk_ = 0) := of_decide_eq_false cx3_
          refine sm_T_go 2 (c1 := (152, [some (.inr (.inr (some (1, 0)))), some (.inl n_), some (.inr (.inl hs_)), none, some (.inr (.inl mk_)), none, some (.inl pl_), some (.inl qb_), some (.inl od_), some (.inr (.inl tu_)), none, some (.inl lk_), some (.inl w_)], [.inl od_, .inl 2], S_)) rfl ?_
          refine sm_T_bin (w := 2 * od_) rfl (bi_mul (by omega) (by omega) (by omega)) ?_
          refine sm_T_go 3 (c1 := (157, [some (.inr (.inr (some (1, 0)))), some (.inl n_), some (.inr (.inl hs_)), none, some (.inr (.inl mk_)), none, some (.inl pl_), some (.inl qb_), some (.inl od_), some (.inr (.inl tu_)), none, some (.inl lk_), some (.inl w_)], [.inl (sm_lcmp tu_ 0), .inl (2 * od_)], S_)) rfl ?_
          refine sm_T_b0 (a := 1) (z := 7) rfl (fun cx4_ => ?_) (fun cx4_ => ?_)
          · have cx4_ : (sm_lcmp tu_ 0) ≠ 0 := of_decide_eq_true cx4_
            refine sm_T_go 1 (c1 := (165, [some (.inr (.inr (some (1, 0)))), some (.inl n_), some (.inr (.inl hs_)), none, some (.inr (.inl mk_)), none, some (.inl pl_), some (.inl qb_), some (.inl od_), some (.inr (.inl tu_)), none, some (.inl lk_), some (.inl w_)], [.inl 1, .inl (2 * od_)], S_)) rfl ?_
            refine sm_T_bin (w := 2 * od_ + 1) rfl (bi_add (by omega) (by omega) (by omega)) ?_
            refine sm_T_ri rfl ⟨_, _, rfl, _, rfl, hI_, hF_, ?_⟩
            obtain ⟨m8_, p8, o8_, o9_, tr_, l1_, l0_⟩ := h2_
            have ll_ : lik W_ (S0_.2.2.2 32 0) nd_ m8_ tu_ := fun w9_ hw9_ => l1_ (by omega) w9_ (by omega)
            refine Or.inl ⟨m8_, tu_, p8, ?_, ll_, ?_, by rw [hS_]⟩
            · rcases tr_ with q9_ | q9_; exact Or.inl q9_.1; exact Or.inr q9_.1
            · first | (have z9_ := lc_0.mp (of_decide_eq_true rfl |> fun _ => cx4_); skip) | skip
              first | (rw [if_pos (lc_0.mp (by omega))]; omega) | (rw [if_neg (fun q9_ => by have := lc_0.mpr q9_; omega)]; omega)
          · have cx4_ : ¬ ((sm_lcmp tu_ 0) ≠ 0) := of_decide_eq_false cx4_
            refine sm_T_go 2 (c1 := (165, [some (.inr (.inr (some (1, 0)))), some (.inl n_), some (.inr (.inl hs_)), none, some (.inr (.inl mk_)), none, some (.inl pl_), some (.inl qb_), some (.inl od_), some (.inr (.inl tu_)), none, some (.inl lk_), some (.inl w_)], [.inl 0, .inl (2 * od_)], S_)) rfl ?_
            refine sm_T_bin (w := 2 * od_) rfl (bi_add (by omega) (by omega) (by omega)) ?_
            refine sm_T_ri rfl ⟨_, _, rfl, _, rfl, hI_, hF_, ?_⟩
            obtain ⟨m8_, p8, o8_, o9_, tr_, l1_, l0_⟩ := h2_
            have ll_ : lik W_ (S0_.2.2.2 32 0) nd_ m8_ tu_ := fun w9_ hw9_ => l1_ (by omega) w9_ (by omega)
            refine Or.inl ⟨m8_, tu_, p8, ?_, ll_, ?_, by rw [hS_]⟩
            · rcases tr_ with q9_ | q9_; exact Or.inl q9_.1; exact Or.inr q9_.1
            · first | (have z9_ := lc_0.mp (of_decide_eq_true rfl |> fun _ => cx4_); skip) | skip
              first | (rw [if_pos (lc_0.mp (by omega))]; omega) | (rw [if_neg (fun q9_ => by have := lc_0.mpr q9_; omega)]; omega)
      · have cx2_ : ¬ ((S_.1 1 0 13) ≤ w_) := of_decide_eq_false cx2_
        refine sm_T_go 1 (c1 := (96, [some (.inr (.inr (some (1, 0)))), some (.inl n_), some (.inr (.inl hs_)), none, some (.inr (.inl mk_)), none, some (.inl pl_), some (.inl qb_), some (.inl od_), some (.inr (.inl tu_)), none, some (.inl lk_), some (.inl w_)], [.inl lk_], S_)) rfl ?_
        refine sm_T_b0 (a := 0) (z := 48) rfl (fun cx5_ => ?_) (fun cx5_ => ?_)
        · have cx5_ : lk_ = 0 := of_decide_eq_true cx5_
          refine sm_T_go 1 (c1 := (146, [some (.inr (.inr (some (1, 0)))), some (.inl n_), some (.inr (.inl hs_)), none, some (.inr (.inl mk_)), none, some (.inl pl_), some (.inl qb_), some (.inl od_), some (.inr (.inl tu_)), none, some (.inl lk_), some (.inl w_)], [.inl lk_], S_)) rfl ?_
          refine sm_T_b0 (a := 0) (z := 21) rfl (fun cx6_ => ?_) (fun cx6_ => ?_)
          · have cx6_ : lk_ = 0 := of_decide_eq_true cx6_
            refine sm_T_go 2 (c1 := (170, [some (.inr (.inr (some (1, 0)))), some (.inl n_), some (.inr (.inl hs_)), none, some (.inr (.inl mk_)), none, some (.inl pl_), some (.inl qb_), some (.inl od_), some (.inr (.inl tu_)), none, some (.inl lk_), some (.inl w_)], [.inl 1, .inl pl_], S_)) rfl ?_
            refine sm_T_bin (w := pl_ + 1) rfl (bi_add (by omega) (by omega) (by omega)) ?_
            refine sm_T_go 1 (c1 := (174, [some (.inr (.inr (some (1, 0)))), some (.inl n_), some (.inr (.inl hs_)), none, some (.inr (.inl mk_)), none, some (.inl pl_), some (.inl qb_), some (.inl od_), some (.inr (.inl tu_)), none, some (.inl lk_), some (.inl w_)], [.inl 4095, .inl (pl_ + 1)], S_)) rfl ?_
            refine sm_T_bin (w := ((pl_ + 1) % 4096)) rfl (bi_msk (k := 12) (by decide)) ?_
            refine sm_T_go 1 (c1 := (177, [some (.inr (.inr (some (1, 0)))), some (.inl n_), some (.inr (.inl hs_)), none, some (.inr (.inl mk_)), none, some (.inl ((pl_ + 1) % 4096)), some (.inl qb_), some (.inl od_), some (.inr (.inl tu_)), none, some (.inl lk_), some (.inl w_)], [], S_)) rfl ?_
            refine sm_T_inc (a := 7) (z := 1) (v := qb_) (w := qb_ + 1) rfl rfl (by omega) (by omega) (by omega) ?_
            refine sm_T_go 1 (c1 := (16, [some (.inr (.inr (some (1, 0)))), some (.inl n_), some (.inr (.inl hs_)), none, some (.inr (.inl mk_)), none, some (.inl ((pl_ + 1) % 4096)), some (.inl (qb_ + 1)), some (.inl od_), some (.inr (.inl tu_)), none, some (.inl lk_), some (.inl w_)], [], S_)) rfl ?_
            refine sm_T_wk [some (.inr (.inr (some (1, 0)))), some (.inl n_), some (.inr (.inl hs_)), none, some (.inr (.inl mk_)), none, some (.inl ((pl_ + 1) % 4096)), some (.inl (qb_ + 1)), none, none, none, none, none] (by exact ⟨rfl, rfl, rfl, rfl, rfl, rfl, trivial⟩) ?_
            refine ih_.1 ((pl_ + 1) % 4096) (qb_ + 1) S_ hI_ hF_ ⟨?_, ?_, ?_, trivial⟩ ?_
            · exact hS_
            · omega
            · obtain ⟨m8_, p8, o8_, o9_, tr_, l1_, l0_⟩ := h2_
              obtain ⟨j8_, j9_, j10_⟩ := l0_ (by omega)
              intro i9_ hi9_
              by_cases q9_ : i9_ < qb_.toNat
              · exact h1_ i9_ q9_
              · have q8_ : i9_ = qb_.toNat := by omega
                rw [q8_, show (hrw W_ mk_ (S0_.2.2.2 32 0) nd_ + qb_.toNat) % 4096 = pl_.toNat by omega, o9_, o8_]
                refine ⟨by omega, fun m9_ hm9_ t9_ k9_ k8_ => ?_⟩
                have mm9_ : m9_ = m8_ := by omega
                rw [mm9_] at k8_
                have e9_ := trn (by omega) hmk_.2.1 hmk_.1 (hr_ m8_ (Or.inl p8)) k9_ k8_ tr_
                rw [← e9_] at j10_
                exact j10_ (k8_ j8_ j9_)
            · omega
          · have cx6_ : ¬ (lk_ = 0) := of_decide_eq_false cx6_
            exfalso; omega
        · have cx5_ : ¬ (lk_ = 0) := of_decide_eq_false cx5_
          refine sm_T_go 4 (c1 := (106, [some (.inr (.inr (some (1, 0)))), some (.inl n_), some (.inr (.inl hs_)), none, some (.inr (.inl mk_)), none, some (.inl pl_), some (.inl qb_), some (.inl od_), some (.inr (.inl tu_)), none, some (.inl lk_), some (.inl w_)], [.inl 64, .inl n_, .inr (.inr (some (32, 0)))], S_)) rfl ?_
          refine sm_T_bin (w := 64 * n_) rfl (bi_mul (by omega) (by omega) (by omega)) ?_
          refine sm_T_go 1 (c1 := (109, [some (.inr (.inr (some (1, 0)))), some (.inl n_), some (.inr (.inl hs_)), none, some (.inr (.inl mk_)), none, some (.inl pl_), some (.inl qb_), some (.inl od_), some (.inr (.inl tu_)), none, some (.inl lk_), some (.inl w_)], [.inl w_, .inl (64 * n_), .inr (.inr (some (32, 0)))], S_)) rfl ?_
          refine sm_T_bin (w := 64 * n_ + w_) rfl (bi_add (by omega) (by omega) (by omega)) ?_
          refine sm_T_lald (n := 64832) rfl rfl (by omega) (by omega) ?_
          refine sm_T_go 4 (c1 := (119, [some (.inr (.inr (some (1, 0)))), some (.inl n_), some (.inr (.inl hs_)), none, some (.inr (.inl mk_)), none, some (.inl pl_), some (.inl qb_), some (.inl od_), some (.inr (.inl tu_)), none, some (.inl lk_), some (.inl w_)], [.inl 64, .inl od_, .inr (.inr (some (32, 0))), .inr (.inl (S_.2.2.2 32 0 (64 * n_ + w_).toNat))], S_)) rfl ?_
          refine sm_T_bin (w := 64 * od_) rfl (bi_mul (by omega) (by omega) (by omega)) ?_
          refine sm_T_go 1 (c1 := (122, [some (.inr (.inr (some (1, 0)))), some (.inl n_), some (.inr (.inl hs_)), none, some (.inr (.inl mk_)), none, some (.inl pl_), some (.inl qb_), some (.inl od_), some (.inr (.inl tu_)), none, some (.inl lk_), some (.inl w_)], [.inl w_, .inl (64 * od_), .inr (.inr (some (32, 0))), .inr (.inl (S_.2.2.2 32 0 (64 * n_ + w_).toNat))], S_)) rfl ?_
          refine sm_T_bin (w := 64 * od_ + w_) rfl (bi_add (by omega) (by omega) (by omega)) ?_
          refine sm_T_lald (n := 64832) rfl rfl (by omega) (by omega) ?_
          refine sm_T_go 3 (c1 := (128, [some (.inr (.inr (some (1, 0)))), some (.inl n_), some (.inr (.inl hs_)), none, some (.inr (.inl mk_)), none, some (.inl pl_), some (.inl qb_), some (.inl od_), some (.inr (.inl tu_)), none, some (.inl lk_), some (.inl w_)], [.inl (sm_lcmp ((S_.2.2.2 32 0 (64 * n_ + w_).toNat)) ((l_5 ((S_.2.2.2 32 0 (64 * od_ + w_).toNat)) tu_)))], S_)) rfl ?_
          refine sm_T_b0 (a := 1) (z := 7) rfl (fun cx7_ => ?_) (fun cx7_ => ?_)
          · have cx7_ : (sm_lcmp ((S_.2.2.2 32 0 (64 * n_ + w_).toNat)) ((l_5 ((S_.2.2.2 32 0 (64 * od_ + w_).toNat)) tu_))) ≠ 0 := of_decide_eq_true cx7_
            refine sm_T_go 2 (c1 := (138, [some (.inr (.inr (some (1, 0)))), some (.inl n_), some (.inr (.inl hs_)), none, some (.inr (.inl mk_)), none, some (.inl pl_), some (.inl qb_), some (.inl od_), some (.inr (.inl tu_)), none, some (.inl 0), some (.inl w_)], [], S_)) rfl ?_
            refine sm_T_inc (a := 12) (z := 1) (v := w_) (w := w_ + 1) rfl rfl (by omega) (by omega) (by omega) ?_
            refine sm_T_go 1 (c1 := (85, [some (.inr (.inr (some (1, 0)))), some (.inl n_), some (.inr (.inl hs_)), none, some (.inr (.inl mk_)), none, some (.inl pl_), some (.inl qb_), some (.inl od_), some (.inr (.inl tu_)), none, some (.inl 0), some (.inl (w_ + 1))], [], S_)) rfl ?_
            refine ih_.2 pl_ qb_ od_ tu_ 0 (w_ + 1) S_ hI_ hF_ ⟨?_, ?_, ?_, ?_, ?_, trivial⟩ ?_
            · exact hS_
            · omega
            · exact h1_
            · obtain ⟨m8_, p8, o8_, o9_, tr_, l1_, l0_⟩ := h2_
              have m8n := hP_ m8_ p8
              have i1_ : (64 * n_ + w_).toNat = 64 * nd_ + w_.toNat := by omega
              have i2_ : (64 * od_ + w_).toNat = 64 * m8_ + w_.toNat := by omega
              have l1b := l1_ (by omega)
              rw [i1_, i2_, hS_] at cx7_
              first | (refine ⟨m8_, p8, o8_, o9_, tr_, fun _ j9_ hj9_ => ?_, fun z9_ => absurd z9_ (by decide)⟩; have z9_ := lc_0.mp (Classical.not_not.mp cx7_); by_cases q9_ : j9_ < w_.toNat; (exact l1b j9_ q9_); (rw [show j9_ = w_.toNat by omega]; exact z9_)) | (refine ⟨m8_, p8, o8_, o9_, tr_, fun z9_ => absurd z9_ (by decide), fun _ => ⟨w_.toNat, by omega, fun q9_ => cx7_ (lc_0.mpr q9_)⟩⟩)
            · omega
            · omega
          · have cx7_ : ¬ ((sm_lcmp ((S_.2.2.2 32 0 (64 * n_ + w_).toNat)) ((l_5 ((S_.2.2.2 32 0 (64 * od_ + w_).toNat)) tu_))) ≠ 0) := of_decide_eq_false cx7_
            refine sm_T_go 3 (c1 := (138, [some (.inr (.inr (some (1, 0)))), some (.inl n_), some (.inr (.inl hs_)), none, some (.inr (.inl mk_)), none, some (.inl pl_), some (.inl qb_), some (.inl od_), some (.inr (.inl tu_)), none, some (.inl 1), some (.inl w_)], [], S_)) rfl ?_
            refine sm_T_inc (a := 12) (z := 1) (v := w_) (w := w_ + 1) rfl rfl (by omega) (by omega) (by omega) ?_
            refine sm_T_go 1 (c1 := (85, [some (.inr (.inr (some (1, 0)))), some (.inl n_), some (.inr (.inl hs_)), none, some (.inr (.inl mk_)), none, some (.inl pl_), some (.inl qb_), some (.inl od_), some (.inr (.inl tu_)), none, some (.inl 1), some (.inl (w_ + 1))], [], S_)) rfl ?_
            refine ih_.2 pl_ qb_ od_ tu_ 1 (w_ + 1) S_ hI_ hF_ ⟨?_, ?_, ?_, ?_, ?_, trivial⟩ ?_
            · exact hS_
            · omega
            · exact h1_
            · obtain ⟨m8_, p8, o8_, o9_, tr_, l1_, l0_⟩ := h2_
              have m8n := hP_ m8_ p8
              have i1_ : (64 * n_ + w_).toNat = 64 * nd_ + w_.toNat := by omega
              have i2_ : (64 * od_ + w_).toNat = 64 * m8_ + w_.toNat := by omega
              have l1b := l1_ (by omega)
              rw [i1_, i2_, hS_] at cx7_
              first | (refine ⟨m8_, p8, o8_, o9_, tr_, fun _ j9_ hj9_ => ?_, fun z9_ => absurd z9_ (by decide)⟩; have z9_ := lc_0.mp (Classical.not_not.mp cx7_); by_cases q9_ : j9_ < w_.toNat; (exact l1b j9_ q9_); (rw [show j9_ = w_.toNat by omega]; exact z9_)) | (refine ⟨m8_, p8, o8_, o9_, tr_, fun z9_ => absurd z9_ (by decide), fun _ => ⟨w_.toNat, by omega, fun q9_ => cx7_ (lc_0.mpr q9_)⟩⟩)
            · omega
            · omega
set_option maxHeartbeats 2000000 in
set_option maxRecDepth 20000 in
theorem vc_50 {sc_ : Nat × (Nat → Int)} (n_ : Int) (hs_ : Int) (mk_ : Int) (P_ : Nat → Prop) (K_ : Nat) (W_ : Nat) (nd_ : Nat) (S0_ : sm_S) (hI_ : gi S0_) (hn_ : n_ = (nd_ : Int) ∧ nd_ ≤ 1012) (hW_ : (S0_.1 1 0 13) = (W_ : Int) ∧ 1 ≤ W_ ∧ W_ ≤ 64) (hb_ : bks P_ K_ (hrw W_ mk_ (S0_.2.2.2 32 0)) (S0_.2.2.1 29 0) ∧ K_ ≤ 1013) (hP_ : ∀ m9_, P_ m9_ → m9_ < nd_) (hmk_ : lcn mk_ ∧ l_3 mk_ 1 = 1 ∧ mk_ ≠ 0) (hh_ : hs_ = hsw (nrw mk_ (S0_.2.2.2 32 0) nd_) W_) (hr_ : ∀ m9_, (P_ m9_ ∨ m9_ = nd_) → rok W_ mk_ (S0_.2.2.2 32 0) m9_) : sm_T (mt_P sc_) 0 50 (0, [some (.inr (.inr (some (1, 0)))), some (.inl n_), some (.inr (.inl hs_)), none, some (.inr (.inl mk_)), none, none, none, none, none, none, none, none], [], S0_) (fun ro9_ => ∃ u_ S1_, ro9_ = (.inl u_, S1_, 0) ∧ vq_50 n_ hs_ mk_ P_ K_ W_ nd_ S0_ u_ S1_) := by
  have hF_ : ai_fr (sx_W vw_50) S0_ S0_ := ai_fr_rf
  refine sm_T_go 7 (c1 := (10, [some (.inr (.inr (some (1, 0)))), some (.inl n_), some (.inr (.inl hs_)), none, some (.inr (.inl mk_)), none, none, none, none, none, none, none, none], [.inl 4095, .inl (l_l2i ((l_5 hs_ ((l_s2 hs_ 32)))))], S0_)) rfl ?_
  refine sm_T_bin (w := ((l_l2i ((l_5 hs_ ((l_s2 hs_ 32))))) % 4096)) rfl (bi_msk (k := 12) (by decide)) ?_
  refine sm_T_go 3 (c1 := (16, [some (.inr (.inr (some (1, 0)))), some (.inl n_), some (.inr (.inl hs_)), none, some (.inr (.inl mk_)), none, some (.inl ((l_l2i ((l_5 hs_ ((l_s2 hs_ 32))))) % 4096)), some (.inl 0), none, none, none, none, none], [], S0_)) rfl ?_
  refine (vl_50 n_ hs_ mk_ P_ K_ W_ nd_ S0_ hn_ hW_ hb_ hP_ hmk_ hh_ hr_ _).1 ((l_l2i ((l_5 hs_ ((l_s2 hs_ 32))))) % 4096) 0 S0_ hI_ hF_ ⟨?_, ?_, ?_, trivial⟩ (Nat.lt_succ_self _)
  · rfl
  · (refine ⟨by decide, by decide, ?_⟩; rw [hh_]; show _ = ((_ : Nat) : Int); unfold hrw hps; simp only [Int.toNat_zero, Nat.add_zero]; omega)
  · (intro i9_ hi9_; exact absurd hi9_ (Nat.not_lt_zero _))
end
/-! 99.zg7a -/
section
/-! the class: the sweep; written by wip/p55/gen/vg -/

/-! the_ sweep -/
theorem mkb_all : ∀ b_ : Fin 6, (Int64.ofInt (l_1 (l_s0 1 (i_shl 1 ((b_ : Nat) : Int))) 1)).toInt = l_1 (l_s0 1 (i_shl 1 ((b_ : Nat) : Int))) 1 ∧ l_3 (l_1 (l_s0 1 (i_shl 1 ((b_ : Nat) : Int))) 1) 1 = 1 ∧ l_1 (l_s0 1 (i_shl 1 ((b_ : Nat) : Int))) 1 ≠ 0 := by decide +kernel
theorem mkb {b_ : Int} (h_ : 0 ≤ b_ ∧ b_ < 6) : lcn (l_1 (l_s0 1 (i_shl 1 b_)) 1) ∧ l_3 (l_1 (l_s0 1 (i_shl 1 b_)) 1) 1 = 1 ∧ l_1 (l_s0 1 (i_shl 1 b_)) 1 ≠ 0 := by
  have k_ := mkb_all ⟨b_.toNat, by omega⟩
  rw [show ((⟨b_.toNat, by omega⟩ : Fin 6).val : Int) = b_ from Int.toNat_of_nonneg h_.1] at k_
  exact k_
theorem mkm : lcn (-1) ∧ l_3 (-1) 1 = 1 ∧ (-1 : Int) ≠ 0 := by
  unfold lcn
  decide
theorem wlt_cg {R_ Q_ : Nat → Int} {l_ : Int} {w_ : Nat} (h_ : Q_ (64 * (l_ / 2).toNat + w_) = R_ (64 * (l_ / 2).toNat + w_)) : wlt Q_ l_ w_ = wlt R_ l_ w_ := by
  unfold wlt
  rw [h_]
theorem sPn_cg {sf_ sg_ : Nat → Int} {n_ m_ : Nat} {v_ : Int} (e_ : ∀ k_, sg_ k_ = if k_ = n_ then v_ else sf_ k_) (hv_ : v_ ≠ 2 * (n_ : Int)) : sPn sf_ n_ m_ ↔ sPn sg_ (n_ + 1) m_ := by
  unfold sPn
  rw [e_ m_]
  by_cases z_ : m_ = n_
  · rw [if_pos z_]; omega
  · rw [if_neg z_]; omega
theorem sPn_nw {sf_ sg_ : Nat → Int} {n_ m_ : Nat} (e_ : ∀ k_, sg_ k_ = if k_ = n_ then 2 * (n_ : Int) else sf_ k_) : (sPn sf_ n_ m_ ∨ m_ = n_) ↔ sPn sg_ (n_ + 1) m_ := by
  unfold sPn
  rw [e_ m_]
  by_cases z_ : m_ = n_
  · rw [if_pos z_]; omega
  · rw [if_neg z_]; omega
/-- the_ row_ of_ a_ node as_ far_ as_ it_ is_ made -/
def srw (F_ n_ w_ : Nat) (mk_ : Int) (lo_ hi_ R_ : Nat → Int) : Prop := ∀ j_, j_ < w_ → l_3 (R_ (64 * n_ + j_)) mk_ = R_ (64 * n_ + j_) ∧ (F_ ≤ n_ → R_ (64 * n_ + j_) = l_3 (l_3 (wlt R_ (lo_ n_) j_) (wlt R_ (hi_ n_) j_)) mk_) ∧ (n_ = 0 → R_ (64 * n_ + j_) = 0)
theorem srw_up {F_ n_ w_ : Nat} {mk_ row_ : Int} {lo_ hi_ R_ Q_ : Nat → Int} (hg_ : F_ ≤ n_ → 2 ≤ lo_ n_ ∧ lo_ n_ < hi_ n_ ∧ hi_ n_ < 2 * (n_ : Int)) (hw_ : w_ < 64) (h_ : srw F_ n_ w_ mk_ lo_ hi_ R_) (e_ : ∀ k_, Q_ k_ = if k_ = 64 * n_ + w_ then l_3 row_ mk_ else R_ k_) (h1_ : F_ ≤ n_ → row_ = l_3 (wlt R_ (lo_ n_) w_) (wlt R_ (hi_ n_) w_)) (h2_ : n_ = 0 → row_ = 0) : srw F_ n_ (w_ + 1) mk_ lo_ hi_ Q_ := by
  intro j_ hj_
  have wc_ : F_ ≤ n_ → wlt Q_ (lo_ n_) j_ = wlt R_ (lo_ n_) j_ ∧ wlt Q_ (hi_ n_) j_ = wlt R_ (hi_ n_) j_ := fun a_ => by
    have g_ := hg_ a_
    exact ⟨wlt_cg (by rw [e_, if_neg (by omega)]), wlt_cg (by rw [e_, if_neg (by omega)])⟩
  by_cases z_ : j_ < w_
  · have q_ := h_ j_ z_
    rw [e_, if_neg (by omega)]
    refine ⟨q_.1, fun a_ => ?_, q_.2.2⟩
    rw [(wc_ a_).1, (wc_ a_).2]
    exact q_.2.1 a_
  · have zw_ : j_ = w_ := by omega
    subst zw_
    rw [e_, if_pos rfl]
    refine ⟨l3_id, fun a_ => ?_, fun a_ => ?_⟩
    · rw [(wc_ a_).1, (wc_ a_).2, h1_ a_]
    · rw [h2_ a_, l3_0]
theorem hsw_up {n_ w_ : Nat} {mk_ row_ tu_ hs_ : Int} {R_ Q_ : Nat → Int} (hm_ : lcn mk_) (hh_ : hs_ = hsw (nrw mk_ R_ n_) w_) (e_ : ∀ k_, Q_ k_ = if k_ = 64 * n_ + w_ then l_3 row_ mk_ else R_ k_) (ht_ : (l_3 (Q_ (64 * n_)) 1 = 0 ∧ tu_ = l_3 row_ mk_) ∨ (l_3 (Q_ (64 * n_)) 1 ≠ 0 ∧ tu_ = l_3 (l_5 row_ (-1)) mk_)) : l_0 (l_2 hs_ 31) (l_5 tu_ (l_s2 tu_ 29)) = hsw (nrw mk_ Q_ n_) (w_ + 1) := by
  have e1_ : hsw (nrw mk_ Q_ n_) w_ = hs_ := by
    rw [hh_]
    refine hsw_cg (fun j_ hj_ => ?_)
    unfold nrw
    have q1_ : Q_ (64 * n_) = R_ (64 * n_) := by rw [e_, if_neg (by omega)]
    have q2_ : Q_ (64 * n_ + j_) = R_ (64 * n_ + j_) := by rw [e_, if_neg (by omega)]
    rw [q1_, q2_]
  have e2_ : nrw mk_ Q_ n_ w_ = tu_ := by
    unfold nrw
    rw [e_ (64 * n_ + w_), if_pos rfl]
    rcases ht_ with ⟨q1_, q2_⟩ | ⟨q1_, q2_⟩
    · rw [if_pos q1_, q2_]
    · rw [if_neg q1_, q2_, l3_tn hm_]
  show _ = l_0 (l_2 (hsw (nrw mk_ Q_ n_) w_) 31) (l_5 (nrw mk_ Q_ n_ w_) (l_s2 (nrw mk_ Q_ n_ w_) 29))
  rw [e1_, e2_]
/-- whom the_ nodes of_ a_ design stand for_ -/
def swp (dd_ F_ : Nat) (S_ : sm_S) : Prop := S_.2.2.1 44 (0 + dd_) 0 = 0 ∧ ∀ m_ : Nat, (m_ : Int) < S_.1 3 dd_ 4 → sfo F_ (S_.2.2.1 42 (0 + dd_)) (S_.2.2.1 43 (0 + dd_)) (S_.2.2.1 44 (0 + dd_)) m_
theorem fr_lon {W_ : ai_W} {S_ S'_ : sm_S} {t_ i_ : Nat} (h_ : ai_fr W_ S_ S'_) (ht_ : W_.2.1 t_ = false) : S'_.2.2.2 t_ i_ = S_.2.2.2 t_ i_ := funext fun k_ => (h_.2.2 t_ ht_ i_ k_).2
theorem glo_of {dd_ F_ N_ : Nat} {S_ : sm_S} (h_ : dgr dd_ F_ S_) (hN_ : (N_ : Int) ≤ S_.1 3 dd_ 4) : glo F_ N_ (S_.2.2.1 42 (0 + dd_)) (S_.2.2.1 43 (0 + dd_)) := fun k_ h1_ h2_ => h_.2.2 k_ h1_ (by omega)
/-! Builder.sweep -/
end
/-! 99.zg8a -/
section
/-! the class: tables and states; written by wip/p55/gen/vg -/

/-! tables and states -/
theorem l_bit {x_ : Int} : l_l2i (l_3 x_ 1) = 0 ∨ l_l2i (l_3 x_ 1) = 1 := by
  have e_ : l_3 x_ 1 = (Int64.ofInt x_ &&& 1).toInt := rfl
  have two_ : Int64.ofInt x_ &&& 1 = 0 ∨ Int64.ofInt x_ &&& 1 = 1 := i64_1 _
  rw [e_]
  rcases two_ with z_ | z_
  · rw [z_]; left; decide
  · rw [z_]; right; decide
theorem bsh {x_ e_ : Int} {k_ : Nat} (hx_ : x_ = 0 ∨ x_ = 1) (h0_ : 0 ≤ e_) (h1_ : e_ < (k_ : Int)) (hk_ : k_ ≤ 22) : 0 ≤ i_shl x_ e_ ∧ i_shl x_ e_ < 2 ^ k_ := by
  have p1_ : (2 : Int) ^ e_.toNat < 2 ^ k_ := by
    have q_ : (2 : Int) ^ (e_.toNat + 1) ≤ 2 ^ k_ := pw_le (by omega)
    have q2_ := pw_pos e_.toNat
    rw [pw_add] at q_
    omega
  have p2_ := pw_pos e_.toNat
  have p3_ : (2 : Int) ^ k_ ≤ 2 ^ 22 := pw_le hk_
  have v_ := i_shlv (x_ := x_) (e_ := e_) h0_ (by omega) (by omega) (by rcases hx_ with z_ | z_ <;> rw [z_] <;> omega)
  rw [v_]
  rcases hx_ with z_ | z_
  · rw [z_]; omega
  · rw [z_]; omega
/-- a_ design's tables -/
def dtb (dd_ : Nat) (S_ : sm_S) : Prop := ∀ p_ : Nat, p_ < 4096 → 0 ≤ S_.2.2.1 47 (0 + dd_) p_ ∧ S_.2.2.1 47 (0 + dd_) p_ < 2 ^ (16 + (S_.1 3 dd_ 2).toNat)
theorem shr16 {x_ : Int} {R_ : Nat} (h_ : 0 ≤ x_ ∧ x_ < 2 ^ (16 + R_)) : 0 ≤ x_ / 65536 ∧ x_ / 65536 < 2 ^ R_ := by
  rw [pw_add] at h_
  omega
/-! java/util/Arrays.fill -/
def vw_2t : sx_Wl := ([], [47], [])
def vq_2t (v0_ : Int) (dd_ : Nat) (S0_ : sm_S) (u_ : Option sm_V) (S1_ : sm_S) : Prop := u_ = none ∧ gi S1_ ∧ ai_fr (sx_W vw_2t) S0_ S1_ ∧ (idf dd_ S0_ S1_ ∧ (∀ j_, j_ < 4096 → S1_.2.2.1 47 (0 + dd_) j_ = v0_))
set_option maxHeartbeats 400000 in
theorem vl_2t {sc_ : Nat × (Nat → Int)} (v0_ : Int) (dd_ : Nat) (S0_ : sm_S) (hv_ : 0 ≤ v0_ ∧ v0_ ≤ 4194303) : ∀ nn_ : Nat, (∀ (k_ : Int) (S_ : sm_S), gi S_ → ai_fr (sx_W vw_2t) S0_ S_ → ((0 ≤ k_ ∧ k_ ≤ 4096) ∧ (∀ j_, j_ < k_.toNat → S_.2.2.1 47 (0 + dd_) j_ = v0_) ∧ (idf dd_ S0_ S_) ∧ True) → ((4096 - k_).toNat) < nn_ → sm_T (mt_P sc_) 0 2 (5, [some (.inr (.inr (some (47, (0 + dd_))))), some (.inl v0_), some (.inl k_), some (.inl 4096)], [], S_) (fun ro9_ => ∃ u_ S1_, ro9_ = (.inl u_, S1_, 0) ∧ vq_2t v0_ dd_ S0_ u_ S1_)) := by
  intro nn_
  induction nn_ with
  | zero => exact fun _ _ _ _ _ h_ => absurd h_ (Nat.not_lt_zero _)
  | succ nn_ ih_ =>
    rintro k_ S_ hI_ hF_ ⟨h0_, h1_, hD_, -⟩ hm_
    refine sm_T_go 2 (c1 := (7, [some (.inr (.inr (some (47, (0 + dd_))))), some (.inl v0_), some (.inl k_), some (.inl 4096)], [.inl 4096, .inl k_], S_)) rfl ?_
    refine sm_T_br (a := 3) (z := 13) rfl (fun cx1_ => ?_) (fun cx1_ => ?_)
    · have cx1_ : 4096 ≤ k_ := of_decide_eq_true cx1_
      refine sm_T_rv rfl ⟨_, _, rfl, rfl, hI_, hF_, ?_⟩
      refine ⟨hD_, ?_⟩
      exact fun j_ hj_ => h1_ j_ (by omega)
    · have cx1_ : ¬ (4096 ≤ k_) := of_decide_eq_false cx1_
      refine sm_T_go 3 (c1 := (13, [some (.inr (.inr (some (47, (0 + dd_))))), some (.inl v0_), some (.inl k_), some (.inl 4096)], [.inl v0_, .inl k_, .inr (.inr (some (47, (0 + dd_))))], S_)) rfl ?_
      refine sm_T_iast (n := 4096) rfl rfl (by omega) (by omega) ?_
      have hIx2_ : gi (sm_aI S_ 47 (0 + dd_) k_.toNat v0_) := gi_aI hI_ (show 0 ≤ v0_ ∧ v0_ ≤ 4194303 from ⟨by omega, by omega⟩)
      have hFx3_ : ai_fr (sx_W vw_2t) S0_ (sm_aI S_ 47 (0 + dd_) k_.toNat v0_) := ai_fr_tr hF_ (ai_fr_aI rfl)
      have hDx4_ : idf dd_ S0_ (sm_aI S_ 47 (0 + dd_) k_.toNat v0_) := idf_aI hD_ (Or.inr rfl)
      refine sm_T_inc (a := 2) (z := 1) (v := k_) (w := k_ + 1) rfl rfl (by omega) (by omega) (by omega) ?_
      refine sm_T_go 1 (c1 := (5, [some (.inr (.inr (some (47, (0 + dd_))))), some (.inl v0_), some (.inl (k_ + 1)), some (.inl 4096)], [], sm_aI S_ 47 (0 + dd_) k_.toNat v0_)) rfl ?_
      refine ih_ (k_ + 1) (sm_aI S_ 47 (0 + dd_) k_.toNat v0_) hIx2_ hFx3_ ⟨?_, ?_, ?_, trivial⟩ ?_
      · omega
      · intro j_ hj_
        rw [rd_eq]
        by_cases z_ : j_ = k_.toNat
        · rw [if_pos z_]
        · rw [if_neg z_]; exact h1_ j_ (by omega)
      · exact hDx4_
      · omega
set_option maxHeartbeats 400000 in
theorem vc_2t {sc_ : Nat × (Nat → Int)} (v0_ : Int) (dd_ : Nat) (S0_ : sm_S) (hI_ : gi S0_) (hv_ : 0 ≤ v0_ ∧ v0_ ≤ 4194303) : sm_T (mt_P sc_) 0 2 (0, [some (.inr (.inr (some (47, (0 + dd_))))), some (.inl v0_), none, none], [], S0_) (fun ro9_ => ∃ u_ S1_, ro9_ = (.inl u_, S1_, 0) ∧ vq_2t v0_ dd_ S0_ u_ S1_) := by
  have hF_ : ai_fr (sx_W vw_2t) S0_ S0_ := ai_fr_rf
  have hD_ : idf dd_ S0_ S0_ := idf_rf
  refine sm_T_go 5 (c1 := (5, [some (.inr (.inr (some (47, (0 + dd_))))), some (.inl v0_), some (.inl 0), some (.inl 4096)], [], S0_)) rfl ?_
  refine (vl_2t v0_ dd_ S0_ hv_ _) 0 S0_ hI_ hF_ ⟨?_, ?_, ?_, trivial⟩ (Nat.lt_succ_self _)
  · omega
  · (intro j_ hj_; exact absurd hj_ (Nat.not_lt_zero _))
  · exact hD_
end
/-! 99.zg8b -/
section
/-! Builder.fillTable -/
end
