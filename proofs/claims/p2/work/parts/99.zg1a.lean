/-! the class: limits, and the other designs; written by wip/p55/gen/vg -/
/-! Builder.limitFault -/
def vw_32d : sx_Wl := ([(3, 1), (3, 2), (3, 3)], [30, 31], [])
def vq_32d (mx_ : Int) (b_ : Nat → Int) (n_ : Nat) (A_ : pA) (mm_ : Nat) (dd_ : Nat) (S0_ : sm_S) (u_ : Option sm_V) (S1_ : sm_S) : Prop := ∃ v_ : Int, u_ = some (.inl v_) ∧ gi S1_ ∧ ai_fr (sx_W vw_32d) S0_ S1_ ∧ (idf dd_ S0_ S1_ ∧ (v_ = p_lm (S1_.2.2.1 30 0 mm_) (su (t_in A_ 0 mm_) (A_.1 mm_)) (S1_.2.2.1 31 0 mm_) (su (t_in A_ 1 mm_) (A_.1 mm_)) ∧ (∀ k_ : Nat, k_ < mm_ + 1 → lt1 A_ k_ S1_) ∧ (v_ ≠ 20 → S1_.1 3 dd_ 1 = su (t_in A_ 0 mm_) (A_.1 mm_) ∧ S1_.1 3 dd_ 2 = S1_.2.2.1 31 0 mm_ ∧ S1_.1 3 dd_ 3 = su (t_in A_ 1 mm_) (A_.1 mm_))))
set_option maxHeartbeats 1500000 in
set_option maxRecDepth 20000 in
theorem vl_32d {sc_ : Nat × (Nat → Int)} (mx_ : Int) (b_ : Nat → Int) (n_ : Nat) (A_ : pA) (mm_ : Nat) (dd_ : Nat) (S0_ : sm_S) (hmx_ : mx_ = (mm_ : Int) ∧ mm_ ≤ 15) (her_ : ∀ k_, k_ ≤ mm_ → er1 b_ n_ A_ k_ S0_) (hA_ : a_ok b_ n_ A_ mm_) (hd_ : S0_.2.1 1 0 1 = some dd_) : ∀ nn_ : Nat, (∀ (m_ : Int) (S_ : sm_S), gi S_ → ai_fr (sx_W vw_32d) S0_ S_ → ((0 ≤ m_ ∧ m_ ≤ mx_ + 1) ∧ (∀ k_ : Nat, k_ < m_.toNat → lt1 A_ k_ S_) ∧ (idf dd_ S0_ S_) ∧ True) → ((100 * (20 - m_) + 50).toNat) < nn_ → sm_T (mt_P sc_) 1 32 (2, [some (.inr (.inr (some (1, 0)))), some (.inl mx_), some (.inl m_), none, none, none, none], [], S_) (fun ro9_ => ∃ u_ S1_, ro9_ = (.inl u_, S1_, 0) ∧ vq_32d mx_ b_ n_ A_ mm_ dd_ S0_ u_ S1_)) ∧ (∀ (m_ : Int) (us_ : Int) (bi_ : Int) (s_ : Int) (S_ : sm_S), gi S_ → ai_fr (sx_W vw_32d) S0_ S_ → ((0 ≤ m_ ∧ m_ ≤ mx_) ∧ (0 ≤ s_ ∧ s_ ≤ (A_.1 m_.toNat : Int)) ∧ (us_ = su (t_is (S_.2.2.1 30 0) A_ m_.toNat) s_.toNat) ∧ (bi_ = su (t_rg (S_.2.2.1 31 0) A_ m_.toNat) s_.toNat) ∧ ((0 ≤ us_ ∧ us_ ≤ 100001 * s_) ∧ (0 ≤ bi_ ∧ bi_ ≤ 100000 * s_)) ∧ (∀ k_ : Nat, k_ < m_.toNat → lt1 A_ k_ S_) ∧ (idf dd_ S0_ S_) ∧ True) → ((100 * (20 - m_) + 45 - s_).toNat) < nn_ → sm_T (mt_P sc_) 1 32 (15, [some (.inr (.inr (some (1, 0)))), some (.inl mx_), some (.inl m_), some (.inl us_), some (.inl bi_), some (.inl s_), none], [], S_) (fun ro9_ => ∃ u_ S1_, ro9_ = (.inl u_, S1_, 0) ∧ vq_32d mx_ b_ n_ A_ mm_ dd_ S0_ u_ S1_)) := by
  intro nn_
  induction nn_ with
  | zero => exact ⟨fun _ _ _ _ _ h_ => absurd h_ (Nat.not_lt_zero _), fun _ _ _ _ _ _ _ _ h_ => absurd h_ (Nat.not_lt_zero _)⟩
  | succ nn_ ih_ =>
    refine ⟨?_, ?_⟩
    · rintro m_ S_ hI_ hF_ ⟨h0_, h1_, hD_, -⟩ hm_
      have her1_ : ∀ k_, k_ ≤ mm_ → er1 b_ n_ A_ k_ S_ := fun k_ hk_ => er1_fr (her_ k_ hk_) hF_ rfl rfl rfl rfl rfl
      have dsg_ : S_.2.1 1 0 1 = some dd_ := (hF_.2.1 1 0 1 rfl).trans hd_
      refine sm_T_go 2 (c1 := (4, [some (.inr (.inr (some (1, 0)))), some (.inl mx_), some (.inl m_), none, none, none, none], [.inl mx_, .inl m_], S_)) rfl ?_
      refine sm_T_br (a := 4) (z := 171) rfl (fun cx1_ => ?_) (fun cx1_ => ?_)
      · have cx1_ : mx_ < m_ := of_decide_eq_true cx1_
        have tb_ : ∀ k_ : Nat, k_ < mm_ + 1 → lt1 A_ k_ S_ := fun k_ hk_ => h1_ k_ (by omega)
        have mI_ : mx_.toNat = mm_ := by omega
        refine sm_T_go 3 (c1 := (180, [some (.inr (.inr (some (1, 0)))), some (.inl mx_), some (.inl m_), none, none, none, none], [.inl mx_, .inr (.inr (some (30, 0)))], S_)) rfl ?_
        refine sm_T_iald (n := 16) rfl rfl (by omega) (by omega) ?_
        have bx2_ : 0 ≤ S_.2.2.1 30 0 mx_.toNat ∧ S_.2.2.1 30 0 mx_.toNat ≤ 100000 := hI_.2 30 0 _
        refine sm_T_go 1 (c1 := (184, [some (.inr (.inr (some (1, 0)))), some (.inl mx_), some (.inl m_), none, none, none, none], [.inl 200, .inl (S_.2.2.1 30 0 mx_.toNat)], S_)) rfl ?_
        refine sm_T_br (a := 5) (z := 6) rfl (fun cx3_ => ?_) (fun cx3_ => ?_)
        · have cx3_ : (S_.2.2.1 30 0 mx_.toNat) ≤ 200 := of_decide_eq_true cx3_
          refine sm_T_go 1 (c1 := (191, [some (.inr (.inr (some (1, 0)))), some (.inl mx_), some (.inl m_), none, none, none, none], [.inr (.inr (some (1, 0)))], S_)) rfl ?_
          refine sm_T_gr rfl rfl ((hF_.2.1 1 0 1 rfl).trans hd_) ?_
          refine sm_T_go 3 (c1 := (197, [some (.inr (.inr (some (1, 0)))), some (.inl mx_), some (.inl m_), none, none, none, none], [.inl 0, .inl mx_, .inr (.inr (some (1, 0))), .inr (.inr (some (3, dd_)))], S_)) rfl ?_
          refine sm_T_cal (d1 := 0) (Q1 := vq_33 mx_ 0 b_ n_ A_ mm_ S_) rfl rfl (by decide) (vc_33 mx_ 0 b_ n_ A_ mm_ S_ hI_ (by omega) (by first | exact her1_ mm_ (Nat.le_refl _) | exact er1_fr (her_ mm_ (Nat.le_refl _)) hF_ rfl rfl rfl rfl rfl) (by exact hA_)) (fun u_ Sx4_ px7_ => ?_)
          obtain ⟨rfl, vx9_, rfl, px7_⟩ := px7_
          have b197_ := px7_
          have hIx10_ : gi (sm_pI S_ 3 dd_ 1 vx9_) := gi_pI hI_ (show 0 ≤ vx9_ ∧ vx9_ ≤ 320 from ⟨by omega, by omega⟩)
          have hFx11_ : ai_fr (sx_W vw_32d) S0_ (sm_pI S_ 3 dd_ 1 vx9_) := ai_fr_tr hF_ (ai_fr_pI rfl)
          have hDx12_ : idf dd_ S0_ (sm_pI S_ 3 dd_ 1 vx9_) := idf_pI hD_ (Or.inr rfl)
          refine sm_T_go 2 (c1 := (204, [some (.inr (.inr (some (1, 0)))), some (.inl mx_), some (.inl m_), none, none, none, none], [.inr (.inr (some (1, 0)))], sm_pI S_ 3 dd_ 1 vx9_)) rfl ?_
          refine sm_T_gr rfl rfl ((hFx11_.2.1 1 0 1 rfl).trans hd_) ?_
          refine sm_T_go 3 (c1 := (212, [some (.inr (.inr (some (1, 0)))), some (.inl mx_), some (.inl m_), none, none, none, none], [.inl mx_, .inr (.inr (some (31, 0))), .inr (.inr (some (3, dd_)))], sm_pI S_ 3 dd_ 1 vx9_)) rfl ?_
          refine sm_T_iald (n := 16) rfl rfl (by omega) (by omega) ?_
          have bx13_ : 0 ≤ S_.2.2.1 31 0 mx_.toNat ∧ S_.2.2.1 31 0 mx_.toNat ≤ 100000 := hI_.2 31 0 _
          have hIx14_ : gi (sm_pI (sm_pI S_ 3 dd_ 1 vx9_) 3 dd_ 2 (S_.2.2.1 31 0 mx_.toNat)) := gi_pI hIx10_ (show 0 ≤ (S_.2.2.1 31 0 mx_.toNat) ∧ (S_.2.2.1 31 0 mx_.toNat) ≤ 100000 from ⟨by omega, by omega⟩)
          have hFx15_ : ai_fr (sx_W vw_32d) S0_ (sm_pI (sm_pI S_ 3 dd_ 1 vx9_) 3 dd_ 2 (S_.2.2.1 31 0 mx_.toNat)) := ai_fr_tr hFx11_ (ai_fr_pI rfl)
          have hDx16_ : idf dd_ S0_ (sm_pI (sm_pI S_ 3 dd_ 1 vx9_) 3 dd_ 2 (S_.2.2.1 31 0 mx_.toNat)) := idf_pI hDx12_ (Or.inr rfl)
          refine sm_T_go 2 (c1 := (217, [some (.inr (.inr (some (1, 0)))), some (.inl mx_), some (.inl m_), none, none, none, none], [.inr (.inr (some (1, 0)))], sm_pI (sm_pI S_ 3 dd_ 1 vx9_) 3 dd_ 2 (S_.2.2.1 31 0 mx_.toNat))) rfl ?_
          refine sm_T_gr rfl rfl ((hFx15_.2.1 1 0 1 rfl).trans hd_) ?_
          refine sm_T_go 3 (c1 := (223, [some (.inr (.inr (some (1, 0)))), some (.inl mx_), some (.inl m_), none, none, none, none], [.inl 1, .inl mx_, .inr (.inr (some (1, 0))), .inr (.inr (some (3, dd_)))], sm_pI (sm_pI S_ 3 dd_ 1 vx9_) 3 dd_ 2 (S_.2.2.1 31 0 mx_.toNat))) rfl ?_
          refine sm_T_cal (d1 := 0) (Q1 := vq_33 mx_ 1 b_ n_ A_ mm_ (sm_pI (sm_pI S_ 3 dd_ 1 vx9_) 3 dd_ 2 (S_.2.2.1 31 0 mx_.toNat))) rfl rfl (by decide) (vc_33 mx_ 1 b_ n_ A_ mm_ (sm_pI (sm_pI S_ 3 dd_ 1 vx9_) 3 dd_ 2 (S_.2.2.1 31 0 mx_.toNat)) hIx14_ (by omega) (by first | exact her1_ mm_ (Nat.le_refl _) | exact er1_fr (her_ mm_ (Nat.le_refl _)) hFx15_ rfl rfl rfl rfl rfl) (by exact hA_)) (fun u_ Sx17_ px20_ => ?_)
          obtain ⟨rfl, vx22_, rfl, px20_⟩ := px20_
          have b223_ := px20_
          have hIx23_ : gi (sm_pI (sm_pI (sm_pI S_ 3 dd_ 1 vx9_) 3 dd_ 2 (S_.2.2.1 31 0 mx_.toNat)) 3 dd_ 3 vx22_) := gi_pI hIx14_ (show 0 ≤ vx22_ ∧ vx22_ ≤ 320 from ⟨by omega, by omega⟩)
          have hFx24_ : ai_fr (sx_W vw_32d) S0_ (sm_pI (sm_pI (sm_pI S_ 3 dd_ 1 vx9_) 3 dd_ 2 (S_.2.2.1 31 0 mx_.toNat)) 3 dd_ 3 vx22_) := ai_fr_tr hFx15_ (ai_fr_pI rfl)
          have hDx25_ : idf dd_ S0_ (sm_pI (sm_pI (sm_pI S_ 3 dd_ 1 vx9_) 3 dd_ 2 (S_.2.2.1 31 0 mx_.toNat)) 3 dd_ 3 vx22_) := idf_pI hDx16_ (Or.inr rfl)
          refine sm_T_go 2 (c1 := (230, [some (.inr (.inr (some (1, 0)))), some (.inl mx_), some (.inl m_), none, none, none, none], [.inr (.inr (some (1, 0)))], sm_pI (sm_pI (sm_pI S_ 3 dd_ 1 vx9_) 3 dd_ 2 (S_.2.2.1 31 0 mx_.toNat)) 3 dd_ 3 vx22_)) rfl ?_
          refine sm_T_gr rfl rfl ((hFx24_.2.1 1 0 1 rfl).trans hd_) ?_
          have ex26_ : (sm_pI (sm_pI (sm_pI S_ 3 dd_ 1 vx9_) 3 dd_ 2 (S_.2.2.1 31 0 mx_.toNat)) 3 dd_ 3 vx22_).1 3 dd_ 2 = (S_.2.2.1 31 0 mx_.toNat) := by (try simp only [rf_eq, rf_nk, rf_nt, rd_fa, rd_af, ne_eq, Nat.reduceEqDiff, not_false_eq_true])
          refine sm_T_go 2 (c1 := (238, [some (.inr (.inr (some (1, 0)))), some (.inl mx_), some (.inl m_), none, none, none, none], [.inl 6, .inl ((sm_pI (sm_pI (sm_pI S_ 3 dd_ 1 vx9_) 3 dd_ 2 (S_.2.2.1 31 0 mx_.toNat)) 3 dd_ 3 vx22_).1 3 dd_ 2)], sm_pI (sm_pI (sm_pI S_ 3 dd_ 1 vx9_) 3 dd_ 2 (S_.2.2.1 31 0 mx_.toNat)) 3 dd_ 3 vx22_)) rfl ?_
          refine sm_T_br (a := 4) (z := 23) rfl (fun cx27_ => ?_) (fun cx27_ => ?_)
          · have cx27_ : 6 < ((sm_pI (sm_pI (sm_pI S_ 3 dd_ 1 vx9_) 3 dd_ 2 (S_.2.2.1 31 0 mx_.toNat)) 3 dd_ 3 vx22_).1 3 dd_ 2) := of_decide_eq_true cx27_
            refine sm_T_go 1 (c1 := (263, [some (.inr (.inr (some (1, 0)))), some (.inl mx_), some (.inl m_), none, none, none, none], [.inl 21], sm_pI (sm_pI (sm_pI S_ 3 dd_ 1 vx9_) 3 dd_ 2 (S_.2.2.1 31 0 mx_.toNat)) 3 dd_ 3 vx22_)) rfl ?_
            refine sm_T_ri rfl ⟨_, _, rfl, _, rfl, hIx23_, hFx24_, ?_⟩
            refine ⟨hDx25_, ?_⟩
            refine ⟨?_, ?_, fun _ => ⟨?_, ?_, ?_⟩⟩
            · show _ = p_lm (S_.2.2.1 30 0 mm_) _ (S_.2.2.1 31 0 mm_) _
              unfold p_lm
              rw [← b197_.1, ← b223_.1, ← mI_]
              first | (rw [if_neg (by omega), if_pos (by omega)]) | (rw [if_neg (by omega), if_neg (by omega), if_pos (by omega)]) | (rw [if_neg (by omega), if_neg (by omega), if_neg (by omega)])
            · exact tb_
            · (try simp only [rd_eq, rd_ne, rf_eq, rf_nk, rf_nt, rd_fa, rd_af, rd_fl, rd_al, rd_lf, rd_la, rd_leq, rd_lne, rd_fr, rd_ar, ne_eq, Nat.reduceEqDiff, not_false_eq_true]); exact b197_.1
            · (try simp only [rd_eq, rd_ne, rf_eq, rf_nk, rf_nt, rd_fa, rd_af, rd_fl, rd_al, rd_lf, rd_la, rd_leq, rd_lne, rd_fr, rd_ar, ne_eq, Nat.reduceEqDiff, not_false_eq_true]); rw [mI_]
            · (try simp only [rd_eq, rd_ne, rf_eq, rf_nk, rf_nt, rd_fa, rd_af, rd_fl, rd_al, rd_lf, rd_la, rd_leq, rd_lne, rd_fr, rd_ar, ne_eq, Nat.reduceEqDiff, not_false_eq_true]); exact b223_.1
          · have cx27_ : ¬ (6 < ((sm_pI (sm_pI (sm_pI S_ 3 dd_ 1 vx9_) 3 dd_ 2 (S_.2.2.1 31 0 mx_.toNat)) 3 dd_ 3 vx22_).1 3 dd_ 2)) := of_decide_eq_false cx27_
            refine sm_T_go 1 (c1 := (242, [some (.inr (.inr (some (1, 0)))), some (.inl mx_), some (.inl m_), none, none, none, none], [.inr (.inr (some (1, 0)))], sm_pI (sm_pI (sm_pI S_ 3 dd_ 1 vx9_) 3 dd_ 2 (S_.2.2.1 31 0 mx_.toNat)) 3 dd_ 3 vx22_)) rfl ?_
            refine sm_T_gr rfl rfl ((hFx24_.2.1 1 0 1 rfl).trans hd_) ?_
            have ex28_ : (sm_pI (sm_pI (sm_pI S_ 3 dd_ 1 vx9_) 3 dd_ 2 (S_.2.2.1 31 0 mx_.toNat)) 3 dd_ 3 vx22_).1 3 dd_ 1 = vx9_ := by (try simp only [rf_eq, rf_nk, rf_nt, rd_fa, rd_af, ne_eq, Nat.reduceEqDiff, not_false_eq_true])
            refine sm_T_go 2 (c1 := (249, [some (.inr (.inr (some (1, 0)))), some (.inl mx_), some (.inl m_), none, none, none, none], [.inr (.inr (some (1, 0))), .inl ((sm_pI (sm_pI (sm_pI S_ 3 dd_ 1 vx9_) 3 dd_ 2 (S_.2.2.1 31 0 mx_.toNat)) 3 dd_ 3 vx22_).1 3 dd_ 1)], sm_pI (sm_pI (sm_pI S_ 3 dd_ 1 vx9_) 3 dd_ 2 (S_.2.2.1 31 0 mx_.toNat)) 3 dd_ 3 vx22_)) rfl ?_
            refine sm_T_gr rfl rfl ((hFx24_.2.1 1 0 1 rfl).trans hd_) ?_
            have ex29_ : (sm_pI (sm_pI (sm_pI S_ 3 dd_ 1 vx9_) 3 dd_ 2 (S_.2.2.1 31 0 mx_.toNat)) 3 dd_ 3 vx22_).1 3 dd_ 2 = (S_.2.2.1 31 0 mx_.toNat) := by (try simp only [rf_eq, rf_nk, rf_nt, rd_fa, rd_af, ne_eq, Nat.reduceEqDiff, not_false_eq_true])
            refine sm_T_go 1 (c1 := (255, [some (.inr (.inr (some (1, 0)))), some (.inl mx_), some (.inl m_), none, none, none, none], [.inl ((sm_pI (sm_pI (sm_pI S_ 3 dd_ 1 vx9_) 3 dd_ 2 (S_.2.2.1 31 0 mx_.toNat)) 3 dd_ 3 vx22_).1 3 dd_ 2), .inl ((sm_pI (sm_pI (sm_pI S_ 3 dd_ 1 vx9_) 3 dd_ 2 (S_.2.2.1 31 0 mx_.toNat)) 3 dd_ 3 vx22_).1 3 dd_ 1)], sm_pI (sm_pI (sm_pI S_ 3 dd_ 1 vx9_) 3 dd_ 2 (S_.2.2.1 31 0 mx_.toNat)) 3 dd_ 3 vx22_)) rfl ?_
            refine sm_T_bin (w := ((sm_pI (sm_pI (sm_pI S_ 3 dd_ 1 vx9_) 3 dd_ 2 (S_.2.2.1 31 0 mx_.toNat)) 3 dd_ 3 vx22_).1 3 dd_ 1) + ((sm_pI (sm_pI (sm_pI S_ 3 dd_ 1 vx9_) 3 dd_ 2 (S_.2.2.1 31 0 mx_.toNat)) 3 dd_ 3 vx22_).1 3 dd_ 2)) rfl (bi_add (by omega) (by omega) (by omega)) ?_
            refine sm_T_go 1 (c1 := (258, [some (.inr (.inr (some (1, 0)))), some (.inl mx_), some (.inl m_), none, none, none, none], [.inl 12, .inl (((sm_pI (sm_pI (sm_pI S_ 3 dd_ 1 vx9_) 3 dd_ 2 (S_.2.2.1 31 0 mx_.toNat)) 3 dd_ 3 vx22_).1 3 dd_ 1) + ((sm_pI (sm_pI (sm_pI S_ 3 dd_ 1 vx9_) 3 dd_ 2 (S_.2.2.1 31 0 mx_.toNat)) 3 dd_ 3 vx22_).1 3 dd_ 2))], sm_pI (sm_pI (sm_pI S_ 3 dd_ 1 vx9_) 3 dd_ 2 (S_.2.2.1 31 0 mx_.toNat)) 3 dd_ 3 vx22_)) rfl ?_
            refine sm_T_br (a := 5) (z := 6) rfl (fun cx30_ => ?_) (fun cx30_ => ?_)
            · have cx30_ : ((sm_pI (sm_pI (sm_pI S_ 3 dd_ 1 vx9_) 3 dd_ 2 (S_.2.2.1 31 0 mx_.toNat)) 3 dd_ 3 vx22_).1 3 dd_ 1) + ((sm_pI (sm_pI (sm_pI S_ 3 dd_ 1 vx9_) 3 dd_ 2 (S_.2.2.1 31 0 mx_.toNat)) 3 dd_ 3 vx22_).1 3 dd_ 2) ≤ 12 := of_decide_eq_true cx30_
              refine sm_T_go 1 (c1 := (265, [some (.inr (.inr (some (1, 0)))), some (.inl mx_), some (.inl m_), none, none, none, none], [.inr (.inr (some (1, 0)))], sm_pI (sm_pI (sm_pI S_ 3 dd_ 1 vx9_) 3 dd_ 2 (S_.2.2.1 31 0 mx_.toNat)) 3 dd_ 3 vx22_)) rfl ?_
              refine sm_T_gr rfl rfl ((hFx24_.2.1 1 0 1 rfl).trans hd_) ?_
              have ex31_ : (sm_pI (sm_pI (sm_pI S_ 3 dd_ 1 vx9_) 3 dd_ 2 (S_.2.2.1 31 0 mx_.toNat)) 3 dd_ 3 vx22_).1 3 dd_ 3 = vx22_ := by (try simp only [rf_eq, rf_nk, rf_nt, rd_fa, rd_af, ne_eq, Nat.reduceEqDiff, not_false_eq_true])
              refine sm_T_go 2 (c1 := (272, [some (.inr (.inr (some (1, 0)))), some (.inl mx_), some (.inl m_), none, none, none, none], [.inl 1, .inl ((sm_pI (sm_pI (sm_pI S_ 3 dd_ 1 vx9_) 3 dd_ 2 (S_.2.2.1 31 0 mx_.toNat)) 3 dd_ 3 vx22_).1 3 dd_ 3)], sm_pI (sm_pI (sm_pI S_ 3 dd_ 1 vx9_) 3 dd_ 2 (S_.2.2.1 31 0 mx_.toNat)) 3 dd_ 3 vx22_)) rfl ?_
              refine sm_T_br (a := 2) (z := 15) rfl (fun cx32_ => ?_) (fun cx32_ => ?_)
              · have cx32_ : ((sm_pI (sm_pI (sm_pI S_ 3 dd_ 1 vx9_) 3 dd_ 2 (S_.2.2.1 31 0 mx_.toNat)) 3 dd_ 3 vx22_).1 3 dd_ 3) < 1 := of_decide_eq_true cx32_
                refine sm_T_go 2 (c1 := (293, [some (.inr (.inr (some (1, 0)))), some (.inl mx_), some (.inl m_), none, none, none, none], [.inl 22], sm_pI (sm_pI (sm_pI S_ 3 dd_ 1 vx9_) 3 dd_ 2 (S_.2.2.1 31 0 mx_.toNat)) 3 dd_ 3 vx22_)) rfl ?_
                refine sm_T_ri rfl ⟨_, _, rfl, _, rfl, hIx23_, hFx24_, ?_⟩
                refine ⟨hDx25_, ?_⟩
                refine ⟨?_, ?_, fun _ => ⟨?_, ?_, ?_⟩⟩
                · show _ = p_lm (S_.2.2.1 30 0 mm_) _ (S_.2.2.1 31 0 mm_) _
                  unfold p_lm
                  rw [← b197_.1, ← b223_.1, ← mI_]
                  first | (rw [if_neg (by omega), if_pos (by omega)]) | (rw [if_neg (by omega), if_neg (by omega), if_pos (by omega)]) | (rw [if_neg (by omega), if_neg (by omega), if_neg (by omega)])
                · exact tb_
                · (try simp only [rd_eq, rd_ne, rf_eq, rf_nk, rf_nt, rd_fa, rd_af, rd_fl, rd_al, rd_lf, rd_la, rd_leq, rd_lne, rd_fr, rd_ar, ne_eq, Nat.reduceEqDiff, not_false_eq_true]); exact b197_.1
                · (try simp only [rd_eq, rd_ne, rf_eq, rf_nk, rf_nt, rd_fa, rd_af, rd_fl, rd_al, rd_lf, rd_la, rd_leq, rd_lne, rd_fr, rd_ar, ne_eq, Nat.reduceEqDiff, not_false_eq_true]); rw [mI_]
                · (try simp only [rd_eq, rd_ne, rf_eq, rf_nk, rf_nt, rd_fa, rd_af, rd_fl, rd_al, rd_lf, rd_la, rd_leq, rd_lne, rd_fr, rd_ar, ne_eq, Nat.reduceEqDiff, not_false_eq_true]); exact b223_.1
              · have cx32_ : ¬ (((sm_pI (sm_pI (sm_pI S_ 3 dd_ 1 vx9_) 3 dd_ 2 (S_.2.2.1 31 0 mx_.toNat)) 3 dd_ 3 vx22_).1 3 dd_ 3) < 1) := of_decide_eq_false cx32_
                refine sm_T_go 1 (c1 := (276, [some (.inr (.inr (some (1, 0)))), some (.inl mx_), some (.inl m_), none, none, none, none], [.inr (.inr (some (1, 0)))], sm_pI (sm_pI (sm_pI S_ 3 dd_ 1 vx9_) 3 dd_ 2 (S_.2.2.1 31 0 mx_.toNat)) 3 dd_ 3 vx22_)) rfl ?_
                refine sm_T_gr rfl rfl ((hFx24_.2.1 1 0 1 rfl).trans hd_) ?_
                have ex33_ : (sm_pI (sm_pI (sm_pI S_ 3 dd_ 1 vx9_) 3 dd_ 2 (S_.2.2.1 31 0 mx_.toNat)) 3 dd_ 3 vx22_).1 3 dd_ 3 = vx22_ := by (try simp only [rf_eq, rf_nk, rf_nt, rd_fa, rd_af, ne_eq, Nat.reduceEqDiff, not_false_eq_true])
                refine sm_T_go 2 (c1 := (284, [some (.inr (.inr (some (1, 0)))), some (.inl mx_), some (.inl m_), none, none, none, none], [.inl 16, .inl ((sm_pI (sm_pI (sm_pI S_ 3 dd_ 1 vx9_) 3 dd_ 2 (S_.2.2.1 31 0 mx_.toNat)) 3 dd_ 3 vx22_).1 3 dd_ 3)], sm_pI (sm_pI (sm_pI S_ 3 dd_ 1 vx9_) 3 dd_ 2 (S_.2.2.1 31 0 mx_.toNat)) 3 dd_ 3 vx22_)) rfl ?_
                refine sm_T_br (a := 5) (z := 8) rfl (fun cx34_ => ?_) (fun cx34_ => ?_)
                · have cx34_ : ((sm_pI (sm_pI (sm_pI S_ 3 dd_ 1 vx9_) 3 dd_ 2 (S_.2.2.1 31 0 mx_.toNat)) 3 dd_ 3 vx22_).1 3 dd_ 3) ≤ 16 := of_decide_eq_true cx34_
                  refine sm_T_go 1 (c1 := (293, [some (.inr (.inr (some (1, 0)))), some (.inl mx_), some (.inl m_), none, none, none, none], [.inl 0], sm_pI (sm_pI (sm_pI S_ 3 dd_ 1 vx9_) 3 dd_ 2 (S_.2.2.1 31 0 mx_.toNat)) 3 dd_ 3 vx22_)) rfl ?_
                  refine sm_T_ri rfl ⟨_, _, rfl, _, rfl, hIx23_, hFx24_, ?_⟩
                  refine ⟨hDx25_, ?_⟩
                  refine ⟨?_, ?_, fun _ => ⟨?_, ?_, ?_⟩⟩
                  · show _ = p_lm (S_.2.2.1 30 0 mm_) _ (S_.2.2.1 31 0 mm_) _
                    unfold p_lm
                    rw [← b197_.1, ← b223_.1, ← mI_]
                    first | (rw [if_neg (by omega), if_pos (by omega)]) | (rw [if_neg (by omega), if_neg (by omega), if_pos (by omega)]) | (rw [if_neg (by omega), if_neg (by omega), if_neg (by omega)])
                  · exact tb_
                  · (try simp only [rd_eq, rd_ne, rf_eq, rf_nk, rf_nt, rd_fa, rd_af, rd_fl, rd_al, rd_lf, rd_la, rd_leq, rd_lne, rd_fr, rd_ar, ne_eq, Nat.reduceEqDiff, not_false_eq_true]); exact b197_.1
                  · (try simp only [rd_eq, rd_ne, rf_eq, rf_nk, rf_nt, rd_fa, rd_af, rd_fl, rd_al, rd_lf, rd_la, rd_leq, rd_lne, rd_fr, rd_ar, ne_eq, Nat.reduceEqDiff, not_false_eq_true]); rw [mI_]
                  · (try simp only [rd_eq, rd_ne, rf_eq, rf_nk, rf_nt, rd_fa, rd_af, rd_fl, rd_al, rd_lf, rd_la, rd_leq, rd_lne, rd_fr, rd_ar, ne_eq, Nat.reduceEqDiff, not_false_eq_true]); exact b223_.1
                · have cx34_ : ¬ (((sm_pI (sm_pI (sm_pI S_ 3 dd_ 1 vx9_) 3 dd_ 2 (S_.2.2.1 31 0 mx_.toNat)) 3 dd_ 3 vx22_).1 3 dd_ 3) ≤ 16) := of_decide_eq_false cx34_
                  refine sm_T_go 2 (c1 := (293, [some (.inr (.inr (some (1, 0)))), some (.inl mx_), some (.inl m_), none, none, none, none], [.inl 22], sm_pI (sm_pI (sm_pI S_ 3 dd_ 1 vx9_) 3 dd_ 2 (S_.2.2.1 31 0 mx_.toNat)) 3 dd_ 3 vx22_)) rfl ?_
                  refine sm_T_ri rfl ⟨_, _, rfl, _, rfl, hIx23_, hFx24_, ?_⟩
                  refine ⟨hDx25_, ?_⟩
                  refine ⟨?_, ?_, fun _ => ⟨?_, ?_, ?_⟩⟩
                  · show _ = p_lm (S_.2.2.1 30 0 mm_) _ (S_.2.2.1 31 0 mm_) _
                    unfold p_lm
                    rw [← b197_.1, ← b223_.1, ← mI_]
                    first | (rw [if_neg (by omega), if_pos (by omega)]) | (rw [if_neg (by omega), if_neg (by omega), if_pos (by omega)]) | (rw [if_neg (by omega), if_neg (by omega), if_neg (by omega)])
                  · exact tb_
                  · (try simp only [rd_eq, rd_ne, rf_eq, rf_nk, rf_nt, rd_fa, rd_af, rd_fl, rd_al, rd_lf, rd_la, rd_leq, rd_lne, rd_fr, rd_ar, ne_eq, Nat.reduceEqDiff, not_false_eq_true]); exact b197_.1
                  · (try simp only [rd_eq, rd_ne, rf_eq, rf_nk, rf_nt, rd_fa, rd_af, rd_fl, rd_al, rd_lf, rd_la, rd_leq, rd_lne, rd_fr, rd_ar, ne_eq, Nat.reduceEqDiff, not_false_eq_true]); rw [mI_]
                  · (try simp only [rd_eq, rd_ne, rf_eq, rf_nk, rf_nt, rd_fa, rd_af, rd_fl, rd_al, rd_lf, rd_la, rd_leq, rd_lne, rd_fr, rd_ar, ne_eq, Nat.reduceEqDiff, not_false_eq_true]); exact b223_.1
            · have cx30_ : ¬ (((sm_pI (sm_pI (sm_pI S_ 3 dd_ 1 vx9_) 3 dd_ 2 (S_.2.2.1 31 0 mx_.toNat)) 3 dd_ 3 vx22_).1 3 dd_ 1) + ((sm_pI (sm_pI (sm_pI S_ 3 dd_ 1 vx9_) 3 dd_ 2 (S_.2.2.1 31 0 mx_.toNat)) 3 dd_ 3 vx22_).1 3 dd_ 2) ≤ 12) := of_decide_eq_false cx30_
              refine sm_T_go 1 (c1 := (263, [some (.inr (.inr (some (1, 0)))), some (.inl mx_), some (.inl m_), none, none, none, none], [.inl 21], sm_pI (sm_pI (sm_pI S_ 3 dd_ 1 vx9_) 3 dd_ 2 (S_.2.2.1 31 0 mx_.toNat)) 3 dd_ 3 vx22_)) rfl ?_
              refine sm_T_ri rfl ⟨_, _, rfl, _, rfl, hIx23_, hFx24_, ?_⟩
              refine ⟨hDx25_, ?_⟩
              refine ⟨?_, ?_, fun _ => ⟨?_, ?_, ?_⟩⟩
              · show _ = p_lm (S_.2.2.1 30 0 mm_) _ (S_.2.2.1 31 0 mm_) _
                unfold p_lm
                rw [← b197_.1, ← b223_.1, ← mI_]
                first | (rw [if_neg (by omega), if_pos (by omega)]) | (rw [if_neg (by omega), if_neg (by omega), if_pos (by omega)]) | (rw [if_neg (by omega), if_neg (by omega), if_neg (by omega)])
              · exact tb_
              · (try simp only [rd_eq, rd_ne, rf_eq, rf_nk, rf_nt, rd_fa, rd_af, rd_fl, rd_al, rd_lf, rd_la, rd_leq, rd_lne, rd_fr, rd_ar, ne_eq, Nat.reduceEqDiff, not_false_eq_true]); exact b197_.1
              · (try simp only [rd_eq, rd_ne, rf_eq, rf_nk, rf_nt, rd_fa, rd_af, rd_fl, rd_al, rd_lf, rd_la, rd_leq, rd_lne, rd_fr, rd_ar, ne_eq, Nat.reduceEqDiff, not_false_eq_true]); rw [mI_]
              · (try simp only [rd_eq, rd_ne, rf_eq, rf_nk, rf_nt, rd_fa, rd_af, rd_fl, rd_al, rd_lf, rd_la, rd_leq, rd_lne, rd_fr, rd_ar, ne_eq, Nat.reduceEqDiff, not_false_eq_true]); exact b223_.1
        · have cx3_ : ¬ ((S_.2.2.1 30 0 mx_.toNat) ≤ 200) := of_decide_eq_false cx3_
          refine sm_T_go 1 (c1 := (189, [some (.inr (.inr (some (1, 0)))), some (.inl mx_), some (.inl m_), none, none, none, none], [.inl 20], S_)) rfl ?_
          refine sm_T_ri rfl ⟨_, _, rfl, _, rfl, hI_, hF_, ?_⟩
          refine ⟨hD_, ?_⟩
          refine ⟨?_, tb_, fun z_ => absurd rfl z_⟩
          unfold p_lm; rw [← mI_, if_pos (by omega)]
      · have cx1_ : ¬ (mx_ < m_) := of_decide_eq_false cx1_
        refine sm_T_go 6 (c1 := (15, [some (.inr (.inr (some (1, 0)))), some (.inl mx_), some (.inl m_), some (.inl 0), some (.inl 0), some (.inl 0), none], [], S_)) rfl ?_
        refine ih_.2 m_ 0 0 0 S_ hI_ hF_ ⟨?_, ?_, ?_, ?_, ?_, ?_, ?_, trivial⟩ ?_
        · omega
        · omega
        · rfl
        · rfl
        · omega
        · exact h1_
        · exact hD_
        · omega
    · rintro m_ us_ bi_ s_ S_ hI_ hF_ ⟨h0_, hs_, hu_, hb_, hub_, h1_, hD_, -⟩ hm_
      have her1_ : ∀ k_, k_ ≤ mm_ → er1 b_ n_ A_ k_ S_ := fun k_ hk_ => er1_fr (her_ k_ hk_) hF_ rfl rfl rfl rfl rfl
      have dsg_ : S_.2.1 1 0 1 = some dd_ := (hF_.2.1 1 0 1 rfl).trans hd_
      have cn_ : S_.2.2.1 77 0 m_.toNat = (A_.1 m_.toNat : Int) := (her1_ m_.toNat (by omega)).1
      have aM_ := hA_.2 m_.toNat (by omega)
      have A40_ := aM_.1
      have rw1_ : s_ < (A_.1 m_.toNat : Int) → S_.2.2.1 79 0 (40 * m_ + s_).toNat = A_.2.2.1 (40 * m_.toNat + s_.toNat) ∧ S_.2.2.1 80 0 (40 * m_ + s_).toNat = A_.2.2.2.1 (40 * m_.toNat + s_.toNat) ∧ S_.2.2.1 81 0 (40 * m_ + s_).toNat = A_.2.2.2.2 (40 * m_.toNat + s_.toNat) := by intro z_; rw [show (40 * m_ + s_).toNat = 40 * m_.toNat + s_.toNat by omega]; exact ((her1_ m_.toNat (by omega)).2 s_.toNat (by omega)).2
      have ok1_ : s_ < (A_.1 m_.toNat : Int) → (A_.2.2.1 (40 * m_.toNat + s_.toNat) = 5 → 0 ≤ A_.2.2.2.2 (40 * m_.toNat + s_.toNat) ∧ A_.2.2.2.2 (40 * m_.toNat + s_.toNat) < m_) ∧ 0 ≤ A_.2.2.2.1 (40 * m_.toNat + s_.toNat) ∧ A_.2.2.2.1 (40 * m_.toNat + s_.toNat) ≤ 8 := by intro z_; have y_ := aM_.2 s_.toNat (by omega); exact ⟨fun w_ => by have := y_.2.2.2.2.1 w_; omega, y_.2.2.1⟩
      refine sm_T_go 5 (c1 := (25, [some (.inr (.inr (some (1, 0)))), some (.inl mx_), some (.inl m_), some (.inl us_), some (.inl bi_), some (.inl s_), none], [.inl m_, .inr (.inr (some (77, 0))), .inl s_], S_)) rfl ?_
      refine sm_T_iald (n := 17) rfl rfl (by omega) (by omega) ?_
      have bx1_ : 0 ≤ S_.2.2.1 77 0 m_.toNat ∧ S_.2.2.1 77 0 m_.toNat ≤ 40 := hI_.2 77 0 _
      refine sm_T_br (a := 3) (z := 118) rfl (fun cx2_ => ?_) (fun cx2_ => ?_)
      · have cx2_ : (S_.2.2.1 77 0 m_.toNat) ≤ s_ := of_decide_eq_true cx2_
        refine sm_T_go 4 (c1 := (150, [some (.inr (.inr (some (1, 0)))), some (.inl mx_), some (.inl m_), some (.inl us_), some (.inl bi_), some (.inl s_), none], [.inl us_, .inl m_, .inr (.inr (some (30, 0)))], S_)) rfl ?_
        refine sm_T_nt (u := some (.inl 100000)) (S1 := S_) rfl rfl rfl ?_
        refine sm_T_nt (u := some (.inl (sm_mn us_ 100000))) (S1 := S_) rfl rfl rfl ?_
        have bx3_ := sm_mn_d us_ 100000
        refine sm_T_iast (n := 16) rfl rfl (by omega) (by omega) ?_
        have hIx4_ : gi (sm_aI S_ 30 0 m_.toNat (sm_mn us_ 100000)) := gi_aI hI_ (show 0 ≤ (sm_mn us_ 100000) ∧ (sm_mn us_ 100000) ≤ 100000 from ⟨by omega, by omega⟩)
        have hFx5_ : ai_fr (sx_W vw_32d) S0_ (sm_aI S_ 30 0 m_.toNat (sm_mn us_ 100000)) := ai_fr_tr hF_ (ai_fr_aI rfl)
        have hDx6_ : idf dd_ S0_ (sm_aI S_ 30 0 m_.toNat (sm_mn us_ 100000)) := idf_aI hD_ (Or.inl (by decide))
        refine sm_T_go 4 (c1 := (163, [some (.inr (.inr (some (1, 0)))), some (.inl mx_), some (.inl m_), some (.inl us_), some (.inl bi_), some (.inl s_), none], [.inl bi_, .inl m_, .inr (.inr (some (31, 0)))], sm_aI S_ 30 0 m_.toNat (sm_mn us_ 100000))) rfl ?_
        refine sm_T_nt (u := some (.inl 100000)) (S1 := sm_aI S_ 30 0 m_.toNat (sm_mn us_ 100000)) rfl rfl rfl ?_
        refine sm_T_nt (u := some (.inl (sm_mn bi_ 100000))) (S1 := sm_aI S_ 30 0 m_.toNat (sm_mn us_ 100000)) rfl rfl rfl ?_
        have bx7_ := sm_mn_d bi_ 100000
        refine sm_T_iast (n := 16) rfl rfl (by omega) (by omega) ?_
        have hIx8_ : gi (sm_aI (sm_aI S_ 30 0 m_.toNat (sm_mn us_ 100000)) 31 0 m_.toNat (sm_mn bi_ 100000)) := gi_aI hIx4_ (show 0 ≤ (sm_mn bi_ 100000) ∧ (sm_mn bi_ 100000) ≤ 100000 from ⟨by omega, by omega⟩)
        have hFx9_ : ai_fr (sx_W vw_32d) S0_ (sm_aI (sm_aI S_ 30 0 m_.toNat (sm_mn us_ 100000)) 31 0 m_.toNat (sm_mn bi_ 100000)) := ai_fr_tr hFx5_ (ai_fr_aI rfl)
        have hDx10_ : idf dd_ S0_ (sm_aI (sm_aI S_ 30 0 m_.toNat (sm_mn us_ 100000)) 31 0 m_.toNat (sm_mn bi_ 100000)) := idf_aI hDx6_ (Or.inl (by decide))
        refine sm_T_inc (a := 2) (z := 1) (v := m_) (w := m_ + 1) rfl rfl (by omega) (by omega) (by omega) ?_
        refine sm_T_go 1 (c1 := (2, [some (.inr (.inr (some (1, 0)))), some (.inl mx_), some (.inl (m_ + 1)), some (.inl us_), some (.inl bi_), some (.inl s_), none], [], sm_aI (sm_aI S_ 30 0 m_.toNat (sm_mn us_ 100000)) 31 0 m_.toNat (sm_mn bi_ 100000))) rfl ?_
        refine sm_T_wk [some (.inr (.inr (some (1, 0)))), some (.inl mx_), some (.inl (m_ + 1)), none, none, none, none] (by exact ⟨rfl, rfl, rfl, trivial⟩) ?_
        refine ih_.1 (m_ + 1) (sm_aI (sm_aI S_ 30 0 m_.toNat (sm_mn us_ 100000)) 31 0 m_.toNat (sm_mn bi_ 100000)) hIx8_ hFx9_ ⟨?_, ?_, ?_, trivial⟩ ?_
        · omega
        · rw [show (m_ + 1).toNat = m_.toNat + 1 by omega]
          have es_ : s_.toNat = A_.1 m_.toNat := by omega
          rw [es_] at hu_ hb_
          exact lt1_up (a_ok_le hA_ (by omega)) h1_ (fun j_ => by rw [rd_ne (by decide), rd_eq, sm_mc, hu_]) (fun j_ => by rw [rd_eq, rd_ne (by decide), sm_mc, hb_])
        · exact hDx10_
        · omega
      · have cx2_ : ¬ ((S_.2.2.1 77 0 m_.toNat) ≤ s_) := of_decide_eq_false cx2_
        obtain ⟨r79_, r80_, r81_⟩ := rw1_ (by omega)
        obtain ⟨ok5_, okw_⟩ := ok1_ (by omega)
        refine sm_T_go 2 (c1 := (32, [some (.inr (.inr (some (1, 0)))), some (.inl mx_), some (.inl m_), some (.inl us_), some (.inl bi_), some (.inl s_), none], [.inl 40, .inl m_], S_)) rfl ?_
        refine sm_T_bin (w := 40 * m_) rfl (bi_mul (by omega) (by omega) (by omega)) ?_
        refine sm_T_go 1 (c1 := (35, [some (.inr (.inr (some (1, 0)))), some (.inl mx_), some (.inl m_), some (.inl us_), some (.inl bi_), some (.inl s_), none], [.inl s_, .inl (40 * m_)], S_)) rfl ?_
        refine sm_T_bin (w := 40 * m_ + s_) rfl (bi_add (by omega) (by omega) (by omega)) ?_
        refine sm_T_go 5 (c1 := (47, [some (.inr (.inr (some (1, 0)))), some (.inl mx_), some (.inl m_), some (.inl us_), some (.inl bi_), some (.inl s_), some (.inl (40 * m_ + s_))], [.inl (40 * m_ + s_), .inr (.inr (some (79, 0)))], S_)) rfl ?_
        refine sm_T_iald (n := 640) rfl rfl (by omega) (by omega) ?_
        have bx11_ : 0 ≤ S_.2.2.1 79 0 (40 * m_ + s_).toNat ∧ S_.2.2.1 79 0 (40 * m_ + s_).toNat ≤ 5 := hI_.2 79 0 _
        refine sm_T_go 1 (c1 := (49, [some (.inr (.inr (some (1, 0)))), some (.inl mx_), some (.inl m_), some (.inl us_), some (.inl bi_), some (.inl s_), some (.inl (40 * m_ + s_))], [.inl 5, .inl (S_.2.2.1 79 0 (40 * m_ + s_).toNat)], S_)) rfl ?_
        refine sm_T_br (a := 1) (z := 46) rfl (fun cx12_ => ?_) (fun cx12_ => ?_)
        · have cx12_ : (S_.2.2.1 79 0 (40 * m_ + s_).toNat) ≠ 5 := of_decide_eq_true cx12_
          refine sm_T_go 4 (c1 := (104, [some (.inr (.inr (some (1, 0)))), some (.inl mx_), some (.inl m_), some (.inl us_), some (.inl bi_), some (.inl s_), some (.inl (40 * m_ + s_))], [.inl (40 * m_ + s_), .inr (.inr (some (79, 0)))], S_)) rfl ?_
          refine sm_T_iald (n := 640) rfl rfl (by omega) (by omega) ?_
          refine sm_T_go 1 (c1 := (106, [some (.inr (.inr (some (1, 0)))), some (.inl mx_), some (.inl m_), some (.inl us_), some (.inl bi_), some (.inl s_), some (.inl (40 * m_ + s_))], [.inl 3, .inl (S_.2.2.1 79 0 (40 * m_ + s_).toNat)], S_)) rfl ?_
          refine sm_T_br (a := 0) (z := 17) rfl (fun cx13_ => ?_) (fun cx13_ => ?_)
          · have cx13_ : (S_.2.2.1 79 0 (40 * m_ + s_).toNat) = 3 := of_decide_eq_true cx13_
            refine sm_T_go 5 (c1 := (134, [some (.inr (.inr (some (1, 0)))), some (.inl mx_), some (.inl m_), some (.inl us_), some (.inl bi_), some (.inl s_), some (.inl (40 * m_ + s_))], [.inl (40 * m_ + s_), .inr (.inr (some (80, 0))), .inl bi_], S_)) rfl ?_
            refine sm_T_iald (n := 640) rfl rfl (by omega) (by omega) ?_
            have bx14_ : 0 ≤ S_.2.2.1 80 0 (40 * m_ + s_).toNat ∧ S_.2.2.1 80 0 (40 * m_ + s_).toNat ≤ 8 := hI_.2 80 0 _
            refine sm_T_bin (w := bi_ + (S_.2.2.1 80 0 (40 * m_ + s_).toNat)) rfl (bi_add (by omega) (by omega) (by omega)) ?_
            refine sm_T_go 1 (c1 := (138, [some (.inr (.inr (some (1, 0)))), some (.inl mx_), some (.inl m_), some (.inl us_), some (.inl (bi_ + (S_.2.2.1 80 0 (40 * m_ + s_).toNat))), some (.inl s_), some (.inl (40 * m_ + s_))], [], S_)) rfl ?_
            refine sm_T_inc (a := 5) (z := 1) (v := s_) (w := s_ + 1) rfl rfl (by omega) (by omega) (by omega) ?_
            refine sm_T_go 1 (c1 := (15, [some (.inr (.inr (some (1, 0)))), some (.inl mx_), some (.inl m_), some (.inl us_), some (.inl (bi_ + (S_.2.2.1 80 0 (40 * m_ + s_).toNat))), some (.inl (s_ + 1)), some (.inl (40 * m_ + s_))], [], S_)) rfl ?_
            refine sm_T_wk [some (.inr (.inr (some (1, 0)))), some (.inl mx_), some (.inl m_), some (.inl us_), some (.inl (bi_ + (S_.2.2.1 80 0 (40 * m_ + s_).toNat))), some (.inl (s_ + 1)), none] (by exact ⟨rfl, rfl, rfl, rfl, rfl, rfl, trivial⟩) ?_
            refine ih_.2 m_ us_ (bi_ + (S_.2.2.1 80 0 (40 * m_ + s_).toNat)) (s_ + 1) S_ hI_ hF_ ⟨?_, ?_, ?_, ?_, ?_, ?_, ?_, trivial⟩ ?_
            · omega
            · omega
            · rw [show (s_ + 1).toNat = s_.toNat + 1 by omega]
              show _ = su (t_is (S_.2.2.1 30 0) A_ m_.toNat) s_.toNat + (if A_.2.2.1 (40 * m_.toNat + s_.toNat) = 5 then 1 + S_.2.2.1 30 0 (A_.2.2.2.2 (40 * m_.toNat + s_.toNat)).toNat else 0)
              first | (rw [if_pos (by omega), ← r81_]; omega) | (rw [if_neg (by omega)]; omega)
            · rw [show (s_ + 1).toNat = s_.toNat + 1 by omega]
              show _ = su (t_rg (S_.2.2.1 31 0) A_ m_.toNat) s_.toNat + (if A_.2.2.1 (40 * m_.toNat + s_.toNat) = 3 ∨ A_.2.2.1 (40 * m_.toNat + s_.toNat) = 4 then A_.2.2.2.1 (40 * m_.toNat + s_.toNat) else if A_.2.2.1 (40 * m_.toNat + s_.toNat) = 5 then S_.2.2.1 31 0 (A_.2.2.2.2 (40 * m_.toNat + s_.toNat)).toNat else 0)
              first | (rw [if_pos (by omega)]; omega) | (rw [if_neg (by omega), if_pos (by omega), ← r81_]; omega) | (rw [if_neg (by omega), if_neg (by omega)]; omega)
            · omega
            · exact h1_
            · exact hD_
            · omega
          · have cx13_ : ¬ ((S_.2.2.1 79 0 (40 * m_ + s_).toNat) = 3) := of_decide_eq_false cx13_
            refine sm_T_go 4 (c1 := (118, [some (.inr (.inr (some (1, 0)))), some (.inl mx_), some (.inl m_), some (.inl us_), some (.inl bi_), some (.inl s_), some (.inl (40 * m_ + s_))], [.inl (40 * m_ + s_), .inr (.inr (some (79, 0)))], S_)) rfl ?_
            refine sm_T_iald (n := 640) rfl rfl (by omega) (by omega) ?_
            refine sm_T_go 1 (c1 := (120, [some (.inr (.inr (some (1, 0)))), some (.inl mx_), some (.inl m_), some (.inl us_), some (.inl bi_), some (.inl s_), some (.inl (40 * m_ + s_))], [.inl 4, .inl (S_.2.2.1 79 0 (40 * m_ + s_).toNat)], S_)) rfl ?_
            refine sm_T_br (a := 1) (z := 18) rfl (fun cx15_ => ?_) (fun cx15_ => ?_)
            · have cx15_ : (S_.2.2.1 79 0 (40 * m_ + s_).toNat) ≠ 4 := of_decide_eq_true cx15_
              refine sm_T_inc (a := 5) (z := 1) (v := s_) (w := s_ + 1) rfl rfl (by omega) (by omega) (by omega) ?_
              refine sm_T_go 1 (c1 := (15, [some (.inr (.inr (some (1, 0)))), some (.inl mx_), some (.inl m_), some (.inl us_), some (.inl bi_), some (.inl (s_ + 1)), some (.inl (40 * m_ + s_))], [], S_)) rfl ?_
              refine sm_T_wk [some (.inr (.inr (some (1, 0)))), some (.inl mx_), some (.inl m_), some (.inl us_), some (.inl bi_), some (.inl (s_ + 1)), none] (by exact ⟨rfl, rfl, rfl, rfl, rfl, rfl, trivial⟩) ?_
              refine ih_.2 m_ us_ bi_ (s_ + 1) S_ hI_ hF_ ⟨?_, ?_, ?_, ?_, ?_, ?_, ?_, trivial⟩ ?_
              · omega
              · omega
              · rw [show (s_ + 1).toNat = s_.toNat + 1 by omega]
                show _ = su (t_is (S_.2.2.1 30 0) A_ m_.toNat) s_.toNat + (if A_.2.2.1 (40 * m_.toNat + s_.toNat) = 5 then 1 + S_.2.2.1 30 0 (A_.2.2.2.2 (40 * m_.toNat + s_.toNat)).toNat else 0)
                first | (rw [if_pos (by omega), ← r81_]; omega) | (rw [if_neg (by omega)]; omega)
              · rw [show (s_ + 1).toNat = s_.toNat + 1 by omega]
                show _ = su (t_rg (S_.2.2.1 31 0) A_ m_.toNat) s_.toNat + (if A_.2.2.1 (40 * m_.toNat + s_.toNat) = 3 ∨ A_.2.2.1 (40 * m_.toNat + s_.toNat) = 4 then A_.2.2.2.1 (40 * m_.toNat + s_.toNat) else if A_.2.2.1 (40 * m_.toNat + s_.toNat) = 5 then S_.2.2.1 31 0 (A_.2.2.2.2 (40 * m_.toNat + s_.toNat)).toNat else 0)
                first | (rw [if_pos (by omega)]; omega) | (rw [if_neg (by omega), if_pos (by omega), ← r81_]; omega) | (rw [if_neg (by omega), if_neg (by omega)]; omega)
              · omega
              · exact h1_
              · exact hD_
              · omega
            · have cx15_ : ¬ ((S_.2.2.1 79 0 (40 * m_ + s_).toNat) ≠ 4) := of_decide_eq_false cx15_
              refine sm_T_go 5 (c1 := (134, [some (.inr (.inr (some (1, 0)))), some (.inl mx_), some (.inl m_), some (.inl us_), some (.inl bi_), some (.inl s_), some (.inl (40 * m_ + s_))], [.inl (40 * m_ + s_), .inr (.inr (some (80, 0))), .inl bi_], S_)) rfl ?_
              refine sm_T_iald (n := 640) rfl rfl (by omega) (by omega) ?_
              have bx16_ : 0 ≤ S_.2.2.1 80 0 (40 * m_ + s_).toNat ∧ S_.2.2.1 80 0 (40 * m_ + s_).toNat ≤ 8 := hI_.2 80 0 _
              refine sm_T_bin (w := bi_ + (S_.2.2.1 80 0 (40 * m_ + s_).toNat)) rfl (bi_add (by omega) (by omega) (by omega)) ?_
              refine sm_T_go 1 (c1 := (138, [some (.inr (.inr (some (1, 0)))), some (.inl mx_), some (.inl m_), some (.inl us_), some (.inl (bi_ + (S_.2.2.1 80 0 (40 * m_ + s_).toNat))), some (.inl s_), some (.inl (40 * m_ + s_))], [], S_)) rfl ?_
              refine sm_T_inc (a := 5) (z := 1) (v := s_) (w := s_ + 1) rfl rfl (by omega) (by omega) (by omega) ?_
              refine sm_T_go 1 (c1 := (15, [some (.inr (.inr (some (1, 0)))), some (.inl mx_), some (.inl m_), some (.inl us_), some (.inl (bi_ + (S_.2.2.1 80 0 (40 * m_ + s_).toNat))), some (.inl (s_ + 1)), some (.inl (40 * m_ + s_))], [], S_)) rfl ?_
              refine sm_T_wk [some (.inr (.inr (some (1, 0)))), some (.inl mx_), some (.inl m_), some (.inl us_), some (.inl (bi_ + (S_.2.2.1 80 0 (40 * m_ + s_).toNat))), some (.inl (s_ + 1)), none] (by exact ⟨rfl, rfl, rfl, rfl, rfl, rfl, trivial⟩) ?_
              refine ih_.2 m_ us_ (bi_ + (S_.2.2.1 80 0 (40 * m_ + s_).toNat)) (s_ + 1) S_ hI_ hF_ ⟨?_, ?_, ?_, ?_, ?_, ?_, ?_, trivial⟩ ?_
              · omega
              · omega
              · rw [show (s_ + 1).toNat = s_.toNat + 1 by omega]
                show _ = su (t_is (S_.2.2.1 30 0) A_ m_.toNat) s_.toNat + (if A_.2.2.1 (40 * m_.toNat + s_.toNat) = 5 then 1 + S_.2.2.1 30 0 (A_.2.2.2.2 (40 * m_.toNat + s_.toNat)).toNat else 0)
                first | (rw [if_pos (by omega), ← r81_]; omega) | (rw [if_neg (by omega)]; omega)
              · rw [show (s_ + 1).toNat = s_.toNat + 1 by omega]
                show _ = su (t_rg (S_.2.2.1 31 0) A_ m_.toNat) s_.toNat + (if A_.2.2.1 (40 * m_.toNat + s_.toNat) = 3 ∨ A_.2.2.1 (40 * m_.toNat + s_.toNat) = 4 then A_.2.2.2.1 (40 * m_.toNat + s_.toNat) else if A_.2.2.1 (40 * m_.toNat + s_.toNat) = 5 then S_.2.2.1 31 0 (A_.2.2.2.2 (40 * m_.toNat + s_.toNat)).toNat else 0)
                first | (rw [if_pos (by omega)]; omega) | (rw [if_neg (by omega), if_pos (by omega), ← r81_]; omega) | (rw [if_neg (by omega), if_neg (by omega)]; omega)
              · omega
              · exact h1_
              · exact hD_
              · omega
        · have cx12_ : ¬ ((S_.2.2.1 79 0 (40 * m_ + s_).toNat) ≠ 5) := of_decide_eq_false cx12_
          have s5_ : A_.2.2.1 (40 * m_.toNat + s_.toNat) = 5 := by omega
          have d5_ := ok5_ s5_
          refine sm_T_go 8 (c1 := (67, [some (.inr (.inr (some (1, 0)))), some (.inl mx_), some (.inl m_), some (.inl us_), some (.inl bi_), some (.inl s_), some (.inl (40 * m_ + s_))], [.inl (40 * m_ + s_), .inr (.inr (some (81, 0))), .inr (.inr (some (30, 0))), .inl 1, .inl us_], S_)) rfl ?_
          refine sm_T_iald (n := 640) rfl rfl (by omega) (by omega) ?_
          have bx17_ : 0 ≤ S_.2.2.1 81 0 (40 * m_ + s_).toNat ∧ S_.2.2.1 81 0 (40 * m_ + s_).toNat ≤ 255 := hI_.2 81 0 _
          refine sm_T_iald (n := 16) rfl rfl (by omega) (by omega) ?_
          have bx18_ : 0 ≤ S_.2.2.1 30 0 (S_.2.2.1 81 0 (40 * m_ + s_).toNat).toNat ∧ S_.2.2.1 30 0 (S_.2.2.1 81 0 (40 * m_ + s_).toNat).toNat ≤ 100000 := hI_.2 30 0 _
          refine sm_T_bin (w := (S_.2.2.1 30 0 (S_.2.2.1 81 0 (40 * m_ + s_).toNat).toNat) + 1) rfl (bi_add (by omega) (by omega) (by omega)) ?_
          refine sm_T_bin (w := us_ + (S_.2.2.1 30 0 (S_.2.2.1 81 0 (40 * m_ + s_).toNat).toNat) + 1) rfl (bi_add (by omega) (by omega) (by omega)) ?_
          refine sm_T_go 8 (c1 := (87, [some (.inr (.inr (some (1, 0)))), some (.inl mx_), some (.inl m_), some (.inl (us_ + (S_.2.2.1 30 0 (S_.2.2.1 81 0 (40 * m_ + s_).toNat).toNat) + 1)), some (.inl bi_), some (.inl s_), some (.inl (40 * m_ + s_))], [.inl (40 * m_ + s_), .inr (.inr (some (81, 0))), .inr (.inr (some (31, 0))), .inl bi_], S_)) rfl ?_
          refine sm_T_iald (n := 640) rfl rfl (by omega) (by omega) ?_
          refine sm_T_iald (n := 16) rfl rfl (by omega) (by omega) ?_
          have bx19_ : 0 ≤ S_.2.2.1 31 0 (S_.2.2.1 81 0 (40 * m_ + s_).toNat).toNat ∧ S_.2.2.1 31 0 (S_.2.2.1 81 0 (40 * m_ + s_).toNat).toNat ≤ 100000 := hI_.2 31 0 _
          refine sm_T_bin (w := bi_ + (S_.2.2.1 31 0 (S_.2.2.1 81 0 (40 * m_ + s_).toNat).toNat)) rfl (bi_add (by omega) (by omega) (by omega)) ?_
          refine sm_T_go 2 (c1 := (138, [some (.inr (.inr (some (1, 0)))), some (.inl mx_), some (.inl m_), some (.inl (us_ + (S_.2.2.1 30 0 (S_.2.2.1 81 0 (40 * m_ + s_).toNat).toNat) + 1)), some (.inl (bi_ + (S_.2.2.1 31 0 (S_.2.2.1 81 0 (40 * m_ + s_).toNat).toNat))), some (.inl s_), some (.inl (40 * m_ + s_))], [], S_)) rfl ?_
          refine sm_T_inc (a := 5) (z := 1) (v := s_) (w := s_ + 1) rfl rfl (by omega) (by omega) (by omega) ?_
          refine sm_T_go 1 (c1 := (15, [some (.inr (.inr (some (1, 0)))), some (.inl mx_), some (.inl m_), some (.inl (us_ + (S_.2.2.1 30 0 (S_.2.2.1 81 0 (40 * m_ + s_).toNat).toNat) + 1)), some (.inl (bi_ + (S_.2.2.1 31 0 (S_.2.2.1 81 0 (40 * m_ + s_).toNat).toNat))), some (.inl (s_ + 1)), some (.inl (40 * m_ + s_))], [], S_)) rfl ?_
          refine sm_T_wk [some (.inr (.inr (some (1, 0)))), some (.inl mx_), some (.inl m_), some (.inl (us_ + (S_.2.2.1 30 0 (S_.2.2.1 81 0 (40 * m_ + s_).toNat).toNat) + 1)), some (.inl (bi_ + (S_.2.2.1 31 0 (S_.2.2.1 81 0 (40 * m_ + s_).toNat).toNat))), some (.inl (s_ + 1)), none] (by exact ⟨rfl, rfl, rfl, rfl, rfl, rfl, trivial⟩) ?_
          refine ih_.2 m_ (us_ + (S_.2.2.1 30 0 (S_.2.2.1 81 0 (40 * m_ + s_).toNat).toNat) + 1) (bi_ + (S_.2.2.1 31 0 (S_.2.2.1 81 0 (40 * m_ + s_).toNat).toNat)) (s_ + 1) S_ hI_ hF_ ⟨?_, ?_, ?_, ?_, ?_, ?_, ?_, trivial⟩ ?_
          · omega
          · omega
          · rw [show (s_ + 1).toNat = s_.toNat + 1 by omega]
            show _ = su (t_is (S_.2.2.1 30 0) A_ m_.toNat) s_.toNat + (if A_.2.2.1 (40 * m_.toNat + s_.toNat) = 5 then 1 + S_.2.2.1 30 0 (A_.2.2.2.2 (40 * m_.toNat + s_.toNat)).toNat else 0)
            first | (rw [if_pos (by omega), ← r81_]; omega) | (rw [if_neg (by omega)]; omega)
          · rw [show (s_ + 1).toNat = s_.toNat + 1 by omega]
            show _ = su (t_rg (S_.2.2.1 31 0) A_ m_.toNat) s_.toNat + (if A_.2.2.1 (40 * m_.toNat + s_.toNat) = 3 ∨ A_.2.2.1 (40 * m_.toNat + s_.toNat) = 4 then A_.2.2.2.1 (40 * m_.toNat + s_.toNat) else if A_.2.2.1 (40 * m_.toNat + s_.toNat) = 5 then S_.2.2.1 31 0 (A_.2.2.2.2 (40 * m_.toNat + s_.toNat)).toNat else 0)
            first | (rw [if_pos (by omega)]; omega) | (rw [if_neg (by omega), if_pos (by omega), ← r81_]; omega) | (rw [if_neg (by omega), if_neg (by omega)]; omega)
          · omega
          · exact h1_
          · exact hD_
          · omega
set_option maxHeartbeats 1500000 in
set_option maxRecDepth 20000 in
theorem vc_32d {sc_ : Nat × (Nat → Int)} (mx_ : Int) (b_ : Nat → Int) (n_ : Nat) (A_ : pA) (mm_ : Nat) (dd_ : Nat) (S0_ : sm_S) (hI_ : gi S0_) (hmx_ : mx_ = (mm_ : Int) ∧ mm_ ≤ 15) (her_ : ∀ k_, k_ ≤ mm_ → er1 b_ n_ A_ k_ S0_) (hA_ : a_ok b_ n_ A_ mm_) (hd_ : S0_.2.1 1 0 1 = some dd_) : sm_T (mt_P sc_) 1 32 (0, [some (.inr (.inr (some (1, 0)))), some (.inl mx_), none, none, none, none, none], [], S0_) (fun ro9_ => ∃ u_ S1_, ro9_ = (.inl u_, S1_, 0) ∧ vq_32d mx_ b_ n_ A_ mm_ dd_ S0_ u_ S1_) := by
  have hF_ : ai_fr (sx_W vw_32d) S0_ S0_ := ai_fr_rf
  have hD_ : idf dd_ S0_ S0_ := idf_rf
  refine sm_T_go 2 (c1 := (2, [some (.inr (.inr (some (1, 0)))), some (.inl mx_), some (.inl 0), none, none, none, none], [], S0_)) rfl ?_
  refine (vl_32d mx_ b_ n_ A_ mm_ dd_ S0_ hmx_ her_ hA_ hd_ _).1 0 S0_ hI_ hF_ ⟨?_, ?_, ?_, trivial⟩ (Nat.lt_succ_self _)
  · omega
  · (intro k_ hk_; exact absurd hk_ (Nat.not_lt_zero _))
  · exact hD_
