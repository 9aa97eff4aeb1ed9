/-! Builder.limitFault -/
def vw_32 : sx_Wl := ([(3, 1), (3, 2), (3, 3)], [30, 31], [])
def vq_32 (mx_ : Int) (b_ : Nat → Int) (n_ : Nat) (A_ : pA) (mm_ : Nat) (dd_ : Nat) (S0_ : sm_S) (u_ : Option sm_V) (S1_ : sm_S) : Prop := ∃ v_ : Int, u_ = some (.inl v_) ∧ gi S1_ ∧ ai_fr (sx_W vw_32) S0_ S1_ ∧ (v_ = p_lm (S1_.2.2.1 30 0 mm_) (su (t_in A_ 0 mm_) (A_.1 mm_)) (S1_.2.2.1 31 0 mm_) (su (t_in A_ 1 mm_) (A_.1 mm_)) ∧ (∀ k_ : Nat, k_ < mm_ + 1 → lt1 A_ k_ S1_) ∧ (v_ ≠ 20 → S1_.1 3 dd_ 1 = su (t_in A_ 0 mm_) (A_.1 mm_) ∧ S1_.1 3 dd_ 2 = S1_.2.2.1 31 0 mm_ ∧ S1_.1 3 dd_ 3 = su (t_in A_ 1 mm_) (A_.1 mm_)))
set_option maxHeartbeats 1500000 in
set_option maxRecDepth 20000 in
theorem vl_32 {sc_ : Nat × (Nat → Int)} (mx_ : Int) (b_ : Nat → Int) (n_ : Nat) (A_ : pA) (mm_ : Nat) (dd_ : Nat) (S0_ : sm_S) (hmx_ : mx_ = (mm_ : Int) ∧ mm_ ≤ 15) (her_ : ∀ k_, k_ ≤ mm_ → er1 b_ n_ A_ k_ S0_) (hA_ : a_ok b_ n_ A_ mm_) (hd_ : S0_.2.1 1 0 1 = some dd_) : ∀ nn_ : Nat, (∀ (m_ : Int) (S_ : sm_S), gi S_ → ai_fr (sx_W vw_32) S0_ S_ → ((0 ≤ m_ ∧ m_ ≤ mx_ + 1) ∧ (∀ k_ : Nat, k_ < m_.toNat → lt1 A_ k_ S_) ∧ True) → ((100 * (20 - m_) + 50).toNat) < nn_ → sm_T (mt_P sc_) 1 32 (2, [some (.inr (.inr (some (1, 0)))), some (.inl mx_), some (.inl m_), none, none, none, none], [], S_) (fun r_ => ∃ u_ S1_, r_ = (.inl u_, S1_, 0) ∧ vq_32 mx_ b_ n_ A_ mm_ dd_ S0_ u_ S1_)) ∧ (∀ (m_ : Int) (us_ : Int) (bi_ : Int) (s_ : Int) (S_ : sm_S), gi S_ → ai_fr (sx_W vw_32) S0_ S_ → ((0 ≤ m_ ∧ m_ ≤ mx_) ∧ (0 ≤ s_ ∧ s_ ≤ (A_.1 m_.toNat : Int)) ∧ (us_ = su (t_is (S_.2.2.1 30 0) A_ m_.toNat) s_.toNat) ∧ (bi_ = su (t_rg (S_.2.2.1 31 0) A_ m_.toNat) s_.toNat) ∧ ((0 ≤ us_ ∧ us_ ≤ 100001 * s_) ∧ (0 ≤ bi_ ∧ bi_ ≤ 100000 * s_)) ∧ (∀ k_ : Nat, k_ < m_.toNat → lt1 A_ k_ S_) ∧ True) → ((100 * (20 - m_) + 45 - s_).toNat) < nn_ → sm_T (mt_P sc_) 1 32 (15, [some (.inr (.inr (some (1, 0)))), some (.inl mx_), some (.inl m_), some (.inl us_), some (.inl bi_), some (.inl s_), none], [], S_) (fun r_ => ∃ u_ S1_, r_ = (.inl u_, S1_, 0) ∧ vq_32 mx_ b_ n_ A_ mm_ dd_ S0_ u_ S1_)) := by
  intro nn_
  induction nn_ with
  | zero => exact ⟨fun _ _ _ _ _ h_ => absurd h_ (Nat.not_lt_zero _), fun _ _ _ _ _ _ _ _ h_ => absurd h_ (Nat.not_lt_zero _)⟩
  | succ nn_ ih_ =>
    refine ⟨?_, ?_⟩
    · rintro m_ S_ hI_ hF_ ⟨h0_, h1_, -⟩ hm_
      have her1_ : ∀ k_, k_ ≤ mm_ → er1 b_ n_ A_ k_ S_ := fun k_ hk_ => er1_fr (her_ k_ hk_) hF_ rfl rfl rfl rfl rfl
      have dsg_ : S_.2.1 1 0 1 = some dd_ := (hF_.2.1 1 0 1 rfl).trans hd_
      refine sm_T_go 2 (c1 := (4, [some (.inr (.inr (some (1, 0)))), some (.inl mx_), some (.inl m_), none, none, none, none], [.inl mx_, .inl m_], S_)) rfl ?_
      refine sm_T_br (a := 4) (z := 171) rfl (fun cx1_ => ?_) (fun cx1_ => ?_)
      · have cx1_ : mx_ < m_ := of_decide_eq_true cx1_
        have tb_ : ∀ k_ : Nat, k_ < mm_ + 1 → lt1 A_ k_ S_ := fun k_ hk_ => h1_ k_ (by omega)
        have mI_ : mx_.toNat = mm_ := by omega
        refine sm_T_go 3 (c1 := (180, [some (.inr (.inr (some (1, 0)))), some (.inl mx_), some (.inl m_), none, none, none, none], [.inl mx_, .inr (.inr (some (30, 0)))], S_)) rfl ?_
        refine sm_T_iald (n := 16) rfl rfl (by omega) (by omega) ?_
        have bx2_ : 0 ≤ S_.2.2.1 30 0 mx_.toNat ∧ S_.2.2.1 30 0 mx_.toNat ≤ 100000 := hI_.2 30 0 _
        refine sm_T_go 1 (c1 := (184, [some (.inr (.inr (some (1, 0)))), some (.inl mx_), some (.inl m_), none, none, none, none], [.inl 200, .inl (S_.2.2.1 30 0 mx_.toNat)], S_)) rfl ?_
        refine sm_T_br (a := 5) (z := 6) rfl (fun cx3_ => ?_) (fun cx3_ => ?_)
        · have cx3_ : (S_.2.2.1 30 0 mx_.toNat) ≤ 200 := of_decide_eq_true cx3_
          refine sm_T_go 1 (c1 := (191, [some (.inr (.inr (some (1, 0)))), some (.inl mx_), some (.inl m_), none, none, none, none], [.inr (.inr (some (1, 0)))], S_)) rfl ?_
          cases qx4_ : S_.2.1 1 0 1 with
          | none =>
            exfalso; (rw [dsg_] at qx4_; cases qx4_)
          | some jx5_ =>
            refine sm_T_gr rfl rfl qx4_ ?_
            have jd_ : dd_ = jx5_ := by rw [dsg_] at qx4_; exact Option.some.inj qx4_
            refine sm_T_go 3 (c1 := (197, [some (.inr (.inr (some (1, 0)))), some (.inl mx_), some (.inl m_), none, none, none, none], [.inl 0, .inl mx_, .inr (.inr (some (1, 0))), .inr (.inr (some (3, jx5_)))], S_)) rfl ?_
            refine sm_T_cal (d1 := 0) (Q1 := vq_33 mx_ 0 b_ n_ A_ mm_ S_) rfl rfl (by decide) (vc_33 mx_ 0 b_ n_ A_ mm_ S_ hI_ (by omega) (by first | exact her1_ mm_ (Nat.le_refl _) | exact er1_fr (her_ mm_ (Nat.le_refl _)) hF_ rfl rfl rfl rfl rfl) (by exact hA_)) (fun u_ Sx6_ px9_ => ?_)
            obtain ⟨rfl, vx11_, rfl, px9_⟩ := px9_
            have b197_ := px9_
            have hIx12_ : gi (sm_pI S_ 3 jx5_ 1 vx11_) := gi_pI hI_ (show 0 ≤ vx11_ ∧ vx11_ ≤ 320 from ⟨by omega, by omega⟩)
            have hFx13_ : ai_fr (sx_W vw_32) S0_ (sm_pI S_ 3 jx5_ 1 vx11_) := ai_fr_tr hF_ (ai_fr_pI rfl)
            refine sm_T_go 2 (c1 := (204, [some (.inr (.inr (some (1, 0)))), some (.inl mx_), some (.inl m_), none, none, none, none], [.inr (.inr (some (1, 0)))], sm_pI S_ 3 jx5_ 1 vx11_)) rfl ?_
            refine sm_T_gr rfl rfl qx4_ ?_
            refine sm_T_go 3 (c1 := (212, [some (.inr (.inr (some (1, 0)))), some (.inl mx_), some (.inl m_), none, none, none, none], [.inl mx_, .inr (.inr (some (31, 0))), .inr (.inr (some (3, jx5_)))], sm_pI S_ 3 jx5_ 1 vx11_)) rfl ?_
            refine sm_T_iald (n := 16) rfl rfl (by omega) (by omega) ?_
            have bx14_ : 0 ≤ S_.2.2.1 31 0 mx_.toNat ∧ S_.2.2.1 31 0 mx_.toNat ≤ 100000 := hI_.2 31 0 _
            have hIx15_ : gi (sm_pI (sm_pI S_ 3 jx5_ 1 vx11_) 3 jx5_ 2 (S_.2.2.1 31 0 mx_.toNat)) := gi_pI hIx12_ (show 0 ≤ (S_.2.2.1 31 0 mx_.toNat) ∧ (S_.2.2.1 31 0 mx_.toNat) ≤ 100000 from ⟨by omega, by omega⟩)
            have hFx16_ : ai_fr (sx_W vw_32) S0_ (sm_pI (sm_pI S_ 3 jx5_ 1 vx11_) 3 jx5_ 2 (S_.2.2.1 31 0 mx_.toNat)) := ai_fr_tr hFx13_ (ai_fr_pI rfl)
            refine sm_T_go 2 (c1 := (217, [some (.inr (.inr (some (1, 0)))), some (.inl mx_), some (.inl m_), none, none, none, none], [.inr (.inr (some (1, 0)))], sm_pI (sm_pI S_ 3 jx5_ 1 vx11_) 3 jx5_ 2 (S_.2.2.1 31 0 mx_.toNat))) rfl ?_
            refine sm_T_gr rfl rfl qx4_ ?_
            refine sm_T_go 3 (c1 := (223, [some (.inr (.inr (some (1, 0)))), some (.inl mx_), some (.inl m_), none, none, none, none], [.inl 1, .inl mx_, .inr (.inr (some (1, 0))), .inr (.inr (some (3, jx5_)))], sm_pI (sm_pI S_ 3 jx5_ 1 vx11_) 3 jx5_ 2 (S_.2.2.1 31 0 mx_.toNat))) rfl ?_
            refine sm_T_cal (d1 := 0) (Q1 := vq_33 mx_ 1 b_ n_ A_ mm_ (sm_pI (sm_pI S_ 3 jx5_ 1 vx11_) 3 jx5_ 2 (S_.2.2.1 31 0 mx_.toNat))) rfl rfl (by decide) (vc_33 mx_ 1 b_ n_ A_ mm_ (sm_pI (sm_pI S_ 3 jx5_ 1 vx11_) 3 jx5_ 2 (S_.2.2.1 31 0 mx_.toNat)) hIx15_ (by omega) (by first | exact her1_ mm_ (Nat.le_refl _) | exact er1_fr (her_ mm_ (Nat.le_refl _)) hFx16_ rfl rfl rfl rfl rfl) (by exact hA_)) (fun u_ Sx17_ px20_ => ?_)
            obtain ⟨rfl, vx22_, rfl, px20_⟩ := px20_
            have b223_ := px20_
            have hIx23_ : gi (sm_pI (sm_pI (sm_pI S_ 3 jx5_ 1 vx11_) 3 jx5_ 2 (S_.2.2.1 31 0 mx_.toNat)) 3 jx5_ 3 vx22_) := gi_pI hIx15_ (show 0 ≤ vx22_ ∧ vx22_ ≤ 320 from ⟨by omega, by omega⟩)
            have hFx24_ : ai_fr (sx_W vw_32) S0_ (sm_pI (sm_pI (sm_pI S_ 3 jx5_ 1 vx11_) 3 jx5_ 2 (S_.2.2.1 31 0 mx_.toNat)) 3 jx5_ 3 vx22_) := ai_fr_tr hFx16_ (ai_fr_pI rfl)
            refine sm_T_go 2 (c1 := (230, [some (.inr (.inr (some (1, 0)))), some (.inl mx_), some (.inl m_), none, none, none, none], [.inr (.inr (some (1, 0)))], sm_pI (sm_pI (sm_pI S_ 3 jx5_ 1 vx11_) 3 jx5_ 2 (S_.2.2.1 31 0 mx_.toNat)) 3 jx5_ 3 vx22_)) rfl ?_
            refine sm_T_gr rfl rfl qx4_ ?_
            have ex25_ : (sm_pI (sm_pI (sm_pI S_ 3 jx5_ 1 vx11_) 3 jx5_ 2 (S_.2.2.1 31 0 mx_.toNat)) 3 jx5_ 3 vx22_).1 3 jx5_ 2 = (S_.2.2.1 31 0 mx_.toNat) := by (try simp only [rf_eq, rf_nk, rf_nt, rd_fa, rd_af, ne_eq, Nat.reduceEqDiff, not_false_eq_true])
            refine sm_T_go 2 (c1 := (238, [some (.inr (.inr (some (1, 0)))), some (.inl mx_), some (.inl m_), none, none, none, none], [.inl 6, .inl ((sm_pI (sm_pI (sm_pI S_ 3 jx5_ 1 vx11_) 3 jx5_ 2 (S_.2.2.1 31 0 mx_.toNat)) 3 jx5_ 3 vx22_).1 3 jx5_ 2)], sm_pI (sm_pI (sm_pI S_ 3 jx5_ 1 vx11_) 3 jx5_ 2 (S_.2.2.1 31 0 mx_.toNat)) 3 jx5_ 3 vx22_)) rfl ?_
            refine sm_T_br (a := 4) (z := 23) rfl (fun cx26_ => ?_) (fun cx26_ => ?_)
            · have cx26_ : 6 < ((sm_pI (sm_pI (sm_pI S_ 3 jx5_ 1 vx11_) 3 jx5_ 2 (S_.2.2.1 31 0 mx_.toNat)) 3 jx5_ 3 vx22_).1 3 jx5_ 2) := of_decide_eq_true cx26_
              refine sm_T_go 1 (c1 := (263, [some (.inr (.inr (some (1, 0)))), some (.inl mx_), some (.inl m_), none, none, none, none], [.inl 21], sm_pI (sm_pI (sm_pI S_ 3 jx5_ 1 vx11_) 3 jx5_ 2 (S_.2.2.1 31 0 mx_.toNat)) 3 jx5_ 3 vx22_)) rfl ?_
              refine sm_T_ri rfl ⟨_, _, rfl, _, rfl, hIx23_, hFx24_, ?_⟩
              refine ⟨?_, ?_, fun _ => ⟨?_, ?_, ?_⟩⟩
              · show _ = p_lm (S_.2.2.1 30 0 mm_) _ (S_.2.2.1 31 0 mm_) _
                unfold p_lm
                rw [← b197_.1, ← b223_.1, ← mI_]
                first | (rw [if_neg (by omega), if_pos (by omega)]) | (rw [if_neg (by omega), if_neg (by omega), if_pos (by omega)]) | (rw [if_neg (by omega), if_neg (by omega), if_neg (by omega)])
              · exact tb_
              · rw [jd_]; (try simp only [rd_eq, rd_ne, rf_eq, rf_nk, rf_nt, rd_fa, rd_af, rd_fl, rd_al, rd_lf, rd_la, rd_leq, rd_lne, rd_fr, rd_ar, ne_eq, Nat.reduceEqDiff, not_false_eq_true]); exact b197_.1
              · rw [jd_]; (try simp only [rd_eq, rd_ne, rf_eq, rf_nk, rf_nt, rd_fa, rd_af, rd_fl, rd_al, rd_lf, rd_la, rd_leq, rd_lne, rd_fr, rd_ar, ne_eq, Nat.reduceEqDiff, not_false_eq_true]); rw [mI_]
              · rw [jd_]; (try simp only [rd_eq, rd_ne, rf_eq, rf_nk, rf_nt, rd_fa, rd_af, rd_fl, rd_al, rd_lf, rd_la, rd_leq, rd_lne, rd_fr, rd_ar, ne_eq, Nat.reduceEqDiff, not_false_eq_true]); exact b223_.1
            · have cx26_ : ¬ (6 < ((sm_pI (sm_pI (sm_pI S_ 3 jx5_ 1 vx11_) 3 jx5_ 2 (S_.2.2.1 31 0 mx_.toNat)) 3 jx5_ 3 vx22_).1 3 jx5_ 2)) := of_decide_eq_false cx26_
              refine sm_T_go 1 (c1 := (242, [some (.inr (.inr (some (1, 0)))), some (.inl mx_), some (.inl m_), none, none, none, none], [.inr (.inr (some (1, 0)))], sm_pI (sm_pI (sm_pI S_ 3 jx5_ 1 vx11_) 3 jx5_ 2 (S_.2.2.1 31 0 mx_.toNat)) 3 jx5_ 3 vx22_)) rfl ?_
              refine sm_T_gr rfl rfl qx4_ ?_
              have ex27_ : (sm_pI (sm_pI (sm_pI S_ 3 jx5_ 1 vx11_) 3 jx5_ 2 (S_.2.2.1 31 0 mx_.toNat)) 3 jx5_ 3 vx22_).1 3 jx5_ 1 = vx11_ := by (try simp only [rf_eq, rf_nk, rf_nt, rd_fa, rd_af, ne_eq, Nat.reduceEqDiff, not_false_eq_true])
              refine sm_T_go 2 (c1 := (249, [some (.inr (.inr (some (1, 0)))), some (.inl mx_), some (.inl m_), none, none, none, none], [.inr (.inr (some (1, 0))), .inl ((sm_pI (sm_pI (sm_pI S_ 3 jx5_ 1 vx11_) 3 jx5_ 2 (S_.2.2.1 31 0 mx_.toNat)) 3 jx5_ 3 vx22_).1 3 jx5_ 1)], sm_pI (sm_pI (sm_pI S_ 3 jx5_ 1 vx11_) 3 jx5_ 2 (S_.2.2.1 31 0 mx_.toNat)) 3 jx5_ 3 vx22_)) rfl ?_
              refine sm_T_gr rfl rfl qx4_ ?_
              have ex28_ : (sm_pI (sm_pI (sm_pI S_ 3 jx5_ 1 vx11_) 3 jx5_ 2 (S_.2.2.1 31 0 mx_.toNat)) 3 jx5_ 3 vx22_).1 3 jx5_ 2 = (S_.2.2.1 31 0 mx_.toNat) := by (try simp only [rf_eq, rf_nk, rf_nt, rd_fa, rd_af, ne_eq, Nat.reduceEqDiff, not_false_eq_true])
              refine sm_T_go 1 (c1 := (255, [some (.inr (.inr (some (1, 0)))), some (.inl mx_), some (.inl m_), none, none, none, none], [.inl ((sm_pI (sm_pI (sm_pI S_ 3 jx5_ 1 vx11_) 3 jx5_ 2 (S_.2.2.1 31 0 mx_.toNat)) 3 jx5_ 3 vx22_).1 3 jx5_ 2), .inl ((sm_pI (sm_pI (sm_pI S_ 3 jx5_ 1 vx11_) 3 jx5_ 2 (S_.2.2.1 31 0 mx_.toNat)) 3 jx5_ 3 vx22_).1 3 jx5_ 1)], sm_pI (sm_pI (sm_pI S_ 3 jx5_ 1 vx11_) 3 jx5_ 2 (S_.2.2.1 31 0 mx_.toNat)) 3 jx5_ 3 vx22_)) rfl ?_
              refine sm_T_bin (w := ((sm_pI (sm_pI (sm_pI S_ 3 jx5_ 1 vx11_) 3 jx5_ 2 (S_.2.2.1 31 0 mx_.toNat)) 3 jx5_ 3 vx22_).1 3 jx5_ 1) + ((sm_pI (sm_pI (sm_pI S_ 3 jx5_ 1 vx11_) 3 jx5_ 2 (S_.2.2.1 31 0 mx_.toNat)) 3 jx5_ 3 vx22_).1 3 jx5_ 2)) rfl (bi_add (by omega) (by omega) (by omega)) ?_
              refine sm_T_go 1 (c1 := (258, [some (.inr (.inr (some (1, 0)))), some (.inl mx_), some (.inl m_), none, none, none, none], [.inl 12, .inl (((sm_pI (sm_pI (sm_pI S_ 3 jx5_ 1 vx11_) 3 jx5_ 2 (S_.2.2.1 31 0 mx_.toNat)) 3 jx5_ 3 vx22_).1 3 jx5_ 1) + ((sm_pI (sm_pI (sm_pI S_ 3 jx5_ 1 vx11_) 3 jx5_ 2 (S_.2.2.1 31 0 mx_.toNat)) 3 jx5_ 3 vx22_).1 3 jx5_ 2))], sm_pI (sm_pI (sm_pI S_ 3 jx5_ 1 vx11_) 3 jx5_ 2 (S_.2.2.1 31 0 mx_.toNat)) 3 jx5_ 3 vx22_)) rfl ?_
              refine sm_T_br (a := 5) (z := 6) rfl (fun cx29_ => ?_) (fun cx29_ => ?_)
              · have cx29_ : ((sm_pI (sm_pI (sm_pI S_ 3 jx5_ 1 vx11_) 3 jx5_ 2 (S_.2.2.1 31 0 mx_.toNat)) 3 jx5_ 3 vx22_).1 3 jx5_ 1) + ((sm_pI (sm_pI (sm_pI S_ 3 jx5_ 1 vx11_) 3 jx5_ 2 (S_.2.2.1 31 0 mx_.toNat)) 3 jx5_ 3 vx22_).1 3 jx5_ 2) ≤ 12 := of_decide_eq_true cx29_
                refine sm_T_go 1 (c1 := (265, [some (.inr (.inr (some (1, 0)))), some (.inl mx_), some (.inl m_), none, none, none, none], [.inr (.inr (some (1, 0)))], sm_pI (sm_pI (sm_pI S_ 3 jx5_ 1 vx11_) 3 jx5_ 2 (S_.2.2.1 31 0 mx_.toNat)) 3 jx5_ 3 vx22_)) rfl ?_
                refine sm_T_gr rfl rfl qx4_ ?_
                have ex30_ : (sm_pI (sm_pI (sm_pI S_ 3 jx5_ 1 vx11_) 3 jx5_ 2 (S_.2.2.1 31 0 mx_.toNat)) 3 jx5_ 3 vx22_).1 3 jx5_ 3 = vx22_ := by (try simp only [rf_eq, rf_nk, rf_nt, rd_fa, rd_af, ne_eq, Nat.reduceEqDiff, not_false_eq_true])
                refine sm_T_go 2 (c1 := (272, [some (.inr (.inr (some (1, 0)))), some (.inl mx_), some (.inl m_), none, none, none, none], [.inl 1, .inl ((sm_pI (sm_pI (sm_pI S_ 3 jx5_ 1 vx11_) 3 jx5_ 2 (S_.2.2.1 31 0 mx_.toNat)) 3 jx5_ 3 vx22_).1 3 jx5_ 3)], sm_pI (sm_pI (sm_pI S_ 3 jx5_ 1 vx11_) 3 jx5_ 2 (S_.2.2.1 31 0 mx_.toNat)) 3 jx5_ 3 vx22_)) rfl ?_
                refine sm_T_br (a := 2) (z := 15) rfl (fun cx31_ => ?_) (fun cx31_ => ?_)
                · have cx31_ : ((sm_pI (sm_pI (sm_pI S_ 3 jx5_ 1 vx11_) 3 jx5_ 2 (S_.2.2.1 31 0 mx_.toNat)) 3 jx5_ 3 vx22_).1 3 jx5_ 3) < 1 := of_decide_eq_true cx31_
                  refine sm_T_go 2 (c1 := (293, [some (.inr (.inr (some (1, 0)))), some (.inl mx_), some (.inl m_), none, none, none, none], [.inl 22], sm_pI (sm_pI (sm_pI S_ 3 jx5_ 1 vx11_) 3 jx5_ 2 (S_.2.2.1 31 0 mx_.toNat)) 3 jx5_ 3 vx22_)) rfl ?_
                  refine sm_T_ri rfl ⟨_, _, rfl, _, rfl, hIx23_, hFx24_, ?_⟩
                  refine ⟨?_, ?_, fun _ => ⟨?_, ?_, ?_⟩⟩
                  · show _ = p_lm (S_.2.2.1 30 0 mm_) _ (S_.2.2.1 31 0 mm_) _
                    unfold p_lm
                    rw [← b197_.1, ← b223_.1, ← mI_]
                    first | (rw [if_neg (by omega), if_pos (by omega)]) | (rw [if_neg (by omega), if_neg (by omega), if_pos (by omega)]) | (rw [if_neg (by omega), if_neg (by omega), if_neg (by omega)])
                  · exact tb_
                  · rw [jd_]; (try simp only [rd_eq, rd_ne, rf_eq, rf_nk, rf_nt, rd_fa, rd_af, rd_fl, rd_al, rd_lf, rd_la, rd_leq, rd_lne, rd_fr, rd_ar, ne_eq, Nat.reduceEqDiff, not_false_eq_true]); exact b197_.1
                  · rw [jd_]; (try simp only [rd_eq, rd_ne, rf_eq, rf_nk, rf_nt, rd_fa, rd_af, rd_fl, rd_al, rd_lf, rd_la, rd_leq, rd_lne, rd_fr, rd_ar, ne_eq, Nat.reduceEqDiff, not_false_eq_true]); rw [mI_]
                  · rw [jd_]; (try simp only [rd_eq, rd_ne, rf_eq, rf_nk, rf_nt, rd_fa, rd_af, rd_fl, rd_al, rd_lf, rd_la, rd_leq, rd_lne, rd_fr, rd_ar, ne_eq, Nat.reduceEqDiff, not_false_eq_true]); exact b223_.1
                · have cx31_ : ¬ (((sm_pI (sm_pI (sm_pI S_ 3 jx5_ 1 vx11_) 3 jx5_ 2 (S_.2.2.1 31 0 mx_.toNat)) 3 jx5_ 3 vx22_).1 3 jx5_ 3) < 1) := of_decide_eq_false cx31_
                  refine sm_T_go 1 (c1 := (276, [some (.inr (.inr (some (1, 0)))), some (.inl mx_), some (.inl m_), none, none, none, none], [.inr (.inr (some (1, 0)))], sm_pI (sm_pI (sm_pI S_ 3 jx5_ 1 vx11_) 3 jx5_ 2 (S_.2.2.1 31 0 mx_.toNat)) 3 jx5_ 3 vx22_)) rfl ?_
                  refine sm_T_gr rfl rfl qx4_ ?_
                  have ex32_ : (sm_pI (sm_pI (sm_pI S_ 3 jx5_ 1 vx11_) 3 jx5_ 2 (S_.2.2.1 31 0 mx_.toNat)) 3 jx5_ 3 vx22_).1 3 jx5_ 3 = vx22_ := by (try simp only [rf_eq, rf_nk, rf_nt, rd_fa, rd_af, ne_eq, Nat.reduceEqDiff, not_false_eq_true])
                  refine sm_T_go 2 (c1 := (284, [some (.inr (.inr (some (1, 0)))), some (.inl mx_), some (.inl m_), none, none, none, none], [.inl 16, .inl ((sm_pI (sm_pI (sm_pI S_ 3 jx5_ 1 vx11_) 3 jx5_ 2 (S_.2.2.1 31 0 mx_.toNat)) 3 jx5_ 3 vx22_).1 3 jx5_ 3)], sm_pI (sm_pI (sm_pI S_ 3 jx5_ 1 vx11_) 3 jx5_ 2 (S_.2.2.1 31 0 mx_.toNat)) 3 jx5_ 3 vx22_)) rfl ?_
                  refine sm_T_br (a := 5) (z := 8) rfl (fun cx33_ => ?_) (fun cx33_ => ?_)
                  · have cx33_ : ((sm_pI (sm_pI (sm_pI S_ 3 jx5_ 1 vx11_) 3 jx5_ 2 (S_.2.2.1 31 0 mx_.toNat)) 3 jx5_ 3 vx22_).1 3 jx5_ 3) ≤ 16 := of_decide_eq_true cx33_
                    refine sm_T_go 1 (c1 := (293, [some (.inr (.inr (some (1, 0)))), some (.inl mx_), some (.inl m_), none, none, none, none], [.inl 0], sm_pI (sm_pI (sm_pI S_ 3 jx5_ 1 vx11_) 3 jx5_ 2 (S_.2.2.1 31 0 mx_.toNat)) 3 jx5_ 3 vx22_)) rfl ?_
                    refine sm_T_ri rfl ⟨_, _, rfl, _, rfl, hIx23_, hFx24_, ?_⟩
                    refine ⟨?_, ?_, fun _ => ⟨?_, ?_, ?_⟩⟩
                    · show _ = p_lm (S_.2.2.1 30 0 mm_) _ (S_.2.2.1 31 0 mm_) _
                      unfold p_lm
                      rw [← b197_.1, ← b223_.1, ← mI_]
                      first | (rw [if_neg (by omega), if_pos (by omega)]) | (rw [if_neg (by omega), if_neg (by omega), if_pos (by omega)]) | (rw [if_neg (by omega), if_neg (by omega), if_neg (by omega)])
                    · exact tb_
                    · rw [jd_]; (try simp only [rd_eq, rd_ne, rf_eq, rf_nk, rf_nt, rd_fa, rd_af, rd_fl, rd_al, rd_lf, rd_la, rd_leq, rd_lne, rd_fr, rd_ar, ne_eq, Nat.reduceEqDiff, not_false_eq_true]); exact b197_.1
                    · rw [jd_]; (try simp only [rd_eq, rd_ne, rf_eq, rf_nk, rf_nt, rd_fa, rd_af, rd_fl, rd_al, rd_lf, rd_la, rd_leq, rd_lne, rd_fr, rd_ar, ne_eq, Nat.reduceEqDiff, not_false_eq_true]); rw [mI_]
                    · rw [jd_]; (try simp only [rd_eq, rd_ne, rf_eq, rf_nk, rf_nt, rd_fa, rd_af, rd_fl, rd_al, rd_lf, rd_la, rd_leq, rd_lne, rd_fr, rd_ar, ne_eq, Nat.reduceEqDiff, not_false_eq_true]); exact b223_.1
                  · have cx33_ : ¬ (((sm_pI (sm_pI (sm_pI S_ 3 jx5_ 1 vx11_) 3 jx5_ 2 (S_.2.2.1 31 0 mx_.toNat)) 3 jx5_ 3 vx22_).1 3 jx5_ 3) ≤ 16) := of_decide_eq_false cx33_
                    refine sm_T_go 2 (c1 := (293, [some (.inr (.inr (some (1, 0)))), some (.inl mx_), some (.inl m_), none, none, none, none], [.inl 22], sm_pI (sm_pI (sm_pI S_ 3 jx5_ 1 vx11_) 3 jx5_ 2 (S_.2.2.1 31 0 mx_.toNat)) 3 jx5_ 3 vx22_)) rfl ?_
                    refine sm_T_ri rfl ⟨_, _, rfl, _, rfl, hIx23_, hFx24_, ?_⟩
                    refine ⟨?_, ?_, fun _ => ⟨?_, ?_, ?_⟩⟩
                    · show _ = p_lm (S_.2.2.1 30 0 mm_) _ (S_.2.2.1 31 0 mm_) _
                      unfold p_lm
                      rw [← b197_.1, ← b223_.1, ← mI_]
                      first | (rw [if_neg (by omega), if_pos (by omega)]) | (rw [if_neg (by omega), if_neg (by omega), if_pos (by omega)]) | (rw [if_neg (by omega), if_neg (by omega), if_neg (by omega)])
                    · exact tb_
                    · rw [jd_]; (try simp only [rd_eq, rd_ne, rf_eq, rf_nk, rf_nt, rd_fa, rd_af, rd_fl, rd_al, rd_lf, rd_la, rd_leq, rd_lne, rd_fr, rd_ar, ne_eq, Nat.reduceEqDiff, not_false_eq_true]); exact b197_.1
                    · rw [jd_]; (try simp only [rd_eq, rd_ne, rf_eq, rf_nk, rf_nt, rd_fa, rd_af, rd_fl, rd_al, rd_lf, rd_la, rd_leq, rd_lne, rd_fr, rd_ar, ne_eq, Nat.reduceEqDiff, not_false_eq_true]); rw [mI_]
                    · rw [jd_]; (try simp only [rd_eq, rd_ne, rf_eq, rf_nk, rf_nt, rd_fa, rd_af, rd_fl, rd_al, rd_lf, rd_la, rd_leq, rd_lne, rd_fr, rd_ar, ne_eq, Nat.reduceEqDiff, not_false_eq_true]); exact b223_.1
              · have cx29_ : ¬ (((sm_pI (sm_pI (sm_pI S_ 3 jx5_ 1 vx11_) 3 jx5_ 2 (S_.2.2.1 31 0 mx_.toNat)) 3 jx5_ 3 vx22_).1 3 jx5_ 1) + ((sm_pI (sm_pI (sm_pI S_ 3 jx5_ 1 vx11_) 3 jx5_ 2 (S_.2.2.1 31 0 mx_.toNat)) 3 jx5_ 3 vx22_).1 3 jx5_ 2) ≤ 12) := of_decide_eq_false cx29_
                refine sm_T_go 1 (c1 := (263, [some (.inr (.inr (some (1, 0)))), some (.inl mx_), some (.inl m_), none, none, none, none], [.inl 21], sm_pI (sm_pI (sm_pI S_ 3 jx5_ 1 vx11_) 3 jx5_ 2 (S_.2.2.1 31 0 mx_.toNat)) 3 jx5_ 3 vx22_)) rfl ?_
                refine sm_T_ri rfl ⟨_, _, rfl, _, rfl, hIx23_, hFx24_, ?_⟩
                refine ⟨?_, ?_, fun _ => ⟨?_, ?_, ?_⟩⟩
                · show _ = p_lm (S_.2.2.1 30 0 mm_) _ (S_.2.2.1 31 0 mm_) _
                  unfold p_lm
                  rw [← b197_.1, ← b223_.1, ← mI_]
                  first | (rw [if_neg (by omega), if_pos (by omega)]) | (rw [if_neg (by omega), if_neg (by omega), if_pos (by omega)]) | (rw [if_neg (by omega), if_neg (by omega), if_neg (by omega)])
                · exact tb_
                · rw [jd_]; (try simp only [rd_eq, rd_ne, rf_eq, rf_nk, rf_nt, rd_fa, rd_af, rd_fl, rd_al, rd_lf, rd_la, rd_leq, rd_lne, rd_fr, rd_ar, ne_eq, Nat.reduceEqDiff, not_false_eq_true]); exact b197_.1
                · rw [jd_]; (try simp only [rd_eq, rd_ne, rf_eq, rf_nk, rf_nt, rd_fa, rd_af, rd_fl, rd_al, rd_lf, rd_la, rd_leq, rd_lne, rd_fr, rd_ar, ne_eq, Nat.reduceEqDiff, not_false_eq_true]); rw [mI_]
                · rw [jd_]; (try simp only [rd_eq, rd_ne, rf_eq, rf_nk, rf_nt, rd_fa, rd_af, rd_fl, rd_al, rd_lf, rd_la, rd_leq, rd_lne, rd_fr, rd_ar, ne_eq, Nat.reduceEqDiff, not_false_eq_true]); exact b223_.1
        · have cx3_ : ¬ ((S_.2.2.1 30 0 mx_.toNat) ≤ 200) := of_decide_eq_false cx3_
          refine sm_T_go 1 (c1 := (189, [some (.inr (.inr (some (1, 0)))), some (.inl mx_), some (.inl m_), none, none, none, none], [.inl 20], S_)) rfl ?_
          refine sm_T_ri rfl ⟨_, _, rfl, _, rfl, hI_, hF_, ?_⟩
          refine ⟨?_, tb_, fun z_ => absurd rfl z_⟩
          unfold p_lm; rw [← mI_, if_pos (by omega)]
      · have cx1_ : ¬ (mx_ < m_) := of_decide_eq_false cx1_
        refine sm_T_go 6 (c1 := (15, [some (.inr (.inr (some (1, 0)))), some (.inl mx_), some (.inl m_), some (.inl 0), some (.inl 0), some (.inl 0), none], [], S_)) rfl ?_
        refine ih_.2 m_ 0 0 0 S_ hI_ hF_ ⟨?_, ?_, ?_, ?_, ?_, ?_, trivial⟩ ?_
        · omega
        · omega
        · rfl
        · rfl
        · omega
        · exact h1_
        · omega
    · rintro m_ us_ bi_ s_ S_ hI_ hF_ ⟨h0_, hs_, hu_, hb_, hub_, h1_, -⟩ hm_
      have her1_ : ∀ k_, k_ ≤ mm_ → er1 b_ n_ A_ k_ S_ := fun k_ hk_ => er1_fr (her_ k_ hk_) hF_ rfl rfl rfl rfl rfl
      have dsg_ : S_.2.1 1 0 1 = some dd_ := (hF_.2.1 1 0 1 rfl).trans hd_
      have cn_ : S_.2.2.1 77 0 m_.toNat = (A_.1 m_.toNat : Int) := (her1_ m_.toNat (by omega)).1
      have aM_ := hA_.2 m_.toNat (by omega)
      have A40_ := aM_.1
      have rw1_ : s_ < (A_.1 m_.toNat : Int) → S_.2.2.1 79 0 (40 * m_ + s_).toNat = A_.2.2.1 (40 * m_.toNat + s_.toNat) ∧ S_.2.2.1 80 0 (40 * m_ + s_).toNat = A_.2.2.2.1 (40 * m_.toNat + s_.toNat) ∧ S_.2.2.1 81 0 (40 * m_ + s_).toNat = A_.2.2.2.2 (40 * m_.toNat + s_.toNat) := by intro z_; rw [show (40 * m_ + s_).toNat = 40 * m_.toNat + s_.toNat by omega]; exact ((her1_ m_.toNat (by omega)).2 s_.toNat (by omega)).2
      have ok1_ : s_ < (A_.1 m_.toNat : Int) → (A_.2.2.1 (40 * m_.toNat + s_.toNat) = 5 → 0 ≤ A_.2.2.2.2 (40 * m_.toNat + s_.toNat) ∧ A_.2.2.2.2 (40 * m_.toNat + s_.toNat) < m_) ∧ 0 ≤ A_.2.2.2.1 (40 * m_.toNat + s_.toNat) ∧ A_.2.2.2.1 (40 * m_.toNat + s_.toNat) ≤ 8 := by intro z_; have y_ := aM_.2 s_.toNat (by omega); exact ⟨fun w_ => by have := y_.2.2.2.2.1 w_; omega, y_.2.2.1⟩
      refine sm_T_go 5 (c1 := (25, [some (.inr (.inr (some (1, 0)))), some (.inl mx_), some (.inl m_), some (.inl us_), some (.inl bi_), some (.inl s_), none], [.inl m_, .inr (.inr (some (77, 0))), .inl s_], S_)) rfl ?_
      refine sm_T_iald (n := 17) rfl rfl (by omega) (by omega) ?_
      have bx1_ : 0 ≤ S_.2.2.1 77 0 m_.toNat ∧ S_.2.2.1 77 0 m_.toNat ≤ 40 := hI_.2 77 0 _
      refine sm_T_br (a := 3) (z := 118) rfl (fun cx2_ => ?_) (fun cx2_ => ?_)
      · have cx2_ : (S_.2.2.1 77 0 m_.toNat) ≤ s_ := of_decide_eq_true cx2_
        refine sm_T_go 4 (c1 := (150, [some (.inr (.inr (some (1, 0)))), some (.inl mx_), some (.inl m_), some (.inl us_), some (.inl bi_), some (.inl s_), none], [.inl us_, .inl m_, .inr (.inr (some (30, 0)))], S_)) rfl ?_
        refine sm_T_nt (u := some (.inl 100000)) (S1 := S_) rfl rfl rfl ?_
        refine sm_T_nt (u := some (.inl (sm_mn us_ 100000))) (S1 := S_) rfl rfl rfl ?_
        have bx3_ := sm_mn_d us_ 100000
        refine sm_T_iast (n := 16) rfl rfl (by omega) (by omega) ?_
        have hIx4_ : gi (sm_aI S_ 30 0 m_.toNat (sm_mn us_ 100000)) := gi_aI hI_ (show 0 ≤ (sm_mn us_ 100000) ∧ (sm_mn us_ 100000) ≤ 100000 from ⟨by omega, by omega⟩)
        have hFx5_ : ai_fr (sx_W vw_32) S0_ (sm_aI S_ 30 0 m_.toNat (sm_mn us_ 100000)) := ai_fr_tr hF_ (ai_fr_aI rfl)
        refine sm_T_go 4 (c1 := (163, [some (.inr (.inr (some (1, 0)))), some (.inl mx_), some (.inl m_), some (.inl us_), some (.inl bi_), some (.inl s_), none], [.inl bi_, .inl m_, .inr (.inr (some (31, 0)))], sm_aI S_ 30 0 m_.toNat (sm_mn us_ 100000))) rfl ?_
        refine sm_T_nt (u := some (.inl 100000)) (S1 := sm_aI S_ 30 0 m_.toNat (sm_mn us_ 100000)) rfl rfl rfl ?_
        refine sm_T_nt (u := some (.inl (sm_mn bi_ 100000))) (S1 := sm_aI S_ 30 0 m_.toNat (sm_mn us_ 100000)) rfl rfl rfl ?_
        have bx6_ := sm_mn_d bi_ 100000
        refine sm_T_iast (n := 16) rfl rfl (by omega) (by omega) ?_
        have hIx7_ : gi (sm_aI (sm_aI S_ 30 0 m_.toNat (sm_mn us_ 100000)) 31 0 m_.toNat (sm_mn bi_ 100000)) := gi_aI hIx4_ (show 0 ≤ (sm_mn bi_ 100000) ∧ (sm_mn bi_ 100000) ≤ 100000 from ⟨by omega, by omega⟩)
        have hFx8_ : ai_fr (sx_W vw_32) S0_ (sm_aI (sm_aI S_ 30 0 m_.toNat (sm_mn us_ 100000)) 31 0 m_.toNat (sm_mn bi_ 100000)) := ai_fr_tr hFx5_ (ai_fr_aI rfl)
        refine sm_T_inc (a := 2) (z := 1) (v := m_) (w := m_ + 1) rfl rfl (by omega) (by omega) (by omega) ?_
        refine sm_T_go 1 (c1 := (2, [some (.inr (.inr (some (1, 0)))), some (.inl mx_), some (.inl (m_ + 1)), some (.inl us_), some (.inl bi_), some (.inl s_), none], [], sm_aI (sm_aI S_ 30 0 m_.toNat (sm_mn us_ 100000)) 31 0 m_.toNat (sm_mn bi_ 100000))) rfl ?_
        refine sm_T_wk [some (.inr (.inr (some (1, 0)))), some (.inl mx_), some (.inl (m_ + 1)), none, none, none, none] (by exact ⟨rfl, rfl, rfl, trivial⟩) ?_
        refine ih_.1 (m_ + 1) (sm_aI (sm_aI S_ 30 0 m_.toNat (sm_mn us_ 100000)) 31 0 m_.toNat (sm_mn bi_ 100000)) hIx7_ hFx8_ ⟨?_, ?_, trivial⟩ ?_
        · omega
        · rw [show (m_ + 1).toNat = m_.toNat + 1 by omega]
          have es_ : s_.toNat = A_.1 m_.toNat := by omega
          rw [es_] at hu_ hb_
          exact lt1_up (a_ok_le hA_ (by omega)) h1_ (fun j_ => by rw [rd_ne (by decide), rd_eq, sm_mc, hu_]) (fun j_ => by rw [rd_eq, rd_ne (by decide), sm_mc, hb_])
        · omega
      · have cx2_ : ¬ ((S_.2.2.1 77 0 m_.toNat) ≤ s_) := of_decide_eq_false cx2_
        obtain ⟨r79_, r80_, r81_⟩ := rw1_ (by omega)
        obtain ⟨ok5_, okw_⟩ := ok1_ (by omega)
        refine sm_T_go 2 (c1 := (32, [some (.inr (.inr (some (1, 0)))), some (.inl mx_), some (.inl m_), some (.inl us_), some (.inl bi_), some (.inl s_), none], [.inl 40, .inl m_], S_)) rfl ?_
        refine sm_T_bin (w := 40 * m_) rfl (bi_mul (by omega) (by omega) (by omega)) ?_
        refine sm_T_go 1 (c1 := (35, [some (.inr (.inr (some (1, 0)))), some (.inl mx_), some (.inl m_), some (.inl us_), some (.inl bi_), some (.inl s_), none], [.inl s_, .inl (40 * m_)], S_)) rfl ?_
        refine sm_T_bin (w := 40 * m_ + s_) rfl (bi_add (by omega) (by omega) (by omega)) ?_
        refine sm_T_go 5 (c1 := (47, [some (.inr (.inr (some (1, 0)))), some (.inl mx_), some (.inl m_), some (.inl us_), some (.inl bi_), some (.inl s_), some (.inl (40 * m_ + s_))], [.inl (40 * m_ + s_), .inr (.inr (some (79, 0)))], S_)) rfl ?_
        refine sm_T_iald (n := 640) rfl rfl (by omega) (by omega) ?_
        have bx9_ : 0 ≤ S_.2.2.1 79 0 (40 * m_ + s_).toNat ∧ S_.2.2.1 79 0 (40 * m_ + s_).toNat ≤ 5 := hI_.2 79 0 _
        refine sm_T_go 1 (c1 := (49, [some (.inr (.inr (some (1, 0)))), some (.inl mx_), some (.inl m_), some (.inl us_), some (.inl bi_), some (.inl s_), some (.inl (40 * m_ + s_))], [.inl 5, .inl (S_.2.2.1 79 0 (40 * m_ + s_).toNat)], S_)) rfl ?_
        refine sm_T_br (a := 1) (z := 46) rfl (fun cx10_ => ?_) (fun cx10_ => ?_)
        · have cx10_ : (S_.2.2.1 79 0 (40 * m_ + s_).toNat) ≠ 5 := of_decide_eq_true cx10_
          refine sm_T_go 4 (c1 := (104, [some (.inr (.inr (some (1, 0)))), some (.inl mx_), some (.inl m_), some (.inl us_), some (.inl bi_), some (.inl s_), some (.inl (40 * m_ + s_))], [.inl (40 * m_ + s_), .inr (.inr (some (79, 0)))], S_)) rfl ?_
          refine sm_T_iald (n := 640) rfl rfl (by omega) (by omega) ?_
          refine sm_T_go 1 (c1 := (106, [some (.inr (.inr (some (1, 0)))), some (.inl mx_), some (.inl m_), some (.inl us_), some (.inl bi_), some (.inl s_), some (.inl (40 * m_ + s_))], [.inl 3, .inl (S_.2.2.1 79 0 (40 * m_ + s_).toNat)], S_)) rfl ?_
          refine sm_T_br (a := 0) (z := 17) rfl (fun cx11_ => ?_) (fun cx11_ => ?_)
          · have cx11_ : (S_.2.2.1 79 0 (40 * m_ + s_).toNat) = 3 := of_decide_eq_true cx11_
            refine sm_T_go 5 (c1 := (134, [some (.inr (.inr (some (1, 0)))), some (.inl mx_), some (.inl m_), some (.inl us_), some (.inl bi_), some (.inl s_), some (.inl (40 * m_ + s_))], [.inl (40 * m_ + s_), .inr (.inr (some (80, 0))), .inl bi_], S_)) rfl ?_
            refine sm_T_iald (n := 640) rfl rfl (by omega) (by omega) ?_
            have bx12_ : 0 ≤ S_.2.2.1 80 0 (40 * m_ + s_).toNat ∧ S_.2.2.1 80 0 (40 * m_ + s_).toNat ≤ 8 := hI_.2 80 0 _
            refine sm_T_bin (w := bi_ + (S_.2.2.1 80 0 (40 * m_ + s_).toNat)) rfl (bi_add (by omega) (by omega) (by omega)) ?_
            refine sm_T_go 1 (c1 := (138, [some (.inr (.inr (some (1, 0)))), some (.inl mx_), some (.inl m_), some (.inl us_), some (.inl (bi_ + (S_.2.2.1 80 0 (40 * m_ + s_).toNat))), some (.inl s_), some (.inl (40 * m_ + s_))], [], S_)) rfl ?_
            refine sm_T_inc (a := 5) (z := 1) (v := s_) (w := s_ + 1) rfl rfl (by omega) (by omega) (by omega) ?_
            refine sm_T_go 1 (c1 := (15, [some (.inr (.inr (some (1, 0)))), some (.inl mx_), some (.inl m_), some (.inl us_), some (.inl (bi_ + (S_.2.2.1 80 0 (40 * m_ + s_).toNat))), some (.inl (s_ + 1)), some (.inl (40 * m_ + s_))], [], S_)) rfl ?_
            refine sm_T_wk [some (.inr (.inr (some (1, 0)))), some (.inl mx_), some (.inl m_), some (.inl us_), some (.inl (bi_ + (S_.2.2.1 80 0 (40 * m_ + s_).toNat))), some (.inl (s_ + 1)), none] (by exact ⟨rfl, rfl, rfl, rfl, rfl, rfl, trivial⟩) ?_
            refine ih_.2 m_ us_ (bi_ + (S_.2.2.1 80 0 (40 * m_ + s_).toNat)) (s_ + 1) S_ hI_ hF_ ⟨?_, ?_, ?_, ?_, ?_, ?_, trivial⟩ ?_
            · omega
            · omega
            · rw [show (s_ + 1).toNat = s_.toNat + 1 by omega]
              show _ = su (t_is (S_.2.2.1 30 0) A_ m_.toNat) s_.toNat + (if A_.2.2.1 (40 * m_.toNat + s_.toNat) = 5 then 1 + S_.2.2.1 30 0 (A_.2.2.2.2 (40 * m_.toNat + s_.toNat)).toNat else 0)
              first | (rw [if_pos (by omega), ← r81_]; omega) | (rw [if_neg (by omega)]; omega)
            · rw [show (s_ + 1).toNat = s_.toNat + 1 by omega]
              show _ = su (t_rg (S_.2.2.1 31 0) A_ m_.toNat) s_.toNat + (if A_.2.2.1 (40 * m_.toNat + s_.toNat) = 3 ∨ A_.2.2.1 (40 * m_.toNat + s_.toNat) = 4 then A_.2.2.2.1 (40 * m_.toNat + s_.toNat) else if A_.2.2.1 (40 * m_.toNat + s_.toNat) = 5 then S_.2.2.1 31 0 (A_.2.2.2.2 (40 * m_.toNat + s_.toNat)).toNat else 0)
              first | (rw [if_pos (by omega)]; omega) | (rw [if_neg (by omega), if_pos (by omega), ← r81_]; omega) | (rw [if_neg (by omega), if_neg (by omega)]; omega)
            · omega
            · exact h1_
            · omega
          · have cx11_ : ¬ ((S_.2.2.1 79 0 (40 * m_ + s_).toNat) = 3) := of_decide_eq_false cx11_
            refine sm_T_go 4 (c1 := (118, [some (.inr (.inr (some (1, 0)))), some (.inl mx_), some (.inl m_), some (.inl us_), some (.inl bi_), some (.inl s_), some (.inl (40 * m_ + s_))], [.inl (40 * m_ + s_), .inr (.inr (some (79, 0)))], S_)) rfl ?_
            refine sm_T_iald (n := 640) rfl rfl (by omega) (by omega) ?_
            refine sm_T_go 1 (c1 := (120, [some (.inr (.inr (some (1, 0)))), some (.inl mx_), some (.inl m_), some (.inl us_), some (.inl bi_), some (.inl s_), some (.inl (40 * m_ + s_))], [.inl 4, .inl (S_.2.2.1 79 0 (40 * m_ + s_).toNat)], S_)) rfl ?_
            refine sm_T_br (a := 1) (z := 18) rfl (fun cx13_ => ?_) (fun cx13_ => ?_)
            · have cx13_ : (S_.2.2.1 79 0 (40 * m_ + s_).toNat) ≠ 4 := of_decide_eq_true cx13_
              refine sm_T_inc (a := 5) (z := 1) (v := s_) (w := s_ + 1) rfl rfl (by omega) (by omega) (by omega) ?_
              refine sm_T_go 1 (c1 := (15, [some (.inr (.inr (some (1, 0)))), some (.inl mx_), some (.inl m_), some (.inl us_), some (.inl bi_), some (.inl (s_ + 1)), some (.inl (40 * m_ + s_))], [], S_)) rfl ?_
              refine sm_T_wk [some (.inr (.inr (some (1, 0)))), some (.inl mx_), some (.inl m_), some (.inl us_), some (.inl bi_), some (.inl (s_ + 1)), none] (by exact ⟨rfl, rfl, rfl, rfl, rfl, rfl, trivial⟩) ?_
              refine ih_.2 m_ us_ bi_ (s_ + 1) S_ hI_ hF_ ⟨?_, ?_, ?_, ?_, ?_, ?_, trivial⟩ ?_
              · omega
              · omega
              · rw [show (s_ + 1).toNat = s_.toNat + 1 by omega]
                show _ = su (t_is (S_.2.2.1 30 0) A_ m_.toNat) s_.toNat + (if A_.2.2.1 (40 * m_.toNat + s_.toNat) = 5 then 1 + S_.2.2.1 30 0 (A_.2.2.2.2 (40 * m_.toNat + s_.toNat)).toNat else 0)
                first | (rw [if_pos (by omega), ← r81_]; omega) | (rw [if_neg (by omega)]; omega)
              · rw [show (s_ + 1).toNat = s_.toNat + 1 by omega]
                show _ = su (t_rg (S_.2.2.1 31 0) A_ m_.toNat) s_.toNat + (if A_.2.2.1 (40 * m_.toNat + s_.toNat) = 3 ∨ A_.2.2.1 (40 * m_.toNat + s_.toNat) = 4 then A_.2.2.2.1 (40 * m_.toNat + s_.toNat) else if A_.2.2.1 (40 * m_.toNat + s_.toNat) = 5 then S_.2.2.1 31 0 (A_.2.2.2.2 (40 * m_.toNat + s_.toNat)).toNat else 0)
                first | (rw [if_pos (by omega)]; omega) | (rw [if_neg (by omega), if_pos (by omega), ← r81_]; omega) | (rw [if_neg (by omega), if_neg (by omega)]; omega)
              · omega
              · exact h1_
              · omega
            · have cx13_ : ¬ ((S_.2.2.1 79 0 (40 * m_ + s_).toNat) ≠ 4) := of_decide_eq_false cx13_
              refine sm_T_go 5 (c1 := (134, [some (.inr (.inr (some (1, 0)))), some (.inl mx_), some (.inl m_), some (.inl us_), some (.inl bi_), some (.inl s_), some (.inl (40 * m_ + s_))], [.inl (40 * m_ + s_), .inr (.inr (some (80, 0))), .inl bi_], S_)) rfl ?_
              refine sm_T_iald (n := 640) rfl rfl (by omega) (by omega) ?_
              have bx14_ : 0 ≤ S_.2.2.1 80 0 (40 * m_ + s_).toNat ∧ S_.2.2.1 80 0 (40 * m_ + s_).toNat ≤ 8 := hI_.2 80 0 _
              refine sm_T_bin (w := bi_ + (S_.2.2.1 80 0 (40 * m_ + s_).toNat)) rfl (bi_add (by omega) (by omega) (by omega)) ?_
              refine sm_T_go 1 (c1 := (138, [some (.inr (.inr (some (1, 0)))), some (.inl mx_), some (.inl m_), some (.inl us_), some (.inl (bi_ + (S_.2.2.1 80 0 (40 * m_ + s_).toNat))), some (.inl s_), some (.inl (40 * m_ + s_))], [], S_)) rfl ?_
              refine sm_T_inc (a := 5) (z := 1) (v := s_) (w := s_ + 1) rfl rfl (by omega) (by omega) (by omega) ?_
              refine sm_T_go 1 (c1 := (15, [some (.inr (.inr (some (1, 0)))), some (.inl mx_), some (.inl m_), some (.inl us_), some (.inl (bi_ + (S_.2.2.1 80 0 (40 * m_ + s_).toNat))), some (.inl (s_ + 1)), some (.inl (40 * m_ + s_))], [], S_)) rfl ?_
              refine sm_T_wk [some (.inr (.inr (some (1, 0)))), some (.inl mx_), some (.inl m_), some (.inl us_), some (.inl (bi_ + (S_.2.2.1 80 0 (40 * m_ + s_).toNat))), some (.inl (s_ + 1)), none] (by exact ⟨rfl, rfl, rfl, rfl, rfl, rfl, trivial⟩) ?_
              refine ih_.2 m_ us_ (bi_ + (S_.2.2.1 80 0 (40 * m_ + s_).toNat)) (s_ + 1) S_ hI_ hF_ ⟨?_, ?_, ?_, ?_, ?_, ?_, trivial⟩ ?_
              · omega
              · omega
              · rw [show (s_ + 1).toNat = s_.toNat + 1 by omega]
                show _ = su (t_is (S_.2.2.1 30 0) A_ m_.toNat) s_.toNat + (if A_.2.2.1 (40 * m_.toNat + s_.toNat) = 5 then 1 + S_.2.2.1 30 0 (A_.2.2.2.2 (40 * m_.toNat + s_.toNat)).toNat else 0)
                first | (rw [if_pos (by omega), ← r81_]; omega) | (rw [if_neg (by omega)]; omega)
              · rw [show (s_ + 1).toNat = s_.toNat + 1 by omega]
                show _ = su (t_rg (S_.2.2.1 31 0) A_ m_.toNat) s_.toNat + (if A_.2.2.1 (40 * m_.toNat + s_.toNat) = 3 ∨ A_.2.2.1 (40 * m_.toNat + s_.toNat) = 4 then A_.2.2.2.1 (40 * m_.toNat + s_.toNat) else if A_.2.2.1 (40 * m_.toNat + s_.toNat) = 5 then S_.2.2.1 31 0 (A_.2.2.2.2 (40 * m_.toNat + s_.toNat)).toNat else 0)
                first | (rw [if_pos (by omega)]; omega) | (rw [if_neg (by omega), if_pos (by omega), ← r81_]; omega) | (rw [if_neg (by omega), if_neg (by omega)]; omega)
              · omega
              · exact h1_
              · omega
        · have cx10_ : ¬ ((S_.2.2.1 79 0 (40 * m_ + s_).toNat) ≠ 5) := of_decide_eq_false cx10_
          have s5_ : A_.2.2.1 (40 * m_.toNat + s_.toNat) = 5 := by omega
          have d5_ := ok5_ s5_
          refine sm_T_go 8 (c1 := (67, [some (.inr (.inr (some (1, 0)))), some (.inl mx_), some (.inl m_), some (.inl us_), some (.inl bi_), some (.inl s_), some (.inl (40 * m_ + s_))], [.inl (40 * m_ + s_), .inr (.inr (some (81, 0))), .inr (.inr (some (30, 0))), .inl 1, .inl us_], S_)) rfl ?_
          refine sm_T_iald (n := 640) rfl rfl (by omega) (by omega) ?_
          have bx15_ : 0 ≤ S_.2.2.1 81 0 (40 * m_ + s_).toNat ∧ S_.2.2.1 81 0 (40 * m_ + s_).toNat ≤ 255 := hI_.2 81 0 _
          refine sm_T_iald (n := 16) rfl rfl (by omega) (by omega) ?_
          have bx16_ : 0 ≤ S_.2.2.1 30 0 (S_.2.2.1 81 0 (40 * m_ + s_).toNat).toNat ∧ S_.2.2.1 30 0 (S_.2.2.1 81 0 (40 * m_ + s_).toNat).toNat ≤ 100000 := hI_.2 30 0 _
          refine sm_T_bin (w := (S_.2.2.1 30 0 (S_.2.2.1 81 0 (40 * m_ + s_).toNat).toNat) + 1) rfl (bi_add (by omega) (by omega) (by omega)) ?_
          refine sm_T_bin (w := us_ + (S_.2.2.1 30 0 (S_.2.2.1 81 0 (40 * m_ + s_).toNat).toNat) + 1) rfl (bi_add (by omega) (by omega) (by omega)) ?_
          refine sm_T_go 8 (c1 := (87, [some (.inr (.inr (some (1, 0)))), some (.inl mx_), some (.inl m_), some (.inl (us_ + (S_.2.2.1 30 0 (S_.2.2.1 81 0 (40 * m_ + s_).toNat).toNat) + 1)), some (.inl bi_), some (.inl s_), some (.inl (40 * m_ + s_))], [.inl (40 * m_ + s_), .inr (.inr (some (81, 0))), .inr (.inr (some (31, 0))), .inl bi_], S_)) rfl ?_
          refine sm_T_iald (n := 640) rfl rfl (by omega) (by omega) ?_
          refine sm_T_iald (n := 16) rfl rfl (by omega) (by omega) ?_
          have bx17_ : 0 ≤ S_.2.2.1 31 0 (S_.2.2.1 81 0 (40 * m_ + s_).toNat).toNat ∧ S_.2.2.1 31 0 (S_.2.2.1 81 0 (40 * m_ + s_).toNat).toNat ≤ 100000 := hI_.2 31 0 _
          refine sm_T_bin (w := bi_ + (S_.2.2.1 31 0 (S_.2.2.1 81 0 (40 * m_ + s_).toNat).toNat)) rfl (bi_add (by omega) (by omega) (by omega)) ?_
          refine sm_T_go 2 (c1 := (138, [some (.inr (.inr (some (1, 0)))), some (.inl mx_), some (.inl m_), some (.inl (us_ + (S_.2.2.1 30 0 (S_.2.2.1 81 0 (40 * m_ + s_).toNat).toNat) + 1)), some (.inl (bi_ + (S_.2.2.1 31 0 (S_.2.2.1 81 0 (40 * m_ + s_).toNat).toNat))), some (.inl s_), some (.inl (40 * m_ + s_))], [], S_)) rfl ?_
          refine sm_T_inc (a := 5) (z := 1) (v := s_) (w := s_ + 1) rfl rfl (by omega) (by omega) (by omega) ?_
          refine sm_T_go 1 (c1 := (15, [some (.inr (.inr (some (1, 0)))), some (.inl mx_), some (.inl m_), some (.inl (us_ + (S_.2.2.1 30 0 (S_.2.2.1 81 0 (40 * m_ + s_).toNat).toNat) + 1)), some (.inl (bi_ + (S_.2.2.1 31 0 (S_.2.2.1 81 0 (40 * m_ + s_).toNat).toNat))), some (.inl (s_ + 1)), some (.inl (40 * m_ + s_))], [], S_)) rfl ?_
          refine sm_T_wk [some (.inr (.inr (some (1, 0)))), some (.inl mx_), some (.inl m_), some (.inl (us_ + (S_.2.2.1 30 0 (S_.2.2.1 81 0 (40 * m_ + s_).toNat).toNat) + 1)), some (.inl (bi_ + (S_.2.2.1 31 0 (S_.2.2.1 81 0 (40 * m_ + s_).toNat).toNat))), some (.inl (s_ + 1)), none] (by exact ⟨rfl, rfl, rfl, rfl, rfl, rfl, trivial⟩) ?_
          refine ih_.2 m_ (us_ + (S_.2.2.1 30 0 (S_.2.2.1 81 0 (40 * m_ + s_).toNat).toNat) + 1) (bi_ + (S_.2.2.1 31 0 (S_.2.2.1 81 0 (40 * m_ + s_).toNat).toNat)) (s_ + 1) S_ hI_ hF_ ⟨?_, ?_, ?_, ?_, ?_, ?_, trivial⟩ ?_
          · omega
          · omega
          · rw [show (s_ + 1).toNat = s_.toNat + 1 by omega]
            show _ = su (t_is (S_.2.2.1 30 0) A_ m_.toNat) s_.toNat + (if A_.2.2.1 (40 * m_.toNat + s_.toNat) = 5 then 1 + S_.2.2.1 30 0 (A_.2.2.2.2 (40 * m_.toNat + s_.toNat)).toNat else 0)
            first | (rw [if_pos (by omega), ← r81_]; omega) | (rw [if_neg (by omega)]; omega)
          · rw [show (s_ + 1).toNat = s_.toNat + 1 by omega]
            show _ = su (t_rg (S_.2.2.1 31 0) A_ m_.toNat) s_.toNat + (if A_.2.2.1 (40 * m_.toNat + s_.toNat) = 3 ∨ A_.2.2.1 (40 * m_.toNat + s_.toNat) = 4 then A_.2.2.2.1 (40 * m_.toNat + s_.toNat) else if A_.2.2.1 (40 * m_.toNat + s_.toNat) = 5 then S_.2.2.1 31 0 (A_.2.2.2.2 (40 * m_.toNat + s_.toNat)).toNat else 0)
            first | (rw [if_pos (by omega)]; omega) | (rw [if_neg (by omega), if_pos (by omega), ← r81_]; omega) | (rw [if_neg (by omega), if_neg (by omega)]; omega)
          · omega
          · exact h1_
          · omega
set_option maxHeartbeats 1500000 in
set_option maxRecDepth 20000 in
theorem vc_32 {sc_ : Nat × (Nat → Int)} (mx_ : Int) (b_ : Nat → Int) (n_ : Nat) (A_ : pA) (mm_ : Nat) (dd_ : Nat) (S0_ : sm_S) (hI_ : gi S0_) (hmx_ : mx_ = (mm_ : Int) ∧ mm_ ≤ 15) (her_ : ∀ k_, k_ ≤ mm_ → er1 b_ n_ A_ k_ S0_) (hA_ : a_ok b_ n_ A_ mm_) (hd_ : S0_.2.1 1 0 1 = some dd_) : sm_T (mt_P sc_) 1 32 (0, [some (.inr (.inr (some (1, 0)))), some (.inl mx_), none, none, none, none, none], [], S0_) (fun r_ => ∃ u_ S1_, r_ = (.inl u_, S1_, 0) ∧ vq_32 mx_ b_ n_ A_ mm_ dd_ S0_ u_ S1_) := by
  have hF_ : ai_fr (sx_W vw_32) S0_ S0_ := ai_fr_rf
  refine sm_T_go 2 (c1 := (2, [some (.inr (.inr (some (1, 0)))), some (.inl mx_), some (.inl 0), none, none, none, none], [], S0_)) rfl ?_
  refine (vl_32 mx_ b_ n_ A_ mm_ dd_ S0_ hmx_ her_ hA_ hd_ _).1 0 S0_ hI_ hF_ ⟨?_, ?_, trivial⟩ (Nat.lt_succ_self _)
  · omega
  · (intro k_ hk_; exact absurd hk_ (Nat.not_lt_zero _))
