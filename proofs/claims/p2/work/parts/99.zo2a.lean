/-! a task with all that it needs; written by wip/p55/gen/vg -/
/-! Mapper.makeTask -/
def vw_110 : sx_Wl := ([(2, 8)], [35, 36, 72, 73], [])
def vq_110 (a1_ : Int) (dd_ : Nat) (ll_ : Nat) (cc_ : Nat) (S0_ : sm_S) (u_ : Option sm_V) (S1_ : sm_S) : Prop := ∃ v_ : Int, u_ = some (.inl v_) ∧ gi S1_ ∧ ai_fr (sx_W vw_110) S0_ S1_ ∧ (cdf cc_ S0_ S1_ ∧ ((v_ = 0 ∨ v_ = 1) ∧ ∀ x_ : Int, 1 ≤ x_ → x_ < (1 + S0_.1 3 dd_ 1 + S0_.1 3 dd_ 2) → S1_.2.2.1 72 0 (3 * x_).toNat ≠ -1))
set_option maxHeartbeats 3000000 in
theorem vl_110 {sc_ : Nat × (Nat → Int)} (a1_ : Int) (dd_ : Nat) (ll_ : Nat) (cc_ : Nat) (S0_ : sm_S) (hd_ : S0_.2.1 6 0 0 = some dd_) (hc_ : S0_.2.1 6 0 1 = some ll_) (hw_ : wal (1 + S0_.1 3 dd_ 1 + S0_.1 3 dd_ 2) (S0_.1 3 dd_ 4) ll_ S0_) (hgt_ : gtk (1 + S0_.1 3 dd_ 1 + S0_.1 3 dd_ 2) (S0_.1 3 dd_ 4) (S0_.1 5 ll_ 2) (S0_.2.2.1 59 0) (S0_.2.2.1 62 0) a1_) (hs2_ : S0_.1 2 cc_ 1 + S0_.1 2 cc_ 2 ≤ 12) (hin_ : ∀ x_ : Int, 1 ≤ x_ → x_ < (1 + S0_.1 3 dd_ 1 + S0_.1 3 dd_ 2) → S0_.2.2.1 72 0 (3 * x_).toNat ≠ -1) : ∀ nn_ : Nat, (∀ (tp_ : Int) (gd_ : Int) (S_ : sm_S), gi S_ → ai_fr (sx_W vw_110) S0_ S_ → ((0 ≤ gd_ ∧ gd_ ≤ 1000000 ∧ 0 ≤ tp_ ∧ tp_ ≤ 3039) ∧ (∀ i_ : Nat, (i_ : Int) < tp_ → gtk (1 + S0_.1 3 dd_ 1 + S0_.1 3 dd_ 2) (S0_.1 3 dd_ 4) (S0_.1 5 ll_ 2) (S0_.2.2.1 59 0) (S0_.2.2.1 62 0) (S_.2.2.1 73 0 i_) ∧ grk (S0_.2.2.1 62 0) (S_.2.2.1 73 0 i_) + (i_ : Int) ≤ 3038) ∧ (∀ x_ : Int, 1 ≤ x_ → x_ < (1 + S0_.1 3 dd_ 1 + S0_.1 3 dd_ 2) → S_.2.2.1 72 0 (3 * x_).toNat ≠ -1) ∧ (cdf cc_ S0_ S_) ∧ True) → ((1000001 - gd_).toNat) < nn_ → sm_T (mt_P sc_) 4 110 (12, [some (.inr (.inr (some (6, 0)))), some (.inl a1_), some (.inr (.inr (some (2, cc_)))), some (.inl tp_), some (.inl gd_), none, none], [], S_) (fun ro9_ => ∃ u_ S1_, ro9_ = (.inl u_, S1_, 0) ∧ vq_110 a1_ dd_ ll_ cc_ S0_ u_ S1_)) := by
  intro nn_
  induction nn_ with
  | zero => exact fun _ _ _ _ _ _ h_ => absurd h_ (Nat.not_lt_zero _)
  | succ nn_ ih_ =>
    rintro tp_ gd_ S_ hI_ hF_ ⟨h0_, hT_, hi9_, hC_, -⟩ hm_
    have f59_ : S_.2.2.1 59 0 = S0_.2.2.1 59 0 := fr_arr hF_ rfl
    have f60_ : S_.2.2.1 60 0 = S0_.2.2.1 60 0 := fr_arr hF_ rfl
    have f62_ : S_.2.2.1 62 0 = S0_.2.2.1 62 0 := fr_arr hF_ rfl
    have f63_ : S_.2.2.1 63 0 = S0_.2.2.1 63 0 := fr_arr hF_ rfl
    have f64_ : S_.2.2.1 64 0 = S0_.2.2.1 64 0 := fr_arr hF_ rfl
    have f55_ : S_.2.2.1 55 (0 + ll_) = S0_.2.2.1 55 (0 + ll_) := fr_arr hF_ rfl
    have f1_ : S_.1 3 dd_ 1 = S0_.1 3 dd_ 1 := hF_.1 3 dd_ 1 rfl
    have f2_ : S_.1 3 dd_ 2 = S0_.1 3 dd_ 2 := hF_.1 3 dd_ 2 rfl
    have f4_ : S_.1 3 dd_ 4 = S0_.1 3 dd_ 4 := hF_.1 3 dd_ 4 rfl
    have f5_ : S_.1 5 ll_ 2 = S0_.1 5 ll_ 2 := hF_.1 5 ll_ 2 rfl
    have cI_ : 0 ≤ S_.1 3 dd_ 1 ∧ S_.1 3 dd_ 1 ≤ 320 := hI_.1 3 dd_ 1 rfl
    have cR_ : 0 ≤ S_.1 3 dd_ 2 ∧ S_.1 3 dd_ 2 ≤ 100000 := hI_.1 3 dd_ 2 rfl
    have cN_ : 0 ≤ S_.1 3 dd_ 4 ∧ S_.1 3 dd_ 4 ≤ 1013 := hI_.1 3 dd_ 4 rfl
    have hf_ : 1 ≤ (1 + S0_.1 3 dd_ 1 + S0_.1 3 dd_ 2) := by omega
    have e1_ : S_.1 2 cc_ 1 = S0_.1 2 cc_ 1 := hF_.1 2 cc_ 1 rfl
    have e2_ : S_.1 2 cc_ 2 = S0_.1 2 cc_ 2 := hF_.1 2 cc_ 2 rfl
    have c8_ : 0 ≤ S_.1 2 cc_ 8 ∧ S_.1 2 cc_ 8 ≤ 150 := hI_.1 2 cc_ 8 rfl
    have k1_ : 0 ≤ S_.1 2 cc_ 1 ∧ S_.1 2 cc_ 1 ≤ 12 := hI_.1 2 cc_ 1 rfl
    have k2_ : 0 ≤ S_.1 2 cc_ 2 ∧ S_.1 2 cc_ 2 ≤ 6 := hI_.1 2 cc_ 2 rfl
    refine sm_T_go 1 (c1 := (14, [some (.inr (.inr (some (6, 0)))), some (.inl a1_), some (.inr (.inr (some (2, cc_)))), some (.inl tp_), some (.inl gd_), none, none], [.inl gd_], S_)) rfl ?_
    refine sm_T_nt (u := some (.inl 1000000)) (S1 := S_) rfl rfl rfl ?_
    refine sm_T_br (a := 3) (z := 112) rfl (fun cx1_ => ?_) (fun cx1_ => ?_)
    · have cx1_ : 1000000 ≤ gd_ := of_decide_eq_true cx1_
      refine sm_T_go 1 (c1 := (129, [some (.inr (.inr (some (6, 0)))), some (.inl a1_), some (.inr (.inr (some (2, cc_)))), some (.inl tp_), some (.inl gd_), none, none], [.inl 1], S_)) rfl ?_
      refine sm_T_rz rfl (by omega) ⟨_, _, rfl, _, rfl, hI_, hF_, ?_⟩
      refine ⟨hC_, ?_⟩
      exact ⟨Or.inr rfl, hi9_⟩
    · have cx1_ : ¬ (1000000 ≤ gd_) := of_decide_eq_false cx1_
      refine sm_T_go 1 (c1 := (20, [some (.inr (.inr (some (6, 0)))), some (.inl a1_), some (.inr (.inr (some (2, cc_)))), some (.inl tp_), some (.inl gd_), none, none], [.inl tp_], S_)) rfl ?_
      refine sm_T_b0 (a := 5) (z := 108) rfl (fun cx2_ => ?_) (fun cx2_ => ?_)
      · have cx2_ : tp_ ≤ 0 := of_decide_eq_true cx2_
        refine sm_T_go 1 (c1 := (129, [some (.inr (.inr (some (6, 0)))), some (.inl a1_), some (.inr (.inr (some (2, cc_)))), some (.inl tp_), some (.inl gd_), none, none], [.inl 1], S_)) rfl ?_
        refine sm_T_rz rfl (by omega) ⟨_, _, rfl, _, rfl, hI_, hF_, ?_⟩
        refine ⟨hC_, ?_⟩
        exact ⟨Or.inr rfl, hi9_⟩
      · have cx2_ : ¬ (tp_ ≤ 0) := of_decide_eq_false cx2_
        have t9_ := hT_ (tp_ - 1).toNat (by omega)
        have t8_ := t9_.1.1
        have t7_ := t9_.1.2.1
        have t6_ := t9_.2
        have t5_ := grk_b (S0_.2.2.1 62 0) (S_.2.2.1 73 0 (tp_ - 1).toNat)
        refine sm_T_go 4 (c1 := (29, [some (.inr (.inr (some (6, 0)))), some (.inl a1_), some (.inr (.inr (some (2, cc_)))), some (.inl tp_), some (.inl gd_), none, none], [.inl 1, .inl tp_, .inr (.inr (some (73, 0)))], S_)) rfl ?_
        refine sm_T_bin (w := tp_ - 1) rfl (bi_sub (by omega) (by omega) (by omega)) ?_ -- pc_ 29
        refine sm_T_iald (n := 3039) rfl rfl (by omega) (by omega) ?_
        have bx3_ : 0 ≤ S_.2.2.1 73 0 (tp_ - 1).toNat ∧ S_.2.2.1 73 0 (tp_ - 1).toNat ≤ 3039 := hI_.2 73 0 _
        refine sm_T_go 4 (c1 := (39, [some (.inr (.inr (some (6, 0)))), some (.inl a1_), some (.inr (.inr (some (2, cc_)))), some (.inl tp_), some (.inl gd_), some (.inl (S_.2.2.1 73 0 (tp_ - 1).toNat)), none], [.inl (S_.2.2.1 73 0 (tp_ - 1).toNat), .inr (.inr (some (72, 0)))], S_)) rfl ?_
        refine sm_T_iald (n := 3039) rfl rfl (by omega) (by omega) ?_
        have bx4_ : (-1) ≤ S_.2.2.1 72 0 (S_.2.2.1 73 0 (tp_ - 1).toNat).toNat ∧ S_.2.2.1 72 0 (S_.2.2.1 73 0 (tp_ - 1).toNat).toNat ≤ 161 := hI_.2 72 0 _
        refine sm_T_go 1 (c1 := (41, [some (.inr (.inr (some (6, 0)))), some (.inl a1_), some (.inr (.inr (some (2, cc_)))), some (.inl tp_), some (.inl gd_), some (.inl (S_.2.2.1 73 0 (tp_ - 1).toNat)), none], [.inl (-1), .inl (S_.2.2.1 72 0 (S_.2.2.1 73 0 (tp_ - 1).toNat).toNat)], S_)) rfl ?_
        refine sm_T_br (a := 0) (z := 7) rfl (fun cx5_ => ?_) (fun cx5_ => ?_)
        · have cx5_ : (S_.2.2.1 72 0 (S_.2.2.1 73 0 (tp_ - 1).toNat).toNat) = (-1) := of_decide_eq_true cx5_
          refine sm_T_go 2 (c1 := (51, [some (.inr (.inr (some (6, 0)))), some (.inl a1_), some (.inr (.inr (some (2, cc_)))), some (.inl tp_), some (.inl gd_), some (.inl (S_.2.2.1 73 0 (tp_ - 1).toNat)), none], [.inl (S_.2.2.1 73 0 (tp_ - 1).toNat), .inr (.inr (some (6, 0)))], S_)) rfl ?_
          refine sm_T_cal (d1 := 3) (Q1 := vq_113 (S_.2.2.1 73 0 (tp_ - 1).toNat) dd_ ll_ S_) rfl rfl (by decide) (vc_113 (S_.2.2.1 73 0 (tp_ - 1).toNat) dd_ ll_ S_ hI_ (by exact (hF_.2.1 6 0 0 rfl).trans hd_) (by exact (hF_.2.1 6 0 1 rfl).trans hc_) (by (rw [f1_, f2_, f4_]; exact wal_fr hw_ hF_)) (by (rw [f1_, f2_, f4_, f5_, f59_, f62_]; exact t9_.1)) (by (rw [f1_, f2_]; intro q9_; have z9_ := hi9_ ((S_.2.2.1 73 0 (tp_ - 1).toNat) / 3) (by omega) q9_.1; rw [show 3 * ((S_.2.2.1 73 0 (tp_ - 1).toNat) / 3) = (S_.2.2.1 73 0 (tp_ - 1).toNat) by omega] at z9_; omega))) (fun u_ Sx6_ px9_ => ?_)
          obtain ⟨rfl, vx11_, rfl, px9_⟩ := px9_
          have m9_ := px9_
          rw [f1_, f2_, f4_, f5_, f55_, f59_, f60_, f62_, f63_, f64_] at m9_
          refine sm_T_go 4 (c1 := (62, [some (.inr (.inr (some (6, 0)))), some (.inl a1_), some (.inr (.inr (some (2, cc_)))), some (.inl tp_), some (.inl gd_), some (.inl (S_.2.2.1 73 0 (tp_ - 1).toNat)), some (.inl vx11_)], [.inl (S_.2.2.1 73 0 (tp_ - 1).toNat), .inr (.inr (some (72, 0)))], S_)) rfl ?_
          refine sm_T_iald (n := 3039) rfl rfl (by omega) (by omega) ?_
          refine sm_T_go 1 (c1 := (64, [some (.inr (.inr (some (6, 0)))), some (.inl a1_), some (.inr (.inr (some (2, cc_)))), some (.inl tp_), some (.inl gd_), some (.inl (S_.2.2.1 73 0 (tp_ - 1).toNat)), some (.inl vx11_)], [.inl (-1), .inl (S_.2.2.1 72 0 (S_.2.2.1 73 0 (tp_ - 1).toNat).toNat)], S_)) rfl ?_
          refine sm_T_br (a := 0) (z := 9) rfl (fun cx12_ => ?_) (fun cx12_ => ?_)
          · have cx12_ : (S_.2.2.1 72 0 (S_.2.2.1 73 0 (tp_ - 1).toNat).toNat) = (-1) := of_decide_eq_true cx12_
            refine sm_T_go 2 (c1 := (76, [some (.inr (.inr (some (6, 0)))), some (.inl a1_), some (.inr (.inr (some (2, cc_)))), some (.inl tp_), some (.inl gd_), some (.inl (S_.2.2.1 73 0 (tp_ - 1).toNat)), some (.inl vx11_)], [.inl (-1), .inl vx11_], S_)) rfl ?_
            refine sm_T_br (a := 0) (z := 17) rfl (fun cx13_ => ?_) (fun cx13_ => ?_)
            · have cx13_ : vx11_ = (-1) := of_decide_eq_true cx13_
              have bx14_ : 0 ≤ S_.1 2 cc_ 8 ∧ S_.1 2 cc_ 8 ≤ 150 := hI_.1 2 cc_ 8 rfl
              refine sm_T_go 3 (c1 := (100, [some (.inr (.inr (some (6, 0)))), some (.inl a1_), some (.inr (.inr (some (2, cc_)))), some (.inl tp_), some (.inl gd_), some (.inl (S_.2.2.1 73 0 (tp_ - 1).toNat)), some (.inl vx11_)], [.inl 150, .inl (S_.1 2 cc_ 8)], S_)) rfl ?_
              refine sm_T_br (a := 1) (z := 5) rfl (fun cx15_ => ?_) (fun cx15_ => ?_)
              · have cx15_ : (S_.1 2 cc_ 8) ≠ 150 := of_decide_eq_true cx15_
                refine sm_T_go 6 (c1 := (115, [some (.inr (.inr (some (6, 0)))), some (.inl a1_), some (.inr (.inr (some (2, cc_)))), some (.inl tp_), some (.inl gd_), some (.inl (S_.2.2.1 73 0 (tp_ - 1).toNat)), some (.inl vx11_)], [.inr (.inr (some (2, cc_))), .inl (S_.2.2.1 73 0 (tp_ - 1).toNat), .inr (.inr (some (6, 0))), .inl (S_.2.2.1 73 0 (tp_ - 1).toNat), .inr (.inr (some (72, 0)))], S_)) rfl ?_
                refine sm_T_cal (d1 := 3) (Q1 := vq_114 (S_.2.2.1 73 0 (tp_ - 1).toNat) dd_ ll_ cc_ S_) rfl rfl (by decide) (vc_114 (S_.2.2.1 73 0 (tp_ - 1).toNat) dd_ ll_ cc_ S_ hI_ (by exact (hF_.2.1 6 0 0 rfl).trans hd_) (by exact (hF_.2.1 6 0 1 rfl).trans hc_) (by (rw [f1_, f2_, f4_]; exact wal_fr hw_ hF_)) (by (rw [f1_, f2_, f4_, f5_, f59_, f62_]; exact t9_.1)) (by (rw [f1_, f2_]; intro q9_; have z9_ := hi9_ ((S_.2.2.1 73 0 (tp_ - 1).toNat) / 3) (by omega) q9_.1; rw [show 3 * ((S_.2.2.1 73 0 (tp_ - 1).toNat) / 3) = (S_.2.2.1 73 0 (tp_ - 1).toNat) by omega] at z9_; omega)) (by omega) (by omega) (by first | (exfalso; omega) | (rw [f1_, f2_, f55_, f60_, f62_, f63_, f64_]; exact (m9_.resolve_right (fun q9_ => absurd (by omega) q9_.1)).2))) (fun u_ Sx16_ px19_ => ?_)
                obtain ⟨vx21_, rfl, hIx17_, hFx18_, px19_⟩ := px19_
                have hFx20_ : ai_fr (sx_W vw_110) S0_ Sx16_ := ai_fr_tr hF_ (fr_le hFx18_ rfl)
                obtain ⟨dx23_, px19_⟩ := px19_
                have hCx22_ : cdf cc_ S0_ Sx16_ := cdf_tr hC_ (cdf_cg (by omega) dx23_)
                have a115_ := px19_
                have z73_ : Sx16_.2.2.1 73 0 = S_.2.2.1 73 0 := fr_arr hFx18_ rfl
                have z72_ : Sx16_.2.2.1 72 0 = S_.2.2.1 72 0 := fr_arr hFx18_ rfl
                have x1_ : 0 ≤ vx21_ := by omega
                refine sm_T_iast (n := 3039) rfl rfl (by omega) (by omega) ?_
                have hIx24_ : gi (sm_aI Sx16_ 72 0 (S_.2.2.1 73 0 (tp_ - 1).toNat).toNat vx21_) := gi_aI hIx17_ (show (-1) ≤ vx21_ ∧ vx21_ ≤ 161 from ⟨by omega, by omega⟩)
                have hFx25_ : ai_fr (sx_W vw_110) S0_ (sm_aI Sx16_ 72 0 (S_.2.2.1 73 0 (tp_ - 1).toNat).toNat vx21_) := ai_fr_tr hFx20_ (ai_fr_aI rfl)
                have hCx26_ : cdf cc_ S0_ (sm_aI Sx16_ 72 0 (S_.2.2.1 73 0 (tp_ - 1).toNat).toNat vx21_) := cdf_aI hCx22_ (Or.inl rfl)
                refine sm_T_inc (a := 3) (z := (-1)) (v := tp_) (w := tp_ - 1) rfl rfl (by omega) (by omega) (by omega) ?_ -- pc_ 119
                refine sm_T_inc (a := 4) (z := 1) (v := gd_) (w := gd_ + 1) rfl rfl (by omega) (by omega) (by omega) ?_ -- pc_ 122
                refine sm_T_go 1 (c1 := (12, [some (.inr (.inr (some (6, 0)))), some (.inl a1_), some (.inr (.inr (some (2, cc_)))), some (.inl (tp_ - 1)), some (.inl (gd_ + 1)), some (.inl (S_.2.2.1 73 0 (tp_ - 1).toNat)), some (.inl vx11_)], [], sm_aI Sx16_ 72 0 (S_.2.2.1 73 0 (tp_ - 1).toNat).toNat vx21_)) rfl ?_
                refine sm_T_wk [some (.inr (.inr (some (6, 0)))), some (.inl a1_), some (.inr (.inr (some (2, cc_)))), some (.inl (tp_ - 1)), some (.inl (gd_ + 1)), none, none] (by exact ⟨rfl, rfl, rfl, rfl, rfl, trivial⟩) ?_
                refine ih_ (tp_ - 1) (gd_ + 1) (sm_aI Sx16_ 72 0 (S_.2.2.1 73 0 (tp_ - 1).toNat).toNat vx21_) hIx24_ hFx25_ ⟨?_, ?_, ?_, ?_, trivial⟩ ?_
                · omega
                · first | (intro i_ hi_; exact hT_ i_ (by omega)) | (have m8_ := m9_.resolve_left (fun q9_ => absurd q9_.1 (by omega)); intro i_ hi_; rw [rd_eq]; split; (have m5_ := m8_.2.2; exact ⟨m8_.2.1, by omega⟩); (exact hT_ i_ (by omega))) | (intro i_ hi_; rw [rd_ne (by decide), z73_]; exact hT_ i_ (by omega))
                · first | exact hi9_ | (intro x_ u_ w_; rw [rd_ne (by decide)]; exact hi9_ x_ u_ w_) | (intro x_ u_ w_; rw [rd_eq]; split; (omega); (rw [z72_]; exact hi9_ x_ u_ w_))
                · exact hCx26_
                · omega
              · have cx15_ : ¬ ((S_.1 2 cc_ 8) ≠ 150) := of_decide_eq_false cx15_
                refine sm_T_go 1 (c1 := (104, [some (.inr (.inr (some (6, 0)))), some (.inl a1_), some (.inr (.inr (some (2, cc_)))), some (.inl tp_), some (.inl gd_), some (.inl (S_.2.2.1 73 0 (tp_ - 1).toNat)), some (.inl vx11_)], [.inl 0], S_)) rfl ?_
                refine sm_T_rz rfl (by omega) ⟨_, _, rfl, _, rfl, hI_, hF_, ?_⟩
                refine ⟨hC_, ?_⟩
                exact ⟨Or.inl rfl, hi9_⟩
            · have cx13_ : ¬ (vx11_ = (-1)) := of_decide_eq_false cx13_
              have m8_ := m9_.resolve_left (fun q9_ => absurd q9_.1 (by omega))
              have m7_ := m8_.2.1.1
              have m6_ := m8_.2.1.2.1
              have m5_ := m8_.2.2
              have m4_ := fun y_ => grk_b (S0_.2.2.1 62 0) y_
              have m3 := m4_ _ |>.1 |> fun h_ => Int.lt_of_le_of_lt h_ m5_
              refine sm_T_go 4 (c1 := (86, [some (.inr (.inr (some (6, 0)))), some (.inl a1_), some (.inr (.inr (some (2, cc_)))), some (.inl tp_), some (.inl gd_), some (.inl (S_.2.2.1 73 0 (tp_ - 1).toNat)), some (.inl vx11_)], [.inl vx11_, .inl tp_, .inr (.inr (some (73, 0)))], S_)) rfl ?_
              refine sm_T_iast (n := 3039) rfl rfl (by omega) (by omega) ?_
              have hIx27_ : gi (sm_aI S_ 73 0 tp_.toNat vx11_) := gi_aI hI_ (show 0 ≤ vx11_ ∧ vx11_ ≤ 3039 from ⟨by omega, by omega⟩)
              have hFx28_ : ai_fr (sx_W vw_110) S0_ (sm_aI S_ 73 0 tp_.toNat vx11_) := ai_fr_tr hF_ (ai_fr_aI rfl)
              have hCx29_ : cdf cc_ S0_ (sm_aI S_ 73 0 tp_.toNat vx11_) := cdf_aI hC_ (Or.inl rfl)
              refine sm_T_inc (a := 3) (z := 1) (v := tp_) (w := tp_ + 1) rfl rfl (by omega) (by omega) (by omega) ?_ -- pc_ 87
              refine sm_T_go 1 (c1 := (122, [some (.inr (.inr (some (6, 0)))), some (.inl a1_), some (.inr (.inr (some (2, cc_)))), some (.inl (tp_ + 1)), some (.inl gd_), some (.inl (S_.2.2.1 73 0 (tp_ - 1).toNat)), some (.inl vx11_)], [], sm_aI S_ 73 0 tp_.toNat vx11_)) rfl ?_
              refine sm_T_inc (a := 4) (z := 1) (v := gd_) (w := gd_ + 1) rfl rfl (by omega) (by omega) (by omega) ?_ -- pc_ 122
              refine sm_T_go 1 (c1 := (12, [some (.inr (.inr (some (6, 0)))), some (.inl a1_), some (.inr (.inr (some (2, cc_)))), some (.inl (tp_ + 1)), some (.inl (gd_ + 1)), some (.inl (S_.2.2.1 73 0 (tp_ - 1).toNat)), some (.inl vx11_)], [], sm_aI S_ 73 0 tp_.toNat vx11_)) rfl ?_
              refine sm_T_wk [some (.inr (.inr (some (6, 0)))), some (.inl a1_), some (.inr (.inr (some (2, cc_)))), some (.inl (tp_ + 1)), some (.inl (gd_ + 1)), none, none] (by exact ⟨rfl, rfl, rfl, rfl, rfl, trivial⟩) ?_
              refine ih_ (tp_ + 1) (gd_ + 1) (sm_aI S_ 73 0 tp_.toNat vx11_) hIx27_ hFx28_ ⟨?_, ?_, ?_, ?_, trivial⟩ ?_
              · omega
              · first | (intro i_ hi_; exact hT_ i_ (by omega)) | (have m8_ := m9_.resolve_left (fun q9_ => absurd q9_.1 (by omega)); intro i_ hi_; rw [rd_eq]; split; (have m5_ := m8_.2.2; exact ⟨m8_.2.1, by omega⟩); (exact hT_ i_ (by omega))) | (intro i_ hi_; rw [rd_ne (by decide), z73_]; exact hT_ i_ (by omega))
              · first | exact hi9_ | (intro x_ u_ w_; rw [rd_ne (by decide)]; exact hi9_ x_ u_ w_) | (intro x_ u_ w_; rw [rd_eq]; split; (omega); (rw [z72_]; exact hi9_ x_ u_ w_))
              · exact hCx29_
              · omega
          · have cx12_ : ¬ ((S_.2.2.1 72 0 (S_.2.2.1 73 0 (tp_ - 1).toNat).toNat) = (-1)) := of_decide_eq_false cx12_
            exfalso; omega
        · have cx5_ : ¬ ((S_.2.2.1 72 0 (S_.2.2.1 73 0 (tp_ - 1).toNat).toNat) = (-1)) := of_decide_eq_false cx5_
          refine sm_T_go 6 (c1 := (62, [some (.inr (.inr (some (6, 0)))), some (.inl a1_), some (.inr (.inr (some (2, cc_)))), some (.inl tp_), some (.inl gd_), some (.inl (S_.2.2.1 73 0 (tp_ - 1).toNat)), some (.inl (-1))], [.inl (S_.2.2.1 73 0 (tp_ - 1).toNat), .inr (.inr (some (72, 0)))], S_)) rfl ?_
          refine sm_T_iald (n := 3039) rfl rfl (by omega) (by omega) ?_
          refine sm_T_go 1 (c1 := (64, [some (.inr (.inr (some (6, 0)))), some (.inl a1_), some (.inr (.inr (some (2, cc_)))), some (.inl tp_), some (.inl gd_), some (.inl (S_.2.2.1 73 0 (tp_ - 1).toNat)), some (.inl (-1))], [.inl (-1), .inl (S_.2.2.1 72 0 (S_.2.2.1 73 0 (tp_ - 1).toNat).toNat)], S_)) rfl ?_
          refine sm_T_br (a := 0) (z := 9) rfl (fun cx30_ => ?_) (fun cx30_ => ?_)
          · have cx30_ : (S_.2.2.1 72 0 (S_.2.2.1 73 0 (tp_ - 1).toNat).toNat) = (-1) := of_decide_eq_true cx30_
            have bx31_ : 0 ≤ S_.1 2 cc_ 8 ∧ S_.1 2 cc_ 8 ≤ 150 := hI_.1 2 cc_ 8 rfl
            refine sm_T_go 6 (c1 := (100, [some (.inr (.inr (some (6, 0)))), some (.inl a1_), some (.inr (.inr (some (2, cc_)))), some (.inl tp_), some (.inl gd_), some (.inl (S_.2.2.1 73 0 (tp_ - 1).toNat)), some (.inl (-1))], [.inl 150, .inl (S_.1 2 cc_ 8)], S_)) rfl ?_
            refine sm_T_br (a := 1) (z := 5) rfl (fun cx32_ => ?_) (fun cx32_ => ?_)
            · have cx32_ : (S_.1 2 cc_ 8) ≠ 150 := of_decide_eq_true cx32_
              refine sm_T_go 6 (c1 := (115, [some (.inr (.inr (some (6, 0)))), some (.inl a1_), some (.inr (.inr (some (2, cc_)))), some (.inl tp_), some (.inl gd_), some (.inl (S_.2.2.1 73 0 (tp_ - 1).toNat)), some (.inl (-1))], [.inr (.inr (some (2, cc_))), .inl (S_.2.2.1 73 0 (tp_ - 1).toNat), .inr (.inr (some (6, 0))), .inl (S_.2.2.1 73 0 (tp_ - 1).toNat), .inr (.inr (some (72, 0)))], S_)) rfl ?_
              refine sm_T_cal (d1 := 3) (Q1 := vq_114 (S_.2.2.1 73 0 (tp_ - 1).toNat) dd_ ll_ cc_ S_) rfl rfl (by decide) (vc_114 (S_.2.2.1 73 0 (tp_ - 1).toNat) dd_ ll_ cc_ S_ hI_ (by exact (hF_.2.1 6 0 0 rfl).trans hd_) (by exact (hF_.2.1 6 0 1 rfl).trans hc_) (by (rw [f1_, f2_, f4_]; exact wal_fr hw_ hF_)) (by (rw [f1_, f2_, f4_, f5_, f59_, f62_]; exact t9_.1)) (by (rw [f1_, f2_]; intro q9_; have z9_ := hi9_ ((S_.2.2.1 73 0 (tp_ - 1).toNat) / 3) (by omega) q9_.1; rw [show 3 * ((S_.2.2.1 73 0 (tp_ - 1).toNat) / 3) = (S_.2.2.1 73 0 (tp_ - 1).toNat) by omega] at z9_; omega)) (by omega) (by omega) (by first | (exfalso; omega) | (rw [f1_, f2_, f55_, f60_, f62_, f63_, f64_]; exact (m9_.resolve_right (fun q9_ => absurd (by omega) q9_.1)).2))) (fun u_ Sx33_ px36_ => ?_)
              obtain ⟨vx38_, rfl, hIx34_, hFx35_, px36_⟩ := px36_
              have hFx37_ : ai_fr (sx_W vw_110) S0_ Sx33_ := ai_fr_tr hF_ (fr_le hFx35_ rfl)
              obtain ⟨dx40_, px36_⟩ := px36_
              have hCx39_ : cdf cc_ S0_ Sx33_ := cdf_tr hC_ (cdf_cg (by omega) dx40_)
              have a115_ := px36_
              have z73_ : Sx33_.2.2.1 73 0 = S_.2.2.1 73 0 := fr_arr hFx35_ rfl
              have z72_ : Sx33_.2.2.1 72 0 = S_.2.2.1 72 0 := fr_arr hFx35_ rfl
              have x1_ : 0 ≤ vx38_ := by omega
              refine sm_T_iast (n := 3039) rfl rfl (by omega) (by omega) ?_
              have hIx41_ : gi (sm_aI Sx33_ 72 0 (S_.2.2.1 73 0 (tp_ - 1).toNat).toNat vx38_) := gi_aI hIx34_ (show (-1) ≤ vx38_ ∧ vx38_ ≤ 161 from ⟨by omega, by omega⟩)
              have hFx42_ : ai_fr (sx_W vw_110) S0_ (sm_aI Sx33_ 72 0 (S_.2.2.1 73 0 (tp_ - 1).toNat).toNat vx38_) := ai_fr_tr hFx37_ (ai_fr_aI rfl)
              have hCx43_ : cdf cc_ S0_ (sm_aI Sx33_ 72 0 (S_.2.2.1 73 0 (tp_ - 1).toNat).toNat vx38_) := cdf_aI hCx39_ (Or.inl rfl)
              refine sm_T_inc (a := 3) (z := (-1)) (v := tp_) (w := tp_ - 1) rfl rfl (by omega) (by omega) (by omega) ?_ -- pc_ 119
              refine sm_T_inc (a := 4) (z := 1) (v := gd_) (w := gd_ + 1) rfl rfl (by omega) (by omega) (by omega) ?_ -- pc_ 122
              refine sm_T_go 1 (c1 := (12, [some (.inr (.inr (some (6, 0)))), some (.inl a1_), some (.inr (.inr (some (2, cc_)))), some (.inl (tp_ - 1)), some (.inl (gd_ + 1)), some (.inl (S_.2.2.1 73 0 (tp_ - 1).toNat)), some (.inl (-1))], [], sm_aI Sx33_ 72 0 (S_.2.2.1 73 0 (tp_ - 1).toNat).toNat vx38_)) rfl ?_
              refine sm_T_wk [some (.inr (.inr (some (6, 0)))), some (.inl a1_), some (.inr (.inr (some (2, cc_)))), some (.inl (tp_ - 1)), some (.inl (gd_ + 1)), none, none] (by exact ⟨rfl, rfl, rfl, rfl, rfl, trivial⟩) ?_
              refine ih_ (tp_ - 1) (gd_ + 1) (sm_aI Sx33_ 72 0 (S_.2.2.1 73 0 (tp_ - 1).toNat).toNat vx38_) hIx41_ hFx42_ ⟨?_, ?_, ?_, ?_, trivial⟩ ?_
              · omega
              · first | (intro i_ hi_; exact hT_ i_ (by omega)) | (have m8_ := m9_.resolve_left (fun q9_ => absurd q9_.1 (by omega)); intro i_ hi_; rw [rd_eq]; split; (have m5_ := m8_.2.2; exact ⟨m8_.2.1, by omega⟩); (exact hT_ i_ (by omega))) | (intro i_ hi_; rw [rd_ne (by decide), z73_]; exact hT_ i_ (by omega))
              · first | exact hi9_ | (intro x_ u_ w_; rw [rd_ne (by decide)]; exact hi9_ x_ u_ w_) | (intro x_ u_ w_; rw [rd_eq]; split; (omega); (rw [z72_]; exact hi9_ x_ u_ w_))
              · exact hCx43_
              · omega
            · have cx32_ : ¬ ((S_.1 2 cc_ 8) ≠ 150) := of_decide_eq_false cx32_
              refine sm_T_go 1 (c1 := (104, [some (.inr (.inr (some (6, 0)))), some (.inl a1_), some (.inr (.inr (some (2, cc_)))), some (.inl tp_), some (.inl gd_), some (.inl (S_.2.2.1 73 0 (tp_ - 1).toNat)), some (.inl (-1))], [.inl 0], S_)) rfl ?_
              refine sm_T_rz rfl (by omega) ⟨_, _, rfl, _, rfl, hI_, hF_, ?_⟩
              refine ⟨hC_, ?_⟩
              exact ⟨Or.inl rfl, hi9_⟩
          · have cx30_ : ¬ ((S_.2.2.1 72 0 (S_.2.2.1 73 0 (tp_ - 1).toNat).toNat) = (-1)) := of_decide_eq_false cx30_
            refine sm_T_inc (a := 3) (z := (-1)) (v := tp_) (w := tp_ - 1) rfl rfl (by omega) (by omega) (by omega) ?_ -- pc_ 67
            refine sm_T_go 1 (c1 := (122, [some (.inr (.inr (some (6, 0)))), some (.inl a1_), some (.inr (.inr (some (2, cc_)))), some (.inl (tp_ - 1)), some (.inl gd_), some (.inl (S_.2.2.1 73 0 (tp_ - 1).toNat)), some (.inl (-1))], [], S_)) rfl ?_
            refine sm_T_inc (a := 4) (z := 1) (v := gd_) (w := gd_ + 1) rfl rfl (by omega) (by omega) (by omega) ?_ -- pc_ 122
            refine sm_T_go 1 (c1 := (12, [some (.inr (.inr (some (6, 0)))), some (.inl a1_), some (.inr (.inr (some (2, cc_)))), some (.inl (tp_ - 1)), some (.inl (gd_ + 1)), some (.inl (S_.2.2.1 73 0 (tp_ - 1).toNat)), some (.inl (-1))], [], S_)) rfl ?_
            refine sm_T_wk [some (.inr (.inr (some (6, 0)))), some (.inl a1_), some (.inr (.inr (some (2, cc_)))), some (.inl (tp_ - 1)), some (.inl (gd_ + 1)), none, none] (by exact ⟨rfl, rfl, rfl, rfl, rfl, trivial⟩) ?_
            refine ih_ (tp_ - 1) (gd_ + 1) S_ hI_ hF_ ⟨?_, ?_, ?_, ?_, trivial⟩ ?_
            · omega
            · first | (intro i_ hi_; exact hT_ i_ (by omega)) | (have m8_ := m9_.resolve_left (fun q9_ => absurd q9_.1 (by omega)); intro i_ hi_; rw [rd_eq]; split; (have m5_ := m8_.2.2; exact ⟨m8_.2.1, by omega⟩); (exact hT_ i_ (by omega))) | (intro i_ hi_; rw [rd_ne (by decide), z73_]; exact hT_ i_ (by omega))
            · first | exact hi9_ | (intro x_ u_ w_; rw [rd_ne (by decide)]; exact hi9_ x_ u_ w_) | (intro x_ u_ w_; rw [rd_eq]; split; (omega); (rw [z72_]; exact hi9_ x_ u_ w_))
            · exact hC_
            · omega
set_option maxHeartbeats 3000000 in
theorem vc_110 {sc_ : Nat × (Nat → Int)} (a1_ : Int) (dd_ : Nat) (ll_ : Nat) (cc_ : Nat) (S0_ : sm_S) (hI_ : gi S0_) (hd_ : S0_.2.1 6 0 0 = some dd_) (hc_ : S0_.2.1 6 0 1 = some ll_) (hw_ : wal (1 + S0_.1 3 dd_ 1 + S0_.1 3 dd_ 2) (S0_.1 3 dd_ 4) ll_ S0_) (hgt_ : gtk (1 + S0_.1 3 dd_ 1 + S0_.1 3 dd_ 2) (S0_.1 3 dd_ 4) (S0_.1 5 ll_ 2) (S0_.2.2.1 59 0) (S0_.2.2.1 62 0) a1_) (hs2_ : S0_.1 2 cc_ 1 + S0_.1 2 cc_ 2 ≤ 12) (hin_ : ∀ x_ : Int, 1 ≤ x_ → x_ < (1 + S0_.1 3 dd_ 1 + S0_.1 3 dd_ 2) → S0_.2.2.1 72 0 (3 * x_).toNat ≠ -1) : sm_T (mt_P sc_) 4 110 (0, [some (.inr (.inr (some (6, 0)))), some (.inl a1_), some (.inr (.inr (some (2, cc_)))), none, none, none, none], [], S0_) (fun ro9_ => ∃ u_ S1_, ro9_ = (.inl u_, S1_, 0) ∧ vq_110 a1_ dd_ ll_ cc_ S0_ u_ S1_) := by
  have hF_ : ai_fr (sx_W vw_110) S0_ S0_ := ai_fr_rf
  have hC_ : cdf cc_ S0_ S0_ := cdf_rf
  have cI_ : 0 ≤ S0_.1 3 dd_ 1 ∧ S0_.1 3 dd_ 1 ≤ 320 := hI_.1 3 dd_ 1 rfl
  have cR_ : 0 ≤ S0_.1 3 dd_ 2 ∧ S0_.1 3 dd_ 2 ≤ 100000 := hI_.1 3 dd_ 2 rfl
  have cN_ : 0 ≤ S0_.1 3 dd_ 4 ∧ S0_.1 3 dd_ 4 ≤ 1013 := hI_.1 3 dd_ 4 rfl
  have hf_ : 1 ≤ (1 + S0_.1 3 dd_ 1 + S0_.1 3 dd_ 2) := by omega
  have t1_ := hgt_.1
  have t2_ := hgt_.2.1
  have rk0_ := grk_b (S0_.2.2.1 62 0) a1_
  refine sm_T_go 4 (c1 := (6, [some (.inr (.inr (some (6, 0)))), some (.inl a1_), some (.inr (.inr (some (2, cc_)))), none, none, none, none], [.inl a1_, .inl 0, .inr (.inr (some (73, 0)))], S0_)) rfl ?_
  refine sm_T_iast (n := 3039) rfl rfl (by omega) (by omega) ?_
  have hIx1_ : gi (sm_aI S0_ 73 0 (0 : Int).toNat a1_) := gi_aI hI_ (show 0 ≤ a1_ ∧ a1_ ≤ 3039 from ⟨by omega, by omega⟩)
  have hFx2_ : ai_fr (sx_W vw_110) S0_ (sm_aI S0_ 73 0 (0 : Int).toNat a1_) := ai_fr_tr hF_ (ai_fr_aI rfl)
  have hCx3_ : cdf cc_ S0_ (sm_aI S0_ 73 0 (0 : Int).toNat a1_) := cdf_aI hC_ (Or.inl rfl)
  refine sm_T_go 4 (c1 := (12, [some (.inr (.inr (some (6, 0)))), some (.inl a1_), some (.inr (.inr (some (2, cc_)))), some (.inl 1), some (.inl 0), none, none], [], sm_aI S0_ 73 0 (0 : Int).toNat a1_)) rfl ?_
  refine (vl_110 a1_ dd_ ll_ cc_ S0_ hd_ hc_ hw_ hgt_ hs2_ hin_ _) 1 0 (sm_aI S0_ 73 0 (0 : Int).toNat a1_) hIx1_ hFx2_ ⟨?_, ?_, ?_, ?_, trivial⟩ (Nat.lt_succ_self _)
  · omega
  · intro i_ hi_
    have ei_ : i_ = 0 := by omega
    rw [rd_eq, if_pos (by omega)]
    exact ⟨hgt_, by omega⟩
  · (intro x_ u_ w_; rw [rd_ne (by decide)]; exact hin_ x_ u_ w_)
  · exact hCx3_
