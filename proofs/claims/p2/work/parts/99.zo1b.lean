/-! Mapper.finishTask -/
def vw_114 : sx_Wl := ([(2, 8)], [35, 36], [])
def vq_114 (a1_ : Int) (dd_ : Nat) (ll_ : Nat) (cc_ : Nat) (S0_ : sm_S) (u_ : Option sm_V) (S1_ : sm_S) : Prop := ∃ v_ : Int, u_ = some (.inl v_) ∧ gi S1_ ∧ ai_fr (sx_W vw_114) S0_ S1_ ∧ (cdf cc_ S0_ S1_ ∧ (v_ = S0_.1 2 cc_ 1 + S0_.1 2 cc_ 2 + S0_.1 2 cc_ 8 ∧ S1_.1 2 cc_ 8 = S0_.1 2 cc_ 8 + 1))
set_option maxHeartbeats 400000 in
theorem vl_114 {sc_ : Nat × (Nat → Int)} (a1_ : Int) (dd_ : Nat) (ll_ : Nat) (cc_ : Nat) (S0_ : sm_S) (hd_ : S0_.2.1 6 0 0 = some dd_) (hc_ : S0_.2.1 6 0 1 = some ll_) (hw_ : wal (1 + S0_.1 3 dd_ 1 + S0_.1 3 dd_ 2) (S0_.1 3 dd_ 4) ll_ S0_) (hgt_ : gtk (1 + S0_.1 3 dd_ 1 + S0_.1 3 dd_ 2) (S0_.1 3 dd_ 4) (S0_.1 5 ll_ 2) (S0_.2.2.1 59 0) (S0_.2.2.1 62 0) a1_) (hni_ : ¬ (a1_ / 3 < (1 + S0_.1 3 dd_ 1 + S0_.1 3 dd_ 2) ∧ a1_ % 3 = 0)) (hs2_ : S0_.1 2 cc_ 1 + S0_.1 2 cc_ 2 ≤ 12) (hg8_ : S0_.1 2 cc_ 8 < 150) (hmd_ : ∀ k_ : Int, 0 ≤ k_ → k_ < pno (S0_.2.2.1 62 0) (S0_.2.2.1 55 (0 + ll_)) a1_ → S0_.2.2.1 72 0 (ptv (1 + S0_.1 3 dd_ 1 + S0_.1 3 dd_ 2) (S0_.2.2.1 60 0) (S0_.2.2.1 62 0) (S0_.2.2.1 63 0) (S0_.2.2.1 64 0) a1_ k_).toNat ≠ -1) : ∀ nn_ : Nat, (∀ (g9_ : Int) (c9_ : Int) (k_ : Int) (S_ : sm_S), gi S_ → ai_fr (sx_W vw_114) S0_ S_ → ((0 ≤ k_ ∧ k_ ≤ 3 ∧ g9_ = S0_.1 2 cc_ 8) ∧ (S_.1 2 cc_ 8 = S0_.1 2 cc_ 8) ∧ (cdf cc_ S0_ S_) ∧ True) → ((100 - k_).toNat) < nn_ → sm_T (mt_P sc_) 3 114 (59, [some (.inr (.inr (some (6, 0)))), some (.inl a1_), some (.inr (.inr (some (2, cc_)))), some (.inl g9_), some (.inl c9_), some (.inl k_)], [], S_) (fun ro9_ => ∃ u_ S1_, ro9_ = (.inl u_, S1_, 0) ∧ vq_114 a1_ dd_ ll_ cc_ S0_ u_ S1_)) := by
  intro nn_
  induction nn_ with
  | zero => exact fun _ _ _ _ _ _ _ h_ => absurd h_ (Nat.not_lt_zero _)
  | succ nn_ ih_ =>
    rintro g9_ c9_ k_ S_ hI_ hF_ ⟨h0_, h8_, hC_, -⟩ hm_
    have f59_ : S_.2.2.1 59 0 = S0_.2.2.1 59 0 := fr_arr hF_ rfl
    have f60_ : S_.2.2.1 60 0 = S0_.2.2.1 60 0 := fr_arr hF_ rfl
    have f62_ : S_.2.2.1 62 0 = S0_.2.2.1 62 0 := fr_arr hF_ rfl
    have f63_ : S_.2.2.1 63 0 = S0_.2.2.1 63 0 := fr_arr hF_ rfl
    have f64_ : S_.2.2.1 64 0 = S0_.2.2.1 64 0 := fr_arr hF_ rfl
    have f55_ : S_.2.2.1 55 (0 + ll_) = S0_.2.2.1 55 (0 + ll_) := fr_arr hF_ rfl
    have f1_ : S_.1 3 dd_ 1 = S0_.1 3 dd_ 1 := hF_.1 3 dd_ 1 rfl
    have f2_ : S_.1 3 dd_ 2 = S0_.1 3 dd_ 2 := hF_.1 3 dd_ 2 rfl
    have f4_ : S_.1 3 dd_ 4 = S0_.1 3 dd_ 4 := hF_.1 3 dd_ 4 rfl
    have f5_ : S_.1 5 ll_ 2 = S0_.1 5 ll_ 2 := hF_.1 5 ll_ 2 rfl
    have cI_ : 0 ≤ S_.1 3 dd_ 1 ∧ S_.1 3 dd_ 1 ≤ 320 := hI_.1 3 dd_ 1 rfl
    have cR_ : 0 ≤ S_.1 3 dd_ 2 ∧ S_.1 3 dd_ 2 ≤ 100000 := hI_.1 3 dd_ 2 rfl
    have cN_ : 0 ≤ S_.1 3 dd_ 4 ∧ S_.1 3 dd_ 4 ≤ 1013 := hI_.1 3 dd_ 4 rfl
    have hf_ : 1 ≤ (1 + S0_.1 3 dd_ 1 + S0_.1 3 dd_ 2) := by omega
    have f72_ : S_.2.2.1 72 0 = S0_.2.2.1 72 0 := fr_arr hF_ rfl
    have e1_ : S_.1 2 cc_ 1 = S0_.1 2 cc_ 1 := hF_.1 2 cc_ 1 rfl
    have e2_ : S_.1 2 cc_ 2 = S0_.1 2 cc_ 2 := hF_.1 2 cc_ 2 rfl
    have c8_ : 0 ≤ S_.1 2 cc_ 8 ∧ S_.1 2 cc_ 8 ≤ 150 := hI_.1 2 cc_ 8 rfl
    have t1_ := hgt_.1
    have t2_ := hgt_.2.1
    refine sm_T_go 3 (c1 := (63, [some (.inr (.inr (some (6, 0)))), some (.inl a1_), some (.inr (.inr (some (2, cc_)))), some (.inl g9_), some (.inl c9_), some (.inl k_)], [.inl a1_, .inr (.inr (some (6, 0))), .inl k_], S_)) rfl ?_
    refine sm_T_cal (d1 := 0) (Q1 := vq_111 a1_ ll_ S_) rfl rfl (by decide) (vc_111 a1_ ll_ S_ hI_ (by exact (hF_.2.1 6 0 1 rfl).trans hc_) (by omega)) (fun u_ Sx1_ px4_ => ?_)
    obtain ⟨rfl, vx6_, rfl, px4_⟩ := px4_
    have a63_ := px4_
    rw [f62_, f55_] at a63_
    refine sm_T_br (a := 3) (z := 32) rfl (fun cx7_ => ?_) (fun cx7_ => ?_)
    · have cx7_ : vx6_ ≤ k_ := of_decide_eq_true cx7_
      have bx8_ : 0 ≤ S_.1 2 cc_ 8 ∧ S_.1 2 cc_ 8 ≤ 150 := hI_.1 2 cc_ 8 rfl
      refine sm_T_go 4 (c1 := (104, [some (.inr (.inr (some (6, 0)))), some (.inl a1_), some (.inr (.inr (some (2, cc_)))), some (.inl g9_), some (.inl c9_), some (.inl k_)], [.inl 1, .inl (S_.1 2 cc_ 8), .inr (.inr (some (2, cc_)))], S_)) rfl ?_
      refine sm_T_bin (w := (S_.1 2 cc_ 8) + 1) rfl (bi_add (by omega) (by omega) (by omega)) ?_ -- pc_ 104
      have hIx9_ : gi (sm_pI S_ 2 cc_ 8 ((S_.1 2 cc_ 8) + 1)) := gi_pI hI_ (show 0 ≤ (S_.1 2 cc_ 8) + 1 ∧ (S_.1 2 cc_ 8) + 1 ≤ 150 from ⟨by omega, by omega⟩)
      have hFx10_ : ai_fr (sx_W vw_114) S0_ (sm_pI S_ 2 cc_ 8 ((S_.1 2 cc_ 8) + 1)) := ai_fr_tr hF_ (ai_fr_pI rfl)
      have hCx11_ : cdf cc_ S0_ (sm_pI S_ 2 cc_ 8 ((S_.1 2 cc_ 8) + 1)) := cdf_pI hC_ (Or.inr (by rw [show cof 2 = 0 from rfl] <;> omega))
      refine sm_T_go 2 (c1 := (109, [some (.inr (.inr (some (6, 0)))), some (.inl a1_), some (.inr (.inr (some (2, cc_)))), some (.inl g9_), some (.inl c9_), some (.inl k_)], [.inr (.inr (some (2, cc_)))], sm_pI S_ 2 cc_ 8 ((S_.1 2 cc_ 8) + 1))) rfl ?_
      refine sm_T_cal (d1 := 0) (Q1 := vq_54 cc_ (sm_pI S_ 2 cc_ 8 ((S_.1 2 cc_ 8) + 1))) rfl rfl (by decide) (vc_54 cc_ (sm_pI S_ 2 cc_ 8 ((S_.1 2 cc_ 8) + 1)) hIx9_ ) (fun u_ Sx12_ px15_ => ?_)
      obtain ⟨rfl, vx17_, rfl, px15_⟩ := px15_
      have a109_ := px15_
      refine sm_T_go 1 (c1 := (113, [some (.inr (.inr (some (6, 0)))), some (.inl a1_), some (.inr (.inr (some (2, cc_)))), some (.inl g9_), some (.inl c9_), some (.inl k_)], [.inl g9_, .inl vx17_], sm_pI S_ 2 cc_ 8 ((S_.1 2 cc_ 8) + 1))) rfl ?_
      refine sm_T_bin (w := vx17_ + g9_) rfl (bi_add (by omega) (by omega) (by omega)) ?_ -- pc_ 113
      refine sm_T_ri rfl ⟨_, _, rfl, _, rfl, hIx9_, hFx10_, ?_⟩
      refine ⟨hCx11_, ?_⟩
      (try simp only [rd_eq, rd_ne, rf_eq, rf_nk, rf_nt, rd_fa, rd_af, rd_fl, rd_al, rd_lf, rd_la, rd_leq, rd_lne, rd_fr, rd_ar, ne_eq, Nat.reduceEqDiff, not_false_eq_true] at *)
      omega
    · have cx7_ : ¬ (vx6_ ≤ k_) := of_decide_eq_false cx7_
      refine sm_T_go 4 (c1 := (75, [some (.inr (.inr (some (6, 0)))), some (.inl a1_), some (.inr (.inr (some (2, cc_)))), some (.inl g9_), some (.inl c9_), some (.inl k_)], [.inl g9_, .inl 3, .inr (.inr (some (36, (0 + cc_))))], S_)) rfl ?_
      refine sm_T_bin (w := 3 * g9_) rfl (bi_mul (by omega) (by omega) (by omega)) ?_ -- pc_ 75
      refine sm_T_go 1 (c1 := (78, [some (.inr (.inr (some (6, 0)))), some (.inl a1_), some (.inr (.inr (some (2, cc_)))), some (.inl g9_), some (.inl c9_), some (.inl k_)], [.inl k_, .inl (3 * g9_), .inr (.inr (some (36, (0 + cc_))))], S_)) rfl ?_
      refine sm_T_bin (w := 3 * g9_ + k_) rfl (bi_add (by omega) (by omega) (by omega)) ?_ -- pc_ 78
      refine sm_T_go 5 (c1 := (87, [some (.inr (.inr (some (6, 0)))), some (.inl a1_), some (.inr (.inr (some (2, cc_)))), some (.inl g9_), some (.inl c9_), some (.inl k_)], [.inl k_, .inl a1_, .inr (.inr (some (6, 0))), .inr (.inr (some (72, 0))), .inl (3 * g9_ + k_), .inr (.inr (some (36, (0 + cc_))))], S_)) rfl ?_
      refine sm_T_cal (d1 := 2) (Q1 := vq_112 a1_ k_ dd_ S_) rfl rfl (by decide) (vc_112 a1_ k_ dd_ S_ hI_ (by exact (hF_.2.1 6 0 0 rfl).trans hd_) (by omega) (by omega)) (fun u_ Sx18_ px21_ => ?_)
      obtain ⟨rfl, vx23_, rfl, px21_⟩ := px21_
      have a87_ := px21_
      rw [f1_, f2_, f60_, f62_, f63_, f64_] at a87_
      have gp_ := gtk_p hw_ hf_ hgt_ hni_ (k_ := k_) (by omega)
      have md9_ := hmd_ k_ (by omega) (by omega)
      rw [← a87_] at gp_ md9_
      have g13_ := gp_.1.1
      have g14_ := gp_.1.2.1
      rw [← f72_] at md9_
      refine sm_T_iald (n := 3039) rfl rfl (by omega) (by omega) ?_
      have bx24_ : (-1) ≤ S_.2.2.1 72 0 vx23_.toNat ∧ S_.2.2.1 72 0 vx23_.toNat ≤ 161 := hI_.2 72 0 _
      refine sm_T_iast (n := 450) rfl rfl (by omega) (by omega) ?_
      have hIx25_ : gi (sm_aI S_ 36 (0 + cc_) (3 * g9_ + k_).toNat (S_.2.2.1 72 0 vx23_.toNat)) := gi_aI hI_ (show 0 ≤ (S_.2.2.1 72 0 vx23_.toNat) ∧ (S_.2.2.1 72 0 vx23_.toNat) ≤ 161 from ⟨by omega, by omega⟩)
      have hFx26_ : ai_fr (sx_W vw_114) S0_ (sm_aI S_ 36 (0 + cc_) (3 * g9_ + k_).toNat (S_.2.2.1 72 0 vx23_.toNat)) := ai_fr_tr hF_ (ai_fr_aI rfl)
      have hCx27_ : cdf cc_ S0_ (sm_aI S_ 36 (0 + cc_) (3 * g9_ + k_).toNat (S_.2.2.1 72 0 vx23_.toNat)) := cdf_aI hC_ (Or.inr (by rw [show cof 36 = 0 from rfl] <;> omega))
      refine sm_T_inc (a := 5) (z := 1) (v := k_) (w := k_ + 1) rfl rfl (by omega) (by omega) (by omega) ?_ -- pc_ 92
      refine sm_T_go 1 (c1 := (59, [some (.inr (.inr (some (6, 0)))), some (.inl a1_), some (.inr (.inr (some (2, cc_)))), some (.inl g9_), some (.inl c9_), some (.inl (k_ + 1))], [], sm_aI S_ 36 (0 + cc_) (3 * g9_ + k_).toNat (S_.2.2.1 72 0 vx23_.toNat))) rfl ?_
      refine ih_ g9_ c9_ (k_ + 1) (sm_aI S_ 36 (0 + cc_) (3 * g9_ + k_).toNat (S_.2.2.1 72 0 vx23_.toNat)) hIx25_ hFx26_ ⟨?_, ?_, ?_, trivial⟩ ?_
      · omega
      · exact h8_
      · exact hCx27_
      · omega
set_option maxHeartbeats 400000 in
theorem vc_114 {sc_ : Nat × (Nat → Int)} (a1_ : Int) (dd_ : Nat) (ll_ : Nat) (cc_ : Nat) (S0_ : sm_S) (hI_ : gi S0_) (hd_ : S0_.2.1 6 0 0 = some dd_) (hc_ : S0_.2.1 6 0 1 = some ll_) (hw_ : wal (1 + S0_.1 3 dd_ 1 + S0_.1 3 dd_ 2) (S0_.1 3 dd_ 4) ll_ S0_) (hgt_ : gtk (1 + S0_.1 3 dd_ 1 + S0_.1 3 dd_ 2) (S0_.1 3 dd_ 4) (S0_.1 5 ll_ 2) (S0_.2.2.1 59 0) (S0_.2.2.1 62 0) a1_) (hni_ : ¬ (a1_ / 3 < (1 + S0_.1 3 dd_ 1 + S0_.1 3 dd_ 2) ∧ a1_ % 3 = 0)) (hs2_ : S0_.1 2 cc_ 1 + S0_.1 2 cc_ 2 ≤ 12) (hg8_ : S0_.1 2 cc_ 8 < 150) (hmd_ : ∀ k_ : Int, 0 ≤ k_ → k_ < pno (S0_.2.2.1 62 0) (S0_.2.2.1 55 (0 + ll_)) a1_ → S0_.2.2.1 72 0 (ptv (1 + S0_.1 3 dd_ 1 + S0_.1 3 dd_ 2) (S0_.2.2.1 60 0) (S0_.2.2.1 62 0) (S0_.2.2.1 63 0) (S0_.2.2.1 64 0) a1_ k_).toNat ≠ -1) : sm_T (mt_P sc_) 3 114 (0, [some (.inr (.inr (some (6, 0)))), some (.inl a1_), some (.inr (.inr (some (2, cc_)))), none, none, none], [], S0_) (fun ro9_ => ∃ u_ S1_, ro9_ = (.inl u_, S1_, 0) ∧ vq_114 a1_ dd_ ll_ cc_ S0_ u_ S1_) := by
  have hF_ : ai_fr (sx_W vw_114) S0_ S0_ := ai_fr_rf
  have hC_ : cdf cc_ S0_ S0_ := cdf_rf
  have cI_ : 0 ≤ S0_.1 3 dd_ 1 ∧ S0_.1 3 dd_ 1 ≤ 320 := hI_.1 3 dd_ 1 rfl
  have cR_ : 0 ≤ S0_.1 3 dd_ 2 ∧ S0_.1 3 dd_ 2 ≤ 100000 := hI_.1 3 dd_ 2 rfl
  have cN_ : 0 ≤ S0_.1 3 dd_ 4 ∧ S0_.1 3 dd_ 4 ≤ 1013 := hI_.1 3 dd_ 4 rfl
  have hf_ : 1 ≤ (1 + S0_.1 3 dd_ 1 + S0_.1 3 dd_ 2) := by omega
  have t1_ := hgt_.1
  have t2_ := hgt_.2.1
  have iv9_ := gtk_iv hw_ hf_ hgt_ hni_
  have ci_ : (-1) ≤ S0_.1 5 ll_ 2 ∧ S0_.1 5 ll_ 2 ≤ 11 := hI_.1 5 ll_ 2 rfl
  have c8_ : 0 ≤ S0_.1 2 cc_ 8 ∧ S0_.1 2 cc_ 8 ≤ 150 := hI_.1 2 cc_ 8 rfl
  have bx1_ : 0 ≤ S0_.1 2 cc_ 8 ∧ S0_.1 2 cc_ 8 ≤ 150 := hI_.1 2 cc_ 8 rfl
  refine sm_T_go 5 (c1 := (7, [some (.inr (.inr (some (6, 0)))), some (.inl a1_), some (.inr (.inr (some (2, cc_)))), some (.inl (S0_.1 2 cc_ 8)), none, none], [.inl 3, .inl a1_], S0_)) rfl ?_
  refine sm_T_bin (w := (a1_ % 3)) rfl (bi_rem (by omega) (by omega) (by omega) (by omega)) ?_ -- pc_ 7
  refine sm_T_go 1 (c1 := (9, [some (.inr (.inr (some (6, 0)))), some (.inl a1_), some (.inr (.inr (some (2, cc_)))), some (.inl (S0_.1 2 cc_ 8)), none, none], [.inl 2, .inl (a1_ % 3)], S0_)) rfl ?_
  refine sm_T_br (a := 1) (z := 8) rfl (fun cx2_ => ?_) (fun cx2_ => ?_)
  · have cx2_ : (a1_ % 3) ≠ 2 := of_decide_eq_true cx2_
    refine sm_T_go 5 (c1 := (24, [some (.inr (.inr (some (6, 0)))), some (.inl a1_), some (.inr (.inr (some (2, cc_)))), some (.inl (S0_.1 2 cc_ 8)), none, none], [.inl 3, .inl a1_, .inl 2, .inr (.inr (some (62, 0)))], S0_)) rfl ?_
    refine sm_T_bin (w := (a1_ / 3)) rfl (bi_div (by omega) (by omega) (by omega) (by omega)) ?_ -- pc_ 24
    refine sm_T_bin (w := 2 * (a1_ / 3)) rfl (bi_mul (by omega) (by omega) (by omega)) ?_ -- pc_ 25
    refine sm_T_go 2 (c1 := (28, [some (.inr (.inr (some (6, 0)))), some (.inl a1_), some (.inr (.inr (some (2, cc_)))), some (.inl (S0_.1 2 cc_ 8)), none, none], [.inl 3, .inl a1_, .inl (2 * (a1_ / 3)), .inr (.inr (some (62, 0)))], S0_)) rfl ?_
    refine sm_T_bin (w := (a1_ % 3)) rfl (bi_rem (by omega) (by omega) (by omega) (by omega)) ?_ -- pc_ 28
    refine sm_T_bin (w := 2 * (a1_ / 3) + (a1_ % 3)) rfl (bi_add (by omega) (by omega) (by omega)) ?_ -- pc_ 29
    refine sm_T_iald (n := 2026) rfl rfl (by omega) (by omega) ?_
    have bx3_ : (-2) ≤ S0_.2.2.1 62 0 (2 * (a1_ / 3) + (a1_ % 3)).toNat ∧ S0_.2.2.1 62 0 (2 * (a1_ / 3) + (a1_ % 3)).toNat ≤ 11 := hI_.2 62 0 _
    refine sm_T_go 5 (c1 := (40, [some (.inr (.inr (some (6, 0)))), some (.inl a1_), some (.inr (.inr (some (2, cc_)))), some (.inl (S0_.1 2 cc_ 8)), some (.inl (S0_.2.2.1 62 0 (2 * (a1_ / 3) + (a1_ % 3)).toNat)), none], [.inl (S0_.2.2.1 62 0 (2 * (a1_ / 3) + (a1_ % 3)).toNat), .inl (S0_.1 2 cc_ 8), .inr (.inr (some (35, (0 + cc_))))], S0_)) rfl ?_
    refine sm_T_b0 (a := 3) (z := 13) rfl (fun cx4_ => ?_) (fun cx4_ => ?_)
    · have cx4_ : 0 ≤ (S0_.2.2.1 62 0 (2 * (a1_ / 3) + (a1_ % 3)).toNat) := of_decide_eq_true cx4_
      refine sm_T_go 1 (c1 := (55, [some (.inr (.inr (some (6, 0)))), some (.inl a1_), some (.inr (.inr (some (2, cc_)))), some (.inl (S0_.1 2 cc_ 8)), some (.inl (S0_.2.2.1 62 0 (2 * (a1_ / 3) + (a1_ % 3)).toNat)), none], [.inl (S0_.2.2.1 62 0 (2 * (a1_ / 3) + (a1_ % 3)).toNat), .inl (S0_.1 2 cc_ 8), .inr (.inr (some (35, (0 + cc_))))], S0_)) rfl ?_
      refine sm_T_iast (n := 150) rfl rfl (by omega) (by omega) ?_
      have hIx5_ : gi (sm_aI S0_ 35 (0 + cc_) (S0_.1 2 cc_ 8).toNat (S0_.2.2.1 62 0 (2 * (a1_ / 3) + (a1_ % 3)).toNat)) := gi_aI hI_ (show 0 ≤ (S0_.2.2.1 62 0 (2 * (a1_ / 3) + (a1_ % 3)).toNat) ∧ (S0_.2.2.1 62 0 (2 * (a1_ / 3) + (a1_ % 3)).toNat) ≤ 11 from ⟨by omega, by omega⟩)
      have hFx6_ : ai_fr (sx_W vw_114) S0_ (sm_aI S0_ 35 (0 + cc_) (S0_.1 2 cc_ 8).toNat (S0_.2.2.1 62 0 (2 * (a1_ / 3) + (a1_ % 3)).toNat)) := ai_fr_tr hF_ (ai_fr_aI rfl)
      have hCx7_ : cdf cc_ S0_ (sm_aI S0_ 35 (0 + cc_) (S0_.1 2 cc_ 8).toNat (S0_.2.2.1 62 0 (2 * (a1_ / 3) + (a1_ % 3)).toNat)) := cdf_aI hC_ (Or.inr (by rw [show cof 35 = 0 from rfl] <;> omega))
      refine sm_T_go 2 (c1 := (59, [some (.inr (.inr (some (6, 0)))), some (.inl a1_), some (.inr (.inr (some (2, cc_)))), some (.inl (S0_.1 2 cc_ 8)), some (.inl (S0_.2.2.1 62 0 (2 * (a1_ / 3) + (a1_ % 3)).toNat)), some (.inl 0)], [], sm_aI S0_ 35 (0 + cc_) (S0_.1 2 cc_ 8).toNat (S0_.2.2.1 62 0 (2 * (a1_ / 3) + (a1_ % 3)).toNat))) rfl ?_
      refine (vl_114 a1_ dd_ ll_ cc_ S0_ hd_ hc_ hw_ hgt_ hni_ hs2_ hg8_ hmd_ _) (S0_.1 2 cc_ 8) (S0_.2.2.1 62 0 (2 * (a1_ / 3) + (a1_ % 3)).toNat) 0 (sm_aI S0_ 35 (0 + cc_) (S0_.1 2 cc_ 8).toNat (S0_.2.2.1 62 0 (2 * (a1_ / 3) + (a1_ % 3)).toNat)) hIx5_ hFx6_ ⟨?_, ?_, ?_, trivial⟩ (Nat.lt_succ_self _)
      · omega
      · rfl
      · exact hCx7_
    · have cx4_ : ¬ (0 ≤ (S0_.2.2.1 62 0 (2 * (a1_ / 3) + (a1_ % 3)).toNat)) := of_decide_eq_false cx4_
      refine sm_T_go 1 (c1 := (44, [some (.inr (.inr (some (6, 0)))), some (.inl a1_), some (.inr (.inr (some (2, cc_)))), some (.inl (S0_.1 2 cc_ 8)), some (.inl (S0_.2.2.1 62 0 (2 * (a1_ / 3) + (a1_ % 3)).toNat)), none], [.inr (.inr (some (6, 0))), .inl (S0_.1 2 cc_ 8), .inr (.inr (some (35, (0 + cc_))))], S0_)) rfl ?_
      refine sm_T_gr rfl rfl ((hF_.2.1 6 0 1 rfl).trans hc_) ?_
      have bx8_ : (-1) ≤ S0_.1 5 ll_ 2 ∧ S0_.1 5 ll_ 2 ≤ 11 := hI_.1 5 ll_ 2 rfl
      refine sm_T_go 2 (c1 := (55, [some (.inr (.inr (some (6, 0)))), some (.inl a1_), some (.inr (.inr (some (2, cc_)))), some (.inl (S0_.1 2 cc_ 8)), some (.inl (S0_.2.2.1 62 0 (2 * (a1_ / 3) + (a1_ % 3)).toNat)), none], [.inl (S0_.1 5 ll_ 2), .inl (S0_.1 2 cc_ 8), .inr (.inr (some (35, (0 + cc_))))], S0_)) rfl ?_
      refine sm_T_iast (n := 150) rfl rfl (by omega) (by omega) ?_
      have hIx9_ : gi (sm_aI S0_ 35 (0 + cc_) (S0_.1 2 cc_ 8).toNat (S0_.1 5 ll_ 2)) := gi_aI hI_ (show 0 ≤ (S0_.1 5 ll_ 2) ∧ (S0_.1 5 ll_ 2) ≤ 11 from ⟨by omega, by omega⟩)
      have hFx10_ : ai_fr (sx_W vw_114) S0_ (sm_aI S0_ 35 (0 + cc_) (S0_.1 2 cc_ 8).toNat (S0_.1 5 ll_ 2)) := ai_fr_tr hF_ (ai_fr_aI rfl)
      have hCx11_ : cdf cc_ S0_ (sm_aI S0_ 35 (0 + cc_) (S0_.1 2 cc_ 8).toNat (S0_.1 5 ll_ 2)) := cdf_aI hC_ (Or.inr (by rw [show cof 35 = 0 from rfl] <;> omega))
      refine sm_T_go 2 (c1 := (59, [some (.inr (.inr (some (6, 0)))), some (.inl a1_), some (.inr (.inr (some (2, cc_)))), some (.inl (S0_.1 2 cc_ 8)), some (.inl (S0_.2.2.1 62 0 (2 * (a1_ / 3) + (a1_ % 3)).toNat)), some (.inl 0)], [], sm_aI S0_ 35 (0 + cc_) (S0_.1 2 cc_ 8).toNat (S0_.1 5 ll_ 2))) rfl ?_
      refine (vl_114 a1_ dd_ ll_ cc_ S0_ hd_ hc_ hw_ hgt_ hni_ hs2_ hg8_ hmd_ _) (S0_.1 2 cc_ 8) (S0_.2.2.1 62 0 (2 * (a1_ / 3) + (a1_ % 3)).toNat) 0 (sm_aI S0_ 35 (0 + cc_) (S0_.1 2 cc_ 8).toNat (S0_.1 5 ll_ 2)) hIx9_ hFx10_ ⟨?_, ?_, ?_, trivial⟩ (Nat.lt_succ_self _)
      · omega
      · rfl
      · exact hCx11_
  · have cx2_ : ¬ ((a1_ % 3) ≠ 2) := of_decide_eq_false cx2_
    refine sm_T_go 9 (c1 := (44, [some (.inr (.inr (some (6, 0)))), some (.inl a1_), some (.inr (.inr (some (2, cc_)))), some (.inl (S0_.1 2 cc_ 8)), some (.inl (-2)), none], [.inr (.inr (some (6, 0))), .inl (S0_.1 2 cc_ 8), .inr (.inr (some (35, (0 + cc_))))], S0_)) rfl ?_
    refine sm_T_gr rfl rfl ((hF_.2.1 6 0 1 rfl).trans hc_) ?_
    have bx12_ : (-1) ≤ S0_.1 5 ll_ 2 ∧ S0_.1 5 ll_ 2 ≤ 11 := hI_.1 5 ll_ 2 rfl
    refine sm_T_go 2 (c1 := (55, [some (.inr (.inr (some (6, 0)))), some (.inl a1_), some (.inr (.inr (some (2, cc_)))), some (.inl (S0_.1 2 cc_ 8)), some (.inl (-2)), none], [.inl (S0_.1 5 ll_ 2), .inl (S0_.1 2 cc_ 8), .inr (.inr (some (35, (0 + cc_))))], S0_)) rfl ?_
    refine sm_T_iast (n := 150) rfl rfl (by omega) (by omega) ?_
    have hIx13_ : gi (sm_aI S0_ 35 (0 + cc_) (S0_.1 2 cc_ 8).toNat (S0_.1 5 ll_ 2)) := gi_aI hI_ (show 0 ≤ (S0_.1 5 ll_ 2) ∧ (S0_.1 5 ll_ 2) ≤ 11 from ⟨by omega, by omega⟩)
    have hFx14_ : ai_fr (sx_W vw_114) S0_ (sm_aI S0_ 35 (0 + cc_) (S0_.1 2 cc_ 8).toNat (S0_.1 5 ll_ 2)) := ai_fr_tr hF_ (ai_fr_aI rfl)
    have hCx15_ : cdf cc_ S0_ (sm_aI S0_ 35 (0 + cc_) (S0_.1 2 cc_ 8).toNat (S0_.1 5 ll_ 2)) := cdf_aI hC_ (Or.inr (by rw [show cof 35 = 0 from rfl] <;> omega))
    refine sm_T_go 2 (c1 := (59, [some (.inr (.inr (some (6, 0)))), some (.inl a1_), some (.inr (.inr (some (2, cc_)))), some (.inl (S0_.1 2 cc_ 8)), some (.inl (-2)), some (.inl 0)], [], sm_aI S0_ 35 (0 + cc_) (S0_.1 2 cc_ 8).toNat (S0_.1 5 ll_ 2))) rfl ?_
    refine (vl_114 a1_ dd_ ll_ cc_ S0_ hd_ hc_ hw_ hgt_ hni_ hs2_ hg8_ hmd_ _) (S0_.1 2 cc_ 8) (-2) 0 (sm_aI S0_ 35 (0 + cc_) (S0_.1 2 cc_ 8).toNat (S0_.1 5 ll_ 2)) hIx13_ hFx14_ ⟨?_, ?_, ?_, trivial⟩ (Nat.lt_succ_self _)
    · omega
    · rfl
    · exact hCx15_
