/-! boards placed; written by wip/p55/gen/vg -/
/-! Board.placeAll -/
def vw_20 : sx_Wl := ([(0, 0), (0, 1), (0, 2), (0, 11), (0, 16), (4, 0)], [14, 15, 21], [])
def vq_20 (a2_ : Int) (ii_ : Nat) (cc_ : Nat) (S0_ : sm_S) (u_ : Option sm_V) (S1_ : sm_S) : Prop := ∃ v_ : Int, u_ = some (.inl v_) ∧ gi S1_ ∧ ai_fr (sx_W vw_20) S0_ S1_ ∧ (cdf ii_ S0_ S1_ ∧ ((-1 ≤ v_ ∧ v_ ≤ 12) ∧ bpl ii_ cc_ S1_ ∧ (S1_ = S0_ ∨ (S1_.1 0 ii_ 11 = 0 ∧ S1_.1 4 (0 + ii_) 0 = 0))))
set_option maxHeartbeats 400000 in
theorem vc_20 {sc_ : Nat × (Nat → Int)} (a2_ : Int) (ii_ : Nat) (cc_ : Nat) (S0_ : sm_S) (hI_ : gi S0_) (h1_ : 4 ≤ a2_ ∧ a2_ ≤ 60) (hb_ : bpn ii_ S0_) (hs_ : S0_.1 2 cc_ 1 + S0_.1 2 cc_ 2 ≤ 12) (hp_ : bpl ii_ cc_ S0_) : sm_T (mt_P sc_) 3 20 (0, [some (.inr (.inr (some (0, ii_)))), some (.inr (.inr (some (2, cc_)))), some (.inl a2_), none], [], S0_) (fun ro9_ => ∃ u_ S1_, ro9_ = (.inl u_, S1_, 0) ∧ vq_20 a2_ ii_ cc_ S0_ u_ S1_) := by
  have hF_ : ai_fr (sx_W vw_20) S0_ S0_ := ai_fr_rf
  have hC_ : cdf ii_ S0_ S0_ := cdf_rf
  have lb9_ := lo9_b (f_ := (S0_.2.2.1 16 (0 + ii_))) (w_ := a2_) (fun k_ => hI_.2 16 (0 + ii_) k_) h1_.1 (S0_.1 2 cc_ 2 + S0_.1 2 cc_ 8).toNat
  refine sm_T_go 4 (c1 := (4, [some (.inr (.inr (some (0, ii_)))), some (.inr (.inr (some (2, cc_)))), some (.inl a2_), none], [.inl 0, .inl a2_, .inr (.inr (some (2, cc_))), .inr (.inr (some (0, ii_)))], S0_)) rfl ?_
  refine sm_T_cal (d1 := 1) (Q1 := vq_21 a2_ 0 ii_ cc_ S0_) rfl rfl (by decide) (vc_21 a2_ 0 ii_ cc_ S0_ hI_ (by exact hI_) (by omega) (by decide) (by (intro u_; exact absurd rfl u_))) (fun u_ Sx1_ px4_ => ?_)
  obtain ⟨vx6_, rfl, hIx2_, hFx3_, px4_⟩ := px4_
  have hFx5_ : ai_fr (sx_W vw_20) S0_ Sx1_ := ai_fr_tr hF_ (fr_le hFx3_ rfl)
  obtain ⟨dx8_, px4_⟩ := px4_
  have hCx7_ : cdf ii_ S0_ Sx1_ := cdf_tr hC_ (cdf_cg (by omega) dx8_)
  have p4_ := px4_.1
  have p4z := px4_.2.1 rfl
  have p4e : (Sx1_.2.2.1 16 (0 + ii_)) = (S0_.2.2.1 16 (0 + ii_)) := by rw [p4z]
  refine sm_T_go 3 (c1 := (11, [some (.inr (.inr (some (0, ii_)))), some (.inr (.inr (some (2, cc_)))), some (.inl a2_), some (.inl vx6_)], [.inl 12, .inl vx6_], Sx1_)) rfl ?_
  refine sm_T_br (a := 5) (z := 5) rfl (fun cx9_ => ?_) (fun cx9_ => ?_)
  · have cx9_ : vx6_ ≤ 12 := of_decide_eq_true cx9_
    refine sm_T_go 4 (c1 := (20, [some (.inr (.inr (some (0, ii_)))), some (.inr (.inr (some (2, cc_)))), some (.inl a2_), some (.inl vx6_)], [.inl 1, .inl a2_, .inr (.inr (some (2, cc_))), .inr (.inr (some (0, ii_)))], Sx1_)) rfl ?_
    refine sm_T_cal (d1 := 1) (Q1 := vq_21 a2_ 1 ii_ cc_ Sx1_) rfl rfl (by decide) (vc_21 a2_ 1 ii_ cc_ Sx1_ hIx2_ (by exact hIx2_) (by omega) (by decide) (by (intro u_; rw [p4z]; omega))) (fun u_ Sx10_ px13_ => ?_)
    obtain ⟨vx15_, rfl, hIx11_, hFx12_, px13_⟩ := px13_
    have hFx14_ : ai_fr (sx_W vw_20) S0_ Sx10_ := ai_fr_tr hFx5_ (fr_le hFx12_ rfl)
    obtain ⟨dx17_, px13_⟩ := px13_
    have hCx16_ : cdf ii_ S0_ Sx10_ := cdf_tr hCx7_ (cdf_cg (by omega) dx17_)
    have p20_ := px13_.1
    have p20j := px13_.2.2 (by decide)
    have s20_ := hFx12_.2.2 16 rfl (0 + ii_)
    have i1_ := hFx12_.1 2 cc_ 1 rfl
    have i2_ := hFx12_.1 2 cc_ 2 rfl
    have i3_ := hFx12_.1 2 cc_ 3 rfl
    have i8_ := hFx12_.1 2 cc_ 8 rfl
    rw [p4z] at p20_ p20j s20_ i1_ i2_ i3_ i8_
    have hIx18_ : gi (sm_pI Sx10_ 0 ii_ 0 a2_) := gi_pI hIx11_ (show 0 ≤ a2_ ∧ a2_ ≤ 60 from ⟨by omega, by omega⟩)
    have hFx19_ : ai_fr (sx_W vw_20) S0_ (sm_pI Sx10_ 0 ii_ 0 a2_) := ai_fr_tr hFx14_ (ai_fr_pI rfl)
    have hCx20_ : cdf ii_ S0_ (sm_pI Sx10_ 0 ii_ 0 a2_) := cdf_pI hCx16_ (Or.inr (by rw [show cof 0 = 0 from rfl] <;> omega))
    have hIx21_ : gi (sm_pI (sm_pI Sx10_ 0 ii_ 0 a2_) 0 ii_ 1 vx6_) := gi_pI hIx18_ (show 0 ≤ vx6_ ∧ vx6_ ≤ 12 from ⟨by omega, by omega⟩)
    have hFx22_ : ai_fr (sx_W vw_20) S0_ (sm_pI (sm_pI Sx10_ 0 ii_ 0 a2_) 0 ii_ 1 vx6_) := ai_fr_tr hFx19_ (ai_fr_pI rfl)
    have hCx23_ : cdf ii_ S0_ (sm_pI (sm_pI Sx10_ 0 ii_ 0 a2_) 0 ii_ 1 vx6_) := cdf_pI hCx20_ (Or.inr (by rw [show cof 0 = 0 from rfl] <;> omega))
    have ex24_ : (sm_pI (sm_pI Sx10_ 0 ii_ 0 a2_) 0 ii_ 1 vx6_).1 0 ii_ 1 = vx6_ := by (try simp only [rf_eq, rf_nk, rf_nt, rd_fa, rd_af, ne_eq, Nat.reduceEqDiff, not_false_eq_true])
    refine sm_T_go 11 (c1 := (40, [some (.inr (.inr (some (0, ii_)))), some (.inr (.inr (some (2, cc_)))), some (.inl a2_), some (.inl vx6_)], [.inl ((sm_pI (sm_pI Sx10_ 0 ii_ 0 a2_) 0 ii_ 1 vx6_).1 0 ii_ 1), .inl 3, .inr (.inr (some (0, ii_)))], sm_pI (sm_pI Sx10_ 0 ii_ 0 a2_) 0 ii_ 1 vx6_)) rfl ?_
    refine sm_T_bin (w := 3 * ((sm_pI (sm_pI Sx10_ 0 ii_ 0 a2_) 0 ii_ 1 vx6_).1 0 ii_ 1)) rfl (bi_mul (by omega) (by omega) (by omega)) ?_ -- pc_ 40
    refine sm_T_go 1 (c1 := (42, [some (.inr (.inr (some (0, ii_)))), some (.inr (.inr (some (2, cc_)))), some (.inl a2_), some (.inl vx6_)], [.inl 2, .inl (3 * ((sm_pI (sm_pI Sx10_ 0 ii_ 0 a2_) 0 ii_ 1 vx6_).1 0 ii_ 1)), .inr (.inr (some (0, ii_)))], sm_pI (sm_pI Sx10_ 0 ii_ 0 a2_) 0 ii_ 1 vx6_)) rfl ?_
    refine sm_T_bin (w := 3 * ((sm_pI (sm_pI Sx10_ 0 ii_ 0 a2_) 0 ii_ 1 vx6_).1 0 ii_ 1) + 2) rfl (bi_add (by omega) (by omega) (by omega)) ?_ -- pc_ 42
    have bx25_ : 0 ≤ Sx10_.1 2 cc_ 1 ∧ Sx10_.1 2 cc_ 1 ≤ 12 := hIx11_.1 2 cc_ 1 rfl
    have bx26_ : 0 ≤ Sx10_.1 2 cc_ 3 ∧ Sx10_.1 2 cc_ 3 ≤ 16 := hIx11_.1 2 cc_ 3 rfl
    refine sm_T_go 4 (c1 := (51, [some (.inr (.inr (some (0, ii_)))), some (.inr (.inr (some (2, cc_)))), some (.inl a2_), some (.inl vx6_)], [.inl (Sx10_.1 2 cc_ 3), .inl (Sx10_.1 2 cc_ 1), .inl (3 * ((sm_pI (sm_pI Sx10_ 0 ii_ 0 a2_) 0 ii_ 1 vx6_).1 0 ii_ 1) + 2), .inr (.inr (some (0, ii_)))], sm_pI (sm_pI Sx10_ 0 ii_ 0 a2_) 0 ii_ 1 vx6_)) rfl ?_
    refine sm_T_nt (u := some (.inl (sm_mx (Sx10_.1 2 cc_ 1) (Sx10_.1 2 cc_ 3)))) (S1 := sm_pI (sm_pI Sx10_ 0 ii_ 0 a2_) 0 ii_ 1 vx6_) rfl rfl rfl ?_
    have bx27_ := sm_mx_d (Sx10_.1 2 cc_ 1) (Sx10_.1 2 cc_ 3)
    refine sm_T_nt (u := some (.inl (sm_mx (3 * ((sm_pI (sm_pI Sx10_ 0 ii_ 0 a2_) 0 ii_ 1 vx6_).1 0 ii_ 1) + 2) (sm_mx (Sx10_.1 2 cc_ 1) (Sx10_.1 2 cc_ 3))))) (S1 := sm_pI (sm_pI Sx10_ 0 ii_ 0 a2_) 0 ii_ 1 vx6_) rfl rfl rfl ?_
    have bx28_ := sm_mx_d (3 * ((sm_pI (sm_pI Sx10_ 0 ii_ 0 a2_) 0 ii_ 1 vx6_).1 0 ii_ 1) + 2) (sm_mx (Sx10_.1 2 cc_ 1) (Sx10_.1 2 cc_ 3))
    have hIx29_ : gi (sm_pI (sm_pI (sm_pI Sx10_ 0 ii_ 0 a2_) 0 ii_ 1 vx6_) 0 ii_ 2 (sm_mx (3 * ((sm_pI (sm_pI Sx10_ 0 ii_ 0 a2_) 0 ii_ 1 vx6_).1 0 ii_ 1) + 2) (sm_mx (Sx10_.1 2 cc_ 1) (Sx10_.1 2 cc_ 3)))) := gi_pI hIx21_ (show 0 ≤ (sm_mx (3 * ((sm_pI (sm_pI Sx10_ 0 ii_ 0 a2_) 0 ii_ 1 vx6_).1 0 ii_ 1) + 2) (sm_mx (Sx10_.1 2 cc_ 1) (Sx10_.1 2 cc_ 3))) ∧ (sm_mx (3 * ((sm_pI (sm_pI Sx10_ 0 ii_ 0 a2_) 0 ii_ 1 vx6_).1 0 ii_ 1) + 2) (sm_mx (Sx10_.1 2 cc_ 1) (Sx10_.1 2 cc_ 3))) ≤ 38 from ⟨by omega, by omega⟩)
    have hFx30_ : ai_fr (sx_W vw_20) S0_ (sm_pI (sm_pI (sm_pI Sx10_ 0 ii_ 0 a2_) 0 ii_ 1 vx6_) 0 ii_ 2 (sm_mx (3 * ((sm_pI (sm_pI Sx10_ 0 ii_ 0 a2_) 0 ii_ 1 vx6_).1 0 ii_ 1) + 2) (sm_mx (Sx10_.1 2 cc_ 1) (Sx10_.1 2 cc_ 3)))) := ai_fr_tr hFx22_ (ai_fr_pI rfl)
    have hCx31_ : cdf ii_ S0_ (sm_pI (sm_pI (sm_pI Sx10_ 0 ii_ 0 a2_) 0 ii_ 1 vx6_) 0 ii_ 2 (sm_mx (3 * ((sm_pI (sm_pI Sx10_ 0 ii_ 0 a2_) 0 ii_ 1 vx6_).1 0 ii_ 1) + 2) (sm_mx (Sx10_.1 2 cc_ 1) (Sx10_.1 2 cc_ 3)))) := cdf_pI hCx23_ (Or.inr (by rw [show cof 0 = 0 from rfl] <;> omega))
    refine sm_T_go 3 (c1 := (62, [some (.inr (.inr (some (0, ii_)))), some (.inr (.inr (some (2, cc_)))), some (.inl a2_), some (.inl vx6_)], [.inr (.inr (some (2, cc_))), .inr (.inr (some (0, ii_)))], sm_pI (sm_pI (sm_pI Sx10_ 0 ii_ 0 a2_) 0 ii_ 1 vx6_) 0 ii_ 2 (sm_mx (3 * ((sm_pI (sm_pI Sx10_ 0 ii_ 0 a2_) 0 ii_ 1 vx6_).1 0 ii_ 1) + 2) (sm_mx (Sx10_.1 2 cc_ 1) (Sx10_.1 2 cc_ 3))))) rfl ?_
    refine sm_T_cal (d1 := 2) (Q1 := vq_22 ii_ cc_ (sm_pI (sm_pI (sm_pI Sx10_ 0 ii_ 0 a2_) 0 ii_ 1 vx6_) 0 ii_ 2 (sm_mx (3 * ((sm_pI (sm_pI Sx10_ 0 ii_ 0 a2_) 0 ii_ 1 vx6_).1 0 ii_ 1) + 2) (sm_mx (Sx10_.1 2 cc_ 1) (Sx10_.1 2 cc_ 3))))) rfl rfl (by decide) (vc_22 ii_ cc_ (sm_pI (sm_pI (sm_pI Sx10_ 0 ii_ 0 a2_) 0 ii_ 1 vx6_) 0 ii_ 2 (sm_mx (3 * ((sm_pI (sm_pI Sx10_ 0 ii_ 0 a2_) 0 ii_ 1 vx6_).1 0 ii_ 1) + 2) (sm_mx (Sx10_.1 2 cc_ 1) (Sx10_.1 2 cc_ 3)))) hIx29_ (by exact bpn_fr hb_ hFx30_ rfl rfl rfl rfl) (by (simp only [rf_nt, rf_nk, ne_eq, Nat.reduceEqDiff, not_false_eq_true]; omega))) (fun u_ Sx32_ px35_ => ?_)
    obtain ⟨rfl, hIx33_, hFx34_, px35_⟩ := px35_
    have hFx36_ : ai_fr (sx_W vw_20) S0_ Sx32_ := ai_fr_tr hFx30_ (fr_le hFx34_ rfl)
    obtain ⟨dx38_, px35_⟩ := px35_
    have hCx37_ : cdf ii_ S0_ Sx32_ := cdf_tr hCx31_ (cdf_cg (by omega) dx38_)
    have m62_ := px35_
    have x0_ := hFx34_.1 0 ii_ 0 rfl
    have x1_ := hFx34_.1 0 ii_ 1 rfl
    have x2_ := hFx34_.1 0 ii_ 2 rfl
    have y1_ := hFx34_.1 2 cc_ 1 rfl
    have y2_ := hFx34_.1 2 cc_ 2 rfl
    have y3_ := hFx34_.1 2 cc_ 3 rfl
    have y8_ := hFx34_.1 2 cc_ 8 rfl
    simp only [rf_eq, rf_nt, rf_nk, ne_eq, Nat.reduceEqDiff, not_false_eq_true] at x0_ x1_ x2_ y1_ y2_ y3_ y8_ bx28_
    have z14_ := hFx34_.2.2 14 rfl (0 + ii_)
    have z15_ := hFx34_.2.2 15 rfl (0 + ii_)
    have z16_ := hFx34_.2.2 16 rfl (0 + ii_)
    have bx39_ : 0 ≤ Sx32_.1 0 ii_ 1 ∧ Sx32_.1 0 ii_ 1 ≤ 12 := hIx33_.1 0 ii_ 1 rfl
    refine sm_T_go 2 (c1 := (69, [some (.inr (.inr (some (0, ii_)))), some (.inr (.inr (some (2, cc_)))), some (.inl a2_), some (.inl vx6_)], [.inl (Sx32_.1 0 ii_ 1)], Sx32_)) rfl ?_
    refine sm_T_ri rfl ⟨_, _, rfl, _, rfl, hIx33_, hFx36_, ?_⟩
    refine ⟨hCx37_, ?_⟩
    refine ⟨by omega, ?_, Or.inr m62_⟩
    intro _
    rw [x0_, x1_, x2_, y1_, y2_, y3_, y8_]
    refine ⟨by omega, fun e_ he_ => ?_⟩
    have j9_ := p20j e_ (by omega)
    have k14_ := (z14_ e_).1
    have k15_ := (z15_ e_).1
    have k16_ := (z16_ e_).1
    simp only [rd_fa] at k14_ k15_ k16_
    have k20_ := (s20_ e_).1
    rw [k14_, k15_, k16_, k20_]
    omega
  · have cx9_ : ¬ (vx6_ ≤ 12) := of_decide_eq_false cx9_
    refine sm_T_go 1 (c1 := (15, [some (.inr (.inr (some (0, ii_)))), some (.inr (.inr (some (2, cc_)))), some (.inl a2_), some (.inl vx6_)], [.inl (-1)], Sx1_)) rfl ?_
    refine sm_T_ri rfl ⟨_, _, rfl, _, rfl, hIx2_, hFx5_, ?_⟩
    refine ⟨hCx7_, ?_⟩
    exact ⟨by omega, by rw [p4z]; exact hp_, Or.inl p4z⟩
