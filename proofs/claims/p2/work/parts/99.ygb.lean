/-! M_.width -/
def vw_307 : sx_Wl := ([(13, 9), (13, 10), (13, 11), (13, 26)], [], [])
def vq_307 (b_ : Nat → Int) (n_ : Nat) (T_ : Nat) (x_ : pE Nat) (S0_ : sm_S) (u_ : Option sm_V) (S1_ : sm_S) : Prop := u_ = none ∧ gi S1_ ∧ ai_fr (sx_W vw_307) S0_ S1_ ∧ (rg b_ n_ T_ (pb x_ (p_w1 b_ n_)) S1_ ∧ ∀ p_ u_, x_ = .inr p_ → p_wi b_ n_ p_ = .inr u_ → (S1_.1 13 0 26) = u_.2)
set_option maxHeartbeats 1500000 in
theorem vc_307 {sc_ : Nat × (Nat → Int)} (b_ : Nat → Int) (n_ : Nat) (T_ : Nat) (x_ : pE Nat) (S0_ : sm_S) (hI_ : gi S0_) (ht_ : rtab b_ n_ T_ S0_) (hx_ : rg b_ n_ T_ x_ S0_) : sm_T (mt_P sc_) 3 307 (0, [some (.inr (.inr (some (13, 0)))), none], [], S0_) (fun r_ => ∃ u_ S1_, r_ = (.inl u_, S1_, 0) ∧ vq_307 b_ n_ T_ x_ S0_ u_ S1_) := by
  have hF_ : ai_fr (sx_W vw_307) S0_ S0_ := ai_fr_rf
  have hIx1_ : gi (sm_pI S0_ 13 0 26 1) := gi_pI hI_ (show (-2147483648) ≤ 1 ∧ 1 ≤ 2147483647 from ⟨by omega, by omega⟩)
  have hFx2_ : ai_fr (sx_W vw_307) S0_ (sm_pI S0_ 13 0 26 1) := ai_fr_tr hF_ (ai_fr_pI rfl)
  refine sm_T_go 4 (c1 := (6, [some (.inr (.inr (some (13, 0)))), none], [.inr (.inr (some (13, 0)))], sm_pI S0_ 13 0 26 1)) rfl ?_
  refine sm_T_cal (d1 := 0) (Q1 := vq_292  (sm_pI S0_ 13 0 26 1)) rfl rfl (by decide) (vc_292  (sm_pI S0_ 13 0 26 1) hIx1_ ) (fun u_ Sx3_ px6_ => ?_)
  obtain ⟨rfl, vx8_, rfl, px6_⟩ := px6_
  have e6_ := px6_
  refine sm_T_b0 (a := 0) (z := 63) rfl (fun cx9_ => ?_) (fun cx9_ => ?_)
  · have cx9_ : vx8_ = 0 := of_decide_eq_true cx9_
    obtain ⟨e0_, rfl⟩ := rg_w hx_ (wr_if e6_ (by omega))
    refine sm_T_rv rfl ⟨_, _, rfl, rfl, hIx1_, hFx2_, ?_⟩
    first | (exact ⟨hx_, fun p9_ u9_ hp9_ _ => by cases hp9_⟩) | (have hp_ : p_wi b_ n_ p_ = .inr (p_, 1) := if_neg n58_; refine ⟨?_, fun p9_ u9_ hp9_ hu9_ => ?_⟩; (rw [pb_r rfl]; unfold p_w1; rw [hp_]; exact hx_); (cases hp9_; rw [hp_] at hu9_; cases hu9_; rfl)) | (refine ⟨?_, fun p9_ u9_ hp9_ hu9_ => ?_⟩; (rw [pb_r rfl]; unfold p_w1; first | (rw [cw3_]; rw [hx4b] at g68_; exact g68_) | (rw [crv_]; rw [hx4b] at g68_; first | exact g68_ | (rw [pb_r rfl] at g68_; cases hq9_ : p_ad b_ n_ q_ with | inl e_ => (rw [hq9_] at g68_; exact g68_) | inr r_ => (rw [hq9_] at g68_; exact g68_)))); (cases hp9_; first | (rw [cw3_] at hu9_; cases hu9_; done) | (rw [crv_] at hu9_; first | (cases hu9_; done) | (obtain ⟨r9_, z1_, z2_⟩ := pb_inr hu9_; cases z2_; rw [n68_]; exact nv_.1))))
  · have cx9_ : ¬ (vx8_ = 0) := of_decide_eq_false cx9_
    have hz_ := rt_if e6_ (by omega)
    obtain ⟨p_, i_, rfl, e1_, e2_⟩ := rg_r hx_ hz_
    refine sm_T_go 2 (c1 := (15, [some (.inr (.inr (some (13, 0)))), none], [.inl 58, .inr (.inr (some (13, 0)))], sm_pI S0_ 13 0 26 1)) rfl ?_
    refine sm_T_cal (d1 := 0) (Q1 := vq_295 58 b_ n_ T_ (.inr p_) (sm_pI S0_ 13 0 26 1)) rfl rfl (by decide) (vc_295 58 b_ n_ T_ (.inr p_) (sm_pI S0_ 13 0 26 1) hIx1_ (by exact ht_) (by exact hx_) (by decide)) (fun u_ Sx10_ px13_ => ?_)
    obtain ⟨rfl, vx15_, rfl, px13_⟩ := px13_
    have e15_ := px13_.2 p_ rfl
    have r15_ := px13_.1.1
    refine sm_T_b0 (a := 0) (z := 54) rfl (fun cx16_ => ?_) (fun cx16_ => ?_)
    · have cx16_ : vx15_ = 0 := of_decide_eq_true cx16_
      have n58_ : lx_kd b_ n_ p_ ≠ 58 := fun z_ => by have := e15_.mpr z_; omega
      refine sm_T_rv rfl ⟨_, _, rfl, rfl, hIx1_, hFx2_, ?_⟩
      first | (exact ⟨hx_, fun p9_ u9_ hp9_ _ => by cases hp9_⟩) | (have hp_ : p_wi b_ n_ p_ = .inr (p_, 1) := if_neg n58_; refine ⟨?_, fun p9_ u9_ hp9_ hu9_ => ?_⟩; (rw [pb_r rfl]; unfold p_w1; rw [hp_]; exact hx_); (cases hp9_; rw [hp_] at hu9_; cases hu9_; rfl)) | (refine ⟨?_, fun p9_ u9_ hp9_ hu9_ => ?_⟩; (rw [pb_r rfl]; unfold p_w1; first | (rw [cw3_]; rw [hx4b] at g68_; exact g68_) | (rw [crv_]; rw [hx4b] at g68_; first | exact g68_ | (rw [pb_r rfl] at g68_; cases hq9_ : p_ad b_ n_ q_ with | inl e_ => (rw [hq9_] at g68_; exact g68_) | inr r_ => (rw [hq9_] at g68_; exact g68_)))); (cases hp9_; first | (rw [cw3_] at hu9_; cases hu9_; done) | (rw [crv_] at hu9_; first | (cases hu9_; done) | (obtain ⟨r9_, z1_, z2_⟩ := pb_inr hu9_; cases z2_; rw [n68_]; exact nv_.1))))
    · have cx16_ : ¬ (vx15_ = 0) := of_decide_eq_false cx16_
      have k58_ : lx_kd b_ n_ p_ = 58 := e15_.mp (by omega)
      refine sm_T_go 1 (c1 := (22, [some (.inr (.inr (some (13, 0)))), none], [.inr (.inr (some (13, 0)))], sm_pI S0_ 13 0 26 1)) rfl ?_
      refine sm_T_cal (d1 := 2) (Q1 := vq_297 b_ n_ T_ (.inr p_) (sm_pI S0_ 13 0 26 1)) rfl rfl (by decide) (vc_297 b_ n_ T_ (.inr p_) (sm_pI S0_ 13 0 26 1) hIx1_ (by exact ht_) (by exact hx_) (by (intro q_ e_; cases e_; omega))) (fun u_ Sx17_ px20_ => ?_)
      obtain ⟨rfl, hIx18_, hFx19_, px20_⟩ := px20_
      have hFx21_ : ai_fr (sx_W vw_307) S0_ Sx17_ := ai_fr_tr hFx2_ (fr_le hFx19_ rfl)
      have g22_ := px20_.1
      rw [pb_r rfl] at g22_
      have t22_ := rtab_fr (S_ := (sm_pI S0_ 13 0 26 1)) ht_ hFx19_ rfl rfl rfl rfl rfl
      refine sm_T_go 2 (c1 := (27, [some (.inr (.inr (some (13, 0)))), none], [.inl 2, .inr (.inr (some (13, 0)))], Sx17_)) rfl ?_
      refine sm_T_cal (d1 := 1) (Q1 := vq_299 2 b_ n_ T_ (p_ad b_ n_ p_) Sx17_) rfl rfl (by decide) (vc_299 2 b_ n_ T_ (p_ad b_ n_ p_) Sx17_ hIx18_ (by exact t22_) (by exact g22_) (by decide)) (fun u_ Sx22_ px25_ => ?_)
      obtain ⟨vx27_, rfl, hIx23_, hFx24_, px25_⟩ := px25_
      have hFx26_ : ai_fr (sx_W vw_307) S0_ Sx22_ := ai_fr_tr hFx21_ (fr_le hFx24_ rfl)
      have a3_ := px25_.1
      have g3_ := px25_.2
      have t3_ := rtab_fr t22_ hFx24_ rfl rfl rfl rfl rfl
      have at3_ := hFx24_.1 13 0 9 rfl
      have v3b : 0 ≤ vx27_ ∧ vx27_ ≤ 1280 := by rw [a3_, ← at3_]; exact hIx23_.1 13 0 9 rfl
      have nv17_ : ∀ r_ i3_ : Nat, Sx22_.1 13 0 9 = (i3_ : Int) → rp b_ n_ T_ i3_ r_ → lx_kd b_ n_ r_ = 2 → Sx22_.2.2.1 121 0 vx27_.toNat = lx_vl b_ n_ r_ ∧ Sx22_.2.2.1 120 0 vx27_.toNat = (r_ : Int) ∧ Sx22_.2.2.1 119 0 vx27_.toNat ≠ 4 := by intro r_ i3_ q1_ q2_ q3_; have q4_ := rp_at t3_ q2_; rw [show vx27_.toNat = i3_ by omega, q4_.1, q4_.2.1, q4_.2.2.1, q3_]; exact ⟨rfl, rfl, by decide⟩
      refine sm_T_go 5 (c1 := (37, [some (.inr (.inr (some (13, 0)))), some (.inl vx27_)], [.inl vx27_, .inr (.inr (some (121, 0))), .inr (.inr (some (13, 0)))], Sx22_)) rfl ?_
      refine sm_T_iald (n := 65537) rfl rfl (by omega) (by omega) ?_
      have bx28_ : (-2147483648) ≤ Sx22_.2.2.1 121 0 vx27_.toNat ∧ Sx22_.2.2.1 121 0 vx27_.toNat ≤ 2147483647 := hIx23_.2 121 0 _
      have hIx29_ : gi (sm_pI Sx22_ 13 0 26 (Sx22_.2.2.1 121 0 vx27_.toNat)) := gi_pI hIx23_ (show (-2147483648) ≤ (Sx22_.2.2.1 121 0 vx27_.toNat) ∧ (Sx22_.2.2.1 121 0 vx27_.toNat) ≤ 2147483647 from ⟨by omega, by omega⟩)
      have hFx30_ : ai_fr (sx_W vw_307) S0_ (sm_pI Sx22_ 13 0 26 (Sx22_.2.2.1 121 0 vx27_.toNat)) := ai_fr_tr hFx26_ (ai_fr_pI rfl)
      refine sm_T_go 2 (c1 := (42, [some (.inr (.inr (some (13, 0)))), some (.inl vx27_)], [.inr (.inr (some (13, 0)))], sm_pI Sx22_ 13 0 26 (Sx22_.2.2.1 121 0 vx27_.toNat))) rfl ?_
      refine sm_T_cal (d1 := 0) (Q1 := vq_292  (sm_pI Sx22_ 13 0 26 (Sx22_.2.2.1 121 0 vx27_.toNat))) rfl rfl (by decide) (vc_292  (sm_pI Sx22_ 13 0 26 (Sx22_.2.2.1 121 0 vx27_.toNat)) hIx29_ ) (fun u_ Sx31_ px34_ => ?_)
      obtain ⟨rfl, vx36_, rfl, px34_⟩ := px34_
      have e42_ := px34_
      refine sm_T_b0 (a := 0) (z := 23) rfl (fun cx37_ => ?_) (fun cx37_ => ?_)
      · have cx37_ : vx36_ = 0 := of_decide_eq_true cx37_
        obtain ⟨e3_, he3_⟩ := rg_w g3_ (wr_if e42_ (by omega))
        have cw3_ := wi_w k58_ he3_
        rw [he3_] at g3_
        obtain ⟨x4_, hx4_, hx4b⟩ : ∃ x4_ : pE Nat, rg b_ n_ T_ x4_ _ ∧ x4_ = .inl e3_ := ⟨_, g3_, rfl⟩
        have t4_ := t3_
        refine sm_T_go 1 (c1 := (69, [some (.inr (.inr (some (13, 0)))), some (.inl vx27_)], [.inr (.inr (some (13, 0)))], sm_pI Sx22_ 13 0 26 (Sx22_.2.2.1 121 0 vx27_.toNat))) rfl ?_
        refine sm_T_cal (d1 := 2) (Q1 := vq_297 b_ n_ T_ x4_ (sm_pI Sx22_ 13 0 26 (Sx22_.2.2.1 121 0 vx27_.toNat))) rfl rfl (by decide) (vc_297 b_ n_ T_ x4_ (sm_pI Sx22_ 13 0 26 (Sx22_.2.2.1 121 0 vx27_.toNat)) hIx29_ (by exact t4_) (by exact hx4_) (by (intro z_ e_; rw [hx4b] at e_; first | (cases e_; done) | (cases e_; rw [cr.1]; decide)))) (fun u_ Sx38_ px41_ => ?_)
        obtain ⟨rfl, hIx39_, hFx40_, px41_⟩ := px41_
        have hFx42_ : ai_fr (sx_W vw_307) S0_ Sx38_ := ai_fr_tr hFx30_ (fr_le hFx40_ rfl)
        have g68_ := px41_.1
        have n68_ := hFx40_.1 13 0 26 rfl
        refine sm_T_rv rfl ⟨_, _, rfl, rfl, hIx39_, hFx42_, ?_⟩
        first | (exact ⟨hx_, fun p9_ u9_ hp9_ _ => by cases hp9_⟩) | (have hp_ : p_wi b_ n_ p_ = .inr (p_, 1) := if_neg n58_; refine ⟨?_, fun p9_ u9_ hp9_ hu9_ => ?_⟩; (rw [pb_r rfl]; unfold p_w1; rw [hp_]; exact hx_); (cases hp9_; rw [hp_] at hu9_; cases hu9_; rfl)) | (refine ⟨?_, fun p9_ u9_ hp9_ hu9_ => ?_⟩; (rw [pb_r rfl]; unfold p_w1; first | (rw [cw3_]; rw [hx4b] at g68_; exact g68_) | (rw [crv_]; rw [hx4b] at g68_; first | exact g68_ | (rw [pb_r rfl] at g68_; cases hq9_ : p_ad b_ n_ q_ with | inl e_ => (rw [hq9_] at g68_; exact g68_) | inr r_ => (rw [hq9_] at g68_; exact g68_)))); (cases hp9_; first | (rw [cw3_] at hu9_; cases hu9_; done) | (rw [crv_] at hu9_; first | (cases hu9_; done) | (obtain ⟨r9_, z1_, z2_⟩ := pb_inr hu9_; cases z2_; rw [n68_]; exact nv_.1))))
      · have cx37_ : ¬ (vx36_ = 0) := of_decide_eq_false cx37_
        have hz4_ := rt_if e42_ (by omega)
        obtain ⟨q_, i3_, hq3_, e31_, e32_⟩ := rg_r g3_ hz4_
        have cr := wi_r k58_ hq3_
        have nv_ := nv17_ q_ i3_ e31_ e32_ cr.1
        refine sm_T_go 4 (c1 := (55, [some (.inr (.inr (some (13, 0)))), some (.inl vx27_)], [.inl 8, .inl 1, .inl (Sx22_.2.2.1 121 0 vx27_.toNat)], sm_pI Sx22_ 13 0 26 (Sx22_.2.2.1 121 0 vx27_.toNat))) rfl ?_
        refine sm_T_cal (d1 := 0) (Q1 := vq_278 (Sx22_.2.2.1 121 0 vx27_.toNat) 1 8 (sm_pI Sx22_ 13 0 26 (Sx22_.2.2.1 121 0 vx27_.toNat))) rfl rfl (by decide) (vc_278 (Sx22_.2.2.1 121 0 vx27_.toNat) 1 8 (sm_pI Sx22_ 13 0 26 (Sx22_.2.2.1 121 0 vx27_.toNat)) hIx29_ ) (fun u_ Sx43_ px46_ => ?_)
        obtain ⟨rfl, vx48_, rfl, px46_⟩ := px46_
        have e55_ := px46_
        refine sm_T_b0 (a := 1) (z := 10) rfl (fun cx49_ => ?_) (fun cx49_ => ?_)
        · have cx49_ : vx48_ ≠ 0 := of_decide_eq_true cx49_
          have hin_ : 1 ≤ lx_vl b_ n_ q_ ∧ lx_vl b_ n_ q_ ≤ 8 := by have := e55_.2.mp (by omega); omega
          rw [hq3_] at g3_
          obtain ⟨x4_, hx4_, hx4b⟩ : ∃ x4_ : pE Nat, rg b_ n_ T_ x4_ _ ∧ x4_ = .inr q_ := ⟨_, g3_, rfl⟩
          have t4_ := t3_
          have crv_ := cr.2
          rw [if_neg (by omega)] at crv_
          refine sm_T_go 1 (c1 := (69, [some (.inr (.inr (some (13, 0)))), some (.inl vx27_)], [.inr (.inr (some (13, 0)))], sm_pI Sx22_ 13 0 26 (Sx22_.2.2.1 121 0 vx27_.toNat))) rfl ?_
          refine sm_T_cal (d1 := 2) (Q1 := vq_297 b_ n_ T_ x4_ (sm_pI Sx22_ 13 0 26 (Sx22_.2.2.1 121 0 vx27_.toNat))) rfl rfl (by decide) (vc_297 b_ n_ T_ x4_ (sm_pI Sx22_ 13 0 26 (Sx22_.2.2.1 121 0 vx27_.toNat)) hIx29_ (by exact t4_) (by exact hx4_) (by (intro z_ e_; rw [hx4b] at e_; first | (cases e_; done) | (cases e_; rw [cr.1]; decide)))) (fun u_ Sx50_ px53_ => ?_)
          obtain ⟨rfl, hIx51_, hFx52_, px53_⟩ := px53_
          have hFx54_ : ai_fr (sx_W vw_307) S0_ Sx50_ := ai_fr_tr hFx30_ (fr_le hFx52_ rfl)
          have g68_ := px53_.1
          have n68_ := hFx52_.1 13 0 26 rfl
          refine sm_T_rv rfl ⟨_, _, rfl, rfl, hIx51_, hFx54_, ?_⟩
          first | (exact ⟨hx_, fun p9_ u9_ hp9_ _ => by cases hp9_⟩) | (have hp_ : p_wi b_ n_ p_ = .inr (p_, 1) := if_neg n58_; refine ⟨?_, fun p9_ u9_ hp9_ hu9_ => ?_⟩; (rw [pb_r rfl]; unfold p_w1; rw [hp_]; exact hx_); (cases hp9_; rw [hp_] at hu9_; cases hu9_; rfl)) | (refine ⟨?_, fun p9_ u9_ hp9_ hu9_ => ?_⟩; (rw [pb_r rfl]; unfold p_w1; first | (rw [cw3_]; rw [hx4b] at g68_; exact g68_) | (rw [crv_]; rw [hx4b] at g68_; first | exact g68_ | (rw [pb_r rfl] at g68_; cases hq9_ : p_ad b_ n_ q_ with | inl e_ => (rw [hq9_] at g68_; exact g68_) | inr r_ => (rw [hq9_] at g68_; exact g68_)))); (cases hp9_; first | (rw [cw3_] at hu9_; cases hu9_; done) | (rw [crv_] at hu9_; first | (cases hu9_; done) | (obtain ⟨r9_, z1_, z2_⟩ := pb_inr hu9_; cases z2_; rw [n68_]; exact nv_.1))))
        · have cx49_ : ¬ (vx48_ ≠ 0) := of_decide_eq_false cx49_
          have hin_ : lx_vl b_ n_ q_ < 1 ∨ 8 < lx_vl b_ n_ q_ := by have e39_ := e55_.2; by_cases z_ : 1 ≤ lx_vl b_ n_ q_ ∧ lx_vl b_ n_ q_ ≤ 8; (have := e39_.mpr (by omega); omega); omega
          have crv_ := cr.2
          rw [if_pos hin_] at crv_
          refine sm_T_go 3 (c1 := (65, [some (.inr (.inr (some (13, 0)))), some (.inl vx27_)], [.inl vx27_, .inl 12, .inr (.inr (some (13, 0)))], sm_pI Sx22_ 13 0 26 (Sx22_.2.2.1 121 0 vx27_.toNat))) rfl ?_
          refine sm_T_cal (d1 := 0) (Q1 := vq_293 12 vx27_ (sm_pI Sx22_ 13 0 26 (Sx22_.2.2.1 121 0 vx27_.toNat))) rfl rfl (by decide) (vc_293 12 vx27_ (sm_pI Sx22_ 13 0 26 (Sx22_.2.2.1 121 0 vx27_.toNat)) hIx29_ (by decide) (by omega)) (fun u_ Sx55_ px58_ => ?_)
          obtain ⟨rfl, hIx56_, hFx57_, px58_⟩ := px58_
          have hFx59_ : ai_fr (sx_W vw_307) S0_ Sx55_ := ai_fr_tr hFx30_ (fr_le hFx57_ rfl)
          have g36_ : rg b_ n_ T_ (.inl (12, q_)) Sx55_ := by rcases px58_ with z_ | z_; (exact absurd hz4_ z_.1); (exact ⟨z_.2.1.trans (if_neg nv_.2.2), z_.2.2.trans nv_.2.1, by show (12 : Int) ≠ 0; decide⟩)
          obtain ⟨x4_, hx4_, hx4b⟩ : ∃ x4_ : pE Nat, rg b_ n_ T_ x4_ Sx55_ ∧ x4_ = .inl (12, q_) := ⟨_, g36_, rfl⟩
          have t4_ := rtab_fr (S_ := (sm_pI Sx22_ 13 0 26 (Sx22_.2.2.1 121 0 vx27_.toNat))) t3_ hFx57_ rfl rfl rfl rfl rfl
          refine sm_T_go 1 (c1 := (69, [some (.inr (.inr (some (13, 0)))), some (.inl vx27_)], [.inr (.inr (some (13, 0)))], Sx55_)) rfl ?_
          refine sm_T_cal (d1 := 2) (Q1 := vq_297 b_ n_ T_ x4_ Sx55_) rfl rfl (by decide) (vc_297 b_ n_ T_ x4_ Sx55_ hIx56_ (by exact t4_) (by exact hx4_) (by (intro z_ e_; rw [hx4b] at e_; first | (cases e_; done) | (cases e_; rw [cr.1]; decide)))) (fun u_ Sx60_ px63_ => ?_)
          obtain ⟨rfl, hIx61_, hFx62_, px63_⟩ := px63_
          have hFx64_ : ai_fr (sx_W vw_307) S0_ Sx60_ := ai_fr_tr hFx59_ (fr_le hFx62_ rfl)
          have g68_ := px63_.1
          have n68_ := hFx62_.1 13 0 26 rfl
          refine sm_T_rv rfl ⟨_, _, rfl, rfl, hIx61_, hFx64_, ?_⟩
          first | (exact ⟨hx_, fun p9_ u9_ hp9_ _ => by cases hp9_⟩) | (have hp_ : p_wi b_ n_ p_ = .inr (p_, 1) := if_neg n58_; refine ⟨?_, fun p9_ u9_ hp9_ hu9_ => ?_⟩; (rw [pb_r rfl]; unfold p_w1; rw [hp_]; exact hx_); (cases hp9_; rw [hp_] at hu9_; cases hu9_; rfl)) | (refine ⟨?_, fun p9_ u9_ hp9_ hu9_ => ?_⟩; (rw [pb_r rfl]; unfold p_w1; first | (rw [cw3_]; rw [hx4b] at g68_; exact g68_) | (rw [crv_]; rw [hx4b] at g68_; first | exact g68_ | (rw [pb_r rfl] at g68_; cases hq9_ : p_ad b_ n_ q_ with | inl e_ => (rw [hq9_] at g68_; exact g68_) | inr r_ => (rw [hq9_] at g68_; exact g68_)))); (cases hp9_; first | (rw [cw3_] at hu9_; cases hu9_; done) | (rw [crv_] at hu9_; first | (cases hu9_; done) | (obtain ⟨r9_, z1_, z2_⟩ := pb_inr hu9_; cases z2_; rw [n68_]; exact nv_.1))))
