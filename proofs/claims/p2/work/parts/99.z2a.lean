/-! the reference: measures of cells; written by wip/p55/gen/vg -/

/-! measures of_ cells -/
theorem ms_w {b_ : Nat → Int} {n_ : Nat} {mo_ : Int} {x_ : pE Nat} {e_ : Int × Nat} (h_ : pb x_ (p_du b_ n_ 2) = .inl e_) : pb x_ (p_ms b_ n_ mo_) = .inl e_ := by
  cases x_ with
  | inl z_ => cases h_; rfl
  | inr q_ =>
    have h_ : p_du b_ n_ 2 q_ = .inl e_ := h_
    show p_ms b_ n_ mo_ q_ = .inl e_
    unfold p_du at h_
    unfold p_ms p_nu
    split at h_
    · cases h_
    · rename_i g_
      cases h_
      rw [if_neg g_]
      rfl
theorem ms_r {b_ : Nat → Int} {n_ q_ : Nat} {mo_ : Int} {x_ : pE Nat} (h_ : pb x_ (p_du b_ n_ 2) = .inr q_) : lx_kd b_ n_ q_ = 2 ∧ pb x_ (p_ms b_ n_ mo_) = if lx_vl b_ n_ q_ < 1 ∨ mo_ < lx_vl b_ n_ q_ then .inl (12, q_) else pb (p_ad b_ n_ q_) fun r_ => .inr (r_, lx_vl b_ n_ q_) := by
  obtain ⟨r_, h1_, h2_⟩ := pb_inr h_
  subst h1_
  unfold p_du at h2_
  split at h2_
  · rename_i g_
    cases h2_
    refine ⟨g_, ?_⟩
    show p_ms b_ n_ mo_ q_ = _
    unfold p_ms p_nu
    rw [if_pos g_]
    split <;> rfl
  · cases h2_
/-! M_.bounded -/
def vw_365 : sx_Wl := ([(13, 9), (13, 10), (13, 11)], [], [])
def vq_365 (mo_ : Int) (b_ : Nat → Int) (n_ : Nat) (T_ : Nat) (x_ : pE Nat) (S0_ : sm_S) (u_ : Option sm_V) (S1_ : sm_S) : Prop := ∃ v_ : Int, u_ = some (.inl v_) ∧ gi S1_ ∧ ai_fr (sx_W vw_365) S0_ S1_ ∧ (rg b_ n_ T_ (pb (pb (pb x_ (p_nd b_ n_ 44)) (p_ms b_ n_ mo_)) fun r_ => .inr r_.1) S1_ ∧ (∀ r_, pb (pb x_ (p_nd b_ n_ 44)) (p_ms b_ n_ mo_) = .inr r_ → v_ = r_.2) ∧ (-2147483648 ≤ v_ ∧ v_ ≤ 2147483647))
set_option maxHeartbeats 1000000 in
theorem vc_365 {sc_ : Nat × (Nat → Int)} (mo_ : Int) (b_ : Nat → Int) (n_ : Nat) (T_ : Nat) (x_ : pE Nat) (S0_ : sm_S) (hI_ : gi S0_) (ht_ : rtab b_ n_ T_ S0_) (hx_ : rg b_ n_ T_ x_ S0_) : sm_T (mt_P sc_) 4 365 (0, [some (.inr (.inr (some (13, 0)))), some (.inl mo_), none], [], S0_) (fun r_ => ∃ u_ S1_, r_ = (.inl u_, S1_, 0) ∧ vq_365 mo_ b_ n_ T_ x_ S0_ u_ S1_) := by
  have hF_ : ai_fr (sx_W vw_365) S0_ S0_ := ai_fr_rf
  refine sm_T_go 2 (c1 := (3, [some (.inr (.inr (some (13, 0)))), some (.inl mo_), none], [.inl 44, .inr (.inr (some (13, 0)))], S0_)) rfl ?_
  refine sm_T_cal (d1 := 3) (Q1 := vq_300 44 b_ n_ T_ x_ S0_) rfl rfl (by decide) (vc_300 44 b_ n_ T_ x_ S0_ hI_ (by exact ht_) (by exact hx_) (by decide)) (fun u_ Sx1_ px4_ => ?_)
  obtain ⟨rfl, hIx2_, hFx3_, px4_⟩ := px4_
  have hFx5_ : ai_fr (sx_W vw_365) S0_ Sx1_ := ai_fr_tr hF_ (fr_le hFx3_ rfl)
  have g3_ : rg b_ n_ T_ (pb x_ (p_nd b_ n_ 44)) Sx1_ := px4_
  have t3_ := rtab_fr ht_ hFx3_ rfl rfl rfl rfl rfl
  refine sm_T_go 2 (c1 := (8, [some (.inr (.inr (some (13, 0)))), some (.inl mo_), none], [.inl 2, .inr (.inr (some (13, 0)))], Sx1_)) rfl ?_
  refine sm_T_cal (d1 := 1) (Q1 := vq_299 2 b_ n_ T_ (pb x_ (p_nd b_ n_ 44)) Sx1_) rfl rfl (by decide) (vc_299 2 b_ n_ T_ (pb x_ (p_nd b_ n_ 44)) Sx1_ hIx2_ (by exact t3_) (by exact g3_) (by decide)) (fun u_ Sx6_ px9_ => ?_)
  obtain ⟨vx11_, rfl, hIx7_, hFx8_, px9_⟩ := px9_
  have hFx10_ : ai_fr (sx_W vw_365) S0_ Sx6_ := ai_fr_tr hFx5_ (fr_le hFx8_ rfl)
  have a8_ := px9_.1
  have g8_ := px9_.2
  have t8_ := rtab_fr t3_ hFx8_ rfl rfl rfl rfl rfl
  have at8_ := hFx8_.1 13 0 9 rfl
  have v8b : 0 ≤ vx11_ ∧ vx11_ ≤ 1280 := by rw [a8_, ← at8_]; exact hIx7_.1 13 0 9 rfl
  have nv17_ : ∀ r_ i3_ : Nat, Sx6_.1 13 0 9 = (i3_ : Int) → rp b_ n_ T_ i3_ r_ → lx_kd b_ n_ r_ = 2 → Sx6_.2.2.1 121 0 vx11_.toNat = lx_vl b_ n_ r_ ∧ Sx6_.2.2.1 120 0 vx11_.toNat = (r_ : Int) ∧ Sx6_.2.2.1 119 0 vx11_.toNat ≠ 4 := by intro r_ i3_ q1_ q2_ q3_; have q4_ := rp_at t8_ q2_; rw [show vx11_.toNat = i3_ by omega, q4_.1, q4_.2.1, q4_.2.2.1, q3_]; exact ⟨rfl, rfl, by decide⟩
  obtain ⟨nz_, hnz_⟩ : ∃ nz_, Sx6_.2.2.1 121 0 vx11_.toNat = nz_ := ⟨_, rfl⟩
  refine sm_T_go 2 (c1 := (13, [some (.inr (.inr (some (13, 0)))), some (.inl mo_), some (.inl vx11_)], [.inr (.inr (some (13, 0)))], Sx6_)) rfl ?_
  refine sm_T_cal (d1 := 0) (Q1 := vq_292  Sx6_) rfl rfl (by decide) (vc_292  Sx6_ hIx7_ ) (fun u_ Sx12_ px15_ => ?_)
  obtain ⟨rfl, vx17_, rfl, px15_⟩ := px15_
  have e13_ := px15_
  refine sm_T_b0 (a := 0) (z := 24) rfl (fun cx18_ => ?_) (fun cx18_ => ?_)
  · have cx18_ : vx17_ = 0 := of_decide_eq_true cx18_
    obtain ⟨e3_, he3_⟩ := rg_w g8_ (wr_if e13_ (by omega))
    have cw3_ := ms_w (mo_ := mo_) he3_
    rw [he3_] at g8_
    obtain ⟨x4_, hx4_, hx4b⟩ : ∃ x4_ : pE Nat, rg b_ n_ T_ x4_ _ ∧ x4_ = .inl e3_ := ⟨_, g8_, rfl⟩
    have t4_ := t8_
    have nz4_ := hnz_
    refine sm_T_go 1 (c1 := (41, [some (.inr (.inr (some (13, 0)))), some (.inl mo_), some (.inl vx11_)], [.inr (.inr (some (13, 0)))], Sx6_)) rfl ?_
    refine sm_T_cal (d1 := 2) (Q1 := vq_297 b_ n_ T_ x4_ Sx6_) rfl rfl (by decide) (vc_297 b_ n_ T_ x4_ Sx6_ hIx7_ (by exact t4_) (by exact hx4_) (by (intro z_ e_; rw [hx4b] at e_; first | (cases e_; done) | (cases e_; rw [cr.1]; decide)))) (fun u_ Sx19_ px22_ => ?_)
    obtain ⟨rfl, hIx20_, hFx21_, px22_⟩ := px22_
    have hFx23_ : ai_fr (sx_W vw_365) S0_ Sx19_ := ai_fr_tr hFx10_ (fr_le hFx21_ rfl)
    have g41_ := px22_.1
    rw [hx4b] at g41_
    have nz5_ : Sx19_.2.2.1 121 0 _ = nz_ := (by rw [fr_arr hFx21_ rfl]; exact nz4_)
    refine sm_T_go 3 (c1 := (49, [some (.inr (.inr (some (13, 0)))), some (.inl mo_), some (.inl vx11_)], [.inl vx11_, .inr (.inr (some (121, 0)))], Sx19_)) rfl ?_
    refine sm_T_iald (n := 65537) rfl rfl (by omega) (by omega) ?_
    have bx24_ : (-2147483648) ≤ Sx19_.2.2.1 121 0 vx11_.toNat ∧ Sx19_.2.2.1 121 0 vx11_.toNat ≤ 2147483647 := hIx20_.2 121 0 _
    refine sm_T_ri rfl ⟨_, _, rfl, _, rfl, hIx20_, hFx23_, ?_⟩
    refine ⟨?_, fun r_ hr_ => ?_, by omega⟩
    · first | (rw [cw3_]; exact g41_) | (rw [crv_]; first | exact g41_ | (rw [pb_as]; have z_ : (pb (p_ad b_ n_ q_) fun a_ => pb (.inr (a_, lx_vl b_ n_ q_)) fun r_ => .inr r_.1) = p_ad b_ n_ q_ := pb_id; rw [z_]; exact g41_))
    · first | (rw [cw3_] at hr_; cases hr_; done) | (rw [crv_] at hr_; first | (cases hr_; done) | (obtain ⟨r9_, z1_, z2_⟩ := pb_inr hr_; cases z2_; rw [nz5_, ← hnz_]; exact nv_.1))
  · have cx18_ : ¬ (vx17_ = 0) := of_decide_eq_false cx18_
    have hz4_ := rt_if e13_ (by omega)
    obtain ⟨q_, i3_, hq3_, e31_, e32_⟩ := rg_r g8_ hz4_
    have cr := ms_r (mo_ := mo_) hq3_
    have nv_ := nv17_ q_ i3_ e31_ e32_ cr.1
    refine sm_T_go 3 (c1 := (24, [some (.inr (.inr (some (13, 0)))), some (.inl mo_), some (.inl vx11_)], [.inl vx11_, .inr (.inr (some (121, 0)))], Sx6_)) rfl ?_
    refine sm_T_iald (n := 65537) rfl rfl (by omega) (by omega) ?_
    have bx25_ : (-2147483648) ≤ Sx6_.2.2.1 121 0 vx11_.toNat ∧ Sx6_.2.2.1 121 0 vx11_.toNat ≤ 2147483647 := hIx7_.2 121 0 _
    refine sm_T_go 2 (c1 := (27, [some (.inr (.inr (some (13, 0)))), some (.inl mo_), some (.inl vx11_)], [.inl mo_, .inl 1, .inl (Sx6_.2.2.1 121 0 vx11_.toNat)], Sx6_)) rfl ?_
    refine sm_T_cal (d1 := 0) (Q1 := vq_278 (Sx6_.2.2.1 121 0 vx11_.toNat) 1 mo_ Sx6_) rfl rfl (by decide) (vc_278 (Sx6_.2.2.1 121 0 vx11_.toNat) 1 mo_ Sx6_ hIx7_ ) (fun u_ Sx26_ px29_ => ?_)
    obtain ⟨rfl, vx31_, rfl, px29_⟩ := px29_
    have e27_ := px29_
    refine sm_T_b0 (a := 1) (z := 10) rfl (fun cx32_ => ?_) (fun cx32_ => ?_)
    · have cx32_ : vx31_ ≠ 0 := of_decide_eq_true cx32_
      rw [hq3_] at g8_
      obtain ⟨x4_, hx4_, hx4b⟩ : ∃ x4_ : pE Nat, rg b_ n_ T_ x4_ _ ∧ x4_ = .inr q_ := ⟨_, g8_, rfl⟩
      have crv_ := cr.2
      have e28_ := e27_.2.mp (by omega)
      rw [if_neg (by omega)] at crv_
      have t4_ := t8_
      have nz4_ := hnz_
      refine sm_T_go 1 (c1 := (41, [some (.inr (.inr (some (13, 0)))), some (.inl mo_), some (.inl vx11_)], [.inr (.inr (some (13, 0)))], Sx6_)) rfl ?_
      refine sm_T_cal (d1 := 2) (Q1 := vq_297 b_ n_ T_ x4_ Sx6_) rfl rfl (by decide) (vc_297 b_ n_ T_ x4_ Sx6_ hIx7_ (by exact t4_) (by exact hx4_) (by (intro z_ e_; rw [hx4b] at e_; first | (cases e_; done) | (cases e_; rw [cr.1]; decide)))) (fun u_ Sx33_ px36_ => ?_)
      obtain ⟨rfl, hIx34_, hFx35_, px36_⟩ := px36_
      have hFx37_ : ai_fr (sx_W vw_365) S0_ Sx33_ := ai_fr_tr hFx10_ (fr_le hFx35_ rfl)
      have g41_ := px36_.1
      rw [hx4b] at g41_
      have nz5_ : Sx33_.2.2.1 121 0 _ = nz_ := (by rw [fr_arr hFx35_ rfl]; exact nz4_)
      refine sm_T_go 3 (c1 := (49, [some (.inr (.inr (some (13, 0)))), some (.inl mo_), some (.inl vx11_)], [.inl vx11_, .inr (.inr (some (121, 0)))], Sx33_)) rfl ?_
      refine sm_T_iald (n := 65537) rfl rfl (by omega) (by omega) ?_
      have bx38_ : (-2147483648) ≤ Sx33_.2.2.1 121 0 vx11_.toNat ∧ Sx33_.2.2.1 121 0 vx11_.toNat ≤ 2147483647 := hIx34_.2 121 0 _
      refine sm_T_ri rfl ⟨_, _, rfl, _, rfl, hIx34_, hFx37_, ?_⟩
      refine ⟨?_, fun r_ hr_ => ?_, by omega⟩
      · first | (rw [cw3_]; exact g41_) | (rw [crv_]; first | exact g41_ | (rw [pb_as]; have z_ : (pb (p_ad b_ n_ q_) fun a_ => pb (.inr (a_, lx_vl b_ n_ q_)) fun r_ => .inr r_.1) = p_ad b_ n_ q_ := pb_id; rw [z_]; exact g41_))
      · first | (rw [cw3_] at hr_; cases hr_; done) | (rw [crv_] at hr_; first | (cases hr_; done) | (obtain ⟨r9_, z1_, z2_⟩ := pb_inr hr_; cases z2_; rw [nz5_, ← hnz_]; exact nv_.1))
    · have cx32_ : ¬ (vx31_ ≠ 0) := of_decide_eq_false cx32_
      have crv_ := cr.2
      have e28_ : ¬ (1 ≤ lx_vl b_ n_ q_ ∧ lx_vl b_ n_ q_ ≤ mo_) := fun z_ => by have := e27_.2.mpr (by omega); omega
      rw [if_pos (by omega)] at crv_
      refine sm_T_go 3 (c1 := (37, [some (.inr (.inr (some (13, 0)))), some (.inl mo_), some (.inl vx11_)], [.inl vx11_, .inl 12, .inr (.inr (some (13, 0)))], Sx6_)) rfl ?_
      refine sm_T_cal (d1 := 0) (Q1 := vq_293 12 vx11_ Sx6_) rfl rfl (by decide) (vc_293 12 vx11_ Sx6_ hIx7_ (by decide) (by omega)) (fun u_ Sx39_ px42_ => ?_)
      obtain ⟨rfl, hIx40_, hFx41_, px42_⟩ := px42_
      have hFx43_ : ai_fr (sx_W vw_365) S0_ Sx39_ := ai_fr_tr hFx10_ (fr_le hFx41_ rfl)
      have g36_ : rg b_ n_ T_ (.inl (12, q_)) Sx39_ := by rcases px42_ with z_ | z_; (exact absurd hz4_ z_.1); (exact ⟨z_.2.1.trans (if_neg nv_.2.2), z_.2.2.trans nv_.2.1, by show (12 : Int) ≠ 0; decide⟩)
      obtain ⟨x4_, hx4_, hx4b⟩ : ∃ x4_ : pE Nat, rg b_ n_ T_ x4_ Sx39_ ∧ x4_ = .inl (12, q_) := ⟨_, g36_, rfl⟩
      have t4_ := rtab_fr t8_ hFx41_ rfl rfl rfl rfl rfl
      have nz4_ : Sx39_.2.2.1 121 0 _ = nz_ := (by rw [fr_arr hFx41_ rfl]; exact hnz_)
      refine sm_T_go 1 (c1 := (41, [some (.inr (.inr (some (13, 0)))), some (.inl mo_), some (.inl vx11_)], [.inr (.inr (some (13, 0)))], Sx39_)) rfl ?_
      refine sm_T_cal (d1 := 2) (Q1 := vq_297 b_ n_ T_ x4_ Sx39_) rfl rfl (by decide) (vc_297 b_ n_ T_ x4_ Sx39_ hIx40_ (by exact t4_) (by exact hx4_) (by (intro z_ e_; rw [hx4b] at e_; first | (cases e_; done) | (cases e_; rw [cr.1]; decide)))) (fun u_ Sx44_ px47_ => ?_)
      obtain ⟨rfl, hIx45_, hFx46_, px47_⟩ := px47_
      have hFx48_ : ai_fr (sx_W vw_365) S0_ Sx44_ := ai_fr_tr hFx43_ (fr_le hFx46_ rfl)
      have g41_ := px47_.1
      rw [hx4b] at g41_
      have nz5_ : Sx44_.2.2.1 121 0 _ = nz_ := (by rw [fr_arr hFx46_ rfl]; exact nz4_)
      refine sm_T_go 3 (c1 := (49, [some (.inr (.inr (some (13, 0)))), some (.inl mo_), some (.inl vx11_)], [.inl vx11_, .inr (.inr (some (121, 0)))], Sx44_)) rfl ?_
      refine sm_T_iald (n := 65537) rfl rfl (by omega) (by omega) ?_
      have bx49_ : (-2147483648) ≤ Sx44_.2.2.1 121 0 vx11_.toNat ∧ Sx44_.2.2.1 121 0 vx11_.toNat ≤ 2147483647 := hIx45_.2 121 0 _
      refine sm_T_ri rfl ⟨_, _, rfl, _, rfl, hIx45_, hFx48_, ?_⟩
      refine ⟨?_, fun r_ hr_ => ?_, by omega⟩
      · first | (rw [cw3_]; exact g41_) | (rw [crv_]; first | exact g41_ | (rw [pb_as]; have z_ : (pb (p_ad b_ n_ q_) fun a_ => pb (.inr (a_, lx_vl b_ n_ q_)) fun r_ => .inr r_.1) = p_ad b_ n_ q_ := pb_id; rw [z_]; exact g41_))
      · first | (rw [cw3_] at hr_; cases hr_; done) | (rw [crv_] at hr_; first | (cases hr_; done) | (obtain ⟨r9_, z1_, z2_⟩ := pb_inr hr_; cases z2_; rw [nz5_, ← hnz_]; exact nv_.1))
