/-! the reference: new names; written by wip/p55/gen/vg -/

/-! new_ names -/
theorem nw_w {b_ : Nat → Int} {n_ M_ : Nat} {A_ : pA} {x_ : pE Nat} {e_ : Int × Nat} (h_ : pb x_ (p_du b_ n_ 1) = .inl e_) : pb x_ (p_nw b_ n_ A_ M_) = .inl e_ := by
  cases x_ with
  | inl z_ => exact h_
  | inr p_ =>
    rw [pb_r rfl] at h_ ⊢
    unfold p_du at h_
    split at h_
    · cases h_
    · rename_i g_
      cases h_
      exact if_neg g_
theorem nw_r {b_ : Nat → Int} {n_ M_ p_ : Nat} {A_ : pA} {x_ : pE Nat} (h_ : pb x_ (p_du b_ n_ 1) = .inr p_) : x_ = .inr p_ ∧ lx_kd b_ n_ p_ = 1 ∧ p_nw b_ n_ A_ M_ p_ = if p_fn b_ n_ A_ M_ p_ = -1 then (if (A_.1 M_ : Int) = 40 then .inl (15, p_) else p_ad b_ n_ p_) else .inl (10, p_) := by
  obtain ⟨q_, h1_, h2_⟩ := pb_inr h_
  subst h1_
  unfold p_du at h2_
  split at h2_
  · rename_i g_
    cases h2_
    exact ⟨rfl, g_, if_pos g_⟩
  · cases h2_
theorem ws_ex {S_ : sm_S} (hI_ : gi S_) : ∃ w_, ws w_ S_ := by
  have b1_ : 0 ≤ S_.1 13 0 32 ∧ S_.1 13 0 32 ≤ 1023 := hI_.1 13 0 32 rfl
  have : ∀ k_ : Nat, ∃ w_ : List (Int × Int), w_.length = k_ ∧ stk (S_.2.2.1 136 0) (w_.map fun x_ => x_.1) ∧ stk (S_.2.2.1 137 0) (w_.map fun x_ => x_.2) := by
    intro k_
    induction k_ with
    | zero => exact ⟨[], rfl, trivial, trivial⟩
    | succ k_ ih_ =>
      obtain ⟨w_, h1_, h2_, h3_⟩ := ih_
      refine ⟨(S_.2.2.1 136 0 k_, S_.2.2.1 137 0 k_) :: w_, by rw [List.length_cons, h1_], ⟨?_, h2_⟩, ⟨?_, h3_⟩⟩
      · show S_.2.2.1 136 0 (w_.map fun x_ => x_.1).length = S_.2.2.1 136 0 k_
        rw [List.length_map, h1_]
      · show S_.2.2.1 137 0 (w_.map fun x_ => x_.2).length = S_.2.2.1 137 0 k_
        rw [List.length_map, h1_]
  obtain ⟨w_, h1_, h2_, h3_⟩ := this (S_.1 13 0 32).toNat
  exact ⟨w_, by omega, h2_, h3_⟩
/-! M_.newName -/
def vw_306 : sx_Wl := ([(13, 9), (13, 10), (13, 11), (13, 25)], [], [])
def vq_306 (m_ : Int) (b_ : Nat → Int) (n_ : Nat) (T_ : Nat) (x_ : pE Nat) (A_ : pA) (M_ : Nat) (S0_ : sm_S) (u_ : Option sm_V) (S1_ : sm_S) : Prop := u_ = none ∧ gi S1_ ∧ ai_fr (sx_W vw_306) S0_ S1_ ∧ (rg b_ n_ T_ (pb x_ (p_nw b_ n_ A_ M_)) S1_ ∧ ∀ p_ r_, x_ = .inr p_ → p_nw b_ n_ A_ M_ p_ = .inr r_ → rtk b_ n_ T_ (S1_.1 13 0 25) p_)
set_option maxHeartbeats 1500000 in
theorem vc_306 {sc_ : Nat × (Nat → Int)} (m_ : Int) (b_ : Nat → Int) (n_ : Nat) (T_ : Nat) (x_ : pE Nat) (A_ : pA) (M_ : Nat) (S0_ : sm_S) (hI_ : gi S0_) (ht_ : rtab b_ n_ T_ S0_) (hx_ : rg b_ n_ T_ x_ S0_) (hmm_ : m_ = (M_ : Int) ∧ M_ ≤ 15) (hre_ : re1 b_ n_ T_ A_ M_ S0_) (hAM_ : A_.1 M_ ≤ 40) : sm_T (mt_P sc_) 3 306 (0, [some (.inr (.inr (some (13, 0)))), some (.inl m_)], [], S0_) (fun r_ => ∃ u_ S1_, r_ = (.inl u_, S1_, 0) ∧ vq_306 m_ b_ n_ T_ x_ A_ M_ S0_ u_ S1_) := by
  have hF_ : ai_fr (sx_W vw_306) S0_ S0_ := ai_fr_rf
  refine sm_T_go 3 (c1 := (3, [some (.inr (.inr (some (13, 0)))), some (.inl m_)], [.inl 1, .inr (.inr (some (13, 0))), .inr (.inr (some (13, 0)))], S0_)) rfl ?_
  refine sm_T_cal (d1 := 1) (Q1 := vq_299 1 b_ n_ T_ x_ S0_) rfl rfl (by decide) (vc_299 1 b_ n_ T_ x_ S0_ hI_ (by exact ht_) (by exact hx_) (by decide)) (fun u_ Sx1_ px4_ => ?_)
  obtain ⟨vx6_, rfl, hIx2_, hFx3_, px4_⟩ := px4_
  have hFx5_ : ai_fr (sx_W vw_306) S0_ Sx1_ := ai_fr_tr hF_ (fr_le hFx3_ rfl)
  have a3_ := px4_.1
  have g3_ := px4_.2
  have t3_ := rtab_fr ht_ hFx3_ rfl rfl rfl rfl rfl
  have at3_ := hFx3_.1 13 0 9 rfl
  have v3b : 0 ≤ vx6_ ∧ vx6_ ≤ 1280 := by rw [a3_, ← at3_]; exact hIx2_.1 13 0 9 rfl
  have re3_ := re1_fr hre_ hFx3_ rfl rfl rfl rfl rfl rfl
  have rt3_ : ∀ p_ i_ : Nat, Sx1_.1 13 0 9 = (i_ : Int) → rp b_ n_ T_ i_ p_ → lx_kd b_ n_ p_ = 1 → rtk b_ n_ T_ vx6_ p_ ∧ Sx1_.2.2.1 120 0 vx6_.toNat = (p_ : Int) ∧ Sx1_.2.2.1 119 0 vx6_.toNat ≠ 4 := by intro p_ i_ q1_ q2_ q3_; have q4_ := rp_at t3_ q2_; have q5_ := (rp_rtk t3_ q2_ q3_).1; rw [show vx6_ = (i_ : Int) by omega, Int.toNat_natCast]; exact ⟨q5_, q4_.2.1, by rw [q4_.1, q3_]; decide⟩
  have cn3_ : Sx1_.2.2.1 126 0 m_.toNat = (A_.1 M_ : Int) := by rw [show m_.toNat = M_ by omega]; exact re3_.1
  have hIx7_ : gi (sm_pI Sx1_ 13 0 25 vx6_) := gi_pI hIx2_ (show 0 ≤ vx6_ ∧ vx6_ ≤ 1280 from ⟨by omega, by omega⟩)
  have hFx8_ : ai_fr (sx_W vw_306) S0_ (sm_pI Sx1_ 13 0 25 vx6_) := ai_fr_tr hFx5_ (ai_fr_pI rfl)
  refine sm_T_go 2 (c1 := (10, [some (.inr (.inr (some (13, 0)))), some (.inl m_)], [.inr (.inr (some (13, 0)))], sm_pI Sx1_ 13 0 25 vx6_)) rfl ?_
  refine sm_T_cal (d1 := 0) (Q1 := vq_292  (sm_pI Sx1_ 13 0 25 vx6_)) rfl rfl (by decide) (vc_292  (sm_pI Sx1_ 13 0 25 vx6_) hIx7_ ) (fun u_ Sx9_ px12_ => ?_)
  obtain ⟨rfl, vx14_, rfl, px12_⟩ := px12_
  have e10_ := px12_
  refine sm_T_b0 (a := 0) (z := 26) rfl (fun cx15_ => ?_) (fun cx15_ => ?_)
  · have cx15_ : vx14_ = 0 := of_decide_eq_true cx15_
    obtain ⟨e3_, he3_⟩ := rg_w g3_ (wr_if e10_ (by omega))
    have nww_ := nw_w (A_ := A_) (M_ := M_) he3_
    rw [he3_] at g3_
    obtain ⟨x4_, hx4_, hx4b⟩ : ∃ x4_ : pE Nat, rg b_ n_ T_ x4_ _ ∧ x4_ = .inl e3_ := ⟨_, g3_, rfl⟩
    have t4_ := t3_
    refine sm_T_go 1 (c1 := (40, [some (.inr (.inr (some (13, 0)))), some (.inl m_)], [.inr (.inr (some (13, 0)))], sm_pI Sx1_ 13 0 25 vx6_)) rfl ?_
    refine sm_T_cal (d1 := 0) (Q1 := vq_292  (sm_pI Sx1_ 13 0 25 vx6_)) rfl rfl (by decide) (vc_292  (sm_pI Sx1_ 13 0 25 vx6_) hIx7_ ) (fun u_ Sx16_ px19_ => ?_)
    obtain ⟨rfl, vx21_, rfl, px19_⟩ := px19_
    have e40_ := px19_
    first | (have v41_ : vx21_ = 1 := e40_.trans (if_pos hz_)) | skip
    first | (have v40_ : vx21_ = 0 := (by rw [hx4b] at hx4_; rw [e40_, if_neg (fun z_ => hx4_.2.2 (hx4_.1.symm.trans z_))])) | skip
    refine sm_T_b0 (a := 0) (z := 24) rfl (fun cx22_ => ?_) (fun cx22_ => ?_)
    · have cx22_ : vx21_ = 0 := of_decide_eq_true cx22_
      refine sm_T_go 1 (c1 := (68, [some (.inr (.inr (some (13, 0)))), some (.inl m_)], [.inr (.inr (some (13, 0)))], sm_pI Sx1_ 13 0 25 vx6_)) rfl ?_
      refine sm_T_cal (d1 := 2) (Q1 := vq_297 b_ n_ T_ x4_ (sm_pI Sx1_ 13 0 25 vx6_)) rfl rfl (by decide) (vc_297 b_ n_ T_ x4_ (sm_pI Sx1_ 13 0 25 vx6_) hIx7_ (by exact t4_) (by first | exact hx4_) (by (first | (exfalso; omega) | (intro q_ e_; rw [hx4b] at e_; first | (cases e_; done) | (cases e_; rw [kk1_]; decide))))) (fun u_ Sx23_ px26_ => ?_)
      obtain ⟨rfl, hIx24_, hFx25_, px26_⟩ := px26_
      have hFx27_ : ai_fr (sx_W vw_306) S0_ Sx23_ := ai_fr_tr hFx8_ (fr_le hFx25_ rfl)
      have g68_ := px26_.1
      have n68_ := hFx25_.1 13 0 25 rfl
      refine sm_T_rv rfl ⟨_, _, rfl, rfl, hIx24_, hFx27_, ?_⟩
      first | (exfalso; omega) | (refine ⟨?_, fun p9_ r9_ hp9_ hr9_ => ?_⟩; (first | (rw [nww_]; rw [hx4b] at g68_; exact g68_) | (rw [hx9_, pb_r rfl, nwv_]; rw [hx4b] at g68_; exact g68_)); (first | (rw [hx9_] at hp9_; cases hp9_; first | (rw [nwv_] at hr9_; cases hr9_; done) | (rw [n68_]; exact rt_.1)) | (exfalso; rw [hp9_, pb_r rfl, hr9_] at nww_; cases nww_)))
    · have cx22_ : ¬ (vx21_ = 0) := of_decide_eq_false cx22_
      refine sm_T_go 3 (c1 := (51, [some (.inr (.inr (some (13, 0)))), some (.inl m_)], [.inl m_, .inr (.inr (some (126, 0)))], sm_pI Sx1_ 13 0 25 vx6_)) rfl ?_
      refine sm_T_iald (n := 16) rfl rfl (by omega) (by omega) ?_
      have bx28_ : 0 ≤ Sx1_.2.2.1 126 0 m_.toNat ∧ Sx1_.2.2.1 126 0 m_.toNat ≤ 40 := hIx2_.2 126 0 _
      refine sm_T_go 1 (c1 := (54, [some (.inr (.inr (some (13, 0)))), some (.inl m_)], [.inl 40, .inl (Sx1_.2.2.1 126 0 m_.toNat)], sm_pI Sx1_ 13 0 25 vx6_)) rfl ?_
      refine sm_T_br (a := 1) (z := 13) rfl (fun cx29_ => ?_) (fun cx29_ => ?_)
      · have cx29_ : (Sx1_.2.2.1 126 0 m_.toNat) ≠ 40 := of_decide_eq_true cx29_
        first | (rw [if_neg (by omega)] at nwv_) | skip
        refine sm_T_go 1 (c1 := (68, [some (.inr (.inr (some (13, 0)))), some (.inl m_)], [.inr (.inr (some (13, 0)))], sm_pI Sx1_ 13 0 25 vx6_)) rfl ?_
        refine sm_T_cal (d1 := 2) (Q1 := vq_297 b_ n_ T_ x4_ (sm_pI Sx1_ 13 0 25 vx6_)) rfl rfl (by decide) (vc_297 b_ n_ T_ x4_ (sm_pI Sx1_ 13 0 25 vx6_) hIx7_ (by exact t4_) (by first | exact hx4_) (by (first | (exfalso; omega) | (intro q_ e_; rw [hx4b] at e_; first | (cases e_; done) | (cases e_; rw [kk1_]; decide))))) (fun u_ Sx30_ px33_ => ?_)
        obtain ⟨rfl, hIx31_, hFx32_, px33_⟩ := px33_
        have hFx34_ : ai_fr (sx_W vw_306) S0_ Sx30_ := ai_fr_tr hFx8_ (fr_le hFx32_ rfl)
        have g68_ := px33_.1
        have n68_ := hFx32_.1 13 0 25 rfl
        refine sm_T_rv rfl ⟨_, _, rfl, rfl, hIx31_, hFx34_, ?_⟩
        first | (exfalso; omega) | (refine ⟨?_, fun p9_ r9_ hp9_ hr9_ => ?_⟩; (first | (rw [nww_]; rw [hx4b] at g68_; exact g68_) | (rw [hx9_, pb_r rfl, nwv_]; rw [hx4b] at g68_; exact g68_)); (first | (rw [hx9_] at hp9_; cases hp9_; first | (rw [nwv_] at hr9_; cases hr9_; done) | (rw [n68_]; exact rt_.1)) | (exfalso; rw [hp9_, pb_r rfl, hr9_] at nww_; cases nww_)))
      · have cx29_ : ¬ ((Sx1_.2.2.1 126 0 m_.toNat) ≠ 40) := of_decide_eq_false cx29_
        first | (rw [if_pos (by omega)] at nwv_) | skip
        refine sm_T_go 4 (c1 := (64, [some (.inr (.inr (some (13, 0)))), some (.inl m_)], [.inl vx6_, .inl 15, .inr (.inr (some (13, 0)))], sm_pI Sx1_ 13 0 25 vx6_)) rfl ?_
        refine sm_T_cal (d1 := 0) (Q1 := vq_293 15 vx6_ (sm_pI Sx1_ 13 0 25 vx6_)) rfl rfl (by decide) (vc_293 15 vx6_ (sm_pI Sx1_ 13 0 25 vx6_) hIx7_ (by decide) (by omega)) (fun u_ Sx35_ px38_ => ?_)
        obtain ⟨rfl, hIx36_, hFx37_, px38_⟩ := px38_
        have hFx39_ : ai_fr (sx_W vw_306) S0_ Sx35_ := ai_fr_tr hFx8_ (fr_le hFx37_ rfl)
        have t5_ := rtab_fr (S_ := (sm_pI Sx1_ 13 0 25 vx6_)) t4_ hFx37_ rfl rfl rfl rfl rfl
        have t4_ := t5_
        have g64_ : (∃ p_, x4_ = .inr p_) → True := fun _ => trivial
        first | (have g65_ : rg b_ n_ T_ (.inl (15, p_)) Sx35_ := (by rcases px38_ with z_ | z_; (exact absurd hz_ z_.1); (exact ⟨z_.2.1.trans (if_neg rt_.2.2), z_.2.2.trans rt_.2.1, by show (15 : Int) ≠ 0; decide⟩)); obtain ⟨x4_, hx4_, hx4b⟩ : ∃ x4_ : pE Nat, rg b_ n_ T_ x4_ Sx35_ ∧ x4_ = .inl (15, p_) := ⟨_, g65_, rfl⟩) | (obtain ⟨x4_, hx4_, hx4b⟩ : ∃ x4_ : pE Nat, rg b_ n_ T_ x4_ Sx35_ ∧ True := (by exfalso; omega))
        refine sm_T_go 1 (c1 := (68, [some (.inr (.inr (some (13, 0)))), some (.inl m_)], [.inr (.inr (some (13, 0)))], Sx35_)) rfl ?_
        refine sm_T_cal (d1 := 2) (Q1 := vq_297 b_ n_ T_ x4_ Sx35_) rfl rfl (by decide) (vc_297 b_ n_ T_ x4_ Sx35_ hIx36_ (by exact t4_) (by first | exact hx4_) (by (first | (exfalso; omega) | (intro q_ e_; rw [hx4b] at e_; first | (cases e_; done) | (cases e_; rw [kk1_]; decide))))) (fun u_ Sx40_ px43_ => ?_)
        obtain ⟨rfl, hIx41_, hFx42_, px43_⟩ := px43_
        have hFx44_ : ai_fr (sx_W vw_306) S0_ Sx40_ := ai_fr_tr hFx39_ (fr_le hFx42_ rfl)
        have g68_ := px43_.1
        have n68_ := hFx42_.1 13 0 25 rfl
        refine sm_T_rv rfl ⟨_, _, rfl, rfl, hIx41_, hFx44_, ?_⟩
        first | (exfalso; omega) | (refine ⟨?_, fun p9_ r9_ hp9_ hr9_ => ?_⟩; (first | (rw [nww_]; rw [hx4b] at g68_; exact g68_) | (rw [hx9_, pb_r rfl, nwv_]; rw [hx4b] at g68_; exact g68_)); (first | (rw [hx9_] at hp9_; cases hp9_; first | (rw [nwv_] at hr9_; cases hr9_; done) | (rw [n68_]; exact rt_.1)) | (exfalso; rw [hp9_, pb_r rfl, hr9_] at nww_; cases nww_)))
  · have cx15_ : ¬ (vx14_ = 0) := of_decide_eq_false cx15_
    have hz_ := rt_if e10_ (by omega)
    obtain ⟨p_, i_, hp3_, e31_, e32_⟩ := rg_r g3_ hz_
    have nr := nw_r (A_ := A_) (M_ := M_) hp3_
    have rt_ := rt3_ p_ i_ e31_ e32_ nr.2.1
    obtain ⟨hx9_, kk1_, nwv_⟩ := nr
    refine sm_T_go 4 (c1 := (22, [some (.inr (.inr (some (13, 0)))), some (.inl m_)], [.inl vx6_, .inl m_, .inr (.inr (some (13, 0)))], sm_pI Sx1_ 13 0 25 vx6_)) rfl ?_
    refine sm_T_cal (d1 := 1) (Q1 := vq_302 m_ vx6_ b_ n_ T_ A_ M_ p_ (sm_pI Sx1_ 13 0 25 vx6_)) rfl rfl (by decide) (vc_302 m_ vx6_ b_ n_ T_ A_ M_ p_ (sm_pI Sx1_ 13 0 25 vx6_) hIx7_ (by exact t3_) (by exact hmm_) (by exact re3_) (by exact hAM_) (by exact rt_.1)) (fun u_ Sx45_ px48_ => ?_)
    obtain ⟨rfl, vx50_, rfl, px48_⟩ := px48_
    have e22_ := px48_
    refine sm_T_go 1 (c1 := (26, [some (.inr (.inr (some (13, 0)))), some (.inl m_)], [.inl (-1), .inl vx50_], sm_pI Sx1_ 13 0 25 vx6_)) rfl ?_
    refine sm_T_br (a := 0) (z := 13) rfl (fun cx51_ => ?_) (fun cx51_ => ?_)
    · have cx51_ : vx50_ = (-1) := of_decide_eq_true cx51_
      rw [hp3_] at g3_
      obtain ⟨x4_, hx4_, hx4b⟩ : ∃ x4_ : pE Nat, rg b_ n_ T_ x4_ _ ∧ x4_ = .inr p_ := ⟨_, g3_, rfl⟩
      have t4_ := t3_
      rw [if_pos (by omega)] at nwv_
      refine sm_T_go 1 (c1 := (40, [some (.inr (.inr (some (13, 0)))), some (.inl m_)], [.inr (.inr (some (13, 0)))], sm_pI Sx1_ 13 0 25 vx6_)) rfl ?_
      refine sm_T_cal (d1 := 0) (Q1 := vq_292  (sm_pI Sx1_ 13 0 25 vx6_)) rfl rfl (by decide) (vc_292  (sm_pI Sx1_ 13 0 25 vx6_) hIx7_ ) (fun u_ Sx52_ px55_ => ?_)
      obtain ⟨rfl, vx57_, rfl, px55_⟩ := px55_
      have e40_ := px55_
      first | (have v41_ : vx57_ = 1 := e40_.trans (if_pos hz_)) | skip
      first | (have v40_ : vx57_ = 0 := (by rw [hx4b] at hx4_; rw [e40_, if_neg (fun z_ => hx4_.2.2 (hx4_.1.symm.trans z_))])) | skip
      refine sm_T_b0 (a := 0) (z := 24) rfl (fun cx58_ => ?_) (fun cx58_ => ?_)
      · have cx58_ : vx57_ = 0 := of_decide_eq_true cx58_
        refine sm_T_go 1 (c1 := (68, [some (.inr (.inr (some (13, 0)))), some (.inl m_)], [.inr (.inr (some (13, 0)))], sm_pI Sx1_ 13 0 25 vx6_)) rfl ?_
        refine sm_T_cal (d1 := 2) (Q1 := vq_297 b_ n_ T_ x4_ (sm_pI Sx1_ 13 0 25 vx6_)) rfl rfl (by decide) (vc_297 b_ n_ T_ x4_ (sm_pI Sx1_ 13 0 25 vx6_) hIx7_ (by exact t4_) (by first | exact hx4_) (by (first | (exfalso; omega) | (intro q_ e_; rw [hx4b] at e_; first | (cases e_; done) | (cases e_; rw [kk1_]; decide))))) (fun u_ Sx59_ px62_ => ?_)
        obtain ⟨rfl, hIx60_, hFx61_, px62_⟩ := px62_
        have hFx63_ : ai_fr (sx_W vw_306) S0_ Sx59_ := ai_fr_tr hFx8_ (fr_le hFx61_ rfl)
        have g68_ := px62_.1
        have n68_ := hFx61_.1 13 0 25 rfl
        refine sm_T_rv rfl ⟨_, _, rfl, rfl, hIx60_, hFx63_, ?_⟩
        first | (exfalso; omega) | (refine ⟨?_, fun p9_ r9_ hp9_ hr9_ => ?_⟩; (first | (rw [nww_]; rw [hx4b] at g68_; exact g68_) | (rw [hx9_, pb_r rfl, nwv_]; rw [hx4b] at g68_; exact g68_)); (first | (rw [hx9_] at hp9_; cases hp9_; first | (rw [nwv_] at hr9_; cases hr9_; done) | (rw [n68_]; exact rt_.1)) | (exfalso; rw [hp9_, pb_r rfl, hr9_] at nww_; cases nww_)))
      · have cx58_ : ¬ (vx57_ = 0) := of_decide_eq_false cx58_
        refine sm_T_go 3 (c1 := (51, [some (.inr (.inr (some (13, 0)))), some (.inl m_)], [.inl m_, .inr (.inr (some (126, 0)))], sm_pI Sx1_ 13 0 25 vx6_)) rfl ?_
        refine sm_T_iald (n := 16) rfl rfl (by omega) (by omega) ?_
        have bx64_ : 0 ≤ Sx1_.2.2.1 126 0 m_.toNat ∧ Sx1_.2.2.1 126 0 m_.toNat ≤ 40 := hIx2_.2 126 0 _
        refine sm_T_go 1 (c1 := (54, [some (.inr (.inr (some (13, 0)))), some (.inl m_)], [.inl 40, .inl (Sx1_.2.2.1 126 0 m_.toNat)], sm_pI Sx1_ 13 0 25 vx6_)) rfl ?_
        refine sm_T_br (a := 1) (z := 13) rfl (fun cx65_ => ?_) (fun cx65_ => ?_)
        · have cx65_ : (Sx1_.2.2.1 126 0 m_.toNat) ≠ 40 := of_decide_eq_true cx65_
          first | (rw [if_neg (by omega)] at nwv_) | skip
          refine sm_T_go 1 (c1 := (68, [some (.inr (.inr (some (13, 0)))), some (.inl m_)], [.inr (.inr (some (13, 0)))], sm_pI Sx1_ 13 0 25 vx6_)) rfl ?_
          refine sm_T_cal (d1 := 2) (Q1 := vq_297 b_ n_ T_ x4_ (sm_pI Sx1_ 13 0 25 vx6_)) rfl rfl (by decide) (vc_297 b_ n_ T_ x4_ (sm_pI Sx1_ 13 0 25 vx6_) hIx7_ (by exact t4_) (by first | exact hx4_) (by (first | (exfalso; omega) | (intro q_ e_; rw [hx4b] at e_; first | (cases e_; done) | (cases e_; rw [kk1_]; decide))))) (fun u_ Sx66_ px69_ => ?_)
          obtain ⟨rfl, hIx67_, hFx68_, px69_⟩ := px69_
          have hFx70_ : ai_fr (sx_W vw_306) S0_ Sx66_ := ai_fr_tr hFx8_ (fr_le hFx68_ rfl)
          have g68_ := px69_.1
          have n68_ := hFx68_.1 13 0 25 rfl
          refine sm_T_rv rfl ⟨_, _, rfl, rfl, hIx67_, hFx70_, ?_⟩
          first | (exfalso; omega) | (refine ⟨?_, fun p9_ r9_ hp9_ hr9_ => ?_⟩; (first | (rw [nww_]; rw [hx4b] at g68_; exact g68_) | (rw [hx9_, pb_r rfl, nwv_]; rw [hx4b] at g68_; exact g68_)); (first | (rw [hx9_] at hp9_; cases hp9_; first | (rw [nwv_] at hr9_; cases hr9_; done) | (rw [n68_]; exact rt_.1)) | (exfalso; rw [hp9_, pb_r rfl, hr9_] at nww_; cases nww_)))
        · have cx65_ : ¬ ((Sx1_.2.2.1 126 0 m_.toNat) ≠ 40) := of_decide_eq_false cx65_
          first | (rw [if_pos (by omega)] at nwv_) | skip
          refine sm_T_go 4 (c1 := (64, [some (.inr (.inr (some (13, 0)))), some (.inl m_)], [.inl vx6_, .inl 15, .inr (.inr (some (13, 0)))], sm_pI Sx1_ 13 0 25 vx6_)) rfl ?_
          refine sm_T_cal (d1 := 0) (Q1 := vq_293 15 vx6_ (sm_pI Sx1_ 13 0 25 vx6_)) rfl rfl (by decide) (vc_293 15 vx6_ (sm_pI Sx1_ 13 0 25 vx6_) hIx7_ (by decide) (by omega)) (fun u_ Sx71_ px74_ => ?_)
          obtain ⟨rfl, hIx72_, hFx73_, px74_⟩ := px74_
          have hFx75_ : ai_fr (sx_W vw_306) S0_ Sx71_ := ai_fr_tr hFx8_ (fr_le hFx73_ rfl)
          have t5_ := rtab_fr (S_ := (sm_pI Sx1_ 13 0 25 vx6_)) t4_ hFx73_ rfl rfl rfl rfl rfl
          have t4_ := t5_
          have g64_ : (∃ p_, x4_ = .inr p_) → True := fun _ => trivial
          first | (have g65_ : rg b_ n_ T_ (.inl (15, p_)) Sx71_ := (by rcases px74_ with z_ | z_; (exact absurd hz_ z_.1); (exact ⟨z_.2.1.trans (if_neg rt_.2.2), z_.2.2.trans rt_.2.1, by show (15 : Int) ≠ 0; decide⟩)); obtain ⟨x4_, hx4_, hx4b⟩ : ∃ x4_ : pE Nat, rg b_ n_ T_ x4_ Sx71_ ∧ x4_ = .inl (15, p_) := ⟨_, g65_, rfl⟩) | (obtain ⟨x4_, hx4_, hx4b⟩ : ∃ x4_ : pE Nat, rg b_ n_ T_ x4_ Sx71_ ∧ True := (by exfalso; omega))
          refine sm_T_go 1 (c1 := (68, [some (.inr (.inr (some (13, 0)))), some (.inl m_)], [.inr (.inr (some (13, 0)))], Sx71_)) rfl ?_
          refine sm_T_cal (d1 := 2) (Q1 := vq_297 b_ n_ T_ x4_ Sx71_) rfl rfl (by decide) (vc_297 b_ n_ T_ x4_ Sx71_ hIx72_ (by exact t4_) (by first | exact hx4_) (by (first | (exfalso; omega) | (intro q_ e_; rw [hx4b] at e_; first | (cases e_; done) | (cases e_; rw [kk1_]; decide))))) (fun u_ Sx76_ px79_ => ?_)
          obtain ⟨rfl, hIx77_, hFx78_, px79_⟩ := px79_
          have hFx80_ : ai_fr (sx_W vw_306) S0_ Sx76_ := ai_fr_tr hFx75_ (fr_le hFx78_ rfl)
          have g68_ := px79_.1
          have n68_ := hFx78_.1 13 0 25 rfl
          refine sm_T_rv rfl ⟨_, _, rfl, rfl, hIx77_, hFx80_, ?_⟩
          first | (exfalso; omega) | (refine ⟨?_, fun p9_ r9_ hp9_ hr9_ => ?_⟩; (first | (rw [nww_]; rw [hx4b] at g68_; exact g68_) | (rw [hx9_, pb_r rfl, nwv_]; rw [hx4b] at g68_; exact g68_)); (first | (rw [hx9_] at hp9_; cases hp9_; first | (rw [nwv_] at hr9_; cases hr9_; done) | (rw [n68_]; exact rt_.1)) | (exfalso; rw [hp9_, pb_r rfl, hr9_] at nww_; cases nww_)))
    · have cx51_ : ¬ (vx50_ = (-1)) := of_decide_eq_false cx51_
      rw [if_neg (by omega)] at nwv_
      refine sm_T_go 4 (c1 := (36, [some (.inr (.inr (some (13, 0)))), some (.inl m_)], [.inl vx6_, .inl 10, .inr (.inr (some (13, 0)))], sm_pI Sx1_ 13 0 25 vx6_)) rfl ?_
      refine sm_T_cal (d1 := 0) (Q1 := vq_293 10 vx6_ (sm_pI Sx1_ 13 0 25 vx6_)) rfl rfl (by decide) (vc_293 10 vx6_ (sm_pI Sx1_ 13 0 25 vx6_) hIx7_ (by decide) (by omega)) (fun u_ Sx81_ px84_ => ?_)
      obtain ⟨rfl, hIx82_, hFx83_, px84_⟩ := px84_
      have hFx85_ : ai_fr (sx_W vw_306) S0_ Sx81_ := ai_fr_tr hFx8_ (fr_le hFx83_ rfl)
      have g36_ : rg b_ n_ T_ (.inl (10, p_)) Sx81_ := by rcases px84_ with z_ | z_; (exact absurd hz_ z_.1); (exact ⟨z_.2.1.trans (if_neg rt_.2.2), z_.2.2.trans rt_.2.1, by show (10 : Int) ≠ 0; decide⟩)
      obtain ⟨x4_, hx4_, hx4b⟩ : ∃ x4_ : pE Nat, rg b_ n_ T_ x4_ Sx81_ ∧ x4_ = .inl (10, p_) := ⟨_, g36_, rfl⟩
      have t4_ := rtab_fr (S_ := (sm_pI Sx1_ 13 0 25 vx6_)) t3_ hFx83_ rfl rfl rfl rfl rfl
      refine sm_T_go 1 (c1 := (40, [some (.inr (.inr (some (13, 0)))), some (.inl m_)], [.inr (.inr (some (13, 0)))], Sx81_)) rfl ?_
      refine sm_T_cal (d1 := 0) (Q1 := vq_292  Sx81_) rfl rfl (by decide) (vc_292  Sx81_ hIx82_ ) (fun u_ Sx86_ px89_ => ?_)
      obtain ⟨rfl, vx91_, rfl, px89_⟩ := px89_
      have e40_ := px89_
      first | (have v41_ : vx91_ = 1 := e40_.trans (if_pos hz_)) | skip
      first | (have v40_ : vx91_ = 0 := (by rw [hx4b] at hx4_; rw [e40_, if_neg (fun z_ => hx4_.2.2 (hx4_.1.symm.trans z_))])) | skip
      refine sm_T_b0 (a := 0) (z := 24) rfl (fun cx92_ => ?_) (fun cx92_ => ?_)
      · have cx92_ : vx91_ = 0 := of_decide_eq_true cx92_
        refine sm_T_go 1 (c1 := (68, [some (.inr (.inr (some (13, 0)))), some (.inl m_)], [.inr (.inr (some (13, 0)))], Sx81_)) rfl ?_
        refine sm_T_cal (d1 := 2) (Q1 := vq_297 b_ n_ T_ x4_ Sx81_) rfl rfl (by decide) (vc_297 b_ n_ T_ x4_ Sx81_ hIx82_ (by exact t4_) (by first | exact hx4_) (by (first | (exfalso; omega) | (intro q_ e_; rw [hx4b] at e_; first | (cases e_; done) | (cases e_; rw [kk1_]; decide))))) (fun u_ Sx93_ px96_ => ?_)
        obtain ⟨rfl, hIx94_, hFx95_, px96_⟩ := px96_
        have hFx97_ : ai_fr (sx_W vw_306) S0_ Sx93_ := ai_fr_tr hFx85_ (fr_le hFx95_ rfl)
        have g68_ := px96_.1
        have n68_ := hFx95_.1 13 0 25 rfl
        refine sm_T_rv rfl ⟨_, _, rfl, rfl, hIx94_, hFx97_, ?_⟩
        first | (exfalso; omega) | (refine ⟨?_, fun p9_ r9_ hp9_ hr9_ => ?_⟩; (first | (rw [nww_]; rw [hx4b] at g68_; exact g68_) | (rw [hx9_, pb_r rfl, nwv_]; rw [hx4b] at g68_; exact g68_)); (first | (rw [hx9_] at hp9_; cases hp9_; first | (rw [nwv_] at hr9_; cases hr9_; done) | (rw [n68_]; exact rt_.1)) | (exfalso; rw [hp9_, pb_r rfl, hr9_] at nww_; cases nww_)))
      · have cx92_ : ¬ (vx91_ = 0) := of_decide_eq_false cx92_
        refine sm_T_go 3 (c1 := (51, [some (.inr (.inr (some (13, 0)))), some (.inl m_)], [.inl m_, .inr (.inr (some (126, 0)))], Sx81_)) rfl ?_
        refine sm_T_iald (n := 16) rfl rfl (by omega) (by omega) ?_
        have bx98_ : 0 ≤ Sx81_.2.2.1 126 0 m_.toNat ∧ Sx81_.2.2.1 126 0 m_.toNat ≤ 40 := hIx82_.2 126 0 _
        refine sm_T_go 1 (c1 := (54, [some (.inr (.inr (some (13, 0)))), some (.inl m_)], [.inl 40, .inl (Sx81_.2.2.1 126 0 m_.toNat)], Sx81_)) rfl ?_
        refine sm_T_br (a := 1) (z := 13) rfl (fun cx99_ => ?_) (fun cx99_ => ?_)
        · have cx99_ : (Sx81_.2.2.1 126 0 m_.toNat) ≠ 40 := of_decide_eq_true cx99_
          first | (rw [if_neg (by omega)] at nwv_) | skip
          refine sm_T_go 1 (c1 := (68, [some (.inr (.inr (some (13, 0)))), some (.inl m_)], [.inr (.inr (some (13, 0)))], Sx81_)) rfl ?_
          refine sm_T_cal (d1 := 2) (Q1 := vq_297 b_ n_ T_ x4_ Sx81_) rfl rfl (by decide) (vc_297 b_ n_ T_ x4_ Sx81_ hIx82_ (by exact t4_) (by first | exact hx4_) (by (first | (exfalso; omega) | (intro q_ e_; rw [hx4b] at e_; first | (cases e_; done) | (cases e_; rw [kk1_]; decide))))) (fun u_ Sx100_ px103_ => ?_)
          obtain ⟨rfl, hIx101_, hFx102_, px103_⟩ := px103_
          have hFx104_ : ai_fr (sx_W vw_306) S0_ Sx100_ := ai_fr_tr hFx85_ (fr_le hFx102_ rfl)
          have g68_ := px103_.1
          have n68_ := hFx102_.1 13 0 25 rfl
          refine sm_T_rv rfl ⟨_, _, rfl, rfl, hIx101_, hFx104_, ?_⟩
          first | (exfalso; omega) | (refine ⟨?_, fun p9_ r9_ hp9_ hr9_ => ?_⟩; (first | (rw [nww_]; rw [hx4b] at g68_; exact g68_) | (rw [hx9_, pb_r rfl, nwv_]; rw [hx4b] at g68_; exact g68_)); (first | (rw [hx9_] at hp9_; cases hp9_; first | (rw [nwv_] at hr9_; cases hr9_; done) | (rw [n68_]; exact rt_.1)) | (exfalso; rw [hp9_, pb_r rfl, hr9_] at nww_; cases nww_)))
        · have cx99_ : ¬ ((Sx81_.2.2.1 126 0 m_.toNat) ≠ 40) := of_decide_eq_false cx99_
          first | (rw [if_pos (by omega)] at nwv_) | skip
          have bx105_ : 0 ≤ Sx81_.1 13 0 25 ∧ Sx81_.1 13 0 25 ≤ 1280 := hIx82_.1 13 0 25 rfl
          refine sm_T_go 4 (c1 := (64, [some (.inr (.inr (some (13, 0)))), some (.inl m_)], [.inl (Sx81_.1 13 0 25), .inl 15, .inr (.inr (some (13, 0)))], Sx81_)) rfl ?_
          refine sm_T_cal (d1 := 0) (Q1 := vq_293 15 (Sx81_.1 13 0 25) Sx81_) rfl rfl (by decide) (vc_293 15 (Sx81_.1 13 0 25) Sx81_ hIx82_ (by decide) (by omega)) (fun u_ Sx106_ px109_ => ?_)
          obtain ⟨rfl, hIx107_, hFx108_, px109_⟩ := px109_
          have hFx110_ : ai_fr (sx_W vw_306) S0_ Sx106_ := ai_fr_tr hFx85_ (fr_le hFx108_ rfl)
          have ex111_ : Sx106_.1 13 0 25 = Sx81_.1 13 0 25 := hFx108_.1 13 0 25 rfl
          have t5_ := rtab_fr (S_ := Sx81_) t4_ hFx108_ rfl rfl rfl rfl rfl
          have t4_ := t5_
          have g64_ : (∃ p_, x4_ = .inr p_) → True := fun _ => trivial
          first | (have g65_ : rg b_ n_ T_ (.inl (15, p_)) Sx106_ := (by rcases px109_ with z_ | z_; (exact absurd hz_ z_.1); (exact ⟨z_.2.1.trans (if_neg rt_.2.2), z_.2.2.trans rt_.2.1, by show (15 : Int) ≠ 0; decide⟩)); obtain ⟨x4_, hx4_, hx4b⟩ : ∃ x4_ : pE Nat, rg b_ n_ T_ x4_ Sx106_ ∧ x4_ = .inl (15, p_) := ⟨_, g65_, rfl⟩) | (obtain ⟨x4_, hx4_, hx4b⟩ : ∃ x4_ : pE Nat, rg b_ n_ T_ x4_ Sx106_ ∧ True := (by exfalso; omega))
          refine sm_T_go 1 (c1 := (68, [some (.inr (.inr (some (13, 0)))), some (.inl m_)], [.inr (.inr (some (13, 0)))], Sx106_)) rfl ?_
          refine sm_T_cal (d1 := 2) (Q1 := vq_297 b_ n_ T_ x4_ Sx106_) rfl rfl (by decide) (vc_297 b_ n_ T_ x4_ Sx106_ hIx107_ (by exact t4_) (by first | exact hx4_) (by (first | (exfalso; omega) | (intro q_ e_; rw [hx4b] at e_; first | (cases e_; done) | (cases e_; rw [kk1_]; decide))))) (fun u_ Sx112_ px115_ => ?_)
          obtain ⟨rfl, hIx113_, hFx114_, px115_⟩ := px115_
          have hFx116_ : ai_fr (sx_W vw_306) S0_ Sx112_ := ai_fr_tr hFx110_ (fr_le hFx114_ rfl)
          have g68_ := px115_.1
          have n68_ := hFx114_.1 13 0 25 rfl
          refine sm_T_rv rfl ⟨_, _, rfl, rfl, hIx113_, hFx116_, ?_⟩
          first | (exfalso; omega) | (refine ⟨?_, fun p9_ r9_ hp9_ hr9_ => ?_⟩; (first | (rw [nww_]; rw [hx4b] at g68_; exact g68_) | (rw [hx9_, pb_r rfl, nwv_]; rw [hx4b] at g68_; exact g68_)); (first | (rw [hx9_] at hp9_; cases hp9_; first | (rw [nwv_] at hr9_; cases hr9_; done) | (rw [n68_]; exact rt_.1)) | (exfalso; rw [hp9_, pb_r rfl, hr9_] at nww_; cases nww_)))
