/-! Reader.namePart -/
def vw_144 : sx_Wl := ([(7, 2), (10, 6), (10, 7)], [74], [])
def vq_144 (s_ : Int) (d_ : Int) (y_ : Int) (o_ : List (Int × Nat)) (g_ : List Int) (c_ : List Int) (b_ : Nat → Int) (n_ : Nat) (p_ : Nat) (A_ : pA) (M_ : Nat) (dd_ : Nat) (S0_ : sm_S) (u_ : Option sm_V) (S1_ : sm_S) : Prop := ∃ v_ : Int, u_ = some (.inl v_) ∧ gi S1_ ∧ ai_fr (sx_W vw_144) S0_ S1_ ∧ (¬ (p_fn b_ n_ A_ dd_ p_ = -1 ∨ A_.2.2.1 (40 * dd_ + (p_fn b_ n_ A_ dd_ p_).toNat) ≠ 1) ∧ v_ = A_.2.2.2.1 (40 * dd_ + (p_fn b_ n_ A_ dd_ p_).toNat) ∧ xr false o_ g_ (cw 10 s_ (p_fn b_ n_ A_ dd_ p_) :: c_) S1_)
def vx_144 (s_ : Int) (d_ : Int) (y_ : Int) (o_ : List (Int × Nat)) (g_ : List Int) (c_ : List Int) (b_ : Nat → Int) (n_ : Nat) (p_ : Nat) (A_ : pA) (M_ : Nat) (dd_ : Nat) (S0_ : sm_S) (S1_ : sm_S) : Prop := gi S1_ ∧ ai_fr (sx_W vw_144) S0_ S1_ ∧ ((p_fn b_ n_ A_ dd_ p_ = -1 ∨ A_.2.2.1 (40 * dd_ + (p_fn b_ n_ A_ dd_ p_).toNat) ≠ 1) ∧ ter S1_ (11, p_))
set_option maxHeartbeats 400000 in
theorem vc_144 {sc_ : Nat × (Nat → Int)} (s_ : Int) (d_ : Int) (y_ : Int) (o_ : List (Int × Nat)) (g_ : List Int) (c_ : List Int) (b_ : Nat → Int) (n_ : Nat) (p_ : Nat) (A_ : pA) (M_ : Nat) (dd_ : Nat) (S0_ : sm_S) (hI_ : gi S0_) (hx_ : xr false o_ g_ c_ S0_) (hc_ : ct b_ n_ p_ S0_) (hr_ : er b_ n_ A_ M_ S0_) (hd_ : d_ = (dd_ : Int) ∧ dd_ ≤ M_) (hy_ : y_ = p_fn b_ n_ A_ dd_ p_) (hs_ : 0 ≤ s_ ∧ s_ < 64) (hl_ : c_.length ≤ 65535) : sm_T (mt_P sc_) 1 144 (0, [some (.inr (.inr (some (7, 0)))), some (.inl s_), some (.inl d_), some (.inl y_), none], [], S0_) (fun r_ => (∃ u_ S1_, r_ = (.inl u_, S1_, 0) ∧ vq_144 s_ d_ y_ o_ g_ c_ b_ n_ p_ A_ M_ dd_ S0_ u_ S1_) ∨ ∃ S1_, r_ = (.inr 2, S1_, 1) ∧ vx_144 s_ d_ y_ o_ g_ c_ b_ n_ p_ A_ M_ dd_ S0_ S1_) := by
  have hF_ : ai_fr (sx_W vw_144) S0_ S0_ := ai_fr_rf
  have st0_ := hc_.2.2.2.2.2.1
  have kd0_ := hc_.2.2.2.2.2.2.2.1
  have hp0_ := hc_.2.2.2.1
  have hn1_ := hc_.2.2.1
  have hM_ := hr_.2.1.1
  have hA_ := (hr_.2.1.2 dd_ hd_.2)
  have hfb_ := p_fd_b (f_ := fun s_ => nm_q b_ n_ (A_.2.1 (40 * dd_ + s_)) p_) (A_.1 dd_)
  have hf0_ : p_fn b_ n_ A_ dd_ p_ = p_fd (fun s_ => nm_q b_ n_ (A_.2.1 (40 * dd_ + s_)) p_) (A_.1 dd_) := rfl
  have hA1_ := hA_.1
  have hg1_ : y_ ≠ -1 → (40 * d_ + y_).toNat = 40 * dd_ + (p_fn b_ n_ A_ dd_ p_).toNat ∧ S0_.2.2.1 79 0 (40 * d_ + y_).toNat = A_.2.2.1 (40 * dd_ + (p_fn b_ n_ A_ dd_ p_).toNat) ∧ S0_.2.2.1 80 0 (40 * d_ + y_).toNat = A_.2.2.2.1 (40 * dd_ + (p_fn b_ n_ A_ dd_ p_).toNat) := by intro z_; obtain ⟨s9_, q1_, q2_, q3_, -⟩ := p_fn_b (A_ := A_) (m_ := dd_) (p_ := p_) (b_ := b_) (n_ := n_) (by omega); have q5_ := (hr_.2.2 dd_ hd_.2).2 s9_ q2_; have q4_ : (40 * d_ + y_).toNat = 40 * dd_ + s9_ := (by omega); rw [q4_, q3_]; exact ⟨rfl, q5_.2.1, q5_.2.2.1⟩
  refine sm_T_go 2 (c1 := (3, [some (.inr (.inr (some (7, 0)))), some (.inl s_), some (.inl d_), some (.inl y_), none], [.inl 40, .inl d_], S0_)) rfl ?_
  refine sm_T_bin (w := 40 * d_) rfl (bi_mul (by omega) (by omega) (by omega)) ?_
  refine sm_T_go 1 (c1 := (5, [some (.inr (.inr (some (7, 0)))), some (.inl s_), some (.inl d_), some (.inl y_), none], [.inl y_, .inl (40 * d_)], S0_)) rfl ?_
  refine sm_T_bin (w := 40 * d_ + y_) rfl (bi_add (by omega) (by omega) (by omega)) ?_
  refine sm_T_go 3 (c1 := (10, [some (.inr (.inr (some (7, 0)))), some (.inl s_), some (.inl d_), some (.inl y_), some (.inl (40 * d_ + y_))], [.inl (-1), .inl y_], S0_)) rfl ?_
  refine sm_T_br (a := 0) (z := 14) rfl (fun cx1_ => ?_) (fun cx1_ => ?_)
  · have cx1_ : y_ = (-1) := of_decide_eq_true cx1_
    have bx2_ : 0 ≤ S0_.1 10 0 3 ∧ S0_.1 10 0 3 ≤ 1280 := hI_.1 10 0 3 rfl
    refine sm_T_go 6 (c1 := (37, [some (.inr (.inr (some (7, 0)))), some (.inl s_), some (.inl d_), some (.inl y_), some (.inl (40 * d_ + y_))], [.inl (S0_.1 10 0 3), .inl 11, .inr (.inr (some (10, 0)))], S0_)) rfl ?_
    refine sm_T_calx (d1 := 0) (Q1 := vq_187 11 (S0_.1 10 0 3) S0_) (Q2 := vx_187 11 (S0_.1 10 0 3) S0_) rfl rfl (by decide) (vc_187 11 (S0_.1 10 0 3) S0_ hI_ (by decide) (by omega)) rfl (fun Sx3_ px6_ => ?_) (fun u_ Sx3_ px6_ => ?_)
    · obtain ⟨hIx4_, hFx5_, px6_⟩ := px6_
      refine Or.inr ⟨_, rfl, hIx4_, ai_fr_tr hF_ (fr_le hFx5_ rfl), ?_⟩
      refine ⟨?_, px6_.1, px6_.2.trans st0_⟩
      by_cases z_ : y_ = -1
      · exact Or.inl (by omega)
      · right; have := hg1_ z_; omega
    · exact (px6_.2.2.2).elim
  · have cx1_ : ¬ (y_ = (-1)) := of_decide_eq_false cx1_
    have hg2_ := hg1_ (by omega)
    refine sm_T_go 3 (c1 := (19, [some (.inr (.inr (some (7, 0)))), some (.inl s_), some (.inl d_), some (.inl y_), some (.inl (40 * d_ + y_))], [.inl (40 * d_ + y_), .inr (.inr (some (79, 0)))], S0_)) rfl ?_
    refine sm_T_iald (n := 640) rfl rfl (by omega) (by omega) ?_
    have bx8_ : 0 ≤ S0_.2.2.1 79 0 (40 * d_ + y_).toNat ∧ S0_.2.2.1 79 0 (40 * d_ + y_).toNat ≤ 5 := hI_.2 79 0 _
    refine sm_T_go 1 (c1 := (21, [some (.inr (.inr (some (7, 0)))), some (.inl s_), some (.inl d_), some (.inl y_), some (.inl (40 * d_ + y_))], [.inl 1, .inl (S0_.2.2.1 79 0 (40 * d_ + y_).toNat)], S0_)) rfl ?_
    refine sm_T_br (a := 0) (z := 19) rfl (fun cx9_ => ?_) (fun cx9_ => ?_)
    · have cx9_ : (S0_.2.2.1 79 0 (40 * d_ + y_).toNat) = 1 := of_decide_eq_true cx9_
      refine sm_T_go 4 (c1 := (45, [some (.inr (.inr (some (7, 0)))), some (.inl s_), some (.inl d_), some (.inl y_), some (.inl (40 * d_ + y_))], [.inl y_, .inl s_, .inl 10, .inr (.inr (some (7, 0)))], S0_)) rfl ?_
      refine sm_T_cal (d1 := 0) (Q1 := vq_140 10 s_ y_ o_ g_ c_ S0_) rfl rfl (by decide) (vc_140 10 s_ y_ o_ g_ c_ S0_ hI_ (by exact hx_.1) (by decide) (by omega) (by omega) (by exact hl_)) (fun u_ Sx10_ px13_ => ?_)
      obtain ⟨rfl, hIx11_, hFx12_, px13_⟩ := px13_
      have hFx14_ : ai_fr (sx_W vw_144) S0_ Sx10_ := ai_fr_tr hF_ (fr_le hFx12_ rfl)
      have e45_ := px13_
      have f45_ := hFx12_.1 7 0 17 rfl
      have w45_ := fr_arr hFx12_ (t := 80) (i := 0) rfl
      refine sm_T_go 3 (c1 := (54, [some (.inr (.inr (some (7, 0)))), some (.inl s_), some (.inl d_), some (.inl y_), some (.inl (40 * d_ + y_))], [.inl (40 * d_ + y_), .inr (.inr (some (80, 0)))], Sx10_)) rfl ?_
      refine sm_T_iald (n := 640) rfl rfl (by omega) (by omega) ?_
      have bx15_ : 0 ≤ Sx10_.2.2.1 80 0 (40 * d_ + y_).toNat ∧ Sx10_.2.2.1 80 0 (40 * d_ + y_).toNat ≤ 8 := hIx11_.2 80 0 _
      refine sm_T_ri rfl (Or.inl ⟨_, _, rfl, _, rfl, hIx11_, hFx14_, ?_⟩)
      refine ⟨?_, ?_, ?_, ?_⟩
      · rintro (z_ | z_)
        · omega
        · exact z_ (by omega)
      · rw [w45_]; exact hg2_.2.2
      · rw [hy_] at e45_; exact e45_
      · rw [f45_]; exact hx_.2
    · have cx9_ : ¬ ((S0_.2.2.1 79 0 (40 * d_ + y_).toNat) = 1) := of_decide_eq_false cx9_
      have bx16_ : 0 ≤ S0_.1 10 0 3 ∧ S0_.1 10 0 3 ≤ 1280 := hI_.1 10 0 3 rfl
      refine sm_T_go 6 (c1 := (37, [some (.inr (.inr (some (7, 0)))), some (.inl s_), some (.inl d_), some (.inl y_), some (.inl (40 * d_ + y_))], [.inl (S0_.1 10 0 3), .inl 11, .inr (.inr (some (10, 0)))], S0_)) rfl ?_
      refine sm_T_calx (d1 := 0) (Q1 := vq_187 11 (S0_.1 10 0 3) S0_) (Q2 := vx_187 11 (S0_.1 10 0 3) S0_) rfl rfl (by decide) (vc_187 11 (S0_.1 10 0 3) S0_ hI_ (by decide) (by omega)) rfl (fun Sx17_ px20_ => ?_) (fun u_ Sx17_ px20_ => ?_)
      · obtain ⟨hIx18_, hFx19_, px20_⟩ := px20_
        refine Or.inr ⟨_, rfl, hIx18_, ai_fr_tr hF_ (fr_le hFx19_ rfl), ?_⟩
        refine ⟨?_, px20_.1, px20_.2.trans st0_⟩
        by_cases z_ : y_ = -1
        · exact Or.inl (by omega)
        · right; have := hg1_ z_; omega
      · exact (px20_.2.2.2).elim
