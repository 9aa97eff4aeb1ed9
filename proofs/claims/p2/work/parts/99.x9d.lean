/-! Reader.tell -/
def vw_121 : sx_Wl := ([], [77, 78, 79, 80, 81], [])
def vq_121 (f_ : Int) (so_ : Int) (wd_ : Int) (dt_ : Int) (b_ : Nat → Int) (n_ : Nat) (A_ : pA) (N_ : Nat → Nat) (M_ : Nat) (c_ : List Int) (p_ : Nat) (S0_ : sm_S) (u_ : Option sm_V) (S1_ : sm_S) : Prop := u_ = none ∧ gi S1_ ∧ ai_fr (sx_W vw_121) S0_ S1_ ∧ (dr b_ n_ (a_te A_ M_ p_ so_ wd_ dt_) N_ M_ c_ S1_)
set_option maxHeartbeats 400000 in
theorem vc_121 {sc_ : Nat × (Nat → Int)} (f_ : Int) (so_ : Int) (wd_ : Int) (dt_ : Int) (b_ : Nat → Int) (n_ : Nat) (A_ : pA) (N_ : Nat → Nat) (M_ : Nat) (c_ : List Int) (p_ : Nat) (S0_ : sm_S) (hI_ : gi S0_) (hd_ : dr b_ n_ A_ N_ M_ c_ S0_) (hf_ : f_ = (16 * p_ + lx_sz b_ n_ p_ : Nat)) (hp_ : nmp b_ n_ p_) (hn1_ : n_ ≤ 1280) (hK_ : A_.1 M_ < 40) (h1_ : 0 ≤ so_ ∧ so_ ≤ 5) (h2_ : 0 ≤ wd_ ∧ wd_ ≤ 8) (h3_ : so_ ≠ 5 → 1 ≤ wd_) (h4_ : so_ = 5 → 0 ≤ dt_ ∧ dt_ < M_) (h5_ : 0 ≤ dt_ ∧ dt_ ≤ 255) : sm_T (mt_P sc_) 0 121 (0, [some (.inr (.inr (some (7, 0)))), some (.inl f_), some (.inl so_), some (.inl wd_), some (.inl dt_), none], [], S0_) (fun r_ => ∃ u_ S1_, r_ = (.inl u_, S1_, 0) ∧ vq_121 f_ so_ wd_ dt_ b_ n_ A_ N_ M_ c_ p_ S0_ u_ S1_) := by
  have hF_ : ai_fr (sx_W vw_121) S0_ S0_ := ai_fr_rf
  have hM_ := hd_.1.1
  have hM1_ := hd_.1.2.1.1
  have hz_ := nmp_sz hp_
  have hMn_ : (S0_.1 7 0 3).toNat = M_ := by omega
  have hm5_ : S0_.2.2.1 77 0 (S0_.1 7 0 3).toNat = (A_.1 M_ : Int) := by rw [hMn_]; exact (hd_.1.2.2 M_ (Nat.le_refl _)).1
  have hX_ : (40 * (S0_.1 7 0 3) + S0_.2.2.1 77 0 (S0_.1 7 0 3).toNat).toNat = 40 * M_ + A_.1 M_ := by omega
  have bx1_ : 0 ≤ S0_.1 7 0 3 ∧ S0_.1 7 0 3 ≤ 16 := hI_.1 7 0 3 rfl
  refine sm_T_go 3 (c1 := (6, [some (.inr (.inr (some (7, 0)))), some (.inl f_), some (.inl so_), some (.inl wd_), some (.inl dt_), none], [.inl 40, .inl (S0_.1 7 0 3)], S0_)) rfl ?_
  refine sm_T_bin (w := 40 * (S0_.1 7 0 3)) rfl (bi_mul (by omega) (by omega) (by omega)) ?_
  refine sm_T_go 4 (c1 := (15, [some (.inr (.inr (some (7, 0)))), some (.inl f_), some (.inl so_), some (.inl wd_), some (.inl dt_), none], [.inl (S0_.1 7 0 3), .inr (.inr (some (77, 0))), .inl (40 * (S0_.1 7 0 3))], S0_)) rfl ?_
  refine sm_T_iald (n := 17) rfl rfl (by omega) (by omega) ?_
  have bx2_ : 0 ≤ S0_.2.2.1 77 0 (S0_.1 7 0 3).toNat ∧ S0_.2.2.1 77 0 (S0_.1 7 0 3).toNat ≤ 40 := hI_.2 77 0 _
  refine sm_T_bin (w := 40 * (S0_.1 7 0 3) + (S0_.2.2.1 77 0 (S0_.1 7 0 3).toNat)) rfl (bi_add (by omega) (by omega) (by omega)) ?_
  refine sm_T_go 5 (c1 := (26, [some (.inr (.inr (some (7, 0)))), some (.inl f_), some (.inl so_), some (.inl wd_), some (.inl dt_), some (.inl (40 * (S0_.1 7 0 3) + (S0_.2.2.1 77 0 (S0_.1 7 0 3).toNat)))], [.inl f_, .inl (40 * (S0_.1 7 0 3) + (S0_.2.2.1 77 0 (S0_.1 7 0 3).toNat)), .inr (.inr (some (78, 0)))], S0_)) rfl ?_
  refine sm_T_iast (n := 640) rfl rfl (by omega) (by omega) ?_
  have hIx3_ : gi (sm_aI S0_ 78 0 (40 * (S0_.1 7 0 3) + (S0_.2.2.1 77 0 (S0_.1 7 0 3).toNat)).toNat f_) := gi_aI hI_ (show 0 ≤ f_ ∧ f_ ≤ 65535 from ⟨by omega, by omega⟩)
  have hFx4_ : ai_fr (sx_W vw_121) S0_ (sm_aI S0_ 78 0 (40 * (S0_.1 7 0 3) + (S0_.2.2.1 77 0 (S0_.1 7 0 3).toNat)).toNat f_) := ai_fr_tr hF_ (ai_fr_aI rfl)
  refine sm_T_go 4 (c1 := (34, [some (.inr (.inr (some (7, 0)))), some (.inl f_), some (.inl so_), some (.inl wd_), some (.inl dt_), some (.inl (40 * (S0_.1 7 0 3) + (S0_.2.2.1 77 0 (S0_.1 7 0 3).toNat)))], [.inl so_, .inl (40 * (S0_.1 7 0 3) + (S0_.2.2.1 77 0 (S0_.1 7 0 3).toNat)), .inr (.inr (some (79, 0)))], sm_aI S0_ 78 0 (40 * (S0_.1 7 0 3) + (S0_.2.2.1 77 0 (S0_.1 7 0 3).toNat)).toNat f_)) rfl ?_
  refine sm_T_iast (n := 640) rfl rfl (by omega) (by omega) ?_
  have hIx5_ : gi (sm_aI (sm_aI S0_ 78 0 (40 * (S0_.1 7 0 3) + (S0_.2.2.1 77 0 (S0_.1 7 0 3).toNat)).toNat f_) 79 0 (40 * (S0_.1 7 0 3) + (S0_.2.2.1 77 0 (S0_.1 7 0 3).toNat)).toNat so_) := gi_aI hIx3_ (show 0 ≤ so_ ∧ so_ ≤ 5 from ⟨by omega, by omega⟩)
  have hFx6_ : ai_fr (sx_W vw_121) S0_ (sm_aI (sm_aI S0_ 78 0 (40 * (S0_.1 7 0 3) + (S0_.2.2.1 77 0 (S0_.1 7 0 3).toNat)).toNat f_) 79 0 (40 * (S0_.1 7 0 3) + (S0_.2.2.1 77 0 (S0_.1 7 0 3).toNat)).toNat so_) := ai_fr_tr hFx4_ (ai_fr_aI rfl)
  refine sm_T_go 4 (c1 := (42, [some (.inr (.inr (some (7, 0)))), some (.inl f_), some (.inl so_), some (.inl wd_), some (.inl dt_), some (.inl (40 * (S0_.1 7 0 3) + (S0_.2.2.1 77 0 (S0_.1 7 0 3).toNat)))], [.inl wd_, .inl (40 * (S0_.1 7 0 3) + (S0_.2.2.1 77 0 (S0_.1 7 0 3).toNat)), .inr (.inr (some (80, 0)))], sm_aI (sm_aI S0_ 78 0 (40 * (S0_.1 7 0 3) + (S0_.2.2.1 77 0 (S0_.1 7 0 3).toNat)).toNat f_) 79 0 (40 * (S0_.1 7 0 3) + (S0_.2.2.1 77 0 (S0_.1 7 0 3).toNat)).toNat so_)) rfl ?_
  refine sm_T_iast (n := 640) rfl rfl (by omega) (by omega) ?_
  have hIx7_ : gi (sm_aI (sm_aI (sm_aI S0_ 78 0 (40 * (S0_.1 7 0 3) + (S0_.2.2.1 77 0 (S0_.1 7 0 3).toNat)).toNat f_) 79 0 (40 * (S0_.1 7 0 3) + (S0_.2.2.1 77 0 (S0_.1 7 0 3).toNat)).toNat so_) 80 0 (40 * (S0_.1 7 0 3) + (S0_.2.2.1 77 0 (S0_.1 7 0 3).toNat)).toNat wd_) := gi_aI hIx5_ (show 0 ≤ wd_ ∧ wd_ ≤ 8 from ⟨by omega, by omega⟩)
  have hFx8_ : ai_fr (sx_W vw_121) S0_ (sm_aI (sm_aI (sm_aI S0_ 78 0 (40 * (S0_.1 7 0 3) + (S0_.2.2.1 77 0 (S0_.1 7 0 3).toNat)).toNat f_) 79 0 (40 * (S0_.1 7 0 3) + (S0_.2.2.1 77 0 (S0_.1 7 0 3).toNat)).toNat so_) 80 0 (40 * (S0_.1 7 0 3) + (S0_.2.2.1 77 0 (S0_.1 7 0 3).toNat)).toNat wd_) := ai_fr_tr hFx6_ (ai_fr_aI rfl)
  refine sm_T_go 4 (c1 := (51, [some (.inr (.inr (some (7, 0)))), some (.inl f_), some (.inl so_), some (.inl wd_), some (.inl dt_), some (.inl (40 * (S0_.1 7 0 3) + (S0_.2.2.1 77 0 (S0_.1 7 0 3).toNat)))], [.inl dt_, .inl (40 * (S0_.1 7 0 3) + (S0_.2.2.1 77 0 (S0_.1 7 0 3).toNat)), .inr (.inr (some (81, 0)))], sm_aI (sm_aI (sm_aI S0_ 78 0 (40 * (S0_.1 7 0 3) + (S0_.2.2.1 77 0 (S0_.1 7 0 3).toNat)).toNat f_) 79 0 (40 * (S0_.1 7 0 3) + (S0_.2.2.1 77 0 (S0_.1 7 0 3).toNat)).toNat so_) 80 0 (40 * (S0_.1 7 0 3) + (S0_.2.2.1 77 0 (S0_.1 7 0 3).toNat)).toNat wd_)) rfl ?_
  refine sm_T_iast (n := 640) rfl rfl (by omega) (by omega) ?_
  have hIx9_ : gi (sm_aI (sm_aI (sm_aI (sm_aI S0_ 78 0 (40 * (S0_.1 7 0 3) + (S0_.2.2.1 77 0 (S0_.1 7 0 3).toNat)).toNat f_) 79 0 (40 * (S0_.1 7 0 3) + (S0_.2.2.1 77 0 (S0_.1 7 0 3).toNat)).toNat so_) 80 0 (40 * (S0_.1 7 0 3) + (S0_.2.2.1 77 0 (S0_.1 7 0 3).toNat)).toNat wd_) 81 0 (40 * (S0_.1 7 0 3) + (S0_.2.2.1 77 0 (S0_.1 7 0 3).toNat)).toNat dt_) := gi_aI hIx7_ (show 0 ≤ dt_ ∧ dt_ ≤ 255 from ⟨by omega, by omega⟩)
  have hFx10_ : ai_fr (sx_W vw_121) S0_ (sm_aI (sm_aI (sm_aI (sm_aI S0_ 78 0 (40 * (S0_.1 7 0 3) + (S0_.2.2.1 77 0 (S0_.1 7 0 3).toNat)).toNat f_) 79 0 (40 * (S0_.1 7 0 3) + (S0_.2.2.1 77 0 (S0_.1 7 0 3).toNat)).toNat so_) 80 0 (40 * (S0_.1 7 0 3) + (S0_.2.2.1 77 0 (S0_.1 7 0 3).toNat)).toNat wd_) 81 0 (40 * (S0_.1 7 0 3) + (S0_.2.2.1 77 0 (S0_.1 7 0 3).toNat)).toNat dt_) := ai_fr_tr hFx8_ (ai_fr_aI rfl)
  refine sm_T_go 5 (c1 := (61, [some (.inr (.inr (some (7, 0)))), some (.inl f_), some (.inl so_), some (.inl wd_), some (.inl dt_), some (.inl (40 * (S0_.1 7 0 3) + (S0_.2.2.1 77 0 (S0_.1 7 0 3).toNat)))], [.inl (S0_.1 7 0 3), .inr (.inr (some (77, 0))), .inl (S0_.1 7 0 3), .inr (.inr (some (77, 0)))], sm_aI (sm_aI (sm_aI (sm_aI S0_ 78 0 (40 * (S0_.1 7 0 3) + (S0_.2.2.1 77 0 (S0_.1 7 0 3).toNat)).toNat f_) 79 0 (40 * (S0_.1 7 0 3) + (S0_.2.2.1 77 0 (S0_.1 7 0 3).toNat)).toNat so_) 80 0 (40 * (S0_.1 7 0 3) + (S0_.2.2.1 77 0 (S0_.1 7 0 3).toNat)).toNat wd_) 81 0 (40 * (S0_.1 7 0 3) + (S0_.2.2.1 77 0 (S0_.1 7 0 3).toNat)).toNat dt_)) rfl ?_
  refine sm_T_iald (n := 17) rfl rfl (by omega) (by omega) ?_
  refine sm_T_go 1 (c1 := (63, [some (.inr (.inr (some (7, 0)))), some (.inl f_), some (.inl so_), some (.inl wd_), some (.inl dt_), some (.inl (40 * (S0_.1 7 0 3) + (S0_.2.2.1 77 0 (S0_.1 7 0 3).toNat)))], [.inl 1, .inl (S0_.2.2.1 77 0 (S0_.1 7 0 3).toNat), .inl (S0_.1 7 0 3), .inr (.inr (some (77, 0)))], sm_aI (sm_aI (sm_aI (sm_aI S0_ 78 0 (40 * (S0_.1 7 0 3) + (S0_.2.2.1 77 0 (S0_.1 7 0 3).toNat)).toNat f_) 79 0 (40 * (S0_.1 7 0 3) + (S0_.2.2.1 77 0 (S0_.1 7 0 3).toNat)).toNat so_) 80 0 (40 * (S0_.1 7 0 3) + (S0_.2.2.1 77 0 (S0_.1 7 0 3).toNat)).toNat wd_) 81 0 (40 * (S0_.1 7 0 3) + (S0_.2.2.1 77 0 (S0_.1 7 0 3).toNat)).toNat dt_)) rfl ?_
  refine sm_T_bin (w := (S0_.2.2.1 77 0 (S0_.1 7 0 3).toNat) + 1) rfl (bi_add (by omega) (by omega) (by omega)) ?_
  refine sm_T_iast (n := 17) rfl rfl (by omega) (by omega) ?_
  have hIx11_ : gi (sm_aI (sm_aI (sm_aI (sm_aI (sm_aI S0_ 78 0 (40 * (S0_.1 7 0 3) + (S0_.2.2.1 77 0 (S0_.1 7 0 3).toNat)).toNat f_) 79 0 (40 * (S0_.1 7 0 3) + (S0_.2.2.1 77 0 (S0_.1 7 0 3).toNat)).toNat so_) 80 0 (40 * (S0_.1 7 0 3) + (S0_.2.2.1 77 0 (S0_.1 7 0 3).toNat)).toNat wd_) 81 0 (40 * (S0_.1 7 0 3) + (S0_.2.2.1 77 0 (S0_.1 7 0 3).toNat)).toNat dt_) 77 0 (S0_.1 7 0 3).toNat ((S0_.2.2.1 77 0 (S0_.1 7 0 3).toNat) + 1)) := gi_aI hIx9_ (show 0 ≤ (S0_.2.2.1 77 0 (S0_.1 7 0 3).toNat) + 1 ∧ (S0_.2.2.1 77 0 (S0_.1 7 0 3).toNat) + 1 ≤ 40 from ⟨by omega, by omega⟩)
  have hFx12_ : ai_fr (sx_W vw_121) S0_ (sm_aI (sm_aI (sm_aI (sm_aI (sm_aI S0_ 78 0 (40 * (S0_.1 7 0 3) + (S0_.2.2.1 77 0 (S0_.1 7 0 3).toNat)).toNat f_) 79 0 (40 * (S0_.1 7 0 3) + (S0_.2.2.1 77 0 (S0_.1 7 0 3).toNat)).toNat so_) 80 0 (40 * (S0_.1 7 0 3) + (S0_.2.2.1 77 0 (S0_.1 7 0 3).toNat)).toNat wd_) 81 0 (40 * (S0_.1 7 0 3) + (S0_.2.2.1 77 0 (S0_.1 7 0 3).toNat)).toNat dt_) 77 0 (S0_.1 7 0 3).toNat ((S0_.2.2.1 77 0 (S0_.1 7 0 3).toNat) + 1)) := ai_fr_tr hFx10_ (ai_fr_aI rfl)
  refine sm_T_rv rfl ⟨_, _, rfl, rfl, hIx11_, hFx12_, ?_⟩
  refine ⟨⟨hM_, a_te_ok hd_.1.2.1 hK_ hp_ h1_ h2_ h3_ h4_ h5_, fun m_ hm_ => ?_⟩, nr_fr hd_.2.1 hFx12_ rfl, cr_fr hd_.2.2 hFx12_ rfl rfl rfl⟩
  have y_ := hd_.1.2.2 m_ hm_
  have hq_ := (hd_.1.2.1.2 m_ hm_).1
  refine ⟨?_, fun s_ hs_ => ?_⟩
  · (try simp only [rd_eq, rd_ne, rf_eq, rf_nk, rf_nt, rd_fa, rd_af, rd_fl, rd_al, rd_lf, rd_la, rd_leq, rd_lne, rd_fr, rd_ar, ne_eq, Nat.reduceEqDiff, not_false_eq_true])
    rw [hm5_, hMn_]
    show (if m_ = M_ then (A_.1 M_ : Int) + 1 else _) = ((if m_ = M_ then A_.1 M_ + 1 else A_.1 m_ : Nat) : Int)
    by_cases e_ : m_ = M_
    · rw [if_pos e_, if_pos e_]; rfl
    · rw [if_neg e_, if_neg e_]; exact y_.1
  · have hs_ : s_ < (if m_ = M_ then A_.1 M_ + 1 else A_.1 m_) := hs_
    (try simp only [rd_eq, rd_ne, rf_eq, rf_nk, rf_nt, rd_fa, rd_af, rd_fl, rd_al, rd_lf, rd_la, rd_leq, rd_lne, rd_fr, rd_ar, ne_eq, Nat.reduceEqDiff, not_false_eq_true])
    rw [hX_]
    simp only [a_te]
    by_cases e_ : 40 * m_ + s_ = 40 * M_ + A_.1 M_
    · rw [if_pos e_, if_pos e_, if_pos e_, if_pos e_, if_pos e_, if_pos e_, if_pos e_, if_pos e_]
      exact ⟨hf_, rfl, rfl, rfl⟩
    · rw [if_neg e_, if_neg e_, if_neg e_, if_neg e_, if_neg e_, if_neg e_, if_neg e_, if_neg e_]
      refine y_.2 s_ ?_
      by_cases e1_ : m_ = M_
      · rw [if_pos e1_] at hs_
        subst e1_
        omega
      · rw [if_neg e1_] at hs_
        exact hs_
