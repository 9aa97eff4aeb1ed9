/-! 99.x9d -/
section
/-! Reader.tell -/
def vw_121 : sx_Wl := ([], [77, 78, 79, 80, 81], [])
def vq_121 (f_ : Int) (so_ : Int) (wd_ : Int) (dt_ : Int) (b_ : Nat → Int) (n_ : Nat) (A_ : pA) (N_ : Nat → Nat) (M_ : Nat) (c_ : List Int) (p_ : Nat) (S0_ : sm_S) (u_ : Option sm_V) (S1_ : sm_S) : Prop := u_ = none ∧ gi S1_ ∧ ai_fr (sx_W vw_121) S0_ S1_ ∧ (dr b_ n_ (a_te A_ M_ p_ so_ wd_ dt_) N_ M_ c_ S1_)
set_option maxHeartbeats 400000 in
theorem vc_121 {sc_ : Nat × (Nat → Int)} (f_ : Int) (so_ : Int) (wd_ : Int) (dt_ : Int) (b_ : Nat → Int) (n_ : Nat) (A_ : pA) (N_ : Nat → Nat) (M_ : Nat) (c_ : List Int) (p_ : Nat) (S0_ : sm_S) (hI_ : gi S0_) (hd_ : dr b_ n_ A_ N_ M_ c_ S0_) (hf_ : f_ = (16 * p_ + lx_sz b_ n_ p_ : Nat)) (hp_ : nmp b_ n_ p_) (hn1_ : n_ ≤ 1280) (hK_ : A_.1 M_ < 40) (h1_ : 0 ≤ so_ ∧ so_ ≤ 5) (h2_ : 0 ≤ wd_ ∧ wd_ ≤ 8) (h3_ : so_ ≠ 5 → 1 ≤ wd_) (h4_ : so_ = 5 → 0 ≤ dt_ ∧ dt_ < M_) (h5_ : 0 ≤ dt_ ∧ dt_ ≤ 255) : sm_T (mt_P sc_) 0 121 (0, [some (.inr (.inr (some (7, 0)))), some (.inl f_), some (.inl so_), some (.inl wd_), some (.inl dt_), none], [], S0_) (fun r_ => ∃ u_ S1_, r_ = (.inl u_, S1_, 0) ∧ vq_121 f_ so_ wd_ dt_ b_ n_ A_ N_ M_ c_ p_ S0_ u_ S1_) := by
  have hF_ : ai_fr (sx_W vw_121) S0_ S0_ := ai_fr_rf
  have hM_ := hd_.1.1
  have hM1_ := hd_.1.2.1.1
  have hz_ := nmp_sz hp_
  have hMn_ : (S0_.1 7 0 3).toNat = M_ := by omega
  have hm5_ : S0_.2.2.1 77 0 (S0_.1 7 0 3).toNat = (A_.1 M_ : Int) := by rw [hMn_]; exact (hd_.1.2.2 M_ (Nat.le_refl _)).1
  have hX_ : (40 * (S0_.1 7 0 3) + S0_.2.2.1 77 0 (S0_.1 7 0 3).toNat).toNat = 40 * M_ + A_.1 M_ := by omega
  have bx1_ : 0 ≤ S0_.1 7 0 3 ∧ S0_.1 7 0 3 ≤ 16 := hI_.1 7 0 3 rfl
  refine sm_T_go 3 (c1 := (6, [some (.inr (.inr (some (7, 0)))), some (.inl f_), some (.inl so_), some (.inl wd_), some (.inl dt_), none], [.inl 40, .inl (S0_.1 7 0 3)], S0_)) rfl ?_
  refine sm_T_bin (w := 40 * (S0_.1 7 0 3)) rfl (bi_mul (by omega) (by omega) (by omega)) ?_
  refine sm_T_go 4 (c1 := (15, [some (.inr (.inr (some (7, 0)))), some (.inl f_), some (.inl so_), some (.inl wd_), some (.inl dt_), none], [.inl (S0_.1 7 0 3), .inr (.inr (some (77, 0))), .inl (40 * (S0_.1 7 0 3))], S0_)) rfl ?_
  refine sm_T_iald (n := 17) rfl rfl (by omega) (by omega) ?_
  have bx2_ : 0 ≤ S0_.2.2.1 77 0 (S0_.1 7 0 3).toNat ∧ S0_.2.2.1 77 0 (S0_.1 7 0 3).toNat ≤ 40 := hI_.2 77 0 _
  refine sm_T_bin (w := 40 * (S0_.1 7 0 3) + (S0_.2.2.1 77 0 (S0_.1 7 0 3).toNat)) rfl (bi_add (by omega) (by omega) (by omega)) ?_
  refine sm_T_go 5 (c1 := (26, [some (.inr (.inr (some (7, 0)))), some (.inl f_), some (.inl so_), some (.inl wd_), some (.inl dt_), some (.inl (40 * (S0_.1 7 0 3) + (S0_.2.2.1 77 0 (S0_.1 7 0 3).toNat)))], [.inl f_, .inl (40 * (S0_.1 7 0 3) + (S0_.2.2.1 77 0 (S0_.1 7 0 3).toNat)), .inr (.inr (some (78, 0)))], S0_)) rfl ?_
  refine sm_T_iast (n := 640) rfl rfl (by omega) (by omega) ?_
  have hIx3_ : gi (sm_aI S0_ 78 0 (40 * (S0_.1 7 0 3) + (S0_.2.2.1 77 0 (S0_.1 7 0 3).toNat)).toNat f_) := gi_aI hI_ (show 0 ≤ f_ ∧ f_ ≤ 65535 from ⟨by omega, by omega⟩)
  have hFx4_ : ai_fr (sx_W vw_121) S0_ (sm_aI S0_ 78 0 (40 * (S0_.1 7 0 3) + (S0_.2.2.1 77 0 (S0_.1 7 0 3).toNat)).toNat f_) := ai_fr_tr hF_ (ai_fr_aI rfl)
  refine sm_T_go 4 (c1 := (34, [some (.inr (.inr (some (7, 0)))), some (.inl f_), some (.inl so_), some (.inl wd_), some (.inl dt_), some (.inl (40 * (S0_.1 7 0 3) + (S0_.2.2.1 77 0 (S0_.1 7 0 3).toNat)))], [.inl so_, .inl (40 * (S0_.1 7 0 3) + (S0_.2.2.1 77 0 (S0_.1 7 0 3).toNat)), .inr (.inr (some (79, 0)))], sm_aI S0_ 78 0 (40 * (S0_.1 7 0 3) + (S0_.2.2.1 77 0 (S0_.1 7 0 3).toNat)).toNat f_)) rfl ?_
  refine sm_T_iast (n := 640) rfl rfl (by omega) (by omega) ?_
  have hIx5_ : gi (sm_aI (sm_aI S0_ 78 0 (40 * (S0_.1 7 0 3) + (S0_.2.2.1 77 0 (S0_.1 7 0 3).toNat)).toNat f_) 79 0 (40 * (S0_.1 7 0 3) + (S0_.2.2.1 77 0 (S0_.1 7 0 3).toNat)).toNat so_) := gi_aI hIx3_ (show 0 ≤ so_ ∧ so_ ≤ 5 from ⟨by omega, by omega⟩)
  have hFx6_ : ai_fr (sx_W vw_121) S0_ (sm_aI (sm_aI S0_ 78 0 (40 * (S0_.1 7 0 3) + (S0_.2.2.1 77 0 (S0_.1 7 0 3).toNat)).toNat f_) 79 0 (40 * (S0_.1 7 0 3) + (S0_.2.2.1 77 0 (S0_.1 7 0 3).toNat)).toNat so_) := ai_fr_tr hFx4_ (ai_fr_aI rfl)
  refine sm_T_go 4 (c1 := (42, [some (.inr (.inr (some (7, 0)))), some (.inl f_), some (.inl so_), some (.inl wd_), some (.inl dt_), some (.inl (40 * (S0_.1 7 0 3) + (S0_.2.2.1 77 0 (S0_.1 7 0 3).toNat)))], [.inl wd_, .inl (40 * (S0_.1 7 0 3) + (S0_.2.2.1 77 0 (S0_.1 7 0 3).toNat)), .inr (.inr (some (80, 0)))], sm_aI (sm_aI S0_ 78 0 (40 * (S0_.1 7 0 3) + (S0_.2.2.1 77 0 (S0_.1 7 0 3).toNat)).toNat f_) 79 0 (40 * (S0_.1 7 0 3) + (S0_.2.2.1 77 0 (S0_.1 7 0 3).toNat)).toNat so_)) rfl ?_
  refine sm_T_iast (n := 640) rfl rfl (by omega) (by omega) ?_
  have hIx7_ : gi (sm_aI (sm_aI (sm_aI S0_ 78 0 (40 * (S0_.1 7 0 3) + (S0_.2.2.1 77 0 (S0_.1 7 0 3).toNat)).toNat f_) 79 0 (40 * (S0_.1 7 0 3) + (S0_.2.2.1 77 0 (S0_.1 7 0 3).toNat)).toNat so_) 80 0 (40 * (S0_.1 7 0 3) + (S0_.2.2.1 77 0 (S0_.1 7 0 3).toNat)).toNat wd_) := gi_aI hIx5_ (show 0 ≤ wd_ ∧ wd_ ≤ 8 from ⟨by omega, by omega⟩)
  have hFx8_ : ai_fr (sx_W vw_121) S0_ (sm_aI (sm_aI (sm_aI S0_ 78 0 (40 * (S0_.1 7 0 3) + (S0_.2.2.1 77 0 (S0_.1 7 0 3).toNat)).toNat f_) 79 0 (40 * (S0_.1 7 0 3) + (S0_.2.2.1 77 0 (S0_.1 7 0 3).toNat)).toNat so_) 80 0 (40 * (S0_.1 7 0 3) + (S0_.2.2.1 77 0 (S0_.1 7 0 3).toNat)).toNat wd_) := ai_fr_tr hFx6_ (ai_fr_aI rfl)
  refine sm_T_go 4 (c1 := (51, [some (.inr (.inr (some (7, 0)))), some (.inl f_), some (.inl so_), some (.inl wd_), some (.inl dt_), some (.inl (40 * (S0_.1 7 0 3) + (S0_.2.2.1 77 0 (S0_.1 7 0 3).toNat)))], [.inl dt_, .inl (40 * (S0_.1 7 0 3) + (S0_.2.2.1 77 0 (S0_.1 7 0 3).toNat)), .inr (.inr (some (81, 0)))], sm_aI (sm_aI (sm_aI S0_ 78 0 (40 * (S0_.1 7 0 3) + (S0_.2.2.1 77 0 (S0_.1 7 0 3).toNat)).toNat f_) 79 0 (40 * (S0_.1 7 0 3) + (S0_.2.2.1 77 0 (S0_.1 7 0 3).toNat)).toNat so_) 80 0 (40 * (S0_.1 7 0 3) + (S0_.2.2.1 77 0 (S0_.1 7 0 3).toNat)).toNat wd_)) rfl ?_
  refine sm_T_iast (n := 640) rfl rfl (by omega) (by omega) ?_
  have hIx9_ : gi (sm_aI (sm_aI (sm_aI (sm_aI S0_ 78 0 (40 * (S0_.1 7 0 3) + (S0_.2.2.1 77 0 (S0_.1 7 0 3).toNat)).toNat f_) 79 0 (40 * (S0_.1 7 0 3) + (S0_.2.2.1 77 0 (S0_.1 7 0 3).toNat)).toNat so_) 80 0 (40 * (S0_.1 7 0 3) + (S0_.2.2.1 77 0 (S0_.1 7 0 3).toNat)).toNat wd_) 81 0 (40 * (S0_.1 7 0 3) + (S0_.2.2.1 77 0 (S0_.1 7 0 3).toNat)).toNat dt_) := gi_aI hIx7_ (show 0 ≤ dt_ ∧ dt_ ≤ 255 from ⟨by omega, by omega⟩)
  have hFx10_ : ai_fr (sx_W vw_121) S0_ (sm_aI (sm_aI (sm_aI (sm_aI S0_ 78 0 (40 * (S0_.1 7 0 3) + (S0_.2.2.1 77 0 (S0_.1 7 0 3).toNat)).toNat f_) 79 0 (40 * (S0_.1 7 0 3) + (S0_.2.2.1 77 0 (S0_.1 7 0 3).toNat)).toNat so_) 80 0 (40 * (S0_.1 7 0 3) + (S0_.2.2.1 77 0 (S0_.1 7 0 3).toNat)).toNat wd_) 81 0 (40 * (S0_.1 7 0 3) + (S0_.2.2.1 77 0 (S0_.1 7 0 3).toNat)).toNat dt_) := ai_fr_tr hFx8_ (ai_fr_aI rfl)
  refine sm_T_go 5 (c1 := (61, [some (.inr (.inr (some (7, 0)))), some (.inl f_), some (.inl so_), some (.inl wd_), some (.inl dt_), some (.inl (40 * (S0_.1 7 0 3) + (S0_.2.2.1 77 0 (S0_.1 7 0 3).toNat)))], [.inl (S0_.1 7 0 3), .inr (.inr (some (77, 0))), .inl (S0_.1 7 0 3), .inr (.inr (some (77, 0)))], sm_aI (sm_aI (sm_aI (sm_aI S0_ 78 0 (40 * (S0_.1 7 0 3) + (S0_.2.2.1 77 0 (S0_.1 7 0 3).toNat)).toNat f_) 79 0 (40 * (S0_.1 7 0 3) + (S0_.2.2.1 77 0 (S0_.1 7 0 3).toNat)).toNat so_) 80 0 (40 * (S0_.1 7 0 3) + (S0_.2.2.1 77 0 (S0_.1 7 0 3).toNat)).toNat wd_) 81 0 (40 * (S0_.1 7 0 3) + (S0_.2.2.1 77 0 (S0_.1 7 0 3).toNat)).toNat dt_)) rfl ?_
  refine sm_T_iald (n := 17) rfl rfl (by omega) (by omega) ?_
  refine sm_T_go 1 (c1 := (63, [some (.inr (.inr (some (7, 0)))), some (.inl f_), some (.inl so_), some (.inl wd_), some (.inl dt_), some (.inl (40 * (S0_.1 7 0 3) + (S0_.2.2.1 77 0 (S0_.1 7 0 3).toNat)))], [.inl 1, .inl (S0_.2.2.1 77 0 (S0_.1 7 0 3).toNat), .inl (S0_.1 7 0 3), .inr (.inr (some (77, 0)))], sm_aI (sm_aI (sm_aI (sm_aI S0_ 78 0 (40 * (S0_.1 7 0 3) + (S0_.2.2.1 77 0 (S0_.1 7 0 3).toNat)).toNat f_) 79 0 (40 * (S0_.1 7 0 3) + (S0_.2.2.1 77 0 (S0_.1 7 0 3).toNat)).toNat so_) 80 0 (40 * (S0_.1 7 0 3) + (S0_.2.2.1 77 0 (S0_.1 7 0 3).toNat)).toNat wd_) 81 0 (40 * (S0_.1 7 0 3) + (S0_.2.2.1 77 0 (S0_.1 7 0 3).toNat)).toNat dt_)) rfl ?_
  refine sm_T_bin (w := (S0_.2.2.1 77 0 (S0_.1 7 0 3).toNat) + 1) rfl (bi_add (by omega) (by omega) (by omega)) ?_
  refine sm_T_iast (n := 17) rfl rfl (by omega) (by omega) ?_
  have hIx11_ : gi (sm_aI (sm_aI (sm_aI (sm_aI (sm_aI S0_ 78 0 (40 * (S0_.1 7 0 3) + (S0_.2.2.1 77 0 (S0_.1 7 0 3).toNat)).toNat f_) 79 0 (40 * (S0_.1 7 0 3) + (S0_.2.2.1 77 0 (S0_.1 7 0 3).toNat)).toNat so_) 80 0 (40 * (S0_.1 7 0 3) + (S0_.2.2.1 77 0 (S0_.1 7 0 3).toNat)).toNat wd_) 81 0 (40 * (S0_.1 7 0 3) + (S0_.2.2.1 77 0 (S0_.1 7 0 3).toNat)).toNat dt_) 77 0 (S0_.1 7 0 3).toNat ((S0_.2.2.1 77 0 (S0_.1 7 0 3).toNat) + 1)) := gi_aI hIx9_ (show 0 ≤ (S0_.2.2.1 77 0 (S0_.1 7 0 3).toNat) + 1 ∧ (S0_.2.2.1 77 0 (S0_.1 7 0 3).toNat) + 1 ≤ 40 from ⟨by omega, by omega⟩)
  have hFx12_ : ai_fr (sx_W vw_121) S0_ (sm_aI (sm_aI (sm_aI (sm_aI (sm_aI S0_ 78 0 (40 * (S0_.1 7 0 3) + (S0_.2.2.1 77 0 (S0_.1 7 0 3).toNat)).toNat f_) 79 0 (40 * (S0_.1 7 0 3) + (S0_.2.2.1 77 0 (S0_.1 7 0 3).toNat)).toNat so_) 80 0 (40 * (S0_.1 7 0 3) + (S0_.2.2.1 77 0 (S0_.1 7 0 3).toNat)).toNat wd_) 81 0 (40 * (S0_.1 7 0 3) + (S0_.2.2.1 77 0 (S0_.1 7 0 3).toNat)).toNat dt_) 77 0 (S0_.1 7 0 3).toNat ((S0_.2.2.1 77 0 (S0_.1 7 0 3).toNat) + 1)) := ai_fr_tr hFx10_ (ai_fr_aI rfl)
  refine sm_T_rv rfl ⟨_, _, rfl, rfl, hIx11_, hFx12_, ?_⟩
  refine ⟨⟨hM_, a_te_ok hd_.1.2.1 hK_ hp_ h1_ h2_ h3_ h4_ h5_, fun m_ hm_ => ?_⟩, nr_fr hd_.2.1 hFx12_ rfl, cr_fr hd_.2.2 hFx12_ rfl rfl rfl⟩
  have y_ := hd_.1.2.2 m_ hm_
  have hq_ := (hd_.1.2.1.2 m_ hm_).1
  refine ⟨?_, fun s_ hs_ => ?_⟩
  · (try simp only [rd_eq, rd_ne, rf_eq, rf_nk, rf_nt, rd_fa, rd_af, rd_fl, rd_al, rd_lf, rd_la, rd_leq, rd_lne, rd_fr, rd_ar, ne_eq, Nat.reduceEqDiff, not_false_eq_true])
    rw [hm5_, hMn_]
    show (if m_ = M_ then (A_.1 M_ : Int) + 1 else _) = ((if m_ = M_ then A_.1 M_ + 1 else A_.1 m_ : Nat) : Int)
    by_cases e_ : m_ = M_
    · rw [if_pos e_, if_pos e_]; rfl
    · rw [if_neg e_, if_neg e_]; exact y_.1
  · have hs_ : s_ < (if m_ = M_ then A_.1 M_ + 1 else A_.1 m_) := hs_
    (try simp only [rd_eq, rd_ne, rf_eq, rf_nk, rf_nt, rd_fa, rd_af, rd_fl, rd_al, rd_lf, rd_la, rd_leq, rd_lne, rd_fr, rd_ar, ne_eq, Nat.reduceEqDiff, not_false_eq_true])
    rw [hX_]
    simp only [a_te]
    by_cases e_ : 40 * m_ + s_ = 40 * M_ + A_.1 M_
    · rw [if_pos e_, if_pos e_, if_pos e_, if_pos e_, if_pos e_, if_pos e_, if_pos e_, if_pos e_]
      exact ⟨hf_, rfl, rfl, rfl⟩
    · rw [if_neg e_, if_neg e_, if_neg e_, if_neg e_, if_neg e_, if_neg e_, if_neg e_, if_neg e_]
      refine y_.2 s_ ?_
      by_cases e1_ : m_ = M_
      · rw [if_pos e1_] at hs_
        subst e1_
        omega
      · rw [if_neg e1_] at hs_
        exact hs_
end
/-! 99.x9e -/
section
/-! Reader.nextInput -/
def vw_130 : sx_Wl := ([], [], [])
def vq_130 (m_ : Int) (k_ : Int) (b_ : Nat → Int) (n_ : Nat) (A_ : pA) (M_ : Nat) (mm_ : Nat) (k0_ : Nat) (S0_ : sm_S) (u_ : Option sm_V) (S1_ : sm_S) : Prop := S0_ = S1_ ∧ ∃ v_ : Int, u_ = some (.inl v_) ∧ (v_ = p_ni A_ mm_ k0_)
set_option maxHeartbeats 400000 in
theorem vl_130 {sc_ : Nat × (Nat → Int)} (m_ : Int) (k_ : Int) (b_ : Nat → Int) (n_ : Nat) (A_ : pA) (M_ : Nat) (mm_ : Nat) (k0_ : Nat) (S0_ : sm_S) (hd_ : er b_ n_ A_ M_ S0_) (hmd_ : m_ = (mm_ : Int) ∧ mm_ ≤ M_) (hk_ : k_ = (k0_ : Int)) (hk1_ : k0_ ≤ A_.1 mm_) : ∀ nn_ : Nat, (∀ (s_ : Int) (S_ : sm_S), gi S_ → ai_fr (sx_W vw_130) S0_ S_ → ((k_ ≤ s_ ∧ s_ ≤ (A_.1 mm_ : Int)) ∧ (p_fd (fun s_ => decide (k0_ ≤ s_) && decide (A_.2.2.1 (40 * mm_ + s_) = 0)) s_.toNat = -1) ∧ (S_ = S0_) ∧ True) → (((A_.1 mm_ : Int) - s_).toNat) < nn_ → sm_T (mt_P sc_) 0 130 (2, [some (.inr (.inr (some (7, 0)))), some (.inl m_), some (.inl k_), some (.inl s_)], [], S_) (fun r_ => ∃ u_ S1_, r_ = (.inl u_, S1_, 0) ∧ vq_130 m_ k_ b_ n_ A_ M_ mm_ k0_ S0_ u_ S1_)) := by
  intro nn_
  induction nn_ with
  | zero => exact fun _ _ _ _ _ h_ => absurd h_ (Nat.not_lt_zero _)
  | succ nn_ ih_ =>
    rintro s_ S_ hI_ hF_ ⟨h0_, h1_, hS_, -⟩ hm_
    have hA_ := (hd_.2.1.2 mm_ hmd_.2).1
    have hM1_ := hd_.2.1.1
    have hK_ : S_.2.2.1 77 0 m_.toNat = (A_.1 mm_ : Int) := by rw [hS_, show m_.toNat = mm_ by omega]; exact (hd_.2.2 mm_ hmd_.2).1
    have hs9_ : s_ < (A_.1 mm_ : Int) → S_.2.2.1 79 0 (40 * m_ + s_).toNat = A_.2.2.1 (40 * mm_ + s_.toNat) := by intro z_; rw [hS_, show (40 * m_ + s_).toNat = 40 * mm_ + s_.toNat by omega]; exact ((hd_.2.2 mm_ hmd_.2).2 s_.toNat (by omega)).2.1
    refine sm_T_go 4 (c1 := (8, [some (.inr (.inr (some (7, 0)))), some (.inl m_), some (.inl k_), some (.inl s_)], [.inl m_, .inr (.inr (some (77, 0))), .inl s_], S_)) rfl ?_
    refine sm_T_iald (n := 17) rfl rfl (by omega) (by omega) ?_
    have bx1_ : 0 ≤ S_.2.2.1 77 0 m_.toNat ∧ S_.2.2.1 77 0 m_.toNat ≤ 40 := hI_.2 77 0 _
    refine sm_T_br (a := 3) (z := 25) rfl (fun cx2_ => ?_) (fun cx2_ => ?_)
    · have cx2_ : (S_.2.2.1 77 0 m_.toNat) ≤ s_ := of_decide_eq_true cx2_
      refine sm_T_go 1 (c1 := (35, [some (.inr (.inr (some (7, 0)))), some (.inl m_), some (.inl k_), some (.inl s_)], [.inl (-1)], S_)) rfl ?_
      refine sm_T_ri rfl ⟨_, _, rfl, (by first | rfl | exact hS_.symm), _, rfl, ?_⟩
      unfold p_ni
      rw [show A_.1 mm_ = s_.toNat by omega]
      exact h1_.symm
    · have cx2_ : ¬ ((S_.2.2.1 77 0 m_.toNat) ≤ s_) := of_decide_eq_false cx2_
      refine sm_T_go 4 (c1 := (19, [some (.inr (.inr (some (7, 0)))), some (.inl m_), some (.inl k_), some (.inl s_)], [.inl 40, .inl m_, .inr (.inr (some (79, 0)))], S_)) rfl ?_
      refine sm_T_bin (w := 40 * m_) rfl (bi_mul (by omega) (by omega) (by omega)) ?_
      refine sm_T_go 1 (c1 := (21, [some (.inr (.inr (some (7, 0)))), some (.inl m_), some (.inl k_), some (.inl s_)], [.inl s_, .inl (40 * m_), .inr (.inr (some (79, 0)))], S_)) rfl ?_
      refine sm_T_bin (w := 40 * m_ + s_) rfl (bi_add (by omega) (by omega) (by omega)) ?_
      refine sm_T_iald (n := 640) rfl rfl (by omega) (by omega) ?_
      have bx3_ : 0 ≤ S_.2.2.1 79 0 (40 * m_ + s_).toNat ∧ S_.2.2.1 79 0 (40 * m_ + s_).toNat ≤ 5 := hI_.2 79 0 _
      refine sm_T_b0 (a := 1) (z := 5) rfl (fun cx4_ => ?_) (fun cx4_ => ?_)
      · have cx4_ : (S_.2.2.1 79 0 (40 * m_ + s_).toNat) ≠ 0 := of_decide_eq_true cx4_
        refine sm_T_inc (a := 3) (z := 1) (v := s_) (w := s_ + 1) rfl rfl (by omega) (by omega) (by omega) ?_
        refine sm_T_go 1 (c1 := (2, [some (.inr (.inr (some (7, 0)))), some (.inl m_), some (.inl k_), some (.inl (s_ + 1))], [], S_)) rfl ?_
        refine ih_ (s_ + 1) S_ hI_ hF_ ⟨?_, ?_, ?_, trivial⟩ ?_
        · omega
        · have e9_ := hs9_ (by omega)
          rw [show (s_ + 1).toNat = s_.toNat + 1 by omega]
          refine p_fd_nx h1_ ?_
          rw [Bool.and_eq_false_iff]; right; exact decide_eq_false (by omega)
        · first | rfl | exact hS_
        · omega
      · have cx4_ : ¬ ((S_.2.2.1 79 0 (40 * m_ + s_).toNat) ≠ 0) := of_decide_eq_false cx4_
        refine sm_T_go 1 (c1 := (27, [some (.inr (.inr (some (7, 0)))), some (.inl m_), some (.inl k_), some (.inl s_)], [.inl s_], S_)) rfl ?_
        refine sm_T_ri rfl ⟨_, _, rfl, (by first | rfl | exact hS_.symm), _, rfl, ?_⟩
        have e9_ := hs9_ (by omega)
        unfold p_ni
        rw [p_fd_go h1_ ?_ (show s_.toNat < A_.1 mm_ by omega)]
        · omega
        · rw [Bool.and_eq_true, decide_eq_true_eq, decide_eq_true_eq]; exact ⟨by omega, by omega⟩
set_option maxHeartbeats 400000 in
theorem vc_130 {sc_ : Nat × (Nat → Int)} (m_ : Int) (k_ : Int) (b_ : Nat → Int) (n_ : Nat) (A_ : pA) (M_ : Nat) (mm_ : Nat) (k0_ : Nat) (S0_ : sm_S) (hI_ : gi S0_) (hd_ : er b_ n_ A_ M_ S0_) (hmd_ : m_ = (mm_ : Int) ∧ mm_ ≤ M_) (hk_ : k_ = (k0_ : Int)) (hk1_ : k0_ ≤ A_.1 mm_) : sm_T (mt_P sc_) 0 130 (0, [some (.inr (.inr (some (7, 0)))), some (.inl m_), some (.inl k_), none], [], S0_) (fun r_ => ∃ u_ S1_, r_ = (.inl u_, S1_, 0) ∧ vq_130 m_ k_ b_ n_ A_ M_ mm_ k0_ S0_ u_ S1_) := by
  have hF_ : ai_fr (sx_W vw_130) S0_ S0_ := ai_fr_rf
  refine sm_T_go 2 (c1 := (2, [some (.inr (.inr (some (7, 0)))), some (.inl m_), some (.inl k_), some (.inl k_)], [], S0_)) rfl ?_
  refine (vl_130 m_ k_ b_ n_ A_ M_ mm_ k0_ S0_ hd_ hmd_ hk_ hk1_ _) k_ S0_ hI_ hF_ ⟨?_, ?_, ?_, trivial⟩ (Nat.lt_succ_self _)
  · omega
  · rw [hk_]
    have : ∀ j_, j_ ≤ k0_ → p_fd (fun s_ => decide (k0_ ≤ s_) && decide (A_.2.2.1 (40 * mm_ + s_) = 0)) j_ = -1 := by intro j_; induction j_ with | zero => (intro _; rfl) | succ j_ ih_ => (intro hj_; exact p_fd_nx (ih_ (by omega)) (by rw [decide_eq_false (by omega)]; rfl))
    exact this k0_ (Nat.le_refl _)
  · first | rfl | exact hS_
end
/-! 99.xaa -/
section
/-! the class reader: items; written by wip/p55/gen/vg -/
/-! Reader.readInput -/
def vw_124 : sx_Wl := ([(10, 2), (10, 3), (10, 4), (10, 5), (10, 6), (10, 7), (10, 8)], [77, 78, 79, 80, 81], [])
def vq_124 (b_ : Nat → Int) (n_ : Nat) (A_ : pA) (N_ : Nat → Nat) (M_ : Nat) (c_ : List Int) (p_ : Nat) (S0_ : sm_S) (u_ : Option sm_V) (S1_ : sm_S) : Prop := u_ = none ∧ gi S1_ ∧ ai_fr (sx_W vw_124) S0_ S1_ ∧ (∃ r_, p_in b_ n_ A_ M_ c_ p_ = .inr r_ ∧ ct b_ n_ r_.2.2 S1_ ∧ dr b_ n_ r_.1 N_ M_ r_.2.1 S1_ ∧ r_.2.1.length ≤ 3 * r_.2.2 ∧ p_ < r_.2.2)
def vx_124 (b_ : Nat → Int) (n_ : Nat) (A_ : pA) (N_ : Nat → Nat) (M_ : Nat) (c_ : List Int) (p_ : Nat) (S0_ : sm_S) (S1_ : sm_S) : Prop := gi S1_ ∧ ai_fr (sx_W vw_124) S0_ S1_ ∧ (∃ e_, p_in b_ n_ A_ M_ c_ p_ = .inl e_ ∧ ter S1_ e_)
set_option maxHeartbeats 400000 in
theorem vc_124 {sc_ : Nat × (Nat → Int)} (b_ : Nat → Int) (n_ : Nat) (A_ : pA) (N_ : Nat → Nat) (M_ : Nat) (c_ : List Int) (p_ : Nat) (S0_ : sm_S) (hI_ : gi S0_) (hc_ : ct b_ n_ p_ S0_) (hd_ : dr b_ n_ A_ N_ M_ c_ S0_) (hl_ : c_.length ≤ 3 * p_) (hk0_ : lx_kd b_ n_ p_ ≠ 0) : sm_T (mt_P sc_) 3 124 (0, [some (.inr (.inr (some (7, 0)))), none, none], [], S0_) (fun r_ => (∃ u_ S1_, r_ = (.inl u_, S1_, 0) ∧ vq_124 b_ n_ A_ N_ M_ c_ p_ S0_ u_ S1_) ∨ ∃ S1_, r_ = (.inr 2, S1_, 1) ∧ vx_124 b_ n_ A_ N_ M_ c_ p_ S0_ S1_) := by
  have hF_ : ai_fr (sx_W vw_124) S0_ S0_ := ai_fr_rf
  have st0_ := hc_.2.2.2.2.2.1
  have kd0_ := hc_.2.2.2.2.2.2.2.1
  have hp0_ := hc_.2.2.2.1
  have hn1_ := hc_.2.2.1
  have hM1_ := hd_.1.2.1.1
  have hA1_ := (hd_.1.2.1.2 M_ (Nat.le_refl _)).1
  refine sm_T_go 2 (c1 := (4, [some (.inr (.inr (some (7, 0)))), none, none], [.inr (.inr (some (10, 0)))], S0_)) rfl ?_
  refine sm_T_calx (d1 := 1) (Q1 := vq_191 b_ n_ (lx_en b_ n_ p_) S0_) (Q2 := vx_191 b_ n_ (lx_en b_ n_ p_) S0_) rfl rfl (by decide) (vc_191 b_ n_ (lx_en b_ n_ p_) S0_ hI_ (by exact hc_.1) (by exact hc_.2.1) (by exact hc_.2.2.1) (by exact hc_.2.2.2.2.2.2.1) (by exact (lx_en_le (b := b_) hc_.2.2.2.1).2)) rfl (fun Sx1_ px4_ => ?_) (fun u_ Sx1_ px4_ => ?_)
  · obtain ⟨hIx2_, hFx3_, px4_⟩ := px4_
    refine Or.inr ⟨_, rfl, hIx2_, ai_fr_tr hF_ (fr_le hFx3_ rfl), ?_⟩
    refine ⟨(1, (lx_nx b_ n_ p_)), ?_, px4_.2⟩
    unfold p_in; rw [pb_l (p_ad_x px4_.1)]
  obtain ⟨rfl, hIx2_, hFx3_, px4_⟩ := px4_
  have hFx5_ : ai_fr (sx_W vw_124) S0_ Sx1_ := ai_fr_tr hF_ (fr_le hFx3_ rfl)
  have c1_ : ct b_ n_ (lx_nx b_ n_ p_) _ := px4_
  have a1_ := p_ad_c px4_
  have d1_ := dr_fr hd_ hFx3_ rfl rfl rfl rfl rfl rfl rfl rfl rfl rfl
  have k1_ := p_ad_ok hc_.2.2.2.1 (by omega) a1_
  have st1_ := c1_.2.2.2.2.2.1
  have kd1_ := c1_.2.2.2.2.2.2.2.1
  have hp1_ := c1_.2.2.2.1
  have bx6_ : 0 ≤ Sx1_.1 7 0 3 ∧ Sx1_.1 7 0 3 ≤ 16 := hIx2_.1 7 0 3 rfl
  refine sm_T_go 4 (c1 := (14, [some (.inr (.inr (some (7, 0)))), none, none], [.inl 40, .inl (Sx1_.1 7 0 3), .inr (.inr (some (7, 0)))], Sx1_)) rfl ?_
  refine sm_T_calx (d1 := 2) (Q1 := vq_120 (Sx1_.1 7 0 3) 40 b_ n_ (lx_nx b_ n_ p_) M_ (A_.1 M_) (fun s_ => A_.2.1 (40 * M_ + s_)) Sx1_) (Q2 := vx_120 (Sx1_.1 7 0 3) 40 b_ n_ (lx_nx b_ n_ p_) M_ (A_.1 M_) (fun s_ => A_.2.1 (40 * M_ + s_)) Sx1_) rfl rfl (by decide) (vc_120 (Sx1_.1 7 0 3) 40 b_ n_ (lx_nx b_ n_ p_) M_ (A_.1 M_) (fun s_ => A_.2.1 (40 * M_ + s_)) Sx1_ hIx2_ (by exact c1_) (by exact d1_.1.1) (by exact er_nmr d1_.1 (Nat.le_refl _))) rfl (fun Sx7_ px10_ => ?_) (fun u_ Sx7_ px10_ => ?_)
  · obtain ⟨hIx8_, hFx9_, px10_⟩ := px10_
    refine Or.inr ⟨_, rfl, hIx8_, ai_fr_tr hFx5_ (fr_le hFx9_ rfl), ?_⟩
    obtain ⟨e_, w1_, w2_⟩ := px10_
    refine ⟨e_, ?_, w2_⟩
    unfold p_in; rw [pb_r a1_, pb_l (show p_nw b_ n_ A_ M_ (lx_nx b_ n_ p_) = .inl e_ from w1_)]
  obtain ⟨vx12_, rfl, hIx8_, hFx9_, px10_⟩ := px10_
  have hFx11_ : ai_fr (sx_W vw_124) S0_ Sx7_ := ai_fr_tr hFx5_ (fr_le hFx9_ rfl)
  have ex13_ : Sx7_.1 7 0 3 = Sx1_.1 7 0 3 := hFx9_.1 7 0 3 rfl
  obtain ⟨nv_, nk_, r2_, a2_, c2_⟩ := px10_
  have a2_ : p_nw b_ n_ A_ M_ (lx_nx b_ n_ p_) = .inr r2_ := a2_
  have d2_ := dr_fr d1_ hFx9_ rfl rfl rfl rfl rfl rfl rfl rfl rfl rfl
  have nn_ := p_nn_ok a2_
  have nm_ : nmp b_ n_ (lx_nx b_ n_ p_) := ⟨c1_.2.2.2.1, nk_⟩
  have k2_ := p_ad_ok c1_.2.2.2.1 (by omega) nn_.2.2
  have nK_ : A_.1 M_ < 40 := by omega
  have st2_ := c2_.2.2.2.2.2.1
  have kd2_ := c2_.2.2.2.2.2.2.2.1
  have hp2_ := c2_.2.2.2.1
  refine sm_T_go 2 (c1 := (19, [some (.inr (.inr (some (7, 0)))), some (.inl vx12_), none], [.inr (.inr (some (7, 0)))], Sx7_)) rfl ?_
  refine sm_T_calx (d1 := 2) (Q1 := vq_123 b_ n_ r2_ Sx7_) (Q2 := vx_123 b_ n_ r2_ Sx7_) rfl rfl (by decide) (vc_123 b_ n_ r2_ Sx7_ hIx8_ (by exact c2_)) rfl (fun Sx14_ px17_ => ?_) (fun u_ Sx14_ px17_ => ?_)
  · obtain ⟨hIx15_, hFx16_, px17_⟩ := px17_
    refine Or.inr ⟨_, rfl, hIx15_, ai_fr_tr hFx11_ (fr_le hFx16_ rfl), ?_⟩
    obtain ⟨e_, w1_, w2_⟩ := px17_
    refine ⟨e_, ?_, w2_⟩
    unfold p_in; rw [pb_r a1_, pb_r a2_, pb_l w1_]
  obtain ⟨vx19_, rfl, hIx15_, hFx16_, px17_⟩ := px17_
  have hFx18_ : ai_fr (sx_W vw_124) S0_ Sx14_ := ai_fr_tr hFx11_ (fr_le hFx16_ rfl)
  obtain ⟨r3_, a3_, c3_⟩ := px17_
  have d3_ := dr_fr d2_ hFx16_ rfl rfl rfl rfl rfl rfl rfl rfl rfl rfl
  have k3_ := p_wi_ok c2_.2.2.2.1 c2_.2.2.2.2.1 a3_
  have k3a : r2_ ≤ r3_ := k3_.1
  have k3b : 1 ≤ vx19_ ∧ vx19_ ≤ 8 := k3_.2.2.2
  have st3_ := c3_.2.2.2.2.2.1
  have kd3_ := c3_.2.2.2.2.2.2.2.1
  have hp3_ := c3_.2.2.2.1
  refine sm_T_go 4 (c1 := (29, [some (.inr (.inr (some (7, 0)))), some (.inl vx12_), some (.inl vx19_)], [.inl 59, .inr (.inr (some (10, 0)))], Sx14_)) rfl ?_
  refine sm_T_calx (d1 := 2) (Q1 := vq_188 59 b_ n_ r3_ Sx14_) (Q2 := vx_188 59 b_ n_ r3_ Sx14_) rfl rfl (by decide) (vc_188 59 b_ n_ r3_ Sx14_ hIx15_ (by exact c3_)) rfl (fun Sx20_ px23_ => ?_) (fun u_ Sx20_ px23_ => ?_)
  · obtain ⟨hIx21_, hFx22_, px23_⟩ := px23_
    refine Or.inr ⟨_, rfl, hIx21_, ai_fr_tr hFx18_ (fr_le hFx22_ rfl), ?_⟩
    obtain ⟨e_, w1_, w2_⟩ := px23_
    refine ⟨e_, ?_, w2_⟩
    unfold p_in; rw [pb_r a1_, pb_r a2_, pb_r a3_, pb_l w1_]
  obtain ⟨rfl, hIx21_, hFx22_, px23_⟩ := px23_
  have hFx24_ : ai_fr (sx_W vw_124) S0_ Sx20_ := ai_fr_tr hFx18_ (fr_le hFx22_ rfl)
  obtain ⟨r4_, a4_, c4_⟩ := px23_
  have k4_ := p_nd_ok (by decide) c3_.2.2.2.1 a4_
  have d4_ := dr_fr d3_ hFx22_ rfl rfl rfl rfl rfl rfl rfl rfl rfl rfl
  have st4_ := c4_.2.2.2.2.2.1
  have kd4_ := c4_.2.2.2.2.2.2.2.1
  have hp4_ := c4_.2.2.2.1
  refine sm_T_go 5 (c1 := (37, [some (.inr (.inr (some (7, 0)))), some (.inl vx12_), some (.inl vx19_)], [.inl 0, .inl vx19_, .inl 0, .inl vx12_, .inr (.inr (some (7, 0)))], Sx20_)) rfl ?_
  refine sm_T_cal (d1 := 0) (Q1 := vq_121 vx12_ 0 vx19_ 0 b_ n_ A_ N_ M_ c_ (lx_nx b_ n_ p_) Sx20_) rfl rfl (by decide) (vc_121 vx12_ 0 vx19_ 0 b_ n_ A_ N_ M_ c_ (lx_nx b_ n_ p_) Sx20_ hIx21_ (by exact d4_) (by exact nv_) (by exact nm_) (by exact hn1_) (by exact nK_) (by omega) (by omega) (by intro _; omega) (by intro z_; omega) (by omega)) (fun u_ Sx25_ px28_ => ?_)
  obtain ⟨rfl, hIx26_, hFx27_, px28_⟩ := px28_
  have hFx29_ : ai_fr (sx_W vw_124) S0_ Sx25_ := ai_fr_tr hFx24_ (fr_le hFx27_ rfl)
  have dt_ := px28_
  have FT_ := hFx27_
  refine sm_T_rv rfl (Or.inl ⟨_, _, rfl, rfl, hIx26_, hFx29_, ?_⟩)
  exact ⟨_, by unfold p_in; rw [pb_r a1_, pb_r a2_, pb_r a3_, pb_r a4_], ct_fr c4_ FT_ rfl rfl rfl rfl rfl rfl rfl, dt_, by show c_.length ≤ 3 * r4_; omega, by show p_ < r4_; omega⟩
end
/-! 99.xab -/
section
/-! Reader.readValue -/
def vw_125 : sx_Wl := ([(7, 2), (7, 14), (7, 16), (7, 17), (10, 2), (10, 3), (10, 4), (10, 5), (10, 6), (10, 7), (10, 8)], [74, 77, 78, 79, 80, 81, 82, 83, 84], [])
def vq_125 (so_ : Int) (b_ : Nat → Int) (n_ : Nat) (A_ : pA) (N_ : Nat → Nat) (M_ : Nat) (c_ : List Int) (p_ : Nat) (S0_ : sm_S) (u_ : Option sm_V) (S1_ : sm_S) : Prop := u_ = none ∧ gi S1_ ∧ ai_fr (sx_W vw_125) S0_ S1_ ∧ (∃ r_, p_va b_ n_ A_ M_ so_ c_ p_ = .inr r_ ∧ ct b_ n_ r_.2.2 S1_ ∧ dr b_ n_ r_.1 N_ M_ r_.2.1 S1_ ∧ r_.2.1.length ≤ 3 * r_.2.2 ∧ p_ < r_.2.2)
def vx_125 (so_ : Int) (b_ : Nat → Int) (n_ : Nat) (A_ : pA) (N_ : Nat → Nat) (M_ : Nat) (c_ : List Int) (p_ : Nat) (S0_ : sm_S) (S1_ : sm_S) : Prop := gi S1_ ∧ ai_fr (sx_W vw_125) S0_ S1_ ∧ (∃ e_, p_va b_ n_ A_ M_ so_ c_ p_ = .inl e_ ∧ ter S1_ e_)
set_option maxHeartbeats 400000 in
theorem vc_125 {sc_ : Nat × (Nat → Int)} (so_ : Int) (b_ : Nat → Int) (n_ : Nat) (A_ : pA) (N_ : Nat → Nat) (M_ : Nat) (c_ : List Int) (p_ : Nat) (S0_ : sm_S) (hI_ : gi S0_) (hc_ : ct b_ n_ p_ S0_) (hd_ : dr b_ n_ A_ N_ M_ c_ S0_) (hl_ : c_.length ≤ 3 * p_) (hk0_ : lx_kd b_ n_ p_ ≠ 0) (hso_ : so_ = 1 ∨ so_ = 2) : sm_T (mt_P sc_) 5 125 (0, [some (.inr (.inr (some (7, 0)))), some (.inl so_), none, none, none], [], S0_) (fun r_ => (∃ u_ S1_, r_ = (.inl u_, S1_, 0) ∧ vq_125 so_ b_ n_ A_ N_ M_ c_ p_ S0_ u_ S1_) ∨ ∃ S1_, r_ = (.inr 2, S1_, 1) ∧ vx_125 so_ b_ n_ A_ N_ M_ c_ p_ S0_ S1_) := by
  have hF_ : ai_fr (sx_W vw_125) S0_ S0_ := ai_fr_rf
  have st0_ := hc_.2.2.2.2.2.1
  have kd0_ := hc_.2.2.2.2.2.2.2.1
  have hp0_ := hc_.2.2.2.1
  have hn1_ := hc_.2.2.1
  have hM1_ := hd_.1.2.1.1
  have hA1_ := (hd_.1.2.1.2 M_ (Nat.le_refl _)).1
  refine sm_T_go 2 (c1 := (4, [some (.inr (.inr (some (7, 0)))), some (.inl so_), none, none, none], [.inr (.inr (some (10, 0)))], S0_)) rfl ?_
  refine sm_T_calx (d1 := 1) (Q1 := vq_191 b_ n_ (lx_en b_ n_ p_) S0_) (Q2 := vx_191 b_ n_ (lx_en b_ n_ p_) S0_) rfl rfl (by decide) (vc_191 b_ n_ (lx_en b_ n_ p_) S0_ hI_ (by exact hc_.1) (by exact hc_.2.1) (by exact hc_.2.2.1) (by exact hc_.2.2.2.2.2.2.1) (by exact (lx_en_le (b := b_) hc_.2.2.2.1).2)) rfl (fun Sx1_ px4_ => ?_) (fun u_ Sx1_ px4_ => ?_)
  · obtain ⟨hIx2_, hFx3_, px4_⟩ := px4_
    refine Or.inr ⟨_, rfl, hIx2_, ai_fr_tr hF_ (fr_le hFx3_ rfl), ?_⟩
    refine ⟨(1, (lx_nx b_ n_ p_)), ?_, px4_.2⟩
    unfold p_va; rw [pb_l (p_ad_x px4_.1)]
  obtain ⟨rfl, hIx2_, hFx3_, px4_⟩ := px4_
  have hFx5_ : ai_fr (sx_W vw_125) S0_ Sx1_ := ai_fr_tr hF_ (fr_le hFx3_ rfl)
  have c1_ : ct b_ n_ (lx_nx b_ n_ p_) _ := px4_
  have a1_ := p_ad_c px4_
  have d1_ := dr_fr hd_ hFx3_ rfl rfl rfl rfl rfl rfl rfl rfl rfl rfl
  have k1_ := p_ad_ok hc_.2.2.2.1 (by omega) a1_
  have st1_ := c1_.2.2.2.2.2.1
  have kd1_ := c1_.2.2.2.2.2.2.2.1
  have hp1_ := c1_.2.2.2.1
  have bx6_ : 0 ≤ Sx1_.1 7 0 3 ∧ Sx1_.1 7 0 3 ≤ 16 := hIx2_.1 7 0 3 rfl
  refine sm_T_go 4 (c1 := (14, [some (.inr (.inr (some (7, 0)))), some (.inl so_), none, none, none], [.inl 40, .inl (Sx1_.1 7 0 3), .inr (.inr (some (7, 0)))], Sx1_)) rfl ?_
  refine sm_T_calx (d1 := 2) (Q1 := vq_120 (Sx1_.1 7 0 3) 40 b_ n_ (lx_nx b_ n_ p_) M_ (A_.1 M_) (fun s_ => A_.2.1 (40 * M_ + s_)) Sx1_) (Q2 := vx_120 (Sx1_.1 7 0 3) 40 b_ n_ (lx_nx b_ n_ p_) M_ (A_.1 M_) (fun s_ => A_.2.1 (40 * M_ + s_)) Sx1_) rfl rfl (by decide) (vc_120 (Sx1_.1 7 0 3) 40 b_ n_ (lx_nx b_ n_ p_) M_ (A_.1 M_) (fun s_ => A_.2.1 (40 * M_ + s_)) Sx1_ hIx2_ (by exact c1_) (by exact d1_.1.1) (by exact er_nmr d1_.1 (Nat.le_refl _))) rfl (fun Sx7_ px10_ => ?_) (fun u_ Sx7_ px10_ => ?_)
  · obtain ⟨hIx8_, hFx9_, px10_⟩ := px10_
    refine Or.inr ⟨_, rfl, hIx8_, ai_fr_tr hFx5_ (fr_le hFx9_ rfl), ?_⟩
    obtain ⟨e_, w1_, w2_⟩ := px10_
    refine ⟨e_, ?_, w2_⟩
    unfold p_va; rw [pb_r a1_, pb_l (show p_nw b_ n_ A_ M_ (lx_nx b_ n_ p_) = .inl e_ from w1_)]
  obtain ⟨vx12_, rfl, hIx8_, hFx9_, px10_⟩ := px10_
  have hFx11_ : ai_fr (sx_W vw_125) S0_ Sx7_ := ai_fr_tr hFx5_ (fr_le hFx9_ rfl)
  have ex13_ : Sx7_.1 7 0 3 = Sx1_.1 7 0 3 := hFx9_.1 7 0 3 rfl
  obtain ⟨nv_, nk_, r2_, a2_, c2_⟩ := px10_
  have a2_ : p_nw b_ n_ A_ M_ (lx_nx b_ n_ p_) = .inr r2_ := a2_
  have d2_ := dr_fr d1_ hFx9_ rfl rfl rfl rfl rfl rfl rfl rfl rfl rfl
  have nn_ := p_nn_ok a2_
  have nm_ : nmp b_ n_ (lx_nx b_ n_ p_) := ⟨c1_.2.2.2.1, nk_⟩
  have k2_ := p_ad_ok c1_.2.2.2.1 (by omega) nn_.2.2
  have nK_ : A_.1 M_ < 40 := by omega
  have st2_ := c2_.2.2.2.2.2.1
  have kd2_ := c2_.2.2.2.2.2.2.2.1
  have hp2_ := c2_.2.2.2.1
  refine sm_T_go 2 (c1 := (19, [some (.inr (.inr (some (7, 0)))), some (.inl so_), some (.inl vx12_), none, none], [.inr (.inr (some (7, 0)))], Sx7_)) rfl ?_
  refine sm_T_calx (d1 := 2) (Q1 := vq_123 b_ n_ r2_ Sx7_) (Q2 := vx_123 b_ n_ r2_ Sx7_) rfl rfl (by decide) (vc_123 b_ n_ r2_ Sx7_ hIx8_ (by exact c2_)) rfl (fun Sx14_ px17_ => ?_) (fun u_ Sx14_ px17_ => ?_)
  · obtain ⟨hIx15_, hFx16_, px17_⟩ := px17_
    refine Or.inr ⟨_, rfl, hIx15_, ai_fr_tr hFx11_ (fr_le hFx16_ rfl), ?_⟩
    obtain ⟨e_, w1_, w2_⟩ := px17_
    refine ⟨e_, ?_, w2_⟩
    unfold p_va; rw [pb_r a1_, pb_r a2_, pb_l w1_]
  obtain ⟨vx19_, rfl, hIx15_, hFx16_, px17_⟩ := px17_
  have hFx18_ : ai_fr (sx_W vw_125) S0_ Sx14_ := ai_fr_tr hFx11_ (fr_le hFx16_ rfl)
  obtain ⟨r3_, a3_, c3_⟩ := px17_
  have d3_ := dr_fr d2_ hFx16_ rfl rfl rfl rfl rfl rfl rfl rfl rfl rfl
  have k3_ := p_wi_ok c2_.2.2.2.1 c2_.2.2.2.2.1 a3_
  have k3a : r2_ ≤ r3_ := k3_.1
  have k3b : 1 ≤ vx19_ ∧ vx19_ ≤ 8 := k3_.2.2.2
  have st3_ := c3_.2.2.2.2.2.1
  have kd3_ := c3_.2.2.2.2.2.2.2.1
  have hp3_ := c3_.2.2.2.1
  have bx20_ : 0 ≤ Sx14_.1 10 0 3 ∧ Sx14_.1 10 0 3 ≤ 1280 := hIx15_.1 10 0 3 rfl
  refine sm_T_go 8 (c1 := (38, [some (.inr (.inr (some (7, 0)))), some (.inl so_), some (.inl vx12_), some (.inl vx19_), some (.inl (Sx14_.1 10 0 3))], [.inl 61, .inr (.inr (some (10, 0)))], Sx14_)) rfl ?_
  refine sm_T_calx (d1 := 2) (Q1 := vq_188 61 b_ n_ r3_ Sx14_) (Q2 := vx_188 61 b_ n_ r3_ Sx14_) rfl rfl (by decide) (vc_188 61 b_ n_ r3_ Sx14_ hIx15_ (by exact c3_)) rfl (fun Sx21_ px24_ => ?_) (fun u_ Sx21_ px24_ => ?_)
  · obtain ⟨hIx22_, hFx23_, px24_⟩ := px24_
    refine Or.inr ⟨_, rfl, hIx22_, ai_fr_tr hFx18_ (fr_le hFx23_ rfl), ?_⟩
    obtain ⟨e_, w1_, w2_⟩ := px24_
    refine ⟨e_, ?_, w2_⟩
    unfold p_va; rw [pb_r a1_, pb_r a2_, pb_r a3_, pb_l w1_]
  obtain ⟨rfl, hIx22_, hFx23_, px24_⟩ := px24_
  have hFx25_ : ai_fr (sx_W vw_125) S0_ Sx21_ := ai_fr_tr hFx18_ (fr_le hFx23_ rfl)
  obtain ⟨r4_, a4_, c4_⟩ := px24_
  have k4_ := p_nd_ok (by decide) c3_.2.2.2.1 a4_
  have d4_ := dr_fr d3_ hFx23_ rfl rfl rfl rfl rfl rfl rfl rfl rfl rfl
  have st4_ := c4_.2.2.2.2.2.1
  have kd4_ := c4_.2.2.2.2.2.2.2.1
  have hp4_ := c4_.2.2.2.1
  refine sm_T_go 1 (c1 := (42, [some (.inr (.inr (some (7, 0)))), some (.inl so_), some (.inl vx12_), some (.inl vx19_), some (.inl (Sx14_.1 10 0 3))], [.inr (.inr (some (7, 0)))], Sx21_)) rfl ?_
  refine sm_T_calx (d1 := 4) (Q1 := vq_134 b_ n_ false A_ M_ 0 (fun _ => 0) (p_xd b_ n_ A_ M_ c_ r4_) c_ r4_ Sx21_) (Q2 := vx_134 b_ n_ false A_ M_ 0 (fun _ => 0) (p_xd b_ n_ A_ M_ c_ r4_) c_ r4_ Sx21_) rfl rfl (by decide) (vc_134 b_ n_ false A_ M_ 0 (fun _ => 0) (p_xd b_ n_ A_ M_ c_ r4_) c_ r4_ Sx21_ hIx22_ (by exact c4_) (by exact ⟨fun _ => rfl, fun _ => d4_.2.2.1⟩) (by exact fun _ => d4_.2.2.2) (by omega) (by exact fun _ => d4_.1) (by exact fun z_ => absurd z_ (by decide)) (by exact p_ex_x hn1_ (pd_ok d4_.1.2.1) c4_.2.2.2.1 c4_.2.2.2.2.1 (by omega))) rfl (fun Sx26_ px29_ => ?_) (fun u_ Sx26_ px29_ => ?_)
  · obtain ⟨hIx27_, hFx28_, px29_⟩ := px29_
    refine Or.inr ⟨_, rfl, hIx27_, ai_fr_tr hFx25_ (fr_le hFx28_ rfl), ?_⟩
    obtain ⟨e_, w1_, w2_⟩ := px29_
    refine ⟨e_, ?_, w2_⟩
    unfold p_va; rw [pb_r a1_, pb_r a2_, pb_r a3_, pb_r a4_, pb_l w1_]
  obtain ⟨vx31_, rfl, hIx27_, hFx28_, px29_⟩ := px29_
  have hFx30_ : ai_fr (sx_W vw_125) S0_ Sx26_ := ai_fr_tr hFx25_ (fr_le hFx28_ rfl)
  obtain ⟨x5_, w5_, a5_, g5_, v5_, vb5_, c5_, lt5_, cd5_, l5_⟩ := px29_
  have d5_ : dr b_ n_ A_ N_ M_ x5_.2.2 Sx26_ := ⟨er_fr d4_.1 hFx28_ rfl rfl rfl rfl rfl rfl, nr_fr d4_.2.1 hFx28_ rfl, (hFx28_.2.1 7 0 11 rfl).trans d4_.2.2.1, cd5_ rfl⟩
  have t5_ : h_tp x5_.2.1 = vx31_ := by rw [g5_, v5_]; rfl
  obtain ⟨o5_, h5_, xs5_⟩ := xs_ex hIx27_ d5_.2.2.1 d5_.2.2.2.1 d5_.2.2.2.2
  have m5_ : Sx26_.2.2.1 77 0 (Sx26_.1 7 0 3).toNat = (A_.1 M_ : Int) := by rw [d5_.1.1, Int.toNat_natCast]; exact (d5_.1.2.2 M_ (Nat.le_refl _)).1
  have st5_ := c5_.2.2.2.2.2.1
  have kd5_ := c5_.2.2.2.2.2.2.2.1
  have hp5_ := c5_.2.2.2.1
  refine sm_T_go 1 (c1 := (46, [some (.inr (.inr (some (7, 0)))), some (.inl so_), some (.inl vx12_), some (.inl vx19_), some (.inl (Sx14_.1 10 0 3))], [.inl vx19_, .inl vx31_], Sx26_)) rfl ?_
  refine sm_T_br (a := 0) (z := 14) rfl (fun cx32_ => ?_) (fun cx32_ => ?_)
  · have cx32_ : vx31_ = vx19_ := of_decide_eq_true cx32_
    have bx33_ : 0 ≤ Sx26_.1 7 0 3 ∧ Sx26_.1 7 0 3 ≤ 16 := hIx27_.1 7 0 3 rfl
    refine sm_T_go 6 (c1 := (71, [some (.inr (.inr (some (7, 0)))), some (.inl so_), some (.inl vx12_), some (.inl vx19_), some (.inl (Sx14_.1 10 0 3))], [.inl (Sx26_.1 7 0 3), .inr (.inr (some (77, 0))), .inl 12, .inr (.inr (some (7, 0)))], Sx26_)) rfl ?_
    refine sm_T_iald (n := 17) rfl rfl (by omega) (by omega) ?_
    have bx34_ : 0 ≤ Sx26_.2.2.1 77 0 (Sx26_.1 7 0 3).toNat ∧ Sx26_.2.2.1 77 0 (Sx26_.1 7 0 3).toNat ≤ 40 := hIx27_.2 77 0 _
    refine sm_T_go 1 (c1 := (73, [some (.inr (.inr (some (7, 0)))), some (.inl so_), some (.inl vx12_), some (.inl vx19_), some (.inl (Sx14_.1 10 0 3))], [.inl 0, .inl (Sx26_.2.2.1 77 0 (Sx26_.1 7 0 3).toNat), .inl 12, .inr (.inr (some (7, 0)))], Sx26_)) rfl ?_
    refine sm_T_cal (d1 := 0) (Q1 := vq_140 12 (Sx26_.2.2.1 77 0 (Sx26_.1 7 0 3).toNat) 0 o5_ h5_ x5_.2.2 Sx26_) rfl rfl (by decide) (vc_140 12 (Sx26_.2.2.1 77 0 (Sx26_.1 7 0 3).toNat) 0 o5_ h5_ x5_.2.2 Sx26_ hIx27_ (by exact xs5_) (by decide) (by omega) (by first | decide | omega) (by omega)) (fun u_ Sx35_ px38_ => ?_)
    obtain ⟨rfl, hIx36_, hFx37_, px38_⟩ := px38_
    have hFx39_ : ai_fr (sx_W vw_125) S0_ Sx35_ := ai_fr_tr hFx30_ (fr_le hFx37_ rfl)
    have ex40_ : Sx35_.1 7 0 3 = Sx26_.1 7 0 3 := hFx37_.1 7 0 3 rfl
    have z6_ := px38_
    rw [m5_] at z6_
    have d6_ : dr b_ n_ A_ N_ M_ (cw 12 (A_.1 M_) 0 :: x5_.2.2) Sx35_ := ⟨er_fr d5_.1 hFx37_ rfl rfl rfl rfl rfl rfl, nr_fr d5_.2.1 hFx37_ rfl, (hFx37_.2.1 7 0 11 rfl).trans d5_.2.2.1, z6_.2.2.2.2.2.2 rfl⟩
    have c6_ := ct_fr c5_ hFx37_ rfl rfl rfl rfl rfl rfl rfl
    have st6_ := c6_.2.2.2.2.2.1
    have kd6_ := c6_.2.2.2.2.2.2.2.1
    have hp6_ := c6_.2.2.2.1
    refine sm_T_go 3 (c1 := (82, [some (.inr (.inr (some (7, 0)))), some (.inl so_), some (.inl vx12_), some (.inl vx19_), some (.inl (Sx14_.1 10 0 3))], [.inl 59, .inr (.inr (some (10, 0)))], Sx35_)) rfl ?_
    refine sm_T_calx (d1 := 2) (Q1 := vq_188 59 b_ n_ x5_.1 Sx35_) (Q2 := vx_188 59 b_ n_ x5_.1 Sx35_) rfl rfl (by decide) (vc_188 59 b_ n_ x5_.1 Sx35_ hIx36_ (by exact c6_)) rfl (fun Sx41_ px44_ => ?_) (fun u_ Sx41_ px44_ => ?_)
    · obtain ⟨hIx42_, hFx43_, px44_⟩ := px44_
      refine Or.inr ⟨_, rfl, hIx42_, ai_fr_tr hFx39_ (fr_le hFx43_ rfl), ?_⟩
      obtain ⟨e_, w1_, w2_⟩ := px44_
      refine ⟨e_, ?_, w2_⟩
      unfold p_va; rw [pb_r a1_, pb_r a2_, pb_r a3_, pb_r a4_, pb_r a5_, if_pos (by rw [t5_]; assumption), pb_l w1_]
    obtain ⟨rfl, hIx42_, hFx43_, px44_⟩ := px44_
    have hFx45_ : ai_fr (sx_W vw_125) S0_ Sx41_ := ai_fr_tr hFx39_ (fr_le hFx43_ rfl)
    obtain ⟨r7_, a7_, c7_⟩ := px44_
    have k7_ := p_nd_ok (by decide) c6_.2.2.2.1 a7_
    have d7_ := dr_fr d6_ hFx43_ rfl rfl rfl rfl rfl rfl rfl rfl rfl rfl
    have st7_ := c7_.2.2.2.2.2.1
    have kd7_ := c7_.2.2.2.2.2.2.2.1
    have hp7_ := c7_.2.2.2.1
    refine sm_T_go 5 (c1 := (90, [some (.inr (.inr (some (7, 0)))), some (.inl so_), some (.inl vx12_), some (.inl vx19_), some (.inl (Sx14_.1 10 0 3))], [.inl 0, .inl vx19_, .inl so_, .inl vx12_, .inr (.inr (some (7, 0)))], Sx41_)) rfl ?_
    refine sm_T_cal (d1 := 0) (Q1 := vq_121 vx12_ so_ vx19_ 0 b_ n_ A_ N_ M_ (cw 12 (A_.1 M_) 0 :: x5_.2.2) (lx_nx b_ n_ p_) Sx41_) rfl rfl (by decide) (vc_121 vx12_ so_ vx19_ 0 b_ n_ A_ N_ M_ (cw 12 (A_.1 M_) 0 :: x5_.2.2) (lx_nx b_ n_ p_) Sx41_ hIx42_ (by exact d7_) (by exact nv_) (by exact nm_) (by exact hn1_) (by exact nK_) (by omega) (by omega) (by intro _; omega) (by intro z_; omega) (by omega)) (fun u_ Sx46_ px49_ => ?_)
    obtain ⟨rfl, hIx47_, hFx48_, px49_⟩ := px49_
    have hFx50_ : ai_fr (sx_W vw_125) S0_ Sx46_ := ai_fr_tr hFx45_ (fr_le hFx48_ rfl)
    have dt_ := px49_
    have FT_ := hFx48_
    refine sm_T_rv rfl (Or.inl ⟨_, _, rfl, rfl, hIx47_, hFx50_, ?_⟩)
    exact ⟨_, by unfold p_va; rw [pb_r a1_, pb_r a2_, pb_r a3_, pb_r a4_, pb_r a5_, if_pos (by rw [t5_]; assumption), pb_r a7_], ct_fr c7_ FT_ rfl rfl rfl rfl rfl rfl rfl, dt_, by show x5_.2.2.length + 1 ≤ 3 * r7_; omega, by show p_ < r7_; omega⟩
  · have cx32_ : ¬ (vx31_ = vx19_) := of_decide_eq_false cx32_
    refine sm_T_go 4 (c1 := (57, [some (.inr (.inr (some (7, 0)))), some (.inl so_), some (.inl vx12_), some (.inl vx19_), some (.inl (Sx14_.1 10 0 3))], [.inl (Sx14_.1 10 0 3), .inl 13, .inr (.inr (some (10, 0)))], Sx26_)) rfl ?_
    refine sm_T_calx (d1 := 0) (Q1 := vq_187 13 (Sx14_.1 10 0 3) Sx26_) (Q2 := vx_187 13 (Sx14_.1 10 0 3) Sx26_) rfl rfl (by decide) (vc_187 13 (Sx14_.1 10 0 3) Sx26_ hIx27_ (by decide) (by omega)) rfl (fun Sx51_ px54_ => ?_) (fun u_ Sx51_ px54_ => ?_)
    · obtain ⟨hIx52_, hFx53_, px54_⟩ := px54_
      refine Or.inr ⟨_, rfl, hIx52_, ai_fr_tr hFx30_ (fr_le hFx53_ rfl), ?_⟩
      refine ⟨(13, r3_), ?_, px54_.1, px54_.2.trans st3_⟩
      unfold p_va; rw [pb_r a1_, pb_r a2_, pb_r a3_, pb_r a4_, pb_r a5_]; rw [if_neg (by rw [t5_]; assumption)]
    · exact (px54_.2.2.2).elim
end
/-! 99.xac -/
section
/-! powers -/
theorem pw_8 : ∀ k_ : Nat, k_ ≤ 8 → (1 : Int) ≤ 2 ^ k_ ∧ (2 : Int) ^ k_ ≤ 256 := by
  intro k_ hk_
  have : ∀ j_ : Nat, j_ < 9 → (1 : Int) ≤ 2 ^ j_ ∧ (2 : Int) ^ j_ ≤ 256 := by decide
  exact this k_ (by omega)
end
/-! 99.xad -/
section
/-! Reader.readRegister -/
def vw_126 : sx_Wl := ([(7, 2), (10, 2), (10, 3), (10, 4), (10, 5), (10, 6), (10, 7), (10, 8)], [74, 77, 78, 79, 80, 81], [])
def vq_126 (b_ : Nat → Int) (n_ : Nat) (A_ : pA) (N_ : Nat → Nat) (M_ : Nat) (c_ : List Int) (p_ : Nat) (S0_ : sm_S) (u_ : Option sm_V) (S1_ : sm_S) : Prop := u_ = none ∧ gi S1_ ∧ ai_fr (sx_W vw_126) S0_ S1_ ∧ (∃ r_, p_re b_ n_ A_ M_ c_ p_ = .inr r_ ∧ ct b_ n_ r_.2.2 S1_ ∧ dr b_ n_ r_.1 N_ M_ r_.2.1 S1_ ∧ r_.2.1.length ≤ 3 * r_.2.2 ∧ p_ < r_.2.2)
def vx_126 (b_ : Nat → Int) (n_ : Nat) (A_ : pA) (N_ : Nat → Nat) (M_ : Nat) (c_ : List Int) (p_ : Nat) (S0_ : sm_S) (S1_ : sm_S) : Prop := gi S1_ ∧ ai_fr (sx_W vw_126) S0_ S1_ ∧ (∃ e_, p_re b_ n_ A_ M_ c_ p_ = .inl e_ ∧ ter S1_ e_)
set_option maxHeartbeats 400000 in
theorem vc_126 {sc_ : Nat × (Nat → Int)} (b_ : Nat → Int) (n_ : Nat) (A_ : pA) (N_ : Nat → Nat) (M_ : Nat) (c_ : List Int) (p_ : Nat) (S0_ : sm_S) (hI_ : gi S0_) (hc_ : ct b_ n_ p_ S0_) (hd_ : dr b_ n_ A_ N_ M_ c_ S0_) (hl_ : c_.length ≤ 3 * p_) (hk0_ : lx_kd b_ n_ p_ ≠ 0) : sm_T (mt_P sc_) 3 126 (0, [some (.inr (.inr (some (7, 0)))), none, none, none], [], S0_) (fun r_ => (∃ u_ S1_, r_ = (.inl u_, S1_, 0) ∧ vq_126 b_ n_ A_ N_ M_ c_ p_ S0_ u_ S1_) ∨ ∃ S1_, r_ = (.inr 2, S1_, 1) ∧ vx_126 b_ n_ A_ N_ M_ c_ p_ S0_ S1_) := by
  have hF_ : ai_fr (sx_W vw_126) S0_ S0_ := ai_fr_rf
  have st0_ := hc_.2.2.2.2.2.1
  have kd0_ := hc_.2.2.2.2.2.2.2.1
  have hp0_ := hc_.2.2.2.1
  have hn1_ := hc_.2.2.1
  have hM1_ := hd_.1.2.1.1
  have hA1_ := (hd_.1.2.1.2 M_ (Nat.le_refl _)).1
  refine sm_T_go 2 (c1 := (4, [some (.inr (.inr (some (7, 0)))), none, none, none], [.inr (.inr (some (10, 0)))], S0_)) rfl ?_
  refine sm_T_calx (d1 := 1) (Q1 := vq_191 b_ n_ (lx_en b_ n_ p_) S0_) (Q2 := vx_191 b_ n_ (lx_en b_ n_ p_) S0_) rfl rfl (by decide) (vc_191 b_ n_ (lx_en b_ n_ p_) S0_ hI_ (by exact hc_.1) (by exact hc_.2.1) (by exact hc_.2.2.1) (by exact hc_.2.2.2.2.2.2.1) (by exact (lx_en_le (b := b_) hc_.2.2.2.1).2)) rfl (fun Sx1_ px4_ => ?_) (fun u_ Sx1_ px4_ => ?_)
  · obtain ⟨hIx2_, hFx3_, px4_⟩ := px4_
    refine Or.inr ⟨_, rfl, hIx2_, ai_fr_tr hF_ (fr_le hFx3_ rfl), ?_⟩
    refine ⟨(1, (lx_nx b_ n_ p_)), ?_, px4_.2⟩
    unfold p_re; rw [pb_l (p_ad_x px4_.1)]
  obtain ⟨rfl, hIx2_, hFx3_, px4_⟩ := px4_
  have hFx5_ : ai_fr (sx_W vw_126) S0_ Sx1_ := ai_fr_tr hF_ (fr_le hFx3_ rfl)
  have c1_ : ct b_ n_ (lx_nx b_ n_ p_) _ := px4_
  have a1_ := p_ad_c px4_
  have d1_ := dr_fr hd_ hFx3_ rfl rfl rfl rfl rfl rfl rfl rfl rfl rfl
  have k1_ := p_ad_ok hc_.2.2.2.1 (by omega) a1_
  have st1_ := c1_.2.2.2.2.2.1
  have kd1_ := c1_.2.2.2.2.2.2.2.1
  have hp1_ := c1_.2.2.2.1
  have bx6_ : 0 ≤ Sx1_.1 7 0 3 ∧ Sx1_.1 7 0 3 ≤ 16 := hIx2_.1 7 0 3 rfl
  refine sm_T_go 4 (c1 := (14, [some (.inr (.inr (some (7, 0)))), none, none, none], [.inl 40, .inl (Sx1_.1 7 0 3), .inr (.inr (some (7, 0)))], Sx1_)) rfl ?_
  refine sm_T_calx (d1 := 2) (Q1 := vq_120 (Sx1_.1 7 0 3) 40 b_ n_ (lx_nx b_ n_ p_) M_ (A_.1 M_) (fun s_ => A_.2.1 (40 * M_ + s_)) Sx1_) (Q2 := vx_120 (Sx1_.1 7 0 3) 40 b_ n_ (lx_nx b_ n_ p_) M_ (A_.1 M_) (fun s_ => A_.2.1 (40 * M_ + s_)) Sx1_) rfl rfl (by decide) (vc_120 (Sx1_.1 7 0 3) 40 b_ n_ (lx_nx b_ n_ p_) M_ (A_.1 M_) (fun s_ => A_.2.1 (40 * M_ + s_)) Sx1_ hIx2_ (by exact c1_) (by exact d1_.1.1) (by exact er_nmr d1_.1 (Nat.le_refl _))) rfl (fun Sx7_ px10_ => ?_) (fun u_ Sx7_ px10_ => ?_)
  · obtain ⟨hIx8_, hFx9_, px10_⟩ := px10_
    refine Or.inr ⟨_, rfl, hIx8_, ai_fr_tr hFx5_ (fr_le hFx9_ rfl), ?_⟩
    obtain ⟨e_, w1_, w2_⟩ := px10_
    refine ⟨e_, ?_, w2_⟩
    unfold p_re; rw [pb_r a1_, pb_l (show p_nw b_ n_ A_ M_ (lx_nx b_ n_ p_) = .inl e_ from w1_)]
  obtain ⟨vx12_, rfl, hIx8_, hFx9_, px10_⟩ := px10_
  have hFx11_ : ai_fr (sx_W vw_126) S0_ Sx7_ := ai_fr_tr hFx5_ (fr_le hFx9_ rfl)
  have ex13_ : Sx7_.1 7 0 3 = Sx1_.1 7 0 3 := hFx9_.1 7 0 3 rfl
  obtain ⟨nv_, nk_, r2_, a2_, c2_⟩ := px10_
  have a2_ : p_nw b_ n_ A_ M_ (lx_nx b_ n_ p_) = .inr r2_ := a2_
  have d2_ := dr_fr d1_ hFx9_ rfl rfl rfl rfl rfl rfl rfl rfl rfl rfl
  have nn_ := p_nn_ok a2_
  have nm_ : nmp b_ n_ (lx_nx b_ n_ p_) := ⟨c1_.2.2.2.1, nk_⟩
  have k2_ := p_ad_ok c1_.2.2.2.1 (by omega) nn_.2.2
  have nK_ : A_.1 M_ < 40 := by omega
  have st2_ := c2_.2.2.2.2.2.1
  have kd2_ := c2_.2.2.2.2.2.2.2.1
  have hp2_ := c2_.2.2.2.1
  refine sm_T_go 2 (c1 := (19, [some (.inr (.inr (some (7, 0)))), some (.inl vx12_), none, none], [.inr (.inr (some (7, 0)))], Sx7_)) rfl ?_
  refine sm_T_calx (d1 := 2) (Q1 := vq_123 b_ n_ r2_ Sx7_) (Q2 := vx_123 b_ n_ r2_ Sx7_) rfl rfl (by decide) (vc_123 b_ n_ r2_ Sx7_ hIx8_ (by exact c2_)) rfl (fun Sx14_ px17_ => ?_) (fun u_ Sx14_ px17_ => ?_)
  · obtain ⟨hIx15_, hFx16_, px17_⟩ := px17_
    refine Or.inr ⟨_, rfl, hIx15_, ai_fr_tr hFx11_ (fr_le hFx16_ rfl), ?_⟩
    obtain ⟨e_, w1_, w2_⟩ := px17_
    refine ⟨e_, ?_, w2_⟩
    unfold p_re; rw [pb_r a1_, pb_r a2_, pb_l w1_]
  obtain ⟨vx19_, rfl, hIx15_, hFx16_, px17_⟩ := px17_
  have hFx18_ : ai_fr (sx_W vw_126) S0_ Sx14_ := ai_fr_tr hFx11_ (fr_le hFx16_ rfl)
  obtain ⟨r3_, a3_, c3_⟩ := px17_
  have d3_ := dr_fr d2_ hFx16_ rfl rfl rfl rfl rfl rfl rfl rfl rfl rfl
  have k3_ := p_wi_ok c2_.2.2.2.1 c2_.2.2.2.2.1 a3_
  have k3a : r2_ ≤ r3_ := k3_.1
  have k3b : 1 ≤ vx19_ ∧ vx19_ ≤ 8 := k3_.2.2.2
  have st3_ := c3_.2.2.2.2.2.1
  have kd3_ := c3_.2.2.2.2.2.2.2.1
  have hp3_ := c3_.2.2.2.1
  have sh_ := i_shl1 (e := vx19_) (by omega) (by omega)
  have sp_ := pw_8 vx19_.toNat (by omega)
  have c9_ := c3_
  have d9_ := d3_
  obtain ⟨o9_, h9_, xs9_⟩ := xs_ex hIx15_ d3_.2.2.1 d3_.2.2.2.1 d3_.2.2.2.2
  have m9_ : Sx14_.2.2.1 77 0 (Sx14_.1 7 0 3).toNat = (A_.1 M_ : Int) := by rw [d3_.1.1, Int.toNat_natCast]; exact (d3_.1.2.2 M_ (Nat.le_refl _)).1
  have b9_ : lx_kd b_ n_ r3_ ≠ 61 → p_rb b_ n_ vx19_ r3_ = .inr (r3_, 0) := fun z_ => by unfold p_rb; rw [if_neg z_]
  have z9_ : r3_ ≤ r3_ := Nat.le_refl _
  have bx20_ : (-128) ≤ Sx14_.1 10 0 2 ∧ Sx14_.1 10 0 2 ≤ 257 := hIx15_.1 10 0 2 rfl
  refine sm_T_go 7 (c1 := (34, [some (.inr (.inr (some (7, 0)))), some (.inl vx12_), some (.inl vx19_), some (.inl 0)], [.inl 61, .inl (Sx14_.1 10 0 2)], Sx14_)) rfl ?_
  refine sm_T_br (a := 1) (z := 28) rfl (fun cx21_ => ?_) (fun cx21_ => ?_)
  · have cx21_ : (Sx14_.1 10 0 2) ≠ 61 := of_decide_eq_true cx21_
    have bx22_ : 0 ≤ Sx14_.1 7 0 3 ∧ Sx14_.1 7 0 3 ≤ 16 := hIx15_.1 7 0 3 rfl
    refine sm_T_go 6 (c1 := (73, [some (.inr (.inr (some (7, 0)))), some (.inl vx12_), some (.inl vx19_), some (.inl 0)], [.inl (Sx14_.1 7 0 3), .inr (.inr (some (77, 0))), .inl 13, .inr (.inr (some (7, 0)))], Sx14_)) rfl ?_
    refine sm_T_iald (n := 17) rfl rfl (by omega) (by omega) ?_
    have bx23_ : 0 ≤ Sx14_.2.2.1 77 0 (Sx14_.1 7 0 3).toNat ∧ Sx14_.2.2.1 77 0 (Sx14_.1 7 0 3).toNat ≤ 40 := hIx15_.2 77 0 _
    refine sm_T_go 1 (c1 := (75, [some (.inr (.inr (some (7, 0)))), some (.inl vx12_), some (.inl vx19_), some (.inl 0)], [.inl 0, .inl (Sx14_.2.2.1 77 0 (Sx14_.1 7 0 3).toNat), .inl 13, .inr (.inr (some (7, 0)))], Sx14_)) rfl ?_
    refine sm_T_cal (d1 := 0) (Q1 := vq_140 13 (Sx14_.2.2.1 77 0 (Sx14_.1 7 0 3).toNat) 0 o9_ h9_ c_ Sx14_) rfl rfl (by decide) (vc_140 13 (Sx14_.2.2.1 77 0 (Sx14_.1 7 0 3).toNat) 0 o9_ h9_ c_ Sx14_ hIx15_ (by exact xs9_) (by decide) (by omega) (by first | decide | omega) (by omega)) (fun u_ Sx24_ px27_ => ?_)
    obtain ⟨rfl, hIx25_, hFx26_, px27_⟩ := px27_
    have hFx28_ : ai_fr (sx_W vw_126) S0_ Sx24_ := ai_fr_tr hFx18_ (fr_le hFx26_ rfl)
    have ex29_ : Sx24_.1 7 0 3 = Sx14_.1 7 0 3 := hFx26_.1 7 0 3 rfl
    have ex30_ : Sx24_.1 10 0 2 = Sx14_.1 10 0 2 := hFx26_.1 10 0 2 rfl
    have z6_ := px27_
    rw [m9_] at z6_
    have d6_ : dr b_ n_ A_ N_ M_ (cw 13 (A_.1 M_) 0 :: c_) Sx24_ := ⟨er_fr d9_.1 hFx26_ rfl rfl rfl rfl rfl rfl, nr_fr d9_.2.1 hFx26_ rfl, (hFx26_.2.1 7 0 11 rfl).trans d9_.2.2.1, z6_.2.2.2.2.2.2 rfl⟩
    have c6_ := ct_fr c9_ hFx26_ rfl rfl rfl rfl rfl rfl rfl
    have st6_ := c6_.2.2.2.2.2.1
    have kd6_ := c6_.2.2.2.2.2.2.2.1
    have hp6_ := c6_.2.2.2.1
    refine sm_T_go 3 (c1 := (84, [some (.inr (.inr (some (7, 0)))), some (.inl vx12_), some (.inl vx19_), some (.inl 0)], [.inl 59, .inr (.inr (some (10, 0)))], Sx24_)) rfl ?_
    refine sm_T_calx (d1 := 2) (Q1 := vq_188 59 b_ n_ _ Sx24_) (Q2 := vx_188 59 b_ n_ _ Sx24_) rfl rfl (by decide) (vc_188 59 b_ n_ _ Sx24_ hIx25_ (by exact c6_)) rfl (fun Sx31_ px34_ => ?_) (fun u_ Sx31_ px34_ => ?_)
    · obtain ⟨hIx32_, hFx33_, px34_⟩ := px34_
      refine Or.inr ⟨_, rfl, hIx32_, ai_fr_tr hFx28_ (fr_le hFx33_ rfl), ?_⟩
      obtain ⟨e_, w1_, w2_⟩ := px34_
      refine ⟨e_, ?_, w2_⟩
      unfold p_re; rw [pb_r a1_, pb_r a2_, pb_r a3_]; first | rw [pb_r (b9_ (by omega)), pb_l w1_] | rw [pb_r (show p_rb b_ n_ _ r3_ = .inr _ by unfold p_rb; rw [if_pos (by omega), pb_r a4_, pb_r a5_, pb_r a9_]), pb_l w1_]
    obtain ⟨rfl, hIx32_, hFx33_, px34_⟩ := px34_
    have hFx35_ : ai_fr (sx_W vw_126) S0_ Sx31_ := ai_fr_tr hFx28_ (fr_le hFx33_ rfl)
    obtain ⟨r7_, a7_, c7_⟩ := px34_
    have k7_ := p_nd_ok (by decide) c6_.2.2.2.1 a7_
    have d7_ := dr_fr d6_ hFx33_ rfl rfl rfl rfl rfl rfl rfl rfl rfl rfl
    have st7_ := c7_.2.2.2.2.2.1
    have kd7_ := c7_.2.2.2.2.2.2.2.1
    have hp7_ := c7_.2.2.2.1
    refine sm_T_go 5 (c1 := (92, [some (.inr (.inr (some (7, 0)))), some (.inl vx12_), some (.inl vx19_), some (.inl 0)], [.inl 0, .inl vx19_, .inl 3, .inl vx12_, .inr (.inr (some (7, 0)))], Sx31_)) rfl ?_
    refine sm_T_cal (d1 := 0) (Q1 := vq_121 vx12_ 3 vx19_ 0 b_ n_ A_ N_ M_ (cw 13 (A_.1 M_) 0 :: c_) (lx_nx b_ n_ p_) Sx31_) rfl rfl (by decide) (vc_121 vx12_ 3 vx19_ 0 b_ n_ A_ N_ M_ (cw 13 (A_.1 M_) 0 :: c_) (lx_nx b_ n_ p_) Sx31_ hIx32_ (by exact d7_) (by exact nv_) (by exact nm_) (by exact hn1_) (by exact nK_) (by omega) (by omega) (by intro _; omega) (by intro z_; omega) (by omega)) (fun u_ Sx36_ px39_ => ?_)
    obtain ⟨rfl, hIx37_, hFx38_, px39_⟩ := px39_
    have hFx40_ : ai_fr (sx_W vw_126) S0_ Sx36_ := ai_fr_tr hFx35_ (fr_le hFx38_ rfl)
    have dt_ := px39_
    have FT_ := hFx38_
    refine sm_T_rv rfl (Or.inl ⟨_, _, rfl, rfl, hIx37_, hFx40_, ?_⟩)
    first | (refine ⟨(_, _, r7_), by unfold p_re; rw [pb_r a1_, pb_r a2_, pb_r a3_]; rw [pb_r (b9_ (by omega)), pb_r a7_]; try rfl, ct_fr c7_ FT_ rfl rfl rfl rfl rfl rfl rfl, dt_, by show c_.length + 1 ≤ 3 * r7_; omega, by show p_ < r7_; omega⟩) | (refine ⟨(_, _, r7_), by unfold p_re; rw [pb_r a1_, pb_r a2_, pb_r a3_]; rw [pb_r (show p_rb b_ n_ _ r3_ = .inr _ by unfold p_rb; rw [if_pos (by omega), pb_r a4_, pb_r a5_, pb_r a9_]), pb_r a7_]; try rfl, ct_fr c7_ FT_ rfl rfl rfl rfl rfl rfl rfl, dt_, by show c_.length + 1 ≤ 3 * r7_; omega, by show p_ < r7_; omega⟩)
  · have cx21_ : ¬ ((Sx14_.1 10 0 2) ≠ 61) := of_decide_eq_false cx21_
    refine sm_T_go 2 (c1 := (41, [some (.inr (.inr (some (7, 0)))), some (.inl vx12_), some (.inl vx19_), some (.inl 0)], [.inr (.inr (some (10, 0)))], Sx14_)) rfl ?_
    refine sm_T_calx (d1 := 1) (Q1 := vq_191 b_ n_ (lx_en b_ n_ r3_) Sx14_) (Q2 := vx_191 b_ n_ (lx_en b_ n_ r3_) Sx14_) rfl rfl (by decide) (vc_191 b_ n_ (lx_en b_ n_ r3_) Sx14_ hIx15_ (by exact c3_.1) (by exact c3_.2.1) (by exact c3_.2.2.1) (by exact c3_.2.2.2.2.2.2.1) (by exact (lx_en_le (b := b_) c3_.2.2.2.1).2)) rfl (fun Sx41_ px44_ => ?_) (fun u_ Sx41_ px44_ => ?_)
    · obtain ⟨hIx42_, hFx43_, px44_⟩ := px44_
      refine Or.inr ⟨_, rfl, hIx42_, ai_fr_tr hFx18_ (fr_le hFx43_ rfl), ?_⟩
      refine ⟨(1, (lx_nx b_ n_ r3_)), ?_, px44_.2⟩
      unfold p_re; rw [pb_r a1_, pb_r a2_, pb_r a3_]; show pb (p_rb b_ n_ _ r3_) _ = _; unfold p_rb; rw [if_pos (by omega), pb_l (p_ad_x px44_.1)]; rfl
    obtain ⟨rfl, hIx42_, hFx43_, px44_⟩ := px44_
    have hFx45_ : ai_fr (sx_W vw_126) S0_ Sx41_ := ai_fr_tr hFx18_ (fr_le hFx43_ rfl)
    have c4_ : ct b_ n_ (lx_nx b_ n_ r3_) _ := px44_
    have a4_ := p_ad_c px44_
    have d4_ := dr_fr d3_ hFx43_ rfl rfl rfl rfl rfl rfl rfl rfl rfl rfl
    have k4_ := p_ad_ok c3_.2.2.2.1 (by omega) a4_
    have st4_ := c4_.2.2.2.2.2.1
    have kd4_ := c4_.2.2.2.2.2.2.2.1
    have hp4_ := c4_.2.2.2.1
    refine sm_T_go 4 (c1 := (48, [some (.inr (.inr (some (7, 0)))), some (.inl vx12_), some (.inl vx19_), some (.inl 0)], [.inl vx19_, .inl 1, .inl 0, .inr (.inr (some (7, 0)))], Sx41_)) rfl ?_
    refine sm_T_bin (w := (i_shl 1 vx19_)) rfl rfl ?_
    refine sm_T_go 1 (c1 := (50, [some (.inr (.inr (some (7, 0)))), some (.inl vx12_), some (.inl vx19_), some (.inl 0)], [.inl 1, .inl (i_shl 1 vx19_), .inl 0, .inr (.inr (some (7, 0)))], Sx41_)) rfl ?_
    refine sm_T_bin (w := (i_shl 1 vx19_) - 1) rfl (bi_sub (by omega) (by omega) (by omega)) ?_
    refine sm_T_calx (d1 := 1) (Q1 := vq_122 0 ((i_shl 1 vx19_) - 1) b_ n_ (lx_nx b_ n_ r3_) Sx41_) (Q2 := vx_122 0 ((i_shl 1 vx19_) - 1) b_ n_ (lx_nx b_ n_ r3_) Sx41_) rfl rfl (by decide) (vc_122 0 ((i_shl 1 vx19_) - 1) b_ n_ (lx_nx b_ n_ r3_) Sx41_ hIx42_ (by exact c4_)) rfl (fun Sx46_ px49_ => ?_) (fun u_ Sx46_ px49_ => ?_)
    · obtain ⟨hIx47_, hFx48_, px49_⟩ := px49_
      refine Or.inr ⟨_, rfl, hIx47_, ai_fr_tr hFx45_ (fr_le hFx48_ rfl), ?_⟩
      obtain ⟨e_, w1_, w2_⟩ := px49_
      refine ⟨e_, ?_, w2_⟩
      rw [sh_] at w1_
      unfold p_re; rw [pb_r a1_, pb_r a2_, pb_r a3_]; show pb (p_rb b_ n_ _ r3_) _ = _; unfold p_rb; rw [if_pos (by omega), pb_r a4_, pb_l w1_]; rfl
    obtain ⟨vx51_, rfl, hIx47_, hFx48_, px49_⟩ := px49_
    have hFx50_ : ai_fr (sx_W vw_126) S0_ Sx46_ := ai_fr_tr hFx45_ (fr_le hFx48_ rfl)
    have a5_ := px49_
    rw [sh_] at a5_
    have k5_ := p_nu_ok a5_
    have c5_ := ct_fr c4_ hFx48_ rfl rfl rfl rfl rfl rfl rfl
    have d5_ := dr_fr d4_ hFx48_ rfl rfl rfl rfl rfl rfl rfl rfl rfl rfl
    have v5_ : vx51_ = vx51_ := rfl
    refine sm_T_go 3 (c1 := (59, [some (.inr (.inr (some (7, 0)))), some (.inl vx12_), some (.inl vx19_), some (.inl vx51_)], [.inr (.inr (some (10, 0)))], Sx46_)) rfl ?_
    refine sm_T_calx (d1 := 1) (Q1 := vq_191 b_ n_ (lx_en b_ n_ (lx_nx b_ n_ r3_)) Sx46_) (Q2 := vx_191 b_ n_ (lx_en b_ n_ (lx_nx b_ n_ r3_)) Sx46_) rfl rfl (by decide) (vc_191 b_ n_ (lx_en b_ n_ (lx_nx b_ n_ r3_)) Sx46_ hIx47_ (by exact c5_.1) (by exact c5_.2.1) (by exact c5_.2.2.1) (by exact c5_.2.2.2.2.2.2.1) (by exact (lx_en_le (b := b_) c5_.2.2.2.1).2)) rfl (fun Sx52_ px55_ => ?_) (fun u_ Sx52_ px55_ => ?_)
    · obtain ⟨hIx53_, hFx54_, px55_⟩ := px55_
      refine Or.inr ⟨_, rfl, hIx53_, ai_fr_tr hFx50_ (fr_le hFx54_ rfl), ?_⟩
      refine ⟨(1, (lx_nx b_ n_ (lx_nx b_ n_ r3_))), ?_, px55_.2⟩
      unfold p_re; rw [pb_r a1_, pb_r a2_, pb_r a3_]; show pb (p_rb b_ n_ _ r3_) _ = _; unfold p_rb; rw [if_pos (by omega), pb_r a4_, pb_r a5_, pb_l (p_ad_x px55_.1)]; rfl
    obtain ⟨rfl, hIx53_, hFx54_, px55_⟩ := px55_
    have hFx56_ : ai_fr (sx_W vw_126) S0_ Sx52_ := ai_fr_tr hFx50_ (fr_le hFx54_ rfl)
    have c9_ : ct b_ n_ (lx_nx b_ n_ (lx_nx b_ n_ r3_)) _ := px55_
    have a9_ := p_ad_c px55_
    have d9_ := dr_fr d5_ hFx54_ rfl rfl rfl rfl rfl rfl rfl rfl rfl rfl
    have k9_ := p_ad_ok c5_.2.2.2.1 (by omega) a9_
    have z9_ : r3_ ≤ (lx_nx b_ n_ (lx_nx b_ n_ r3_)) := by omega
    obtain ⟨o9_, h9_, xs9_⟩ := xs_ex hIx53_ d9_.2.2.1 d9_.2.2.2.1 d9_.2.2.2.2
    have m9_ : Sx52_.2.2.1 77 0 (Sx52_.1 7 0 3).toNat = (A_.1 M_ : Int) := by rw [d9_.1.1, Int.toNat_natCast]; exact (d9_.1.2.2 M_ (Nat.le_refl _)).1
    have bx57_ : 0 ≤ Sx52_.1 7 0 3 ∧ Sx52_.1 7 0 3 ≤ 16 := hIx53_.1 7 0 3 rfl
    refine sm_T_go 6 (c1 := (73, [some (.inr (.inr (some (7, 0)))), some (.inl vx12_), some (.inl vx19_), some (.inl vx51_)], [.inl (Sx52_.1 7 0 3), .inr (.inr (some (77, 0))), .inl 13, .inr (.inr (some (7, 0)))], Sx52_)) rfl ?_
    refine sm_T_iald (n := 17) rfl rfl (by omega) (by omega) ?_
    have bx58_ : 0 ≤ Sx52_.2.2.1 77 0 (Sx52_.1 7 0 3).toNat ∧ Sx52_.2.2.1 77 0 (Sx52_.1 7 0 3).toNat ≤ 40 := hIx53_.2 77 0 _
    refine sm_T_go 1 (c1 := (75, [some (.inr (.inr (some (7, 0)))), some (.inl vx12_), some (.inl vx19_), some (.inl vx51_)], [.inl 0, .inl (Sx52_.2.2.1 77 0 (Sx52_.1 7 0 3).toNat), .inl 13, .inr (.inr (some (7, 0)))], Sx52_)) rfl ?_
    refine sm_T_cal (d1 := 0) (Q1 := vq_140 13 (Sx52_.2.2.1 77 0 (Sx52_.1 7 0 3).toNat) 0 o9_ h9_ c_ Sx52_) rfl rfl (by decide) (vc_140 13 (Sx52_.2.2.1 77 0 (Sx52_.1 7 0 3).toNat) 0 o9_ h9_ c_ Sx52_ hIx53_ (by exact xs9_) (by decide) (by omega) (by first | decide | omega) (by omega)) (fun u_ Sx59_ px62_ => ?_)
    obtain ⟨rfl, hIx60_, hFx61_, px62_⟩ := px62_
    have hFx63_ : ai_fr (sx_W vw_126) S0_ Sx59_ := ai_fr_tr hFx56_ (fr_le hFx61_ rfl)
    have ex64_ : Sx59_.1 7 0 3 = Sx52_.1 7 0 3 := hFx61_.1 7 0 3 rfl
    have z6_ := px62_
    rw [m9_] at z6_
    have d6_ : dr b_ n_ A_ N_ M_ (cw 13 (A_.1 M_) 0 :: c_) Sx59_ := ⟨er_fr d9_.1 hFx61_ rfl rfl rfl rfl rfl rfl, nr_fr d9_.2.1 hFx61_ rfl, (hFx61_.2.1 7 0 11 rfl).trans d9_.2.2.1, z6_.2.2.2.2.2.2 rfl⟩
    have c6_ := ct_fr c9_ hFx61_ rfl rfl rfl rfl rfl rfl rfl
    have st6_ := c6_.2.2.2.2.2.1
    have kd6_ := c6_.2.2.2.2.2.2.2.1
    have hp6_ := c6_.2.2.2.1
    refine sm_T_go 3 (c1 := (84, [some (.inr (.inr (some (7, 0)))), some (.inl vx12_), some (.inl vx19_), some (.inl vx51_)], [.inl 59, .inr (.inr (some (10, 0)))], Sx59_)) rfl ?_
    refine sm_T_calx (d1 := 2) (Q1 := vq_188 59 b_ n_ _ Sx59_) (Q2 := vx_188 59 b_ n_ _ Sx59_) rfl rfl (by decide) (vc_188 59 b_ n_ _ Sx59_ hIx60_ (by exact c6_)) rfl (fun Sx65_ px68_ => ?_) (fun u_ Sx65_ px68_ => ?_)
    · obtain ⟨hIx66_, hFx67_, px68_⟩ := px68_
      refine Or.inr ⟨_, rfl, hIx66_, ai_fr_tr hFx63_ (fr_le hFx67_ rfl), ?_⟩
      obtain ⟨e_, w1_, w2_⟩ := px68_
      refine ⟨e_, ?_, w2_⟩
      unfold p_re; rw [pb_r a1_, pb_r a2_, pb_r a3_]; first | rw [pb_r (b9_ (by omega)), pb_l w1_] | rw [pb_r (show p_rb b_ n_ _ r3_ = .inr _ by unfold p_rb; rw [if_pos (by omega), pb_r a4_, pb_r a5_, pb_r a9_]), pb_l w1_]
    obtain ⟨rfl, hIx66_, hFx67_, px68_⟩ := px68_
    have hFx69_ : ai_fr (sx_W vw_126) S0_ Sx65_ := ai_fr_tr hFx63_ (fr_le hFx67_ rfl)
    obtain ⟨r7_, a7_, c7_⟩ := px68_
    have k7_ := p_nd_ok (by decide) c6_.2.2.2.1 a7_
    have d7_ := dr_fr d6_ hFx67_ rfl rfl rfl rfl rfl rfl rfl rfl rfl rfl
    have st7_ := c7_.2.2.2.2.2.1
    have kd7_ := c7_.2.2.2.2.2.2.2.1
    have hp7_ := c7_.2.2.2.1
    refine sm_T_go 5 (c1 := (92, [some (.inr (.inr (some (7, 0)))), some (.inl vx12_), some (.inl vx19_), some (.inl vx51_)], [.inl vx51_, .inl vx19_, .inl 3, .inl vx12_, .inr (.inr (some (7, 0)))], Sx65_)) rfl ?_
    refine sm_T_cal (d1 := 0) (Q1 := vq_121 vx12_ 3 vx19_ vx51_ b_ n_ A_ N_ M_ (cw 13 (A_.1 M_) 0 :: c_) (lx_nx b_ n_ p_) Sx65_) rfl rfl (by decide) (vc_121 vx12_ 3 vx19_ vx51_ b_ n_ A_ N_ M_ (cw 13 (A_.1 M_) 0 :: c_) (lx_nx b_ n_ p_) Sx65_ hIx66_ (by exact d7_) (by exact nv_) (by exact nm_) (by exact hn1_) (by exact nK_) (by omega) (by omega) (by intro _; omega) (by intro z_; omega) (by omega)) (fun u_ Sx70_ px73_ => ?_)
    obtain ⟨rfl, hIx71_, hFx72_, px73_⟩ := px73_
    have hFx74_ : ai_fr (sx_W vw_126) S0_ Sx70_ := ai_fr_tr hFx69_ (fr_le hFx72_ rfl)
    have dt_ := px73_
    have FT_ := hFx72_
    refine sm_T_rv rfl (Or.inl ⟨_, _, rfl, rfl, hIx71_, hFx74_, ?_⟩)
    first | (refine ⟨(_, _, r7_), by unfold p_re; rw [pb_r a1_, pb_r a2_, pb_r a3_]; rw [pb_r (b9_ (by omega)), pb_r a7_]; try rfl, ct_fr c7_ FT_ rfl rfl rfl rfl rfl rfl rfl, dt_, by show c_.length + 1 ≤ 3 * r7_; omega, by show p_ < r7_; omega⟩) | (refine ⟨(_, _, r7_), by unfold p_re; rw [pb_r a1_, pb_r a2_, pb_r a3_]; rw [pb_r (show p_rb b_ n_ _ r3_ = .inr _ by unfold p_rb; rw [if_pos (by omega), pb_r a4_, pb_r a5_, pb_r a9_]), pb_r a7_]; try rfl, ct_fr c7_ FT_ rfl rfl rfl rfl rfl rfl rfl, dt_, by show c_.length + 1 ≤ 3 * r7_; omega, by show p_ < r7_; omega⟩)
end
/-! 99.xba -/
section
/-! the class reader: next values; written by wip/p55/gen/vg -/

/-! more lemmas -/
theorem dr_dr {b_ : Nat → Int} {n_ M_ k_ i_ : Nat} {A_ : pA} {N_ : Nat → Nat} {c_ : List Int} {S_ : sm_S} (h_ : dr b_ n_ A_ N_ M_ c_ S_) (hk_ : A_.2.2.1 k_ = 3) (hi_ : i_ = k_) : dr b_ n_ (a_dr A_ k_) N_ M_ c_ (sm_aI S_ 79 0 i_ 4) := by
  have f_ : ai_fr (sx_W ([], [79], [])) S_ (sm_aI S_ 79 0 i_ 4) := ai_fr_aI rfl
  refine ⟨⟨h_.1.1, a_dr_ok h_.1.2.1 hk_, fun m_ hm_ => ?_⟩, nr_fr h_.2.1 f_ rfl, cr_fr h_.2.2 f_ rfl rfl rfl⟩
  have y_ := h_.1.2.2 m_ hm_
  unfold er1 at y_ ⊢
  rw [fr_arr (t := 77) f_ rfl, fr_arr (t := 78) f_ rfl, fr_arr (t := 80) f_ rfl, fr_arr (t := 81) f_ rfl]
  refine ⟨y_.1, fun s_ hs_ => ?_⟩
  have z_ := y_.2 s_ hs_
  refine ⟨z_.1, ?_, z_.2.2.1, z_.2.2.2⟩
  rw [rd_eq]
  show (if 40 * m_ + s_ = i_ then (4 : Int) else _) = if 40 * m_ + s_ = k_ then 4 else A_.2.2.1 (40 * m_ + s_)
  rw [hi_]
  split
  · rfl
  · exact z_.2.1
theorem ct_aI {b_ : Nat → Int} {n_ p_ i_ : Nat} {z_ : Int} {S_ : sm_S} (h_ : ct b_ n_ p_ S_) : ct b_ n_ p_ (sm_aI S_ 79 0 i_ z_) := by
  have f_ : ai_fr (sx_W ([], [79], [])) S_ (sm_aI S_ 79 0 i_ z_) := ai_fr_aI rfl
  exact ct_fr h_ f_ rfl rfl rfl rfl rfl rfl rfl
theorem ar_s {b_ : Nat → Int} {n_ M_ m_ s_ pl_ f_ p_ : Nat} {A_ : pA} {i_ : Int} {c_ : List Int} : p_ar b_ n_ A_ M_ m_ s_ pl_ (f_ + 1) i_ c_ p_ = pb (p_xd b_ n_ A_ M_ c_ p_) fun x_ => if i_ ≠ -1 ∧ h_tp x_.2.1 ≠ A_.2.2.2.1 (40 * m_ + i_.toNat) then .inl (13, p_) else if lx_kd b_ n_ x_.1 = 44 then (if p_a2 A_ m_ i_ = -1 then .inl (14, pl_) else pb (p_ad b_ n_ x_.1) fun q_ => p_ar b_ n_ A_ M_ m_ s_ pl_ f_ (p_a2 A_ m_ i_) (p_a1 A_ m_ s_ i_ x_.2.2) q_) else p_ae b_ n_ pl_ (decide (i_ = -1 ∨ p_a2 A_ m_ i_ ≠ -1)) (p_a1 A_ m_ s_ i_ x_.2.2) x_.1 := rfl
theorem p_ni_b {A_ : pA} {m_ k_ : Nat} : p_ni A_ m_ k_ = -1 ∨ ∃ s_ : Nat, p_ni A_ m_ k_ = (s_ : Int) ∧ s_ < A_.1 m_ := by
  have h_ := p_fd_b (f_ := fun s_ => decide (k_ ≤ s_) && decide (A_.2.2.1 (40 * m_ + s_) = 0)) (A_.1 m_)
  have e_ : p_ni A_ m_ k_ = p_fd (fun s_ => decide (k_ ≤ s_) && decide (A_.2.2.1 (40 * m_ + s_) = 0)) (A_.1 m_) := rfl
  by_cases g_ : p_ni A_ m_ k_ = -1
  · exact Or.inl g_
  · exact Or.inr ⟨(p_ni A_ m_ k_).toNat, by omega, by omega⟩
/-! Reader.readNext -/
def vw_127 : sx_Wl := ([(7, 2), (7, 14), (7, 16), (7, 17), (10, 2), (10, 3), (10, 4), (10, 5), (10, 6), (10, 7), (10, 8)], [74, 79, 82, 83, 84], [])
def vq_127 (b_ : Nat → Int) (n_ : Nat) (A_ : pA) (N_ : Nat → Nat) (M_ : Nat) (c_ : List Int) (p_ : Nat) (S0_ : sm_S) (u_ : Option sm_V) (S1_ : sm_S) : Prop := u_ = none ∧ gi S1_ ∧ ai_fr (sx_W vw_127) S0_ S1_ ∧ (∃ r_, p_ne b_ n_ A_ M_ c_ p_ = .inr r_ ∧ ct b_ n_ r_.2.2 S1_ ∧ dr b_ n_ r_.1 N_ M_ r_.2.1 S1_ ∧ r_.2.1.length ≤ 3 * r_.2.2 ∧ p_ < r_.2.2)
def vx_127 (b_ : Nat → Int) (n_ : Nat) (A_ : pA) (N_ : Nat → Nat) (M_ : Nat) (c_ : List Int) (p_ : Nat) (S0_ : sm_S) (S1_ : sm_S) : Prop := gi S1_ ∧ ai_fr (sx_W vw_127) S0_ S1_ ∧ (∃ e_, p_ne b_ n_ A_ M_ c_ p_ = .inl e_ ∧ ter S1_ e_)
set_option maxHeartbeats 400000 in
theorem vc_127 {sc_ : Nat × (Nat → Int)} (b_ : Nat → Int) (n_ : Nat) (A_ : pA) (N_ : Nat → Nat) (M_ : Nat) (c_ : List Int) (p_ : Nat) (S0_ : sm_S) (hI_ : gi S0_) (hc_ : ct b_ n_ p_ S0_) (hd_ : dr b_ n_ A_ N_ M_ c_ S0_) (hl_ : c_.length ≤ 3 * p_) (hk0_ : lx_kd b_ n_ p_ ≠ 0) (hk_ : lx_kd b_ n_ p_ = 1) : sm_T (mt_P sc_) 5 127 (0, [some (.inr (.inr (some (7, 0)))), none, none, none], [], S0_) (fun r_ => (∃ u_ S1_, r_ = (.inl u_, S1_, 0) ∧ vq_127 b_ n_ A_ N_ M_ c_ p_ S0_ u_ S1_) ∨ ∃ S1_, r_ = (.inr 2, S1_, 1) ∧ vx_127 b_ n_ A_ N_ M_ c_ p_ S0_ S1_) := by
  have hF_ : ai_fr (sx_W vw_127) S0_ S0_ := ai_fr_rf
  have st0_ := hc_.2.2.2.2.2.1
  have kd0_ := hc_.2.2.2.2.2.2.2.1
  have hp0_ := hc_.2.2.2.1
  have hn1_ := hc_.2.2.1
  have hM1_ := hd_.1.2.1.1
  have hA1_ := (hd_.1.2.1.2 M_ (Nat.le_refl _)).1
  have bx1_ : 0 ≤ S0_.1 7 0 3 ∧ S0_.1 7 0 3 ≤ 16 := hI_.1 7 0 3 rfl
  refine sm_T_go 5 (c1 := (9, [some (.inr (.inr (some (7, 0)))), none, none, none], [.inr (.inr (some (10, 0))), .inl (S0_.1 7 0 3), .inr (.inr (some (7, 0)))], S0_)) rfl ?_
  refine sm_T_cal (d1 := 0) (Q1 := vq_189 b_ n_ p_ S0_) rfl rfl (by decide) (vc_189 b_ n_ p_ S0_ hI_ (by exact hc_) (by exact hk_)) (fun u_ Sx2_ px5_ => ?_)
  obtain ⟨rfl, vx7_, rfl, px5_⟩ := px5_
  have e9_ := px5_
  refine sm_T_cal (d1 := 1) (Q1 := vq_119 (S0_.1 7 0 3) vx7_ b_ n_ M_ (A_.1 M_) (fun s_ => A_.2.1 (40 * M_ + s_)) p_ S0_) rfl rfl (by decide) (vc_119 (S0_.1 7 0 3) vx7_ b_ n_ M_ (A_.1 M_) (fun s_ => A_.2.1 (40 * M_ + s_)) p_ S0_ hI_ (by exact hc_.1) (by exact hn1_) (by exact hd_.1.1) (by exact er_nmr hd_.1 (Nat.le_refl _)) (by exact e9_) (by exact ⟨hc_.2.2.2.1, hk_⟩)) (fun u_ Sx8_ px11_ => ?_)
  obtain ⟨rfl, vx13_, rfl, px11_⟩ := px11_
  have e20_ : vx13_ = p_fn b_ n_ A_ M_ p_ := px11_
  have hM_ := hd_.1.1
  have hfb_ := p_fd_b (f_ := fun s_ => nm_q b_ n_ (A_.2.1 (40 * M_ + s_)) p_) (A_.1 M_)
  have hf0_ : p_fn b_ n_ A_ M_ p_ = p_fd (fun s_ => nm_q b_ n_ (A_.2.1 (40 * M_ + s_)) p_) (A_.1 M_) := rfl
  have hix_ : ∀ s_ : Nat, vx13_ = (s_ : Int) → (40 * (S0_.1 7 0 3) + vx13_).toNat = 40 * M_ + s_ := by intro s_ z_; omega
  refine sm_T_go 4 (c1 := (22, [some (.inr (.inr (some (7, 0)))), some (.inl vx13_), none, none], [.inl 40, .inl (S0_.1 7 0 3)], S0_)) rfl ?_
  refine sm_T_bin (w := 40 * (S0_.1 7 0 3)) rfl (bi_mul (by omega) (by omega) (by omega)) ?_
  refine sm_T_go 1 (c1 := (24, [some (.inr (.inr (some (7, 0)))), some (.inl vx13_), none, none], [.inl vx13_, .inl (40 * (S0_.1 7 0 3))], S0_)) rfl ?_
  refine sm_T_bin (w := 40 * (S0_.1 7 0 3) + vx13_) rfl (bi_add (by omega) (by omega) (by omega)) ?_
  refine sm_T_go 3 (c1 := (28, [some (.inr (.inr (some (7, 0)))), some (.inl vx13_), some (.inl (40 * (S0_.1 7 0 3) + vx13_)), none], [.inl (-1), .inl vx13_], S0_)) rfl ?_
  refine sm_T_br (a := 0) (z := 13) rfl (fun cx14_ => ?_) (fun cx14_ => ?_)
  · have cx14_ : vx13_ = (-1) := of_decide_eq_true cx14_
    have bx15_ : 0 ≤ S0_.1 10 0 3 ∧ S0_.1 10 0 3 ≤ 1280 := hI_.1 10 0 3 rfl
    refine sm_T_go 6 (c1 := (54, [some (.inr (.inr (some (7, 0)))), some (.inl vx13_), some (.inl (40 * (S0_.1 7 0 3) + vx13_)), none], [.inl (S0_.1 10 0 3), .inl 11, .inr (.inr (some (10, 0)))], S0_)) rfl ?_
    refine sm_T_calx (d1 := 0) (Q1 := vq_187 11 (S0_.1 10 0 3) S0_) (Q2 := vx_187 11 (S0_.1 10 0 3) S0_) rfl rfl (by decide) (vc_187 11 (S0_.1 10 0 3) S0_ hI_ (by decide) (by omega)) rfl (fun Sx16_ px19_ => ?_) (fun u_ Sx16_ px19_ => ?_)
    · obtain ⟨hIx17_, hFx18_, px19_⟩ := px19_
      refine Or.inr ⟨_, rfl, hIx17_, ai_fr_tr hF_ (fr_le hFx18_ rfl), ?_⟩
      refine ⟨(11, p_), ?_, px19_.1, px19_.2.trans st0_⟩
      unfold p_ne; first | (rw [if_pos (Or.inl (by omega))]) | (rw [if_pos (Or.inr (by rw [q3_, ← t0_.1]; assumption))])
    · exact (px19_.2.2.2).elim
  · have cx14_ : ¬ (vx13_ = (-1)) := of_decide_eq_false cx14_
    obtain ⟨s9_, q1_, q2_, q3_, -⟩ := p_fn_b (b_ := b_) (n_ := n_) (A_ := A_) (m_ := M_) (p_ := p_) (by omega)
    have hiy_ := hix_ s9_ (e20_.trans q1_)
    have t0_ := er_at hd_.1 q2_ hiy_
    refine sm_T_go 3 (c1 := (36, [some (.inr (.inr (some (7, 0)))), some (.inl vx13_), some (.inl (40 * (S0_.1 7 0 3) + vx13_)), none], [.inl (40 * (S0_.1 7 0 3) + vx13_), .inr (.inr (some (79, 0)))], S0_)) rfl ?_
    refine sm_T_iald (n := 640) rfl rfl (by omega) (by omega) ?_
    have bx21_ : 0 ≤ S0_.2.2.1 79 0 (40 * (S0_.1 7 0 3) + vx13_).toNat ∧ S0_.2.2.1 79 0 (40 * (S0_.1 7 0 3) + vx13_).toNat ≤ 5 := hI_.2 79 0 _
    refine sm_T_go 1 (c1 := (38, [some (.inr (.inr (some (7, 0)))), some (.inl vx13_), some (.inl (40 * (S0_.1 7 0 3) + vx13_)), none], [.inl 3, .inl (S0_.2.2.1 79 0 (40 * (S0_.1 7 0 3) + vx13_).toNat)], S0_)) rfl ?_
    refine sm_T_br (a := 0) (z := 19) rfl (fun cx22_ => ?_) (fun cx22_ => ?_)
    · have cx22_ : (S0_.2.2.1 79 0 (40 * (S0_.1 7 0 3) + vx13_).toNat) = 3 := of_decide_eq_true cx22_
      have h3_ : A_.2.2.1 (40 * M_ + s9_) = 3 := by omega
      have hng_ : ¬ (p_fn b_ n_ A_ M_ p_ = -1 ∨ A_.2.2.1 (40 * M_ + (p_fn b_ n_ A_ M_ p_).toNat) ≠ 3) := by rintro (z_ | z_); omega; (rw [q3_] at z_; exact z_ h3_)
      refine sm_T_go 2 (c1 := (61, [some (.inr (.inr (some (7, 0)))), some (.inl vx13_), some (.inl (40 * (S0_.1 7 0 3) + vx13_)), none], [.inr (.inr (some (10, 0)))], S0_)) rfl ?_
      refine sm_T_calx (d1 := 1) (Q1 := vq_191 b_ n_ (lx_en b_ n_ p_) S0_) (Q2 := vx_191 b_ n_ (lx_en b_ n_ p_) S0_) rfl rfl (by decide) (vc_191 b_ n_ (lx_en b_ n_ p_) S0_ hI_ (by exact hc_.1) (by exact hc_.2.1) (by exact hc_.2.2.1) (by exact hc_.2.2.2.2.2.2.1) (by exact (lx_en_le (b := b_) hc_.2.2.2.1).2)) rfl (fun Sx23_ px26_ => ?_) (fun u_ Sx23_ px26_ => ?_)
      · obtain ⟨hIx24_, hFx25_, px26_⟩ := px26_
        refine Or.inr ⟨_, rfl, hIx24_, ai_fr_tr hF_ (fr_le hFx25_ rfl), ?_⟩
        refine ⟨(1, (lx_nx b_ n_ p_)), ?_, px26_.2⟩
        unfold p_ne; rw [if_neg hng_, pb_l (p_ad_x px26_.1)]
      obtain ⟨rfl, hIx24_, hFx25_, px26_⟩ := px26_
      have hFx27_ : ai_fr (sx_W vw_127) S0_ Sx23_ := ai_fr_tr hF_ (fr_le hFx25_ rfl)
      have ex28_ : Sx23_.1 7 0 3 = S0_.1 7 0 3 := hFx25_.1 7 0 3 rfl
      have c1_ : ct b_ n_ (lx_nx b_ n_ p_) _ := px26_
      have a1_ := p_ad_c px26_
      have d1_ := dr_fr hd_ hFx25_ rfl rfl rfl rfl rfl rfl rfl rfl rfl rfl
      have k1_ := p_ad_ok hc_.2.2.2.1 (by omega) a1_
      have st1_ := c1_.2.2.2.2.2.1
      have kd1_ := c1_.2.2.2.2.2.2.2.1
      have hp1_ := c1_.2.2.2.1
      have bx29_ : 0 ≤ Sx23_.1 10 0 3 ∧ Sx23_.1 10 0 3 ≤ 1280 := hIx24_.1 10 0 3 rfl
      refine sm_T_go 7 (c1 := (79, [some (.inr (.inr (some (7, 0)))), some (.inl vx13_), some (.inl (40 * (S0_.1 7 0 3) + vx13_)), some (.inl (Sx23_.1 10 0 3))], [.inl 256, .inr (.inr (some (10, 0)))], Sx23_)) rfl ?_
      refine sm_T_calx (d1 := 2) (Q1 := vq_188 256 b_ n_ (lx_nx b_ n_ p_) Sx23_) (Q2 := vx_188 256 b_ n_ (lx_nx b_ n_ p_) Sx23_) rfl rfl (by decide) (vc_188 256 b_ n_ (lx_nx b_ n_ p_) Sx23_ hIx24_ (by exact c1_)) rfl (fun Sx30_ px33_ => ?_) (fun u_ Sx30_ px33_ => ?_)
      · obtain ⟨hIx31_, hFx32_, px33_⟩ := px33_
        refine Or.inr ⟨_, rfl, hIx31_, ai_fr_tr hFx27_ (fr_le hFx32_ rfl), ?_⟩
        obtain ⟨e_, w1_, w2_⟩ := px33_
        refine ⟨e_, ?_, w2_⟩
        unfold p_ne; rw [if_neg hng_, pb_r a1_, pb_l w1_]
      obtain ⟨rfl, hIx31_, hFx32_, px33_⟩ := px33_
      have hFx34_ : ai_fr (sx_W vw_127) S0_ Sx30_ := ai_fr_tr hFx27_ (fr_le hFx32_ rfl)
      obtain ⟨r2_, a2_, c2_⟩ := px33_
      have k2_ := p_nd_ok (by decide) c1_.2.2.2.1 a2_
      have d2_ := dr_fr d1_ hFx32_ rfl rfl rfl rfl rfl rfl rfl rfl rfl rfl
      have st2_ := c2_.2.2.2.2.2.1
      have kd2_ := c2_.2.2.2.2.2.2.2.1
      have hp2_ := c2_.2.2.2.1
      refine sm_T_go 1 (c1 := (83, [some (.inr (.inr (some (7, 0)))), some (.inl vx13_), some (.inl (40 * (S0_.1 7 0 3) + vx13_)), some (.inl (Sx23_.1 10 0 3))], [.inr (.inr (some (7, 0)))], Sx30_)) rfl ?_
      refine sm_T_calx (d1 := 4) (Q1 := vq_134 b_ n_ false A_ M_ 0 (fun _ => 0) (p_xd b_ n_ A_ M_ c_ r2_) c_ r2_ Sx30_) (Q2 := vx_134 b_ n_ false A_ M_ 0 (fun _ => 0) (p_xd b_ n_ A_ M_ c_ r2_) c_ r2_ Sx30_) rfl rfl (by decide) (vc_134 b_ n_ false A_ M_ 0 (fun _ => 0) (p_xd b_ n_ A_ M_ c_ r2_) c_ r2_ Sx30_ hIx31_ (by exact c2_) (by exact ⟨fun _ => rfl, fun _ => d2_.2.2.1⟩) (by exact fun _ => d2_.2.2.2) (by omega) (by exact fun _ => d2_.1) (by exact fun z_ => absurd z_ (by decide)) (by exact p_ex_x hn1_ (pd_ok d2_.1.2.1) c2_.2.2.2.1 c2_.2.2.2.2.1 (by omega))) rfl (fun Sx35_ px38_ => ?_) (fun u_ Sx35_ px38_ => ?_)
      · obtain ⟨hIx36_, hFx37_, px38_⟩ := px38_
        refine Or.inr ⟨_, rfl, hIx36_, ai_fr_tr hFx34_ (fr_le hFx37_ rfl), ?_⟩
        obtain ⟨e_, w1_, w2_⟩ := px38_
        refine ⟨e_, ?_, w2_⟩
        unfold p_ne; rw [if_neg hng_, pb_r a1_, pb_r a2_, pb_l w1_]
      obtain ⟨vx40_, rfl, hIx36_, hFx37_, px38_⟩ := px38_
      have hFx39_ : ai_fr (sx_W vw_127) S0_ Sx35_ := ai_fr_tr hFx34_ (fr_le hFx37_ rfl)
      obtain ⟨x3_, w3_, a3_, g3_, v3_, vb3_, c3_, lt3_, cd3_, l3_⟩ := px38_
      have d3_ : dr b_ n_ A_ N_ M_ x3_.2.2 Sx35_ := ⟨er_fr d2_.1 hFx37_ rfl rfl rfl rfl rfl rfl, nr_fr d2_.2.1 hFx37_ rfl, (hFx37_.2.1 7 0 11 rfl).trans d2_.2.2.1, cd3_ rfl⟩
      have t3_ : h_tp x3_.2.1 = vx40_ := by rw [g3_, v3_]; rfl
      obtain ⟨o3_, g3x, xs3_⟩ := xs_ex hIx36_ d3_.2.2.1 d3_.2.2.2.1 d3_.2.2.2.2
      have m3_ : Sx35_.2.2.1 77 0 (Sx35_.1 7 0 3).toNat = (A_.1 M_ : Int) := by rw [d3_.1.1, Int.toNat_natCast]; exact (d3_.1.2.2 M_ (Nat.le_refl _)).1
      have st3_ := c3_.2.2.2.2.2.1
      have kd3_ := c3_.2.2.2.2.2.2.2.1
      have hp3_ := c3_.2.2.2.1
      have t3a := er_at d3_.1 q2_ hiy_
      refine sm_T_go 3 (c1 := (91, [some (.inr (.inr (some (7, 0)))), some (.inl vx13_), some (.inl (40 * (S0_.1 7 0 3) + vx13_)), some (.inl (Sx23_.1 10 0 3))], [.inl (40 * (S0_.1 7 0 3) + vx13_), .inr (.inr (some (80, 0))), .inl vx40_], Sx35_)) rfl ?_
      refine sm_T_iald (n := 640) rfl rfl (by omega) (by omega) ?_
      have bx41_ : 0 ≤ Sx35_.2.2.1 80 0 (40 * (S0_.1 7 0 3) + vx13_).toNat ∧ Sx35_.2.2.1 80 0 (40 * (S0_.1 7 0 3) + vx13_).toNat ≤ 8 := hIx36_.2 80 0 _
      refine sm_T_br (a := 0) (z := 13) rfl (fun cx42_ => ?_) (fun cx42_ => ?_)
      · have cx42_ : vx40_ = (Sx35_.2.2.1 80 0 (40 * (S0_.1 7 0 3) + vx13_).toNat) := of_decide_eq_true cx42_
        refine sm_T_go 4 (c1 := (110, [some (.inr (.inr (some (7, 0)))), some (.inl vx13_), some (.inl (40 * (S0_.1 7 0 3) + vx13_)), some (.inl (Sx23_.1 10 0 3))], [.inl 0, .inl vx13_, .inl 14, .inr (.inr (some (7, 0)))], Sx35_)) rfl ?_
        refine sm_T_cal (d1 := 0) (Q1 := vq_140 14 vx13_ 0 o3_ g3x x3_.2.2 Sx35_) rfl rfl (by decide) (vc_140 14 vx13_ 0 o3_ g3x x3_.2.2 Sx35_ hIx36_ (by exact xs3_) (by decide) (by omega) (by first | decide | omega) (by omega)) (fun u_ Sx43_ px46_ => ?_)
        obtain ⟨rfl, hIx44_, hFx45_, px46_⟩ := px46_
        have hFx47_ : ai_fr (sx_W vw_127) S0_ Sx43_ := ai_fr_tr hFx39_ (fr_le hFx45_ rfl)
        have z4_ := px46_
        rw [e20_] at z4_
        have d4_ : dr b_ n_ A_ N_ M_ (cw 14 (p_fn b_ n_ A_ M_ p_) 0 :: x3_.2.2) Sx43_ := ⟨er_fr d3_.1 hFx45_ rfl rfl rfl rfl rfl rfl, nr_fr d3_.2.1 hFx45_ rfl, (hFx45_.2.1 7 0 11 rfl).trans d3_.2.2.1, z4_.2.2.2.2.2.2 rfl⟩
        have c4_ := ct_fr c3_ hFx45_ rfl rfl rfl rfl rfl rfl rfl
        have st4_ := c4_.2.2.2.2.2.1
        have kd4_ := c4_.2.2.2.2.2.2.2.1
        have hp4_ := c4_.2.2.2.1
        refine sm_T_go 4 (c1 := (119, [some (.inr (.inr (some (7, 0)))), some (.inl vx13_), some (.inl (40 * (S0_.1 7 0 3) + vx13_)), some (.inl (Sx23_.1 10 0 3))], [.inl 4, .inl (40 * (S0_.1 7 0 3) + vx13_), .inr (.inr (some (79, 0)))], Sx43_)) rfl ?_
        refine sm_T_iast (n := 640) rfl rfl (by omega) (by omega) ?_
        have hIx48_ : gi (sm_aI Sx43_ 79 0 (40 * (S0_.1 7 0 3) + vx13_).toNat 4) := gi_aI hIx44_ (show 0 ≤ 4 ∧ 4 ≤ 5 from ⟨by omega, by omega⟩)
        have hFx49_ : ai_fr (sx_W vw_127) S0_ (sm_aI Sx43_ 79 0 (40 * (S0_.1 7 0 3) + vx13_).toNat 4) := ai_fr_tr hFx47_ (ai_fr_aI rfl)
        refine sm_T_go 3 (c1 := (126, [some (.inr (.inr (some (7, 0)))), some (.inl vx13_), some (.inl (40 * (S0_.1 7 0 3) + vx13_)), some (.inl (Sx23_.1 10 0 3))], [.inl 59, .inr (.inr (some (10, 0)))], sm_aI Sx43_ 79 0 (40 * (S0_.1 7 0 3) + vx13_).toNat 4)) rfl ?_
        refine sm_T_calx (d1 := 2) (Q1 := vq_188 59 b_ n_ x3_.1 (sm_aI Sx43_ 79 0 (40 * (S0_.1 7 0 3) + vx13_).toNat 4)) (Q2 := vx_188 59 b_ n_ x3_.1 (sm_aI Sx43_ 79 0 (40 * (S0_.1 7 0 3) + vx13_).toNat 4)) rfl rfl (by decide) (vc_188 59 b_ n_ x3_.1 (sm_aI Sx43_ 79 0 (40 * (S0_.1 7 0 3) + vx13_).toNat 4) hIx48_ (by exact (ct_aI c4_))) rfl (fun Sx50_ px53_ => ?_) (fun u_ Sx50_ px53_ => ?_)
        · obtain ⟨hIx51_, hFx52_, px53_⟩ := px53_
          refine Or.inr ⟨_, rfl, hIx51_, ai_fr_tr hFx49_ (fr_le hFx52_ rfl), ?_⟩
          obtain ⟨e_, w1_, w2_⟩ := px53_
          refine ⟨e_, ?_, w2_⟩
          unfold p_ne; rw [if_neg hng_, pb_r a1_, pb_r a2_, pb_r a3_, if_pos (by rw [t3_, q3_, ← t3a.2.1]; assumption), pb_l w1_]
        obtain ⟨rfl, hIx51_, hFx52_, px53_⟩ := px53_
        have hFx54_ : ai_fr (sx_W vw_127) S0_ Sx50_ := ai_fr_tr hFx49_ (fr_le hFx52_ rfl)
        obtain ⟨r5_, a5_, c5_⟩ := px53_
        have k5_ := p_nd_ok (by decide) c4_.2.2.2.1 a5_
        have st5_ := c5_.2.2.2.2.2.1
        have kd5_ := c5_.2.2.2.2.2.2.2.1
        have hp5_ := c5_.2.2.2.1
        have d5_ := dr_fr (dr_dr d4_ h3_ hiy_) hFx52_ rfl rfl rfl rfl rfl rfl rfl rfl rfl rfl
        refine sm_T_rv rfl (Or.inl ⟨_, _, rfl, rfl, hIx51_, hFx54_, ?_⟩)
        rw [← q3_] at d5_
        exact ⟨_, by unfold p_ne; rw [if_neg hng_, pb_r a1_, pb_r a2_, pb_r a3_, if_pos (by rw [t3_, q3_, ← t3a.2.1]; assumption), pb_r a5_], c5_, d5_, by show x3_.2.2.length + 1 ≤ 3 * r5_; omega, by show p_ < r5_; omega⟩
      · have cx42_ : ¬ (vx40_ = (Sx35_.2.2.1 80 0 (40 * (S0_.1 7 0 3) + vx13_).toNat)) := of_decide_eq_false cx42_
        refine sm_T_go 4 (c1 := (102, [some (.inr (.inr (some (7, 0)))), some (.inl vx13_), some (.inl (40 * (S0_.1 7 0 3) + vx13_)), some (.inl (Sx23_.1 10 0 3))], [.inl (Sx23_.1 10 0 3), .inl 13, .inr (.inr (some (10, 0)))], Sx35_)) rfl ?_
        refine sm_T_calx (d1 := 0) (Q1 := vq_187 13 (Sx23_.1 10 0 3) Sx35_) (Q2 := vx_187 13 (Sx23_.1 10 0 3) Sx35_) rfl rfl (by decide) (vc_187 13 (Sx23_.1 10 0 3) Sx35_ hIx36_ (by decide) (by omega)) rfl (fun Sx55_ px58_ => ?_) (fun u_ Sx55_ px58_ => ?_)
        · obtain ⟨hIx56_, hFx57_, px58_⟩ := px58_
          refine Or.inr ⟨_, rfl, hIx56_, ai_fr_tr hFx39_ (fr_le hFx57_ rfl), ?_⟩
          refine ⟨(13, (lx_nx b_ n_ p_)), ?_, px58_.1, px58_.2.trans st1_⟩
          unfold p_ne; rw [if_neg hng_, pb_r a1_, pb_r a2_, pb_r a3_]; rw [if_neg (by rw [t3_, q3_, ← t3a.2.1]; assumption)]
        · exact (px58_.2.2.2).elim
    · have cx22_ : ¬ ((S0_.2.2.1 79 0 (40 * (S0_.1 7 0 3) + vx13_).toNat) = 3) := of_decide_eq_false cx22_
      have bx60_ : 0 ≤ S0_.1 10 0 3 ∧ S0_.1 10 0 3 ≤ 1280 := hI_.1 10 0 3 rfl
      refine sm_T_go 6 (c1 := (54, [some (.inr (.inr (some (7, 0)))), some (.inl vx13_), some (.inl (40 * (S0_.1 7 0 3) + vx13_)), none], [.inl (S0_.1 10 0 3), .inl 11, .inr (.inr (some (10, 0)))], S0_)) rfl ?_
      refine sm_T_calx (d1 := 0) (Q1 := vq_187 11 (S0_.1 10 0 3) S0_) (Q2 := vx_187 11 (S0_.1 10 0 3) S0_) rfl rfl (by decide) (vc_187 11 (S0_.1 10 0 3) S0_ hI_ (by decide) (by omega)) rfl (fun Sx61_ px64_ => ?_) (fun u_ Sx61_ px64_ => ?_)
      · obtain ⟨hIx62_, hFx63_, px64_⟩ := px64_
        refine Or.inr ⟨_, rfl, hIx62_, ai_fr_tr hF_ (fr_le hFx63_ rfl), ?_⟩
        refine ⟨(11, p_), ?_, px64_.1, px64_.2.trans st0_⟩
        unfold p_ne; first | (rw [if_pos (Or.inl (by omega))]) | (rw [if_pos (Or.inr (by rw [q3_, ← t0_.1]; assumption))])
      · exact (px64_.2.2.2).elim
end
/-! 99.xca -/
section
/-! the class reader: arguments; written by wip/p55/gen/vg -/

/-! inputs -/
theorem p_ni_c {A_ : pA} {m_ k_ : Nat} : p_ni A_ m_ k_ = -1 ∨ (0 ≤ p_ni A_ m_ k_ ∧ p_ni A_ m_ k_ < (A_.1 m_ : Int)) := by
  rcases p_ni_b (A_ := A_) (m_ := m_) (k_ := k_) with h_ | ⟨s_, h1_, h2_⟩
  · exact Or.inl h_
  · right; omega
end
/-! 99.xcb -/
section
/-! Reader.readArguments -/
def vw_129 : sx_Wl := ([(7, 2), (7, 14), (7, 16), (7, 17), (10, 2), (10, 3), (10, 4), (10, 5), (10, 6), (10, 7), (10, 8)], [74, 82, 83, 84], [])
def vq_129 (m_ : Int) (s_ : Int) (pl_ : Int) (b_ : Nat → Int) (n_ : Nat) (A_ : pA) (N_ : Nat → Nat) (M_ : Nat) (c_ : List Int) (p_ : Nat) (mm_ : Nat) (s0_ : Nat) (pl0_ : Nat) (S0_ : sm_S) (u_ : Option sm_V) (S1_ : sm_S) : Prop := u_ = none ∧ gi S1_ ∧ ai_fr (sx_W vw_129) S0_ S1_ ∧ (∃ r_, p_ua b_ n_ A_ M_ mm_ s0_ pl0_ c_ p_ = .inr r_ ∧ ct b_ n_ r_.2 S1_ ∧ dr b_ n_ A_ N_ M_ r_.1 S1_ ∧ r_.1.length ≤ 3 * r_.2 ∧ p_ < r_.2)
def vx_129 (m_ : Int) (s_ : Int) (pl_ : Int) (b_ : Nat → Int) (n_ : Nat) (A_ : pA) (N_ : Nat → Nat) (M_ : Nat) (c_ : List Int) (p_ : Nat) (mm_ : Nat) (s0_ : Nat) (pl0_ : Nat) (S0_ : sm_S) (S1_ : sm_S) : Prop := gi S1_ ∧ ai_fr (sx_W vw_129) S0_ S1_ ∧ (∃ e_, p_ua b_ n_ A_ M_ mm_ s0_ pl0_ c_ p_ = .inl e_ ∧ ter S1_ e_)
set_option maxHeartbeats 400000 in
set_option maxRecDepth 20000 in
theorem vl_129 {sc_ : Nat × (Nat → Int)} (m_ : Int) (s_ : Int) (pl_ : Int) (b_ : Nat → Int) (n_ : Nat) (A_ : pA) (N_ : Nat → Nat) (M_ : Nat) (c_ : List Int) (p_ : Nat) (mm_ : Nat) (s0_ : Nat) (pl0_ : Nat) (S0_ : sm_S) (hc_ : ct b_ n_ p_ S0_) (hd_ : dr b_ n_ A_ N_ M_ c_ S0_) (hl_ : c_.length ≤ 3 * p_) (hm9_ : m_ = (mm_ : Int)) (hmM_ : mm_ < M_) (hs9_ : s_ = (s0_ : Int)) (hs8_ : s0_ < 40) (hp9_ : pl_ = (pl0_ : Int)) (hp8_ : pl0_ ≤ 1280) : ∀ nn_ : Nat, (∀ (i_ : Int) (more : Int) (tm_ : Int) (g_ : Int) (S_ : sm_S), gi S_ → ai_fr (sx_W vw_129) S0_ S_ → ((0 ≤ g_ ∧ g_ ≤ (S_.1 10 0 3)) ∧ ((more = 1 ∧ tm_ = 0 ∧ ∃ f1_ c1_ q_, ct b_ n_ q_ S_ ∧ dr b_ n_ A_ N_ M_ c1_ S_ ∧ p_ ≤ q_ ∧ (i_ = -1 ∨ (0 ≤ i_ ∧ i_ < (A_.1 mm_ : Int))) ∧ c1_.length ≤ 3 * q_ ∧ n_ < q_ + f1_ ∧ p_ua b_ n_ A_ M_ mm_ s0_ pl0_ c_ p_ = p_ar b_ n_ A_ M_ mm_ s0_ pl0_ f1_ i_ c1_ q_) ∨ (more = 0 ∧ (tm_ = 0 ∨ tm_ = 1) ∧ ∃ c1_ q_ t1_, ct b_ n_ q_ S_ ∧ dr b_ n_ A_ N_ M_ c1_ S_ ∧ p_ ≤ q_ ∧ (i_ = -1 ∨ (0 ≤ i_ ∧ i_ < (A_.1 mm_ : Int))) ∧ c1_.length ≤ 3 * q_ + 1 ∧ p_ua b_ n_ A_ M_ mm_ s0_ pl0_ c_ p_ = p_ae b_ n_ pl0_ t1_ c1_ q_ ∧ (t1_ = true ↔ (tm_ = 1 ∨ i_ ≠ -1)))) ∧ True) → ((2 * (1300 - (S_.1 10 0 3)) + more).toNat) < nn_ → sm_T (mt_P sc_) 5 129 (33, [some (.inr (.inr (some (7, 0)))), some (.inl m_), some (.inl s_), some (.inl pl_), some (.inl i_), some (.inl more), some (.inl tm_), some (.inl g_), none, none], [], S_) (fun r_ => (∃ u_ S1_, r_ = (.inl u_, S1_, 0) ∧ vq_129 m_ s_ pl_ b_ n_ A_ N_ M_ c_ p_ mm_ s0_ pl0_ S0_ u_ S1_) ∨ ∃ S1_, r_ = (.inr 2, S1_, 1) ∧ vx_129 m_ s_ pl_ b_ n_ A_ N_ M_ c_ p_ mm_ s0_ pl0_ S0_ S1_)) := by
  intro nn_
  induction nn_ with
  | zero => exact fun _ _ _ _ _ _ _ _ h_ => absurd h_ (Nat.not_lt_zero _)
  | succ nn_ ih_ =>
    rintro i_ more tm_ g_ S_ hI_ hF_ ⟨h0_, h1_, -⟩ hm_
    have cst_ : 0 ≤ S_.1 10 0 3 ∧ S_.1 10 0 3 ≤ 1280 := hI_.1 10 0 3 rfl
    refine sm_T_go 1 (c1 := (35, [some (.inr (.inr (some (7, 0)))), some (.inl m_), some (.inl s_), some (.inl pl_), some (.inl i_), some (.inl more), some (.inl tm_), some (.inl g_), none, none], [.inl g_], S_)) rfl ?_
    refine sm_T_nt (u := some (.inl 65536)) (S1 := S_) rfl rfl rfl ?_
    refine sm_T_br (a := 3) (z := 136) rfl (fun cx1_ => ?_) (fun cx1_ => ?_)
    · have cx1_ : 65536 ≤ g_ := of_decide_eq_true cx1_
      exfalso; omega
    · have cx1_ : ¬ (65536 ≤ g_) := of_decide_eq_false cx1_
      refine sm_T_go 1 (c1 := (42, [some (.inr (.inr (some (7, 0)))), some (.inl m_), some (.inl s_), some (.inl pl_), some (.inl i_), some (.inl more), some (.inl tm_), some (.inl g_), none, none], [.inl more], S_)) rfl ?_
      refine sm_T_b0 (a := 0) (z := 131) rfl (fun cx2_ => ?_) (fun cx2_ => ?_)
      · have cx2_ : more = 0 := of_decide_eq_true cx2_
        obtain ⟨e1_, q_, t1_, c1_, d1_, y5_, y6_, y7_, z8_, z9_⟩ : ∃ e1_ q_ t1_, ct b_ n_ q_ S_ ∧ dr b_ n_ A_ N_ M_ e1_ S_ ∧ p_ ≤ q_ ∧ (i_ = -1 ∨ (0 ≤ i_ ∧ i_ < (A_.1 mm_ : Int))) ∧ e1_.length ≤ 3 * q_ + 1 ∧ p_ua b_ n_ A_ M_ mm_ s0_ pl0_ c_ p_ = p_ae b_ n_ pl0_ t1_ e1_ q_ ∧ (t1_ = true ↔ (tm_ = 1 ∨ i_ ≠ -1)) := by rcases h1_ with z_ | z_; (exact absurd z_.1 (by clear z_; omega)); (exact z_.2.2)
        have tm0_ : tm_ = 0 ∨ tm_ = 1 := by rcases h1_ with z_ | z_; (exact absurd z_.1 (by clear z_; omega)); (exact z_.2.1)
        clear h1_
        have st1_ := c1_.2.2.2.2.2.1
        have kd1_ := c1_.2.2.2.2.2.2.2.1
        have hp1_ := c1_.2.2.2.1
        have hn1_ := c1_.2.2.1
        have bx3_ : (-128) ≤ S_.1 10 0 2 ∧ S_.1 10 0 2 ≤ 257 := hI_.1 10 0 2 rfl
        refine sm_T_go 4 (c1 := (182, [some (.inr (.inr (some (7, 0)))), some (.inl m_), some (.inl s_), some (.inl pl_), some (.inl i_), some (.inl more), some (.inl tm_), some (.inl g_), none, none], [.inl 41, .inl (S_.1 10 0 2)], S_)) rfl ?_
        refine sm_T_br (a := 1) (z := 24) rfl (fun cx4_ => ?_) (fun cx4_ => ?_)
        · have cx4_ : (S_.1 10 0 2) ≠ 41 := of_decide_eq_true cx4_
          refine sm_T_go 3 (c1 := (212, [some (.inr (.inr (some (7, 0)))), some (.inl m_), some (.inl s_), some (.inl pl_), some (.inl i_), some (.inl more), some (.inl tm_), some (.inl g_), none, none], [.inl 41, .inr (.inr (some (10, 0)))], S_)) rfl ?_
          refine sm_T_calx (d1 := 2) (Q1 := vq_188 41 b_ n_ q_ S_) (Q2 := vx_188 41 b_ n_ q_ S_) rfl rfl (by decide) (vc_188 41 b_ n_ q_ S_ hI_ (by exact c1_)) rfl (fun Sx5_ px8_ => ?_) (fun u_ Sx5_ px8_ => ?_)
          · obtain ⟨hIx6_, hFx7_, px8_⟩ := px8_
            refine Or.inr ⟨_, rfl, hIx6_, ai_fr_tr hF_ (fr_le hFx7_ rfl), ?_⟩
            obtain ⟨e_, w1_, w2_⟩ := px8_
            refine ⟨e_, ?_, w2_⟩
            rw [z8_]; unfold p_ae; rw [if_neg (by rintro ⟨z1_, z2_⟩; have z3_ := z9_.mp z2_; omega), pb_l w1_]
          obtain ⟨rfl, hIx6_, hFx7_, px8_⟩ := px8_
          have hFx9_ : ai_fr (sx_W vw_129) S0_ Sx5_ := ai_fr_tr hF_ (fr_le hFx7_ rfl)
          obtain ⟨r2_, a2_, c2_⟩ := px8_
          have k2_ := p_nd_ok (by decide) c1_.2.2.2.1 a2_
          have d2_ := dr_fr d1_ hFx7_ rfl rfl rfl rfl rfl rfl rfl rfl rfl rfl
          refine sm_T_rv rfl (Or.inl ⟨_, _, rfl, rfl, hIx6_, hFx9_, ?_⟩)
          refine ⟨(e1_, r2_), ?_, c2_, d2_, by show e1_.length ≤ 3 * r2_; omega, by show p_ < r2_; omega⟩
          rw [z8_]; unfold p_ae; rw [if_neg (by rintro ⟨z1_, z2_⟩; have z3_ := z9_.mp z2_; omega), pb_r a2_]
        · have cx4_ : ¬ ((S_.1 10 0 2) ≠ 41) := of_decide_eq_false cx4_
          refine sm_T_go 1 (c1 := (187, [some (.inr (.inr (some (7, 0)))), some (.inl m_), some (.inl s_), some (.inl pl_), some (.inl i_), some (.inl more), some (.inl tm_), some (.inl g_), none, none], [.inl tm_], S_)) rfl ?_
          refine sm_T_b0 (a := 1) (z := 9) rfl (fun cx10_ => ?_) (fun cx10_ => ?_)
          · have cx10_ : tm_ ≠ 0 := of_decide_eq_true cx10_
            refine sm_T_go 4 (c1 := (203, [some (.inr (.inr (some (7, 0)))), some (.inl m_), some (.inl s_), some (.inl pl_), some (.inl i_), some (.inl more), some (.inl tm_), some (.inl g_), none, none], [.inl pl_, .inl 14, .inr (.inr (some (10, 0)))], S_)) rfl ?_
            refine sm_T_calx (d1 := 0) (Q1 := vq_187 14 pl_ S_) (Q2 := vx_187 14 pl_ S_) rfl rfl (by decide) (vc_187 14 pl_ S_ hI_ (by decide) (by omega)) rfl (fun Sx11_ px14_ => ?_) (fun u_ Sx11_ px14_ => ?_)
            · obtain ⟨hIx12_, hFx13_, px14_⟩ := px14_
              refine Or.inr ⟨_, rfl, hIx12_, ai_fr_tr hF_ (fr_le hFx13_ rfl), ?_⟩
              refine ⟨(14, pl0_), ?_, px14_.1, px14_.2.trans hp9_⟩
              rw [z8_]; unfold p_ae; rw [if_pos ⟨by omega, z9_.mpr (by first | (left; omega) | (right; omega))⟩]
            · exact (px14_.2.2.2).elim
          · have cx10_ : ¬ (tm_ ≠ 0) := of_decide_eq_false cx10_
            refine sm_T_go 2 (c1 := (193, [some (.inr (.inr (some (7, 0)))), some (.inl m_), some (.inl s_), some (.inl pl_), some (.inl i_), some (.inl more), some (.inl tm_), some (.inl g_), none, none], [.inl (-1), .inl i_], S_)) rfl ?_
            refine sm_T_br (a := 0) (z := 13) rfl (fun cx16_ => ?_) (fun cx16_ => ?_)
            · have cx16_ : i_ = (-1) := of_decide_eq_true cx16_
              refine sm_T_go 3 (c1 := (212, [some (.inr (.inr (some (7, 0)))), some (.inl m_), some (.inl s_), some (.inl pl_), some (.inl i_), some (.inl more), some (.inl tm_), some (.inl g_), none, none], [.inl 41, .inr (.inr (some (10, 0)))], S_)) rfl ?_
              refine sm_T_calx (d1 := 2) (Q1 := vq_188 41 b_ n_ q_ S_) (Q2 := vx_188 41 b_ n_ q_ S_) rfl rfl (by decide) (vc_188 41 b_ n_ q_ S_ hI_ (by exact c1_)) rfl (fun Sx17_ px20_ => ?_) (fun u_ Sx17_ px20_ => ?_)
              · obtain ⟨hIx18_, hFx19_, px20_⟩ := px20_
                refine Or.inr ⟨_, rfl, hIx18_, ai_fr_tr hF_ (fr_le hFx19_ rfl), ?_⟩
                obtain ⟨e_, w1_, w2_⟩ := px20_
                refine ⟨e_, ?_, w2_⟩
                rw [z8_]; unfold p_ae; rw [if_neg (by rintro ⟨z1_, z2_⟩; have z3_ := z9_.mp z2_; omega), pb_l w1_]
              obtain ⟨rfl, hIx18_, hFx19_, px20_⟩ := px20_
              have hFx21_ : ai_fr (sx_W vw_129) S0_ Sx17_ := ai_fr_tr hF_ (fr_le hFx19_ rfl)
              obtain ⟨r2_, a2_, c2_⟩ := px20_
              have k2_ := p_nd_ok (by decide) c1_.2.2.2.1 a2_
              have d2_ := dr_fr d1_ hFx19_ rfl rfl rfl rfl rfl rfl rfl rfl rfl rfl
              refine sm_T_rv rfl (Or.inl ⟨_, _, rfl, rfl, hIx18_, hFx21_, ?_⟩)
              refine ⟨(e1_, r2_), ?_, c2_, d2_, by show e1_.length ≤ 3 * r2_; omega, by show p_ < r2_; omega⟩
              rw [z8_]; unfold p_ae; rw [if_neg (by rintro ⟨z1_, z2_⟩; have z3_ := z9_.mp z2_; omega), pb_r a2_]
            · have cx16_ : ¬ (i_ = (-1)) := of_decide_eq_false cx16_
              refine sm_T_go 4 (c1 := (203, [some (.inr (.inr (some (7, 0)))), some (.inl m_), some (.inl s_), some (.inl pl_), some (.inl i_), some (.inl more), some (.inl tm_), some (.inl g_), none, none], [.inl pl_, .inl 14, .inr (.inr (some (10, 0)))], S_)) rfl ?_
              refine sm_T_calx (d1 := 0) (Q1 := vq_187 14 pl_ S_) (Q2 := vx_187 14 pl_ S_) rfl rfl (by decide) (vc_187 14 pl_ S_ hI_ (by decide) (by omega)) rfl (fun Sx22_ px25_ => ?_) (fun u_ Sx22_ px25_ => ?_)
              · obtain ⟨hIx23_, hFx24_, px25_⟩ := px25_
                refine Or.inr ⟨_, rfl, hIx23_, ai_fr_tr hF_ (fr_le hFx24_ rfl), ?_⟩
                refine ⟨(14, pl0_), ?_, px25_.1, px25_.2.trans hp9_⟩
                rw [z8_]; unfold p_ae; rw [if_pos ⟨by omega, z9_.mpr (by first | (left; omega) | (right; omega))⟩]
              · exact (px25_.2.2.2).elim
      · have cx2_ : ¬ (more = 0) := of_decide_eq_false cx2_
        obtain ⟨f1_, e1_, q_, c1_, d1_, y5_, y6_, y7_, y9_, y8_⟩ : ∃ f1_ e1_ q_, ct b_ n_ q_ S_ ∧ dr b_ n_ A_ N_ M_ e1_ S_ ∧ p_ ≤ q_ ∧ (i_ = -1 ∨ (0 ≤ i_ ∧ i_ < (A_.1 mm_ : Int))) ∧ e1_.length ≤ 3 * q_ ∧ n_ < q_ + f1_ ∧ p_ua b_ n_ A_ M_ mm_ s0_ pl0_ c_ p_ = p_ar b_ n_ A_ M_ mm_ s0_ pl0_ f1_ i_ e1_ q_ := by rcases h1_ with z_ | z_; (exact z_.2.2); (exact absurd z_.1 (by clear z_; omega))
        obtain ⟨f1_, rfl⟩ : ∃ f_, f1_ = f_ + 1 := ⟨f1_ - 1, by have := c1_.2.2.2.1; omega⟩
        have mo1_ : more = 1 := by rcases h1_ with z_ | z_; (exact z_.1); (exact absurd z_.1 (by clear z_; omega))
        have tm0_ : tm_ = 0 := by rcases h1_ with z_ | z_; (exact z_.2.1); (exact absurd z_.1 (by clear z_; omega))
        clear h1_
        have st1_ := c1_.2.2.2.2.2.1
        have kd1_ := c1_.2.2.2.2.2.2.2.1
        have hp1_ := c1_.2.2.2.1
        have hn1_ := c1_.2.2.1
        have hA9_ := (d1_.1.2.1.2 mm_ (by omega)).1
        have hM9_ := d1_.1.2.1.1
        have bx27_ : 0 ≤ S_.1 10 0 3 ∧ S_.1 10 0 3 ≤ 1280 := hI_.1 10 0 3 rfl
        refine sm_T_go 5 (c1 := (55, [some (.inr (.inr (some (7, 0)))), some (.inl m_), some (.inl s_), some (.inl pl_), some (.inl i_), some (.inl more), some (.inl tm_), some (.inl g_), some (.inl (S_.1 10 0 3)), none], [.inr (.inr (some (7, 0)))], S_)) rfl ?_
        refine sm_T_calx (d1 := 4) (Q1 := vq_134 b_ n_ false A_ M_ 0 (fun _ => 0) (p_xd b_ n_ A_ M_ e1_ q_) e1_ q_ S_) (Q2 := vx_134 b_ n_ false A_ M_ 0 (fun _ => 0) (p_xd b_ n_ A_ M_ e1_ q_) e1_ q_ S_) rfl rfl (by decide) (vc_134 b_ n_ false A_ M_ 0 (fun _ => 0) (p_xd b_ n_ A_ M_ e1_ q_) e1_ q_ S_ hI_ (by exact c1_) (by exact ⟨fun _ => rfl, fun _ => d1_.2.2.1⟩) (by exact fun _ => d1_.2.2.2) (by omega) (by exact fun _ => d1_.1) (by exact fun z_ => absurd z_ (by decide)) (by exact p_ex_x hn1_ (pd_ok d1_.1.2.1) c1_.2.2.2.1 c1_.2.2.2.2.1 (by omega))) rfl (fun Sx28_ px31_ => ?_) (fun u_ Sx28_ px31_ => ?_)
        · obtain ⟨hIx29_, hFx30_, px31_⟩ := px31_
          refine Or.inr ⟨_, rfl, hIx29_, ai_fr_tr hF_ (fr_le hFx30_ rfl), ?_⟩
          obtain ⟨e_, w1_, w2_⟩ := px31_
          refine ⟨e_, ?_, w2_⟩
          rw [y8_, ar_s, pb_l w1_]
        obtain ⟨vx33_, rfl, hIx29_, hFx30_, px31_⟩ := px31_
        have hFx32_ : ai_fr (sx_W vw_129) S0_ Sx28_ := ai_fr_tr hF_ (fr_le hFx30_ rfl)
        obtain ⟨x5_, w5_, a5_, g5_, v5_, vb5_, c5_, lt5_, cd5_, l5_⟩ := px31_
        have d5_ : dr b_ n_ A_ N_ M_ x5_.2.2 Sx28_ := ⟨er_fr d1_.1 hFx30_ rfl rfl rfl rfl rfl rfl, nr_fr d1_.2.1 hFx30_ rfl, (hFx30_.2.1 7 0 11 rfl).trans d1_.2.2.1, cd5_ rfl⟩
        have t5_ : h_tp x5_.2.1 = vx33_ := by rw [g5_, v5_]; rfl
        obtain ⟨o5_, h5_, xs5_⟩ := xs_ex hIx29_ d5_.2.2.1 d5_.2.2.2.1 d5_.2.2.2.2
        have m5_ : Sx28_.2.2.1 77 0 (Sx28_.1 7 0 3).toNat = (A_.1 M_ : Int) := by rw [d5_.1.1, Int.toNat_natCast]; exact (d5_.1.2.2 M_ (Nat.le_refl _)).1
        have st5_ := c5_.2.2.2.2.2.1
        have kd5_ := c5_.2.2.2.2.2.2.2.1
        have hp5_ := c5_.2.2.2.1
        have wd9_ : i_ ≠ -1 → _ = A_.2.2.2.1 (40 * mm_ + i_.toNat) := fun z_ => by have z2_ := ((d5_.1.2.2 mm_ (by omega)).2 i_.toNat (by omega)).2.2.1; rw [← z2_, show 40 * mm_ + i_.toNat = (40 * m_ + i_).toNat by omega]
        refine sm_T_go 3 (c1 := (63, [some (.inr (.inr (some (7, 0)))), some (.inl m_), some (.inl s_), some (.inl pl_), some (.inl i_), some (.inl more), some (.inl tm_), some (.inl g_), some (.inl (S_.1 10 0 3)), some (.inl vx33_)], [.inl (-1), .inl i_], Sx28_)) rfl ?_
        refine sm_T_br (a := 1) (z := 9) rfl (fun cx34_ => ?_) (fun cx34_ => ?_)
        · have cx34_ : i_ ≠ (-1) := of_decide_eq_true cx34_
          refine sm_T_go 5 (c1 := (81, [some (.inr (.inr (some (7, 0)))), some (.inl m_), some (.inl s_), some (.inl pl_), some (.inl i_), some (.inl more), some (.inl tm_), some (.inl g_), some (.inl (S_.1 10 0 3)), some (.inl vx33_)], [.inl 40, .inl m_, .inr (.inr (some (80, 0))), .inl vx33_], Sx28_)) rfl ?_
          refine sm_T_bin (w := 40 * m_) rfl (bi_mul (by omega) (by omega) (by omega)) ?_
          refine sm_T_go 1 (c1 := (84, [some (.inr (.inr (some (7, 0)))), some (.inl m_), some (.inl s_), some (.inl pl_), some (.inl i_), some (.inl more), some (.inl tm_), some (.inl g_), some (.inl (S_.1 10 0 3)), some (.inl vx33_)], [.inl i_, .inl (40 * m_), .inr (.inr (some (80, 0))), .inl vx33_], Sx28_)) rfl ?_
          refine sm_T_bin (w := 40 * m_ + i_) rfl (bi_add (by omega) (by omega) (by omega)) ?_
          refine sm_T_iald (n := 640) rfl rfl (by omega) (by omega) ?_
          have bx35_ : 0 ≤ Sx28_.2.2.1 80 0 (40 * m_ + i_).toNat ∧ Sx28_.2.2.1 80 0 (40 * m_ + i_).toNat ≤ 8 := hIx29_.2 80 0 _
          refine sm_T_br (a := 0) (z := 14) rfl (fun cx36_ => ?_) (fun cx36_ => ?_)
          · have cx36_ : vx33_ = (Sx28_.2.2.1 80 0 (40 * m_ + i_).toNat) := of_decide_eq_true cx36_
            refine sm_T_go 4 (c1 := (106, [some (.inr (.inr (some (7, 0)))), some (.inl m_), some (.inl s_), some (.inl pl_), some (.inl i_), some (.inl more), some (.inl tm_), some (.inl g_), some (.inl (S_.1 10 0 3)), some (.inl vx33_)], [.inl i_, .inl s_, .inl 16, .inr (.inr (some (7, 0)))], Sx28_)) rfl ?_
            refine sm_T_cal (d1 := 0) (Q1 := vq_140 16 s_ i_ o5_ h5_ x5_.2.2 Sx28_) rfl rfl (by decide) (vc_140 16 s_ i_ o5_ h5_ x5_.2.2 Sx28_ hIx29_ (by exact xs5_) (by decide) (by omega) (by omega) (by omega)) (fun u_ Sx37_ px40_ => ?_)
            obtain ⟨rfl, hIx38_, hFx39_, px40_⟩ := px40_
            have hFx41_ : ai_fr (sx_W vw_129) S0_ Sx37_ := ai_fr_tr hFx32_ (fr_le hFx39_ rfl)
            have z6_ := px40_
            rw [hs9_] at z6_
            have d6_ : dr b_ n_ A_ N_ M_ (cw 16 s0_ i_ :: x5_.2.2) Sx37_ := ⟨er_fr d5_.1 hFx39_ rfl rfl rfl rfl rfl rfl, nr_fr d5_.2.1 hFx39_ rfl, (hFx39_.2.1 7 0 11 rfl).trans d5_.2.2.1, z6_.2.2.2.2.2.2 rfl⟩
            have c6_ := ct_fr c5_ hFx39_ rfl rfl rfl rfl rfl rfl rfl
            have kd6_ := c6_.2.2.2.2.2.2.2.1
            have st6_ := c6_.2.2.2.2.2.1
            refine sm_T_go 4 (c1 := (114, [some (.inr (.inr (some (7, 0)))), some (.inl m_), some (.inl s_), some (.inl pl_), some (.inl i_), some (.inl more), some (.inl tm_), some (.inl g_), some (.inl (S_.1 10 0 3)), some (.inl vx33_)], [.inl 1, .inl i_, .inl m_, .inr (.inr (some (7, 0)))], Sx37_)) rfl ?_
            refine sm_T_bin (w := i_ + 1) rfl (bi_add (by omega) (by omega) (by omega)) ?_
            refine sm_T_cal (d1 := 0) (Q1 := vq_130 m_ (i_ + 1) b_ n_ A_ M_ mm_ (i_.toNat + 1) Sx37_) rfl rfl (by decide) (vc_130 m_ (i_ + 1) b_ n_ A_ M_ mm_ (i_.toNat + 1) Sx37_ hIx38_ (by exact d6_.1) (by exact ⟨hm9_, by omega⟩) (by push_cast; omega) (by omega)) (fun u_ Sx42_ px45_ => ?_)
            obtain ⟨rfl, vx47_, rfl, px45_⟩ := px45_
            have e115_ : vx47_ = p_ni A_ mm_ (i_.toNat + 1) := px45_
            have ni1_ := p_ni_c (A_ := A_) (m_ := mm_) (k_ := i_.toNat + 1)
            have pa2_ : p_a2 A_ mm_ i_ = vx47_ := by unfold p_a2; rw [if_neg (by omega), e115_]
            have pa1_ : p_a1 A_ mm_ s0_ i_ x5_.2.2 = cw 16 s0_ i_ :: x5_.2.2 := if_neg (by omega)
            have w9_ : ¬ (i_ ≠ -1 ∧ h_tp x5_.2.1 ≠ A_.2.2.2.1 (40 * mm_ + i_.toNat)) := by rintro ⟨z1_, z2_⟩; first | omega | (rw [t5_, ← wd9_ z1_] at z2_; exact z2_ (by assumption))
            have bx48_ : (-128) ≤ Sx37_.1 10 0 2 ∧ Sx37_.1 10 0 2 ≤ 257 := hIx38_.1 10 0 2 rfl
            refine sm_T_go 5 (c1 := (129, [some (.inr (.inr (some (7, 0)))), some (.inl m_), some (.inl s_), some (.inl pl_), some (.inl vx47_), some (.inl more), some (.inl tm_), some (.inl g_), some (.inl (S_.1 10 0 3)), some (.inl vx33_)], [.inl 44, .inl (Sx37_.1 10 0 2)], Sx37_)) rfl ?_
            refine sm_T_br (a := 1) (z := 7) rfl (fun cx49_ => ?_) (fun cx49_ => ?_)
            · have cx49_ : (Sx37_.1 10 0 2) ≠ 44 := of_decide_eq_true cx49_
              refine sm_T_go 4 (c1 := (167, [some (.inr (.inr (some (7, 0)))), some (.inl m_), some (.inl s_), some (.inl pl_), some (.inl vx47_), some (.inl 0), some (.inl tm_), some (.inl g_), some (.inl (S_.1 10 0 3)), some (.inl vx33_)], [], Sx37_)) rfl ?_
              refine sm_T_inc (a := 7) (z := 1) (v := g_) (w := g_ + 1) rfl rfl (by omega) (by omega) (by omega) ?_
              refine sm_T_go 1 (c1 := (33, [some (.inr (.inr (some (7, 0)))), some (.inl m_), some (.inl s_), some (.inl pl_), some (.inl vx47_), some (.inl 0), some (.inl tm_), some (.inl (g_ + 1)), some (.inl (S_.1 10 0 3)), some (.inl vx33_)], [], Sx37_)) rfl ?_
              refine sm_T_wk [some (.inr (.inr (some (7, 0)))), some (.inl m_), some (.inl s_), some (.inl pl_), some (.inl vx47_), some (.inl 0), some (.inl tm_), some (.inl (g_ + 1)), none, none] (by exact ⟨rfl, rfl, rfl, rfl, rfl, rfl, rfl, rfl, trivial⟩) ?_
              refine ih_ vx47_ 0 tm_ (g_ + 1) Sx37_ hIx38_ hFx41_ ⟨?_, ?_, trivial⟩ ?_
              · first | omega | (have := k7_.2.1; omega)
              · first | (left; refine ⟨rfl, tm0_, f1_, _, (lx_nx b_ n_ x5_.1), c7_, d7_, by omega, by rw [e115_]; exact ni1_, by show x5_.2.2.length + 1 ≤ 3 * (lx_nx b_ n_ x5_.1); omega, by omega, ?_⟩; rw [y8_, ar_s, pb_r a5_, if_neg w9_, if_pos (by omega), if_neg (by omega), pb_r a7_, pa2_, pa1_]) | (right; refine ⟨rfl, Or.inl tm0_, _, x5_.1, decide (i_ = -1 ∨ p_a2 A_ mm_ i_ ≠ -1), c6_, d6_, by omega, by rw [e115_]; exact ni1_, by show x5_.2.2.length + 1 ≤ 3 * x5_.1 + 1; omega, ?_, ?_⟩; (rw [y8_, ar_s, pb_r a5_, if_neg w9_, if_neg (by omega), pa1_]); (rw [decide_eq_true_iff, pa2_]; omega)) | (right; refine ⟨rfl, Or.inr rfl, x5_.2.2, x5_.1, true, c5_, d5_, by omega, Or.inl (by omega), by omega, ?_, by constructor; (intro _; left; rfl); (intro _; rfl)⟩; rw [y8_, ar_s, pb_r a5_, if_neg (by rintro ⟨z1_, z2_⟩; omega), if_neg (by omega), show p_a1 A_ mm_ s0_ i_ x5_.2.2 = x5_.2.2 from if_pos (by omega), show decide (i_ = -1 ∨ p_a2 A_ mm_ i_ ≠ -1) = true from decide_eq_true (Or.inl (by omega))])
              · first | omega | (have := k7_.2.1; omega)
            · have cx49_ : ¬ ((Sx37_.1 10 0 2) ≠ 44) := of_decide_eq_false cx49_
              refine sm_T_go 7 (c1 := (147, [some (.inr (.inr (some (7, 0)))), some (.inl m_), some (.inl s_), some (.inl pl_), some (.inl vx47_), some (.inl 1), some (.inl tm_), some (.inl g_), some (.inl (S_.1 10 0 3)), some (.inl vx33_)], [.inl (-1), .inl vx47_], Sx37_)) rfl ?_
              refine sm_T_br (a := 1) (z := 13) rfl (fun cx50_ => ?_) (fun cx50_ => ?_)
              · have cx50_ : vx47_ ≠ (-1) := of_decide_eq_true cx50_
                refine sm_T_go 2 (c1 := (164, [some (.inr (.inr (some (7, 0)))), some (.inl m_), some (.inl s_), some (.inl pl_), some (.inl vx47_), some (.inl 1), some (.inl tm_), some (.inl g_), some (.inl (S_.1 10 0 3)), some (.inl vx33_)], [.inr (.inr (some (10, 0)))], Sx37_)) rfl ?_
                refine sm_T_calx (d1 := 1) (Q1 := vq_191 b_ n_ (lx_en b_ n_ x5_.1) Sx37_) (Q2 := vx_191 b_ n_ (lx_en b_ n_ x5_.1) Sx37_) rfl rfl (by decide) (vc_191 b_ n_ (lx_en b_ n_ x5_.1) Sx37_ hIx38_ (by exact c6_.1) (by exact c6_.2.1) (by exact c6_.2.2.1) (by exact c6_.2.2.2.2.2.2.1) (by exact (lx_en_le (b := b_) c6_.2.2.2.1).2)) rfl (fun Sx51_ px54_ => ?_) (fun u_ Sx51_ px54_ => ?_)
                · obtain ⟨hIx52_, hFx53_, px54_⟩ := px54_
                  refine Or.inr ⟨_, rfl, hIx52_, ai_fr_tr hFx41_ (fr_le hFx53_ rfl), ?_⟩
                  refine ⟨(1, (lx_nx b_ n_ x5_.1)), ?_, px54_.2⟩
                  rw [y8_, ar_s, pb_r a5_, if_neg w9_, if_pos (by omega), if_neg (by omega), pb_l (p_ad_x px54_.1)]
                obtain ⟨rfl, hIx52_, hFx53_, px54_⟩ := px54_
                have hFx55_ : ai_fr (sx_W vw_129) S0_ Sx51_ := ai_fr_tr hFx41_ (fr_le hFx53_ rfl)
                have c7_ : ct b_ n_ (lx_nx b_ n_ x5_.1) _ := px54_
                have a7_ := p_ad_c px54_
                have d7_ := dr_fr d6_ hFx53_ rfl rfl rfl rfl rfl rfl rfl rfl rfl rfl
                have k7_ := p_ad_ok c6_.2.2.2.1 (by omega) a7_
                have st7_ := c7_.2.2.2.2.2.1
                have kd7_ := c7_.2.2.2.2.2.2.2.1
                have hp7_ := c7_.2.2.2.1
                refine sm_T_inc (a := 7) (z := 1) (v := g_) (w := g_ + 1) rfl rfl (by omega) (by omega) (by omega) ?_
                refine sm_T_go 1 (c1 := (33, [some (.inr (.inr (some (7, 0)))), some (.inl m_), some (.inl s_), some (.inl pl_), some (.inl vx47_), some (.inl 1), some (.inl tm_), some (.inl (g_ + 1)), some (.inl (S_.1 10 0 3)), some (.inl vx33_)], [], Sx51_)) rfl ?_
                refine sm_T_wk [some (.inr (.inr (some (7, 0)))), some (.inl m_), some (.inl s_), some (.inl pl_), some (.inl vx47_), some (.inl 1), some (.inl tm_), some (.inl (g_ + 1)), none, none] (by exact ⟨rfl, rfl, rfl, rfl, rfl, rfl, rfl, rfl, trivial⟩) ?_
                refine ih_ vx47_ 1 tm_ (g_ + 1) Sx51_ hIx52_ hFx55_ ⟨?_, ?_, trivial⟩ ?_
                · first | omega | (have := k7_.2.1; omega)
                · first | (left; refine ⟨rfl, tm0_, f1_, _, (lx_nx b_ n_ x5_.1), c7_, d7_, by omega, by rw [e115_]; exact ni1_, by show x5_.2.2.length + 1 ≤ 3 * (lx_nx b_ n_ x5_.1); omega, by omega, ?_⟩; rw [y8_, ar_s, pb_r a5_, if_neg w9_, if_pos (by omega), if_neg (by omega), pb_r a7_, pa2_, pa1_]) | (right; refine ⟨rfl, Or.inl tm0_, _, x5_.1, decide (i_ = -1 ∨ p_a2 A_ mm_ i_ ≠ -1), c6_, d6_, by omega, by rw [e115_]; exact ni1_, by show x5_.2.2.length + 1 ≤ 3 * x5_.1 + 1; omega, ?_, ?_⟩; (rw [y8_, ar_s, pb_r a5_, if_neg w9_, if_neg (by omega), pa1_]); (rw [decide_eq_true_iff, pa2_]; omega)) | (right; refine ⟨rfl, Or.inr rfl, x5_.2.2, x5_.1, true, c5_, d5_, by omega, Or.inl (by omega), by omega, ?_, by constructor; (intro _; left; rfl); (intro _; rfl)⟩; rw [y8_, ar_s, pb_r a5_, if_neg (by rintro ⟨z1_, z2_⟩; omega), if_neg (by omega), show p_a1 A_ mm_ s0_ i_ x5_.2.2 = x5_.2.2 from if_pos (by omega), show decide (i_ = -1 ∨ p_a2 A_ mm_ i_ ≠ -1) = true from decide_eq_true (Or.inl (by omega))])
                · first | omega | (have := k7_.2.1; omega)
              · have cx50_ : ¬ (vx47_ ≠ (-1)) := of_decide_eq_false cx50_
                refine sm_T_go 4 (c1 := (157, [some (.inr (.inr (some (7, 0)))), some (.inl m_), some (.inl s_), some (.inl pl_), some (.inl vx47_), some (.inl 1), some (.inl tm_), some (.inl g_), some (.inl (S_.1 10 0 3)), some (.inl vx33_)], [.inl pl_, .inl 14, .inr (.inr (some (10, 0)))], Sx37_)) rfl ?_
                refine sm_T_calx (d1 := 0) (Q1 := vq_187 14 pl_ Sx37_) (Q2 := vx_187 14 pl_ Sx37_) rfl rfl (by decide) (vc_187 14 pl_ Sx37_ hIx38_ (by decide) (by omega)) rfl (fun Sx56_ px59_ => ?_) (fun u_ Sx56_ px59_ => ?_)
                · obtain ⟨hIx57_, hFx58_, px59_⟩ := px59_
                  refine Or.inr ⟨_, rfl, hIx57_, ai_fr_tr hFx41_ (fr_le hFx58_ rfl), ?_⟩
                  refine ⟨(14, pl0_), ?_, px59_.1, px59_.2.trans hp9_⟩
                  first | (rw [y8_, ar_s, pb_r a5_, if_neg w9_, if_pos (by omega), if_pos (by omega)]) | (rw [y8_, ar_s, pb_r a5_, if_neg (by rintro ⟨z1_, z2_⟩; omega), if_pos (by omega), if_pos (by unfold p_a2; rw [if_pos (by omega)])])
                · exact (px59_.2.2.2).elim
          · have cx36_ : ¬ (vx33_ = (Sx28_.2.2.1 80 0 (40 * m_ + i_).toNat)) := of_decide_eq_false cx36_
            refine sm_T_go 4 (c1 := (97, [some (.inr (.inr (some (7, 0)))), some (.inl m_), some (.inl s_), some (.inl pl_), some (.inl i_), some (.inl more), some (.inl tm_), some (.inl g_), some (.inl (S_.1 10 0 3)), some (.inl vx33_)], [.inl (S_.1 10 0 3), .inl 13, .inr (.inr (some (10, 0)))], Sx28_)) rfl ?_
            refine sm_T_calx (d1 := 0) (Q1 := vq_187 13 (S_.1 10 0 3) Sx28_) (Q2 := vx_187 13 (S_.1 10 0 3) Sx28_) rfl rfl (by decide) (vc_187 13 (S_.1 10 0 3) Sx28_ hIx29_ (by decide) (by omega)) rfl (fun Sx61_ px64_ => ?_) (fun u_ Sx61_ px64_ => ?_)
            · obtain ⟨hIx62_, hFx63_, px64_⟩ := px64_
              refine Or.inr ⟨_, rfl, hIx62_, ai_fr_tr hFx32_ (fr_le hFx63_ rfl), ?_⟩
              refine ⟨(13, q_), ?_, px64_.1, px64_.2.trans st1_⟩
              rw [y8_, ar_s, pb_r a5_, if_pos ⟨by omega, by rw [t5_, ← wd9_ (by omega)]; assumption⟩]
            · exact (px64_.2.2.2).elim
        · have cx34_ : ¬ (i_ ≠ (-1)) := of_decide_eq_false cx34_
          have bx66_ : (-128) ≤ Sx28_.1 10 0 2 ∧ Sx28_.1 10 0 2 ≤ 257 := hIx29_.1 10 0 2 rfl
          refine sm_T_go 7 (c1 := (129, [some (.inr (.inr (some (7, 0)))), some (.inl m_), some (.inl s_), some (.inl pl_), some (.inl i_), some (.inl more), some (.inl 1), some (.inl g_), some (.inl (S_.1 10 0 3)), some (.inl vx33_)], [.inl 44, .inl (Sx28_.1 10 0 2)], Sx28_)) rfl ?_
          refine sm_T_br (a := 1) (z := 7) rfl (fun cx67_ => ?_) (fun cx67_ => ?_)
          · have cx67_ : (Sx28_.1 10 0 2) ≠ 44 := of_decide_eq_true cx67_
            refine sm_T_go 4 (c1 := (167, [some (.inr (.inr (some (7, 0)))), some (.inl m_), some (.inl s_), some (.inl pl_), some (.inl i_), some (.inl 0), some (.inl 1), some (.inl g_), some (.inl (S_.1 10 0 3)), some (.inl vx33_)], [], Sx28_)) rfl ?_
            refine sm_T_inc (a := 7) (z := 1) (v := g_) (w := g_ + 1) rfl rfl (by omega) (by omega) (by omega) ?_
            refine sm_T_go 1 (c1 := (33, [some (.inr (.inr (some (7, 0)))), some (.inl m_), some (.inl s_), some (.inl pl_), some (.inl i_), some (.inl 0), some (.inl 1), some (.inl (g_ + 1)), some (.inl (S_.1 10 0 3)), some (.inl vx33_)], [], Sx28_)) rfl ?_
            refine sm_T_wk [some (.inr (.inr (some (7, 0)))), some (.inl m_), some (.inl s_), some (.inl pl_), some (.inl i_), some (.inl 0), some (.inl 1), some (.inl (g_ + 1)), none, none] (by exact ⟨rfl, rfl, rfl, rfl, rfl, rfl, rfl, rfl, trivial⟩) ?_
            refine ih_ i_ 0 1 (g_ + 1) Sx28_ hIx29_ hFx32_ ⟨?_, ?_, trivial⟩ ?_
            · first | omega | (have := k7_.2.1; omega)
            · first | (left; refine ⟨rfl, tm0_, f1_, _, (lx_nx b_ n_ x5_.1), c7_, d7_, by omega, by rw [e115_]; exact ni1_, by show x5_.2.2.length + 1 ≤ 3 * (lx_nx b_ n_ x5_.1); omega, by omega, ?_⟩; rw [y8_, ar_s, pb_r a5_, if_neg w9_, if_pos (by omega), if_neg (by omega), pb_r a7_, pa2_, pa1_]) | (right; refine ⟨rfl, Or.inl tm0_, _, x5_.1, decide (i_ = -1 ∨ p_a2 A_ mm_ i_ ≠ -1), c6_, d6_, by omega, by rw [e115_]; exact ni1_, by show x5_.2.2.length + 1 ≤ 3 * x5_.1 + 1; omega, ?_, ?_⟩; (rw [y8_, ar_s, pb_r a5_, if_neg w9_, if_neg (by omega), pa1_]); (rw [decide_eq_true_iff, pa2_]; omega)) | (right; refine ⟨rfl, Or.inr rfl, x5_.2.2, x5_.1, true, c5_, d5_, by omega, Or.inl (by omega), by omega, ?_, by constructor; (intro _; left; rfl); (intro _; rfl)⟩; rw [y8_, ar_s, pb_r a5_, if_neg (by rintro ⟨z1_, z2_⟩; omega), if_neg (by omega), show p_a1 A_ mm_ s0_ i_ x5_.2.2 = x5_.2.2 from if_pos (by omega), show decide (i_ = -1 ∨ p_a2 A_ mm_ i_ ≠ -1) = true from decide_eq_true (Or.inl (by omega))])
            · first | omega | (have := k7_.2.1; omega)
          · have cx67_ : ¬ ((Sx28_.1 10 0 2) ≠ 44) := of_decide_eq_false cx67_
            refine sm_T_go 7 (c1 := (147, [some (.inr (.inr (some (7, 0)))), some (.inl m_), some (.inl s_), some (.inl pl_), some (.inl i_), some (.inl 1), some (.inl 1), some (.inl g_), some (.inl (S_.1 10 0 3)), some (.inl vx33_)], [.inl (-1), .inl i_], Sx28_)) rfl ?_
            refine sm_T_br (a := 1) (z := 13) rfl (fun cx68_ => ?_) (fun cx68_ => ?_)
            · have cx68_ : i_ ≠ (-1) := of_decide_eq_true cx68_
              exfalso; omega
            · have cx68_ : ¬ (i_ ≠ (-1)) := of_decide_eq_false cx68_
              refine sm_T_go 4 (c1 := (157, [some (.inr (.inr (some (7, 0)))), some (.inl m_), some (.inl s_), some (.inl pl_), some (.inl i_), some (.inl 1), some (.inl 1), some (.inl g_), some (.inl (S_.1 10 0 3)), some (.inl vx33_)], [.inl pl_, .inl 14, .inr (.inr (some (10, 0)))], Sx28_)) rfl ?_
              refine sm_T_calx (d1 := 0) (Q1 := vq_187 14 pl_ Sx28_) (Q2 := vx_187 14 pl_ Sx28_) rfl rfl (by decide) (vc_187 14 pl_ Sx28_ hIx29_ (by decide) (by omega)) rfl (fun Sx69_ px72_ => ?_) (fun u_ Sx69_ px72_ => ?_)
              · obtain ⟨hIx70_, hFx71_, px72_⟩ := px72_
                refine Or.inr ⟨_, rfl, hIx70_, ai_fr_tr hFx32_ (fr_le hFx71_ rfl), ?_⟩
                refine ⟨(14, pl0_), ?_, px72_.1, px72_.2.trans hp9_⟩
                first | (rw [y8_, ar_s, pb_r a5_, if_neg w9_, if_pos (by omega), if_pos (by omega)]) | (rw [y8_, ar_s, pb_r a5_, if_neg (by rintro ⟨z1_, z2_⟩; omega), if_pos (by omega), if_pos (by unfold p_a2; rw [if_pos (by omega)])])
              · exact (px72_.2.2.2).elim
set_option maxHeartbeats 400000 in
set_option maxRecDepth 20000 in
theorem vc_129 {sc_ : Nat × (Nat → Int)} (m_ : Int) (s_ : Int) (pl_ : Int) (b_ : Nat → Int) (n_ : Nat) (A_ : pA) (N_ : Nat → Nat) (M_ : Nat) (c_ : List Int) (p_ : Nat) (mm_ : Nat) (s0_ : Nat) (pl0_ : Nat) (S0_ : sm_S) (hI_ : gi S0_) (hc_ : ct b_ n_ p_ S0_) (hd_ : dr b_ n_ A_ N_ M_ c_ S0_) (hl_ : c_.length ≤ 3 * p_) (hm9_ : m_ = (mm_ : Int)) (hmM_ : mm_ < M_) (hs9_ : s_ = (s0_ : Int)) (hs8_ : s0_ < 40) (hp9_ : pl_ = (pl0_ : Int)) (hp8_ : pl0_ ≤ 1280) : sm_T (mt_P sc_) 5 129 (0, [some (.inr (.inr (some (7, 0)))), some (.inl m_), some (.inl s_), some (.inl pl_), none, none, none, none, none, none], [], S0_) (fun r_ => (∃ u_ S1_, r_ = (.inl u_, S1_, 0) ∧ vq_129 m_ s_ pl_ b_ n_ A_ N_ M_ c_ p_ mm_ s0_ pl0_ S0_ u_ S1_) ∨ ∃ S1_, r_ = (.inr 2, S1_, 1) ∧ vx_129 m_ s_ pl_ b_ n_ A_ N_ M_ c_ p_ mm_ s0_ pl0_ S0_ S1_) := by
  have hF_ : ai_fr (sx_W vw_129) S0_ S0_ := ai_fr_rf
  have st0_ := hc_.2.2.2.2.2.1
  have kd0_ := hc_.2.2.2.2.2.2.2.1
  have hp0_ := hc_.2.2.2.1
  have hn1_ := hc_.2.2.1
  have hM9_ := hd_.1.2.1.1
  have cst_ : 0 ≤ S0_.1 10 0 3 ∧ S0_.1 10 0 3 ≤ 1280 := hI_.1 10 0 3 rfl
  refine sm_T_go 3 (c1 := (3, [some (.inr (.inr (some (7, 0)))), some (.inl m_), some (.inl s_), some (.inl pl_), none, none, none, none, none, none], [.inl 0, .inl m_, .inr (.inr (some (7, 0)))], S0_)) rfl ?_
  refine sm_T_cal (d1 := 0) (Q1 := vq_130 m_ 0 b_ n_ A_ M_ mm_ 0 S0_) rfl rfl (by decide) (vc_130 m_ 0 b_ n_ A_ M_ mm_ 0 S0_ hI_ (by exact hd_.1) (by exact ⟨hm9_, by omega⟩) (by rfl) (by exact Nat.zero_le _)) (fun u_ Sx1_ px4_ => ?_)
  obtain ⟨rfl, vx6_, rfl, px4_⟩ := px4_
  have e3_ : vx6_ = p_ni A_ mm_ 0 := px4_
  have ni0_ := p_ni_c (A_ := A_) (m_ := mm_) (k_ := 0)
  have bx7_ : (-128) ≤ S0_.1 10 0 2 ∧ S0_.1 10 0 2 ≤ 257 := hI_.1 10 0 2 rfl
  refine sm_T_go 5 (c1 := (17, [some (.inr (.inr (some (7, 0)))), some (.inl m_), some (.inl s_), some (.inl pl_), some (.inl vx6_), none, none, none, none, none], [.inl 41, .inl (S0_.1 10 0 2)], S0_)) rfl ?_
  refine sm_T_br (a := 0) (z := 7) rfl (fun cx8_ => ?_) (fun cx8_ => ?_)
  · have cx8_ : (S0_.1 10 0 2) = 41 := of_decide_eq_true cx8_
    refine sm_T_go 6 (c1 := (33, [some (.inr (.inr (some (7, 0)))), some (.inl m_), some (.inl s_), some (.inl pl_), some (.inl vx6_), some (.inl 0), some (.inl 0), some (.inl 0), none, none], [], S0_)) rfl ?_
    refine (vl_129 m_ s_ pl_ b_ n_ A_ N_ M_ c_ p_ mm_ s0_ pl0_ S0_ hc_ hd_ hl_ hm9_ hmM_ hs9_ hs8_ hp9_ hp8_ _) vx6_ 0 0 0 S0_ hI_ hF_ ⟨?_, ?_, trivial⟩ (Nat.lt_succ_self _)
    · omega
    · first | (right; refine ⟨rfl, Or.inl rfl, c_, p_, decide (p_ni A_ mm_ 0 ≠ -1), hc_, hd_, Nat.le_refl _, by rw [e3_]; exact ni0_, by omega, ?_, ?_⟩; (unfold p_ua; rw [if_pos (by omega)]); (rw [decide_eq_true_iff, e3_]; omega)) | (left; refine ⟨rfl, rfl, n_ + 1, c_, p_, hc_, hd_, Nat.le_refl _, by rw [e3_]; exact ni0_, hl_, by omega, ?_⟩; unfold p_ua; rw [if_neg (by omega), e3_])
  · have cx8_ : ¬ ((S0_.1 10 0 2) = 41) := of_decide_eq_false cx8_
    refine sm_T_go 7 (c1 := (33, [some (.inr (.inr (some (7, 0)))), some (.inl m_), some (.inl s_), some (.inl pl_), some (.inl vx6_), some (.inl 1), some (.inl 0), some (.inl 0), none, none], [], S0_)) rfl ?_
    refine (vl_129 m_ s_ pl_ b_ n_ A_ N_ M_ c_ p_ mm_ s0_ pl0_ S0_ hc_ hd_ hl_ hm9_ hmM_ hs9_ hs8_ hp9_ hp8_ _) vx6_ 1 0 0 S0_ hI_ hF_ ⟨?_, ?_, trivial⟩ (Nat.lt_succ_self _)
    · omega
    · first | (right; refine ⟨rfl, Or.inl rfl, c_, p_, decide (p_ni A_ mm_ 0 ≠ -1), hc_, hd_, Nat.le_refl _, by rw [e3_]; exact ni0_, by omega, ?_, ?_⟩; (unfold p_ua; rw [if_pos (by omega)]); (rw [decide_eq_true_iff, e3_]; omega)) | (left; refine ⟨rfl, rfl, n_ + 1, c_, p_, hc_, hd_, Nat.le_refl _, by rw [e3_]; exact ni0_, hl_, by omega, ?_⟩; unfold p_ua; rw [if_neg (by omega), e3_])
end
/-! 99.xda -/
section
/-! the class reader: instances; written by wip/p55/gen/vg -/
/-! Reader.readUse -/
def vw_128 : sx_Wl := ([(7, 2), (7, 14), (7, 16), (7, 17), (10, 2), (10, 3), (10, 4), (10, 5), (10, 6), (10, 7), (10, 8)], [74, 77, 78, 79, 80, 81, 82, 83, 84], [])
def vq_128 (b_ : Nat → Int) (n_ : Nat) (A_ : pA) (N_ : Nat → Nat) (M_ : Nat) (c_ : List Int) (p_ : Nat) (S0_ : sm_S) (u_ : Option sm_V) (S1_ : sm_S) : Prop := u_ = none ∧ gi S1_ ∧ ai_fr (sx_W vw_128) S0_ S1_ ∧ (∃ r_, p_us b_ n_ A_ N_ M_ c_ p_ = .inr r_ ∧ ct b_ n_ r_.2.2 S1_ ∧ dr b_ n_ r_.1 N_ M_ r_.2.1 S1_ ∧ r_.2.1.length ≤ 3 * r_.2.2 ∧ p_ < r_.2.2)
def vx_128 (b_ : Nat → Int) (n_ : Nat) (A_ : pA) (N_ : Nat → Nat) (M_ : Nat) (c_ : List Int) (p_ : Nat) (S0_ : sm_S) (S1_ : sm_S) : Prop := gi S1_ ∧ ai_fr (sx_W vw_128) S0_ S1_ ∧ (∃ e_, p_us b_ n_ A_ N_ M_ c_ p_ = .inl e_ ∧ ter S1_ e_)
set_option maxHeartbeats 400000 in
theorem vc_128 {sc_ : Nat × (Nat → Int)} (b_ : Nat → Int) (n_ : Nat) (A_ : pA) (N_ : Nat → Nat) (M_ : Nat) (c_ : List Int) (p_ : Nat) (S0_ : sm_S) (hI_ : gi S0_) (hc_ : ct b_ n_ p_ S0_) (hd_ : dr b_ n_ A_ N_ M_ c_ S0_) (hl_ : c_.length ≤ 3 * p_) (hk0_ : lx_kd b_ n_ p_ ≠ 0) : sm_T (mt_P sc_) 6 128 (0, [some (.inr (.inr (some (7, 0)))), none, none, none, none], [], S0_) (fun r_ => (∃ u_ S1_, r_ = (.inl u_, S1_, 0) ∧ vq_128 b_ n_ A_ N_ M_ c_ p_ S0_ u_ S1_) ∨ ∃ S1_, r_ = (.inr 2, S1_, 1) ∧ vx_128 b_ n_ A_ N_ M_ c_ p_ S0_ S1_) := by
  have hF_ : ai_fr (sx_W vw_128) S0_ S0_ := ai_fr_rf
  have st0_ := hc_.2.2.2.2.2.1
  have kd0_ := hc_.2.2.2.2.2.2.2.1
  have hp0_ := hc_.2.2.2.1
  have hn1_ := hc_.2.2.1
  have hM1_ := hd_.1.2.1.1
  have hA1_ := (hd_.1.2.1.2 M_ (Nat.le_refl _)).1
  refine sm_T_go 2 (c1 := (4, [some (.inr (.inr (some (7, 0)))), none, none, none, none], [.inr (.inr (some (10, 0)))], S0_)) rfl ?_
  refine sm_T_calx (d1 := 1) (Q1 := vq_191 b_ n_ (lx_en b_ n_ p_) S0_) (Q2 := vx_191 b_ n_ (lx_en b_ n_ p_) S0_) rfl rfl (by decide) (vc_191 b_ n_ (lx_en b_ n_ p_) S0_ hI_ (by exact hc_.1) (by exact hc_.2.1) (by exact hc_.2.2.1) (by exact hc_.2.2.2.2.2.2.1) (by exact (lx_en_le (b := b_) hc_.2.2.2.1).2)) rfl (fun Sx1_ px4_ => ?_) (fun u_ Sx1_ px4_ => ?_)
  · obtain ⟨hIx2_, hFx3_, px4_⟩ := px4_
    refine Or.inr ⟨_, rfl, hIx2_, ai_fr_tr hF_ (fr_le hFx3_ rfl), ?_⟩
    refine ⟨(1, (lx_nx b_ n_ p_)), ?_, px4_.2⟩
    unfold p_us; rw [pb_l (p_ad_x px4_.1)]
  obtain ⟨rfl, hIx2_, hFx3_, px4_⟩ := px4_
  have hFx5_ : ai_fr (sx_W vw_128) S0_ Sx1_ := ai_fr_tr hF_ (fr_le hFx3_ rfl)
  have c1_ : ct b_ n_ (lx_nx b_ n_ p_) _ := px4_
  have a1_ := p_ad_c px4_
  have d1_ := dr_fr hd_ hFx3_ rfl rfl rfl rfl rfl rfl rfl rfl rfl rfl
  have k1_ := p_ad_ok hc_.2.2.2.1 (by omega) a1_
  have st1_ := c1_.2.2.2.2.2.1
  have kd1_ := c1_.2.2.2.2.2.2.2.1
  have hp1_ := c1_.2.2.2.1
  have bx6_ : 0 ≤ Sx1_.1 10 0 3 ∧ Sx1_.1 10 0 3 ≤ 1280 := hIx2_.1 10 0 3 rfl
  have bx7_ : 0 ≤ Sx1_.1 7 0 3 ∧ Sx1_.1 7 0 3 ≤ 16 := hIx2_.1 7 0 3 rfl
  refine sm_T_go 8 (c1 := (22, [some (.inr (.inr (some (7, 0)))), some (.inl (Sx1_.1 10 0 3)), none, none, none], [.inl 40, .inl (Sx1_.1 7 0 3), .inr (.inr (some (7, 0)))], Sx1_)) rfl ?_
  refine sm_T_calx (d1 := 2) (Q1 := vq_120 (Sx1_.1 7 0 3) 40 b_ n_ (lx_nx b_ n_ p_) M_ (A_.1 M_) (fun s_ => A_.2.1 (40 * M_ + s_)) Sx1_) (Q2 := vx_120 (Sx1_.1 7 0 3) 40 b_ n_ (lx_nx b_ n_ p_) M_ (A_.1 M_) (fun s_ => A_.2.1 (40 * M_ + s_)) Sx1_) rfl rfl (by decide) (vc_120 (Sx1_.1 7 0 3) 40 b_ n_ (lx_nx b_ n_ p_) M_ (A_.1 M_) (fun s_ => A_.2.1 (40 * M_ + s_)) Sx1_ hIx2_ (by exact c1_) (by exact d1_.1.1) (by exact er_nmr d1_.1 (Nat.le_refl _))) rfl (fun Sx8_ px11_ => ?_) (fun u_ Sx8_ px11_ => ?_)
  · obtain ⟨hIx9_, hFx10_, px11_⟩ := px11_
    refine Or.inr ⟨_, rfl, hIx9_, ai_fr_tr hFx5_ (fr_le hFx10_ rfl), ?_⟩
    obtain ⟨e_, w1_, w2_⟩ := px11_
    refine ⟨e_, ?_, w2_⟩
    unfold p_us; rw [pb_r a1_, pb_l (show p_nw b_ n_ A_ M_ (lx_nx b_ n_ p_) = .inl e_ from w1_)]
  obtain ⟨vx13_, rfl, hIx9_, hFx10_, px11_⟩ := px11_
  have hFx12_ : ai_fr (sx_W vw_128) S0_ Sx8_ := ai_fr_tr hFx5_ (fr_le hFx10_ rfl)
  have ex14_ : Sx8_.1 7 0 3 = Sx1_.1 7 0 3 := hFx10_.1 7 0 3 rfl
  obtain ⟨nv_, nk_, r2_, a2_, c2_⟩ := px11_
  have a2_ : p_nw b_ n_ A_ M_ (lx_nx b_ n_ p_) = .inr r2_ := a2_
  have d2_ := dr_fr d1_ hFx10_ rfl rfl rfl rfl rfl rfl rfl rfl rfl rfl
  have nn_ := p_nn_ok a2_
  have nm_ : nmp b_ n_ (lx_nx b_ n_ p_) := ⟨c1_.2.2.2.1, nk_⟩
  have k2_ := p_ad_ok c1_.2.2.2.1 (by omega) nn_.2.2
  have nK_ : A_.1 M_ < 40 := by omega
  have st2_ := c2_.2.2.2.2.2.1
  have kd2_ := c2_.2.2.2.2.2.2.2.1
  have hp2_ := c2_.2.2.2.1
  have bx15_ : (-128) ≤ Sx8_.1 10 0 2 ∧ Sx8_.1 10 0 2 ≤ 257 := hIx9_.1 10 0 2 rfl
  refine sm_T_go 5 (c1 := (34, [some (.inr (.inr (some (7, 0)))), some (.inl (Sx1_.1 10 0 3)), some (.inl vx13_), none, none], [.inl 1, .inl (Sx8_.1 10 0 2)], Sx8_)) rfl ?_
  refine sm_T_br (a := 0) (z := 18) rfl (fun cx16_ => ?_) (fun cx16_ => ?_)
  · have cx16_ : (Sx8_.1 10 0 2) = 1 := of_decide_eq_true cx16_
    refine sm_T_go 3 (c1 := (57, [some (.inr (.inr (some (7, 0)))), some (.inl (Sx1_.1 10 0 3)), some (.inl vx13_), none, none], [.inr (.inr (some (10, 0))), .inr (.inr (some (7, 0)))], Sx8_)) rfl ?_
    refine sm_T_cal (d1 := 0) (Q1 := vq_189 b_ n_ r2_ Sx8_) rfl rfl (by decide) (vc_189 b_ n_ r2_ Sx8_ hIx9_ (by exact c2_) (by omega)) (fun u_ Sx17_ px20_ => ?_)
    obtain ⟨rfl, vx22_, rfl, px20_⟩ := px20_
    have e57_ := px20_
    have kk2_ : lx_kd b_ n_ r2_ = 1 := by omega
    refine sm_T_cal (d1 := 1) (Q1 := vq_118 vx22_ b_ n_ N_ M_ r2_ Sx8_) rfl rfl (by decide) (vc_118 vx22_ b_ n_ N_ M_ r2_ Sx8_ hIx9_ (by exact c2_.1) (by exact hn1_) (by exact d2_.1.1) (by exact d2_.2.1) (by exact e57_) (by exact ⟨c2_.2.2.2.1, kk2_⟩)) (fun u_ Sx23_ px26_ => ?_)
    obtain ⟨rfl, vx28_, rfl, px26_⟩ := px26_
    have e60_ := px26_
    have hfb_ := p_fd_b (f_ := fun m_ => nm_q b_ n_ (N_ m_) r2_) M_
    have hf0_ : p_fm b_ n_ N_ M_ r2_ = p_fd (fun m_ => nm_q b_ n_ (N_ m_) r2_) M_ := rfl
    refine sm_T_go 3 (c1 := (66, [some (.inr (.inr (some (7, 0)))), some (.inl (Sx1_.1 10 0 3)), some (.inl vx13_), some (.inl vx28_), none], [.inl (-1), .inl vx28_], Sx8_)) rfl ?_
    refine sm_T_br (a := 1) (z := 19) rfl (fun cx29_ => ?_) (fun cx29_ => ?_)
    · have cx29_ : vx28_ ≠ (-1) := of_decide_eq_true cx29_
      refine sm_T_go 2 (c1 := (89, [some (.inr (.inr (some (7, 0)))), some (.inl (Sx1_.1 10 0 3)), some (.inl vx13_), some (.inl vx28_), none], [.inr (.inr (some (10, 0)))], Sx8_)) rfl ?_
      refine sm_T_calx (d1 := 1) (Q1 := vq_191 b_ n_ (lx_en b_ n_ r2_) Sx8_) (Q2 := vx_191 b_ n_ (lx_en b_ n_ r2_) Sx8_) rfl rfl (by decide) (vc_191 b_ n_ (lx_en b_ n_ r2_) Sx8_ hIx9_ (by exact c2_.1) (by exact c2_.2.1) (by exact c2_.2.2.1) (by exact c2_.2.2.2.2.2.2.1) (by exact (lx_en_le (b := b_) c2_.2.2.2.1).2)) rfl (fun Sx30_ px33_ => ?_) (fun u_ Sx30_ px33_ => ?_)
      · obtain ⟨hIx31_, hFx32_, px33_⟩ := px33_
        refine Or.inr ⟨_, rfl, hIx31_, ai_fr_tr hFx12_ (fr_le hFx32_ rfl), ?_⟩
        refine ⟨(1, (lx_nx b_ n_ r2_)), ?_, px33_.2⟩
        unfold p_us; rw [pb_r a1_, pb_r a2_, if_pos kk2_, if_neg (show ¬ p_fm b_ n_ N_ M_ r2_ = -1 by omega), pb_l (p_ad_x px33_.1)]
      obtain ⟨rfl, hIx31_, hFx32_, px33_⟩ := px33_
      have hFx34_ : ai_fr (sx_W vw_128) S0_ Sx30_ := ai_fr_tr hFx12_ (fr_le hFx32_ rfl)
      have c3_ : ct b_ n_ (lx_nx b_ n_ r2_) _ := px33_
      have a3_ := p_ad_c px33_
      have d3_ := dr_fr d2_ hFx32_ rfl rfl rfl rfl rfl rfl rfl rfl rfl rfl
      have k3_ := p_ad_ok c2_.2.2.2.1 (by omega) a3_
      have st3_ := c3_.2.2.2.2.2.1
      have kd3_ := c3_.2.2.2.2.2.2.2.1
      have hp3_ := c3_.2.2.2.1
      refine sm_T_go 3 (c1 := (98, [some (.inr (.inr (some (7, 0)))), some (.inl (Sx1_.1 10 0 3)), some (.inl vx13_), some (.inl vx28_), none], [.inl 40, .inr (.inr (some (10, 0)))], Sx30_)) rfl ?_
      refine sm_T_calx (d1 := 2) (Q1 := vq_188 40 b_ n_ (lx_nx b_ n_ r2_) Sx30_) (Q2 := vx_188 40 b_ n_ (lx_nx b_ n_ r2_) Sx30_) rfl rfl (by decide) (vc_188 40 b_ n_ (lx_nx b_ n_ r2_) Sx30_ hIx31_ (by exact c3_)) rfl (fun Sx35_ px38_ => ?_) (fun u_ Sx35_ px38_ => ?_)
      · obtain ⟨hIx36_, hFx37_, px38_⟩ := px38_
        refine Or.inr ⟨_, rfl, hIx36_, ai_fr_tr hFx34_ (fr_le hFx37_ rfl), ?_⟩
        obtain ⟨e_, w1_, w2_⟩ := px38_
        refine ⟨e_, ?_, w2_⟩
        unfold p_us; rw [pb_r a1_, pb_r a2_, if_pos kk2_, if_neg (show ¬ p_fm b_ n_ N_ M_ r2_ = -1 by omega), pb_r a3_, pb_l w1_]
      obtain ⟨rfl, hIx36_, hFx37_, px38_⟩ := px38_
      have hFx39_ : ai_fr (sx_W vw_128) S0_ Sx35_ := ai_fr_tr hFx34_ (fr_le hFx37_ rfl)
      obtain ⟨r4_, a4_, c4_⟩ := px38_
      have k4_ := p_nd_ok (by decide) c3_.2.2.2.1 a4_
      have d4_ := dr_fr d3_ hFx37_ rfl rfl rfl rfl rfl rfl rfl rfl rfl rfl
      have st4_ := c4_.2.2.2.2.2.1
      have kd4_ := c4_.2.2.2.2.2.2.2.1
      have hp4_ := c4_.2.2.2.1
      obtain ⟨o4_, h4_, xs4_⟩ := xs_ex hIx36_ d4_.2.2.1 d4_.2.2.2.1 d4_.2.2.2.2
      have m4_ : Sx35_.2.2.1 77 0 (Sx35_.1 7 0 3).toNat = (A_.1 M_ : Int) := by rw [d4_.1.1, Int.toNat_natCast]; exact (d4_.1.2.2 M_ (Nat.le_refl _)).1
      have bx40_ : 0 ≤ Sx35_.1 7 0 3 ∧ Sx35_.1 7 0 3 ≤ 16 := hIx36_.1 7 0 3 rfl
      refine sm_T_go 4 (c1 := (109, [some (.inr (.inr (some (7, 0)))), some (.inl (Sx1_.1 10 0 3)), some (.inl vx13_), some (.inl vx28_), none], [.inl (Sx35_.1 7 0 3), .inr (.inr (some (77, 0)))], Sx35_)) rfl ?_
      refine sm_T_iald (n := 17) rfl rfl (by omega) (by omega) ?_
      have bx41_ : 0 ≤ Sx35_.2.2.1 77 0 (Sx35_.1 7 0 3).toNat ∧ Sx35_.2.2.1 77 0 (Sx35_.1 7 0 3).toNat ≤ 40 := hIx36_.2 77 0 _
      refine sm_T_go 5 (c1 := (118, [some (.inr (.inr (some (7, 0)))), some (.inl (Sx1_.1 10 0 3)), some (.inl vx13_), some (.inl vx28_), some (.inl (Sx35_.2.2.1 77 0 (Sx35_.1 7 0 3).toNat))], [.inl 0, .inl (Sx35_.2.2.1 77 0 (Sx35_.1 7 0 3).toNat), .inl 15, .inr (.inr (some (7, 0)))], Sx35_)) rfl ?_
      refine sm_T_cal (d1 := 0) (Q1 := vq_140 15 (Sx35_.2.2.1 77 0 (Sx35_.1 7 0 3).toNat) 0 o4_ h4_ c_ Sx35_) rfl rfl (by decide) (vc_140 15 (Sx35_.2.2.1 77 0 (Sx35_.1 7 0 3).toNat) 0 o4_ h4_ c_ Sx35_ hIx36_ (by exact xs4_) (by decide) (by omega) (by first | decide | omega) (by omega)) (fun u_ Sx42_ px45_ => ?_)
      obtain ⟨rfl, hIx43_, hFx44_, px45_⟩ := px45_
      have hFx46_ : ai_fr (sx_W vw_128) S0_ Sx42_ := ai_fr_tr hFx39_ (fr_le hFx44_ rfl)
      have ex47_ : Sx42_.1 7 0 3 = Sx35_.1 7 0 3 := hFx44_.1 7 0 3 rfl
      have z5_ := px45_
      rw [m4_] at z5_
      have d5_ : dr b_ n_ A_ N_ M_ (cw 15 (A_.1 M_) 0 :: c_) Sx42_ := ⟨er_fr d4_.1 hFx44_ rfl rfl rfl rfl rfl rfl, nr_fr d4_.2.1 hFx44_ rfl, (hFx44_.2.1 7 0 11 rfl).trans d4_.2.2.1, z5_.2.2.2.2.2.2 rfl⟩
      have c5_ := ct_fr c4_ hFx44_ rfl rfl rfl rfl rfl rfl rfl
      have st5_ := c5_.2.2.2.2.2.1
      have kd5_ := c5_.2.2.2.2.2.2.2.1
      have hp5_ := c5_.2.2.2.1
      refine sm_T_go 4 (c1 := (126, [some (.inr (.inr (some (7, 0)))), some (.inl (Sx1_.1 10 0 3)), some (.inl vx13_), some (.inl vx28_), some (.inl (Sx35_.2.2.1 77 0 (Sx35_.1 7 0 3).toNat))], [.inl (Sx1_.1 10 0 3), .inl (Sx35_.2.2.1 77 0 (Sx35_.1 7 0 3).toNat), .inl vx28_, .inr (.inr (some (7, 0)))], Sx42_)) rfl ?_
      refine sm_T_calx (d1 := 5) (Q1 := vq_129 vx28_ (Sx35_.2.2.1 77 0 (Sx35_.1 7 0 3).toNat) (Sx1_.1 10 0 3) b_ n_ A_ N_ M_ (cw 15 (A_.1 M_) 0 :: c_) r4_ (p_fm b_ n_ N_ M_ r2_).toNat (A_.1 M_) (lx_nx b_ n_ p_) Sx42_) (Q2 := vx_129 vx28_ (Sx35_.2.2.1 77 0 (Sx35_.1 7 0 3).toNat) (Sx1_.1 10 0 3) b_ n_ A_ N_ M_ (cw 15 (A_.1 M_) 0 :: c_) r4_ (p_fm b_ n_ N_ M_ r2_).toNat (A_.1 M_) (lx_nx b_ n_ p_) Sx42_) rfl rfl (by decide) (vc_129 vx28_ (Sx35_.2.2.1 77 0 (Sx35_.1 7 0 3).toNat) (Sx1_.1 10 0 3) b_ n_ A_ N_ M_ (cw 15 (A_.1 M_) 0 :: c_) r4_ (p_fm b_ n_ N_ M_ r2_).toNat (A_.1 M_) (lx_nx b_ n_ p_) Sx42_ hIx43_ (by exact c5_) (by exact d5_) (by (show c_.length + 1 ≤ 3 * r4_; omega)) (by omega) (by omega) (by exact m4_) (by exact nK_) (by exact st1_) (by omega)) rfl (fun Sx48_ px51_ => ?_) (fun u_ Sx48_ px51_ => ?_)
      · obtain ⟨hIx49_, hFx50_, px51_⟩ := px51_
        refine Or.inr ⟨_, rfl, hIx49_, ai_fr_tr hFx46_ (fr_le hFx50_ rfl), ?_⟩
        obtain ⟨e_, w1_, w2_⟩ := px51_
        refine ⟨e_, ?_, w2_⟩
        unfold p_us; rw [pb_r a1_, pb_r a2_, if_pos kk2_, if_neg (show ¬ p_fm b_ n_ N_ M_ r2_ = -1 by omega), pb_r a3_, pb_r a4_, pb_l w1_]
      obtain ⟨rfl, hIx49_, hFx50_, px51_⟩ := px51_
      have hFx52_ : ai_fr (sx_W vw_128) S0_ Sx48_ := ai_fr_tr hFx46_ (fr_le hFx50_ rfl)
      obtain ⟨x6_, a6_, c6_, d6_, l6_, lt6_⟩ := px51_
      obtain ⟨o6_, h6_, xs6_⟩ := xs_ex hIx49_ d6_.2.2.1 d6_.2.2.2.1 d6_.2.2.2.2
      have st6_ := c6_.2.2.2.2.2.1
      have kd6_ := c6_.2.2.2.2.2.2.2.1
      have hp6_ := c6_.2.2.2.1
      refine sm_T_go 4 (c1 := (135, [some (.inr (.inr (some (7, 0)))), some (.inl (Sx1_.1 10 0 3)), some (.inl vx13_), some (.inl vx28_), some (.inl (Sx35_.2.2.1 77 0 (Sx35_.1 7 0 3).toNat))], [.inl vx28_, .inl (Sx35_.2.2.1 77 0 (Sx35_.1 7 0 3).toNat), .inl 17, .inr (.inr (some (7, 0)))], Sx48_)) rfl ?_
      refine sm_T_cal (d1 := 0) (Q1 := vq_140 17 (Sx35_.2.2.1 77 0 (Sx35_.1 7 0 3).toNat) vx28_ o6_ h6_ x6_.1 Sx48_) rfl rfl (by decide) (vc_140 17 (Sx35_.2.2.1 77 0 (Sx35_.1 7 0 3).toNat) vx28_ o6_ h6_ x6_.1 Sx48_ hIx49_ (by exact xs6_) (by decide) (by omega) (by first | decide | omega) (by omega)) (fun u_ Sx53_ px56_ => ?_)
      obtain ⟨rfl, hIx54_, hFx55_, px56_⟩ := px56_
      have hFx57_ : ai_fr (sx_W vw_128) S0_ Sx53_ := ai_fr_tr hFx52_ (fr_le hFx55_ rfl)
      have z7_ := px56_
      rw [m4_, e60_] at z7_
      have d7_ : dr b_ n_ A_ N_ M_ (cw 17 (A_.1 M_) (p_fm b_ n_ N_ M_ r2_) :: x6_.1) Sx53_ := ⟨er_fr d6_.1 hFx55_ rfl rfl rfl rfl rfl rfl, nr_fr d6_.2.1 hFx55_ rfl, (hFx55_.2.1 7 0 11 rfl).trans d6_.2.2.1, z7_.2.2.2.2.2.2 rfl⟩
      have c7_ := ct_fr c6_ hFx55_ rfl rfl rfl rfl rfl rfl rfl
      have st7_ := c7_.2.2.2.2.2.1
      have kd7_ := c7_.2.2.2.2.2.2.2.1
      have hp7_ := c7_.2.2.2.1
      refine sm_T_go 3 (c1 := (144, [some (.inr (.inr (some (7, 0)))), some (.inl (Sx1_.1 10 0 3)), some (.inl vx13_), some (.inl vx28_), some (.inl (Sx35_.2.2.1 77 0 (Sx35_.1 7 0 3).toNat))], [.inl 59, .inr (.inr (some (10, 0)))], Sx53_)) rfl ?_
      refine sm_T_calx (d1 := 2) (Q1 := vq_188 59 b_ n_ x6_.2 Sx53_) (Q2 := vx_188 59 b_ n_ x6_.2 Sx53_) rfl rfl (by decide) (vc_188 59 b_ n_ x6_.2 Sx53_ hIx54_ (by exact c7_)) rfl (fun Sx58_ px61_ => ?_) (fun u_ Sx58_ px61_ => ?_)
      · obtain ⟨hIx59_, hFx60_, px61_⟩ := px61_
        refine Or.inr ⟨_, rfl, hIx59_, ai_fr_tr hFx57_ (fr_le hFx60_ rfl), ?_⟩
        obtain ⟨e_, w1_, w2_⟩ := px61_
        refine ⟨e_, ?_, w2_⟩
        unfold p_us; rw [pb_r a1_, pb_r a2_, if_pos kk2_, if_neg (show ¬ p_fm b_ n_ N_ M_ r2_ = -1 by omega), pb_r a3_, pb_r a4_, pb_r a6_, pb_l w1_]
      obtain ⟨rfl, hIx59_, hFx60_, px61_⟩ := px61_
      have hFx62_ : ai_fr (sx_W vw_128) S0_ Sx58_ := ai_fr_tr hFx57_ (fr_le hFx60_ rfl)
      obtain ⟨r8_, a8_, c8_⟩ := px61_
      have k8_ := p_nd_ok (by decide) c7_.2.2.2.1 a8_
      have d8_ := dr_fr d7_ hFx60_ rfl rfl rfl rfl rfl rfl rfl rfl rfl rfl
      have st8_ := c8_.2.2.2.2.2.1
      have kd8_ := c8_.2.2.2.2.2.2.2.1
      have hp8_ := c8_.2.2.2.1
      refine sm_T_go 5 (c1 := (152, [some (.inr (.inr (some (7, 0)))), some (.inl (Sx1_.1 10 0 3)), some (.inl vx13_), some (.inl vx28_), some (.inl (Sx35_.2.2.1 77 0 (Sx35_.1 7 0 3).toNat))], [.inl vx28_, .inl 0, .inl 5, .inl vx13_, .inr (.inr (some (7, 0)))], Sx58_)) rfl ?_
      refine sm_T_cal (d1 := 0) (Q1 := vq_121 vx13_ 5 0 vx28_ b_ n_ A_ N_ M_ (cw 17 (A_.1 M_) (p_fm b_ n_ N_ M_ r2_) :: x6_.1) (lx_nx b_ n_ p_) Sx58_) rfl rfl (by decide) (vc_121 vx13_ 5 0 vx28_ b_ n_ A_ N_ M_ (cw 17 (A_.1 M_) (p_fm b_ n_ N_ M_ r2_) :: x6_.1) (lx_nx b_ n_ p_) Sx58_ hIx59_ (by exact d8_) (by exact nv_) (by exact nm_) (by exact hn1_) (by exact nK_) (by omega) (by omega) (by intro z_; exact absurd rfl z_) (by intro _; omega) (by omega)) (fun u_ Sx63_ px66_ => ?_)
      obtain ⟨rfl, hIx64_, hFx65_, px66_⟩ := px66_
      have hFx67_ : ai_fr (sx_W vw_128) S0_ Sx63_ := ai_fr_tr hFx62_ (fr_le hFx65_ rfl)
      have dt_ := px66_
      have FT_ := hFx65_
      refine sm_T_rv rfl (Or.inl ⟨_, _, rfl, rfl, hIx64_, hFx67_, ?_⟩)
      rw [e60_] at dt_
      exact ⟨_, by unfold p_us; rw [pb_r a1_, pb_r a2_, if_pos kk2_, if_neg (show ¬ p_fm b_ n_ N_ M_ r2_ = -1 by omega), pb_r a3_, pb_r a4_, pb_r a6_, pb_r a8_], ct_fr c8_ FT_ rfl rfl rfl rfl rfl rfl rfl, dt_, by show x6_.1.length + 1 ≤ 3 * r8_; omega, by show p_ < r8_; omega⟩
    · have cx29_ : ¬ (vx28_ ≠ (-1)) := of_decide_eq_false cx29_
      have bx68_ : 0 ≤ Sx8_.1 10 0 3 ∧ Sx8_.1 10 0 3 ≤ 1280 := hIx9_.1 10 0 3 rfl
      refine sm_T_go 6 (c1 := (82, [some (.inr (.inr (some (7, 0)))), some (.inl (Sx1_.1 10 0 3)), some (.inl vx13_), some (.inl vx28_), none], [.inl (Sx8_.1 10 0 3), .inl 11, .inr (.inr (some (10, 0)))], Sx8_)) rfl ?_
      refine sm_T_calx (d1 := 0) (Q1 := vq_187 11 (Sx8_.1 10 0 3) Sx8_) (Q2 := vx_187 11 (Sx8_.1 10 0 3) Sx8_) rfl rfl (by decide) (vc_187 11 (Sx8_.1 10 0 3) Sx8_ hIx9_ (by decide) (by omega)) rfl (fun Sx69_ px72_ => ?_) (fun u_ Sx69_ px72_ => ?_)
      · obtain ⟨hIx70_, hFx71_, px72_⟩ := px72_
        refine Or.inr ⟨_, rfl, hIx70_, ai_fr_tr hFx12_ (fr_le hFx71_ rfl), ?_⟩
        refine ⟨(11, r2_), ?_, px72_.1, px72_.2.trans st2_⟩
        unfold p_us; rw [pb_r a1_, pb_r a2_, if_pos kk2_, if_pos (by omega)]
      · exact (px72_.2.2.2).elim
  · have cx16_ : ¬ ((Sx8_.1 10 0 2) = 1) := of_decide_eq_false cx16_
    have bx74_ : 0 ≤ Sx8_.1 10 0 3 ∧ Sx8_.1 10 0 3 ≤ 1280 := hIx9_.1 10 0 3 rfl
    refine sm_T_go 6 (c1 := (49, [some (.inr (.inr (some (7, 0)))), some (.inl (Sx1_.1 10 0 3)), some (.inl vx13_), none, none], [.inl (Sx8_.1 10 0 3), .inl 2, .inr (.inr (some (10, 0)))], Sx8_)) rfl ?_
    refine sm_T_calx (d1 := 0) (Q1 := vq_187 2 (Sx8_.1 10 0 3) Sx8_) (Q2 := vx_187 2 (Sx8_.1 10 0 3) Sx8_) rfl rfl (by decide) (vc_187 2 (Sx8_.1 10 0 3) Sx8_ hIx9_ (by decide) (by omega)) rfl (fun Sx75_ px78_ => ?_) (fun u_ Sx75_ px78_ => ?_)
    · obtain ⟨hIx76_, hFx77_, px78_⟩ := px78_
      refine Or.inr ⟨_, rfl, hIx76_, ai_fr_tr hFx12_ (fr_le hFx77_ rfl), ?_⟩
      refine ⟨(2, r2_), ?_, px78_.1, px78_.2.trans st2_⟩
      unfold p_us; rw [pb_r a1_, pb_r a2_, if_neg (by omega)]
    · exact (px78_.2.2.2).elim
end
/-! 99.xea -/
section
/-! the class reader: modules; written by wip/p55/gen/vg -/

/-! modules -/
def a_bm (A_ : pA) (M_ : Nat) : pA := (fun m_ => if m_ = M_ then 0 else A_.1 m_, A_.2)
def n_up (N_ : Nat → Nat) (M_ q_ : Nat) : Nat → Nat := fun m_ => if m_ = M_ then q_ else N_ m_
def p_bm (b_ : Nat → Int) (n_ : Nat) (A_ : pA) (N_ : Nat → Nat) (M_ p_ : Nat) : pE (pA × (Nat → Nat) × Nat) := pb (p_nd b_ n_ 3 p_) fun q_ => if lx_kd b_ n_ q_ = 1 then (if p_fm b_ n_ N_ M_ q_ = -1 then (if M_ = 16 then .inl (15, q_) else pb (p_ad b_ n_ q_) fun r_ => pb (p_nd b_ n_ 123 r_) fun u_ => .inr (a_bm A_ M_, n_up N_ M_ q_, u_)) else .inl (10, q_)) else .inl (2, q_)
def p_en (b_ : Nat → Int) (n_ : Nat) (A_ : pA) (N_ : Nat → Nat) (M_ p_ : Nat) : pE (Option (pA × (Nat → Nat) × Nat)) := pb (p_nd b_ n_ 125 p_) fun r_ => if lx_kd b_ n_ r_ = 0 then .inr none else pb (p_bm b_ n_ A_ N_ (M_ + 1) r_) fun x_ => .inr (some x_)
def nc (b_ : Nat → Int) (n_ : Nat) (N_ : Nat → Nat) (M_ : Nat) (S_ : sm_S) : Prop := S_.2.2.1 75 0 M_ = (16 * N_ M_ + lx_sz b_ n_ (N_ M_) : Nat) ∧ nmp b_ n_ (N_ M_)
theorem nc_fr {w_ : sx_Wl} {S_ S'_ : sm_S} {b_ : Nat → Int} {n_ M_ : Nat} {N_ : Nat → Nat} (x_ : nc b_ n_ N_ M_ S_) (g_ : ai_fr (sx_W w_) S_ S'_) (h0_ : (sx_W w_).2.1 75 = false) : nc b_ n_ N_ M_ S'_ := by
  unfold nc at x_ ⊢
  rw [fr_arr g_ h0_]
  exact x_
def br (b_ : Nat → Int) (n_ : Nat) (A_ : pA) (N_ : Nat → Nat) (M_ : Nat) (c_ : List Int) (S_ : sm_S) : Prop := S_.1 7 0 3 = (M_ : Int) ∧ M_ ≤ 16 ∧ (∀ m_, m_ < M_ → a_ok b_ n_ A_ m_ ∧ er1 b_ n_ A_ m_ S_) ∧ nr b_ n_ N_ M_ S_ ∧ cr c_ S_
theorem br_fr {w_ : sx_Wl} {S_ S'_ : sm_S} {b_ : Nat → Int} {n_ M_ : Nat} {A_ : pA} {N_ : Nat → Nat} {c_ : List Int} (x_ : br b_ n_ A_ N_ M_ c_ S_) (g_ : ai_fr (sx_W w_) S_ S'_) (h0_ : (sx_W w_).2.1 77 = false) (h1_ : (sx_W w_).2.1 78 = false) (h2_ : (sx_W w_).2.1 79 = false) (h3_ : (sx_W w_).2.1 80 = false) (h4_ : (sx_W w_).2.1 81 = false) (h5_ : (sx_W w_).1 7 3 = false) (h6_ : (sx_W w_).2.1 75 = false) (h7_ : (sx_W w_).2.2 7 11 = false) (h8_ : (sx_W w_).1 7 2 = false) (h9_ : (sx_W w_).2.1 74 = false) : br b_ n_ A_ N_ M_ c_ S'_ := by
  refine ⟨(g_.1 7 0 3 h5_).trans x_.1, x_.2.1, fun m_ hm_ => ⟨(x_.2.2.1 m_ hm_).1, ?_⟩, nr_fr x_.2.2.2.1 g_ h6_, cr_fr x_.2.2.2.2 g_ h7_ h8_ h9_⟩
  have y_ := (x_.2.2.1 m_ hm_).2
  unfold er1 at y_ ⊢
  rw [fr_arr g_ h0_, fr_arr g_ h1_, fr_arr g_ h2_, fr_arr g_ h3_, fr_arr g_ h4_]
  exact y_
theorem er1_77 {b_ : Nat → Int} {n_ m_ M_ : Nat} {A_ : pA} {S_ S'_ : sm_S} (h_ : er1 b_ n_ A_ m_ S_) (hm_ : m_ ≠ M_) (g_ : ai_fr (sx_W ([], [75, 77], [])) S_ S'_) (hk_ : S'_.2.2.1 77 0 m_ = S_.2.2.1 77 0 m_) : er1 b_ n_ (a_bm A_ M_) m_ S'_ := by
  unfold er1 at h_ ⊢
  rw [fr_arr (t := 78) g_ rfl, fr_arr (t := 79) g_ rfl, fr_arr (t := 80) g_ rfl, fr_arr (t := 81) g_ rfl, hk_, show (a_bm A_ M_).1 m_ = A_.1 m_ from if_neg hm_]
  exact h_
theorem a_bm_ok {b_ : Nat → Int} {n_ M_ : Nat} {A_ : pA} (h_ : ∀ m_, m_ < M_ → a_ok b_ n_ A_ m_) (hM_ : M_ ≤ 15) : a_ok b_ n_ (a_bm A_ M_) M_ := by
  refine ⟨hM_, fun m_ hm_ => ?_⟩
  by_cases e_ : m_ = M_
  · have e1_ : (a_bm A_ M_).1 m_ = 0 := if_pos e_
    rw [e1_]
    exact ⟨Nat.zero_le _, fun s_ hs_ => absurd hs_ (Nat.not_lt_zero _)⟩
  · have e1_ : (a_bm A_ M_).1 m_ = A_.1 m_ := if_neg e_
    rw [e1_]
    exact (h_ m_ (by omega)).2 m_ (Nat.le_refl _)
theorem a_ok_le {b_ : Nat → Int} {n_ M_ m_ : Nat} {A_ : pA} (h_ : a_ok b_ n_ A_ M_) (hm_ : m_ ≤ M_) : a_ok b_ n_ A_ m_ := ⟨by have := h_.1; omega, fun k_ hk_ => h_.2 k_ (by omega)⟩
theorem bm_st {b_ : Nat → Int} {n_ M_ q_ i_ : Nat} {A_ : pA} {N_ : Nat → Nat} {c_ : List Int} {S_ : sm_S} {x_ : Int} (hb_ : br b_ n_ A_ N_ M_ c_ S_) (hc_ : ct b_ n_ q_ S_) (h1_ : M_ ≠ 16) (h2_ : nmp b_ n_ q_) (h3_ : x_ = (16 * q_ + lx_sz b_ n_ q_ : Nat)) (hi_ : i_ = M_) : ct b_ n_ q_ (sm_aI (sm_aI S_ 75 0 i_ x_) 77 0 i_ 0) ∧ dr b_ n_ (a_bm A_ M_) (n_up N_ M_ q_) M_ c_ (sm_aI (sm_aI S_ 75 0 i_ x_) 77 0 i_ 0) ∧ nc b_ n_ (n_up N_ M_ q_) M_ (sm_aI (sm_aI S_ 75 0 i_ x_) 77 0 i_ 0) := by
  subst hi_
  have f_ : ai_fr (sx_W ([], [75, 77], [])) S_ (sm_aI (sm_aI S_ 75 0 i_ x_) 77 0 i_ 0) := ai_fr_tr (ai_fr_aI rfl) (ai_fr_aI rfl)
  have e75_ : ∀ m_, (sm_aI (sm_aI S_ 75 0 i_ x_) 77 0 i_ 0).2.2.1 75 0 m_ = if m_ = i_ then x_ else S_.2.2.1 75 0 m_ := by
    intro m_
    rw [rd_ne (by decide), rd_eq]
  have e77_ : ∀ m_, (sm_aI (sm_aI S_ 75 0 i_ x_) 77 0 i_ 0).2.2.1 77 0 m_ = if m_ = i_ then 0 else S_.2.2.1 77 0 m_ := by
    intro m_
    rw [rd_eq, rd_ne (by decide)]
  have hM_ := hb_.2.1
  refine ⟨ct_fr hc_ f_ rfl rfl rfl rfl rfl rfl rfl, ⟨⟨hb_.1, a_bm_ok (fun m_ hm_ => (hb_.2.2.1 m_ hm_).1) (by omega), fun m_ hm_ => ?_⟩, ⟨by omega, fun m_ hm_ => ?_⟩, cr_fr hb_.2.2.2.2 f_ rfl rfl rfl⟩, ?_⟩
  · by_cases e_ : m_ = i_
    · have e1_ : (a_bm A_ i_).1 m_ = 0 := if_pos e_
      unfold er1
      rw [e77_, if_pos e_, e1_]
      exact ⟨rfl, fun s_ hs_ => absurd hs_ (Nat.not_lt_zero _)⟩
    · exact er1_77 (hb_.2.2.1 m_ (by omega)).2 e_ f_ (by rw [e77_, if_neg e_])
  · have y_ := hb_.2.2.2.1.2 m_ hm_
    rw [e75_, if_neg (by omega), show n_up N_ i_ q_ m_ = N_ m_ from if_neg (by omega)]
    exact y_
  · unfold nc
    rw [e75_, if_pos rfl, show n_up N_ i_ q_ i_ = q_ from if_pos rfl]
    exact ⟨h3_, h2_⟩
end
/-! 99.xeb -/
section
/-! Reader.beginModule -/
def vw_116 : sx_Wl := ([(10, 2), (10, 3), (10, 4), (10, 5), (10, 6), (10, 7), (10, 8)], [75, 77], [])
def vq_116 (b_ : Nat → Int) (n_ : Nat) (A_ : pA) (N_ : Nat → Nat) (M_ : Nat) (c_ : List Int) (p_ : Nat) (S0_ : sm_S) (u_ : Option sm_V) (S1_ : sm_S) : Prop := u_ = none ∧ gi S1_ ∧ ai_fr (sx_W vw_116) S0_ S1_ ∧ (∃ x_, p_bm b_ n_ A_ N_ M_ p_ = .inr x_ ∧ ct b_ n_ x_.2.2 S1_ ∧ dr b_ n_ x_.1 x_.2.1 M_ c_ S1_ ∧ nc b_ n_ x_.2.1 M_ S1_ ∧ p_ < x_.2.2)
def vx_116 (b_ : Nat → Int) (n_ : Nat) (A_ : pA) (N_ : Nat → Nat) (M_ : Nat) (c_ : List Int) (p_ : Nat) (S0_ : sm_S) (S1_ : sm_S) : Prop := gi S1_ ∧ ai_fr (sx_W vw_116) S0_ S1_ ∧ (∃ e_, p_bm b_ n_ A_ N_ M_ p_ = .inl e_ ∧ ter S1_ e_)
set_option maxHeartbeats 400000 in
theorem vc_116 {sc_ : Nat × (Nat → Int)} (b_ : Nat → Int) (n_ : Nat) (A_ : pA) (N_ : Nat → Nat) (M_ : Nat) (c_ : List Int) (p_ : Nat) (S0_ : sm_S) (hI_ : gi S0_) (hc_ : ct b_ n_ p_ S0_) (hb_ : br b_ n_ A_ N_ M_ c_ S0_) : sm_T (mt_P sc_) 3 116 (0, [some (.inr (.inr (some (7, 0)))), none], [], S0_) (fun r_ => (∃ u_ S1_, r_ = (.inl u_, S1_, 0) ∧ vq_116 b_ n_ A_ N_ M_ c_ p_ S0_ u_ S1_) ∨ ∃ S1_, r_ = (.inr 2, S1_, 1) ∧ vx_116 b_ n_ A_ N_ M_ c_ p_ S0_ S1_) := by
  have hF_ : ai_fr (sx_W vw_116) S0_ S0_ := ai_fr_rf
  have st0_ := hc_.2.2.2.2.2.1
  have kd0_ := hc_.2.2.2.2.2.2.2.1
  have hp0_ := hc_.2.2.2.1
  have hn1_ := hc_.2.2.1
  refine sm_T_go 3 (c1 := (5, [some (.inr (.inr (some (7, 0)))), none], [.inl 3, .inr (.inr (some (10, 0)))], S0_)) rfl ?_
  refine sm_T_calx (d1 := 2) (Q1 := vq_188 3 b_ n_ p_ S0_) (Q2 := vx_188 3 b_ n_ p_ S0_) rfl rfl (by decide) (vc_188 3 b_ n_ p_ S0_ hI_ (by exact hc_)) rfl (fun Sx1_ px4_ => ?_) (fun u_ Sx1_ px4_ => ?_)
  · obtain ⟨hIx2_, hFx3_, px4_⟩ := px4_
    refine Or.inr ⟨_, rfl, hIx2_, ai_fr_tr hF_ (fr_le hFx3_ rfl), ?_⟩
    obtain ⟨e_, w1_, w2_⟩ := px4_
    refine ⟨e_, ?_, w2_⟩
    unfold p_bm; rw [pb_l w1_]
  obtain ⟨rfl, hIx2_, hFx3_, px4_⟩ := px4_
  have hFx5_ : ai_fr (sx_W vw_116) S0_ Sx1_ := ai_fr_tr hF_ (fr_le hFx3_ rfl)
  obtain ⟨r1_, a1_, c1_⟩ := px4_
  have k1_ := p_nd_ok (by decide) hc_.2.2.2.1 a1_
  have st1_ := c1_.2.2.2.2.2.1
  have kd1_ := c1_.2.2.2.2.2.2.2.1
  have hp1_ := c1_.2.2.2.1
  have b1_ := br_fr hb_ hFx3_ rfl rfl rfl rfl rfl rfl rfl rfl rfl rfl
  have hM1_ := b1_.1
  have hM2_ := b1_.2.1
  have hMn_ : (Sx1_.1 7 0 3).toNat = M_ := by omega
  have dn_ : M_ ≠ 16 → ∀ x_ : Int, nmp b_ n_ r1_ → x_ = (16 * r1_ + lx_sz b_ n_ r1_ : Nat) → ct b_ n_ r1_ (sm_aI (sm_aI Sx1_ 75 0 (Sx1_.1 7 0 3).toNat x_) 77 0 (Sx1_.1 7 0 3).toNat 0) ∧ dr b_ n_ (a_bm A_ M_) (n_up N_ M_ r1_) M_ c_ (sm_aI (sm_aI Sx1_ 75 0 (Sx1_.1 7 0 3).toNat x_) 77 0 (Sx1_.1 7 0 3).toNat 0) ∧ nc b_ n_ (n_up N_ M_ r1_) M_ (sm_aI (sm_aI Sx1_ 75 0 (Sx1_.1 7 0 3).toNat x_) 77 0 (Sx1_.1 7 0 3).toNat 0) := fun h1_ x_ h2_ h3_ => bm_st b1_ c1_ h1_ h2_ h3_ hMn_
  have bx6_ : (-128) ≤ Sx1_.1 10 0 2 ∧ Sx1_.1 10 0 2 ≤ 257 := hIx2_.1 10 0 2 rfl
  refine sm_T_go 4 (c1 := (16, [some (.inr (.inr (some (7, 0)))), none], [.inl 1, .inl (Sx1_.1 10 0 2)], Sx1_)) rfl ?_
  refine sm_T_br (a := 0) (z := 18) rfl (fun cx7_ => ?_) (fun cx7_ => ?_)
  · have cx7_ : (Sx1_.1 10 0 2) = 1 := of_decide_eq_true cx7_
    refine sm_T_go 2 (c1 := (38, [some (.inr (.inr (some (7, 0)))), none], [.inr (.inr (some (10, 0)))], Sx1_)) rfl ?_
    refine sm_T_cal (d1 := 0) (Q1 := vq_189 b_ n_ r1_ Sx1_) rfl rfl (by decide) (vc_189 b_ n_ r1_ Sx1_ hIx2_ (by exact c1_) (by omega)) (fun u_ Sx8_ px11_ => ?_)
    obtain ⟨rfl, vx13_, rfl, px11_⟩ := px11_
    have e38_ := px11_
    have kk1_ : lx_kd b_ n_ r1_ = 1 := by omega
    have nm1_ : nmp b_ n_ r1_ := ⟨c1_.2.2.2.1, kk1_⟩
    have nz1_ := nmp_sz nm1_
    refine sm_T_go 3 (c1 := (44, [some (.inr (.inr (some (7, 0)))), some (.inl vx13_)], [.inl vx13_, .inr (.inr (some (7, 0)))], Sx1_)) rfl ?_
    refine sm_T_cal (d1 := 1) (Q1 := vq_118 vx13_ b_ n_ N_ M_ r1_ Sx1_) rfl rfl (by decide) (vc_118 vx13_ b_ n_ N_ M_ r1_ Sx1_ hIx2_ (by exact c1_.1) (by exact hn1_) (by exact b1_.1) (by exact b1_.2.2.2.1) (by exact e38_) (by exact nm1_)) (fun u_ Sx14_ px17_ => ?_)
    obtain ⟨rfl, vx19_, rfl, px17_⟩ := px17_
    have e44_ := px17_
    refine sm_T_go 1 (c1 := (48, [some (.inr (.inr (some (7, 0)))), some (.inl vx13_)], [.inl (-1), .inl vx19_], Sx1_)) rfl ?_
    refine sm_T_br (a := 0) (z := 19) rfl (fun cx20_ => ?_) (fun cx20_ => ?_)
    · have cx20_ : vx19_ = (-1) := of_decide_eq_true cx20_
      have bx21_ : 0 ≤ Sx1_.1 7 0 3 ∧ Sx1_.1 7 0 3 ≤ 16 := hIx2_.1 7 0 3 rfl
      refine sm_T_go 3 (c1 := (73, [some (.inr (.inr (some (7, 0)))), some (.inl vx13_)], [.inl 16, .inl (Sx1_.1 7 0 3)], Sx1_)) rfl ?_
      refine sm_T_br (a := 1) (z := 19) rfl (fun cx22_ => ?_) (fun cx22_ => ?_)
      · have cx22_ : (Sx1_.1 7 0 3) ≠ 16 := of_decide_eq_true cx22_
        refine sm_T_go 5 (c1 := (101, [some (.inr (.inr (some (7, 0)))), some (.inl vx13_)], [.inl vx13_, .inl (Sx1_.1 7 0 3), .inr (.inr (some (75, 0)))], Sx1_)) rfl ?_
        refine sm_T_iast (n := 16) rfl rfl (by omega) (by omega) ?_
        have hIx23_ : gi (sm_aI Sx1_ 75 0 (Sx1_.1 7 0 3).toNat vx13_) := gi_aI hIx2_ (show 0 ≤ vx13_ ∧ vx13_ ≤ 65535 from ⟨by omega, by omega⟩)
        have hFx24_ : ai_fr (sx_W vw_116) S0_ (sm_aI Sx1_ 75 0 (Sx1_.1 7 0 3).toNat vx13_) := ai_fr_tr hFx5_ (ai_fr_aI rfl)
        refine sm_T_go 5 (c1 := (111, [some (.inr (.inr (some (7, 0)))), some (.inl vx13_)], [.inl 0, .inl (Sx1_.1 7 0 3), .inr (.inr (some (77, 0)))], sm_aI Sx1_ 75 0 (Sx1_.1 7 0 3).toNat vx13_)) rfl ?_
        refine sm_T_iast (n := 17) rfl rfl (by omega) (by omega) ?_
        have hIx25_ : gi (sm_aI (sm_aI Sx1_ 75 0 (Sx1_.1 7 0 3).toNat vx13_) 77 0 (Sx1_.1 7 0 3).toNat 0) := gi_aI hIx23_ (show 0 ≤ 0 ∧ 0 ≤ 40 from ⟨by omega, by omega⟩)
        have hFx26_ : ai_fr (sx_W vw_116) S0_ (sm_aI (sm_aI Sx1_ 75 0 (Sx1_.1 7 0 3).toNat vx13_) 77 0 (Sx1_.1 7 0 3).toNat 0) := ai_fr_tr hFx24_ (ai_fr_aI rfl)
        refine sm_T_go 2 (c1 := (116, [some (.inr (.inr (some (7, 0)))), some (.inl vx13_)], [.inr (.inr (some (10, 0)))], sm_aI (sm_aI Sx1_ 75 0 (Sx1_.1 7 0 3).toNat vx13_) 77 0 (Sx1_.1 7 0 3).toNat 0)) rfl ?_
        refine sm_T_calx (d1 := 1) (Q1 := vq_191 b_ n_ (lx_en b_ n_ r1_) (sm_aI (sm_aI Sx1_ 75 0 (Sx1_.1 7 0 3).toNat vx13_) 77 0 (Sx1_.1 7 0 3).toNat 0)) (Q2 := vx_191 b_ n_ (lx_en b_ n_ r1_) (sm_aI (sm_aI Sx1_ 75 0 (Sx1_.1 7 0 3).toNat vx13_) 77 0 (Sx1_.1 7 0 3).toNat 0)) rfl rfl (by decide) (vc_191 b_ n_ (lx_en b_ n_ r1_) (sm_aI (sm_aI Sx1_ 75 0 (Sx1_.1 7 0 3).toNat vx13_) 77 0 (Sx1_.1 7 0 3).toNat 0) hIx25_ (by exact (dn_ (by omega) _ nm1_ e38_).1.1) (by exact (dn_ (by omega) _ nm1_ e38_).1.2.1) (by exact hn1_) (by exact (dn_ (by omega) _ nm1_ e38_).1.2.2.2.2.2.2.1) (by exact (lx_en_le (b := b_) c1_.2.2.2.1).2)) rfl (fun Sx27_ px30_ => ?_) (fun u_ Sx27_ px30_ => ?_)
        · obtain ⟨hIx28_, hFx29_, px30_⟩ := px30_
          refine Or.inr ⟨_, rfl, hIx28_, ai_fr_tr hFx26_ (fr_le hFx29_ rfl), ?_⟩
          refine ⟨(1, (lx_nx b_ n_ r1_)), ?_, px30_.2⟩
          unfold p_bm; rw [pb_r a1_, if_pos kk1_, if_pos (show p_fm b_ n_ N_ M_ r1_ = -1 by omega), if_neg (show ¬ M_ = 16 by omega), pb_l (p_ad_x px30_.1)]
        obtain ⟨rfl, hIx28_, hFx29_, px30_⟩ := px30_
        have hFx31_ : ai_fr (sx_W vw_116) S0_ Sx27_ := ai_fr_tr hFx26_ (fr_le hFx29_ rfl)
        have dn2_ := dn_ (by omega) _ nm1_ e38_
        have c2_ : ct b_ n_ (lx_nx b_ n_ r1_) _ := px30_
        have a2_ := p_ad_c px30_
        have k2_ := p_ad_ok c1_.2.2.2.1 (by omega) a2_
        have d2_ := dr_fr dn2_.2.1 hFx29_ rfl rfl rfl rfl rfl rfl rfl rfl rfl rfl
        have n2_ := nc_fr dn2_.2.2 hFx29_ rfl
        refine sm_T_go 3 (c1 := (125, [some (.inr (.inr (some (7, 0)))), some (.inl vx13_)], [.inl 123, .inr (.inr (some (10, 0)))], Sx27_)) rfl ?_
        refine sm_T_calx (d1 := 2) (Q1 := vq_188 123 b_ n_ (lx_nx b_ n_ r1_) Sx27_) (Q2 := vx_188 123 b_ n_ (lx_nx b_ n_ r1_) Sx27_) rfl rfl (by decide) (vc_188 123 b_ n_ (lx_nx b_ n_ r1_) Sx27_ hIx28_ (by exact c2_)) rfl (fun Sx32_ px35_ => ?_) (fun u_ Sx32_ px35_ => ?_)
        · obtain ⟨hIx33_, hFx34_, px35_⟩ := px35_
          refine Or.inr ⟨_, rfl, hIx33_, ai_fr_tr hFx31_ (fr_le hFx34_ rfl), ?_⟩
          obtain ⟨e_, w1_, w2_⟩ := px35_
          refine ⟨e_, ?_, w2_⟩
          unfold p_bm; rw [pb_r a1_, if_pos kk1_, if_pos (show p_fm b_ n_ N_ M_ r1_ = -1 by omega), if_neg (show ¬ M_ = 16 by omega), pb_r a2_, pb_l w1_]
        obtain ⟨rfl, hIx33_, hFx34_, px35_⟩ := px35_
        have hFx36_ : ai_fr (sx_W vw_116) S0_ Sx32_ := ai_fr_tr hFx31_ (fr_le hFx34_ rfl)
        obtain ⟨r3_, a3_, c3_⟩ := px35_
        have k3_ := p_nd_ok (by decide) c2_.2.2.2.1 a3_
        have d3_ := dr_fr d2_ hFx34_ rfl rfl rfl rfl rfl rfl rfl rfl rfl rfl
        have st3_ := c3_.2.2.2.2.2.1
        have kd3_ := c3_.2.2.2.2.2.2.2.1
        have hp3_ := c3_.2.2.2.1
        have n3_ := nc_fr n2_ hFx34_ rfl
        refine sm_T_rv rfl (Or.inl ⟨_, _, rfl, rfl, hIx33_, hFx36_, ?_⟩)
        exact ⟨_, by unfold p_bm; rw [pb_r a1_, if_pos kk1_, if_pos (show p_fm b_ n_ N_ M_ r1_ = -1 by omega), if_neg (show ¬ M_ = 16 by omega), pb_r a2_, pb_r a3_], c3_, d3_, n3_, by show p_ < r3_; omega⟩
      · have cx22_ : ¬ ((Sx1_.1 7 0 3) ≠ 16) := of_decide_eq_false cx22_
        have bx37_ : 0 ≤ Sx1_.1 10 0 3 ∧ Sx1_.1 10 0 3 ≤ 1280 := hIx2_.1 10 0 3 rfl
        refine sm_T_go 6 (c1 := (89, [some (.inr (.inr (some (7, 0)))), some (.inl vx13_)], [.inl (Sx1_.1 10 0 3), .inl 15, .inr (.inr (some (10, 0)))], Sx1_)) rfl ?_
        refine sm_T_calx (d1 := 0) (Q1 := vq_187 15 (Sx1_.1 10 0 3) Sx1_) (Q2 := vx_187 15 (Sx1_.1 10 0 3) Sx1_) rfl rfl (by decide) (vc_187 15 (Sx1_.1 10 0 3) Sx1_ hIx2_ (by decide) (by omega)) rfl (fun Sx38_ px41_ => ?_) (fun u_ Sx38_ px41_ => ?_)
        · obtain ⟨hIx39_, hFx40_, px41_⟩ := px41_
          refine Or.inr ⟨_, rfl, hIx39_, ai_fr_tr hFx5_ (fr_le hFx40_ rfl), ?_⟩
          refine ⟨(15, r1_), ?_, px41_.1, px41_.2.trans st1_⟩
          unfold p_bm; rw [pb_r a1_, if_pos kk1_, if_pos (by omega), if_pos (by omega)]
        · exact (px41_.2.2.2).elim
    · have cx20_ : ¬ (vx19_ = (-1)) := of_decide_eq_false cx20_
      have bx43_ : 0 ≤ Sx1_.1 10 0 3 ∧ Sx1_.1 10 0 3 ≤ 1280 := hIx2_.1 10 0 3 rfl
      refine sm_T_go 6 (c1 := (64, [some (.inr (.inr (some (7, 0)))), some (.inl vx13_)], [.inl (Sx1_.1 10 0 3), .inl 10, .inr (.inr (some (10, 0)))], Sx1_)) rfl ?_
      refine sm_T_calx (d1 := 0) (Q1 := vq_187 10 (Sx1_.1 10 0 3) Sx1_) (Q2 := vx_187 10 (Sx1_.1 10 0 3) Sx1_) rfl rfl (by decide) (vc_187 10 (Sx1_.1 10 0 3) Sx1_ hIx2_ (by decide) (by omega)) rfl (fun Sx44_ px47_ => ?_) (fun u_ Sx44_ px47_ => ?_)
      · obtain ⟨hIx45_, hFx46_, px47_⟩ := px47_
        refine Or.inr ⟨_, rfl, hIx45_, ai_fr_tr hFx5_ (fr_le hFx46_ rfl), ?_⟩
        refine ⟨(10, r1_), ?_, px47_.1, px47_.2.trans st1_⟩
        unfold p_bm; rw [pb_r a1_, if_pos kk1_, if_neg (by omega)]
      · exact (px47_.2.2.2).elim
  · have cx7_ : ¬ ((Sx1_.1 10 0 2) = 1) := of_decide_eq_false cx7_
    have bx49_ : 0 ≤ Sx1_.1 10 0 3 ∧ Sx1_.1 10 0 3 ≤ 1280 := hIx2_.1 10 0 3 rfl
    refine sm_T_go 6 (c1 := (31, [some (.inr (.inr (some (7, 0)))), none], [.inl (Sx1_.1 10 0 3), .inl 2, .inr (.inr (some (10, 0)))], Sx1_)) rfl ?_
    refine sm_T_calx (d1 := 0) (Q1 := vq_187 2 (Sx1_.1 10 0 3) Sx1_) (Q2 := vx_187 2 (Sx1_.1 10 0 3) Sx1_) rfl rfl (by decide) (vc_187 2 (Sx1_.1 10 0 3) Sx1_ hIx2_ (by decide) (by omega)) rfl (fun Sx50_ px53_ => ?_) (fun u_ Sx50_ px53_ => ?_)
    · obtain ⟨hIx51_, hFx52_, px53_⟩ := px53_
      refine Or.inr ⟨_, rfl, hIx51_, ai_fr_tr hFx5_ (fr_le hFx52_ rfl), ?_⟩
      refine ⟨(2, r1_), ?_, px53_.1, px53_.2.trans st1_⟩
      unfold p_bm; rw [pb_r a1_, if_neg (by omega)]
    · exact (px53_.2.2.2).elim
end
/-! 99.xfa -/
section
/-! the class reader: modules ended; written by wip/p55/gen/vg -/

/-! the_ design -/
theorem ai_fr_pR {S_ : sm_S} {W_ : ai_W} {t_ i_ k_ : Nat} {y_ : Option Nat} (h_ : W_.2.2 t_ k_ = true) : ai_fr W_ S_ (sm_pR S_ t_ i_ k_ y_) := ⟨fun _ _ _ _ => rfl, fun t'_ i'_ k'_ q_ => sm_up_ne (fun g_ => by obtain ⟨rfl, rfl, rfl⟩ := g_; rw [h_] at q_; cases q_), fun _ _ _ _ => ⟨rfl, rfl⟩⟩
theorem en_st {b_ : Nat → Int} {n_ M_ i_ q_ : Nat} {A_ : pA} {N_ : Nat → Nat} {c_ : List Int} {S_ : sm_S} {x_ z_ : Int} (hd_ : dr b_ n_ A_ N_ M_ c_ S_) (hn_ : nc b_ n_ N_ M_ S_) (hc_ : ct b_ n_ q_ S_) (hx_ : x_ = (M_ : Int) + 1) : ct b_ n_ q_ (sm_aI (sm_pI S_ 7 0 3 x_) 76 0 i_ z_) ∧ br b_ n_ A_ N_ (M_ + 1) c_ (sm_aI (sm_pI S_ 7 0 3 x_) 76 0 i_ z_) := by
  have f_ : ai_fr (sx_W ([(7, 3)], [76], [])) S_ (sm_aI (sm_pI S_ 7 0 3 x_) 76 0 i_ z_) := ai_fr_tr (ai_fr_pI rfl) (ai_fr_aI rfl)
  have hM_ := hd_.1.2.1.1
  refine ⟨ct_fr hc_ f_ rfl rfl rfl rfl rfl rfl rfl, ?_, by omega, fun m_ hm_ => ⟨a_ok_le hd_.1.2.1 (by omega), ?_⟩, ⟨by omega, fun m_ hm_ => ?_⟩, cr_fr hd_.2.2 f_ rfl rfl rfl⟩
  · show (sm_pI S_ 7 0 3 x_).1 7 0 3 = ((M_ + 1 : Nat) : Int)
    rw [rf_eq, hx_]
    push_cast
    rfl
  · have y_ := hd_.1.2.2 m_ (by omega)
    unfold er1 at y_ ⊢
    rw [fr_arr (t := 77) f_ rfl, fr_arr (t := 78) f_ rfl, fr_arr (t := 79) f_ rfl, fr_arr (t := 80) f_ rfl, fr_arr (t := 81) f_ rfl]
    exact y_
  · rw [fr_arr (t := 75) f_ rfl]
    by_cases e_ : m_ = M_
    · rw [e_]; exact hn_
    · exact hd_.2.1.2 m_ (by omega)
def p_it (b_ : Nat → Int) (n_ : Nat) (A_ : pA) (N_ : Nat → Nat) (M_ : Nat) (c_ : List Int) (p_ : Nat) : Option (pE pT) := if lx_kd b_ n_ p_ = 4 then some (p_in b_ n_ A_ M_ c_ p_) else if lx_kd b_ n_ p_ = 5 then some (p_va b_ n_ A_ M_ 1 c_ p_) else if lx_kd b_ n_ p_ = 6 then some (p_va b_ n_ A_ M_ 2 c_ p_) else if lx_kd b_ n_ p_ = 7 then some (p_re b_ n_ A_ M_ c_ p_) else if lx_kd b_ n_ p_ = 8 then some (p_us b_ n_ A_ N_ M_ c_ p_) else if lx_kd b_ n_ p_ = 1 then some (p_ne b_ n_ A_ M_ c_ p_) else none
abbrev pD : Type := pA × (Nat → Nat) × Nat × (Nat → Nat) × List Int
def p_dl (b_ : Nat → Int) (n_ : Nat) : Nat → pA → (Nat → Nat) → Nat → (Nat → Nat) → List Int → Nat → pE pD
  | 0, _, _, _, _, _, _ => .inl (0, 0)
  | f_ + 1, A_, N_, M_, mc_, c_, p_ => match p_it b_ n_ A_ N_ M_ c_ p_ with
    | some x_ => pb x_ fun r_ => p_dl b_ n_ f_ r_.1 N_ M_ mc_ r_.2.1 r_.2.2
    | none => pb (p_en b_ n_ A_ N_ M_ p_) fun y_ => match y_ with
      | none => .inr (A_, N_, M_ + 1, n_up mc_ (M_ + 1) c_.length, c_)
      | some x_ => p_dl b_ n_ f_ x_.1 x_.2.1 (M_ + 1) (n_up mc_ (M_ + 1) c_.length) c_ x_.2.2
def p_de (b_ : Nat → Int) (n_ : Nat) : pE pD := if lx_kd b_ n_ (lx_k b_ n_ 0) = -1 then .inl (1, lx_k b_ n_ 0) else pb (p_bm b_ n_ (fun _ => 0, fun _ => 0, fun _ => 0, fun _ => 0, fun _ => 0) (fun _ => 0) 0 (lx_k b_ n_ 0)) fun x_ => p_dl b_ n_ (n_ + 1) x_.1 x_.2.1 0 (fun _ => 0) [] x_.2.2
theorem dl_i {b_ : Nat → Int} {n_ f_ M_ p_ : Nat} {A_ : pA} {N_ mc_ : Nat → Nat} {c_ : List Int} {x_ : pE pT} (h_ : p_it b_ n_ A_ N_ M_ c_ p_ = some x_) : p_dl b_ n_ (f_ + 1) A_ N_ M_ mc_ c_ p_ = pb x_ fun r_ => p_dl b_ n_ f_ r_.1 N_ M_ mc_ r_.2.1 r_.2.2 := by
  rw [p_dl, h_]
theorem dl_n {b_ : Nat → Int} {n_ f_ M_ p_ : Nat} {A_ : pA} {N_ mc_ : Nat → Nat} {c_ : List Int} (h_ : p_it b_ n_ A_ N_ M_ c_ p_ = none) : p_dl b_ n_ (f_ + 1) A_ N_ M_ mc_ c_ p_ = pb (p_en b_ n_ A_ N_ M_ p_) fun y_ => match y_ with
      | none => .inr (A_, N_, M_ + 1, n_up mc_ (M_ + 1) c_.length, c_)
      | some x_ => p_dl b_ n_ f_ x_.1 x_.2.1 (M_ + 1) (n_up mc_ (M_ + 1) c_.length) c_ x_.2.2 := by
  rw [p_dl, h_]
/-! Reader.endModule -/
def vw_117 : sx_Wl := ([(7, 3), (10, 2), (10, 3), (10, 4), (10, 5), (10, 6), (10, 7), (10, 8)], [75, 76, 77], [])
def vq_117 (b_ : Nat → Int) (n_ : Nat) (A_ : pA) (N_ : Nat → Nat) (M_ : Nat) (c_ : List Int) (p_ : Nat) (S0_ : sm_S) (u_ : Option sm_V) (S1_ : sm_S) : Prop := ∃ v_ : Int, u_ = some (.inl v_) ∧ gi S1_ ∧ ai_fr (sx_W vw_117) S0_ S1_ ∧ (∃ y_, p_en b_ n_ A_ N_ M_ p_ = .inr y_ ∧ (S1_.2.2.1 76 0 (M_ + 1)) = (c_.length : Int) ∧ (∀ m_ : Nat, m_ ≤ M_ → (S1_.2.2.1 76 0 (m_)) = (S0_.2.2.1 76 0 (m_))) ∧ ((v_ = 0 ∧ y_ = none ∧ br b_ n_ A_ N_ (M_ + 1) c_ S1_) ∨ (v_ = 1 ∧ ∃ x_, y_ = some x_ ∧ ct b_ n_ x_.2.2 S1_ ∧ dr b_ n_ x_.1 x_.2.1 (M_ + 1) c_ S1_ ∧ nc b_ n_ x_.2.1 (M_ + 1) S1_ ∧ p_ < x_.2.2)))
def vx_117 (b_ : Nat → Int) (n_ : Nat) (A_ : pA) (N_ : Nat → Nat) (M_ : Nat) (c_ : List Int) (p_ : Nat) (S0_ : sm_S) (S1_ : sm_S) : Prop := gi S1_ ∧ ai_fr (sx_W vw_117) S0_ S1_ ∧ (∃ e_, p_en b_ n_ A_ N_ M_ p_ = .inl e_ ∧ ter S1_ e_)
set_option maxHeartbeats 400000 in
theorem vc_117 {sc_ : Nat × (Nat → Int)} (b_ : Nat → Int) (n_ : Nat) (A_ : pA) (N_ : Nat → Nat) (M_ : Nat) (c_ : List Int) (p_ : Nat) (S0_ : sm_S) (hI_ : gi S0_) (hc_ : ct b_ n_ p_ S0_) (hd_ : dr b_ n_ A_ N_ M_ c_ S0_) (hn_ : nc b_ n_ N_ M_ S0_) : sm_T (mt_P sc_) 4 117 (0, [some (.inr (.inr (some (7, 0))))], [], S0_) (fun r_ => (∃ u_ S1_, r_ = (.inl u_, S1_, 0) ∧ vq_117 b_ n_ A_ N_ M_ c_ p_ S0_ u_ S1_) ∨ ∃ S1_, r_ = (.inr 2, S1_, 1) ∧ vx_117 b_ n_ A_ N_ M_ c_ p_ S0_ S1_) := by
  have hF_ : ai_fr (sx_W vw_117) S0_ S0_ := ai_fr_rf
  have st0_ := hc_.2.2.2.2.2.1
  have kd0_ := hc_.2.2.2.2.2.2.2.1
  have hp0_ := hc_.2.2.2.1
  have hn1_ := hc_.2.2.1
  refine sm_T_go 3 (c1 := (6, [some (.inr (.inr (some (7, 0))))], [.inl 125, .inr (.inr (some (10, 0)))], S0_)) rfl ?_
  refine sm_T_calx (d1 := 2) (Q1 := vq_188 125 b_ n_ p_ S0_) (Q2 := vx_188 125 b_ n_ p_ S0_) rfl rfl (by decide) (vc_188 125 b_ n_ p_ S0_ hI_ (by exact hc_)) rfl (fun Sx1_ px4_ => ?_) (fun u_ Sx1_ px4_ => ?_)
  · obtain ⟨hIx2_, hFx3_, px4_⟩ := px4_
    refine Or.inr ⟨_, rfl, hIx2_, ai_fr_tr hF_ (fr_le hFx3_ rfl), ?_⟩
    obtain ⟨e_, w1_, w2_⟩ := px4_
    refine ⟨e_, ?_, w2_⟩
    unfold p_en; rw [pb_l w1_]
  obtain ⟨rfl, hIx2_, hFx3_, px4_⟩ := px4_
  have hFx5_ : ai_fr (sx_W vw_117) S0_ Sx1_ := ai_fr_tr hF_ (fr_le hFx3_ rfl)
  obtain ⟨r1_, a1_, c1_⟩ := px4_
  have k1_ := p_nd_ok (by decide) hc_.2.2.2.1 a1_
  have d1_ := dr_fr hd_ hFx3_ rfl rfl rfl rfl rfl rfl rfl rfl rfl rfl
  have st1_ := c1_.2.2.2.2.2.1
  have kd1_ := c1_.2.2.2.2.2.2.2.1
  have hp1_ := c1_.2.2.2.1
  have n1_ := nc_fr hn_ hFx3_ rfl
  have hM9_ := d1_.1.1
  have hM8_ := d1_.1.2.1.1
  have mc9_ : Sx1_.2.2.1 76 0 = S0_.2.2.1 76 0 := fr_arr hFx3_ rfl
  have cz9_ : Sx1_.1 7 0 2 = (c_.length : Int) := d1_.2.2.2.1
  have bx6_ : 0 ≤ Sx1_.1 7 0 3 ∧ Sx1_.1 7 0 3 ≤ 16 := hIx2_.1 7 0 3 rfl
  refine sm_T_go 4 (c1 := (15, [some (.inr (.inr (some (7, 0))))], [.inl 1, .inl (Sx1_.1 7 0 3), .inr (.inr (some (7, 0)))], Sx1_)) rfl ?_
  refine sm_T_bin (w := (Sx1_.1 7 0 3) + 1) rfl (bi_add (by omega) (by omega) (by omega)) ?_
  have hIx7_ : gi (sm_pI Sx1_ 7 0 3 ((Sx1_.1 7 0 3) + 1)) := gi_pI hIx2_ (show 0 ≤ (Sx1_.1 7 0 3) + 1 ∧ (Sx1_.1 7 0 3) + 1 ≤ 16 from ⟨by omega, by omega⟩)
  have hFx8_ : ai_fr (sx_W vw_117) S0_ (sm_pI Sx1_ 7 0 3 ((Sx1_.1 7 0 3) + 1)) := ai_fr_tr hFx5_ (ai_fr_pI rfl)
  have bx9_ : 0 ≤ Sx1_.1 7 0 2 ∧ Sx1_.1 7 0 2 ≤ 65536 := hIx2_.1 7 0 2 rfl
  refine sm_T_go 7 (c1 := (31, [some (.inr (.inr (some (7, 0))))], [.inl (Sx1_.1 7 0 2), .inl ((Sx1_.1 7 0 3) + 1), .inr (.inr (some (76, 0)))], sm_pI Sx1_ 7 0 3 ((Sx1_.1 7 0 3) + 1))) rfl ?_
  refine sm_T_iast (n := 17) rfl rfl (by omega) (by omega) ?_
  have hIx10_ : gi (sm_aI (sm_pI Sx1_ 7 0 3 ((Sx1_.1 7 0 3) + 1)) 76 0 ((Sx1_.1 7 0 3) + 1).toNat (Sx1_.1 7 0 2)) := gi_aI hIx7_ (show 0 ≤ (Sx1_.1 7 0 2) ∧ (Sx1_.1 7 0 2) ≤ 65536 from ⟨by omega, by omega⟩)
  have hFx11_ : ai_fr (sx_W vw_117) S0_ (sm_aI (sm_pI Sx1_ 7 0 3 ((Sx1_.1 7 0 3) + 1)) 76 0 ((Sx1_.1 7 0 3) + 1).toNat (Sx1_.1 7 0 2)) := ai_fr_tr hFx8_ (ai_fr_aI rfl)
  have bx12_ : (-128) ≤ Sx1_.1 10 0 2 ∧ Sx1_.1 10 0 2 ≤ 257 := hIx2_.1 10 0 2 rfl
  refine sm_T_go 3 (c1 := (39, [some (.inr (.inr (some (7, 0))))], [.inl (Sx1_.1 10 0 2)], sm_aI (sm_pI Sx1_ 7 0 3 ((Sx1_.1 7 0 3) + 1)) 76 0 ((Sx1_.1 7 0 3) + 1).toNat (Sx1_.1 7 0 2))) rfl ?_
  refine sm_T_b0 (a := 1) (z := 5) rfl (fun cx13_ => ?_) (fun cx13_ => ?_)
  · have cx13_ : (Sx1_.1 10 0 2) ≠ 0 := of_decide_eq_true cx13_
    refine sm_T_go 1 (c1 := (45, [some (.inr (.inr (some (7, 0))))], [.inr (.inr (some (7, 0)))], sm_aI (sm_pI Sx1_ 7 0 3 ((Sx1_.1 7 0 3) + 1)) 76 0 ((Sx1_.1 7 0 3) + 1).toNat (Sx1_.1 7 0 2))) rfl ?_
    refine sm_T_calx (d1 := 3) (Q1 := vq_116 b_ n_ A_ N_ (M_ + 1) c_ r1_ (sm_aI (sm_pI Sx1_ 7 0 3 ((Sx1_.1 7 0 3) + 1)) 76 0 ((Sx1_.1 7 0 3) + 1).toNat (Sx1_.1 7 0 2))) (Q2 := vx_116 b_ n_ A_ N_ (M_ + 1) c_ r1_ (sm_aI (sm_pI Sx1_ 7 0 3 ((Sx1_.1 7 0 3) + 1)) 76 0 ((Sx1_.1 7 0 3) + 1).toNat (Sx1_.1 7 0 2))) rfl rfl (by decide) (vc_116 b_ n_ A_ N_ (M_ + 1) c_ r1_ (sm_aI (sm_pI Sx1_ 7 0 3 ((Sx1_.1 7 0 3) + 1)) 76 0 ((Sx1_.1 7 0 3) + 1).toNat (Sx1_.1 7 0 2)) hIx10_ (by exact (en_st d1_ n1_ c1_ (show _ = (M_ : Int) + 1 by rw [← hM9_])).1) (by exact (en_st d1_ n1_ c1_ (show _ = (M_ : Int) + 1 by rw [← hM9_])).2)) rfl (fun Sx14_ px17_ => ?_) (fun u_ Sx14_ px17_ => ?_)
    · obtain ⟨hIx15_, hFx16_, px17_⟩ := px17_
      refine Or.inr ⟨_, rfl, hIx15_, ai_fr_tr hFx11_ (fr_le hFx16_ rfl), ?_⟩
      obtain ⟨e_, w1_, w2_⟩ := px17_
      refine ⟨e_, ?_, w2_⟩
      unfold p_en; rw [pb_r a1_, if_neg (by omega), pb_l w1_]
    obtain ⟨rfl, hIx15_, hFx16_, px17_⟩ := px17_
    have hFx18_ : ai_fr (sx_W vw_117) S0_ Sx14_ := ai_fr_tr hFx11_ (fr_le hFx16_ rfl)
    obtain ⟨x4_, a4_, c4_, d4_, n4_, lt4_⟩ := px17_
    have m4_ := fr_arr (t := 76) (i := 0) hFx16_ rfl
    refine sm_T_go 1 (c1 := (49, [some (.inr (.inr (some (7, 0))))], [.inl 1], Sx14_)) rfl ?_
    refine sm_T_rz rfl (by omega) (Or.inl ⟨_, _, rfl, _, rfl, hIx15_, hFx18_, ?_⟩)
    refine ⟨some x4_, by unfold p_en; rw [pb_r a1_, if_neg (by omega), pb_r a4_], ?_, fun m_ hm_ => ?_, Or.inr ⟨rfl, x4_, rfl, c4_, d4_, n4_, by omega⟩⟩
    · rw [m4_]; (try simp only [rd_eq, rd_ne, rf_eq, rf_nk, rf_nt, rd_fa, rd_af, rd_fl, rd_al, rd_lf, rd_la, rd_leq, rd_lne, rd_fr, rd_ar, ne_eq, Nat.reduceEqDiff, not_false_eq_true]); rw [if_pos (by omega)]; exact cz9_
    · rw [m4_]; (try simp only [rd_eq, rd_ne, rf_eq, rf_nk, rf_nt, rd_fa, rd_af, rd_fl, rd_al, rd_lf, rd_la, rd_leq, rd_lne, rd_fr, rd_ar, ne_eq, Nat.reduceEqDiff, not_false_eq_true]); rw [if_neg (by omega), mc9_]
  · have cx13_ : ¬ ((Sx1_.1 10 0 2) ≠ 0) := of_decide_eq_false cx13_
    refine sm_T_go 1 (c1 := (43, [some (.inr (.inr (some (7, 0))))], [.inl 0], sm_aI (sm_pI Sx1_ 7 0 3 ((Sx1_.1 7 0 3) + 1)) 76 0 ((Sx1_.1 7 0 3) + 1).toNat (Sx1_.1 7 0 2))) rfl ?_
    refine sm_T_rz rfl (by omega) (Or.inl ⟨_, _, rfl, _, rfl, hIx10_, hFx11_, ?_⟩)
    refine ⟨none, by unfold p_en; rw [pb_r a1_, if_pos (by omega)], ?_, fun m_ hm_ => ?_, Or.inl ⟨rfl, rfl, (en_st d1_ n1_ c1_ (show _ = (M_ : Int) + 1 by rw [← hM9_])).2⟩⟩
    · (try simp only [rd_eq, rd_ne, rf_eq, rf_nk, rf_nt, rd_fa, rd_af, rd_fl, rd_al, rd_lf, rd_la, rd_leq, rd_lne, rd_fr, rd_ar, ne_eq, Nat.reduceEqDiff, not_false_eq_true]); rw [if_pos (by omega)]; exact cz9_
    · (try simp only [rd_eq, rd_ne, rf_eq, rf_nk, rf_nt, rd_fa, rd_af, rd_fl, rd_al, rd_lf, rd_la, rd_leq, rd_lne, rd_fr, rd_ar, ne_eq, Nat.reduceEqDiff, not_false_eq_true]); rw [if_neg (by omega), mc9_]
end
/-! 99.xga -/
section
/-! the class reader: designs; written by wip/p55/gen/vg -/
/-! Reader.readDesign -/
def vw_115 : sx_Wl := ([(7, 2), (7, 3), (7, 14), (7, 16), (7, 17), (10, 2), (10, 3), (10, 4), (10, 5), (10, 6), (10, 7), (10, 8)], [74, 75, 76, 77, 78, 79, 80, 81, 82, 83, 84], [(7, 11)])
def vq_115 (b_ : Nat → Int) (n_ : Nat) (S0_ : sm_S) (u_ : Option sm_V) (S1_ : sm_S) : Prop := u_ = none ∧ gi S1_ ∧ ai_fr (sx_W vw_115) S0_ S1_ ∧ (∃ r_, p_de b_ n_ = .inr r_ ∧ br b_ n_ r_.1 r_.2.1 r_.2.2.1 r_.2.2.2.2 S1_ ∧ (∀ k_ : Nat, k_ ≤ r_.2.2.1 → (S1_.2.2.1 76 0 (k_)) = (r_.2.2.2.1 k_ : Int)) ∧ 1 ≤ r_.2.2.1)
def vx_115 (b_ : Nat → Int) (n_ : Nat) (S0_ : sm_S) (S1_ : sm_S) : Prop := gi S1_ ∧ ai_fr (sx_W vw_115) S0_ S1_ ∧ (∃ e_, p_de b_ n_ = .inl e_ ∧ ter S1_ e_)
set_option maxHeartbeats 400000 in
theorem vl_115 {sc_ : Nat × (Nat → Int)} (b_ : Nat → Int) (n_ : Nat) (S0_ : sm_S) (hb_ : S0_.2.2.1 98 0 = b_) (hn_ : (S0_.1 10 0 1) = (n_ : Int)) (hn1_ : n_ ≤ 1280) : ∀ nn_ : Nat, (∀ (m_ : Int) (i_ : Int) (S_ : sm_S), gi S_ → ai_fr (sx_W vw_115) S0_ S_ → ((0 ≤ i_ ∧ i_ ≤ 65536) ∧ ((m_ = 1 ∧ ∃ (f1_ : Nat) (A_ : pA) (N_ : Nat → Nat) (M_ : Nat) (mc_ : Nat → Nat) (c_ : List Int) (p_ : Nat), ct b_ n_ p_ S_ ∧ dr b_ n_ A_ N_ M_ c_ S_ ∧ nc b_ n_ N_ M_ S_ ∧ (∀ k_ : Nat, k_ ≤ M_ → S_.2.2.1 76 0 k_ = (mc_ k_ : Int)) ∧ c_.length ≤ 3 * p_ ∧ n_ < p_ + f1_ ∧ i_ ≤ (p_ : Int) ∧ p_de b_ n_ = p_dl b_ n_ f1_ A_ N_ M_ mc_ c_ p_) ∨ (m_ = 0 ∧ ∃ r_, p_de b_ n_ = .inr r_ ∧ br b_ n_ r_.1 r_.2.1 r_.2.2.1 r_.2.2.2.2 S_ ∧ (∀ k_ : Nat, k_ ≤ r_.2.2.1 → S_.2.2.1 76 0 k_ = (r_.2.2.2.1 k_ : Int)) ∧ 1 ≤ r_.2.2.1)) ∧ True) → ((1300 - (S_.1 10 0 3) + 1300 * m_).toNat) < nn_ → sm_T (mt_P sc_) 7 115 (37, [some (.inr (.inr (some (7, 0)))), some (.inl m_), some (.inl i_)], [], S_) (fun r_ => (∃ u_ S1_, r_ = (.inl u_, S1_, 0) ∧ vq_115 b_ n_ S0_ u_ S1_) ∨ ∃ S1_, r_ = (.inr 2, S1_, 1) ∧ vx_115 b_ n_ S0_ S1_)) := by
  intro nn_
  induction nn_ with
  | zero => exact fun _ _ _ _ _ _ h_ => absurd h_ (Nat.not_lt_zero _)
  | succ nn_ ih_ =>
    rintro m_ i_ S_ hI_ hF_ ⟨h0_, h1_, -⟩ hm_
    have cst_ : 0 ≤ S_.1 10 0 3 ∧ S_.1 10 0 3 ≤ 1280 := hI_.1 10 0 3 rfl
    refine sm_T_go 1 (c1 := (38, [some (.inr (.inr (some (7, 0)))), some (.inl m_), some (.inl i_)], [.inl i_], S_)) rfl ?_
    refine sm_T_nt (u := some (.inl 65536)) (S1 := S_) rfl rfl rfl ?_
    refine sm_T_br (a := 3) (z := 115) rfl (fun cx1_ => ?_) (fun cx1_ => ?_)
    · have cx1_ : 65536 ≤ i_ := of_decide_eq_true cx1_
      refine sm_T_rv rfl (Or.inl ⟨_, _, rfl, rfl, hI_, hF_, ?_⟩)
      rcases h1_ with ⟨z1_, f1_, A_, N_, M_, mc_, c_, p_, y1_, y2_, y3_, y4_, y5_, y6_, y7_, y8_⟩ | z_
      · exfalso
        have := y1_.2.2.2.1
        omega
      · exact z_.2
    · have cx1_ : ¬ (65536 ≤ i_) := of_decide_eq_false cx1_
      refine sm_T_go 1 (c1 := (44, [some (.inr (.inr (some (7, 0)))), some (.inl m_), some (.inl i_)], [.inl m_], S_)) rfl ?_
      refine sm_T_b0 (a := 0) (z := 111) rfl (fun cx2_ => ?_) (fun cx2_ => ?_)
      · have cx2_ : m_ = 0 := of_decide_eq_true cx2_
        refine sm_T_rv rfl (Or.inl ⟨_, _, rfl, rfl, hI_, hF_, ?_⟩)
        rcases h1_ with ⟨z1_, f1_, A_, N_, M_, mc_, c_, p_, y1_, y2_, y3_, y4_, y5_, y6_, y7_, y8_⟩ | z_
        · exfalso
          have := y1_.2.2.2.1
          omega
        · exact z_.2
      · have cx2_ : ¬ (m_ = 0) := of_decide_eq_false cx2_
        obtain ⟨f1_, A_, N_, M_, mc_, c_, p_, y1_, y2_, y3_, y4_, y5_, y6_, y7_, y8_⟩ : ∃ (f1_ : Nat) (A_ : pA) (N_ : Nat → Nat) (M_ : Nat) (mc_ : Nat → Nat) (c_ : List Int) (p_ : Nat), ct b_ n_ p_ S_ ∧ dr b_ n_ A_ N_ M_ c_ S_ ∧ nc b_ n_ N_ M_ S_ ∧ (∀ k_ : Nat, k_ ≤ M_ → S_.2.2.1 76 0 k_ = (mc_ k_ : Int)) ∧ c_.length ≤ 3 * p_ ∧ n_ < p_ + f1_ ∧ i_ ≤ (p_ : Int) ∧ p_de b_ n_ = p_dl b_ n_ f1_ A_ N_ M_ mc_ c_ p_ := by rcases h1_ with z_ | z_; (exact z_.2); (exact absurd z_.1 (by clear z_; omega))
        have mo1_ : m_ = 1 := by rcases h1_ with z_ | z_; (exact z_.1); (exact absurd z_.1 (by clear z_; omega))
        clear h1_
        obtain ⟨f1_, rfl⟩ : ∃ f_, f1_ = f_ + 1 := ⟨f1_ - 1, by have := y1_.2.2.2.1; omega⟩
        have st3_ := y1_.2.2.2.2.2.1
        have kd3_ := y1_.2.2.2.2.2.2.2.1
        have hp3_ := y1_.2.2.2.1
        have bx3_ : (-128) ≤ S_.1 10 0 2 ∧ S_.1 10 0 2 ≤ 257 := hI_.1 10 0 2 rfl
        refine sm_T_go 3 (c1 := (54, [some (.inr (.inr (some (7, 0)))), some (.inl m_), some (.inl i_)], [.inl (S_.1 10 0 2)], S_)) rfl ?_
        by_cases cx4_ : (S_.1 10 0 2) = 1
        · refine sm_T_sw (t := 137) rfl rfl (by rw [cx4_]; rfl) ?_
          refine sm_T_go 1 (c1 := (138, [some (.inr (.inr (some (7, 0)))), some (.inl m_), some (.inl i_)], [.inr (.inr (some (7, 0)))], S_)) rfl ?_
          refine sm_T_calx (d1 := 5) (Q1 := vq_127 b_ n_ A_ N_ M_ c_ p_ S_) (Q2 := vx_127 b_ n_ A_ N_ M_ c_ p_ S_) rfl rfl (by decide) (vc_127 b_ n_ A_ N_ M_ c_ p_ S_ hI_ (by exact y1_) (by exact y2_) (by exact y5_) (by omega) (by omega)) rfl (fun Sx5_ px8_ => ?_) (fun u_ Sx5_ px8_ => ?_)
          · obtain ⟨hIx6_, hFx7_, px8_⟩ := px8_
            refine Or.inr ⟨_, rfl, hIx6_, ai_fr_tr hF_ (fr_le hFx7_ rfl), ?_⟩
            obtain ⟨e_, w1_, w2_⟩ := px8_
            have it9_ : p_it b_ n_ A_ N_ M_ c_ p_ = some (p_ne b_ n_ A_ M_ c_ p_) := by unfold p_it; rw [show lx_kd b_ n_ p_ = 1 by omega]; rfl
            exact ⟨e_, by rw [y8_, dl_i it9_, pb_l w1_], w2_⟩
          obtain ⟨rfl, hIx6_, hFx7_, px8_⟩ := px8_
          have hFx9_ : ai_fr (sx_W vw_115) S0_ Sx5_ := ai_fr_tr hF_ (fr_le hFx7_ rfl)
          obtain ⟨r9_, a9_, c9_, d9_, l9_, lt9_⟩ := px8_
          have it9_ : p_it b_ n_ A_ N_ M_ c_ p_ = some (p_ne b_ n_ A_ M_ c_ p_) := by unfold p_it; rw [show lx_kd b_ n_ p_ = 1 by omega]; rfl
          have n9_ := nc_fr y3_ hFx7_ rfl
          have m9_ := fr_arr (t := 76) (i := 0) hFx7_ rfl
          have st9_ := c9_.2.2.2.2.2.1
          have hp9_ := c9_.2.2.2.1
          refine sm_T_go 1 (c1 := (149, [some (.inr (.inr (some (7, 0)))), some (.inl m_), some (.inl i_)], [], Sx5_)) rfl ?_
          refine sm_T_inc (a := 2) (z := 1) (v := i_) (w := i_ + 1) rfl rfl (by omega) (by omega) (by omega) ?_
          refine sm_T_go 1 (c1 := (37, [some (.inr (.inr (some (7, 0)))), some (.inl m_), some (.inl (i_ + 1))], [], Sx5_)) rfl ?_
          refine ih_ m_ (i_ + 1) Sx5_ hIx6_ hFx9_ ⟨?_, ?_, trivial⟩ ?_
          · omega
          · first | (left; exact ⟨mo1_, f1_, r9_.1, N_, M_, mc_, r9_.2.1, r9_.2.2, c9_, d9_, n9_, fun k_ hk_ => (by rw [m9_]; exact y4_ k_ hk_), l9_, by omega, by omega, by rw [y8_, dl_i it9_, pb_r a9_]⟩) | (obtain ⟨z1_, z2_, z3_⟩ | ⟨z1_, x9_, z2_, c9_, d9_, n9_, lt9_⟩ := alt_; (right; exact ⟨z1_, (A_, N_, M_ + 1, n_up mc_ (M_ + 1) c_.length, c_), by rw [y8_, dl_n it9_, pb_r a9_, z2_], z3_, hmc_, by show 1 ≤ M_ + 1; omega⟩); (left; exact ⟨z1_, f1_, x9_.1, x9_.2.1, M_ + 1, n_up mc_ (M_ + 1) c_.length, c_, x9_.2.2, c9_, d9_, n9_, hmc_, by omega, by omega, by omega, by rw [y8_, dl_n it9_, pb_r a9_, z2_]⟩))
          · first | omega | (obtain ⟨z1_, z2_, z3_⟩ | ⟨z1_, x9_, z2_, c9_, d9_, n9_, lt9_⟩ := alt_; omega; (have st9_ := c9_.2.2.2.2.2.1; omega))
        by_cases cx10_ : (S_.1 10 0 2) = 4
        · refine sm_T_sw (t := 100) rfl rfl (by rw [cx10_]; rfl) ?_
          refine sm_T_go 1 (c1 := (101, [some (.inr (.inr (some (7, 0)))), some (.inl m_), some (.inl i_)], [.inr (.inr (some (7, 0)))], S_)) rfl ?_
          refine sm_T_calx (d1 := 3) (Q1 := vq_124 b_ n_ A_ N_ M_ c_ p_ S_) (Q2 := vx_124 b_ n_ A_ N_ M_ c_ p_ S_) rfl rfl (by decide) (vc_124 b_ n_ A_ N_ M_ c_ p_ S_ hI_ (by exact y1_) (by exact y2_) (by exact y5_) (by omega)) rfl (fun Sx11_ px14_ => ?_) (fun u_ Sx11_ px14_ => ?_)
          · obtain ⟨hIx12_, hFx13_, px14_⟩ := px14_
            refine Or.inr ⟨_, rfl, hIx12_, ai_fr_tr hF_ (fr_le hFx13_ rfl), ?_⟩
            obtain ⟨e_, w1_, w2_⟩ := px14_
            have it9_ : p_it b_ n_ A_ N_ M_ c_ p_ = some (p_in b_ n_ A_ M_ c_ p_) := by unfold p_it; rw [show lx_kd b_ n_ p_ = 4 by omega]; rfl
            exact ⟨e_, by rw [y8_, dl_i it9_, pb_l w1_], w2_⟩
          obtain ⟨rfl, hIx12_, hFx13_, px14_⟩ := px14_
          have hFx15_ : ai_fr (sx_W vw_115) S0_ Sx11_ := ai_fr_tr hF_ (fr_le hFx13_ rfl)
          obtain ⟨r9_, a9_, c9_, d9_, l9_, lt9_⟩ := px14_
          have it9_ : p_it b_ n_ A_ N_ M_ c_ p_ = some (p_in b_ n_ A_ M_ c_ p_) := by unfold p_it; rw [show lx_kd b_ n_ p_ = 4 by omega]; rfl
          have n9_ := nc_fr y3_ hFx13_ rfl
          have m9_ := fr_arr (t := 76) (i := 0) hFx13_ rfl
          have st9_ := c9_.2.2.2.2.2.1
          have hp9_ := c9_.2.2.2.1
          refine sm_T_go 1 (c1 := (149, [some (.inr (.inr (some (7, 0)))), some (.inl m_), some (.inl i_)], [], Sx11_)) rfl ?_
          refine sm_T_inc (a := 2) (z := 1) (v := i_) (w := i_ + 1) rfl rfl (by omega) (by omega) (by omega) ?_
          refine sm_T_go 1 (c1 := (37, [some (.inr (.inr (some (7, 0)))), some (.inl m_), some (.inl (i_ + 1))], [], Sx11_)) rfl ?_
          refine ih_ m_ (i_ + 1) Sx11_ hIx12_ hFx15_ ⟨?_, ?_, trivial⟩ ?_
          · omega
          · first | (left; exact ⟨mo1_, f1_, r9_.1, N_, M_, mc_, r9_.2.1, r9_.2.2, c9_, d9_, n9_, fun k_ hk_ => (by rw [m9_]; exact y4_ k_ hk_), l9_, by omega, by omega, by rw [y8_, dl_i it9_, pb_r a9_]⟩) | (obtain ⟨z1_, z2_, z3_⟩ | ⟨z1_, x9_, z2_, c9_, d9_, n9_, lt9_⟩ := alt_; (right; exact ⟨z1_, (A_, N_, M_ + 1, n_up mc_ (M_ + 1) c_.length, c_), by rw [y8_, dl_n it9_, pb_r a9_, z2_], z3_, hmc_, by show 1 ≤ M_ + 1; omega⟩); (left; exact ⟨z1_, f1_, x9_.1, x9_.2.1, M_ + 1, n_up mc_ (M_ + 1) c_.length, c_, x9_.2.2, c9_, d9_, n9_, hmc_, by omega, by omega, by omega, by rw [y8_, dl_n it9_, pb_r a9_, z2_]⟩))
          · first | omega | (obtain ⟨z1_, z2_, z3_⟩ | ⟨z1_, x9_, z2_, c9_, d9_, n9_, lt9_⟩ := alt_; omega; (have st9_ := c9_.2.2.2.2.2.1; omega))
        by_cases cx16_ : (S_.1 10 0 2) = 5
        · refine sm_T_sw (t := 107) rfl rfl (by rw [cx16_]; rfl) ?_
          refine sm_T_go 2 (c1 := (109, [some (.inr (.inr (some (7, 0)))), some (.inl m_), some (.inl i_)], [.inl 1, .inr (.inr (some (7, 0)))], S_)) rfl ?_
          refine sm_T_calx (d1 := 5) (Q1 := vq_125 1 b_ n_ A_ N_ M_ c_ p_ S_) (Q2 := vx_125 1 b_ n_ A_ N_ M_ c_ p_ S_) rfl rfl (by decide) (vc_125 1 b_ n_ A_ N_ M_ c_ p_ S_ hI_ (by exact y1_) (by exact y2_) (by exact y5_) (by omega) (by decide)) rfl (fun Sx17_ px20_ => ?_) (fun u_ Sx17_ px20_ => ?_)
          · obtain ⟨hIx18_, hFx19_, px20_⟩ := px20_
            refine Or.inr ⟨_, rfl, hIx18_, ai_fr_tr hF_ (fr_le hFx19_ rfl), ?_⟩
            obtain ⟨e_, w1_, w2_⟩ := px20_
            have it9_ : p_it b_ n_ A_ N_ M_ c_ p_ = some (p_va b_ n_ A_ M_ 1 c_ p_) := by unfold p_it; rw [show lx_kd b_ n_ p_ = 5 by omega]; rfl
            exact ⟨e_, by rw [y8_, dl_i it9_, pb_l w1_], w2_⟩
          obtain ⟨rfl, hIx18_, hFx19_, px20_⟩ := px20_
          have hFx21_ : ai_fr (sx_W vw_115) S0_ Sx17_ := ai_fr_tr hF_ (fr_le hFx19_ rfl)
          obtain ⟨r9_, a9_, c9_, d9_, l9_, lt9_⟩ := px20_
          have it9_ : p_it b_ n_ A_ N_ M_ c_ p_ = some (p_va b_ n_ A_ M_ 1 c_ p_) := by unfold p_it; rw [show lx_kd b_ n_ p_ = 5 by omega]; rfl
          have n9_ := nc_fr y3_ hFx19_ rfl
          have m9_ := fr_arr (t := 76) (i := 0) hFx19_ rfl
          have st9_ := c9_.2.2.2.2.2.1
          have hp9_ := c9_.2.2.2.1
          refine sm_T_go 1 (c1 := (149, [some (.inr (.inr (some (7, 0)))), some (.inl m_), some (.inl i_)], [], Sx17_)) rfl ?_
          refine sm_T_inc (a := 2) (z := 1) (v := i_) (w := i_ + 1) rfl rfl (by omega) (by omega) (by omega) ?_
          refine sm_T_go 1 (c1 := (37, [some (.inr (.inr (some (7, 0)))), some (.inl m_), some (.inl (i_ + 1))], [], Sx17_)) rfl ?_
          refine ih_ m_ (i_ + 1) Sx17_ hIx18_ hFx21_ ⟨?_, ?_, trivial⟩ ?_
          · omega
          · first | (left; exact ⟨mo1_, f1_, r9_.1, N_, M_, mc_, r9_.2.1, r9_.2.2, c9_, d9_, n9_, fun k_ hk_ => (by rw [m9_]; exact y4_ k_ hk_), l9_, by omega, by omega, by rw [y8_, dl_i it9_, pb_r a9_]⟩) | (obtain ⟨z1_, z2_, z3_⟩ | ⟨z1_, x9_, z2_, c9_, d9_, n9_, lt9_⟩ := alt_; (right; exact ⟨z1_, (A_, N_, M_ + 1, n_up mc_ (M_ + 1) c_.length, c_), by rw [y8_, dl_n it9_, pb_r a9_, z2_], z3_, hmc_, by show 1 ≤ M_ + 1; omega⟩); (left; exact ⟨z1_, f1_, x9_.1, x9_.2.1, M_ + 1, n_up mc_ (M_ + 1) c_.length, c_, x9_.2.2, c9_, d9_, n9_, hmc_, by omega, by omega, by omega, by rw [y8_, dl_n it9_, pb_r a9_, z2_]⟩))
          · first | omega | (obtain ⟨z1_, z2_, z3_⟩ | ⟨z1_, x9_, z2_, c9_, d9_, n9_, lt9_⟩ := alt_; omega; (have st9_ := c9_.2.2.2.2.2.1; omega))
        by_cases cx22_ : (S_.1 10 0 2) = 6
        · refine sm_T_sw (t := 115) rfl rfl (by rw [cx22_]; rfl) ?_
          refine sm_T_go 2 (c1 := (117, [some (.inr (.inr (some (7, 0)))), some (.inl m_), some (.inl i_)], [.inl 2, .inr (.inr (some (7, 0)))], S_)) rfl ?_
          refine sm_T_calx (d1 := 5) (Q1 := vq_125 2 b_ n_ A_ N_ M_ c_ p_ S_) (Q2 := vx_125 2 b_ n_ A_ N_ M_ c_ p_ S_) rfl rfl (by decide) (vc_125 2 b_ n_ A_ N_ M_ c_ p_ S_ hI_ (by exact y1_) (by exact y2_) (by exact y5_) (by omega) (by decide)) rfl (fun Sx23_ px26_ => ?_) (fun u_ Sx23_ px26_ => ?_)
          · obtain ⟨hIx24_, hFx25_, px26_⟩ := px26_
            refine Or.inr ⟨_, rfl, hIx24_, ai_fr_tr hF_ (fr_le hFx25_ rfl), ?_⟩
            obtain ⟨e_, w1_, w2_⟩ := px26_
            have it9_ : p_it b_ n_ A_ N_ M_ c_ p_ = some (p_va b_ n_ A_ M_ 2 c_ p_) := by unfold p_it; rw [show lx_kd b_ n_ p_ = 6 by omega]; rfl
            exact ⟨e_, by rw [y8_, dl_i it9_, pb_l w1_], w2_⟩
          obtain ⟨rfl, hIx24_, hFx25_, px26_⟩ := px26_
          have hFx27_ : ai_fr (sx_W vw_115) S0_ Sx23_ := ai_fr_tr hF_ (fr_le hFx25_ rfl)
          obtain ⟨r9_, a9_, c9_, d9_, l9_, lt9_⟩ := px26_
          have it9_ : p_it b_ n_ A_ N_ M_ c_ p_ = some (p_va b_ n_ A_ M_ 2 c_ p_) := by unfold p_it; rw [show lx_kd b_ n_ p_ = 6 by omega]; rfl
          have n9_ := nc_fr y3_ hFx25_ rfl
          have m9_ := fr_arr (t := 76) (i := 0) hFx25_ rfl
          have st9_ := c9_.2.2.2.2.2.1
          have hp9_ := c9_.2.2.2.1
          refine sm_T_go 1 (c1 := (149, [some (.inr (.inr (some (7, 0)))), some (.inl m_), some (.inl i_)], [], Sx23_)) rfl ?_
          refine sm_T_inc (a := 2) (z := 1) (v := i_) (w := i_ + 1) rfl rfl (by omega) (by omega) (by omega) ?_
          refine sm_T_go 1 (c1 := (37, [some (.inr (.inr (some (7, 0)))), some (.inl m_), some (.inl (i_ + 1))], [], Sx23_)) rfl ?_
          refine ih_ m_ (i_ + 1) Sx23_ hIx24_ hFx27_ ⟨?_, ?_, trivial⟩ ?_
          · omega
          · first | (left; exact ⟨mo1_, f1_, r9_.1, N_, M_, mc_, r9_.2.1, r9_.2.2, c9_, d9_, n9_, fun k_ hk_ => (by rw [m9_]; exact y4_ k_ hk_), l9_, by omega, by omega, by rw [y8_, dl_i it9_, pb_r a9_]⟩) | (obtain ⟨z1_, z2_, z3_⟩ | ⟨z1_, x9_, z2_, c9_, d9_, n9_, lt9_⟩ := alt_; (right; exact ⟨z1_, (A_, N_, M_ + 1, n_up mc_ (M_ + 1) c_.length, c_), by rw [y8_, dl_n it9_, pb_r a9_, z2_], z3_, hmc_, by show 1 ≤ M_ + 1; omega⟩); (left; exact ⟨z1_, f1_, x9_.1, x9_.2.1, M_ + 1, n_up mc_ (M_ + 1) c_.length, c_, x9_.2.2, c9_, d9_, n9_, hmc_, by omega, by omega, by omega, by rw [y8_, dl_n it9_, pb_r a9_, z2_]⟩))
          · first | omega | (obtain ⟨z1_, z2_, z3_⟩ | ⟨z1_, x9_, z2_, c9_, d9_, n9_, lt9_⟩ := alt_; omega; (have st9_ := c9_.2.2.2.2.2.1; omega))
        by_cases cx28_ : (S_.1 10 0 2) = 7
        · refine sm_T_sw (t := 123) rfl rfl (by rw [cx28_]; rfl) ?_
          refine sm_T_go 1 (c1 := (124, [some (.inr (.inr (some (7, 0)))), some (.inl m_), some (.inl i_)], [.inr (.inr (some (7, 0)))], S_)) rfl ?_
          refine sm_T_calx (d1 := 3) (Q1 := vq_126 b_ n_ A_ N_ M_ c_ p_ S_) (Q2 := vx_126 b_ n_ A_ N_ M_ c_ p_ S_) rfl rfl (by decide) (vc_126 b_ n_ A_ N_ M_ c_ p_ S_ hI_ (by exact y1_) (by exact y2_) (by exact y5_) (by omega)) rfl (fun Sx29_ px32_ => ?_) (fun u_ Sx29_ px32_ => ?_)
          · obtain ⟨hIx30_, hFx31_, px32_⟩ := px32_
            refine Or.inr ⟨_, rfl, hIx30_, ai_fr_tr hF_ (fr_le hFx31_ rfl), ?_⟩
            obtain ⟨e_, w1_, w2_⟩ := px32_
            have it9_ : p_it b_ n_ A_ N_ M_ c_ p_ = some (p_re b_ n_ A_ M_ c_ p_) := by unfold p_it; rw [show lx_kd b_ n_ p_ = 7 by omega]; rfl
            exact ⟨e_, by rw [y8_, dl_i it9_, pb_l w1_], w2_⟩
          obtain ⟨rfl, hIx30_, hFx31_, px32_⟩ := px32_
          have hFx33_ : ai_fr (sx_W vw_115) S0_ Sx29_ := ai_fr_tr hF_ (fr_le hFx31_ rfl)
          obtain ⟨r9_, a9_, c9_, d9_, l9_, lt9_⟩ := px32_
          have it9_ : p_it b_ n_ A_ N_ M_ c_ p_ = some (p_re b_ n_ A_ M_ c_ p_) := by unfold p_it; rw [show lx_kd b_ n_ p_ = 7 by omega]; rfl
          have n9_ := nc_fr y3_ hFx31_ rfl
          have m9_ := fr_arr (t := 76) (i := 0) hFx31_ rfl
          have st9_ := c9_.2.2.2.2.2.1
          have hp9_ := c9_.2.2.2.1
          refine sm_T_go 1 (c1 := (149, [some (.inr (.inr (some (7, 0)))), some (.inl m_), some (.inl i_)], [], Sx29_)) rfl ?_
          refine sm_T_inc (a := 2) (z := 1) (v := i_) (w := i_ + 1) rfl rfl (by omega) (by omega) (by omega) ?_
          refine sm_T_go 1 (c1 := (37, [some (.inr (.inr (some (7, 0)))), some (.inl m_), some (.inl (i_ + 1))], [], Sx29_)) rfl ?_
          refine ih_ m_ (i_ + 1) Sx29_ hIx30_ hFx33_ ⟨?_, ?_, trivial⟩ ?_
          · omega
          · first | (left; exact ⟨mo1_, f1_, r9_.1, N_, M_, mc_, r9_.2.1, r9_.2.2, c9_, d9_, n9_, fun k_ hk_ => (by rw [m9_]; exact y4_ k_ hk_), l9_, by omega, by omega, by rw [y8_, dl_i it9_, pb_r a9_]⟩) | (obtain ⟨z1_, z2_, z3_⟩ | ⟨z1_, x9_, z2_, c9_, d9_, n9_, lt9_⟩ := alt_; (right; exact ⟨z1_, (A_, N_, M_ + 1, n_up mc_ (M_ + 1) c_.length, c_), by rw [y8_, dl_n it9_, pb_r a9_, z2_], z3_, hmc_, by show 1 ≤ M_ + 1; omega⟩); (left; exact ⟨z1_, f1_, x9_.1, x9_.2.1, M_ + 1, n_up mc_ (M_ + 1) c_.length, c_, x9_.2.2, c9_, d9_, n9_, hmc_, by omega, by omega, by omega, by rw [y8_, dl_n it9_, pb_r a9_, z2_]⟩))
          · first | omega | (obtain ⟨z1_, z2_, z3_⟩ | ⟨z1_, x9_, z2_, c9_, d9_, n9_, lt9_⟩ := alt_; omega; (have st9_ := c9_.2.2.2.2.2.1; omega))
        by_cases cx34_ : (S_.1 10 0 2) = 8
        · refine sm_T_sw (t := 130) rfl rfl (by rw [cx34_]; rfl) ?_
          refine sm_T_go 1 (c1 := (131, [some (.inr (.inr (some (7, 0)))), some (.inl m_), some (.inl i_)], [.inr (.inr (some (7, 0)))], S_)) rfl ?_
          refine sm_T_calx (d1 := 6) (Q1 := vq_128 b_ n_ A_ N_ M_ c_ p_ S_) (Q2 := vx_128 b_ n_ A_ N_ M_ c_ p_ S_) rfl rfl (by decide) (vc_128 b_ n_ A_ N_ M_ c_ p_ S_ hI_ (by exact y1_) (by exact y2_) (by exact y5_) (by omega)) rfl (fun Sx35_ px38_ => ?_) (fun u_ Sx35_ px38_ => ?_)
          · obtain ⟨hIx36_, hFx37_, px38_⟩ := px38_
            refine Or.inr ⟨_, rfl, hIx36_, ai_fr_tr hF_ (fr_le hFx37_ rfl), ?_⟩
            obtain ⟨e_, w1_, w2_⟩ := px38_
            have it9_ : p_it b_ n_ A_ N_ M_ c_ p_ = some (p_us b_ n_ A_ N_ M_ c_ p_) := by unfold p_it; rw [show lx_kd b_ n_ p_ = 8 by omega]; rfl
            exact ⟨e_, by rw [y8_, dl_i it9_, pb_l w1_], w2_⟩
          obtain ⟨rfl, hIx36_, hFx37_, px38_⟩ := px38_
          have hFx39_ : ai_fr (sx_W vw_115) S0_ Sx35_ := ai_fr_tr hF_ (fr_le hFx37_ rfl)
          obtain ⟨r9_, a9_, c9_, d9_, l9_, lt9_⟩ := px38_
          have it9_ : p_it b_ n_ A_ N_ M_ c_ p_ = some (p_us b_ n_ A_ N_ M_ c_ p_) := by unfold p_it; rw [show lx_kd b_ n_ p_ = 8 by omega]; rfl
          have n9_ := nc_fr y3_ hFx37_ rfl
          have m9_ := fr_arr (t := 76) (i := 0) hFx37_ rfl
          have st9_ := c9_.2.2.2.2.2.1
          have hp9_ := c9_.2.2.2.1
          refine sm_T_go 1 (c1 := (149, [some (.inr (.inr (some (7, 0)))), some (.inl m_), some (.inl i_)], [], Sx35_)) rfl ?_
          refine sm_T_inc (a := 2) (z := 1) (v := i_) (w := i_ + 1) rfl rfl (by omega) (by omega) (by omega) ?_
          refine sm_T_go 1 (c1 := (37, [some (.inr (.inr (some (7, 0)))), some (.inl m_), some (.inl (i_ + 1))], [], Sx35_)) rfl ?_
          refine ih_ m_ (i_ + 1) Sx35_ hIx36_ hFx39_ ⟨?_, ?_, trivial⟩ ?_
          · omega
          · first | (left; exact ⟨mo1_, f1_, r9_.1, N_, M_, mc_, r9_.2.1, r9_.2.2, c9_, d9_, n9_, fun k_ hk_ => (by rw [m9_]; exact y4_ k_ hk_), l9_, by omega, by omega, by rw [y8_, dl_i it9_, pb_r a9_]⟩) | (obtain ⟨z1_, z2_, z3_⟩ | ⟨z1_, x9_, z2_, c9_, d9_, n9_, lt9_⟩ := alt_; (right; exact ⟨z1_, (A_, N_, M_ + 1, n_up mc_ (M_ + 1) c_.length, c_), by rw [y8_, dl_n it9_, pb_r a9_, z2_], z3_, hmc_, by show 1 ≤ M_ + 1; omega⟩); (left; exact ⟨z1_, f1_, x9_.1, x9_.2.1, M_ + 1, n_up mc_ (M_ + 1) c_.length, c_, x9_.2.2, c9_, d9_, n9_, hmc_, by omega, by omega, by omega, by rw [y8_, dl_n it9_, pb_r a9_, z2_]⟩))
          · first | omega | (obtain ⟨z1_, z2_, z3_⟩ | ⟨z1_, x9_, z2_, c9_, d9_, n9_, lt9_⟩ := alt_; omega; (have st9_ := c9_.2.2.2.2.2.1; omega))
        refine sm_T_sw (t := 144) rfl rfl (by (have hh_ : (S_.1 10 0 2) < 1 ∨ 9 ≤ (S_.1 10 0 2) ∨ (S_.1 10 0 2) = 2 ∨ (S_.1 10 0 2) = 3 := by omega); rcases hh_ with hh_ | hh_ | hh_ | hh_; (exact sm_swd (Or.inl hh_)); (exact sm_swd (Or.inr (by simp only [List.length_cons, List.length_nil]; omega))); (rw [hh_]; rfl); (rw [hh_]; rfl)) ?_
        refine sm_T_go 1 (c1 := (145, [some (.inr (.inr (some (7, 0)))), some (.inl m_), some (.inl i_)], [.inr (.inr (some (7, 0)))], S_)) rfl ?_
        refine sm_T_calx (d1 := 4) (Q1 := vq_117 b_ n_ A_ N_ M_ c_ p_ S_) (Q2 := vx_117 b_ n_ A_ N_ M_ c_ p_ S_) rfl rfl (by decide) (vc_117 b_ n_ A_ N_ M_ c_ p_ S_ hI_ (by exact y1_) (by exact y2_) (by exact y3_)) rfl (fun Sx40_ px43_ => ?_) (fun u_ Sx40_ px43_ => ?_)
        · obtain ⟨hIx41_, hFx42_, px43_⟩ := px43_
          refine Or.inr ⟨_, rfl, hIx41_, ai_fr_tr hF_ (fr_le hFx42_ rfl), ?_⟩
          obtain ⟨e_, w1_, w2_⟩ := px43_
          have it9_ : p_it b_ n_ A_ N_ M_ c_ p_ = none := by unfold p_it; rw [if_neg (by omega), if_neg (by omega), if_neg (by omega), if_neg (by omega), if_neg (by omega), if_neg (by omega)]
          exact ⟨e_, by rw [y8_, dl_n it9_, pb_l w1_], w2_⟩
        obtain ⟨vx45_, rfl, hIx41_, hFx42_, px43_⟩ := px43_
        have hFx44_ : ai_fr (sx_W vw_115) S0_ Sx40_ := ai_fr_tr hF_ (fr_le hFx42_ rfl)
        obtain ⟨y9_, a9_, mA_, mB_, alt_⟩ := px43_
        have it9_ : p_it b_ n_ A_ N_ M_ c_ p_ = none := by unfold p_it; rw [if_neg (by omega), if_neg (by omega), if_neg (by omega), if_neg (by omega), if_neg (by omega), if_neg (by omega)]
        have hmc_ : ∀ k_ : Nat, k_ ≤ M_ + 1 → Sx40_.2.2.1 76 0 k_ = (n_up mc_ (M_ + 1) c_.length k_ : Int) := fun k_ hk_ => by unfold n_up; by_cases z_ : k_ = M_ + 1; (rw [if_pos z_, z_]; exact mA_); (rw [if_neg z_, mB_ k_ (by omega)]; exact y4_ k_ (by omega))
        have cst9_ : 0 ≤ Sx40_.1 10 0 3 ∧ Sx40_.1 10 0 3 ≤ 1280 := hIx41_.1 10 0 3 rfl
        refine sm_T_go 1 (c1 := (149, [some (.inr (.inr (some (7, 0)))), some (.inl vx45_), some (.inl i_)], [], Sx40_)) rfl ?_
        refine sm_T_inc (a := 2) (z := 1) (v := i_) (w := i_ + 1) rfl rfl (by omega) (by omega) (by omega) ?_
        refine sm_T_go 1 (c1 := (37, [some (.inr (.inr (some (7, 0)))), some (.inl vx45_), some (.inl (i_ + 1))], [], Sx40_)) rfl ?_
        refine ih_ vx45_ (i_ + 1) Sx40_ hIx41_ hFx44_ ⟨?_, ?_, trivial⟩ ?_
        · omega
        · first | (left; exact ⟨mo1_, f1_, r9_.1, N_, M_, mc_, r9_.2.1, r9_.2.2, c9_, d9_, n9_, fun k_ hk_ => (by rw [m9_]; exact y4_ k_ hk_), l9_, by omega, by omega, by rw [y8_, dl_i it9_, pb_r a9_]⟩) | (obtain ⟨z1_, z2_, z3_⟩ | ⟨z1_, x9_, z2_, c9_, d9_, n9_, lt9_⟩ := alt_; (right; exact ⟨z1_, (A_, N_, M_ + 1, n_up mc_ (M_ + 1) c_.length, c_), by rw [y8_, dl_n it9_, pb_r a9_, z2_], z3_, hmc_, by show 1 ≤ M_ + 1; omega⟩); (left; exact ⟨z1_, f1_, x9_.1, x9_.2.1, M_ + 1, n_up mc_ (M_ + 1) c_.length, c_, x9_.2.2, c9_, d9_, n9_, hmc_, by omega, by omega, by omega, by rw [y8_, dl_n it9_, pb_r a9_, z2_]⟩))
        · first | omega | (obtain ⟨z1_, z2_, z3_⟩ | ⟨z1_, x9_, z2_, c9_, d9_, n9_, lt9_⟩ := alt_; omega; (have st9_ := c9_.2.2.2.2.2.1; omega))
set_option maxHeartbeats 400000 in
theorem vc_115 {sc_ : Nat × (Nat → Int)} (b_ : Nat → Int) (n_ : Nat) (S0_ : sm_S) (hI_ : gi S0_) (hb_ : S0_.2.2.1 98 0 = b_) (hn_ : (S0_.1 10 0 1) = (n_ : Int)) (hn1_ : n_ ≤ 1280) : sm_T (mt_P sc_) 7 115 (0, [some (.inr (.inr (some (7, 0)))), none, none], [], S0_) (fun r_ => (∃ u_ S1_, r_ = (.inl u_, S1_, 0) ∧ vq_115 b_ n_ S0_ u_ S1_) ∨ ∃ S1_, r_ = (.inr 2, S1_, 1) ∧ vx_115 b_ n_ S0_ S1_) := by
  have hF_ : ai_fr (sx_W vw_115) S0_ S0_ := ai_fr_rf
  have hIx1_ : gi (sm_pR S0_ 7 0 11 none) := gi_pR hI_
  have hFx2_ : ai_fr (sx_W vw_115) S0_ (sm_pR S0_ 7 0 11 none) := ai_fr_tr hF_ (ai_fr_pR rfl)
  have hIx3_ : gi (sm_pI (sm_pR S0_ 7 0 11 none) 7 0 3 0) := gi_pI hIx1_ (show 0 ≤ 0 ∧ 0 ≤ 16 from ⟨by omega, by omega⟩)
  have hFx4_ : ai_fr (sx_W vw_115) S0_ (sm_pI (sm_pR S0_ 7 0 11 none) 7 0 3 0) := ai_fr_tr hFx2_ (ai_fr_pI rfl)
  have hIx5_ : gi (sm_pI (sm_pI (sm_pR S0_ 7 0 11 none) 7 0 3 0) 7 0 2 0) := gi_pI hIx3_ (show 0 ≤ 0 ∧ 0 ≤ 65536 from ⟨by omega, by omega⟩)
  have hFx6_ : ai_fr (sx_W vw_115) S0_ (sm_pI (sm_pI (sm_pR S0_ 7 0 11 none) 7 0 3 0) 7 0 2 0) := ai_fr_tr hFx4_ (ai_fr_pI rfl)
  refine sm_T_go 13 (c1 := (21, [some (.inr (.inr (some (7, 0)))), none, none], [.inl 0, .inl 0, .inr (.inr (some (76, 0)))], sm_pI (sm_pI (sm_pR S0_ 7 0 11 none) 7 0 3 0) 7 0 2 0)) rfl ?_
  refine sm_T_iast (n := 17) rfl rfl (by omega) (by omega) ?_
  have hIx7_ : gi (sm_aI (sm_pI (sm_pI (sm_pR S0_ 7 0 11 none) 7 0 3 0) 7 0 2 0) 76 0 (0 : Int).toNat 0) := gi_aI hIx5_ (show 0 ≤ 0 ∧ 0 ≤ 65536 from ⟨by omega, by omega⟩)
  have hFx8_ : ai_fr (sx_W vw_115) S0_ (sm_aI (sm_pI (sm_pI (sm_pR S0_ 7 0 11 none) 7 0 3 0) 7 0 2 0) 76 0 (0 : Int).toNat 0) := ai_fr_tr hFx6_ (ai_fr_aI rfl)
  refine sm_T_go 2 (c1 := (26, [some (.inr (.inr (some (7, 0)))), none, none], [.inr (.inr (some (10, 0)))], sm_aI (sm_pI (sm_pI (sm_pR S0_ 7 0 11 none) 7 0 3 0) 7 0 2 0) 76 0 (0 : Int).toNat 0)) rfl ?_
  refine sm_T_calx (d1 := 2) (Q1 := vq_186 b_ n_ (sm_aI (sm_pI (sm_pI (sm_pR S0_ 7 0 11 none) 7 0 3 0) 7 0 2 0) 76 0 (0 : Int).toNat 0)) (Q2 := vx_186 b_ n_ (sm_aI (sm_pI (sm_pI (sm_pR S0_ 7 0 11 none) 7 0 3 0) 7 0 2 0) 76 0 (0 : Int).toNat 0)) rfl rfl (by decide) (vc_186 b_ n_ (sm_aI (sm_pI (sm_pI (sm_pR S0_ 7 0 11 none) 7 0 3 0) 7 0 2 0) 76 0 (0 : Int).toNat 0) hIx7_ (by exact (fr_arr hFx8_ rfl).trans hb_) (by exact (hFx8_.1 10 0 1 rfl).trans hn_) (by exact hn1_)) rfl (fun Sx9_ px12_ => ?_) (fun u_ Sx9_ px12_ => ?_)
  · obtain ⟨hIx10_, hFx11_, px12_⟩ := px12_
    refine Or.inr ⟨_, rfl, hIx10_, ai_fr_tr hFx8_ (fr_le hFx11_ rfl), ?_⟩
    refine ⟨(1, (lx_k b_ n_ 0)), ?_, px12_.2⟩
    unfold p_de; rw [if_pos px12_.1]
  obtain ⟨rfl, hIx10_, hFx11_, px12_⟩ := px12_
  have hFx13_ : ai_fr (sx_W vw_115) S0_ Sx9_ := ai_fr_tr hFx8_ (fr_le hFx11_ rfl)
  have c1_ := px12_
  have b1_ : br b_ n_ ((fun _ => 0, fun _ => 0, fun _ => 0, fun _ => 0, fun _ => 0) : pA) (fun _ => 0) 0 [] Sx9_ := ⟨hFx11_.1 7 0 3 rfl, Nat.zero_le _, fun m_ hm_ => absurd hm_ (Nat.not_lt_zero _), ⟨Nat.zero_le _, fun m_ hm_ => absurd hm_ (Nat.not_lt_zero _)⟩, hFx11_.2.1 7 0 11 rfl, hFx11_.1 7 0 2 rfl, trivial⟩
  have m1_ : Sx9_.2.2.1 76 0 0 = 0 := by rw [fr_arr (t := 76) hFx11_ rfl]; rfl
  have st1_ := c1_.2.2.2.2.2.1
  have kd1_ := c1_.2.2.2.2.2.2.2.1
  have hp1_ := c1_.2.2.2.1
  refine sm_T_go 1 (c1 := (30, [some (.inr (.inr (some (7, 0)))), none, none], [.inr (.inr (some (7, 0)))], Sx9_)) rfl ?_
  refine sm_T_calx (d1 := 3) (Q1 := vq_116 b_ n_ ((fun _ => 0, fun _ => 0, fun _ => 0, fun _ => 0, fun _ => 0) : pA) (fun _ => 0) 0 [] (lx_k b_ n_ 0) Sx9_) (Q2 := vx_116 b_ n_ ((fun _ => 0, fun _ => 0, fun _ => 0, fun _ => 0, fun _ => 0) : pA) (fun _ => 0) 0 [] (lx_k b_ n_ 0) Sx9_) rfl rfl (by decide) (vc_116 b_ n_ ((fun _ => 0, fun _ => 0, fun _ => 0, fun _ => 0, fun _ => 0) : pA) (fun _ => 0) 0 [] (lx_k b_ n_ 0) Sx9_ hIx10_ (by exact c1_) (by exact b1_)) rfl (fun Sx14_ px17_ => ?_) (fun u_ Sx14_ px17_ => ?_)
  · obtain ⟨hIx15_, hFx16_, px17_⟩ := px17_
    refine Or.inr ⟨_, rfl, hIx15_, ai_fr_tr hFx13_ (fr_le hFx16_ rfl), ?_⟩
    obtain ⟨e_, w1_, w2_⟩ := px17_
    refine ⟨e_, ?_, w2_⟩
    unfold p_de; rw [if_neg c1_.2.2.2.2.1, pb_l w1_]
  obtain ⟨rfl, hIx15_, hFx16_, px17_⟩ := px17_
  have hFx18_ : ai_fr (sx_W vw_115) S0_ Sx14_ := ai_fr_tr hFx13_ (fr_le hFx16_ rfl)
  obtain ⟨x2_, a2_, c2_, d2_, n2_, lt2_⟩ := px17_
  have m2_ : Sx14_.2.2.1 76 0 0 = 0 := by rw [fr_arr (t := 76) hFx16_ rfl]; exact m1_
  have c29_ := c2_.2.2.2.1
  refine sm_T_go 4 (c1 := (37, [some (.inr (.inr (some (7, 0)))), some (.inl 1), some (.inl 0)], [], Sx14_)) rfl ?_
  refine (vl_115 b_ n_ S0_ hb_ hn_ hn1_ _) 1 0 Sx14_ hIx15_ hFx18_ ⟨?_, ?_, trivial⟩ (Nat.lt_succ_self _)
  · omega
  · left
    refine ⟨rfl, n_ + 1, x2_.1, x2_.2.1, 0, fun _ => 0, [], x2_.2.2, c2_, d2_, n2_, fun k_ hk_ => ?_, Nat.zero_le _, by omega, by omega, ?_⟩
    · rw [show k_ = 0 by omega]; exact m2_
    · unfold p_de; rw [if_neg c1_.2.2.2.2.1, pb_r a2_]
end
/-! 99.y0 -/
section
/-! the reference: right or wrong; written by wip/p55/gen/vg -/

/-! the_ reference: tokens in rows, right or wrong -/
def r_st (k_ : Int) : Int := if k_ = 0 then 5 else r_so k_
def r_nb (k_ v_ : Int) : Int := if k_ = 0 then 0 else r_nu k_ v_
def rtab (b_ : Nat → Int) (n_ T_ : Nat) (S_ : sm_S) : Prop := n_ ≤ 1280 ∧ T_ ≤ 1280 ∧ tkt b_ n_ T_ S_ ∧ S_.2.2.1 119 0 T_ = 5 ∧ S_.2.2.1 120 0 T_ = (n_ : Int) ∧ S_.2.2.1 121 0 T_ = 0 ∧ ((lxp b_ n_ T_ = n_ ∧ ∀ i_, i_ < T_ → lx_kd b_ n_ (lxp b_ n_ i_) ≠ -1) ∨ (0 < T_ ∧ lx_kd b_ n_ (lxp b_ n_ (T_ - 1)) = -1)) ∧ (∀ k_, -128 ≤ b_ k_ ∧ b_ k_ ≤ 127)
theorem rtab_fr {w_ : sx_Wl} {S_ S'_ : sm_S} {b_ : Nat → Int} {n_ T_ : Nat} (x_ : rtab b_ n_ T_ S_) (g_ : ai_fr (sx_W w_) S_ S'_) (h0_ : (sx_W w_).2.1 119 = false) (h1_ : (sx_W w_).2.1 120 = false) (h2_ : (sx_W w_).2.1 121 = false) (h3_ : (sx_W w_).2.1 122 = false) (h4_ : (sx_W w_).2.1 123 = false) : rtab b_ n_ T_ S'_ := by
  unfold rtab tkt rrow at x_ ⊢
  rw [fr_arr g_ h0_, fr_arr g_ h1_, fr_arr g_ h2_, fr_arr g_ h4_, fr_arl g_ h3_]
  exact x_
/-- token i_ stands at p_, and it_ is_ right to_ be_ there -/
def rp (b_ : Nat → Int) (n_ T_ i_ p_ : Nat) : Prop := i_ ≤ T_ ∧ p_ = lxp b_ n_ i_ ∧ lx_kd b_ n_ p_ ≠ -1 ∧ (i_ = T_ → lxp b_ n_ T_ = n_)
def rg (b_ : Nat → Int) (n_ T_ : Nat) (x_ : pE Nat) (S_ : sm_S) : Prop := match x_ with
  | .inl e_ => S_.1 13 0 10 = e_.1 ∧ S_.1 13 0 11 = (e_.2 : Int) ∧ e_.1 ≠ 0
  | .inr p_ => S_.1 13 0 10 = 0 ∧ ∃ i_ : Nat, S_.1 13 0 9 = (i_ : Int) ∧ rp b_ n_ T_ i_ p_
theorem rg_fr {w_ : sx_Wl} {S_ S'_ : sm_S} {b_ : Nat → Int} {n_ T_ : Nat} {x_ : pE Nat} (h_ : rg b_ n_ T_ x_ S_) (g_ : ai_fr (sx_W w_) S_ S'_) (h0_ : (sx_W w_).1 13 9 = false) (h1_ : (sx_W w_).1 13 10 = false) (h2_ : (sx_W w_).1 13 11 = false) : rg b_ n_ T_ x_ S'_ := by
  unfold rg at h_ ⊢
  rw [g_.1 13 0 9 h0_, g_.1 13 0 10 h1_, g_.1 13 0 11 h2_]
  exact h_
theorem lx_kd_n {b_ : Nat → Int} {n_ : Nat} : lx_kd b_ n_ n_ = 0 := by
  unfold lx_kd
  exact if_pos (Nat.le_refl _)
theorem lx_kd_0 {b_ : Nat → Int} {n_ p_ : Nat} (hp_ : p_ < n_) : lx_kd b_ n_ p_ ≠ 0 := by
  unfold lx_kd
  rw [if_neg (by omega)]
  have h1_ := lx_wk_7 (lx_pk b_ p_ (lx_ne b_ n_ p_ - p_))
  split
  · split <;> omega
  · split
    · split <;> decide
    · split
      · decide
      · assumption
theorem lx_kd_r {b_ : Nat → Int} {n_ p_ : Nat} (hk_ : lx_kd b_ n_ p_ ≠ -1) : 0 ≤ lx_kd b_ n_ p_ ∧ (lx_kd b_ n_ p_ ≤ 9 ∨ 33 ≤ lx_kd b_ n_ p_) := by
  unfold lx_kd at hk_ ⊢
  have h1_ := lx_wk_7 (lx_pk b_ p_ (lx_ne b_ n_ p_ - p_))
  have h2_ := lx_sk_b (b := b_) (n := n_) (p := p_)
  split
  · omega
  · rename_i g_
    rw [if_neg g_] at hk_
    split
    · rename_i g1_
      rw [if_pos g1_] at hk_
      split
      · omega
      · rename_i g2_
        rw [if_neg g2_] at hk_
        exact absurd rfl hk_
    · rename_i g1_
      rw [if_neg g1_] at hk_
      split
      · rename_i g2_
        rw [if_pos g2_] at hk_
        split
        · omega
        · rename_i g3_
          rw [if_neg g3_] at hk_
          exact absurd rfl hk_
      · rename_i g2_
        rw [if_neg g2_] at hk_
        split
        · rename_i g3_
          rw [if_pos g3_] at hk_
          exact absurd rfl hk_
        · omega
/-- what the_ rows say_ of_ a_ token -/
theorem rp_at {b_ : Nat → Int} {n_ T_ i_ p_ : Nat} {S_ : sm_S} (h_ : rtab b_ n_ T_ S_) (r_ : rp b_ n_ T_ i_ p_) : S_.2.2.1 119 0 i_ = r_st (lx_kd b_ n_ p_) ∧ S_.2.2.1 120 0 i_ = (p_ : Int) ∧ S_.2.2.1 121 0 i_ = r_nb (lx_kd b_ n_ p_) (lx_vl b_ n_ p_) ∧ p_ ≤ n_ ∧ (i_ < T_ ↔ p_ < n_) ∧ (lx_kd b_ n_ p_ = 1 → S_.2.2.2 122 0 i_ = rk1 b_ p_ (lx_sz b_ n_ p_) ∧ S_.2.2.1 123 0 i_ = rk2 b_ p_ (lx_sz b_ n_ p_)) := by
  obtain ⟨h1_, h2_, h3_, h4_, h5_, h6_, h7_, h8_⟩ := h_
  obtain ⟨r1_, r2_, r3_, r4_⟩ := r_
  by_cases e_ : i_ = T_
  · have hp_ : p_ = n_ := by rw [r2_, e_]; exact r4_ e_
    rw [hp_, lx_kd_n, e_]
    refine ⟨h4_, h5_, h6_, Nat.le_refl _, ⟨fun z_ => absurd z_ (Nat.lt_irrefl _), fun z_ => absurd z_ (Nat.lt_irrefl _)⟩, fun z_ => absurd z_ (by decide)⟩
  · obtain ⟨t1_, t2_⟩ := h3_.1 i_ (by omega)
    rw [← r2_] at t1_ t2_
    have hk_ := lx_kd_0 (b_ := b_) t1_
    unfold r_st r_nb
    rw [if_neg hk_, if_neg hk_]
    exact ⟨t2_.2.1, t2_.1, t2_.2.2.1 r3_, by omega, ⟨fun _ => t1_, fun _ => by omega⟩, t2_.2.2.2⟩
/-- the_ next token, right or bad_ -/
theorem rp_nx {b_ : Nat → Int} {n_ T_ i_ p_ : Nat} {S_ : sm_S} (h_ : rtab b_ n_ T_ S_) (r_ : rp b_ n_ T_ i_ p_) (hk_ : lx_kd b_ n_ p_ ≠ 0) : i_ + 1 ≤ T_ ∧ S_.2.2.1 120 0 (i_ + 1) = (lx_nx b_ n_ p_ : Nat) ∧ (S_.2.2.1 119 0 (i_ + 1) = 4 ↔ lx_kd b_ n_ (lx_nx b_ n_ p_) = -1) ∧ (lx_kd b_ n_ (lx_nx b_ n_ p_) ≠ -1 → rp b_ n_ T_ (i_ + 1) (lx_nx b_ n_ p_)) := by
  have ra_ := rp_at h_ r_
  have hlt_ : p_ < n_ := by
    by_cases g_ : p_ < n_
    · exact g_
    · exfalso
      apply hk_
      rw [show p_ = n_ by have := ra_.2.2.2.1; omega]
      exact lx_kd_n
  have hi_ := ra_.2.2.2.2.1.mpr hlt_
  have hl_ : lxp b_ n_ (i_ + 1) = lx_nx b_ n_ p_ := by show lx_nx b_ n_ (lxp b_ n_ i_) = _; rw [← r_.2.1]
  obtain ⟨h1_, h2_, h3_, h4_, h5_, h6_, h7_, h8_⟩ := h_
  by_cases e_ : i_ + 1 = T_
  · have hT_ : lxp b_ n_ T_ = n_ := by
      rcases h7_ with z_ | z_
      · exact z_.1
      · exfalso
        have : T_ - 1 = i_ := by omega
        rw [this, ← r_.2.1] at z_
        exact r_.2.2.1 z_.2
    have hn_ : lx_nx b_ n_ p_ = n_ := by rw [← hl_, e_, hT_]
    rw [hn_, e_, lx_kd_n]
    refine ⟨Nat.le_refl _, h5_, ⟨fun z_ => by rw [h4_] at z_; exact absurd z_ (by decide), fun z_ => absurd z_ (by decide)⟩, fun _ => ⟨Nat.le_refl _, hT_.symm, by rw [lx_kd_n]; decide, fun _ => hT_⟩⟩
  · obtain ⟨t1_, t2_⟩ := h3_.1 (i_ + 1) (by omega)
    rw [hl_] at t1_ t2_
    refine ⟨by omega, t2_.1, ?_, fun z_ => ⟨by omega, hl_.symm, z_, fun q_ => absurd q_ e_⟩⟩
    rw [t2_.2.1]
    unfold r_so
    constructor
    · intro z_
      by_cases g_ : lx_kd b_ n_ (lx_nx b_ n_ p_) = -1
      · exact g_
      · rw [if_neg g_] at z_
        repeat' split at z_
        all_goals omega
    · intro z_
      rw [if_pos z_]
theorem r_st_3 {k_ : Int} (h_ : 0 ≤ k_ ∧ (k_ ≤ 9 ∨ 33 ≤ k_)) : (r_st k_ = 3 ↔ 33 ≤ k_) ∧ (r_st k_ = 1 ↔ k_ = 1) ∧ (r_st k_ = 2 ↔ k_ = 2) ∧ (r_st k_ = 6 ↔ 3 ≤ k_ ∧ k_ ≤ 9) ∧ (r_st k_ = 5 ↔ k_ = 0) ∧ r_st k_ ≠ 4 := by
  unfold r_st r_so
  by_cases g_ : k_ = 0
  · rw [if_pos g_]; omega
  · rw [if_neg g_, if_neg (by omega)]
    by_cases g1_ : k_ = 1
    · rw [if_pos g1_]; omega
    · rw [if_neg g1_]
      by_cases g2_ : k_ = 2
      · rw [if_pos g2_]; omega
      · rw [if_neg g2_]
        by_cases g3_ : k_ ≤ 9
        · rw [if_pos g3_]; omega
        · rw [if_neg g3_]; omega
theorem r_nb_s {k_ v_ : Int} (h_ : 33 ≤ k_) : r_nb k_ v_ = k_ := by
  unfold r_nb r_nu
  rw [if_neg (by omega), if_neg (by omega), if_neg (by omega), if_neg (by omega)]
theorem r_nb_w {k_ v_ : Int} (h_ : 3 ≤ k_ ∧ k_ ≤ 9) : r_nb k_ v_ = k_ - 2 := by
  unfold r_nb r_nu
  rw [if_neg (by omega), if_neg (by omega), if_neg (by omega), if_pos h_.2]
end
/-! 99.y1a -/
section
/-! the reference: tokens taken; written by wip/p55/gen/vg -/

/-! right or wrong -/
theorem rg_r {b_ : Nat → Int} {n_ T_ : Nat} {x_ : pE Nat} {S_ : sm_S} (h_ : rg b_ n_ T_ x_ S_) (h0_ : S_.1 13 0 10 = 0) : ∃ p_ i_ : Nat, x_ = .inr p_ ∧ S_.1 13 0 9 = (i_ : Int) ∧ rp b_ n_ T_ i_ p_ := by
  cases x_ with
  | inl e_ => exact absurd (h_.1.symm.trans h0_) h_.2.2
  | inr p_ => obtain ⟨i_, h1_, h2_⟩ := h_.2; exact ⟨p_, i_, rfl, h1_, h2_⟩
theorem rg_w {b_ : Nat → Int} {n_ T_ : Nat} {x_ : pE Nat} {S_ : sm_S} (h_ : rg b_ n_ T_ x_ S_) (h0_ : S_.1 13 0 10 ≠ 0) : ∃ e_, x_ = .inl e_ := by
  cases x_ with
  | inl e_ => exact ⟨e_, rfl⟩
  | inr p_ => exact absurd h_.1 h0_
theorem rg_e {b_ : Nat → Int} {n_ T_ : Nat} {e_ : Int × Nat} {f_ : Nat → pE Nat} {S_ S'_ : sm_S} (h_ : rg b_ n_ T_ (.inl e_) S_) (h1_ : S'_.1 13 0 10 = S_.1 13 0 10) (h2_ : S'_.1 13 0 11 = S_.1 13 0 11) : rg b_ n_ T_ (pb (.inl e_) f_) S'_ := ⟨h1_.trans h_.1, h2_.trans h_.2.1, h_.2.2⟩
def p_du (b_ : Nat → Int) (n_ : Nat) (s_ : Int) (p_ : Nat) : pE Nat := if lx_kd b_ n_ p_ = s_ then .inr p_ else .inl (2, p_)
/-! M_.isRight -/
def vw_292 : sx_Wl := ([], [], [])
def vq_292  (S0_ : sm_S) (u_ : Option sm_V) (S1_ : sm_S) : Prop := S0_ = S1_ ∧ ∃ v_ : Int, u_ = some (.inl v_) ∧ (v_ = if (S1_.1 13 0 10) = 0 then 1 else 0)
set_option maxHeartbeats 400000 in
theorem vc_292 {sc_ : Nat × (Nat → Int)}  (S0_ : sm_S) (hI_ : gi S0_)  : sm_T (mt_P sc_) 0 292 (0, [some (.inr (.inr (some (13, 0))))], [], S0_) (fun r_ => ∃ u_ S1_, r_ = (.inl u_, S1_, 0) ∧ vq_292  S0_ u_ S1_) := by
  have hF_ : ai_fr (sx_W vw_292) S0_ S0_ := ai_fr_rf
  have bx1_ : 0 ≤ S0_.1 13 0 10 ∧ S0_.1 13 0 10 ≤ 23 := hI_.1 13 0 10 rfl
  refine sm_T_go 2 (c1 := (4, [some (.inr (.inr (some (13, 0))))], [.inl (S0_.1 13 0 10)], S0_)) rfl ?_
  refine sm_T_b0 (a := 1) (z := 7) rfl (fun cx2_ => ?_) (fun cx2_ => ?_)
  · have cx2_ : (S0_.1 13 0 10) ≠ 0 := of_decide_eq_true cx2_
    refine sm_T_go 1 (c1 := (12, [some (.inr (.inr (some (13, 0))))], [.inl 0], S0_)) rfl ?_
    refine sm_T_rz rfl (by omega) ⟨_, _, rfl, rfl, _, rfl, ?_⟩
    first | rw [if_pos (by omega)] | rw [if_neg (by omega)]
  · have cx2_ : ¬ ((S0_.1 13 0 10) ≠ 0) := of_decide_eq_false cx2_
    refine sm_T_go 2 (c1 := (12, [some (.inr (.inr (some (13, 0))))], [.inl 1], S0_)) rfl ?_
    refine sm_T_rz rfl (by omega) ⟨_, _, rfl, rfl, _, rfl, ?_⟩
    first | rw [if_pos (by omega)] | rw [if_neg (by omega)]
end
/-! 99.y1b -/
section
/-! M_.flaw -/
def vw_293 : sx_Wl := ([(13, 10), (13, 11)], [], [])
def vq_293 (f_ : Int) (t_ : Int) (S0_ : sm_S) (u_ : Option sm_V) (S1_ : sm_S) : Prop := u_ = none ∧ gi S1_ ∧ ai_fr (sx_W vw_293) S0_ S1_ ∧ (((S0_.1 13 0 10) ≠ 0 ∧ (S1_.1 13 0 10) = (S0_.1 13 0 10) ∧ (S1_.1 13 0 11) = (S0_.1 13 0 11)) ∨ ((S0_.1 13 0 10) = 0 ∧ (S1_.1 13 0 10) = (if (S0_.2.2.1 119 0 (t_.toNat)) = 4 then 1 else f_) ∧ (S1_.1 13 0 11) = (S0_.2.2.1 120 0 (t_.toNat))))
set_option maxHeartbeats 400000 in
theorem vc_293 {sc_ : Nat × (Nat → Int)} (f_ : Int) (t_ : Int) (S0_ : sm_S) (hI_ : gi S0_) (h1_ : 0 ≤ f_ ∧ f_ ≤ 23) (h2_ : 0 ≤ t_ ∧ t_ ≤ 1280) : sm_T (mt_P sc_) 0 293 (0, [some (.inr (.inr (some (13, 0)))), some (.inl f_), some (.inl t_)], [], S0_) (fun r_ => ∃ u_ S1_, r_ = (.inl u_, S1_, 0) ∧ vq_293 f_ t_ S0_ u_ S1_) := by
  have hF_ : ai_fr (sx_W vw_293) S0_ S0_ := ai_fr_rf
  have bx1_ : 0 ≤ S0_.1 13 0 10 ∧ S0_.1 13 0 10 ≤ 23 := hI_.1 13 0 10 rfl
  refine sm_T_go 2 (c1 := (4, [some (.inr (.inr (some (13, 0)))), some (.inl f_), some (.inl t_)], [.inl (S0_.1 13 0 10)], S0_)) rfl ?_
  refine sm_T_b0 (a := 1) (z := 32) rfl (fun cx2_ => ?_) (fun cx2_ => ?_)
  · have cx2_ : (S0_.1 13 0 10) ≠ 0 := of_decide_eq_true cx2_
    refine sm_T_rv rfl ⟨_, _, rfl, rfl, hI_, hF_, ?_⟩
    first | (left; exact ⟨by omega, rfl, rfl⟩) | (right; refine ⟨by omega, ?_, rfl⟩; first | (rw [if_pos (by omega)]; rfl) | (rw [if_neg (by omega)]; rfl))
  · have cx2_ : ¬ ((S0_.1 13 0 10) ≠ 0) := of_decide_eq_false cx2_
    refine sm_T_go 4 (c1 := (13, [some (.inr (.inr (some (13, 0)))), some (.inl f_), some (.inl t_)], [.inl t_, .inr (.inr (some (119, 0))), .inr (.inr (some (13, 0)))], S0_)) rfl ?_
    refine sm_T_bald (n := 65537) rfl rfl (by omega) (by omega) ?_
    have bx3_ : (-128) ≤ S0_.2.2.1 119 0 t_.toNat ∧ S0_.2.2.1 119 0 t_.toNat ≤ 127 := hI_.2 119 0 _
    refine sm_T_go 1 (c1 := (15, [some (.inr (.inr (some (13, 0)))), some (.inl f_), some (.inl t_)], [.inl 4, .inl (S0_.2.2.1 119 0 t_.toNat), .inr (.inr (some (13, 0)))], S0_)) rfl ?_
    refine sm_T_br (a := 1) (z := 7) rfl (fun cx4_ => ?_) (fun cx4_ => ?_)
    · have cx4_ : (S0_.2.2.1 119 0 t_.toNat) ≠ 4 := of_decide_eq_true cx4_
      have hIx5_ : gi (sm_pI S0_ 13 0 10 f_) := gi_pI hI_ (show 0 ≤ f_ ∧ f_ ≤ 23 from ⟨by omega, by omega⟩)
      have hFx6_ : ai_fr (sx_W vw_293) S0_ (sm_pI S0_ 13 0 10 f_) := ai_fr_tr hF_ (ai_fr_pI rfl)
      refine sm_T_go 6 (c1 := (32, [some (.inr (.inr (some (13, 0)))), some (.inl f_), some (.inl t_)], [.inl t_, .inr (.inr (some (120, 0))), .inr (.inr (some (13, 0)))], sm_pI S0_ 13 0 10 f_)) rfl ?_
      refine sm_T_iald (n := 65537) rfl rfl (by omega) (by omega) ?_
      have bx7_ : 0 ≤ S0_.2.2.1 120 0 t_.toNat ∧ S0_.2.2.1 120 0 t_.toNat ≤ 1280 := hI_.2 120 0 _
      have hIx8_ : gi (sm_pI (sm_pI S0_ 13 0 10 f_) 13 0 11 (S0_.2.2.1 120 0 t_.toNat)) := gi_pI hIx5_ (show 0 ≤ (S0_.2.2.1 120 0 t_.toNat) ∧ (S0_.2.2.1 120 0 t_.toNat) ≤ 4095 from ⟨by omega, by omega⟩)
      have hFx9_ : ai_fr (sx_W vw_293) S0_ (sm_pI (sm_pI S0_ 13 0 10 f_) 13 0 11 (S0_.2.2.1 120 0 t_.toNat)) := ai_fr_tr hFx6_ (ai_fr_pI rfl)
      refine sm_T_go 1 (c1 := (36, [some (.inr (.inr (some (13, 0)))), some (.inl f_), some (.inl t_)], [], sm_pI (sm_pI S0_ 13 0 10 f_) 13 0 11 (S0_.2.2.1 120 0 t_.toNat))) rfl ?_
      refine sm_T_rv rfl ⟨_, _, rfl, rfl, hIx8_, hFx9_, ?_⟩
      first | (left; exact ⟨by omega, rfl, rfl⟩) | (right; refine ⟨by omega, ?_, rfl⟩; first | (rw [if_pos (by omega)]; rfl) | (rw [if_neg (by omega)]; rfl))
    · have cx4_ : ¬ ((S0_.2.2.1 119 0 t_.toNat) ≠ 4) := of_decide_eq_false cx4_
      have hIx10_ : gi (sm_pI S0_ 13 0 10 1) := gi_pI hI_ (show 0 ≤ 1 ∧ 1 ≤ 23 from ⟨by omega, by omega⟩)
      have hFx11_ : ai_fr (sx_W vw_293) S0_ (sm_pI S0_ 13 0 10 1) := ai_fr_tr hF_ (ai_fr_pI rfl)
      refine sm_T_go 7 (c1 := (32, [some (.inr (.inr (some (13, 0)))), some (.inl f_), some (.inl t_)], [.inl t_, .inr (.inr (some (120, 0))), .inr (.inr (some (13, 0)))], sm_pI S0_ 13 0 10 1)) rfl ?_
      refine sm_T_iald (n := 65537) rfl rfl (by omega) (by omega) ?_
      have bx12_ : 0 ≤ S0_.2.2.1 120 0 t_.toNat ∧ S0_.2.2.1 120 0 t_.toNat ≤ 1280 := hI_.2 120 0 _
      have hIx13_ : gi (sm_pI (sm_pI S0_ 13 0 10 1) 13 0 11 (S0_.2.2.1 120 0 t_.toNat)) := gi_pI hIx10_ (show 0 ≤ (S0_.2.2.1 120 0 t_.toNat) ∧ (S0_.2.2.1 120 0 t_.toNat) ≤ 4095 from ⟨by omega, by omega⟩)
      have hFx14_ : ai_fr (sx_W vw_293) S0_ (sm_pI (sm_pI S0_ 13 0 10 1) 13 0 11 (S0_.2.2.1 120 0 t_.toNat)) := ai_fr_tr hFx11_ (ai_fr_pI rfl)
      refine sm_T_go 1 (c1 := (36, [some (.inr (.inr (some (13, 0)))), some (.inl f_), some (.inl t_)], [], sm_pI (sm_pI S0_ 13 0 10 1) 13 0 11 (S0_.2.2.1 120 0 t_.toNat))) rfl ?_
      refine sm_T_rv rfl ⟨_, _, rfl, rfl, hIx13_, hFx14_, ?_⟩
      first | (left; exact ⟨by omega, rfl, rfl⟩) | (right; refine ⟨by omega, ?_, rfl⟩; first | (rw [if_pos (by omega)]; rfl) | (rw [if_neg (by omega)]; rfl))
end
/-! 99.y1c -/
section
/-! M_.flawBefore -/
def vw_294 : sx_Wl := ([(13, 10), (13, 11)], [], [])
def vq_294 (f_ : Int) (t_ : Int) (S0_ : sm_S) (u_ : Option sm_V) (S1_ : sm_S) : Prop := u_ = none ∧ gi S1_ ∧ ai_fr (sx_W vw_294) S0_ S1_ ∧ (((S0_.1 13 0 10) ≠ 0 ∧ (S1_.1 13 0 10) = (S0_.1 13 0 10) ∧ (S1_.1 13 0 11) = (S0_.1 13 0 11)) ∨ ((S0_.1 13 0 10) = 0 ∧ (S1_.1 13 0 10) = f_ ∧ (S1_.1 13 0 11) = (S0_.2.2.1 120 0 (t_.toNat))))
set_option maxHeartbeats 400000 in
theorem vc_294 {sc_ : Nat × (Nat → Int)} (f_ : Int) (t_ : Int) (S0_ : sm_S) (hI_ : gi S0_) (h1_ : 0 ≤ f_ ∧ f_ ≤ 23) (h2_ : 0 ≤ t_ ∧ t_ ≤ 1280) : sm_T (mt_P sc_) 0 294 (0, [some (.inr (.inr (some (13, 0)))), some (.inl f_), some (.inl t_)], [], S0_) (fun r_ => ∃ u_ S1_, r_ = (.inl u_, S1_, 0) ∧ vq_294 f_ t_ S0_ u_ S1_) := by
  have hF_ : ai_fr (sx_W vw_294) S0_ S0_ := ai_fr_rf
  have bx1_ : 0 ≤ S0_.1 13 0 10 ∧ S0_.1 13 0 10 ≤ 23 := hI_.1 13 0 10 rfl
  refine sm_T_go 2 (c1 := (4, [some (.inr (.inr (some (13, 0)))), some (.inl f_), some (.inl t_)], [.inl (S0_.1 13 0 10)], S0_)) rfl ?_
  refine sm_T_b0 (a := 1) (z := 18) rfl (fun cx2_ => ?_) (fun cx2_ => ?_)
  · have cx2_ : (S0_.1 13 0 10) ≠ 0 := of_decide_eq_true cx2_
    refine sm_T_rv rfl ⟨_, _, rfl, rfl, hI_, hF_, ?_⟩
    first | (left; exact ⟨by omega, rfl, rfl⟩) | (right; exact ⟨by omega, rfl, rfl⟩)
  · have cx2_ : ¬ ((S0_.1 13 0 10) ≠ 0) := of_decide_eq_false cx2_
    have hIx3_ : gi (sm_pI S0_ 13 0 10 f_) := gi_pI hI_ (show 0 ≤ f_ ∧ f_ ≤ 23 from ⟨by omega, by omega⟩)
    have hFx4_ : ai_fr (sx_W vw_294) S0_ (sm_pI S0_ 13 0 10 f_) := ai_fr_tr hF_ (ai_fr_pI rfl)
    refine sm_T_go 7 (c1 := (18, [some (.inr (.inr (some (13, 0)))), some (.inl f_), some (.inl t_)], [.inl t_, .inr (.inr (some (120, 0))), .inr (.inr (some (13, 0)))], sm_pI S0_ 13 0 10 f_)) rfl ?_
    refine sm_T_iald (n := 65537) rfl rfl (by omega) (by omega) ?_
    have bx5_ : 0 ≤ S0_.2.2.1 120 0 t_.toNat ∧ S0_.2.2.1 120 0 t_.toNat ≤ 1280 := hI_.2 120 0 _
    have hIx6_ : gi (sm_pI (sm_pI S0_ 13 0 10 f_) 13 0 11 (S0_.2.2.1 120 0 t_.toNat)) := gi_pI hIx3_ (show 0 ≤ (S0_.2.2.1 120 0 t_.toNat) ∧ (S0_.2.2.1 120 0 t_.toNat) ≤ 4095 from ⟨by omega, by omega⟩)
    have hFx7_ : ai_fr (sx_W vw_294) S0_ (sm_pI (sm_pI S0_ 13 0 10 f_) 13 0 11 (S0_.2.2.1 120 0 t_.toNat)) := ai_fr_tr hFx4_ (ai_fr_pI rfl)
    refine sm_T_go 1 (c1 := (22, [some (.inr (.inr (some (13, 0)))), some (.inl f_), some (.inl t_)], [], sm_pI (sm_pI S0_ 13 0 10 f_) 13 0 11 (S0_.2.2.1 120 0 t_.toNat))) rfl ?_
    refine sm_T_rv rfl ⟨_, _, rfl, rfl, hIx6_, hFx7_, ?_⟩
    first | (left; exact ⟨by omega, rfl, rfl⟩) | (right; exact ⟨by omega, rfl, rfl⟩)
end
/-! 99.y1d -/
section
/-! M_.isAt -/
def vw_295 : sx_Wl := ([], [], [])
def vq_295 (s_ : Int) (b_ : Nat → Int) (n_ : Nat) (T_ : Nat) (x_ : pE Nat) (S0_ : sm_S) (u_ : Option sm_V) (S1_ : sm_S) : Prop := S0_ = S1_ ∧ ∃ v_ : Int, u_ = some (.inl v_) ∧ (((v_ = 0 ∨ v_ = 1) ∧ (v_ = 1 → (S1_.2.2.1 119 0 (((S1_.1 13 0 9)).toNat)) = 3)) ∧ ∀ p_ : Nat, x_ = .inr p_ → (v_ = 1 ↔ lx_kd b_ n_ p_ = s_))
set_option maxHeartbeats 400000 in
theorem vc_295 {sc_ : Nat × (Nat → Int)} (s_ : Int) (b_ : Nat → Int) (n_ : Nat) (T_ : Nat) (x_ : pE Nat) (S0_ : sm_S) (hI_ : gi S0_) (ht_ : rtab b_ n_ T_ S0_) (hx_ : rg b_ n_ T_ x_ S0_) (hs_ : 33 ≤ s_) : sm_T (mt_P sc_) 0 295 (0, [some (.inr (.inr (some (13, 0)))), some (.inl s_)], [], S0_) (fun r_ => ∃ u_ S1_, r_ = (.inl u_, S1_, 0) ∧ vq_295 s_ b_ n_ T_ x_ S0_ u_ S1_) := by
  have hF_ : ai_fr (sx_W vw_295) S0_ S0_ := ai_fr_rf
  have hat_ : ∀ p_ : Nat, x_ = .inr p_ → S0_.2.2.1 119 0 (S0_.1 13 0 9).toNat = r_st (lx_kd b_ n_ p_) ∧ S0_.2.2.1 121 0 (S0_.1 13 0 9).toNat = r_nb (lx_kd b_ n_ p_) (lx_vl b_ n_ p_) ∧ (0 ≤ lx_kd b_ n_ p_ ∧ (lx_kd b_ n_ p_ ≤ 9 ∨ 33 ≤ lx_kd b_ n_ p_)) := by intro p_ e_; rw [e_] at hx_; obtain ⟨i_, h1_, h2_⟩ := hx_.2; have h3_ := rp_at ht_ h2_; rw [show (S0_.1 13 0 9).toNat = i_ by omega]; exact ⟨h3_.1, h3_.2.2.1, lx_kd_r h2_.2.2.1⟩
  have bx1_ : 0 ≤ S0_.1 13 0 9 ∧ S0_.1 13 0 9 ≤ 1280 := hI_.1 13 0 9 rfl
  refine sm_T_go 4 (c1 := (8, [some (.inr (.inr (some (13, 0)))), some (.inl s_)], [.inl (S0_.1 13 0 9), .inr (.inr (some (119, 0)))], S0_)) rfl ?_
  refine sm_T_bald (n := 65537) rfl rfl (by omega) (by omega) ?_
  have bx2_ : (-128) ≤ S0_.2.2.1 119 0 (S0_.1 13 0 9).toNat ∧ S0_.2.2.1 119 0 (S0_.1 13 0 9).toNat ≤ 127 := hI_.2 119 0 _
  refine sm_T_go 1 (c1 := (10, [some (.inr (.inr (some (13, 0)))), some (.inl s_)], [.inl 3, .inl (S0_.2.2.1 119 0 (S0_.1 13 0 9).toNat)], S0_)) rfl ?_
  refine sm_T_br (a := 1) (z := 20) rfl (fun cx3_ => ?_) (fun cx3_ => ?_)
  · have cx3_ : (S0_.2.2.1 119 0 (S0_.1 13 0 9).toNat) ≠ 3 := of_decide_eq_true cx3_
    refine sm_T_go 1 (c1 := (31, [some (.inr (.inr (some (13, 0)))), some (.inl s_)], [.inl 0], S0_)) rfl ?_
    refine sm_T_rz rfl (by omega) ⟨_, _, rfl, rfl, _, rfl, ?_⟩
    refine ⟨⟨by omega, by omega⟩, fun p_ e_ => ?_⟩
    obtain ⟨q1_, q2_, q3_⟩ := hat_ p_ e_
    have q4_ := (r_st_3 q3_).1
    by_cases g_ : 33 ≤ lx_kd b_ n_ p_
    · have q5_ := r_nb_s (v_ := lx_vl b_ n_ p_) g_
      omega
    · omega
  · have cx3_ : ¬ ((S0_.2.2.1 119 0 (S0_.1 13 0 9).toNat) ≠ 3) := of_decide_eq_false cx3_
    refine sm_T_go 4 (c1 := (21, [some (.inr (.inr (some (13, 0)))), some (.inl s_)], [.inl (S0_.1 13 0 9), .inr (.inr (some (121, 0)))], S0_)) rfl ?_
    refine sm_T_iald (n := 65537) rfl rfl (by omega) (by omega) ?_
    have bx4_ : (-2147483648) ≤ S0_.2.2.1 121 0 (S0_.1 13 0 9).toNat ∧ S0_.2.2.1 121 0 (S0_.1 13 0 9).toNat ≤ 2147483647 := hI_.2 121 0 _
    refine sm_T_go 1 (c1 := (23, [some (.inr (.inr (some (13, 0)))), some (.inl s_)], [.inl s_, .inl (S0_.2.2.1 121 0 (S0_.1 13 0 9).toNat)], S0_)) rfl ?_
    refine sm_T_br (a := 1) (z := 7) rfl (fun cx5_ => ?_) (fun cx5_ => ?_)
    · have cx5_ : (S0_.2.2.1 121 0 (S0_.1 13 0 9).toNat) ≠ s_ := of_decide_eq_true cx5_
      refine sm_T_go 1 (c1 := (31, [some (.inr (.inr (some (13, 0)))), some (.inl s_)], [.inl 0], S0_)) rfl ?_
      refine sm_T_rz rfl (by omega) ⟨_, _, rfl, rfl, _, rfl, ?_⟩
      refine ⟨⟨by omega, by omega⟩, fun p_ e_ => ?_⟩
      obtain ⟨q1_, q2_, q3_⟩ := hat_ p_ e_
      have q4_ := (r_st_3 q3_).1
      by_cases g_ : 33 ≤ lx_kd b_ n_ p_
      · have q5_ := r_nb_s (v_ := lx_vl b_ n_ p_) g_
        omega
      · omega
    · have cx5_ : ¬ ((S0_.2.2.1 121 0 (S0_.1 13 0 9).toNat) ≠ s_) := of_decide_eq_false cx5_
      refine sm_T_go 2 (c1 := (31, [some (.inr (.inr (some (13, 0)))), some (.inl s_)], [.inl 1], S0_)) rfl ?_
      refine sm_T_rz rfl (by omega) ⟨_, _, rfl, rfl, _, rfl, ?_⟩
      refine ⟨⟨by omega, by omega⟩, fun p_ e_ => ?_⟩
      obtain ⟨q1_, q2_, q3_⟩ := hat_ p_ e_
      have q4_ := (r_st_3 q3_).1
      by_cases g_ : 33 ≤ lx_kd b_ n_ p_
      · have q5_ := r_nb_s (v_ := lx_vl b_ n_ p_) g_
        omega
      · omega
end
/-! 99.y1e -/
section
/-! M_.isWord -/
def vw_296 : sx_Wl := ([], [], [])
def vq_296 (s_ : Int) (b_ : Nat → Int) (n_ : Nat) (T_ : Nat) (x_ : pE Nat) (S0_ : sm_S) (u_ : Option sm_V) (S1_ : sm_S) : Prop := S0_ = S1_ ∧ ∃ v_ : Int, u_ = some (.inl v_) ∧ ((v_ = 0 ∨ v_ = 1) ∧ ∀ p_ : Nat, x_ = .inr p_ → (v_ = 1 ↔ lx_kd b_ n_ p_ = s_ + 2))
set_option maxHeartbeats 400000 in
theorem vc_296 {sc_ : Nat × (Nat → Int)} (s_ : Int) (b_ : Nat → Int) (n_ : Nat) (T_ : Nat) (x_ : pE Nat) (S0_ : sm_S) (hI_ : gi S0_) (ht_ : rtab b_ n_ T_ S0_) (hx_ : rg b_ n_ T_ x_ S0_) (hs_ : 1 ≤ s_ ∧ s_ ≤ 7) : sm_T (mt_P sc_) 0 296 (0, [some (.inr (.inr (some (13, 0)))), some (.inl s_)], [], S0_) (fun r_ => ∃ u_ S1_, r_ = (.inl u_, S1_, 0) ∧ vq_296 s_ b_ n_ T_ x_ S0_ u_ S1_) := by
  have hF_ : ai_fr (sx_W vw_296) S0_ S0_ := ai_fr_rf
  have hat_ : ∀ p_ : Nat, x_ = .inr p_ → S0_.2.2.1 119 0 (S0_.1 13 0 9).toNat = r_st (lx_kd b_ n_ p_) ∧ S0_.2.2.1 121 0 (S0_.1 13 0 9).toNat = r_nb (lx_kd b_ n_ p_) (lx_vl b_ n_ p_) ∧ (0 ≤ lx_kd b_ n_ p_ ∧ (lx_kd b_ n_ p_ ≤ 9 ∨ 33 ≤ lx_kd b_ n_ p_)) := by intro p_ e_; rw [e_] at hx_; obtain ⟨i_, h1_, h2_⟩ := hx_.2; have h3_ := rp_at ht_ h2_; rw [show (S0_.1 13 0 9).toNat = i_ by omega]; exact ⟨h3_.1, h3_.2.2.1, lx_kd_r h2_.2.2.1⟩
  have bx1_ : 0 ≤ S0_.1 13 0 9 ∧ S0_.1 13 0 9 ≤ 1280 := hI_.1 13 0 9 rfl
  refine sm_T_go 4 (c1 := (8, [some (.inr (.inr (some (13, 0)))), some (.inl s_)], [.inl (S0_.1 13 0 9), .inr (.inr (some (119, 0)))], S0_)) rfl ?_
  refine sm_T_bald (n := 65537) rfl rfl (by omega) (by omega) ?_
  have bx2_ : (-128) ≤ S0_.2.2.1 119 0 (S0_.1 13 0 9).toNat ∧ S0_.2.2.1 119 0 (S0_.1 13 0 9).toNat ≤ 127 := hI_.2 119 0 _
  refine sm_T_go 1 (c1 := (11, [some (.inr (.inr (some (13, 0)))), some (.inl s_)], [.inl 6, .inl (S0_.2.2.1 119 0 (S0_.1 13 0 9).toNat)], S0_)) rfl ?_
  refine sm_T_br (a := 1) (z := 20) rfl (fun cx3_ => ?_) (fun cx3_ => ?_)
  · have cx3_ : (S0_.2.2.1 119 0 (S0_.1 13 0 9).toNat) ≠ 6 := of_decide_eq_true cx3_
    refine sm_T_go 1 (c1 := (32, [some (.inr (.inr (some (13, 0)))), some (.inl s_)], [.inl 0], S0_)) rfl ?_
    refine sm_T_rz rfl (by omega) ⟨_, _, rfl, rfl, _, rfl, ?_⟩
    refine ⟨by omega, fun p_ e_ => ?_⟩
    obtain ⟨q1_, q2_, q3_⟩ := hat_ p_ e_
    have q4_ := (r_st_3 q3_).2.2.2.1
    by_cases g_ : 3 ≤ lx_kd b_ n_ p_ ∧ lx_kd b_ n_ p_ ≤ 9
    · have q5_ := r_nb_w (v_ := lx_vl b_ n_ p_) g_
      omega
    · omega
  · have cx3_ : ¬ ((S0_.2.2.1 119 0 (S0_.1 13 0 9).toNat) ≠ 6) := of_decide_eq_false cx3_
    refine sm_T_go 4 (c1 := (22, [some (.inr (.inr (some (13, 0)))), some (.inl s_)], [.inl (S0_.1 13 0 9), .inr (.inr (some (121, 0)))], S0_)) rfl ?_
    refine sm_T_iald (n := 65537) rfl rfl (by omega) (by omega) ?_
    have bx4_ : (-2147483648) ≤ S0_.2.2.1 121 0 (S0_.1 13 0 9).toNat ∧ S0_.2.2.1 121 0 (S0_.1 13 0 9).toNat ≤ 2147483647 := hI_.2 121 0 _
    refine sm_T_go 1 (c1 := (24, [some (.inr (.inr (some (13, 0)))), some (.inl s_)], [.inl s_, .inl (S0_.2.2.1 121 0 (S0_.1 13 0 9).toNat)], S0_)) rfl ?_
    refine sm_T_br (a := 1) (z := 7) rfl (fun cx5_ => ?_) (fun cx5_ => ?_)
    · have cx5_ : (S0_.2.2.1 121 0 (S0_.1 13 0 9).toNat) ≠ s_ := of_decide_eq_true cx5_
      refine sm_T_go 1 (c1 := (32, [some (.inr (.inr (some (13, 0)))), some (.inl s_)], [.inl 0], S0_)) rfl ?_
      refine sm_T_rz rfl (by omega) ⟨_, _, rfl, rfl, _, rfl, ?_⟩
      refine ⟨by omega, fun p_ e_ => ?_⟩
      obtain ⟨q1_, q2_, q3_⟩ := hat_ p_ e_
      have q4_ := (r_st_3 q3_).2.2.2.1
      by_cases g_ : 3 ≤ lx_kd b_ n_ p_ ∧ lx_kd b_ n_ p_ ≤ 9
      · have q5_ := r_nb_w (v_ := lx_vl b_ n_ p_) g_
        omega
      · omega
    · have cx5_ : ¬ ((S0_.2.2.1 121 0 (S0_.1 13 0 9).toNat) ≠ s_) := of_decide_eq_false cx5_
      refine sm_T_go 2 (c1 := (32, [some (.inr (.inr (some (13, 0)))), some (.inl s_)], [.inl 1], S0_)) rfl ?_
      refine sm_T_rz rfl (by omega) ⟨_, _, rfl, rfl, _, rfl, ?_⟩
      refine ⟨by omega, fun p_ e_ => ?_⟩
      obtain ⟨q1_, q2_, q3_⟩ := hat_ p_ e_
      have q4_ := (r_st_3 q3_).2.2.2.1
      by_cases g_ : 3 ≤ lx_kd b_ n_ p_ ∧ lx_kd b_ n_ p_ ≤ 9
      · have q5_ := r_nb_w (v_ := lx_vl b_ n_ p_) g_
        omega
      · omega
end
/-! 99.y1f -/
section
/-! M_.readNext -/
def vw_298 : sx_Wl := ([(13, 10), (13, 11)], [], [])
def vq_298  (S0_ : sm_S) (u_ : Option sm_V) (S1_ : sm_S) : Prop := u_ = none ∧ gi S1_ ∧ ai_fr (sx_W vw_298) S0_ S1_ ∧ (((S0_.1 13 0 10) ≠ 0 → (S1_.1 13 0 10) = (S0_.1 13 0 10) ∧ (S1_.1 13 0 11) = (S0_.1 13 0 11)) ∧ ((S0_.1 13 0 10) = 0 → ((S0_.2.2.1 119 0 (((S0_.1 13 0 9)).toNat)) = 4 ∧ (S1_.1 13 0 10) = 1 ∧ (S1_.1 13 0 11) = (S0_.2.2.1 120 0 (((S0_.1 13 0 9)).toNat))) ∨ ((S0_.2.2.1 119 0 (((S0_.1 13 0 9)).toNat)) ≠ 4 ∧ (S1_.1 13 0 10) = 0)))
set_option maxHeartbeats 400000 in
theorem vc_298 {sc_ : Nat × (Nat → Int)}  (S0_ : sm_S) (hI_ : gi S0_)  : sm_T (mt_P sc_) 1 298 (0, [some (.inr (.inr (some (13, 0))))], [], S0_) (fun r_ => ∃ u_ S1_, r_ = (.inl u_, S1_, 0) ∧ vq_298  S0_ u_ S1_) := by
  have hF_ : ai_fr (sx_W vw_298) S0_ S0_ := ai_fr_rf
  have bx1_ : 0 ≤ S0_.1 13 0 9 ∧ S0_.1 13 0 9 ≤ 1280 := hI_.1 13 0 9 rfl
  refine sm_T_go 4 (c1 := (8, [some (.inr (.inr (some (13, 0))))], [.inl (S0_.1 13 0 9), .inr (.inr (some (119, 0)))], S0_)) rfl ?_
  refine sm_T_bald (n := 65537) rfl rfl (by omega) (by omega) ?_
  have bx2_ : (-128) ≤ S0_.2.2.1 119 0 (S0_.1 13 0 9).toNat ∧ S0_.2.2.1 119 0 (S0_.1 13 0 9).toNat ≤ 127 := hI_.2 119 0 _
  refine sm_T_go 1 (c1 := (10, [some (.inr (.inr (some (13, 0))))], [.inl 4, .inl (S0_.2.2.1 119 0 (S0_.1 13 0 9).toNat)], S0_)) rfl ?_
  refine sm_T_br (a := 1) (z := 12) rfl (fun cx3_ => ?_) (fun cx3_ => ?_)
  · have cx3_ : (S0_.2.2.1 119 0 (S0_.1 13 0 9).toNat) ≠ 4 := of_decide_eq_true cx3_
    refine sm_T_rv rfl ⟨_, _, rfl, rfl, hI_, hF_, ?_⟩
    first | (refine ⟨fun _ => ⟨rfl, rfl⟩, fun z_ => Or.inr ⟨by omega, z_⟩⟩) | (refine ⟨fun z_ => ?_, fun z_ => Or.inl ⟨by omega, ?_, ?_⟩⟩; (rcases e19_ with w_ | w_; exact w_.2; exact absurd w_.1 z_); (rcases e19_ with w_ | w_; exact absurd z_ w_.1; (rw [w_.2.1]; rw [if_pos (by omega)])); (rcases e19_ with w_ | w_; exact absurd z_ w_.1; exact w_.2.2))
  · have cx3_ : ¬ ((S0_.2.2.1 119 0 (S0_.1 13 0 9).toNat) ≠ 4) := of_decide_eq_false cx3_
    refine sm_T_go 4 (c1 := (19, [some (.inr (.inr (some (13, 0))))], [.inl (S0_.1 13 0 9), .inl 1, .inr (.inr (some (13, 0)))], S0_)) rfl ?_
    refine sm_T_cal (d1 := 0) (Q1 := vq_293 1 (S0_.1 13 0 9) S0_) rfl rfl (by decide) (vc_293 1 (S0_.1 13 0 9) S0_ hI_ (by omega) (by omega)) (fun u_ Sx4_ px7_ => ?_)
    obtain ⟨rfl, hIx5_, hFx6_, px7_⟩ := px7_
    have hFx8_ : ai_fr (sx_W vw_298) S0_ Sx4_ := ai_fr_tr hF_ (fr_le hFx6_ rfl)
    have ex9_ : Sx4_.1 13 0 9 = S0_.1 13 0 9 := hFx6_.1 13 0 9 rfl
    have e19_ := px7_
    refine sm_T_rv rfl ⟨_, _, rfl, rfl, hIx5_, hFx8_, ?_⟩
    first | (refine ⟨fun _ => ⟨rfl, rfl⟩, fun z_ => Or.inr ⟨by omega, z_⟩⟩) | (refine ⟨fun z_ => ?_, fun z_ => Or.inl ⟨by omega, ?_, ?_⟩⟩; (rcases e19_ with w_ | w_; exact w_.2; exact absurd w_.1 z_); (rcases e19_ with w_ | w_; exact absurd z_ w_.1; (rw [w_.2.1]; rw [if_pos (by omega)])); (rcases e19_ with w_ | w_; exact absurd z_ w_.1; exact w_.2.2))
end
/-! 99.y1g -/
section
/-! M_.go -/
def vw_297 : sx_Wl := ([(13, 9), (13, 10), (13, 11)], [], [])
def vq_297 (b_ : Nat → Int) (n_ : Nat) (T_ : Nat) (x_ : pE Nat) (S0_ : sm_S) (u_ : Option sm_V) (S1_ : sm_S) : Prop := u_ = none ∧ gi S1_ ∧ ai_fr (sx_W vw_297) S0_ S1_ ∧ (rg b_ n_ T_ (pb x_ (p_ad b_ n_)) S1_ ∧ ∀ (p_ : Nat) (e_ : Int × Nat), x_ = .inr p_ → p_ad b_ n_ p_ = .inl e_ → (S1_.2.2.1 119 0 (((S1_.1 13 0 9)).toNat)) = 4)
set_option maxHeartbeats 400000 in
theorem vc_297 {sc_ : Nat × (Nat → Int)} (b_ : Nat → Int) (n_ : Nat) (T_ : Nat) (x_ : pE Nat) (S0_ : sm_S) (hI_ : gi S0_) (ht_ : rtab b_ n_ T_ S0_) (hx_ : rg b_ n_ T_ x_ S0_) (hk_ : ∀ p_ : Nat, x_ = .inr p_ → lx_kd b_ n_ p_ ≠ 0) : sm_T (mt_P sc_) 2 297 (0, [some (.inr (.inr (some (13, 0))))], [], S0_) (fun r_ => ∃ u_ S1_, r_ = (.inl u_, S1_, 0) ∧ vq_297 b_ n_ T_ x_ S0_ u_ S1_) := by
  have hF_ : ai_fr (sx_W vw_297) S0_ S0_ := ai_fr_rf
  have bx1_ : 0 ≤ S0_.1 13 0 10 ∧ S0_.1 13 0 10 ≤ 23 := hI_.1 13 0 10 rfl
  refine sm_T_go 2 (c1 := (4, [some (.inr (.inr (some (13, 0))))], [.inl (S0_.1 13 0 10)], S0_)) rfl ?_
  refine sm_T_b0 (a := 1) (z := 17) rfl (fun cx2_ => ?_) (fun cx2_ => ?_)
  · have cx2_ : (S0_.1 13 0 10) ≠ 0 := of_decide_eq_true cx2_
    refine sm_T_rv rfl ⟨_, _, rfl, rfl, hI_, hF_, ?_⟩
    first | (obtain ⟨e_, rfl⟩ := rg_w hx_ (by omega); exact ⟨rg_e hx_ rfl rfl, fun p_ e_ hp_ _ => (by cases hp_)⟩) | (by_cases z_ : lx_kd b_ n_ (lx_nx b_ n_ p_) = -1; (have w_ : p_ad b_ n_ p_ = .inl (1, lx_nx b_ n_ p_) := if_pos z_; rcases e18_ with v_ | v_; (refine ⟨?_, fun p9_ e9_ hp9_ _ => ?_⟩; (rw [pb_r rfl, w_]; exact ⟨v_.2.1, v_.2.2.trans nx1_.2.1, by show (1 : Int) ≠ 0; decide⟩); (rw [s18_, show (_ : Int).toNat = i_ + 1 from (by rw [f18_]; omega)]; exact v_.1)); (exact absurd (nx1_.2.2.1.mpr z_) v_.1)); (have w_ : p_ad b_ n_ p_ = .inr (lx_nx b_ n_ p_) := if_neg z_; rcases e18_ with v_ | v_; (exact absurd (nx1_.2.2.1.mp v_.1) z_); (refine ⟨?_, fun p9_ e9_ hp9_ h9_ => ?_⟩; (rw [pb_r rfl, w_]; exact ⟨v_.2, i_ + 1, by rw [f18_]; push_cast; omega, nx1_.2.2.2 z_⟩); (cases hp9_; rw [w_] at h9_; cases h9_))))
  · have cx2_ : ¬ ((S0_.1 13 0 10) ≠ 0) := of_decide_eq_false cx2_
    obtain ⟨p_, i_, rfl, e1_, e2_⟩ := rg_r hx_ (by omega)
    have nx1_ := rp_nx ht_ e2_ (hk_ p_ rfl)
    have hT_ := ht_.2.1
    have bx3_ : 0 ≤ S0_.1 13 0 9 ∧ S0_.1 13 0 9 ≤ 1280 := hI_.1 13 0 9 rfl
    refine sm_T_go 4 (c1 := (13, [some (.inr (.inr (some (13, 0))))], [.inl 1, .inl (S0_.1 13 0 9), .inr (.inr (some (13, 0)))], S0_)) rfl ?_
    refine sm_T_bin (w := (S0_.1 13 0 9) + 1) rfl (bi_add (by omega) (by omega) (by omega)) ?_
    have hIx4_ : gi (sm_pI S0_ 13 0 9 ((S0_.1 13 0 9) + 1)) := gi_pI hI_ (show 0 ≤ (S0_.1 13 0 9) + 1 ∧ (S0_.1 13 0 9) + 1 ≤ 1280 from ⟨by omega, by omega⟩)
    have hFx5_ : ai_fr (sx_W vw_297) S0_ (sm_pI S0_ 13 0 9 ((S0_.1 13 0 9) + 1)) := ai_fr_tr hF_ (ai_fr_pI rfl)
    refine sm_T_go 2 (c1 := (18, [some (.inr (.inr (some (13, 0))))], [.inr (.inr (some (13, 0)))], sm_pI S0_ 13 0 9 ((S0_.1 13 0 9) + 1))) rfl ?_
    refine sm_T_cal (d1 := 1) (Q1 := vq_298  (sm_pI S0_ 13 0 9 ((S0_.1 13 0 9) + 1))) rfl rfl (by decide) (vc_298  (sm_pI S0_ 13 0 9 ((S0_.1 13 0 9) + 1)) hIx4_ ) (fun u_ Sx6_ px9_ => ?_)
    obtain ⟨rfl, hIx7_, hFx8_, px9_⟩ := px9_
    have hFx10_ : ai_fr (sx_W vw_297) S0_ Sx6_ := ai_fr_tr hFx5_ (fr_le hFx8_ rfl)
    have e18_ := px9_.2 (by show S0_.1 13 0 10 = 0; omega)
    have f18_ := hFx8_.1 13 0 9 rfl
    rw [show ((sm_pI S0_ 13 0 9 (S0_.1 13 0 9 + 1)).1 13 0 9) = S0_.1 13 0 9 + 1 from rfl] at e18_ f18_
    rw [show (S0_.1 13 0 9 + 1).toNat = i_ + 1 by omega] at e18_
    have s18_ := fr_arr (t := 119) (i := 0) hFx8_ rfl
    refine sm_T_rv rfl ⟨_, _, rfl, rfl, hIx7_, hFx10_, ?_⟩
    first | (obtain ⟨e_, rfl⟩ := rg_w hx_ (by omega); exact ⟨rg_e hx_ rfl rfl, fun p_ e_ hp_ _ => (by cases hp_)⟩) | (by_cases z_ : lx_kd b_ n_ (lx_nx b_ n_ p_) = -1; (have w_ : p_ad b_ n_ p_ = .inl (1, lx_nx b_ n_ p_) := if_pos z_; rcases e18_ with v_ | v_; (refine ⟨?_, fun p9_ e9_ hp9_ _ => ?_⟩; (rw [pb_r rfl, w_]; exact ⟨v_.2.1, v_.2.2.trans nx1_.2.1, by show (1 : Int) ≠ 0; decide⟩); (rw [s18_, show (_ : Int).toNat = i_ + 1 from (by rw [f18_]; omega)]; exact v_.1)); (exact absurd (nx1_.2.2.1.mpr z_) v_.1)); (have w_ : p_ad b_ n_ p_ = .inr (lx_nx b_ n_ p_) := if_neg z_; rcases e18_ with v_ | v_; (exact absurd (nx1_.2.2.1.mp v_.1) z_); (refine ⟨?_, fun p9_ e9_ hp9_ h9_ => ?_⟩; (rw [pb_r rfl, w_]; exact ⟨v_.2, i_ + 1, by rw [f18_]; push_cast; omega, nx1_.2.2.2 z_⟩); (cases hp9_; rw [w_] at h9_; cases h9_))))
end
/-! 99.y1h -/
section
/-! M_.due -/
def vw_299 : sx_Wl := ([(13, 10), (13, 11)], [], [])
def vq_299 (s_ : Int) (b_ : Nat → Int) (n_ : Nat) (T_ : Nat) (x_ : pE Nat) (S0_ : sm_S) (u_ : Option sm_V) (S1_ : sm_S) : Prop := ∃ v_ : Int, u_ = some (.inl v_) ∧ gi S1_ ∧ ai_fr (sx_W vw_299) S0_ S1_ ∧ (v_ = (S0_.1 13 0 9) ∧ rg b_ n_ T_ (pb x_ (p_du b_ n_ s_)) S1_)
set_option maxHeartbeats 400000 in
theorem vc_299 {sc_ : Nat × (Nat → Int)} (s_ : Int) (b_ : Nat → Int) (n_ : Nat) (T_ : Nat) (x_ : pE Nat) (S0_ : sm_S) (hI_ : gi S0_) (ht_ : rtab b_ n_ T_ S0_) (hx_ : rg b_ n_ T_ x_ S0_) (hs_ : s_ = 1 ∨ s_ = 2) : sm_T (mt_P sc_) 1 299 (0, [some (.inr (.inr (some (13, 0)))), some (.inl s_)], [], S0_) (fun r_ => ∃ u_ S1_, r_ = (.inl u_, S1_, 0) ∧ vq_299 s_ b_ n_ T_ x_ S0_ u_ S1_) := by
  have hF_ : ai_fr (sx_W vw_299) S0_ S0_ := ai_fr_rf
  have hat_ : ∀ p_ : Nat, x_ = .inr p_ → S0_.2.2.1 119 0 (S0_.1 13 0 9).toNat = r_st (lx_kd b_ n_ p_) ∧ S0_.2.2.1 121 0 (S0_.1 13 0 9).toNat = r_nb (lx_kd b_ n_ p_) (lx_vl b_ n_ p_) ∧ (0 ≤ lx_kd b_ n_ p_ ∧ (lx_kd b_ n_ p_ ≤ 9 ∨ 33 ≤ lx_kd b_ n_ p_)) := by intro p_ e_; rw [e_] at hx_; obtain ⟨i_, h1_, h2_⟩ := hx_.2; have h3_ := rp_at ht_ h2_; rw [show (S0_.1 13 0 9).toNat = i_ by omega]; exact ⟨h3_.1, h3_.2.2.1, lx_kd_r h2_.2.2.1⟩
  have bx1_ : 0 ≤ S0_.1 13 0 9 ∧ S0_.1 13 0 9 ≤ 1280 := hI_.1 13 0 9 rfl
  refine sm_T_go 4 (c1 := (8, [some (.inr (.inr (some (13, 0)))), some (.inl s_)], [.inl (S0_.1 13 0 9), .inr (.inr (some (119, 0)))], S0_)) rfl ?_
  refine sm_T_bald (n := 65537) rfl rfl (by omega) (by omega) ?_
  have bx2_ : (-128) ≤ S0_.2.2.1 119 0 (S0_.1 13 0 9).toNat ∧ S0_.2.2.1 119 0 (S0_.1 13 0 9).toNat ≤ 127 := hI_.2 119 0 _
  refine sm_T_go 1 (c1 := (10, [some (.inr (.inr (some (13, 0)))), some (.inl s_)], [.inl s_, .inl (S0_.2.2.1 119 0 (S0_.1 13 0 9).toNat)], S0_)) rfl ?_
  refine sm_T_br (a := 0) (z := 12) rfl (fun cx3_ => ?_) (fun cx3_ => ?_)
  · have cx3_ : (S0_.2.2.1 119 0 (S0_.1 13 0 9).toNat) = s_ := of_decide_eq_true cx3_
    refine sm_T_go 2 (c1 := (26, [some (.inr (.inr (some (13, 0)))), some (.inl s_)], [.inl (S0_.1 13 0 9)], S0_)) rfl ?_
    refine sm_T_ri rfl ⟨_, _, rfl, _, rfl, hI_, hF_, ?_⟩
    by_cases z_ : S0_.1 13 0 10 = 0
    · obtain ⟨p_, i_, rfl, e1_, e2_⟩ := rg_r hx_ z_
      obtain ⟨q1_, q2_, q3_⟩ := hat_ p_ rfl
      have q4_ := r_st_3 q3_
      have q5_ := rp_at ht_ e2_
      first | (refine ⟨rfl, ?_⟩; rw [pb_r rfl, show p_du b_ n_ s_ p_ = .inr p_ from if_pos (by omega)]; exact hx_) | (refine ⟨f19_, ?_⟩; rw [pb_r rfl, show p_du b_ n_ s_ p_ = .inl (2, p_) from if_neg (by omega)]; rcases e19_ with w_ | w_; (exact absurd z_ w_.1); (refine ⟨?_, ?_, by show (2 : Int) ≠ 0; decide⟩; (rw [w_.2.1, if_neg (by omega)]); (rw [w_.2.2, show (S0_.1 13 0 9).toNat = i_ by omega]; exact q5_.2.1)))
    · obtain ⟨e_, rfl⟩ := rg_w hx_ z_
      first | (exact ⟨rfl, rg_e hx_ rfl rfl⟩) | (rcases e19_ with w_ | w_; (exact ⟨f19_, rg_e hx_ w_.2.1 w_.2.2⟩); (exact absurd w_.1 z_))
  · have cx3_ : ¬ ((S0_.2.2.1 119 0 (S0_.1 13 0 9).toNat) = s_) := of_decide_eq_false cx3_
    refine sm_T_go 4 (c1 := (19, [some (.inr (.inr (some (13, 0)))), some (.inl s_)], [.inl (S0_.1 13 0 9), .inl 2, .inr (.inr (some (13, 0)))], S0_)) rfl ?_
    refine sm_T_cal (d1 := 0) (Q1 := vq_293 2 (S0_.1 13 0 9) S0_) rfl rfl (by decide) (vc_293 2 (S0_.1 13 0 9) S0_ hI_ (by omega) (by omega)) (fun u_ Sx4_ px7_ => ?_)
    obtain ⟨rfl, hIx5_, hFx6_, px7_⟩ := px7_
    have hFx8_ : ai_fr (sx_W vw_299) S0_ Sx4_ := ai_fr_tr hF_ (fr_le hFx6_ rfl)
    have ex9_ : Sx4_.1 13 0 9 = S0_.1 13 0 9 := hFx6_.1 13 0 9 rfl
    have e19_ := px7_
    have f19_ := hFx6_.1 13 0 9 rfl
    have bx10_ : 0 ≤ Sx4_.1 13 0 9 ∧ Sx4_.1 13 0 9 ≤ 1280 := hIx5_.1 13 0 9 rfl
    refine sm_T_go 2 (c1 := (26, [some (.inr (.inr (some (13, 0)))), some (.inl s_)], [.inl (Sx4_.1 13 0 9)], Sx4_)) rfl ?_
    refine sm_T_ri rfl ⟨_, _, rfl, _, rfl, hIx5_, hFx8_, ?_⟩
    by_cases z_ : S0_.1 13 0 10 = 0
    · obtain ⟨p_, i_, rfl, e1_, e2_⟩ := rg_r hx_ z_
      obtain ⟨q1_, q2_, q3_⟩ := hat_ p_ rfl
      have q4_ := r_st_3 q3_
      have q5_ := rp_at ht_ e2_
      first | (refine ⟨rfl, ?_⟩; rw [pb_r rfl, show p_du b_ n_ s_ p_ = .inr p_ from if_pos (by omega)]; exact hx_) | (refine ⟨f19_, ?_⟩; rw [pb_r rfl, show p_du b_ n_ s_ p_ = .inl (2, p_) from if_neg (by omega)]; rcases e19_ with w_ | w_; (exact absurd z_ w_.1); (refine ⟨?_, ?_, by show (2 : Int) ≠ 0; decide⟩; (rw [w_.2.1, if_neg (by omega)]); (rw [w_.2.2, show (S0_.1 13 0 9).toNat = i_ by omega]; exact q5_.2.1)))
    · obtain ⟨e_, rfl⟩ := rg_w hx_ z_
      first | (exact ⟨rfl, rg_e hx_ rfl rfl⟩) | (rcases e19_ with w_ | w_; (exact ⟨f19_, rg_e hx_ w_.2.1 w_.2.2⟩); (exact absurd w_.1 z_))
end
/-! 99.y1i -/
section
/-! M_.sign -/
def vw_300 : sx_Wl := ([(13, 9), (13, 10), (13, 11)], [], [])
def vq_300 (s_ : Int) (b_ : Nat → Int) (n_ : Nat) (T_ : Nat) (x_ : pE Nat) (S0_ : sm_S) (u_ : Option sm_V) (S1_ : sm_S) : Prop := u_ = none ∧ gi S1_ ∧ ai_fr (sx_W vw_300) S0_ S1_ ∧ (rg b_ n_ T_ (pb x_ (p_nd b_ n_ s_)) S1_)
set_option maxHeartbeats 400000 in
theorem vc_300 {sc_ : Nat × (Nat → Int)} (s_ : Int) (b_ : Nat → Int) (n_ : Nat) (T_ : Nat) (x_ : pE Nat) (S0_ : sm_S) (hI_ : gi S0_) (ht_ : rtab b_ n_ T_ S0_) (hx_ : rg b_ n_ T_ x_ S0_) (hs_ : 33 ≤ s_) : sm_T (mt_P sc_) 3 300 (0, [some (.inr (.inr (some (13, 0)))), some (.inl s_)], [], S0_) (fun r_ => ∃ u_ S1_, r_ = (.inl u_, S1_, 0) ∧ vq_300 s_ b_ n_ T_ x_ S0_ u_ S1_) := by
  have hF_ : ai_fr (sx_W vw_300) S0_ S0_ := ai_fr_rf
  have hat_ : ∀ p_ : Nat, x_ = .inr p_ → S0_.2.2.1 119 0 (S0_.1 13 0 9).toNat = r_st (lx_kd b_ n_ p_) ∧ S0_.2.2.1 121 0 (S0_.1 13 0 9).toNat = r_nb (lx_kd b_ n_ p_) (lx_vl b_ n_ p_) ∧ (0 ≤ lx_kd b_ n_ p_ ∧ (lx_kd b_ n_ p_ ≤ 9 ∨ 33 ≤ lx_kd b_ n_ p_)) := by intro p_ e_; rw [e_] at hx_; obtain ⟨i_, h1_, h2_⟩ := hx_.2; have h3_ := rp_at ht_ h2_; rw [show (S0_.1 13 0 9).toNat = i_ by omega]; exact ⟨h3_.1, h3_.2.2.1, lx_kd_r h2_.2.2.1⟩
  refine sm_T_go 2 (c1 := (2, [some (.inr (.inr (some (13, 0)))), some (.inl s_)], [.inl s_, .inr (.inr (some (13, 0)))], S0_)) rfl ?_
  refine sm_T_cal (d1 := 0) (Q1 := vq_295 s_ b_ n_ T_ x_ S0_) rfl rfl (by decide) (vc_295 s_ b_ n_ T_ x_ S0_ hI_ (by exact ht_) (by exact hx_) (by exact hs_)) (fun u_ Sx1_ px4_ => ?_)
  obtain ⟨rfl, vx6_, rfl, px4_⟩ := px4_
  have e2_ := px4_
  refine sm_T_b0 (a := 0) (z := 10) rfl (fun cx7_ => ?_) (fun cx7_ => ?_)
  · have cx7_ : vx6_ = 0 := of_decide_eq_true cx7_
    have bx8_ : 0 ≤ S0_.1 13 0 9 ∧ S0_.1 13 0 9 ≤ 1280 := hI_.1 13 0 9 rfl
    refine sm_T_go 4 (c1 := (21, [some (.inr (.inr (some (13, 0)))), some (.inl s_)], [.inl (S0_.1 13 0 9), .inl 2, .inr (.inr (some (13, 0)))], S0_)) rfl ?_
    refine sm_T_cal (d1 := 0) (Q1 := vq_293 2 (S0_.1 13 0 9) S0_) rfl rfl (by decide) (vc_293 2 (S0_.1 13 0 9) S0_ hI_ (by omega) (by omega)) (fun u_ Sx9_ px12_ => ?_)
    obtain ⟨rfl, hIx10_, hFx11_, px12_⟩ := px12_
    have hFx13_ : ai_fr (sx_W vw_300) S0_ Sx9_ := ai_fr_tr hF_ (fr_le hFx11_ rfl)
    have ex14_ : Sx9_.1 13 0 9 = S0_.1 13 0 9 := hFx11_.1 13 0 9 rfl
    have e19_ := px12_
    refine sm_T_rv rfl ⟨_, _, rfl, rfl, hIx10_, hFx13_, ?_⟩
    cases x_ with
    | inl e_ => first | exact e9_ | (rcases e19_ with w_ | w_; (exact rg_e hx_ w_.2.1 w_.2.2); (exact absurd (hx_.1.symm.trans w_.1) hx_.2.2))
    | inr p_ =>
      have q0_ := e2_.2 p_ rfl
      first | (rw [pb_r rfl, show p_nd b_ n_ s_ p_ = p_ad b_ n_ p_ from if_pos (q0_.mp (by omega))]; exact e9_) | (rw [pb_r rfl, show p_nd b_ n_ s_ p_ = .inl (2, p_) from if_neg (fun z_ => by have := q0_.mpr z_; omega)]; obtain ⟨i_, e1_, e3_⟩ := hx_.2; have q5_ := rp_at ht_ e3_; obtain ⟨q1_, q2_, q3_⟩ := hat_ p_ rfl; have q4_ := (r_st_3 q3_).2.2.2.2.2; rcases e19_ with w_ | w_; (exact absurd hx_.1 w_.1); (refine ⟨?_, ?_, by show (2 : Int) ≠ 0; decide⟩; (rw [w_.2.1, if_neg (by omega)]); (rw [w_.2.2, show (S0_.1 13 0 9).toNat = i_ by omega]; exact q5_.2.1)))
  · have cx7_ : ¬ (vx6_ = 0) := of_decide_eq_false cx7_
    refine sm_T_go 1 (c1 := (9, [some (.inr (.inr (some (13, 0)))), some (.inl s_)], [.inr (.inr (some (13, 0)))], S0_)) rfl ?_
    refine sm_T_cal (d1 := 2) (Q1 := vq_297 b_ n_ T_ x_ S0_) rfl rfl (by decide) (vc_297 b_ n_ T_ x_ S0_ hI_ (by exact ht_) (by exact hx_) (by (intro p_ e_; have := (e2_.2 p_ e_).mp (by omega); omega))) (fun u_ Sx15_ px18_ => ?_)
    obtain ⟨rfl, hIx16_, hFx17_, px18_⟩ := px18_
    have hFx19_ : ai_fr (sx_W vw_300) S0_ Sx15_ := ai_fr_tr hF_ (fr_le hFx17_ rfl)
    have e9_ := px18_.1
    refine sm_T_go 1 (c1 := (24, [some (.inr (.inr (some (13, 0)))), some (.inl s_)], [], Sx15_)) rfl ?_
    refine sm_T_rv rfl ⟨_, _, rfl, rfl, hIx16_, hFx19_, ?_⟩
    cases x_ with
    | inl e_ => first | exact e9_ | (rcases e19_ with w_ | w_; (exact rg_e hx_ w_.2.1 w_.2.2); (exact absurd (hx_.1.symm.trans w_.1) hx_.2.2))
    | inr p_ =>
      have q0_ := e2_.2 p_ rfl
      first | (rw [pb_r rfl, show p_nd b_ n_ s_ p_ = p_ad b_ n_ p_ from if_pos (q0_.mp (by omega))]; exact e9_) | (rw [pb_r rfl, show p_nd b_ n_ s_ p_ = .inl (2, p_) from if_neg (fun z_ => by have := q0_.mpr z_; omega)]; obtain ⟨i_, e1_, e3_⟩ := hx_.2; have q5_ := rp_at ht_ e3_; obtain ⟨q1_, q2_, q3_⟩ := hat_ p_ rfl; have q4_ := (r_st_3 q3_).2.2.2.2.2; rcases e19_ with w_ | w_; (exact absurd hx_.1 w_.1); (refine ⟨?_, ?_, by show (2 : Int) ≠ 0; decide⟩; (rw [w_.2.1, if_neg (by omega)]); (rw [w_.2.2, show (S0_.1 13 0 9).toNat = i_ by omega]; exact q5_.2.1)))
end
/-! 99.y2a -/
section
/-! the reference: names; written by wip/p55/gen/vg -/

/-! names -/
theorem lx_ne_x {b_ : Nat → Int} {n_ : Nat} : ∀ (f_ p_ k_ : Nat), n_ - p_ ≤ f_ → p_ ≤ k_ → k_ < lx_ne b_ n_ p_ → lx_x (b_ k_)
  | 0, p_, k_, hf_, hk_, h_ => by
    rw [lx_e_go, if_neg (by omega)] at h_
    omega
  | f_ + 1, p_, k_, hf_, hk_, h_ => by
    rw [lx_e_go] at h_
    split at h_
    · rename_i g_
      by_cases e_ : k_ = p_
      · rw [e_]; exact g_.2
      · exact lx_ne_x f_ (p_ + 1) k_ (by omega) (by omega) h_
    · omega
theorem nmp_b {b_ : Nat → Int} {n_ p_ : Nat} (h_ : nmp b_ n_ p_) : ∀ j_, j_ < lx_sz b_ n_ p_ → 1 ≤ b_ (p_ + j_) ∧ b_ (p_ + j_) < 128 := by
  intro j_ hj_
  have h1_ := h_.1
  have h2_ := h_.2
  unfold lx_kd at h2_
  unfold lx_sz at hj_
  by_cases g_ : n_ ≤ p_
  · rw [if_pos g_] at h2_; omega
  · rw [if_neg g_] at h2_ hj_
    by_cases g1_ : lx_l (b_ p_)
    · rw [if_pos g1_] at hj_
      exact lx_x_b (lx_ne_x (n_ - p_) p_ (p_ + j_) (Nat.le_refl _) (by omega) (by omega))
    · rw [if_neg g1_] at h2_ hj_
      by_cases g2_ : lx_g (b_ p_)
      · rw [if_pos g2_] at h2_
        split at h2_ <;> omega
      · rw [if_neg g2_] at hj_
        omega
theorem nm_rk {b_ : Nat → Int} {n_ p_ q_ : Nat} (hp_ : nmp b_ n_ p_) (hq_ : nmp b_ n_ q_) : (rk1 b_ p_ (lx_sz b_ n_ p_) = rk1 b_ q_ (lx_sz b_ n_ q_) ∧ rk2 b_ p_ (lx_sz b_ n_ p_) = rk2 b_ q_ (lx_sz b_ n_ q_)) ↔ nm_q b_ n_ p_ q_ = true := by
  rw [rk_eq (nmp_sz hp_).1 (nmp_sz hq_).1 (nmp_b hp_) (nmp_b hq_), nm_q_t]
/-- token t_ is_ the_ name at p_ -/
def rtk (b_ : Nat → Int) (n_ T_ : Nat) (t_ : Int) (p_ : Nat) : Prop := ∃ i_ : Nat, t_ = (i_ : Int) ∧ i_ < T_ ∧ p_ = lxp b_ n_ i_ ∧ nmp b_ n_ p_
theorem rtk_at {b_ : Nat → Int} {n_ T_ p_ : Nat} {t_ : Int} {S_ : sm_S} (h_ : rtab b_ n_ T_ S_) (r_ : rtk b_ n_ T_ t_ p_) : (0 ≤ t_ ∧ t_ ≤ 1280) ∧ nmp b_ n_ p_ ∧ S_.2.2.2 122 0 t_.toNat = rk1 b_ p_ (lx_sz b_ n_ p_) ∧ S_.2.2.1 123 0 t_.toNat = rk2 b_ p_ (lx_sz b_ n_ p_) ∧ S_.2.2.1 120 0 t_.toNat = (p_ : Int) ∧ S_.2.2.1 119 0 t_.toNat = 1 := by
  obtain ⟨i_, h1_, h2_, h3_, h4_⟩ := r_
  have hT_ := h_.2.1
  have t2_ := (h_.2.2.1.1 i_ h2_).2
  rw [← h3_] at t2_
  rw [show t_.toNat = i_ by omega]
  have t3_ := t2_.2.2.2 h4_.2
  refine ⟨by omega, h4_, t3_.1, t3_.2, t2_.1, ?_⟩
  rw [t2_.2.1, h4_.2]
  rfl
def r_s2 (so_ : Int) : Int := if so_ ≤ 3 then so_ + 1 else if so_ = 4 then 4 else 5
def re1 (b_ : Nat → Int) (n_ T_ : Nat) (A_ : pA) (m_ : Nat) (S_ : sm_S) : Prop := S_.2.2.1 126 0 m_ = (A_.1 m_ : Int) ∧ ∀ s_, s_ < A_.1 m_ → rtk b_ n_ T_ (S_.2.2.1 127 0 (40 * m_ + s_)) (A_.2.1 (40 * m_ + s_)) ∧ S_.2.2.1 128 0 (40 * m_ + s_) = r_s2 (A_.2.2.1 (40 * m_ + s_)) ∧ S_.2.2.1 129 0 (40 * m_ + s_) = A_.2.2.2.1 (40 * m_ + s_) ∧ S_.2.2.1 130 0 (40 * m_ + s_) = A_.2.2.2.2 (40 * m_ + s_) ∧ S_.2.2.1 131 0 (40 * m_ + s_) = (if A_.2.2.1 (40 * m_ + s_) = 4 then 1 else 0)
def rnr (b_ : Nat → Int) (n_ T_ : Nat) (N_ : Nat → Nat) (M_ : Nat) (S_ : sm_S) : Prop := M_ ≤ 16 ∧ ∀ m_, m_ < M_ → rtk b_ n_ T_ (S_.2.2.1 124 0 m_) (N_ m_)
end
/-! 99.y2b -/
section
/-! M_.isSame -/
def vw_301 : sx_Wl := ([], [], [])
def vq_301 (t_ : Int) (w_ : Int) (b_ : Nat → Int) (n_ : Nat) (T_ : Nat) (p_ : Nat) (q_ : Nat) (S0_ : sm_S) (u_ : Option sm_V) (S1_ : sm_S) : Prop := S0_ = S1_ ∧ ∃ v_ : Int, u_ = some (.inl v_) ∧ (v_ = if nm_q b_ n_ p_ q_ = true then 1 else 0)
set_option maxHeartbeats 400000 in
theorem vc_301 {sc_ : Nat × (Nat → Int)} (t_ : Int) (w_ : Int) (b_ : Nat → Int) (n_ : Nat) (T_ : Nat) (p_ : Nat) (q_ : Nat) (S0_ : sm_S) (hI_ : gi S0_) (ht_ : rtab b_ n_ T_ S0_) (h1_ : rtk b_ n_ T_ t_ p_) (h2_ : rtk b_ n_ T_ w_ q_) : sm_T (mt_P sc_) 0 301 (0, [some (.inr (.inr (some (13, 0)))), some (.inl t_), some (.inl w_)], [], S0_) (fun r_ => ∃ u_ S1_, r_ = (.inl u_, S1_, 0) ∧ vq_301 t_ w_ b_ n_ T_ p_ q_ S0_ u_ S1_) := by
  have hF_ : ai_fr (sx_W vw_301) S0_ S0_ := ai_fr_rf
  have e1_ := rtk_at ht_ h1_
  have e2_ := rtk_at ht_ h2_
  have e3_ := nm_rk e1_.2.1 e2_.2.1
  rw [← e1_.2.2.1, ← e1_.2.2.2.1, ← e2_.2.2.1, ← e2_.2.2.2.1] at e3_
  have e4_ := lcmp0 (x := S0_.2.2.2 122 0 t_.toNat) (y := S0_.2.2.2 122 0 w_.toNat)
  refine sm_T_go 3 (c1 := (5, [some (.inr (.inr (some (13, 0)))), some (.inl t_), some (.inl w_)], [.inl t_, .inr (.inr (some (122, 0)))], S0_)) rfl ?_
  refine sm_T_lald (n := 65537) rfl rfl (by omega) (by omega) ?_
  refine sm_T_go 3 (c1 := (11, [some (.inr (.inr (some (13, 0)))), some (.inl t_), some (.inl w_)], [.inl w_, .inr (.inr (some (122, 0))), .inr (.inl (S0_.2.2.2 122 0 t_.toNat))], S0_)) rfl ?_
  refine sm_T_lald (n := 65537) rfl rfl (by omega) (by omega) ?_
  refine sm_T_go 1 (c1 := (13, [some (.inr (.inr (some (13, 0)))), some (.inl t_), some (.inl w_)], [.inl (sm_lcmp ((S0_.2.2.2 122 0 t_.toNat)) ((S0_.2.2.2 122 0 w_.toNat)))], S0_)) rfl ?_
  refine sm_T_b0 (a := 1) (z := 22) rfl (fun cx1_ => ?_) (fun cx1_ => ?_)
  · have cx1_ : (sm_lcmp ((S0_.2.2.2 122 0 t_.toNat)) ((S0_.2.2.2 122 0 w_.toNat))) ≠ 0 := of_decide_eq_true cx1_
    refine sm_T_go 1 (c1 := (36, [some (.inr (.inr (some (13, 0)))), some (.inl t_), some (.inl w_)], [.inl 0], S0_)) rfl ?_
    refine sm_T_rz rfl (by omega) ⟨_, _, rfl, rfl, _, rfl, ?_⟩
    first | (rw [if_pos (e3_.mp ⟨e4_.mp (by omega), by omega⟩)]) | (rw [if_neg (fun z_ => by have z1_ := e3_.mpr z_; have z2_ := e4_.mpr z1_.1; have z3_ := z1_.2; omega)])
  · have cx1_ : ¬ ((sm_lcmp ((S0_.2.2.2 122 0 t_.toNat)) ((S0_.2.2.2 122 0 w_.toNat))) ≠ 0) := of_decide_eq_false cx1_
    refine sm_T_go 3 (c1 := (21, [some (.inr (.inr (some (13, 0)))), some (.inl t_), some (.inl w_)], [.inl t_, .inr (.inr (some (123, 0)))], S0_)) rfl ?_
    refine sm_T_iald (n := 65537) rfl rfl (by omega) (by omega) ?_
    have bx2_ : (-2147483648) ≤ S0_.2.2.1 123 0 t_.toNat ∧ S0_.2.2.1 123 0 t_.toNat ≤ 2147483647 := hI_.2 123 0 _
    refine sm_T_go 3 (c1 := (27, [some (.inr (.inr (some (13, 0)))), some (.inl t_), some (.inl w_)], [.inl w_, .inr (.inr (some (123, 0))), .inl (S0_.2.2.1 123 0 t_.toNat)], S0_)) rfl ?_
    refine sm_T_iald (n := 65537) rfl rfl (by omega) (by omega) ?_
    have bx3_ : (-2147483648) ≤ S0_.2.2.1 123 0 w_.toNat ∧ S0_.2.2.1 123 0 w_.toNat ≤ 2147483647 := hI_.2 123 0 _
    refine sm_T_br (a := 1) (z := 7) rfl (fun cx4_ => ?_) (fun cx4_ => ?_)
    · have cx4_ : (S0_.2.2.1 123 0 t_.toNat) ≠ (S0_.2.2.1 123 0 w_.toNat) := of_decide_eq_true cx4_
      refine sm_T_go 1 (c1 := (36, [some (.inr (.inr (some (13, 0)))), some (.inl t_), some (.inl w_)], [.inl 0], S0_)) rfl ?_
      refine sm_T_rz rfl (by omega) ⟨_, _, rfl, rfl, _, rfl, ?_⟩
      first | (rw [if_pos (e3_.mp ⟨e4_.mp (by omega), by omega⟩)]) | (rw [if_neg (fun z_ => by have z1_ := e3_.mpr z_; have z2_ := e4_.mpr z1_.1; have z3_ := z1_.2; omega)])
    · have cx4_ : ¬ ((S0_.2.2.1 123 0 t_.toNat) ≠ (S0_.2.2.1 123 0 w_.toNat)) := of_decide_eq_false cx4_
      refine sm_T_go 2 (c1 := (36, [some (.inr (.inr (some (13, 0)))), some (.inl t_), some (.inl w_)], [.inl 1], S0_)) rfl ?_
      refine sm_T_rz rfl (by omega) ⟨_, _, rfl, rfl, _, rfl, ?_⟩
      first | (rw [if_pos (e3_.mp ⟨e4_.mp (by omega), by omega⟩)]) | (rw [if_neg (fun z_ => by have z1_ := e3_.mpr z_; have z2_ := e4_.mpr z1_.1; have z3_ := z1_.2; omega)])
end
/-! 99.y2c -/
section
/-! M_.nameOf -/
def vw_302 : sx_Wl := ([], [], [])
def vq_302 (m_ : Int) (t_ : Int) (b_ : Nat → Int) (n_ : Nat) (T_ : Nat) (A_ : pA) (mm_ : Nat) (q_ : Nat) (S0_ : sm_S) (u_ : Option sm_V) (S1_ : sm_S) : Prop := S0_ = S1_ ∧ ∃ v_ : Int, u_ = some (.inl v_) ∧ (v_ = p_fn b_ n_ A_ mm_ q_)
set_option maxHeartbeats 400000 in
theorem vl_302 {sc_ : Nat × (Nat → Int)} (m_ : Int) (t_ : Int) (b_ : Nat → Int) (n_ : Nat) (T_ : Nat) (A_ : pA) (mm_ : Nat) (q_ : Nat) (S0_ : sm_S) (ht_ : rtab b_ n_ T_ S0_) (hmm_ : m_ = (mm_ : Int) ∧ mm_ ≤ 15) (hr_ : re1 b_ n_ T_ A_ mm_ S0_) (hA_ : A_.1 mm_ ≤ 40) (hq_ : rtk b_ n_ T_ t_ q_) : ∀ nn_ : Nat, (∀ (s_ : Int) (S_ : sm_S), gi S_ → ai_fr (sx_W vw_302) S0_ S_ → ((0 ≤ s_ ∧ s_ ≤ (A_.1 mm_ : Int)) ∧ (p_fd (fun s_ => nm_q b_ n_ (A_.2.1 (40 * mm_ + s_)) q_) s_.toNat = -1) ∧ (S_ = S0_) ∧ True) → (((A_.1 mm_ : Int) - s_).toNat) < nn_ → sm_T (mt_P sc_) 1 302 (2, [some (.inr (.inr (some (13, 0)))), some (.inl m_), some (.inl t_), some (.inl s_)], [], S_) (fun r_ => ∃ u_ S1_, r_ = (.inl u_, S1_, 0) ∧ vq_302 m_ t_ b_ n_ T_ A_ mm_ q_ S0_ u_ S1_)) := by
  intro nn_
  induction nn_ with
  | zero => exact fun _ _ _ _ _ h_ => absurd h_ (Nat.not_lt_zero _)
  | succ nn_ ih_ =>
    rintro s_ S_ hI_ hF_ ⟨h0_, h1_, hS_, -⟩ hm_
    have ht1_ : rtab b_ n_ T_ S_ := by rw [hS_]; exact ht_
    obtain ⟨r1_, r2_⟩ := hr_
    have hK_ : S_.2.2.1 126 0 m_.toNat = (A_.1 mm_ : Int) := by rw [hS_, show m_.toNat = mm_ by omega]; exact r1_
    refine sm_T_go 4 (c1 := (8, [some (.inr (.inr (some (13, 0)))), some (.inl m_), some (.inl t_), some (.inl s_)], [.inl m_, .inr (.inr (some (126, 0))), .inl s_], S_)) rfl ?_
    refine sm_T_iald (n := 16) rfl rfl (by omega) (by omega) ?_
    have bx1_ : 0 ≤ S_.2.2.1 126 0 m_.toNat ∧ S_.2.2.1 126 0 m_.toNat ≤ 40 := hI_.2 126 0 _
    refine sm_T_br (a := 3) (z := 30) rfl (fun cx2_ => ?_) (fun cx2_ => ?_)
    · have cx2_ : (S_.2.2.1 126 0 m_.toNat) ≤ s_ := of_decide_eq_true cx2_
      refine sm_T_go 1 (c1 := (40, [some (.inr (.inr (some (13, 0)))), some (.inl m_), some (.inl t_), some (.inl s_)], [.inl (-1)], S_)) rfl ?_
      refine sm_T_ri rfl ⟨_, _, rfl, (by first | rfl | exact hS_.symm), _, rfl, ?_⟩
      unfold p_fn
      rw [show A_.1 mm_ = s_.toNat by omega]
      exact h1_.symm
    · have cx2_ : ¬ ((S_.2.2.1 126 0 m_.toNat) ≤ s_) := of_decide_eq_false cx2_
      refine sm_T_go 5 (c1 := (20, [some (.inr (.inr (some (13, 0)))), some (.inl m_), some (.inl t_), some (.inl s_)], [.inl m_, .inl 40, .inr (.inr (some (127, 0))), .inr (.inr (some (13, 0)))], S_)) rfl ?_
      refine sm_T_bin (w := 40 * m_) rfl (bi_mul (by omega) (by omega) (by omega)) ?_
      refine sm_T_go 1 (c1 := (22, [some (.inr (.inr (some (13, 0)))), some (.inl m_), some (.inl t_), some (.inl s_)], [.inl s_, .inl (40 * m_), .inr (.inr (some (127, 0))), .inr (.inr (some (13, 0)))], S_)) rfl ?_
      refine sm_T_bin (w := 40 * m_ + s_) rfl (bi_add (by omega) (by omega) (by omega)) ?_
      refine sm_T_iald (n := 640) rfl rfl (by omega) (by omega) ?_
      have bx3_ : 0 ≤ S_.2.2.1 127 0 (40 * m_ + s_).toNat ∧ S_.2.2.1 127 0 (40 * m_ + s_).toNat ≤ 1280 := hI_.2 127 0 _
      refine sm_T_go 1 (c1 := (25, [some (.inr (.inr (some (13, 0)))), some (.inl m_), some (.inl t_), some (.inl s_)], [.inl t_, .inl (S_.2.2.1 127 0 (40 * m_ + s_).toNat), .inr (.inr (some (13, 0)))], S_)) rfl ?_
      refine sm_T_cal (d1 := 0) (Q1 := vq_301 (S_.2.2.1 127 0 (40 * m_ + s_).toNat) t_ b_ n_ T_ (A_.2.1 (40 * mm_ + s_.toNat)) q_ S_) rfl rfl (by decide) (vc_301 (S_.2.2.1 127 0 (40 * m_ + s_).toNat) t_ b_ n_ T_ (A_.2.1 (40 * mm_ + s_.toNat)) q_ S_ hI_ (by exact ht1_) (by (rw [hS_, show (40 * m_ + s_).toNat = 40 * mm_ + s_.toNat by omega]; exact (r2_ s_.toNat (by omega)).1)) (by exact hq_)) (fun u_ Sx4_ px7_ => ?_)
      obtain ⟨rfl, vx9_, rfl, px7_⟩ := px7_
      have e28_ := px7_
      refine sm_T_b0 (a := 0) (z := 5) rfl (fun cx10_ => ?_) (fun cx10_ => ?_)
      · have cx10_ : vx9_ = 0 := of_decide_eq_true cx10_
        refine sm_T_inc (a := 3) (z := 1) (v := s_) (w := s_ + 1) rfl rfl (by omega) (by omega) (by omega) ?_
        refine sm_T_go 1 (c1 := (2, [some (.inr (.inr (some (13, 0)))), some (.inl m_), some (.inl t_), some (.inl (s_ + 1))], [], S_)) rfl ?_
        refine ih_ (s_ + 1) S_ hI_ hF_ ⟨?_, ?_, ?_, trivial⟩ ?_
        · omega
        · rw [show (s_ + 1).toNat = s_.toNat + 1 by omega]
          refine p_fd_nx h1_ ?_
          by_cases g_ : nm_q b_ n_ (A_.2.1 (40 * mm_ + s_.toNat)) q_ = true
          · rw [if_pos g_] at e28_
            omega
          · exact Bool.eq_false_iff.mpr g_
        · first | rfl | exact hS_
        · omega
      · have cx10_ : ¬ (vx9_ = 0) := of_decide_eq_false cx10_
        refine sm_T_go 1 (c1 := (32, [some (.inr (.inr (some (13, 0)))), some (.inl m_), some (.inl t_), some (.inl s_)], [.inl s_], S_)) rfl ?_
        refine sm_T_ri rfl ⟨_, _, rfl, (by first | rfl | exact hS_.symm), _, rfl, ?_⟩
        unfold p_fn
        rw [p_fd_go h1_ ?_ (show s_.toNat < A_.1 mm_ by omega)]
        · omega
        · by_cases g_ : nm_q b_ n_ (A_.2.1 (40 * mm_ + s_.toNat)) q_ = true
          · exact g_
          · rw [if_neg g_] at e28_
            omega
set_option maxHeartbeats 400000 in
theorem vc_302 {sc_ : Nat × (Nat → Int)} (m_ : Int) (t_ : Int) (b_ : Nat → Int) (n_ : Nat) (T_ : Nat) (A_ : pA) (mm_ : Nat) (q_ : Nat) (S0_ : sm_S) (hI_ : gi S0_) (ht_ : rtab b_ n_ T_ S0_) (hmm_ : m_ = (mm_ : Int) ∧ mm_ ≤ 15) (hr_ : re1 b_ n_ T_ A_ mm_ S0_) (hA_ : A_.1 mm_ ≤ 40) (hq_ : rtk b_ n_ T_ t_ q_) : sm_T (mt_P sc_) 1 302 (0, [some (.inr (.inr (some (13, 0)))), some (.inl m_), some (.inl t_), none], [], S0_) (fun r_ => ∃ u_ S1_, r_ = (.inl u_, S1_, 0) ∧ vq_302 m_ t_ b_ n_ T_ A_ mm_ q_ S0_ u_ S1_) := by
  have hF_ : ai_fr (sx_W vw_302) S0_ S0_ := ai_fr_rf
  refine sm_T_go 2 (c1 := (2, [some (.inr (.inr (some (13, 0)))), some (.inl m_), some (.inl t_), some (.inl 0)], [], S0_)) rfl ?_
  refine (vl_302 m_ t_ b_ n_ T_ A_ mm_ q_ S0_ ht_ hmm_ hr_ hA_ hq_ _) 0 S0_ hI_ hF_ ⟨?_, ?_, ?_, trivial⟩ (Nat.lt_succ_self _)
  · omega
  · rfl
  · first | rfl | exact hS_
end
/-! 99.y2d -/
section
/-! M_.moduleOf -/
def vw_303 : sx_Wl := ([], [], [])
def vq_303 (t_ : Int) (b_ : Nat → Int) (n_ : Nat) (T_ : Nat) (N_ : Nat → Nat) (M_ : Nat) (q_ : Nat) (S0_ : sm_S) (u_ : Option sm_V) (S1_ : sm_S) : Prop := S0_ = S1_ ∧ ∃ v_ : Int, u_ = some (.inl v_) ∧ (v_ = p_fm b_ n_ N_ M_ q_)
set_option maxHeartbeats 400000 in
theorem vl_303 {sc_ : Nat × (Nat → Int)} (t_ : Int) (b_ : Nat → Int) (n_ : Nat) (T_ : Nat) (N_ : Nat → Nat) (M_ : Nat) (q_ : Nat) (S0_ : sm_S) (ht_ : rtab b_ n_ T_ S0_) (hmm_ : (S0_.1 13 0 12) = (M_ : Int)) (hr_ : rnr b_ n_ T_ N_ M_ S0_) (hq_ : rtk b_ n_ T_ t_ q_) : ∀ nn_ : Nat, (∀ (s_ : Int) (S_ : sm_S), gi S_ → ai_fr (sx_W vw_303) S0_ S_ → ((0 ≤ s_ ∧ s_ ≤ (M_ : Int)) ∧ (p_fd (fun m_ => nm_q b_ n_ (N_ m_) q_) s_.toNat = -1) ∧ (S_ = S0_) ∧ True) → (((M_ : Int) - s_).toNat) < nn_ → sm_T (mt_P sc_) 1 303 (2, [some (.inr (.inr (some (13, 0)))), some (.inl t_), some (.inl s_)], [], S_) (fun r_ => ∃ u_ S1_, r_ = (.inl u_, S1_, 0) ∧ vq_303 t_ b_ n_ T_ N_ M_ q_ S0_ u_ S1_)) := by
  intro nn_
  induction nn_ with
  | zero => exact fun _ _ _ _ _ h_ => absurd h_ (Nat.not_lt_zero _)
  | succ nn_ ih_ =>
    rintro s_ S_ hI_ hF_ ⟨h0_, h1_, hS_, -⟩ hm_
    have ht1_ : rtab b_ n_ T_ S_ := by rw [hS_]; exact ht_
    obtain ⟨r1_, r2_⟩ := hr_
    have hK_ : S_.1 13 0 12 = (M_ : Int) := by rw [hS_]; exact hmm_
    have bx1_ : 0 ≤ S_.1 13 0 12 ∧ S_.1 13 0 12 ≤ 16 := hI_.1 13 0 12 rfl
    refine sm_T_go 3 (c1 := (7, [some (.inr (.inr (some (13, 0)))), some (.inl t_), some (.inl s_)], [.inl (S_.1 13 0 12), .inl s_], S_)) rfl ?_
    refine sm_T_br (a := 3) (z := 25) rfl (fun cx2_ => ?_) (fun cx2_ => ?_)
    · have cx2_ : (S_.1 13 0 12) ≤ s_ := of_decide_eq_true cx2_
      refine sm_T_go 1 (c1 := (33, [some (.inr (.inr (some (13, 0)))), some (.inl t_), some (.inl s_)], [.inl (-1)], S_)) rfl ?_
      refine sm_T_ri rfl ⟨_, _, rfl, (by first | rfl | exact hS_.symm), _, rfl, ?_⟩
      unfold p_fm
      rw [show M_ = s_.toNat by omega]
      exact h1_.symm
    · have cx2_ : ¬ ((S_.1 13 0 12) ≤ s_) := of_decide_eq_false cx2_
      refine sm_T_go 4 (c1 := (16, [some (.inr (.inr (some (13, 0)))), some (.inl t_), some (.inl s_)], [.inl s_, .inr (.inr (some (124, 0))), .inr (.inr (some (13, 0)))], S_)) rfl ?_
      refine sm_T_iald (n := 16) rfl rfl (by omega) (by omega) ?_
      have bx3_ : 0 ≤ S_.2.2.1 124 0 s_.toNat ∧ S_.2.2.1 124 0 s_.toNat ≤ 1280 := hI_.2 124 0 _
      refine sm_T_go 1 (c1 := (18, [some (.inr (.inr (some (13, 0)))), some (.inl t_), some (.inl s_)], [.inl t_, .inl (S_.2.2.1 124 0 s_.toNat), .inr (.inr (some (13, 0)))], S_)) rfl ?_
      refine sm_T_cal (d1 := 0) (Q1 := vq_301 (S_.2.2.1 124 0 s_.toNat) t_ b_ n_ T_ (N_ s_.toNat) q_ S_) rfl rfl (by decide) (vc_301 (S_.2.2.1 124 0 s_.toNat) t_ b_ n_ T_ (N_ s_.toNat) q_ S_ hI_ (by exact ht1_) (by (rw [hS_]; exact r2_ s_.toNat (by omega))) (by exact hq_)) (fun u_ Sx4_ px7_ => ?_)
      obtain ⟨rfl, vx9_, rfl, px7_⟩ := px7_
      have e28_ := px7_
      refine sm_T_b0 (a := 0) (z := 5) rfl (fun cx10_ => ?_) (fun cx10_ => ?_)
      · have cx10_ : vx9_ = 0 := of_decide_eq_true cx10_
        refine sm_T_inc (a := 2) (z := 1) (v := s_) (w := s_ + 1) rfl rfl (by omega) (by omega) (by omega) ?_
        refine sm_T_go 1 (c1 := (2, [some (.inr (.inr (some (13, 0)))), some (.inl t_), some (.inl (s_ + 1))], [], S_)) rfl ?_
        refine ih_ (s_ + 1) S_ hI_ hF_ ⟨?_, ?_, ?_, trivial⟩ ?_
        · omega
        · rw [show (s_ + 1).toNat = s_.toNat + 1 by omega]
          refine p_fd_nx h1_ ?_
          by_cases g_ : nm_q b_ n_ (N_ s_.toNat) q_ = true
          · rw [if_pos g_] at e28_
            omega
          · exact Bool.eq_false_iff.mpr g_
        · first | rfl | exact hS_
        · omega
      · have cx10_ : ¬ (vx9_ = 0) := of_decide_eq_false cx10_
        refine sm_T_go 1 (c1 := (25, [some (.inr (.inr (some (13, 0)))), some (.inl t_), some (.inl s_)], [.inl s_], S_)) rfl ?_
        refine sm_T_ri rfl ⟨_, _, rfl, (by first | rfl | exact hS_.symm), _, rfl, ?_⟩
        unfold p_fm
        rw [p_fd_go h1_ ?_ (show s_.toNat < M_ by omega)]
        · omega
        · by_cases g_ : nm_q b_ n_ (N_ s_.toNat) q_ = true
          · exact g_
          · rw [if_neg g_] at e28_
            omega
set_option maxHeartbeats 400000 in
theorem vc_303 {sc_ : Nat × (Nat → Int)} (t_ : Int) (b_ : Nat → Int) (n_ : Nat) (T_ : Nat) (N_ : Nat → Nat) (M_ : Nat) (q_ : Nat) (S0_ : sm_S) (hI_ : gi S0_) (ht_ : rtab b_ n_ T_ S0_) (hmm_ : (S0_.1 13 0 12) = (M_ : Int)) (hr_ : rnr b_ n_ T_ N_ M_ S0_) (hq_ : rtk b_ n_ T_ t_ q_) : sm_T (mt_P sc_) 1 303 (0, [some (.inr (.inr (some (13, 0)))), some (.inl t_), none], [], S0_) (fun r_ => ∃ u_ S1_, r_ = (.inl u_, S1_, 0) ∧ vq_303 t_ b_ n_ T_ N_ M_ q_ S0_ u_ S1_) := by
  have hF_ : ai_fr (sx_W vw_303) S0_ S0_ := ai_fr_rf
  refine sm_T_go 2 (c1 := (2, [some (.inr (.inr (some (13, 0)))), some (.inl t_), some (.inl 0)], [], S0_)) rfl ?_
  refine (vl_303 t_ b_ n_ T_ N_ M_ q_ S0_ ht_ hmm_ hr_ hq_ _) 0 S0_ hI_ hF_ ⟨?_, ?_, ?_, trivial⟩ (Nat.lt_succ_self _)
  · omega
  · rfl
  · first | rfl | exact hS_
end
/-! 99.y3 -/
section
/-! the reference: what waits; written by wip/p55/gen/vg -/

/-! the_ reference: what waits -/
def w_sg (k_ : Int) : Int := if k_ = 1 then 124 else if k_ = 2 then 94 else if k_ = 3 then 38 else if k_ = 4 then 257 else if k_ = 5 then 43 else if k_ = -3 then 63 else if k_ = -4 then 58 else 40
/-- a_ token at a_ place -/
def rtp (b_ : Nat → Int) (n_ T_ : Nat) (t_ : Int) (p_ : Nat) : Prop := ∃ i_ : Nat, t_ = (i_ : Int) ∧ i_ < T_ ∧ p_ = lxp b_ n_ i_ ∧ p_ < n_
def wl (b_ : Nat → Int) (n_ T_ : Nat) : List (Int × Nat) → List (Int × Int) → Prop
  | [], w_ => w_ = []
  | (k_, q_) :: o_, w_ => ∃ t_ u_, w_ = (w_sg k_, t_) :: u_ ∧ rtp b_ n_ T_ t_ q_ ∧ ((k_ ≠ -2 ∧ wl b_ n_ T_ o_ u_) ∨ ((k_ = -1 ∨ k_ = -2) ∧ ∃ u'_, u_ = (33, if k_ = -2 then 1 else 0) :: u'_ ∧ wl b_ n_ T_ o_ u'_))
def wt (b_ : Nat → Int) (n_ T_ : Nat) (t_ : Bool) (o_ : List (Int × Nat)) (w_ : List (Int × Int)) : Prop := (t_ = false ∧ wl b_ n_ T_ o_ w_) ∨ ∃ u_, w_ = (33, if t_ = true then 1 else 0) :: u_ ∧ wl b_ n_ T_ o_ u_
theorem w_sg_b {md_ : Bool} {k_ : Int} (h_ : k_ = -1 ∨ k_ = -2 ∨ (md_ = false ∧ (k_ = -3 ∨ k_ = -4)) ∨ (1 ≤ k_ ∧ k_ ≤ 5)) : w_sg k_ ≠ 33 ∧ w_sg k_ ≠ 0 ∧ p_lv false (w_sg k_) = (if 1 ≤ k_ then k_ else 0) ∧ (w_sg k_ = 257 ↔ k_ = 4) ∧ (w_sg k_ = 58 ↔ k_ = -4) ∧ (w_sg k_ = 63 ↔ k_ = -3) ∧ (w_sg k_ = 40 ↔ k_ = -1 ∨ k_ = -2) ∧ (w_sg k_ = 124 ↔ k_ = 1) ∧ (w_sg k_ = 94 ↔ k_ = 2) := by
  have hk_ : k_ = -1 ∨ k_ = -2 ∨ k_ = -3 ∨ k_ = -4 ∨ k_ = 1 ∨ k_ = 2 ∨ k_ = 3 ∨ k_ = 4 ∨ k_ = 5 := by omega
  rcases hk_ with e_ | e_ | e_ | e_ | e_ | e_ | e_ | e_ | e_ <;> (subst e_; decide)
theorem wl_len {b_ : Nat → Int} {n_ T_ : Nat} : ∀ {o_ : List (Int × Nat)} {w_ : List (Int × Int)}, wl b_ n_ T_ o_ w_ → w_.length ≤ 2 * o_.length ∧ o_.length ≤ w_.length
  | [], w_, h_ => by
    have h_ : w_ = [] := h_
    rw [h_]
    exact ⟨Nat.le_refl _, Nat.le_refl _⟩
  | (k_, q_) :: o_, w_, h_ => by
    obtain ⟨t_, u_, h1_, -, h2_⟩ := h_
    rw [h1_]
    rcases h2_ with h2_ | ⟨-, u'_, h3_, h4_⟩
    · have := wl_len h2_.2
      simp only [List.length_cons]
      omega
    · have := wl_len h4_
      rw [h3_]
      simp only [List.length_cons]
      omega
/-- what is_ on_ top_ -/
def w_tp (w_ : List (Int × Int)) : Int := match w_ with
  | [] => 0
  | x_ :: _ => x_.1
theorem wl_tp {b_ : Nat → Int} {n_ T_ : Nat} {md_ : Bool} {o_ : List (Int × Nat)} {w_ : List (Int × Int)} (h_ : wl b_ n_ T_ o_ w_) (ho_ : o_ok md_ o_) : w_tp w_ ≠ 33 ∧ p_lv false (w_tp w_) = (if 1 ≤ o_tp o_ then o_tp o_ else 0) ∧ (w_tp w_ = 257 ↔ o_tp o_ = 4) ∧ (w_tp w_ = 58 ↔ o_tp o_ = -4) ∧ (w_tp w_ = 63 ↔ o_tp o_ = -3) ∧ (w_tp w_ = 40 ↔ o_tp o_ = -1 ∨ o_tp o_ = -2) ∧ (w_ = [] ↔ o_ = []) := by
  cases o_ with
  | nil =>
    have h_ : w_ = [] := h_
    rw [h_]
    refine ⟨by decide, by decide, by decide, by decide, by decide, by decide, ⟨fun _ => rfl, fun _ => rfl⟩⟩
  | cons y_ o_ =>
    obtain ⟨k_, q_⟩ := y_
    obtain ⟨t_, u_, h1_, -, -⟩ := h_
    have h2_ := w_sg_b (md_ := md_) (k_ := k_) (by
      rcases ho_.1 with z_ | z_ | z_ | z_
      · exact Or.inl z_
      · exact Or.inr (Or.inl z_)
      · exact Or.inr (Or.inr (Or.inl z_))
      · exact Or.inr (Or.inr (Or.inr ⟨z_.1, z_.2.1⟩)))
    rw [h1_]
    exact ⟨h2_.1, h2_.2.2.1, h2_.2.2.2.1, h2_.2.2.2.2.1, h2_.2.2.2.2.2.1, h2_.2.2.2.2.2.2.1, ⟨fun z_ => (by cases z_), fun z_ => (by cases z_)⟩⟩
def ws (w_ : List (Int × Int)) (S_ : sm_S) : Prop := S_.1 13 0 32 = (w_.length : Int) ∧ stk (S_.2.2.1 136 0) (w_.map fun x_ => x_.1) ∧ stk (S_.2.2.1 137 0) (w_.map fun x_ => x_.2)
theorem ws_fr {w_ : sx_Wl} {S_ S'_ : sm_S} {l_ : List (Int × Int)} (x_ : ws l_ S_) (g_ : ai_fr (sx_W w_) S_ S'_) (h0_ : (sx_W w_).1 13 32 = false) (h1_ : (sx_W w_).2.1 136 = false) (h2_ : (sx_W w_).2.1 137 = false) : ws l_ S'_ := by
  unfold ws at x_ ⊢
  rw [g_.1 13 0 32 h0_, fr_arr g_ h1_, fr_arr g_ h2_]
  exact x_
theorem ws_tp {w_ : List (Int × Int)} {S_ : sm_S} (x_ : ws w_ S_) (h_ : 0 < S_.1 13 0 32) : S_.2.2.1 136 0 (S_.1 13 0 32 - 1).toNat = w_tp w_ ∧ ∃ y_ u_, w_ = y_ :: u_ ∧ S_.2.2.1 137 0 (S_.1 13 0 32 - 1).toNat = y_.2 ∧ (S_.1 13 0 32 - 1).toNat = u_.length := by
  cases w_ with
  | nil => exfalso; have := x_.1; simp only [List.length_nil] at this; omega
  | cons y_ u_ =>
    have h1_ := x_.1
    have h2_ := x_.2.1.1
    have h3_ := x_.2.2.1
    simp only [List.length_cons, List.length_map] at h1_ h2_ h3_
    have e_ : (S_.1 13 0 32 - 1).toNat = u_.length := by omega
    rw [e_]
    exact ⟨h2_, y_, u_, rfl, h3_, rfl⟩
theorem ws_t0 {w_ : List (Int × Int)} {S_ : sm_S} (x_ : ws w_ S_) (h_ : ¬ 0 < S_.1 13 0 32) : w_ = [] := by
  cases w_ with
  | nil => rfl
  | cons y_ u_ => exfalso; have := x_.1; simp only [List.length_cons] at this; omega
/-! held values -/
def vs (mo_ : Int) (g_ : List Int) (S_ : sm_S) : Prop := S_.1 13 0 34 = (g_.length : Int) ∧ (mo_ ≠ 2 → stk (S_.2.2.1 138 0) g_) ∧ (mo_ = 2 → stk (fun j_ => S_.2.2.1 139 0 (8 * j_)) g_)
theorem vs_fr {w_ : sx_Wl} {S_ S'_ : sm_S} {mo_ : Int} {g_ : List Int} (x_ : vs mo_ g_ S_) (f_ : ai_fr (sx_W w_) S_ S'_) (h0_ : (sx_W w_).1 13 34 = false) (h1_ : (sx_W w_).2.1 138 = false) (h2_ : (sx_W w_).2.1 139 = false) : vs mo_ g_ S'_ := by
  unfold vs at x_ ⊢
  rw [f_.1 13 0 34 h0_, fr_arr f_ h1_, fr_arr f_ h2_]
  exact x_
theorem i_x11 {x_ y_ : Int} (hx_ : 0 ≤ x_ ∧ x_ ≤ 2047) (hy_ : 0 ≤ y_ ∧ y_ ≤ 2047) : (0 ≤ i_or x_ y_ ∧ i_or x_ y_ ≤ 2047) ∧ (0 ≤ i_xor x_ y_ ∧ i_xor x_ y_ ≤ 2047) ∧ (0 ≤ i_and x_ y_ ∧ i_and x_ y_ ≤ 2047) := by
  have h1_ : (x_.toNat ||| y_.toNat) < 2 ^ 11 := Nat.or_lt_two_pow (by omega) (by omega)
  have h2_ : (x_.toNat ^^^ y_.toNat) < 2 ^ 11 := Nat.xor_lt_two_pow (by omega) (by omega)
  have h3_ : (x_.toNat &&& y_.toNat) < 2 ^ 11 := Nat.and_lt_two_pow _ (by omega)
  have e1_ : i_or x_ y_ = ((x_.toNat ||| y_.toNat : Nat) : Int) := bt_or_nat hx_.1 (by omega) hy_.1 (by omega)
  have e2_ : i_xor x_ y_ = ((x_.toNat ^^^ y_.toNat : Nat) : Int) := bt_xor_nat hx_.1 (by omega) hy_.1 (by omega)
  have e3_ : i_and x_ y_ = ((x_.toNat &&& y_.toNat : Nat) : Int) := bt_and_nat hx_.1 (by omega) hy_.1 (by omega)
  rw [e1_, e2_, e3_]
  omega
end
/-! 99.y4a -/
section
/-! the reference: operators; written by wip/p55/gen/vg -/
/-! M_.hold -/
def vw_311 : sx_Wl := ([(13, 32)], [136, 137], [])
def vq_311 (s_ : Int) (t_ : Int) (l_ : List (Int × Int)) (S0_ : sm_S) (u_ : Option sm_V) (S1_ : sm_S) : Prop := u_ = none ∧ gi S1_ ∧ ai_fr (sx_W vw_311) S0_ S1_ ∧ (ws ((s_, t_) :: l_) S1_)
set_option maxHeartbeats 400000 in
theorem vc_311 {sc_ : Nat × (Nat → Int)} (s_ : Int) (t_ : Int) (l_ : List (Int × Int)) (S0_ : sm_S) (hI_ : gi S0_) (hw_ : ws l_ S0_) (hl_ : l_.length ≤ 1000) (ht_ : 0 ≤ t_ ∧ t_ ≤ 1280) (hs_ : 0 ≤ s_ ∧ s_ ≤ 1000) : sm_T (mt_P sc_) 0 311 (0, [some (.inr (.inr (some (13, 0)))), some (.inl s_), some (.inl t_)], [], S0_) (fun r_ => ∃ u_ S1_, r_ = (.inl u_, S1_, 0) ∧ vq_311 s_ t_ l_ S0_ u_ S1_) := by
  have hF_ : ai_fr (sx_W vw_311) S0_ S0_ := ai_fr_rf
  obtain ⟨x1_, x2_, x3_⟩ := id hw_
  have e1_ : (S0_.1 13 0 32).toNat = (l_.map fun x_ => x_.1).length := by rw [List.length_map]; omega
  have e2_ : (S0_.1 13 0 32).toNat = (l_.map fun x_ => x_.2).length := by rw [List.length_map]; omega
  have bx1_ : 0 ≤ S0_.1 13 0 32 ∧ S0_.1 13 0 32 ≤ 1023 := hI_.1 13 0 32 rfl
  refine sm_T_go 5 (c1 := (9, [some (.inr (.inr (some (13, 0)))), some (.inl s_), some (.inl t_)], [.inl s_, .inl (S0_.1 13 0 32), .inr (.inr (some (136, 0)))], S0_)) rfl ?_
  refine sm_T_iast (n := 1024) rfl rfl (by omega) (by omega) ?_
  have hIx2_ : gi (sm_aI S0_ 136 0 (S0_.1 13 0 32).toNat s_) := gi_aI hI_ (show (-2147483648) ≤ s_ ∧ s_ ≤ 2147483647 from ⟨by omega, by omega⟩)
  have hFx3_ : ai_fr (sx_W vw_311) S0_ (sm_aI S0_ 136 0 (S0_.1 13 0 32).toNat s_) := ai_fr_tr hF_ (ai_fr_aI rfl)
  refine sm_T_go 5 (c1 := (19, [some (.inr (.inr (some (13, 0)))), some (.inl s_), some (.inl t_)], [.inl t_, .inl (S0_.1 13 0 32), .inr (.inr (some (137, 0)))], sm_aI S0_ 136 0 (S0_.1 13 0 32).toNat s_)) rfl ?_
  refine sm_T_iast (n := 1024) rfl rfl (by omega) (by omega) ?_
  have hIx4_ : gi (sm_aI (sm_aI S0_ 136 0 (S0_.1 13 0 32).toNat s_) 137 0 (S0_.1 13 0 32).toNat t_) := gi_aI hIx2_ (show 0 ≤ t_ ∧ t_ ≤ 1280 from ⟨by omega, by omega⟩)
  have hFx5_ : ai_fr (sx_W vw_311) S0_ (sm_aI (sm_aI S0_ 136 0 (S0_.1 13 0 32).toNat s_) 137 0 (S0_.1 13 0 32).toNat t_) := ai_fr_tr hFx3_ (ai_fr_aI rfl)
  refine sm_T_go 4 (c1 := (26, [some (.inr (.inr (some (13, 0)))), some (.inl s_), some (.inl t_)], [.inl 1, .inl (S0_.1 13 0 32), .inr (.inr (some (13, 0)))], sm_aI (sm_aI S0_ 136 0 (S0_.1 13 0 32).toNat s_) 137 0 (S0_.1 13 0 32).toNat t_)) rfl ?_
  refine sm_T_bin (w := (S0_.1 13 0 32) + 1) rfl (bi_add (by omega) (by omega) (by omega)) ?_
  have hIx6_ : gi (sm_pI (sm_aI (sm_aI S0_ 136 0 (S0_.1 13 0 32).toNat s_) 137 0 (S0_.1 13 0 32).toNat t_) 13 0 32 ((S0_.1 13 0 32) + 1)) := gi_pI hIx4_ (show 0 ≤ (S0_.1 13 0 32) + 1 ∧ (S0_.1 13 0 32) + 1 ≤ 1023 from ⟨by omega, by omega⟩)
  have hFx7_ : ai_fr (sx_W vw_311) S0_ (sm_pI (sm_aI (sm_aI S0_ 136 0 (S0_.1 13 0 32).toNat s_) 137 0 (S0_.1 13 0 32).toNat t_) 13 0 32 ((S0_.1 13 0 32) + 1)) := ai_fr_tr hFx5_ (ai_fr_pI rfl)
  refine sm_T_go 1 (c1 := (30, [some (.inr (.inr (some (13, 0)))), some (.inl s_), some (.inl t_)], [], sm_pI (sm_aI (sm_aI S0_ 136 0 (S0_.1 13 0 32).toNat s_) 137 0 (S0_.1 13 0 32).toNat t_) 13 0 32 ((S0_.1 13 0 32) + 1))) rfl ?_
  refine sm_T_rv rfl ⟨_, _, rfl, rfl, hIx6_, hFx7_, ?_⟩
  refine ⟨?_, stk_ot (stk_pu e1_ rfl x2_) (by decide), stk_pu (S_ := sm_aI S0_ 136 0 (S0_.1 13 0 32).toNat s_) e2_ rfl (stk_ot x3_ (by decide))⟩
  (try simp only [rd_eq, rd_ne, rf_eq, rf_nk, rf_nt, rd_fa, rd_af, rd_fl, rd_al, rd_lf, rd_la, rd_leq, rd_lne, rd_fr, rd_ar, ne_eq, Nat.reduceEqDiff, not_false_eq_true])
  simp only [List.length_cons]; push_cast; omega
end
/-! 99.y4b -/
section
/-! M_.top -/
def vw_312 : sx_Wl := ([], [], [])
def vq_312 (l_ : List (Int × Int)) (S0_ : sm_S) (u_ : Option sm_V) (S1_ : sm_S) : Prop := S0_ = S1_ ∧ ∃ v_ : Int, u_ = some (.inl v_) ∧ (v_ = w_tp l_)
set_option maxHeartbeats 400000 in
theorem vc_312 {sc_ : Nat × (Nat → Int)} (l_ : List (Int × Int)) (S0_ : sm_S) (hI_ : gi S0_) (hw_ : ws l_ S0_) : sm_T (mt_P sc_) 0 312 (0, [some (.inr (.inr (some (13, 0))))], [], S0_) (fun r_ => ∃ u_ S1_, r_ = (.inl u_, S1_, 0) ∧ vq_312 l_ S0_ u_ S1_) := by
  have hF_ : ai_fr (sx_W vw_312) S0_ S0_ := ai_fr_rf
  have bx1_ : 0 ≤ S0_.1 13 0 32 ∧ S0_.1 13 0 32 ≤ 1023 := hI_.1 13 0 32 rfl
  refine sm_T_go 2 (c1 := (4, [some (.inr (.inr (some (13, 0))))], [.inl (S0_.1 13 0 32)], S0_)) rfl ?_
  refine sm_T_b0 (a := 5) (z := 17) rfl (fun cx2_ => ?_) (fun cx2_ => ?_)
  · have cx2_ : (S0_.1 13 0 32) ≤ 0 := of_decide_eq_true cx2_
    refine sm_T_go 1 (c1 := (22, [some (.inr (.inr (some (13, 0))))], [.inl 0], S0_)) rfl ?_
    refine sm_T_ri rfl ⟨_, _, rfl, rfl, _, rfl, ?_⟩
    first | (rw [ws_t0 hw_ (by omega)]; rfl) | exact (ws_tp hw_ (by omega)).1
  · have cx2_ : ¬ ((S0_.1 13 0 32) ≤ 0) := of_decide_eq_false cx2_
    refine sm_T_go 5 (c1 := (16, [some (.inr (.inr (some (13, 0))))], [.inl 1, .inl (S0_.1 13 0 32), .inr (.inr (some (136, 0)))], S0_)) rfl ?_
    refine sm_T_bin (w := (S0_.1 13 0 32) - 1) rfl (bi_sub (by omega) (by omega) (by omega)) ?_
    refine sm_T_iald (n := 1024) rfl rfl (by omega) (by omega) ?_
    have bx3_ : (-2147483648) ≤ S0_.2.2.1 136 0 ((S0_.1 13 0 32) - 1).toNat ∧ S0_.2.2.1 136 0 ((S0_.1 13 0 32) - 1).toNat ≤ 2147483647 := hI_.2 136 0 _
    refine sm_T_go 1 (c1 := (22, [some (.inr (.inr (some (13, 0))))], [.inl (S0_.2.2.1 136 0 ((S0_.1 13 0 32) - 1).toNat)], S0_)) rfl ?_
    refine sm_T_ri rfl ⟨_, _, rfl, rfl, _, rfl, ?_⟩
    first | (rw [ws_t0 hw_ (by omega)]; rfl) | exact (ws_tp hw_ (by omega)).1
end
/-! 99.y4c -/
section
/-! M_.rank -/
def vw_309 : sx_Wl := ([], [], [])
def vq_309 (s_ : Int) (S0_ : sm_S) (u_ : Option sm_V) (S1_ : sm_S) : Prop := S0_ = S1_ ∧ ∃ v_ : Int, u_ = some (.inl v_) ∧ (v_ = p_lv false s_)
set_option maxHeartbeats 400000 in
theorem vc_309 {sc_ : Nat × (Nat → Int)} (s_ : Int) (S0_ : sm_S) (hI_ : gi S0_)  : sm_T (mt_P sc_) 0 309 (0, [some (.inl s_)], [], S0_) (fun r_ => ∃ u_ S1_, r_ = (.inl u_, S1_, 0) ∧ vq_309 s_ S0_ u_ S1_) := by
  have hF_ : ai_fr (sx_W vw_309) S0_ S0_ := ai_fr_rf
  refine sm_T_go 2 (c1 := (3, [some (.inl s_)], [.inl 124, .inl s_], S0_)) rfl ?_
  refine sm_T_br (a := 1) (z := 7) rfl (fun cx1_ => ?_) (fun cx1_ => ?_)
  · have cx1_ : s_ ≠ 124 := of_decide_eq_true cx1_
    refine sm_T_go 2 (c1 := (13, [some (.inl s_)], [.inl 94, .inl s_], S0_)) rfl ?_
    refine sm_T_br (a := 1) (z := 7) rfl (fun cx2_ => ?_) (fun cx2_ => ?_)
    · have cx2_ : s_ ≠ 94 := of_decide_eq_true cx2_
      refine sm_T_go 2 (c1 := (23, [some (.inl s_)], [.inl 38, .inl s_], S0_)) rfl ?_
      refine sm_T_br (a := 1) (z := 7) rfl (fun cx3_ => ?_) (fun cx3_ => ?_)
      · have cx3_ : s_ ≠ 38 := of_decide_eq_true cx3_
        refine sm_T_go 2 (c1 := (34, [some (.inl s_)], [.inl 257, .inl s_], S0_)) rfl ?_
        refine sm_T_br (a := 1) (z := 7) rfl (fun cx4_ => ?_) (fun cx4_ => ?_)
        · have cx4_ : s_ ≠ 257 := of_decide_eq_true cx4_
          refine sm_T_go 2 (c1 := (44, [some (.inl s_)], [.inl 43, .inl s_], S0_)) rfl ?_
          refine sm_T_br (a := 1) (z := 7) rfl (fun cx5_ => ?_) (fun cx5_ => ?_)
          · have cx5_ : s_ ≠ 43 := of_decide_eq_true cx5_
            refine sm_T_go 1 (c1 := (52, [some (.inl s_)], [.inl 0], S0_)) rfl ?_
            refine sm_T_ri rfl ⟨_, _, rfl, rfl, _, rfl, ?_⟩
            unfold p_lv
            first | rw [if_pos (by omega)] | rw [if_neg (by omega), if_pos (by omega)] | rw [if_neg (by omega), if_neg (by omega), if_pos (by omega)] | rw [if_neg (by omega), if_neg (by omega), if_neg (by omega), if_neg (by decide), if_pos (by omega)] | rw [if_neg (by omega), if_neg (by omega), if_neg (by omega), if_neg (by decide), if_neg (by omega), if_pos (by omega)] | rw [if_neg (by omega), if_neg (by omega), if_neg (by omega), if_neg (by decide), if_neg (by omega), if_neg (by omega)]
          · have cx5_ : ¬ (s_ ≠ 43) := of_decide_eq_false cx5_
            refine sm_T_go 2 (c1 := (52, [some (.inl s_)], [.inl 5], S0_)) rfl ?_
            refine sm_T_ri rfl ⟨_, _, rfl, rfl, _, rfl, ?_⟩
            unfold p_lv
            first | rw [if_pos (by omega)] | rw [if_neg (by omega), if_pos (by omega)] | rw [if_neg (by omega), if_neg (by omega), if_pos (by omega)] | rw [if_neg (by omega), if_neg (by omega), if_neg (by omega), if_neg (by decide), if_pos (by omega)] | rw [if_neg (by omega), if_neg (by omega), if_neg (by omega), if_neg (by decide), if_neg (by omega), if_pos (by omega)] | rw [if_neg (by omega), if_neg (by omega), if_neg (by omega), if_neg (by decide), if_neg (by omega), if_neg (by omega)]
        · have cx4_ : ¬ (s_ ≠ 257) := of_decide_eq_false cx4_
          refine sm_T_go 2 (c1 := (52, [some (.inl s_)], [.inl 4], S0_)) rfl ?_
          refine sm_T_ri rfl ⟨_, _, rfl, rfl, _, rfl, ?_⟩
          unfold p_lv
          first | rw [if_pos (by omega)] | rw [if_neg (by omega), if_pos (by omega)] | rw [if_neg (by omega), if_neg (by omega), if_pos (by omega)] | rw [if_neg (by omega), if_neg (by omega), if_neg (by omega), if_neg (by decide), if_pos (by omega)] | rw [if_neg (by omega), if_neg (by omega), if_neg (by omega), if_neg (by decide), if_neg (by omega), if_pos (by omega)] | rw [if_neg (by omega), if_neg (by omega), if_neg (by omega), if_neg (by decide), if_neg (by omega), if_neg (by omega)]
      · have cx3_ : ¬ (s_ ≠ 38) := of_decide_eq_false cx3_
        refine sm_T_go 2 (c1 := (52, [some (.inl s_)], [.inl 3], S0_)) rfl ?_
        refine sm_T_ri rfl ⟨_, _, rfl, rfl, _, rfl, ?_⟩
        unfold p_lv
        first | rw [if_pos (by omega)] | rw [if_neg (by omega), if_pos (by omega)] | rw [if_neg (by omega), if_neg (by omega), if_pos (by omega)] | rw [if_neg (by omega), if_neg (by omega), if_neg (by omega), if_neg (by decide), if_pos (by omega)] | rw [if_neg (by omega), if_neg (by omega), if_neg (by omega), if_neg (by decide), if_neg (by omega), if_pos (by omega)] | rw [if_neg (by omega), if_neg (by omega), if_neg (by omega), if_neg (by decide), if_neg (by omega), if_neg (by omega)]
    · have cx2_ : ¬ (s_ ≠ 94) := of_decide_eq_false cx2_
      refine sm_T_go 2 (c1 := (52, [some (.inl s_)], [.inl 2], S0_)) rfl ?_
      refine sm_T_ri rfl ⟨_, _, rfl, rfl, _, rfl, ?_⟩
      unfold p_lv
      first | rw [if_pos (by omega)] | rw [if_neg (by omega), if_pos (by omega)] | rw [if_neg (by omega), if_neg (by omega), if_pos (by omega)] | rw [if_neg (by omega), if_neg (by omega), if_neg (by omega), if_neg (by decide), if_pos (by omega)] | rw [if_neg (by omega), if_neg (by omega), if_neg (by omega), if_neg (by decide), if_neg (by omega), if_pos (by omega)] | rw [if_neg (by omega), if_neg (by omega), if_neg (by omega), if_neg (by decide), if_neg (by omega), if_neg (by omega)]
  · have cx1_ : ¬ (s_ ≠ 124) := of_decide_eq_false cx1_
    refine sm_T_go 2 (c1 := (52, [some (.inl s_)], [.inl 1], S0_)) rfl ?_
    refine sm_T_ri rfl ⟨_, _, rfl, rfl, _, rfl, ?_⟩
    unfold p_lv
    first | rw [if_pos (by omega)] | rw [if_neg (by omega), if_pos (by omega)] | rw [if_neg (by omega), if_neg (by omega), if_pos (by omega)] | rw [if_neg (by omega), if_neg (by omega), if_neg (by omega), if_neg (by decide), if_pos (by omega)] | rw [if_neg (by omega), if_neg (by omega), if_neg (by omega), if_neg (by decide), if_neg (by omega), if_pos (by omega)] | rw [if_neg (by omega), if_neg (by omega), if_neg (by omega), if_neg (by decide), if_neg (by omega), if_neg (by omega)]

/-! levels on_ both sides -/
theorem p_lv_md {k_ : Int} : (p_lv true k_ = if p_lv false k_ < 4 then p_lv false k_ else 0) := by
  by_cases g1_ : k_ = 124
  · subst g1_; decide
  · by_cases g2_ : k_ = 94
    · subst g2_; decide
    · by_cases g3_ : k_ = 38
      · subst g3_; decide
      · by_cases g4_ : k_ = 257
        · subst g4_; decide
        · by_cases g5_ : k_ = 43
          · subst g5_; decide
          · simp [p_lv, g1_, g2_, g3_, g4_, g5_]
theorem p_lv_lo {md_ : Bool} {k_ : Int} (h_ : k_ < 33) : p_lv md_ k_ = 0 := by
  unfold p_lv
  rw [if_neg (by omega), if_neg (by omega), if_neg (by omega)]
  split
  · rfl
  · rw [if_neg (by omega), if_neg (by omega)]
def mdo (mo_ : Int) : Bool := decide (mo_ = 2)
end
/-! 99.y4d -/
section
/-! M_.isOperator -/
def vw_310 : sx_Wl := ([], [], [])
def vq_310 (b_ : Nat → Int) (n_ : Nat) (T_ : Nat) (x_ : pE Nat) (mo_ : Int) (S0_ : sm_S) (u_ : Option sm_V) (S1_ : sm_S) : Prop := S0_ = S1_ ∧ ∃ v_ : Int, u_ = some (.inl v_) ∧ ((v_ = 0 ∨ v_ = 1) ∧ ∀ p_ : Nat, x_ = .inr p_ → (v_ = 1 ↔ 0 < p_lv (mdo mo_) (lx_kd b_ n_ p_)) ∧ (v_ = 1 → (S1_.2.2.1 119 0 (((S1_.1 13 0 9)).toNat)) = 3 ∧ (S1_.2.2.1 121 0 (((S1_.1 13 0 9)).toNat)) = lx_kd b_ n_ p_ ∧ p_lv (mdo mo_) (lx_kd b_ n_ p_) = p_lv false (lx_kd b_ n_ p_)))
set_option maxHeartbeats 400000 in
theorem vc_310 {sc_ : Nat × (Nat → Int)} (b_ : Nat → Int) (n_ : Nat) (T_ : Nat) (x_ : pE Nat) (mo_ : Int) (S0_ : sm_S) (hI_ : gi S0_) (ht_ : rtab b_ n_ T_ S0_) (hx_ : rg b_ n_ T_ x_ S0_) (hmo_ : (S0_.1 13 0 27) = mo_ ∧ (0 ≤ mo_ ∧ mo_ ≤ 2)) : sm_T (mt_P sc_) 1 310 (0, [some (.inr (.inr (some (13, 0)))), none], [], S0_) (fun r_ => ∃ u_ S1_, r_ = (.inl u_, S1_, 0) ∧ vq_310 b_ n_ T_ x_ mo_ S0_ u_ S1_) := by
  have hF_ : ai_fr (sx_W vw_310) S0_ S0_ := ai_fr_rf
  have hat_ : ∀ p_ : Nat, x_ = .inr p_ → S0_.2.2.1 119 0 (S0_.1 13 0 9).toNat = r_st (lx_kd b_ n_ p_) ∧ S0_.2.2.1 121 0 (S0_.1 13 0 9).toNat = r_nb (lx_kd b_ n_ p_) (lx_vl b_ n_ p_) ∧ (0 ≤ lx_kd b_ n_ p_ ∧ (lx_kd b_ n_ p_ ≤ 9 ∨ 33 ≤ lx_kd b_ n_ p_)) := by intro p_ e_; rw [e_] at hx_; obtain ⟨i_, h1_, h2_⟩ := hx_.2; have h3_ := rp_at ht_ h2_; rw [show (S0_.1 13 0 9).toNat = i_ by omega]; exact ⟨h3_.1, h3_.2.2.1, lx_kd_r h2_.2.2.1⟩
  have bx1_ : 0 ≤ S0_.1 13 0 9 ∧ S0_.1 13 0 9 ≤ 1280 := hI_.1 13 0 9 rfl
  refine sm_T_go 4 (c1 := (8, [some (.inr (.inr (some (13, 0)))), none], [.inl (S0_.1 13 0 9), .inr (.inr (some (119, 0)))], S0_)) rfl ?_
  refine sm_T_bald (n := 65537) rfl rfl (by omega) (by omega) ?_
  have bx2_ : (-128) ≤ S0_.2.2.1 119 0 (S0_.1 13 0 9).toNat ∧ S0_.2.2.1 119 0 (S0_.1 13 0 9).toNat ≤ 127 := hI_.2 119 0 _
  refine sm_T_go 1 (c1 := (10, [some (.inr (.inr (some (13, 0)))), none], [.inl 3, .inl (S0_.2.2.1 119 0 (S0_.1 13 0 9).toNat)], S0_)) rfl ?_
  refine sm_T_br (a := 1) (z := 18) rfl (fun cx3_ => ?_) (fun cx3_ => ?_)
  · have cx3_ : (S0_.2.2.1 119 0 (S0_.1 13 0 9).toNat) ≠ 3 := of_decide_eq_true cx3_
    refine sm_T_go 5 (c1 := (52, [some (.inr (.inr (some (13, 0)))), some (.inl 0)], [.inl 0], S0_)) rfl ?_
    refine sm_T_rz rfl (by omega) ⟨_, _, rfl, rfl, _, rfl, ?_⟩
    refine ⟨by omega, fun p_ e_ => ?_⟩
    obtain ⟨q1_, q2_, q3_⟩ := hat_ p_ e_
    have q4_ := (r_st_3 q3_).1
    have q8_ := p_lv_b (md_ := false) (k_ := lx_kd b_ n_ p_)
    have q9_ : p_lv (mdo mo_) (lx_kd b_ n_ p_) = if mo_ = 2 ∧ 4 ≤ p_lv false (lx_kd b_ n_ p_) then 0 else p_lv false (lx_kd b_ n_ p_) := by unfold mdo; by_cases z_ : mo_ = 2; (rw [decide_eq_true z_, p_lv_md]; by_cases y_ : p_lv false (lx_kd b_ n_ p_) < 4; (rw [if_pos y_, if_neg (by omega)]); (rw [if_neg y_, if_pos (by omega)])); (rw [decide_eq_false z_, if_neg (by omega)])
    rw [q9_]
    by_cases g_ : 33 ≤ lx_kd b_ n_ p_
    · have q5_ := r_nb_s (v_ := lx_vl b_ n_ p_) g_
      have q6_ : p_lv false (S0_.2.2.1 121 0 (S0_.1 13 0 9).toNat) = p_lv false (lx_kd b_ n_ p_) := by rw [q2_, q5_]
      by_cases y_ : mo_ = 2 ∧ 4 ≤ p_lv false (lx_kd b_ n_ p_)
      · rw [if_pos y_]; refine ⟨by omega, fun z_ => ⟨by omega, by omega, ?_⟩⟩; omega
      · rw [if_neg y_]; refine ⟨by omega, fun z_ => ⟨by omega, by omega, rfl⟩⟩
    · have q6_ := p_lv_lo (md_ := false) (k_ := lx_kd b_ n_ p_) (by omega)
      by_cases y_ : mo_ = 2 ∧ 4 ≤ p_lv false (lx_kd b_ n_ p_)
      · omega
      · rw [if_neg y_]; refine ⟨by omega, fun z_ => ⟨by omega, by omega, rfl⟩⟩
  · have cx3_ : ¬ ((S0_.2.2.1 119 0 (S0_.1 13 0 9).toNat) ≠ 3) := of_decide_eq_false cx3_
    refine sm_T_go 4 (c1 := (21, [some (.inr (.inr (some (13, 0)))), none], [.inl (S0_.1 13 0 9), .inr (.inr (some (121, 0)))], S0_)) rfl ?_
    refine sm_T_iald (n := 65537) rfl rfl (by omega) (by omega) ?_
    have bx4_ : (-2147483648) ≤ S0_.2.2.1 121 0 (S0_.1 13 0 9).toNat ∧ S0_.2.2.1 121 0 (S0_.1 13 0 9).toNat ≤ 2147483647 := hI_.2 121 0 _
    refine sm_T_cal (d1 := 0) (Q1 := vq_309 (S0_.2.2.1 121 0 (S0_.1 13 0 9).toNat) S0_) rfl rfl (by decide) (vc_309 (S0_.2.2.1 121 0 (S0_.1 13 0 9).toNat) S0_ hI_ ) (fun u_ Sx5_ px8_ => ?_)
    obtain ⟨rfl, vx10_, rfl, px8_⟩ := px8_
    have e22_ := px8_
    refine sm_T_go 3 (c1 := (31, [some (.inr (.inr (some (13, 0)))), some (.inl vx10_)], [.inl vx10_], S0_)) rfl ?_
    refine sm_T_b0 (a := 5) (z := 20) rfl (fun cx11_ => ?_) (fun cx11_ => ?_)
    · have cx11_ : vx10_ ≤ 0 := of_decide_eq_true cx11_
      refine sm_T_go 1 (c1 := (52, [some (.inr (.inr (some (13, 0)))), some (.inl vx10_)], [.inl 0], S0_)) rfl ?_
      refine sm_T_rz rfl (by omega) ⟨_, _, rfl, rfl, _, rfl, ?_⟩
      refine ⟨by omega, fun p_ e_ => ?_⟩
      obtain ⟨q1_, q2_, q3_⟩ := hat_ p_ e_
      have q4_ := (r_st_3 q3_).1
      have q8_ := p_lv_b (md_ := false) (k_ := lx_kd b_ n_ p_)
      have q9_ : p_lv (mdo mo_) (lx_kd b_ n_ p_) = if mo_ = 2 ∧ 4 ≤ p_lv false (lx_kd b_ n_ p_) then 0 else p_lv false (lx_kd b_ n_ p_) := by unfold mdo; by_cases z_ : mo_ = 2; (rw [decide_eq_true z_, p_lv_md]; by_cases y_ : p_lv false (lx_kd b_ n_ p_) < 4; (rw [if_pos y_, if_neg (by omega)]); (rw [if_neg y_, if_pos (by omega)])); (rw [decide_eq_false z_, if_neg (by omega)])
      rw [q9_]
      by_cases g_ : 33 ≤ lx_kd b_ n_ p_
      · have q5_ := r_nb_s (v_ := lx_vl b_ n_ p_) g_
        have q6_ : p_lv false (S0_.2.2.1 121 0 (S0_.1 13 0 9).toNat) = p_lv false (lx_kd b_ n_ p_) := by rw [q2_, q5_]
        by_cases y_ : mo_ = 2 ∧ 4 ≤ p_lv false (lx_kd b_ n_ p_)
        · rw [if_pos y_]; refine ⟨by omega, fun z_ => ⟨by omega, by omega, ?_⟩⟩; omega
        · rw [if_neg y_]; refine ⟨by omega, fun z_ => ⟨by omega, by omega, rfl⟩⟩
      · have q6_ := p_lv_lo (md_ := false) (k_ := lx_kd b_ n_ p_) (by omega)
        by_cases y_ : mo_ = 2 ∧ 4 ≤ p_lv false (lx_kd b_ n_ p_)
        · omega
        · rw [if_neg y_]; refine ⟨by omega, fun z_ => ⟨by omega, by omega, rfl⟩⟩
    · have cx11_ : ¬ (vx10_ ≤ 0) := of_decide_eq_false cx11_
      have bx12_ : 0 ≤ S0_.1 13 0 27 ∧ S0_.1 13 0 27 ≤ 2 := hI_.1 13 0 27 rfl
      refine sm_T_go 3 (c1 := (39, [some (.inr (.inr (some (13, 0)))), some (.inl vx10_)], [.inl 2, .inl (S0_.1 13 0 27)], S0_)) rfl ?_
      refine sm_T_br (a := 2) (z := 8) rfl (fun cx13_ => ?_) (fun cx13_ => ?_)
      · have cx13_ : (S0_.1 13 0 27) < 2 := of_decide_eq_true cx13_
        refine sm_T_go 2 (c1 := (52, [some (.inr (.inr (some (13, 0)))), some (.inl vx10_)], [.inl 1], S0_)) rfl ?_
        refine sm_T_rz rfl (by omega) ⟨_, _, rfl, rfl, _, rfl, ?_⟩
        refine ⟨by omega, fun p_ e_ => ?_⟩
        obtain ⟨q1_, q2_, q3_⟩ := hat_ p_ e_
        have q4_ := (r_st_3 q3_).1
        have q8_ := p_lv_b (md_ := false) (k_ := lx_kd b_ n_ p_)
        have q9_ : p_lv (mdo mo_) (lx_kd b_ n_ p_) = if mo_ = 2 ∧ 4 ≤ p_lv false (lx_kd b_ n_ p_) then 0 else p_lv false (lx_kd b_ n_ p_) := by unfold mdo; by_cases z_ : mo_ = 2; (rw [decide_eq_true z_, p_lv_md]; by_cases y_ : p_lv false (lx_kd b_ n_ p_) < 4; (rw [if_pos y_, if_neg (by omega)]); (rw [if_neg y_, if_pos (by omega)])); (rw [decide_eq_false z_, if_neg (by omega)])
        rw [q9_]
        by_cases g_ : 33 ≤ lx_kd b_ n_ p_
        · have q5_ := r_nb_s (v_ := lx_vl b_ n_ p_) g_
          have q6_ : p_lv false (S0_.2.2.1 121 0 (S0_.1 13 0 9).toNat) = p_lv false (lx_kd b_ n_ p_) := by rw [q2_, q5_]
          by_cases y_ : mo_ = 2 ∧ 4 ≤ p_lv false (lx_kd b_ n_ p_)
          · rw [if_pos y_]; refine ⟨by omega, fun z_ => ⟨by omega, by omega, ?_⟩⟩; omega
          · rw [if_neg y_]; refine ⟨by omega, fun z_ => ⟨by omega, by omega, rfl⟩⟩
        · have q6_ := p_lv_lo (md_ := false) (k_ := lx_kd b_ n_ p_) (by omega)
          by_cases y_ : mo_ = 2 ∧ 4 ≤ p_lv false (lx_kd b_ n_ p_)
          · omega
          · rw [if_neg y_]; refine ⟨by omega, fun z_ => ⟨by omega, by omega, rfl⟩⟩
      · have cx13_ : ¬ ((S0_.1 13 0 27) < 2) := of_decide_eq_false cx13_
        refine sm_T_go 2 (c1 := (44, [some (.inr (.inr (some (13, 0)))), some (.inl vx10_)], [.inl 4, .inl vx10_], S0_)) rfl ?_
        refine sm_T_br (a := 3) (z := 7) rfl (fun cx14_ => ?_) (fun cx14_ => ?_)
        · have cx14_ : 4 ≤ vx10_ := of_decide_eq_true cx14_
          refine sm_T_go 1 (c1 := (52, [some (.inr (.inr (some (13, 0)))), some (.inl vx10_)], [.inl 0], S0_)) rfl ?_
          refine sm_T_rz rfl (by omega) ⟨_, _, rfl, rfl, _, rfl, ?_⟩
          refine ⟨by omega, fun p_ e_ => ?_⟩
          obtain ⟨q1_, q2_, q3_⟩ := hat_ p_ e_
          have q4_ := (r_st_3 q3_).1
          have q8_ := p_lv_b (md_ := false) (k_ := lx_kd b_ n_ p_)
          have q9_ : p_lv (mdo mo_) (lx_kd b_ n_ p_) = if mo_ = 2 ∧ 4 ≤ p_lv false (lx_kd b_ n_ p_) then 0 else p_lv false (lx_kd b_ n_ p_) := by unfold mdo; by_cases z_ : mo_ = 2; (rw [decide_eq_true z_, p_lv_md]; by_cases y_ : p_lv false (lx_kd b_ n_ p_) < 4; (rw [if_pos y_, if_neg (by omega)]); (rw [if_neg y_, if_pos (by omega)])); (rw [decide_eq_false z_, if_neg (by omega)])
          rw [q9_]
          by_cases g_ : 33 ≤ lx_kd b_ n_ p_
          · have q5_ := r_nb_s (v_ := lx_vl b_ n_ p_) g_
            have q6_ : p_lv false (S0_.2.2.1 121 0 (S0_.1 13 0 9).toNat) = p_lv false (lx_kd b_ n_ p_) := by rw [q2_, q5_]
            by_cases y_ : mo_ = 2 ∧ 4 ≤ p_lv false (lx_kd b_ n_ p_)
            · rw [if_pos y_]; refine ⟨by omega, fun z_ => ⟨by omega, by omega, ?_⟩⟩; omega
            · rw [if_neg y_]; refine ⟨by omega, fun z_ => ⟨by omega, by omega, rfl⟩⟩
          · have q6_ := p_lv_lo (md_ := false) (k_ := lx_kd b_ n_ p_) (by omega)
            by_cases y_ : mo_ = 2 ∧ 4 ≤ p_lv false (lx_kd b_ n_ p_)
            · omega
            · rw [if_neg y_]; refine ⟨by omega, fun z_ => ⟨by omega, by omega, rfl⟩⟩
        · have cx14_ : ¬ (4 ≤ vx10_) := of_decide_eq_false cx14_
          refine sm_T_go 2 (c1 := (52, [some (.inr (.inr (some (13, 0)))), some (.inl vx10_)], [.inl 1], S0_)) rfl ?_
          refine sm_T_rz rfl (by omega) ⟨_, _, rfl, rfl, _, rfl, ?_⟩
          refine ⟨by omega, fun p_ e_ => ?_⟩
          obtain ⟨q1_, q2_, q3_⟩ := hat_ p_ e_
          have q4_ := (r_st_3 q3_).1
          have q8_ := p_lv_b (md_ := false) (k_ := lx_kd b_ n_ p_)
          have q9_ : p_lv (mdo mo_) (lx_kd b_ n_ p_) = if mo_ = 2 ∧ 4 ≤ p_lv false (lx_kd b_ n_ p_) then 0 else p_lv false (lx_kd b_ n_ p_) := by unfold mdo; by_cases z_ : mo_ = 2; (rw [decide_eq_true z_, p_lv_md]; by_cases y_ : p_lv false (lx_kd b_ n_ p_) < 4; (rw [if_pos y_, if_neg (by omega)]); (rw [if_neg y_, if_pos (by omega)])); (rw [decide_eq_false z_, if_neg (by omega)])
          rw [q9_]
          by_cases g_ : 33 ≤ lx_kd b_ n_ p_
          · have q5_ := r_nb_s (v_ := lx_vl b_ n_ p_) g_
            have q6_ : p_lv false (S0_.2.2.1 121 0 (S0_.1 13 0 9).toNat) = p_lv false (lx_kd b_ n_ p_) := by rw [q2_, q5_]
            by_cases y_ : mo_ = 2 ∧ 4 ≤ p_lv false (lx_kd b_ n_ p_)
            · rw [if_pos y_]; refine ⟨by omega, fun z_ => ⟨by omega, by omega, ?_⟩⟩; omega
            · rw [if_neg y_]; refine ⟨by omega, fun z_ => ⟨by omega, by omega, rfl⟩⟩
          · have q6_ := p_lv_lo (md_ := false) (k_ := lx_kd b_ n_ p_) (by omega)
            by_cases y_ : mo_ = 2 ∧ 4 ≤ p_lv false (lx_kd b_ n_ p_)
            · omega
            · rw [if_neg y_]; refine ⟨by omega, fun z_ => ⟨by omega, by omega, rfl⟩⟩
end
