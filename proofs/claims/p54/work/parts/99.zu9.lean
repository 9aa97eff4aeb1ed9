/-! the law's cases; written by wip/ids/lawgen.py -/
set_option maxRecDepth 100000 in
set_option maxHeartbeats 4000000 in
theorem lc_45 {sc_ : Nat × (Nat → Int)} {m_ n_ : Nat} {x_ y_ : Option sm_V} {S_ : sm_S} (ih_ : lwC sc_ m_) (hs_ : scB sc_) (hn_ : 7 * n_ + 7 ≤ sc_.1) (hm_ : sc_.1 ≤ 7 * n_ + 7 * (m_ + 1)) (J_ : jB n_ S_) : sm_T (mt_P sc_) 40 588 (2257, Lw (7 * (n_ : Int)) x_ y_, [], S_) (lwQ (m_ + 1)) := by
  have b_ := hs_.1
  unfold Lw
  refine sm_T_go 4 (c1 := (2262, [some (.inr (.inr (some (302, 0)))), some (.inr (.inr (some (12, 0)))), some (.inr (.inr (some (13, 0)))), some (.inr (.inr (some (295, 0)))), some (.inl (7 * (n_ : Int))), x_, y_], [.inl 1, .inl (7 * (n_ : Int)), .inr (.inr (some (302, 0))), .inr (.inr (some (12, 0)))], S_)) rfl ?_
  refine sm_T_bin (w := 7 * (n_ : Int) + 1) rfl (bi_add (by omega) (by omega) (by omega)) ?_
  refine sm_T_nt (u := some (.inl (sc_.2 (7 * (n_ : Int) + 1).toNat))) (S1 := S_) rfl rfl (lw_n (by omega) (by omega)) ?_
  refine sm_T_go 3 (c1 := (2268, [some (.inr (.inr (some (302, 0)))), some (.inr (.inr (some (12, 0)))), some (.inr (.inr (some (13, 0)))), some (.inr (.inr (some (295, 0)))), some (.inl (7 * (n_ : Int))), x_, y_], [.inl 2, .inl (7 * (n_ : Int)), .inr (.inr (some (302, 0))), .inl (sc_.2 (7 * (n_ : Int) + 1).toNat), .inr (.inr (some (12, 0)))], S_)) rfl ?_
  refine sm_T_bin (w := 7 * (n_ : Int) + 2) rfl (bi_add (by omega) (by omega) (by omega)) ?_
  refine sm_T_nt (u := some (.inl (sc_.2 (7 * (n_ : Int) + 2).toNat))) (S1 := S_) rfl rfl (lw_n (by omega) (by omega)) ?_
  refine sm_T_go 3 (c1 := (2274, [some (.inr (.inr (some (302, 0)))), some (.inr (.inr (some (12, 0)))), some (.inr (.inr (some (13, 0)))), some (.inr (.inr (some (295, 0)))), some (.inl (7 * (n_ : Int))), x_, y_], [.inl 3, .inl (7 * (n_ : Int)), .inr (.inr (some (302, 0))), .inl (sc_.2 (7 * (n_ : Int) + 2).toNat), .inl (sc_.2 (7 * (n_ : Int) + 1).toNat), .inr (.inr (some (12, 0)))], S_)) rfl ?_
  refine sm_T_bin (w := 7 * (n_ : Int) + 3) rfl (bi_add (by omega) (by omega) (by omega)) ?_
  refine sm_T_nt (u := some (.inl (sc_.2 (7 * (n_ : Int) + 3).toNat))) (S1 := S_) rfl rfl (lw_n (by omega) (by omega)) ?_
  refine sm_T_go 3 (c1 := (2280, [some (.inr (.inr (some (302, 0)))), some (.inr (.inr (some (12, 0)))), some (.inr (.inr (some (13, 0)))), some (.inr (.inr (some (295, 0)))), some (.inl (7 * (n_ : Int))), x_, y_], [.inl 4, .inl (7 * (n_ : Int)), .inr (.inr (some (302, 0))), .inl (sc_.2 (7 * (n_ : Int) + 3).toNat), .inl (sc_.2 (7 * (n_ : Int) + 2).toNat), .inl (sc_.2 (7 * (n_ : Int) + 1).toNat), .inr (.inr (some (12, 0)))], S_)) rfl ?_
  refine sm_T_bin (w := 7 * (n_ : Int) + 4) rfl (bi_add (by omega) (by omega) (by omega)) ?_
  refine sm_T_nt (u := some (.inl (sc_.2 (7 * (n_ : Int) + 4).toNat))) (S1 := S_) rfl rfl (lw_n (by omega) (by omega)) ?_
  refine sm_T_go 1 (c1 := (2283, [some (.inr (.inr (some (302, 0)))), some (.inr (.inr (some (12, 0)))), some (.inr (.inr (some (13, 0)))), some (.inr (.inr (some (295, 0)))), some (.inl (7 * (n_ : Int))), x_, y_], [.inr (.inr (some (295, 0))), .inl (sc_.2 (7 * (n_ : Int) + 4).toNat), .inl (sc_.2 (7 * (n_ : Int) + 3).toNat), .inl (sc_.2 (7 * (n_ : Int) + 2).toNat), .inl (sc_.2 (7 * (n_ : Int) + 1).toNat), .inr (.inr (some (12, 0)))], S_)) rfl ?_
  refine sm_T_call rfl rfl ((lh_579 (sc_.2 (7 * (n_ : Int) + 1).toNat) (sc_.2 (7 * (n_ : Int) + 2).toNat) (sc_.2 (7 * (n_ : Int) + 3).toNat) (sc_.2 (7 * (n_ : Int) + 4).toNat) S_ J_.1 J_.2.1).deep (by decide)) (fun u_ S1_ k1_ q_ => ?_) (fun ex_ S1_ k1_ q_ => by (obtain ⟨v_, S2_, k2_, e_, -⟩ := q_; cases e_))
  obtain ⟨v3_, S2z_, k2z_, e_, h4_, q_⟩ := q_
  cases e_
  have J2_ := jB_c J_ q_
  refine sm_T_go 5 (c1 := (2293, [some (.inr (.inr (some (302, 0)))), some (.inr (.inr (some (12, 0)))), some (.inr (.inr (some (13, 0)))), some (.inr (.inr (some (295, 0)))), some (.inl (7 * (n_ : Int))), some (.inl v3_), y_], [.inl 1, .inl (7 * (n_ : Int)), .inr (.inr (some (302, 0))), .inr (.inr (some (13, 0)))], S1_)) rfl ?_
  refine sm_T_bin (w := 7 * (n_ : Int) + 1) rfl (bi_add (by omega) (by omega) (by omega)) ?_
  refine sm_T_nt (u := some (.inl (sc_.2 (7 * (n_ : Int) + 1).toNat))) (S1 := S1_) rfl rfl (lw_n (by omega) (by omega)) ?_
  refine sm_T_go 3 (c1 := (2299, [some (.inr (.inr (some (302, 0)))), some (.inr (.inr (some (12, 0)))), some (.inr (.inr (some (13, 0)))), some (.inr (.inr (some (295, 0)))), some (.inl (7 * (n_ : Int))), some (.inl v3_), y_], [.inl 2, .inl (7 * (n_ : Int)), .inr (.inr (some (302, 0))), .inl (sc_.2 (7 * (n_ : Int) + 1).toNat), .inr (.inr (some (13, 0)))], S1_)) rfl ?_
  refine sm_T_bin (w := 7 * (n_ : Int) + 2) rfl (bi_add (by omega) (by omega) (by omega)) ?_
  refine sm_T_nt (u := some (.inl (sc_.2 (7 * (n_ : Int) + 2).toNat))) (S1 := S1_) rfl rfl (lw_n (by omega) (by omega)) ?_
  refine sm_T_go 3 (c1 := (2305, [some (.inr (.inr (some (302, 0)))), some (.inr (.inr (some (12, 0)))), some (.inr (.inr (some (13, 0)))), some (.inr (.inr (some (295, 0)))), some (.inl (7 * (n_ : Int))), some (.inl v3_), y_], [.inl 3, .inl (7 * (n_ : Int)), .inr (.inr (some (302, 0))), .inl (sc_.2 (7 * (n_ : Int) + 2).toNat), .inl (sc_.2 (7 * (n_ : Int) + 1).toNat), .inr (.inr (some (13, 0)))], S1_)) rfl ?_
  refine sm_T_bin (w := 7 * (n_ : Int) + 3) rfl (bi_add (by omega) (by omega) (by omega)) ?_
  refine sm_T_nt (u := some (.inl (sc_.2 (7 * (n_ : Int) + 3).toNat))) (S1 := S1_) rfl rfl (lw_n (by omega) (by omega)) ?_
  refine sm_T_go 3 (c1 := (2311, [some (.inr (.inr (some (302, 0)))), some (.inr (.inr (some (12, 0)))), some (.inr (.inr (some (13, 0)))), some (.inr (.inr (some (295, 0)))), some (.inl (7 * (n_ : Int))), some (.inl v3_), y_], [.inl 4, .inl (7 * (n_ : Int)), .inr (.inr (some (302, 0))), .inl (sc_.2 (7 * (n_ : Int) + 3).toNat), .inl (sc_.2 (7 * (n_ : Int) + 2).toNat), .inl (sc_.2 (7 * (n_ : Int) + 1).toNat), .inr (.inr (some (13, 0)))], S1_)) rfl ?_
  refine sm_T_bin (w := 7 * (n_ : Int) + 4) rfl (bi_add (by omega) (by omega) (by omega)) ?_
  refine sm_T_nt (u := some (.inl (sc_.2 (7 * (n_ : Int) + 4).toNat))) (S1 := S1_) rfl rfl (lw_n (by omega) (by omega)) ?_
  refine sm_T_cal (d1 := 6) (Q1 := vq_513 (sc_.2 (7 * (n_ : Int) + 1).toNat) (sc_.2 (7 * (n_ : Int) + 2).toNat) (sc_.2 (7 * (n_ : Int) + 3).toNat) (sc_.2 (7 * (n_ : Int) + 4).toNat) S1_) rfl rfl (by decide) (vc_513 (sc_.2 (7 * (n_ : Int) + 1).toNat) (sc_.2 (7 * (n_ : Int) + 2).toNat) (sc_.2 (7 * (n_ : Int) + 3).toNat) (sc_.2 (7 * (n_ : Int) + 4).toNat) S1_ J2_.1 (by first | exact hs_.2 _ | decide | omega) (by first | exact hs_.2 _ | decide | omega) (by first | exact hs_.2 _ | decide | omega) (by first | exact hs_.2 _ | decide | omega) J2_.2.2.1) (fun u_ S5_ p_ => ?_)
  obtain ⟨v7_, rfl, i_, f_, p_⟩ := p_
  have J6_ := jB_r J2_ i_ f_ (by first | exact p_ | exact p_.1 | exact p_.2 | exact p_.2.1 | exact p_.2.2)
  refine sm_T_go 2 (c1 := (2670, [some (.inr (.inr (some (302, 0)))), some (.inr (.inr (some (12, 0)))), some (.inr (.inr (some (13, 0)))), some (.inr (.inr (some (295, 0)))), some (.inl (7 * (n_ : Int))), some (.inl v3_), some (.inl v7_)], [], S5_)) rfl ?_
  exact lc_end ih_ hs_ hn_ hm_ h4_ (jB_up J6_)
set_option maxRecDepth 100000 in
set_option maxHeartbeats 4000000 in
theorem lc_49 {sc_ : Nat × (Nat → Int)} {m_ n_ : Nat} {x_ y_ : Option sm_V} {S_ : sm_S} (ih_ : lwC sc_ m_) (hs_ : scB sc_) (hn_ : 7 * n_ + 7 ≤ sc_.1) (hm_ : sc_.1 ≤ 7 * n_ + 7 * (m_ + 1)) (J_ : jB n_ S_) : sm_T (mt_P sc_) 40 588 (2441, Lw (7 * (n_ : Int)) x_ y_, [], S_) (lwQ (m_ + 1)) := by
  have b_ := hs_.1
  unfold Lw
  refine sm_T_go 4 (c1 := (2446, [some (.inr (.inr (some (302, 0)))), some (.inr (.inr (some (12, 0)))), some (.inr (.inr (some (13, 0)))), some (.inr (.inr (some (295, 0)))), some (.inl (7 * (n_ : Int))), x_, y_], [.inl 1, .inl (7 * (n_ : Int)), .inr (.inr (some (302, 0))), .inr (.inr (some (12, 0)))], S_)) rfl ?_
  refine sm_T_bin (w := 7 * (n_ : Int) + 1) rfl (bi_add (by omega) (by omega) (by omega)) ?_
  refine sm_T_nt (u := some (.inl (sc_.2 (7 * (n_ : Int) + 1).toNat))) (S1 := S_) rfl rfl (lw_n (by omega) (by omega)) ?_
  refine sm_T_go 3 (c1 := (2452, [some (.inr (.inr (some (302, 0)))), some (.inr (.inr (some (12, 0)))), some (.inr (.inr (some (13, 0)))), some (.inr (.inr (some (295, 0)))), some (.inl (7 * (n_ : Int))), x_, y_], [.inl 2, .inl (7 * (n_ : Int)), .inr (.inr (some (302, 0))), .inl (sc_.2 (7 * (n_ : Int) + 1).toNat), .inr (.inr (some (12, 0)))], S_)) rfl ?_
  refine sm_T_bin (w := 7 * (n_ : Int) + 2) rfl (bi_add (by omega) (by omega) (by omega)) ?_
  refine sm_T_nt (u := some (.inl (sc_.2 (7 * (n_ : Int) + 2).toNat))) (S1 := S_) rfl rfl (lw_n (by omega) (by omega)) ?_
  refine sm_T_go 1 (c1 := (2455, [some (.inr (.inr (some (302, 0)))), some (.inr (.inr (some (12, 0)))), some (.inr (.inr (some (13, 0)))), some (.inr (.inr (some (295, 0)))), some (.inl (7 * (n_ : Int))), x_, y_], [.inr (.inr (some (295, 0))), .inl (sc_.2 (7 * (n_ : Int) + 2).toNat), .inl (sc_.2 (7 * (n_ : Int) + 1).toNat), .inr (.inr (some (12, 0)))], S_)) rfl ?_
  refine sm_T_call rfl rfl ((lh_583 (sc_.2 (7 * (n_ : Int) + 1).toNat) (sc_.2 (7 * (n_ : Int) + 2).toNat) S_ J_.1 J_.2.1).deep (by decide)) (fun u_ S1_ k1_ q_ => ?_) (fun ex_ S1_ k1_ q_ => by (obtain ⟨v_, S2_, k2_, e_, -⟩ := q_; cases e_))
  obtain ⟨v3_, S2z_, k2z_, e_, h4_, q_⟩ := q_
  cases e_
  have J2_ := jB_c J_ q_
  refine sm_T_go 5 (c1 := (2465, [some (.inr (.inr (some (302, 0)))), some (.inr (.inr (some (12, 0)))), some (.inr (.inr (some (13, 0)))), some (.inr (.inr (some (295, 0)))), some (.inl (7 * (n_ : Int))), some (.inl v3_), y_], [.inl 1, .inl (7 * (n_ : Int)), .inr (.inr (some (302, 0))), .inr (.inr (some (13, 0)))], S1_)) rfl ?_
  refine sm_T_bin (w := 7 * (n_ : Int) + 1) rfl (bi_add (by omega) (by omega) (by omega)) ?_
  refine sm_T_nt (u := some (.inl (sc_.2 (7 * (n_ : Int) + 1).toNat))) (S1 := S1_) rfl rfl (lw_n (by omega) (by omega)) ?_
  refine sm_T_go 3 (c1 := (2471, [some (.inr (.inr (some (302, 0)))), some (.inr (.inr (some (12, 0)))), some (.inr (.inr (some (13, 0)))), some (.inr (.inr (some (295, 0)))), some (.inl (7 * (n_ : Int))), some (.inl v3_), y_], [.inl 2, .inl (7 * (n_ : Int)), .inr (.inr (some (302, 0))), .inl (sc_.2 (7 * (n_ : Int) + 1).toNat), .inr (.inr (some (13, 0)))], S1_)) rfl ?_
  refine sm_T_bin (w := 7 * (n_ : Int) + 2) rfl (bi_add (by omega) (by omega) (by omega)) ?_
  refine sm_T_nt (u := some (.inl (sc_.2 (7 * (n_ : Int) + 2).toNat))) (S1 := S1_) rfl rfl (lw_n (by omega) (by omega)) ?_
  refine sm_T_cal (d1 := 2) (Q1 := vq_530 (sc_.2 (7 * (n_ : Int) + 1).toNat) (sc_.2 (7 * (n_ : Int) + 2).toNat) S1_) rfl rfl (by decide) (vc_530 (sc_.2 (7 * (n_ : Int) + 1).toNat) (sc_.2 (7 * (n_ : Int) + 2).toNat) S1_ J2_.1 (by first | exact hs_.2 _ | decide | omega) (by first | exact hs_.2 _ | decide | omega) J2_.2.2.1) (fun u_ S5_ p_ => ?_)
  obtain ⟨v7_, rfl, i_, f_, p_⟩ := p_
  have J6_ := jB_r J2_ i_ f_ (by first | exact p_ | exact p_.1 | exact p_.2 | exact p_.2.1 | exact p_.2.2)
  refine sm_T_go 2 (c1 := (2670, [some (.inr (.inr (some (302, 0)))), some (.inr (.inr (some (12, 0)))), some (.inr (.inr (some (13, 0)))), some (.inr (.inr (some (295, 0)))), some (.inl (7 * (n_ : Int))), some (.inl v3_), some (.inl v7_)], [], S5_)) rfl ?_
  exact lc_end ih_ hs_ hn_ hm_ h4_ (jB_up J6_)
set_option maxRecDepth 100000 in
set_option maxHeartbeats 4000000 in
theorem lc_53 {sc_ : Nat × (Nat → Int)} {m_ n_ : Nat} {x_ y_ : Option sm_V} {S_ : sm_S} (ih_ : lwC sc_ m_) (hs_ : scB sc_) (hn_ : 7 * n_ + 7 ≤ sc_.1) (hm_ : sc_.1 ≤ 7 * n_ + 7 * (m_ + 1)) (J_ : jB n_ S_) : sm_T (mt_P sc_) 40 588 (2657, Lw (7 * (n_ : Int)) x_ y_, [], S_) (lwQ (m_ + 1)) := by
  have b_ := hs_.1
  unfold Lw
  refine sm_T_go 1 (c1 := (2658, [some (.inr (.inr (some (302, 0)))), some (.inr (.inr (some (12, 0)))), some (.inr (.inr (some (13, 0)))), some (.inr (.inr (some (295, 0)))), some (.inl (7 * (n_ : Int))), x_, y_], [.inr (.inr (some (12, 0)))], S_)) rfl ?_
  refine sm_T_cal (d1 := 0) (Q1 := vq_216 S_) rfl rfl (by decide) (vc_216 S_ J_.1) (fun u_ S1_ p_ => ?_)
  obtain ⟨v3_, rfl, i_, f_, p_⟩ := p_
  have J2_ := jB_r J_ i_ f_ (jR_fr J_.2.2.1 i_ f_)
  refine sm_T_go 2 (c1 := (2663, [some (.inr (.inr (some (302, 0)))), some (.inr (.inr (some (12, 0)))), some (.inr (.inr (some (13, 0)))), some (.inr (.inr (some (295, 0)))), some (.inl (7 * (n_ : Int))), x_, y_], [.inr (.inr (some (13, 0)))], S1_)) rfl ?_
  refine sm_T_cal (d1 := 0) (Q1 := vq_281 S1_) rfl rfl (by decide) (vc_281 S1_ J2_.1 J2_.2.2.1) (fun u_ S4_ p_ => ?_)
  obtain ⟨v6_, rfl, i_, f_, p_⟩ := p_
  have J5_ := jB_r J2_ i_ f_ (by first | exact p_ | exact p_.1 | exact p_.2 | exact p_.2.1 | exact p_.2.2)
  refine sm_T_go 2 (c1 := (2670, [some (.inr (.inr (some (302, 0)))), some (.inr (.inr (some (12, 0)))), some (.inr (.inr (some (13, 0)))), some (.inr (.inr (some (295, 0)))), some (.inl (7 * (n_ : Int))), x_, y_], [], S4_)) rfl ?_
  exact (lc_end (k_ := 0) ih_ hs_ hn_ hm_ (by decide) (jB_up J5_)).mono (fun r_ z_ => by rw [sm_add_0] at z_; exact z_)

set_option maxRecDepth 100000 in
set_option maxHeartbeats 4000000 in
theorem lc_46 {sc_ : Nat × (Nat → Int)} {m_ n_ : Nat} {x_ y_ : Option sm_V} {S_ : sm_S} (ih_ : lwC sc_ m_) (hs_ : scB sc_) (hn_ : 7 * n_ + 7 ≤ sc_.1) (hm_ : sc_.1 ≤ 7 * n_ + 7 * (m_ + 1)) (J_ : jB n_ S_) : sm_T (mt_P sc_) 40 588 (2321, Lw (7 * (n_ : Int)) x_ y_, [], S_) (lwQ (m_ + 1)) := by
  have b_ := hs_.1
  unfold Lw
  refine sm_T_go 4 (c1 := (2326, [some (.inr (.inr (some (302, 0)))), some (.inr (.inr (some (12, 0)))), some (.inr (.inr (some (13, 0)))), some (.inr (.inr (some (295, 0)))), some (.inl (7 * (n_ : Int))), x_, y_], [.inl 1, .inl (7 * (n_ : Int)), .inr (.inr (some (302, 0))), .inr (.inr (some (12, 0)))], S_)) rfl ?_
  refine sm_T_bin (w := 7 * (n_ : Int) + 1) rfl (bi_add (by omega) (by omega) (by omega)) ?_
  refine sm_T_nt (u := some (.inl (sc_.2 (7 * (n_ : Int) + 1).toNat))) (S1 := S_) rfl rfl (lw_n (by omega) (by omega)) ?_
  refine sm_T_go 3 (c1 := (2332, [some (.inr (.inr (some (302, 0)))), some (.inr (.inr (some (12, 0)))), some (.inr (.inr (some (13, 0)))), some (.inr (.inr (some (295, 0)))), some (.inl (7 * (n_ : Int))), x_, y_], [.inl 2, .inl (7 * (n_ : Int)), .inr (.inr (some (302, 0))), .inl (sc_.2 (7 * (n_ : Int) + 1).toNat), .inr (.inr (some (12, 0)))], S_)) rfl ?_
  refine sm_T_bin (w := 7 * (n_ : Int) + 2) rfl (bi_add (by omega) (by omega) (by omega)) ?_
  refine sm_T_nt (u := some (.inl (sc_.2 (7 * (n_ : Int) + 2).toNat))) (S1 := S_) rfl rfl (lw_n (by omega) (by omega)) ?_
  refine sm_T_go 1 (c1 := (2335, [some (.inr (.inr (some (302, 0)))), some (.inr (.inr (some (12, 0)))), some (.inr (.inr (some (13, 0)))), some (.inr (.inr (some (295, 0)))), some (.inl (7 * (n_ : Int))), x_, y_], [.inr (.inr (some (295, 0))), .inl (sc_.2 (7 * (n_ : Int) + 2).toNat), .inl (sc_.2 (7 * (n_ : Int) + 1).toNat), .inr (.inr (some (12, 0)))], S_)) rfl ?_
  refine sm_T_call rfl rfl ((lh_580k (sc_.2 (7 * (n_ : Int) + 1).toNat) (sc_.2 (7 * (n_ : Int) + 2).toNat) S_ J_.1 J_.2.1 (tgo_of J_)).deep (by decide)) (fun u_ S1_ k1_ q_ => ?_) (fun ex_ S1_ k1_ q_ => by (obtain ⟨v_, S2_, k2_, e_, -⟩ := q_; cases e_))
  obtain ⟨v3_, S2z_, k2z_, e_, h4_, q_, E_⟩ := q_
  cases e_
  have r_ : jR S1_ := jR_fr J_.2.2.1 q_.1 q_.2.1
  refine sm_T_go 5 (c1 := (2345, [some (.inr (.inr (some (302, 0)))), some (.inr (.inr (some (12, 0)))), some (.inr (.inr (some (13, 0)))), some (.inr (.inr (some (295, 0)))), some (.inl (7 * (n_ : Int))), some (.inl v3_), y_], [.inl 1, .inl (7 * (n_ : Int)), .inr (.inr (some (302, 0))), .inr (.inr (some (13, 0)))], S1_)) rfl ?_
  refine sm_T_bin (w := 7 * (n_ : Int) + 1) rfl (bi_add (by omega) (by omega) (by omega)) ?_
  refine sm_T_nt (u := some (.inl (sc_.2 (7 * (n_ : Int) + 1).toNat))) (S1 := S1_) rfl rfl (lw_n (by omega) (by omega)) ?_
  refine sm_T_go 3 (c1 := (2351, [some (.inr (.inr (some (302, 0)))), some (.inr (.inr (some (12, 0)))), some (.inr (.inr (some (13, 0)))), some (.inr (.inr (some (295, 0)))), some (.inl (7 * (n_ : Int))), some (.inl v3_), y_], [.inl 2, .inl (7 * (n_ : Int)), .inr (.inr (some (302, 0))), .inl (sc_.2 (7 * (n_ : Int) + 1).toNat), .inr (.inr (some (13, 0)))], S1_)) rfl ?_
  refine sm_T_bin (w := 7 * (n_ : Int) + 2) rfl (bi_add (by omega) (by omega) (by omega)) ?_
  refine sm_T_nt (u := some (.inl (sc_.2 (7 * (n_ : Int) + 2).toNat))) (S1 := S1_) rfl rfl (lw_n (by omega) (by omega)) ?_
  refine sm_T_cal (d1 := 5) (Q1 := vq_522t (sc_.2 (7 * (n_ : Int) + 1).toNat) (sc_.2 (7 * (n_ : Int) + 2).toNat) S1_) rfl rfl (by decide) (vc_522t (sc_.2 (7 * (n_ : Int) + 1).toNat) (sc_.2 (7 * (n_ : Int) + 2).toNat) S1_ q_.1 (by first | exact hs_.2 _ | decide | omega) (by first | exact hs_.2 _ | decide | omega) r_ (lsk_s J_ q_.2.1)) (fun u_ S5_ p_ => ?_)
  obtain ⟨v7_, rfl, i_, f_, pb_, r2_, P_⟩ := p_
  have hC_ := k_test J_ q_ E_ i_ f_ r2_ P_
  have J6_ := jX_test J_ q_ i_ f_ r2_ hC_.2
  refine sm_T_go 2 (c1 := (2670, [some (.inr (.inr (some (302, 0)))), some (.inr (.inr (some (12, 0)))), some (.inr (.inr (some (13, 0)))), some (.inr (.inr (some (295, 0)))), some (.inl (7 * (n_ : Int))), some (.inl v3_), some (.inl v7_)], [], S5_)) rfl ?_
  exact lc_end ih_ hs_ hn_ hm_ h4_ (jB_up J6_)
set_option maxRecDepth 100000 in
set_option maxHeartbeats 4000000 in
theorem lc_47 {sc_ : Nat × (Nat → Int)} {m_ n_ : Nat} {x_ y_ : Option sm_V} {S_ : sm_S} (ih_ : lwC sc_ m_) (hs_ : scB sc_) (hn_ : 7 * n_ + 7 ≤ sc_.1) (hm_ : sc_.1 ≤ 7 * n_ + 7 * (m_ + 1)) (J_ : jB n_ S_) : sm_T (mt_P sc_) 40 588 (2361, Lw (7 * (n_ : Int)) x_ y_, [], S_) (lwQ (m_ + 1)) := by
  have b_ := hs_.1
  unfold Lw
  refine sm_T_go 4 (c1 := (2366, [some (.inr (.inr (some (302, 0)))), some (.inr (.inr (some (12, 0)))), some (.inr (.inr (some (13, 0)))), some (.inr (.inr (some (295, 0)))), some (.inl (7 * (n_ : Int))), x_, y_], [.inl 1, .inl (7 * (n_ : Int)), .inr (.inr (some (302, 0))), .inr (.inr (some (12, 0)))], S_)) rfl ?_
  refine sm_T_bin (w := 7 * (n_ : Int) + 1) rfl (bi_add (by omega) (by omega) (by omega)) ?_
  refine sm_T_nt (u := some (.inl (sc_.2 (7 * (n_ : Int) + 1).toNat))) (S1 := S_) rfl rfl (lw_n (by omega) (by omega)) ?_
  refine sm_T_go 3 (c1 := (2372, [some (.inr (.inr (some (302, 0)))), some (.inr (.inr (some (12, 0)))), some (.inr (.inr (some (13, 0)))), some (.inr (.inr (some (295, 0)))), some (.inl (7 * (n_ : Int))), x_, y_], [.inl 2, .inl (7 * (n_ : Int)), .inr (.inr (some (302, 0))), .inl (sc_.2 (7 * (n_ : Int) + 1).toNat), .inr (.inr (some (12, 0)))], S_)) rfl ?_
  refine sm_T_bin (w := 7 * (n_ : Int) + 2) rfl (bi_add (by omega) (by omega) (by omega)) ?_
  refine sm_T_nt (u := some (.inl (sc_.2 (7 * (n_ : Int) + 2).toNat))) (S1 := S_) rfl rfl (lw_n (by omega) (by omega)) ?_
  refine sm_T_go 3 (c1 := (2378, [some (.inr (.inr (some (302, 0)))), some (.inr (.inr (some (12, 0)))), some (.inr (.inr (some (13, 0)))), some (.inr (.inr (some (295, 0)))), some (.inl (7 * (n_ : Int))), x_, y_], [.inl 3, .inl (7 * (n_ : Int)), .inr (.inr (some (302, 0))), .inl (sc_.2 (7 * (n_ : Int) + 2).toNat), .inl (sc_.2 (7 * (n_ : Int) + 1).toNat), .inr (.inr (some (12, 0)))], S_)) rfl ?_
  refine sm_T_bin (w := 7 * (n_ : Int) + 3) rfl (bi_add (by omega) (by omega) (by omega)) ?_
  refine sm_T_nt (u := some (.inl (sc_.2 (7 * (n_ : Int) + 3).toNat))) (S1 := S_) rfl rfl (lw_n (by omega) (by omega)) ?_
  refine sm_T_go 1 (c1 := (2381, [some (.inr (.inr (some (302, 0)))), some (.inr (.inr (some (12, 0)))), some (.inr (.inr (some (13, 0)))), some (.inr (.inr (some (295, 0)))), some (.inl (7 * (n_ : Int))), x_, y_], [.inr (.inr (some (295, 0))), .inl (sc_.2 (7 * (n_ : Int) + 3).toNat), .inl (sc_.2 (7 * (n_ : Int) + 2).toNat), .inl (sc_.2 (7 * (n_ : Int) + 1).toNat), .inr (.inr (some (12, 0)))], S_)) rfl ?_
  refine sm_T_call rfl rfl ((lh_581k (sc_.2 (7 * (n_ : Int) + 1).toNat) (sc_.2 (7 * (n_ : Int) + 2).toNat) (sc_.2 (7 * (n_ : Int) + 3).toNat) S_ J_.1 J_.2.1 (tgo_of J_)).deep (by decide)) (fun u_ S1_ k1_ q_ => ?_) (fun ex_ S1_ k1_ q_ => by (obtain ⟨v_, S2_, k2_, e_, -⟩ := q_; cases e_))
  obtain ⟨v3_, S2z_, k2z_, e_, h4_, q_, E_⟩ := q_
  cases e_
  have r_ : jR S1_ := jR_fr J_.2.2.1 q_.1 q_.2.1
  refine sm_T_go 5 (c1 := (2391, [some (.inr (.inr (some (302, 0)))), some (.inr (.inr (some (12, 0)))), some (.inr (.inr (some (13, 0)))), some (.inr (.inr (some (295, 0)))), some (.inl (7 * (n_ : Int))), some (.inl v3_), y_], [.inl 1, .inl (7 * (n_ : Int)), .inr (.inr (some (302, 0))), .inr (.inr (some (13, 0)))], S1_)) rfl ?_
  refine sm_T_bin (w := 7 * (n_ : Int) + 1) rfl (bi_add (by omega) (by omega) (by omega)) ?_
  refine sm_T_nt (u := some (.inl (sc_.2 (7 * (n_ : Int) + 1).toNat))) (S1 := S1_) rfl rfl (lw_n (by omega) (by omega)) ?_
  refine sm_T_go 3 (c1 := (2397, [some (.inr (.inr (some (302, 0)))), some (.inr (.inr (some (12, 0)))), some (.inr (.inr (some (13, 0)))), some (.inr (.inr (some (295, 0)))), some (.inl (7 * (n_ : Int))), some (.inl v3_), y_], [.inl 2, .inl (7 * (n_ : Int)), .inr (.inr (some (302, 0))), .inl (sc_.2 (7 * (n_ : Int) + 1).toNat), .inr (.inr (some (13, 0)))], S1_)) rfl ?_
  refine sm_T_bin (w := 7 * (n_ : Int) + 2) rfl (bi_add (by omega) (by omega) (by omega)) ?_
  refine sm_T_nt (u := some (.inl (sc_.2 (7 * (n_ : Int) + 2).toNat))) (S1 := S1_) rfl rfl (lw_n (by omega) (by omega)) ?_
  refine sm_T_go 3 (c1 := (2403, [some (.inr (.inr (some (302, 0)))), some (.inr (.inr (some (12, 0)))), some (.inr (.inr (some (13, 0)))), some (.inr (.inr (some (295, 0)))), some (.inl (7 * (n_ : Int))), some (.inl v3_), y_], [.inl 3, .inl (7 * (n_ : Int)), .inr (.inr (some (302, 0))), .inl (sc_.2 (7 * (n_ : Int) + 2).toNat), .inl (sc_.2 (7 * (n_ : Int) + 1).toNat), .inr (.inr (some (13, 0)))], S1_)) rfl ?_
  refine sm_T_bin (w := 7 * (n_ : Int) + 3) rfl (bi_add (by omega) (by omega) (by omega)) ?_
  refine sm_T_nt (u := some (.inl (sc_.2 (7 * (n_ : Int) + 3).toNat))) (S1 := S1_) rfl rfl (lw_n (by omega) (by omega)) ?_
  refine sm_T_cal (d1 := 3) (Q1 := vq_523t (sc_.2 (7 * (n_ : Int) + 1).toNat) (sc_.2 (7 * (n_ : Int) + 2).toNat) (sc_.2 (7 * (n_ : Int) + 3).toNat) S1_) rfl rfl (by decide) (vc_523t (sc_.2 (7 * (n_ : Int) + 1).toNat) (sc_.2 (7 * (n_ : Int) + 2).toNat) (sc_.2 (7 * (n_ : Int) + 3).toNat) S1_ q_.1 (by first | exact hs_.2 _ | decide | omega) (by first | exact hs_.2 _ | decide | omega) (by first | exact hs_.2 _ | decide | omega) r_) (fun u_ S5_ p_ => ?_)
  obtain ⟨v7_, rfl, i_, f_, pb_, r2_, P_⟩ := p_
  have hC_ := k_shows J_ q_ E_ i_ f_ r2_ P_
  have J6_ := jX_shows J_ q_ i_ f_ r2_ hC_.2.1
  refine sm_T_go 2 (c1 := (2670, [some (.inr (.inr (some (302, 0)))), some (.inr (.inr (some (12, 0)))), some (.inr (.inr (some (13, 0)))), some (.inr (.inr (some (295, 0)))), some (.inl (7 * (n_ : Int))), some (.inl v3_), some (.inl v7_)], [], S5_)) rfl ?_
  exact lc_end ih_ hs_ hn_ hm_ h4_ (jB_up J6_)
set_option maxRecDepth 100000 in
set_option maxHeartbeats 4000000 in
theorem lc_48 {sc_ : Nat × (Nat → Int)} {m_ n_ : Nat} {x_ y_ : Option sm_V} {S_ : sm_S} (ih_ : lwC sc_ m_) (hs_ : scB sc_) (hn_ : 7 * n_ + 7 ≤ sc_.1) (hm_ : sc_.1 ≤ 7 * n_ + 7 * (m_ + 1)) (J_ : jB n_ S_) : sm_T (mt_P sc_) 40 588 (2413, Lw (7 * (n_ : Int)) x_ y_, [], S_) (lwQ (m_ + 1)) := by
  have b_ := hs_.1
  unfold Lw
  refine sm_T_go 4 (c1 := (2418, [some (.inr (.inr (some (302, 0)))), some (.inr (.inr (some (12, 0)))), some (.inr (.inr (some (13, 0)))), some (.inr (.inr (some (295, 0)))), some (.inl (7 * (n_ : Int))), x_, y_], [.inl 1, .inl (7 * (n_ : Int)), .inr (.inr (some (302, 0))), .inr (.inr (some (12, 0)))], S_)) rfl ?_
  refine sm_T_bin (w := 7 * (n_ : Int) + 1) rfl (bi_add (by omega) (by omega) (by omega)) ?_
  refine sm_T_nt (u := some (.inl (sc_.2 (7 * (n_ : Int) + 1).toNat))) (S1 := S_) rfl rfl (lw_n (by omega) (by omega)) ?_
  refine sm_T_go 1 (c1 := (2421, [some (.inr (.inr (some (302, 0)))), some (.inr (.inr (some (12, 0)))), some (.inr (.inr (some (13, 0)))), some (.inr (.inr (some (295, 0)))), some (.inl (7 * (n_ : Int))), x_, y_], [.inr (.inr (some (295, 0))), .inl (sc_.2 (7 * (n_ : Int) + 1).toNat), .inr (.inr (some (12, 0)))], S_)) rfl ?_
  obtain ⟨P9_, le9_, L9_, fa9_, hq9_⟩ := tq_set J_ (sc_.2 (7 * (n_ : Int) + 1).toNat)
  refine sm_T_call rfl rfl ((lh_582k (sc_.2 (7 * (n_ : Int) + 1).toNat) P9_ le9_ S_ J_.1 J_.2.1 (tgo_of J_) (fun z_ => (hq9_ z_).1.1.1) (fun z_ => (hq9_ z_).1.1.2.1)).deep (by decide)) (fun u_ S1_ k1_ q_ => ?_) (fun ex_ S1_ k1_ q_ => by (obtain ⟨v_, S2_, k2_, e_, -⟩ := q_; cases e_))
  obtain ⟨v3_, S2z_, k2z_, e_, h4_, q_, E_⟩ := q_
  cases e_
  have r_ : jR S1_ := jR_fr J_.2.2.1 q_.1 q_.2.1
  refine sm_T_go 5 (c1 := (2431, [some (.inr (.inr (some (302, 0)))), some (.inr (.inr (some (12, 0)))), some (.inr (.inr (some (13, 0)))), some (.inr (.inr (some (295, 0)))), some (.inl (7 * (n_ : Int))), some (.inl v3_), y_], [.inl 1, .inl (7 * (n_ : Int)), .inr (.inr (some (302, 0))), .inr (.inr (some (13, 0)))], S1_)) rfl ?_
  refine sm_T_bin (w := 7 * (n_ : Int) + 1) rfl (bi_add (by omega) (by omega) (by omega)) ?_
  refine sm_T_nt (u := some (.inl (sc_.2 (7 * (n_ : Int) + 1).toNat))) (S1 := S1_) rfl rfl (lw_n (by omega) (by omega)) ?_
  refine sm_T_cal (d1 := 5) (Q1 := vq_528t (sc_.2 (7 * (n_ : Int) + 1).toNat) P9_ le9_ S1_) rfl rfl (by decide) (vc_528t (sc_.2 (7 * (n_ : Int) + 1).toNat) P9_ le9_ S1_ q_.1 (by first | exact hs_.2 _ | decide | omega) r_ (lsk_s J_ q_.2.1) (fun z_ => rshU_fr (hq9_ ((usd J_ q_.2.1).mpr z_)).1.1.2.2.1 q_.2.1) (fun z_ => rleU_fr (hq9_ ((usd J_ q_.2.1).mpr z_)).1.1.2.2.2 q_.2.1)) (fun u_ S5_ p_ => ?_)
  obtain ⟨v7_, rfl, i_, f_, pb_, r2_, x9_, ls_, P_⟩ := p_
  have hC_ := k_tests J_ hq9_ q_ E_ i_ f_ r2_ x9_ ls_ P_
  have J6_ := jX_tests J_ q_ i_ f_ r2_ hC_.2
  refine sm_T_go 2 (c1 := (2670, [some (.inr (.inr (some (302, 0)))), some (.inr (.inr (some (12, 0)))), some (.inr (.inr (some (13, 0)))), some (.inr (.inr (some (295, 0)))), some (.inl (7 * (n_ : Int))), some (.inl v3_), some (.inl v7_)], [], S5_)) rfl ?_
  exact lc_end ih_ hs_ hn_ hm_ h4_ (jB_up J6_)
set_option maxRecDepth 100000 in
set_option maxHeartbeats 4000000 in
theorem lc_50 {sc_ : Nat × (Nat → Int)} {m_ n_ : Nat} {x_ y_ : Option sm_V} {S_ : sm_S} (ih_ : lwC sc_ m_) (hs_ : scB sc_) (hn_ : 7 * n_ + 7 ≤ sc_.1) (hm_ : sc_.1 ≤ 7 * n_ + 7 * (m_ + 1)) (J_ : jB n_ S_) : sm_T (mt_P sc_) 40 588 (2481, Lw (7 * (n_ : Int)) x_ y_, [], S_) (lwQ (m_ + 1)) := by
  have b_ := hs_.1
  unfold Lw
  refine sm_T_go 4 (c1 := (2486, [some (.inr (.inr (some (302, 0)))), some (.inr (.inr (some (12, 0)))), some (.inr (.inr (some (13, 0)))), some (.inr (.inr (some (295, 0)))), some (.inl (7 * (n_ : Int))), x_, y_], [.inl 1, .inl (7 * (n_ : Int)), .inr (.inr (some (302, 0))), .inr (.inr (some (12, 0)))], S_)) rfl ?_
  refine sm_T_bin (w := 7 * (n_ : Int) + 1) rfl (bi_add (by omega) (by omega) (by omega)) ?_
  refine sm_T_nt (u := some (.inl (sc_.2 (7 * (n_ : Int) + 1).toNat))) (S1 := S_) rfl rfl (lw_n (by omega) (by omega)) ?_
  refine sm_T_go 3 (c1 := (2492, [some (.inr (.inr (some (302, 0)))), some (.inr (.inr (some (12, 0)))), some (.inr (.inr (some (13, 0)))), some (.inr (.inr (some (295, 0)))), some (.inl (7 * (n_ : Int))), x_, y_], [.inl 2, .inl (7 * (n_ : Int)), .inr (.inr (some (302, 0))), .inl (sc_.2 (7 * (n_ : Int) + 1).toNat), .inr (.inr (some (12, 0)))], S_)) rfl ?_
  refine sm_T_bin (w := 7 * (n_ : Int) + 2) rfl (bi_add (by omega) (by omega) (by omega)) ?_
  refine sm_T_nt (u := some (.inl (sc_.2 (7 * (n_ : Int) + 2).toNat))) (S1 := S_) rfl rfl (lw_n (by omega) (by omega)) ?_
  refine sm_T_go 3 (c1 := (2498, [some (.inr (.inr (some (302, 0)))), some (.inr (.inr (some (12, 0)))), some (.inr (.inr (some (13, 0)))), some (.inr (.inr (some (295, 0)))), some (.inl (7 * (n_ : Int))), x_, y_], [.inl 3, .inl (7 * (n_ : Int)), .inr (.inr (some (302, 0))), .inl (sc_.2 (7 * (n_ : Int) + 2).toNat), .inl (sc_.2 (7 * (n_ : Int) + 1).toNat), .inr (.inr (some (12, 0)))], S_)) rfl ?_
  refine sm_T_bin (w := 7 * (n_ : Int) + 3) rfl (bi_add (by omega) (by omega) (by omega)) ?_
  refine sm_T_nt (u := some (.inl (sc_.2 (7 * (n_ : Int) + 3).toNat))) (S1 := S_) rfl rfl (lw_n (by omega) (by omega)) ?_
  refine sm_T_b0 (a := 0) (z := 7) rfl (fun c1_ => ?_) (fun c1_ => ?_)
  · refine sm_T_go 2 (c1 := (2509, [some (.inr (.inr (some (302, 0)))), some (.inr (.inr (some (12, 0)))), some (.inr (.inr (some (13, 0)))), some (.inr (.inr (some (295, 0)))), some (.inl (7 * (n_ : Int))), x_, y_], [.inr (.inr (some (295, 0))), .inl 0, .inl (sc_.2 (7 * (n_ : Int) + 2).toNat), .inl (sc_.2 (7 * (n_ : Int) + 1).toNat), .inr (.inr (some (12, 0)))], S_)) rfl ?_
    refine sm_T_call rfl rfl ((lh_584k (sc_.2 (7 * (n_ : Int) + 1).toNat) (sc_.2 (7 * (n_ : Int) + 2).toNat) 0 S_ J_.1 J_.2.1).deep (by decide)) (fun u_ S2_ k1_ q_ => ?_) (fun ex_ S1_ k1_ q_ => by (obtain ⟨v_, S2_, k2_, e_, -⟩ := q_; cases e_))
    obtain ⟨v4_, S2z_, k2z_, e_, h5_, q_, E_⟩ := q_
    cases e_
    have r_ : jR S2_ := jR_fr J_.2.2.1 q_.1 q_.2.1
    refine sm_T_go 5 (c1 := (2519, [some (.inr (.inr (some (302, 0)))), some (.inr (.inr (some (12, 0)))), some (.inr (.inr (some (13, 0)))), some (.inr (.inr (some (295, 0)))), some (.inl (7 * (n_ : Int))), some (.inl v4_), y_], [.inl 1, .inl (7 * (n_ : Int)), .inr (.inr (some (302, 0))), .inr (.inr (some (13, 0)))], S2_)) rfl ?_
    refine sm_T_bin (w := 7 * (n_ : Int) + 1) rfl (bi_add (by omega) (by omega) (by omega)) ?_
    refine sm_T_nt (u := some (.inl (sc_.2 (7 * (n_ : Int) + 1).toNat))) (S1 := S2_) rfl rfl (lw_n (by omega) (by omega)) ?_
    refine sm_T_go 3 (c1 := (2525, [some (.inr (.inr (some (302, 0)))), some (.inr (.inr (some (12, 0)))), some (.inr (.inr (some (13, 0)))), some (.inr (.inr (some (295, 0)))), some (.inl (7 * (n_ : Int))), some (.inl v4_), y_], [.inl 2, .inl (7 * (n_ : Int)), .inr (.inr (some (302, 0))), .inl (sc_.2 (7 * (n_ : Int) + 1).toNat), .inr (.inr (some (13, 0)))], S2_)) rfl ?_
    refine sm_T_bin (w := 7 * (n_ : Int) + 2) rfl (bi_add (by omega) (by omega) (by omega)) ?_
    refine sm_T_nt (u := some (.inl (sc_.2 (7 * (n_ : Int) + 2).toNat))) (S1 := S2_) rfl rfl (lw_n (by omega) (by omega)) ?_
    refine sm_T_go 3 (c1 := (2531, [some (.inr (.inr (some (302, 0)))), some (.inr (.inr (some (12, 0)))), some (.inr (.inr (some (13, 0)))), some (.inr (.inr (some (295, 0)))), some (.inl (7 * (n_ : Int))), some (.inl v4_), y_], [.inl 3, .inl (7 * (n_ : Int)), .inr (.inr (some (302, 0))), .inl (sc_.2 (7 * (n_ : Int) + 2).toNat), .inl (sc_.2 (7 * (n_ : Int) + 1).toNat), .inr (.inr (some (13, 0)))], S2_)) rfl ?_
    refine sm_T_bin (w := 7 * (n_ : Int) + 3) rfl (bi_add (by omega) (by omega) (by omega)) ?_
    refine sm_T_nt (u := some (.inl (sc_.2 (7 * (n_ : Int) + 3).toNat))) (S1 := S2_) rfl rfl (lw_n (by omega) (by omega)) ?_
    refine sm_T_b0 (a := 0) (z := 7) rfl (fun c6_ => ?_) (fun c6_ => ?_)
    · refine sm_T_go 1 (c1 := (2541, [some (.inr (.inr (some (302, 0)))), some (.inr (.inr (some (12, 0)))), some (.inr (.inr (some (13, 0)))), some (.inr (.inr (some (295, 0)))), some (.inl (7 * (n_ : Int))), some (.inl v4_), y_], [.inl 0, .inl (sc_.2 (7 * (n_ : Int) + 2).toNat), .inl (sc_.2 (7 * (n_ : Int) + 1).toNat), .inr (.inr (some (13, 0)))], S2_)) rfl ?_
      refine sm_T_cal (d1 := 2) (Q1 := vq_531t (sc_.2 (7 * (n_ : Int) + 1).toNat) (sc_.2 (7 * (n_ : Int) + 2).toNat) 0 S2_) rfl rfl (by decide) (vc_531t (sc_.2 (7 * (n_ : Int) + 1).toNat) (sc_.2 (7 * (n_ : Int) + 2).toNat) 0 S2_ q_.1 (by first | exact hs_.2 _ | decide | omega) (by first | exact hs_.2 _ | decide | omega) (by first | exact hs_.2 _ | decide | omega) r_) (fun u_ S7_ p_ => ?_)
      obtain ⟨v9_, rfl, i_, f_, pb_, r2_, P_⟩ := p_
      have hC_ := k_fails J_ q_ (by first | exact Or.inl rfl | exact Or.inr rfl) E_ i_ f_ r2_ P_
      have J8_ := jX_fails J_ q_ i_ f_ r2_ hC_.2.1
      refine sm_T_go 2 (c1 := (2670, [some (.inr (.inr (some (302, 0)))), some (.inr (.inr (some (12, 0)))), some (.inr (.inr (some (13, 0)))), some (.inr (.inr (some (295, 0)))), some (.inl (7 * (n_ : Int))), some (.inl v4_), some (.inl v9_)], [], S7_)) rfl ?_
      exact lc_end ih_ hs_ hn_ hm_ h5_ (jB_up J8_)
    · exact absurd (c6_.symm.trans c1_) (by decide)
  · refine sm_T_go 3 (c1 := (2509, [some (.inr (.inr (some (302, 0)))), some (.inr (.inr (some (12, 0)))), some (.inr (.inr (some (13, 0)))), some (.inr (.inr (some (295, 0)))), some (.inl (7 * (n_ : Int))), x_, y_], [.inr (.inr (some (295, 0))), .inl 1, .inl (sc_.2 (7 * (n_ : Int) + 2).toNat), .inl (sc_.2 (7 * (n_ : Int) + 1).toNat), .inr (.inr (some (12, 0)))], S_)) rfl ?_
    refine sm_T_call rfl rfl ((lh_584k (sc_.2 (7 * (n_ : Int) + 1).toNat) (sc_.2 (7 * (n_ : Int) + 2).toNat) 1 S_ J_.1 J_.2.1).deep (by decide)) (fun u_ S10_ k1_ q_ => ?_) (fun ex_ S1_ k1_ q_ => by (obtain ⟨v_, S2_, k2_, e_, -⟩ := q_; cases e_))
    obtain ⟨v12_, S2z_, k2z_, e_, h13_, q_, E_⟩ := q_
    cases e_
    have r_ : jR S10_ := jR_fr J_.2.2.1 q_.1 q_.2.1
    refine sm_T_go 5 (c1 := (2519, [some (.inr (.inr (some (302, 0)))), some (.inr (.inr (some (12, 0)))), some (.inr (.inr (some (13, 0)))), some (.inr (.inr (some (295, 0)))), some (.inl (7 * (n_ : Int))), some (.inl v12_), y_], [.inl 1, .inl (7 * (n_ : Int)), .inr (.inr (some (302, 0))), .inr (.inr (some (13, 0)))], S10_)) rfl ?_
    refine sm_T_bin (w := 7 * (n_ : Int) + 1) rfl (bi_add (by omega) (by omega) (by omega)) ?_
    refine sm_T_nt (u := some (.inl (sc_.2 (7 * (n_ : Int) + 1).toNat))) (S1 := S10_) rfl rfl (lw_n (by omega) (by omega)) ?_
    refine sm_T_go 3 (c1 := (2525, [some (.inr (.inr (some (302, 0)))), some (.inr (.inr (some (12, 0)))), some (.inr (.inr (some (13, 0)))), some (.inr (.inr (some (295, 0)))), some (.inl (7 * (n_ : Int))), some (.inl v12_), y_], [.inl 2, .inl (7 * (n_ : Int)), .inr (.inr (some (302, 0))), .inl (sc_.2 (7 * (n_ : Int) + 1).toNat), .inr (.inr (some (13, 0)))], S10_)) rfl ?_
    refine sm_T_bin (w := 7 * (n_ : Int) + 2) rfl (bi_add (by omega) (by omega) (by omega)) ?_
    refine sm_T_nt (u := some (.inl (sc_.2 (7 * (n_ : Int) + 2).toNat))) (S1 := S10_) rfl rfl (lw_n (by omega) (by omega)) ?_
    refine sm_T_go 3 (c1 := (2531, [some (.inr (.inr (some (302, 0)))), some (.inr (.inr (some (12, 0)))), some (.inr (.inr (some (13, 0)))), some (.inr (.inr (some (295, 0)))), some (.inl (7 * (n_ : Int))), some (.inl v12_), y_], [.inl 3, .inl (7 * (n_ : Int)), .inr (.inr (some (302, 0))), .inl (sc_.2 (7 * (n_ : Int) + 2).toNat), .inl (sc_.2 (7 * (n_ : Int) + 1).toNat), .inr (.inr (some (13, 0)))], S10_)) rfl ?_
    refine sm_T_bin (w := 7 * (n_ : Int) + 3) rfl (bi_add (by omega) (by omega) (by omega)) ?_
    refine sm_T_nt (u := some (.inl (sc_.2 (7 * (n_ : Int) + 3).toNat))) (S1 := S10_) rfl rfl (lw_n (by omega) (by omega)) ?_
    refine sm_T_b0 (a := 0) (z := 7) rfl (fun c14_ => ?_) (fun c14_ => ?_)
    · exact absurd (c14_.symm.trans c1_) (by decide)
    · refine sm_T_go 2 (c1 := (2541, [some (.inr (.inr (some (302, 0)))), some (.inr (.inr (some (12, 0)))), some (.inr (.inr (some (13, 0)))), some (.inr (.inr (some (295, 0)))), some (.inl (7 * (n_ : Int))), some (.inl v12_), y_], [.inl 1, .inl (sc_.2 (7 * (n_ : Int) + 2).toNat), .inl (sc_.2 (7 * (n_ : Int) + 1).toNat), .inr (.inr (some (13, 0)))], S10_)) rfl ?_
      refine sm_T_cal (d1 := 2) (Q1 := vq_531t (sc_.2 (7 * (n_ : Int) + 1).toNat) (sc_.2 (7 * (n_ : Int) + 2).toNat) 1 S10_) rfl rfl (by decide) (vc_531t (sc_.2 (7 * (n_ : Int) + 1).toNat) (sc_.2 (7 * (n_ : Int) + 2).toNat) 1 S10_ q_.1 (by first | exact hs_.2 _ | decide | omega) (by first | exact hs_.2 _ | decide | omega) (by first | exact hs_.2 _ | decide | omega) r_) (fun u_ S15_ p_ => ?_)
      obtain ⟨v17_, rfl, i_, f_, pb_, r2_, P_⟩ := p_
      have hC_ := k_fails J_ q_ (by first | exact Or.inl rfl | exact Or.inr rfl) E_ i_ f_ r2_ P_
      have J16_ := jX_fails J_ q_ i_ f_ r2_ hC_.2.1
      refine sm_T_go 2 (c1 := (2670, [some (.inr (.inr (some (302, 0)))), some (.inr (.inr (some (12, 0)))), some (.inr (.inr (some (13, 0)))), some (.inr (.inr (some (295, 0)))), some (.inl (7 * (n_ : Int))), some (.inl v12_), some (.inl v17_)], [], S15_)) rfl ?_
      exact lc_end ih_ hs_ hn_ hm_ h13_ (jB_up J16_)
set_option maxRecDepth 100000 in
set_option maxHeartbeats 4000000 in
theorem lc_51 {sc_ : Nat × (Nat → Int)} {m_ n_ : Nat} {x_ y_ : Option sm_V} {S_ : sm_S} (ih_ : lwC sc_ m_) (hs_ : scB sc_) (hn_ : 7 * n_ + 7 ≤ sc_.1) (hm_ : sc_.1 ≤ 7 * n_ + 7 * (m_ + 1)) (J_ : jB n_ S_) : sm_T (mt_P sc_) 40 588 (2549, Lw (7 * (n_ : Int)) x_ y_, [], S_) (lwQ (m_ + 1)) := by
  have b_ := hs_.1
  unfold Lw
  refine sm_T_go 4 (c1 := (2554, [some (.inr (.inr (some (302, 0)))), some (.inr (.inr (some (12, 0)))), some (.inr (.inr (some (13, 0)))), some (.inr (.inr (some (295, 0)))), some (.inl (7 * (n_ : Int))), x_, y_], [.inl 1, .inl (7 * (n_ : Int)), .inr (.inr (some (302, 0))), .inr (.inr (some (12, 0)))], S_)) rfl ?_
  refine sm_T_bin (w := 7 * (n_ : Int) + 1) rfl (bi_add (by omega) (by omega) (by omega)) ?_
  refine sm_T_nt (u := some (.inl (sc_.2 (7 * (n_ : Int) + 1).toNat))) (S1 := S_) rfl rfl (lw_n (by omega) (by omega)) ?_
  refine sm_T_go 3 (c1 := (2560, [some (.inr (.inr (some (302, 0)))), some (.inr (.inr (some (12, 0)))), some (.inr (.inr (some (13, 0)))), some (.inr (.inr (some (295, 0)))), some (.inl (7 * (n_ : Int))), x_, y_], [.inl 2, .inl (7 * (n_ : Int)), .inr (.inr (some (302, 0))), .inl (sc_.2 (7 * (n_ : Int) + 1).toNat), .inr (.inr (some (12, 0)))], S_)) rfl ?_
  refine sm_T_bin (w := 7 * (n_ : Int) + 2) rfl (bi_add (by omega) (by omega) (by omega)) ?_
  refine sm_T_nt (u := some (.inl (sc_.2 (7 * (n_ : Int) + 2).toNat))) (S1 := S_) rfl rfl (lw_n (by omega) (by omega)) ?_
  refine sm_T_go 1 (c1 := (2563, [some (.inr (.inr (some (302, 0)))), some (.inr (.inr (some (12, 0)))), some (.inr (.inr (some (13, 0)))), some (.inr (.inr (some (295, 0)))), some (.inl (7 * (n_ : Int))), x_, y_], [.inr (.inr (some (295, 0))), .inl (sc_.2 (7 * (n_ : Int) + 2).toNat), .inl (sc_.2 (7 * (n_ : Int) + 1).toNat), .inr (.inr (some (12, 0)))], S_)) rfl ?_
  obtain ⟨P9_, le9_, L9_, fa9_, hq9_⟩ := tq_set J_ (sc_.2 (7 * (n_ : Int) + 1).toNat)
  refine sm_T_call rfl rfl ((lh_585k (sc_.2 (7 * (n_ : Int) + 1).toNat) (sc_.2 (7 * (n_ : Int) + 2).toNat) P9_ L9_ fa9_ S_ J_.1 J_.2.1 (tgo_of J_) (by first | exact hs_.2 _ | decide | omega) (fun z_ => ⟨(hq9_ z_.1.1).1.1.1, ((hq9_ z_.1.1).2.1.1 z_.2).1, fun k9_ h9_ => ((hq9_ z_.1.1).2.2 k9_ h9_).1⟩)).deep (by decide)) (fun u_ S1_ k1_ q_ => ?_) (fun ex_ S1_ k1_ q_ => by (obtain ⟨v_, S2_, k2_, e_, -⟩ := q_; cases e_))
  obtain ⟨v3_, S2z_, k2z_, e_, h4_, q_, E_⟩ := q_
  cases e_
  have r_ : jR S1_ := jR_fr J_.2.2.1 q_.1 q_.2.1
  refine sm_T_go 5 (c1 := (2573, [some (.inr (.inr (some (302, 0)))), some (.inr (.inr (some (12, 0)))), some (.inr (.inr (some (13, 0)))), some (.inr (.inr (some (295, 0)))), some (.inl (7 * (n_ : Int))), some (.inl v3_), y_], [.inl 1, .inl (7 * (n_ : Int)), .inr (.inr (some (302, 0))), .inr (.inr (some (13, 0)))], S1_)) rfl ?_
  refine sm_T_bin (w := 7 * (n_ : Int) + 1) rfl (bi_add (by omega) (by omega) (by omega)) ?_
  refine sm_T_nt (u := some (.inl (sc_.2 (7 * (n_ : Int) + 1).toNat))) (S1 := S1_) rfl rfl (lw_n (by omega) (by omega)) ?_
  refine sm_T_go 3 (c1 := (2579, [some (.inr (.inr (some (302, 0)))), some (.inr (.inr (some (12, 0)))), some (.inr (.inr (some (13, 0)))), some (.inr (.inr (some (295, 0)))), some (.inl (7 * (n_ : Int))), some (.inl v3_), y_], [.inl 2, .inl (7 * (n_ : Int)), .inr (.inr (some (302, 0))), .inl (sc_.2 (7 * (n_ : Int) + 1).toNat), .inr (.inr (some (13, 0)))], S1_)) rfl ?_
  refine sm_T_bin (w := 7 * (n_ : Int) + 2) rfl (bi_add (by omega) (by omega) (by omega)) ?_
  refine sm_T_nt (u := some (.inl (sc_.2 (7 * (n_ : Int) + 2).toNat))) (S1 := S1_) rfl rfl (lw_n (by omega) (by omega)) ?_
  refine sm_T_cal (d1 := 2) (Q1 := vq_533t (sc_.2 (7 * (n_ : Int) + 1).toNat) (sc_.2 (7 * (n_ : Int) + 2).toNat) P9_ L9_ fa9_ S1_) rfl rfl (by decide) (vc_533t (sc_.2 (7 * (n_ : Int) + 1).toNat) (sc_.2 (7 * (n_ : Int) + 2).toNat) P9_ L9_ fa9_ S1_ q_.1 (by first | exact hs_.2 _ | decide | omega) (by first | exact hs_.2 _ | decide | omega) r_ (rL_sus J_ hq9_ q_.2.1)) (fun u_ S5_ p_ => ?_)
  obtain ⟨v7_, rfl, i_, f_, pb_, r2_, P_⟩ := p_
  have hC_ := k_suspect J_ q_ E_ i_ f_ r2_ P_
  have J6_ := jX_suspect J_ q_ i_ f_ r2_ hC_.2
  refine sm_T_go 2 (c1 := (2670, [some (.inr (.inr (some (302, 0)))), some (.inr (.inr (some (12, 0)))), some (.inr (.inr (some (13, 0)))), some (.inr (.inr (some (295, 0)))), some (.inl (7 * (n_ : Int))), some (.inl v3_), some (.inl v7_)], [], S5_)) rfl ?_
  exact lc_end ih_ hs_ hn_ hm_ h4_ (jB_up J6_)
set_option maxRecDepth 100000 in
set_option maxHeartbeats 4000000 in
theorem lc_52 {sc_ : Nat × (Nat → Int)} {m_ n_ : Nat} {x_ y_ : Option sm_V} {S_ : sm_S} (ih_ : lwC sc_ m_) (hs_ : scB sc_) (hn_ : 7 * n_ + 7 ≤ sc_.1) (hm_ : sc_.1 ≤ 7 * n_ + 7 * (m_ + 1)) (J_ : jB n_ S_) : sm_T (mt_P sc_) 40 588 (2589, Lw (7 * (n_ : Int)) x_ y_, [], S_) (lwQ (m_ + 1)) := by
  have b_ := hs_.1
  unfold Lw
  refine sm_T_go 4 (c1 := (2594, [some (.inr (.inr (some (302, 0)))), some (.inr (.inr (some (12, 0)))), some (.inr (.inr (some (13, 0)))), some (.inr (.inr (some (295, 0)))), some (.inl (7 * (n_ : Int))), x_, y_], [.inl 1, .inl (7 * (n_ : Int)), .inr (.inr (some (302, 0))), .inr (.inr (some (12, 0)))], S_)) rfl ?_
  refine sm_T_bin (w := 7 * (n_ : Int) + 1) rfl (bi_add (by omega) (by omega) (by omega)) ?_
  refine sm_T_nt (u := some (.inl (sc_.2 (7 * (n_ : Int) + 1).toNat))) (S1 := S_) rfl rfl (lw_n (by omega) (by omega)) ?_
  refine sm_T_go 3 (c1 := (2600, [some (.inr (.inr (some (302, 0)))), some (.inr (.inr (some (12, 0)))), some (.inr (.inr (some (13, 0)))), some (.inr (.inr (some (295, 0)))), some (.inl (7 * (n_ : Int))), x_, y_], [.inl 2, .inl (7 * (n_ : Int)), .inr (.inr (some (302, 0))), .inl (sc_.2 (7 * (n_ : Int) + 1).toNat), .inr (.inr (some (12, 0)))], S_)) rfl ?_
  refine sm_T_bin (w := 7 * (n_ : Int) + 2) rfl (bi_add (by omega) (by omega) (by omega)) ?_
  refine sm_T_nt (u := some (.inl (sc_.2 (7 * (n_ : Int) + 2).toNat))) (S1 := S_) rfl rfl (lw_n (by omega) (by omega)) ?_
  refine sm_T_go 1 (c1 := (2603, [some (.inr (.inr (some (302, 0)))), some (.inr (.inr (some (12, 0)))), some (.inr (.inr (some (13, 0)))), some (.inr (.inr (some (295, 0)))), some (.inl (7 * (n_ : Int))), x_, y_], [.inr (.inr (some (295, 0))), .inl (sc_.2 (7 * (n_ : Int) + 2).toNat), .inl (sc_.2 (7 * (n_ : Int) + 1).toNat), .inr (.inr (some (12, 0)))], S_)) rfl ?_
  obtain ⟨P9_, le9_, L9_, fa9_, hq9_⟩ := tq_set J_ (sc_.2 (7 * (n_ : Int) + 1).toNat)
  refine sm_T_call rfl rfl ((lh_586k (sc_.2 (7 * (n_ : Int) + 1).toNat) (sc_.2 (7 * (n_ : Int) + 2).toNat) P9_ L9_ le9_ S_ J_.1 J_.2.1 (tgo_of J_) (fun z_ => (hq9_ z_).1.1.2.1) (fun z_ y_ => ⟨(hq9_ z_).1.1.1, ((hq9_ z_).2.1.1 y_).1⟩)).deep (by decide)) (fun u_ S1_ k1_ q_ => ?_) (fun ex_ S1_ k1_ q_ => by (obtain ⟨v_, S2_, k2_, e_, -⟩ := q_; cases e_))
  obtain ⟨v3_, S2z_, k2z_, e_, h4_, q_, E_⟩ := q_
  cases e_
  have r_ : jR S1_ := jR_fr J_.2.2.1 q_.1 q_.2.1
  refine sm_T_go 5 (c1 := (2613, [some (.inr (.inr (some (302, 0)))), some (.inr (.inr (some (12, 0)))), some (.inr (.inr (some (13, 0)))), some (.inr (.inr (some (295, 0)))), some (.inl (7 * (n_ : Int))), some (.inl v3_), y_], [.inl 1, .inl (7 * (n_ : Int)), .inr (.inr (some (302, 0))), .inr (.inr (some (13, 0)))], S1_)) rfl ?_
  refine sm_T_bin (w := 7 * (n_ : Int) + 1) rfl (bi_add (by omega) (by omega) (by omega)) ?_
  refine sm_T_nt (u := some (.inl (sc_.2 (7 * (n_ : Int) + 1).toNat))) (S1 := S1_) rfl rfl (lw_n (by omega) (by omega)) ?_
  refine sm_T_go 3 (c1 := (2619, [some (.inr (.inr (some (302, 0)))), some (.inr (.inr (some (12, 0)))), some (.inr (.inr (some (13, 0)))), some (.inr (.inr (some (295, 0)))), some (.inl (7 * (n_ : Int))), some (.inl v3_), y_], [.inl 2, .inl (7 * (n_ : Int)), .inr (.inr (some (302, 0))), .inl (sc_.2 (7 * (n_ : Int) + 1).toNat), .inr (.inr (some (13, 0)))], S1_)) rfl ?_
  refine sm_T_bin (w := 7 * (n_ : Int) + 2) rfl (bi_add (by omega) (by omega) (by omega)) ?_
  refine sm_T_nt (u := some (.inl (sc_.2 (7 * (n_ : Int) + 2).toNat))) (S1 := S1_) rfl rfl (lw_n (by omega) (by omega)) ?_
  refine sm_T_cal (d1 := 5) (Q1 := vq_534t (sc_.2 (7 * (n_ : Int) + 1).toNat) (sc_.2 (7 * (n_ : Int) + 2).toNat) P9_ L9_ le9_ S1_) rfl rfl (by decide) (vc_534t (sc_.2 (7 * (n_ : Int) + 1).toNat) (sc_.2 (7 * (n_ : Int) + 2).toNat) P9_ L9_ le9_ S1_ q_.1 (by first | exact hs_.2 _ | decide | omega) (by first | exact hs_.2 _ | decide | omega) r_ (lsk_s J_ q_.2.1) (fun z_ => rleU_fr (hq9_ ((usd J_ q_.2.1).mpr z_)).1.1.2.2.2 q_.2.1) (rL_fau J_ hq9_ q_.2.1)) (fun u_ S5_ p_ => ?_)
  obtain ⟨v7_, rfl, i_, f_, pb_, r2_, ls_, P_⟩ := p_
  have hC_ := k_faults J_ q_ E_ i_ f_ r2_ ls_ P_
  have J6_ := jX_faults J_ q_ i_ f_ r2_ hC_.2
  have hT_ : S5_.1 13 0 0 = v3_ := hC_.1.1
  have hO_ : v3_ = 0 → S5_.2.2.2 295 0 0 = l_i2l v7_ := fun z_ => (congrFun (fr_lon (t_ := 295) (i_ := 0) f_ rfl) 0).trans (hC_.1.2 z_)
  refine sm_T_go 2 (c1 := (2627, [some (.inr (.inr (some (302, 0)))), some (.inr (.inr (some (12, 0)))), some (.inr (.inr (some (13, 0)))), some (.inr (.inr (some (295, 0)))), some (.inl (7 * (n_ : Int))), some (.inl v3_), some (.inl v7_)], [.inr (.inr (some (13, 0)))], S5_)) rfl ?_
  refine sm_T_cal (d1 := 0) (Q1 := vq_thw S5_) rfl rfl (by decide) (vc_thw S5_) (fun u_ S9_ p9_ => ?_)
  obtain ⟨rfl, rfl⟩ := p9_
  refine sm_T_go 1 (c1 := (2632, [some (.inr (.inr (some (302, 0)))), some (.inr (.inr (some (12, 0)))), some (.inr (.inr (some (13, 0)))), some (.inr (.inr (some (295, 0)))), some (.inl (7 * (n_ : Int))), some (.inl v3_), some (.inl v7_)], [.inl v3_, .inl (S5_.1 13 0 0)], S5_)) rfl ?_
  refine sm_T_br (a := 0) (z := 5) rfl (fun c_ => ?_) (fun c_ => ?_)
  · refine sm_T_go 1 (c1 := (2639, [some (.inr (.inr (some (302, 0)))), some (.inr (.inr (some (12, 0)))), some (.inr (.inr (some (13, 0)))), some (.inr (.inr (some (295, 0)))), some (.inl (7 * (n_ : Int))), some (.inl v3_), some (.inl v7_)], [.inl v3_], S5_)) rfl ?_
    refine sm_T_b0 (a := 1) (z := 15) rfl (fun c_ => ?_) (fun c_ => ?_)
    · refine sm_T_go 1 (c1 := (2670, [some (.inr (.inr (some (302, 0)))), some (.inr (.inr (some (12, 0)))), some (.inr (.inr (some (13, 0)))), some (.inr (.inr (some (295, 0)))), some (.inl (7 * (n_ : Int))), some (.inl v3_), some (.inl v7_)], [], S5_)) rfl ?_
      exact lc_end ih_ hs_ hn_ hm_ h4_ (jB_up J6_)
    · have k0_ : v3_ = 0 := Decidable.of_not_not (of_decide_eq_false c_)
      refine sm_T_go 6 (c1 := (2649, [some (.inr (.inr (some (302, 0)))), some (.inr (.inr (some (12, 0)))), some (.inr (.inr (some (13, 0)))), some (.inr (.inr (some (295, 0)))), some (.inl (7 * (n_ : Int))), some (.inl v3_), some (.inl v7_)], [.inl (sm_lcmp (S5_.2.2.2 295 0 0) (l_i2l v7_))], S5_)) rfl ?_
      refine sm_T_b0 (a := 0) (z := 5) rfl (fun c_ => ?_) (fun c_ => ?_)
      · refine sm_T_go 1 (c1 := (2670, [some (.inr (.inr (some (302, 0)))), some (.inr (.inr (some (12, 0)))), some (.inr (.inr (some (13, 0)))), some (.inr (.inr (some (295, 0)))), some (.inl (7 * (n_ : Int))), some (.inl v3_), some (.inl v7_)], [], S5_)) rfl ?_
        exact lc_end ih_ hs_ hn_ hm_ h4_ (jB_up J6_)
      · exact absurd (lcmp0.mpr (hO_ k0_)) (of_decide_eq_false c_)
  · exact absurd hT_ (of_decide_eq_false c_)
