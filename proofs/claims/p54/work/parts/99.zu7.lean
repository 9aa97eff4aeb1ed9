/-! the law's cases; written by wip/ids/lawgen.py -/
set_option maxRecDepth 100000 in
set_option maxHeartbeats 4000000 in
theorem lc_26 {sc_ : Nat × (Nat → Int)} {m_ n_ : Nat} {x_ y_ : Option sm_V} {S_ : sm_S} (ih_ : lwC sc_ m_) (hs_ : scB sc_) (hn_ : 7 * n_ + 7 ≤ sc_.1) (hm_ : sc_.1 ≤ 7 * n_ + 7 * (m_ + 1)) (J_ : jB n_ S_) : sm_T (mt_P sc_) 40 588 (1311, Lw (7 * (n_ : Int)) x_ y_, [], S_) (lwQ (m_ + 1)) := by
  have b_ := hs_.1
  unfold Lw
  refine sm_T_go 4 (c1 := (1316, [some (.inr (.inr (some (302, 0)))), some (.inr (.inr (some (12, 0)))), some (.inr (.inr (some (13, 0)))), some (.inr (.inr (some (295, 0)))), some (.inl (7 * (n_ : Int))), x_, y_], [.inl 1, .inl (7 * (n_ : Int)), .inr (.inr (some (302, 0))), .inr (.inr (some (12, 0)))], S_)) rfl ?_
  refine sm_T_bin (w := 7 * (n_ : Int) + 1) rfl (bi_add (by omega) (by omega) (by omega)) ?_
  refine sm_T_nt (u := some (.inl (sc_.2 (7 * (n_ : Int) + 1).toNat))) (S1 := S_) rfl rfl (lw_n (by omega) (by omega)) ?_
  refine sm_T_go 3 (c1 := (1322, [some (.inr (.inr (some (302, 0)))), some (.inr (.inr (some (12, 0)))), some (.inr (.inr (some (13, 0)))), some (.inr (.inr (some (295, 0)))), some (.inl (7 * (n_ : Int))), x_, y_], [.inl 2, .inl (7 * (n_ : Int)), .inr (.inr (some (302, 0))), .inl (sc_.2 (7 * (n_ : Int) + 1).toNat), .inr (.inr (some (12, 0)))], S_)) rfl ?_
  refine sm_T_bin (w := 7 * (n_ : Int) + 2) rfl (bi_add (by omega) (by omega) (by omega)) ?_
  refine sm_T_nt (u := some (.inl (sc_.2 (7 * (n_ : Int) + 2).toNat))) (S1 := S_) rfl rfl (lw_n (by omega) (by omega)) ?_
  refine sm_T_go 1 (c1 := (1325, [some (.inr (.inr (some (302, 0)))), some (.inr (.inr (some (12, 0)))), some (.inr (.inr (some (13, 0)))), some (.inr (.inr (some (295, 0)))), some (.inl (7 * (n_ : Int))), x_, y_], [.inr (.inr (some (295, 0))), .inl (sc_.2 (7 * (n_ : Int) + 2).toNat), .inl (sc_.2 (7 * (n_ : Int) + 1).toNat), .inr (.inr (some (12, 0)))], S_)) rfl ?_
  refine sm_T_call rfl rfl ((lh_560 (sc_.2 (7 * (n_ : Int) + 1).toNat) (sc_.2 (7 * (n_ : Int) + 2).toNat) S_ J_.1 J_.2.1).deep (by decide)) (fun u_ S1_ k1_ q_ => ?_) (fun ex_ S1_ k1_ q_ => by (obtain ⟨v_, S2_, k2_, e_, -⟩ := q_; cases e_))
  obtain ⟨v3_, S2z_, k2z_, e_, h4_, q_⟩ := q_
  cases e_
  have J2_ := jB_c J_ q_
  refine sm_T_go 5 (c1 := (1335, [some (.inr (.inr (some (302, 0)))), some (.inr (.inr (some (12, 0)))), some (.inr (.inr (some (13, 0)))), some (.inr (.inr (some (295, 0)))), some (.inl (7 * (n_ : Int))), some (.inl v3_), y_], [.inl 1, .inl (7 * (n_ : Int)), .inr (.inr (some (302, 0))), .inr (.inr (some (13, 0)))], S1_)) rfl ?_
  refine sm_T_bin (w := 7 * (n_ : Int) + 1) rfl (bi_add (by omega) (by omega) (by omega)) ?_
  refine sm_T_nt (u := some (.inl (sc_.2 (7 * (n_ : Int) + 1).toNat))) (S1 := S1_) rfl rfl (lw_n (by omega) (by omega)) ?_
  refine sm_T_go 3 (c1 := (1341, [some (.inr (.inr (some (302, 0)))), some (.inr (.inr (some (12, 0)))), some (.inr (.inr (some (13, 0)))), some (.inr (.inr (some (295, 0)))), some (.inl (7 * (n_ : Int))), some (.inl v3_), y_], [.inl 2, .inl (7 * (n_ : Int)), .inr (.inr (some (302, 0))), .inl (sc_.2 (7 * (n_ : Int) + 1).toNat), .inr (.inr (some (13, 0)))], S1_)) rfl ?_
  refine sm_T_bin (w := 7 * (n_ : Int) + 2) rfl (bi_add (by omega) (by omega) (by omega)) ?_
  refine sm_T_nt (u := some (.inl (sc_.2 (7 * (n_ : Int) + 2).toNat))) (S1 := S1_) rfl rfl (lw_n (by omega) (by omega)) ?_
  refine sm_T_cal (d1 := 2) (Q1 := vq_444 (sc_.2 (7 * (n_ : Int) + 1).toNat) (sc_.2 (7 * (n_ : Int) + 2).toNat) S1_) rfl rfl (by decide) (vc_444 (sc_.2 (7 * (n_ : Int) + 1).toNat) (sc_.2 (7 * (n_ : Int) + 2).toNat) S1_ J2_.1 (by first | exact hs_.2 _ | decide | omega) (by first | exact hs_.2 _ | decide | omega) J2_.2.2.1) (fun u_ S5_ p_ => ?_)
  obtain ⟨v7_, rfl, i_, f_, p_⟩ := p_
  have J6_ := jB_r J2_ i_ f_ (by first | exact p_ | exact p_.1 | exact p_.2 | exact p_.2.1 | exact p_.2.2)
  refine sm_T_go 2 (c1 := (2670, [some (.inr (.inr (some (302, 0)))), some (.inr (.inr (some (12, 0)))), some (.inr (.inr (some (13, 0)))), some (.inr (.inr (some (295, 0)))), some (.inl (7 * (n_ : Int))), some (.inl v3_), some (.inl v7_)], [], S5_)) rfl ?_
  exact lc_end ih_ hs_ hn_ hm_ h4_ (jB_up J6_)
set_option maxRecDepth 100000 in
set_option maxHeartbeats 4000000 in
theorem lc_27 {sc_ : Nat × (Nat → Int)} {m_ n_ : Nat} {x_ y_ : Option sm_V} {S_ : sm_S} (ih_ : lwC sc_ m_) (hs_ : scB sc_) (hn_ : 7 * n_ + 7 ≤ sc_.1) (hm_ : sc_.1 ≤ 7 * n_ + 7 * (m_ + 1)) (J_ : jB n_ S_) : sm_T (mt_P sc_) 40 588 (1351, Lw (7 * (n_ : Int)) x_ y_, [], S_) (lwQ (m_ + 1)) := by
  have b_ := hs_.1
  unfold Lw
  refine sm_T_go 4 (c1 := (1356, [some (.inr (.inr (some (302, 0)))), some (.inr (.inr (some (12, 0)))), some (.inr (.inr (some (13, 0)))), some (.inr (.inr (some (295, 0)))), some (.inl (7 * (n_ : Int))), x_, y_], [.inl 1, .inl (7 * (n_ : Int)), .inr (.inr (some (302, 0))), .inr (.inr (some (12, 0)))], S_)) rfl ?_
  refine sm_T_bin (w := 7 * (n_ : Int) + 1) rfl (bi_add (by omega) (by omega) (by omega)) ?_
  refine sm_T_nt (u := some (.inl (sc_.2 (7 * (n_ : Int) + 1).toNat))) (S1 := S_) rfl rfl (lw_n (by omega) (by omega)) ?_
  refine sm_T_go 3 (c1 := (1362, [some (.inr (.inr (some (302, 0)))), some (.inr (.inr (some (12, 0)))), some (.inr (.inr (some (13, 0)))), some (.inr (.inr (some (295, 0)))), some (.inl (7 * (n_ : Int))), x_, y_], [.inl 2, .inl (7 * (n_ : Int)), .inr (.inr (some (302, 0))), .inl (sc_.2 (7 * (n_ : Int) + 1).toNat), .inr (.inr (some (12, 0)))], S_)) rfl ?_
  refine sm_T_bin (w := 7 * (n_ : Int) + 2) rfl (bi_add (by omega) (by omega) (by omega)) ?_
  refine sm_T_nt (u := some (.inl (sc_.2 (7 * (n_ : Int) + 2).toNat))) (S1 := S_) rfl rfl (lw_n (by omega) (by omega)) ?_
  refine sm_T_go 3 (c1 := (1368, [some (.inr (.inr (some (302, 0)))), some (.inr (.inr (some (12, 0)))), some (.inr (.inr (some (13, 0)))), some (.inr (.inr (some (295, 0)))), some (.inl (7 * (n_ : Int))), x_, y_], [.inl 3, .inl (7 * (n_ : Int)), .inr (.inr (some (302, 0))), .inl (sc_.2 (7 * (n_ : Int) + 2).toNat), .inl (sc_.2 (7 * (n_ : Int) + 1).toNat), .inr (.inr (some (12, 0)))], S_)) rfl ?_
  refine sm_T_bin (w := 7 * (n_ : Int) + 3) rfl (bi_add (by omega) (by omega) (by omega)) ?_
  refine sm_T_nt (u := some (.inl (sc_.2 (7 * (n_ : Int) + 3).toNat))) (S1 := S_) rfl rfl (lw_n (by omega) (by omega)) ?_
  refine sm_T_go 1 (c1 := (1371, [some (.inr (.inr (some (302, 0)))), some (.inr (.inr (some (12, 0)))), some (.inr (.inr (some (13, 0)))), some (.inr (.inr (some (295, 0)))), some (.inl (7 * (n_ : Int))), x_, y_], [.inr (.inr (some (295, 0))), .inl (sc_.2 (7 * (n_ : Int) + 3).toNat), .inl (sc_.2 (7 * (n_ : Int) + 2).toNat), .inl (sc_.2 (7 * (n_ : Int) + 1).toNat), .inr (.inr (some (12, 0)))], S_)) rfl ?_
  refine sm_T_call rfl rfl ((lh_561 (sc_.2 (7 * (n_ : Int) + 1).toNat) (sc_.2 (7 * (n_ : Int) + 2).toNat) (sc_.2 (7 * (n_ : Int) + 3).toNat) S_ J_.1 J_.2.1).deep (by decide)) (fun u_ S1_ k1_ q_ => ?_) (fun ex_ S1_ k1_ q_ => by (obtain ⟨v_, S2_, k2_, e_, -⟩ := q_; cases e_))
  obtain ⟨v3_, S2z_, k2z_, e_, h4_, q_⟩ := q_
  cases e_
  have J2_ := jB_c J_ q_
  refine sm_T_go 5 (c1 := (1381, [some (.inr (.inr (some (302, 0)))), some (.inr (.inr (some (12, 0)))), some (.inr (.inr (some (13, 0)))), some (.inr (.inr (some (295, 0)))), some (.inl (7 * (n_ : Int))), some (.inl v3_), y_], [.inl 1, .inl (7 * (n_ : Int)), .inr (.inr (some (302, 0))), .inr (.inr (some (13, 0)))], S1_)) rfl ?_
  refine sm_T_bin (w := 7 * (n_ : Int) + 1) rfl (bi_add (by omega) (by omega) (by omega)) ?_
  refine sm_T_nt (u := some (.inl (sc_.2 (7 * (n_ : Int) + 1).toNat))) (S1 := S1_) rfl rfl (lw_n (by omega) (by omega)) ?_
  refine sm_T_go 3 (c1 := (1387, [some (.inr (.inr (some (302, 0)))), some (.inr (.inr (some (12, 0)))), some (.inr (.inr (some (13, 0)))), some (.inr (.inr (some (295, 0)))), some (.inl (7 * (n_ : Int))), some (.inl v3_), y_], [.inl 2, .inl (7 * (n_ : Int)), .inr (.inr (some (302, 0))), .inl (sc_.2 (7 * (n_ : Int) + 1).toNat), .inr (.inr (some (13, 0)))], S1_)) rfl ?_
  refine sm_T_bin (w := 7 * (n_ : Int) + 2) rfl (bi_add (by omega) (by omega) (by omega)) ?_
  refine sm_T_nt (u := some (.inl (sc_.2 (7 * (n_ : Int) + 2).toNat))) (S1 := S1_) rfl rfl (lw_n (by omega) (by omega)) ?_
  refine sm_T_go 3 (c1 := (1393, [some (.inr (.inr (some (302, 0)))), some (.inr (.inr (some (12, 0)))), some (.inr (.inr (some (13, 0)))), some (.inr (.inr (some (295, 0)))), some (.inl (7 * (n_ : Int))), some (.inl v3_), y_], [.inl 3, .inl (7 * (n_ : Int)), .inr (.inr (some (302, 0))), .inl (sc_.2 (7 * (n_ : Int) + 2).toNat), .inl (sc_.2 (7 * (n_ : Int) + 1).toNat), .inr (.inr (some (13, 0)))], S1_)) rfl ?_
  refine sm_T_bin (w := 7 * (n_ : Int) + 3) rfl (bi_add (by omega) (by omega) (by omega)) ?_
  refine sm_T_nt (u := some (.inl (sc_.2 (7 * (n_ : Int) + 3).toNat))) (S1 := S1_) rfl rfl (lw_n (by omega) (by omega)) ?_
  refine sm_T_cal (d1 := 2) (Q1 := vq_446 (sc_.2 (7 * (n_ : Int) + 1).toNat) (sc_.2 (7 * (n_ : Int) + 2).toNat) (sc_.2 (7 * (n_ : Int) + 3).toNat) S1_) rfl rfl (by decide) (vc_446 (sc_.2 (7 * (n_ : Int) + 1).toNat) (sc_.2 (7 * (n_ : Int) + 2).toNat) (sc_.2 (7 * (n_ : Int) + 3).toNat) S1_ J2_.1 (by first | exact hs_.2 _ | decide | omega) (by first | exact hs_.2 _ | decide | omega) (by first | exact hs_.2 _ | decide | omega) J2_.2.2.1) (fun u_ S5_ p_ => ?_)
  obtain ⟨v7_, rfl, i_, f_, p_⟩ := p_
  have J6_ := jB_r J2_ i_ f_ (by first | exact p_ | exact p_.1 | exact p_.2 | exact p_.2.1 | exact p_.2.2)
  refine sm_T_go 2 (c1 := (2670, [some (.inr (.inr (some (302, 0)))), some (.inr (.inr (some (12, 0)))), some (.inr (.inr (some (13, 0)))), some (.inr (.inr (some (295, 0)))), some (.inl (7 * (n_ : Int))), some (.inl v3_), some (.inl v7_)], [], S5_)) rfl ?_
  exact lc_end ih_ hs_ hn_ hm_ h4_ (jB_up J6_)
set_option maxRecDepth 100000 in
set_option maxHeartbeats 4000000 in
theorem lc_28 {sc_ : Nat × (Nat → Int)} {m_ n_ : Nat} {x_ y_ : Option sm_V} {S_ : sm_S} (ih_ : lwC sc_ m_) (hs_ : scB sc_) (hn_ : 7 * n_ + 7 ≤ sc_.1) (hm_ : sc_.1 ≤ 7 * n_ + 7 * (m_ + 1)) (J_ : jB n_ S_) : sm_T (mt_P sc_) 40 588 (1403, Lw (7 * (n_ : Int)) x_ y_, [], S_) (lwQ (m_ + 1)) := by
  have b_ := hs_.1
  unfold Lw
  refine sm_T_go 4 (c1 := (1408, [some (.inr (.inr (some (302, 0)))), some (.inr (.inr (some (12, 0)))), some (.inr (.inr (some (13, 0)))), some (.inr (.inr (some (295, 0)))), some (.inl (7 * (n_ : Int))), x_, y_], [.inl 1, .inl (7 * (n_ : Int)), .inr (.inr (some (302, 0))), .inr (.inr (some (12, 0)))], S_)) rfl ?_
  refine sm_T_bin (w := 7 * (n_ : Int) + 1) rfl (bi_add (by omega) (by omega) (by omega)) ?_
  refine sm_T_nt (u := some (.inl (sc_.2 (7 * (n_ : Int) + 1).toNat))) (S1 := S_) rfl rfl (lw_n (by omega) (by omega)) ?_
  refine sm_T_go 3 (c1 := (1414, [some (.inr (.inr (some (302, 0)))), some (.inr (.inr (some (12, 0)))), some (.inr (.inr (some (13, 0)))), some (.inr (.inr (some (295, 0)))), some (.inl (7 * (n_ : Int))), x_, y_], [.inl 2, .inl (7 * (n_ : Int)), .inr (.inr (some (302, 0))), .inl (sc_.2 (7 * (n_ : Int) + 1).toNat), .inr (.inr (some (12, 0)))], S_)) rfl ?_
  refine sm_T_bin (w := 7 * (n_ : Int) + 2) rfl (bi_add (by omega) (by omega) (by omega)) ?_
  refine sm_T_nt (u := some (.inl (sc_.2 (7 * (n_ : Int) + 2).toNat))) (S1 := S_) rfl rfl (lw_n (by omega) (by omega)) ?_
  refine sm_T_go 3 (c1 := (1420, [some (.inr (.inr (some (302, 0)))), some (.inr (.inr (some (12, 0)))), some (.inr (.inr (some (13, 0)))), some (.inr (.inr (some (295, 0)))), some (.inl (7 * (n_ : Int))), x_, y_], [.inl 3, .inl (7 * (n_ : Int)), .inr (.inr (some (302, 0))), .inl (sc_.2 (7 * (n_ : Int) + 2).toNat), .inl (sc_.2 (7 * (n_ : Int) + 1).toNat), .inr (.inr (some (12, 0)))], S_)) rfl ?_
  refine sm_T_bin (w := 7 * (n_ : Int) + 3) rfl (bi_add (by omega) (by omega) (by omega)) ?_
  refine sm_T_nt (u := some (.inl (sc_.2 (7 * (n_ : Int) + 3).toNat))) (S1 := S_) rfl rfl (lw_n (by omega) (by omega)) ?_
  refine sm_T_go 3 (c1 := (1426, [some (.inr (.inr (some (302, 0)))), some (.inr (.inr (some (12, 0)))), some (.inr (.inr (some (13, 0)))), some (.inr (.inr (some (295, 0)))), some (.inl (7 * (n_ : Int))), x_, y_], [.inl 4, .inl (7 * (n_ : Int)), .inr (.inr (some (302, 0))), .inl (sc_.2 (7 * (n_ : Int) + 3).toNat), .inl (sc_.2 (7 * (n_ : Int) + 2).toNat), .inl (sc_.2 (7 * (n_ : Int) + 1).toNat), .inr (.inr (some (12, 0)))], S_)) rfl ?_
  refine sm_T_bin (w := 7 * (n_ : Int) + 4) rfl (bi_add (by omega) (by omega) (by omega)) ?_
  refine sm_T_nt (u := some (.inl (sc_.2 (7 * (n_ : Int) + 4).toNat))) (S1 := S_) rfl rfl (lw_n (by omega) (by omega)) ?_
  refine sm_T_go 1 (c1 := (1429, [some (.inr (.inr (some (302, 0)))), some (.inr (.inr (some (12, 0)))), some (.inr (.inr (some (13, 0)))), some (.inr (.inr (some (295, 0)))), some (.inl (7 * (n_ : Int))), x_, y_], [.inr (.inr (some (295, 0))), .inl (sc_.2 (7 * (n_ : Int) + 4).toNat), .inl (sc_.2 (7 * (n_ : Int) + 3).toNat), .inl (sc_.2 (7 * (n_ : Int) + 2).toNat), .inl (sc_.2 (7 * (n_ : Int) + 1).toNat), .inr (.inr (some (12, 0)))], S_)) rfl ?_
  refine sm_T_call rfl rfl ((lh_562 (sc_.2 (7 * (n_ : Int) + 1).toNat) (sc_.2 (7 * (n_ : Int) + 2).toNat) (sc_.2 (7 * (n_ : Int) + 3).toNat) (sc_.2 (7 * (n_ : Int) + 4).toNat) S_ J_.1 J_.2.1).deep (by decide)) (fun u_ S1_ k1_ q_ => ?_) (fun ex_ S1_ k1_ q_ => by (obtain ⟨v_, S2_, k2_, e_, -⟩ := q_; cases e_))
  obtain ⟨v3_, S2z_, k2z_, e_, h4_, q_⟩ := q_
  cases e_
  have J2_ := jB_c J_ q_
  refine sm_T_go 5 (c1 := (1439, [some (.inr (.inr (some (302, 0)))), some (.inr (.inr (some (12, 0)))), some (.inr (.inr (some (13, 0)))), some (.inr (.inr (some (295, 0)))), some (.inl (7 * (n_ : Int))), some (.inl v3_), y_], [.inl 1, .inl (7 * (n_ : Int)), .inr (.inr (some (302, 0))), .inr (.inr (some (13, 0)))], S1_)) rfl ?_
  refine sm_T_bin (w := 7 * (n_ : Int) + 1) rfl (bi_add (by omega) (by omega) (by omega)) ?_
  refine sm_T_nt (u := some (.inl (sc_.2 (7 * (n_ : Int) + 1).toNat))) (S1 := S1_) rfl rfl (lw_n (by omega) (by omega)) ?_
  refine sm_T_go 3 (c1 := (1445, [some (.inr (.inr (some (302, 0)))), some (.inr (.inr (some (12, 0)))), some (.inr (.inr (some (13, 0)))), some (.inr (.inr (some (295, 0)))), some (.inl (7 * (n_ : Int))), some (.inl v3_), y_], [.inl 2, .inl (7 * (n_ : Int)), .inr (.inr (some (302, 0))), .inl (sc_.2 (7 * (n_ : Int) + 1).toNat), .inr (.inr (some (13, 0)))], S1_)) rfl ?_
  refine sm_T_bin (w := 7 * (n_ : Int) + 2) rfl (bi_add (by omega) (by omega) (by omega)) ?_
  refine sm_T_nt (u := some (.inl (sc_.2 (7 * (n_ : Int) + 2).toNat))) (S1 := S1_) rfl rfl (lw_n (by omega) (by omega)) ?_
  refine sm_T_go 3 (c1 := (1451, [some (.inr (.inr (some (302, 0)))), some (.inr (.inr (some (12, 0)))), some (.inr (.inr (some (13, 0)))), some (.inr (.inr (some (295, 0)))), some (.inl (7 * (n_ : Int))), some (.inl v3_), y_], [.inl 3, .inl (7 * (n_ : Int)), .inr (.inr (some (302, 0))), .inl (sc_.2 (7 * (n_ : Int) + 2).toNat), .inl (sc_.2 (7 * (n_ : Int) + 1).toNat), .inr (.inr (some (13, 0)))], S1_)) rfl ?_
  refine sm_T_bin (w := 7 * (n_ : Int) + 3) rfl (bi_add (by omega) (by omega) (by omega)) ?_
  refine sm_T_nt (u := some (.inl (sc_.2 (7 * (n_ : Int) + 3).toNat))) (S1 := S1_) rfl rfl (lw_n (by omega) (by omega)) ?_
  refine sm_T_go 3 (c1 := (1457, [some (.inr (.inr (some (302, 0)))), some (.inr (.inr (some (12, 0)))), some (.inr (.inr (some (13, 0)))), some (.inr (.inr (some (295, 0)))), some (.inl (7 * (n_ : Int))), some (.inl v3_), y_], [.inl 4, .inl (7 * (n_ : Int)), .inr (.inr (some (302, 0))), .inl (sc_.2 (7 * (n_ : Int) + 3).toNat), .inl (sc_.2 (7 * (n_ : Int) + 2).toNat), .inl (sc_.2 (7 * (n_ : Int) + 1).toNat), .inr (.inr (some (13, 0)))], S1_)) rfl ?_
  refine sm_T_bin (w := 7 * (n_ : Int) + 4) rfl (bi_add (by omega) (by omega) (by omega)) ?_
  refine sm_T_nt (u := some (.inl (sc_.2 (7 * (n_ : Int) + 4).toNat))) (S1 := S1_) rfl rfl (lw_n (by omega) (by omega)) ?_
  refine sm_T_cal (d1 := 3) (Q1 := vq_447 (sc_.2 (7 * (n_ : Int) + 1).toNat) (sc_.2 (7 * (n_ : Int) + 2).toNat) (sc_.2 (7 * (n_ : Int) + 3).toNat) (sc_.2 (7 * (n_ : Int) + 4).toNat) S1_) rfl rfl (by decide) (vc_447 (sc_.2 (7 * (n_ : Int) + 1).toNat) (sc_.2 (7 * (n_ : Int) + 2).toNat) (sc_.2 (7 * (n_ : Int) + 3).toNat) (sc_.2 (7 * (n_ : Int) + 4).toNat) S1_ J2_.1 (by first | exact hs_.2 _ | decide | omega) (by first | exact hs_.2 _ | decide | omega) (by first | exact hs_.2 _ | decide | omega) (by first | exact hs_.2 _ | decide | omega) J2_.2.2.1) (fun u_ S5_ p_ => ?_)
  obtain ⟨v7_, rfl, i_, f_, p_⟩ := p_
  have J6_ := jB_r J2_ i_ f_ (by first | exact p_ | exact p_.1 | exact p_.2 | exact p_.2.1 | exact p_.2.2)
  refine sm_T_go 2 (c1 := (2670, [some (.inr (.inr (some (302, 0)))), some (.inr (.inr (some (12, 0)))), some (.inr (.inr (some (13, 0)))), some (.inr (.inr (some (295, 0)))), some (.inl (7 * (n_ : Int))), some (.inl v3_), some (.inl v7_)], [], S5_)) rfl ?_
  exact lc_end ih_ hs_ hn_ hm_ h4_ (jB_up J6_)
set_option maxRecDepth 100000 in
set_option maxHeartbeats 4000000 in
theorem lc_29 {sc_ : Nat × (Nat → Int)} {m_ n_ : Nat} {x_ y_ : Option sm_V} {S_ : sm_S} (ih_ : lwC sc_ m_) (hs_ : scB sc_) (hn_ : 7 * n_ + 7 ≤ sc_.1) (hm_ : sc_.1 ≤ 7 * n_ + 7 * (m_ + 1)) (J_ : jB n_ S_) : sm_T (mt_P sc_) 40 588 (1467, Lw (7 * (n_ : Int)) x_ y_, [], S_) (lwQ (m_ + 1)) := by
  have b_ := hs_.1
  unfold Lw
  refine sm_T_go 4 (c1 := (1472, [some (.inr (.inr (some (302, 0)))), some (.inr (.inr (some (12, 0)))), some (.inr (.inr (some (13, 0)))), some (.inr (.inr (some (295, 0)))), some (.inl (7 * (n_ : Int))), x_, y_], [.inl 1, .inl (7 * (n_ : Int)), .inr (.inr (some (302, 0))), .inr (.inr (some (12, 0)))], S_)) rfl ?_
  refine sm_T_bin (w := 7 * (n_ : Int) + 1) rfl (bi_add (by omega) (by omega) (by omega)) ?_
  refine sm_T_nt (u := some (.inl (sc_.2 (7 * (n_ : Int) + 1).toNat))) (S1 := S_) rfl rfl (lw_n (by omega) (by omega)) ?_
  refine sm_T_go 3 (c1 := (1478, [some (.inr (.inr (some (302, 0)))), some (.inr (.inr (some (12, 0)))), some (.inr (.inr (some (13, 0)))), some (.inr (.inr (some (295, 0)))), some (.inl (7 * (n_ : Int))), x_, y_], [.inl 2, .inl (7 * (n_ : Int)), .inr (.inr (some (302, 0))), .inl (sc_.2 (7 * (n_ : Int) + 1).toNat), .inr (.inr (some (12, 0)))], S_)) rfl ?_
  refine sm_T_bin (w := 7 * (n_ : Int) + 2) rfl (bi_add (by omega) (by omega) (by omega)) ?_
  refine sm_T_nt (u := some (.inl (sc_.2 (7 * (n_ : Int) + 2).toNat))) (S1 := S_) rfl rfl (lw_n (by omega) (by omega)) ?_
  refine sm_T_go 1 (c1 := (1481, [some (.inr (.inr (some (302, 0)))), some (.inr (.inr (some (12, 0)))), some (.inr (.inr (some (13, 0)))), some (.inr (.inr (some (295, 0)))), some (.inl (7 * (n_ : Int))), x_, y_], [.inr (.inr (some (295, 0))), .inl (sc_.2 (7 * (n_ : Int) + 2).toNat), .inl (sc_.2 (7 * (n_ : Int) + 1).toNat), .inr (.inr (some (12, 0)))], S_)) rfl ?_
  refine sm_T_call rfl rfl ((lh_563 (sc_.2 (7 * (n_ : Int) + 1).toNat) (sc_.2 (7 * (n_ : Int) + 2).toNat) S_ J_.1 J_.2.1).deep (by decide)) (fun u_ S1_ k1_ q_ => ?_) (fun ex_ S1_ k1_ q_ => by (obtain ⟨v_, S2_, k2_, e_, -⟩ := q_; cases e_))
  obtain ⟨v3_, S2z_, k2z_, e_, h4_, q_⟩ := q_
  cases e_
  have J2_ := jB_c J_ q_
  refine sm_T_go 5 (c1 := (1491, [some (.inr (.inr (some (302, 0)))), some (.inr (.inr (some (12, 0)))), some (.inr (.inr (some (13, 0)))), some (.inr (.inr (some (295, 0)))), some (.inl (7 * (n_ : Int))), some (.inl v3_), y_], [.inl 1, .inl (7 * (n_ : Int)), .inr (.inr (some (302, 0))), .inr (.inr (some (13, 0)))], S1_)) rfl ?_
  refine sm_T_bin (w := 7 * (n_ : Int) + 1) rfl (bi_add (by omega) (by omega) (by omega)) ?_
  refine sm_T_nt (u := some (.inl (sc_.2 (7 * (n_ : Int) + 1).toNat))) (S1 := S1_) rfl rfl (lw_n (by omega) (by omega)) ?_
  refine sm_T_go 3 (c1 := (1497, [some (.inr (.inr (some (302, 0)))), some (.inr (.inr (some (12, 0)))), some (.inr (.inr (some (13, 0)))), some (.inr (.inr (some (295, 0)))), some (.inl (7 * (n_ : Int))), some (.inl v3_), y_], [.inl 2, .inl (7 * (n_ : Int)), .inr (.inr (some (302, 0))), .inl (sc_.2 (7 * (n_ : Int) + 1).toNat), .inr (.inr (some (13, 0)))], S1_)) rfl ?_
  refine sm_T_bin (w := 7 * (n_ : Int) + 2) rfl (bi_add (by omega) (by omega) (by omega)) ?_
  refine sm_T_nt (u := some (.inl (sc_.2 (7 * (n_ : Int) + 2).toNat))) (S1 := S1_) rfl rfl (lw_n (by omega) (by omega)) ?_
  refine sm_T_cal (d1 := 5) (Q1 := vq_449 (sc_.2 (7 * (n_ : Int) + 1).toNat) (sc_.2 (7 * (n_ : Int) + 2).toNat) S1_) rfl rfl (by decide) (vc_449 (sc_.2 (7 * (n_ : Int) + 1).toNat) (sc_.2 (7 * (n_ : Int) + 2).toNat) S1_ J2_.1 (by first | exact hs_.2 _ | decide | omega) (by first | exact hs_.2 _ | decide | omega) J2_.2.2.1) (fun u_ S5_ p_ => ?_)
  obtain ⟨v7_, rfl, i_, f_, p_⟩ := p_
  have J6_ := jB_r J2_ i_ f_ (by first | exact p_ | exact p_.1 | exact p_.2 | exact p_.2.1 | exact p_.2.2)
  refine sm_T_go 2 (c1 := (2670, [some (.inr (.inr (some (302, 0)))), some (.inr (.inr (some (12, 0)))), some (.inr (.inr (some (13, 0)))), some (.inr (.inr (some (295, 0)))), some (.inl (7 * (n_ : Int))), some (.inl v3_), some (.inl v7_)], [], S5_)) rfl ?_
  exact lc_end ih_ hs_ hn_ hm_ h4_ (jB_up J6_)
set_option maxRecDepth 100000 in
set_option maxHeartbeats 4000000 in
theorem lc_30 {sc_ : Nat × (Nat → Int)} {m_ n_ : Nat} {x_ y_ : Option sm_V} {S_ : sm_S} (ih_ : lwC sc_ m_) (hs_ : scB sc_) (hn_ : 7 * n_ + 7 ≤ sc_.1) (hm_ : sc_.1 ≤ 7 * n_ + 7 * (m_ + 1)) (J_ : jB n_ S_) : sm_T (mt_P sc_) 40 588 (1507, Lw (7 * (n_ : Int)) x_ y_, [], S_) (lwQ (m_ + 1)) := by
  have b_ := hs_.1
  unfold Lw
  refine sm_T_go 4 (c1 := (1512, [some (.inr (.inr (some (302, 0)))), some (.inr (.inr (some (12, 0)))), some (.inr (.inr (some (13, 0)))), some (.inr (.inr (some (295, 0)))), some (.inl (7 * (n_ : Int))), x_, y_], [.inl 1, .inl (7 * (n_ : Int)), .inr (.inr (some (302, 0))), .inr (.inr (some (12, 0)))], S_)) rfl ?_
  refine sm_T_bin (w := 7 * (n_ : Int) + 1) rfl (bi_add (by omega) (by omega) (by omega)) ?_
  refine sm_T_nt (u := some (.inl (sc_.2 (7 * (n_ : Int) + 1).toNat))) (S1 := S_) rfl rfl (lw_n (by omega) (by omega)) ?_
  refine sm_T_go 3 (c1 := (1518, [some (.inr (.inr (some (302, 0)))), some (.inr (.inr (some (12, 0)))), some (.inr (.inr (some (13, 0)))), some (.inr (.inr (some (295, 0)))), some (.inl (7 * (n_ : Int))), x_, y_], [.inl 2, .inl (7 * (n_ : Int)), .inr (.inr (some (302, 0))), .inl (sc_.2 (7 * (n_ : Int) + 1).toNat), .inr (.inr (some (12, 0)))], S_)) rfl ?_
  refine sm_T_bin (w := 7 * (n_ : Int) + 2) rfl (bi_add (by omega) (by omega) (by omega)) ?_
  refine sm_T_nt (u := some (.inl (sc_.2 (7 * (n_ : Int) + 2).toNat))) (S1 := S_) rfl rfl (lw_n (by omega) (by omega)) ?_
  refine sm_T_go 1 (c1 := (1521, [some (.inr (.inr (some (302, 0)))), some (.inr (.inr (some (12, 0)))), some (.inr (.inr (some (13, 0)))), some (.inr (.inr (some (295, 0)))), some (.inl (7 * (n_ : Int))), x_, y_], [.inr (.inr (some (295, 0))), .inl (sc_.2 (7 * (n_ : Int) + 2).toNat), .inl (sc_.2 (7 * (n_ : Int) + 1).toNat), .inr (.inr (some (12, 0)))], S_)) rfl ?_
  refine sm_T_call rfl rfl ((lh_564 (sc_.2 (7 * (n_ : Int) + 1).toNat) (sc_.2 (7 * (n_ : Int) + 2).toNat) S_ J_.1 J_.2.1).deep (by decide)) (fun u_ S1_ k1_ q_ => ?_) (fun ex_ S1_ k1_ q_ => by (obtain ⟨v_, S2_, k2_, e_, -⟩ := q_; cases e_))
  obtain ⟨v3_, S2z_, k2z_, e_, h4_, q_⟩ := q_
  cases e_
  have J2_ := jB_c J_ q_
  refine sm_T_go 5 (c1 := (1531, [some (.inr (.inr (some (302, 0)))), some (.inr (.inr (some (12, 0)))), some (.inr (.inr (some (13, 0)))), some (.inr (.inr (some (295, 0)))), some (.inl (7 * (n_ : Int))), some (.inl v3_), y_], [.inl 1, .inl (7 * (n_ : Int)), .inr (.inr (some (302, 0))), .inr (.inr (some (13, 0)))], S1_)) rfl ?_
  refine sm_T_bin (w := 7 * (n_ : Int) + 1) rfl (bi_add (by omega) (by omega) (by omega)) ?_
  refine sm_T_nt (u := some (.inl (sc_.2 (7 * (n_ : Int) + 1).toNat))) (S1 := S1_) rfl rfl (lw_n (by omega) (by omega)) ?_
  refine sm_T_go 3 (c1 := (1537, [some (.inr (.inr (some (302, 0)))), some (.inr (.inr (some (12, 0)))), some (.inr (.inr (some (13, 0)))), some (.inr (.inr (some (295, 0)))), some (.inl (7 * (n_ : Int))), some (.inl v3_), y_], [.inl 2, .inl (7 * (n_ : Int)), .inr (.inr (some (302, 0))), .inl (sc_.2 (7 * (n_ : Int) + 1).toNat), .inr (.inr (some (13, 0)))], S1_)) rfl ?_
  refine sm_T_bin (w := 7 * (n_ : Int) + 2) rfl (bi_add (by omega) (by omega) (by omega)) ?_
  refine sm_T_nt (u := some (.inl (sc_.2 (7 * (n_ : Int) + 2).toNat))) (S1 := S1_) rfl rfl (lw_n (by omega) (by omega)) ?_
  refine sm_T_cal (d1 := 5) (Q1 := vq_451 (sc_.2 (7 * (n_ : Int) + 1).toNat) (sc_.2 (7 * (n_ : Int) + 2).toNat) S1_) rfl rfl (by decide) (vc_451 (sc_.2 (7 * (n_ : Int) + 1).toNat) (sc_.2 (7 * (n_ : Int) + 2).toNat) S1_ J2_.1 (by first | exact hs_.2 _ | decide | omega) (by first | exact hs_.2 _ | decide | omega) J2_.2.2.1) (fun u_ S5_ p_ => ?_)
  obtain ⟨v7_, rfl, i_, f_, p_⟩ := p_
  have J6_ := jB_r J2_ i_ f_ (by first | exact p_ | exact p_.1 | exact p_.2 | exact p_.2.1 | exact p_.2.2)
  refine sm_T_go 2 (c1 := (2670, [some (.inr (.inr (some (302, 0)))), some (.inr (.inr (some (12, 0)))), some (.inr (.inr (some (13, 0)))), some (.inr (.inr (some (295, 0)))), some (.inl (7 * (n_ : Int))), some (.inl v3_), some (.inl v7_)], [], S5_)) rfl ?_
  exact lc_end ih_ hs_ hn_ hm_ h4_ (jB_up J6_)
set_option maxRecDepth 100000 in
set_option maxHeartbeats 4000000 in
theorem lc_31 {sc_ : Nat × (Nat → Int)} {m_ n_ : Nat} {x_ y_ : Option sm_V} {S_ : sm_S} (ih_ : lwC sc_ m_) (hs_ : scB sc_) (hn_ : 7 * n_ + 7 ≤ sc_.1) (hm_ : sc_.1 ≤ 7 * n_ + 7 * (m_ + 1)) (J_ : jB n_ S_) : sm_T (mt_P sc_) 40 588 (1547, Lw (7 * (n_ : Int)) x_ y_, [], S_) (lwQ (m_ + 1)) := by
  have b_ := hs_.1
  unfold Lw
  refine sm_T_go 4 (c1 := (1552, [some (.inr (.inr (some (302, 0)))), some (.inr (.inr (some (12, 0)))), some (.inr (.inr (some (13, 0)))), some (.inr (.inr (some (295, 0)))), some (.inl (7 * (n_ : Int))), x_, y_], [.inl 1, .inl (7 * (n_ : Int)), .inr (.inr (some (302, 0))), .inr (.inr (some (12, 0)))], S_)) rfl ?_
  refine sm_T_bin (w := 7 * (n_ : Int) + 1) rfl (bi_add (by omega) (by omega) (by omega)) ?_
  refine sm_T_nt (u := some (.inl (sc_.2 (7 * (n_ : Int) + 1).toNat))) (S1 := S_) rfl rfl (lw_n (by omega) (by omega)) ?_
  refine sm_T_go 3 (c1 := (1558, [some (.inr (.inr (some (302, 0)))), some (.inr (.inr (some (12, 0)))), some (.inr (.inr (some (13, 0)))), some (.inr (.inr (some (295, 0)))), some (.inl (7 * (n_ : Int))), x_, y_], [.inl 2, .inl (7 * (n_ : Int)), .inr (.inr (some (302, 0))), .inl (sc_.2 (7 * (n_ : Int) + 1).toNat), .inr (.inr (some (12, 0)))], S_)) rfl ?_
  refine sm_T_bin (w := 7 * (n_ : Int) + 2) rfl (bi_add (by omega) (by omega) (by omega)) ?_
  refine sm_T_nt (u := some (.inl (sc_.2 (7 * (n_ : Int) + 2).toNat))) (S1 := S_) rfl rfl (lw_n (by omega) (by omega)) ?_
  refine sm_T_go 1 (c1 := (1561, [some (.inr (.inr (some (302, 0)))), some (.inr (.inr (some (12, 0)))), some (.inr (.inr (some (13, 0)))), some (.inr (.inr (some (295, 0)))), some (.inl (7 * (n_ : Int))), x_, y_], [.inr (.inr (some (295, 0))), .inl (sc_.2 (7 * (n_ : Int) + 2).toNat), .inl (sc_.2 (7 * (n_ : Int) + 1).toNat), .inr (.inr (some (12, 0)))], S_)) rfl ?_
  refine sm_T_call rfl rfl ((lh_565 (sc_.2 (7 * (n_ : Int) + 1).toNat) (sc_.2 (7 * (n_ : Int) + 2).toNat) S_ J_.1 J_.2.1).deep (by decide)) (fun u_ S1_ k1_ q_ => ?_) (fun ex_ S1_ k1_ q_ => by (obtain ⟨v_, S2_, k2_, e_, -⟩ := q_; cases e_))
  obtain ⟨v3_, S2z_, k2z_, e_, h4_, q_⟩ := q_
  cases e_
  have J2_ := jB_c J_ q_
  refine sm_T_go 5 (c1 := (1571, [some (.inr (.inr (some (302, 0)))), some (.inr (.inr (some (12, 0)))), some (.inr (.inr (some (13, 0)))), some (.inr (.inr (some (295, 0)))), some (.inl (7 * (n_ : Int))), some (.inl v3_), y_], [.inl 1, .inl (7 * (n_ : Int)), .inr (.inr (some (302, 0))), .inr (.inr (some (13, 0)))], S1_)) rfl ?_
  refine sm_T_bin (w := 7 * (n_ : Int) + 1) rfl (bi_add (by omega) (by omega) (by omega)) ?_
  refine sm_T_nt (u := some (.inl (sc_.2 (7 * (n_ : Int) + 1).toNat))) (S1 := S1_) rfl rfl (lw_n (by omega) (by omega)) ?_
  refine sm_T_go 3 (c1 := (1577, [some (.inr (.inr (some (302, 0)))), some (.inr (.inr (some (12, 0)))), some (.inr (.inr (some (13, 0)))), some (.inr (.inr (some (295, 0)))), some (.inl (7 * (n_ : Int))), some (.inl v3_), y_], [.inl 2, .inl (7 * (n_ : Int)), .inr (.inr (some (302, 0))), .inl (sc_.2 (7 * (n_ : Int) + 1).toNat), .inr (.inr (some (13, 0)))], S1_)) rfl ?_
  refine sm_T_bin (w := 7 * (n_ : Int) + 2) rfl (bi_add (by omega) (by omega) (by omega)) ?_
  refine sm_T_nt (u := some (.inl (sc_.2 (7 * (n_ : Int) + 2).toNat))) (S1 := S1_) rfl rfl (lw_n (by omega) (by omega)) ?_
  refine sm_T_cal (d1 := 6) (Q1 := vq_466 (sc_.2 (7 * (n_ : Int) + 1).toNat) (sc_.2 (7 * (n_ : Int) + 2).toNat) S1_) rfl rfl (by decide) (vc_466 (sc_.2 (7 * (n_ : Int) + 1).toNat) (sc_.2 (7 * (n_ : Int) + 2).toNat) S1_ J2_.1 (by first | exact hs_.2 _ | decide | omega) (by first | exact hs_.2 _ | decide | omega) J2_.2.2.1) (fun u_ S5_ p_ => ?_)
  obtain ⟨v7_, rfl, i_, f_, p_⟩ := p_
  have J6_ := jB_r J2_ i_ f_ (by first | exact p_ | exact p_.1 | exact p_.2 | exact p_.2.1 | exact p_.2.2)
  refine sm_T_go 2 (c1 := (2670, [some (.inr (.inr (some (302, 0)))), some (.inr (.inr (some (12, 0)))), some (.inr (.inr (some (13, 0)))), some (.inr (.inr (some (295, 0)))), some (.inl (7 * (n_ : Int))), some (.inl v3_), some (.inl v7_)], [], S5_)) rfl ?_
  exact lc_end ih_ hs_ hn_ hm_ h4_ (jB_up J6_)
set_option maxRecDepth 100000 in
set_option maxHeartbeats 4000000 in
theorem lc_32 {sc_ : Nat × (Nat → Int)} {m_ n_ : Nat} {x_ y_ : Option sm_V} {S_ : sm_S} (ih_ : lwC sc_ m_) (hs_ : scB sc_) (hn_ : 7 * n_ + 7 ≤ sc_.1) (hm_ : sc_.1 ≤ 7 * n_ + 7 * (m_ + 1)) (J_ : jB n_ S_) : sm_T (mt_P sc_) 40 588 (1587, Lw (7 * (n_ : Int)) x_ y_, [], S_) (lwQ (m_ + 1)) := by
  have b_ := hs_.1
  unfold Lw
  refine sm_T_go 4 (c1 := (1592, [some (.inr (.inr (some (302, 0)))), some (.inr (.inr (some (12, 0)))), some (.inr (.inr (some (13, 0)))), some (.inr (.inr (some (295, 0)))), some (.inl (7 * (n_ : Int))), x_, y_], [.inl 1, .inl (7 * (n_ : Int)), .inr (.inr (some (302, 0))), .inr (.inr (some (12, 0)))], S_)) rfl ?_
  refine sm_T_bin (w := 7 * (n_ : Int) + 1) rfl (bi_add (by omega) (by omega) (by omega)) ?_
  refine sm_T_nt (u := some (.inl (sc_.2 (7 * (n_ : Int) + 1).toNat))) (S1 := S_) rfl rfl (lw_n (by omega) (by omega)) ?_
  refine sm_T_go 3 (c1 := (1598, [some (.inr (.inr (some (302, 0)))), some (.inr (.inr (some (12, 0)))), some (.inr (.inr (some (13, 0)))), some (.inr (.inr (some (295, 0)))), some (.inl (7 * (n_ : Int))), x_, y_], [.inl 2, .inl (7 * (n_ : Int)), .inr (.inr (some (302, 0))), .inl (sc_.2 (7 * (n_ : Int) + 1).toNat), .inr (.inr (some (12, 0)))], S_)) rfl ?_
  refine sm_T_bin (w := 7 * (n_ : Int) + 2) rfl (bi_add (by omega) (by omega) (by omega)) ?_
  refine sm_T_nt (u := some (.inl (sc_.2 (7 * (n_ : Int) + 2).toNat))) (S1 := S_) rfl rfl (lw_n (by omega) (by omega)) ?_
  refine sm_T_go 1 (c1 := (1601, [some (.inr (.inr (some (302, 0)))), some (.inr (.inr (some (12, 0)))), some (.inr (.inr (some (13, 0)))), some (.inr (.inr (some (295, 0)))), some (.inl (7 * (n_ : Int))), x_, y_], [.inr (.inr (some (295, 0))), .inl (sc_.2 (7 * (n_ : Int) + 2).toNat), .inl (sc_.2 (7 * (n_ : Int) + 1).toNat), .inr (.inr (some (12, 0)))], S_)) rfl ?_
  refine sm_T_call rfl rfl ((lh_566 (sc_.2 (7 * (n_ : Int) + 1).toNat) (sc_.2 (7 * (n_ : Int) + 2).toNat) S_ J_.1 J_.2.1).deep (by decide)) (fun u_ S1_ k1_ q_ => ?_) (fun ex_ S1_ k1_ q_ => by (obtain ⟨v_, S2_, k2_, e_, -⟩ := q_; cases e_))
  obtain ⟨v3_, S2z_, k2z_, e_, h4_, q_⟩ := q_
  cases e_
  have J2_ := jB_c J_ q_
  refine sm_T_go 5 (c1 := (1611, [some (.inr (.inr (some (302, 0)))), some (.inr (.inr (some (12, 0)))), some (.inr (.inr (some (13, 0)))), some (.inr (.inr (some (295, 0)))), some (.inl (7 * (n_ : Int))), some (.inl v3_), y_], [.inl 1, .inl (7 * (n_ : Int)), .inr (.inr (some (302, 0))), .inr (.inr (some (13, 0)))], S1_)) rfl ?_
  refine sm_T_bin (w := 7 * (n_ : Int) + 1) rfl (bi_add (by omega) (by omega) (by omega)) ?_
  refine sm_T_nt (u := some (.inl (sc_.2 (7 * (n_ : Int) + 1).toNat))) (S1 := S1_) rfl rfl (lw_n (by omega) (by omega)) ?_
  refine sm_T_go 3 (c1 := (1617, [some (.inr (.inr (some (302, 0)))), some (.inr (.inr (some (12, 0)))), some (.inr (.inr (some (13, 0)))), some (.inr (.inr (some (295, 0)))), some (.inl (7 * (n_ : Int))), some (.inl v3_), y_], [.inl 2, .inl (7 * (n_ : Int)), .inr (.inr (some (302, 0))), .inl (sc_.2 (7 * (n_ : Int) + 1).toNat), .inr (.inr (some (13, 0)))], S1_)) rfl ?_
  refine sm_T_bin (w := 7 * (n_ : Int) + 2) rfl (bi_add (by omega) (by omega) (by omega)) ?_
  refine sm_T_nt (u := some (.inl (sc_.2 (7 * (n_ : Int) + 2).toNat))) (S1 := S1_) rfl rfl (lw_n (by omega) (by omega)) ?_
  refine sm_T_cal (d1 := 1) (Q1 := vq_467 (sc_.2 (7 * (n_ : Int) + 1).toNat) (sc_.2 (7 * (n_ : Int) + 2).toNat) S1_) rfl rfl (by decide) (vc_467 (sc_.2 (7 * (n_ : Int) + 1).toNat) (sc_.2 (7 * (n_ : Int) + 2).toNat) S1_ J2_.1 (by first | exact hs_.2 _ | decide | omega) (by first | exact hs_.2 _ | decide | omega) J2_.2.2.1) (fun u_ S5_ p_ => ?_)
  obtain ⟨v7_, rfl, i_, f_, p_⟩ := p_
  have J6_ := jB_r J2_ i_ f_ (by first | exact p_ | exact p_.1 | exact p_.2 | exact p_.2.1 | exact p_.2.2)
  refine sm_T_go 2 (c1 := (2670, [some (.inr (.inr (some (302, 0)))), some (.inr (.inr (some (12, 0)))), some (.inr (.inr (some (13, 0)))), some (.inr (.inr (some (295, 0)))), some (.inl (7 * (n_ : Int))), some (.inl v3_), some (.inl v7_)], [], S5_)) rfl ?_
  exact lc_end ih_ hs_ hn_ hm_ h4_ (jB_up J6_)
set_option maxRecDepth 100000 in
set_option maxHeartbeats 4000000 in
theorem lc_33 {sc_ : Nat × (Nat → Int)} {m_ n_ : Nat} {x_ y_ : Option sm_V} {S_ : sm_S} (ih_ : lwC sc_ m_) (hs_ : scB sc_) (hn_ : 7 * n_ + 7 ≤ sc_.1) (hm_ : sc_.1 ≤ 7 * n_ + 7 * (m_ + 1)) (J_ : jB n_ S_) : sm_T (mt_P sc_) 40 588 (1627, Lw (7 * (n_ : Int)) x_ y_, [], S_) (lwQ (m_ + 1)) := by
  have b_ := hs_.1
  unfold Lw
  refine sm_T_go 4 (c1 := (1632, [some (.inr (.inr (some (302, 0)))), some (.inr (.inr (some (12, 0)))), some (.inr (.inr (some (13, 0)))), some (.inr (.inr (some (295, 0)))), some (.inl (7 * (n_ : Int))), x_, y_], [.inl 1, .inl (7 * (n_ : Int)), .inr (.inr (some (302, 0))), .inr (.inr (some (12, 0)))], S_)) rfl ?_
  refine sm_T_bin (w := 7 * (n_ : Int) + 1) rfl (bi_add (by omega) (by omega) (by omega)) ?_
  refine sm_T_nt (u := some (.inl (sc_.2 (7 * (n_ : Int) + 1).toNat))) (S1 := S_) rfl rfl (lw_n (by omega) (by omega)) ?_
  refine sm_T_go 3 (c1 := (1638, [some (.inr (.inr (some (302, 0)))), some (.inr (.inr (some (12, 0)))), some (.inr (.inr (some (13, 0)))), some (.inr (.inr (some (295, 0)))), some (.inl (7 * (n_ : Int))), x_, y_], [.inl 2, .inl (7 * (n_ : Int)), .inr (.inr (some (302, 0))), .inl (sc_.2 (7 * (n_ : Int) + 1).toNat), .inr (.inr (some (12, 0)))], S_)) rfl ?_
  refine sm_T_bin (w := 7 * (n_ : Int) + 2) rfl (bi_add (by omega) (by omega) (by omega)) ?_
  refine sm_T_nt (u := some (.inl (sc_.2 (7 * (n_ : Int) + 2).toNat))) (S1 := S_) rfl rfl (lw_n (by omega) (by omega)) ?_
  refine sm_T_go 3 (c1 := (1644, [some (.inr (.inr (some (302, 0)))), some (.inr (.inr (some (12, 0)))), some (.inr (.inr (some (13, 0)))), some (.inr (.inr (some (295, 0)))), some (.inl (7 * (n_ : Int))), x_, y_], [.inl 3, .inl (7 * (n_ : Int)), .inr (.inr (some (302, 0))), .inl (sc_.2 (7 * (n_ : Int) + 2).toNat), .inl (sc_.2 (7 * (n_ : Int) + 1).toNat), .inr (.inr (some (12, 0)))], S_)) rfl ?_
  refine sm_T_bin (w := 7 * (n_ : Int) + 3) rfl (bi_add (by omega) (by omega) (by omega)) ?_
  refine sm_T_nt (u := some (.inl (sc_.2 (7 * (n_ : Int) + 3).toNat))) (S1 := S_) rfl rfl (lw_n (by omega) (by omega)) ?_
  refine sm_T_go 1 (c1 := (1647, [some (.inr (.inr (some (302, 0)))), some (.inr (.inr (some (12, 0)))), some (.inr (.inr (some (13, 0)))), some (.inr (.inr (some (295, 0)))), some (.inl (7 * (n_ : Int))), x_, y_], [.inr (.inr (some (295, 0))), .inl (sc_.2 (7 * (n_ : Int) + 3).toNat), .inl (sc_.2 (7 * (n_ : Int) + 2).toNat), .inl (sc_.2 (7 * (n_ : Int) + 1).toNat), .inr (.inr (some (12, 0)))], S_)) rfl ?_
  refine sm_T_call rfl rfl ((lh_567 (sc_.2 (7 * (n_ : Int) + 1).toNat) (sc_.2 (7 * (n_ : Int) + 2).toNat) (sc_.2 (7 * (n_ : Int) + 3).toNat) S_ J_.1 J_.2.1).deep (by decide)) (fun u_ S1_ k1_ q_ => ?_) (fun ex_ S1_ k1_ q_ => by (obtain ⟨v_, S2_, k2_, e_, -⟩ := q_; cases e_))
  obtain ⟨v3_, S2z_, k2z_, e_, h4_, q_⟩ := q_
  cases e_
  have J2_ := jB_c J_ q_
  refine sm_T_go 5 (c1 := (1657, [some (.inr (.inr (some (302, 0)))), some (.inr (.inr (some (12, 0)))), some (.inr (.inr (some (13, 0)))), some (.inr (.inr (some (295, 0)))), some (.inl (7 * (n_ : Int))), some (.inl v3_), y_], [.inl 1, .inl (7 * (n_ : Int)), .inr (.inr (some (302, 0))), .inr (.inr (some (13, 0)))], S1_)) rfl ?_
  refine sm_T_bin (w := 7 * (n_ : Int) + 1) rfl (bi_add (by omega) (by omega) (by omega)) ?_
  refine sm_T_nt (u := some (.inl (sc_.2 (7 * (n_ : Int) + 1).toNat))) (S1 := S1_) rfl rfl (lw_n (by omega) (by omega)) ?_
  refine sm_T_go 3 (c1 := (1663, [some (.inr (.inr (some (302, 0)))), some (.inr (.inr (some (12, 0)))), some (.inr (.inr (some (13, 0)))), some (.inr (.inr (some (295, 0)))), some (.inl (7 * (n_ : Int))), some (.inl v3_), y_], [.inl 2, .inl (7 * (n_ : Int)), .inr (.inr (some (302, 0))), .inl (sc_.2 (7 * (n_ : Int) + 1).toNat), .inr (.inr (some (13, 0)))], S1_)) rfl ?_
  refine sm_T_bin (w := 7 * (n_ : Int) + 2) rfl (bi_add (by omega) (by omega) (by omega)) ?_
  refine sm_T_nt (u := some (.inl (sc_.2 (7 * (n_ : Int) + 2).toNat))) (S1 := S1_) rfl rfl (lw_n (by omega) (by omega)) ?_
  refine sm_T_go 3 (c1 := (1669, [some (.inr (.inr (some (302, 0)))), some (.inr (.inr (some (12, 0)))), some (.inr (.inr (some (13, 0)))), some (.inr (.inr (some (295, 0)))), some (.inl (7 * (n_ : Int))), some (.inl v3_), y_], [.inl 3, .inl (7 * (n_ : Int)), .inr (.inr (some (302, 0))), .inl (sc_.2 (7 * (n_ : Int) + 2).toNat), .inl (sc_.2 (7 * (n_ : Int) + 1).toNat), .inr (.inr (some (13, 0)))], S1_)) rfl ?_
  refine sm_T_bin (w := 7 * (n_ : Int) + 3) rfl (bi_add (by omega) (by omega) (by omega)) ?_
  refine sm_T_nt (u := some (.inl (sc_.2 (7 * (n_ : Int) + 3).toNat))) (S1 := S1_) rfl rfl (lw_n (by omega) (by omega)) ?_
  refine sm_T_cal (d1 := 4) (Q1 := vq_468 (sc_.2 (7 * (n_ : Int) + 1).toNat) (sc_.2 (7 * (n_ : Int) + 2).toNat) (sc_.2 (7 * (n_ : Int) + 3).toNat) S1_) rfl rfl (by decide) (vc_468 (sc_.2 (7 * (n_ : Int) + 1).toNat) (sc_.2 (7 * (n_ : Int) + 2).toNat) (sc_.2 (7 * (n_ : Int) + 3).toNat) S1_ J2_.1 (by first | exact hs_.2 _ | decide | omega) (by first | exact hs_.2 _ | decide | omega) (by first | exact hs_.2 _ | decide | omega) J2_.2.2.1) (fun u_ S5_ p_ => ?_)
  obtain ⟨v7_, rfl, i_, f_, p_⟩ := p_
  have J6_ := jB_r J2_ i_ f_ (by first | exact p_ | exact p_.1 | exact p_.2 | exact p_.2.1 | exact p_.2.2)
  refine sm_T_go 2 (c1 := (2670, [some (.inr (.inr (some (302, 0)))), some (.inr (.inr (some (12, 0)))), some (.inr (.inr (some (13, 0)))), some (.inr (.inr (some (295, 0)))), some (.inl (7 * (n_ : Int))), some (.inl v3_), some (.inl v7_)], [], S5_)) rfl ?_
  exact lc_end ih_ hs_ hn_ hm_ h4_ (jB_up J6_)
set_option maxRecDepth 100000 in
set_option maxHeartbeats 4000000 in
theorem lc_34 {sc_ : Nat × (Nat → Int)} {m_ n_ : Nat} {x_ y_ : Option sm_V} {S_ : sm_S} (ih_ : lwC sc_ m_) (hs_ : scB sc_) (hn_ : 7 * n_ + 7 ≤ sc_.1) (hm_ : sc_.1 ≤ 7 * n_ + 7 * (m_ + 1)) (J_ : jB n_ S_) : sm_T (mt_P sc_) 40 588 (1679, Lw (7 * (n_ : Int)) x_ y_, [], S_) (lwQ (m_ + 1)) := by
  have b_ := hs_.1
  unfold Lw
  refine sm_T_go 4 (c1 := (1684, [some (.inr (.inr (some (302, 0)))), some (.inr (.inr (some (12, 0)))), some (.inr (.inr (some (13, 0)))), some (.inr (.inr (some (295, 0)))), some (.inl (7 * (n_ : Int))), x_, y_], [.inl 1, .inl (7 * (n_ : Int)), .inr (.inr (some (302, 0))), .inr (.inr (some (12, 0)))], S_)) rfl ?_
  refine sm_T_bin (w := 7 * (n_ : Int) + 1) rfl (bi_add (by omega) (by omega) (by omega)) ?_
  refine sm_T_nt (u := some (.inl (sc_.2 (7 * (n_ : Int) + 1).toNat))) (S1 := S_) rfl rfl (lw_n (by omega) (by omega)) ?_
  refine sm_T_go 1 (c1 := (1687, [some (.inr (.inr (some (302, 0)))), some (.inr (.inr (some (12, 0)))), some (.inr (.inr (some (13, 0)))), some (.inr (.inr (some (295, 0)))), some (.inl (7 * (n_ : Int))), x_, y_], [.inr (.inr (some (295, 0))), .inl (sc_.2 (7 * (n_ : Int) + 1).toNat), .inr (.inr (some (12, 0)))], S_)) rfl ?_
  refine sm_T_call rfl rfl ((lh_568 (sc_.2 (7 * (n_ : Int) + 1).toNat) S_ J_.1 J_.2.1).deep (by decide)) (fun u_ S1_ k1_ q_ => ?_) (fun ex_ S1_ k1_ q_ => by (obtain ⟨v_, S2_, k2_, e_, -⟩ := q_; cases e_))
  obtain ⟨v3_, S2z_, k2z_, e_, h4_, q_⟩ := q_
  cases e_
  have J2_ := jB_c J_ q_
  refine sm_T_go 5 (c1 := (1697, [some (.inr (.inr (some (302, 0)))), some (.inr (.inr (some (12, 0)))), some (.inr (.inr (some (13, 0)))), some (.inr (.inr (some (295, 0)))), some (.inl (7 * (n_ : Int))), some (.inl v3_), y_], [.inl 1, .inl (7 * (n_ : Int)), .inr (.inr (some (302, 0))), .inr (.inr (some (13, 0)))], S1_)) rfl ?_
  refine sm_T_bin (w := 7 * (n_ : Int) + 1) rfl (bi_add (by omega) (by omega) (by omega)) ?_
  refine sm_T_nt (u := some (.inl (sc_.2 (7 * (n_ : Int) + 1).toNat))) (S1 := S1_) rfl rfl (lw_n (by omega) (by omega)) ?_
  refine sm_T_cal (d1 := 3) (Q1 := vq_474 (sc_.2 (7 * (n_ : Int) + 1).toNat) S1_) rfl rfl (by decide) (vc_474 (sc_.2 (7 * (n_ : Int) + 1).toNat) S1_ J2_.1 (by first | exact hs_.2 _ | decide | omega) J2_.2.2.1) (fun u_ S5_ p_ => ?_)
  obtain ⟨v7_, rfl, i_, f_, p_⟩ := p_
  have J6_ := jB_r J2_ i_ f_ (by first | exact p_ | exact p_.1 | exact p_.2 | exact p_.2.1 | exact p_.2.2)
  refine sm_T_go 2 (c1 := (2670, [some (.inr (.inr (some (302, 0)))), some (.inr (.inr (some (12, 0)))), some (.inr (.inr (some (13, 0)))), some (.inr (.inr (some (295, 0)))), some (.inl (7 * (n_ : Int))), some (.inl v3_), some (.inl v7_)], [], S5_)) rfl ?_
  exact lc_end ih_ hs_ hn_ hm_ h4_ (jB_up J6_)
set_option maxRecDepth 100000 in
set_option maxHeartbeats 4000000 in
theorem lc_35 {sc_ : Nat × (Nat → Int)} {m_ n_ : Nat} {x_ y_ : Option sm_V} {S_ : sm_S} (ih_ : lwC sc_ m_) (hs_ : scB sc_) (hn_ : 7 * n_ + 7 ≤ sc_.1) (hm_ : sc_.1 ≤ 7 * n_ + 7 * (m_ + 1)) (J_ : jB n_ S_) : sm_T (mt_P sc_) 40 588 (1707, Lw (7 * (n_ : Int)) x_ y_, [], S_) (lwQ (m_ + 1)) := by
  have b_ := hs_.1
  unfold Lw
  refine sm_T_go 4 (c1 := (1712, [some (.inr (.inr (some (302, 0)))), some (.inr (.inr (some (12, 0)))), some (.inr (.inr (some (13, 0)))), some (.inr (.inr (some (295, 0)))), some (.inl (7 * (n_ : Int))), x_, y_], [.inl 1, .inl (7 * (n_ : Int)), .inr (.inr (some (302, 0))), .inr (.inr (some (12, 0)))], S_)) rfl ?_
  refine sm_T_bin (w := 7 * (n_ : Int) + 1) rfl (bi_add (by omega) (by omega) (by omega)) ?_
  refine sm_T_nt (u := some (.inl (sc_.2 (7 * (n_ : Int) + 1).toNat))) (S1 := S_) rfl rfl (lw_n (by omega) (by omega)) ?_
  refine sm_T_go 3 (c1 := (1718, [some (.inr (.inr (some (302, 0)))), some (.inr (.inr (some (12, 0)))), some (.inr (.inr (some (13, 0)))), some (.inr (.inr (some (295, 0)))), some (.inl (7 * (n_ : Int))), x_, y_], [.inl 2, .inl (7 * (n_ : Int)), .inr (.inr (some (302, 0))), .inl (sc_.2 (7 * (n_ : Int) + 1).toNat), .inr (.inr (some (12, 0)))], S_)) rfl ?_
  refine sm_T_bin (w := 7 * (n_ : Int) + 2) rfl (bi_add (by omega) (by omega) (by omega)) ?_
  refine sm_T_nt (u := some (.inl (sc_.2 (7 * (n_ : Int) + 2).toNat))) (S1 := S_) rfl rfl (lw_n (by omega) (by omega)) ?_
  refine sm_T_go 3 (c1 := (1724, [some (.inr (.inr (some (302, 0)))), some (.inr (.inr (some (12, 0)))), some (.inr (.inr (some (13, 0)))), some (.inr (.inr (some (295, 0)))), some (.inl (7 * (n_ : Int))), x_, y_], [.inl 3, .inl (7 * (n_ : Int)), .inr (.inr (some (302, 0))), .inl (sc_.2 (7 * (n_ : Int) + 2).toNat), .inl (sc_.2 (7 * (n_ : Int) + 1).toNat), .inr (.inr (some (12, 0)))], S_)) rfl ?_
  refine sm_T_bin (w := 7 * (n_ : Int) + 3) rfl (bi_add (by omega) (by omega) (by omega)) ?_
  refine sm_T_nt (u := some (.inl (sc_.2 (7 * (n_ : Int) + 3).toNat))) (S1 := S_) rfl rfl (lw_n (by omega) (by omega)) ?_
  refine sm_T_go 1 (c1 := (1727, [some (.inr (.inr (some (302, 0)))), some (.inr (.inr (some (12, 0)))), some (.inr (.inr (some (13, 0)))), some (.inr (.inr (some (295, 0)))), some (.inl (7 * (n_ : Int))), x_, y_], [.inr (.inr (some (295, 0))), .inl (sc_.2 (7 * (n_ : Int) + 3).toNat), .inl (sc_.2 (7 * (n_ : Int) + 2).toNat), .inl (sc_.2 (7 * (n_ : Int) + 1).toNat), .inr (.inr (some (12, 0)))], S_)) rfl ?_
  refine sm_T_call rfl rfl ((lh_569 (sc_.2 (7 * (n_ : Int) + 1).toNat) (sc_.2 (7 * (n_ : Int) + 2).toNat) (sc_.2 (7 * (n_ : Int) + 3).toNat) S_ J_.1 J_.2.1).deep (by decide)) (fun u_ S1_ k1_ q_ => ?_) (fun ex_ S1_ k1_ q_ => by (obtain ⟨v_, S2_, k2_, e_, -⟩ := q_; cases e_))
  obtain ⟨v3_, S2z_, k2z_, e_, h4_, q_⟩ := q_
  cases e_
  have J2_ := jB_c J_ q_
  refine sm_T_go 5 (c1 := (1737, [some (.inr (.inr (some (302, 0)))), some (.inr (.inr (some (12, 0)))), some (.inr (.inr (some (13, 0)))), some (.inr (.inr (some (295, 0)))), some (.inl (7 * (n_ : Int))), some (.inl v3_), y_], [.inl 1, .inl (7 * (n_ : Int)), .inr (.inr (some (302, 0))), .inr (.inr (some (13, 0)))], S1_)) rfl ?_
  refine sm_T_bin (w := 7 * (n_ : Int) + 1) rfl (bi_add (by omega) (by omega) (by omega)) ?_
  refine sm_T_nt (u := some (.inl (sc_.2 (7 * (n_ : Int) + 1).toNat))) (S1 := S1_) rfl rfl (lw_n (by omega) (by omega)) ?_
  refine sm_T_go 3 (c1 := (1743, [some (.inr (.inr (some (302, 0)))), some (.inr (.inr (some (12, 0)))), some (.inr (.inr (some (13, 0)))), some (.inr (.inr (some (295, 0)))), some (.inl (7 * (n_ : Int))), some (.inl v3_), y_], [.inl 2, .inl (7 * (n_ : Int)), .inr (.inr (some (302, 0))), .inl (sc_.2 (7 * (n_ : Int) + 1).toNat), .inr (.inr (some (13, 0)))], S1_)) rfl ?_
  refine sm_T_bin (w := 7 * (n_ : Int) + 2) rfl (bi_add (by omega) (by omega) (by omega)) ?_
  refine sm_T_nt (u := some (.inl (sc_.2 (7 * (n_ : Int) + 2).toNat))) (S1 := S1_) rfl rfl (lw_n (by omega) (by omega)) ?_
  refine sm_T_go 3 (c1 := (1749, [some (.inr (.inr (some (302, 0)))), some (.inr (.inr (some (12, 0)))), some (.inr (.inr (some (13, 0)))), some (.inr (.inr (some (295, 0)))), some (.inl (7 * (n_ : Int))), some (.inl v3_), y_], [.inl 3, .inl (7 * (n_ : Int)), .inr (.inr (some (302, 0))), .inl (sc_.2 (7 * (n_ : Int) + 2).toNat), .inl (sc_.2 (7 * (n_ : Int) + 1).toNat), .inr (.inr (some (13, 0)))], S1_)) rfl ?_
  refine sm_T_bin (w := 7 * (n_ : Int) + 3) rfl (bi_add (by omega) (by omega) (by omega)) ?_
  refine sm_T_nt (u := some (.inl (sc_.2 (7 * (n_ : Int) + 3).toNat))) (S1 := S1_) rfl rfl (lw_n (by omega) (by omega)) ?_
  refine sm_T_cal (d1 := 2) (Q1 := vq_477 (sc_.2 (7 * (n_ : Int) + 1).toNat) (sc_.2 (7 * (n_ : Int) + 2).toNat) (sc_.2 (7 * (n_ : Int) + 3).toNat) S1_) rfl rfl (by decide) (vc_477 (sc_.2 (7 * (n_ : Int) + 1).toNat) (sc_.2 (7 * (n_ : Int) + 2).toNat) (sc_.2 (7 * (n_ : Int) + 3).toNat) S1_ J2_.1 (by first | exact hs_.2 _ | decide | omega) (by first | exact hs_.2 _ | decide | omega) (by first | exact hs_.2 _ | decide | omega) J2_.2.2.1) (fun u_ S5_ p_ => ?_)
  obtain ⟨v7_, rfl, i_, f_, p_⟩ := p_
  have J6_ := jB_r J2_ i_ f_ (by first | exact p_ | exact p_.1 | exact p_.2 | exact p_.2.1 | exact p_.2.2)
  refine sm_T_go 2 (c1 := (2670, [some (.inr (.inr (some (302, 0)))), some (.inr (.inr (some (12, 0)))), some (.inr (.inr (some (13, 0)))), some (.inr (.inr (some (295, 0)))), some (.inl (7 * (n_ : Int))), some (.inl v3_), some (.inl v7_)], [], S5_)) rfl ?_
  exact lc_end ih_ hs_ hn_ hm_ h4_ (jB_up J6_)

