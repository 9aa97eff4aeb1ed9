/-! the law's cases; written by wip/ids/lawgen.py -/
set_option maxRecDepth 100000 in
set_option maxHeartbeats 4000000 in
theorem lc_26 {sc_ : Nat × (Nat → Int)} {m_ n_ : Nat} {x_ y_ : Option sm_V} {S_ : sm_S} (ih_ : lwC sc_ m_) (hs_ : scB sc_) (hn_ : 7 * n_ + 7 ≤ sc_.1) (hm_ : sc_.1 ≤ 7 * n_ + 7 * (m_ + 1)) (J_ : jB n_ S_) : sm_T (mt_P sc_) 40 588 (1346, Lw (7 * (n_ : Int)) x_ y_, [], S_) (lwQ (m_ + 1)) := by
  have b_ := hs_.1
  unfold Lw
  refine sm_T_go 4 (c1 := (1351, [some (.inr (.inr (some (302, 0)))), some (.inr (.inr (some (12, 0)))), some (.inr (.inr (some (13, 0)))), some (.inr (.inr (some (295, 0)))), some (.inl (7 * (n_ : Int))), x_, y_], [.inl 1, .inl (7 * (n_ : Int)), .inr (.inr (some (302, 0))), .inr (.inr (some (12, 0)))], S_)) rfl ?_
  refine sm_T_bin (w := 7 * (n_ : Int) + 1) rfl (bi_add (by omega) (by omega) (by omega)) ?_
  refine sm_T_nt (u := some (.inl (sc_.2 (7 * (n_ : Int) + 1).toNat))) (S1 := S_) rfl rfl (lw_n (by omega) (by omega)) ?_
  refine sm_T_go 3 (c1 := (1357, [some (.inr (.inr (some (302, 0)))), some (.inr (.inr (some (12, 0)))), some (.inr (.inr (some (13, 0)))), some (.inr (.inr (some (295, 0)))), some (.inl (7 * (n_ : Int))), x_, y_], [.inl 2, .inl (7 * (n_ : Int)), .inr (.inr (some (302, 0))), .inl (sc_.2 (7 * (n_ : Int) + 1).toNat), .inr (.inr (some (12, 0)))], S_)) rfl ?_
  refine sm_T_bin (w := 7 * (n_ : Int) + 2) rfl (bi_add (by omega) (by omega) (by omega)) ?_
  refine sm_T_nt (u := some (.inl (sc_.2 (7 * (n_ : Int) + 2).toNat))) (S1 := S_) rfl rfl (lw_n (by omega) (by omega)) ?_
  refine sm_T_go 1 (c1 := (1360, [some (.inr (.inr (some (302, 0)))), some (.inr (.inr (some (12, 0)))), some (.inr (.inr (some (13, 0)))), some (.inr (.inr (some (295, 0)))), some (.inl (7 * (n_ : Int))), x_, y_], [.inr (.inr (some (295, 0))), .inl (sc_.2 (7 * (n_ : Int) + 2).toNat), .inl (sc_.2 (7 * (n_ : Int) + 1).toNat), .inr (.inr (some (12, 0)))], S_)) rfl ?_
  refine sm_T_call rfl rfl ((lh_560 (sc_.2 (7 * (n_ : Int) + 1).toNat) (sc_.2 (7 * (n_ : Int) + 2).toNat) S_ J_.1 J_.2.1).deep (by decide)) (fun u_ S1_ k1_ q_ => ?_) (fun ex_ S1_ k1_ q_ => by (obtain ⟨v_, S2_, k2_, e_, -⟩ := q_; cases e_))
  obtain ⟨v3_, S2z_, k2z_, e_, h4_, q_⟩ := q_
  cases e_
  have J2_ := jB_c J_ q_
  refine sm_T_go 5 (c1 := (1370, [some (.inr (.inr (some (302, 0)))), some (.inr (.inr (some (12, 0)))), some (.inr (.inr (some (13, 0)))), some (.inr (.inr (some (295, 0)))), some (.inl (7 * (n_ : Int))), some (.inl v3_), y_], [.inl 1, .inl (7 * (n_ : Int)), .inr (.inr (some (302, 0))), .inr (.inr (some (13, 0)))], S1_)) rfl ?_
  refine sm_T_bin (w := 7 * (n_ : Int) + 1) rfl (bi_add (by omega) (by omega) (by omega)) ?_
  refine sm_T_nt (u := some (.inl (sc_.2 (7 * (n_ : Int) + 1).toNat))) (S1 := S1_) rfl rfl (lw_n (by omega) (by omega)) ?_
  refine sm_T_go 3 (c1 := (1376, [some (.inr (.inr (some (302, 0)))), some (.inr (.inr (some (12, 0)))), some (.inr (.inr (some (13, 0)))), some (.inr (.inr (some (295, 0)))), some (.inl (7 * (n_ : Int))), some (.inl v3_), y_], [.inl 2, .inl (7 * (n_ : Int)), .inr (.inr (some (302, 0))), .inl (sc_.2 (7 * (n_ : Int) + 1).toNat), .inr (.inr (some (13, 0)))], S1_)) rfl ?_
  refine sm_T_bin (w := 7 * (n_ : Int) + 2) rfl (bi_add (by omega) (by omega) (by omega)) ?_
  refine sm_T_nt (u := some (.inl (sc_.2 (7 * (n_ : Int) + 2).toNat))) (S1 := S1_) rfl rfl (lw_n (by omega) (by omega)) ?_
  refine sm_T_cal (d1 := 2) (Q1 := vq_444 (sc_.2 (7 * (n_ : Int) + 1).toNat) (sc_.2 (7 * (n_ : Int) + 2).toNat) S1_) rfl rfl (by decide) (vc_444 (sc_.2 (7 * (n_ : Int) + 1).toNat) (sc_.2 (7 * (n_ : Int) + 2).toNat) S1_ J2_.1 (by first | exact hs_.2 _ | decide | omega) (by first | exact hs_.2 _ | decide | omega) J2_.2.2.1) (fun u_ S5_ p_ => ?_)
  obtain ⟨v7_, rfl, i_, f_, p_⟩ := p_
  have J6_ := jB_r J2_ i_ f_ (by first | exact p_ | exact p_.1 | exact p_.2 | exact p_.2.1 | exact p_.2.2)
  refine sm_T_go 2 (c1 := (2677, [some (.inr (.inr (some (302, 0)))), some (.inr (.inr (some (12, 0)))), some (.inr (.inr (some (13, 0)))), some (.inr (.inr (some (295, 0)))), some (.inl (7 * (n_ : Int))), some (.inl v3_), some (.inl v7_)], [], S5_)) rfl ?_
  exact lc_end ih_ hs_ hn_ hm_ h4_ (jB_up J6_)
set_option maxRecDepth 100000 in
set_option maxHeartbeats 4000000 in
theorem lc_27 {sc_ : Nat × (Nat → Int)} {m_ n_ : Nat} {x_ y_ : Option sm_V} {S_ : sm_S} (ih_ : lwC sc_ m_) (hs_ : scB sc_) (hn_ : 7 * n_ + 7 ≤ sc_.1) (hm_ : sc_.1 ≤ 7 * n_ + 7 * (m_ + 1)) (J_ : jB n_ S_) : sm_T (mt_P sc_) 40 588 (1386, Lw (7 * (n_ : Int)) x_ y_, [], S_) (lwQ (m_ + 1)) := by
  have b_ := hs_.1
  unfold Lw
  refine sm_T_go 4 (c1 := (1391, [some (.inr (.inr (some (302, 0)))), some (.inr (.inr (some (12, 0)))), some (.inr (.inr (some (13, 0)))), some (.inr (.inr (some (295, 0)))), some (.inl (7 * (n_ : Int))), x_, y_], [.inl 1, .inl (7 * (n_ : Int)), .inr (.inr (some (302, 0))), .inr (.inr (some (12, 0)))], S_)) rfl ?_
  refine sm_T_bin (w := 7 * (n_ : Int) + 1) rfl (bi_add (by omega) (by omega) (by omega)) ?_
  refine sm_T_nt (u := some (.inl (sc_.2 (7 * (n_ : Int) + 1).toNat))) (S1 := S_) rfl rfl (lw_n (by omega) (by omega)) ?_
  refine sm_T_go 3 (c1 := (1397, [some (.inr (.inr (some (302, 0)))), some (.inr (.inr (some (12, 0)))), some (.inr (.inr (some (13, 0)))), some (.inr (.inr (some (295, 0)))), some (.inl (7 * (n_ : Int))), x_, y_], [.inl 2, .inl (7 * (n_ : Int)), .inr (.inr (some (302, 0))), .inl (sc_.2 (7 * (n_ : Int) + 1).toNat), .inr (.inr (some (12, 0)))], S_)) rfl ?_
  refine sm_T_bin (w := 7 * (n_ : Int) + 2) rfl (bi_add (by omega) (by omega) (by omega)) ?_
  refine sm_T_nt (u := some (.inl (sc_.2 (7 * (n_ : Int) + 2).toNat))) (S1 := S_) rfl rfl (lw_n (by omega) (by omega)) ?_
  refine sm_T_go 3 (c1 := (1403, [some (.inr (.inr (some (302, 0)))), some (.inr (.inr (some (12, 0)))), some (.inr (.inr (some (13, 0)))), some (.inr (.inr (some (295, 0)))), some (.inl (7 * (n_ : Int))), x_, y_], [.inl 3, .inl (7 * (n_ : Int)), .inr (.inr (some (302, 0))), .inl (sc_.2 (7 * (n_ : Int) + 2).toNat), .inl (sc_.2 (7 * (n_ : Int) + 1).toNat), .inr (.inr (some (12, 0)))], S_)) rfl ?_
  refine sm_T_bin (w := 7 * (n_ : Int) + 3) rfl (bi_add (by omega) (by omega) (by omega)) ?_
  refine sm_T_nt (u := some (.inl (sc_.2 (7 * (n_ : Int) + 3).toNat))) (S1 := S_) rfl rfl (lw_n (by omega) (by omega)) ?_
  refine sm_T_go 1 (c1 := (1406, [some (.inr (.inr (some (302, 0)))), some (.inr (.inr (some (12, 0)))), some (.inr (.inr (some (13, 0)))), some (.inr (.inr (some (295, 0)))), some (.inl (7 * (n_ : Int))), x_, y_], [.inr (.inr (some (295, 0))), .inl (sc_.2 (7 * (n_ : Int) + 3).toNat), .inl (sc_.2 (7 * (n_ : Int) + 2).toNat), .inl (sc_.2 (7 * (n_ : Int) + 1).toNat), .inr (.inr (some (12, 0)))], S_)) rfl ?_
  refine sm_T_call rfl rfl ((lh_561 (sc_.2 (7 * (n_ : Int) + 1).toNat) (sc_.2 (7 * (n_ : Int) + 2).toNat) (sc_.2 (7 * (n_ : Int) + 3).toNat) S_ J_.1 J_.2.1).deep (by decide)) (fun u_ S1_ k1_ q_ => ?_) (fun ex_ S1_ k1_ q_ => by (obtain ⟨v_, S2_, k2_, e_, -⟩ := q_; cases e_))
  obtain ⟨v3_, S2z_, k2z_, e_, h4_, q_⟩ := q_
  cases e_
  have J2_ := jB_c J_ q_
  refine sm_T_go 5 (c1 := (1416, [some (.inr (.inr (some (302, 0)))), some (.inr (.inr (some (12, 0)))), some (.inr (.inr (some (13, 0)))), some (.inr (.inr (some (295, 0)))), some (.inl (7 * (n_ : Int))), some (.inl v3_), y_], [.inl 1, .inl (7 * (n_ : Int)), .inr (.inr (some (302, 0))), .inr (.inr (some (13, 0)))], S1_)) rfl ?_
  refine sm_T_bin (w := 7 * (n_ : Int) + 1) rfl (bi_add (by omega) (by omega) (by omega)) ?_
  refine sm_T_nt (u := some (.inl (sc_.2 (7 * (n_ : Int) + 1).toNat))) (S1 := S1_) rfl rfl (lw_n (by omega) (by omega)) ?_
  refine sm_T_go 3 (c1 := (1422, [some (.inr (.inr (some (302, 0)))), some (.inr (.inr (some (12, 0)))), some (.inr (.inr (some (13, 0)))), some (.inr (.inr (some (295, 0)))), some (.inl (7 * (n_ : Int))), some (.inl v3_), y_], [.inl 2, .inl (7 * (n_ : Int)), .inr (.inr (some (302, 0))), .inl (sc_.2 (7 * (n_ : Int) + 1).toNat), .inr (.inr (some (13, 0)))], S1_)) rfl ?_
  refine sm_T_bin (w := 7 * (n_ : Int) + 2) rfl (bi_add (by omega) (by omega) (by omega)) ?_
  refine sm_T_nt (u := some (.inl (sc_.2 (7 * (n_ : Int) + 2).toNat))) (S1 := S1_) rfl rfl (lw_n (by omega) (by omega)) ?_
  refine sm_T_go 3 (c1 := (1428, [some (.inr (.inr (some (302, 0)))), some (.inr (.inr (some (12, 0)))), some (.inr (.inr (some (13, 0)))), some (.inr (.inr (some (295, 0)))), some (.inl (7 * (n_ : Int))), some (.inl v3_), y_], [.inl 3, .inl (7 * (n_ : Int)), .inr (.inr (some (302, 0))), .inl (sc_.2 (7 * (n_ : Int) + 2).toNat), .inl (sc_.2 (7 * (n_ : Int) + 1).toNat), .inr (.inr (some (13, 0)))], S1_)) rfl ?_
  refine sm_T_bin (w := 7 * (n_ : Int) + 3) rfl (bi_add (by omega) (by omega) (by omega)) ?_
  refine sm_T_nt (u := some (.inl (sc_.2 (7 * (n_ : Int) + 3).toNat))) (S1 := S1_) rfl rfl (lw_n (by omega) (by omega)) ?_
  refine sm_T_cal (d1 := 2) (Q1 := vq_446 (sc_.2 (7 * (n_ : Int) + 1).toNat) (sc_.2 (7 * (n_ : Int) + 2).toNat) (sc_.2 (7 * (n_ : Int) + 3).toNat) S1_) rfl rfl (by decide) (vc_446 (sc_.2 (7 * (n_ : Int) + 1).toNat) (sc_.2 (7 * (n_ : Int) + 2).toNat) (sc_.2 (7 * (n_ : Int) + 3).toNat) S1_ J2_.1 (by first | exact hs_.2 _ | decide | omega) (by first | exact hs_.2 _ | decide | omega) (by first | exact hs_.2 _ | decide | omega) J2_.2.2.1) (fun u_ S5_ p_ => ?_)
  obtain ⟨v7_, rfl, i_, f_, p_⟩ := p_
  have J6_ := jB_r J2_ i_ f_ (by first | exact p_ | exact p_.1 | exact p_.2 | exact p_.2.1 | exact p_.2.2)
  refine sm_T_go 2 (c1 := (2677, [some (.inr (.inr (some (302, 0)))), some (.inr (.inr (some (12, 0)))), some (.inr (.inr (some (13, 0)))), some (.inr (.inr (some (295, 0)))), some (.inl (7 * (n_ : Int))), some (.inl v3_), some (.inl v7_)], [], S5_)) rfl ?_
  exact lc_end ih_ hs_ hn_ hm_ h4_ (jB_up J6_)
set_option maxRecDepth 100000 in
set_option maxHeartbeats 4000000 in
theorem lc_28 {sc_ : Nat × (Nat → Int)} {m_ n_ : Nat} {x_ y_ : Option sm_V} {S_ : sm_S} (ih_ : lwC sc_ m_) (hs_ : scB sc_) (hn_ : 7 * n_ + 7 ≤ sc_.1) (hm_ : sc_.1 ≤ 7 * n_ + 7 * (m_ + 1)) (J_ : jB n_ S_) : sm_T (mt_P sc_) 40 588 (1438, Lw (7 * (n_ : Int)) x_ y_, [], S_) (lwQ (m_ + 1)) := by
  have b_ := hs_.1
  unfold Lw
  refine sm_T_go 4 (c1 := (1443, [some (.inr (.inr (some (302, 0)))), some (.inr (.inr (some (12, 0)))), some (.inr (.inr (some (13, 0)))), some (.inr (.inr (some (295, 0)))), some (.inl (7 * (n_ : Int))), x_, y_], [.inl 1, .inl (7 * (n_ : Int)), .inr (.inr (some (302, 0))), .inr (.inr (some (12, 0)))], S_)) rfl ?_
  refine sm_T_bin (w := 7 * (n_ : Int) + 1) rfl (bi_add (by omega) (by omega) (by omega)) ?_
  refine sm_T_nt (u := some (.inl (sc_.2 (7 * (n_ : Int) + 1).toNat))) (S1 := S_) rfl rfl (lw_n (by omega) (by omega)) ?_
  refine sm_T_go 3 (c1 := (1449, [some (.inr (.inr (some (302, 0)))), some (.inr (.inr (some (12, 0)))), some (.inr (.inr (some (13, 0)))), some (.inr (.inr (some (295, 0)))), some (.inl (7 * (n_ : Int))), x_, y_], [.inl 2, .inl (7 * (n_ : Int)), .inr (.inr (some (302, 0))), .inl (sc_.2 (7 * (n_ : Int) + 1).toNat), .inr (.inr (some (12, 0)))], S_)) rfl ?_
  refine sm_T_bin (w := 7 * (n_ : Int) + 2) rfl (bi_add (by omega) (by omega) (by omega)) ?_
  refine sm_T_nt (u := some (.inl (sc_.2 (7 * (n_ : Int) + 2).toNat))) (S1 := S_) rfl rfl (lw_n (by omega) (by omega)) ?_
  refine sm_T_go 3 (c1 := (1455, [some (.inr (.inr (some (302, 0)))), some (.inr (.inr (some (12, 0)))), some (.inr (.inr (some (13, 0)))), some (.inr (.inr (some (295, 0)))), some (.inl (7 * (n_ : Int))), x_, y_], [.inl 3, .inl (7 * (n_ : Int)), .inr (.inr (some (302, 0))), .inl (sc_.2 (7 * (n_ : Int) + 2).toNat), .inl (sc_.2 (7 * (n_ : Int) + 1).toNat), .inr (.inr (some (12, 0)))], S_)) rfl ?_
  refine sm_T_bin (w := 7 * (n_ : Int) + 3) rfl (bi_add (by omega) (by omega) (by omega)) ?_
  refine sm_T_nt (u := some (.inl (sc_.2 (7 * (n_ : Int) + 3).toNat))) (S1 := S_) rfl rfl (lw_n (by omega) (by omega)) ?_
  refine sm_T_go 3 (c1 := (1461, [some (.inr (.inr (some (302, 0)))), some (.inr (.inr (some (12, 0)))), some (.inr (.inr (some (13, 0)))), some (.inr (.inr (some (295, 0)))), some (.inl (7 * (n_ : Int))), x_, y_], [.inl 4, .inl (7 * (n_ : Int)), .inr (.inr (some (302, 0))), .inl (sc_.2 (7 * (n_ : Int) + 3).toNat), .inl (sc_.2 (7 * (n_ : Int) + 2).toNat), .inl (sc_.2 (7 * (n_ : Int) + 1).toNat), .inr (.inr (some (12, 0)))], S_)) rfl ?_
  refine sm_T_bin (w := 7 * (n_ : Int) + 4) rfl (bi_add (by omega) (by omega) (by omega)) ?_
  refine sm_T_nt (u := some (.inl (sc_.2 (7 * (n_ : Int) + 4).toNat))) (S1 := S_) rfl rfl (lw_n (by omega) (by omega)) ?_
  refine sm_T_go 1 (c1 := (1464, [some (.inr (.inr (some (302, 0)))), some (.inr (.inr (some (12, 0)))), some (.inr (.inr (some (13, 0)))), some (.inr (.inr (some (295, 0)))), some (.inl (7 * (n_ : Int))), x_, y_], [.inr (.inr (some (295, 0))), .inl (sc_.2 (7 * (n_ : Int) + 4).toNat), .inl (sc_.2 (7 * (n_ : Int) + 3).toNat), .inl (sc_.2 (7 * (n_ : Int) + 2).toNat), .inl (sc_.2 (7 * (n_ : Int) + 1).toNat), .inr (.inr (some (12, 0)))], S_)) rfl ?_
  refine sm_T_call rfl rfl ((lh_562 (sc_.2 (7 * (n_ : Int) + 1).toNat) (sc_.2 (7 * (n_ : Int) + 2).toNat) (sc_.2 (7 * (n_ : Int) + 3).toNat) (sc_.2 (7 * (n_ : Int) + 4).toNat) S_ J_.1 J_.2.1).deep (by decide)) (fun u_ S1_ k1_ q_ => ?_) (fun ex_ S1_ k1_ q_ => by (obtain ⟨v_, S2_, k2_, e_, -⟩ := q_; cases e_))
  obtain ⟨v3_, S2z_, k2z_, e_, h4_, q_⟩ := q_
  cases e_
  have J2_ := jB_c J_ q_
  refine sm_T_go 5 (c1 := (1474, [some (.inr (.inr (some (302, 0)))), some (.inr (.inr (some (12, 0)))), some (.inr (.inr (some (13, 0)))), some (.inr (.inr (some (295, 0)))), some (.inl (7 * (n_ : Int))), some (.inl v3_), y_], [.inl 1, .inl (7 * (n_ : Int)), .inr (.inr (some (302, 0))), .inr (.inr (some (13, 0)))], S1_)) rfl ?_
  refine sm_T_bin (w := 7 * (n_ : Int) + 1) rfl (bi_add (by omega) (by omega) (by omega)) ?_
  refine sm_T_nt (u := some (.inl (sc_.2 (7 * (n_ : Int) + 1).toNat))) (S1 := S1_) rfl rfl (lw_n (by omega) (by omega)) ?_
  refine sm_T_go 3 (c1 := (1480, [some (.inr (.inr (some (302, 0)))), some (.inr (.inr (some (12, 0)))), some (.inr (.inr (some (13, 0)))), some (.inr (.inr (some (295, 0)))), some (.inl (7 * (n_ : Int))), some (.inl v3_), y_], [.inl 2, .inl (7 * (n_ : Int)), .inr (.inr (some (302, 0))), .inl (sc_.2 (7 * (n_ : Int) + 1).toNat), .inr (.inr (some (13, 0)))], S1_)) rfl ?_
  refine sm_T_bin (w := 7 * (n_ : Int) + 2) rfl (bi_add (by omega) (by omega) (by omega)) ?_
  refine sm_T_nt (u := some (.inl (sc_.2 (7 * (n_ : Int) + 2).toNat))) (S1 := S1_) rfl rfl (lw_n (by omega) (by omega)) ?_
  refine sm_T_go 3 (c1 := (1486, [some (.inr (.inr (some (302, 0)))), some (.inr (.inr (some (12, 0)))), some (.inr (.inr (some (13, 0)))), some (.inr (.inr (some (295, 0)))), some (.inl (7 * (n_ : Int))), some (.inl v3_), y_], [.inl 3, .inl (7 * (n_ : Int)), .inr (.inr (some (302, 0))), .inl (sc_.2 (7 * (n_ : Int) + 2).toNat), .inl (sc_.2 (7 * (n_ : Int) + 1).toNat), .inr (.inr (some (13, 0)))], S1_)) rfl ?_
  refine sm_T_bin (w := 7 * (n_ : Int) + 3) rfl (bi_add (by omega) (by omega) (by omega)) ?_
  refine sm_T_nt (u := some (.inl (sc_.2 (7 * (n_ : Int) + 3).toNat))) (S1 := S1_) rfl rfl (lw_n (by omega) (by omega)) ?_
  refine sm_T_go 3 (c1 := (1492, [some (.inr (.inr (some (302, 0)))), some (.inr (.inr (some (12, 0)))), some (.inr (.inr (some (13, 0)))), some (.inr (.inr (some (295, 0)))), some (.inl (7 * (n_ : Int))), some (.inl v3_), y_], [.inl 4, .inl (7 * (n_ : Int)), .inr (.inr (some (302, 0))), .inl (sc_.2 (7 * (n_ : Int) + 3).toNat), .inl (sc_.2 (7 * (n_ : Int) + 2).toNat), .inl (sc_.2 (7 * (n_ : Int) + 1).toNat), .inr (.inr (some (13, 0)))], S1_)) rfl ?_
  refine sm_T_bin (w := 7 * (n_ : Int) + 4) rfl (bi_add (by omega) (by omega) (by omega)) ?_
  refine sm_T_nt (u := some (.inl (sc_.2 (7 * (n_ : Int) + 4).toNat))) (S1 := S1_) rfl rfl (lw_n (by omega) (by omega)) ?_
  refine sm_T_cal (d1 := 3) (Q1 := vq_447 (sc_.2 (7 * (n_ : Int) + 1).toNat) (sc_.2 (7 * (n_ : Int) + 2).toNat) (sc_.2 (7 * (n_ : Int) + 3).toNat) (sc_.2 (7 * (n_ : Int) + 4).toNat) S1_) rfl rfl (by decide) (vc_447 (sc_.2 (7 * (n_ : Int) + 1).toNat) (sc_.2 (7 * (n_ : Int) + 2).toNat) (sc_.2 (7 * (n_ : Int) + 3).toNat) (sc_.2 (7 * (n_ : Int) + 4).toNat) S1_ J2_.1 (by first | exact hs_.2 _ | decide | omega) (by first | exact hs_.2 _ | decide | omega) (by first | exact hs_.2 _ | decide | omega) (by first | exact hs_.2 _ | decide | omega) J2_.2.2.1) (fun u_ S5_ p_ => ?_)
  obtain ⟨v7_, rfl, i_, f_, p_⟩ := p_
  have J6_ := jB_r J2_ i_ f_ (by first | exact p_ | exact p_.1 | exact p_.2 | exact p_.2.1 | exact p_.2.2)
  refine sm_T_go 2 (c1 := (2677, [some (.inr (.inr (some (302, 0)))), some (.inr (.inr (some (12, 0)))), some (.inr (.inr (some (13, 0)))), some (.inr (.inr (some (295, 0)))), some (.inl (7 * (n_ : Int))), some (.inl v3_), some (.inl v7_)], [], S5_)) rfl ?_
  exact lc_end ih_ hs_ hn_ hm_ h4_ (jB_up J6_)
set_option maxRecDepth 100000 in
set_option maxHeartbeats 4000000 in
theorem lc_29 {sc_ : Nat × (Nat → Int)} {m_ n_ : Nat} {x_ y_ : Option sm_V} {S_ : sm_S} (ih_ : lwC sc_ m_) (hs_ : scB sc_) (hn_ : 7 * n_ + 7 ≤ sc_.1) (hm_ : sc_.1 ≤ 7 * n_ + 7 * (m_ + 1)) (J_ : jB n_ S_) : sm_T (mt_P sc_) 40 588 (1502, Lw (7 * (n_ : Int)) x_ y_, [], S_) (lwQ (m_ + 1)) := by
  have b_ := hs_.1
  unfold Lw
  refine sm_T_go 4 (c1 := (1507, [some (.inr (.inr (some (302, 0)))), some (.inr (.inr (some (12, 0)))), some (.inr (.inr (some (13, 0)))), some (.inr (.inr (some (295, 0)))), some (.inl (7 * (n_ : Int))), x_, y_], [.inl 1, .inl (7 * (n_ : Int)), .inr (.inr (some (302, 0))), .inr (.inr (some (12, 0)))], S_)) rfl ?_
  refine sm_T_bin (w := 7 * (n_ : Int) + 1) rfl (bi_add (by omega) (by omega) (by omega)) ?_
  refine sm_T_nt (u := some (.inl (sc_.2 (7 * (n_ : Int) + 1).toNat))) (S1 := S_) rfl rfl (lw_n (by omega) (by omega)) ?_
  refine sm_T_go 3 (c1 := (1513, [some (.inr (.inr (some (302, 0)))), some (.inr (.inr (some (12, 0)))), some (.inr (.inr (some (13, 0)))), some (.inr (.inr (some (295, 0)))), some (.inl (7 * (n_ : Int))), x_, y_], [.inl 2, .inl (7 * (n_ : Int)), .inr (.inr (some (302, 0))), .inl (sc_.2 (7 * (n_ : Int) + 1).toNat), .inr (.inr (some (12, 0)))], S_)) rfl ?_
  refine sm_T_bin (w := 7 * (n_ : Int) + 2) rfl (bi_add (by omega) (by omega) (by omega)) ?_
  refine sm_T_nt (u := some (.inl (sc_.2 (7 * (n_ : Int) + 2).toNat))) (S1 := S_) rfl rfl (lw_n (by omega) (by omega)) ?_
  refine sm_T_go 1 (c1 := (1516, [some (.inr (.inr (some (302, 0)))), some (.inr (.inr (some (12, 0)))), some (.inr (.inr (some (13, 0)))), some (.inr (.inr (some (295, 0)))), some (.inl (7 * (n_ : Int))), x_, y_], [.inr (.inr (some (295, 0))), .inl (sc_.2 (7 * (n_ : Int) + 2).toNat), .inl (sc_.2 (7 * (n_ : Int) + 1).toNat), .inr (.inr (some (12, 0)))], S_)) rfl ?_
  refine sm_T_call rfl rfl ((lh_563 (sc_.2 (7 * (n_ : Int) + 1).toNat) (sc_.2 (7 * (n_ : Int) + 2).toNat) S_ J_.1 J_.2.1).deep (by decide)) (fun u_ S1_ k1_ q_ => ?_) (fun ex_ S1_ k1_ q_ => by (obtain ⟨v_, S2_, k2_, e_, -⟩ := q_; cases e_))
  obtain ⟨v3_, S2z_, k2z_, e_, h4_, q_⟩ := q_
  cases e_
  have J2_ := jB_c J_ q_
  refine sm_T_go 5 (c1 := (1526, [some (.inr (.inr (some (302, 0)))), some (.inr (.inr (some (12, 0)))), some (.inr (.inr (some (13, 0)))), some (.inr (.inr (some (295, 0)))), some (.inl (7 * (n_ : Int))), some (.inl v3_), y_], [.inl 1, .inl (7 * (n_ : Int)), .inr (.inr (some (302, 0))), .inr (.inr (some (13, 0)))], S1_)) rfl ?_
  refine sm_T_bin (w := 7 * (n_ : Int) + 1) rfl (bi_add (by omega) (by omega) (by omega)) ?_
  refine sm_T_nt (u := some (.inl (sc_.2 (7 * (n_ : Int) + 1).toNat))) (S1 := S1_) rfl rfl (lw_n (by omega) (by omega)) ?_
  refine sm_T_go 3 (c1 := (1532, [some (.inr (.inr (some (302, 0)))), some (.inr (.inr (some (12, 0)))), some (.inr (.inr (some (13, 0)))), some (.inr (.inr (some (295, 0)))), some (.inl (7 * (n_ : Int))), some (.inl v3_), y_], [.inl 2, .inl (7 * (n_ : Int)), .inr (.inr (some (302, 0))), .inl (sc_.2 (7 * (n_ : Int) + 1).toNat), .inr (.inr (some (13, 0)))], S1_)) rfl ?_
  refine sm_T_bin (w := 7 * (n_ : Int) + 2) rfl (bi_add (by omega) (by omega) (by omega)) ?_
  refine sm_T_nt (u := some (.inl (sc_.2 (7 * (n_ : Int) + 2).toNat))) (S1 := S1_) rfl rfl (lw_n (by omega) (by omega)) ?_
  refine sm_T_cal (d1 := 5) (Q1 := vq_449 (sc_.2 (7 * (n_ : Int) + 1).toNat) (sc_.2 (7 * (n_ : Int) + 2).toNat) S1_) rfl rfl (by decide) (vc_449 (sc_.2 (7 * (n_ : Int) + 1).toNat) (sc_.2 (7 * (n_ : Int) + 2).toNat) S1_ J2_.1 (by first | exact hs_.2 _ | decide | omega) (by first | exact hs_.2 _ | decide | omega) J2_.2.2.1) (fun u_ S5_ p_ => ?_)
  obtain ⟨v7_, rfl, i_, f_, p_⟩ := p_
  have J6_ := jB_r J2_ i_ f_ (by first | exact p_ | exact p_.1 | exact p_.2 | exact p_.2.1 | exact p_.2.2)
  refine sm_T_go 2 (c1 := (2677, [some (.inr (.inr (some (302, 0)))), some (.inr (.inr (some (12, 0)))), some (.inr (.inr (some (13, 0)))), some (.inr (.inr (some (295, 0)))), some (.inl (7 * (n_ : Int))), some (.inl v3_), some (.inl v7_)], [], S5_)) rfl ?_
  exact lc_end ih_ hs_ hn_ hm_ h4_ (jB_up J6_)
set_option maxRecDepth 100000 in
set_option maxHeartbeats 4000000 in
theorem lc_30 {sc_ : Nat × (Nat → Int)} {m_ n_ : Nat} {x_ y_ : Option sm_V} {S_ : sm_S} (ih_ : lwC sc_ m_) (hs_ : scB sc_) (hn_ : 7 * n_ + 7 ≤ sc_.1) (hm_ : sc_.1 ≤ 7 * n_ + 7 * (m_ + 1)) (J_ : jB n_ S_) : sm_T (mt_P sc_) 40 588 (1542, Lw (7 * (n_ : Int)) x_ y_, [], S_) (lwQ (m_ + 1)) := by
  have b_ := hs_.1
  unfold Lw
  refine sm_T_go 4 (c1 := (1547, [some (.inr (.inr (some (302, 0)))), some (.inr (.inr (some (12, 0)))), some (.inr (.inr (some (13, 0)))), some (.inr (.inr (some (295, 0)))), some (.inl (7 * (n_ : Int))), x_, y_], [.inl 1, .inl (7 * (n_ : Int)), .inr (.inr (some (302, 0))), .inr (.inr (some (12, 0)))], S_)) rfl ?_
  refine sm_T_bin (w := 7 * (n_ : Int) + 1) rfl (bi_add (by omega) (by omega) (by omega)) ?_
  refine sm_T_nt (u := some (.inl (sc_.2 (7 * (n_ : Int) + 1).toNat))) (S1 := S_) rfl rfl (lw_n (by omega) (by omega)) ?_
  refine sm_T_go 3 (c1 := (1553, [some (.inr (.inr (some (302, 0)))), some (.inr (.inr (some (12, 0)))), some (.inr (.inr (some (13, 0)))), some (.inr (.inr (some (295, 0)))), some (.inl (7 * (n_ : Int))), x_, y_], [.inl 2, .inl (7 * (n_ : Int)), .inr (.inr (some (302, 0))), .inl (sc_.2 (7 * (n_ : Int) + 1).toNat), .inr (.inr (some (12, 0)))], S_)) rfl ?_
  refine sm_T_bin (w := 7 * (n_ : Int) + 2) rfl (bi_add (by omega) (by omega) (by omega)) ?_
  refine sm_T_nt (u := some (.inl (sc_.2 (7 * (n_ : Int) + 2).toNat))) (S1 := S_) rfl rfl (lw_n (by omega) (by omega)) ?_
  refine sm_T_go 1 (c1 := (1556, [some (.inr (.inr (some (302, 0)))), some (.inr (.inr (some (12, 0)))), some (.inr (.inr (some (13, 0)))), some (.inr (.inr (some (295, 0)))), some (.inl (7 * (n_ : Int))), x_, y_], [.inr (.inr (some (295, 0))), .inl (sc_.2 (7 * (n_ : Int) + 2).toNat), .inl (sc_.2 (7 * (n_ : Int) + 1).toNat), .inr (.inr (some (12, 0)))], S_)) rfl ?_
  refine sm_T_call rfl rfl ((lh_564 (sc_.2 (7 * (n_ : Int) + 1).toNat) (sc_.2 (7 * (n_ : Int) + 2).toNat) S_ J_.1 J_.2.1).deep (by decide)) (fun u_ S1_ k1_ q_ => ?_) (fun ex_ S1_ k1_ q_ => by (obtain ⟨v_, S2_, k2_, e_, -⟩ := q_; cases e_))
  obtain ⟨v3_, S2z_, k2z_, e_, h4_, q_⟩ := q_
  cases e_
  have J2_ := jB_c J_ q_
  refine sm_T_go 5 (c1 := (1566, [some (.inr (.inr (some (302, 0)))), some (.inr (.inr (some (12, 0)))), some (.inr (.inr (some (13, 0)))), some (.inr (.inr (some (295, 0)))), some (.inl (7 * (n_ : Int))), some (.inl v3_), y_], [.inl 1, .inl (7 * (n_ : Int)), .inr (.inr (some (302, 0))), .inr (.inr (some (13, 0)))], S1_)) rfl ?_
  refine sm_T_bin (w := 7 * (n_ : Int) + 1) rfl (bi_add (by omega) (by omega) (by omega)) ?_
  refine sm_T_nt (u := some (.inl (sc_.2 (7 * (n_ : Int) + 1).toNat))) (S1 := S1_) rfl rfl (lw_n (by omega) (by omega)) ?_
  refine sm_T_go 3 (c1 := (1572, [some (.inr (.inr (some (302, 0)))), some (.inr (.inr (some (12, 0)))), some (.inr (.inr (some (13, 0)))), some (.inr (.inr (some (295, 0)))), some (.inl (7 * (n_ : Int))), some (.inl v3_), y_], [.inl 2, .inl (7 * (n_ : Int)), .inr (.inr (some (302, 0))), .inl (sc_.2 (7 * (n_ : Int) + 1).toNat), .inr (.inr (some (13, 0)))], S1_)) rfl ?_
  refine sm_T_bin (w := 7 * (n_ : Int) + 2) rfl (bi_add (by omega) (by omega) (by omega)) ?_
  refine sm_T_nt (u := some (.inl (sc_.2 (7 * (n_ : Int) + 2).toNat))) (S1 := S1_) rfl rfl (lw_n (by omega) (by omega)) ?_
  refine sm_T_cal (d1 := 5) (Q1 := vq_451 (sc_.2 (7 * (n_ : Int) + 1).toNat) (sc_.2 (7 * (n_ : Int) + 2).toNat) S1_) rfl rfl (by decide) (vc_451 (sc_.2 (7 * (n_ : Int) + 1).toNat) (sc_.2 (7 * (n_ : Int) + 2).toNat) S1_ J2_.1 (by first | exact hs_.2 _ | decide | omega) (by first | exact hs_.2 _ | decide | omega) J2_.2.2.1) (fun u_ S5_ p_ => ?_)
  obtain ⟨v7_, rfl, i_, f_, p_⟩ := p_
  have J6_ := jB_r J2_ i_ f_ (by first | exact p_ | exact p_.1 | exact p_.2 | exact p_.2.1 | exact p_.2.2)
  refine sm_T_go 2 (c1 := (2677, [some (.inr (.inr (some (302, 0)))), some (.inr (.inr (some (12, 0)))), some (.inr (.inr (some (13, 0)))), some (.inr (.inr (some (295, 0)))), some (.inl (7 * (n_ : Int))), some (.inl v3_), some (.inl v7_)], [], S5_)) rfl ?_
  exact lc_end ih_ hs_ hn_ hm_ h4_ (jB_up J6_)
set_option maxRecDepth 100000 in
set_option maxHeartbeats 4000000 in
theorem lc_31 {sc_ : Nat × (Nat → Int)} {m_ n_ : Nat} {x_ y_ : Option sm_V} {S_ : sm_S} (ih_ : lwC sc_ m_) (hs_ : scB sc_) (hn_ : 7 * n_ + 7 ≤ sc_.1) (hm_ : sc_.1 ≤ 7 * n_ + 7 * (m_ + 1)) (J_ : jB n_ S_) : sm_T (mt_P sc_) 40 588 (1582, Lw (7 * (n_ : Int)) x_ y_, [], S_) (lwQ (m_ + 1)) := by
  have b_ := hs_.1
  unfold Lw
  refine sm_T_go 4 (c1 := (1587, [some (.inr (.inr (some (302, 0)))), some (.inr (.inr (some (12, 0)))), some (.inr (.inr (some (13, 0)))), some (.inr (.inr (some (295, 0)))), some (.inl (7 * (n_ : Int))), x_, y_], [.inl 1, .inl (7 * (n_ : Int)), .inr (.inr (some (302, 0))), .inr (.inr (some (12, 0)))], S_)) rfl ?_
  refine sm_T_bin (w := 7 * (n_ : Int) + 1) rfl (bi_add (by omega) (by omega) (by omega)) ?_
  refine sm_T_nt (u := some (.inl (sc_.2 (7 * (n_ : Int) + 1).toNat))) (S1 := S_) rfl rfl (lw_n (by omega) (by omega)) ?_
  refine sm_T_go 3 (c1 := (1593, [some (.inr (.inr (some (302, 0)))), some (.inr (.inr (some (12, 0)))), some (.inr (.inr (some (13, 0)))), some (.inr (.inr (some (295, 0)))), some (.inl (7 * (n_ : Int))), x_, y_], [.inl 2, .inl (7 * (n_ : Int)), .inr (.inr (some (302, 0))), .inl (sc_.2 (7 * (n_ : Int) + 1).toNat), .inr (.inr (some (12, 0)))], S_)) rfl ?_
  refine sm_T_bin (w := 7 * (n_ : Int) + 2) rfl (bi_add (by omega) (by omega) (by omega)) ?_
  refine sm_T_nt (u := some (.inl (sc_.2 (7 * (n_ : Int) + 2).toNat))) (S1 := S_) rfl rfl (lw_n (by omega) (by omega)) ?_
  refine sm_T_go 1 (c1 := (1596, [some (.inr (.inr (some (302, 0)))), some (.inr (.inr (some (12, 0)))), some (.inr (.inr (some (13, 0)))), some (.inr (.inr (some (295, 0)))), some (.inl (7 * (n_ : Int))), x_, y_], [.inr (.inr (some (295, 0))), .inl (sc_.2 (7 * (n_ : Int) + 2).toNat), .inl (sc_.2 (7 * (n_ : Int) + 1).toNat), .inr (.inr (some (12, 0)))], S_)) rfl ?_
  refine sm_T_call rfl rfl ((lh_565 (sc_.2 (7 * (n_ : Int) + 1).toNat) (sc_.2 (7 * (n_ : Int) + 2).toNat) S_ J_.1 J_.2.1).deep (by decide)) (fun u_ S1_ k1_ q_ => ?_) (fun ex_ S1_ k1_ q_ => by (obtain ⟨v_, S2_, k2_, e_, -⟩ := q_; cases e_))
  obtain ⟨v3_, S2z_, k2z_, e_, h4_, q_⟩ := q_
  cases e_
  have J2_ := jB_c J_ q_
  refine sm_T_go 5 (c1 := (1606, [some (.inr (.inr (some (302, 0)))), some (.inr (.inr (some (12, 0)))), some (.inr (.inr (some (13, 0)))), some (.inr (.inr (some (295, 0)))), some (.inl (7 * (n_ : Int))), some (.inl v3_), y_], [.inl 1, .inl (7 * (n_ : Int)), .inr (.inr (some (302, 0))), .inr (.inr (some (13, 0)))], S1_)) rfl ?_
  refine sm_T_bin (w := 7 * (n_ : Int) + 1) rfl (bi_add (by omega) (by omega) (by omega)) ?_
  refine sm_T_nt (u := some (.inl (sc_.2 (7 * (n_ : Int) + 1).toNat))) (S1 := S1_) rfl rfl (lw_n (by omega) (by omega)) ?_
  refine sm_T_go 3 (c1 := (1612, [some (.inr (.inr (some (302, 0)))), some (.inr (.inr (some (12, 0)))), some (.inr (.inr (some (13, 0)))), some (.inr (.inr (some (295, 0)))), some (.inl (7 * (n_ : Int))), some (.inl v3_), y_], [.inl 2, .inl (7 * (n_ : Int)), .inr (.inr (some (302, 0))), .inl (sc_.2 (7 * (n_ : Int) + 1).toNat), .inr (.inr (some (13, 0)))], S1_)) rfl ?_
  refine sm_T_bin (w := 7 * (n_ : Int) + 2) rfl (bi_add (by omega) (by omega) (by omega)) ?_
  refine sm_T_nt (u := some (.inl (sc_.2 (7 * (n_ : Int) + 2).toNat))) (S1 := S1_) rfl rfl (lw_n (by omega) (by omega)) ?_
  refine sm_T_cal (d1 := 6) (Q1 := vq_466 (sc_.2 (7 * (n_ : Int) + 1).toNat) (sc_.2 (7 * (n_ : Int) + 2).toNat) S1_) rfl rfl (by decide) (vc_466 (sc_.2 (7 * (n_ : Int) + 1).toNat) (sc_.2 (7 * (n_ : Int) + 2).toNat) S1_ J2_.1 (by first | exact hs_.2 _ | decide | omega) (by first | exact hs_.2 _ | decide | omega) J2_.2.2.1) (fun u_ S5_ p_ => ?_)
  obtain ⟨v7_, rfl, i_, f_, p_⟩ := p_
  have J6_ := jB_r J2_ i_ f_ (by first | exact p_ | exact p_.1 | exact p_.2 | exact p_.2.1 | exact p_.2.2)
  refine sm_T_go 2 (c1 := (2677, [some (.inr (.inr (some (302, 0)))), some (.inr (.inr (some (12, 0)))), some (.inr (.inr (some (13, 0)))), some (.inr (.inr (some (295, 0)))), some (.inl (7 * (n_ : Int))), some (.inl v3_), some (.inl v7_)], [], S5_)) rfl ?_
  exact lc_end ih_ hs_ hn_ hm_ h4_ (jB_up J6_)
set_option maxRecDepth 100000 in
set_option maxHeartbeats 4000000 in
theorem lc_32 {sc_ : Nat × (Nat → Int)} {m_ n_ : Nat} {x_ y_ : Option sm_V} {S_ : sm_S} (ih_ : lwC sc_ m_) (hs_ : scB sc_) (hn_ : 7 * n_ + 7 ≤ sc_.1) (hm_ : sc_.1 ≤ 7 * n_ + 7 * (m_ + 1)) (J_ : jB n_ S_) : sm_T (mt_P sc_) 40 588 (1622, Lw (7 * (n_ : Int)) x_ y_, [], S_) (lwQ (m_ + 1)) := by
  have b_ := hs_.1
  unfold Lw
  refine sm_T_go 4 (c1 := (1627, [some (.inr (.inr (some (302, 0)))), some (.inr (.inr (some (12, 0)))), some (.inr (.inr (some (13, 0)))), some (.inr (.inr (some (295, 0)))), some (.inl (7 * (n_ : Int))), x_, y_], [.inl 1, .inl (7 * (n_ : Int)), .inr (.inr (some (302, 0))), .inr (.inr (some (12, 0)))], S_)) rfl ?_
  refine sm_T_bin (w := 7 * (n_ : Int) + 1) rfl (bi_add (by omega) (by omega) (by omega)) ?_
  refine sm_T_nt (u := some (.inl (sc_.2 (7 * (n_ : Int) + 1).toNat))) (S1 := S_) rfl rfl (lw_n (by omega) (by omega)) ?_
  refine sm_T_go 3 (c1 := (1633, [some (.inr (.inr (some (302, 0)))), some (.inr (.inr (some (12, 0)))), some (.inr (.inr (some (13, 0)))), some (.inr (.inr (some (295, 0)))), some (.inl (7 * (n_ : Int))), x_, y_], [.inl 2, .inl (7 * (n_ : Int)), .inr (.inr (some (302, 0))), .inl (sc_.2 (7 * (n_ : Int) + 1).toNat), .inr (.inr (some (12, 0)))], S_)) rfl ?_
  refine sm_T_bin (w := 7 * (n_ : Int) + 2) rfl (bi_add (by omega) (by omega) (by omega)) ?_
  refine sm_T_nt (u := some (.inl (sc_.2 (7 * (n_ : Int) + 2).toNat))) (S1 := S_) rfl rfl (lw_n (by omega) (by omega)) ?_
  refine sm_T_go 1 (c1 := (1636, [some (.inr (.inr (some (302, 0)))), some (.inr (.inr (some (12, 0)))), some (.inr (.inr (some (13, 0)))), some (.inr (.inr (some (295, 0)))), some (.inl (7 * (n_ : Int))), x_, y_], [.inr (.inr (some (295, 0))), .inl (sc_.2 (7 * (n_ : Int) + 2).toNat), .inl (sc_.2 (7 * (n_ : Int) + 1).toNat), .inr (.inr (some (12, 0)))], S_)) rfl ?_
  refine sm_T_call rfl rfl ((lh_566 (sc_.2 (7 * (n_ : Int) + 1).toNat) (sc_.2 (7 * (n_ : Int) + 2).toNat) S_ J_.1 J_.2.1).deep (by decide)) (fun u_ S1_ k1_ q_ => ?_) (fun ex_ S1_ k1_ q_ => by (obtain ⟨v_, S2_, k2_, e_, -⟩ := q_; cases e_))
  obtain ⟨v3_, S2z_, k2z_, e_, h4_, q_⟩ := q_
  cases e_
  have J2_ := jB_c J_ q_
  refine sm_T_go 5 (c1 := (1646, [some (.inr (.inr (some (302, 0)))), some (.inr (.inr (some (12, 0)))), some (.inr (.inr (some (13, 0)))), some (.inr (.inr (some (295, 0)))), some (.inl (7 * (n_ : Int))), some (.inl v3_), y_], [.inl 1, .inl (7 * (n_ : Int)), .inr (.inr (some (302, 0))), .inr (.inr (some (13, 0)))], S1_)) rfl ?_
  refine sm_T_bin (w := 7 * (n_ : Int) + 1) rfl (bi_add (by omega) (by omega) (by omega)) ?_
  refine sm_T_nt (u := some (.inl (sc_.2 (7 * (n_ : Int) + 1).toNat))) (S1 := S1_) rfl rfl (lw_n (by omega) (by omega)) ?_
  refine sm_T_go 3 (c1 := (1652, [some (.inr (.inr (some (302, 0)))), some (.inr (.inr (some (12, 0)))), some (.inr (.inr (some (13, 0)))), some (.inr (.inr (some (295, 0)))), some (.inl (7 * (n_ : Int))), some (.inl v3_), y_], [.inl 2, .inl (7 * (n_ : Int)), .inr (.inr (some (302, 0))), .inl (sc_.2 (7 * (n_ : Int) + 1).toNat), .inr (.inr (some (13, 0)))], S1_)) rfl ?_
  refine sm_T_bin (w := 7 * (n_ : Int) + 2) rfl (bi_add (by omega) (by omega) (by omega)) ?_
  refine sm_T_nt (u := some (.inl (sc_.2 (7 * (n_ : Int) + 2).toNat))) (S1 := S1_) rfl rfl (lw_n (by omega) (by omega)) ?_
  refine sm_T_cal (d1 := 1) (Q1 := vq_467 (sc_.2 (7 * (n_ : Int) + 1).toNat) (sc_.2 (7 * (n_ : Int) + 2).toNat) S1_) rfl rfl (by decide) (vc_467 (sc_.2 (7 * (n_ : Int) + 1).toNat) (sc_.2 (7 * (n_ : Int) + 2).toNat) S1_ J2_.1 (by first | exact hs_.2 _ | decide | omega) (by first | exact hs_.2 _ | decide | omega) J2_.2.2.1) (fun u_ S5_ p_ => ?_)
  obtain ⟨v7_, rfl, i_, f_, p_⟩ := p_
  have J6_ := jB_r J2_ i_ f_ (by first | exact p_ | exact p_.1 | exact p_.2 | exact p_.2.1 | exact p_.2.2)
  refine sm_T_go 2 (c1 := (2677, [some (.inr (.inr (some (302, 0)))), some (.inr (.inr (some (12, 0)))), some (.inr (.inr (some (13, 0)))), some (.inr (.inr (some (295, 0)))), some (.inl (7 * (n_ : Int))), some (.inl v3_), some (.inl v7_)], [], S5_)) rfl ?_
  exact lc_end ih_ hs_ hn_ hm_ h4_ (jB_up J6_)
set_option maxRecDepth 100000 in
set_option maxHeartbeats 4000000 in
theorem lc_33 {sc_ : Nat × (Nat → Int)} {m_ n_ : Nat} {x_ y_ : Option sm_V} {S_ : sm_S} (ih_ : lwC sc_ m_) (hs_ : scB sc_) (hn_ : 7 * n_ + 7 ≤ sc_.1) (hm_ : sc_.1 ≤ 7 * n_ + 7 * (m_ + 1)) (J_ : jB n_ S_) : sm_T (mt_P sc_) 40 588 (1662, Lw (7 * (n_ : Int)) x_ y_, [], S_) (lwQ (m_ + 1)) := by
  have b_ := hs_.1
  unfold Lw
  refine sm_T_go 4 (c1 := (1667, [some (.inr (.inr (some (302, 0)))), some (.inr (.inr (some (12, 0)))), some (.inr (.inr (some (13, 0)))), some (.inr (.inr (some (295, 0)))), some (.inl (7 * (n_ : Int))), x_, y_], [.inl 1, .inl (7 * (n_ : Int)), .inr (.inr (some (302, 0))), .inr (.inr (some (12, 0)))], S_)) rfl ?_
  refine sm_T_bin (w := 7 * (n_ : Int) + 1) rfl (bi_add (by omega) (by omega) (by omega)) ?_
  refine sm_T_nt (u := some (.inl (sc_.2 (7 * (n_ : Int) + 1).toNat))) (S1 := S_) rfl rfl (lw_n (by omega) (by omega)) ?_
  refine sm_T_go 3 (c1 := (1673, [some (.inr (.inr (some (302, 0)))), some (.inr (.inr (some (12, 0)))), some (.inr (.inr (some (13, 0)))), some (.inr (.inr (some (295, 0)))), some (.inl (7 * (n_ : Int))), x_, y_], [.inl 2, .inl (7 * (n_ : Int)), .inr (.inr (some (302, 0))), .inl (sc_.2 (7 * (n_ : Int) + 1).toNat), .inr (.inr (some (12, 0)))], S_)) rfl ?_
  refine sm_T_bin (w := 7 * (n_ : Int) + 2) rfl (bi_add (by omega) (by omega) (by omega)) ?_
  refine sm_T_nt (u := some (.inl (sc_.2 (7 * (n_ : Int) + 2).toNat))) (S1 := S_) rfl rfl (lw_n (by omega) (by omega)) ?_
  refine sm_T_go 3 (c1 := (1679, [some (.inr (.inr (some (302, 0)))), some (.inr (.inr (some (12, 0)))), some (.inr (.inr (some (13, 0)))), some (.inr (.inr (some (295, 0)))), some (.inl (7 * (n_ : Int))), x_, y_], [.inl 3, .inl (7 * (n_ : Int)), .inr (.inr (some (302, 0))), .inl (sc_.2 (7 * (n_ : Int) + 2).toNat), .inl (sc_.2 (7 * (n_ : Int) + 1).toNat), .inr (.inr (some (12, 0)))], S_)) rfl ?_
  refine sm_T_bin (w := 7 * (n_ : Int) + 3) rfl (bi_add (by omega) (by omega) (by omega)) ?_
  refine sm_T_nt (u := some (.inl (sc_.2 (7 * (n_ : Int) + 3).toNat))) (S1 := S_) rfl rfl (lw_n (by omega) (by omega)) ?_
  refine sm_T_go 1 (c1 := (1682, [some (.inr (.inr (some (302, 0)))), some (.inr (.inr (some (12, 0)))), some (.inr (.inr (some (13, 0)))), some (.inr (.inr (some (295, 0)))), some (.inl (7 * (n_ : Int))), x_, y_], [.inr (.inr (some (295, 0))), .inl (sc_.2 (7 * (n_ : Int) + 3).toNat), .inl (sc_.2 (7 * (n_ : Int) + 2).toNat), .inl (sc_.2 (7 * (n_ : Int) + 1).toNat), .inr (.inr (some (12, 0)))], S_)) rfl ?_
  refine sm_T_call rfl rfl ((lh_567 (sc_.2 (7 * (n_ : Int) + 1).toNat) (sc_.2 (7 * (n_ : Int) + 2).toNat) (sc_.2 (7 * (n_ : Int) + 3).toNat) S_ J_.1 J_.2.1).deep (by decide)) (fun u_ S1_ k1_ q_ => ?_) (fun ex_ S1_ k1_ q_ => by (obtain ⟨v_, S2_, k2_, e_, -⟩ := q_; cases e_))
  obtain ⟨v3_, S2z_, k2z_, e_, h4_, q_⟩ := q_
  cases e_
  have J2_ := jB_c J_ q_
  refine sm_T_go 5 (c1 := (1692, [some (.inr (.inr (some (302, 0)))), some (.inr (.inr (some (12, 0)))), some (.inr (.inr (some (13, 0)))), some (.inr (.inr (some (295, 0)))), some (.inl (7 * (n_ : Int))), some (.inl v3_), y_], [.inl 1, .inl (7 * (n_ : Int)), .inr (.inr (some (302, 0))), .inr (.inr (some (13, 0)))], S1_)) rfl ?_
  refine sm_T_bin (w := 7 * (n_ : Int) + 1) rfl (bi_add (by omega) (by omega) (by omega)) ?_
  refine sm_T_nt (u := some (.inl (sc_.2 (7 * (n_ : Int) + 1).toNat))) (S1 := S1_) rfl rfl (lw_n (by omega) (by omega)) ?_
  refine sm_T_go 3 (c1 := (1698, [some (.inr (.inr (some (302, 0)))), some (.inr (.inr (some (12, 0)))), some (.inr (.inr (some (13, 0)))), some (.inr (.inr (some (295, 0)))), some (.inl (7 * (n_ : Int))), some (.inl v3_), y_], [.inl 2, .inl (7 * (n_ : Int)), .inr (.inr (some (302, 0))), .inl (sc_.2 (7 * (n_ : Int) + 1).toNat), .inr (.inr (some (13, 0)))], S1_)) rfl ?_
  refine sm_T_bin (w := 7 * (n_ : Int) + 2) rfl (bi_add (by omega) (by omega) (by omega)) ?_
  refine sm_T_nt (u := some (.inl (sc_.2 (7 * (n_ : Int) + 2).toNat))) (S1 := S1_) rfl rfl (lw_n (by omega) (by omega)) ?_
  refine sm_T_go 3 (c1 := (1704, [some (.inr (.inr (some (302, 0)))), some (.inr (.inr (some (12, 0)))), some (.inr (.inr (some (13, 0)))), some (.inr (.inr (some (295, 0)))), some (.inl (7 * (n_ : Int))), some (.inl v3_), y_], [.inl 3, .inl (7 * (n_ : Int)), .inr (.inr (some (302, 0))), .inl (sc_.2 (7 * (n_ : Int) + 2).toNat), .inl (sc_.2 (7 * (n_ : Int) + 1).toNat), .inr (.inr (some (13, 0)))], S1_)) rfl ?_
  refine sm_T_bin (w := 7 * (n_ : Int) + 3) rfl (bi_add (by omega) (by omega) (by omega)) ?_
  refine sm_T_nt (u := some (.inl (sc_.2 (7 * (n_ : Int) + 3).toNat))) (S1 := S1_) rfl rfl (lw_n (by omega) (by omega)) ?_
  refine sm_T_cal (d1 := 4) (Q1 := vq_468 (sc_.2 (7 * (n_ : Int) + 1).toNat) (sc_.2 (7 * (n_ : Int) + 2).toNat) (sc_.2 (7 * (n_ : Int) + 3).toNat) S1_) rfl rfl (by decide) (vc_468 (sc_.2 (7 * (n_ : Int) + 1).toNat) (sc_.2 (7 * (n_ : Int) + 2).toNat) (sc_.2 (7 * (n_ : Int) + 3).toNat) S1_ J2_.1 (by first | exact hs_.2 _ | decide | omega) (by first | exact hs_.2 _ | decide | omega) (by first | exact hs_.2 _ | decide | omega) J2_.2.2.1) (fun u_ S5_ p_ => ?_)
  obtain ⟨v7_, rfl, i_, f_, p_⟩ := p_
  have J6_ := jB_r J2_ i_ f_ (by first | exact p_ | exact p_.1 | exact p_.2 | exact p_.2.1 | exact p_.2.2)
  refine sm_T_go 2 (c1 := (2677, [some (.inr (.inr (some (302, 0)))), some (.inr (.inr (some (12, 0)))), some (.inr (.inr (some (13, 0)))), some (.inr (.inr (some (295, 0)))), some (.inl (7 * (n_ : Int))), some (.inl v3_), some (.inl v7_)], [], S5_)) rfl ?_
  exact lc_end ih_ hs_ hn_ hm_ h4_ (jB_up J6_)
set_option maxRecDepth 100000 in
set_option maxHeartbeats 4000000 in
theorem lc_34 {sc_ : Nat × (Nat → Int)} {m_ n_ : Nat} {x_ y_ : Option sm_V} {S_ : sm_S} (ih_ : lwC sc_ m_) (hs_ : scB sc_) (hn_ : 7 * n_ + 7 ≤ sc_.1) (hm_ : sc_.1 ≤ 7 * n_ + 7 * (m_ + 1)) (J_ : jB n_ S_) : sm_T (mt_P sc_) 40 588 (1714, Lw (7 * (n_ : Int)) x_ y_, [], S_) (lwQ (m_ + 1)) := by
  have b_ := hs_.1
  unfold Lw
  refine sm_T_go 4 (c1 := (1719, [some (.inr (.inr (some (302, 0)))), some (.inr (.inr (some (12, 0)))), some (.inr (.inr (some (13, 0)))), some (.inr (.inr (some (295, 0)))), some (.inl (7 * (n_ : Int))), x_, y_], [.inl 1, .inl (7 * (n_ : Int)), .inr (.inr (some (302, 0))), .inr (.inr (some (12, 0)))], S_)) rfl ?_
  refine sm_T_bin (w := 7 * (n_ : Int) + 1) rfl (bi_add (by omega) (by omega) (by omega)) ?_
  refine sm_T_nt (u := some (.inl (sc_.2 (7 * (n_ : Int) + 1).toNat))) (S1 := S_) rfl rfl (lw_n (by omega) (by omega)) ?_
  refine sm_T_go 1 (c1 := (1722, [some (.inr (.inr (some (302, 0)))), some (.inr (.inr (some (12, 0)))), some (.inr (.inr (some (13, 0)))), some (.inr (.inr (some (295, 0)))), some (.inl (7 * (n_ : Int))), x_, y_], [.inr (.inr (some (295, 0))), .inl (sc_.2 (7 * (n_ : Int) + 1).toNat), .inr (.inr (some (12, 0)))], S_)) rfl ?_
  refine sm_T_call rfl rfl ((lh_568 (sc_.2 (7 * (n_ : Int) + 1).toNat) S_ J_.1 J_.2.1).deep (by decide)) (fun u_ S1_ k1_ q_ => ?_) (fun ex_ S1_ k1_ q_ => by (obtain ⟨v_, S2_, k2_, e_, -⟩ := q_; cases e_))
  obtain ⟨v3_, S2z_, k2z_, e_, h4_, q_⟩ := q_
  cases e_
  have J2_ := jB_c J_ q_
  refine sm_T_go 5 (c1 := (1732, [some (.inr (.inr (some (302, 0)))), some (.inr (.inr (some (12, 0)))), some (.inr (.inr (some (13, 0)))), some (.inr (.inr (some (295, 0)))), some (.inl (7 * (n_ : Int))), some (.inl v3_), y_], [.inl 1, .inl (7 * (n_ : Int)), .inr (.inr (some (302, 0))), .inr (.inr (some (13, 0)))], S1_)) rfl ?_
  refine sm_T_bin (w := 7 * (n_ : Int) + 1) rfl (bi_add (by omega) (by omega) (by omega)) ?_
  refine sm_T_nt (u := some (.inl (sc_.2 (7 * (n_ : Int) + 1).toNat))) (S1 := S1_) rfl rfl (lw_n (by omega) (by omega)) ?_
  refine sm_T_cal (d1 := 3) (Q1 := vq_474 (sc_.2 (7 * (n_ : Int) + 1).toNat) S1_) rfl rfl (by decide) (vc_474 (sc_.2 (7 * (n_ : Int) + 1).toNat) S1_ J2_.1 (by first | exact hs_.2 _ | decide | omega) J2_.2.2.1) (fun u_ S5_ p_ => ?_)
  obtain ⟨v7_, rfl, i_, f_, p_⟩ := p_
  have J6_ := jB_r J2_ i_ f_ (by first | exact p_ | exact p_.1 | exact p_.2 | exact p_.2.1 | exact p_.2.2)
  refine sm_T_go 2 (c1 := (2677, [some (.inr (.inr (some (302, 0)))), some (.inr (.inr (some (12, 0)))), some (.inr (.inr (some (13, 0)))), some (.inr (.inr (some (295, 0)))), some (.inl (7 * (n_ : Int))), some (.inl v3_), some (.inl v7_)], [], S5_)) rfl ?_
  exact lc_end ih_ hs_ hn_ hm_ h4_ (jB_up J6_)
set_option maxRecDepth 100000 in
set_option maxHeartbeats 4000000 in
theorem lc_35 {sc_ : Nat × (Nat → Int)} {m_ n_ : Nat} {x_ y_ : Option sm_V} {S_ : sm_S} (ih_ : lwC sc_ m_) (hs_ : scB sc_) (hn_ : 7 * n_ + 7 ≤ sc_.1) (hm_ : sc_.1 ≤ 7 * n_ + 7 * (m_ + 1)) (J_ : jB n_ S_) : sm_T (mt_P sc_) 40 588 (1742, Lw (7 * (n_ : Int)) x_ y_, [], S_) (lwQ (m_ + 1)) := by
  have b_ := hs_.1
  unfold Lw
  refine sm_T_go 4 (c1 := (1747, [some (.inr (.inr (some (302, 0)))), some (.inr (.inr (some (12, 0)))), some (.inr (.inr (some (13, 0)))), some (.inr (.inr (some (295, 0)))), some (.inl (7 * (n_ : Int))), x_, y_], [.inl 1, .inl (7 * (n_ : Int)), .inr (.inr (some (302, 0))), .inr (.inr (some (12, 0)))], S_)) rfl ?_
  refine sm_T_bin (w := 7 * (n_ : Int) + 1) rfl (bi_add (by omega) (by omega) (by omega)) ?_
  refine sm_T_nt (u := some (.inl (sc_.2 (7 * (n_ : Int) + 1).toNat))) (S1 := S_) rfl rfl (lw_n (by omega) (by omega)) ?_
  refine sm_T_go 3 (c1 := (1753, [some (.inr (.inr (some (302, 0)))), some (.inr (.inr (some (12, 0)))), some (.inr (.inr (some (13, 0)))), some (.inr (.inr (some (295, 0)))), some (.inl (7 * (n_ : Int))), x_, y_], [.inl 2, .inl (7 * (n_ : Int)), .inr (.inr (some (302, 0))), .inl (sc_.2 (7 * (n_ : Int) + 1).toNat), .inr (.inr (some (12, 0)))], S_)) rfl ?_
  refine sm_T_bin (w := 7 * (n_ : Int) + 2) rfl (bi_add (by omega) (by omega) (by omega)) ?_
  refine sm_T_nt (u := some (.inl (sc_.2 (7 * (n_ : Int) + 2).toNat))) (S1 := S_) rfl rfl (lw_n (by omega) (by omega)) ?_
  refine sm_T_go 3 (c1 := (1759, [some (.inr (.inr (some (302, 0)))), some (.inr (.inr (some (12, 0)))), some (.inr (.inr (some (13, 0)))), some (.inr (.inr (some (295, 0)))), some (.inl (7 * (n_ : Int))), x_, y_], [.inl 3, .inl (7 * (n_ : Int)), .inr (.inr (some (302, 0))), .inl (sc_.2 (7 * (n_ : Int) + 2).toNat), .inl (sc_.2 (7 * (n_ : Int) + 1).toNat), .inr (.inr (some (12, 0)))], S_)) rfl ?_
  refine sm_T_bin (w := 7 * (n_ : Int) + 3) rfl (bi_add (by omega) (by omega) (by omega)) ?_
  refine sm_T_nt (u := some (.inl (sc_.2 (7 * (n_ : Int) + 3).toNat))) (S1 := S_) rfl rfl (lw_n (by omega) (by omega)) ?_
  refine sm_T_go 1 (c1 := (1762, [some (.inr (.inr (some (302, 0)))), some (.inr (.inr (some (12, 0)))), some (.inr (.inr (some (13, 0)))), some (.inr (.inr (some (295, 0)))), some (.inl (7 * (n_ : Int))), x_, y_], [.inr (.inr (some (295, 0))), .inl (sc_.2 (7 * (n_ : Int) + 3).toNat), .inl (sc_.2 (7 * (n_ : Int) + 2).toNat), .inl (sc_.2 (7 * (n_ : Int) + 1).toNat), .inr (.inr (some (12, 0)))], S_)) rfl ?_
  refine sm_T_call rfl rfl ((lh_569 (sc_.2 (7 * (n_ : Int) + 1).toNat) (sc_.2 (7 * (n_ : Int) + 2).toNat) (sc_.2 (7 * (n_ : Int) + 3).toNat) S_ J_.1 J_.2.1).deep (by decide)) (fun u_ S1_ k1_ q_ => ?_) (fun ex_ S1_ k1_ q_ => by (obtain ⟨v_, S2_, k2_, e_, -⟩ := q_; cases e_))
  obtain ⟨v3_, S2z_, k2z_, e_, h4_, q_⟩ := q_
  cases e_
  have J2_ := jB_c J_ q_
  refine sm_T_go 5 (c1 := (1772, [some (.inr (.inr (some (302, 0)))), some (.inr (.inr (some (12, 0)))), some (.inr (.inr (some (13, 0)))), some (.inr (.inr (some (295, 0)))), some (.inl (7 * (n_ : Int))), some (.inl v3_), y_], [.inl 1, .inl (7 * (n_ : Int)), .inr (.inr (some (302, 0))), .inr (.inr (some (13, 0)))], S1_)) rfl ?_
  refine sm_T_bin (w := 7 * (n_ : Int) + 1) rfl (bi_add (by omega) (by omega) (by omega)) ?_
  refine sm_T_nt (u := some (.inl (sc_.2 (7 * (n_ : Int) + 1).toNat))) (S1 := S1_) rfl rfl (lw_n (by omega) (by omega)) ?_
  refine sm_T_go 3 (c1 := (1778, [some (.inr (.inr (some (302, 0)))), some (.inr (.inr (some (12, 0)))), some (.inr (.inr (some (13, 0)))), some (.inr (.inr (some (295, 0)))), some (.inl (7 * (n_ : Int))), some (.inl v3_), y_], [.inl 2, .inl (7 * (n_ : Int)), .inr (.inr (some (302, 0))), .inl (sc_.2 (7 * (n_ : Int) + 1).toNat), .inr (.inr (some (13, 0)))], S1_)) rfl ?_
  refine sm_T_bin (w := 7 * (n_ : Int) + 2) rfl (bi_add (by omega) (by omega) (by omega)) ?_
  refine sm_T_nt (u := some (.inl (sc_.2 (7 * (n_ : Int) + 2).toNat))) (S1 := S1_) rfl rfl (lw_n (by omega) (by omega)) ?_
  refine sm_T_go 3 (c1 := (1784, [some (.inr (.inr (some (302, 0)))), some (.inr (.inr (some (12, 0)))), some (.inr (.inr (some (13, 0)))), some (.inr (.inr (some (295, 0)))), some (.inl (7 * (n_ : Int))), some (.inl v3_), y_], [.inl 3, .inl (7 * (n_ : Int)), .inr (.inr (some (302, 0))), .inl (sc_.2 (7 * (n_ : Int) + 2).toNat), .inl (sc_.2 (7 * (n_ : Int) + 1).toNat), .inr (.inr (some (13, 0)))], S1_)) rfl ?_
  refine sm_T_bin (w := 7 * (n_ : Int) + 3) rfl (bi_add (by omega) (by omega) (by omega)) ?_
  refine sm_T_nt (u := some (.inl (sc_.2 (7 * (n_ : Int) + 3).toNat))) (S1 := S1_) rfl rfl (lw_n (by omega) (by omega)) ?_
  refine sm_T_cal (d1 := 2) (Q1 := vq_477 (sc_.2 (7 * (n_ : Int) + 1).toNat) (sc_.2 (7 * (n_ : Int) + 2).toNat) (sc_.2 (7 * (n_ : Int) + 3).toNat) S1_) rfl rfl (by decide) (vc_477 (sc_.2 (7 * (n_ : Int) + 1).toNat) (sc_.2 (7 * (n_ : Int) + 2).toNat) (sc_.2 (7 * (n_ : Int) + 3).toNat) S1_ J2_.1 (by first | exact hs_.2 _ | decide | omega) (by first | exact hs_.2 _ | decide | omega) (by first | exact hs_.2 _ | decide | omega) J2_.2.2.1) (fun u_ S5_ p_ => ?_)
  obtain ⟨v7_, rfl, i_, f_, p_⟩ := p_
  have J6_ := jB_r J2_ i_ f_ (by first | exact p_ | exact p_.1 | exact p_.2 | exact p_.2.1 | exact p_.2.2)
  refine sm_T_go 2 (c1 := (2677, [some (.inr (.inr (some (302, 0)))), some (.inr (.inr (some (12, 0)))), some (.inr (.inr (some (13, 0)))), some (.inr (.inr (some (295, 0)))), some (.inl (7 * (n_ : Int))), some (.inl v3_), some (.inl v7_)], [], S5_)) rfl ?_
  exact lc_end ih_ hs_ hn_ hm_ h4_ (jB_up J6_)

