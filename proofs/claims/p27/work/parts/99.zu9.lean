/-! the law's cases; written by wip/ids/lawgen.py -/
set_option maxRecDepth 100000 in
set_option maxHeartbeats 4000000 in
theorem lc_45 {sc_ : Nat × (Nat → Int)} {m_ n_ : Nat} {x_ y_ : Option sm_V} {S_ : sm_S} (ih_ : lwC sc_ m_) (hs_ : scB sc_) (hn_ : 7 * n_ + 7 ≤ sc_.1) (hm_ : sc_.1 ≤ 7 * n_ + 7 * (m_ + 1)) (J_ : jB n_ S_) : sm_T (mt_P sc_) 40 588 (2285, Lw (7 * (n_ : Int)) x_ y_, [], S_) (lwQ (m_ + 1)) := by
  have b_ := hs_.1
  unfold Lw
  refine sm_T_go 4 (c1 := (2290, [some (.inr (.inr (some (302, 0)))), some (.inr (.inr (some (12, 0)))), some (.inr (.inr (some (13, 0)))), some (.inr (.inr (some (295, 0)))), some (.inl (7 * (n_ : Int))), x_, y_], [.inl 1, .inl (7 * (n_ : Int)), .inr (.inr (some (302, 0))), .inr (.inr (some (12, 0)))], S_)) rfl ?_
  refine sm_T_bin (w := 7 * (n_ : Int) + 1) rfl (bi_add (by omega) (by omega) (by omega)) ?_
  refine sm_T_nt (u := some (.inl (sc_.2 (7 * (n_ : Int) + 1).toNat))) (S1 := S_) rfl rfl (lw_n (by omega) (by omega)) ?_
  refine sm_T_go 3 (c1 := (2296, [some (.inr (.inr (some (302, 0)))), some (.inr (.inr (some (12, 0)))), some (.inr (.inr (some (13, 0)))), some (.inr (.inr (some (295, 0)))), some (.inl (7 * (n_ : Int))), x_, y_], [.inl 2, .inl (7 * (n_ : Int)), .inr (.inr (some (302, 0))), .inl (sc_.2 (7 * (n_ : Int) + 1).toNat), .inr (.inr (some (12, 0)))], S_)) rfl ?_
  refine sm_T_bin (w := 7 * (n_ : Int) + 2) rfl (bi_add (by omega) (by omega) (by omega)) ?_
  refine sm_T_nt (u := some (.inl (sc_.2 (7 * (n_ : Int) + 2).toNat))) (S1 := S_) rfl rfl (lw_n (by omega) (by omega)) ?_
  refine sm_T_go 3 (c1 := (2302, [some (.inr (.inr (some (302, 0)))), some (.inr (.inr (some (12, 0)))), some (.inr (.inr (some (13, 0)))), some (.inr (.inr (some (295, 0)))), some (.inl (7 * (n_ : Int))), x_, y_], [.inl 3, .inl (7 * (n_ : Int)), .inr (.inr (some (302, 0))), .inl (sc_.2 (7 * (n_ : Int) + 2).toNat), .inl (sc_.2 (7 * (n_ : Int) + 1).toNat), .inr (.inr (some (12, 0)))], S_)) rfl ?_
  refine sm_T_bin (w := 7 * (n_ : Int) + 3) rfl (bi_add (by omega) (by omega) (by omega)) ?_
  refine sm_T_nt (u := some (.inl (sc_.2 (7 * (n_ : Int) + 3).toNat))) (S1 := S_) rfl rfl (lw_n (by omega) (by omega)) ?_
  refine sm_T_go 3 (c1 := (2308, [some (.inr (.inr (some (302, 0)))), some (.inr (.inr (some (12, 0)))), some (.inr (.inr (some (13, 0)))), some (.inr (.inr (some (295, 0)))), some (.inl (7 * (n_ : Int))), x_, y_], [.inl 4, .inl (7 * (n_ : Int)), .inr (.inr (some (302, 0))), .inl (sc_.2 (7 * (n_ : Int) + 3).toNat), .inl (sc_.2 (7 * (n_ : Int) + 2).toNat), .inl (sc_.2 (7 * (n_ : Int) + 1).toNat), .inr (.inr (some (12, 0)))], S_)) rfl ?_
  refine sm_T_bin (w := 7 * (n_ : Int) + 4) rfl (bi_add (by omega) (by omega) (by omega)) ?_
  refine sm_T_nt (u := some (.inl (sc_.2 (7 * (n_ : Int) + 4).toNat))) (S1 := S_) rfl rfl (lw_n (by omega) (by omega)) ?_
  refine sm_T_go 1 (c1 := (2311, [some (.inr (.inr (some (302, 0)))), some (.inr (.inr (some (12, 0)))), some (.inr (.inr (some (13, 0)))), some (.inr (.inr (some (295, 0)))), some (.inl (7 * (n_ : Int))), x_, y_], [.inr (.inr (some (295, 0))), .inl (sc_.2 (7 * (n_ : Int) + 4).toNat), .inl (sc_.2 (7 * (n_ : Int) + 3).toNat), .inl (sc_.2 (7 * (n_ : Int) + 2).toNat), .inl (sc_.2 (7 * (n_ : Int) + 1).toNat), .inr (.inr (some (12, 0)))], S_)) rfl ?_
  refine sm_T_call rfl rfl ((lh_579 (sc_.2 (7 * (n_ : Int) + 1).toNat) (sc_.2 (7 * (n_ : Int) + 2).toNat) (sc_.2 (7 * (n_ : Int) + 3).toNat) (sc_.2 (7 * (n_ : Int) + 4).toNat) S_ J_.1 J_.2.1).deep (by decide)) (fun u_ S1_ k1_ q_ => ?_) (fun ex_ S1_ k1_ q_ => by (obtain ⟨v_, S2_, k2_, e_, -⟩ := q_; cases e_))
  obtain ⟨v3_, S2z_, k2z_, e_, h4_, q_⟩ := q_
  cases e_
  have J2_ := jB_c J_ q_
  refine sm_T_go 5 (c1 := (2321, [some (.inr (.inr (some (302, 0)))), some (.inr (.inr (some (12, 0)))), some (.inr (.inr (some (13, 0)))), some (.inr (.inr (some (295, 0)))), some (.inl (7 * (n_ : Int))), some (.inl v3_), y_], [.inl 1, .inl (7 * (n_ : Int)), .inr (.inr (some (302, 0))), .inr (.inr (some (13, 0)))], S1_)) rfl ?_
  refine sm_T_bin (w := 7 * (n_ : Int) + 1) rfl (bi_add (by omega) (by omega) (by omega)) ?_
  refine sm_T_nt (u := some (.inl (sc_.2 (7 * (n_ : Int) + 1).toNat))) (S1 := S1_) rfl rfl (lw_n (by omega) (by omega)) ?_
  refine sm_T_go 3 (c1 := (2327, [some (.inr (.inr (some (302, 0)))), some (.inr (.inr (some (12, 0)))), some (.inr (.inr (some (13, 0)))), some (.inr (.inr (some (295, 0)))), some (.inl (7 * (n_ : Int))), some (.inl v3_), y_], [.inl 2, .inl (7 * (n_ : Int)), .inr (.inr (some (302, 0))), .inl (sc_.2 (7 * (n_ : Int) + 1).toNat), .inr (.inr (some (13, 0)))], S1_)) rfl ?_
  refine sm_T_bin (w := 7 * (n_ : Int) + 2) rfl (bi_add (by omega) (by omega) (by omega)) ?_
  refine sm_T_nt (u := some (.inl (sc_.2 (7 * (n_ : Int) + 2).toNat))) (S1 := S1_) rfl rfl (lw_n (by omega) (by omega)) ?_
  refine sm_T_go 3 (c1 := (2333, [some (.inr (.inr (some (302, 0)))), some (.inr (.inr (some (12, 0)))), some (.inr (.inr (some (13, 0)))), some (.inr (.inr (some (295, 0)))), some (.inl (7 * (n_ : Int))), some (.inl v3_), y_], [.inl 3, .inl (7 * (n_ : Int)), .inr (.inr (some (302, 0))), .inl (sc_.2 (7 * (n_ : Int) + 2).toNat), .inl (sc_.2 (7 * (n_ : Int) + 1).toNat), .inr (.inr (some (13, 0)))], S1_)) rfl ?_
  refine sm_T_bin (w := 7 * (n_ : Int) + 3) rfl (bi_add (by omega) (by omega) (by omega)) ?_
  refine sm_T_nt (u := some (.inl (sc_.2 (7 * (n_ : Int) + 3).toNat))) (S1 := S1_) rfl rfl (lw_n (by omega) (by omega)) ?_
  refine sm_T_go 3 (c1 := (2339, [some (.inr (.inr (some (302, 0)))), some (.inr (.inr (some (12, 0)))), some (.inr (.inr (some (13, 0)))), some (.inr (.inr (some (295, 0)))), some (.inl (7 * (n_ : Int))), some (.inl v3_), y_], [.inl 4, .inl (7 * (n_ : Int)), .inr (.inr (some (302, 0))), .inl (sc_.2 (7 * (n_ : Int) + 3).toNat), .inl (sc_.2 (7 * (n_ : Int) + 2).toNat), .inl (sc_.2 (7 * (n_ : Int) + 1).toNat), .inr (.inr (some (13, 0)))], S1_)) rfl ?_
  refine sm_T_bin (w := 7 * (n_ : Int) + 4) rfl (bi_add (by omega) (by omega) (by omega)) ?_
  refine sm_T_nt (u := some (.inl (sc_.2 (7 * (n_ : Int) + 4).toNat))) (S1 := S1_) rfl rfl (lw_n (by omega) (by omega)) ?_
  refine sm_T_cal (d1 := 6) (Q1 := vq_513 (sc_.2 (7 * (n_ : Int) + 1).toNat) (sc_.2 (7 * (n_ : Int) + 2).toNat) (sc_.2 (7 * (n_ : Int) + 3).toNat) (sc_.2 (7 * (n_ : Int) + 4).toNat) S1_) rfl rfl (by decide) (vc_513 (sc_.2 (7 * (n_ : Int) + 1).toNat) (sc_.2 (7 * (n_ : Int) + 2).toNat) (sc_.2 (7 * (n_ : Int) + 3).toNat) (sc_.2 (7 * (n_ : Int) + 4).toNat) S1_ J2_.1 (by first | exact hs_.2 _ | decide | omega) (by first | exact hs_.2 _ | decide | omega) (by first | exact hs_.2 _ | decide | omega) (by first | exact hs_.2 _ | decide | omega) J2_.2.2.1) (fun u_ S5_ p_ => ?_)
  obtain ⟨v7_, rfl, i_, f_, p_⟩ := p_
  have J6_ := jB_r J2_ i_ f_ (by first | exact p_ | exact p_.1 | exact p_.2 | exact p_.2.1 | exact p_.2.2)
  refine sm_T_go 2 (c1 := (2670, [some (.inr (.inr (some (302, 0)))), some (.inr (.inr (some (12, 0)))), some (.inr (.inr (some (13, 0)))), some (.inr (.inr (some (295, 0)))), some (.inl (7 * (n_ : Int))), some (.inl v3_), some (.inl v7_)], [], S5_)) rfl ?_
  exact lc_end ih_ hs_ hn_ hm_ h4_ (jB_up J6_)
set_option maxRecDepth 100000 in
set_option maxHeartbeats 4000000 in
theorem lc_46 {sc_ : Nat × (Nat → Int)} {m_ n_ : Nat} {x_ y_ : Option sm_V} {S_ : sm_S} (ih_ : lwC sc_ m_) (hs_ : scB sc_) (hn_ : 7 * n_ + 7 ≤ sc_.1) (hm_ : sc_.1 ≤ 7 * n_ + 7 * (m_ + 1)) (J_ : jB n_ S_) : sm_T (mt_P sc_) 40 588 (2349, Lw (7 * (n_ : Int)) x_ y_, [], S_) (lwQ (m_ + 1)) := by
  have b_ := hs_.1
  unfold Lw
  refine sm_T_go 4 (c1 := (2354, [some (.inr (.inr (some (302, 0)))), some (.inr (.inr (some (12, 0)))), some (.inr (.inr (some (13, 0)))), some (.inr (.inr (some (295, 0)))), some (.inl (7 * (n_ : Int))), x_, y_], [.inl 1, .inl (7 * (n_ : Int)), .inr (.inr (some (302, 0))), .inr (.inr (some (12, 0)))], S_)) rfl ?_
  refine sm_T_bin (w := 7 * (n_ : Int) + 1) rfl (bi_add (by omega) (by omega) (by omega)) ?_
  refine sm_T_nt (u := some (.inl (sc_.2 (7 * (n_ : Int) + 1).toNat))) (S1 := S_) rfl rfl (lw_n (by omega) (by omega)) ?_
  refine sm_T_go 3 (c1 := (2360, [some (.inr (.inr (some (302, 0)))), some (.inr (.inr (some (12, 0)))), some (.inr (.inr (some (13, 0)))), some (.inr (.inr (some (295, 0)))), some (.inl (7 * (n_ : Int))), x_, y_], [.inl 2, .inl (7 * (n_ : Int)), .inr (.inr (some (302, 0))), .inl (sc_.2 (7 * (n_ : Int) + 1).toNat), .inr (.inr (some (12, 0)))], S_)) rfl ?_
  refine sm_T_bin (w := 7 * (n_ : Int) + 2) rfl (bi_add (by omega) (by omega) (by omega)) ?_
  refine sm_T_nt (u := some (.inl (sc_.2 (7 * (n_ : Int) + 2).toNat))) (S1 := S_) rfl rfl (lw_n (by omega) (by omega)) ?_
  refine sm_T_go 1 (c1 := (2363, [some (.inr (.inr (some (302, 0)))), some (.inr (.inr (some (12, 0)))), some (.inr (.inr (some (13, 0)))), some (.inr (.inr (some (295, 0)))), some (.inl (7 * (n_ : Int))), x_, y_], [.inr (.inr (some (295, 0))), .inl (sc_.2 (7 * (n_ : Int) + 2).toNat), .inl (sc_.2 (7 * (n_ : Int) + 1).toNat), .inr (.inr (some (12, 0)))], S_)) rfl ?_
  refine sm_T_call rfl rfl ((lh_580p (sc_.2 (7 * (n_ : Int) + 1).toNat) (sc_.2 (7 * (n_ : Int) + 2).toNat) S_ J_.1 J_.2.1 J_.2.2.2.2.2.1.2.2.1.2).deep (by decide)) (fun u_ S1_ k1_ q_ => ?_) (fun ex_ S1_ k1_ q_ => by (obtain ⟨v_, S2_, k2_, e_, -⟩ := q_; cases e_))
  obtain ⟨v3_, S2z_, k2z_, e_, h4_, q_, T_⟩ := q_
  cases e_
  have J2_ := jB_p J_ q_ T_
  refine sm_T_go 5 (c1 := (2373, [some (.inr (.inr (some (302, 0)))), some (.inr (.inr (some (12, 0)))), some (.inr (.inr (some (13, 0)))), some (.inr (.inr (some (295, 0)))), some (.inl (7 * (n_ : Int))), some (.inl v3_), y_], [.inl 1, .inl (7 * (n_ : Int)), .inr (.inr (some (302, 0))), .inr (.inr (some (13, 0)))], S1_)) rfl ?_
  refine sm_T_bin (w := 7 * (n_ : Int) + 1) rfl (bi_add (by omega) (by omega) (by omega)) ?_
  refine sm_T_nt (u := some (.inl (sc_.2 (7 * (n_ : Int) + 1).toNat))) (S1 := S1_) rfl rfl (lw_n (by omega) (by omega)) ?_
  refine sm_T_go 3 (c1 := (2379, [some (.inr (.inr (some (302, 0)))), some (.inr (.inr (some (12, 0)))), some (.inr (.inr (some (13, 0)))), some (.inr (.inr (some (295, 0)))), some (.inl (7 * (n_ : Int))), some (.inl v3_), y_], [.inl 2, .inl (7 * (n_ : Int)), .inr (.inr (some (302, 0))), .inl (sc_.2 (7 * (n_ : Int) + 1).toNat), .inr (.inr (some (13, 0)))], S1_)) rfl ?_
  refine sm_T_bin (w := 7 * (n_ : Int) + 2) rfl (bi_add (by omega) (by omega) (by omega)) ?_
  refine sm_T_nt (u := some (.inl (sc_.2 (7 * (n_ : Int) + 2).toNat))) (S1 := S1_) rfl rfl (lw_n (by omega) (by omega)) ?_
  refine sm_T_cal (d1 := 5) (Q1 := vq_522 (sc_.2 (7 * (n_ : Int) + 1).toNat) (sc_.2 (7 * (n_ : Int) + 2).toNat) S1_) rfl rfl (by decide) (vc_522 (sc_.2 (7 * (n_ : Int) + 1).toNat) (sc_.2 (7 * (n_ : Int) + 2).toNat) S1_ J2_.1 (by first | exact hs_.2 _ | decide | omega) (by first | exact hs_.2 _ | decide | omega) J2_.2.2.1) (fun u_ S5_ p_ => ?_)
  obtain ⟨v7_, rfl, i_, f_, p_⟩ := p_
  have J6_ := jB_r J2_ i_ f_ (by first | exact p_ | exact p_.1 | exact p_.2 | exact p_.2.1 | exact p_.2.2)
  refine sm_T_go 2 (c1 := (2670, [some (.inr (.inr (some (302, 0)))), some (.inr (.inr (some (12, 0)))), some (.inr (.inr (some (13, 0)))), some (.inr (.inr (some (295, 0)))), some (.inl (7 * (n_ : Int))), some (.inl v3_), some (.inl v7_)], [], S5_)) rfl ?_
  exact lc_end ih_ hs_ hn_ hm_ h4_ (jB_up J6_)
set_option maxRecDepth 100000 in
set_option maxHeartbeats 4000000 in
theorem lc_47 {sc_ : Nat × (Nat → Int)} {m_ n_ : Nat} {x_ y_ : Option sm_V} {S_ : sm_S} (ih_ : lwC sc_ m_) (hs_ : scB sc_) (hn_ : 7 * n_ + 7 ≤ sc_.1) (hm_ : sc_.1 ≤ 7 * n_ + 7 * (m_ + 1)) (J_ : jB n_ S_) : sm_T (mt_P sc_) 40 588 (2389, Lw (7 * (n_ : Int)) x_ y_, [], S_) (lwQ (m_ + 1)) := by
  have b_ := hs_.1
  unfold Lw
  refine sm_T_go 4 (c1 := (2394, [some (.inr (.inr (some (302, 0)))), some (.inr (.inr (some (12, 0)))), some (.inr (.inr (some (13, 0)))), some (.inr (.inr (some (295, 0)))), some (.inl (7 * (n_ : Int))), x_, y_], [.inl 1, .inl (7 * (n_ : Int)), .inr (.inr (some (302, 0))), .inr (.inr (some (12, 0)))], S_)) rfl ?_
  refine sm_T_bin (w := 7 * (n_ : Int) + 1) rfl (bi_add (by omega) (by omega) (by omega)) ?_
  refine sm_T_nt (u := some (.inl (sc_.2 (7 * (n_ : Int) + 1).toNat))) (S1 := S_) rfl rfl (lw_n (by omega) (by omega)) ?_
  refine sm_T_go 3 (c1 := (2400, [some (.inr (.inr (some (302, 0)))), some (.inr (.inr (some (12, 0)))), some (.inr (.inr (some (13, 0)))), some (.inr (.inr (some (295, 0)))), some (.inl (7 * (n_ : Int))), x_, y_], [.inl 2, .inl (7 * (n_ : Int)), .inr (.inr (some (302, 0))), .inl (sc_.2 (7 * (n_ : Int) + 1).toNat), .inr (.inr (some (12, 0)))], S_)) rfl ?_
  refine sm_T_bin (w := 7 * (n_ : Int) + 2) rfl (bi_add (by omega) (by omega) (by omega)) ?_
  refine sm_T_nt (u := some (.inl (sc_.2 (7 * (n_ : Int) + 2).toNat))) (S1 := S_) rfl rfl (lw_n (by omega) (by omega)) ?_
  refine sm_T_go 3 (c1 := (2406, [some (.inr (.inr (some (302, 0)))), some (.inr (.inr (some (12, 0)))), some (.inr (.inr (some (13, 0)))), some (.inr (.inr (some (295, 0)))), some (.inl (7 * (n_ : Int))), x_, y_], [.inl 3, .inl (7 * (n_ : Int)), .inr (.inr (some (302, 0))), .inl (sc_.2 (7 * (n_ : Int) + 2).toNat), .inl (sc_.2 (7 * (n_ : Int) + 1).toNat), .inr (.inr (some (12, 0)))], S_)) rfl ?_
  refine sm_T_bin (w := 7 * (n_ : Int) + 3) rfl (bi_add (by omega) (by omega) (by omega)) ?_
  refine sm_T_nt (u := some (.inl (sc_.2 (7 * (n_ : Int) + 3).toNat))) (S1 := S_) rfl rfl (lw_n (by omega) (by omega)) ?_
  refine sm_T_go 1 (c1 := (2409, [some (.inr (.inr (some (302, 0)))), some (.inr (.inr (some (12, 0)))), some (.inr (.inr (some (13, 0)))), some (.inr (.inr (some (295, 0)))), some (.inl (7 * (n_ : Int))), x_, y_], [.inr (.inr (some (295, 0))), .inl (sc_.2 (7 * (n_ : Int) + 3).toNat), .inl (sc_.2 (7 * (n_ : Int) + 2).toNat), .inl (sc_.2 (7 * (n_ : Int) + 1).toNat), .inr (.inr (some (12, 0)))], S_)) rfl ?_
  refine sm_T_call rfl rfl ((lh_581p (sc_.2 (7 * (n_ : Int) + 1).toNat) (sc_.2 (7 * (n_ : Int) + 2).toNat) (sc_.2 (7 * (n_ : Int) + 3).toNat) S_ J_.1 J_.2.1 J_.2.2.2.2.2.1.2.2.1.2).deep (by decide)) (fun u_ S1_ k1_ q_ => ?_) (fun ex_ S1_ k1_ q_ => by (obtain ⟨v_, S2_, k2_, e_, -⟩ := q_; cases e_))
  obtain ⟨v3_, S2z_, k2z_, e_, h4_, q_, T_⟩ := q_
  cases e_
  have J2_ := jB_p J_ q_ T_
  refine sm_T_go 5 (c1 := (2419, [some (.inr (.inr (some (302, 0)))), some (.inr (.inr (some (12, 0)))), some (.inr (.inr (some (13, 0)))), some (.inr (.inr (some (295, 0)))), some (.inl (7 * (n_ : Int))), some (.inl v3_), y_], [.inl 1, .inl (7 * (n_ : Int)), .inr (.inr (some (302, 0))), .inr (.inr (some (13, 0)))], S1_)) rfl ?_
  refine sm_T_bin (w := 7 * (n_ : Int) + 1) rfl (bi_add (by omega) (by omega) (by omega)) ?_
  refine sm_T_nt (u := some (.inl (sc_.2 (7 * (n_ : Int) + 1).toNat))) (S1 := S1_) rfl rfl (lw_n (by omega) (by omega)) ?_
  refine sm_T_go 3 (c1 := (2425, [some (.inr (.inr (some (302, 0)))), some (.inr (.inr (some (12, 0)))), some (.inr (.inr (some (13, 0)))), some (.inr (.inr (some (295, 0)))), some (.inl (7 * (n_ : Int))), some (.inl v3_), y_], [.inl 2, .inl (7 * (n_ : Int)), .inr (.inr (some (302, 0))), .inl (sc_.2 (7 * (n_ : Int) + 1).toNat), .inr (.inr (some (13, 0)))], S1_)) rfl ?_
  refine sm_T_bin (w := 7 * (n_ : Int) + 2) rfl (bi_add (by omega) (by omega) (by omega)) ?_
  refine sm_T_nt (u := some (.inl (sc_.2 (7 * (n_ : Int) + 2).toNat))) (S1 := S1_) rfl rfl (lw_n (by omega) (by omega)) ?_
  refine sm_T_go 3 (c1 := (2431, [some (.inr (.inr (some (302, 0)))), some (.inr (.inr (some (12, 0)))), some (.inr (.inr (some (13, 0)))), some (.inr (.inr (some (295, 0)))), some (.inl (7 * (n_ : Int))), some (.inl v3_), y_], [.inl 3, .inl (7 * (n_ : Int)), .inr (.inr (some (302, 0))), .inl (sc_.2 (7 * (n_ : Int) + 2).toNat), .inl (sc_.2 (7 * (n_ : Int) + 1).toNat), .inr (.inr (some (13, 0)))], S1_)) rfl ?_
  refine sm_T_bin (w := 7 * (n_ : Int) + 3) rfl (bi_add (by omega) (by omega) (by omega)) ?_
  refine sm_T_nt (u := some (.inl (sc_.2 (7 * (n_ : Int) + 3).toNat))) (S1 := S1_) rfl rfl (lw_n (by omega) (by omega)) ?_
  refine sm_T_cal (d1 := 3) (Q1 := vq_523 (sc_.2 (7 * (n_ : Int) + 1).toNat) (sc_.2 (7 * (n_ : Int) + 2).toNat) (sc_.2 (7 * (n_ : Int) + 3).toNat) S1_) rfl rfl (by decide) (vc_523 (sc_.2 (7 * (n_ : Int) + 1).toNat) (sc_.2 (7 * (n_ : Int) + 2).toNat) (sc_.2 (7 * (n_ : Int) + 3).toNat) S1_ J2_.1 (by first | exact hs_.2 _ | decide | omega) (by first | exact hs_.2 _ | decide | omega) (by first | exact hs_.2 _ | decide | omega) J2_.2.2.1) (fun u_ S5_ p_ => ?_)
  obtain ⟨v7_, rfl, i_, f_, p_⟩ := p_
  have J6_ := jB_r J2_ i_ f_ (by first | exact p_ | exact p_.1 | exact p_.2 | exact p_.2.1 | exact p_.2.2)
  refine sm_T_go 2 (c1 := (2670, [some (.inr (.inr (some (302, 0)))), some (.inr (.inr (some (12, 0)))), some (.inr (.inr (some (13, 0)))), some (.inr (.inr (some (295, 0)))), some (.inl (7 * (n_ : Int))), some (.inl v3_), some (.inl v7_)], [], S5_)) rfl ?_
  exact lc_end ih_ hs_ hn_ hm_ h4_ (jB_up J6_)
set_option maxRecDepth 100000 in
set_option maxHeartbeats 4000000 in
theorem lc_48 {sc_ : Nat × (Nat → Int)} {m_ n_ : Nat} {x_ y_ : Option sm_V} {S_ : sm_S} (ih_ : lwC sc_ m_) (hs_ : scB sc_) (hn_ : 7 * n_ + 7 ≤ sc_.1) (hm_ : sc_.1 ≤ 7 * n_ + 7 * (m_ + 1)) (J_ : jB n_ S_) : sm_T (mt_P sc_) 40 588 (2441, Lw (7 * (n_ : Int)) x_ y_, [], S_) (lwQ (m_ + 1)) := by
  have b_ := hs_.1
  unfold Lw
  refine sm_T_go 4 (c1 := (2446, [some (.inr (.inr (some (302, 0)))), some (.inr (.inr (some (12, 0)))), some (.inr (.inr (some (13, 0)))), some (.inr (.inr (some (295, 0)))), some (.inl (7 * (n_ : Int))), x_, y_], [.inl 1, .inl (7 * (n_ : Int)), .inr (.inr (some (302, 0))), .inr (.inr (some (12, 0)))], S_)) rfl ?_
  refine sm_T_bin (w := 7 * (n_ : Int) + 1) rfl (bi_add (by omega) (by omega) (by omega)) ?_
  refine sm_T_nt (u := some (.inl (sc_.2 (7 * (n_ : Int) + 1).toNat))) (S1 := S_) rfl rfl (lw_n (by omega) (by omega)) ?_
  refine sm_T_go 1 (c1 := (2449, [some (.inr (.inr (some (302, 0)))), some (.inr (.inr (some (12, 0)))), some (.inr (.inr (some (13, 0)))), some (.inr (.inr (some (295, 0)))), some (.inl (7 * (n_ : Int))), x_, y_], [.inr (.inr (some (295, 0))), .inl (sc_.2 (7 * (n_ : Int) + 1).toNat), .inr (.inr (some (12, 0)))], S_)) rfl ?_
  refine sm_T_call rfl rfl ((lh_582p (sc_.2 (7 * (n_ : Int) + 1).toNat) S_ J_.1 J_.2.1 J_.2.2.2.2.2.1.2.2.1.2).deep (by decide)) (fun u_ S1_ k1_ q_ => ?_) (fun ex_ S1_ k1_ q_ => by (obtain ⟨v_, S2_, k2_, e_, -⟩ := q_; cases e_))
  obtain ⟨v3_, S2z_, k2z_, e_, h4_, q_, T_⟩ := q_
  cases e_
  have J2_ := jB_p J_ q_ T_
  refine sm_T_go 5 (c1 := (2459, [some (.inr (.inr (some (302, 0)))), some (.inr (.inr (some (12, 0)))), some (.inr (.inr (some (13, 0)))), some (.inr (.inr (some (295, 0)))), some (.inl (7 * (n_ : Int))), some (.inl v3_), y_], [.inl 1, .inl (7 * (n_ : Int)), .inr (.inr (some (302, 0))), .inr (.inr (some (13, 0)))], S1_)) rfl ?_
  refine sm_T_bin (w := 7 * (n_ : Int) + 1) rfl (bi_add (by omega) (by omega) (by omega)) ?_
  refine sm_T_nt (u := some (.inl (sc_.2 (7 * (n_ : Int) + 1).toNat))) (S1 := S1_) rfl rfl (lw_n (by omega) (by omega)) ?_
  refine sm_T_cal (d1 := 5) (Q1 := vq_528 (sc_.2 (7 * (n_ : Int) + 1).toNat) S1_) rfl rfl (by decide) (vc_528 (sc_.2 (7 * (n_ : Int) + 1).toNat) S1_ J2_.1 (by first | exact hs_.2 _ | decide | omega) J2_.2.2.1) (fun u_ S5_ p_ => ?_)
  obtain ⟨v7_, rfl, i_, f_, p_⟩ := p_
  have J6_ := jB_r J2_ i_ f_ (by first | exact p_ | exact p_.1 | exact p_.2 | exact p_.2.1 | exact p_.2.2)
  refine sm_T_go 2 (c1 := (2670, [some (.inr (.inr (some (302, 0)))), some (.inr (.inr (some (12, 0)))), some (.inr (.inr (some (13, 0)))), some (.inr (.inr (some (295, 0)))), some (.inl (7 * (n_ : Int))), some (.inl v3_), some (.inl v7_)], [], S5_)) rfl ?_
  exact lc_end ih_ hs_ hn_ hm_ h4_ (jB_up J6_)
set_option maxRecDepth 100000 in
set_option maxHeartbeats 4000000 in
theorem lc_49 {sc_ : Nat × (Nat → Int)} {m_ n_ : Nat} {x_ y_ : Option sm_V} {S_ : sm_S} (ih_ : lwC sc_ m_) (hs_ : scB sc_) (hn_ : 7 * n_ + 7 ≤ sc_.1) (hm_ : sc_.1 ≤ 7 * n_ + 7 * (m_ + 1)) (J_ : jB n_ S_) : sm_T (mt_P sc_) 40 588 (2469, Lw (7 * (n_ : Int)) x_ y_, [], S_) (lwQ (m_ + 1)) := by
  have b_ := hs_.1
  unfold Lw
  refine sm_T_go 4 (c1 := (2474, [some (.inr (.inr (some (302, 0)))), some (.inr (.inr (some (12, 0)))), some (.inr (.inr (some (13, 0)))), some (.inr (.inr (some (295, 0)))), some (.inl (7 * (n_ : Int))), x_, y_], [.inl 1, .inl (7 * (n_ : Int)), .inr (.inr (some (302, 0))), .inr (.inr (some (12, 0)))], S_)) rfl ?_
  refine sm_T_bin (w := 7 * (n_ : Int) + 1) rfl (bi_add (by omega) (by omega) (by omega)) ?_
  refine sm_T_nt (u := some (.inl (sc_.2 (7 * (n_ : Int) + 1).toNat))) (S1 := S_) rfl rfl (lw_n (by omega) (by omega)) ?_
  refine sm_T_go 3 (c1 := (2480, [some (.inr (.inr (some (302, 0)))), some (.inr (.inr (some (12, 0)))), some (.inr (.inr (some (13, 0)))), some (.inr (.inr (some (295, 0)))), some (.inl (7 * (n_ : Int))), x_, y_], [.inl 2, .inl (7 * (n_ : Int)), .inr (.inr (some (302, 0))), .inl (sc_.2 (7 * (n_ : Int) + 1).toNat), .inr (.inr (some (12, 0)))], S_)) rfl ?_
  refine sm_T_bin (w := 7 * (n_ : Int) + 2) rfl (bi_add (by omega) (by omega) (by omega)) ?_
  refine sm_T_nt (u := some (.inl (sc_.2 (7 * (n_ : Int) + 2).toNat))) (S1 := S_) rfl rfl (lw_n (by omega) (by omega)) ?_
  refine sm_T_go 1 (c1 := (2483, [some (.inr (.inr (some (302, 0)))), some (.inr (.inr (some (12, 0)))), some (.inr (.inr (some (13, 0)))), some (.inr (.inr (some (295, 0)))), some (.inl (7 * (n_ : Int))), x_, y_], [.inr (.inr (some (295, 0))), .inl (sc_.2 (7 * (n_ : Int) + 2).toNat), .inl (sc_.2 (7 * (n_ : Int) + 1).toNat), .inr (.inr (some (12, 0)))], S_)) rfl ?_
  refine sm_T_call rfl rfl ((lh_583 (sc_.2 (7 * (n_ : Int) + 1).toNat) (sc_.2 (7 * (n_ : Int) + 2).toNat) S_ J_.1 J_.2.1).deep (by decide)) (fun u_ S1_ k1_ q_ => ?_) (fun ex_ S1_ k1_ q_ => by (obtain ⟨v_, S2_, k2_, e_, -⟩ := q_; cases e_))
  obtain ⟨v3_, S2z_, k2z_, e_, h4_, q_⟩ := q_
  cases e_
  have J2_ := jB_c J_ q_
  refine sm_T_go 5 (c1 := (2493, [some (.inr (.inr (some (302, 0)))), some (.inr (.inr (some (12, 0)))), some (.inr (.inr (some (13, 0)))), some (.inr (.inr (some (295, 0)))), some (.inl (7 * (n_ : Int))), some (.inl v3_), y_], [.inl 1, .inl (7 * (n_ : Int)), .inr (.inr (some (302, 0))), .inr (.inr (some (13, 0)))], S1_)) rfl ?_
  refine sm_T_bin (w := 7 * (n_ : Int) + 1) rfl (bi_add (by omega) (by omega) (by omega)) ?_
  refine sm_T_nt (u := some (.inl (sc_.2 (7 * (n_ : Int) + 1).toNat))) (S1 := S1_) rfl rfl (lw_n (by omega) (by omega)) ?_
  refine sm_T_go 3 (c1 := (2499, [some (.inr (.inr (some (302, 0)))), some (.inr (.inr (some (12, 0)))), some (.inr (.inr (some (13, 0)))), some (.inr (.inr (some (295, 0)))), some (.inl (7 * (n_ : Int))), some (.inl v3_), y_], [.inl 2, .inl (7 * (n_ : Int)), .inr (.inr (some (302, 0))), .inl (sc_.2 (7 * (n_ : Int) + 1).toNat), .inr (.inr (some (13, 0)))], S1_)) rfl ?_
  refine sm_T_bin (w := 7 * (n_ : Int) + 2) rfl (bi_add (by omega) (by omega) (by omega)) ?_
  refine sm_T_nt (u := some (.inl (sc_.2 (7 * (n_ : Int) + 2).toNat))) (S1 := S1_) rfl rfl (lw_n (by omega) (by omega)) ?_
  refine sm_T_cal (d1 := 2) (Q1 := vq_530 (sc_.2 (7 * (n_ : Int) + 1).toNat) (sc_.2 (7 * (n_ : Int) + 2).toNat) S1_) rfl rfl (by decide) (vc_530 (sc_.2 (7 * (n_ : Int) + 1).toNat) (sc_.2 (7 * (n_ : Int) + 2).toNat) S1_ J2_.1 (by first | exact hs_.2 _ | decide | omega) (by first | exact hs_.2 _ | decide | omega) J2_.2.2.1) (fun u_ S5_ p_ => ?_)
  obtain ⟨v7_, rfl, i_, f_, p_⟩ := p_
  have J6_ := jB_r J2_ i_ f_ (by first | exact p_ | exact p_.1 | exact p_.2 | exact p_.2.1 | exact p_.2.2)
  refine sm_T_go 2 (c1 := (2670, [some (.inr (.inr (some (302, 0)))), some (.inr (.inr (some (12, 0)))), some (.inr (.inr (some (13, 0)))), some (.inr (.inr (some (295, 0)))), some (.inl (7 * (n_ : Int))), some (.inl v3_), some (.inl v7_)], [], S5_)) rfl ?_
  exact lc_end ih_ hs_ hn_ hm_ h4_ (jB_up J6_)
set_option maxRecDepth 100000 in
set_option maxHeartbeats 4000000 in
theorem lc_50 {sc_ : Nat × (Nat → Int)} {m_ n_ : Nat} {x_ y_ : Option sm_V} {S_ : sm_S} (ih_ : lwC sc_ m_) (hs_ : scB sc_) (hn_ : 7 * n_ + 7 ≤ sc_.1) (hm_ : sc_.1 ≤ 7 * n_ + 7 * (m_ + 1)) (J_ : jB n_ S_) : sm_T (mt_P sc_) 40 588 (2509, Lw (7 * (n_ : Int)) x_ y_, [], S_) (lwQ (m_ + 1)) := by
  have b_ := hs_.1
  unfold Lw
  refine sm_T_go 4 (c1 := (2514, [some (.inr (.inr (some (302, 0)))), some (.inr (.inr (some (12, 0)))), some (.inr (.inr (some (13, 0)))), some (.inr (.inr (some (295, 0)))), some (.inl (7 * (n_ : Int))), x_, y_], [.inl 1, .inl (7 * (n_ : Int)), .inr (.inr (some (302, 0))), .inr (.inr (some (12, 0)))], S_)) rfl ?_
  refine sm_T_bin (w := 7 * (n_ : Int) + 1) rfl (bi_add (by omega) (by omega) (by omega)) ?_
  refine sm_T_nt (u := some (.inl (sc_.2 (7 * (n_ : Int) + 1).toNat))) (S1 := S_) rfl rfl (lw_n (by omega) (by omega)) ?_
  refine sm_T_go 3 (c1 := (2520, [some (.inr (.inr (some (302, 0)))), some (.inr (.inr (some (12, 0)))), some (.inr (.inr (some (13, 0)))), some (.inr (.inr (some (295, 0)))), some (.inl (7 * (n_ : Int))), x_, y_], [.inl 2, .inl (7 * (n_ : Int)), .inr (.inr (some (302, 0))), .inl (sc_.2 (7 * (n_ : Int) + 1).toNat), .inr (.inr (some (12, 0)))], S_)) rfl ?_
  refine sm_T_bin (w := 7 * (n_ : Int) + 2) rfl (bi_add (by omega) (by omega) (by omega)) ?_
  refine sm_T_nt (u := some (.inl (sc_.2 (7 * (n_ : Int) + 2).toNat))) (S1 := S_) rfl rfl (lw_n (by omega) (by omega)) ?_
  refine sm_T_go 3 (c1 := (2526, [some (.inr (.inr (some (302, 0)))), some (.inr (.inr (some (12, 0)))), some (.inr (.inr (some (13, 0)))), some (.inr (.inr (some (295, 0)))), some (.inl (7 * (n_ : Int))), x_, y_], [.inl 3, .inl (7 * (n_ : Int)), .inr (.inr (some (302, 0))), .inl (sc_.2 (7 * (n_ : Int) + 2).toNat), .inl (sc_.2 (7 * (n_ : Int) + 1).toNat), .inr (.inr (some (12, 0)))], S_)) rfl ?_
  refine sm_T_bin (w := 7 * (n_ : Int) + 3) rfl (bi_add (by omega) (by omega) (by omega)) ?_
  refine sm_T_nt (u := some (.inl (sc_.2 (7 * (n_ : Int) + 3).toNat))) (S1 := S_) rfl rfl (lw_n (by omega) (by omega)) ?_
  refine sm_T_b0 (a := 0) (z := 7) rfl (fun c_ => ?_) (fun c_ => ?_)
  · refine sm_T_go 2 (c1 := (2537, [some (.inr (.inr (some (302, 0)))), some (.inr (.inr (some (12, 0)))), some (.inr (.inr (some (13, 0)))), some (.inr (.inr (some (295, 0)))), some (.inl (7 * (n_ : Int))), x_, y_], [.inr (.inr (some (295, 0))), .inl 0, .inl (sc_.2 (7 * (n_ : Int) + 2).toNat), .inl (sc_.2 (7 * (n_ : Int) + 1).toNat), .inr (.inr (some (12, 0)))], S_)) rfl ?_
    refine sm_T_call rfl rfl ((lh_584 (sc_.2 (7 * (n_ : Int) + 1).toNat) (sc_.2 (7 * (n_ : Int) + 2).toNat) 0 S_ J_.1 J_.2.1).deep (by decide)) (fun u_ S1_ k1_ q_ => ?_) (fun ex_ S1_ k1_ q_ => by (obtain ⟨v_, S2_, k2_, e_, -⟩ := q_; cases e_))
    obtain ⟨v3_, S2z_, k2z_, e_, h4_, q_⟩ := q_
    cases e_
    have J2_ := jB_c J_ q_
    refine sm_T_go 5 (c1 := (2547, [some (.inr (.inr (some (302, 0)))), some (.inr (.inr (some (12, 0)))), some (.inr (.inr (some (13, 0)))), some (.inr (.inr (some (295, 0)))), some (.inl (7 * (n_ : Int))), some (.inl v3_), y_], [.inl 1, .inl (7 * (n_ : Int)), .inr (.inr (some (302, 0))), .inr (.inr (some (13, 0)))], S1_)) rfl ?_
    refine sm_T_bin (w := 7 * (n_ : Int) + 1) rfl (bi_add (by omega) (by omega) (by omega)) ?_
    refine sm_T_nt (u := some (.inl (sc_.2 (7 * (n_ : Int) + 1).toNat))) (S1 := S1_) rfl rfl (lw_n (by omega) (by omega)) ?_
    refine sm_T_go 3 (c1 := (2553, [some (.inr (.inr (some (302, 0)))), some (.inr (.inr (some (12, 0)))), some (.inr (.inr (some (13, 0)))), some (.inr (.inr (some (295, 0)))), some (.inl (7 * (n_ : Int))), some (.inl v3_), y_], [.inl 2, .inl (7 * (n_ : Int)), .inr (.inr (some (302, 0))), .inl (sc_.2 (7 * (n_ : Int) + 1).toNat), .inr (.inr (some (13, 0)))], S1_)) rfl ?_
    refine sm_T_bin (w := 7 * (n_ : Int) + 2) rfl (bi_add (by omega) (by omega) (by omega)) ?_
    refine sm_T_nt (u := some (.inl (sc_.2 (7 * (n_ : Int) + 2).toNat))) (S1 := S1_) rfl rfl (lw_n (by omega) (by omega)) ?_
    refine sm_T_go 3 (c1 := (2559, [some (.inr (.inr (some (302, 0)))), some (.inr (.inr (some (12, 0)))), some (.inr (.inr (some (13, 0)))), some (.inr (.inr (some (295, 0)))), some (.inl (7 * (n_ : Int))), some (.inl v3_), y_], [.inl 3, .inl (7 * (n_ : Int)), .inr (.inr (some (302, 0))), .inl (sc_.2 (7 * (n_ : Int) + 2).toNat), .inl (sc_.2 (7 * (n_ : Int) + 1).toNat), .inr (.inr (some (13, 0)))], S1_)) rfl ?_
    refine sm_T_bin (w := 7 * (n_ : Int) + 3) rfl (bi_add (by omega) (by omega) (by omega)) ?_
    refine sm_T_nt (u := some (.inl (sc_.2 (7 * (n_ : Int) + 3).toNat))) (S1 := S1_) rfl rfl (lw_n (by omega) (by omega)) ?_
    refine sm_T_b0 (a := 0) (z := 7) rfl (fun c_ => ?_) (fun c_ => ?_)
    · refine sm_T_go 1 (c1 := (2569, [some (.inr (.inr (some (302, 0)))), some (.inr (.inr (some (12, 0)))), some (.inr (.inr (some (13, 0)))), some (.inr (.inr (some (295, 0)))), some (.inl (7 * (n_ : Int))), some (.inl v3_), y_], [.inl 0, .inl (sc_.2 (7 * (n_ : Int) + 2).toNat), .inl (sc_.2 (7 * (n_ : Int) + 1).toNat), .inr (.inr (some (13, 0)))], S1_)) rfl ?_
      refine sm_T_cal (d1 := 2) (Q1 := vq_531 (sc_.2 (7 * (n_ : Int) + 1).toNat) (sc_.2 (7 * (n_ : Int) + 2).toNat) 0 S1_) rfl rfl (by decide) (vc_531 (sc_.2 (7 * (n_ : Int) + 1).toNat) (sc_.2 (7 * (n_ : Int) + 2).toNat) 0 S1_ J2_.1 (by first | exact hs_.2 _ | decide | omega) (by first | exact hs_.2 _ | decide | omega) (by first | exact hs_.2 _ | decide | omega) J2_.2.2.1) (fun u_ S5_ p_ => ?_)
      obtain ⟨v7_, rfl, i_, f_, p_⟩ := p_
      have J6_ := jB_r J2_ i_ f_ (by first | exact p_ | exact p_.1 | exact p_.2 | exact p_.2.1 | exact p_.2.2)
      refine sm_T_go 2 (c1 := (2670, [some (.inr (.inr (some (302, 0)))), some (.inr (.inr (some (12, 0)))), some (.inr (.inr (some (13, 0)))), some (.inr (.inr (some (295, 0)))), some (.inl (7 * (n_ : Int))), some (.inl v3_), some (.inl v7_)], [], S5_)) rfl ?_
      exact lc_end ih_ hs_ hn_ hm_ h4_ (jB_up J6_)
    · refine sm_T_go 2 (c1 := (2569, [some (.inr (.inr (some (302, 0)))), some (.inr (.inr (some (12, 0)))), some (.inr (.inr (some (13, 0)))), some (.inr (.inr (some (295, 0)))), some (.inl (7 * (n_ : Int))), some (.inl v3_), y_], [.inl 1, .inl (sc_.2 (7 * (n_ : Int) + 2).toNat), .inl (sc_.2 (7 * (n_ : Int) + 1).toNat), .inr (.inr (some (13, 0)))], S1_)) rfl ?_
      refine sm_T_cal (d1 := 2) (Q1 := vq_531 (sc_.2 (7 * (n_ : Int) + 1).toNat) (sc_.2 (7 * (n_ : Int) + 2).toNat) 1 S1_) rfl rfl (by decide) (vc_531 (sc_.2 (7 * (n_ : Int) + 1).toNat) (sc_.2 (7 * (n_ : Int) + 2).toNat) 1 S1_ J2_.1 (by first | exact hs_.2 _ | decide | omega) (by first | exact hs_.2 _ | decide | omega) (by first | exact hs_.2 _ | decide | omega) J2_.2.2.1) (fun u_ S8_ p_ => ?_)
      obtain ⟨v10_, rfl, i_, f_, p_⟩ := p_
      have J9_ := jB_r J2_ i_ f_ (by first | exact p_ | exact p_.1 | exact p_.2 | exact p_.2.1 | exact p_.2.2)
      refine sm_T_go 2 (c1 := (2670, [some (.inr (.inr (some (302, 0)))), some (.inr (.inr (some (12, 0)))), some (.inr (.inr (some (13, 0)))), some (.inr (.inr (some (295, 0)))), some (.inl (7 * (n_ : Int))), some (.inl v3_), some (.inl v10_)], [], S8_)) rfl ?_
      exact lc_end ih_ hs_ hn_ hm_ h4_ (jB_up J9_)
  · refine sm_T_go 3 (c1 := (2537, [some (.inr (.inr (some (302, 0)))), some (.inr (.inr (some (12, 0)))), some (.inr (.inr (some (13, 0)))), some (.inr (.inr (some (295, 0)))), some (.inl (7 * (n_ : Int))), x_, y_], [.inr (.inr (some (295, 0))), .inl 1, .inl (sc_.2 (7 * (n_ : Int) + 2).toNat), .inl (sc_.2 (7 * (n_ : Int) + 1).toNat), .inr (.inr (some (12, 0)))], S_)) rfl ?_
    refine sm_T_call rfl rfl ((lh_584 (sc_.2 (7 * (n_ : Int) + 1).toNat) (sc_.2 (7 * (n_ : Int) + 2).toNat) 1 S_ J_.1 J_.2.1).deep (by decide)) (fun u_ S11_ k1_ q_ => ?_) (fun ex_ S1_ k1_ q_ => by (obtain ⟨v_, S2_, k2_, e_, -⟩ := q_; cases e_))
    obtain ⟨v13_, S2z_, k2z_, e_, h14_, q_⟩ := q_
    cases e_
    have J12_ := jB_c J_ q_
    refine sm_T_go 5 (c1 := (2547, [some (.inr (.inr (some (302, 0)))), some (.inr (.inr (some (12, 0)))), some (.inr (.inr (some (13, 0)))), some (.inr (.inr (some (295, 0)))), some (.inl (7 * (n_ : Int))), some (.inl v13_), y_], [.inl 1, .inl (7 * (n_ : Int)), .inr (.inr (some (302, 0))), .inr (.inr (some (13, 0)))], S11_)) rfl ?_
    refine sm_T_bin (w := 7 * (n_ : Int) + 1) rfl (bi_add (by omega) (by omega) (by omega)) ?_
    refine sm_T_nt (u := some (.inl (sc_.2 (7 * (n_ : Int) + 1).toNat))) (S1 := S11_) rfl rfl (lw_n (by omega) (by omega)) ?_
    refine sm_T_go 3 (c1 := (2553, [some (.inr (.inr (some (302, 0)))), some (.inr (.inr (some (12, 0)))), some (.inr (.inr (some (13, 0)))), some (.inr (.inr (some (295, 0)))), some (.inl (7 * (n_ : Int))), some (.inl v13_), y_], [.inl 2, .inl (7 * (n_ : Int)), .inr (.inr (some (302, 0))), .inl (sc_.2 (7 * (n_ : Int) + 1).toNat), .inr (.inr (some (13, 0)))], S11_)) rfl ?_
    refine sm_T_bin (w := 7 * (n_ : Int) + 2) rfl (bi_add (by omega) (by omega) (by omega)) ?_
    refine sm_T_nt (u := some (.inl (sc_.2 (7 * (n_ : Int) + 2).toNat))) (S1 := S11_) rfl rfl (lw_n (by omega) (by omega)) ?_
    refine sm_T_go 3 (c1 := (2559, [some (.inr (.inr (some (302, 0)))), some (.inr (.inr (some (12, 0)))), some (.inr (.inr (some (13, 0)))), some (.inr (.inr (some (295, 0)))), some (.inl (7 * (n_ : Int))), some (.inl v13_), y_], [.inl 3, .inl (7 * (n_ : Int)), .inr (.inr (some (302, 0))), .inl (sc_.2 (7 * (n_ : Int) + 2).toNat), .inl (sc_.2 (7 * (n_ : Int) + 1).toNat), .inr (.inr (some (13, 0)))], S11_)) rfl ?_
    refine sm_T_bin (w := 7 * (n_ : Int) + 3) rfl (bi_add (by omega) (by omega) (by omega)) ?_
    refine sm_T_nt (u := some (.inl (sc_.2 (7 * (n_ : Int) + 3).toNat))) (S1 := S11_) rfl rfl (lw_n (by omega) (by omega)) ?_
    refine sm_T_b0 (a := 0) (z := 7) rfl (fun c_ => ?_) (fun c_ => ?_)
    · refine sm_T_go 1 (c1 := (2569, [some (.inr (.inr (some (302, 0)))), some (.inr (.inr (some (12, 0)))), some (.inr (.inr (some (13, 0)))), some (.inr (.inr (some (295, 0)))), some (.inl (7 * (n_ : Int))), some (.inl v13_), y_], [.inl 0, .inl (sc_.2 (7 * (n_ : Int) + 2).toNat), .inl (sc_.2 (7 * (n_ : Int) + 1).toNat), .inr (.inr (some (13, 0)))], S11_)) rfl ?_
      refine sm_T_cal (d1 := 2) (Q1 := vq_531 (sc_.2 (7 * (n_ : Int) + 1).toNat) (sc_.2 (7 * (n_ : Int) + 2).toNat) 0 S11_) rfl rfl (by decide) (vc_531 (sc_.2 (7 * (n_ : Int) + 1).toNat) (sc_.2 (7 * (n_ : Int) + 2).toNat) 0 S11_ J12_.1 (by first | exact hs_.2 _ | decide | omega) (by first | exact hs_.2 _ | decide | omega) (by first | exact hs_.2 _ | decide | omega) J12_.2.2.1) (fun u_ S15_ p_ => ?_)
      obtain ⟨v17_, rfl, i_, f_, p_⟩ := p_
      have J16_ := jB_r J12_ i_ f_ (by first | exact p_ | exact p_.1 | exact p_.2 | exact p_.2.1 | exact p_.2.2)
      refine sm_T_go 2 (c1 := (2670, [some (.inr (.inr (some (302, 0)))), some (.inr (.inr (some (12, 0)))), some (.inr (.inr (some (13, 0)))), some (.inr (.inr (some (295, 0)))), some (.inl (7 * (n_ : Int))), some (.inl v13_), some (.inl v17_)], [], S15_)) rfl ?_
      exact lc_end ih_ hs_ hn_ hm_ h14_ (jB_up J16_)
    · refine sm_T_go 2 (c1 := (2569, [some (.inr (.inr (some (302, 0)))), some (.inr (.inr (some (12, 0)))), some (.inr (.inr (some (13, 0)))), some (.inr (.inr (some (295, 0)))), some (.inl (7 * (n_ : Int))), some (.inl v13_), y_], [.inl 1, .inl (sc_.2 (7 * (n_ : Int) + 2).toNat), .inl (sc_.2 (7 * (n_ : Int) + 1).toNat), .inr (.inr (some (13, 0)))], S11_)) rfl ?_
      refine sm_T_cal (d1 := 2) (Q1 := vq_531 (sc_.2 (7 * (n_ : Int) + 1).toNat) (sc_.2 (7 * (n_ : Int) + 2).toNat) 1 S11_) rfl rfl (by decide) (vc_531 (sc_.2 (7 * (n_ : Int) + 1).toNat) (sc_.2 (7 * (n_ : Int) + 2).toNat) 1 S11_ J12_.1 (by first | exact hs_.2 _ | decide | omega) (by first | exact hs_.2 _ | decide | omega) (by first | exact hs_.2 _ | decide | omega) J12_.2.2.1) (fun u_ S18_ p_ => ?_)
      obtain ⟨v20_, rfl, i_, f_, p_⟩ := p_
      have J19_ := jB_r J12_ i_ f_ (by first | exact p_ | exact p_.1 | exact p_.2 | exact p_.2.1 | exact p_.2.2)
      refine sm_T_go 2 (c1 := (2670, [some (.inr (.inr (some (302, 0)))), some (.inr (.inr (some (12, 0)))), some (.inr (.inr (some (13, 0)))), some (.inr (.inr (some (295, 0)))), some (.inl (7 * (n_ : Int))), some (.inl v13_), some (.inl v20_)], [], S18_)) rfl ?_
      exact lc_end ih_ hs_ hn_ hm_ h14_ (jB_up J19_)
set_option maxRecDepth 100000 in
set_option maxHeartbeats 4000000 in
theorem lc_51 {sc_ : Nat × (Nat → Int)} {m_ n_ : Nat} {x_ y_ : Option sm_V} {S_ : sm_S} (ih_ : lwC sc_ m_) (hs_ : scB sc_) (hn_ : 7 * n_ + 7 ≤ sc_.1) (hm_ : sc_.1 ≤ 7 * n_ + 7 * (m_ + 1)) (J_ : jB n_ S_) : sm_T (mt_P sc_) 40 588 (2577, Lw (7 * (n_ : Int)) x_ y_, [], S_) (lwQ (m_ + 1)) := by
  have b_ := hs_.1
  unfold Lw
  refine sm_T_go 4 (c1 := (2582, [some (.inr (.inr (some (302, 0)))), some (.inr (.inr (some (12, 0)))), some (.inr (.inr (some (13, 0)))), some (.inr (.inr (some (295, 0)))), some (.inl (7 * (n_ : Int))), x_, y_], [.inl 1, .inl (7 * (n_ : Int)), .inr (.inr (some (302, 0))), .inr (.inr (some (12, 0)))], S_)) rfl ?_
  refine sm_T_bin (w := 7 * (n_ : Int) + 1) rfl (bi_add (by omega) (by omega) (by omega)) ?_
  refine sm_T_nt (u := some (.inl (sc_.2 (7 * (n_ : Int) + 1).toNat))) (S1 := S_) rfl rfl (lw_n (by omega) (by omega)) ?_
  refine sm_T_go 3 (c1 := (2588, [some (.inr (.inr (some (302, 0)))), some (.inr (.inr (some (12, 0)))), some (.inr (.inr (some (13, 0)))), some (.inr (.inr (some (295, 0)))), some (.inl (7 * (n_ : Int))), x_, y_], [.inl 2, .inl (7 * (n_ : Int)), .inr (.inr (some (302, 0))), .inl (sc_.2 (7 * (n_ : Int) + 1).toNat), .inr (.inr (some (12, 0)))], S_)) rfl ?_
  refine sm_T_bin (w := 7 * (n_ : Int) + 2) rfl (bi_add (by omega) (by omega) (by omega)) ?_
  refine sm_T_nt (u := some (.inl (sc_.2 (7 * (n_ : Int) + 2).toNat))) (S1 := S_) rfl rfl (lw_n (by omega) (by omega)) ?_
  refine sm_T_go 1 (c1 := (2591, [some (.inr (.inr (some (302, 0)))), some (.inr (.inr (some (12, 0)))), some (.inr (.inr (some (13, 0)))), some (.inr (.inr (some (295, 0)))), some (.inl (7 * (n_ : Int))), x_, y_], [.inr (.inr (some (295, 0))), .inl (sc_.2 (7 * (n_ : Int) + 2).toNat), .inl (sc_.2 (7 * (n_ : Int) + 1).toNat), .inr (.inr (some (12, 0)))], S_)) rfl ?_
  refine sm_T_call rfl rfl ((lh_585p (sc_.2 (7 * (n_ : Int) + 1).toNat) (sc_.2 (7 * (n_ : Int) + 2).toNat) S_ J_.1 J_.2.1 J_.2.2.2.2.2.1.2.2.1.2 (by first | exact hs_.2 _ | decide | omega)).deep (by decide)) (fun u_ S1_ k1_ q_ => ?_) (fun ex_ S1_ k1_ q_ => by (obtain ⟨v_, S2_, k2_, e_, -⟩ := q_; cases e_))
  obtain ⟨v3_, S2z_, k2z_, e_, h4_, q_, T_⟩ := q_
  cases e_
  have J2_ := jB_p J_ q_ T_
  refine sm_T_go 5 (c1 := (2601, [some (.inr (.inr (some (302, 0)))), some (.inr (.inr (some (12, 0)))), some (.inr (.inr (some (13, 0)))), some (.inr (.inr (some (295, 0)))), some (.inl (7 * (n_ : Int))), some (.inl v3_), y_], [.inl 1, .inl (7 * (n_ : Int)), .inr (.inr (some (302, 0))), .inr (.inr (some (13, 0)))], S1_)) rfl ?_
  refine sm_T_bin (w := 7 * (n_ : Int) + 1) rfl (bi_add (by omega) (by omega) (by omega)) ?_
  refine sm_T_nt (u := some (.inl (sc_.2 (7 * (n_ : Int) + 1).toNat))) (S1 := S1_) rfl rfl (lw_n (by omega) (by omega)) ?_
  refine sm_T_go 3 (c1 := (2607, [some (.inr (.inr (some (302, 0)))), some (.inr (.inr (some (12, 0)))), some (.inr (.inr (some (13, 0)))), some (.inr (.inr (some (295, 0)))), some (.inl (7 * (n_ : Int))), some (.inl v3_), y_], [.inl 2, .inl (7 * (n_ : Int)), .inr (.inr (some (302, 0))), .inl (sc_.2 (7 * (n_ : Int) + 1).toNat), .inr (.inr (some (13, 0)))], S1_)) rfl ?_
  refine sm_T_bin (w := 7 * (n_ : Int) + 2) rfl (bi_add (by omega) (by omega) (by omega)) ?_
  refine sm_T_nt (u := some (.inl (sc_.2 (7 * (n_ : Int) + 2).toNat))) (S1 := S1_) rfl rfl (lw_n (by omega) (by omega)) ?_
  refine sm_T_cal (d1 := 2) (Q1 := vq_533 (sc_.2 (7 * (n_ : Int) + 1).toNat) (sc_.2 (7 * (n_ : Int) + 2).toNat) S1_) rfl rfl (by decide) (vc_533 (sc_.2 (7 * (n_ : Int) + 1).toNat) (sc_.2 (7 * (n_ : Int) + 2).toNat) S1_ J2_.1 (by first | exact hs_.2 _ | decide | omega) (by first | exact hs_.2 _ | decide | omega) J2_.2.2.1) (fun u_ S5_ p_ => ?_)
  obtain ⟨v7_, rfl, i_, f_, p_⟩ := p_
  have J6_ := jB_r J2_ i_ f_ (by first | exact p_ | exact p_.1 | exact p_.2 | exact p_.2.1 | exact p_.2.2)
  refine sm_T_go 2 (c1 := (2670, [some (.inr (.inr (some (302, 0)))), some (.inr (.inr (some (12, 0)))), some (.inr (.inr (some (13, 0)))), some (.inr (.inr (some (295, 0)))), some (.inl (7 * (n_ : Int))), some (.inl v3_), some (.inl v7_)], [], S5_)) rfl ?_
  exact lc_end ih_ hs_ hn_ hm_ h4_ (jB_up J6_)
set_option maxRecDepth 100000 in
set_option maxHeartbeats 4000000 in
theorem lc_52 {sc_ : Nat × (Nat → Int)} {m_ n_ : Nat} {x_ y_ : Option sm_V} {S_ : sm_S} (ih_ : lwC sc_ m_) (hs_ : scB sc_) (hn_ : 7 * n_ + 7 ≤ sc_.1) (hm_ : sc_.1 ≤ 7 * n_ + 7 * (m_ + 1)) (J_ : jB n_ S_) : sm_T (mt_P sc_) 40 588 (2617, Lw (7 * (n_ : Int)) x_ y_, [], S_) (lwQ (m_ + 1)) := by
  have b_ := hs_.1
  unfold Lw
  refine sm_T_go 4 (c1 := (2622, [some (.inr (.inr (some (302, 0)))), some (.inr (.inr (some (12, 0)))), some (.inr (.inr (some (13, 0)))), some (.inr (.inr (some (295, 0)))), some (.inl (7 * (n_ : Int))), x_, y_], [.inl 1, .inl (7 * (n_ : Int)), .inr (.inr (some (302, 0))), .inr (.inr (some (12, 0)))], S_)) rfl ?_
  refine sm_T_bin (w := 7 * (n_ : Int) + 1) rfl (bi_add (by omega) (by omega) (by omega)) ?_
  refine sm_T_nt (u := some (.inl (sc_.2 (7 * (n_ : Int) + 1).toNat))) (S1 := S_) rfl rfl (lw_n (by omega) (by omega)) ?_
  refine sm_T_go 3 (c1 := (2628, [some (.inr (.inr (some (302, 0)))), some (.inr (.inr (some (12, 0)))), some (.inr (.inr (some (13, 0)))), some (.inr (.inr (some (295, 0)))), some (.inl (7 * (n_ : Int))), x_, y_], [.inl 2, .inl (7 * (n_ : Int)), .inr (.inr (some (302, 0))), .inl (sc_.2 (7 * (n_ : Int) + 1).toNat), .inr (.inr (some (12, 0)))], S_)) rfl ?_
  refine sm_T_bin (w := 7 * (n_ : Int) + 2) rfl (bi_add (by omega) (by omega) (by omega)) ?_
  refine sm_T_nt (u := some (.inl (sc_.2 (7 * (n_ : Int) + 2).toNat))) (S1 := S_) rfl rfl (lw_n (by omega) (by omega)) ?_
  refine sm_T_go 1 (c1 := (2631, [some (.inr (.inr (some (302, 0)))), some (.inr (.inr (some (12, 0)))), some (.inr (.inr (some (13, 0)))), some (.inr (.inr (some (295, 0)))), some (.inl (7 * (n_ : Int))), x_, y_], [.inr (.inr (some (295, 0))), .inl (sc_.2 (7 * (n_ : Int) + 2).toNat), .inl (sc_.2 (7 * (n_ : Int) + 1).toNat), .inr (.inr (some (12, 0)))], S_)) rfl ?_
  refine sm_T_call rfl rfl ((lh_586p (sc_.2 (7 * (n_ : Int) + 1).toNat) (sc_.2 (7 * (n_ : Int) + 2).toNat) S_ J_.1 J_.2.1 J_.2.2.2.2.2.1.2.2.1.2).deep (by decide)) (fun u_ S1_ k1_ q_ => ?_) (fun ex_ S1_ k1_ q_ => by (obtain ⟨v_, S2_, k2_, e_, -⟩ := q_; cases e_))
  obtain ⟨v3_, S2z_, k2z_, e_, h4_, q_, T_⟩ := q_
  cases e_
  have J2_ := jB_p J_ q_ T_
  refine sm_T_go 5 (c1 := (2641, [some (.inr (.inr (some (302, 0)))), some (.inr (.inr (some (12, 0)))), some (.inr (.inr (some (13, 0)))), some (.inr (.inr (some (295, 0)))), some (.inl (7 * (n_ : Int))), some (.inl v3_), y_], [.inl 1, .inl (7 * (n_ : Int)), .inr (.inr (some (302, 0))), .inr (.inr (some (13, 0)))], S1_)) rfl ?_
  refine sm_T_bin (w := 7 * (n_ : Int) + 1) rfl (bi_add (by omega) (by omega) (by omega)) ?_
  refine sm_T_nt (u := some (.inl (sc_.2 (7 * (n_ : Int) + 1).toNat))) (S1 := S1_) rfl rfl (lw_n (by omega) (by omega)) ?_
  refine sm_T_go 3 (c1 := (2647, [some (.inr (.inr (some (302, 0)))), some (.inr (.inr (some (12, 0)))), some (.inr (.inr (some (13, 0)))), some (.inr (.inr (some (295, 0)))), some (.inl (7 * (n_ : Int))), some (.inl v3_), y_], [.inl 2, .inl (7 * (n_ : Int)), .inr (.inr (some (302, 0))), .inl (sc_.2 (7 * (n_ : Int) + 1).toNat), .inr (.inr (some (13, 0)))], S1_)) rfl ?_
  refine sm_T_bin (w := 7 * (n_ : Int) + 2) rfl (bi_add (by omega) (by omega) (by omega)) ?_
  refine sm_T_nt (u := some (.inl (sc_.2 (7 * (n_ : Int) + 2).toNat))) (S1 := S1_) rfl rfl (lw_n (by omega) (by omega)) ?_
  refine sm_T_cal (d1 := 5) (Q1 := vq_534 (sc_.2 (7 * (n_ : Int) + 1).toNat) (sc_.2 (7 * (n_ : Int) + 2).toNat) S1_) rfl rfl (by decide) (vc_534 (sc_.2 (7 * (n_ : Int) + 1).toNat) (sc_.2 (7 * (n_ : Int) + 2).toNat) S1_ J2_.1 (by first | exact hs_.2 _ | decide | omega) (by first | exact hs_.2 _ | decide | omega) J2_.2.2.1) (fun u_ S5_ p_ => ?_)
  obtain ⟨v7_, rfl, i_, f_, p_⟩ := p_
  have J6_ := jB_r J2_ i_ f_ (by first | exact p_ | exact p_.1 | exact p_.2 | exact p_.2.1 | exact p_.2.2)
  refine sm_T_go 2 (c1 := (2670, [some (.inr (.inr (some (302, 0)))), some (.inr (.inr (some (12, 0)))), some (.inr (.inr (some (13, 0)))), some (.inr (.inr (some (295, 0)))), some (.inl (7 * (n_ : Int))), some (.inl v3_), some (.inl v7_)], [], S5_)) rfl ?_
  exact lc_end ih_ hs_ hn_ hm_ h4_ (jB_up J6_)
set_option maxRecDepth 100000 in
set_option maxHeartbeats 4000000 in
theorem lc_53 {sc_ : Nat × (Nat → Int)} {m_ n_ : Nat} {x_ y_ : Option sm_V} {S_ : sm_S} (ih_ : lwC sc_ m_) (hs_ : scB sc_) (hn_ : 7 * n_ + 7 ≤ sc_.1) (hm_ : sc_.1 ≤ 7 * n_ + 7 * (m_ + 1)) (J_ : jB n_ S_) : sm_T (mt_P sc_) 40 588 (2657, Lw (7 * (n_ : Int)) x_ y_, [], S_) (lwQ (m_ + 1)) := by
  have b_ := hs_.1
  unfold Lw
  refine sm_T_go 1 (c1 := (2658, [some (.inr (.inr (some (302, 0)))), some (.inr (.inr (some (12, 0)))), some (.inr (.inr (some (13, 0)))), some (.inr (.inr (some (295, 0)))), some (.inl (7 * (n_ : Int))), x_, y_], [.inr (.inr (some (12, 0)))], S_)) rfl ?_
  refine sm_T_cal (d1 := 0) (Q1 := vq_216 S_) rfl rfl (by decide) (vc_216 S_ J_.1) (fun u_ S1_ p_ => ?_)
  obtain ⟨v3_, rfl, i_, f_, p_⟩ := p_
  have J2_ := jB_r J_ i_ f_ (jR_fr J_.2.2.1 i_ f_)
  refine sm_T_go 2 (c1 := (2663, [some (.inr (.inr (some (302, 0)))), some (.inr (.inr (some (12, 0)))), some (.inr (.inr (some (13, 0)))), some (.inr (.inr (some (295, 0)))), some (.inl (7 * (n_ : Int))), x_, y_], [.inr (.inr (some (13, 0)))], S1_)) rfl ?_
  refine sm_T_cal (d1 := 0) (Q1 := vq_281 S1_) rfl rfl (by decide) (vc_281 S1_ J2_.1 J2_.2.2.1) (fun u_ S4_ p_ => ?_)
  obtain ⟨v6_, rfl, i_, f_, p_⟩ := p_
  have J5_ := jB_r J2_ i_ f_ (by first | exact p_ | exact p_.1 | exact p_.2 | exact p_.2.1 | exact p_.2.2)
  refine sm_T_go 2 (c1 := (2670, [some (.inr (.inr (some (302, 0)))), some (.inr (.inr (some (12, 0)))), some (.inr (.inr (some (13, 0)))), some (.inr (.inr (some (295, 0)))), some (.inl (7 * (n_ : Int))), x_, y_], [], S4_)) rfl ?_
  exact (lc_end (k_ := 0) ih_ hs_ hn_ hm_ (by decide) (jB_up J5_)).mono (fun r_ z_ => by rw [sm_add_0] at z_; exact z_)

