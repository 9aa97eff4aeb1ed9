/-! the law's cases; written by wip/ids/lawgen.py -/
set_option maxRecDepth 100000 in
set_option maxHeartbeats 4000000 in
theorem lc_16 {sc_ : Nat × (Nat → Int)} {m_ n_ : Nat} {x_ y_ : Option sm_V} {S_ : sm_S} (ih_ : lwC sc_ m_) (hs_ : scB sc_) (hn_ : 7 * n_ + 7 ≤ sc_.1) (hm_ : sc_.1 ≤ 7 * n_ + 7 * (m_ + 1)) (J_ : jB n_ S_) : sm_T (mt_P sc_) 40 588 (911, Lw (7 * (n_ : Int)) x_ y_, [], S_) (lwQ (m_ + 1)) := by
  have b_ := hs_.1
  unfold Lw
  refine sm_T_go 4 (c1 := (916, [some (.inr (.inr (some (302, 0)))), some (.inr (.inr (some (12, 0)))), some (.inr (.inr (some (13, 0)))), some (.inr (.inr (some (295, 0)))), some (.inl (7 * (n_ : Int))), x_, y_], [.inl 1, .inl (7 * (n_ : Int)), .inr (.inr (some (302, 0))), .inr (.inr (some (12, 0)))], S_)) rfl ?_
  refine sm_T_bin (w := 7 * (n_ : Int) + 1) rfl (bi_add (by omega) (by omega) (by omega)) ?_
  refine sm_T_nt (u := some (.inl (sc_.2 (7 * (n_ : Int) + 1).toNat))) (S1 := S_) rfl rfl (lw_n (by omega) (by omega)) ?_
  refine sm_T_go 3 (c1 := (922, [some (.inr (.inr (some (302, 0)))), some (.inr (.inr (some (12, 0)))), some (.inr (.inr (some (13, 0)))), some (.inr (.inr (some (295, 0)))), some (.inl (7 * (n_ : Int))), x_, y_], [.inl 2, .inl (7 * (n_ : Int)), .inr (.inr (some (302, 0))), .inl (sc_.2 (7 * (n_ : Int) + 1).toNat), .inr (.inr (some (12, 0)))], S_)) rfl ?_
  refine sm_T_bin (w := 7 * (n_ : Int) + 2) rfl (bi_add (by omega) (by omega) (by omega)) ?_
  refine sm_T_nt (u := some (.inl (sc_.2 (7 * (n_ : Int) + 2).toNat))) (S1 := S_) rfl rfl (lw_n (by omega) (by omega)) ?_
  refine sm_T_go 1 (c1 := (925, [some (.inr (.inr (some (302, 0)))), some (.inr (.inr (some (12, 0)))), some (.inr (.inr (some (13, 0)))), some (.inr (.inr (some (295, 0)))), some (.inl (7 * (n_ : Int))), x_, y_], [.inr (.inr (some (295, 0))), .inl (sc_.2 (7 * (n_ : Int) + 2).toNat), .inl (sc_.2 (7 * (n_ : Int) + 1).toNat), .inr (.inr (some (12, 0)))], S_)) rfl ?_
  refine sm_T_call rfl rfl ((lh_550 (sc_.2 (7 * (n_ : Int) + 1).toNat) (sc_.2 (7 * (n_ : Int) + 2).toNat) S_ J_.1 J_.2.1).deep (by decide)) (fun u_ S1_ k1_ q_ => ?_) (fun ex_ S1_ k1_ q_ => by (obtain ⟨v_, S2_, k2_, e_, -⟩ := q_; cases e_))
  obtain ⟨v3_, S2z_, k2z_, e_, h4_, q_⟩ := q_
  cases e_
  have J2_ := jB_c J_ q_
  refine sm_T_go 5 (c1 := (935, [some (.inr (.inr (some (302, 0)))), some (.inr (.inr (some (12, 0)))), some (.inr (.inr (some (13, 0)))), some (.inr (.inr (some (295, 0)))), some (.inl (7 * (n_ : Int))), some (.inl v3_), y_], [.inl 1, .inl (7 * (n_ : Int)), .inr (.inr (some (302, 0))), .inr (.inr (some (13, 0)))], S1_)) rfl ?_
  refine sm_T_bin (w := 7 * (n_ : Int) + 1) rfl (bi_add (by omega) (by omega) (by omega)) ?_
  refine sm_T_nt (u := some (.inl (sc_.2 (7 * (n_ : Int) + 1).toNat))) (S1 := S1_) rfl rfl (lw_n (by omega) (by omega)) ?_
  refine sm_T_go 3 (c1 := (941, [some (.inr (.inr (some (302, 0)))), some (.inr (.inr (some (12, 0)))), some (.inr (.inr (some (13, 0)))), some (.inr (.inr (some (295, 0)))), some (.inl (7 * (n_ : Int))), some (.inl v3_), y_], [.inl 2, .inl (7 * (n_ : Int)), .inr (.inr (some (302, 0))), .inl (sc_.2 (7 * (n_ : Int) + 1).toNat), .inr (.inr (some (13, 0)))], S1_)) rfl ?_
  refine sm_T_bin (w := 7 * (n_ : Int) + 2) rfl (bi_add (by omega) (by omega) (by omega)) ?_
  refine sm_T_nt (u := some (.inl (sc_.2 (7 * (n_ : Int) + 2).toNat))) (S1 := S1_) rfl rfl (lw_n (by omega) (by omega)) ?_
  refine sm_T_cal (d1 := 2) (Q1 := vq_390 (sc_.2 (7 * (n_ : Int) + 1).toNat) (sc_.2 (7 * (n_ : Int) + 2).toNat) S1_) rfl rfl (by decide) (vc_390 (sc_.2 (7 * (n_ : Int) + 1).toNat) (sc_.2 (7 * (n_ : Int) + 2).toNat) S1_ J2_.1 (by first | exact hs_.2 _ | decide | omega) (by first | exact hs_.2 _ | decide | omega) J2_.2.2.1) (fun u_ S5_ p_ => ?_)
  obtain ⟨v7_, rfl, i_, f_, p_⟩ := p_
  have J6_ := jB_r J2_ i_ f_ (by first | exact p_ | exact p_.1 | exact p_.2 | exact p_.2.1 | exact p_.2.2)
  refine sm_T_go 2 (c1 := (2670, [some (.inr (.inr (some (302, 0)))), some (.inr (.inr (some (12, 0)))), some (.inr (.inr (some (13, 0)))), some (.inr (.inr (some (295, 0)))), some (.inl (7 * (n_ : Int))), some (.inl v3_), some (.inl v7_)], [], S5_)) rfl ?_
  exact lc_end ih_ hs_ hn_ hm_ h4_ (jB_up J6_)
set_option maxRecDepth 100000 in
set_option maxHeartbeats 4000000 in
theorem lc_17 {sc_ : Nat × (Nat → Int)} {m_ n_ : Nat} {x_ y_ : Option sm_V} {S_ : sm_S} (ih_ : lwC sc_ m_) (hs_ : scB sc_) (hn_ : 7 * n_ + 7 ≤ sc_.1) (hm_ : sc_.1 ≤ 7 * n_ + 7 * (m_ + 1)) (J_ : jB n_ S_) : sm_T (mt_P sc_) 40 588 (951, Lw (7 * (n_ : Int)) x_ y_, [], S_) (lwQ (m_ + 1)) := by
  have b_ := hs_.1
  unfold Lw
  refine sm_T_go 4 (c1 := (956, [some (.inr (.inr (some (302, 0)))), some (.inr (.inr (some (12, 0)))), some (.inr (.inr (some (13, 0)))), some (.inr (.inr (some (295, 0)))), some (.inl (7 * (n_ : Int))), x_, y_], [.inl 1, .inl (7 * (n_ : Int)), .inr (.inr (some (302, 0))), .inr (.inr (some (12, 0)))], S_)) rfl ?_
  refine sm_T_bin (w := 7 * (n_ : Int) + 1) rfl (bi_add (by omega) (by omega) (by omega)) ?_
  refine sm_T_nt (u := some (.inl (sc_.2 (7 * (n_ : Int) + 1).toNat))) (S1 := S_) rfl rfl (lw_n (by omega) (by omega)) ?_
  refine sm_T_go 1 (c1 := (959, [some (.inr (.inr (some (302, 0)))), some (.inr (.inr (some (12, 0)))), some (.inr (.inr (some (13, 0)))), some (.inr (.inr (some (295, 0)))), some (.inl (7 * (n_ : Int))), x_, y_], [.inr (.inr (some (295, 0))), .inl (sc_.2 (7 * (n_ : Int) + 1).toNat), .inr (.inr (some (12, 0)))], S_)) rfl ?_
  refine sm_T_call rfl rfl ((lh_551 (sc_.2 (7 * (n_ : Int) + 1).toNat) S_ J_.1 J_.2.1).deep (by decide)) (fun u_ S1_ k1_ q_ => ?_) (fun ex_ S1_ k1_ q_ => by (obtain ⟨v_, S2_, k2_, e_, -⟩ := q_; cases e_))
  obtain ⟨v3_, S2z_, k2z_, e_, h4_, q_⟩ := q_
  cases e_
  have J2_ := jB_c J_ q_
  refine sm_T_go 5 (c1 := (969, [some (.inr (.inr (some (302, 0)))), some (.inr (.inr (some (12, 0)))), some (.inr (.inr (some (13, 0)))), some (.inr (.inr (some (295, 0)))), some (.inl (7 * (n_ : Int))), some (.inl v3_), y_], [.inl 1, .inl (7 * (n_ : Int)), .inr (.inr (some (302, 0))), .inr (.inr (some (13, 0)))], S1_)) rfl ?_
  refine sm_T_bin (w := 7 * (n_ : Int) + 1) rfl (bi_add (by omega) (by omega) (by omega)) ?_
  refine sm_T_nt (u := some (.inl (sc_.2 (7 * (n_ : Int) + 1).toNat))) (S1 := S1_) rfl rfl (lw_n (by omega) (by omega)) ?_
  refine sm_T_cal (d1 := 0) (Q1 := vq_391 (sc_.2 (7 * (n_ : Int) + 1).toNat) S1_) rfl rfl (by decide) (vc_391 (sc_.2 (7 * (n_ : Int) + 1).toNat) S1_ J2_.1 (by first | exact hs_.2 _ | decide | omega) J2_.2.2.1) (fun u_ S5_ p_ => ?_)
  obtain ⟨v7_, rfl, i_, f_, p_⟩ := p_
  have J6_ := jB_r J2_ i_ f_ (by first | exact p_ | exact p_.1 | exact p_.2 | exact p_.2.1 | exact p_.2.2)
  refine sm_T_go 2 (c1 := (2670, [some (.inr (.inr (some (302, 0)))), some (.inr (.inr (some (12, 0)))), some (.inr (.inr (some (13, 0)))), some (.inr (.inr (some (295, 0)))), some (.inl (7 * (n_ : Int))), some (.inl v3_), some (.inl v7_)], [], S5_)) rfl ?_
  exact lc_end ih_ hs_ hn_ hm_ h4_ (jB_up J6_)
set_option maxRecDepth 100000 in
set_option maxHeartbeats 4000000 in
theorem lc_18 {sc_ : Nat × (Nat → Int)} {m_ n_ : Nat} {x_ y_ : Option sm_V} {S_ : sm_S} (ih_ : lwC sc_ m_) (hs_ : scB sc_) (hn_ : 7 * n_ + 7 ≤ sc_.1) (hm_ : sc_.1 ≤ 7 * n_ + 7 * (m_ + 1)) (J_ : jB n_ S_) : sm_T (mt_P sc_) 40 588 (979, Lw (7 * (n_ : Int)) x_ y_, [], S_) (lwQ (m_ + 1)) := by
  have b_ := hs_.1
  unfold Lw
  refine sm_T_go 4 (c1 := (984, [some (.inr (.inr (some (302, 0)))), some (.inr (.inr (some (12, 0)))), some (.inr (.inr (some (13, 0)))), some (.inr (.inr (some (295, 0)))), some (.inl (7 * (n_ : Int))), x_, y_], [.inl 1, .inl (7 * (n_ : Int)), .inr (.inr (some (302, 0))), .inr (.inr (some (12, 0)))], S_)) rfl ?_
  refine sm_T_bin (w := 7 * (n_ : Int) + 1) rfl (bi_add (by omega) (by omega) (by omega)) ?_
  refine sm_T_nt (u := some (.inl (sc_.2 (7 * (n_ : Int) + 1).toNat))) (S1 := S_) rfl rfl (lw_n (by omega) (by omega)) ?_
  refine sm_T_go 3 (c1 := (990, [some (.inr (.inr (some (302, 0)))), some (.inr (.inr (some (12, 0)))), some (.inr (.inr (some (13, 0)))), some (.inr (.inr (some (295, 0)))), some (.inl (7 * (n_ : Int))), x_, y_], [.inl 2, .inl (7 * (n_ : Int)), .inr (.inr (some (302, 0))), .inl (sc_.2 (7 * (n_ : Int) + 1).toNat), .inr (.inr (some (12, 0)))], S_)) rfl ?_
  refine sm_T_bin (w := 7 * (n_ : Int) + 2) rfl (bi_add (by omega) (by omega) (by omega)) ?_
  refine sm_T_nt (u := some (.inl (sc_.2 (7 * (n_ : Int) + 2).toNat))) (S1 := S_) rfl rfl (lw_n (by omega) (by omega)) ?_
  refine sm_T_go 1 (c1 := (993, [some (.inr (.inr (some (302, 0)))), some (.inr (.inr (some (12, 0)))), some (.inr (.inr (some (13, 0)))), some (.inr (.inr (some (295, 0)))), some (.inl (7 * (n_ : Int))), x_, y_], [.inr (.inr (some (295, 0))), .inl (sc_.2 (7 * (n_ : Int) + 2).toNat), .inl (sc_.2 (7 * (n_ : Int) + 1).toNat), .inr (.inr (some (12, 0)))], S_)) rfl ?_
  refine sm_T_call rfl rfl ((lh_552l (sc_.2 (7 * (n_ : Int) + 1).toNat) (sc_.2 (7 * (n_ : Int) + 2).toNat) S_ J_.1 J_.2.1).deep (by decide)) (fun u_ S1_ k1_ q_ => ?_) (fun ex_ S1_ k1_ q_ => by (obtain ⟨v_, S2_, k2_, e_, -⟩ := q_; cases e_))
  obtain ⟨v3_, S2z_, k2z_, e_, h4_, q_, E_⟩ := q_
  cases e_
  have J2_ := jB_m J_ q_ E_
  refine sm_T_go 5 (c1 := (1003, [some (.inr (.inr (some (302, 0)))), some (.inr (.inr (some (12, 0)))), some (.inr (.inr (some (13, 0)))), some (.inr (.inr (some (295, 0)))), some (.inl (7 * (n_ : Int))), some (.inl v3_), y_], [.inl 1, .inl (7 * (n_ : Int)), .inr (.inr (some (302, 0))), .inr (.inr (some (13, 0)))], S1_)) rfl ?_
  refine sm_T_bin (w := 7 * (n_ : Int) + 1) rfl (bi_add (by omega) (by omega) (by omega)) ?_
  refine sm_T_nt (u := some (.inl (sc_.2 (7 * (n_ : Int) + 1).toNat))) (S1 := S1_) rfl rfl (lw_n (by omega) (by omega)) ?_
  refine sm_T_go 3 (c1 := (1009, [some (.inr (.inr (some (302, 0)))), some (.inr (.inr (some (12, 0)))), some (.inr (.inr (some (13, 0)))), some (.inr (.inr (some (295, 0)))), some (.inl (7 * (n_ : Int))), some (.inl v3_), y_], [.inl 2, .inl (7 * (n_ : Int)), .inr (.inr (some (302, 0))), .inl (sc_.2 (7 * (n_ : Int) + 1).toNat), .inr (.inr (some (13, 0)))], S1_)) rfl ?_
  refine sm_T_bin (w := 7 * (n_ : Int) + 2) rfl (bi_add (by omega) (by omega) (by omega)) ?_
  refine sm_T_nt (u := some (.inl (sc_.2 (7 * (n_ : Int) + 2).toNat))) (S1 := S1_) rfl rfl (lw_n (by omega) (by omega)) ?_
  refine sm_T_cal (d1 := 5) (Q1 := vq_419 (sc_.2 (7 * (n_ : Int) + 1).toNat) (sc_.2 (7 * (n_ : Int) + 2).toNat) (S1_.2.2.1 160 0 ((sc_.2 (7 * (n_ : Int) + 1).toNat)).toNat) (S1_.2.2.1 159 0 ((sc_.2 (7 * (n_ : Int) + 1).toNat)).toNat) S1_) rfl rfl (by decide) (vc_419 (sc_.2 (7 * (n_ : Int) + 1).toNat) (sc_.2 (7 * (n_ : Int) + 2).toNat) (S1_.2.2.1 160 0 ((sc_.2 (7 * (n_ : Int) + 1).toNat)).toNat) (S1_.2.2.1 159 0 ((sc_.2 (7 * (n_ : Int) + 1).toNat)).toNat) S1_ J2_.1 (by first | exact hs_.2 _ | decide | omega) (by first | exact hs_.2 _ | decide | omega) J2_.2.2.1 rfl rfl) (fun u_ S5_ p_ => ?_)
  obtain ⟨v7_, rfl, i_, f_, p_⟩ := p_
  have J6_ := jB_r J2_ i_ f_ (by first | exact p_ | exact p_.1 | exact p_.2 | exact p_.2.1 | exact p_.2.2)
  refine sm_T_go 2 (c1 := (2670, [some (.inr (.inr (some (302, 0)))), some (.inr (.inr (some (12, 0)))), some (.inr (.inr (some (13, 0)))), some (.inr (.inr (some (295, 0)))), some (.inl (7 * (n_ : Int))), some (.inl v3_), some (.inl v7_)], [], S5_)) rfl ?_
  exact lc_end ih_ hs_ hn_ hm_ h4_ (jB_up J6_)
set_option maxRecDepth 100000 in
set_option maxHeartbeats 4000000 in
theorem lc_19 {sc_ : Nat × (Nat → Int)} {m_ n_ : Nat} {x_ y_ : Option sm_V} {S_ : sm_S} (ih_ : lwC sc_ m_) (hs_ : scB sc_) (hn_ : 7 * n_ + 7 ≤ sc_.1) (hm_ : sc_.1 ≤ 7 * n_ + 7 * (m_ + 1)) (J_ : jB n_ S_) : sm_T (mt_P sc_) 40 588 (1019, Lw (7 * (n_ : Int)) x_ y_, [], S_) (lwQ (m_ + 1)) := by
  have b_ := hs_.1
  unfold Lw
  refine sm_T_go 4 (c1 := (1024, [some (.inr (.inr (some (302, 0)))), some (.inr (.inr (some (12, 0)))), some (.inr (.inr (some (13, 0)))), some (.inr (.inr (some (295, 0)))), some (.inl (7 * (n_ : Int))), x_, y_], [.inl 1, .inl (7 * (n_ : Int)), .inr (.inr (some (302, 0))), .inr (.inr (some (12, 0)))], S_)) rfl ?_
  refine sm_T_bin (w := 7 * (n_ : Int) + 1) rfl (bi_add (by omega) (by omega) (by omega)) ?_
  refine sm_T_nt (u := some (.inl (sc_.2 (7 * (n_ : Int) + 1).toNat))) (S1 := S_) rfl rfl (lw_n (by omega) (by omega)) ?_
  refine sm_T_go 3 (c1 := (1030, [some (.inr (.inr (some (302, 0)))), some (.inr (.inr (some (12, 0)))), some (.inr (.inr (some (13, 0)))), some (.inr (.inr (some (295, 0)))), some (.inl (7 * (n_ : Int))), x_, y_], [.inl 2, .inl (7 * (n_ : Int)), .inr (.inr (some (302, 0))), .inl (sc_.2 (7 * (n_ : Int) + 1).toNat), .inr (.inr (some (12, 0)))], S_)) rfl ?_
  refine sm_T_bin (w := 7 * (n_ : Int) + 2) rfl (bi_add (by omega) (by omega) (by omega)) ?_
  refine sm_T_nt (u := some (.inl (sc_.2 (7 * (n_ : Int) + 2).toNat))) (S1 := S_) rfl rfl (lw_n (by omega) (by omega)) ?_
  refine sm_T_go 1 (c1 := (1033, [some (.inr (.inr (some (302, 0)))), some (.inr (.inr (some (12, 0)))), some (.inr (.inr (some (13, 0)))), some (.inr (.inr (some (295, 0)))), some (.inl (7 * (n_ : Int))), x_, y_], [.inr (.inr (some (295, 0))), .inl (sc_.2 (7 * (n_ : Int) + 2).toNat), .inl (sc_.2 (7 * (n_ : Int) + 1).toNat), .inr (.inr (some (12, 0)))], S_)) rfl ?_
  refine sm_T_call rfl rfl ((lh_553 (sc_.2 (7 * (n_ : Int) + 1).toNat) (sc_.2 (7 * (n_ : Int) + 2).toNat) S_ J_.1 J_.2.1).deep (by decide)) (fun u_ S1_ k1_ q_ => ?_) (fun ex_ S1_ k1_ q_ => by (obtain ⟨v_, S2_, k2_, e_, -⟩ := q_; cases e_))
  obtain ⟨v3_, S2z_, k2z_, e_, h4_, q_⟩ := q_
  cases e_
  have J2_ := jB_c J_ q_
  refine sm_T_go 5 (c1 := (1043, [some (.inr (.inr (some (302, 0)))), some (.inr (.inr (some (12, 0)))), some (.inr (.inr (some (13, 0)))), some (.inr (.inr (some (295, 0)))), some (.inl (7 * (n_ : Int))), some (.inl v3_), y_], [.inl 1, .inl (7 * (n_ : Int)), .inr (.inr (some (302, 0))), .inr (.inr (some (13, 0)))], S1_)) rfl ?_
  refine sm_T_bin (w := 7 * (n_ : Int) + 1) rfl (bi_add (by omega) (by omega) (by omega)) ?_
  refine sm_T_nt (u := some (.inl (sc_.2 (7 * (n_ : Int) + 1).toNat))) (S1 := S1_) rfl rfl (lw_n (by omega) (by omega)) ?_
  refine sm_T_go 3 (c1 := (1049, [some (.inr (.inr (some (302, 0)))), some (.inr (.inr (some (12, 0)))), some (.inr (.inr (some (13, 0)))), some (.inr (.inr (some (295, 0)))), some (.inl (7 * (n_ : Int))), some (.inl v3_), y_], [.inl 2, .inl (7 * (n_ : Int)), .inr (.inr (some (302, 0))), .inl (sc_.2 (7 * (n_ : Int) + 1).toNat), .inr (.inr (some (13, 0)))], S1_)) rfl ?_
  refine sm_T_bin (w := 7 * (n_ : Int) + 2) rfl (bi_add (by omega) (by omega) (by omega)) ?_
  refine sm_T_nt (u := some (.inl (sc_.2 (7 * (n_ : Int) + 2).toNat))) (S1 := S1_) rfl rfl (lw_n (by omega) (by omega)) ?_
  refine sm_T_cal (d1 := 2) (Q1 := vq_425 (sc_.2 (7 * (n_ : Int) + 1).toNat) (sc_.2 (7 * (n_ : Int) + 2).toNat) S1_) rfl rfl (by decide) (vc_425 (sc_.2 (7 * (n_ : Int) + 1).toNat) (sc_.2 (7 * (n_ : Int) + 2).toNat) S1_ J2_.1 (by first | exact hs_.2 _ | decide | omega) (by first | exact hs_.2 _ | decide | omega) J2_.2.2.1) (fun u_ S5_ p_ => ?_)
  obtain ⟨v7_, rfl, i_, f_, p_⟩ := p_
  have J6_ := jB_r J2_ i_ f_ (by first | exact p_ | exact p_.1 | exact p_.2 | exact p_.2.1 | exact p_.2.2)
  refine sm_T_go 2 (c1 := (2670, [some (.inr (.inr (some (302, 0)))), some (.inr (.inr (some (12, 0)))), some (.inr (.inr (some (13, 0)))), some (.inr (.inr (some (295, 0)))), some (.inl (7 * (n_ : Int))), some (.inl v3_), some (.inl v7_)], [], S5_)) rfl ?_
  exact lc_end ih_ hs_ hn_ hm_ h4_ (jB_up J6_)
set_option maxRecDepth 100000 in
set_option maxHeartbeats 4000000 in
theorem lc_20 {sc_ : Nat × (Nat → Int)} {m_ n_ : Nat} {x_ y_ : Option sm_V} {S_ : sm_S} (ih_ : lwC sc_ m_) (hs_ : scB sc_) (hn_ : 7 * n_ + 7 ≤ sc_.1) (hm_ : sc_.1 ≤ 7 * n_ + 7 * (m_ + 1)) (J_ : jB n_ S_) : sm_T (mt_P sc_) 40 588 (1059, Lw (7 * (n_ : Int)) x_ y_, [], S_) (lwQ (m_ + 1)) := by
  have b_ := hs_.1
  unfold Lw
  refine sm_T_go 4 (c1 := (1064, [some (.inr (.inr (some (302, 0)))), some (.inr (.inr (some (12, 0)))), some (.inr (.inr (some (13, 0)))), some (.inr (.inr (some (295, 0)))), some (.inl (7 * (n_ : Int))), x_, y_], [.inl 1, .inl (7 * (n_ : Int)), .inr (.inr (some (302, 0))), .inr (.inr (some (12, 0)))], S_)) rfl ?_
  refine sm_T_bin (w := 7 * (n_ : Int) + 1) rfl (bi_add (by omega) (by omega) (by omega)) ?_
  refine sm_T_nt (u := some (.inl (sc_.2 (7 * (n_ : Int) + 1).toNat))) (S1 := S_) rfl rfl (lw_n (by omega) (by omega)) ?_
  refine sm_T_go 3 (c1 := (1070, [some (.inr (.inr (some (302, 0)))), some (.inr (.inr (some (12, 0)))), some (.inr (.inr (some (13, 0)))), some (.inr (.inr (some (295, 0)))), some (.inl (7 * (n_ : Int))), x_, y_], [.inl 2, .inl (7 * (n_ : Int)), .inr (.inr (some (302, 0))), .inl (sc_.2 (7 * (n_ : Int) + 1).toNat), .inr (.inr (some (12, 0)))], S_)) rfl ?_
  refine sm_T_bin (w := 7 * (n_ : Int) + 2) rfl (bi_add (by omega) (by omega) (by omega)) ?_
  refine sm_T_nt (u := some (.inl (sc_.2 (7 * (n_ : Int) + 2).toNat))) (S1 := S_) rfl rfl (lw_n (by omega) (by omega)) ?_
  refine sm_T_go 3 (c1 := (1076, [some (.inr (.inr (some (302, 0)))), some (.inr (.inr (some (12, 0)))), some (.inr (.inr (some (13, 0)))), some (.inr (.inr (some (295, 0)))), some (.inl (7 * (n_ : Int))), x_, y_], [.inl 3, .inl (7 * (n_ : Int)), .inr (.inr (some (302, 0))), .inl (sc_.2 (7 * (n_ : Int) + 2).toNat), .inl (sc_.2 (7 * (n_ : Int) + 1).toNat), .inr (.inr (some (12, 0)))], S_)) rfl ?_
  refine sm_T_bin (w := 7 * (n_ : Int) + 3) rfl (bi_add (by omega) (by omega) (by omega)) ?_
  refine sm_T_nt (u := some (.inl (sc_.2 (7 * (n_ : Int) + 3).toNat))) (S1 := S_) rfl rfl (lw_n (by omega) (by omega)) ?_
  refine sm_T_go 1 (c1 := (1079, [some (.inr (.inr (some (302, 0)))), some (.inr (.inr (some (12, 0)))), some (.inr (.inr (some (13, 0)))), some (.inr (.inr (some (295, 0)))), some (.inl (7 * (n_ : Int))), x_, y_], [.inr (.inr (some (295, 0))), .inl (sc_.2 (7 * (n_ : Int) + 3).toNat), .inl (sc_.2 (7 * (n_ : Int) + 2).toNat), .inl (sc_.2 (7 * (n_ : Int) + 1).toNat), .inr (.inr (some (12, 0)))], S_)) rfl ?_
  refine sm_T_call rfl rfl ((lh_554 (sc_.2 (7 * (n_ : Int) + 1).toNat) (sc_.2 (7 * (n_ : Int) + 2).toNat) (sc_.2 (7 * (n_ : Int) + 3).toNat) S_ J_.1 J_.2.1).deep (by decide)) (fun u_ S1_ k1_ q_ => ?_) (fun ex_ S1_ k1_ q_ => by (obtain ⟨v_, S2_, k2_, e_, -⟩ := q_; cases e_))
  obtain ⟨v3_, S2z_, k2z_, e_, h4_, q_⟩ := q_
  cases e_
  have J2_ := jB_c J_ q_
  refine sm_T_go 5 (c1 := (1089, [some (.inr (.inr (some (302, 0)))), some (.inr (.inr (some (12, 0)))), some (.inr (.inr (some (13, 0)))), some (.inr (.inr (some (295, 0)))), some (.inl (7 * (n_ : Int))), some (.inl v3_), y_], [.inl 1, .inl (7 * (n_ : Int)), .inr (.inr (some (302, 0))), .inr (.inr (some (13, 0)))], S1_)) rfl ?_
  refine sm_T_bin (w := 7 * (n_ : Int) + 1) rfl (bi_add (by omega) (by omega) (by omega)) ?_
  refine sm_T_nt (u := some (.inl (sc_.2 (7 * (n_ : Int) + 1).toNat))) (S1 := S1_) rfl rfl (lw_n (by omega) (by omega)) ?_
  refine sm_T_go 3 (c1 := (1095, [some (.inr (.inr (some (302, 0)))), some (.inr (.inr (some (12, 0)))), some (.inr (.inr (some (13, 0)))), some (.inr (.inr (some (295, 0)))), some (.inl (7 * (n_ : Int))), some (.inl v3_), y_], [.inl 2, .inl (7 * (n_ : Int)), .inr (.inr (some (302, 0))), .inl (sc_.2 (7 * (n_ : Int) + 1).toNat), .inr (.inr (some (13, 0)))], S1_)) rfl ?_
  refine sm_T_bin (w := 7 * (n_ : Int) + 2) rfl (bi_add (by omega) (by omega) (by omega)) ?_
  refine sm_T_nt (u := some (.inl (sc_.2 (7 * (n_ : Int) + 2).toNat))) (S1 := S1_) rfl rfl (lw_n (by omega) (by omega)) ?_
  refine sm_T_go 3 (c1 := (1101, [some (.inr (.inr (some (302, 0)))), some (.inr (.inr (some (12, 0)))), some (.inr (.inr (some (13, 0)))), some (.inr (.inr (some (295, 0)))), some (.inl (7 * (n_ : Int))), some (.inl v3_), y_], [.inl 3, .inl (7 * (n_ : Int)), .inr (.inr (some (302, 0))), .inl (sc_.2 (7 * (n_ : Int) + 2).toNat), .inl (sc_.2 (7 * (n_ : Int) + 1).toNat), .inr (.inr (some (13, 0)))], S1_)) rfl ?_
  refine sm_T_bin (w := 7 * (n_ : Int) + 3) rfl (bi_add (by omega) (by omega) (by omega)) ?_
  refine sm_T_nt (u := some (.inl (sc_.2 (7 * (n_ : Int) + 3).toNat))) (S1 := S1_) rfl rfl (lw_n (by omega) (by omega)) ?_
  refine sm_T_cal (d1 := 1) (Q1 := vq_426 (sc_.2 (7 * (n_ : Int) + 1).toNat) (sc_.2 (7 * (n_ : Int) + 2).toNat) (sc_.2 (7 * (n_ : Int) + 3).toNat) S1_) rfl rfl (by decide) (vc_426 (sc_.2 (7 * (n_ : Int) + 1).toNat) (sc_.2 (7 * (n_ : Int) + 2).toNat) (sc_.2 (7 * (n_ : Int) + 3).toNat) S1_ J2_.1 (by first | exact hs_.2 _ | decide | omega) (by first | exact hs_.2 _ | decide | omega) (by first | exact hs_.2 _ | decide | omega) J2_.2.2.1) (fun u_ S5_ p_ => ?_)
  obtain ⟨v7_, rfl, i_, f_, p_⟩ := p_
  have J6_ := jB_r J2_ i_ f_ (by first | exact p_ | exact p_.1 | exact p_.2 | exact p_.2.1 | exact p_.2.2)
  refine sm_T_go 2 (c1 := (2670, [some (.inr (.inr (some (302, 0)))), some (.inr (.inr (some (12, 0)))), some (.inr (.inr (some (13, 0)))), some (.inr (.inr (some (295, 0)))), some (.inl (7 * (n_ : Int))), some (.inl v3_), some (.inl v7_)], [], S5_)) rfl ?_
  exact lc_end ih_ hs_ hn_ hm_ h4_ (jB_up J6_)
set_option maxRecDepth 100000 in
set_option maxHeartbeats 4000000 in
theorem lc_21 {sc_ : Nat × (Nat → Int)} {m_ n_ : Nat} {x_ y_ : Option sm_V} {S_ : sm_S} (ih_ : lwC sc_ m_) (hs_ : scB sc_) (hn_ : 7 * n_ + 7 ≤ sc_.1) (hm_ : sc_.1 ≤ 7 * n_ + 7 * (m_ + 1)) (J_ : jB n_ S_) : sm_T (mt_P sc_) 40 588 (1111, Lw (7 * (n_ : Int)) x_ y_, [], S_) (lwQ (m_ + 1)) := by
  have b_ := hs_.1
  unfold Lw
  refine sm_T_go 4 (c1 := (1116, [some (.inr (.inr (some (302, 0)))), some (.inr (.inr (some (12, 0)))), some (.inr (.inr (some (13, 0)))), some (.inr (.inr (some (295, 0)))), some (.inl (7 * (n_ : Int))), x_, y_], [.inl 1, .inl (7 * (n_ : Int)), .inr (.inr (some (302, 0))), .inr (.inr (some (12, 0)))], S_)) rfl ?_
  refine sm_T_bin (w := 7 * (n_ : Int) + 1) rfl (bi_add (by omega) (by omega) (by omega)) ?_
  refine sm_T_nt (u := some (.inl (sc_.2 (7 * (n_ : Int) + 1).toNat))) (S1 := S_) rfl rfl (lw_n (by omega) (by omega)) ?_
  refine sm_T_go 3 (c1 := (1122, [some (.inr (.inr (some (302, 0)))), some (.inr (.inr (some (12, 0)))), some (.inr (.inr (some (13, 0)))), some (.inr (.inr (some (295, 0)))), some (.inl (7 * (n_ : Int))), x_, y_], [.inl 2, .inl (7 * (n_ : Int)), .inr (.inr (some (302, 0))), .inl (sc_.2 (7 * (n_ : Int) + 1).toNat), .inr (.inr (some (12, 0)))], S_)) rfl ?_
  refine sm_T_bin (w := 7 * (n_ : Int) + 2) rfl (bi_add (by omega) (by omega) (by omega)) ?_
  refine sm_T_nt (u := some (.inl (sc_.2 (7 * (n_ : Int) + 2).toNat))) (S1 := S_) rfl rfl (lw_n (by omega) (by omega)) ?_
  refine sm_T_go 3 (c1 := (1128, [some (.inr (.inr (some (302, 0)))), some (.inr (.inr (some (12, 0)))), some (.inr (.inr (some (13, 0)))), some (.inr (.inr (some (295, 0)))), some (.inl (7 * (n_ : Int))), x_, y_], [.inl 3, .inl (7 * (n_ : Int)), .inr (.inr (some (302, 0))), .inl (sc_.2 (7 * (n_ : Int) + 2).toNat), .inl (sc_.2 (7 * (n_ : Int) + 1).toNat), .inr (.inr (some (12, 0)))], S_)) rfl ?_
  refine sm_T_bin (w := 7 * (n_ : Int) + 3) rfl (bi_add (by omega) (by omega) (by omega)) ?_
  refine sm_T_nt (u := some (.inl (sc_.2 (7 * (n_ : Int) + 3).toNat))) (S1 := S_) rfl rfl (lw_n (by omega) (by omega)) ?_
  refine sm_T_b0 (a := 0) (z := 7) rfl (fun c_ => ?_) (fun c_ => ?_)
  · refine sm_T_go 2 (c1 := (1139, [some (.inr (.inr (some (302, 0)))), some (.inr (.inr (some (12, 0)))), some (.inr (.inr (some (13, 0)))), some (.inr (.inr (some (295, 0)))), some (.inl (7 * (n_ : Int))), x_, y_], [.inr (.inr (some (295, 0))), .inl 0, .inl (sc_.2 (7 * (n_ : Int) + 2).toNat), .inl (sc_.2 (7 * (n_ : Int) + 1).toNat), .inr (.inr (some (12, 0)))], S_)) rfl ?_
    refine sm_T_call rfl rfl ((lh_555 (sc_.2 (7 * (n_ : Int) + 1).toNat) (sc_.2 (7 * (n_ : Int) + 2).toNat) 0 S_ J_.1 J_.2.1).deep (by decide)) (fun u_ S1_ k1_ q_ => ?_) (fun ex_ S1_ k1_ q_ => by (obtain ⟨v_, S2_, k2_, e_, -⟩ := q_; cases e_))
    obtain ⟨v3_, S2z_, k2z_, e_, h4_, q_⟩ := q_
    cases e_
    have J2_ := jB_c J_ q_
    refine sm_T_go 5 (c1 := (1149, [some (.inr (.inr (some (302, 0)))), some (.inr (.inr (some (12, 0)))), some (.inr (.inr (some (13, 0)))), some (.inr (.inr (some (295, 0)))), some (.inl (7 * (n_ : Int))), some (.inl v3_), y_], [.inl 1, .inl (7 * (n_ : Int)), .inr (.inr (some (302, 0))), .inr (.inr (some (13, 0)))], S1_)) rfl ?_
    refine sm_T_bin (w := 7 * (n_ : Int) + 1) rfl (bi_add (by omega) (by omega) (by omega)) ?_
    refine sm_T_nt (u := some (.inl (sc_.2 (7 * (n_ : Int) + 1).toNat))) (S1 := S1_) rfl rfl (lw_n (by omega) (by omega)) ?_
    refine sm_T_go 3 (c1 := (1155, [some (.inr (.inr (some (302, 0)))), some (.inr (.inr (some (12, 0)))), some (.inr (.inr (some (13, 0)))), some (.inr (.inr (some (295, 0)))), some (.inl (7 * (n_ : Int))), some (.inl v3_), y_], [.inl 2, .inl (7 * (n_ : Int)), .inr (.inr (some (302, 0))), .inl (sc_.2 (7 * (n_ : Int) + 1).toNat), .inr (.inr (some (13, 0)))], S1_)) rfl ?_
    refine sm_T_bin (w := 7 * (n_ : Int) + 2) rfl (bi_add (by omega) (by omega) (by omega)) ?_
    refine sm_T_nt (u := some (.inl (sc_.2 (7 * (n_ : Int) + 2).toNat))) (S1 := S1_) rfl rfl (lw_n (by omega) (by omega)) ?_
    refine sm_T_go 3 (c1 := (1161, [some (.inr (.inr (some (302, 0)))), some (.inr (.inr (some (12, 0)))), some (.inr (.inr (some (13, 0)))), some (.inr (.inr (some (295, 0)))), some (.inl (7 * (n_ : Int))), some (.inl v3_), y_], [.inl 3, .inl (7 * (n_ : Int)), .inr (.inr (some (302, 0))), .inl (sc_.2 (7 * (n_ : Int) + 2).toNat), .inl (sc_.2 (7 * (n_ : Int) + 1).toNat), .inr (.inr (some (13, 0)))], S1_)) rfl ?_
    refine sm_T_bin (w := 7 * (n_ : Int) + 3) rfl (bi_add (by omega) (by omega) (by omega)) ?_
    refine sm_T_nt (u := some (.inl (sc_.2 (7 * (n_ : Int) + 3).toNat))) (S1 := S1_) rfl rfl (lw_n (by omega) (by omega)) ?_
    refine sm_T_b0 (a := 0) (z := 7) rfl (fun c_ => ?_) (fun c_ => ?_)
    · refine sm_T_go 1 (c1 := (1171, [some (.inr (.inr (some (302, 0)))), some (.inr (.inr (some (12, 0)))), some (.inr (.inr (some (13, 0)))), some (.inr (.inr (some (295, 0)))), some (.inl (7 * (n_ : Int))), some (.inl v3_), y_], [.inl 0, .inl (sc_.2 (7 * (n_ : Int) + 2).toNat), .inl (sc_.2 (7 * (n_ : Int) + 1).toNat), .inr (.inr (some (13, 0)))], S1_)) rfl ?_
      refine sm_T_cal (d1 := 1) (Q1 := vq_427 (sc_.2 (7 * (n_ : Int) + 1).toNat) (sc_.2 (7 * (n_ : Int) + 2).toNat) 0 S1_) rfl rfl (by decide) (vc_427 (sc_.2 (7 * (n_ : Int) + 1).toNat) (sc_.2 (7 * (n_ : Int) + 2).toNat) 0 S1_ J2_.1 (by first | exact hs_.2 _ | decide | omega) (by first | exact hs_.2 _ | decide | omega) (by first | exact hs_.2 _ | decide | omega) J2_.2.2.1) (fun u_ S5_ p_ => ?_)
      obtain ⟨v7_, rfl, i_, f_, p_⟩ := p_
      have J6_ := jB_r J2_ i_ f_ (by first | exact p_ | exact p_.1 | exact p_.2 | exact p_.2.1 | exact p_.2.2)
      refine sm_T_go 2 (c1 := (2670, [some (.inr (.inr (some (302, 0)))), some (.inr (.inr (some (12, 0)))), some (.inr (.inr (some (13, 0)))), some (.inr (.inr (some (295, 0)))), some (.inl (7 * (n_ : Int))), some (.inl v3_), some (.inl v7_)], [], S5_)) rfl ?_
      exact lc_end ih_ hs_ hn_ hm_ h4_ (jB_up J6_)
    · refine sm_T_go 2 (c1 := (1171, [some (.inr (.inr (some (302, 0)))), some (.inr (.inr (some (12, 0)))), some (.inr (.inr (some (13, 0)))), some (.inr (.inr (some (295, 0)))), some (.inl (7 * (n_ : Int))), some (.inl v3_), y_], [.inl 1, .inl (sc_.2 (7 * (n_ : Int) + 2).toNat), .inl (sc_.2 (7 * (n_ : Int) + 1).toNat), .inr (.inr (some (13, 0)))], S1_)) rfl ?_
      refine sm_T_cal (d1 := 1) (Q1 := vq_427 (sc_.2 (7 * (n_ : Int) + 1).toNat) (sc_.2 (7 * (n_ : Int) + 2).toNat) 1 S1_) rfl rfl (by decide) (vc_427 (sc_.2 (7 * (n_ : Int) + 1).toNat) (sc_.2 (7 * (n_ : Int) + 2).toNat) 1 S1_ J2_.1 (by first | exact hs_.2 _ | decide | omega) (by first | exact hs_.2 _ | decide | omega) (by first | exact hs_.2 _ | decide | omega) J2_.2.2.1) (fun u_ S8_ p_ => ?_)
      obtain ⟨v10_, rfl, i_, f_, p_⟩ := p_
      have J9_ := jB_r J2_ i_ f_ (by first | exact p_ | exact p_.1 | exact p_.2 | exact p_.2.1 | exact p_.2.2)
      refine sm_T_go 2 (c1 := (2670, [some (.inr (.inr (some (302, 0)))), some (.inr (.inr (some (12, 0)))), some (.inr (.inr (some (13, 0)))), some (.inr (.inr (some (295, 0)))), some (.inl (7 * (n_ : Int))), some (.inl v3_), some (.inl v10_)], [], S8_)) rfl ?_
      exact lc_end ih_ hs_ hn_ hm_ h4_ (jB_up J9_)
  · refine sm_T_go 3 (c1 := (1139, [some (.inr (.inr (some (302, 0)))), some (.inr (.inr (some (12, 0)))), some (.inr (.inr (some (13, 0)))), some (.inr (.inr (some (295, 0)))), some (.inl (7 * (n_ : Int))), x_, y_], [.inr (.inr (some (295, 0))), .inl 1, .inl (sc_.2 (7 * (n_ : Int) + 2).toNat), .inl (sc_.2 (7 * (n_ : Int) + 1).toNat), .inr (.inr (some (12, 0)))], S_)) rfl ?_
    refine sm_T_call rfl rfl ((lh_555 (sc_.2 (7 * (n_ : Int) + 1).toNat) (sc_.2 (7 * (n_ : Int) + 2).toNat) 1 S_ J_.1 J_.2.1).deep (by decide)) (fun u_ S11_ k1_ q_ => ?_) (fun ex_ S1_ k1_ q_ => by (obtain ⟨v_, S2_, k2_, e_, -⟩ := q_; cases e_))
    obtain ⟨v13_, S2z_, k2z_, e_, h14_, q_⟩ := q_
    cases e_
    have J12_ := jB_c J_ q_
    refine sm_T_go 5 (c1 := (1149, [some (.inr (.inr (some (302, 0)))), some (.inr (.inr (some (12, 0)))), some (.inr (.inr (some (13, 0)))), some (.inr (.inr (some (295, 0)))), some (.inl (7 * (n_ : Int))), some (.inl v13_), y_], [.inl 1, .inl (7 * (n_ : Int)), .inr (.inr (some (302, 0))), .inr (.inr (some (13, 0)))], S11_)) rfl ?_
    refine sm_T_bin (w := 7 * (n_ : Int) + 1) rfl (bi_add (by omega) (by omega) (by omega)) ?_
    refine sm_T_nt (u := some (.inl (sc_.2 (7 * (n_ : Int) + 1).toNat))) (S1 := S11_) rfl rfl (lw_n (by omega) (by omega)) ?_
    refine sm_T_go 3 (c1 := (1155, [some (.inr (.inr (some (302, 0)))), some (.inr (.inr (some (12, 0)))), some (.inr (.inr (some (13, 0)))), some (.inr (.inr (some (295, 0)))), some (.inl (7 * (n_ : Int))), some (.inl v13_), y_], [.inl 2, .inl (7 * (n_ : Int)), .inr (.inr (some (302, 0))), .inl (sc_.2 (7 * (n_ : Int) + 1).toNat), .inr (.inr (some (13, 0)))], S11_)) rfl ?_
    refine sm_T_bin (w := 7 * (n_ : Int) + 2) rfl (bi_add (by omega) (by omega) (by omega)) ?_
    refine sm_T_nt (u := some (.inl (sc_.2 (7 * (n_ : Int) + 2).toNat))) (S1 := S11_) rfl rfl (lw_n (by omega) (by omega)) ?_
    refine sm_T_go 3 (c1 := (1161, [some (.inr (.inr (some (302, 0)))), some (.inr (.inr (some (12, 0)))), some (.inr (.inr (some (13, 0)))), some (.inr (.inr (some (295, 0)))), some (.inl (7 * (n_ : Int))), some (.inl v13_), y_], [.inl 3, .inl (7 * (n_ : Int)), .inr (.inr (some (302, 0))), .inl (sc_.2 (7 * (n_ : Int) + 2).toNat), .inl (sc_.2 (7 * (n_ : Int) + 1).toNat), .inr (.inr (some (13, 0)))], S11_)) rfl ?_
    refine sm_T_bin (w := 7 * (n_ : Int) + 3) rfl (bi_add (by omega) (by omega) (by omega)) ?_
    refine sm_T_nt (u := some (.inl (sc_.2 (7 * (n_ : Int) + 3).toNat))) (S1 := S11_) rfl rfl (lw_n (by omega) (by omega)) ?_
    refine sm_T_b0 (a := 0) (z := 7) rfl (fun c_ => ?_) (fun c_ => ?_)
    · refine sm_T_go 1 (c1 := (1171, [some (.inr (.inr (some (302, 0)))), some (.inr (.inr (some (12, 0)))), some (.inr (.inr (some (13, 0)))), some (.inr (.inr (some (295, 0)))), some (.inl (7 * (n_ : Int))), some (.inl v13_), y_], [.inl 0, .inl (sc_.2 (7 * (n_ : Int) + 2).toNat), .inl (sc_.2 (7 * (n_ : Int) + 1).toNat), .inr (.inr (some (13, 0)))], S11_)) rfl ?_
      refine sm_T_cal (d1 := 1) (Q1 := vq_427 (sc_.2 (7 * (n_ : Int) + 1).toNat) (sc_.2 (7 * (n_ : Int) + 2).toNat) 0 S11_) rfl rfl (by decide) (vc_427 (sc_.2 (7 * (n_ : Int) + 1).toNat) (sc_.2 (7 * (n_ : Int) + 2).toNat) 0 S11_ J12_.1 (by first | exact hs_.2 _ | decide | omega) (by first | exact hs_.2 _ | decide | omega) (by first | exact hs_.2 _ | decide | omega) J12_.2.2.1) (fun u_ S15_ p_ => ?_)
      obtain ⟨v17_, rfl, i_, f_, p_⟩ := p_
      have J16_ := jB_r J12_ i_ f_ (by first | exact p_ | exact p_.1 | exact p_.2 | exact p_.2.1 | exact p_.2.2)
      refine sm_T_go 2 (c1 := (2670, [some (.inr (.inr (some (302, 0)))), some (.inr (.inr (some (12, 0)))), some (.inr (.inr (some (13, 0)))), some (.inr (.inr (some (295, 0)))), some (.inl (7 * (n_ : Int))), some (.inl v13_), some (.inl v17_)], [], S15_)) rfl ?_
      exact lc_end ih_ hs_ hn_ hm_ h14_ (jB_up J16_)
    · refine sm_T_go 2 (c1 := (1171, [some (.inr (.inr (some (302, 0)))), some (.inr (.inr (some (12, 0)))), some (.inr (.inr (some (13, 0)))), some (.inr (.inr (some (295, 0)))), some (.inl (7 * (n_ : Int))), some (.inl v13_), y_], [.inl 1, .inl (sc_.2 (7 * (n_ : Int) + 2).toNat), .inl (sc_.2 (7 * (n_ : Int) + 1).toNat), .inr (.inr (some (13, 0)))], S11_)) rfl ?_
      refine sm_T_cal (d1 := 1) (Q1 := vq_427 (sc_.2 (7 * (n_ : Int) + 1).toNat) (sc_.2 (7 * (n_ : Int) + 2).toNat) 1 S11_) rfl rfl (by decide) (vc_427 (sc_.2 (7 * (n_ : Int) + 1).toNat) (sc_.2 (7 * (n_ : Int) + 2).toNat) 1 S11_ J12_.1 (by first | exact hs_.2 _ | decide | omega) (by first | exact hs_.2 _ | decide | omega) (by first | exact hs_.2 _ | decide | omega) J12_.2.2.1) (fun u_ S18_ p_ => ?_)
      obtain ⟨v20_, rfl, i_, f_, p_⟩ := p_
      have J19_ := jB_r J12_ i_ f_ (by first | exact p_ | exact p_.1 | exact p_.2 | exact p_.2.1 | exact p_.2.2)
      refine sm_T_go 2 (c1 := (2670, [some (.inr (.inr (some (302, 0)))), some (.inr (.inr (some (12, 0)))), some (.inr (.inr (some (13, 0)))), some (.inr (.inr (some (295, 0)))), some (.inl (7 * (n_ : Int))), some (.inl v13_), some (.inl v20_)], [], S18_)) rfl ?_
      exact lc_end ih_ hs_ hn_ hm_ h14_ (jB_up J19_)
set_option maxRecDepth 100000 in
set_option maxHeartbeats 4000000 in
theorem lc_22 {sc_ : Nat × (Nat → Int)} {m_ n_ : Nat} {x_ y_ : Option sm_V} {S_ : sm_S} (ih_ : lwC sc_ m_) (hs_ : scB sc_) (hn_ : 7 * n_ + 7 ≤ sc_.1) (hm_ : sc_.1 ≤ 7 * n_ + 7 * (m_ + 1)) (J_ : jB n_ S_) : sm_T (mt_P sc_) 40 588 (1179, Lw (7 * (n_ : Int)) x_ y_, [], S_) (lwQ (m_ + 1)) := by
  have b_ := hs_.1
  unfold Lw
  refine sm_T_go 4 (c1 := (1184, [some (.inr (.inr (some (302, 0)))), some (.inr (.inr (some (12, 0)))), some (.inr (.inr (some (13, 0)))), some (.inr (.inr (some (295, 0)))), some (.inl (7 * (n_ : Int))), x_, y_], [.inl 1, .inl (7 * (n_ : Int)), .inr (.inr (some (302, 0))), .inr (.inr (some (12, 0)))], S_)) rfl ?_
  refine sm_T_bin (w := 7 * (n_ : Int) + 1) rfl (bi_add (by omega) (by omega) (by omega)) ?_
  refine sm_T_nt (u := some (.inl (sc_.2 (7 * (n_ : Int) + 1).toNat))) (S1 := S_) rfl rfl (lw_n (by omega) (by omega)) ?_
  refine sm_T_go 3 (c1 := (1190, [some (.inr (.inr (some (302, 0)))), some (.inr (.inr (some (12, 0)))), some (.inr (.inr (some (13, 0)))), some (.inr (.inr (some (295, 0)))), some (.inl (7 * (n_ : Int))), x_, y_], [.inl 2, .inl (7 * (n_ : Int)), .inr (.inr (some (302, 0))), .inl (sc_.2 (7 * (n_ : Int) + 1).toNat), .inr (.inr (some (12, 0)))], S_)) rfl ?_
  refine sm_T_bin (w := 7 * (n_ : Int) + 2) rfl (bi_add (by omega) (by omega) (by omega)) ?_
  refine sm_T_nt (u := some (.inl (sc_.2 (7 * (n_ : Int) + 2).toNat))) (S1 := S_) rfl rfl (lw_n (by omega) (by omega)) ?_
  refine sm_T_go 3 (c1 := (1196, [some (.inr (.inr (some (302, 0)))), some (.inr (.inr (some (12, 0)))), some (.inr (.inr (some (13, 0)))), some (.inr (.inr (some (295, 0)))), some (.inl (7 * (n_ : Int))), x_, y_], [.inl 3, .inl (7 * (n_ : Int)), .inr (.inr (some (302, 0))), .inl (sc_.2 (7 * (n_ : Int) + 2).toNat), .inl (sc_.2 (7 * (n_ : Int) + 1).toNat), .inr (.inr (some (12, 0)))], S_)) rfl ?_
  refine sm_T_bin (w := 7 * (n_ : Int) + 3) rfl (bi_add (by omega) (by omega) (by omega)) ?_
  refine sm_T_nt (u := some (.inl (sc_.2 (7 * (n_ : Int) + 3).toNat))) (S1 := S_) rfl rfl (lw_n (by omega) (by omega)) ?_
  refine sm_T_go 1 (c1 := (1199, [some (.inr (.inr (some (302, 0)))), some (.inr (.inr (some (12, 0)))), some (.inr (.inr (some (13, 0)))), some (.inr (.inr (some (295, 0)))), some (.inl (7 * (n_ : Int))), x_, y_], [.inr (.inr (some (295, 0))), .inl (sc_.2 (7 * (n_ : Int) + 3).toNat), .inl (sc_.2 (7 * (n_ : Int) + 2).toNat), .inl (sc_.2 (7 * (n_ : Int) + 1).toNat), .inr (.inr (some (12, 0)))], S_)) rfl ?_
  refine sm_T_call rfl rfl ((lh_556 (sc_.2 (7 * (n_ : Int) + 1).toNat) (sc_.2 (7 * (n_ : Int) + 2).toNat) (sc_.2 (7 * (n_ : Int) + 3).toNat) S_ J_.1 J_.2.1).deep (by decide)) (fun u_ S1_ k1_ q_ => ?_) (fun ex_ S1_ k1_ q_ => by (obtain ⟨v_, S2_, k2_, e_, -⟩ := q_; cases e_))
  obtain ⟨v3_, S2z_, k2z_, e_, h4_, q_⟩ := q_
  cases e_
  have J2_ := jB_c J_ q_
  refine sm_T_go 5 (c1 := (1209, [some (.inr (.inr (some (302, 0)))), some (.inr (.inr (some (12, 0)))), some (.inr (.inr (some (13, 0)))), some (.inr (.inr (some (295, 0)))), some (.inl (7 * (n_ : Int))), some (.inl v3_), y_], [.inl 1, .inl (7 * (n_ : Int)), .inr (.inr (some (302, 0))), .inr (.inr (some (13, 0)))], S1_)) rfl ?_
  refine sm_T_bin (w := 7 * (n_ : Int) + 1) rfl (bi_add (by omega) (by omega) (by omega)) ?_
  refine sm_T_nt (u := some (.inl (sc_.2 (7 * (n_ : Int) + 1).toNat))) (S1 := S1_) rfl rfl (lw_n (by omega) (by omega)) ?_
  refine sm_T_go 3 (c1 := (1215, [some (.inr (.inr (some (302, 0)))), some (.inr (.inr (some (12, 0)))), some (.inr (.inr (some (13, 0)))), some (.inr (.inr (some (295, 0)))), some (.inl (7 * (n_ : Int))), some (.inl v3_), y_], [.inl 2, .inl (7 * (n_ : Int)), .inr (.inr (some (302, 0))), .inl (sc_.2 (7 * (n_ : Int) + 1).toNat), .inr (.inr (some (13, 0)))], S1_)) rfl ?_
  refine sm_T_bin (w := 7 * (n_ : Int) + 2) rfl (bi_add (by omega) (by omega) (by omega)) ?_
  refine sm_T_nt (u := some (.inl (sc_.2 (7 * (n_ : Int) + 2).toNat))) (S1 := S1_) rfl rfl (lw_n (by omega) (by omega)) ?_
  refine sm_T_go 3 (c1 := (1221, [some (.inr (.inr (some (302, 0)))), some (.inr (.inr (some (12, 0)))), some (.inr (.inr (some (13, 0)))), some (.inr (.inr (some (295, 0)))), some (.inl (7 * (n_ : Int))), some (.inl v3_), y_], [.inl 3, .inl (7 * (n_ : Int)), .inr (.inr (some (302, 0))), .inl (sc_.2 (7 * (n_ : Int) + 2).toNat), .inl (sc_.2 (7 * (n_ : Int) + 1).toNat), .inr (.inr (some (13, 0)))], S1_)) rfl ?_
  refine sm_T_bin (w := 7 * (n_ : Int) + 3) rfl (bi_add (by omega) (by omega) (by omega)) ?_
  refine sm_T_nt (u := some (.inl (sc_.2 (7 * (n_ : Int) + 3).toNat))) (S1 := S1_) rfl rfl (lw_n (by omega) (by omega)) ?_
  refine sm_T_cal (d1 := 1) (Q1 := vq_428 (sc_.2 (7 * (n_ : Int) + 1).toNat) (sc_.2 (7 * (n_ : Int) + 2).toNat) (sc_.2 (7 * (n_ : Int) + 3).toNat) S1_) rfl rfl (by decide) (vc_428 (sc_.2 (7 * (n_ : Int) + 1).toNat) (sc_.2 (7 * (n_ : Int) + 2).toNat) (sc_.2 (7 * (n_ : Int) + 3).toNat) S1_ J2_.1 (by first | exact hs_.2 _ | decide | omega) (by first | exact hs_.2 _ | decide | omega) (by first | exact hs_.2 _ | decide | omega) J2_.2.2.1) (fun u_ S5_ p_ => ?_)
  obtain ⟨v7_, rfl, i_, f_, p_⟩ := p_
  have J6_ := jB_r J2_ i_ f_ (by first | exact p_ | exact p_.1 | exact p_.2 | exact p_.2.1 | exact p_.2.2)
  refine sm_T_go 2 (c1 := (2670, [some (.inr (.inr (some (302, 0)))), some (.inr (.inr (some (12, 0)))), some (.inr (.inr (some (13, 0)))), some (.inr (.inr (some (295, 0)))), some (.inl (7 * (n_ : Int))), some (.inl v3_), some (.inl v7_)], [], S5_)) rfl ?_
  exact lc_end ih_ hs_ hn_ hm_ h4_ (jB_up J6_)
set_option maxRecDepth 100000 in
set_option maxHeartbeats 4000000 in
theorem lc_23 {sc_ : Nat × (Nat → Int)} {m_ n_ : Nat} {x_ y_ : Option sm_V} {S_ : sm_S} (ih_ : lwC sc_ m_) (hs_ : scB sc_) (hn_ : 7 * n_ + 7 ≤ sc_.1) (hm_ : sc_.1 ≤ 7 * n_ + 7 * (m_ + 1)) (J_ : jB n_ S_) : sm_T (mt_P sc_) 40 588 (1231, Lw (7 * (n_ : Int)) x_ y_, [], S_) (lwQ (m_ + 1)) := by
  have b_ := hs_.1
  unfold Lw
  refine sm_T_go 4 (c1 := (1236, [some (.inr (.inr (some (302, 0)))), some (.inr (.inr (some (12, 0)))), some (.inr (.inr (some (13, 0)))), some (.inr (.inr (some (295, 0)))), some (.inl (7 * (n_ : Int))), x_, y_], [.inl 1, .inl (7 * (n_ : Int)), .inr (.inr (some (302, 0))), .inr (.inr (some (12, 0)))], S_)) rfl ?_
  refine sm_T_bin (w := 7 * (n_ : Int) + 1) rfl (bi_add (by omega) (by omega) (by omega)) ?_
  refine sm_T_nt (u := some (.inl (sc_.2 (7 * (n_ : Int) + 1).toNat))) (S1 := S_) rfl rfl (lw_n (by omega) (by omega)) ?_
  refine sm_T_go 3 (c1 := (1242, [some (.inr (.inr (some (302, 0)))), some (.inr (.inr (some (12, 0)))), some (.inr (.inr (some (13, 0)))), some (.inr (.inr (some (295, 0)))), some (.inl (7 * (n_ : Int))), x_, y_], [.inl 2, .inl (7 * (n_ : Int)), .inr (.inr (some (302, 0))), .inl (sc_.2 (7 * (n_ : Int) + 1).toNat), .inr (.inr (some (12, 0)))], S_)) rfl ?_
  refine sm_T_bin (w := 7 * (n_ : Int) + 2) rfl (bi_add (by omega) (by omega) (by omega)) ?_
  refine sm_T_nt (u := some (.inl (sc_.2 (7 * (n_ : Int) + 2).toNat))) (S1 := S_) rfl rfl (lw_n (by omega) (by omega)) ?_
  refine sm_T_go 1 (c1 := (1245, [some (.inr (.inr (some (302, 0)))), some (.inr (.inr (some (12, 0)))), some (.inr (.inr (some (13, 0)))), some (.inr (.inr (some (295, 0)))), some (.inl (7 * (n_ : Int))), x_, y_], [.inr (.inr (some (295, 0))), .inl (sc_.2 (7 * (n_ : Int) + 2).toNat), .inl (sc_.2 (7 * (n_ : Int) + 1).toNat), .inr (.inr (some (12, 0)))], S_)) rfl ?_
  refine sm_T_call rfl rfl ((lh_557 (sc_.2 (7 * (n_ : Int) + 1).toNat) (sc_.2 (7 * (n_ : Int) + 2).toNat) S_ J_.1 J_.2.1).deep (by decide)) (fun u_ S1_ k1_ q_ => ?_) (fun ex_ S1_ k1_ q_ => by (obtain ⟨v_, S2_, k2_, e_, -⟩ := q_; cases e_))
  obtain ⟨v3_, S2z_, k2z_, e_, h4_, q_⟩ := q_
  cases e_
  have J2_ := jB_c J_ q_
  refine sm_T_go 5 (c1 := (1255, [some (.inr (.inr (some (302, 0)))), some (.inr (.inr (some (12, 0)))), some (.inr (.inr (some (13, 0)))), some (.inr (.inr (some (295, 0)))), some (.inl (7 * (n_ : Int))), some (.inl v3_), y_], [.inl 1, .inl (7 * (n_ : Int)), .inr (.inr (some (302, 0))), .inr (.inr (some (13, 0)))], S1_)) rfl ?_
  refine sm_T_bin (w := 7 * (n_ : Int) + 1) rfl (bi_add (by omega) (by omega) (by omega)) ?_
  refine sm_T_nt (u := some (.inl (sc_.2 (7 * (n_ : Int) + 1).toNat))) (S1 := S1_) rfl rfl (lw_n (by omega) (by omega)) ?_
  refine sm_T_go 3 (c1 := (1261, [some (.inr (.inr (some (302, 0)))), some (.inr (.inr (some (12, 0)))), some (.inr (.inr (some (13, 0)))), some (.inr (.inr (some (295, 0)))), some (.inl (7 * (n_ : Int))), some (.inl v3_), y_], [.inl 2, .inl (7 * (n_ : Int)), .inr (.inr (some (302, 0))), .inl (sc_.2 (7 * (n_ : Int) + 1).toNat), .inr (.inr (some (13, 0)))], S1_)) rfl ?_
  refine sm_T_bin (w := 7 * (n_ : Int) + 2) rfl (bi_add (by omega) (by omega) (by omega)) ?_
  refine sm_T_nt (u := some (.inl (sc_.2 (7 * (n_ : Int) + 2).toNat))) (S1 := S1_) rfl rfl (lw_n (by omega) (by omega)) ?_
  refine sm_T_cal (d1 := 2) (Q1 := vq_433 (sc_.2 (7 * (n_ : Int) + 1).toNat) (sc_.2 (7 * (n_ : Int) + 2).toNat) S1_) rfl rfl (by decide) (vc_433 (sc_.2 (7 * (n_ : Int) + 1).toNat) (sc_.2 (7 * (n_ : Int) + 2).toNat) S1_ J2_.1 (by first | exact hs_.2 _ | decide | omega) (by first | exact hs_.2 _ | decide | omega) J2_.2.2.1) (fun u_ S5_ p_ => ?_)
  obtain ⟨v7_, rfl, i_, f_, p_⟩ := p_
  have J6_ := jB_r J2_ i_ f_ (by first | exact p_ | exact p_.1 | exact p_.2 | exact p_.2.1 | exact p_.2.2)
  refine sm_T_go 2 (c1 := (2670, [some (.inr (.inr (some (302, 0)))), some (.inr (.inr (some (12, 0)))), some (.inr (.inr (some (13, 0)))), some (.inr (.inr (some (295, 0)))), some (.inl (7 * (n_ : Int))), some (.inl v3_), some (.inl v7_)], [], S5_)) rfl ?_
  exact lc_end ih_ hs_ hn_ hm_ h4_ (jB_up J6_)
set_option maxRecDepth 100000 in
set_option maxHeartbeats 4000000 in
theorem lc_24 {sc_ : Nat × (Nat → Int)} {m_ n_ : Nat} {x_ y_ : Option sm_V} {S_ : sm_S} (ih_ : lwC sc_ m_) (hs_ : scB sc_) (hn_ : 7 * n_ + 7 ≤ sc_.1) (hm_ : sc_.1 ≤ 7 * n_ + 7 * (m_ + 1)) (J_ : jB n_ S_) : sm_T (mt_P sc_) 40 588 (1271, Lw (7 * (n_ : Int)) x_ y_, [], S_) (lwQ (m_ + 1)) := by
  have b_ := hs_.1
  unfold Lw
  refine sm_T_go 4 (c1 := (1276, [some (.inr (.inr (some (302, 0)))), some (.inr (.inr (some (12, 0)))), some (.inr (.inr (some (13, 0)))), some (.inr (.inr (some (295, 0)))), some (.inl (7 * (n_ : Int))), x_, y_], [.inl 1, .inl (7 * (n_ : Int)), .inr (.inr (some (302, 0))), .inr (.inr (some (12, 0)))], S_)) rfl ?_
  refine sm_T_bin (w := 7 * (n_ : Int) + 1) rfl (bi_add (by omega) (by omega) (by omega)) ?_
  refine sm_T_nt (u := some (.inl (sc_.2 (7 * (n_ : Int) + 1).toNat))) (S1 := S_) rfl rfl (lw_n (by omega) (by omega)) ?_
  refine sm_T_go 1 (c1 := (1279, [some (.inr (.inr (some (302, 0)))), some (.inr (.inr (some (12, 0)))), some (.inr (.inr (some (13, 0)))), some (.inr (.inr (some (295, 0)))), some (.inl (7 * (n_ : Int))), x_, y_], [.inr (.inr (some (295, 0))), .inl (sc_.2 (7 * (n_ : Int) + 1).toNat), .inr (.inr (some (12, 0)))], S_)) rfl ?_
  refine sm_T_call rfl rfl ((lh_558 (sc_.2 (7 * (n_ : Int) + 1).toNat) S_ J_.1 J_.2.1).deep (by decide)) (fun u_ S1_ k1_ q_ => ?_) (fun ex_ S1_ k1_ q_ => by (obtain ⟨v_, S2_, k2_, e_, -⟩ := q_; cases e_))
  obtain ⟨v3_, S2z_, k2z_, e_, h4_, q_⟩ := q_
  cases e_
  have J2_ := jB_c J_ q_
  refine sm_T_go 5 (c1 := (1289, [some (.inr (.inr (some (302, 0)))), some (.inr (.inr (some (12, 0)))), some (.inr (.inr (some (13, 0)))), some (.inr (.inr (some (295, 0)))), some (.inl (7 * (n_ : Int))), some (.inl v3_), y_], [.inl 1, .inl (7 * (n_ : Int)), .inr (.inr (some (302, 0))), .inr (.inr (some (13, 0)))], S1_)) rfl ?_
  refine sm_T_bin (w := 7 * (n_ : Int) + 1) rfl (bi_add (by omega) (by omega) (by omega)) ?_
  refine sm_T_nt (u := some (.inl (sc_.2 (7 * (n_ : Int) + 1).toNat))) (S1 := S1_) rfl rfl (lw_n (by omega) (by omega)) ?_
  refine sm_T_cal (d1 := 1) (Q1 := vq_434 (sc_.2 (7 * (n_ : Int) + 1).toNat) S1_) rfl rfl (by decide) (vc_434 (sc_.2 (7 * (n_ : Int) + 1).toNat) S1_ J2_.1 (by first | exact hs_.2 _ | decide | omega) J2_.2.2.1) (fun u_ S5_ p_ => ?_)
  obtain ⟨v7_, rfl, i_, f_, p_⟩ := p_
  have J6_ := jB_r J2_ i_ f_ (by first | exact p_ | exact p_.1 | exact p_.2 | exact p_.2.1 | exact p_.2.2)
  refine sm_T_go 2 (c1 := (2670, [some (.inr (.inr (some (302, 0)))), some (.inr (.inr (some (12, 0)))), some (.inr (.inr (some (13, 0)))), some (.inr (.inr (some (295, 0)))), some (.inl (7 * (n_ : Int))), some (.inl v3_), some (.inl v7_)], [], S5_)) rfl ?_
  exact lc_end ih_ hs_ hn_ hm_ h4_ (jB_up J6_)
set_option maxRecDepth 100000 in
set_option maxHeartbeats 4000000 in
theorem lc_25 {sc_ : Nat × (Nat → Int)} {m_ n_ : Nat} {x_ y_ : Option sm_V} {S_ : sm_S} (ih_ : lwC sc_ m_) (hs_ : scB sc_) (hn_ : 7 * n_ + 7 ≤ sc_.1) (hm_ : sc_.1 ≤ 7 * n_ + 7 * (m_ + 1)) (J_ : jB n_ S_) : sm_T (mt_P sc_) 40 588 (1299, Lw (7 * (n_ : Int)) x_ y_, [], S_) (lwQ (m_ + 1)) := by
  have b_ := hs_.1
  unfold Lw
  refine sm_T_go 4 (c1 := (1304, [some (.inr (.inr (some (302, 0)))), some (.inr (.inr (some (12, 0)))), some (.inr (.inr (some (13, 0)))), some (.inr (.inr (some (295, 0)))), some (.inl (7 * (n_ : Int))), x_, y_], [.inl 1, .inl (7 * (n_ : Int)), .inr (.inr (some (302, 0))), .inr (.inr (some (12, 0)))], S_)) rfl ?_
  refine sm_T_bin (w := 7 * (n_ : Int) + 1) rfl (bi_add (by omega) (by omega) (by omega)) ?_
  refine sm_T_nt (u := some (.inl (sc_.2 (7 * (n_ : Int) + 1).toNat))) (S1 := S_) rfl rfl (lw_n (by omega) (by omega)) ?_
  refine sm_T_go 3 (c1 := (1310, [some (.inr (.inr (some (302, 0)))), some (.inr (.inr (some (12, 0)))), some (.inr (.inr (some (13, 0)))), some (.inr (.inr (some (295, 0)))), some (.inl (7 * (n_ : Int))), x_, y_], [.inl 2, .inl (7 * (n_ : Int)), .inr (.inr (some (302, 0))), .inl (sc_.2 (7 * (n_ : Int) + 1).toNat), .inr (.inr (some (12, 0)))], S_)) rfl ?_
  refine sm_T_bin (w := 7 * (n_ : Int) + 2) rfl (bi_add (by omega) (by omega) (by omega)) ?_
  refine sm_T_nt (u := some (.inl (sc_.2 (7 * (n_ : Int) + 2).toNat))) (S1 := S_) rfl rfl (lw_n (by omega) (by omega)) ?_
  refine sm_T_go 1 (c1 := (1313, [some (.inr (.inr (some (302, 0)))), some (.inr (.inr (some (12, 0)))), some (.inr (.inr (some (13, 0)))), some (.inr (.inr (some (295, 0)))), some (.inl (7 * (n_ : Int))), x_, y_], [.inr (.inr (some (295, 0))), .inl (sc_.2 (7 * (n_ : Int) + 2).toNat), .inl (sc_.2 (7 * (n_ : Int) + 1).toNat), .inr (.inr (some (12, 0)))], S_)) rfl ?_
  refine sm_T_call rfl rfl ((lh_559 (sc_.2 (7 * (n_ : Int) + 1).toNat) (sc_.2 (7 * (n_ : Int) + 2).toNat) S_ J_.1 J_.2.1).deep (by decide)) (fun u_ S1_ k1_ q_ => ?_) (fun ex_ S1_ k1_ q_ => by (obtain ⟨v_, S2_, k2_, e_, -⟩ := q_; cases e_))
  obtain ⟨v3_, S2z_, k2z_, e_, h4_, q_⟩ := q_
  cases e_
  have J2_ := jB_c J_ q_
  refine sm_T_go 5 (c1 := (1323, [some (.inr (.inr (some (302, 0)))), some (.inr (.inr (some (12, 0)))), some (.inr (.inr (some (13, 0)))), some (.inr (.inr (some (295, 0)))), some (.inl (7 * (n_ : Int))), some (.inl v3_), y_], [.inl 1, .inl (7 * (n_ : Int)), .inr (.inr (some (302, 0))), .inr (.inr (some (13, 0)))], S1_)) rfl ?_
  refine sm_T_bin (w := 7 * (n_ : Int) + 1) rfl (bi_add (by omega) (by omega) (by omega)) ?_
  refine sm_T_nt (u := some (.inl (sc_.2 (7 * (n_ : Int) + 1).toNat))) (S1 := S1_) rfl rfl (lw_n (by omega) (by omega)) ?_
  refine sm_T_go 3 (c1 := (1329, [some (.inr (.inr (some (302, 0)))), some (.inr (.inr (some (12, 0)))), some (.inr (.inr (some (13, 0)))), some (.inr (.inr (some (295, 0)))), some (.inl (7 * (n_ : Int))), some (.inl v3_), y_], [.inl 2, .inl (7 * (n_ : Int)), .inr (.inr (some (302, 0))), .inl (sc_.2 (7 * (n_ : Int) + 1).toNat), .inr (.inr (some (13, 0)))], S1_)) rfl ?_
  refine sm_T_bin (w := 7 * (n_ : Int) + 2) rfl (bi_add (by omega) (by omega) (by omega)) ?_
  refine sm_T_nt (u := some (.inl (sc_.2 (7 * (n_ : Int) + 2).toNat))) (S1 := S1_) rfl rfl (lw_n (by omega) (by omega)) ?_
  refine sm_T_cal (d1 := 3) (Q1 := vq_435 (sc_.2 (7 * (n_ : Int) + 1).toNat) (sc_.2 (7 * (n_ : Int) + 2).toNat) S1_) rfl rfl (by decide) (vc_435 (sc_.2 (7 * (n_ : Int) + 1).toNat) (sc_.2 (7 * (n_ : Int) + 2).toNat) S1_ J2_.1 (by first | exact hs_.2 _ | decide | omega) (by first | exact hs_.2 _ | decide | omega) J2_.2.2.1) (fun u_ S5_ p_ => ?_)
  obtain ⟨v7_, rfl, i_, f_, p_⟩ := p_
  have J6_ := jB_r J2_ i_ f_ (by first | exact p_ | exact p_.1 | exact p_.2 | exact p_.2.1 | exact p_.2.2)
  refine sm_T_go 2 (c1 := (2670, [some (.inr (.inr (some (302, 0)))), some (.inr (.inr (some (12, 0)))), some (.inr (.inr (some (13, 0)))), some (.inr (.inr (some (295, 0)))), some (.inl (7 * (n_ : Int))), some (.inl v3_), some (.inl v7_)], [], S5_)) rfl ?_
  exact lc_end ih_ hs_ hn_ hm_ h4_ (jB_up J6_)

