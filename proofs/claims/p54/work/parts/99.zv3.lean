/-! the law's loop; written by wip/p55/gen/vg/d08.py -/
set_option maxRecDepth 100000 in
set_option maxHeartbeats 4000000 in
theorem lw_sw {sc_ : Nat × (Nat → Int)} {m_ n_ : Nat} {c_ : Int} {x_ y_ : Option sm_V} {S_ : sm_S} (hc_ : 0 ≤ c_ ∧ c_ < 64) (ih_ : lwC sc_ m_) (hs_ : scB sc_) (hn_ : 7 * n_ + 7 ≤ sc_.1) (hm_ : sc_.1 ≤ 7 * n_ + 7 * (m_ + 1)) (J_ : jB n_ S_) : sm_T (mt_P sc_) 40 588 (40, [some (.inr (.inr (some (302, 0)))), some (.inr (.inr (some (12, 0)))), some (.inr (.inr (some (13, 0)))), some (.inr (.inr (some (295, 0)))), some (.inl (7 * (n_ : Int))), x_, y_], [.inl c_], S_) (lwQ (m_ + 1)) := by
  by_cases h32_ : c_ < 32
  · by_cases h16_ : c_ < 16
    · by_cases h8_ : c_ < 8
      · by_cases h4_ : c_ < 4
        · by_cases h2_ : c_ < 2
          · by_cases h1_ : c_ < 1
            · have e_ : c_ = 0 := by omega
              subst e_
              exact sm_T_sw (t := 272) rfl rfl rfl (lcs_0 ih_ hs_ hn_ hm_ J_)
            · have e_ : c_ = 1 := by omega
              subst e_
              exact sm_T_sw (t := 348) rfl rfl rfl (lcs_1 ih_ hs_ hn_ hm_ J_)
          · by_cases h3_ : c_ < 3
            · have e_ : c_ = 2 := by omega
              subst e_
              exact sm_T_sw (t := 373) rfl rfl rfl (lcs_2 ih_ hs_ hn_ hm_ J_)
            · have e_ : c_ = 3 := by omega
              subst e_
              exact sm_T_sw (t := 389) rfl rfl rfl (lcs_3 ih_ hs_ hn_ hm_ J_)
        · by_cases h6_ : c_ < 6
          · by_cases h5_ : c_ < 5
            · have e_ : c_ = 4 := by omega
              subst e_
              exact sm_T_sw (t := 405) rfl rfl rfl (lc_4 ih_ hs_ hn_ hm_ J_)
            · have e_ : c_ = 5 := by omega
              subst e_
              exact sm_T_sw (t := 418) rfl rfl rfl (lcs_5 ih_ hs_ hn_ hm_ J_)
          · by_cases h7_ : c_ < 7
            · have e_ : c_ = 6 := by omega
              subst e_
              exact sm_T_sw (t := 455) rfl rfl rfl (lc_6 ih_ hs_ hn_ hm_ J_)
            · have e_ : c_ = 7 := by omega
              subst e_
              exact sm_T_sw (t := 495) rfl rfl rfl (lc_7 ih_ hs_ hn_ hm_ J_)
      · by_cases h12_ : c_ < 12
        · by_cases h10_ : c_ < 10
          · by_cases h9_ : c_ < 9
            · have e_ : c_ = 8 := by omega
              subst e_
              exact sm_T_sw (t := 535) rfl rfl rfl (lc_8 ih_ hs_ hn_ hm_ J_)
            · have e_ : c_ = 9 := by omega
              subst e_
              exact sm_T_sw (t := 587) rfl rfl rfl (lc_9 ih_ hs_ hn_ hm_ J_)
          · by_cases h11_ : c_ < 11
            · have e_ : c_ = 10 := by omega
              subst e_
              exact sm_T_sw (t := 627) rfl rfl rfl (lc_10 ih_ hs_ hn_ hm_ J_)
            · have e_ : c_ = 11 := by omega
              subst e_
              exact sm_T_sw (t := 695) rfl rfl rfl (lc_11 ih_ hs_ hn_ hm_ J_)
        · by_cases h14_ : c_ < 14
          · by_cases h13_ : c_ < 13
            · have e_ : c_ = 12 := by omega
              subst e_
              exact sm_T_sw (t := 747) rfl rfl rfl (lc_12 ih_ hs_ hn_ hm_ J_)
            · have e_ : c_ = 13 := by omega
              subst e_
              exact sm_T_sw (t := 787) rfl rfl rfl (lc_13 ih_ hs_ hn_ hm_ J_)
          · by_cases h15_ : c_ < 15
            · have e_ : c_ = 14 := by omega
              subst e_
              exact sm_T_sw (t := 815) rfl rfl rfl (lc_14 ih_ hs_ hn_ hm_ J_)
            · have e_ : c_ = 15 := by omega
              subst e_
              exact sm_T_sw (t := 843) rfl rfl rfl (lc_15 ih_ hs_ hn_ hm_ J_)
    · by_cases h24_ : c_ < 24
      · by_cases h20_ : c_ < 20
        · by_cases h18_ : c_ < 18
          · by_cases h17_ : c_ < 17
            · have e_ : c_ = 16 := by omega
              subst e_
              exact sm_T_sw (t := 883) rfl rfl rfl (lc_16 ih_ hs_ hn_ hm_ J_)
            · have e_ : c_ = 17 := by omega
              subst e_
              exact sm_T_sw (t := 923) rfl rfl rfl (lc_17 ih_ hs_ hn_ hm_ J_)
          · by_cases h19_ : c_ < 19
            · have e_ : c_ = 18 := by omega
              subst e_
              exact sm_T_sw (t := 951) rfl rfl rfl (lc_18 ih_ hs_ hn_ hm_ J_)
            · have e_ : c_ = 19 := by omega
              subst e_
              exact sm_T_sw (t := 991) rfl rfl rfl (lc_19 ih_ hs_ hn_ hm_ J_)
        · by_cases h22_ : c_ < 22
          · by_cases h21_ : c_ < 21
            · have e_ : c_ = 20 := by omega
              subst e_
              exact sm_T_sw (t := 1031) rfl rfl rfl (lc_20 ih_ hs_ hn_ hm_ J_)
            · have e_ : c_ = 21 := by omega
              subst e_
              exact sm_T_sw (t := 1083) rfl rfl rfl (lc_21 ih_ hs_ hn_ hm_ J_)
          · by_cases h23_ : c_ < 23
            · have e_ : c_ = 22 := by omega
              subst e_
              exact sm_T_sw (t := 1151) rfl rfl rfl (lc_22 ih_ hs_ hn_ hm_ J_)
            · have e_ : c_ = 23 := by omega
              subst e_
              exact sm_T_sw (t := 1203) rfl rfl rfl (lc_23 ih_ hs_ hn_ hm_ J_)
      · by_cases h28_ : c_ < 28
        · by_cases h26_ : c_ < 26
          · by_cases h25_ : c_ < 25
            · have e_ : c_ = 24 := by omega
              subst e_
              exact sm_T_sw (t := 1243) rfl rfl rfl (lc_24 ih_ hs_ hn_ hm_ J_)
            · have e_ : c_ = 25 := by omega
              subst e_
              exact sm_T_sw (t := 1271) rfl rfl rfl (lc_25 ih_ hs_ hn_ hm_ J_)
          · by_cases h27_ : c_ < 27
            · have e_ : c_ = 26 := by omega
              subst e_
              exact sm_T_sw (t := 1311) rfl rfl rfl (lc_26 ih_ hs_ hn_ hm_ J_)
            · have e_ : c_ = 27 := by omega
              subst e_
              exact sm_T_sw (t := 1351) rfl rfl rfl (lc_27 ih_ hs_ hn_ hm_ J_)
        · by_cases h30_ : c_ < 30
          · by_cases h29_ : c_ < 29
            · have e_ : c_ = 28 := by omega
              subst e_
              exact sm_T_sw (t := 1403) rfl rfl rfl (lc_28 ih_ hs_ hn_ hm_ J_)
            · have e_ : c_ = 29 := by omega
              subst e_
              exact sm_T_sw (t := 1467) rfl rfl rfl (lc_29 ih_ hs_ hn_ hm_ J_)
          · by_cases h31_ : c_ < 31
            · have e_ : c_ = 30 := by omega
              subst e_
              exact sm_T_sw (t := 1507) rfl rfl rfl (lc_30 ih_ hs_ hn_ hm_ J_)
            · have e_ : c_ = 31 := by omega
              subst e_
              exact sm_T_sw (t := 1547) rfl rfl rfl (lc_31 ih_ hs_ hn_ hm_ J_)
  · by_cases h48_ : c_ < 48
    · by_cases h40_ : c_ < 40
      · by_cases h36_ : c_ < 36
        · by_cases h34_ : c_ < 34
          · by_cases h33_ : c_ < 33
            · have e_ : c_ = 32 := by omega
              subst e_
              exact sm_T_sw (t := 1587) rfl rfl rfl (lc_32 ih_ hs_ hn_ hm_ J_)
            · have e_ : c_ = 33 := by omega
              subst e_
              exact sm_T_sw (t := 1627) rfl rfl rfl (lc_33 ih_ hs_ hn_ hm_ J_)
          · by_cases h35_ : c_ < 35
            · have e_ : c_ = 34 := by omega
              subst e_
              exact sm_T_sw (t := 1679) rfl rfl rfl (lc_34 ih_ hs_ hn_ hm_ J_)
            · have e_ : c_ = 35 := by omega
              subst e_
              exact sm_T_sw (t := 1707) rfl rfl rfl (lc_35 ih_ hs_ hn_ hm_ J_)
        · by_cases h38_ : c_ < 38
          · by_cases h37_ : c_ < 37
            · have e_ : c_ = 36 := by omega
              subst e_
              exact sm_T_sw (t := 1759) rfl rfl rfl (lc_36 ih_ hs_ hn_ hm_ J_)
            · have e_ : c_ = 37 := by omega
              subst e_
              exact sm_T_sw (t := 1849) rfl rfl rfl (lc_37 ih_ hs_ hn_ hm_ J_)
          · by_cases h39_ : c_ < 39
            · have e_ : c_ = 38 := by omega
              subst e_
              exact sm_T_sw (t := 1889) rfl rfl rfl (lc_38 ih_ hs_ hn_ hm_ J_)
            · have e_ : c_ = 39 := by omega
              subst e_
              exact sm_T_sw (t := 1917) rfl rfl rfl (lc_39 ih_ hs_ hn_ hm_ J_)
      · by_cases h44_ : c_ < 44
        · by_cases h42_ : c_ < 42
          · by_cases h41_ : c_ < 41
            · have e_ : c_ = 40 := by omega
              subst e_
              exact sm_T_sw (t := 1969) rfl rfl rfl (lc_40 ih_ hs_ hn_ hm_ J_)
            · have e_ : c_ = 41 := by omega
              subst e_
              exact sm_T_sw (t := 2009) rfl rfl rfl (lc_41 ih_ hs_ hn_ hm_ J_)
          · by_cases h43_ : c_ < 43
            · have e_ : c_ = 42 := by omega
              subst e_
              exact sm_T_sw (t := 2077) rfl rfl rfl (lc_42 ih_ hs_ hn_ hm_ J_)
            · have e_ : c_ = 43 := by omega
              subst e_
              exact sm_T_sw (t := 2129) rfl rfl rfl (lc_43 ih_ hs_ hn_ hm_ J_)
        · by_cases h46_ : c_ < 46
          · by_cases h45_ : c_ < 45
            · have e_ : c_ = 44 := by omega
              subst e_
              exact sm_T_sw (t := 2181) rfl rfl rfl (lc_44 ih_ hs_ hn_ hm_ J_)
            · have e_ : c_ = 45 := by omega
              subst e_
              exact sm_T_sw (t := 2257) rfl rfl rfl (lc_45 ih_ hs_ hn_ hm_ J_)
          · by_cases h47_ : c_ < 47
            · have e_ : c_ = 46 := by omega
              subst e_
              exact sm_T_sw (t := 2321) rfl rfl rfl (lc_46 ih_ hs_ hn_ hm_ J_)
            · have e_ : c_ = 47 := by omega
              subst e_
              exact sm_T_sw (t := 2361) rfl rfl rfl (lc_47 ih_ hs_ hn_ hm_ J_)
    · by_cases h56_ : c_ < 56
      · by_cases h52_ : c_ < 52
        · by_cases h50_ : c_ < 50
          · by_cases h49_ : c_ < 49
            · have e_ : c_ = 48 := by omega
              subst e_
              exact sm_T_sw (t := 2413) rfl rfl rfl (lc_48 ih_ hs_ hn_ hm_ J_)
            · have e_ : c_ = 49 := by omega
              subst e_
              exact sm_T_sw (t := 2441) rfl rfl rfl (lc_49 ih_ hs_ hn_ hm_ J_)
          · by_cases h51_ : c_ < 51
            · have e_ : c_ = 50 := by omega
              subst e_
              exact sm_T_sw (t := 2481) rfl rfl rfl (lc_50 ih_ hs_ hn_ hm_ J_)
            · have e_ : c_ = 51 := by omega
              subst e_
              exact sm_T_sw (t := 2549) rfl rfl rfl (lc_51 ih_ hs_ hn_ hm_ J_)
        · by_cases h54_ : c_ < 54
          · by_cases h53_ : c_ < 53
            · have e_ : c_ = 52 := by omega
              subst e_
              exact sm_T_sw (t := 2589) rfl rfl rfl (lc_52 ih_ hs_ hn_ hm_ J_)
            · have e_ : c_ = 53 := by omega
              subst e_
              exact sm_T_sw (t := 2657) rfl rfl rfl (lc_53 ih_ hs_ hn_ hm_ J_)
          · by_cases h55_ : c_ < 55
            · have e_ : c_ = 54 := by omega
              subst e_
              exact sm_T_sw (t := 2670) rfl rfl rfl ((lc_end (k_ := 0) ih_ hs_ hn_ hm_ (by decide) (jB_up J_)).mono (fun r_ z_ => by rw [sm_add_0] at z_; exact z_))
            · have e_ : c_ = 55 := by omega
              subst e_
              exact sm_T_sw (t := 2670) rfl rfl rfl ((lc_end (k_ := 0) ih_ hs_ hn_ hm_ (by decide) (jB_up J_)).mono (fun r_ z_ => by rw [sm_add_0] at z_; exact z_))
      · by_cases h60_ : c_ < 60
        · by_cases h58_ : c_ < 58
          · by_cases h57_ : c_ < 57
            · have e_ : c_ = 56 := by omega
              subst e_
              exact sm_T_sw (t := 2670) rfl rfl rfl ((lc_end (k_ := 0) ih_ hs_ hn_ hm_ (by decide) (jB_up J_)).mono (fun r_ z_ => by rw [sm_add_0] at z_; exact z_))
            · have e_ : c_ = 57 := by omega
              subst e_
              exact sm_T_sw (t := 2670) rfl rfl rfl ((lc_end (k_ := 0) ih_ hs_ hn_ hm_ (by decide) (jB_up J_)).mono (fun r_ z_ => by rw [sm_add_0] at z_; exact z_))
          · by_cases h59_ : c_ < 59
            · have e_ : c_ = 58 := by omega
              subst e_
              exact sm_T_sw (t := 2670) rfl rfl rfl ((lc_end (k_ := 0) ih_ hs_ hn_ hm_ (by decide) (jB_up J_)).mono (fun r_ z_ => by rw [sm_add_0] at z_; exact z_))
            · have e_ : c_ = 59 := by omega
              subst e_
              exact sm_T_sw (t := 2670) rfl rfl rfl ((lc_end (k_ := 0) ih_ hs_ hn_ hm_ (by decide) (jB_up J_)).mono (fun r_ z_ => by rw [sm_add_0] at z_; exact z_))
        · by_cases h62_ : c_ < 62
          · by_cases h61_ : c_ < 61
            · have e_ : c_ = 60 := by omega
              subst e_
              exact sm_T_sw (t := 2670) rfl rfl rfl ((lc_end (k_ := 0) ih_ hs_ hn_ hm_ (by decide) (jB_up J_)).mono (fun r_ z_ => by rw [sm_add_0] at z_; exact z_))
            · have e_ : c_ = 61 := by omega
              subst e_
              exact sm_T_sw (t := 2670) rfl rfl rfl ((lc_end (k_ := 0) ih_ hs_ hn_ hm_ (by decide) (jB_up J_)).mono (fun r_ z_ => by rw [sm_add_0] at z_; exact z_))
          · by_cases h63_ : c_ < 63
            · have e_ : c_ = 62 := by omega
              subst e_
              exact sm_T_sw (t := 2670) rfl rfl rfl ((lc_end (k_ := 0) ih_ hs_ hn_ hm_ (by decide) (jB_up J_)).mono (fun r_ z_ => by rw [sm_add_0] at z_; exact z_))
            · have e_ : c_ = 63 := by omega
              subst e_
              exact sm_T_sw (t := 2670) rfl rfl rfl ((lc_end (k_ := 0) ih_ hs_ hn_ hm_ (by decide) (jB_up J_)).mono (fun r_ z_ => by rw [sm_add_0] at z_; exact z_))
set_option maxRecDepth 100000 in
set_option maxHeartbeats 4000000 in
theorem law_C {sc_ : Nat × (Nat → Int)} (hs_ : scB sc_) : ∀ m_, lwC sc_ m_ := by
  intro m_
  induction m_ with
  | zero =>
    intro n_ x_ y_ S_ J_ h_
    have b_ := hs_.1
    unfold Lw
    refine sm_T_go 2 (c1 := (26, [some (.inr (.inr (some (302, 0)))), some (.inr (.inr (some (12, 0)))), some (.inr (.inr (some (13, 0)))), some (.inr (.inr (some (295, 0)))), some (.inl (7 * (n_ : Int))), x_, y_], [.inr (.inr (some (302, 0))), .inl (7 * (n_ : Int))], S_)) rfl ?_
    refine sm_T_nt (u := some (.inl (sc_.1 : Int))) (S1 := S_) rfl rfl rfl ?_
    refine sm_T_go 1 (c1 := (29, [some (.inr (.inr (some (302, 0)))), some (.inr (.inr (some (12, 0)))), some (.inr (.inr (some (13, 0)))), some (.inr (.inr (some (295, 0)))), some (.inl (7 * (n_ : Int))), x_, y_], [.inl 7, .inl (sc_.1 : Int), .inl (7 * (n_ : Int))], S_)) rfl ?_
    refine sm_T_bin (w := (sc_.1 : Int) - 7) rfl (bi_sub (by omega) (by omega) (by omega)) ?_
    refine sm_T_br (a := 4) (z := 2646) rfl (fun c_ => ?_) (fun c_ => ?_)
    · refine sm_T_go 1 (c1 := (2677, [some (.inr (.inr (some (302, 0)))), some (.inr (.inr (some (12, 0)))), some (.inr (.inr (some (13, 0)))), some (.inr (.inr (some (295, 0)))), some (.inl (7 * (n_ : Int))), x_, y_], [.inl 1], S_)) rfl ?_
      exact sm_T_rz rfl (Or.inr rfl) ⟨S_, 0, rfl, by omega⟩
    · have c_ : ¬ ((sc_.1 : Int) - 7 < 7 * (n_ : Int)) := of_decide_eq_false c_
      exact absurd c_ (by omega)
  | succ m_ ih_ =>
    intro n_ x_ y_ S_ J_ h_
    have b_ := hs_.1
    unfold Lw
    refine sm_T_go 2 (c1 := (26, [some (.inr (.inr (some (302, 0)))), some (.inr (.inr (some (12, 0)))), some (.inr (.inr (some (13, 0)))), some (.inr (.inr (some (295, 0)))), some (.inl (7 * (n_ : Int))), x_, y_], [.inr (.inr (some (302, 0))), .inl (7 * (n_ : Int))], S_)) rfl ?_
    refine sm_T_nt (u := some (.inl (sc_.1 : Int))) (S1 := S_) rfl rfl rfl ?_
    refine sm_T_go 1 (c1 := (29, [some (.inr (.inr (some (302, 0)))), some (.inr (.inr (some (12, 0)))), some (.inr (.inr (some (13, 0)))), some (.inr (.inr (some (295, 0)))), some (.inl (7 * (n_ : Int))), x_, y_], [.inl 7, .inl (sc_.1 : Int), .inl (7 * (n_ : Int))], S_)) rfl ?_
    refine sm_T_bin (w := (sc_.1 : Int) - 7) rfl (bi_sub (by omega) (by omega) (by omega)) ?_
    refine sm_T_br (a := 4) (z := 2646) rfl (fun c_ => ?_) (fun c_ => ?_)
    · refine sm_T_go 1 (c1 := (2677, [some (.inr (.inr (some (302, 0)))), some (.inr (.inr (some (12, 0)))), some (.inr (.inr (some (13, 0)))), some (.inr (.inr (some (295, 0)))), some (.inl (7 * (n_ : Int))), x_, y_], [.inl 1], S_)) rfl ?_
      exact sm_T_rz rfl (Or.inr rfl) ⟨S_, 0, rfl, by omega⟩
    · have c_ : ¬ ((sc_.1 : Int) - 7 < 7 * (n_ : Int)) := of_decide_eq_false c_
      refine sm_T_go 2 (c1 := (36, [some (.inr (.inr (some (302, 0)))), some (.inr (.inr (some (12, 0)))), some (.inr (.inr (some (13, 0)))), some (.inr (.inr (some (295, 0)))), some (.inl (7 * (n_ : Int))), x_, y_], [.inl (7 * (n_ : Int)), .inr (.inr (some (302, 0)))], S_)) rfl ?_
      refine sm_T_nt (u := some (.inl (sc_.2 (7 * (n_ : Int)).toNat))) (S1 := S_) rfl rfl (lw_n (by omega) (by omega)) ?_
      refine sm_T_go 1 (c1 := (39, [some (.inr (.inr (some (302, 0)))), some (.inr (.inr (some (12, 0)))), some (.inr (.inr (some (13, 0)))), some (.inr (.inr (some (295, 0)))), some (.inl (7 * (n_ : Int))), x_, y_], [.inl 63, .inl (sc_.2 (7 * (n_ : Int)).toNat)], S_)) rfl ?_
      refine sm_T_bin (w := sc_.2 (7 * (n_ : Int)).toNat % 64) rfl (bi_msk (k := 6) (by decide)) ?_
      exact lw_sw ⟨by omega, by omega⟩ ih_ hs_ (by omega) h_ J_
def z_S0 : sm_S := (fun _ _ _ => 0, fun _ _ _ => none, fun _ _ _ => 0, fun _ _ _ => 0)
