/-! the code of the simple instructions -/
theorem ck_A {mid : Nat} (h : mid < 588) : (ck_s mid && ck_r mid) = true := by
  by_cases c0 : mid < 37
  · exact ok_rg (p := fun mid => ck_s mid && ck_r mid) ck_s0 (by omega) (by omega)
  by_cases c1 : mid < 63
  · exact ok_rg (p := fun mid => ck_s mid && ck_r mid) ck_s1 (by omega) (by omega)
  by_cases c2 : mid < 92
  · exact ok_rg (p := fun mid => ck_s mid && ck_r mid) ck_s2 (by omega) (by omega)
  by_cases c3 : mid < 115
  · exact ok_rg (p := fun mid => ck_s mid && ck_r mid) ck_s3 (by omega) (by omega)
  by_cases c4 : mid < 146
  · exact ok_rg (p := fun mid => ck_s mid && ck_r mid) ck_s4 (by omega) (by omega)
  by_cases c5 : mid < 173
  · exact ok_rg (p := fun mid => ck_s mid && ck_r mid) ck_s5 (by omega) (by omega)
  by_cases c6 : mid < 201
  · exact ok_rg (p := fun mid => ck_s mid && ck_r mid) ck_s6 (by omega) (by omega)
  by_cases c7 : mid < 233
  · exact ok_rg (p := fun mid => ck_s mid && ck_r mid) ck_s7 (by omega) (by omega)
  by_cases c8 : mid < 280
  · exact ok_rg (p := fun mid => ck_s mid && ck_r mid) ck_s8 (by omega) (by omega)
  by_cases c9 : mid < 320
  · exact ok_rg (p := fun mid => ck_s mid && ck_r mid) ck_s9 (by omega) (by omega)
  by_cases c10 : mid < 341
  · exact ok_rg (p := fun mid => ck_s mid && ck_r mid) ck_s10 (by omega) (by omega)
  by_cases c11 : mid < 364
  · exact ok_rg (p := fun mid => ck_s mid && ck_r mid) ck_s11 (by omega) (by omega)
  by_cases c12 : mid < 395
  · exact ok_rg (p := fun mid => ck_s mid && ck_r mid) ck_s12 (by omega) (by omega)
  by_cases c13 : mid < 408
  · exact ok_rg (p := fun mid => ck_s mid && ck_r mid) ck_s13 (by omega) (by omega)
  by_cases c14 : mid < 421
  · exact ok_rg (p := fun mid => ck_s mid && ck_r mid) ck_s14 (by omega) (by omega)
  by_cases c15 : mid < 440
  · exact ok_rg (p := fun mid => ck_s mid && ck_r mid) ck_s15 (by omega) (by omega)
  by_cases c16 : mid < 457
  · exact ok_rg (p := fun mid => ck_s mid && ck_r mid) ck_s16 (by omega) (by omega)
  by_cases c17 : mid < 469
  · exact ok_rg (p := fun mid => ck_s mid && ck_r mid) ck_s17 (by omega) (by omega)
  by_cases c18 : mid < 494
  · exact ok_rg (p := fun mid => ck_s mid && ck_r mid) ck_s18 (by omega) (by omega)
  by_cases c19 : mid < 506
  · exact ok_rg (p := fun mid => ck_s mid && ck_r mid) ck_s19 (by omega) (by omega)
  by_cases c20 : mid < 520
  · exact ok_rg (p := fun mid => ck_s mid && ck_r mid) ck_s20 (by omega) (by omega)
  by_cases c21 : mid < 563
  · exact ok_rg (p := fun mid => ck_s mid && ck_r mid) ck_s21 (by omega) (by omega)
  exact ok_rg (p := fun mid => ck_s mid && ck_r mid) ck_s22 (by omega) (by omega)
theorem ok_mt {sc : Nat × (Nat → Int)} : sm_ok (mt_P sc) (mt_M sc) := ok_of sg_300 sg_10 (fun mid h => by
  by_cases c : mid < 588
  · have h1 := ck_A c
    rw [Bool.and_eq_true] at h1
    exact ⟨h1.1, h1.2, ck_cA c, ck_nA c⟩
  · obtain rfl : mid = 588 := by omega
    exact lw_ck)
