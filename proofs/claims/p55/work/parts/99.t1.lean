/-! checks of methods -/
/-- ChipFlow.needRoom(Z)V -/
def sp_268_0 : sx_Sp := ((0, [q_A 0], [], [], [], [(0, 1)], [], [], 1), (0, [], [], [], [], [(1, 1)], [], [], 1), [3], (0, 1), ([], [], []))
def al_268_0 : List (Nat × sx_A) := []
theorem ck_268_0 : sx_chk cap_G (fun _ => none) al_268_0 (sx_tb []) 268 sp_268_0 24 = true := by decide +kernel
theorem sf_268_0 (sc : Nat × (Nat → Int)) : sx_sf (mt_P sc) cap_I 1 268 sp_268_0 := sx_sf_of cap_hI ck_268_0 trivial
/-- ChipFlow.needRange(Z)V -/
def sp_266_0 : sx_Sp := ((0, [q_A 0], [], [], [], [(0, 1)], [], [], 1), (0, [], [], [], [], [(1, 1)], [], [], 1), [1], (0, 1), ([], [], []))
def al_266_0 : List (Nat × sx_A) := []
theorem ck_266_0 : sx_chk cap_G (fun _ => none) al_266_0 (sx_tb []) 266 sp_266_0 24 = true := by decide +kernel
theorem sf_266_0 (sc : Nat × (Nat → Int)) : sx_sf (mt_P sc) cap_I 1 266 sp_266_0 := sx_sf_of cap_hI ck_266_0 trivial
/-- ChipFlow.end(I)V -/
def sp_212_0 : sx_Sp := ((0, [q_R 12 1 0, q_A 0], [], [], [], [((-2147483648), 2147483647)], [], [], 2), (0, [], [], [], [], [(0, 449)], [], [], 2), [1], (0, 1), ([(10, 1)], [], []))
def al_212_0 : List (Nat × sx_A) := []
theorem ck_212_0 : sx_chk cap_G (fun _ => none) al_212_0 (sx_tb [(266, [sp_266_0])]) 212 sp_212_0 39 = true := by decide +kernel
theorem sf_212_0 (sc : Nat × (Nat → Int)) : sx_sf (mt_P sc) cap_I 2 212 sp_212_0 := sx_sf_of cap_hI ck_212_0 ⟨⟨sx_sf_up (sf_266_0 sc) rfl, trivial⟩, trivial⟩
/-- Builder.bitsOf(II)I -/
def sp_33_0 : sx_Sp := ((0, [q_R 1 1 0, q_A 0, q_A 1, none, none], [], [], [(((1, 1, 0), 1), 2, 0)], [(0, 1), (0, 1)], [], [], 3), (0, [], [r_A 2], [], [(((1, 1, 0), 1), 3, 0)], [(0, 1), (0, 1), ((-2147483648), 2147483647)], [], [], 4), [], (0, 0), ([], [], []))
def al_33_0 : List (Nat × sx_A) := [(5, (5, [q_R 1 1 0, q_A 0, q_A 1, q_A 2, q_A 3], [], [], [(((1, 1, 0), 1), 3, 0)], [(0, 1), (0, 1), ((-2147483648), 2147483647), (0, 11)], [], [], 4), [(39, []), (11, [(3, (-1))]), (39, [])])]
theorem ck_33_0 : sx_chk cap_G (fun _ => none) al_33_0 (sx_tb []) 33 sp_33_0 56 = true := by decide +kernel
theorem sf_33_0 (sc : Nat × (Nat → Int)) : sx_sf (mt_P sc) cap_I 1 33 sp_33_0 := sx_sf_of cap_hI ck_33_0 trivial
/-- java/util/Arrays.fill([II)V -/
def sp_2_0 : sx_Sp := ((0, [q_R 42 1 0, q_A 0, none, none], [], [], [], [(0, 0)], [], [], 2), (0, [], [], [], [], [(0, 0)], [], [], 2), [], (0, 0), ([], [42], []))
def al_2_0 : List (Nat × sx_A) := [(5, (5, [q_R 42 1 0, q_A 0, q_A 1, q_A 2], [], [], [], [(0, 0), (0, 1013), (1013, 1013)], [], [], 2), [(15, []), (1013, [(1, (-1))]), (15, [])])]
theorem ck_2_0 : sx_chk cap_G (fun _ => none) al_2_0 (sx_tb []) 2 sp_2_0 30 = true := by decide +kernel
theorem sf_2_0 (sc : Nat × (Nat → Int)) : sx_sf (mt_P sc) cap_I 1 2 sp_2_0 := sx_sf_of cap_hI ck_2_0 trivial
/-- java/util/Arrays.fill([II)V -/
def sp_2_1 : sx_Sp := ((0, [q_R 43 1 0, q_A 0, none, none], [], [], [], [(0, 0)], [], [], 2), (0, [], [], [], [], [(0, 0)], [], [], 2), [], (0, 0), ([], [43], []))
def al_2_1 : List (Nat × sx_A) := [(5, (5, [q_R 43 1 0, q_A 0, q_A 1, q_A 2], [], [], [], [(0, 0), (0, 1013), (1013, 1013)], [], [], 2), [(15, []), (1013, [(1, (-1))]), (15, [])])]
theorem ck_2_1 : sx_chk cap_G (fun _ => none) al_2_1 (sx_tb []) 2 sp_2_1 30 = true := by decide +kernel
theorem sf_2_1 (sc : Nat × (Nat → Int)) : sx_sf (mt_P sc) cap_I 1 2 sp_2_1 := sx_sf_of cap_hI ck_2_1 trivial
/-- java/util/Arrays.fill([II)V -/
def sp_2_2 : sx_Sp := ((0, [q_R 29 1 0, q_A 0, none, none], [], [], [], [((-1), 0)], [], [], 2), (0, [], [], [], [], [((-1), 0)], [], [], 2), [], (0, 0), ([], [29], []))
def al_2_2 : List (Nat × sx_A) := [(5, (5, [q_R 29 1 0, q_A 0, q_A 1, q_A 2], [], [], [], [((-1), 0), (0, 4096), (4096, 4096)], [], [], 2), [(15, []), (4096, [(1, (-1))]), (15, [])])]
theorem ck_2_2 : sx_chk cap_G (fun _ => none) al_2_2 (sx_tb []) 2 sp_2_2 30 = true := by decide +kernel
theorem sf_2_2 (sc : Nat × (Nat → Int)) : sx_sf (mt_P sc) cap_I 1 2 sp_2_2 := sx_sf_of cap_hI ck_2_2 trivial
/-- java/util/Arrays.fill([II)V -/
def sp_2_3 : sx_Sp := ((0, [q_R 33 1 0, q_A 0, none, none], [], [], [], [(0, 0)], [], [], 2), (0, [], [], [], [], [(0, 0)], [], [], 2), [], (0, 0), ([], [33], []))
def al_2_3 : List (Nat × sx_A) := [(5, (5, [q_R 33 1 0, q_A 0, q_A 1, q_A 2], [], [], [], [(0, 0), (0, 1013), (1013, 1013)], [], [], 2), [(15, []), (1013, [(1, (-1))]), (15, [])])]
theorem ck_2_3 : sx_chk cap_G (fun _ => none) al_2_3 (sx_tb []) 2 sp_2_3 30 = true := by decide +kernel
theorem sf_2_3 (sc : Nat × (Nat → Int)) : sx_sf (mt_P sc) cap_I 1 2 sp_2_3 := sx_sf_of cap_hI ck_2_3 trivial
/-- java/util/Arrays.fill([II)V -/
def sp_2_4 : sx_Sp := ((0, [q_R 47 1 0, q_A 0, none, none], [], [], [], [(0, 0)], [], [], 2), (0, [], [], [], [], [(0, 0)], [], [], 2), [], (0, 0), ([], [47], []))
def al_2_4 : List (Nat × sx_A) := [(5, (5, [q_R 47 1 0, q_A 0, q_A 1, q_A 2], [], [], [], [(0, 0), (0, 4096), (4096, 4096)], [], [], 2), [(15, []), (4096, [(1, (-1))]), (15, [])])]
theorem ck_2_4 : sx_chk cap_G (fun _ => none) al_2_4 (sx_tb []) 2 sp_2_4 30 = true := by decide +kernel
theorem sf_2_4 (sc : Nat × (Nat → Int)) : sx_sf (mt_P sc) cap_I 1 2 sp_2_4 := sx_sf_of cap_hI ck_2_4 trivial
/-- java/util/Arrays.fill([II)V -/
def sp_2_5 : sx_Sp := ((0, [q_R 113 1 0, q_A 0, none, none], [], [], [], [((-2), (-2))], [], [], 2), (0, [], [], [], [], [((-2), (-2))], [], [], 2), [], (0, 0), ([], [113], []))
def al_2_5 : List (Nat × sx_A) := [(5, (5, [q_R 113 1 0, q_A 0, q_A 1, q_A 2], [], [], [], [((-2), (-2)), (0, 4096), (4096, 4096)], [], [], 2), [(15, []), (4096, [(1, (-1))]), (15, [])])]
theorem ck_2_5 : sx_chk cap_G (fun _ => none) al_2_5 (sx_tb []) 2 sp_2_5 30 = true := by decide +kernel
theorem sf_2_5 (sc : Nat × (Nat → Int)) : sx_sf (mt_P sc) cap_I 1 2 sp_2_5 := sx_sf_of cap_hI ck_2_5 trivial
/-- java/util/Arrays.fill([II)V -/
def sp_2_6 : sx_Sp := ((0, [q_R 59 1 0, q_A 0, none, none], [], [], [], [(0, 0)], [], [], 2), (0, [], [], [], [], [(0, 0)], [], [], 2), [], (0, 0), ([], [59], []))
def al_2_6 : List (Nat × sx_A) := [(5, (5, [q_R 59 1 0, q_A 0, q_A 1, q_A 2], [], [], [], [(0, 0), (0, 1013), (1013, 1013)], [], [], 2), [(15, []), (1013, [(1, (-1))]), (15, [])])]
theorem ck_2_6 : sx_chk cap_G (fun _ => none) al_2_6 (sx_tb []) 2 sp_2_6 30 = true := by decide +kernel
theorem sf_2_6 (sc : Nat × (Nat → Int)) : sx_sf (mt_P sc) cap_I 1 2 sp_2_6 := sx_sf_of cap_hI ck_2_6 trivial
/-- java/util/Arrays.fill([II)V -/
def sp_2_7 : sx_Sp := ((0, [q_R 60 1 0, q_A 0, none, none], [], [], [], [(0, 0)], [], [], 2), (0, [], [], [], [], [(0, 0)], [], [], 2), [], (0, 0), ([], [60], []))
def al_2_7 : List (Nat × sx_A) := [(5, (5, [q_R 60 1 0, q_A 0, q_A 1, q_A 2], [], [], [], [(0, 0), (0, 1013), (1013, 1013)], [], [], 2), [(15, []), (1013, [(1, (-1))]), (15, [])])]
theorem ck_2_7 : sx_chk cap_G (fun _ => none) al_2_7 (sx_tb []) 2 sp_2_7 30 = true := by decide +kernel
theorem sf_2_7 (sc : Nat × (Nat → Int)) : sx_sf (mt_P sc) cap_I 1 2 sp_2_7 := sx_sf_of cap_hI ck_2_7 trivial
/-- java/util/Arrays.fill([II)V -/
def sp_2_8 : sx_Sp := ((0, [q_R 39 1 0, q_A 0, none, none], [], [], [], [(0, 0)], [], [], 2), (0, [], [], [], [], [(0, 0)], [], [], 2), [], (0, 0), ([], [39], []))
def al_2_8 : List (Nat × sx_A) := [(5, (5, [q_R 39 1 0, q_A 0, q_A 1, q_A 2], [], [], [], [(0, 0), (0, 12), (12, 12)], [], [], 2), [(15, []), (12, [(1, (-1))]), (15, [])])]
theorem ck_2_8 : sx_chk cap_G (fun _ => none) al_2_8 (sx_tb []) 2 sp_2_8 30 = true := by decide +kernel
theorem sf_2_8 (sc : Nat × (Nat → Int)) : sx_sf (mt_P sc) cap_I 1 2 sp_2_8 := sx_sf_of cap_hI ck_2_8 trivial
/-- java/util/Arrays.fill([II)V -/
def sp_2_9 : sx_Sp := ((0, [q_R 72 1 0, q_A 0, none, none], [], [], [], [((-1), (-1))], [], [], 2), (0, [], [], [], [], [((-1), (-1))], [], [], 2), [], (0, 0), ([], [72], []))
def al_2_9 : List (Nat × sx_A) := [(5, (5, [q_R 72 1 0, q_A 0, q_A 1, q_A 2], [], [], [], [((-1), (-1)), (0, 3039), (3039, 3039)], [], [], 2), [(15, []), (3039, [(1, (-1))]), (15, [])])]
theorem ck_2_9 : sx_chk cap_G (fun _ => none) al_2_9 (sx_tb []) 2 sp_2_9 30 = true := by decide +kernel
theorem sf_2_9 (sc : Nat × (Nat → Int)) : sx_sf (mt_P sc) cap_I 1 2 sp_2_9 := sx_sf_of cap_hI ck_2_9 trivial
/-- java/util/Arrays.fill([II)V -/
def sp_2_10 : sx_Sp := ((0, [q_R 17 1 0, q_A 0, none, none], [], [], [], [((-1), (-1))], [], [], 2), (0, [], [], [], [], [((-1), (-1))], [], [], 2), [], (0, 0), ([], [17], []))
def al_2_10 : List (Nat × sx_A) := [(5, (5, [q_R 17 1 0, q_A 0, q_A 1, q_A 2], [], [], [], [((-1), (-1)), (0, 652), (652, 652)], [], [], 2), [(15, []), (652, [(1, (-1))]), (15, [])])]
theorem ck_2_10 : sx_chk cap_G (fun _ => none) al_2_10 (sx_tb []) 2 sp_2_10 30 = true := by decide +kernel
theorem sf_2_10 (sc : Nat × (Nat → Int)) : sx_sf (mt_P sc) cap_I 1 2 sp_2_10 := sx_sf_of cap_hI ck_2_10 trivial
/-- java/util/Arrays.fill([II)V -/
def sp_2_11 : sx_Sp := ((0, [q_R 20 1 0, q_A 0, none, none], [], [], [], [(0, 0)], [], [], 2), (0, [], [], [], [], [(0, 0)], [], [], 2), [], (0, 0), ([], [20], []))
def al_2_11 : List (Nat × sx_A) := [(5, (5, [q_R 20 1 0, q_A 0, q_A 1, q_A 2], [], [], [], [(0, 0), (0, 162), (162, 162)], [], [], 2), [(15, []), (162, [(1, (-1))]), (15, [])])]
theorem ck_2_11 : sx_chk cap_G (fun _ => none) al_2_11 (sx_tb []) 2 sp_2_11 30 = true := by decide +kernel
theorem sf_2_11 (sc : Nat × (Nat → Int)) : sx_sf (mt_P sc) cap_I 1 2 sp_2_11 := sx_sf_of cap_hI ck_2_11 trivial
/-- java/util/Arrays.fill([II)V -/
def sp_2_12 : sx_Sp := ((0, [q_R 21 1 0, q_A 0, none, none], [], [], [], [(0, 0)], [], [], 2), (0, [], [], [], [], [(0, 0)], [], [], 2), [], (0, 0), ([], [21], []))
def al_2_12 : List (Nat × sx_A) := [(5, (5, [q_R 21 1 0, q_A 0, q_A 1, q_A 2], [], [], [], [(0, 0), (0, 162), (162, 162)], [], [], 2), [(15, []), (162, [(1, (-1))]), (15, [])])]
theorem ck_2_12 : sx_chk cap_G (fun _ => none) al_2_12 (sx_tb []) 2 sp_2_12 30 = true := by decide +kernel
theorem sf_2_12 (sc : Nat × (Nat → Int)) : sx_sf (mt_P sc) cap_I 1 2 sp_2_12 := sx_sf_of cap_hI ck_2_12 trivial
/-- java/util/Arrays.fill([II)V -/
def sp_2_13 : sx_Sp := ((0, [q_R 96 1 0, q_A 0, none, none], [], [], [], [(0, 0)], [], [], 2), (0, [], [], [], [], [(0, 0)], [], [], 2), [], (0, 0), ([], [96], []))
def al_2_13 : List (Nat × sx_A) := [(5, (5, [q_R 96 1 0, q_A 0, q_A 1, q_A 2], [], [], [], [(0, 0), (0, 1224), (1224, 1224)], [], [], 2), [(15, []), (1224, [(1, (-1))]), (15, [])])]
theorem ck_2_13 : sx_chk cap_G (fun _ => none) al_2_13 (sx_tb []) 2 sp_2_13 30 = true := by decide +kernel
theorem sf_2_13 (sc : Nat × (Nat → Int)) : sx_sf (mt_P sc) cap_I 1 2 sp_2_13 := sx_sf_of cap_hI ck_2_13 trivial
/-- java/util/Arrays.fill([II)V -/
def sp_2_14 : sx_Sp := ((0, [q_R 94 1 0, q_A 0, none, none], [], [], [], [(0, 0)], [], [], 2), (0, [], [], [], [], [(0, 0)], [], [], 2), [], (0, 0), ([], [94], []))
def al_2_14 : List (Nat × sx_A) := [(5, (5, [q_R 94 1 0, q_A 0, q_A 1, q_A 2], [], [], [], [(0, 0), (0, 162), (162, 162)], [], [], 2), [(15, []), (162, [(1, (-1))]), (15, [])])]
theorem ck_2_14 : sx_chk cap_G (fun _ => none) al_2_14 (sx_tb []) 2 sp_2_14 30 = true := by decide +kernel
theorem sf_2_14 (sc : Nat × (Nat → Int)) : sx_sf (mt_P sc) cap_I 1 2 sp_2_14 := sx_sf_of cap_hI ck_2_14 trivial
/-- java/util/Arrays.fill([II)V -/
def sp_2_15 : sx_Sp := ((0, [q_R 34 1 0, q_A 0, none, none], [], [], [], [(0, 0)], [], [], 2), (0, [], [], [], [], [(0, 0)], [], [], 2), [], (0, 0), ([], [34], []))
def al_2_15 : List (Nat × sx_A) := [(5, (5, [q_R 34 1 0, q_A 0, q_A 1, q_A 2], [], [], [], [(0, 0), (0, 4096), (4096, 4096)], [], [], 2), [(15, []), (4096, [(1, (-1))]), (15, [])])]
theorem ck_2_15 : sx_chk cap_G (fun _ => none) al_2_15 (sx_tb []) 2 sp_2_15 30 = true := by decide +kernel
theorem sf_2_15 (sc : Nat × (Nat → Int)) : sx_sf (mt_P sc) cap_I 1 2 sp_2_15 := sx_sf_of cap_hI ck_2_15 trivial
/-- java/util/Arrays.fill([II)V -/
def sp_2_16 : sx_Sp := ((0, [q_R 22 1 0, q_A 0, none, none], [], [], [], [((-1), (-1))], [], [], 2), (0, [], [], [], [], [((-1), (-1))], [], [], 2), [], (0, 0), ([], [22], []))
def al_2_16 : List (Nat × sx_A) := [(5, (5, [q_R 22 1 0, q_A 0, q_A 1, q_A 2], [], [], [], [((-1), (-1)), (0, 4712), (4712, 4712)], [], [], 2), [(15, []), (4712, [(1, (-1))]), (15, [])])]
theorem ck_2_16 : sx_chk cap_G (fun _ => none) al_2_16 (sx_tb []) 2 sp_2_16 30 = true := by decide +kernel
theorem sf_2_16 (sc : Nat × (Nat → Int)) : sx_sf (mt_P sc) cap_I 1 2 sp_2_16 := sx_sf_of cap_hI ck_2_16 trivial
/-- java/util/Arrays.fill([II)V -/
def sp_2_17 : sx_Sp := ((0, [q_R 23 1 0, q_A 0, none, none], [], [], [], [(0, 0)], [], [], 2), (0, [], [], [], [], [(0, 0)], [], [], 2), [], (0, 0), ([], [23], []))
def al_2_17 : List (Nat × sx_A) := [(5, (5, [q_R 23 1 0, q_A 0, q_A 1, q_A 2], [], [], [], [(0, 0), (0, 4712), (4712, 4712)], [], [], 2), [(15, []), (4712, [(1, (-1))]), (15, [])])]
theorem ck_2_17 : sx_chk cap_G (fun _ => none) al_2_17 (sx_tb []) 2 sp_2_17 30 = true := by decide +kernel
theorem sf_2_17 (sc : Nat × (Nat → Int)) : sx_sf (mt_P sc) cap_I 1 2 sp_2_17 := sx_sf_of cap_hI ck_2_17 trivial
/-- java/util/Arrays.fill([II)V -/
def sp_2_18 : sx_Sp := ((0, [q_R 24 1 0, q_A 0, none, none], [], [], [], [(0, 0)], [], [], 2), (0, [], [], [], [], [(0, 0)], [], [], 2), [], (0, 0), ([], [24], []))
def al_2_18 : List (Nat × sx_A) := [(5, (5, [q_R 24 1 0, q_A 0, q_A 1, q_A 2], [], [], [], [(0, 0), (0, 162), (162, 162)], [], [], 2), [(15, []), (162, [(1, (-1))]), (15, [])])]
theorem ck_2_18 : sx_chk cap_G (fun _ => none) al_2_18 (sx_tb []) 2 sp_2_18 30 = true := by decide +kernel
theorem sf_2_18 (sc : Nat × (Nat → Int)) : sx_sf (mt_P sc) cap_I 1 2 sp_2_18 := sx_sf_of cap_hI ck_2_18 trivial
/-- java/util/Arrays.fill([II)V -/
def sp_2_19 : sx_Sp := ((0, [q_R 85 1 0, q_A 0, none, none], [], [], [], [((-1), (-1))], [], [], 2), (0, [], [], [], [], [((-1), (-1))], [], [], 2), [], (0, 0), ([], [85], []))
def al_2_19 : List (Nat × sx_A) := [(5, (5, [q_R 85 1 0, q_A 0, q_A 1, q_A 2], [], [], [], [((-1), (-1)), (0, 4712), (4712, 4712)], [], [], 2), [(15, []), (4712, [(1, (-1))]), (15, [])])]
theorem ck_2_19 : sx_chk cap_G (fun _ => none) al_2_19 (sx_tb []) 2 sp_2_19 30 = true := by decide +kernel
theorem sf_2_19 (sc : Nat × (Nat → Int)) : sx_sf (mt_P sc) cap_I 1 2 sp_2_19 := sx_sf_of cap_hI ck_2_19 trivial
/-- java/util/Arrays.fill([II)V -/
def sp_2_20 : sx_Sp := ((0, [q_R 49 1 0, q_A 0, none, none], [], [], [], [(0, 0)], [], [], 2), (0, [], [], [], [], [(0, 0)], [], [], 2), [], (0, 0), ([], [49], []))
def al_2_20 : List (Nat × sx_A) := [(5, (5, [q_R 49 1 0, q_A 0, q_A 1, q_A 2], [], [], [], [(0, 0), (0, 162), (162, 162)], [], [], 2), [(15, []), (162, [(1, (-1))]), (15, [])])]
theorem ck_2_20 : sx_chk cap_G (fun _ => none) al_2_20 (sx_tb []) 2 sp_2_20 30 = true := by decide +kernel
theorem sf_2_20 (sc : Nat × (Nat → Int)) : sx_sf (mt_P sc) cap_I 1 2 sp_2_20 := sx_sf_of cap_hI ck_2_20 trivial
/-- java/util/Arrays.fill([II)V -/
def sp_2_21 : sx_Sp := ((0, [q_R 101 1 0, q_A 0, none, none], [], [], [], [((-1), (-1))], [], [], 2), (0, [], [], [], [], [((-1), (-1))], [], [], 2), [], (0, 0), ([], [101], []))
def al_2_21 : List (Nat × sx_A) := [(5, (5, [q_R 101 1 0, q_A 0, q_A 1, q_A 2], [], [], [], [((-1), (-1)), (0, 1944), (1944, 1944)], [], [], 2), [(15, []), (1944, [(1, (-1))]), (15, [])])]
theorem ck_2_21 : sx_chk cap_G (fun _ => none) al_2_21 (sx_tb []) 2 sp_2_21 30 = true := by decide +kernel
theorem sf_2_21 (sc : Nat × (Nat → Int)) : sx_sf (mt_P sc) cap_I 1 2 sp_2_21 := sx_sf_of cap_hI ck_2_21 trivial
/-- java/util/Arrays.fill([II)V -/
def sp_2_22 : sx_Sp := ((0, [q_R 41 1 0, q_A 0, none, none], [], [], [], [(0, 0)], [], [], 2), (0, [], [], [], [], [(0, 0)], [], [], 2), [], (0, 0), ([], [41], []))
def al_2_22 : List (Nat × sx_A) := [(5, (5, [q_R 41 1 0, q_A 0, q_A 1, q_A 2], [], [], [], [(0, 0), (0, 1224), (1224, 1224)], [], [], 2), [(15, []), (1224, [(1, (-1))]), (15, [])])]
theorem ck_2_22 : sx_chk cap_G (fun _ => none) al_2_22 (sx_tb []) 2 sp_2_22 30 = true := by decide +kernel
theorem sf_2_22 (sc : Nat × (Nat → Int)) : sx_sf (mt_P sc) cap_I 1 2 sp_2_22 := sx_sf_of cap_hI ck_2_22 trivial
/-- Builder.cellOf(II)I -/
def sp_35_0 : sx_Sp := ((0, [q_A 0, q_A 1], [], [], [], [(0, 255), (0, 63)], [], [], 1), (0, [], [r_A 2], [], [], [(0, 255), (0, 63), (0, 82104)], [(81849, [(0, 1), (2, (-1))]), (82041, [(1, 1), (2, (-1))]), (0, [(0, (-1)), (2, 1)]), (0, [(1, (-1)), (2, 1)])], [], 1), [], (0, 0), ([], [], []))
def al_35_0 : List (Nat × sx_A) := []
theorem ck_35_0 : sx_chk cap_G (fun _ => none) al_35_0 (sx_tb []) 35 sp_35_0 28 = true := by decide +kernel
theorem sf_35_0 (sc : Nat × (Nat → Int)) : sx_sf (mt_P sc) cap_I 1 35 sp_35_0 := sx_sf_of cap_hI ck_35_0 trivial
/-- Design.firstAnd()I -/
def sp_63_0 : sx_Sp := ((0, [q_R 3 1 0], [], [], [], [], [], [], 2), (0, [], [r_A 0], [(((3, 1, 0), 1), (0, [(1, 1)])), (((3, 1, 0), 2), (0, [(2, 1)]))], [], [(1, 12), (0, 8), (0, 3)], [(4, [(0, (-1)), (1, 1)]), (9, [(0, (-1)), (2, 1)]), ((-1), [(0, 1), (1, (-1))]), ((-1), [(0, 1), (2, (-1))])], [], 2), [], (0, 0), ([], [], []))
def al_63_0 : List (Nat × sx_A) := []
theorem ck_63_0 : sx_chk cap_G (fun _ => none) al_63_0 (sx_tb []) 63 sp_63_0 28 = true := by decide +kernel
theorem sf_63_0 (sc : Nat × (Nat → Int)) : sx_sf (mt_P sc) cap_I 1 63 sp_63_0 := sx_sf_of cap_hI ck_63_0 trivial
/-- Design.roots()I -/
def sp_66_0 : sx_Sp := ((0, [q_R 3 1 0], [], [], [], [], [], [], 2), (0, [], [r_A 0], [(((3, 1, 0), 2), (0, [(1, 1)])), (((3, 1, 0), 3), (0, [(2, 1)]))], [], [(0, 8), (0, 3), (0, 5)], [(5, [(0, (-1)), (1, 1)]), (3, [(0, (-1)), (2, 1)]), (0, [(0, 1), (1, (-1))]), (0, [(0, 1), (2, (-1))])], [], 2), [], (0, 0), ([], [], []))
def al_66_0 : List (Nat × sx_A) := []
theorem ck_66_0 : sx_chk cap_G (fun _ => none) al_66_0 (sx_tb []) 66 sp_66_0 26 = true := by decide +kernel
theorem sf_66_0 (sc : Nat × (Nat → Int)) : sx_sf (mt_P sc) cap_I 1 66 sp_66_0 := sx_sf_of cap_hI ck_66_0 trivial
/-- Builder.wordOf(II)J -/
def sp_48_0 : sx_Sp := ((0, [q_R 1 1 0, q_A 0, q_A 1, none, none], [], [(((1, 1, 0), 8), (0, [(2, 1)]))], [(((1, 1, 0), 1), 2, 0)], [(0, 255), (0, 31), (0, 0)], [], [], 3), (0, [], [r_J], [(((1, 1, 0), 8), (0, [(3, 1)]))], [(((1, 1, 0), 1), 3, 0)], [(0, 255), (0, 31), (0, 0), (0, 0)], [], [], 4), [], (0, 0), ([], [], []))
def al_48_0 : List (Nat × sx_A) := []
theorem ck_48_0 : sx_chk cap_G (fun _ => none) al_48_0 (sx_tb []) 48 sp_48_0 42 = true := by decide +kernel
theorem sf_48_0 (sc : Nat × (Nat → Int)) : sx_sf (mt_P sc) cap_I 1 48 sp_48_0 := sx_sf_of cap_hI ck_48_0 trivial
/-- Builder.bitWord(II)J -/
def sp_49_0 : sx_Sp := ((0, [q_A 0, q_A 1], [], [], [], [(0, 147), (0, 31)], [], [], 1), (0, [], [r_J], [], [], [(0, 147), (0, 31)], [], [], 1), [], (0, 0), ([], [], []))
def al_49_0 : List (Nat × sx_A) := []
theorem ck_49_0 : sx_chk cap_G (fun _ => none) al_49_0 (sx_tb []) 49 sp_49_0 40 = true := by decide +kernel
theorem sf_49_0 (sc : Nat × (Nat → Int)) : sx_sf (mt_P sc) cap_I 1 49 sp_49_0 := sx_sf_of cap_hI ck_49_0 trivial
