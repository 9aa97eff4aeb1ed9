/-! checks of methods -/
/-- ChipFlow.needRoom(Z)V -/
def sp_268_0 : sx_Sp := ((0, [q_A 0], [], [], [], [(0, 1)], [], [], 1), (0, [], [], [], [], [(1, 1)], [], [], 1), [3], (0, 1), ([], [], []))
def al_268_0 : List (Nat × sx_A) := []
theorem ck_268_0 : sx_chk cap_G (fun _ => none) al_268_0 (sx_tb []) 268 sp_268_0 24 = true := by decide +kernel
theorem sf_268_0 (sc : Nat × (Nat → Int)) : sx_sf (mt_P sc) cap_I 1 268 sp_268_0 := sx_sf_of cap_hI ck_268_0 trivial
/-- ChipFlow.needRange(Z)V -/
def sp_266_0 : sx_Sp := ((0, [q_A 0], [], [], [], [(0, 1)], [], [], 1), (0, [], [], [], [], [(1, 1)], [], [], 1), [1], (0, 1), ([], [], []))
def al_266_0 : List (Nat × sx_A) := []
theorem ck_266_0 : sx_chk cap_G (fun _ => none) al_266_0 (sx_tb []) 266 sp_266_0 24 = true := by decide +kernel
theorem sf_266_0 (sc : Nat × (Nat → Int)) : sx_sf (mt_P sc) cap_I 1 266 sp_266_0 := sx_sf_of cap_hI ck_266_0 trivial
/-- ChipFlow.end(I)V -/
def sp_212_0 : sx_Sp := ((0, [q_R 12 1 0, q_A 0], [], [], [], [((-2147483648), 2147483647)], [], [], 2), (0, [], [], [], [], [(0, 449)], [], [], 2), [1], (0, 1), ([(10, 1)], [], []))
def al_212_0 : List (Nat × sx_A) := []
theorem ck_212_0 : sx_chk cap_G (fun _ => none) al_212_0 (sx_tb [(266, [sp_266_0])]) 212 sp_212_0 39 = true := by decide +kernel
theorem sf_212_0 (sc : Nat × (Nat → Int)) : sx_sf (mt_P sc) cap_I 2 212 sp_212_0 := sx_sf_of cap_hI ck_212_0 ⟨⟨sx_sf_up (sf_266_0 sc) rfl, trivial⟩, trivial⟩
/-- Builder.bitsOf(II)I -/
def sp_33_0 : sx_Sp := ((0, [q_R 1 1 0, q_A 0, q_A 1, none, none], [], [], [(((1, 1, 0), 1), 2, 0)], [(0, 1), (0, 1)], [], [], 3), (0, [], [r_A 2], [], [(((1, 1, 0), 1), 3, 0)], [(0, 1), (0, 1), ((-2147483648), 2147483647)], [], [], 4), [], (0, 0), ([], [], []))
def al_33_0 : List (Nat × sx_A) := [(5, (5, [q_R 1 1 0, q_A 0, q_A 1, q_A 2, q_A 3], [], [], [(((1, 1, 0), 1), 3, 0)], [(0, 1), (0, 1), ((-2147483648), 2147483647), (0, 11)], [], [], 4), [(39, []), (11, [(3, (-1))]), (39, [])])]
theorem ck_33_0 : sx_chk cap_G (fun _ => none) al_33_0 (sx_tb []) 33 sp_33_0 56 = true := by decide +kernel
theorem sf_33_0 (sc : Nat × (Nat → Int)) : sx_sf (mt_P sc) cap_I 1 33 sp_33_0 := sx_sf_of cap_hI ck_33_0 trivial
/-- java/util/Arrays.fill([II)V -/
def sp_2_0 : sx_Sp := ((0, [q_R 42 1 0, q_A 0, none, none], [], [], [], [(0, 0)], [], [], 2), (0, [], [], [], [], [(0, 0)], [], [], 2), [], (0, 0), ([], [42], []))
def al_2_0 : List (Nat × sx_A) := [(5, (5, [q_R 42 1 0, q_A 0, q_A 1, q_A 2], [], [], [], [(0, 0), (0, 1013), (1013, 1013)], [], [], 2), [(15, []), (1013, [(1, (-1))]), (15, [])])]
theorem ck_2_0 : sx_chk cap_G (fun _ => none) al_2_0 (sx_tb []) 2 sp_2_0 30 = true := by decide +kernel
theorem sf_2_0 (sc : Nat × (Nat → Int)) : sx_sf (mt_P sc) cap_I 1 2 sp_2_0 := sx_sf_of cap_hI ck_2_0 trivial
/-- java/util/Arrays.fill([II)V -/
def sp_2_1 : sx_Sp := ((0, [q_R 43 1 0, q_A 0, none, none], [], [], [], [(0, 0)], [], [], 2), (0, [], [], [], [], [(0, 0)], [], [], 2), [], (0, 0), ([], [43], []))
def al_2_1 : List (Nat × sx_A) := [(5, (5, [q_R 43 1 0, q_A 0, q_A 1, q_A 2], [], [], [], [(0, 0), (0, 1013), (1013, 1013)], [], [], 2), [(15, []), (1013, [(1, (-1))]), (15, [])])]
theorem ck_2_1 : sx_chk cap_G (fun _ => none) al_2_1 (sx_tb []) 2 sp_2_1 30 = true := by decide +kernel
theorem sf_2_1 (sc : Nat × (Nat → Int)) : sx_sf (mt_P sc) cap_I 1 2 sp_2_1 := sx_sf_of cap_hI ck_2_1 trivial
/-- java/util/Arrays.fill([II)V -/
def sp_2_2 : sx_Sp := ((0, [q_R 29 1 0, q_A 0, none, none], [], [], [], [((-1), 0)], [], [], 2), (0, [], [], [], [], [((-1), 0)], [], [], 2), [], (0, 0), ([], [29], []))
def al_2_2 : List (Nat × sx_A) := [(5, (5, [q_R 29 1 0, q_A 0, q_A 1, q_A 2], [], [], [], [((-1), 0), (0, 4096), (4096, 4096)], [], [], 2), [(15, []), (4096, [(1, (-1))]), (15, [])])]
theorem ck_2_2 : sx_chk cap_G (fun _ => none) al_2_2 (sx_tb []) 2 sp_2_2 30 = true := by decide +kernel
theorem sf_2_2 (sc : Nat × (Nat → Int)) : sx_sf (mt_P sc) cap_I 1 2 sp_2_2 := sx_sf_of cap_hI ck_2_2 trivial
/-- java/util/Arrays.fill([II)V -/
def sp_2_3 : sx_Sp := ((0, [q_R 33 1 0, q_A 0, none, none], [], [], [], [(0, 0)], [], [], 2), (0, [], [], [], [], [(0, 0)], [], [], 2), [], (0, 0), ([], [33], []))
def al_2_3 : List (Nat × sx_A) := [(5, (5, [q_R 33 1 0, q_A 0, q_A 1, q_A 2], [], [], [], [(0, 0), (0, 1013), (1013, 1013)], [], [], 2), [(15, []), (1013, [(1, (-1))]), (15, [])])]
theorem ck_2_3 : sx_chk cap_G (fun _ => none) al_2_3 (sx_tb []) 2 sp_2_3 30 = true := by decide +kernel
theorem sf_2_3 (sc : Nat × (Nat → Int)) : sx_sf (mt_P sc) cap_I 1 2 sp_2_3 := sx_sf_of cap_hI ck_2_3 trivial
/-- java/util/Arrays.fill([II)V -/
def sp_2_4 : sx_Sp := ((0, [q_R 47 1 0, q_A 0, none, none], [], [], [], [(0, 0)], [], [], 2), (0, [], [], [], [], [(0, 0)], [], [], 2), [], (0, 0), ([], [47], []))
def al_2_4 : List (Nat × sx_A) := [(5, (5, [q_R 47 1 0, q_A 0, q_A 1, q_A 2], [], [], [], [(0, 0), (0, 4096), (4096, 4096)], [], [], 2), [(15, []), (4096, [(1, (-1))]), (15, [])])]
theorem ck_2_4 : sx_chk cap_G (fun _ => none) al_2_4 (sx_tb []) 2 sp_2_4 30 = true := by decide +kernel
theorem sf_2_4 (sc : Nat × (Nat → Int)) : sx_sf (mt_P sc) cap_I 1 2 sp_2_4 := sx_sf_of cap_hI ck_2_4 trivial
/-- java/util/Arrays.fill([II)V -/
def sp_2_5 : sx_Sp := ((0, [q_R 113 1 0, q_A 0, none, none], [], [], [], [((-2), (-2))], [], [], 2), (0, [], [], [], [], [((-2), (-2))], [], [], 2), [], (0, 0), ([], [113], []))
def al_2_5 : List (Nat × sx_A) := [(5, (5, [q_R 113 1 0, q_A 0, q_A 1, q_A 2], [], [], [], [((-2), (-2)), (0, 4096), (4096, 4096)], [], [], 2), [(15, []), (4096, [(1, (-1))]), (15, [])])]
theorem ck_2_5 : sx_chk cap_G (fun _ => none) al_2_5 (sx_tb []) 2 sp_2_5 30 = true := by decide +kernel
theorem sf_2_5 (sc : Nat × (Nat → Int)) : sx_sf (mt_P sc) cap_I 1 2 sp_2_5 := sx_sf_of cap_hI ck_2_5 trivial
/-- java/util/Arrays.fill([II)V -/
def sp_2_6 : sx_Sp := ((0, [q_R 59 1 0, q_A 0, none, none], [], [], [], [(0, 0)], [], [], 2), (0, [], [], [], [], [(0, 0)], [], [], 2), [], (0, 0), ([], [59], []))
def al_2_6 : List (Nat × sx_A) := [(5, (5, [q_R 59 1 0, q_A 0, q_A 1, q_A 2], [], [], [], [(0, 0), (0, 1013), (1013, 1013)], [], [], 2), [(15, []), (1013, [(1, (-1))]), (15, [])])]
theorem ck_2_6 : sx_chk cap_G (fun _ => none) al_2_6 (sx_tb []) 2 sp_2_6 30 = true := by decide +kernel
theorem sf_2_6 (sc : Nat × (Nat → Int)) : sx_sf (mt_P sc) cap_I 1 2 sp_2_6 := sx_sf_of cap_hI ck_2_6 trivial
/-- java/util/Arrays.fill([II)V -/
def sp_2_7 : sx_Sp := ((0, [q_R 60 1 0, q_A 0, none, none], [], [], [], [(0, 0)], [], [], 2), (0, [], [], [], [], [(0, 0)], [], [], 2), [], (0, 0), ([], [60], []))
def al_2_7 : List (Nat × sx_A) := [(5, (5, [q_R 60 1 0, q_A 0, q_A 1, q_A 2], [], [], [], [(0, 0), (0, 1013), (1013, 1013)], [], [], 2), [(15, []), (1013, [(1, (-1))]), (15, [])])]
theorem ck_2_7 : sx_chk cap_G (fun _ => none) al_2_7 (sx_tb []) 2 sp_2_7 30 = true := by decide +kernel
theorem sf_2_7 (sc : Nat × (Nat → Int)) : sx_sf (mt_P sc) cap_I 1 2 sp_2_7 := sx_sf_of cap_hI ck_2_7 trivial
/-- java/util/Arrays.fill([II)V -/
def sp_2_8 : sx_Sp := ((0, [q_R 39 1 0, q_A 0, none, none], [], [], [], [(0, 0)], [], [], 2), (0, [], [], [], [], [(0, 0)], [], [], 2), [], (0, 0), ([], [39], []))
def al_2_8 : List (Nat × sx_A) := [(5, (5, [q_R 39 1 0, q_A 0, q_A 1, q_A 2], [], [], [], [(0, 0), (0, 12), (12, 12)], [], [], 2), [(15, []), (12, [(1, (-1))]), (15, [])])]
theorem ck_2_8 : sx_chk cap_G (fun _ => none) al_2_8 (sx_tb []) 2 sp_2_8 30 = true := by decide +kernel
theorem sf_2_8 (sc : Nat × (Nat → Int)) : sx_sf (mt_P sc) cap_I 1 2 sp_2_8 := sx_sf_of cap_hI ck_2_8 trivial
/-- java/util/Arrays.fill([II)V -/
def sp_2_9 : sx_Sp := ((0, [q_R 72 1 0, q_A 0, none, none], [], [], [], [((-1), (-1))], [], [], 2), (0, [], [], [], [], [((-1), (-1))], [], [], 2), [], (0, 0), ([], [72], []))
def al_2_9 : List (Nat × sx_A) := [(5, (5, [q_R 72 1 0, q_A 0, q_A 1, q_A 2], [], [], [], [((-1), (-1)), (0, 3039), (3039, 3039)], [], [], 2), [(15, []), (3039, [(1, (-1))]), (15, [])])]
theorem ck_2_9 : sx_chk cap_G (fun _ => none) al_2_9 (sx_tb []) 2 sp_2_9 30 = true := by decide +kernel
theorem sf_2_9 (sc : Nat × (Nat → Int)) : sx_sf (mt_P sc) cap_I 1 2 sp_2_9 := sx_sf_of cap_hI ck_2_9 trivial
/-- java/util/Arrays.fill([II)V -/
def sp_2_10 : sx_Sp := ((0, [q_R 17 1 0, q_A 0, none, none], [], [], [], [((-1), (-1))], [], [], 2), (0, [], [], [], [], [((-1), (-1))], [], [], 2), [], (0, 0), ([], [17], []))
def al_2_10 : List (Nat × sx_A) := [(5, (5, [q_R 17 1 0, q_A 0, q_A 1, q_A 2], [], [], [], [((-1), (-1)), (0, 652), (652, 652)], [], [], 2), [(15, []), (652, [(1, (-1))]), (15, [])])]
theorem ck_2_10 : sx_chk cap_G (fun _ => none) al_2_10 (sx_tb []) 2 sp_2_10 30 = true := by decide +kernel
theorem sf_2_10 (sc : Nat × (Nat → Int)) : sx_sf (mt_P sc) cap_I 1 2 sp_2_10 := sx_sf_of cap_hI ck_2_10 trivial
/-- java/util/Arrays.fill([II)V -/
def sp_2_11 : sx_Sp := ((0, [q_R 20 1 0, q_A 0, none, none], [], [], [], [(0, 0)], [], [], 2), (0, [], [], [], [], [(0, 0)], [], [], 2), [], (0, 0), ([], [20], []))
def al_2_11 : List (Nat × sx_A) := [(5, (5, [q_R 20 1 0, q_A 0, q_A 1, q_A 2], [], [], [], [(0, 0), (0, 162), (162, 162)], [], [], 2), [(15, []), (162, [(1, (-1))]), (15, [])])]
theorem ck_2_11 : sx_chk cap_G (fun _ => none) al_2_11 (sx_tb []) 2 sp_2_11 30 = true := by decide +kernel
theorem sf_2_11 (sc : Nat × (Nat → Int)) : sx_sf (mt_P sc) cap_I 1 2 sp_2_11 := sx_sf_of cap_hI ck_2_11 trivial
/-- java/util/Arrays.fill([II)V -/
def sp_2_12 : sx_Sp := ((0, [q_R 21 1 0, q_A 0, none, none], [], [], [], [(0, 0)], [], [], 2), (0, [], [], [], [], [(0, 0)], [], [], 2), [], (0, 0), ([], [21], []))
def al_2_12 : List (Nat × sx_A) := [(5, (5, [q_R 21 1 0, q_A 0, q_A 1, q_A 2], [], [], [], [(0, 0), (0, 162), (162, 162)], [], [], 2), [(15, []), (162, [(1, (-1))]), (15, [])])]
theorem ck_2_12 : sx_chk cap_G (fun _ => none) al_2_12 (sx_tb []) 2 sp_2_12 30 = true := by decide +kernel
theorem sf_2_12 (sc : Nat × (Nat → Int)) : sx_sf (mt_P sc) cap_I 1 2 sp_2_12 := sx_sf_of cap_hI ck_2_12 trivial
/-- java/util/Arrays.fill([II)V -/
def sp_2_13 : sx_Sp := ((0, [q_R 96 1 0, q_A 0, none, none], [], [], [], [(0, 0)], [], [], 2), (0, [], [], [], [], [(0, 0)], [], [], 2), [], (0, 0), ([], [96], []))
def al_2_13 : List (Nat × sx_A) := [(5, (5, [q_R 96 1 0, q_A 0, q_A 1, q_A 2], [], [], [], [(0, 0), (0, 1224), (1224, 1224)], [], [], 2), [(15, []), (1224, [(1, (-1))]), (15, [])])]
theorem ck_2_13 : sx_chk cap_G (fun _ => none) al_2_13 (sx_tb []) 2 sp_2_13 30 = true := by decide +kernel
theorem sf_2_13 (sc : Nat × (Nat → Int)) : sx_sf (mt_P sc) cap_I 1 2 sp_2_13 := sx_sf_of cap_hI ck_2_13 trivial
/-- java/util/Arrays.fill([II)V -/
def sp_2_14 : sx_Sp := ((0, [q_R 94 1 0, q_A 0, none, none], [], [], [], [(0, 0)], [], [], 2), (0, [], [], [], [], [(0, 0)], [], [], 2), [], (0, 0), ([], [94], []))
def al_2_14 : List (Nat × sx_A) := [(5, (5, [q_R 94 1 0, q_A 0, q_A 1, q_A 2], [], [], [], [(0, 0), (0, 162), (162, 162)], [], [], 2), [(15, []), (162, [(1, (-1))]), (15, [])])]
theorem ck_2_14 : sx_chk cap_G (fun _ => none) al_2_14 (sx_tb []) 2 sp_2_14 30 = true := by decide +kernel
theorem sf_2_14 (sc : Nat × (Nat → Int)) : sx_sf (mt_P sc) cap_I 1 2 sp_2_14 := sx_sf_of cap_hI ck_2_14 trivial
/-- java/util/Arrays.fill([II)V -/
def sp_2_15 : sx_Sp := ((0, [q_R 34 1 0, q_A 0, none, none], [], [], [], [(0, 0)], [], [], 2), (0, [], [], [], [], [(0, 0)], [], [], 2), [], (0, 0), ([], [34], []))
def al_2_15 : List (Nat × sx_A) := [(5, (5, [q_R 34 1 0, q_A 0, q_A 1, q_A 2], [], [], [], [(0, 0), (0, 4096), (4096, 4096)], [], [], 2), [(15, []), (4096, [(1, (-1))]), (15, [])])]
theorem ck_2_15 : sx_chk cap_G (fun _ => none) al_2_15 (sx_tb []) 2 sp_2_15 30 = true := by decide +kernel
theorem sf_2_15 (sc : Nat × (Nat → Int)) : sx_sf (mt_P sc) cap_I 1 2 sp_2_15 := sx_sf_of cap_hI ck_2_15 trivial
/-- java/util/Arrays.fill([II)V -/
def sp_2_16 : sx_Sp := ((0, [q_R 22 1 0, q_A 0, none, none], [], [], [], [((-1), (-1))], [], [], 2), (0, [], [], [], [], [((-1), (-1))], [], [], 2), [], (0, 0), ([], [22], []))
def al_2_16 : List (Nat × sx_A) := [(5, (5, [q_R 22 1 0, q_A 0, q_A 1, q_A 2], [], [], [], [((-1), (-1)), (0, 4712), (4712, 4712)], [], [], 2), [(15, []), (4712, [(1, (-1))]), (15, [])])]
theorem ck_2_16 : sx_chk cap_G (fun _ => none) al_2_16 (sx_tb []) 2 sp_2_16 30 = true := by decide +kernel
theorem sf_2_16 (sc : Nat × (Nat → Int)) : sx_sf (mt_P sc) cap_I 1 2 sp_2_16 := sx_sf_of cap_hI ck_2_16 trivial
/-- java/util/Arrays.fill([II)V -/
def sp_2_17 : sx_Sp := ((0, [q_R 23 1 0, q_A 0, none, none], [], [], [], [(0, 0)], [], [], 2), (0, [], [], [], [], [(0, 0)], [], [], 2), [], (0, 0), ([], [23], []))
def al_2_17 : List (Nat × sx_A) := [(5, (5, [q_R 23 1 0, q_A 0, q_A 1, q_A 2], [], [], [], [(0, 0), (0, 4712), (4712, 4712)], [], [], 2), [(15, []), (4712, [(1, (-1))]), (15, [])])]
theorem ck_2_17 : sx_chk cap_G (fun _ => none) al_2_17 (sx_tb []) 2 sp_2_17 30 = true := by decide +kernel
theorem sf_2_17 (sc : Nat × (Nat → Int)) : sx_sf (mt_P sc) cap_I 1 2 sp_2_17 := sx_sf_of cap_hI ck_2_17 trivial
/-- java/util/Arrays.fill([II)V -/
def sp_2_18 : sx_Sp := ((0, [q_R 24 1 0, q_A 0, none, none], [], [], [], [(0, 0)], [], [], 2), (0, [], [], [], [], [(0, 0)], [], [], 2), [], (0, 0), ([], [24], []))
def al_2_18 : List (Nat × sx_A) := [(5, (5, [q_R 24 1 0, q_A 0, q_A 1, q_A 2], [], [], [], [(0, 0), (0, 162), (162, 162)], [], [], 2), [(15, []), (162, [(1, (-1))]), (15, [])])]
theorem ck_2_18 : sx_chk cap_G (fun _ => none) al_2_18 (sx_tb []) 2 sp_2_18 30 = true := by decide +kernel
theorem sf_2_18 (sc : Nat × (Nat → Int)) : sx_sf (mt_P sc) cap_I 1 2 sp_2_18 := sx_sf_of cap_hI ck_2_18 trivial
/-- java/util/Arrays.fill([II)V -/
def sp_2_19 : sx_Sp := ((0, [q_R 85 1 0, q_A 0, none, none], [], [], [], [((-1), (-1))], [], [], 2), (0, [], [], [], [], [((-1), (-1))], [], [], 2), [], (0, 0), ([], [85], []))
def al_2_19 : List (Nat × sx_A) := [(5, (5, [q_R 85 1 0, q_A 0, q_A 1, q_A 2], [], [], [], [((-1), (-1)), (0, 4712), (4712, 4712)], [], [], 2), [(15, []), (4712, [(1, (-1))]), (15, [])])]
theorem ck_2_19 : sx_chk cap_G (fun _ => none) al_2_19 (sx_tb []) 2 sp_2_19 30 = true := by decide +kernel
theorem sf_2_19 (sc : Nat × (Nat → Int)) : sx_sf (mt_P sc) cap_I 1 2 sp_2_19 := sx_sf_of cap_hI ck_2_19 trivial
/-- java/util/Arrays.fill([II)V -/
def sp_2_20 : sx_Sp := ((0, [q_R 49 1 0, q_A 0, none, none], [], [], [], [(0, 0)], [], [], 2), (0, [], [], [], [], [(0, 0)], [], [], 2), [], (0, 0), ([], [49], []))
def al_2_20 : List (Nat × sx_A) := [(5, (5, [q_R 49 1 0, q_A 0, q_A 1, q_A 2], [], [], [], [(0, 0), (0, 162), (162, 162)], [], [], 2), [(15, []), (162, [(1, (-1))]), (15, [])])]
theorem ck_2_20 : sx_chk cap_G (fun _ => none) al_2_20 (sx_tb []) 2 sp_2_20 30 = true := by decide +kernel
theorem sf_2_20 (sc : Nat × (Nat → Int)) : sx_sf (mt_P sc) cap_I 1 2 sp_2_20 := sx_sf_of cap_hI ck_2_20 trivial
/-- java/util/Arrays.fill([II)V -/
def sp_2_21 : sx_Sp := ((0, [q_R 101 1 0, q_A 0, none, none], [], [], [], [((-1), (-1))], [], [], 2), (0, [], [], [], [], [((-1), (-1))], [], [], 2), [], (0, 0), ([], [101], []))
def al_2_21 : List (Nat × sx_A) := [(5, (5, [q_R 101 1 0, q_A 0, q_A 1, q_A 2], [], [], [], [((-1), (-1)), (0, 1944), (1944, 1944)], [], [], 2), [(15, []), (1944, [(1, (-1))]), (15, [])])]
theorem ck_2_21 : sx_chk cap_G (fun _ => none) al_2_21 (sx_tb []) 2 sp_2_21 30 = true := by decide +kernel
theorem sf_2_21 (sc : Nat × (Nat → Int)) : sx_sf (mt_P sc) cap_I 1 2 sp_2_21 := sx_sf_of cap_hI ck_2_21 trivial
/-- java/util/Arrays.fill([II)V -/
def sp_2_22 : sx_Sp := ((0, [q_R 41 1 0, q_A 0, none, none], [], [], [], [(0, 0)], [], [], 2), (0, [], [], [], [], [(0, 0)], [], [], 2), [], (0, 0), ([], [41], []))
def al_2_22 : List (Nat × sx_A) := [(5, (5, [q_R 41 1 0, q_A 0, q_A 1, q_A 2], [], [], [], [(0, 0), (0, 1224), (1224, 1224)], [], [], 2), [(15, []), (1224, [(1, (-1))]), (15, [])])]
theorem ck_2_22 : sx_chk cap_G (fun _ => none) al_2_22 (sx_tb []) 2 sp_2_22 30 = true := by decide +kernel
theorem sf_2_22 (sc : Nat × (Nat → Int)) : sx_sf (mt_P sc) cap_I 1 2 sp_2_22 := sx_sf_of cap_hI ck_2_22 trivial
/-- Builder.cellOf(II)I -/
def sp_35_0 : sx_Sp := ((0, [q_A 0, q_A 1], [], [], [], [(0, 255), (0, 63)], [], [], 1), (0, [], [r_A 2], [], [], [(0, 255), (0, 63), (0, 82104)], [(81849, [(0, 1), (2, (-1))]), (82041, [(1, 1), (2, (-1))]), (0, [(0, (-1)), (2, 1)]), (0, [(1, (-1)), (2, 1)])], [], 1), [], (0, 0), ([], [], []))
def al_35_0 : List (Nat × sx_A) := []
theorem ck_35_0 : sx_chk cap_G (fun _ => none) al_35_0 (sx_tb []) 35 sp_35_0 28 = true := by decide +kernel
theorem sf_35_0 (sc : Nat × (Nat → Int)) : sx_sf (mt_P sc) cap_I 1 35 sp_35_0 := sx_sf_of cap_hI ck_35_0 trivial
/-- Design.firstAnd()I -/
def sp_63_0 : sx_Sp := ((0, [q_R 3 1 0], [], [], [], [], [], [], 2), (0, [], [r_A 0], [(((3, 1, 0), 1), (0, [(1, 1)])), (((3, 1, 0), 2), (0, [(2, 1)]))], [], [(1, 12), (0, 8), (0, 3)], [(4, [(0, (-1)), (1, 1)]), (9, [(0, (-1)), (2, 1)]), ((-1), [(0, 1), (1, (-1))]), ((-1), [(0, 1), (2, (-1))])], [], 2), [], (0, 0), ([], [], []))
def al_63_0 : List (Nat × sx_A) := []
theorem ck_63_0 : sx_chk cap_G (fun _ => none) al_63_0 (sx_tb []) 63 sp_63_0 28 = true := by decide +kernel
theorem sf_63_0 (sc : Nat × (Nat → Int)) : sx_sf (mt_P sc) cap_I 1 63 sp_63_0 := sx_sf_of cap_hI ck_63_0 trivial
/-- Design.roots()I -/
def sp_66_0 : sx_Sp := ((0, [q_R 3 1 0], [], [], [], [], [], [], 2), (0, [], [r_A 0], [(((3, 1, 0), 2), (0, [(1, 1)])), (((3, 1, 0), 3), (0, [(2, 1)]))], [], [(0, 8), (0, 3), (0, 5)], [(5, [(0, (-1)), (1, 1)]), (3, [(0, (-1)), (2, 1)]), (0, [(0, 1), (1, (-1))]), (0, [(0, 1), (2, (-1))])], [], 2), [], (0, 0), ([], [], []))
def al_66_0 : List (Nat × sx_A) := []
theorem ck_66_0 : sx_chk cap_G (fun _ => none) al_66_0 (sx_tb []) 66 sp_66_0 26 = true := by decide +kernel
theorem sf_66_0 (sc : Nat × (Nat → Int)) : sx_sf (mt_P sc) cap_I 1 66 sp_66_0 := sx_sf_of cap_hI ck_66_0 trivial
/-- Builder.wordOf(II)J -/
def sp_48_0 : sx_Sp := ((0, [q_R 1 1 0, q_A 0, q_A 1, none, none], [], [(((1, 1, 0), 8), (0, [(2, 1)]))], [(((1, 1, 0), 1), 2, 0)], [(0, 255), (0, 31), (0, 0)], [], [], 3), (0, [], [r_J], [(((1, 1, 0), 8), (0, [(3, 1)]))], [(((1, 1, 0), 1), 3, 0)], [(0, 255), (0, 31), (0, 0), (0, 0)], [], [], 4), [], (0, 0), ([], [], []))
def al_48_0 : List (Nat × sx_A) := []
theorem ck_48_0 : sx_chk cap_G (fun _ => none) al_48_0 (sx_tb []) 48 sp_48_0 42 = true := by decide +kernel
theorem sf_48_0 (sc : Nat × (Nat → Int)) : sx_sf (mt_P sc) cap_I 1 48 sp_48_0 := sx_sf_of cap_hI ck_48_0 trivial
/-- Builder.bitWord(II)J -/
def sp_49_0 : sx_Sp := ((0, [q_A 0, q_A 1], [], [], [], [(0, 147), (0, 31)], [], [], 1), (0, [], [r_J], [], [], [(0, 147), (0, 31)], [], [], 1), [], (0, 0), ([], [], []))
def al_49_0 : List (Nat × sx_A) := []
theorem ck_49_0 : sx_chk cap_G (fun _ => none) al_49_0 (sx_tb []) 49 sp_49_0 40 = true := by decide +kernel
theorem sf_49_0 (sc : Nat × (Nat → Int)) : sx_sf (mt_P sc) cap_I 1 49 sp_49_0 := sx_sf_of cap_hI ck_49_0 trivial
/-- Design.sweptLiteral(I)I -/
def sp_64_0 : sx_Sp := ((0, [q_R 3 1 0, q_A 0], [], [], [], [(0, 255)], [], [], 2), (0, [], [r_A 1], [], [], [(0, 255), (0, 255)], [], [], 2), [], (0, 0), ([], [], []))
def al_64_0 : List (Nat × sx_A) := []
theorem ck_64_0 : sx_chk cap_G (fun _ => none) al_64_0 (sx_tb []) 64 sp_64_0 31 = true := by decide +kernel
theorem sf_64_0 (sc : Nat × (Nat → Int)) : sx_sf (mt_P sc) cap_I 1 64 sp_64_0 := sx_sf_of cap_hI ck_64_0 trivial
/-- Text.sameNames(II)Z -/
def sp_190_0 : sx_Sp := ((0, [q_R 10 1 0, q_A 0, q_A 1, none, none, none, none], [], [], [], [(0, 65535), (0, 65535)], [], [], 2), (0, [], [r_A 2], [], [], [(0, 65535), (0, 65535), (0, 1)], [], [], 2), [], (0, 0), ([], [], []))
def al_190_0 : List (Nat × sx_A) := [(28, (28, [q_R 10 1 0, q_A 0, q_A 1, q_A 2, q_A 3, q_A 4, q_A 5], [], [], [], [(0, 65535), (0, 65535), (0, 15), (0, 4095), (0, 4095), (0, 15)], [], [], 2), [(27, []), (15, [(5, (-1))]), (27, [])])]
theorem ck_190_0 : sx_chk cap_G (fun _ => none) al_190_0 (sx_tb []) 190 sp_190_0 42 = true := by decide +kernel
theorem sf_190_0 (sc : Nat × (Nat → Int)) : sx_sf (mt_P sc) cap_I 1 190 sp_190_0 := sx_sf_of cap_hI ck_190_0 trivial
/-- Reader.findModule(I)I -/
def sp_118_0 : sx_Sp := ((0, [q_R 7 1 0, q_A 0, none], [], [], [], [(0, 65535)], [], [], 2), (0, [], [r_A 1], [(((7, 1, 0), 3), (0, [(2, 1)]))], [], [(0, 65535), ((-1), 1), (0, 2)], [((-1), [(1, (-1)), (2, 1)])], [], 2), [], (0, 0), ([], [], []))
def al_118_0 : List (Nat × sx_A) := [(2, (2, [q_R 7 1 0, q_A 0, q_A 1], [], [], [], [(0, 65535), (0, 2)], [], [], 2), [(24, []), (2, [(1, (-1))]), (24, [])])]
theorem ck_118_0 : sx_chk cap_G (fun _ => none) al_118_0 (sx_tb [(190, [sp_190_0])]) 118 sp_118_0 39 = true := by decide +kernel
theorem sf_118_0 (sc : Nat × (Nat → Int)) : sx_sf (mt_P sc) cap_I 2 118 sp_118_0 := sx_sf_of cap_hI ck_118_0 ⟨⟨sx_sf_up (sf_190_0 sc) rfl, trivial⟩, trivial⟩
/-- Text.readSign(I)Z -/
def sp_195_0 : sx_Sp := ((0, [q_R 10 1 0, q_A 0, none], [], [(((10, 1, 0), 1), (0, [(1, 1)])), (((10, 1, 0), 3), (0, [(2, 1)])), (((10, 1, 0), 4), (0, [(3, 1)])), (((10, 1, 0), 8), (0, [(4, 1)]))], [], [((-128), 127), (1, 449), (0, 448), (0, 0), (0, 448)], [((-1), [(1, 1), (2, (-1))]), ((-1), [(1, 1), (4, (-1))]), (0, [(2, 1), (4, (-1))]), (0, [(2, (-1)), (4, 1)])], [], 2), (0, [], [r_A 5], [(((10, 1, 0), 1), (0, [(6, 1)])), (((10, 1, 0), 2), (0, [(7, 1)])), (((10, 1, 0), 3), (0, [(8, 1)])), (((10, 1, 0), 4), (0, [(9, 1)])), (((10, 1, 0), 8), (0, [(10, 1)]))], [], [((-128), 127), (1, 449), (0, 448), (0, 0), (0, 448), (0, 1), (1, 449), ((-128), 257), (0, 448), (0, 0), (1, 449)], [(196, [(0, 1), (7, (-1))]), (128, [(0, 1), (5, (-1))]), (255, [(6, 1), (7, (-1))]), ((-1), [(6, 1), (8, (-1))]), (0, [(6, 1), (10, (-1))]), (0, [(0, (-1)), (7, 1)]), (128, [(5, (-1)), (7, 1)]), (2, [(8, 1), (10, (-1))]), (255, [(7, (-1)), (10, 1)]), ((-1), [(8, (-1)), (10, 1)]), (256, [(5, 1), (7, (-1))])], [((0, [(5, 1)]), 0, [(127, [(7, (-1))])]), ((0, [(5, 1)]), 1, [((-1), [(0, 1)]), ((-1), [(7, 1)])])], 2), [], (0, 0), ([(10, 2), (10, 8)], [], []))
def al_195_0 : List (Nat × sx_A) := []
theorem ck_195_0 : sx_chk cap_G (fun _ => none) al_195_0 (sx_tb []) 195 sp_195_0 220 = true := by decide +kernel
theorem sf_195_0 (sc : Nat × (Nat → Int)) : sx_sf (mt_P sc) cap_I 1 195 sp_195_0 := sx_sf_of cap_hI ck_195_0 trivial
/-- Text.packedName()I -/
def sp_189_0 : sx_Sp := ((0, [q_R 10 1 0], [], [], [], [], [], [], 2), (0, [], [r_A 0], [(((10, 1, 0), 3), (0, [(1, 1)])), (((10, 1, 0), 4), (0, [(2, 1)]))], [], [(0, 65535), (0, 599), (0, 15)], [], [], 2), [], (0, 0), ([], [], []))
def al_189_0 : List (Nat × sx_A) := []
theorem ck_189_0 : sx_chk cap_G (fun _ => none) al_189_0 (sx_tb []) 189 sp_189_0 28 = true := by decide +kernel
theorem sf_189_0 (sc : Nat × (Nat → Int)) : sx_sf (mt_P sc) cap_I 1 189 sp_189_0 := sx_sf_of cap_hI ck_189_0 trivial
/-- Reader.levelOf(I)I -/
def sp_146_0 : sx_Sp := ((0, [q_R 7 1 0, q_A 0], [], [], [], [((-128), 257)], [], [], 2), (0, [], [r_A 1], [], [], [((-128), 257), (0, 5)], [], [], 2), [], (0, 0), ([], [], []))
def al_146_0 : List (Nat × sx_A) := []
theorem ck_146_0 : sx_chk cap_G (fun _ => none) al_146_0 (sx_tb []) 146 sp_146_0 478 = true := by decide +kernel
theorem sf_146_0 (sc : Nat × (Nat → Int)) : sx_sf (mt_P sc) cap_I 1 146 sp_146_0 := sx_sf_of cap_hI ck_146_0 trivial
/-- Reader.topKind()I -/
def sp_147_0 : sx_Sp := ((0, [q_R 7 1 0], [], [], [], [], [], [], 2), (0, [], [r_A 0], [(((7, 1, 0), 14), (0, [(1, 1)]))], [], [((-1000000000), 5), (0, 4)], [(4, [(0, (-1)), (1, 1)])], [], 2), [], (0, 0), ([], [], []))
def al_147_0 : List (Nat × sx_A) := []
theorem ck_147_0 : sx_chk cap_G (fun _ => none) al_147_0 (sx_tb []) 147 sp_147_0 34 = true := by decide +kernel
theorem sf_147_0 (sc : Nat × (Nat → Int)) : sx_sf (mt_P sc) cap_I 1 147 sp_147_0 := sx_sf_of cap_hI ck_147_0 trivial
/-- Reader.nextInput(II)I -/
def sp_130_0 : sx_Sp := ((0, [q_R 7 1 0, q_A 0, q_A 1, none], [], [], [], [(0, 1), (0, 11)], [], [], 2), (0, [], [r_A 2], [], [], [(0, 1), (0, 11), ((-1), 10)], [], [], 2), [], (0, 0), ([], [], []))
def al_130_0 : List (Nat × sx_A) := [(2, (2, [q_R 7 1 0, q_A 0, q_A 1, q_A 2], [], [], [], [(0, 1), (0, 11), (0, 11)], [(0, [(1, (-1)), (2, 1)])], [], 2), [(26, []), (11, [(2, (-1))]), (26, [])])]
theorem ck_130_0 : sx_chk cap_G (fun _ => none) al_130_0 (sx_tb []) 130 sp_130_0 41 = true := by decide +kernel
theorem sf_130_0 (sc : Nat × (Nat → Int)) : sx_sf (mt_P sc) cap_I 1 130 sp_130_0 := sx_sf_of cap_hI ck_130_0 trivial
/-- ChipFlow.freeDesign()I -/
def sp_273_0 : sx_Sp := ((0, [q_R 12 1 0, none], [], [], [], [], [], [], 2), (0, [], [r_A 0], [], [], [((-1), 5)], [], [], 2), [], (0, 0), ([], [], []))
def al_273_0 : List (Nat × sx_A) := [(2, (2, [q_R 12 1 0, q_A 0], [], [], [], [(0, 6)], [], [], 2), [(20, []), (6, [(0, (-1))]), (20, [])])]
theorem ck_273_0 : sx_chk cap_G (fun _ => none) al_273_0 (sx_tb []) 273 sp_273_0 35 = true := by decide +kernel
theorem sf_273_0 (sc : Nat × (Nat → Int)) : sx_sf (mt_P sc) cap_I 1 273 sp_273_0 := sx_sf_of cap_hI ck_273_0 trivial
/-- Library.findInverter()V -/
def sp_89_0 : sx_Sp := ((0, [q_R 5 1 0, none, none], [], [], [], [], [], [], 2), (0, [], [], [(((5, 1, 0), 1), (0, [(0, 1)])), (((5, 1, 0), 2), (0, [(1, 1)]))], [], [(0, 8), ((-1), 7)], [], [], 2), [], (0, 0), ([(5, 2)], [], []))
def al_89_0 : List (Nat × sx_A) := [(7, (7, [q_R 5 1 0, q_A 0, none], [], [(((5, 1, 0), 2), (0, [(1, 1)]))], [], [(0, 8), ((-1), 7)], [], [], 2), [(47, []), (8, [(0, (-1))]), (47, [])])]
theorem ck_89_0 : sx_chk cap_G (fun _ => none) al_89_0 (sx_tb []) 89 sp_89_0 80 = true := by decide +kernel
theorem sf_89_0 (sc : Nat × (Nat → Int)) : sx_sf (mt_P sc) cap_I 1 89 sp_89_0 := sx_sf_of cap_hI ck_89_0 trivial
/-- ChipFlow.freeLibrary()I -/
def sp_274_0 : sx_Sp := ((0, [q_R 12 1 0, none], [], [], [], [], [], [], 2), (0, [], [r_A 0], [], [], [((-1), 2)], [], [], 2), [], (0, 0), ([], [], []))
def al_274_0 : List (Nat × sx_A) := [(2, (2, [q_R 12 1 0, q_A 0], [], [], [], [(0, 3)], [], [], 2), [(20, []), (3, [(0, (-1))]), (20, [])])]
theorem ck_274_0 : sx_chk cap_G (fun _ => none) al_274_0 (sx_tb []) 274 sp_274_0 35 = true := by decide +kernel
theorem sf_274_0 (sc : Nat × (Nat → Int)) : sx_sf (mt_P sc) cap_I 1 274 sp_274_0 := sx_sf_of cap_hI ck_274_0 trivial
/-- ChipFlow.fault()I -/
def sp_215_0 : sx_Sp := ((0, [q_R 12 1 0], [], [], [], [], [], [], 2), (0, [], [r_A 0], [(((12, 1, 0), 10), (0, [(1, 1)]))], [], [(0, 23), (0, 23)], [(0, [(0, (-1)), (1, 1)]), (0, [(0, 1), (1, (-1))])], [], 2), [], (0, 0), ([], [], []))
def al_215_0 : List (Nat × sx_A) := []
theorem ck_215_0 : sx_chk cap_G (fun _ => none) al_215_0 (sx_tb []) 215 sp_215_0 23 = true := by decide +kernel
theorem sf_215_0 (sc : Nat × (Nat → Int)) : sx_sf (mt_P sc) cap_I 1 215 sp_215_0 := sx_sf_of cap_hI ck_215_0 trivial
/-- ChipFlow.tape()I -/
def sp_216_0 : sx_Sp := ((0, [q_R 12 1 0], [], [], [], [], [], [], 2), (0, [], [r_A 0], [], [], [(0, 449)], [], [], 2), [], (0, 0), ([], [], []))
def al_216_0 : List (Nat × sx_A) := []
theorem ck_216_0 : sx_chk cap_G (fun _ => none) al_216_0 (sx_tb []) 216 sp_216_0 24 = true := by decide +kernel
theorem sf_216_0 (sc : Nat × (Nat → Int)) : sx_sf (mt_P sc) cap_I 1 216 sp_216_0 := sx_sf_of cap_hI ck_216_0 trivial
/-- ChipFlow.needThere(Z)V -/
def sp_265_0 : sx_Sp := ((0, [q_A 0], [], [], [], [(0, 1)], [], [], 1), (0, [], [], [], [], [(1, 1)], [], [], 1), [0], (0, 1), ([], [], []))
def al_265_0 : List (Nat × sx_A) := []
theorem ck_265_0 : sx_chk cap_G (fun _ => none) al_265_0 (sx_tb []) 265 sp_265_0 24 = true := by decide +kernel
theorem sf_265_0 (sc : Nat × (Nat → Int)) : sx_sf (mt_P sc) cap_I 1 265 sp_265_0 := sx_sf_of cap_hI ck_265_0 trivial
/-- ChipFlow.designAt(I)LChipFlow$Design; -/
def sp_270_0 : sx_Sp := ((0, [q_R 12 1 0, q_A 0], [], [], [], [((-2147483648), 2147483647)], [], [], 2), (0, [], [r_R 3 2 0], [], [], [(0, 5)], [], [], 3), [0], (0, 1), ([], [], []))
def al_270_0 : List (Nat × sx_A) := []
theorem ck_270_0 : sx_chk cap_G (fun _ => none) al_270_0 (sx_tb [(265, [sp_265_0])]) 270 sp_270_0 45 = true := by decide +kernel
theorem sf_270_0 (sc : Nat × (Nat → Int)) : sx_sf (mt_P sc) cap_I 2 270 sp_270_0 := sx_sf_of cap_hI ck_270_0 ⟨⟨sx_sf_up (sf_265_0 sc) rfl, trivial⟩, trivial⟩
/-- ChipFlow.libraryAt(I)LChipFlow$Library; -/
def sp_271_0 : sx_Sp := ((0, [q_R 12 1 0, q_A 0], [], [], [], [((-2147483648), 2147483647)], [], [], 2), (0, [], [r_R 5 2 0], [], [], [(0, 2)], [], [], 3), [0], (0, 1), ([], [], []))
def al_271_0 : List (Nat × sx_A) := []
theorem ck_271_0 : sx_chk cap_G (fun _ => none) al_271_0 (sx_tb [(265, [sp_265_0])]) 271 sp_271_0 45 = true := by decide +kernel
theorem sf_271_0 (sc : Nat × (Nat → Int)) : sx_sf (mt_P sc) cap_I 2 271 sp_271_0 := sx_sf_of cap_hI ck_271_0 ⟨⟨sx_sf_up (sf_265_0 sc) rfl, trivial⟩, trivial⟩
/-- ChipFlow.chipAt(I)LChipFlow$Chip; -/
def sp_272_0 : sx_Sp := ((0, [q_R 12 1 0, q_A 0], [], [], [], [((-2147483648), 2147483647)], [], [], 2), (0, [], [r_R 2 2 0], [], [], [(0, 3)], [], [], 3), [0], (0, 1), ([], [], []))
def al_272_0 : List (Nat × sx_A) := []
theorem ck_272_0 : sx_chk cap_G (fun _ => none) al_272_0 (sx_tb [(265, [sp_265_0])]) 272 sp_272_0 45 = true := by decide +kernel
theorem sf_272_0 (sc : Nat × (Nat → Int)) : sx_sf (mt_P sc) cap_I 2 272 sp_272_0 := sx_sf_of cap_hI ck_272_0 ⟨⟨sx_sf_up (sf_265_0 sc) rfl, trivial⟩, trivial⟩
/-- ChipFlow.drop(II)V -/
def sp_217_0 : sx_Sp := ((0, [q_R 12 1 0, q_A 0, q_A 1], [], [], [], [((-2147483648), 2147483647), ((-2147483648), 2147483647)], [], [], 2), (0, [], [], [], [], [(0, 2), (0, 5)], [], [], 2), [0, 1], (0, 1), ([(2, 0), (3, 0), (5, 0)], [], []))
def al_217_0 : List (Nat × sx_A) := []
theorem ck_217_0 : sx_chk cap_G (fun _ => none) al_217_0 (sx_tb [(266, [sp_266_0]), (270, [sp_270_0]), (271, [sp_271_0]), (272, [sp_272_0])]) 217 sp_217_0 57 = true := by decide +kernel
theorem sf_217_0 (sc : Nat × (Nat → Int)) : sx_sf (mt_P sc) cap_I 3 217 sp_217_0 := sx_sf_of cap_hI ck_217_0 ⟨⟨sx_sf_up (sf_266_0 sc) rfl, trivial⟩, ⟨sx_sf_up (sf_270_0 sc) rfl, trivial⟩, ⟨sx_sf_up (sf_271_0 sc) rfl, trivial⟩, ⟨sx_sf_up (sf_272_0 sc) rfl, trivial⟩, trivial⟩
/-- ChipFlow.isThere(II)Z -/
def sp_218_0 : sx_Sp := ((0, [q_R 12 1 0, q_A 0, q_A 1], [], [], [], [((-2147483648), 2147483647), ((-2147483648), 2147483647)], [], [], 2), (0, [], [r_A 2], [], [], [(0, 2), ((-2147483648), 2147483647), (0, 1)], [(2147483648, [(1, 1), (2, (-1))])], [((0, [(2, 1)]), 1, [(0, [(1, 1)]), (5, [(1, (-1))])])], 2), [1], (0, 1), ([], [], []))
def al_218_0 : List (Nat × sx_A) := []
theorem ck_218_0 : sx_chk cap_G (fun _ => none) al_218_0 (sx_tb [(266, [sp_266_0])]) 218 sp_218_0 97 = true := by decide +kernel
theorem sf_218_0 (sc : Nat × (Nat → Int)) : sx_sf (mt_P sc) cap_I 2 218 sp_218_0 := sx_sf_of cap_hI ck_218_0 ⟨⟨sx_sf_up (sf_266_0 sc) rfl, trivial⟩, trivial⟩
/-- ChipFlow.graph(II)I -/
def sp_219_0 : sx_Sp := ((0, [q_R 12 1 0, q_A 0, q_A 1, none], [], [], [], [((-2147483648), 2147483647), ((-2147483648), 2147483647)], [], [], 2), (0, [], [r_A 2], [], [], [(0, 5), (0, 7), ((-12), 126)], [(123, [(1, 1), (2, (-1))]), (15, [(1, (-1)), (2, 1)])], [], 2), [0, 1], (0, 1), ([], [], []))
def al_219_0 : List (Nat × sx_A) := []
theorem ck_219_0 : sx_chk cap_G (fun _ => none) al_219_0 (sx_tb [(63, [sp_63_0]), (266, [sp_266_0]), (270, [sp_270_0])]) 219 sp_219_0 65 = true := by decide +kernel
theorem sf_219_0 (sc : Nat × (Nat → Int)) : sx_sf (mt_P sc) cap_I 3 219 sp_219_0 := sx_sf_of cap_hI ck_219_0 ⟨⟨sx_sf_up (sf_63_0 sc) rfl, trivial⟩, ⟨sx_sf_up (sf_266_0 sc) rfl, trivial⟩, ⟨sx_sf_up (sf_270_0 sc) rfl, trivial⟩, trivial⟩
/-- ChipFlow.literal(III)I -/
def sp_220_0 : sx_Sp := ((0, [q_R 12 1 0, q_A 0, q_A 1, q_A 2, none], [], [], [], [((-2147483648), 2147483647), ((-2147483648), 2147483647), ((-2147483648), 2147483647)], [], [], 2), (0, [], [r_A 3], [], [], [(0, 5), (1, 126), (0, 1), (0, 255)], [], [], 2), [0], (0, 1), ([], [], []))
def al_220_0 : List (Nat × sx_A) := []
theorem ck_220_0 : sx_chk cap_G (fun _ => none) al_220_0 (sx_tb [(63, [sp_63_0]), (265, [sp_265_0]), (270, [sp_270_0])]) 220 sp_220_0 67 = true := by decide +kernel
theorem sf_220_0 (sc : Nat × (Nat → Int)) : sx_sf (mt_P sc) cap_I 3 220 sp_220_0 := sx_sf_of cap_hI ck_220_0 ⟨⟨sx_sf_up (sf_63_0 sc) rfl, trivial⟩, ⟨sx_sf_up (sf_265_0 sc) rfl, trivial⟩, ⟨sx_sf_up (sf_270_0 sc) rfl, trivial⟩, trivial⟩
/-- ChipFlow.swept(II)I -/
def sp_221_0 : sx_Sp := ((0, [q_R 12 1 0, q_A 0, q_A 1, none], [], [], [], [((-2147483648), 2147483647), ((-2147483648), 2147483647)], [], [], 2), (0, [], [r_A 2], [], [], [(0, 5), (0, 126), (0, 255)], [], [], 2), [0], (0, 1), ([], [], []))
def al_221_0 : List (Nat × sx_A) := []
theorem ck_221_0 : sx_chk cap_G (fun _ => none) al_221_0 (sx_tb [(265, [sp_265_0]), (270, [sp_270_0])]) 221 sp_221_0 42 = true := by decide +kernel
theorem sf_221_0 (sc : Nat × (Nat → Int)) : sx_sf (mt_P sc) cap_I 3 221 sp_221_0 := sx_sf_of cap_hI ck_221_0 ⟨⟨sx_sf_up (sf_265_0 sc) rfl, trivial⟩, ⟨sx_sf_up (sf_270_0 sc) rfl, trivial⟩, trivial⟩
/-- ChipFlow.root(IIZ)I -/
def sp_222_0 : sx_Sp := ((0, [q_R 12 1 0, q_A 0, q_A 1, q_A 2, none], [], [], [], [((-2147483648), 2147483647), ((-2147483648), 2147483647), (0, 1)], [], [], 2), (0, [], [r_A 3], [], [], [(0, 5), (0, 4), (0, 1), (0, 255)], [], [], 2), [0], (0, 1), ([], [], []))
def al_222_0 : List (Nat × sx_A) := []
theorem ck_222_0 : sx_chk cap_G (fun _ => none) al_222_0 (sx_tb [(265, [sp_265_0]), (270, [sp_270_0])]) 222 sp_222_0 63 = true := by decide +kernel
theorem sf_222_0 (sc : Nat × (Nat → Int)) : sx_sf (mt_P sc) cap_I 3 222 sp_222_0 := sx_sf_of cap_hI ck_222_0 ⟨⟨sx_sf_up (sf_265_0 sc) rfl, trivial⟩, ⟨sx_sf_up (sf_270_0 sc) rfl, trivial⟩, trivial⟩
/-- ChipFlow.cell(III)I -/
def sp_223_0 : sx_Sp := ((0, [q_R 12 1 0, q_A 0, q_A 1, q_A 2, none], [], [], [], [((-2147483648), 2147483647), ((-2147483648), 2147483647), ((-2147483648), 2147483647)], [], [], 2), (0, [], [r_A 3], [], [], [(0, 2), ((-1), 7), (0, 3), ((-1), 255)], [(255, [(1, 1), (3, (-1))]), (254, [(2, 1), (3, (-1))]), (7, [(1, (-1)), (3, 1)]), (3, [(2, (-1)), (3, 1)])], [], 2), [0, 1], (0, 1), ([], [], []))
def al_223_0 : List (Nat × sx_A) := [(25, (25, [q_R 12 1 0, q_A 0, q_A 1, q_A 2, q_R 5 2 0], [], [], [], [(0, 2), ((-2147483648), 2147483647), ((-2147483648), 2147483647)], [], [], 3), [(54, [])])]
theorem ck_223_0 : sx_chk cap_G (fun _ => none) al_223_0 (sx_tb [(265, [sp_265_0]), (266, [sp_266_0]), (271, [sp_271_0])]) 223 sp_223_0 86 = true := by decide +kernel
theorem sf_223_0 (sc : Nat × (Nat → Int)) : sx_sf (mt_P sc) cap_I 3 223 sp_223_0 := sx_sf_of cap_hI ck_223_0 ⟨⟨sx_sf_up (sf_265_0 sc) rfl, trivial⟩, ⟨sx_sf_up (sf_266_0 sc) rfl, trivial⟩, ⟨sx_sf_up (sf_271_0 sc) rfl, trivial⟩, trivial⟩
/-- ChipFlow.play(II)I -/
def sp_224_0 : sx_Sp := ((0, [q_R 12 1 0, q_A 0, q_A 1, none, none], [], [], [], [((-2147483648), 2147483647), ((-2147483648), 2147483647)], [], [], 2), (0, [], [r_A 2], [], [], [(0, 5), (0, 255), (0, 65535)], [], [], 2), [0, 1], (0, 1), ([(3, 6)], [], []))
def al_224_0 : List (Nat × sx_A) := []
theorem ck_224_0 : sx_chk cap_G (fun _ => none) al_224_0 (sx_tb [(266, [sp_266_0]), (270, [sp_270_0])]) 224 sp_224_0 59 = true := by decide +kernel
theorem sf_224_0 (sc : Nat × (Nat → Int)) : sx_sf (mt_P sc) cap_I 3 224 sp_224_0 := sx_sf_of cap_hI ck_224_0 ⟨⟨sx_sf_up (sf_266_0 sc) rfl, trivial⟩, ⟨sx_sf_up (sf_270_0 sc) rfl, trivial⟩, trivial⟩
/-- ChipFlow.state(I)I -/
def sp_225_0 : sx_Sp := ((0, [q_R 12 1 0, q_A 0], [], [], [], [((-2147483648), 2147483647)], [], [], 2), (0, [], [r_A 1], [], [], [(0, 5), (0, 15)], [], [], 2), [0], (0, 1), ([], [], []))
def al_225_0 : List (Nat × sx_A) := []
theorem ck_225_0 : sx_chk cap_G (fun _ => none) al_225_0 (sx_tb [(270, [sp_270_0])]) 225 sp_225_0 25 = true := by decide +kernel
theorem sf_225_0 (sc : Nat × (Nat → Int)) : sx_sf (mt_P sc) cap_I 3 225 sp_225_0 := sx_sf_of cap_hI ck_225_0 ⟨⟨sx_sf_up (sf_270_0 sc) rfl, trivial⟩, trivial⟩
/-- ChipFlow.restart(I)I -/
def sp_226_0 : sx_Sp := ((0, [q_R 12 1 0, q_A 0, none, none], [], [], [], [((-2147483648), 2147483647)], [], [], 2), (0, [], [r_A 1], [], [], [(0, 5), (0, 15)], [], [], 2), [0], (0, 1), ([(3, 6)], [], []))
def al_226_0 : List (Nat × sx_A) := []
theorem ck_226_0 : sx_chk cap_G (fun _ => none) al_226_0 (sx_tb [(270, [sp_270_0])]) 226 sp_226_0 33 = true := by decide +kernel
theorem sf_226_0 (sc : Nat × (Nat → Int)) : sx_sf (mt_P sc) cap_I 3 226 sp_226_0 := sx_sf_of cap_hI ck_226_0 ⟨⟨sx_sf_up (sf_270_0 sc) rfl, trivial⟩, trivial⟩
/-- ChipFlow.witness(I)I -/
def sp_229_0 : sx_Sp := ((0, [q_R 12 1 0, q_A 0], [], [], [], [((-2147483648), 2147483647)], [], [], 2), (0, [], [r_A 1], [(((12, 1, 0), 16), (0, [(2, 1)]))], [], [(0, 4095), (0, 255), (1, 4096)], [((-1), [(0, (-1)), (2, 1)])], [], 2), [0], (0, 1), ([], [], []))
def al_229_0 : List (Nat × sx_A) := []
theorem ck_229_0 : sx_chk cap_G (fun _ => none) al_229_0 (sx_tb [(265, [sp_265_0])]) 229 sp_229_0 38 = true := by decide +kernel
theorem sf_229_0 (sc : Nat × (Nat → Int)) : sx_sf (mt_P sc) cap_I 2 229 sp_229_0 := sx_sf_of cap_hI ck_229_0 ⟨⟨sx_sf_up (sf_265_0 sc) rfl, trivial⟩, trivial⟩
/-- Board.loseWires()V -/
def sp_15_0 : sx_Sp := ((0, [q_R 0 1 0], [], [], [], [], [], [], 2), (0, [], [], [(((0, 1, 0), 11), (0, [(0, 1)]))], [], [(0, 0)], [], [], 2), [], (0, 0), ([(0, 11), (4, 0)], [], []))
def al_15_0 : List (Nat × sx_A) := []
theorem ck_15_0 : sx_chk cap_G (fun _ => none) al_15_0 (sx_tb []) 15 sp_15_0 28 = true := by decide +kernel
theorem sf_15_0 (sc : Nat × (Nat → Int)) : sx_sf (mt_P sc) cap_I 1 15 sp_15_0 := sx_sf_of cap_hI ck_15_0 trivial
/-- Chip.firstGateNet()I -/
def sp_54_0 : sx_Sp := ((0, [q_R 2 1 0], [], [], [], [], [], [], 2), (0, [], [r_A 0], [(((2, 1, 0), 1), (0, [(1, 1)])), (((2, 1, 0), 2), (0, [(2, 1)]))], [], [(0, 11), (0, 8), (0, 3)], [(3, [(0, (-1)), (1, 1)]), (8, [(0, (-1)), (2, 1)]), (0, [(0, 1), (1, (-1))]), (0, [(0, 1), (2, (-1))])], [], 2), [], (0, 0), ([], [], []))
def al_54_0 : List (Nat × sx_A) := []
theorem ck_54_0 : sx_chk cap_G (fun _ => none) al_54_0 (sx_tb []) 54 sp_54_0 26 = true := by decide +kernel
theorem sf_54_0 (sc : Nat × (Nat → Int)) : sx_sf (mt_P sc) cap_I 1 54 sp_54_0 := sx_sf_of cap_hI ck_54_0 trivial
