/-! checks of methods -/
/-- Library.copyOf(LChipFlow$Library;)V -/
def sp_90_0 : sx_Sp := ((0, [q_R 5 1 0, q_R 5 2 0], [], [], [], [], [], [], 3), (0, [], [], [(((5, 1, 0), 1), (0, [(0, 1)])), (((5, 1, 0), 2), (0, [(1, 1)]))], [], [(0, 8), ((-1), 7)], [], [], 3), [], (0, 0), ([(5, 1), (5, 2)], [55, 56, 57, 58], []))
def al_90_0 : List (Nat × sx_A) := []
theorem ck_90_0 : sx_chk cap_G (fun _ => none) al_90_0 (sx_tb []) 90 sp_90_0 61 = true := by decide +kernel
theorem sf_90_0 (sc : Nat × (Nat → Int)) : sx_sf (mt_P sc) cap_I 1 90 sp_90_0 := sx_sf_of cap_hI ck_90_0 trivial
/-- Chip.start(LChipFlow$Design;LChipFlow$Library;)V -/
def sp_53_0 : sx_Sp := ((0, [q_R 2 1 0, q_R 3 2 0, q_R 5 3 0], [], [], [], [], [], [], 4), (0, [], [], [(((2, 1, 0), 1), (0, [(0, 1)])), (((2, 1, 0), 2), (0, [(1, 1)])), (((2, 1, 0), 3), (0, [(2, 1)])), (((2, 1, 0), 4), (0, [(3, 1)])), (((2, 1, 0), 5), (0, [(4, 1)])), (((2, 1, 0), 8), (0, [(5, 1)])), (((2, 1, 0), 14), (0, [(6, 1)])), (((2, 1, 0), 15), (0, [(7, 1)])), (((2, 1, 0), 19), (0, [(8, 1)])), (((3, 2, 0), 1), (0, [(9, 1)])), (((3, 2, 0), 2), (0, [(10, 1)])), (((3, 2, 0), 3), (0, [(11, 1)])), (((3, 2, 0), 5), (0, [(12, 1)]))], [], [(0, 8), (0, 3), (0, 5), (0, 2), (0, 2), (0, 0), (0, 0), ((-1), (-1)), ((-2147483648), 2147483647), (0, 8), (0, 3), (0, 5), (0, 2)], [(0, [(0, 1), (9, (-1))]), (0, [(1, 1), (10, (-1))]), (0, [(2, 1), (11, (-1))]), (0, [(3, 1), (4, (-1))]), (0, [(3, 1), (12, (-1))]), (0, [(3, (-1)), (4, 1)]), (0, [(4, 1), (12, (-1))]), (0, [(0, (-1)), (9, 1)]), (0, [(1, (-1)), (10, 1)]), (0, [(2, (-1)), (11, 1)]), (0, [(3, (-1)), (12, 1)]), (0, [(4, (-1)), (12, 1)])], [], 4), [], (0, 0), ([(2, 1), (2, 2), (2, 3), (2, 4), (2, 5), (2, 8), (2, 14), (2, 15), (2, 19), (5, 1), (5, 2)], [39, 55, 56, 57, 58], []))
def al_53_0 : List (Nat × sx_A) := []
theorem ck_53_0 : sx_chk cap_G (fun _ => none) al_53_0 (sx_tb [(2, [sp_2_0, sp_2_1, sp_2_2, sp_2_3, sp_2_4, sp_2_5, sp_2_6, sp_2_7, sp_2_8, sp_2_9, sp_2_10, sp_2_11, sp_2_12, sp_2_13, sp_2_14, sp_2_15, sp_2_16, sp_2_17, sp_2_18, sp_2_19, sp_2_20, sp_2_21, sp_2_22]), (90, [sp_90_0])]) 53 sp_53_0 64 = true := by decide +kernel
theorem sf_53_0 (sc : Nat × (Nat → Int)) : sx_sf (mt_P sc) cap_I 2 53 sp_53_0 := sx_sf_of cap_hI ck_53_0 ⟨⟨sx_sf_up (sf_2_0 sc) rfl, sx_sf_up (sf_2_1 sc) rfl, sx_sf_up (sf_2_2 sc) rfl, sx_sf_up (sf_2_3 sc) rfl, sx_sf_up (sf_2_4 sc) rfl, sx_sf_up (sf_2_5 sc) rfl, sx_sf_up (sf_2_6 sc) rfl, sx_sf_up (sf_2_7 sc) rfl, sx_sf_up (sf_2_8 sc) rfl, sx_sf_up (sf_2_9 sc) rfl, sx_sf_up (sf_2_10 sc) rfl, sx_sf_up (sf_2_11 sc) rfl, sx_sf_up (sf_2_12 sc) rfl, sx_sf_up (sf_2_13 sc) rfl, sx_sf_up (sf_2_14 sc) rfl, sx_sf_up (sf_2_15 sc) rfl, sx_sf_up (sf_2_16 sc) rfl, sx_sf_up (sf_2_17 sc) rfl, sx_sf_up (sf_2_18 sc) rfl, sx_sf_up (sf_2_19 sc) rfl, sx_sf_up (sf_2_20 sc) rfl, sx_sf_up (sf_2_21 sc) rfl, sx_sf_up (sf_2_22 sc) rfl, trivial⟩, ⟨sx_sf_up (sf_90_0 sc) rfl, trivial⟩, trivial⟩
/-- Mapper.lowNode(I)I -/
def sp_92_0 : sx_Sp := ((0, [q_R 6 1 0, q_A 0], [], [], [(((6, 1, 0), 0), 2, 0), (((6, 1, 0), 1), 3, 0)], [(0, 127)], [], [], 4), (0, [], [r_A 1], [], [(((6, 1, 0), 0), 4, 0), (((6, 1, 0), 1), 5, 0)], [(0, 127), (0, 127)], [], [], 6), [], (0, 0), ([], [], []))
def al_92_0 : List (Nat × sx_A) := []
theorem ck_92_0 : sx_chk cap_G (fun _ => none) al_92_0 (sx_tb [(64, [sp_64_0])]) 92 sp_92_0 31 = true := by decide +kernel
theorem sf_92_0 (sc : Nat × (Nat → Int)) : sx_sf (mt_P sc) cap_I 2 92 sp_92_0 := sx_sf_of cap_hI ck_92_0 ⟨⟨sx_sf_up (sf_64_0 sc) rfl, trivial⟩, trivial⟩
/-- Mapper.highNode(I)I -/
def sp_93_0 : sx_Sp := ((0, [q_R 6 1 0, q_A 0], [], [], [(((6, 1, 0), 0), 2, 0), (((6, 1, 0), 1), 3, 0)], [(0, 127)], [], [], 4), (0, [], [r_A 1], [], [(((6, 1, 0), 0), 4, 0), (((6, 1, 0), 1), 5, 0)], [(0, 127), (0, 127)], [], [], 6), [], (0, 0), ([], [], []))
def al_93_0 : List (Nat × sx_A) := []
theorem ck_93_0 : sx_chk cap_G (fun _ => none) al_93_0 (sx_tb [(64, [sp_64_0])]) 93 sp_93_0 31 = true := by decide +kernel
theorem sf_93_0 (sc : Nat × (Nat → Int)) : sx_sf (mt_P sc) cap_I 2 93 sp_93_0 := sx_sf_of cap_hI ck_93_0 ⟨⟨sx_sf_up (sf_64_0 sc) rfl, trivial⟩, trivial⟩
/-- Mapper.isLeaf(I)Z -/
def sp_94_0 : sx_Sp := ((0, [q_R 6 1 0, q_A 0], [], [], [(((6, 1, 0), 0), 2, 0), (((6, 1, 0), 1), 3, 0)], [((-1), 127)], [], [], 4), (0, [], [r_A 1], [], [(((6, 1, 0), 0), 4, 0), (((6, 1, 0), 1), 5, 0)], [((-1), 127), (0, 1)], [], [((0, [(1, 1)]), 0, [((-1), [(0, 1)])])], 6), [], (0, 0), ([], [], []))
def al_94_0 : List (Nat × sx_A) := []
theorem ck_94_0 : sx_chk cap_G (fun _ => none) al_94_0 (sx_tb [(63, [sp_63_0])]) 94 sp_94_0 38 = true := by decide +kernel
theorem sf_94_0 (sc : Nat × (Nat → Int)) : sx_sf (mt_P sc) cap_I 2 94 sp_94_0 := sx_sf_of cap_hI ck_94_0 ⟨⟨sx_sf_up (sf_63_0 sc) rfl, trivial⟩, trivial⟩
/-- Mapper.isBefore(II)Z -/
def sp_104_0 : sx_Sp := ((0, [q_R 6 1 0, q_A 0, q_A 1, none], [], [], [(((6, 1, 0), 0), 2, 0), (((6, 1, 0), 1), 3, 0)], [(0, 3), (0, 3)], [], [], 4), (0, [], [r_A 2], [], [(((6, 1, 0), 0), 4, 0), (((6, 1, 0), 1), 5, 0)], [(0, 3), (0, 3), (0, 1)], [], [], 6), [], (0, 0), ([], [], []))
def al_104_0 : List (Nat × sx_A) := [(2, (2, [q_R 6 1 0, q_A 0, q_A 1, q_A 2], [], [], [(((6, 1, 0), 0), 4, 0), (((6, 1, 0), 1), 5, 0)], [(0, 3), (0, 3), (0, 3)], [], [], 6), [(50, []), (3, [(2, (-1))]), (50, [])])]
theorem ck_104_0 : sx_chk cap_G (fun _ => none) al_104_0 (sx_tb []) 104 sp_104_0 66 = true := by decide +kernel
theorem sf_104_0 (sc : Nat × (Nat → Int)) : sx_sf (mt_P sc) cap_I 1 104 sp_104_0 := sx_sf_of cap_hI ck_104_0 trivial
/-- Mapper.sortCuts()V -/
def sp_103_0 : sx_Sp := ((0, [q_R 6 1 0, none, none], [], [], [(((6, 1, 0), 0), 2, 0), (((6, 1, 0), 1), 3, 0)], [], [], [], 4), (0, [], [], [(((6, 1, 0), 11), (0, [(0, 1)]))], [(((6, 1, 0), 0), 4, 0), (((6, 1, 0), 1), 5, 0)], [(0, 4)], [], [], 6), [], (0, 0), ([], [66], []))
def al_103_0 : List (Nat × sx_A) := [(2, (2, [q_R 6 1 0, q_A 0, none], [], [], [(((6, 1, 0), 0), 4, 0), (((6, 1, 0), 1), 5, 0)], [(0, 4)], [], [], 6), [(43, []), (4, [(0, (-1))]), (43, []), (0, []), (0, [])]), (12, (12, [q_R 6 1 0, q_A 0, q_A 1], [], [(((6, 1, 0), 11), (0, [(2, 1)]))], [(((6, 1, 0), 0), 4, 0), (((6, 1, 0), 1), 5, 0)], [(0, 3), (0, 3), (1, 4)], [], [], 6), [(43, []), (4, [(0, (-1))]), (37, []), (0, [(1, 1)]), (37, [])])]
theorem ck_103_0 : sx_chk cap_G (fun _ => none) al_103_0 (sx_tb [(104, [sp_104_0])]) 103 sp_103_0 58 = true := by decide +kernel
theorem sf_103_0 (sc : Nat × (Nat → Int)) : sx_sf (mt_P sc) cap_I 2 103 sp_103_0 := sx_sf_of cap_hI ck_103_0 ⟨⟨sx_sf_up (sf_104_0 sc) rfl, trivial⟩, trivial⟩
/-- Mapper.placeIn(II)I -/
def sp_106_0 : sx_Sp := ((0, [q_R 6 1 0, q_A 0, q_A 1, none], [], [], [(((6, 1, 0), 0), 2, 0), (((6, 1, 0), 1), 3, 0)], [(0, 3), (0, 127)], [], [], 4), (0, [], [r_A 2], [], [(((6, 1, 0), 0), 4, 0), (((6, 1, 0), 1), 5, 0)], [(0, 3), (0, 127), ((-1), 2)], [], [], 6), [], (0, 0), ([], [], []))
def al_106_0 : List (Nat × sx_A) := [(2, (2, [q_R 6 1 0, q_A 0, q_A 1, q_A 2], [], [], [(((6, 1, 0), 0), 4, 0), (((6, 1, 0), 1), 5, 0)], [(0, 3), (0, 127), (0, 3)], [], [], 6), [(24, []), (3, [(2, (-1))]), (24, [])])]
theorem ck_106_0 : sx_chk cap_G (fun _ => none) al_106_0 (sx_tb []) 106 sp_106_0 39 = true := by decide +kernel
theorem sf_106_0 (sc : Nat × (Nat → Int)) : sx_sf (mt_P sc) cap_I 1 106 sp_106_0 := sx_sf_of cap_hI ck_106_0 trivial
/-- Mapper.partsOf(I)I -/
def sp_111_0 : sx_Sp := ((0, [q_R 6 1 0, q_A 0, none], [], [], [(((6, 1, 0), 0), 2, 0), (((6, 1, 0), 1), 3, 0)], [(0, 449)], [], [], 4), (0, [], [r_A 1], [], [(((6, 1, 0), 0), 4, 0), (((6, 1, 0), 1), 5, 0)], [(0, 449), (0, 3)], [], [], 6), [], (0, 0), ([], [], []))
def al_111_0 : List (Nat × sx_A) := []
theorem ck_111_0 : sx_chk cap_G (fun _ => none) al_111_0 (sx_tb []) 111 sp_111_0 57 = true := by decide +kernel
theorem sf_111_0 (sc : Nat × (Nat → Int)) : sx_sf (mt_P sc) cap_I 1 111 sp_111_0 := sx_sf_of cap_hI ck_111_0 trivial
/-- Mapper.partAt(II)I -/
def sp_112_0 : sx_Sp := ((0, [q_R 6 1 0, q_A 0, q_A 1, none, none, none, none, none], [], [], [(((6, 1, 0), 0), 2, 0), (((6, 1, 0), 1), 3, 0)], [(0, 449), (0, 2)], [], [], 4), (0, [], [r_A 2], [], [(((6, 1, 0), 0), 4, 0), (((6, 1, 0), 1), 5, 0)], [(0, 449), (0, 2), (0, 448)], [], [], 6), [], (0, 0), ([], [], []))
def al_112_0 : List (Nat × sx_A) := []
theorem ck_112_0 : sx_chk cap_G (fun _ => none) al_112_0 (sx_tb [(94, [sp_94_0])]) 112 sp_112_0 88 = true := by decide +kernel
theorem sf_112_0 (sc : Nat × (Nat → Int)) : sx_sf (mt_P sc) cap_I 3 112 sp_112_0 := sx_sf_of cap_hI ck_112_0 ⟨⟨sx_sf_up (sf_94_0 sc) rfl, trivial⟩, trivial⟩
/-- Mapper.missingPart(I)I -/
def sp_113_0 : sx_Sp := ((0, [q_R 6 1 0, q_A 0, none, none], [], [], [(((6, 1, 0), 0), 2, 0), (((6, 1, 0), 1), 3, 0)], [(0, 449)], [], [], 4), (0, [], [r_A 1], [], [(((6, 1, 0), 0), 4, 0), (((6, 1, 0), 1), 5, 0)], [(0, 449), ((-1), 448)], [], [], 6), [], (0, 0), ([], [], []))
def al_113_0 : List (Nat × sx_A) := [(2, (2, [q_R 6 1 0, q_A 0, q_A 1, none], [], [], [(((6, 1, 0), 0), 4, 0), (((6, 1, 0), 1), 5, 0)], [(0, 449), (0, 3)], [], [], 6), [(27, []), (3, [(1, (-1))]), (27, [])])]
theorem ck_113_0 : sx_chk cap_G (fun _ => none) al_113_0 (sx_tb [(111, [sp_111_0]), (112, [sp_112_0])]) 113 sp_113_0 42 = true := by decide +kernel
theorem sf_113_0 (sc : Nat × (Nat → Int)) : sx_sf (mt_P sc) cap_I 4 113 sp_113_0 := sx_sf_of cap_hI ck_113_0 ⟨⟨sx_sf_up (sf_111_0 sc) rfl, trivial⟩, ⟨sx_sf_up (sf_112_0 sc) rfl, trivial⟩, trivial⟩
/-- Chip.ends()I -/
def sp_57_0 : sx_Sp := ((0, [q_R 2 1 0], [], [], [], [], [], [], 2), (0, [], [r_A 0], [(((2, 1, 0), 2), (0, [(1, 1)])), (((2, 1, 0), 3), (0, [(2, 1)]))], [], [(0, 8), (0, 3), (0, 5)], [(5, [(0, (-1)), (1, 1)]), (3, [(0, (-1)), (2, 1)]), (0, [(0, 1), (1, (-1))]), (0, [(0, 1), (2, (-1))])], [], 2), [], (0, 0), ([], [], []))
def al_57_0 : List (Nat × sx_A) := []
theorem ck_57_0 : sx_chk cap_G (fun _ => none) al_57_0 (sx_tb []) 57 sp_57_0 26 = true := by decide +kernel
theorem sf_57_0 (sc : Nat × (Nat → Int)) : sx_sf (mt_P sc) cap_I 1 57 sp_57_0 := sx_sf_of cap_hI ck_57_0 trivial
/-- Tester.oneInput(IJ)J -/
def sp_170_0 : sx_Sp := ((0, [q_A 0, q_J, none], [], [], [], [(0, 255)], [], [], 1), (0, [], [r_J], [], [], [(0, 255)], [], [], 1), [], (0, 0), ([], [], []))
def al_170_0 : List (Nat × sx_A) := []
theorem ck_170_0 : sx_chk cap_G (fun _ => none) al_170_0 (sx_tb []) 170 sp_170_0 51 = true := by decide +kernel
theorem sf_170_0 (sc : Nat × (Nat → Int)) : sx_sf (mt_P sc) cap_I 1 170 sp_170_0 := sx_sf_of cap_hI ck_170_0 trivial
/-- Tester.twoInputs(IJJ)J -/
def sp_171_0 : sx_Sp := ((0, [q_A 0, q_J, none, q_J, none], [], [], [], [(0, 255)], [], [], 1), (0, [], [r_J], [], [], [(0, 255)], [], [], 1), [], (0, 0), ([], [], []))
def al_171_0 : List (Nat × sx_A) := []
theorem ck_171_0 : sx_chk cap_G (fun _ => none) al_171_0 (sx_tb [(170, [sp_170_0])]) 171 sp_171_0 36 = true := by decide +kernel
theorem sf_171_0 (sc : Nat × (Nat → Int)) : sx_sf (mt_P sc) cap_I 2 171 sp_171_0 := sx_sf_of cap_hI ck_171_0 ⟨⟨sx_sf_up (sf_170_0 sc) rfl, trivial⟩, trivial⟩
/-- Tester.inputWord(III)J -/
def sp_172_0 : sx_Sp := ((0, [q_R 9 1 0, q_A 0, q_A 1, q_A 2, none], [], [(((9, 1, 0), 2), (0, [(3, 1)]))], [(((9, 1, 0), 0), 2, 0)], [(0, 94), (0, 2), (0, 31), (1, 32)], [], [], 3), (0, [], [r_J], [(((9, 1, 0), 2), (0, [(4, 1)]))], [(((9, 1, 0), 0), 3, 0)], [(0, 94), (0, 2), (0, 31), (1, 32), (1, 32)], [], [], 4), [], (0, 0), ([], [], []))
def al_172_0 : List (Nat × sx_A) := []
theorem ck_172_0 : sx_chk cap_G (fun _ => none) al_172_0 (sx_tb []) 172 sp_172_0 54 = true := by decide +kernel
theorem sf_172_0 (sc : Nat × (Nat → Int)) : sx_sf (mt_P sc) cap_I 1 172 sp_172_0 := sx_sf_of cap_hI ck_172_0 trivial
/-- ChipFlow.freeChip()I -/
def sp_275_0 : sx_Sp := ((0, [q_R 12 1 0, none], [], [], [], [], [], [], 2), (0, [], [r_A 0], [], [], [((-1), 3)], [], [], 2), [], (0, 0), ([], [], []))
def al_275_0 : List (Nat × sx_A) := [(2, (2, [q_R 12 1 0, q_A 0], [], [], [], [(0, 4)], [], [], 2), [(20, []), (4, [(0, (-1))]), (20, [])])]
theorem ck_275_0 : sx_chk cap_G (fun _ => none) al_275_0 (sx_tb []) 275 sp_275_0 35 = true := by decide +kernel
theorem sf_275_0 (sc : Nat × (Nat → Int)) : sx_sf (mt_P sc) cap_I 1 275 sp_275_0 := sx_sf_of cap_hI ck_275_0 trivial
/-- Chip.nets()I -/
def sp_55_0 : sx_Sp := ((0, [q_R 2 1 0], [], [], [], [], [], [], 2), (0, [], [r_A 0], [(((2, 1, 0), 1), (0, [(1, 1)])), (((2, 1, 0), 2), (0, [(2, 1)])), (((2, 1, 0), 8), (0, [(3, 1)]))], [], [(0, 106), (0, 8), (0, 3), (0, 95)], [(98, [(0, (-1)), (1, 1)]), (103, [(0, (-1)), (2, 1)]), (11, [(0, (-1)), (3, 1)]), (0, [(0, 1), (1, (-1))]), (0, [(0, 1), (2, (-1))]), (0, [(0, 1), (3, (-1))])], [], 2), [], (0, 0), ([], [], []))
def al_55_0 : List (Nat × sx_A) := []
theorem ck_55_0 : sx_chk cap_G (fun _ => none) al_55_0 (sx_tb []) 55 sp_55_0 29 = true := by decide +kernel
theorem sf_55_0 (sc : Nat × (Nat → Int)) : sx_sf (mt_P sc) cap_I 1 55 sp_55_0 := sx_sf_of cap_hI ck_55_0 trivial
/-- Chip.elements()I -/
def sp_56_0 : sx_Sp := ((0, [q_R 2 1 0], [], [], [], [], [], [], 2), (0, [], [r_A 0], [(((2, 1, 0), 2), (0, [(1, 1)])), (((2, 1, 0), 8), (0, [(2, 1)]))], [], [(0, 98), (0, 3), (0, 95)], [(95, [(0, (-1)), (1, 1)]), (3, [(0, (-1)), (2, 1)]), (0, [(0, 1), (1, (-1))]), (0, [(0, 1), (2, (-1))])], [], 2), [], (0, 0), ([], [], []))
def al_56_0 : List (Nat × sx_A) := []
theorem ck_56_0 : sx_chk cap_G (fun _ => none) al_56_0 (sx_tb []) 56 sp_56_0 26 = true := by decide +kernel
theorem sf_56_0 (sc : Nat × (Nat → Int)) : sx_sf (mt_P sc) cap_I 1 56 sp_56_0 := sx_sf_of cap_hI ck_56_0 trivial
/-- Chip.gateArea()I -/
def sp_60_0 : sx_Sp := ((0, [q_R 2 1 0, none, none], [], [], [], [], [], [], 2), (0, [], [r_A 0], [(((2, 1, 0), 8), (0, [(1, 1)]))], [], [((-2147483648), 2147483647), (0, 95)], [], [], 2), [], (0, 0), ([], [], []))
def al_60_0 : List (Nat × sx_A) := [(4, (4, [q_R 2 1 0, q_A 0, q_A 1], [], [], [], [((-2147483648), 2147483647), (0, 95)], [], [], 2), [(24, []), (95, [(1, (-1))]), (24, [])])]
theorem ck_60_0 : sx_chk cap_G (fun _ => none) al_60_0 (sx_tb []) 60 sp_60_0 39 = true := by decide +kernel
theorem sf_60_0 (sc : Nat × (Nat → Int)) : sx_sf (mt_P sc) cap_I 1 60 sp_60_0 := sx_sf_of cap_hI ck_60_0 trivial
/-- ChipFlow.chip(II)I -/
def sp_231_0 : sx_Sp := ((0, [q_R 12 1 0, q_A 0, q_A 1, none, none], [], [], [], [((-2147483648), 2147483647), ((-2147483648), 2147483647)], [], [], 2), (0, [], [r_A 2], [], [], [(0, 3), (0, 7), ((-2147483648), 2147483647)], [(2147483644, [(1, 1), (2, (-1))]), (2147483651, [(1, (-1)), (2, 1)])], [], 2), [0, 1], (0, 1), ([], [], []))
def al_231_0 : List (Nat × sx_A) := []
theorem ck_231_0 : sx_chk cap_G (fun _ => none) al_231_0 (sx_tb [(55, [sp_55_0]), (56, [sp_56_0]), (60, [sp_60_0]), (266, [sp_266_0]), (272, [sp_272_0])]) 231 sp_231_0 109 = true := by decide +kernel
theorem sf_231_0 (sc : Nat × (Nat → Int)) : sx_sf (mt_P sc) cap_I 3 231 sp_231_0 := sx_sf_of cap_hI ck_231_0 ⟨⟨sx_sf_up (sf_55_0 sc) rfl, trivial⟩, ⟨sx_sf_up (sf_56_0 sc) rfl, trivial⟩, ⟨sx_sf_up (sf_60_0 sc) rfl, trivial⟩, ⟨sx_sf_up (sf_266_0 sc) rfl, trivial⟩, ⟨sx_sf_up (sf_272_0 sc) rfl, trivial⟩, trivial⟩
/-- ChipFlow.netOf(IIZ)I -/
def sp_233_0 : sx_Sp := ((0, [q_R 12 1 0, q_A 0, q_A 1, q_A 2, none], [], [], [], [((-2147483648), 2147483647), ((-2147483648), 2147483647), (0, 1)], [], [], 2), (0, [], [r_A 3], [], [], [(0, 3), (0, 4), (0, 1), ((-2), 95)], [(2, [(2, (-1)), (3, 1)])], [], 2), [0], (0, 1), ([], [], []))
def al_233_0 : List (Nat × sx_A) := []
theorem ck_233_0 : sx_chk cap_G (fun _ => none) al_233_0 (sx_tb [(265, [sp_265_0]), (272, [sp_272_0])]) 233 sp_233_0 63 = true := by decide +kernel
theorem sf_233_0 (sc : Nat × (Nat → Int)) : sx_sf (mt_P sc) cap_I 3 233 sp_233_0 := sx_sf_of cap_hI ck_233_0 ⟨⟨sx_sf_up (sf_265_0 sc) rfl, trivial⟩, ⟨sx_sf_up (sf_272_0 sc) rfl, trivial⟩, trivial⟩
/-- ChipFlow.run(II)I -/
def sp_235_0 : sx_Sp := ((0, [q_R 12 1 0, q_A 0, q_A 1, none, none], [], [], [], [((-2147483648), 2147483647), ((-2147483648), 2147483647)], [], [], 2), (0, [], [r_A 2], [], [], [(0, 3), (0, 255), (0, 65535)], [], [], 2), [0, 1], (0, 1), ([(2, 5)], [], []))
def al_235_0 : List (Nat × sx_A) := []
theorem ck_235_0 : sx_chk cap_G (fun _ => none) al_235_0 (sx_tb [(266, [sp_266_0]), (272, [sp_272_0])]) 235 sp_235_0 59 = true := by decide +kernel
theorem sf_235_0 (sc : Nat × (Nat → Int)) : sx_sf (mt_P sc) cap_I 3 235 sp_235_0 := sx_sf_of cap_hI ck_235_0 ⟨⟨sx_sf_up (sf_266_0 sc) rfl, trivial⟩, ⟨sx_sf_up (sf_272_0 sc) rfl, trivial⟩, trivial⟩
/-- ChipFlow.reset(I)I -/
def sp_236_0 : sx_Sp := ((0, [q_R 12 1 0, q_A 0, none, none], [], [], [], [((-2147483648), 2147483647)], [], [], 2), (0, [], [r_A 1], [], [], [(0, 3), (0, 15)], [], [], 2), [0], (0, 1), ([(2, 5)], [], []))
def al_236_0 : List (Nat × sx_A) := []
theorem ck_236_0 : sx_chk cap_G (fun _ => none) al_236_0 (sx_tb [(272, [sp_272_0])]) 236 sp_236_0 33 = true := by decide +kernel
theorem sf_236_0 (sc : Nat × (Nat → Int)) : sx_sf (mt_P sc) cap_I 3 236 sp_236_0 := sx_sf_of cap_hI ck_236_0 ⟨⟨sx_sf_up (sf_272_0 sc) rfl, trivial⟩, trivial⟩
/-- Board.pinAt(II)I -/
def sp_14_0 : sx_Sp := ((0, [q_R 0 1 0, q_A 0, q_A 1], [], [], [], [(0, 161), (0, 10)], [], [], 2), (0, [], [r_A 2], [], [], [(0, 161), (0, 10), (0, 640)], [], [], 2), [], (0, 0), ([], [], []))
def al_14_0 : List (Nat × sx_A) := []
theorem ck_14_0 : sx_chk cap_G (fun _ => none) al_14_0 (sx_tb []) 14 sp_14_0 30 = true := by decide +kernel
theorem sf_14_0 (sc : Nat × (Nat → Int)) : sx_sf (mt_P sc) cap_I 1 14 sp_14_0 := sx_sf_of cap_hI ck_14_0 trivial
/-- Board.pinX(I)I -/
def sp_17_0 : sx_Sp := ((0, [q_R 0 1 0, q_A 0], [], [], [], [(0, 651)], [], [], 2), (0, [], [r_A 1], [], [], [(0, 651), (0, 64)], [(650, [(0, (-1)), (1, 1)])], [], 2), [], (0, 0), ([], [], []))
def al_17_0 : List (Nat × sx_A) := []
theorem ck_17_0 : sx_chk cap_G (fun _ => none) al_17_0 (sx_tb []) 17 sp_17_0 47 = true := by decide +kernel
theorem sf_17_0 (sc : Nat × (Nat → Int)) : sx_sf (mt_P sc) cap_I 1 17 sp_17_0 := sx_sf_of cap_hI ck_17_0 trivial
/-- Board.pinY(I)I -/
def sp_18_0 : sx_Sp := ((0, [q_R 0 1 0, q_A 0], [], [], [], [(0, 651)], [], [], 2), (0, [], [r_A 1], [], [], [(0, 651), (0, 34)], [(636, [(0, (-1)), (1, 1)])], [], 2), [], (0, 0), ([], [], []))
def al_18_0 : List (Nat × sx_A) := []
theorem ck_18_0 : sx_chk cap_G (fun _ => none) al_18_0 (sx_tb []) 18 sp_18_0 46 = true := by decide +kernel
theorem sf_18_0 (sc : Nat × (Nat → Int)) : sx_sf (mt_P sc) cap_I 1 18 sp_18_0 := sx_sf_of cap_hI ck_18_0 trivial
/-- ChipFlow.needNow(Z)V -/
def sp_267_0 : sx_Sp := ((0, [q_A 0], [], [], [], [(0, 1)], [], [], 1), (0, [], [], [], [], [(1, 1)], [], [], 1), [2], (0, 1), ([], [], []))
def al_267_0 : List (Nat × sx_A) := []
theorem ck_267_0 : sx_chk cap_G (fun _ => none) al_267_0 (sx_tb []) 267 sp_267_0 24 = true := by decide +kernel
theorem sf_267_0 (sc : Nat × (Nat → Int)) : sx_sf (mt_P sc) cap_I 1 267 sp_267_0 := sx_sf_of cap_hI ck_267_0 trivial
/-- ChipFlow.at(III)I -/
def sp_239_0 : sx_Sp := ((0, [q_R 12 1 0, q_A 0, q_A 1, q_A 2, none], [], [], [], [((-2147483648), 2147483647), ((-2147483648), 2147483647), ((-2147483648), 2147483647)], [], [], 2), (0, [], [r_A 3], [], [], [(0, 3), (0, 97), (0, 1), (0, 60)], [], [], 2), [0, 1, 2], (0, 1), ([], [], []))
def al_239_0 : List (Nat × sx_A) := [(24, (24, [q_R 12 1 0, q_A 0, q_A 1, q_A 2, q_R 2 2 0], [], [], [], [(0, 3), ((-2147483648), 2147483647), ((-2147483648), 2147483647)], [], [], 3), [(38, [])])]
theorem ck_239_0 : sx_chk cap_G (fun _ => none) al_239_0 (sx_tb [(56, [sp_56_0]), (265, [sp_265_0]), (266, [sp_266_0]), (267, [sp_267_0]), (272, [sp_272_0])]) 239 sp_239_0 81 = true := by decide +kernel
theorem sf_239_0 (sc : Nat × (Nat → Int)) : sx_sf (mt_P sc) cap_I 3 239 sp_239_0 := sx_sf_of cap_hI ck_239_0 ⟨⟨sx_sf_up (sf_56_0 sc) rfl, trivial⟩, ⟨sx_sf_up (sf_265_0 sc) rfl, trivial⟩, ⟨sx_sf_up (sf_266_0 sc) rfl, trivial⟩, ⟨sx_sf_up (sf_267_0 sc) rfl, trivial⟩, ⟨sx_sf_up (sf_272_0 sc) rfl, trivial⟩, trivial⟩
/-- Board.wholeWire(I)I -/
def sp_24_0 : sx_Sp := ((0, [q_R 0 1 0, q_A 0, none, none], [], [], [], [(0, 106)], [], [], 2), (0, [], [r_A 1], [], [], [(0, 106), ((-2147483648), 2147483647)], [], [], 2), [], (0, 0), ([], [], []))
def al_24_0 : List (Nat × sx_A) := [(4, (4, [q_R 0 1 0, q_A 0, q_A 1, q_A 2], [], [], [], [(0, 106), ((-2147483648), 2147483647), (0, 106)], [], [], 2), [(19, []), (106, [(2, (-1))]), (19, [])])]
theorem ck_24_0 : sx_chk cap_G (fun _ => none) al_24_0 (sx_tb []) 24 sp_24_0 34 = true := by decide +kernel
theorem sf_24_0 (sc : Nat × (Nat → Int)) : sx_sf (mt_P sc) cap_I 1 24 sp_24_0 := sx_sf_of cap_hI ck_24_0 trivial
/-- Board.exchange(II)V -/
def sp_29_0 : sx_Sp := ((0, [q_R 0 1 0, q_A 0, q_A 1, none, none], [], [], [], [(0, 97), (1, 97)], [], [], 2), (0, [], [], [], [], [(0, 97), (1, 97)], [], [], 2), [], (0, 0), ([], [14, 15], []))
def al_29_0 : List (Nat × sx_A) := []
theorem ck_29_0 : sx_chk cap_G (fun _ => none) al_29_0 (sx_tb []) 29 sp_29_0 57 = true := by decide +kernel
theorem sf_29_0 (sc : Nat × (Nat → Int)) : sx_sf (mt_P sc) cap_I 1 29 sp_29_0 := sx_sf_of cap_hI ck_29_0 trivial
/-- ChipFlow.wire(II)I -/
def sp_242_0 : sx_Sp := ((0, [q_R 12 1 0, q_A 0, q_A 1, none], [], [], [], [((-2147483648), 2147483647), ((-2147483648), 2147483647)], [], [], 2), (0, [], [r_A 2], [], [], [(0, 3), ((-1), 105), ((-2147483648), 2147483647)], [(2147483647, [(1, (-1)), (2, 1)])], [], 2), [0, 2], (0, 1), ([], [], []))
def al_242_0 : List (Nat × sx_A) := []
theorem ck_242_0 : sx_chk cap_G (fun _ => none) al_242_0 (sx_tb [(24, [sp_24_0]), (55, [sp_55_0]), (265, [sp_265_0]), (267, [sp_267_0]), (272, [sp_272_0])]) 242 sp_242_0 63 = true := by decide +kernel
theorem sf_242_0 (sc : Nat × (Nat → Int)) : sx_sf (mt_P sc) cap_I 3 242 sp_242_0 := sx_sf_of cap_hI ck_242_0 ⟨⟨sx_sf_up (sf_24_0 sc) rfl, trivial⟩, ⟨sx_sf_up (sf_55_0 sc) rfl, trivial⟩, ⟨sx_sf_up (sf_265_0 sc) rfl, trivial⟩, ⟨sx_sf_up (sf_267_0 sc) rfl, trivial⟩, ⟨sx_sf_up (sf_272_0 sc) rfl, trivial⟩, trivial⟩
/-- Board.pinPoint(I)I -/
def sp_19_0 : sx_Sp := ((0, [q_R 0 1 0, q_A 0], [], [], [], [(0, 640)], [], [], 2), (0, [], [r_A 1], [(((0, 1, 0), 0), (0, [(2, 1)]))], [], [(0, 640), (0, 2172), (0, 60)], [], [], 2), [], (0, 0), ([], [], []))
def al_19_0 : List (Nat × sx_A) := []
theorem ck_19_0 : sx_chk cap_G (fun _ => none) al_19_0 (sx_tb [(17, [sp_17_0]), (18, [sp_18_0])]) 19 sp_19_0 33 = true := by decide +kernel
theorem sf_19_0 (sc : Nat × (Nat → Int)) : sx_sf (mt_P sc) cap_I 2 19 sp_19_0 := sx_sf_of cap_hI ck_19_0 ⟨⟨sx_sf_up (sf_17_0 sc) rfl, trivial⟩, ⟨sx_sf_up (sf_18_0 sc) rfl, trivial⟩, trivial⟩
/-- Router.keepPins(I)V -/
def sp_154_0 : sx_Sp := ((0, [q_R 8 1 0, q_A 0, none, none], [], [(((8, 1, 0), 1), (0, [(1, 1)])), (((8, 1, 0), 2), (0, [(2, 1)]))], [(((8, 1, 0), 0), 2, 0)], [(0, 106), (2, 62), (0, 2170)], [], [], 3), (0, [], [], [(((8, 1, 0), 1), (0, [(3, 1)])), (((8, 1, 0), 2), (0, [(4, 1)]))], [(((8, 1, 0), 0), 3, 0)], [(0, 106), (2, 62), (0, 2170), (2, 62), (0, 2170)], [], [], 4), [], (0, 0), ([], [85], []))
def al_154_0 : List (Nat × sx_A) := [(10, (10, [q_R 8 1 0, q_A 0, q_A 3, none], [], [(((8, 1, 0), 1), (0, [(4, 1)])), (((8, 1, 0), 2), (0, [(5, 1)]))], [(((8, 1, 0), 0), 3, 0)], [(0, 106), (2, 62), (0, 2170), (0, 149), (2, 62), (0, 2170)], [], [], 4), [(34, []), (149, [(3, (-1))]), (34, []), (0, []), (0, [])]), (17, (17, [q_R 8 1 0, q_A 0, q_A 3, q_A 4], [], [(((8, 1, 0), 1), (0, [(5, 1)])), (((8, 1, 0), 2), (0, [(6, 1)]))], [(((8, 1, 0), 0), 3, 0)], [(1, 106), (2, 62), (0, 2170), (0, 148), (0, 11), (2, 62), (0, 2170)], [], [], 4), [(34, []), (149, [(3, (-1))]), (29, []), (11, [(4, (-1))]), (29, [])])]
theorem ck_154_0 : sx_chk cap_G (fun _ => none) al_154_0 (sx_tb [(2, [sp_2_0, sp_2_1, sp_2_2, sp_2_3, sp_2_4, sp_2_5, sp_2_6, sp_2_7, sp_2_8, sp_2_9, sp_2_10, sp_2_11, sp_2_12, sp_2_13, sp_2_14, sp_2_15, sp_2_16, sp_2_17, sp_2_18, sp_2_19, sp_2_20, sp_2_21, sp_2_22]), (14, [sp_14_0]), (19, [sp_19_0])]) 154 sp_154_0 43 = true := by decide +kernel
theorem sf_154_0 (sc : Nat × (Nat → Int)) : sx_sf (mt_P sc) cap_I 3 154 sp_154_0 := sx_sf_of cap_hI ck_154_0 ⟨⟨sx_sf_up (sf_2_0 sc) rfl, sx_sf_up (sf_2_1 sc) rfl, sx_sf_up (sf_2_2 sc) rfl, sx_sf_up (sf_2_3 sc) rfl, sx_sf_up (sf_2_4 sc) rfl, sx_sf_up (sf_2_5 sc) rfl, sx_sf_up (sf_2_6 sc) rfl, sx_sf_up (sf_2_7 sc) rfl, sx_sf_up (sf_2_8 sc) rfl, sx_sf_up (sf_2_9 sc) rfl, sx_sf_up (sf_2_10 sc) rfl, sx_sf_up (sf_2_11 sc) rfl, sx_sf_up (sf_2_12 sc) rfl, sx_sf_up (sf_2_13 sc) rfl, sx_sf_up (sf_2_14 sc) rfl, sx_sf_up (sf_2_15 sc) rfl, sx_sf_up (sf_2_16 sc) rfl, sx_sf_up (sf_2_17 sc) rfl, sx_sf_up (sf_2_18 sc) rfl, sx_sf_up (sf_2_19 sc) rfl, sx_sf_up (sf_2_20 sc) rfl, sx_sf_up (sf_2_21 sc) rfl, sx_sf_up (sf_2_22 sc) rfl, trivial⟩, ⟨sx_sf_up (sf_14_0 sc) rfl, trivial⟩, ⟨sx_sf_up (sf_19_0 sc) rfl, trivial⟩, trivial⟩
/-- Router.firstOpen()I -/
def sp_156_0 : sx_Sp := ((0, [q_R 8 1 0, none], [], [(((8, 1, 0), 1), (0, [(0, 1)])), (((8, 1, 0), 2), (0, [(1, 1)]))], [(((8, 1, 0), 0), 2, 0)], [(2, 62), (0, 2170)], [], [], 3), (0, [], [r_A 2], [(((8, 1, 0), 1), (0, [(3, 1)])), (((8, 1, 0), 2), (0, [(4, 1)])), (((8, 1, 0), 13), (0, [(5, 1)]))], [(((8, 1, 0), 0), 3, 0)], [(2, 62), (0, 2170), ((-1), 149), (2, 62), (0, 2170), (0, 95)], [(148, [(2, (-1)), (5, 1)])], [], 4), [], (0, 0), ([], [], []))
def al_156_0 : List (Nat × sx_A) := [(2, (2, [q_R 8 1 0, q_A 2], [], [(((8, 1, 0), 1), (0, [(3, 1)])), (((8, 1, 0), 2), (0, [(4, 1)]))], [(((8, 1, 0), 0), 3, 0)], [(2, 62), (0, 2170), (0, 95), (2, 62), (0, 2170)], [], [], 4), [(27, []), (95, [(2, (-1))]), (27, [])])]
theorem ck_156_0 : sx_chk cap_G (fun _ => none) al_156_0 (sx_tb []) 156 sp_156_0 42 = true := by decide +kernel
theorem sf_156_0 (sc : Nat × (Nat → Int)) : sx_sf (mt_P sc) cap_I 1 156 sp_156_0 := sx_sf_of cap_hI ck_156_0 trivial
/-- Router.nearestPin(II)I -/
def sp_158_0 : sx_Sp := ((0, [q_R 8 1 0, q_A 0, q_A 1, none, none, none, none], [], [(((8, 1, 0), 1), (0, [(2, 1)])), (((8, 1, 0), 2), (0, [(3, 1)]))], [(((8, 1, 0), 0), 2, 0)], [(0, 149), ((-1), 95), (2, 62), (0, 2170)], [], [], 3), (0, [], [r_A 4], [(((8, 1, 0), 1), (0, [(5, 1)])), (((8, 1, 0), 2), (0, [(6, 1)]))], [(((8, 1, 0), 0), 3, 0)], [(0, 149), ((-1), 95), (2, 62), (0, 2170), ((-1), 2172), (2, 62), (0, 2170)], [], [], 4), [], (0, 0), ([], [], []))
def al_158_0 : List (Nat × sx_A) := [(5, (5, [q_R 8 1 0, q_A 0, q_A 1, q_A 4, q_A 5, none, none], [], [(((8, 1, 0), 1), (0, [(6, 1)])), (((8, 1, 0), 2), (0, [(7, 1)]))], [(((8, 1, 0), 0), 3, 0)], [(0, 149), ((-1), 95), (2, 62), (0, 2170), ((-1), 2172), (0, 11), (2, 62), (0, 2170)], [], [], 4), [(55, []), (11, [(5, (-1))]), (55, [])])]
theorem ck_158_0 : sx_chk cap_G (fun _ => none) al_158_0 (sx_tb [(14, [sp_14_0]), (19, [sp_19_0])]) 158 sp_158_0 108 = true := by decide +kernel
theorem sf_158_0 (sc : Nat × (Nat → Int)) : sx_sf (mt_P sc) cap_I 3 158 sp_158_0 := sx_sf_of cap_hI ck_158_0 ⟨⟨sx_sf_up (sf_14_0 sc) rfl, trivial⟩, ⟨sx_sf_up (sf_19_0 sc) rfl, trivial⟩, trivial⟩
/-- Router.lose(I)V -/
def sp_159_0 : sx_Sp := ((0, [q_R 8 1 0, q_A 0, none], [], [(((8, 1, 0), 1), (0, [(1, 1)])), (((8, 1, 0), 2), (0, [(2, 1)]))], [(((8, 1, 0), 0), 2, 0)], [(0, 149), (2, 62), (0, 2170)], [], [], 3), (0, [], [], [(((8, 1, 0), 1), (0, [(3, 1)])), (((8, 1, 0), 2), (0, [(4, 1)]))], [(((8, 1, 0), 0), 3, 0)], [(0, 149), (2, 62), (0, 2170), (2, 62), (0, 2170)], [], [], 4), [], (0, 0), ([], [22, 23, 24], []))
def al_159_0 : List (Nat × sx_A) := [(12, (12, [q_R 8 1 0, q_A 0, q_A 3], [], [(((8, 1, 0), 1), (0, [(4, 1)])), (((8, 1, 0), 2), (0, [(5, 1)]))], [(((8, 1, 0), 0), 3, 0)], [(0, 149), (2, 62), (0, 2170), (0, 4340), (2, 62), (0, 2170)], [], [], 4), [(33, []), (4340, [(3, (-1))]), (33, [])])]
theorem ck_159_0 : sx_chk cap_G (fun _ => none) al_159_0 (sx_tb []) 159 sp_159_0 50 = true := by decide +kernel
theorem sf_159_0 (sc : Nat × (Nat → Int)) : sx_sf (mt_P sc) cap_I 1 159 sp_159_0 := sx_sf_of cap_hI ck_159_0 trivial
/-- Router.priceOf(II)I -/
def sp_160_0 : sx_Sp := ((0, [q_R 8 1 0, q_A 0, q_A 1], [], [(((8, 1, 0), 1), (0, [(2, 1)])), (((8, 1, 0), 2), (0, [(3, 1)]))], [(((8, 1, 0), 0), 2, 0)], [(0, 1799), (0, 149), (2, 62), (1, 2170)], [], [], 3), (0, [], [r_A 4], [(((8, 1, 0), 1), (0, [(5, 1)])), (((8, 1, 0), 2), (0, [(6, 1)]))], [(((8, 1, 0), 0), 3, 0)], [(0, 1799), (0, 149), (2, 62), (1, 2170), (1, 11), (2, 62), (1, 2170)], [], [], 4), [], (0, 0), ([], [], []))
def al_160_0 : List (Nat × sx_A) := []
theorem ck_160_0 : sx_chk cap_G (fun _ => none) al_160_0 (sx_tb []) 160 sp_160_0 42 = true := by decide +kernel
theorem sf_160_0 (sc : Nat × (Nat → Int)) : sx_sf (mt_P sc) cap_I 1 160 sp_160_0 := sx_sf_of cap_hI ck_160_0 trivial
/-- Board.points()I -/
def sp_16_0 : sx_Sp := ((0, [q_R 0 1 0], [], [], [], [], [], [], 2), (0, [], [r_A 0], [(((0, 1, 0), 0), (0, [(1, 1)])), (((0, 1, 0), 2), (0, [(2, 1)]))], [], [(0, 4340), (0, 60), (0, 35)], [], [], 2), [], (0, 0), ([], [], []))
def al_16_0 : List (Nat × sx_A) := []
theorem ck_16_0 : sx_chk cap_G (fun _ => none) al_16_0 (sx_tb []) 16 sp_16_0 30 = true := by decide +kernel
theorem sf_16_0 (sc : Nat × (Nat → Int)) : sx_sf (mt_P sc) cap_I 1 16 sp_16_0 := sx_sf_of cap_hI ck_16_0 trivial
/-- ChipFlow.point(II)I -/
def sp_244_0 : sx_Sp := ((0, [q_R 12 1 0, q_A 0, q_A 1, none], [], [], [], [((-2147483648), 2147483647), ((-2147483648), 2147483647)], [], [], 2), (0, [], [r_A 2], [], [], [(0, 3), (0, 4339), ((-1), 149)], [], [], 2), [0, 2], (0, 1), ([], [], []))
def al_244_0 : List (Nat × sx_A) := []
theorem ck_244_0 : sx_chk cap_G (fun _ => none) al_244_0 (sx_tb [(16, [sp_16_0]), (265, [sp_265_0]), (267, [sp_267_0]), (272, [sp_272_0])]) 244 sp_244_0 59 = true := by decide +kernel
theorem sf_244_0 (sc : Nat × (Nat → Int)) : sx_sf (mt_P sc) cap_I 3 244 sp_244_0 := sx_sf_of cap_hI ck_244_0 ⟨⟨sx_sf_up (sf_16_0 sc) rfl, trivial⟩, ⟨sx_sf_up (sf_265_0 sc) rfl, trivial⟩, ⟨sx_sf_up (sf_267_0 sc) rfl, trivial⟩, ⟨sx_sf_up (sf_272_0 sc) rfl, trivial⟩, trivial⟩
/-- java/lang/Integer.bitCount(I)I -/
def sp_7_0 : sx_Sp := ((0, [q_A 0], [], [], [], [(0, 5)], [], [], 1), (0, [], [r_A 1], [], [], [(0, 5), (0, 63)], [], [], 1), [], (0, 0), ([], [], []))
def al_7_0 : List (Nat × sx_A) := []
theorem ck_7_0 : sx_chk cap_G (fun _ => none) al_7_0 (sx_tb []) 7 sp_7_0 62 = true := by decide +kernel
theorem sf_7_0 (sc : Nat × (Nat → Int)) : sx_sf (mt_P sc) cap_I 1 7 sp_7_0 := sx_sf_of cap_hI ck_7_0 trivial
