/-! checks of methods -/
/-- Board.countWire(II)I -/
def sp_30_0 : sx_Sp := ((0, [q_R 0 1 0, q_A 0, q_A 1, none, none], [], [], [], [((-2147483648), 2147483647), ((-2147483648), 2147483647)], [], [], 2), (0, [], [r_A 2], [(((0, 1, 0), 0), (0, [(3, 1)])), (((0, 1, 0), 2), (0, [(4, 1)]))], [], [((-2147483648), 2147483647), ((-2147483648), 2147483647), ((-2147483648), 2147483647), (0, 60), (0, 35)], [], [], 2), [], (0, 0), ([], [], []))
def al_30_0 : List (Nat × sx_A) := [(5, (5, [q_R 0 1 0, q_A 0, q_A 1, q_A 2, q_A 3], [], [], [], [((-2147483648), 2147483647), ((-2147483648), 2147483647), ((-2147483648), 2147483647), (0, 4340)], [], [], 2), [(41, []), (4340, [(3, (-1))]), (41, [])])]
theorem ck_30_0 : sx_chk cap_G (fun _ => none) al_30_0 (sx_tb [(7, [sp_7_0]), (16, [sp_16_0])]) 30 sp_30_0 67 = true := by decide +kernel
theorem sf_30_0 (sc : Nat × (Nat → Int)) : sx_sf (mt_P sc) cap_I 2 30 sp_30_0 := sx_sf_of cap_hI ck_30_0 ⟨⟨sx_sf_up (sf_7_0 sc) rfl, trivial⟩, ⟨sx_sf_up (sf_16_0 sc) rfl, trivial⟩, trivial⟩
/-- ChipFlow.routed(III)I -/
def sp_245_0 : sx_Sp := ((0, [q_R 12 1 0, q_A 0, q_A 1, q_A 2, none], [], [], [], [((-2147483648), 2147483647), ((-2147483648), 2147483647), ((-2147483648), 2147483647)], [], [], 2), (0, [], [r_A 3], [], [], [(0, 3), (0, 105), (0, 4), ((-2147483648), 2147483647)], [(2147483651, [(2, (-1)), (3, 1)])], [], 2), [0, 1, 2], (0, 1), ([], [], []))
def al_245_0 : List (Nat × sx_A) := []
theorem ck_245_0 : sx_chk cap_G (fun _ => none) al_245_0 (sx_tb [(30, [sp_30_0]), (55, [sp_55_0]), (265, [sp_265_0]), (266, [sp_266_0]), (267, [sp_267_0]), (272, [sp_272_0])]) 245 sp_245_0 78 = true := by decide +kernel
theorem sf_245_0 (sc : Nat × (Nat → Int)) : sx_sf (mt_P sc) cap_I 3 245 sp_245_0 := sx_sf_of cap_hI ck_245_0 ⟨⟨sx_sf_up (sf_30_0 sc) rfl, trivial⟩, ⟨sx_sf_up (sf_55_0 sc) rfl, trivial⟩, ⟨sx_sf_up (sf_265_0 sc) rfl, trivial⟩, ⟨sx_sf_up (sf_266_0 sc) rfl, trivial⟩, ⟨sx_sf_up (sf_267_0 sc) rfl, trivial⟩, ⟨sx_sf_up (sf_272_0 sc) rfl, trivial⟩, trivial⟩
/-- Layout.forget()V -/
def sp_68_0 : sx_Sp := ((0, [q_R 4 1 0], [], [], [], [], [], [], 2), (0, [], [], [(((4, 1, 0), 9), (0, [(0, 1)])), (((4, 1, 0), 10), (0, [(1, 1)]))], [], [(0, 0), (0, 0)], [], [], 2), [], (0, 0), ([(4, 9), (4, 10)], [], []))
def al_68_0 : List (Nat × sx_A) := []
theorem ck_68_0 : sx_chk cap_G (fun _ => none) al_68_0 (sx_tb []) 68 sp_68_0 27 = true := by decide +kernel
theorem sf_68_0 (sc : Nat × (Nat → Int)) : sx_sf (mt_P sc) cap_I 1 68 sp_68_0 := sx_sf_of cap_hI ck_68_0 trivial
/-- Layout.isThin(I)Z -/
def sp_76_0 : sx_Sp := ((0, [q_R 4 1 0, q_A 0, none], [], [(((4, 1, 0), 1), (0, [(1, 1)])), (((4, 1, 0), 9), (0, [(2, 1)]))], [], [(0, 574), (1, 575), (1, 1)], [], [], 2), (0, [], [r_A 3], [(((4, 1, 0), 1), (0, [(4, 1)])), (((4, 1, 0), 9), (0, [(5, 1)]))], [], [(0, 574), (1, 575), (1, 1), (0, 1), (1, 575), (1, 1)], [], [], 2), [], (0, 0), ([], [], []))
def al_76_0 : List (Nat × sx_A) := []
theorem ck_76_0 : sx_chk cap_G (fun _ => none) al_76_0 (sx_tb []) 76 sp_76_0 62 = true := by decide +kernel
theorem sf_76_0 (sc : Nat × (Nat → Int)) : sx_sf (mt_P sc) cap_I 1 76 sp_76_0 := sx_sf_of cap_hI ck_76_0 trivial
/-- Layout.isTooNear(II)Z -/
def sp_77_0 : sx_Sp := ((0, [q_R 4 1 0, q_A 0, q_A 1, none, none, none, none], [], [(((4, 1, 0), 1), (0, [(2, 1)])), (((4, 1, 0), 9), (0, [(3, 1)]))], [], [(0, 574), (1, 574), (2, 575), (1, 1)], [], [], 2), (0, [], [r_A 4], [(((4, 1, 0), 1), (0, [(5, 1)])), (((4, 1, 0), 9), (0, [(6, 1)]))], [], [(0, 574), (1, 574), (2, 575), (1, 1), (0, 1), (2, 575), (1, 1)], [], [], 2), [], (0, 0), ([], [], []))
def al_77_0 : List (Nat × sx_A) := []
theorem ck_77_0 : sx_chk cap_G (fun _ => none) al_77_0 (sx_tb []) 77 sp_77_0 117 = true := by decide +kernel
theorem sf_77_0 (sc : Nat × (Nat → Int)) : sx_sf (mt_P sc) cap_I 1 77 sp_77_0 := sx_sf_of cap_hI ck_77_0 trivial
/-- Layout.thinBox(I)I -/
def sp_81_0 : sx_Sp := ((0, [q_R 4 1 0, q_A 0, none, none], [], [(((4, 1, 0), 8), (0, [(1, 1)])), (((4, 1, 0), 9), (0, [(2, 1)]))], [], [((-2147483648), 2147483646), ((-2147483647), 2147483647), (1, 1)], [((-1), [(0, (-1)), (1, 1)])], [], 2), (0, [], [r_A 3], [(((4, 1, 0), 1), (0, [(4, 1)])), (((4, 1, 0), 8), (0, [(5, 1)])), (((4, 1, 0), 9), (0, [(6, 1)]))], [], [((-2147483648), 2147483646), ((-2147483647), 2147483647), (1, 1), ((-1), 574), (0, 575), ((-2147483647), 2147483647), (1, 1)], [(573, [(3, (-1)), (4, 1)]), ((-1), [(0, (-1)), (5, 1)])], [], 2), [], (0, 0), ([], [], []))
def al_81_0 : List (Nat × sx_A) := [(4, (4, [q_R 4 1 0, q_A 0, q_A 3, q_A 4], [], [(((4, 1, 0), 8), (0, [(5, 1)])), (((4, 1, 0), 9), (0, [(6, 1)]))], [], [((-2147483648), 2147483646), ((-2147483647), 2147483647), (1, 1), ((-2147483648), 2147483647), (0, 575), ((-2147483647), 2147483647), (1, 1)], [((-1), [(0, (-1)), (5, 1)]), ((-1), [(0, (-1)), (1, 1)])], [], 2), [(22, []), (575, [(4, (-1))]), (22, [])])]
theorem ck_81_0 : sx_chk cap_G (fun _ => none) al_81_0 (sx_tb [(76, [sp_76_0])]) 81 sp_81_0 39 = true := by decide +kernel
theorem sf_81_0 (sc : Nat × (Nat → Int)) : sx_sf (mt_P sc) cap_I 2 81 sp_81_0 := sx_sf_of cap_hI ck_81_0 ⟨⟨sx_sf_up (sf_76_0 sc) rfl, trivial⟩, trivial⟩
/-- Layout.sideOf(II)I -/
def sp_80_0 : sx_Sp := ((0, [q_R 4 1 0, q_A 0, q_A 1, none, none, none], [], [(((4, 1, 0), 9), (0, [(2, 1)]))], [], [((-2147483648), 2147483647), ((-2147483648), 2147483647), (1, 1)], [], [], 2), (0, [], [r_A 3], [(((4, 1, 0), 8), (0, [(4, 1)])), (((4, 1, 0), 9), (0, [(5, 1)]))], [], [((-2147483648), 2147483647), ((-2147483648), 2147483647), (1, 1), ((-1), 574), ((-2147483648), 2147483647), (1, 1)], [], [], 2), [], (0, 0), ([], [], []))
def al_80_0 : List (Nat × sx_A) := [(32, (32, [q_R 4 1 0, q_A 0, q_A 1, q_A 3, q_A 4, none], [], [(((4, 1, 0), 8), (0, [(5, 1)])), (((4, 1, 0), 9), (0, [(6, 1)]))], [], [((-2147483648), 2147483647), ((-2147483648), 2147483647), (1, 1), ((-2147483648), 2147483647), (0, 574), ((-2147483648), 2147483647), (1, 1)], [(0, [(0, 1), (5, (-1))])], [], 2), [(52, []), (574, [(4, (-1))]), (52, [])]), (83, (83, [q_R 4 1 0, q_A 0, q_A 1, q_A 3, q_A 4, q_A 5], [], [(((4, 1, 0), 1), (0, [(6, 1)])), (((4, 1, 0), 8), (0, [(7, 1)])), (((4, 1, 0), 9), (0, [(8, 1)]))], [], [((-2147483648), 2147483647), ((-2147483648), 2147483647), (1, 1), ((-2147483648), 2147483647), (0, 574), (1, 575), (0, 575), ((-2147483648), 2147483647), (1, 1)], [(0, [(0, 1), (7, (-1))])], [], 2), [(23, []), (575, [(5, (-1))]), (23, [])])]
theorem ck_80_0 : sx_chk cap_G (fun _ => none) al_80_0 (sx_tb [(77, [sp_77_0]), (81, [sp_81_0])]) 80 sp_80_0 57 = true := by decide +kernel
theorem sf_80_0 (sc : Nat × (Nat → Int)) : sx_sf (mt_P sc) cap_I 3 80 sp_80_0 := sx_sf_of cap_hI ck_80_0 ⟨⟨sx_sf_up (sf_77_0 sc) rfl, trivial⟩, ⟨sx_sf_up (sf_81_0 sc) rfl, trivial⟩, trivial⟩
/-- Layout.isTouching(II)Z -/
def sp_78_0 : sx_Sp := ((0, [q_R 4 1 0, q_A 0, q_A 1, none, none], [], [(((4, 1, 0), 1), (0, [(2, 1)])), (((4, 1, 0), 10), (0, [(3, 1)]))], [], [(0, 574), (1, 574), (2, 575), (1, 1)], [], [], 2), (0, [], [r_A 4], [(((4, 1, 0), 1), (0, [(5, 1)])), (((4, 1, 0), 10), (0, [(6, 1)]))], [], [(0, 574), (1, 574), (2, 575), (1, 1), (0, 1), (2, 575), (1, 1)], [], [], 2), [], (0, 0), ([], [], []))
def al_78_0 : List (Nat × sx_A) := []
theorem ck_78_0 : sx_chk cap_G (fun _ => none) al_78_0 (sx_tb []) 78 sp_78_0 91 = true := by decide +kernel
theorem sf_78_0 (sc : Nat × (Nat → Int)) : sx_sf (mt_P sc) cap_I 1 78 sp_78_0 := sx_sf_of cap_hI ck_78_0 trivial
/-- Layout.topOf(I)I -/
def sp_84_0 : sx_Sp := ((0, [q_R 4 1 0, q_A 0, none, none], [], [(((4, 1, 0), 1), (0, [(1, 1)])), (((4, 1, 0), 10), (0, [(2, 1)]))], [], [(0, 574), (1, 575), (1, 1)], [], [], 2), (0, [], [r_A 3], [(((4, 1, 0), 1), (0, [(4, 1)])), (((4, 1, 0), 10), (0, [(5, 1)]))], [], [(0, 574), (1, 575), (1, 1), (0, 575), (1, 575), (1, 1)], [], [], 2), [], (0, 0), ([], [51], []))
def al_84_0 : List (Nat × sx_A) := [(4, (4, [q_R 4 1 0, q_A 0, q_A 3, q_A 4], [], [(((4, 1, 0), 1), (0, [(5, 1)])), (((4, 1, 0), 10), (0, [(6, 1)]))], [], [(0, 574), (1, 575), (1, 1), (0, 575), (0, 2000), (1, 575), (1, 1)], [], [], 2), [(34, []), (2000, [(4, (-1))]), (34, [])])]
theorem ck_84_0 : sx_chk cap_G (fun _ => none) al_84_0 (sx_tb []) 84 sp_84_0 51 = true := by decide +kernel
theorem sf_84_0 (sc : Nat × (Nat → Int)) : sx_sf (mt_P sc) cap_I 1 84 sp_84_0 := sx_sf_of cap_hI ck_84_0 trivial
/-- Layout.joinBoxes()V -/
def sp_83_0 : sx_Sp := ((0, [q_R 4 1 0, none, none, none, none, none], [], [(((4, 1, 0), 10), (0, [(0, 1)]))], [], [(1, 1)], [], [], 2), (0, [], [], [(((4, 1, 0), 1), (0, [(1, 1)])), (((4, 1, 0), 10), (0, [(2, 1)]))], [], [(1, 1), (0, 575), (1, 1)], [], [], 2), [], (0, 0), ([], [51], []))
def al_83_0 : List (Nat × sx_A) := [(2, (2, [q_R 4 1 0, q_A 1, none, none, none, none], [], [(((4, 1, 0), 10), (0, [(2, 1)]))], [], [(1, 1), (0, 575), (1, 1)], [], [], 2), [(85, []), (575, [(1, (-1))]), (85, []), (0, []), (0, [])]), (25, (25, [q_R 4 1 0, q_A 1, none, none, none, none], [], [(((4, 1, 0), 1), (0, [(2, 1)])), (((4, 1, 0), 10), (0, [(3, 1)]))], [], [(1, 1), (0, 575), (0, 575), (1, 1)], [], [], 2), [(72, []), (575, [(1, (-1))]), (72, []), (0, []), (0, [])]), (46, (46, [q_R 4 1 0, q_A 1, q_A 2, q_A 3, none, none], [], [(((4, 1, 0), 1), (0, [(4, 1)])), (((4, 1, 0), 10), (0, [(5, 1)]))], [], [(1, 1), (0, 574), ((-1), 255), (1, 575), (1, 575), (1, 1)], [], [], 2), [(72, []), (575, [(1, (-1))]), (57, []), (575, [(3, (-1))]), (57, [])])]
theorem ck_83_0 : sx_chk cap_G (fun _ => none) al_83_0 (sx_tb [(78, [sp_78_0]), (84, [sp_84_0])]) 83 sp_83_0 127 = true := by decide +kernel
theorem sf_83_0 (sc : Nat × (Nat → Int)) : sx_sf (mt_P sc) cap_I 2 83 sp_83_0 := sx_sf_of cap_hI ck_83_0 ⟨⟨sx_sf_up (sf_78_0 sc) rfl, trivial⟩, ⟨sx_sf_up (sf_84_0 sc) rfl, trivial⟩, trivial⟩
/-- java/util/Arrays.fill([JJ)V -/
def sp_4_0 : sx_Sp := ((0, [q_R 54 1 0, q_J, none, none, none], [], [], [], [], [], [], 2), (0, [], [], [], [], [], [], [], 2), [], (0, 0), ([], [54], []))
def al_4_0 : List (Nat × sx_A) := [(6, (6, [q_R 54 1 0, q_J, none, q_A 0, q_A 1], [], [], [], [(0, 486), (486, 486)], [], [], 2), [(15, []), (486, [(0, (-1))]), (15, [])])]
theorem ck_4_0 : sx_chk cap_G (fun _ => none) al_4_0 (sx_tb []) 4 sp_4_0 30 = true := by decide +kernel
theorem sf_4_0 (sc : Nat × (Nat → Int)) : sx_sf (mt_P sc) cap_I 1 4 sp_4_0 := sx_sf_of cap_hI ck_4_0 trivial
/-- java/lang/Long.bitCount(J)I -/
def sp_8_0 : sx_Sp := ((0, [q_J, none], [], [], [], [], [], [], 1), (0, [], [r_A 0], [], [], [(0, 127)], [], [], 1), [], (0, 0), ([], [], []))
def al_8_0 : List (Nat × sx_A) := []
theorem ck_8_0 : sx_chk cap_G (fun _ => none) al_8_0 (sx_tb []) 8 sp_8_0 69 = true := by decide +kernel
theorem sf_8_0 (sc : Nat × (Nat → Int)) : sx_sf (mt_P sc) cap_I 1 8 sp_8_0 := sx_sf_of cap_hI ck_8_0 trivial
/-- Layout.countShorts(LChipFlow$Board;)V -/
def sp_86_0 : sx_Sp := ((0, [q_R 4 1 0, q_R 0 2 0, none, none, none, none, none, none], [], [(((4, 1, 0), 10), (0, [(0, 1)]))], [], [(1, 1)], [], [], 3), (0, [], [], [(((4, 1, 0), 4), (0, [(1, 1)])), (((4, 1, 0), 10), (0, [(2, 1)]))], [], [(1, 1), ((-2147483648), 2147483647), (1, 1)], [], [], 3), [], (0, 0), ([(4, 4)], [54], []))
def al_86_0 : List (Nat × sx_A) := [(15, (15, [q_R 4 1 0, q_R 0 2 0, q_A 1, none, none, none, none, none], [], [(((4, 1, 0), 4), (0, [(2, 1)])), (((4, 1, 0), 10), (0, [(3, 1)]))], [], [(1, 1), (0, 652), (0, 0), (1, 1)], [], [], 3), [(93, []), (652, [(1, (-1))]), (93, []), (0, []), (0, [])]), (34, (34, [q_R 4 1 0, q_R 0 2 0, q_A 1, q_A 2, q_A 3, none, none, none], [], [(((4, 1, 0), 4), (0, [(4, 1)])), (((4, 1, 0), 10), (0, [(5, 1)]))], [], [(1, 1), (0, 651), ((-1), 95), (1, 652), (0, 0), (1, 1)], [], [], 3), [(93, []), (652, [(1, (-1))]), (81, []), (652, [(3, (-1))]), (81, [])]), (139, (139, [q_R 4 1 0, q_R 0 2 0, q_A 1, none, none, none, none, none], [], [(((4, 1, 0), 4), (0, [(2, 1)])), (((4, 1, 0), 10), (0, [(3, 1)]))], [], [(1, 1), (0, 486), ((-2147483648), 2147483647), (1, 1)], [], [], 3), [(23, []), (486, [(1, (-1))]), (23, []), (0, []), (0, [])])]
theorem ck_86_0 : sx_chk cap_G (fun _ => none) al_86_0 (sx_tb [(4, [sp_4_0]), (8, [sp_8_0])]) 86 sp_86_0 84 = true := by decide +kernel
theorem sf_86_0 (sc : Nat × (Nat → Int)) : sx_sf (mt_P sc) cap_I 2 86 sp_86_0 := sx_sf_of cap_hI ck_86_0 ⟨⟨sx_sf_up (sf_4_0 sc) rfl, trivial⟩, ⟨sx_sf_up (sf_8_0 sc) rfl, trivial⟩, trivial⟩
/-- Layout.countOpens(LChipFlow$Board;)V -/
def sp_87_0 : sx_Sp := ((0, [q_R 4 1 0, q_R 0 2 0, none, none, none], [], [(((4, 1, 0), 10), (0, [(0, 1)]))], [], [(1, 1)], [], [], 3), (0, [], [], [(((4, 1, 0), 5), (0, [(1, 1)])), (((4, 1, 0), 10), (0, [(2, 1)]))], [], [(1, 1), ((-2147483648), 2147483647), (1, 1)], [], [], 3), [], (0, 0), ([(4, 5)], [], []))
def al_87_0 : List (Nat × sx_A) := [(7, (7, [q_R 4 1 0, q_R 0 2 0, q_A 1, none, none], [], [(((4, 1, 0), 5), (0, [(2, 1)])), (((4, 1, 0), 10), (0, [(3, 1)]))], [], [(1, 1), (0, 162), ((-2147483648), 2147483647), (1, 1)], [], [], 3), [(46, []), (162, [(1, (-1))]), (46, []), (0, []), (0, [])]), (19, (19, [q_R 4 1 0, q_R 0 2 0, q_A 1, q_A 2, q_A 3], [], [(((4, 1, 0), 5), (0, [(4, 1)])), (((4, 1, 0), 10), (0, [(5, 1)]))], [], [(1, 1), (0, 161), (0, 1), (1, 11), ((-2147483648), 2147483647), (1, 1)], [], [], 3), [(46, []), (162, [(1, (-1))]), (39, []), (11, [(3, (-1))]), (39, [])])]
theorem ck_87_0 : sx_chk cap_G (fun _ => none) al_87_0 (sx_tb [(14, [sp_14_0])]) 87 sp_87_0 55 = true := by decide +kernel
theorem sf_87_0 (sc : Nat × (Nat → Int)) : sx_sf (mt_P sc) cap_I 2 87 sp_87_0 := sx_sf_of cap_hI ck_87_0 ⟨⟨sx_sf_up (sf_14_0 sc) rfl, trivial⟩, trivial⟩
/-- Times.comesBefore(II)Z -/
def sp_204_0 : sx_Sp := ((0, [q_R 11 1 0, q_A 0, q_A 1, none, none, none, none], [], [], [(((11, 1, 0), 3), 2, 0)], [(0, 40), (0, 40)], [], [], 3), (0, [], [r_A 2], [], [(((11, 1, 0), 3), 3, 0)], [(0, 40), (0, 40), (0, 1)], [], [], 4), [], (0, 0), ([], [], []))
def al_204_0 : List (Nat × sx_A) := [(55, (55, [q_R 11 1 0, q_A 0, q_A 1, q_A 2, q_A 3, none, none], [], [], [(((11, 1, 0), 3), 3, 0)], [(0, 40), (0, 40), (0, 28), (0, 28)], [], [], 4), [(51, []), (28, [(3, (-1))]), (51, [])])]
theorem ck_204_0 : sx_chk cap_G (fun _ => none) al_204_0 (sx_tb []) 204 sp_204_0 68 = true := by decide +kernel
theorem sf_204_0 (sc : Nat × (Nat → Int)) : sx_sf (mt_P sc) cap_I 1 204 sp_204_0 := sx_sf_of cap_hI ck_204_0 trivial
/-- Chip.isPattern(I)Z -/
def sp_61_0 : sx_Sp := ((0, [q_R 2 1 0, q_A 0], [], [], [], [((-2147483648), 2147483647)], [], [], 2), (0, [], [r_A 1], [], [], [((-2147483648), 2147483647), (0, 1)], [(2147483648, [(0, 1), (1, (-1))])], [((0, [(1, 1)]), 1, [(0, [(0, 1)]), (2047, [(0, (-1))])])], 2), [], (0, 0), ([], [], []))
def al_61_0 : List (Nat × sx_A) := []
theorem ck_61_0 : sx_chk cap_G (fun _ => none) al_61_0 (sx_tb []) 61 sp_61_0 38 = true := by decide +kernel
theorem sf_61_0 (sc : Nat × (Nat → Int)) : sx_sf (mt_P sc) cap_I 1 61 sp_61_0 := sx_sf_of cap_hI ck_61_0 trivial
/-- Times.restTime(I)I -/
def sp_210_0 : sx_Sp := ((0, [q_R 11 1 0, q_A 0, none, none], [], [], [], [(0, 106)], [], [], 2), (0, [], [r_A 1], [], [], [(0, 106), (0, 11)], [], [], 2), [], (0, 0), ([], [], []))
def al_210_0 : List (Nat × sx_A) := [(4, (4, [q_R 11 1 0, q_A 0, q_A 1, q_A 2], [], [], [], [(0, 106), (0, 11), (0, 4)], [], [], 2), [(22, []), (4, [(2, (-1))]), (22, [])])]
theorem ck_210_0 : sx_chk cap_G (fun _ => none) al_210_0 (sx_tb []) 210 sp_210_0 37 = true := by decide +kernel
theorem sf_210_0 (sc : Nat × (Nat → Int)) : sx_sf (mt_P sc) cap_I 1 210 sp_210_0 := sx_sf_of cap_hI ck_210_0 trivial
/-- java/lang/Integer.numberOfTrailingZeros(I)I -/
def sp_10_0 : sx_Sp := ((0, [q_A 0, none], [], [], [], [((-2147483648), 2147483647)], [], [], 1), (0, [], [r_A 1], [], [], [((-2147483648), 2147483647), ((-2147483648), 2147483647)], [], [], 1), [], (0, 0), ([], [], []))
def al_10_0 : List (Nat × sx_A) := []
theorem ck_10_0 : sx_chk cap_G (fun _ => none) al_10_0 (sx_tb []) 10 sp_10_0 252 = true := by decide +kernel
theorem sf_10_0 (sc : Nat × (Nat → Int)) : sx_sf (mt_P sc) cap_I 1 10 sp_10_0 := sx_sf_of cap_hI ck_10_0 trivial
/-- java/lang/Long.numberOfTrailingZeros(J)I -/
def sp_9_0 : sx_Sp := ((0, [q_J, none, none], [], [], [], [], [], [], 1), (0, [], [r_A 0], [], [], [((-2147483648), 2147483647)], [], [], 1), [], (0, 0), ([], [], []))
def al_9_0 : List (Nat × sx_A) := []
theorem ck_9_0 : sx_chk cap_G (fun _ => none) al_9_0 (sx_tb [(10, [sp_10_0])]) 9 sp_9_0 37 = true := by decide +kernel
theorem sf_9_0 (sc : Nat × (Nat → Int)) : sx_sf (mt_P sc) cap_I 2 9 sp_9_0 := sx_sf_of cap_hI ck_9_0 ⟨⟨sx_sf_up (sf_10_0 sc) rfl, trivial⟩, trivial⟩
/-- ChipFlow.needPattern(LChipFlow$Chip;I)V -/
def sp_269_0 : sx_Sp := ((0, [q_R 2 1 0, q_A 0], [], [], [], [((-2147483648), 2147483647)], [], [], 2), (0, [], [], [(((2, 1, 0), 15), (0, [(1, 1)]))], [], [(0, 3), (1, 4)], [((-1), [(0, (-1)), (1, 1)])], [], 2), [0, 2], (0, 1), ([], [], []))
def al_269_0 : List (Nat × sx_A) := []
theorem ck_269_0 : sx_chk cap_G (fun _ => none) al_269_0 (sx_tb [(265, [sp_265_0]), (267, [sp_267_0])]) 269 sp_269_0 54 = true := by decide +kernel
theorem sf_269_0 (sc : Nat × (Nat → Int)) : sx_sf (mt_P sc) cap_I 2 269 sp_269_0 := sx_sf_of cap_hI ck_269_0 ⟨⟨sx_sf_up (sf_265_0 sc) rfl, trivial⟩, ⟨sx_sf_up (sf_267_0 sc) rfl, trivial⟩, trivial⟩
/-- ChipFlow.pattern(II)I -/
def sp_261_0 : sx_Sp := ((0, [q_R 12 1 0, q_A 0, q_A 1, none], [], [], [], [((-2147483648), 2147483647), ((-2147483648), 2147483647)], [], [], 2), (0, [], [r_A 2], [], [], [(0, 3), (0, 3), (0, 7)], [], [], 2), [0, 2], (0, 1), ([], [], []))
def al_261_0 : List (Nat × sx_A) := []
theorem ck_261_0 : sx_chk cap_G (fun _ => none) al_261_0 (sx_tb [(269, [sp_269_0]), (272, [sp_272_0])]) 261 sp_261_0 32 = true := by decide +kernel
theorem sf_261_0 (sc : Nat × (Nat → Int)) : sx_sf (mt_P sc) cap_I 3 261 sp_261_0 := sx_sf_of cap_hI ck_261_0 ⟨⟨sx_sf_up (sf_269_0 sc) rfl, trivial⟩, ⟨sx_sf_up (sf_272_0 sc) rfl, trivial⟩, trivial⟩
/-- ChipFlow.fails(IIZ)Z -/
def sp_262_0 : sx_Sp := ((0, [q_R 12 1 0, q_A 0, q_A 1, q_A 2, none, none], [], [], [], [((-2147483648), 2147483647), ((-2147483648), 2147483647), (0, 1)], [], [], 2), (0, [], [r_A 3], [], [], [(0, 3), (0, 3), (0, 1), (0, 1)], [], [], 2), [0, 2], (0, 1), ([], [41], []))
def al_262_0 : List (Nat × sx_A) := []
theorem ck_262_0 : sx_chk cap_G (fun _ => none) al_262_0 (sx_tb [(269, [sp_269_0]), (272, [sp_272_0])]) 262 sp_262_0 65 = true := by decide +kernel
theorem sf_262_0 (sc : Nat × (Nat → Int)) : sx_sf (mt_P sc) cap_I 3 262 sp_262_0 := sx_sf_of cap_hI ck_262_0 ⟨⟨sx_sf_up (sf_269_0 sc) rfl, trivial⟩, ⟨sx_sf_up (sf_272_0 sc) rfl, trivial⟩, trivial⟩
/-- ChipFlowModel.end(I)V -/
def sp_280_0 : sx_Sp := ((0, [q_R 13 1 0, q_A 0], [], [], [], [((-2147483648), 2147483647)], [], [], 2), (0, [], [], [(((13, 1, 0), 0), (0, [(1, 1)])), (((13, 1, 0), 2), (0, [(2, 1)]))], [], [((-2147483648), 2147483647), (0, 1), (0, 449)], [(2147483646, [(0, (-1)), (1, 1)])], [], 2), [], (0, 0), ([(13, 0), (13, 2)], [], []))
def al_280_0 : List (Nat × sx_A) := []
theorem ck_280_0 : sx_chk cap_G (fun _ => none) al_280_0 (sx_tb []) 280 sp_280_0 60 = true := by decide +kernel
theorem sf_280_0 (sc : Nat × (Nat → Int)) : sx_sf (mt_P sc) cap_I 1 280 sp_280_0 := sx_sf_of cap_hI ck_280_0 trivial
/-- ChipFlowModel.tape()I -/
def sp_281_0 : sx_Sp := ((0, [q_R 13 1 0], [], [], [], [], [], [], 2), (0, [], [r_A 0], [(((13, 1, 0), 0), (0, [(1, 1)])), (((13, 1, 0), 2), (0, [(2, 1)]))], [], [(0, 449), (0, 0), (0, 449)], [(0, [(0, (-1)), (2, 1)]), (0, [(0, 1), (2, (-1))])], [], 2), [], (0, 0), ([(13, 0)], [], []))
def al_281_0 : List (Nat × sx_A) := []
theorem ck_281_0 : sx_chk cap_G (fun _ => none) al_281_0 (sx_tb []) 281 sp_281_0 26 = true := by decide +kernel
theorem sf_281_0 (sc : Nat × (Nat → Int)) : sx_sf (mt_P sc) cap_I 1 281 sp_281_0 := sx_sf_of cap_hI ck_281_0 trivial
/-- ChipFlowModel.isRight()Z -/
def sp_292_0 : sx_Sp := ((0, [q_R 13 1 0], [], [(((13, 1, 0), 0), (0, [(0, 1)]))], [], [(0, 0)], [], [], 2), (0, [], [r_A 1], [(((13, 1, 0), 0), (0, [(2, 1)]))], [], [(0, 0), (0, 1), (0, 0)], [], [], 2), [], (0, 0), ([], [], []))
def al_292_0 : List (Nat × sx_A) := []
theorem ck_292_0 : sx_chk cap_G (fun _ => none) al_292_0 (sx_tb []) 292 sp_292_0 28 = true := by decide +kernel
theorem sf_292_0 (sc : Nat × (Nat → Int)) : sx_sf (mt_P sc) cap_I 1 292 sp_292_0 := sx_sf_of cap_hI ck_292_0 trivial
/-- ChipFlowModel.isBlank(I)Z -/
def sp_285_0 : sx_Sp := ((0, [q_A 0], [], [], [], [((-1), 255)], [], [], 1), (0, [], [r_A 1], [], [], [((-1), 255), (0, 1)], [(1, [(0, 1), (1, (-1))])], [((0, [(1, 1)]), 1, [((-9), [(0, 1)]), (32, [(0, (-1))])])], 1), [], (0, 0), ([], [], []))
def al_285_0 : List (Nat × sx_A) := []
theorem ck_285_0 : sx_chk cap_G (fun _ => none) al_285_0 (sx_tb []) 285 sp_285_0 46 = true := by decide +kernel
theorem sf_285_0 (sc : Nat × (Nat → Int)) : sx_sf (mt_P sc) cap_I 1 285 sp_285_0 := sx_sf_of cap_hI ck_285_0 trivial
/-- ChipFlowModel.isLetter(I)Z -/
def sp_283_0 : sx_Sp := ((0, [q_A 0], [], [], [], [((-1), 255)], [], [], 1), (0, [], [r_A 1], [], [], [((-1), 255), (0, 1)], [(1, [(0, 1), (1, (-1))])], [((0, [(1, 1)]), 1, [((-65), [(0, 1)]), (122, [(0, (-1))])])], 1), [], (0, 0), ([], [], []))
def al_283_0 : List (Nat × sx_A) := []
theorem ck_283_0 : sx_chk cap_G (fun _ => none) al_283_0 (sx_tb []) 283 sp_283_0 62 = true := by decide +kernel
theorem sf_283_0 (sc : Nat × (Nat → Int)) : sx_sf (mt_P sc) cap_I 1 283 sp_283_0 := sx_sf_of cap_hI ck_283_0 trivial
/-- ChipFlowModel.isDigit(I)Z -/
def sp_284_0 : sx_Sp := ((0, [q_A 0], [], [], [], [((-1), 255)], [], [], 1), (0, [], [r_A 1], [], [], [((-1), 255), (0, 1)], [(1, [(0, 1), (1, (-1))])], [((0, [(1, 1)]), 1, [((-48), [(0, 1)]), (57, [(0, (-1))])])], 1), [], (0, 0), ([], [], []))
def al_284_0 : List (Nat × sx_A) := []
theorem ck_284_0 : sx_chk cap_G (fun _ => none) al_284_0 (sx_tb []) 284 sp_284_0 33 = true := by decide +kernel
theorem sf_284_0 (sc : Nat × (Nat → Int)) : sx_sf (mt_P sc) cap_I 1 284 sp_284_0 := sx_sf_of cap_hI ck_284_0 trivial
/-- ChipFlowModel.word(IIIIII)J -/
def sp_287_0 : sx_Sp := ((0, [q_A 0, q_A 1, q_A 2, q_A 3, q_A 4, q_A 5], [], [], [], [(99, 117), (101, 117), (0, 116), (0, 117), (0, 108), (0, 101)], [], [], 1), (0, [], [r_J], [], [], [(99, 117), (101, 117), (0, 116), (0, 117), (0, 108), (0, 101)], [], [], 1), [], (0, 0), ([], [], []))
def al_287_0 : List (Nat × sx_A) := []
theorem ck_287_0 : sx_chk cap_G (fun _ => none) al_287_0 (sx_tb []) 287 sp_287_0 50 = true := by decide +kernel
theorem sf_287_0 (sc : Nat × (Nat → Int)) : sx_sf (mt_P sc) cap_I 1 287 sp_287_0 := sx_sf_of cap_hI ck_287_0 trivial
/-- ChipFlowModel.wordOf(J)I -/
def sp_288_0 : sx_Sp := ((0, [q_J, none], [], [], [], [], [], [], 1), (0, [], [r_A 0], [], [], [(0, 7)], [], [], 1), [], (0, 0), ([], [], []))
def al_288_0 : List (Nat × sx_A) := []
theorem ck_288_0 : sx_chk cap_G (fun _ => none) al_288_0 (sx_tb [(287, [sp_287_0])]) 288 sp_288_0 113 = true := by decide +kernel
theorem sf_288_0 (sc : Nat × (Nat → Int)) : sx_sf (mt_P sc) cap_I 2 288 sp_288_0 := sx_sf_of cap_hI ck_288_0 ⟨⟨sx_sf_up (sf_287_0 sc) rfl, trivial⟩, trivial⟩
/-- ChipFlowModel.isSign(I)Z -/
def sp_289_0 : sx_Sp := ((0, [q_A 0], [], [], [], [((-1), 255)], [], [], 1), (0, [], [r_A 1], [], [], [((-1), 255), (0, 1)], [(1, [(0, 1), (1, (-1))])], [((0, [(1, 1)]), 1, [((-33), [(0, 1)]), (125, [(0, (-1))])])], 1), [], (0, 0), ([], [], []))
def al_289_0 : List (Nat × sx_A) := []
theorem ck_289_0 : sx_chk cap_G (fun _ => none) al_289_0 (sx_tb []) 289 sp_289_0 118 = true := by decide +kernel
theorem sf_289_0 (sc : Nat × (Nat → Int)) : sx_sf (mt_P sc) cap_I 1 289 sp_289_0 := sx_sf_of cap_hI ck_289_0 trivial
/-- ChipFlowModel.flawBefore(II)V -/
def sp_294_0 : sx_Sp := ((0, [q_R 13 1 0, q_A 0, q_A 1], [], [(((13, 1, 0), 0), (0, [(2, 1)])), (((13, 1, 0), 27), (0, [(3, 1)]))], [], [(11, 22), (0, 149), (0, 0), (0, 1)], [], [], 2), (0, [], [], [(((13, 1, 0), 0), (0, [(4, 1)])), (((13, 1, 0), 27), (0, [(5, 1)]))], [], [(11, 22), (0, 149), (0, 0), (0, 1), (0, 0), (0, 1)], [], [], 2), [], (0, 0), ([(13, 10), (13, 11)], [], []))
def al_294_0 : List (Nat × sx_A) := []
theorem ck_294_0 : sx_chk cap_G (fun _ => none) al_294_0 (sx_tb []) 294 sp_294_0 34 = true := by decide +kernel
theorem sf_294_0 (sc : Nat × (Nat → Int)) : sx_sf (mt_P sc) cap_I 1 294 sp_294_0 := sx_sf_of cap_hI ck_294_0 trivial
/-- ChipFlowModel.flaw(II)V -/
def sp_293_0 : sx_Sp := ((0, [q_R 13 1 0, q_A 0, q_A 1], [], [(((13, 1, 0), 0), (0, [(2, 1)]))], [], [(1, 15), (0, 149), (0, 0)], [], [], 2), (0, [], [], [(((13, 1, 0), 0), (0, [(3, 1)]))], [], [(1, 15), (0, 149), (0, 0), (0, 0)], [], [], 2), [], (0, 0), ([(13, 10), (13, 11)], [], []))
def al_293_0 : List (Nat × sx_A) := []
theorem ck_293_0 : sx_chk cap_G (fun _ => none) al_293_0 (sx_tb []) 293 sp_293_0 50 = true := by decide +kernel
theorem sf_293_0 (sc : Nat × (Nat → Int)) : sx_sf (mt_P sc) cap_I 1 293 sp_293_0 := sx_sf_of cap_hI ck_293_0 trivial
/-- ChipFlowModel.readNext()V -/
def sp_298_0 : sx_Sp := ((0, [q_R 13 1 0], [], [(((13, 1, 0), 0), (0, [(0, 1)])), (((13, 1, 0), 10), (0, [(1, 1)]))], [], [(0, 0), (0, 0)], [], [], 2), (0, [], [], [(((13, 1, 0), 0), (0, [(2, 1)]))], [], [(0, 0), (0, 0), (0, 0)], [], [], 2), [], (0, 0), ([(13, 10), (13, 11)], [], []))
def al_298_0 : List (Nat × sx_A) := []
theorem ck_298_0 : sx_chk cap_G (fun _ => none) al_298_0 (sx_tb [(293, [sp_293_0])]) 298 sp_298_0 34 = true := by decide +kernel
theorem sf_298_0 (sc : Nat × (Nat → Int)) : sx_sf (mt_P sc) cap_I 2 298 sp_298_0 := sx_sf_of cap_hI ck_298_0 ⟨⟨sx_sf_up (sf_293_0 sc) rfl, trivial⟩, trivial⟩
/-- ChipFlowModel.isWord(I)Z -/
def sp_296_0 : sx_Sp := ((0, [q_R 13 1 0, q_A 0], [], [(((13, 1, 0), 0), (0, [(1, 1)]))], [], [(1, 7), (0, 0)], [], [], 2), (0, [], [r_A 2], [(((13, 1, 0), 0), (0, [(3, 1)])), (((13, 1, 0), 9), (0, [(4, 1)]))], [], [(1, 7), (0, 0), (0, 1), (0, 0), (0, 149)], [], [], 2), [], (0, 0), ([], [], []))
def al_296_0 : List (Nat × sx_A) := []
theorem ck_296_0 : sx_chk cap_G (fun _ => none) al_296_0 (sx_tb []) 296 sp_296_0 41 = true := by decide +kernel
theorem sf_296_0 (sc : Nat × (Nat → Int)) : sx_sf (mt_P sc) cap_I 1 296 sp_296_0 := sx_sf_of cap_hI ck_296_0 trivial
/-- ChipFlowModel.due(I)I -/
def sp_299_0 : sx_Sp := ((0, [q_R 13 1 0, q_A 0], [], [(((13, 1, 0), 0), (0, [(1, 1)]))], [], [(1, 2), (0, 0)], [], [], 2), (0, [], [r_A 2], [(((13, 1, 0), 0), (0, [(3, 1)])), (((13, 1, 0), 9), (0, [(4, 1)]))], [], [(1, 2), (0, 0), (0, 149), (0, 0), (0, 149)], [(0, [(2, (-1)), (4, 1)]), (0, [(2, 1), (4, (-1))])], [], 2), [], (0, 0), ([(13, 10), (13, 11)], [], []))
def al_299_0 : List (Nat × sx_A) := []
theorem ck_299_0 : sx_chk cap_G (fun _ => none) al_299_0 (sx_tb [(293, [sp_293_0])]) 299 sp_299_0 38 = true := by decide +kernel
theorem sf_299_0 (sc : Nat × (Nat → Int)) : sx_sf (mt_P sc) cap_I 2 299 sp_299_0 := sx_sf_of cap_hI ck_299_0 ⟨⟨sx_sf_up (sf_293_0 sc) rfl, trivial⟩, trivial⟩
/-- ChipFlowModel.within(III)Z -/
def sp_278_0 : sx_Sp := ((0, [q_A 0, q_A 1, q_A 2], [], [], [], [((-2147483648), 2147483647), ((-1), 4), (0, 100000)], [], [], 1), (0, [], [r_A 3], [], [], [((-2147483648), 2147483647), ((-1), 4), (0, 100000), (0, 1)], [(2147483648, [(0, 1), (3, (-1))])], [((0, [(3, 1)]), 1, [(1, [(0, 1)]), (100000, [(0, (-1))]), (0, [(0, 1), (1, (-1))]), (0, [(0, (-1)), (2, 1)])])], 1), [], (0, 0), ([], [], []))
def al_278_0 : List (Nat × sx_A) := []
theorem ck_278_0 : sx_chk cap_G (fun _ => none) al_278_0 (sx_tb []) 278 sp_278_0 33 = true := by decide +kernel
theorem sf_278_0 (sc : Nat × (Nat → Int)) : sx_sf (mt_P sc) cap_I 1 278 sp_278_0 := sx_sf_of cap_hI ck_278_0 trivial
/-- ChipFlowModel.top()I -/
def sp_312_0 : sx_Sp := ((0, [q_R 13 1 0], [], [(((13, 1, 0), 0), (0, [(0, 1)])), (((13, 1, 0), 3), (0, [(1, 1)])), (((13, 1, 0), 27), (0, [(2, 1)]))], [], [(0, 0), (0, 1), (0, 1)], [], [], 2), (0, [], [r_A 3], [(((13, 1, 0), 0), (0, [(4, 1)])), (((13, 1, 0), 3), (0, [(5, 1)])), (((13, 1, 0), 27), (0, [(6, 1)])), (((13, 1, 0), 32), (0, [(7, 1)]))], [], [(0, 0), (0, 1), (0, 1), (0, 257), (0, 0), (0, 1), (0, 1), (0, 4)], [(256, [(3, (-1)), (7, 1)])], [], 2), [], (0, 0), ([], [], []))
def al_312_0 : List (Nat × sx_A) := []
theorem ck_312_0 : sx_chk cap_G (fun _ => none) al_312_0 (sx_tb []) 312 sp_312_0 34 = true := by decide +kernel
theorem sf_312_0 (sc : Nat × (Nat → Int)) : sx_sf (mt_P sc) cap_I 1 312 sp_312_0 := sx_sf_of cap_hI ck_312_0 trivial
/-- ChipFlowModel.isValue(I)Z -/
def sp_323_0 : sx_Sp := ((0, [q_A 0], [], [], [], [(0, 5)], [], [], 1), (0, [], [r_A 1], [], [], [(0, 5), (0, 1)], [(0, [(0, 1), (1, (-1))])], [((0, [(1, 1)]), 1, [((-1), [(0, 1)]), (4, [(0, (-1))])])], 1), [], (0, 0), ([], [], []))
def al_323_0 : List (Nat × sx_A) := []
theorem ck_323_0 : sx_chk cap_G (fun _ => none) al_323_0 (sx_tb []) 323 sp_323_0 46 = true := by decide +kernel
theorem sf_323_0 (sc : Nat × (Nat → Int)) : sx_sf (mt_P sc) cap_I 1 323 sp_323_0 := sx_sf_of cap_hI ck_323_0 trivial
/-- ChipFlowModel.rank(I)I -/
def sp_309_0 : sx_Sp := ((0, [q_A 0], [], [], [], [((-60), 3038)], [], [], 1), (0, [], [r_A 1], [], [], [((-60), 3038), (0, 5)], [(60, [(0, 1), (1, (-1))])], [], 1), [], (0, 0), ([], [], []))
def al_309_0 : List (Nat × sx_A) := []
theorem ck_309_0 : sx_chk cap_G (fun _ => none) al_309_0 (sx_tb []) 309 sp_309_0 52 = true := by decide +kernel
theorem sf_309_0 (sc : Nat × (Nat → Int)) : sx_sf (mt_P sc) cap_I 1 309 sp_309_0 := sx_sf_of cap_hI ck_309_0 trivial
