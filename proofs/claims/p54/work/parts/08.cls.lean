/-! classes by number, and the links of fields; written by wip/p55/gen/cls.py -/
def sh_R (t : Nat) : String := match t with
  | 0 => RX0
  | 1 => RX1
  | 2 => RX2
  | 3 => RX3
  | 4 => RX4
  | 5 => RX5
  | 6 => RX6
  | 7 => RX7
  | 8 => RX8
  | 9 => RX9
  | 10 => RX10
  | 11 => RX11
  | 12 => RX12
  | 13 => RX13
  | 14 => "ChipFlowLaw"
  | 15 => "java/lang/Math"
  | 16 => "java/util/Arrays"
  | 17 => "java/lang/Integer"
  | 18 => "java/lang/Long"
  | _ => ""
def sh_T (t : Nat) : u_T := match t with
  | 0 => TX0
  | 1 => TX1
  | 2 => TX2
  | 3 => TX3
  | 4 => TX4
  | 5 => TX5
  | 6 => TX6
  | 7 => TX7
  | 8 => TX8
  | 9 => TX9
  | 10 => TX10
  | 11 => TX11
  | 12 => TX12
  | _ => TX13
def sh_ty (t : Nat) : Nat → FieldType := match t with
  | 0 => tyX0
  | 1 => tyX1
  | 2 => tyX2
  | 3 => tyX3
  | 4 => tyX4
  | 5 => tyX5
  | 6 => tyX6
  | 7 => tyX7
  | 8 => tyX8
  | 9 => tyX9
  | 10 => tyX10
  | 11 => tyX11
  | 12 => tyX12
  | _ => tyX13
def sh_ok (t : Nat) : Prop := CL[t]? = some (sh_R t, sh_T t, (sh_kd t).2.2) ∧ sh_kd t = (0, t, (sh_kd t).2.2) ∧ (∀ w ∈ u_ws (sh_R t) (sh_T t) (sh_kd t).2.2, w ∈ BG) ∧ (∀ k, k < (sh_kd t).2.2 → parseFieldDescriptor (sh_T t k).2.2.1 = some (sh_ty t k)) ∧ ∀ a, a < (sh_kd t).2.2 → ∀ b, b < (sh_kd t).2.2 → a ≠ b → (sh_T t a).2.1 ≠ (sh_T t b).2.1
theorem sh_oks {t : Nat} (h : t < 14) : sh_ok t := by
  rcases t with _ | _ | _ | _ | _ | _ | _ | _ | _ | _ | _ | _ | _ | _ | t
  · exact ⟨rfl, rfl, inX0, tyX0_ok, nmX0⟩
  · exact ⟨rfl, rfl, inX1, tyX1_ok, nmX1⟩
  · exact ⟨rfl, rfl, inX2, tyX2_ok, nmX2⟩
  · exact ⟨rfl, rfl, inX3, tyX3_ok, nmX3⟩
  · exact ⟨rfl, rfl, inX4, tyX4_ok, nmX4⟩
  · exact ⟨rfl, rfl, inX5, tyX5_ok, nmX5⟩
  · exact ⟨rfl, rfl, inX6, tyX6_ok, nmX6⟩
  · exact ⟨rfl, rfl, inX7, tyX7_ok, nmX7⟩
  · exact ⟨rfl, rfl, inX8, tyX8_ok, nmX8⟩
  · exact ⟨rfl, rfl, inX9, tyX9_ok, nmX9⟩
  · exact ⟨rfl, rfl, inX10, tyX10_ok, nmX10⟩
  · exact ⟨rfl, rfl, inX11, tyX11_ok, nmX11⟩
  · exact ⟨rfl, rfl, inX12, tyX12_ok, nmX12⟩
  · exact ⟨rfl, rfl, inX13, tyX13_ok, nmX13⟩
  · omega
theorem sh_lw {L : List (Nat × Nat × Nat × Nat)} {tb : List Cond} {C : String} (h : L.all (fun q => decide (tb[q.2.2.2]? = some (Cond.fieldLink C q.1 (sh_T q.2.1 q.2.2.1).1 (sh_T q.2.1 q.2.2.1).2.1 (sh_T q.2.1 q.2.2.1).2.2.1)) && decide (q.2.1 < 14) && decide (q.2.2.1 < (sh_kd q.2.1).2.2)) = true) (ht : ∀ w ∈ tb, w ∈ lw_tbl) {q : Nat × Nat × Nat × Nat} (hq : q ∈ L) : Cond.fieldLink C q.1 (sh_T q.2.1 q.2.2.1).1 (sh_T q.2.1 q.2.2.1).2.1 (sh_T q.2.1 q.2.2.1).2.2.1 ∈ BG ∧ q.2.1 < 14 ∧ q.2.2.1 < (sh_kd q.2.1).2.2 := by
  have h1 := List.all_eq_true.mp h q hq
  simp only [Bool.and_eq_true, decide_eq_true_eq] at h1
  exact ⟨bg_tb ht _ h1.1.1 rfl, h1.1.2, h1.2⟩
def sh_l0_3 : List (Nat × Nat × Nat × Nat) := [(115, 4, 0, 110), (121, 0, 0, 176), (59, 0, 1, 178), (118, 0, 2, 181), (15, 0, 3, 184), (19, 0, 4, 186), (22, 0, 5, 188), (25, 0, 6, 189), (28, 0, 7, 191), (31, 0, 8, 192), (34, 0, 9, 193), (37, 0, 10, 198), (111, 0, 11, 203), (40, 0, 12, 205), (43, 0, 13, 209), (46, 0, 14, 212), (52, 0, 15, 215), (66, 0, 16, 217), (56, 0, 17, 220), (163, 0, 18, 221)]
set_option maxRecDepth 20000 in
theorem sh_l0_3c : sh_l0_3.all (fun q => decide (tables_1_3[q.2.2.2]? = some (Cond.fieldLink RX0 q.1 (sh_T q.2.1 q.2.2.1).1 (sh_T q.2.1 q.2.2.1).2.1 (sh_T q.2.1 q.2.2.1).2.2.1)) && decide (q.2.1 < 14) && decide (q.2.2.1 < (sh_kd q.2.1).2.2)) = true := by decide +kernel
def sh_l0_4 : List (Nat × Nat × Nat × Nat) := [(85, 2, 1, 24), (75, 2, 2, 27), (102, 2, 3, 30), (88, 2, 8, 46), (95, 2, 10, 57), (105, 2, 11, 63), (78, 2, 12, 67)]
set_option maxRecDepth 20000 in
theorem sh_l0_4c : sh_l0_4.all (fun q => decide (tables_1_4[q.2.2.2]? = some (Cond.fieldLink RX0 q.1 (sh_T q.2.1 q.2.2.1).1 (sh_T q.2.1 q.2.2.1).2.1 (sh_T q.2.1 q.2.2.1).2.2.1)) && decide (q.2.1 < 14) && decide (q.2.2.1 < (sh_kd q.2.1).2.2)) = true := by decide +kernel
def sh_lk0 : List (Nat × Nat × Nat × Nat) := sh_l0_3 ++ sh_l0_4
theorem sh_lk0c : ∀ q ∈ sh_lk0, Cond.fieldLink RX0 q.1 (sh_T q.2.1 q.2.2.1).1 (sh_T q.2.1 q.2.2.1).2.1 (sh_T q.2.1 q.2.2.1).2.2.1 ∈ BG ∧ q.2.1 < 14 ∧ q.2.2.1 < (sh_kd q.2.1).2.2 := by
  intro q hq
  unfold sh_lk0 at hq
  try simp only [List.mem_append] at hq
  rcases hq with hq | hq
  · exact sh_lw sh_l0_3c tb_3 hq
  · exact sh_lw sh_l0_4c tb_4 hq
def sh_l1_1 : List (Nat × Nat × Nat × Nat) := [(62, 7, 0, 94), (183, 7, 1, 96), (51, 7, 3, 99), (55, 7, 4, 101), (180, 7, 5, 103), (119, 7, 6, 105), (122, 7, 8, 108), (128, 7, 9, 110), (125, 7, 10, 112), (43, 1, 0, 166), (47, 1, 1, 167), (16, 1, 2, 168), (174, 1, 3, 169), (20, 1, 4, 170), (23, 1, 5, 171), (168, 1, 6, 172), (26, 1, 7, 173), (80, 1, 8, 174), (171, 1, 9, 175), (29, 1, 10, 176), (32, 1, 11, 177), (36, 1, 12, 178), (235, 1, 13, 179), (40, 1, 14, 180)]
set_option maxRecDepth 20000 in
theorem sh_l1_1c : sh_l1_1.all (fun q => decide (tables_1_1[q.2.2.2]? = some (Cond.fieldLink RX1 q.1 (sh_T q.2.1 q.2.2.1).1 (sh_T q.2.1 q.2.2.1).2.1 (sh_T q.2.1 q.2.2.1).2.2.1)) && decide (q.2.1 < 14) && decide (q.2.2.1 < (sh_kd q.2.1).2.2)) = true := by decide +kernel
def sh_l1_2 : List (Nat × Nat × Nat × Nat) := [(116, 3, 0, 199), (141, 3, 1, 203), (144, 3, 2, 207), (147, 3, 3, 210), (153, 3, 4, 215), (110, 3, 5, 219), (113, 3, 6, 221), (226, 3, 7, 224), (100, 3, 8, 225), (107, 3, 9, 227), (156, 3, 10, 231), (165, 3, 11, 235), (249, 3, 12, 239)]
set_option maxRecDepth 20000 in
theorem sh_l1_2c : sh_l1_2.all (fun q => decide (tables_1_2[q.2.2.2]? = some (Cond.fieldLink RX1 q.1 (sh_T q.2.1 q.2.2.1).1 (sh_T q.2.1 q.2.2.1).2.1 (sh_T q.2.1 q.2.2.1).2.2.1)) && decide (q.2.1 < 14) && decide (q.2.2.1 < (sh_kd q.2.1).2.2)) = true := by decide +kernel
def sh_l1_3 : List (Nat × Nat × Nat × Nat) := [(223, 3, 13, 2), (202, 3, 14, 4), (259, 3, 15, 8)]
set_option maxRecDepth 20000 in
theorem sh_l1_3c : sh_l1_3.all (fun q => decide (tables_1_3[q.2.2.2]? = some (Cond.fieldLink RX1 q.1 (sh_T q.2.1 q.2.2.1).1 (sh_T q.2.1 q.2.2.1).2.1 (sh_T q.2.1 q.2.2.1).2.2.1)) && decide (q.2.1 < 14) && decide (q.2.2.1 < (sh_kd q.2.1).2.2)) = true := by decide +kernel
def sh_lk1 : List (Nat × Nat × Nat × Nat) := sh_l1_1 ++ sh_l1_2 ++ sh_l1_3
theorem sh_lk1c : ∀ q ∈ sh_lk1, Cond.fieldLink RX1 q.1 (sh_T q.2.1 q.2.2.1).1 (sh_T q.2.1 q.2.2.1).2.1 (sh_T q.2.1 q.2.2.1).2.2.1 ∈ BG ∧ q.2.1 < 14 ∧ q.2.2.1 < (sh_kd q.2.1).2.2 := by
  intro q hq
  unfold sh_lk1 at hq
  try simp only [List.mem_append] at hq
  rcases hq with (hq | hq) | hq
  · exact sh_lw sh_l1_1c tb_1 hq
  · exact sh_lw sh_l1_2c tb_2 hq
  · exact sh_lw sh_l1_3c tb_3 hq
def sh_l2_2 : List (Nat × Nat × Nat × Nat) := [(52, 3, 1, 202), (57, 3, 2, 206), (61, 3, 3, 209), (65, 3, 5, 218)]
set_option maxRecDepth 20000 in
theorem sh_l2_2c : sh_l2_2.all (fun q => decide (tables_1_2[q.2.2.2]? = some (Cond.fieldLink RX2 q.1 (sh_T q.2.1 q.2.2.1).1 (sh_T q.2.1 q.2.2.1).2.1 (sh_T q.2.1 q.2.2.1).2.2.1)) && decide (q.2.1 < 14) && decide (q.2.2.1 < (sh_kd q.2.1).2.2)) = true := by decide +kernel
def sh_l2_3 : List (Nat × Nat × Nat × Nat) := [(94, 5, 3, 59), (96, 5, 5, 68)]
set_option maxRecDepth 20000 in
theorem sh_l2_3c : sh_l2_3.all (fun q => decide (tables_1_3[q.2.2.2]? = some (Cond.fieldLink RX2 q.1 (sh_T q.2.1 q.2.2.1).1 (sh_T q.2.1 q.2.2.1).2.1 (sh_T q.2.1 q.2.2.1).2.2.1)) && decide (q.2.1 < 14) && decide (q.2.2.1 < (sh_kd q.2.1).2.2)) = true := by decide +kernel
def sh_l2_4 : List (Nat × Nat × Nat × Nat) := [(56, 2, 1, 22), (60, 2, 2, 26), (64, 2, 3, 29), (68, 2, 4, 34), (69, 2, 5, 36), (13, 2, 6, 38), (20, 2, 7, 41), (76, 2, 8, 45), (24, 2, 9, 51), (27, 2, 10, 56), (30, 2, 11, 62), (33, 2, 12, 66), (36, 2, 13, 70), (85, 2, 14, 73), (88, 2, 15, 75), (39, 2, 16, 78), (42, 2, 17, 81), (48, 2, 18, 84), (91, 2, 19, 89)]
set_option maxRecDepth 20000 in
theorem sh_l2_4c : sh_l2_4.all (fun q => decide (tables_1_4[q.2.2.2]? = some (Cond.fieldLink RX2 q.1 (sh_T q.2.1 q.2.2.1).1 (sh_T q.2.1 q.2.2.1).2.1 (sh_T q.2.1 q.2.2.1).2.2.1)) && decide (q.2.1 < 14) && decide (q.2.2.1 < (sh_kd q.2.1).2.2)) = true := by decide +kernel
def sh_lk2 : List (Nat × Nat × Nat × Nat) := sh_l2_2 ++ sh_l2_3 ++ sh_l2_4
theorem sh_lk2c : ∀ q ∈ sh_lk2, Cond.fieldLink RX2 q.1 (sh_T q.2.1 q.2.2.1).1 (sh_T q.2.1 q.2.2.1).2.1 (sh_T q.2.1 q.2.2.1).2.2.1 ∈ BG ∧ q.2.1 < 14 ∧ q.2.2.1 < (sh_kd q.2.1).2.2 := by
  intro q hq
  unfold sh_lk2 at hq
  try simp only [List.mem_append] at hq
  rcases hq with (hq | hq) | hq
  · exact sh_lw sh_l2_2c tb_2 hq
  · exact sh_lw sh_l2_3c tb_3 hq
  · exact sh_lw sh_l2_4c tb_4 hq
def sh_l3_2 : List (Nat × Nat × Nat × Nat) := [(28, 3, 1, 201), (32, 3, 2, 205), (35, 3, 3, 211), (55, 3, 4, 216), (9, 3, 10, 229), (13, 3, 11, 233), (16, 3, 12, 237)]
set_option maxRecDepth 20000 in
theorem sh_l3_2c : sh_l3_2.all (fun q => decide (tables_1_2[q.2.2.2]? = some (Cond.fieldLink RX3 q.1 (sh_T q.2.1 q.2.2.1).1 (sh_T q.2.1 q.2.2.1).2.1 (sh_T q.2.1 q.2.2.1).2.2.1)) && decide (q.2.1 < 14) && decide (q.2.2.1 < (sh_kd q.2.1).2.2)) = true := by decide +kernel
def sh_l3_3 : List (Nat × Nat × Nat × Nat) := [(19, 3, 13, 0), (22, 3, 14, 3), (25, 3, 15, 6)]
set_option maxRecDepth 20000 in
theorem sh_l3_3c : sh_l3_3.all (fun q => decide (tables_1_3[q.2.2.2]? = some (Cond.fieldLink RX3 q.1 (sh_T q.2.1 q.2.2.1).1 (sh_T q.2.1 q.2.2.1).2.1 (sh_T q.2.1 q.2.2.1).2.2.1)) && decide (q.2.1 < 14) && decide (q.2.2.1 < (sh_kd q.2.1).2.2)) = true := by decide +kernel
def sh_lk3 : List (Nat × Nat × Nat × Nat) := sh_l3_2 ++ sh_l3_3
theorem sh_lk3c : ∀ q ∈ sh_lk3, Cond.fieldLink RX3 q.1 (sh_T q.2.1 q.2.2.1).1 (sh_T q.2.1 q.2.2.1).2.1 (sh_T q.2.1 q.2.2.1).2.2.1 ∈ BG ∧ q.2.1 < 14 ∧ q.2.2.1 < (sh_kd q.2.1).2.2 := by
  intro q hq
  unfold sh_lk3 at hq
  try simp only [List.mem_append] at hq
  rcases hq with hq | hq
  · exact sh_lw sh_l3_2c tb_2 hq
  · exact sh_lw sh_l3_3c tb_3 hq
def sh_l4_3 : List (Nat × Nat × Nat × Nat) := [(71, 4, 0, 111), (45, 4, 1, 113), (11, 4, 2, 115), (106, 4, 3, 117), (155, 4, 4, 119), (170, 4, 5, 121), (124, 4, 6, 123), (131, 4, 7, 125), (103, 4, 8, 127), (38, 4, 9, 128), (42, 4, 10, 129), (58, 4, 11, 130), (17, 4, 12, 131), (20, 4, 13, 132), (23, 4, 14, 133), (28, 4, 15, 134), (31, 4, 16, 135), (34, 4, 17, 136), (74, 0, 0, 175), (77, 0, 2, 182), (146, 0, 6, 190), (173, 0, 9, 196), (87, 0, 12, 207), (84, 0, 13, 211)]
set_option maxRecDepth 20000 in
theorem sh_l4_3c : sh_l4_3.all (fun q => decide (tables_1_3[q.2.2.2]? = some (Cond.fieldLink RX4 q.1 (sh_T q.2.1 q.2.2.1).1 (sh_T q.2.1 q.2.2.1).2.1 (sh_T q.2.1 q.2.2.1).2.2.1)) && decide (q.2.1 < 14) && decide (q.2.2.1 < (sh_kd q.2.1).2.2)) = true := by decide +kernel
def sh_lk4 : List (Nat × Nat × Nat × Nat) := sh_l4_3
theorem sh_lk4c : ∀ q ∈ sh_lk4, Cond.fieldLink RX4 q.1 (sh_T q.2.1 q.2.2.1).1 (sh_T q.2.1 q.2.2.1).2.1 (sh_T q.2.1 q.2.2.1).2.2.1 ∈ BG ∧ q.2.1 < 14 ∧ q.2.2.1 < (sh_kd q.2.1).2.2 := by
  intro q hq
  unfold sh_lk4 at hq
  try simp only [List.mem_append] at hq
  · exact sh_lw sh_l4_3c tb_3 hq
def sh_l5_3 : List (Nat × Nat × Nat × Nat) := [(24, 5, 1, 51), (28, 5, 2, 56), (11, 5, 3, 58), (15, 5, 4, 62), (18, 5, 5, 67), (21, 5, 6, 71)]
set_option maxRecDepth 20000 in
theorem sh_l5_3c : sh_l5_3.all (fun q => decide (tables_1_3[q.2.2.2]? = some (Cond.fieldLink RX5 q.1 (sh_T q.2.1 q.2.2.1).1 (sh_T q.2.1 q.2.2.1).2.1 (sh_T q.2.1 q.2.2.1).2.2.1)) && decide (q.2.1 < 14) && decide (q.2.2.1 < (sh_kd q.2.1).2.2)) = true := by decide +kernel
def sh_lk5 : List (Nat × Nat × Nat × Nat) := sh_l5_3
theorem sh_lk5c : ∀ q ∈ sh_lk5, Cond.fieldLink RX5 q.1 (sh_T q.2.1 q.2.2.1).1 (sh_T q.2.1 q.2.2.1).2.1 (sh_T q.2.1 q.2.2.1).2.2.1 ∈ BG ∧ q.2.1 < 14 ∧ q.2.2.1 < (sh_kd q.2.1).2.2 := by
  intro q hq
  unfold sh_lk5 at hq
  try simp only [List.mem_append] at hq
  · exact sh_lw sh_l5_3c tb_3 hq
def sh_l6_1 : List (Nat × Nat × Nat × Nat) := [(61, 6, 0, 219), (65, 6, 1, 220), (11, 6, 2, 221), (17, 6, 3, 222), (20, 6, 4, 223), (23, 6, 5, 224), (26, 6, 6, 225), (29, 6, 7, 226), (32, 6, 8, 227), (35, 6, 9, 228), (38, 6, 10, 229), (168, 6, 11, 230), (41, 6, 12, 231), (182, 6, 13, 232), (46, 6, 14, 233), (49, 6, 15, 234), (52, 6, 16, 235), (55, 6, 17, 236), (58, 6, 18, 237)]
set_option maxRecDepth 20000 in
theorem sh_l6_1c : sh_l6_1.all (fun q => decide (tables_1_1[q.2.2.2]? = some (Cond.fieldLink RX6 q.1 (sh_T q.2.1 q.2.2.1).1 (sh_T q.2.1 q.2.2.1).2.1 (sh_T q.2.1 q.2.2.1).2.2.1)) && decide (q.2.1 < 14) && decide (q.2.2.1 < (sh_kd q.2.1).2.2)) = true := by decide +kernel
def sh_l6_2 : List (Nat × Nat × Nat × Nat) := [(218, 3, 3, 213), (83, 3, 4, 214), (118, 3, 10, 230), (125, 3, 11, 234)]
set_option maxRecDepth 20000 in
theorem sh_l6_2c : sh_l6_2.all (fun q => decide (tables_1_2[q.2.2.2]? = some (Cond.fieldLink RX6 q.1 (sh_T q.2.1 q.2.2.1).1 (sh_T q.2.1 q.2.2.1).2.1 (sh_T q.2.1 q.2.2.1).2.2.1)) && decide (q.2.1 < 14) && decide (q.2.2.1 < (sh_kd q.2.1).2.2)) = true := by decide +kernel
def sh_l6_3 : List (Nat × Nat × Nat × Nat) := [(146, 5, 1, 52), (92, 5, 2, 55), (149, 5, 3, 60), (156, 5, 4, 64), (179, 5, 5, 69)]
set_option maxRecDepth 20000 in
theorem sh_l6_3c : sh_l6_3.all (fun q => decide (tables_1_3[q.2.2.2]? = some (Cond.fieldLink RX6 q.1 (sh_T q.2.1 q.2.2.1).1 (sh_T q.2.1 q.2.2.1).2.1 (sh_T q.2.1 q.2.2.1).2.2.1)) && decide (q.2.1 < 14) && decide (q.2.2.1 < (sh_kd q.2.1).2.2)) = true := by decide +kernel
def sh_l6_4 : List (Nat × Nat × Nat × Nat) := [(231, 2, 8, 49), (244, 2, 9, 55), (247, 2, 10, 61), (221, 2, 11, 64), (224, 2, 12, 68), (109, 2, 18, 86)]
set_option maxRecDepth 20000 in
theorem sh_l6_4c : sh_l6_4.all (fun q => decide (tables_1_4[q.2.2.2]? = some (Cond.fieldLink RX6 q.1 (sh_T q.2.1 q.2.2.1).1 (sh_T q.2.1 q.2.2.1).2.1 (sh_T q.2.1 q.2.2.1).2.2.1)) && decide (q.2.1 < 14) && decide (q.2.2.1 < (sh_kd q.2.1).2.2)) = true := by decide +kernel
def sh_lk6 : List (Nat × Nat × Nat × Nat) := sh_l6_1 ++ sh_l6_2 ++ sh_l6_3 ++ sh_l6_4
theorem sh_lk6c : ∀ q ∈ sh_lk6, Cond.fieldLink RX6 q.1 (sh_T q.2.1 q.2.2.1).1 (sh_T q.2.1 q.2.2.1).2.1 (sh_T q.2.1 q.2.2.1).2.2.1 ∈ BG ∧ q.2.1 < 14 ∧ q.2.2.1 < (sh_kd q.2.1).2.2 := by
  intro q hq
  unfold sh_lk6 at hq
  try simp only [List.mem_append] at hq
  rcases hq with ((hq | hq) | hq) | hq
  · exact sh_lw sh_l6_1c tb_1 hq
  · exact sh_lw sh_l6_2c tb_2 hq
  · exact sh_lw sh_l6_3c tb_3 hq
  · exact sh_lw sh_l6_4c tb_4 hq
def sh_l7_1 : List (Nat × Nat × Nat × Nat) := [(69, 10, 2, 54), (95, 10, 3, 56), (121, 10, 5, 59), (48, 7, 0, 93), (12, 7, 1, 95), (60, 7, 2, 97), (56, 7, 3, 98), (18, 7, 4, 100), (21, 7, 5, 102), (24, 7, 6, 104), (27, 7, 7, 106), (30, 7, 8, 107), (33, 7, 9, 109), (36, 7, 10, 111), (52, 7, 11, 113), (39, 7, 12, 114), (42, 7, 13, 115), (171, 7, 14, 116), (45, 7, 15, 117), (174, 7, 16, 118), (177, 7, 17, 119)]
set_option maxRecDepth 20000 in
theorem sh_l7_1c : sh_l7_1.all (fun q => decide (tables_1_1[q.2.2.2]? = some (Cond.fieldLink RX7 q.1 (sh_T q.2.1 q.2.2.1).1 (sh_T q.2.1 q.2.2.1).2.1 (sh_T q.2.1 q.2.2.1).2.2.1)) && decide (q.2.1 < 14) && decide (q.2.2.1 < (sh_kd q.2.1).2.2)) = true := by decide +kernel
def sh_l7_3 : List (Nat × Nat × Nat × Nat) := [(167, 5, 0, 50), (150, 5, 1, 54)]
set_option maxRecDepth 20000 in
theorem sh_l7_3c : sh_l7_3.all (fun q => decide (tables_1_3[q.2.2.2]? = some (Cond.fieldLink RX7 q.1 (sh_T q.2.1 q.2.2.1).1 (sh_T q.2.1 q.2.2.1).2.1 (sh_T q.2.1 q.2.2.1).2.2.1)) && decide (q.2.1 < 14) && decide (q.2.2.1 < (sh_kd q.2.1).2.2)) = true := by decide +kernel
def sh_lk7 : List (Nat × Nat × Nat × Nat) := sh_l7_1 ++ sh_l7_3
theorem sh_lk7c : ∀ q ∈ sh_lk7, Cond.fieldLink RX7 q.1 (sh_T q.2.1 q.2.2.1).1 (sh_T q.2.1 q.2.2.1).2.1 (sh_T q.2.1 q.2.2.1).2.2.1 ∈ BG ∧ q.2.1 < 14 ∧ q.2.2.1 < (sh_kd q.2.1).2.2 := by
  intro q hq
  unfold sh_lk7 at hq
  try simp only [List.mem_append] at hq
  rcases hq with hq | hq
  · exact sh_lw sh_l7_1c tb_1 hq
  · exact sh_lw sh_l7_3c tb_3 hq
def sh_l8_2 : List (Nat × Nat × Nat × Nat) := [(37, 8, 0, 43), (45, 8, 1, 44), (51, 8, 2, 45), (11, 8, 3, 46), (17, 8, 4, 47), (20, 8, 5, 48), (131, 8, 6, 49), (23, 8, 7, 50), (134, 8, 8, 51), (26, 8, 9, 52), (29, 8, 10, 53), (108, 8, 11, 54), (34, 8, 12, 55), (76, 8, 13, 56)]
set_option maxRecDepth 20000 in
theorem sh_l8_2c : sh_l8_2.all (fun q => decide (tables_1_2[q.2.2.2]? = some (Cond.fieldLink RX8 q.1 (sh_T q.2.1 q.2.2.1).1 (sh_T q.2.1 q.2.2.1).2.1 (sh_T q.2.1 q.2.2.1).2.2.1)) && decide (q.2.1 < 14) && decide (q.2.2.1 < (sh_kd q.2.1).2.2)) = true := by decide +kernel
def sh_l8_3 : List (Nat × Nat × Nat × Nat) := [(41, 0, 0, 174), (48, 0, 2, 180), (91, 0, 9, 195), (102, 0, 10, 200), (87, 0, 11, 202), (54, 0, 12, 206), (63, 0, 13, 210), (66, 0, 14, 213)]
set_option maxRecDepth 20000 in
theorem sh_l8_3c : sh_l8_3.all (fun q => decide (tables_1_3[q.2.2.2]? = some (Cond.fieldLink RX8 q.1 (sh_T q.2.1 q.2.2.1).1 (sh_T q.2.1 q.2.2.1).2.1 (sh_T q.2.1 q.2.2.1).2.2.1)) && decide (q.2.1 < 14) && decide (q.2.2.1 < (sh_kd q.2.1).2.2)) = true := by decide +kernel
def sh_lk8 : List (Nat × Nat × Nat × Nat) := sh_l8_2 ++ sh_l8_3
theorem sh_lk8c : ∀ q ∈ sh_lk8, Cond.fieldLink RX8 q.1 (sh_T q.2.1 q.2.2.1).1 (sh_T q.2.1 q.2.2.1).2.1 (sh_T q.2.1 q.2.2.1).2.2.1 ∈ BG ∧ q.2.1 < 14 ∧ q.2.2.1 < (sh_kd q.2.1).2.2 := by
  intro q hq
  unfold sh_lk8 at hq
  try simp only [List.mem_append] at hq
  rcases hq with hq | hq
  · exact sh_lw sh_l8_2c tb_2 hq
  · exact sh_lw sh_l8_3c tb_3 hq
def sh_l9_2 : List (Nat × Nat × Nat × Nat) := [(36, 9, 0, 161), (40, 9, 1, 162), (51, 9, 2, 163), (56, 9, 3, 164), (15, 9, 4, 165), (19, 9, 5, 166), (22, 9, 6, 167), (27, 9, 7, 168), (30, 9, 8, 169), (33, 9, 9, 170)]
set_option maxRecDepth 20000 in
theorem sh_l9_2c : sh_l9_2.all (fun q => decide (tables_1_2[q.2.2.2]? = some (Cond.fieldLink RX9 q.1 (sh_T q.2.1 q.2.2.1).1 (sh_T q.2.1 q.2.2.1).2.1 (sh_T q.2.1 q.2.2.1).2.2.1)) && decide (q.2.1 < 14) && decide (q.2.2.1 < (sh_kd q.2.1).2.2)) = true := by decide +kernel
def sh_l9_3 : List (Nat × Nat × Nat × Nat) := [(116, 5, 4, 63)]
set_option maxRecDepth 20000 in
theorem sh_l9_3c : sh_l9_3.all (fun q => decide (tables_1_3[q.2.2.2]? = some (Cond.fieldLink RX9 q.1 (sh_T q.2.1 q.2.2.1).1 (sh_T q.2.1 q.2.2.1).2.1 (sh_T q.2.1 q.2.2.1).2.2.1)) && decide (q.2.1 < 14) && decide (q.2.2.1 < (sh_kd q.2.1).2.2)) = true := by decide +kernel
def sh_l9_4 : List (Nat × Nat × Nat × Nat) := [(99, 2, 3, 31), (89, 2, 6, 39), (112, 2, 7, 43), (72, 2, 8, 47), (119, 2, 9, 53), (106, 2, 10, 59), (163, 2, 15, 76), (169, 2, 16, 79), (180, 2, 17, 82), (44, 2, 19, 88)]
set_option maxRecDepth 20000 in
theorem sh_l9_4c : sh_l9_4.all (fun q => decide (tables_1_4[q.2.2.2]? = some (Cond.fieldLink RX9 q.1 (sh_T q.2.1 q.2.2.1).1 (sh_T q.2.1 q.2.2.1).2.1 (sh_T q.2.1 q.2.2.1).2.2.1)) && decide (q.2.1 < 14) && decide (q.2.2.1 < (sh_kd q.2.1).2.2)) = true := by decide +kernel
def sh_lk9 : List (Nat × Nat × Nat × Nat) := sh_l9_2 ++ sh_l9_3 ++ sh_l9_4
theorem sh_lk9c : ∀ q ∈ sh_lk9, Cond.fieldLink RX9 q.1 (sh_T q.2.1 q.2.2.1).1 (sh_T q.2.1 q.2.2.1).2.1 (sh_T q.2.1 q.2.2.1).2.2.1 ∈ BG ∧ q.2.1 < 14 ∧ q.2.2.1 < (sh_kd q.2.1).2.2 := by
  intro q hq
  unfold sh_lk9 at hq
  try simp only [List.mem_append] at hq
  rcases hq with (hq | hq) | hq
  · exact sh_lw sh_l9_2c tb_2 hq
  · exact sh_lw sh_l9_3c tb_3 hq
  · exact sh_lw sh_l9_4c tb_4 hq
def sh_l10_1 : List (Nat × Nat × Nat × Nat) := [(10, 10, 0, 51), (14, 10, 1, 53), (33, 10, 2, 55), (36, 10, 3, 57), (43, 10, 4, 58), (64, 10, 5, 60), (21, 10, 6, 61), (24, 10, 7, 63), (18, 10, 8, 65)]
set_option maxRecDepth 20000 in
theorem sh_l10_1c : sh_l10_1.all (fun q => decide (tables_1_1[q.2.2.2]? = some (Cond.fieldLink RX10 q.1 (sh_T q.2.1 q.2.2.1).1 (sh_T q.2.1 q.2.2.1).2.1 (sh_T q.2.1 q.2.2.1).2.2.1)) && decide (q.2.1 < 14) && decide (q.2.2.1 < (sh_kd q.2.1).2.2)) = true := by decide +kernel
def sh_lk10 : List (Nat × Nat × Nat × Nat) := sh_l10_1
theorem sh_lk10c : ∀ q ∈ sh_lk10, Cond.fieldLink RX10 q.1 (sh_T q.2.1 q.2.2.1).1 (sh_T q.2.1 q.2.2.1).2.1 (sh_T q.2.1 q.2.2.1).2.2.1 ∈ BG ∧ q.2.1 < 14 ∧ q.2.2.1 < (sh_kd q.2.1).2.2 := by
  intro q hq
  unfold sh_lk10 at hq
  try simp only [List.mem_append] at hq
  · exact sh_lw sh_l10_1c tb_1 hq
def sh_l11_2 : List (Nat × Nat × Nat × Nat) := [(11, 11, 0, 92), (17, 11, 1, 93), (22, 11, 2, 94), (107, 11, 3, 95), (111, 11, 4, 96), (104, 11, 5, 97), (25, 11, 6, 98), (28, 11, 7, 99), (31, 11, 8, 100), (34, 11, 9, 101), (37, 11, 10, 102), (120, 11, 11, 103), (167, 11, 12, 104), (170, 11, 13, 105), (173, 11, 14, 106), (176, 11, 15, 107), (179, 11, 16, 108), (40, 11, 17, 110), (43, 11, 18, 111), (46, 11, 19, 112)]
set_option maxRecDepth 20000 in
theorem sh_l11_2c : sh_l11_2.all (fun q => decide (tables_1_2[q.2.2.2]? = some (Cond.fieldLink RX11 q.1 (sh_T q.2.1 q.2.2.1).1 (sh_T q.2.1 q.2.2.1).2.1 (sh_T q.2.1 q.2.2.1).2.2.1)) && decide (q.2.1 < 14) && decide (q.2.2.1 < (sh_kd q.2.1).2.2)) = true := by decide +kernel
def sh_l11_3 : List (Nat × Nat × Nat × Nat) := [(190, 5, 4, 65), (60, 5, 6, 72), (81, 0, 9, 194), (72, 0, 10, 199), (114, 0, 16, 218)]
set_option maxRecDepth 20000 in
theorem sh_l11_3c : sh_l11_3.all (fun q => decide (tables_1_3[q.2.2.2]? = some (Cond.fieldLink RX11 q.1 (sh_T q.2.1 q.2.2.1).1 (sh_T q.2.1 q.2.2.1).2.1 (sh_T q.2.1 q.2.2.1).2.2.1)) && decide (q.2.1 < 14) && decide (q.2.2.1 < (sh_kd q.2.1).2.2)) = true := by decide +kernel
def sh_l11_4 : List (Nat × Nat × Nat × Nat) := [(77, 2, 1, 23), (147, 2, 3, 32), (56, 2, 7, 42), (150, 2, 8, 48), (65, 2, 9, 52), (88, 2, 10, 58), (144, 2, 13, 71), (68, 2, 18, 85)]
set_option maxRecDepth 20000 in
theorem sh_l11_4c : sh_l11_4.all (fun q => decide (tables_1_4[q.2.2.2]? = some (Cond.fieldLink RX11 q.1 (sh_T q.2.1 q.2.2.1).1 (sh_T q.2.1 q.2.2.1).2.1 (sh_T q.2.1 q.2.2.1).2.2.1)) && decide (q.2.1 < 14) && decide (q.2.2.1 < (sh_kd q.2.1).2.2)) = true := by decide +kernel
def sh_lk11 : List (Nat × Nat × Nat × Nat) := sh_l11_2 ++ sh_l11_3 ++ sh_l11_4
theorem sh_lk11c : ∀ q ∈ sh_lk11, Cond.fieldLink RX11 q.1 (sh_T q.2.1 q.2.2.1).1 (sh_T q.2.1 q.2.2.1).2.1 (sh_T q.2.1 q.2.2.1).2.2.1 ∈ BG ∧ q.2.1 < 14 ∧ q.2.2.1 < (sh_kd q.2.1).2.2 := by
  intro q hq
  unfold sh_lk11 at hq
  try simp only [List.mem_append] at hq
  rcases hq with (hq | hq) | hq
  · exact sh_lw sh_l11_2c tb_2 hq
  · exact sh_lw sh_l11_3c tb_3 hq
  · exact sh_lw sh_l11_4c tb_4 hq
def sh_l12_1 : List (Nat × Nat × Nat × Nat) := [(99, 10, 1, 52), (131, 10, 6, 62), (134, 10, 7, 64)]
set_option maxRecDepth 20000 in
theorem sh_l12_1c : sh_l12_1.all (fun q => decide (tables_1_1[q.2.2.2]? = some (Cond.fieldLink RX12 q.1 (sh_T q.2.1 q.2.2.1).1 (sh_T q.2.1 q.2.2.1).2.1 (sh_T q.2.1 q.2.2.1).2.2.1)) && decide (q.2.1 < 14) && decide (q.2.2.1 < (sh_kd q.2.1).2.2)) = true := by decide +kernel
def sh_l12_2 : List (Nat × Nat × Nat × Nat) := [(447, 11, 16, 109), (148, 3, 0, 200), (162, 3, 1, 204), (165, 3, 2, 208), (168, 3, 3, 212), (171, 3, 4, 217), (186, 3, 5, 220), (225, 3, 6, 222), (177, 3, 7, 223), (180, 3, 8, 226), (183, 3, 9, 228), (192, 3, 10, 232), (195, 3, 11, 236), (198, 3, 12, 238)]
set_option maxRecDepth 20000 in
theorem sh_l12_2c : sh_l12_2.all (fun q => decide (tables_1_2[q.2.2.2]? = some (Cond.fieldLink RX12 q.1 (sh_T q.2.1 q.2.2.1).1 (sh_T q.2.1 q.2.2.1).2.1 (sh_T q.2.1 q.2.2.1).2.2.1)) && decide (q.2.1 < 14) && decide (q.2.2.1 < (sh_kd q.2.1).2.2)) = true := by decide +kernel
def sh_l12_3 : List (Nat × Nat × Nat × Nat) := [(204, 3, 13, 1), (201, 3, 14, 5), (224, 3, 15, 7), (156, 5, 0, 49), (207, 5, 1, 53), (210, 5, 2, 57), (213, 5, 3, 61), (215, 5, 4, 66), (218, 5, 5, 70), (221, 5, 6, 73), (342, 4, 0, 112), (378, 4, 1, 114), (379, 4, 2, 116), (395, 4, 3, 118), (404, 4, 4, 120), (407, 4, 5, 122), (410, 4, 6, 124), (413, 4, 7, 126), (271, 0, 0, 177), (250, 0, 1, 179), (268, 0, 2, 183), (318, 0, 3, 185), (321, 0, 4, 187), (363, 0, 9, 197), (335, 0, 10, 201), (351, 0, 11, 204), (357, 0, 12, 208), (360, 0, 14, 214), (338, 0, 15, 216), (304, 0, 16, 219)]
set_option maxRecDepth 20000 in
theorem sh_l12_3c : sh_l12_3.all (fun q => decide (tables_1_3[q.2.2.2]? = some (Cond.fieldLink RX12 q.1 (sh_T q.2.1 q.2.2.1).1 (sh_T q.2.1 q.2.2.1).2.1 (sh_T q.2.1 q.2.2.1).2.2.1)) && decide (q.2.1 < 14) && decide (q.2.2.1 < (sh_kd q.2.1).2.2)) = true := by decide +kernel
def sh_l12_4 : List (Nat × Nat × Nat × Nat) := [(161, 2, 0, 21), (307, 2, 1, 25), (261, 2, 2, 28), (287, 2, 3, 33), (310, 2, 4, 35), (309, 2, 5, 37), (308, 2, 6, 40), (294, 2, 7, 44), (255, 2, 8, 50), (274, 2, 9, 54), (284, 2, 10, 60), (291, 2, 11, 65), (288, 2, 12, 69), (426, 2, 13, 72), (429, 2, 14, 74), (298, 2, 15, 77), (478, 2, 16, 80), (481, 2, 17, 83), (246, 2, 18, 87), (301, 2, 19, 90), (10, 12, 0, 132), (21, 12, 1, 133), (30, 12, 2, 134), (37, 12, 3, 135), (44, 12, 4, 136), (51, 12, 5, 137), (58, 12, 6, 138), (64, 12, 7, 139), (71, 12, 8, 140), (78, 12, 9, 141), (119, 12, 10, 142), (83, 12, 11, 143), (87, 12, 12, 144), (90, 12, 13, 145), (93, 12, 14, 146), (96, 12, 15, 147), (233, 12, 16, 148)]
set_option maxRecDepth 20000 in
theorem sh_l12_4c : sh_l12_4.all (fun q => decide (tables_1_4[q.2.2.2]? = some (Cond.fieldLink RX12 q.1 (sh_T q.2.1 q.2.2.1).1 (sh_T q.2.1 q.2.2.1).2.1 (sh_T q.2.1 q.2.2.1).2.2.1)) && decide (q.2.1 < 14) && decide (q.2.2.1 < (sh_kd q.2.1).2.2)) = true := by decide +kernel
def sh_lk12 : List (Nat × Nat × Nat × Nat) := sh_l12_1 ++ sh_l12_2 ++ sh_l12_3 ++ sh_l12_4
theorem sh_lk12c : ∀ q ∈ sh_lk12, Cond.fieldLink RX12 q.1 (sh_T q.2.1 q.2.2.1).1 (sh_T q.2.1 q.2.2.1).2.1 (sh_T q.2.1 q.2.2.1).2.2.1 ∈ BG ∧ q.2.1 < 14 ∧ q.2.2.1 < (sh_kd q.2.1).2.2 := by
  intro q hq
  unfold sh_lk12 at hq
  try simp only [List.mem_append] at hq
  rcases hq with ((hq | hq) | hq) | hq
  · exact sh_lw sh_l12_1c tb_1 hq
  · exact sh_lw sh_l12_2c tb_2 hq
  · exact sh_lw sh_l12_3c tb_3 hq
  · exact sh_lw sh_l12_4c tb_4 hq
def sh_l13_12 : List (Nat × Nat × Nat × Nat) := [(1, 13, 0, 66), (14, 13, 1, 67), (555, 13, 2, 68), (570, 13, 3, 69), (19, 13, 4, 70), (22, 13, 5, 71), (26, 13, 6, 72), (29, 13, 7, 73), (33, 13, 8, 74), (598, 13, 9, 75), (592, 13, 10, 76), (595, 13, 11, 77), (618, 13, 12, 78), (36, 13, 13, 79), (39, 13, 14, 80), (42, 13, 15, 81), (45, 13, 16, 82), (48, 13, 17, 83), (51, 13, 18, 84), (54, 13, 19, 85), (57, 13, 20, 86), (61, 13, 21, 87), (64, 13, 22, 88), (67, 13, 23, 89), (70, 13, 24, 90), (624, 13, 25, 91), (635, 13, 26, 92), (645, 13, 27, 93), (714, 13, 28, 94), (723, 13, 29, 95), (73, 13, 30, 96), (76, 13, 31, 97), (648, 13, 32, 98), (661, 13, 33, 99), (651, 13, 34, 100), (79, 13, 35, 101), (82, 13, 36, 102), (736, 13, 37, 103), (739, 13, 38, 104), (85, 13, 40, 105), (88, 13, 41, 106), (91, 13, 42, 107), (94, 13, 43, 108), (97, 13, 44, 109), (101, 13, 45, 110), (104, 13, 46, 111), (107, 13, 47, 112), (110, 13, 48, 113), (113, 13, 49, 114), (116, 13, 50, 115), (119, 13, 51, 116), (800, 13, 52, 117), (797, 13, 53, 118), (122, 13, 54, 119), (125, 13, 55, 120), (128, 13, 56, 121), (131, 13, 57, 122), (134, 13, 58, 123), (137, 13, 59, 124), (140, 13, 60, 125), (143, 13, 61, 126), (146, 13, 62, 127), (149, 13, 63, 128), (152, 13, 64, 129), (155, 13, 65, 130), (158, 13, 66, 131), (161, 13, 67, 132), (164, 13, 68, 133), (167, 13, 69, 134), (170, 13, 70, 135), (173, 13, 71, 136), (176, 13, 72, 137), (180, 13, 73, 138), (183, 13, 74, 139), (186, 13, 75, 140), (189, 13, 76, 141), (192, 13, 77, 142), (195, 13, 78, 143), (885, 13, 79, 144), (733, 13, 80, 145), (198, 13, 81, 146), (201, 13, 82, 147), (891, 13, 83, 148), (204, 13, 84, 149), (207, 13, 85, 150), (210, 13, 86, 151), (213, 13, 87, 152), (216, 13, 88, 153), (219, 13, 89, 154), (222, 13, 90, 155), (225, 13, 91, 156), (228, 13, 92, 157), (231, 13, 93, 158), (234, 13, 94, 159), (921, 13, 95, 160), (237, 13, 96, 161), (240, 13, 97, 162), (243, 13, 98, 163), (246, 13, 99, 164), (249, 13, 100, 165), (252, 13, 101, 166), (255, 13, 102, 167), (258, 13, 103, 168), (261, 13, 104, 169), (936, 13, 105, 170), (978, 13, 106, 171), (1013, 13, 107, 172), (972, 13, 108, 173), (264, 13, 109, 174), (267, 13, 110, 175), (270, 13, 111, 176), (273, 13, 112, 177), (276, 13, 113, 178), (948, 13, 114, 179), (279, 13, 115, 180), (282, 13, 116, 181), (285, 13, 117, 182), (288, 13, 118, 183), (291, 13, 119, 184), (294, 13, 120, 185), (297, 13, 121, 186), (300, 13, 122, 187), (945, 13, 123, 188), (303, 13, 124, 189), (306, 13, 125, 190), (309, 13, 126, 191), (966, 13, 127, 192), (312, 13, 128, 193), (1003, 13, 129, 194), (315, 13, 130, 195), (318, 13, 131, 196), (321, 13, 132, 197), (324, 13, 133, 198), (1009, 13, 134, 199), (327, 13, 135, 200), (330, 13, 136, 201), (1019, 13, 137, 202), (333, 13, 138, 203), (336, 13, 139, 204), (339, 13, 140, 205), (342, 13, 141, 206), (345, 13, 142, 207), (348, 13, 143, 208), (351, 13, 144, 209), (354, 13, 145, 210), (357, 13, 146, 211), (360, 13, 147, 212), (363, 13, 148, 213), (366, 13, 149, 214), (369, 13, 150, 215), (372, 13, 151, 216), (375, 13, 152, 217), (378, 13, 153, 218), (381, 13, 154, 219), (384, 13, 155, 220), (387, 13, 156, 221), (390, 13, 157, 222), (393, 13, 158, 223), (1084, 13, 159, 224), (396, 13, 160, 225), (399, 13, 161, 226), (402, 13, 162, 227), (405, 13, 163, 228), (408, 13, 164, 229), (411, 13, 165, 230), (414, 13, 166, 231), (417, 13, 167, 232), (420, 13, 168, 233), (423, 13, 169, 234), (426, 13, 170, 235), (429, 13, 171, 236), (432, 13, 172, 237), (435, 13, 173, 238), (1120, 13, 174, 239)]
set_option maxRecDepth 20000 in
theorem sh_l13_12c : sh_l13_12.all (fun q => decide (tables_1_12[q.2.2.2]? = some (Cond.fieldLink RX13 q.1 (sh_T q.2.1 q.2.2.1).1 (sh_T q.2.1 q.2.2.1).2.1 (sh_T q.2.1 q.2.2.1).2.2.1)) && decide (q.2.1 < 14) && decide (q.2.2.1 < (sh_kd q.2.1).2.2)) = true := by decide +kernel
def sh_l13_13 : List (Nat × Nat × Nat × Nat) := [(1123, 13, 175, 0), (1132, 13, 176, 1), (1126, 13, 177, 2), (438, 13, 178, 3), (441, 13, 179, 4), (444, 13, 180, 5), (447, 13, 181, 6), (450, 13, 182, 7), (453, 13, 183, 8), (1162, 13, 184, 9), (456, 13, 185, 10), (459, 13, 186, 11), (463, 13, 187, 12), (1184, 13, 188, 13), (1181, 13, 189, 14), (1222, 13, 190, 15), (1225, 13, 191, 16), (466, 13, 192, 17), (469, 13, 193, 18), (472, 13, 194, 19), (475, 13, 195, 20), (478, 13, 196, 21), (481, 13, 197, 22), (484, 13, 198, 23), (487, 13, 199, 24), (490, 13, 200, 25), (493, 13, 201, 26), (497, 13, 202, 27), (500, 13, 203, 28), (503, 13, 204, 29), (506, 13, 205, 30), (1275, 13, 206, 31), (509, 13, 207, 32), (512, 13, 208, 33), (515, 13, 209, 34), (518, 13, 210, 35), (521, 13, 211, 36), (524, 13, 212, 37), (527, 13, 213, 38), (1288, 13, 214, 39), (530, 13, 215, 40), (533, 13, 216, 41), (536, 13, 217, 42), (539, 13, 218, 43), (542, 13, 219, 44), (546, 13, 220, 45), (1304, 13, 221, 46), (1307, 13, 222, 47), (549, 13, 223, 48), (552, 13, 224, 49)]
set_option maxRecDepth 20000 in
theorem sh_l13_13c : sh_l13_13.all (fun q => decide (tables_1_13[q.2.2.2]? = some (Cond.fieldLink RX13 q.1 (sh_T q.2.1 q.2.2.1).1 (sh_T q.2.1 q.2.2.1).2.1 (sh_T q.2.1 q.2.2.1).2.2.1)) && decide (q.2.1 < 14) && decide (q.2.2.1 < (sh_kd q.2.1).2.2)) = true := by decide +kernel
def sh_lk13 : List (Nat × Nat × Nat × Nat) := sh_l13_12 ++ sh_l13_13
theorem sh_lk13c : ∀ q ∈ sh_lk13, Cond.fieldLink RX13 q.1 (sh_T q.2.1 q.2.2.1).1 (sh_T q.2.1 q.2.2.1).2.1 (sh_T q.2.1 q.2.2.1).2.2.1 ∈ BG ∧ q.2.1 < 14 ∧ q.2.2.1 < (sh_kd q.2.1).2.2 := by
  intro q hq
  unfold sh_lk13 at hq
  try simp only [List.mem_append] at hq
  rcases hq with hq | hq
  · exact sh_lw sh_l13_12c tb_12 hq
  · exact sh_lw sh_l13_13c tb_13 hq
def sh_lk (own : Nat) : List (Nat × Nat × Nat × Nat) := match own with
  | 0 => sh_lk0
  | 1 => sh_lk1
  | 2 => sh_lk2
  | 3 => sh_lk3
  | 4 => sh_lk4
  | 5 => sh_lk5
  | 6 => sh_lk6
  | 7 => sh_lk7
  | 8 => sh_lk8
  | 9 => sh_lk9
  | 10 => sh_lk10
  | 11 => sh_lk11
  | 12 => sh_lk12
  | 13 => sh_lk13
  | _ => []
theorem sh_lkc {own : Nat} : ∀ q ∈ sh_lk own, Cond.fieldLink (sh_R own) q.1 (sh_T q.2.1 q.2.2.1).1 (sh_T q.2.1 q.2.2.1).2.1 (sh_T q.2.1 q.2.2.1).2.2.1 ∈ BG ∧ q.2.1 < 14 ∧ q.2.2.1 < (sh_kd q.2.1).2.2 := by
  rcases own with _ | _ | _ | _ | _ | _ | _ | _ | _ | _ | _ | _ | _ | _ | own
  · exact sh_lk0c
  · exact sh_lk1c
  · exact sh_lk2c
  · exact sh_lk3c
  · exact sh_lk4c
  · exact sh_lk5c
  · exact sh_lk6c
  · exact sh_lk7c
  · exact sh_lk8c
  · exact sh_lk9c
  · exact sh_lk10c
  · exact sh_lk11c
  · exact sh_lk12c
  · exact sh_lk13c
  · intro q hq; cases hq
