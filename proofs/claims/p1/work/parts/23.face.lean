abbrev cX12_graph : ByteArray := prog_1_method_10_code
def yX12_graph : MethodName := ⟨RX12, "graph", "(II)I"⟩
theorem dX12_graph_0 : decode cX12_graph 0 = .ok (.aload_n 0, 1) := by decide +kernel
theorem dX12_graph_1 : decode cX12_graph 1 = .ok (.iload_n 1, 1) := by decide +kernel
theorem dX12_graph_2 : decode cX12_graph 2 = .ok (.invokevirtual 144, 3) := by decide +kernel
abbrev cX12_literal : ByteArray := prog_1_method_11_code
def yX12_literal : MethodName := ⟨RX12, "literal", "(III)I"⟩
theorem dX12_literal_0 : decode cX12_literal 0 = .ok (.aload_n 0, 1) := by decide +kernel
theorem dX12_literal_1 : decode cX12_literal 1 = .ok (.iload_n 1, 1) := by decide +kernel
theorem dX12_literal_2 : decode cX12_literal 2 = .ok (.invokevirtual 144, 3) := by decide +kernel
abbrev cX12_swept : ByteArray := prog_1_method_12_code
def yX12_swept : MethodName := ⟨RX12, "swept", "(II)I"⟩
theorem dX12_swept_0 : decode cX12_swept 0 = .ok (.aload_n 0, 1) := by decide +kernel
theorem dX12_swept_1 : decode cX12_swept 1 = .ok (.iload_n 1, 1) := by decide +kernel
theorem dX12_swept_2 : decode cX12_swept 2 = .ok (.invokevirtual 144, 3) := by decide +kernel
abbrev cX12_root : ByteArray := prog_1_method_13_code
def yX12_root : MethodName := ⟨RX12, "root", "(IIZ)I"⟩
theorem dX12_root_0 : decode cX12_root 0 = .ok (.aload_n 0, 1) := by decide +kernel
theorem dX12_root_1 : decode cX12_root 1 = .ok (.iload_n 1, 1) := by decide +kernel
theorem dX12_root_2 : decode cX12_root 2 = .ok (.invokevirtual 144, 3) := by decide +kernel
abbrev cX12_cell : ByteArray := prog_1_method_14_code
def yX12_cell : MethodName := ⟨RX12, "cell", "(III)I"⟩
theorem dX12_cell_0 : decode cX12_cell 0 = .ok (.aload_n 0, 1) := by decide +kernel
theorem dX12_cell_1 : decode cX12_cell 1 = .ok (.iload_n 1, 1) := by decide +kernel
theorem dX12_cell_2 : decode cX12_cell 2 = .ok (.invokevirtual 152, 3) := by decide +kernel
abbrev cX12_play : ByteArray := prog_1_method_15_code
def yX12_play : MethodName := ⟨RX12, "play", "(II)I"⟩
theorem dX12_play_0 : decode cX12_play 0 = .ok (.aload_n 0, 1) := by decide +kernel
theorem dX12_play_1 : decode cX12_play 1 = .ok (.iload_n 1, 1) := by decide +kernel
theorem dX12_play_2 : decode cX12_play 2 = .ok (.invokevirtual 144, 3) := by decide +kernel
abbrev cX12_state : ByteArray := prog_1_method_16_code
def yX12_state : MethodName := ⟨RX12, "state", "(I)I"⟩
theorem dX12_state_0 : decode cX12_state 0 = .ok (.aload_n 0, 1) := by decide +kernel
theorem dX12_state_1 : decode cX12_state 1 = .ok (.iload_n 1, 1) := by decide +kernel
theorem dX12_state_2 : decode cX12_state 2 = .ok (.invokevirtual 144, 3) := by decide +kernel
abbrev cX12_restart : ByteArray := prog_1_method_17_code
def yX12_restart : MethodName := ⟨RX12, "restart", "(I)I"⟩
theorem dX12_restart_0 : decode cX12_restart 0 = .ok (.aload_n 0, 1) := by decide +kernel
theorem dX12_restart_1 : decode cX12_restart 1 = .ok (.iload_n 1, 1) := by decide +kernel
theorem dX12_restart_2 : decode cX12_restart 2 = .ok (.invokevirtual 144, 3) := by decide +kernel
abbrev cX12_equal : ByteArray := prog_1_method_18_code
def yX12_equal : MethodName := ⟨RX12, "equal", "(II)I"⟩
theorem dX12_equal_0 : decode cX12_equal 0 = .ok (.aload_n 0, 1) := by decide +kernel
theorem dX12_equal_1 : decode cX12_equal 1 = .ok (.iload_n 1, 1) := by decide +kernel
theorem dX12_equal_2 : decode cX12_equal 2 = .ok (.invokevirtual 144, 3) := by decide +kernel
abbrev cX12_never : ByteArray := prog_1_method_19_code
def yX12_never : MethodName := ⟨RX12, "never", "(II)I"⟩
theorem dX12_never_0 : decode cX12_never 0 = .ok (.aload_n 0, 1) := by decide +kernel
theorem dX12_never_1 : decode cX12_never 1 = .ok (.iload_n 1, 1) := by decide +kernel
theorem dX12_never_2 : decode cX12_never 2 = .ok (.invokevirtual 144, 3) := by decide +kernel
abbrev cX12_map : ByteArray := prog_1_method_21_code
def yX12_map : MethodName := ⟨RX12, "map", "(II)I"⟩
theorem dX12_map_0 : decode cX12_map 0 = .ok (.aload_n 0, 1) := by decide +kernel
theorem dX12_map_1 : decode cX12_map 1 = .ok (.iload_n 1, 1) := by decide +kernel
theorem dX12_map_2 : decode cX12_map 2 = .ok (.invokevirtual 144, 3) := by decide +kernel
abbrev cX12_chip : ByteArray := prog_1_method_22_code
def yX12_chip : MethodName := ⟨RX12, "chip", "(II)I"⟩
theorem dX12_chip_0 : decode cX12_chip 0 = .ok (.aload_n 0, 1) := by decide +kernel
theorem dX12_chip_1 : decode cX12_chip 1 = .ok (.iload_n 1, 1) := by decide +kernel
theorem dX12_chip_2 : decode cX12_chip 2 = .ok (.invokevirtual 157, 3) := by decide +kernel
abbrev cX12_gate : ByteArray := prog_1_method_23_code
def yX12_gate : MethodName := ⟨RX12, "gate", "(III)I"⟩
theorem dX12_gate_0 : decode cX12_gate 0 = .ok (.aload_n 0, 1) := by decide +kernel
theorem dX12_gate_1 : decode cX12_gate 1 = .ok (.iload_n 1, 1) := by decide +kernel
theorem dX12_gate_2 : decode cX12_gate 2 = .ok (.invokevirtual 157, 3) := by decide +kernel
abbrev cX12_netOf : ByteArray := prog_1_method_24_code
def yX12_netOf : MethodName := ⟨RX12, "netOf", "(IIZ)I"⟩
theorem dX12_netOf_0 : decode cX12_netOf 0 = .ok (.aload_n 0, 1) := by decide +kernel
theorem dX12_netOf_1 : decode cX12_netOf 1 = .ok (.iload_n 1, 1) := by decide +kernel
theorem dX12_netOf_2 : decode cX12_netOf 2 = .ok (.invokevirtual 157, 3) := by decide +kernel
abbrev cX12_alter : ByteArray := prog_1_method_25_code
def yX12_alter : MethodName := ⟨RX12, "alter", "(III)I"⟩
theorem dX12_alter_0 : decode cX12_alter 0 = .ok (.aload_n 0, 1) := by decide +kernel
theorem dX12_alter_1 : decode cX12_alter 1 = .ok (.iload_n 1, 1) := by decide +kernel
theorem dX12_alter_2 : decode cX12_alter 2 = .ok (.invokevirtual 157, 3) := by decide +kernel
abbrev cX12_run : ByteArray := prog_1_method_26_code
def yX12_run : MethodName := ⟨RX12, "run", "(II)I"⟩
theorem dX12_run_0 : decode cX12_run 0 = .ok (.aload_n 0, 1) := by decide +kernel
theorem dX12_run_1 : decode cX12_run 1 = .ok (.iload_n 1, 1) := by decide +kernel
theorem dX12_run_2 : decode cX12_run 2 = .ok (.invokevirtual 157, 3) := by decide +kernel
abbrev cX12_reset : ByteArray := prog_1_method_27_code
def yX12_reset : MethodName := ⟨RX12, "reset", "(I)I"⟩
theorem dX12_reset_0 : decode cX12_reset 0 = .ok (.aload_n 0, 1) := by decide +kernel
theorem dX12_reset_1 : decode cX12_reset 1 = .ok (.iload_n 1, 1) := by decide +kernel
theorem dX12_reset_2 : decode cX12_reset 2 = .ok (.invokevirtual 157, 3) := by decide +kernel
abbrev cX12_proves : ByteArray := prog_1_method_28_code
def yX12_proves : MethodName := ⟨RX12, "proves", "(II)I"⟩
theorem dX12_proves_0 : decode cX12_proves 0 = .ok (.aload_n 0, 1) := by decide +kernel
theorem dX12_proves_1 : decode cX12_proves 1 = .ok (.iload_n 1, 1) := by decide +kernel
theorem dX12_proves_2 : decode cX12_proves 2 = .ok (.invokevirtual 157, 3) := by decide +kernel
abbrev cX12_place : ByteArray := prog_1_method_29_code
def yX12_place : MethodName := ⟨RX12, "place", "(II)I"⟩
theorem dX12_place_0 : decode cX12_place 0 = .ok (.aload_n 0, 1) := by decide +kernel
theorem dX12_place_1 : decode cX12_place 1 = .ok (.iload_n 1, 1) := by decide +kernel
theorem dX12_place_2 : decode cX12_place 2 = .ok (.invokevirtual 157, 3) := by decide +kernel
abbrev cX12_at : ByteArray := prog_1_method_30_code
def yX12_at : MethodName := ⟨RX12, "at", "(III)I"⟩
theorem dX12_at_0 : decode cX12_at 0 = .ok (.aload_n 0, 1) := by decide +kernel
theorem dX12_at_1 : decode cX12_at 1 = .ok (.iload_n 1, 1) := by decide +kernel
theorem dX12_at_2 : decode cX12_at 2 = .ok (.invokevirtual 157, 3) := by decide +kernel
abbrev cX12_move : ByteArray := prog_1_method_31_code
def yX12_move : MethodName := ⟨RX12, "move", "(IIII)Z"⟩
theorem dX12_move_0 : decode cX12_move 0 = .ok (.aload_n 0, 1) := by decide +kernel
theorem dX12_move_1 : decode cX12_move 1 = .ok (.iload_n 1, 1) := by decide +kernel
theorem dX12_move_2 : decode cX12_move 2 = .ok (.invokevirtual 157, 3) := by decide +kernel
abbrev cX12_improve : ByteArray := prog_1_method_32_code
def yX12_improve : MethodName := ⟨RX12, "improve", "(II)I"⟩
theorem dX12_improve_0 : decode cX12_improve 0 = .ok (.aload_n 0, 1) := by decide +kernel
theorem dX12_improve_1 : decode cX12_improve 1 = .ok (.iload_n 1, 1) := by decide +kernel
theorem dX12_improve_2 : decode cX12_improve 2 = .ok (.invokevirtual 157, 3) := by decide +kernel
abbrev cX12_wire : ByteArray := prog_1_method_33_code
def yX12_wire : MethodName := ⟨RX12, "wire", "(II)I"⟩
theorem dX12_wire_0 : decode cX12_wire 0 = .ok (.aload_n 0, 1) := by decide +kernel
theorem dX12_wire_1 : decode cX12_wire 1 = .ok (.iload_n 1, 1) := by decide +kernel
theorem dX12_wire_2 : decode cX12_wire 2 = .ok (.invokevirtual 157, 3) := by decide +kernel
abbrev cX12_route : ByteArray := prog_1_method_34_code
def yX12_route : MethodName := ⟨RX12, "route", "(II)I"⟩
theorem dX12_route_0 : decode cX12_route 0 = .ok (.aload_n 0, 1) := by decide +kernel
theorem dX12_route_1 : decode cX12_route 1 = .ok (.iload_n 1, 1) := by decide +kernel
theorem dX12_route_2 : decode cX12_route 2 = .ok (.invokevirtual 157, 3) := by decide +kernel
abbrev cX12_point : ByteArray := prog_1_method_35_code
def yX12_point : MethodName := ⟨RX12, "point", "(II)I"⟩
theorem dX12_point_0 : decode cX12_point 0 = .ok (.aload_n 0, 1) := by decide +kernel
theorem dX12_point_1 : decode cX12_point 1 = .ok (.iload_n 1, 1) := by decide +kernel
theorem dX12_point_2 : decode cX12_point 2 = .ok (.invokevirtual 157, 3) := by decide +kernel
abbrev cX12_routed : ByteArray := prog_1_method_36_code
def yX12_routed : MethodName := ⟨RX12, "routed", "(III)I"⟩
theorem dX12_routed_0 : decode cX12_routed 0 = .ok (.aload_n 0, 1) := by decide +kernel
theorem dX12_routed_1 : decode cX12_routed 1 = .ok (.iload_n 1, 1) := by decide +kernel
theorem dX12_routed_2 : decode cX12_routed 2 = .ok (.invokevirtual 157, 3) := by decide +kernel
abbrev cX12_draw : ByteArray := prog_1_method_37_code
def yX12_draw : MethodName := ⟨RX12, "draw", "(I)I"⟩
theorem dX12_draw_0 : decode cX12_draw 0 = .ok (.aload_n 0, 1) := by decide +kernel
theorem dX12_draw_1 : decode cX12_draw 1 = .ok (.iload_n 1, 1) := by decide +kernel
theorem dX12_draw_2 : decode cX12_draw 2 = .ok (.invokevirtual 157, 3) := by decide +kernel
abbrev cX12_box : ByteArray := prog_1_method_38_code
def yX12_box : MethodName := ⟨RX12, "box", "(III)I"⟩
theorem dX12_box_0 : decode cX12_box 0 = .ok (.aload_n 0, 1) := by decide +kernel
theorem dX12_box_1 : decode cX12_box 1 = .ok (.iload_n 1, 1) := by decide +kernel
theorem dX12_box_2 : decode cX12_box 2 = .ok (.invokevirtual 157, 3) := by decide +kernel
abbrev cX12_add : ByteArray := prog_1_method_39_code
def yX12_add : MethodName := ⟨RX12, "add", "(IIIIII)I"⟩
theorem dX12_add_0 : decode cX12_add 0 = .ok (.aload_n 0, 1) := by decide +kernel
theorem dX12_add_1 : decode cX12_add 1 = .ok (.iload_n 1, 1) := by decide +kernel
theorem dX12_add_2 : decode cX12_add 2 = .ok (.invokevirtual 157, 3) := by decide +kernel
abbrev cX12_erase : ByteArray := prog_1_method_40_code
def yX12_erase : MethodName := ⟨RX12, "erase", "(II)I"⟩
theorem dX12_erase_0 : decode cX12_erase 0 = .ok (.aload_n 0, 1) := by decide +kernel
theorem dX12_erase_1 : decode cX12_erase 1 = .ok (.iload_n 1, 1) := by decide +kernel
theorem dX12_erase_2 : decode cX12_erase 2 = .ok (.invokevirtual 157, 3) := by decide +kernel
abbrev cX12_check : ByteArray := prog_1_method_41_code
def yX12_check : MethodName := ⟨RX12, "check", "(I)I"⟩
theorem dX12_check_0 : decode cX12_check 0 = .ok (.aload_n 0, 1) := by decide +kernel
theorem dX12_check_1 : decode cX12_check 1 = .ok (.iload_n 1, 1) := by decide +kernel
theorem dX12_check_2 : decode cX12_check 2 = .ok (.invokevirtual 157, 3) := by decide +kernel
abbrev cX12_violation : ByteArray := prog_1_method_42_code
def yX12_violation : MethodName := ⟨RX12, "violation", "(III)I"⟩
theorem dX12_violation_0 : decode cX12_violation 0 = .ok (.aload_n 0, 1) := by decide +kernel
theorem dX12_violation_1 : decode cX12_violation 1 = .ok (.iload_n 1, 1) := by decide +kernel
theorem dX12_violation_2 : decode cX12_violation 2 = .ok (.invokevirtual 157, 3) := by decide +kernel
abbrev cX12_found : ByteArray := prog_1_method_43_code
def yX12_found : MethodName := ⟨RX12, "found", "(II)I"⟩
theorem dX12_found_0 : decode cX12_found 0 = .ok (.aload_n 0, 1) := by decide +kernel
theorem dX12_found_1 : decode cX12_found 1 = .ok (.iload_n 1, 1) := by decide +kernel
theorem dX12_found_2 : decode cX12_found 2 = .ok (.invokevirtual 157, 3) := by decide +kernel
abbrev cX12_arrival : ByteArray := prog_1_method_44_code
def yX12_arrival : MethodName := ⟨RX12, "arrival", "(IIZ)I"⟩
theorem dX12_arrival_0 : decode cX12_arrival 0 = .ok (.aload_n 0, 1) := by decide +kernel
theorem dX12_arrival_1 : decode cX12_arrival 1 = .ok (.iload_n 1, 1) := by decide +kernel
theorem dX12_arrival_2 : decode cX12_arrival 2 = .ok (.invokevirtual 157, 3) := by decide +kernel
abbrev cX12_falsify : ByteArray := prog_1_method_45_code
def yX12_falsify : MethodName := ⟨RX12, "falsify", "(III)Z"⟩
theorem dX12_falsify_0 : decode cX12_falsify 0 = .ok (.aload_n 0, 1) := by decide +kernel
theorem dX12_falsify_1 : decode cX12_falsify 1 = .ok (.iload_n 1, 1) := by decide +kernel
theorem dX12_falsify_2 : decode cX12_falsify 2 = .ok (.invokevirtual 157, 3) := by decide +kernel
abbrev cX12_path : ByteArray := prog_1_method_46_code
def yX12_path : MethodName := ⟨RX12, "path", "(III)I"⟩
theorem dX12_path_0 : decode cX12_path 0 = .ok (.aload_n 0, 1) := by decide +kernel
theorem dX12_path_1 : decode cX12_path 1 = .ok (.iload_n 1, 1) := by decide +kernel
theorem dX12_path_2 : decode cX12_path 2 = .ok (.invokevirtual 157, 3) := by decide +kernel
abbrev cX12_wave : ByteArray := prog_1_method_47_code
def yX12_wave : MethodName := ⟨RX12, "wave", "(IIIII)I"⟩
theorem dX12_wave_0 : decode cX12_wave 0 = .ok (.aload_n 0, 1) := by decide +kernel
theorem dX12_wave_1 : decode cX12_wave 1 = .ok (.iload_n 1, 1) := by decide +kernel
theorem dX12_wave_2 : decode cX12_wave 2 = .ok (.invokevirtual 157, 3) := by decide +kernel
abbrev cX12_changes : ByteArray := prog_1_method_48_code
def yX12_changes : MethodName := ⟨RX12, "changes", "(IIII)I"⟩
theorem dX12_changes_0 : decode cX12_changes 0 = .ok (.aload_n 0, 1) := by decide +kernel
theorem dX12_changes_1 : decode cX12_changes 1 = .ok (.iload_n 1, 1) := by decide +kernel
theorem dX12_changes_2 : decode cX12_changes 2 = .ok (.invokevirtual 157, 3) := by decide +kernel
abbrev cX12_test : ByteArray := prog_1_method_49_code
def yX12_test : MethodName := ⟨RX12, "test", "(II)I"⟩
theorem dX12_test_0 : decode cX12_test 0 = .ok (.aload_n 0, 1) := by decide +kernel
theorem dX12_test_1 : decode cX12_test 1 = .ok (.iload_n 1, 1) := by decide +kernel
theorem dX12_test_2 : decode cX12_test 2 = .ok (.invokevirtual 157, 3) := by decide +kernel
abbrev cX12_shows : ByteArray := prog_1_method_50_code
def yX12_shows : MethodName := ⟨RX12, "shows", "(III)Z"⟩
theorem dX12_shows_0 : decode cX12_shows 0 = .ok (.aload_n 0, 1) := by decide +kernel
theorem dX12_shows_1 : decode cX12_shows 1 = .ok (.iload_n 1, 1) := by decide +kernel
theorem dX12_shows_2 : decode cX12_shows 2 = .ok (.invokevirtual 157, 3) := by decide +kernel
abbrev cX12_tests : ByteArray := prog_1_method_51_code
def yX12_tests : MethodName := ⟨RX12, "tests", "(I)I"⟩
theorem dX12_tests_0 : decode cX12_tests 0 = .ok (.aload_n 0, 1) := by decide +kernel
theorem dX12_tests_1 : decode cX12_tests 1 = .ok (.iload_n 1, 1) := by decide +kernel
theorem dX12_tests_2 : decode cX12_tests 2 = .ok (.invokevirtual 157, 3) := by decide +kernel
abbrev cX12_pattern : ByteArray := prog_1_method_52_code
def yX12_pattern : MethodName := ⟨RX12, "pattern", "(II)I"⟩
theorem dX12_pattern_0 : decode cX12_pattern 0 = .ok (.aload_n 0, 1) := by decide +kernel
theorem dX12_pattern_1 : decode cX12_pattern 1 = .ok (.iload_n 1, 1) := by decide +kernel
theorem dX12_pattern_2 : decode cX12_pattern 2 = .ok (.invokevirtual 157, 3) := by decide +kernel
abbrev cX12_fails : ByteArray := prog_1_method_53_code
def yX12_fails : MethodName := ⟨RX12, "fails", "(IIZ)Z"⟩
theorem dX12_fails_0 : decode cX12_fails 0 = .ok (.aload_n 0, 1) := by decide +kernel
theorem dX12_fails_1 : decode cX12_fails 1 = .ok (.iload_n 1, 1) := by decide +kernel
theorem dX12_fails_2 : decode cX12_fails 2 = .ok (.invokevirtual 157, 3) := by decide +kernel
abbrev cX12_suspect : ByteArray := prog_1_method_54_code
def yX12_suspect : MethodName := ⟨RX12, "suspect", "(II)I"⟩
theorem dX12_suspect_0 : decode cX12_suspect 0 = .ok (.aload_n 0, 1) := by decide +kernel
theorem dX12_suspect_1 : decode cX12_suspect 1 = .ok (.iload_n 1, 1) := by decide +kernel
theorem dX12_suspect_2 : decode cX12_suspect 2 = .ok (.invokevirtual 157, 3) := by decide +kernel
abbrev cX12_faults : ByteArray := prog_1_method_55_code
def yX12_faults : MethodName := ⟨RX12, "faults", "(II)I"⟩
theorem dX12_faults_0 : decode cX12_faults 0 = .ok (.aload_n 0, 1) := by decide +kernel
theorem dX12_faults_1 : decode cX12_faults 1 = .ok (.iload_n 1, 1) := by decide +kernel
theorem dX12_faults_2 : decode cX12_faults 2 = .ok (.invokevirtual 157, 3) := by decide +kernel
theorem wd_62 : (Cond.selects RX12 yX12_designAt yX12_designAt) ∈ BG := bg_tb tb_0 62 (by decide +kernel) (by decide +kernel)
theorem wd_63 : (Cond.selects RX12 yX12_libraryAt yX12_libraryAt) ∈ BG := bg_tb tb_0 63 (by decide +kernel) (by decide +kernel)
theorem wd_64 : (Cond.selects RX12 yX12_chipAt yX12_chipAt) ∈ BG := bg_tb tb_0 64 (by decide +kernel) (by decide +kernel)
theorem wd_1809 : (Cond.methodLink RX12 144 yX12_designAt) ∈ BG := bg_tb tb_7 43 (by decide +kernel) (by decide +kernel)
theorem wd_1811 : (Cond.instanceMethod yX12_designAt) ∈ BG := bg_tb tb_7 45 (by decide +kernel) (by decide +kernel)
theorem wd_1812 : (Cond.code yX12_designAt cX12_designAt 2 (some (.object "ChipFlow$Design"))) ∈ BG := bg_tb tb_7 46 (by decide +kernel) (by decide +kernel)
theorem wd_1831 : (Cond.methodLink RX12 152 yX12_libraryAt) ∈ BG := bg_tb tb_7 65 (by decide +kernel) (by decide +kernel)
theorem wd_1833 : (Cond.instanceMethod yX12_libraryAt) ∈ BG := bg_tb tb_7 67 (by decide +kernel) (by decide +kernel)
theorem wd_1834 : (Cond.code yX12_libraryAt cX12_libraryAt 2 (some (.object "ChipFlow$Library"))) ∈ BG := bg_tb tb_7 68 (by decide +kernel) (by decide +kernel)
theorem wd_1835 : (Cond.methodLink RX12 157 yX12_chipAt) ∈ BG := bg_tb tb_7 69 (by decide +kernel) (by decide +kernel)
theorem wd_1837 : (Cond.instanceMethod yX12_chipAt) ∈ BG := bg_tb tb_7 71 (by decide +kernel) (by decide +kernel)
theorem wd_1838 : (Cond.code yX12_chipAt cX12_chipAt 2 (some (.object "ChipFlow$Chip"))) ∈ BG := bg_tb tb_7 72 (by decide +kernel) (by decide +kernel)
set_option maxHeartbeats 4000000 in
set_option maxRecDepth 100000 in
theorem ct_X12_graph (l : Launch) (hlt : l.stackTraces = false) (dC : Nat → ClassId) (dI : Nat → Nat → Nat) (sz : Nat) (p0 p1 : Int32) (x : Nat) (xg : List Value) (deA : Nat) (deC : ClassId) (deF : Nat → Option Nat) (de0 de1 de2 de3 de4 de5 : Nat) (deg0 deg1 deg2 deg3 deg4 deg5 : List Value) (hdeg0 : fx deg0 16 [(0, .int 0)]) (hdeF0 : deF 0 = some de0) (hdeg1 : fx deg1 16 [(0, .int 0)]) (hdeF1 : deF 1 = some de1) (hdeg2 : fx deg2 16 [(0, .int 0)]) (hdeF2 : deF 2 = some de2) (hdeg3 : fx deg3 16 [(0, .int 0)]) (hdeF3 : deF 3 = some de3) (hdeg4 : fx deg4 16 [(0, .int 0)]) (hdeF4 : deF 4 = some de4) (hdeg5 : fx deg5 16 [(0, .int 0)]) (hdeF5 : deF 5 = some de5) (hxg : fx xg 17 [(7, .ref deA)]) : vx_Met l yX12_graph (Cond.code yX12_graph cX12_graph 4 (some .int) :: BG) ({ frames := 8, cells := 1, slots := 6, locals := 160 }) (va_Pc [.ref x, .int p0, .int p1] (fun U => U.heap.size = sz ∧ va_P (dC, dI) CL [(x, .inr (12, xg)), (deA, .inl (deC, (6, .inr (.inr (.inr (.inr deF)))))), (de0, .inr (3, deg0)), (de1, .inr (3, deg1)), (de2, .inr (3, deg2)), (de3, .inr (3, deg3)), (de4, .inr (3, deg4)), (de5, .inr (3, deg5))] U.heap ∧ va_K (dC, dI) CL [(deC, .object "ChipFlow$Design")] U ∧ va_D (fun _ => True) [(x, .inr (12, xg)), (deA, .inl (deC, (6, .inr (.inr (.inr (.inr deF)))))), (de0, .inr (3, deg0)), (de1, .inr (3, deg1)), (de2, .inr (3, deg2)), (de3, .inr (3, deg3)), (de4, .inr (3, deg4)), (de5, .inr (3, deg5))] ∧ th (va_A [(x, .inr (12, xg)), (deA, .inl (deC, (6, .inr (.inr (.inr (.inr deF)))))), (de0, .inr (3, deg0)), (de1, .inr (3, deg1)), (de2, .inr (3, deg2)), (de3, .inr (3, deg3)), (de4, .inr (3, deg4)), (de5, .inr (3, deg5))] sz) U U.heap)) (fun _ _ _ _ => False) (vx_X (fun _ : Unit => True) (fun E _ _ => E = "java/lang/IndexOutOfBoundsException") (va_A [(x, .inr (12, xg)), (deA, .inl (deC, (6, .inr (.inr (.inr (.inr deF)))))), (de0, .inr (3, deg0)), (de1, .inr (3, deg1)), (de2, .inr (3, deg2)), (de3, .inr (3, deg3)), (de4, .inr (3, deg4)), (de5, .inr (3, deg5))] sz)) 1 6 (va_A [(x, .inr (12, xg)), (deA, .inl (deC, (6, .inr (.inr (.inr (.inr deF)))))), (de0, .inr (3, deg0)), (de1, .inr (3, deg1)), (de2, .inr (3, deg2)), (de3, .inr (3, deg3)), (de4, .inr (3, deg4)), (de5, .inr (3, deg5))] sz) := by
  refine vx_ofW (cc := cX12_graph) (maxL := 4) (ret := (some .int)) (by decide) rfl ?_
  intro p e s m args below meth c s₁ B hml ht0 hv
  obtain ⟨rfl, hsz, hP, hK, hD0, hth⟩ := hv
  have hx := B.exec
  have hb := B.bytes
  have hr := B.returns
  have hts : ∀ w ∈ BG, w.before _ s = true := fun w h => atoms_spec (ws := Cond.code yX12_graph cX12_graph 4 (some .int) :: BG) B.pre w (List.mem_cons_of_mem _ h)
  have hown : s.vm.findClass RX12 = some m.cls := findClass_of_methodNamed B.named
  have hlocks := B.notSynchronized
  subst hsz
  have hD := hD0.self (sz := s.heap.size)
  generalize hAe : va_A [(x, .inr (12, xg)), (deA, .inl (deC, (6, .inr (.inr (.inr (.inr deF)))))), (de0, .inr (3, deg0)), (de1, .inr (3, deg1)), (de2, .inr (3, deg2)), (de3, .inr (3, deg3)), (de4, .inr (3, deg4)), (de5, .inr (3, deg5))] s.heap.size = A at hD hth ⊢
  have hA : ∀ q : Nat, s.heap.size ≤ q → A q := fun q h => by rw [← hAe]; exact Or.inr h
  have hS : va_S A s.heap s.heap [] := va_S.rf
  have hl := lv_entry ([.ref x, .int p0, .int p1]) (n := 4) (Nat.le_of_ble_eq_true rfl)
  rw [lg_entry_eq]
  generalize (lg_sl ([.ref x, .int p0, .int p1]) ++ List.replicate (4 - (lg_sl ([.ref x, .int p0, .int p1])).length) Slot.unset).toArray = ls at hl ⊢
  have hl : lv_has ls 4 [(0, .ref x), (1, .int p0), (2, .int p1)] := hl
  have hFc := va_free (wc := [(x, .inr (12, xg)), (deA, .inl (deC, (6, .inr (.inr (.inr (.inr deF)))))), (de0, .inr (3, deg0)), (de1, .inr (3, deg1)), (de2, .inr (3, deg2)), (de3, .inr (3, deg3)), (de4, .inr (3, deg4)), (de5, .inr (3, deg5))]) hD hS hA [0, 1, 2, 3, 4, 5, 6, 7] rfl
  refine lv_aload_n hx hb dX12_graph_0 rfl (lv_at hl 0 rfl) ?_
  refine lv_iload_n hx hb dX12_graph_1 rfl (lv_at hl 1 rfl) ?_
  refine vq_thr (vx_runV (As := [.int p0]) (rest := []) ⟨hx, hb, hml, hown, hts⟩ (ct_X12_designAt l hlt dC dI s.heap.size p0 x xg deA deC deF de0 de1 de2 de3 de4 de5 deg0 deg1 deg2 deg3 deg4 deg5 hdeg0 hdeF0 hdeg1 hdeF1 hdeg2 hdeF2 hdeg3 hdeF3 hdeg4 hdeF4 hdeg5 hdeF5 hxg) (cwV 1 hts (gi_V wd_1809 wd_1811 wd_62 wd_327 wd_1812) rfl rfl rfl (by decide +kernel) ⟨(Nat.le_of_ble_eq_true rfl), (Nat.le_of_ble_eq_true rfl)⟩) ⟨fun a U g mk q => by obtain ⟨q0, q1, qP, qK, qD, qT⟩ := q; exact ⟨q0, q1, qP, va_K.moved (u := U) (U := U.calling g mk a) (Vm.Alike.refl U.vm) qK, qD, th.moved (u := U) (U := U.calling g mk a) (Vm.Alike.refl U.vm) qT⟩, va_recv hK hP (ci := 12) (q0 := 0) rfl rfl, fun U hU hW => ⟨rfl, by rw [hU], by rw [hU]; exact hP, va_K.moved hW.alike hK, hD.weaken (fun _ _ _ _ => trivial), by rw [hU]; exact (hth.narrow hFc).moved hW.alike⟩⟩ rfl rfl hl.1 rfl (lv_room (Nat.le_of_ble_eq_true rfl)) dX12_graph_2 ⟨(Nat.le_of_ble_eq_true rfl), (Nat.le_of_ble_eq_true rfl)⟩) (fun _ _ _ h => h) hS hFc (fun q _ h => hFc q h) (fun E ce q9 u t H1 locs ht hvm hp hB hz hk hS hce hcv hcl => ?_)
  subst hB
  exact vx_out (fun x h9 => (ht0 x h9).elim) hlocks hce hcv hcl (fun t9 ht9 hvm9 => ⟨(), trivial, rfl, hS.F ht9⟩) hS.2.2 (Nat.le_of_ble_eq_true rfl) (Nat.le_of_ble_eq_true rfl)
set_option maxHeartbeats 4000000 in
set_option maxRecDepth 100000 in
theorem ct_X12_literal (l : Launch) (hlt : l.stackTraces = false) (dC : Nat → ClassId) (dI : Nat → Nat → Nat) (sz : Nat) (p0 p1 p2 : Int32) (x : Nat) (xg : List Value) (deA : Nat) (deC : ClassId) (deF : Nat → Option Nat) (de0 de1 de2 de3 de4 de5 : Nat) (deg0 deg1 deg2 deg3 deg4 deg5 : List Value) (hdeg0 : fx deg0 16 [(0, .int 0)]) (hdeF0 : deF 0 = some de0) (hdeg1 : fx deg1 16 [(0, .int 0)]) (hdeF1 : deF 1 = some de1) (hdeg2 : fx deg2 16 [(0, .int 0)]) (hdeF2 : deF 2 = some de2) (hdeg3 : fx deg3 16 [(0, .int 0)]) (hdeF3 : deF 3 = some de3) (hdeg4 : fx deg4 16 [(0, .int 0)]) (hdeF4 : deF 4 = some de4) (hdeg5 : fx deg5 16 [(0, .int 0)]) (hdeF5 : deF 5 = some de5) (hxg : fx xg 17 [(7, .ref deA)]) : vx_Met l yX12_literal (Cond.code yX12_literal cX12_literal 5 (some .int) :: BG) ({ frames := 8, cells := 1, slots := 6, locals := 160 }) (va_Pc [.ref x, .int p0, .int p1, .int p2] (fun U => U.heap.size = sz ∧ va_P (dC, dI) CL [(x, .inr (12, xg)), (deA, .inl (deC, (6, .inr (.inr (.inr (.inr deF)))))), (de0, .inr (3, deg0)), (de1, .inr (3, deg1)), (de2, .inr (3, deg2)), (de3, .inr (3, deg3)), (de4, .inr (3, deg4)), (de5, .inr (3, deg5))] U.heap ∧ va_K (dC, dI) CL [(deC, .object "ChipFlow$Design")] U ∧ va_D (fun _ => True) [(x, .inr (12, xg)), (deA, .inl (deC, (6, .inr (.inr (.inr (.inr deF)))))), (de0, .inr (3, deg0)), (de1, .inr (3, deg1)), (de2, .inr (3, deg2)), (de3, .inr (3, deg3)), (de4, .inr (3, deg4)), (de5, .inr (3, deg5))] ∧ th (va_A [(x, .inr (12, xg)), (deA, .inl (deC, (6, .inr (.inr (.inr (.inr deF)))))), (de0, .inr (3, deg0)), (de1, .inr (3, deg1)), (de2, .inr (3, deg2)), (de3, .inr (3, deg3)), (de4, .inr (3, deg4)), (de5, .inr (3, deg5))] sz) U U.heap)) (fun _ _ _ _ => False) (vx_X (fun _ : Unit => True) (fun E _ _ => E = "java/lang/IndexOutOfBoundsException") (va_A [(x, .inr (12, xg)), (deA, .inl (deC, (6, .inr (.inr (.inr (.inr deF)))))), (de0, .inr (3, deg0)), (de1, .inr (3, deg1)), (de2, .inr (3, deg2)), (de3, .inr (3, deg3)), (de4, .inr (3, deg4)), (de5, .inr (3, deg5))] sz)) 1 6 (va_A [(x, .inr (12, xg)), (deA, .inl (deC, (6, .inr (.inr (.inr (.inr deF)))))), (de0, .inr (3, deg0)), (de1, .inr (3, deg1)), (de2, .inr (3, deg2)), (de3, .inr (3, deg3)), (de4, .inr (3, deg4)), (de5, .inr (3, deg5))] sz) := by
  refine vx_ofW (cc := cX12_literal) (maxL := 5) (ret := (some .int)) (by decide) rfl ?_
  intro p e s m args below meth c s₁ B hml ht0 hv
  obtain ⟨rfl, hsz, hP, hK, hD0, hth⟩ := hv
  have hx := B.exec
  have hb := B.bytes
  have hr := B.returns
  have hts : ∀ w ∈ BG, w.before _ s = true := fun w h => atoms_spec (ws := Cond.code yX12_literal cX12_literal 5 (some .int) :: BG) B.pre w (List.mem_cons_of_mem _ h)
  have hown : s.vm.findClass RX12 = some m.cls := findClass_of_methodNamed B.named
  have hlocks := B.notSynchronized
  subst hsz
  have hD := hD0.self (sz := s.heap.size)
  generalize hAe : va_A [(x, .inr (12, xg)), (deA, .inl (deC, (6, .inr (.inr (.inr (.inr deF)))))), (de0, .inr (3, deg0)), (de1, .inr (3, deg1)), (de2, .inr (3, deg2)), (de3, .inr (3, deg3)), (de4, .inr (3, deg4)), (de5, .inr (3, deg5))] s.heap.size = A at hD hth ⊢
  have hA : ∀ q : Nat, s.heap.size ≤ q → A q := fun q h => by rw [← hAe]; exact Or.inr h
  have hS : va_S A s.heap s.heap [] := va_S.rf
  have hl := lv_entry ([.ref x, .int p0, .int p1, .int p2]) (n := 5) (Nat.le_of_ble_eq_true rfl)
  rw [lg_entry_eq]
  generalize (lg_sl ([.ref x, .int p0, .int p1, .int p2]) ++ List.replicate (5 - (lg_sl ([.ref x, .int p0, .int p1, .int p2])).length) Slot.unset).toArray = ls at hl ⊢
  have hl : lv_has ls 5 [(0, .ref x), (1, .int p0), (2, .int p1), (3, .int p2)] := hl
  have hFc := va_free (wc := [(x, .inr (12, xg)), (deA, .inl (deC, (6, .inr (.inr (.inr (.inr deF)))))), (de0, .inr (3, deg0)), (de1, .inr (3, deg1)), (de2, .inr (3, deg2)), (de3, .inr (3, deg3)), (de4, .inr (3, deg4)), (de5, .inr (3, deg5))]) hD hS hA [0, 1, 2, 3, 4, 5, 6, 7] rfl
  refine lv_aload_n hx hb dX12_literal_0 rfl (lv_at hl 0 rfl) ?_
  refine lv_iload_n hx hb dX12_literal_1 rfl (lv_at hl 1 rfl) ?_
  refine vq_thr (vx_runV (As := [.int p0]) (rest := []) ⟨hx, hb, hml, hown, hts⟩ (ct_X12_designAt l hlt dC dI s.heap.size p0 x xg deA deC deF de0 de1 de2 de3 de4 de5 deg0 deg1 deg2 deg3 deg4 deg5 hdeg0 hdeF0 hdeg1 hdeF1 hdeg2 hdeF2 hdeg3 hdeF3 hdeg4 hdeF4 hdeg5 hdeF5 hxg) (cwV 1 hts (gi_V wd_1809 wd_1811 wd_62 wd_327 wd_1812) rfl rfl rfl (by decide +kernel) ⟨(Nat.le_of_ble_eq_true rfl), (Nat.le_of_ble_eq_true rfl)⟩) ⟨fun a U g mk q => by obtain ⟨q0, q1, qP, qK, qD, qT⟩ := q; exact ⟨q0, q1, qP, va_K.moved (u := U) (U := U.calling g mk a) (Vm.Alike.refl U.vm) qK, qD, th.moved (u := U) (U := U.calling g mk a) (Vm.Alike.refl U.vm) qT⟩, va_recv hK hP (ci := 12) (q0 := 0) rfl rfl, fun U hU hW => ⟨rfl, by rw [hU], by rw [hU]; exact hP, va_K.moved hW.alike hK, hD.weaken (fun _ _ _ _ => trivial), by rw [hU]; exact (hth.narrow hFc).moved hW.alike⟩⟩ rfl rfl hl.1 rfl (lv_room (Nat.le_of_ble_eq_true rfl)) dX12_literal_2 ⟨(Nat.le_of_ble_eq_true rfl), (Nat.le_of_ble_eq_true rfl)⟩) (fun _ _ _ h => h) hS hFc (fun q _ h => hFc q h) (fun E ce q9 u t H1 locs ht hvm hp hB hz hk hS hce hcv hcl => ?_)
  subst hB
  exact vx_out (fun x h9 => (ht0 x h9).elim) hlocks hce hcv hcl (fun t9 ht9 hvm9 => ⟨(), trivial, rfl, hS.F ht9⟩) hS.2.2 (Nat.le_of_ble_eq_true rfl) (Nat.le_of_ble_eq_true rfl)
set_option maxHeartbeats 4000000 in
set_option maxRecDepth 100000 in
theorem ct_X12_swept (l : Launch) (hlt : l.stackTraces = false) (dC : Nat → ClassId) (dI : Nat → Nat → Nat) (sz : Nat) (p0 p1 : Int32) (x : Nat) (xg : List Value) (deA : Nat) (deC : ClassId) (deF : Nat → Option Nat) (de0 de1 de2 de3 de4 de5 : Nat) (deg0 deg1 deg2 deg3 deg4 deg5 : List Value) (hdeg0 : fx deg0 16 [(0, .int 0)]) (hdeF0 : deF 0 = some de0) (hdeg1 : fx deg1 16 [(0, .int 0)]) (hdeF1 : deF 1 = some de1) (hdeg2 : fx deg2 16 [(0, .int 0)]) (hdeF2 : deF 2 = some de2) (hdeg3 : fx deg3 16 [(0, .int 0)]) (hdeF3 : deF 3 = some de3) (hdeg4 : fx deg4 16 [(0, .int 0)]) (hdeF4 : deF 4 = some de4) (hdeg5 : fx deg5 16 [(0, .int 0)]) (hdeF5 : deF 5 = some de5) (hxg : fx xg 17 [(7, .ref deA)]) : vx_Met l yX12_swept (Cond.code yX12_swept cX12_swept 4 (some .int) :: BG) ({ frames := 8, cells := 1, slots := 6, locals := 160 }) (va_Pc [.ref x, .int p0, .int p1] (fun U => U.heap.size = sz ∧ va_P (dC, dI) CL [(x, .inr (12, xg)), (deA, .inl (deC, (6, .inr (.inr (.inr (.inr deF)))))), (de0, .inr (3, deg0)), (de1, .inr (3, deg1)), (de2, .inr (3, deg2)), (de3, .inr (3, deg3)), (de4, .inr (3, deg4)), (de5, .inr (3, deg5))] U.heap ∧ va_K (dC, dI) CL [(deC, .object "ChipFlow$Design")] U ∧ va_D (fun _ => True) [(x, .inr (12, xg)), (deA, .inl (deC, (6, .inr (.inr (.inr (.inr deF)))))), (de0, .inr (3, deg0)), (de1, .inr (3, deg1)), (de2, .inr (3, deg2)), (de3, .inr (3, deg3)), (de4, .inr (3, deg4)), (de5, .inr (3, deg5))] ∧ th (va_A [(x, .inr (12, xg)), (deA, .inl (deC, (6, .inr (.inr (.inr (.inr deF)))))), (de0, .inr (3, deg0)), (de1, .inr (3, deg1)), (de2, .inr (3, deg2)), (de3, .inr (3, deg3)), (de4, .inr (3, deg4)), (de5, .inr (3, deg5))] sz) U U.heap)) (fun _ _ _ _ => False) (vx_X (fun _ : Unit => True) (fun E _ _ => E = "java/lang/IndexOutOfBoundsException") (va_A [(x, .inr (12, xg)), (deA, .inl (deC, (6, .inr (.inr (.inr (.inr deF)))))), (de0, .inr (3, deg0)), (de1, .inr (3, deg1)), (de2, .inr (3, deg2)), (de3, .inr (3, deg3)), (de4, .inr (3, deg4)), (de5, .inr (3, deg5))] sz)) 1 6 (va_A [(x, .inr (12, xg)), (deA, .inl (deC, (6, .inr (.inr (.inr (.inr deF)))))), (de0, .inr (3, deg0)), (de1, .inr (3, deg1)), (de2, .inr (3, deg2)), (de3, .inr (3, deg3)), (de4, .inr (3, deg4)), (de5, .inr (3, deg5))] sz) := by
  refine vx_ofW (cc := cX12_swept) (maxL := 4) (ret := (some .int)) (by decide) rfl ?_
  intro p e s m args below meth c s₁ B hml ht0 hv
  obtain ⟨rfl, hsz, hP, hK, hD0, hth⟩ := hv
  have hx := B.exec
  have hb := B.bytes
  have hr := B.returns
  have hts : ∀ w ∈ BG, w.before _ s = true := fun w h => atoms_spec (ws := Cond.code yX12_swept cX12_swept 4 (some .int) :: BG) B.pre w (List.mem_cons_of_mem _ h)
  have hown : s.vm.findClass RX12 = some m.cls := findClass_of_methodNamed B.named
  have hlocks := B.notSynchronized
  subst hsz
  have hD := hD0.self (sz := s.heap.size)
  generalize hAe : va_A [(x, .inr (12, xg)), (deA, .inl (deC, (6, .inr (.inr (.inr (.inr deF)))))), (de0, .inr (3, deg0)), (de1, .inr (3, deg1)), (de2, .inr (3, deg2)), (de3, .inr (3, deg3)), (de4, .inr (3, deg4)), (de5, .inr (3, deg5))] s.heap.size = A at hD hth ⊢
  have hA : ∀ q : Nat, s.heap.size ≤ q → A q := fun q h => by rw [← hAe]; exact Or.inr h
  have hS : va_S A s.heap s.heap [] := va_S.rf
  have hl := lv_entry ([.ref x, .int p0, .int p1]) (n := 4) (Nat.le_of_ble_eq_true rfl)
  rw [lg_entry_eq]
  generalize (lg_sl ([.ref x, .int p0, .int p1]) ++ List.replicate (4 - (lg_sl ([.ref x, .int p0, .int p1])).length) Slot.unset).toArray = ls at hl ⊢
  have hl : lv_has ls 4 [(0, .ref x), (1, .int p0), (2, .int p1)] := hl
  have hFc := va_free (wc := [(x, .inr (12, xg)), (deA, .inl (deC, (6, .inr (.inr (.inr (.inr deF)))))), (de0, .inr (3, deg0)), (de1, .inr (3, deg1)), (de2, .inr (3, deg2)), (de3, .inr (3, deg3)), (de4, .inr (3, deg4)), (de5, .inr (3, deg5))]) hD hS hA [0, 1, 2, 3, 4, 5, 6, 7] rfl
  refine lv_aload_n hx hb dX12_swept_0 rfl (lv_at hl 0 rfl) ?_
  refine lv_iload_n hx hb dX12_swept_1 rfl (lv_at hl 1 rfl) ?_
  refine vq_thr (vx_runV (As := [.int p0]) (rest := []) ⟨hx, hb, hml, hown, hts⟩ (ct_X12_designAt l hlt dC dI s.heap.size p0 x xg deA deC deF de0 de1 de2 de3 de4 de5 deg0 deg1 deg2 deg3 deg4 deg5 hdeg0 hdeF0 hdeg1 hdeF1 hdeg2 hdeF2 hdeg3 hdeF3 hdeg4 hdeF4 hdeg5 hdeF5 hxg) (cwV 1 hts (gi_V wd_1809 wd_1811 wd_62 wd_327 wd_1812) rfl rfl rfl (by decide +kernel) ⟨(Nat.le_of_ble_eq_true rfl), (Nat.le_of_ble_eq_true rfl)⟩) ⟨fun a U g mk q => by obtain ⟨q0, q1, qP, qK, qD, qT⟩ := q; exact ⟨q0, q1, qP, va_K.moved (u := U) (U := U.calling g mk a) (Vm.Alike.refl U.vm) qK, qD, th.moved (u := U) (U := U.calling g mk a) (Vm.Alike.refl U.vm) qT⟩, va_recv hK hP (ci := 12) (q0 := 0) rfl rfl, fun U hU hW => ⟨rfl, by rw [hU], by rw [hU]; exact hP, va_K.moved hW.alike hK, hD.weaken (fun _ _ _ _ => trivial), by rw [hU]; exact (hth.narrow hFc).moved hW.alike⟩⟩ rfl rfl hl.1 rfl (lv_room (Nat.le_of_ble_eq_true rfl)) dX12_swept_2 ⟨(Nat.le_of_ble_eq_true rfl), (Nat.le_of_ble_eq_true rfl)⟩) (fun _ _ _ h => h) hS hFc (fun q _ h => hFc q h) (fun E ce q9 u t H1 locs ht hvm hp hB hz hk hS hce hcv hcl => ?_)
  subst hB
  exact vx_out (fun x h9 => (ht0 x h9).elim) hlocks hce hcv hcl (fun t9 ht9 hvm9 => ⟨(), trivial, rfl, hS.F ht9⟩) hS.2.2 (Nat.le_of_ble_eq_true rfl) (Nat.le_of_ble_eq_true rfl)
set_option maxHeartbeats 4000000 in
set_option maxRecDepth 100000 in
theorem ct_X12_root (l : Launch) (hlt : l.stackTraces = false) (dC : Nat → ClassId) (dI : Nat → Nat → Nat) (sz : Nat) (p0 p1 p2 : Int32) (x : Nat) (xg : List Value) (deA : Nat) (deC : ClassId) (deF : Nat → Option Nat) (de0 de1 de2 de3 de4 de5 : Nat) (deg0 deg1 deg2 deg3 deg4 deg5 : List Value) (hdeg0 : fx deg0 16 [(0, .int 0)]) (hdeF0 : deF 0 = some de0) (hdeg1 : fx deg1 16 [(0, .int 0)]) (hdeF1 : deF 1 = some de1) (hdeg2 : fx deg2 16 [(0, .int 0)]) (hdeF2 : deF 2 = some de2) (hdeg3 : fx deg3 16 [(0, .int 0)]) (hdeF3 : deF 3 = some de3) (hdeg4 : fx deg4 16 [(0, .int 0)]) (hdeF4 : deF 4 = some de4) (hdeg5 : fx deg5 16 [(0, .int 0)]) (hdeF5 : deF 5 = some de5) (hxg : fx xg 17 [(7, .ref deA)]) : vx_Met l yX12_root (Cond.code yX12_root cX12_root 5 (some .int) :: BG) ({ frames := 8, cells := 1, slots := 6, locals := 160 }) (va_Pc [.ref x, .int p0, .int p1, .int p2] (fun U => U.heap.size = sz ∧ va_P (dC, dI) CL [(x, .inr (12, xg)), (deA, .inl (deC, (6, .inr (.inr (.inr (.inr deF)))))), (de0, .inr (3, deg0)), (de1, .inr (3, deg1)), (de2, .inr (3, deg2)), (de3, .inr (3, deg3)), (de4, .inr (3, deg4)), (de5, .inr (3, deg5))] U.heap ∧ va_K (dC, dI) CL [(deC, .object "ChipFlow$Design")] U ∧ va_D (fun _ => True) [(x, .inr (12, xg)), (deA, .inl (deC, (6, .inr (.inr (.inr (.inr deF)))))), (de0, .inr (3, deg0)), (de1, .inr (3, deg1)), (de2, .inr (3, deg2)), (de3, .inr (3, deg3)), (de4, .inr (3, deg4)), (de5, .inr (3, deg5))] ∧ th (va_A [(x, .inr (12, xg)), (deA, .inl (deC, (6, .inr (.inr (.inr (.inr deF)))))), (de0, .inr (3, deg0)), (de1, .inr (3, deg1)), (de2, .inr (3, deg2)), (de3, .inr (3, deg3)), (de4, .inr (3, deg4)), (de5, .inr (3, deg5))] sz) U U.heap)) (fun _ _ _ _ => False) (vx_X (fun _ : Unit => True) (fun E _ _ => E = "java/lang/IndexOutOfBoundsException") (va_A [(x, .inr (12, xg)), (deA, .inl (deC, (6, .inr (.inr (.inr (.inr deF)))))), (de0, .inr (3, deg0)), (de1, .inr (3, deg1)), (de2, .inr (3, deg2)), (de3, .inr (3, deg3)), (de4, .inr (3, deg4)), (de5, .inr (3, deg5))] sz)) 1 6 (va_A [(x, .inr (12, xg)), (deA, .inl (deC, (6, .inr (.inr (.inr (.inr deF)))))), (de0, .inr (3, deg0)), (de1, .inr (3, deg1)), (de2, .inr (3, deg2)), (de3, .inr (3, deg3)), (de4, .inr (3, deg4)), (de5, .inr (3, deg5))] sz) := by
  refine vx_ofW (cc := cX12_root) (maxL := 5) (ret := (some .int)) (by decide) rfl ?_
  intro p e s m args below meth c s₁ B hml ht0 hv
  obtain ⟨rfl, hsz, hP, hK, hD0, hth⟩ := hv
  have hx := B.exec
  have hb := B.bytes
  have hr := B.returns
  have hts : ∀ w ∈ BG, w.before _ s = true := fun w h => atoms_spec (ws := Cond.code yX12_root cX12_root 5 (some .int) :: BG) B.pre w (List.mem_cons_of_mem _ h)
  have hown : s.vm.findClass RX12 = some m.cls := findClass_of_methodNamed B.named
  have hlocks := B.notSynchronized
  subst hsz
  have hD := hD0.self (sz := s.heap.size)
  generalize hAe : va_A [(x, .inr (12, xg)), (deA, .inl (deC, (6, .inr (.inr (.inr (.inr deF)))))), (de0, .inr (3, deg0)), (de1, .inr (3, deg1)), (de2, .inr (3, deg2)), (de3, .inr (3, deg3)), (de4, .inr (3, deg4)), (de5, .inr (3, deg5))] s.heap.size = A at hD hth ⊢
  have hA : ∀ q : Nat, s.heap.size ≤ q → A q := fun q h => by rw [← hAe]; exact Or.inr h
  have hS : va_S A s.heap s.heap [] := va_S.rf
  have hl := lv_entry ([.ref x, .int p0, .int p1, .int p2]) (n := 5) (Nat.le_of_ble_eq_true rfl)
  rw [lg_entry_eq]
  generalize (lg_sl ([.ref x, .int p0, .int p1, .int p2]) ++ List.replicate (5 - (lg_sl ([.ref x, .int p0, .int p1, .int p2])).length) Slot.unset).toArray = ls at hl ⊢
  have hl : lv_has ls 5 [(0, .ref x), (1, .int p0), (2, .int p1), (3, .int p2)] := hl
  have hFc := va_free (wc := [(x, .inr (12, xg)), (deA, .inl (deC, (6, .inr (.inr (.inr (.inr deF)))))), (de0, .inr (3, deg0)), (de1, .inr (3, deg1)), (de2, .inr (3, deg2)), (de3, .inr (3, deg3)), (de4, .inr (3, deg4)), (de5, .inr (3, deg5))]) hD hS hA [0, 1, 2, 3, 4, 5, 6, 7] rfl
  refine lv_aload_n hx hb dX12_root_0 rfl (lv_at hl 0 rfl) ?_
  refine lv_iload_n hx hb dX12_root_1 rfl (lv_at hl 1 rfl) ?_
  refine vq_thr (vx_runV (As := [.int p0]) (rest := []) ⟨hx, hb, hml, hown, hts⟩ (ct_X12_designAt l hlt dC dI s.heap.size p0 x xg deA deC deF de0 de1 de2 de3 de4 de5 deg0 deg1 deg2 deg3 deg4 deg5 hdeg0 hdeF0 hdeg1 hdeF1 hdeg2 hdeF2 hdeg3 hdeF3 hdeg4 hdeF4 hdeg5 hdeF5 hxg) (cwV 1 hts (gi_V wd_1809 wd_1811 wd_62 wd_327 wd_1812) rfl rfl rfl (by decide +kernel) ⟨(Nat.le_of_ble_eq_true rfl), (Nat.le_of_ble_eq_true rfl)⟩) ⟨fun a U g mk q => by obtain ⟨q0, q1, qP, qK, qD, qT⟩ := q; exact ⟨q0, q1, qP, va_K.moved (u := U) (U := U.calling g mk a) (Vm.Alike.refl U.vm) qK, qD, th.moved (u := U) (U := U.calling g mk a) (Vm.Alike.refl U.vm) qT⟩, va_recv hK hP (ci := 12) (q0 := 0) rfl rfl, fun U hU hW => ⟨rfl, by rw [hU], by rw [hU]; exact hP, va_K.moved hW.alike hK, hD.weaken (fun _ _ _ _ => trivial), by rw [hU]; exact (hth.narrow hFc).moved hW.alike⟩⟩ rfl rfl hl.1 rfl (lv_room (Nat.le_of_ble_eq_true rfl)) dX12_root_2 ⟨(Nat.le_of_ble_eq_true rfl), (Nat.le_of_ble_eq_true rfl)⟩) (fun _ _ _ h => h) hS hFc (fun q _ h => hFc q h) (fun E ce q9 u t H1 locs ht hvm hp hB hz hk hS hce hcv hcl => ?_)
  subst hB
  exact vx_out (fun x h9 => (ht0 x h9).elim) hlocks hce hcv hcl (fun t9 ht9 hvm9 => ⟨(), trivial, rfl, hS.F ht9⟩) hS.2.2 (Nat.le_of_ble_eq_true rfl) (Nat.le_of_ble_eq_true rfl)
set_option maxHeartbeats 4000000 in
set_option maxRecDepth 100000 in
theorem ct_X12_cell (l : Launch) (hlt : l.stackTraces = false) (dC : Nat → ClassId) (dI : Nat → Nat → Nat) (sz : Nat) (p0 p1 p2 : Int32) (x : Nat) (xg : List Value) (liA : Nat) (liC : ClassId) (liF : Nat → Option Nat) (li0 li1 li2 : Nat) (lig0 lig1 lig2 : List Value) (hlig0 : fx lig0 7 [(0, .int 0)]) (hliF0 : liF 0 = some li0) (hlig1 : fx lig1 7 [(0, .int 0)]) (hliF1 : liF 1 = some li1) (hlig2 : fx lig2 7 [(0, .int 0)]) (hliF2 : liF 2 = some li2) (hxg : fx xg 17 [(8, .ref liA)]) : vx_Met l yX12_cell (Cond.code yX12_cell cX12_cell 5 (some .int) :: BG) ({ frames := 8, cells := 1, slots := 6, locals := 160 }) (va_Pc [.ref x, .int p0, .int p1, .int p2] (fun U => U.heap.size = sz ∧ va_P (dC, dI) CL [(x, .inr (12, xg)), (liA, .inl (liC, (3, .inr (.inr (.inr (.inr liF)))))), (li0, .inr (5, lig0)), (li1, .inr (5, lig1)), (li2, .inr (5, lig2))] U.heap ∧ va_K (dC, dI) CL [(liC, .object "ChipFlow$Library")] U ∧ va_D (fun _ => True) [(x, .inr (12, xg)), (liA, .inl (liC, (3, .inr (.inr (.inr (.inr liF)))))), (li0, .inr (5, lig0)), (li1, .inr (5, lig1)), (li2, .inr (5, lig2))] ∧ th (va_A [(x, .inr (12, xg)), (liA, .inl (liC, (3, .inr (.inr (.inr (.inr liF)))))), (li0, .inr (5, lig0)), (li1, .inr (5, lig1)), (li2, .inr (5, lig2))] sz) U U.heap)) (fun _ _ _ _ => False) (vx_X (fun _ : Unit => True) (fun E _ _ => E = "java/lang/IndexOutOfBoundsException") (va_A [(x, .inr (12, xg)), (liA, .inl (liC, (3, .inr (.inr (.inr (.inr liF)))))), (li0, .inr (5, lig0)), (li1, .inr (5, lig1)), (li2, .inr (5, lig2))] sz)) 1 6 (va_A [(x, .inr (12, xg)), (liA, .inl (liC, (3, .inr (.inr (.inr (.inr liF)))))), (li0, .inr (5, lig0)), (li1, .inr (5, lig1)), (li2, .inr (5, lig2))] sz) := by
  refine vx_ofW (cc := cX12_cell) (maxL := 5) (ret := (some .int)) (by decide) rfl ?_
  intro p e s m args below meth c s₁ B hml ht0 hv
  obtain ⟨rfl, hsz, hP, hK, hD0, hth⟩ := hv
  have hx := B.exec
  have hb := B.bytes
  have hr := B.returns
  have hts : ∀ w ∈ BG, w.before _ s = true := fun w h => atoms_spec (ws := Cond.code yX12_cell cX12_cell 5 (some .int) :: BG) B.pre w (List.mem_cons_of_mem _ h)
  have hown : s.vm.findClass RX12 = some m.cls := findClass_of_methodNamed B.named
  have hlocks := B.notSynchronized
  subst hsz
  have hD := hD0.self (sz := s.heap.size)
  generalize hAe : va_A [(x, .inr (12, xg)), (liA, .inl (liC, (3, .inr (.inr (.inr (.inr liF)))))), (li0, .inr (5, lig0)), (li1, .inr (5, lig1)), (li2, .inr (5, lig2))] s.heap.size = A at hD hth ⊢
  have hA : ∀ q : Nat, s.heap.size ≤ q → A q := fun q h => by rw [← hAe]; exact Or.inr h
  have hS : va_S A s.heap s.heap [] := va_S.rf
  have hl := lv_entry ([.ref x, .int p0, .int p1, .int p2]) (n := 5) (Nat.le_of_ble_eq_true rfl)
  rw [lg_entry_eq]
  generalize (lg_sl ([.ref x, .int p0, .int p1, .int p2]) ++ List.replicate (5 - (lg_sl ([.ref x, .int p0, .int p1, .int p2])).length) Slot.unset).toArray = ls at hl ⊢
  have hl : lv_has ls 5 [(0, .ref x), (1, .int p0), (2, .int p1), (3, .int p2)] := hl
  have hFc := va_free (wc := [(x, .inr (12, xg)), (liA, .inl (liC, (3, .inr (.inr (.inr (.inr liF)))))), (li0, .inr (5, lig0)), (li1, .inr (5, lig1)), (li2, .inr (5, lig2))]) hD hS hA [0, 1, 2, 3, 4] rfl
  refine lv_aload_n hx hb dX12_cell_0 rfl (lv_at hl 0 rfl) ?_
  refine lv_iload_n hx hb dX12_cell_1 rfl (lv_at hl 1 rfl) ?_
  refine vq_thr (vx_runV (As := [.int p0]) (rest := []) ⟨hx, hb, hml, hown, hts⟩ (ct_X12_libraryAt l hlt dC dI s.heap.size p0 x xg liA liC liF li0 li1 li2 lig0 lig1 lig2 hlig0 hliF0 hlig1 hliF1 hlig2 hliF2 hxg) (cwV 1 hts (gi_V wd_1831 wd_1833 wd_63 wd_327 wd_1834) rfl rfl rfl (by decide +kernel) ⟨(Nat.le_of_ble_eq_true rfl), (Nat.le_of_ble_eq_true rfl)⟩) ⟨fun a U g mk q => by obtain ⟨q0, q1, qP, qK, qD, qT⟩ := q; exact ⟨q0, q1, qP, va_K.moved (u := U) (U := U.calling g mk a) (Vm.Alike.refl U.vm) qK, qD, th.moved (u := U) (U := U.calling g mk a) (Vm.Alike.refl U.vm) qT⟩, va_recv hK hP (ci := 12) (q0 := 0) rfl rfl, fun U hU hW => ⟨rfl, by rw [hU], by rw [hU]; exact hP, va_K.moved hW.alike hK, hD.weaken (fun _ _ _ _ => trivial), by rw [hU]; exact (hth.narrow hFc).moved hW.alike⟩⟩ rfl rfl hl.1 rfl (lv_room (Nat.le_of_ble_eq_true rfl)) dX12_cell_2 ⟨(Nat.le_of_ble_eq_true rfl), (Nat.le_of_ble_eq_true rfl)⟩) (fun _ _ _ h => h) hS hFc (fun q _ h => hFc q h) (fun E ce q9 u t H1 locs ht hvm hp hB hz hk hS hce hcv hcl => ?_)
  subst hB
  exact vx_out (fun x h9 => (ht0 x h9).elim) hlocks hce hcv hcl (fun t9 ht9 hvm9 => ⟨(), trivial, rfl, hS.F ht9⟩) hS.2.2 (Nat.le_of_ble_eq_true rfl) (Nat.le_of_ble_eq_true rfl)
set_option maxHeartbeats 4000000 in
set_option maxRecDepth 100000 in
theorem ct_X12_play (l : Launch) (hlt : l.stackTraces = false) (dC : Nat → ClassId) (dI : Nat → Nat → Nat) (sz : Nat) (p0 p1 : Int32) (x : Nat) (xg : List Value) (deA : Nat) (deC : ClassId) (deF : Nat → Option Nat) (de0 de1 de2 de3 de4 de5 : Nat) (deg0 deg1 deg2 deg3 deg4 deg5 : List Value) (hdeg0 : fx deg0 16 [(0, .int 0)]) (hdeF0 : deF 0 = some de0) (hdeg1 : fx deg1 16 [(0, .int 0)]) (hdeF1 : deF 1 = some de1) (hdeg2 : fx deg2 16 [(0, .int 0)]) (hdeF2 : deF 2 = some de2) (hdeg3 : fx deg3 16 [(0, .int 0)]) (hdeF3 : deF 3 = some de3) (hdeg4 : fx deg4 16 [(0, .int 0)]) (hdeF4 : deF 4 = some de4) (hdeg5 : fx deg5 16 [(0, .int 0)]) (hdeF5 : deF 5 = some de5) (hxg : fx xg 17 [(7, .ref deA)]) : vx_Met l yX12_play (Cond.code yX12_play cX12_play 5 (some .int) :: BG) ({ frames := 8, cells := 1, slots := 6, locals := 160 }) (va_Pc [.ref x, .int p0, .int p1] (fun U => U.heap.size = sz ∧ va_P (dC, dI) CL [(x, .inr (12, xg)), (deA, .inl (deC, (6, .inr (.inr (.inr (.inr deF)))))), (de0, .inr (3, deg0)), (de1, .inr (3, deg1)), (de2, .inr (3, deg2)), (de3, .inr (3, deg3)), (de4, .inr (3, deg4)), (de5, .inr (3, deg5))] U.heap ∧ va_K (dC, dI) CL [(deC, .object "ChipFlow$Design")] U ∧ va_D (fun _ => True) [(x, .inr (12, xg)), (deA, .inl (deC, (6, .inr (.inr (.inr (.inr deF)))))), (de0, .inr (3, deg0)), (de1, .inr (3, deg1)), (de2, .inr (3, deg2)), (de3, .inr (3, deg3)), (de4, .inr (3, deg4)), (de5, .inr (3, deg5))] ∧ th (va_A [(x, .inr (12, xg)), (deA, .inl (deC, (6, .inr (.inr (.inr (.inr deF)))))), (de0, .inr (3, deg0)), (de1, .inr (3, deg1)), (de2, .inr (3, deg2)), (de3, .inr (3, deg3)), (de4, .inr (3, deg4)), (de5, .inr (3, deg5))] sz) U U.heap)) (fun _ _ _ _ => False) (vx_X (fun _ : Unit => True) (fun E _ _ => E = "java/lang/IndexOutOfBoundsException") (va_A [(x, .inr (12, xg)), (deA, .inl (deC, (6, .inr (.inr (.inr (.inr deF)))))), (de0, .inr (3, deg0)), (de1, .inr (3, deg1)), (de2, .inr (3, deg2)), (de3, .inr (3, deg3)), (de4, .inr (3, deg4)), (de5, .inr (3, deg5))] sz)) 1 6 (va_A [(x, .inr (12, xg)), (deA, .inl (deC, (6, .inr (.inr (.inr (.inr deF)))))), (de0, .inr (3, deg0)), (de1, .inr (3, deg1)), (de2, .inr (3, deg2)), (de3, .inr (3, deg3)), (de4, .inr (3, deg4)), (de5, .inr (3, deg5))] sz) := by
  refine vx_ofW (cc := cX12_play) (maxL := 5) (ret := (some .int)) (by decide) rfl ?_
  intro p e s m args below meth c s₁ B hml ht0 hv
  obtain ⟨rfl, hsz, hP, hK, hD0, hth⟩ := hv
  have hx := B.exec
  have hb := B.bytes
  have hr := B.returns
  have hts : ∀ w ∈ BG, w.before _ s = true := fun w h => atoms_spec (ws := Cond.code yX12_play cX12_play 5 (some .int) :: BG) B.pre w (List.mem_cons_of_mem _ h)
  have hown : s.vm.findClass RX12 = some m.cls := findClass_of_methodNamed B.named
  have hlocks := B.notSynchronized
  subst hsz
  have hD := hD0.self (sz := s.heap.size)
  generalize hAe : va_A [(x, .inr (12, xg)), (deA, .inl (deC, (6, .inr (.inr (.inr (.inr deF)))))), (de0, .inr (3, deg0)), (de1, .inr (3, deg1)), (de2, .inr (3, deg2)), (de3, .inr (3, deg3)), (de4, .inr (3, deg4)), (de5, .inr (3, deg5))] s.heap.size = A at hD hth ⊢
  have hA : ∀ q : Nat, s.heap.size ≤ q → A q := fun q h => by rw [← hAe]; exact Or.inr h
  have hS : va_S A s.heap s.heap [] := va_S.rf
  have hl := lv_entry ([.ref x, .int p0, .int p1]) (n := 5) (Nat.le_of_ble_eq_true rfl)
  rw [lg_entry_eq]
  generalize (lg_sl ([.ref x, .int p0, .int p1]) ++ List.replicate (5 - (lg_sl ([.ref x, .int p0, .int p1])).length) Slot.unset).toArray = ls at hl ⊢
  have hl : lv_has ls 5 [(0, .ref x), (1, .int p0), (2, .int p1)] := hl
  have hFc := va_free (wc := [(x, .inr (12, xg)), (deA, .inl (deC, (6, .inr (.inr (.inr (.inr deF)))))), (de0, .inr (3, deg0)), (de1, .inr (3, deg1)), (de2, .inr (3, deg2)), (de3, .inr (3, deg3)), (de4, .inr (3, deg4)), (de5, .inr (3, deg5))]) hD hS hA [0, 1, 2, 3, 4, 5, 6, 7] rfl
  refine lv_aload_n hx hb dX12_play_0 rfl (lv_at hl 0 rfl) ?_
  refine lv_iload_n hx hb dX12_play_1 rfl (lv_at hl 1 rfl) ?_
  refine vq_thr (vx_runV (As := [.int p0]) (rest := []) ⟨hx, hb, hml, hown, hts⟩ (ct_X12_designAt l hlt dC dI s.heap.size p0 x xg deA deC deF de0 de1 de2 de3 de4 de5 deg0 deg1 deg2 deg3 deg4 deg5 hdeg0 hdeF0 hdeg1 hdeF1 hdeg2 hdeF2 hdeg3 hdeF3 hdeg4 hdeF4 hdeg5 hdeF5 hxg) (cwV 1 hts (gi_V wd_1809 wd_1811 wd_62 wd_327 wd_1812) rfl rfl rfl (by decide +kernel) ⟨(Nat.le_of_ble_eq_true rfl), (Nat.le_of_ble_eq_true rfl)⟩) ⟨fun a U g mk q => by obtain ⟨q0, q1, qP, qK, qD, qT⟩ := q; exact ⟨q0, q1, qP, va_K.moved (u := U) (U := U.calling g mk a) (Vm.Alike.refl U.vm) qK, qD, th.moved (u := U) (U := U.calling g mk a) (Vm.Alike.refl U.vm) qT⟩, va_recv hK hP (ci := 12) (q0 := 0) rfl rfl, fun U hU hW => ⟨rfl, by rw [hU], by rw [hU]; exact hP, va_K.moved hW.alike hK, hD.weaken (fun _ _ _ _ => trivial), by rw [hU]; exact (hth.narrow hFc).moved hW.alike⟩⟩ rfl rfl hl.1 rfl (lv_room (Nat.le_of_ble_eq_true rfl)) dX12_play_2 ⟨(Nat.le_of_ble_eq_true rfl), (Nat.le_of_ble_eq_true rfl)⟩) (fun _ _ _ h => h) hS hFc (fun q _ h => hFc q h) (fun E ce q9 u t H1 locs ht hvm hp hB hz hk hS hce hcv hcl => ?_)
  subst hB
  exact vx_out (fun x h9 => (ht0 x h9).elim) hlocks hce hcv hcl (fun t9 ht9 hvm9 => ⟨(), trivial, rfl, hS.F ht9⟩) hS.2.2 (Nat.le_of_ble_eq_true rfl) (Nat.le_of_ble_eq_true rfl)
set_option maxHeartbeats 4000000 in
set_option maxRecDepth 100000 in
theorem ct_X12_state (l : Launch) (hlt : l.stackTraces = false) (dC : Nat → ClassId) (dI : Nat → Nat → Nat) (sz : Nat) (p0 : Int32) (x : Nat) (xg : List Value) (deA : Nat) (deC : ClassId) (deF : Nat → Option Nat) (de0 de1 de2 de3 de4 de5 : Nat) (deg0 deg1 deg2 deg3 deg4 deg5 : List Value) (hdeg0 : fx deg0 16 [(0, .int 0)]) (hdeF0 : deF 0 = some de0) (hdeg1 : fx deg1 16 [(0, .int 0)]) (hdeF1 : deF 1 = some de1) (hdeg2 : fx deg2 16 [(0, .int 0)]) (hdeF2 : deF 2 = some de2) (hdeg3 : fx deg3 16 [(0, .int 0)]) (hdeF3 : deF 3 = some de3) (hdeg4 : fx deg4 16 [(0, .int 0)]) (hdeF4 : deF 4 = some de4) (hdeg5 : fx deg5 16 [(0, .int 0)]) (hdeF5 : deF 5 = some de5) (hxg : fx xg 17 [(7, .ref deA)]) : vx_Met l yX12_state (Cond.code yX12_state cX12_state 2 (some .int) :: BG) ({ frames := 8, cells := 1, slots := 6, locals := 160 }) (va_Pc [.ref x, .int p0] (fun U => U.heap.size = sz ∧ va_P (dC, dI) CL [(x, .inr (12, xg)), (deA, .inl (deC, (6, .inr (.inr (.inr (.inr deF)))))), (de0, .inr (3, deg0)), (de1, .inr (3, deg1)), (de2, .inr (3, deg2)), (de3, .inr (3, deg3)), (de4, .inr (3, deg4)), (de5, .inr (3, deg5))] U.heap ∧ va_K (dC, dI) CL [(deC, .object "ChipFlow$Design")] U ∧ va_D (fun _ => True) [(x, .inr (12, xg)), (deA, .inl (deC, (6, .inr (.inr (.inr (.inr deF)))))), (de0, .inr (3, deg0)), (de1, .inr (3, deg1)), (de2, .inr (3, deg2)), (de3, .inr (3, deg3)), (de4, .inr (3, deg4)), (de5, .inr (3, deg5))] ∧ th (va_A [(x, .inr (12, xg)), (deA, .inl (deC, (6, .inr (.inr (.inr (.inr deF)))))), (de0, .inr (3, deg0)), (de1, .inr (3, deg1)), (de2, .inr (3, deg2)), (de3, .inr (3, deg3)), (de4, .inr (3, deg4)), (de5, .inr (3, deg5))] sz) U U.heap)) (fun _ _ _ _ => False) (vx_X (fun _ : Unit => True) (fun E _ _ => E = "java/lang/IndexOutOfBoundsException") (va_A [(x, .inr (12, xg)), (deA, .inl (deC, (6, .inr (.inr (.inr (.inr deF)))))), (de0, .inr (3, deg0)), (de1, .inr (3, deg1)), (de2, .inr (3, deg2)), (de3, .inr (3, deg3)), (de4, .inr (3, deg4)), (de5, .inr (3, deg5))] sz)) 1 6 (va_A [(x, .inr (12, xg)), (deA, .inl (deC, (6, .inr (.inr (.inr (.inr deF)))))), (de0, .inr (3, deg0)), (de1, .inr (3, deg1)), (de2, .inr (3, deg2)), (de3, .inr (3, deg3)), (de4, .inr (3, deg4)), (de5, .inr (3, deg5))] sz) := by
  refine vx_ofW (cc := cX12_state) (maxL := 2) (ret := (some .int)) (by decide) rfl ?_
  intro p e s m args below meth c s₁ B hml ht0 hv
  obtain ⟨rfl, hsz, hP, hK, hD0, hth⟩ := hv
  have hx := B.exec
  have hb := B.bytes
  have hr := B.returns
  have hts : ∀ w ∈ BG, w.before _ s = true := fun w h => atoms_spec (ws := Cond.code yX12_state cX12_state 2 (some .int) :: BG) B.pre w (List.mem_cons_of_mem _ h)
  have hown : s.vm.findClass RX12 = some m.cls := findClass_of_methodNamed B.named
  have hlocks := B.notSynchronized
  subst hsz
  have hD := hD0.self (sz := s.heap.size)
  generalize hAe : va_A [(x, .inr (12, xg)), (deA, .inl (deC, (6, .inr (.inr (.inr (.inr deF)))))), (de0, .inr (3, deg0)), (de1, .inr (3, deg1)), (de2, .inr (3, deg2)), (de3, .inr (3, deg3)), (de4, .inr (3, deg4)), (de5, .inr (3, deg5))] s.heap.size = A at hD hth ⊢
  have hA : ∀ q : Nat, s.heap.size ≤ q → A q := fun q h => by rw [← hAe]; exact Or.inr h
  have hS : va_S A s.heap s.heap [] := va_S.rf
  have hl := lv_entry ([.ref x, .int p0]) (n := 2) (Nat.le_of_ble_eq_true rfl)
  rw [lg_entry_eq]
  generalize (lg_sl ([.ref x, .int p0]) ++ List.replicate (2 - (lg_sl ([.ref x, .int p0])).length) Slot.unset).toArray = ls at hl ⊢
  have hl : lv_has ls 2 [(0, .ref x), (1, .int p0)] := hl
  have hFc := va_free (wc := [(x, .inr (12, xg)), (deA, .inl (deC, (6, .inr (.inr (.inr (.inr deF)))))), (de0, .inr (3, deg0)), (de1, .inr (3, deg1)), (de2, .inr (3, deg2)), (de3, .inr (3, deg3)), (de4, .inr (3, deg4)), (de5, .inr (3, deg5))]) hD hS hA [0, 1, 2, 3, 4, 5, 6, 7] rfl
  refine lv_aload_n hx hb dX12_state_0 rfl (lv_at hl 0 rfl) ?_
  refine lv_iload_n hx hb dX12_state_1 rfl (lv_at hl 1 rfl) ?_
  refine vq_thr (vx_runV (As := [.int p0]) (rest := []) ⟨hx, hb, hml, hown, hts⟩ (ct_X12_designAt l hlt dC dI s.heap.size p0 x xg deA deC deF de0 de1 de2 de3 de4 de5 deg0 deg1 deg2 deg3 deg4 deg5 hdeg0 hdeF0 hdeg1 hdeF1 hdeg2 hdeF2 hdeg3 hdeF3 hdeg4 hdeF4 hdeg5 hdeF5 hxg) (cwV 1 hts (gi_V wd_1809 wd_1811 wd_62 wd_327 wd_1812) rfl rfl rfl (by decide +kernel) ⟨(Nat.le_of_ble_eq_true rfl), (Nat.le_of_ble_eq_true rfl)⟩) ⟨fun a U g mk q => by obtain ⟨q0, q1, qP, qK, qD, qT⟩ := q; exact ⟨q0, q1, qP, va_K.moved (u := U) (U := U.calling g mk a) (Vm.Alike.refl U.vm) qK, qD, th.moved (u := U) (U := U.calling g mk a) (Vm.Alike.refl U.vm) qT⟩, va_recv hK hP (ci := 12) (q0 := 0) rfl rfl, fun U hU hW => ⟨rfl, by rw [hU], by rw [hU]; exact hP, va_K.moved hW.alike hK, hD.weaken (fun _ _ _ _ => trivial), by rw [hU]; exact (hth.narrow hFc).moved hW.alike⟩⟩ rfl rfl hl.1 rfl (lv_room (Nat.le_of_ble_eq_true rfl)) dX12_state_2 ⟨(Nat.le_of_ble_eq_true rfl), (Nat.le_of_ble_eq_true rfl)⟩) (fun _ _ _ h => h) hS hFc (fun q _ h => hFc q h) (fun E ce q9 u t H1 locs ht hvm hp hB hz hk hS hce hcv hcl => ?_)
  subst hB
  exact vx_out (fun x h9 => (ht0 x h9).elim) hlocks hce hcv hcl (fun t9 ht9 hvm9 => ⟨(), trivial, rfl, hS.F ht9⟩) hS.2.2 (Nat.le_of_ble_eq_true rfl) (Nat.le_of_ble_eq_true rfl)
set_option maxHeartbeats 4000000 in
set_option maxRecDepth 100000 in
theorem ct_X12_restart (l : Launch) (hlt : l.stackTraces = false) (dC : Nat → ClassId) (dI : Nat → Nat → Nat) (sz : Nat) (p0 : Int32) (x : Nat) (xg : List Value) (deA : Nat) (deC : ClassId) (deF : Nat → Option Nat) (de0 de1 de2 de3 de4 de5 : Nat) (deg0 deg1 deg2 deg3 deg4 deg5 : List Value) (hdeg0 : fx deg0 16 [(0, .int 0)]) (hdeF0 : deF 0 = some de0) (hdeg1 : fx deg1 16 [(0, .int 0)]) (hdeF1 : deF 1 = some de1) (hdeg2 : fx deg2 16 [(0, .int 0)]) (hdeF2 : deF 2 = some de2) (hdeg3 : fx deg3 16 [(0, .int 0)]) (hdeF3 : deF 3 = some de3) (hdeg4 : fx deg4 16 [(0, .int 0)]) (hdeF4 : deF 4 = some de4) (hdeg5 : fx deg5 16 [(0, .int 0)]) (hdeF5 : deF 5 = some de5) (hxg : fx xg 17 [(7, .ref deA)]) : vx_Met l yX12_restart (Cond.code yX12_restart cX12_restart 4 (some .int) :: BG) ({ frames := 8, cells := 1, slots := 6, locals := 160 }) (va_Pc [.ref x, .int p0] (fun U => U.heap.size = sz ∧ va_P (dC, dI) CL [(x, .inr (12, xg)), (deA, .inl (deC, (6, .inr (.inr (.inr (.inr deF)))))), (de0, .inr (3, deg0)), (de1, .inr (3, deg1)), (de2, .inr (3, deg2)), (de3, .inr (3, deg3)), (de4, .inr (3, deg4)), (de5, .inr (3, deg5))] U.heap ∧ va_K (dC, dI) CL [(deC, .object "ChipFlow$Design")] U ∧ va_D (fun _ => True) [(x, .inr (12, xg)), (deA, .inl (deC, (6, .inr (.inr (.inr (.inr deF)))))), (de0, .inr (3, deg0)), (de1, .inr (3, deg1)), (de2, .inr (3, deg2)), (de3, .inr (3, deg3)), (de4, .inr (3, deg4)), (de5, .inr (3, deg5))] ∧ th (va_A [(x, .inr (12, xg)), (deA, .inl (deC, (6, .inr (.inr (.inr (.inr deF)))))), (de0, .inr (3, deg0)), (de1, .inr (3, deg1)), (de2, .inr (3, deg2)), (de3, .inr (3, deg3)), (de4, .inr (3, deg4)), (de5, .inr (3, deg5))] sz) U U.heap)) (fun _ _ _ _ => False) (vx_X (fun _ : Unit => True) (fun E _ _ => E = "java/lang/IndexOutOfBoundsException") (va_A [(x, .inr (12, xg)), (deA, .inl (deC, (6, .inr (.inr (.inr (.inr deF)))))), (de0, .inr (3, deg0)), (de1, .inr (3, deg1)), (de2, .inr (3, deg2)), (de3, .inr (3, deg3)), (de4, .inr (3, deg4)), (de5, .inr (3, deg5))] sz)) 1 6 (va_A [(x, .inr (12, xg)), (deA, .inl (deC, (6, .inr (.inr (.inr (.inr deF)))))), (de0, .inr (3, deg0)), (de1, .inr (3, deg1)), (de2, .inr (3, deg2)), (de3, .inr (3, deg3)), (de4, .inr (3, deg4)), (de5, .inr (3, deg5))] sz) := by
  refine vx_ofW (cc := cX12_restart) (maxL := 4) (ret := (some .int)) (by decide) rfl ?_
  intro p e s m args below meth c s₁ B hml ht0 hv
  obtain ⟨rfl, hsz, hP, hK, hD0, hth⟩ := hv
  have hx := B.exec
  have hb := B.bytes
  have hr := B.returns
  have hts : ∀ w ∈ BG, w.before _ s = true := fun w h => atoms_spec (ws := Cond.code yX12_restart cX12_restart 4 (some .int) :: BG) B.pre w (List.mem_cons_of_mem _ h)
  have hown : s.vm.findClass RX12 = some m.cls := findClass_of_methodNamed B.named
  have hlocks := B.notSynchronized
  subst hsz
  have hD := hD0.self (sz := s.heap.size)
  generalize hAe : va_A [(x, .inr (12, xg)), (deA, .inl (deC, (6, .inr (.inr (.inr (.inr deF)))))), (de0, .inr (3, deg0)), (de1, .inr (3, deg1)), (de2, .inr (3, deg2)), (de3, .inr (3, deg3)), (de4, .inr (3, deg4)), (de5, .inr (3, deg5))] s.heap.size = A at hD hth ⊢
  have hA : ∀ q : Nat, s.heap.size ≤ q → A q := fun q h => by rw [← hAe]; exact Or.inr h
  have hS : va_S A s.heap s.heap [] := va_S.rf
  have hl := lv_entry ([.ref x, .int p0]) (n := 4) (Nat.le_of_ble_eq_true rfl)
  rw [lg_entry_eq]
  generalize (lg_sl ([.ref x, .int p0]) ++ List.replicate (4 - (lg_sl ([.ref x, .int p0])).length) Slot.unset).toArray = ls at hl ⊢
  have hl : lv_has ls 4 [(0, .ref x), (1, .int p0)] := hl
  have hFc := va_free (wc := [(x, .inr (12, xg)), (deA, .inl (deC, (6, .inr (.inr (.inr (.inr deF)))))), (de0, .inr (3, deg0)), (de1, .inr (3, deg1)), (de2, .inr (3, deg2)), (de3, .inr (3, deg3)), (de4, .inr (3, deg4)), (de5, .inr (3, deg5))]) hD hS hA [0, 1, 2, 3, 4, 5, 6, 7] rfl
  refine lv_aload_n hx hb dX12_restart_0 rfl (lv_at hl 0 rfl) ?_
  refine lv_iload_n hx hb dX12_restart_1 rfl (lv_at hl 1 rfl) ?_
  refine vq_thr (vx_runV (As := [.int p0]) (rest := []) ⟨hx, hb, hml, hown, hts⟩ (ct_X12_designAt l hlt dC dI s.heap.size p0 x xg deA deC deF de0 de1 de2 de3 de4 de5 deg0 deg1 deg2 deg3 deg4 deg5 hdeg0 hdeF0 hdeg1 hdeF1 hdeg2 hdeF2 hdeg3 hdeF3 hdeg4 hdeF4 hdeg5 hdeF5 hxg) (cwV 1 hts (gi_V wd_1809 wd_1811 wd_62 wd_327 wd_1812) rfl rfl rfl (by decide +kernel) ⟨(Nat.le_of_ble_eq_true rfl), (Nat.le_of_ble_eq_true rfl)⟩) ⟨fun a U g mk q => by obtain ⟨q0, q1, qP, qK, qD, qT⟩ := q; exact ⟨q0, q1, qP, va_K.moved (u := U) (U := U.calling g mk a) (Vm.Alike.refl U.vm) qK, qD, th.moved (u := U) (U := U.calling g mk a) (Vm.Alike.refl U.vm) qT⟩, va_recv hK hP (ci := 12) (q0 := 0) rfl rfl, fun U hU hW => ⟨rfl, by rw [hU], by rw [hU]; exact hP, va_K.moved hW.alike hK, hD.weaken (fun _ _ _ _ => trivial), by rw [hU]; exact (hth.narrow hFc).moved hW.alike⟩⟩ rfl rfl hl.1 rfl (lv_room (Nat.le_of_ble_eq_true rfl)) dX12_restart_2 ⟨(Nat.le_of_ble_eq_true rfl), (Nat.le_of_ble_eq_true rfl)⟩) (fun _ _ _ h => h) hS hFc (fun q _ h => hFc q h) (fun E ce q9 u t H1 locs ht hvm hp hB hz hk hS hce hcv hcl => ?_)
  subst hB
  exact vx_out (fun x h9 => (ht0 x h9).elim) hlocks hce hcv hcl (fun t9 ht9 hvm9 => ⟨(), trivial, rfl, hS.F ht9⟩) hS.2.2 (Nat.le_of_ble_eq_true rfl) (Nat.le_of_ble_eq_true rfl)
set_option maxHeartbeats 4000000 in
set_option maxRecDepth 100000 in
theorem ct_X12_equal (l : Launch) (hlt : l.stackTraces = false) (dC : Nat → ClassId) (dI : Nat → Nat → Nat) (sz : Nat) (p0 p1 : Int32) (x : Nat) (xg : List Value) (deA : Nat) (deC : ClassId) (deF : Nat → Option Nat) (de0 de1 de2 de3 de4 de5 : Nat) (deg0 deg1 deg2 deg3 deg4 deg5 : List Value) (hdeg0 : fx deg0 16 [(0, .int 0)]) (hdeF0 : deF 0 = some de0) (hdeg1 : fx deg1 16 [(0, .int 0)]) (hdeF1 : deF 1 = some de1) (hdeg2 : fx deg2 16 [(0, .int 0)]) (hdeF2 : deF 2 = some de2) (hdeg3 : fx deg3 16 [(0, .int 0)]) (hdeF3 : deF 3 = some de3) (hdeg4 : fx deg4 16 [(0, .int 0)]) (hdeF4 : deF 4 = some de4) (hdeg5 : fx deg5 16 [(0, .int 0)]) (hdeF5 : deF 5 = some de5) (hxg : fx xg 17 [(7, .ref deA)]) : vx_Met l yX12_equal (Cond.code yX12_equal cX12_equal 5 (some .int) :: BG) ({ frames := 8, cells := 1, slots := 6, locals := 160 }) (va_Pc [.ref x, .int p0, .int p1] (fun U => U.heap.size = sz ∧ va_P (dC, dI) CL [(x, .inr (12, xg)), (deA, .inl (deC, (6, .inr (.inr (.inr (.inr deF)))))), (de0, .inr (3, deg0)), (de1, .inr (3, deg1)), (de2, .inr (3, deg2)), (de3, .inr (3, deg3)), (de4, .inr (3, deg4)), (de5, .inr (3, deg5))] U.heap ∧ va_K (dC, dI) CL [(deC, .object "ChipFlow$Design")] U ∧ va_D (fun _ => True) [(x, .inr (12, xg)), (deA, .inl (deC, (6, .inr (.inr (.inr (.inr deF)))))), (de0, .inr (3, deg0)), (de1, .inr (3, deg1)), (de2, .inr (3, deg2)), (de3, .inr (3, deg3)), (de4, .inr (3, deg4)), (de5, .inr (3, deg5))] ∧ th (va_A [(x, .inr (12, xg)), (deA, .inl (deC, (6, .inr (.inr (.inr (.inr deF)))))), (de0, .inr (3, deg0)), (de1, .inr (3, deg1)), (de2, .inr (3, deg2)), (de3, .inr (3, deg3)), (de4, .inr (3, deg4)), (de5, .inr (3, deg5))] sz) U U.heap)) (fun _ _ _ _ => False) (vx_X (fun _ : Unit => True) (fun E _ _ => E = "java/lang/IndexOutOfBoundsException") (va_A [(x, .inr (12, xg)), (deA, .inl (deC, (6, .inr (.inr (.inr (.inr deF)))))), (de0, .inr (3, deg0)), (de1, .inr (3, deg1)), (de2, .inr (3, deg2)), (de3, .inr (3, deg3)), (de4, .inr (3, deg4)), (de5, .inr (3, deg5))] sz)) 1 6 (va_A [(x, .inr (12, xg)), (deA, .inl (deC, (6, .inr (.inr (.inr (.inr deF)))))), (de0, .inr (3, deg0)), (de1, .inr (3, deg1)), (de2, .inr (3, deg2)), (de3, .inr (3, deg3)), (de4, .inr (3, deg4)), (de5, .inr (3, deg5))] sz) := by
  refine vx_ofW (cc := cX12_equal) (maxL := 5) (ret := (some .int)) (by decide) rfl ?_
  intro p e s m args below meth c s₁ B hml ht0 hv
  obtain ⟨rfl, hsz, hP, hK, hD0, hth⟩ := hv
  have hx := B.exec
  have hb := B.bytes
  have hr := B.returns
  have hts : ∀ w ∈ BG, w.before _ s = true := fun w h => atoms_spec (ws := Cond.code yX12_equal cX12_equal 5 (some .int) :: BG) B.pre w (List.mem_cons_of_mem _ h)
  have hown : s.vm.findClass RX12 = some m.cls := findClass_of_methodNamed B.named
  have hlocks := B.notSynchronized
  subst hsz
  have hD := hD0.self (sz := s.heap.size)
  generalize hAe : va_A [(x, .inr (12, xg)), (deA, .inl (deC, (6, .inr (.inr (.inr (.inr deF)))))), (de0, .inr (3, deg0)), (de1, .inr (3, deg1)), (de2, .inr (3, deg2)), (de3, .inr (3, deg3)), (de4, .inr (3, deg4)), (de5, .inr (3, deg5))] s.heap.size = A at hD hth ⊢
  have hA : ∀ q : Nat, s.heap.size ≤ q → A q := fun q h => by rw [← hAe]; exact Or.inr h
  have hS : va_S A s.heap s.heap [] := va_S.rf
  have hl := lv_entry ([.ref x, .int p0, .int p1]) (n := 5) (Nat.le_of_ble_eq_true rfl)
  rw [lg_entry_eq]
  generalize (lg_sl ([.ref x, .int p0, .int p1]) ++ List.replicate (5 - (lg_sl ([.ref x, .int p0, .int p1])).length) Slot.unset).toArray = ls at hl ⊢
  have hl : lv_has ls 5 [(0, .ref x), (1, .int p0), (2, .int p1)] := hl
  have hFc := va_free (wc := [(x, .inr (12, xg)), (deA, .inl (deC, (6, .inr (.inr (.inr (.inr deF)))))), (de0, .inr (3, deg0)), (de1, .inr (3, deg1)), (de2, .inr (3, deg2)), (de3, .inr (3, deg3)), (de4, .inr (3, deg4)), (de5, .inr (3, deg5))]) hD hS hA [0, 1, 2, 3, 4, 5, 6, 7] rfl
  refine lv_aload_n hx hb dX12_equal_0 rfl (lv_at hl 0 rfl) ?_
  refine lv_iload_n hx hb dX12_equal_1 rfl (lv_at hl 1 rfl) ?_
  refine vq_thr (vx_runV (As := [.int p0]) (rest := []) ⟨hx, hb, hml, hown, hts⟩ (ct_X12_designAt l hlt dC dI s.heap.size p0 x xg deA deC deF de0 de1 de2 de3 de4 de5 deg0 deg1 deg2 deg3 deg4 deg5 hdeg0 hdeF0 hdeg1 hdeF1 hdeg2 hdeF2 hdeg3 hdeF3 hdeg4 hdeF4 hdeg5 hdeF5 hxg) (cwV 1 hts (gi_V wd_1809 wd_1811 wd_62 wd_327 wd_1812) rfl rfl rfl (by decide +kernel) ⟨(Nat.le_of_ble_eq_true rfl), (Nat.le_of_ble_eq_true rfl)⟩) ⟨fun a U g mk q => by obtain ⟨q0, q1, qP, qK, qD, qT⟩ := q; exact ⟨q0, q1, qP, va_K.moved (u := U) (U := U.calling g mk a) (Vm.Alike.refl U.vm) qK, qD, th.moved (u := U) (U := U.calling g mk a) (Vm.Alike.refl U.vm) qT⟩, va_recv hK hP (ci := 12) (q0 := 0) rfl rfl, fun U hU hW => ⟨rfl, by rw [hU], by rw [hU]; exact hP, va_K.moved hW.alike hK, hD.weaken (fun _ _ _ _ => trivial), by rw [hU]; exact (hth.narrow hFc).moved hW.alike⟩⟩ rfl rfl hl.1 rfl (lv_room (Nat.le_of_ble_eq_true rfl)) dX12_equal_2 ⟨(Nat.le_of_ble_eq_true rfl), (Nat.le_of_ble_eq_true rfl)⟩) (fun _ _ _ h => h) hS hFc (fun q _ h => hFc q h) (fun E ce q9 u t H1 locs ht hvm hp hB hz hk hS hce hcv hcl => ?_)
  subst hB
  exact vx_out (fun x h9 => (ht0 x h9).elim) hlocks hce hcv hcl (fun t9 ht9 hvm9 => ⟨(), trivial, rfl, hS.F ht9⟩) hS.2.2 (Nat.le_of_ble_eq_true rfl) (Nat.le_of_ble_eq_true rfl)
set_option maxHeartbeats 4000000 in
set_option maxRecDepth 100000 in
theorem ct_X12_never (l : Launch) (hlt : l.stackTraces = false) (dC : Nat → ClassId) (dI : Nat → Nat → Nat) (sz : Nat) (p0 p1 : Int32) (x : Nat) (xg : List Value) (deA : Nat) (deC : ClassId) (deF : Nat → Option Nat) (de0 de1 de2 de3 de4 de5 : Nat) (deg0 deg1 deg2 deg3 deg4 deg5 : List Value) (hdeg0 : fx deg0 16 [(0, .int 0)]) (hdeF0 : deF 0 = some de0) (hdeg1 : fx deg1 16 [(0, .int 0)]) (hdeF1 : deF 1 = some de1) (hdeg2 : fx deg2 16 [(0, .int 0)]) (hdeF2 : deF 2 = some de2) (hdeg3 : fx deg3 16 [(0, .int 0)]) (hdeF3 : deF 3 = some de3) (hdeg4 : fx deg4 16 [(0, .int 0)]) (hdeF4 : deF 4 = some de4) (hdeg5 : fx deg5 16 [(0, .int 0)]) (hdeF5 : deF 5 = some de5) (hxg : fx xg 17 [(7, .ref deA)]) : vx_Met l yX12_never (Cond.code yX12_never cX12_never 4 (some .int) :: BG) ({ frames := 8, cells := 1, slots := 6, locals := 160 }) (va_Pc [.ref x, .int p0, .int p1] (fun U => U.heap.size = sz ∧ va_P (dC, dI) CL [(x, .inr (12, xg)), (deA, .inl (deC, (6, .inr (.inr (.inr (.inr deF)))))), (de0, .inr (3, deg0)), (de1, .inr (3, deg1)), (de2, .inr (3, deg2)), (de3, .inr (3, deg3)), (de4, .inr (3, deg4)), (de5, .inr (3, deg5))] U.heap ∧ va_K (dC, dI) CL [(deC, .object "ChipFlow$Design")] U ∧ va_D (fun _ => True) [(x, .inr (12, xg)), (deA, .inl (deC, (6, .inr (.inr (.inr (.inr deF)))))), (de0, .inr (3, deg0)), (de1, .inr (3, deg1)), (de2, .inr (3, deg2)), (de3, .inr (3, deg3)), (de4, .inr (3, deg4)), (de5, .inr (3, deg5))] ∧ th (va_A [(x, .inr (12, xg)), (deA, .inl (deC, (6, .inr (.inr (.inr (.inr deF)))))), (de0, .inr (3, deg0)), (de1, .inr (3, deg1)), (de2, .inr (3, deg2)), (de3, .inr (3, deg3)), (de4, .inr (3, deg4)), (de5, .inr (3, deg5))] sz) U U.heap)) (fun _ _ _ _ => False) (vx_X (fun _ : Unit => True) (fun E _ _ => E = "java/lang/IndexOutOfBoundsException") (va_A [(x, .inr (12, xg)), (deA, .inl (deC, (6, .inr (.inr (.inr (.inr deF)))))), (de0, .inr (3, deg0)), (de1, .inr (3, deg1)), (de2, .inr (3, deg2)), (de3, .inr (3, deg3)), (de4, .inr (3, deg4)), (de5, .inr (3, deg5))] sz)) 1 6 (va_A [(x, .inr (12, xg)), (deA, .inl (deC, (6, .inr (.inr (.inr (.inr deF)))))), (de0, .inr (3, deg0)), (de1, .inr (3, deg1)), (de2, .inr (3, deg2)), (de3, .inr (3, deg3)), (de4, .inr (3, deg4)), (de5, .inr (3, deg5))] sz) := by
  refine vx_ofW (cc := cX12_never) (maxL := 4) (ret := (some .int)) (by decide) rfl ?_
  intro p e s m args below meth c s₁ B hml ht0 hv
  obtain ⟨rfl, hsz, hP, hK, hD0, hth⟩ := hv
  have hx := B.exec
  have hb := B.bytes
  have hr := B.returns
  have hts : ∀ w ∈ BG, w.before _ s = true := fun w h => atoms_spec (ws := Cond.code yX12_never cX12_never 4 (some .int) :: BG) B.pre w (List.mem_cons_of_mem _ h)
  have hown : s.vm.findClass RX12 = some m.cls := findClass_of_methodNamed B.named
  have hlocks := B.notSynchronized
  subst hsz
  have hD := hD0.self (sz := s.heap.size)
  generalize hAe : va_A [(x, .inr (12, xg)), (deA, .inl (deC, (6, .inr (.inr (.inr (.inr deF)))))), (de0, .inr (3, deg0)), (de1, .inr (3, deg1)), (de2, .inr (3, deg2)), (de3, .inr (3, deg3)), (de4, .inr (3, deg4)), (de5, .inr (3, deg5))] s.heap.size = A at hD hth ⊢
  have hA : ∀ q : Nat, s.heap.size ≤ q → A q := fun q h => by rw [← hAe]; exact Or.inr h
  have hS : va_S A s.heap s.heap [] := va_S.rf
  have hl := lv_entry ([.ref x, .int p0, .int p1]) (n := 4) (Nat.le_of_ble_eq_true rfl)
  rw [lg_entry_eq]
  generalize (lg_sl ([.ref x, .int p0, .int p1]) ++ List.replicate (4 - (lg_sl ([.ref x, .int p0, .int p1])).length) Slot.unset).toArray = ls at hl ⊢
  have hl : lv_has ls 4 [(0, .ref x), (1, .int p0), (2, .int p1)] := hl
  have hFc := va_free (wc := [(x, .inr (12, xg)), (deA, .inl (deC, (6, .inr (.inr (.inr (.inr deF)))))), (de0, .inr (3, deg0)), (de1, .inr (3, deg1)), (de2, .inr (3, deg2)), (de3, .inr (3, deg3)), (de4, .inr (3, deg4)), (de5, .inr (3, deg5))]) hD hS hA [0, 1, 2, 3, 4, 5, 6, 7] rfl
  refine lv_aload_n hx hb dX12_never_0 rfl (lv_at hl 0 rfl) ?_
  refine lv_iload_n hx hb dX12_never_1 rfl (lv_at hl 1 rfl) ?_
  refine vq_thr (vx_runV (As := [.int p0]) (rest := []) ⟨hx, hb, hml, hown, hts⟩ (ct_X12_designAt l hlt dC dI s.heap.size p0 x xg deA deC deF de0 de1 de2 de3 de4 de5 deg0 deg1 deg2 deg3 deg4 deg5 hdeg0 hdeF0 hdeg1 hdeF1 hdeg2 hdeF2 hdeg3 hdeF3 hdeg4 hdeF4 hdeg5 hdeF5 hxg) (cwV 1 hts (gi_V wd_1809 wd_1811 wd_62 wd_327 wd_1812) rfl rfl rfl (by decide +kernel) ⟨(Nat.le_of_ble_eq_true rfl), (Nat.le_of_ble_eq_true rfl)⟩) ⟨fun a U g mk q => by obtain ⟨q0, q1, qP, qK, qD, qT⟩ := q; exact ⟨q0, q1, qP, va_K.moved (u := U) (U := U.calling g mk a) (Vm.Alike.refl U.vm) qK, qD, th.moved (u := U) (U := U.calling g mk a) (Vm.Alike.refl U.vm) qT⟩, va_recv hK hP (ci := 12) (q0 := 0) rfl rfl, fun U hU hW => ⟨rfl, by rw [hU], by rw [hU]; exact hP, va_K.moved hW.alike hK, hD.weaken (fun _ _ _ _ => trivial), by rw [hU]; exact (hth.narrow hFc).moved hW.alike⟩⟩ rfl rfl hl.1 rfl (lv_room (Nat.le_of_ble_eq_true rfl)) dX12_never_2 ⟨(Nat.le_of_ble_eq_true rfl), (Nat.le_of_ble_eq_true rfl)⟩) (fun _ _ _ h => h) hS hFc (fun q _ h => hFc q h) (fun E ce q9 u t H1 locs ht hvm hp hB hz hk hS hce hcv hcl => ?_)
  subst hB
  exact vx_out (fun x h9 => (ht0 x h9).elim) hlocks hce hcv hcl (fun t9 ht9 hvm9 => ⟨(), trivial, rfl, hS.F ht9⟩) hS.2.2 (Nat.le_of_ble_eq_true rfl) (Nat.le_of_ble_eq_true rfl)
set_option maxHeartbeats 4000000 in
set_option maxRecDepth 100000 in
theorem ct_X12_map (l : Launch) (hlt : l.stackTraces = false) (dC : Nat → ClassId) (dI : Nat → Nat → Nat) (sz : Nat) (p0 p1 : Int32) (x : Nat) (xg : List Value) (deA : Nat) (deC : ClassId) (deF : Nat → Option Nat) (de0 de1 de2 de3 de4 de5 : Nat) (deg0 deg1 deg2 deg3 deg4 deg5 : List Value) (hdeg0 : fx deg0 16 [(0, .int 0)]) (hdeF0 : deF 0 = some de0) (hdeg1 : fx deg1 16 [(0, .int 0)]) (hdeF1 : deF 1 = some de1) (hdeg2 : fx deg2 16 [(0, .int 0)]) (hdeF2 : deF 2 = some de2) (hdeg3 : fx deg3 16 [(0, .int 0)]) (hdeF3 : deF 3 = some de3) (hdeg4 : fx deg4 16 [(0, .int 0)]) (hdeF4 : deF 4 = some de4) (hdeg5 : fx deg5 16 [(0, .int 0)]) (hdeF5 : deF 5 = some de5) (hxg : fx xg 17 [(7, .ref deA)]) : vx_Met l yX12_map (Cond.code yX12_map cX12_map 7 (some .int) :: BG) ({ frames := 8, cells := 1, slots := 6, locals := 160 }) (va_Pc [.ref x, .int p0, .int p1] (fun U => U.heap.size = sz ∧ va_P (dC, dI) CL [(x, .inr (12, xg)), (deA, .inl (deC, (6, .inr (.inr (.inr (.inr deF)))))), (de0, .inr (3, deg0)), (de1, .inr (3, deg1)), (de2, .inr (3, deg2)), (de3, .inr (3, deg3)), (de4, .inr (3, deg4)), (de5, .inr (3, deg5))] U.heap ∧ va_K (dC, dI) CL [(deC, .object "ChipFlow$Design")] U ∧ va_D (fun _ => True) [(x, .inr (12, xg)), (deA, .inl (deC, (6, .inr (.inr (.inr (.inr deF)))))), (de0, .inr (3, deg0)), (de1, .inr (3, deg1)), (de2, .inr (3, deg2)), (de3, .inr (3, deg3)), (de4, .inr (3, deg4)), (de5, .inr (3, deg5))] ∧ th (va_A [(x, .inr (12, xg)), (deA, .inl (deC, (6, .inr (.inr (.inr (.inr deF)))))), (de0, .inr (3, deg0)), (de1, .inr (3, deg1)), (de2, .inr (3, deg2)), (de3, .inr (3, deg3)), (de4, .inr (3, deg4)), (de5, .inr (3, deg5))] sz) U U.heap)) (fun _ _ _ _ => False) (vx_X (fun _ : Unit => True) (fun E _ _ => E = "java/lang/IndexOutOfBoundsException") (va_A [(x, .inr (12, xg)), (deA, .inl (deC, (6, .inr (.inr (.inr (.inr deF)))))), (de0, .inr (3, deg0)), (de1, .inr (3, deg1)), (de2, .inr (3, deg2)), (de3, .inr (3, deg3)), (de4, .inr (3, deg4)), (de5, .inr (3, deg5))] sz)) 1 6 (va_A [(x, .inr (12, xg)), (deA, .inl (deC, (6, .inr (.inr (.inr (.inr deF)))))), (de0, .inr (3, deg0)), (de1, .inr (3, deg1)), (de2, .inr (3, deg2)), (de3, .inr (3, deg3)), (de4, .inr (3, deg4)), (de5, .inr (3, deg5))] sz) := by
  refine vx_ofW (cc := cX12_map) (maxL := 7) (ret := (some .int)) (by decide) rfl ?_
  intro p e s m args below meth c s₁ B hml ht0 hv
  obtain ⟨rfl, hsz, hP, hK, hD0, hth⟩ := hv
  have hx := B.exec
  have hb := B.bytes
  have hr := B.returns
  have hts : ∀ w ∈ BG, w.before _ s = true := fun w h => atoms_spec (ws := Cond.code yX12_map cX12_map 7 (some .int) :: BG) B.pre w (List.mem_cons_of_mem _ h)
  have hown : s.vm.findClass RX12 = some m.cls := findClass_of_methodNamed B.named
  have hlocks := B.notSynchronized
  subst hsz
  have hD := hD0.self (sz := s.heap.size)
  generalize hAe : va_A [(x, .inr (12, xg)), (deA, .inl (deC, (6, .inr (.inr (.inr (.inr deF)))))), (de0, .inr (3, deg0)), (de1, .inr (3, deg1)), (de2, .inr (3, deg2)), (de3, .inr (3, deg3)), (de4, .inr (3, deg4)), (de5, .inr (3, deg5))] s.heap.size = A at hD hth ⊢
  have hA : ∀ q : Nat, s.heap.size ≤ q → A q := fun q h => by rw [← hAe]; exact Or.inr h
  have hS : va_S A s.heap s.heap [] := va_S.rf
  have hl := lv_entry ([.ref x, .int p0, .int p1]) (n := 7) (Nat.le_of_ble_eq_true rfl)
  rw [lg_entry_eq]
  generalize (lg_sl ([.ref x, .int p0, .int p1]) ++ List.replicate (7 - (lg_sl ([.ref x, .int p0, .int p1])).length) Slot.unset).toArray = ls at hl ⊢
  have hl : lv_has ls 7 [(0, .ref x), (1, .int p0), (2, .int p1)] := hl
  have hFc := va_free (wc := [(x, .inr (12, xg)), (deA, .inl (deC, (6, .inr (.inr (.inr (.inr deF)))))), (de0, .inr (3, deg0)), (de1, .inr (3, deg1)), (de2, .inr (3, deg2)), (de3, .inr (3, deg3)), (de4, .inr (3, deg4)), (de5, .inr (3, deg5))]) hD hS hA [0, 1, 2, 3, 4, 5, 6, 7] rfl
  refine lv_aload_n hx hb dX12_map_0 rfl (lv_at hl 0 rfl) ?_
  refine lv_iload_n hx hb dX12_map_1 rfl (lv_at hl 1 rfl) ?_
  refine vq_thr (vx_runV (As := [.int p0]) (rest := []) ⟨hx, hb, hml, hown, hts⟩ (ct_X12_designAt l hlt dC dI s.heap.size p0 x xg deA deC deF de0 de1 de2 de3 de4 de5 deg0 deg1 deg2 deg3 deg4 deg5 hdeg0 hdeF0 hdeg1 hdeF1 hdeg2 hdeF2 hdeg3 hdeF3 hdeg4 hdeF4 hdeg5 hdeF5 hxg) (cwV 1 hts (gi_V wd_1809 wd_1811 wd_62 wd_327 wd_1812) rfl rfl rfl (by decide +kernel) ⟨(Nat.le_of_ble_eq_true rfl), (Nat.le_of_ble_eq_true rfl)⟩) ⟨fun a U g mk q => by obtain ⟨q0, q1, qP, qK, qD, qT⟩ := q; exact ⟨q0, q1, qP, va_K.moved (u := U) (U := U.calling g mk a) (Vm.Alike.refl U.vm) qK, qD, th.moved (u := U) (U := U.calling g mk a) (Vm.Alike.refl U.vm) qT⟩, va_recv hK hP (ci := 12) (q0 := 0) rfl rfl, fun U hU hW => ⟨rfl, by rw [hU], by rw [hU]; exact hP, va_K.moved hW.alike hK, hD.weaken (fun _ _ _ _ => trivial), by rw [hU]; exact (hth.narrow hFc).moved hW.alike⟩⟩ rfl rfl hl.1 rfl (lv_room (Nat.le_of_ble_eq_true rfl)) dX12_map_2 ⟨(Nat.le_of_ble_eq_true rfl), (Nat.le_of_ble_eq_true rfl)⟩) (fun _ _ _ h => h) hS hFc (fun q _ h => hFc q h) (fun E ce q9 u t H1 locs ht hvm hp hB hz hk hS hce hcv hcl => ?_)
  subst hB
  exact vx_out (fun x h9 => (ht0 x h9).elim) hlocks hce hcv hcl (fun t9 ht9 hvm9 => ⟨(), trivial, rfl, hS.F ht9⟩) hS.2.2 (Nat.le_of_ble_eq_true rfl) (Nat.le_of_ble_eq_true rfl)
set_option maxHeartbeats 4000000 in
set_option maxRecDepth 100000 in
theorem ct_X12_chip (l : Launch) (hlt : l.stackTraces = false) (dC : Nat → ClassId) (dI : Nat → Nat → Nat) (sz : Nat) (p0 p1 : Int32) (x : Nat) (xg : List Value) (chA : Nat) (chC : ClassId) (chF : Nat → Option Nat) (ch0 ch1 ch2 ch3 : Nat) (chg0 chg1 chg2 chg3 : List Value) (hchg0 : fx chg0 20 [(0, .int 0)]) (hchF0 : chF 0 = some ch0) (hchg1 : fx chg1 20 [(0, .int 0)]) (hchF1 : chF 1 = some ch1) (hchg2 : fx chg2 20 [(0, .int 0)]) (hchF2 : chF 2 = some ch2) (hchg3 : fx chg3 20 [(0, .int 0)]) (hchF3 : chF 3 = some ch3) (hxg : fx xg 17 [(9, .ref chA)]) : vx_Met l yX12_chip (Cond.code yX12_chip cX12_chip 5 (some .int) :: BG) ({ frames := 8, cells := 1, slots := 6, locals := 160 }) (va_Pc [.ref x, .int p0, .int p1] (fun U => U.heap.size = sz ∧ va_P (dC, dI) CL [(x, .inr (12, xg)), (chA, .inl (chC, (4, .inr (.inr (.inr (.inr chF)))))), (ch0, .inr (2, chg0)), (ch1, .inr (2, chg1)), (ch2, .inr (2, chg2)), (ch3, .inr (2, chg3))] U.heap ∧ va_K (dC, dI) CL [(chC, .object "ChipFlow$Chip")] U ∧ va_D (fun _ => True) [(x, .inr (12, xg)), (chA, .inl (chC, (4, .inr (.inr (.inr (.inr chF)))))), (ch0, .inr (2, chg0)), (ch1, .inr (2, chg1)), (ch2, .inr (2, chg2)), (ch3, .inr (2, chg3))] ∧ th (va_A [(x, .inr (12, xg)), (chA, .inl (chC, (4, .inr (.inr (.inr (.inr chF)))))), (ch0, .inr (2, chg0)), (ch1, .inr (2, chg1)), (ch2, .inr (2, chg2)), (ch3, .inr (2, chg3))] sz) U U.heap)) (fun _ _ _ _ => False) (vx_X (fun _ : Unit => True) (fun E _ _ => E = "java/lang/IndexOutOfBoundsException") (va_A [(x, .inr (12, xg)), (chA, .inl (chC, (4, .inr (.inr (.inr (.inr chF)))))), (ch0, .inr (2, chg0)), (ch1, .inr (2, chg1)), (ch2, .inr (2, chg2)), (ch3, .inr (2, chg3))] sz)) 1 6 (va_A [(x, .inr (12, xg)), (chA, .inl (chC, (4, .inr (.inr (.inr (.inr chF)))))), (ch0, .inr (2, chg0)), (ch1, .inr (2, chg1)), (ch2, .inr (2, chg2)), (ch3, .inr (2, chg3))] sz) := by
  refine vx_ofW (cc := cX12_chip) (maxL := 5) (ret := (some .int)) (by decide) rfl ?_
  intro p e s m args below meth c s₁ B hml ht0 hv
  obtain ⟨rfl, hsz, hP, hK, hD0, hth⟩ := hv
  have hx := B.exec
  have hb := B.bytes
  have hr := B.returns
  have hts : ∀ w ∈ BG, w.before _ s = true := fun w h => atoms_spec (ws := Cond.code yX12_chip cX12_chip 5 (some .int) :: BG) B.pre w (List.mem_cons_of_mem _ h)
  have hown : s.vm.findClass RX12 = some m.cls := findClass_of_methodNamed B.named
  have hlocks := B.notSynchronized
  subst hsz
  have hD := hD0.self (sz := s.heap.size)
  generalize hAe : va_A [(x, .inr (12, xg)), (chA, .inl (chC, (4, .inr (.inr (.inr (.inr chF)))))), (ch0, .inr (2, chg0)), (ch1, .inr (2, chg1)), (ch2, .inr (2, chg2)), (ch3, .inr (2, chg3))] s.heap.size = A at hD hth ⊢
  have hA : ∀ q : Nat, s.heap.size ≤ q → A q := fun q h => by rw [← hAe]; exact Or.inr h
  have hS : va_S A s.heap s.heap [] := va_S.rf
  have hl := lv_entry ([.ref x, .int p0, .int p1]) (n := 5) (Nat.le_of_ble_eq_true rfl)
  rw [lg_entry_eq]
  generalize (lg_sl ([.ref x, .int p0, .int p1]) ++ List.replicate (5 - (lg_sl ([.ref x, .int p0, .int p1])).length) Slot.unset).toArray = ls at hl ⊢
  have hl : lv_has ls 5 [(0, .ref x), (1, .int p0), (2, .int p1)] := hl
  have hFc := va_free (wc := [(x, .inr (12, xg)), (chA, .inl (chC, (4, .inr (.inr (.inr (.inr chF)))))), (ch0, .inr (2, chg0)), (ch1, .inr (2, chg1)), (ch2, .inr (2, chg2)), (ch3, .inr (2, chg3))]) hD hS hA [0, 1, 2, 3, 4, 5] rfl
  refine lv_aload_n hx hb dX12_chip_0 rfl (lv_at hl 0 rfl) ?_
  refine lv_iload_n hx hb dX12_chip_1 rfl (lv_at hl 1 rfl) ?_
  refine vq_thr (vx_runV (As := [.int p0]) (rest := []) ⟨hx, hb, hml, hown, hts⟩ (ct_X12_chipAt l hlt dC dI s.heap.size p0 x xg chA chC chF ch0 ch1 ch2 ch3 chg0 chg1 chg2 chg3 hchg0 hchF0 hchg1 hchF1 hchg2 hchF2 hchg3 hchF3 hxg) (cwV 1 hts (gi_V wd_1835 wd_1837 wd_64 wd_327 wd_1838) rfl rfl rfl (by decide +kernel) ⟨(Nat.le_of_ble_eq_true rfl), (Nat.le_of_ble_eq_true rfl)⟩) ⟨fun a U g mk q => by obtain ⟨q0, q1, qP, qK, qD, qT⟩ := q; exact ⟨q0, q1, qP, va_K.moved (u := U) (U := U.calling g mk a) (Vm.Alike.refl U.vm) qK, qD, th.moved (u := U) (U := U.calling g mk a) (Vm.Alike.refl U.vm) qT⟩, va_recv hK hP (ci := 12) (q0 := 0) rfl rfl, fun U hU hW => ⟨rfl, by rw [hU], by rw [hU]; exact hP, va_K.moved hW.alike hK, hD.weaken (fun _ _ _ _ => trivial), by rw [hU]; exact (hth.narrow hFc).moved hW.alike⟩⟩ rfl rfl hl.1 rfl (lv_room (Nat.le_of_ble_eq_true rfl)) dX12_chip_2 ⟨(Nat.le_of_ble_eq_true rfl), (Nat.le_of_ble_eq_true rfl)⟩) (fun _ _ _ h => h) hS hFc (fun q _ h => hFc q h) (fun E ce q9 u t H1 locs ht hvm hp hB hz hk hS hce hcv hcl => ?_)
  subst hB
  exact vx_out (fun x h9 => (ht0 x h9).elim) hlocks hce hcv hcl (fun t9 ht9 hvm9 => ⟨(), trivial, rfl, hS.F ht9⟩) hS.2.2 (Nat.le_of_ble_eq_true rfl) (Nat.le_of_ble_eq_true rfl)
set_option maxHeartbeats 4000000 in
set_option maxRecDepth 100000 in
theorem ct_X12_gate (l : Launch) (hlt : l.stackTraces = false) (dC : Nat → ClassId) (dI : Nat → Nat → Nat) (sz : Nat) (p0 p1 p2 : Int32) (x : Nat) (xg : List Value) (chA : Nat) (chC : ClassId) (chF : Nat → Option Nat) (ch0 ch1 ch2 ch3 : Nat) (chg0 chg1 chg2 chg3 : List Value) (hchg0 : fx chg0 20 [(0, .int 0)]) (hchF0 : chF 0 = some ch0) (hchg1 : fx chg1 20 [(0, .int 0)]) (hchF1 : chF 1 = some ch1) (hchg2 : fx chg2 20 [(0, .int 0)]) (hchF2 : chF 2 = some ch2) (hchg3 : fx chg3 20 [(0, .int 0)]) (hchF3 : chF 3 = some ch3) (hxg : fx xg 17 [(9, .ref chA)]) : vx_Met l yX12_gate (Cond.code yX12_gate cX12_gate 5 (some .int) :: BG) ({ frames := 8, cells := 1, slots := 6, locals := 160 }) (va_Pc [.ref x, .int p0, .int p1, .int p2] (fun U => U.heap.size = sz ∧ va_P (dC, dI) CL [(x, .inr (12, xg)), (chA, .inl (chC, (4, .inr (.inr (.inr (.inr chF)))))), (ch0, .inr (2, chg0)), (ch1, .inr (2, chg1)), (ch2, .inr (2, chg2)), (ch3, .inr (2, chg3))] U.heap ∧ va_K (dC, dI) CL [(chC, .object "ChipFlow$Chip")] U ∧ va_D (fun _ => True) [(x, .inr (12, xg)), (chA, .inl (chC, (4, .inr (.inr (.inr (.inr chF)))))), (ch0, .inr (2, chg0)), (ch1, .inr (2, chg1)), (ch2, .inr (2, chg2)), (ch3, .inr (2, chg3))] ∧ th (va_A [(x, .inr (12, xg)), (chA, .inl (chC, (4, .inr (.inr (.inr (.inr chF)))))), (ch0, .inr (2, chg0)), (ch1, .inr (2, chg1)), (ch2, .inr (2, chg2)), (ch3, .inr (2, chg3))] sz) U U.heap)) (fun _ _ _ _ => False) (vx_X (fun _ : Unit => True) (fun E _ _ => E = "java/lang/IndexOutOfBoundsException") (va_A [(x, .inr (12, xg)), (chA, .inl (chC, (4, .inr (.inr (.inr (.inr chF)))))), (ch0, .inr (2, chg0)), (ch1, .inr (2, chg1)), (ch2, .inr (2, chg2)), (ch3, .inr (2, chg3))] sz)) 1 6 (va_A [(x, .inr (12, xg)), (chA, .inl (chC, (4, .inr (.inr (.inr (.inr chF)))))), (ch0, .inr (2, chg0)), (ch1, .inr (2, chg1)), (ch2, .inr (2, chg2)), (ch3, .inr (2, chg3))] sz) := by
  refine vx_ofW (cc := cX12_gate) (maxL := 5) (ret := (some .int)) (by decide) rfl ?_
  intro p e s m args below meth c s₁ B hml ht0 hv
  obtain ⟨rfl, hsz, hP, hK, hD0, hth⟩ := hv
  have hx := B.exec
  have hb := B.bytes
  have hr := B.returns
  have hts : ∀ w ∈ BG, w.before _ s = true := fun w h => atoms_spec (ws := Cond.code yX12_gate cX12_gate 5 (some .int) :: BG) B.pre w (List.mem_cons_of_mem _ h)
  have hown : s.vm.findClass RX12 = some m.cls := findClass_of_methodNamed B.named
  have hlocks := B.notSynchronized
  subst hsz
  have hD := hD0.self (sz := s.heap.size)
  generalize hAe : va_A [(x, .inr (12, xg)), (chA, .inl (chC, (4, .inr (.inr (.inr (.inr chF)))))), (ch0, .inr (2, chg0)), (ch1, .inr (2, chg1)), (ch2, .inr (2, chg2)), (ch3, .inr (2, chg3))] s.heap.size = A at hD hth ⊢
  have hA : ∀ q : Nat, s.heap.size ≤ q → A q := fun q h => by rw [← hAe]; exact Or.inr h
  have hS : va_S A s.heap s.heap [] := va_S.rf
  have hl := lv_entry ([.ref x, .int p0, .int p1, .int p2]) (n := 5) (Nat.le_of_ble_eq_true rfl)
  rw [lg_entry_eq]
  generalize (lg_sl ([.ref x, .int p0, .int p1, .int p2]) ++ List.replicate (5 - (lg_sl ([.ref x, .int p0, .int p1, .int p2])).length) Slot.unset).toArray = ls at hl ⊢
  have hl : lv_has ls 5 [(0, .ref x), (1, .int p0), (2, .int p1), (3, .int p2)] := hl
  have hFc := va_free (wc := [(x, .inr (12, xg)), (chA, .inl (chC, (4, .inr (.inr (.inr (.inr chF)))))), (ch0, .inr (2, chg0)), (ch1, .inr (2, chg1)), (ch2, .inr (2, chg2)), (ch3, .inr (2, chg3))]) hD hS hA [0, 1, 2, 3, 4, 5] rfl
  refine lv_aload_n hx hb dX12_gate_0 rfl (lv_at hl 0 rfl) ?_
  refine lv_iload_n hx hb dX12_gate_1 rfl (lv_at hl 1 rfl) ?_
  refine vq_thr (vx_runV (As := [.int p0]) (rest := []) ⟨hx, hb, hml, hown, hts⟩ (ct_X12_chipAt l hlt dC dI s.heap.size p0 x xg chA chC chF ch0 ch1 ch2 ch3 chg0 chg1 chg2 chg3 hchg0 hchF0 hchg1 hchF1 hchg2 hchF2 hchg3 hchF3 hxg) (cwV 1 hts (gi_V wd_1835 wd_1837 wd_64 wd_327 wd_1838) rfl rfl rfl (by decide +kernel) ⟨(Nat.le_of_ble_eq_true rfl), (Nat.le_of_ble_eq_true rfl)⟩) ⟨fun a U g mk q => by obtain ⟨q0, q1, qP, qK, qD, qT⟩ := q; exact ⟨q0, q1, qP, va_K.moved (u := U) (U := U.calling g mk a) (Vm.Alike.refl U.vm) qK, qD, th.moved (u := U) (U := U.calling g mk a) (Vm.Alike.refl U.vm) qT⟩, va_recv hK hP (ci := 12) (q0 := 0) rfl rfl, fun U hU hW => ⟨rfl, by rw [hU], by rw [hU]; exact hP, va_K.moved hW.alike hK, hD.weaken (fun _ _ _ _ => trivial), by rw [hU]; exact (hth.narrow hFc).moved hW.alike⟩⟩ rfl rfl hl.1 rfl (lv_room (Nat.le_of_ble_eq_true rfl)) dX12_gate_2 ⟨(Nat.le_of_ble_eq_true rfl), (Nat.le_of_ble_eq_true rfl)⟩) (fun _ _ _ h => h) hS hFc (fun q _ h => hFc q h) (fun E ce q9 u t H1 locs ht hvm hp hB hz hk hS hce hcv hcl => ?_)
  subst hB
  exact vx_out (fun x h9 => (ht0 x h9).elim) hlocks hce hcv hcl (fun t9 ht9 hvm9 => ⟨(), trivial, rfl, hS.F ht9⟩) hS.2.2 (Nat.le_of_ble_eq_true rfl) (Nat.le_of_ble_eq_true rfl)
set_option maxHeartbeats 4000000 in
set_option maxRecDepth 100000 in
theorem ct_X12_netOf (l : Launch) (hlt : l.stackTraces = false) (dC : Nat → ClassId) (dI : Nat → Nat → Nat) (sz : Nat) (p0 p1 p2 : Int32) (x : Nat) (xg : List Value) (chA : Nat) (chC : ClassId) (chF : Nat → Option Nat) (ch0 ch1 ch2 ch3 : Nat) (chg0 chg1 chg2 chg3 : List Value) (hchg0 : fx chg0 20 [(0, .int 0)]) (hchF0 : chF 0 = some ch0) (hchg1 : fx chg1 20 [(0, .int 0)]) (hchF1 : chF 1 = some ch1) (hchg2 : fx chg2 20 [(0, .int 0)]) (hchF2 : chF 2 = some ch2) (hchg3 : fx chg3 20 [(0, .int 0)]) (hchF3 : chF 3 = some ch3) (hxg : fx xg 17 [(9, .ref chA)]) : vx_Met l yX12_netOf (Cond.code yX12_netOf cX12_netOf 5 (some .int) :: BG) ({ frames := 8, cells := 1, slots := 6, locals := 160 }) (va_Pc [.ref x, .int p0, .int p1, .int p2] (fun U => U.heap.size = sz ∧ va_P (dC, dI) CL [(x, .inr (12, xg)), (chA, .inl (chC, (4, .inr (.inr (.inr (.inr chF)))))), (ch0, .inr (2, chg0)), (ch1, .inr (2, chg1)), (ch2, .inr (2, chg2)), (ch3, .inr (2, chg3))] U.heap ∧ va_K (dC, dI) CL [(chC, .object "ChipFlow$Chip")] U ∧ va_D (fun _ => True) [(x, .inr (12, xg)), (chA, .inl (chC, (4, .inr (.inr (.inr (.inr chF)))))), (ch0, .inr (2, chg0)), (ch1, .inr (2, chg1)), (ch2, .inr (2, chg2)), (ch3, .inr (2, chg3))] ∧ th (va_A [(x, .inr (12, xg)), (chA, .inl (chC, (4, .inr (.inr (.inr (.inr chF)))))), (ch0, .inr (2, chg0)), (ch1, .inr (2, chg1)), (ch2, .inr (2, chg2)), (ch3, .inr (2, chg3))] sz) U U.heap)) (fun _ _ _ _ => False) (vx_X (fun _ : Unit => True) (fun E _ _ => E = "java/lang/IndexOutOfBoundsException") (va_A [(x, .inr (12, xg)), (chA, .inl (chC, (4, .inr (.inr (.inr (.inr chF)))))), (ch0, .inr (2, chg0)), (ch1, .inr (2, chg1)), (ch2, .inr (2, chg2)), (ch3, .inr (2, chg3))] sz)) 1 6 (va_A [(x, .inr (12, xg)), (chA, .inl (chC, (4, .inr (.inr (.inr (.inr chF)))))), (ch0, .inr (2, chg0)), (ch1, .inr (2, chg1)), (ch2, .inr (2, chg2)), (ch3, .inr (2, chg3))] sz) := by
  refine vx_ofW (cc := cX12_netOf) (maxL := 5) (ret := (some .int)) (by decide) rfl ?_
  intro p e s m args below meth c s₁ B hml ht0 hv
  obtain ⟨rfl, hsz, hP, hK, hD0, hth⟩ := hv
  have hx := B.exec
  have hb := B.bytes
  have hr := B.returns
  have hts : ∀ w ∈ BG, w.before _ s = true := fun w h => atoms_spec (ws := Cond.code yX12_netOf cX12_netOf 5 (some .int) :: BG) B.pre w (List.mem_cons_of_mem _ h)
  have hown : s.vm.findClass RX12 = some m.cls := findClass_of_methodNamed B.named
  have hlocks := B.notSynchronized
  subst hsz
  have hD := hD0.self (sz := s.heap.size)
  generalize hAe : va_A [(x, .inr (12, xg)), (chA, .inl (chC, (4, .inr (.inr (.inr (.inr chF)))))), (ch0, .inr (2, chg0)), (ch1, .inr (2, chg1)), (ch2, .inr (2, chg2)), (ch3, .inr (2, chg3))] s.heap.size = A at hD hth ⊢
  have hA : ∀ q : Nat, s.heap.size ≤ q → A q := fun q h => by rw [← hAe]; exact Or.inr h
  have hS : va_S A s.heap s.heap [] := va_S.rf
  have hl := lv_entry ([.ref x, .int p0, .int p1, .int p2]) (n := 5) (Nat.le_of_ble_eq_true rfl)
  rw [lg_entry_eq]
  generalize (lg_sl ([.ref x, .int p0, .int p1, .int p2]) ++ List.replicate (5 - (lg_sl ([.ref x, .int p0, .int p1, .int p2])).length) Slot.unset).toArray = ls at hl ⊢
  have hl : lv_has ls 5 [(0, .ref x), (1, .int p0), (2, .int p1), (3, .int p2)] := hl
  have hFc := va_free (wc := [(x, .inr (12, xg)), (chA, .inl (chC, (4, .inr (.inr (.inr (.inr chF)))))), (ch0, .inr (2, chg0)), (ch1, .inr (2, chg1)), (ch2, .inr (2, chg2)), (ch3, .inr (2, chg3))]) hD hS hA [0, 1, 2, 3, 4, 5] rfl
  refine lv_aload_n hx hb dX12_netOf_0 rfl (lv_at hl 0 rfl) ?_
  refine lv_iload_n hx hb dX12_netOf_1 rfl (lv_at hl 1 rfl) ?_
  refine vq_thr (vx_runV (As := [.int p0]) (rest := []) ⟨hx, hb, hml, hown, hts⟩ (ct_X12_chipAt l hlt dC dI s.heap.size p0 x xg chA chC chF ch0 ch1 ch2 ch3 chg0 chg1 chg2 chg3 hchg0 hchF0 hchg1 hchF1 hchg2 hchF2 hchg3 hchF3 hxg) (cwV 1 hts (gi_V wd_1835 wd_1837 wd_64 wd_327 wd_1838) rfl rfl rfl (by decide +kernel) ⟨(Nat.le_of_ble_eq_true rfl), (Nat.le_of_ble_eq_true rfl)⟩) ⟨fun a U g mk q => by obtain ⟨q0, q1, qP, qK, qD, qT⟩ := q; exact ⟨q0, q1, qP, va_K.moved (u := U) (U := U.calling g mk a) (Vm.Alike.refl U.vm) qK, qD, th.moved (u := U) (U := U.calling g mk a) (Vm.Alike.refl U.vm) qT⟩, va_recv hK hP (ci := 12) (q0 := 0) rfl rfl, fun U hU hW => ⟨rfl, by rw [hU], by rw [hU]; exact hP, va_K.moved hW.alike hK, hD.weaken (fun _ _ _ _ => trivial), by rw [hU]; exact (hth.narrow hFc).moved hW.alike⟩⟩ rfl rfl hl.1 rfl (lv_room (Nat.le_of_ble_eq_true rfl)) dX12_netOf_2 ⟨(Nat.le_of_ble_eq_true rfl), (Nat.le_of_ble_eq_true rfl)⟩) (fun _ _ _ h => h) hS hFc (fun q _ h => hFc q h) (fun E ce q9 u t H1 locs ht hvm hp hB hz hk hS hce hcv hcl => ?_)
  subst hB
  exact vx_out (fun x h9 => (ht0 x h9).elim) hlocks hce hcv hcl (fun t9 ht9 hvm9 => ⟨(), trivial, rfl, hS.F ht9⟩) hS.2.2 (Nat.le_of_ble_eq_true rfl) (Nat.le_of_ble_eq_true rfl)
set_option maxHeartbeats 4000000 in
set_option maxRecDepth 100000 in
theorem ct_X12_alter (l : Launch) (hlt : l.stackTraces = false) (dC : Nat → ClassId) (dI : Nat → Nat → Nat) (sz : Nat) (p0 p1 p2 : Int32) (x : Nat) (xg : List Value) (chA : Nat) (chC : ClassId) (chF : Nat → Option Nat) (ch0 ch1 ch2 ch3 : Nat) (chg0 chg1 chg2 chg3 : List Value) (hchg0 : fx chg0 20 [(0, .int 0)]) (hchF0 : chF 0 = some ch0) (hchg1 : fx chg1 20 [(0, .int 0)]) (hchF1 : chF 1 = some ch1) (hchg2 : fx chg2 20 [(0, .int 0)]) (hchF2 : chF 2 = some ch2) (hchg3 : fx chg3 20 [(0, .int 0)]) (hchF3 : chF 3 = some ch3) (hxg : fx xg 17 [(9, .ref chA)]) : vx_Met l yX12_alter (Cond.code yX12_alter cX12_alter 6 (some .int) :: BG) ({ frames := 8, cells := 1, slots := 6, locals := 160 }) (va_Pc [.ref x, .int p0, .int p1, .int p2] (fun U => U.heap.size = sz ∧ va_P (dC, dI) CL [(x, .inr (12, xg)), (chA, .inl (chC, (4, .inr (.inr (.inr (.inr chF)))))), (ch0, .inr (2, chg0)), (ch1, .inr (2, chg1)), (ch2, .inr (2, chg2)), (ch3, .inr (2, chg3))] U.heap ∧ va_K (dC, dI) CL [(chC, .object "ChipFlow$Chip")] U ∧ va_D (fun _ => True) [(x, .inr (12, xg)), (chA, .inl (chC, (4, .inr (.inr (.inr (.inr chF)))))), (ch0, .inr (2, chg0)), (ch1, .inr (2, chg1)), (ch2, .inr (2, chg2)), (ch3, .inr (2, chg3))] ∧ th (va_A [(x, .inr (12, xg)), (chA, .inl (chC, (4, .inr (.inr (.inr (.inr chF)))))), (ch0, .inr (2, chg0)), (ch1, .inr (2, chg1)), (ch2, .inr (2, chg2)), (ch3, .inr (2, chg3))] sz) U U.heap)) (fun _ _ _ _ => False) (vx_X (fun _ : Unit => True) (fun E _ _ => E = "java/lang/IndexOutOfBoundsException") (va_A [(x, .inr (12, xg)), (chA, .inl (chC, (4, .inr (.inr (.inr (.inr chF)))))), (ch0, .inr (2, chg0)), (ch1, .inr (2, chg1)), (ch2, .inr (2, chg2)), (ch3, .inr (2, chg3))] sz)) 1 6 (va_A [(x, .inr (12, xg)), (chA, .inl (chC, (4, .inr (.inr (.inr (.inr chF)))))), (ch0, .inr (2, chg0)), (ch1, .inr (2, chg1)), (ch2, .inr (2, chg2)), (ch3, .inr (2, chg3))] sz) := by
  refine vx_ofW (cc := cX12_alter) (maxL := 6) (ret := (some .int)) (by decide) rfl ?_
  intro p e s m args below meth c s₁ B hml ht0 hv
  obtain ⟨rfl, hsz, hP, hK, hD0, hth⟩ := hv
  have hx := B.exec
  have hb := B.bytes
  have hr := B.returns
  have hts : ∀ w ∈ BG, w.before _ s = true := fun w h => atoms_spec (ws := Cond.code yX12_alter cX12_alter 6 (some .int) :: BG) B.pre w (List.mem_cons_of_mem _ h)
  have hown : s.vm.findClass RX12 = some m.cls := findClass_of_methodNamed B.named
  have hlocks := B.notSynchronized
  subst hsz
  have hD := hD0.self (sz := s.heap.size)
  generalize hAe : va_A [(x, .inr (12, xg)), (chA, .inl (chC, (4, .inr (.inr (.inr (.inr chF)))))), (ch0, .inr (2, chg0)), (ch1, .inr (2, chg1)), (ch2, .inr (2, chg2)), (ch3, .inr (2, chg3))] s.heap.size = A at hD hth ⊢
  have hA : ∀ q : Nat, s.heap.size ≤ q → A q := fun q h => by rw [← hAe]; exact Or.inr h
  have hS : va_S A s.heap s.heap [] := va_S.rf
  have hl := lv_entry ([.ref x, .int p0, .int p1, .int p2]) (n := 6) (Nat.le_of_ble_eq_true rfl)
  rw [lg_entry_eq]
  generalize (lg_sl ([.ref x, .int p0, .int p1, .int p2]) ++ List.replicate (6 - (lg_sl ([.ref x, .int p0, .int p1, .int p2])).length) Slot.unset).toArray = ls at hl ⊢
  have hl : lv_has ls 6 [(0, .ref x), (1, .int p0), (2, .int p1), (3, .int p2)] := hl
  have hFc := va_free (wc := [(x, .inr (12, xg)), (chA, .inl (chC, (4, .inr (.inr (.inr (.inr chF)))))), (ch0, .inr (2, chg0)), (ch1, .inr (2, chg1)), (ch2, .inr (2, chg2)), (ch3, .inr (2, chg3))]) hD hS hA [0, 1, 2, 3, 4, 5] rfl
  refine lv_aload_n hx hb dX12_alter_0 rfl (lv_at hl 0 rfl) ?_
  refine lv_iload_n hx hb dX12_alter_1 rfl (lv_at hl 1 rfl) ?_
  refine vq_thr (vx_runV (As := [.int p0]) (rest := []) ⟨hx, hb, hml, hown, hts⟩ (ct_X12_chipAt l hlt dC dI s.heap.size p0 x xg chA chC chF ch0 ch1 ch2 ch3 chg0 chg1 chg2 chg3 hchg0 hchF0 hchg1 hchF1 hchg2 hchF2 hchg3 hchF3 hxg) (cwV 1 hts (gi_V wd_1835 wd_1837 wd_64 wd_327 wd_1838) rfl rfl rfl (by decide +kernel) ⟨(Nat.le_of_ble_eq_true rfl), (Nat.le_of_ble_eq_true rfl)⟩) ⟨fun a U g mk q => by obtain ⟨q0, q1, qP, qK, qD, qT⟩ := q; exact ⟨q0, q1, qP, va_K.moved (u := U) (U := U.calling g mk a) (Vm.Alike.refl U.vm) qK, qD, th.moved (u := U) (U := U.calling g mk a) (Vm.Alike.refl U.vm) qT⟩, va_recv hK hP (ci := 12) (q0 := 0) rfl rfl, fun U hU hW => ⟨rfl, by rw [hU], by rw [hU]; exact hP, va_K.moved hW.alike hK, hD.weaken (fun _ _ _ _ => trivial), by rw [hU]; exact (hth.narrow hFc).moved hW.alike⟩⟩ rfl rfl hl.1 rfl (lv_room (Nat.le_of_ble_eq_true rfl)) dX12_alter_2 ⟨(Nat.le_of_ble_eq_true rfl), (Nat.le_of_ble_eq_true rfl)⟩) (fun _ _ _ h => h) hS hFc (fun q _ h => hFc q h) (fun E ce q9 u t H1 locs ht hvm hp hB hz hk hS hce hcv hcl => ?_)
  subst hB
  exact vx_out (fun x h9 => (ht0 x h9).elim) hlocks hce hcv hcl (fun t9 ht9 hvm9 => ⟨(), trivial, rfl, hS.F ht9⟩) hS.2.2 (Nat.le_of_ble_eq_true rfl) (Nat.le_of_ble_eq_true rfl)
set_option maxHeartbeats 4000000 in
set_option maxRecDepth 100000 in
theorem ct_X12_run (l : Launch) (hlt : l.stackTraces = false) (dC : Nat → ClassId) (dI : Nat → Nat → Nat) (sz : Nat) (p0 p1 : Int32) (x : Nat) (xg : List Value) (chA : Nat) (chC : ClassId) (chF : Nat → Option Nat) (ch0 ch1 ch2 ch3 : Nat) (chg0 chg1 chg2 chg3 : List Value) (hchg0 : fx chg0 20 [(0, .int 0)]) (hchF0 : chF 0 = some ch0) (hchg1 : fx chg1 20 [(0, .int 0)]) (hchF1 : chF 1 = some ch1) (hchg2 : fx chg2 20 [(0, .int 0)]) (hchF2 : chF 2 = some ch2) (hchg3 : fx chg3 20 [(0, .int 0)]) (hchF3 : chF 3 = some ch3) (hxg : fx xg 17 [(9, .ref chA)]) : vx_Met l yX12_run (Cond.code yX12_run cX12_run 5 (some .int) :: BG) ({ frames := 8, cells := 1, slots := 6, locals := 160 }) (va_Pc [.ref x, .int p0, .int p1] (fun U => U.heap.size = sz ∧ va_P (dC, dI) CL [(x, .inr (12, xg)), (chA, .inl (chC, (4, .inr (.inr (.inr (.inr chF)))))), (ch0, .inr (2, chg0)), (ch1, .inr (2, chg1)), (ch2, .inr (2, chg2)), (ch3, .inr (2, chg3))] U.heap ∧ va_K (dC, dI) CL [(chC, .object "ChipFlow$Chip")] U ∧ va_D (fun _ => True) [(x, .inr (12, xg)), (chA, .inl (chC, (4, .inr (.inr (.inr (.inr chF)))))), (ch0, .inr (2, chg0)), (ch1, .inr (2, chg1)), (ch2, .inr (2, chg2)), (ch3, .inr (2, chg3))] ∧ th (va_A [(x, .inr (12, xg)), (chA, .inl (chC, (4, .inr (.inr (.inr (.inr chF)))))), (ch0, .inr (2, chg0)), (ch1, .inr (2, chg1)), (ch2, .inr (2, chg2)), (ch3, .inr (2, chg3))] sz) U U.heap)) (fun _ _ _ _ => False) (vx_X (fun _ : Unit => True) (fun E _ _ => E = "java/lang/IndexOutOfBoundsException") (va_A [(x, .inr (12, xg)), (chA, .inl (chC, (4, .inr (.inr (.inr (.inr chF)))))), (ch0, .inr (2, chg0)), (ch1, .inr (2, chg1)), (ch2, .inr (2, chg2)), (ch3, .inr (2, chg3))] sz)) 1 6 (va_A [(x, .inr (12, xg)), (chA, .inl (chC, (4, .inr (.inr (.inr (.inr chF)))))), (ch0, .inr (2, chg0)), (ch1, .inr (2, chg1)), (ch2, .inr (2, chg2)), (ch3, .inr (2, chg3))] sz) := by
  refine vx_ofW (cc := cX12_run) (maxL := 5) (ret := (some .int)) (by decide) rfl ?_
  intro p e s m args below meth c s₁ B hml ht0 hv
  obtain ⟨rfl, hsz, hP, hK, hD0, hth⟩ := hv
  have hx := B.exec
  have hb := B.bytes
  have hr := B.returns
  have hts : ∀ w ∈ BG, w.before _ s = true := fun w h => atoms_spec (ws := Cond.code yX12_run cX12_run 5 (some .int) :: BG) B.pre w (List.mem_cons_of_mem _ h)
  have hown : s.vm.findClass RX12 = some m.cls := findClass_of_methodNamed B.named
  have hlocks := B.notSynchronized
  subst hsz
  have hD := hD0.self (sz := s.heap.size)
  generalize hAe : va_A [(x, .inr (12, xg)), (chA, .inl (chC, (4, .inr (.inr (.inr (.inr chF)))))), (ch0, .inr (2, chg0)), (ch1, .inr (2, chg1)), (ch2, .inr (2, chg2)), (ch3, .inr (2, chg3))] s.heap.size = A at hD hth ⊢
  have hA : ∀ q : Nat, s.heap.size ≤ q → A q := fun q h => by rw [← hAe]; exact Or.inr h
  have hS : va_S A s.heap s.heap [] := va_S.rf
  have hl := lv_entry ([.ref x, .int p0, .int p1]) (n := 5) (Nat.le_of_ble_eq_true rfl)
  rw [lg_entry_eq]
  generalize (lg_sl ([.ref x, .int p0, .int p1]) ++ List.replicate (5 - (lg_sl ([.ref x, .int p0, .int p1])).length) Slot.unset).toArray = ls at hl ⊢
  have hl : lv_has ls 5 [(0, .ref x), (1, .int p0), (2, .int p1)] := hl
  have hFc := va_free (wc := [(x, .inr (12, xg)), (chA, .inl (chC, (4, .inr (.inr (.inr (.inr chF)))))), (ch0, .inr (2, chg0)), (ch1, .inr (2, chg1)), (ch2, .inr (2, chg2)), (ch3, .inr (2, chg3))]) hD hS hA [0, 1, 2, 3, 4, 5] rfl
  refine lv_aload_n hx hb dX12_run_0 rfl (lv_at hl 0 rfl) ?_
  refine lv_iload_n hx hb dX12_run_1 rfl (lv_at hl 1 rfl) ?_
  refine vq_thr (vx_runV (As := [.int p0]) (rest := []) ⟨hx, hb, hml, hown, hts⟩ (ct_X12_chipAt l hlt dC dI s.heap.size p0 x xg chA chC chF ch0 ch1 ch2 ch3 chg0 chg1 chg2 chg3 hchg0 hchF0 hchg1 hchF1 hchg2 hchF2 hchg3 hchF3 hxg) (cwV 1 hts (gi_V wd_1835 wd_1837 wd_64 wd_327 wd_1838) rfl rfl rfl (by decide +kernel) ⟨(Nat.le_of_ble_eq_true rfl), (Nat.le_of_ble_eq_true rfl)⟩) ⟨fun a U g mk q => by obtain ⟨q0, q1, qP, qK, qD, qT⟩ := q; exact ⟨q0, q1, qP, va_K.moved (u := U) (U := U.calling g mk a) (Vm.Alike.refl U.vm) qK, qD, th.moved (u := U) (U := U.calling g mk a) (Vm.Alike.refl U.vm) qT⟩, va_recv hK hP (ci := 12) (q0 := 0) rfl rfl, fun U hU hW => ⟨rfl, by rw [hU], by rw [hU]; exact hP, va_K.moved hW.alike hK, hD.weaken (fun _ _ _ _ => trivial), by rw [hU]; exact (hth.narrow hFc).moved hW.alike⟩⟩ rfl rfl hl.1 rfl (lv_room (Nat.le_of_ble_eq_true rfl)) dX12_run_2 ⟨(Nat.le_of_ble_eq_true rfl), (Nat.le_of_ble_eq_true rfl)⟩) (fun _ _ _ h => h) hS hFc (fun q _ h => hFc q h) (fun E ce q9 u t H1 locs ht hvm hp hB hz hk hS hce hcv hcl => ?_)
  subst hB
  exact vx_out (fun x h9 => (ht0 x h9).elim) hlocks hce hcv hcl (fun t9 ht9 hvm9 => ⟨(), trivial, rfl, hS.F ht9⟩) hS.2.2 (Nat.le_of_ble_eq_true rfl) (Nat.le_of_ble_eq_true rfl)
set_option maxHeartbeats 4000000 in
set_option maxRecDepth 100000 in
theorem ct_X12_reset (l : Launch) (hlt : l.stackTraces = false) (dC : Nat → ClassId) (dI : Nat → Nat → Nat) (sz : Nat) (p0 : Int32) (x : Nat) (xg : List Value) (chA : Nat) (chC : ClassId) (chF : Nat → Option Nat) (ch0 ch1 ch2 ch3 : Nat) (chg0 chg1 chg2 chg3 : List Value) (hchg0 : fx chg0 20 [(0, .int 0)]) (hchF0 : chF 0 = some ch0) (hchg1 : fx chg1 20 [(0, .int 0)]) (hchF1 : chF 1 = some ch1) (hchg2 : fx chg2 20 [(0, .int 0)]) (hchF2 : chF 2 = some ch2) (hchg3 : fx chg3 20 [(0, .int 0)]) (hchF3 : chF 3 = some ch3) (hxg : fx xg 17 [(9, .ref chA)]) : vx_Met l yX12_reset (Cond.code yX12_reset cX12_reset 4 (some .int) :: BG) ({ frames := 8, cells := 1, slots := 6, locals := 160 }) (va_Pc [.ref x, .int p0] (fun U => U.heap.size = sz ∧ va_P (dC, dI) CL [(x, .inr (12, xg)), (chA, .inl (chC, (4, .inr (.inr (.inr (.inr chF)))))), (ch0, .inr (2, chg0)), (ch1, .inr (2, chg1)), (ch2, .inr (2, chg2)), (ch3, .inr (2, chg3))] U.heap ∧ va_K (dC, dI) CL [(chC, .object "ChipFlow$Chip")] U ∧ va_D (fun _ => True) [(x, .inr (12, xg)), (chA, .inl (chC, (4, .inr (.inr (.inr (.inr chF)))))), (ch0, .inr (2, chg0)), (ch1, .inr (2, chg1)), (ch2, .inr (2, chg2)), (ch3, .inr (2, chg3))] ∧ th (va_A [(x, .inr (12, xg)), (chA, .inl (chC, (4, .inr (.inr (.inr (.inr chF)))))), (ch0, .inr (2, chg0)), (ch1, .inr (2, chg1)), (ch2, .inr (2, chg2)), (ch3, .inr (2, chg3))] sz) U U.heap)) (fun _ _ _ _ => False) (vx_X (fun _ : Unit => True) (fun E _ _ => E = "java/lang/IndexOutOfBoundsException") (va_A [(x, .inr (12, xg)), (chA, .inl (chC, (4, .inr (.inr (.inr (.inr chF)))))), (ch0, .inr (2, chg0)), (ch1, .inr (2, chg1)), (ch2, .inr (2, chg2)), (ch3, .inr (2, chg3))] sz)) 1 6 (va_A [(x, .inr (12, xg)), (chA, .inl (chC, (4, .inr (.inr (.inr (.inr chF)))))), (ch0, .inr (2, chg0)), (ch1, .inr (2, chg1)), (ch2, .inr (2, chg2)), (ch3, .inr (2, chg3))] sz) := by
  refine vx_ofW (cc := cX12_reset) (maxL := 4) (ret := (some .int)) (by decide) rfl ?_
  intro p e s m args below meth c s₁ B hml ht0 hv
  obtain ⟨rfl, hsz, hP, hK, hD0, hth⟩ := hv
  have hx := B.exec
  have hb := B.bytes
  have hr := B.returns
  have hts : ∀ w ∈ BG, w.before _ s = true := fun w h => atoms_spec (ws := Cond.code yX12_reset cX12_reset 4 (some .int) :: BG) B.pre w (List.mem_cons_of_mem _ h)
  have hown : s.vm.findClass RX12 = some m.cls := findClass_of_methodNamed B.named
  have hlocks := B.notSynchronized
  subst hsz
  have hD := hD0.self (sz := s.heap.size)
  generalize hAe : va_A [(x, .inr (12, xg)), (chA, .inl (chC, (4, .inr (.inr (.inr (.inr chF)))))), (ch0, .inr (2, chg0)), (ch1, .inr (2, chg1)), (ch2, .inr (2, chg2)), (ch3, .inr (2, chg3))] s.heap.size = A at hD hth ⊢
  have hA : ∀ q : Nat, s.heap.size ≤ q → A q := fun q h => by rw [← hAe]; exact Or.inr h
  have hS : va_S A s.heap s.heap [] := va_S.rf
  have hl := lv_entry ([.ref x, .int p0]) (n := 4) (Nat.le_of_ble_eq_true rfl)
  rw [lg_entry_eq]
  generalize (lg_sl ([.ref x, .int p0]) ++ List.replicate (4 - (lg_sl ([.ref x, .int p0])).length) Slot.unset).toArray = ls at hl ⊢
  have hl : lv_has ls 4 [(0, .ref x), (1, .int p0)] := hl
  have hFc := va_free (wc := [(x, .inr (12, xg)), (chA, .inl (chC, (4, .inr (.inr (.inr (.inr chF)))))), (ch0, .inr (2, chg0)), (ch1, .inr (2, chg1)), (ch2, .inr (2, chg2)), (ch3, .inr (2, chg3))]) hD hS hA [0, 1, 2, 3, 4, 5] rfl
  refine lv_aload_n hx hb dX12_reset_0 rfl (lv_at hl 0 rfl) ?_
  refine lv_iload_n hx hb dX12_reset_1 rfl (lv_at hl 1 rfl) ?_
  refine vq_thr (vx_runV (As := [.int p0]) (rest := []) ⟨hx, hb, hml, hown, hts⟩ (ct_X12_chipAt l hlt dC dI s.heap.size p0 x xg chA chC chF ch0 ch1 ch2 ch3 chg0 chg1 chg2 chg3 hchg0 hchF0 hchg1 hchF1 hchg2 hchF2 hchg3 hchF3 hxg) (cwV 1 hts (gi_V wd_1835 wd_1837 wd_64 wd_327 wd_1838) rfl rfl rfl (by decide +kernel) ⟨(Nat.le_of_ble_eq_true rfl), (Nat.le_of_ble_eq_true rfl)⟩) ⟨fun a U g mk q => by obtain ⟨q0, q1, qP, qK, qD, qT⟩ := q; exact ⟨q0, q1, qP, va_K.moved (u := U) (U := U.calling g mk a) (Vm.Alike.refl U.vm) qK, qD, th.moved (u := U) (U := U.calling g mk a) (Vm.Alike.refl U.vm) qT⟩, va_recv hK hP (ci := 12) (q0 := 0) rfl rfl, fun U hU hW => ⟨rfl, by rw [hU], by rw [hU]; exact hP, va_K.moved hW.alike hK, hD.weaken (fun _ _ _ _ => trivial), by rw [hU]; exact (hth.narrow hFc).moved hW.alike⟩⟩ rfl rfl hl.1 rfl (lv_room (Nat.le_of_ble_eq_true rfl)) dX12_reset_2 ⟨(Nat.le_of_ble_eq_true rfl), (Nat.le_of_ble_eq_true rfl)⟩) (fun _ _ _ h => h) hS hFc (fun q _ h => hFc q h) (fun E ce q9 u t H1 locs ht hvm hp hB hz hk hS hce hcv hcl => ?_)
  subst hB
  exact vx_out (fun x h9 => (ht0 x h9).elim) hlocks hce hcv hcl (fun t9 ht9 hvm9 => ⟨(), trivial, rfl, hS.F ht9⟩) hS.2.2 (Nat.le_of_ble_eq_true rfl) (Nat.le_of_ble_eq_true rfl)
set_option maxHeartbeats 4000000 in
set_option maxRecDepth 100000 in
theorem ct_X12_proves (l : Launch) (hlt : l.stackTraces = false) (dC : Nat → ClassId) (dI : Nat → Nat → Nat) (sz : Nat) (p0 p1 : Int32) (x : Nat) (xg : List Value) (chA : Nat) (chC : ClassId) (chF : Nat → Option Nat) (ch0 ch1 ch2 ch3 : Nat) (chg0 chg1 chg2 chg3 : List Value) (hchg0 : fx chg0 20 [(0, .int 0)]) (hchF0 : chF 0 = some ch0) (hchg1 : fx chg1 20 [(0, .int 0)]) (hchF1 : chF 1 = some ch1) (hchg2 : fx chg2 20 [(0, .int 0)]) (hchF2 : chF 2 = some ch2) (hchg3 : fx chg3 20 [(0, .int 0)]) (hchF3 : chF 3 = some ch3) (hxg : fx xg 17 [(9, .ref chA)]) : vx_Met l yX12_proves (Cond.code yX12_proves cX12_proves 5 (some .int) :: BG) ({ frames := 8, cells := 1, slots := 6, locals := 160 }) (va_Pc [.ref x, .int p0, .int p1] (fun U => U.heap.size = sz ∧ va_P (dC, dI) CL [(x, .inr (12, xg)), (chA, .inl (chC, (4, .inr (.inr (.inr (.inr chF)))))), (ch0, .inr (2, chg0)), (ch1, .inr (2, chg1)), (ch2, .inr (2, chg2)), (ch3, .inr (2, chg3))] U.heap ∧ va_K (dC, dI) CL [(chC, .object "ChipFlow$Chip")] U ∧ va_D (fun _ => True) [(x, .inr (12, xg)), (chA, .inl (chC, (4, .inr (.inr (.inr (.inr chF)))))), (ch0, .inr (2, chg0)), (ch1, .inr (2, chg1)), (ch2, .inr (2, chg2)), (ch3, .inr (2, chg3))] ∧ th (va_A [(x, .inr (12, xg)), (chA, .inl (chC, (4, .inr (.inr (.inr (.inr chF)))))), (ch0, .inr (2, chg0)), (ch1, .inr (2, chg1)), (ch2, .inr (2, chg2)), (ch3, .inr (2, chg3))] sz) U U.heap)) (fun _ _ _ _ => False) (vx_X (fun _ : Unit => True) (fun E _ _ => E = "java/lang/IndexOutOfBoundsException") (va_A [(x, .inr (12, xg)), (chA, .inl (chC, (4, .inr (.inr (.inr (.inr chF)))))), (ch0, .inr (2, chg0)), (ch1, .inr (2, chg1)), (ch2, .inr (2, chg2)), (ch3, .inr (2, chg3))] sz)) 1 6 (va_A [(x, .inr (12, xg)), (chA, .inl (chC, (4, .inr (.inr (.inr (.inr chF)))))), (ch0, .inr (2, chg0)), (ch1, .inr (2, chg1)), (ch2, .inr (2, chg2)), (ch3, .inr (2, chg3))] sz) := by
  refine vx_ofW (cc := cX12_proves) (maxL := 5) (ret := (some .int)) (by decide) rfl ?_
  intro p e s m args below meth c s₁ B hml ht0 hv
  obtain ⟨rfl, hsz, hP, hK, hD0, hth⟩ := hv
  have hx := B.exec
  have hb := B.bytes
  have hr := B.returns
  have hts : ∀ w ∈ BG, w.before _ s = true := fun w h => atoms_spec (ws := Cond.code yX12_proves cX12_proves 5 (some .int) :: BG) B.pre w (List.mem_cons_of_mem _ h)
  have hown : s.vm.findClass RX12 = some m.cls := findClass_of_methodNamed B.named
  have hlocks := B.notSynchronized
  subst hsz
  have hD := hD0.self (sz := s.heap.size)
  generalize hAe : va_A [(x, .inr (12, xg)), (chA, .inl (chC, (4, .inr (.inr (.inr (.inr chF)))))), (ch0, .inr (2, chg0)), (ch1, .inr (2, chg1)), (ch2, .inr (2, chg2)), (ch3, .inr (2, chg3))] s.heap.size = A at hD hth ⊢
  have hA : ∀ q : Nat, s.heap.size ≤ q → A q := fun q h => by rw [← hAe]; exact Or.inr h
  have hS : va_S A s.heap s.heap [] := va_S.rf
  have hl := lv_entry ([.ref x, .int p0, .int p1]) (n := 5) (Nat.le_of_ble_eq_true rfl)
  rw [lg_entry_eq]
  generalize (lg_sl ([.ref x, .int p0, .int p1]) ++ List.replicate (5 - (lg_sl ([.ref x, .int p0, .int p1])).length) Slot.unset).toArray = ls at hl ⊢
  have hl : lv_has ls 5 [(0, .ref x), (1, .int p0), (2, .int p1)] := hl
  have hFc := va_free (wc := [(x, .inr (12, xg)), (chA, .inl (chC, (4, .inr (.inr (.inr (.inr chF)))))), (ch0, .inr (2, chg0)), (ch1, .inr (2, chg1)), (ch2, .inr (2, chg2)), (ch3, .inr (2, chg3))]) hD hS hA [0, 1, 2, 3, 4, 5] rfl
  refine lv_aload_n hx hb dX12_proves_0 rfl (lv_at hl 0 rfl) ?_
  refine lv_iload_n hx hb dX12_proves_1 rfl (lv_at hl 1 rfl) ?_
  refine vq_thr (vx_runV (As := [.int p0]) (rest := []) ⟨hx, hb, hml, hown, hts⟩ (ct_X12_chipAt l hlt dC dI s.heap.size p0 x xg chA chC chF ch0 ch1 ch2 ch3 chg0 chg1 chg2 chg3 hchg0 hchF0 hchg1 hchF1 hchg2 hchF2 hchg3 hchF3 hxg) (cwV 1 hts (gi_V wd_1835 wd_1837 wd_64 wd_327 wd_1838) rfl rfl rfl (by decide +kernel) ⟨(Nat.le_of_ble_eq_true rfl), (Nat.le_of_ble_eq_true rfl)⟩) ⟨fun a U g mk q => by obtain ⟨q0, q1, qP, qK, qD, qT⟩ := q; exact ⟨q0, q1, qP, va_K.moved (u := U) (U := U.calling g mk a) (Vm.Alike.refl U.vm) qK, qD, th.moved (u := U) (U := U.calling g mk a) (Vm.Alike.refl U.vm) qT⟩, va_recv hK hP (ci := 12) (q0 := 0) rfl rfl, fun U hU hW => ⟨rfl, by rw [hU], by rw [hU]; exact hP, va_K.moved hW.alike hK, hD.weaken (fun _ _ _ _ => trivial), by rw [hU]; exact (hth.narrow hFc).moved hW.alike⟩⟩ rfl rfl hl.1 rfl (lv_room (Nat.le_of_ble_eq_true rfl)) dX12_proves_2 ⟨(Nat.le_of_ble_eq_true rfl), (Nat.le_of_ble_eq_true rfl)⟩) (fun _ _ _ h => h) hS hFc (fun q _ h => hFc q h) (fun E ce q9 u t H1 locs ht hvm hp hB hz hk hS hce hcv hcl => ?_)
  subst hB
  exact vx_out (fun x h9 => (ht0 x h9).elim) hlocks hce hcv hcl (fun t9 ht9 hvm9 => ⟨(), trivial, rfl, hS.F ht9⟩) hS.2.2 (Nat.le_of_ble_eq_true rfl) (Nat.le_of_ble_eq_true rfl)
set_option maxHeartbeats 4000000 in
set_option maxRecDepth 100000 in
theorem ct_X12_place (l : Launch) (hlt : l.stackTraces = false) (dC : Nat → ClassId) (dI : Nat → Nat → Nat) (sz : Nat) (p0 p1 : Int32) (x : Nat) (xg : List Value) (chA : Nat) (chC : ClassId) (chF : Nat → Option Nat) (ch0 ch1 ch2 ch3 : Nat) (chg0 chg1 chg2 chg3 : List Value) (hchg0 : fx chg0 20 [(0, .int 0)]) (hchF0 : chF 0 = some ch0) (hchg1 : fx chg1 20 [(0, .int 0)]) (hchF1 : chF 1 = some ch1) (hchg2 : fx chg2 20 [(0, .int 0)]) (hchF2 : chF 2 = some ch2) (hchg3 : fx chg3 20 [(0, .int 0)]) (hchF3 : chF 3 = some ch3) (hxg : fx xg 17 [(9, .ref chA)]) : vx_Met l yX12_place (Cond.code yX12_place cX12_place 4 (some .int) :: BG) ({ frames := 8, cells := 1, slots := 6, locals := 160 }) (va_Pc [.ref x, .int p0, .int p1] (fun U => U.heap.size = sz ∧ va_P (dC, dI) CL [(x, .inr (12, xg)), (chA, .inl (chC, (4, .inr (.inr (.inr (.inr chF)))))), (ch0, .inr (2, chg0)), (ch1, .inr (2, chg1)), (ch2, .inr (2, chg2)), (ch3, .inr (2, chg3))] U.heap ∧ va_K (dC, dI) CL [(chC, .object "ChipFlow$Chip")] U ∧ va_D (fun _ => True) [(x, .inr (12, xg)), (chA, .inl (chC, (4, .inr (.inr (.inr (.inr chF)))))), (ch0, .inr (2, chg0)), (ch1, .inr (2, chg1)), (ch2, .inr (2, chg2)), (ch3, .inr (2, chg3))] ∧ th (va_A [(x, .inr (12, xg)), (chA, .inl (chC, (4, .inr (.inr (.inr (.inr chF)))))), (ch0, .inr (2, chg0)), (ch1, .inr (2, chg1)), (ch2, .inr (2, chg2)), (ch3, .inr (2, chg3))] sz) U U.heap)) (fun _ _ _ _ => False) (vx_X (fun _ : Unit => True) (fun E _ _ => E = "java/lang/IndexOutOfBoundsException") (va_A [(x, .inr (12, xg)), (chA, .inl (chC, (4, .inr (.inr (.inr (.inr chF)))))), (ch0, .inr (2, chg0)), (ch1, .inr (2, chg1)), (ch2, .inr (2, chg2)), (ch3, .inr (2, chg3))] sz)) 1 6 (va_A [(x, .inr (12, xg)), (chA, .inl (chC, (4, .inr (.inr (.inr (.inr chF)))))), (ch0, .inr (2, chg0)), (ch1, .inr (2, chg1)), (ch2, .inr (2, chg2)), (ch3, .inr (2, chg3))] sz) := by
  refine vx_ofW (cc := cX12_place) (maxL := 4) (ret := (some .int)) (by decide) rfl ?_
  intro p e s m args below meth c s₁ B hml ht0 hv
  obtain ⟨rfl, hsz, hP, hK, hD0, hth⟩ := hv
  have hx := B.exec
  have hb := B.bytes
  have hr := B.returns
  have hts : ∀ w ∈ BG, w.before _ s = true := fun w h => atoms_spec (ws := Cond.code yX12_place cX12_place 4 (some .int) :: BG) B.pre w (List.mem_cons_of_mem _ h)
  have hown : s.vm.findClass RX12 = some m.cls := findClass_of_methodNamed B.named
  have hlocks := B.notSynchronized
  subst hsz
  have hD := hD0.self (sz := s.heap.size)
  generalize hAe : va_A [(x, .inr (12, xg)), (chA, .inl (chC, (4, .inr (.inr (.inr (.inr chF)))))), (ch0, .inr (2, chg0)), (ch1, .inr (2, chg1)), (ch2, .inr (2, chg2)), (ch3, .inr (2, chg3))] s.heap.size = A at hD hth ⊢
  have hA : ∀ q : Nat, s.heap.size ≤ q → A q := fun q h => by rw [← hAe]; exact Or.inr h
  have hS : va_S A s.heap s.heap [] := va_S.rf
  have hl := lv_entry ([.ref x, .int p0, .int p1]) (n := 4) (Nat.le_of_ble_eq_true rfl)
  rw [lg_entry_eq]
  generalize (lg_sl ([.ref x, .int p0, .int p1]) ++ List.replicate (4 - (lg_sl ([.ref x, .int p0, .int p1])).length) Slot.unset).toArray = ls at hl ⊢
  have hl : lv_has ls 4 [(0, .ref x), (1, .int p0), (2, .int p1)] := hl
  have hFc := va_free (wc := [(x, .inr (12, xg)), (chA, .inl (chC, (4, .inr (.inr (.inr (.inr chF)))))), (ch0, .inr (2, chg0)), (ch1, .inr (2, chg1)), (ch2, .inr (2, chg2)), (ch3, .inr (2, chg3))]) hD hS hA [0, 1, 2, 3, 4, 5] rfl
  refine lv_aload_n hx hb dX12_place_0 rfl (lv_at hl 0 rfl) ?_
  refine lv_iload_n hx hb dX12_place_1 rfl (lv_at hl 1 rfl) ?_
  refine vq_thr (vx_runV (As := [.int p0]) (rest := []) ⟨hx, hb, hml, hown, hts⟩ (ct_X12_chipAt l hlt dC dI s.heap.size p0 x xg chA chC chF ch0 ch1 ch2 ch3 chg0 chg1 chg2 chg3 hchg0 hchF0 hchg1 hchF1 hchg2 hchF2 hchg3 hchF3 hxg) (cwV 1 hts (gi_V wd_1835 wd_1837 wd_64 wd_327 wd_1838) rfl rfl rfl (by decide +kernel) ⟨(Nat.le_of_ble_eq_true rfl), (Nat.le_of_ble_eq_true rfl)⟩) ⟨fun a U g mk q => by obtain ⟨q0, q1, qP, qK, qD, qT⟩ := q; exact ⟨q0, q1, qP, va_K.moved (u := U) (U := U.calling g mk a) (Vm.Alike.refl U.vm) qK, qD, th.moved (u := U) (U := U.calling g mk a) (Vm.Alike.refl U.vm) qT⟩, va_recv hK hP (ci := 12) (q0 := 0) rfl rfl, fun U hU hW => ⟨rfl, by rw [hU], by rw [hU]; exact hP, va_K.moved hW.alike hK, hD.weaken (fun _ _ _ _ => trivial), by rw [hU]; exact (hth.narrow hFc).moved hW.alike⟩⟩ rfl rfl hl.1 rfl (lv_room (Nat.le_of_ble_eq_true rfl)) dX12_place_2 ⟨(Nat.le_of_ble_eq_true rfl), (Nat.le_of_ble_eq_true rfl)⟩) (fun _ _ _ h => h) hS hFc (fun q _ h => hFc q h) (fun E ce q9 u t H1 locs ht hvm hp hB hz hk hS hce hcv hcl => ?_)
  subst hB
  exact vx_out (fun x h9 => (ht0 x h9).elim) hlocks hce hcv hcl (fun t9 ht9 hvm9 => ⟨(), trivial, rfl, hS.F ht9⟩) hS.2.2 (Nat.le_of_ble_eq_true rfl) (Nat.le_of_ble_eq_true rfl)
set_option maxHeartbeats 4000000 in
set_option maxRecDepth 100000 in
theorem ct_X12_at (l : Launch) (hlt : l.stackTraces = false) (dC : Nat → ClassId) (dI : Nat → Nat → Nat) (sz : Nat) (p0 p1 p2 : Int32) (x : Nat) (xg : List Value) (chA : Nat) (chC : ClassId) (chF : Nat → Option Nat) (ch0 ch1 ch2 ch3 : Nat) (chg0 chg1 chg2 chg3 : List Value) (hchg0 : fx chg0 20 [(0, .int 0)]) (hchF0 : chF 0 = some ch0) (hchg1 : fx chg1 20 [(0, .int 0)]) (hchF1 : chF 1 = some ch1) (hchg2 : fx chg2 20 [(0, .int 0)]) (hchF2 : chF 2 = some ch2) (hchg3 : fx chg3 20 [(0, .int 0)]) (hchF3 : chF 3 = some ch3) (hxg : fx xg 17 [(9, .ref chA)]) : vx_Met l yX12_at (Cond.code yX12_at cX12_at 5 (some .int) :: BG) ({ frames := 8, cells := 1, slots := 6, locals := 160 }) (va_Pc [.ref x, .int p0, .int p1, .int p2] (fun U => U.heap.size = sz ∧ va_P (dC, dI) CL [(x, .inr (12, xg)), (chA, .inl (chC, (4, .inr (.inr (.inr (.inr chF)))))), (ch0, .inr (2, chg0)), (ch1, .inr (2, chg1)), (ch2, .inr (2, chg2)), (ch3, .inr (2, chg3))] U.heap ∧ va_K (dC, dI) CL [(chC, .object "ChipFlow$Chip")] U ∧ va_D (fun _ => True) [(x, .inr (12, xg)), (chA, .inl (chC, (4, .inr (.inr (.inr (.inr chF)))))), (ch0, .inr (2, chg0)), (ch1, .inr (2, chg1)), (ch2, .inr (2, chg2)), (ch3, .inr (2, chg3))] ∧ th (va_A [(x, .inr (12, xg)), (chA, .inl (chC, (4, .inr (.inr (.inr (.inr chF)))))), (ch0, .inr (2, chg0)), (ch1, .inr (2, chg1)), (ch2, .inr (2, chg2)), (ch3, .inr (2, chg3))] sz) U U.heap)) (fun _ _ _ _ => False) (vx_X (fun _ : Unit => True) (fun E _ _ => E = "java/lang/IndexOutOfBoundsException") (va_A [(x, .inr (12, xg)), (chA, .inl (chC, (4, .inr (.inr (.inr (.inr chF)))))), (ch0, .inr (2, chg0)), (ch1, .inr (2, chg1)), (ch2, .inr (2, chg2)), (ch3, .inr (2, chg3))] sz)) 1 6 (va_A [(x, .inr (12, xg)), (chA, .inl (chC, (4, .inr (.inr (.inr (.inr chF)))))), (ch0, .inr (2, chg0)), (ch1, .inr (2, chg1)), (ch2, .inr (2, chg2)), (ch3, .inr (2, chg3))] sz) := by
  refine vx_ofW (cc := cX12_at) (maxL := 5) (ret := (some .int)) (by decide) rfl ?_
  intro p e s m args below meth c s₁ B hml ht0 hv
  obtain ⟨rfl, hsz, hP, hK, hD0, hth⟩ := hv
  have hx := B.exec
  have hb := B.bytes
  have hr := B.returns
  have hts : ∀ w ∈ BG, w.before _ s = true := fun w h => atoms_spec (ws := Cond.code yX12_at cX12_at 5 (some .int) :: BG) B.pre w (List.mem_cons_of_mem _ h)
  have hown : s.vm.findClass RX12 = some m.cls := findClass_of_methodNamed B.named
  have hlocks := B.notSynchronized
  subst hsz
  have hD := hD0.self (sz := s.heap.size)
  generalize hAe : va_A [(x, .inr (12, xg)), (chA, .inl (chC, (4, .inr (.inr (.inr (.inr chF)))))), (ch0, .inr (2, chg0)), (ch1, .inr (2, chg1)), (ch2, .inr (2, chg2)), (ch3, .inr (2, chg3))] s.heap.size = A at hD hth ⊢
  have hA : ∀ q : Nat, s.heap.size ≤ q → A q := fun q h => by rw [← hAe]; exact Or.inr h
  have hS : va_S A s.heap s.heap [] := va_S.rf
  have hl := lv_entry ([.ref x, .int p0, .int p1, .int p2]) (n := 5) (Nat.le_of_ble_eq_true rfl)
  rw [lg_entry_eq]
  generalize (lg_sl ([.ref x, .int p0, .int p1, .int p2]) ++ List.replicate (5 - (lg_sl ([.ref x, .int p0, .int p1, .int p2])).length) Slot.unset).toArray = ls at hl ⊢
  have hl : lv_has ls 5 [(0, .ref x), (1, .int p0), (2, .int p1), (3, .int p2)] := hl
  have hFc := va_free (wc := [(x, .inr (12, xg)), (chA, .inl (chC, (4, .inr (.inr (.inr (.inr chF)))))), (ch0, .inr (2, chg0)), (ch1, .inr (2, chg1)), (ch2, .inr (2, chg2)), (ch3, .inr (2, chg3))]) hD hS hA [0, 1, 2, 3, 4, 5] rfl
  refine lv_aload_n hx hb dX12_at_0 rfl (lv_at hl 0 rfl) ?_
  refine lv_iload_n hx hb dX12_at_1 rfl (lv_at hl 1 rfl) ?_
  refine vq_thr (vx_runV (As := [.int p0]) (rest := []) ⟨hx, hb, hml, hown, hts⟩ (ct_X12_chipAt l hlt dC dI s.heap.size p0 x xg chA chC chF ch0 ch1 ch2 ch3 chg0 chg1 chg2 chg3 hchg0 hchF0 hchg1 hchF1 hchg2 hchF2 hchg3 hchF3 hxg) (cwV 1 hts (gi_V wd_1835 wd_1837 wd_64 wd_327 wd_1838) rfl rfl rfl (by decide +kernel) ⟨(Nat.le_of_ble_eq_true rfl), (Nat.le_of_ble_eq_true rfl)⟩) ⟨fun a U g mk q => by obtain ⟨q0, q1, qP, qK, qD, qT⟩ := q; exact ⟨q0, q1, qP, va_K.moved (u := U) (U := U.calling g mk a) (Vm.Alike.refl U.vm) qK, qD, th.moved (u := U) (U := U.calling g mk a) (Vm.Alike.refl U.vm) qT⟩, va_recv hK hP (ci := 12) (q0 := 0) rfl rfl, fun U hU hW => ⟨rfl, by rw [hU], by rw [hU]; exact hP, va_K.moved hW.alike hK, hD.weaken (fun _ _ _ _ => trivial), by rw [hU]; exact (hth.narrow hFc).moved hW.alike⟩⟩ rfl rfl hl.1 rfl (lv_room (Nat.le_of_ble_eq_true rfl)) dX12_at_2 ⟨(Nat.le_of_ble_eq_true rfl), (Nat.le_of_ble_eq_true rfl)⟩) (fun _ _ _ h => h) hS hFc (fun q _ h => hFc q h) (fun E ce q9 u t H1 locs ht hvm hp hB hz hk hS hce hcv hcl => ?_)
  subst hB
  exact vx_out (fun x h9 => (ht0 x h9).elim) hlocks hce hcv hcl (fun t9 ht9 hvm9 => ⟨(), trivial, rfl, hS.F ht9⟩) hS.2.2 (Nat.le_of_ble_eq_true rfl) (Nat.le_of_ble_eq_true rfl)
set_option maxHeartbeats 4000000 in
set_option maxRecDepth 100000 in
theorem ct_X12_move (l : Launch) (hlt : l.stackTraces = false) (dC : Nat → ClassId) (dI : Nat → Nat → Nat) (sz : Nat) (p0 p1 p2 p3 : Int32) (x : Nat) (xg : List Value) (chA : Nat) (chC : ClassId) (chF : Nat → Option Nat) (ch0 ch1 ch2 ch3 : Nat) (chg0 chg1 chg2 chg3 : List Value) (hchg0 : fx chg0 20 [(0, .int 0)]) (hchF0 : chF 0 = some ch0) (hchg1 : fx chg1 20 [(0, .int 0)]) (hchF1 : chF 1 = some ch1) (hchg2 : fx chg2 20 [(0, .int 0)]) (hchF2 : chF 2 = some ch2) (hchg3 : fx chg3 20 [(0, .int 0)]) (hchF3 : chF 3 = some ch3) (hxg : fx xg 17 [(9, .ref chA)]) : vx_Met l yX12_move (Cond.code yX12_move cX12_move 6 (some .boolean) :: BG) ({ frames := 8, cells := 1, slots := 6, locals := 160 }) (va_Pc [.ref x, .int p0, .int p1, .int p2, .int p3] (fun U => U.heap.size = sz ∧ va_P (dC, dI) CL [(x, .inr (12, xg)), (chA, .inl (chC, (4, .inr (.inr (.inr (.inr chF)))))), (ch0, .inr (2, chg0)), (ch1, .inr (2, chg1)), (ch2, .inr (2, chg2)), (ch3, .inr (2, chg3))] U.heap ∧ va_K (dC, dI) CL [(chC, .object "ChipFlow$Chip")] U ∧ va_D (fun _ => True) [(x, .inr (12, xg)), (chA, .inl (chC, (4, .inr (.inr (.inr (.inr chF)))))), (ch0, .inr (2, chg0)), (ch1, .inr (2, chg1)), (ch2, .inr (2, chg2)), (ch3, .inr (2, chg3))] ∧ th (va_A [(x, .inr (12, xg)), (chA, .inl (chC, (4, .inr (.inr (.inr (.inr chF)))))), (ch0, .inr (2, chg0)), (ch1, .inr (2, chg1)), (ch2, .inr (2, chg2)), (ch3, .inr (2, chg3))] sz) U U.heap)) (fun _ _ _ _ => False) (vx_X (fun _ : Unit => True) (fun E _ _ => E = "java/lang/IndexOutOfBoundsException") (va_A [(x, .inr (12, xg)), (chA, .inl (chC, (4, .inr (.inr (.inr (.inr chF)))))), (ch0, .inr (2, chg0)), (ch1, .inr (2, chg1)), (ch2, .inr (2, chg2)), (ch3, .inr (2, chg3))] sz)) 1 6 (va_A [(x, .inr (12, xg)), (chA, .inl (chC, (4, .inr (.inr (.inr (.inr chF)))))), (ch0, .inr (2, chg0)), (ch1, .inr (2, chg1)), (ch2, .inr (2, chg2)), (ch3, .inr (2, chg3))] sz) := by
  refine vx_ofW (cc := cX12_move) (maxL := 6) (ret := (some .boolean)) (by decide) rfl ?_
  intro p e s m args below meth c s₁ B hml ht0 hv
  obtain ⟨rfl, hsz, hP, hK, hD0, hth⟩ := hv
  have hx := B.exec
  have hb := B.bytes
  have hr := B.returns
  have hts : ∀ w ∈ BG, w.before _ s = true := fun w h => atoms_spec (ws := Cond.code yX12_move cX12_move 6 (some .boolean) :: BG) B.pre w (List.mem_cons_of_mem _ h)
  have hown : s.vm.findClass RX12 = some m.cls := findClass_of_methodNamed B.named
  have hlocks := B.notSynchronized
  subst hsz
  have hD := hD0.self (sz := s.heap.size)
  generalize hAe : va_A [(x, .inr (12, xg)), (chA, .inl (chC, (4, .inr (.inr (.inr (.inr chF)))))), (ch0, .inr (2, chg0)), (ch1, .inr (2, chg1)), (ch2, .inr (2, chg2)), (ch3, .inr (2, chg3))] s.heap.size = A at hD hth ⊢
  have hA : ∀ q : Nat, s.heap.size ≤ q → A q := fun q h => by rw [← hAe]; exact Or.inr h
  have hS : va_S A s.heap s.heap [] := va_S.rf
  have hl := lv_entry ([.ref x, .int p0, .int p1, .int p2, .int p3]) (n := 6) (Nat.le_of_ble_eq_true rfl)
  rw [lg_entry_eq]
  generalize (lg_sl ([.ref x, .int p0, .int p1, .int p2, .int p3]) ++ List.replicate (6 - (lg_sl ([.ref x, .int p0, .int p1, .int p2, .int p3])).length) Slot.unset).toArray = ls at hl ⊢
  have hl : lv_has ls 6 [(0, .ref x), (1, .int p0), (2, .int p1), (3, .int p2), (4, .int p3)] := hl
  have hFc := va_free (wc := [(x, .inr (12, xg)), (chA, .inl (chC, (4, .inr (.inr (.inr (.inr chF)))))), (ch0, .inr (2, chg0)), (ch1, .inr (2, chg1)), (ch2, .inr (2, chg2)), (ch3, .inr (2, chg3))]) hD hS hA [0, 1, 2, 3, 4, 5] rfl
  refine lv_aload_n hx hb dX12_move_0 rfl (lv_at hl 0 rfl) ?_
  refine lv_iload_n hx hb dX12_move_1 rfl (lv_at hl 1 rfl) ?_
  refine vq_thr (vx_runV (As := [.int p0]) (rest := []) ⟨hx, hb, hml, hown, hts⟩ (ct_X12_chipAt l hlt dC dI s.heap.size p0 x xg chA chC chF ch0 ch1 ch2 ch3 chg0 chg1 chg2 chg3 hchg0 hchF0 hchg1 hchF1 hchg2 hchF2 hchg3 hchF3 hxg) (cwV 1 hts (gi_V wd_1835 wd_1837 wd_64 wd_327 wd_1838) rfl rfl rfl (by decide +kernel) ⟨(Nat.le_of_ble_eq_true rfl), (Nat.le_of_ble_eq_true rfl)⟩) ⟨fun a U g mk q => by obtain ⟨q0, q1, qP, qK, qD, qT⟩ := q; exact ⟨q0, q1, qP, va_K.moved (u := U) (U := U.calling g mk a) (Vm.Alike.refl U.vm) qK, qD, th.moved (u := U) (U := U.calling g mk a) (Vm.Alike.refl U.vm) qT⟩, va_recv hK hP (ci := 12) (q0 := 0) rfl rfl, fun U hU hW => ⟨rfl, by rw [hU], by rw [hU]; exact hP, va_K.moved hW.alike hK, hD.weaken (fun _ _ _ _ => trivial), by rw [hU]; exact (hth.narrow hFc).moved hW.alike⟩⟩ rfl rfl hl.1 rfl (lv_room (Nat.le_of_ble_eq_true rfl)) dX12_move_2 ⟨(Nat.le_of_ble_eq_true rfl), (Nat.le_of_ble_eq_true rfl)⟩) (fun _ _ _ h => h) hS hFc (fun q _ h => hFc q h) (fun E ce q9 u t H1 locs ht hvm hp hB hz hk hS hce hcv hcl => ?_)
  subst hB
  exact vx_out (fun x h9 => (ht0 x h9).elim) hlocks hce hcv hcl (fun t9 ht9 hvm9 => ⟨(), trivial, rfl, hS.F ht9⟩) hS.2.2 (Nat.le_of_ble_eq_true rfl) (Nat.le_of_ble_eq_true rfl)
set_option maxHeartbeats 4000000 in
set_option maxRecDepth 100000 in
theorem ct_X12_improve (l : Launch) (hlt : l.stackTraces = false) (dC : Nat → ClassId) (dI : Nat → Nat → Nat) (sz : Nat) (p0 p1 : Int32) (x : Nat) (xg : List Value) (chA : Nat) (chC : ClassId) (chF : Nat → Option Nat) (ch0 ch1 ch2 ch3 : Nat) (chg0 chg1 chg2 chg3 : List Value) (hchg0 : fx chg0 20 [(0, .int 0)]) (hchF0 : chF 0 = some ch0) (hchg1 : fx chg1 20 [(0, .int 0)]) (hchF1 : chF 1 = some ch1) (hchg2 : fx chg2 20 [(0, .int 0)]) (hchF2 : chF 2 = some ch2) (hchg3 : fx chg3 20 [(0, .int 0)]) (hchF3 : chF 3 = some ch3) (hxg : fx xg 17 [(9, .ref chA)]) : vx_Met l yX12_improve (Cond.code yX12_improve cX12_improve 4 (some .int) :: BG) ({ frames := 8, cells := 1, slots := 6, locals := 160 }) (va_Pc [.ref x, .int p0, .int p1] (fun U => U.heap.size = sz ∧ va_P (dC, dI) CL [(x, .inr (12, xg)), (chA, .inl (chC, (4, .inr (.inr (.inr (.inr chF)))))), (ch0, .inr (2, chg0)), (ch1, .inr (2, chg1)), (ch2, .inr (2, chg2)), (ch3, .inr (2, chg3))] U.heap ∧ va_K (dC, dI) CL [(chC, .object "ChipFlow$Chip")] U ∧ va_D (fun _ => True) [(x, .inr (12, xg)), (chA, .inl (chC, (4, .inr (.inr (.inr (.inr chF)))))), (ch0, .inr (2, chg0)), (ch1, .inr (2, chg1)), (ch2, .inr (2, chg2)), (ch3, .inr (2, chg3))] ∧ th (va_A [(x, .inr (12, xg)), (chA, .inl (chC, (4, .inr (.inr (.inr (.inr chF)))))), (ch0, .inr (2, chg0)), (ch1, .inr (2, chg1)), (ch2, .inr (2, chg2)), (ch3, .inr (2, chg3))] sz) U U.heap)) (fun _ _ _ _ => False) (vx_X (fun _ : Unit => True) (fun E _ _ => E = "java/lang/IndexOutOfBoundsException") (va_A [(x, .inr (12, xg)), (chA, .inl (chC, (4, .inr (.inr (.inr (.inr chF)))))), (ch0, .inr (2, chg0)), (ch1, .inr (2, chg1)), (ch2, .inr (2, chg2)), (ch3, .inr (2, chg3))] sz)) 1 6 (va_A [(x, .inr (12, xg)), (chA, .inl (chC, (4, .inr (.inr (.inr (.inr chF)))))), (ch0, .inr (2, chg0)), (ch1, .inr (2, chg1)), (ch2, .inr (2, chg2)), (ch3, .inr (2, chg3))] sz) := by
  refine vx_ofW (cc := cX12_improve) (maxL := 4) (ret := (some .int)) (by decide) rfl ?_
  intro p e s m args below meth c s₁ B hml ht0 hv
  obtain ⟨rfl, hsz, hP, hK, hD0, hth⟩ := hv
  have hx := B.exec
  have hb := B.bytes
  have hr := B.returns
  have hts : ∀ w ∈ BG, w.before _ s = true := fun w h => atoms_spec (ws := Cond.code yX12_improve cX12_improve 4 (some .int) :: BG) B.pre w (List.mem_cons_of_mem _ h)
  have hown : s.vm.findClass RX12 = some m.cls := findClass_of_methodNamed B.named
  have hlocks := B.notSynchronized
  subst hsz
  have hD := hD0.self (sz := s.heap.size)
  generalize hAe : va_A [(x, .inr (12, xg)), (chA, .inl (chC, (4, .inr (.inr (.inr (.inr chF)))))), (ch0, .inr (2, chg0)), (ch1, .inr (2, chg1)), (ch2, .inr (2, chg2)), (ch3, .inr (2, chg3))] s.heap.size = A at hD hth ⊢
  have hA : ∀ q : Nat, s.heap.size ≤ q → A q := fun q h => by rw [← hAe]; exact Or.inr h
  have hS : va_S A s.heap s.heap [] := va_S.rf
  have hl := lv_entry ([.ref x, .int p0, .int p1]) (n := 4) (Nat.le_of_ble_eq_true rfl)
  rw [lg_entry_eq]
  generalize (lg_sl ([.ref x, .int p0, .int p1]) ++ List.replicate (4 - (lg_sl ([.ref x, .int p0, .int p1])).length) Slot.unset).toArray = ls at hl ⊢
  have hl : lv_has ls 4 [(0, .ref x), (1, .int p0), (2, .int p1)] := hl
  have hFc := va_free (wc := [(x, .inr (12, xg)), (chA, .inl (chC, (4, .inr (.inr (.inr (.inr chF)))))), (ch0, .inr (2, chg0)), (ch1, .inr (2, chg1)), (ch2, .inr (2, chg2)), (ch3, .inr (2, chg3))]) hD hS hA [0, 1, 2, 3, 4, 5] rfl
  refine lv_aload_n hx hb dX12_improve_0 rfl (lv_at hl 0 rfl) ?_
  refine lv_iload_n hx hb dX12_improve_1 rfl (lv_at hl 1 rfl) ?_
  refine vq_thr (vx_runV (As := [.int p0]) (rest := []) ⟨hx, hb, hml, hown, hts⟩ (ct_X12_chipAt l hlt dC dI s.heap.size p0 x xg chA chC chF ch0 ch1 ch2 ch3 chg0 chg1 chg2 chg3 hchg0 hchF0 hchg1 hchF1 hchg2 hchF2 hchg3 hchF3 hxg) (cwV 1 hts (gi_V wd_1835 wd_1837 wd_64 wd_327 wd_1838) rfl rfl rfl (by decide +kernel) ⟨(Nat.le_of_ble_eq_true rfl), (Nat.le_of_ble_eq_true rfl)⟩) ⟨fun a U g mk q => by obtain ⟨q0, q1, qP, qK, qD, qT⟩ := q; exact ⟨q0, q1, qP, va_K.moved (u := U) (U := U.calling g mk a) (Vm.Alike.refl U.vm) qK, qD, th.moved (u := U) (U := U.calling g mk a) (Vm.Alike.refl U.vm) qT⟩, va_recv hK hP (ci := 12) (q0 := 0) rfl rfl, fun U hU hW => ⟨rfl, by rw [hU], by rw [hU]; exact hP, va_K.moved hW.alike hK, hD.weaken (fun _ _ _ _ => trivial), by rw [hU]; exact (hth.narrow hFc).moved hW.alike⟩⟩ rfl rfl hl.1 rfl (lv_room (Nat.le_of_ble_eq_true rfl)) dX12_improve_2 ⟨(Nat.le_of_ble_eq_true rfl), (Nat.le_of_ble_eq_true rfl)⟩) (fun _ _ _ h => h) hS hFc (fun q _ h => hFc q h) (fun E ce q9 u t H1 locs ht hvm hp hB hz hk hS hce hcv hcl => ?_)
  subst hB
  exact vx_out (fun x h9 => (ht0 x h9).elim) hlocks hce hcv hcl (fun t9 ht9 hvm9 => ⟨(), trivial, rfl, hS.F ht9⟩) hS.2.2 (Nat.le_of_ble_eq_true rfl) (Nat.le_of_ble_eq_true rfl)
set_option maxHeartbeats 4000000 in
set_option maxRecDepth 100000 in
theorem ct_X12_wire (l : Launch) (hlt : l.stackTraces = false) (dC : Nat → ClassId) (dI : Nat → Nat → Nat) (sz : Nat) (p0 p1 : Int32) (x : Nat) (xg : List Value) (chA : Nat) (chC : ClassId) (chF : Nat → Option Nat) (ch0 ch1 ch2 ch3 : Nat) (chg0 chg1 chg2 chg3 : List Value) (hchg0 : fx chg0 20 [(0, .int 0)]) (hchF0 : chF 0 = some ch0) (hchg1 : fx chg1 20 [(0, .int 0)]) (hchF1 : chF 1 = some ch1) (hchg2 : fx chg2 20 [(0, .int 0)]) (hchF2 : chF 2 = some ch2) (hchg3 : fx chg3 20 [(0, .int 0)]) (hchF3 : chF 3 = some ch3) (hxg : fx xg 17 [(9, .ref chA)]) : vx_Met l yX12_wire (Cond.code yX12_wire cX12_wire 4 (some .int) :: BG) ({ frames := 8, cells := 1, slots := 6, locals := 160 }) (va_Pc [.ref x, .int p0, .int p1] (fun U => U.heap.size = sz ∧ va_P (dC, dI) CL [(x, .inr (12, xg)), (chA, .inl (chC, (4, .inr (.inr (.inr (.inr chF)))))), (ch0, .inr (2, chg0)), (ch1, .inr (2, chg1)), (ch2, .inr (2, chg2)), (ch3, .inr (2, chg3))] U.heap ∧ va_K (dC, dI) CL [(chC, .object "ChipFlow$Chip")] U ∧ va_D (fun _ => True) [(x, .inr (12, xg)), (chA, .inl (chC, (4, .inr (.inr (.inr (.inr chF)))))), (ch0, .inr (2, chg0)), (ch1, .inr (2, chg1)), (ch2, .inr (2, chg2)), (ch3, .inr (2, chg3))] ∧ th (va_A [(x, .inr (12, xg)), (chA, .inl (chC, (4, .inr (.inr (.inr (.inr chF)))))), (ch0, .inr (2, chg0)), (ch1, .inr (2, chg1)), (ch2, .inr (2, chg2)), (ch3, .inr (2, chg3))] sz) U U.heap)) (fun _ _ _ _ => False) (vx_X (fun _ : Unit => True) (fun E _ _ => E = "java/lang/IndexOutOfBoundsException") (va_A [(x, .inr (12, xg)), (chA, .inl (chC, (4, .inr (.inr (.inr (.inr chF)))))), (ch0, .inr (2, chg0)), (ch1, .inr (2, chg1)), (ch2, .inr (2, chg2)), (ch3, .inr (2, chg3))] sz)) 1 6 (va_A [(x, .inr (12, xg)), (chA, .inl (chC, (4, .inr (.inr (.inr (.inr chF)))))), (ch0, .inr (2, chg0)), (ch1, .inr (2, chg1)), (ch2, .inr (2, chg2)), (ch3, .inr (2, chg3))] sz) := by
  refine vx_ofW (cc := cX12_wire) (maxL := 4) (ret := (some .int)) (by decide) rfl ?_
  intro p e s m args below meth c s₁ B hml ht0 hv
  obtain ⟨rfl, hsz, hP, hK, hD0, hth⟩ := hv
  have hx := B.exec
  have hb := B.bytes
  have hr := B.returns
  have hts : ∀ w ∈ BG, w.before _ s = true := fun w h => atoms_spec (ws := Cond.code yX12_wire cX12_wire 4 (some .int) :: BG) B.pre w (List.mem_cons_of_mem _ h)
  have hown : s.vm.findClass RX12 = some m.cls := findClass_of_methodNamed B.named
  have hlocks := B.notSynchronized
  subst hsz
  have hD := hD0.self (sz := s.heap.size)
  generalize hAe : va_A [(x, .inr (12, xg)), (chA, .inl (chC, (4, .inr (.inr (.inr (.inr chF)))))), (ch0, .inr (2, chg0)), (ch1, .inr (2, chg1)), (ch2, .inr (2, chg2)), (ch3, .inr (2, chg3))] s.heap.size = A at hD hth ⊢
  have hA : ∀ q : Nat, s.heap.size ≤ q → A q := fun q h => by rw [← hAe]; exact Or.inr h
  have hS : va_S A s.heap s.heap [] := va_S.rf
  have hl := lv_entry ([.ref x, .int p0, .int p1]) (n := 4) (Nat.le_of_ble_eq_true rfl)
  rw [lg_entry_eq]
  generalize (lg_sl ([.ref x, .int p0, .int p1]) ++ List.replicate (4 - (lg_sl ([.ref x, .int p0, .int p1])).length) Slot.unset).toArray = ls at hl ⊢
  have hl : lv_has ls 4 [(0, .ref x), (1, .int p0), (2, .int p1)] := hl
  have hFc := va_free (wc := [(x, .inr (12, xg)), (chA, .inl (chC, (4, .inr (.inr (.inr (.inr chF)))))), (ch0, .inr (2, chg0)), (ch1, .inr (2, chg1)), (ch2, .inr (2, chg2)), (ch3, .inr (2, chg3))]) hD hS hA [0, 1, 2, 3, 4, 5] rfl
  refine lv_aload_n hx hb dX12_wire_0 rfl (lv_at hl 0 rfl) ?_
  refine lv_iload_n hx hb dX12_wire_1 rfl (lv_at hl 1 rfl) ?_
  refine vq_thr (vx_runV (As := [.int p0]) (rest := []) ⟨hx, hb, hml, hown, hts⟩ (ct_X12_chipAt l hlt dC dI s.heap.size p0 x xg chA chC chF ch0 ch1 ch2 ch3 chg0 chg1 chg2 chg3 hchg0 hchF0 hchg1 hchF1 hchg2 hchF2 hchg3 hchF3 hxg) (cwV 1 hts (gi_V wd_1835 wd_1837 wd_64 wd_327 wd_1838) rfl rfl rfl (by decide +kernel) ⟨(Nat.le_of_ble_eq_true rfl), (Nat.le_of_ble_eq_true rfl)⟩) ⟨fun a U g mk q => by obtain ⟨q0, q1, qP, qK, qD, qT⟩ := q; exact ⟨q0, q1, qP, va_K.moved (u := U) (U := U.calling g mk a) (Vm.Alike.refl U.vm) qK, qD, th.moved (u := U) (U := U.calling g mk a) (Vm.Alike.refl U.vm) qT⟩, va_recv hK hP (ci := 12) (q0 := 0) rfl rfl, fun U hU hW => ⟨rfl, by rw [hU], by rw [hU]; exact hP, va_K.moved hW.alike hK, hD.weaken (fun _ _ _ _ => trivial), by rw [hU]; exact (hth.narrow hFc).moved hW.alike⟩⟩ rfl rfl hl.1 rfl (lv_room (Nat.le_of_ble_eq_true rfl)) dX12_wire_2 ⟨(Nat.le_of_ble_eq_true rfl), (Nat.le_of_ble_eq_true rfl)⟩) (fun _ _ _ h => h) hS hFc (fun q _ h => hFc q h) (fun E ce q9 u t H1 locs ht hvm hp hB hz hk hS hce hcv hcl => ?_)
  subst hB
  exact vx_out (fun x h9 => (ht0 x h9).elim) hlocks hce hcv hcl (fun t9 ht9 hvm9 => ⟨(), trivial, rfl, hS.F ht9⟩) hS.2.2 (Nat.le_of_ble_eq_true rfl) (Nat.le_of_ble_eq_true rfl)
set_option maxHeartbeats 4000000 in
set_option maxRecDepth 100000 in
theorem ct_X12_route (l : Launch) (hlt : l.stackTraces = false) (dC : Nat → ClassId) (dI : Nat → Nat → Nat) (sz : Nat) (p0 p1 : Int32) (x : Nat) (xg : List Value) (chA : Nat) (chC : ClassId) (chF : Nat → Option Nat) (ch0 ch1 ch2 ch3 : Nat) (chg0 chg1 chg2 chg3 : List Value) (hchg0 : fx chg0 20 [(0, .int 0)]) (hchF0 : chF 0 = some ch0) (hchg1 : fx chg1 20 [(0, .int 0)]) (hchF1 : chF 1 = some ch1) (hchg2 : fx chg2 20 [(0, .int 0)]) (hchF2 : chF 2 = some ch2) (hchg3 : fx chg3 20 [(0, .int 0)]) (hchF3 : chF 3 = some ch3) (hxg : fx xg 17 [(9, .ref chA)]) : vx_Met l yX12_route (Cond.code yX12_route cX12_route 4 (some .int) :: BG) ({ frames := 8, cells := 1, slots := 6, locals := 160 }) (va_Pc [.ref x, .int p0, .int p1] (fun U => U.heap.size = sz ∧ va_P (dC, dI) CL [(x, .inr (12, xg)), (chA, .inl (chC, (4, .inr (.inr (.inr (.inr chF)))))), (ch0, .inr (2, chg0)), (ch1, .inr (2, chg1)), (ch2, .inr (2, chg2)), (ch3, .inr (2, chg3))] U.heap ∧ va_K (dC, dI) CL [(chC, .object "ChipFlow$Chip")] U ∧ va_D (fun _ => True) [(x, .inr (12, xg)), (chA, .inl (chC, (4, .inr (.inr (.inr (.inr chF)))))), (ch0, .inr (2, chg0)), (ch1, .inr (2, chg1)), (ch2, .inr (2, chg2)), (ch3, .inr (2, chg3))] ∧ th (va_A [(x, .inr (12, xg)), (chA, .inl (chC, (4, .inr (.inr (.inr (.inr chF)))))), (ch0, .inr (2, chg0)), (ch1, .inr (2, chg1)), (ch2, .inr (2, chg2)), (ch3, .inr (2, chg3))] sz) U U.heap)) (fun _ _ _ _ => False) (vx_X (fun _ : Unit => True) (fun E _ _ => E = "java/lang/IndexOutOfBoundsException") (va_A [(x, .inr (12, xg)), (chA, .inl (chC, (4, .inr (.inr (.inr (.inr chF)))))), (ch0, .inr (2, chg0)), (ch1, .inr (2, chg1)), (ch2, .inr (2, chg2)), (ch3, .inr (2, chg3))] sz)) 1 6 (va_A [(x, .inr (12, xg)), (chA, .inl (chC, (4, .inr (.inr (.inr (.inr chF)))))), (ch0, .inr (2, chg0)), (ch1, .inr (2, chg1)), (ch2, .inr (2, chg2)), (ch3, .inr (2, chg3))] sz) := by
  refine vx_ofW (cc := cX12_route) (maxL := 4) (ret := (some .int)) (by decide) rfl ?_
  intro p e s m args below meth c s₁ B hml ht0 hv
  obtain ⟨rfl, hsz, hP, hK, hD0, hth⟩ := hv
  have hx := B.exec
  have hb := B.bytes
  have hr := B.returns
  have hts : ∀ w ∈ BG, w.before _ s = true := fun w h => atoms_spec (ws := Cond.code yX12_route cX12_route 4 (some .int) :: BG) B.pre w (List.mem_cons_of_mem _ h)
  have hown : s.vm.findClass RX12 = some m.cls := findClass_of_methodNamed B.named
  have hlocks := B.notSynchronized
  subst hsz
  have hD := hD0.self (sz := s.heap.size)
  generalize hAe : va_A [(x, .inr (12, xg)), (chA, .inl (chC, (4, .inr (.inr (.inr (.inr chF)))))), (ch0, .inr (2, chg0)), (ch1, .inr (2, chg1)), (ch2, .inr (2, chg2)), (ch3, .inr (2, chg3))] s.heap.size = A at hD hth ⊢
  have hA : ∀ q : Nat, s.heap.size ≤ q → A q := fun q h => by rw [← hAe]; exact Or.inr h
  have hS : va_S A s.heap s.heap [] := va_S.rf
  have hl := lv_entry ([.ref x, .int p0, .int p1]) (n := 4) (Nat.le_of_ble_eq_true rfl)
  rw [lg_entry_eq]
  generalize (lg_sl ([.ref x, .int p0, .int p1]) ++ List.replicate (4 - (lg_sl ([.ref x, .int p0, .int p1])).length) Slot.unset).toArray = ls at hl ⊢
  have hl : lv_has ls 4 [(0, .ref x), (1, .int p0), (2, .int p1)] := hl
  have hFc := va_free (wc := [(x, .inr (12, xg)), (chA, .inl (chC, (4, .inr (.inr (.inr (.inr chF)))))), (ch0, .inr (2, chg0)), (ch1, .inr (2, chg1)), (ch2, .inr (2, chg2)), (ch3, .inr (2, chg3))]) hD hS hA [0, 1, 2, 3, 4, 5] rfl
  refine lv_aload_n hx hb dX12_route_0 rfl (lv_at hl 0 rfl) ?_
  refine lv_iload_n hx hb dX12_route_1 rfl (lv_at hl 1 rfl) ?_
  refine vq_thr (vx_runV (As := [.int p0]) (rest := []) ⟨hx, hb, hml, hown, hts⟩ (ct_X12_chipAt l hlt dC dI s.heap.size p0 x xg chA chC chF ch0 ch1 ch2 ch3 chg0 chg1 chg2 chg3 hchg0 hchF0 hchg1 hchF1 hchg2 hchF2 hchg3 hchF3 hxg) (cwV 1 hts (gi_V wd_1835 wd_1837 wd_64 wd_327 wd_1838) rfl rfl rfl (by decide +kernel) ⟨(Nat.le_of_ble_eq_true rfl), (Nat.le_of_ble_eq_true rfl)⟩) ⟨fun a U g mk q => by obtain ⟨q0, q1, qP, qK, qD, qT⟩ := q; exact ⟨q0, q1, qP, va_K.moved (u := U) (U := U.calling g mk a) (Vm.Alike.refl U.vm) qK, qD, th.moved (u := U) (U := U.calling g mk a) (Vm.Alike.refl U.vm) qT⟩, va_recv hK hP (ci := 12) (q0 := 0) rfl rfl, fun U hU hW => ⟨rfl, by rw [hU], by rw [hU]; exact hP, va_K.moved hW.alike hK, hD.weaken (fun _ _ _ _ => trivial), by rw [hU]; exact (hth.narrow hFc).moved hW.alike⟩⟩ rfl rfl hl.1 rfl (lv_room (Nat.le_of_ble_eq_true rfl)) dX12_route_2 ⟨(Nat.le_of_ble_eq_true rfl), (Nat.le_of_ble_eq_true rfl)⟩) (fun _ _ _ h => h) hS hFc (fun q _ h => hFc q h) (fun E ce q9 u t H1 locs ht hvm hp hB hz hk hS hce hcv hcl => ?_)
  subst hB
  exact vx_out (fun x h9 => (ht0 x h9).elim) hlocks hce hcv hcl (fun t9 ht9 hvm9 => ⟨(), trivial, rfl, hS.F ht9⟩) hS.2.2 (Nat.le_of_ble_eq_true rfl) (Nat.le_of_ble_eq_true rfl)
set_option maxHeartbeats 4000000 in
set_option maxRecDepth 100000 in
theorem ct_X12_point (l : Launch) (hlt : l.stackTraces = false) (dC : Nat → ClassId) (dI : Nat → Nat → Nat) (sz : Nat) (p0 p1 : Int32) (x : Nat) (xg : List Value) (chA : Nat) (chC : ClassId) (chF : Nat → Option Nat) (ch0 ch1 ch2 ch3 : Nat) (chg0 chg1 chg2 chg3 : List Value) (hchg0 : fx chg0 20 [(0, .int 0)]) (hchF0 : chF 0 = some ch0) (hchg1 : fx chg1 20 [(0, .int 0)]) (hchF1 : chF 1 = some ch1) (hchg2 : fx chg2 20 [(0, .int 0)]) (hchF2 : chF 2 = some ch2) (hchg3 : fx chg3 20 [(0, .int 0)]) (hchF3 : chF 3 = some ch3) (hxg : fx xg 17 [(9, .ref chA)]) : vx_Met l yX12_point (Cond.code yX12_point cX12_point 4 (some .int) :: BG) ({ frames := 8, cells := 1, slots := 6, locals := 160 }) (va_Pc [.ref x, .int p0, .int p1] (fun U => U.heap.size = sz ∧ va_P (dC, dI) CL [(x, .inr (12, xg)), (chA, .inl (chC, (4, .inr (.inr (.inr (.inr chF)))))), (ch0, .inr (2, chg0)), (ch1, .inr (2, chg1)), (ch2, .inr (2, chg2)), (ch3, .inr (2, chg3))] U.heap ∧ va_K (dC, dI) CL [(chC, .object "ChipFlow$Chip")] U ∧ va_D (fun _ => True) [(x, .inr (12, xg)), (chA, .inl (chC, (4, .inr (.inr (.inr (.inr chF)))))), (ch0, .inr (2, chg0)), (ch1, .inr (2, chg1)), (ch2, .inr (2, chg2)), (ch3, .inr (2, chg3))] ∧ th (va_A [(x, .inr (12, xg)), (chA, .inl (chC, (4, .inr (.inr (.inr (.inr chF)))))), (ch0, .inr (2, chg0)), (ch1, .inr (2, chg1)), (ch2, .inr (2, chg2)), (ch3, .inr (2, chg3))] sz) U U.heap)) (fun _ _ _ _ => False) (vx_X (fun _ : Unit => True) (fun E _ _ => E = "java/lang/IndexOutOfBoundsException") (va_A [(x, .inr (12, xg)), (chA, .inl (chC, (4, .inr (.inr (.inr (.inr chF)))))), (ch0, .inr (2, chg0)), (ch1, .inr (2, chg1)), (ch2, .inr (2, chg2)), (ch3, .inr (2, chg3))] sz)) 1 6 (va_A [(x, .inr (12, xg)), (chA, .inl (chC, (4, .inr (.inr (.inr (.inr chF)))))), (ch0, .inr (2, chg0)), (ch1, .inr (2, chg1)), (ch2, .inr (2, chg2)), (ch3, .inr (2, chg3))] sz) := by
  refine vx_ofW (cc := cX12_point) (maxL := 4) (ret := (some .int)) (by decide) rfl ?_
  intro p e s m args below meth c s₁ B hml ht0 hv
  obtain ⟨rfl, hsz, hP, hK, hD0, hth⟩ := hv
  have hx := B.exec
  have hb := B.bytes
  have hr := B.returns
  have hts : ∀ w ∈ BG, w.before _ s = true := fun w h => atoms_spec (ws := Cond.code yX12_point cX12_point 4 (some .int) :: BG) B.pre w (List.mem_cons_of_mem _ h)
  have hown : s.vm.findClass RX12 = some m.cls := findClass_of_methodNamed B.named
  have hlocks := B.notSynchronized
  subst hsz
  have hD := hD0.self (sz := s.heap.size)
  generalize hAe : va_A [(x, .inr (12, xg)), (chA, .inl (chC, (4, .inr (.inr (.inr (.inr chF)))))), (ch0, .inr (2, chg0)), (ch1, .inr (2, chg1)), (ch2, .inr (2, chg2)), (ch3, .inr (2, chg3))] s.heap.size = A at hD hth ⊢
  have hA : ∀ q : Nat, s.heap.size ≤ q → A q := fun q h => by rw [← hAe]; exact Or.inr h
  have hS : va_S A s.heap s.heap [] := va_S.rf
  have hl := lv_entry ([.ref x, .int p0, .int p1]) (n := 4) (Nat.le_of_ble_eq_true rfl)
  rw [lg_entry_eq]
  generalize (lg_sl ([.ref x, .int p0, .int p1]) ++ List.replicate (4 - (lg_sl ([.ref x, .int p0, .int p1])).length) Slot.unset).toArray = ls at hl ⊢
  have hl : lv_has ls 4 [(0, .ref x), (1, .int p0), (2, .int p1)] := hl
  have hFc := va_free (wc := [(x, .inr (12, xg)), (chA, .inl (chC, (4, .inr (.inr (.inr (.inr chF)))))), (ch0, .inr (2, chg0)), (ch1, .inr (2, chg1)), (ch2, .inr (2, chg2)), (ch3, .inr (2, chg3))]) hD hS hA [0, 1, 2, 3, 4, 5] rfl
  refine lv_aload_n hx hb dX12_point_0 rfl (lv_at hl 0 rfl) ?_
  refine lv_iload_n hx hb dX12_point_1 rfl (lv_at hl 1 rfl) ?_
  refine vq_thr (vx_runV (As := [.int p0]) (rest := []) ⟨hx, hb, hml, hown, hts⟩ (ct_X12_chipAt l hlt dC dI s.heap.size p0 x xg chA chC chF ch0 ch1 ch2 ch3 chg0 chg1 chg2 chg3 hchg0 hchF0 hchg1 hchF1 hchg2 hchF2 hchg3 hchF3 hxg) (cwV 1 hts (gi_V wd_1835 wd_1837 wd_64 wd_327 wd_1838) rfl rfl rfl (by decide +kernel) ⟨(Nat.le_of_ble_eq_true rfl), (Nat.le_of_ble_eq_true rfl)⟩) ⟨fun a U g mk q => by obtain ⟨q0, q1, qP, qK, qD, qT⟩ := q; exact ⟨q0, q1, qP, va_K.moved (u := U) (U := U.calling g mk a) (Vm.Alike.refl U.vm) qK, qD, th.moved (u := U) (U := U.calling g mk a) (Vm.Alike.refl U.vm) qT⟩, va_recv hK hP (ci := 12) (q0 := 0) rfl rfl, fun U hU hW => ⟨rfl, by rw [hU], by rw [hU]; exact hP, va_K.moved hW.alike hK, hD.weaken (fun _ _ _ _ => trivial), by rw [hU]; exact (hth.narrow hFc).moved hW.alike⟩⟩ rfl rfl hl.1 rfl (lv_room (Nat.le_of_ble_eq_true rfl)) dX12_point_2 ⟨(Nat.le_of_ble_eq_true rfl), (Nat.le_of_ble_eq_true rfl)⟩) (fun _ _ _ h => h) hS hFc (fun q _ h => hFc q h) (fun E ce q9 u t H1 locs ht hvm hp hB hz hk hS hce hcv hcl => ?_)
  subst hB
  exact vx_out (fun x h9 => (ht0 x h9).elim) hlocks hce hcv hcl (fun t9 ht9 hvm9 => ⟨(), trivial, rfl, hS.F ht9⟩) hS.2.2 (Nat.le_of_ble_eq_true rfl) (Nat.le_of_ble_eq_true rfl)
set_option maxHeartbeats 4000000 in
set_option maxRecDepth 100000 in
theorem ct_X12_routed (l : Launch) (hlt : l.stackTraces = false) (dC : Nat → ClassId) (dI : Nat → Nat → Nat) (sz : Nat) (p0 p1 p2 : Int32) (x : Nat) (xg : List Value) (chA : Nat) (chC : ClassId) (chF : Nat → Option Nat) (ch0 ch1 ch2 ch3 : Nat) (chg0 chg1 chg2 chg3 : List Value) (hchg0 : fx chg0 20 [(0, .int 0)]) (hchF0 : chF 0 = some ch0) (hchg1 : fx chg1 20 [(0, .int 0)]) (hchF1 : chF 1 = some ch1) (hchg2 : fx chg2 20 [(0, .int 0)]) (hchF2 : chF 2 = some ch2) (hchg3 : fx chg3 20 [(0, .int 0)]) (hchF3 : chF 3 = some ch3) (hxg : fx xg 17 [(9, .ref chA)]) : vx_Met l yX12_routed (Cond.code yX12_routed cX12_routed 5 (some .int) :: BG) ({ frames := 8, cells := 1, slots := 6, locals := 160 }) (va_Pc [.ref x, .int p0, .int p1, .int p2] (fun U => U.heap.size = sz ∧ va_P (dC, dI) CL [(x, .inr (12, xg)), (chA, .inl (chC, (4, .inr (.inr (.inr (.inr chF)))))), (ch0, .inr (2, chg0)), (ch1, .inr (2, chg1)), (ch2, .inr (2, chg2)), (ch3, .inr (2, chg3))] U.heap ∧ va_K (dC, dI) CL [(chC, .object "ChipFlow$Chip")] U ∧ va_D (fun _ => True) [(x, .inr (12, xg)), (chA, .inl (chC, (4, .inr (.inr (.inr (.inr chF)))))), (ch0, .inr (2, chg0)), (ch1, .inr (2, chg1)), (ch2, .inr (2, chg2)), (ch3, .inr (2, chg3))] ∧ th (va_A [(x, .inr (12, xg)), (chA, .inl (chC, (4, .inr (.inr (.inr (.inr chF)))))), (ch0, .inr (2, chg0)), (ch1, .inr (2, chg1)), (ch2, .inr (2, chg2)), (ch3, .inr (2, chg3))] sz) U U.heap)) (fun _ _ _ _ => False) (vx_X (fun _ : Unit => True) (fun E _ _ => E = "java/lang/IndexOutOfBoundsException") (va_A [(x, .inr (12, xg)), (chA, .inl (chC, (4, .inr (.inr (.inr (.inr chF)))))), (ch0, .inr (2, chg0)), (ch1, .inr (2, chg1)), (ch2, .inr (2, chg2)), (ch3, .inr (2, chg3))] sz)) 1 6 (va_A [(x, .inr (12, xg)), (chA, .inl (chC, (4, .inr (.inr (.inr (.inr chF)))))), (ch0, .inr (2, chg0)), (ch1, .inr (2, chg1)), (ch2, .inr (2, chg2)), (ch3, .inr (2, chg3))] sz) := by
  refine vx_ofW (cc := cX12_routed) (maxL := 5) (ret := (some .int)) (by decide) rfl ?_
  intro p e s m args below meth c s₁ B hml ht0 hv
  obtain ⟨rfl, hsz, hP, hK, hD0, hth⟩ := hv
  have hx := B.exec
  have hb := B.bytes
  have hr := B.returns
  have hts : ∀ w ∈ BG, w.before _ s = true := fun w h => atoms_spec (ws := Cond.code yX12_routed cX12_routed 5 (some .int) :: BG) B.pre w (List.mem_cons_of_mem _ h)
  have hown : s.vm.findClass RX12 = some m.cls := findClass_of_methodNamed B.named
  have hlocks := B.notSynchronized
  subst hsz
  have hD := hD0.self (sz := s.heap.size)
  generalize hAe : va_A [(x, .inr (12, xg)), (chA, .inl (chC, (4, .inr (.inr (.inr (.inr chF)))))), (ch0, .inr (2, chg0)), (ch1, .inr (2, chg1)), (ch2, .inr (2, chg2)), (ch3, .inr (2, chg3))] s.heap.size = A at hD hth ⊢
  have hA : ∀ q : Nat, s.heap.size ≤ q → A q := fun q h => by rw [← hAe]; exact Or.inr h
  have hS : va_S A s.heap s.heap [] := va_S.rf
  have hl := lv_entry ([.ref x, .int p0, .int p1, .int p2]) (n := 5) (Nat.le_of_ble_eq_true rfl)
  rw [lg_entry_eq]
  generalize (lg_sl ([.ref x, .int p0, .int p1, .int p2]) ++ List.replicate (5 - (lg_sl ([.ref x, .int p0, .int p1, .int p2])).length) Slot.unset).toArray = ls at hl ⊢
  have hl : lv_has ls 5 [(0, .ref x), (1, .int p0), (2, .int p1), (3, .int p2)] := hl
  have hFc := va_free (wc := [(x, .inr (12, xg)), (chA, .inl (chC, (4, .inr (.inr (.inr (.inr chF)))))), (ch0, .inr (2, chg0)), (ch1, .inr (2, chg1)), (ch2, .inr (2, chg2)), (ch3, .inr (2, chg3))]) hD hS hA [0, 1, 2, 3, 4, 5] rfl
  refine lv_aload_n hx hb dX12_routed_0 rfl (lv_at hl 0 rfl) ?_
  refine lv_iload_n hx hb dX12_routed_1 rfl (lv_at hl 1 rfl) ?_
  refine vq_thr (vx_runV (As := [.int p0]) (rest := []) ⟨hx, hb, hml, hown, hts⟩ (ct_X12_chipAt l hlt dC dI s.heap.size p0 x xg chA chC chF ch0 ch1 ch2 ch3 chg0 chg1 chg2 chg3 hchg0 hchF0 hchg1 hchF1 hchg2 hchF2 hchg3 hchF3 hxg) (cwV 1 hts (gi_V wd_1835 wd_1837 wd_64 wd_327 wd_1838) rfl rfl rfl (by decide +kernel) ⟨(Nat.le_of_ble_eq_true rfl), (Nat.le_of_ble_eq_true rfl)⟩) ⟨fun a U g mk q => by obtain ⟨q0, q1, qP, qK, qD, qT⟩ := q; exact ⟨q0, q1, qP, va_K.moved (u := U) (U := U.calling g mk a) (Vm.Alike.refl U.vm) qK, qD, th.moved (u := U) (U := U.calling g mk a) (Vm.Alike.refl U.vm) qT⟩, va_recv hK hP (ci := 12) (q0 := 0) rfl rfl, fun U hU hW => ⟨rfl, by rw [hU], by rw [hU]; exact hP, va_K.moved hW.alike hK, hD.weaken (fun _ _ _ _ => trivial), by rw [hU]; exact (hth.narrow hFc).moved hW.alike⟩⟩ rfl rfl hl.1 rfl (lv_room (Nat.le_of_ble_eq_true rfl)) dX12_routed_2 ⟨(Nat.le_of_ble_eq_true rfl), (Nat.le_of_ble_eq_true rfl)⟩) (fun _ _ _ h => h) hS hFc (fun q _ h => hFc q h) (fun E ce q9 u t H1 locs ht hvm hp hB hz hk hS hce hcv hcl => ?_)
  subst hB
  exact vx_out (fun x h9 => (ht0 x h9).elim) hlocks hce hcv hcl (fun t9 ht9 hvm9 => ⟨(), trivial, rfl, hS.F ht9⟩) hS.2.2 (Nat.le_of_ble_eq_true rfl) (Nat.le_of_ble_eq_true rfl)
set_option maxHeartbeats 4000000 in
set_option maxRecDepth 100000 in
theorem ct_X12_draw (l : Launch) (hlt : l.stackTraces = false) (dC : Nat → ClassId) (dI : Nat → Nat → Nat) (sz : Nat) (p0 : Int32) (x : Nat) (xg : List Value) (chA : Nat) (chC : ClassId) (chF : Nat → Option Nat) (ch0 ch1 ch2 ch3 : Nat) (chg0 chg1 chg2 chg3 : List Value) (hchg0 : fx chg0 20 [(0, .int 0)]) (hchF0 : chF 0 = some ch0) (hchg1 : fx chg1 20 [(0, .int 0)]) (hchF1 : chF 1 = some ch1) (hchg2 : fx chg2 20 [(0, .int 0)]) (hchF2 : chF 2 = some ch2) (hchg3 : fx chg3 20 [(0, .int 0)]) (hchF3 : chF 3 = some ch3) (hxg : fx xg 17 [(9, .ref chA)]) : vx_Met l yX12_draw (Cond.code yX12_draw cX12_draw 4 (some .int) :: BG) ({ frames := 8, cells := 1, slots := 6, locals := 160 }) (va_Pc [.ref x, .int p0] (fun U => U.heap.size = sz ∧ va_P (dC, dI) CL [(x, .inr (12, xg)), (chA, .inl (chC, (4, .inr (.inr (.inr (.inr chF)))))), (ch0, .inr (2, chg0)), (ch1, .inr (2, chg1)), (ch2, .inr (2, chg2)), (ch3, .inr (2, chg3))] U.heap ∧ va_K (dC, dI) CL [(chC, .object "ChipFlow$Chip")] U ∧ va_D (fun _ => True) [(x, .inr (12, xg)), (chA, .inl (chC, (4, .inr (.inr (.inr (.inr chF)))))), (ch0, .inr (2, chg0)), (ch1, .inr (2, chg1)), (ch2, .inr (2, chg2)), (ch3, .inr (2, chg3))] ∧ th (va_A [(x, .inr (12, xg)), (chA, .inl (chC, (4, .inr (.inr (.inr (.inr chF)))))), (ch0, .inr (2, chg0)), (ch1, .inr (2, chg1)), (ch2, .inr (2, chg2)), (ch3, .inr (2, chg3))] sz) U U.heap)) (fun _ _ _ _ => False) (vx_X (fun _ : Unit => True) (fun E _ _ => E = "java/lang/IndexOutOfBoundsException") (va_A [(x, .inr (12, xg)), (chA, .inl (chC, (4, .inr (.inr (.inr (.inr chF)))))), (ch0, .inr (2, chg0)), (ch1, .inr (2, chg1)), (ch2, .inr (2, chg2)), (ch3, .inr (2, chg3))] sz)) 1 6 (va_A [(x, .inr (12, xg)), (chA, .inl (chC, (4, .inr (.inr (.inr (.inr chF)))))), (ch0, .inr (2, chg0)), (ch1, .inr (2, chg1)), (ch2, .inr (2, chg2)), (ch3, .inr (2, chg3))] sz) := by
  refine vx_ofW (cc := cX12_draw) (maxL := 4) (ret := (some .int)) (by decide) rfl ?_
  intro p e s m args below meth c s₁ B hml ht0 hv
  obtain ⟨rfl, hsz, hP, hK, hD0, hth⟩ := hv
  have hx := B.exec
  have hb := B.bytes
  have hr := B.returns
  have hts : ∀ w ∈ BG, w.before _ s = true := fun w h => atoms_spec (ws := Cond.code yX12_draw cX12_draw 4 (some .int) :: BG) B.pre w (List.mem_cons_of_mem _ h)
  have hown : s.vm.findClass RX12 = some m.cls := findClass_of_methodNamed B.named
  have hlocks := B.notSynchronized
  subst hsz
  have hD := hD0.self (sz := s.heap.size)
  generalize hAe : va_A [(x, .inr (12, xg)), (chA, .inl (chC, (4, .inr (.inr (.inr (.inr chF)))))), (ch0, .inr (2, chg0)), (ch1, .inr (2, chg1)), (ch2, .inr (2, chg2)), (ch3, .inr (2, chg3))] s.heap.size = A at hD hth ⊢
  have hA : ∀ q : Nat, s.heap.size ≤ q → A q := fun q h => by rw [← hAe]; exact Or.inr h
  have hS : va_S A s.heap s.heap [] := va_S.rf
  have hl := lv_entry ([.ref x, .int p0]) (n := 4) (Nat.le_of_ble_eq_true rfl)
  rw [lg_entry_eq]
  generalize (lg_sl ([.ref x, .int p0]) ++ List.replicate (4 - (lg_sl ([.ref x, .int p0])).length) Slot.unset).toArray = ls at hl ⊢
  have hl : lv_has ls 4 [(0, .ref x), (1, .int p0)] := hl
  have hFc := va_free (wc := [(x, .inr (12, xg)), (chA, .inl (chC, (4, .inr (.inr (.inr (.inr chF)))))), (ch0, .inr (2, chg0)), (ch1, .inr (2, chg1)), (ch2, .inr (2, chg2)), (ch3, .inr (2, chg3))]) hD hS hA [0, 1, 2, 3, 4, 5] rfl
  refine lv_aload_n hx hb dX12_draw_0 rfl (lv_at hl 0 rfl) ?_
  refine lv_iload_n hx hb dX12_draw_1 rfl (lv_at hl 1 rfl) ?_
  refine vq_thr (vx_runV (As := [.int p0]) (rest := []) ⟨hx, hb, hml, hown, hts⟩ (ct_X12_chipAt l hlt dC dI s.heap.size p0 x xg chA chC chF ch0 ch1 ch2 ch3 chg0 chg1 chg2 chg3 hchg0 hchF0 hchg1 hchF1 hchg2 hchF2 hchg3 hchF3 hxg) (cwV 1 hts (gi_V wd_1835 wd_1837 wd_64 wd_327 wd_1838) rfl rfl rfl (by decide +kernel) ⟨(Nat.le_of_ble_eq_true rfl), (Nat.le_of_ble_eq_true rfl)⟩) ⟨fun a U g mk q => by obtain ⟨q0, q1, qP, qK, qD, qT⟩ := q; exact ⟨q0, q1, qP, va_K.moved (u := U) (U := U.calling g mk a) (Vm.Alike.refl U.vm) qK, qD, th.moved (u := U) (U := U.calling g mk a) (Vm.Alike.refl U.vm) qT⟩, va_recv hK hP (ci := 12) (q0 := 0) rfl rfl, fun U hU hW => ⟨rfl, by rw [hU], by rw [hU]; exact hP, va_K.moved hW.alike hK, hD.weaken (fun _ _ _ _ => trivial), by rw [hU]; exact (hth.narrow hFc).moved hW.alike⟩⟩ rfl rfl hl.1 rfl (lv_room (Nat.le_of_ble_eq_true rfl)) dX12_draw_2 ⟨(Nat.le_of_ble_eq_true rfl), (Nat.le_of_ble_eq_true rfl)⟩) (fun _ _ _ h => h) hS hFc (fun q _ h => hFc q h) (fun E ce q9 u t H1 locs ht hvm hp hB hz hk hS hce hcv hcl => ?_)
  subst hB
  exact vx_out (fun x h9 => (ht0 x h9).elim) hlocks hce hcv hcl (fun t9 ht9 hvm9 => ⟨(), trivial, rfl, hS.F ht9⟩) hS.2.2 (Nat.le_of_ble_eq_true rfl) (Nat.le_of_ble_eq_true rfl)
set_option maxHeartbeats 4000000 in
set_option maxRecDepth 100000 in
theorem ct_X12_box (l : Launch) (hlt : l.stackTraces = false) (dC : Nat → ClassId) (dI : Nat → Nat → Nat) (sz : Nat) (p0 p1 p2 : Int32) (x : Nat) (xg : List Value) (chA : Nat) (chC : ClassId) (chF : Nat → Option Nat) (ch0 ch1 ch2 ch3 : Nat) (chg0 chg1 chg2 chg3 : List Value) (hchg0 : fx chg0 20 [(0, .int 0)]) (hchF0 : chF 0 = some ch0) (hchg1 : fx chg1 20 [(0, .int 0)]) (hchF1 : chF 1 = some ch1) (hchg2 : fx chg2 20 [(0, .int 0)]) (hchF2 : chF 2 = some ch2) (hchg3 : fx chg3 20 [(0, .int 0)]) (hchF3 : chF 3 = some ch3) (hxg : fx xg 17 [(9, .ref chA)]) : vx_Met l yX12_box (Cond.code yX12_box cX12_box 5 (some .int) :: BG) ({ frames := 8, cells := 1, slots := 6, locals := 160 }) (va_Pc [.ref x, .int p0, .int p1, .int p2] (fun U => U.heap.size = sz ∧ va_P (dC, dI) CL [(x, .inr (12, xg)), (chA, .inl (chC, (4, .inr (.inr (.inr (.inr chF)))))), (ch0, .inr (2, chg0)), (ch1, .inr (2, chg1)), (ch2, .inr (2, chg2)), (ch3, .inr (2, chg3))] U.heap ∧ va_K (dC, dI) CL [(chC, .object "ChipFlow$Chip")] U ∧ va_D (fun _ => True) [(x, .inr (12, xg)), (chA, .inl (chC, (4, .inr (.inr (.inr (.inr chF)))))), (ch0, .inr (2, chg0)), (ch1, .inr (2, chg1)), (ch2, .inr (2, chg2)), (ch3, .inr (2, chg3))] ∧ th (va_A [(x, .inr (12, xg)), (chA, .inl (chC, (4, .inr (.inr (.inr (.inr chF)))))), (ch0, .inr (2, chg0)), (ch1, .inr (2, chg1)), (ch2, .inr (2, chg2)), (ch3, .inr (2, chg3))] sz) U U.heap)) (fun _ _ _ _ => False) (vx_X (fun _ : Unit => True) (fun E _ _ => E = "java/lang/IndexOutOfBoundsException") (va_A [(x, .inr (12, xg)), (chA, .inl (chC, (4, .inr (.inr (.inr (.inr chF)))))), (ch0, .inr (2, chg0)), (ch1, .inr (2, chg1)), (ch2, .inr (2, chg2)), (ch3, .inr (2, chg3))] sz)) 1 6 (va_A [(x, .inr (12, xg)), (chA, .inl (chC, (4, .inr (.inr (.inr (.inr chF)))))), (ch0, .inr (2, chg0)), (ch1, .inr (2, chg1)), (ch2, .inr (2, chg2)), (ch3, .inr (2, chg3))] sz) := by
  refine vx_ofW (cc := cX12_box) (maxL := 5) (ret := (some .int)) (by decide) rfl ?_
  intro p e s m args below meth c s₁ B hml ht0 hv
  obtain ⟨rfl, hsz, hP, hK, hD0, hth⟩ := hv
  have hx := B.exec
  have hb := B.bytes
  have hr := B.returns
  have hts : ∀ w ∈ BG, w.before _ s = true := fun w h => atoms_spec (ws := Cond.code yX12_box cX12_box 5 (some .int) :: BG) B.pre w (List.mem_cons_of_mem _ h)
  have hown : s.vm.findClass RX12 = some m.cls := findClass_of_methodNamed B.named
  have hlocks := B.notSynchronized
  subst hsz
  have hD := hD0.self (sz := s.heap.size)
  generalize hAe : va_A [(x, .inr (12, xg)), (chA, .inl (chC, (4, .inr (.inr (.inr (.inr chF)))))), (ch0, .inr (2, chg0)), (ch1, .inr (2, chg1)), (ch2, .inr (2, chg2)), (ch3, .inr (2, chg3))] s.heap.size = A at hD hth ⊢
  have hA : ∀ q : Nat, s.heap.size ≤ q → A q := fun q h => by rw [← hAe]; exact Or.inr h
  have hS : va_S A s.heap s.heap [] := va_S.rf
  have hl := lv_entry ([.ref x, .int p0, .int p1, .int p2]) (n := 5) (Nat.le_of_ble_eq_true rfl)
  rw [lg_entry_eq]
  generalize (lg_sl ([.ref x, .int p0, .int p1, .int p2]) ++ List.replicate (5 - (lg_sl ([.ref x, .int p0, .int p1, .int p2])).length) Slot.unset).toArray = ls at hl ⊢
  have hl : lv_has ls 5 [(0, .ref x), (1, .int p0), (2, .int p1), (3, .int p2)] := hl
  have hFc := va_free (wc := [(x, .inr (12, xg)), (chA, .inl (chC, (4, .inr (.inr (.inr (.inr chF)))))), (ch0, .inr (2, chg0)), (ch1, .inr (2, chg1)), (ch2, .inr (2, chg2)), (ch3, .inr (2, chg3))]) hD hS hA [0, 1, 2, 3, 4, 5] rfl
  refine lv_aload_n hx hb dX12_box_0 rfl (lv_at hl 0 rfl) ?_
  refine lv_iload_n hx hb dX12_box_1 rfl (lv_at hl 1 rfl) ?_
  refine vq_thr (vx_runV (As := [.int p0]) (rest := []) ⟨hx, hb, hml, hown, hts⟩ (ct_X12_chipAt l hlt dC dI s.heap.size p0 x xg chA chC chF ch0 ch1 ch2 ch3 chg0 chg1 chg2 chg3 hchg0 hchF0 hchg1 hchF1 hchg2 hchF2 hchg3 hchF3 hxg) (cwV 1 hts (gi_V wd_1835 wd_1837 wd_64 wd_327 wd_1838) rfl rfl rfl (by decide +kernel) ⟨(Nat.le_of_ble_eq_true rfl), (Nat.le_of_ble_eq_true rfl)⟩) ⟨fun a U g mk q => by obtain ⟨q0, q1, qP, qK, qD, qT⟩ := q; exact ⟨q0, q1, qP, va_K.moved (u := U) (U := U.calling g mk a) (Vm.Alike.refl U.vm) qK, qD, th.moved (u := U) (U := U.calling g mk a) (Vm.Alike.refl U.vm) qT⟩, va_recv hK hP (ci := 12) (q0 := 0) rfl rfl, fun U hU hW => ⟨rfl, by rw [hU], by rw [hU]; exact hP, va_K.moved hW.alike hK, hD.weaken (fun _ _ _ _ => trivial), by rw [hU]; exact (hth.narrow hFc).moved hW.alike⟩⟩ rfl rfl hl.1 rfl (lv_room (Nat.le_of_ble_eq_true rfl)) dX12_box_2 ⟨(Nat.le_of_ble_eq_true rfl), (Nat.le_of_ble_eq_true rfl)⟩) (fun _ _ _ h => h) hS hFc (fun q _ h => hFc q h) (fun E ce q9 u t H1 locs ht hvm hp hB hz hk hS hce hcv hcl => ?_)
  subst hB
  exact vx_out (fun x h9 => (ht0 x h9).elim) hlocks hce hcv hcl (fun t9 ht9 hvm9 => ⟨(), trivial, rfl, hS.F ht9⟩) hS.2.2 (Nat.le_of_ble_eq_true rfl) (Nat.le_of_ble_eq_true rfl)
set_option maxHeartbeats 4000000 in
set_option maxRecDepth 100000 in
theorem ct_X12_add (l : Launch) (hlt : l.stackTraces = false) (dC : Nat → ClassId) (dI : Nat → Nat → Nat) (sz : Nat) (p0 p1 p2 p3 p4 p5 : Int32) (x : Nat) (xg : List Value) (chA : Nat) (chC : ClassId) (chF : Nat → Option Nat) (ch0 ch1 ch2 ch3 : Nat) (chg0 chg1 chg2 chg3 : List Value) (hchg0 : fx chg0 20 [(0, .int 0)]) (hchF0 : chF 0 = some ch0) (hchg1 : fx chg1 20 [(0, .int 0)]) (hchF1 : chF 1 = some ch1) (hchg2 : fx chg2 20 [(0, .int 0)]) (hchF2 : chF 2 = some ch2) (hchg3 : fx chg3 20 [(0, .int 0)]) (hchF3 : chF 3 = some ch3) (hxg : fx xg 17 [(9, .ref chA)]) : vx_Met l yX12_add (Cond.code yX12_add cX12_add 8 (some .int) :: BG) ({ frames := 8, cells := 1, slots := 6, locals := 160 }) (va_Pc [.ref x, .int p0, .int p1, .int p2, .int p3, .int p4, .int p5] (fun U => U.heap.size = sz ∧ va_P (dC, dI) CL [(x, .inr (12, xg)), (chA, .inl (chC, (4, .inr (.inr (.inr (.inr chF)))))), (ch0, .inr (2, chg0)), (ch1, .inr (2, chg1)), (ch2, .inr (2, chg2)), (ch3, .inr (2, chg3))] U.heap ∧ va_K (dC, dI) CL [(chC, .object "ChipFlow$Chip")] U ∧ va_D (fun _ => True) [(x, .inr (12, xg)), (chA, .inl (chC, (4, .inr (.inr (.inr (.inr chF)))))), (ch0, .inr (2, chg0)), (ch1, .inr (2, chg1)), (ch2, .inr (2, chg2)), (ch3, .inr (2, chg3))] ∧ th (va_A [(x, .inr (12, xg)), (chA, .inl (chC, (4, .inr (.inr (.inr (.inr chF)))))), (ch0, .inr (2, chg0)), (ch1, .inr (2, chg1)), (ch2, .inr (2, chg2)), (ch3, .inr (2, chg3))] sz) U U.heap)) (fun _ _ _ _ => False) (vx_X (fun _ : Unit => True) (fun E _ _ => E = "java/lang/IndexOutOfBoundsException") (va_A [(x, .inr (12, xg)), (chA, .inl (chC, (4, .inr (.inr (.inr (.inr chF)))))), (ch0, .inr (2, chg0)), (ch1, .inr (2, chg1)), (ch2, .inr (2, chg2)), (ch3, .inr (2, chg3))] sz)) 1 6 (va_A [(x, .inr (12, xg)), (chA, .inl (chC, (4, .inr (.inr (.inr (.inr chF)))))), (ch0, .inr (2, chg0)), (ch1, .inr (2, chg1)), (ch2, .inr (2, chg2)), (ch3, .inr (2, chg3))] sz) := by
  refine vx_ofW (cc := cX12_add) (maxL := 8) (ret := (some .int)) (by decide) rfl ?_
  intro p e s m args below meth c s₁ B hml ht0 hv
  obtain ⟨rfl, hsz, hP, hK, hD0, hth⟩ := hv
  have hx := B.exec
  have hb := B.bytes
  have hr := B.returns
  have hts : ∀ w ∈ BG, w.before _ s = true := fun w h => atoms_spec (ws := Cond.code yX12_add cX12_add 8 (some .int) :: BG) B.pre w (List.mem_cons_of_mem _ h)
  have hown : s.vm.findClass RX12 = some m.cls := findClass_of_methodNamed B.named
  have hlocks := B.notSynchronized
  subst hsz
  have hD := hD0.self (sz := s.heap.size)
  generalize hAe : va_A [(x, .inr (12, xg)), (chA, .inl (chC, (4, .inr (.inr (.inr (.inr chF)))))), (ch0, .inr (2, chg0)), (ch1, .inr (2, chg1)), (ch2, .inr (2, chg2)), (ch3, .inr (2, chg3))] s.heap.size = A at hD hth ⊢
  have hA : ∀ q : Nat, s.heap.size ≤ q → A q := fun q h => by rw [← hAe]; exact Or.inr h
  have hS : va_S A s.heap s.heap [] := va_S.rf
  have hl := lv_entry ([.ref x, .int p0, .int p1, .int p2, .int p3, .int p4, .int p5]) (n := 8) (Nat.le_of_ble_eq_true rfl)
  rw [lg_entry_eq]
  generalize (lg_sl ([.ref x, .int p0, .int p1, .int p2, .int p3, .int p4, .int p5]) ++ List.replicate (8 - (lg_sl ([.ref x, .int p0, .int p1, .int p2, .int p3, .int p4, .int p5])).length) Slot.unset).toArray = ls at hl ⊢
  have hl : lv_has ls 8 [(0, .ref x), (1, .int p0), (2, .int p1), (3, .int p2), (4, .int p3), (5, .int p4), (6, .int p5)] := hl
  have hFc := va_free (wc := [(x, .inr (12, xg)), (chA, .inl (chC, (4, .inr (.inr (.inr (.inr chF)))))), (ch0, .inr (2, chg0)), (ch1, .inr (2, chg1)), (ch2, .inr (2, chg2)), (ch3, .inr (2, chg3))]) hD hS hA [0, 1, 2, 3, 4, 5] rfl
  refine lv_aload_n hx hb dX12_add_0 rfl (lv_at hl 0 rfl) ?_
  refine lv_iload_n hx hb dX12_add_1 rfl (lv_at hl 1 rfl) ?_
  refine vq_thr (vx_runV (As := [.int p0]) (rest := []) ⟨hx, hb, hml, hown, hts⟩ (ct_X12_chipAt l hlt dC dI s.heap.size p0 x xg chA chC chF ch0 ch1 ch2 ch3 chg0 chg1 chg2 chg3 hchg0 hchF0 hchg1 hchF1 hchg2 hchF2 hchg3 hchF3 hxg) (cwV 1 hts (gi_V wd_1835 wd_1837 wd_64 wd_327 wd_1838) rfl rfl rfl (by decide +kernel) ⟨(Nat.le_of_ble_eq_true rfl), (Nat.le_of_ble_eq_true rfl)⟩) ⟨fun a U g mk q => by obtain ⟨q0, q1, qP, qK, qD, qT⟩ := q; exact ⟨q0, q1, qP, va_K.moved (u := U) (U := U.calling g mk a) (Vm.Alike.refl U.vm) qK, qD, th.moved (u := U) (U := U.calling g mk a) (Vm.Alike.refl U.vm) qT⟩, va_recv hK hP (ci := 12) (q0 := 0) rfl rfl, fun U hU hW => ⟨rfl, by rw [hU], by rw [hU]; exact hP, va_K.moved hW.alike hK, hD.weaken (fun _ _ _ _ => trivial), by rw [hU]; exact (hth.narrow hFc).moved hW.alike⟩⟩ rfl rfl hl.1 rfl (lv_room (Nat.le_of_ble_eq_true rfl)) dX12_add_2 ⟨(Nat.le_of_ble_eq_true rfl), (Nat.le_of_ble_eq_true rfl)⟩) (fun _ _ _ h => h) hS hFc (fun q _ h => hFc q h) (fun E ce q9 u t H1 locs ht hvm hp hB hz hk hS hce hcv hcl => ?_)
  subst hB
  exact vx_out (fun x h9 => (ht0 x h9).elim) hlocks hce hcv hcl (fun t9 ht9 hvm9 => ⟨(), trivial, rfl, hS.F ht9⟩) hS.2.2 (Nat.le_of_ble_eq_true rfl) (Nat.le_of_ble_eq_true rfl)
set_option maxHeartbeats 4000000 in
set_option maxRecDepth 100000 in
theorem ct_X12_erase (l : Launch) (hlt : l.stackTraces = false) (dC : Nat → ClassId) (dI : Nat → Nat → Nat) (sz : Nat) (p0 p1 : Int32) (x : Nat) (xg : List Value) (chA : Nat) (chC : ClassId) (chF : Nat → Option Nat) (ch0 ch1 ch2 ch3 : Nat) (chg0 chg1 chg2 chg3 : List Value) (hchg0 : fx chg0 20 [(0, .int 0)]) (hchF0 : chF 0 = some ch0) (hchg1 : fx chg1 20 [(0, .int 0)]) (hchF1 : chF 1 = some ch1) (hchg2 : fx chg2 20 [(0, .int 0)]) (hchF2 : chF 2 = some ch2) (hchg3 : fx chg3 20 [(0, .int 0)]) (hchF3 : chF 3 = some ch3) (hxg : fx xg 17 [(9, .ref chA)]) : vx_Met l yX12_erase (Cond.code yX12_erase cX12_erase 4 (some .int) :: BG) ({ frames := 8, cells := 1, slots := 6, locals := 160 }) (va_Pc [.ref x, .int p0, .int p1] (fun U => U.heap.size = sz ∧ va_P (dC, dI) CL [(x, .inr (12, xg)), (chA, .inl (chC, (4, .inr (.inr (.inr (.inr chF)))))), (ch0, .inr (2, chg0)), (ch1, .inr (2, chg1)), (ch2, .inr (2, chg2)), (ch3, .inr (2, chg3))] U.heap ∧ va_K (dC, dI) CL [(chC, .object "ChipFlow$Chip")] U ∧ va_D (fun _ => True) [(x, .inr (12, xg)), (chA, .inl (chC, (4, .inr (.inr (.inr (.inr chF)))))), (ch0, .inr (2, chg0)), (ch1, .inr (2, chg1)), (ch2, .inr (2, chg2)), (ch3, .inr (2, chg3))] ∧ th (va_A [(x, .inr (12, xg)), (chA, .inl (chC, (4, .inr (.inr (.inr (.inr chF)))))), (ch0, .inr (2, chg0)), (ch1, .inr (2, chg1)), (ch2, .inr (2, chg2)), (ch3, .inr (2, chg3))] sz) U U.heap)) (fun _ _ _ _ => False) (vx_X (fun _ : Unit => True) (fun E _ _ => E = "java/lang/IndexOutOfBoundsException") (va_A [(x, .inr (12, xg)), (chA, .inl (chC, (4, .inr (.inr (.inr (.inr chF)))))), (ch0, .inr (2, chg0)), (ch1, .inr (2, chg1)), (ch2, .inr (2, chg2)), (ch3, .inr (2, chg3))] sz)) 1 6 (va_A [(x, .inr (12, xg)), (chA, .inl (chC, (4, .inr (.inr (.inr (.inr chF)))))), (ch0, .inr (2, chg0)), (ch1, .inr (2, chg1)), (ch2, .inr (2, chg2)), (ch3, .inr (2, chg3))] sz) := by
  refine vx_ofW (cc := cX12_erase) (maxL := 4) (ret := (some .int)) (by decide) rfl ?_
  intro p e s m args below meth c s₁ B hml ht0 hv
  obtain ⟨rfl, hsz, hP, hK, hD0, hth⟩ := hv
  have hx := B.exec
  have hb := B.bytes
  have hr := B.returns
  have hts : ∀ w ∈ BG, w.before _ s = true := fun w h => atoms_spec (ws := Cond.code yX12_erase cX12_erase 4 (some .int) :: BG) B.pre w (List.mem_cons_of_mem _ h)
  have hown : s.vm.findClass RX12 = some m.cls := findClass_of_methodNamed B.named
  have hlocks := B.notSynchronized
  subst hsz
  have hD := hD0.self (sz := s.heap.size)
  generalize hAe : va_A [(x, .inr (12, xg)), (chA, .inl (chC, (4, .inr (.inr (.inr (.inr chF)))))), (ch0, .inr (2, chg0)), (ch1, .inr (2, chg1)), (ch2, .inr (2, chg2)), (ch3, .inr (2, chg3))] s.heap.size = A at hD hth ⊢
  have hA : ∀ q : Nat, s.heap.size ≤ q → A q := fun q h => by rw [← hAe]; exact Or.inr h
  have hS : va_S A s.heap s.heap [] := va_S.rf
  have hl := lv_entry ([.ref x, .int p0, .int p1]) (n := 4) (Nat.le_of_ble_eq_true rfl)
  rw [lg_entry_eq]
  generalize (lg_sl ([.ref x, .int p0, .int p1]) ++ List.replicate (4 - (lg_sl ([.ref x, .int p0, .int p1])).length) Slot.unset).toArray = ls at hl ⊢
  have hl : lv_has ls 4 [(0, .ref x), (1, .int p0), (2, .int p1)] := hl
  have hFc := va_free (wc := [(x, .inr (12, xg)), (chA, .inl (chC, (4, .inr (.inr (.inr (.inr chF)))))), (ch0, .inr (2, chg0)), (ch1, .inr (2, chg1)), (ch2, .inr (2, chg2)), (ch3, .inr (2, chg3))]) hD hS hA [0, 1, 2, 3, 4, 5] rfl
  refine lv_aload_n hx hb dX12_erase_0 rfl (lv_at hl 0 rfl) ?_
  refine lv_iload_n hx hb dX12_erase_1 rfl (lv_at hl 1 rfl) ?_
  refine vq_thr (vx_runV (As := [.int p0]) (rest := []) ⟨hx, hb, hml, hown, hts⟩ (ct_X12_chipAt l hlt dC dI s.heap.size p0 x xg chA chC chF ch0 ch1 ch2 ch3 chg0 chg1 chg2 chg3 hchg0 hchF0 hchg1 hchF1 hchg2 hchF2 hchg3 hchF3 hxg) (cwV 1 hts (gi_V wd_1835 wd_1837 wd_64 wd_327 wd_1838) rfl rfl rfl (by decide +kernel) ⟨(Nat.le_of_ble_eq_true rfl), (Nat.le_of_ble_eq_true rfl)⟩) ⟨fun a U g mk q => by obtain ⟨q0, q1, qP, qK, qD, qT⟩ := q; exact ⟨q0, q1, qP, va_K.moved (u := U) (U := U.calling g mk a) (Vm.Alike.refl U.vm) qK, qD, th.moved (u := U) (U := U.calling g mk a) (Vm.Alike.refl U.vm) qT⟩, va_recv hK hP (ci := 12) (q0 := 0) rfl rfl, fun U hU hW => ⟨rfl, by rw [hU], by rw [hU]; exact hP, va_K.moved hW.alike hK, hD.weaken (fun _ _ _ _ => trivial), by rw [hU]; exact (hth.narrow hFc).moved hW.alike⟩⟩ rfl rfl hl.1 rfl (lv_room (Nat.le_of_ble_eq_true rfl)) dX12_erase_2 ⟨(Nat.le_of_ble_eq_true rfl), (Nat.le_of_ble_eq_true rfl)⟩) (fun _ _ _ h => h) hS hFc (fun q _ h => hFc q h) (fun E ce q9 u t H1 locs ht hvm hp hB hz hk hS hce hcv hcl => ?_)
  subst hB
  exact vx_out (fun x h9 => (ht0 x h9).elim) hlocks hce hcv hcl (fun t9 ht9 hvm9 => ⟨(), trivial, rfl, hS.F ht9⟩) hS.2.2 (Nat.le_of_ble_eq_true rfl) (Nat.le_of_ble_eq_true rfl)
set_option maxHeartbeats 4000000 in
set_option maxRecDepth 100000 in
theorem ct_X12_check (l : Launch) (hlt : l.stackTraces = false) (dC : Nat → ClassId) (dI : Nat → Nat → Nat) (sz : Nat) (p0 : Int32) (x : Nat) (xg : List Value) (chA : Nat) (chC : ClassId) (chF : Nat → Option Nat) (ch0 ch1 ch2 ch3 : Nat) (chg0 chg1 chg2 chg3 : List Value) (hchg0 : fx chg0 20 [(0, .int 0)]) (hchF0 : chF 0 = some ch0) (hchg1 : fx chg1 20 [(0, .int 0)]) (hchF1 : chF 1 = some ch1) (hchg2 : fx chg2 20 [(0, .int 0)]) (hchF2 : chF 2 = some ch2) (hchg3 : fx chg3 20 [(0, .int 0)]) (hchF3 : chF 3 = some ch3) (hxg : fx xg 17 [(9, .ref chA)]) : vx_Met l yX12_check (Cond.code yX12_check cX12_check 3 (some .int) :: BG) ({ frames := 8, cells := 1, slots := 6, locals := 160 }) (va_Pc [.ref x, .int p0] (fun U => U.heap.size = sz ∧ va_P (dC, dI) CL [(x, .inr (12, xg)), (chA, .inl (chC, (4, .inr (.inr (.inr (.inr chF)))))), (ch0, .inr (2, chg0)), (ch1, .inr (2, chg1)), (ch2, .inr (2, chg2)), (ch3, .inr (2, chg3))] U.heap ∧ va_K (dC, dI) CL [(chC, .object "ChipFlow$Chip")] U ∧ va_D (fun _ => True) [(x, .inr (12, xg)), (chA, .inl (chC, (4, .inr (.inr (.inr (.inr chF)))))), (ch0, .inr (2, chg0)), (ch1, .inr (2, chg1)), (ch2, .inr (2, chg2)), (ch3, .inr (2, chg3))] ∧ th (va_A [(x, .inr (12, xg)), (chA, .inl (chC, (4, .inr (.inr (.inr (.inr chF)))))), (ch0, .inr (2, chg0)), (ch1, .inr (2, chg1)), (ch2, .inr (2, chg2)), (ch3, .inr (2, chg3))] sz) U U.heap)) (fun _ _ _ _ => False) (vx_X (fun _ : Unit => True) (fun E _ _ => E = "java/lang/IndexOutOfBoundsException") (va_A [(x, .inr (12, xg)), (chA, .inl (chC, (4, .inr (.inr (.inr (.inr chF)))))), (ch0, .inr (2, chg0)), (ch1, .inr (2, chg1)), (ch2, .inr (2, chg2)), (ch3, .inr (2, chg3))] sz)) 1 6 (va_A [(x, .inr (12, xg)), (chA, .inl (chC, (4, .inr (.inr (.inr (.inr chF)))))), (ch0, .inr (2, chg0)), (ch1, .inr (2, chg1)), (ch2, .inr (2, chg2)), (ch3, .inr (2, chg3))] sz) := by
  refine vx_ofW (cc := cX12_check) (maxL := 3) (ret := (some .int)) (by decide) rfl ?_
  intro p e s m args below meth c s₁ B hml ht0 hv
  obtain ⟨rfl, hsz, hP, hK, hD0, hth⟩ := hv
  have hx := B.exec
  have hb := B.bytes
  have hr := B.returns
  have hts : ∀ w ∈ BG, w.before _ s = true := fun w h => atoms_spec (ws := Cond.code yX12_check cX12_check 3 (some .int) :: BG) B.pre w (List.mem_cons_of_mem _ h)
  have hown : s.vm.findClass RX12 = some m.cls := findClass_of_methodNamed B.named
  have hlocks := B.notSynchronized
  subst hsz
  have hD := hD0.self (sz := s.heap.size)
  generalize hAe : va_A [(x, .inr (12, xg)), (chA, .inl (chC, (4, .inr (.inr (.inr (.inr chF)))))), (ch0, .inr (2, chg0)), (ch1, .inr (2, chg1)), (ch2, .inr (2, chg2)), (ch3, .inr (2, chg3))] s.heap.size = A at hD hth ⊢
  have hA : ∀ q : Nat, s.heap.size ≤ q → A q := fun q h => by rw [← hAe]; exact Or.inr h
  have hS : va_S A s.heap s.heap [] := va_S.rf
  have hl := lv_entry ([.ref x, .int p0]) (n := 3) (Nat.le_of_ble_eq_true rfl)
  rw [lg_entry_eq]
  generalize (lg_sl ([.ref x, .int p0]) ++ List.replicate (3 - (lg_sl ([.ref x, .int p0])).length) Slot.unset).toArray = ls at hl ⊢
  have hl : lv_has ls 3 [(0, .ref x), (1, .int p0)] := hl
  have hFc := va_free (wc := [(x, .inr (12, xg)), (chA, .inl (chC, (4, .inr (.inr (.inr (.inr chF)))))), (ch0, .inr (2, chg0)), (ch1, .inr (2, chg1)), (ch2, .inr (2, chg2)), (ch3, .inr (2, chg3))]) hD hS hA [0, 1, 2, 3, 4, 5] rfl
  refine lv_aload_n hx hb dX12_check_0 rfl (lv_at hl 0 rfl) ?_
  refine lv_iload_n hx hb dX12_check_1 rfl (lv_at hl 1 rfl) ?_
  refine vq_thr (vx_runV (As := [.int p0]) (rest := []) ⟨hx, hb, hml, hown, hts⟩ (ct_X12_chipAt l hlt dC dI s.heap.size p0 x xg chA chC chF ch0 ch1 ch2 ch3 chg0 chg1 chg2 chg3 hchg0 hchF0 hchg1 hchF1 hchg2 hchF2 hchg3 hchF3 hxg) (cwV 1 hts (gi_V wd_1835 wd_1837 wd_64 wd_327 wd_1838) rfl rfl rfl (by decide +kernel) ⟨(Nat.le_of_ble_eq_true rfl), (Nat.le_of_ble_eq_true rfl)⟩) ⟨fun a U g mk q => by obtain ⟨q0, q1, qP, qK, qD, qT⟩ := q; exact ⟨q0, q1, qP, va_K.moved (u := U) (U := U.calling g mk a) (Vm.Alike.refl U.vm) qK, qD, th.moved (u := U) (U := U.calling g mk a) (Vm.Alike.refl U.vm) qT⟩, va_recv hK hP (ci := 12) (q0 := 0) rfl rfl, fun U hU hW => ⟨rfl, by rw [hU], by rw [hU]; exact hP, va_K.moved hW.alike hK, hD.weaken (fun _ _ _ _ => trivial), by rw [hU]; exact (hth.narrow hFc).moved hW.alike⟩⟩ rfl rfl hl.1 rfl (lv_room (Nat.le_of_ble_eq_true rfl)) dX12_check_2 ⟨(Nat.le_of_ble_eq_true rfl), (Nat.le_of_ble_eq_true rfl)⟩) (fun _ _ _ h => h) hS hFc (fun q _ h => hFc q h) (fun E ce q9 u t H1 locs ht hvm hp hB hz hk hS hce hcv hcl => ?_)
  subst hB
  exact vx_out (fun x h9 => (ht0 x h9).elim) hlocks hce hcv hcl (fun t9 ht9 hvm9 => ⟨(), trivial, rfl, hS.F ht9⟩) hS.2.2 (Nat.le_of_ble_eq_true rfl) (Nat.le_of_ble_eq_true rfl)
set_option maxHeartbeats 4000000 in
set_option maxRecDepth 100000 in
theorem ct_X12_violation (l : Launch) (hlt : l.stackTraces = false) (dC : Nat → ClassId) (dI : Nat → Nat → Nat) (sz : Nat) (p0 p1 p2 : Int32) (x : Nat) (xg : List Value) (chA : Nat) (chC : ClassId) (chF : Nat → Option Nat) (ch0 ch1 ch2 ch3 : Nat) (chg0 chg1 chg2 chg3 : List Value) (hchg0 : fx chg0 20 [(0, .int 0)]) (hchF0 : chF 0 = some ch0) (hchg1 : fx chg1 20 [(0, .int 0)]) (hchF1 : chF 1 = some ch1) (hchg2 : fx chg2 20 [(0, .int 0)]) (hchF2 : chF 2 = some ch2) (hchg3 : fx chg3 20 [(0, .int 0)]) (hchF3 : chF 3 = some ch3) (hxg : fx xg 17 [(9, .ref chA)]) : vx_Met l yX12_violation (Cond.code yX12_violation cX12_violation 5 (some .int) :: BG) ({ frames := 8, cells := 1, slots := 6, locals := 160 }) (va_Pc [.ref x, .int p0, .int p1, .int p2] (fun U => U.heap.size = sz ∧ va_P (dC, dI) CL [(x, .inr (12, xg)), (chA, .inl (chC, (4, .inr (.inr (.inr (.inr chF)))))), (ch0, .inr (2, chg0)), (ch1, .inr (2, chg1)), (ch2, .inr (2, chg2)), (ch3, .inr (2, chg3))] U.heap ∧ va_K (dC, dI) CL [(chC, .object "ChipFlow$Chip")] U ∧ va_D (fun _ => True) [(x, .inr (12, xg)), (chA, .inl (chC, (4, .inr (.inr (.inr (.inr chF)))))), (ch0, .inr (2, chg0)), (ch1, .inr (2, chg1)), (ch2, .inr (2, chg2)), (ch3, .inr (2, chg3))] ∧ th (va_A [(x, .inr (12, xg)), (chA, .inl (chC, (4, .inr (.inr (.inr (.inr chF)))))), (ch0, .inr (2, chg0)), (ch1, .inr (2, chg1)), (ch2, .inr (2, chg2)), (ch3, .inr (2, chg3))] sz) U U.heap)) (fun _ _ _ _ => False) (vx_X (fun _ : Unit => True) (fun E _ _ => E = "java/lang/IndexOutOfBoundsException") (va_A [(x, .inr (12, xg)), (chA, .inl (chC, (4, .inr (.inr (.inr (.inr chF)))))), (ch0, .inr (2, chg0)), (ch1, .inr (2, chg1)), (ch2, .inr (2, chg2)), (ch3, .inr (2, chg3))] sz)) 1 6 (va_A [(x, .inr (12, xg)), (chA, .inl (chC, (4, .inr (.inr (.inr (.inr chF)))))), (ch0, .inr (2, chg0)), (ch1, .inr (2, chg1)), (ch2, .inr (2, chg2)), (ch3, .inr (2, chg3))] sz) := by
  refine vx_ofW (cc := cX12_violation) (maxL := 5) (ret := (some .int)) (by decide) rfl ?_
  intro p e s m args below meth c s₁ B hml ht0 hv
  obtain ⟨rfl, hsz, hP, hK, hD0, hth⟩ := hv
  have hx := B.exec
  have hb := B.bytes
  have hr := B.returns
  have hts : ∀ w ∈ BG, w.before _ s = true := fun w h => atoms_spec (ws := Cond.code yX12_violation cX12_violation 5 (some .int) :: BG) B.pre w (List.mem_cons_of_mem _ h)
  have hown : s.vm.findClass RX12 = some m.cls := findClass_of_methodNamed B.named
  have hlocks := B.notSynchronized
  subst hsz
  have hD := hD0.self (sz := s.heap.size)
  generalize hAe : va_A [(x, .inr (12, xg)), (chA, .inl (chC, (4, .inr (.inr (.inr (.inr chF)))))), (ch0, .inr (2, chg0)), (ch1, .inr (2, chg1)), (ch2, .inr (2, chg2)), (ch3, .inr (2, chg3))] s.heap.size = A at hD hth ⊢
  have hA : ∀ q : Nat, s.heap.size ≤ q → A q := fun q h => by rw [← hAe]; exact Or.inr h
  have hS : va_S A s.heap s.heap [] := va_S.rf
  have hl := lv_entry ([.ref x, .int p0, .int p1, .int p2]) (n := 5) (Nat.le_of_ble_eq_true rfl)
  rw [lg_entry_eq]
  generalize (lg_sl ([.ref x, .int p0, .int p1, .int p2]) ++ List.replicate (5 - (lg_sl ([.ref x, .int p0, .int p1, .int p2])).length) Slot.unset).toArray = ls at hl ⊢
  have hl : lv_has ls 5 [(0, .ref x), (1, .int p0), (2, .int p1), (3, .int p2)] := hl
  have hFc := va_free (wc := [(x, .inr (12, xg)), (chA, .inl (chC, (4, .inr (.inr (.inr (.inr chF)))))), (ch0, .inr (2, chg0)), (ch1, .inr (2, chg1)), (ch2, .inr (2, chg2)), (ch3, .inr (2, chg3))]) hD hS hA [0, 1, 2, 3, 4, 5] rfl
  refine lv_aload_n hx hb dX12_violation_0 rfl (lv_at hl 0 rfl) ?_
  refine lv_iload_n hx hb dX12_violation_1 rfl (lv_at hl 1 rfl) ?_
  refine vq_thr (vx_runV (As := [.int p0]) (rest := []) ⟨hx, hb, hml, hown, hts⟩ (ct_X12_chipAt l hlt dC dI s.heap.size p0 x xg chA chC chF ch0 ch1 ch2 ch3 chg0 chg1 chg2 chg3 hchg0 hchF0 hchg1 hchF1 hchg2 hchF2 hchg3 hchF3 hxg) (cwV 1 hts (gi_V wd_1835 wd_1837 wd_64 wd_327 wd_1838) rfl rfl rfl (by decide +kernel) ⟨(Nat.le_of_ble_eq_true rfl), (Nat.le_of_ble_eq_true rfl)⟩) ⟨fun a U g mk q => by obtain ⟨q0, q1, qP, qK, qD, qT⟩ := q; exact ⟨q0, q1, qP, va_K.moved (u := U) (U := U.calling g mk a) (Vm.Alike.refl U.vm) qK, qD, th.moved (u := U) (U := U.calling g mk a) (Vm.Alike.refl U.vm) qT⟩, va_recv hK hP (ci := 12) (q0 := 0) rfl rfl, fun U hU hW => ⟨rfl, by rw [hU], by rw [hU]; exact hP, va_K.moved hW.alike hK, hD.weaken (fun _ _ _ _ => trivial), by rw [hU]; exact (hth.narrow hFc).moved hW.alike⟩⟩ rfl rfl hl.1 rfl (lv_room (Nat.le_of_ble_eq_true rfl)) dX12_violation_2 ⟨(Nat.le_of_ble_eq_true rfl), (Nat.le_of_ble_eq_true rfl)⟩) (fun _ _ _ h => h) hS hFc (fun q _ h => hFc q h) (fun E ce q9 u t H1 locs ht hvm hp hB hz hk hS hce hcv hcl => ?_)
  subst hB
  exact vx_out (fun x h9 => (ht0 x h9).elim) hlocks hce hcv hcl (fun t9 ht9 hvm9 => ⟨(), trivial, rfl, hS.F ht9⟩) hS.2.2 (Nat.le_of_ble_eq_true rfl) (Nat.le_of_ble_eq_true rfl)
set_option maxHeartbeats 4000000 in
set_option maxRecDepth 100000 in
theorem ct_X12_found (l : Launch) (hlt : l.stackTraces = false) (dC : Nat → ClassId) (dI : Nat → Nat → Nat) (sz : Nat) (p0 p1 : Int32) (x : Nat) (xg : List Value) (chA : Nat) (chC : ClassId) (chF : Nat → Option Nat) (ch0 ch1 ch2 ch3 : Nat) (chg0 chg1 chg2 chg3 : List Value) (hchg0 : fx chg0 20 [(0, .int 0)]) (hchF0 : chF 0 = some ch0) (hchg1 : fx chg1 20 [(0, .int 0)]) (hchF1 : chF 1 = some ch1) (hchg2 : fx chg2 20 [(0, .int 0)]) (hchF2 : chF 2 = some ch2) (hchg3 : fx chg3 20 [(0, .int 0)]) (hchF3 : chF 3 = some ch3) (hxg : fx xg 17 [(9, .ref chA)]) : vx_Met l yX12_found (Cond.code yX12_found cX12_found 5 (some .int) :: BG) ({ frames := 8, cells := 1, slots := 6, locals := 160 }) (va_Pc [.ref x, .int p0, .int p1] (fun U => U.heap.size = sz ∧ va_P (dC, dI) CL [(x, .inr (12, xg)), (chA, .inl (chC, (4, .inr (.inr (.inr (.inr chF)))))), (ch0, .inr (2, chg0)), (ch1, .inr (2, chg1)), (ch2, .inr (2, chg2)), (ch3, .inr (2, chg3))] U.heap ∧ va_K (dC, dI) CL [(chC, .object "ChipFlow$Chip")] U ∧ va_D (fun _ => True) [(x, .inr (12, xg)), (chA, .inl (chC, (4, .inr (.inr (.inr (.inr chF)))))), (ch0, .inr (2, chg0)), (ch1, .inr (2, chg1)), (ch2, .inr (2, chg2)), (ch3, .inr (2, chg3))] ∧ th (va_A [(x, .inr (12, xg)), (chA, .inl (chC, (4, .inr (.inr (.inr (.inr chF)))))), (ch0, .inr (2, chg0)), (ch1, .inr (2, chg1)), (ch2, .inr (2, chg2)), (ch3, .inr (2, chg3))] sz) U U.heap)) (fun _ _ _ _ => False) (vx_X (fun _ : Unit => True) (fun E _ _ => E = "java/lang/IndexOutOfBoundsException") (va_A [(x, .inr (12, xg)), (chA, .inl (chC, (4, .inr (.inr (.inr (.inr chF)))))), (ch0, .inr (2, chg0)), (ch1, .inr (2, chg1)), (ch2, .inr (2, chg2)), (ch3, .inr (2, chg3))] sz)) 1 6 (va_A [(x, .inr (12, xg)), (chA, .inl (chC, (4, .inr (.inr (.inr (.inr chF)))))), (ch0, .inr (2, chg0)), (ch1, .inr (2, chg1)), (ch2, .inr (2, chg2)), (ch3, .inr (2, chg3))] sz) := by
  refine vx_ofW (cc := cX12_found) (maxL := 5) (ret := (some .int)) (by decide) rfl ?_
  intro p e s m args below meth c s₁ B hml ht0 hv
  obtain ⟨rfl, hsz, hP, hK, hD0, hth⟩ := hv
  have hx := B.exec
  have hb := B.bytes
  have hr := B.returns
  have hts : ∀ w ∈ BG, w.before _ s = true := fun w h => atoms_spec (ws := Cond.code yX12_found cX12_found 5 (some .int) :: BG) B.pre w (List.mem_cons_of_mem _ h)
  have hown : s.vm.findClass RX12 = some m.cls := findClass_of_methodNamed B.named
  have hlocks := B.notSynchronized
  subst hsz
  have hD := hD0.self (sz := s.heap.size)
  generalize hAe : va_A [(x, .inr (12, xg)), (chA, .inl (chC, (4, .inr (.inr (.inr (.inr chF)))))), (ch0, .inr (2, chg0)), (ch1, .inr (2, chg1)), (ch2, .inr (2, chg2)), (ch3, .inr (2, chg3))] s.heap.size = A at hD hth ⊢
  have hA : ∀ q : Nat, s.heap.size ≤ q → A q := fun q h => by rw [← hAe]; exact Or.inr h
  have hS : va_S A s.heap s.heap [] := va_S.rf
  have hl := lv_entry ([.ref x, .int p0, .int p1]) (n := 5) (Nat.le_of_ble_eq_true rfl)
  rw [lg_entry_eq]
  generalize (lg_sl ([.ref x, .int p0, .int p1]) ++ List.replicate (5 - (lg_sl ([.ref x, .int p0, .int p1])).length) Slot.unset).toArray = ls at hl ⊢
  have hl : lv_has ls 5 [(0, .ref x), (1, .int p0), (2, .int p1)] := hl
  have hFc := va_free (wc := [(x, .inr (12, xg)), (chA, .inl (chC, (4, .inr (.inr (.inr (.inr chF)))))), (ch0, .inr (2, chg0)), (ch1, .inr (2, chg1)), (ch2, .inr (2, chg2)), (ch3, .inr (2, chg3))]) hD hS hA [0, 1, 2, 3, 4, 5] rfl
  refine lv_aload_n hx hb dX12_found_0 rfl (lv_at hl 0 rfl) ?_
  refine lv_iload_n hx hb dX12_found_1 rfl (lv_at hl 1 rfl) ?_
  refine vq_thr (vx_runV (As := [.int p0]) (rest := []) ⟨hx, hb, hml, hown, hts⟩ (ct_X12_chipAt l hlt dC dI s.heap.size p0 x xg chA chC chF ch0 ch1 ch2 ch3 chg0 chg1 chg2 chg3 hchg0 hchF0 hchg1 hchF1 hchg2 hchF2 hchg3 hchF3 hxg) (cwV 1 hts (gi_V wd_1835 wd_1837 wd_64 wd_327 wd_1838) rfl rfl rfl (by decide +kernel) ⟨(Nat.le_of_ble_eq_true rfl), (Nat.le_of_ble_eq_true rfl)⟩) ⟨fun a U g mk q => by obtain ⟨q0, q1, qP, qK, qD, qT⟩ := q; exact ⟨q0, q1, qP, va_K.moved (u := U) (U := U.calling g mk a) (Vm.Alike.refl U.vm) qK, qD, th.moved (u := U) (U := U.calling g mk a) (Vm.Alike.refl U.vm) qT⟩, va_recv hK hP (ci := 12) (q0 := 0) rfl rfl, fun U hU hW => ⟨rfl, by rw [hU], by rw [hU]; exact hP, va_K.moved hW.alike hK, hD.weaken (fun _ _ _ _ => trivial), by rw [hU]; exact (hth.narrow hFc).moved hW.alike⟩⟩ rfl rfl hl.1 rfl (lv_room (Nat.le_of_ble_eq_true rfl)) dX12_found_2 ⟨(Nat.le_of_ble_eq_true rfl), (Nat.le_of_ble_eq_true rfl)⟩) (fun _ _ _ h => h) hS hFc (fun q _ h => hFc q h) (fun E ce q9 u t H1 locs ht hvm hp hB hz hk hS hce hcv hcl => ?_)
  subst hB
  exact vx_out (fun x h9 => (ht0 x h9).elim) hlocks hce hcv hcl (fun t9 ht9 hvm9 => ⟨(), trivial, rfl, hS.F ht9⟩) hS.2.2 (Nat.le_of_ble_eq_true rfl) (Nat.le_of_ble_eq_true rfl)
set_option maxHeartbeats 4000000 in
set_option maxRecDepth 100000 in
theorem ct_X12_arrival (l : Launch) (hlt : l.stackTraces = false) (dC : Nat → ClassId) (dI : Nat → Nat → Nat) (sz : Nat) (p0 p1 p2 : Int32) (x : Nat) (xg : List Value) (chA : Nat) (chC : ClassId) (chF : Nat → Option Nat) (ch0 ch1 ch2 ch3 : Nat) (chg0 chg1 chg2 chg3 : List Value) (hchg0 : fx chg0 20 [(0, .int 0)]) (hchF0 : chF 0 = some ch0) (hchg1 : fx chg1 20 [(0, .int 0)]) (hchF1 : chF 1 = some ch1) (hchg2 : fx chg2 20 [(0, .int 0)]) (hchF2 : chF 2 = some ch2) (hchg3 : fx chg3 20 [(0, .int 0)]) (hchF3 : chF 3 = some ch3) (hxg : fx xg 17 [(9, .ref chA)]) : vx_Met l yX12_arrival (Cond.code yX12_arrival cX12_arrival 5 (some .int) :: BG) ({ frames := 8, cells := 1, slots := 6, locals := 160 }) (va_Pc [.ref x, .int p0, .int p1, .int p2] (fun U => U.heap.size = sz ∧ va_P (dC, dI) CL [(x, .inr (12, xg)), (chA, .inl (chC, (4, .inr (.inr (.inr (.inr chF)))))), (ch0, .inr (2, chg0)), (ch1, .inr (2, chg1)), (ch2, .inr (2, chg2)), (ch3, .inr (2, chg3))] U.heap ∧ va_K (dC, dI) CL [(chC, .object "ChipFlow$Chip")] U ∧ va_D (fun _ => True) [(x, .inr (12, xg)), (chA, .inl (chC, (4, .inr (.inr (.inr (.inr chF)))))), (ch0, .inr (2, chg0)), (ch1, .inr (2, chg1)), (ch2, .inr (2, chg2)), (ch3, .inr (2, chg3))] ∧ th (va_A [(x, .inr (12, xg)), (chA, .inl (chC, (4, .inr (.inr (.inr (.inr chF)))))), (ch0, .inr (2, chg0)), (ch1, .inr (2, chg1)), (ch2, .inr (2, chg2)), (ch3, .inr (2, chg3))] sz) U U.heap)) (fun _ _ _ _ => False) (vx_X (fun _ : Unit => True) (fun E _ _ => E = "java/lang/IndexOutOfBoundsException") (va_A [(x, .inr (12, xg)), (chA, .inl (chC, (4, .inr (.inr (.inr (.inr chF)))))), (ch0, .inr (2, chg0)), (ch1, .inr (2, chg1)), (ch2, .inr (2, chg2)), (ch3, .inr (2, chg3))] sz)) 1 6 (va_A [(x, .inr (12, xg)), (chA, .inl (chC, (4, .inr (.inr (.inr (.inr chF)))))), (ch0, .inr (2, chg0)), (ch1, .inr (2, chg1)), (ch2, .inr (2, chg2)), (ch3, .inr (2, chg3))] sz) := by
  refine vx_ofW (cc := cX12_arrival) (maxL := 5) (ret := (some .int)) (by decide) rfl ?_
  intro p e s m args below meth c s₁ B hml ht0 hv
  obtain ⟨rfl, hsz, hP, hK, hD0, hth⟩ := hv
  have hx := B.exec
  have hb := B.bytes
  have hr := B.returns
  have hts : ∀ w ∈ BG, w.before _ s = true := fun w h => atoms_spec (ws := Cond.code yX12_arrival cX12_arrival 5 (some .int) :: BG) B.pre w (List.mem_cons_of_mem _ h)
  have hown : s.vm.findClass RX12 = some m.cls := findClass_of_methodNamed B.named
  have hlocks := B.notSynchronized
  subst hsz
  have hD := hD0.self (sz := s.heap.size)
  generalize hAe : va_A [(x, .inr (12, xg)), (chA, .inl (chC, (4, .inr (.inr (.inr (.inr chF)))))), (ch0, .inr (2, chg0)), (ch1, .inr (2, chg1)), (ch2, .inr (2, chg2)), (ch3, .inr (2, chg3))] s.heap.size = A at hD hth ⊢
  have hA : ∀ q : Nat, s.heap.size ≤ q → A q := fun q h => by rw [← hAe]; exact Or.inr h
  have hS : va_S A s.heap s.heap [] := va_S.rf
  have hl := lv_entry ([.ref x, .int p0, .int p1, .int p2]) (n := 5) (Nat.le_of_ble_eq_true rfl)
  rw [lg_entry_eq]
  generalize (lg_sl ([.ref x, .int p0, .int p1, .int p2]) ++ List.replicate (5 - (lg_sl ([.ref x, .int p0, .int p1, .int p2])).length) Slot.unset).toArray = ls at hl ⊢
  have hl : lv_has ls 5 [(0, .ref x), (1, .int p0), (2, .int p1), (3, .int p2)] := hl
  have hFc := va_free (wc := [(x, .inr (12, xg)), (chA, .inl (chC, (4, .inr (.inr (.inr (.inr chF)))))), (ch0, .inr (2, chg0)), (ch1, .inr (2, chg1)), (ch2, .inr (2, chg2)), (ch3, .inr (2, chg3))]) hD hS hA [0, 1, 2, 3, 4, 5] rfl
  refine lv_aload_n hx hb dX12_arrival_0 rfl (lv_at hl 0 rfl) ?_
  refine lv_iload_n hx hb dX12_arrival_1 rfl (lv_at hl 1 rfl) ?_
  refine vq_thr (vx_runV (As := [.int p0]) (rest := []) ⟨hx, hb, hml, hown, hts⟩ (ct_X12_chipAt l hlt dC dI s.heap.size p0 x xg chA chC chF ch0 ch1 ch2 ch3 chg0 chg1 chg2 chg3 hchg0 hchF0 hchg1 hchF1 hchg2 hchF2 hchg3 hchF3 hxg) (cwV 1 hts (gi_V wd_1835 wd_1837 wd_64 wd_327 wd_1838) rfl rfl rfl (by decide +kernel) ⟨(Nat.le_of_ble_eq_true rfl), (Nat.le_of_ble_eq_true rfl)⟩) ⟨fun a U g mk q => by obtain ⟨q0, q1, qP, qK, qD, qT⟩ := q; exact ⟨q0, q1, qP, va_K.moved (u := U) (U := U.calling g mk a) (Vm.Alike.refl U.vm) qK, qD, th.moved (u := U) (U := U.calling g mk a) (Vm.Alike.refl U.vm) qT⟩, va_recv hK hP (ci := 12) (q0 := 0) rfl rfl, fun U hU hW => ⟨rfl, by rw [hU], by rw [hU]; exact hP, va_K.moved hW.alike hK, hD.weaken (fun _ _ _ _ => trivial), by rw [hU]; exact (hth.narrow hFc).moved hW.alike⟩⟩ rfl rfl hl.1 rfl (lv_room (Nat.le_of_ble_eq_true rfl)) dX12_arrival_2 ⟨(Nat.le_of_ble_eq_true rfl), (Nat.le_of_ble_eq_true rfl)⟩) (fun _ _ _ h => h) hS hFc (fun q _ h => hFc q h) (fun E ce q9 u t H1 locs ht hvm hp hB hz hk hS hce hcv hcl => ?_)
  subst hB
  exact vx_out (fun x h9 => (ht0 x h9).elim) hlocks hce hcv hcl (fun t9 ht9 hvm9 => ⟨(), trivial, rfl, hS.F ht9⟩) hS.2.2 (Nat.le_of_ble_eq_true rfl) (Nat.le_of_ble_eq_true rfl)
set_option maxHeartbeats 4000000 in
set_option maxRecDepth 100000 in
theorem ct_X12_falsify (l : Launch) (hlt : l.stackTraces = false) (dC : Nat → ClassId) (dI : Nat → Nat → Nat) (sz : Nat) (p0 p1 p2 : Int32) (x : Nat) (xg : List Value) (chA : Nat) (chC : ClassId) (chF : Nat → Option Nat) (ch0 ch1 ch2 ch3 : Nat) (chg0 chg1 chg2 chg3 : List Value) (hchg0 : fx chg0 20 [(0, .int 0)]) (hchF0 : chF 0 = some ch0) (hchg1 : fx chg1 20 [(0, .int 0)]) (hchF1 : chF 1 = some ch1) (hchg2 : fx chg2 20 [(0, .int 0)]) (hchF2 : chF 2 = some ch2) (hchg3 : fx chg3 20 [(0, .int 0)]) (hchF3 : chF 3 = some ch3) (hxg : fx xg 17 [(9, .ref chA)]) : vx_Met l yX12_falsify (Cond.code yX12_falsify cX12_falsify 5 (some .boolean) :: BG) ({ frames := 8, cells := 1, slots := 6, locals := 160 }) (va_Pc [.ref x, .int p0, .int p1, .int p2] (fun U => U.heap.size = sz ∧ va_P (dC, dI) CL [(x, .inr (12, xg)), (chA, .inl (chC, (4, .inr (.inr (.inr (.inr chF)))))), (ch0, .inr (2, chg0)), (ch1, .inr (2, chg1)), (ch2, .inr (2, chg2)), (ch3, .inr (2, chg3))] U.heap ∧ va_K (dC, dI) CL [(chC, .object "ChipFlow$Chip")] U ∧ va_D (fun _ => True) [(x, .inr (12, xg)), (chA, .inl (chC, (4, .inr (.inr (.inr (.inr chF)))))), (ch0, .inr (2, chg0)), (ch1, .inr (2, chg1)), (ch2, .inr (2, chg2)), (ch3, .inr (2, chg3))] ∧ th (va_A [(x, .inr (12, xg)), (chA, .inl (chC, (4, .inr (.inr (.inr (.inr chF)))))), (ch0, .inr (2, chg0)), (ch1, .inr (2, chg1)), (ch2, .inr (2, chg2)), (ch3, .inr (2, chg3))] sz) U U.heap)) (fun _ _ _ _ => False) (vx_X (fun _ : Unit => True) (fun E _ _ => E = "java/lang/IndexOutOfBoundsException") (va_A [(x, .inr (12, xg)), (chA, .inl (chC, (4, .inr (.inr (.inr (.inr chF)))))), (ch0, .inr (2, chg0)), (ch1, .inr (2, chg1)), (ch2, .inr (2, chg2)), (ch3, .inr (2, chg3))] sz)) 1 6 (va_A [(x, .inr (12, xg)), (chA, .inl (chC, (4, .inr (.inr (.inr (.inr chF)))))), (ch0, .inr (2, chg0)), (ch1, .inr (2, chg1)), (ch2, .inr (2, chg2)), (ch3, .inr (2, chg3))] sz) := by
  refine vx_ofW (cc := cX12_falsify) (maxL := 5) (ret := (some .boolean)) (by decide) rfl ?_
  intro p e s m args below meth c s₁ B hml ht0 hv
  obtain ⟨rfl, hsz, hP, hK, hD0, hth⟩ := hv
  have hx := B.exec
  have hb := B.bytes
  have hr := B.returns
  have hts : ∀ w ∈ BG, w.before _ s = true := fun w h => atoms_spec (ws := Cond.code yX12_falsify cX12_falsify 5 (some .boolean) :: BG) B.pre w (List.mem_cons_of_mem _ h)
  have hown : s.vm.findClass RX12 = some m.cls := findClass_of_methodNamed B.named
  have hlocks := B.notSynchronized
  subst hsz
  have hD := hD0.self (sz := s.heap.size)
  generalize hAe : va_A [(x, .inr (12, xg)), (chA, .inl (chC, (4, .inr (.inr (.inr (.inr chF)))))), (ch0, .inr (2, chg0)), (ch1, .inr (2, chg1)), (ch2, .inr (2, chg2)), (ch3, .inr (2, chg3))] s.heap.size = A at hD hth ⊢
  have hA : ∀ q : Nat, s.heap.size ≤ q → A q := fun q h => by rw [← hAe]; exact Or.inr h
  have hS : va_S A s.heap s.heap [] := va_S.rf
  have hl := lv_entry ([.ref x, .int p0, .int p1, .int p2]) (n := 5) (Nat.le_of_ble_eq_true rfl)
  rw [lg_entry_eq]
  generalize (lg_sl ([.ref x, .int p0, .int p1, .int p2]) ++ List.replicate (5 - (lg_sl ([.ref x, .int p0, .int p1, .int p2])).length) Slot.unset).toArray = ls at hl ⊢
  have hl : lv_has ls 5 [(0, .ref x), (1, .int p0), (2, .int p1), (3, .int p2)] := hl
  have hFc := va_free (wc := [(x, .inr (12, xg)), (chA, .inl (chC, (4, .inr (.inr (.inr (.inr chF)))))), (ch0, .inr (2, chg0)), (ch1, .inr (2, chg1)), (ch2, .inr (2, chg2)), (ch3, .inr (2, chg3))]) hD hS hA [0, 1, 2, 3, 4, 5] rfl
  refine lv_aload_n hx hb dX12_falsify_0 rfl (lv_at hl 0 rfl) ?_
  refine lv_iload_n hx hb dX12_falsify_1 rfl (lv_at hl 1 rfl) ?_
  refine vq_thr (vx_runV (As := [.int p0]) (rest := []) ⟨hx, hb, hml, hown, hts⟩ (ct_X12_chipAt l hlt dC dI s.heap.size p0 x xg chA chC chF ch0 ch1 ch2 ch3 chg0 chg1 chg2 chg3 hchg0 hchF0 hchg1 hchF1 hchg2 hchF2 hchg3 hchF3 hxg) (cwV 1 hts (gi_V wd_1835 wd_1837 wd_64 wd_327 wd_1838) rfl rfl rfl (by decide +kernel) ⟨(Nat.le_of_ble_eq_true rfl), (Nat.le_of_ble_eq_true rfl)⟩) ⟨fun a U g mk q => by obtain ⟨q0, q1, qP, qK, qD, qT⟩ := q; exact ⟨q0, q1, qP, va_K.moved (u := U) (U := U.calling g mk a) (Vm.Alike.refl U.vm) qK, qD, th.moved (u := U) (U := U.calling g mk a) (Vm.Alike.refl U.vm) qT⟩, va_recv hK hP (ci := 12) (q0 := 0) rfl rfl, fun U hU hW => ⟨rfl, by rw [hU], by rw [hU]; exact hP, va_K.moved hW.alike hK, hD.weaken (fun _ _ _ _ => trivial), by rw [hU]; exact (hth.narrow hFc).moved hW.alike⟩⟩ rfl rfl hl.1 rfl (lv_room (Nat.le_of_ble_eq_true rfl)) dX12_falsify_2 ⟨(Nat.le_of_ble_eq_true rfl), (Nat.le_of_ble_eq_true rfl)⟩) (fun _ _ _ h => h) hS hFc (fun q _ h => hFc q h) (fun E ce q9 u t H1 locs ht hvm hp hB hz hk hS hce hcv hcl => ?_)
  subst hB
  exact vx_out (fun x h9 => (ht0 x h9).elim) hlocks hce hcv hcl (fun t9 ht9 hvm9 => ⟨(), trivial, rfl, hS.F ht9⟩) hS.2.2 (Nat.le_of_ble_eq_true rfl) (Nat.le_of_ble_eq_true rfl)
set_option maxHeartbeats 4000000 in
set_option maxRecDepth 100000 in
theorem ct_X12_path (l : Launch) (hlt : l.stackTraces = false) (dC : Nat → ClassId) (dI : Nat → Nat → Nat) (sz : Nat) (p0 p1 p2 : Int32) (x : Nat) (xg : List Value) (chA : Nat) (chC : ClassId) (chF : Nat → Option Nat) (ch0 ch1 ch2 ch3 : Nat) (chg0 chg1 chg2 chg3 : List Value) (hchg0 : fx chg0 20 [(0, .int 0)]) (hchF0 : chF 0 = some ch0) (hchg1 : fx chg1 20 [(0, .int 0)]) (hchF1 : chF 1 = some ch1) (hchg2 : fx chg2 20 [(0, .int 0)]) (hchF2 : chF 2 = some ch2) (hchg3 : fx chg3 20 [(0, .int 0)]) (hchF3 : chF 3 = some ch3) (hxg : fx xg 17 [(9, .ref chA)]) : vx_Met l yX12_path (Cond.code yX12_path cX12_path 5 (some .int) :: BG) ({ frames := 8, cells := 1, slots := 6, locals := 160 }) (va_Pc [.ref x, .int p0, .int p1, .int p2] (fun U => U.heap.size = sz ∧ va_P (dC, dI) CL [(x, .inr (12, xg)), (chA, .inl (chC, (4, .inr (.inr (.inr (.inr chF)))))), (ch0, .inr (2, chg0)), (ch1, .inr (2, chg1)), (ch2, .inr (2, chg2)), (ch3, .inr (2, chg3))] U.heap ∧ va_K (dC, dI) CL [(chC, .object "ChipFlow$Chip")] U ∧ va_D (fun _ => True) [(x, .inr (12, xg)), (chA, .inl (chC, (4, .inr (.inr (.inr (.inr chF)))))), (ch0, .inr (2, chg0)), (ch1, .inr (2, chg1)), (ch2, .inr (2, chg2)), (ch3, .inr (2, chg3))] ∧ th (va_A [(x, .inr (12, xg)), (chA, .inl (chC, (4, .inr (.inr (.inr (.inr chF)))))), (ch0, .inr (2, chg0)), (ch1, .inr (2, chg1)), (ch2, .inr (2, chg2)), (ch3, .inr (2, chg3))] sz) U U.heap)) (fun _ _ _ _ => False) (vx_X (fun _ : Unit => True) (fun E _ _ => E = "java/lang/IndexOutOfBoundsException") (va_A [(x, .inr (12, xg)), (chA, .inl (chC, (4, .inr (.inr (.inr (.inr chF)))))), (ch0, .inr (2, chg0)), (ch1, .inr (2, chg1)), (ch2, .inr (2, chg2)), (ch3, .inr (2, chg3))] sz)) 1 6 (va_A [(x, .inr (12, xg)), (chA, .inl (chC, (4, .inr (.inr (.inr (.inr chF)))))), (ch0, .inr (2, chg0)), (ch1, .inr (2, chg1)), (ch2, .inr (2, chg2)), (ch3, .inr (2, chg3))] sz) := by
  refine vx_ofW (cc := cX12_path) (maxL := 5) (ret := (some .int)) (by decide) rfl ?_
  intro p e s m args below meth c s₁ B hml ht0 hv
  obtain ⟨rfl, hsz, hP, hK, hD0, hth⟩ := hv
  have hx := B.exec
  have hb := B.bytes
  have hr := B.returns
  have hts : ∀ w ∈ BG, w.before _ s = true := fun w h => atoms_spec (ws := Cond.code yX12_path cX12_path 5 (some .int) :: BG) B.pre w (List.mem_cons_of_mem _ h)
  have hown : s.vm.findClass RX12 = some m.cls := findClass_of_methodNamed B.named
  have hlocks := B.notSynchronized
  subst hsz
  have hD := hD0.self (sz := s.heap.size)
  generalize hAe : va_A [(x, .inr (12, xg)), (chA, .inl (chC, (4, .inr (.inr (.inr (.inr chF)))))), (ch0, .inr (2, chg0)), (ch1, .inr (2, chg1)), (ch2, .inr (2, chg2)), (ch3, .inr (2, chg3))] s.heap.size = A at hD hth ⊢
  have hA : ∀ q : Nat, s.heap.size ≤ q → A q := fun q h => by rw [← hAe]; exact Or.inr h
  have hS : va_S A s.heap s.heap [] := va_S.rf
  have hl := lv_entry ([.ref x, .int p0, .int p1, .int p2]) (n := 5) (Nat.le_of_ble_eq_true rfl)
  rw [lg_entry_eq]
  generalize (lg_sl ([.ref x, .int p0, .int p1, .int p2]) ++ List.replicate (5 - (lg_sl ([.ref x, .int p0, .int p1, .int p2])).length) Slot.unset).toArray = ls at hl ⊢
  have hl : lv_has ls 5 [(0, .ref x), (1, .int p0), (2, .int p1), (3, .int p2)] := hl
  have hFc := va_free (wc := [(x, .inr (12, xg)), (chA, .inl (chC, (4, .inr (.inr (.inr (.inr chF)))))), (ch0, .inr (2, chg0)), (ch1, .inr (2, chg1)), (ch2, .inr (2, chg2)), (ch3, .inr (2, chg3))]) hD hS hA [0, 1, 2, 3, 4, 5] rfl
  refine lv_aload_n hx hb dX12_path_0 rfl (lv_at hl 0 rfl) ?_
  refine lv_iload_n hx hb dX12_path_1 rfl (lv_at hl 1 rfl) ?_
  refine vq_thr (vx_runV (As := [.int p0]) (rest := []) ⟨hx, hb, hml, hown, hts⟩ (ct_X12_chipAt l hlt dC dI s.heap.size p0 x xg chA chC chF ch0 ch1 ch2 ch3 chg0 chg1 chg2 chg3 hchg0 hchF0 hchg1 hchF1 hchg2 hchF2 hchg3 hchF3 hxg) (cwV 1 hts (gi_V wd_1835 wd_1837 wd_64 wd_327 wd_1838) rfl rfl rfl (by decide +kernel) ⟨(Nat.le_of_ble_eq_true rfl), (Nat.le_of_ble_eq_true rfl)⟩) ⟨fun a U g mk q => by obtain ⟨q0, q1, qP, qK, qD, qT⟩ := q; exact ⟨q0, q1, qP, va_K.moved (u := U) (U := U.calling g mk a) (Vm.Alike.refl U.vm) qK, qD, th.moved (u := U) (U := U.calling g mk a) (Vm.Alike.refl U.vm) qT⟩, va_recv hK hP (ci := 12) (q0 := 0) rfl rfl, fun U hU hW => ⟨rfl, by rw [hU], by rw [hU]; exact hP, va_K.moved hW.alike hK, hD.weaken (fun _ _ _ _ => trivial), by rw [hU]; exact (hth.narrow hFc).moved hW.alike⟩⟩ rfl rfl hl.1 rfl (lv_room (Nat.le_of_ble_eq_true rfl)) dX12_path_2 ⟨(Nat.le_of_ble_eq_true rfl), (Nat.le_of_ble_eq_true rfl)⟩) (fun _ _ _ h => h) hS hFc (fun q _ h => hFc q h) (fun E ce q9 u t H1 locs ht hvm hp hB hz hk hS hce hcv hcl => ?_)
  subst hB
  exact vx_out (fun x h9 => (ht0 x h9).elim) hlocks hce hcv hcl (fun t9 ht9 hvm9 => ⟨(), trivial, rfl, hS.F ht9⟩) hS.2.2 (Nat.le_of_ble_eq_true rfl) (Nat.le_of_ble_eq_true rfl)
set_option maxHeartbeats 4000000 in
set_option maxRecDepth 100000 in
theorem ct_X12_wave (l : Launch) (hlt : l.stackTraces = false) (dC : Nat → ClassId) (dI : Nat → Nat → Nat) (sz : Nat) (p0 p1 p2 p3 p4 : Int32) (x : Nat) (xg : List Value) (chA : Nat) (chC : ClassId) (chF : Nat → Option Nat) (ch0 ch1 ch2 ch3 : Nat) (chg0 chg1 chg2 chg3 : List Value) (hchg0 : fx chg0 20 [(0, .int 0)]) (hchF0 : chF 0 = some ch0) (hchg1 : fx chg1 20 [(0, .int 0)]) (hchF1 : chF 1 = some ch1) (hchg2 : fx chg2 20 [(0, .int 0)]) (hchF2 : chF 2 = some ch2) (hchg3 : fx chg3 20 [(0, .int 0)]) (hchF3 : chF 3 = some ch3) (hxg : fx xg 17 [(9, .ref chA)]) : vx_Met l yX12_wave (Cond.code yX12_wave cX12_wave 7 (some .int) :: BG) ({ frames := 8, cells := 1, slots := 6, locals := 160 }) (va_Pc [.ref x, .int p0, .int p1, .int p2, .int p3, .int p4] (fun U => U.heap.size = sz ∧ va_P (dC, dI) CL [(x, .inr (12, xg)), (chA, .inl (chC, (4, .inr (.inr (.inr (.inr chF)))))), (ch0, .inr (2, chg0)), (ch1, .inr (2, chg1)), (ch2, .inr (2, chg2)), (ch3, .inr (2, chg3))] U.heap ∧ va_K (dC, dI) CL [(chC, .object "ChipFlow$Chip")] U ∧ va_D (fun _ => True) [(x, .inr (12, xg)), (chA, .inl (chC, (4, .inr (.inr (.inr (.inr chF)))))), (ch0, .inr (2, chg0)), (ch1, .inr (2, chg1)), (ch2, .inr (2, chg2)), (ch3, .inr (2, chg3))] ∧ th (va_A [(x, .inr (12, xg)), (chA, .inl (chC, (4, .inr (.inr (.inr (.inr chF)))))), (ch0, .inr (2, chg0)), (ch1, .inr (2, chg1)), (ch2, .inr (2, chg2)), (ch3, .inr (2, chg3))] sz) U U.heap)) (fun _ _ _ _ => False) (vx_X (fun _ : Unit => True) (fun E _ _ => E = "java/lang/IndexOutOfBoundsException") (va_A [(x, .inr (12, xg)), (chA, .inl (chC, (4, .inr (.inr (.inr (.inr chF)))))), (ch0, .inr (2, chg0)), (ch1, .inr (2, chg1)), (ch2, .inr (2, chg2)), (ch3, .inr (2, chg3))] sz)) 1 6 (va_A [(x, .inr (12, xg)), (chA, .inl (chC, (4, .inr (.inr (.inr (.inr chF)))))), (ch0, .inr (2, chg0)), (ch1, .inr (2, chg1)), (ch2, .inr (2, chg2)), (ch3, .inr (2, chg3))] sz) := by
  refine vx_ofW (cc := cX12_wave) (maxL := 7) (ret := (some .int)) (by decide) rfl ?_
  intro p e s m args below meth c s₁ B hml ht0 hv
  obtain ⟨rfl, hsz, hP, hK, hD0, hth⟩ := hv
  have hx := B.exec
  have hb := B.bytes
  have hr := B.returns
  have hts : ∀ w ∈ BG, w.before _ s = true := fun w h => atoms_spec (ws := Cond.code yX12_wave cX12_wave 7 (some .int) :: BG) B.pre w (List.mem_cons_of_mem _ h)
  have hown : s.vm.findClass RX12 = some m.cls := findClass_of_methodNamed B.named
  have hlocks := B.notSynchronized
  subst hsz
  have hD := hD0.self (sz := s.heap.size)
  generalize hAe : va_A [(x, .inr (12, xg)), (chA, .inl (chC, (4, .inr (.inr (.inr (.inr chF)))))), (ch0, .inr (2, chg0)), (ch1, .inr (2, chg1)), (ch2, .inr (2, chg2)), (ch3, .inr (2, chg3))] s.heap.size = A at hD hth ⊢
  have hA : ∀ q : Nat, s.heap.size ≤ q → A q := fun q h => by rw [← hAe]; exact Or.inr h
  have hS : va_S A s.heap s.heap [] := va_S.rf
  have hl := lv_entry ([.ref x, .int p0, .int p1, .int p2, .int p3, .int p4]) (n := 7) (Nat.le_of_ble_eq_true rfl)
  rw [lg_entry_eq]
  generalize (lg_sl ([.ref x, .int p0, .int p1, .int p2, .int p3, .int p4]) ++ List.replicate (7 - (lg_sl ([.ref x, .int p0, .int p1, .int p2, .int p3, .int p4])).length) Slot.unset).toArray = ls at hl ⊢
  have hl : lv_has ls 7 [(0, .ref x), (1, .int p0), (2, .int p1), (3, .int p2), (4, .int p3), (5, .int p4)] := hl
  have hFc := va_free (wc := [(x, .inr (12, xg)), (chA, .inl (chC, (4, .inr (.inr (.inr (.inr chF)))))), (ch0, .inr (2, chg0)), (ch1, .inr (2, chg1)), (ch2, .inr (2, chg2)), (ch3, .inr (2, chg3))]) hD hS hA [0, 1, 2, 3, 4, 5] rfl
  refine lv_aload_n hx hb dX12_wave_0 rfl (lv_at hl 0 rfl) ?_
  refine lv_iload_n hx hb dX12_wave_1 rfl (lv_at hl 1 rfl) ?_
  refine vq_thr (vx_runV (As := [.int p0]) (rest := []) ⟨hx, hb, hml, hown, hts⟩ (ct_X12_chipAt l hlt dC dI s.heap.size p0 x xg chA chC chF ch0 ch1 ch2 ch3 chg0 chg1 chg2 chg3 hchg0 hchF0 hchg1 hchF1 hchg2 hchF2 hchg3 hchF3 hxg) (cwV 1 hts (gi_V wd_1835 wd_1837 wd_64 wd_327 wd_1838) rfl rfl rfl (by decide +kernel) ⟨(Nat.le_of_ble_eq_true rfl), (Nat.le_of_ble_eq_true rfl)⟩) ⟨fun a U g mk q => by obtain ⟨q0, q1, qP, qK, qD, qT⟩ := q; exact ⟨q0, q1, qP, va_K.moved (u := U) (U := U.calling g mk a) (Vm.Alike.refl U.vm) qK, qD, th.moved (u := U) (U := U.calling g mk a) (Vm.Alike.refl U.vm) qT⟩, va_recv hK hP (ci := 12) (q0 := 0) rfl rfl, fun U hU hW => ⟨rfl, by rw [hU], by rw [hU]; exact hP, va_K.moved hW.alike hK, hD.weaken (fun _ _ _ _ => trivial), by rw [hU]; exact (hth.narrow hFc).moved hW.alike⟩⟩ rfl rfl hl.1 rfl (lv_room (Nat.le_of_ble_eq_true rfl)) dX12_wave_2 ⟨(Nat.le_of_ble_eq_true rfl), (Nat.le_of_ble_eq_true rfl)⟩) (fun _ _ _ h => h) hS hFc (fun q _ h => hFc q h) (fun E ce q9 u t H1 locs ht hvm hp hB hz hk hS hce hcv hcl => ?_)
  subst hB
  exact vx_out (fun x h9 => (ht0 x h9).elim) hlocks hce hcv hcl (fun t9 ht9 hvm9 => ⟨(), trivial, rfl, hS.F ht9⟩) hS.2.2 (Nat.le_of_ble_eq_true rfl) (Nat.le_of_ble_eq_true rfl)
set_option maxHeartbeats 4000000 in
set_option maxRecDepth 100000 in
theorem ct_X12_changes (l : Launch) (hlt : l.stackTraces = false) (dC : Nat → ClassId) (dI : Nat → Nat → Nat) (sz : Nat) (p0 p1 p2 p3 : Int32) (x : Nat) (xg : List Value) (chA : Nat) (chC : ClassId) (chF : Nat → Option Nat) (ch0 ch1 ch2 ch3 : Nat) (chg0 chg1 chg2 chg3 : List Value) (hchg0 : fx chg0 20 [(0, .int 0)]) (hchF0 : chF 0 = some ch0) (hchg1 : fx chg1 20 [(0, .int 0)]) (hchF1 : chF 1 = some ch1) (hchg2 : fx chg2 20 [(0, .int 0)]) (hchF2 : chF 2 = some ch2) (hchg3 : fx chg3 20 [(0, .int 0)]) (hchF3 : chF 3 = some ch3) (hxg : fx xg 17 [(9, .ref chA)]) : vx_Met l yX12_changes (Cond.code yX12_changes cX12_changes 6 (some .int) :: BG) ({ frames := 8, cells := 1, slots := 6, locals := 160 }) (va_Pc [.ref x, .int p0, .int p1, .int p2, .int p3] (fun U => U.heap.size = sz ∧ va_P (dC, dI) CL [(x, .inr (12, xg)), (chA, .inl (chC, (4, .inr (.inr (.inr (.inr chF)))))), (ch0, .inr (2, chg0)), (ch1, .inr (2, chg1)), (ch2, .inr (2, chg2)), (ch3, .inr (2, chg3))] U.heap ∧ va_K (dC, dI) CL [(chC, .object "ChipFlow$Chip")] U ∧ va_D (fun _ => True) [(x, .inr (12, xg)), (chA, .inl (chC, (4, .inr (.inr (.inr (.inr chF)))))), (ch0, .inr (2, chg0)), (ch1, .inr (2, chg1)), (ch2, .inr (2, chg2)), (ch3, .inr (2, chg3))] ∧ th (va_A [(x, .inr (12, xg)), (chA, .inl (chC, (4, .inr (.inr (.inr (.inr chF)))))), (ch0, .inr (2, chg0)), (ch1, .inr (2, chg1)), (ch2, .inr (2, chg2)), (ch3, .inr (2, chg3))] sz) U U.heap)) (fun _ _ _ _ => False) (vx_X (fun _ : Unit => True) (fun E _ _ => E = "java/lang/IndexOutOfBoundsException") (va_A [(x, .inr (12, xg)), (chA, .inl (chC, (4, .inr (.inr (.inr (.inr chF)))))), (ch0, .inr (2, chg0)), (ch1, .inr (2, chg1)), (ch2, .inr (2, chg2)), (ch3, .inr (2, chg3))] sz)) 1 6 (va_A [(x, .inr (12, xg)), (chA, .inl (chC, (4, .inr (.inr (.inr (.inr chF)))))), (ch0, .inr (2, chg0)), (ch1, .inr (2, chg1)), (ch2, .inr (2, chg2)), (ch3, .inr (2, chg3))] sz) := by
  refine vx_ofW (cc := cX12_changes) (maxL := 6) (ret := (some .int)) (by decide) rfl ?_
  intro p e s m args below meth c s₁ B hml ht0 hv
  obtain ⟨rfl, hsz, hP, hK, hD0, hth⟩ := hv
  have hx := B.exec
  have hb := B.bytes
  have hr := B.returns
  have hts : ∀ w ∈ BG, w.before _ s = true := fun w h => atoms_spec (ws := Cond.code yX12_changes cX12_changes 6 (some .int) :: BG) B.pre w (List.mem_cons_of_mem _ h)
  have hown : s.vm.findClass RX12 = some m.cls := findClass_of_methodNamed B.named
  have hlocks := B.notSynchronized
  subst hsz
  have hD := hD0.self (sz := s.heap.size)
  generalize hAe : va_A [(x, .inr (12, xg)), (chA, .inl (chC, (4, .inr (.inr (.inr (.inr chF)))))), (ch0, .inr (2, chg0)), (ch1, .inr (2, chg1)), (ch2, .inr (2, chg2)), (ch3, .inr (2, chg3))] s.heap.size = A at hD hth ⊢
  have hA : ∀ q : Nat, s.heap.size ≤ q → A q := fun q h => by rw [← hAe]; exact Or.inr h
  have hS : va_S A s.heap s.heap [] := va_S.rf
  have hl := lv_entry ([.ref x, .int p0, .int p1, .int p2, .int p3]) (n := 6) (Nat.le_of_ble_eq_true rfl)
  rw [lg_entry_eq]
  generalize (lg_sl ([.ref x, .int p0, .int p1, .int p2, .int p3]) ++ List.replicate (6 - (lg_sl ([.ref x, .int p0, .int p1, .int p2, .int p3])).length) Slot.unset).toArray = ls at hl ⊢
  have hl : lv_has ls 6 [(0, .ref x), (1, .int p0), (2, .int p1), (3, .int p2), (4, .int p3)] := hl
  have hFc := va_free (wc := [(x, .inr (12, xg)), (chA, .inl (chC, (4, .inr (.inr (.inr (.inr chF)))))), (ch0, .inr (2, chg0)), (ch1, .inr (2, chg1)), (ch2, .inr (2, chg2)), (ch3, .inr (2, chg3))]) hD hS hA [0, 1, 2, 3, 4, 5] rfl
  refine lv_aload_n hx hb dX12_changes_0 rfl (lv_at hl 0 rfl) ?_
  refine lv_iload_n hx hb dX12_changes_1 rfl (lv_at hl 1 rfl) ?_
  refine vq_thr (vx_runV (As := [.int p0]) (rest := []) ⟨hx, hb, hml, hown, hts⟩ (ct_X12_chipAt l hlt dC dI s.heap.size p0 x xg chA chC chF ch0 ch1 ch2 ch3 chg0 chg1 chg2 chg3 hchg0 hchF0 hchg1 hchF1 hchg2 hchF2 hchg3 hchF3 hxg) (cwV 1 hts (gi_V wd_1835 wd_1837 wd_64 wd_327 wd_1838) rfl rfl rfl (by decide +kernel) ⟨(Nat.le_of_ble_eq_true rfl), (Nat.le_of_ble_eq_true rfl)⟩) ⟨fun a U g mk q => by obtain ⟨q0, q1, qP, qK, qD, qT⟩ := q; exact ⟨q0, q1, qP, va_K.moved (u := U) (U := U.calling g mk a) (Vm.Alike.refl U.vm) qK, qD, th.moved (u := U) (U := U.calling g mk a) (Vm.Alike.refl U.vm) qT⟩, va_recv hK hP (ci := 12) (q0 := 0) rfl rfl, fun U hU hW => ⟨rfl, by rw [hU], by rw [hU]; exact hP, va_K.moved hW.alike hK, hD.weaken (fun _ _ _ _ => trivial), by rw [hU]; exact (hth.narrow hFc).moved hW.alike⟩⟩ rfl rfl hl.1 rfl (lv_room (Nat.le_of_ble_eq_true rfl)) dX12_changes_2 ⟨(Nat.le_of_ble_eq_true rfl), (Nat.le_of_ble_eq_true rfl)⟩) (fun _ _ _ h => h) hS hFc (fun q _ h => hFc q h) (fun E ce q9 u t H1 locs ht hvm hp hB hz hk hS hce hcv hcl => ?_)
  subst hB
  exact vx_out (fun x h9 => (ht0 x h9).elim) hlocks hce hcv hcl (fun t9 ht9 hvm9 => ⟨(), trivial, rfl, hS.F ht9⟩) hS.2.2 (Nat.le_of_ble_eq_true rfl) (Nat.le_of_ble_eq_true rfl)
set_option maxHeartbeats 4000000 in
set_option maxRecDepth 100000 in
theorem ct_X12_test (l : Launch) (hlt : l.stackTraces = false) (dC : Nat → ClassId) (dI : Nat → Nat → Nat) (sz : Nat) (p0 p1 : Int32) (x : Nat) (xg : List Value) (chA : Nat) (chC : ClassId) (chF : Nat → Option Nat) (ch0 ch1 ch2 ch3 : Nat) (chg0 chg1 chg2 chg3 : List Value) (hchg0 : fx chg0 20 [(0, .int 0)]) (hchF0 : chF 0 = some ch0) (hchg1 : fx chg1 20 [(0, .int 0)]) (hchF1 : chF 1 = some ch1) (hchg2 : fx chg2 20 [(0, .int 0)]) (hchF2 : chF 2 = some ch2) (hchg3 : fx chg3 20 [(0, .int 0)]) (hchF3 : chF 3 = some ch3) (hxg : fx xg 17 [(9, .ref chA)]) : vx_Met l yX12_test (Cond.code yX12_test cX12_test 4 (some .int) :: BG) ({ frames := 8, cells := 1, slots := 6, locals := 160 }) (va_Pc [.ref x, .int p0, .int p1] (fun U => U.heap.size = sz ∧ va_P (dC, dI) CL [(x, .inr (12, xg)), (chA, .inl (chC, (4, .inr (.inr (.inr (.inr chF)))))), (ch0, .inr (2, chg0)), (ch1, .inr (2, chg1)), (ch2, .inr (2, chg2)), (ch3, .inr (2, chg3))] U.heap ∧ va_K (dC, dI) CL [(chC, .object "ChipFlow$Chip")] U ∧ va_D (fun _ => True) [(x, .inr (12, xg)), (chA, .inl (chC, (4, .inr (.inr (.inr (.inr chF)))))), (ch0, .inr (2, chg0)), (ch1, .inr (2, chg1)), (ch2, .inr (2, chg2)), (ch3, .inr (2, chg3))] ∧ th (va_A [(x, .inr (12, xg)), (chA, .inl (chC, (4, .inr (.inr (.inr (.inr chF)))))), (ch0, .inr (2, chg0)), (ch1, .inr (2, chg1)), (ch2, .inr (2, chg2)), (ch3, .inr (2, chg3))] sz) U U.heap)) (fun _ _ _ _ => False) (vx_X (fun _ : Unit => True) (fun E _ _ => E = "java/lang/IndexOutOfBoundsException") (va_A [(x, .inr (12, xg)), (chA, .inl (chC, (4, .inr (.inr (.inr (.inr chF)))))), (ch0, .inr (2, chg0)), (ch1, .inr (2, chg1)), (ch2, .inr (2, chg2)), (ch3, .inr (2, chg3))] sz)) 1 6 (va_A [(x, .inr (12, xg)), (chA, .inl (chC, (4, .inr (.inr (.inr (.inr chF)))))), (ch0, .inr (2, chg0)), (ch1, .inr (2, chg1)), (ch2, .inr (2, chg2)), (ch3, .inr (2, chg3))] sz) := by
  refine vx_ofW (cc := cX12_test) (maxL := 4) (ret := (some .int)) (by decide) rfl ?_
  intro p e s m args below meth c s₁ B hml ht0 hv
  obtain ⟨rfl, hsz, hP, hK, hD0, hth⟩ := hv
  have hx := B.exec
  have hb := B.bytes
  have hr := B.returns
  have hts : ∀ w ∈ BG, w.before _ s = true := fun w h => atoms_spec (ws := Cond.code yX12_test cX12_test 4 (some .int) :: BG) B.pre w (List.mem_cons_of_mem _ h)
  have hown : s.vm.findClass RX12 = some m.cls := findClass_of_methodNamed B.named
  have hlocks := B.notSynchronized
  subst hsz
  have hD := hD0.self (sz := s.heap.size)
  generalize hAe : va_A [(x, .inr (12, xg)), (chA, .inl (chC, (4, .inr (.inr (.inr (.inr chF)))))), (ch0, .inr (2, chg0)), (ch1, .inr (2, chg1)), (ch2, .inr (2, chg2)), (ch3, .inr (2, chg3))] s.heap.size = A at hD hth ⊢
  have hA : ∀ q : Nat, s.heap.size ≤ q → A q := fun q h => by rw [← hAe]; exact Or.inr h
  have hS : va_S A s.heap s.heap [] := va_S.rf
  have hl := lv_entry ([.ref x, .int p0, .int p1]) (n := 4) (Nat.le_of_ble_eq_true rfl)
  rw [lg_entry_eq]
  generalize (lg_sl ([.ref x, .int p0, .int p1]) ++ List.replicate (4 - (lg_sl ([.ref x, .int p0, .int p1])).length) Slot.unset).toArray = ls at hl ⊢
  have hl : lv_has ls 4 [(0, .ref x), (1, .int p0), (2, .int p1)] := hl
  have hFc := va_free (wc := [(x, .inr (12, xg)), (chA, .inl (chC, (4, .inr (.inr (.inr (.inr chF)))))), (ch0, .inr (2, chg0)), (ch1, .inr (2, chg1)), (ch2, .inr (2, chg2)), (ch3, .inr (2, chg3))]) hD hS hA [0, 1, 2, 3, 4, 5] rfl
  refine lv_aload_n hx hb dX12_test_0 rfl (lv_at hl 0 rfl) ?_
  refine lv_iload_n hx hb dX12_test_1 rfl (lv_at hl 1 rfl) ?_
  refine vq_thr (vx_runV (As := [.int p0]) (rest := []) ⟨hx, hb, hml, hown, hts⟩ (ct_X12_chipAt l hlt dC dI s.heap.size p0 x xg chA chC chF ch0 ch1 ch2 ch3 chg0 chg1 chg2 chg3 hchg0 hchF0 hchg1 hchF1 hchg2 hchF2 hchg3 hchF3 hxg) (cwV 1 hts (gi_V wd_1835 wd_1837 wd_64 wd_327 wd_1838) rfl rfl rfl (by decide +kernel) ⟨(Nat.le_of_ble_eq_true rfl), (Nat.le_of_ble_eq_true rfl)⟩) ⟨fun a U g mk q => by obtain ⟨q0, q1, qP, qK, qD, qT⟩ := q; exact ⟨q0, q1, qP, va_K.moved (u := U) (U := U.calling g mk a) (Vm.Alike.refl U.vm) qK, qD, th.moved (u := U) (U := U.calling g mk a) (Vm.Alike.refl U.vm) qT⟩, va_recv hK hP (ci := 12) (q0 := 0) rfl rfl, fun U hU hW => ⟨rfl, by rw [hU], by rw [hU]; exact hP, va_K.moved hW.alike hK, hD.weaken (fun _ _ _ _ => trivial), by rw [hU]; exact (hth.narrow hFc).moved hW.alike⟩⟩ rfl rfl hl.1 rfl (lv_room (Nat.le_of_ble_eq_true rfl)) dX12_test_2 ⟨(Nat.le_of_ble_eq_true rfl), (Nat.le_of_ble_eq_true rfl)⟩) (fun _ _ _ h => h) hS hFc (fun q _ h => hFc q h) (fun E ce q9 u t H1 locs ht hvm hp hB hz hk hS hce hcv hcl => ?_)
  subst hB
  exact vx_out (fun x h9 => (ht0 x h9).elim) hlocks hce hcv hcl (fun t9 ht9 hvm9 => ⟨(), trivial, rfl, hS.F ht9⟩) hS.2.2 (Nat.le_of_ble_eq_true rfl) (Nat.le_of_ble_eq_true rfl)
set_option maxHeartbeats 4000000 in
set_option maxRecDepth 100000 in
theorem ct_X12_shows (l : Launch) (hlt : l.stackTraces = false) (dC : Nat → ClassId) (dI : Nat → Nat → Nat) (sz : Nat) (p0 p1 p2 : Int32) (x : Nat) (xg : List Value) (chA : Nat) (chC : ClassId) (chF : Nat → Option Nat) (ch0 ch1 ch2 ch3 : Nat) (chg0 chg1 chg2 chg3 : List Value) (hchg0 : fx chg0 20 [(0, .int 0)]) (hchF0 : chF 0 = some ch0) (hchg1 : fx chg1 20 [(0, .int 0)]) (hchF1 : chF 1 = some ch1) (hchg2 : fx chg2 20 [(0, .int 0)]) (hchF2 : chF 2 = some ch2) (hchg3 : fx chg3 20 [(0, .int 0)]) (hchF3 : chF 3 = some ch3) (hxg : fx xg 17 [(9, .ref chA)]) : vx_Met l yX12_shows (Cond.code yX12_shows cX12_shows 5 (some .boolean) :: BG) ({ frames := 8, cells := 1, slots := 6, locals := 160 }) (va_Pc [.ref x, .int p0, .int p1, .int p2] (fun U => U.heap.size = sz ∧ va_P (dC, dI) CL [(x, .inr (12, xg)), (chA, .inl (chC, (4, .inr (.inr (.inr (.inr chF)))))), (ch0, .inr (2, chg0)), (ch1, .inr (2, chg1)), (ch2, .inr (2, chg2)), (ch3, .inr (2, chg3))] U.heap ∧ va_K (dC, dI) CL [(chC, .object "ChipFlow$Chip")] U ∧ va_D (fun _ => True) [(x, .inr (12, xg)), (chA, .inl (chC, (4, .inr (.inr (.inr (.inr chF)))))), (ch0, .inr (2, chg0)), (ch1, .inr (2, chg1)), (ch2, .inr (2, chg2)), (ch3, .inr (2, chg3))] ∧ th (va_A [(x, .inr (12, xg)), (chA, .inl (chC, (4, .inr (.inr (.inr (.inr chF)))))), (ch0, .inr (2, chg0)), (ch1, .inr (2, chg1)), (ch2, .inr (2, chg2)), (ch3, .inr (2, chg3))] sz) U U.heap)) (fun _ _ _ _ => False) (vx_X (fun _ : Unit => True) (fun E _ _ => E = "java/lang/IndexOutOfBoundsException") (va_A [(x, .inr (12, xg)), (chA, .inl (chC, (4, .inr (.inr (.inr (.inr chF)))))), (ch0, .inr (2, chg0)), (ch1, .inr (2, chg1)), (ch2, .inr (2, chg2)), (ch3, .inr (2, chg3))] sz)) 1 6 (va_A [(x, .inr (12, xg)), (chA, .inl (chC, (4, .inr (.inr (.inr (.inr chF)))))), (ch0, .inr (2, chg0)), (ch1, .inr (2, chg1)), (ch2, .inr (2, chg2)), (ch3, .inr (2, chg3))] sz) := by
  refine vx_ofW (cc := cX12_shows) (maxL := 5) (ret := (some .boolean)) (by decide) rfl ?_
  intro p e s m args below meth c s₁ B hml ht0 hv
  obtain ⟨rfl, hsz, hP, hK, hD0, hth⟩ := hv
  have hx := B.exec
  have hb := B.bytes
  have hr := B.returns
  have hts : ∀ w ∈ BG, w.before _ s = true := fun w h => atoms_spec (ws := Cond.code yX12_shows cX12_shows 5 (some .boolean) :: BG) B.pre w (List.mem_cons_of_mem _ h)
  have hown : s.vm.findClass RX12 = some m.cls := findClass_of_methodNamed B.named
  have hlocks := B.notSynchronized
  subst hsz
  have hD := hD0.self (sz := s.heap.size)
  generalize hAe : va_A [(x, .inr (12, xg)), (chA, .inl (chC, (4, .inr (.inr (.inr (.inr chF)))))), (ch0, .inr (2, chg0)), (ch1, .inr (2, chg1)), (ch2, .inr (2, chg2)), (ch3, .inr (2, chg3))] s.heap.size = A at hD hth ⊢
  have hA : ∀ q : Nat, s.heap.size ≤ q → A q := fun q h => by rw [← hAe]; exact Or.inr h
  have hS : va_S A s.heap s.heap [] := va_S.rf
  have hl := lv_entry ([.ref x, .int p0, .int p1, .int p2]) (n := 5) (Nat.le_of_ble_eq_true rfl)
  rw [lg_entry_eq]
  generalize (lg_sl ([.ref x, .int p0, .int p1, .int p2]) ++ List.replicate (5 - (lg_sl ([.ref x, .int p0, .int p1, .int p2])).length) Slot.unset).toArray = ls at hl ⊢
  have hl : lv_has ls 5 [(0, .ref x), (1, .int p0), (2, .int p1), (3, .int p2)] := hl
  have hFc := va_free (wc := [(x, .inr (12, xg)), (chA, .inl (chC, (4, .inr (.inr (.inr (.inr chF)))))), (ch0, .inr (2, chg0)), (ch1, .inr (2, chg1)), (ch2, .inr (2, chg2)), (ch3, .inr (2, chg3))]) hD hS hA [0, 1, 2, 3, 4, 5] rfl
  refine lv_aload_n hx hb dX12_shows_0 rfl (lv_at hl 0 rfl) ?_
  refine lv_iload_n hx hb dX12_shows_1 rfl (lv_at hl 1 rfl) ?_
  refine vq_thr (vx_runV (As := [.int p0]) (rest := []) ⟨hx, hb, hml, hown, hts⟩ (ct_X12_chipAt l hlt dC dI s.heap.size p0 x xg chA chC chF ch0 ch1 ch2 ch3 chg0 chg1 chg2 chg3 hchg0 hchF0 hchg1 hchF1 hchg2 hchF2 hchg3 hchF3 hxg) (cwV 1 hts (gi_V wd_1835 wd_1837 wd_64 wd_327 wd_1838) rfl rfl rfl (by decide +kernel) ⟨(Nat.le_of_ble_eq_true rfl), (Nat.le_of_ble_eq_true rfl)⟩) ⟨fun a U g mk q => by obtain ⟨q0, q1, qP, qK, qD, qT⟩ := q; exact ⟨q0, q1, qP, va_K.moved (u := U) (U := U.calling g mk a) (Vm.Alike.refl U.vm) qK, qD, th.moved (u := U) (U := U.calling g mk a) (Vm.Alike.refl U.vm) qT⟩, va_recv hK hP (ci := 12) (q0 := 0) rfl rfl, fun U hU hW => ⟨rfl, by rw [hU], by rw [hU]; exact hP, va_K.moved hW.alike hK, hD.weaken (fun _ _ _ _ => trivial), by rw [hU]; exact (hth.narrow hFc).moved hW.alike⟩⟩ rfl rfl hl.1 rfl (lv_room (Nat.le_of_ble_eq_true rfl)) dX12_shows_2 ⟨(Nat.le_of_ble_eq_true rfl), (Nat.le_of_ble_eq_true rfl)⟩) (fun _ _ _ h => h) hS hFc (fun q _ h => hFc q h) (fun E ce q9 u t H1 locs ht hvm hp hB hz hk hS hce hcv hcl => ?_)
  subst hB
  exact vx_out (fun x h9 => (ht0 x h9).elim) hlocks hce hcv hcl (fun t9 ht9 hvm9 => ⟨(), trivial, rfl, hS.F ht9⟩) hS.2.2 (Nat.le_of_ble_eq_true rfl) (Nat.le_of_ble_eq_true rfl)
set_option maxHeartbeats 4000000 in
set_option maxRecDepth 100000 in
theorem ct_X12_tests (l : Launch) (hlt : l.stackTraces = false) (dC : Nat → ClassId) (dI : Nat → Nat → Nat) (sz : Nat) (p0 : Int32) (x : Nat) (xg : List Value) (chA : Nat) (chC : ClassId) (chF : Nat → Option Nat) (ch0 ch1 ch2 ch3 : Nat) (chg0 chg1 chg2 chg3 : List Value) (hchg0 : fx chg0 20 [(0, .int 0)]) (hchF0 : chF 0 = some ch0) (hchg1 : fx chg1 20 [(0, .int 0)]) (hchF1 : chF 1 = some ch1) (hchg2 : fx chg2 20 [(0, .int 0)]) (hchF2 : chF 2 = some ch2) (hchg3 : fx chg3 20 [(0, .int 0)]) (hchF3 : chF 3 = some ch3) (hxg : fx xg 17 [(9, .ref chA)]) : vx_Met l yX12_tests (Cond.code yX12_tests cX12_tests 3 (some .int) :: BG) ({ frames := 8, cells := 1, slots := 6, locals := 160 }) (va_Pc [.ref x, .int p0] (fun U => U.heap.size = sz ∧ va_P (dC, dI) CL [(x, .inr (12, xg)), (chA, .inl (chC, (4, .inr (.inr (.inr (.inr chF)))))), (ch0, .inr (2, chg0)), (ch1, .inr (2, chg1)), (ch2, .inr (2, chg2)), (ch3, .inr (2, chg3))] U.heap ∧ va_K (dC, dI) CL [(chC, .object "ChipFlow$Chip")] U ∧ va_D (fun _ => True) [(x, .inr (12, xg)), (chA, .inl (chC, (4, .inr (.inr (.inr (.inr chF)))))), (ch0, .inr (2, chg0)), (ch1, .inr (2, chg1)), (ch2, .inr (2, chg2)), (ch3, .inr (2, chg3))] ∧ th (va_A [(x, .inr (12, xg)), (chA, .inl (chC, (4, .inr (.inr (.inr (.inr chF)))))), (ch0, .inr (2, chg0)), (ch1, .inr (2, chg1)), (ch2, .inr (2, chg2)), (ch3, .inr (2, chg3))] sz) U U.heap)) (fun _ _ _ _ => False) (vx_X (fun _ : Unit => True) (fun E _ _ => E = "java/lang/IndexOutOfBoundsException") (va_A [(x, .inr (12, xg)), (chA, .inl (chC, (4, .inr (.inr (.inr (.inr chF)))))), (ch0, .inr (2, chg0)), (ch1, .inr (2, chg1)), (ch2, .inr (2, chg2)), (ch3, .inr (2, chg3))] sz)) 1 6 (va_A [(x, .inr (12, xg)), (chA, .inl (chC, (4, .inr (.inr (.inr (.inr chF)))))), (ch0, .inr (2, chg0)), (ch1, .inr (2, chg1)), (ch2, .inr (2, chg2)), (ch3, .inr (2, chg3))] sz) := by
  refine vx_ofW (cc := cX12_tests) (maxL := 3) (ret := (some .int)) (by decide) rfl ?_
  intro p e s m args below meth c s₁ B hml ht0 hv
  obtain ⟨rfl, hsz, hP, hK, hD0, hth⟩ := hv
  have hx := B.exec
  have hb := B.bytes
  have hr := B.returns
  have hts : ∀ w ∈ BG, w.before _ s = true := fun w h => atoms_spec (ws := Cond.code yX12_tests cX12_tests 3 (some .int) :: BG) B.pre w (List.mem_cons_of_mem _ h)
  have hown : s.vm.findClass RX12 = some m.cls := findClass_of_methodNamed B.named
  have hlocks := B.notSynchronized
  subst hsz
  have hD := hD0.self (sz := s.heap.size)
  generalize hAe : va_A [(x, .inr (12, xg)), (chA, .inl (chC, (4, .inr (.inr (.inr (.inr chF)))))), (ch0, .inr (2, chg0)), (ch1, .inr (2, chg1)), (ch2, .inr (2, chg2)), (ch3, .inr (2, chg3))] s.heap.size = A at hD hth ⊢
  have hA : ∀ q : Nat, s.heap.size ≤ q → A q := fun q h => by rw [← hAe]; exact Or.inr h
  have hS : va_S A s.heap s.heap [] := va_S.rf
  have hl := lv_entry ([.ref x, .int p0]) (n := 3) (Nat.le_of_ble_eq_true rfl)
  rw [lg_entry_eq]
  generalize (lg_sl ([.ref x, .int p0]) ++ List.replicate (3 - (lg_sl ([.ref x, .int p0])).length) Slot.unset).toArray = ls at hl ⊢
  have hl : lv_has ls 3 [(0, .ref x), (1, .int p0)] := hl
  have hFc := va_free (wc := [(x, .inr (12, xg)), (chA, .inl (chC, (4, .inr (.inr (.inr (.inr chF)))))), (ch0, .inr (2, chg0)), (ch1, .inr (2, chg1)), (ch2, .inr (2, chg2)), (ch3, .inr (2, chg3))]) hD hS hA [0, 1, 2, 3, 4, 5] rfl
  refine lv_aload_n hx hb dX12_tests_0 rfl (lv_at hl 0 rfl) ?_
  refine lv_iload_n hx hb dX12_tests_1 rfl (lv_at hl 1 rfl) ?_
  refine vq_thr (vx_runV (As := [.int p0]) (rest := []) ⟨hx, hb, hml, hown, hts⟩ (ct_X12_chipAt l hlt dC dI s.heap.size p0 x xg chA chC chF ch0 ch1 ch2 ch3 chg0 chg1 chg2 chg3 hchg0 hchF0 hchg1 hchF1 hchg2 hchF2 hchg3 hchF3 hxg) (cwV 1 hts (gi_V wd_1835 wd_1837 wd_64 wd_327 wd_1838) rfl rfl rfl (by decide +kernel) ⟨(Nat.le_of_ble_eq_true rfl), (Nat.le_of_ble_eq_true rfl)⟩) ⟨fun a U g mk q => by obtain ⟨q0, q1, qP, qK, qD, qT⟩ := q; exact ⟨q0, q1, qP, va_K.moved (u := U) (U := U.calling g mk a) (Vm.Alike.refl U.vm) qK, qD, th.moved (u := U) (U := U.calling g mk a) (Vm.Alike.refl U.vm) qT⟩, va_recv hK hP (ci := 12) (q0 := 0) rfl rfl, fun U hU hW => ⟨rfl, by rw [hU], by rw [hU]; exact hP, va_K.moved hW.alike hK, hD.weaken (fun _ _ _ _ => trivial), by rw [hU]; exact (hth.narrow hFc).moved hW.alike⟩⟩ rfl rfl hl.1 rfl (lv_room (Nat.le_of_ble_eq_true rfl)) dX12_tests_2 ⟨(Nat.le_of_ble_eq_true rfl), (Nat.le_of_ble_eq_true rfl)⟩) (fun _ _ _ h => h) hS hFc (fun q _ h => hFc q h) (fun E ce q9 u t H1 locs ht hvm hp hB hz hk hS hce hcv hcl => ?_)
  subst hB
  exact vx_out (fun x h9 => (ht0 x h9).elim) hlocks hce hcv hcl (fun t9 ht9 hvm9 => ⟨(), trivial, rfl, hS.F ht9⟩) hS.2.2 (Nat.le_of_ble_eq_true rfl) (Nat.le_of_ble_eq_true rfl)
set_option maxHeartbeats 4000000 in
set_option maxRecDepth 100000 in
theorem ct_X12_pattern (l : Launch) (hlt : l.stackTraces = false) (dC : Nat → ClassId) (dI : Nat → Nat → Nat) (sz : Nat) (p0 p1 : Int32) (x : Nat) (xg : List Value) (chA : Nat) (chC : ClassId) (chF : Nat → Option Nat) (ch0 ch1 ch2 ch3 : Nat) (chg0 chg1 chg2 chg3 : List Value) (hchg0 : fx chg0 20 [(0, .int 0)]) (hchF0 : chF 0 = some ch0) (hchg1 : fx chg1 20 [(0, .int 0)]) (hchF1 : chF 1 = some ch1) (hchg2 : fx chg2 20 [(0, .int 0)]) (hchF2 : chF 2 = some ch2) (hchg3 : fx chg3 20 [(0, .int 0)]) (hchF3 : chF 3 = some ch3) (hxg : fx xg 17 [(9, .ref chA)]) : vx_Met l yX12_pattern (Cond.code yX12_pattern cX12_pattern 4 (some .int) :: BG) ({ frames := 8, cells := 1, slots := 6, locals := 160 }) (va_Pc [.ref x, .int p0, .int p1] (fun U => U.heap.size = sz ∧ va_P (dC, dI) CL [(x, .inr (12, xg)), (chA, .inl (chC, (4, .inr (.inr (.inr (.inr chF)))))), (ch0, .inr (2, chg0)), (ch1, .inr (2, chg1)), (ch2, .inr (2, chg2)), (ch3, .inr (2, chg3))] U.heap ∧ va_K (dC, dI) CL [(chC, .object "ChipFlow$Chip")] U ∧ va_D (fun _ => True) [(x, .inr (12, xg)), (chA, .inl (chC, (4, .inr (.inr (.inr (.inr chF)))))), (ch0, .inr (2, chg0)), (ch1, .inr (2, chg1)), (ch2, .inr (2, chg2)), (ch3, .inr (2, chg3))] ∧ th (va_A [(x, .inr (12, xg)), (chA, .inl (chC, (4, .inr (.inr (.inr (.inr chF)))))), (ch0, .inr (2, chg0)), (ch1, .inr (2, chg1)), (ch2, .inr (2, chg2)), (ch3, .inr (2, chg3))] sz) U U.heap)) (fun _ _ _ _ => False) (vx_X (fun _ : Unit => True) (fun E _ _ => E = "java/lang/IndexOutOfBoundsException") (va_A [(x, .inr (12, xg)), (chA, .inl (chC, (4, .inr (.inr (.inr (.inr chF)))))), (ch0, .inr (2, chg0)), (ch1, .inr (2, chg1)), (ch2, .inr (2, chg2)), (ch3, .inr (2, chg3))] sz)) 1 6 (va_A [(x, .inr (12, xg)), (chA, .inl (chC, (4, .inr (.inr (.inr (.inr chF)))))), (ch0, .inr (2, chg0)), (ch1, .inr (2, chg1)), (ch2, .inr (2, chg2)), (ch3, .inr (2, chg3))] sz) := by
  refine vx_ofW (cc := cX12_pattern) (maxL := 4) (ret := (some .int)) (by decide) rfl ?_
  intro p e s m args below meth c s₁ B hml ht0 hv
  obtain ⟨rfl, hsz, hP, hK, hD0, hth⟩ := hv
  have hx := B.exec
  have hb := B.bytes
  have hr := B.returns
  have hts : ∀ w ∈ BG, w.before _ s = true := fun w h => atoms_spec (ws := Cond.code yX12_pattern cX12_pattern 4 (some .int) :: BG) B.pre w (List.mem_cons_of_mem _ h)
  have hown : s.vm.findClass RX12 = some m.cls := findClass_of_methodNamed B.named
  have hlocks := B.notSynchronized
  subst hsz
  have hD := hD0.self (sz := s.heap.size)
  generalize hAe : va_A [(x, .inr (12, xg)), (chA, .inl (chC, (4, .inr (.inr (.inr (.inr chF)))))), (ch0, .inr (2, chg0)), (ch1, .inr (2, chg1)), (ch2, .inr (2, chg2)), (ch3, .inr (2, chg3))] s.heap.size = A at hD hth ⊢
  have hA : ∀ q : Nat, s.heap.size ≤ q → A q := fun q h => by rw [← hAe]; exact Or.inr h
  have hS : va_S A s.heap s.heap [] := va_S.rf
  have hl := lv_entry ([.ref x, .int p0, .int p1]) (n := 4) (Nat.le_of_ble_eq_true rfl)
  rw [lg_entry_eq]
  generalize (lg_sl ([.ref x, .int p0, .int p1]) ++ List.replicate (4 - (lg_sl ([.ref x, .int p0, .int p1])).length) Slot.unset).toArray = ls at hl ⊢
  have hl : lv_has ls 4 [(0, .ref x), (1, .int p0), (2, .int p1)] := hl
  have hFc := va_free (wc := [(x, .inr (12, xg)), (chA, .inl (chC, (4, .inr (.inr (.inr (.inr chF)))))), (ch0, .inr (2, chg0)), (ch1, .inr (2, chg1)), (ch2, .inr (2, chg2)), (ch3, .inr (2, chg3))]) hD hS hA [0, 1, 2, 3, 4, 5] rfl
  refine lv_aload_n hx hb dX12_pattern_0 rfl (lv_at hl 0 rfl) ?_
  refine lv_iload_n hx hb dX12_pattern_1 rfl (lv_at hl 1 rfl) ?_
  refine vq_thr (vx_runV (As := [.int p0]) (rest := []) ⟨hx, hb, hml, hown, hts⟩ (ct_X12_chipAt l hlt dC dI s.heap.size p0 x xg chA chC chF ch0 ch1 ch2 ch3 chg0 chg1 chg2 chg3 hchg0 hchF0 hchg1 hchF1 hchg2 hchF2 hchg3 hchF3 hxg) (cwV 1 hts (gi_V wd_1835 wd_1837 wd_64 wd_327 wd_1838) rfl rfl rfl (by decide +kernel) ⟨(Nat.le_of_ble_eq_true rfl), (Nat.le_of_ble_eq_true rfl)⟩) ⟨fun a U g mk q => by obtain ⟨q0, q1, qP, qK, qD, qT⟩ := q; exact ⟨q0, q1, qP, va_K.moved (u := U) (U := U.calling g mk a) (Vm.Alike.refl U.vm) qK, qD, th.moved (u := U) (U := U.calling g mk a) (Vm.Alike.refl U.vm) qT⟩, va_recv hK hP (ci := 12) (q0 := 0) rfl rfl, fun U hU hW => ⟨rfl, by rw [hU], by rw [hU]; exact hP, va_K.moved hW.alike hK, hD.weaken (fun _ _ _ _ => trivial), by rw [hU]; exact (hth.narrow hFc).moved hW.alike⟩⟩ rfl rfl hl.1 rfl (lv_room (Nat.le_of_ble_eq_true rfl)) dX12_pattern_2 ⟨(Nat.le_of_ble_eq_true rfl), (Nat.le_of_ble_eq_true rfl)⟩) (fun _ _ _ h => h) hS hFc (fun q _ h => hFc q h) (fun E ce q9 u t H1 locs ht hvm hp hB hz hk hS hce hcv hcl => ?_)
  subst hB
  exact vx_out (fun x h9 => (ht0 x h9).elim) hlocks hce hcv hcl (fun t9 ht9 hvm9 => ⟨(), trivial, rfl, hS.F ht9⟩) hS.2.2 (Nat.le_of_ble_eq_true rfl) (Nat.le_of_ble_eq_true rfl)
set_option maxHeartbeats 4000000 in
set_option maxRecDepth 100000 in
theorem ct_X12_fails (l : Launch) (hlt : l.stackTraces = false) (dC : Nat → ClassId) (dI : Nat → Nat → Nat) (sz : Nat) (p0 p1 p2 : Int32) (x : Nat) (xg : List Value) (chA : Nat) (chC : ClassId) (chF : Nat → Option Nat) (ch0 ch1 ch2 ch3 : Nat) (chg0 chg1 chg2 chg3 : List Value) (hchg0 : fx chg0 20 [(0, .int 0)]) (hchF0 : chF 0 = some ch0) (hchg1 : fx chg1 20 [(0, .int 0)]) (hchF1 : chF 1 = some ch1) (hchg2 : fx chg2 20 [(0, .int 0)]) (hchF2 : chF 2 = some ch2) (hchg3 : fx chg3 20 [(0, .int 0)]) (hchF3 : chF 3 = some ch3) (hxg : fx xg 17 [(9, .ref chA)]) : vx_Met l yX12_fails (Cond.code yX12_fails cX12_fails 6 (some .boolean) :: BG) ({ frames := 8, cells := 1, slots := 6, locals := 160 }) (va_Pc [.ref x, .int p0, .int p1, .int p2] (fun U => U.heap.size = sz ∧ va_P (dC, dI) CL [(x, .inr (12, xg)), (chA, .inl (chC, (4, .inr (.inr (.inr (.inr chF)))))), (ch0, .inr (2, chg0)), (ch1, .inr (2, chg1)), (ch2, .inr (2, chg2)), (ch3, .inr (2, chg3))] U.heap ∧ va_K (dC, dI) CL [(chC, .object "ChipFlow$Chip")] U ∧ va_D (fun _ => True) [(x, .inr (12, xg)), (chA, .inl (chC, (4, .inr (.inr (.inr (.inr chF)))))), (ch0, .inr (2, chg0)), (ch1, .inr (2, chg1)), (ch2, .inr (2, chg2)), (ch3, .inr (2, chg3))] ∧ th (va_A [(x, .inr (12, xg)), (chA, .inl (chC, (4, .inr (.inr (.inr (.inr chF)))))), (ch0, .inr (2, chg0)), (ch1, .inr (2, chg1)), (ch2, .inr (2, chg2)), (ch3, .inr (2, chg3))] sz) U U.heap)) (fun _ _ _ _ => False) (vx_X (fun _ : Unit => True) (fun E _ _ => E = "java/lang/IndexOutOfBoundsException") (va_A [(x, .inr (12, xg)), (chA, .inl (chC, (4, .inr (.inr (.inr (.inr chF)))))), (ch0, .inr (2, chg0)), (ch1, .inr (2, chg1)), (ch2, .inr (2, chg2)), (ch3, .inr (2, chg3))] sz)) 1 6 (va_A [(x, .inr (12, xg)), (chA, .inl (chC, (4, .inr (.inr (.inr (.inr chF)))))), (ch0, .inr (2, chg0)), (ch1, .inr (2, chg1)), (ch2, .inr (2, chg2)), (ch3, .inr (2, chg3))] sz) := by
  refine vx_ofW (cc := cX12_fails) (maxL := 6) (ret := (some .boolean)) (by decide) rfl ?_
  intro p e s m args below meth c s₁ B hml ht0 hv
  obtain ⟨rfl, hsz, hP, hK, hD0, hth⟩ := hv
  have hx := B.exec
  have hb := B.bytes
  have hr := B.returns
  have hts : ∀ w ∈ BG, w.before _ s = true := fun w h => atoms_spec (ws := Cond.code yX12_fails cX12_fails 6 (some .boolean) :: BG) B.pre w (List.mem_cons_of_mem _ h)
  have hown : s.vm.findClass RX12 = some m.cls := findClass_of_methodNamed B.named
  have hlocks := B.notSynchronized
  subst hsz
  have hD := hD0.self (sz := s.heap.size)
  generalize hAe : va_A [(x, .inr (12, xg)), (chA, .inl (chC, (4, .inr (.inr (.inr (.inr chF)))))), (ch0, .inr (2, chg0)), (ch1, .inr (2, chg1)), (ch2, .inr (2, chg2)), (ch3, .inr (2, chg3))] s.heap.size = A at hD hth ⊢
  have hA : ∀ q : Nat, s.heap.size ≤ q → A q := fun q h => by rw [← hAe]; exact Or.inr h
  have hS : va_S A s.heap s.heap [] := va_S.rf
  have hl := lv_entry ([.ref x, .int p0, .int p1, .int p2]) (n := 6) (Nat.le_of_ble_eq_true rfl)
  rw [lg_entry_eq]
  generalize (lg_sl ([.ref x, .int p0, .int p1, .int p2]) ++ List.replicate (6 - (lg_sl ([.ref x, .int p0, .int p1, .int p2])).length) Slot.unset).toArray = ls at hl ⊢
  have hl : lv_has ls 6 [(0, .ref x), (1, .int p0), (2, .int p1), (3, .int p2)] := hl
  have hFc := va_free (wc := [(x, .inr (12, xg)), (chA, .inl (chC, (4, .inr (.inr (.inr (.inr chF)))))), (ch0, .inr (2, chg0)), (ch1, .inr (2, chg1)), (ch2, .inr (2, chg2)), (ch3, .inr (2, chg3))]) hD hS hA [0, 1, 2, 3, 4, 5] rfl
  refine lv_aload_n hx hb dX12_fails_0 rfl (lv_at hl 0 rfl) ?_
  refine lv_iload_n hx hb dX12_fails_1 rfl (lv_at hl 1 rfl) ?_
  refine vq_thr (vx_runV (As := [.int p0]) (rest := []) ⟨hx, hb, hml, hown, hts⟩ (ct_X12_chipAt l hlt dC dI s.heap.size p0 x xg chA chC chF ch0 ch1 ch2 ch3 chg0 chg1 chg2 chg3 hchg0 hchF0 hchg1 hchF1 hchg2 hchF2 hchg3 hchF3 hxg) (cwV 1 hts (gi_V wd_1835 wd_1837 wd_64 wd_327 wd_1838) rfl rfl rfl (by decide +kernel) ⟨(Nat.le_of_ble_eq_true rfl), (Nat.le_of_ble_eq_true rfl)⟩) ⟨fun a U g mk q => by obtain ⟨q0, q1, qP, qK, qD, qT⟩ := q; exact ⟨q0, q1, qP, va_K.moved (u := U) (U := U.calling g mk a) (Vm.Alike.refl U.vm) qK, qD, th.moved (u := U) (U := U.calling g mk a) (Vm.Alike.refl U.vm) qT⟩, va_recv hK hP (ci := 12) (q0 := 0) rfl rfl, fun U hU hW => ⟨rfl, by rw [hU], by rw [hU]; exact hP, va_K.moved hW.alike hK, hD.weaken (fun _ _ _ _ => trivial), by rw [hU]; exact (hth.narrow hFc).moved hW.alike⟩⟩ rfl rfl hl.1 rfl (lv_room (Nat.le_of_ble_eq_true rfl)) dX12_fails_2 ⟨(Nat.le_of_ble_eq_true rfl), (Nat.le_of_ble_eq_true rfl)⟩) (fun _ _ _ h => h) hS hFc (fun q _ h => hFc q h) (fun E ce q9 u t H1 locs ht hvm hp hB hz hk hS hce hcv hcl => ?_)
  subst hB
  exact vx_out (fun x h9 => (ht0 x h9).elim) hlocks hce hcv hcl (fun t9 ht9 hvm9 => ⟨(), trivial, rfl, hS.F ht9⟩) hS.2.2 (Nat.le_of_ble_eq_true rfl) (Nat.le_of_ble_eq_true rfl)
set_option maxHeartbeats 4000000 in
set_option maxRecDepth 100000 in
theorem ct_X12_suspect (l : Launch) (hlt : l.stackTraces = false) (dC : Nat → ClassId) (dI : Nat → Nat → Nat) (sz : Nat) (p0 p1 : Int32) (x : Nat) (xg : List Value) (chA : Nat) (chC : ClassId) (chF : Nat → Option Nat) (ch0 ch1 ch2 ch3 : Nat) (chg0 chg1 chg2 chg3 : List Value) (hchg0 : fx chg0 20 [(0, .int 0)]) (hchF0 : chF 0 = some ch0) (hchg1 : fx chg1 20 [(0, .int 0)]) (hchF1 : chF 1 = some ch1) (hchg2 : fx chg2 20 [(0, .int 0)]) (hchF2 : chF 2 = some ch2) (hchg3 : fx chg3 20 [(0, .int 0)]) (hchF3 : chF 3 = some ch3) (hxg : fx xg 17 [(9, .ref chA)]) : vx_Met l yX12_suspect (Cond.code yX12_suspect cX12_suspect 4 (some .int) :: BG) ({ frames := 8, cells := 1, slots := 6, locals := 160 }) (va_Pc [.ref x, .int p0, .int p1] (fun U => U.heap.size = sz ∧ va_P (dC, dI) CL [(x, .inr (12, xg)), (chA, .inl (chC, (4, .inr (.inr (.inr (.inr chF)))))), (ch0, .inr (2, chg0)), (ch1, .inr (2, chg1)), (ch2, .inr (2, chg2)), (ch3, .inr (2, chg3))] U.heap ∧ va_K (dC, dI) CL [(chC, .object "ChipFlow$Chip")] U ∧ va_D (fun _ => True) [(x, .inr (12, xg)), (chA, .inl (chC, (4, .inr (.inr (.inr (.inr chF)))))), (ch0, .inr (2, chg0)), (ch1, .inr (2, chg1)), (ch2, .inr (2, chg2)), (ch3, .inr (2, chg3))] ∧ th (va_A [(x, .inr (12, xg)), (chA, .inl (chC, (4, .inr (.inr (.inr (.inr chF)))))), (ch0, .inr (2, chg0)), (ch1, .inr (2, chg1)), (ch2, .inr (2, chg2)), (ch3, .inr (2, chg3))] sz) U U.heap)) (fun _ _ _ _ => False) (vx_X (fun _ : Unit => True) (fun E _ _ => E = "java/lang/IndexOutOfBoundsException") (va_A [(x, .inr (12, xg)), (chA, .inl (chC, (4, .inr (.inr (.inr (.inr chF)))))), (ch0, .inr (2, chg0)), (ch1, .inr (2, chg1)), (ch2, .inr (2, chg2)), (ch3, .inr (2, chg3))] sz)) 1 6 (va_A [(x, .inr (12, xg)), (chA, .inl (chC, (4, .inr (.inr (.inr (.inr chF)))))), (ch0, .inr (2, chg0)), (ch1, .inr (2, chg1)), (ch2, .inr (2, chg2)), (ch3, .inr (2, chg3))] sz) := by
  refine vx_ofW (cc := cX12_suspect) (maxL := 4) (ret := (some .int)) (by decide) rfl ?_
  intro p e s m args below meth c s₁ B hml ht0 hv
  obtain ⟨rfl, hsz, hP, hK, hD0, hth⟩ := hv
  have hx := B.exec
  have hb := B.bytes
  have hr := B.returns
  have hts : ∀ w ∈ BG, w.before _ s = true := fun w h => atoms_spec (ws := Cond.code yX12_suspect cX12_suspect 4 (some .int) :: BG) B.pre w (List.mem_cons_of_mem _ h)
  have hown : s.vm.findClass RX12 = some m.cls := findClass_of_methodNamed B.named
  have hlocks := B.notSynchronized
  subst hsz
  have hD := hD0.self (sz := s.heap.size)
  generalize hAe : va_A [(x, .inr (12, xg)), (chA, .inl (chC, (4, .inr (.inr (.inr (.inr chF)))))), (ch0, .inr (2, chg0)), (ch1, .inr (2, chg1)), (ch2, .inr (2, chg2)), (ch3, .inr (2, chg3))] s.heap.size = A at hD hth ⊢
  have hA : ∀ q : Nat, s.heap.size ≤ q → A q := fun q h => by rw [← hAe]; exact Or.inr h
  have hS : va_S A s.heap s.heap [] := va_S.rf
  have hl := lv_entry ([.ref x, .int p0, .int p1]) (n := 4) (Nat.le_of_ble_eq_true rfl)
  rw [lg_entry_eq]
  generalize (lg_sl ([.ref x, .int p0, .int p1]) ++ List.replicate (4 - (lg_sl ([.ref x, .int p0, .int p1])).length) Slot.unset).toArray = ls at hl ⊢
  have hl : lv_has ls 4 [(0, .ref x), (1, .int p0), (2, .int p1)] := hl
  have hFc := va_free (wc := [(x, .inr (12, xg)), (chA, .inl (chC, (4, .inr (.inr (.inr (.inr chF)))))), (ch0, .inr (2, chg0)), (ch1, .inr (2, chg1)), (ch2, .inr (2, chg2)), (ch3, .inr (2, chg3))]) hD hS hA [0, 1, 2, 3, 4, 5] rfl
  refine lv_aload_n hx hb dX12_suspect_0 rfl (lv_at hl 0 rfl) ?_
  refine lv_iload_n hx hb dX12_suspect_1 rfl (lv_at hl 1 rfl) ?_
  refine vq_thr (vx_runV (As := [.int p0]) (rest := []) ⟨hx, hb, hml, hown, hts⟩ (ct_X12_chipAt l hlt dC dI s.heap.size p0 x xg chA chC chF ch0 ch1 ch2 ch3 chg0 chg1 chg2 chg3 hchg0 hchF0 hchg1 hchF1 hchg2 hchF2 hchg3 hchF3 hxg) (cwV 1 hts (gi_V wd_1835 wd_1837 wd_64 wd_327 wd_1838) rfl rfl rfl (by decide +kernel) ⟨(Nat.le_of_ble_eq_true rfl), (Nat.le_of_ble_eq_true rfl)⟩) ⟨fun a U g mk q => by obtain ⟨q0, q1, qP, qK, qD, qT⟩ := q; exact ⟨q0, q1, qP, va_K.moved (u := U) (U := U.calling g mk a) (Vm.Alike.refl U.vm) qK, qD, th.moved (u := U) (U := U.calling g mk a) (Vm.Alike.refl U.vm) qT⟩, va_recv hK hP (ci := 12) (q0 := 0) rfl rfl, fun U hU hW => ⟨rfl, by rw [hU], by rw [hU]; exact hP, va_K.moved hW.alike hK, hD.weaken (fun _ _ _ _ => trivial), by rw [hU]; exact (hth.narrow hFc).moved hW.alike⟩⟩ rfl rfl hl.1 rfl (lv_room (Nat.le_of_ble_eq_true rfl)) dX12_suspect_2 ⟨(Nat.le_of_ble_eq_true rfl), (Nat.le_of_ble_eq_true rfl)⟩) (fun _ _ _ h => h) hS hFc (fun q _ h => hFc q h) (fun E ce q9 u t H1 locs ht hvm hp hB hz hk hS hce hcv hcl => ?_)
  subst hB
  exact vx_out (fun x h9 => (ht0 x h9).elim) hlocks hce hcv hcl (fun t9 ht9 hvm9 => ⟨(), trivial, rfl, hS.F ht9⟩) hS.2.2 (Nat.le_of_ble_eq_true rfl) (Nat.le_of_ble_eq_true rfl)
set_option maxHeartbeats 4000000 in
set_option maxRecDepth 100000 in
theorem ct_X12_faults (l : Launch) (hlt : l.stackTraces = false) (dC : Nat → ClassId) (dI : Nat → Nat → Nat) (sz : Nat) (p0 p1 : Int32) (x : Nat) (xg : List Value) (chA : Nat) (chC : ClassId) (chF : Nat → Option Nat) (ch0 ch1 ch2 ch3 : Nat) (chg0 chg1 chg2 chg3 : List Value) (hchg0 : fx chg0 20 [(0, .int 0)]) (hchF0 : chF 0 = some ch0) (hchg1 : fx chg1 20 [(0, .int 0)]) (hchF1 : chF 1 = some ch1) (hchg2 : fx chg2 20 [(0, .int 0)]) (hchF2 : chF 2 = some ch2) (hchg3 : fx chg3 20 [(0, .int 0)]) (hchF3 : chF 3 = some ch3) (hxg : fx xg 17 [(9, .ref chA)]) : vx_Met l yX12_faults (Cond.code yX12_faults cX12_faults 4 (some .int) :: BG) ({ frames := 8, cells := 1, slots := 6, locals := 160 }) (va_Pc [.ref x, .int p0, .int p1] (fun U => U.heap.size = sz ∧ va_P (dC, dI) CL [(x, .inr (12, xg)), (chA, .inl (chC, (4, .inr (.inr (.inr (.inr chF)))))), (ch0, .inr (2, chg0)), (ch1, .inr (2, chg1)), (ch2, .inr (2, chg2)), (ch3, .inr (2, chg3))] U.heap ∧ va_K (dC, dI) CL [(chC, .object "ChipFlow$Chip")] U ∧ va_D (fun _ => True) [(x, .inr (12, xg)), (chA, .inl (chC, (4, .inr (.inr (.inr (.inr chF)))))), (ch0, .inr (2, chg0)), (ch1, .inr (2, chg1)), (ch2, .inr (2, chg2)), (ch3, .inr (2, chg3))] ∧ th (va_A [(x, .inr (12, xg)), (chA, .inl (chC, (4, .inr (.inr (.inr (.inr chF)))))), (ch0, .inr (2, chg0)), (ch1, .inr (2, chg1)), (ch2, .inr (2, chg2)), (ch3, .inr (2, chg3))] sz) U U.heap)) (fun _ _ _ _ => False) (vx_X (fun _ : Unit => True) (fun E _ _ => E = "java/lang/IndexOutOfBoundsException") (va_A [(x, .inr (12, xg)), (chA, .inl (chC, (4, .inr (.inr (.inr (.inr chF)))))), (ch0, .inr (2, chg0)), (ch1, .inr (2, chg1)), (ch2, .inr (2, chg2)), (ch3, .inr (2, chg3))] sz)) 1 6 (va_A [(x, .inr (12, xg)), (chA, .inl (chC, (4, .inr (.inr (.inr (.inr chF)))))), (ch0, .inr (2, chg0)), (ch1, .inr (2, chg1)), (ch2, .inr (2, chg2)), (ch3, .inr (2, chg3))] sz) := by
  refine vx_ofW (cc := cX12_faults) (maxL := 4) (ret := (some .int)) (by decide) rfl ?_
  intro p e s m args below meth c s₁ B hml ht0 hv
  obtain ⟨rfl, hsz, hP, hK, hD0, hth⟩ := hv
  have hx := B.exec
  have hb := B.bytes
  have hr := B.returns
  have hts : ∀ w ∈ BG, w.before _ s = true := fun w h => atoms_spec (ws := Cond.code yX12_faults cX12_faults 4 (some .int) :: BG) B.pre w (List.mem_cons_of_mem _ h)
  have hown : s.vm.findClass RX12 = some m.cls := findClass_of_methodNamed B.named
  have hlocks := B.notSynchronized
  subst hsz
  have hD := hD0.self (sz := s.heap.size)
  generalize hAe : va_A [(x, .inr (12, xg)), (chA, .inl (chC, (4, .inr (.inr (.inr (.inr chF)))))), (ch0, .inr (2, chg0)), (ch1, .inr (2, chg1)), (ch2, .inr (2, chg2)), (ch3, .inr (2, chg3))] s.heap.size = A at hD hth ⊢
  have hA : ∀ q : Nat, s.heap.size ≤ q → A q := fun q h => by rw [← hAe]; exact Or.inr h
  have hS : va_S A s.heap s.heap [] := va_S.rf
  have hl := lv_entry ([.ref x, .int p0, .int p1]) (n := 4) (Nat.le_of_ble_eq_true rfl)
  rw [lg_entry_eq]
  generalize (lg_sl ([.ref x, .int p0, .int p1]) ++ List.replicate (4 - (lg_sl ([.ref x, .int p0, .int p1])).length) Slot.unset).toArray = ls at hl ⊢
  have hl : lv_has ls 4 [(0, .ref x), (1, .int p0), (2, .int p1)] := hl
  have hFc := va_free (wc := [(x, .inr (12, xg)), (chA, .inl (chC, (4, .inr (.inr (.inr (.inr chF)))))), (ch0, .inr (2, chg0)), (ch1, .inr (2, chg1)), (ch2, .inr (2, chg2)), (ch3, .inr (2, chg3))]) hD hS hA [0, 1, 2, 3, 4, 5] rfl
  refine lv_aload_n hx hb dX12_faults_0 rfl (lv_at hl 0 rfl) ?_
  refine lv_iload_n hx hb dX12_faults_1 rfl (lv_at hl 1 rfl) ?_
  refine vq_thr (vx_runV (As := [.int p0]) (rest := []) ⟨hx, hb, hml, hown, hts⟩ (ct_X12_chipAt l hlt dC dI s.heap.size p0 x xg chA chC chF ch0 ch1 ch2 ch3 chg0 chg1 chg2 chg3 hchg0 hchF0 hchg1 hchF1 hchg2 hchF2 hchg3 hchF3 hxg) (cwV 1 hts (gi_V wd_1835 wd_1837 wd_64 wd_327 wd_1838) rfl rfl rfl (by decide +kernel) ⟨(Nat.le_of_ble_eq_true rfl), (Nat.le_of_ble_eq_true rfl)⟩) ⟨fun a U g mk q => by obtain ⟨q0, q1, qP, qK, qD, qT⟩ := q; exact ⟨q0, q1, qP, va_K.moved (u := U) (U := U.calling g mk a) (Vm.Alike.refl U.vm) qK, qD, th.moved (u := U) (U := U.calling g mk a) (Vm.Alike.refl U.vm) qT⟩, va_recv hK hP (ci := 12) (q0 := 0) rfl rfl, fun U hU hW => ⟨rfl, by rw [hU], by rw [hU]; exact hP, va_K.moved hW.alike hK, hD.weaken (fun _ _ _ _ => trivial), by rw [hU]; exact (hth.narrow hFc).moved hW.alike⟩⟩ rfl rfl hl.1 rfl (lv_room (Nat.le_of_ble_eq_true rfl)) dX12_faults_2 ⟨(Nat.le_of_ble_eq_true rfl), (Nat.le_of_ble_eq_true rfl)⟩) (fun _ _ _ h => h) hS hFc (fun q _ h => hFc q h) (fun E ce q9 u t H1 locs ht hvm hp hB hz hk hS hce hcv hcl => ?_)
  subst hB
  exact vx_out (fun x h9 => (ht0 x h9).elim) hlocks hce hcv hcl (fun t9 ht9 hvm9 => ⟨(), trivial, rfl, hS.F ht9⟩) hS.2.2 (Nat.le_of_ble_eq_true rfl) (Nat.le_of_ble_eq_true rfl)
