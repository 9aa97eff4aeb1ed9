def RL : String := "ChipFlowLaw"
theorem po_nilP {D : va_G} {cl : List vw_C} {H : Heap} : va_P D cl [] H := fun k q h => by simp at h
theorem po_nilD {A : Nat → Prop} : va_D A [] := ⟨fun i j p q h => by simp at h, fun k q h => by simp at h⟩
abbrev cL_graph : ByteArray := method_9_code
def yL_graph : MethodName := ⟨RL, "graph", "(LChipFlow;II[J)I"⟩
theorem dL_graph_0 : decode cL_graph 0 = .ok (.aload_n 3, 1) := by decide +kernel
theorem dL_graph_1 : decode cL_graph 1 = .ok (.iconst 0, 1) := by decide +kernel
theorem dL_graph_2 : decode cL_graph 2 = .ok (.aload_n 0, 1) := by decide +kernel
theorem dL_graph_3 : decode cL_graph 3 = .ok (.iload_n 1, 1) := by decide +kernel
theorem dL_graph_4 : decode cL_graph 4 = .ok (.iload_n 2, 1) := by decide +kernel
theorem dL_graph_5 : decode cL_graph 5 = .ok (.invokevirtual 38, 3) := by decide +kernel
theorem dL_graph_8 : decode cL_graph 8 = .ok (.i2l, 1) := by decide +kernel
theorem dL_graph_9 : decode cL_graph 9 = .ok (.lastore, 1) := by decide +kernel
theorem dL_graph_10 : decode cL_graph 10 = .ok (.goto 11, 3) := by decide +kernel
theorem dL_graph_13 : decode cL_graph 13 = .ok (.astore 4, 2) := by decide +kernel
theorem dL_graph_15 : decode cL_graph 15 = .ok (.iconst 1, 1) := by decide +kernel
theorem dL_graph_16 : decode cL_graph 16 = .ok (.ireturn, 1) := by decide +kernel
theorem dL_graph_17 : decode cL_graph 17 = .ok (.astore 4, 2) := by decide +kernel
theorem dL_graph_19 : decode cL_graph 19 = .ok (.iconst 2, 1) := by decide +kernel
theorem dL_graph_20 : decode cL_graph 20 = .ok (.ireturn, 1) := by decide +kernel
theorem dL_graph_21 : decode cL_graph 21 = .ok (.iconst 0, 1) := by decide +kernel
theorem dL_graph_22 : decode cL_graph 22 = .ok (.ireturn, 1) := by decide +kernel
abbrev cL_literal : ByteArray := method_10_code
def yL_literal : MethodName := ⟨RL, "literal", "(LChipFlow;III[J)I"⟩
theorem dL_literal_0 : decode cL_literal 0 = .ok (.aload 4, 2) := by decide +kernel
theorem dL_literal_2 : decode cL_literal 2 = .ok (.iconst 0, 1) := by decide +kernel
theorem dL_literal_3 : decode cL_literal 3 = .ok (.aload_n 0, 1) := by decide +kernel
theorem dL_literal_4 : decode cL_literal 4 = .ok (.iload_n 1, 1) := by decide +kernel
theorem dL_literal_5 : decode cL_literal 5 = .ok (.iload_n 2, 1) := by decide +kernel
theorem dL_literal_6 : decode cL_literal 6 = .ok (.iload_n 3, 1) := by decide +kernel
theorem dL_literal_7 : decode cL_literal 7 = .ok (.invokevirtual 42, 3) := by decide +kernel
theorem dL_literal_10 : decode cL_literal 10 = .ok (.i2l, 1) := by decide +kernel
theorem dL_literal_11 : decode cL_literal 11 = .ok (.lastore, 1) := by decide +kernel
theorem dL_literal_12 : decode cL_literal 12 = .ok (.goto 7, 3) := by decide +kernel
theorem dL_literal_15 : decode cL_literal 15 = .ok (.astore 5, 2) := by decide +kernel
theorem dL_literal_17 : decode cL_literal 17 = .ok (.iconst 1, 1) := by decide +kernel
theorem dL_literal_18 : decode cL_literal 18 = .ok (.ireturn, 1) := by decide +kernel
theorem dL_literal_19 : decode cL_literal 19 = .ok (.iconst 0, 1) := by decide +kernel
theorem dL_literal_20 : decode cL_literal 20 = .ok (.ireturn, 1) := by decide +kernel
abbrev cL_swept : ByteArray := method_11_code
def yL_swept : MethodName := ⟨RL, "swept", "(LChipFlow;II[J)I"⟩
theorem dL_swept_0 : decode cL_swept 0 = .ok (.aload_n 3, 1) := by decide +kernel
theorem dL_swept_1 : decode cL_swept 1 = .ok (.iconst 0, 1) := by decide +kernel
theorem dL_swept_2 : decode cL_swept 2 = .ok (.aload_n 0, 1) := by decide +kernel
theorem dL_swept_3 : decode cL_swept 3 = .ok (.iload_n 1, 1) := by decide +kernel
theorem dL_swept_4 : decode cL_swept 4 = .ok (.iload_n 2, 1) := by decide +kernel
theorem dL_swept_5 : decode cL_swept 5 = .ok (.invokevirtual 46, 3) := by decide +kernel
theorem dL_swept_8 : decode cL_swept 8 = .ok (.i2l, 1) := by decide +kernel
theorem dL_swept_9 : decode cL_swept 9 = .ok (.lastore, 1) := by decide +kernel
theorem dL_swept_10 : decode cL_swept 10 = .ok (.goto 7, 3) := by decide +kernel
theorem dL_swept_13 : decode cL_swept 13 = .ok (.astore 4, 2) := by decide +kernel
theorem dL_swept_15 : decode cL_swept 15 = .ok (.iconst 1, 1) := by decide +kernel
theorem dL_swept_16 : decode cL_swept 16 = .ok (.ireturn, 1) := by decide +kernel
theorem dL_swept_17 : decode cL_swept 17 = .ok (.iconst 0, 1) := by decide +kernel
theorem dL_swept_18 : decode cL_swept 18 = .ok (.ireturn, 1) := by decide +kernel
abbrev cL_root : ByteArray := method_12_code
def yL_root : MethodName := ⟨RL, "root", "(LChipFlow;IIZ[J)I"⟩
theorem dL_root_0 : decode cL_root 0 = .ok (.aload 4, 2) := by decide +kernel
theorem dL_root_2 : decode cL_root 2 = .ok (.iconst 0, 1) := by decide +kernel
theorem dL_root_3 : decode cL_root 3 = .ok (.aload_n 0, 1) := by decide +kernel
theorem dL_root_4 : decode cL_root 4 = .ok (.iload_n 1, 1) := by decide +kernel
theorem dL_root_5 : decode cL_root 5 = .ok (.iload_n 2, 1) := by decide +kernel
theorem dL_root_6 : decode cL_root 6 = .ok (.iload_n 3, 1) := by decide +kernel
theorem dL_root_7 : decode cL_root 7 = .ok (.invokevirtual 49, 3) := by decide +kernel
theorem dL_root_10 : decode cL_root 10 = .ok (.i2l, 1) := by decide +kernel
theorem dL_root_11 : decode cL_root 11 = .ok (.lastore, 1) := by decide +kernel
theorem dL_root_12 : decode cL_root 12 = .ok (.goto 7, 3) := by decide +kernel
theorem dL_root_15 : decode cL_root 15 = .ok (.astore 5, 2) := by decide +kernel
theorem dL_root_17 : decode cL_root 17 = .ok (.iconst 1, 1) := by decide +kernel
theorem dL_root_18 : decode cL_root 18 = .ok (.ireturn, 1) := by decide +kernel
theorem dL_root_19 : decode cL_root 19 = .ok (.iconst 0, 1) := by decide +kernel
theorem dL_root_20 : decode cL_root 20 = .ok (.ireturn, 1) := by decide +kernel
abbrev cL_cell : ByteArray := method_13_code
def yL_cell : MethodName := ⟨RL, "cell", "(LChipFlow;III[J)I"⟩
theorem dL_cell_0 : decode cL_cell 0 = .ok (.aload 4, 2) := by decide +kernel
theorem dL_cell_2 : decode cL_cell 2 = .ok (.iconst 0, 1) := by decide +kernel
theorem dL_cell_3 : decode cL_cell 3 = .ok (.aload_n 0, 1) := by decide +kernel
theorem dL_cell_4 : decode cL_cell 4 = .ok (.iload_n 1, 1) := by decide +kernel
theorem dL_cell_5 : decode cL_cell 5 = .ok (.iload_n 2, 1) := by decide +kernel
theorem dL_cell_6 : decode cL_cell 6 = .ok (.iload_n 3, 1) := by decide +kernel
theorem dL_cell_7 : decode cL_cell 7 = .ok (.invokevirtual 53, 3) := by decide +kernel
theorem dL_cell_10 : decode cL_cell 10 = .ok (.i2l, 1) := by decide +kernel
theorem dL_cell_11 : decode cL_cell 11 = .ok (.lastore, 1) := by decide +kernel
theorem dL_cell_12 : decode cL_cell 12 = .ok (.goto 11, 3) := by decide +kernel
theorem dL_cell_15 : decode cL_cell 15 = .ok (.astore 5, 2) := by decide +kernel
theorem dL_cell_17 : decode cL_cell 17 = .ok (.iconst 1, 1) := by decide +kernel
theorem dL_cell_18 : decode cL_cell 18 = .ok (.ireturn, 1) := by decide +kernel
theorem dL_cell_19 : decode cL_cell 19 = .ok (.astore 5, 2) := by decide +kernel
theorem dL_cell_21 : decode cL_cell 21 = .ok (.iconst 2, 1) := by decide +kernel
theorem dL_cell_22 : decode cL_cell 22 = .ok (.ireturn, 1) := by decide +kernel
theorem dL_cell_23 : decode cL_cell 23 = .ok (.iconst 0, 1) := by decide +kernel
theorem dL_cell_24 : decode cL_cell 24 = .ok (.ireturn, 1) := by decide +kernel
abbrev cL_play : ByteArray := method_14_code
def yL_play : MethodName := ⟨RL, "play", "(LChipFlow;II[J)I"⟩
theorem dL_play_0 : decode cL_play 0 = .ok (.aload_n 3, 1) := by decide +kernel
theorem dL_play_1 : decode cL_play 1 = .ok (.iconst 0, 1) := by decide +kernel
theorem dL_play_2 : decode cL_play 2 = .ok (.aload_n 0, 1) := by decide +kernel
theorem dL_play_3 : decode cL_play 3 = .ok (.iload_n 1, 1) := by decide +kernel
theorem dL_play_4 : decode cL_play 4 = .ok (.iload_n 2, 1) := by decide +kernel
theorem dL_play_5 : decode cL_play 5 = .ok (.invokevirtual 56, 3) := by decide +kernel
theorem dL_play_8 : decode cL_play 8 = .ok (.i2l, 1) := by decide +kernel
theorem dL_play_9 : decode cL_play 9 = .ok (.lastore, 1) := by decide +kernel
theorem dL_play_10 : decode cL_play 10 = .ok (.goto 11, 3) := by decide +kernel
theorem dL_play_13 : decode cL_play 13 = .ok (.astore 4, 2) := by decide +kernel
theorem dL_play_15 : decode cL_play 15 = .ok (.iconst 1, 1) := by decide +kernel
theorem dL_play_16 : decode cL_play 16 = .ok (.ireturn, 1) := by decide +kernel
theorem dL_play_17 : decode cL_play 17 = .ok (.astore 4, 2) := by decide +kernel
theorem dL_play_19 : decode cL_play 19 = .ok (.iconst 2, 1) := by decide +kernel
theorem dL_play_20 : decode cL_play 20 = .ok (.ireturn, 1) := by decide +kernel
theorem dL_play_21 : decode cL_play 21 = .ok (.iconst 0, 1) := by decide +kernel
theorem dL_play_22 : decode cL_play 22 = .ok (.ireturn, 1) := by decide +kernel
abbrev cL_state : ByteArray := method_15_code
def yL_state : MethodName := ⟨RL, "state", "(LChipFlow;I[J)I"⟩
theorem dL_state_0 : decode cL_state 0 = .ok (.aload_n 2, 1) := by decide +kernel
theorem dL_state_1 : decode cL_state 1 = .ok (.iconst 0, 1) := by decide +kernel
theorem dL_state_2 : decode cL_state 2 = .ok (.aload_n 0, 1) := by decide +kernel
theorem dL_state_3 : decode cL_state 3 = .ok (.iload_n 1, 1) := by decide +kernel
theorem dL_state_4 : decode cL_state 4 = .ok (.invokevirtual 59, 3) := by decide +kernel
theorem dL_state_7 : decode cL_state 7 = .ok (.i2l, 1) := by decide +kernel
theorem dL_state_8 : decode cL_state 8 = .ok (.lastore, 1) := by decide +kernel
theorem dL_state_9 : decode cL_state 9 = .ok (.goto 6, 3) := by decide +kernel
theorem dL_state_12 : decode cL_state 12 = .ok (.astore_n 3, 1) := by decide +kernel
theorem dL_state_13 : decode cL_state 13 = .ok (.iconst 1, 1) := by decide +kernel
theorem dL_state_14 : decode cL_state 14 = .ok (.ireturn, 1) := by decide +kernel
theorem dL_state_15 : decode cL_state 15 = .ok (.iconst 0, 1) := by decide +kernel
theorem dL_state_16 : decode cL_state 16 = .ok (.ireturn, 1) := by decide +kernel
abbrev cL_restart : ByteArray := method_16_code
def yL_restart : MethodName := ⟨RL, "restart", "(LChipFlow;I[J)I"⟩
theorem dL_restart_0 : decode cL_restart 0 = .ok (.aload_n 2, 1) := by decide +kernel
theorem dL_restart_1 : decode cL_restart 1 = .ok (.iconst 0, 1) := by decide +kernel
theorem dL_restart_2 : decode cL_restart 2 = .ok (.aload_n 0, 1) := by decide +kernel
theorem dL_restart_3 : decode cL_restart 3 = .ok (.iload_n 1, 1) := by decide +kernel
theorem dL_restart_4 : decode cL_restart 4 = .ok (.invokevirtual 63, 3) := by decide +kernel
theorem dL_restart_7 : decode cL_restart 7 = .ok (.i2l, 1) := by decide +kernel
theorem dL_restart_8 : decode cL_restart 8 = .ok (.lastore, 1) := by decide +kernel
theorem dL_restart_9 : decode cL_restart 9 = .ok (.goto 6, 3) := by decide +kernel
theorem dL_restart_12 : decode cL_restart 12 = .ok (.astore_n 3, 1) := by decide +kernel
theorem dL_restart_13 : decode cL_restart 13 = .ok (.iconst 1, 1) := by decide +kernel
theorem dL_restart_14 : decode cL_restart 14 = .ok (.ireturn, 1) := by decide +kernel
theorem dL_restart_15 : decode cL_restart 15 = .ok (.iconst 0, 1) := by decide +kernel
theorem dL_restart_16 : decode cL_restart 16 = .ok (.ireturn, 1) := by decide +kernel
abbrev cL_equal : ByteArray := method_17_code
def yL_equal : MethodName := ⟨RL, "equal", "(LChipFlow;II[J)I"⟩
theorem dL_equal_0 : decode cL_equal 0 = .ok (.aload_n 3, 1) := by decide +kernel
theorem dL_equal_1 : decode cL_equal 1 = .ok (.iconst 0, 1) := by decide +kernel
theorem dL_equal_2 : decode cL_equal 2 = .ok (.aload_n 0, 1) := by decide +kernel
theorem dL_equal_3 : decode cL_equal 3 = .ok (.iload_n 1, 1) := by decide +kernel
theorem dL_equal_4 : decode cL_equal 4 = .ok (.iload_n 2, 1) := by decide +kernel
theorem dL_equal_5 : decode cL_equal 5 = .ok (.invokevirtual 66, 3) := by decide +kernel
theorem dL_equal_8 : decode cL_equal 8 = .ok (.i2l, 1) := by decide +kernel
theorem dL_equal_9 : decode cL_equal 9 = .ok (.lastore, 1) := by decide +kernel
theorem dL_equal_10 : decode cL_equal 10 = .ok (.goto 11, 3) := by decide +kernel
theorem dL_equal_13 : decode cL_equal 13 = .ok (.astore 4, 2) := by decide +kernel
theorem dL_equal_15 : decode cL_equal 15 = .ok (.iconst 1, 1) := by decide +kernel
theorem dL_equal_16 : decode cL_equal 16 = .ok (.ireturn, 1) := by decide +kernel
theorem dL_equal_17 : decode cL_equal 17 = .ok (.astore 4, 2) := by decide +kernel
theorem dL_equal_19 : decode cL_equal 19 = .ok (.iconst 2, 1) := by decide +kernel
theorem dL_equal_20 : decode cL_equal 20 = .ok (.ireturn, 1) := by decide +kernel
theorem dL_equal_21 : decode cL_equal 21 = .ok (.iconst 0, 1) := by decide +kernel
theorem dL_equal_22 : decode cL_equal 22 = .ok (.ireturn, 1) := by decide +kernel
abbrev cL_never : ByteArray := method_18_code
def yL_never : MethodName := ⟨RL, "never", "(LChipFlow;II[J)I"⟩
theorem dL_never_0 : decode cL_never 0 = .ok (.aload_n 3, 1) := by decide +kernel
theorem dL_never_1 : decode cL_never 1 = .ok (.iconst 0, 1) := by decide +kernel
theorem dL_never_2 : decode cL_never 2 = .ok (.aload_n 0, 1) := by decide +kernel
theorem dL_never_3 : decode cL_never 3 = .ok (.iload_n 1, 1) := by decide +kernel
theorem dL_never_4 : decode cL_never 4 = .ok (.iload_n 2, 1) := by decide +kernel
theorem dL_never_5 : decode cL_never 5 = .ok (.invokevirtual 69, 3) := by decide +kernel
theorem dL_never_8 : decode cL_never 8 = .ok (.i2l, 1) := by decide +kernel
theorem dL_never_9 : decode cL_never 9 = .ok (.lastore, 1) := by decide +kernel
theorem dL_never_10 : decode cL_never 10 = .ok (.goto 7, 3) := by decide +kernel
theorem dL_never_13 : decode cL_never 13 = .ok (.astore 4, 2) := by decide +kernel
theorem dL_never_15 : decode cL_never 15 = .ok (.iconst 1, 1) := by decide +kernel
theorem dL_never_16 : decode cL_never 16 = .ok (.ireturn, 1) := by decide +kernel
theorem dL_never_17 : decode cL_never 17 = .ok (.iconst 0, 1) := by decide +kernel
theorem dL_never_18 : decode cL_never 18 = .ok (.ireturn, 1) := by decide +kernel
abbrev cL_map : ByteArray := method_20_code
def yL_map : MethodName := ⟨RL, "map", "(LChipFlow;II[J)I"⟩
theorem dL_map_0 : decode cL_map 0 = .ok (.aload_n 3, 1) := by decide +kernel
theorem dL_map_1 : decode cL_map 1 = .ok (.iconst 0, 1) := by decide +kernel
theorem dL_map_2 : decode cL_map 2 = .ok (.aload_n 0, 1) := by decide +kernel
theorem dL_map_3 : decode cL_map 3 = .ok (.iload_n 1, 1) := by decide +kernel
theorem dL_map_4 : decode cL_map 4 = .ok (.iload_n 2, 1) := by decide +kernel
theorem dL_map_5 : decode cL_map 5 = .ok (.invokevirtual 75, 3) := by decide +kernel
theorem dL_map_8 : decode cL_map 8 = .ok (.i2l, 1) := by decide +kernel
theorem dL_map_9 : decode cL_map 9 = .ok (.lastore, 1) := by decide +kernel
theorem dL_map_10 : decode cL_map 10 = .ok (.goto 11, 3) := by decide +kernel
theorem dL_map_13 : decode cL_map 13 = .ok (.astore 4, 2) := by decide +kernel
theorem dL_map_15 : decode cL_map 15 = .ok (.iconst 1, 1) := by decide +kernel
theorem dL_map_16 : decode cL_map 16 = .ok (.ireturn, 1) := by decide +kernel
theorem dL_map_17 : decode cL_map 17 = .ok (.astore 4, 2) := by decide +kernel
theorem dL_map_19 : decode cL_map 19 = .ok (.iconst 2, 1) := by decide +kernel
theorem dL_map_20 : decode cL_map 20 = .ok (.ireturn, 1) := by decide +kernel
theorem dL_map_21 : decode cL_map 21 = .ok (.iconst 0, 1) := by decide +kernel
theorem dL_map_22 : decode cL_map 22 = .ok (.ireturn, 1) := by decide +kernel
abbrev cL_chip : ByteArray := method_21_code
def yL_chip : MethodName := ⟨RL, "chip", "(LChipFlow;II[J)I"⟩
theorem dL_chip_0 : decode cL_chip 0 = .ok (.aload_n 3, 1) := by decide +kernel
theorem dL_chip_1 : decode cL_chip 1 = .ok (.iconst 0, 1) := by decide +kernel
theorem dL_chip_2 : decode cL_chip 2 = .ok (.aload_n 0, 1) := by decide +kernel
theorem dL_chip_3 : decode cL_chip 3 = .ok (.iload_n 1, 1) := by decide +kernel
theorem dL_chip_4 : decode cL_chip 4 = .ok (.iload_n 2, 1) := by decide +kernel
theorem dL_chip_5 : decode cL_chip 5 = .ok (.invokevirtual 78, 3) := by decide +kernel
theorem dL_chip_8 : decode cL_chip 8 = .ok (.i2l, 1) := by decide +kernel
theorem dL_chip_9 : decode cL_chip 9 = .ok (.lastore, 1) := by decide +kernel
theorem dL_chip_10 : decode cL_chip 10 = .ok (.goto 11, 3) := by decide +kernel
theorem dL_chip_13 : decode cL_chip 13 = .ok (.astore 4, 2) := by decide +kernel
theorem dL_chip_15 : decode cL_chip 15 = .ok (.iconst 1, 1) := by decide +kernel
theorem dL_chip_16 : decode cL_chip 16 = .ok (.ireturn, 1) := by decide +kernel
theorem dL_chip_17 : decode cL_chip 17 = .ok (.astore 4, 2) := by decide +kernel
theorem dL_chip_19 : decode cL_chip 19 = .ok (.iconst 2, 1) := by decide +kernel
theorem dL_chip_20 : decode cL_chip 20 = .ok (.ireturn, 1) := by decide +kernel
theorem dL_chip_21 : decode cL_chip 21 = .ok (.iconst 0, 1) := by decide +kernel
theorem dL_chip_22 : decode cL_chip 22 = .ok (.ireturn, 1) := by decide +kernel
abbrev cL_gate : ByteArray := method_22_code
def yL_gate : MethodName := ⟨RL, "gate", "(LChipFlow;III[J)I"⟩
theorem dL_gate_0 : decode cL_gate 0 = .ok (.aload 4, 2) := by decide +kernel
theorem dL_gate_2 : decode cL_gate 2 = .ok (.iconst 0, 1) := by decide +kernel
theorem dL_gate_3 : decode cL_gate 3 = .ok (.aload_n 0, 1) := by decide +kernel
theorem dL_gate_4 : decode cL_gate 4 = .ok (.iload_n 1, 1) := by decide +kernel
theorem dL_gate_5 : decode cL_gate 5 = .ok (.iload_n 2, 1) := by decide +kernel
theorem dL_gate_6 : decode cL_gate 6 = .ok (.iload_n 3, 1) := by decide +kernel
theorem dL_gate_7 : decode cL_gate 7 = .ok (.invokevirtual 81, 3) := by decide +kernel
theorem dL_gate_10 : decode cL_gate 10 = .ok (.i2l, 1) := by decide +kernel
theorem dL_gate_11 : decode cL_gate 11 = .ok (.lastore, 1) := by decide +kernel
theorem dL_gate_12 : decode cL_gate 12 = .ok (.goto 11, 3) := by decide +kernel
theorem dL_gate_15 : decode cL_gate 15 = .ok (.astore 5, 2) := by decide +kernel
theorem dL_gate_17 : decode cL_gate 17 = .ok (.iconst 1, 1) := by decide +kernel
theorem dL_gate_18 : decode cL_gate 18 = .ok (.ireturn, 1) := by decide +kernel
theorem dL_gate_19 : decode cL_gate 19 = .ok (.astore 5, 2) := by decide +kernel
theorem dL_gate_21 : decode cL_gate 21 = .ok (.iconst 2, 1) := by decide +kernel
theorem dL_gate_22 : decode cL_gate 22 = .ok (.ireturn, 1) := by decide +kernel
theorem dL_gate_23 : decode cL_gate 23 = .ok (.iconst 0, 1) := by decide +kernel
theorem dL_gate_24 : decode cL_gate 24 = .ok (.ireturn, 1) := by decide +kernel
abbrev cL_netOf : ByteArray := method_23_code
def yL_netOf : MethodName := ⟨RL, "netOf", "(LChipFlow;IIZ[J)I"⟩
theorem dL_netOf_0 : decode cL_netOf 0 = .ok (.aload 4, 2) := by decide +kernel
theorem dL_netOf_2 : decode cL_netOf 2 = .ok (.iconst 0, 1) := by decide +kernel
theorem dL_netOf_3 : decode cL_netOf 3 = .ok (.aload_n 0, 1) := by decide +kernel
theorem dL_netOf_4 : decode cL_netOf 4 = .ok (.iload_n 1, 1) := by decide +kernel
theorem dL_netOf_5 : decode cL_netOf 5 = .ok (.iload_n 2, 1) := by decide +kernel
theorem dL_netOf_6 : decode cL_netOf 6 = .ok (.iload_n 3, 1) := by decide +kernel
theorem dL_netOf_7 : decode cL_netOf 7 = .ok (.invokevirtual 84, 3) := by decide +kernel
theorem dL_netOf_10 : decode cL_netOf 10 = .ok (.i2l, 1) := by decide +kernel
theorem dL_netOf_11 : decode cL_netOf 11 = .ok (.lastore, 1) := by decide +kernel
theorem dL_netOf_12 : decode cL_netOf 12 = .ok (.goto 7, 3) := by decide +kernel
theorem dL_netOf_15 : decode cL_netOf 15 = .ok (.astore 5, 2) := by decide +kernel
theorem dL_netOf_17 : decode cL_netOf 17 = .ok (.iconst 1, 1) := by decide +kernel
theorem dL_netOf_18 : decode cL_netOf 18 = .ok (.ireturn, 1) := by decide +kernel
theorem dL_netOf_19 : decode cL_netOf 19 = .ok (.iconst 0, 1) := by decide +kernel
theorem dL_netOf_20 : decode cL_netOf 20 = .ok (.ireturn, 1) := by decide +kernel
abbrev cL_alter : ByteArray := method_24_code
def yL_alter : MethodName := ⟨RL, "alter", "(LChipFlow;III[J)I"⟩
theorem dL_alter_0 : decode cL_alter 0 = .ok (.aload 4, 2) := by decide +kernel
theorem dL_alter_2 : decode cL_alter 2 = .ok (.iconst 0, 1) := by decide +kernel
theorem dL_alter_3 : decode cL_alter 3 = .ok (.aload_n 0, 1) := by decide +kernel
theorem dL_alter_4 : decode cL_alter 4 = .ok (.iload_n 1, 1) := by decide +kernel
theorem dL_alter_5 : decode cL_alter 5 = .ok (.iload_n 2, 1) := by decide +kernel
theorem dL_alter_6 : decode cL_alter 6 = .ok (.iload_n 3, 1) := by decide +kernel
theorem dL_alter_7 : decode cL_alter 7 = .ok (.invokevirtual 87, 3) := by decide +kernel
theorem dL_alter_10 : decode cL_alter 10 = .ok (.i2l, 1) := by decide +kernel
theorem dL_alter_11 : decode cL_alter 11 = .ok (.lastore, 1) := by decide +kernel
theorem dL_alter_12 : decode cL_alter 12 = .ok (.goto 11, 3) := by decide +kernel
theorem dL_alter_15 : decode cL_alter 15 = .ok (.astore 5, 2) := by decide +kernel
theorem dL_alter_17 : decode cL_alter 17 = .ok (.iconst 1, 1) := by decide +kernel
theorem dL_alter_18 : decode cL_alter 18 = .ok (.ireturn, 1) := by decide +kernel
theorem dL_alter_19 : decode cL_alter 19 = .ok (.astore 5, 2) := by decide +kernel
theorem dL_alter_21 : decode cL_alter 21 = .ok (.iconst 2, 1) := by decide +kernel
theorem dL_alter_22 : decode cL_alter 22 = .ok (.ireturn, 1) := by decide +kernel
theorem dL_alter_23 : decode cL_alter 23 = .ok (.iconst 0, 1) := by decide +kernel
theorem dL_alter_24 : decode cL_alter 24 = .ok (.ireturn, 1) := by decide +kernel
abbrev cL_run : ByteArray := method_25_code
def yL_run : MethodName := ⟨RL, "run", "(LChipFlow;II[J)I"⟩
theorem dL_run_0 : decode cL_run 0 = .ok (.aload_n 3, 1) := by decide +kernel
theorem dL_run_1 : decode cL_run 1 = .ok (.iconst 0, 1) := by decide +kernel
theorem dL_run_2 : decode cL_run 2 = .ok (.aload_n 0, 1) := by decide +kernel
theorem dL_run_3 : decode cL_run 3 = .ok (.iload_n 1, 1) := by decide +kernel
theorem dL_run_4 : decode cL_run 4 = .ok (.iload_n 2, 1) := by decide +kernel
theorem dL_run_5 : decode cL_run 5 = .ok (.invokevirtual 90, 3) := by decide +kernel
theorem dL_run_8 : decode cL_run 8 = .ok (.i2l, 1) := by decide +kernel
theorem dL_run_9 : decode cL_run 9 = .ok (.lastore, 1) := by decide +kernel
theorem dL_run_10 : decode cL_run 10 = .ok (.goto 11, 3) := by decide +kernel
theorem dL_run_13 : decode cL_run 13 = .ok (.astore 4, 2) := by decide +kernel
theorem dL_run_15 : decode cL_run 15 = .ok (.iconst 1, 1) := by decide +kernel
theorem dL_run_16 : decode cL_run 16 = .ok (.ireturn, 1) := by decide +kernel
theorem dL_run_17 : decode cL_run 17 = .ok (.astore 4, 2) := by decide +kernel
theorem dL_run_19 : decode cL_run 19 = .ok (.iconst 2, 1) := by decide +kernel
theorem dL_run_20 : decode cL_run 20 = .ok (.ireturn, 1) := by decide +kernel
theorem dL_run_21 : decode cL_run 21 = .ok (.iconst 0, 1) := by decide +kernel
theorem dL_run_22 : decode cL_run 22 = .ok (.ireturn, 1) := by decide +kernel
abbrev cL_reset : ByteArray := method_26_code
def yL_reset : MethodName := ⟨RL, "reset", "(LChipFlow;I[J)I"⟩
theorem dL_reset_0 : decode cL_reset 0 = .ok (.aload_n 2, 1) := by decide +kernel
theorem dL_reset_1 : decode cL_reset 1 = .ok (.iconst 0, 1) := by decide +kernel
theorem dL_reset_2 : decode cL_reset 2 = .ok (.aload_n 0, 1) := by decide +kernel
theorem dL_reset_3 : decode cL_reset 3 = .ok (.iload_n 1, 1) := by decide +kernel
theorem dL_reset_4 : decode cL_reset 4 = .ok (.invokevirtual 93, 3) := by decide +kernel
theorem dL_reset_7 : decode cL_reset 7 = .ok (.i2l, 1) := by decide +kernel
theorem dL_reset_8 : decode cL_reset 8 = .ok (.lastore, 1) := by decide +kernel
theorem dL_reset_9 : decode cL_reset 9 = .ok (.goto 6, 3) := by decide +kernel
theorem dL_reset_12 : decode cL_reset 12 = .ok (.astore_n 3, 1) := by decide +kernel
theorem dL_reset_13 : decode cL_reset 13 = .ok (.iconst 1, 1) := by decide +kernel
theorem dL_reset_14 : decode cL_reset 14 = .ok (.ireturn, 1) := by decide +kernel
theorem dL_reset_15 : decode cL_reset 15 = .ok (.iconst 0, 1) := by decide +kernel
theorem dL_reset_16 : decode cL_reset 16 = .ok (.ireturn, 1) := by decide +kernel
abbrev cL_proves : ByteArray := method_27_code
def yL_proves : MethodName := ⟨RL, "proves", "(LChipFlow;II[J)I"⟩
theorem dL_proves_0 : decode cL_proves 0 = .ok (.aload_n 3, 1) := by decide +kernel
theorem dL_proves_1 : decode cL_proves 1 = .ok (.iconst 0, 1) := by decide +kernel
theorem dL_proves_2 : decode cL_proves 2 = .ok (.aload_n 0, 1) := by decide +kernel
theorem dL_proves_3 : decode cL_proves 3 = .ok (.iload_n 1, 1) := by decide +kernel
theorem dL_proves_4 : decode cL_proves 4 = .ok (.iload_n 2, 1) := by decide +kernel
theorem dL_proves_5 : decode cL_proves 5 = .ok (.invokevirtual 96, 3) := by decide +kernel
theorem dL_proves_8 : decode cL_proves 8 = .ok (.i2l, 1) := by decide +kernel
theorem dL_proves_9 : decode cL_proves 9 = .ok (.lastore, 1) := by decide +kernel
theorem dL_proves_10 : decode cL_proves 10 = .ok (.goto 11, 3) := by decide +kernel
theorem dL_proves_13 : decode cL_proves 13 = .ok (.astore 4, 2) := by decide +kernel
theorem dL_proves_15 : decode cL_proves 15 = .ok (.iconst 1, 1) := by decide +kernel
theorem dL_proves_16 : decode cL_proves 16 = .ok (.ireturn, 1) := by decide +kernel
theorem dL_proves_17 : decode cL_proves 17 = .ok (.astore 4, 2) := by decide +kernel
theorem dL_proves_19 : decode cL_proves 19 = .ok (.iconst 2, 1) := by decide +kernel
theorem dL_proves_20 : decode cL_proves 20 = .ok (.ireturn, 1) := by decide +kernel
theorem dL_proves_21 : decode cL_proves 21 = .ok (.iconst 0, 1) := by decide +kernel
theorem dL_proves_22 : decode cL_proves 22 = .ok (.ireturn, 1) := by decide +kernel
abbrev cL_place : ByteArray := method_28_code
def yL_place : MethodName := ⟨RL, "place", "(LChipFlow;II[J)I"⟩
theorem dL_place_0 : decode cL_place 0 = .ok (.aload_n 3, 1) := by decide +kernel
theorem dL_place_1 : decode cL_place 1 = .ok (.iconst 0, 1) := by decide +kernel
theorem dL_place_2 : decode cL_place 2 = .ok (.aload_n 0, 1) := by decide +kernel
theorem dL_place_3 : decode cL_place 3 = .ok (.iload_n 1, 1) := by decide +kernel
theorem dL_place_4 : decode cL_place 4 = .ok (.iload_n 2, 1) := by decide +kernel
theorem dL_place_5 : decode cL_place 5 = .ok (.invokevirtual 99, 3) := by decide +kernel
theorem dL_place_8 : decode cL_place 8 = .ok (.i2l, 1) := by decide +kernel
theorem dL_place_9 : decode cL_place 9 = .ok (.lastore, 1) := by decide +kernel
theorem dL_place_10 : decode cL_place 10 = .ok (.goto 11, 3) := by decide +kernel
theorem dL_place_13 : decode cL_place 13 = .ok (.astore 4, 2) := by decide +kernel
theorem dL_place_15 : decode cL_place 15 = .ok (.iconst 1, 1) := by decide +kernel
theorem dL_place_16 : decode cL_place 16 = .ok (.ireturn, 1) := by decide +kernel
theorem dL_place_17 : decode cL_place 17 = .ok (.astore 4, 2) := by decide +kernel
theorem dL_place_19 : decode cL_place 19 = .ok (.iconst 2, 1) := by decide +kernel
theorem dL_place_20 : decode cL_place 20 = .ok (.ireturn, 1) := by decide +kernel
theorem dL_place_21 : decode cL_place 21 = .ok (.iconst 0, 1) := by decide +kernel
theorem dL_place_22 : decode cL_place 22 = .ok (.ireturn, 1) := by decide +kernel
abbrev cL_at : ByteArray := method_29_code
def yL_at : MethodName := ⟨RL, "at", "(LChipFlow;III[J)I"⟩
theorem dL_at_0 : decode cL_at 0 = .ok (.aload 4, 2) := by decide +kernel
theorem dL_at_2 : decode cL_at 2 = .ok (.iconst 0, 1) := by decide +kernel
theorem dL_at_3 : decode cL_at 3 = .ok (.aload_n 0, 1) := by decide +kernel
theorem dL_at_4 : decode cL_at 4 = .ok (.iload_n 1, 1) := by decide +kernel
theorem dL_at_5 : decode cL_at 5 = .ok (.iload_n 2, 1) := by decide +kernel
theorem dL_at_6 : decode cL_at 6 = .ok (.iload_n 3, 1) := by decide +kernel
theorem dL_at_7 : decode cL_at 7 = .ok (.invokevirtual 102, 3) := by decide +kernel
theorem dL_at_10 : decode cL_at 10 = .ok (.i2l, 1) := by decide +kernel
theorem dL_at_11 : decode cL_at 11 = .ok (.lastore, 1) := by decide +kernel
theorem dL_at_12 : decode cL_at 12 = .ok (.goto 15, 3) := by decide +kernel
theorem dL_at_15 : decode cL_at 15 = .ok (.astore 5, 2) := by decide +kernel
theorem dL_at_17 : decode cL_at 17 = .ok (.iconst 1, 1) := by decide +kernel
theorem dL_at_18 : decode cL_at 18 = .ok (.ireturn, 1) := by decide +kernel
theorem dL_at_19 : decode cL_at 19 = .ok (.astore 5, 2) := by decide +kernel
theorem dL_at_21 : decode cL_at 21 = .ok (.iconst 2, 1) := by decide +kernel
theorem dL_at_22 : decode cL_at 22 = .ok (.ireturn, 1) := by decide +kernel
theorem dL_at_23 : decode cL_at 23 = .ok (.astore 5, 2) := by decide +kernel
theorem dL_at_25 : decode cL_at 25 = .ok (.iconst 3, 1) := by decide +kernel
theorem dL_at_26 : decode cL_at 26 = .ok (.ireturn, 1) := by decide +kernel
theorem dL_at_27 : decode cL_at 27 = .ok (.iconst 0, 1) := by decide +kernel
theorem dL_at_28 : decode cL_at 28 = .ok (.ireturn, 1) := by decide +kernel
abbrev cL_move : ByteArray := method_30_code
def yL_move : MethodName := ⟨RL, "move", "(LChipFlow;IIII[J)I"⟩
theorem dL_move_0 : decode cL_move 0 = .ok (.aload 5, 2) := by decide +kernel
theorem dL_move_2 : decode cL_move 2 = .ok (.iconst 0, 1) := by decide +kernel
theorem dL_move_3 : decode cL_move 3 = .ok (.aload_n 0, 1) := by decide +kernel
theorem dL_move_4 : decode cL_move 4 = .ok (.iload_n 1, 1) := by decide +kernel
theorem dL_move_5 : decode cL_move 5 = .ok (.iload_n 2, 1) := by decide +kernel
theorem dL_move_6 : decode cL_move 6 = .ok (.iload_n 3, 1) := by decide +kernel
theorem dL_move_7 : decode cL_move 7 = .ok (.iload 4, 2) := by decide +kernel
theorem dL_move_9 : decode cL_move 9 = .ok (.invokevirtual 107, 3) := by decide +kernel
theorem dL_move_12 : decode cL_move 12 = .ok (.ifCond .eq 7, 3) := by decide +kernel
theorem dL_move_15 : decode cL_move 15 = .ok (.lconst 1, 1) := by decide +kernel
theorem dL_move_16 : decode cL_move 16 = .ok (.goto 4, 3) := by decide +kernel
theorem dL_move_19 : decode cL_move 19 = .ok (.lconst 0, 1) := by decide +kernel
theorem dL_move_20 : decode cL_move 20 = .ok (.lastore, 1) := by decide +kernel
theorem dL_move_21 : decode cL_move 21 = .ok (.goto 11, 3) := by decide +kernel
theorem dL_move_24 : decode cL_move 24 = .ok (.astore 6, 2) := by decide +kernel
theorem dL_move_26 : decode cL_move 26 = .ok (.iconst 1, 1) := by decide +kernel
theorem dL_move_27 : decode cL_move 27 = .ok (.ireturn, 1) := by decide +kernel
theorem dL_move_28 : decode cL_move 28 = .ok (.astore 6, 2) := by decide +kernel
theorem dL_move_30 : decode cL_move 30 = .ok (.iconst 2, 1) := by decide +kernel
theorem dL_move_31 : decode cL_move 31 = .ok (.ireturn, 1) := by decide +kernel
theorem dL_move_32 : decode cL_move 32 = .ok (.iconst 0, 1) := by decide +kernel
theorem dL_move_33 : decode cL_move 33 = .ok (.ireturn, 1) := by decide +kernel
abbrev cL_improve : ByteArray := method_31_code
def yL_improve : MethodName := ⟨RL, "improve", "(LChipFlow;II[J)I"⟩
theorem dL_improve_0 : decode cL_improve 0 = .ok (.aload_n 3, 1) := by decide +kernel
theorem dL_improve_1 : decode cL_improve 1 = .ok (.iconst 0, 1) := by decide +kernel
theorem dL_improve_2 : decode cL_improve 2 = .ok (.aload_n 0, 1) := by decide +kernel
theorem dL_improve_3 : decode cL_improve 3 = .ok (.iload_n 1, 1) := by decide +kernel
theorem dL_improve_4 : decode cL_improve 4 = .ok (.iload_n 2, 1) := by decide +kernel
theorem dL_improve_5 : decode cL_improve 5 = .ok (.invokevirtual 111, 3) := by decide +kernel
theorem dL_improve_8 : decode cL_improve 8 = .ok (.i2l, 1) := by decide +kernel
theorem dL_improve_9 : decode cL_improve 9 = .ok (.lastore, 1) := by decide +kernel
theorem dL_improve_10 : decode cL_improve 10 = .ok (.goto 15, 3) := by decide +kernel
theorem dL_improve_13 : decode cL_improve 13 = .ok (.astore 4, 2) := by decide +kernel
theorem dL_improve_15 : decode cL_improve 15 = .ok (.iconst 1, 1) := by decide +kernel
theorem dL_improve_16 : decode cL_improve 16 = .ok (.ireturn, 1) := by decide +kernel
theorem dL_improve_17 : decode cL_improve 17 = .ok (.astore 4, 2) := by decide +kernel
theorem dL_improve_19 : decode cL_improve 19 = .ok (.iconst 2, 1) := by decide +kernel
theorem dL_improve_20 : decode cL_improve 20 = .ok (.ireturn, 1) := by decide +kernel
theorem dL_improve_21 : decode cL_improve 21 = .ok (.astore 4, 2) := by decide +kernel
theorem dL_improve_23 : decode cL_improve 23 = .ok (.iconst 3, 1) := by decide +kernel
theorem dL_improve_24 : decode cL_improve 24 = .ok (.ireturn, 1) := by decide +kernel
theorem dL_improve_25 : decode cL_improve 25 = .ok (.iconst 0, 1) := by decide +kernel
theorem dL_improve_26 : decode cL_improve 26 = .ok (.ireturn, 1) := by decide +kernel
abbrev cL_wire : ByteArray := method_32_code
def yL_wire : MethodName := ⟨RL, "wire", "(LChipFlow;II[J)I"⟩
theorem dL_wire_0 : decode cL_wire 0 = .ok (.aload_n 3, 1) := by decide +kernel
theorem dL_wire_1 : decode cL_wire 1 = .ok (.iconst 0, 1) := by decide +kernel
theorem dL_wire_2 : decode cL_wire 2 = .ok (.aload_n 0, 1) := by decide +kernel
theorem dL_wire_3 : decode cL_wire 3 = .ok (.iload_n 1, 1) := by decide +kernel
theorem dL_wire_4 : decode cL_wire 4 = .ok (.iload_n 2, 1) := by decide +kernel
theorem dL_wire_5 : decode cL_wire 5 = .ok (.invokevirtual 114, 3) := by decide +kernel
theorem dL_wire_8 : decode cL_wire 8 = .ok (.i2l, 1) := by decide +kernel
theorem dL_wire_9 : decode cL_wire 9 = .ok (.lastore, 1) := by decide +kernel
theorem dL_wire_10 : decode cL_wire 10 = .ok (.goto 11, 3) := by decide +kernel
theorem dL_wire_13 : decode cL_wire 13 = .ok (.astore 4, 2) := by decide +kernel
theorem dL_wire_15 : decode cL_wire 15 = .ok (.iconst 1, 1) := by decide +kernel
theorem dL_wire_16 : decode cL_wire 16 = .ok (.ireturn, 1) := by decide +kernel
theorem dL_wire_17 : decode cL_wire 17 = .ok (.astore 4, 2) := by decide +kernel
theorem dL_wire_19 : decode cL_wire 19 = .ok (.iconst 2, 1) := by decide +kernel
theorem dL_wire_20 : decode cL_wire 20 = .ok (.ireturn, 1) := by decide +kernel
theorem dL_wire_21 : decode cL_wire 21 = .ok (.iconst 0, 1) := by decide +kernel
theorem dL_wire_22 : decode cL_wire 22 = .ok (.ireturn, 1) := by decide +kernel
abbrev cL_route : ByteArray := method_33_code
def yL_route : MethodName := ⟨RL, "route", "(LChipFlow;II[J)I"⟩
theorem dL_route_0 : decode cL_route 0 = .ok (.aload_n 3, 1) := by decide +kernel
theorem dL_route_1 : decode cL_route 1 = .ok (.iconst 0, 1) := by decide +kernel
theorem dL_route_2 : decode cL_route 2 = .ok (.aload_n 0, 1) := by decide +kernel
theorem dL_route_3 : decode cL_route 3 = .ok (.iload_n 1, 1) := by decide +kernel
theorem dL_route_4 : decode cL_route 4 = .ok (.iload_n 2, 1) := by decide +kernel
theorem dL_route_5 : decode cL_route 5 = .ok (.invokevirtual 117, 3) := by decide +kernel
theorem dL_route_8 : decode cL_route 8 = .ok (.i2l, 1) := by decide +kernel
theorem dL_route_9 : decode cL_route 9 = .ok (.lastore, 1) := by decide +kernel
theorem dL_route_10 : decode cL_route 10 = .ok (.goto 15, 3) := by decide +kernel
theorem dL_route_13 : decode cL_route 13 = .ok (.astore 4, 2) := by decide +kernel
theorem dL_route_15 : decode cL_route 15 = .ok (.iconst 1, 1) := by decide +kernel
theorem dL_route_16 : decode cL_route 16 = .ok (.ireturn, 1) := by decide +kernel
theorem dL_route_17 : decode cL_route 17 = .ok (.astore 4, 2) := by decide +kernel
theorem dL_route_19 : decode cL_route 19 = .ok (.iconst 2, 1) := by decide +kernel
theorem dL_route_20 : decode cL_route 20 = .ok (.ireturn, 1) := by decide +kernel
theorem dL_route_21 : decode cL_route 21 = .ok (.astore 4, 2) := by decide +kernel
theorem dL_route_23 : decode cL_route 23 = .ok (.iconst 3, 1) := by decide +kernel
theorem dL_route_24 : decode cL_route 24 = .ok (.ireturn, 1) := by decide +kernel
theorem dL_route_25 : decode cL_route 25 = .ok (.iconst 0, 1) := by decide +kernel
theorem dL_route_26 : decode cL_route 26 = .ok (.ireturn, 1) := by decide +kernel
abbrev cL_point : ByteArray := method_34_code
def yL_point : MethodName := ⟨RL, "point", "(LChipFlow;II[J)I"⟩
theorem dL_point_0 : decode cL_point 0 = .ok (.aload_n 3, 1) := by decide +kernel
theorem dL_point_1 : decode cL_point 1 = .ok (.iconst 0, 1) := by decide +kernel
theorem dL_point_2 : decode cL_point 2 = .ok (.aload_n 0, 1) := by decide +kernel
theorem dL_point_3 : decode cL_point 3 = .ok (.iload_n 1, 1) := by decide +kernel
theorem dL_point_4 : decode cL_point 4 = .ok (.iload_n 2, 1) := by decide +kernel
theorem dL_point_5 : decode cL_point 5 = .ok (.invokevirtual 120, 3) := by decide +kernel
theorem dL_point_8 : decode cL_point 8 = .ok (.i2l, 1) := by decide +kernel
theorem dL_point_9 : decode cL_point 9 = .ok (.lastore, 1) := by decide +kernel
theorem dL_point_10 : decode cL_point 10 = .ok (.goto 11, 3) := by decide +kernel
theorem dL_point_13 : decode cL_point 13 = .ok (.astore 4, 2) := by decide +kernel
theorem dL_point_15 : decode cL_point 15 = .ok (.iconst 1, 1) := by decide +kernel
theorem dL_point_16 : decode cL_point 16 = .ok (.ireturn, 1) := by decide +kernel
theorem dL_point_17 : decode cL_point 17 = .ok (.astore 4, 2) := by decide +kernel
theorem dL_point_19 : decode cL_point 19 = .ok (.iconst 2, 1) := by decide +kernel
theorem dL_point_20 : decode cL_point 20 = .ok (.ireturn, 1) := by decide +kernel
theorem dL_point_21 : decode cL_point 21 = .ok (.iconst 0, 1) := by decide +kernel
theorem dL_point_22 : decode cL_point 22 = .ok (.ireturn, 1) := by decide +kernel
abbrev cL_routed : ByteArray := method_35_code
def yL_routed : MethodName := ⟨RL, "routed", "(LChipFlow;III[J)I"⟩
theorem dL_routed_0 : decode cL_routed 0 = .ok (.aload 4, 2) := by decide +kernel
theorem dL_routed_2 : decode cL_routed 2 = .ok (.iconst 0, 1) := by decide +kernel
theorem dL_routed_3 : decode cL_routed 3 = .ok (.aload_n 0, 1) := by decide +kernel
theorem dL_routed_4 : decode cL_routed 4 = .ok (.iload_n 1, 1) := by decide +kernel
theorem dL_routed_5 : decode cL_routed 5 = .ok (.iload_n 2, 1) := by decide +kernel
theorem dL_routed_6 : decode cL_routed 6 = .ok (.iload_n 3, 1) := by decide +kernel
theorem dL_routed_7 : decode cL_routed 7 = .ok (.invokevirtual 123, 3) := by decide +kernel
theorem dL_routed_10 : decode cL_routed 10 = .ok (.i2l, 1) := by decide +kernel
theorem dL_routed_11 : decode cL_routed 11 = .ok (.lastore, 1) := by decide +kernel
theorem dL_routed_12 : decode cL_routed 12 = .ok (.goto 15, 3) := by decide +kernel
theorem dL_routed_15 : decode cL_routed 15 = .ok (.astore 5, 2) := by decide +kernel
theorem dL_routed_17 : decode cL_routed 17 = .ok (.iconst 1, 1) := by decide +kernel
theorem dL_routed_18 : decode cL_routed 18 = .ok (.ireturn, 1) := by decide +kernel
theorem dL_routed_19 : decode cL_routed 19 = .ok (.astore 5, 2) := by decide +kernel
theorem dL_routed_21 : decode cL_routed 21 = .ok (.iconst 2, 1) := by decide +kernel
theorem dL_routed_22 : decode cL_routed 22 = .ok (.ireturn, 1) := by decide +kernel
theorem dL_routed_23 : decode cL_routed 23 = .ok (.astore 5, 2) := by decide +kernel
theorem dL_routed_25 : decode cL_routed 25 = .ok (.iconst 3, 1) := by decide +kernel
theorem dL_routed_26 : decode cL_routed 26 = .ok (.ireturn, 1) := by decide +kernel
theorem dL_routed_27 : decode cL_routed 27 = .ok (.iconst 0, 1) := by decide +kernel
theorem dL_routed_28 : decode cL_routed 28 = .ok (.ireturn, 1) := by decide +kernel
abbrev cL_draw : ByteArray := method_36_code
def yL_draw : MethodName := ⟨RL, "draw", "(LChipFlow;I[J)I"⟩
theorem dL_draw_0 : decode cL_draw 0 = .ok (.aload_n 2, 1) := by decide +kernel
theorem dL_draw_1 : decode cL_draw 1 = .ok (.iconst 0, 1) := by decide +kernel
theorem dL_draw_2 : decode cL_draw 2 = .ok (.aload_n 0, 1) := by decide +kernel
theorem dL_draw_3 : decode cL_draw 3 = .ok (.iload_n 1, 1) := by decide +kernel
theorem dL_draw_4 : decode cL_draw 4 = .ok (.invokevirtual 126, 3) := by decide +kernel
theorem dL_draw_7 : decode cL_draw 7 = .ok (.i2l, 1) := by decide +kernel
theorem dL_draw_8 : decode cL_draw 8 = .ok (.lastore, 1) := by decide +kernel
theorem dL_draw_9 : decode cL_draw 9 = .ok (.goto 12, 3) := by decide +kernel
theorem dL_draw_12 : decode cL_draw 12 = .ok (.astore_n 3, 1) := by decide +kernel
theorem dL_draw_13 : decode cL_draw 13 = .ok (.iconst 1, 1) := by decide +kernel
theorem dL_draw_14 : decode cL_draw 14 = .ok (.ireturn, 1) := by decide +kernel
theorem dL_draw_15 : decode cL_draw 15 = .ok (.astore_n 3, 1) := by decide +kernel
theorem dL_draw_16 : decode cL_draw 16 = .ok (.iconst 2, 1) := by decide +kernel
theorem dL_draw_17 : decode cL_draw 17 = .ok (.ireturn, 1) := by decide +kernel
theorem dL_draw_18 : decode cL_draw 18 = .ok (.astore_n 3, 1) := by decide +kernel
theorem dL_draw_19 : decode cL_draw 19 = .ok (.iconst 3, 1) := by decide +kernel
theorem dL_draw_20 : decode cL_draw 20 = .ok (.ireturn, 1) := by decide +kernel
theorem dL_draw_21 : decode cL_draw 21 = .ok (.iconst 0, 1) := by decide +kernel
theorem dL_draw_22 : decode cL_draw 22 = .ok (.ireturn, 1) := by decide +kernel
abbrev cL_box : ByteArray := method_37_code
def yL_box : MethodName := ⟨RL, "box", "(LChipFlow;III[J)I"⟩
theorem dL_box_0 : decode cL_box 0 = .ok (.aload 4, 2) := by decide +kernel
theorem dL_box_2 : decode cL_box 2 = .ok (.iconst 0, 1) := by decide +kernel
theorem dL_box_3 : decode cL_box 3 = .ok (.aload_n 0, 1) := by decide +kernel
theorem dL_box_4 : decode cL_box 4 = .ok (.iload_n 1, 1) := by decide +kernel
theorem dL_box_5 : decode cL_box 5 = .ok (.iload_n 2, 1) := by decide +kernel
theorem dL_box_6 : decode cL_box 6 = .ok (.iload_n 3, 1) := by decide +kernel
theorem dL_box_7 : decode cL_box 7 = .ok (.invokevirtual 129, 3) := by decide +kernel
theorem dL_box_10 : decode cL_box 10 = .ok (.i2l, 1) := by decide +kernel
theorem dL_box_11 : decode cL_box 11 = .ok (.lastore, 1) := by decide +kernel
theorem dL_box_12 : decode cL_box 12 = .ok (.goto 15, 3) := by decide +kernel
theorem dL_box_15 : decode cL_box 15 = .ok (.astore 5, 2) := by decide +kernel
theorem dL_box_17 : decode cL_box 17 = .ok (.iconst 1, 1) := by decide +kernel
theorem dL_box_18 : decode cL_box 18 = .ok (.ireturn, 1) := by decide +kernel
theorem dL_box_19 : decode cL_box 19 = .ok (.astore 5, 2) := by decide +kernel
theorem dL_box_21 : decode cL_box 21 = .ok (.iconst 2, 1) := by decide +kernel
theorem dL_box_22 : decode cL_box 22 = .ok (.ireturn, 1) := by decide +kernel
theorem dL_box_23 : decode cL_box 23 = .ok (.astore 5, 2) := by decide +kernel
theorem dL_box_25 : decode cL_box 25 = .ok (.iconst 3, 1) := by decide +kernel
theorem dL_box_26 : decode cL_box 26 = .ok (.ireturn, 1) := by decide +kernel
theorem dL_box_27 : decode cL_box 27 = .ok (.iconst 0, 1) := by decide +kernel
theorem dL_box_28 : decode cL_box 28 = .ok (.ireturn, 1) := by decide +kernel
abbrev cL_add : ByteArray := method_38_code
def yL_add : MethodName := ⟨RL, "add", "(LChipFlow;IIIIII[J)I"⟩
theorem dL_add_0 : decode cL_add 0 = .ok (.aload 7, 2) := by decide +kernel
theorem dL_add_2 : decode cL_add 2 = .ok (.iconst 0, 1) := by decide +kernel
theorem dL_add_3 : decode cL_add 3 = .ok (.aload_n 0, 1) := by decide +kernel
theorem dL_add_4 : decode cL_add 4 = .ok (.iload_n 1, 1) := by decide +kernel
theorem dL_add_5 : decode cL_add 5 = .ok (.iload_n 2, 1) := by decide +kernel
theorem dL_add_6 : decode cL_add 6 = .ok (.iload_n 3, 1) := by decide +kernel
theorem dL_add_7 : decode cL_add 7 = .ok (.iload 4, 2) := by decide +kernel
theorem dL_add_9 : decode cL_add 9 = .ok (.iload 5, 2) := by decide +kernel
theorem dL_add_11 : decode cL_add 11 = .ok (.iload 6, 2) := by decide +kernel
theorem dL_add_13 : decode cL_add 13 = .ok (.invokevirtual 132, 3) := by decide +kernel
theorem dL_add_16 : decode cL_add 16 = .ok (.i2l, 1) := by decide +kernel
theorem dL_add_17 : decode cL_add 17 = .ok (.lastore, 1) := by decide +kernel
theorem dL_add_18 : decode cL_add 18 = .ok (.goto 19, 3) := by decide +kernel
theorem dL_add_21 : decode cL_add 21 = .ok (.astore 8, 2) := by decide +kernel
theorem dL_add_23 : decode cL_add 23 = .ok (.iconst 1, 1) := by decide +kernel
theorem dL_add_24 : decode cL_add 24 = .ok (.ireturn, 1) := by decide +kernel
theorem dL_add_25 : decode cL_add 25 = .ok (.astore 8, 2) := by decide +kernel
theorem dL_add_27 : decode cL_add 27 = .ok (.iconst 2, 1) := by decide +kernel
theorem dL_add_28 : decode cL_add 28 = .ok (.ireturn, 1) := by decide +kernel
theorem dL_add_29 : decode cL_add 29 = .ok (.astore 8, 2) := by decide +kernel
theorem dL_add_31 : decode cL_add 31 = .ok (.iconst 3, 1) := by decide +kernel
theorem dL_add_32 : decode cL_add 32 = .ok (.ireturn, 1) := by decide +kernel
theorem dL_add_33 : decode cL_add 33 = .ok (.astore 8, 2) := by decide +kernel
theorem dL_add_35 : decode cL_add 35 = .ok (.iconst 4, 1) := by decide +kernel
theorem dL_add_36 : decode cL_add 36 = .ok (.ireturn, 1) := by decide +kernel
theorem dL_add_37 : decode cL_add 37 = .ok (.iconst 0, 1) := by decide +kernel
theorem dL_add_38 : decode cL_add 38 = .ok (.ireturn, 1) := by decide +kernel
abbrev cL_erase : ByteArray := method_39_code
def yL_erase : MethodName := ⟨RL, "erase", "(LChipFlow;II[J)I"⟩
theorem dL_erase_0 : decode cL_erase 0 = .ok (.aload_n 3, 1) := by decide +kernel
theorem dL_erase_1 : decode cL_erase 1 = .ok (.iconst 0, 1) := by decide +kernel
theorem dL_erase_2 : decode cL_erase 2 = .ok (.aload_n 0, 1) := by decide +kernel
theorem dL_erase_3 : decode cL_erase 3 = .ok (.iload_n 1, 1) := by decide +kernel
theorem dL_erase_4 : decode cL_erase 4 = .ok (.iload_n 2, 1) := by decide +kernel
theorem dL_erase_5 : decode cL_erase 5 = .ok (.invokevirtual 136, 3) := by decide +kernel
theorem dL_erase_8 : decode cL_erase 8 = .ok (.i2l, 1) := by decide +kernel
theorem dL_erase_9 : decode cL_erase 9 = .ok (.lastore, 1) := by decide +kernel
theorem dL_erase_10 : decode cL_erase 10 = .ok (.goto 11, 3) := by decide +kernel
theorem dL_erase_13 : decode cL_erase 13 = .ok (.astore 4, 2) := by decide +kernel
theorem dL_erase_15 : decode cL_erase 15 = .ok (.iconst 1, 1) := by decide +kernel
theorem dL_erase_16 : decode cL_erase 16 = .ok (.ireturn, 1) := by decide +kernel
theorem dL_erase_17 : decode cL_erase 17 = .ok (.astore 4, 2) := by decide +kernel
theorem dL_erase_19 : decode cL_erase 19 = .ok (.iconst 2, 1) := by decide +kernel
theorem dL_erase_20 : decode cL_erase 20 = .ok (.ireturn, 1) := by decide +kernel
theorem dL_erase_21 : decode cL_erase 21 = .ok (.iconst 0, 1) := by decide +kernel
theorem dL_erase_22 : decode cL_erase 22 = .ok (.ireturn, 1) := by decide +kernel
abbrev cL_check : ByteArray := method_40_code
def yL_check : MethodName := ⟨RL, "check", "(LChipFlow;I[J)I"⟩
theorem dL_check_0 : decode cL_check 0 = .ok (.aload_n 2, 1) := by decide +kernel
theorem dL_check_1 : decode cL_check 1 = .ok (.iconst 0, 1) := by decide +kernel
theorem dL_check_2 : decode cL_check 2 = .ok (.aload_n 0, 1) := by decide +kernel
theorem dL_check_3 : decode cL_check 3 = .ok (.iload_n 1, 1) := by decide +kernel
theorem dL_check_4 : decode cL_check 4 = .ok (.invokevirtual 139, 3) := by decide +kernel
theorem dL_check_7 : decode cL_check 7 = .ok (.i2l, 1) := by decide +kernel
theorem dL_check_8 : decode cL_check 8 = .ok (.lastore, 1) := by decide +kernel
theorem dL_check_9 : decode cL_check 9 = .ok (.goto 9, 3) := by decide +kernel
theorem dL_check_12 : decode cL_check 12 = .ok (.astore_n 3, 1) := by decide +kernel
theorem dL_check_13 : decode cL_check 13 = .ok (.iconst 1, 1) := by decide +kernel
theorem dL_check_14 : decode cL_check 14 = .ok (.ireturn, 1) := by decide +kernel
theorem dL_check_15 : decode cL_check 15 = .ok (.astore_n 3, 1) := by decide +kernel
theorem dL_check_16 : decode cL_check 16 = .ok (.iconst 2, 1) := by decide +kernel
theorem dL_check_17 : decode cL_check 17 = .ok (.ireturn, 1) := by decide +kernel
theorem dL_check_18 : decode cL_check 18 = .ok (.iconst 0, 1) := by decide +kernel
theorem dL_check_19 : decode cL_check 19 = .ok (.ireturn, 1) := by decide +kernel
abbrev cL_violation : ByteArray := method_41_code
def yL_violation : MethodName := ⟨RL, "violation", "(LChipFlow;III[J)I"⟩
theorem dL_violation_0 : decode cL_violation 0 = .ok (.aload 4, 2) := by decide +kernel
theorem dL_violation_2 : decode cL_violation 2 = .ok (.iconst 0, 1) := by decide +kernel
theorem dL_violation_3 : decode cL_violation 3 = .ok (.aload_n 0, 1) := by decide +kernel
theorem dL_violation_4 : decode cL_violation 4 = .ok (.iload_n 1, 1) := by decide +kernel
theorem dL_violation_5 : decode cL_violation 5 = .ok (.iload_n 2, 1) := by decide +kernel
theorem dL_violation_6 : decode cL_violation 6 = .ok (.iload_n 3, 1) := by decide +kernel
theorem dL_violation_7 : decode cL_violation 7 = .ok (.invokevirtual 142, 3) := by decide +kernel
theorem dL_violation_10 : decode cL_violation 10 = .ok (.i2l, 1) := by decide +kernel
theorem dL_violation_11 : decode cL_violation 11 = .ok (.lastore, 1) := by decide +kernel
theorem dL_violation_12 : decode cL_violation 12 = .ok (.goto 11, 3) := by decide +kernel
theorem dL_violation_15 : decode cL_violation 15 = .ok (.astore 5, 2) := by decide +kernel
theorem dL_violation_17 : decode cL_violation 17 = .ok (.iconst 1, 1) := by decide +kernel
theorem dL_violation_18 : decode cL_violation 18 = .ok (.ireturn, 1) := by decide +kernel
theorem dL_violation_19 : decode cL_violation 19 = .ok (.astore 5, 2) := by decide +kernel
theorem dL_violation_21 : decode cL_violation 21 = .ok (.iconst 2, 1) := by decide +kernel
theorem dL_violation_22 : decode cL_violation 22 = .ok (.ireturn, 1) := by decide +kernel
theorem dL_violation_23 : decode cL_violation 23 = .ok (.iconst 0, 1) := by decide +kernel
theorem dL_violation_24 : decode cL_violation 24 = .ok (.ireturn, 1) := by decide +kernel
abbrev cL_found : ByteArray := method_42_code
def yL_found : MethodName := ⟨RL, "found", "(LChipFlow;II[J)I"⟩
theorem dL_found_0 : decode cL_found 0 = .ok (.aload_n 3, 1) := by decide +kernel
theorem dL_found_1 : decode cL_found 1 = .ok (.iconst 0, 1) := by decide +kernel
theorem dL_found_2 : decode cL_found 2 = .ok (.aload_n 0, 1) := by decide +kernel
theorem dL_found_3 : decode cL_found 3 = .ok (.iload_n 1, 1) := by decide +kernel
theorem dL_found_4 : decode cL_found 4 = .ok (.iload_n 2, 1) := by decide +kernel
theorem dL_found_5 : decode cL_found 5 = .ok (.invokevirtual 145, 3) := by decide +kernel
theorem dL_found_8 : decode cL_found 8 = .ok (.i2l, 1) := by decide +kernel
theorem dL_found_9 : decode cL_found 9 = .ok (.lastore, 1) := by decide +kernel
theorem dL_found_10 : decode cL_found 10 = .ok (.goto 15, 3) := by decide +kernel
theorem dL_found_13 : decode cL_found 13 = .ok (.astore 4, 2) := by decide +kernel
theorem dL_found_15 : decode cL_found 15 = .ok (.iconst 1, 1) := by decide +kernel
theorem dL_found_16 : decode cL_found 16 = .ok (.ireturn, 1) := by decide +kernel
theorem dL_found_17 : decode cL_found 17 = .ok (.astore 4, 2) := by decide +kernel
theorem dL_found_19 : decode cL_found 19 = .ok (.iconst 2, 1) := by decide +kernel
theorem dL_found_20 : decode cL_found 20 = .ok (.ireturn, 1) := by decide +kernel
theorem dL_found_21 : decode cL_found 21 = .ok (.astore 4, 2) := by decide +kernel
theorem dL_found_23 : decode cL_found 23 = .ok (.iconst 3, 1) := by decide +kernel
theorem dL_found_24 : decode cL_found 24 = .ok (.ireturn, 1) := by decide +kernel
theorem dL_found_25 : decode cL_found 25 = .ok (.iconst 0, 1) := by decide +kernel
theorem dL_found_26 : decode cL_found 26 = .ok (.ireturn, 1) := by decide +kernel
abbrev cL_arrival : ByteArray := method_43_code
def yL_arrival : MethodName := ⟨RL, "arrival", "(LChipFlow;IIZ[J)I"⟩
theorem dL_arrival_0 : decode cL_arrival 0 = .ok (.aload 4, 2) := by decide +kernel
theorem dL_arrival_2 : decode cL_arrival 2 = .ok (.iconst 0, 1) := by decide +kernel
theorem dL_arrival_3 : decode cL_arrival 3 = .ok (.aload_n 0, 1) := by decide +kernel
theorem dL_arrival_4 : decode cL_arrival 4 = .ok (.iload_n 1, 1) := by decide +kernel
theorem dL_arrival_5 : decode cL_arrival 5 = .ok (.iload_n 2, 1) := by decide +kernel
theorem dL_arrival_6 : decode cL_arrival 6 = .ok (.iload_n 3, 1) := by decide +kernel
theorem dL_arrival_7 : decode cL_arrival 7 = .ok (.invokevirtual 148, 3) := by decide +kernel
theorem dL_arrival_10 : decode cL_arrival 10 = .ok (.i2l, 1) := by decide +kernel
theorem dL_arrival_11 : decode cL_arrival 11 = .ok (.lastore, 1) := by decide +kernel
theorem dL_arrival_12 : decode cL_arrival 12 = .ok (.goto 7, 3) := by decide +kernel
theorem dL_arrival_15 : decode cL_arrival 15 = .ok (.astore 5, 2) := by decide +kernel
theorem dL_arrival_17 : decode cL_arrival 17 = .ok (.iconst 1, 1) := by decide +kernel
theorem dL_arrival_18 : decode cL_arrival 18 = .ok (.ireturn, 1) := by decide +kernel
theorem dL_arrival_19 : decode cL_arrival 19 = .ok (.iconst 0, 1) := by decide +kernel
theorem dL_arrival_20 : decode cL_arrival 20 = .ok (.ireturn, 1) := by decide +kernel
abbrev cL_falsify : ByteArray := method_44_code
def yL_falsify : MethodName := ⟨RL, "falsify", "(LChipFlow;III[J)I"⟩
theorem dL_falsify_0 : decode cL_falsify 0 = .ok (.aload 4, 2) := by decide +kernel
theorem dL_falsify_2 : decode cL_falsify 2 = .ok (.iconst 0, 1) := by decide +kernel
theorem dL_falsify_3 : decode cL_falsify 3 = .ok (.aload_n 0, 1) := by decide +kernel
theorem dL_falsify_4 : decode cL_falsify 4 = .ok (.iload_n 1, 1) := by decide +kernel
theorem dL_falsify_5 : decode cL_falsify 5 = .ok (.iload_n 2, 1) := by decide +kernel
theorem dL_falsify_6 : decode cL_falsify 6 = .ok (.iload_n 3, 1) := by decide +kernel
theorem dL_falsify_7 : decode cL_falsify 7 = .ok (.invokevirtual 151, 3) := by decide +kernel
theorem dL_falsify_10 : decode cL_falsify 10 = .ok (.ifCond .eq 7, 3) := by decide +kernel
theorem dL_falsify_13 : decode cL_falsify 13 = .ok (.lconst 1, 1) := by decide +kernel
theorem dL_falsify_14 : decode cL_falsify 14 = .ok (.goto 4, 3) := by decide +kernel
theorem dL_falsify_17 : decode cL_falsify 17 = .ok (.lconst 0, 1) := by decide +kernel
theorem dL_falsify_18 : decode cL_falsify 18 = .ok (.lastore, 1) := by decide +kernel
theorem dL_falsify_19 : decode cL_falsify 19 = .ok (.goto 11, 3) := by decide +kernel
theorem dL_falsify_22 : decode cL_falsify 22 = .ok (.astore 5, 2) := by decide +kernel
theorem dL_falsify_24 : decode cL_falsify 24 = .ok (.iconst 1, 1) := by decide +kernel
theorem dL_falsify_25 : decode cL_falsify 25 = .ok (.ireturn, 1) := by decide +kernel
theorem dL_falsify_26 : decode cL_falsify 26 = .ok (.astore 5, 2) := by decide +kernel
theorem dL_falsify_28 : decode cL_falsify 28 = .ok (.iconst 2, 1) := by decide +kernel
theorem dL_falsify_29 : decode cL_falsify 29 = .ok (.ireturn, 1) := by decide +kernel
theorem dL_falsify_30 : decode cL_falsify 30 = .ok (.iconst 0, 1) := by decide +kernel
theorem dL_falsify_31 : decode cL_falsify 31 = .ok (.ireturn, 1) := by decide +kernel
abbrev cL_path : ByteArray := method_45_code
def yL_path : MethodName := ⟨RL, "path", "(LChipFlow;III[J)I"⟩
theorem dL_path_0 : decode cL_path 0 = .ok (.aload 4, 2) := by decide +kernel
theorem dL_path_2 : decode cL_path 2 = .ok (.iconst 0, 1) := by decide +kernel
theorem dL_path_3 : decode cL_path 3 = .ok (.aload_n 0, 1) := by decide +kernel
theorem dL_path_4 : decode cL_path 4 = .ok (.iload_n 1, 1) := by decide +kernel
theorem dL_path_5 : decode cL_path 5 = .ok (.iload_n 2, 1) := by decide +kernel
theorem dL_path_6 : decode cL_path 6 = .ok (.iload_n 3, 1) := by decide +kernel
theorem dL_path_7 : decode cL_path 7 = .ok (.invokevirtual 155, 3) := by decide +kernel
theorem dL_path_10 : decode cL_path 10 = .ok (.i2l, 1) := by decide +kernel
theorem dL_path_11 : decode cL_path 11 = .ok (.lastore, 1) := by decide +kernel
theorem dL_path_12 : decode cL_path 12 = .ok (.goto 7, 3) := by decide +kernel
theorem dL_path_15 : decode cL_path 15 = .ok (.astore 5, 2) := by decide +kernel
theorem dL_path_17 : decode cL_path 17 = .ok (.iconst 1, 1) := by decide +kernel
theorem dL_path_18 : decode cL_path 18 = .ok (.ireturn, 1) := by decide +kernel
theorem dL_path_19 : decode cL_path 19 = .ok (.iconst 0, 1) := by decide +kernel
theorem dL_path_20 : decode cL_path 20 = .ok (.ireturn, 1) := by decide +kernel
abbrev cL_wave : ByteArray := method_46_code
def yL_wave : MethodName := ⟨RL, "wave", "(LChipFlow;IIIII[J)I"⟩
theorem dL_wave_0 : decode cL_wave 0 = .ok (.aload 6, 2) := by decide +kernel
theorem dL_wave_2 : decode cL_wave 2 = .ok (.iconst 0, 1) := by decide +kernel
theorem dL_wave_3 : decode cL_wave 3 = .ok (.aload_n 0, 1) := by decide +kernel
theorem dL_wave_4 : decode cL_wave 4 = .ok (.iload_n 1, 1) := by decide +kernel
theorem dL_wave_5 : decode cL_wave 5 = .ok (.iload_n 2, 1) := by decide +kernel
theorem dL_wave_6 : decode cL_wave 6 = .ok (.iload_n 3, 1) := by decide +kernel
theorem dL_wave_7 : decode cL_wave 7 = .ok (.iload 4, 2) := by decide +kernel
theorem dL_wave_9 : decode cL_wave 9 = .ok (.iload 5, 2) := by decide +kernel
theorem dL_wave_11 : decode cL_wave 11 = .ok (.invokevirtual 158, 3) := by decide +kernel
theorem dL_wave_14 : decode cL_wave 14 = .ok (.i2l, 1) := by decide +kernel
theorem dL_wave_15 : decode cL_wave 15 = .ok (.lastore, 1) := by decide +kernel
theorem dL_wave_16 : decode cL_wave 16 = .ok (.goto 15, 3) := by decide +kernel
theorem dL_wave_19 : decode cL_wave 19 = .ok (.astore 7, 2) := by decide +kernel
theorem dL_wave_21 : decode cL_wave 21 = .ok (.iconst 1, 1) := by decide +kernel
theorem dL_wave_22 : decode cL_wave 22 = .ok (.ireturn, 1) := by decide +kernel
theorem dL_wave_23 : decode cL_wave 23 = .ok (.astore 7, 2) := by decide +kernel
theorem dL_wave_25 : decode cL_wave 25 = .ok (.iconst 2, 1) := by decide +kernel
theorem dL_wave_26 : decode cL_wave 26 = .ok (.ireturn, 1) := by decide +kernel
theorem dL_wave_27 : decode cL_wave 27 = .ok (.astore 7, 2) := by decide +kernel
theorem dL_wave_29 : decode cL_wave 29 = .ok (.iconst 3, 1) := by decide +kernel
theorem dL_wave_30 : decode cL_wave 30 = .ok (.ireturn, 1) := by decide +kernel
theorem dL_wave_31 : decode cL_wave 31 = .ok (.iconst 0, 1) := by decide +kernel
theorem dL_wave_32 : decode cL_wave 32 = .ok (.ireturn, 1) := by decide +kernel
abbrev cL_changes : ByteArray := method_47_code
def yL_changes : MethodName := ⟨RL, "changes", "(LChipFlow;IIII[J)I"⟩
theorem dL_changes_0 : decode cL_changes 0 = .ok (.aload 5, 2) := by decide +kernel
theorem dL_changes_2 : decode cL_changes 2 = .ok (.iconst 0, 1) := by decide +kernel
theorem dL_changes_3 : decode cL_changes 3 = .ok (.aload_n 0, 1) := by decide +kernel
theorem dL_changes_4 : decode cL_changes 4 = .ok (.iload_n 1, 1) := by decide +kernel
theorem dL_changes_5 : decode cL_changes 5 = .ok (.iload_n 2, 1) := by decide +kernel
theorem dL_changes_6 : decode cL_changes 6 = .ok (.iload_n 3, 1) := by decide +kernel
theorem dL_changes_7 : decode cL_changes 7 = .ok (.iload 4, 2) := by decide +kernel
theorem dL_changes_9 : decode cL_changes 9 = .ok (.invokevirtual 161, 3) := by decide +kernel
theorem dL_changes_12 : decode cL_changes 12 = .ok (.i2l, 1) := by decide +kernel
theorem dL_changes_13 : decode cL_changes 13 = .ok (.lastore, 1) := by decide +kernel
theorem dL_changes_14 : decode cL_changes 14 = .ok (.goto 15, 3) := by decide +kernel
theorem dL_changes_17 : decode cL_changes 17 = .ok (.astore 6, 2) := by decide +kernel
theorem dL_changes_19 : decode cL_changes 19 = .ok (.iconst 1, 1) := by decide +kernel
theorem dL_changes_20 : decode cL_changes 20 = .ok (.ireturn, 1) := by decide +kernel
theorem dL_changes_21 : decode cL_changes 21 = .ok (.astore 6, 2) := by decide +kernel
theorem dL_changes_23 : decode cL_changes 23 = .ok (.iconst 2, 1) := by decide +kernel
theorem dL_changes_24 : decode cL_changes 24 = .ok (.ireturn, 1) := by decide +kernel
theorem dL_changes_25 : decode cL_changes 25 = .ok (.astore 6, 2) := by decide +kernel
theorem dL_changes_27 : decode cL_changes 27 = .ok (.iconst 3, 1) := by decide +kernel
theorem dL_changes_28 : decode cL_changes 28 = .ok (.ireturn, 1) := by decide +kernel
theorem dL_changes_29 : decode cL_changes 29 = .ok (.iconst 0, 1) := by decide +kernel
theorem dL_changes_30 : decode cL_changes 30 = .ok (.ireturn, 1) := by decide +kernel
abbrev cL_test : ByteArray := method_48_code
def yL_test : MethodName := ⟨RL, "test", "(LChipFlow;II[J)I"⟩
theorem dL_test_0 : decode cL_test 0 = .ok (.aload_n 3, 1) := by decide +kernel
theorem dL_test_1 : decode cL_test 1 = .ok (.iconst 0, 1) := by decide +kernel
theorem dL_test_2 : decode cL_test 2 = .ok (.aload_n 0, 1) := by decide +kernel
theorem dL_test_3 : decode cL_test 3 = .ok (.iload_n 1, 1) := by decide +kernel
theorem dL_test_4 : decode cL_test 4 = .ok (.iload_n 2, 1) := by decide +kernel
theorem dL_test_5 : decode cL_test 5 = .ok (.invokevirtual 165, 3) := by decide +kernel
theorem dL_test_8 : decode cL_test 8 = .ok (.i2l, 1) := by decide +kernel
theorem dL_test_9 : decode cL_test 9 = .ok (.lastore, 1) := by decide +kernel
theorem dL_test_10 : decode cL_test 10 = .ok (.goto 7, 3) := by decide +kernel
theorem dL_test_13 : decode cL_test 13 = .ok (.astore 4, 2) := by decide +kernel
theorem dL_test_15 : decode cL_test 15 = .ok (.iconst 1, 1) := by decide +kernel
theorem dL_test_16 : decode cL_test 16 = .ok (.ireturn, 1) := by decide +kernel
theorem dL_test_17 : decode cL_test 17 = .ok (.iconst 0, 1) := by decide +kernel
theorem dL_test_18 : decode cL_test 18 = .ok (.ireturn, 1) := by decide +kernel
abbrev cL_shows : ByteArray := method_49_code
def yL_shows : MethodName := ⟨RL, "shows", "(LChipFlow;III[J)I"⟩
theorem dL_shows_0 : decode cL_shows 0 = .ok (.aload 4, 2) := by decide +kernel
theorem dL_shows_2 : decode cL_shows 2 = .ok (.iconst 0, 1) := by decide +kernel
theorem dL_shows_3 : decode cL_shows 3 = .ok (.aload_n 0, 1) := by decide +kernel
theorem dL_shows_4 : decode cL_shows 4 = .ok (.iload_n 1, 1) := by decide +kernel
theorem dL_shows_5 : decode cL_shows 5 = .ok (.iload_n 2, 1) := by decide +kernel
theorem dL_shows_6 : decode cL_shows 6 = .ok (.iload_n 3, 1) := by decide +kernel
theorem dL_shows_7 : decode cL_shows 7 = .ok (.invokevirtual 168, 3) := by decide +kernel
theorem dL_shows_10 : decode cL_shows 10 = .ok (.ifCond .eq 7, 3) := by decide +kernel
theorem dL_shows_13 : decode cL_shows 13 = .ok (.lconst 1, 1) := by decide +kernel
theorem dL_shows_14 : decode cL_shows 14 = .ok (.goto 4, 3) := by decide +kernel
theorem dL_shows_17 : decode cL_shows 17 = .ok (.lconst 0, 1) := by decide +kernel
theorem dL_shows_18 : decode cL_shows 18 = .ok (.lastore, 1) := by decide +kernel
theorem dL_shows_19 : decode cL_shows 19 = .ok (.goto 11, 3) := by decide +kernel
theorem dL_shows_22 : decode cL_shows 22 = .ok (.astore 5, 2) := by decide +kernel
theorem dL_shows_24 : decode cL_shows 24 = .ok (.iconst 1, 1) := by decide +kernel
theorem dL_shows_25 : decode cL_shows 25 = .ok (.ireturn, 1) := by decide +kernel
theorem dL_shows_26 : decode cL_shows 26 = .ok (.astore 5, 2) := by decide +kernel
theorem dL_shows_28 : decode cL_shows 28 = .ok (.iconst 2, 1) := by decide +kernel
theorem dL_shows_29 : decode cL_shows 29 = .ok (.ireturn, 1) := by decide +kernel
theorem dL_shows_30 : decode cL_shows 30 = .ok (.iconst 0, 1) := by decide +kernel
theorem dL_shows_31 : decode cL_shows 31 = .ok (.ireturn, 1) := by decide +kernel
abbrev cL_tests : ByteArray := method_50_code
def yL_tests : MethodName := ⟨RL, "tests", "(LChipFlow;I[J)I"⟩
theorem dL_tests_0 : decode cL_tests 0 = .ok (.aload_n 2, 1) := by decide +kernel
theorem dL_tests_1 : decode cL_tests 1 = .ok (.iconst 0, 1) := by decide +kernel
theorem dL_tests_2 : decode cL_tests 2 = .ok (.aload_n 0, 1) := by decide +kernel
theorem dL_tests_3 : decode cL_tests 3 = .ok (.iload_n 1, 1) := by decide +kernel
theorem dL_tests_4 : decode cL_tests 4 = .ok (.invokevirtual 171, 3) := by decide +kernel
theorem dL_tests_7 : decode cL_tests 7 = .ok (.i2l, 1) := by decide +kernel
theorem dL_tests_8 : decode cL_tests 8 = .ok (.lastore, 1) := by decide +kernel
theorem dL_tests_9 : decode cL_tests 9 = .ok (.goto 6, 3) := by decide +kernel
theorem dL_tests_12 : decode cL_tests 12 = .ok (.astore_n 3, 1) := by decide +kernel
theorem dL_tests_13 : decode cL_tests 13 = .ok (.iconst 1, 1) := by decide +kernel
theorem dL_tests_14 : decode cL_tests 14 = .ok (.ireturn, 1) := by decide +kernel
theorem dL_tests_15 : decode cL_tests 15 = .ok (.iconst 0, 1) := by decide +kernel
theorem dL_tests_16 : decode cL_tests 16 = .ok (.ireturn, 1) := by decide +kernel
abbrev cL_pattern : ByteArray := method_51_code
def yL_pattern : MethodName := ⟨RL, "pattern", "(LChipFlow;II[J)I"⟩
theorem dL_pattern_0 : decode cL_pattern 0 = .ok (.aload_n 3, 1) := by decide +kernel
theorem dL_pattern_1 : decode cL_pattern 1 = .ok (.iconst 0, 1) := by decide +kernel
theorem dL_pattern_2 : decode cL_pattern 2 = .ok (.aload_n 0, 1) := by decide +kernel
theorem dL_pattern_3 : decode cL_pattern 3 = .ok (.iload_n 1, 1) := by decide +kernel
theorem dL_pattern_4 : decode cL_pattern 4 = .ok (.iload_n 2, 1) := by decide +kernel
theorem dL_pattern_5 : decode cL_pattern 5 = .ok (.invokevirtual 174, 3) := by decide +kernel
theorem dL_pattern_8 : decode cL_pattern 8 = .ok (.i2l, 1) := by decide +kernel
theorem dL_pattern_9 : decode cL_pattern 9 = .ok (.lastore, 1) := by decide +kernel
theorem dL_pattern_10 : decode cL_pattern 10 = .ok (.goto 11, 3) := by decide +kernel
theorem dL_pattern_13 : decode cL_pattern 13 = .ok (.astore 4, 2) := by decide +kernel
theorem dL_pattern_15 : decode cL_pattern 15 = .ok (.iconst 1, 1) := by decide +kernel
theorem dL_pattern_16 : decode cL_pattern 16 = .ok (.ireturn, 1) := by decide +kernel
theorem dL_pattern_17 : decode cL_pattern 17 = .ok (.astore 4, 2) := by decide +kernel
theorem dL_pattern_19 : decode cL_pattern 19 = .ok (.iconst 2, 1) := by decide +kernel
theorem dL_pattern_20 : decode cL_pattern 20 = .ok (.ireturn, 1) := by decide +kernel
theorem dL_pattern_21 : decode cL_pattern 21 = .ok (.iconst 0, 1) := by decide +kernel
theorem dL_pattern_22 : decode cL_pattern 22 = .ok (.ireturn, 1) := by decide +kernel
abbrev cL_fails : ByteArray := method_52_code
def yL_fails : MethodName := ⟨RL, "fails", "(LChipFlow;IIZ[J)I"⟩
theorem dL_fails_0 : decode cL_fails 0 = .ok (.aload 4, 2) := by decide +kernel
theorem dL_fails_2 : decode cL_fails 2 = .ok (.iconst 0, 1) := by decide +kernel
theorem dL_fails_3 : decode cL_fails 3 = .ok (.aload_n 0, 1) := by decide +kernel
theorem dL_fails_4 : decode cL_fails 4 = .ok (.iload_n 1, 1) := by decide +kernel
theorem dL_fails_5 : decode cL_fails 5 = .ok (.iload_n 2, 1) := by decide +kernel
theorem dL_fails_6 : decode cL_fails 6 = .ok (.iload_n 3, 1) := by decide +kernel
theorem dL_fails_7 : decode cL_fails 7 = .ok (.invokevirtual 177, 3) := by decide +kernel
theorem dL_fails_10 : decode cL_fails 10 = .ok (.ifCond .eq 7, 3) := by decide +kernel
theorem dL_fails_13 : decode cL_fails 13 = .ok (.lconst 1, 1) := by decide +kernel
theorem dL_fails_14 : decode cL_fails 14 = .ok (.goto 4, 3) := by decide +kernel
theorem dL_fails_17 : decode cL_fails 17 = .ok (.lconst 0, 1) := by decide +kernel
theorem dL_fails_18 : decode cL_fails 18 = .ok (.lastore, 1) := by decide +kernel
theorem dL_fails_19 : decode cL_fails 19 = .ok (.goto 11, 3) := by decide +kernel
theorem dL_fails_22 : decode cL_fails 22 = .ok (.astore 5, 2) := by decide +kernel
theorem dL_fails_24 : decode cL_fails 24 = .ok (.iconst 1, 1) := by decide +kernel
theorem dL_fails_25 : decode cL_fails 25 = .ok (.ireturn, 1) := by decide +kernel
theorem dL_fails_26 : decode cL_fails 26 = .ok (.astore 5, 2) := by decide +kernel
theorem dL_fails_28 : decode cL_fails 28 = .ok (.iconst 2, 1) := by decide +kernel
theorem dL_fails_29 : decode cL_fails 29 = .ok (.ireturn, 1) := by decide +kernel
theorem dL_fails_30 : decode cL_fails 30 = .ok (.iconst 0, 1) := by decide +kernel
theorem dL_fails_31 : decode cL_fails 31 = .ok (.ireturn, 1) := by decide +kernel
abbrev cL_suspect : ByteArray := method_53_code
def yL_suspect : MethodName := ⟨RL, "suspect", "(LChipFlow;II[J)I"⟩
theorem dL_suspect_0 : decode cL_suspect 0 = .ok (.aload_n 3, 1) := by decide +kernel
theorem dL_suspect_1 : decode cL_suspect 1 = .ok (.iconst 0, 1) := by decide +kernel
theorem dL_suspect_2 : decode cL_suspect 2 = .ok (.aload_n 0, 1) := by decide +kernel
theorem dL_suspect_3 : decode cL_suspect 3 = .ok (.iload_n 1, 1) := by decide +kernel
theorem dL_suspect_4 : decode cL_suspect 4 = .ok (.iload_n 2, 1) := by decide +kernel
theorem dL_suspect_5 : decode cL_suspect 5 = .ok (.invokevirtual 181, 3) := by decide +kernel
theorem dL_suspect_8 : decode cL_suspect 8 = .ok (.i2l, 1) := by decide +kernel
theorem dL_suspect_9 : decode cL_suspect 9 = .ok (.lastore, 1) := by decide +kernel
theorem dL_suspect_10 : decode cL_suspect 10 = .ok (.goto 11, 3) := by decide +kernel
theorem dL_suspect_13 : decode cL_suspect 13 = .ok (.astore 4, 2) := by decide +kernel
theorem dL_suspect_15 : decode cL_suspect 15 = .ok (.iconst 1, 1) := by decide +kernel
theorem dL_suspect_16 : decode cL_suspect 16 = .ok (.ireturn, 1) := by decide +kernel
theorem dL_suspect_17 : decode cL_suspect 17 = .ok (.astore 4, 2) := by decide +kernel
theorem dL_suspect_19 : decode cL_suspect 19 = .ok (.iconst 2, 1) := by decide +kernel
theorem dL_suspect_20 : decode cL_suspect 20 = .ok (.ireturn, 1) := by decide +kernel
theorem dL_suspect_21 : decode cL_suspect 21 = .ok (.iconst 0, 1) := by decide +kernel
theorem dL_suspect_22 : decode cL_suspect 22 = .ok (.ireturn, 1) := by decide +kernel
abbrev cL_faults : ByteArray := method_54_code
def yL_faults : MethodName := ⟨RL, "faults", "(LChipFlow;II[J)I"⟩
theorem dL_faults_0 : decode cL_faults 0 = .ok (.aload_n 3, 1) := by decide +kernel
theorem dL_faults_1 : decode cL_faults 1 = .ok (.iconst 0, 1) := by decide +kernel
theorem dL_faults_2 : decode cL_faults 2 = .ok (.aload_n 0, 1) := by decide +kernel
theorem dL_faults_3 : decode cL_faults 3 = .ok (.iload_n 1, 1) := by decide +kernel
theorem dL_faults_4 : decode cL_faults 4 = .ok (.iload_n 2, 1) := by decide +kernel
theorem dL_faults_5 : decode cL_faults 5 = .ok (.invokevirtual 184, 3) := by decide +kernel
theorem dL_faults_8 : decode cL_faults 8 = .ok (.i2l, 1) := by decide +kernel
theorem dL_faults_9 : decode cL_faults 9 = .ok (.lastore, 1) := by decide +kernel
theorem dL_faults_10 : decode cL_faults 10 = .ok (.goto 11, 3) := by decide +kernel
theorem dL_faults_13 : decode cL_faults 13 = .ok (.astore 4, 2) := by decide +kernel
theorem dL_faults_15 : decode cL_faults 15 = .ok (.iconst 1, 1) := by decide +kernel
theorem dL_faults_16 : decode cL_faults 16 = .ok (.ireturn, 1) := by decide +kernel
theorem dL_faults_17 : decode cL_faults 17 = .ok (.astore 4, 2) := by decide +kernel
theorem dL_faults_19 : decode cL_faults 19 = .ok (.iconst 2, 1) := by decide +kernel
theorem dL_faults_20 : decode cL_faults 20 = .ok (.ireturn, 1) := by decide +kernel
theorem dL_faults_21 : decode cL_faults 21 = .ok (.iconst 0, 1) := by decide +kernel
theorem dL_faults_22 : decode cL_faults 22 = .ok (.ireturn, 1) := by decide +kernel
theorem wd_1804 : (Cond.classLink RL 32 "java/lang/IndexOutOfBoundsException") ∈ BG := bg_tb tb_7 38 (by decide +kernel) (by decide +kernel)
theorem wd_1849 : (Cond.methodLink RL 38 yX12_graph) ∈ BG := bg_tb tb_7 83 (by decide +kernel) (by decide +kernel)
theorem wd_1850 : (Cond.instanceMethod yX12_graph) ∈ BG := bg_tb tb_7 84 (by decide +kernel) (by decide +kernel)
theorem wd_1851 : (Cond.selects RX12 yX12_graph yX12_graph) ∈ BG := bg_tb tb_7 85 (by decide +kernel) (by decide +kernel)
theorem wd_1852 : (Cond.code yX12_graph cX12_graph 4 (some .int)) ∈ BG := bg_tb tb_7 86 (by decide +kernel) (by decide +kernel)
theorem wd_1857 : (Cond.methodLink RL 42 yX12_literal) ∈ BG := bg_tb tb_7 91 (by decide +kernel) (by decide +kernel)
theorem wd_1858 : (Cond.instanceMethod yX12_literal) ∈ BG := bg_tb tb_7 92 (by decide +kernel) (by decide +kernel)
theorem wd_1859 : (Cond.selects RX12 yX12_literal yX12_literal) ∈ BG := bg_tb tb_7 93 (by decide +kernel) (by decide +kernel)
theorem wd_1860 : (Cond.code yX12_literal cX12_literal 5 (some .int)) ∈ BG := bg_tb tb_7 94 (by decide +kernel) (by decide +kernel)
theorem wd_1864 : (Cond.methodLink RL 46 yX12_swept) ∈ BG := bg_tb tb_7 98 (by decide +kernel) (by decide +kernel)
theorem wd_1865 : (Cond.instanceMethod yX12_swept) ∈ BG := bg_tb tb_7 99 (by decide +kernel) (by decide +kernel)
theorem wd_1866 : (Cond.selects RX12 yX12_swept yX12_swept) ∈ BG := bg_tb tb_7 100 (by decide +kernel) (by decide +kernel)
theorem wd_1867 : (Cond.code yX12_swept cX12_swept 4 (some .int)) ∈ BG := bg_tb tb_7 101 (by decide +kernel) (by decide +kernel)
theorem wd_1871 : (Cond.methodLink RL 49 yX12_root) ∈ BG := bg_tb tb_7 105 (by decide +kernel) (by decide +kernel)
theorem wd_1872 : (Cond.instanceMethod yX12_root) ∈ BG := bg_tb tb_7 106 (by decide +kernel) (by decide +kernel)
theorem wd_1873 : (Cond.selects RX12 yX12_root yX12_root) ∈ BG := bg_tb tb_7 107 (by decide +kernel) (by decide +kernel)
theorem wd_1874 : (Cond.code yX12_root cX12_root 5 (some .int)) ∈ BG := bg_tb tb_7 108 (by decide +kernel) (by decide +kernel)
theorem wd_1878 : (Cond.methodLink RL 53 yX12_cell) ∈ BG := bg_tb tb_7 112 (by decide +kernel) (by decide +kernel)
theorem wd_1879 : (Cond.instanceMethod yX12_cell) ∈ BG := bg_tb tb_7 113 (by decide +kernel) (by decide +kernel)
theorem wd_1880 : (Cond.selects RX12 yX12_cell yX12_cell) ∈ BG := bg_tb tb_7 114 (by decide +kernel) (by decide +kernel)
theorem wd_1881 : (Cond.code yX12_cell cX12_cell 5 (some .int)) ∈ BG := bg_tb tb_7 115 (by decide +kernel) (by decide +kernel)
theorem wd_1885 : (Cond.methodLink RL 56 yX12_play) ∈ BG := bg_tb tb_7 119 (by decide +kernel) (by decide +kernel)
theorem wd_1886 : (Cond.instanceMethod yX12_play) ∈ BG := bg_tb tb_7 120 (by decide +kernel) (by decide +kernel)
theorem wd_1887 : (Cond.selects RX12 yX12_play yX12_play) ∈ BG := bg_tb tb_7 121 (by decide +kernel) (by decide +kernel)
theorem wd_1888 : (Cond.code yX12_play cX12_play 5 (some .int)) ∈ BG := bg_tb tb_7 122 (by decide +kernel) (by decide +kernel)
theorem wd_1893 : (Cond.methodLink RL 59 yX12_state) ∈ BG := bg_tb tb_7 127 (by decide +kernel) (by decide +kernel)
theorem wd_1894 : (Cond.instanceMethod yX12_state) ∈ BG := bg_tb tb_7 128 (by decide +kernel) (by decide +kernel)
theorem wd_1895 : (Cond.selects RX12 yX12_state yX12_state) ∈ BG := bg_tb tb_7 129 (by decide +kernel) (by decide +kernel)
theorem wd_1896 : (Cond.code yX12_state cX12_state 2 (some .int)) ∈ BG := bg_tb tb_7 130 (by decide +kernel) (by decide +kernel)
theorem wd_1900 : (Cond.methodLink RL 63 yX12_restart) ∈ BG := bg_tb tb_7 134 (by decide +kernel) (by decide +kernel)
theorem wd_1901 : (Cond.instanceMethod yX12_restart) ∈ BG := bg_tb tb_7 135 (by decide +kernel) (by decide +kernel)
theorem wd_1902 : (Cond.selects RX12 yX12_restart yX12_restart) ∈ BG := bg_tb tb_7 136 (by decide +kernel) (by decide +kernel)
theorem wd_1903 : (Cond.code yX12_restart cX12_restart 4 (some .int)) ∈ BG := bg_tb tb_7 137 (by decide +kernel) (by decide +kernel)
theorem wd_1907 : (Cond.methodLink RL 66 yX12_equal) ∈ BG := bg_tb tb_7 141 (by decide +kernel) (by decide +kernel)
theorem wd_1908 : (Cond.instanceMethod yX12_equal) ∈ BG := bg_tb tb_7 142 (by decide +kernel) (by decide +kernel)
theorem wd_1909 : (Cond.selects RX12 yX12_equal yX12_equal) ∈ BG := bg_tb tb_7 143 (by decide +kernel) (by decide +kernel)
theorem wd_1910 : (Cond.code yX12_equal cX12_equal 5 (some .int)) ∈ BG := bg_tb tb_7 144 (by decide +kernel) (by decide +kernel)
theorem wd_1923 : (Cond.methodLink RL 69 yX12_never) ∈ BG := bg_tb tb_7 157 (by decide +kernel) (by decide +kernel)
theorem wd_1924 : (Cond.instanceMethod yX12_never) ∈ BG := bg_tb tb_7 158 (by decide +kernel) (by decide +kernel)
theorem wd_1925 : (Cond.selects RX12 yX12_never yX12_never) ∈ BG := bg_tb tb_7 159 (by decide +kernel) (by decide +kernel)
theorem wd_1926 : (Cond.code yX12_never cX12_never 4 (some .int)) ∈ BG := bg_tb tb_7 160 (by decide +kernel) (by decide +kernel)
theorem wd_1937 : (Cond.methodLink RL 75 yX12_map) ∈ BG := bg_tb tb_7 171 (by decide +kernel) (by decide +kernel)
theorem wd_1938 : (Cond.instanceMethod yX12_map) ∈ BG := bg_tb tb_7 172 (by decide +kernel) (by decide +kernel)
theorem wd_1939 : (Cond.selects RX12 yX12_map yX12_map) ∈ BG := bg_tb tb_7 173 (by decide +kernel) (by decide +kernel)
theorem wd_1940 : (Cond.code yX12_map cX12_map 7 (some .int)) ∈ BG := bg_tb tb_7 174 (by decide +kernel) (by decide +kernel)
theorem wd_2128 : (Cond.methodLink RL 78 yX12_chip) ∈ BG := bg_tb tb_8 122 (by decide +kernel) (by decide +kernel)
theorem wd_2129 : (Cond.instanceMethod yX12_chip) ∈ BG := bg_tb tb_8 123 (by decide +kernel) (by decide +kernel)
theorem wd_2130 : (Cond.selects RX12 yX12_chip yX12_chip) ∈ BG := bg_tb tb_8 124 (by decide +kernel) (by decide +kernel)
theorem wd_2131 : (Cond.code yX12_chip cX12_chip 5 (some .int)) ∈ BG := bg_tb tb_8 125 (by decide +kernel) (by decide +kernel)
theorem wd_2147 : (Cond.methodLink RL 81 yX12_gate) ∈ BG := bg_tb tb_8 141 (by decide +kernel) (by decide +kernel)
theorem wd_2148 : (Cond.instanceMethod yX12_gate) ∈ BG := bg_tb tb_8 142 (by decide +kernel) (by decide +kernel)
theorem wd_2149 : (Cond.selects RX12 yX12_gate yX12_gate) ∈ BG := bg_tb tb_8 143 (by decide +kernel) (by decide +kernel)
theorem wd_2150 : (Cond.code yX12_gate cX12_gate 5 (some .int)) ∈ BG := bg_tb tb_8 144 (by decide +kernel) (by decide +kernel)
theorem wd_2156 : (Cond.methodLink RL 84 yX12_netOf) ∈ BG := bg_tb tb_8 150 (by decide +kernel) (by decide +kernel)
theorem wd_2157 : (Cond.instanceMethod yX12_netOf) ∈ BG := bg_tb tb_8 151 (by decide +kernel) (by decide +kernel)
theorem wd_2158 : (Cond.selects RX12 yX12_netOf yX12_netOf) ∈ BG := bg_tb tb_8 152 (by decide +kernel) (by decide +kernel)
theorem wd_2159 : (Cond.code yX12_netOf cX12_netOf 5 (some .int)) ∈ BG := bg_tb tb_8 153 (by decide +kernel) (by decide +kernel)
theorem wd_2163 : (Cond.methodLink RL 87 yX12_alter) ∈ BG := bg_tb tb_8 157 (by decide +kernel) (by decide +kernel)
theorem wd_2164 : (Cond.instanceMethod yX12_alter) ∈ BG := bg_tb tb_8 158 (by decide +kernel) (by decide +kernel)
theorem wd_2165 : (Cond.selects RX12 yX12_alter yX12_alter) ∈ BG := bg_tb tb_8 159 (by decide +kernel) (by decide +kernel)
theorem wd_2166 : (Cond.code yX12_alter cX12_alter 6 (some .int)) ∈ BG := bg_tb tb_8 160 (by decide +kernel) (by decide +kernel)
theorem wd_2170 : (Cond.methodLink RL 90 yX12_run) ∈ BG := bg_tb tb_8 164 (by decide +kernel) (by decide +kernel)
theorem wd_2171 : (Cond.instanceMethod yX12_run) ∈ BG := bg_tb tb_8 165 (by decide +kernel) (by decide +kernel)
theorem wd_2172 : (Cond.selects RX12 yX12_run yX12_run) ∈ BG := bg_tb tb_8 166 (by decide +kernel) (by decide +kernel)
theorem wd_2173 : (Cond.code yX12_run cX12_run 5 (some .int)) ∈ BG := bg_tb tb_8 167 (by decide +kernel) (by decide +kernel)
theorem wd_2177 : (Cond.methodLink RL 93 yX12_reset) ∈ BG := bg_tb tb_8 171 (by decide +kernel) (by decide +kernel)
theorem wd_2178 : (Cond.instanceMethod yX12_reset) ∈ BG := bg_tb tb_8 172 (by decide +kernel) (by decide +kernel)
theorem wd_2179 : (Cond.selects RX12 yX12_reset yX12_reset) ∈ BG := bg_tb tb_8 173 (by decide +kernel) (by decide +kernel)
theorem wd_2180 : (Cond.code yX12_reset cX12_reset 4 (some .int)) ∈ BG := bg_tb tb_8 174 (by decide +kernel) (by decide +kernel)
theorem wd_2184 : (Cond.methodLink RL 96 yX12_proves) ∈ BG := bg_tb tb_8 178 (by decide +kernel) (by decide +kernel)
theorem wd_2185 : (Cond.instanceMethod yX12_proves) ∈ BG := bg_tb tb_8 179 (by decide +kernel) (by decide +kernel)
theorem wd_2186 : (Cond.selects RX12 yX12_proves yX12_proves) ∈ BG := bg_tb tb_8 180 (by decide +kernel) (by decide +kernel)
theorem wd_2187 : (Cond.code yX12_proves cX12_proves 5 (some .int)) ∈ BG := bg_tb tb_8 181 (by decide +kernel) (by decide +kernel)
theorem wd_2191 : (Cond.methodLink RL 99 yX12_place) ∈ BG := bg_tb tb_8 185 (by decide +kernel) (by decide +kernel)
theorem wd_2192 : (Cond.instanceMethod yX12_place) ∈ BG := bg_tb tb_8 186 (by decide +kernel) (by decide +kernel)
theorem wd_2193 : (Cond.selects RX12 yX12_place yX12_place) ∈ BG := bg_tb tb_8 187 (by decide +kernel) (by decide +kernel)
theorem wd_2194 : (Cond.code yX12_place cX12_place 4 (some .int)) ∈ BG := bg_tb tb_8 188 (by decide +kernel) (by decide +kernel)
theorem wd_2231 : (Cond.methodLink RL 102 yX12_at) ∈ BG := bg_tb tb_8 225 (by decide +kernel) (by decide +kernel)
theorem wd_2232 : (Cond.instanceMethod yX12_at) ∈ BG := bg_tb tb_8 226 (by decide +kernel) (by decide +kernel)
theorem wd_2233 : (Cond.selects RX12 yX12_at yX12_at) ∈ BG := bg_tb tb_8 227 (by decide +kernel) (by decide +kernel)
theorem wd_2234 : (Cond.code yX12_at cX12_at 5 (some .int)) ∈ BG := bg_tb tb_8 228 (by decide +kernel) (by decide +kernel)
theorem wd_2242 : (Cond.methodLink RL 107 yX12_move) ∈ BG := bg_tb tb_8 236 (by decide +kernel) (by decide +kernel)
theorem wd_2243 : (Cond.instanceMethod yX12_move) ∈ BG := bg_tb tb_8 237 (by decide +kernel) (by decide +kernel)
theorem wd_2244 : (Cond.selects RX12 yX12_move yX12_move) ∈ BG := bg_tb tb_8 238 (by decide +kernel) (by decide +kernel)
theorem wd_2245 : (Cond.code yX12_move cX12_move 6 (some .boolean)) ∈ BG := bg_tb tb_8 239 (by decide +kernel) (by decide +kernel)
theorem wd_2253 : (Cond.methodLink RL 111 yX12_improve) ∈ BG := bg_tb tb_9 7 (by decide +kernel) (by decide +kernel)
theorem wd_2254 : (Cond.instanceMethod yX12_improve) ∈ BG := bg_tb tb_9 8 (by decide +kernel) (by decide +kernel)
theorem wd_2255 : (Cond.selects RX12 yX12_improve yX12_improve) ∈ BG := bg_tb tb_9 9 (by decide +kernel) (by decide +kernel)
theorem wd_2256 : (Cond.code yX12_improve cX12_improve 4 (some .int)) ∈ BG := bg_tb tb_9 10 (by decide +kernel) (by decide +kernel)
theorem wd_2280 : (Cond.methodLink RL 114 yX12_wire) ∈ BG := bg_tb tb_9 34 (by decide +kernel) (by decide +kernel)
theorem wd_2281 : (Cond.instanceMethod yX12_wire) ∈ BG := bg_tb tb_9 35 (by decide +kernel) (by decide +kernel)
theorem wd_2282 : (Cond.selects RX12 yX12_wire yX12_wire) ∈ BG := bg_tb tb_9 36 (by decide +kernel) (by decide +kernel)
theorem wd_2283 : (Cond.code yX12_wire cX12_wire 4 (some .int)) ∈ BG := bg_tb tb_9 37 (by decide +kernel) (by decide +kernel)
theorem wd_2287 : (Cond.methodLink RL 117 yX12_route) ∈ BG := bg_tb tb_9 41 (by decide +kernel) (by decide +kernel)
theorem wd_2288 : (Cond.instanceMethod yX12_route) ∈ BG := bg_tb tb_9 42 (by decide +kernel) (by decide +kernel)
theorem wd_2289 : (Cond.selects RX12 yX12_route yX12_route) ∈ BG := bg_tb tb_9 43 (by decide +kernel) (by decide +kernel)
theorem wd_2290 : (Cond.code yX12_route cX12_route 4 (some .int)) ∈ BG := bg_tb tb_9 44 (by decide +kernel) (by decide +kernel)
theorem wd_2610 : (Cond.methodLink RL 120 yX12_point) ∈ BG := bg_tb tb_10 124 (by decide +kernel) (by decide +kernel)
theorem wd_2611 : (Cond.instanceMethod yX12_point) ∈ BG := bg_tb tb_10 125 (by decide +kernel) (by decide +kernel)
theorem wd_2612 : (Cond.selects RX12 yX12_point yX12_point) ∈ BG := bg_tb tb_10 126 (by decide +kernel) (by decide +kernel)
theorem wd_2613 : (Cond.code yX12_point cX12_point 4 (some .int)) ∈ BG := bg_tb tb_10 127 (by decide +kernel) (by decide +kernel)
theorem wd_2621 : (Cond.methodLink RL 123 yX12_routed) ∈ BG := bg_tb tb_10 135 (by decide +kernel) (by decide +kernel)
theorem wd_2622 : (Cond.instanceMethod yX12_routed) ∈ BG := bg_tb tb_10 136 (by decide +kernel) (by decide +kernel)
theorem wd_2623 : (Cond.selects RX12 yX12_routed yX12_routed) ∈ BG := bg_tb tb_10 137 (by decide +kernel) (by decide +kernel)
theorem wd_2624 : (Cond.code yX12_routed cX12_routed 5 (some .int)) ∈ BG := bg_tb tb_10 138 (by decide +kernel) (by decide +kernel)
theorem wd_2639 : (Cond.methodLink RL 126 yX12_draw) ∈ BG := bg_tb tb_10 153 (by decide +kernel) (by decide +kernel)
theorem wd_2640 : (Cond.instanceMethod yX12_draw) ∈ BG := bg_tb tb_10 154 (by decide +kernel) (by decide +kernel)
theorem wd_2641 : (Cond.selects RX12 yX12_draw yX12_draw) ∈ BG := bg_tb tb_10 155 (by decide +kernel) (by decide +kernel)
theorem wd_2642 : (Cond.code yX12_draw cX12_draw 4 (some .int)) ∈ BG := bg_tb tb_10 156 (by decide +kernel) (by decide +kernel)
theorem wd_2675 : (Cond.methodLink RL 129 yX12_box) ∈ BG := bg_tb tb_10 189 (by decide +kernel) (by decide +kernel)
theorem wd_2676 : (Cond.instanceMethod yX12_box) ∈ BG := bg_tb tb_10 190 (by decide +kernel) (by decide +kernel)
theorem wd_2677 : (Cond.selects RX12 yX12_box yX12_box) ∈ BG := bg_tb tb_10 191 (by decide +kernel) (by decide +kernel)
theorem wd_2678 : (Cond.code yX12_box cX12_box 5 (some .int)) ∈ BG := bg_tb tb_10 192 (by decide +kernel) (by decide +kernel)
theorem wd_2682 : (Cond.methodLink RL 132 yX12_add) ∈ BG := bg_tb tb_10 196 (by decide +kernel) (by decide +kernel)
theorem wd_2683 : (Cond.instanceMethod yX12_add) ∈ BG := bg_tb tb_10 197 (by decide +kernel) (by decide +kernel)
theorem wd_2684 : (Cond.selects RX12 yX12_add yX12_add) ∈ BG := bg_tb tb_10 198 (by decide +kernel) (by decide +kernel)
theorem wd_2685 : (Cond.code yX12_add cX12_add 8 (some .int)) ∈ BG := bg_tb tb_10 199 (by decide +kernel) (by decide +kernel)
theorem wd_2691 : (Cond.methodLink RL 136 yX12_erase) ∈ BG := bg_tb tb_10 205 (by decide +kernel) (by decide +kernel)
theorem wd_2692 : (Cond.instanceMethod yX12_erase) ∈ BG := bg_tb tb_10 206 (by decide +kernel) (by decide +kernel)
theorem wd_2693 : (Cond.selects RX12 yX12_erase yX12_erase) ∈ BG := bg_tb tb_10 207 (by decide +kernel) (by decide +kernel)
theorem wd_2694 : (Cond.code yX12_erase cX12_erase 4 (some .int)) ∈ BG := bg_tb tb_10 208 (by decide +kernel) (by decide +kernel)
theorem wd_2703 : (Cond.methodLink RL 139 yX12_check) ∈ BG := bg_tb tb_10 217 (by decide +kernel) (by decide +kernel)
theorem wd_2704 : (Cond.instanceMethod yX12_check) ∈ BG := bg_tb tb_10 218 (by decide +kernel) (by decide +kernel)
theorem wd_2705 : (Cond.selects RX12 yX12_check yX12_check) ∈ BG := bg_tb tb_10 219 (by decide +kernel) (by decide +kernel)
theorem wd_2706 : (Cond.code yX12_check cX12_check 3 (some .int)) ∈ BG := bg_tb tb_10 220 (by decide +kernel) (by decide +kernel)
theorem wd_2723 : (Cond.methodLink RL 142 yX12_violation) ∈ BG := bg_tb tb_10 237 (by decide +kernel) (by decide +kernel)
theorem wd_2724 : (Cond.instanceMethod yX12_violation) ∈ BG := bg_tb tb_10 238 (by decide +kernel) (by decide +kernel)
theorem wd_2725 : (Cond.selects RX12 yX12_violation yX12_violation) ∈ BG := bg_tb tb_10 239 (by decide +kernel) (by decide +kernel)
theorem wd_2726 : (Cond.code yX12_violation cX12_violation 5 (some .int)) ∈ BG := bg_tb tb_11 0 (by decide +kernel) (by decide +kernel)
theorem wd_2738 : (Cond.methodLink RL 145 yX12_found) ∈ BG := bg_tb tb_11 12 (by decide +kernel) (by decide +kernel)
theorem wd_2739 : (Cond.instanceMethod yX12_found) ∈ BG := bg_tb tb_11 13 (by decide +kernel) (by decide +kernel)
theorem wd_2740 : (Cond.selects RX12 yX12_found yX12_found) ∈ BG := bg_tb tb_11 14 (by decide +kernel) (by decide +kernel)
theorem wd_2741 : (Cond.code yX12_found cX12_found 5 (some .int)) ∈ BG := bg_tb tb_11 15 (by decide +kernel) (by decide +kernel)
theorem wd_2786 : (Cond.methodLink RL 148 yX12_arrival) ∈ BG := bg_tb tb_11 60 (by decide +kernel) (by decide +kernel)
theorem wd_2787 : (Cond.instanceMethod yX12_arrival) ∈ BG := bg_tb tb_11 61 (by decide +kernel) (by decide +kernel)
theorem wd_2788 : (Cond.selects RX12 yX12_arrival yX12_arrival) ∈ BG := bg_tb tb_11 62 (by decide +kernel) (by decide +kernel)
theorem wd_2789 : (Cond.code yX12_arrival cX12_arrival 5 (some .int)) ∈ BG := bg_tb tb_11 63 (by decide +kernel) (by decide +kernel)
theorem wd_2806 : (Cond.methodLink RL 151 yX12_falsify) ∈ BG := bg_tb tb_11 80 (by decide +kernel) (by decide +kernel)
theorem wd_2807 : (Cond.instanceMethod yX12_falsify) ∈ BG := bg_tb tb_11 81 (by decide +kernel) (by decide +kernel)
theorem wd_2808 : (Cond.selects RX12 yX12_falsify yX12_falsify) ∈ BG := bg_tb tb_11 82 (by decide +kernel) (by decide +kernel)
theorem wd_2809 : (Cond.code yX12_falsify cX12_falsify 5 (some .boolean)) ∈ BG := bg_tb tb_11 83 (by decide +kernel) (by decide +kernel)
theorem wd_2815 : (Cond.methodLink RL 155 yX12_path) ∈ BG := bg_tb tb_11 89 (by decide +kernel) (by decide +kernel)
theorem wd_2816 : (Cond.instanceMethod yX12_path) ∈ BG := bg_tb tb_11 90 (by decide +kernel) (by decide +kernel)
theorem wd_2817 : (Cond.selects RX12 yX12_path yX12_path) ∈ BG := bg_tb tb_11 91 (by decide +kernel) (by decide +kernel)
theorem wd_2818 : (Cond.code yX12_path cX12_path 5 (some .int)) ∈ BG := bg_tb tb_11 92 (by decide +kernel) (by decide +kernel)
theorem wd_2855 : (Cond.methodLink RL 158 yX12_wave) ∈ BG := bg_tb tb_11 129 (by decide +kernel) (by decide +kernel)
theorem wd_2856 : (Cond.instanceMethod yX12_wave) ∈ BG := bg_tb tb_11 130 (by decide +kernel) (by decide +kernel)
theorem wd_2857 : (Cond.selects RX12 yX12_wave yX12_wave) ∈ BG := bg_tb tb_11 131 (by decide +kernel) (by decide +kernel)
theorem wd_2858 : (Cond.code yX12_wave cX12_wave 7 (some .int)) ∈ BG := bg_tb tb_11 132 (by decide +kernel) (by decide +kernel)
theorem wd_2885 : (Cond.methodLink RL 161 yX12_changes) ∈ BG := bg_tb tb_11 159 (by decide +kernel) (by decide +kernel)
theorem wd_2886 : (Cond.instanceMethod yX12_changes) ∈ BG := bg_tb tb_11 160 (by decide +kernel) (by decide +kernel)
theorem wd_2887 : (Cond.selects RX12 yX12_changes yX12_changes) ∈ BG := bg_tb tb_11 161 (by decide +kernel) (by decide +kernel)
theorem wd_2888 : (Cond.code yX12_changes cX12_changes 6 (some .int)) ∈ BG := bg_tb tb_11 162 (by decide +kernel) (by decide +kernel)
theorem wd_2900 : (Cond.methodLink RL 165 yX12_test) ∈ BG := bg_tb tb_11 174 (by decide +kernel) (by decide +kernel)
theorem wd_2901 : (Cond.instanceMethod yX12_test) ∈ BG := bg_tb tb_11 175 (by decide +kernel) (by decide +kernel)
theorem wd_2902 : (Cond.selects RX12 yX12_test yX12_test) ∈ BG := bg_tb tb_11 176 (by decide +kernel) (by decide +kernel)
theorem wd_2903 : (Cond.code yX12_test cX12_test 4 (some .int)) ∈ BG := bg_tb tb_11 177 (by decide +kernel) (by decide +kernel)
theorem wd_2937 : (Cond.methodLink RL 168 yX12_shows) ∈ BG := bg_tb tb_11 211 (by decide +kernel) (by decide +kernel)
theorem wd_2938 : (Cond.instanceMethod yX12_shows) ∈ BG := bg_tb tb_11 212 (by decide +kernel) (by decide +kernel)
theorem wd_2939 : (Cond.selects RX12 yX12_shows yX12_shows) ∈ BG := bg_tb tb_11 213 (by decide +kernel) (by decide +kernel)
theorem wd_2940 : (Cond.code yX12_shows cX12_shows 5 (some .boolean)) ∈ BG := bg_tb tb_11 214 (by decide +kernel) (by decide +kernel)
theorem wd_2949 : (Cond.methodLink RL 171 yX12_tests) ∈ BG := bg_tb tb_11 223 (by decide +kernel) (by decide +kernel)
theorem wd_2950 : (Cond.instanceMethod yX12_tests) ∈ BG := bg_tb tb_11 224 (by decide +kernel) (by decide +kernel)
theorem wd_2951 : (Cond.selects RX12 yX12_tests yX12_tests) ∈ BG := bg_tb tb_11 225 (by decide +kernel) (by decide +kernel)
theorem wd_2952 : (Cond.code yX12_tests cX12_tests 3 (some .int)) ∈ BG := bg_tb tb_11 226 (by decide +kernel) (by decide +kernel)
theorem wd_2975 : (Cond.methodLink RL 174 yX12_pattern) ∈ BG := bg_tb tb_12 9 (by decide +kernel) (by decide +kernel)
theorem wd_2976 : (Cond.instanceMethod yX12_pattern) ∈ BG := bg_tb tb_12 10 (by decide +kernel) (by decide +kernel)
theorem wd_2977 : (Cond.selects RX12 yX12_pattern yX12_pattern) ∈ BG := bg_tb tb_12 11 (by decide +kernel) (by decide +kernel)
theorem wd_2978 : (Cond.code yX12_pattern cX12_pattern 4 (some .int)) ∈ BG := bg_tb tb_12 12 (by decide +kernel) (by decide +kernel)
theorem wd_2985 : (Cond.methodLink RL 177 yX12_fails) ∈ BG := bg_tb tb_12 19 (by decide +kernel) (by decide +kernel)
theorem wd_2986 : (Cond.instanceMethod yX12_fails) ∈ BG := bg_tb tb_12 20 (by decide +kernel) (by decide +kernel)
theorem wd_2987 : (Cond.selects RX12 yX12_fails yX12_fails) ∈ BG := bg_tb tb_12 21 (by decide +kernel) (by decide +kernel)
theorem wd_2988 : (Cond.code yX12_fails cX12_fails 6 (some .boolean)) ∈ BG := bg_tb tb_12 22 (by decide +kernel) (by decide +kernel)
theorem wd_2992 : (Cond.methodLink RL 181 yX12_suspect) ∈ BG := bg_tb tb_12 26 (by decide +kernel) (by decide +kernel)
theorem wd_2993 : (Cond.instanceMethod yX12_suspect) ∈ BG := bg_tb tb_12 27 (by decide +kernel) (by decide +kernel)
theorem wd_2994 : (Cond.selects RX12 yX12_suspect yX12_suspect) ∈ BG := bg_tb tb_12 28 (by decide +kernel) (by decide +kernel)
theorem wd_2995 : (Cond.code yX12_suspect cX12_suspect 4 (some .int)) ∈ BG := bg_tb tb_12 29 (by decide +kernel) (by decide +kernel)
theorem wd_3003 : (Cond.methodLink RL 184 yX12_faults) ∈ BG := bg_tb tb_12 37 (by decide +kernel) (by decide +kernel)
theorem wd_3004 : (Cond.instanceMethod yX12_faults) ∈ BG := bg_tb tb_12 38 (by decide +kernel) (by decide +kernel)
theorem wd_3005 : (Cond.selects RX12 yX12_faults yX12_faults) ∈ BG := bg_tb tb_12 39 (by decide +kernel) (by decide +kernel)
theorem wd_3006 : (Cond.code yX12_faults cX12_faults 4 (some .int)) ∈ BG := bg_tb tb_12 40 (by decide +kernel) (by decide +kernel)
set_option maxHeartbeats 4000000 in
set_option maxRecDepth 100000 in
theorem ct_L_graph (l : Launch) (hlt : l.stackTraces = false) (dC : Nat → ClassId) (dI : Nat → Nat → Nat) (sz : Nat) (p0 p1 : Int32) (x : Nat) (xg : List Value) (deA : Nat) (deC : ClassId) (deF : Nat → Option Nat) (de0 de1 de2 de3 de4 de5 : Nat) (deg0 deg1 deg2 deg3 deg4 deg5 : List Value) (hdeg0 : fx deg0 16 [(0, .int 0)]) (hdeF0 : deF 0 = some de0) (hdeg1 : fx deg1 16 [(0, .int 0)]) (hdeF1 : deF 1 = some de1) (hdeg2 : fx deg2 16 [(0, .int 0)]) (hdeF2 : deF 2 = some de2) (hdeg3 : fx deg3 16 [(0, .int 0)]) (hdeF3 : deF 3 = some de3) (hdeg4 : fx deg4 16 [(0, .int 0)]) (hdeF4 : deF 4 = some de4) (hdeg5 : fx deg5 16 [(0, .int 0)]) (hdeF5 : deF 5 = some de5) (oA : Nat) (oC : ClassId) (oF : Nat → Int64) (hxg : fx xg 17 [(7, .ref deA)]) : Met l yL_graph (Cond.codeWith yL_graph cL_graph 5 (some .int) [(0, 10, 13, 32), (0, 10, 17, 19)] :: BG) ({ frames := 9, cells := 1, slots := 6, locals := 200 }) (va_Pc [.ref x, .int p0, .int p1, .ref oA] (fun U => U.heap.size = sz ∧ va_P (dC, dI) CL [(x, .inr (12, xg)), (deA, .inl (deC, (6, .inr (.inr (.inr (.inr deF)))))), (de0, .inr (3, deg0)), (de1, .inr (3, deg1)), (de2, .inr (3, deg2)), (de3, .inr (3, deg3)), (de4, .inr (3, deg4)), (de5, .inr (3, deg5)), (oA, .inl (oC, (1, .inr (.inl oF))))] U.heap ∧ va_K (dC, dI) CL [(deC, .object "ChipFlow$Design"), (oC, .long)] U ∧ va_D (fun _ => True) [(x, .inr (12, xg)), (deA, .inl (deC, (6, .inr (.inr (.inr (.inr deF)))))), (de0, .inr (3, deg0)), (de1, .inr (3, deg1)), (de2, .inr (3, deg2)), (de3, .inr (3, deg3)), (de4, .inr (3, deg4)), (de5, .inr (3, deg5)), (oA, .inl (oC, (1, .inr (.inl oF))))] ∧ th (va_A [(x, .inr (12, xg)), (deA, .inl (deC, (6, .inr (.inr (.inr (.inr deF)))))), (de0, .inr (3, deg0)), (de1, .inr (3, deg1)), (de2, .inr (3, deg2)), (de3, .inr (3, deg3)), (de4, .inr (3, deg4)), (de5, .inr (3, deg5)), (oA, .inl (oC, (1, .inr (.inl oF))))] sz) U U.heap)) (va_Qi (fun (r : Int32) (_ : Unit) => r = 1) (fun _ t => va_P (dC, dI) CL [(oA, .inl (oC, (1, .inr (.inl oF))))] t.heap ∧ va_K (dC, dI) CL [(oC, .long)] t ∧ va_D (va_A [(x, .inr (12, xg)), (deA, .inl (deC, (6, .inr (.inr (.inr (.inr deF)))))), (de0, .inr (3, deg0)), (de1, .inr (3, deg1)), (de2, .inr (3, deg2)), (de3, .inr (3, deg3)), (de4, .inr (3, deg4)), (de5, .inr (3, deg5)), (oA, .inl (oC, (1, .inr (.inl oF))))] sz) [(oA, .inl (oC, (1, .inr (.inl oF))))]) (va_A [(x, .inr (12, xg)), (deA, .inl (deC, (6, .inr (.inr (.inr (.inr deF)))))), (de0, .inr (3, deg0)), (de1, .inr (3, deg1)), (de2, .inr (3, deg2)), (de3, .inr (3, deg3)), (de4, .inr (3, deg4)), (de5, .inr (3, deg5)), (oA, .inl (oC, (1, .inr (.inl oF))))] sz)) 1 6 (va_A [(x, .inr (12, xg)), (deA, .inl (deC, (6, .inr (.inr (.inr (.inr deF)))))), (de0, .inr (3, deg0)), (de1, .inr (3, deg1)), (de2, .inr (3, deg2)), (de3, .inr (3, deg3)), (de4, .inr (3, deg4)), (de5, .inr (3, deg5)), (oA, .inl (oC, (1, .inr (.inl oF))))] sz) := by
  refine va_MetW (hh := [(0, 10, 13, 32), (0, 10, 17, 19)]) (cc := cL_graph) (maxL := 5) (ret := (some .int)) (by decide) rfl ?_
  intro p e s m args below meth c s₁ B hml hv
  obtain ⟨rfl, hsz, hP, hK, hD0, hth⟩ := hv
  have hx := B.exec
  have hb := B.bytes
  have hr := B.returns
  have hts : ∀ w ∈ BG, w.before _ s = true := fun w h => atoms_spec (ws := Cond.codeWith yL_graph cL_graph 5 (some .int) [(0, 10, 13, 32), (0, 10, 17, 19)] :: BG) B.pre w (List.mem_cons_of_mem _ h)
  have hown : s.vm.findClass RL = some m.cls := findClass_of_methodNamed B.named
  have hlocks := B.notSynchronized
  subst hsz
  have hD := hD0.self (sz := s.heap.size)
  generalize hAe : va_A [(x, .inr (12, xg)), (deA, .inl (deC, (6, .inr (.inr (.inr (.inr deF)))))), (de0, .inr (3, deg0)), (de1, .inr (3, deg1)), (de2, .inr (3, deg2)), (de3, .inr (3, deg3)), (de4, .inr (3, deg4)), (de5, .inr (3, deg5)), (oA, .inl (oC, (1, .inr (.inl oF))))] s.heap.size = A at hD hth ⊢
  have hA : ∀ q : Nat, s.heap.size ≤ q → A q := fun q h => by rw [← hAe]; exact Or.inr h
  have hS : va_S A s.heap s.heap [] := va_S.rf
  have hl := lv_entry ([.ref x, .int p0, .int p1, .ref oA]) (n := 5) (Nat.le_of_ble_eq_true rfl)
  rw [lg_entry_eq]
  generalize (lg_sl ([.ref x, .int p0, .int p1, .ref oA]) ++ List.replicate (5 - (lg_sl ([.ref x, .int p0, .int p1, .ref oA])).length) Slot.unset).toArray = ls at hl ⊢
  have hl : lv_has ls 5 [(0, .ref x), (1, .int p0), (2, .int p1), (3, .ref oA)] := hl
  have hT : c.exceptionTable.toList = tableOf [(0, 10, 13, 32), (0, 10, 17, 19)] := vx_table (x := yL_graph) B (atoms_spec (ws := Cond.codeWith yL_graph cL_graph 5 (some .int) [(0, 10, 13, 32), (0, 10, 17, 19)] :: BG) B.pre _ List.mem_cons_self)
  have hFc := va_free (wc := [(x, .inr (12, xg)), (deA, .inl (deC, (6, .inr (.inr (.inr (.inr deF)))))), (de0, .inr (3, deg0)), (de1, .inr (3, deg1)), (de2, .inr (3, deg2)), (de3, .inr (3, deg3)), (de4, .inr (3, deg4)), (de5, .inr (3, deg5))]) hD hS hA [0, 1, 2, 3, 4, 5, 6, 7] rfl
  have hPc := hP.sub (ws' := [(x, .inr (12, xg)), (deA, .inl (deC, (6, .inr (.inr (.inr (.inr deF)))))), (de0, .inr (3, deg0)), (de1, .inr (3, deg1)), (de2, .inr (3, deg2)), (de3, .inr (3, deg3)), (de4, .inr (3, deg4)), (de5, .inr (3, deg5))]) [0, 1, 2, 3, 4, 5, 6, 7] rfl
  have hDc := hD.sub (ws' := [(x, .inr (12, xg)), (deA, .inl (deC, (6, .inr (.inr (.inr (.inr deF)))))), (de0, .inr (3, deg0)), (de1, .inr (3, deg1)), (de2, .inr (3, deg2)), (de3, .inr (3, deg3)), (de4, .inr (3, deg4)), (de5, .inr (3, deg5))]) [0, 1, 2, 3, 4, 5, 6, 7] (by decide) rfl
  have hKc := hK.sub (tys' := [(deC, .object "ChipFlow$Design")]) [0] rfl
  have hK9 := hK.sub (tys' := [(oC, .long)]) [1] rfl
  refine lv_aload_n hx hb dL_graph_0 rfl (lv_at hl 3 rfl) ?_
  refine lv_iconst (v := 0) hx hb dL_graph_1 (by decide +kernel) ?_
  refine lv_aload_n hx hb dL_graph_2 rfl (lv_at hl 0 rfl) ?_
  refine lv_iload_n hx hb dL_graph_3 rfl (lv_at hl 1 rfl) ?_
  refine lv_iload_n hx hb dL_graph_4 rfl (lv_at hl 2 rfl) ?_
  refine vq_thr (vx_runV (As := [.int p0, .int p1]) (rest := [.int 0, .ref oA]) ⟨hx, hb, hml, hown, hts⟩ (ct_X12_graph l hlt dC dI s.heap.size p0 p1 x xg deA deC deF de0 de1 de2 de3 de4 de5 deg0 deg1 deg2 deg3 deg4 deg5 hdeg0 hdeF0 hdeg1 hdeF1 hdeg2 hdeF2 hdeg3 hdeF3 hdeg4 hdeF4 hdeg5 hdeF5 hxg) (cwV 2 hts (gi_V wd_1849 wd_1850 wd_1851 wd_327 wd_1852) rfl rfl rfl (by decide +kernel) ⟨(Nat.le_of_ble_eq_true rfl), (Nat.le_of_ble_eq_true rfl)⟩) ⟨fun a U g mk q => by obtain ⟨q0, q1, qP, qK, qD, qT⟩ := q; exact ⟨q0, q1, qP, va_K.moved (u := U) (U := U.calling g mk a) (Vm.Alike.refl U.vm) qK, qD, th.moved (u := U) (U := U.calling g mk a) (Vm.Alike.refl U.vm) qT⟩, va_recv hKc hPc (ci := 12) (q0 := 0) rfl rfl, fun U hU hW => ⟨rfl, by rw [hU], by rw [hU]; exact hPc, va_K.moved hW.alike hKc, hDc.weaken (fun _ _ _ _ => trivial), by rw [hU]; exact (hth.narrow hFc).moved hW.alike⟩⟩ rfl rfl hl.1 rfl (lv_room (Nat.le_of_ble_eq_true rfl)) dL_graph_5 ⟨(Nat.le_of_ble_eq_true rfl), (Nat.le_of_ble_eq_true rfl)⟩) (fun _ _ _ h => h) hS hFc (fun q _ h => hFc q h) (fun E ce q9 u t H1 locs ht hvm hp hB hz hk hS hce hcv hcl => ?_)
  subst hB
  obtain ⟨hP, hD⟩ := va_join (wr := [(oA, .inl (oC, (1, .inr (.inl oF))))]) (w1 := []) hP hD [0, 1, 2, 3, 4, 5, 6, 7] [8] rfl rfl (by decide) (by decide) hk hFc po_nilP po_nilD
  have hP : va_P (dC, dI) CL [(oA, .inl (oC, (1, .inr (.inl oF))))] H1 := hP
  have hD : va_D A [(oA, .inl (oC, (1, .inr (.inl oF))))] := hD
  refine vx_catch (own := RL) (name := "java/lang/IndexOutOfBoundsException") hown [] { startPc := 0, endPc := 10, handlerPc := 13, catchType := 32 } [{ startPc := 0, endPc := 10, handlerPc := 17, catchType := 19 }] (by rw [hT]; rfl) (fun _ h => nomatch h) (by decide) (by decide) (hts (.classLink RL 32 "java/lang/IndexOutOfBoundsException") wd_1804) (hth.cast (by decide)) hce hcv hcl ?_
  refine lv_astore (lv' := [(4, .ref q9), (0, .ref x), (1, .int p0), (2, .int p1), (3, .ref oA)]) hx hb dL_graph_13 hl (by decide) rfl (fun ls hl => ?_)
  refine lv_iconst (v := 1) hx hb dL_graph_15 (by decide +kernel) ?_
  refine W.widen (k := 1) (n := 6) (Nat.le_of_ble_eq_true rfl) (Nat.le_of_ble_eq_true rfl) ?_
  exact W.iret (v := 1) hx hb hr (fun t ht hW => ⟨⟨1, (), rfl, rfl, by rw [ht]; exact hP, va_K.moved hW.alike hK9, hD⟩, hS.F ht⟩) hS.2.2 dL_graph_16
set_option maxHeartbeats 4000000 in
set_option maxRecDepth 100000 in
theorem ct_L_literal (l : Launch) (hlt : l.stackTraces = false) (dC : Nat → ClassId) (dI : Nat → Nat → Nat) (sz : Nat) (p0 p1 p2 : Int32) (x : Nat) (xg : List Value) (deA : Nat) (deC : ClassId) (deF : Nat → Option Nat) (de0 de1 de2 de3 de4 de5 : Nat) (deg0 deg1 deg2 deg3 deg4 deg5 : List Value) (hdeg0 : fx deg0 16 [(0, .int 0)]) (hdeF0 : deF 0 = some de0) (hdeg1 : fx deg1 16 [(0, .int 0)]) (hdeF1 : deF 1 = some de1) (hdeg2 : fx deg2 16 [(0, .int 0)]) (hdeF2 : deF 2 = some de2) (hdeg3 : fx deg3 16 [(0, .int 0)]) (hdeF3 : deF 3 = some de3) (hdeg4 : fx deg4 16 [(0, .int 0)]) (hdeF4 : deF 4 = some de4) (hdeg5 : fx deg5 16 [(0, .int 0)]) (hdeF5 : deF 5 = some de5) (oA : Nat) (oC : ClassId) (oF : Nat → Int64) (hxg : fx xg 17 [(7, .ref deA)]) : Met l yL_literal (Cond.codeWith yL_literal cL_literal 6 (some .int) [(0, 12, 15, 32)] :: BG) ({ frames := 9, cells := 1, slots := 6, locals := 200 }) (va_Pc [.ref x, .int p0, .int p1, .int p2, .ref oA] (fun U => U.heap.size = sz ∧ va_P (dC, dI) CL [(x, .inr (12, xg)), (deA, .inl (deC, (6, .inr (.inr (.inr (.inr deF)))))), (de0, .inr (3, deg0)), (de1, .inr (3, deg1)), (de2, .inr (3, deg2)), (de3, .inr (3, deg3)), (de4, .inr (3, deg4)), (de5, .inr (3, deg5)), (oA, .inl (oC, (1, .inr (.inl oF))))] U.heap ∧ va_K (dC, dI) CL [(deC, .object "ChipFlow$Design"), (oC, .long)] U ∧ va_D (fun _ => True) [(x, .inr (12, xg)), (deA, .inl (deC, (6, .inr (.inr (.inr (.inr deF)))))), (de0, .inr (3, deg0)), (de1, .inr (3, deg1)), (de2, .inr (3, deg2)), (de3, .inr (3, deg3)), (de4, .inr (3, deg4)), (de5, .inr (3, deg5)), (oA, .inl (oC, (1, .inr (.inl oF))))] ∧ th (va_A [(x, .inr (12, xg)), (deA, .inl (deC, (6, .inr (.inr (.inr (.inr deF)))))), (de0, .inr (3, deg0)), (de1, .inr (3, deg1)), (de2, .inr (3, deg2)), (de3, .inr (3, deg3)), (de4, .inr (3, deg4)), (de5, .inr (3, deg5)), (oA, .inl (oC, (1, .inr (.inl oF))))] sz) U U.heap)) (va_Qi (fun (r : Int32) (_ : Unit) => r = 1) (fun _ t => va_P (dC, dI) CL [(oA, .inl (oC, (1, .inr (.inl oF))))] t.heap ∧ va_K (dC, dI) CL [(oC, .long)] t ∧ va_D (va_A [(x, .inr (12, xg)), (deA, .inl (deC, (6, .inr (.inr (.inr (.inr deF)))))), (de0, .inr (3, deg0)), (de1, .inr (3, deg1)), (de2, .inr (3, deg2)), (de3, .inr (3, deg3)), (de4, .inr (3, deg4)), (de5, .inr (3, deg5)), (oA, .inl (oC, (1, .inr (.inl oF))))] sz) [(oA, .inl (oC, (1, .inr (.inl oF))))]) (va_A [(x, .inr (12, xg)), (deA, .inl (deC, (6, .inr (.inr (.inr (.inr deF)))))), (de0, .inr (3, deg0)), (de1, .inr (3, deg1)), (de2, .inr (3, deg2)), (de3, .inr (3, deg3)), (de4, .inr (3, deg4)), (de5, .inr (3, deg5)), (oA, .inl (oC, (1, .inr (.inl oF))))] sz)) 1 6 (va_A [(x, .inr (12, xg)), (deA, .inl (deC, (6, .inr (.inr (.inr (.inr deF)))))), (de0, .inr (3, deg0)), (de1, .inr (3, deg1)), (de2, .inr (3, deg2)), (de3, .inr (3, deg3)), (de4, .inr (3, deg4)), (de5, .inr (3, deg5)), (oA, .inl (oC, (1, .inr (.inl oF))))] sz) := by
  refine va_MetW (hh := [(0, 12, 15, 32)]) (cc := cL_literal) (maxL := 6) (ret := (some .int)) (by decide) rfl ?_
  intro p e s m args below meth c s₁ B hml hv
  obtain ⟨rfl, hsz, hP, hK, hD0, hth⟩ := hv
  have hx := B.exec
  have hb := B.bytes
  have hr := B.returns
  have hts : ∀ w ∈ BG, w.before _ s = true := fun w h => atoms_spec (ws := Cond.codeWith yL_literal cL_literal 6 (some .int) [(0, 12, 15, 32)] :: BG) B.pre w (List.mem_cons_of_mem _ h)
  have hown : s.vm.findClass RL = some m.cls := findClass_of_methodNamed B.named
  have hlocks := B.notSynchronized
  subst hsz
  have hD := hD0.self (sz := s.heap.size)
  generalize hAe : va_A [(x, .inr (12, xg)), (deA, .inl (deC, (6, .inr (.inr (.inr (.inr deF)))))), (de0, .inr (3, deg0)), (de1, .inr (3, deg1)), (de2, .inr (3, deg2)), (de3, .inr (3, deg3)), (de4, .inr (3, deg4)), (de5, .inr (3, deg5)), (oA, .inl (oC, (1, .inr (.inl oF))))] s.heap.size = A at hD hth ⊢
  have hA : ∀ q : Nat, s.heap.size ≤ q → A q := fun q h => by rw [← hAe]; exact Or.inr h
  have hS : va_S A s.heap s.heap [] := va_S.rf
  have hl := lv_entry ([.ref x, .int p0, .int p1, .int p2, .ref oA]) (n := 6) (Nat.le_of_ble_eq_true rfl)
  rw [lg_entry_eq]
  generalize (lg_sl ([.ref x, .int p0, .int p1, .int p2, .ref oA]) ++ List.replicate (6 - (lg_sl ([.ref x, .int p0, .int p1, .int p2, .ref oA])).length) Slot.unset).toArray = ls at hl ⊢
  have hl : lv_has ls 6 [(0, .ref x), (1, .int p0), (2, .int p1), (3, .int p2), (4, .ref oA)] := hl
  have hT : c.exceptionTable.toList = tableOf [(0, 12, 15, 32)] := vx_table (x := yL_literal) B (atoms_spec (ws := Cond.codeWith yL_literal cL_literal 6 (some .int) [(0, 12, 15, 32)] :: BG) B.pre _ List.mem_cons_self)
  have hFc := va_free (wc := [(x, .inr (12, xg)), (deA, .inl (deC, (6, .inr (.inr (.inr (.inr deF)))))), (de0, .inr (3, deg0)), (de1, .inr (3, deg1)), (de2, .inr (3, deg2)), (de3, .inr (3, deg3)), (de4, .inr (3, deg4)), (de5, .inr (3, deg5))]) hD hS hA [0, 1, 2, 3, 4, 5, 6, 7] rfl
  have hPc := hP.sub (ws' := [(x, .inr (12, xg)), (deA, .inl (deC, (6, .inr (.inr (.inr (.inr deF)))))), (de0, .inr (3, deg0)), (de1, .inr (3, deg1)), (de2, .inr (3, deg2)), (de3, .inr (3, deg3)), (de4, .inr (3, deg4)), (de5, .inr (3, deg5))]) [0, 1, 2, 3, 4, 5, 6, 7] rfl
  have hDc := hD.sub (ws' := [(x, .inr (12, xg)), (deA, .inl (deC, (6, .inr (.inr (.inr (.inr deF)))))), (de0, .inr (3, deg0)), (de1, .inr (3, deg1)), (de2, .inr (3, deg2)), (de3, .inr (3, deg3)), (de4, .inr (3, deg4)), (de5, .inr (3, deg5))]) [0, 1, 2, 3, 4, 5, 6, 7] (by decide) rfl
  have hKc := hK.sub (tys' := [(deC, .object "ChipFlow$Design")]) [0] rfl
  have hK9 := hK.sub (tys' := [(oC, .long)]) [1] rfl
  refine lv_aload hx hb dL_literal_0 (lv_at hl 4 rfl) ?_
  refine lv_iconst (v := 0) hx hb dL_literal_2 (by decide +kernel) ?_
  refine lv_aload_n hx hb dL_literal_3 rfl (lv_at hl 0 rfl) ?_
  refine lv_iload_n hx hb dL_literal_4 rfl (lv_at hl 1 rfl) ?_
  refine lv_iload_n hx hb dL_literal_5 rfl (lv_at hl 2 rfl) ?_
  refine lv_iload_n hx hb dL_literal_6 rfl (lv_at hl 3 rfl) ?_
  refine vq_thr (vx_runV (As := [.int p0, .int p1, .int p2]) (rest := [.int 0, .ref oA]) ⟨hx, hb, hml, hown, hts⟩ (ct_X12_literal l hlt dC dI s.heap.size p0 p1 p2 x xg deA deC deF de0 de1 de2 de3 de4 de5 deg0 deg1 deg2 deg3 deg4 deg5 hdeg0 hdeF0 hdeg1 hdeF1 hdeg2 hdeF2 hdeg3 hdeF3 hdeg4 hdeF4 hdeg5 hdeF5 hxg) (cwV 3 hts (gi_V wd_1857 wd_1858 wd_1859 wd_327 wd_1860) rfl rfl rfl (by decide +kernel) ⟨(Nat.le_of_ble_eq_true rfl), (Nat.le_of_ble_eq_true rfl)⟩) ⟨fun a U g mk q => by obtain ⟨q0, q1, qP, qK, qD, qT⟩ := q; exact ⟨q0, q1, qP, va_K.moved (u := U) (U := U.calling g mk a) (Vm.Alike.refl U.vm) qK, qD, th.moved (u := U) (U := U.calling g mk a) (Vm.Alike.refl U.vm) qT⟩, va_recv hKc hPc (ci := 12) (q0 := 0) rfl rfl, fun U hU hW => ⟨rfl, by rw [hU], by rw [hU]; exact hPc, va_K.moved hW.alike hKc, hDc.weaken (fun _ _ _ _ => trivial), by rw [hU]; exact (hth.narrow hFc).moved hW.alike⟩⟩ rfl rfl hl.1 rfl (lv_room (Nat.le_of_ble_eq_true rfl)) dL_literal_7 ⟨(Nat.le_of_ble_eq_true rfl), (Nat.le_of_ble_eq_true rfl)⟩) (fun _ _ _ h => h) hS hFc (fun q _ h => hFc q h) (fun E ce q9 u t H1 locs ht hvm hp hB hz hk hS hce hcv hcl => ?_)
  subst hB
  obtain ⟨hP, hD⟩ := va_join (wr := [(oA, .inl (oC, (1, .inr (.inl oF))))]) (w1 := []) hP hD [0, 1, 2, 3, 4, 5, 6, 7] [8] rfl rfl (by decide) (by decide) hk hFc po_nilP po_nilD
  have hP : va_P (dC, dI) CL [(oA, .inl (oC, (1, .inr (.inl oF))))] H1 := hP
  have hD : va_D A [(oA, .inl (oC, (1, .inr (.inl oF))))] := hD
  refine vx_catch (own := RL) (name := "java/lang/IndexOutOfBoundsException") hown [] { startPc := 0, endPc := 12, handlerPc := 15, catchType := 32 } [] (by rw [hT]; rfl) (fun _ h => nomatch h) (by decide) (by decide) (hts (.classLink RL 32 "java/lang/IndexOutOfBoundsException") wd_1804) (hth.cast (by decide)) hce hcv hcl ?_
  refine lv_astore (lv' := [(5, .ref q9), (0, .ref x), (1, .int p0), (2, .int p1), (3, .int p2), (4, .ref oA)]) hx hb dL_literal_15 hl (by decide) rfl (fun ls hl => ?_)
  refine lv_iconst (v := 1) hx hb dL_literal_17 (by decide +kernel) ?_
  refine W.widen (k := 1) (n := 6) (Nat.le_of_ble_eq_true rfl) (Nat.le_of_ble_eq_true rfl) ?_
  exact W.iret (v := 1) hx hb hr (fun t ht hW => ⟨⟨1, (), rfl, rfl, by rw [ht]; exact hP, va_K.moved hW.alike hK9, hD⟩, hS.F ht⟩) hS.2.2 dL_literal_18
set_option maxHeartbeats 4000000 in
set_option maxRecDepth 100000 in
theorem ct_L_swept (l : Launch) (hlt : l.stackTraces = false) (dC : Nat → ClassId) (dI : Nat → Nat → Nat) (sz : Nat) (p0 p1 : Int32) (x : Nat) (xg : List Value) (deA : Nat) (deC : ClassId) (deF : Nat → Option Nat) (de0 de1 de2 de3 de4 de5 : Nat) (deg0 deg1 deg2 deg3 deg4 deg5 : List Value) (hdeg0 : fx deg0 16 [(0, .int 0)]) (hdeF0 : deF 0 = some de0) (hdeg1 : fx deg1 16 [(0, .int 0)]) (hdeF1 : deF 1 = some de1) (hdeg2 : fx deg2 16 [(0, .int 0)]) (hdeF2 : deF 2 = some de2) (hdeg3 : fx deg3 16 [(0, .int 0)]) (hdeF3 : deF 3 = some de3) (hdeg4 : fx deg4 16 [(0, .int 0)]) (hdeF4 : deF 4 = some de4) (hdeg5 : fx deg5 16 [(0, .int 0)]) (hdeF5 : deF 5 = some de5) (oA : Nat) (oC : ClassId) (oF : Nat → Int64) (hxg : fx xg 17 [(7, .ref deA)]) : Met l yL_swept (Cond.codeWith yL_swept cL_swept 5 (some .int) [(0, 10, 13, 32)] :: BG) ({ frames := 9, cells := 1, slots := 6, locals := 200 }) (va_Pc [.ref x, .int p0, .int p1, .ref oA] (fun U => U.heap.size = sz ∧ va_P (dC, dI) CL [(x, .inr (12, xg)), (deA, .inl (deC, (6, .inr (.inr (.inr (.inr deF)))))), (de0, .inr (3, deg0)), (de1, .inr (3, deg1)), (de2, .inr (3, deg2)), (de3, .inr (3, deg3)), (de4, .inr (3, deg4)), (de5, .inr (3, deg5)), (oA, .inl (oC, (1, .inr (.inl oF))))] U.heap ∧ va_K (dC, dI) CL [(deC, .object "ChipFlow$Design"), (oC, .long)] U ∧ va_D (fun _ => True) [(x, .inr (12, xg)), (deA, .inl (deC, (6, .inr (.inr (.inr (.inr deF)))))), (de0, .inr (3, deg0)), (de1, .inr (3, deg1)), (de2, .inr (3, deg2)), (de3, .inr (3, deg3)), (de4, .inr (3, deg4)), (de5, .inr (3, deg5)), (oA, .inl (oC, (1, .inr (.inl oF))))] ∧ th (va_A [(x, .inr (12, xg)), (deA, .inl (deC, (6, .inr (.inr (.inr (.inr deF)))))), (de0, .inr (3, deg0)), (de1, .inr (3, deg1)), (de2, .inr (3, deg2)), (de3, .inr (3, deg3)), (de4, .inr (3, deg4)), (de5, .inr (3, deg5)), (oA, .inl (oC, (1, .inr (.inl oF))))] sz) U U.heap)) (va_Qi (fun (r : Int32) (_ : Unit) => r = 1) (fun _ t => va_P (dC, dI) CL [(oA, .inl (oC, (1, .inr (.inl oF))))] t.heap ∧ va_K (dC, dI) CL [(oC, .long)] t ∧ va_D (va_A [(x, .inr (12, xg)), (deA, .inl (deC, (6, .inr (.inr (.inr (.inr deF)))))), (de0, .inr (3, deg0)), (de1, .inr (3, deg1)), (de2, .inr (3, deg2)), (de3, .inr (3, deg3)), (de4, .inr (3, deg4)), (de5, .inr (3, deg5)), (oA, .inl (oC, (1, .inr (.inl oF))))] sz) [(oA, .inl (oC, (1, .inr (.inl oF))))]) (va_A [(x, .inr (12, xg)), (deA, .inl (deC, (6, .inr (.inr (.inr (.inr deF)))))), (de0, .inr (3, deg0)), (de1, .inr (3, deg1)), (de2, .inr (3, deg2)), (de3, .inr (3, deg3)), (de4, .inr (3, deg4)), (de5, .inr (3, deg5)), (oA, .inl (oC, (1, .inr (.inl oF))))] sz)) 1 6 (va_A [(x, .inr (12, xg)), (deA, .inl (deC, (6, .inr (.inr (.inr (.inr deF)))))), (de0, .inr (3, deg0)), (de1, .inr (3, deg1)), (de2, .inr (3, deg2)), (de3, .inr (3, deg3)), (de4, .inr (3, deg4)), (de5, .inr (3, deg5)), (oA, .inl (oC, (1, .inr (.inl oF))))] sz) := by
  refine va_MetW (hh := [(0, 10, 13, 32)]) (cc := cL_swept) (maxL := 5) (ret := (some .int)) (by decide) rfl ?_
  intro p e s m args below meth c s₁ B hml hv
  obtain ⟨rfl, hsz, hP, hK, hD0, hth⟩ := hv
  have hx := B.exec
  have hb := B.bytes
  have hr := B.returns
  have hts : ∀ w ∈ BG, w.before _ s = true := fun w h => atoms_spec (ws := Cond.codeWith yL_swept cL_swept 5 (some .int) [(0, 10, 13, 32)] :: BG) B.pre w (List.mem_cons_of_mem _ h)
  have hown : s.vm.findClass RL = some m.cls := findClass_of_methodNamed B.named
  have hlocks := B.notSynchronized
  subst hsz
  have hD := hD0.self (sz := s.heap.size)
  generalize hAe : va_A [(x, .inr (12, xg)), (deA, .inl (deC, (6, .inr (.inr (.inr (.inr deF)))))), (de0, .inr (3, deg0)), (de1, .inr (3, deg1)), (de2, .inr (3, deg2)), (de3, .inr (3, deg3)), (de4, .inr (3, deg4)), (de5, .inr (3, deg5)), (oA, .inl (oC, (1, .inr (.inl oF))))] s.heap.size = A at hD hth ⊢
  have hA : ∀ q : Nat, s.heap.size ≤ q → A q := fun q h => by rw [← hAe]; exact Or.inr h
  have hS : va_S A s.heap s.heap [] := va_S.rf
  have hl := lv_entry ([.ref x, .int p0, .int p1, .ref oA]) (n := 5) (Nat.le_of_ble_eq_true rfl)
  rw [lg_entry_eq]
  generalize (lg_sl ([.ref x, .int p0, .int p1, .ref oA]) ++ List.replicate (5 - (lg_sl ([.ref x, .int p0, .int p1, .ref oA])).length) Slot.unset).toArray = ls at hl ⊢
  have hl : lv_has ls 5 [(0, .ref x), (1, .int p0), (2, .int p1), (3, .ref oA)] := hl
  have hT : c.exceptionTable.toList = tableOf [(0, 10, 13, 32)] := vx_table (x := yL_swept) B (atoms_spec (ws := Cond.codeWith yL_swept cL_swept 5 (some .int) [(0, 10, 13, 32)] :: BG) B.pre _ List.mem_cons_self)
  have hFc := va_free (wc := [(x, .inr (12, xg)), (deA, .inl (deC, (6, .inr (.inr (.inr (.inr deF)))))), (de0, .inr (3, deg0)), (de1, .inr (3, deg1)), (de2, .inr (3, deg2)), (de3, .inr (3, deg3)), (de4, .inr (3, deg4)), (de5, .inr (3, deg5))]) hD hS hA [0, 1, 2, 3, 4, 5, 6, 7] rfl
  have hPc := hP.sub (ws' := [(x, .inr (12, xg)), (deA, .inl (deC, (6, .inr (.inr (.inr (.inr deF)))))), (de0, .inr (3, deg0)), (de1, .inr (3, deg1)), (de2, .inr (3, deg2)), (de3, .inr (3, deg3)), (de4, .inr (3, deg4)), (de5, .inr (3, deg5))]) [0, 1, 2, 3, 4, 5, 6, 7] rfl
  have hDc := hD.sub (ws' := [(x, .inr (12, xg)), (deA, .inl (deC, (6, .inr (.inr (.inr (.inr deF)))))), (de0, .inr (3, deg0)), (de1, .inr (3, deg1)), (de2, .inr (3, deg2)), (de3, .inr (3, deg3)), (de4, .inr (3, deg4)), (de5, .inr (3, deg5))]) [0, 1, 2, 3, 4, 5, 6, 7] (by decide) rfl
  have hKc := hK.sub (tys' := [(deC, .object "ChipFlow$Design")]) [0] rfl
  have hK9 := hK.sub (tys' := [(oC, .long)]) [1] rfl
  refine lv_aload_n hx hb dL_swept_0 rfl (lv_at hl 3 rfl) ?_
  refine lv_iconst (v := 0) hx hb dL_swept_1 (by decide +kernel) ?_
  refine lv_aload_n hx hb dL_swept_2 rfl (lv_at hl 0 rfl) ?_
  refine lv_iload_n hx hb dL_swept_3 rfl (lv_at hl 1 rfl) ?_
  refine lv_iload_n hx hb dL_swept_4 rfl (lv_at hl 2 rfl) ?_
  refine vq_thr (vx_runV (As := [.int p0, .int p1]) (rest := [.int 0, .ref oA]) ⟨hx, hb, hml, hown, hts⟩ (ct_X12_swept l hlt dC dI s.heap.size p0 p1 x xg deA deC deF de0 de1 de2 de3 de4 de5 deg0 deg1 deg2 deg3 deg4 deg5 hdeg0 hdeF0 hdeg1 hdeF1 hdeg2 hdeF2 hdeg3 hdeF3 hdeg4 hdeF4 hdeg5 hdeF5 hxg) (cwV 2 hts (gi_V wd_1864 wd_1865 wd_1866 wd_327 wd_1867) rfl rfl rfl (by decide +kernel) ⟨(Nat.le_of_ble_eq_true rfl), (Nat.le_of_ble_eq_true rfl)⟩) ⟨fun a U g mk q => by obtain ⟨q0, q1, qP, qK, qD, qT⟩ := q; exact ⟨q0, q1, qP, va_K.moved (u := U) (U := U.calling g mk a) (Vm.Alike.refl U.vm) qK, qD, th.moved (u := U) (U := U.calling g mk a) (Vm.Alike.refl U.vm) qT⟩, va_recv hKc hPc (ci := 12) (q0 := 0) rfl rfl, fun U hU hW => ⟨rfl, by rw [hU], by rw [hU]; exact hPc, va_K.moved hW.alike hKc, hDc.weaken (fun _ _ _ _ => trivial), by rw [hU]; exact (hth.narrow hFc).moved hW.alike⟩⟩ rfl rfl hl.1 rfl (lv_room (Nat.le_of_ble_eq_true rfl)) dL_swept_5 ⟨(Nat.le_of_ble_eq_true rfl), (Nat.le_of_ble_eq_true rfl)⟩) (fun _ _ _ h => h) hS hFc (fun q _ h => hFc q h) (fun E ce q9 u t H1 locs ht hvm hp hB hz hk hS hce hcv hcl => ?_)
  subst hB
  obtain ⟨hP, hD⟩ := va_join (wr := [(oA, .inl (oC, (1, .inr (.inl oF))))]) (w1 := []) hP hD [0, 1, 2, 3, 4, 5, 6, 7] [8] rfl rfl (by decide) (by decide) hk hFc po_nilP po_nilD
  have hP : va_P (dC, dI) CL [(oA, .inl (oC, (1, .inr (.inl oF))))] H1 := hP
  have hD : va_D A [(oA, .inl (oC, (1, .inr (.inl oF))))] := hD
  refine vx_catch (own := RL) (name := "java/lang/IndexOutOfBoundsException") hown [] { startPc := 0, endPc := 10, handlerPc := 13, catchType := 32 } [] (by rw [hT]; rfl) (fun _ h => nomatch h) (by decide) (by decide) (hts (.classLink RL 32 "java/lang/IndexOutOfBoundsException") wd_1804) (hth.cast (by decide)) hce hcv hcl ?_
  refine lv_astore (lv' := [(4, .ref q9), (0, .ref x), (1, .int p0), (2, .int p1), (3, .ref oA)]) hx hb dL_swept_13 hl (by decide) rfl (fun ls hl => ?_)
  refine lv_iconst (v := 1) hx hb dL_swept_15 (by decide +kernel) ?_
  refine W.widen (k := 1) (n := 6) (Nat.le_of_ble_eq_true rfl) (Nat.le_of_ble_eq_true rfl) ?_
  exact W.iret (v := 1) hx hb hr (fun t ht hW => ⟨⟨1, (), rfl, rfl, by rw [ht]; exact hP, va_K.moved hW.alike hK9, hD⟩, hS.F ht⟩) hS.2.2 dL_swept_16
set_option maxHeartbeats 4000000 in
set_option maxRecDepth 100000 in
theorem ct_L_root (l : Launch) (hlt : l.stackTraces = false) (dC : Nat → ClassId) (dI : Nat → Nat → Nat) (sz : Nat) (p0 p1 p2 : Int32) (x : Nat) (xg : List Value) (deA : Nat) (deC : ClassId) (deF : Nat → Option Nat) (de0 de1 de2 de3 de4 de5 : Nat) (deg0 deg1 deg2 deg3 deg4 deg5 : List Value) (hdeg0 : fx deg0 16 [(0, .int 0)]) (hdeF0 : deF 0 = some de0) (hdeg1 : fx deg1 16 [(0, .int 0)]) (hdeF1 : deF 1 = some de1) (hdeg2 : fx deg2 16 [(0, .int 0)]) (hdeF2 : deF 2 = some de2) (hdeg3 : fx deg3 16 [(0, .int 0)]) (hdeF3 : deF 3 = some de3) (hdeg4 : fx deg4 16 [(0, .int 0)]) (hdeF4 : deF 4 = some de4) (hdeg5 : fx deg5 16 [(0, .int 0)]) (hdeF5 : deF 5 = some de5) (oA : Nat) (oC : ClassId) (oF : Nat → Int64) (hxg : fx xg 17 [(7, .ref deA)]) : Met l yL_root (Cond.codeWith yL_root cL_root 6 (some .int) [(0, 12, 15, 32)] :: BG) ({ frames := 9, cells := 1, slots := 6, locals := 200 }) (va_Pc [.ref x, .int p0, .int p1, .int p2, .ref oA] (fun U => U.heap.size = sz ∧ va_P (dC, dI) CL [(x, .inr (12, xg)), (deA, .inl (deC, (6, .inr (.inr (.inr (.inr deF)))))), (de0, .inr (3, deg0)), (de1, .inr (3, deg1)), (de2, .inr (3, deg2)), (de3, .inr (3, deg3)), (de4, .inr (3, deg4)), (de5, .inr (3, deg5)), (oA, .inl (oC, (1, .inr (.inl oF))))] U.heap ∧ va_K (dC, dI) CL [(deC, .object "ChipFlow$Design"), (oC, .long)] U ∧ va_D (fun _ => True) [(x, .inr (12, xg)), (deA, .inl (deC, (6, .inr (.inr (.inr (.inr deF)))))), (de0, .inr (3, deg0)), (de1, .inr (3, deg1)), (de2, .inr (3, deg2)), (de3, .inr (3, deg3)), (de4, .inr (3, deg4)), (de5, .inr (3, deg5)), (oA, .inl (oC, (1, .inr (.inl oF))))] ∧ th (va_A [(x, .inr (12, xg)), (deA, .inl (deC, (6, .inr (.inr (.inr (.inr deF)))))), (de0, .inr (3, deg0)), (de1, .inr (3, deg1)), (de2, .inr (3, deg2)), (de3, .inr (3, deg3)), (de4, .inr (3, deg4)), (de5, .inr (3, deg5)), (oA, .inl (oC, (1, .inr (.inl oF))))] sz) U U.heap)) (va_Qi (fun (r : Int32) (_ : Unit) => r = 1) (fun _ t => va_P (dC, dI) CL [(oA, .inl (oC, (1, .inr (.inl oF))))] t.heap ∧ va_K (dC, dI) CL [(oC, .long)] t ∧ va_D (va_A [(x, .inr (12, xg)), (deA, .inl (deC, (6, .inr (.inr (.inr (.inr deF)))))), (de0, .inr (3, deg0)), (de1, .inr (3, deg1)), (de2, .inr (3, deg2)), (de3, .inr (3, deg3)), (de4, .inr (3, deg4)), (de5, .inr (3, deg5)), (oA, .inl (oC, (1, .inr (.inl oF))))] sz) [(oA, .inl (oC, (1, .inr (.inl oF))))]) (va_A [(x, .inr (12, xg)), (deA, .inl (deC, (6, .inr (.inr (.inr (.inr deF)))))), (de0, .inr (3, deg0)), (de1, .inr (3, deg1)), (de2, .inr (3, deg2)), (de3, .inr (3, deg3)), (de4, .inr (3, deg4)), (de5, .inr (3, deg5)), (oA, .inl (oC, (1, .inr (.inl oF))))] sz)) 1 6 (va_A [(x, .inr (12, xg)), (deA, .inl (deC, (6, .inr (.inr (.inr (.inr deF)))))), (de0, .inr (3, deg0)), (de1, .inr (3, deg1)), (de2, .inr (3, deg2)), (de3, .inr (3, deg3)), (de4, .inr (3, deg4)), (de5, .inr (3, deg5)), (oA, .inl (oC, (1, .inr (.inl oF))))] sz) := by
  refine va_MetW (hh := [(0, 12, 15, 32)]) (cc := cL_root) (maxL := 6) (ret := (some .int)) (by decide) rfl ?_
  intro p e s m args below meth c s₁ B hml hv
  obtain ⟨rfl, hsz, hP, hK, hD0, hth⟩ := hv
  have hx := B.exec
  have hb := B.bytes
  have hr := B.returns
  have hts : ∀ w ∈ BG, w.before _ s = true := fun w h => atoms_spec (ws := Cond.codeWith yL_root cL_root 6 (some .int) [(0, 12, 15, 32)] :: BG) B.pre w (List.mem_cons_of_mem _ h)
  have hown : s.vm.findClass RL = some m.cls := findClass_of_methodNamed B.named
  have hlocks := B.notSynchronized
  subst hsz
  have hD := hD0.self (sz := s.heap.size)
  generalize hAe : va_A [(x, .inr (12, xg)), (deA, .inl (deC, (6, .inr (.inr (.inr (.inr deF)))))), (de0, .inr (3, deg0)), (de1, .inr (3, deg1)), (de2, .inr (3, deg2)), (de3, .inr (3, deg3)), (de4, .inr (3, deg4)), (de5, .inr (3, deg5)), (oA, .inl (oC, (1, .inr (.inl oF))))] s.heap.size = A at hD hth ⊢
  have hA : ∀ q : Nat, s.heap.size ≤ q → A q := fun q h => by rw [← hAe]; exact Or.inr h
  have hS : va_S A s.heap s.heap [] := va_S.rf
  have hl := lv_entry ([.ref x, .int p0, .int p1, .int p2, .ref oA]) (n := 6) (Nat.le_of_ble_eq_true rfl)
  rw [lg_entry_eq]
  generalize (lg_sl ([.ref x, .int p0, .int p1, .int p2, .ref oA]) ++ List.replicate (6 - (lg_sl ([.ref x, .int p0, .int p1, .int p2, .ref oA])).length) Slot.unset).toArray = ls at hl ⊢
  have hl : lv_has ls 6 [(0, .ref x), (1, .int p0), (2, .int p1), (3, .int p2), (4, .ref oA)] := hl
  have hT : c.exceptionTable.toList = tableOf [(0, 12, 15, 32)] := vx_table (x := yL_root) B (atoms_spec (ws := Cond.codeWith yL_root cL_root 6 (some .int) [(0, 12, 15, 32)] :: BG) B.pre _ List.mem_cons_self)
  have hFc := va_free (wc := [(x, .inr (12, xg)), (deA, .inl (deC, (6, .inr (.inr (.inr (.inr deF)))))), (de0, .inr (3, deg0)), (de1, .inr (3, deg1)), (de2, .inr (3, deg2)), (de3, .inr (3, deg3)), (de4, .inr (3, deg4)), (de5, .inr (3, deg5))]) hD hS hA [0, 1, 2, 3, 4, 5, 6, 7] rfl
  have hPc := hP.sub (ws' := [(x, .inr (12, xg)), (deA, .inl (deC, (6, .inr (.inr (.inr (.inr deF)))))), (de0, .inr (3, deg0)), (de1, .inr (3, deg1)), (de2, .inr (3, deg2)), (de3, .inr (3, deg3)), (de4, .inr (3, deg4)), (de5, .inr (3, deg5))]) [0, 1, 2, 3, 4, 5, 6, 7] rfl
  have hDc := hD.sub (ws' := [(x, .inr (12, xg)), (deA, .inl (deC, (6, .inr (.inr (.inr (.inr deF)))))), (de0, .inr (3, deg0)), (de1, .inr (3, deg1)), (de2, .inr (3, deg2)), (de3, .inr (3, deg3)), (de4, .inr (3, deg4)), (de5, .inr (3, deg5))]) [0, 1, 2, 3, 4, 5, 6, 7] (by decide) rfl
  have hKc := hK.sub (tys' := [(deC, .object "ChipFlow$Design")]) [0] rfl
  have hK9 := hK.sub (tys' := [(oC, .long)]) [1] rfl
  refine lv_aload hx hb dL_root_0 (lv_at hl 4 rfl) ?_
  refine lv_iconst (v := 0) hx hb dL_root_2 (by decide +kernel) ?_
  refine lv_aload_n hx hb dL_root_3 rfl (lv_at hl 0 rfl) ?_
  refine lv_iload_n hx hb dL_root_4 rfl (lv_at hl 1 rfl) ?_
  refine lv_iload_n hx hb dL_root_5 rfl (lv_at hl 2 rfl) ?_
  refine lv_iload_n hx hb dL_root_6 rfl (lv_at hl 3 rfl) ?_
  refine vq_thr (vx_runV (As := [.int p0, .int p1, .int p2]) (rest := [.int 0, .ref oA]) ⟨hx, hb, hml, hown, hts⟩ (ct_X12_root l hlt dC dI s.heap.size p0 p1 p2 x xg deA deC deF de0 de1 de2 de3 de4 de5 deg0 deg1 deg2 deg3 deg4 deg5 hdeg0 hdeF0 hdeg1 hdeF1 hdeg2 hdeF2 hdeg3 hdeF3 hdeg4 hdeF4 hdeg5 hdeF5 hxg) (cwV 3 hts (gi_V wd_1871 wd_1872 wd_1873 wd_327 wd_1874) rfl rfl rfl (by decide +kernel) ⟨(Nat.le_of_ble_eq_true rfl), (Nat.le_of_ble_eq_true rfl)⟩) ⟨fun a U g mk q => by obtain ⟨q0, q1, qP, qK, qD, qT⟩ := q; exact ⟨q0, q1, qP, va_K.moved (u := U) (U := U.calling g mk a) (Vm.Alike.refl U.vm) qK, qD, th.moved (u := U) (U := U.calling g mk a) (Vm.Alike.refl U.vm) qT⟩, va_recv hKc hPc (ci := 12) (q0 := 0) rfl rfl, fun U hU hW => ⟨rfl, by rw [hU], by rw [hU]; exact hPc, va_K.moved hW.alike hKc, hDc.weaken (fun _ _ _ _ => trivial), by rw [hU]; exact (hth.narrow hFc).moved hW.alike⟩⟩ rfl rfl hl.1 rfl (lv_room (Nat.le_of_ble_eq_true rfl)) dL_root_7 ⟨(Nat.le_of_ble_eq_true rfl), (Nat.le_of_ble_eq_true rfl)⟩) (fun _ _ _ h => h) hS hFc (fun q _ h => hFc q h) (fun E ce q9 u t H1 locs ht hvm hp hB hz hk hS hce hcv hcl => ?_)
  subst hB
  obtain ⟨hP, hD⟩ := va_join (wr := [(oA, .inl (oC, (1, .inr (.inl oF))))]) (w1 := []) hP hD [0, 1, 2, 3, 4, 5, 6, 7] [8] rfl rfl (by decide) (by decide) hk hFc po_nilP po_nilD
  have hP : va_P (dC, dI) CL [(oA, .inl (oC, (1, .inr (.inl oF))))] H1 := hP
  have hD : va_D A [(oA, .inl (oC, (1, .inr (.inl oF))))] := hD
  refine vx_catch (own := RL) (name := "java/lang/IndexOutOfBoundsException") hown [] { startPc := 0, endPc := 12, handlerPc := 15, catchType := 32 } [] (by rw [hT]; rfl) (fun _ h => nomatch h) (by decide) (by decide) (hts (.classLink RL 32 "java/lang/IndexOutOfBoundsException") wd_1804) (hth.cast (by decide)) hce hcv hcl ?_
  refine lv_astore (lv' := [(5, .ref q9), (0, .ref x), (1, .int p0), (2, .int p1), (3, .int p2), (4, .ref oA)]) hx hb dL_root_15 hl (by decide) rfl (fun ls hl => ?_)
  refine lv_iconst (v := 1) hx hb dL_root_17 (by decide +kernel) ?_
  refine W.widen (k := 1) (n := 6) (Nat.le_of_ble_eq_true rfl) (Nat.le_of_ble_eq_true rfl) ?_
  exact W.iret (v := 1) hx hb hr (fun t ht hW => ⟨⟨1, (), rfl, rfl, by rw [ht]; exact hP, va_K.moved hW.alike hK9, hD⟩, hS.F ht⟩) hS.2.2 dL_root_18
set_option maxHeartbeats 4000000 in
set_option maxRecDepth 100000 in
theorem ct_L_cell (l : Launch) (hlt : l.stackTraces = false) (dC : Nat → ClassId) (dI : Nat → Nat → Nat) (sz : Nat) (p0 p1 p2 : Int32) (x : Nat) (xg : List Value) (liA : Nat) (liC : ClassId) (liF : Nat → Option Nat) (li0 li1 li2 : Nat) (lig0 lig1 lig2 : List Value) (hlig0 : fx lig0 7 [(0, .int 0)]) (hliF0 : liF 0 = some li0) (hlig1 : fx lig1 7 [(0, .int 0)]) (hliF1 : liF 1 = some li1) (hlig2 : fx lig2 7 [(0, .int 0)]) (hliF2 : liF 2 = some li2) (oA : Nat) (oC : ClassId) (oF : Nat → Int64) (hxg : fx xg 17 [(8, .ref liA)]) : Met l yL_cell (Cond.codeWith yL_cell cL_cell 6 (some .int) [(0, 12, 15, 32), (0, 12, 19, 19)] :: BG) ({ frames := 9, cells := 1, slots := 6, locals := 200 }) (va_Pc [.ref x, .int p0, .int p1, .int p2, .ref oA] (fun U => U.heap.size = sz ∧ va_P (dC, dI) CL [(x, .inr (12, xg)), (liA, .inl (liC, (3, .inr (.inr (.inr (.inr liF)))))), (li0, .inr (5, lig0)), (li1, .inr (5, lig1)), (li2, .inr (5, lig2)), (oA, .inl (oC, (1, .inr (.inl oF))))] U.heap ∧ va_K (dC, dI) CL [(liC, .object "ChipFlow$Library"), (oC, .long)] U ∧ va_D (fun _ => True) [(x, .inr (12, xg)), (liA, .inl (liC, (3, .inr (.inr (.inr (.inr liF)))))), (li0, .inr (5, lig0)), (li1, .inr (5, lig1)), (li2, .inr (5, lig2)), (oA, .inl (oC, (1, .inr (.inl oF))))] ∧ th (va_A [(x, .inr (12, xg)), (liA, .inl (liC, (3, .inr (.inr (.inr (.inr liF)))))), (li0, .inr (5, lig0)), (li1, .inr (5, lig1)), (li2, .inr (5, lig2)), (oA, .inl (oC, (1, .inr (.inl oF))))] sz) U U.heap)) (va_Qi (fun (r : Int32) (_ : Unit) => r = 1) (fun _ t => va_P (dC, dI) CL [(oA, .inl (oC, (1, .inr (.inl oF))))] t.heap ∧ va_K (dC, dI) CL [(oC, .long)] t ∧ va_D (va_A [(x, .inr (12, xg)), (liA, .inl (liC, (3, .inr (.inr (.inr (.inr liF)))))), (li0, .inr (5, lig0)), (li1, .inr (5, lig1)), (li2, .inr (5, lig2)), (oA, .inl (oC, (1, .inr (.inl oF))))] sz) [(oA, .inl (oC, (1, .inr (.inl oF))))]) (va_A [(x, .inr (12, xg)), (liA, .inl (liC, (3, .inr (.inr (.inr (.inr liF)))))), (li0, .inr (5, lig0)), (li1, .inr (5, lig1)), (li2, .inr (5, lig2)), (oA, .inl (oC, (1, .inr (.inl oF))))] sz)) 1 6 (va_A [(x, .inr (12, xg)), (liA, .inl (liC, (3, .inr (.inr (.inr (.inr liF)))))), (li0, .inr (5, lig0)), (li1, .inr (5, lig1)), (li2, .inr (5, lig2)), (oA, .inl (oC, (1, .inr (.inl oF))))] sz) := by
  refine va_MetW (hh := [(0, 12, 15, 32), (0, 12, 19, 19)]) (cc := cL_cell) (maxL := 6) (ret := (some .int)) (by decide) rfl ?_
  intro p e s m args below meth c s₁ B hml hv
  obtain ⟨rfl, hsz, hP, hK, hD0, hth⟩ := hv
  have hx := B.exec
  have hb := B.bytes
  have hr := B.returns
  have hts : ∀ w ∈ BG, w.before _ s = true := fun w h => atoms_spec (ws := Cond.codeWith yL_cell cL_cell 6 (some .int) [(0, 12, 15, 32), (0, 12, 19, 19)] :: BG) B.pre w (List.mem_cons_of_mem _ h)
  have hown : s.vm.findClass RL = some m.cls := findClass_of_methodNamed B.named
  have hlocks := B.notSynchronized
  subst hsz
  have hD := hD0.self (sz := s.heap.size)
  generalize hAe : va_A [(x, .inr (12, xg)), (liA, .inl (liC, (3, .inr (.inr (.inr (.inr liF)))))), (li0, .inr (5, lig0)), (li1, .inr (5, lig1)), (li2, .inr (5, lig2)), (oA, .inl (oC, (1, .inr (.inl oF))))] s.heap.size = A at hD hth ⊢
  have hA : ∀ q : Nat, s.heap.size ≤ q → A q := fun q h => by rw [← hAe]; exact Or.inr h
  have hS : va_S A s.heap s.heap [] := va_S.rf
  have hl := lv_entry ([.ref x, .int p0, .int p1, .int p2, .ref oA]) (n := 6) (Nat.le_of_ble_eq_true rfl)
  rw [lg_entry_eq]
  generalize (lg_sl ([.ref x, .int p0, .int p1, .int p2, .ref oA]) ++ List.replicate (6 - (lg_sl ([.ref x, .int p0, .int p1, .int p2, .ref oA])).length) Slot.unset).toArray = ls at hl ⊢
  have hl : lv_has ls 6 [(0, .ref x), (1, .int p0), (2, .int p1), (3, .int p2), (4, .ref oA)] := hl
  have hT : c.exceptionTable.toList = tableOf [(0, 12, 15, 32), (0, 12, 19, 19)] := vx_table (x := yL_cell) B (atoms_spec (ws := Cond.codeWith yL_cell cL_cell 6 (some .int) [(0, 12, 15, 32), (0, 12, 19, 19)] :: BG) B.pre _ List.mem_cons_self)
  have hFc := va_free (wc := [(x, .inr (12, xg)), (liA, .inl (liC, (3, .inr (.inr (.inr (.inr liF)))))), (li0, .inr (5, lig0)), (li1, .inr (5, lig1)), (li2, .inr (5, lig2))]) hD hS hA [0, 1, 2, 3, 4] rfl
  have hPc := hP.sub (ws' := [(x, .inr (12, xg)), (liA, .inl (liC, (3, .inr (.inr (.inr (.inr liF)))))), (li0, .inr (5, lig0)), (li1, .inr (5, lig1)), (li2, .inr (5, lig2))]) [0, 1, 2, 3, 4] rfl
  have hDc := hD.sub (ws' := [(x, .inr (12, xg)), (liA, .inl (liC, (3, .inr (.inr (.inr (.inr liF)))))), (li0, .inr (5, lig0)), (li1, .inr (5, lig1)), (li2, .inr (5, lig2))]) [0, 1, 2, 3, 4] (by decide) rfl
  have hKc := hK.sub (tys' := [(liC, .object "ChipFlow$Library")]) [0] rfl
  have hK9 := hK.sub (tys' := [(oC, .long)]) [1] rfl
  refine lv_aload hx hb dL_cell_0 (lv_at hl 4 rfl) ?_
  refine lv_iconst (v := 0) hx hb dL_cell_2 (by decide +kernel) ?_
  refine lv_aload_n hx hb dL_cell_3 rfl (lv_at hl 0 rfl) ?_
  refine lv_iload_n hx hb dL_cell_4 rfl (lv_at hl 1 rfl) ?_
  refine lv_iload_n hx hb dL_cell_5 rfl (lv_at hl 2 rfl) ?_
  refine lv_iload_n hx hb dL_cell_6 rfl (lv_at hl 3 rfl) ?_
  refine vq_thr (vx_runV (As := [.int p0, .int p1, .int p2]) (rest := [.int 0, .ref oA]) ⟨hx, hb, hml, hown, hts⟩ (ct_X12_cell l hlt dC dI s.heap.size p0 p1 p2 x xg liA liC liF li0 li1 li2 lig0 lig1 lig2 hlig0 hliF0 hlig1 hliF1 hlig2 hliF2 hxg) (cwV 3 hts (gi_V wd_1878 wd_1879 wd_1880 wd_327 wd_1881) rfl rfl rfl (by decide +kernel) ⟨(Nat.le_of_ble_eq_true rfl), (Nat.le_of_ble_eq_true rfl)⟩) ⟨fun a U g mk q => by obtain ⟨q0, q1, qP, qK, qD, qT⟩ := q; exact ⟨q0, q1, qP, va_K.moved (u := U) (U := U.calling g mk a) (Vm.Alike.refl U.vm) qK, qD, th.moved (u := U) (U := U.calling g mk a) (Vm.Alike.refl U.vm) qT⟩, va_recv hKc hPc (ci := 12) (q0 := 0) rfl rfl, fun U hU hW => ⟨rfl, by rw [hU], by rw [hU]; exact hPc, va_K.moved hW.alike hKc, hDc.weaken (fun _ _ _ _ => trivial), by rw [hU]; exact (hth.narrow hFc).moved hW.alike⟩⟩ rfl rfl hl.1 rfl (lv_room (Nat.le_of_ble_eq_true rfl)) dL_cell_7 ⟨(Nat.le_of_ble_eq_true rfl), (Nat.le_of_ble_eq_true rfl)⟩) (fun _ _ _ h => h) hS hFc (fun q _ h => hFc q h) (fun E ce q9 u t H1 locs ht hvm hp hB hz hk hS hce hcv hcl => ?_)
  subst hB
  obtain ⟨hP, hD⟩ := va_join (wr := [(oA, .inl (oC, (1, .inr (.inl oF))))]) (w1 := []) hP hD [0, 1, 2, 3, 4] [5] rfl rfl (by decide) (by decide) hk hFc po_nilP po_nilD
  have hP : va_P (dC, dI) CL [(oA, .inl (oC, (1, .inr (.inl oF))))] H1 := hP
  have hD : va_D A [(oA, .inl (oC, (1, .inr (.inl oF))))] := hD
  refine vx_catch (own := RL) (name := "java/lang/IndexOutOfBoundsException") hown [] { startPc := 0, endPc := 12, handlerPc := 15, catchType := 32 } [{ startPc := 0, endPc := 12, handlerPc := 19, catchType := 19 }] (by rw [hT]; rfl) (fun _ h => nomatch h) (by decide) (by decide) (hts (.classLink RL 32 "java/lang/IndexOutOfBoundsException") wd_1804) (hth.cast (by decide)) hce hcv hcl ?_
  refine lv_astore (lv' := [(5, .ref q9), (0, .ref x), (1, .int p0), (2, .int p1), (3, .int p2), (4, .ref oA)]) hx hb dL_cell_15 hl (by decide) rfl (fun ls hl => ?_)
  refine lv_iconst (v := 1) hx hb dL_cell_17 (by decide +kernel) ?_
  refine W.widen (k := 1) (n := 6) (Nat.le_of_ble_eq_true rfl) (Nat.le_of_ble_eq_true rfl) ?_
  exact W.iret (v := 1) hx hb hr (fun t ht hW => ⟨⟨1, (), rfl, rfl, by rw [ht]; exact hP, va_K.moved hW.alike hK9, hD⟩, hS.F ht⟩) hS.2.2 dL_cell_18
set_option maxHeartbeats 4000000 in
set_option maxRecDepth 100000 in
theorem ct_L_play (l : Launch) (hlt : l.stackTraces = false) (dC : Nat → ClassId) (dI : Nat → Nat → Nat) (sz : Nat) (p0 p1 : Int32) (x : Nat) (xg : List Value) (deA : Nat) (deC : ClassId) (deF : Nat → Option Nat) (de0 de1 de2 de3 de4 de5 : Nat) (deg0 deg1 deg2 deg3 deg4 deg5 : List Value) (hdeg0 : fx deg0 16 [(0, .int 0)]) (hdeF0 : deF 0 = some de0) (hdeg1 : fx deg1 16 [(0, .int 0)]) (hdeF1 : deF 1 = some de1) (hdeg2 : fx deg2 16 [(0, .int 0)]) (hdeF2 : deF 2 = some de2) (hdeg3 : fx deg3 16 [(0, .int 0)]) (hdeF3 : deF 3 = some de3) (hdeg4 : fx deg4 16 [(0, .int 0)]) (hdeF4 : deF 4 = some de4) (hdeg5 : fx deg5 16 [(0, .int 0)]) (hdeF5 : deF 5 = some de5) (oA : Nat) (oC : ClassId) (oF : Nat → Int64) (hxg : fx xg 17 [(7, .ref deA)]) : Met l yL_play (Cond.codeWith yL_play cL_play 5 (some .int) [(0, 10, 13, 32), (0, 10, 17, 19)] :: BG) ({ frames := 9, cells := 1, slots := 6, locals := 200 }) (va_Pc [.ref x, .int p0, .int p1, .ref oA] (fun U => U.heap.size = sz ∧ va_P (dC, dI) CL [(x, .inr (12, xg)), (deA, .inl (deC, (6, .inr (.inr (.inr (.inr deF)))))), (de0, .inr (3, deg0)), (de1, .inr (3, deg1)), (de2, .inr (3, deg2)), (de3, .inr (3, deg3)), (de4, .inr (3, deg4)), (de5, .inr (3, deg5)), (oA, .inl (oC, (1, .inr (.inl oF))))] U.heap ∧ va_K (dC, dI) CL [(deC, .object "ChipFlow$Design"), (oC, .long)] U ∧ va_D (fun _ => True) [(x, .inr (12, xg)), (deA, .inl (deC, (6, .inr (.inr (.inr (.inr deF)))))), (de0, .inr (3, deg0)), (de1, .inr (3, deg1)), (de2, .inr (3, deg2)), (de3, .inr (3, deg3)), (de4, .inr (3, deg4)), (de5, .inr (3, deg5)), (oA, .inl (oC, (1, .inr (.inl oF))))] ∧ th (va_A [(x, .inr (12, xg)), (deA, .inl (deC, (6, .inr (.inr (.inr (.inr deF)))))), (de0, .inr (3, deg0)), (de1, .inr (3, deg1)), (de2, .inr (3, deg2)), (de3, .inr (3, deg3)), (de4, .inr (3, deg4)), (de5, .inr (3, deg5)), (oA, .inl (oC, (1, .inr (.inl oF))))] sz) U U.heap)) (va_Qi (fun (r : Int32) (_ : Unit) => r = 1) (fun _ t => va_P (dC, dI) CL [(oA, .inl (oC, (1, .inr (.inl oF))))] t.heap ∧ va_K (dC, dI) CL [(oC, .long)] t ∧ va_D (va_A [(x, .inr (12, xg)), (deA, .inl (deC, (6, .inr (.inr (.inr (.inr deF)))))), (de0, .inr (3, deg0)), (de1, .inr (3, deg1)), (de2, .inr (3, deg2)), (de3, .inr (3, deg3)), (de4, .inr (3, deg4)), (de5, .inr (3, deg5)), (oA, .inl (oC, (1, .inr (.inl oF))))] sz) [(oA, .inl (oC, (1, .inr (.inl oF))))]) (va_A [(x, .inr (12, xg)), (deA, .inl (deC, (6, .inr (.inr (.inr (.inr deF)))))), (de0, .inr (3, deg0)), (de1, .inr (3, deg1)), (de2, .inr (3, deg2)), (de3, .inr (3, deg3)), (de4, .inr (3, deg4)), (de5, .inr (3, deg5)), (oA, .inl (oC, (1, .inr (.inl oF))))] sz)) 1 6 (va_A [(x, .inr (12, xg)), (deA, .inl (deC, (6, .inr (.inr (.inr (.inr deF)))))), (de0, .inr (3, deg0)), (de1, .inr (3, deg1)), (de2, .inr (3, deg2)), (de3, .inr (3, deg3)), (de4, .inr (3, deg4)), (de5, .inr (3, deg5)), (oA, .inl (oC, (1, .inr (.inl oF))))] sz) := by
  refine va_MetW (hh := [(0, 10, 13, 32), (0, 10, 17, 19)]) (cc := cL_play) (maxL := 5) (ret := (some .int)) (by decide) rfl ?_
  intro p e s m args below meth c s₁ B hml hv
  obtain ⟨rfl, hsz, hP, hK, hD0, hth⟩ := hv
  have hx := B.exec
  have hb := B.bytes
  have hr := B.returns
  have hts : ∀ w ∈ BG, w.before _ s = true := fun w h => atoms_spec (ws := Cond.codeWith yL_play cL_play 5 (some .int) [(0, 10, 13, 32), (0, 10, 17, 19)] :: BG) B.pre w (List.mem_cons_of_mem _ h)
  have hown : s.vm.findClass RL = some m.cls := findClass_of_methodNamed B.named
  have hlocks := B.notSynchronized
  subst hsz
  have hD := hD0.self (sz := s.heap.size)
  generalize hAe : va_A [(x, .inr (12, xg)), (deA, .inl (deC, (6, .inr (.inr (.inr (.inr deF)))))), (de0, .inr (3, deg0)), (de1, .inr (3, deg1)), (de2, .inr (3, deg2)), (de3, .inr (3, deg3)), (de4, .inr (3, deg4)), (de5, .inr (3, deg5)), (oA, .inl (oC, (1, .inr (.inl oF))))] s.heap.size = A at hD hth ⊢
  have hA : ∀ q : Nat, s.heap.size ≤ q → A q := fun q h => by rw [← hAe]; exact Or.inr h
  have hS : va_S A s.heap s.heap [] := va_S.rf
  have hl := lv_entry ([.ref x, .int p0, .int p1, .ref oA]) (n := 5) (Nat.le_of_ble_eq_true rfl)
  rw [lg_entry_eq]
  generalize (lg_sl ([.ref x, .int p0, .int p1, .ref oA]) ++ List.replicate (5 - (lg_sl ([.ref x, .int p0, .int p1, .ref oA])).length) Slot.unset).toArray = ls at hl ⊢
  have hl : lv_has ls 5 [(0, .ref x), (1, .int p0), (2, .int p1), (3, .ref oA)] := hl
  have hT : c.exceptionTable.toList = tableOf [(0, 10, 13, 32), (0, 10, 17, 19)] := vx_table (x := yL_play) B (atoms_spec (ws := Cond.codeWith yL_play cL_play 5 (some .int) [(0, 10, 13, 32), (0, 10, 17, 19)] :: BG) B.pre _ List.mem_cons_self)
  have hFc := va_free (wc := [(x, .inr (12, xg)), (deA, .inl (deC, (6, .inr (.inr (.inr (.inr deF)))))), (de0, .inr (3, deg0)), (de1, .inr (3, deg1)), (de2, .inr (3, deg2)), (de3, .inr (3, deg3)), (de4, .inr (3, deg4)), (de5, .inr (3, deg5))]) hD hS hA [0, 1, 2, 3, 4, 5, 6, 7] rfl
  have hPc := hP.sub (ws' := [(x, .inr (12, xg)), (deA, .inl (deC, (6, .inr (.inr (.inr (.inr deF)))))), (de0, .inr (3, deg0)), (de1, .inr (3, deg1)), (de2, .inr (3, deg2)), (de3, .inr (3, deg3)), (de4, .inr (3, deg4)), (de5, .inr (3, deg5))]) [0, 1, 2, 3, 4, 5, 6, 7] rfl
  have hDc := hD.sub (ws' := [(x, .inr (12, xg)), (deA, .inl (deC, (6, .inr (.inr (.inr (.inr deF)))))), (de0, .inr (3, deg0)), (de1, .inr (3, deg1)), (de2, .inr (3, deg2)), (de3, .inr (3, deg3)), (de4, .inr (3, deg4)), (de5, .inr (3, deg5))]) [0, 1, 2, 3, 4, 5, 6, 7] (by decide) rfl
  have hKc := hK.sub (tys' := [(deC, .object "ChipFlow$Design")]) [0] rfl
  have hK9 := hK.sub (tys' := [(oC, .long)]) [1] rfl
  refine lv_aload_n hx hb dL_play_0 rfl (lv_at hl 3 rfl) ?_
  refine lv_iconst (v := 0) hx hb dL_play_1 (by decide +kernel) ?_
  refine lv_aload_n hx hb dL_play_2 rfl (lv_at hl 0 rfl) ?_
  refine lv_iload_n hx hb dL_play_3 rfl (lv_at hl 1 rfl) ?_
  refine lv_iload_n hx hb dL_play_4 rfl (lv_at hl 2 rfl) ?_
  refine vq_thr (vx_runV (As := [.int p0, .int p1]) (rest := [.int 0, .ref oA]) ⟨hx, hb, hml, hown, hts⟩ (ct_X12_play l hlt dC dI s.heap.size p0 p1 x xg deA deC deF de0 de1 de2 de3 de4 de5 deg0 deg1 deg2 deg3 deg4 deg5 hdeg0 hdeF0 hdeg1 hdeF1 hdeg2 hdeF2 hdeg3 hdeF3 hdeg4 hdeF4 hdeg5 hdeF5 hxg) (cwV 2 hts (gi_V wd_1885 wd_1886 wd_1887 wd_327 wd_1888) rfl rfl rfl (by decide +kernel) ⟨(Nat.le_of_ble_eq_true rfl), (Nat.le_of_ble_eq_true rfl)⟩) ⟨fun a U g mk q => by obtain ⟨q0, q1, qP, qK, qD, qT⟩ := q; exact ⟨q0, q1, qP, va_K.moved (u := U) (U := U.calling g mk a) (Vm.Alike.refl U.vm) qK, qD, th.moved (u := U) (U := U.calling g mk a) (Vm.Alike.refl U.vm) qT⟩, va_recv hKc hPc (ci := 12) (q0 := 0) rfl rfl, fun U hU hW => ⟨rfl, by rw [hU], by rw [hU]; exact hPc, va_K.moved hW.alike hKc, hDc.weaken (fun _ _ _ _ => trivial), by rw [hU]; exact (hth.narrow hFc).moved hW.alike⟩⟩ rfl rfl hl.1 rfl (lv_room (Nat.le_of_ble_eq_true rfl)) dL_play_5 ⟨(Nat.le_of_ble_eq_true rfl), (Nat.le_of_ble_eq_true rfl)⟩) (fun _ _ _ h => h) hS hFc (fun q _ h => hFc q h) (fun E ce q9 u t H1 locs ht hvm hp hB hz hk hS hce hcv hcl => ?_)
  subst hB
  obtain ⟨hP, hD⟩ := va_join (wr := [(oA, .inl (oC, (1, .inr (.inl oF))))]) (w1 := []) hP hD [0, 1, 2, 3, 4, 5, 6, 7] [8] rfl rfl (by decide) (by decide) hk hFc po_nilP po_nilD
  have hP : va_P (dC, dI) CL [(oA, .inl (oC, (1, .inr (.inl oF))))] H1 := hP
  have hD : va_D A [(oA, .inl (oC, (1, .inr (.inl oF))))] := hD
  refine vx_catch (own := RL) (name := "java/lang/IndexOutOfBoundsException") hown [] { startPc := 0, endPc := 10, handlerPc := 13, catchType := 32 } [{ startPc := 0, endPc := 10, handlerPc := 17, catchType := 19 }] (by rw [hT]; rfl) (fun _ h => nomatch h) (by decide) (by decide) (hts (.classLink RL 32 "java/lang/IndexOutOfBoundsException") wd_1804) (hth.cast (by decide)) hce hcv hcl ?_
  refine lv_astore (lv' := [(4, .ref q9), (0, .ref x), (1, .int p0), (2, .int p1), (3, .ref oA)]) hx hb dL_play_13 hl (by decide) rfl (fun ls hl => ?_)
  refine lv_iconst (v := 1) hx hb dL_play_15 (by decide +kernel) ?_
  refine W.widen (k := 1) (n := 6) (Nat.le_of_ble_eq_true rfl) (Nat.le_of_ble_eq_true rfl) ?_
  exact W.iret (v := 1) hx hb hr (fun t ht hW => ⟨⟨1, (), rfl, rfl, by rw [ht]; exact hP, va_K.moved hW.alike hK9, hD⟩, hS.F ht⟩) hS.2.2 dL_play_16
set_option maxHeartbeats 4000000 in
set_option maxRecDepth 100000 in
theorem ct_L_state (l : Launch) (hlt : l.stackTraces = false) (dC : Nat → ClassId) (dI : Nat → Nat → Nat) (sz : Nat) (p0 : Int32) (x : Nat) (xg : List Value) (deA : Nat) (deC : ClassId) (deF : Nat → Option Nat) (de0 de1 de2 de3 de4 de5 : Nat) (deg0 deg1 deg2 deg3 deg4 deg5 : List Value) (hdeg0 : fx deg0 16 [(0, .int 0)]) (hdeF0 : deF 0 = some de0) (hdeg1 : fx deg1 16 [(0, .int 0)]) (hdeF1 : deF 1 = some de1) (hdeg2 : fx deg2 16 [(0, .int 0)]) (hdeF2 : deF 2 = some de2) (hdeg3 : fx deg3 16 [(0, .int 0)]) (hdeF3 : deF 3 = some de3) (hdeg4 : fx deg4 16 [(0, .int 0)]) (hdeF4 : deF 4 = some de4) (hdeg5 : fx deg5 16 [(0, .int 0)]) (hdeF5 : deF 5 = some de5) (oA : Nat) (oC : ClassId) (oF : Nat → Int64) (hxg : fx xg 17 [(7, .ref deA)]) : Met l yL_state (Cond.codeWith yL_state cL_state 4 (some .int) [(0, 9, 12, 32)] :: BG) ({ frames := 9, cells := 1, slots := 6, locals := 200 }) (va_Pc [.ref x, .int p0, .ref oA] (fun U => U.heap.size = sz ∧ va_P (dC, dI) CL [(x, .inr (12, xg)), (deA, .inl (deC, (6, .inr (.inr (.inr (.inr deF)))))), (de0, .inr (3, deg0)), (de1, .inr (3, deg1)), (de2, .inr (3, deg2)), (de3, .inr (3, deg3)), (de4, .inr (3, deg4)), (de5, .inr (3, deg5)), (oA, .inl (oC, (1, .inr (.inl oF))))] U.heap ∧ va_K (dC, dI) CL [(deC, .object "ChipFlow$Design"), (oC, .long)] U ∧ va_D (fun _ => True) [(x, .inr (12, xg)), (deA, .inl (deC, (6, .inr (.inr (.inr (.inr deF)))))), (de0, .inr (3, deg0)), (de1, .inr (3, deg1)), (de2, .inr (3, deg2)), (de3, .inr (3, deg3)), (de4, .inr (3, deg4)), (de5, .inr (3, deg5)), (oA, .inl (oC, (1, .inr (.inl oF))))] ∧ th (va_A [(x, .inr (12, xg)), (deA, .inl (deC, (6, .inr (.inr (.inr (.inr deF)))))), (de0, .inr (3, deg0)), (de1, .inr (3, deg1)), (de2, .inr (3, deg2)), (de3, .inr (3, deg3)), (de4, .inr (3, deg4)), (de5, .inr (3, deg5)), (oA, .inl (oC, (1, .inr (.inl oF))))] sz) U U.heap)) (va_Qi (fun (r : Int32) (_ : Unit) => r = 1) (fun _ t => va_P (dC, dI) CL [(oA, .inl (oC, (1, .inr (.inl oF))))] t.heap ∧ va_K (dC, dI) CL [(oC, .long)] t ∧ va_D (va_A [(x, .inr (12, xg)), (deA, .inl (deC, (6, .inr (.inr (.inr (.inr deF)))))), (de0, .inr (3, deg0)), (de1, .inr (3, deg1)), (de2, .inr (3, deg2)), (de3, .inr (3, deg3)), (de4, .inr (3, deg4)), (de5, .inr (3, deg5)), (oA, .inl (oC, (1, .inr (.inl oF))))] sz) [(oA, .inl (oC, (1, .inr (.inl oF))))]) (va_A [(x, .inr (12, xg)), (deA, .inl (deC, (6, .inr (.inr (.inr (.inr deF)))))), (de0, .inr (3, deg0)), (de1, .inr (3, deg1)), (de2, .inr (3, deg2)), (de3, .inr (3, deg3)), (de4, .inr (3, deg4)), (de5, .inr (3, deg5)), (oA, .inl (oC, (1, .inr (.inl oF))))] sz)) 1 6 (va_A [(x, .inr (12, xg)), (deA, .inl (deC, (6, .inr (.inr (.inr (.inr deF)))))), (de0, .inr (3, deg0)), (de1, .inr (3, deg1)), (de2, .inr (3, deg2)), (de3, .inr (3, deg3)), (de4, .inr (3, deg4)), (de5, .inr (3, deg5)), (oA, .inl (oC, (1, .inr (.inl oF))))] sz) := by
  refine va_MetW (hh := [(0, 9, 12, 32)]) (cc := cL_state) (maxL := 4) (ret := (some .int)) (by decide) rfl ?_
  intro p e s m args below meth c s₁ B hml hv
  obtain ⟨rfl, hsz, hP, hK, hD0, hth⟩ := hv
  have hx := B.exec
  have hb := B.bytes
  have hr := B.returns
  have hts : ∀ w ∈ BG, w.before _ s = true := fun w h => atoms_spec (ws := Cond.codeWith yL_state cL_state 4 (some .int) [(0, 9, 12, 32)] :: BG) B.pre w (List.mem_cons_of_mem _ h)
  have hown : s.vm.findClass RL = some m.cls := findClass_of_methodNamed B.named
  have hlocks := B.notSynchronized
  subst hsz
  have hD := hD0.self (sz := s.heap.size)
  generalize hAe : va_A [(x, .inr (12, xg)), (deA, .inl (deC, (6, .inr (.inr (.inr (.inr deF)))))), (de0, .inr (3, deg0)), (de1, .inr (3, deg1)), (de2, .inr (3, deg2)), (de3, .inr (3, deg3)), (de4, .inr (3, deg4)), (de5, .inr (3, deg5)), (oA, .inl (oC, (1, .inr (.inl oF))))] s.heap.size = A at hD hth ⊢
  have hA : ∀ q : Nat, s.heap.size ≤ q → A q := fun q h => by rw [← hAe]; exact Or.inr h
  have hS : va_S A s.heap s.heap [] := va_S.rf
  have hl := lv_entry ([.ref x, .int p0, .ref oA]) (n := 4) (Nat.le_of_ble_eq_true rfl)
  rw [lg_entry_eq]
  generalize (lg_sl ([.ref x, .int p0, .ref oA]) ++ List.replicate (4 - (lg_sl ([.ref x, .int p0, .ref oA])).length) Slot.unset).toArray = ls at hl ⊢
  have hl : lv_has ls 4 [(0, .ref x), (1, .int p0), (2, .ref oA)] := hl
  have hT : c.exceptionTable.toList = tableOf [(0, 9, 12, 32)] := vx_table (x := yL_state) B (atoms_spec (ws := Cond.codeWith yL_state cL_state 4 (some .int) [(0, 9, 12, 32)] :: BG) B.pre _ List.mem_cons_self)
  have hFc := va_free (wc := [(x, .inr (12, xg)), (deA, .inl (deC, (6, .inr (.inr (.inr (.inr deF)))))), (de0, .inr (3, deg0)), (de1, .inr (3, deg1)), (de2, .inr (3, deg2)), (de3, .inr (3, deg3)), (de4, .inr (3, deg4)), (de5, .inr (3, deg5))]) hD hS hA [0, 1, 2, 3, 4, 5, 6, 7] rfl
  have hPc := hP.sub (ws' := [(x, .inr (12, xg)), (deA, .inl (deC, (6, .inr (.inr (.inr (.inr deF)))))), (de0, .inr (3, deg0)), (de1, .inr (3, deg1)), (de2, .inr (3, deg2)), (de3, .inr (3, deg3)), (de4, .inr (3, deg4)), (de5, .inr (3, deg5))]) [0, 1, 2, 3, 4, 5, 6, 7] rfl
  have hDc := hD.sub (ws' := [(x, .inr (12, xg)), (deA, .inl (deC, (6, .inr (.inr (.inr (.inr deF)))))), (de0, .inr (3, deg0)), (de1, .inr (3, deg1)), (de2, .inr (3, deg2)), (de3, .inr (3, deg3)), (de4, .inr (3, deg4)), (de5, .inr (3, deg5))]) [0, 1, 2, 3, 4, 5, 6, 7] (by decide) rfl
  have hKc := hK.sub (tys' := [(deC, .object "ChipFlow$Design")]) [0] rfl
  have hK9 := hK.sub (tys' := [(oC, .long)]) [1] rfl
  refine lv_aload_n hx hb dL_state_0 rfl (lv_at hl 2 rfl) ?_
  refine lv_iconst (v := 0) hx hb dL_state_1 (by decide +kernel) ?_
  refine lv_aload_n hx hb dL_state_2 rfl (lv_at hl 0 rfl) ?_
  refine lv_iload_n hx hb dL_state_3 rfl (lv_at hl 1 rfl) ?_
  refine vq_thr (vx_runV (As := [.int p0]) (rest := [.int 0, .ref oA]) ⟨hx, hb, hml, hown, hts⟩ (ct_X12_state l hlt dC dI s.heap.size p0 x xg deA deC deF de0 de1 de2 de3 de4 de5 deg0 deg1 deg2 deg3 deg4 deg5 hdeg0 hdeF0 hdeg1 hdeF1 hdeg2 hdeF2 hdeg3 hdeF3 hdeg4 hdeF4 hdeg5 hdeF5 hxg) (cwV 1 hts (gi_V wd_1893 wd_1894 wd_1895 wd_327 wd_1896) rfl rfl rfl (by decide +kernel) ⟨(Nat.le_of_ble_eq_true rfl), (Nat.le_of_ble_eq_true rfl)⟩) ⟨fun a U g mk q => by obtain ⟨q0, q1, qP, qK, qD, qT⟩ := q; exact ⟨q0, q1, qP, va_K.moved (u := U) (U := U.calling g mk a) (Vm.Alike.refl U.vm) qK, qD, th.moved (u := U) (U := U.calling g mk a) (Vm.Alike.refl U.vm) qT⟩, va_recv hKc hPc (ci := 12) (q0 := 0) rfl rfl, fun U hU hW => ⟨rfl, by rw [hU], by rw [hU]; exact hPc, va_K.moved hW.alike hKc, hDc.weaken (fun _ _ _ _ => trivial), by rw [hU]; exact (hth.narrow hFc).moved hW.alike⟩⟩ rfl rfl hl.1 rfl (lv_room (Nat.le_of_ble_eq_true rfl)) dL_state_4 ⟨(Nat.le_of_ble_eq_true rfl), (Nat.le_of_ble_eq_true rfl)⟩) (fun _ _ _ h => h) hS hFc (fun q _ h => hFc q h) (fun E ce q9 u t H1 locs ht hvm hp hB hz hk hS hce hcv hcl => ?_)
  subst hB
  obtain ⟨hP, hD⟩ := va_join (wr := [(oA, .inl (oC, (1, .inr (.inl oF))))]) (w1 := []) hP hD [0, 1, 2, 3, 4, 5, 6, 7] [8] rfl rfl (by decide) (by decide) hk hFc po_nilP po_nilD
  have hP : va_P (dC, dI) CL [(oA, .inl (oC, (1, .inr (.inl oF))))] H1 := hP
  have hD : va_D A [(oA, .inl (oC, (1, .inr (.inl oF))))] := hD
  refine vx_catch (own := RL) (name := "java/lang/IndexOutOfBoundsException") hown [] { startPc := 0, endPc := 9, handlerPc := 12, catchType := 32 } [] (by rw [hT]; rfl) (fun _ h => nomatch h) (by decide) (by decide) (hts (.classLink RL 32 "java/lang/IndexOutOfBoundsException") wd_1804) (hth.cast (by decide)) hce hcv hcl ?_
  refine lv_astore_n (lv' := [(3, .ref q9), (0, .ref x), (1, .int p0), (2, .ref oA)]) hx hb dL_state_12 rfl hl (by decide) rfl (fun ls hl => ?_)
  refine lv_iconst (v := 1) hx hb dL_state_13 (by decide +kernel) ?_
  refine W.widen (k := 1) (n := 6) (Nat.le_of_ble_eq_true rfl) (Nat.le_of_ble_eq_true rfl) ?_
  exact W.iret (v := 1) hx hb hr (fun t ht hW => ⟨⟨1, (), rfl, rfl, by rw [ht]; exact hP, va_K.moved hW.alike hK9, hD⟩, hS.F ht⟩) hS.2.2 dL_state_14
set_option maxHeartbeats 4000000 in
set_option maxRecDepth 100000 in
theorem ct_L_restart (l : Launch) (hlt : l.stackTraces = false) (dC : Nat → ClassId) (dI : Nat → Nat → Nat) (sz : Nat) (p0 : Int32) (x : Nat) (xg : List Value) (deA : Nat) (deC : ClassId) (deF : Nat → Option Nat) (de0 de1 de2 de3 de4 de5 : Nat) (deg0 deg1 deg2 deg3 deg4 deg5 : List Value) (hdeg0 : fx deg0 16 [(0, .int 0)]) (hdeF0 : deF 0 = some de0) (hdeg1 : fx deg1 16 [(0, .int 0)]) (hdeF1 : deF 1 = some de1) (hdeg2 : fx deg2 16 [(0, .int 0)]) (hdeF2 : deF 2 = some de2) (hdeg3 : fx deg3 16 [(0, .int 0)]) (hdeF3 : deF 3 = some de3) (hdeg4 : fx deg4 16 [(0, .int 0)]) (hdeF4 : deF 4 = some de4) (hdeg5 : fx deg5 16 [(0, .int 0)]) (hdeF5 : deF 5 = some de5) (oA : Nat) (oC : ClassId) (oF : Nat → Int64) (hxg : fx xg 17 [(7, .ref deA)]) : Met l yL_restart (Cond.codeWith yL_restart cL_restart 4 (some .int) [(0, 9, 12, 32)] :: BG) ({ frames := 9, cells := 1, slots := 6, locals := 200 }) (va_Pc [.ref x, .int p0, .ref oA] (fun U => U.heap.size = sz ∧ va_P (dC, dI) CL [(x, .inr (12, xg)), (deA, .inl (deC, (6, .inr (.inr (.inr (.inr deF)))))), (de0, .inr (3, deg0)), (de1, .inr (3, deg1)), (de2, .inr (3, deg2)), (de3, .inr (3, deg3)), (de4, .inr (3, deg4)), (de5, .inr (3, deg5)), (oA, .inl (oC, (1, .inr (.inl oF))))] U.heap ∧ va_K (dC, dI) CL [(deC, .object "ChipFlow$Design"), (oC, .long)] U ∧ va_D (fun _ => True) [(x, .inr (12, xg)), (deA, .inl (deC, (6, .inr (.inr (.inr (.inr deF)))))), (de0, .inr (3, deg0)), (de1, .inr (3, deg1)), (de2, .inr (3, deg2)), (de3, .inr (3, deg3)), (de4, .inr (3, deg4)), (de5, .inr (3, deg5)), (oA, .inl (oC, (1, .inr (.inl oF))))] ∧ th (va_A [(x, .inr (12, xg)), (deA, .inl (deC, (6, .inr (.inr (.inr (.inr deF)))))), (de0, .inr (3, deg0)), (de1, .inr (3, deg1)), (de2, .inr (3, deg2)), (de3, .inr (3, deg3)), (de4, .inr (3, deg4)), (de5, .inr (3, deg5)), (oA, .inl (oC, (1, .inr (.inl oF))))] sz) U U.heap)) (va_Qi (fun (r : Int32) (_ : Unit) => r = 1) (fun _ t => va_P (dC, dI) CL [(oA, .inl (oC, (1, .inr (.inl oF))))] t.heap ∧ va_K (dC, dI) CL [(oC, .long)] t ∧ va_D (va_A [(x, .inr (12, xg)), (deA, .inl (deC, (6, .inr (.inr (.inr (.inr deF)))))), (de0, .inr (3, deg0)), (de1, .inr (3, deg1)), (de2, .inr (3, deg2)), (de3, .inr (3, deg3)), (de4, .inr (3, deg4)), (de5, .inr (3, deg5)), (oA, .inl (oC, (1, .inr (.inl oF))))] sz) [(oA, .inl (oC, (1, .inr (.inl oF))))]) (va_A [(x, .inr (12, xg)), (deA, .inl (deC, (6, .inr (.inr (.inr (.inr deF)))))), (de0, .inr (3, deg0)), (de1, .inr (3, deg1)), (de2, .inr (3, deg2)), (de3, .inr (3, deg3)), (de4, .inr (3, deg4)), (de5, .inr (3, deg5)), (oA, .inl (oC, (1, .inr (.inl oF))))] sz)) 1 6 (va_A [(x, .inr (12, xg)), (deA, .inl (deC, (6, .inr (.inr (.inr (.inr deF)))))), (de0, .inr (3, deg0)), (de1, .inr (3, deg1)), (de2, .inr (3, deg2)), (de3, .inr (3, deg3)), (de4, .inr (3, deg4)), (de5, .inr (3, deg5)), (oA, .inl (oC, (1, .inr (.inl oF))))] sz) := by
  refine va_MetW (hh := [(0, 9, 12, 32)]) (cc := cL_restart) (maxL := 4) (ret := (some .int)) (by decide) rfl ?_
  intro p e s m args below meth c s₁ B hml hv
  obtain ⟨rfl, hsz, hP, hK, hD0, hth⟩ := hv
  have hx := B.exec
  have hb := B.bytes
  have hr := B.returns
  have hts : ∀ w ∈ BG, w.before _ s = true := fun w h => atoms_spec (ws := Cond.codeWith yL_restart cL_restart 4 (some .int) [(0, 9, 12, 32)] :: BG) B.pre w (List.mem_cons_of_mem _ h)
  have hown : s.vm.findClass RL = some m.cls := findClass_of_methodNamed B.named
  have hlocks := B.notSynchronized
  subst hsz
  have hD := hD0.self (sz := s.heap.size)
  generalize hAe : va_A [(x, .inr (12, xg)), (deA, .inl (deC, (6, .inr (.inr (.inr (.inr deF)))))), (de0, .inr (3, deg0)), (de1, .inr (3, deg1)), (de2, .inr (3, deg2)), (de3, .inr (3, deg3)), (de4, .inr (3, deg4)), (de5, .inr (3, deg5)), (oA, .inl (oC, (1, .inr (.inl oF))))] s.heap.size = A at hD hth ⊢
  have hA : ∀ q : Nat, s.heap.size ≤ q → A q := fun q h => by rw [← hAe]; exact Or.inr h
  have hS : va_S A s.heap s.heap [] := va_S.rf
  have hl := lv_entry ([.ref x, .int p0, .ref oA]) (n := 4) (Nat.le_of_ble_eq_true rfl)
  rw [lg_entry_eq]
  generalize (lg_sl ([.ref x, .int p0, .ref oA]) ++ List.replicate (4 - (lg_sl ([.ref x, .int p0, .ref oA])).length) Slot.unset).toArray = ls at hl ⊢
  have hl : lv_has ls 4 [(0, .ref x), (1, .int p0), (2, .ref oA)] := hl
  have hT : c.exceptionTable.toList = tableOf [(0, 9, 12, 32)] := vx_table (x := yL_restart) B (atoms_spec (ws := Cond.codeWith yL_restart cL_restart 4 (some .int) [(0, 9, 12, 32)] :: BG) B.pre _ List.mem_cons_self)
  have hFc := va_free (wc := [(x, .inr (12, xg)), (deA, .inl (deC, (6, .inr (.inr (.inr (.inr deF)))))), (de0, .inr (3, deg0)), (de1, .inr (3, deg1)), (de2, .inr (3, deg2)), (de3, .inr (3, deg3)), (de4, .inr (3, deg4)), (de5, .inr (3, deg5))]) hD hS hA [0, 1, 2, 3, 4, 5, 6, 7] rfl
  have hPc := hP.sub (ws' := [(x, .inr (12, xg)), (deA, .inl (deC, (6, .inr (.inr (.inr (.inr deF)))))), (de0, .inr (3, deg0)), (de1, .inr (3, deg1)), (de2, .inr (3, deg2)), (de3, .inr (3, deg3)), (de4, .inr (3, deg4)), (de5, .inr (3, deg5))]) [0, 1, 2, 3, 4, 5, 6, 7] rfl
  have hDc := hD.sub (ws' := [(x, .inr (12, xg)), (deA, .inl (deC, (6, .inr (.inr (.inr (.inr deF)))))), (de0, .inr (3, deg0)), (de1, .inr (3, deg1)), (de2, .inr (3, deg2)), (de3, .inr (3, deg3)), (de4, .inr (3, deg4)), (de5, .inr (3, deg5))]) [0, 1, 2, 3, 4, 5, 6, 7] (by decide) rfl
  have hKc := hK.sub (tys' := [(deC, .object "ChipFlow$Design")]) [0] rfl
  have hK9 := hK.sub (tys' := [(oC, .long)]) [1] rfl
  refine lv_aload_n hx hb dL_restart_0 rfl (lv_at hl 2 rfl) ?_
  refine lv_iconst (v := 0) hx hb dL_restart_1 (by decide +kernel) ?_
  refine lv_aload_n hx hb dL_restart_2 rfl (lv_at hl 0 rfl) ?_
  refine lv_iload_n hx hb dL_restart_3 rfl (lv_at hl 1 rfl) ?_
  refine vq_thr (vx_runV (As := [.int p0]) (rest := [.int 0, .ref oA]) ⟨hx, hb, hml, hown, hts⟩ (ct_X12_restart l hlt dC dI s.heap.size p0 x xg deA deC deF de0 de1 de2 de3 de4 de5 deg0 deg1 deg2 deg3 deg4 deg5 hdeg0 hdeF0 hdeg1 hdeF1 hdeg2 hdeF2 hdeg3 hdeF3 hdeg4 hdeF4 hdeg5 hdeF5 hxg) (cwV 1 hts (gi_V wd_1900 wd_1901 wd_1902 wd_327 wd_1903) rfl rfl rfl (by decide +kernel) ⟨(Nat.le_of_ble_eq_true rfl), (Nat.le_of_ble_eq_true rfl)⟩) ⟨fun a U g mk q => by obtain ⟨q0, q1, qP, qK, qD, qT⟩ := q; exact ⟨q0, q1, qP, va_K.moved (u := U) (U := U.calling g mk a) (Vm.Alike.refl U.vm) qK, qD, th.moved (u := U) (U := U.calling g mk a) (Vm.Alike.refl U.vm) qT⟩, va_recv hKc hPc (ci := 12) (q0 := 0) rfl rfl, fun U hU hW => ⟨rfl, by rw [hU], by rw [hU]; exact hPc, va_K.moved hW.alike hKc, hDc.weaken (fun _ _ _ _ => trivial), by rw [hU]; exact (hth.narrow hFc).moved hW.alike⟩⟩ rfl rfl hl.1 rfl (lv_room (Nat.le_of_ble_eq_true rfl)) dL_restart_4 ⟨(Nat.le_of_ble_eq_true rfl), (Nat.le_of_ble_eq_true rfl)⟩) (fun _ _ _ h => h) hS hFc (fun q _ h => hFc q h) (fun E ce q9 u t H1 locs ht hvm hp hB hz hk hS hce hcv hcl => ?_)
  subst hB
  obtain ⟨hP, hD⟩ := va_join (wr := [(oA, .inl (oC, (1, .inr (.inl oF))))]) (w1 := []) hP hD [0, 1, 2, 3, 4, 5, 6, 7] [8] rfl rfl (by decide) (by decide) hk hFc po_nilP po_nilD
  have hP : va_P (dC, dI) CL [(oA, .inl (oC, (1, .inr (.inl oF))))] H1 := hP
  have hD : va_D A [(oA, .inl (oC, (1, .inr (.inl oF))))] := hD
  refine vx_catch (own := RL) (name := "java/lang/IndexOutOfBoundsException") hown [] { startPc := 0, endPc := 9, handlerPc := 12, catchType := 32 } [] (by rw [hT]; rfl) (fun _ h => nomatch h) (by decide) (by decide) (hts (.classLink RL 32 "java/lang/IndexOutOfBoundsException") wd_1804) (hth.cast (by decide)) hce hcv hcl ?_
  refine lv_astore_n (lv' := [(3, .ref q9), (0, .ref x), (1, .int p0), (2, .ref oA)]) hx hb dL_restart_12 rfl hl (by decide) rfl (fun ls hl => ?_)
  refine lv_iconst (v := 1) hx hb dL_restart_13 (by decide +kernel) ?_
  refine W.widen (k := 1) (n := 6) (Nat.le_of_ble_eq_true rfl) (Nat.le_of_ble_eq_true rfl) ?_
  exact W.iret (v := 1) hx hb hr (fun t ht hW => ⟨⟨1, (), rfl, rfl, by rw [ht]; exact hP, va_K.moved hW.alike hK9, hD⟩, hS.F ht⟩) hS.2.2 dL_restart_14
set_option maxHeartbeats 4000000 in
set_option maxRecDepth 100000 in
theorem ct_L_equal (l : Launch) (hlt : l.stackTraces = false) (dC : Nat → ClassId) (dI : Nat → Nat → Nat) (sz : Nat) (p0 p1 : Int32) (x : Nat) (xg : List Value) (deA : Nat) (deC : ClassId) (deF : Nat → Option Nat) (de0 de1 de2 de3 de4 de5 : Nat) (deg0 deg1 deg2 deg3 deg4 deg5 : List Value) (hdeg0 : fx deg0 16 [(0, .int 0)]) (hdeF0 : deF 0 = some de0) (hdeg1 : fx deg1 16 [(0, .int 0)]) (hdeF1 : deF 1 = some de1) (hdeg2 : fx deg2 16 [(0, .int 0)]) (hdeF2 : deF 2 = some de2) (hdeg3 : fx deg3 16 [(0, .int 0)]) (hdeF3 : deF 3 = some de3) (hdeg4 : fx deg4 16 [(0, .int 0)]) (hdeF4 : deF 4 = some de4) (hdeg5 : fx deg5 16 [(0, .int 0)]) (hdeF5 : deF 5 = some de5) (oA : Nat) (oC : ClassId) (oF : Nat → Int64) (hxg : fx xg 17 [(7, .ref deA)]) : Met l yL_equal (Cond.codeWith yL_equal cL_equal 5 (some .int) [(0, 10, 13, 32), (0, 10, 17, 19)] :: BG) ({ frames := 9, cells := 1, slots := 6, locals := 200 }) (va_Pc [.ref x, .int p0, .int p1, .ref oA] (fun U => U.heap.size = sz ∧ va_P (dC, dI) CL [(x, .inr (12, xg)), (deA, .inl (deC, (6, .inr (.inr (.inr (.inr deF)))))), (de0, .inr (3, deg0)), (de1, .inr (3, deg1)), (de2, .inr (3, deg2)), (de3, .inr (3, deg3)), (de4, .inr (3, deg4)), (de5, .inr (3, deg5)), (oA, .inl (oC, (1, .inr (.inl oF))))] U.heap ∧ va_K (dC, dI) CL [(deC, .object "ChipFlow$Design"), (oC, .long)] U ∧ va_D (fun _ => True) [(x, .inr (12, xg)), (deA, .inl (deC, (6, .inr (.inr (.inr (.inr deF)))))), (de0, .inr (3, deg0)), (de1, .inr (3, deg1)), (de2, .inr (3, deg2)), (de3, .inr (3, deg3)), (de4, .inr (3, deg4)), (de5, .inr (3, deg5)), (oA, .inl (oC, (1, .inr (.inl oF))))] ∧ th (va_A [(x, .inr (12, xg)), (deA, .inl (deC, (6, .inr (.inr (.inr (.inr deF)))))), (de0, .inr (3, deg0)), (de1, .inr (3, deg1)), (de2, .inr (3, deg2)), (de3, .inr (3, deg3)), (de4, .inr (3, deg4)), (de5, .inr (3, deg5)), (oA, .inl (oC, (1, .inr (.inl oF))))] sz) U U.heap)) (va_Qi (fun (r : Int32) (_ : Unit) => r = 1) (fun _ t => va_P (dC, dI) CL [(oA, .inl (oC, (1, .inr (.inl oF))))] t.heap ∧ va_K (dC, dI) CL [(oC, .long)] t ∧ va_D (va_A [(x, .inr (12, xg)), (deA, .inl (deC, (6, .inr (.inr (.inr (.inr deF)))))), (de0, .inr (3, deg0)), (de1, .inr (3, deg1)), (de2, .inr (3, deg2)), (de3, .inr (3, deg3)), (de4, .inr (3, deg4)), (de5, .inr (3, deg5)), (oA, .inl (oC, (1, .inr (.inl oF))))] sz) [(oA, .inl (oC, (1, .inr (.inl oF))))]) (va_A [(x, .inr (12, xg)), (deA, .inl (deC, (6, .inr (.inr (.inr (.inr deF)))))), (de0, .inr (3, deg0)), (de1, .inr (3, deg1)), (de2, .inr (3, deg2)), (de3, .inr (3, deg3)), (de4, .inr (3, deg4)), (de5, .inr (3, deg5)), (oA, .inl (oC, (1, .inr (.inl oF))))] sz)) 1 6 (va_A [(x, .inr (12, xg)), (deA, .inl (deC, (6, .inr (.inr (.inr (.inr deF)))))), (de0, .inr (3, deg0)), (de1, .inr (3, deg1)), (de2, .inr (3, deg2)), (de3, .inr (3, deg3)), (de4, .inr (3, deg4)), (de5, .inr (3, deg5)), (oA, .inl (oC, (1, .inr (.inl oF))))] sz) := by
  refine va_MetW (hh := [(0, 10, 13, 32), (0, 10, 17, 19)]) (cc := cL_equal) (maxL := 5) (ret := (some .int)) (by decide) rfl ?_
  intro p e s m args below meth c s₁ B hml hv
  obtain ⟨rfl, hsz, hP, hK, hD0, hth⟩ := hv
  have hx := B.exec
  have hb := B.bytes
  have hr := B.returns
  have hts : ∀ w ∈ BG, w.before _ s = true := fun w h => atoms_spec (ws := Cond.codeWith yL_equal cL_equal 5 (some .int) [(0, 10, 13, 32), (0, 10, 17, 19)] :: BG) B.pre w (List.mem_cons_of_mem _ h)
  have hown : s.vm.findClass RL = some m.cls := findClass_of_methodNamed B.named
  have hlocks := B.notSynchronized
  subst hsz
  have hD := hD0.self (sz := s.heap.size)
  generalize hAe : va_A [(x, .inr (12, xg)), (deA, .inl (deC, (6, .inr (.inr (.inr (.inr deF)))))), (de0, .inr (3, deg0)), (de1, .inr (3, deg1)), (de2, .inr (3, deg2)), (de3, .inr (3, deg3)), (de4, .inr (3, deg4)), (de5, .inr (3, deg5)), (oA, .inl (oC, (1, .inr (.inl oF))))] s.heap.size = A at hD hth ⊢
  have hA : ∀ q : Nat, s.heap.size ≤ q → A q := fun q h => by rw [← hAe]; exact Or.inr h
  have hS : va_S A s.heap s.heap [] := va_S.rf
  have hl := lv_entry ([.ref x, .int p0, .int p1, .ref oA]) (n := 5) (Nat.le_of_ble_eq_true rfl)
  rw [lg_entry_eq]
  generalize (lg_sl ([.ref x, .int p0, .int p1, .ref oA]) ++ List.replicate (5 - (lg_sl ([.ref x, .int p0, .int p1, .ref oA])).length) Slot.unset).toArray = ls at hl ⊢
  have hl : lv_has ls 5 [(0, .ref x), (1, .int p0), (2, .int p1), (3, .ref oA)] := hl
  have hT : c.exceptionTable.toList = tableOf [(0, 10, 13, 32), (0, 10, 17, 19)] := vx_table (x := yL_equal) B (atoms_spec (ws := Cond.codeWith yL_equal cL_equal 5 (some .int) [(0, 10, 13, 32), (0, 10, 17, 19)] :: BG) B.pre _ List.mem_cons_self)
  have hFc := va_free (wc := [(x, .inr (12, xg)), (deA, .inl (deC, (6, .inr (.inr (.inr (.inr deF)))))), (de0, .inr (3, deg0)), (de1, .inr (3, deg1)), (de2, .inr (3, deg2)), (de3, .inr (3, deg3)), (de4, .inr (3, deg4)), (de5, .inr (3, deg5))]) hD hS hA [0, 1, 2, 3, 4, 5, 6, 7] rfl
  have hPc := hP.sub (ws' := [(x, .inr (12, xg)), (deA, .inl (deC, (6, .inr (.inr (.inr (.inr deF)))))), (de0, .inr (3, deg0)), (de1, .inr (3, deg1)), (de2, .inr (3, deg2)), (de3, .inr (3, deg3)), (de4, .inr (3, deg4)), (de5, .inr (3, deg5))]) [0, 1, 2, 3, 4, 5, 6, 7] rfl
  have hDc := hD.sub (ws' := [(x, .inr (12, xg)), (deA, .inl (deC, (6, .inr (.inr (.inr (.inr deF)))))), (de0, .inr (3, deg0)), (de1, .inr (3, deg1)), (de2, .inr (3, deg2)), (de3, .inr (3, deg3)), (de4, .inr (3, deg4)), (de5, .inr (3, deg5))]) [0, 1, 2, 3, 4, 5, 6, 7] (by decide) rfl
  have hKc := hK.sub (tys' := [(deC, .object "ChipFlow$Design")]) [0] rfl
  have hK9 := hK.sub (tys' := [(oC, .long)]) [1] rfl
  refine lv_aload_n hx hb dL_equal_0 rfl (lv_at hl 3 rfl) ?_
  refine lv_iconst (v := 0) hx hb dL_equal_1 (by decide +kernel) ?_
  refine lv_aload_n hx hb dL_equal_2 rfl (lv_at hl 0 rfl) ?_
  refine lv_iload_n hx hb dL_equal_3 rfl (lv_at hl 1 rfl) ?_
  refine lv_iload_n hx hb dL_equal_4 rfl (lv_at hl 2 rfl) ?_
  refine vq_thr (vx_runV (As := [.int p0, .int p1]) (rest := [.int 0, .ref oA]) ⟨hx, hb, hml, hown, hts⟩ (ct_X12_equal l hlt dC dI s.heap.size p0 p1 x xg deA deC deF de0 de1 de2 de3 de4 de5 deg0 deg1 deg2 deg3 deg4 deg5 hdeg0 hdeF0 hdeg1 hdeF1 hdeg2 hdeF2 hdeg3 hdeF3 hdeg4 hdeF4 hdeg5 hdeF5 hxg) (cwV 2 hts (gi_V wd_1907 wd_1908 wd_1909 wd_327 wd_1910) rfl rfl rfl (by decide +kernel) ⟨(Nat.le_of_ble_eq_true rfl), (Nat.le_of_ble_eq_true rfl)⟩) ⟨fun a U g mk q => by obtain ⟨q0, q1, qP, qK, qD, qT⟩ := q; exact ⟨q0, q1, qP, va_K.moved (u := U) (U := U.calling g mk a) (Vm.Alike.refl U.vm) qK, qD, th.moved (u := U) (U := U.calling g mk a) (Vm.Alike.refl U.vm) qT⟩, va_recv hKc hPc (ci := 12) (q0 := 0) rfl rfl, fun U hU hW => ⟨rfl, by rw [hU], by rw [hU]; exact hPc, va_K.moved hW.alike hKc, hDc.weaken (fun _ _ _ _ => trivial), by rw [hU]; exact (hth.narrow hFc).moved hW.alike⟩⟩ rfl rfl hl.1 rfl (lv_room (Nat.le_of_ble_eq_true rfl)) dL_equal_5 ⟨(Nat.le_of_ble_eq_true rfl), (Nat.le_of_ble_eq_true rfl)⟩) (fun _ _ _ h => h) hS hFc (fun q _ h => hFc q h) (fun E ce q9 u t H1 locs ht hvm hp hB hz hk hS hce hcv hcl => ?_)
  subst hB
  obtain ⟨hP, hD⟩ := va_join (wr := [(oA, .inl (oC, (1, .inr (.inl oF))))]) (w1 := []) hP hD [0, 1, 2, 3, 4, 5, 6, 7] [8] rfl rfl (by decide) (by decide) hk hFc po_nilP po_nilD
  have hP : va_P (dC, dI) CL [(oA, .inl (oC, (1, .inr (.inl oF))))] H1 := hP
  have hD : va_D A [(oA, .inl (oC, (1, .inr (.inl oF))))] := hD
  refine vx_catch (own := RL) (name := "java/lang/IndexOutOfBoundsException") hown [] { startPc := 0, endPc := 10, handlerPc := 13, catchType := 32 } [{ startPc := 0, endPc := 10, handlerPc := 17, catchType := 19 }] (by rw [hT]; rfl) (fun _ h => nomatch h) (by decide) (by decide) (hts (.classLink RL 32 "java/lang/IndexOutOfBoundsException") wd_1804) (hth.cast (by decide)) hce hcv hcl ?_
  refine lv_astore (lv' := [(4, .ref q9), (0, .ref x), (1, .int p0), (2, .int p1), (3, .ref oA)]) hx hb dL_equal_13 hl (by decide) rfl (fun ls hl => ?_)
  refine lv_iconst (v := 1) hx hb dL_equal_15 (by decide +kernel) ?_
  refine W.widen (k := 1) (n := 6) (Nat.le_of_ble_eq_true rfl) (Nat.le_of_ble_eq_true rfl) ?_
  exact W.iret (v := 1) hx hb hr (fun t ht hW => ⟨⟨1, (), rfl, rfl, by rw [ht]; exact hP, va_K.moved hW.alike hK9, hD⟩, hS.F ht⟩) hS.2.2 dL_equal_16
set_option maxHeartbeats 4000000 in
set_option maxRecDepth 100000 in
theorem ct_L_never (l : Launch) (hlt : l.stackTraces = false) (dC : Nat → ClassId) (dI : Nat → Nat → Nat) (sz : Nat) (p0 p1 : Int32) (x : Nat) (xg : List Value) (deA : Nat) (deC : ClassId) (deF : Nat → Option Nat) (de0 de1 de2 de3 de4 de5 : Nat) (deg0 deg1 deg2 deg3 deg4 deg5 : List Value) (hdeg0 : fx deg0 16 [(0, .int 0)]) (hdeF0 : deF 0 = some de0) (hdeg1 : fx deg1 16 [(0, .int 0)]) (hdeF1 : deF 1 = some de1) (hdeg2 : fx deg2 16 [(0, .int 0)]) (hdeF2 : deF 2 = some de2) (hdeg3 : fx deg3 16 [(0, .int 0)]) (hdeF3 : deF 3 = some de3) (hdeg4 : fx deg4 16 [(0, .int 0)]) (hdeF4 : deF 4 = some de4) (hdeg5 : fx deg5 16 [(0, .int 0)]) (hdeF5 : deF 5 = some de5) (oA : Nat) (oC : ClassId) (oF : Nat → Int64) (hxg : fx xg 17 [(7, .ref deA)]) : Met l yL_never (Cond.codeWith yL_never cL_never 5 (some .int) [(0, 10, 13, 32)] :: BG) ({ frames := 9, cells := 1, slots := 6, locals := 200 }) (va_Pc [.ref x, .int p0, .int p1, .ref oA] (fun U => U.heap.size = sz ∧ va_P (dC, dI) CL [(x, .inr (12, xg)), (deA, .inl (deC, (6, .inr (.inr (.inr (.inr deF)))))), (de0, .inr (3, deg0)), (de1, .inr (3, deg1)), (de2, .inr (3, deg2)), (de3, .inr (3, deg3)), (de4, .inr (3, deg4)), (de5, .inr (3, deg5)), (oA, .inl (oC, (1, .inr (.inl oF))))] U.heap ∧ va_K (dC, dI) CL [(deC, .object "ChipFlow$Design"), (oC, .long)] U ∧ va_D (fun _ => True) [(x, .inr (12, xg)), (deA, .inl (deC, (6, .inr (.inr (.inr (.inr deF)))))), (de0, .inr (3, deg0)), (de1, .inr (3, deg1)), (de2, .inr (3, deg2)), (de3, .inr (3, deg3)), (de4, .inr (3, deg4)), (de5, .inr (3, deg5)), (oA, .inl (oC, (1, .inr (.inl oF))))] ∧ th (va_A [(x, .inr (12, xg)), (deA, .inl (deC, (6, .inr (.inr (.inr (.inr deF)))))), (de0, .inr (3, deg0)), (de1, .inr (3, deg1)), (de2, .inr (3, deg2)), (de3, .inr (3, deg3)), (de4, .inr (3, deg4)), (de5, .inr (3, deg5)), (oA, .inl (oC, (1, .inr (.inl oF))))] sz) U U.heap)) (va_Qi (fun (r : Int32) (_ : Unit) => r = 1) (fun _ t => va_P (dC, dI) CL [(oA, .inl (oC, (1, .inr (.inl oF))))] t.heap ∧ va_K (dC, dI) CL [(oC, .long)] t ∧ va_D (va_A [(x, .inr (12, xg)), (deA, .inl (deC, (6, .inr (.inr (.inr (.inr deF)))))), (de0, .inr (3, deg0)), (de1, .inr (3, deg1)), (de2, .inr (3, deg2)), (de3, .inr (3, deg3)), (de4, .inr (3, deg4)), (de5, .inr (3, deg5)), (oA, .inl (oC, (1, .inr (.inl oF))))] sz) [(oA, .inl (oC, (1, .inr (.inl oF))))]) (va_A [(x, .inr (12, xg)), (deA, .inl (deC, (6, .inr (.inr (.inr (.inr deF)))))), (de0, .inr (3, deg0)), (de1, .inr (3, deg1)), (de2, .inr (3, deg2)), (de3, .inr (3, deg3)), (de4, .inr (3, deg4)), (de5, .inr (3, deg5)), (oA, .inl (oC, (1, .inr (.inl oF))))] sz)) 1 6 (va_A [(x, .inr (12, xg)), (deA, .inl (deC, (6, .inr (.inr (.inr (.inr deF)))))), (de0, .inr (3, deg0)), (de1, .inr (3, deg1)), (de2, .inr (3, deg2)), (de3, .inr (3, deg3)), (de4, .inr (3, deg4)), (de5, .inr (3, deg5)), (oA, .inl (oC, (1, .inr (.inl oF))))] sz) := by
  refine va_MetW (hh := [(0, 10, 13, 32)]) (cc := cL_never) (maxL := 5) (ret := (some .int)) (by decide) rfl ?_
  intro p e s m args below meth c s₁ B hml hv
  obtain ⟨rfl, hsz, hP, hK, hD0, hth⟩ := hv
  have hx := B.exec
  have hb := B.bytes
  have hr := B.returns
  have hts : ∀ w ∈ BG, w.before _ s = true := fun w h => atoms_spec (ws := Cond.codeWith yL_never cL_never 5 (some .int) [(0, 10, 13, 32)] :: BG) B.pre w (List.mem_cons_of_mem _ h)
  have hown : s.vm.findClass RL = some m.cls := findClass_of_methodNamed B.named
  have hlocks := B.notSynchronized
  subst hsz
  have hD := hD0.self (sz := s.heap.size)
  generalize hAe : va_A [(x, .inr (12, xg)), (deA, .inl (deC, (6, .inr (.inr (.inr (.inr deF)))))), (de0, .inr (3, deg0)), (de1, .inr (3, deg1)), (de2, .inr (3, deg2)), (de3, .inr (3, deg3)), (de4, .inr (3, deg4)), (de5, .inr (3, deg5)), (oA, .inl (oC, (1, .inr (.inl oF))))] s.heap.size = A at hD hth ⊢
  have hA : ∀ q : Nat, s.heap.size ≤ q → A q := fun q h => by rw [← hAe]; exact Or.inr h
  have hS : va_S A s.heap s.heap [] := va_S.rf
  have hl := lv_entry ([.ref x, .int p0, .int p1, .ref oA]) (n := 5) (Nat.le_of_ble_eq_true rfl)
  rw [lg_entry_eq]
  generalize (lg_sl ([.ref x, .int p0, .int p1, .ref oA]) ++ List.replicate (5 - (lg_sl ([.ref x, .int p0, .int p1, .ref oA])).length) Slot.unset).toArray = ls at hl ⊢
  have hl : lv_has ls 5 [(0, .ref x), (1, .int p0), (2, .int p1), (3, .ref oA)] := hl
  have hT : c.exceptionTable.toList = tableOf [(0, 10, 13, 32)] := vx_table (x := yL_never) B (atoms_spec (ws := Cond.codeWith yL_never cL_never 5 (some .int) [(0, 10, 13, 32)] :: BG) B.pre _ List.mem_cons_self)
  have hFc := va_free (wc := [(x, .inr (12, xg)), (deA, .inl (deC, (6, .inr (.inr (.inr (.inr deF)))))), (de0, .inr (3, deg0)), (de1, .inr (3, deg1)), (de2, .inr (3, deg2)), (de3, .inr (3, deg3)), (de4, .inr (3, deg4)), (de5, .inr (3, deg5))]) hD hS hA [0, 1, 2, 3, 4, 5, 6, 7] rfl
  have hPc := hP.sub (ws' := [(x, .inr (12, xg)), (deA, .inl (deC, (6, .inr (.inr (.inr (.inr deF)))))), (de0, .inr (3, deg0)), (de1, .inr (3, deg1)), (de2, .inr (3, deg2)), (de3, .inr (3, deg3)), (de4, .inr (3, deg4)), (de5, .inr (3, deg5))]) [0, 1, 2, 3, 4, 5, 6, 7] rfl
  have hDc := hD.sub (ws' := [(x, .inr (12, xg)), (deA, .inl (deC, (6, .inr (.inr (.inr (.inr deF)))))), (de0, .inr (3, deg0)), (de1, .inr (3, deg1)), (de2, .inr (3, deg2)), (de3, .inr (3, deg3)), (de4, .inr (3, deg4)), (de5, .inr (3, deg5))]) [0, 1, 2, 3, 4, 5, 6, 7] (by decide) rfl
  have hKc := hK.sub (tys' := [(deC, .object "ChipFlow$Design")]) [0] rfl
  have hK9 := hK.sub (tys' := [(oC, .long)]) [1] rfl
  refine lv_aload_n hx hb dL_never_0 rfl (lv_at hl 3 rfl) ?_
  refine lv_iconst (v := 0) hx hb dL_never_1 (by decide +kernel) ?_
  refine lv_aload_n hx hb dL_never_2 rfl (lv_at hl 0 rfl) ?_
  refine lv_iload_n hx hb dL_never_3 rfl (lv_at hl 1 rfl) ?_
  refine lv_iload_n hx hb dL_never_4 rfl (lv_at hl 2 rfl) ?_
  refine vq_thr (vx_runV (As := [.int p0, .int p1]) (rest := [.int 0, .ref oA]) ⟨hx, hb, hml, hown, hts⟩ (ct_X12_never l hlt dC dI s.heap.size p0 p1 x xg deA deC deF de0 de1 de2 de3 de4 de5 deg0 deg1 deg2 deg3 deg4 deg5 hdeg0 hdeF0 hdeg1 hdeF1 hdeg2 hdeF2 hdeg3 hdeF3 hdeg4 hdeF4 hdeg5 hdeF5 hxg) (cwV 2 hts (gi_V wd_1923 wd_1924 wd_1925 wd_327 wd_1926) rfl rfl rfl (by decide +kernel) ⟨(Nat.le_of_ble_eq_true rfl), (Nat.le_of_ble_eq_true rfl)⟩) ⟨fun a U g mk q => by obtain ⟨q0, q1, qP, qK, qD, qT⟩ := q; exact ⟨q0, q1, qP, va_K.moved (u := U) (U := U.calling g mk a) (Vm.Alike.refl U.vm) qK, qD, th.moved (u := U) (U := U.calling g mk a) (Vm.Alike.refl U.vm) qT⟩, va_recv hKc hPc (ci := 12) (q0 := 0) rfl rfl, fun U hU hW => ⟨rfl, by rw [hU], by rw [hU]; exact hPc, va_K.moved hW.alike hKc, hDc.weaken (fun _ _ _ _ => trivial), by rw [hU]; exact (hth.narrow hFc).moved hW.alike⟩⟩ rfl rfl hl.1 rfl (lv_room (Nat.le_of_ble_eq_true rfl)) dL_never_5 ⟨(Nat.le_of_ble_eq_true rfl), (Nat.le_of_ble_eq_true rfl)⟩) (fun _ _ _ h => h) hS hFc (fun q _ h => hFc q h) (fun E ce q9 u t H1 locs ht hvm hp hB hz hk hS hce hcv hcl => ?_)
  subst hB
  obtain ⟨hP, hD⟩ := va_join (wr := [(oA, .inl (oC, (1, .inr (.inl oF))))]) (w1 := []) hP hD [0, 1, 2, 3, 4, 5, 6, 7] [8] rfl rfl (by decide) (by decide) hk hFc po_nilP po_nilD
  have hP : va_P (dC, dI) CL [(oA, .inl (oC, (1, .inr (.inl oF))))] H1 := hP
  have hD : va_D A [(oA, .inl (oC, (1, .inr (.inl oF))))] := hD
  refine vx_catch (own := RL) (name := "java/lang/IndexOutOfBoundsException") hown [] { startPc := 0, endPc := 10, handlerPc := 13, catchType := 32 } [] (by rw [hT]; rfl) (fun _ h => nomatch h) (by decide) (by decide) (hts (.classLink RL 32 "java/lang/IndexOutOfBoundsException") wd_1804) (hth.cast (by decide)) hce hcv hcl ?_
  refine lv_astore (lv' := [(4, .ref q9), (0, .ref x), (1, .int p0), (2, .int p1), (3, .ref oA)]) hx hb dL_never_13 hl (by decide) rfl (fun ls hl => ?_)
  refine lv_iconst (v := 1) hx hb dL_never_15 (by decide +kernel) ?_
  refine W.widen (k := 1) (n := 6) (Nat.le_of_ble_eq_true rfl) (Nat.le_of_ble_eq_true rfl) ?_
  exact W.iret (v := 1) hx hb hr (fun t ht hW => ⟨⟨1, (), rfl, rfl, by rw [ht]; exact hP, va_K.moved hW.alike hK9, hD⟩, hS.F ht⟩) hS.2.2 dL_never_16
set_option maxHeartbeats 4000000 in
set_option maxRecDepth 100000 in
theorem ct_L_map (l : Launch) (hlt : l.stackTraces = false) (dC : Nat → ClassId) (dI : Nat → Nat → Nat) (sz : Nat) (p0 p1 : Int32) (x : Nat) (xg : List Value) (deA : Nat) (deC : ClassId) (deF : Nat → Option Nat) (de0 de1 de2 de3 de4 de5 : Nat) (deg0 deg1 deg2 deg3 deg4 deg5 : List Value) (hdeg0 : fx deg0 16 [(0, .int 0)]) (hdeF0 : deF 0 = some de0) (hdeg1 : fx deg1 16 [(0, .int 0)]) (hdeF1 : deF 1 = some de1) (hdeg2 : fx deg2 16 [(0, .int 0)]) (hdeF2 : deF 2 = some de2) (hdeg3 : fx deg3 16 [(0, .int 0)]) (hdeF3 : deF 3 = some de3) (hdeg4 : fx deg4 16 [(0, .int 0)]) (hdeF4 : deF 4 = some de4) (hdeg5 : fx deg5 16 [(0, .int 0)]) (hdeF5 : deF 5 = some de5) (oA : Nat) (oC : ClassId) (oF : Nat → Int64) (hxg : fx xg 17 [(7, .ref deA)]) : Met l yL_map (Cond.codeWith yL_map cL_map 5 (some .int) [(0, 10, 13, 32), (0, 10, 17, 13)] :: BG) ({ frames := 9, cells := 1, slots := 6, locals := 200 }) (va_Pc [.ref x, .int p0, .int p1, .ref oA] (fun U => U.heap.size = sz ∧ va_P (dC, dI) CL [(x, .inr (12, xg)), (deA, .inl (deC, (6, .inr (.inr (.inr (.inr deF)))))), (de0, .inr (3, deg0)), (de1, .inr (3, deg1)), (de2, .inr (3, deg2)), (de3, .inr (3, deg3)), (de4, .inr (3, deg4)), (de5, .inr (3, deg5)), (oA, .inl (oC, (1, .inr (.inl oF))))] U.heap ∧ va_K (dC, dI) CL [(deC, .object "ChipFlow$Design"), (oC, .long)] U ∧ va_D (fun _ => True) [(x, .inr (12, xg)), (deA, .inl (deC, (6, .inr (.inr (.inr (.inr deF)))))), (de0, .inr (3, deg0)), (de1, .inr (3, deg1)), (de2, .inr (3, deg2)), (de3, .inr (3, deg3)), (de4, .inr (3, deg4)), (de5, .inr (3, deg5)), (oA, .inl (oC, (1, .inr (.inl oF))))] ∧ th (va_A [(x, .inr (12, xg)), (deA, .inl (deC, (6, .inr (.inr (.inr (.inr deF)))))), (de0, .inr (3, deg0)), (de1, .inr (3, deg1)), (de2, .inr (3, deg2)), (de3, .inr (3, deg3)), (de4, .inr (3, deg4)), (de5, .inr (3, deg5)), (oA, .inl (oC, (1, .inr (.inl oF))))] sz) U U.heap)) (va_Qi (fun (r : Int32) (_ : Unit) => r = 1) (fun _ t => va_P (dC, dI) CL [(oA, .inl (oC, (1, .inr (.inl oF))))] t.heap ∧ va_K (dC, dI) CL [(oC, .long)] t ∧ va_D (va_A [(x, .inr (12, xg)), (deA, .inl (deC, (6, .inr (.inr (.inr (.inr deF)))))), (de0, .inr (3, deg0)), (de1, .inr (3, deg1)), (de2, .inr (3, deg2)), (de3, .inr (3, deg3)), (de4, .inr (3, deg4)), (de5, .inr (3, deg5)), (oA, .inl (oC, (1, .inr (.inl oF))))] sz) [(oA, .inl (oC, (1, .inr (.inl oF))))]) (va_A [(x, .inr (12, xg)), (deA, .inl (deC, (6, .inr (.inr (.inr (.inr deF)))))), (de0, .inr (3, deg0)), (de1, .inr (3, deg1)), (de2, .inr (3, deg2)), (de3, .inr (3, deg3)), (de4, .inr (3, deg4)), (de5, .inr (3, deg5)), (oA, .inl (oC, (1, .inr (.inl oF))))] sz)) 1 6 (va_A [(x, .inr (12, xg)), (deA, .inl (deC, (6, .inr (.inr (.inr (.inr deF)))))), (de0, .inr (3, deg0)), (de1, .inr (3, deg1)), (de2, .inr (3, deg2)), (de3, .inr (3, deg3)), (de4, .inr (3, deg4)), (de5, .inr (3, deg5)), (oA, .inl (oC, (1, .inr (.inl oF))))] sz) := by
  refine va_MetW (hh := [(0, 10, 13, 32), (0, 10, 17, 13)]) (cc := cL_map) (maxL := 5) (ret := (some .int)) (by decide) rfl ?_
  intro p e s m args below meth c s₁ B hml hv
  obtain ⟨rfl, hsz, hP, hK, hD0, hth⟩ := hv
  have hx := B.exec
  have hb := B.bytes
  have hr := B.returns
  have hts : ∀ w ∈ BG, w.before _ s = true := fun w h => atoms_spec (ws := Cond.codeWith yL_map cL_map 5 (some .int) [(0, 10, 13, 32), (0, 10, 17, 13)] :: BG) B.pre w (List.mem_cons_of_mem _ h)
  have hown : s.vm.findClass RL = some m.cls := findClass_of_methodNamed B.named
  have hlocks := B.notSynchronized
  subst hsz
  have hD := hD0.self (sz := s.heap.size)
  generalize hAe : va_A [(x, .inr (12, xg)), (deA, .inl (deC, (6, .inr (.inr (.inr (.inr deF)))))), (de0, .inr (3, deg0)), (de1, .inr (3, deg1)), (de2, .inr (3, deg2)), (de3, .inr (3, deg3)), (de4, .inr (3, deg4)), (de5, .inr (3, deg5)), (oA, .inl (oC, (1, .inr (.inl oF))))] s.heap.size = A at hD hth ⊢
  have hA : ∀ q : Nat, s.heap.size ≤ q → A q := fun q h => by rw [← hAe]; exact Or.inr h
  have hS : va_S A s.heap s.heap [] := va_S.rf
  have hl := lv_entry ([.ref x, .int p0, .int p1, .ref oA]) (n := 5) (Nat.le_of_ble_eq_true rfl)
  rw [lg_entry_eq]
  generalize (lg_sl ([.ref x, .int p0, .int p1, .ref oA]) ++ List.replicate (5 - (lg_sl ([.ref x, .int p0, .int p1, .ref oA])).length) Slot.unset).toArray = ls at hl ⊢
  have hl : lv_has ls 5 [(0, .ref x), (1, .int p0), (2, .int p1), (3, .ref oA)] := hl
  have hT : c.exceptionTable.toList = tableOf [(0, 10, 13, 32), (0, 10, 17, 13)] := vx_table (x := yL_map) B (atoms_spec (ws := Cond.codeWith yL_map cL_map 5 (some .int) [(0, 10, 13, 32), (0, 10, 17, 13)] :: BG) B.pre _ List.mem_cons_self)
  have hFc := va_free (wc := [(x, .inr (12, xg)), (deA, .inl (deC, (6, .inr (.inr (.inr (.inr deF)))))), (de0, .inr (3, deg0)), (de1, .inr (3, deg1)), (de2, .inr (3, deg2)), (de3, .inr (3, deg3)), (de4, .inr (3, deg4)), (de5, .inr (3, deg5))]) hD hS hA [0, 1, 2, 3, 4, 5, 6, 7] rfl
  have hPc := hP.sub (ws' := [(x, .inr (12, xg)), (deA, .inl (deC, (6, .inr (.inr (.inr (.inr deF)))))), (de0, .inr (3, deg0)), (de1, .inr (3, deg1)), (de2, .inr (3, deg2)), (de3, .inr (3, deg3)), (de4, .inr (3, deg4)), (de5, .inr (3, deg5))]) [0, 1, 2, 3, 4, 5, 6, 7] rfl
  have hDc := hD.sub (ws' := [(x, .inr (12, xg)), (deA, .inl (deC, (6, .inr (.inr (.inr (.inr deF)))))), (de0, .inr (3, deg0)), (de1, .inr (3, deg1)), (de2, .inr (3, deg2)), (de3, .inr (3, deg3)), (de4, .inr (3, deg4)), (de5, .inr (3, deg5))]) [0, 1, 2, 3, 4, 5, 6, 7] (by decide) rfl
  have hKc := hK.sub (tys' := [(deC, .object "ChipFlow$Design")]) [0] rfl
  have hK9 := hK.sub (tys' := [(oC, .long)]) [1] rfl
  refine lv_aload_n hx hb dL_map_0 rfl (lv_at hl 3 rfl) ?_
  refine lv_iconst (v := 0) hx hb dL_map_1 (by decide +kernel) ?_
  refine lv_aload_n hx hb dL_map_2 rfl (lv_at hl 0 rfl) ?_
  refine lv_iload_n hx hb dL_map_3 rfl (lv_at hl 1 rfl) ?_
  refine lv_iload_n hx hb dL_map_4 rfl (lv_at hl 2 rfl) ?_
  refine vq_thr (vx_runV (As := [.int p0, .int p1]) (rest := [.int 0, .ref oA]) ⟨hx, hb, hml, hown, hts⟩ (ct_X12_map l hlt dC dI s.heap.size p0 p1 x xg deA deC deF de0 de1 de2 de3 de4 de5 deg0 deg1 deg2 deg3 deg4 deg5 hdeg0 hdeF0 hdeg1 hdeF1 hdeg2 hdeF2 hdeg3 hdeF3 hdeg4 hdeF4 hdeg5 hdeF5 hxg) (cwV 2 hts (gi_V wd_1937 wd_1938 wd_1939 wd_327 wd_1940) rfl rfl rfl (by decide +kernel) ⟨(Nat.le_of_ble_eq_true rfl), (Nat.le_of_ble_eq_true rfl)⟩) ⟨fun a U g mk q => by obtain ⟨q0, q1, qP, qK, qD, qT⟩ := q; exact ⟨q0, q1, qP, va_K.moved (u := U) (U := U.calling g mk a) (Vm.Alike.refl U.vm) qK, qD, th.moved (u := U) (U := U.calling g mk a) (Vm.Alike.refl U.vm) qT⟩, va_recv hKc hPc (ci := 12) (q0 := 0) rfl rfl, fun U hU hW => ⟨rfl, by rw [hU], by rw [hU]; exact hPc, va_K.moved hW.alike hKc, hDc.weaken (fun _ _ _ _ => trivial), by rw [hU]; exact (hth.narrow hFc).moved hW.alike⟩⟩ rfl rfl hl.1 rfl (lv_room (Nat.le_of_ble_eq_true rfl)) dL_map_5 ⟨(Nat.le_of_ble_eq_true rfl), (Nat.le_of_ble_eq_true rfl)⟩) (fun _ _ _ h => h) hS hFc (fun q _ h => hFc q h) (fun E ce q9 u t H1 locs ht hvm hp hB hz hk hS hce hcv hcl => ?_)
  subst hB
  obtain ⟨hP, hD⟩ := va_join (wr := [(oA, .inl (oC, (1, .inr (.inl oF))))]) (w1 := []) hP hD [0, 1, 2, 3, 4, 5, 6, 7] [8] rfl rfl (by decide) (by decide) hk hFc po_nilP po_nilD
  have hP : va_P (dC, dI) CL [(oA, .inl (oC, (1, .inr (.inl oF))))] H1 := hP
  have hD : va_D A [(oA, .inl (oC, (1, .inr (.inl oF))))] := hD
  refine vx_catch (own := RL) (name := "java/lang/IndexOutOfBoundsException") hown [] { startPc := 0, endPc := 10, handlerPc := 13, catchType := 32 } [{ startPc := 0, endPc := 10, handlerPc := 17, catchType := 13 }] (by rw [hT]; rfl) (fun _ h => nomatch h) (by decide) (by decide) (hts (.classLink RL 32 "java/lang/IndexOutOfBoundsException") wd_1804) (hth.cast (by decide)) hce hcv hcl ?_
  refine lv_astore (lv' := [(4, .ref q9), (0, .ref x), (1, .int p0), (2, .int p1), (3, .ref oA)]) hx hb dL_map_13 hl (by decide) rfl (fun ls hl => ?_)
  refine lv_iconst (v := 1) hx hb dL_map_15 (by decide +kernel) ?_
  refine W.widen (k := 1) (n := 6) (Nat.le_of_ble_eq_true rfl) (Nat.le_of_ble_eq_true rfl) ?_
  exact W.iret (v := 1) hx hb hr (fun t ht hW => ⟨⟨1, (), rfl, rfl, by rw [ht]; exact hP, va_K.moved hW.alike hK9, hD⟩, hS.F ht⟩) hS.2.2 dL_map_16
set_option maxHeartbeats 4000000 in
set_option maxRecDepth 100000 in
theorem ct_L_chip (l : Launch) (hlt : l.stackTraces = false) (dC : Nat → ClassId) (dI : Nat → Nat → Nat) (sz : Nat) (p0 p1 : Int32) (x : Nat) (xg : List Value) (chA : Nat) (chC : ClassId) (chF : Nat → Option Nat) (ch0 ch1 ch2 ch3 : Nat) (chg0 chg1 chg2 chg3 : List Value) (hchg0 : fx chg0 20 [(0, .int 0)]) (hchF0 : chF 0 = some ch0) (hchg1 : fx chg1 20 [(0, .int 0)]) (hchF1 : chF 1 = some ch1) (hchg2 : fx chg2 20 [(0, .int 0)]) (hchF2 : chF 2 = some ch2) (hchg3 : fx chg3 20 [(0, .int 0)]) (hchF3 : chF 3 = some ch3) (oA : Nat) (oC : ClassId) (oF : Nat → Int64) (hxg : fx xg 17 [(9, .ref chA)]) : Met l yL_chip (Cond.codeWith yL_chip cL_chip 5 (some .int) [(0, 10, 13, 32), (0, 10, 17, 19)] :: BG) ({ frames := 9, cells := 1, slots := 6, locals := 200 }) (va_Pc [.ref x, .int p0, .int p1, .ref oA] (fun U => U.heap.size = sz ∧ va_P (dC, dI) CL [(x, .inr (12, xg)), (chA, .inl (chC, (4, .inr (.inr (.inr (.inr chF)))))), (ch0, .inr (2, chg0)), (ch1, .inr (2, chg1)), (ch2, .inr (2, chg2)), (ch3, .inr (2, chg3)), (oA, .inl (oC, (1, .inr (.inl oF))))] U.heap ∧ va_K (dC, dI) CL [(chC, .object "ChipFlow$Chip"), (oC, .long)] U ∧ va_D (fun _ => True) [(x, .inr (12, xg)), (chA, .inl (chC, (4, .inr (.inr (.inr (.inr chF)))))), (ch0, .inr (2, chg0)), (ch1, .inr (2, chg1)), (ch2, .inr (2, chg2)), (ch3, .inr (2, chg3)), (oA, .inl (oC, (1, .inr (.inl oF))))] ∧ th (va_A [(x, .inr (12, xg)), (chA, .inl (chC, (4, .inr (.inr (.inr (.inr chF)))))), (ch0, .inr (2, chg0)), (ch1, .inr (2, chg1)), (ch2, .inr (2, chg2)), (ch3, .inr (2, chg3)), (oA, .inl (oC, (1, .inr (.inl oF))))] sz) U U.heap)) (va_Qi (fun (r : Int32) (_ : Unit) => r = 1) (fun _ t => va_P (dC, dI) CL [(oA, .inl (oC, (1, .inr (.inl oF))))] t.heap ∧ va_K (dC, dI) CL [(oC, .long)] t ∧ va_D (va_A [(x, .inr (12, xg)), (chA, .inl (chC, (4, .inr (.inr (.inr (.inr chF)))))), (ch0, .inr (2, chg0)), (ch1, .inr (2, chg1)), (ch2, .inr (2, chg2)), (ch3, .inr (2, chg3)), (oA, .inl (oC, (1, .inr (.inl oF))))] sz) [(oA, .inl (oC, (1, .inr (.inl oF))))]) (va_A [(x, .inr (12, xg)), (chA, .inl (chC, (4, .inr (.inr (.inr (.inr chF)))))), (ch0, .inr (2, chg0)), (ch1, .inr (2, chg1)), (ch2, .inr (2, chg2)), (ch3, .inr (2, chg3)), (oA, .inl (oC, (1, .inr (.inl oF))))] sz)) 1 6 (va_A [(x, .inr (12, xg)), (chA, .inl (chC, (4, .inr (.inr (.inr (.inr chF)))))), (ch0, .inr (2, chg0)), (ch1, .inr (2, chg1)), (ch2, .inr (2, chg2)), (ch3, .inr (2, chg3)), (oA, .inl (oC, (1, .inr (.inl oF))))] sz) := by
  refine va_MetW (hh := [(0, 10, 13, 32), (0, 10, 17, 19)]) (cc := cL_chip) (maxL := 5) (ret := (some .int)) (by decide) rfl ?_
  intro p e s m args below meth c s₁ B hml hv
  obtain ⟨rfl, hsz, hP, hK, hD0, hth⟩ := hv
  have hx := B.exec
  have hb := B.bytes
  have hr := B.returns
  have hts : ∀ w ∈ BG, w.before _ s = true := fun w h => atoms_spec (ws := Cond.codeWith yL_chip cL_chip 5 (some .int) [(0, 10, 13, 32), (0, 10, 17, 19)] :: BG) B.pre w (List.mem_cons_of_mem _ h)
  have hown : s.vm.findClass RL = some m.cls := findClass_of_methodNamed B.named
  have hlocks := B.notSynchronized
  subst hsz
  have hD := hD0.self (sz := s.heap.size)
  generalize hAe : va_A [(x, .inr (12, xg)), (chA, .inl (chC, (4, .inr (.inr (.inr (.inr chF)))))), (ch0, .inr (2, chg0)), (ch1, .inr (2, chg1)), (ch2, .inr (2, chg2)), (ch3, .inr (2, chg3)), (oA, .inl (oC, (1, .inr (.inl oF))))] s.heap.size = A at hD hth ⊢
  have hA : ∀ q : Nat, s.heap.size ≤ q → A q := fun q h => by rw [← hAe]; exact Or.inr h
  have hS : va_S A s.heap s.heap [] := va_S.rf
  have hl := lv_entry ([.ref x, .int p0, .int p1, .ref oA]) (n := 5) (Nat.le_of_ble_eq_true rfl)
  rw [lg_entry_eq]
  generalize (lg_sl ([.ref x, .int p0, .int p1, .ref oA]) ++ List.replicate (5 - (lg_sl ([.ref x, .int p0, .int p1, .ref oA])).length) Slot.unset).toArray = ls at hl ⊢
  have hl : lv_has ls 5 [(0, .ref x), (1, .int p0), (2, .int p1), (3, .ref oA)] := hl
  have hT : c.exceptionTable.toList = tableOf [(0, 10, 13, 32), (0, 10, 17, 19)] := vx_table (x := yL_chip) B (atoms_spec (ws := Cond.codeWith yL_chip cL_chip 5 (some .int) [(0, 10, 13, 32), (0, 10, 17, 19)] :: BG) B.pre _ List.mem_cons_self)
  have hFc := va_free (wc := [(x, .inr (12, xg)), (chA, .inl (chC, (4, .inr (.inr (.inr (.inr chF)))))), (ch0, .inr (2, chg0)), (ch1, .inr (2, chg1)), (ch2, .inr (2, chg2)), (ch3, .inr (2, chg3))]) hD hS hA [0, 1, 2, 3, 4, 5] rfl
  have hPc := hP.sub (ws' := [(x, .inr (12, xg)), (chA, .inl (chC, (4, .inr (.inr (.inr (.inr chF)))))), (ch0, .inr (2, chg0)), (ch1, .inr (2, chg1)), (ch2, .inr (2, chg2)), (ch3, .inr (2, chg3))]) [0, 1, 2, 3, 4, 5] rfl
  have hDc := hD.sub (ws' := [(x, .inr (12, xg)), (chA, .inl (chC, (4, .inr (.inr (.inr (.inr chF)))))), (ch0, .inr (2, chg0)), (ch1, .inr (2, chg1)), (ch2, .inr (2, chg2)), (ch3, .inr (2, chg3))]) [0, 1, 2, 3, 4, 5] (by decide) rfl
  have hKc := hK.sub (tys' := [(chC, .object "ChipFlow$Chip")]) [0] rfl
  have hK9 := hK.sub (tys' := [(oC, .long)]) [1] rfl
  refine lv_aload_n hx hb dL_chip_0 rfl (lv_at hl 3 rfl) ?_
  refine lv_iconst (v := 0) hx hb dL_chip_1 (by decide +kernel) ?_
  refine lv_aload_n hx hb dL_chip_2 rfl (lv_at hl 0 rfl) ?_
  refine lv_iload_n hx hb dL_chip_3 rfl (lv_at hl 1 rfl) ?_
  refine lv_iload_n hx hb dL_chip_4 rfl (lv_at hl 2 rfl) ?_
  refine vq_thr (vx_runV (As := [.int p0, .int p1]) (rest := [.int 0, .ref oA]) ⟨hx, hb, hml, hown, hts⟩ (ct_X12_chip l hlt dC dI s.heap.size p0 p1 x xg chA chC chF ch0 ch1 ch2 ch3 chg0 chg1 chg2 chg3 hchg0 hchF0 hchg1 hchF1 hchg2 hchF2 hchg3 hchF3 hxg) (cwV 2 hts (gi_V wd_2128 wd_2129 wd_2130 wd_327 wd_2131) rfl rfl rfl (by decide +kernel) ⟨(Nat.le_of_ble_eq_true rfl), (Nat.le_of_ble_eq_true rfl)⟩) ⟨fun a U g mk q => by obtain ⟨q0, q1, qP, qK, qD, qT⟩ := q; exact ⟨q0, q1, qP, va_K.moved (u := U) (U := U.calling g mk a) (Vm.Alike.refl U.vm) qK, qD, th.moved (u := U) (U := U.calling g mk a) (Vm.Alike.refl U.vm) qT⟩, va_recv hKc hPc (ci := 12) (q0 := 0) rfl rfl, fun U hU hW => ⟨rfl, by rw [hU], by rw [hU]; exact hPc, va_K.moved hW.alike hKc, hDc.weaken (fun _ _ _ _ => trivial), by rw [hU]; exact (hth.narrow hFc).moved hW.alike⟩⟩ rfl rfl hl.1 rfl (lv_room (Nat.le_of_ble_eq_true rfl)) dL_chip_5 ⟨(Nat.le_of_ble_eq_true rfl), (Nat.le_of_ble_eq_true rfl)⟩) (fun _ _ _ h => h) hS hFc (fun q _ h => hFc q h) (fun E ce q9 u t H1 locs ht hvm hp hB hz hk hS hce hcv hcl => ?_)
  subst hB
  obtain ⟨hP, hD⟩ := va_join (wr := [(oA, .inl (oC, (1, .inr (.inl oF))))]) (w1 := []) hP hD [0, 1, 2, 3, 4, 5] [6] rfl rfl (by decide) (by decide) hk hFc po_nilP po_nilD
  have hP : va_P (dC, dI) CL [(oA, .inl (oC, (1, .inr (.inl oF))))] H1 := hP
  have hD : va_D A [(oA, .inl (oC, (1, .inr (.inl oF))))] := hD
  refine vx_catch (own := RL) (name := "java/lang/IndexOutOfBoundsException") hown [] { startPc := 0, endPc := 10, handlerPc := 13, catchType := 32 } [{ startPc := 0, endPc := 10, handlerPc := 17, catchType := 19 }] (by rw [hT]; rfl) (fun _ h => nomatch h) (by decide) (by decide) (hts (.classLink RL 32 "java/lang/IndexOutOfBoundsException") wd_1804) (hth.cast (by decide)) hce hcv hcl ?_
  refine lv_astore (lv' := [(4, .ref q9), (0, .ref x), (1, .int p0), (2, .int p1), (3, .ref oA)]) hx hb dL_chip_13 hl (by decide) rfl (fun ls hl => ?_)
  refine lv_iconst (v := 1) hx hb dL_chip_15 (by decide +kernel) ?_
  refine W.widen (k := 1) (n := 6) (Nat.le_of_ble_eq_true rfl) (Nat.le_of_ble_eq_true rfl) ?_
  exact W.iret (v := 1) hx hb hr (fun t ht hW => ⟨⟨1, (), rfl, rfl, by rw [ht]; exact hP, va_K.moved hW.alike hK9, hD⟩, hS.F ht⟩) hS.2.2 dL_chip_16
set_option maxHeartbeats 4000000 in
set_option maxRecDepth 100000 in
theorem ct_L_gate (l : Launch) (hlt : l.stackTraces = false) (dC : Nat → ClassId) (dI : Nat → Nat → Nat) (sz : Nat) (p0 p1 p2 : Int32) (x : Nat) (xg : List Value) (chA : Nat) (chC : ClassId) (chF : Nat → Option Nat) (ch0 ch1 ch2 ch3 : Nat) (chg0 chg1 chg2 chg3 : List Value) (hchg0 : fx chg0 20 [(0, .int 0)]) (hchF0 : chF 0 = some ch0) (hchg1 : fx chg1 20 [(0, .int 0)]) (hchF1 : chF 1 = some ch1) (hchg2 : fx chg2 20 [(0, .int 0)]) (hchF2 : chF 2 = some ch2) (hchg3 : fx chg3 20 [(0, .int 0)]) (hchF3 : chF 3 = some ch3) (oA : Nat) (oC : ClassId) (oF : Nat → Int64) (hxg : fx xg 17 [(9, .ref chA)]) : Met l yL_gate (Cond.codeWith yL_gate cL_gate 6 (some .int) [(0, 12, 15, 32), (0, 12, 19, 19)] :: BG) ({ frames := 9, cells := 1, slots := 6, locals := 200 }) (va_Pc [.ref x, .int p0, .int p1, .int p2, .ref oA] (fun U => U.heap.size = sz ∧ va_P (dC, dI) CL [(x, .inr (12, xg)), (chA, .inl (chC, (4, .inr (.inr (.inr (.inr chF)))))), (ch0, .inr (2, chg0)), (ch1, .inr (2, chg1)), (ch2, .inr (2, chg2)), (ch3, .inr (2, chg3)), (oA, .inl (oC, (1, .inr (.inl oF))))] U.heap ∧ va_K (dC, dI) CL [(chC, .object "ChipFlow$Chip"), (oC, .long)] U ∧ va_D (fun _ => True) [(x, .inr (12, xg)), (chA, .inl (chC, (4, .inr (.inr (.inr (.inr chF)))))), (ch0, .inr (2, chg0)), (ch1, .inr (2, chg1)), (ch2, .inr (2, chg2)), (ch3, .inr (2, chg3)), (oA, .inl (oC, (1, .inr (.inl oF))))] ∧ th (va_A [(x, .inr (12, xg)), (chA, .inl (chC, (4, .inr (.inr (.inr (.inr chF)))))), (ch0, .inr (2, chg0)), (ch1, .inr (2, chg1)), (ch2, .inr (2, chg2)), (ch3, .inr (2, chg3)), (oA, .inl (oC, (1, .inr (.inl oF))))] sz) U U.heap)) (va_Qi (fun (r : Int32) (_ : Unit) => r = 1) (fun _ t => va_P (dC, dI) CL [(oA, .inl (oC, (1, .inr (.inl oF))))] t.heap ∧ va_K (dC, dI) CL [(oC, .long)] t ∧ va_D (va_A [(x, .inr (12, xg)), (chA, .inl (chC, (4, .inr (.inr (.inr (.inr chF)))))), (ch0, .inr (2, chg0)), (ch1, .inr (2, chg1)), (ch2, .inr (2, chg2)), (ch3, .inr (2, chg3)), (oA, .inl (oC, (1, .inr (.inl oF))))] sz) [(oA, .inl (oC, (1, .inr (.inl oF))))]) (va_A [(x, .inr (12, xg)), (chA, .inl (chC, (4, .inr (.inr (.inr (.inr chF)))))), (ch0, .inr (2, chg0)), (ch1, .inr (2, chg1)), (ch2, .inr (2, chg2)), (ch3, .inr (2, chg3)), (oA, .inl (oC, (1, .inr (.inl oF))))] sz)) 1 6 (va_A [(x, .inr (12, xg)), (chA, .inl (chC, (4, .inr (.inr (.inr (.inr chF)))))), (ch0, .inr (2, chg0)), (ch1, .inr (2, chg1)), (ch2, .inr (2, chg2)), (ch3, .inr (2, chg3)), (oA, .inl (oC, (1, .inr (.inl oF))))] sz) := by
  refine va_MetW (hh := [(0, 12, 15, 32), (0, 12, 19, 19)]) (cc := cL_gate) (maxL := 6) (ret := (some .int)) (by decide) rfl ?_
  intro p e s m args below meth c s₁ B hml hv
  obtain ⟨rfl, hsz, hP, hK, hD0, hth⟩ := hv
  have hx := B.exec
  have hb := B.bytes
  have hr := B.returns
  have hts : ∀ w ∈ BG, w.before _ s = true := fun w h => atoms_spec (ws := Cond.codeWith yL_gate cL_gate 6 (some .int) [(0, 12, 15, 32), (0, 12, 19, 19)] :: BG) B.pre w (List.mem_cons_of_mem _ h)
  have hown : s.vm.findClass RL = some m.cls := findClass_of_methodNamed B.named
  have hlocks := B.notSynchronized
  subst hsz
  have hD := hD0.self (sz := s.heap.size)
  generalize hAe : va_A [(x, .inr (12, xg)), (chA, .inl (chC, (4, .inr (.inr (.inr (.inr chF)))))), (ch0, .inr (2, chg0)), (ch1, .inr (2, chg1)), (ch2, .inr (2, chg2)), (ch3, .inr (2, chg3)), (oA, .inl (oC, (1, .inr (.inl oF))))] s.heap.size = A at hD hth ⊢
  have hA : ∀ q : Nat, s.heap.size ≤ q → A q := fun q h => by rw [← hAe]; exact Or.inr h
  have hS : va_S A s.heap s.heap [] := va_S.rf
  have hl := lv_entry ([.ref x, .int p0, .int p1, .int p2, .ref oA]) (n := 6) (Nat.le_of_ble_eq_true rfl)
  rw [lg_entry_eq]
  generalize (lg_sl ([.ref x, .int p0, .int p1, .int p2, .ref oA]) ++ List.replicate (6 - (lg_sl ([.ref x, .int p0, .int p1, .int p2, .ref oA])).length) Slot.unset).toArray = ls at hl ⊢
  have hl : lv_has ls 6 [(0, .ref x), (1, .int p0), (2, .int p1), (3, .int p2), (4, .ref oA)] := hl
  have hT : c.exceptionTable.toList = tableOf [(0, 12, 15, 32), (0, 12, 19, 19)] := vx_table (x := yL_gate) B (atoms_spec (ws := Cond.codeWith yL_gate cL_gate 6 (some .int) [(0, 12, 15, 32), (0, 12, 19, 19)] :: BG) B.pre _ List.mem_cons_self)
  have hFc := va_free (wc := [(x, .inr (12, xg)), (chA, .inl (chC, (4, .inr (.inr (.inr (.inr chF)))))), (ch0, .inr (2, chg0)), (ch1, .inr (2, chg1)), (ch2, .inr (2, chg2)), (ch3, .inr (2, chg3))]) hD hS hA [0, 1, 2, 3, 4, 5] rfl
  have hPc := hP.sub (ws' := [(x, .inr (12, xg)), (chA, .inl (chC, (4, .inr (.inr (.inr (.inr chF)))))), (ch0, .inr (2, chg0)), (ch1, .inr (2, chg1)), (ch2, .inr (2, chg2)), (ch3, .inr (2, chg3))]) [0, 1, 2, 3, 4, 5] rfl
  have hDc := hD.sub (ws' := [(x, .inr (12, xg)), (chA, .inl (chC, (4, .inr (.inr (.inr (.inr chF)))))), (ch0, .inr (2, chg0)), (ch1, .inr (2, chg1)), (ch2, .inr (2, chg2)), (ch3, .inr (2, chg3))]) [0, 1, 2, 3, 4, 5] (by decide) rfl
  have hKc := hK.sub (tys' := [(chC, .object "ChipFlow$Chip")]) [0] rfl
  have hK9 := hK.sub (tys' := [(oC, .long)]) [1] rfl
  refine lv_aload hx hb dL_gate_0 (lv_at hl 4 rfl) ?_
  refine lv_iconst (v := 0) hx hb dL_gate_2 (by decide +kernel) ?_
  refine lv_aload_n hx hb dL_gate_3 rfl (lv_at hl 0 rfl) ?_
  refine lv_iload_n hx hb dL_gate_4 rfl (lv_at hl 1 rfl) ?_
  refine lv_iload_n hx hb dL_gate_5 rfl (lv_at hl 2 rfl) ?_
  refine lv_iload_n hx hb dL_gate_6 rfl (lv_at hl 3 rfl) ?_
  refine vq_thr (vx_runV (As := [.int p0, .int p1, .int p2]) (rest := [.int 0, .ref oA]) ⟨hx, hb, hml, hown, hts⟩ (ct_X12_gate l hlt dC dI s.heap.size p0 p1 p2 x xg chA chC chF ch0 ch1 ch2 ch3 chg0 chg1 chg2 chg3 hchg0 hchF0 hchg1 hchF1 hchg2 hchF2 hchg3 hchF3 hxg) (cwV 3 hts (gi_V wd_2147 wd_2148 wd_2149 wd_327 wd_2150) rfl rfl rfl (by decide +kernel) ⟨(Nat.le_of_ble_eq_true rfl), (Nat.le_of_ble_eq_true rfl)⟩) ⟨fun a U g mk q => by obtain ⟨q0, q1, qP, qK, qD, qT⟩ := q; exact ⟨q0, q1, qP, va_K.moved (u := U) (U := U.calling g mk a) (Vm.Alike.refl U.vm) qK, qD, th.moved (u := U) (U := U.calling g mk a) (Vm.Alike.refl U.vm) qT⟩, va_recv hKc hPc (ci := 12) (q0 := 0) rfl rfl, fun U hU hW => ⟨rfl, by rw [hU], by rw [hU]; exact hPc, va_K.moved hW.alike hKc, hDc.weaken (fun _ _ _ _ => trivial), by rw [hU]; exact (hth.narrow hFc).moved hW.alike⟩⟩ rfl rfl hl.1 rfl (lv_room (Nat.le_of_ble_eq_true rfl)) dL_gate_7 ⟨(Nat.le_of_ble_eq_true rfl), (Nat.le_of_ble_eq_true rfl)⟩) (fun _ _ _ h => h) hS hFc (fun q _ h => hFc q h) (fun E ce q9 u t H1 locs ht hvm hp hB hz hk hS hce hcv hcl => ?_)
  subst hB
  obtain ⟨hP, hD⟩ := va_join (wr := [(oA, .inl (oC, (1, .inr (.inl oF))))]) (w1 := []) hP hD [0, 1, 2, 3, 4, 5] [6] rfl rfl (by decide) (by decide) hk hFc po_nilP po_nilD
  have hP : va_P (dC, dI) CL [(oA, .inl (oC, (1, .inr (.inl oF))))] H1 := hP
  have hD : va_D A [(oA, .inl (oC, (1, .inr (.inl oF))))] := hD
  refine vx_catch (own := RL) (name := "java/lang/IndexOutOfBoundsException") hown [] { startPc := 0, endPc := 12, handlerPc := 15, catchType := 32 } [{ startPc := 0, endPc := 12, handlerPc := 19, catchType := 19 }] (by rw [hT]; rfl) (fun _ h => nomatch h) (by decide) (by decide) (hts (.classLink RL 32 "java/lang/IndexOutOfBoundsException") wd_1804) (hth.cast (by decide)) hce hcv hcl ?_
  refine lv_astore (lv' := [(5, .ref q9), (0, .ref x), (1, .int p0), (2, .int p1), (3, .int p2), (4, .ref oA)]) hx hb dL_gate_15 hl (by decide) rfl (fun ls hl => ?_)
  refine lv_iconst (v := 1) hx hb dL_gate_17 (by decide +kernel) ?_
  refine W.widen (k := 1) (n := 6) (Nat.le_of_ble_eq_true rfl) (Nat.le_of_ble_eq_true rfl) ?_
  exact W.iret (v := 1) hx hb hr (fun t ht hW => ⟨⟨1, (), rfl, rfl, by rw [ht]; exact hP, va_K.moved hW.alike hK9, hD⟩, hS.F ht⟩) hS.2.2 dL_gate_18
set_option maxHeartbeats 4000000 in
set_option maxRecDepth 100000 in
theorem ct_L_netOf (l : Launch) (hlt : l.stackTraces = false) (dC : Nat → ClassId) (dI : Nat → Nat → Nat) (sz : Nat) (p0 p1 p2 : Int32) (x : Nat) (xg : List Value) (chA : Nat) (chC : ClassId) (chF : Nat → Option Nat) (ch0 ch1 ch2 ch3 : Nat) (chg0 chg1 chg2 chg3 : List Value) (hchg0 : fx chg0 20 [(0, .int 0)]) (hchF0 : chF 0 = some ch0) (hchg1 : fx chg1 20 [(0, .int 0)]) (hchF1 : chF 1 = some ch1) (hchg2 : fx chg2 20 [(0, .int 0)]) (hchF2 : chF 2 = some ch2) (hchg3 : fx chg3 20 [(0, .int 0)]) (hchF3 : chF 3 = some ch3) (oA : Nat) (oC : ClassId) (oF : Nat → Int64) (hxg : fx xg 17 [(9, .ref chA)]) : Met l yL_netOf (Cond.codeWith yL_netOf cL_netOf 6 (some .int) [(0, 12, 15, 32)] :: BG) ({ frames := 9, cells := 1, slots := 6, locals := 200 }) (va_Pc [.ref x, .int p0, .int p1, .int p2, .ref oA] (fun U => U.heap.size = sz ∧ va_P (dC, dI) CL [(x, .inr (12, xg)), (chA, .inl (chC, (4, .inr (.inr (.inr (.inr chF)))))), (ch0, .inr (2, chg0)), (ch1, .inr (2, chg1)), (ch2, .inr (2, chg2)), (ch3, .inr (2, chg3)), (oA, .inl (oC, (1, .inr (.inl oF))))] U.heap ∧ va_K (dC, dI) CL [(chC, .object "ChipFlow$Chip"), (oC, .long)] U ∧ va_D (fun _ => True) [(x, .inr (12, xg)), (chA, .inl (chC, (4, .inr (.inr (.inr (.inr chF)))))), (ch0, .inr (2, chg0)), (ch1, .inr (2, chg1)), (ch2, .inr (2, chg2)), (ch3, .inr (2, chg3)), (oA, .inl (oC, (1, .inr (.inl oF))))] ∧ th (va_A [(x, .inr (12, xg)), (chA, .inl (chC, (4, .inr (.inr (.inr (.inr chF)))))), (ch0, .inr (2, chg0)), (ch1, .inr (2, chg1)), (ch2, .inr (2, chg2)), (ch3, .inr (2, chg3)), (oA, .inl (oC, (1, .inr (.inl oF))))] sz) U U.heap)) (va_Qi (fun (r : Int32) (_ : Unit) => r = 1) (fun _ t => va_P (dC, dI) CL [(oA, .inl (oC, (1, .inr (.inl oF))))] t.heap ∧ va_K (dC, dI) CL [(oC, .long)] t ∧ va_D (va_A [(x, .inr (12, xg)), (chA, .inl (chC, (4, .inr (.inr (.inr (.inr chF)))))), (ch0, .inr (2, chg0)), (ch1, .inr (2, chg1)), (ch2, .inr (2, chg2)), (ch3, .inr (2, chg3)), (oA, .inl (oC, (1, .inr (.inl oF))))] sz) [(oA, .inl (oC, (1, .inr (.inl oF))))]) (va_A [(x, .inr (12, xg)), (chA, .inl (chC, (4, .inr (.inr (.inr (.inr chF)))))), (ch0, .inr (2, chg0)), (ch1, .inr (2, chg1)), (ch2, .inr (2, chg2)), (ch3, .inr (2, chg3)), (oA, .inl (oC, (1, .inr (.inl oF))))] sz)) 1 6 (va_A [(x, .inr (12, xg)), (chA, .inl (chC, (4, .inr (.inr (.inr (.inr chF)))))), (ch0, .inr (2, chg0)), (ch1, .inr (2, chg1)), (ch2, .inr (2, chg2)), (ch3, .inr (2, chg3)), (oA, .inl (oC, (1, .inr (.inl oF))))] sz) := by
  refine va_MetW (hh := [(0, 12, 15, 32)]) (cc := cL_netOf) (maxL := 6) (ret := (some .int)) (by decide) rfl ?_
  intro p e s m args below meth c s₁ B hml hv
  obtain ⟨rfl, hsz, hP, hK, hD0, hth⟩ := hv
  have hx := B.exec
  have hb := B.bytes
  have hr := B.returns
  have hts : ∀ w ∈ BG, w.before _ s = true := fun w h => atoms_spec (ws := Cond.codeWith yL_netOf cL_netOf 6 (some .int) [(0, 12, 15, 32)] :: BG) B.pre w (List.mem_cons_of_mem _ h)
  have hown : s.vm.findClass RL = some m.cls := findClass_of_methodNamed B.named
  have hlocks := B.notSynchronized
  subst hsz
  have hD := hD0.self (sz := s.heap.size)
  generalize hAe : va_A [(x, .inr (12, xg)), (chA, .inl (chC, (4, .inr (.inr (.inr (.inr chF)))))), (ch0, .inr (2, chg0)), (ch1, .inr (2, chg1)), (ch2, .inr (2, chg2)), (ch3, .inr (2, chg3)), (oA, .inl (oC, (1, .inr (.inl oF))))] s.heap.size = A at hD hth ⊢
  have hA : ∀ q : Nat, s.heap.size ≤ q → A q := fun q h => by rw [← hAe]; exact Or.inr h
  have hS : va_S A s.heap s.heap [] := va_S.rf
  have hl := lv_entry ([.ref x, .int p0, .int p1, .int p2, .ref oA]) (n := 6) (Nat.le_of_ble_eq_true rfl)
  rw [lg_entry_eq]
  generalize (lg_sl ([.ref x, .int p0, .int p1, .int p2, .ref oA]) ++ List.replicate (6 - (lg_sl ([.ref x, .int p0, .int p1, .int p2, .ref oA])).length) Slot.unset).toArray = ls at hl ⊢
  have hl : lv_has ls 6 [(0, .ref x), (1, .int p0), (2, .int p1), (3, .int p2), (4, .ref oA)] := hl
  have hT : c.exceptionTable.toList = tableOf [(0, 12, 15, 32)] := vx_table (x := yL_netOf) B (atoms_spec (ws := Cond.codeWith yL_netOf cL_netOf 6 (some .int) [(0, 12, 15, 32)] :: BG) B.pre _ List.mem_cons_self)
  have hFc := va_free (wc := [(x, .inr (12, xg)), (chA, .inl (chC, (4, .inr (.inr (.inr (.inr chF)))))), (ch0, .inr (2, chg0)), (ch1, .inr (2, chg1)), (ch2, .inr (2, chg2)), (ch3, .inr (2, chg3))]) hD hS hA [0, 1, 2, 3, 4, 5] rfl
  have hPc := hP.sub (ws' := [(x, .inr (12, xg)), (chA, .inl (chC, (4, .inr (.inr (.inr (.inr chF)))))), (ch0, .inr (2, chg0)), (ch1, .inr (2, chg1)), (ch2, .inr (2, chg2)), (ch3, .inr (2, chg3))]) [0, 1, 2, 3, 4, 5] rfl
  have hDc := hD.sub (ws' := [(x, .inr (12, xg)), (chA, .inl (chC, (4, .inr (.inr (.inr (.inr chF)))))), (ch0, .inr (2, chg0)), (ch1, .inr (2, chg1)), (ch2, .inr (2, chg2)), (ch3, .inr (2, chg3))]) [0, 1, 2, 3, 4, 5] (by decide) rfl
  have hKc := hK.sub (tys' := [(chC, .object "ChipFlow$Chip")]) [0] rfl
  have hK9 := hK.sub (tys' := [(oC, .long)]) [1] rfl
  refine lv_aload hx hb dL_netOf_0 (lv_at hl 4 rfl) ?_
  refine lv_iconst (v := 0) hx hb dL_netOf_2 (by decide +kernel) ?_
  refine lv_aload_n hx hb dL_netOf_3 rfl (lv_at hl 0 rfl) ?_
  refine lv_iload_n hx hb dL_netOf_4 rfl (lv_at hl 1 rfl) ?_
  refine lv_iload_n hx hb dL_netOf_5 rfl (lv_at hl 2 rfl) ?_
  refine lv_iload_n hx hb dL_netOf_6 rfl (lv_at hl 3 rfl) ?_
  refine vq_thr (vx_runV (As := [.int p0, .int p1, .int p2]) (rest := [.int 0, .ref oA]) ⟨hx, hb, hml, hown, hts⟩ (ct_X12_netOf l hlt dC dI s.heap.size p0 p1 p2 x xg chA chC chF ch0 ch1 ch2 ch3 chg0 chg1 chg2 chg3 hchg0 hchF0 hchg1 hchF1 hchg2 hchF2 hchg3 hchF3 hxg) (cwV 3 hts (gi_V wd_2156 wd_2157 wd_2158 wd_327 wd_2159) rfl rfl rfl (by decide +kernel) ⟨(Nat.le_of_ble_eq_true rfl), (Nat.le_of_ble_eq_true rfl)⟩) ⟨fun a U g mk q => by obtain ⟨q0, q1, qP, qK, qD, qT⟩ := q; exact ⟨q0, q1, qP, va_K.moved (u := U) (U := U.calling g mk a) (Vm.Alike.refl U.vm) qK, qD, th.moved (u := U) (U := U.calling g mk a) (Vm.Alike.refl U.vm) qT⟩, va_recv hKc hPc (ci := 12) (q0 := 0) rfl rfl, fun U hU hW => ⟨rfl, by rw [hU], by rw [hU]; exact hPc, va_K.moved hW.alike hKc, hDc.weaken (fun _ _ _ _ => trivial), by rw [hU]; exact (hth.narrow hFc).moved hW.alike⟩⟩ rfl rfl hl.1 rfl (lv_room (Nat.le_of_ble_eq_true rfl)) dL_netOf_7 ⟨(Nat.le_of_ble_eq_true rfl), (Nat.le_of_ble_eq_true rfl)⟩) (fun _ _ _ h => h) hS hFc (fun q _ h => hFc q h) (fun E ce q9 u t H1 locs ht hvm hp hB hz hk hS hce hcv hcl => ?_)
  subst hB
  obtain ⟨hP, hD⟩ := va_join (wr := [(oA, .inl (oC, (1, .inr (.inl oF))))]) (w1 := []) hP hD [0, 1, 2, 3, 4, 5] [6] rfl rfl (by decide) (by decide) hk hFc po_nilP po_nilD
  have hP : va_P (dC, dI) CL [(oA, .inl (oC, (1, .inr (.inl oF))))] H1 := hP
  have hD : va_D A [(oA, .inl (oC, (1, .inr (.inl oF))))] := hD
  refine vx_catch (own := RL) (name := "java/lang/IndexOutOfBoundsException") hown [] { startPc := 0, endPc := 12, handlerPc := 15, catchType := 32 } [] (by rw [hT]; rfl) (fun _ h => nomatch h) (by decide) (by decide) (hts (.classLink RL 32 "java/lang/IndexOutOfBoundsException") wd_1804) (hth.cast (by decide)) hce hcv hcl ?_
  refine lv_astore (lv' := [(5, .ref q9), (0, .ref x), (1, .int p0), (2, .int p1), (3, .int p2), (4, .ref oA)]) hx hb dL_netOf_15 hl (by decide) rfl (fun ls hl => ?_)
  refine lv_iconst (v := 1) hx hb dL_netOf_17 (by decide +kernel) ?_
  refine W.widen (k := 1) (n := 6) (Nat.le_of_ble_eq_true rfl) (Nat.le_of_ble_eq_true rfl) ?_
  exact W.iret (v := 1) hx hb hr (fun t ht hW => ⟨⟨1, (), rfl, rfl, by rw [ht]; exact hP, va_K.moved hW.alike hK9, hD⟩, hS.F ht⟩) hS.2.2 dL_netOf_18
set_option maxHeartbeats 4000000 in
set_option maxRecDepth 100000 in
theorem ct_L_alter (l : Launch) (hlt : l.stackTraces = false) (dC : Nat → ClassId) (dI : Nat → Nat → Nat) (sz : Nat) (p0 p1 p2 : Int32) (x : Nat) (xg : List Value) (chA : Nat) (chC : ClassId) (chF : Nat → Option Nat) (ch0 ch1 ch2 ch3 : Nat) (chg0 chg1 chg2 chg3 : List Value) (hchg0 : fx chg0 20 [(0, .int 0)]) (hchF0 : chF 0 = some ch0) (hchg1 : fx chg1 20 [(0, .int 0)]) (hchF1 : chF 1 = some ch1) (hchg2 : fx chg2 20 [(0, .int 0)]) (hchF2 : chF 2 = some ch2) (hchg3 : fx chg3 20 [(0, .int 0)]) (hchF3 : chF 3 = some ch3) (oA : Nat) (oC : ClassId) (oF : Nat → Int64) (hxg : fx xg 17 [(9, .ref chA)]) : Met l yL_alter (Cond.codeWith yL_alter cL_alter 6 (some .int) [(0, 12, 15, 32), (0, 12, 19, 19)] :: BG) ({ frames := 9, cells := 1, slots := 6, locals := 200 }) (va_Pc [.ref x, .int p0, .int p1, .int p2, .ref oA] (fun U => U.heap.size = sz ∧ va_P (dC, dI) CL [(x, .inr (12, xg)), (chA, .inl (chC, (4, .inr (.inr (.inr (.inr chF)))))), (ch0, .inr (2, chg0)), (ch1, .inr (2, chg1)), (ch2, .inr (2, chg2)), (ch3, .inr (2, chg3)), (oA, .inl (oC, (1, .inr (.inl oF))))] U.heap ∧ va_K (dC, dI) CL [(chC, .object "ChipFlow$Chip"), (oC, .long)] U ∧ va_D (fun _ => True) [(x, .inr (12, xg)), (chA, .inl (chC, (4, .inr (.inr (.inr (.inr chF)))))), (ch0, .inr (2, chg0)), (ch1, .inr (2, chg1)), (ch2, .inr (2, chg2)), (ch3, .inr (2, chg3)), (oA, .inl (oC, (1, .inr (.inl oF))))] ∧ th (va_A [(x, .inr (12, xg)), (chA, .inl (chC, (4, .inr (.inr (.inr (.inr chF)))))), (ch0, .inr (2, chg0)), (ch1, .inr (2, chg1)), (ch2, .inr (2, chg2)), (ch3, .inr (2, chg3)), (oA, .inl (oC, (1, .inr (.inl oF))))] sz) U U.heap)) (va_Qi (fun (r : Int32) (_ : Unit) => r = 1) (fun _ t => va_P (dC, dI) CL [(oA, .inl (oC, (1, .inr (.inl oF))))] t.heap ∧ va_K (dC, dI) CL [(oC, .long)] t ∧ va_D (va_A [(x, .inr (12, xg)), (chA, .inl (chC, (4, .inr (.inr (.inr (.inr chF)))))), (ch0, .inr (2, chg0)), (ch1, .inr (2, chg1)), (ch2, .inr (2, chg2)), (ch3, .inr (2, chg3)), (oA, .inl (oC, (1, .inr (.inl oF))))] sz) [(oA, .inl (oC, (1, .inr (.inl oF))))]) (va_A [(x, .inr (12, xg)), (chA, .inl (chC, (4, .inr (.inr (.inr (.inr chF)))))), (ch0, .inr (2, chg0)), (ch1, .inr (2, chg1)), (ch2, .inr (2, chg2)), (ch3, .inr (2, chg3)), (oA, .inl (oC, (1, .inr (.inl oF))))] sz)) 1 6 (va_A [(x, .inr (12, xg)), (chA, .inl (chC, (4, .inr (.inr (.inr (.inr chF)))))), (ch0, .inr (2, chg0)), (ch1, .inr (2, chg1)), (ch2, .inr (2, chg2)), (ch3, .inr (2, chg3)), (oA, .inl (oC, (1, .inr (.inl oF))))] sz) := by
  refine va_MetW (hh := [(0, 12, 15, 32), (0, 12, 19, 19)]) (cc := cL_alter) (maxL := 6) (ret := (some .int)) (by decide) rfl ?_
  intro p e s m args below meth c s₁ B hml hv
  obtain ⟨rfl, hsz, hP, hK, hD0, hth⟩ := hv
  have hx := B.exec
  have hb := B.bytes
  have hr := B.returns
  have hts : ∀ w ∈ BG, w.before _ s = true := fun w h => atoms_spec (ws := Cond.codeWith yL_alter cL_alter 6 (some .int) [(0, 12, 15, 32), (0, 12, 19, 19)] :: BG) B.pre w (List.mem_cons_of_mem _ h)
  have hown : s.vm.findClass RL = some m.cls := findClass_of_methodNamed B.named
  have hlocks := B.notSynchronized
  subst hsz
  have hD := hD0.self (sz := s.heap.size)
  generalize hAe : va_A [(x, .inr (12, xg)), (chA, .inl (chC, (4, .inr (.inr (.inr (.inr chF)))))), (ch0, .inr (2, chg0)), (ch1, .inr (2, chg1)), (ch2, .inr (2, chg2)), (ch3, .inr (2, chg3)), (oA, .inl (oC, (1, .inr (.inl oF))))] s.heap.size = A at hD hth ⊢
  have hA : ∀ q : Nat, s.heap.size ≤ q → A q := fun q h => by rw [← hAe]; exact Or.inr h
  have hS : va_S A s.heap s.heap [] := va_S.rf
  have hl := lv_entry ([.ref x, .int p0, .int p1, .int p2, .ref oA]) (n := 6) (Nat.le_of_ble_eq_true rfl)
  rw [lg_entry_eq]
  generalize (lg_sl ([.ref x, .int p0, .int p1, .int p2, .ref oA]) ++ List.replicate (6 - (lg_sl ([.ref x, .int p0, .int p1, .int p2, .ref oA])).length) Slot.unset).toArray = ls at hl ⊢
  have hl : lv_has ls 6 [(0, .ref x), (1, .int p0), (2, .int p1), (3, .int p2), (4, .ref oA)] := hl
  have hT : c.exceptionTable.toList = tableOf [(0, 12, 15, 32), (0, 12, 19, 19)] := vx_table (x := yL_alter) B (atoms_spec (ws := Cond.codeWith yL_alter cL_alter 6 (some .int) [(0, 12, 15, 32), (0, 12, 19, 19)] :: BG) B.pre _ List.mem_cons_self)
  have hFc := va_free (wc := [(x, .inr (12, xg)), (chA, .inl (chC, (4, .inr (.inr (.inr (.inr chF)))))), (ch0, .inr (2, chg0)), (ch1, .inr (2, chg1)), (ch2, .inr (2, chg2)), (ch3, .inr (2, chg3))]) hD hS hA [0, 1, 2, 3, 4, 5] rfl
  have hPc := hP.sub (ws' := [(x, .inr (12, xg)), (chA, .inl (chC, (4, .inr (.inr (.inr (.inr chF)))))), (ch0, .inr (2, chg0)), (ch1, .inr (2, chg1)), (ch2, .inr (2, chg2)), (ch3, .inr (2, chg3))]) [0, 1, 2, 3, 4, 5] rfl
  have hDc := hD.sub (ws' := [(x, .inr (12, xg)), (chA, .inl (chC, (4, .inr (.inr (.inr (.inr chF)))))), (ch0, .inr (2, chg0)), (ch1, .inr (2, chg1)), (ch2, .inr (2, chg2)), (ch3, .inr (2, chg3))]) [0, 1, 2, 3, 4, 5] (by decide) rfl
  have hKc := hK.sub (tys' := [(chC, .object "ChipFlow$Chip")]) [0] rfl
  have hK9 := hK.sub (tys' := [(oC, .long)]) [1] rfl
  refine lv_aload hx hb dL_alter_0 (lv_at hl 4 rfl) ?_
  refine lv_iconst (v := 0) hx hb dL_alter_2 (by decide +kernel) ?_
  refine lv_aload_n hx hb dL_alter_3 rfl (lv_at hl 0 rfl) ?_
  refine lv_iload_n hx hb dL_alter_4 rfl (lv_at hl 1 rfl) ?_
  refine lv_iload_n hx hb dL_alter_5 rfl (lv_at hl 2 rfl) ?_
  refine lv_iload_n hx hb dL_alter_6 rfl (lv_at hl 3 rfl) ?_
  refine vq_thr (vx_runV (As := [.int p0, .int p1, .int p2]) (rest := [.int 0, .ref oA]) ⟨hx, hb, hml, hown, hts⟩ (ct_X12_alter l hlt dC dI s.heap.size p0 p1 p2 x xg chA chC chF ch0 ch1 ch2 ch3 chg0 chg1 chg2 chg3 hchg0 hchF0 hchg1 hchF1 hchg2 hchF2 hchg3 hchF3 hxg) (cwV 3 hts (gi_V wd_2163 wd_2164 wd_2165 wd_327 wd_2166) rfl rfl rfl (by decide +kernel) ⟨(Nat.le_of_ble_eq_true rfl), (Nat.le_of_ble_eq_true rfl)⟩) ⟨fun a U g mk q => by obtain ⟨q0, q1, qP, qK, qD, qT⟩ := q; exact ⟨q0, q1, qP, va_K.moved (u := U) (U := U.calling g mk a) (Vm.Alike.refl U.vm) qK, qD, th.moved (u := U) (U := U.calling g mk a) (Vm.Alike.refl U.vm) qT⟩, va_recv hKc hPc (ci := 12) (q0 := 0) rfl rfl, fun U hU hW => ⟨rfl, by rw [hU], by rw [hU]; exact hPc, va_K.moved hW.alike hKc, hDc.weaken (fun _ _ _ _ => trivial), by rw [hU]; exact (hth.narrow hFc).moved hW.alike⟩⟩ rfl rfl hl.1 rfl (lv_room (Nat.le_of_ble_eq_true rfl)) dL_alter_7 ⟨(Nat.le_of_ble_eq_true rfl), (Nat.le_of_ble_eq_true rfl)⟩) (fun _ _ _ h => h) hS hFc (fun q _ h => hFc q h) (fun E ce q9 u t H1 locs ht hvm hp hB hz hk hS hce hcv hcl => ?_)
  subst hB
  obtain ⟨hP, hD⟩ := va_join (wr := [(oA, .inl (oC, (1, .inr (.inl oF))))]) (w1 := []) hP hD [0, 1, 2, 3, 4, 5] [6] rfl rfl (by decide) (by decide) hk hFc po_nilP po_nilD
  have hP : va_P (dC, dI) CL [(oA, .inl (oC, (1, .inr (.inl oF))))] H1 := hP
  have hD : va_D A [(oA, .inl (oC, (1, .inr (.inl oF))))] := hD
  refine vx_catch (own := RL) (name := "java/lang/IndexOutOfBoundsException") hown [] { startPc := 0, endPc := 12, handlerPc := 15, catchType := 32 } [{ startPc := 0, endPc := 12, handlerPc := 19, catchType := 19 }] (by rw [hT]; rfl) (fun _ h => nomatch h) (by decide) (by decide) (hts (.classLink RL 32 "java/lang/IndexOutOfBoundsException") wd_1804) (hth.cast (by decide)) hce hcv hcl ?_
  refine lv_astore (lv' := [(5, .ref q9), (0, .ref x), (1, .int p0), (2, .int p1), (3, .int p2), (4, .ref oA)]) hx hb dL_alter_15 hl (by decide) rfl (fun ls hl => ?_)
  refine lv_iconst (v := 1) hx hb dL_alter_17 (by decide +kernel) ?_
  refine W.widen (k := 1) (n := 6) (Nat.le_of_ble_eq_true rfl) (Nat.le_of_ble_eq_true rfl) ?_
  exact W.iret (v := 1) hx hb hr (fun t ht hW => ⟨⟨1, (), rfl, rfl, by rw [ht]; exact hP, va_K.moved hW.alike hK9, hD⟩, hS.F ht⟩) hS.2.2 dL_alter_18
set_option maxHeartbeats 4000000 in
set_option maxRecDepth 100000 in
theorem ct_L_run (l : Launch) (hlt : l.stackTraces = false) (dC : Nat → ClassId) (dI : Nat → Nat → Nat) (sz : Nat) (p0 p1 : Int32) (x : Nat) (xg : List Value) (chA : Nat) (chC : ClassId) (chF : Nat → Option Nat) (ch0 ch1 ch2 ch3 : Nat) (chg0 chg1 chg2 chg3 : List Value) (hchg0 : fx chg0 20 [(0, .int 0)]) (hchF0 : chF 0 = some ch0) (hchg1 : fx chg1 20 [(0, .int 0)]) (hchF1 : chF 1 = some ch1) (hchg2 : fx chg2 20 [(0, .int 0)]) (hchF2 : chF 2 = some ch2) (hchg3 : fx chg3 20 [(0, .int 0)]) (hchF3 : chF 3 = some ch3) (oA : Nat) (oC : ClassId) (oF : Nat → Int64) (hxg : fx xg 17 [(9, .ref chA)]) : Met l yL_run (Cond.codeWith yL_run cL_run 5 (some .int) [(0, 10, 13, 32), (0, 10, 17, 19)] :: BG) ({ frames := 9, cells := 1, slots := 6, locals := 200 }) (va_Pc [.ref x, .int p0, .int p1, .ref oA] (fun U => U.heap.size = sz ∧ va_P (dC, dI) CL [(x, .inr (12, xg)), (chA, .inl (chC, (4, .inr (.inr (.inr (.inr chF)))))), (ch0, .inr (2, chg0)), (ch1, .inr (2, chg1)), (ch2, .inr (2, chg2)), (ch3, .inr (2, chg3)), (oA, .inl (oC, (1, .inr (.inl oF))))] U.heap ∧ va_K (dC, dI) CL [(chC, .object "ChipFlow$Chip"), (oC, .long)] U ∧ va_D (fun _ => True) [(x, .inr (12, xg)), (chA, .inl (chC, (4, .inr (.inr (.inr (.inr chF)))))), (ch0, .inr (2, chg0)), (ch1, .inr (2, chg1)), (ch2, .inr (2, chg2)), (ch3, .inr (2, chg3)), (oA, .inl (oC, (1, .inr (.inl oF))))] ∧ th (va_A [(x, .inr (12, xg)), (chA, .inl (chC, (4, .inr (.inr (.inr (.inr chF)))))), (ch0, .inr (2, chg0)), (ch1, .inr (2, chg1)), (ch2, .inr (2, chg2)), (ch3, .inr (2, chg3)), (oA, .inl (oC, (1, .inr (.inl oF))))] sz) U U.heap)) (va_Qi (fun (r : Int32) (_ : Unit) => r = 1) (fun _ t => va_P (dC, dI) CL [(oA, .inl (oC, (1, .inr (.inl oF))))] t.heap ∧ va_K (dC, dI) CL [(oC, .long)] t ∧ va_D (va_A [(x, .inr (12, xg)), (chA, .inl (chC, (4, .inr (.inr (.inr (.inr chF)))))), (ch0, .inr (2, chg0)), (ch1, .inr (2, chg1)), (ch2, .inr (2, chg2)), (ch3, .inr (2, chg3)), (oA, .inl (oC, (1, .inr (.inl oF))))] sz) [(oA, .inl (oC, (1, .inr (.inl oF))))]) (va_A [(x, .inr (12, xg)), (chA, .inl (chC, (4, .inr (.inr (.inr (.inr chF)))))), (ch0, .inr (2, chg0)), (ch1, .inr (2, chg1)), (ch2, .inr (2, chg2)), (ch3, .inr (2, chg3)), (oA, .inl (oC, (1, .inr (.inl oF))))] sz)) 1 6 (va_A [(x, .inr (12, xg)), (chA, .inl (chC, (4, .inr (.inr (.inr (.inr chF)))))), (ch0, .inr (2, chg0)), (ch1, .inr (2, chg1)), (ch2, .inr (2, chg2)), (ch3, .inr (2, chg3)), (oA, .inl (oC, (1, .inr (.inl oF))))] sz) := by
  refine va_MetW (hh := [(0, 10, 13, 32), (0, 10, 17, 19)]) (cc := cL_run) (maxL := 5) (ret := (some .int)) (by decide) rfl ?_
  intro p e s m args below meth c s₁ B hml hv
  obtain ⟨rfl, hsz, hP, hK, hD0, hth⟩ := hv
  have hx := B.exec
  have hb := B.bytes
  have hr := B.returns
  have hts : ∀ w ∈ BG, w.before _ s = true := fun w h => atoms_spec (ws := Cond.codeWith yL_run cL_run 5 (some .int) [(0, 10, 13, 32), (0, 10, 17, 19)] :: BG) B.pre w (List.mem_cons_of_mem _ h)
  have hown : s.vm.findClass RL = some m.cls := findClass_of_methodNamed B.named
  have hlocks := B.notSynchronized
  subst hsz
  have hD := hD0.self (sz := s.heap.size)
  generalize hAe : va_A [(x, .inr (12, xg)), (chA, .inl (chC, (4, .inr (.inr (.inr (.inr chF)))))), (ch0, .inr (2, chg0)), (ch1, .inr (2, chg1)), (ch2, .inr (2, chg2)), (ch3, .inr (2, chg3)), (oA, .inl (oC, (1, .inr (.inl oF))))] s.heap.size = A at hD hth ⊢
  have hA : ∀ q : Nat, s.heap.size ≤ q → A q := fun q h => by rw [← hAe]; exact Or.inr h
  have hS : va_S A s.heap s.heap [] := va_S.rf
  have hl := lv_entry ([.ref x, .int p0, .int p1, .ref oA]) (n := 5) (Nat.le_of_ble_eq_true rfl)
  rw [lg_entry_eq]
  generalize (lg_sl ([.ref x, .int p0, .int p1, .ref oA]) ++ List.replicate (5 - (lg_sl ([.ref x, .int p0, .int p1, .ref oA])).length) Slot.unset).toArray = ls at hl ⊢
  have hl : lv_has ls 5 [(0, .ref x), (1, .int p0), (2, .int p1), (3, .ref oA)] := hl
  have hT : c.exceptionTable.toList = tableOf [(0, 10, 13, 32), (0, 10, 17, 19)] := vx_table (x := yL_run) B (atoms_spec (ws := Cond.codeWith yL_run cL_run 5 (some .int) [(0, 10, 13, 32), (0, 10, 17, 19)] :: BG) B.pre _ List.mem_cons_self)
  have hFc := va_free (wc := [(x, .inr (12, xg)), (chA, .inl (chC, (4, .inr (.inr (.inr (.inr chF)))))), (ch0, .inr (2, chg0)), (ch1, .inr (2, chg1)), (ch2, .inr (2, chg2)), (ch3, .inr (2, chg3))]) hD hS hA [0, 1, 2, 3, 4, 5] rfl
  have hPc := hP.sub (ws' := [(x, .inr (12, xg)), (chA, .inl (chC, (4, .inr (.inr (.inr (.inr chF)))))), (ch0, .inr (2, chg0)), (ch1, .inr (2, chg1)), (ch2, .inr (2, chg2)), (ch3, .inr (2, chg3))]) [0, 1, 2, 3, 4, 5] rfl
  have hDc := hD.sub (ws' := [(x, .inr (12, xg)), (chA, .inl (chC, (4, .inr (.inr (.inr (.inr chF)))))), (ch0, .inr (2, chg0)), (ch1, .inr (2, chg1)), (ch2, .inr (2, chg2)), (ch3, .inr (2, chg3))]) [0, 1, 2, 3, 4, 5] (by decide) rfl
  have hKc := hK.sub (tys' := [(chC, .object "ChipFlow$Chip")]) [0] rfl
  have hK9 := hK.sub (tys' := [(oC, .long)]) [1] rfl
  refine lv_aload_n hx hb dL_run_0 rfl (lv_at hl 3 rfl) ?_
  refine lv_iconst (v := 0) hx hb dL_run_1 (by decide +kernel) ?_
  refine lv_aload_n hx hb dL_run_2 rfl (lv_at hl 0 rfl) ?_
  refine lv_iload_n hx hb dL_run_3 rfl (lv_at hl 1 rfl) ?_
  refine lv_iload_n hx hb dL_run_4 rfl (lv_at hl 2 rfl) ?_
  refine vq_thr (vx_runV (As := [.int p0, .int p1]) (rest := [.int 0, .ref oA]) ⟨hx, hb, hml, hown, hts⟩ (ct_X12_run l hlt dC dI s.heap.size p0 p1 x xg chA chC chF ch0 ch1 ch2 ch3 chg0 chg1 chg2 chg3 hchg0 hchF0 hchg1 hchF1 hchg2 hchF2 hchg3 hchF3 hxg) (cwV 2 hts (gi_V wd_2170 wd_2171 wd_2172 wd_327 wd_2173) rfl rfl rfl (by decide +kernel) ⟨(Nat.le_of_ble_eq_true rfl), (Nat.le_of_ble_eq_true rfl)⟩) ⟨fun a U g mk q => by obtain ⟨q0, q1, qP, qK, qD, qT⟩ := q; exact ⟨q0, q1, qP, va_K.moved (u := U) (U := U.calling g mk a) (Vm.Alike.refl U.vm) qK, qD, th.moved (u := U) (U := U.calling g mk a) (Vm.Alike.refl U.vm) qT⟩, va_recv hKc hPc (ci := 12) (q0 := 0) rfl rfl, fun U hU hW => ⟨rfl, by rw [hU], by rw [hU]; exact hPc, va_K.moved hW.alike hKc, hDc.weaken (fun _ _ _ _ => trivial), by rw [hU]; exact (hth.narrow hFc).moved hW.alike⟩⟩ rfl rfl hl.1 rfl (lv_room (Nat.le_of_ble_eq_true rfl)) dL_run_5 ⟨(Nat.le_of_ble_eq_true rfl), (Nat.le_of_ble_eq_true rfl)⟩) (fun _ _ _ h => h) hS hFc (fun q _ h => hFc q h) (fun E ce q9 u t H1 locs ht hvm hp hB hz hk hS hce hcv hcl => ?_)
  subst hB
  obtain ⟨hP, hD⟩ := va_join (wr := [(oA, .inl (oC, (1, .inr (.inl oF))))]) (w1 := []) hP hD [0, 1, 2, 3, 4, 5] [6] rfl rfl (by decide) (by decide) hk hFc po_nilP po_nilD
  have hP : va_P (dC, dI) CL [(oA, .inl (oC, (1, .inr (.inl oF))))] H1 := hP
  have hD : va_D A [(oA, .inl (oC, (1, .inr (.inl oF))))] := hD
  refine vx_catch (own := RL) (name := "java/lang/IndexOutOfBoundsException") hown [] { startPc := 0, endPc := 10, handlerPc := 13, catchType := 32 } [{ startPc := 0, endPc := 10, handlerPc := 17, catchType := 19 }] (by rw [hT]; rfl) (fun _ h => nomatch h) (by decide) (by decide) (hts (.classLink RL 32 "java/lang/IndexOutOfBoundsException") wd_1804) (hth.cast (by decide)) hce hcv hcl ?_
  refine lv_astore (lv' := [(4, .ref q9), (0, .ref x), (1, .int p0), (2, .int p1), (3, .ref oA)]) hx hb dL_run_13 hl (by decide) rfl (fun ls hl => ?_)
  refine lv_iconst (v := 1) hx hb dL_run_15 (by decide +kernel) ?_
  refine W.widen (k := 1) (n := 6) (Nat.le_of_ble_eq_true rfl) (Nat.le_of_ble_eq_true rfl) ?_
  exact W.iret (v := 1) hx hb hr (fun t ht hW => ⟨⟨1, (), rfl, rfl, by rw [ht]; exact hP, va_K.moved hW.alike hK9, hD⟩, hS.F ht⟩) hS.2.2 dL_run_16
set_option maxHeartbeats 4000000 in
set_option maxRecDepth 100000 in
theorem ct_L_reset (l : Launch) (hlt : l.stackTraces = false) (dC : Nat → ClassId) (dI : Nat → Nat → Nat) (sz : Nat) (p0 : Int32) (x : Nat) (xg : List Value) (chA : Nat) (chC : ClassId) (chF : Nat → Option Nat) (ch0 ch1 ch2 ch3 : Nat) (chg0 chg1 chg2 chg3 : List Value) (hchg0 : fx chg0 20 [(0, .int 0)]) (hchF0 : chF 0 = some ch0) (hchg1 : fx chg1 20 [(0, .int 0)]) (hchF1 : chF 1 = some ch1) (hchg2 : fx chg2 20 [(0, .int 0)]) (hchF2 : chF 2 = some ch2) (hchg3 : fx chg3 20 [(0, .int 0)]) (hchF3 : chF 3 = some ch3) (oA : Nat) (oC : ClassId) (oF : Nat → Int64) (hxg : fx xg 17 [(9, .ref chA)]) : Met l yL_reset (Cond.codeWith yL_reset cL_reset 4 (some .int) [(0, 9, 12, 32)] :: BG) ({ frames := 9, cells := 1, slots := 6, locals := 200 }) (va_Pc [.ref x, .int p0, .ref oA] (fun U => U.heap.size = sz ∧ va_P (dC, dI) CL [(x, .inr (12, xg)), (chA, .inl (chC, (4, .inr (.inr (.inr (.inr chF)))))), (ch0, .inr (2, chg0)), (ch1, .inr (2, chg1)), (ch2, .inr (2, chg2)), (ch3, .inr (2, chg3)), (oA, .inl (oC, (1, .inr (.inl oF))))] U.heap ∧ va_K (dC, dI) CL [(chC, .object "ChipFlow$Chip"), (oC, .long)] U ∧ va_D (fun _ => True) [(x, .inr (12, xg)), (chA, .inl (chC, (4, .inr (.inr (.inr (.inr chF)))))), (ch0, .inr (2, chg0)), (ch1, .inr (2, chg1)), (ch2, .inr (2, chg2)), (ch3, .inr (2, chg3)), (oA, .inl (oC, (1, .inr (.inl oF))))] ∧ th (va_A [(x, .inr (12, xg)), (chA, .inl (chC, (4, .inr (.inr (.inr (.inr chF)))))), (ch0, .inr (2, chg0)), (ch1, .inr (2, chg1)), (ch2, .inr (2, chg2)), (ch3, .inr (2, chg3)), (oA, .inl (oC, (1, .inr (.inl oF))))] sz) U U.heap)) (va_Qi (fun (r : Int32) (_ : Unit) => r = 1) (fun _ t => va_P (dC, dI) CL [(oA, .inl (oC, (1, .inr (.inl oF))))] t.heap ∧ va_K (dC, dI) CL [(oC, .long)] t ∧ va_D (va_A [(x, .inr (12, xg)), (chA, .inl (chC, (4, .inr (.inr (.inr (.inr chF)))))), (ch0, .inr (2, chg0)), (ch1, .inr (2, chg1)), (ch2, .inr (2, chg2)), (ch3, .inr (2, chg3)), (oA, .inl (oC, (1, .inr (.inl oF))))] sz) [(oA, .inl (oC, (1, .inr (.inl oF))))]) (va_A [(x, .inr (12, xg)), (chA, .inl (chC, (4, .inr (.inr (.inr (.inr chF)))))), (ch0, .inr (2, chg0)), (ch1, .inr (2, chg1)), (ch2, .inr (2, chg2)), (ch3, .inr (2, chg3)), (oA, .inl (oC, (1, .inr (.inl oF))))] sz)) 1 6 (va_A [(x, .inr (12, xg)), (chA, .inl (chC, (4, .inr (.inr (.inr (.inr chF)))))), (ch0, .inr (2, chg0)), (ch1, .inr (2, chg1)), (ch2, .inr (2, chg2)), (ch3, .inr (2, chg3)), (oA, .inl (oC, (1, .inr (.inl oF))))] sz) := by
  refine va_MetW (hh := [(0, 9, 12, 32)]) (cc := cL_reset) (maxL := 4) (ret := (some .int)) (by decide) rfl ?_
  intro p e s m args below meth c s₁ B hml hv
  obtain ⟨rfl, hsz, hP, hK, hD0, hth⟩ := hv
  have hx := B.exec
  have hb := B.bytes
  have hr := B.returns
  have hts : ∀ w ∈ BG, w.before _ s = true := fun w h => atoms_spec (ws := Cond.codeWith yL_reset cL_reset 4 (some .int) [(0, 9, 12, 32)] :: BG) B.pre w (List.mem_cons_of_mem _ h)
  have hown : s.vm.findClass RL = some m.cls := findClass_of_methodNamed B.named
  have hlocks := B.notSynchronized
  subst hsz
  have hD := hD0.self (sz := s.heap.size)
  generalize hAe : va_A [(x, .inr (12, xg)), (chA, .inl (chC, (4, .inr (.inr (.inr (.inr chF)))))), (ch0, .inr (2, chg0)), (ch1, .inr (2, chg1)), (ch2, .inr (2, chg2)), (ch3, .inr (2, chg3)), (oA, .inl (oC, (1, .inr (.inl oF))))] s.heap.size = A at hD hth ⊢
  have hA : ∀ q : Nat, s.heap.size ≤ q → A q := fun q h => by rw [← hAe]; exact Or.inr h
  have hS : va_S A s.heap s.heap [] := va_S.rf
  have hl := lv_entry ([.ref x, .int p0, .ref oA]) (n := 4) (Nat.le_of_ble_eq_true rfl)
  rw [lg_entry_eq]
  generalize (lg_sl ([.ref x, .int p0, .ref oA]) ++ List.replicate (4 - (lg_sl ([.ref x, .int p0, .ref oA])).length) Slot.unset).toArray = ls at hl ⊢
  have hl : lv_has ls 4 [(0, .ref x), (1, .int p0), (2, .ref oA)] := hl
  have hT : c.exceptionTable.toList = tableOf [(0, 9, 12, 32)] := vx_table (x := yL_reset) B (atoms_spec (ws := Cond.codeWith yL_reset cL_reset 4 (some .int) [(0, 9, 12, 32)] :: BG) B.pre _ List.mem_cons_self)
  have hFc := va_free (wc := [(x, .inr (12, xg)), (chA, .inl (chC, (4, .inr (.inr (.inr (.inr chF)))))), (ch0, .inr (2, chg0)), (ch1, .inr (2, chg1)), (ch2, .inr (2, chg2)), (ch3, .inr (2, chg3))]) hD hS hA [0, 1, 2, 3, 4, 5] rfl
  have hPc := hP.sub (ws' := [(x, .inr (12, xg)), (chA, .inl (chC, (4, .inr (.inr (.inr (.inr chF)))))), (ch0, .inr (2, chg0)), (ch1, .inr (2, chg1)), (ch2, .inr (2, chg2)), (ch3, .inr (2, chg3))]) [0, 1, 2, 3, 4, 5] rfl
  have hDc := hD.sub (ws' := [(x, .inr (12, xg)), (chA, .inl (chC, (4, .inr (.inr (.inr (.inr chF)))))), (ch0, .inr (2, chg0)), (ch1, .inr (2, chg1)), (ch2, .inr (2, chg2)), (ch3, .inr (2, chg3))]) [0, 1, 2, 3, 4, 5] (by decide) rfl
  have hKc := hK.sub (tys' := [(chC, .object "ChipFlow$Chip")]) [0] rfl
  have hK9 := hK.sub (tys' := [(oC, .long)]) [1] rfl
  refine lv_aload_n hx hb dL_reset_0 rfl (lv_at hl 2 rfl) ?_
  refine lv_iconst (v := 0) hx hb dL_reset_1 (by decide +kernel) ?_
  refine lv_aload_n hx hb dL_reset_2 rfl (lv_at hl 0 rfl) ?_
  refine lv_iload_n hx hb dL_reset_3 rfl (lv_at hl 1 rfl) ?_
  refine vq_thr (vx_runV (As := [.int p0]) (rest := [.int 0, .ref oA]) ⟨hx, hb, hml, hown, hts⟩ (ct_X12_reset l hlt dC dI s.heap.size p0 x xg chA chC chF ch0 ch1 ch2 ch3 chg0 chg1 chg2 chg3 hchg0 hchF0 hchg1 hchF1 hchg2 hchF2 hchg3 hchF3 hxg) (cwV 1 hts (gi_V wd_2177 wd_2178 wd_2179 wd_327 wd_2180) rfl rfl rfl (by decide +kernel) ⟨(Nat.le_of_ble_eq_true rfl), (Nat.le_of_ble_eq_true rfl)⟩) ⟨fun a U g mk q => by obtain ⟨q0, q1, qP, qK, qD, qT⟩ := q; exact ⟨q0, q1, qP, va_K.moved (u := U) (U := U.calling g mk a) (Vm.Alike.refl U.vm) qK, qD, th.moved (u := U) (U := U.calling g mk a) (Vm.Alike.refl U.vm) qT⟩, va_recv hKc hPc (ci := 12) (q0 := 0) rfl rfl, fun U hU hW => ⟨rfl, by rw [hU], by rw [hU]; exact hPc, va_K.moved hW.alike hKc, hDc.weaken (fun _ _ _ _ => trivial), by rw [hU]; exact (hth.narrow hFc).moved hW.alike⟩⟩ rfl rfl hl.1 rfl (lv_room (Nat.le_of_ble_eq_true rfl)) dL_reset_4 ⟨(Nat.le_of_ble_eq_true rfl), (Nat.le_of_ble_eq_true rfl)⟩) (fun _ _ _ h => h) hS hFc (fun q _ h => hFc q h) (fun E ce q9 u t H1 locs ht hvm hp hB hz hk hS hce hcv hcl => ?_)
  subst hB
  obtain ⟨hP, hD⟩ := va_join (wr := [(oA, .inl (oC, (1, .inr (.inl oF))))]) (w1 := []) hP hD [0, 1, 2, 3, 4, 5] [6] rfl rfl (by decide) (by decide) hk hFc po_nilP po_nilD
  have hP : va_P (dC, dI) CL [(oA, .inl (oC, (1, .inr (.inl oF))))] H1 := hP
  have hD : va_D A [(oA, .inl (oC, (1, .inr (.inl oF))))] := hD
  refine vx_catch (own := RL) (name := "java/lang/IndexOutOfBoundsException") hown [] { startPc := 0, endPc := 9, handlerPc := 12, catchType := 32 } [] (by rw [hT]; rfl) (fun _ h => nomatch h) (by decide) (by decide) (hts (.classLink RL 32 "java/lang/IndexOutOfBoundsException") wd_1804) (hth.cast (by decide)) hce hcv hcl ?_
  refine lv_astore_n (lv' := [(3, .ref q9), (0, .ref x), (1, .int p0), (2, .ref oA)]) hx hb dL_reset_12 rfl hl (by decide) rfl (fun ls hl => ?_)
  refine lv_iconst (v := 1) hx hb dL_reset_13 (by decide +kernel) ?_
  refine W.widen (k := 1) (n := 6) (Nat.le_of_ble_eq_true rfl) (Nat.le_of_ble_eq_true rfl) ?_
  exact W.iret (v := 1) hx hb hr (fun t ht hW => ⟨⟨1, (), rfl, rfl, by rw [ht]; exact hP, va_K.moved hW.alike hK9, hD⟩, hS.F ht⟩) hS.2.2 dL_reset_14
set_option maxHeartbeats 4000000 in
set_option maxRecDepth 100000 in
theorem ct_L_proves (l : Launch) (hlt : l.stackTraces = false) (dC : Nat → ClassId) (dI : Nat → Nat → Nat) (sz : Nat) (p0 p1 : Int32) (x : Nat) (xg : List Value) (chA : Nat) (chC : ClassId) (chF : Nat → Option Nat) (ch0 ch1 ch2 ch3 : Nat) (chg0 chg1 chg2 chg3 : List Value) (hchg0 : fx chg0 20 [(0, .int 0)]) (hchF0 : chF 0 = some ch0) (hchg1 : fx chg1 20 [(0, .int 0)]) (hchF1 : chF 1 = some ch1) (hchg2 : fx chg2 20 [(0, .int 0)]) (hchF2 : chF 2 = some ch2) (hchg3 : fx chg3 20 [(0, .int 0)]) (hchF3 : chF 3 = some ch3) (oA : Nat) (oC : ClassId) (oF : Nat → Int64) (hxg : fx xg 17 [(9, .ref chA)]) : Met l yL_proves (Cond.codeWith yL_proves cL_proves 5 (some .int) [(0, 10, 13, 32), (0, 10, 17, 19)] :: BG) ({ frames := 9, cells := 1, slots := 6, locals := 200 }) (va_Pc [.ref x, .int p0, .int p1, .ref oA] (fun U => U.heap.size = sz ∧ va_P (dC, dI) CL [(x, .inr (12, xg)), (chA, .inl (chC, (4, .inr (.inr (.inr (.inr chF)))))), (ch0, .inr (2, chg0)), (ch1, .inr (2, chg1)), (ch2, .inr (2, chg2)), (ch3, .inr (2, chg3)), (oA, .inl (oC, (1, .inr (.inl oF))))] U.heap ∧ va_K (dC, dI) CL [(chC, .object "ChipFlow$Chip"), (oC, .long)] U ∧ va_D (fun _ => True) [(x, .inr (12, xg)), (chA, .inl (chC, (4, .inr (.inr (.inr (.inr chF)))))), (ch0, .inr (2, chg0)), (ch1, .inr (2, chg1)), (ch2, .inr (2, chg2)), (ch3, .inr (2, chg3)), (oA, .inl (oC, (1, .inr (.inl oF))))] ∧ th (va_A [(x, .inr (12, xg)), (chA, .inl (chC, (4, .inr (.inr (.inr (.inr chF)))))), (ch0, .inr (2, chg0)), (ch1, .inr (2, chg1)), (ch2, .inr (2, chg2)), (ch3, .inr (2, chg3)), (oA, .inl (oC, (1, .inr (.inl oF))))] sz) U U.heap)) (va_Qi (fun (r : Int32) (_ : Unit) => r = 1) (fun _ t => va_P (dC, dI) CL [(oA, .inl (oC, (1, .inr (.inl oF))))] t.heap ∧ va_K (dC, dI) CL [(oC, .long)] t ∧ va_D (va_A [(x, .inr (12, xg)), (chA, .inl (chC, (4, .inr (.inr (.inr (.inr chF)))))), (ch0, .inr (2, chg0)), (ch1, .inr (2, chg1)), (ch2, .inr (2, chg2)), (ch3, .inr (2, chg3)), (oA, .inl (oC, (1, .inr (.inl oF))))] sz) [(oA, .inl (oC, (1, .inr (.inl oF))))]) (va_A [(x, .inr (12, xg)), (chA, .inl (chC, (4, .inr (.inr (.inr (.inr chF)))))), (ch0, .inr (2, chg0)), (ch1, .inr (2, chg1)), (ch2, .inr (2, chg2)), (ch3, .inr (2, chg3)), (oA, .inl (oC, (1, .inr (.inl oF))))] sz)) 1 6 (va_A [(x, .inr (12, xg)), (chA, .inl (chC, (4, .inr (.inr (.inr (.inr chF)))))), (ch0, .inr (2, chg0)), (ch1, .inr (2, chg1)), (ch2, .inr (2, chg2)), (ch3, .inr (2, chg3)), (oA, .inl (oC, (1, .inr (.inl oF))))] sz) := by
  refine va_MetW (hh := [(0, 10, 13, 32), (0, 10, 17, 19)]) (cc := cL_proves) (maxL := 5) (ret := (some .int)) (by decide) rfl ?_
  intro p e s m args below meth c s₁ B hml hv
  obtain ⟨rfl, hsz, hP, hK, hD0, hth⟩ := hv
  have hx := B.exec
  have hb := B.bytes
  have hr := B.returns
  have hts : ∀ w ∈ BG, w.before _ s = true := fun w h => atoms_spec (ws := Cond.codeWith yL_proves cL_proves 5 (some .int) [(0, 10, 13, 32), (0, 10, 17, 19)] :: BG) B.pre w (List.mem_cons_of_mem _ h)
  have hown : s.vm.findClass RL = some m.cls := findClass_of_methodNamed B.named
  have hlocks := B.notSynchronized
  subst hsz
  have hD := hD0.self (sz := s.heap.size)
  generalize hAe : va_A [(x, .inr (12, xg)), (chA, .inl (chC, (4, .inr (.inr (.inr (.inr chF)))))), (ch0, .inr (2, chg0)), (ch1, .inr (2, chg1)), (ch2, .inr (2, chg2)), (ch3, .inr (2, chg3)), (oA, .inl (oC, (1, .inr (.inl oF))))] s.heap.size = A at hD hth ⊢
  have hA : ∀ q : Nat, s.heap.size ≤ q → A q := fun q h => by rw [← hAe]; exact Or.inr h
  have hS : va_S A s.heap s.heap [] := va_S.rf
  have hl := lv_entry ([.ref x, .int p0, .int p1, .ref oA]) (n := 5) (Nat.le_of_ble_eq_true rfl)
  rw [lg_entry_eq]
  generalize (lg_sl ([.ref x, .int p0, .int p1, .ref oA]) ++ List.replicate (5 - (lg_sl ([.ref x, .int p0, .int p1, .ref oA])).length) Slot.unset).toArray = ls at hl ⊢
  have hl : lv_has ls 5 [(0, .ref x), (1, .int p0), (2, .int p1), (3, .ref oA)] := hl
  have hT : c.exceptionTable.toList = tableOf [(0, 10, 13, 32), (0, 10, 17, 19)] := vx_table (x := yL_proves) B (atoms_spec (ws := Cond.codeWith yL_proves cL_proves 5 (some .int) [(0, 10, 13, 32), (0, 10, 17, 19)] :: BG) B.pre _ List.mem_cons_self)
  have hFc := va_free (wc := [(x, .inr (12, xg)), (chA, .inl (chC, (4, .inr (.inr (.inr (.inr chF)))))), (ch0, .inr (2, chg0)), (ch1, .inr (2, chg1)), (ch2, .inr (2, chg2)), (ch3, .inr (2, chg3))]) hD hS hA [0, 1, 2, 3, 4, 5] rfl
  have hPc := hP.sub (ws' := [(x, .inr (12, xg)), (chA, .inl (chC, (4, .inr (.inr (.inr (.inr chF)))))), (ch0, .inr (2, chg0)), (ch1, .inr (2, chg1)), (ch2, .inr (2, chg2)), (ch3, .inr (2, chg3))]) [0, 1, 2, 3, 4, 5] rfl
  have hDc := hD.sub (ws' := [(x, .inr (12, xg)), (chA, .inl (chC, (4, .inr (.inr (.inr (.inr chF)))))), (ch0, .inr (2, chg0)), (ch1, .inr (2, chg1)), (ch2, .inr (2, chg2)), (ch3, .inr (2, chg3))]) [0, 1, 2, 3, 4, 5] (by decide) rfl
  have hKc := hK.sub (tys' := [(chC, .object "ChipFlow$Chip")]) [0] rfl
  have hK9 := hK.sub (tys' := [(oC, .long)]) [1] rfl
  refine lv_aload_n hx hb dL_proves_0 rfl (lv_at hl 3 rfl) ?_
  refine lv_iconst (v := 0) hx hb dL_proves_1 (by decide +kernel) ?_
  refine lv_aload_n hx hb dL_proves_2 rfl (lv_at hl 0 rfl) ?_
  refine lv_iload_n hx hb dL_proves_3 rfl (lv_at hl 1 rfl) ?_
  refine lv_iload_n hx hb dL_proves_4 rfl (lv_at hl 2 rfl) ?_
  refine vq_thr (vx_runV (As := [.int p0, .int p1]) (rest := [.int 0, .ref oA]) ⟨hx, hb, hml, hown, hts⟩ (ct_X12_proves l hlt dC dI s.heap.size p0 p1 x xg chA chC chF ch0 ch1 ch2 ch3 chg0 chg1 chg2 chg3 hchg0 hchF0 hchg1 hchF1 hchg2 hchF2 hchg3 hchF3 hxg) (cwV 2 hts (gi_V wd_2184 wd_2185 wd_2186 wd_327 wd_2187) rfl rfl rfl (by decide +kernel) ⟨(Nat.le_of_ble_eq_true rfl), (Nat.le_of_ble_eq_true rfl)⟩) ⟨fun a U g mk q => by obtain ⟨q0, q1, qP, qK, qD, qT⟩ := q; exact ⟨q0, q1, qP, va_K.moved (u := U) (U := U.calling g mk a) (Vm.Alike.refl U.vm) qK, qD, th.moved (u := U) (U := U.calling g mk a) (Vm.Alike.refl U.vm) qT⟩, va_recv hKc hPc (ci := 12) (q0 := 0) rfl rfl, fun U hU hW => ⟨rfl, by rw [hU], by rw [hU]; exact hPc, va_K.moved hW.alike hKc, hDc.weaken (fun _ _ _ _ => trivial), by rw [hU]; exact (hth.narrow hFc).moved hW.alike⟩⟩ rfl rfl hl.1 rfl (lv_room (Nat.le_of_ble_eq_true rfl)) dL_proves_5 ⟨(Nat.le_of_ble_eq_true rfl), (Nat.le_of_ble_eq_true rfl)⟩) (fun _ _ _ h => h) hS hFc (fun q _ h => hFc q h) (fun E ce q9 u t H1 locs ht hvm hp hB hz hk hS hce hcv hcl => ?_)
  subst hB
  obtain ⟨hP, hD⟩ := va_join (wr := [(oA, .inl (oC, (1, .inr (.inl oF))))]) (w1 := []) hP hD [0, 1, 2, 3, 4, 5] [6] rfl rfl (by decide) (by decide) hk hFc po_nilP po_nilD
  have hP : va_P (dC, dI) CL [(oA, .inl (oC, (1, .inr (.inl oF))))] H1 := hP
  have hD : va_D A [(oA, .inl (oC, (1, .inr (.inl oF))))] := hD
  refine vx_catch (own := RL) (name := "java/lang/IndexOutOfBoundsException") hown [] { startPc := 0, endPc := 10, handlerPc := 13, catchType := 32 } [{ startPc := 0, endPc := 10, handlerPc := 17, catchType := 19 }] (by rw [hT]; rfl) (fun _ h => nomatch h) (by decide) (by decide) (hts (.classLink RL 32 "java/lang/IndexOutOfBoundsException") wd_1804) (hth.cast (by decide)) hce hcv hcl ?_
  refine lv_astore (lv' := [(4, .ref q9), (0, .ref x), (1, .int p0), (2, .int p1), (3, .ref oA)]) hx hb dL_proves_13 hl (by decide) rfl (fun ls hl => ?_)
  refine lv_iconst (v := 1) hx hb dL_proves_15 (by decide +kernel) ?_
  refine W.widen (k := 1) (n := 6) (Nat.le_of_ble_eq_true rfl) (Nat.le_of_ble_eq_true rfl) ?_
  exact W.iret (v := 1) hx hb hr (fun t ht hW => ⟨⟨1, (), rfl, rfl, by rw [ht]; exact hP, va_K.moved hW.alike hK9, hD⟩, hS.F ht⟩) hS.2.2 dL_proves_16
set_option maxHeartbeats 4000000 in
set_option maxRecDepth 100000 in
theorem ct_L_place (l : Launch) (hlt : l.stackTraces = false) (dC : Nat → ClassId) (dI : Nat → Nat → Nat) (sz : Nat) (p0 p1 : Int32) (x : Nat) (xg : List Value) (chA : Nat) (chC : ClassId) (chF : Nat → Option Nat) (ch0 ch1 ch2 ch3 : Nat) (chg0 chg1 chg2 chg3 : List Value) (hchg0 : fx chg0 20 [(0, .int 0)]) (hchF0 : chF 0 = some ch0) (hchg1 : fx chg1 20 [(0, .int 0)]) (hchF1 : chF 1 = some ch1) (hchg2 : fx chg2 20 [(0, .int 0)]) (hchF2 : chF 2 = some ch2) (hchg3 : fx chg3 20 [(0, .int 0)]) (hchF3 : chF 3 = some ch3) (oA : Nat) (oC : ClassId) (oF : Nat → Int64) (hxg : fx xg 17 [(9, .ref chA)]) : Met l yL_place (Cond.codeWith yL_place cL_place 5 (some .int) [(0, 10, 13, 32), (0, 10, 17, 19)] :: BG) ({ frames := 9, cells := 1, slots := 6, locals := 200 }) (va_Pc [.ref x, .int p0, .int p1, .ref oA] (fun U => U.heap.size = sz ∧ va_P (dC, dI) CL [(x, .inr (12, xg)), (chA, .inl (chC, (4, .inr (.inr (.inr (.inr chF)))))), (ch0, .inr (2, chg0)), (ch1, .inr (2, chg1)), (ch2, .inr (2, chg2)), (ch3, .inr (2, chg3)), (oA, .inl (oC, (1, .inr (.inl oF))))] U.heap ∧ va_K (dC, dI) CL [(chC, .object "ChipFlow$Chip"), (oC, .long)] U ∧ va_D (fun _ => True) [(x, .inr (12, xg)), (chA, .inl (chC, (4, .inr (.inr (.inr (.inr chF)))))), (ch0, .inr (2, chg0)), (ch1, .inr (2, chg1)), (ch2, .inr (2, chg2)), (ch3, .inr (2, chg3)), (oA, .inl (oC, (1, .inr (.inl oF))))] ∧ th (va_A [(x, .inr (12, xg)), (chA, .inl (chC, (4, .inr (.inr (.inr (.inr chF)))))), (ch0, .inr (2, chg0)), (ch1, .inr (2, chg1)), (ch2, .inr (2, chg2)), (ch3, .inr (2, chg3)), (oA, .inl (oC, (1, .inr (.inl oF))))] sz) U U.heap)) (va_Qi (fun (r : Int32) (_ : Unit) => r = 1) (fun _ t => va_P (dC, dI) CL [(oA, .inl (oC, (1, .inr (.inl oF))))] t.heap ∧ va_K (dC, dI) CL [(oC, .long)] t ∧ va_D (va_A [(x, .inr (12, xg)), (chA, .inl (chC, (4, .inr (.inr (.inr (.inr chF)))))), (ch0, .inr (2, chg0)), (ch1, .inr (2, chg1)), (ch2, .inr (2, chg2)), (ch3, .inr (2, chg3)), (oA, .inl (oC, (1, .inr (.inl oF))))] sz) [(oA, .inl (oC, (1, .inr (.inl oF))))]) (va_A [(x, .inr (12, xg)), (chA, .inl (chC, (4, .inr (.inr (.inr (.inr chF)))))), (ch0, .inr (2, chg0)), (ch1, .inr (2, chg1)), (ch2, .inr (2, chg2)), (ch3, .inr (2, chg3)), (oA, .inl (oC, (1, .inr (.inl oF))))] sz)) 1 6 (va_A [(x, .inr (12, xg)), (chA, .inl (chC, (4, .inr (.inr (.inr (.inr chF)))))), (ch0, .inr (2, chg0)), (ch1, .inr (2, chg1)), (ch2, .inr (2, chg2)), (ch3, .inr (2, chg3)), (oA, .inl (oC, (1, .inr (.inl oF))))] sz) := by
  refine va_MetW (hh := [(0, 10, 13, 32), (0, 10, 17, 19)]) (cc := cL_place) (maxL := 5) (ret := (some .int)) (by decide) rfl ?_
  intro p e s m args below meth c s₁ B hml hv
  obtain ⟨rfl, hsz, hP, hK, hD0, hth⟩ := hv
  have hx := B.exec
  have hb := B.bytes
  have hr := B.returns
  have hts : ∀ w ∈ BG, w.before _ s = true := fun w h => atoms_spec (ws := Cond.codeWith yL_place cL_place 5 (some .int) [(0, 10, 13, 32), (0, 10, 17, 19)] :: BG) B.pre w (List.mem_cons_of_mem _ h)
  have hown : s.vm.findClass RL = some m.cls := findClass_of_methodNamed B.named
  have hlocks := B.notSynchronized
  subst hsz
  have hD := hD0.self (sz := s.heap.size)
  generalize hAe : va_A [(x, .inr (12, xg)), (chA, .inl (chC, (4, .inr (.inr (.inr (.inr chF)))))), (ch0, .inr (2, chg0)), (ch1, .inr (2, chg1)), (ch2, .inr (2, chg2)), (ch3, .inr (2, chg3)), (oA, .inl (oC, (1, .inr (.inl oF))))] s.heap.size = A at hD hth ⊢
  have hA : ∀ q : Nat, s.heap.size ≤ q → A q := fun q h => by rw [← hAe]; exact Or.inr h
  have hS : va_S A s.heap s.heap [] := va_S.rf
  have hl := lv_entry ([.ref x, .int p0, .int p1, .ref oA]) (n := 5) (Nat.le_of_ble_eq_true rfl)
  rw [lg_entry_eq]
  generalize (lg_sl ([.ref x, .int p0, .int p1, .ref oA]) ++ List.replicate (5 - (lg_sl ([.ref x, .int p0, .int p1, .ref oA])).length) Slot.unset).toArray = ls at hl ⊢
  have hl : lv_has ls 5 [(0, .ref x), (1, .int p0), (2, .int p1), (3, .ref oA)] := hl
  have hT : c.exceptionTable.toList = tableOf [(0, 10, 13, 32), (0, 10, 17, 19)] := vx_table (x := yL_place) B (atoms_spec (ws := Cond.codeWith yL_place cL_place 5 (some .int) [(0, 10, 13, 32), (0, 10, 17, 19)] :: BG) B.pre _ List.mem_cons_self)
  have hFc := va_free (wc := [(x, .inr (12, xg)), (chA, .inl (chC, (4, .inr (.inr (.inr (.inr chF)))))), (ch0, .inr (2, chg0)), (ch1, .inr (2, chg1)), (ch2, .inr (2, chg2)), (ch3, .inr (2, chg3))]) hD hS hA [0, 1, 2, 3, 4, 5] rfl
  have hPc := hP.sub (ws' := [(x, .inr (12, xg)), (chA, .inl (chC, (4, .inr (.inr (.inr (.inr chF)))))), (ch0, .inr (2, chg0)), (ch1, .inr (2, chg1)), (ch2, .inr (2, chg2)), (ch3, .inr (2, chg3))]) [0, 1, 2, 3, 4, 5] rfl
  have hDc := hD.sub (ws' := [(x, .inr (12, xg)), (chA, .inl (chC, (4, .inr (.inr (.inr (.inr chF)))))), (ch0, .inr (2, chg0)), (ch1, .inr (2, chg1)), (ch2, .inr (2, chg2)), (ch3, .inr (2, chg3))]) [0, 1, 2, 3, 4, 5] (by decide) rfl
  have hKc := hK.sub (tys' := [(chC, .object "ChipFlow$Chip")]) [0] rfl
  have hK9 := hK.sub (tys' := [(oC, .long)]) [1] rfl
  refine lv_aload_n hx hb dL_place_0 rfl (lv_at hl 3 rfl) ?_
  refine lv_iconst (v := 0) hx hb dL_place_1 (by decide +kernel) ?_
  refine lv_aload_n hx hb dL_place_2 rfl (lv_at hl 0 rfl) ?_
  refine lv_iload_n hx hb dL_place_3 rfl (lv_at hl 1 rfl) ?_
  refine lv_iload_n hx hb dL_place_4 rfl (lv_at hl 2 rfl) ?_
  refine vq_thr (vx_runV (As := [.int p0, .int p1]) (rest := [.int 0, .ref oA]) ⟨hx, hb, hml, hown, hts⟩ (ct_X12_place l hlt dC dI s.heap.size p0 p1 x xg chA chC chF ch0 ch1 ch2 ch3 chg0 chg1 chg2 chg3 hchg0 hchF0 hchg1 hchF1 hchg2 hchF2 hchg3 hchF3 hxg) (cwV 2 hts (gi_V wd_2191 wd_2192 wd_2193 wd_327 wd_2194) rfl rfl rfl (by decide +kernel) ⟨(Nat.le_of_ble_eq_true rfl), (Nat.le_of_ble_eq_true rfl)⟩) ⟨fun a U g mk q => by obtain ⟨q0, q1, qP, qK, qD, qT⟩ := q; exact ⟨q0, q1, qP, va_K.moved (u := U) (U := U.calling g mk a) (Vm.Alike.refl U.vm) qK, qD, th.moved (u := U) (U := U.calling g mk a) (Vm.Alike.refl U.vm) qT⟩, va_recv hKc hPc (ci := 12) (q0 := 0) rfl rfl, fun U hU hW => ⟨rfl, by rw [hU], by rw [hU]; exact hPc, va_K.moved hW.alike hKc, hDc.weaken (fun _ _ _ _ => trivial), by rw [hU]; exact (hth.narrow hFc).moved hW.alike⟩⟩ rfl rfl hl.1 rfl (lv_room (Nat.le_of_ble_eq_true rfl)) dL_place_5 ⟨(Nat.le_of_ble_eq_true rfl), (Nat.le_of_ble_eq_true rfl)⟩) (fun _ _ _ h => h) hS hFc (fun q _ h => hFc q h) (fun E ce q9 u t H1 locs ht hvm hp hB hz hk hS hce hcv hcl => ?_)
  subst hB
  obtain ⟨hP, hD⟩ := va_join (wr := [(oA, .inl (oC, (1, .inr (.inl oF))))]) (w1 := []) hP hD [0, 1, 2, 3, 4, 5] [6] rfl rfl (by decide) (by decide) hk hFc po_nilP po_nilD
  have hP : va_P (dC, dI) CL [(oA, .inl (oC, (1, .inr (.inl oF))))] H1 := hP
  have hD : va_D A [(oA, .inl (oC, (1, .inr (.inl oF))))] := hD
  refine vx_catch (own := RL) (name := "java/lang/IndexOutOfBoundsException") hown [] { startPc := 0, endPc := 10, handlerPc := 13, catchType := 32 } [{ startPc := 0, endPc := 10, handlerPc := 17, catchType := 19 }] (by rw [hT]; rfl) (fun _ h => nomatch h) (by decide) (by decide) (hts (.classLink RL 32 "java/lang/IndexOutOfBoundsException") wd_1804) (hth.cast (by decide)) hce hcv hcl ?_
  refine lv_astore (lv' := [(4, .ref q9), (0, .ref x), (1, .int p0), (2, .int p1), (3, .ref oA)]) hx hb dL_place_13 hl (by decide) rfl (fun ls hl => ?_)
  refine lv_iconst (v := 1) hx hb dL_place_15 (by decide +kernel) ?_
  refine W.widen (k := 1) (n := 6) (Nat.le_of_ble_eq_true rfl) (Nat.le_of_ble_eq_true rfl) ?_
  exact W.iret (v := 1) hx hb hr (fun t ht hW => ⟨⟨1, (), rfl, rfl, by rw [ht]; exact hP, va_K.moved hW.alike hK9, hD⟩, hS.F ht⟩) hS.2.2 dL_place_16
set_option maxHeartbeats 4000000 in
set_option maxRecDepth 100000 in
theorem ct_L_at (l : Launch) (hlt : l.stackTraces = false) (dC : Nat → ClassId) (dI : Nat → Nat → Nat) (sz : Nat) (p0 p1 p2 : Int32) (x : Nat) (xg : List Value) (chA : Nat) (chC : ClassId) (chF : Nat → Option Nat) (ch0 ch1 ch2 ch3 : Nat) (chg0 chg1 chg2 chg3 : List Value) (hchg0 : fx chg0 20 [(0, .int 0)]) (hchF0 : chF 0 = some ch0) (hchg1 : fx chg1 20 [(0, .int 0)]) (hchF1 : chF 1 = some ch1) (hchg2 : fx chg2 20 [(0, .int 0)]) (hchF2 : chF 2 = some ch2) (hchg3 : fx chg3 20 [(0, .int 0)]) (hchF3 : chF 3 = some ch3) (oA : Nat) (oC : ClassId) (oF : Nat → Int64) (hxg : fx xg 17 [(9, .ref chA)]) : Met l yL_at (Cond.codeWith yL_at cL_at 6 (some .int) [(0, 12, 15, 32), (0, 12, 19, 19), (0, 12, 23, 105)] :: BG) ({ frames := 9, cells := 1, slots := 6, locals := 200 }) (va_Pc [.ref x, .int p0, .int p1, .int p2, .ref oA] (fun U => U.heap.size = sz ∧ va_P (dC, dI) CL [(x, .inr (12, xg)), (chA, .inl (chC, (4, .inr (.inr (.inr (.inr chF)))))), (ch0, .inr (2, chg0)), (ch1, .inr (2, chg1)), (ch2, .inr (2, chg2)), (ch3, .inr (2, chg3)), (oA, .inl (oC, (1, .inr (.inl oF))))] U.heap ∧ va_K (dC, dI) CL [(chC, .object "ChipFlow$Chip"), (oC, .long)] U ∧ va_D (fun _ => True) [(x, .inr (12, xg)), (chA, .inl (chC, (4, .inr (.inr (.inr (.inr chF)))))), (ch0, .inr (2, chg0)), (ch1, .inr (2, chg1)), (ch2, .inr (2, chg2)), (ch3, .inr (2, chg3)), (oA, .inl (oC, (1, .inr (.inl oF))))] ∧ th (va_A [(x, .inr (12, xg)), (chA, .inl (chC, (4, .inr (.inr (.inr (.inr chF)))))), (ch0, .inr (2, chg0)), (ch1, .inr (2, chg1)), (ch2, .inr (2, chg2)), (ch3, .inr (2, chg3)), (oA, .inl (oC, (1, .inr (.inl oF))))] sz) U U.heap)) (va_Qi (fun (r : Int32) (_ : Unit) => r = 1) (fun _ t => va_P (dC, dI) CL [(oA, .inl (oC, (1, .inr (.inl oF))))] t.heap ∧ va_K (dC, dI) CL [(oC, .long)] t ∧ va_D (va_A [(x, .inr (12, xg)), (chA, .inl (chC, (4, .inr (.inr (.inr (.inr chF)))))), (ch0, .inr (2, chg0)), (ch1, .inr (2, chg1)), (ch2, .inr (2, chg2)), (ch3, .inr (2, chg3)), (oA, .inl (oC, (1, .inr (.inl oF))))] sz) [(oA, .inl (oC, (1, .inr (.inl oF))))]) (va_A [(x, .inr (12, xg)), (chA, .inl (chC, (4, .inr (.inr (.inr (.inr chF)))))), (ch0, .inr (2, chg0)), (ch1, .inr (2, chg1)), (ch2, .inr (2, chg2)), (ch3, .inr (2, chg3)), (oA, .inl (oC, (1, .inr (.inl oF))))] sz)) 1 6 (va_A [(x, .inr (12, xg)), (chA, .inl (chC, (4, .inr (.inr (.inr (.inr chF)))))), (ch0, .inr (2, chg0)), (ch1, .inr (2, chg1)), (ch2, .inr (2, chg2)), (ch3, .inr (2, chg3)), (oA, .inl (oC, (1, .inr (.inl oF))))] sz) := by
  refine va_MetW (hh := [(0, 12, 15, 32), (0, 12, 19, 19), (0, 12, 23, 105)]) (cc := cL_at) (maxL := 6) (ret := (some .int)) (by decide) rfl ?_
  intro p e s m args below meth c s₁ B hml hv
  obtain ⟨rfl, hsz, hP, hK, hD0, hth⟩ := hv
  have hx := B.exec
  have hb := B.bytes
  have hr := B.returns
  have hts : ∀ w ∈ BG, w.before _ s = true := fun w h => atoms_spec (ws := Cond.codeWith yL_at cL_at 6 (some .int) [(0, 12, 15, 32), (0, 12, 19, 19), (0, 12, 23, 105)] :: BG) B.pre w (List.mem_cons_of_mem _ h)
  have hown : s.vm.findClass RL = some m.cls := findClass_of_methodNamed B.named
  have hlocks := B.notSynchronized
  subst hsz
  have hD := hD0.self (sz := s.heap.size)
  generalize hAe : va_A [(x, .inr (12, xg)), (chA, .inl (chC, (4, .inr (.inr (.inr (.inr chF)))))), (ch0, .inr (2, chg0)), (ch1, .inr (2, chg1)), (ch2, .inr (2, chg2)), (ch3, .inr (2, chg3)), (oA, .inl (oC, (1, .inr (.inl oF))))] s.heap.size = A at hD hth ⊢
  have hA : ∀ q : Nat, s.heap.size ≤ q → A q := fun q h => by rw [← hAe]; exact Or.inr h
  have hS : va_S A s.heap s.heap [] := va_S.rf
  have hl := lv_entry ([.ref x, .int p0, .int p1, .int p2, .ref oA]) (n := 6) (Nat.le_of_ble_eq_true rfl)
  rw [lg_entry_eq]
  generalize (lg_sl ([.ref x, .int p0, .int p1, .int p2, .ref oA]) ++ List.replicate (6 - (lg_sl ([.ref x, .int p0, .int p1, .int p2, .ref oA])).length) Slot.unset).toArray = ls at hl ⊢
  have hl : lv_has ls 6 [(0, .ref x), (1, .int p0), (2, .int p1), (3, .int p2), (4, .ref oA)] := hl
  have hT : c.exceptionTable.toList = tableOf [(0, 12, 15, 32), (0, 12, 19, 19), (0, 12, 23, 105)] := vx_table (x := yL_at) B (atoms_spec (ws := Cond.codeWith yL_at cL_at 6 (some .int) [(0, 12, 15, 32), (0, 12, 19, 19), (0, 12, 23, 105)] :: BG) B.pre _ List.mem_cons_self)
  have hFc := va_free (wc := [(x, .inr (12, xg)), (chA, .inl (chC, (4, .inr (.inr (.inr (.inr chF)))))), (ch0, .inr (2, chg0)), (ch1, .inr (2, chg1)), (ch2, .inr (2, chg2)), (ch3, .inr (2, chg3))]) hD hS hA [0, 1, 2, 3, 4, 5] rfl
  have hPc := hP.sub (ws' := [(x, .inr (12, xg)), (chA, .inl (chC, (4, .inr (.inr (.inr (.inr chF)))))), (ch0, .inr (2, chg0)), (ch1, .inr (2, chg1)), (ch2, .inr (2, chg2)), (ch3, .inr (2, chg3))]) [0, 1, 2, 3, 4, 5] rfl
  have hDc := hD.sub (ws' := [(x, .inr (12, xg)), (chA, .inl (chC, (4, .inr (.inr (.inr (.inr chF)))))), (ch0, .inr (2, chg0)), (ch1, .inr (2, chg1)), (ch2, .inr (2, chg2)), (ch3, .inr (2, chg3))]) [0, 1, 2, 3, 4, 5] (by decide) rfl
  have hKc := hK.sub (tys' := [(chC, .object "ChipFlow$Chip")]) [0] rfl
  have hK9 := hK.sub (tys' := [(oC, .long)]) [1] rfl
  refine lv_aload hx hb dL_at_0 (lv_at hl 4 rfl) ?_
  refine lv_iconst (v := 0) hx hb dL_at_2 (by decide +kernel) ?_
  refine lv_aload_n hx hb dL_at_3 rfl (lv_at hl 0 rfl) ?_
  refine lv_iload_n hx hb dL_at_4 rfl (lv_at hl 1 rfl) ?_
  refine lv_iload_n hx hb dL_at_5 rfl (lv_at hl 2 rfl) ?_
  refine lv_iload_n hx hb dL_at_6 rfl (lv_at hl 3 rfl) ?_
  refine vq_thr (vx_runV (As := [.int p0, .int p1, .int p2]) (rest := [.int 0, .ref oA]) ⟨hx, hb, hml, hown, hts⟩ (ct_X12_at l hlt dC dI s.heap.size p0 p1 p2 x xg chA chC chF ch0 ch1 ch2 ch3 chg0 chg1 chg2 chg3 hchg0 hchF0 hchg1 hchF1 hchg2 hchF2 hchg3 hchF3 hxg) (cwV 3 hts (gi_V wd_2231 wd_2232 wd_2233 wd_327 wd_2234) rfl rfl rfl (by decide +kernel) ⟨(Nat.le_of_ble_eq_true rfl), (Nat.le_of_ble_eq_true rfl)⟩) ⟨fun a U g mk q => by obtain ⟨q0, q1, qP, qK, qD, qT⟩ := q; exact ⟨q0, q1, qP, va_K.moved (u := U) (U := U.calling g mk a) (Vm.Alike.refl U.vm) qK, qD, th.moved (u := U) (U := U.calling g mk a) (Vm.Alike.refl U.vm) qT⟩, va_recv hKc hPc (ci := 12) (q0 := 0) rfl rfl, fun U hU hW => ⟨rfl, by rw [hU], by rw [hU]; exact hPc, va_K.moved hW.alike hKc, hDc.weaken (fun _ _ _ _ => trivial), by rw [hU]; exact (hth.narrow hFc).moved hW.alike⟩⟩ rfl rfl hl.1 rfl (lv_room (Nat.le_of_ble_eq_true rfl)) dL_at_7 ⟨(Nat.le_of_ble_eq_true rfl), (Nat.le_of_ble_eq_true rfl)⟩) (fun _ _ _ h => h) hS hFc (fun q _ h => hFc q h) (fun E ce q9 u t H1 locs ht hvm hp hB hz hk hS hce hcv hcl => ?_)
  subst hB
  obtain ⟨hP, hD⟩ := va_join (wr := [(oA, .inl (oC, (1, .inr (.inl oF))))]) (w1 := []) hP hD [0, 1, 2, 3, 4, 5] [6] rfl rfl (by decide) (by decide) hk hFc po_nilP po_nilD
  have hP : va_P (dC, dI) CL [(oA, .inl (oC, (1, .inr (.inl oF))))] H1 := hP
  have hD : va_D A [(oA, .inl (oC, (1, .inr (.inl oF))))] := hD
  refine vx_catch (own := RL) (name := "java/lang/IndexOutOfBoundsException") hown [] { startPc := 0, endPc := 12, handlerPc := 15, catchType := 32 } [{ startPc := 0, endPc := 12, handlerPc := 19, catchType := 19 }, { startPc := 0, endPc := 12, handlerPc := 23, catchType := 105 }] (by rw [hT]; rfl) (fun _ h => nomatch h) (by decide) (by decide) (hts (.classLink RL 32 "java/lang/IndexOutOfBoundsException") wd_1804) (hth.cast (by decide)) hce hcv hcl ?_
  refine lv_astore (lv' := [(5, .ref q9), (0, .ref x), (1, .int p0), (2, .int p1), (3, .int p2), (4, .ref oA)]) hx hb dL_at_15 hl (by decide) rfl (fun ls hl => ?_)
  refine lv_iconst (v := 1) hx hb dL_at_17 (by decide +kernel) ?_
  refine W.widen (k := 1) (n := 6) (Nat.le_of_ble_eq_true rfl) (Nat.le_of_ble_eq_true rfl) ?_
  exact W.iret (v := 1) hx hb hr (fun t ht hW => ⟨⟨1, (), rfl, rfl, by rw [ht]; exact hP, va_K.moved hW.alike hK9, hD⟩, hS.F ht⟩) hS.2.2 dL_at_18
set_option maxHeartbeats 4000000 in
set_option maxRecDepth 100000 in
theorem ct_L_move (l : Launch) (hlt : l.stackTraces = false) (dC : Nat → ClassId) (dI : Nat → Nat → Nat) (sz : Nat) (p0 p1 p2 p3 : Int32) (x : Nat) (xg : List Value) (chA : Nat) (chC : ClassId) (chF : Nat → Option Nat) (ch0 ch1 ch2 ch3 : Nat) (chg0 chg1 chg2 chg3 : List Value) (hchg0 : fx chg0 20 [(0, .int 0)]) (hchF0 : chF 0 = some ch0) (hchg1 : fx chg1 20 [(0, .int 0)]) (hchF1 : chF 1 = some ch1) (hchg2 : fx chg2 20 [(0, .int 0)]) (hchF2 : chF 2 = some ch2) (hchg3 : fx chg3 20 [(0, .int 0)]) (hchF3 : chF 3 = some ch3) (oA : Nat) (oC : ClassId) (oF : Nat → Int64) (hxg : fx xg 17 [(9, .ref chA)]) : Met l yL_move (Cond.codeWith yL_move cL_move 7 (some .int) [(0, 21, 24, 32), (0, 21, 28, 105)] :: BG) ({ frames := 9, cells := 1, slots := 6, locals := 200 }) (va_Pc [.ref x, .int p0, .int p1, .int p2, .int p3, .ref oA] (fun U => U.heap.size = sz ∧ va_P (dC, dI) CL [(x, .inr (12, xg)), (chA, .inl (chC, (4, .inr (.inr (.inr (.inr chF)))))), (ch0, .inr (2, chg0)), (ch1, .inr (2, chg1)), (ch2, .inr (2, chg2)), (ch3, .inr (2, chg3)), (oA, .inl (oC, (1, .inr (.inl oF))))] U.heap ∧ va_K (dC, dI) CL [(chC, .object "ChipFlow$Chip"), (oC, .long)] U ∧ va_D (fun _ => True) [(x, .inr (12, xg)), (chA, .inl (chC, (4, .inr (.inr (.inr (.inr chF)))))), (ch0, .inr (2, chg0)), (ch1, .inr (2, chg1)), (ch2, .inr (2, chg2)), (ch3, .inr (2, chg3)), (oA, .inl (oC, (1, .inr (.inl oF))))] ∧ th (va_A [(x, .inr (12, xg)), (chA, .inl (chC, (4, .inr (.inr (.inr (.inr chF)))))), (ch0, .inr (2, chg0)), (ch1, .inr (2, chg1)), (ch2, .inr (2, chg2)), (ch3, .inr (2, chg3)), (oA, .inl (oC, (1, .inr (.inl oF))))] sz) U U.heap)) (va_Qi (fun (r : Int32) (_ : Unit) => r = 1) (fun _ t => va_P (dC, dI) CL [(oA, .inl (oC, (1, .inr (.inl oF))))] t.heap ∧ va_K (dC, dI) CL [(oC, .long)] t ∧ va_D (va_A [(x, .inr (12, xg)), (chA, .inl (chC, (4, .inr (.inr (.inr (.inr chF)))))), (ch0, .inr (2, chg0)), (ch1, .inr (2, chg1)), (ch2, .inr (2, chg2)), (ch3, .inr (2, chg3)), (oA, .inl (oC, (1, .inr (.inl oF))))] sz) [(oA, .inl (oC, (1, .inr (.inl oF))))]) (va_A [(x, .inr (12, xg)), (chA, .inl (chC, (4, .inr (.inr (.inr (.inr chF)))))), (ch0, .inr (2, chg0)), (ch1, .inr (2, chg1)), (ch2, .inr (2, chg2)), (ch3, .inr (2, chg3)), (oA, .inl (oC, (1, .inr (.inl oF))))] sz)) 1 6 (va_A [(x, .inr (12, xg)), (chA, .inl (chC, (4, .inr (.inr (.inr (.inr chF)))))), (ch0, .inr (2, chg0)), (ch1, .inr (2, chg1)), (ch2, .inr (2, chg2)), (ch3, .inr (2, chg3)), (oA, .inl (oC, (1, .inr (.inl oF))))] sz) := by
  refine va_MetW (hh := [(0, 21, 24, 32), (0, 21, 28, 105)]) (cc := cL_move) (maxL := 7) (ret := (some .int)) (by decide) rfl ?_
  intro p e s m args below meth c s₁ B hml hv
  obtain ⟨rfl, hsz, hP, hK, hD0, hth⟩ := hv
  have hx := B.exec
  have hb := B.bytes
  have hr := B.returns
  have hts : ∀ w ∈ BG, w.before _ s = true := fun w h => atoms_spec (ws := Cond.codeWith yL_move cL_move 7 (some .int) [(0, 21, 24, 32), (0, 21, 28, 105)] :: BG) B.pre w (List.mem_cons_of_mem _ h)
  have hown : s.vm.findClass RL = some m.cls := findClass_of_methodNamed B.named
  have hlocks := B.notSynchronized
  subst hsz
  have hD := hD0.self (sz := s.heap.size)
  generalize hAe : va_A [(x, .inr (12, xg)), (chA, .inl (chC, (4, .inr (.inr (.inr (.inr chF)))))), (ch0, .inr (2, chg0)), (ch1, .inr (2, chg1)), (ch2, .inr (2, chg2)), (ch3, .inr (2, chg3)), (oA, .inl (oC, (1, .inr (.inl oF))))] s.heap.size = A at hD hth ⊢
  have hA : ∀ q : Nat, s.heap.size ≤ q → A q := fun q h => by rw [← hAe]; exact Or.inr h
  have hS : va_S A s.heap s.heap [] := va_S.rf
  have hl := lv_entry ([.ref x, .int p0, .int p1, .int p2, .int p3, .ref oA]) (n := 7) (Nat.le_of_ble_eq_true rfl)
  rw [lg_entry_eq]
  generalize (lg_sl ([.ref x, .int p0, .int p1, .int p2, .int p3, .ref oA]) ++ List.replicate (7 - (lg_sl ([.ref x, .int p0, .int p1, .int p2, .int p3, .ref oA])).length) Slot.unset).toArray = ls at hl ⊢
  have hl : lv_has ls 7 [(0, .ref x), (1, .int p0), (2, .int p1), (3, .int p2), (4, .int p3), (5, .ref oA)] := hl
  have hT : c.exceptionTable.toList = tableOf [(0, 21, 24, 32), (0, 21, 28, 105)] := vx_table (x := yL_move) B (atoms_spec (ws := Cond.codeWith yL_move cL_move 7 (some .int) [(0, 21, 24, 32), (0, 21, 28, 105)] :: BG) B.pre _ List.mem_cons_self)
  have hFc := va_free (wc := [(x, .inr (12, xg)), (chA, .inl (chC, (4, .inr (.inr (.inr (.inr chF)))))), (ch0, .inr (2, chg0)), (ch1, .inr (2, chg1)), (ch2, .inr (2, chg2)), (ch3, .inr (2, chg3))]) hD hS hA [0, 1, 2, 3, 4, 5] rfl
  have hPc := hP.sub (ws' := [(x, .inr (12, xg)), (chA, .inl (chC, (4, .inr (.inr (.inr (.inr chF)))))), (ch0, .inr (2, chg0)), (ch1, .inr (2, chg1)), (ch2, .inr (2, chg2)), (ch3, .inr (2, chg3))]) [0, 1, 2, 3, 4, 5] rfl
  have hDc := hD.sub (ws' := [(x, .inr (12, xg)), (chA, .inl (chC, (4, .inr (.inr (.inr (.inr chF)))))), (ch0, .inr (2, chg0)), (ch1, .inr (2, chg1)), (ch2, .inr (2, chg2)), (ch3, .inr (2, chg3))]) [0, 1, 2, 3, 4, 5] (by decide) rfl
  have hKc := hK.sub (tys' := [(chC, .object "ChipFlow$Chip")]) [0] rfl
  have hK9 := hK.sub (tys' := [(oC, .long)]) [1] rfl
  refine lv_aload hx hb dL_move_0 (lv_at hl 5 rfl) ?_
  refine lv_iconst (v := 0) hx hb dL_move_2 (by decide +kernel) ?_
  refine lv_aload_n hx hb dL_move_3 rfl (lv_at hl 0 rfl) ?_
  refine lv_iload_n hx hb dL_move_4 rfl (lv_at hl 1 rfl) ?_
  refine lv_iload_n hx hb dL_move_5 rfl (lv_at hl 2 rfl) ?_
  refine lv_iload_n hx hb dL_move_6 rfl (lv_at hl 3 rfl) ?_
  refine lv_iload hx hb dL_move_7 (lv_at hl 4 rfl) ?_
  refine vq_thr (vx_runV (As := [.int p0, .int p1, .int p2, .int p3]) (rest := [.int 0, .ref oA]) ⟨hx, hb, hml, hown, hts⟩ (ct_X12_move l hlt dC dI s.heap.size p0 p1 p2 p3 x xg chA chC chF ch0 ch1 ch2 ch3 chg0 chg1 chg2 chg3 hchg0 hchF0 hchg1 hchF1 hchg2 hchF2 hchg3 hchF3 hxg) (cwV 4 hts (gi_V wd_2242 wd_2243 wd_2244 wd_327 wd_2245) rfl rfl rfl (by decide +kernel) ⟨(Nat.le_of_ble_eq_true rfl), (Nat.le_of_ble_eq_true rfl)⟩) ⟨fun a U g mk q => by obtain ⟨q0, q1, qP, qK, qD, qT⟩ := q; exact ⟨q0, q1, qP, va_K.moved (u := U) (U := U.calling g mk a) (Vm.Alike.refl U.vm) qK, qD, th.moved (u := U) (U := U.calling g mk a) (Vm.Alike.refl U.vm) qT⟩, va_recv hKc hPc (ci := 12) (q0 := 0) rfl rfl, fun U hU hW => ⟨rfl, by rw [hU], by rw [hU]; exact hPc, va_K.moved hW.alike hKc, hDc.weaken (fun _ _ _ _ => trivial), by rw [hU]; exact (hth.narrow hFc).moved hW.alike⟩⟩ rfl rfl hl.1 rfl (lv_room (Nat.le_of_ble_eq_true rfl)) dL_move_9 ⟨(Nat.le_of_ble_eq_true rfl), (Nat.le_of_ble_eq_true rfl)⟩) (fun _ _ _ h => h) hS hFc (fun q _ h => hFc q h) (fun E ce q9 u t H1 locs ht hvm hp hB hz hk hS hce hcv hcl => ?_)
  subst hB
  obtain ⟨hP, hD⟩ := va_join (wr := [(oA, .inl (oC, (1, .inr (.inl oF))))]) (w1 := []) hP hD [0, 1, 2, 3, 4, 5] [6] rfl rfl (by decide) (by decide) hk hFc po_nilP po_nilD
  have hP : va_P (dC, dI) CL [(oA, .inl (oC, (1, .inr (.inl oF))))] H1 := hP
  have hD : va_D A [(oA, .inl (oC, (1, .inr (.inl oF))))] := hD
  refine vx_catch (own := RL) (name := "java/lang/IndexOutOfBoundsException") hown [] { startPc := 0, endPc := 21, handlerPc := 24, catchType := 32 } [{ startPc := 0, endPc := 21, handlerPc := 28, catchType := 105 }] (by rw [hT]; rfl) (fun _ h => nomatch h) (by decide) (by decide) (hts (.classLink RL 32 "java/lang/IndexOutOfBoundsException") wd_1804) (hth.cast (by decide)) hce hcv hcl ?_
  refine lv_astore (lv' := [(6, .ref q9), (0, .ref x), (1, .int p0), (2, .int p1), (3, .int p2), (4, .int p3), (5, .ref oA)]) hx hb dL_move_24 hl (by decide) rfl (fun ls hl => ?_)
  refine lv_iconst (v := 1) hx hb dL_move_26 (by decide +kernel) ?_
  refine W.widen (k := 1) (n := 6) (Nat.le_of_ble_eq_true rfl) (Nat.le_of_ble_eq_true rfl) ?_
  exact W.iret (v := 1) hx hb hr (fun t ht hW => ⟨⟨1, (), rfl, rfl, by rw [ht]; exact hP, va_K.moved hW.alike hK9, hD⟩, hS.F ht⟩) hS.2.2 dL_move_27
set_option maxHeartbeats 4000000 in
set_option maxRecDepth 100000 in
theorem ct_L_improve (l : Launch) (hlt : l.stackTraces = false) (dC : Nat → ClassId) (dI : Nat → Nat → Nat) (sz : Nat) (p0 p1 : Int32) (x : Nat) (xg : List Value) (chA : Nat) (chC : ClassId) (chF : Nat → Option Nat) (ch0 ch1 ch2 ch3 : Nat) (chg0 chg1 chg2 chg3 : List Value) (hchg0 : fx chg0 20 [(0, .int 0)]) (hchF0 : chF 0 = some ch0) (hchg1 : fx chg1 20 [(0, .int 0)]) (hchF1 : chF 1 = some ch1) (hchg2 : fx chg2 20 [(0, .int 0)]) (hchF2 : chF 2 = some ch2) (hchg3 : fx chg3 20 [(0, .int 0)]) (hchF3 : chF 3 = some ch3) (oA : Nat) (oC : ClassId) (oF : Nat → Int64) (hxg : fx xg 17 [(9, .ref chA)]) : Met l yL_improve (Cond.codeWith yL_improve cL_improve 5 (some .int) [(0, 10, 13, 32), (0, 10, 17, 19), (0, 10, 21, 105)] :: BG) ({ frames := 9, cells := 1, slots := 6, locals := 200 }) (va_Pc [.ref x, .int p0, .int p1, .ref oA] (fun U => U.heap.size = sz ∧ va_P (dC, dI) CL [(x, .inr (12, xg)), (chA, .inl (chC, (4, .inr (.inr (.inr (.inr chF)))))), (ch0, .inr (2, chg0)), (ch1, .inr (2, chg1)), (ch2, .inr (2, chg2)), (ch3, .inr (2, chg3)), (oA, .inl (oC, (1, .inr (.inl oF))))] U.heap ∧ va_K (dC, dI) CL [(chC, .object "ChipFlow$Chip"), (oC, .long)] U ∧ va_D (fun _ => True) [(x, .inr (12, xg)), (chA, .inl (chC, (4, .inr (.inr (.inr (.inr chF)))))), (ch0, .inr (2, chg0)), (ch1, .inr (2, chg1)), (ch2, .inr (2, chg2)), (ch3, .inr (2, chg3)), (oA, .inl (oC, (1, .inr (.inl oF))))] ∧ th (va_A [(x, .inr (12, xg)), (chA, .inl (chC, (4, .inr (.inr (.inr (.inr chF)))))), (ch0, .inr (2, chg0)), (ch1, .inr (2, chg1)), (ch2, .inr (2, chg2)), (ch3, .inr (2, chg3)), (oA, .inl (oC, (1, .inr (.inl oF))))] sz) U U.heap)) (va_Qi (fun (r : Int32) (_ : Unit) => r = 1) (fun _ t => va_P (dC, dI) CL [(oA, .inl (oC, (1, .inr (.inl oF))))] t.heap ∧ va_K (dC, dI) CL [(oC, .long)] t ∧ va_D (va_A [(x, .inr (12, xg)), (chA, .inl (chC, (4, .inr (.inr (.inr (.inr chF)))))), (ch0, .inr (2, chg0)), (ch1, .inr (2, chg1)), (ch2, .inr (2, chg2)), (ch3, .inr (2, chg3)), (oA, .inl (oC, (1, .inr (.inl oF))))] sz) [(oA, .inl (oC, (1, .inr (.inl oF))))]) (va_A [(x, .inr (12, xg)), (chA, .inl (chC, (4, .inr (.inr (.inr (.inr chF)))))), (ch0, .inr (2, chg0)), (ch1, .inr (2, chg1)), (ch2, .inr (2, chg2)), (ch3, .inr (2, chg3)), (oA, .inl (oC, (1, .inr (.inl oF))))] sz)) 1 6 (va_A [(x, .inr (12, xg)), (chA, .inl (chC, (4, .inr (.inr (.inr (.inr chF)))))), (ch0, .inr (2, chg0)), (ch1, .inr (2, chg1)), (ch2, .inr (2, chg2)), (ch3, .inr (2, chg3)), (oA, .inl (oC, (1, .inr (.inl oF))))] sz) := by
  refine va_MetW (hh := [(0, 10, 13, 32), (0, 10, 17, 19), (0, 10, 21, 105)]) (cc := cL_improve) (maxL := 5) (ret := (some .int)) (by decide) rfl ?_
  intro p e s m args below meth c s₁ B hml hv
  obtain ⟨rfl, hsz, hP, hK, hD0, hth⟩ := hv
  have hx := B.exec
  have hb := B.bytes
  have hr := B.returns
  have hts : ∀ w ∈ BG, w.before _ s = true := fun w h => atoms_spec (ws := Cond.codeWith yL_improve cL_improve 5 (some .int) [(0, 10, 13, 32), (0, 10, 17, 19), (0, 10, 21, 105)] :: BG) B.pre w (List.mem_cons_of_mem _ h)
  have hown : s.vm.findClass RL = some m.cls := findClass_of_methodNamed B.named
  have hlocks := B.notSynchronized
  subst hsz
  have hD := hD0.self (sz := s.heap.size)
  generalize hAe : va_A [(x, .inr (12, xg)), (chA, .inl (chC, (4, .inr (.inr (.inr (.inr chF)))))), (ch0, .inr (2, chg0)), (ch1, .inr (2, chg1)), (ch2, .inr (2, chg2)), (ch3, .inr (2, chg3)), (oA, .inl (oC, (1, .inr (.inl oF))))] s.heap.size = A at hD hth ⊢
  have hA : ∀ q : Nat, s.heap.size ≤ q → A q := fun q h => by rw [← hAe]; exact Or.inr h
  have hS : va_S A s.heap s.heap [] := va_S.rf
  have hl := lv_entry ([.ref x, .int p0, .int p1, .ref oA]) (n := 5) (Nat.le_of_ble_eq_true rfl)
  rw [lg_entry_eq]
  generalize (lg_sl ([.ref x, .int p0, .int p1, .ref oA]) ++ List.replicate (5 - (lg_sl ([.ref x, .int p0, .int p1, .ref oA])).length) Slot.unset).toArray = ls at hl ⊢
  have hl : lv_has ls 5 [(0, .ref x), (1, .int p0), (2, .int p1), (3, .ref oA)] := hl
  have hT : c.exceptionTable.toList = tableOf [(0, 10, 13, 32), (0, 10, 17, 19), (0, 10, 21, 105)] := vx_table (x := yL_improve) B (atoms_spec (ws := Cond.codeWith yL_improve cL_improve 5 (some .int) [(0, 10, 13, 32), (0, 10, 17, 19), (0, 10, 21, 105)] :: BG) B.pre _ List.mem_cons_self)
  have hFc := va_free (wc := [(x, .inr (12, xg)), (chA, .inl (chC, (4, .inr (.inr (.inr (.inr chF)))))), (ch0, .inr (2, chg0)), (ch1, .inr (2, chg1)), (ch2, .inr (2, chg2)), (ch3, .inr (2, chg3))]) hD hS hA [0, 1, 2, 3, 4, 5] rfl
  have hPc := hP.sub (ws' := [(x, .inr (12, xg)), (chA, .inl (chC, (4, .inr (.inr (.inr (.inr chF)))))), (ch0, .inr (2, chg0)), (ch1, .inr (2, chg1)), (ch2, .inr (2, chg2)), (ch3, .inr (2, chg3))]) [0, 1, 2, 3, 4, 5] rfl
  have hDc := hD.sub (ws' := [(x, .inr (12, xg)), (chA, .inl (chC, (4, .inr (.inr (.inr (.inr chF)))))), (ch0, .inr (2, chg0)), (ch1, .inr (2, chg1)), (ch2, .inr (2, chg2)), (ch3, .inr (2, chg3))]) [0, 1, 2, 3, 4, 5] (by decide) rfl
  have hKc := hK.sub (tys' := [(chC, .object "ChipFlow$Chip")]) [0] rfl
  have hK9 := hK.sub (tys' := [(oC, .long)]) [1] rfl
  refine lv_aload_n hx hb dL_improve_0 rfl (lv_at hl 3 rfl) ?_
  refine lv_iconst (v := 0) hx hb dL_improve_1 (by decide +kernel) ?_
  refine lv_aload_n hx hb dL_improve_2 rfl (lv_at hl 0 rfl) ?_
  refine lv_iload_n hx hb dL_improve_3 rfl (lv_at hl 1 rfl) ?_
  refine lv_iload_n hx hb dL_improve_4 rfl (lv_at hl 2 rfl) ?_
  refine vq_thr (vx_runV (As := [.int p0, .int p1]) (rest := [.int 0, .ref oA]) ⟨hx, hb, hml, hown, hts⟩ (ct_X12_improve l hlt dC dI s.heap.size p0 p1 x xg chA chC chF ch0 ch1 ch2 ch3 chg0 chg1 chg2 chg3 hchg0 hchF0 hchg1 hchF1 hchg2 hchF2 hchg3 hchF3 hxg) (cwV 2 hts (gi_V wd_2253 wd_2254 wd_2255 wd_327 wd_2256) rfl rfl rfl (by decide +kernel) ⟨(Nat.le_of_ble_eq_true rfl), (Nat.le_of_ble_eq_true rfl)⟩) ⟨fun a U g mk q => by obtain ⟨q0, q1, qP, qK, qD, qT⟩ := q; exact ⟨q0, q1, qP, va_K.moved (u := U) (U := U.calling g mk a) (Vm.Alike.refl U.vm) qK, qD, th.moved (u := U) (U := U.calling g mk a) (Vm.Alike.refl U.vm) qT⟩, va_recv hKc hPc (ci := 12) (q0 := 0) rfl rfl, fun U hU hW => ⟨rfl, by rw [hU], by rw [hU]; exact hPc, va_K.moved hW.alike hKc, hDc.weaken (fun _ _ _ _ => trivial), by rw [hU]; exact (hth.narrow hFc).moved hW.alike⟩⟩ rfl rfl hl.1 rfl (lv_room (Nat.le_of_ble_eq_true rfl)) dL_improve_5 ⟨(Nat.le_of_ble_eq_true rfl), (Nat.le_of_ble_eq_true rfl)⟩) (fun _ _ _ h => h) hS hFc (fun q _ h => hFc q h) (fun E ce q9 u t H1 locs ht hvm hp hB hz hk hS hce hcv hcl => ?_)
  subst hB
  obtain ⟨hP, hD⟩ := va_join (wr := [(oA, .inl (oC, (1, .inr (.inl oF))))]) (w1 := []) hP hD [0, 1, 2, 3, 4, 5] [6] rfl rfl (by decide) (by decide) hk hFc po_nilP po_nilD
  have hP : va_P (dC, dI) CL [(oA, .inl (oC, (1, .inr (.inl oF))))] H1 := hP
  have hD : va_D A [(oA, .inl (oC, (1, .inr (.inl oF))))] := hD
  refine vx_catch (own := RL) (name := "java/lang/IndexOutOfBoundsException") hown [] { startPc := 0, endPc := 10, handlerPc := 13, catchType := 32 } [{ startPc := 0, endPc := 10, handlerPc := 17, catchType := 19 }, { startPc := 0, endPc := 10, handlerPc := 21, catchType := 105 }] (by rw [hT]; rfl) (fun _ h => nomatch h) (by decide) (by decide) (hts (.classLink RL 32 "java/lang/IndexOutOfBoundsException") wd_1804) (hth.cast (by decide)) hce hcv hcl ?_
  refine lv_astore (lv' := [(4, .ref q9), (0, .ref x), (1, .int p0), (2, .int p1), (3, .ref oA)]) hx hb dL_improve_13 hl (by decide) rfl (fun ls hl => ?_)
  refine lv_iconst (v := 1) hx hb dL_improve_15 (by decide +kernel) ?_
  refine W.widen (k := 1) (n := 6) (Nat.le_of_ble_eq_true rfl) (Nat.le_of_ble_eq_true rfl) ?_
  exact W.iret (v := 1) hx hb hr (fun t ht hW => ⟨⟨1, (), rfl, rfl, by rw [ht]; exact hP, va_K.moved hW.alike hK9, hD⟩, hS.F ht⟩) hS.2.2 dL_improve_16
set_option maxHeartbeats 4000000 in
set_option maxRecDepth 100000 in
theorem ct_L_wire (l : Launch) (hlt : l.stackTraces = false) (dC : Nat → ClassId) (dI : Nat → Nat → Nat) (sz : Nat) (p0 p1 : Int32) (x : Nat) (xg : List Value) (chA : Nat) (chC : ClassId) (chF : Nat → Option Nat) (ch0 ch1 ch2 ch3 : Nat) (chg0 chg1 chg2 chg3 : List Value) (hchg0 : fx chg0 20 [(0, .int 0)]) (hchF0 : chF 0 = some ch0) (hchg1 : fx chg1 20 [(0, .int 0)]) (hchF1 : chF 1 = some ch1) (hchg2 : fx chg2 20 [(0, .int 0)]) (hchF2 : chF 2 = some ch2) (hchg3 : fx chg3 20 [(0, .int 0)]) (hchF3 : chF 3 = some ch3) (oA : Nat) (oC : ClassId) (oF : Nat → Int64) (hxg : fx xg 17 [(9, .ref chA)]) : Met l yL_wire (Cond.codeWith yL_wire cL_wire 5 (some .int) [(0, 10, 13, 32), (0, 10, 17, 105)] :: BG) ({ frames := 9, cells := 1, slots := 6, locals := 200 }) (va_Pc [.ref x, .int p0, .int p1, .ref oA] (fun U => U.heap.size = sz ∧ va_P (dC, dI) CL [(x, .inr (12, xg)), (chA, .inl (chC, (4, .inr (.inr (.inr (.inr chF)))))), (ch0, .inr (2, chg0)), (ch1, .inr (2, chg1)), (ch2, .inr (2, chg2)), (ch3, .inr (2, chg3)), (oA, .inl (oC, (1, .inr (.inl oF))))] U.heap ∧ va_K (dC, dI) CL [(chC, .object "ChipFlow$Chip"), (oC, .long)] U ∧ va_D (fun _ => True) [(x, .inr (12, xg)), (chA, .inl (chC, (4, .inr (.inr (.inr (.inr chF)))))), (ch0, .inr (2, chg0)), (ch1, .inr (2, chg1)), (ch2, .inr (2, chg2)), (ch3, .inr (2, chg3)), (oA, .inl (oC, (1, .inr (.inl oF))))] ∧ th (va_A [(x, .inr (12, xg)), (chA, .inl (chC, (4, .inr (.inr (.inr (.inr chF)))))), (ch0, .inr (2, chg0)), (ch1, .inr (2, chg1)), (ch2, .inr (2, chg2)), (ch3, .inr (2, chg3)), (oA, .inl (oC, (1, .inr (.inl oF))))] sz) U U.heap)) (va_Qi (fun (r : Int32) (_ : Unit) => r = 1) (fun _ t => va_P (dC, dI) CL [(oA, .inl (oC, (1, .inr (.inl oF))))] t.heap ∧ va_K (dC, dI) CL [(oC, .long)] t ∧ va_D (va_A [(x, .inr (12, xg)), (chA, .inl (chC, (4, .inr (.inr (.inr (.inr chF)))))), (ch0, .inr (2, chg0)), (ch1, .inr (2, chg1)), (ch2, .inr (2, chg2)), (ch3, .inr (2, chg3)), (oA, .inl (oC, (1, .inr (.inl oF))))] sz) [(oA, .inl (oC, (1, .inr (.inl oF))))]) (va_A [(x, .inr (12, xg)), (chA, .inl (chC, (4, .inr (.inr (.inr (.inr chF)))))), (ch0, .inr (2, chg0)), (ch1, .inr (2, chg1)), (ch2, .inr (2, chg2)), (ch3, .inr (2, chg3)), (oA, .inl (oC, (1, .inr (.inl oF))))] sz)) 1 6 (va_A [(x, .inr (12, xg)), (chA, .inl (chC, (4, .inr (.inr (.inr (.inr chF)))))), (ch0, .inr (2, chg0)), (ch1, .inr (2, chg1)), (ch2, .inr (2, chg2)), (ch3, .inr (2, chg3)), (oA, .inl (oC, (1, .inr (.inl oF))))] sz) := by
  refine va_MetW (hh := [(0, 10, 13, 32), (0, 10, 17, 105)]) (cc := cL_wire) (maxL := 5) (ret := (some .int)) (by decide) rfl ?_
  intro p e s m args below meth c s₁ B hml hv
  obtain ⟨rfl, hsz, hP, hK, hD0, hth⟩ := hv
  have hx := B.exec
  have hb := B.bytes
  have hr := B.returns
  have hts : ∀ w ∈ BG, w.before _ s = true := fun w h => atoms_spec (ws := Cond.codeWith yL_wire cL_wire 5 (some .int) [(0, 10, 13, 32), (0, 10, 17, 105)] :: BG) B.pre w (List.mem_cons_of_mem _ h)
  have hown : s.vm.findClass RL = some m.cls := findClass_of_methodNamed B.named
  have hlocks := B.notSynchronized
  subst hsz
  have hD := hD0.self (sz := s.heap.size)
  generalize hAe : va_A [(x, .inr (12, xg)), (chA, .inl (chC, (4, .inr (.inr (.inr (.inr chF)))))), (ch0, .inr (2, chg0)), (ch1, .inr (2, chg1)), (ch2, .inr (2, chg2)), (ch3, .inr (2, chg3)), (oA, .inl (oC, (1, .inr (.inl oF))))] s.heap.size = A at hD hth ⊢
  have hA : ∀ q : Nat, s.heap.size ≤ q → A q := fun q h => by rw [← hAe]; exact Or.inr h
  have hS : va_S A s.heap s.heap [] := va_S.rf
  have hl := lv_entry ([.ref x, .int p0, .int p1, .ref oA]) (n := 5) (Nat.le_of_ble_eq_true rfl)
  rw [lg_entry_eq]
  generalize (lg_sl ([.ref x, .int p0, .int p1, .ref oA]) ++ List.replicate (5 - (lg_sl ([.ref x, .int p0, .int p1, .ref oA])).length) Slot.unset).toArray = ls at hl ⊢
  have hl : lv_has ls 5 [(0, .ref x), (1, .int p0), (2, .int p1), (3, .ref oA)] := hl
  have hT : c.exceptionTable.toList = tableOf [(0, 10, 13, 32), (0, 10, 17, 105)] := vx_table (x := yL_wire) B (atoms_spec (ws := Cond.codeWith yL_wire cL_wire 5 (some .int) [(0, 10, 13, 32), (0, 10, 17, 105)] :: BG) B.pre _ List.mem_cons_self)
  have hFc := va_free (wc := [(x, .inr (12, xg)), (chA, .inl (chC, (4, .inr (.inr (.inr (.inr chF)))))), (ch0, .inr (2, chg0)), (ch1, .inr (2, chg1)), (ch2, .inr (2, chg2)), (ch3, .inr (2, chg3))]) hD hS hA [0, 1, 2, 3, 4, 5] rfl
  have hPc := hP.sub (ws' := [(x, .inr (12, xg)), (chA, .inl (chC, (4, .inr (.inr (.inr (.inr chF)))))), (ch0, .inr (2, chg0)), (ch1, .inr (2, chg1)), (ch2, .inr (2, chg2)), (ch3, .inr (2, chg3))]) [0, 1, 2, 3, 4, 5] rfl
  have hDc := hD.sub (ws' := [(x, .inr (12, xg)), (chA, .inl (chC, (4, .inr (.inr (.inr (.inr chF)))))), (ch0, .inr (2, chg0)), (ch1, .inr (2, chg1)), (ch2, .inr (2, chg2)), (ch3, .inr (2, chg3))]) [0, 1, 2, 3, 4, 5] (by decide) rfl
  have hKc := hK.sub (tys' := [(chC, .object "ChipFlow$Chip")]) [0] rfl
  have hK9 := hK.sub (tys' := [(oC, .long)]) [1] rfl
  refine lv_aload_n hx hb dL_wire_0 rfl (lv_at hl 3 rfl) ?_
  refine lv_iconst (v := 0) hx hb dL_wire_1 (by decide +kernel) ?_
  refine lv_aload_n hx hb dL_wire_2 rfl (lv_at hl 0 rfl) ?_
  refine lv_iload_n hx hb dL_wire_3 rfl (lv_at hl 1 rfl) ?_
  refine lv_iload_n hx hb dL_wire_4 rfl (lv_at hl 2 rfl) ?_
  refine vq_thr (vx_runV (As := [.int p0, .int p1]) (rest := [.int 0, .ref oA]) ⟨hx, hb, hml, hown, hts⟩ (ct_X12_wire l hlt dC dI s.heap.size p0 p1 x xg chA chC chF ch0 ch1 ch2 ch3 chg0 chg1 chg2 chg3 hchg0 hchF0 hchg1 hchF1 hchg2 hchF2 hchg3 hchF3 hxg) (cwV 2 hts (gi_V wd_2280 wd_2281 wd_2282 wd_327 wd_2283) rfl rfl rfl (by decide +kernel) ⟨(Nat.le_of_ble_eq_true rfl), (Nat.le_of_ble_eq_true rfl)⟩) ⟨fun a U g mk q => by obtain ⟨q0, q1, qP, qK, qD, qT⟩ := q; exact ⟨q0, q1, qP, va_K.moved (u := U) (U := U.calling g mk a) (Vm.Alike.refl U.vm) qK, qD, th.moved (u := U) (U := U.calling g mk a) (Vm.Alike.refl U.vm) qT⟩, va_recv hKc hPc (ci := 12) (q0 := 0) rfl rfl, fun U hU hW => ⟨rfl, by rw [hU], by rw [hU]; exact hPc, va_K.moved hW.alike hKc, hDc.weaken (fun _ _ _ _ => trivial), by rw [hU]; exact (hth.narrow hFc).moved hW.alike⟩⟩ rfl rfl hl.1 rfl (lv_room (Nat.le_of_ble_eq_true rfl)) dL_wire_5 ⟨(Nat.le_of_ble_eq_true rfl), (Nat.le_of_ble_eq_true rfl)⟩) (fun _ _ _ h => h) hS hFc (fun q _ h => hFc q h) (fun E ce q9 u t H1 locs ht hvm hp hB hz hk hS hce hcv hcl => ?_)
  subst hB
  obtain ⟨hP, hD⟩ := va_join (wr := [(oA, .inl (oC, (1, .inr (.inl oF))))]) (w1 := []) hP hD [0, 1, 2, 3, 4, 5] [6] rfl rfl (by decide) (by decide) hk hFc po_nilP po_nilD
  have hP : va_P (dC, dI) CL [(oA, .inl (oC, (1, .inr (.inl oF))))] H1 := hP
  have hD : va_D A [(oA, .inl (oC, (1, .inr (.inl oF))))] := hD
  refine vx_catch (own := RL) (name := "java/lang/IndexOutOfBoundsException") hown [] { startPc := 0, endPc := 10, handlerPc := 13, catchType := 32 } [{ startPc := 0, endPc := 10, handlerPc := 17, catchType := 105 }] (by rw [hT]; rfl) (fun _ h => nomatch h) (by decide) (by decide) (hts (.classLink RL 32 "java/lang/IndexOutOfBoundsException") wd_1804) (hth.cast (by decide)) hce hcv hcl ?_
  refine lv_astore (lv' := [(4, .ref q9), (0, .ref x), (1, .int p0), (2, .int p1), (3, .ref oA)]) hx hb dL_wire_13 hl (by decide) rfl (fun ls hl => ?_)
  refine lv_iconst (v := 1) hx hb dL_wire_15 (by decide +kernel) ?_
  refine W.widen (k := 1) (n := 6) (Nat.le_of_ble_eq_true rfl) (Nat.le_of_ble_eq_true rfl) ?_
  exact W.iret (v := 1) hx hb hr (fun t ht hW => ⟨⟨1, (), rfl, rfl, by rw [ht]; exact hP, va_K.moved hW.alike hK9, hD⟩, hS.F ht⟩) hS.2.2 dL_wire_16
set_option maxHeartbeats 4000000 in
set_option maxRecDepth 100000 in
theorem ct_L_route (l : Launch) (hlt : l.stackTraces = false) (dC : Nat → ClassId) (dI : Nat → Nat → Nat) (sz : Nat) (p0 p1 : Int32) (x : Nat) (xg : List Value) (chA : Nat) (chC : ClassId) (chF : Nat → Option Nat) (ch0 ch1 ch2 ch3 : Nat) (chg0 chg1 chg2 chg3 : List Value) (hchg0 : fx chg0 20 [(0, .int 0)]) (hchF0 : chF 0 = some ch0) (hchg1 : fx chg1 20 [(0, .int 0)]) (hchF1 : chF 1 = some ch1) (hchg2 : fx chg2 20 [(0, .int 0)]) (hchF2 : chF 2 = some ch2) (hchg3 : fx chg3 20 [(0, .int 0)]) (hchF3 : chF 3 = some ch3) (oA : Nat) (oC : ClassId) (oF : Nat → Int64) (hxg : fx xg 17 [(9, .ref chA)]) : Met l yL_route (Cond.codeWith yL_route cL_route 5 (some .int) [(0, 10, 13, 32), (0, 10, 17, 19), (0, 10, 21, 105)] :: BG) ({ frames := 9, cells := 1, slots := 6, locals := 200 }) (va_Pc [.ref x, .int p0, .int p1, .ref oA] (fun U => U.heap.size = sz ∧ va_P (dC, dI) CL [(x, .inr (12, xg)), (chA, .inl (chC, (4, .inr (.inr (.inr (.inr chF)))))), (ch0, .inr (2, chg0)), (ch1, .inr (2, chg1)), (ch2, .inr (2, chg2)), (ch3, .inr (2, chg3)), (oA, .inl (oC, (1, .inr (.inl oF))))] U.heap ∧ va_K (dC, dI) CL [(chC, .object "ChipFlow$Chip"), (oC, .long)] U ∧ va_D (fun _ => True) [(x, .inr (12, xg)), (chA, .inl (chC, (4, .inr (.inr (.inr (.inr chF)))))), (ch0, .inr (2, chg0)), (ch1, .inr (2, chg1)), (ch2, .inr (2, chg2)), (ch3, .inr (2, chg3)), (oA, .inl (oC, (1, .inr (.inl oF))))] ∧ th (va_A [(x, .inr (12, xg)), (chA, .inl (chC, (4, .inr (.inr (.inr (.inr chF)))))), (ch0, .inr (2, chg0)), (ch1, .inr (2, chg1)), (ch2, .inr (2, chg2)), (ch3, .inr (2, chg3)), (oA, .inl (oC, (1, .inr (.inl oF))))] sz) U U.heap)) (va_Qi (fun (r : Int32) (_ : Unit) => r = 1) (fun _ t => va_P (dC, dI) CL [(oA, .inl (oC, (1, .inr (.inl oF))))] t.heap ∧ va_K (dC, dI) CL [(oC, .long)] t ∧ va_D (va_A [(x, .inr (12, xg)), (chA, .inl (chC, (4, .inr (.inr (.inr (.inr chF)))))), (ch0, .inr (2, chg0)), (ch1, .inr (2, chg1)), (ch2, .inr (2, chg2)), (ch3, .inr (2, chg3)), (oA, .inl (oC, (1, .inr (.inl oF))))] sz) [(oA, .inl (oC, (1, .inr (.inl oF))))]) (va_A [(x, .inr (12, xg)), (chA, .inl (chC, (4, .inr (.inr (.inr (.inr chF)))))), (ch0, .inr (2, chg0)), (ch1, .inr (2, chg1)), (ch2, .inr (2, chg2)), (ch3, .inr (2, chg3)), (oA, .inl (oC, (1, .inr (.inl oF))))] sz)) 1 6 (va_A [(x, .inr (12, xg)), (chA, .inl (chC, (4, .inr (.inr (.inr (.inr chF)))))), (ch0, .inr (2, chg0)), (ch1, .inr (2, chg1)), (ch2, .inr (2, chg2)), (ch3, .inr (2, chg3)), (oA, .inl (oC, (1, .inr (.inl oF))))] sz) := by
  refine va_MetW (hh := [(0, 10, 13, 32), (0, 10, 17, 19), (0, 10, 21, 105)]) (cc := cL_route) (maxL := 5) (ret := (some .int)) (by decide) rfl ?_
  intro p e s m args below meth c s₁ B hml hv
  obtain ⟨rfl, hsz, hP, hK, hD0, hth⟩ := hv
  have hx := B.exec
  have hb := B.bytes
  have hr := B.returns
  have hts : ∀ w ∈ BG, w.before _ s = true := fun w h => atoms_spec (ws := Cond.codeWith yL_route cL_route 5 (some .int) [(0, 10, 13, 32), (0, 10, 17, 19), (0, 10, 21, 105)] :: BG) B.pre w (List.mem_cons_of_mem _ h)
  have hown : s.vm.findClass RL = some m.cls := findClass_of_methodNamed B.named
  have hlocks := B.notSynchronized
  subst hsz
  have hD := hD0.self (sz := s.heap.size)
  generalize hAe : va_A [(x, .inr (12, xg)), (chA, .inl (chC, (4, .inr (.inr (.inr (.inr chF)))))), (ch0, .inr (2, chg0)), (ch1, .inr (2, chg1)), (ch2, .inr (2, chg2)), (ch3, .inr (2, chg3)), (oA, .inl (oC, (1, .inr (.inl oF))))] s.heap.size = A at hD hth ⊢
  have hA : ∀ q : Nat, s.heap.size ≤ q → A q := fun q h => by rw [← hAe]; exact Or.inr h
  have hS : va_S A s.heap s.heap [] := va_S.rf
  have hl := lv_entry ([.ref x, .int p0, .int p1, .ref oA]) (n := 5) (Nat.le_of_ble_eq_true rfl)
  rw [lg_entry_eq]
  generalize (lg_sl ([.ref x, .int p0, .int p1, .ref oA]) ++ List.replicate (5 - (lg_sl ([.ref x, .int p0, .int p1, .ref oA])).length) Slot.unset).toArray = ls at hl ⊢
  have hl : lv_has ls 5 [(0, .ref x), (1, .int p0), (2, .int p1), (3, .ref oA)] := hl
  have hT : c.exceptionTable.toList = tableOf [(0, 10, 13, 32), (0, 10, 17, 19), (0, 10, 21, 105)] := vx_table (x := yL_route) B (atoms_spec (ws := Cond.codeWith yL_route cL_route 5 (some .int) [(0, 10, 13, 32), (0, 10, 17, 19), (0, 10, 21, 105)] :: BG) B.pre _ List.mem_cons_self)
  have hFc := va_free (wc := [(x, .inr (12, xg)), (chA, .inl (chC, (4, .inr (.inr (.inr (.inr chF)))))), (ch0, .inr (2, chg0)), (ch1, .inr (2, chg1)), (ch2, .inr (2, chg2)), (ch3, .inr (2, chg3))]) hD hS hA [0, 1, 2, 3, 4, 5] rfl
  have hPc := hP.sub (ws' := [(x, .inr (12, xg)), (chA, .inl (chC, (4, .inr (.inr (.inr (.inr chF)))))), (ch0, .inr (2, chg0)), (ch1, .inr (2, chg1)), (ch2, .inr (2, chg2)), (ch3, .inr (2, chg3))]) [0, 1, 2, 3, 4, 5] rfl
  have hDc := hD.sub (ws' := [(x, .inr (12, xg)), (chA, .inl (chC, (4, .inr (.inr (.inr (.inr chF)))))), (ch0, .inr (2, chg0)), (ch1, .inr (2, chg1)), (ch2, .inr (2, chg2)), (ch3, .inr (2, chg3))]) [0, 1, 2, 3, 4, 5] (by decide) rfl
  have hKc := hK.sub (tys' := [(chC, .object "ChipFlow$Chip")]) [0] rfl
  have hK9 := hK.sub (tys' := [(oC, .long)]) [1] rfl
  refine lv_aload_n hx hb dL_route_0 rfl (lv_at hl 3 rfl) ?_
  refine lv_iconst (v := 0) hx hb dL_route_1 (by decide +kernel) ?_
  refine lv_aload_n hx hb dL_route_2 rfl (lv_at hl 0 rfl) ?_
  refine lv_iload_n hx hb dL_route_3 rfl (lv_at hl 1 rfl) ?_
  refine lv_iload_n hx hb dL_route_4 rfl (lv_at hl 2 rfl) ?_
  refine vq_thr (vx_runV (As := [.int p0, .int p1]) (rest := [.int 0, .ref oA]) ⟨hx, hb, hml, hown, hts⟩ (ct_X12_route l hlt dC dI s.heap.size p0 p1 x xg chA chC chF ch0 ch1 ch2 ch3 chg0 chg1 chg2 chg3 hchg0 hchF0 hchg1 hchF1 hchg2 hchF2 hchg3 hchF3 hxg) (cwV 2 hts (gi_V wd_2287 wd_2288 wd_2289 wd_327 wd_2290) rfl rfl rfl (by decide +kernel) ⟨(Nat.le_of_ble_eq_true rfl), (Nat.le_of_ble_eq_true rfl)⟩) ⟨fun a U g mk q => by obtain ⟨q0, q1, qP, qK, qD, qT⟩ := q; exact ⟨q0, q1, qP, va_K.moved (u := U) (U := U.calling g mk a) (Vm.Alike.refl U.vm) qK, qD, th.moved (u := U) (U := U.calling g mk a) (Vm.Alike.refl U.vm) qT⟩, va_recv hKc hPc (ci := 12) (q0 := 0) rfl rfl, fun U hU hW => ⟨rfl, by rw [hU], by rw [hU]; exact hPc, va_K.moved hW.alike hKc, hDc.weaken (fun _ _ _ _ => trivial), by rw [hU]; exact (hth.narrow hFc).moved hW.alike⟩⟩ rfl rfl hl.1 rfl (lv_room (Nat.le_of_ble_eq_true rfl)) dL_route_5 ⟨(Nat.le_of_ble_eq_true rfl), (Nat.le_of_ble_eq_true rfl)⟩) (fun _ _ _ h => h) hS hFc (fun q _ h => hFc q h) (fun E ce q9 u t H1 locs ht hvm hp hB hz hk hS hce hcv hcl => ?_)
  subst hB
  obtain ⟨hP, hD⟩ := va_join (wr := [(oA, .inl (oC, (1, .inr (.inl oF))))]) (w1 := []) hP hD [0, 1, 2, 3, 4, 5] [6] rfl rfl (by decide) (by decide) hk hFc po_nilP po_nilD
  have hP : va_P (dC, dI) CL [(oA, .inl (oC, (1, .inr (.inl oF))))] H1 := hP
  have hD : va_D A [(oA, .inl (oC, (1, .inr (.inl oF))))] := hD
  refine vx_catch (own := RL) (name := "java/lang/IndexOutOfBoundsException") hown [] { startPc := 0, endPc := 10, handlerPc := 13, catchType := 32 } [{ startPc := 0, endPc := 10, handlerPc := 17, catchType := 19 }, { startPc := 0, endPc := 10, handlerPc := 21, catchType := 105 }] (by rw [hT]; rfl) (fun _ h => nomatch h) (by decide) (by decide) (hts (.classLink RL 32 "java/lang/IndexOutOfBoundsException") wd_1804) (hth.cast (by decide)) hce hcv hcl ?_
  refine lv_astore (lv' := [(4, .ref q9), (0, .ref x), (1, .int p0), (2, .int p1), (3, .ref oA)]) hx hb dL_route_13 hl (by decide) rfl (fun ls hl => ?_)
  refine lv_iconst (v := 1) hx hb dL_route_15 (by decide +kernel) ?_
  refine W.widen (k := 1) (n := 6) (Nat.le_of_ble_eq_true rfl) (Nat.le_of_ble_eq_true rfl) ?_
  exact W.iret (v := 1) hx hb hr (fun t ht hW => ⟨⟨1, (), rfl, rfl, by rw [ht]; exact hP, va_K.moved hW.alike hK9, hD⟩, hS.F ht⟩) hS.2.2 dL_route_16
set_option maxHeartbeats 4000000 in
set_option maxRecDepth 100000 in
theorem ct_L_point (l : Launch) (hlt : l.stackTraces = false) (dC : Nat → ClassId) (dI : Nat → Nat → Nat) (sz : Nat) (p0 p1 : Int32) (x : Nat) (xg : List Value) (chA : Nat) (chC : ClassId) (chF : Nat → Option Nat) (ch0 ch1 ch2 ch3 : Nat) (chg0 chg1 chg2 chg3 : List Value) (hchg0 : fx chg0 20 [(0, .int 0)]) (hchF0 : chF 0 = some ch0) (hchg1 : fx chg1 20 [(0, .int 0)]) (hchF1 : chF 1 = some ch1) (hchg2 : fx chg2 20 [(0, .int 0)]) (hchF2 : chF 2 = some ch2) (hchg3 : fx chg3 20 [(0, .int 0)]) (hchF3 : chF 3 = some ch3) (oA : Nat) (oC : ClassId) (oF : Nat → Int64) (hxg : fx xg 17 [(9, .ref chA)]) : Met l yL_point (Cond.codeWith yL_point cL_point 5 (some .int) [(0, 10, 13, 32), (0, 10, 17, 105)] :: BG) ({ frames := 9, cells := 1, slots := 6, locals := 200 }) (va_Pc [.ref x, .int p0, .int p1, .ref oA] (fun U => U.heap.size = sz ∧ va_P (dC, dI) CL [(x, .inr (12, xg)), (chA, .inl (chC, (4, .inr (.inr (.inr (.inr chF)))))), (ch0, .inr (2, chg0)), (ch1, .inr (2, chg1)), (ch2, .inr (2, chg2)), (ch3, .inr (2, chg3)), (oA, .inl (oC, (1, .inr (.inl oF))))] U.heap ∧ va_K (dC, dI) CL [(chC, .object "ChipFlow$Chip"), (oC, .long)] U ∧ va_D (fun _ => True) [(x, .inr (12, xg)), (chA, .inl (chC, (4, .inr (.inr (.inr (.inr chF)))))), (ch0, .inr (2, chg0)), (ch1, .inr (2, chg1)), (ch2, .inr (2, chg2)), (ch3, .inr (2, chg3)), (oA, .inl (oC, (1, .inr (.inl oF))))] ∧ th (va_A [(x, .inr (12, xg)), (chA, .inl (chC, (4, .inr (.inr (.inr (.inr chF)))))), (ch0, .inr (2, chg0)), (ch1, .inr (2, chg1)), (ch2, .inr (2, chg2)), (ch3, .inr (2, chg3)), (oA, .inl (oC, (1, .inr (.inl oF))))] sz) U U.heap)) (va_Qi (fun (r : Int32) (_ : Unit) => r = 1) (fun _ t => va_P (dC, dI) CL [(oA, .inl (oC, (1, .inr (.inl oF))))] t.heap ∧ va_K (dC, dI) CL [(oC, .long)] t ∧ va_D (va_A [(x, .inr (12, xg)), (chA, .inl (chC, (4, .inr (.inr (.inr (.inr chF)))))), (ch0, .inr (2, chg0)), (ch1, .inr (2, chg1)), (ch2, .inr (2, chg2)), (ch3, .inr (2, chg3)), (oA, .inl (oC, (1, .inr (.inl oF))))] sz) [(oA, .inl (oC, (1, .inr (.inl oF))))]) (va_A [(x, .inr (12, xg)), (chA, .inl (chC, (4, .inr (.inr (.inr (.inr chF)))))), (ch0, .inr (2, chg0)), (ch1, .inr (2, chg1)), (ch2, .inr (2, chg2)), (ch3, .inr (2, chg3)), (oA, .inl (oC, (1, .inr (.inl oF))))] sz)) 1 6 (va_A [(x, .inr (12, xg)), (chA, .inl (chC, (4, .inr (.inr (.inr (.inr chF)))))), (ch0, .inr (2, chg0)), (ch1, .inr (2, chg1)), (ch2, .inr (2, chg2)), (ch3, .inr (2, chg3)), (oA, .inl (oC, (1, .inr (.inl oF))))] sz) := by
  refine va_MetW (hh := [(0, 10, 13, 32), (0, 10, 17, 105)]) (cc := cL_point) (maxL := 5) (ret := (some .int)) (by decide) rfl ?_
  intro p e s m args below meth c s₁ B hml hv
  obtain ⟨rfl, hsz, hP, hK, hD0, hth⟩ := hv
  have hx := B.exec
  have hb := B.bytes
  have hr := B.returns
  have hts : ∀ w ∈ BG, w.before _ s = true := fun w h => atoms_spec (ws := Cond.codeWith yL_point cL_point 5 (some .int) [(0, 10, 13, 32), (0, 10, 17, 105)] :: BG) B.pre w (List.mem_cons_of_mem _ h)
  have hown : s.vm.findClass RL = some m.cls := findClass_of_methodNamed B.named
  have hlocks := B.notSynchronized
  subst hsz
  have hD := hD0.self (sz := s.heap.size)
  generalize hAe : va_A [(x, .inr (12, xg)), (chA, .inl (chC, (4, .inr (.inr (.inr (.inr chF)))))), (ch0, .inr (2, chg0)), (ch1, .inr (2, chg1)), (ch2, .inr (2, chg2)), (ch3, .inr (2, chg3)), (oA, .inl (oC, (1, .inr (.inl oF))))] s.heap.size = A at hD hth ⊢
  have hA : ∀ q : Nat, s.heap.size ≤ q → A q := fun q h => by rw [← hAe]; exact Or.inr h
  have hS : va_S A s.heap s.heap [] := va_S.rf
  have hl := lv_entry ([.ref x, .int p0, .int p1, .ref oA]) (n := 5) (Nat.le_of_ble_eq_true rfl)
  rw [lg_entry_eq]
  generalize (lg_sl ([.ref x, .int p0, .int p1, .ref oA]) ++ List.replicate (5 - (lg_sl ([.ref x, .int p0, .int p1, .ref oA])).length) Slot.unset).toArray = ls at hl ⊢
  have hl : lv_has ls 5 [(0, .ref x), (1, .int p0), (2, .int p1), (3, .ref oA)] := hl
  have hT : c.exceptionTable.toList = tableOf [(0, 10, 13, 32), (0, 10, 17, 105)] := vx_table (x := yL_point) B (atoms_spec (ws := Cond.codeWith yL_point cL_point 5 (some .int) [(0, 10, 13, 32), (0, 10, 17, 105)] :: BG) B.pre _ List.mem_cons_self)
  have hFc := va_free (wc := [(x, .inr (12, xg)), (chA, .inl (chC, (4, .inr (.inr (.inr (.inr chF)))))), (ch0, .inr (2, chg0)), (ch1, .inr (2, chg1)), (ch2, .inr (2, chg2)), (ch3, .inr (2, chg3))]) hD hS hA [0, 1, 2, 3, 4, 5] rfl
  have hPc := hP.sub (ws' := [(x, .inr (12, xg)), (chA, .inl (chC, (4, .inr (.inr (.inr (.inr chF)))))), (ch0, .inr (2, chg0)), (ch1, .inr (2, chg1)), (ch2, .inr (2, chg2)), (ch3, .inr (2, chg3))]) [0, 1, 2, 3, 4, 5] rfl
  have hDc := hD.sub (ws' := [(x, .inr (12, xg)), (chA, .inl (chC, (4, .inr (.inr (.inr (.inr chF)))))), (ch0, .inr (2, chg0)), (ch1, .inr (2, chg1)), (ch2, .inr (2, chg2)), (ch3, .inr (2, chg3))]) [0, 1, 2, 3, 4, 5] (by decide) rfl
  have hKc := hK.sub (tys' := [(chC, .object "ChipFlow$Chip")]) [0] rfl
  have hK9 := hK.sub (tys' := [(oC, .long)]) [1] rfl
  refine lv_aload_n hx hb dL_point_0 rfl (lv_at hl 3 rfl) ?_
  refine lv_iconst (v := 0) hx hb dL_point_1 (by decide +kernel) ?_
  refine lv_aload_n hx hb dL_point_2 rfl (lv_at hl 0 rfl) ?_
  refine lv_iload_n hx hb dL_point_3 rfl (lv_at hl 1 rfl) ?_
  refine lv_iload_n hx hb dL_point_4 rfl (lv_at hl 2 rfl) ?_
  refine vq_thr (vx_runV (As := [.int p0, .int p1]) (rest := [.int 0, .ref oA]) ⟨hx, hb, hml, hown, hts⟩ (ct_X12_point l hlt dC dI s.heap.size p0 p1 x xg chA chC chF ch0 ch1 ch2 ch3 chg0 chg1 chg2 chg3 hchg0 hchF0 hchg1 hchF1 hchg2 hchF2 hchg3 hchF3 hxg) (cwV 2 hts (gi_V wd_2610 wd_2611 wd_2612 wd_327 wd_2613) rfl rfl rfl (by decide +kernel) ⟨(Nat.le_of_ble_eq_true rfl), (Nat.le_of_ble_eq_true rfl)⟩) ⟨fun a U g mk q => by obtain ⟨q0, q1, qP, qK, qD, qT⟩ := q; exact ⟨q0, q1, qP, va_K.moved (u := U) (U := U.calling g mk a) (Vm.Alike.refl U.vm) qK, qD, th.moved (u := U) (U := U.calling g mk a) (Vm.Alike.refl U.vm) qT⟩, va_recv hKc hPc (ci := 12) (q0 := 0) rfl rfl, fun U hU hW => ⟨rfl, by rw [hU], by rw [hU]; exact hPc, va_K.moved hW.alike hKc, hDc.weaken (fun _ _ _ _ => trivial), by rw [hU]; exact (hth.narrow hFc).moved hW.alike⟩⟩ rfl rfl hl.1 rfl (lv_room (Nat.le_of_ble_eq_true rfl)) dL_point_5 ⟨(Nat.le_of_ble_eq_true rfl), (Nat.le_of_ble_eq_true rfl)⟩) (fun _ _ _ h => h) hS hFc (fun q _ h => hFc q h) (fun E ce q9 u t H1 locs ht hvm hp hB hz hk hS hce hcv hcl => ?_)
  subst hB
  obtain ⟨hP, hD⟩ := va_join (wr := [(oA, .inl (oC, (1, .inr (.inl oF))))]) (w1 := []) hP hD [0, 1, 2, 3, 4, 5] [6] rfl rfl (by decide) (by decide) hk hFc po_nilP po_nilD
  have hP : va_P (dC, dI) CL [(oA, .inl (oC, (1, .inr (.inl oF))))] H1 := hP
  have hD : va_D A [(oA, .inl (oC, (1, .inr (.inl oF))))] := hD
  refine vx_catch (own := RL) (name := "java/lang/IndexOutOfBoundsException") hown [] { startPc := 0, endPc := 10, handlerPc := 13, catchType := 32 } [{ startPc := 0, endPc := 10, handlerPc := 17, catchType := 105 }] (by rw [hT]; rfl) (fun _ h => nomatch h) (by decide) (by decide) (hts (.classLink RL 32 "java/lang/IndexOutOfBoundsException") wd_1804) (hth.cast (by decide)) hce hcv hcl ?_
  refine lv_astore (lv' := [(4, .ref q9), (0, .ref x), (1, .int p0), (2, .int p1), (3, .ref oA)]) hx hb dL_point_13 hl (by decide) rfl (fun ls hl => ?_)
  refine lv_iconst (v := 1) hx hb dL_point_15 (by decide +kernel) ?_
  refine W.widen (k := 1) (n := 6) (Nat.le_of_ble_eq_true rfl) (Nat.le_of_ble_eq_true rfl) ?_
  exact W.iret (v := 1) hx hb hr (fun t ht hW => ⟨⟨1, (), rfl, rfl, by rw [ht]; exact hP, va_K.moved hW.alike hK9, hD⟩, hS.F ht⟩) hS.2.2 dL_point_16
set_option maxHeartbeats 4000000 in
set_option maxRecDepth 100000 in
theorem ct_L_routed (l : Launch) (hlt : l.stackTraces = false) (dC : Nat → ClassId) (dI : Nat → Nat → Nat) (sz : Nat) (p0 p1 p2 : Int32) (x : Nat) (xg : List Value) (chA : Nat) (chC : ClassId) (chF : Nat → Option Nat) (ch0 ch1 ch2 ch3 : Nat) (chg0 chg1 chg2 chg3 : List Value) (hchg0 : fx chg0 20 [(0, .int 0)]) (hchF0 : chF 0 = some ch0) (hchg1 : fx chg1 20 [(0, .int 0)]) (hchF1 : chF 1 = some ch1) (hchg2 : fx chg2 20 [(0, .int 0)]) (hchF2 : chF 2 = some ch2) (hchg3 : fx chg3 20 [(0, .int 0)]) (hchF3 : chF 3 = some ch3) (oA : Nat) (oC : ClassId) (oF : Nat → Int64) (hxg : fx xg 17 [(9, .ref chA)]) : Met l yL_routed (Cond.codeWith yL_routed cL_routed 6 (some .int) [(0, 12, 15, 32), (0, 12, 19, 19), (0, 12, 23, 105)] :: BG) ({ frames := 9, cells := 1, slots := 6, locals := 200 }) (va_Pc [.ref x, .int p0, .int p1, .int p2, .ref oA] (fun U => U.heap.size = sz ∧ va_P (dC, dI) CL [(x, .inr (12, xg)), (chA, .inl (chC, (4, .inr (.inr (.inr (.inr chF)))))), (ch0, .inr (2, chg0)), (ch1, .inr (2, chg1)), (ch2, .inr (2, chg2)), (ch3, .inr (2, chg3)), (oA, .inl (oC, (1, .inr (.inl oF))))] U.heap ∧ va_K (dC, dI) CL [(chC, .object "ChipFlow$Chip"), (oC, .long)] U ∧ va_D (fun _ => True) [(x, .inr (12, xg)), (chA, .inl (chC, (4, .inr (.inr (.inr (.inr chF)))))), (ch0, .inr (2, chg0)), (ch1, .inr (2, chg1)), (ch2, .inr (2, chg2)), (ch3, .inr (2, chg3)), (oA, .inl (oC, (1, .inr (.inl oF))))] ∧ th (va_A [(x, .inr (12, xg)), (chA, .inl (chC, (4, .inr (.inr (.inr (.inr chF)))))), (ch0, .inr (2, chg0)), (ch1, .inr (2, chg1)), (ch2, .inr (2, chg2)), (ch3, .inr (2, chg3)), (oA, .inl (oC, (1, .inr (.inl oF))))] sz) U U.heap)) (va_Qi (fun (r : Int32) (_ : Unit) => r = 1) (fun _ t => va_P (dC, dI) CL [(oA, .inl (oC, (1, .inr (.inl oF))))] t.heap ∧ va_K (dC, dI) CL [(oC, .long)] t ∧ va_D (va_A [(x, .inr (12, xg)), (chA, .inl (chC, (4, .inr (.inr (.inr (.inr chF)))))), (ch0, .inr (2, chg0)), (ch1, .inr (2, chg1)), (ch2, .inr (2, chg2)), (ch3, .inr (2, chg3)), (oA, .inl (oC, (1, .inr (.inl oF))))] sz) [(oA, .inl (oC, (1, .inr (.inl oF))))]) (va_A [(x, .inr (12, xg)), (chA, .inl (chC, (4, .inr (.inr (.inr (.inr chF)))))), (ch0, .inr (2, chg0)), (ch1, .inr (2, chg1)), (ch2, .inr (2, chg2)), (ch3, .inr (2, chg3)), (oA, .inl (oC, (1, .inr (.inl oF))))] sz)) 1 6 (va_A [(x, .inr (12, xg)), (chA, .inl (chC, (4, .inr (.inr (.inr (.inr chF)))))), (ch0, .inr (2, chg0)), (ch1, .inr (2, chg1)), (ch2, .inr (2, chg2)), (ch3, .inr (2, chg3)), (oA, .inl (oC, (1, .inr (.inl oF))))] sz) := by
  refine va_MetW (hh := [(0, 12, 15, 32), (0, 12, 19, 19), (0, 12, 23, 105)]) (cc := cL_routed) (maxL := 6) (ret := (some .int)) (by decide) rfl ?_
  intro p e s m args below meth c s₁ B hml hv
  obtain ⟨rfl, hsz, hP, hK, hD0, hth⟩ := hv
  have hx := B.exec
  have hb := B.bytes
  have hr := B.returns
  have hts : ∀ w ∈ BG, w.before _ s = true := fun w h => atoms_spec (ws := Cond.codeWith yL_routed cL_routed 6 (some .int) [(0, 12, 15, 32), (0, 12, 19, 19), (0, 12, 23, 105)] :: BG) B.pre w (List.mem_cons_of_mem _ h)
  have hown : s.vm.findClass RL = some m.cls := findClass_of_methodNamed B.named
  have hlocks := B.notSynchronized
  subst hsz
  have hD := hD0.self (sz := s.heap.size)
  generalize hAe : va_A [(x, .inr (12, xg)), (chA, .inl (chC, (4, .inr (.inr (.inr (.inr chF)))))), (ch0, .inr (2, chg0)), (ch1, .inr (2, chg1)), (ch2, .inr (2, chg2)), (ch3, .inr (2, chg3)), (oA, .inl (oC, (1, .inr (.inl oF))))] s.heap.size = A at hD hth ⊢
  have hA : ∀ q : Nat, s.heap.size ≤ q → A q := fun q h => by rw [← hAe]; exact Or.inr h
  have hS : va_S A s.heap s.heap [] := va_S.rf
  have hl := lv_entry ([.ref x, .int p0, .int p1, .int p2, .ref oA]) (n := 6) (Nat.le_of_ble_eq_true rfl)
  rw [lg_entry_eq]
  generalize (lg_sl ([.ref x, .int p0, .int p1, .int p2, .ref oA]) ++ List.replicate (6 - (lg_sl ([.ref x, .int p0, .int p1, .int p2, .ref oA])).length) Slot.unset).toArray = ls at hl ⊢
  have hl : lv_has ls 6 [(0, .ref x), (1, .int p0), (2, .int p1), (3, .int p2), (4, .ref oA)] := hl
  have hT : c.exceptionTable.toList = tableOf [(0, 12, 15, 32), (0, 12, 19, 19), (0, 12, 23, 105)] := vx_table (x := yL_routed) B (atoms_spec (ws := Cond.codeWith yL_routed cL_routed 6 (some .int) [(0, 12, 15, 32), (0, 12, 19, 19), (0, 12, 23, 105)] :: BG) B.pre _ List.mem_cons_self)
  have hFc := va_free (wc := [(x, .inr (12, xg)), (chA, .inl (chC, (4, .inr (.inr (.inr (.inr chF)))))), (ch0, .inr (2, chg0)), (ch1, .inr (2, chg1)), (ch2, .inr (2, chg2)), (ch3, .inr (2, chg3))]) hD hS hA [0, 1, 2, 3, 4, 5] rfl
  have hPc := hP.sub (ws' := [(x, .inr (12, xg)), (chA, .inl (chC, (4, .inr (.inr (.inr (.inr chF)))))), (ch0, .inr (2, chg0)), (ch1, .inr (2, chg1)), (ch2, .inr (2, chg2)), (ch3, .inr (2, chg3))]) [0, 1, 2, 3, 4, 5] rfl
  have hDc := hD.sub (ws' := [(x, .inr (12, xg)), (chA, .inl (chC, (4, .inr (.inr (.inr (.inr chF)))))), (ch0, .inr (2, chg0)), (ch1, .inr (2, chg1)), (ch2, .inr (2, chg2)), (ch3, .inr (2, chg3))]) [0, 1, 2, 3, 4, 5] (by decide) rfl
  have hKc := hK.sub (tys' := [(chC, .object "ChipFlow$Chip")]) [0] rfl
  have hK9 := hK.sub (tys' := [(oC, .long)]) [1] rfl
  refine lv_aload hx hb dL_routed_0 (lv_at hl 4 rfl) ?_
  refine lv_iconst (v := 0) hx hb dL_routed_2 (by decide +kernel) ?_
  refine lv_aload_n hx hb dL_routed_3 rfl (lv_at hl 0 rfl) ?_
  refine lv_iload_n hx hb dL_routed_4 rfl (lv_at hl 1 rfl) ?_
  refine lv_iload_n hx hb dL_routed_5 rfl (lv_at hl 2 rfl) ?_
  refine lv_iload_n hx hb dL_routed_6 rfl (lv_at hl 3 rfl) ?_
  refine vq_thr (vx_runV (As := [.int p0, .int p1, .int p2]) (rest := [.int 0, .ref oA]) ⟨hx, hb, hml, hown, hts⟩ (ct_X12_routed l hlt dC dI s.heap.size p0 p1 p2 x xg chA chC chF ch0 ch1 ch2 ch3 chg0 chg1 chg2 chg3 hchg0 hchF0 hchg1 hchF1 hchg2 hchF2 hchg3 hchF3 hxg) (cwV 3 hts (gi_V wd_2621 wd_2622 wd_2623 wd_327 wd_2624) rfl rfl rfl (by decide +kernel) ⟨(Nat.le_of_ble_eq_true rfl), (Nat.le_of_ble_eq_true rfl)⟩) ⟨fun a U g mk q => by obtain ⟨q0, q1, qP, qK, qD, qT⟩ := q; exact ⟨q0, q1, qP, va_K.moved (u := U) (U := U.calling g mk a) (Vm.Alike.refl U.vm) qK, qD, th.moved (u := U) (U := U.calling g mk a) (Vm.Alike.refl U.vm) qT⟩, va_recv hKc hPc (ci := 12) (q0 := 0) rfl rfl, fun U hU hW => ⟨rfl, by rw [hU], by rw [hU]; exact hPc, va_K.moved hW.alike hKc, hDc.weaken (fun _ _ _ _ => trivial), by rw [hU]; exact (hth.narrow hFc).moved hW.alike⟩⟩ rfl rfl hl.1 rfl (lv_room (Nat.le_of_ble_eq_true rfl)) dL_routed_7 ⟨(Nat.le_of_ble_eq_true rfl), (Nat.le_of_ble_eq_true rfl)⟩) (fun _ _ _ h => h) hS hFc (fun q _ h => hFc q h) (fun E ce q9 u t H1 locs ht hvm hp hB hz hk hS hce hcv hcl => ?_)
  subst hB
  obtain ⟨hP, hD⟩ := va_join (wr := [(oA, .inl (oC, (1, .inr (.inl oF))))]) (w1 := []) hP hD [0, 1, 2, 3, 4, 5] [6] rfl rfl (by decide) (by decide) hk hFc po_nilP po_nilD
  have hP : va_P (dC, dI) CL [(oA, .inl (oC, (1, .inr (.inl oF))))] H1 := hP
  have hD : va_D A [(oA, .inl (oC, (1, .inr (.inl oF))))] := hD
  refine vx_catch (own := RL) (name := "java/lang/IndexOutOfBoundsException") hown [] { startPc := 0, endPc := 12, handlerPc := 15, catchType := 32 } [{ startPc := 0, endPc := 12, handlerPc := 19, catchType := 19 }, { startPc := 0, endPc := 12, handlerPc := 23, catchType := 105 }] (by rw [hT]; rfl) (fun _ h => nomatch h) (by decide) (by decide) (hts (.classLink RL 32 "java/lang/IndexOutOfBoundsException") wd_1804) (hth.cast (by decide)) hce hcv hcl ?_
  refine lv_astore (lv' := [(5, .ref q9), (0, .ref x), (1, .int p0), (2, .int p1), (3, .int p2), (4, .ref oA)]) hx hb dL_routed_15 hl (by decide) rfl (fun ls hl => ?_)
  refine lv_iconst (v := 1) hx hb dL_routed_17 (by decide +kernel) ?_
  refine W.widen (k := 1) (n := 6) (Nat.le_of_ble_eq_true rfl) (Nat.le_of_ble_eq_true rfl) ?_
  exact W.iret (v := 1) hx hb hr (fun t ht hW => ⟨⟨1, (), rfl, rfl, by rw [ht]; exact hP, va_K.moved hW.alike hK9, hD⟩, hS.F ht⟩) hS.2.2 dL_routed_18
set_option maxHeartbeats 4000000 in
set_option maxRecDepth 100000 in
theorem ct_L_draw (l : Launch) (hlt : l.stackTraces = false) (dC : Nat → ClassId) (dI : Nat → Nat → Nat) (sz : Nat) (p0 : Int32) (x : Nat) (xg : List Value) (chA : Nat) (chC : ClassId) (chF : Nat → Option Nat) (ch0 ch1 ch2 ch3 : Nat) (chg0 chg1 chg2 chg3 : List Value) (hchg0 : fx chg0 20 [(0, .int 0)]) (hchF0 : chF 0 = some ch0) (hchg1 : fx chg1 20 [(0, .int 0)]) (hchF1 : chF 1 = some ch1) (hchg2 : fx chg2 20 [(0, .int 0)]) (hchF2 : chF 2 = some ch2) (hchg3 : fx chg3 20 [(0, .int 0)]) (hchF3 : chF 3 = some ch3) (oA : Nat) (oC : ClassId) (oF : Nat → Int64) (hxg : fx xg 17 [(9, .ref chA)]) : Met l yL_draw (Cond.codeWith yL_draw cL_draw 4 (some .int) [(0, 9, 12, 32), (0, 9, 15, 105), (0, 9, 18, 13)] :: BG) ({ frames := 9, cells := 1, slots := 6, locals := 200 }) (va_Pc [.ref x, .int p0, .ref oA] (fun U => U.heap.size = sz ∧ va_P (dC, dI) CL [(x, .inr (12, xg)), (chA, .inl (chC, (4, .inr (.inr (.inr (.inr chF)))))), (ch0, .inr (2, chg0)), (ch1, .inr (2, chg1)), (ch2, .inr (2, chg2)), (ch3, .inr (2, chg3)), (oA, .inl (oC, (1, .inr (.inl oF))))] U.heap ∧ va_K (dC, dI) CL [(chC, .object "ChipFlow$Chip"), (oC, .long)] U ∧ va_D (fun _ => True) [(x, .inr (12, xg)), (chA, .inl (chC, (4, .inr (.inr (.inr (.inr chF)))))), (ch0, .inr (2, chg0)), (ch1, .inr (2, chg1)), (ch2, .inr (2, chg2)), (ch3, .inr (2, chg3)), (oA, .inl (oC, (1, .inr (.inl oF))))] ∧ th (va_A [(x, .inr (12, xg)), (chA, .inl (chC, (4, .inr (.inr (.inr (.inr chF)))))), (ch0, .inr (2, chg0)), (ch1, .inr (2, chg1)), (ch2, .inr (2, chg2)), (ch3, .inr (2, chg3)), (oA, .inl (oC, (1, .inr (.inl oF))))] sz) U U.heap)) (va_Qi (fun (r : Int32) (_ : Unit) => r = 1) (fun _ t => va_P (dC, dI) CL [(oA, .inl (oC, (1, .inr (.inl oF))))] t.heap ∧ va_K (dC, dI) CL [(oC, .long)] t ∧ va_D (va_A [(x, .inr (12, xg)), (chA, .inl (chC, (4, .inr (.inr (.inr (.inr chF)))))), (ch0, .inr (2, chg0)), (ch1, .inr (2, chg1)), (ch2, .inr (2, chg2)), (ch3, .inr (2, chg3)), (oA, .inl (oC, (1, .inr (.inl oF))))] sz) [(oA, .inl (oC, (1, .inr (.inl oF))))]) (va_A [(x, .inr (12, xg)), (chA, .inl (chC, (4, .inr (.inr (.inr (.inr chF)))))), (ch0, .inr (2, chg0)), (ch1, .inr (2, chg1)), (ch2, .inr (2, chg2)), (ch3, .inr (2, chg3)), (oA, .inl (oC, (1, .inr (.inl oF))))] sz)) 1 6 (va_A [(x, .inr (12, xg)), (chA, .inl (chC, (4, .inr (.inr (.inr (.inr chF)))))), (ch0, .inr (2, chg0)), (ch1, .inr (2, chg1)), (ch2, .inr (2, chg2)), (ch3, .inr (2, chg3)), (oA, .inl (oC, (1, .inr (.inl oF))))] sz) := by
  refine va_MetW (hh := [(0, 9, 12, 32), (0, 9, 15, 105), (0, 9, 18, 13)]) (cc := cL_draw) (maxL := 4) (ret := (some .int)) (by decide) rfl ?_
  intro p e s m args below meth c s₁ B hml hv
  obtain ⟨rfl, hsz, hP, hK, hD0, hth⟩ := hv
  have hx := B.exec
  have hb := B.bytes
  have hr := B.returns
  have hts : ∀ w ∈ BG, w.before _ s = true := fun w h => atoms_spec (ws := Cond.codeWith yL_draw cL_draw 4 (some .int) [(0, 9, 12, 32), (0, 9, 15, 105), (0, 9, 18, 13)] :: BG) B.pre w (List.mem_cons_of_mem _ h)
  have hown : s.vm.findClass RL = some m.cls := findClass_of_methodNamed B.named
  have hlocks := B.notSynchronized
  subst hsz
  have hD := hD0.self (sz := s.heap.size)
  generalize hAe : va_A [(x, .inr (12, xg)), (chA, .inl (chC, (4, .inr (.inr (.inr (.inr chF)))))), (ch0, .inr (2, chg0)), (ch1, .inr (2, chg1)), (ch2, .inr (2, chg2)), (ch3, .inr (2, chg3)), (oA, .inl (oC, (1, .inr (.inl oF))))] s.heap.size = A at hD hth ⊢
  have hA : ∀ q : Nat, s.heap.size ≤ q → A q := fun q h => by rw [← hAe]; exact Or.inr h
  have hS : va_S A s.heap s.heap [] := va_S.rf
  have hl := lv_entry ([.ref x, .int p0, .ref oA]) (n := 4) (Nat.le_of_ble_eq_true rfl)
  rw [lg_entry_eq]
  generalize (lg_sl ([.ref x, .int p0, .ref oA]) ++ List.replicate (4 - (lg_sl ([.ref x, .int p0, .ref oA])).length) Slot.unset).toArray = ls at hl ⊢
  have hl : lv_has ls 4 [(0, .ref x), (1, .int p0), (2, .ref oA)] := hl
  have hT : c.exceptionTable.toList = tableOf [(0, 9, 12, 32), (0, 9, 15, 105), (0, 9, 18, 13)] := vx_table (x := yL_draw) B (atoms_spec (ws := Cond.codeWith yL_draw cL_draw 4 (some .int) [(0, 9, 12, 32), (0, 9, 15, 105), (0, 9, 18, 13)] :: BG) B.pre _ List.mem_cons_self)
  have hFc := va_free (wc := [(x, .inr (12, xg)), (chA, .inl (chC, (4, .inr (.inr (.inr (.inr chF)))))), (ch0, .inr (2, chg0)), (ch1, .inr (2, chg1)), (ch2, .inr (2, chg2)), (ch3, .inr (2, chg3))]) hD hS hA [0, 1, 2, 3, 4, 5] rfl
  have hPc := hP.sub (ws' := [(x, .inr (12, xg)), (chA, .inl (chC, (4, .inr (.inr (.inr (.inr chF)))))), (ch0, .inr (2, chg0)), (ch1, .inr (2, chg1)), (ch2, .inr (2, chg2)), (ch3, .inr (2, chg3))]) [0, 1, 2, 3, 4, 5] rfl
  have hDc := hD.sub (ws' := [(x, .inr (12, xg)), (chA, .inl (chC, (4, .inr (.inr (.inr (.inr chF)))))), (ch0, .inr (2, chg0)), (ch1, .inr (2, chg1)), (ch2, .inr (2, chg2)), (ch3, .inr (2, chg3))]) [0, 1, 2, 3, 4, 5] (by decide) rfl
  have hKc := hK.sub (tys' := [(chC, .object "ChipFlow$Chip")]) [0] rfl
  have hK9 := hK.sub (tys' := [(oC, .long)]) [1] rfl
  refine lv_aload_n hx hb dL_draw_0 rfl (lv_at hl 2 rfl) ?_
  refine lv_iconst (v := 0) hx hb dL_draw_1 (by decide +kernel) ?_
  refine lv_aload_n hx hb dL_draw_2 rfl (lv_at hl 0 rfl) ?_
  refine lv_iload_n hx hb dL_draw_3 rfl (lv_at hl 1 rfl) ?_
  refine vq_thr (vx_runV (As := [.int p0]) (rest := [.int 0, .ref oA]) ⟨hx, hb, hml, hown, hts⟩ (ct_X12_draw l hlt dC dI s.heap.size p0 x xg chA chC chF ch0 ch1 ch2 ch3 chg0 chg1 chg2 chg3 hchg0 hchF0 hchg1 hchF1 hchg2 hchF2 hchg3 hchF3 hxg) (cwV 1 hts (gi_V wd_2639 wd_2640 wd_2641 wd_327 wd_2642) rfl rfl rfl (by decide +kernel) ⟨(Nat.le_of_ble_eq_true rfl), (Nat.le_of_ble_eq_true rfl)⟩) ⟨fun a U g mk q => by obtain ⟨q0, q1, qP, qK, qD, qT⟩ := q; exact ⟨q0, q1, qP, va_K.moved (u := U) (U := U.calling g mk a) (Vm.Alike.refl U.vm) qK, qD, th.moved (u := U) (U := U.calling g mk a) (Vm.Alike.refl U.vm) qT⟩, va_recv hKc hPc (ci := 12) (q0 := 0) rfl rfl, fun U hU hW => ⟨rfl, by rw [hU], by rw [hU]; exact hPc, va_K.moved hW.alike hKc, hDc.weaken (fun _ _ _ _ => trivial), by rw [hU]; exact (hth.narrow hFc).moved hW.alike⟩⟩ rfl rfl hl.1 rfl (lv_room (Nat.le_of_ble_eq_true rfl)) dL_draw_4 ⟨(Nat.le_of_ble_eq_true rfl), (Nat.le_of_ble_eq_true rfl)⟩) (fun _ _ _ h => h) hS hFc (fun q _ h => hFc q h) (fun E ce q9 u t H1 locs ht hvm hp hB hz hk hS hce hcv hcl => ?_)
  subst hB
  obtain ⟨hP, hD⟩ := va_join (wr := [(oA, .inl (oC, (1, .inr (.inl oF))))]) (w1 := []) hP hD [0, 1, 2, 3, 4, 5] [6] rfl rfl (by decide) (by decide) hk hFc po_nilP po_nilD
  have hP : va_P (dC, dI) CL [(oA, .inl (oC, (1, .inr (.inl oF))))] H1 := hP
  have hD : va_D A [(oA, .inl (oC, (1, .inr (.inl oF))))] := hD
  refine vx_catch (own := RL) (name := "java/lang/IndexOutOfBoundsException") hown [] { startPc := 0, endPc := 9, handlerPc := 12, catchType := 32 } [{ startPc := 0, endPc := 9, handlerPc := 15, catchType := 105 }, { startPc := 0, endPc := 9, handlerPc := 18, catchType := 13 }] (by rw [hT]; rfl) (fun _ h => nomatch h) (by decide) (by decide) (hts (.classLink RL 32 "java/lang/IndexOutOfBoundsException") wd_1804) (hth.cast (by decide)) hce hcv hcl ?_
  refine lv_astore_n (lv' := [(3, .ref q9), (0, .ref x), (1, .int p0), (2, .ref oA)]) hx hb dL_draw_12 rfl hl (by decide) rfl (fun ls hl => ?_)
  refine lv_iconst (v := 1) hx hb dL_draw_13 (by decide +kernel) ?_
  refine W.widen (k := 1) (n := 6) (Nat.le_of_ble_eq_true rfl) (Nat.le_of_ble_eq_true rfl) ?_
  exact W.iret (v := 1) hx hb hr (fun t ht hW => ⟨⟨1, (), rfl, rfl, by rw [ht]; exact hP, va_K.moved hW.alike hK9, hD⟩, hS.F ht⟩) hS.2.2 dL_draw_14
set_option maxHeartbeats 4000000 in
set_option maxRecDepth 100000 in
theorem ct_L_box (l : Launch) (hlt : l.stackTraces = false) (dC : Nat → ClassId) (dI : Nat → Nat → Nat) (sz : Nat) (p0 p1 p2 : Int32) (x : Nat) (xg : List Value) (chA : Nat) (chC : ClassId) (chF : Nat → Option Nat) (ch0 ch1 ch2 ch3 : Nat) (chg0 chg1 chg2 chg3 : List Value) (hchg0 : fx chg0 20 [(0, .int 0)]) (hchF0 : chF 0 = some ch0) (hchg1 : fx chg1 20 [(0, .int 0)]) (hchF1 : chF 1 = some ch1) (hchg2 : fx chg2 20 [(0, .int 0)]) (hchF2 : chF 2 = some ch2) (hchg3 : fx chg3 20 [(0, .int 0)]) (hchF3 : chF 3 = some ch3) (oA : Nat) (oC : ClassId) (oF : Nat → Int64) (hxg : fx xg 17 [(9, .ref chA)]) : Met l yL_box (Cond.codeWith yL_box cL_box 6 (some .int) [(0, 12, 15, 32), (0, 12, 19, 19), (0, 12, 23, 105)] :: BG) ({ frames := 9, cells := 1, slots := 6, locals := 200 }) (va_Pc [.ref x, .int p0, .int p1, .int p2, .ref oA] (fun U => U.heap.size = sz ∧ va_P (dC, dI) CL [(x, .inr (12, xg)), (chA, .inl (chC, (4, .inr (.inr (.inr (.inr chF)))))), (ch0, .inr (2, chg0)), (ch1, .inr (2, chg1)), (ch2, .inr (2, chg2)), (ch3, .inr (2, chg3)), (oA, .inl (oC, (1, .inr (.inl oF))))] U.heap ∧ va_K (dC, dI) CL [(chC, .object "ChipFlow$Chip"), (oC, .long)] U ∧ va_D (fun _ => True) [(x, .inr (12, xg)), (chA, .inl (chC, (4, .inr (.inr (.inr (.inr chF)))))), (ch0, .inr (2, chg0)), (ch1, .inr (2, chg1)), (ch2, .inr (2, chg2)), (ch3, .inr (2, chg3)), (oA, .inl (oC, (1, .inr (.inl oF))))] ∧ th (va_A [(x, .inr (12, xg)), (chA, .inl (chC, (4, .inr (.inr (.inr (.inr chF)))))), (ch0, .inr (2, chg0)), (ch1, .inr (2, chg1)), (ch2, .inr (2, chg2)), (ch3, .inr (2, chg3)), (oA, .inl (oC, (1, .inr (.inl oF))))] sz) U U.heap)) (va_Qi (fun (r : Int32) (_ : Unit) => r = 1) (fun _ t => va_P (dC, dI) CL [(oA, .inl (oC, (1, .inr (.inl oF))))] t.heap ∧ va_K (dC, dI) CL [(oC, .long)] t ∧ va_D (va_A [(x, .inr (12, xg)), (chA, .inl (chC, (4, .inr (.inr (.inr (.inr chF)))))), (ch0, .inr (2, chg0)), (ch1, .inr (2, chg1)), (ch2, .inr (2, chg2)), (ch3, .inr (2, chg3)), (oA, .inl (oC, (1, .inr (.inl oF))))] sz) [(oA, .inl (oC, (1, .inr (.inl oF))))]) (va_A [(x, .inr (12, xg)), (chA, .inl (chC, (4, .inr (.inr (.inr (.inr chF)))))), (ch0, .inr (2, chg0)), (ch1, .inr (2, chg1)), (ch2, .inr (2, chg2)), (ch3, .inr (2, chg3)), (oA, .inl (oC, (1, .inr (.inl oF))))] sz)) 1 6 (va_A [(x, .inr (12, xg)), (chA, .inl (chC, (4, .inr (.inr (.inr (.inr chF)))))), (ch0, .inr (2, chg0)), (ch1, .inr (2, chg1)), (ch2, .inr (2, chg2)), (ch3, .inr (2, chg3)), (oA, .inl (oC, (1, .inr (.inl oF))))] sz) := by
  refine va_MetW (hh := [(0, 12, 15, 32), (0, 12, 19, 19), (0, 12, 23, 105)]) (cc := cL_box) (maxL := 6) (ret := (some .int)) (by decide) rfl ?_
  intro p e s m args below meth c s₁ B hml hv
  obtain ⟨rfl, hsz, hP, hK, hD0, hth⟩ := hv
  have hx := B.exec
  have hb := B.bytes
  have hr := B.returns
  have hts : ∀ w ∈ BG, w.before _ s = true := fun w h => atoms_spec (ws := Cond.codeWith yL_box cL_box 6 (some .int) [(0, 12, 15, 32), (0, 12, 19, 19), (0, 12, 23, 105)] :: BG) B.pre w (List.mem_cons_of_mem _ h)
  have hown : s.vm.findClass RL = some m.cls := findClass_of_methodNamed B.named
  have hlocks := B.notSynchronized
  subst hsz
  have hD := hD0.self (sz := s.heap.size)
  generalize hAe : va_A [(x, .inr (12, xg)), (chA, .inl (chC, (4, .inr (.inr (.inr (.inr chF)))))), (ch0, .inr (2, chg0)), (ch1, .inr (2, chg1)), (ch2, .inr (2, chg2)), (ch3, .inr (2, chg3)), (oA, .inl (oC, (1, .inr (.inl oF))))] s.heap.size = A at hD hth ⊢
  have hA : ∀ q : Nat, s.heap.size ≤ q → A q := fun q h => by rw [← hAe]; exact Or.inr h
  have hS : va_S A s.heap s.heap [] := va_S.rf
  have hl := lv_entry ([.ref x, .int p0, .int p1, .int p2, .ref oA]) (n := 6) (Nat.le_of_ble_eq_true rfl)
  rw [lg_entry_eq]
  generalize (lg_sl ([.ref x, .int p0, .int p1, .int p2, .ref oA]) ++ List.replicate (6 - (lg_sl ([.ref x, .int p0, .int p1, .int p2, .ref oA])).length) Slot.unset).toArray = ls at hl ⊢
  have hl : lv_has ls 6 [(0, .ref x), (1, .int p0), (2, .int p1), (3, .int p2), (4, .ref oA)] := hl
  have hT : c.exceptionTable.toList = tableOf [(0, 12, 15, 32), (0, 12, 19, 19), (0, 12, 23, 105)] := vx_table (x := yL_box) B (atoms_spec (ws := Cond.codeWith yL_box cL_box 6 (some .int) [(0, 12, 15, 32), (0, 12, 19, 19), (0, 12, 23, 105)] :: BG) B.pre _ List.mem_cons_self)
  have hFc := va_free (wc := [(x, .inr (12, xg)), (chA, .inl (chC, (4, .inr (.inr (.inr (.inr chF)))))), (ch0, .inr (2, chg0)), (ch1, .inr (2, chg1)), (ch2, .inr (2, chg2)), (ch3, .inr (2, chg3))]) hD hS hA [0, 1, 2, 3, 4, 5] rfl
  have hPc := hP.sub (ws' := [(x, .inr (12, xg)), (chA, .inl (chC, (4, .inr (.inr (.inr (.inr chF)))))), (ch0, .inr (2, chg0)), (ch1, .inr (2, chg1)), (ch2, .inr (2, chg2)), (ch3, .inr (2, chg3))]) [0, 1, 2, 3, 4, 5] rfl
  have hDc := hD.sub (ws' := [(x, .inr (12, xg)), (chA, .inl (chC, (4, .inr (.inr (.inr (.inr chF)))))), (ch0, .inr (2, chg0)), (ch1, .inr (2, chg1)), (ch2, .inr (2, chg2)), (ch3, .inr (2, chg3))]) [0, 1, 2, 3, 4, 5] (by decide) rfl
  have hKc := hK.sub (tys' := [(chC, .object "ChipFlow$Chip")]) [0] rfl
  have hK9 := hK.sub (tys' := [(oC, .long)]) [1] rfl
  refine lv_aload hx hb dL_box_0 (lv_at hl 4 rfl) ?_
  refine lv_iconst (v := 0) hx hb dL_box_2 (by decide +kernel) ?_
  refine lv_aload_n hx hb dL_box_3 rfl (lv_at hl 0 rfl) ?_
  refine lv_iload_n hx hb dL_box_4 rfl (lv_at hl 1 rfl) ?_
  refine lv_iload_n hx hb dL_box_5 rfl (lv_at hl 2 rfl) ?_
  refine lv_iload_n hx hb dL_box_6 rfl (lv_at hl 3 rfl) ?_
  refine vq_thr (vx_runV (As := [.int p0, .int p1, .int p2]) (rest := [.int 0, .ref oA]) ⟨hx, hb, hml, hown, hts⟩ (ct_X12_box l hlt dC dI s.heap.size p0 p1 p2 x xg chA chC chF ch0 ch1 ch2 ch3 chg0 chg1 chg2 chg3 hchg0 hchF0 hchg1 hchF1 hchg2 hchF2 hchg3 hchF3 hxg) (cwV 3 hts (gi_V wd_2675 wd_2676 wd_2677 wd_327 wd_2678) rfl rfl rfl (by decide +kernel) ⟨(Nat.le_of_ble_eq_true rfl), (Nat.le_of_ble_eq_true rfl)⟩) ⟨fun a U g mk q => by obtain ⟨q0, q1, qP, qK, qD, qT⟩ := q; exact ⟨q0, q1, qP, va_K.moved (u := U) (U := U.calling g mk a) (Vm.Alike.refl U.vm) qK, qD, th.moved (u := U) (U := U.calling g mk a) (Vm.Alike.refl U.vm) qT⟩, va_recv hKc hPc (ci := 12) (q0 := 0) rfl rfl, fun U hU hW => ⟨rfl, by rw [hU], by rw [hU]; exact hPc, va_K.moved hW.alike hKc, hDc.weaken (fun _ _ _ _ => trivial), by rw [hU]; exact (hth.narrow hFc).moved hW.alike⟩⟩ rfl rfl hl.1 rfl (lv_room (Nat.le_of_ble_eq_true rfl)) dL_box_7 ⟨(Nat.le_of_ble_eq_true rfl), (Nat.le_of_ble_eq_true rfl)⟩) (fun _ _ _ h => h) hS hFc (fun q _ h => hFc q h) (fun E ce q9 u t H1 locs ht hvm hp hB hz hk hS hce hcv hcl => ?_)
  subst hB
  obtain ⟨hP, hD⟩ := va_join (wr := [(oA, .inl (oC, (1, .inr (.inl oF))))]) (w1 := []) hP hD [0, 1, 2, 3, 4, 5] [6] rfl rfl (by decide) (by decide) hk hFc po_nilP po_nilD
  have hP : va_P (dC, dI) CL [(oA, .inl (oC, (1, .inr (.inl oF))))] H1 := hP
  have hD : va_D A [(oA, .inl (oC, (1, .inr (.inl oF))))] := hD
  refine vx_catch (own := RL) (name := "java/lang/IndexOutOfBoundsException") hown [] { startPc := 0, endPc := 12, handlerPc := 15, catchType := 32 } [{ startPc := 0, endPc := 12, handlerPc := 19, catchType := 19 }, { startPc := 0, endPc := 12, handlerPc := 23, catchType := 105 }] (by rw [hT]; rfl) (fun _ h => nomatch h) (by decide) (by decide) (hts (.classLink RL 32 "java/lang/IndexOutOfBoundsException") wd_1804) (hth.cast (by decide)) hce hcv hcl ?_
  refine lv_astore (lv' := [(5, .ref q9), (0, .ref x), (1, .int p0), (2, .int p1), (3, .int p2), (4, .ref oA)]) hx hb dL_box_15 hl (by decide) rfl (fun ls hl => ?_)
  refine lv_iconst (v := 1) hx hb dL_box_17 (by decide +kernel) ?_
  refine W.widen (k := 1) (n := 6) (Nat.le_of_ble_eq_true rfl) (Nat.le_of_ble_eq_true rfl) ?_
  exact W.iret (v := 1) hx hb hr (fun t ht hW => ⟨⟨1, (), rfl, rfl, by rw [ht]; exact hP, va_K.moved hW.alike hK9, hD⟩, hS.F ht⟩) hS.2.2 dL_box_18
set_option maxHeartbeats 4000000 in
set_option maxRecDepth 100000 in
theorem ct_L_add (l : Launch) (hlt : l.stackTraces = false) (dC : Nat → ClassId) (dI : Nat → Nat → Nat) (sz : Nat) (p0 p1 p2 p3 p4 p5 : Int32) (x : Nat) (xg : List Value) (chA : Nat) (chC : ClassId) (chF : Nat → Option Nat) (ch0 ch1 ch2 ch3 : Nat) (chg0 chg1 chg2 chg3 : List Value) (hchg0 : fx chg0 20 [(0, .int 0)]) (hchF0 : chF 0 = some ch0) (hchg1 : fx chg1 20 [(0, .int 0)]) (hchF1 : chF 1 = some ch1) (hchg2 : fx chg2 20 [(0, .int 0)]) (hchF2 : chF 2 = some ch2) (hchg3 : fx chg3 20 [(0, .int 0)]) (hchF3 : chF 3 = some ch3) (oA : Nat) (oC : ClassId) (oF : Nat → Int64) (hxg : fx xg 17 [(9, .ref chA)]) : Met l yL_add (Cond.codeWith yL_add cL_add 9 (some .int) [(0, 18, 21, 32), (0, 18, 25, 19), (0, 18, 29, 105), (0, 18, 33, 13)] :: BG) ({ frames := 9, cells := 1, slots := 6, locals := 200 }) (va_Pc [.ref x, .int p0, .int p1, .int p2, .int p3, .int p4, .int p5, .ref oA] (fun U => U.heap.size = sz ∧ va_P (dC, dI) CL [(x, .inr (12, xg)), (chA, .inl (chC, (4, .inr (.inr (.inr (.inr chF)))))), (ch0, .inr (2, chg0)), (ch1, .inr (2, chg1)), (ch2, .inr (2, chg2)), (ch3, .inr (2, chg3)), (oA, .inl (oC, (1, .inr (.inl oF))))] U.heap ∧ va_K (dC, dI) CL [(chC, .object "ChipFlow$Chip"), (oC, .long)] U ∧ va_D (fun _ => True) [(x, .inr (12, xg)), (chA, .inl (chC, (4, .inr (.inr (.inr (.inr chF)))))), (ch0, .inr (2, chg0)), (ch1, .inr (2, chg1)), (ch2, .inr (2, chg2)), (ch3, .inr (2, chg3)), (oA, .inl (oC, (1, .inr (.inl oF))))] ∧ th (va_A [(x, .inr (12, xg)), (chA, .inl (chC, (4, .inr (.inr (.inr (.inr chF)))))), (ch0, .inr (2, chg0)), (ch1, .inr (2, chg1)), (ch2, .inr (2, chg2)), (ch3, .inr (2, chg3)), (oA, .inl (oC, (1, .inr (.inl oF))))] sz) U U.heap)) (va_Qi (fun (r : Int32) (_ : Unit) => r = 1) (fun _ t => va_P (dC, dI) CL [(oA, .inl (oC, (1, .inr (.inl oF))))] t.heap ∧ va_K (dC, dI) CL [(oC, .long)] t ∧ va_D (va_A [(x, .inr (12, xg)), (chA, .inl (chC, (4, .inr (.inr (.inr (.inr chF)))))), (ch0, .inr (2, chg0)), (ch1, .inr (2, chg1)), (ch2, .inr (2, chg2)), (ch3, .inr (2, chg3)), (oA, .inl (oC, (1, .inr (.inl oF))))] sz) [(oA, .inl (oC, (1, .inr (.inl oF))))]) (va_A [(x, .inr (12, xg)), (chA, .inl (chC, (4, .inr (.inr (.inr (.inr chF)))))), (ch0, .inr (2, chg0)), (ch1, .inr (2, chg1)), (ch2, .inr (2, chg2)), (ch3, .inr (2, chg3)), (oA, .inl (oC, (1, .inr (.inl oF))))] sz)) 1 6 (va_A [(x, .inr (12, xg)), (chA, .inl (chC, (4, .inr (.inr (.inr (.inr chF)))))), (ch0, .inr (2, chg0)), (ch1, .inr (2, chg1)), (ch2, .inr (2, chg2)), (ch3, .inr (2, chg3)), (oA, .inl (oC, (1, .inr (.inl oF))))] sz) := by
  refine va_MetW (hh := [(0, 18, 21, 32), (0, 18, 25, 19), (0, 18, 29, 105), (0, 18, 33, 13)]) (cc := cL_add) (maxL := 9) (ret := (some .int)) (by decide) rfl ?_
  intro p e s m args below meth c s₁ B hml hv
  obtain ⟨rfl, hsz, hP, hK, hD0, hth⟩ := hv
  have hx := B.exec
  have hb := B.bytes
  have hr := B.returns
  have hts : ∀ w ∈ BG, w.before _ s = true := fun w h => atoms_spec (ws := Cond.codeWith yL_add cL_add 9 (some .int) [(0, 18, 21, 32), (0, 18, 25, 19), (0, 18, 29, 105), (0, 18, 33, 13)] :: BG) B.pre w (List.mem_cons_of_mem _ h)
  have hown : s.vm.findClass RL = some m.cls := findClass_of_methodNamed B.named
  have hlocks := B.notSynchronized
  subst hsz
  have hD := hD0.self (sz := s.heap.size)
  generalize hAe : va_A [(x, .inr (12, xg)), (chA, .inl (chC, (4, .inr (.inr (.inr (.inr chF)))))), (ch0, .inr (2, chg0)), (ch1, .inr (2, chg1)), (ch2, .inr (2, chg2)), (ch3, .inr (2, chg3)), (oA, .inl (oC, (1, .inr (.inl oF))))] s.heap.size = A at hD hth ⊢
  have hA : ∀ q : Nat, s.heap.size ≤ q → A q := fun q h => by rw [← hAe]; exact Or.inr h
  have hS : va_S A s.heap s.heap [] := va_S.rf
  have hl := lv_entry ([.ref x, .int p0, .int p1, .int p2, .int p3, .int p4, .int p5, .ref oA]) (n := 9) (Nat.le_of_ble_eq_true rfl)
  rw [lg_entry_eq]
  generalize (lg_sl ([.ref x, .int p0, .int p1, .int p2, .int p3, .int p4, .int p5, .ref oA]) ++ List.replicate (9 - (lg_sl ([.ref x, .int p0, .int p1, .int p2, .int p3, .int p4, .int p5, .ref oA])).length) Slot.unset).toArray = ls at hl ⊢
  have hl : lv_has ls 9 [(0, .ref x), (1, .int p0), (2, .int p1), (3, .int p2), (4, .int p3), (5, .int p4), (6, .int p5), (7, .ref oA)] := hl
  have hT : c.exceptionTable.toList = tableOf [(0, 18, 21, 32), (0, 18, 25, 19), (0, 18, 29, 105), (0, 18, 33, 13)] := vx_table (x := yL_add) B (atoms_spec (ws := Cond.codeWith yL_add cL_add 9 (some .int) [(0, 18, 21, 32), (0, 18, 25, 19), (0, 18, 29, 105), (0, 18, 33, 13)] :: BG) B.pre _ List.mem_cons_self)
  have hFc := va_free (wc := [(x, .inr (12, xg)), (chA, .inl (chC, (4, .inr (.inr (.inr (.inr chF)))))), (ch0, .inr (2, chg0)), (ch1, .inr (2, chg1)), (ch2, .inr (2, chg2)), (ch3, .inr (2, chg3))]) hD hS hA [0, 1, 2, 3, 4, 5] rfl
  have hPc := hP.sub (ws' := [(x, .inr (12, xg)), (chA, .inl (chC, (4, .inr (.inr (.inr (.inr chF)))))), (ch0, .inr (2, chg0)), (ch1, .inr (2, chg1)), (ch2, .inr (2, chg2)), (ch3, .inr (2, chg3))]) [0, 1, 2, 3, 4, 5] rfl
  have hDc := hD.sub (ws' := [(x, .inr (12, xg)), (chA, .inl (chC, (4, .inr (.inr (.inr (.inr chF)))))), (ch0, .inr (2, chg0)), (ch1, .inr (2, chg1)), (ch2, .inr (2, chg2)), (ch3, .inr (2, chg3))]) [0, 1, 2, 3, 4, 5] (by decide) rfl
  have hKc := hK.sub (tys' := [(chC, .object "ChipFlow$Chip")]) [0] rfl
  have hK9 := hK.sub (tys' := [(oC, .long)]) [1] rfl
  refine lv_aload hx hb dL_add_0 (lv_at hl 7 rfl) ?_
  refine lv_iconst (v := 0) hx hb dL_add_2 (by decide +kernel) ?_
  refine lv_aload_n hx hb dL_add_3 rfl (lv_at hl 0 rfl) ?_
  refine lv_iload_n hx hb dL_add_4 rfl (lv_at hl 1 rfl) ?_
  refine lv_iload_n hx hb dL_add_5 rfl (lv_at hl 2 rfl) ?_
  refine lv_iload_n hx hb dL_add_6 rfl (lv_at hl 3 rfl) ?_
  refine lv_iload hx hb dL_add_7 (lv_at hl 4 rfl) ?_
  refine lv_iload hx hb dL_add_9 (lv_at hl 5 rfl) ?_
  refine lv_iload hx hb dL_add_11 (lv_at hl 6 rfl) ?_
  refine vq_thr (vx_runV (As := [.int p0, .int p1, .int p2, .int p3, .int p4, .int p5]) (rest := [.int 0, .ref oA]) ⟨hx, hb, hml, hown, hts⟩ (ct_X12_add l hlt dC dI s.heap.size p0 p1 p2 p3 p4 p5 x xg chA chC chF ch0 ch1 ch2 ch3 chg0 chg1 chg2 chg3 hchg0 hchF0 hchg1 hchF1 hchg2 hchF2 hchg3 hchF3 hxg) (cwV 6 hts (gi_V wd_2682 wd_2683 wd_2684 wd_327 wd_2685) rfl rfl rfl (by decide +kernel) ⟨(Nat.le_of_ble_eq_true rfl), (Nat.le_of_ble_eq_true rfl)⟩) ⟨fun a U g mk q => by obtain ⟨q0, q1, qP, qK, qD, qT⟩ := q; exact ⟨q0, q1, qP, va_K.moved (u := U) (U := U.calling g mk a) (Vm.Alike.refl U.vm) qK, qD, th.moved (u := U) (U := U.calling g mk a) (Vm.Alike.refl U.vm) qT⟩, va_recv hKc hPc (ci := 12) (q0 := 0) rfl rfl, fun U hU hW => ⟨rfl, by rw [hU], by rw [hU]; exact hPc, va_K.moved hW.alike hKc, hDc.weaken (fun _ _ _ _ => trivial), by rw [hU]; exact (hth.narrow hFc).moved hW.alike⟩⟩ rfl rfl hl.1 rfl (lv_room (Nat.le_of_ble_eq_true rfl)) dL_add_13 ⟨(Nat.le_of_ble_eq_true rfl), (Nat.le_of_ble_eq_true rfl)⟩) (fun _ _ _ h => h) hS hFc (fun q _ h => hFc q h) (fun E ce q9 u t H1 locs ht hvm hp hB hz hk hS hce hcv hcl => ?_)
  subst hB
  obtain ⟨hP, hD⟩ := va_join (wr := [(oA, .inl (oC, (1, .inr (.inl oF))))]) (w1 := []) hP hD [0, 1, 2, 3, 4, 5] [6] rfl rfl (by decide) (by decide) hk hFc po_nilP po_nilD
  have hP : va_P (dC, dI) CL [(oA, .inl (oC, (1, .inr (.inl oF))))] H1 := hP
  have hD : va_D A [(oA, .inl (oC, (1, .inr (.inl oF))))] := hD
  refine vx_catch (own := RL) (name := "java/lang/IndexOutOfBoundsException") hown [] { startPc := 0, endPc := 18, handlerPc := 21, catchType := 32 } [{ startPc := 0, endPc := 18, handlerPc := 25, catchType := 19 }, { startPc := 0, endPc := 18, handlerPc := 29, catchType := 105 }, { startPc := 0, endPc := 18, handlerPc := 33, catchType := 13 }] (by rw [hT]; rfl) (fun _ h => nomatch h) (by decide) (by decide) (hts (.classLink RL 32 "java/lang/IndexOutOfBoundsException") wd_1804) (hth.cast (by decide)) hce hcv hcl ?_
  refine lv_astore (lv' := [(8, .ref q9), (0, .ref x), (1, .int p0), (2, .int p1), (3, .int p2), (4, .int p3), (5, .int p4), (6, .int p5), (7, .ref oA)]) hx hb dL_add_21 hl (by decide) rfl (fun ls hl => ?_)
  refine lv_iconst (v := 1) hx hb dL_add_23 (by decide +kernel) ?_
  refine W.widen (k := 1) (n := 6) (Nat.le_of_ble_eq_true rfl) (Nat.le_of_ble_eq_true rfl) ?_
  exact W.iret (v := 1) hx hb hr (fun t ht hW => ⟨⟨1, (), rfl, rfl, by rw [ht]; exact hP, va_K.moved hW.alike hK9, hD⟩, hS.F ht⟩) hS.2.2 dL_add_24
set_option maxHeartbeats 4000000 in
set_option maxRecDepth 100000 in
theorem ct_L_erase (l : Launch) (hlt : l.stackTraces = false) (dC : Nat → ClassId) (dI : Nat → Nat → Nat) (sz : Nat) (p0 p1 : Int32) (x : Nat) (xg : List Value) (chA : Nat) (chC : ClassId) (chF : Nat → Option Nat) (ch0 ch1 ch2 ch3 : Nat) (chg0 chg1 chg2 chg3 : List Value) (hchg0 : fx chg0 20 [(0, .int 0)]) (hchF0 : chF 0 = some ch0) (hchg1 : fx chg1 20 [(0, .int 0)]) (hchF1 : chF 1 = some ch1) (hchg2 : fx chg2 20 [(0, .int 0)]) (hchF2 : chF 2 = some ch2) (hchg3 : fx chg3 20 [(0, .int 0)]) (hchF3 : chF 3 = some ch3) (oA : Nat) (oC : ClassId) (oF : Nat → Int64) (hxg : fx xg 17 [(9, .ref chA)]) : Met l yL_erase (Cond.codeWith yL_erase cL_erase 5 (some .int) [(0, 10, 13, 32), (0, 10, 17, 105)] :: BG) ({ frames := 9, cells := 1, slots := 6, locals := 200 }) (va_Pc [.ref x, .int p0, .int p1, .ref oA] (fun U => U.heap.size = sz ∧ va_P (dC, dI) CL [(x, .inr (12, xg)), (chA, .inl (chC, (4, .inr (.inr (.inr (.inr chF)))))), (ch0, .inr (2, chg0)), (ch1, .inr (2, chg1)), (ch2, .inr (2, chg2)), (ch3, .inr (2, chg3)), (oA, .inl (oC, (1, .inr (.inl oF))))] U.heap ∧ va_K (dC, dI) CL [(chC, .object "ChipFlow$Chip"), (oC, .long)] U ∧ va_D (fun _ => True) [(x, .inr (12, xg)), (chA, .inl (chC, (4, .inr (.inr (.inr (.inr chF)))))), (ch0, .inr (2, chg0)), (ch1, .inr (2, chg1)), (ch2, .inr (2, chg2)), (ch3, .inr (2, chg3)), (oA, .inl (oC, (1, .inr (.inl oF))))] ∧ th (va_A [(x, .inr (12, xg)), (chA, .inl (chC, (4, .inr (.inr (.inr (.inr chF)))))), (ch0, .inr (2, chg0)), (ch1, .inr (2, chg1)), (ch2, .inr (2, chg2)), (ch3, .inr (2, chg3)), (oA, .inl (oC, (1, .inr (.inl oF))))] sz) U U.heap)) (va_Qi (fun (r : Int32) (_ : Unit) => r = 1) (fun _ t => va_P (dC, dI) CL [(oA, .inl (oC, (1, .inr (.inl oF))))] t.heap ∧ va_K (dC, dI) CL [(oC, .long)] t ∧ va_D (va_A [(x, .inr (12, xg)), (chA, .inl (chC, (4, .inr (.inr (.inr (.inr chF)))))), (ch0, .inr (2, chg0)), (ch1, .inr (2, chg1)), (ch2, .inr (2, chg2)), (ch3, .inr (2, chg3)), (oA, .inl (oC, (1, .inr (.inl oF))))] sz) [(oA, .inl (oC, (1, .inr (.inl oF))))]) (va_A [(x, .inr (12, xg)), (chA, .inl (chC, (4, .inr (.inr (.inr (.inr chF)))))), (ch0, .inr (2, chg0)), (ch1, .inr (2, chg1)), (ch2, .inr (2, chg2)), (ch3, .inr (2, chg3)), (oA, .inl (oC, (1, .inr (.inl oF))))] sz)) 1 6 (va_A [(x, .inr (12, xg)), (chA, .inl (chC, (4, .inr (.inr (.inr (.inr chF)))))), (ch0, .inr (2, chg0)), (ch1, .inr (2, chg1)), (ch2, .inr (2, chg2)), (ch3, .inr (2, chg3)), (oA, .inl (oC, (1, .inr (.inl oF))))] sz) := by
  refine va_MetW (hh := [(0, 10, 13, 32), (0, 10, 17, 105)]) (cc := cL_erase) (maxL := 5) (ret := (some .int)) (by decide) rfl ?_
  intro p e s m args below meth c s₁ B hml hv
  obtain ⟨rfl, hsz, hP, hK, hD0, hth⟩ := hv
  have hx := B.exec
  have hb := B.bytes
  have hr := B.returns
  have hts : ∀ w ∈ BG, w.before _ s = true := fun w h => atoms_spec (ws := Cond.codeWith yL_erase cL_erase 5 (some .int) [(0, 10, 13, 32), (0, 10, 17, 105)] :: BG) B.pre w (List.mem_cons_of_mem _ h)
  have hown : s.vm.findClass RL = some m.cls := findClass_of_methodNamed B.named
  have hlocks := B.notSynchronized
  subst hsz
  have hD := hD0.self (sz := s.heap.size)
  generalize hAe : va_A [(x, .inr (12, xg)), (chA, .inl (chC, (4, .inr (.inr (.inr (.inr chF)))))), (ch0, .inr (2, chg0)), (ch1, .inr (2, chg1)), (ch2, .inr (2, chg2)), (ch3, .inr (2, chg3)), (oA, .inl (oC, (1, .inr (.inl oF))))] s.heap.size = A at hD hth ⊢
  have hA : ∀ q : Nat, s.heap.size ≤ q → A q := fun q h => by rw [← hAe]; exact Or.inr h
  have hS : va_S A s.heap s.heap [] := va_S.rf
  have hl := lv_entry ([.ref x, .int p0, .int p1, .ref oA]) (n := 5) (Nat.le_of_ble_eq_true rfl)
  rw [lg_entry_eq]
  generalize (lg_sl ([.ref x, .int p0, .int p1, .ref oA]) ++ List.replicate (5 - (lg_sl ([.ref x, .int p0, .int p1, .ref oA])).length) Slot.unset).toArray = ls at hl ⊢
  have hl : lv_has ls 5 [(0, .ref x), (1, .int p0), (2, .int p1), (3, .ref oA)] := hl
  have hT : c.exceptionTable.toList = tableOf [(0, 10, 13, 32), (0, 10, 17, 105)] := vx_table (x := yL_erase) B (atoms_spec (ws := Cond.codeWith yL_erase cL_erase 5 (some .int) [(0, 10, 13, 32), (0, 10, 17, 105)] :: BG) B.pre _ List.mem_cons_self)
  have hFc := va_free (wc := [(x, .inr (12, xg)), (chA, .inl (chC, (4, .inr (.inr (.inr (.inr chF)))))), (ch0, .inr (2, chg0)), (ch1, .inr (2, chg1)), (ch2, .inr (2, chg2)), (ch3, .inr (2, chg3))]) hD hS hA [0, 1, 2, 3, 4, 5] rfl
  have hPc := hP.sub (ws' := [(x, .inr (12, xg)), (chA, .inl (chC, (4, .inr (.inr (.inr (.inr chF)))))), (ch0, .inr (2, chg0)), (ch1, .inr (2, chg1)), (ch2, .inr (2, chg2)), (ch3, .inr (2, chg3))]) [0, 1, 2, 3, 4, 5] rfl
  have hDc := hD.sub (ws' := [(x, .inr (12, xg)), (chA, .inl (chC, (4, .inr (.inr (.inr (.inr chF)))))), (ch0, .inr (2, chg0)), (ch1, .inr (2, chg1)), (ch2, .inr (2, chg2)), (ch3, .inr (2, chg3))]) [0, 1, 2, 3, 4, 5] (by decide) rfl
  have hKc := hK.sub (tys' := [(chC, .object "ChipFlow$Chip")]) [0] rfl
  have hK9 := hK.sub (tys' := [(oC, .long)]) [1] rfl
  refine lv_aload_n hx hb dL_erase_0 rfl (lv_at hl 3 rfl) ?_
  refine lv_iconst (v := 0) hx hb dL_erase_1 (by decide +kernel) ?_
  refine lv_aload_n hx hb dL_erase_2 rfl (lv_at hl 0 rfl) ?_
  refine lv_iload_n hx hb dL_erase_3 rfl (lv_at hl 1 rfl) ?_
  refine lv_iload_n hx hb dL_erase_4 rfl (lv_at hl 2 rfl) ?_
  refine vq_thr (vx_runV (As := [.int p0, .int p1]) (rest := [.int 0, .ref oA]) ⟨hx, hb, hml, hown, hts⟩ (ct_X12_erase l hlt dC dI s.heap.size p0 p1 x xg chA chC chF ch0 ch1 ch2 ch3 chg0 chg1 chg2 chg3 hchg0 hchF0 hchg1 hchF1 hchg2 hchF2 hchg3 hchF3 hxg) (cwV 2 hts (gi_V wd_2691 wd_2692 wd_2693 wd_327 wd_2694) rfl rfl rfl (by decide +kernel) ⟨(Nat.le_of_ble_eq_true rfl), (Nat.le_of_ble_eq_true rfl)⟩) ⟨fun a U g mk q => by obtain ⟨q0, q1, qP, qK, qD, qT⟩ := q; exact ⟨q0, q1, qP, va_K.moved (u := U) (U := U.calling g mk a) (Vm.Alike.refl U.vm) qK, qD, th.moved (u := U) (U := U.calling g mk a) (Vm.Alike.refl U.vm) qT⟩, va_recv hKc hPc (ci := 12) (q0 := 0) rfl rfl, fun U hU hW => ⟨rfl, by rw [hU], by rw [hU]; exact hPc, va_K.moved hW.alike hKc, hDc.weaken (fun _ _ _ _ => trivial), by rw [hU]; exact (hth.narrow hFc).moved hW.alike⟩⟩ rfl rfl hl.1 rfl (lv_room (Nat.le_of_ble_eq_true rfl)) dL_erase_5 ⟨(Nat.le_of_ble_eq_true rfl), (Nat.le_of_ble_eq_true rfl)⟩) (fun _ _ _ h => h) hS hFc (fun q _ h => hFc q h) (fun E ce q9 u t H1 locs ht hvm hp hB hz hk hS hce hcv hcl => ?_)
  subst hB
  obtain ⟨hP, hD⟩ := va_join (wr := [(oA, .inl (oC, (1, .inr (.inl oF))))]) (w1 := []) hP hD [0, 1, 2, 3, 4, 5] [6] rfl rfl (by decide) (by decide) hk hFc po_nilP po_nilD
  have hP : va_P (dC, dI) CL [(oA, .inl (oC, (1, .inr (.inl oF))))] H1 := hP
  have hD : va_D A [(oA, .inl (oC, (1, .inr (.inl oF))))] := hD
  refine vx_catch (own := RL) (name := "java/lang/IndexOutOfBoundsException") hown [] { startPc := 0, endPc := 10, handlerPc := 13, catchType := 32 } [{ startPc := 0, endPc := 10, handlerPc := 17, catchType := 105 }] (by rw [hT]; rfl) (fun _ h => nomatch h) (by decide) (by decide) (hts (.classLink RL 32 "java/lang/IndexOutOfBoundsException") wd_1804) (hth.cast (by decide)) hce hcv hcl ?_
  refine lv_astore (lv' := [(4, .ref q9), (0, .ref x), (1, .int p0), (2, .int p1), (3, .ref oA)]) hx hb dL_erase_13 hl (by decide) rfl (fun ls hl => ?_)
  refine lv_iconst (v := 1) hx hb dL_erase_15 (by decide +kernel) ?_
  refine W.widen (k := 1) (n := 6) (Nat.le_of_ble_eq_true rfl) (Nat.le_of_ble_eq_true rfl) ?_
  exact W.iret (v := 1) hx hb hr (fun t ht hW => ⟨⟨1, (), rfl, rfl, by rw [ht]; exact hP, va_K.moved hW.alike hK9, hD⟩, hS.F ht⟩) hS.2.2 dL_erase_16
set_option maxHeartbeats 4000000 in
set_option maxRecDepth 100000 in
theorem ct_L_check (l : Launch) (hlt : l.stackTraces = false) (dC : Nat → ClassId) (dI : Nat → Nat → Nat) (sz : Nat) (p0 : Int32) (x : Nat) (xg : List Value) (chA : Nat) (chC : ClassId) (chF : Nat → Option Nat) (ch0 ch1 ch2 ch3 : Nat) (chg0 chg1 chg2 chg3 : List Value) (hchg0 : fx chg0 20 [(0, .int 0)]) (hchF0 : chF 0 = some ch0) (hchg1 : fx chg1 20 [(0, .int 0)]) (hchF1 : chF 1 = some ch1) (hchg2 : fx chg2 20 [(0, .int 0)]) (hchF2 : chF 2 = some ch2) (hchg3 : fx chg3 20 [(0, .int 0)]) (hchF3 : chF 3 = some ch3) (oA : Nat) (oC : ClassId) (oF : Nat → Int64) (hxg : fx xg 17 [(9, .ref chA)]) : Met l yL_check (Cond.codeWith yL_check cL_check 4 (some .int) [(0, 9, 12, 32), (0, 9, 15, 105)] :: BG) ({ frames := 9, cells := 1, slots := 6, locals := 200 }) (va_Pc [.ref x, .int p0, .ref oA] (fun U => U.heap.size = sz ∧ va_P (dC, dI) CL [(x, .inr (12, xg)), (chA, .inl (chC, (4, .inr (.inr (.inr (.inr chF)))))), (ch0, .inr (2, chg0)), (ch1, .inr (2, chg1)), (ch2, .inr (2, chg2)), (ch3, .inr (2, chg3)), (oA, .inl (oC, (1, .inr (.inl oF))))] U.heap ∧ va_K (dC, dI) CL [(chC, .object "ChipFlow$Chip"), (oC, .long)] U ∧ va_D (fun _ => True) [(x, .inr (12, xg)), (chA, .inl (chC, (4, .inr (.inr (.inr (.inr chF)))))), (ch0, .inr (2, chg0)), (ch1, .inr (2, chg1)), (ch2, .inr (2, chg2)), (ch3, .inr (2, chg3)), (oA, .inl (oC, (1, .inr (.inl oF))))] ∧ th (va_A [(x, .inr (12, xg)), (chA, .inl (chC, (4, .inr (.inr (.inr (.inr chF)))))), (ch0, .inr (2, chg0)), (ch1, .inr (2, chg1)), (ch2, .inr (2, chg2)), (ch3, .inr (2, chg3)), (oA, .inl (oC, (1, .inr (.inl oF))))] sz) U U.heap)) (va_Qi (fun (r : Int32) (_ : Unit) => r = 1) (fun _ t => va_P (dC, dI) CL [(oA, .inl (oC, (1, .inr (.inl oF))))] t.heap ∧ va_K (dC, dI) CL [(oC, .long)] t ∧ va_D (va_A [(x, .inr (12, xg)), (chA, .inl (chC, (4, .inr (.inr (.inr (.inr chF)))))), (ch0, .inr (2, chg0)), (ch1, .inr (2, chg1)), (ch2, .inr (2, chg2)), (ch3, .inr (2, chg3)), (oA, .inl (oC, (1, .inr (.inl oF))))] sz) [(oA, .inl (oC, (1, .inr (.inl oF))))]) (va_A [(x, .inr (12, xg)), (chA, .inl (chC, (4, .inr (.inr (.inr (.inr chF)))))), (ch0, .inr (2, chg0)), (ch1, .inr (2, chg1)), (ch2, .inr (2, chg2)), (ch3, .inr (2, chg3)), (oA, .inl (oC, (1, .inr (.inl oF))))] sz)) 1 6 (va_A [(x, .inr (12, xg)), (chA, .inl (chC, (4, .inr (.inr (.inr (.inr chF)))))), (ch0, .inr (2, chg0)), (ch1, .inr (2, chg1)), (ch2, .inr (2, chg2)), (ch3, .inr (2, chg3)), (oA, .inl (oC, (1, .inr (.inl oF))))] sz) := by
  refine va_MetW (hh := [(0, 9, 12, 32), (0, 9, 15, 105)]) (cc := cL_check) (maxL := 4) (ret := (some .int)) (by decide) rfl ?_
  intro p e s m args below meth c s₁ B hml hv
  obtain ⟨rfl, hsz, hP, hK, hD0, hth⟩ := hv
  have hx := B.exec
  have hb := B.bytes
  have hr := B.returns
  have hts : ∀ w ∈ BG, w.before _ s = true := fun w h => atoms_spec (ws := Cond.codeWith yL_check cL_check 4 (some .int) [(0, 9, 12, 32), (0, 9, 15, 105)] :: BG) B.pre w (List.mem_cons_of_mem _ h)
  have hown : s.vm.findClass RL = some m.cls := findClass_of_methodNamed B.named
  have hlocks := B.notSynchronized
  subst hsz
  have hD := hD0.self (sz := s.heap.size)
  generalize hAe : va_A [(x, .inr (12, xg)), (chA, .inl (chC, (4, .inr (.inr (.inr (.inr chF)))))), (ch0, .inr (2, chg0)), (ch1, .inr (2, chg1)), (ch2, .inr (2, chg2)), (ch3, .inr (2, chg3)), (oA, .inl (oC, (1, .inr (.inl oF))))] s.heap.size = A at hD hth ⊢
  have hA : ∀ q : Nat, s.heap.size ≤ q → A q := fun q h => by rw [← hAe]; exact Or.inr h
  have hS : va_S A s.heap s.heap [] := va_S.rf
  have hl := lv_entry ([.ref x, .int p0, .ref oA]) (n := 4) (Nat.le_of_ble_eq_true rfl)
  rw [lg_entry_eq]
  generalize (lg_sl ([.ref x, .int p0, .ref oA]) ++ List.replicate (4 - (lg_sl ([.ref x, .int p0, .ref oA])).length) Slot.unset).toArray = ls at hl ⊢
  have hl : lv_has ls 4 [(0, .ref x), (1, .int p0), (2, .ref oA)] := hl
  have hT : c.exceptionTable.toList = tableOf [(0, 9, 12, 32), (0, 9, 15, 105)] := vx_table (x := yL_check) B (atoms_spec (ws := Cond.codeWith yL_check cL_check 4 (some .int) [(0, 9, 12, 32), (0, 9, 15, 105)] :: BG) B.pre _ List.mem_cons_self)
  have hFc := va_free (wc := [(x, .inr (12, xg)), (chA, .inl (chC, (4, .inr (.inr (.inr (.inr chF)))))), (ch0, .inr (2, chg0)), (ch1, .inr (2, chg1)), (ch2, .inr (2, chg2)), (ch3, .inr (2, chg3))]) hD hS hA [0, 1, 2, 3, 4, 5] rfl
  have hPc := hP.sub (ws' := [(x, .inr (12, xg)), (chA, .inl (chC, (4, .inr (.inr (.inr (.inr chF)))))), (ch0, .inr (2, chg0)), (ch1, .inr (2, chg1)), (ch2, .inr (2, chg2)), (ch3, .inr (2, chg3))]) [0, 1, 2, 3, 4, 5] rfl
  have hDc := hD.sub (ws' := [(x, .inr (12, xg)), (chA, .inl (chC, (4, .inr (.inr (.inr (.inr chF)))))), (ch0, .inr (2, chg0)), (ch1, .inr (2, chg1)), (ch2, .inr (2, chg2)), (ch3, .inr (2, chg3))]) [0, 1, 2, 3, 4, 5] (by decide) rfl
  have hKc := hK.sub (tys' := [(chC, .object "ChipFlow$Chip")]) [0] rfl
  have hK9 := hK.sub (tys' := [(oC, .long)]) [1] rfl
  refine lv_aload_n hx hb dL_check_0 rfl (lv_at hl 2 rfl) ?_
  refine lv_iconst (v := 0) hx hb dL_check_1 (by decide +kernel) ?_
  refine lv_aload_n hx hb dL_check_2 rfl (lv_at hl 0 rfl) ?_
  refine lv_iload_n hx hb dL_check_3 rfl (lv_at hl 1 rfl) ?_
  refine vq_thr (vx_runV (As := [.int p0]) (rest := [.int 0, .ref oA]) ⟨hx, hb, hml, hown, hts⟩ (ct_X12_check l hlt dC dI s.heap.size p0 x xg chA chC chF ch0 ch1 ch2 ch3 chg0 chg1 chg2 chg3 hchg0 hchF0 hchg1 hchF1 hchg2 hchF2 hchg3 hchF3 hxg) (cwV 1 hts (gi_V wd_2703 wd_2704 wd_2705 wd_327 wd_2706) rfl rfl rfl (by decide +kernel) ⟨(Nat.le_of_ble_eq_true rfl), (Nat.le_of_ble_eq_true rfl)⟩) ⟨fun a U g mk q => by obtain ⟨q0, q1, qP, qK, qD, qT⟩ := q; exact ⟨q0, q1, qP, va_K.moved (u := U) (U := U.calling g mk a) (Vm.Alike.refl U.vm) qK, qD, th.moved (u := U) (U := U.calling g mk a) (Vm.Alike.refl U.vm) qT⟩, va_recv hKc hPc (ci := 12) (q0 := 0) rfl rfl, fun U hU hW => ⟨rfl, by rw [hU], by rw [hU]; exact hPc, va_K.moved hW.alike hKc, hDc.weaken (fun _ _ _ _ => trivial), by rw [hU]; exact (hth.narrow hFc).moved hW.alike⟩⟩ rfl rfl hl.1 rfl (lv_room (Nat.le_of_ble_eq_true rfl)) dL_check_4 ⟨(Nat.le_of_ble_eq_true rfl), (Nat.le_of_ble_eq_true rfl)⟩) (fun _ _ _ h => h) hS hFc (fun q _ h => hFc q h) (fun E ce q9 u t H1 locs ht hvm hp hB hz hk hS hce hcv hcl => ?_)
  subst hB
  obtain ⟨hP, hD⟩ := va_join (wr := [(oA, .inl (oC, (1, .inr (.inl oF))))]) (w1 := []) hP hD [0, 1, 2, 3, 4, 5] [6] rfl rfl (by decide) (by decide) hk hFc po_nilP po_nilD
  have hP : va_P (dC, dI) CL [(oA, .inl (oC, (1, .inr (.inl oF))))] H1 := hP
  have hD : va_D A [(oA, .inl (oC, (1, .inr (.inl oF))))] := hD
  refine vx_catch (own := RL) (name := "java/lang/IndexOutOfBoundsException") hown [] { startPc := 0, endPc := 9, handlerPc := 12, catchType := 32 } [{ startPc := 0, endPc := 9, handlerPc := 15, catchType := 105 }] (by rw [hT]; rfl) (fun _ h => nomatch h) (by decide) (by decide) (hts (.classLink RL 32 "java/lang/IndexOutOfBoundsException") wd_1804) (hth.cast (by decide)) hce hcv hcl ?_
  refine lv_astore_n (lv' := [(3, .ref q9), (0, .ref x), (1, .int p0), (2, .ref oA)]) hx hb dL_check_12 rfl hl (by decide) rfl (fun ls hl => ?_)
  refine lv_iconst (v := 1) hx hb dL_check_13 (by decide +kernel) ?_
  refine W.widen (k := 1) (n := 6) (Nat.le_of_ble_eq_true rfl) (Nat.le_of_ble_eq_true rfl) ?_
  exact W.iret (v := 1) hx hb hr (fun t ht hW => ⟨⟨1, (), rfl, rfl, by rw [ht]; exact hP, va_K.moved hW.alike hK9, hD⟩, hS.F ht⟩) hS.2.2 dL_check_14
set_option maxHeartbeats 4000000 in
set_option maxRecDepth 100000 in
theorem ct_L_violation (l : Launch) (hlt : l.stackTraces = false) (dC : Nat → ClassId) (dI : Nat → Nat → Nat) (sz : Nat) (p0 p1 p2 : Int32) (x : Nat) (xg : List Value) (chA : Nat) (chC : ClassId) (chF : Nat → Option Nat) (ch0 ch1 ch2 ch3 : Nat) (chg0 chg1 chg2 chg3 : List Value) (hchg0 : fx chg0 20 [(0, .int 0)]) (hchF0 : chF 0 = some ch0) (hchg1 : fx chg1 20 [(0, .int 0)]) (hchF1 : chF 1 = some ch1) (hchg2 : fx chg2 20 [(0, .int 0)]) (hchF2 : chF 2 = some ch2) (hchg3 : fx chg3 20 [(0, .int 0)]) (hchF3 : chF 3 = some ch3) (oA : Nat) (oC : ClassId) (oF : Nat → Int64) (hxg : fx xg 17 [(9, .ref chA)]) : Met l yL_violation (Cond.codeWith yL_violation cL_violation 6 (some .int) [(0, 12, 15, 32), (0, 12, 19, 105)] :: BG) ({ frames := 9, cells := 1, slots := 6, locals := 200 }) (va_Pc [.ref x, .int p0, .int p1, .int p2, .ref oA] (fun U => U.heap.size = sz ∧ va_P (dC, dI) CL [(x, .inr (12, xg)), (chA, .inl (chC, (4, .inr (.inr (.inr (.inr chF)))))), (ch0, .inr (2, chg0)), (ch1, .inr (2, chg1)), (ch2, .inr (2, chg2)), (ch3, .inr (2, chg3)), (oA, .inl (oC, (1, .inr (.inl oF))))] U.heap ∧ va_K (dC, dI) CL [(chC, .object "ChipFlow$Chip"), (oC, .long)] U ∧ va_D (fun _ => True) [(x, .inr (12, xg)), (chA, .inl (chC, (4, .inr (.inr (.inr (.inr chF)))))), (ch0, .inr (2, chg0)), (ch1, .inr (2, chg1)), (ch2, .inr (2, chg2)), (ch3, .inr (2, chg3)), (oA, .inl (oC, (1, .inr (.inl oF))))] ∧ th (va_A [(x, .inr (12, xg)), (chA, .inl (chC, (4, .inr (.inr (.inr (.inr chF)))))), (ch0, .inr (2, chg0)), (ch1, .inr (2, chg1)), (ch2, .inr (2, chg2)), (ch3, .inr (2, chg3)), (oA, .inl (oC, (1, .inr (.inl oF))))] sz) U U.heap)) (va_Qi (fun (r : Int32) (_ : Unit) => r = 1) (fun _ t => va_P (dC, dI) CL [(oA, .inl (oC, (1, .inr (.inl oF))))] t.heap ∧ va_K (dC, dI) CL [(oC, .long)] t ∧ va_D (va_A [(x, .inr (12, xg)), (chA, .inl (chC, (4, .inr (.inr (.inr (.inr chF)))))), (ch0, .inr (2, chg0)), (ch1, .inr (2, chg1)), (ch2, .inr (2, chg2)), (ch3, .inr (2, chg3)), (oA, .inl (oC, (1, .inr (.inl oF))))] sz) [(oA, .inl (oC, (1, .inr (.inl oF))))]) (va_A [(x, .inr (12, xg)), (chA, .inl (chC, (4, .inr (.inr (.inr (.inr chF)))))), (ch0, .inr (2, chg0)), (ch1, .inr (2, chg1)), (ch2, .inr (2, chg2)), (ch3, .inr (2, chg3)), (oA, .inl (oC, (1, .inr (.inl oF))))] sz)) 1 6 (va_A [(x, .inr (12, xg)), (chA, .inl (chC, (4, .inr (.inr (.inr (.inr chF)))))), (ch0, .inr (2, chg0)), (ch1, .inr (2, chg1)), (ch2, .inr (2, chg2)), (ch3, .inr (2, chg3)), (oA, .inl (oC, (1, .inr (.inl oF))))] sz) := by
  refine va_MetW (hh := [(0, 12, 15, 32), (0, 12, 19, 105)]) (cc := cL_violation) (maxL := 6) (ret := (some .int)) (by decide) rfl ?_
  intro p e s m args below meth c s₁ B hml hv
  obtain ⟨rfl, hsz, hP, hK, hD0, hth⟩ := hv
  have hx := B.exec
  have hb := B.bytes
  have hr := B.returns
  have hts : ∀ w ∈ BG, w.before _ s = true := fun w h => atoms_spec (ws := Cond.codeWith yL_violation cL_violation 6 (some .int) [(0, 12, 15, 32), (0, 12, 19, 105)] :: BG) B.pre w (List.mem_cons_of_mem _ h)
  have hown : s.vm.findClass RL = some m.cls := findClass_of_methodNamed B.named
  have hlocks := B.notSynchronized
  subst hsz
  have hD := hD0.self (sz := s.heap.size)
  generalize hAe : va_A [(x, .inr (12, xg)), (chA, .inl (chC, (4, .inr (.inr (.inr (.inr chF)))))), (ch0, .inr (2, chg0)), (ch1, .inr (2, chg1)), (ch2, .inr (2, chg2)), (ch3, .inr (2, chg3)), (oA, .inl (oC, (1, .inr (.inl oF))))] s.heap.size = A at hD hth ⊢
  have hA : ∀ q : Nat, s.heap.size ≤ q → A q := fun q h => by rw [← hAe]; exact Or.inr h
  have hS : va_S A s.heap s.heap [] := va_S.rf
  have hl := lv_entry ([.ref x, .int p0, .int p1, .int p2, .ref oA]) (n := 6) (Nat.le_of_ble_eq_true rfl)
  rw [lg_entry_eq]
  generalize (lg_sl ([.ref x, .int p0, .int p1, .int p2, .ref oA]) ++ List.replicate (6 - (lg_sl ([.ref x, .int p0, .int p1, .int p2, .ref oA])).length) Slot.unset).toArray = ls at hl ⊢
  have hl : lv_has ls 6 [(0, .ref x), (1, .int p0), (2, .int p1), (3, .int p2), (4, .ref oA)] := hl
  have hT : c.exceptionTable.toList = tableOf [(0, 12, 15, 32), (0, 12, 19, 105)] := vx_table (x := yL_violation) B (atoms_spec (ws := Cond.codeWith yL_violation cL_violation 6 (some .int) [(0, 12, 15, 32), (0, 12, 19, 105)] :: BG) B.pre _ List.mem_cons_self)
  have hFc := va_free (wc := [(x, .inr (12, xg)), (chA, .inl (chC, (4, .inr (.inr (.inr (.inr chF)))))), (ch0, .inr (2, chg0)), (ch1, .inr (2, chg1)), (ch2, .inr (2, chg2)), (ch3, .inr (2, chg3))]) hD hS hA [0, 1, 2, 3, 4, 5] rfl
  have hPc := hP.sub (ws' := [(x, .inr (12, xg)), (chA, .inl (chC, (4, .inr (.inr (.inr (.inr chF)))))), (ch0, .inr (2, chg0)), (ch1, .inr (2, chg1)), (ch2, .inr (2, chg2)), (ch3, .inr (2, chg3))]) [0, 1, 2, 3, 4, 5] rfl
  have hDc := hD.sub (ws' := [(x, .inr (12, xg)), (chA, .inl (chC, (4, .inr (.inr (.inr (.inr chF)))))), (ch0, .inr (2, chg0)), (ch1, .inr (2, chg1)), (ch2, .inr (2, chg2)), (ch3, .inr (2, chg3))]) [0, 1, 2, 3, 4, 5] (by decide) rfl
  have hKc := hK.sub (tys' := [(chC, .object "ChipFlow$Chip")]) [0] rfl
  have hK9 := hK.sub (tys' := [(oC, .long)]) [1] rfl
  refine lv_aload hx hb dL_violation_0 (lv_at hl 4 rfl) ?_
  refine lv_iconst (v := 0) hx hb dL_violation_2 (by decide +kernel) ?_
  refine lv_aload_n hx hb dL_violation_3 rfl (lv_at hl 0 rfl) ?_
  refine lv_iload_n hx hb dL_violation_4 rfl (lv_at hl 1 rfl) ?_
  refine lv_iload_n hx hb dL_violation_5 rfl (lv_at hl 2 rfl) ?_
  refine lv_iload_n hx hb dL_violation_6 rfl (lv_at hl 3 rfl) ?_
  refine vq_thr (vx_runV (As := [.int p0, .int p1, .int p2]) (rest := [.int 0, .ref oA]) ⟨hx, hb, hml, hown, hts⟩ (ct_X12_violation l hlt dC dI s.heap.size p0 p1 p2 x xg chA chC chF ch0 ch1 ch2 ch3 chg0 chg1 chg2 chg3 hchg0 hchF0 hchg1 hchF1 hchg2 hchF2 hchg3 hchF3 hxg) (cwV 3 hts (gi_V wd_2723 wd_2724 wd_2725 wd_327 wd_2726) rfl rfl rfl (by decide +kernel) ⟨(Nat.le_of_ble_eq_true rfl), (Nat.le_of_ble_eq_true rfl)⟩) ⟨fun a U g mk q => by obtain ⟨q0, q1, qP, qK, qD, qT⟩ := q; exact ⟨q0, q1, qP, va_K.moved (u := U) (U := U.calling g mk a) (Vm.Alike.refl U.vm) qK, qD, th.moved (u := U) (U := U.calling g mk a) (Vm.Alike.refl U.vm) qT⟩, va_recv hKc hPc (ci := 12) (q0 := 0) rfl rfl, fun U hU hW => ⟨rfl, by rw [hU], by rw [hU]; exact hPc, va_K.moved hW.alike hKc, hDc.weaken (fun _ _ _ _ => trivial), by rw [hU]; exact (hth.narrow hFc).moved hW.alike⟩⟩ rfl rfl hl.1 rfl (lv_room (Nat.le_of_ble_eq_true rfl)) dL_violation_7 ⟨(Nat.le_of_ble_eq_true rfl), (Nat.le_of_ble_eq_true rfl)⟩) (fun _ _ _ h => h) hS hFc (fun q _ h => hFc q h) (fun E ce q9 u t H1 locs ht hvm hp hB hz hk hS hce hcv hcl => ?_)
  subst hB
  obtain ⟨hP, hD⟩ := va_join (wr := [(oA, .inl (oC, (1, .inr (.inl oF))))]) (w1 := []) hP hD [0, 1, 2, 3, 4, 5] [6] rfl rfl (by decide) (by decide) hk hFc po_nilP po_nilD
  have hP : va_P (dC, dI) CL [(oA, .inl (oC, (1, .inr (.inl oF))))] H1 := hP
  have hD : va_D A [(oA, .inl (oC, (1, .inr (.inl oF))))] := hD
  refine vx_catch (own := RL) (name := "java/lang/IndexOutOfBoundsException") hown [] { startPc := 0, endPc := 12, handlerPc := 15, catchType := 32 } [{ startPc := 0, endPc := 12, handlerPc := 19, catchType := 105 }] (by rw [hT]; rfl) (fun _ h => nomatch h) (by decide) (by decide) (hts (.classLink RL 32 "java/lang/IndexOutOfBoundsException") wd_1804) (hth.cast (by decide)) hce hcv hcl ?_
  refine lv_astore (lv' := [(5, .ref q9), (0, .ref x), (1, .int p0), (2, .int p1), (3, .int p2), (4, .ref oA)]) hx hb dL_violation_15 hl (by decide) rfl (fun ls hl => ?_)
  refine lv_iconst (v := 1) hx hb dL_violation_17 (by decide +kernel) ?_
  refine W.widen (k := 1) (n := 6) (Nat.le_of_ble_eq_true rfl) (Nat.le_of_ble_eq_true rfl) ?_
  exact W.iret (v := 1) hx hb hr (fun t ht hW => ⟨⟨1, (), rfl, rfl, by rw [ht]; exact hP, va_K.moved hW.alike hK9, hD⟩, hS.F ht⟩) hS.2.2 dL_violation_18
set_option maxHeartbeats 4000000 in
set_option maxRecDepth 100000 in
theorem ct_L_found (l : Launch) (hlt : l.stackTraces = false) (dC : Nat → ClassId) (dI : Nat → Nat → Nat) (sz : Nat) (p0 p1 : Int32) (x : Nat) (xg : List Value) (chA : Nat) (chC : ClassId) (chF : Nat → Option Nat) (ch0 ch1 ch2 ch3 : Nat) (chg0 chg1 chg2 chg3 : List Value) (hchg0 : fx chg0 20 [(0, .int 0)]) (hchF0 : chF 0 = some ch0) (hchg1 : fx chg1 20 [(0, .int 0)]) (hchF1 : chF 1 = some ch1) (hchg2 : fx chg2 20 [(0, .int 0)]) (hchF2 : chF 2 = some ch2) (hchg3 : fx chg3 20 [(0, .int 0)]) (hchF3 : chF 3 = some ch3) (oA : Nat) (oC : ClassId) (oF : Nat → Int64) (hxg : fx xg 17 [(9, .ref chA)]) : Met l yL_found (Cond.codeWith yL_found cL_found 5 (some .int) [(0, 10, 13, 32), (0, 10, 17, 19), (0, 10, 21, 105)] :: BG) ({ frames := 9, cells := 1, slots := 6, locals := 200 }) (va_Pc [.ref x, .int p0, .int p1, .ref oA] (fun U => U.heap.size = sz ∧ va_P (dC, dI) CL [(x, .inr (12, xg)), (chA, .inl (chC, (4, .inr (.inr (.inr (.inr chF)))))), (ch0, .inr (2, chg0)), (ch1, .inr (2, chg1)), (ch2, .inr (2, chg2)), (ch3, .inr (2, chg3)), (oA, .inl (oC, (1, .inr (.inl oF))))] U.heap ∧ va_K (dC, dI) CL [(chC, .object "ChipFlow$Chip"), (oC, .long)] U ∧ va_D (fun _ => True) [(x, .inr (12, xg)), (chA, .inl (chC, (4, .inr (.inr (.inr (.inr chF)))))), (ch0, .inr (2, chg0)), (ch1, .inr (2, chg1)), (ch2, .inr (2, chg2)), (ch3, .inr (2, chg3)), (oA, .inl (oC, (1, .inr (.inl oF))))] ∧ th (va_A [(x, .inr (12, xg)), (chA, .inl (chC, (4, .inr (.inr (.inr (.inr chF)))))), (ch0, .inr (2, chg0)), (ch1, .inr (2, chg1)), (ch2, .inr (2, chg2)), (ch3, .inr (2, chg3)), (oA, .inl (oC, (1, .inr (.inl oF))))] sz) U U.heap)) (va_Qi (fun (r : Int32) (_ : Unit) => r = 1) (fun _ t => va_P (dC, dI) CL [(oA, .inl (oC, (1, .inr (.inl oF))))] t.heap ∧ va_K (dC, dI) CL [(oC, .long)] t ∧ va_D (va_A [(x, .inr (12, xg)), (chA, .inl (chC, (4, .inr (.inr (.inr (.inr chF)))))), (ch0, .inr (2, chg0)), (ch1, .inr (2, chg1)), (ch2, .inr (2, chg2)), (ch3, .inr (2, chg3)), (oA, .inl (oC, (1, .inr (.inl oF))))] sz) [(oA, .inl (oC, (1, .inr (.inl oF))))]) (va_A [(x, .inr (12, xg)), (chA, .inl (chC, (4, .inr (.inr (.inr (.inr chF)))))), (ch0, .inr (2, chg0)), (ch1, .inr (2, chg1)), (ch2, .inr (2, chg2)), (ch3, .inr (2, chg3)), (oA, .inl (oC, (1, .inr (.inl oF))))] sz)) 1 6 (va_A [(x, .inr (12, xg)), (chA, .inl (chC, (4, .inr (.inr (.inr (.inr chF)))))), (ch0, .inr (2, chg0)), (ch1, .inr (2, chg1)), (ch2, .inr (2, chg2)), (ch3, .inr (2, chg3)), (oA, .inl (oC, (1, .inr (.inl oF))))] sz) := by
  refine va_MetW (hh := [(0, 10, 13, 32), (0, 10, 17, 19), (0, 10, 21, 105)]) (cc := cL_found) (maxL := 5) (ret := (some .int)) (by decide) rfl ?_
  intro p e s m args below meth c s₁ B hml hv
  obtain ⟨rfl, hsz, hP, hK, hD0, hth⟩ := hv
  have hx := B.exec
  have hb := B.bytes
  have hr := B.returns
  have hts : ∀ w ∈ BG, w.before _ s = true := fun w h => atoms_spec (ws := Cond.codeWith yL_found cL_found 5 (some .int) [(0, 10, 13, 32), (0, 10, 17, 19), (0, 10, 21, 105)] :: BG) B.pre w (List.mem_cons_of_mem _ h)
  have hown : s.vm.findClass RL = some m.cls := findClass_of_methodNamed B.named
  have hlocks := B.notSynchronized
  subst hsz
  have hD := hD0.self (sz := s.heap.size)
  generalize hAe : va_A [(x, .inr (12, xg)), (chA, .inl (chC, (4, .inr (.inr (.inr (.inr chF)))))), (ch0, .inr (2, chg0)), (ch1, .inr (2, chg1)), (ch2, .inr (2, chg2)), (ch3, .inr (2, chg3)), (oA, .inl (oC, (1, .inr (.inl oF))))] s.heap.size = A at hD hth ⊢
  have hA : ∀ q : Nat, s.heap.size ≤ q → A q := fun q h => by rw [← hAe]; exact Or.inr h
  have hS : va_S A s.heap s.heap [] := va_S.rf
  have hl := lv_entry ([.ref x, .int p0, .int p1, .ref oA]) (n := 5) (Nat.le_of_ble_eq_true rfl)
  rw [lg_entry_eq]
  generalize (lg_sl ([.ref x, .int p0, .int p1, .ref oA]) ++ List.replicate (5 - (lg_sl ([.ref x, .int p0, .int p1, .ref oA])).length) Slot.unset).toArray = ls at hl ⊢
  have hl : lv_has ls 5 [(0, .ref x), (1, .int p0), (2, .int p1), (3, .ref oA)] := hl
  have hT : c.exceptionTable.toList = tableOf [(0, 10, 13, 32), (0, 10, 17, 19), (0, 10, 21, 105)] := vx_table (x := yL_found) B (atoms_spec (ws := Cond.codeWith yL_found cL_found 5 (some .int) [(0, 10, 13, 32), (0, 10, 17, 19), (0, 10, 21, 105)] :: BG) B.pre _ List.mem_cons_self)
  have hFc := va_free (wc := [(x, .inr (12, xg)), (chA, .inl (chC, (4, .inr (.inr (.inr (.inr chF)))))), (ch0, .inr (2, chg0)), (ch1, .inr (2, chg1)), (ch2, .inr (2, chg2)), (ch3, .inr (2, chg3))]) hD hS hA [0, 1, 2, 3, 4, 5] rfl
  have hPc := hP.sub (ws' := [(x, .inr (12, xg)), (chA, .inl (chC, (4, .inr (.inr (.inr (.inr chF)))))), (ch0, .inr (2, chg0)), (ch1, .inr (2, chg1)), (ch2, .inr (2, chg2)), (ch3, .inr (2, chg3))]) [0, 1, 2, 3, 4, 5] rfl
  have hDc := hD.sub (ws' := [(x, .inr (12, xg)), (chA, .inl (chC, (4, .inr (.inr (.inr (.inr chF)))))), (ch0, .inr (2, chg0)), (ch1, .inr (2, chg1)), (ch2, .inr (2, chg2)), (ch3, .inr (2, chg3))]) [0, 1, 2, 3, 4, 5] (by decide) rfl
  have hKc := hK.sub (tys' := [(chC, .object "ChipFlow$Chip")]) [0] rfl
  have hK9 := hK.sub (tys' := [(oC, .long)]) [1] rfl
  refine lv_aload_n hx hb dL_found_0 rfl (lv_at hl 3 rfl) ?_
  refine lv_iconst (v := 0) hx hb dL_found_1 (by decide +kernel) ?_
  refine lv_aload_n hx hb dL_found_2 rfl (lv_at hl 0 rfl) ?_
  refine lv_iload_n hx hb dL_found_3 rfl (lv_at hl 1 rfl) ?_
  refine lv_iload_n hx hb dL_found_4 rfl (lv_at hl 2 rfl) ?_
  refine vq_thr (vx_runV (As := [.int p0, .int p1]) (rest := [.int 0, .ref oA]) ⟨hx, hb, hml, hown, hts⟩ (ct_X12_found l hlt dC dI s.heap.size p0 p1 x xg chA chC chF ch0 ch1 ch2 ch3 chg0 chg1 chg2 chg3 hchg0 hchF0 hchg1 hchF1 hchg2 hchF2 hchg3 hchF3 hxg) (cwV 2 hts (gi_V wd_2738 wd_2739 wd_2740 wd_327 wd_2741) rfl rfl rfl (by decide +kernel) ⟨(Nat.le_of_ble_eq_true rfl), (Nat.le_of_ble_eq_true rfl)⟩) ⟨fun a U g mk q => by obtain ⟨q0, q1, qP, qK, qD, qT⟩ := q; exact ⟨q0, q1, qP, va_K.moved (u := U) (U := U.calling g mk a) (Vm.Alike.refl U.vm) qK, qD, th.moved (u := U) (U := U.calling g mk a) (Vm.Alike.refl U.vm) qT⟩, va_recv hKc hPc (ci := 12) (q0 := 0) rfl rfl, fun U hU hW => ⟨rfl, by rw [hU], by rw [hU]; exact hPc, va_K.moved hW.alike hKc, hDc.weaken (fun _ _ _ _ => trivial), by rw [hU]; exact (hth.narrow hFc).moved hW.alike⟩⟩ rfl rfl hl.1 rfl (lv_room (Nat.le_of_ble_eq_true rfl)) dL_found_5 ⟨(Nat.le_of_ble_eq_true rfl), (Nat.le_of_ble_eq_true rfl)⟩) (fun _ _ _ h => h) hS hFc (fun q _ h => hFc q h) (fun E ce q9 u t H1 locs ht hvm hp hB hz hk hS hce hcv hcl => ?_)
  subst hB
  obtain ⟨hP, hD⟩ := va_join (wr := [(oA, .inl (oC, (1, .inr (.inl oF))))]) (w1 := []) hP hD [0, 1, 2, 3, 4, 5] [6] rfl rfl (by decide) (by decide) hk hFc po_nilP po_nilD
  have hP : va_P (dC, dI) CL [(oA, .inl (oC, (1, .inr (.inl oF))))] H1 := hP
  have hD : va_D A [(oA, .inl (oC, (1, .inr (.inl oF))))] := hD
  refine vx_catch (own := RL) (name := "java/lang/IndexOutOfBoundsException") hown [] { startPc := 0, endPc := 10, handlerPc := 13, catchType := 32 } [{ startPc := 0, endPc := 10, handlerPc := 17, catchType := 19 }, { startPc := 0, endPc := 10, handlerPc := 21, catchType := 105 }] (by rw [hT]; rfl) (fun _ h => nomatch h) (by decide) (by decide) (hts (.classLink RL 32 "java/lang/IndexOutOfBoundsException") wd_1804) (hth.cast (by decide)) hce hcv hcl ?_
  refine lv_astore (lv' := [(4, .ref q9), (0, .ref x), (1, .int p0), (2, .int p1), (3, .ref oA)]) hx hb dL_found_13 hl (by decide) rfl (fun ls hl => ?_)
  refine lv_iconst (v := 1) hx hb dL_found_15 (by decide +kernel) ?_
  refine W.widen (k := 1) (n := 6) (Nat.le_of_ble_eq_true rfl) (Nat.le_of_ble_eq_true rfl) ?_
  exact W.iret (v := 1) hx hb hr (fun t ht hW => ⟨⟨1, (), rfl, rfl, by rw [ht]; exact hP, va_K.moved hW.alike hK9, hD⟩, hS.F ht⟩) hS.2.2 dL_found_16
set_option maxHeartbeats 4000000 in
set_option maxRecDepth 100000 in
theorem ct_L_arrival (l : Launch) (hlt : l.stackTraces = false) (dC : Nat → ClassId) (dI : Nat → Nat → Nat) (sz : Nat) (p0 p1 p2 : Int32) (x : Nat) (xg : List Value) (chA : Nat) (chC : ClassId) (chF : Nat → Option Nat) (ch0 ch1 ch2 ch3 : Nat) (chg0 chg1 chg2 chg3 : List Value) (hchg0 : fx chg0 20 [(0, .int 0)]) (hchF0 : chF 0 = some ch0) (hchg1 : fx chg1 20 [(0, .int 0)]) (hchF1 : chF 1 = some ch1) (hchg2 : fx chg2 20 [(0, .int 0)]) (hchF2 : chF 2 = some ch2) (hchg3 : fx chg3 20 [(0, .int 0)]) (hchF3 : chF 3 = some ch3) (oA : Nat) (oC : ClassId) (oF : Nat → Int64) (hxg : fx xg 17 [(9, .ref chA)]) : Met l yL_arrival (Cond.codeWith yL_arrival cL_arrival 6 (some .int) [(0, 12, 15, 32)] :: BG) ({ frames := 9, cells := 1, slots := 6, locals := 200 }) (va_Pc [.ref x, .int p0, .int p1, .int p2, .ref oA] (fun U => U.heap.size = sz ∧ va_P (dC, dI) CL [(x, .inr (12, xg)), (chA, .inl (chC, (4, .inr (.inr (.inr (.inr chF)))))), (ch0, .inr (2, chg0)), (ch1, .inr (2, chg1)), (ch2, .inr (2, chg2)), (ch3, .inr (2, chg3)), (oA, .inl (oC, (1, .inr (.inl oF))))] U.heap ∧ va_K (dC, dI) CL [(chC, .object "ChipFlow$Chip"), (oC, .long)] U ∧ va_D (fun _ => True) [(x, .inr (12, xg)), (chA, .inl (chC, (4, .inr (.inr (.inr (.inr chF)))))), (ch0, .inr (2, chg0)), (ch1, .inr (2, chg1)), (ch2, .inr (2, chg2)), (ch3, .inr (2, chg3)), (oA, .inl (oC, (1, .inr (.inl oF))))] ∧ th (va_A [(x, .inr (12, xg)), (chA, .inl (chC, (4, .inr (.inr (.inr (.inr chF)))))), (ch0, .inr (2, chg0)), (ch1, .inr (2, chg1)), (ch2, .inr (2, chg2)), (ch3, .inr (2, chg3)), (oA, .inl (oC, (1, .inr (.inl oF))))] sz) U U.heap)) (va_Qi (fun (r : Int32) (_ : Unit) => r = 1) (fun _ t => va_P (dC, dI) CL [(oA, .inl (oC, (1, .inr (.inl oF))))] t.heap ∧ va_K (dC, dI) CL [(oC, .long)] t ∧ va_D (va_A [(x, .inr (12, xg)), (chA, .inl (chC, (4, .inr (.inr (.inr (.inr chF)))))), (ch0, .inr (2, chg0)), (ch1, .inr (2, chg1)), (ch2, .inr (2, chg2)), (ch3, .inr (2, chg3)), (oA, .inl (oC, (1, .inr (.inl oF))))] sz) [(oA, .inl (oC, (1, .inr (.inl oF))))]) (va_A [(x, .inr (12, xg)), (chA, .inl (chC, (4, .inr (.inr (.inr (.inr chF)))))), (ch0, .inr (2, chg0)), (ch1, .inr (2, chg1)), (ch2, .inr (2, chg2)), (ch3, .inr (2, chg3)), (oA, .inl (oC, (1, .inr (.inl oF))))] sz)) 1 6 (va_A [(x, .inr (12, xg)), (chA, .inl (chC, (4, .inr (.inr (.inr (.inr chF)))))), (ch0, .inr (2, chg0)), (ch1, .inr (2, chg1)), (ch2, .inr (2, chg2)), (ch3, .inr (2, chg3)), (oA, .inl (oC, (1, .inr (.inl oF))))] sz) := by
  refine va_MetW (hh := [(0, 12, 15, 32)]) (cc := cL_arrival) (maxL := 6) (ret := (some .int)) (by decide) rfl ?_
  intro p e s m args below meth c s₁ B hml hv
  obtain ⟨rfl, hsz, hP, hK, hD0, hth⟩ := hv
  have hx := B.exec
  have hb := B.bytes
  have hr := B.returns
  have hts : ∀ w ∈ BG, w.before _ s = true := fun w h => atoms_spec (ws := Cond.codeWith yL_arrival cL_arrival 6 (some .int) [(0, 12, 15, 32)] :: BG) B.pre w (List.mem_cons_of_mem _ h)
  have hown : s.vm.findClass RL = some m.cls := findClass_of_methodNamed B.named
  have hlocks := B.notSynchronized
  subst hsz
  have hD := hD0.self (sz := s.heap.size)
  generalize hAe : va_A [(x, .inr (12, xg)), (chA, .inl (chC, (4, .inr (.inr (.inr (.inr chF)))))), (ch0, .inr (2, chg0)), (ch1, .inr (2, chg1)), (ch2, .inr (2, chg2)), (ch3, .inr (2, chg3)), (oA, .inl (oC, (1, .inr (.inl oF))))] s.heap.size = A at hD hth ⊢
  have hA : ∀ q : Nat, s.heap.size ≤ q → A q := fun q h => by rw [← hAe]; exact Or.inr h
  have hS : va_S A s.heap s.heap [] := va_S.rf
  have hl := lv_entry ([.ref x, .int p0, .int p1, .int p2, .ref oA]) (n := 6) (Nat.le_of_ble_eq_true rfl)
  rw [lg_entry_eq]
  generalize (lg_sl ([.ref x, .int p0, .int p1, .int p2, .ref oA]) ++ List.replicate (6 - (lg_sl ([.ref x, .int p0, .int p1, .int p2, .ref oA])).length) Slot.unset).toArray = ls at hl ⊢
  have hl : lv_has ls 6 [(0, .ref x), (1, .int p0), (2, .int p1), (3, .int p2), (4, .ref oA)] := hl
  have hT : c.exceptionTable.toList = tableOf [(0, 12, 15, 32)] := vx_table (x := yL_arrival) B (atoms_spec (ws := Cond.codeWith yL_arrival cL_arrival 6 (some .int) [(0, 12, 15, 32)] :: BG) B.pre _ List.mem_cons_self)
  have hFc := va_free (wc := [(x, .inr (12, xg)), (chA, .inl (chC, (4, .inr (.inr (.inr (.inr chF)))))), (ch0, .inr (2, chg0)), (ch1, .inr (2, chg1)), (ch2, .inr (2, chg2)), (ch3, .inr (2, chg3))]) hD hS hA [0, 1, 2, 3, 4, 5] rfl
  have hPc := hP.sub (ws' := [(x, .inr (12, xg)), (chA, .inl (chC, (4, .inr (.inr (.inr (.inr chF)))))), (ch0, .inr (2, chg0)), (ch1, .inr (2, chg1)), (ch2, .inr (2, chg2)), (ch3, .inr (2, chg3))]) [0, 1, 2, 3, 4, 5] rfl
  have hDc := hD.sub (ws' := [(x, .inr (12, xg)), (chA, .inl (chC, (4, .inr (.inr (.inr (.inr chF)))))), (ch0, .inr (2, chg0)), (ch1, .inr (2, chg1)), (ch2, .inr (2, chg2)), (ch3, .inr (2, chg3))]) [0, 1, 2, 3, 4, 5] (by decide) rfl
  have hKc := hK.sub (tys' := [(chC, .object "ChipFlow$Chip")]) [0] rfl
  have hK9 := hK.sub (tys' := [(oC, .long)]) [1] rfl
  refine lv_aload hx hb dL_arrival_0 (lv_at hl 4 rfl) ?_
  refine lv_iconst (v := 0) hx hb dL_arrival_2 (by decide +kernel) ?_
  refine lv_aload_n hx hb dL_arrival_3 rfl (lv_at hl 0 rfl) ?_
  refine lv_iload_n hx hb dL_arrival_4 rfl (lv_at hl 1 rfl) ?_
  refine lv_iload_n hx hb dL_arrival_5 rfl (lv_at hl 2 rfl) ?_
  refine lv_iload_n hx hb dL_arrival_6 rfl (lv_at hl 3 rfl) ?_
  refine vq_thr (vx_runV (As := [.int p0, .int p1, .int p2]) (rest := [.int 0, .ref oA]) ⟨hx, hb, hml, hown, hts⟩ (ct_X12_arrival l hlt dC dI s.heap.size p0 p1 p2 x xg chA chC chF ch0 ch1 ch2 ch3 chg0 chg1 chg2 chg3 hchg0 hchF0 hchg1 hchF1 hchg2 hchF2 hchg3 hchF3 hxg) (cwV 3 hts (gi_V wd_2786 wd_2787 wd_2788 wd_327 wd_2789) rfl rfl rfl (by decide +kernel) ⟨(Nat.le_of_ble_eq_true rfl), (Nat.le_of_ble_eq_true rfl)⟩) ⟨fun a U g mk q => by obtain ⟨q0, q1, qP, qK, qD, qT⟩ := q; exact ⟨q0, q1, qP, va_K.moved (u := U) (U := U.calling g mk a) (Vm.Alike.refl U.vm) qK, qD, th.moved (u := U) (U := U.calling g mk a) (Vm.Alike.refl U.vm) qT⟩, va_recv hKc hPc (ci := 12) (q0 := 0) rfl rfl, fun U hU hW => ⟨rfl, by rw [hU], by rw [hU]; exact hPc, va_K.moved hW.alike hKc, hDc.weaken (fun _ _ _ _ => trivial), by rw [hU]; exact (hth.narrow hFc).moved hW.alike⟩⟩ rfl rfl hl.1 rfl (lv_room (Nat.le_of_ble_eq_true rfl)) dL_arrival_7 ⟨(Nat.le_of_ble_eq_true rfl), (Nat.le_of_ble_eq_true rfl)⟩) (fun _ _ _ h => h) hS hFc (fun q _ h => hFc q h) (fun E ce q9 u t H1 locs ht hvm hp hB hz hk hS hce hcv hcl => ?_)
  subst hB
  obtain ⟨hP, hD⟩ := va_join (wr := [(oA, .inl (oC, (1, .inr (.inl oF))))]) (w1 := []) hP hD [0, 1, 2, 3, 4, 5] [6] rfl rfl (by decide) (by decide) hk hFc po_nilP po_nilD
  have hP : va_P (dC, dI) CL [(oA, .inl (oC, (1, .inr (.inl oF))))] H1 := hP
  have hD : va_D A [(oA, .inl (oC, (1, .inr (.inl oF))))] := hD
  refine vx_catch (own := RL) (name := "java/lang/IndexOutOfBoundsException") hown [] { startPc := 0, endPc := 12, handlerPc := 15, catchType := 32 } [] (by rw [hT]; rfl) (fun _ h => nomatch h) (by decide) (by decide) (hts (.classLink RL 32 "java/lang/IndexOutOfBoundsException") wd_1804) (hth.cast (by decide)) hce hcv hcl ?_
  refine lv_astore (lv' := [(5, .ref q9), (0, .ref x), (1, .int p0), (2, .int p1), (3, .int p2), (4, .ref oA)]) hx hb dL_arrival_15 hl (by decide) rfl (fun ls hl => ?_)
  refine lv_iconst (v := 1) hx hb dL_arrival_17 (by decide +kernel) ?_
  refine W.widen (k := 1) (n := 6) (Nat.le_of_ble_eq_true rfl) (Nat.le_of_ble_eq_true rfl) ?_
  exact W.iret (v := 1) hx hb hr (fun t ht hW => ⟨⟨1, (), rfl, rfl, by rw [ht]; exact hP, va_K.moved hW.alike hK9, hD⟩, hS.F ht⟩) hS.2.2 dL_arrival_18
set_option maxHeartbeats 4000000 in
set_option maxRecDepth 100000 in
theorem ct_L_falsify (l : Launch) (hlt : l.stackTraces = false) (dC : Nat → ClassId) (dI : Nat → Nat → Nat) (sz : Nat) (p0 p1 p2 : Int32) (x : Nat) (xg : List Value) (chA : Nat) (chC : ClassId) (chF : Nat → Option Nat) (ch0 ch1 ch2 ch3 : Nat) (chg0 chg1 chg2 chg3 : List Value) (hchg0 : fx chg0 20 [(0, .int 0)]) (hchF0 : chF 0 = some ch0) (hchg1 : fx chg1 20 [(0, .int 0)]) (hchF1 : chF 1 = some ch1) (hchg2 : fx chg2 20 [(0, .int 0)]) (hchF2 : chF 2 = some ch2) (hchg3 : fx chg3 20 [(0, .int 0)]) (hchF3 : chF 3 = some ch3) (oA : Nat) (oC : ClassId) (oF : Nat → Int64) (hxg : fx xg 17 [(9, .ref chA)]) : Met l yL_falsify (Cond.codeWith yL_falsify cL_falsify 6 (some .int) [(0, 19, 22, 32), (0, 19, 26, 13)] :: BG) ({ frames := 9, cells := 1, slots := 6, locals := 200 }) (va_Pc [.ref x, .int p0, .int p1, .int p2, .ref oA] (fun U => U.heap.size = sz ∧ va_P (dC, dI) CL [(x, .inr (12, xg)), (chA, .inl (chC, (4, .inr (.inr (.inr (.inr chF)))))), (ch0, .inr (2, chg0)), (ch1, .inr (2, chg1)), (ch2, .inr (2, chg2)), (ch3, .inr (2, chg3)), (oA, .inl (oC, (1, .inr (.inl oF))))] U.heap ∧ va_K (dC, dI) CL [(chC, .object "ChipFlow$Chip"), (oC, .long)] U ∧ va_D (fun _ => True) [(x, .inr (12, xg)), (chA, .inl (chC, (4, .inr (.inr (.inr (.inr chF)))))), (ch0, .inr (2, chg0)), (ch1, .inr (2, chg1)), (ch2, .inr (2, chg2)), (ch3, .inr (2, chg3)), (oA, .inl (oC, (1, .inr (.inl oF))))] ∧ th (va_A [(x, .inr (12, xg)), (chA, .inl (chC, (4, .inr (.inr (.inr (.inr chF)))))), (ch0, .inr (2, chg0)), (ch1, .inr (2, chg1)), (ch2, .inr (2, chg2)), (ch3, .inr (2, chg3)), (oA, .inl (oC, (1, .inr (.inl oF))))] sz) U U.heap)) (va_Qi (fun (r : Int32) (_ : Unit) => r = 1) (fun _ t => va_P (dC, dI) CL [(oA, .inl (oC, (1, .inr (.inl oF))))] t.heap ∧ va_K (dC, dI) CL [(oC, .long)] t ∧ va_D (va_A [(x, .inr (12, xg)), (chA, .inl (chC, (4, .inr (.inr (.inr (.inr chF)))))), (ch0, .inr (2, chg0)), (ch1, .inr (2, chg1)), (ch2, .inr (2, chg2)), (ch3, .inr (2, chg3)), (oA, .inl (oC, (1, .inr (.inl oF))))] sz) [(oA, .inl (oC, (1, .inr (.inl oF))))]) (va_A [(x, .inr (12, xg)), (chA, .inl (chC, (4, .inr (.inr (.inr (.inr chF)))))), (ch0, .inr (2, chg0)), (ch1, .inr (2, chg1)), (ch2, .inr (2, chg2)), (ch3, .inr (2, chg3)), (oA, .inl (oC, (1, .inr (.inl oF))))] sz)) 1 6 (va_A [(x, .inr (12, xg)), (chA, .inl (chC, (4, .inr (.inr (.inr (.inr chF)))))), (ch0, .inr (2, chg0)), (ch1, .inr (2, chg1)), (ch2, .inr (2, chg2)), (ch3, .inr (2, chg3)), (oA, .inl (oC, (1, .inr (.inl oF))))] sz) := by
  refine va_MetW (hh := [(0, 19, 22, 32), (0, 19, 26, 13)]) (cc := cL_falsify) (maxL := 6) (ret := (some .int)) (by decide) rfl ?_
  intro p e s m args below meth c s₁ B hml hv
  obtain ⟨rfl, hsz, hP, hK, hD0, hth⟩ := hv
  have hx := B.exec
  have hb := B.bytes
  have hr := B.returns
  have hts : ∀ w ∈ BG, w.before _ s = true := fun w h => atoms_spec (ws := Cond.codeWith yL_falsify cL_falsify 6 (some .int) [(0, 19, 22, 32), (0, 19, 26, 13)] :: BG) B.pre w (List.mem_cons_of_mem _ h)
  have hown : s.vm.findClass RL = some m.cls := findClass_of_methodNamed B.named
  have hlocks := B.notSynchronized
  subst hsz
  have hD := hD0.self (sz := s.heap.size)
  generalize hAe : va_A [(x, .inr (12, xg)), (chA, .inl (chC, (4, .inr (.inr (.inr (.inr chF)))))), (ch0, .inr (2, chg0)), (ch1, .inr (2, chg1)), (ch2, .inr (2, chg2)), (ch3, .inr (2, chg3)), (oA, .inl (oC, (1, .inr (.inl oF))))] s.heap.size = A at hD hth ⊢
  have hA : ∀ q : Nat, s.heap.size ≤ q → A q := fun q h => by rw [← hAe]; exact Or.inr h
  have hS : va_S A s.heap s.heap [] := va_S.rf
  have hl := lv_entry ([.ref x, .int p0, .int p1, .int p2, .ref oA]) (n := 6) (Nat.le_of_ble_eq_true rfl)
  rw [lg_entry_eq]
  generalize (lg_sl ([.ref x, .int p0, .int p1, .int p2, .ref oA]) ++ List.replicate (6 - (lg_sl ([.ref x, .int p0, .int p1, .int p2, .ref oA])).length) Slot.unset).toArray = ls at hl ⊢
  have hl : lv_has ls 6 [(0, .ref x), (1, .int p0), (2, .int p1), (3, .int p2), (4, .ref oA)] := hl
  have hT : c.exceptionTable.toList = tableOf [(0, 19, 22, 32), (0, 19, 26, 13)] := vx_table (x := yL_falsify) B (atoms_spec (ws := Cond.codeWith yL_falsify cL_falsify 6 (some .int) [(0, 19, 22, 32), (0, 19, 26, 13)] :: BG) B.pre _ List.mem_cons_self)
  have hFc := va_free (wc := [(x, .inr (12, xg)), (chA, .inl (chC, (4, .inr (.inr (.inr (.inr chF)))))), (ch0, .inr (2, chg0)), (ch1, .inr (2, chg1)), (ch2, .inr (2, chg2)), (ch3, .inr (2, chg3))]) hD hS hA [0, 1, 2, 3, 4, 5] rfl
  have hPc := hP.sub (ws' := [(x, .inr (12, xg)), (chA, .inl (chC, (4, .inr (.inr (.inr (.inr chF)))))), (ch0, .inr (2, chg0)), (ch1, .inr (2, chg1)), (ch2, .inr (2, chg2)), (ch3, .inr (2, chg3))]) [0, 1, 2, 3, 4, 5] rfl
  have hDc := hD.sub (ws' := [(x, .inr (12, xg)), (chA, .inl (chC, (4, .inr (.inr (.inr (.inr chF)))))), (ch0, .inr (2, chg0)), (ch1, .inr (2, chg1)), (ch2, .inr (2, chg2)), (ch3, .inr (2, chg3))]) [0, 1, 2, 3, 4, 5] (by decide) rfl
  have hKc := hK.sub (tys' := [(chC, .object "ChipFlow$Chip")]) [0] rfl
  have hK9 := hK.sub (tys' := [(oC, .long)]) [1] rfl
  refine lv_aload hx hb dL_falsify_0 (lv_at hl 4 rfl) ?_
  refine lv_iconst (v := 0) hx hb dL_falsify_2 (by decide +kernel) ?_
  refine lv_aload_n hx hb dL_falsify_3 rfl (lv_at hl 0 rfl) ?_
  refine lv_iload_n hx hb dL_falsify_4 rfl (lv_at hl 1 rfl) ?_
  refine lv_iload_n hx hb dL_falsify_5 rfl (lv_at hl 2 rfl) ?_
  refine lv_iload_n hx hb dL_falsify_6 rfl (lv_at hl 3 rfl) ?_
  refine vq_thr (vx_runV (As := [.int p0, .int p1, .int p2]) (rest := [.int 0, .ref oA]) ⟨hx, hb, hml, hown, hts⟩ (ct_X12_falsify l hlt dC dI s.heap.size p0 p1 p2 x xg chA chC chF ch0 ch1 ch2 ch3 chg0 chg1 chg2 chg3 hchg0 hchF0 hchg1 hchF1 hchg2 hchF2 hchg3 hchF3 hxg) (cwV 3 hts (gi_V wd_2806 wd_2807 wd_2808 wd_327 wd_2809) rfl rfl rfl (by decide +kernel) ⟨(Nat.le_of_ble_eq_true rfl), (Nat.le_of_ble_eq_true rfl)⟩) ⟨fun a U g mk q => by obtain ⟨q0, q1, qP, qK, qD, qT⟩ := q; exact ⟨q0, q1, qP, va_K.moved (u := U) (U := U.calling g mk a) (Vm.Alike.refl U.vm) qK, qD, th.moved (u := U) (U := U.calling g mk a) (Vm.Alike.refl U.vm) qT⟩, va_recv hKc hPc (ci := 12) (q0 := 0) rfl rfl, fun U hU hW => ⟨rfl, by rw [hU], by rw [hU]; exact hPc, va_K.moved hW.alike hKc, hDc.weaken (fun _ _ _ _ => trivial), by rw [hU]; exact (hth.narrow hFc).moved hW.alike⟩⟩ rfl rfl hl.1 rfl (lv_room (Nat.le_of_ble_eq_true rfl)) dL_falsify_7 ⟨(Nat.le_of_ble_eq_true rfl), (Nat.le_of_ble_eq_true rfl)⟩) (fun _ _ _ h => h) hS hFc (fun q _ h => hFc q h) (fun E ce q9 u t H1 locs ht hvm hp hB hz hk hS hce hcv hcl => ?_)
  subst hB
  obtain ⟨hP, hD⟩ := va_join (wr := [(oA, .inl (oC, (1, .inr (.inl oF))))]) (w1 := []) hP hD [0, 1, 2, 3, 4, 5] [6] rfl rfl (by decide) (by decide) hk hFc po_nilP po_nilD
  have hP : va_P (dC, dI) CL [(oA, .inl (oC, (1, .inr (.inl oF))))] H1 := hP
  have hD : va_D A [(oA, .inl (oC, (1, .inr (.inl oF))))] := hD
  refine vx_catch (own := RL) (name := "java/lang/IndexOutOfBoundsException") hown [] { startPc := 0, endPc := 19, handlerPc := 22, catchType := 32 } [{ startPc := 0, endPc := 19, handlerPc := 26, catchType := 13 }] (by rw [hT]; rfl) (fun _ h => nomatch h) (by decide) (by decide) (hts (.classLink RL 32 "java/lang/IndexOutOfBoundsException") wd_1804) (hth.cast (by decide)) hce hcv hcl ?_
  refine lv_astore (lv' := [(5, .ref q9), (0, .ref x), (1, .int p0), (2, .int p1), (3, .int p2), (4, .ref oA)]) hx hb dL_falsify_22 hl (by decide) rfl (fun ls hl => ?_)
  refine lv_iconst (v := 1) hx hb dL_falsify_24 (by decide +kernel) ?_
  refine W.widen (k := 1) (n := 6) (Nat.le_of_ble_eq_true rfl) (Nat.le_of_ble_eq_true rfl) ?_
  exact W.iret (v := 1) hx hb hr (fun t ht hW => ⟨⟨1, (), rfl, rfl, by rw [ht]; exact hP, va_K.moved hW.alike hK9, hD⟩, hS.F ht⟩) hS.2.2 dL_falsify_25
set_option maxHeartbeats 4000000 in
set_option maxRecDepth 100000 in
theorem ct_L_path (l : Launch) (hlt : l.stackTraces = false) (dC : Nat → ClassId) (dI : Nat → Nat → Nat) (sz : Nat) (p0 p1 p2 : Int32) (x : Nat) (xg : List Value) (chA : Nat) (chC : ClassId) (chF : Nat → Option Nat) (ch0 ch1 ch2 ch3 : Nat) (chg0 chg1 chg2 chg3 : List Value) (hchg0 : fx chg0 20 [(0, .int 0)]) (hchF0 : chF 0 = some ch0) (hchg1 : fx chg1 20 [(0, .int 0)]) (hchF1 : chF 1 = some ch1) (hchg2 : fx chg2 20 [(0, .int 0)]) (hchF2 : chF 2 = some ch2) (hchg3 : fx chg3 20 [(0, .int 0)]) (hchF3 : chF 3 = some ch3) (oA : Nat) (oC : ClassId) (oF : Nat → Int64) (hxg : fx xg 17 [(9, .ref chA)]) : Met l yL_path (Cond.codeWith yL_path cL_path 6 (some .int) [(0, 12, 15, 32)] :: BG) ({ frames := 9, cells := 1, slots := 6, locals := 200 }) (va_Pc [.ref x, .int p0, .int p1, .int p2, .ref oA] (fun U => U.heap.size = sz ∧ va_P (dC, dI) CL [(x, .inr (12, xg)), (chA, .inl (chC, (4, .inr (.inr (.inr (.inr chF)))))), (ch0, .inr (2, chg0)), (ch1, .inr (2, chg1)), (ch2, .inr (2, chg2)), (ch3, .inr (2, chg3)), (oA, .inl (oC, (1, .inr (.inl oF))))] U.heap ∧ va_K (dC, dI) CL [(chC, .object "ChipFlow$Chip"), (oC, .long)] U ∧ va_D (fun _ => True) [(x, .inr (12, xg)), (chA, .inl (chC, (4, .inr (.inr (.inr (.inr chF)))))), (ch0, .inr (2, chg0)), (ch1, .inr (2, chg1)), (ch2, .inr (2, chg2)), (ch3, .inr (2, chg3)), (oA, .inl (oC, (1, .inr (.inl oF))))] ∧ th (va_A [(x, .inr (12, xg)), (chA, .inl (chC, (4, .inr (.inr (.inr (.inr chF)))))), (ch0, .inr (2, chg0)), (ch1, .inr (2, chg1)), (ch2, .inr (2, chg2)), (ch3, .inr (2, chg3)), (oA, .inl (oC, (1, .inr (.inl oF))))] sz) U U.heap)) (va_Qi (fun (r : Int32) (_ : Unit) => r = 1) (fun _ t => va_P (dC, dI) CL [(oA, .inl (oC, (1, .inr (.inl oF))))] t.heap ∧ va_K (dC, dI) CL [(oC, .long)] t ∧ va_D (va_A [(x, .inr (12, xg)), (chA, .inl (chC, (4, .inr (.inr (.inr (.inr chF)))))), (ch0, .inr (2, chg0)), (ch1, .inr (2, chg1)), (ch2, .inr (2, chg2)), (ch3, .inr (2, chg3)), (oA, .inl (oC, (1, .inr (.inl oF))))] sz) [(oA, .inl (oC, (1, .inr (.inl oF))))]) (va_A [(x, .inr (12, xg)), (chA, .inl (chC, (4, .inr (.inr (.inr (.inr chF)))))), (ch0, .inr (2, chg0)), (ch1, .inr (2, chg1)), (ch2, .inr (2, chg2)), (ch3, .inr (2, chg3)), (oA, .inl (oC, (1, .inr (.inl oF))))] sz)) 1 6 (va_A [(x, .inr (12, xg)), (chA, .inl (chC, (4, .inr (.inr (.inr (.inr chF)))))), (ch0, .inr (2, chg0)), (ch1, .inr (2, chg1)), (ch2, .inr (2, chg2)), (ch3, .inr (2, chg3)), (oA, .inl (oC, (1, .inr (.inl oF))))] sz) := by
  refine va_MetW (hh := [(0, 12, 15, 32)]) (cc := cL_path) (maxL := 6) (ret := (some .int)) (by decide) rfl ?_
  intro p e s m args below meth c s₁ B hml hv
  obtain ⟨rfl, hsz, hP, hK, hD0, hth⟩ := hv
  have hx := B.exec
  have hb := B.bytes
  have hr := B.returns
  have hts : ∀ w ∈ BG, w.before _ s = true := fun w h => atoms_spec (ws := Cond.codeWith yL_path cL_path 6 (some .int) [(0, 12, 15, 32)] :: BG) B.pre w (List.mem_cons_of_mem _ h)
  have hown : s.vm.findClass RL = some m.cls := findClass_of_methodNamed B.named
  have hlocks := B.notSynchronized
  subst hsz
  have hD := hD0.self (sz := s.heap.size)
  generalize hAe : va_A [(x, .inr (12, xg)), (chA, .inl (chC, (4, .inr (.inr (.inr (.inr chF)))))), (ch0, .inr (2, chg0)), (ch1, .inr (2, chg1)), (ch2, .inr (2, chg2)), (ch3, .inr (2, chg3)), (oA, .inl (oC, (1, .inr (.inl oF))))] s.heap.size = A at hD hth ⊢
  have hA : ∀ q : Nat, s.heap.size ≤ q → A q := fun q h => by rw [← hAe]; exact Or.inr h
  have hS : va_S A s.heap s.heap [] := va_S.rf
  have hl := lv_entry ([.ref x, .int p0, .int p1, .int p2, .ref oA]) (n := 6) (Nat.le_of_ble_eq_true rfl)
  rw [lg_entry_eq]
  generalize (lg_sl ([.ref x, .int p0, .int p1, .int p2, .ref oA]) ++ List.replicate (6 - (lg_sl ([.ref x, .int p0, .int p1, .int p2, .ref oA])).length) Slot.unset).toArray = ls at hl ⊢
  have hl : lv_has ls 6 [(0, .ref x), (1, .int p0), (2, .int p1), (3, .int p2), (4, .ref oA)] := hl
  have hT : c.exceptionTable.toList = tableOf [(0, 12, 15, 32)] := vx_table (x := yL_path) B (atoms_spec (ws := Cond.codeWith yL_path cL_path 6 (some .int) [(0, 12, 15, 32)] :: BG) B.pre _ List.mem_cons_self)
  have hFc := va_free (wc := [(x, .inr (12, xg)), (chA, .inl (chC, (4, .inr (.inr (.inr (.inr chF)))))), (ch0, .inr (2, chg0)), (ch1, .inr (2, chg1)), (ch2, .inr (2, chg2)), (ch3, .inr (2, chg3))]) hD hS hA [0, 1, 2, 3, 4, 5] rfl
  have hPc := hP.sub (ws' := [(x, .inr (12, xg)), (chA, .inl (chC, (4, .inr (.inr (.inr (.inr chF)))))), (ch0, .inr (2, chg0)), (ch1, .inr (2, chg1)), (ch2, .inr (2, chg2)), (ch3, .inr (2, chg3))]) [0, 1, 2, 3, 4, 5] rfl
  have hDc := hD.sub (ws' := [(x, .inr (12, xg)), (chA, .inl (chC, (4, .inr (.inr (.inr (.inr chF)))))), (ch0, .inr (2, chg0)), (ch1, .inr (2, chg1)), (ch2, .inr (2, chg2)), (ch3, .inr (2, chg3))]) [0, 1, 2, 3, 4, 5] (by decide) rfl
  have hKc := hK.sub (tys' := [(chC, .object "ChipFlow$Chip")]) [0] rfl
  have hK9 := hK.sub (tys' := [(oC, .long)]) [1] rfl
  refine lv_aload hx hb dL_path_0 (lv_at hl 4 rfl) ?_
  refine lv_iconst (v := 0) hx hb dL_path_2 (by decide +kernel) ?_
  refine lv_aload_n hx hb dL_path_3 rfl (lv_at hl 0 rfl) ?_
  refine lv_iload_n hx hb dL_path_4 rfl (lv_at hl 1 rfl) ?_
  refine lv_iload_n hx hb dL_path_5 rfl (lv_at hl 2 rfl) ?_
  refine lv_iload_n hx hb dL_path_6 rfl (lv_at hl 3 rfl) ?_
  refine vq_thr (vx_runV (As := [.int p0, .int p1, .int p2]) (rest := [.int 0, .ref oA]) ⟨hx, hb, hml, hown, hts⟩ (ct_X12_path l hlt dC dI s.heap.size p0 p1 p2 x xg chA chC chF ch0 ch1 ch2 ch3 chg0 chg1 chg2 chg3 hchg0 hchF0 hchg1 hchF1 hchg2 hchF2 hchg3 hchF3 hxg) (cwV 3 hts (gi_V wd_2815 wd_2816 wd_2817 wd_327 wd_2818) rfl rfl rfl (by decide +kernel) ⟨(Nat.le_of_ble_eq_true rfl), (Nat.le_of_ble_eq_true rfl)⟩) ⟨fun a U g mk q => by obtain ⟨q0, q1, qP, qK, qD, qT⟩ := q; exact ⟨q0, q1, qP, va_K.moved (u := U) (U := U.calling g mk a) (Vm.Alike.refl U.vm) qK, qD, th.moved (u := U) (U := U.calling g mk a) (Vm.Alike.refl U.vm) qT⟩, va_recv hKc hPc (ci := 12) (q0 := 0) rfl rfl, fun U hU hW => ⟨rfl, by rw [hU], by rw [hU]; exact hPc, va_K.moved hW.alike hKc, hDc.weaken (fun _ _ _ _ => trivial), by rw [hU]; exact (hth.narrow hFc).moved hW.alike⟩⟩ rfl rfl hl.1 rfl (lv_room (Nat.le_of_ble_eq_true rfl)) dL_path_7 ⟨(Nat.le_of_ble_eq_true rfl), (Nat.le_of_ble_eq_true rfl)⟩) (fun _ _ _ h => h) hS hFc (fun q _ h => hFc q h) (fun E ce q9 u t H1 locs ht hvm hp hB hz hk hS hce hcv hcl => ?_)
  subst hB
  obtain ⟨hP, hD⟩ := va_join (wr := [(oA, .inl (oC, (1, .inr (.inl oF))))]) (w1 := []) hP hD [0, 1, 2, 3, 4, 5] [6] rfl rfl (by decide) (by decide) hk hFc po_nilP po_nilD
  have hP : va_P (dC, dI) CL [(oA, .inl (oC, (1, .inr (.inl oF))))] H1 := hP
  have hD : va_D A [(oA, .inl (oC, (1, .inr (.inl oF))))] := hD
  refine vx_catch (own := RL) (name := "java/lang/IndexOutOfBoundsException") hown [] { startPc := 0, endPc := 12, handlerPc := 15, catchType := 32 } [] (by rw [hT]; rfl) (fun _ h => nomatch h) (by decide) (by decide) (hts (.classLink RL 32 "java/lang/IndexOutOfBoundsException") wd_1804) (hth.cast (by decide)) hce hcv hcl ?_
  refine lv_astore (lv' := [(5, .ref q9), (0, .ref x), (1, .int p0), (2, .int p1), (3, .int p2), (4, .ref oA)]) hx hb dL_path_15 hl (by decide) rfl (fun ls hl => ?_)
  refine lv_iconst (v := 1) hx hb dL_path_17 (by decide +kernel) ?_
  refine W.widen (k := 1) (n := 6) (Nat.le_of_ble_eq_true rfl) (Nat.le_of_ble_eq_true rfl) ?_
  exact W.iret (v := 1) hx hb hr (fun t ht hW => ⟨⟨1, (), rfl, rfl, by rw [ht]; exact hP, va_K.moved hW.alike hK9, hD⟩, hS.F ht⟩) hS.2.2 dL_path_18
set_option maxHeartbeats 4000000 in
set_option maxRecDepth 100000 in
theorem ct_L_wave (l : Launch) (hlt : l.stackTraces = false) (dC : Nat → ClassId) (dI : Nat → Nat → Nat) (sz : Nat) (p0 p1 p2 p3 p4 : Int32) (x : Nat) (xg : List Value) (chA : Nat) (chC : ClassId) (chF : Nat → Option Nat) (ch0 ch1 ch2 ch3 : Nat) (chg0 chg1 chg2 chg3 : List Value) (hchg0 : fx chg0 20 [(0, .int 0)]) (hchF0 : chF 0 = some ch0) (hchg1 : fx chg1 20 [(0, .int 0)]) (hchF1 : chF 1 = some ch1) (hchg2 : fx chg2 20 [(0, .int 0)]) (hchF2 : chF 2 = some ch2) (hchg3 : fx chg3 20 [(0, .int 0)]) (hchF3 : chF 3 = some ch3) (oA : Nat) (oC : ClassId) (oF : Nat → Int64) (hxg : fx xg 17 [(9, .ref chA)]) : Met l yL_wave (Cond.codeWith yL_wave cL_wave 8 (some .int) [(0, 16, 19, 32), (0, 16, 23, 19), (0, 16, 27, 13)] :: BG) ({ frames := 9, cells := 1, slots := 6, locals := 200 }) (va_Pc [.ref x, .int p0, .int p1, .int p2, .int p3, .int p4, .ref oA] (fun U => U.heap.size = sz ∧ va_P (dC, dI) CL [(x, .inr (12, xg)), (chA, .inl (chC, (4, .inr (.inr (.inr (.inr chF)))))), (ch0, .inr (2, chg0)), (ch1, .inr (2, chg1)), (ch2, .inr (2, chg2)), (ch3, .inr (2, chg3)), (oA, .inl (oC, (1, .inr (.inl oF))))] U.heap ∧ va_K (dC, dI) CL [(chC, .object "ChipFlow$Chip"), (oC, .long)] U ∧ va_D (fun _ => True) [(x, .inr (12, xg)), (chA, .inl (chC, (4, .inr (.inr (.inr (.inr chF)))))), (ch0, .inr (2, chg0)), (ch1, .inr (2, chg1)), (ch2, .inr (2, chg2)), (ch3, .inr (2, chg3)), (oA, .inl (oC, (1, .inr (.inl oF))))] ∧ th (va_A [(x, .inr (12, xg)), (chA, .inl (chC, (4, .inr (.inr (.inr (.inr chF)))))), (ch0, .inr (2, chg0)), (ch1, .inr (2, chg1)), (ch2, .inr (2, chg2)), (ch3, .inr (2, chg3)), (oA, .inl (oC, (1, .inr (.inl oF))))] sz) U U.heap)) (va_Qi (fun (r : Int32) (_ : Unit) => r = 1) (fun _ t => va_P (dC, dI) CL [(oA, .inl (oC, (1, .inr (.inl oF))))] t.heap ∧ va_K (dC, dI) CL [(oC, .long)] t ∧ va_D (va_A [(x, .inr (12, xg)), (chA, .inl (chC, (4, .inr (.inr (.inr (.inr chF)))))), (ch0, .inr (2, chg0)), (ch1, .inr (2, chg1)), (ch2, .inr (2, chg2)), (ch3, .inr (2, chg3)), (oA, .inl (oC, (1, .inr (.inl oF))))] sz) [(oA, .inl (oC, (1, .inr (.inl oF))))]) (va_A [(x, .inr (12, xg)), (chA, .inl (chC, (4, .inr (.inr (.inr (.inr chF)))))), (ch0, .inr (2, chg0)), (ch1, .inr (2, chg1)), (ch2, .inr (2, chg2)), (ch3, .inr (2, chg3)), (oA, .inl (oC, (1, .inr (.inl oF))))] sz)) 1 6 (va_A [(x, .inr (12, xg)), (chA, .inl (chC, (4, .inr (.inr (.inr (.inr chF)))))), (ch0, .inr (2, chg0)), (ch1, .inr (2, chg1)), (ch2, .inr (2, chg2)), (ch3, .inr (2, chg3)), (oA, .inl (oC, (1, .inr (.inl oF))))] sz) := by
  refine va_MetW (hh := [(0, 16, 19, 32), (0, 16, 23, 19), (0, 16, 27, 13)]) (cc := cL_wave) (maxL := 8) (ret := (some .int)) (by decide) rfl ?_
  intro p e s m args below meth c s₁ B hml hv
  obtain ⟨rfl, hsz, hP, hK, hD0, hth⟩ := hv
  have hx := B.exec
  have hb := B.bytes
  have hr := B.returns
  have hts : ∀ w ∈ BG, w.before _ s = true := fun w h => atoms_spec (ws := Cond.codeWith yL_wave cL_wave 8 (some .int) [(0, 16, 19, 32), (0, 16, 23, 19), (0, 16, 27, 13)] :: BG) B.pre w (List.mem_cons_of_mem _ h)
  have hown : s.vm.findClass RL = some m.cls := findClass_of_methodNamed B.named
  have hlocks := B.notSynchronized
  subst hsz
  have hD := hD0.self (sz := s.heap.size)
  generalize hAe : va_A [(x, .inr (12, xg)), (chA, .inl (chC, (4, .inr (.inr (.inr (.inr chF)))))), (ch0, .inr (2, chg0)), (ch1, .inr (2, chg1)), (ch2, .inr (2, chg2)), (ch3, .inr (2, chg3)), (oA, .inl (oC, (1, .inr (.inl oF))))] s.heap.size = A at hD hth ⊢
  have hA : ∀ q : Nat, s.heap.size ≤ q → A q := fun q h => by rw [← hAe]; exact Or.inr h
  have hS : va_S A s.heap s.heap [] := va_S.rf
  have hl := lv_entry ([.ref x, .int p0, .int p1, .int p2, .int p3, .int p4, .ref oA]) (n := 8) (Nat.le_of_ble_eq_true rfl)
  rw [lg_entry_eq]
  generalize (lg_sl ([.ref x, .int p0, .int p1, .int p2, .int p3, .int p4, .ref oA]) ++ List.replicate (8 - (lg_sl ([.ref x, .int p0, .int p1, .int p2, .int p3, .int p4, .ref oA])).length) Slot.unset).toArray = ls at hl ⊢
  have hl : lv_has ls 8 [(0, .ref x), (1, .int p0), (2, .int p1), (3, .int p2), (4, .int p3), (5, .int p4), (6, .ref oA)] := hl
  have hT : c.exceptionTable.toList = tableOf [(0, 16, 19, 32), (0, 16, 23, 19), (0, 16, 27, 13)] := vx_table (x := yL_wave) B (atoms_spec (ws := Cond.codeWith yL_wave cL_wave 8 (some .int) [(0, 16, 19, 32), (0, 16, 23, 19), (0, 16, 27, 13)] :: BG) B.pre _ List.mem_cons_self)
  have hFc := va_free (wc := [(x, .inr (12, xg)), (chA, .inl (chC, (4, .inr (.inr (.inr (.inr chF)))))), (ch0, .inr (2, chg0)), (ch1, .inr (2, chg1)), (ch2, .inr (2, chg2)), (ch3, .inr (2, chg3))]) hD hS hA [0, 1, 2, 3, 4, 5] rfl
  have hPc := hP.sub (ws' := [(x, .inr (12, xg)), (chA, .inl (chC, (4, .inr (.inr (.inr (.inr chF)))))), (ch0, .inr (2, chg0)), (ch1, .inr (2, chg1)), (ch2, .inr (2, chg2)), (ch3, .inr (2, chg3))]) [0, 1, 2, 3, 4, 5] rfl
  have hDc := hD.sub (ws' := [(x, .inr (12, xg)), (chA, .inl (chC, (4, .inr (.inr (.inr (.inr chF)))))), (ch0, .inr (2, chg0)), (ch1, .inr (2, chg1)), (ch2, .inr (2, chg2)), (ch3, .inr (2, chg3))]) [0, 1, 2, 3, 4, 5] (by decide) rfl
  have hKc := hK.sub (tys' := [(chC, .object "ChipFlow$Chip")]) [0] rfl
  have hK9 := hK.sub (tys' := [(oC, .long)]) [1] rfl
  refine lv_aload hx hb dL_wave_0 (lv_at hl 6 rfl) ?_
  refine lv_iconst (v := 0) hx hb dL_wave_2 (by decide +kernel) ?_
  refine lv_aload_n hx hb dL_wave_3 rfl (lv_at hl 0 rfl) ?_
  refine lv_iload_n hx hb dL_wave_4 rfl (lv_at hl 1 rfl) ?_
  refine lv_iload_n hx hb dL_wave_5 rfl (lv_at hl 2 rfl) ?_
  refine lv_iload_n hx hb dL_wave_6 rfl (lv_at hl 3 rfl) ?_
  refine lv_iload hx hb dL_wave_7 (lv_at hl 4 rfl) ?_
  refine lv_iload hx hb dL_wave_9 (lv_at hl 5 rfl) ?_
  refine vq_thr (vx_runV (As := [.int p0, .int p1, .int p2, .int p3, .int p4]) (rest := [.int 0, .ref oA]) ⟨hx, hb, hml, hown, hts⟩ (ct_X12_wave l hlt dC dI s.heap.size p0 p1 p2 p3 p4 x xg chA chC chF ch0 ch1 ch2 ch3 chg0 chg1 chg2 chg3 hchg0 hchF0 hchg1 hchF1 hchg2 hchF2 hchg3 hchF3 hxg) (cwV 5 hts (gi_V wd_2855 wd_2856 wd_2857 wd_327 wd_2858) rfl rfl rfl (by decide +kernel) ⟨(Nat.le_of_ble_eq_true rfl), (Nat.le_of_ble_eq_true rfl)⟩) ⟨fun a U g mk q => by obtain ⟨q0, q1, qP, qK, qD, qT⟩ := q; exact ⟨q0, q1, qP, va_K.moved (u := U) (U := U.calling g mk a) (Vm.Alike.refl U.vm) qK, qD, th.moved (u := U) (U := U.calling g mk a) (Vm.Alike.refl U.vm) qT⟩, va_recv hKc hPc (ci := 12) (q0 := 0) rfl rfl, fun U hU hW => ⟨rfl, by rw [hU], by rw [hU]; exact hPc, va_K.moved hW.alike hKc, hDc.weaken (fun _ _ _ _ => trivial), by rw [hU]; exact (hth.narrow hFc).moved hW.alike⟩⟩ rfl rfl hl.1 rfl (lv_room (Nat.le_of_ble_eq_true rfl)) dL_wave_11 ⟨(Nat.le_of_ble_eq_true rfl), (Nat.le_of_ble_eq_true rfl)⟩) (fun _ _ _ h => h) hS hFc (fun q _ h => hFc q h) (fun E ce q9 u t H1 locs ht hvm hp hB hz hk hS hce hcv hcl => ?_)
  subst hB
  obtain ⟨hP, hD⟩ := va_join (wr := [(oA, .inl (oC, (1, .inr (.inl oF))))]) (w1 := []) hP hD [0, 1, 2, 3, 4, 5] [6] rfl rfl (by decide) (by decide) hk hFc po_nilP po_nilD
  have hP : va_P (dC, dI) CL [(oA, .inl (oC, (1, .inr (.inl oF))))] H1 := hP
  have hD : va_D A [(oA, .inl (oC, (1, .inr (.inl oF))))] := hD
  refine vx_catch (own := RL) (name := "java/lang/IndexOutOfBoundsException") hown [] { startPc := 0, endPc := 16, handlerPc := 19, catchType := 32 } [{ startPc := 0, endPc := 16, handlerPc := 23, catchType := 19 }, { startPc := 0, endPc := 16, handlerPc := 27, catchType := 13 }] (by rw [hT]; rfl) (fun _ h => nomatch h) (by decide) (by decide) (hts (.classLink RL 32 "java/lang/IndexOutOfBoundsException") wd_1804) (hth.cast (by decide)) hce hcv hcl ?_
  refine lv_astore (lv' := [(7, .ref q9), (0, .ref x), (1, .int p0), (2, .int p1), (3, .int p2), (4, .int p3), (5, .int p4), (6, .ref oA)]) hx hb dL_wave_19 hl (by decide) rfl (fun ls hl => ?_)
  refine lv_iconst (v := 1) hx hb dL_wave_21 (by decide +kernel) ?_
  refine W.widen (k := 1) (n := 6) (Nat.le_of_ble_eq_true rfl) (Nat.le_of_ble_eq_true rfl) ?_
  exact W.iret (v := 1) hx hb hr (fun t ht hW => ⟨⟨1, (), rfl, rfl, by rw [ht]; exact hP, va_K.moved hW.alike hK9, hD⟩, hS.F ht⟩) hS.2.2 dL_wave_22
set_option maxHeartbeats 4000000 in
set_option maxRecDepth 100000 in
theorem ct_L_changes (l : Launch) (hlt : l.stackTraces = false) (dC : Nat → ClassId) (dI : Nat → Nat → Nat) (sz : Nat) (p0 p1 p2 p3 : Int32) (x : Nat) (xg : List Value) (chA : Nat) (chC : ClassId) (chF : Nat → Option Nat) (ch0 ch1 ch2 ch3 : Nat) (chg0 chg1 chg2 chg3 : List Value) (hchg0 : fx chg0 20 [(0, .int 0)]) (hchF0 : chF 0 = some ch0) (hchg1 : fx chg1 20 [(0, .int 0)]) (hchF1 : chF 1 = some ch1) (hchg2 : fx chg2 20 [(0, .int 0)]) (hchF2 : chF 2 = some ch2) (hchg3 : fx chg3 20 [(0, .int 0)]) (hchF3 : chF 3 = some ch3) (oA : Nat) (oC : ClassId) (oF : Nat → Int64) (hxg : fx xg 17 [(9, .ref chA)]) : Met l yL_changes (Cond.codeWith yL_changes cL_changes 7 (some .int) [(0, 14, 17, 32), (0, 14, 21, 19), (0, 14, 25, 13)] :: BG) ({ frames := 9, cells := 1, slots := 6, locals := 200 }) (va_Pc [.ref x, .int p0, .int p1, .int p2, .int p3, .ref oA] (fun U => U.heap.size = sz ∧ va_P (dC, dI) CL [(x, .inr (12, xg)), (chA, .inl (chC, (4, .inr (.inr (.inr (.inr chF)))))), (ch0, .inr (2, chg0)), (ch1, .inr (2, chg1)), (ch2, .inr (2, chg2)), (ch3, .inr (2, chg3)), (oA, .inl (oC, (1, .inr (.inl oF))))] U.heap ∧ va_K (dC, dI) CL [(chC, .object "ChipFlow$Chip"), (oC, .long)] U ∧ va_D (fun _ => True) [(x, .inr (12, xg)), (chA, .inl (chC, (4, .inr (.inr (.inr (.inr chF)))))), (ch0, .inr (2, chg0)), (ch1, .inr (2, chg1)), (ch2, .inr (2, chg2)), (ch3, .inr (2, chg3)), (oA, .inl (oC, (1, .inr (.inl oF))))] ∧ th (va_A [(x, .inr (12, xg)), (chA, .inl (chC, (4, .inr (.inr (.inr (.inr chF)))))), (ch0, .inr (2, chg0)), (ch1, .inr (2, chg1)), (ch2, .inr (2, chg2)), (ch3, .inr (2, chg3)), (oA, .inl (oC, (1, .inr (.inl oF))))] sz) U U.heap)) (va_Qi (fun (r : Int32) (_ : Unit) => r = 1) (fun _ t => va_P (dC, dI) CL [(oA, .inl (oC, (1, .inr (.inl oF))))] t.heap ∧ va_K (dC, dI) CL [(oC, .long)] t ∧ va_D (va_A [(x, .inr (12, xg)), (chA, .inl (chC, (4, .inr (.inr (.inr (.inr chF)))))), (ch0, .inr (2, chg0)), (ch1, .inr (2, chg1)), (ch2, .inr (2, chg2)), (ch3, .inr (2, chg3)), (oA, .inl (oC, (1, .inr (.inl oF))))] sz) [(oA, .inl (oC, (1, .inr (.inl oF))))]) (va_A [(x, .inr (12, xg)), (chA, .inl (chC, (4, .inr (.inr (.inr (.inr chF)))))), (ch0, .inr (2, chg0)), (ch1, .inr (2, chg1)), (ch2, .inr (2, chg2)), (ch3, .inr (2, chg3)), (oA, .inl (oC, (1, .inr (.inl oF))))] sz)) 1 6 (va_A [(x, .inr (12, xg)), (chA, .inl (chC, (4, .inr (.inr (.inr (.inr chF)))))), (ch0, .inr (2, chg0)), (ch1, .inr (2, chg1)), (ch2, .inr (2, chg2)), (ch3, .inr (2, chg3)), (oA, .inl (oC, (1, .inr (.inl oF))))] sz) := by
  refine va_MetW (hh := [(0, 14, 17, 32), (0, 14, 21, 19), (0, 14, 25, 13)]) (cc := cL_changes) (maxL := 7) (ret := (some .int)) (by decide) rfl ?_
  intro p e s m args below meth c s₁ B hml hv
  obtain ⟨rfl, hsz, hP, hK, hD0, hth⟩ := hv
  have hx := B.exec
  have hb := B.bytes
  have hr := B.returns
  have hts : ∀ w ∈ BG, w.before _ s = true := fun w h => atoms_spec (ws := Cond.codeWith yL_changes cL_changes 7 (some .int) [(0, 14, 17, 32), (0, 14, 21, 19), (0, 14, 25, 13)] :: BG) B.pre w (List.mem_cons_of_mem _ h)
  have hown : s.vm.findClass RL = some m.cls := findClass_of_methodNamed B.named
  have hlocks := B.notSynchronized
  subst hsz
  have hD := hD0.self (sz := s.heap.size)
  generalize hAe : va_A [(x, .inr (12, xg)), (chA, .inl (chC, (4, .inr (.inr (.inr (.inr chF)))))), (ch0, .inr (2, chg0)), (ch1, .inr (2, chg1)), (ch2, .inr (2, chg2)), (ch3, .inr (2, chg3)), (oA, .inl (oC, (1, .inr (.inl oF))))] s.heap.size = A at hD hth ⊢
  have hA : ∀ q : Nat, s.heap.size ≤ q → A q := fun q h => by rw [← hAe]; exact Or.inr h
  have hS : va_S A s.heap s.heap [] := va_S.rf
  have hl := lv_entry ([.ref x, .int p0, .int p1, .int p2, .int p3, .ref oA]) (n := 7) (Nat.le_of_ble_eq_true rfl)
  rw [lg_entry_eq]
  generalize (lg_sl ([.ref x, .int p0, .int p1, .int p2, .int p3, .ref oA]) ++ List.replicate (7 - (lg_sl ([.ref x, .int p0, .int p1, .int p2, .int p3, .ref oA])).length) Slot.unset).toArray = ls at hl ⊢
  have hl : lv_has ls 7 [(0, .ref x), (1, .int p0), (2, .int p1), (3, .int p2), (4, .int p3), (5, .ref oA)] := hl
  have hT : c.exceptionTable.toList = tableOf [(0, 14, 17, 32), (0, 14, 21, 19), (0, 14, 25, 13)] := vx_table (x := yL_changes) B (atoms_spec (ws := Cond.codeWith yL_changes cL_changes 7 (some .int) [(0, 14, 17, 32), (0, 14, 21, 19), (0, 14, 25, 13)] :: BG) B.pre _ List.mem_cons_self)
  have hFc := va_free (wc := [(x, .inr (12, xg)), (chA, .inl (chC, (4, .inr (.inr (.inr (.inr chF)))))), (ch0, .inr (2, chg0)), (ch1, .inr (2, chg1)), (ch2, .inr (2, chg2)), (ch3, .inr (2, chg3))]) hD hS hA [0, 1, 2, 3, 4, 5] rfl
  have hPc := hP.sub (ws' := [(x, .inr (12, xg)), (chA, .inl (chC, (4, .inr (.inr (.inr (.inr chF)))))), (ch0, .inr (2, chg0)), (ch1, .inr (2, chg1)), (ch2, .inr (2, chg2)), (ch3, .inr (2, chg3))]) [0, 1, 2, 3, 4, 5] rfl
  have hDc := hD.sub (ws' := [(x, .inr (12, xg)), (chA, .inl (chC, (4, .inr (.inr (.inr (.inr chF)))))), (ch0, .inr (2, chg0)), (ch1, .inr (2, chg1)), (ch2, .inr (2, chg2)), (ch3, .inr (2, chg3))]) [0, 1, 2, 3, 4, 5] (by decide) rfl
  have hKc := hK.sub (tys' := [(chC, .object "ChipFlow$Chip")]) [0] rfl
  have hK9 := hK.sub (tys' := [(oC, .long)]) [1] rfl
  refine lv_aload hx hb dL_changes_0 (lv_at hl 5 rfl) ?_
  refine lv_iconst (v := 0) hx hb dL_changes_2 (by decide +kernel) ?_
  refine lv_aload_n hx hb dL_changes_3 rfl (lv_at hl 0 rfl) ?_
  refine lv_iload_n hx hb dL_changes_4 rfl (lv_at hl 1 rfl) ?_
  refine lv_iload_n hx hb dL_changes_5 rfl (lv_at hl 2 rfl) ?_
  refine lv_iload_n hx hb dL_changes_6 rfl (lv_at hl 3 rfl) ?_
  refine lv_iload hx hb dL_changes_7 (lv_at hl 4 rfl) ?_
  refine vq_thr (vx_runV (As := [.int p0, .int p1, .int p2, .int p3]) (rest := [.int 0, .ref oA]) ⟨hx, hb, hml, hown, hts⟩ (ct_X12_changes l hlt dC dI s.heap.size p0 p1 p2 p3 x xg chA chC chF ch0 ch1 ch2 ch3 chg0 chg1 chg2 chg3 hchg0 hchF0 hchg1 hchF1 hchg2 hchF2 hchg3 hchF3 hxg) (cwV 4 hts (gi_V wd_2885 wd_2886 wd_2887 wd_327 wd_2888) rfl rfl rfl (by decide +kernel) ⟨(Nat.le_of_ble_eq_true rfl), (Nat.le_of_ble_eq_true rfl)⟩) ⟨fun a U g mk q => by obtain ⟨q0, q1, qP, qK, qD, qT⟩ := q; exact ⟨q0, q1, qP, va_K.moved (u := U) (U := U.calling g mk a) (Vm.Alike.refl U.vm) qK, qD, th.moved (u := U) (U := U.calling g mk a) (Vm.Alike.refl U.vm) qT⟩, va_recv hKc hPc (ci := 12) (q0 := 0) rfl rfl, fun U hU hW => ⟨rfl, by rw [hU], by rw [hU]; exact hPc, va_K.moved hW.alike hKc, hDc.weaken (fun _ _ _ _ => trivial), by rw [hU]; exact (hth.narrow hFc).moved hW.alike⟩⟩ rfl rfl hl.1 rfl (lv_room (Nat.le_of_ble_eq_true rfl)) dL_changes_9 ⟨(Nat.le_of_ble_eq_true rfl), (Nat.le_of_ble_eq_true rfl)⟩) (fun _ _ _ h => h) hS hFc (fun q _ h => hFc q h) (fun E ce q9 u t H1 locs ht hvm hp hB hz hk hS hce hcv hcl => ?_)
  subst hB
  obtain ⟨hP, hD⟩ := va_join (wr := [(oA, .inl (oC, (1, .inr (.inl oF))))]) (w1 := []) hP hD [0, 1, 2, 3, 4, 5] [6] rfl rfl (by decide) (by decide) hk hFc po_nilP po_nilD
  have hP : va_P (dC, dI) CL [(oA, .inl (oC, (1, .inr (.inl oF))))] H1 := hP
  have hD : va_D A [(oA, .inl (oC, (1, .inr (.inl oF))))] := hD
  refine vx_catch (own := RL) (name := "java/lang/IndexOutOfBoundsException") hown [] { startPc := 0, endPc := 14, handlerPc := 17, catchType := 32 } [{ startPc := 0, endPc := 14, handlerPc := 21, catchType := 19 }, { startPc := 0, endPc := 14, handlerPc := 25, catchType := 13 }] (by rw [hT]; rfl) (fun _ h => nomatch h) (by decide) (by decide) (hts (.classLink RL 32 "java/lang/IndexOutOfBoundsException") wd_1804) (hth.cast (by decide)) hce hcv hcl ?_
  refine lv_astore (lv' := [(6, .ref q9), (0, .ref x), (1, .int p0), (2, .int p1), (3, .int p2), (4, .int p3), (5, .ref oA)]) hx hb dL_changes_17 hl (by decide) rfl (fun ls hl => ?_)
  refine lv_iconst (v := 1) hx hb dL_changes_19 (by decide +kernel) ?_
  refine W.widen (k := 1) (n := 6) (Nat.le_of_ble_eq_true rfl) (Nat.le_of_ble_eq_true rfl) ?_
  exact W.iret (v := 1) hx hb hr (fun t ht hW => ⟨⟨1, (), rfl, rfl, by rw [ht]; exact hP, va_K.moved hW.alike hK9, hD⟩, hS.F ht⟩) hS.2.2 dL_changes_20
set_option maxHeartbeats 4000000 in
set_option maxRecDepth 100000 in
theorem ct_L_test (l : Launch) (hlt : l.stackTraces = false) (dC : Nat → ClassId) (dI : Nat → Nat → Nat) (sz : Nat) (p0 p1 : Int32) (x : Nat) (xg : List Value) (chA : Nat) (chC : ClassId) (chF : Nat → Option Nat) (ch0 ch1 ch2 ch3 : Nat) (chg0 chg1 chg2 chg3 : List Value) (hchg0 : fx chg0 20 [(0, .int 0)]) (hchF0 : chF 0 = some ch0) (hchg1 : fx chg1 20 [(0, .int 0)]) (hchF1 : chF 1 = some ch1) (hchg2 : fx chg2 20 [(0, .int 0)]) (hchF2 : chF 2 = some ch2) (hchg3 : fx chg3 20 [(0, .int 0)]) (hchF3 : chF 3 = some ch3) (oA : Nat) (oC : ClassId) (oF : Nat → Int64) (hxg : fx xg 17 [(9, .ref chA)]) : Met l yL_test (Cond.codeWith yL_test cL_test 5 (some .int) [(0, 10, 13, 32)] :: BG) ({ frames := 9, cells := 1, slots := 6, locals := 200 }) (va_Pc [.ref x, .int p0, .int p1, .ref oA] (fun U => U.heap.size = sz ∧ va_P (dC, dI) CL [(x, .inr (12, xg)), (chA, .inl (chC, (4, .inr (.inr (.inr (.inr chF)))))), (ch0, .inr (2, chg0)), (ch1, .inr (2, chg1)), (ch2, .inr (2, chg2)), (ch3, .inr (2, chg3)), (oA, .inl (oC, (1, .inr (.inl oF))))] U.heap ∧ va_K (dC, dI) CL [(chC, .object "ChipFlow$Chip"), (oC, .long)] U ∧ va_D (fun _ => True) [(x, .inr (12, xg)), (chA, .inl (chC, (4, .inr (.inr (.inr (.inr chF)))))), (ch0, .inr (2, chg0)), (ch1, .inr (2, chg1)), (ch2, .inr (2, chg2)), (ch3, .inr (2, chg3)), (oA, .inl (oC, (1, .inr (.inl oF))))] ∧ th (va_A [(x, .inr (12, xg)), (chA, .inl (chC, (4, .inr (.inr (.inr (.inr chF)))))), (ch0, .inr (2, chg0)), (ch1, .inr (2, chg1)), (ch2, .inr (2, chg2)), (ch3, .inr (2, chg3)), (oA, .inl (oC, (1, .inr (.inl oF))))] sz) U U.heap)) (va_Qi (fun (r : Int32) (_ : Unit) => r = 1) (fun _ t => va_P (dC, dI) CL [(oA, .inl (oC, (1, .inr (.inl oF))))] t.heap ∧ va_K (dC, dI) CL [(oC, .long)] t ∧ va_D (va_A [(x, .inr (12, xg)), (chA, .inl (chC, (4, .inr (.inr (.inr (.inr chF)))))), (ch0, .inr (2, chg0)), (ch1, .inr (2, chg1)), (ch2, .inr (2, chg2)), (ch3, .inr (2, chg3)), (oA, .inl (oC, (1, .inr (.inl oF))))] sz) [(oA, .inl (oC, (1, .inr (.inl oF))))]) (va_A [(x, .inr (12, xg)), (chA, .inl (chC, (4, .inr (.inr (.inr (.inr chF)))))), (ch0, .inr (2, chg0)), (ch1, .inr (2, chg1)), (ch2, .inr (2, chg2)), (ch3, .inr (2, chg3)), (oA, .inl (oC, (1, .inr (.inl oF))))] sz)) 1 6 (va_A [(x, .inr (12, xg)), (chA, .inl (chC, (4, .inr (.inr (.inr (.inr chF)))))), (ch0, .inr (2, chg0)), (ch1, .inr (2, chg1)), (ch2, .inr (2, chg2)), (ch3, .inr (2, chg3)), (oA, .inl (oC, (1, .inr (.inl oF))))] sz) := by
  refine va_MetW (hh := [(0, 10, 13, 32)]) (cc := cL_test) (maxL := 5) (ret := (some .int)) (by decide) rfl ?_
  intro p e s m args below meth c s₁ B hml hv
  obtain ⟨rfl, hsz, hP, hK, hD0, hth⟩ := hv
  have hx := B.exec
  have hb := B.bytes
  have hr := B.returns
  have hts : ∀ w ∈ BG, w.before _ s = true := fun w h => atoms_spec (ws := Cond.codeWith yL_test cL_test 5 (some .int) [(0, 10, 13, 32)] :: BG) B.pre w (List.mem_cons_of_mem _ h)
  have hown : s.vm.findClass RL = some m.cls := findClass_of_methodNamed B.named
  have hlocks := B.notSynchronized
  subst hsz
  have hD := hD0.self (sz := s.heap.size)
  generalize hAe : va_A [(x, .inr (12, xg)), (chA, .inl (chC, (4, .inr (.inr (.inr (.inr chF)))))), (ch0, .inr (2, chg0)), (ch1, .inr (2, chg1)), (ch2, .inr (2, chg2)), (ch3, .inr (2, chg3)), (oA, .inl (oC, (1, .inr (.inl oF))))] s.heap.size = A at hD hth ⊢
  have hA : ∀ q : Nat, s.heap.size ≤ q → A q := fun q h => by rw [← hAe]; exact Or.inr h
  have hS : va_S A s.heap s.heap [] := va_S.rf
  have hl := lv_entry ([.ref x, .int p0, .int p1, .ref oA]) (n := 5) (Nat.le_of_ble_eq_true rfl)
  rw [lg_entry_eq]
  generalize (lg_sl ([.ref x, .int p0, .int p1, .ref oA]) ++ List.replicate (5 - (lg_sl ([.ref x, .int p0, .int p1, .ref oA])).length) Slot.unset).toArray = ls at hl ⊢
  have hl : lv_has ls 5 [(0, .ref x), (1, .int p0), (2, .int p1), (3, .ref oA)] := hl
  have hT : c.exceptionTable.toList = tableOf [(0, 10, 13, 32)] := vx_table (x := yL_test) B (atoms_spec (ws := Cond.codeWith yL_test cL_test 5 (some .int) [(0, 10, 13, 32)] :: BG) B.pre _ List.mem_cons_self)
  have hFc := va_free (wc := [(x, .inr (12, xg)), (chA, .inl (chC, (4, .inr (.inr (.inr (.inr chF)))))), (ch0, .inr (2, chg0)), (ch1, .inr (2, chg1)), (ch2, .inr (2, chg2)), (ch3, .inr (2, chg3))]) hD hS hA [0, 1, 2, 3, 4, 5] rfl
  have hPc := hP.sub (ws' := [(x, .inr (12, xg)), (chA, .inl (chC, (4, .inr (.inr (.inr (.inr chF)))))), (ch0, .inr (2, chg0)), (ch1, .inr (2, chg1)), (ch2, .inr (2, chg2)), (ch3, .inr (2, chg3))]) [0, 1, 2, 3, 4, 5] rfl
  have hDc := hD.sub (ws' := [(x, .inr (12, xg)), (chA, .inl (chC, (4, .inr (.inr (.inr (.inr chF)))))), (ch0, .inr (2, chg0)), (ch1, .inr (2, chg1)), (ch2, .inr (2, chg2)), (ch3, .inr (2, chg3))]) [0, 1, 2, 3, 4, 5] (by decide) rfl
  have hKc := hK.sub (tys' := [(chC, .object "ChipFlow$Chip")]) [0] rfl
  have hK9 := hK.sub (tys' := [(oC, .long)]) [1] rfl
  refine lv_aload_n hx hb dL_test_0 rfl (lv_at hl 3 rfl) ?_
  refine lv_iconst (v := 0) hx hb dL_test_1 (by decide +kernel) ?_
  refine lv_aload_n hx hb dL_test_2 rfl (lv_at hl 0 rfl) ?_
  refine lv_iload_n hx hb dL_test_3 rfl (lv_at hl 1 rfl) ?_
  refine lv_iload_n hx hb dL_test_4 rfl (lv_at hl 2 rfl) ?_
  refine vq_thr (vx_runV (As := [.int p0, .int p1]) (rest := [.int 0, .ref oA]) ⟨hx, hb, hml, hown, hts⟩ (ct_X12_test l hlt dC dI s.heap.size p0 p1 x xg chA chC chF ch0 ch1 ch2 ch3 chg0 chg1 chg2 chg3 hchg0 hchF0 hchg1 hchF1 hchg2 hchF2 hchg3 hchF3 hxg) (cwV 2 hts (gi_V wd_2900 wd_2901 wd_2902 wd_327 wd_2903) rfl rfl rfl (by decide +kernel) ⟨(Nat.le_of_ble_eq_true rfl), (Nat.le_of_ble_eq_true rfl)⟩) ⟨fun a U g mk q => by obtain ⟨q0, q1, qP, qK, qD, qT⟩ := q; exact ⟨q0, q1, qP, va_K.moved (u := U) (U := U.calling g mk a) (Vm.Alike.refl U.vm) qK, qD, th.moved (u := U) (U := U.calling g mk a) (Vm.Alike.refl U.vm) qT⟩, va_recv hKc hPc (ci := 12) (q0 := 0) rfl rfl, fun U hU hW => ⟨rfl, by rw [hU], by rw [hU]; exact hPc, va_K.moved hW.alike hKc, hDc.weaken (fun _ _ _ _ => trivial), by rw [hU]; exact (hth.narrow hFc).moved hW.alike⟩⟩ rfl rfl hl.1 rfl (lv_room (Nat.le_of_ble_eq_true rfl)) dL_test_5 ⟨(Nat.le_of_ble_eq_true rfl), (Nat.le_of_ble_eq_true rfl)⟩) (fun _ _ _ h => h) hS hFc (fun q _ h => hFc q h) (fun E ce q9 u t H1 locs ht hvm hp hB hz hk hS hce hcv hcl => ?_)
  subst hB
  obtain ⟨hP, hD⟩ := va_join (wr := [(oA, .inl (oC, (1, .inr (.inl oF))))]) (w1 := []) hP hD [0, 1, 2, 3, 4, 5] [6] rfl rfl (by decide) (by decide) hk hFc po_nilP po_nilD
  have hP : va_P (dC, dI) CL [(oA, .inl (oC, (1, .inr (.inl oF))))] H1 := hP
  have hD : va_D A [(oA, .inl (oC, (1, .inr (.inl oF))))] := hD
  refine vx_catch (own := RL) (name := "java/lang/IndexOutOfBoundsException") hown [] { startPc := 0, endPc := 10, handlerPc := 13, catchType := 32 } [] (by rw [hT]; rfl) (fun _ h => nomatch h) (by decide) (by decide) (hts (.classLink RL 32 "java/lang/IndexOutOfBoundsException") wd_1804) (hth.cast (by decide)) hce hcv hcl ?_
  refine lv_astore (lv' := [(4, .ref q9), (0, .ref x), (1, .int p0), (2, .int p1), (3, .ref oA)]) hx hb dL_test_13 hl (by decide) rfl (fun ls hl => ?_)
  refine lv_iconst (v := 1) hx hb dL_test_15 (by decide +kernel) ?_
  refine W.widen (k := 1) (n := 6) (Nat.le_of_ble_eq_true rfl) (Nat.le_of_ble_eq_true rfl) ?_
  exact W.iret (v := 1) hx hb hr (fun t ht hW => ⟨⟨1, (), rfl, rfl, by rw [ht]; exact hP, va_K.moved hW.alike hK9, hD⟩, hS.F ht⟩) hS.2.2 dL_test_16
set_option maxHeartbeats 4000000 in
set_option maxRecDepth 100000 in
theorem ct_L_shows (l : Launch) (hlt : l.stackTraces = false) (dC : Nat → ClassId) (dI : Nat → Nat → Nat) (sz : Nat) (p0 p1 p2 : Int32) (x : Nat) (xg : List Value) (chA : Nat) (chC : ClassId) (chF : Nat → Option Nat) (ch0 ch1 ch2 ch3 : Nat) (chg0 chg1 chg2 chg3 : List Value) (hchg0 : fx chg0 20 [(0, .int 0)]) (hchF0 : chF 0 = some ch0) (hchg1 : fx chg1 20 [(0, .int 0)]) (hchF1 : chF 1 = some ch1) (hchg2 : fx chg2 20 [(0, .int 0)]) (hchF2 : chF 2 = some ch2) (hchg3 : fx chg3 20 [(0, .int 0)]) (hchF3 : chF 3 = some ch3) (oA : Nat) (oC : ClassId) (oF : Nat → Int64) (hxg : fx xg 17 [(9, .ref chA)]) : Met l yL_shows (Cond.codeWith yL_shows cL_shows 6 (some .int) [(0, 19, 22, 32), (0, 19, 26, 19)] :: BG) ({ frames := 9, cells := 1, slots := 6, locals := 200 }) (va_Pc [.ref x, .int p0, .int p1, .int p2, .ref oA] (fun U => U.heap.size = sz ∧ va_P (dC, dI) CL [(x, .inr (12, xg)), (chA, .inl (chC, (4, .inr (.inr (.inr (.inr chF)))))), (ch0, .inr (2, chg0)), (ch1, .inr (2, chg1)), (ch2, .inr (2, chg2)), (ch3, .inr (2, chg3)), (oA, .inl (oC, (1, .inr (.inl oF))))] U.heap ∧ va_K (dC, dI) CL [(chC, .object "ChipFlow$Chip"), (oC, .long)] U ∧ va_D (fun _ => True) [(x, .inr (12, xg)), (chA, .inl (chC, (4, .inr (.inr (.inr (.inr chF)))))), (ch0, .inr (2, chg0)), (ch1, .inr (2, chg1)), (ch2, .inr (2, chg2)), (ch3, .inr (2, chg3)), (oA, .inl (oC, (1, .inr (.inl oF))))] ∧ th (va_A [(x, .inr (12, xg)), (chA, .inl (chC, (4, .inr (.inr (.inr (.inr chF)))))), (ch0, .inr (2, chg0)), (ch1, .inr (2, chg1)), (ch2, .inr (2, chg2)), (ch3, .inr (2, chg3)), (oA, .inl (oC, (1, .inr (.inl oF))))] sz) U U.heap)) (va_Qi (fun (r : Int32) (_ : Unit) => r = 1) (fun _ t => va_P (dC, dI) CL [(oA, .inl (oC, (1, .inr (.inl oF))))] t.heap ∧ va_K (dC, dI) CL [(oC, .long)] t ∧ va_D (va_A [(x, .inr (12, xg)), (chA, .inl (chC, (4, .inr (.inr (.inr (.inr chF)))))), (ch0, .inr (2, chg0)), (ch1, .inr (2, chg1)), (ch2, .inr (2, chg2)), (ch3, .inr (2, chg3)), (oA, .inl (oC, (1, .inr (.inl oF))))] sz) [(oA, .inl (oC, (1, .inr (.inl oF))))]) (va_A [(x, .inr (12, xg)), (chA, .inl (chC, (4, .inr (.inr (.inr (.inr chF)))))), (ch0, .inr (2, chg0)), (ch1, .inr (2, chg1)), (ch2, .inr (2, chg2)), (ch3, .inr (2, chg3)), (oA, .inl (oC, (1, .inr (.inl oF))))] sz)) 1 6 (va_A [(x, .inr (12, xg)), (chA, .inl (chC, (4, .inr (.inr (.inr (.inr chF)))))), (ch0, .inr (2, chg0)), (ch1, .inr (2, chg1)), (ch2, .inr (2, chg2)), (ch3, .inr (2, chg3)), (oA, .inl (oC, (1, .inr (.inl oF))))] sz) := by
  refine va_MetW (hh := [(0, 19, 22, 32), (0, 19, 26, 19)]) (cc := cL_shows) (maxL := 6) (ret := (some .int)) (by decide) rfl ?_
  intro p e s m args below meth c s₁ B hml hv
  obtain ⟨rfl, hsz, hP, hK, hD0, hth⟩ := hv
  have hx := B.exec
  have hb := B.bytes
  have hr := B.returns
  have hts : ∀ w ∈ BG, w.before _ s = true := fun w h => atoms_spec (ws := Cond.codeWith yL_shows cL_shows 6 (some .int) [(0, 19, 22, 32), (0, 19, 26, 19)] :: BG) B.pre w (List.mem_cons_of_mem _ h)
  have hown : s.vm.findClass RL = some m.cls := findClass_of_methodNamed B.named
  have hlocks := B.notSynchronized
  subst hsz
  have hD := hD0.self (sz := s.heap.size)
  generalize hAe : va_A [(x, .inr (12, xg)), (chA, .inl (chC, (4, .inr (.inr (.inr (.inr chF)))))), (ch0, .inr (2, chg0)), (ch1, .inr (2, chg1)), (ch2, .inr (2, chg2)), (ch3, .inr (2, chg3)), (oA, .inl (oC, (1, .inr (.inl oF))))] s.heap.size = A at hD hth ⊢
  have hA : ∀ q : Nat, s.heap.size ≤ q → A q := fun q h => by rw [← hAe]; exact Or.inr h
  have hS : va_S A s.heap s.heap [] := va_S.rf
  have hl := lv_entry ([.ref x, .int p0, .int p1, .int p2, .ref oA]) (n := 6) (Nat.le_of_ble_eq_true rfl)
  rw [lg_entry_eq]
  generalize (lg_sl ([.ref x, .int p0, .int p1, .int p2, .ref oA]) ++ List.replicate (6 - (lg_sl ([.ref x, .int p0, .int p1, .int p2, .ref oA])).length) Slot.unset).toArray = ls at hl ⊢
  have hl : lv_has ls 6 [(0, .ref x), (1, .int p0), (2, .int p1), (3, .int p2), (4, .ref oA)] := hl
  have hT : c.exceptionTable.toList = tableOf [(0, 19, 22, 32), (0, 19, 26, 19)] := vx_table (x := yL_shows) B (atoms_spec (ws := Cond.codeWith yL_shows cL_shows 6 (some .int) [(0, 19, 22, 32), (0, 19, 26, 19)] :: BG) B.pre _ List.mem_cons_self)
  have hFc := va_free (wc := [(x, .inr (12, xg)), (chA, .inl (chC, (4, .inr (.inr (.inr (.inr chF)))))), (ch0, .inr (2, chg0)), (ch1, .inr (2, chg1)), (ch2, .inr (2, chg2)), (ch3, .inr (2, chg3))]) hD hS hA [0, 1, 2, 3, 4, 5] rfl
  have hPc := hP.sub (ws' := [(x, .inr (12, xg)), (chA, .inl (chC, (4, .inr (.inr (.inr (.inr chF)))))), (ch0, .inr (2, chg0)), (ch1, .inr (2, chg1)), (ch2, .inr (2, chg2)), (ch3, .inr (2, chg3))]) [0, 1, 2, 3, 4, 5] rfl
  have hDc := hD.sub (ws' := [(x, .inr (12, xg)), (chA, .inl (chC, (4, .inr (.inr (.inr (.inr chF)))))), (ch0, .inr (2, chg0)), (ch1, .inr (2, chg1)), (ch2, .inr (2, chg2)), (ch3, .inr (2, chg3))]) [0, 1, 2, 3, 4, 5] (by decide) rfl
  have hKc := hK.sub (tys' := [(chC, .object "ChipFlow$Chip")]) [0] rfl
  have hK9 := hK.sub (tys' := [(oC, .long)]) [1] rfl
  refine lv_aload hx hb dL_shows_0 (lv_at hl 4 rfl) ?_
  refine lv_iconst (v := 0) hx hb dL_shows_2 (by decide +kernel) ?_
  refine lv_aload_n hx hb dL_shows_3 rfl (lv_at hl 0 rfl) ?_
  refine lv_iload_n hx hb dL_shows_4 rfl (lv_at hl 1 rfl) ?_
  refine lv_iload_n hx hb dL_shows_5 rfl (lv_at hl 2 rfl) ?_
  refine lv_iload_n hx hb dL_shows_6 rfl (lv_at hl 3 rfl) ?_
  refine vq_thr (vx_runV (As := [.int p0, .int p1, .int p2]) (rest := [.int 0, .ref oA]) ⟨hx, hb, hml, hown, hts⟩ (ct_X12_shows l hlt dC dI s.heap.size p0 p1 p2 x xg chA chC chF ch0 ch1 ch2 ch3 chg0 chg1 chg2 chg3 hchg0 hchF0 hchg1 hchF1 hchg2 hchF2 hchg3 hchF3 hxg) (cwV 3 hts (gi_V wd_2937 wd_2938 wd_2939 wd_327 wd_2940) rfl rfl rfl (by decide +kernel) ⟨(Nat.le_of_ble_eq_true rfl), (Nat.le_of_ble_eq_true rfl)⟩) ⟨fun a U g mk q => by obtain ⟨q0, q1, qP, qK, qD, qT⟩ := q; exact ⟨q0, q1, qP, va_K.moved (u := U) (U := U.calling g mk a) (Vm.Alike.refl U.vm) qK, qD, th.moved (u := U) (U := U.calling g mk a) (Vm.Alike.refl U.vm) qT⟩, va_recv hKc hPc (ci := 12) (q0 := 0) rfl rfl, fun U hU hW => ⟨rfl, by rw [hU], by rw [hU]; exact hPc, va_K.moved hW.alike hKc, hDc.weaken (fun _ _ _ _ => trivial), by rw [hU]; exact (hth.narrow hFc).moved hW.alike⟩⟩ rfl rfl hl.1 rfl (lv_room (Nat.le_of_ble_eq_true rfl)) dL_shows_7 ⟨(Nat.le_of_ble_eq_true rfl), (Nat.le_of_ble_eq_true rfl)⟩) (fun _ _ _ h => h) hS hFc (fun q _ h => hFc q h) (fun E ce q9 u t H1 locs ht hvm hp hB hz hk hS hce hcv hcl => ?_)
  subst hB
  obtain ⟨hP, hD⟩ := va_join (wr := [(oA, .inl (oC, (1, .inr (.inl oF))))]) (w1 := []) hP hD [0, 1, 2, 3, 4, 5] [6] rfl rfl (by decide) (by decide) hk hFc po_nilP po_nilD
  have hP : va_P (dC, dI) CL [(oA, .inl (oC, (1, .inr (.inl oF))))] H1 := hP
  have hD : va_D A [(oA, .inl (oC, (1, .inr (.inl oF))))] := hD
  refine vx_catch (own := RL) (name := "java/lang/IndexOutOfBoundsException") hown [] { startPc := 0, endPc := 19, handlerPc := 22, catchType := 32 } [{ startPc := 0, endPc := 19, handlerPc := 26, catchType := 19 }] (by rw [hT]; rfl) (fun _ h => nomatch h) (by decide) (by decide) (hts (.classLink RL 32 "java/lang/IndexOutOfBoundsException") wd_1804) (hth.cast (by decide)) hce hcv hcl ?_
  refine lv_astore (lv' := [(5, .ref q9), (0, .ref x), (1, .int p0), (2, .int p1), (3, .int p2), (4, .ref oA)]) hx hb dL_shows_22 hl (by decide) rfl (fun ls hl => ?_)
  refine lv_iconst (v := 1) hx hb dL_shows_24 (by decide +kernel) ?_
  refine W.widen (k := 1) (n := 6) (Nat.le_of_ble_eq_true rfl) (Nat.le_of_ble_eq_true rfl) ?_
  exact W.iret (v := 1) hx hb hr (fun t ht hW => ⟨⟨1, (), rfl, rfl, by rw [ht]; exact hP, va_K.moved hW.alike hK9, hD⟩, hS.F ht⟩) hS.2.2 dL_shows_25
set_option maxHeartbeats 4000000 in
set_option maxRecDepth 100000 in
theorem ct_L_tests (l : Launch) (hlt : l.stackTraces = false) (dC : Nat → ClassId) (dI : Nat → Nat → Nat) (sz : Nat) (p0 : Int32) (x : Nat) (xg : List Value) (chA : Nat) (chC : ClassId) (chF : Nat → Option Nat) (ch0 ch1 ch2 ch3 : Nat) (chg0 chg1 chg2 chg3 : List Value) (hchg0 : fx chg0 20 [(0, .int 0)]) (hchF0 : chF 0 = some ch0) (hchg1 : fx chg1 20 [(0, .int 0)]) (hchF1 : chF 1 = some ch1) (hchg2 : fx chg2 20 [(0, .int 0)]) (hchF2 : chF 2 = some ch2) (hchg3 : fx chg3 20 [(0, .int 0)]) (hchF3 : chF 3 = some ch3) (oA : Nat) (oC : ClassId) (oF : Nat → Int64) (hxg : fx xg 17 [(9, .ref chA)]) : Met l yL_tests (Cond.codeWith yL_tests cL_tests 4 (some .int) [(0, 9, 12, 32)] :: BG) ({ frames := 9, cells := 1, slots := 6, locals := 200 }) (va_Pc [.ref x, .int p0, .ref oA] (fun U => U.heap.size = sz ∧ va_P (dC, dI) CL [(x, .inr (12, xg)), (chA, .inl (chC, (4, .inr (.inr (.inr (.inr chF)))))), (ch0, .inr (2, chg0)), (ch1, .inr (2, chg1)), (ch2, .inr (2, chg2)), (ch3, .inr (2, chg3)), (oA, .inl (oC, (1, .inr (.inl oF))))] U.heap ∧ va_K (dC, dI) CL [(chC, .object "ChipFlow$Chip"), (oC, .long)] U ∧ va_D (fun _ => True) [(x, .inr (12, xg)), (chA, .inl (chC, (4, .inr (.inr (.inr (.inr chF)))))), (ch0, .inr (2, chg0)), (ch1, .inr (2, chg1)), (ch2, .inr (2, chg2)), (ch3, .inr (2, chg3)), (oA, .inl (oC, (1, .inr (.inl oF))))] ∧ th (va_A [(x, .inr (12, xg)), (chA, .inl (chC, (4, .inr (.inr (.inr (.inr chF)))))), (ch0, .inr (2, chg0)), (ch1, .inr (2, chg1)), (ch2, .inr (2, chg2)), (ch3, .inr (2, chg3)), (oA, .inl (oC, (1, .inr (.inl oF))))] sz) U U.heap)) (va_Qi (fun (r : Int32) (_ : Unit) => r = 1) (fun _ t => va_P (dC, dI) CL [(oA, .inl (oC, (1, .inr (.inl oF))))] t.heap ∧ va_K (dC, dI) CL [(oC, .long)] t ∧ va_D (va_A [(x, .inr (12, xg)), (chA, .inl (chC, (4, .inr (.inr (.inr (.inr chF)))))), (ch0, .inr (2, chg0)), (ch1, .inr (2, chg1)), (ch2, .inr (2, chg2)), (ch3, .inr (2, chg3)), (oA, .inl (oC, (1, .inr (.inl oF))))] sz) [(oA, .inl (oC, (1, .inr (.inl oF))))]) (va_A [(x, .inr (12, xg)), (chA, .inl (chC, (4, .inr (.inr (.inr (.inr chF)))))), (ch0, .inr (2, chg0)), (ch1, .inr (2, chg1)), (ch2, .inr (2, chg2)), (ch3, .inr (2, chg3)), (oA, .inl (oC, (1, .inr (.inl oF))))] sz)) 1 6 (va_A [(x, .inr (12, xg)), (chA, .inl (chC, (4, .inr (.inr (.inr (.inr chF)))))), (ch0, .inr (2, chg0)), (ch1, .inr (2, chg1)), (ch2, .inr (2, chg2)), (ch3, .inr (2, chg3)), (oA, .inl (oC, (1, .inr (.inl oF))))] sz) := by
  refine va_MetW (hh := [(0, 9, 12, 32)]) (cc := cL_tests) (maxL := 4) (ret := (some .int)) (by decide) rfl ?_
  intro p e s m args below meth c s₁ B hml hv
  obtain ⟨rfl, hsz, hP, hK, hD0, hth⟩ := hv
  have hx := B.exec
  have hb := B.bytes
  have hr := B.returns
  have hts : ∀ w ∈ BG, w.before _ s = true := fun w h => atoms_spec (ws := Cond.codeWith yL_tests cL_tests 4 (some .int) [(0, 9, 12, 32)] :: BG) B.pre w (List.mem_cons_of_mem _ h)
  have hown : s.vm.findClass RL = some m.cls := findClass_of_methodNamed B.named
  have hlocks := B.notSynchronized
  subst hsz
  have hD := hD0.self (sz := s.heap.size)
  generalize hAe : va_A [(x, .inr (12, xg)), (chA, .inl (chC, (4, .inr (.inr (.inr (.inr chF)))))), (ch0, .inr (2, chg0)), (ch1, .inr (2, chg1)), (ch2, .inr (2, chg2)), (ch3, .inr (2, chg3)), (oA, .inl (oC, (1, .inr (.inl oF))))] s.heap.size = A at hD hth ⊢
  have hA : ∀ q : Nat, s.heap.size ≤ q → A q := fun q h => by rw [← hAe]; exact Or.inr h
  have hS : va_S A s.heap s.heap [] := va_S.rf
  have hl := lv_entry ([.ref x, .int p0, .ref oA]) (n := 4) (Nat.le_of_ble_eq_true rfl)
  rw [lg_entry_eq]
  generalize (lg_sl ([.ref x, .int p0, .ref oA]) ++ List.replicate (4 - (lg_sl ([.ref x, .int p0, .ref oA])).length) Slot.unset).toArray = ls at hl ⊢
  have hl : lv_has ls 4 [(0, .ref x), (1, .int p0), (2, .ref oA)] := hl
  have hT : c.exceptionTable.toList = tableOf [(0, 9, 12, 32)] := vx_table (x := yL_tests) B (atoms_spec (ws := Cond.codeWith yL_tests cL_tests 4 (some .int) [(0, 9, 12, 32)] :: BG) B.pre _ List.mem_cons_self)
  have hFc := va_free (wc := [(x, .inr (12, xg)), (chA, .inl (chC, (4, .inr (.inr (.inr (.inr chF)))))), (ch0, .inr (2, chg0)), (ch1, .inr (2, chg1)), (ch2, .inr (2, chg2)), (ch3, .inr (2, chg3))]) hD hS hA [0, 1, 2, 3, 4, 5] rfl
  have hPc := hP.sub (ws' := [(x, .inr (12, xg)), (chA, .inl (chC, (4, .inr (.inr (.inr (.inr chF)))))), (ch0, .inr (2, chg0)), (ch1, .inr (2, chg1)), (ch2, .inr (2, chg2)), (ch3, .inr (2, chg3))]) [0, 1, 2, 3, 4, 5] rfl
  have hDc := hD.sub (ws' := [(x, .inr (12, xg)), (chA, .inl (chC, (4, .inr (.inr (.inr (.inr chF)))))), (ch0, .inr (2, chg0)), (ch1, .inr (2, chg1)), (ch2, .inr (2, chg2)), (ch3, .inr (2, chg3))]) [0, 1, 2, 3, 4, 5] (by decide) rfl
  have hKc := hK.sub (tys' := [(chC, .object "ChipFlow$Chip")]) [0] rfl
  have hK9 := hK.sub (tys' := [(oC, .long)]) [1] rfl
  refine lv_aload_n hx hb dL_tests_0 rfl (lv_at hl 2 rfl) ?_
  refine lv_iconst (v := 0) hx hb dL_tests_1 (by decide +kernel) ?_
  refine lv_aload_n hx hb dL_tests_2 rfl (lv_at hl 0 rfl) ?_
  refine lv_iload_n hx hb dL_tests_3 rfl (lv_at hl 1 rfl) ?_
  refine vq_thr (vx_runV (As := [.int p0]) (rest := [.int 0, .ref oA]) ⟨hx, hb, hml, hown, hts⟩ (ct_X12_tests l hlt dC dI s.heap.size p0 x xg chA chC chF ch0 ch1 ch2 ch3 chg0 chg1 chg2 chg3 hchg0 hchF0 hchg1 hchF1 hchg2 hchF2 hchg3 hchF3 hxg) (cwV 1 hts (gi_V wd_2949 wd_2950 wd_2951 wd_327 wd_2952) rfl rfl rfl (by decide +kernel) ⟨(Nat.le_of_ble_eq_true rfl), (Nat.le_of_ble_eq_true rfl)⟩) ⟨fun a U g mk q => by obtain ⟨q0, q1, qP, qK, qD, qT⟩ := q; exact ⟨q0, q1, qP, va_K.moved (u := U) (U := U.calling g mk a) (Vm.Alike.refl U.vm) qK, qD, th.moved (u := U) (U := U.calling g mk a) (Vm.Alike.refl U.vm) qT⟩, va_recv hKc hPc (ci := 12) (q0 := 0) rfl rfl, fun U hU hW => ⟨rfl, by rw [hU], by rw [hU]; exact hPc, va_K.moved hW.alike hKc, hDc.weaken (fun _ _ _ _ => trivial), by rw [hU]; exact (hth.narrow hFc).moved hW.alike⟩⟩ rfl rfl hl.1 rfl (lv_room (Nat.le_of_ble_eq_true rfl)) dL_tests_4 ⟨(Nat.le_of_ble_eq_true rfl), (Nat.le_of_ble_eq_true rfl)⟩) (fun _ _ _ h => h) hS hFc (fun q _ h => hFc q h) (fun E ce q9 u t H1 locs ht hvm hp hB hz hk hS hce hcv hcl => ?_)
  subst hB
  obtain ⟨hP, hD⟩ := va_join (wr := [(oA, .inl (oC, (1, .inr (.inl oF))))]) (w1 := []) hP hD [0, 1, 2, 3, 4, 5] [6] rfl rfl (by decide) (by decide) hk hFc po_nilP po_nilD
  have hP : va_P (dC, dI) CL [(oA, .inl (oC, (1, .inr (.inl oF))))] H1 := hP
  have hD : va_D A [(oA, .inl (oC, (1, .inr (.inl oF))))] := hD
  refine vx_catch (own := RL) (name := "java/lang/IndexOutOfBoundsException") hown [] { startPc := 0, endPc := 9, handlerPc := 12, catchType := 32 } [] (by rw [hT]; rfl) (fun _ h => nomatch h) (by decide) (by decide) (hts (.classLink RL 32 "java/lang/IndexOutOfBoundsException") wd_1804) (hth.cast (by decide)) hce hcv hcl ?_
  refine lv_astore_n (lv' := [(3, .ref q9), (0, .ref x), (1, .int p0), (2, .ref oA)]) hx hb dL_tests_12 rfl hl (by decide) rfl (fun ls hl => ?_)
  refine lv_iconst (v := 1) hx hb dL_tests_13 (by decide +kernel) ?_
  refine W.widen (k := 1) (n := 6) (Nat.le_of_ble_eq_true rfl) (Nat.le_of_ble_eq_true rfl) ?_
  exact W.iret (v := 1) hx hb hr (fun t ht hW => ⟨⟨1, (), rfl, rfl, by rw [ht]; exact hP, va_K.moved hW.alike hK9, hD⟩, hS.F ht⟩) hS.2.2 dL_tests_14
set_option maxHeartbeats 4000000 in
set_option maxRecDepth 100000 in
theorem ct_L_pattern (l : Launch) (hlt : l.stackTraces = false) (dC : Nat → ClassId) (dI : Nat → Nat → Nat) (sz : Nat) (p0 p1 : Int32) (x : Nat) (xg : List Value) (chA : Nat) (chC : ClassId) (chF : Nat → Option Nat) (ch0 ch1 ch2 ch3 : Nat) (chg0 chg1 chg2 chg3 : List Value) (hchg0 : fx chg0 20 [(0, .int 0)]) (hchF0 : chF 0 = some ch0) (hchg1 : fx chg1 20 [(0, .int 0)]) (hchF1 : chF 1 = some ch1) (hchg2 : fx chg2 20 [(0, .int 0)]) (hchF2 : chF 2 = some ch2) (hchg3 : fx chg3 20 [(0, .int 0)]) (hchF3 : chF 3 = some ch3) (oA : Nat) (oC : ClassId) (oF : Nat → Int64) (hxg : fx xg 17 [(9, .ref chA)]) : Met l yL_pattern (Cond.codeWith yL_pattern cL_pattern 5 (some .int) [(0, 10, 13, 32), (0, 10, 17, 105)] :: BG) ({ frames := 9, cells := 1, slots := 6, locals := 200 }) (va_Pc [.ref x, .int p0, .int p1, .ref oA] (fun U => U.heap.size = sz ∧ va_P (dC, dI) CL [(x, .inr (12, xg)), (chA, .inl (chC, (4, .inr (.inr (.inr (.inr chF)))))), (ch0, .inr (2, chg0)), (ch1, .inr (2, chg1)), (ch2, .inr (2, chg2)), (ch3, .inr (2, chg3)), (oA, .inl (oC, (1, .inr (.inl oF))))] U.heap ∧ va_K (dC, dI) CL [(chC, .object "ChipFlow$Chip"), (oC, .long)] U ∧ va_D (fun _ => True) [(x, .inr (12, xg)), (chA, .inl (chC, (4, .inr (.inr (.inr (.inr chF)))))), (ch0, .inr (2, chg0)), (ch1, .inr (2, chg1)), (ch2, .inr (2, chg2)), (ch3, .inr (2, chg3)), (oA, .inl (oC, (1, .inr (.inl oF))))] ∧ th (va_A [(x, .inr (12, xg)), (chA, .inl (chC, (4, .inr (.inr (.inr (.inr chF)))))), (ch0, .inr (2, chg0)), (ch1, .inr (2, chg1)), (ch2, .inr (2, chg2)), (ch3, .inr (2, chg3)), (oA, .inl (oC, (1, .inr (.inl oF))))] sz) U U.heap)) (va_Qi (fun (r : Int32) (_ : Unit) => r = 1) (fun _ t => va_P (dC, dI) CL [(oA, .inl (oC, (1, .inr (.inl oF))))] t.heap ∧ va_K (dC, dI) CL [(oC, .long)] t ∧ va_D (va_A [(x, .inr (12, xg)), (chA, .inl (chC, (4, .inr (.inr (.inr (.inr chF)))))), (ch0, .inr (2, chg0)), (ch1, .inr (2, chg1)), (ch2, .inr (2, chg2)), (ch3, .inr (2, chg3)), (oA, .inl (oC, (1, .inr (.inl oF))))] sz) [(oA, .inl (oC, (1, .inr (.inl oF))))]) (va_A [(x, .inr (12, xg)), (chA, .inl (chC, (4, .inr (.inr (.inr (.inr chF)))))), (ch0, .inr (2, chg0)), (ch1, .inr (2, chg1)), (ch2, .inr (2, chg2)), (ch3, .inr (2, chg3)), (oA, .inl (oC, (1, .inr (.inl oF))))] sz)) 1 6 (va_A [(x, .inr (12, xg)), (chA, .inl (chC, (4, .inr (.inr (.inr (.inr chF)))))), (ch0, .inr (2, chg0)), (ch1, .inr (2, chg1)), (ch2, .inr (2, chg2)), (ch3, .inr (2, chg3)), (oA, .inl (oC, (1, .inr (.inl oF))))] sz) := by
  refine va_MetW (hh := [(0, 10, 13, 32), (0, 10, 17, 105)]) (cc := cL_pattern) (maxL := 5) (ret := (some .int)) (by decide) rfl ?_
  intro p e s m args below meth c s₁ B hml hv
  obtain ⟨rfl, hsz, hP, hK, hD0, hth⟩ := hv
  have hx := B.exec
  have hb := B.bytes
  have hr := B.returns
  have hts : ∀ w ∈ BG, w.before _ s = true := fun w h => atoms_spec (ws := Cond.codeWith yL_pattern cL_pattern 5 (some .int) [(0, 10, 13, 32), (0, 10, 17, 105)] :: BG) B.pre w (List.mem_cons_of_mem _ h)
  have hown : s.vm.findClass RL = some m.cls := findClass_of_methodNamed B.named
  have hlocks := B.notSynchronized
  subst hsz
  have hD := hD0.self (sz := s.heap.size)
  generalize hAe : va_A [(x, .inr (12, xg)), (chA, .inl (chC, (4, .inr (.inr (.inr (.inr chF)))))), (ch0, .inr (2, chg0)), (ch1, .inr (2, chg1)), (ch2, .inr (2, chg2)), (ch3, .inr (2, chg3)), (oA, .inl (oC, (1, .inr (.inl oF))))] s.heap.size = A at hD hth ⊢
  have hA : ∀ q : Nat, s.heap.size ≤ q → A q := fun q h => by rw [← hAe]; exact Or.inr h
  have hS : va_S A s.heap s.heap [] := va_S.rf
  have hl := lv_entry ([.ref x, .int p0, .int p1, .ref oA]) (n := 5) (Nat.le_of_ble_eq_true rfl)
  rw [lg_entry_eq]
  generalize (lg_sl ([.ref x, .int p0, .int p1, .ref oA]) ++ List.replicate (5 - (lg_sl ([.ref x, .int p0, .int p1, .ref oA])).length) Slot.unset).toArray = ls at hl ⊢
  have hl : lv_has ls 5 [(0, .ref x), (1, .int p0), (2, .int p1), (3, .ref oA)] := hl
  have hT : c.exceptionTable.toList = tableOf [(0, 10, 13, 32), (0, 10, 17, 105)] := vx_table (x := yL_pattern) B (atoms_spec (ws := Cond.codeWith yL_pattern cL_pattern 5 (some .int) [(0, 10, 13, 32), (0, 10, 17, 105)] :: BG) B.pre _ List.mem_cons_self)
  have hFc := va_free (wc := [(x, .inr (12, xg)), (chA, .inl (chC, (4, .inr (.inr (.inr (.inr chF)))))), (ch0, .inr (2, chg0)), (ch1, .inr (2, chg1)), (ch2, .inr (2, chg2)), (ch3, .inr (2, chg3))]) hD hS hA [0, 1, 2, 3, 4, 5] rfl
  have hPc := hP.sub (ws' := [(x, .inr (12, xg)), (chA, .inl (chC, (4, .inr (.inr (.inr (.inr chF)))))), (ch0, .inr (2, chg0)), (ch1, .inr (2, chg1)), (ch2, .inr (2, chg2)), (ch3, .inr (2, chg3))]) [0, 1, 2, 3, 4, 5] rfl
  have hDc := hD.sub (ws' := [(x, .inr (12, xg)), (chA, .inl (chC, (4, .inr (.inr (.inr (.inr chF)))))), (ch0, .inr (2, chg0)), (ch1, .inr (2, chg1)), (ch2, .inr (2, chg2)), (ch3, .inr (2, chg3))]) [0, 1, 2, 3, 4, 5] (by decide) rfl
  have hKc := hK.sub (tys' := [(chC, .object "ChipFlow$Chip")]) [0] rfl
  have hK9 := hK.sub (tys' := [(oC, .long)]) [1] rfl
  refine lv_aload_n hx hb dL_pattern_0 rfl (lv_at hl 3 rfl) ?_
  refine lv_iconst (v := 0) hx hb dL_pattern_1 (by decide +kernel) ?_
  refine lv_aload_n hx hb dL_pattern_2 rfl (lv_at hl 0 rfl) ?_
  refine lv_iload_n hx hb dL_pattern_3 rfl (lv_at hl 1 rfl) ?_
  refine lv_iload_n hx hb dL_pattern_4 rfl (lv_at hl 2 rfl) ?_
  refine vq_thr (vx_runV (As := [.int p0, .int p1]) (rest := [.int 0, .ref oA]) ⟨hx, hb, hml, hown, hts⟩ (ct_X12_pattern l hlt dC dI s.heap.size p0 p1 x xg chA chC chF ch0 ch1 ch2 ch3 chg0 chg1 chg2 chg3 hchg0 hchF0 hchg1 hchF1 hchg2 hchF2 hchg3 hchF3 hxg) (cwV 2 hts (gi_V wd_2975 wd_2976 wd_2977 wd_327 wd_2978) rfl rfl rfl (by decide +kernel) ⟨(Nat.le_of_ble_eq_true rfl), (Nat.le_of_ble_eq_true rfl)⟩) ⟨fun a U g mk q => by obtain ⟨q0, q1, qP, qK, qD, qT⟩ := q; exact ⟨q0, q1, qP, va_K.moved (u := U) (U := U.calling g mk a) (Vm.Alike.refl U.vm) qK, qD, th.moved (u := U) (U := U.calling g mk a) (Vm.Alike.refl U.vm) qT⟩, va_recv hKc hPc (ci := 12) (q0 := 0) rfl rfl, fun U hU hW => ⟨rfl, by rw [hU], by rw [hU]; exact hPc, va_K.moved hW.alike hKc, hDc.weaken (fun _ _ _ _ => trivial), by rw [hU]; exact (hth.narrow hFc).moved hW.alike⟩⟩ rfl rfl hl.1 rfl (lv_room (Nat.le_of_ble_eq_true rfl)) dL_pattern_5 ⟨(Nat.le_of_ble_eq_true rfl), (Nat.le_of_ble_eq_true rfl)⟩) (fun _ _ _ h => h) hS hFc (fun q _ h => hFc q h) (fun E ce q9 u t H1 locs ht hvm hp hB hz hk hS hce hcv hcl => ?_)
  subst hB
  obtain ⟨hP, hD⟩ := va_join (wr := [(oA, .inl (oC, (1, .inr (.inl oF))))]) (w1 := []) hP hD [0, 1, 2, 3, 4, 5] [6] rfl rfl (by decide) (by decide) hk hFc po_nilP po_nilD
  have hP : va_P (dC, dI) CL [(oA, .inl (oC, (1, .inr (.inl oF))))] H1 := hP
  have hD : va_D A [(oA, .inl (oC, (1, .inr (.inl oF))))] := hD
  refine vx_catch (own := RL) (name := "java/lang/IndexOutOfBoundsException") hown [] { startPc := 0, endPc := 10, handlerPc := 13, catchType := 32 } [{ startPc := 0, endPc := 10, handlerPc := 17, catchType := 105 }] (by rw [hT]; rfl) (fun _ h => nomatch h) (by decide) (by decide) (hts (.classLink RL 32 "java/lang/IndexOutOfBoundsException") wd_1804) (hth.cast (by decide)) hce hcv hcl ?_
  refine lv_astore (lv' := [(4, .ref q9), (0, .ref x), (1, .int p0), (2, .int p1), (3, .ref oA)]) hx hb dL_pattern_13 hl (by decide) rfl (fun ls hl => ?_)
  refine lv_iconst (v := 1) hx hb dL_pattern_15 (by decide +kernel) ?_
  refine W.widen (k := 1) (n := 6) (Nat.le_of_ble_eq_true rfl) (Nat.le_of_ble_eq_true rfl) ?_
  exact W.iret (v := 1) hx hb hr (fun t ht hW => ⟨⟨1, (), rfl, rfl, by rw [ht]; exact hP, va_K.moved hW.alike hK9, hD⟩, hS.F ht⟩) hS.2.2 dL_pattern_16
set_option maxHeartbeats 4000000 in
set_option maxRecDepth 100000 in
theorem ct_L_fails (l : Launch) (hlt : l.stackTraces = false) (dC : Nat → ClassId) (dI : Nat → Nat → Nat) (sz : Nat) (p0 p1 p2 : Int32) (x : Nat) (xg : List Value) (chA : Nat) (chC : ClassId) (chF : Nat → Option Nat) (ch0 ch1 ch2 ch3 : Nat) (chg0 chg1 chg2 chg3 : List Value) (hchg0 : fx chg0 20 [(0, .int 0)]) (hchF0 : chF 0 = some ch0) (hchg1 : fx chg1 20 [(0, .int 0)]) (hchF1 : chF 1 = some ch1) (hchg2 : fx chg2 20 [(0, .int 0)]) (hchF2 : chF 2 = some ch2) (hchg3 : fx chg3 20 [(0, .int 0)]) (hchF3 : chF 3 = some ch3) (oA : Nat) (oC : ClassId) (oF : Nat → Int64) (hxg : fx xg 17 [(9, .ref chA)]) : Met l yL_fails (Cond.codeWith yL_fails cL_fails 6 (some .int) [(0, 19, 22, 32), (0, 19, 26, 105)] :: BG) ({ frames := 9, cells := 1, slots := 6, locals := 200 }) (va_Pc [.ref x, .int p0, .int p1, .int p2, .ref oA] (fun U => U.heap.size = sz ∧ va_P (dC, dI) CL [(x, .inr (12, xg)), (chA, .inl (chC, (4, .inr (.inr (.inr (.inr chF)))))), (ch0, .inr (2, chg0)), (ch1, .inr (2, chg1)), (ch2, .inr (2, chg2)), (ch3, .inr (2, chg3)), (oA, .inl (oC, (1, .inr (.inl oF))))] U.heap ∧ va_K (dC, dI) CL [(chC, .object "ChipFlow$Chip"), (oC, .long)] U ∧ va_D (fun _ => True) [(x, .inr (12, xg)), (chA, .inl (chC, (4, .inr (.inr (.inr (.inr chF)))))), (ch0, .inr (2, chg0)), (ch1, .inr (2, chg1)), (ch2, .inr (2, chg2)), (ch3, .inr (2, chg3)), (oA, .inl (oC, (1, .inr (.inl oF))))] ∧ th (va_A [(x, .inr (12, xg)), (chA, .inl (chC, (4, .inr (.inr (.inr (.inr chF)))))), (ch0, .inr (2, chg0)), (ch1, .inr (2, chg1)), (ch2, .inr (2, chg2)), (ch3, .inr (2, chg3)), (oA, .inl (oC, (1, .inr (.inl oF))))] sz) U U.heap)) (va_Qi (fun (r : Int32) (_ : Unit) => r = 1) (fun _ t => va_P (dC, dI) CL [(oA, .inl (oC, (1, .inr (.inl oF))))] t.heap ∧ va_K (dC, dI) CL [(oC, .long)] t ∧ va_D (va_A [(x, .inr (12, xg)), (chA, .inl (chC, (4, .inr (.inr (.inr (.inr chF)))))), (ch0, .inr (2, chg0)), (ch1, .inr (2, chg1)), (ch2, .inr (2, chg2)), (ch3, .inr (2, chg3)), (oA, .inl (oC, (1, .inr (.inl oF))))] sz) [(oA, .inl (oC, (1, .inr (.inl oF))))]) (va_A [(x, .inr (12, xg)), (chA, .inl (chC, (4, .inr (.inr (.inr (.inr chF)))))), (ch0, .inr (2, chg0)), (ch1, .inr (2, chg1)), (ch2, .inr (2, chg2)), (ch3, .inr (2, chg3)), (oA, .inl (oC, (1, .inr (.inl oF))))] sz)) 1 6 (va_A [(x, .inr (12, xg)), (chA, .inl (chC, (4, .inr (.inr (.inr (.inr chF)))))), (ch0, .inr (2, chg0)), (ch1, .inr (2, chg1)), (ch2, .inr (2, chg2)), (ch3, .inr (2, chg3)), (oA, .inl (oC, (1, .inr (.inl oF))))] sz) := by
  refine va_MetW (hh := [(0, 19, 22, 32), (0, 19, 26, 105)]) (cc := cL_fails) (maxL := 6) (ret := (some .int)) (by decide) rfl ?_
  intro p e s m args below meth c s₁ B hml hv
  obtain ⟨rfl, hsz, hP, hK, hD0, hth⟩ := hv
  have hx := B.exec
  have hb := B.bytes
  have hr := B.returns
  have hts : ∀ w ∈ BG, w.before _ s = true := fun w h => atoms_spec (ws := Cond.codeWith yL_fails cL_fails 6 (some .int) [(0, 19, 22, 32), (0, 19, 26, 105)] :: BG) B.pre w (List.mem_cons_of_mem _ h)
  have hown : s.vm.findClass RL = some m.cls := findClass_of_methodNamed B.named
  have hlocks := B.notSynchronized
  subst hsz
  have hD := hD0.self (sz := s.heap.size)
  generalize hAe : va_A [(x, .inr (12, xg)), (chA, .inl (chC, (4, .inr (.inr (.inr (.inr chF)))))), (ch0, .inr (2, chg0)), (ch1, .inr (2, chg1)), (ch2, .inr (2, chg2)), (ch3, .inr (2, chg3)), (oA, .inl (oC, (1, .inr (.inl oF))))] s.heap.size = A at hD hth ⊢
  have hA : ∀ q : Nat, s.heap.size ≤ q → A q := fun q h => by rw [← hAe]; exact Or.inr h
  have hS : va_S A s.heap s.heap [] := va_S.rf
  have hl := lv_entry ([.ref x, .int p0, .int p1, .int p2, .ref oA]) (n := 6) (Nat.le_of_ble_eq_true rfl)
  rw [lg_entry_eq]
  generalize (lg_sl ([.ref x, .int p0, .int p1, .int p2, .ref oA]) ++ List.replicate (6 - (lg_sl ([.ref x, .int p0, .int p1, .int p2, .ref oA])).length) Slot.unset).toArray = ls at hl ⊢
  have hl : lv_has ls 6 [(0, .ref x), (1, .int p0), (2, .int p1), (3, .int p2), (4, .ref oA)] := hl
  have hT : c.exceptionTable.toList = tableOf [(0, 19, 22, 32), (0, 19, 26, 105)] := vx_table (x := yL_fails) B (atoms_spec (ws := Cond.codeWith yL_fails cL_fails 6 (some .int) [(0, 19, 22, 32), (0, 19, 26, 105)] :: BG) B.pre _ List.mem_cons_self)
  have hFc := va_free (wc := [(x, .inr (12, xg)), (chA, .inl (chC, (4, .inr (.inr (.inr (.inr chF)))))), (ch0, .inr (2, chg0)), (ch1, .inr (2, chg1)), (ch2, .inr (2, chg2)), (ch3, .inr (2, chg3))]) hD hS hA [0, 1, 2, 3, 4, 5] rfl
  have hPc := hP.sub (ws' := [(x, .inr (12, xg)), (chA, .inl (chC, (4, .inr (.inr (.inr (.inr chF)))))), (ch0, .inr (2, chg0)), (ch1, .inr (2, chg1)), (ch2, .inr (2, chg2)), (ch3, .inr (2, chg3))]) [0, 1, 2, 3, 4, 5] rfl
  have hDc := hD.sub (ws' := [(x, .inr (12, xg)), (chA, .inl (chC, (4, .inr (.inr (.inr (.inr chF)))))), (ch0, .inr (2, chg0)), (ch1, .inr (2, chg1)), (ch2, .inr (2, chg2)), (ch3, .inr (2, chg3))]) [0, 1, 2, 3, 4, 5] (by decide) rfl
  have hKc := hK.sub (tys' := [(chC, .object "ChipFlow$Chip")]) [0] rfl
  have hK9 := hK.sub (tys' := [(oC, .long)]) [1] rfl
  refine lv_aload hx hb dL_fails_0 (lv_at hl 4 rfl) ?_
  refine lv_iconst (v := 0) hx hb dL_fails_2 (by decide +kernel) ?_
  refine lv_aload_n hx hb dL_fails_3 rfl (lv_at hl 0 rfl) ?_
  refine lv_iload_n hx hb dL_fails_4 rfl (lv_at hl 1 rfl) ?_
  refine lv_iload_n hx hb dL_fails_5 rfl (lv_at hl 2 rfl) ?_
  refine lv_iload_n hx hb dL_fails_6 rfl (lv_at hl 3 rfl) ?_
  refine vq_thr (vx_runV (As := [.int p0, .int p1, .int p2]) (rest := [.int 0, .ref oA]) ⟨hx, hb, hml, hown, hts⟩ (ct_X12_fails l hlt dC dI s.heap.size p0 p1 p2 x xg chA chC chF ch0 ch1 ch2 ch3 chg0 chg1 chg2 chg3 hchg0 hchF0 hchg1 hchF1 hchg2 hchF2 hchg3 hchF3 hxg) (cwV 3 hts (gi_V wd_2985 wd_2986 wd_2987 wd_327 wd_2988) rfl rfl rfl (by decide +kernel) ⟨(Nat.le_of_ble_eq_true rfl), (Nat.le_of_ble_eq_true rfl)⟩) ⟨fun a U g mk q => by obtain ⟨q0, q1, qP, qK, qD, qT⟩ := q; exact ⟨q0, q1, qP, va_K.moved (u := U) (U := U.calling g mk a) (Vm.Alike.refl U.vm) qK, qD, th.moved (u := U) (U := U.calling g mk a) (Vm.Alike.refl U.vm) qT⟩, va_recv hKc hPc (ci := 12) (q0 := 0) rfl rfl, fun U hU hW => ⟨rfl, by rw [hU], by rw [hU]; exact hPc, va_K.moved hW.alike hKc, hDc.weaken (fun _ _ _ _ => trivial), by rw [hU]; exact (hth.narrow hFc).moved hW.alike⟩⟩ rfl rfl hl.1 rfl (lv_room (Nat.le_of_ble_eq_true rfl)) dL_fails_7 ⟨(Nat.le_of_ble_eq_true rfl), (Nat.le_of_ble_eq_true rfl)⟩) (fun _ _ _ h => h) hS hFc (fun q _ h => hFc q h) (fun E ce q9 u t H1 locs ht hvm hp hB hz hk hS hce hcv hcl => ?_)
  subst hB
  obtain ⟨hP, hD⟩ := va_join (wr := [(oA, .inl (oC, (1, .inr (.inl oF))))]) (w1 := []) hP hD [0, 1, 2, 3, 4, 5] [6] rfl rfl (by decide) (by decide) hk hFc po_nilP po_nilD
  have hP : va_P (dC, dI) CL [(oA, .inl (oC, (1, .inr (.inl oF))))] H1 := hP
  have hD : va_D A [(oA, .inl (oC, (1, .inr (.inl oF))))] := hD
  refine vx_catch (own := RL) (name := "java/lang/IndexOutOfBoundsException") hown [] { startPc := 0, endPc := 19, handlerPc := 22, catchType := 32 } [{ startPc := 0, endPc := 19, handlerPc := 26, catchType := 105 }] (by rw [hT]; rfl) (fun _ h => nomatch h) (by decide) (by decide) (hts (.classLink RL 32 "java/lang/IndexOutOfBoundsException") wd_1804) (hth.cast (by decide)) hce hcv hcl ?_
  refine lv_astore (lv' := [(5, .ref q9), (0, .ref x), (1, .int p0), (2, .int p1), (3, .int p2), (4, .ref oA)]) hx hb dL_fails_22 hl (by decide) rfl (fun ls hl => ?_)
  refine lv_iconst (v := 1) hx hb dL_fails_24 (by decide +kernel) ?_
  refine W.widen (k := 1) (n := 6) (Nat.le_of_ble_eq_true rfl) (Nat.le_of_ble_eq_true rfl) ?_
  exact W.iret (v := 1) hx hb hr (fun t ht hW => ⟨⟨1, (), rfl, rfl, by rw [ht]; exact hP, va_K.moved hW.alike hK9, hD⟩, hS.F ht⟩) hS.2.2 dL_fails_25
set_option maxHeartbeats 4000000 in
set_option maxRecDepth 100000 in
theorem ct_L_suspect (l : Launch) (hlt : l.stackTraces = false) (dC : Nat → ClassId) (dI : Nat → Nat → Nat) (sz : Nat) (p0 p1 : Int32) (x : Nat) (xg : List Value) (chA : Nat) (chC : ClassId) (chF : Nat → Option Nat) (ch0 ch1 ch2 ch3 : Nat) (chg0 chg1 chg2 chg3 : List Value) (hchg0 : fx chg0 20 [(0, .int 0)]) (hchF0 : chF 0 = some ch0) (hchg1 : fx chg1 20 [(0, .int 0)]) (hchF1 : chF 1 = some ch1) (hchg2 : fx chg2 20 [(0, .int 0)]) (hchF2 : chF 2 = some ch2) (hchg3 : fx chg3 20 [(0, .int 0)]) (hchF3 : chF 3 = some ch3) (oA : Nat) (oC : ClassId) (oF : Nat → Int64) (hxg : fx xg 17 [(9, .ref chA)]) : Met l yL_suspect (Cond.codeWith yL_suspect cL_suspect 5 (some .int) [(0, 10, 13, 32), (0, 10, 17, 105)] :: BG) ({ frames := 9, cells := 1, slots := 6, locals := 200 }) (va_Pc [.ref x, .int p0, .int p1, .ref oA] (fun U => U.heap.size = sz ∧ va_P (dC, dI) CL [(x, .inr (12, xg)), (chA, .inl (chC, (4, .inr (.inr (.inr (.inr chF)))))), (ch0, .inr (2, chg0)), (ch1, .inr (2, chg1)), (ch2, .inr (2, chg2)), (ch3, .inr (2, chg3)), (oA, .inl (oC, (1, .inr (.inl oF))))] U.heap ∧ va_K (dC, dI) CL [(chC, .object "ChipFlow$Chip"), (oC, .long)] U ∧ va_D (fun _ => True) [(x, .inr (12, xg)), (chA, .inl (chC, (4, .inr (.inr (.inr (.inr chF)))))), (ch0, .inr (2, chg0)), (ch1, .inr (2, chg1)), (ch2, .inr (2, chg2)), (ch3, .inr (2, chg3)), (oA, .inl (oC, (1, .inr (.inl oF))))] ∧ th (va_A [(x, .inr (12, xg)), (chA, .inl (chC, (4, .inr (.inr (.inr (.inr chF)))))), (ch0, .inr (2, chg0)), (ch1, .inr (2, chg1)), (ch2, .inr (2, chg2)), (ch3, .inr (2, chg3)), (oA, .inl (oC, (1, .inr (.inl oF))))] sz) U U.heap)) (va_Qi (fun (r : Int32) (_ : Unit) => r = 1) (fun _ t => va_P (dC, dI) CL [(oA, .inl (oC, (1, .inr (.inl oF))))] t.heap ∧ va_K (dC, dI) CL [(oC, .long)] t ∧ va_D (va_A [(x, .inr (12, xg)), (chA, .inl (chC, (4, .inr (.inr (.inr (.inr chF)))))), (ch0, .inr (2, chg0)), (ch1, .inr (2, chg1)), (ch2, .inr (2, chg2)), (ch3, .inr (2, chg3)), (oA, .inl (oC, (1, .inr (.inl oF))))] sz) [(oA, .inl (oC, (1, .inr (.inl oF))))]) (va_A [(x, .inr (12, xg)), (chA, .inl (chC, (4, .inr (.inr (.inr (.inr chF)))))), (ch0, .inr (2, chg0)), (ch1, .inr (2, chg1)), (ch2, .inr (2, chg2)), (ch3, .inr (2, chg3)), (oA, .inl (oC, (1, .inr (.inl oF))))] sz)) 1 6 (va_A [(x, .inr (12, xg)), (chA, .inl (chC, (4, .inr (.inr (.inr (.inr chF)))))), (ch0, .inr (2, chg0)), (ch1, .inr (2, chg1)), (ch2, .inr (2, chg2)), (ch3, .inr (2, chg3)), (oA, .inl (oC, (1, .inr (.inl oF))))] sz) := by
  refine va_MetW (hh := [(0, 10, 13, 32), (0, 10, 17, 105)]) (cc := cL_suspect) (maxL := 5) (ret := (some .int)) (by decide) rfl ?_
  intro p e s m args below meth c s₁ B hml hv
  obtain ⟨rfl, hsz, hP, hK, hD0, hth⟩ := hv
  have hx := B.exec
  have hb := B.bytes
  have hr := B.returns
  have hts : ∀ w ∈ BG, w.before _ s = true := fun w h => atoms_spec (ws := Cond.codeWith yL_suspect cL_suspect 5 (some .int) [(0, 10, 13, 32), (0, 10, 17, 105)] :: BG) B.pre w (List.mem_cons_of_mem _ h)
  have hown : s.vm.findClass RL = some m.cls := findClass_of_methodNamed B.named
  have hlocks := B.notSynchronized
  subst hsz
  have hD := hD0.self (sz := s.heap.size)
  generalize hAe : va_A [(x, .inr (12, xg)), (chA, .inl (chC, (4, .inr (.inr (.inr (.inr chF)))))), (ch0, .inr (2, chg0)), (ch1, .inr (2, chg1)), (ch2, .inr (2, chg2)), (ch3, .inr (2, chg3)), (oA, .inl (oC, (1, .inr (.inl oF))))] s.heap.size = A at hD hth ⊢
  have hA : ∀ q : Nat, s.heap.size ≤ q → A q := fun q h => by rw [← hAe]; exact Or.inr h
  have hS : va_S A s.heap s.heap [] := va_S.rf
  have hl := lv_entry ([.ref x, .int p0, .int p1, .ref oA]) (n := 5) (Nat.le_of_ble_eq_true rfl)
  rw [lg_entry_eq]
  generalize (lg_sl ([.ref x, .int p0, .int p1, .ref oA]) ++ List.replicate (5 - (lg_sl ([.ref x, .int p0, .int p1, .ref oA])).length) Slot.unset).toArray = ls at hl ⊢
  have hl : lv_has ls 5 [(0, .ref x), (1, .int p0), (2, .int p1), (3, .ref oA)] := hl
  have hT : c.exceptionTable.toList = tableOf [(0, 10, 13, 32), (0, 10, 17, 105)] := vx_table (x := yL_suspect) B (atoms_spec (ws := Cond.codeWith yL_suspect cL_suspect 5 (some .int) [(0, 10, 13, 32), (0, 10, 17, 105)] :: BG) B.pre _ List.mem_cons_self)
  have hFc := va_free (wc := [(x, .inr (12, xg)), (chA, .inl (chC, (4, .inr (.inr (.inr (.inr chF)))))), (ch0, .inr (2, chg0)), (ch1, .inr (2, chg1)), (ch2, .inr (2, chg2)), (ch3, .inr (2, chg3))]) hD hS hA [0, 1, 2, 3, 4, 5] rfl
  have hPc := hP.sub (ws' := [(x, .inr (12, xg)), (chA, .inl (chC, (4, .inr (.inr (.inr (.inr chF)))))), (ch0, .inr (2, chg0)), (ch1, .inr (2, chg1)), (ch2, .inr (2, chg2)), (ch3, .inr (2, chg3))]) [0, 1, 2, 3, 4, 5] rfl
  have hDc := hD.sub (ws' := [(x, .inr (12, xg)), (chA, .inl (chC, (4, .inr (.inr (.inr (.inr chF)))))), (ch0, .inr (2, chg0)), (ch1, .inr (2, chg1)), (ch2, .inr (2, chg2)), (ch3, .inr (2, chg3))]) [0, 1, 2, 3, 4, 5] (by decide) rfl
  have hKc := hK.sub (tys' := [(chC, .object "ChipFlow$Chip")]) [0] rfl
  have hK9 := hK.sub (tys' := [(oC, .long)]) [1] rfl
  refine lv_aload_n hx hb dL_suspect_0 rfl (lv_at hl 3 rfl) ?_
  refine lv_iconst (v := 0) hx hb dL_suspect_1 (by decide +kernel) ?_
  refine lv_aload_n hx hb dL_suspect_2 rfl (lv_at hl 0 rfl) ?_
  refine lv_iload_n hx hb dL_suspect_3 rfl (lv_at hl 1 rfl) ?_
  refine lv_iload_n hx hb dL_suspect_4 rfl (lv_at hl 2 rfl) ?_
  refine vq_thr (vx_runV (As := [.int p0, .int p1]) (rest := [.int 0, .ref oA]) ⟨hx, hb, hml, hown, hts⟩ (ct_X12_suspect l hlt dC dI s.heap.size p0 p1 x xg chA chC chF ch0 ch1 ch2 ch3 chg0 chg1 chg2 chg3 hchg0 hchF0 hchg1 hchF1 hchg2 hchF2 hchg3 hchF3 hxg) (cwV 2 hts (gi_V wd_2992 wd_2993 wd_2994 wd_327 wd_2995) rfl rfl rfl (by decide +kernel) ⟨(Nat.le_of_ble_eq_true rfl), (Nat.le_of_ble_eq_true rfl)⟩) ⟨fun a U g mk q => by obtain ⟨q0, q1, qP, qK, qD, qT⟩ := q; exact ⟨q0, q1, qP, va_K.moved (u := U) (U := U.calling g mk a) (Vm.Alike.refl U.vm) qK, qD, th.moved (u := U) (U := U.calling g mk a) (Vm.Alike.refl U.vm) qT⟩, va_recv hKc hPc (ci := 12) (q0 := 0) rfl rfl, fun U hU hW => ⟨rfl, by rw [hU], by rw [hU]; exact hPc, va_K.moved hW.alike hKc, hDc.weaken (fun _ _ _ _ => trivial), by rw [hU]; exact (hth.narrow hFc).moved hW.alike⟩⟩ rfl rfl hl.1 rfl (lv_room (Nat.le_of_ble_eq_true rfl)) dL_suspect_5 ⟨(Nat.le_of_ble_eq_true rfl), (Nat.le_of_ble_eq_true rfl)⟩) (fun _ _ _ h => h) hS hFc (fun q _ h => hFc q h) (fun E ce q9 u t H1 locs ht hvm hp hB hz hk hS hce hcv hcl => ?_)
  subst hB
  obtain ⟨hP, hD⟩ := va_join (wr := [(oA, .inl (oC, (1, .inr (.inl oF))))]) (w1 := []) hP hD [0, 1, 2, 3, 4, 5] [6] rfl rfl (by decide) (by decide) hk hFc po_nilP po_nilD
  have hP : va_P (dC, dI) CL [(oA, .inl (oC, (1, .inr (.inl oF))))] H1 := hP
  have hD : va_D A [(oA, .inl (oC, (1, .inr (.inl oF))))] := hD
  refine vx_catch (own := RL) (name := "java/lang/IndexOutOfBoundsException") hown [] { startPc := 0, endPc := 10, handlerPc := 13, catchType := 32 } [{ startPc := 0, endPc := 10, handlerPc := 17, catchType := 105 }] (by rw [hT]; rfl) (fun _ h => nomatch h) (by decide) (by decide) (hts (.classLink RL 32 "java/lang/IndexOutOfBoundsException") wd_1804) (hth.cast (by decide)) hce hcv hcl ?_
  refine lv_astore (lv' := [(4, .ref q9), (0, .ref x), (1, .int p0), (2, .int p1), (3, .ref oA)]) hx hb dL_suspect_13 hl (by decide) rfl (fun ls hl => ?_)
  refine lv_iconst (v := 1) hx hb dL_suspect_15 (by decide +kernel) ?_
  refine W.widen (k := 1) (n := 6) (Nat.le_of_ble_eq_true rfl) (Nat.le_of_ble_eq_true rfl) ?_
  exact W.iret (v := 1) hx hb hr (fun t ht hW => ⟨⟨1, (), rfl, rfl, by rw [ht]; exact hP, va_K.moved hW.alike hK9, hD⟩, hS.F ht⟩) hS.2.2 dL_suspect_16
set_option maxHeartbeats 4000000 in
set_option maxRecDepth 100000 in
theorem ct_L_faults (l : Launch) (hlt : l.stackTraces = false) (dC : Nat → ClassId) (dI : Nat → Nat → Nat) (sz : Nat) (p0 p1 : Int32) (x : Nat) (xg : List Value) (chA : Nat) (chC : ClassId) (chF : Nat → Option Nat) (ch0 ch1 ch2 ch3 : Nat) (chg0 chg1 chg2 chg3 : List Value) (hchg0 : fx chg0 20 [(0, .int 0)]) (hchF0 : chF 0 = some ch0) (hchg1 : fx chg1 20 [(0, .int 0)]) (hchF1 : chF 1 = some ch1) (hchg2 : fx chg2 20 [(0, .int 0)]) (hchF2 : chF 2 = some ch2) (hchg3 : fx chg3 20 [(0, .int 0)]) (hchF3 : chF 3 = some ch3) (oA : Nat) (oC : ClassId) (oF : Nat → Int64) (hxg : fx xg 17 [(9, .ref chA)]) : Met l yL_faults (Cond.codeWith yL_faults cL_faults 5 (some .int) [(0, 10, 13, 32), (0, 10, 17, 19)] :: BG) ({ frames := 9, cells := 1, slots := 6, locals := 200 }) (va_Pc [.ref x, .int p0, .int p1, .ref oA] (fun U => U.heap.size = sz ∧ va_P (dC, dI) CL [(x, .inr (12, xg)), (chA, .inl (chC, (4, .inr (.inr (.inr (.inr chF)))))), (ch0, .inr (2, chg0)), (ch1, .inr (2, chg1)), (ch2, .inr (2, chg2)), (ch3, .inr (2, chg3)), (oA, .inl (oC, (1, .inr (.inl oF))))] U.heap ∧ va_K (dC, dI) CL [(chC, .object "ChipFlow$Chip"), (oC, .long)] U ∧ va_D (fun _ => True) [(x, .inr (12, xg)), (chA, .inl (chC, (4, .inr (.inr (.inr (.inr chF)))))), (ch0, .inr (2, chg0)), (ch1, .inr (2, chg1)), (ch2, .inr (2, chg2)), (ch3, .inr (2, chg3)), (oA, .inl (oC, (1, .inr (.inl oF))))] ∧ th (va_A [(x, .inr (12, xg)), (chA, .inl (chC, (4, .inr (.inr (.inr (.inr chF)))))), (ch0, .inr (2, chg0)), (ch1, .inr (2, chg1)), (ch2, .inr (2, chg2)), (ch3, .inr (2, chg3)), (oA, .inl (oC, (1, .inr (.inl oF))))] sz) U U.heap)) (va_Qi (fun (r : Int32) (_ : Unit) => r = 1) (fun _ t => va_P (dC, dI) CL [(oA, .inl (oC, (1, .inr (.inl oF))))] t.heap ∧ va_K (dC, dI) CL [(oC, .long)] t ∧ va_D (va_A [(x, .inr (12, xg)), (chA, .inl (chC, (4, .inr (.inr (.inr (.inr chF)))))), (ch0, .inr (2, chg0)), (ch1, .inr (2, chg1)), (ch2, .inr (2, chg2)), (ch3, .inr (2, chg3)), (oA, .inl (oC, (1, .inr (.inl oF))))] sz) [(oA, .inl (oC, (1, .inr (.inl oF))))]) (va_A [(x, .inr (12, xg)), (chA, .inl (chC, (4, .inr (.inr (.inr (.inr chF)))))), (ch0, .inr (2, chg0)), (ch1, .inr (2, chg1)), (ch2, .inr (2, chg2)), (ch3, .inr (2, chg3)), (oA, .inl (oC, (1, .inr (.inl oF))))] sz)) 1 6 (va_A [(x, .inr (12, xg)), (chA, .inl (chC, (4, .inr (.inr (.inr (.inr chF)))))), (ch0, .inr (2, chg0)), (ch1, .inr (2, chg1)), (ch2, .inr (2, chg2)), (ch3, .inr (2, chg3)), (oA, .inl (oC, (1, .inr (.inl oF))))] sz) := by
  refine va_MetW (hh := [(0, 10, 13, 32), (0, 10, 17, 19)]) (cc := cL_faults) (maxL := 5) (ret := (some .int)) (by decide) rfl ?_
  intro p e s m args below meth c s₁ B hml hv
  obtain ⟨rfl, hsz, hP, hK, hD0, hth⟩ := hv
  have hx := B.exec
  have hb := B.bytes
  have hr := B.returns
  have hts : ∀ w ∈ BG, w.before _ s = true := fun w h => atoms_spec (ws := Cond.codeWith yL_faults cL_faults 5 (some .int) [(0, 10, 13, 32), (0, 10, 17, 19)] :: BG) B.pre w (List.mem_cons_of_mem _ h)
  have hown : s.vm.findClass RL = some m.cls := findClass_of_methodNamed B.named
  have hlocks := B.notSynchronized
  subst hsz
  have hD := hD0.self (sz := s.heap.size)
  generalize hAe : va_A [(x, .inr (12, xg)), (chA, .inl (chC, (4, .inr (.inr (.inr (.inr chF)))))), (ch0, .inr (2, chg0)), (ch1, .inr (2, chg1)), (ch2, .inr (2, chg2)), (ch3, .inr (2, chg3)), (oA, .inl (oC, (1, .inr (.inl oF))))] s.heap.size = A at hD hth ⊢
  have hA : ∀ q : Nat, s.heap.size ≤ q → A q := fun q h => by rw [← hAe]; exact Or.inr h
  have hS : va_S A s.heap s.heap [] := va_S.rf
  have hl := lv_entry ([.ref x, .int p0, .int p1, .ref oA]) (n := 5) (Nat.le_of_ble_eq_true rfl)
  rw [lg_entry_eq]
  generalize (lg_sl ([.ref x, .int p0, .int p1, .ref oA]) ++ List.replicate (5 - (lg_sl ([.ref x, .int p0, .int p1, .ref oA])).length) Slot.unset).toArray = ls at hl ⊢
  have hl : lv_has ls 5 [(0, .ref x), (1, .int p0), (2, .int p1), (3, .ref oA)] := hl
  have hT : c.exceptionTable.toList = tableOf [(0, 10, 13, 32), (0, 10, 17, 19)] := vx_table (x := yL_faults) B (atoms_spec (ws := Cond.codeWith yL_faults cL_faults 5 (some .int) [(0, 10, 13, 32), (0, 10, 17, 19)] :: BG) B.pre _ List.mem_cons_self)
  have hFc := va_free (wc := [(x, .inr (12, xg)), (chA, .inl (chC, (4, .inr (.inr (.inr (.inr chF)))))), (ch0, .inr (2, chg0)), (ch1, .inr (2, chg1)), (ch2, .inr (2, chg2)), (ch3, .inr (2, chg3))]) hD hS hA [0, 1, 2, 3, 4, 5] rfl
  have hPc := hP.sub (ws' := [(x, .inr (12, xg)), (chA, .inl (chC, (4, .inr (.inr (.inr (.inr chF)))))), (ch0, .inr (2, chg0)), (ch1, .inr (2, chg1)), (ch2, .inr (2, chg2)), (ch3, .inr (2, chg3))]) [0, 1, 2, 3, 4, 5] rfl
  have hDc := hD.sub (ws' := [(x, .inr (12, xg)), (chA, .inl (chC, (4, .inr (.inr (.inr (.inr chF)))))), (ch0, .inr (2, chg0)), (ch1, .inr (2, chg1)), (ch2, .inr (2, chg2)), (ch3, .inr (2, chg3))]) [0, 1, 2, 3, 4, 5] (by decide) rfl
  have hKc := hK.sub (tys' := [(chC, .object "ChipFlow$Chip")]) [0] rfl
  have hK9 := hK.sub (tys' := [(oC, .long)]) [1] rfl
  refine lv_aload_n hx hb dL_faults_0 rfl (lv_at hl 3 rfl) ?_
  refine lv_iconst (v := 0) hx hb dL_faults_1 (by decide +kernel) ?_
  refine lv_aload_n hx hb dL_faults_2 rfl (lv_at hl 0 rfl) ?_
  refine lv_iload_n hx hb dL_faults_3 rfl (lv_at hl 1 rfl) ?_
  refine lv_iload_n hx hb dL_faults_4 rfl (lv_at hl 2 rfl) ?_
  refine vq_thr (vx_runV (As := [.int p0, .int p1]) (rest := [.int 0, .ref oA]) ⟨hx, hb, hml, hown, hts⟩ (ct_X12_faults l hlt dC dI s.heap.size p0 p1 x xg chA chC chF ch0 ch1 ch2 ch3 chg0 chg1 chg2 chg3 hchg0 hchF0 hchg1 hchF1 hchg2 hchF2 hchg3 hchF3 hxg) (cwV 2 hts (gi_V wd_3003 wd_3004 wd_3005 wd_327 wd_3006) rfl rfl rfl (by decide +kernel) ⟨(Nat.le_of_ble_eq_true rfl), (Nat.le_of_ble_eq_true rfl)⟩) ⟨fun a U g mk q => by obtain ⟨q0, q1, qP, qK, qD, qT⟩ := q; exact ⟨q0, q1, qP, va_K.moved (u := U) (U := U.calling g mk a) (Vm.Alike.refl U.vm) qK, qD, th.moved (u := U) (U := U.calling g mk a) (Vm.Alike.refl U.vm) qT⟩, va_recv hKc hPc (ci := 12) (q0 := 0) rfl rfl, fun U hU hW => ⟨rfl, by rw [hU], by rw [hU]; exact hPc, va_K.moved hW.alike hKc, hDc.weaken (fun _ _ _ _ => trivial), by rw [hU]; exact (hth.narrow hFc).moved hW.alike⟩⟩ rfl rfl hl.1 rfl (lv_room (Nat.le_of_ble_eq_true rfl)) dL_faults_5 ⟨(Nat.le_of_ble_eq_true rfl), (Nat.le_of_ble_eq_true rfl)⟩) (fun _ _ _ h => h) hS hFc (fun q _ h => hFc q h) (fun E ce q9 u t H1 locs ht hvm hp hB hz hk hS hce hcv hcl => ?_)
  subst hB
  obtain ⟨hP, hD⟩ := va_join (wr := [(oA, .inl (oC, (1, .inr (.inl oF))))]) (w1 := []) hP hD [0, 1, 2, 3, 4, 5] [6] rfl rfl (by decide) (by decide) hk hFc po_nilP po_nilD
  have hP : va_P (dC, dI) CL [(oA, .inl (oC, (1, .inr (.inl oF))))] H1 := hP
  have hD : va_D A [(oA, .inl (oC, (1, .inr (.inl oF))))] := hD
  refine vx_catch (own := RL) (name := "java/lang/IndexOutOfBoundsException") hown [] { startPc := 0, endPc := 10, handlerPc := 13, catchType := 32 } [{ startPc := 0, endPc := 10, handlerPc := 17, catchType := 19 }] (by rw [hT]; rfl) (fun _ h => nomatch h) (by decide) (by decide) (hts (.classLink RL 32 "java/lang/IndexOutOfBoundsException") wd_1804) (hth.cast (by decide)) hce hcv hcl ?_
  refine lv_astore (lv' := [(4, .ref q9), (0, .ref x), (1, .int p0), (2, .int p1), (3, .ref oA)]) hx hb dL_faults_13 hl (by decide) rfl (fun ls hl => ?_)
  refine lv_iconst (v := 1) hx hb dL_faults_15 (by decide +kernel) ?_
  refine W.widen (k := 1) (n := 6) (Nat.le_of_ble_eq_true rfl) (Nat.le_of_ble_eq_true rfl) ?_
  exact W.iret (v := 1) hx hb hr (fun t ht hW => ⟨⟨1, (), rfl, rfl, by rw [ht]; exact hP, va_K.moved hW.alike hK9, hD⟩, hS.F ht⟩) hS.2.2 dL_faults_16
