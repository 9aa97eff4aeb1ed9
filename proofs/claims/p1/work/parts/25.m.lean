abbrev cX13_isDesign : ByteArray := prog_15_method_94_code
def yX13_isDesign : MethodName := ⟨RX13, "isDesign", "(I)Z"⟩
theorem dX13_isDesign_0 : decode cX13_isDesign 0 = .ok (.iload_n 1, 1) := by decide +kernel
theorem dX13_isDesign_1 : decode cX13_isDesign 1 = .ok (.ifCond .lt 22, 3) := by decide +kernel
theorem dX13_isDesign_4 : decode cX13_isDesign 4 = .ok (.iload_n 1, 1) := by decide +kernel
theorem dX13_isDesign_5 : decode cX13_isDesign 5 = .ok (.bipush 6, 2) := by decide +kernel
theorem dX13_isDesign_7 : decode cX13_isDesign 7 = .ok (.if_icmp .ge 16, 3) := by decide +kernel
theorem dX13_isDesign_10 : decode cX13_isDesign 10 = .ok (.aload_n 0, 1) := by decide +kernel
theorem dX13_isDesign_11 : decode cX13_isDesign 11 = .ok (.getfield 125, 3) := by decide +kernel
theorem dX13_isDesign_14 : decode cX13_isDesign 14 = .ok (.iload_n 1, 1) := by decide +kernel
theorem dX13_isDesign_15 : decode cX13_isDesign 15 = .ok (.baload, 1) := by decide +kernel
theorem dX13_isDesign_16 : decode cX13_isDesign 16 = .ok (.ifCond .eq 7, 3) := by decide +kernel
theorem dX13_isDesign_19 : decode cX13_isDesign 19 = .ok (.iconst 1, 1) := by decide +kernel
theorem dX13_isDesign_20 : decode cX13_isDesign 20 = .ok (.goto 4, 3) := by decide +kernel
theorem dX13_isDesign_23 : decode cX13_isDesign 23 = .ok (.iconst 0, 1) := by decide +kernel
theorem dX13_isDesign_24 : decode cX13_isDesign 24 = .ok (.ireturn, 1) := by decide +kernel
abbrev cX13_isLibrary : ByteArray := prog_15_method_95_code
def yX13_isLibrary : MethodName := ⟨RX13, "isLibrary", "(I)Z"⟩
theorem dX13_isLibrary_0 : decode cX13_isLibrary 0 = .ok (.iload_n 1, 1) := by decide +kernel
theorem dX13_isLibrary_1 : decode cX13_isLibrary 1 = .ok (.ifCond .lt 21, 3) := by decide +kernel
theorem dX13_isLibrary_4 : decode cX13_isLibrary 4 = .ok (.iload_n 1, 1) := by decide +kernel
theorem dX13_isLibrary_5 : decode cX13_isLibrary 5 = .ok (.iconst 3, 1) := by decide +kernel
theorem dX13_isLibrary_6 : decode cX13_isLibrary 6 = .ok (.if_icmp .ge 16, 3) := by decide +kernel
theorem dX13_isLibrary_9 : decode cX13_isLibrary 9 = .ok (.aload_n 0, 1) := by decide +kernel
theorem dX13_isLibrary_10 : decode cX13_isLibrary 10 = .ok (.getfield 216, 3) := by decide +kernel
theorem dX13_isLibrary_13 : decode cX13_isLibrary 13 = .ok (.iload_n 1, 1) := by decide +kernel
theorem dX13_isLibrary_14 : decode cX13_isLibrary 14 = .ok (.baload, 1) := by decide +kernel
theorem dX13_isLibrary_15 : decode cX13_isLibrary 15 = .ok (.ifCond .eq 7, 3) := by decide +kernel
theorem dX13_isLibrary_18 : decode cX13_isLibrary 18 = .ok (.iconst 1, 1) := by decide +kernel
theorem dX13_isLibrary_19 : decode cX13_isLibrary 19 = .ok (.goto 4, 3) := by decide +kernel
theorem dX13_isLibrary_22 : decode cX13_isLibrary 22 = .ok (.iconst 0, 1) := by decide +kernel
theorem dX13_isLibrary_23 : decode cX13_isLibrary 23 = .ok (.ireturn, 1) := by decide +kernel
abbrev cX13_isChip : ByteArray := prog_15_method_96_code
def yX13_isChip : MethodName := ⟨RX13, "isChip", "(I)Z"⟩
theorem dX13_isChip_0 : decode cX13_isChip 0 = .ok (.iload_n 1, 1) := by decide +kernel
theorem dX13_isChip_1 : decode cX13_isChip 1 = .ok (.ifCond .lt 21, 3) := by decide +kernel
theorem dX13_isChip_4 : decode cX13_isChip 4 = .ok (.iload_n 1, 1) := by decide +kernel
theorem dX13_isChip_5 : decode cX13_isChip 5 = .ok (.iconst 4, 1) := by decide +kernel
theorem dX13_isChip_6 : decode cX13_isChip 6 = .ok (.if_icmp .ge 16, 3) := by decide +kernel
theorem dX13_isChip_9 : decode cX13_isChip 9 = .ok (.aload_n 0, 1) := by decide +kernel
theorem dX13_isChip_10 : decode cX13_isChip 10 = .ok (.getfield 333, 3) := by decide +kernel
theorem dX13_isChip_13 : decode cX13_isChip 13 = .ok (.iload_n 1, 1) := by decide +kernel
theorem dX13_isChip_14 : decode cX13_isChip 14 = .ok (.baload, 1) := by decide +kernel
theorem dX13_isChip_15 : decode cX13_isChip 15 = .ok (.ifCond .eq 7, 3) := by decide +kernel
theorem dX13_isChip_18 : decode cX13_isChip 18 = .ok (.iconst 1, 1) := by decide +kernel
theorem dX13_isChip_19 : decode cX13_isChip 19 = .ok (.goto 4, 3) := by decide +kernel
theorem dX13_isChip_22 : decode cX13_isChip 22 = .ok (.iconst 0, 1) := by decide +kernel
theorem dX13_isChip_23 : decode cX13_isChip 23 = .ok (.ireturn, 1) := by decide +kernel
abbrev cX13_isNet : ByteArray := prog_15_method_175_code
def yX13_isNet : MethodName := ⟨RX13, "isNet", "(II)Z"⟩
theorem dX13_isNet_0 : decode cX13_isNet 0 = .ok (.aload_n 0, 1) := by decide +kernel
theorem dX13_isNet_1 : decode cX13_isNet 1 = .ok (.iload_n 1, 1) := by decide +kernel
theorem dX13_isNet_2 : decode cX13_isNet 2 = .ok (.invokevirtual 909, 3) := by decide +kernel
theorem dX13_isNet_5 : decode cX13_isNet 5 = .ok (.ifCond .eq 20, 3) := by decide +kernel
theorem dX13_isNet_25 : decode cX13_isNet 25 = .ok (.iconst 0, 1) := by decide +kernel
theorem dX13_isNet_26 : decode cX13_isNet 26 = .ok (.ireturn, 1) := by decide +kernel
abbrev cX13_isElement : ByteArray := prog_15_method_170_code
def yX13_isElement : MethodName := ⟨RX13, "isElement", "(II)Z"⟩
theorem dX13_isElement_0 : decode cX13_isElement 0 = .ok (.aload_n 0, 1) := by decide +kernel
theorem dX13_isElement_1 : decode cX13_isElement 1 = .ok (.iload_n 1, 1) := by decide +kernel
theorem dX13_isElement_2 : decode cX13_isElement 2 = .ok (.invokevirtual 909, 3) := by decide +kernel
theorem dX13_isElement_5 : decode cX13_isElement 5 = .ok (.ifCond .eq 20, 3) := by decide +kernel
theorem dX13_isElement_25 : decode cX13_isElement 25 = .ok (.iconst 0, 1) := by decide +kernel
theorem dX13_isElement_26 : decode cX13_isElement 26 = .ok (.ireturn, 1) := by decide +kernel
abbrev cX13_patternCode : ByteArray := prog_15_method_254_code
def yX13_patternCode : MethodName := ⟨RX13, "patternCode", "(II)I"⟩
theorem dX13_patternCode_0 : decode cX13_patternCode 0 = .ok (.aload_n 0, 1) := by decide +kernel
theorem dX13_patternCode_1 : decode cX13_patternCode 1 = .ok (.iload_n 1, 1) := by decide +kernel
theorem dX13_patternCode_2 : decode cX13_patternCode 2 = .ok (.invokevirtual 909, 3) := by decide +kernel
theorem dX13_patternCode_5 : decode cX13_patternCode 5 = .ok (.ifCond .eq 7, 3) := by decide +kernel
theorem dX13_patternCode_12 : decode cX13_patternCode 12 = .ok (.iconst 1, 1) := by decide +kernel
theorem dX13_patternCode_13 : decode cX13_patternCode 13 = .ok (.goto 32, 3) := by decide +kernel
theorem dX13_patternCode_45 : decode cX13_patternCode 45 = .ok (.ireturn, 1) := by decide +kernel
abbrev cX13_graph : ByteArray := prog_15_method_100_code
def yX13_graph : MethodName := ⟨RX13, "graph", "(II)I"⟩
theorem dX13_graph_0 : decode cX13_graph 0 = .ok (.aload_n 0, 1) := by decide +kernel
theorem dX13_graph_1 : decode cX13_graph 1 = .ok (.aload_n 0, 1) := by decide +kernel
theorem dX13_graph_2 : decode cX13_graph 2 = .ok (.iload_n 1, 1) := by decide +kernel
theorem dX13_graph_3 : decode cX13_graph 3 = .ok (.invokevirtual 903, 3) := by decide +kernel
theorem dX13_graph_6 : decode cX13_graph 6 = .ok (.ifCond .ne 7, 3) := by decide +kernel
theorem dX13_graph_9 : decode cX13_graph 9 = .ok (.iconst 1, 1) := by decide +kernel
theorem dX13_graph_10 : decode cX13_graph 10 = .ok (.goto 18, 3) := by decide +kernel
theorem dX13_graph_28 : decode cX13_graph 28 = .ok (.putfield 1, 3) := by decide +kernel
theorem dX13_graph_31 : decode cX13_graph 31 = .ok (.aload_n 0, 1) := by decide +kernel
theorem dX13_graph_32 : decode cX13_graph 32 = .ok (.getfield 1, 3) := by decide +kernel
theorem dX13_graph_35 : decode cX13_graph 35 = .ok (.ifCond .le 5, 3) := by decide +kernel
theorem dX13_graph_38 : decode cX13_graph 38 = .ok (.iconst 0, 1) := by decide +kernel
theorem dX13_graph_39 : decode cX13_graph 39 = .ok (.ireturn, 1) := by decide +kernel
abbrev cX13_literal : ByteArray := prog_15_method_101_code
def yX13_literal : MethodName := ⟨RX13, "literal", "(III)I"⟩
theorem dX13_literal_0 : decode cX13_literal 0 = .ok (.aload_n 0, 1) := by decide +kernel
theorem dX13_literal_1 : decode cX13_literal 1 = .ok (.aload_n 0, 1) := by decide +kernel
theorem dX13_literal_2 : decode cX13_literal 2 = .ok (.iload_n 1, 1) := by decide +kernel
theorem dX13_literal_3 : decode cX13_literal 3 = .ok (.invokevirtual 903, 3) := by decide +kernel
theorem dX13_literal_6 : decode cX13_literal 6 = .ok (.ifCond .eq 32, 3) := by decide +kernel
theorem dX13_literal_38 : decode cX13_literal 38 = .ok (.iconst 1, 1) := by decide +kernel
theorem dX13_literal_39 : decode cX13_literal 39 = .ok (.goto 4, 3) := by decide +kernel
theorem dX13_literal_43 : decode cX13_literal 43 = .ok (.putfield 1, 3) := by decide +kernel
theorem dX13_literal_46 : decode cX13_literal 46 = .ok (.aload_n 0, 1) := by decide +kernel
theorem dX13_literal_47 : decode cX13_literal 47 = .ok (.getfield 1, 3) := by decide +kernel
theorem dX13_literal_50 : decode cX13_literal 50 = .ok (.ifCond .le 5, 3) := by decide +kernel
theorem dX13_literal_53 : decode cX13_literal 53 = .ok (.iconst 0, 1) := by decide +kernel
theorem dX13_literal_54 : decode cX13_literal 54 = .ok (.ireturn, 1) := by decide +kernel
abbrev cX13_swept : ByteArray := prog_15_method_102_code
def yX13_swept : MethodName := ⟨RX13, "swept", "(II)I"⟩
theorem dX13_swept_0 : decode cX13_swept 0 = .ok (.aload_n 0, 1) := by decide +kernel
theorem dX13_swept_1 : decode cX13_swept 1 = .ok (.aload_n 0, 1) := by decide +kernel
theorem dX13_swept_2 : decode cX13_swept 2 = .ok (.iload_n 1, 1) := by decide +kernel
theorem dX13_swept_3 : decode cX13_swept 3 = .ok (.invokevirtual 903, 3) := by decide +kernel
theorem dX13_swept_6 : decode cX13_swept 6 = .ok (.ifCond .eq 17, 3) := by decide +kernel
theorem dX13_swept_23 : decode cX13_swept 23 = .ok (.iconst 1, 1) := by decide +kernel
theorem dX13_swept_24 : decode cX13_swept 24 = .ok (.goto 4, 3) := by decide +kernel
theorem dX13_swept_28 : decode cX13_swept 28 = .ok (.putfield 1, 3) := by decide +kernel
theorem dX13_swept_31 : decode cX13_swept 31 = .ok (.aload_n 0, 1) := by decide +kernel
theorem dX13_swept_32 : decode cX13_swept 32 = .ok (.getfield 1, 3) := by decide +kernel
theorem dX13_swept_35 : decode cX13_swept 35 = .ok (.ifCond .le 7, 3) := by decide +kernel
theorem dX13_swept_38 : decode cX13_swept 38 = .ok (.iconst 0, 1) := by decide +kernel
theorem dX13_swept_39 : decode cX13_swept 39 = .ok (.goto 15, 3) := by decide +kernel
theorem dX13_swept_54 : decode cX13_swept 54 = .ok (.ireturn, 1) := by decide +kernel
abbrev cX13_root : ByteArray := prog_15_method_103_code
def yX13_root : MethodName := ⟨RX13, "root", "(IIZ)I"⟩
theorem dX13_root_0 : decode cX13_root 0 = .ok (.aload_n 0, 1) := by decide +kernel
theorem dX13_root_1 : decode cX13_root 1 = .ok (.aload_n 0, 1) := by decide +kernel
theorem dX13_root_2 : decode cX13_root 2 = .ok (.iload_n 1, 1) := by decide +kernel
theorem dX13_root_3 : decode cX13_root 3 = .ok (.invokevirtual 903, 3) := by decide +kernel
theorem dX13_root_6 : decode cX13_root 6 = .ok (.ifCond .eq 30, 3) := by decide +kernel
theorem dX13_root_36 : decode cX13_root 36 = .ok (.iconst 1, 1) := by decide +kernel
theorem dX13_root_37 : decode cX13_root 37 = .ok (.goto 4, 3) := by decide +kernel
theorem dX13_root_41 : decode cX13_root 41 = .ok (.putfield 1, 3) := by decide +kernel
theorem dX13_root_44 : decode cX13_root 44 = .ok (.aload_n 0, 1) := by decide +kernel
theorem dX13_root_45 : decode cX13_root 45 = .ok (.getfield 1, 3) := by decide +kernel
theorem dX13_root_48 : decode cX13_root 48 = .ok (.ifCond .le 5, 3) := by decide +kernel
theorem dX13_root_51 : decode cX13_root 51 = .ok (.iconst 0, 1) := by decide +kernel
theorem dX13_root_52 : decode cX13_root 52 = .ok (.ireturn, 1) := by decide +kernel
abbrev cX13_cell : ByteArray := prog_15_method_105_code
def yX13_cell : MethodName := ⟨RX13, "cell", "(III)I"⟩
theorem dX13_cell_0 : decode cX13_cell 0 = .ok (.aload_n 0, 1) := by decide +kernel
theorem dX13_cell_1 : decode cX13_cell 1 = .ok (.aload_n 0, 1) := by decide +kernel
theorem dX13_cell_2 : decode cX13_cell 2 = .ok (.iload_n 1, 1) := by decide +kernel
theorem dX13_cell_3 : decode cX13_cell 3 = .ok (.invokevirtual 906, 3) := by decide +kernel
theorem dX13_cell_6 : decode cX13_cell 6 = .ok (.ifCond .eq 18, 3) := by decide +kernel
theorem dX13_cell_24 : decode cX13_cell 24 = .ok (.iconst 1, 1) := by decide +kernel
theorem dX13_cell_25 : decode cX13_cell 25 = .ok (.goto 17, 3) := by decide +kernel
theorem dX13_cell_42 : decode cX13_cell 42 = .ok (.putfield 1, 3) := by decide +kernel
theorem dX13_cell_45 : decode cX13_cell 45 = .ok (.aload_n 0, 1) := by decide +kernel
theorem dX13_cell_46 : decode cX13_cell 46 = .ok (.getfield 1, 3) := by decide +kernel
theorem dX13_cell_49 : decode cX13_cell 49 = .ok (.ifCond .le 5, 3) := by decide +kernel
theorem dX13_cell_52 : decode cX13_cell 52 = .ok (.iconst 0, 1) := by decide +kernel
theorem dX13_cell_53 : decode cX13_cell 53 = .ok (.ireturn, 1) := by decide +kernel
abbrev cX13_play : ByteArray := prog_15_method_107_code
def yX13_play : MethodName := ⟨RX13, "play", "(II)I"⟩
theorem dX13_play_0 : decode cX13_play 0 = .ok (.aload_n 0, 1) := by decide +kernel
theorem dX13_play_1 : decode cX13_play 1 = .ok (.aload_n 0, 1) := by decide +kernel
theorem dX13_play_2 : decode cX13_play 2 = .ok (.iload_n 1, 1) := by decide +kernel
theorem dX13_play_3 : decode cX13_play 3 = .ok (.invokevirtual 903, 3) := by decide +kernel
theorem dX13_play_6 : decode cX13_play 6 = .ok (.ifCond .ne 7, 3) := by decide +kernel
theorem dX13_play_9 : decode cX13_play 9 = .ok (.iconst 1, 1) := by decide +kernel
theorem dX13_play_10 : decode cX13_play 10 = .ok (.goto 21, 3) := by decide +kernel
theorem dX13_play_31 : decode cX13_play 31 = .ok (.putfield 1, 3) := by decide +kernel
theorem dX13_play_34 : decode cX13_play 34 = .ok (.aload_n 0, 1) := by decide +kernel
theorem dX13_play_35 : decode cX13_play 35 = .ok (.getfield 1, 3) := by decide +kernel
theorem dX13_play_38 : decode cX13_play 38 = .ok (.ifCond .le 5, 3) := by decide +kernel
theorem dX13_play_41 : decode cX13_play 41 = .ok (.iconst 0, 1) := by decide +kernel
theorem dX13_play_42 : decode cX13_play 42 = .ok (.ireturn, 1) := by decide +kernel
abbrev cX13_state : ByteArray := prog_15_method_108_code
def yX13_state : MethodName := ⟨RX13, "state", "(I)I"⟩
theorem dX13_state_0 : decode cX13_state 0 = .ok (.aload_n 0, 1) := by decide +kernel
theorem dX13_state_1 : decode cX13_state 1 = .ok (.aload_n 0, 1) := by decide +kernel
theorem dX13_state_2 : decode cX13_state 2 = .ok (.iload_n 1, 1) := by decide +kernel
theorem dX13_state_3 : decode cX13_state 3 = .ok (.invokevirtual 903, 3) := by decide +kernel
theorem dX13_state_6 : decode cX13_state 6 = .ok (.ifCond .eq 7, 3) := by decide +kernel
theorem dX13_state_13 : decode cX13_state 13 = .ok (.iconst 1, 1) := by decide +kernel
theorem dX13_state_14 : decode cX13_state 14 = .ok (.putfield 1, 3) := by decide +kernel
theorem dX13_state_17 : decode cX13_state 17 = .ok (.aload_n 0, 1) := by decide +kernel
theorem dX13_state_18 : decode cX13_state 18 = .ok (.getfield 1, 3) := by decide +kernel
theorem dX13_state_21 : decode cX13_state 21 = .ok (.ifCond .le 7, 3) := by decide +kernel
theorem dX13_state_24 : decode cX13_state 24 = .ok (.iconst 0, 1) := by decide +kernel
theorem dX13_state_25 : decode cX13_state 25 = .ok (.goto 9, 3) := by decide +kernel
theorem dX13_state_34 : decode cX13_state 34 = .ok (.ireturn, 1) := by decide +kernel
abbrev cX13_restart : ByteArray := prog_15_method_109_code
def yX13_restart : MethodName := ⟨RX13, "restart", "(I)I"⟩
theorem dX13_restart_0 : decode cX13_restart 0 = .ok (.aload_n 0, 1) := by decide +kernel
theorem dX13_restart_1 : decode cX13_restart 1 = .ok (.aload_n 0, 1) := by decide +kernel
theorem dX13_restart_2 : decode cX13_restart 2 = .ok (.iload_n 1, 1) := by decide +kernel
theorem dX13_restart_3 : decode cX13_restart 3 = .ok (.invokevirtual 903, 3) := by decide +kernel
theorem dX13_restart_6 : decode cX13_restart 6 = .ok (.ifCond .eq 7, 3) := by decide +kernel
theorem dX13_restart_13 : decode cX13_restart 13 = .ok (.iconst 1, 1) := by decide +kernel
theorem dX13_restart_14 : decode cX13_restart 14 = .ok (.putfield 1, 3) := by decide +kernel
theorem dX13_restart_17 : decode cX13_restart 17 = .ok (.aload_n 0, 1) := by decide +kernel
theorem dX13_restart_18 : decode cX13_restart 18 = .ok (.getfield 1, 3) := by decide +kernel
theorem dX13_restart_21 : decode cX13_restart 21 = .ok (.ifCond .le 5, 3) := by decide +kernel
theorem dX13_restart_24 : decode cX13_restart 24 = .ok (.iconst 0, 1) := by decide +kernel
theorem dX13_restart_25 : decode cX13_restart 25 = .ok (.ireturn, 1) := by decide +kernel
abbrev cX13_equal : ByteArray := prog_15_method_114_code
def yX13_equal : MethodName := ⟨RX13, "equal", "(II)I"⟩
theorem dX13_equal_0 : decode cX13_equal 0 = .ok (.aload_n 0, 1) := by decide +kernel
theorem dX13_equal_1 : decode cX13_equal 1 = .ok (.aload_n 0, 1) := by decide +kernel
theorem dX13_equal_2 : decode cX13_equal 2 = .ok (.iload_n 1, 1) := by decide +kernel
theorem dX13_equal_3 : decode cX13_equal 3 = .ok (.invokevirtual 903, 3) := by decide +kernel
theorem dX13_equal_6 : decode cX13_equal 6 = .ok (.ifCond .eq 11, 3) := by decide +kernel
theorem dX13_equal_17 : decode cX13_equal 17 = .ok (.iconst 1, 1) := by decide +kernel
theorem dX13_equal_18 : decode cX13_equal 18 = .ok (.goto 38, 3) := by decide +kernel
theorem dX13_equal_56 : decode cX13_equal 56 = .ok (.putfield 1, 3) := by decide +kernel
theorem dX13_equal_59 : decode cX13_equal 59 = .ok (.aload_n 0, 1) := by decide +kernel
theorem dX13_equal_60 : decode cX13_equal 60 = .ok (.getfield 1, 3) := by decide +kernel
theorem dX13_equal_63 : decode cX13_equal 63 = .ok (.ifCond .le 5, 3) := by decide +kernel
theorem dX13_equal_66 : decode cX13_equal 66 = .ok (.iconst 0, 1) := by decide +kernel
theorem dX13_equal_67 : decode cX13_equal 67 = .ok (.ireturn, 1) := by decide +kernel
abbrev cX13_never : ByteArray := prog_15_method_115_code
def yX13_never : MethodName := ⟨RX13, "never", "(II)I"⟩
theorem dX13_never_0 : decode cX13_never 0 = .ok (.aload_n 0, 1) := by decide +kernel
theorem dX13_never_1 : decode cX13_never 1 = .ok (.aload_n 0, 1) := by decide +kernel
theorem dX13_never_2 : decode cX13_never 2 = .ok (.iload_n 1, 1) := by decide +kernel
theorem dX13_never_3 : decode cX13_never 3 = .ok (.invokevirtual 903, 3) := by decide +kernel
theorem dX13_never_6 : decode cX13_never 6 = .ok (.ifCond .eq 17, 3) := by decide +kernel
theorem dX13_never_23 : decode cX13_never 23 = .ok (.iconst 1, 1) := by decide +kernel
theorem dX13_never_24 : decode cX13_never 24 = .ok (.goto 4, 3) := by decide +kernel
theorem dX13_never_28 : decode cX13_never 28 = .ok (.putfield 1, 3) := by decide +kernel
theorem dX13_never_31 : decode cX13_never 31 = .ok (.aload_n 0, 1) := by decide +kernel
theorem dX13_never_32 : decode cX13_never 32 = .ok (.getfield 1, 3) := by decide +kernel
theorem dX13_never_35 : decode cX13_never 35 = .ok (.ifCond .le 5, 3) := by decide +kernel
theorem dX13_never_38 : decode cX13_never 38 = .ok (.iconst 0, 1) := by decide +kernel
theorem dX13_never_39 : decode cX13_never 39 = .ok (.ireturn, 1) := by decide +kernel
abbrev cX13_chip : ByteArray := prog_15_method_150_code
def yX13_chip : MethodName := ⟨RX13, "chip", "(II)I"⟩
theorem dX13_chip_0 : decode cX13_chip 0 = .ok (.aload_n 0, 1) := by decide +kernel
theorem dX13_chip_1 : decode cX13_chip 1 = .ok (.aload_n 0, 1) := by decide +kernel
theorem dX13_chip_2 : decode cX13_chip 2 = .ok (.iload_n 1, 1) := by decide +kernel
theorem dX13_chip_3 : decode cX13_chip 3 = .ok (.invokevirtual 909, 3) := by decide +kernel
theorem dX13_chip_6 : decode cX13_chip 6 = .ok (.ifCond .ne 7, 3) := by decide +kernel
theorem dX13_chip_9 : decode cX13_chip 9 = .ok (.iconst 1, 1) := by decide +kernel
theorem dX13_chip_10 : decode cX13_chip 10 = .ok (.goto 18, 3) := by decide +kernel
theorem dX13_chip_28 : decode cX13_chip 28 = .ok (.putfield 1, 3) := by decide +kernel
theorem dX13_chip_31 : decode cX13_chip 31 = .ok (.aload_n 0, 1) := by decide +kernel
theorem dX13_chip_32 : decode cX13_chip 32 = .ok (.getfield 1, 3) := by decide +kernel
theorem dX13_chip_35 : decode cX13_chip 35 = .ok (.ifCond .le 5, 3) := by decide +kernel
theorem dX13_chip_38 : decode cX13_chip 38 = .ok (.iconst 0, 1) := by decide +kernel
theorem dX13_chip_39 : decode cX13_chip 39 = .ok (.ireturn, 1) := by decide +kernel
abbrev cX13_gate : ByteArray := prog_15_method_151_code
def yX13_gate : MethodName := ⟨RX13, "gate", "(III)I"⟩
theorem dX13_gate_0 : decode cX13_gate 0 = .ok (.aload_n 0, 1) := by decide +kernel
theorem dX13_gate_1 : decode cX13_gate 1 = .ok (.aload_n 0, 1) := by decide +kernel
theorem dX13_gate_2 : decode cX13_gate 2 = .ok (.iload_n 1, 1) := by decide +kernel
theorem dX13_gate_3 : decode cX13_gate 3 = .ok (.invokevirtual 909, 3) := by decide +kernel
theorem dX13_gate_6 : decode cX13_gate 6 = .ok (.ifCond .eq 17, 3) := by decide +kernel
theorem dX13_gate_23 : decode cX13_gate 23 = .ok (.iconst 1, 1) := by decide +kernel
theorem dX13_gate_24 : decode cX13_gate 24 = .ok (.goto 17, 3) := by decide +kernel
theorem dX13_gate_41 : decode cX13_gate 41 = .ok (.putfield 1, 3) := by decide +kernel
theorem dX13_gate_44 : decode cX13_gate 44 = .ok (.aload_n 0, 1) := by decide +kernel
theorem dX13_gate_45 : decode cX13_gate 45 = .ok (.getfield 1, 3) := by decide +kernel
theorem dX13_gate_48 : decode cX13_gate 48 = .ok (.ifCond .le 5, 3) := by decide +kernel
theorem dX13_gate_51 : decode cX13_gate 51 = .ok (.iconst 0, 1) := by decide +kernel
theorem dX13_gate_52 : decode cX13_gate 52 = .ok (.ireturn, 1) := by decide +kernel
abbrev cX13_netOf : ByteArray := prog_15_method_152_code
def yX13_netOf : MethodName := ⟨RX13, "netOf", "(IIZ)I"⟩
theorem dX13_netOf_0 : decode cX13_netOf 0 = .ok (.aload_n 0, 1) := by decide +kernel
theorem dX13_netOf_1 : decode cX13_netOf 1 = .ok (.aload_n 0, 1) := by decide +kernel
theorem dX13_netOf_2 : decode cX13_netOf 2 = .ok (.iload_n 1, 1) := by decide +kernel
theorem dX13_netOf_3 : decode cX13_netOf 3 = .ok (.invokevirtual 909, 3) := by decide +kernel
theorem dX13_netOf_6 : decode cX13_netOf 6 = .ok (.ifCond .eq 30, 3) := by decide +kernel
theorem dX13_netOf_36 : decode cX13_netOf 36 = .ok (.iconst 1, 1) := by decide +kernel
theorem dX13_netOf_37 : decode cX13_netOf 37 = .ok (.goto 4, 3) := by decide +kernel
theorem dX13_netOf_41 : decode cX13_netOf 41 = .ok (.putfield 1, 3) := by decide +kernel
theorem dX13_netOf_44 : decode cX13_netOf 44 = .ok (.aload_n 0, 1) := by decide +kernel
theorem dX13_netOf_45 : decode cX13_netOf 45 = .ok (.getfield 1, 3) := by decide +kernel
theorem dX13_netOf_48 : decode cX13_netOf 48 = .ok (.ifCond .le 5, 3) := by decide +kernel
theorem dX13_netOf_51 : decode cX13_netOf 51 = .ok (.iconst 0, 1) := by decide +kernel
theorem dX13_netOf_52 : decode cX13_netOf 52 = .ok (.ireturn, 1) := by decide +kernel
abbrev cX13_alter : ByteArray := prog_15_method_153_code
def yX13_alter : MethodName := ⟨RX13, "alter", "(III)I"⟩
theorem dX13_alter_0 : decode cX13_alter 0 = .ok (.aload_n 0, 1) := by decide +kernel
theorem dX13_alter_1 : decode cX13_alter 1 = .ok (.aload_n 0, 1) := by decide +kernel
theorem dX13_alter_2 : decode cX13_alter 2 = .ok (.iload_n 1, 1) := by decide +kernel
theorem dX13_alter_3 : decode cX13_alter 3 = .ok (.invokevirtual 909, 3) := by decide +kernel
theorem dX13_alter_6 : decode cX13_alter 6 = .ok (.ifCond .eq 31, 3) := by decide +kernel
theorem dX13_alter_37 : decode cX13_alter 37 = .ok (.iconst 1, 1) := by decide +kernel
theorem dX13_alter_38 : decode cX13_alter 38 = .ok (.goto 33, 3) := by decide +kernel
theorem dX13_alter_71 : decode cX13_alter 71 = .ok (.putfield 1, 3) := by decide +kernel
theorem dX13_alter_74 : decode cX13_alter 74 = .ok (.aload_n 0, 1) := by decide +kernel
theorem dX13_alter_75 : decode cX13_alter 75 = .ok (.getfield 1, 3) := by decide +kernel
theorem dX13_alter_78 : decode cX13_alter 78 = .ok (.ifCond .le 5, 3) := by decide +kernel
theorem dX13_alter_81 : decode cX13_alter 81 = .ok (.iconst 0, 1) := by decide +kernel
theorem dX13_alter_82 : decode cX13_alter 82 = .ok (.ireturn, 1) := by decide +kernel
abbrev cX13_run : ByteArray := prog_15_method_158_code
def yX13_run : MethodName := ⟨RX13, "run", "(II)I"⟩
theorem dX13_run_0 : decode cX13_run 0 = .ok (.aload_n 0, 1) := by decide +kernel
theorem dX13_run_1 : decode cX13_run 1 = .ok (.aload_n 0, 1) := by decide +kernel
theorem dX13_run_2 : decode cX13_run 2 = .ok (.iload_n 1, 1) := by decide +kernel
theorem dX13_run_3 : decode cX13_run 3 = .ok (.invokevirtual 909, 3) := by decide +kernel
theorem dX13_run_6 : decode cX13_run 6 = .ok (.ifCond .ne 7, 3) := by decide +kernel
theorem dX13_run_9 : decode cX13_run 9 = .ok (.iconst 1, 1) := by decide +kernel
theorem dX13_run_10 : decode cX13_run 10 = .ok (.goto 21, 3) := by decide +kernel
theorem dX13_run_31 : decode cX13_run 31 = .ok (.putfield 1, 3) := by decide +kernel
theorem dX13_run_34 : decode cX13_run 34 = .ok (.aload_n 0, 1) := by decide +kernel
theorem dX13_run_35 : decode cX13_run 35 = .ok (.getfield 1, 3) := by decide +kernel
theorem dX13_run_38 : decode cX13_run 38 = .ok (.ifCond .le 5, 3) := by decide +kernel
theorem dX13_run_41 : decode cX13_run 41 = .ok (.iconst 0, 1) := by decide +kernel
theorem dX13_run_42 : decode cX13_run 42 = .ok (.ireturn, 1) := by decide +kernel
abbrev cX13_reset : ByteArray := prog_15_method_159_code
def yX13_reset : MethodName := ⟨RX13, "reset", "(I)I"⟩
theorem dX13_reset_0 : decode cX13_reset 0 = .ok (.aload_n 0, 1) := by decide +kernel
theorem dX13_reset_1 : decode cX13_reset 1 = .ok (.aload_n 0, 1) := by decide +kernel
theorem dX13_reset_2 : decode cX13_reset 2 = .ok (.iload_n 1, 1) := by decide +kernel
theorem dX13_reset_3 : decode cX13_reset 3 = .ok (.invokevirtual 909, 3) := by decide +kernel
theorem dX13_reset_6 : decode cX13_reset 6 = .ok (.ifCond .eq 7, 3) := by decide +kernel
theorem dX13_reset_13 : decode cX13_reset 13 = .ok (.iconst 1, 1) := by decide +kernel
theorem dX13_reset_14 : decode cX13_reset 14 = .ok (.putfield 1, 3) := by decide +kernel
theorem dX13_reset_17 : decode cX13_reset 17 = .ok (.aload_n 0, 1) := by decide +kernel
theorem dX13_reset_18 : decode cX13_reset 18 = .ok (.getfield 1, 3) := by decide +kernel
theorem dX13_reset_21 : decode cX13_reset 21 = .ok (.ifCond .le 5, 3) := by decide +kernel
theorem dX13_reset_24 : decode cX13_reset 24 = .ok (.iconst 0, 1) := by decide +kernel
theorem dX13_reset_25 : decode cX13_reset 25 = .ok (.ireturn, 1) := by decide +kernel
abbrev cX13_proves : ByteArray := prog_15_method_160_code
def yX13_proves : MethodName := ⟨RX13, "proves", "(II)I"⟩
theorem dX13_proves_0 : decode cX13_proves 0 = .ok (.aload_n 0, 1) := by decide +kernel
theorem dX13_proves_1 : decode cX13_proves 1 = .ok (.aload_n 0, 1) := by decide +kernel
theorem dX13_proves_2 : decode cX13_proves 2 = .ok (.iload_n 1, 1) := by decide +kernel
theorem dX13_proves_3 : decode cX13_proves 3 = .ok (.invokevirtual 909, 3) := by decide +kernel
theorem dX13_proves_6 : decode cX13_proves 6 = .ok (.ifCond .eq 11, 3) := by decide +kernel
theorem dX13_proves_17 : decode cX13_proves 17 = .ok (.iconst 1, 1) := by decide +kernel
theorem dX13_proves_18 : decode cX13_proves 18 = .ok (.goto 38, 3) := by decide +kernel
theorem dX13_proves_56 : decode cX13_proves 56 = .ok (.putfield 1, 3) := by decide +kernel
theorem dX13_proves_59 : decode cX13_proves 59 = .ok (.aload_n 0, 1) := by decide +kernel
theorem dX13_proves_60 : decode cX13_proves 60 = .ok (.getfield 1, 3) := by decide +kernel
theorem dX13_proves_63 : decode cX13_proves 63 = .ok (.ifCond .le 5, 3) := by decide +kernel
theorem dX13_proves_66 : decode cX13_proves 66 = .ok (.iconst 0, 1) := by decide +kernel
theorem dX13_proves_67 : decode cX13_proves 67 = .ok (.ireturn, 1) := by decide +kernel
abbrev cX13_place : ByteArray := prog_15_method_169_code
def yX13_place : MethodName := ⟨RX13, "place", "(II)I"⟩
theorem dX13_place_0 : decode cX13_place 0 = .ok (.aload_n 0, 1) := by decide +kernel
theorem dX13_place_1 : decode cX13_place 1 = .ok (.aload_n 0, 1) := by decide +kernel
theorem dX13_place_2 : decode cX13_place 2 = .ok (.iload_n 1, 1) := by decide +kernel
theorem dX13_place_3 : decode cX13_place 3 = .ok (.invokevirtual 909, 3) := by decide +kernel
theorem dX13_place_6 : decode cX13_place 6 = .ok (.ifCond .ne 7, 3) := by decide +kernel
theorem dX13_place_9 : decode cX13_place 9 = .ok (.iconst 1, 1) := by decide +kernel
theorem dX13_place_10 : decode cX13_place 10 = .ok (.goto 18, 3) := by decide +kernel
theorem dX13_place_28 : decode cX13_place 28 = .ok (.putfield 1, 3) := by decide +kernel
theorem dX13_place_31 : decode cX13_place 31 = .ok (.aload_n 0, 1) := by decide +kernel
theorem dX13_place_32 : decode cX13_place 32 = .ok (.getfield 1, 3) := by decide +kernel
theorem dX13_place_35 : decode cX13_place 35 = .ok (.ifCond .le 5, 3) := by decide +kernel
theorem dX13_place_38 : decode cX13_place 38 = .ok (.iconst 0, 1) := by decide +kernel
theorem dX13_place_39 : decode cX13_place 39 = .ok (.ireturn, 1) := by decide +kernel
abbrev cX13_at : ByteArray := prog_15_method_171_code
def yX13_at : MethodName := ⟨RX13, "at", "(III)I"⟩
theorem dX13_at_0 : decode cX13_at 0 = .ok (.aload_n 0, 1) := by decide +kernel
theorem dX13_at_1 : decode cX13_at 1 = .ok (.aload_n 0, 1) := by decide +kernel
theorem dX13_at_2 : decode cX13_at 2 = .ok (.iload_n 1, 1) := by decide +kernel
theorem dX13_at_3 : decode cX13_at 3 = .ok (.iload_n 2, 1) := by decide +kernel
theorem dX13_at_4 : decode cX13_at 4 = .ok (.invokevirtual 1108, 3) := by decide +kernel
theorem dX13_at_7 : decode cX13_at 7 = .ok (.ifCond .ne 7, 3) := by decide +kernel
theorem dX13_at_10 : decode cX13_at 10 = .ok (.iconst 1, 1) := by decide +kernel
theorem dX13_at_11 : decode cX13_at 11 = .ok (.goto 30, 3) := by decide +kernel
theorem dX13_at_41 : decode cX13_at 41 = .ok (.putfield 1, 3) := by decide +kernel
theorem dX13_at_44 : decode cX13_at 44 = .ok (.aload_n 0, 1) := by decide +kernel
theorem dX13_at_45 : decode cX13_at 45 = .ok (.getfield 1, 3) := by decide +kernel
theorem dX13_at_48 : decode cX13_at 48 = .ok (.ifCond .le 5, 3) := by decide +kernel
theorem dX13_at_51 : decode cX13_at 51 = .ok (.iconst 0, 1) := by decide +kernel
theorem dX13_at_52 : decode cX13_at 52 = .ok (.ireturn, 1) := by decide +kernel
abbrev cX13_move : ByteArray := prog_15_method_172_code
def yX13_move : MethodName := ⟨RX13, "move", "(IIII)Z"⟩
theorem dX13_move_0 : decode cX13_move 0 = .ok (.aload_n 0, 1) := by decide +kernel
theorem dX13_move_1 : decode cX13_move 1 = .ok (.aload_n 0, 1) := by decide +kernel
theorem dX13_move_2 : decode cX13_move 2 = .ok (.iload_n 1, 1) := by decide +kernel
theorem dX13_move_3 : decode cX13_move 3 = .ok (.iload_n 2, 1) := by decide +kernel
theorem dX13_move_4 : decode cX13_move 4 = .ok (.invokevirtual 1108, 3) := by decide +kernel
theorem dX13_move_7 : decode cX13_move 7 = .ok (.ifCond .ne 7, 3) := by decide +kernel
theorem dX13_move_10 : decode cX13_move 10 = .ok (.iconst 1, 1) := by decide +kernel
theorem dX13_move_11 : decode cX13_move 11 = .ok (.goto 17, 3) := by decide +kernel
theorem dX13_move_28 : decode cX13_move 28 = .ok (.putfield 1, 3) := by decide +kernel
theorem dX13_move_31 : decode cX13_move 31 = .ok (.aload_n 0, 1) := by decide +kernel
theorem dX13_move_32 : decode cX13_move 32 = .ok (.getfield 1, 3) := by decide +kernel
theorem dX13_move_35 : decode cX13_move 35 = .ok (.ifCond .gt 40, 3) := by decide +kernel
theorem dX13_move_75 : decode cX13_move 75 = .ok (.iconst 0, 1) := by decide +kernel
theorem dX13_move_76 : decode cX13_move 76 = .ok (.ireturn, 1) := by decide +kernel
abbrev cX13_improve : ByteArray := prog_15_method_174_code
def yX13_improve : MethodName := ⟨RX13, "improve", "(II)I"⟩
theorem dX13_improve_0 : decode cX13_improve 0 = .ok (.aload_n 0, 1) := by decide +kernel
theorem dX13_improve_1 : decode cX13_improve 1 = .ok (.aload_n 0, 1) := by decide +kernel
theorem dX13_improve_2 : decode cX13_improve 2 = .ok (.iload_n 1, 1) := by decide +kernel
theorem dX13_improve_3 : decode cX13_improve 3 = .ok (.invokevirtual 909, 3) := by decide +kernel
theorem dX13_improve_6 : decode cX13_improve 6 = .ok (.ifCond .ne 7, 3) := by decide +kernel
theorem dX13_improve_9 : decode cX13_improve 9 = .ok (.iconst 1, 1) := by decide +kernel
theorem dX13_improve_10 : decode cX13_improve 10 = .ok (.goto 30, 3) := by decide +kernel
theorem dX13_improve_40 : decode cX13_improve 40 = .ok (.putfield 1, 3) := by decide +kernel
theorem dX13_improve_43 : decode cX13_improve 43 = .ok (.aload_n 0, 1) := by decide +kernel
theorem dX13_improve_44 : decode cX13_improve 44 = .ok (.getfield 1, 3) := by decide +kernel
theorem dX13_improve_47 : decode cX13_improve 47 = .ok (.ifCond .le 5, 3) := by decide +kernel
theorem dX13_improve_50 : decode cX13_improve 50 = .ok (.iconst 0, 1) := by decide +kernel
theorem dX13_improve_51 : decode cX13_improve 51 = .ok (.ireturn, 1) := by decide +kernel
abbrev cX13_wire : ByteArray := prog_15_method_176_code
def yX13_wire : MethodName := ⟨RX13, "wire", "(II)I"⟩
theorem dX13_wire_0 : decode cX13_wire 0 = .ok (.aload_n 0, 1) := by decide +kernel
theorem dX13_wire_1 : decode cX13_wire 1 = .ok (.aload_n 0, 1) := by decide +kernel
theorem dX13_wire_2 : decode cX13_wire 2 = .ok (.iload_n 1, 1) := by decide +kernel
theorem dX13_wire_3 : decode cX13_wire 3 = .ok (.invokevirtual 909, 3) := by decide +kernel
theorem dX13_wire_6 : decode cX13_wire 6 = .ok (.ifCond .eq 17, 3) := by decide +kernel
theorem dX13_wire_23 : decode cX13_wire 23 = .ok (.iconst 1, 1) := by decide +kernel
theorem dX13_wire_24 : decode cX13_wire 24 = .ok (.goto 17, 3) := by decide +kernel
theorem dX13_wire_41 : decode cX13_wire 41 = .ok (.putfield 1, 3) := by decide +kernel
theorem dX13_wire_44 : decode cX13_wire 44 = .ok (.aload_n 0, 1) := by decide +kernel
theorem dX13_wire_45 : decode cX13_wire 45 = .ok (.getfield 1, 3) := by decide +kernel
theorem dX13_wire_48 : decode cX13_wire 48 = .ok (.ifCond .le 5, 3) := by decide +kernel
theorem dX13_wire_51 : decode cX13_wire 51 = .ok (.iconst 0, 1) := by decide +kernel
theorem dX13_wire_52 : decode cX13_wire 52 = .ok (.ireturn, 1) := by decide +kernel
abbrev cX13_route : ByteArray := prog_15_method_191_code
def yX13_route : MethodName := ⟨RX13, "route", "(II)I"⟩
theorem dX13_route_0 : decode cX13_route 0 = .ok (.aload_n 0, 1) := by decide +kernel
theorem dX13_route_1 : decode cX13_route 1 = .ok (.aload_n 0, 1) := by decide +kernel
theorem dX13_route_2 : decode cX13_route 2 = .ok (.iload_n 1, 1) := by decide +kernel
theorem dX13_route_3 : decode cX13_route 3 = .ok (.invokevirtual 909, 3) := by decide +kernel
theorem dX13_route_6 : decode cX13_route 6 = .ok (.ifCond .ne 7, 3) := by decide +kernel
theorem dX13_route_9 : decode cX13_route 9 = .ok (.iconst 1, 1) := by decide +kernel
theorem dX13_route_10 : decode cX13_route 10 = .ok (.goto 31, 3) := by decide +kernel
theorem dX13_route_41 : decode cX13_route 41 = .ok (.putfield 1, 3) := by decide +kernel
theorem dX13_route_44 : decode cX13_route 44 = .ok (.aload_n 0, 1) := by decide +kernel
theorem dX13_route_45 : decode cX13_route 45 = .ok (.getfield 1, 3) := by decide +kernel
theorem dX13_route_48 : decode cX13_route 48 = .ok (.ifCond .le 5, 3) := by decide +kernel
theorem dX13_route_51 : decode cX13_route 51 = .ok (.iconst 0, 1) := by decide +kernel
theorem dX13_route_52 : decode cX13_route 52 = .ok (.ireturn, 1) := by decide +kernel
abbrev cX13_point : ByteArray := prog_15_method_192_code
def yX13_point : MethodName := ⟨RX13, "point", "(II)I"⟩
theorem dX13_point_0 : decode cX13_point 0 = .ok (.aload_n 0, 1) := by decide +kernel
theorem dX13_point_1 : decode cX13_point 1 = .ok (.aload_n 0, 1) := by decide +kernel
theorem dX13_point_2 : decode cX13_point 2 = .ok (.iload_n 1, 1) := by decide +kernel
theorem dX13_point_3 : decode cX13_point 3 = .ok (.invokevirtual 909, 3) := by decide +kernel
theorem dX13_point_6 : decode cX13_point 6 = .ok (.ifCond .eq 7, 3) := by decide +kernel
theorem dX13_point_13 : decode cX13_point 13 = .ok (.iconst 1, 1) := by decide +kernel
theorem dX13_point_14 : decode cX13_point 14 = .ok (.goto 41, 3) := by decide +kernel
theorem dX13_point_55 : decode cX13_point 55 = .ok (.putfield 1, 3) := by decide +kernel
theorem dX13_point_58 : decode cX13_point 58 = .ok (.aload_n 0, 1) := by decide +kernel
theorem dX13_point_59 : decode cX13_point 59 = .ok (.getfield 1, 3) := by decide +kernel
theorem dX13_point_62 : decode cX13_point 62 = .ok (.ifCond .le 7, 3) := by decide +kernel
theorem dX13_point_65 : decode cX13_point 65 = .ok (.iconst 0, 1) := by decide +kernel
theorem dX13_point_66 : decode cX13_point 66 = .ok (.goto 15, 3) := by decide +kernel
theorem dX13_point_81 : decode cX13_point 81 = .ok (.ireturn, 1) := by decide +kernel
abbrev cX13_routed : ByteArray := prog_15_method_193_code
def yX13_routed : MethodName := ⟨RX13, "routed", "(III)I"⟩
theorem dX13_routed_0 : decode cX13_routed 0 = .ok (.aload_n 0, 1) := by decide +kernel
theorem dX13_routed_1 : decode cX13_routed 1 = .ok (.aload_n 0, 1) := by decide +kernel
theorem dX13_routed_2 : decode cX13_routed 2 = .ok (.iload_n 1, 1) := by decide +kernel
theorem dX13_routed_3 : decode cX13_routed 3 = .ok (.iload_n 2, 1) := by decide +kernel
theorem dX13_routed_4 : decode cX13_routed 4 = .ok (.invokevirtual 1117, 3) := by decide +kernel
theorem dX13_routed_7 : decode cX13_routed 7 = .ok (.ifCond .ne 7, 3) := by decide +kernel
theorem dX13_routed_10 : decode cX13_routed 10 = .ok (.iconst 1, 1) := by decide +kernel
theorem dX13_routed_11 : decode cX13_routed 11 = .ok (.goto 30, 3) := by decide +kernel
theorem dX13_routed_41 : decode cX13_routed 41 = .ok (.putfield 1, 3) := by decide +kernel
theorem dX13_routed_44 : decode cX13_routed 44 = .ok (.aload_n 0, 1) := by decide +kernel
theorem dX13_routed_45 : decode cX13_routed 45 = .ok (.getfield 1, 3) := by decide +kernel
theorem dX13_routed_48 : decode cX13_routed 48 = .ok (.ifCond .le 5, 3) := by decide +kernel
theorem dX13_routed_51 : decode cX13_routed 51 = .ok (.iconst 0, 1) := by decide +kernel
theorem dX13_routed_52 : decode cX13_routed 52 = .ok (.ireturn, 1) := by decide +kernel
abbrev cX13_draw : ByteArray := prog_15_method_199_code
def yX13_draw : MethodName := ⟨RX13, "draw", "(I)I"⟩
theorem dX13_draw_0 : decode cX13_draw 0 = .ok (.aload_n 0, 1) := by decide +kernel
theorem dX13_draw_1 : decode cX13_draw 1 = .ok (.aload_n 0, 1) := by decide +kernel
theorem dX13_draw_2 : decode cX13_draw 2 = .ok (.iload_n 1, 1) := by decide +kernel
theorem dX13_draw_3 : decode cX13_draw 3 = .ok (.invokevirtual 909, 3) := by decide +kernel
theorem dX13_draw_6 : decode cX13_draw 6 = .ok (.ifCond .ne 7, 3) := by decide +kernel
theorem dX13_draw_9 : decode cX13_draw 9 = .ok (.iconst 1, 1) := by decide +kernel
theorem dX13_draw_10 : decode cX13_draw 10 = .ok (.goto 17, 3) := by decide +kernel
theorem dX13_draw_27 : decode cX13_draw 27 = .ok (.putfield 1, 3) := by decide +kernel
theorem dX13_draw_30 : decode cX13_draw 30 = .ok (.aload_n 0, 1) := by decide +kernel
theorem dX13_draw_31 : decode cX13_draw 31 = .ok (.getfield 1, 3) := by decide +kernel
theorem dX13_draw_34 : decode cX13_draw 34 = .ok (.ifCond .le 5, 3) := by decide +kernel
theorem dX13_draw_37 : decode cX13_draw 37 = .ok (.iconst 0, 1) := by decide +kernel
theorem dX13_draw_38 : decode cX13_draw 38 = .ok (.ireturn, 1) := by decide +kernel
abbrev cX13_box : ByteArray := prog_15_method_202_code
def yX13_box : MethodName := ⟨RX13, "box", "(III)I"⟩
theorem dX13_box_0 : decode cX13_box 0 = .ok (.aload_n 0, 1) := by decide +kernel
theorem dX13_box_1 : decode cX13_box 1 = .ok (.aload_n 0, 1) := by decide +kernel
theorem dX13_box_2 : decode cX13_box 2 = .ok (.iload_n 1, 1) := by decide +kernel
theorem dX13_box_3 : decode cX13_box 3 = .ok (.invokevirtual 909, 3) := by decide +kernel
theorem dX13_box_6 : decode cX13_box 6 = .ok (.ifCond .eq 31, 3) := by decide +kernel
theorem dX13_box_37 : decode cX13_box 37 = .ok (.iconst 1, 1) := by decide +kernel
theorem dX13_box_38 : decode cX13_box 38 = .ok (.goto 39, 3) := by decide +kernel
theorem dX13_box_77 : decode cX13_box 77 = .ok (.putfield 1, 3) := by decide +kernel
theorem dX13_box_80 : decode cX13_box 80 = .ok (.aload_n 0, 1) := by decide +kernel
theorem dX13_box_81 : decode cX13_box 81 = .ok (.getfield 1, 3) := by decide +kernel
theorem dX13_box_84 : decode cX13_box 84 = .ok (.ifCond .le 5, 3) := by decide +kernel
theorem dX13_box_87 : decode cX13_box 87 = .ok (.iconst 0, 1) := by decide +kernel
theorem dX13_box_88 : decode cX13_box 88 = .ok (.ireturn, 1) := by decide +kernel
abbrev cX13_add : ByteArray := prog_15_method_204_code
def yX13_add : MethodName := ⟨RX13, "add", "(IIIIII)I"⟩
theorem dX13_add_0 : decode cX13_add 0 = .ok (.aload_n 0, 1) := by decide +kernel
theorem dX13_add_1 : decode cX13_add 1 = .ok (.aload_n 0, 1) := by decide +kernel
theorem dX13_add_2 : decode cX13_add 2 = .ok (.iload_n 1, 1) := by decide +kernel
theorem dX13_add_3 : decode cX13_add 3 = .ok (.invokevirtual 909, 3) := by decide +kernel
theorem dX13_add_6 : decode cX13_add 6 = .ok (.ifCond .ne 7, 3) := by decide +kernel
theorem dX13_add_9 : decode cX13_add 9 = .ok (.iconst 1, 1) := by decide +kernel
theorem dX13_add_10 : decode cX13_add 10 = .ok (.goto 65, 3) := by decide +kernel
theorem dX13_add_75 : decode cX13_add 75 = .ok (.putfield 1, 3) := by decide +kernel
theorem dX13_add_78 : decode cX13_add 78 = .ok (.aload_n 0, 1) := by decide +kernel
theorem dX13_add_79 : decode cX13_add 79 = .ok (.getfield 1, 3) := by decide +kernel
theorem dX13_add_82 : decode cX13_add 82 = .ok (.ifCond .le 5, 3) := by decide +kernel
theorem dX13_add_85 : decode cX13_add 85 = .ok (.iconst 0, 1) := by decide +kernel
theorem dX13_add_86 : decode cX13_add 86 = .ok (.ireturn, 1) := by decide +kernel
abbrev cX13_erase : ByteArray := prog_15_method_205_code
def yX13_erase : MethodName := ⟨RX13, "erase", "(II)I"⟩
theorem dX13_erase_0 : decode cX13_erase 0 = .ok (.aload_n 0, 1) := by decide +kernel
theorem dX13_erase_1 : decode cX13_erase 1 = .ok (.aload_n 0, 1) := by decide +kernel
theorem dX13_erase_2 : decode cX13_erase 2 = .ok (.iload_n 1, 1) := by decide +kernel
theorem dX13_erase_3 : decode cX13_erase 3 = .ok (.invokevirtual 909, 3) := by decide +kernel
theorem dX13_erase_6 : decode cX13_erase 6 = .ok (.ifCond .eq 25, 3) := by decide +kernel
theorem dX13_erase_31 : decode cX13_erase 31 = .ok (.iconst 1, 1) := by decide +kernel
theorem dX13_erase_32 : decode cX13_erase 32 = .ok (.goto 17, 3) := by decide +kernel
theorem dX13_erase_49 : decode cX13_erase 49 = .ok (.putfield 1, 3) := by decide +kernel
theorem dX13_erase_52 : decode cX13_erase 52 = .ok (.aload_n 0, 1) := by decide +kernel
theorem dX13_erase_53 : decode cX13_erase 53 = .ok (.getfield 1, 3) := by decide +kernel
theorem dX13_erase_56 : decode cX13_erase 56 = .ok (.ifCond .le 5, 3) := by decide +kernel
theorem dX13_erase_59 : decode cX13_erase 59 = .ok (.iconst 0, 1) := by decide +kernel
theorem dX13_erase_60 : decode cX13_erase 60 = .ok (.ireturn, 1) := by decide +kernel
abbrev cX13_check : ByteArray := prog_15_method_211_code
def yX13_check : MethodName := ⟨RX13, "check", "(I)I"⟩
theorem dX13_check_0 : decode cX13_check 0 = .ok (.aload_n 0, 1) := by decide +kernel
theorem dX13_check_1 : decode cX13_check 1 = .ok (.aload_n 0, 1) := by decide +kernel
theorem dX13_check_2 : decode cX13_check 2 = .ok (.iload_n 1, 1) := by decide +kernel
theorem dX13_check_3 : decode cX13_check 3 = .ok (.invokevirtual 909, 3) := by decide +kernel
theorem dX13_check_6 : decode cX13_check 6 = .ok (.ifCond .ne 7, 3) := by decide +kernel
theorem dX13_check_9 : decode cX13_check 9 = .ok (.iconst 1, 1) := by decide +kernel
theorem dX13_check_10 : decode cX13_check 10 = .ok (.goto 17, 3) := by decide +kernel
theorem dX13_check_27 : decode cX13_check 27 = .ok (.putfield 1, 3) := by decide +kernel
theorem dX13_check_30 : decode cX13_check 30 = .ok (.aload_n 0, 1) := by decide +kernel
theorem dX13_check_31 : decode cX13_check 31 = .ok (.getfield 1, 3) := by decide +kernel
theorem dX13_check_34 : decode cX13_check 34 = .ok (.ifCond .le 7, 3) := by decide +kernel
theorem dX13_check_37 : decode cX13_check 37 = .ok (.iconst 0, 1) := by decide +kernel
theorem dX13_check_38 : decode cX13_check 38 = .ok (.goto 11, 3) := by decide +kernel
theorem dX13_check_49 : decode cX13_check 49 = .ok (.ireturn, 1) := by decide +kernel
abbrev cX13_violation : ByteArray := prog_15_method_212_code
def yX13_violation : MethodName := ⟨RX13, "violation", "(III)I"⟩
theorem dX13_violation_0 : decode cX13_violation 0 = .ok (.aload_n 0, 1) := by decide +kernel
theorem dX13_violation_1 : decode cX13_violation 1 = .ok (.aload_n 0, 1) := by decide +kernel
theorem dX13_violation_2 : decode cX13_violation 2 = .ok (.iload_n 1, 1) := by decide +kernel
theorem dX13_violation_3 : decode cX13_violation 3 = .ok (.invokevirtual 909, 3) := by decide +kernel
theorem dX13_violation_6 : decode cX13_violation 6 = .ok (.ifCond .eq 16, 3) := by decide +kernel
theorem dX13_violation_22 : decode cX13_violation 22 = .ok (.iconst 1, 1) := by decide +kernel
theorem dX13_violation_23 : decode cX13_violation 23 = .ok (.goto 31, 3) := by decide +kernel
theorem dX13_violation_54 : decode cX13_violation 54 = .ok (.putfield 1, 3) := by decide +kernel
theorem dX13_violation_57 : decode cX13_violation 57 = .ok (.aload_n 0, 1) := by decide +kernel
theorem dX13_violation_58 : decode cX13_violation 58 = .ok (.getfield 1, 3) := by decide +kernel
theorem dX13_violation_61 : decode cX13_violation 61 = .ok (.ifCond .le 7, 3) := by decide +kernel
theorem dX13_violation_64 : decode cX13_violation 64 = .ok (.iconst 0, 1) := by decide +kernel
theorem dX13_violation_65 : decode cX13_violation 65 = .ok (.goto 18, 3) := by decide +kernel
theorem dX13_violation_83 : decode cX13_violation 83 = .ok (.ireturn, 1) := by decide +kernel
abbrev cX13_found : ByteArray := prog_15_method_219_code
def yX13_found : MethodName := ⟨RX13, "found", "(II)I"⟩
theorem dX13_found_0 : decode cX13_found 0 = .ok (.aload_n 0, 1) := by decide +kernel
theorem dX13_found_1 : decode cX13_found 1 = .ok (.aload_n 0, 1) := by decide +kernel
theorem dX13_found_2 : decode cX13_found 2 = .ok (.iload_n 1, 1) := by decide +kernel
theorem dX13_found_3 : decode cX13_found 3 = .ok (.invokevirtual 909, 3) := by decide +kernel
theorem dX13_found_6 : decode cX13_found 6 = .ok (.ifCond .ne 7, 3) := by decide +kernel
theorem dX13_found_9 : decode cX13_found 9 = .ok (.iconst 1, 1) := by decide +kernel
theorem dX13_found_10 : decode cX13_found 10 = .ok (.goto 30, 3) := by decide +kernel
theorem dX13_found_40 : decode cX13_found 40 = .ok (.putfield 1, 3) := by decide +kernel
theorem dX13_found_43 : decode cX13_found 43 = .ok (.aload_n 0, 1) := by decide +kernel
theorem dX13_found_44 : decode cX13_found 44 = .ok (.getfield 1, 3) := by decide +kernel
theorem dX13_found_47 : decode cX13_found 47 = .ok (.ifCond .le 5, 3) := by decide +kernel
theorem dX13_found_50 : decode cX13_found 50 = .ok (.iconst 0, 1) := by decide +kernel
theorem dX13_found_51 : decode cX13_found 51 = .ok (.ireturn, 1) := by decide +kernel
abbrev cX13_arrival : ByteArray := prog_15_method_222_code
def yX13_arrival : MethodName := ⟨RX13, "arrival", "(IIZ)I"⟩
theorem dX13_arrival_0 : decode cX13_arrival 0 = .ok (.aload_n 0, 1) := by decide +kernel
theorem dX13_arrival_1 : decode cX13_arrival 1 = .ok (.aload_n 0, 1) := by decide +kernel
theorem dX13_arrival_2 : decode cX13_arrival 2 = .ok (.iload_n 1, 1) := by decide +kernel
theorem dX13_arrival_3 : decode cX13_arrival 3 = .ok (.iload_n 2, 1) := by decide +kernel
theorem dX13_arrival_4 : decode cX13_arrival 4 = .ok (.invokevirtual 1117, 3) := by decide +kernel
theorem dX13_arrival_7 : decode cX13_arrival 7 = .ok (.ifCond .eq 7, 3) := by decide +kernel
theorem dX13_arrival_14 : decode cX13_arrival 14 = .ok (.iconst 1, 1) := by decide +kernel
theorem dX13_arrival_15 : decode cX13_arrival 15 = .ok (.putfield 1, 3) := by decide +kernel
theorem dX13_arrival_18 : decode cX13_arrival 18 = .ok (.aload_n 0, 1) := by decide +kernel
theorem dX13_arrival_19 : decode cX13_arrival 19 = .ok (.getfield 1, 3) := by decide +kernel
theorem dX13_arrival_22 : decode cX13_arrival 22 = .ok (.ifCond .le 5, 3) := by decide +kernel
theorem dX13_arrival_25 : decode cX13_arrival 25 = .ok (.iconst 0, 1) := by decide +kernel
theorem dX13_arrival_26 : decode cX13_arrival 26 = .ok (.ireturn, 1) := by decide +kernel
abbrev cX13_falsify : ByteArray := prog_15_method_225_code
def yX13_falsify : MethodName := ⟨RX13, "falsify", "(III)Z"⟩
theorem dX13_falsify_0 : decode cX13_falsify 0 = .ok (.aload_n 0, 1) := by decide +kernel
theorem dX13_falsify_1 : decode cX13_falsify 1 = .ok (.aload_n 0, 1) := by decide +kernel
theorem dX13_falsify_2 : decode cX13_falsify 2 = .ok (.iload_n 1, 1) := by decide +kernel
theorem dX13_falsify_3 : decode cX13_falsify 3 = .ok (.invokevirtual 909, 3) := by decide +kernel
theorem dX13_falsify_6 : decode cX13_falsify 6 = .ok (.ifCond .eq 33, 3) := by decide +kernel
theorem dX13_falsify_39 : decode cX13_falsify 39 = .ok (.iconst 1, 1) := by decide +kernel
theorem dX13_falsify_40 : decode cX13_falsify 40 = .ok (.goto 4, 3) := by decide +kernel
theorem dX13_falsify_44 : decode cX13_falsify 44 = .ok (.putfield 1, 3) := by decide +kernel
theorem dX13_falsify_47 : decode cX13_falsify 47 = .ok (.aload_n 0, 1) := by decide +kernel
theorem dX13_falsify_48 : decode cX13_falsify 48 = .ok (.getfield 1, 3) := by decide +kernel
theorem dX13_falsify_51 : decode cX13_falsify 51 = .ok (.ifCond .gt 13, 3) := by decide +kernel
theorem dX13_falsify_64 : decode cX13_falsify 64 = .ok (.iconst 0, 1) := by decide +kernel
theorem dX13_falsify_65 : decode cX13_falsify 65 = .ok (.ireturn, 1) := by decide +kernel
abbrev cX13_path : ByteArray := prog_15_method_231_code
def yX13_path : MethodName := ⟨RX13, "path", "(III)I"⟩
theorem dX13_path_0 : decode cX13_path 0 = .ok (.aload_n 0, 1) := by decide +kernel
theorem dX13_path_1 : decode cX13_path 1 = .ok (.aload_n 0, 1) := by decide +kernel
theorem dX13_path_2 : decode cX13_path 2 = .ok (.iload_n 1, 1) := by decide +kernel
theorem dX13_path_3 : decode cX13_path 3 = .ok (.invokevirtual 909, 3) := by decide +kernel
theorem dX13_path_6 : decode cX13_path 6 = .ok (.ifCond .eq 19, 3) := by decide +kernel
theorem dX13_path_25 : decode cX13_path 25 = .ok (.iconst 1, 1) := by decide +kernel
theorem dX13_path_26 : decode cX13_path 26 = .ok (.goto 4, 3) := by decide +kernel
theorem dX13_path_30 : decode cX13_path 30 = .ok (.putfield 1, 3) := by decide +kernel
theorem dX13_path_33 : decode cX13_path 33 = .ok (.aload_n 0, 1) := by decide +kernel
theorem dX13_path_34 : decode cX13_path 34 = .ok (.getfield 1, 3) := by decide +kernel
theorem dX13_path_37 : decode cX13_path 37 = .ok (.ifCond .le 5, 3) := by decide +kernel
theorem dX13_path_40 : decode cX13_path 40 = .ok (.iconst 0, 1) := by decide +kernel
theorem dX13_path_41 : decode cX13_path 41 = .ok (.ireturn, 1) := by decide +kernel
abbrev cX13_wave : ByteArray := prog_15_method_237_code
def yX13_wave : MethodName := ⟨RX13, "wave", "(IIIII)I"⟩
theorem dX13_wave_0 : decode cX13_wave 0 = .ok (.aload_n 0, 1) := by decide +kernel
theorem dX13_wave_1 : decode cX13_wave 1 = .ok (.aload_n 0, 1) := by decide +kernel
theorem dX13_wave_2 : decode cX13_wave 2 = .ok (.iload_n 1, 1) := by decide +kernel
theorem dX13_wave_3 : decode cX13_wave 3 = .ok (.iload 4, 2) := by decide +kernel
theorem dX13_wave_5 : decode cX13_wave 5 = .ok (.invokevirtual 1117, 3) := by decide +kernel
theorem dX13_wave_8 : decode cX13_wave 8 = .ok (.ifCond .ne 7, 3) := by decide +kernel
theorem dX13_wave_11 : decode cX13_wave 11 = .ok (.iconst 1, 1) := by decide +kernel
theorem dX13_wave_12 : decode cX13_wave 12 = .ok (.goto 44, 3) := by decide +kernel
theorem dX13_wave_56 : decode cX13_wave 56 = .ok (.putfield 1, 3) := by decide +kernel
theorem dX13_wave_59 : decode cX13_wave 59 = .ok (.aload_n 0, 1) := by decide +kernel
theorem dX13_wave_60 : decode cX13_wave 60 = .ok (.getfield 1, 3) := by decide +kernel
theorem dX13_wave_63 : decode cX13_wave 63 = .ok (.ifCond .le 5, 3) := by decide +kernel
theorem dX13_wave_66 : decode cX13_wave 66 = .ok (.iconst 0, 1) := by decide +kernel
theorem dX13_wave_67 : decode cX13_wave 67 = .ok (.ireturn, 1) := by decide +kernel
abbrev cX13_changes : ByteArray := prog_15_method_238_code
def yX13_changes : MethodName := ⟨RX13, "changes", "(IIII)I"⟩
theorem dX13_changes_0 : decode cX13_changes 0 = .ok (.aload_n 0, 1) := by decide +kernel
theorem dX13_changes_1 : decode cX13_changes 1 = .ok (.aload_n 0, 1) := by decide +kernel
theorem dX13_changes_2 : decode cX13_changes 2 = .ok (.iload_n 1, 1) := by decide +kernel
theorem dX13_changes_3 : decode cX13_changes 3 = .ok (.invokevirtual 909, 3) := by decide +kernel
theorem dX13_changes_6 : decode cX13_changes 6 = .ok (.ifCond .eq 19, 3) := by decide +kernel
theorem dX13_changes_25 : decode cX13_changes 25 = .ok (.iconst 1, 1) := by decide +kernel
theorem dX13_changes_26 : decode cX13_changes 26 = .ok (.goto 32, 3) := by decide +kernel
theorem dX13_changes_58 : decode cX13_changes 58 = .ok (.putfield 1, 3) := by decide +kernel
theorem dX13_changes_61 : decode cX13_changes 61 = .ok (.aload_n 0, 1) := by decide +kernel
theorem dX13_changes_62 : decode cX13_changes 62 = .ok (.getfield 1, 3) := by decide +kernel
theorem dX13_changes_65 : decode cX13_changes 65 = .ok (.ifCond .le 5, 3) := by decide +kernel
theorem dX13_changes_68 : decode cX13_changes 68 = .ok (.iconst 0, 1) := by decide +kernel
theorem dX13_changes_69 : decode cX13_changes 69 = .ok (.ireturn, 1) := by decide +kernel
abbrev cX13_test : ByteArray := prog_15_method_247_code
def yX13_test : MethodName := ⟨RX13, "test", "(II)I"⟩
theorem dX13_test_0 : decode cX13_test 0 = .ok (.aload_n 0, 1) := by decide +kernel
theorem dX13_test_1 : decode cX13_test 1 = .ok (.aload_n 0, 1) := by decide +kernel
theorem dX13_test_2 : decode cX13_test 2 = .ok (.iload_n 1, 1) := by decide +kernel
theorem dX13_test_3 : decode cX13_test 3 = .ok (.invokevirtual 909, 3) := by decide +kernel
theorem dX13_test_6 : decode cX13_test 6 = .ok (.ifCond .eq 16, 3) := by decide +kernel
theorem dX13_test_22 : decode cX13_test 22 = .ok (.iconst 1, 1) := by decide +kernel
theorem dX13_test_23 : decode cX13_test 23 = .ok (.goto 4, 3) := by decide +kernel
theorem dX13_test_27 : decode cX13_test 27 = .ok (.putfield 1, 3) := by decide +kernel
theorem dX13_test_30 : decode cX13_test 30 = .ok (.aload_n 0, 1) := by decide +kernel
theorem dX13_test_31 : decode cX13_test 31 = .ok (.getfield 1, 3) := by decide +kernel
theorem dX13_test_34 : decode cX13_test 34 = .ok (.ifCond .le 7, 3) := by decide +kernel
theorem dX13_test_37 : decode cX13_test 37 = .ok (.iconst 0, 1) := by decide +kernel
theorem dX13_test_38 : decode cX13_test 38 = .ok (.goto 9, 3) := by decide +kernel
theorem dX13_test_47 : decode cX13_test 47 = .ok (.ireturn, 1) := by decide +kernel
abbrev cX13_shows : ByteArray := prog_15_method_248_code
def yX13_shows : MethodName := ⟨RX13, "shows", "(III)Z"⟩
theorem dX13_shows_0 : decode cX13_shows 0 = .ok (.aload_n 0, 1) := by decide +kernel
theorem dX13_shows_1 : decode cX13_shows 1 = .ok (.aload_n 0, 1) := by decide +kernel
theorem dX13_shows_2 : decode cX13_shows 2 = .ok (.iload_n 1, 1) := by decide +kernel
theorem dX13_shows_3 : decode cX13_shows 3 = .ok (.invokevirtual 909, 3) := by decide +kernel
theorem dX13_shows_6 : decode cX13_shows 6 = .ok (.ifCond .eq 16, 3) := by decide +kernel
theorem dX13_shows_22 : decode cX13_shows 22 = .ok (.iconst 1, 1) := by decide +kernel
theorem dX13_shows_23 : decode cX13_shows 23 = .ok (.goto 28, 3) := by decide +kernel
theorem dX13_shows_51 : decode cX13_shows 51 = .ok (.putfield 1, 3) := by decide +kernel
theorem dX13_shows_54 : decode cX13_shows 54 = .ok (.aload_n 0, 1) := by decide +kernel
theorem dX13_shows_55 : decode cX13_shows 55 = .ok (.getfield 1, 3) := by decide +kernel
theorem dX13_shows_58 : decode cX13_shows 58 = .ok (.ifCond .le 5, 3) := by decide +kernel
theorem dX13_shows_61 : decode cX13_shows 61 = .ok (.iconst 0, 1) := by decide +kernel
theorem dX13_shows_62 : decode cX13_shows 62 = .ok (.ireturn, 1) := by decide +kernel
abbrev cX13_tests : ByteArray := prog_15_method_253_code
def yX13_tests : MethodName := ⟨RX13, "tests", "(I)I"⟩
theorem dX13_tests_0 : decode cX13_tests 0 = .ok (.aload_n 0, 1) := by decide +kernel
theorem dX13_tests_1 : decode cX13_tests 1 = .ok (.aload_n 0, 1) := by decide +kernel
theorem dX13_tests_2 : decode cX13_tests 2 = .ok (.iload_n 1, 1) := by decide +kernel
theorem dX13_tests_3 : decode cX13_tests 3 = .ok (.invokevirtual 909, 3) := by decide +kernel
theorem dX13_tests_6 : decode cX13_tests 6 = .ok (.ifCond .eq 7, 3) := by decide +kernel
theorem dX13_tests_13 : decode cX13_tests 13 = .ok (.iconst 1, 1) := by decide +kernel
theorem dX13_tests_14 : decode cX13_tests 14 = .ok (.putfield 1, 3) := by decide +kernel
theorem dX13_tests_17 : decode cX13_tests 17 = .ok (.aload_n 0, 1) := by decide +kernel
theorem dX13_tests_18 : decode cX13_tests 18 = .ok (.getfield 1, 3) := by decide +kernel
theorem dX13_tests_21 : decode cX13_tests 21 = .ok (.ifCond .le 5, 3) := by decide +kernel
theorem dX13_tests_24 : decode cX13_tests 24 = .ok (.iconst 0, 1) := by decide +kernel
theorem dX13_tests_25 : decode cX13_tests 25 = .ok (.ireturn, 1) := by decide +kernel
abbrev cX13_pattern : ByteArray := prog_15_method_255_code
def yX13_pattern : MethodName := ⟨RX13, "pattern", "(II)I"⟩
theorem dX13_pattern_0 : decode cX13_pattern 0 = .ok (.aload_n 0, 1) := by decide +kernel
theorem dX13_pattern_1 : decode cX13_pattern 1 = .ok (.aload_n 0, 1) := by decide +kernel
theorem dX13_pattern_2 : decode cX13_pattern 2 = .ok (.iload_n 1, 1) := by decide +kernel
theorem dX13_pattern_3 : decode cX13_pattern 3 = .ok (.iload_n 2, 1) := by decide +kernel
theorem dX13_pattern_4 : decode cX13_pattern 4 = .ok (.invokevirtual 1345, 3) := by decide +kernel
theorem dX13_pattern_7 : decode cX13_pattern 7 = .ok (.putfield 1, 3) := by decide +kernel
theorem dX13_pattern_10 : decode cX13_pattern 10 = .ok (.aload_n 0, 1) := by decide +kernel
theorem dX13_pattern_11 : decode cX13_pattern 11 = .ok (.getfield 1, 3) := by decide +kernel
theorem dX13_pattern_14 : decode cX13_pattern 14 = .ok (.ifCond .le 7, 3) := by decide +kernel
theorem dX13_pattern_17 : decode cX13_pattern 17 = .ok (.iconst 0, 1) := by decide +kernel
theorem dX13_pattern_18 : decode cX13_pattern 18 = .ok (.goto 15, 3) := by decide +kernel
theorem dX13_pattern_33 : decode cX13_pattern 33 = .ok (.ireturn, 1) := by decide +kernel
abbrev cX13_fails : ByteArray := prog_15_method_256_code
def yX13_fails : MethodName := ⟨RX13, "fails", "(IIZ)Z"⟩
theorem dX13_fails_0 : decode cX13_fails 0 = .ok (.aload_n 0, 1) := by decide +kernel
theorem dX13_fails_1 : decode cX13_fails 1 = .ok (.aload_n 0, 1) := by decide +kernel
theorem dX13_fails_2 : decode cX13_fails 2 = .ok (.iload_n 1, 1) := by decide +kernel
theorem dX13_fails_3 : decode cX13_fails 3 = .ok (.iload_n 2, 1) := by decide +kernel
theorem dX13_fails_4 : decode cX13_fails 4 = .ok (.invokevirtual 1345, 3) := by decide +kernel
theorem dX13_fails_7 : decode cX13_fails 7 = .ok (.putfield 1, 3) := by decide +kernel
theorem dX13_fails_10 : decode cX13_fails 10 = .ok (.aload_n 0, 1) := by decide +kernel
theorem dX13_fails_11 : decode cX13_fails 11 = .ok (.getfield 1, 3) := by decide +kernel
theorem dX13_fails_14 : decode cX13_fails 14 = .ok (.ifCond .le 5, 3) := by decide +kernel
theorem dX13_fails_17 : decode cX13_fails 17 = .ok (.iconst 0, 1) := by decide +kernel
theorem dX13_fails_18 : decode cX13_fails 18 = .ok (.ireturn, 1) := by decide +kernel
abbrev cX13_suspect : ByteArray := prog_15_method_258_code
def yX13_suspect : MethodName := ⟨RX13, "suspect", "(II)I"⟩
theorem dX13_suspect_0 : decode cX13_suspect 0 = .ok (.aload_n 0, 1) := by decide +kernel
theorem dX13_suspect_1 : decode cX13_suspect 1 = .ok (.aload_n 0, 1) := by decide +kernel
theorem dX13_suspect_2 : decode cX13_suspect 2 = .ok (.iload_n 1, 1) := by decide +kernel
theorem dX13_suspect_3 : decode cX13_suspect 3 = .ok (.invokevirtual 909, 3) := by decide +kernel
theorem dX13_suspect_6 : decode cX13_suspect 6 = .ok (.ifCond .eq 7, 3) := by decide +kernel
theorem dX13_suspect_13 : decode cX13_suspect 13 = .ok (.iconst 1, 1) := by decide +kernel
theorem dX13_suspect_14 : decode cX13_suspect 14 = .ok (.goto 18, 3) := by decide +kernel
theorem dX13_suspect_32 : decode cX13_suspect 32 = .ok (.putfield 1, 3) := by decide +kernel
theorem dX13_suspect_35 : decode cX13_suspect 35 = .ok (.aload_n 0, 1) := by decide +kernel
theorem dX13_suspect_36 : decode cX13_suspect 36 = .ok (.getfield 1, 3) := by decide +kernel
theorem dX13_suspect_39 : decode cX13_suspect 39 = .ok (.ifCond .le 5, 3) := by decide +kernel
theorem dX13_suspect_42 : decode cX13_suspect 42 = .ok (.iconst 0, 1) := by decide +kernel
theorem dX13_suspect_43 : decode cX13_suspect 43 = .ok (.ireturn, 1) := by decide +kernel
abbrev cX13_faults : ByteArray := prog_15_method_259_code
def yX13_faults : MethodName := ⟨RX13, "faults", "(II)I"⟩
theorem dX13_faults_0 : decode cX13_faults 0 = .ok (.aload_n 0, 1) := by decide +kernel
theorem dX13_faults_1 : decode cX13_faults 1 = .ok (.aload_n 0, 1) := by decide +kernel
theorem dX13_faults_2 : decode cX13_faults 2 = .ok (.iload_n 1, 1) := by decide +kernel
theorem dX13_faults_3 : decode cX13_faults 3 = .ok (.invokevirtual 909, 3) := by decide +kernel
theorem dX13_faults_6 : decode cX13_faults 6 = .ok (.ifCond .ne 7, 3) := by decide +kernel
theorem dX13_faults_9 : decode cX13_faults 9 = .ok (.iconst 1, 1) := by decide +kernel
theorem dX13_faults_10 : decode cX13_faults 10 = .ok (.goto 17, 3) := by decide +kernel
theorem dX13_faults_27 : decode cX13_faults 27 = .ok (.putfield 1, 3) := by decide +kernel
theorem dX13_faults_30 : decode cX13_faults 30 = .ok (.aload_n 0, 1) := by decide +kernel
theorem dX13_faults_31 : decode cX13_faults 31 = .ok (.getfield 1, 3) := by decide +kernel
theorem dX13_faults_34 : decode cX13_faults 34 = .ok (.ifCond .le 5, 3) := by decide +kernel
theorem dX13_faults_37 : decode cX13_faults 37 = .ok (.iconst 0, 1) := by decide +kernel
theorem dX13_faults_38 : decode cX13_faults 38 = .ok (.ireturn, 1) := by decide +kernel
theorem wd_215 : (Cond.selects RX13 yX13_isDesign yX13_isDesign) ∈ BG := bg_tb tb_0 215 (by decide +kernel) (by decide +kernel)
theorem wd_216 : (Cond.selects RX13 yX13_isLibrary yX13_isLibrary) ∈ BG := bg_tb tb_0 216 (by decide +kernel) (by decide +kernel)
theorem wd_217 : (Cond.selects RX13 yX13_isChip yX13_isChip) ∈ BG := bg_tb tb_0 217 (by decide +kernel) (by decide +kernel)
theorem wd_259 : (Cond.selects RX13 yX13_isElement yX13_isElement) ∈ BG := bg_tb tb_0 259 (by decide +kernel) (by decide +kernel)
theorem wd_267 : (Cond.selects RX13 yX13_isNet yX13_isNet) ∈ BG := bg_tb tb_0 267 (by decide +kernel) (by decide +kernel)
theorem wd_324 : (Cond.selects RX13 yX13_patternCode yX13_patternCode) ∈ BG := bg_tb tb_0 324 (by decide +kernel) (by decide +kernel)
theorem wd_340 : (Cond.initialized RX13) ∈ BG := bg_tb tb_1 14 (by decide +kernel) (by decide +kernel)
theorem wd_3032 : (Cond.fieldLink RX13 1 "ChipFlowModel" "code" "I") ∈ BG := bg_tb tb_12 66 (by decide +kernel) (by decide +kernel)
theorem wd_4076 : (Cond.methodLink RX13 903 yX13_isDesign) ∈ BG := bg_tb tb_16 150 (by decide +kernel) (by decide +kernel)
theorem wd_4078 : (Cond.instanceMethod yX13_isDesign) ∈ BG := bg_tb tb_16 152 (by decide +kernel) (by decide +kernel)
theorem wd_4079 : (Cond.code yX13_isDesign cX13_isDesign 2 (some .boolean)) ∈ BG := bg_tb tb_16 153 (by decide +kernel) (by decide +kernel)
theorem wd_4080 : (Cond.methodLink RX13 906 yX13_isLibrary) ∈ BG := bg_tb tb_16 154 (by decide +kernel) (by decide +kernel)
theorem wd_4082 : (Cond.instanceMethod yX13_isLibrary) ∈ BG := bg_tb tb_16 156 (by decide +kernel) (by decide +kernel)
theorem wd_4083 : (Cond.code yX13_isLibrary cX13_isLibrary 2 (some .boolean)) ∈ BG := bg_tb tb_16 157 (by decide +kernel) (by decide +kernel)
theorem wd_4084 : (Cond.methodLink RX13 909 yX13_isChip) ∈ BG := bg_tb tb_16 158 (by decide +kernel) (by decide +kernel)
theorem wd_4086 : (Cond.instanceMethod yX13_isChip) ∈ BG := bg_tb tb_16 160 (by decide +kernel) (by decide +kernel)
theorem wd_4087 : (Cond.code yX13_isChip cX13_isChip 2 (some .boolean)) ∈ BG := bg_tb tb_16 161 (by decide +kernel) (by decide +kernel)
theorem wd_4353 : (Cond.methodLink RX13 1108 yX13_isElement) ∈ BG := bg_tb tb_17 187 (by decide +kernel) (by decide +kernel)
theorem wd_4355 : (Cond.instanceMethod yX13_isElement) ∈ BG := bg_tb tb_17 189 (by decide +kernel) (by decide +kernel)
theorem wd_4356 : (Cond.code yX13_isElement cX13_isElement 3 (some .boolean)) ∈ BG := bg_tb tb_17 190 (by decide +kernel) (by decide +kernel)
theorem wd_4397 : (Cond.methodLink RX13 1117 yX13_isNet) ∈ BG := bg_tb tb_17 231 (by decide +kernel) (by decide +kernel)
theorem wd_4399 : (Cond.instanceMethod yX13_isNet) ∈ BG := bg_tb tb_17 233 (by decide +kernel) (by decide +kernel)
theorem wd_4400 : (Cond.code yX13_isNet cX13_isNet 3 (some .boolean)) ∈ BG := bg_tb tb_17 234 (by decide +kernel) (by decide +kernel)
theorem wd_4709 : (Cond.methodLink RX13 1345 yX13_patternCode) ∈ BG := bg_tb tb_19 63 (by decide +kernel) (by decide +kernel)
theorem wd_4711 : (Cond.instanceMethod yX13_patternCode) ∈ BG := bg_tb tb_19 65 (by decide +kernel) (by decide +kernel)
theorem wd_4712 : (Cond.code yX13_patternCode cX13_patternCode 3 (some .int)) ∈ BG := bg_tb tb_19 66 (by decide +kernel) (by decide +kernel)
set_option maxHeartbeats 4000000 in
set_option maxRecDepth 100000 in
theorem ct_X13_isDesign (l : Launch) (dC : Nat → ClassId) (dI : Nat → Nat → Nat) (sz : Nat) (k : Int32) (m0 : Nat) (mg : List Value) (mdA : Nat) (mdC : ClassId) (hmg : fx mg 225 [(55, .ref mdA)]) : Met l yX13_isDesign (Cond.code yX13_isDesign cX13_isDesign 2 (some .boolean) :: BG) ({ frames := 1, cells := 0, slots := 0, locals := 12 }) (va_Pc [.ref m0, .int k] (fun U => U.heap.size = sz ∧ va_P (dC, dI) CL [(m0, .inr (13, mg)), (mdA, .inl (mdC, (6, .inl (fun _ => 0))))] U.heap ∧ va_K (dC, dI) CL [(mdC, .boolean)] U ∧ va_D (fun _ => True) [(m0, .inr (13, mg)), (mdA, .inl (mdC, (6, .inl (fun _ => 0))))])) (va_Qi (fun (r : Int32) (_ : Unit) => r = 0) (fun _ t => va_P (dC, dI) CL [(m0, .inr (13, mg)), (mdA, .inl (mdC, (6, .inl (fun _ => 0))))] t.heap ∧ va_K (dC, dI) CL [(mdC, .boolean)] t ∧ va_D (va_A [(m0, .inr (13, mg)), (mdA, .inl (mdC, (6, .inl (fun _ => 0))))] sz) [(m0, .inr (13, mg)), (mdA, .inl (mdC, (6, .inl (fun _ => 0))))]) (va_A [(m0, .inr (13, mg)), (mdA, .inl (mdC, (6, .inl (fun _ => 0))))] sz)) 0 0 (va_A [(m0, .inr (13, mg)), (mdA, .inl (mdC, (6, .inl (fun _ => 0))))] sz) := by
  refine Met.ofW (cc := cX13_isDesign) (maxL := 2) (ret := (some .boolean)) (by decide) rfl ?_
  intro p e s m args below meth c s₁ B hml hv
  obtain ⟨rfl, hsz, hP, hK, hD0⟩ := hv
  have hx := B.exec
  have hb := B.bytes
  have hr := B.returns
  have hts : ∀ w ∈ BG, w.before _ s = true := fun w h => atoms_spec (ws := Cond.code yX13_isDesign cX13_isDesign 2 (some .boolean) :: BG) B.pre w (List.mem_cons_of_mem _ h)
  have hown : s.vm.findClass RX13 = some m.cls := findClass_of_methodNamed B.named
  have hlocks := B.notSynchronized
  subst hsz
  have hD := hD0.self (sz := s.heap.size)
  generalize hAe : va_A [(m0, .inr (13, mg)), (mdA, .inl (mdC, (6, .inl (fun _ => 0))))] s.heap.size = A at hD ⊢
  have hA : ∀ q : Nat, s.heap.size ≤ q → A q := fun q h => by rw [← hAe]; exact Or.inr h
  have hS : va_S A s.heap s.heap [] := va_S.rf
  have hl := lv_entry ([.ref m0, .int k]) (n := 2) (Nat.le_of_ble_eq_true rfl)
  rw [lg_entry_eq]
  generalize (lg_sl ([.ref m0, .int k]) ++ List.replicate (2 - (lg_sl ([.ref m0, .int k])).length) Slot.unset).toArray = ls at hl ⊢
  have hl : lv_has ls 2 [(0, .ref m0), (1, .int k)] := hl
  have key : W p l e (headSpec (Cond.code yX13_isDesign cX13_isDesign 2 (some .boolean) :: BG) { frames := 1, cells := 0, slots := 0, locals := 12 }).room s m ([Value.ref m0, Value.int k] : List Value).toArray below meth c s.heap [] 0 0 (MQ below (va_Qi (fun (r : Int32) (_ : Unit) => r = 0) (fun _ t => va_P (dC, dI) CL [(m0, .inr (13, mg)), (mdA, .inl (mdC, (6, .inl (fun _ => 0))))] t.heap ∧ va_K (dC, dI) CL [(mdC, .boolean)] t ∧ va_D A [(m0, .inr (13, mg)), (mdA, .inl (mdC, (6, .inl (fun _ => 0))))]) A) ([Value.ref m0, Value.int k] : List Value).toArray s 0 0 A) (F0 m 23 ls []) := by
    refine lv_iconst (v := 0) hx hb dX13_isDesign_23 (by decide +kernel) ?_
    exact W.zret (v := 0) hx hb hr rfl (fun t ht hW => ⟨⟨0, (), rfl, rfl, by rw [ht]; exact hP, va_K.moved hW.alike hK, hD⟩, hS.F ht⟩) hS.2.2 dX13_isDesign_24
  refine lv_iload_n hx hb dX13_isDesign_0 rfl (lv_at hl 1 rfl) ?_
  refine lv_if_lt (tgt := 23) hx hb dX13_isDesign_1 (by decide) (fun _ => key) (fun c1 => ?_)
  refine lv_iload_n hx hb dX13_isDesign_4 rfl (lv_at hl 1 rfl) ?_
  refine lv_bipush (v := 6) hx hb dX13_isDesign_5 (by decide +kernel) ?_
  refine lv_icmp_ge (tgt := 23) hx hb dX13_isDesign_7 (by decide) (fun _ => key) (fun c2 => ?_)
  obtain ⟨j, hj, ej, -⟩ := pk_mu (L := 6) c1 c2 (by decide)
  refine lv_aload_n hx hb dX13_isDesign_10 rfl (lv_at hl 0 rfl) ?_
  refine va_get (D := (dC, dI)) (ci := 13) (v := .ref mdA) (C := RX13) (T := TX13) (N := 225) hx hb hts inX13 hown hK hP 0 rfl rfl 55 (by decide) (hts (.fieldLink RX13 125 "ChipFlowModel" "designThere" "[Z") wd_3086) (fun _ h9 => h9) (hmg.get 0 rfl) dX13_isDesign_11 ?_
  refine lv_iload_n hx hb dX13_isDesign_14 rfl (lv_at hl 1 rfl) ?_
  refine va_zald hx hb hK hP 1 0 rfl rfl (by rw [ej]; exact vp_in_nI hj (by decide)) dX13_isDesign_15 ?_
  exact lv_if_eq (tgt := 23) hx hb dX13_isDesign_16 (by decide) (fun _ => key) (fun c3 => absurd rfl c3)
set_option maxHeartbeats 4000000 in
set_option maxRecDepth 100000 in
theorem ct_X13_isLibrary (l : Launch) (dC : Nat → ClassId) (dI : Nat → Nat → Nat) (sz : Nat) (k : Int32) (m0 : Nat) (mg : List Value) (mlA : Nat) (mlC : ClassId) (hmg : fx mg 225 [(88, .ref mlA)]) : Met l yX13_isLibrary (Cond.code yX13_isLibrary cX13_isLibrary 2 (some .boolean) :: BG) ({ frames := 1, cells := 0, slots := 0, locals := 12 }) (va_Pc [.ref m0, .int k] (fun U => U.heap.size = sz ∧ va_P (dC, dI) CL [(m0, .inr (13, mg)), (mlA, .inl (mlC, (3, .inl (fun _ => 0))))] U.heap ∧ va_K (dC, dI) CL [(mlC, .boolean)] U ∧ va_D (fun _ => True) [(m0, .inr (13, mg)), (mlA, .inl (mlC, (3, .inl (fun _ => 0))))])) (va_Qi (fun (r : Int32) (_ : Unit) => r = 0) (fun _ t => va_P (dC, dI) CL [(m0, .inr (13, mg)), (mlA, .inl (mlC, (3, .inl (fun _ => 0))))] t.heap ∧ va_K (dC, dI) CL [(mlC, .boolean)] t ∧ va_D (va_A [(m0, .inr (13, mg)), (mlA, .inl (mlC, (3, .inl (fun _ => 0))))] sz) [(m0, .inr (13, mg)), (mlA, .inl (mlC, (3, .inl (fun _ => 0))))]) (va_A [(m0, .inr (13, mg)), (mlA, .inl (mlC, (3, .inl (fun _ => 0))))] sz)) 0 0 (va_A [(m0, .inr (13, mg)), (mlA, .inl (mlC, (3, .inl (fun _ => 0))))] sz) := by
  refine Met.ofW (cc := cX13_isLibrary) (maxL := 2) (ret := (some .boolean)) (by decide) rfl ?_
  intro p e s m args below meth c s₁ B hml hv
  obtain ⟨rfl, hsz, hP, hK, hD0⟩ := hv
  have hx := B.exec
  have hb := B.bytes
  have hr := B.returns
  have hts : ∀ w ∈ BG, w.before _ s = true := fun w h => atoms_spec (ws := Cond.code yX13_isLibrary cX13_isLibrary 2 (some .boolean) :: BG) B.pre w (List.mem_cons_of_mem _ h)
  have hown : s.vm.findClass RX13 = some m.cls := findClass_of_methodNamed B.named
  have hlocks := B.notSynchronized
  subst hsz
  have hD := hD0.self (sz := s.heap.size)
  generalize hAe : va_A [(m0, .inr (13, mg)), (mlA, .inl (mlC, (3, .inl (fun _ => 0))))] s.heap.size = A at hD ⊢
  have hA : ∀ q : Nat, s.heap.size ≤ q → A q := fun q h => by rw [← hAe]; exact Or.inr h
  have hS : va_S A s.heap s.heap [] := va_S.rf
  have hl := lv_entry ([.ref m0, .int k]) (n := 2) (Nat.le_of_ble_eq_true rfl)
  rw [lg_entry_eq]
  generalize (lg_sl ([.ref m0, .int k]) ++ List.replicate (2 - (lg_sl ([.ref m0, .int k])).length) Slot.unset).toArray = ls at hl ⊢
  have hl : lv_has ls 2 [(0, .ref m0), (1, .int k)] := hl
  have key : W p l e (headSpec (Cond.code yX13_isLibrary cX13_isLibrary 2 (some .boolean) :: BG) { frames := 1, cells := 0, slots := 0, locals := 12 }).room s m ([Value.ref m0, Value.int k] : List Value).toArray below meth c s.heap [] 0 0 (MQ below (va_Qi (fun (r : Int32) (_ : Unit) => r = 0) (fun _ t => va_P (dC, dI) CL [(m0, .inr (13, mg)), (mlA, .inl (mlC, (3, .inl (fun _ => 0))))] t.heap ∧ va_K (dC, dI) CL [(mlC, .boolean)] t ∧ va_D A [(m0, .inr (13, mg)), (mlA, .inl (mlC, (3, .inl (fun _ => 0))))]) A) ([Value.ref m0, Value.int k] : List Value).toArray s 0 0 A) (F0 m 22 ls []) := by
    refine lv_iconst (v := 0) hx hb dX13_isLibrary_22 (by decide +kernel) ?_
    exact W.zret (v := 0) hx hb hr rfl (fun t ht hW => ⟨⟨0, (), rfl, rfl, by rw [ht]; exact hP, va_K.moved hW.alike hK, hD⟩, hS.F ht⟩) hS.2.2 dX13_isLibrary_23
  refine lv_iload_n hx hb dX13_isLibrary_0 rfl (lv_at hl 1 rfl) ?_
  refine lv_if_lt (tgt := 22) hx hb dX13_isLibrary_1 (by decide) (fun _ => key) (fun c1 => ?_)
  refine lv_iload_n hx hb dX13_isLibrary_4 rfl (lv_at hl 1 rfl) ?_
  refine lv_iconst (v := 3) hx hb dX13_isLibrary_5 (by decide +kernel) ?_
  refine lv_icmp_ge (tgt := 22) hx hb dX13_isLibrary_6 (by decide) (fun _ => key) (fun c2 => ?_)
  obtain ⟨j, hj, ej, -⟩ := pk_mu (L := 3) c1 c2 (by decide)
  refine lv_aload_n hx hb dX13_isLibrary_9 rfl (lv_at hl 0 rfl) ?_
  refine va_get (D := (dC, dI)) (ci := 13) (v := .ref mlA) (C := RX13) (T := TX13) (N := 225) hx hb hts inX13 hown hK hP 0 rfl rfl 88 (by decide) (hts (.fieldLink RX13 216 "ChipFlowModel" "libraryThere" "[Z") wd_3119) (fun _ h9 => h9) (hmg.get 0 rfl) dX13_isLibrary_10 ?_
  refine lv_iload_n hx hb dX13_isLibrary_13 rfl (lv_at hl 1 rfl) ?_
  refine va_zald hx hb hK hP 1 0 rfl rfl (by rw [ej]; exact vp_in_nI hj (by decide)) dX13_isLibrary_14 ?_
  exact lv_if_eq (tgt := 22) hx hb dX13_isLibrary_15 (by decide) (fun _ => key) (fun c3 => absurd rfl c3)
set_option maxHeartbeats 4000000 in
set_option maxRecDepth 100000 in
theorem ct_X13_isChip (l : Launch) (dC : Nat → ClassId) (dI : Nat → Nat → Nat) (sz : Nat) (k : Int32) (m0 : Nat) (mg : List Value) (mcA : Nat) (mcC : ClassId) (hmg : fx mg 225 [(138, .ref mcA)]) : Met l yX13_isChip (Cond.code yX13_isChip cX13_isChip 2 (some .boolean) :: BG) ({ frames := 1, cells := 0, slots := 0, locals := 12 }) (va_Pc [.ref m0, .int k] (fun U => U.heap.size = sz ∧ va_P (dC, dI) CL [(m0, .inr (13, mg)), (mcA, .inl (mcC, (4, .inl (fun _ => 0))))] U.heap ∧ va_K (dC, dI) CL [(mcC, .boolean)] U ∧ va_D (fun _ => True) [(m0, .inr (13, mg)), (mcA, .inl (mcC, (4, .inl (fun _ => 0))))])) (va_Qi (fun (r : Int32) (_ : Unit) => r = 0) (fun _ t => va_P (dC, dI) CL [(m0, .inr (13, mg)), (mcA, .inl (mcC, (4, .inl (fun _ => 0))))] t.heap ∧ va_K (dC, dI) CL [(mcC, .boolean)] t ∧ va_D (va_A [(m0, .inr (13, mg)), (mcA, .inl (mcC, (4, .inl (fun _ => 0))))] sz) [(m0, .inr (13, mg)), (mcA, .inl (mcC, (4, .inl (fun _ => 0))))]) (va_A [(m0, .inr (13, mg)), (mcA, .inl (mcC, (4, .inl (fun _ => 0))))] sz)) 0 0 (va_A [(m0, .inr (13, mg)), (mcA, .inl (mcC, (4, .inl (fun _ => 0))))] sz) := by
  refine Met.ofW (cc := cX13_isChip) (maxL := 2) (ret := (some .boolean)) (by decide) rfl ?_
  intro p e s m args below meth c s₁ B hml hv
  obtain ⟨rfl, hsz, hP, hK, hD0⟩ := hv
  have hx := B.exec
  have hb := B.bytes
  have hr := B.returns
  have hts : ∀ w ∈ BG, w.before _ s = true := fun w h => atoms_spec (ws := Cond.code yX13_isChip cX13_isChip 2 (some .boolean) :: BG) B.pre w (List.mem_cons_of_mem _ h)
  have hown : s.vm.findClass RX13 = some m.cls := findClass_of_methodNamed B.named
  have hlocks := B.notSynchronized
  subst hsz
  have hD := hD0.self (sz := s.heap.size)
  generalize hAe : va_A [(m0, .inr (13, mg)), (mcA, .inl (mcC, (4, .inl (fun _ => 0))))] s.heap.size = A at hD ⊢
  have hA : ∀ q : Nat, s.heap.size ≤ q → A q := fun q h => by rw [← hAe]; exact Or.inr h
  have hS : va_S A s.heap s.heap [] := va_S.rf
  have hl := lv_entry ([.ref m0, .int k]) (n := 2) (Nat.le_of_ble_eq_true rfl)
  rw [lg_entry_eq]
  generalize (lg_sl ([.ref m0, .int k]) ++ List.replicate (2 - (lg_sl ([.ref m0, .int k])).length) Slot.unset).toArray = ls at hl ⊢
  have hl : lv_has ls 2 [(0, .ref m0), (1, .int k)] := hl
  have key : W p l e (headSpec (Cond.code yX13_isChip cX13_isChip 2 (some .boolean) :: BG) { frames := 1, cells := 0, slots := 0, locals := 12 }).room s m ([Value.ref m0, Value.int k] : List Value).toArray below meth c s.heap [] 0 0 (MQ below (va_Qi (fun (r : Int32) (_ : Unit) => r = 0) (fun _ t => va_P (dC, dI) CL [(m0, .inr (13, mg)), (mcA, .inl (mcC, (4, .inl (fun _ => 0))))] t.heap ∧ va_K (dC, dI) CL [(mcC, .boolean)] t ∧ va_D A [(m0, .inr (13, mg)), (mcA, .inl (mcC, (4, .inl (fun _ => 0))))]) A) ([Value.ref m0, Value.int k] : List Value).toArray s 0 0 A) (F0 m 22 ls []) := by
    refine lv_iconst (v := 0) hx hb dX13_isChip_22 (by decide +kernel) ?_
    exact W.zret (v := 0) hx hb hr rfl (fun t ht hW => ⟨⟨0, (), rfl, rfl, by rw [ht]; exact hP, va_K.moved hW.alike hK, hD⟩, hS.F ht⟩) hS.2.2 dX13_isChip_23
  refine lv_iload_n hx hb dX13_isChip_0 rfl (lv_at hl 1 rfl) ?_
  refine lv_if_lt (tgt := 22) hx hb dX13_isChip_1 (by decide) (fun _ => key) (fun c1 => ?_)
  refine lv_iload_n hx hb dX13_isChip_4 rfl (lv_at hl 1 rfl) ?_
  refine lv_iconst (v := 4) hx hb dX13_isChip_5 (by decide +kernel) ?_
  refine lv_icmp_ge (tgt := 22) hx hb dX13_isChip_6 (by decide) (fun _ => key) (fun c2 => ?_)
  obtain ⟨j, hj, ej, -⟩ := pk_mu (L := 4) c1 c2 (by decide)
  refine lv_aload_n hx hb dX13_isChip_9 rfl (lv_at hl 0 rfl) ?_
  refine va_get (D := (dC, dI)) (ci := 13) (v := .ref mcA) (C := RX13) (T := TX13) (N := 225) hx hb hts inX13 hown hK hP 0 rfl rfl 138 (by decide) (hts (.fieldLink RX13 333 "ChipFlowModel" "chipThere" "[Z") wd_3169) (fun _ h9 => h9) (hmg.get 0 rfl) dX13_isChip_10 ?_
  refine lv_iload_n hx hb dX13_isChip_13 rfl (lv_at hl 1 rfl) ?_
  refine va_zald hx hb hK hP 1 0 rfl rfl (by rw [ej]; exact vp_in_nI hj (by decide)) dX13_isChip_14 ?_
  exact lv_if_eq (tgt := 22) hx hb dX13_isChip_15 (by decide) (fun _ => key) (fun c3 => absurd rfl c3)
set_option maxHeartbeats 4000000 in
set_option maxRecDepth 100000 in
theorem ct_X13_isNet (l : Launch) (dC : Nat → ClassId) (dI : Nat → Nat → Nat) (sz : Nat) (p0 : Int32) (p1 : Int32) (m0 : Nat) (mg : List Value) (mcA : Nat) (mcC : ClassId) (hmg : fx mg 225 [(138, .ref mcA)]) : Met l yX13_isNet (Cond.code yX13_isNet cX13_isNet 3 (some .boolean) :: BG) ({ frames := 2, cells := 0, slots := 0, locals := 33 }) (va_Pc [.ref m0, .int p0, .int p1] (fun U => U.heap.size = sz ∧ va_P (dC, dI) CL [(m0, .inr (13, mg)), (mcA, .inl (mcC, (4, .inl (fun _ => 0))))] U.heap ∧ va_K (dC, dI) CL [(mcC, .boolean)] U ∧ va_D (fun _ => True) [(m0, .inr (13, mg)), (mcA, .inl (mcC, (4, .inl (fun _ => 0))))])) (va_Qi (fun (r : Int32) (_ : Unit) => r = 0) (fun _ t => va_P (dC, dI) CL [(m0, .inr (13, mg)), (mcA, .inl (mcC, (4, .inl (fun _ => 0))))] t.heap ∧ va_K (dC, dI) CL [(mcC, .boolean)] t ∧ va_D (va_A [(m0, .inr (13, mg)), (mcA, .inl (mcC, (4, .inl (fun _ => 0))))] sz) [(m0, .inr (13, mg)), (mcA, .inl (mcC, (4, .inl (fun _ => 0))))]) (va_A [(m0, .inr (13, mg)), (mcA, .inl (mcC, (4, .inl (fun _ => 0))))] sz)) 0 0 (va_A [(m0, .inr (13, mg)), (mcA, .inl (mcC, (4, .inl (fun _ => 0))))] sz) := by
  refine Met.ofW (cc := cX13_isNet) (maxL := 3) (ret := (some .boolean)) (by decide) rfl ?_
  intro p e s m args below meth c s₁ B hml hv
  obtain ⟨rfl, hsz, hP, hK, hD0⟩ := hv
  have hx := B.exec
  have hb := B.bytes
  have hr := B.returns
  have hts : ∀ w ∈ BG, w.before _ s = true := fun w h => atoms_spec (ws := Cond.code yX13_isNet cX13_isNet 3 (some .boolean) :: BG) B.pre w (List.mem_cons_of_mem _ h)
  have hown : s.vm.findClass RX13 = some m.cls := findClass_of_methodNamed B.named
  have hlocks := B.notSynchronized
  subst hsz
  have hD := hD0.self (sz := s.heap.size)
  generalize hAe : va_A [(m0, .inr (13, mg)), (mcA, .inl (mcC, (4, .inl (fun _ => 0))))] s.heap.size = A at hD ⊢
  have hA : ∀ q : Nat, s.heap.size ≤ q → A q := fun q h => by rw [← hAe]; exact Or.inr h
  have hS : va_S A s.heap s.heap [] := va_S.rf
  have hl := lv_entry ([.ref m0, .int p0, .int p1]) (n := 3) (Nat.le_of_ble_eq_true rfl)
  rw [lg_entry_eq]
  generalize (lg_sl ([.ref m0, .int p0, .int p1]) ++ List.replicate (3 - (lg_sl ([.ref m0, .int p0, .int p1])).length) Slot.unset).toArray = ls at hl ⊢
  have hl : lv_has ls 3 [(0, .ref m0), (1, .int p0), (2, .int p1)] := hl
  refine lv_aload_n hx hb dX13_isNet_0 rfl (lv_at hl 0 rfl) ?_
  refine lv_iload_n hx hb dX13_isNet_1 rfl (lv_at hl 1 rfl) ?_
  have hPc := hP.sub (ws' := [(m0, .inr (13, mg)), (mcA, .inl (mcC, (4, .inl (fun _ => 0))))]) [0, 1] rfl
  have hDc := hD.sub (ws' := [(m0, .inr (13, mg)), (mcA, .inl (mcC, (4, .inl (fun _ => 0))))]) [0, 1] (by decide) rfl
  have hKc := hK.sub (tys' := [(mcC, .boolean)]) [0] rfl
  have hFc := va_free (wc := [(m0, .inr (13, mg)), (mcA, .inl (mcC, (4, .inl (fun _ => 0))))]) hD hS hA [0, 1] rfl
  refine va_calli (va_runV (As := [.int p0]) (rest := []) ⟨hx, hb, hml, hown, hts⟩ (ct_X13_isChip l dC dI _ p0 m0 mg mcA mcC (hmg.sub [0] rfl)) (cwV 1 hts (gi_V wd_4084 wd_4086 wd_217 wd_340 wd_4087) rfl rfl rfl (by decide +kernel) ⟨(Nat.le_of_ble_eq_true rfl), (Nat.le_of_ble_eq_true rfl)⟩) ⟨fun a U g mk q => by obtain ⟨q0, q1, qP, qK, qD⟩ := q; exact ⟨q0, q1, qP, va_K.moved (u := U) (U := U.calling g mk a) (Vm.Alike.refl U.vm) qK, qD⟩, va_recv hKc hPc (ci := 13) (q0 := 0) rfl rfl, fun U hU hW => ⟨rfl, by rw [hU], by rw [hU]; exact hPc, va_K.moved hW.alike hKc, hDc.weaken (fun _ _ _ _ => trivial)⟩⟩ rfl rfl hl.1 rfl (lv_room (Nat.le_of_ble_eq_true rfl)) dX13_isNet_2 ⟨(Nat.le_of_ble_eq_true rfl), (Nat.le_of_ble_eq_true rfl)⟩) hS (fun q _ h => hFc q h) hFc (fun r u t H1 locs ht hvm hw hB hz1 hk1 hS => ?_)
  subst hw
  obtain ⟨hP1, hK1, hD1⟩ := hB
  rw [ht] at hP1
  obtain ⟨hP, hD⟩ := va_join (wr := []) (w1 := [(m0, .inr (13, mg)), (mcA, .inl (mcC, (4, .inl (fun _ => 0))))]) hP hD [0, 1] [] rfl rfl (by decide) (by decide) hk1 hFc hP1 hD1
  have hP := hP.sub (ws' := [(m0, .inr (13, mg)), (mcA, .inl (mcC, (4, .inl (fun _ => 0))))]) [0, 1] rfl
  have hD := hD.sub (ws' := [(m0, .inr (13, mg)), (mcA, .inl (mcC, (4, .inl (fun _ => 0))))]) [0, 1] (by decide) rfl
  generalize H1 = H at hP hS ⊢
  have hP : va_P (dC, dI) CL [(m0, .inr (13, mg)), (mcA, .inl (mcC, (4, .inl (fun _ => 0))))] H := hP
  have hD : va_D A [(m0, .inr (13, mg)), (mcA, .inl (mcC, (4, .inl (fun _ => 0))))] := hD
  refine lv_if_eq (tgt := 25) hx hb dX13_isNet_5 (by decide) (fun c9 => ?_) (fun c9 => ?_)
  rotate_left
  · first | exact absurd c9 (by decide +kernel) | exact absurd (by decide +kernel) c9
  refine lv_iconst (v := 0) hx hb dX13_isNet_25 (by decide +kernel) ?_
  exact W.zret (v := 0) hx hb hr rfl (fun t ht hW => ⟨⟨0, (), rfl, rfl, by rw [ht]; exact hP, va_K.moved hW.alike hK, hD⟩, hS.F ht⟩) hS.2.2 dX13_isNet_26
set_option maxHeartbeats 4000000 in
set_option maxRecDepth 100000 in
theorem ct_X13_isElement (l : Launch) (dC : Nat → ClassId) (dI : Nat → Nat → Nat) (sz : Nat) (p0 : Int32) (p1 : Int32) (m0 : Nat) (mg : List Value) (mcA : Nat) (mcC : ClassId) (hmg : fx mg 225 [(138, .ref mcA)]) : Met l yX13_isElement (Cond.code yX13_isElement cX13_isElement 3 (some .boolean) :: BG) ({ frames := 2, cells := 0, slots := 0, locals := 33 }) (va_Pc [.ref m0, .int p0, .int p1] (fun U => U.heap.size = sz ∧ va_P (dC, dI) CL [(m0, .inr (13, mg)), (mcA, .inl (mcC, (4, .inl (fun _ => 0))))] U.heap ∧ va_K (dC, dI) CL [(mcC, .boolean)] U ∧ va_D (fun _ => True) [(m0, .inr (13, mg)), (mcA, .inl (mcC, (4, .inl (fun _ => 0))))])) (va_Qi (fun (r : Int32) (_ : Unit) => r = 0) (fun _ t => va_P (dC, dI) CL [(m0, .inr (13, mg)), (mcA, .inl (mcC, (4, .inl (fun _ => 0))))] t.heap ∧ va_K (dC, dI) CL [(mcC, .boolean)] t ∧ va_D (va_A [(m0, .inr (13, mg)), (mcA, .inl (mcC, (4, .inl (fun _ => 0))))] sz) [(m0, .inr (13, mg)), (mcA, .inl (mcC, (4, .inl (fun _ => 0))))]) (va_A [(m0, .inr (13, mg)), (mcA, .inl (mcC, (4, .inl (fun _ => 0))))] sz)) 0 0 (va_A [(m0, .inr (13, mg)), (mcA, .inl (mcC, (4, .inl (fun _ => 0))))] sz) := by
  refine Met.ofW (cc := cX13_isElement) (maxL := 3) (ret := (some .boolean)) (by decide) rfl ?_
  intro p e s m args below meth c s₁ B hml hv
  obtain ⟨rfl, hsz, hP, hK, hD0⟩ := hv
  have hx := B.exec
  have hb := B.bytes
  have hr := B.returns
  have hts : ∀ w ∈ BG, w.before _ s = true := fun w h => atoms_spec (ws := Cond.code yX13_isElement cX13_isElement 3 (some .boolean) :: BG) B.pre w (List.mem_cons_of_mem _ h)
  have hown : s.vm.findClass RX13 = some m.cls := findClass_of_methodNamed B.named
  have hlocks := B.notSynchronized
  subst hsz
  have hD := hD0.self (sz := s.heap.size)
  generalize hAe : va_A [(m0, .inr (13, mg)), (mcA, .inl (mcC, (4, .inl (fun _ => 0))))] s.heap.size = A at hD ⊢
  have hA : ∀ q : Nat, s.heap.size ≤ q → A q := fun q h => by rw [← hAe]; exact Or.inr h
  have hS : va_S A s.heap s.heap [] := va_S.rf
  have hl := lv_entry ([.ref m0, .int p0, .int p1]) (n := 3) (Nat.le_of_ble_eq_true rfl)
  rw [lg_entry_eq]
  generalize (lg_sl ([.ref m0, .int p0, .int p1]) ++ List.replicate (3 - (lg_sl ([.ref m0, .int p0, .int p1])).length) Slot.unset).toArray = ls at hl ⊢
  have hl : lv_has ls 3 [(0, .ref m0), (1, .int p0), (2, .int p1)] := hl
  refine lv_aload_n hx hb dX13_isElement_0 rfl (lv_at hl 0 rfl) ?_
  refine lv_iload_n hx hb dX13_isElement_1 rfl (lv_at hl 1 rfl) ?_
  have hPc := hP.sub (ws' := [(m0, .inr (13, mg)), (mcA, .inl (mcC, (4, .inl (fun _ => 0))))]) [0, 1] rfl
  have hDc := hD.sub (ws' := [(m0, .inr (13, mg)), (mcA, .inl (mcC, (4, .inl (fun _ => 0))))]) [0, 1] (by decide) rfl
  have hKc := hK.sub (tys' := [(mcC, .boolean)]) [0] rfl
  have hFc := va_free (wc := [(m0, .inr (13, mg)), (mcA, .inl (mcC, (4, .inl (fun _ => 0))))]) hD hS hA [0, 1] rfl
  refine va_calli (va_runV (As := [.int p0]) (rest := []) ⟨hx, hb, hml, hown, hts⟩ (ct_X13_isChip l dC dI _ p0 m0 mg mcA mcC (hmg.sub [0] rfl)) (cwV 1 hts (gi_V wd_4084 wd_4086 wd_217 wd_340 wd_4087) rfl rfl rfl (by decide +kernel) ⟨(Nat.le_of_ble_eq_true rfl), (Nat.le_of_ble_eq_true rfl)⟩) ⟨fun a U g mk q => by obtain ⟨q0, q1, qP, qK, qD⟩ := q; exact ⟨q0, q1, qP, va_K.moved (u := U) (U := U.calling g mk a) (Vm.Alike.refl U.vm) qK, qD⟩, va_recv hKc hPc (ci := 13) (q0 := 0) rfl rfl, fun U hU hW => ⟨rfl, by rw [hU], by rw [hU]; exact hPc, va_K.moved hW.alike hKc, hDc.weaken (fun _ _ _ _ => trivial)⟩⟩ rfl rfl hl.1 rfl (lv_room (Nat.le_of_ble_eq_true rfl)) dX13_isElement_2 ⟨(Nat.le_of_ble_eq_true rfl), (Nat.le_of_ble_eq_true rfl)⟩) hS (fun q _ h => hFc q h) hFc (fun r u t H1 locs ht hvm hw hB hz1 hk1 hS => ?_)
  subst hw
  obtain ⟨hP1, hK1, hD1⟩ := hB
  rw [ht] at hP1
  obtain ⟨hP, hD⟩ := va_join (wr := []) (w1 := [(m0, .inr (13, mg)), (mcA, .inl (mcC, (4, .inl (fun _ => 0))))]) hP hD [0, 1] [] rfl rfl (by decide) (by decide) hk1 hFc hP1 hD1
  have hP := hP.sub (ws' := [(m0, .inr (13, mg)), (mcA, .inl (mcC, (4, .inl (fun _ => 0))))]) [0, 1] rfl
  have hD := hD.sub (ws' := [(m0, .inr (13, mg)), (mcA, .inl (mcC, (4, .inl (fun _ => 0))))]) [0, 1] (by decide) rfl
  generalize H1 = H at hP hS ⊢
  have hP : va_P (dC, dI) CL [(m0, .inr (13, mg)), (mcA, .inl (mcC, (4, .inl (fun _ => 0))))] H := hP
  have hD : va_D A [(m0, .inr (13, mg)), (mcA, .inl (mcC, (4, .inl (fun _ => 0))))] := hD
  refine lv_if_eq (tgt := 25) hx hb dX13_isElement_5 (by decide) (fun c9 => ?_) (fun c9 => ?_)
  rotate_left
  · first | exact absurd c9 (by decide +kernel) | exact absurd (by decide +kernel) c9
  refine lv_iconst (v := 0) hx hb dX13_isElement_25 (by decide +kernel) ?_
  exact W.zret (v := 0) hx hb hr rfl (fun t ht hW => ⟨⟨0, (), rfl, rfl, by rw [ht]; exact hP, va_K.moved hW.alike hK, hD⟩, hS.F ht⟩) hS.2.2 dX13_isElement_26
set_option maxHeartbeats 4000000 in
set_option maxRecDepth 100000 in
theorem ct_X13_patternCode (l : Launch) (dC : Nat → ClassId) (dI : Nat → Nat → Nat) (sz : Nat) (p0 : Int32) (p1 : Int32) (m0 : Nat) (mg : List Value) (mcA : Nat) (mcC : ClassId) (hmg : fx mg 225 [(138, .ref mcA)]) : Met l yX13_patternCode (Cond.code yX13_patternCode cX13_patternCode 3 (some .int) :: BG) ({ frames := 2, cells := 0, slots := 0, locals := 33 }) (va_Pc [.ref m0, .int p0, .int p1] (fun U => U.heap.size = sz ∧ va_P (dC, dI) CL [(m0, .inr (13, mg)), (mcA, .inl (mcC, (4, .inl (fun _ => 0))))] U.heap ∧ va_K (dC, dI) CL [(mcC, .boolean)] U ∧ va_D (fun _ => True) [(m0, .inr (13, mg)), (mcA, .inl (mcC, (4, .inl (fun _ => 0))))])) (va_Qi (fun (r : Int32) (_ : Unit) => r = 1) (fun _ t => va_P (dC, dI) CL [(m0, .inr (13, mg)), (mcA, .inl (mcC, (4, .inl (fun _ => 0))))] t.heap ∧ va_K (dC, dI) CL [(mcC, .boolean)] t ∧ va_D (va_A [(m0, .inr (13, mg)), (mcA, .inl (mcC, (4, .inl (fun _ => 0))))] sz) [(m0, .inr (13, mg)), (mcA, .inl (mcC, (4, .inl (fun _ => 0))))]) (va_A [(m0, .inr (13, mg)), (mcA, .inl (mcC, (4, .inl (fun _ => 0))))] sz)) 0 0 (va_A [(m0, .inr (13, mg)), (mcA, .inl (mcC, (4, .inl (fun _ => 0))))] sz) := by
  refine Met.ofW (cc := cX13_patternCode) (maxL := 3) (ret := (some .int)) (by decide) rfl ?_
  intro p e s m args below meth c s₁ B hml hv
  obtain ⟨rfl, hsz, hP, hK, hD0⟩ := hv
  have hx := B.exec
  have hb := B.bytes
  have hr := B.returns
  have hts : ∀ w ∈ BG, w.before _ s = true := fun w h => atoms_spec (ws := Cond.code yX13_patternCode cX13_patternCode 3 (some .int) :: BG) B.pre w (List.mem_cons_of_mem _ h)
  have hown : s.vm.findClass RX13 = some m.cls := findClass_of_methodNamed B.named
  have hlocks := B.notSynchronized
  subst hsz
  have hD := hD0.self (sz := s.heap.size)
  generalize hAe : va_A [(m0, .inr (13, mg)), (mcA, .inl (mcC, (4, .inl (fun _ => 0))))] s.heap.size = A at hD ⊢
  have hA : ∀ q : Nat, s.heap.size ≤ q → A q := fun q h => by rw [← hAe]; exact Or.inr h
  have hS : va_S A s.heap s.heap [] := va_S.rf
  have hl := lv_entry ([.ref m0, .int p0, .int p1]) (n := 3) (Nat.le_of_ble_eq_true rfl)
  rw [lg_entry_eq]
  generalize (lg_sl ([.ref m0, .int p0, .int p1]) ++ List.replicate (3 - (lg_sl ([.ref m0, .int p0, .int p1])).length) Slot.unset).toArray = ls at hl ⊢
  have hl : lv_has ls 3 [(0, .ref m0), (1, .int p0), (2, .int p1)] := hl
  refine lv_aload_n hx hb dX13_patternCode_0 rfl (lv_at hl 0 rfl) ?_
  refine lv_iload_n hx hb dX13_patternCode_1 rfl (lv_at hl 1 rfl) ?_
  have hPc := hP.sub (ws' := [(m0, .inr (13, mg)), (mcA, .inl (mcC, (4, .inl (fun _ => 0))))]) [0, 1] rfl
  have hDc := hD.sub (ws' := [(m0, .inr (13, mg)), (mcA, .inl (mcC, (4, .inl (fun _ => 0))))]) [0, 1] (by decide) rfl
  have hKc := hK.sub (tys' := [(mcC, .boolean)]) [0] rfl
  have hFc := va_free (wc := [(m0, .inr (13, mg)), (mcA, .inl (mcC, (4, .inl (fun _ => 0))))]) hD hS hA [0, 1] rfl
  refine va_calli (va_runV (As := [.int p0]) (rest := []) ⟨hx, hb, hml, hown, hts⟩ (ct_X13_isChip l dC dI _ p0 m0 mg mcA mcC (hmg.sub [0] rfl)) (cwV 1 hts (gi_V wd_4084 wd_4086 wd_217 wd_340 wd_4087) rfl rfl rfl (by decide +kernel) ⟨(Nat.le_of_ble_eq_true rfl), (Nat.le_of_ble_eq_true rfl)⟩) ⟨fun a U g mk q => by obtain ⟨q0, q1, qP, qK, qD⟩ := q; exact ⟨q0, q1, qP, va_K.moved (u := U) (U := U.calling g mk a) (Vm.Alike.refl U.vm) qK, qD⟩, va_recv hKc hPc (ci := 13) (q0 := 0) rfl rfl, fun U hU hW => ⟨rfl, by rw [hU], by rw [hU]; exact hPc, va_K.moved hW.alike hKc, hDc.weaken (fun _ _ _ _ => trivial)⟩⟩ rfl rfl hl.1 rfl (lv_room (Nat.le_of_ble_eq_true rfl)) dX13_patternCode_2 ⟨(Nat.le_of_ble_eq_true rfl), (Nat.le_of_ble_eq_true rfl)⟩) hS (fun q _ h => hFc q h) hFc (fun r u t H1 locs ht hvm hw hB hz1 hk1 hS => ?_)
  subst hw
  obtain ⟨hP1, hK1, hD1⟩ := hB
  rw [ht] at hP1
  obtain ⟨hP, hD⟩ := va_join (wr := []) (w1 := [(m0, .inr (13, mg)), (mcA, .inl (mcC, (4, .inl (fun _ => 0))))]) hP hD [0, 1] [] rfl rfl (by decide) (by decide) hk1 hFc hP1 hD1
  have hP := hP.sub (ws' := [(m0, .inr (13, mg)), (mcA, .inl (mcC, (4, .inl (fun _ => 0))))]) [0, 1] rfl
  have hD := hD.sub (ws' := [(m0, .inr (13, mg)), (mcA, .inl (mcC, (4, .inl (fun _ => 0))))]) [0, 1] (by decide) rfl
  generalize H1 = H at hP hS ⊢
  have hP : va_P (dC, dI) CL [(m0, .inr (13, mg)), (mcA, .inl (mcC, (4, .inl (fun _ => 0))))] H := hP
  have hD : va_D A [(m0, .inr (13, mg)), (mcA, .inl (mcC, (4, .inl (fun _ => 0))))] := hD
  refine lv_if_eq (tgt := 12) hx hb dX13_patternCode_5 (by decide) (fun c9 => ?_) (fun c9 => ?_)
  rotate_left
  · first | exact absurd c9 (by decide +kernel) | exact absurd (by decide +kernel) c9
  refine lv_iconst (v := 1) hx hb dX13_patternCode_12 (by decide +kernel) ?_
  refine lv_goto (tgt := 45) hx hb dX13_patternCode_13 (by decide) ?_
  exact W.iret (v := 1) hx hb hr (fun t ht hW => ⟨⟨1, (), rfl, rfl, by rw [ht]; exact hP, va_K.moved hW.alike hK, hD⟩, hS.F ht⟩) hS.2.2 dX13_patternCode_45
set_option maxHeartbeats 4000000 in
set_option maxRecDepth 100000 in
theorem ct_X13_graph (l : Launch) (dC : Nat → ClassId) (dI : Nat → Nat → Nat) (sz : Nat) (p0 : Int32) (p1 : Int32) (m0 : Nat) (mg : List Value) (mdA : Nat) (mdC : ClassId) (hmg : fx mg 225 [(55, .ref mdA)]) : Met l yX13_graph (Cond.code yX13_graph cX13_graph 3 (some .int) :: BG) ({ frames := 2, cells := 0, slots := 0, locals := 33 }) (va_Pc [.ref m0, .int p0, .int p1] (fun U => U.heap.size = sz ∧ va_P (dC, dI) CL [(m0, .inr (13, mg)), (mdA, .inl (mdC, (6, .inl (fun _ => 0))))] U.heap ∧ va_K (dC, dI) CL [(mdC, .boolean)] U ∧ va_D (fun _ => True) [(m0, .inr (13, mg)), (mdA, .inl (mdC, (6, .inl (fun _ => 0))))])) (va_Qi (fun (r : Int32) (_ : Unit) => r = 0) (fun _ t => ∃ mg1 : List Value, fx mg1 225 [(0, .int 1)] ∧ va_P (dC, dI) CL [(m0, .inr (13, mg1))] t.heap ∧ va_K (dC, dI) CL [] t ∧ va_D (va_A [(m0, .inr (13, mg)), (mdA, .inl (mdC, (6, .inl (fun _ => 0))))] sz) [(m0, .inr (13, mg1))]) (va_A [(m0, .inr (13, mg)), (mdA, .inl (mdC, (6, .inl (fun _ => 0))))] sz)) 0 0 (va_A [(m0, .inr (13, mg)), (mdA, .inl (mdC, (6, .inl (fun _ => 0))))] sz) := by
  refine Met.ofW (cc := cX13_graph) (maxL := 3) (ret := (some .int)) (by decide) rfl ?_
  intro p e s m args below meth c s₁ B hml hv
  obtain ⟨rfl, hsz, hP, hK, hD0⟩ := hv
  have hx := B.exec
  have hb := B.bytes
  have hr := B.returns
  have hts : ∀ w ∈ BG, w.before _ s = true := fun w h => atoms_spec (ws := Cond.code yX13_graph cX13_graph 3 (some .int) :: BG) B.pre w (List.mem_cons_of_mem _ h)
  have hown : s.vm.findClass RX13 = some m.cls := findClass_of_methodNamed B.named
  have hlocks := B.notSynchronized
  subst hsz
  have hD := hD0.self (sz := s.heap.size)
  generalize hAe : va_A [(m0, .inr (13, mg)), (mdA, .inl (mdC, (6, .inl (fun _ => 0))))] s.heap.size = A at hD ⊢
  have hA : ∀ q : Nat, s.heap.size ≤ q → A q := fun q h => by rw [← hAe]; exact Or.inr h
  have hS : va_S A s.heap s.heap [] := va_S.rf
  have hl := lv_entry ([.ref m0, .int p0, .int p1]) (n := 3) (Nat.le_of_ble_eq_true rfl)
  rw [lg_entry_eq]
  generalize (lg_sl ([.ref m0, .int p0, .int p1]) ++ List.replicate (3 - (lg_sl ([.ref m0, .int p0, .int p1])).length) Slot.unset).toArray = ls at hl ⊢
  have hl : lv_has ls 3 [(0, .ref m0), (1, .int p0), (2, .int p1)] := hl
  refine lv_aload_n hx hb dX13_graph_0 rfl (lv_at hl 0 rfl) ?_
  refine lv_aload_n hx hb dX13_graph_1 rfl (lv_at hl 0 rfl) ?_
  refine lv_iload_n hx hb dX13_graph_2 rfl (lv_at hl 1 rfl) ?_
  have hPc := hP.sub (ws' := [(m0, .inr (13, mg)), (mdA, .inl (mdC, (6, .inl (fun _ => 0))))]) [0, 1] rfl
  have hDc := hD.sub (ws' := [(m0, .inr (13, mg)), (mdA, .inl (mdC, (6, .inl (fun _ => 0))))]) [0, 1] (by decide) rfl
  have hKc := hK.sub (tys' := [(mdC, .boolean)]) [0] rfl
  have hFc := va_free (wc := [(m0, .inr (13, mg)), (mdA, .inl (mdC, (6, .inl (fun _ => 0))))]) hD hS hA [0, 1] rfl
  refine va_calli (va_runV (As := [.int p0]) (rest := [.ref m0]) ⟨hx, hb, hml, hown, hts⟩ (ct_X13_isDesign l dC dI _ p0 m0 mg mdA mdC (hmg.sub [0] rfl)) (cwV 1 hts (gi_V wd_4076 wd_4078 wd_215 wd_340 wd_4079) rfl rfl rfl (by decide +kernel) ⟨(Nat.le_of_ble_eq_true rfl), (Nat.le_of_ble_eq_true rfl)⟩) ⟨fun a U g mk q => by obtain ⟨q0, q1, qP, qK, qD⟩ := q; exact ⟨q0, q1, qP, va_K.moved (u := U) (U := U.calling g mk a) (Vm.Alike.refl U.vm) qK, qD⟩, va_recv hKc hPc (ci := 13) (q0 := 0) rfl rfl, fun U hU hW => ⟨rfl, by rw [hU], by rw [hU]; exact hPc, va_K.moved hW.alike hKc, hDc.weaken (fun _ _ _ _ => trivial)⟩⟩ rfl rfl hl.1 rfl (lv_room (Nat.le_of_ble_eq_true rfl)) dX13_graph_3 ⟨(Nat.le_of_ble_eq_true rfl), (Nat.le_of_ble_eq_true rfl)⟩) hS (fun q _ h => hFc q h) hFc (fun r u t H1 locs ht hvm hw hB hz1 hk1 hS => ?_)
  subst hw
  obtain ⟨hP1, hK1, hD1⟩ := hB
  rw [ht] at hP1
  obtain ⟨hP, hD⟩ := va_join (wr := []) (w1 := [(m0, .inr (13, mg)), (mdA, .inl (mdC, (6, .inl (fun _ => 0))))]) hP hD [0, 1] [] rfl rfl (by decide) (by decide) hk1 hFc hP1 hD1
  have hP := hP.sub (ws' := [(m0, .inr (13, mg)), (mdA, .inl (mdC, (6, .inl (fun _ => 0))))]) [0, 1] rfl
  have hD := hD.sub (ws' := [(m0, .inr (13, mg)), (mdA, .inl (mdC, (6, .inl (fun _ => 0))))]) [0, 1] (by decide) rfl
  generalize H1 = H at hP hS ⊢
  have hP : va_P (dC, dI) CL [(m0, .inr (13, mg)), (mdA, .inl (mdC, (6, .inl (fun _ => 0))))] H := hP
  have hD : va_D A [(m0, .inr (13, mg)), (mdA, .inl (mdC, (6, .inl (fun _ => 0))))] := hD
  refine lv_if_ne (tgt := 13) hx hb dX13_graph_6 (by decide) (fun c9 => ?_) (fun c9 => ?_)
  · first | exact absurd c9 (by decide +kernel) | exact absurd (by decide +kernel) c9
  refine lv_iconst (v := 1) hx hb dX13_graph_9 (by decide +kernel) ?_
  refine lv_goto (tgt := 28) hx hb dX13_graph_10 (by decide) ?_
  refine va_put (D := (dC, dI)) (ci := 13) (v := .int 1) (ty := tyX13 0) (C := RX13) (T := TX13) (N := 225) hx hb hts inX13 tyX13 tyX13_ok nmX13 hown hK hP hD hS 0 rfl rfl 0 (by decide) (hts (.fieldLink RX13 1 "ChipFlowModel" "code" "I") wd_3032) (fun _ h9 => h9) rfl (by decide +kernel) rfl rfl (by rw [hmg.1]; decide) dX13_graph_28 (fun H locs hP hD hS => ?_)
  have hmg : fx (mg.set 0 (.int 1)) 225 [(0, .int 1), (55, .ref mdA)] := hmg.put (by decide) _ rfl
  obtain ⟨fs_1, e9⟩ : ∃ z, z = mg.set 0 (.int 1) := ⟨_, rfl⟩
  rw [← e9] at hmg
  have hP : va_P (dC, dI) CL [(m0, .inr (13, fs_1)), (mdA, .inl (mdC, (6, .inl (fun _ => 0))))] H := by rw [e9]; exact hP
  have hD : va_D A [(m0, .inr (13, fs_1)), (mdA, .inl (mdC, (6, .inl (fun _ => 0))))] := by rw [e9]; exact hD
  clear e9
  refine lv_aload_n hx hb dX13_graph_31 rfl (lv_at hl 0 rfl) ?_
  refine va_get (D := (dC, dI)) (ci := 13) (v := .int 1) (C := RX13) (T := TX13) (N := 225) hx hb hts inX13 hown hK hP 0 rfl rfl 0 (by decide) (hts (.fieldLink RX13 1 "ChipFlowModel" "code" "I") wd_3032) (fun _ h9 => h9) (hmg.get 0 rfl) dX13_graph_32 ?_
  refine lv_if_le (tgt := 40) hx hb dX13_graph_35 (by decide) (fun c9 => ?_) (fun c9 => ?_)
  · first | exact absurd c9 (by decide +kernel) | exact absurd (by decide +kernel) c9
  refine lv_iconst (v := 0) hx hb dX13_graph_38 (by decide +kernel) ?_
  exact W.iret (v := 0) hx hb hr (fun t ht hW => ⟨⟨0, (), rfl, rfl, fs_1, hmg.sub [0] rfl, by rw [ht]; exact hP.sub [0] rfl, va_K.moved hW.alike (hK.sub [] rfl), hD.sub [0] (by decide) rfl⟩, hS.F ht⟩) hS.2.2 dX13_graph_39
set_option maxHeartbeats 4000000 in
set_option maxRecDepth 100000 in
theorem ct_X13_literal (l : Launch) (dC : Nat → ClassId) (dI : Nat → Nat → Nat) (sz : Nat) (p0 : Int32) (p1 : Int32) (p2 : Int32) (m0 : Nat) (mg : List Value) (mdA : Nat) (mdC : ClassId) (hmg : fx mg 225 [(55, .ref mdA)]) : Met l yX13_literal (Cond.code yX13_literal cX13_literal 4 (some .int) :: BG) ({ frames := 2, cells := 0, slots := 0, locals := 33 }) (va_Pc [.ref m0, .int p0, .int p1, .int p2] (fun U => U.heap.size = sz ∧ va_P (dC, dI) CL [(m0, .inr (13, mg)), (mdA, .inl (mdC, (6, .inl (fun _ => 0))))] U.heap ∧ va_K (dC, dI) CL [(mdC, .boolean)] U ∧ va_D (fun _ => True) [(m0, .inr (13, mg)), (mdA, .inl (mdC, (6, .inl (fun _ => 0))))])) (va_Qi (fun (r : Int32) (_ : Unit) => r = 0) (fun _ t => ∃ mg1 : List Value, fx mg1 225 [(0, .int 1)] ∧ va_P (dC, dI) CL [(m0, .inr (13, mg1))] t.heap ∧ va_K (dC, dI) CL [] t ∧ va_D (va_A [(m0, .inr (13, mg)), (mdA, .inl (mdC, (6, .inl (fun _ => 0))))] sz) [(m0, .inr (13, mg1))]) (va_A [(m0, .inr (13, mg)), (mdA, .inl (mdC, (6, .inl (fun _ => 0))))] sz)) 0 0 (va_A [(m0, .inr (13, mg)), (mdA, .inl (mdC, (6, .inl (fun _ => 0))))] sz) := by
  refine Met.ofW (cc := cX13_literal) (maxL := 4) (ret := (some .int)) (by decide) rfl ?_
  intro p e s m args below meth c s₁ B hml hv
  obtain ⟨rfl, hsz, hP, hK, hD0⟩ := hv
  have hx := B.exec
  have hb := B.bytes
  have hr := B.returns
  have hts : ∀ w ∈ BG, w.before _ s = true := fun w h => atoms_spec (ws := Cond.code yX13_literal cX13_literal 4 (some .int) :: BG) B.pre w (List.mem_cons_of_mem _ h)
  have hown : s.vm.findClass RX13 = some m.cls := findClass_of_methodNamed B.named
  have hlocks := B.notSynchronized
  subst hsz
  have hD := hD0.self (sz := s.heap.size)
  generalize hAe : va_A [(m0, .inr (13, mg)), (mdA, .inl (mdC, (6, .inl (fun _ => 0))))] s.heap.size = A at hD ⊢
  have hA : ∀ q : Nat, s.heap.size ≤ q → A q := fun q h => by rw [← hAe]; exact Or.inr h
  have hS : va_S A s.heap s.heap [] := va_S.rf
  have hl := lv_entry ([.ref m0, .int p0, .int p1, .int p2]) (n := 4) (Nat.le_of_ble_eq_true rfl)
  rw [lg_entry_eq]
  generalize (lg_sl ([.ref m0, .int p0, .int p1, .int p2]) ++ List.replicate (4 - (lg_sl ([.ref m0, .int p0, .int p1, .int p2])).length) Slot.unset).toArray = ls at hl ⊢
  have hl : lv_has ls 4 [(0, .ref m0), (1, .int p0), (2, .int p1), (3, .int p2)] := hl
  refine lv_aload_n hx hb dX13_literal_0 rfl (lv_at hl 0 rfl) ?_
  refine lv_aload_n hx hb dX13_literal_1 rfl (lv_at hl 0 rfl) ?_
  refine lv_iload_n hx hb dX13_literal_2 rfl (lv_at hl 1 rfl) ?_
  have hPc := hP.sub (ws' := [(m0, .inr (13, mg)), (mdA, .inl (mdC, (6, .inl (fun _ => 0))))]) [0, 1] rfl
  have hDc := hD.sub (ws' := [(m0, .inr (13, mg)), (mdA, .inl (mdC, (6, .inl (fun _ => 0))))]) [0, 1] (by decide) rfl
  have hKc := hK.sub (tys' := [(mdC, .boolean)]) [0] rfl
  have hFc := va_free (wc := [(m0, .inr (13, mg)), (mdA, .inl (mdC, (6, .inl (fun _ => 0))))]) hD hS hA [0, 1] rfl
  refine va_calli (va_runV (As := [.int p0]) (rest := [.ref m0]) ⟨hx, hb, hml, hown, hts⟩ (ct_X13_isDesign l dC dI _ p0 m0 mg mdA mdC (hmg.sub [0] rfl)) (cwV 1 hts (gi_V wd_4076 wd_4078 wd_215 wd_340 wd_4079) rfl rfl rfl (by decide +kernel) ⟨(Nat.le_of_ble_eq_true rfl), (Nat.le_of_ble_eq_true rfl)⟩) ⟨fun a U g mk q => by obtain ⟨q0, q1, qP, qK, qD⟩ := q; exact ⟨q0, q1, qP, va_K.moved (u := U) (U := U.calling g mk a) (Vm.Alike.refl U.vm) qK, qD⟩, va_recv hKc hPc (ci := 13) (q0 := 0) rfl rfl, fun U hU hW => ⟨rfl, by rw [hU], by rw [hU]; exact hPc, va_K.moved hW.alike hKc, hDc.weaken (fun _ _ _ _ => trivial)⟩⟩ rfl rfl hl.1 rfl (lv_room (Nat.le_of_ble_eq_true rfl)) dX13_literal_3 ⟨(Nat.le_of_ble_eq_true rfl), (Nat.le_of_ble_eq_true rfl)⟩) hS (fun q _ h => hFc q h) hFc (fun r u t H1 locs ht hvm hw hB hz1 hk1 hS => ?_)
  subst hw
  obtain ⟨hP1, hK1, hD1⟩ := hB
  rw [ht] at hP1
  obtain ⟨hP, hD⟩ := va_join (wr := []) (w1 := [(m0, .inr (13, mg)), (mdA, .inl (mdC, (6, .inl (fun _ => 0))))]) hP hD [0, 1] [] rfl rfl (by decide) (by decide) hk1 hFc hP1 hD1
  have hP := hP.sub (ws' := [(m0, .inr (13, mg)), (mdA, .inl (mdC, (6, .inl (fun _ => 0))))]) [0, 1] rfl
  have hD := hD.sub (ws' := [(m0, .inr (13, mg)), (mdA, .inl (mdC, (6, .inl (fun _ => 0))))]) [0, 1] (by decide) rfl
  generalize H1 = H at hP hS ⊢
  have hP : va_P (dC, dI) CL [(m0, .inr (13, mg)), (mdA, .inl (mdC, (6, .inl (fun _ => 0))))] H := hP
  have hD : va_D A [(m0, .inr (13, mg)), (mdA, .inl (mdC, (6, .inl (fun _ => 0))))] := hD
  refine lv_if_eq (tgt := 38) hx hb dX13_literal_6 (by decide) (fun c9 => ?_) (fun c9 => ?_)
  rotate_left
  · first | exact absurd c9 (by decide +kernel) | exact absurd (by decide +kernel) c9
  refine lv_iconst (v := 1) hx hb dX13_literal_38 (by decide +kernel) ?_
  refine lv_goto (tgt := 43) hx hb dX13_literal_39 (by decide) ?_
  refine va_put (D := (dC, dI)) (ci := 13) (v := .int 1) (ty := tyX13 0) (C := RX13) (T := TX13) (N := 225) hx hb hts inX13 tyX13 tyX13_ok nmX13 hown hK hP hD hS 0 rfl rfl 0 (by decide) (hts (.fieldLink RX13 1 "ChipFlowModel" "code" "I") wd_3032) (fun _ h9 => h9) rfl (by decide +kernel) rfl rfl (by rw [hmg.1]; decide) dX13_literal_43 (fun H locs hP hD hS => ?_)
  have hmg : fx (mg.set 0 (.int 1)) 225 [(0, .int 1), (55, .ref mdA)] := hmg.put (by decide) _ rfl
  obtain ⟨fs_1, e9⟩ : ∃ z, z = mg.set 0 (.int 1) := ⟨_, rfl⟩
  rw [← e9] at hmg
  have hP : va_P (dC, dI) CL [(m0, .inr (13, fs_1)), (mdA, .inl (mdC, (6, .inl (fun _ => 0))))] H := by rw [e9]; exact hP
  have hD : va_D A [(m0, .inr (13, fs_1)), (mdA, .inl (mdC, (6, .inl (fun _ => 0))))] := by rw [e9]; exact hD
  clear e9
  refine lv_aload_n hx hb dX13_literal_46 rfl (lv_at hl 0 rfl) ?_
  refine va_get (D := (dC, dI)) (ci := 13) (v := .int 1) (C := RX13) (T := TX13) (N := 225) hx hb hts inX13 hown hK hP 0 rfl rfl 0 (by decide) (hts (.fieldLink RX13 1 "ChipFlowModel" "code" "I") wd_3032) (fun _ h9 => h9) (hmg.get 0 rfl) dX13_literal_47 ?_
  refine lv_if_le (tgt := 55) hx hb dX13_literal_50 (by decide) (fun c9 => ?_) (fun c9 => ?_)
  · first | exact absurd c9 (by decide +kernel) | exact absurd (by decide +kernel) c9
  refine lv_iconst (v := 0) hx hb dX13_literal_53 (by decide +kernel) ?_
  exact W.iret (v := 0) hx hb hr (fun t ht hW => ⟨⟨0, (), rfl, rfl, fs_1, hmg.sub [0] rfl, by rw [ht]; exact hP.sub [0] rfl, va_K.moved hW.alike (hK.sub [] rfl), hD.sub [0] (by decide) rfl⟩, hS.F ht⟩) hS.2.2 dX13_literal_54
set_option maxHeartbeats 4000000 in
set_option maxRecDepth 100000 in
theorem ct_X13_swept (l : Launch) (dC : Nat → ClassId) (dI : Nat → Nat → Nat) (sz : Nat) (p0 : Int32) (p1 : Int32) (m0 : Nat) (mg : List Value) (mdA : Nat) (mdC : ClassId) (hmg : fx mg 225 [(55, .ref mdA)]) : Met l yX13_swept (Cond.code yX13_swept cX13_swept 3 (some .int) :: BG) ({ frames := 2, cells := 0, slots := 0, locals := 33 }) (va_Pc [.ref m0, .int p0, .int p1] (fun U => U.heap.size = sz ∧ va_P (dC, dI) CL [(m0, .inr (13, mg)), (mdA, .inl (mdC, (6, .inl (fun _ => 0))))] U.heap ∧ va_K (dC, dI) CL [(mdC, .boolean)] U ∧ va_D (fun _ => True) [(m0, .inr (13, mg)), (mdA, .inl (mdC, (6, .inl (fun _ => 0))))])) (va_Qi (fun (r : Int32) (_ : Unit) => r = 0) (fun _ t => ∃ mg1 : List Value, fx mg1 225 [(0, .int 1)] ∧ va_P (dC, dI) CL [(m0, .inr (13, mg1))] t.heap ∧ va_K (dC, dI) CL [] t ∧ va_D (va_A [(m0, .inr (13, mg)), (mdA, .inl (mdC, (6, .inl (fun _ => 0))))] sz) [(m0, .inr (13, mg1))]) (va_A [(m0, .inr (13, mg)), (mdA, .inl (mdC, (6, .inl (fun _ => 0))))] sz)) 0 0 (va_A [(m0, .inr (13, mg)), (mdA, .inl (mdC, (6, .inl (fun _ => 0))))] sz) := by
  refine Met.ofW (cc := cX13_swept) (maxL := 3) (ret := (some .int)) (by decide) rfl ?_
  intro p e s m args below meth c s₁ B hml hv
  obtain ⟨rfl, hsz, hP, hK, hD0⟩ := hv
  have hx := B.exec
  have hb := B.bytes
  have hr := B.returns
  have hts : ∀ w ∈ BG, w.before _ s = true := fun w h => atoms_spec (ws := Cond.code yX13_swept cX13_swept 3 (some .int) :: BG) B.pre w (List.mem_cons_of_mem _ h)
  have hown : s.vm.findClass RX13 = some m.cls := findClass_of_methodNamed B.named
  have hlocks := B.notSynchronized
  subst hsz
  have hD := hD0.self (sz := s.heap.size)
  generalize hAe : va_A [(m0, .inr (13, mg)), (mdA, .inl (mdC, (6, .inl (fun _ => 0))))] s.heap.size = A at hD ⊢
  have hA : ∀ q : Nat, s.heap.size ≤ q → A q := fun q h => by rw [← hAe]; exact Or.inr h
  have hS : va_S A s.heap s.heap [] := va_S.rf
  have hl := lv_entry ([.ref m0, .int p0, .int p1]) (n := 3) (Nat.le_of_ble_eq_true rfl)
  rw [lg_entry_eq]
  generalize (lg_sl ([.ref m0, .int p0, .int p1]) ++ List.replicate (3 - (lg_sl ([.ref m0, .int p0, .int p1])).length) Slot.unset).toArray = ls at hl ⊢
  have hl : lv_has ls 3 [(0, .ref m0), (1, .int p0), (2, .int p1)] := hl
  refine lv_aload_n hx hb dX13_swept_0 rfl (lv_at hl 0 rfl) ?_
  refine lv_aload_n hx hb dX13_swept_1 rfl (lv_at hl 0 rfl) ?_
  refine lv_iload_n hx hb dX13_swept_2 rfl (lv_at hl 1 rfl) ?_
  have hPc := hP.sub (ws' := [(m0, .inr (13, mg)), (mdA, .inl (mdC, (6, .inl (fun _ => 0))))]) [0, 1] rfl
  have hDc := hD.sub (ws' := [(m0, .inr (13, mg)), (mdA, .inl (mdC, (6, .inl (fun _ => 0))))]) [0, 1] (by decide) rfl
  have hKc := hK.sub (tys' := [(mdC, .boolean)]) [0] rfl
  have hFc := va_free (wc := [(m0, .inr (13, mg)), (mdA, .inl (mdC, (6, .inl (fun _ => 0))))]) hD hS hA [0, 1] rfl
  refine va_calli (va_runV (As := [.int p0]) (rest := [.ref m0]) ⟨hx, hb, hml, hown, hts⟩ (ct_X13_isDesign l dC dI _ p0 m0 mg mdA mdC (hmg.sub [0] rfl)) (cwV 1 hts (gi_V wd_4076 wd_4078 wd_215 wd_340 wd_4079) rfl rfl rfl (by decide +kernel) ⟨(Nat.le_of_ble_eq_true rfl), (Nat.le_of_ble_eq_true rfl)⟩) ⟨fun a U g mk q => by obtain ⟨q0, q1, qP, qK, qD⟩ := q; exact ⟨q0, q1, qP, va_K.moved (u := U) (U := U.calling g mk a) (Vm.Alike.refl U.vm) qK, qD⟩, va_recv hKc hPc (ci := 13) (q0 := 0) rfl rfl, fun U hU hW => ⟨rfl, by rw [hU], by rw [hU]; exact hPc, va_K.moved hW.alike hKc, hDc.weaken (fun _ _ _ _ => trivial)⟩⟩ rfl rfl hl.1 rfl (lv_room (Nat.le_of_ble_eq_true rfl)) dX13_swept_3 ⟨(Nat.le_of_ble_eq_true rfl), (Nat.le_of_ble_eq_true rfl)⟩) hS (fun q _ h => hFc q h) hFc (fun r u t H1 locs ht hvm hw hB hz1 hk1 hS => ?_)
  subst hw
  obtain ⟨hP1, hK1, hD1⟩ := hB
  rw [ht] at hP1
  obtain ⟨hP, hD⟩ := va_join (wr := []) (w1 := [(m0, .inr (13, mg)), (mdA, .inl (mdC, (6, .inl (fun _ => 0))))]) hP hD [0, 1] [] rfl rfl (by decide) (by decide) hk1 hFc hP1 hD1
  have hP := hP.sub (ws' := [(m0, .inr (13, mg)), (mdA, .inl (mdC, (6, .inl (fun _ => 0))))]) [0, 1] rfl
  have hD := hD.sub (ws' := [(m0, .inr (13, mg)), (mdA, .inl (mdC, (6, .inl (fun _ => 0))))]) [0, 1] (by decide) rfl
  generalize H1 = H at hP hS ⊢
  have hP : va_P (dC, dI) CL [(m0, .inr (13, mg)), (mdA, .inl (mdC, (6, .inl (fun _ => 0))))] H := hP
  have hD : va_D A [(m0, .inr (13, mg)), (mdA, .inl (mdC, (6, .inl (fun _ => 0))))] := hD
  refine lv_if_eq (tgt := 23) hx hb dX13_swept_6 (by decide) (fun c9 => ?_) (fun c9 => ?_)
  rotate_left
  · first | exact absurd c9 (by decide +kernel) | exact absurd (by decide +kernel) c9
  refine lv_iconst (v := 1) hx hb dX13_swept_23 (by decide +kernel) ?_
  refine lv_goto (tgt := 28) hx hb dX13_swept_24 (by decide) ?_
  refine va_put (D := (dC, dI)) (ci := 13) (v := .int 1) (ty := tyX13 0) (C := RX13) (T := TX13) (N := 225) hx hb hts inX13 tyX13 tyX13_ok nmX13 hown hK hP hD hS 0 rfl rfl 0 (by decide) (hts (.fieldLink RX13 1 "ChipFlowModel" "code" "I") wd_3032) (fun _ h9 => h9) rfl (by decide +kernel) rfl rfl (by rw [hmg.1]; decide) dX13_swept_28 (fun H locs hP hD hS => ?_)
  have hmg : fx (mg.set 0 (.int 1)) 225 [(0, .int 1), (55, .ref mdA)] := hmg.put (by decide) _ rfl
  obtain ⟨fs_1, e9⟩ : ∃ z, z = mg.set 0 (.int 1) := ⟨_, rfl⟩
  rw [← e9] at hmg
  have hP : va_P (dC, dI) CL [(m0, .inr (13, fs_1)), (mdA, .inl (mdC, (6, .inl (fun _ => 0))))] H := by rw [e9]; exact hP
  have hD : va_D A [(m0, .inr (13, fs_1)), (mdA, .inl (mdC, (6, .inl (fun _ => 0))))] := by rw [e9]; exact hD
  clear e9
  refine lv_aload_n hx hb dX13_swept_31 rfl (lv_at hl 0 rfl) ?_
  refine va_get (D := (dC, dI)) (ci := 13) (v := .int 1) (C := RX13) (T := TX13) (N := 225) hx hb hts inX13 hown hK hP 0 rfl rfl 0 (by decide) (hts (.fieldLink RX13 1 "ChipFlowModel" "code" "I") wd_3032) (fun _ h9 => h9) (hmg.get 0 rfl) dX13_swept_32 ?_
  refine lv_if_le (tgt := 42) hx hb dX13_swept_35 (by decide) (fun c9 => ?_) (fun c9 => ?_)
  · first | exact absurd c9 (by decide +kernel) | exact absurd (by decide +kernel) c9
  refine lv_iconst (v := 0) hx hb dX13_swept_38 (by decide +kernel) ?_
  refine lv_goto (tgt := 54) hx hb dX13_swept_39 (by decide) ?_
  exact W.iret (v := 0) hx hb hr (fun t ht hW => ⟨⟨0, (), rfl, rfl, fs_1, hmg.sub [0] rfl, by rw [ht]; exact hP.sub [0] rfl, va_K.moved hW.alike (hK.sub [] rfl), hD.sub [0] (by decide) rfl⟩, hS.F ht⟩) hS.2.2 dX13_swept_54
set_option maxHeartbeats 4000000 in
set_option maxRecDepth 100000 in
theorem ct_X13_root (l : Launch) (dC : Nat → ClassId) (dI : Nat → Nat → Nat) (sz : Nat) (p0 : Int32) (p1 : Int32) (p2 : Int32) (m0 : Nat) (mg : List Value) (mdA : Nat) (mdC : ClassId) (hmg : fx mg 225 [(55, .ref mdA)]) : Met l yX13_root (Cond.code yX13_root cX13_root 4 (some .int) :: BG) ({ frames := 2, cells := 0, slots := 0, locals := 33 }) (va_Pc [.ref m0, .int p0, .int p1, .int p2] (fun U => U.heap.size = sz ∧ va_P (dC, dI) CL [(m0, .inr (13, mg)), (mdA, .inl (mdC, (6, .inl (fun _ => 0))))] U.heap ∧ va_K (dC, dI) CL [(mdC, .boolean)] U ∧ va_D (fun _ => True) [(m0, .inr (13, mg)), (mdA, .inl (mdC, (6, .inl (fun _ => 0))))])) (va_Qi (fun (r : Int32) (_ : Unit) => r = 0) (fun _ t => ∃ mg1 : List Value, fx mg1 225 [(0, .int 1)] ∧ va_P (dC, dI) CL [(m0, .inr (13, mg1))] t.heap ∧ va_K (dC, dI) CL [] t ∧ va_D (va_A [(m0, .inr (13, mg)), (mdA, .inl (mdC, (6, .inl (fun _ => 0))))] sz) [(m0, .inr (13, mg1))]) (va_A [(m0, .inr (13, mg)), (mdA, .inl (mdC, (6, .inl (fun _ => 0))))] sz)) 0 0 (va_A [(m0, .inr (13, mg)), (mdA, .inl (mdC, (6, .inl (fun _ => 0))))] sz) := by
  refine Met.ofW (cc := cX13_root) (maxL := 4) (ret := (some .int)) (by decide) rfl ?_
  intro p e s m args below meth c s₁ B hml hv
  obtain ⟨rfl, hsz, hP, hK, hD0⟩ := hv
  have hx := B.exec
  have hb := B.bytes
  have hr := B.returns
  have hts : ∀ w ∈ BG, w.before _ s = true := fun w h => atoms_spec (ws := Cond.code yX13_root cX13_root 4 (some .int) :: BG) B.pre w (List.mem_cons_of_mem _ h)
  have hown : s.vm.findClass RX13 = some m.cls := findClass_of_methodNamed B.named
  have hlocks := B.notSynchronized
  subst hsz
  have hD := hD0.self (sz := s.heap.size)
  generalize hAe : va_A [(m0, .inr (13, mg)), (mdA, .inl (mdC, (6, .inl (fun _ => 0))))] s.heap.size = A at hD ⊢
  have hA : ∀ q : Nat, s.heap.size ≤ q → A q := fun q h => by rw [← hAe]; exact Or.inr h
  have hS : va_S A s.heap s.heap [] := va_S.rf
  have hl := lv_entry ([.ref m0, .int p0, .int p1, .int p2]) (n := 4) (Nat.le_of_ble_eq_true rfl)
  rw [lg_entry_eq]
  generalize (lg_sl ([.ref m0, .int p0, .int p1, .int p2]) ++ List.replicate (4 - (lg_sl ([.ref m0, .int p0, .int p1, .int p2])).length) Slot.unset).toArray = ls at hl ⊢
  have hl : lv_has ls 4 [(0, .ref m0), (1, .int p0), (2, .int p1), (3, .int p2)] := hl
  refine lv_aload_n hx hb dX13_root_0 rfl (lv_at hl 0 rfl) ?_
  refine lv_aload_n hx hb dX13_root_1 rfl (lv_at hl 0 rfl) ?_
  refine lv_iload_n hx hb dX13_root_2 rfl (lv_at hl 1 rfl) ?_
  have hPc := hP.sub (ws' := [(m0, .inr (13, mg)), (mdA, .inl (mdC, (6, .inl (fun _ => 0))))]) [0, 1] rfl
  have hDc := hD.sub (ws' := [(m0, .inr (13, mg)), (mdA, .inl (mdC, (6, .inl (fun _ => 0))))]) [0, 1] (by decide) rfl
  have hKc := hK.sub (tys' := [(mdC, .boolean)]) [0] rfl
  have hFc := va_free (wc := [(m0, .inr (13, mg)), (mdA, .inl (mdC, (6, .inl (fun _ => 0))))]) hD hS hA [0, 1] rfl
  refine va_calli (va_runV (As := [.int p0]) (rest := [.ref m0]) ⟨hx, hb, hml, hown, hts⟩ (ct_X13_isDesign l dC dI _ p0 m0 mg mdA mdC (hmg.sub [0] rfl)) (cwV 1 hts (gi_V wd_4076 wd_4078 wd_215 wd_340 wd_4079) rfl rfl rfl (by decide +kernel) ⟨(Nat.le_of_ble_eq_true rfl), (Nat.le_of_ble_eq_true rfl)⟩) ⟨fun a U g mk q => by obtain ⟨q0, q1, qP, qK, qD⟩ := q; exact ⟨q0, q1, qP, va_K.moved (u := U) (U := U.calling g mk a) (Vm.Alike.refl U.vm) qK, qD⟩, va_recv hKc hPc (ci := 13) (q0 := 0) rfl rfl, fun U hU hW => ⟨rfl, by rw [hU], by rw [hU]; exact hPc, va_K.moved hW.alike hKc, hDc.weaken (fun _ _ _ _ => trivial)⟩⟩ rfl rfl hl.1 rfl (lv_room (Nat.le_of_ble_eq_true rfl)) dX13_root_3 ⟨(Nat.le_of_ble_eq_true rfl), (Nat.le_of_ble_eq_true rfl)⟩) hS (fun q _ h => hFc q h) hFc (fun r u t H1 locs ht hvm hw hB hz1 hk1 hS => ?_)
  subst hw
  obtain ⟨hP1, hK1, hD1⟩ := hB
  rw [ht] at hP1
  obtain ⟨hP, hD⟩ := va_join (wr := []) (w1 := [(m0, .inr (13, mg)), (mdA, .inl (mdC, (6, .inl (fun _ => 0))))]) hP hD [0, 1] [] rfl rfl (by decide) (by decide) hk1 hFc hP1 hD1
  have hP := hP.sub (ws' := [(m0, .inr (13, mg)), (mdA, .inl (mdC, (6, .inl (fun _ => 0))))]) [0, 1] rfl
  have hD := hD.sub (ws' := [(m0, .inr (13, mg)), (mdA, .inl (mdC, (6, .inl (fun _ => 0))))]) [0, 1] (by decide) rfl
  generalize H1 = H at hP hS ⊢
  have hP : va_P (dC, dI) CL [(m0, .inr (13, mg)), (mdA, .inl (mdC, (6, .inl (fun _ => 0))))] H := hP
  have hD : va_D A [(m0, .inr (13, mg)), (mdA, .inl (mdC, (6, .inl (fun _ => 0))))] := hD
  refine lv_if_eq (tgt := 36) hx hb dX13_root_6 (by decide) (fun c9 => ?_) (fun c9 => ?_)
  rotate_left
  · first | exact absurd c9 (by decide +kernel) | exact absurd (by decide +kernel) c9
  refine lv_iconst (v := 1) hx hb dX13_root_36 (by decide +kernel) ?_
  refine lv_goto (tgt := 41) hx hb dX13_root_37 (by decide) ?_
  refine va_put (D := (dC, dI)) (ci := 13) (v := .int 1) (ty := tyX13 0) (C := RX13) (T := TX13) (N := 225) hx hb hts inX13 tyX13 tyX13_ok nmX13 hown hK hP hD hS 0 rfl rfl 0 (by decide) (hts (.fieldLink RX13 1 "ChipFlowModel" "code" "I") wd_3032) (fun _ h9 => h9) rfl (by decide +kernel) rfl rfl (by rw [hmg.1]; decide) dX13_root_41 (fun H locs hP hD hS => ?_)
  have hmg : fx (mg.set 0 (.int 1)) 225 [(0, .int 1), (55, .ref mdA)] := hmg.put (by decide) _ rfl
  obtain ⟨fs_1, e9⟩ : ∃ z, z = mg.set 0 (.int 1) := ⟨_, rfl⟩
  rw [← e9] at hmg
  have hP : va_P (dC, dI) CL [(m0, .inr (13, fs_1)), (mdA, .inl (mdC, (6, .inl (fun _ => 0))))] H := by rw [e9]; exact hP
  have hD : va_D A [(m0, .inr (13, fs_1)), (mdA, .inl (mdC, (6, .inl (fun _ => 0))))] := by rw [e9]; exact hD
  clear e9
  refine lv_aload_n hx hb dX13_root_44 rfl (lv_at hl 0 rfl) ?_
  refine va_get (D := (dC, dI)) (ci := 13) (v := .int 1) (C := RX13) (T := TX13) (N := 225) hx hb hts inX13 hown hK hP 0 rfl rfl 0 (by decide) (hts (.fieldLink RX13 1 "ChipFlowModel" "code" "I") wd_3032) (fun _ h9 => h9) (hmg.get 0 rfl) dX13_root_45 ?_
  refine lv_if_le (tgt := 53) hx hb dX13_root_48 (by decide) (fun c9 => ?_) (fun c9 => ?_)
  · first | exact absurd c9 (by decide +kernel) | exact absurd (by decide +kernel) c9
  refine lv_iconst (v := 0) hx hb dX13_root_51 (by decide +kernel) ?_
  exact W.iret (v := 0) hx hb hr (fun t ht hW => ⟨⟨0, (), rfl, rfl, fs_1, hmg.sub [0] rfl, by rw [ht]; exact hP.sub [0] rfl, va_K.moved hW.alike (hK.sub [] rfl), hD.sub [0] (by decide) rfl⟩, hS.F ht⟩) hS.2.2 dX13_root_52
set_option maxHeartbeats 4000000 in
set_option maxRecDepth 100000 in
theorem ct_X13_cell (l : Launch) (dC : Nat → ClassId) (dI : Nat → Nat → Nat) (sz : Nat) (p0 : Int32) (p1 : Int32) (p2 : Int32) (m0 : Nat) (mg : List Value) (mlA : Nat) (mlC : ClassId) (hmg : fx mg 225 [(88, .ref mlA)]) : Met l yX13_cell (Cond.code yX13_cell cX13_cell 5 (some .int) :: BG) ({ frames := 2, cells := 0, slots := 0, locals := 33 }) (va_Pc [.ref m0, .int p0, .int p1, .int p2] (fun U => U.heap.size = sz ∧ va_P (dC, dI) CL [(m0, .inr (13, mg)), (mlA, .inl (mlC, (3, .inl (fun _ => 0))))] U.heap ∧ va_K (dC, dI) CL [(mlC, .boolean)] U ∧ va_D (fun _ => True) [(m0, .inr (13, mg)), (mlA, .inl (mlC, (3, .inl (fun _ => 0))))])) (va_Qi (fun (r : Int32) (_ : Unit) => r = 0) (fun _ t => ∃ mg1 : List Value, fx mg1 225 [(0, .int 1)] ∧ va_P (dC, dI) CL [(m0, .inr (13, mg1))] t.heap ∧ va_K (dC, dI) CL [] t ∧ va_D (va_A [(m0, .inr (13, mg)), (mlA, .inl (mlC, (3, .inl (fun _ => 0))))] sz) [(m0, .inr (13, mg1))]) (va_A [(m0, .inr (13, mg)), (mlA, .inl (mlC, (3, .inl (fun _ => 0))))] sz)) 0 0 (va_A [(m0, .inr (13, mg)), (mlA, .inl (mlC, (3, .inl (fun _ => 0))))] sz) := by
  refine Met.ofW (cc := cX13_cell) (maxL := 5) (ret := (some .int)) (by decide) rfl ?_
  intro p e s m args below meth c s₁ B hml hv
  obtain ⟨rfl, hsz, hP, hK, hD0⟩ := hv
  have hx := B.exec
  have hb := B.bytes
  have hr := B.returns
  have hts : ∀ w ∈ BG, w.before _ s = true := fun w h => atoms_spec (ws := Cond.code yX13_cell cX13_cell 5 (some .int) :: BG) B.pre w (List.mem_cons_of_mem _ h)
  have hown : s.vm.findClass RX13 = some m.cls := findClass_of_methodNamed B.named
  have hlocks := B.notSynchronized
  subst hsz
  have hD := hD0.self (sz := s.heap.size)
  generalize hAe : va_A [(m0, .inr (13, mg)), (mlA, .inl (mlC, (3, .inl (fun _ => 0))))] s.heap.size = A at hD ⊢
  have hA : ∀ q : Nat, s.heap.size ≤ q → A q := fun q h => by rw [← hAe]; exact Or.inr h
  have hS : va_S A s.heap s.heap [] := va_S.rf
  have hl := lv_entry ([.ref m0, .int p0, .int p1, .int p2]) (n := 5) (Nat.le_of_ble_eq_true rfl)
  rw [lg_entry_eq]
  generalize (lg_sl ([.ref m0, .int p0, .int p1, .int p2]) ++ List.replicate (5 - (lg_sl ([.ref m0, .int p0, .int p1, .int p2])).length) Slot.unset).toArray = ls at hl ⊢
  have hl : lv_has ls 5 [(0, .ref m0), (1, .int p0), (2, .int p1), (3, .int p2)] := hl
  refine lv_aload_n hx hb dX13_cell_0 rfl (lv_at hl 0 rfl) ?_
  refine lv_aload_n hx hb dX13_cell_1 rfl (lv_at hl 0 rfl) ?_
  refine lv_iload_n hx hb dX13_cell_2 rfl (lv_at hl 1 rfl) ?_
  have hPc := hP.sub (ws' := [(m0, .inr (13, mg)), (mlA, .inl (mlC, (3, .inl (fun _ => 0))))]) [0, 1] rfl
  have hDc := hD.sub (ws' := [(m0, .inr (13, mg)), (mlA, .inl (mlC, (3, .inl (fun _ => 0))))]) [0, 1] (by decide) rfl
  have hKc := hK.sub (tys' := [(mlC, .boolean)]) [0] rfl
  have hFc := va_free (wc := [(m0, .inr (13, mg)), (mlA, .inl (mlC, (3, .inl (fun _ => 0))))]) hD hS hA [0, 1] rfl
  refine va_calli (va_runV (As := [.int p0]) (rest := [.ref m0]) ⟨hx, hb, hml, hown, hts⟩ (ct_X13_isLibrary l dC dI _ p0 m0 mg mlA mlC (hmg.sub [0] rfl)) (cwV 1 hts (gi_V wd_4080 wd_4082 wd_216 wd_340 wd_4083) rfl rfl rfl (by decide +kernel) ⟨(Nat.le_of_ble_eq_true rfl), (Nat.le_of_ble_eq_true rfl)⟩) ⟨fun a U g mk q => by obtain ⟨q0, q1, qP, qK, qD⟩ := q; exact ⟨q0, q1, qP, va_K.moved (u := U) (U := U.calling g mk a) (Vm.Alike.refl U.vm) qK, qD⟩, va_recv hKc hPc (ci := 13) (q0 := 0) rfl rfl, fun U hU hW => ⟨rfl, by rw [hU], by rw [hU]; exact hPc, va_K.moved hW.alike hKc, hDc.weaken (fun _ _ _ _ => trivial)⟩⟩ rfl rfl hl.1 rfl (lv_room (Nat.le_of_ble_eq_true rfl)) dX13_cell_3 ⟨(Nat.le_of_ble_eq_true rfl), (Nat.le_of_ble_eq_true rfl)⟩) hS (fun q _ h => hFc q h) hFc (fun r u t H1 locs ht hvm hw hB hz1 hk1 hS => ?_)
  subst hw
  obtain ⟨hP1, hK1, hD1⟩ := hB
  rw [ht] at hP1
  obtain ⟨hP, hD⟩ := va_join (wr := []) (w1 := [(m0, .inr (13, mg)), (mlA, .inl (mlC, (3, .inl (fun _ => 0))))]) hP hD [0, 1] [] rfl rfl (by decide) (by decide) hk1 hFc hP1 hD1
  have hP := hP.sub (ws' := [(m0, .inr (13, mg)), (mlA, .inl (mlC, (3, .inl (fun _ => 0))))]) [0, 1] rfl
  have hD := hD.sub (ws' := [(m0, .inr (13, mg)), (mlA, .inl (mlC, (3, .inl (fun _ => 0))))]) [0, 1] (by decide) rfl
  generalize H1 = H at hP hS ⊢
  have hP : va_P (dC, dI) CL [(m0, .inr (13, mg)), (mlA, .inl (mlC, (3, .inl (fun _ => 0))))] H := hP
  have hD : va_D A [(m0, .inr (13, mg)), (mlA, .inl (mlC, (3, .inl (fun _ => 0))))] := hD
  refine lv_if_eq (tgt := 24) hx hb dX13_cell_6 (by decide) (fun c9 => ?_) (fun c9 => ?_)
  rotate_left
  · first | exact absurd c9 (by decide +kernel) | exact absurd (by decide +kernel) c9
  refine lv_iconst (v := 1) hx hb dX13_cell_24 (by decide +kernel) ?_
  refine lv_goto (tgt := 42) hx hb dX13_cell_25 (by decide) ?_
  refine va_put (D := (dC, dI)) (ci := 13) (v := .int 1) (ty := tyX13 0) (C := RX13) (T := TX13) (N := 225) hx hb hts inX13 tyX13 tyX13_ok nmX13 hown hK hP hD hS 0 rfl rfl 0 (by decide) (hts (.fieldLink RX13 1 "ChipFlowModel" "code" "I") wd_3032) (fun _ h9 => h9) rfl (by decide +kernel) rfl rfl (by rw [hmg.1]; decide) dX13_cell_42 (fun H locs hP hD hS => ?_)
  have hmg : fx (mg.set 0 (.int 1)) 225 [(0, .int 1), (88, .ref mlA)] := hmg.put (by decide) _ rfl
  obtain ⟨fs_1, e9⟩ : ∃ z, z = mg.set 0 (.int 1) := ⟨_, rfl⟩
  rw [← e9] at hmg
  have hP : va_P (dC, dI) CL [(m0, .inr (13, fs_1)), (mlA, .inl (mlC, (3, .inl (fun _ => 0))))] H := by rw [e9]; exact hP
  have hD : va_D A [(m0, .inr (13, fs_1)), (mlA, .inl (mlC, (3, .inl (fun _ => 0))))] := by rw [e9]; exact hD
  clear e9
  refine lv_aload_n hx hb dX13_cell_45 rfl (lv_at hl 0 rfl) ?_
  refine va_get (D := (dC, dI)) (ci := 13) (v := .int 1) (C := RX13) (T := TX13) (N := 225) hx hb hts inX13 hown hK hP 0 rfl rfl 0 (by decide) (hts (.fieldLink RX13 1 "ChipFlowModel" "code" "I") wd_3032) (fun _ h9 => h9) (hmg.get 0 rfl) dX13_cell_46 ?_
  refine lv_if_le (tgt := 54) hx hb dX13_cell_49 (by decide) (fun c9 => ?_) (fun c9 => ?_)
  · first | exact absurd c9 (by decide +kernel) | exact absurd (by decide +kernel) c9
  refine lv_iconst (v := 0) hx hb dX13_cell_52 (by decide +kernel) ?_
  exact W.iret (v := 0) hx hb hr (fun t ht hW => ⟨⟨0, (), rfl, rfl, fs_1, hmg.sub [0] rfl, by rw [ht]; exact hP.sub [0] rfl, va_K.moved hW.alike (hK.sub [] rfl), hD.sub [0] (by decide) rfl⟩, hS.F ht⟩) hS.2.2 dX13_cell_53
set_option maxHeartbeats 4000000 in
set_option maxRecDepth 100000 in
theorem ct_X13_play (l : Launch) (dC : Nat → ClassId) (dI : Nat → Nat → Nat) (sz : Nat) (p0 : Int32) (p1 : Int32) (m0 : Nat) (mg : List Value) (mdA : Nat) (mdC : ClassId) (hmg : fx mg 225 [(55, .ref mdA)]) : Met l yX13_play (Cond.code yX13_play cX13_play 4 (some .int) :: BG) ({ frames := 2, cells := 0, slots := 0, locals := 33 }) (va_Pc [.ref m0, .int p0, .int p1] (fun U => U.heap.size = sz ∧ va_P (dC, dI) CL [(m0, .inr (13, mg)), (mdA, .inl (mdC, (6, .inl (fun _ => 0))))] U.heap ∧ va_K (dC, dI) CL [(mdC, .boolean)] U ∧ va_D (fun _ => True) [(m0, .inr (13, mg)), (mdA, .inl (mdC, (6, .inl (fun _ => 0))))])) (va_Qi (fun (r : Int32) (_ : Unit) => r = 0) (fun _ t => ∃ mg1 : List Value, fx mg1 225 [(0, .int 1)] ∧ va_P (dC, dI) CL [(m0, .inr (13, mg1))] t.heap ∧ va_K (dC, dI) CL [] t ∧ va_D (va_A [(m0, .inr (13, mg)), (mdA, .inl (mdC, (6, .inl (fun _ => 0))))] sz) [(m0, .inr (13, mg1))]) (va_A [(m0, .inr (13, mg)), (mdA, .inl (mdC, (6, .inl (fun _ => 0))))] sz)) 0 0 (va_A [(m0, .inr (13, mg)), (mdA, .inl (mdC, (6, .inl (fun _ => 0))))] sz) := by
  refine Met.ofW (cc := cX13_play) (maxL := 4) (ret := (some .int)) (by decide) rfl ?_
  intro p e s m args below meth c s₁ B hml hv
  obtain ⟨rfl, hsz, hP, hK, hD0⟩ := hv
  have hx := B.exec
  have hb := B.bytes
  have hr := B.returns
  have hts : ∀ w ∈ BG, w.before _ s = true := fun w h => atoms_spec (ws := Cond.code yX13_play cX13_play 4 (some .int) :: BG) B.pre w (List.mem_cons_of_mem _ h)
  have hown : s.vm.findClass RX13 = some m.cls := findClass_of_methodNamed B.named
  have hlocks := B.notSynchronized
  subst hsz
  have hD := hD0.self (sz := s.heap.size)
  generalize hAe : va_A [(m0, .inr (13, mg)), (mdA, .inl (mdC, (6, .inl (fun _ => 0))))] s.heap.size = A at hD ⊢
  have hA : ∀ q : Nat, s.heap.size ≤ q → A q := fun q h => by rw [← hAe]; exact Or.inr h
  have hS : va_S A s.heap s.heap [] := va_S.rf
  have hl := lv_entry ([.ref m0, .int p0, .int p1]) (n := 4) (Nat.le_of_ble_eq_true rfl)
  rw [lg_entry_eq]
  generalize (lg_sl ([.ref m0, .int p0, .int p1]) ++ List.replicate (4 - (lg_sl ([.ref m0, .int p0, .int p1])).length) Slot.unset).toArray = ls at hl ⊢
  have hl : lv_has ls 4 [(0, .ref m0), (1, .int p0), (2, .int p1)] := hl
  refine lv_aload_n hx hb dX13_play_0 rfl (lv_at hl 0 rfl) ?_
  refine lv_aload_n hx hb dX13_play_1 rfl (lv_at hl 0 rfl) ?_
  refine lv_iload_n hx hb dX13_play_2 rfl (lv_at hl 1 rfl) ?_
  have hPc := hP.sub (ws' := [(m0, .inr (13, mg)), (mdA, .inl (mdC, (6, .inl (fun _ => 0))))]) [0, 1] rfl
  have hDc := hD.sub (ws' := [(m0, .inr (13, mg)), (mdA, .inl (mdC, (6, .inl (fun _ => 0))))]) [0, 1] (by decide) rfl
  have hKc := hK.sub (tys' := [(mdC, .boolean)]) [0] rfl
  have hFc := va_free (wc := [(m0, .inr (13, mg)), (mdA, .inl (mdC, (6, .inl (fun _ => 0))))]) hD hS hA [0, 1] rfl
  refine va_calli (va_runV (As := [.int p0]) (rest := [.ref m0]) ⟨hx, hb, hml, hown, hts⟩ (ct_X13_isDesign l dC dI _ p0 m0 mg mdA mdC (hmg.sub [0] rfl)) (cwV 1 hts (gi_V wd_4076 wd_4078 wd_215 wd_340 wd_4079) rfl rfl rfl (by decide +kernel) ⟨(Nat.le_of_ble_eq_true rfl), (Nat.le_of_ble_eq_true rfl)⟩) ⟨fun a U g mk q => by obtain ⟨q0, q1, qP, qK, qD⟩ := q; exact ⟨q0, q1, qP, va_K.moved (u := U) (U := U.calling g mk a) (Vm.Alike.refl U.vm) qK, qD⟩, va_recv hKc hPc (ci := 13) (q0 := 0) rfl rfl, fun U hU hW => ⟨rfl, by rw [hU], by rw [hU]; exact hPc, va_K.moved hW.alike hKc, hDc.weaken (fun _ _ _ _ => trivial)⟩⟩ rfl rfl hl.1 rfl (lv_room (Nat.le_of_ble_eq_true rfl)) dX13_play_3 ⟨(Nat.le_of_ble_eq_true rfl), (Nat.le_of_ble_eq_true rfl)⟩) hS (fun q _ h => hFc q h) hFc (fun r u t H1 locs ht hvm hw hB hz1 hk1 hS => ?_)
  subst hw
  obtain ⟨hP1, hK1, hD1⟩ := hB
  rw [ht] at hP1
  obtain ⟨hP, hD⟩ := va_join (wr := []) (w1 := [(m0, .inr (13, mg)), (mdA, .inl (mdC, (6, .inl (fun _ => 0))))]) hP hD [0, 1] [] rfl rfl (by decide) (by decide) hk1 hFc hP1 hD1
  have hP := hP.sub (ws' := [(m0, .inr (13, mg)), (mdA, .inl (mdC, (6, .inl (fun _ => 0))))]) [0, 1] rfl
  have hD := hD.sub (ws' := [(m0, .inr (13, mg)), (mdA, .inl (mdC, (6, .inl (fun _ => 0))))]) [0, 1] (by decide) rfl
  generalize H1 = H at hP hS ⊢
  have hP : va_P (dC, dI) CL [(m0, .inr (13, mg)), (mdA, .inl (mdC, (6, .inl (fun _ => 0))))] H := hP
  have hD : va_D A [(m0, .inr (13, mg)), (mdA, .inl (mdC, (6, .inl (fun _ => 0))))] := hD
  refine lv_if_ne (tgt := 13) hx hb dX13_play_6 (by decide) (fun c9 => ?_) (fun c9 => ?_)
  · first | exact absurd c9 (by decide +kernel) | exact absurd (by decide +kernel) c9
  refine lv_iconst (v := 1) hx hb dX13_play_9 (by decide +kernel) ?_
  refine lv_goto (tgt := 31) hx hb dX13_play_10 (by decide) ?_
  refine va_put (D := (dC, dI)) (ci := 13) (v := .int 1) (ty := tyX13 0) (C := RX13) (T := TX13) (N := 225) hx hb hts inX13 tyX13 tyX13_ok nmX13 hown hK hP hD hS 0 rfl rfl 0 (by decide) (hts (.fieldLink RX13 1 "ChipFlowModel" "code" "I") wd_3032) (fun _ h9 => h9) rfl (by decide +kernel) rfl rfl (by rw [hmg.1]; decide) dX13_play_31 (fun H locs hP hD hS => ?_)
  have hmg : fx (mg.set 0 (.int 1)) 225 [(0, .int 1), (55, .ref mdA)] := hmg.put (by decide) _ rfl
  obtain ⟨fs_1, e9⟩ : ∃ z, z = mg.set 0 (.int 1) := ⟨_, rfl⟩
  rw [← e9] at hmg
  have hP : va_P (dC, dI) CL [(m0, .inr (13, fs_1)), (mdA, .inl (mdC, (6, .inl (fun _ => 0))))] H := by rw [e9]; exact hP
  have hD : va_D A [(m0, .inr (13, fs_1)), (mdA, .inl (mdC, (6, .inl (fun _ => 0))))] := by rw [e9]; exact hD
  clear e9
  refine lv_aload_n hx hb dX13_play_34 rfl (lv_at hl 0 rfl) ?_
  refine va_get (D := (dC, dI)) (ci := 13) (v := .int 1) (C := RX13) (T := TX13) (N := 225) hx hb hts inX13 hown hK hP 0 rfl rfl 0 (by decide) (hts (.fieldLink RX13 1 "ChipFlowModel" "code" "I") wd_3032) (fun _ h9 => h9) (hmg.get 0 rfl) dX13_play_35 ?_
  refine lv_if_le (tgt := 43) hx hb dX13_play_38 (by decide) (fun c9 => ?_) (fun c9 => ?_)
  · first | exact absurd c9 (by decide +kernel) | exact absurd (by decide +kernel) c9
  refine lv_iconst (v := 0) hx hb dX13_play_41 (by decide +kernel) ?_
  exact W.iret (v := 0) hx hb hr (fun t ht hW => ⟨⟨0, (), rfl, rfl, fs_1, hmg.sub [0] rfl, by rw [ht]; exact hP.sub [0] rfl, va_K.moved hW.alike (hK.sub [] rfl), hD.sub [0] (by decide) rfl⟩, hS.F ht⟩) hS.2.2 dX13_play_42
set_option maxHeartbeats 4000000 in
set_option maxRecDepth 100000 in
theorem ct_X13_state (l : Launch) (dC : Nat → ClassId) (dI : Nat → Nat → Nat) (sz : Nat) (p0 : Int32) (m0 : Nat) (mg : List Value) (mdA : Nat) (mdC : ClassId) (hmg : fx mg 225 [(55, .ref mdA)]) : Met l yX13_state (Cond.code yX13_state cX13_state 2 (some .int) :: BG) ({ frames := 2, cells := 0, slots := 0, locals := 33 }) (va_Pc [.ref m0, .int p0] (fun U => U.heap.size = sz ∧ va_P (dC, dI) CL [(m0, .inr (13, mg)), (mdA, .inl (mdC, (6, .inl (fun _ => 0))))] U.heap ∧ va_K (dC, dI) CL [(mdC, .boolean)] U ∧ va_D (fun _ => True) [(m0, .inr (13, mg)), (mdA, .inl (mdC, (6, .inl (fun _ => 0))))])) (va_Qi (fun (r : Int32) (_ : Unit) => r = 0) (fun _ t => ∃ mg1 : List Value, fx mg1 225 [(0, .int 1)] ∧ va_P (dC, dI) CL [(m0, .inr (13, mg1))] t.heap ∧ va_K (dC, dI) CL [] t ∧ va_D (va_A [(m0, .inr (13, mg)), (mdA, .inl (mdC, (6, .inl (fun _ => 0))))] sz) [(m0, .inr (13, mg1))]) (va_A [(m0, .inr (13, mg)), (mdA, .inl (mdC, (6, .inl (fun _ => 0))))] sz)) 0 0 (va_A [(m0, .inr (13, mg)), (mdA, .inl (mdC, (6, .inl (fun _ => 0))))] sz) := by
  refine Met.ofW (cc := cX13_state) (maxL := 2) (ret := (some .int)) (by decide) rfl ?_
  intro p e s m args below meth c s₁ B hml hv
  obtain ⟨rfl, hsz, hP, hK, hD0⟩ := hv
  have hx := B.exec
  have hb := B.bytes
  have hr := B.returns
  have hts : ∀ w ∈ BG, w.before _ s = true := fun w h => atoms_spec (ws := Cond.code yX13_state cX13_state 2 (some .int) :: BG) B.pre w (List.mem_cons_of_mem _ h)
  have hown : s.vm.findClass RX13 = some m.cls := findClass_of_methodNamed B.named
  have hlocks := B.notSynchronized
  subst hsz
  have hD := hD0.self (sz := s.heap.size)
  generalize hAe : va_A [(m0, .inr (13, mg)), (mdA, .inl (mdC, (6, .inl (fun _ => 0))))] s.heap.size = A at hD ⊢
  have hA : ∀ q : Nat, s.heap.size ≤ q → A q := fun q h => by rw [← hAe]; exact Or.inr h
  have hS : va_S A s.heap s.heap [] := va_S.rf
  have hl := lv_entry ([.ref m0, .int p0]) (n := 2) (Nat.le_of_ble_eq_true rfl)
  rw [lg_entry_eq]
  generalize (lg_sl ([.ref m0, .int p0]) ++ List.replicate (2 - (lg_sl ([.ref m0, .int p0])).length) Slot.unset).toArray = ls at hl ⊢
  have hl : lv_has ls 2 [(0, .ref m0), (1, .int p0)] := hl
  refine lv_aload_n hx hb dX13_state_0 rfl (lv_at hl 0 rfl) ?_
  refine lv_aload_n hx hb dX13_state_1 rfl (lv_at hl 0 rfl) ?_
  refine lv_iload_n hx hb dX13_state_2 rfl (lv_at hl 1 rfl) ?_
  have hPc := hP.sub (ws' := [(m0, .inr (13, mg)), (mdA, .inl (mdC, (6, .inl (fun _ => 0))))]) [0, 1] rfl
  have hDc := hD.sub (ws' := [(m0, .inr (13, mg)), (mdA, .inl (mdC, (6, .inl (fun _ => 0))))]) [0, 1] (by decide) rfl
  have hKc := hK.sub (tys' := [(mdC, .boolean)]) [0] rfl
  have hFc := va_free (wc := [(m0, .inr (13, mg)), (mdA, .inl (mdC, (6, .inl (fun _ => 0))))]) hD hS hA [0, 1] rfl
  refine va_calli (va_runV (As := [.int p0]) (rest := [.ref m0]) ⟨hx, hb, hml, hown, hts⟩ (ct_X13_isDesign l dC dI _ p0 m0 mg mdA mdC (hmg.sub [0] rfl)) (cwV 1 hts (gi_V wd_4076 wd_4078 wd_215 wd_340 wd_4079) rfl rfl rfl (by decide +kernel) ⟨(Nat.le_of_ble_eq_true rfl), (Nat.le_of_ble_eq_true rfl)⟩) ⟨fun a U g mk q => by obtain ⟨q0, q1, qP, qK, qD⟩ := q; exact ⟨q0, q1, qP, va_K.moved (u := U) (U := U.calling g mk a) (Vm.Alike.refl U.vm) qK, qD⟩, va_recv hKc hPc (ci := 13) (q0 := 0) rfl rfl, fun U hU hW => ⟨rfl, by rw [hU], by rw [hU]; exact hPc, va_K.moved hW.alike hKc, hDc.weaken (fun _ _ _ _ => trivial)⟩⟩ rfl rfl hl.1 rfl (lv_room (Nat.le_of_ble_eq_true rfl)) dX13_state_3 ⟨(Nat.le_of_ble_eq_true rfl), (Nat.le_of_ble_eq_true rfl)⟩) hS (fun q _ h => hFc q h) hFc (fun r u t H1 locs ht hvm hw hB hz1 hk1 hS => ?_)
  subst hw
  obtain ⟨hP1, hK1, hD1⟩ := hB
  rw [ht] at hP1
  obtain ⟨hP, hD⟩ := va_join (wr := []) (w1 := [(m0, .inr (13, mg)), (mdA, .inl (mdC, (6, .inl (fun _ => 0))))]) hP hD [0, 1] [] rfl rfl (by decide) (by decide) hk1 hFc hP1 hD1
  have hP := hP.sub (ws' := [(m0, .inr (13, mg)), (mdA, .inl (mdC, (6, .inl (fun _ => 0))))]) [0, 1] rfl
  have hD := hD.sub (ws' := [(m0, .inr (13, mg)), (mdA, .inl (mdC, (6, .inl (fun _ => 0))))]) [0, 1] (by decide) rfl
  generalize H1 = H at hP hS ⊢
  have hP : va_P (dC, dI) CL [(m0, .inr (13, mg)), (mdA, .inl (mdC, (6, .inl (fun _ => 0))))] H := hP
  have hD : va_D A [(m0, .inr (13, mg)), (mdA, .inl (mdC, (6, .inl (fun _ => 0))))] := hD
  refine lv_if_eq (tgt := 13) hx hb dX13_state_6 (by decide) (fun c9 => ?_) (fun c9 => ?_)
  rotate_left
  · first | exact absurd c9 (by decide +kernel) | exact absurd (by decide +kernel) c9
  refine lv_iconst (v := 1) hx hb dX13_state_13 (by decide +kernel) ?_
  refine va_put (D := (dC, dI)) (ci := 13) (v := .int 1) (ty := tyX13 0) (C := RX13) (T := TX13) (N := 225) hx hb hts inX13 tyX13 tyX13_ok nmX13 hown hK hP hD hS 0 rfl rfl 0 (by decide) (hts (.fieldLink RX13 1 "ChipFlowModel" "code" "I") wd_3032) (fun _ h9 => h9) rfl (by decide +kernel) rfl rfl (by rw [hmg.1]; decide) dX13_state_14 (fun H locs hP hD hS => ?_)
  have hmg : fx (mg.set 0 (.int 1)) 225 [(0, .int 1), (55, .ref mdA)] := hmg.put (by decide) _ rfl
  obtain ⟨fs_1, e9⟩ : ∃ z, z = mg.set 0 (.int 1) := ⟨_, rfl⟩
  rw [← e9] at hmg
  have hP : va_P (dC, dI) CL [(m0, .inr (13, fs_1)), (mdA, .inl (mdC, (6, .inl (fun _ => 0))))] H := by rw [e9]; exact hP
  have hD : va_D A [(m0, .inr (13, fs_1)), (mdA, .inl (mdC, (6, .inl (fun _ => 0))))] := by rw [e9]; exact hD
  clear e9
  refine lv_aload_n hx hb dX13_state_17 rfl (lv_at hl 0 rfl) ?_
  refine va_get (D := (dC, dI)) (ci := 13) (v := .int 1) (C := RX13) (T := TX13) (N := 225) hx hb hts inX13 hown hK hP 0 rfl rfl 0 (by decide) (hts (.fieldLink RX13 1 "ChipFlowModel" "code" "I") wd_3032) (fun _ h9 => h9) (hmg.get 0 rfl) dX13_state_18 ?_
  refine lv_if_le (tgt := 28) hx hb dX13_state_21 (by decide) (fun c9 => ?_) (fun c9 => ?_)
  · first | exact absurd c9 (by decide +kernel) | exact absurd (by decide +kernel) c9
  refine lv_iconst (v := 0) hx hb dX13_state_24 (by decide +kernel) ?_
  refine lv_goto (tgt := 34) hx hb dX13_state_25 (by decide) ?_
  exact W.iret (v := 0) hx hb hr (fun t ht hW => ⟨⟨0, (), rfl, rfl, fs_1, hmg.sub [0] rfl, by rw [ht]; exact hP.sub [0] rfl, va_K.moved hW.alike (hK.sub [] rfl), hD.sub [0] (by decide) rfl⟩, hS.F ht⟩) hS.2.2 dX13_state_34
set_option maxHeartbeats 4000000 in
set_option maxRecDepth 100000 in
theorem ct_X13_restart (l : Launch) (dC : Nat → ClassId) (dI : Nat → Nat → Nat) (sz : Nat) (p0 : Int32) (m0 : Nat) (mg : List Value) (mdA : Nat) (mdC : ClassId) (hmg : fx mg 225 [(55, .ref mdA)]) : Met l yX13_restart (Cond.code yX13_restart cX13_restart 3 (some .int) :: BG) ({ frames := 2, cells := 0, slots := 0, locals := 33 }) (va_Pc [.ref m0, .int p0] (fun U => U.heap.size = sz ∧ va_P (dC, dI) CL [(m0, .inr (13, mg)), (mdA, .inl (mdC, (6, .inl (fun _ => 0))))] U.heap ∧ va_K (dC, dI) CL [(mdC, .boolean)] U ∧ va_D (fun _ => True) [(m0, .inr (13, mg)), (mdA, .inl (mdC, (6, .inl (fun _ => 0))))])) (va_Qi (fun (r : Int32) (_ : Unit) => r = 0) (fun _ t => ∃ mg1 : List Value, fx mg1 225 [(0, .int 1)] ∧ va_P (dC, dI) CL [(m0, .inr (13, mg1))] t.heap ∧ va_K (dC, dI) CL [] t ∧ va_D (va_A [(m0, .inr (13, mg)), (mdA, .inl (mdC, (6, .inl (fun _ => 0))))] sz) [(m0, .inr (13, mg1))]) (va_A [(m0, .inr (13, mg)), (mdA, .inl (mdC, (6, .inl (fun _ => 0))))] sz)) 0 0 (va_A [(m0, .inr (13, mg)), (mdA, .inl (mdC, (6, .inl (fun _ => 0))))] sz) := by
  refine Met.ofW (cc := cX13_restart) (maxL := 3) (ret := (some .int)) (by decide) rfl ?_
  intro p e s m args below meth c s₁ B hml hv
  obtain ⟨rfl, hsz, hP, hK, hD0⟩ := hv
  have hx := B.exec
  have hb := B.bytes
  have hr := B.returns
  have hts : ∀ w ∈ BG, w.before _ s = true := fun w h => atoms_spec (ws := Cond.code yX13_restart cX13_restart 3 (some .int) :: BG) B.pre w (List.mem_cons_of_mem _ h)
  have hown : s.vm.findClass RX13 = some m.cls := findClass_of_methodNamed B.named
  have hlocks := B.notSynchronized
  subst hsz
  have hD := hD0.self (sz := s.heap.size)
  generalize hAe : va_A [(m0, .inr (13, mg)), (mdA, .inl (mdC, (6, .inl (fun _ => 0))))] s.heap.size = A at hD ⊢
  have hA : ∀ q : Nat, s.heap.size ≤ q → A q := fun q h => by rw [← hAe]; exact Or.inr h
  have hS : va_S A s.heap s.heap [] := va_S.rf
  have hl := lv_entry ([.ref m0, .int p0]) (n := 3) (Nat.le_of_ble_eq_true rfl)
  rw [lg_entry_eq]
  generalize (lg_sl ([.ref m0, .int p0]) ++ List.replicate (3 - (lg_sl ([.ref m0, .int p0])).length) Slot.unset).toArray = ls at hl ⊢
  have hl : lv_has ls 3 [(0, .ref m0), (1, .int p0)] := hl
  refine lv_aload_n hx hb dX13_restart_0 rfl (lv_at hl 0 rfl) ?_
  refine lv_aload_n hx hb dX13_restart_1 rfl (lv_at hl 0 rfl) ?_
  refine lv_iload_n hx hb dX13_restart_2 rfl (lv_at hl 1 rfl) ?_
  have hPc := hP.sub (ws' := [(m0, .inr (13, mg)), (mdA, .inl (mdC, (6, .inl (fun _ => 0))))]) [0, 1] rfl
  have hDc := hD.sub (ws' := [(m0, .inr (13, mg)), (mdA, .inl (mdC, (6, .inl (fun _ => 0))))]) [0, 1] (by decide) rfl
  have hKc := hK.sub (tys' := [(mdC, .boolean)]) [0] rfl
  have hFc := va_free (wc := [(m0, .inr (13, mg)), (mdA, .inl (mdC, (6, .inl (fun _ => 0))))]) hD hS hA [0, 1] rfl
  refine va_calli (va_runV (As := [.int p0]) (rest := [.ref m0]) ⟨hx, hb, hml, hown, hts⟩ (ct_X13_isDesign l dC dI _ p0 m0 mg mdA mdC (hmg.sub [0] rfl)) (cwV 1 hts (gi_V wd_4076 wd_4078 wd_215 wd_340 wd_4079) rfl rfl rfl (by decide +kernel) ⟨(Nat.le_of_ble_eq_true rfl), (Nat.le_of_ble_eq_true rfl)⟩) ⟨fun a U g mk q => by obtain ⟨q0, q1, qP, qK, qD⟩ := q; exact ⟨q0, q1, qP, va_K.moved (u := U) (U := U.calling g mk a) (Vm.Alike.refl U.vm) qK, qD⟩, va_recv hKc hPc (ci := 13) (q0 := 0) rfl rfl, fun U hU hW => ⟨rfl, by rw [hU], by rw [hU]; exact hPc, va_K.moved hW.alike hKc, hDc.weaken (fun _ _ _ _ => trivial)⟩⟩ rfl rfl hl.1 rfl (lv_room (Nat.le_of_ble_eq_true rfl)) dX13_restart_3 ⟨(Nat.le_of_ble_eq_true rfl), (Nat.le_of_ble_eq_true rfl)⟩) hS (fun q _ h => hFc q h) hFc (fun r u t H1 locs ht hvm hw hB hz1 hk1 hS => ?_)
  subst hw
  obtain ⟨hP1, hK1, hD1⟩ := hB
  rw [ht] at hP1
  obtain ⟨hP, hD⟩ := va_join (wr := []) (w1 := [(m0, .inr (13, mg)), (mdA, .inl (mdC, (6, .inl (fun _ => 0))))]) hP hD [0, 1] [] rfl rfl (by decide) (by decide) hk1 hFc hP1 hD1
  have hP := hP.sub (ws' := [(m0, .inr (13, mg)), (mdA, .inl (mdC, (6, .inl (fun _ => 0))))]) [0, 1] rfl
  have hD := hD.sub (ws' := [(m0, .inr (13, mg)), (mdA, .inl (mdC, (6, .inl (fun _ => 0))))]) [0, 1] (by decide) rfl
  generalize H1 = H at hP hS ⊢
  have hP : va_P (dC, dI) CL [(m0, .inr (13, mg)), (mdA, .inl (mdC, (6, .inl (fun _ => 0))))] H := hP
  have hD : va_D A [(m0, .inr (13, mg)), (mdA, .inl (mdC, (6, .inl (fun _ => 0))))] := hD
  refine lv_if_eq (tgt := 13) hx hb dX13_restart_6 (by decide) (fun c9 => ?_) (fun c9 => ?_)
  rotate_left
  · first | exact absurd c9 (by decide +kernel) | exact absurd (by decide +kernel) c9
  refine lv_iconst (v := 1) hx hb dX13_restart_13 (by decide +kernel) ?_
  refine va_put (D := (dC, dI)) (ci := 13) (v := .int 1) (ty := tyX13 0) (C := RX13) (T := TX13) (N := 225) hx hb hts inX13 tyX13 tyX13_ok nmX13 hown hK hP hD hS 0 rfl rfl 0 (by decide) (hts (.fieldLink RX13 1 "ChipFlowModel" "code" "I") wd_3032) (fun _ h9 => h9) rfl (by decide +kernel) rfl rfl (by rw [hmg.1]; decide) dX13_restart_14 (fun H locs hP hD hS => ?_)
  have hmg : fx (mg.set 0 (.int 1)) 225 [(0, .int 1), (55, .ref mdA)] := hmg.put (by decide) _ rfl
  obtain ⟨fs_1, e9⟩ : ∃ z, z = mg.set 0 (.int 1) := ⟨_, rfl⟩
  rw [← e9] at hmg
  have hP : va_P (dC, dI) CL [(m0, .inr (13, fs_1)), (mdA, .inl (mdC, (6, .inl (fun _ => 0))))] H := by rw [e9]; exact hP
  have hD : va_D A [(m0, .inr (13, fs_1)), (mdA, .inl (mdC, (6, .inl (fun _ => 0))))] := by rw [e9]; exact hD
  clear e9
  refine lv_aload_n hx hb dX13_restart_17 rfl (lv_at hl 0 rfl) ?_
  refine va_get (D := (dC, dI)) (ci := 13) (v := .int 1) (C := RX13) (T := TX13) (N := 225) hx hb hts inX13 hown hK hP 0 rfl rfl 0 (by decide) (hts (.fieldLink RX13 1 "ChipFlowModel" "code" "I") wd_3032) (fun _ h9 => h9) (hmg.get 0 rfl) dX13_restart_18 ?_
  refine lv_if_le (tgt := 26) hx hb dX13_restart_21 (by decide) (fun c9 => ?_) (fun c9 => ?_)
  · first | exact absurd c9 (by decide +kernel) | exact absurd (by decide +kernel) c9
  refine lv_iconst (v := 0) hx hb dX13_restart_24 (by decide +kernel) ?_
  exact W.iret (v := 0) hx hb hr (fun t ht hW => ⟨⟨0, (), rfl, rfl, fs_1, hmg.sub [0] rfl, by rw [ht]; exact hP.sub [0] rfl, va_K.moved hW.alike (hK.sub [] rfl), hD.sub [0] (by decide) rfl⟩, hS.F ht⟩) hS.2.2 dX13_restart_25
set_option maxHeartbeats 4000000 in
set_option maxRecDepth 100000 in
theorem ct_X13_equal (l : Launch) (dC : Nat → ClassId) (dI : Nat → Nat → Nat) (sz : Nat) (p0 : Int32) (p1 : Int32) (m0 : Nat) (mg : List Value) (mdA : Nat) (mdC : ClassId) (hmg : fx mg 225 [(55, .ref mdA)]) : Met l yX13_equal (Cond.code yX13_equal cX13_equal 3 (some .int) :: BG) ({ frames := 2, cells := 0, slots := 0, locals := 33 }) (va_Pc [.ref m0, .int p0, .int p1] (fun U => U.heap.size = sz ∧ va_P (dC, dI) CL [(m0, .inr (13, mg)), (mdA, .inl (mdC, (6, .inl (fun _ => 0))))] U.heap ∧ va_K (dC, dI) CL [(mdC, .boolean)] U ∧ va_D (fun _ => True) [(m0, .inr (13, mg)), (mdA, .inl (mdC, (6, .inl (fun _ => 0))))])) (va_Qi (fun (r : Int32) (_ : Unit) => r = 0) (fun _ t => ∃ mg1 : List Value, fx mg1 225 [(0, .int 1)] ∧ va_P (dC, dI) CL [(m0, .inr (13, mg1))] t.heap ∧ va_K (dC, dI) CL [] t ∧ va_D (va_A [(m0, .inr (13, mg)), (mdA, .inl (mdC, (6, .inl (fun _ => 0))))] sz) [(m0, .inr (13, mg1))]) (va_A [(m0, .inr (13, mg)), (mdA, .inl (mdC, (6, .inl (fun _ => 0))))] sz)) 0 0 (va_A [(m0, .inr (13, mg)), (mdA, .inl (mdC, (6, .inl (fun _ => 0))))] sz) := by
  refine Met.ofW (cc := cX13_equal) (maxL := 3) (ret := (some .int)) (by decide) rfl ?_
  intro p e s m args below meth c s₁ B hml hv
  obtain ⟨rfl, hsz, hP, hK, hD0⟩ := hv
  have hx := B.exec
  have hb := B.bytes
  have hr := B.returns
  have hts : ∀ w ∈ BG, w.before _ s = true := fun w h => atoms_spec (ws := Cond.code yX13_equal cX13_equal 3 (some .int) :: BG) B.pre w (List.mem_cons_of_mem _ h)
  have hown : s.vm.findClass RX13 = some m.cls := findClass_of_methodNamed B.named
  have hlocks := B.notSynchronized
  subst hsz
  have hD := hD0.self (sz := s.heap.size)
  generalize hAe : va_A [(m0, .inr (13, mg)), (mdA, .inl (mdC, (6, .inl (fun _ => 0))))] s.heap.size = A at hD ⊢
  have hA : ∀ q : Nat, s.heap.size ≤ q → A q := fun q h => by rw [← hAe]; exact Or.inr h
  have hS : va_S A s.heap s.heap [] := va_S.rf
  have hl := lv_entry ([.ref m0, .int p0, .int p1]) (n := 3) (Nat.le_of_ble_eq_true rfl)
  rw [lg_entry_eq]
  generalize (lg_sl ([.ref m0, .int p0, .int p1]) ++ List.replicate (3 - (lg_sl ([.ref m0, .int p0, .int p1])).length) Slot.unset).toArray = ls at hl ⊢
  have hl : lv_has ls 3 [(0, .ref m0), (1, .int p0), (2, .int p1)] := hl
  refine lv_aload_n hx hb dX13_equal_0 rfl (lv_at hl 0 rfl) ?_
  refine lv_aload_n hx hb dX13_equal_1 rfl (lv_at hl 0 rfl) ?_
  refine lv_iload_n hx hb dX13_equal_2 rfl (lv_at hl 1 rfl) ?_
  have hPc := hP.sub (ws' := [(m0, .inr (13, mg)), (mdA, .inl (mdC, (6, .inl (fun _ => 0))))]) [0, 1] rfl
  have hDc := hD.sub (ws' := [(m0, .inr (13, mg)), (mdA, .inl (mdC, (6, .inl (fun _ => 0))))]) [0, 1] (by decide) rfl
  have hKc := hK.sub (tys' := [(mdC, .boolean)]) [0] rfl
  have hFc := va_free (wc := [(m0, .inr (13, mg)), (mdA, .inl (mdC, (6, .inl (fun _ => 0))))]) hD hS hA [0, 1] rfl
  refine va_calli (va_runV (As := [.int p0]) (rest := [.ref m0]) ⟨hx, hb, hml, hown, hts⟩ (ct_X13_isDesign l dC dI _ p0 m0 mg mdA mdC (hmg.sub [0] rfl)) (cwV 1 hts (gi_V wd_4076 wd_4078 wd_215 wd_340 wd_4079) rfl rfl rfl (by decide +kernel) ⟨(Nat.le_of_ble_eq_true rfl), (Nat.le_of_ble_eq_true rfl)⟩) ⟨fun a U g mk q => by obtain ⟨q0, q1, qP, qK, qD⟩ := q; exact ⟨q0, q1, qP, va_K.moved (u := U) (U := U.calling g mk a) (Vm.Alike.refl U.vm) qK, qD⟩, va_recv hKc hPc (ci := 13) (q0 := 0) rfl rfl, fun U hU hW => ⟨rfl, by rw [hU], by rw [hU]; exact hPc, va_K.moved hW.alike hKc, hDc.weaken (fun _ _ _ _ => trivial)⟩⟩ rfl rfl hl.1 rfl (lv_room (Nat.le_of_ble_eq_true rfl)) dX13_equal_3 ⟨(Nat.le_of_ble_eq_true rfl), (Nat.le_of_ble_eq_true rfl)⟩) hS (fun q _ h => hFc q h) hFc (fun r u t H1 locs ht hvm hw hB hz1 hk1 hS => ?_)
  subst hw
  obtain ⟨hP1, hK1, hD1⟩ := hB
  rw [ht] at hP1
  obtain ⟨hP, hD⟩ := va_join (wr := []) (w1 := [(m0, .inr (13, mg)), (mdA, .inl (mdC, (6, .inl (fun _ => 0))))]) hP hD [0, 1] [] rfl rfl (by decide) (by decide) hk1 hFc hP1 hD1
  have hP := hP.sub (ws' := [(m0, .inr (13, mg)), (mdA, .inl (mdC, (6, .inl (fun _ => 0))))]) [0, 1] rfl
  have hD := hD.sub (ws' := [(m0, .inr (13, mg)), (mdA, .inl (mdC, (6, .inl (fun _ => 0))))]) [0, 1] (by decide) rfl
  generalize H1 = H at hP hS ⊢
  have hP : va_P (dC, dI) CL [(m0, .inr (13, mg)), (mdA, .inl (mdC, (6, .inl (fun _ => 0))))] H := hP
  have hD : va_D A [(m0, .inr (13, mg)), (mdA, .inl (mdC, (6, .inl (fun _ => 0))))] := hD
  refine lv_if_eq (tgt := 17) hx hb dX13_equal_6 (by decide) (fun c9 => ?_) (fun c9 => ?_)
  rotate_left
  · first | exact absurd c9 (by decide +kernel) | exact absurd (by decide +kernel) c9
  refine lv_iconst (v := 1) hx hb dX13_equal_17 (by decide +kernel) ?_
  refine lv_goto (tgt := 56) hx hb dX13_equal_18 (by decide) ?_
  refine va_put (D := (dC, dI)) (ci := 13) (v := .int 1) (ty := tyX13 0) (C := RX13) (T := TX13) (N := 225) hx hb hts inX13 tyX13 tyX13_ok nmX13 hown hK hP hD hS 0 rfl rfl 0 (by decide) (hts (.fieldLink RX13 1 "ChipFlowModel" "code" "I") wd_3032) (fun _ h9 => h9) rfl (by decide +kernel) rfl rfl (by rw [hmg.1]; decide) dX13_equal_56 (fun H locs hP hD hS => ?_)
  have hmg : fx (mg.set 0 (.int 1)) 225 [(0, .int 1), (55, .ref mdA)] := hmg.put (by decide) _ rfl
  obtain ⟨fs_1, e9⟩ : ∃ z, z = mg.set 0 (.int 1) := ⟨_, rfl⟩
  rw [← e9] at hmg
  have hP : va_P (dC, dI) CL [(m0, .inr (13, fs_1)), (mdA, .inl (mdC, (6, .inl (fun _ => 0))))] H := by rw [e9]; exact hP
  have hD : va_D A [(m0, .inr (13, fs_1)), (mdA, .inl (mdC, (6, .inl (fun _ => 0))))] := by rw [e9]; exact hD
  clear e9
  refine lv_aload_n hx hb dX13_equal_59 rfl (lv_at hl 0 rfl) ?_
  refine va_get (D := (dC, dI)) (ci := 13) (v := .int 1) (C := RX13) (T := TX13) (N := 225) hx hb hts inX13 hown hK hP 0 rfl rfl 0 (by decide) (hts (.fieldLink RX13 1 "ChipFlowModel" "code" "I") wd_3032) (fun _ h9 => h9) (hmg.get 0 rfl) dX13_equal_60 ?_
  refine lv_if_le (tgt := 68) hx hb dX13_equal_63 (by decide) (fun c9 => ?_) (fun c9 => ?_)
  · first | exact absurd c9 (by decide +kernel) | exact absurd (by decide +kernel) c9
  refine lv_iconst (v := 0) hx hb dX13_equal_66 (by decide +kernel) ?_
  exact W.iret (v := 0) hx hb hr (fun t ht hW => ⟨⟨0, (), rfl, rfl, fs_1, hmg.sub [0] rfl, by rw [ht]; exact hP.sub [0] rfl, va_K.moved hW.alike (hK.sub [] rfl), hD.sub [0] (by decide) rfl⟩, hS.F ht⟩) hS.2.2 dX13_equal_67
set_option maxHeartbeats 4000000 in
set_option maxRecDepth 100000 in
theorem ct_X13_never (l : Launch) (dC : Nat → ClassId) (dI : Nat → Nat → Nat) (sz : Nat) (p0 : Int32) (p1 : Int32) (m0 : Nat) (mg : List Value) (mdA : Nat) (mdC : ClassId) (hmg : fx mg 225 [(55, .ref mdA)]) : Met l yX13_never (Cond.code yX13_never cX13_never 4 (some .int) :: BG) ({ frames := 2, cells := 0, slots := 0, locals := 33 }) (va_Pc [.ref m0, .int p0, .int p1] (fun U => U.heap.size = sz ∧ va_P (dC, dI) CL [(m0, .inr (13, mg)), (mdA, .inl (mdC, (6, .inl (fun _ => 0))))] U.heap ∧ va_K (dC, dI) CL [(mdC, .boolean)] U ∧ va_D (fun _ => True) [(m0, .inr (13, mg)), (mdA, .inl (mdC, (6, .inl (fun _ => 0))))])) (va_Qi (fun (r : Int32) (_ : Unit) => r = 0) (fun _ t => ∃ mg1 : List Value, fx mg1 225 [(0, .int 1)] ∧ va_P (dC, dI) CL [(m0, .inr (13, mg1))] t.heap ∧ va_K (dC, dI) CL [] t ∧ va_D (va_A [(m0, .inr (13, mg)), (mdA, .inl (mdC, (6, .inl (fun _ => 0))))] sz) [(m0, .inr (13, mg1))]) (va_A [(m0, .inr (13, mg)), (mdA, .inl (mdC, (6, .inl (fun _ => 0))))] sz)) 0 0 (va_A [(m0, .inr (13, mg)), (mdA, .inl (mdC, (6, .inl (fun _ => 0))))] sz) := by
  refine Met.ofW (cc := cX13_never) (maxL := 4) (ret := (some .int)) (by decide) rfl ?_
  intro p e s m args below meth c s₁ B hml hv
  obtain ⟨rfl, hsz, hP, hK, hD0⟩ := hv
  have hx := B.exec
  have hb := B.bytes
  have hr := B.returns
  have hts : ∀ w ∈ BG, w.before _ s = true := fun w h => atoms_spec (ws := Cond.code yX13_never cX13_never 4 (some .int) :: BG) B.pre w (List.mem_cons_of_mem _ h)
  have hown : s.vm.findClass RX13 = some m.cls := findClass_of_methodNamed B.named
  have hlocks := B.notSynchronized
  subst hsz
  have hD := hD0.self (sz := s.heap.size)
  generalize hAe : va_A [(m0, .inr (13, mg)), (mdA, .inl (mdC, (6, .inl (fun _ => 0))))] s.heap.size = A at hD ⊢
  have hA : ∀ q : Nat, s.heap.size ≤ q → A q := fun q h => by rw [← hAe]; exact Or.inr h
  have hS : va_S A s.heap s.heap [] := va_S.rf
  have hl := lv_entry ([.ref m0, .int p0, .int p1]) (n := 4) (Nat.le_of_ble_eq_true rfl)
  rw [lg_entry_eq]
  generalize (lg_sl ([.ref m0, .int p0, .int p1]) ++ List.replicate (4 - (lg_sl ([.ref m0, .int p0, .int p1])).length) Slot.unset).toArray = ls at hl ⊢
  have hl : lv_has ls 4 [(0, .ref m0), (1, .int p0), (2, .int p1)] := hl
  refine lv_aload_n hx hb dX13_never_0 rfl (lv_at hl 0 rfl) ?_
  refine lv_aload_n hx hb dX13_never_1 rfl (lv_at hl 0 rfl) ?_
  refine lv_iload_n hx hb dX13_never_2 rfl (lv_at hl 1 rfl) ?_
  have hPc := hP.sub (ws' := [(m0, .inr (13, mg)), (mdA, .inl (mdC, (6, .inl (fun _ => 0))))]) [0, 1] rfl
  have hDc := hD.sub (ws' := [(m0, .inr (13, mg)), (mdA, .inl (mdC, (6, .inl (fun _ => 0))))]) [0, 1] (by decide) rfl
  have hKc := hK.sub (tys' := [(mdC, .boolean)]) [0] rfl
  have hFc := va_free (wc := [(m0, .inr (13, mg)), (mdA, .inl (mdC, (6, .inl (fun _ => 0))))]) hD hS hA [0, 1] rfl
  refine va_calli (va_runV (As := [.int p0]) (rest := [.ref m0]) ⟨hx, hb, hml, hown, hts⟩ (ct_X13_isDesign l dC dI _ p0 m0 mg mdA mdC (hmg.sub [0] rfl)) (cwV 1 hts (gi_V wd_4076 wd_4078 wd_215 wd_340 wd_4079) rfl rfl rfl (by decide +kernel) ⟨(Nat.le_of_ble_eq_true rfl), (Nat.le_of_ble_eq_true rfl)⟩) ⟨fun a U g mk q => by obtain ⟨q0, q1, qP, qK, qD⟩ := q; exact ⟨q0, q1, qP, va_K.moved (u := U) (U := U.calling g mk a) (Vm.Alike.refl U.vm) qK, qD⟩, va_recv hKc hPc (ci := 13) (q0 := 0) rfl rfl, fun U hU hW => ⟨rfl, by rw [hU], by rw [hU]; exact hPc, va_K.moved hW.alike hKc, hDc.weaken (fun _ _ _ _ => trivial)⟩⟩ rfl rfl hl.1 rfl (lv_room (Nat.le_of_ble_eq_true rfl)) dX13_never_3 ⟨(Nat.le_of_ble_eq_true rfl), (Nat.le_of_ble_eq_true rfl)⟩) hS (fun q _ h => hFc q h) hFc (fun r u t H1 locs ht hvm hw hB hz1 hk1 hS => ?_)
  subst hw
  obtain ⟨hP1, hK1, hD1⟩ := hB
  rw [ht] at hP1
  obtain ⟨hP, hD⟩ := va_join (wr := []) (w1 := [(m0, .inr (13, mg)), (mdA, .inl (mdC, (6, .inl (fun _ => 0))))]) hP hD [0, 1] [] rfl rfl (by decide) (by decide) hk1 hFc hP1 hD1
  have hP := hP.sub (ws' := [(m0, .inr (13, mg)), (mdA, .inl (mdC, (6, .inl (fun _ => 0))))]) [0, 1] rfl
  have hD := hD.sub (ws' := [(m0, .inr (13, mg)), (mdA, .inl (mdC, (6, .inl (fun _ => 0))))]) [0, 1] (by decide) rfl
  generalize H1 = H at hP hS ⊢
  have hP : va_P (dC, dI) CL [(m0, .inr (13, mg)), (mdA, .inl (mdC, (6, .inl (fun _ => 0))))] H := hP
  have hD : va_D A [(m0, .inr (13, mg)), (mdA, .inl (mdC, (6, .inl (fun _ => 0))))] := hD
  refine lv_if_eq (tgt := 23) hx hb dX13_never_6 (by decide) (fun c9 => ?_) (fun c9 => ?_)
  rotate_left
  · first | exact absurd c9 (by decide +kernel) | exact absurd (by decide +kernel) c9
  refine lv_iconst (v := 1) hx hb dX13_never_23 (by decide +kernel) ?_
  refine lv_goto (tgt := 28) hx hb dX13_never_24 (by decide) ?_
  refine va_put (D := (dC, dI)) (ci := 13) (v := .int 1) (ty := tyX13 0) (C := RX13) (T := TX13) (N := 225) hx hb hts inX13 tyX13 tyX13_ok nmX13 hown hK hP hD hS 0 rfl rfl 0 (by decide) (hts (.fieldLink RX13 1 "ChipFlowModel" "code" "I") wd_3032) (fun _ h9 => h9) rfl (by decide +kernel) rfl rfl (by rw [hmg.1]; decide) dX13_never_28 (fun H locs hP hD hS => ?_)
  have hmg : fx (mg.set 0 (.int 1)) 225 [(0, .int 1), (55, .ref mdA)] := hmg.put (by decide) _ rfl
  obtain ⟨fs_1, e9⟩ : ∃ z, z = mg.set 0 (.int 1) := ⟨_, rfl⟩
  rw [← e9] at hmg
  have hP : va_P (dC, dI) CL [(m0, .inr (13, fs_1)), (mdA, .inl (mdC, (6, .inl (fun _ => 0))))] H := by rw [e9]; exact hP
  have hD : va_D A [(m0, .inr (13, fs_1)), (mdA, .inl (mdC, (6, .inl (fun _ => 0))))] := by rw [e9]; exact hD
  clear e9
  refine lv_aload_n hx hb dX13_never_31 rfl (lv_at hl 0 rfl) ?_
  refine va_get (D := (dC, dI)) (ci := 13) (v := .int 1) (C := RX13) (T := TX13) (N := 225) hx hb hts inX13 hown hK hP 0 rfl rfl 0 (by decide) (hts (.fieldLink RX13 1 "ChipFlowModel" "code" "I") wd_3032) (fun _ h9 => h9) (hmg.get 0 rfl) dX13_never_32 ?_
  refine lv_if_le (tgt := 40) hx hb dX13_never_35 (by decide) (fun c9 => ?_) (fun c9 => ?_)
  · first | exact absurd c9 (by decide +kernel) | exact absurd (by decide +kernel) c9
  refine lv_iconst (v := 0) hx hb dX13_never_38 (by decide +kernel) ?_
  exact W.iret (v := 0) hx hb hr (fun t ht hW => ⟨⟨0, (), rfl, rfl, fs_1, hmg.sub [0] rfl, by rw [ht]; exact hP.sub [0] rfl, va_K.moved hW.alike (hK.sub [] rfl), hD.sub [0] (by decide) rfl⟩, hS.F ht⟩) hS.2.2 dX13_never_39
set_option maxHeartbeats 4000000 in
set_option maxRecDepth 100000 in
theorem ct_X13_chip (l : Launch) (dC : Nat → ClassId) (dI : Nat → Nat → Nat) (sz : Nat) (p0 : Int32) (p1 : Int32) (m0 : Nat) (mg : List Value) (mcA : Nat) (mcC : ClassId) (hmg : fx mg 225 [(138, .ref mcA)]) : Met l yX13_chip (Cond.code yX13_chip cX13_chip 5 (some .int) :: BG) ({ frames := 2, cells := 0, slots := 0, locals := 33 }) (va_Pc [.ref m0, .int p0, .int p1] (fun U => U.heap.size = sz ∧ va_P (dC, dI) CL [(m0, .inr (13, mg)), (mcA, .inl (mcC, (4, .inl (fun _ => 0))))] U.heap ∧ va_K (dC, dI) CL [(mcC, .boolean)] U ∧ va_D (fun _ => True) [(m0, .inr (13, mg)), (mcA, .inl (mcC, (4, .inl (fun _ => 0))))])) (va_Qi (fun (r : Int32) (_ : Unit) => r = 0) (fun _ t => ∃ mg1 : List Value, fx mg1 225 [(0, .int 1)] ∧ va_P (dC, dI) CL [(m0, .inr (13, mg1))] t.heap ∧ va_K (dC, dI) CL [] t ∧ va_D (va_A [(m0, .inr (13, mg)), (mcA, .inl (mcC, (4, .inl (fun _ => 0))))] sz) [(m0, .inr (13, mg1))]) (va_A [(m0, .inr (13, mg)), (mcA, .inl (mcC, (4, .inl (fun _ => 0))))] sz)) 0 0 (va_A [(m0, .inr (13, mg)), (mcA, .inl (mcC, (4, .inl (fun _ => 0))))] sz) := by
  refine Met.ofW (cc := cX13_chip) (maxL := 5) (ret := (some .int)) (by decide) rfl ?_
  intro p e s m args below meth c s₁ B hml hv
  obtain ⟨rfl, hsz, hP, hK, hD0⟩ := hv
  have hx := B.exec
  have hb := B.bytes
  have hr := B.returns
  have hts : ∀ w ∈ BG, w.before _ s = true := fun w h => atoms_spec (ws := Cond.code yX13_chip cX13_chip 5 (some .int) :: BG) B.pre w (List.mem_cons_of_mem _ h)
  have hown : s.vm.findClass RX13 = some m.cls := findClass_of_methodNamed B.named
  have hlocks := B.notSynchronized
  subst hsz
  have hD := hD0.self (sz := s.heap.size)
  generalize hAe : va_A [(m0, .inr (13, mg)), (mcA, .inl (mcC, (4, .inl (fun _ => 0))))] s.heap.size = A at hD ⊢
  have hA : ∀ q : Nat, s.heap.size ≤ q → A q := fun q h => by rw [← hAe]; exact Or.inr h
  have hS : va_S A s.heap s.heap [] := va_S.rf
  have hl := lv_entry ([.ref m0, .int p0, .int p1]) (n := 5) (Nat.le_of_ble_eq_true rfl)
  rw [lg_entry_eq]
  generalize (lg_sl ([.ref m0, .int p0, .int p1]) ++ List.replicate (5 - (lg_sl ([.ref m0, .int p0, .int p1])).length) Slot.unset).toArray = ls at hl ⊢
  have hl : lv_has ls 5 [(0, .ref m0), (1, .int p0), (2, .int p1)] := hl
  refine lv_aload_n hx hb dX13_chip_0 rfl (lv_at hl 0 rfl) ?_
  refine lv_aload_n hx hb dX13_chip_1 rfl (lv_at hl 0 rfl) ?_
  refine lv_iload_n hx hb dX13_chip_2 rfl (lv_at hl 1 rfl) ?_
  have hPc := hP.sub (ws' := [(m0, .inr (13, mg)), (mcA, .inl (mcC, (4, .inl (fun _ => 0))))]) [0, 1] rfl
  have hDc := hD.sub (ws' := [(m0, .inr (13, mg)), (mcA, .inl (mcC, (4, .inl (fun _ => 0))))]) [0, 1] (by decide) rfl
  have hKc := hK.sub (tys' := [(mcC, .boolean)]) [0] rfl
  have hFc := va_free (wc := [(m0, .inr (13, mg)), (mcA, .inl (mcC, (4, .inl (fun _ => 0))))]) hD hS hA [0, 1] rfl
  refine va_calli (va_runV (As := [.int p0]) (rest := [.ref m0]) ⟨hx, hb, hml, hown, hts⟩ (ct_X13_isChip l dC dI _ p0 m0 mg mcA mcC (hmg.sub [0] rfl)) (cwV 1 hts (gi_V wd_4084 wd_4086 wd_217 wd_340 wd_4087) rfl rfl rfl (by decide +kernel) ⟨(Nat.le_of_ble_eq_true rfl), (Nat.le_of_ble_eq_true rfl)⟩) ⟨fun a U g mk q => by obtain ⟨q0, q1, qP, qK, qD⟩ := q; exact ⟨q0, q1, qP, va_K.moved (u := U) (U := U.calling g mk a) (Vm.Alike.refl U.vm) qK, qD⟩, va_recv hKc hPc (ci := 13) (q0 := 0) rfl rfl, fun U hU hW => ⟨rfl, by rw [hU], by rw [hU]; exact hPc, va_K.moved hW.alike hKc, hDc.weaken (fun _ _ _ _ => trivial)⟩⟩ rfl rfl hl.1 rfl (lv_room (Nat.le_of_ble_eq_true rfl)) dX13_chip_3 ⟨(Nat.le_of_ble_eq_true rfl), (Nat.le_of_ble_eq_true rfl)⟩) hS (fun q _ h => hFc q h) hFc (fun r u t H1 locs ht hvm hw hB hz1 hk1 hS => ?_)
  subst hw
  obtain ⟨hP1, hK1, hD1⟩ := hB
  rw [ht] at hP1
  obtain ⟨hP, hD⟩ := va_join (wr := []) (w1 := [(m0, .inr (13, mg)), (mcA, .inl (mcC, (4, .inl (fun _ => 0))))]) hP hD [0, 1] [] rfl rfl (by decide) (by decide) hk1 hFc hP1 hD1
  have hP := hP.sub (ws' := [(m0, .inr (13, mg)), (mcA, .inl (mcC, (4, .inl (fun _ => 0))))]) [0, 1] rfl
  have hD := hD.sub (ws' := [(m0, .inr (13, mg)), (mcA, .inl (mcC, (4, .inl (fun _ => 0))))]) [0, 1] (by decide) rfl
  generalize H1 = H at hP hS ⊢
  have hP : va_P (dC, dI) CL [(m0, .inr (13, mg)), (mcA, .inl (mcC, (4, .inl (fun _ => 0))))] H := hP
  have hD : va_D A [(m0, .inr (13, mg)), (mcA, .inl (mcC, (4, .inl (fun _ => 0))))] := hD
  refine lv_if_ne (tgt := 13) hx hb dX13_chip_6 (by decide) (fun c9 => ?_) (fun c9 => ?_)
  · first | exact absurd c9 (by decide +kernel) | exact absurd (by decide +kernel) c9
  refine lv_iconst (v := 1) hx hb dX13_chip_9 (by decide +kernel) ?_
  refine lv_goto (tgt := 28) hx hb dX13_chip_10 (by decide) ?_
  refine va_put (D := (dC, dI)) (ci := 13) (v := .int 1) (ty := tyX13 0) (C := RX13) (T := TX13) (N := 225) hx hb hts inX13 tyX13 tyX13_ok nmX13 hown hK hP hD hS 0 rfl rfl 0 (by decide) (hts (.fieldLink RX13 1 "ChipFlowModel" "code" "I") wd_3032) (fun _ h9 => h9) rfl (by decide +kernel) rfl rfl (by rw [hmg.1]; decide) dX13_chip_28 (fun H locs hP hD hS => ?_)
  have hmg : fx (mg.set 0 (.int 1)) 225 [(0, .int 1), (138, .ref mcA)] := hmg.put (by decide) _ rfl
  obtain ⟨fs_1, e9⟩ : ∃ z, z = mg.set 0 (.int 1) := ⟨_, rfl⟩
  rw [← e9] at hmg
  have hP : va_P (dC, dI) CL [(m0, .inr (13, fs_1)), (mcA, .inl (mcC, (4, .inl (fun _ => 0))))] H := by rw [e9]; exact hP
  have hD : va_D A [(m0, .inr (13, fs_1)), (mcA, .inl (mcC, (4, .inl (fun _ => 0))))] := by rw [e9]; exact hD
  clear e9
  refine lv_aload_n hx hb dX13_chip_31 rfl (lv_at hl 0 rfl) ?_
  refine va_get (D := (dC, dI)) (ci := 13) (v := .int 1) (C := RX13) (T := TX13) (N := 225) hx hb hts inX13 hown hK hP 0 rfl rfl 0 (by decide) (hts (.fieldLink RX13 1 "ChipFlowModel" "code" "I") wd_3032) (fun _ h9 => h9) (hmg.get 0 rfl) dX13_chip_32 ?_
  refine lv_if_le (tgt := 40) hx hb dX13_chip_35 (by decide) (fun c9 => ?_) (fun c9 => ?_)
  · first | exact absurd c9 (by decide +kernel) | exact absurd (by decide +kernel) c9
  refine lv_iconst (v := 0) hx hb dX13_chip_38 (by decide +kernel) ?_
  exact W.iret (v := 0) hx hb hr (fun t ht hW => ⟨⟨0, (), rfl, rfl, fs_1, hmg.sub [0] rfl, by rw [ht]; exact hP.sub [0] rfl, va_K.moved hW.alike (hK.sub [] rfl), hD.sub [0] (by decide) rfl⟩, hS.F ht⟩) hS.2.2 dX13_chip_39
set_option maxHeartbeats 4000000 in
set_option maxRecDepth 100000 in
theorem ct_X13_gate (l : Launch) (dC : Nat → ClassId) (dI : Nat → Nat → Nat) (sz : Nat) (p0 : Int32) (p1 : Int32) (p2 : Int32) (m0 : Nat) (mg : List Value) (mcA : Nat) (mcC : ClassId) (hmg : fx mg 225 [(138, .ref mcA)]) : Met l yX13_gate (Cond.code yX13_gate cX13_gate 4 (some .int) :: BG) ({ frames := 2, cells := 0, slots := 0, locals := 33 }) (va_Pc [.ref m0, .int p0, .int p1, .int p2] (fun U => U.heap.size = sz ∧ va_P (dC, dI) CL [(m0, .inr (13, mg)), (mcA, .inl (mcC, (4, .inl (fun _ => 0))))] U.heap ∧ va_K (dC, dI) CL [(mcC, .boolean)] U ∧ va_D (fun _ => True) [(m0, .inr (13, mg)), (mcA, .inl (mcC, (4, .inl (fun _ => 0))))])) (va_Qi (fun (r : Int32) (_ : Unit) => r = 0) (fun _ t => ∃ mg1 : List Value, fx mg1 225 [(0, .int 1)] ∧ va_P (dC, dI) CL [(m0, .inr (13, mg1))] t.heap ∧ va_K (dC, dI) CL [] t ∧ va_D (va_A [(m0, .inr (13, mg)), (mcA, .inl (mcC, (4, .inl (fun _ => 0))))] sz) [(m0, .inr (13, mg1))]) (va_A [(m0, .inr (13, mg)), (mcA, .inl (mcC, (4, .inl (fun _ => 0))))] sz)) 0 0 (va_A [(m0, .inr (13, mg)), (mcA, .inl (mcC, (4, .inl (fun _ => 0))))] sz) := by
  refine Met.ofW (cc := cX13_gate) (maxL := 4) (ret := (some .int)) (by decide) rfl ?_
  intro p e s m args below meth c s₁ B hml hv
  obtain ⟨rfl, hsz, hP, hK, hD0⟩ := hv
  have hx := B.exec
  have hb := B.bytes
  have hr := B.returns
  have hts : ∀ w ∈ BG, w.before _ s = true := fun w h => atoms_spec (ws := Cond.code yX13_gate cX13_gate 4 (some .int) :: BG) B.pre w (List.mem_cons_of_mem _ h)
  have hown : s.vm.findClass RX13 = some m.cls := findClass_of_methodNamed B.named
  have hlocks := B.notSynchronized
  subst hsz
  have hD := hD0.self (sz := s.heap.size)
  generalize hAe : va_A [(m0, .inr (13, mg)), (mcA, .inl (mcC, (4, .inl (fun _ => 0))))] s.heap.size = A at hD ⊢
  have hA : ∀ q : Nat, s.heap.size ≤ q → A q := fun q h => by rw [← hAe]; exact Or.inr h
  have hS : va_S A s.heap s.heap [] := va_S.rf
  have hl := lv_entry ([.ref m0, .int p0, .int p1, .int p2]) (n := 4) (Nat.le_of_ble_eq_true rfl)
  rw [lg_entry_eq]
  generalize (lg_sl ([.ref m0, .int p0, .int p1, .int p2]) ++ List.replicate (4 - (lg_sl ([.ref m0, .int p0, .int p1, .int p2])).length) Slot.unset).toArray = ls at hl ⊢
  have hl : lv_has ls 4 [(0, .ref m0), (1, .int p0), (2, .int p1), (3, .int p2)] := hl
  refine lv_aload_n hx hb dX13_gate_0 rfl (lv_at hl 0 rfl) ?_
  refine lv_aload_n hx hb dX13_gate_1 rfl (lv_at hl 0 rfl) ?_
  refine lv_iload_n hx hb dX13_gate_2 rfl (lv_at hl 1 rfl) ?_
  have hPc := hP.sub (ws' := [(m0, .inr (13, mg)), (mcA, .inl (mcC, (4, .inl (fun _ => 0))))]) [0, 1] rfl
  have hDc := hD.sub (ws' := [(m0, .inr (13, mg)), (mcA, .inl (mcC, (4, .inl (fun _ => 0))))]) [0, 1] (by decide) rfl
  have hKc := hK.sub (tys' := [(mcC, .boolean)]) [0] rfl
  have hFc := va_free (wc := [(m0, .inr (13, mg)), (mcA, .inl (mcC, (4, .inl (fun _ => 0))))]) hD hS hA [0, 1] rfl
  refine va_calli (va_runV (As := [.int p0]) (rest := [.ref m0]) ⟨hx, hb, hml, hown, hts⟩ (ct_X13_isChip l dC dI _ p0 m0 mg mcA mcC (hmg.sub [0] rfl)) (cwV 1 hts (gi_V wd_4084 wd_4086 wd_217 wd_340 wd_4087) rfl rfl rfl (by decide +kernel) ⟨(Nat.le_of_ble_eq_true rfl), (Nat.le_of_ble_eq_true rfl)⟩) ⟨fun a U g mk q => by obtain ⟨q0, q1, qP, qK, qD⟩ := q; exact ⟨q0, q1, qP, va_K.moved (u := U) (U := U.calling g mk a) (Vm.Alike.refl U.vm) qK, qD⟩, va_recv hKc hPc (ci := 13) (q0 := 0) rfl rfl, fun U hU hW => ⟨rfl, by rw [hU], by rw [hU]; exact hPc, va_K.moved hW.alike hKc, hDc.weaken (fun _ _ _ _ => trivial)⟩⟩ rfl rfl hl.1 rfl (lv_room (Nat.le_of_ble_eq_true rfl)) dX13_gate_3 ⟨(Nat.le_of_ble_eq_true rfl), (Nat.le_of_ble_eq_true rfl)⟩) hS (fun q _ h => hFc q h) hFc (fun r u t H1 locs ht hvm hw hB hz1 hk1 hS => ?_)
  subst hw
  obtain ⟨hP1, hK1, hD1⟩ := hB
  rw [ht] at hP1
  obtain ⟨hP, hD⟩ := va_join (wr := []) (w1 := [(m0, .inr (13, mg)), (mcA, .inl (mcC, (4, .inl (fun _ => 0))))]) hP hD [0, 1] [] rfl rfl (by decide) (by decide) hk1 hFc hP1 hD1
  have hP := hP.sub (ws' := [(m0, .inr (13, mg)), (mcA, .inl (mcC, (4, .inl (fun _ => 0))))]) [0, 1] rfl
  have hD := hD.sub (ws' := [(m0, .inr (13, mg)), (mcA, .inl (mcC, (4, .inl (fun _ => 0))))]) [0, 1] (by decide) rfl
  generalize H1 = H at hP hS ⊢
  have hP : va_P (dC, dI) CL [(m0, .inr (13, mg)), (mcA, .inl (mcC, (4, .inl (fun _ => 0))))] H := hP
  have hD : va_D A [(m0, .inr (13, mg)), (mcA, .inl (mcC, (4, .inl (fun _ => 0))))] := hD
  refine lv_if_eq (tgt := 23) hx hb dX13_gate_6 (by decide) (fun c9 => ?_) (fun c9 => ?_)
  rotate_left
  · first | exact absurd c9 (by decide +kernel) | exact absurd (by decide +kernel) c9
  refine lv_iconst (v := 1) hx hb dX13_gate_23 (by decide +kernel) ?_
  refine lv_goto (tgt := 41) hx hb dX13_gate_24 (by decide) ?_
  refine va_put (D := (dC, dI)) (ci := 13) (v := .int 1) (ty := tyX13 0) (C := RX13) (T := TX13) (N := 225) hx hb hts inX13 tyX13 tyX13_ok nmX13 hown hK hP hD hS 0 rfl rfl 0 (by decide) (hts (.fieldLink RX13 1 "ChipFlowModel" "code" "I") wd_3032) (fun _ h9 => h9) rfl (by decide +kernel) rfl rfl (by rw [hmg.1]; decide) dX13_gate_41 (fun H locs hP hD hS => ?_)
  have hmg : fx (mg.set 0 (.int 1)) 225 [(0, .int 1), (138, .ref mcA)] := hmg.put (by decide) _ rfl
  obtain ⟨fs_1, e9⟩ : ∃ z, z = mg.set 0 (.int 1) := ⟨_, rfl⟩
  rw [← e9] at hmg
  have hP : va_P (dC, dI) CL [(m0, .inr (13, fs_1)), (mcA, .inl (mcC, (4, .inl (fun _ => 0))))] H := by rw [e9]; exact hP
  have hD : va_D A [(m0, .inr (13, fs_1)), (mcA, .inl (mcC, (4, .inl (fun _ => 0))))] := by rw [e9]; exact hD
  clear e9
  refine lv_aload_n hx hb dX13_gate_44 rfl (lv_at hl 0 rfl) ?_
  refine va_get (D := (dC, dI)) (ci := 13) (v := .int 1) (C := RX13) (T := TX13) (N := 225) hx hb hts inX13 hown hK hP 0 rfl rfl 0 (by decide) (hts (.fieldLink RX13 1 "ChipFlowModel" "code" "I") wd_3032) (fun _ h9 => h9) (hmg.get 0 rfl) dX13_gate_45 ?_
  refine lv_if_le (tgt := 53) hx hb dX13_gate_48 (by decide) (fun c9 => ?_) (fun c9 => ?_)
  · first | exact absurd c9 (by decide +kernel) | exact absurd (by decide +kernel) c9
  refine lv_iconst (v := 0) hx hb dX13_gate_51 (by decide +kernel) ?_
  exact W.iret (v := 0) hx hb hr (fun t ht hW => ⟨⟨0, (), rfl, rfl, fs_1, hmg.sub [0] rfl, by rw [ht]; exact hP.sub [0] rfl, va_K.moved hW.alike (hK.sub [] rfl), hD.sub [0] (by decide) rfl⟩, hS.F ht⟩) hS.2.2 dX13_gate_52
set_option maxHeartbeats 4000000 in
set_option maxRecDepth 100000 in
theorem ct_X13_netOf (l : Launch) (dC : Nat → ClassId) (dI : Nat → Nat → Nat) (sz : Nat) (p0 : Int32) (p1 : Int32) (p2 : Int32) (m0 : Nat) (mg : List Value) (mcA : Nat) (mcC : ClassId) (hmg : fx mg 225 [(138, .ref mcA)]) : Met l yX13_netOf (Cond.code yX13_netOf cX13_netOf 4 (some .int) :: BG) ({ frames := 2, cells := 0, slots := 0, locals := 33 }) (va_Pc [.ref m0, .int p0, .int p1, .int p2] (fun U => U.heap.size = sz ∧ va_P (dC, dI) CL [(m0, .inr (13, mg)), (mcA, .inl (mcC, (4, .inl (fun _ => 0))))] U.heap ∧ va_K (dC, dI) CL [(mcC, .boolean)] U ∧ va_D (fun _ => True) [(m0, .inr (13, mg)), (mcA, .inl (mcC, (4, .inl (fun _ => 0))))])) (va_Qi (fun (r : Int32) (_ : Unit) => r = 0) (fun _ t => ∃ mg1 : List Value, fx mg1 225 [(0, .int 1)] ∧ va_P (dC, dI) CL [(m0, .inr (13, mg1))] t.heap ∧ va_K (dC, dI) CL [] t ∧ va_D (va_A [(m0, .inr (13, mg)), (mcA, .inl (mcC, (4, .inl (fun _ => 0))))] sz) [(m0, .inr (13, mg1))]) (va_A [(m0, .inr (13, mg)), (mcA, .inl (mcC, (4, .inl (fun _ => 0))))] sz)) 0 0 (va_A [(m0, .inr (13, mg)), (mcA, .inl (mcC, (4, .inl (fun _ => 0))))] sz) := by
  refine Met.ofW (cc := cX13_netOf) (maxL := 4) (ret := (some .int)) (by decide) rfl ?_
  intro p e s m args below meth c s₁ B hml hv
  obtain ⟨rfl, hsz, hP, hK, hD0⟩ := hv
  have hx := B.exec
  have hb := B.bytes
  have hr := B.returns
  have hts : ∀ w ∈ BG, w.before _ s = true := fun w h => atoms_spec (ws := Cond.code yX13_netOf cX13_netOf 4 (some .int) :: BG) B.pre w (List.mem_cons_of_mem _ h)
  have hown : s.vm.findClass RX13 = some m.cls := findClass_of_methodNamed B.named
  have hlocks := B.notSynchronized
  subst hsz
  have hD := hD0.self (sz := s.heap.size)
  generalize hAe : va_A [(m0, .inr (13, mg)), (mcA, .inl (mcC, (4, .inl (fun _ => 0))))] s.heap.size = A at hD ⊢
  have hA : ∀ q : Nat, s.heap.size ≤ q → A q := fun q h => by rw [← hAe]; exact Or.inr h
  have hS : va_S A s.heap s.heap [] := va_S.rf
  have hl := lv_entry ([.ref m0, .int p0, .int p1, .int p2]) (n := 4) (Nat.le_of_ble_eq_true rfl)
  rw [lg_entry_eq]
  generalize (lg_sl ([.ref m0, .int p0, .int p1, .int p2]) ++ List.replicate (4 - (lg_sl ([.ref m0, .int p0, .int p1, .int p2])).length) Slot.unset).toArray = ls at hl ⊢
  have hl : lv_has ls 4 [(0, .ref m0), (1, .int p0), (2, .int p1), (3, .int p2)] := hl
  refine lv_aload_n hx hb dX13_netOf_0 rfl (lv_at hl 0 rfl) ?_
  refine lv_aload_n hx hb dX13_netOf_1 rfl (lv_at hl 0 rfl) ?_
  refine lv_iload_n hx hb dX13_netOf_2 rfl (lv_at hl 1 rfl) ?_
  have hPc := hP.sub (ws' := [(m0, .inr (13, mg)), (mcA, .inl (mcC, (4, .inl (fun _ => 0))))]) [0, 1] rfl
  have hDc := hD.sub (ws' := [(m0, .inr (13, mg)), (mcA, .inl (mcC, (4, .inl (fun _ => 0))))]) [0, 1] (by decide) rfl
  have hKc := hK.sub (tys' := [(mcC, .boolean)]) [0] rfl
  have hFc := va_free (wc := [(m0, .inr (13, mg)), (mcA, .inl (mcC, (4, .inl (fun _ => 0))))]) hD hS hA [0, 1] rfl
  refine va_calli (va_runV (As := [.int p0]) (rest := [.ref m0]) ⟨hx, hb, hml, hown, hts⟩ (ct_X13_isChip l dC dI _ p0 m0 mg mcA mcC (hmg.sub [0] rfl)) (cwV 1 hts (gi_V wd_4084 wd_4086 wd_217 wd_340 wd_4087) rfl rfl rfl (by decide +kernel) ⟨(Nat.le_of_ble_eq_true rfl), (Nat.le_of_ble_eq_true rfl)⟩) ⟨fun a U g mk q => by obtain ⟨q0, q1, qP, qK, qD⟩ := q; exact ⟨q0, q1, qP, va_K.moved (u := U) (U := U.calling g mk a) (Vm.Alike.refl U.vm) qK, qD⟩, va_recv hKc hPc (ci := 13) (q0 := 0) rfl rfl, fun U hU hW => ⟨rfl, by rw [hU], by rw [hU]; exact hPc, va_K.moved hW.alike hKc, hDc.weaken (fun _ _ _ _ => trivial)⟩⟩ rfl rfl hl.1 rfl (lv_room (Nat.le_of_ble_eq_true rfl)) dX13_netOf_3 ⟨(Nat.le_of_ble_eq_true rfl), (Nat.le_of_ble_eq_true rfl)⟩) hS (fun q _ h => hFc q h) hFc (fun r u t H1 locs ht hvm hw hB hz1 hk1 hS => ?_)
  subst hw
  obtain ⟨hP1, hK1, hD1⟩ := hB
  rw [ht] at hP1
  obtain ⟨hP, hD⟩ := va_join (wr := []) (w1 := [(m0, .inr (13, mg)), (mcA, .inl (mcC, (4, .inl (fun _ => 0))))]) hP hD [0, 1] [] rfl rfl (by decide) (by decide) hk1 hFc hP1 hD1
  have hP := hP.sub (ws' := [(m0, .inr (13, mg)), (mcA, .inl (mcC, (4, .inl (fun _ => 0))))]) [0, 1] rfl
  have hD := hD.sub (ws' := [(m0, .inr (13, mg)), (mcA, .inl (mcC, (4, .inl (fun _ => 0))))]) [0, 1] (by decide) rfl
  generalize H1 = H at hP hS ⊢
  have hP : va_P (dC, dI) CL [(m0, .inr (13, mg)), (mcA, .inl (mcC, (4, .inl (fun _ => 0))))] H := hP
  have hD : va_D A [(m0, .inr (13, mg)), (mcA, .inl (mcC, (4, .inl (fun _ => 0))))] := hD
  refine lv_if_eq (tgt := 36) hx hb dX13_netOf_6 (by decide) (fun c9 => ?_) (fun c9 => ?_)
  rotate_left
  · first | exact absurd c9 (by decide +kernel) | exact absurd (by decide +kernel) c9
  refine lv_iconst (v := 1) hx hb dX13_netOf_36 (by decide +kernel) ?_
  refine lv_goto (tgt := 41) hx hb dX13_netOf_37 (by decide) ?_
  refine va_put (D := (dC, dI)) (ci := 13) (v := .int 1) (ty := tyX13 0) (C := RX13) (T := TX13) (N := 225) hx hb hts inX13 tyX13 tyX13_ok nmX13 hown hK hP hD hS 0 rfl rfl 0 (by decide) (hts (.fieldLink RX13 1 "ChipFlowModel" "code" "I") wd_3032) (fun _ h9 => h9) rfl (by decide +kernel) rfl rfl (by rw [hmg.1]; decide) dX13_netOf_41 (fun H locs hP hD hS => ?_)
  have hmg : fx (mg.set 0 (.int 1)) 225 [(0, .int 1), (138, .ref mcA)] := hmg.put (by decide) _ rfl
  obtain ⟨fs_1, e9⟩ : ∃ z, z = mg.set 0 (.int 1) := ⟨_, rfl⟩
  rw [← e9] at hmg
  have hP : va_P (dC, dI) CL [(m0, .inr (13, fs_1)), (mcA, .inl (mcC, (4, .inl (fun _ => 0))))] H := by rw [e9]; exact hP
  have hD : va_D A [(m0, .inr (13, fs_1)), (mcA, .inl (mcC, (4, .inl (fun _ => 0))))] := by rw [e9]; exact hD
  clear e9
  refine lv_aload_n hx hb dX13_netOf_44 rfl (lv_at hl 0 rfl) ?_
  refine va_get (D := (dC, dI)) (ci := 13) (v := .int 1) (C := RX13) (T := TX13) (N := 225) hx hb hts inX13 hown hK hP 0 rfl rfl 0 (by decide) (hts (.fieldLink RX13 1 "ChipFlowModel" "code" "I") wd_3032) (fun _ h9 => h9) (hmg.get 0 rfl) dX13_netOf_45 ?_
  refine lv_if_le (tgt := 53) hx hb dX13_netOf_48 (by decide) (fun c9 => ?_) (fun c9 => ?_)
  · first | exact absurd c9 (by decide +kernel) | exact absurd (by decide +kernel) c9
  refine lv_iconst (v := 0) hx hb dX13_netOf_51 (by decide +kernel) ?_
  exact W.iret (v := 0) hx hb hr (fun t ht hW => ⟨⟨0, (), rfl, rfl, fs_1, hmg.sub [0] rfl, by rw [ht]; exact hP.sub [0] rfl, va_K.moved hW.alike (hK.sub [] rfl), hD.sub [0] (by decide) rfl⟩, hS.F ht⟩) hS.2.2 dX13_netOf_52
set_option maxHeartbeats 4000000 in
set_option maxRecDepth 100000 in
theorem ct_X13_alter (l : Launch) (dC : Nat → ClassId) (dI : Nat → Nat → Nat) (sz : Nat) (p0 : Int32) (p1 : Int32) (p2 : Int32) (m0 : Nat) (mg : List Value) (mcA : Nat) (mcC : ClassId) (hmg : fx mg 225 [(138, .ref mcA)]) : Met l yX13_alter (Cond.code yX13_alter cX13_alter 5 (some .int) :: BG) ({ frames := 2, cells := 0, slots := 0, locals := 33 }) (va_Pc [.ref m0, .int p0, .int p1, .int p2] (fun U => U.heap.size = sz ∧ va_P (dC, dI) CL [(m0, .inr (13, mg)), (mcA, .inl (mcC, (4, .inl (fun _ => 0))))] U.heap ∧ va_K (dC, dI) CL [(mcC, .boolean)] U ∧ va_D (fun _ => True) [(m0, .inr (13, mg)), (mcA, .inl (mcC, (4, .inl (fun _ => 0))))])) (va_Qi (fun (r : Int32) (_ : Unit) => r = 0) (fun _ t => ∃ mg1 : List Value, fx mg1 225 [(0, .int 1)] ∧ va_P (dC, dI) CL [(m0, .inr (13, mg1))] t.heap ∧ va_K (dC, dI) CL [] t ∧ va_D (va_A [(m0, .inr (13, mg)), (mcA, .inl (mcC, (4, .inl (fun _ => 0))))] sz) [(m0, .inr (13, mg1))]) (va_A [(m0, .inr (13, mg)), (mcA, .inl (mcC, (4, .inl (fun _ => 0))))] sz)) 0 0 (va_A [(m0, .inr (13, mg)), (mcA, .inl (mcC, (4, .inl (fun _ => 0))))] sz) := by
  refine Met.ofW (cc := cX13_alter) (maxL := 5) (ret := (some .int)) (by decide) rfl ?_
  intro p e s m args below meth c s₁ B hml hv
  obtain ⟨rfl, hsz, hP, hK, hD0⟩ := hv
  have hx := B.exec
  have hb := B.bytes
  have hr := B.returns
  have hts : ∀ w ∈ BG, w.before _ s = true := fun w h => atoms_spec (ws := Cond.code yX13_alter cX13_alter 5 (some .int) :: BG) B.pre w (List.mem_cons_of_mem _ h)
  have hown : s.vm.findClass RX13 = some m.cls := findClass_of_methodNamed B.named
  have hlocks := B.notSynchronized
  subst hsz
  have hD := hD0.self (sz := s.heap.size)
  generalize hAe : va_A [(m0, .inr (13, mg)), (mcA, .inl (mcC, (4, .inl (fun _ => 0))))] s.heap.size = A at hD ⊢
  have hA : ∀ q : Nat, s.heap.size ≤ q → A q := fun q h => by rw [← hAe]; exact Or.inr h
  have hS : va_S A s.heap s.heap [] := va_S.rf
  have hl := lv_entry ([.ref m0, .int p0, .int p1, .int p2]) (n := 5) (Nat.le_of_ble_eq_true rfl)
  rw [lg_entry_eq]
  generalize (lg_sl ([.ref m0, .int p0, .int p1, .int p2]) ++ List.replicate (5 - (lg_sl ([.ref m0, .int p0, .int p1, .int p2])).length) Slot.unset).toArray = ls at hl ⊢
  have hl : lv_has ls 5 [(0, .ref m0), (1, .int p0), (2, .int p1), (3, .int p2)] := hl
  refine lv_aload_n hx hb dX13_alter_0 rfl (lv_at hl 0 rfl) ?_
  refine lv_aload_n hx hb dX13_alter_1 rfl (lv_at hl 0 rfl) ?_
  refine lv_iload_n hx hb dX13_alter_2 rfl (lv_at hl 1 rfl) ?_
  have hPc := hP.sub (ws' := [(m0, .inr (13, mg)), (mcA, .inl (mcC, (4, .inl (fun _ => 0))))]) [0, 1] rfl
  have hDc := hD.sub (ws' := [(m0, .inr (13, mg)), (mcA, .inl (mcC, (4, .inl (fun _ => 0))))]) [0, 1] (by decide) rfl
  have hKc := hK.sub (tys' := [(mcC, .boolean)]) [0] rfl
  have hFc := va_free (wc := [(m0, .inr (13, mg)), (mcA, .inl (mcC, (4, .inl (fun _ => 0))))]) hD hS hA [0, 1] rfl
  refine va_calli (va_runV (As := [.int p0]) (rest := [.ref m0]) ⟨hx, hb, hml, hown, hts⟩ (ct_X13_isChip l dC dI _ p0 m0 mg mcA mcC (hmg.sub [0] rfl)) (cwV 1 hts (gi_V wd_4084 wd_4086 wd_217 wd_340 wd_4087) rfl rfl rfl (by decide +kernel) ⟨(Nat.le_of_ble_eq_true rfl), (Nat.le_of_ble_eq_true rfl)⟩) ⟨fun a U g mk q => by obtain ⟨q0, q1, qP, qK, qD⟩ := q; exact ⟨q0, q1, qP, va_K.moved (u := U) (U := U.calling g mk a) (Vm.Alike.refl U.vm) qK, qD⟩, va_recv hKc hPc (ci := 13) (q0 := 0) rfl rfl, fun U hU hW => ⟨rfl, by rw [hU], by rw [hU]; exact hPc, va_K.moved hW.alike hKc, hDc.weaken (fun _ _ _ _ => trivial)⟩⟩ rfl rfl hl.1 rfl (lv_room (Nat.le_of_ble_eq_true rfl)) dX13_alter_3 ⟨(Nat.le_of_ble_eq_true rfl), (Nat.le_of_ble_eq_true rfl)⟩) hS (fun q _ h => hFc q h) hFc (fun r u t H1 locs ht hvm hw hB hz1 hk1 hS => ?_)
  subst hw
  obtain ⟨hP1, hK1, hD1⟩ := hB
  rw [ht] at hP1
  obtain ⟨hP, hD⟩ := va_join (wr := []) (w1 := [(m0, .inr (13, mg)), (mcA, .inl (mcC, (4, .inl (fun _ => 0))))]) hP hD [0, 1] [] rfl rfl (by decide) (by decide) hk1 hFc hP1 hD1
  have hP := hP.sub (ws' := [(m0, .inr (13, mg)), (mcA, .inl (mcC, (4, .inl (fun _ => 0))))]) [0, 1] rfl
  have hD := hD.sub (ws' := [(m0, .inr (13, mg)), (mcA, .inl (mcC, (4, .inl (fun _ => 0))))]) [0, 1] (by decide) rfl
  generalize H1 = H at hP hS ⊢
  have hP : va_P (dC, dI) CL [(m0, .inr (13, mg)), (mcA, .inl (mcC, (4, .inl (fun _ => 0))))] H := hP
  have hD : va_D A [(m0, .inr (13, mg)), (mcA, .inl (mcC, (4, .inl (fun _ => 0))))] := hD
  refine lv_if_eq (tgt := 37) hx hb dX13_alter_6 (by decide) (fun c9 => ?_) (fun c9 => ?_)
  rotate_left
  · first | exact absurd c9 (by decide +kernel) | exact absurd (by decide +kernel) c9
  refine lv_iconst (v := 1) hx hb dX13_alter_37 (by decide +kernel) ?_
  refine lv_goto (tgt := 71) hx hb dX13_alter_38 (by decide) ?_
  refine va_put (D := (dC, dI)) (ci := 13) (v := .int 1) (ty := tyX13 0) (C := RX13) (T := TX13) (N := 225) hx hb hts inX13 tyX13 tyX13_ok nmX13 hown hK hP hD hS 0 rfl rfl 0 (by decide) (hts (.fieldLink RX13 1 "ChipFlowModel" "code" "I") wd_3032) (fun _ h9 => h9) rfl (by decide +kernel) rfl rfl (by rw [hmg.1]; decide) dX13_alter_71 (fun H locs hP hD hS => ?_)
  have hmg : fx (mg.set 0 (.int 1)) 225 [(0, .int 1), (138, .ref mcA)] := hmg.put (by decide) _ rfl
  obtain ⟨fs_1, e9⟩ : ∃ z, z = mg.set 0 (.int 1) := ⟨_, rfl⟩
  rw [← e9] at hmg
  have hP : va_P (dC, dI) CL [(m0, .inr (13, fs_1)), (mcA, .inl (mcC, (4, .inl (fun _ => 0))))] H := by rw [e9]; exact hP
  have hD : va_D A [(m0, .inr (13, fs_1)), (mcA, .inl (mcC, (4, .inl (fun _ => 0))))] := by rw [e9]; exact hD
  clear e9
  refine lv_aload_n hx hb dX13_alter_74 rfl (lv_at hl 0 rfl) ?_
  refine va_get (D := (dC, dI)) (ci := 13) (v := .int 1) (C := RX13) (T := TX13) (N := 225) hx hb hts inX13 hown hK hP 0 rfl rfl 0 (by decide) (hts (.fieldLink RX13 1 "ChipFlowModel" "code" "I") wd_3032) (fun _ h9 => h9) (hmg.get 0 rfl) dX13_alter_75 ?_
  refine lv_if_le (tgt := 83) hx hb dX13_alter_78 (by decide) (fun c9 => ?_) (fun c9 => ?_)
  · first | exact absurd c9 (by decide +kernel) | exact absurd (by decide +kernel) c9
  refine lv_iconst (v := 0) hx hb dX13_alter_81 (by decide +kernel) ?_
  exact W.iret (v := 0) hx hb hr (fun t ht hW => ⟨⟨0, (), rfl, rfl, fs_1, hmg.sub [0] rfl, by rw [ht]; exact hP.sub [0] rfl, va_K.moved hW.alike (hK.sub [] rfl), hD.sub [0] (by decide) rfl⟩, hS.F ht⟩) hS.2.2 dX13_alter_82
set_option maxHeartbeats 4000000 in
set_option maxRecDepth 100000 in
theorem ct_X13_run (l : Launch) (dC : Nat → ClassId) (dI : Nat → Nat → Nat) (sz : Nat) (p0 : Int32) (p1 : Int32) (m0 : Nat) (mg : List Value) (mcA : Nat) (mcC : ClassId) (hmg : fx mg 225 [(138, .ref mcA)]) : Met l yX13_run (Cond.code yX13_run cX13_run 7 (some .int) :: BG) ({ frames := 2, cells := 0, slots := 0, locals := 33 }) (va_Pc [.ref m0, .int p0, .int p1] (fun U => U.heap.size = sz ∧ va_P (dC, dI) CL [(m0, .inr (13, mg)), (mcA, .inl (mcC, (4, .inl (fun _ => 0))))] U.heap ∧ va_K (dC, dI) CL [(mcC, .boolean)] U ∧ va_D (fun _ => True) [(m0, .inr (13, mg)), (mcA, .inl (mcC, (4, .inl (fun _ => 0))))])) (va_Qi (fun (r : Int32) (_ : Unit) => r = 0) (fun _ t => ∃ mg1 : List Value, fx mg1 225 [(0, .int 1)] ∧ va_P (dC, dI) CL [(m0, .inr (13, mg1))] t.heap ∧ va_K (dC, dI) CL [] t ∧ va_D (va_A [(m0, .inr (13, mg)), (mcA, .inl (mcC, (4, .inl (fun _ => 0))))] sz) [(m0, .inr (13, mg1))]) (va_A [(m0, .inr (13, mg)), (mcA, .inl (mcC, (4, .inl (fun _ => 0))))] sz)) 0 0 (va_A [(m0, .inr (13, mg)), (mcA, .inl (mcC, (4, .inl (fun _ => 0))))] sz) := by
  refine Met.ofW (cc := cX13_run) (maxL := 7) (ret := (some .int)) (by decide) rfl ?_
  intro p e s m args below meth c s₁ B hml hv
  obtain ⟨rfl, hsz, hP, hK, hD0⟩ := hv
  have hx := B.exec
  have hb := B.bytes
  have hr := B.returns
  have hts : ∀ w ∈ BG, w.before _ s = true := fun w h => atoms_spec (ws := Cond.code yX13_run cX13_run 7 (some .int) :: BG) B.pre w (List.mem_cons_of_mem _ h)
  have hown : s.vm.findClass RX13 = some m.cls := findClass_of_methodNamed B.named
  have hlocks := B.notSynchronized
  subst hsz
  have hD := hD0.self (sz := s.heap.size)
  generalize hAe : va_A [(m0, .inr (13, mg)), (mcA, .inl (mcC, (4, .inl (fun _ => 0))))] s.heap.size = A at hD ⊢
  have hA : ∀ q : Nat, s.heap.size ≤ q → A q := fun q h => by rw [← hAe]; exact Or.inr h
  have hS : va_S A s.heap s.heap [] := va_S.rf
  have hl := lv_entry ([.ref m0, .int p0, .int p1]) (n := 7) (Nat.le_of_ble_eq_true rfl)
  rw [lg_entry_eq]
  generalize (lg_sl ([.ref m0, .int p0, .int p1]) ++ List.replicate (7 - (lg_sl ([.ref m0, .int p0, .int p1])).length) Slot.unset).toArray = ls at hl ⊢
  have hl : lv_has ls 7 [(0, .ref m0), (1, .int p0), (2, .int p1)] := hl
  refine lv_aload_n hx hb dX13_run_0 rfl (lv_at hl 0 rfl) ?_
  refine lv_aload_n hx hb dX13_run_1 rfl (lv_at hl 0 rfl) ?_
  refine lv_iload_n hx hb dX13_run_2 rfl (lv_at hl 1 rfl) ?_
  have hPc := hP.sub (ws' := [(m0, .inr (13, mg)), (mcA, .inl (mcC, (4, .inl (fun _ => 0))))]) [0, 1] rfl
  have hDc := hD.sub (ws' := [(m0, .inr (13, mg)), (mcA, .inl (mcC, (4, .inl (fun _ => 0))))]) [0, 1] (by decide) rfl
  have hKc := hK.sub (tys' := [(mcC, .boolean)]) [0] rfl
  have hFc := va_free (wc := [(m0, .inr (13, mg)), (mcA, .inl (mcC, (4, .inl (fun _ => 0))))]) hD hS hA [0, 1] rfl
  refine va_calli (va_runV (As := [.int p0]) (rest := [.ref m0]) ⟨hx, hb, hml, hown, hts⟩ (ct_X13_isChip l dC dI _ p0 m0 mg mcA mcC (hmg.sub [0] rfl)) (cwV 1 hts (gi_V wd_4084 wd_4086 wd_217 wd_340 wd_4087) rfl rfl rfl (by decide +kernel) ⟨(Nat.le_of_ble_eq_true rfl), (Nat.le_of_ble_eq_true rfl)⟩) ⟨fun a U g mk q => by obtain ⟨q0, q1, qP, qK, qD⟩ := q; exact ⟨q0, q1, qP, va_K.moved (u := U) (U := U.calling g mk a) (Vm.Alike.refl U.vm) qK, qD⟩, va_recv hKc hPc (ci := 13) (q0 := 0) rfl rfl, fun U hU hW => ⟨rfl, by rw [hU], by rw [hU]; exact hPc, va_K.moved hW.alike hKc, hDc.weaken (fun _ _ _ _ => trivial)⟩⟩ rfl rfl hl.1 rfl (lv_room (Nat.le_of_ble_eq_true rfl)) dX13_run_3 ⟨(Nat.le_of_ble_eq_true rfl), (Nat.le_of_ble_eq_true rfl)⟩) hS (fun q _ h => hFc q h) hFc (fun r u t H1 locs ht hvm hw hB hz1 hk1 hS => ?_)
  subst hw
  obtain ⟨hP1, hK1, hD1⟩ := hB
  rw [ht] at hP1
  obtain ⟨hP, hD⟩ := va_join (wr := []) (w1 := [(m0, .inr (13, mg)), (mcA, .inl (mcC, (4, .inl (fun _ => 0))))]) hP hD [0, 1] [] rfl rfl (by decide) (by decide) hk1 hFc hP1 hD1
  have hP := hP.sub (ws' := [(m0, .inr (13, mg)), (mcA, .inl (mcC, (4, .inl (fun _ => 0))))]) [0, 1] rfl
  have hD := hD.sub (ws' := [(m0, .inr (13, mg)), (mcA, .inl (mcC, (4, .inl (fun _ => 0))))]) [0, 1] (by decide) rfl
  generalize H1 = H at hP hS ⊢
  have hP : va_P (dC, dI) CL [(m0, .inr (13, mg)), (mcA, .inl (mcC, (4, .inl (fun _ => 0))))] H := hP
  have hD : va_D A [(m0, .inr (13, mg)), (mcA, .inl (mcC, (4, .inl (fun _ => 0))))] := hD
  refine lv_if_ne (tgt := 13) hx hb dX13_run_6 (by decide) (fun c9 => ?_) (fun c9 => ?_)
  · first | exact absurd c9 (by decide +kernel) | exact absurd (by decide +kernel) c9
  refine lv_iconst (v := 1) hx hb dX13_run_9 (by decide +kernel) ?_
  refine lv_goto (tgt := 31) hx hb dX13_run_10 (by decide) ?_
  refine va_put (D := (dC, dI)) (ci := 13) (v := .int 1) (ty := tyX13 0) (C := RX13) (T := TX13) (N := 225) hx hb hts inX13 tyX13 tyX13_ok nmX13 hown hK hP hD hS 0 rfl rfl 0 (by decide) (hts (.fieldLink RX13 1 "ChipFlowModel" "code" "I") wd_3032) (fun _ h9 => h9) rfl (by decide +kernel) rfl rfl (by rw [hmg.1]; decide) dX13_run_31 (fun H locs hP hD hS => ?_)
  have hmg : fx (mg.set 0 (.int 1)) 225 [(0, .int 1), (138, .ref mcA)] := hmg.put (by decide) _ rfl
  obtain ⟨fs_1, e9⟩ : ∃ z, z = mg.set 0 (.int 1) := ⟨_, rfl⟩
  rw [← e9] at hmg
  have hP : va_P (dC, dI) CL [(m0, .inr (13, fs_1)), (mcA, .inl (mcC, (4, .inl (fun _ => 0))))] H := by rw [e9]; exact hP
  have hD : va_D A [(m0, .inr (13, fs_1)), (mcA, .inl (mcC, (4, .inl (fun _ => 0))))] := by rw [e9]; exact hD
  clear e9
  refine lv_aload_n hx hb dX13_run_34 rfl (lv_at hl 0 rfl) ?_
  refine va_get (D := (dC, dI)) (ci := 13) (v := .int 1) (C := RX13) (T := TX13) (N := 225) hx hb hts inX13 hown hK hP 0 rfl rfl 0 (by decide) (hts (.fieldLink RX13 1 "ChipFlowModel" "code" "I") wd_3032) (fun _ h9 => h9) (hmg.get 0 rfl) dX13_run_35 ?_
  refine lv_if_le (tgt := 43) hx hb dX13_run_38 (by decide) (fun c9 => ?_) (fun c9 => ?_)
  · first | exact absurd c9 (by decide +kernel) | exact absurd (by decide +kernel) c9
  refine lv_iconst (v := 0) hx hb dX13_run_41 (by decide +kernel) ?_
  exact W.iret (v := 0) hx hb hr (fun t ht hW => ⟨⟨0, (), rfl, rfl, fs_1, hmg.sub [0] rfl, by rw [ht]; exact hP.sub [0] rfl, va_K.moved hW.alike (hK.sub [] rfl), hD.sub [0] (by decide) rfl⟩, hS.F ht⟩) hS.2.2 dX13_run_42
set_option maxHeartbeats 4000000 in
set_option maxRecDepth 100000 in
theorem ct_X13_reset (l : Launch) (dC : Nat → ClassId) (dI : Nat → Nat → Nat) (sz : Nat) (p0 : Int32) (m0 : Nat) (mg : List Value) (mcA : Nat) (mcC : ClassId) (hmg : fx mg 225 [(138, .ref mcA)]) : Met l yX13_reset (Cond.code yX13_reset cX13_reset 3 (some .int) :: BG) ({ frames := 2, cells := 0, slots := 0, locals := 33 }) (va_Pc [.ref m0, .int p0] (fun U => U.heap.size = sz ∧ va_P (dC, dI) CL [(m0, .inr (13, mg)), (mcA, .inl (mcC, (4, .inl (fun _ => 0))))] U.heap ∧ va_K (dC, dI) CL [(mcC, .boolean)] U ∧ va_D (fun _ => True) [(m0, .inr (13, mg)), (mcA, .inl (mcC, (4, .inl (fun _ => 0))))])) (va_Qi (fun (r : Int32) (_ : Unit) => r = 0) (fun _ t => ∃ mg1 : List Value, fx mg1 225 [(0, .int 1)] ∧ va_P (dC, dI) CL [(m0, .inr (13, mg1))] t.heap ∧ va_K (dC, dI) CL [] t ∧ va_D (va_A [(m0, .inr (13, mg)), (mcA, .inl (mcC, (4, .inl (fun _ => 0))))] sz) [(m0, .inr (13, mg1))]) (va_A [(m0, .inr (13, mg)), (mcA, .inl (mcC, (4, .inl (fun _ => 0))))] sz)) 0 0 (va_A [(m0, .inr (13, mg)), (mcA, .inl (mcC, (4, .inl (fun _ => 0))))] sz) := by
  refine Met.ofW (cc := cX13_reset) (maxL := 3) (ret := (some .int)) (by decide) rfl ?_
  intro p e s m args below meth c s₁ B hml hv
  obtain ⟨rfl, hsz, hP, hK, hD0⟩ := hv
  have hx := B.exec
  have hb := B.bytes
  have hr := B.returns
  have hts : ∀ w ∈ BG, w.before _ s = true := fun w h => atoms_spec (ws := Cond.code yX13_reset cX13_reset 3 (some .int) :: BG) B.pre w (List.mem_cons_of_mem _ h)
  have hown : s.vm.findClass RX13 = some m.cls := findClass_of_methodNamed B.named
  have hlocks := B.notSynchronized
  subst hsz
  have hD := hD0.self (sz := s.heap.size)
  generalize hAe : va_A [(m0, .inr (13, mg)), (mcA, .inl (mcC, (4, .inl (fun _ => 0))))] s.heap.size = A at hD ⊢
  have hA : ∀ q : Nat, s.heap.size ≤ q → A q := fun q h => by rw [← hAe]; exact Or.inr h
  have hS : va_S A s.heap s.heap [] := va_S.rf
  have hl := lv_entry ([.ref m0, .int p0]) (n := 3) (Nat.le_of_ble_eq_true rfl)
  rw [lg_entry_eq]
  generalize (lg_sl ([.ref m0, .int p0]) ++ List.replicate (3 - (lg_sl ([.ref m0, .int p0])).length) Slot.unset).toArray = ls at hl ⊢
  have hl : lv_has ls 3 [(0, .ref m0), (1, .int p0)] := hl
  refine lv_aload_n hx hb dX13_reset_0 rfl (lv_at hl 0 rfl) ?_
  refine lv_aload_n hx hb dX13_reset_1 rfl (lv_at hl 0 rfl) ?_
  refine lv_iload_n hx hb dX13_reset_2 rfl (lv_at hl 1 rfl) ?_
  have hPc := hP.sub (ws' := [(m0, .inr (13, mg)), (mcA, .inl (mcC, (4, .inl (fun _ => 0))))]) [0, 1] rfl
  have hDc := hD.sub (ws' := [(m0, .inr (13, mg)), (mcA, .inl (mcC, (4, .inl (fun _ => 0))))]) [0, 1] (by decide) rfl
  have hKc := hK.sub (tys' := [(mcC, .boolean)]) [0] rfl
  have hFc := va_free (wc := [(m0, .inr (13, mg)), (mcA, .inl (mcC, (4, .inl (fun _ => 0))))]) hD hS hA [0, 1] rfl
  refine va_calli (va_runV (As := [.int p0]) (rest := [.ref m0]) ⟨hx, hb, hml, hown, hts⟩ (ct_X13_isChip l dC dI _ p0 m0 mg mcA mcC (hmg.sub [0] rfl)) (cwV 1 hts (gi_V wd_4084 wd_4086 wd_217 wd_340 wd_4087) rfl rfl rfl (by decide +kernel) ⟨(Nat.le_of_ble_eq_true rfl), (Nat.le_of_ble_eq_true rfl)⟩) ⟨fun a U g mk q => by obtain ⟨q0, q1, qP, qK, qD⟩ := q; exact ⟨q0, q1, qP, va_K.moved (u := U) (U := U.calling g mk a) (Vm.Alike.refl U.vm) qK, qD⟩, va_recv hKc hPc (ci := 13) (q0 := 0) rfl rfl, fun U hU hW => ⟨rfl, by rw [hU], by rw [hU]; exact hPc, va_K.moved hW.alike hKc, hDc.weaken (fun _ _ _ _ => trivial)⟩⟩ rfl rfl hl.1 rfl (lv_room (Nat.le_of_ble_eq_true rfl)) dX13_reset_3 ⟨(Nat.le_of_ble_eq_true rfl), (Nat.le_of_ble_eq_true rfl)⟩) hS (fun q _ h => hFc q h) hFc (fun r u t H1 locs ht hvm hw hB hz1 hk1 hS => ?_)
  subst hw
  obtain ⟨hP1, hK1, hD1⟩ := hB
  rw [ht] at hP1
  obtain ⟨hP, hD⟩ := va_join (wr := []) (w1 := [(m0, .inr (13, mg)), (mcA, .inl (mcC, (4, .inl (fun _ => 0))))]) hP hD [0, 1] [] rfl rfl (by decide) (by decide) hk1 hFc hP1 hD1
  have hP := hP.sub (ws' := [(m0, .inr (13, mg)), (mcA, .inl (mcC, (4, .inl (fun _ => 0))))]) [0, 1] rfl
  have hD := hD.sub (ws' := [(m0, .inr (13, mg)), (mcA, .inl (mcC, (4, .inl (fun _ => 0))))]) [0, 1] (by decide) rfl
  generalize H1 = H at hP hS ⊢
  have hP : va_P (dC, dI) CL [(m0, .inr (13, mg)), (mcA, .inl (mcC, (4, .inl (fun _ => 0))))] H := hP
  have hD : va_D A [(m0, .inr (13, mg)), (mcA, .inl (mcC, (4, .inl (fun _ => 0))))] := hD
  refine lv_if_eq (tgt := 13) hx hb dX13_reset_6 (by decide) (fun c9 => ?_) (fun c9 => ?_)
  rotate_left
  · first | exact absurd c9 (by decide +kernel) | exact absurd (by decide +kernel) c9
  refine lv_iconst (v := 1) hx hb dX13_reset_13 (by decide +kernel) ?_
  refine va_put (D := (dC, dI)) (ci := 13) (v := .int 1) (ty := tyX13 0) (C := RX13) (T := TX13) (N := 225) hx hb hts inX13 tyX13 tyX13_ok nmX13 hown hK hP hD hS 0 rfl rfl 0 (by decide) (hts (.fieldLink RX13 1 "ChipFlowModel" "code" "I") wd_3032) (fun _ h9 => h9) rfl (by decide +kernel) rfl rfl (by rw [hmg.1]; decide) dX13_reset_14 (fun H locs hP hD hS => ?_)
  have hmg : fx (mg.set 0 (.int 1)) 225 [(0, .int 1), (138, .ref mcA)] := hmg.put (by decide) _ rfl
  obtain ⟨fs_1, e9⟩ : ∃ z, z = mg.set 0 (.int 1) := ⟨_, rfl⟩
  rw [← e9] at hmg
  have hP : va_P (dC, dI) CL [(m0, .inr (13, fs_1)), (mcA, .inl (mcC, (4, .inl (fun _ => 0))))] H := by rw [e9]; exact hP
  have hD : va_D A [(m0, .inr (13, fs_1)), (mcA, .inl (mcC, (4, .inl (fun _ => 0))))] := by rw [e9]; exact hD
  clear e9
  refine lv_aload_n hx hb dX13_reset_17 rfl (lv_at hl 0 rfl) ?_
  refine va_get (D := (dC, dI)) (ci := 13) (v := .int 1) (C := RX13) (T := TX13) (N := 225) hx hb hts inX13 hown hK hP 0 rfl rfl 0 (by decide) (hts (.fieldLink RX13 1 "ChipFlowModel" "code" "I") wd_3032) (fun _ h9 => h9) (hmg.get 0 rfl) dX13_reset_18 ?_
  refine lv_if_le (tgt := 26) hx hb dX13_reset_21 (by decide) (fun c9 => ?_) (fun c9 => ?_)
  · first | exact absurd c9 (by decide +kernel) | exact absurd (by decide +kernel) c9
  refine lv_iconst (v := 0) hx hb dX13_reset_24 (by decide +kernel) ?_
  exact W.iret (v := 0) hx hb hr (fun t ht hW => ⟨⟨0, (), rfl, rfl, fs_1, hmg.sub [0] rfl, by rw [ht]; exact hP.sub [0] rfl, va_K.moved hW.alike (hK.sub [] rfl), hD.sub [0] (by decide) rfl⟩, hS.F ht⟩) hS.2.2 dX13_reset_25
set_option maxHeartbeats 4000000 in
set_option maxRecDepth 100000 in
theorem ct_X13_proves (l : Launch) (dC : Nat → ClassId) (dI : Nat → Nat → Nat) (sz : Nat) (p0 : Int32) (p1 : Int32) (m0 : Nat) (mg : List Value) (mcA : Nat) (mcC : ClassId) (hmg : fx mg 225 [(138, .ref mcA)]) : Met l yX13_proves (Cond.code yX13_proves cX13_proves 3 (some .int) :: BG) ({ frames := 2, cells := 0, slots := 0, locals := 33 }) (va_Pc [.ref m0, .int p0, .int p1] (fun U => U.heap.size = sz ∧ va_P (dC, dI) CL [(m0, .inr (13, mg)), (mcA, .inl (mcC, (4, .inl (fun _ => 0))))] U.heap ∧ va_K (dC, dI) CL [(mcC, .boolean)] U ∧ va_D (fun _ => True) [(m0, .inr (13, mg)), (mcA, .inl (mcC, (4, .inl (fun _ => 0))))])) (va_Qi (fun (r : Int32) (_ : Unit) => r = 0) (fun _ t => ∃ mg1 : List Value, fx mg1 225 [(0, .int 1)] ∧ va_P (dC, dI) CL [(m0, .inr (13, mg1))] t.heap ∧ va_K (dC, dI) CL [] t ∧ va_D (va_A [(m0, .inr (13, mg)), (mcA, .inl (mcC, (4, .inl (fun _ => 0))))] sz) [(m0, .inr (13, mg1))]) (va_A [(m0, .inr (13, mg)), (mcA, .inl (mcC, (4, .inl (fun _ => 0))))] sz)) 0 0 (va_A [(m0, .inr (13, mg)), (mcA, .inl (mcC, (4, .inl (fun _ => 0))))] sz) := by
  refine Met.ofW (cc := cX13_proves) (maxL := 3) (ret := (some .int)) (by decide) rfl ?_
  intro p e s m args below meth c s₁ B hml hv
  obtain ⟨rfl, hsz, hP, hK, hD0⟩ := hv
  have hx := B.exec
  have hb := B.bytes
  have hr := B.returns
  have hts : ∀ w ∈ BG, w.before _ s = true := fun w h => atoms_spec (ws := Cond.code yX13_proves cX13_proves 3 (some .int) :: BG) B.pre w (List.mem_cons_of_mem _ h)
  have hown : s.vm.findClass RX13 = some m.cls := findClass_of_methodNamed B.named
  have hlocks := B.notSynchronized
  subst hsz
  have hD := hD0.self (sz := s.heap.size)
  generalize hAe : va_A [(m0, .inr (13, mg)), (mcA, .inl (mcC, (4, .inl (fun _ => 0))))] s.heap.size = A at hD ⊢
  have hA : ∀ q : Nat, s.heap.size ≤ q → A q := fun q h => by rw [← hAe]; exact Or.inr h
  have hS : va_S A s.heap s.heap [] := va_S.rf
  have hl := lv_entry ([.ref m0, .int p0, .int p1]) (n := 3) (Nat.le_of_ble_eq_true rfl)
  rw [lg_entry_eq]
  generalize (lg_sl ([.ref m0, .int p0, .int p1]) ++ List.replicate (3 - (lg_sl ([.ref m0, .int p0, .int p1])).length) Slot.unset).toArray = ls at hl ⊢
  have hl : lv_has ls 3 [(0, .ref m0), (1, .int p0), (2, .int p1)] := hl
  refine lv_aload_n hx hb dX13_proves_0 rfl (lv_at hl 0 rfl) ?_
  refine lv_aload_n hx hb dX13_proves_1 rfl (lv_at hl 0 rfl) ?_
  refine lv_iload_n hx hb dX13_proves_2 rfl (lv_at hl 1 rfl) ?_
  have hPc := hP.sub (ws' := [(m0, .inr (13, mg)), (mcA, .inl (mcC, (4, .inl (fun _ => 0))))]) [0, 1] rfl
  have hDc := hD.sub (ws' := [(m0, .inr (13, mg)), (mcA, .inl (mcC, (4, .inl (fun _ => 0))))]) [0, 1] (by decide) rfl
  have hKc := hK.sub (tys' := [(mcC, .boolean)]) [0] rfl
  have hFc := va_free (wc := [(m0, .inr (13, mg)), (mcA, .inl (mcC, (4, .inl (fun _ => 0))))]) hD hS hA [0, 1] rfl
  refine va_calli (va_runV (As := [.int p0]) (rest := [.ref m0]) ⟨hx, hb, hml, hown, hts⟩ (ct_X13_isChip l dC dI _ p0 m0 mg mcA mcC (hmg.sub [0] rfl)) (cwV 1 hts (gi_V wd_4084 wd_4086 wd_217 wd_340 wd_4087) rfl rfl rfl (by decide +kernel) ⟨(Nat.le_of_ble_eq_true rfl), (Nat.le_of_ble_eq_true rfl)⟩) ⟨fun a U g mk q => by obtain ⟨q0, q1, qP, qK, qD⟩ := q; exact ⟨q0, q1, qP, va_K.moved (u := U) (U := U.calling g mk a) (Vm.Alike.refl U.vm) qK, qD⟩, va_recv hKc hPc (ci := 13) (q0 := 0) rfl rfl, fun U hU hW => ⟨rfl, by rw [hU], by rw [hU]; exact hPc, va_K.moved hW.alike hKc, hDc.weaken (fun _ _ _ _ => trivial)⟩⟩ rfl rfl hl.1 rfl (lv_room (Nat.le_of_ble_eq_true rfl)) dX13_proves_3 ⟨(Nat.le_of_ble_eq_true rfl), (Nat.le_of_ble_eq_true rfl)⟩) hS (fun q _ h => hFc q h) hFc (fun r u t H1 locs ht hvm hw hB hz1 hk1 hS => ?_)
  subst hw
  obtain ⟨hP1, hK1, hD1⟩ := hB
  rw [ht] at hP1
  obtain ⟨hP, hD⟩ := va_join (wr := []) (w1 := [(m0, .inr (13, mg)), (mcA, .inl (mcC, (4, .inl (fun _ => 0))))]) hP hD [0, 1] [] rfl rfl (by decide) (by decide) hk1 hFc hP1 hD1
  have hP := hP.sub (ws' := [(m0, .inr (13, mg)), (mcA, .inl (mcC, (4, .inl (fun _ => 0))))]) [0, 1] rfl
  have hD := hD.sub (ws' := [(m0, .inr (13, mg)), (mcA, .inl (mcC, (4, .inl (fun _ => 0))))]) [0, 1] (by decide) rfl
  generalize H1 = H at hP hS ⊢
  have hP : va_P (dC, dI) CL [(m0, .inr (13, mg)), (mcA, .inl (mcC, (4, .inl (fun _ => 0))))] H := hP
  have hD : va_D A [(m0, .inr (13, mg)), (mcA, .inl (mcC, (4, .inl (fun _ => 0))))] := hD
  refine lv_if_eq (tgt := 17) hx hb dX13_proves_6 (by decide) (fun c9 => ?_) (fun c9 => ?_)
  rotate_left
  · first | exact absurd c9 (by decide +kernel) | exact absurd (by decide +kernel) c9
  refine lv_iconst (v := 1) hx hb dX13_proves_17 (by decide +kernel) ?_
  refine lv_goto (tgt := 56) hx hb dX13_proves_18 (by decide) ?_
  refine va_put (D := (dC, dI)) (ci := 13) (v := .int 1) (ty := tyX13 0) (C := RX13) (T := TX13) (N := 225) hx hb hts inX13 tyX13 tyX13_ok nmX13 hown hK hP hD hS 0 rfl rfl 0 (by decide) (hts (.fieldLink RX13 1 "ChipFlowModel" "code" "I") wd_3032) (fun _ h9 => h9) rfl (by decide +kernel) rfl rfl (by rw [hmg.1]; decide) dX13_proves_56 (fun H locs hP hD hS => ?_)
  have hmg : fx (mg.set 0 (.int 1)) 225 [(0, .int 1), (138, .ref mcA)] := hmg.put (by decide) _ rfl
  obtain ⟨fs_1, e9⟩ : ∃ z, z = mg.set 0 (.int 1) := ⟨_, rfl⟩
  rw [← e9] at hmg
  have hP : va_P (dC, dI) CL [(m0, .inr (13, fs_1)), (mcA, .inl (mcC, (4, .inl (fun _ => 0))))] H := by rw [e9]; exact hP
  have hD : va_D A [(m0, .inr (13, fs_1)), (mcA, .inl (mcC, (4, .inl (fun _ => 0))))] := by rw [e9]; exact hD
  clear e9
  refine lv_aload_n hx hb dX13_proves_59 rfl (lv_at hl 0 rfl) ?_
  refine va_get (D := (dC, dI)) (ci := 13) (v := .int 1) (C := RX13) (T := TX13) (N := 225) hx hb hts inX13 hown hK hP 0 rfl rfl 0 (by decide) (hts (.fieldLink RX13 1 "ChipFlowModel" "code" "I") wd_3032) (fun _ h9 => h9) (hmg.get 0 rfl) dX13_proves_60 ?_
  refine lv_if_le (tgt := 68) hx hb dX13_proves_63 (by decide) (fun c9 => ?_) (fun c9 => ?_)
  · first | exact absurd c9 (by decide +kernel) | exact absurd (by decide +kernel) c9
  refine lv_iconst (v := 0) hx hb dX13_proves_66 (by decide +kernel) ?_
  exact W.iret (v := 0) hx hb hr (fun t ht hW => ⟨⟨0, (), rfl, rfl, fs_1, hmg.sub [0] rfl, by rw [ht]; exact hP.sub [0] rfl, va_K.moved hW.alike (hK.sub [] rfl), hD.sub [0] (by decide) rfl⟩, hS.F ht⟩) hS.2.2 dX13_proves_67
set_option maxHeartbeats 4000000 in
set_option maxRecDepth 100000 in
theorem ct_X13_place (l : Launch) (dC : Nat → ClassId) (dI : Nat → Nat → Nat) (sz : Nat) (p0 : Int32) (p1 : Int32) (m0 : Nat) (mg : List Value) (mcA : Nat) (mcC : ClassId) (hmg : fx mg 225 [(138, .ref mcA)]) : Met l yX13_place (Cond.code yX13_place cX13_place 7 (some .int) :: BG) ({ frames := 2, cells := 0, slots := 0, locals := 33 }) (va_Pc [.ref m0, .int p0, .int p1] (fun U => U.heap.size = sz ∧ va_P (dC, dI) CL [(m0, .inr (13, mg)), (mcA, .inl (mcC, (4, .inl (fun _ => 0))))] U.heap ∧ va_K (dC, dI) CL [(mcC, .boolean)] U ∧ va_D (fun _ => True) [(m0, .inr (13, mg)), (mcA, .inl (mcC, (4, .inl (fun _ => 0))))])) (va_Qi (fun (r : Int32) (_ : Unit) => r = 0) (fun _ t => ∃ mg1 : List Value, fx mg1 225 [(0, .int 1)] ∧ va_P (dC, dI) CL [(m0, .inr (13, mg1))] t.heap ∧ va_K (dC, dI) CL [] t ∧ va_D (va_A [(m0, .inr (13, mg)), (mcA, .inl (mcC, (4, .inl (fun _ => 0))))] sz) [(m0, .inr (13, mg1))]) (va_A [(m0, .inr (13, mg)), (mcA, .inl (mcC, (4, .inl (fun _ => 0))))] sz)) 0 0 (va_A [(m0, .inr (13, mg)), (mcA, .inl (mcC, (4, .inl (fun _ => 0))))] sz) := by
  refine Met.ofW (cc := cX13_place) (maxL := 7) (ret := (some .int)) (by decide) rfl ?_
  intro p e s m args below meth c s₁ B hml hv
  obtain ⟨rfl, hsz, hP, hK, hD0⟩ := hv
  have hx := B.exec
  have hb := B.bytes
  have hr := B.returns
  have hts : ∀ w ∈ BG, w.before _ s = true := fun w h => atoms_spec (ws := Cond.code yX13_place cX13_place 7 (some .int) :: BG) B.pre w (List.mem_cons_of_mem _ h)
  have hown : s.vm.findClass RX13 = some m.cls := findClass_of_methodNamed B.named
  have hlocks := B.notSynchronized
  subst hsz
  have hD := hD0.self (sz := s.heap.size)
  generalize hAe : va_A [(m0, .inr (13, mg)), (mcA, .inl (mcC, (4, .inl (fun _ => 0))))] s.heap.size = A at hD ⊢
  have hA : ∀ q : Nat, s.heap.size ≤ q → A q := fun q h => by rw [← hAe]; exact Or.inr h
  have hS : va_S A s.heap s.heap [] := va_S.rf
  have hl := lv_entry ([.ref m0, .int p0, .int p1]) (n := 7) (Nat.le_of_ble_eq_true rfl)
  rw [lg_entry_eq]
  generalize (lg_sl ([.ref m0, .int p0, .int p1]) ++ List.replicate (7 - (lg_sl ([.ref m0, .int p0, .int p1])).length) Slot.unset).toArray = ls at hl ⊢
  have hl : lv_has ls 7 [(0, .ref m0), (1, .int p0), (2, .int p1)] := hl
  refine lv_aload_n hx hb dX13_place_0 rfl (lv_at hl 0 rfl) ?_
  refine lv_aload_n hx hb dX13_place_1 rfl (lv_at hl 0 rfl) ?_
  refine lv_iload_n hx hb dX13_place_2 rfl (lv_at hl 1 rfl) ?_
  have hPc := hP.sub (ws' := [(m0, .inr (13, mg)), (mcA, .inl (mcC, (4, .inl (fun _ => 0))))]) [0, 1] rfl
  have hDc := hD.sub (ws' := [(m0, .inr (13, mg)), (mcA, .inl (mcC, (4, .inl (fun _ => 0))))]) [0, 1] (by decide) rfl
  have hKc := hK.sub (tys' := [(mcC, .boolean)]) [0] rfl
  have hFc := va_free (wc := [(m0, .inr (13, mg)), (mcA, .inl (mcC, (4, .inl (fun _ => 0))))]) hD hS hA [0, 1] rfl
  refine va_calli (va_runV (As := [.int p0]) (rest := [.ref m0]) ⟨hx, hb, hml, hown, hts⟩ (ct_X13_isChip l dC dI _ p0 m0 mg mcA mcC (hmg.sub [0] rfl)) (cwV 1 hts (gi_V wd_4084 wd_4086 wd_217 wd_340 wd_4087) rfl rfl rfl (by decide +kernel) ⟨(Nat.le_of_ble_eq_true rfl), (Nat.le_of_ble_eq_true rfl)⟩) ⟨fun a U g mk q => by obtain ⟨q0, q1, qP, qK, qD⟩ := q; exact ⟨q0, q1, qP, va_K.moved (u := U) (U := U.calling g mk a) (Vm.Alike.refl U.vm) qK, qD⟩, va_recv hKc hPc (ci := 13) (q0 := 0) rfl rfl, fun U hU hW => ⟨rfl, by rw [hU], by rw [hU]; exact hPc, va_K.moved hW.alike hKc, hDc.weaken (fun _ _ _ _ => trivial)⟩⟩ rfl rfl hl.1 rfl (lv_room (Nat.le_of_ble_eq_true rfl)) dX13_place_3 ⟨(Nat.le_of_ble_eq_true rfl), (Nat.le_of_ble_eq_true rfl)⟩) hS (fun q _ h => hFc q h) hFc (fun r u t H1 locs ht hvm hw hB hz1 hk1 hS => ?_)
  subst hw
  obtain ⟨hP1, hK1, hD1⟩ := hB
  rw [ht] at hP1
  obtain ⟨hP, hD⟩ := va_join (wr := []) (w1 := [(m0, .inr (13, mg)), (mcA, .inl (mcC, (4, .inl (fun _ => 0))))]) hP hD [0, 1] [] rfl rfl (by decide) (by decide) hk1 hFc hP1 hD1
  have hP := hP.sub (ws' := [(m0, .inr (13, mg)), (mcA, .inl (mcC, (4, .inl (fun _ => 0))))]) [0, 1] rfl
  have hD := hD.sub (ws' := [(m0, .inr (13, mg)), (mcA, .inl (mcC, (4, .inl (fun _ => 0))))]) [0, 1] (by decide) rfl
  generalize H1 = H at hP hS ⊢
  have hP : va_P (dC, dI) CL [(m0, .inr (13, mg)), (mcA, .inl (mcC, (4, .inl (fun _ => 0))))] H := hP
  have hD : va_D A [(m0, .inr (13, mg)), (mcA, .inl (mcC, (4, .inl (fun _ => 0))))] := hD
  refine lv_if_ne (tgt := 13) hx hb dX13_place_6 (by decide) (fun c9 => ?_) (fun c9 => ?_)
  · first | exact absurd c9 (by decide +kernel) | exact absurd (by decide +kernel) c9
  refine lv_iconst (v := 1) hx hb dX13_place_9 (by decide +kernel) ?_
  refine lv_goto (tgt := 28) hx hb dX13_place_10 (by decide) ?_
  refine va_put (D := (dC, dI)) (ci := 13) (v := .int 1) (ty := tyX13 0) (C := RX13) (T := TX13) (N := 225) hx hb hts inX13 tyX13 tyX13_ok nmX13 hown hK hP hD hS 0 rfl rfl 0 (by decide) (hts (.fieldLink RX13 1 "ChipFlowModel" "code" "I") wd_3032) (fun _ h9 => h9) rfl (by decide +kernel) rfl rfl (by rw [hmg.1]; decide) dX13_place_28 (fun H locs hP hD hS => ?_)
  have hmg : fx (mg.set 0 (.int 1)) 225 [(0, .int 1), (138, .ref mcA)] := hmg.put (by decide) _ rfl
  obtain ⟨fs_1, e9⟩ : ∃ z, z = mg.set 0 (.int 1) := ⟨_, rfl⟩
  rw [← e9] at hmg
  have hP : va_P (dC, dI) CL [(m0, .inr (13, fs_1)), (mcA, .inl (mcC, (4, .inl (fun _ => 0))))] H := by rw [e9]; exact hP
  have hD : va_D A [(m0, .inr (13, fs_1)), (mcA, .inl (mcC, (4, .inl (fun _ => 0))))] := by rw [e9]; exact hD
  clear e9
  refine lv_aload_n hx hb dX13_place_31 rfl (lv_at hl 0 rfl) ?_
  refine va_get (D := (dC, dI)) (ci := 13) (v := .int 1) (C := RX13) (T := TX13) (N := 225) hx hb hts inX13 hown hK hP 0 rfl rfl 0 (by decide) (hts (.fieldLink RX13 1 "ChipFlowModel" "code" "I") wd_3032) (fun _ h9 => h9) (hmg.get 0 rfl) dX13_place_32 ?_
  refine lv_if_le (tgt := 40) hx hb dX13_place_35 (by decide) (fun c9 => ?_) (fun c9 => ?_)
  · first | exact absurd c9 (by decide +kernel) | exact absurd (by decide +kernel) c9
  refine lv_iconst (v := 0) hx hb dX13_place_38 (by decide +kernel) ?_
  exact W.iret (v := 0) hx hb hr (fun t ht hW => ⟨⟨0, (), rfl, rfl, fs_1, hmg.sub [0] rfl, by rw [ht]; exact hP.sub [0] rfl, va_K.moved hW.alike (hK.sub [] rfl), hD.sub [0] (by decide) rfl⟩, hS.F ht⟩) hS.2.2 dX13_place_39
set_option maxHeartbeats 4000000 in
set_option maxRecDepth 100000 in
theorem ct_X13_at (l : Launch) (dC : Nat → ClassId) (dI : Nat → Nat → Nat) (sz : Nat) (p0 : Int32) (p1 : Int32) (p2 : Int32) (m0 : Nat) (mg : List Value) (mcA : Nat) (mcC : ClassId) (hmg : fx mg 225 [(138, .ref mcA)]) : Met l yX13_at (Cond.code yX13_at cX13_at 4 (some .int) :: BG) ({ frames := 3, cells := 0, slots := 0, locals := 55 }) (va_Pc [.ref m0, .int p0, .int p1, .int p2] (fun U => U.heap.size = sz ∧ va_P (dC, dI) CL [(m0, .inr (13, mg)), (mcA, .inl (mcC, (4, .inl (fun _ => 0))))] U.heap ∧ va_K (dC, dI) CL [(mcC, .boolean)] U ∧ va_D (fun _ => True) [(m0, .inr (13, mg)), (mcA, .inl (mcC, (4, .inl (fun _ => 0))))])) (va_Qi (fun (r : Int32) (_ : Unit) => r = 0) (fun _ t => ∃ mg1 : List Value, fx mg1 225 [(0, .int 1)] ∧ va_P (dC, dI) CL [(m0, .inr (13, mg1))] t.heap ∧ va_K (dC, dI) CL [] t ∧ va_D (va_A [(m0, .inr (13, mg)), (mcA, .inl (mcC, (4, .inl (fun _ => 0))))] sz) [(m0, .inr (13, mg1))]) (va_A [(m0, .inr (13, mg)), (mcA, .inl (mcC, (4, .inl (fun _ => 0))))] sz)) 0 0 (va_A [(m0, .inr (13, mg)), (mcA, .inl (mcC, (4, .inl (fun _ => 0))))] sz) := by
  refine Met.ofW (cc := cX13_at) (maxL := 4) (ret := (some .int)) (by decide) rfl ?_
  intro p e s m args below meth c s₁ B hml hv
  obtain ⟨rfl, hsz, hP, hK, hD0⟩ := hv
  have hx := B.exec
  have hb := B.bytes
  have hr := B.returns
  have hts : ∀ w ∈ BG, w.before _ s = true := fun w h => atoms_spec (ws := Cond.code yX13_at cX13_at 4 (some .int) :: BG) B.pre w (List.mem_cons_of_mem _ h)
  have hown : s.vm.findClass RX13 = some m.cls := findClass_of_methodNamed B.named
  have hlocks := B.notSynchronized
  subst hsz
  have hD := hD0.self (sz := s.heap.size)
  generalize hAe : va_A [(m0, .inr (13, mg)), (mcA, .inl (mcC, (4, .inl (fun _ => 0))))] s.heap.size = A at hD ⊢
  have hA : ∀ q : Nat, s.heap.size ≤ q → A q := fun q h => by rw [← hAe]; exact Or.inr h
  have hS : va_S A s.heap s.heap [] := va_S.rf
  have hl := lv_entry ([.ref m0, .int p0, .int p1, .int p2]) (n := 4) (Nat.le_of_ble_eq_true rfl)
  rw [lg_entry_eq]
  generalize (lg_sl ([.ref m0, .int p0, .int p1, .int p2]) ++ List.replicate (4 - (lg_sl ([.ref m0, .int p0, .int p1, .int p2])).length) Slot.unset).toArray = ls at hl ⊢
  have hl : lv_has ls 4 [(0, .ref m0), (1, .int p0), (2, .int p1), (3, .int p2)] := hl
  refine lv_aload_n hx hb dX13_at_0 rfl (lv_at hl 0 rfl) ?_
  refine lv_aload_n hx hb dX13_at_1 rfl (lv_at hl 0 rfl) ?_
  refine lv_iload_n hx hb dX13_at_2 rfl (lv_at hl 1 rfl) ?_
  refine lv_iload_n hx hb dX13_at_3 rfl (lv_at hl 2 rfl) ?_
  have hPc := hP.sub (ws' := [(m0, .inr (13, mg)), (mcA, .inl (mcC, (4, .inl (fun _ => 0))))]) [0, 1] rfl
  have hDc := hD.sub (ws' := [(m0, .inr (13, mg)), (mcA, .inl (mcC, (4, .inl (fun _ => 0))))]) [0, 1] (by decide) rfl
  have hKc := hK.sub (tys' := [(mcC, .boolean)]) [0] rfl
  have hFc := va_free (wc := [(m0, .inr (13, mg)), (mcA, .inl (mcC, (4, .inl (fun _ => 0))))]) hD hS hA [0, 1] rfl
  refine va_calli (va_runV (As := [.int p0, .int p1]) (rest := [.ref m0]) ⟨hx, hb, hml, hown, hts⟩ (ct_X13_isElement l dC dI _ p0 p1 m0 mg mcA mcC (hmg.sub [0] rfl)) (cwV 2 hts (gi_V wd_4353 wd_4355 wd_259 wd_340 wd_4356) rfl rfl rfl (by decide +kernel) ⟨(Nat.le_of_ble_eq_true rfl), (Nat.le_of_ble_eq_true rfl)⟩) ⟨fun a U g mk q => by obtain ⟨q0, q1, qP, qK, qD⟩ := q; exact ⟨q0, q1, qP, va_K.moved (u := U) (U := U.calling g mk a) (Vm.Alike.refl U.vm) qK, qD⟩, va_recv hKc hPc (ci := 13) (q0 := 0) rfl rfl, fun U hU hW => ⟨rfl, by rw [hU], by rw [hU]; exact hPc, va_K.moved hW.alike hKc, hDc.weaken (fun _ _ _ _ => trivial)⟩⟩ rfl rfl hl.1 rfl (lv_room (Nat.le_of_ble_eq_true rfl)) dX13_at_4 ⟨(Nat.le_of_ble_eq_true rfl), (Nat.le_of_ble_eq_true rfl)⟩) hS (fun q _ h => hFc q h) hFc (fun r u t H1 locs ht hvm hw hB hz1 hk1 hS => ?_)
  subst hw
  obtain ⟨hP1, hK1, hD1⟩ := hB
  rw [ht] at hP1
  obtain ⟨hP, hD⟩ := va_join (wr := []) (w1 := [(m0, .inr (13, mg)), (mcA, .inl (mcC, (4, .inl (fun _ => 0))))]) hP hD [0, 1] [] rfl rfl (by decide) (by decide) hk1 hFc hP1 hD1
  have hP := hP.sub (ws' := [(m0, .inr (13, mg)), (mcA, .inl (mcC, (4, .inl (fun _ => 0))))]) [0, 1] rfl
  have hD := hD.sub (ws' := [(m0, .inr (13, mg)), (mcA, .inl (mcC, (4, .inl (fun _ => 0))))]) [0, 1] (by decide) rfl
  generalize H1 = H at hP hS ⊢
  have hP : va_P (dC, dI) CL [(m0, .inr (13, mg)), (mcA, .inl (mcC, (4, .inl (fun _ => 0))))] H := hP
  have hD : va_D A [(m0, .inr (13, mg)), (mcA, .inl (mcC, (4, .inl (fun _ => 0))))] := hD
  refine lv_if_ne (tgt := 14) hx hb dX13_at_7 (by decide) (fun c9 => ?_) (fun c9 => ?_)
  · first | exact absurd c9 (by decide +kernel) | exact absurd (by decide +kernel) c9
  refine lv_iconst (v := 1) hx hb dX13_at_10 (by decide +kernel) ?_
  refine lv_goto (tgt := 41) hx hb dX13_at_11 (by decide) ?_
  refine va_put (D := (dC, dI)) (ci := 13) (v := .int 1) (ty := tyX13 0) (C := RX13) (T := TX13) (N := 225) hx hb hts inX13 tyX13 tyX13_ok nmX13 hown hK hP hD hS 0 rfl rfl 0 (by decide) (hts (.fieldLink RX13 1 "ChipFlowModel" "code" "I") wd_3032) (fun _ h9 => h9) rfl (by decide +kernel) rfl rfl (by rw [hmg.1]; decide) dX13_at_41 (fun H locs hP hD hS => ?_)
  have hmg : fx (mg.set 0 (.int 1)) 225 [(0, .int 1), (138, .ref mcA)] := hmg.put (by decide) _ rfl
  obtain ⟨fs_1, e9⟩ : ∃ z, z = mg.set 0 (.int 1) := ⟨_, rfl⟩
  rw [← e9] at hmg
  have hP : va_P (dC, dI) CL [(m0, .inr (13, fs_1)), (mcA, .inl (mcC, (4, .inl (fun _ => 0))))] H := by rw [e9]; exact hP
  have hD : va_D A [(m0, .inr (13, fs_1)), (mcA, .inl (mcC, (4, .inl (fun _ => 0))))] := by rw [e9]; exact hD
  clear e9
  refine lv_aload_n hx hb dX13_at_44 rfl (lv_at hl 0 rfl) ?_
  refine va_get (D := (dC, dI)) (ci := 13) (v := .int 1) (C := RX13) (T := TX13) (N := 225) hx hb hts inX13 hown hK hP 0 rfl rfl 0 (by decide) (hts (.fieldLink RX13 1 "ChipFlowModel" "code" "I") wd_3032) (fun _ h9 => h9) (hmg.get 0 rfl) dX13_at_45 ?_
  refine lv_if_le (tgt := 53) hx hb dX13_at_48 (by decide) (fun c9 => ?_) (fun c9 => ?_)
  · first | exact absurd c9 (by decide +kernel) | exact absurd (by decide +kernel) c9
  refine lv_iconst (v := 0) hx hb dX13_at_51 (by decide +kernel) ?_
  exact W.iret (v := 0) hx hb hr (fun t ht hW => ⟨⟨0, (), rfl, rfl, fs_1, hmg.sub [0] rfl, by rw [ht]; exact hP.sub [0] rfl, va_K.moved hW.alike (hK.sub [] rfl), hD.sub [0] (by decide) rfl⟩, hS.F ht⟩) hS.2.2 dX13_at_52
set_option maxHeartbeats 4000000 in
set_option maxRecDepth 100000 in
theorem ct_X13_move (l : Launch) (dC : Nat → ClassId) (dI : Nat → Nat → Nat) (sz : Nat) (p0 : Int32) (p1 : Int32) (p2 : Int32) (p3 : Int32) (m0 : Nat) (mg : List Value) (mcA : Nat) (mcC : ClassId) (hmg : fx mg 225 [(138, .ref mcA)]) : Met l yX13_move (Cond.code yX13_move cX13_move 7 (some .boolean) :: BG) ({ frames := 3, cells := 0, slots := 0, locals := 55 }) (va_Pc [.ref m0, .int p0, .int p1, .int p2, .int p3] (fun U => U.heap.size = sz ∧ va_P (dC, dI) CL [(m0, .inr (13, mg)), (mcA, .inl (mcC, (4, .inl (fun _ => 0))))] U.heap ∧ va_K (dC, dI) CL [(mcC, .boolean)] U ∧ va_D (fun _ => True) [(m0, .inr (13, mg)), (mcA, .inl (mcC, (4, .inl (fun _ => 0))))])) (va_Qi (fun (r : Int32) (_ : Unit) => r = 0) (fun _ t => ∃ mg1 : List Value, fx mg1 225 [(0, .int 1)] ∧ va_P (dC, dI) CL [(m0, .inr (13, mg1))] t.heap ∧ va_K (dC, dI) CL [] t ∧ va_D (va_A [(m0, .inr (13, mg)), (mcA, .inl (mcC, (4, .inl (fun _ => 0))))] sz) [(m0, .inr (13, mg1))]) (va_A [(m0, .inr (13, mg)), (mcA, .inl (mcC, (4, .inl (fun _ => 0))))] sz)) 0 0 (va_A [(m0, .inr (13, mg)), (mcA, .inl (mcC, (4, .inl (fun _ => 0))))] sz) := by
  refine Met.ofW (cc := cX13_move) (maxL := 7) (ret := (some .boolean)) (by decide) rfl ?_
  intro p e s m args below meth c s₁ B hml hv
  obtain ⟨rfl, hsz, hP, hK, hD0⟩ := hv
  have hx := B.exec
  have hb := B.bytes
  have hr := B.returns
  have hts : ∀ w ∈ BG, w.before _ s = true := fun w h => atoms_spec (ws := Cond.code yX13_move cX13_move 7 (some .boolean) :: BG) B.pre w (List.mem_cons_of_mem _ h)
  have hown : s.vm.findClass RX13 = some m.cls := findClass_of_methodNamed B.named
  have hlocks := B.notSynchronized
  subst hsz
  have hD := hD0.self (sz := s.heap.size)
  generalize hAe : va_A [(m0, .inr (13, mg)), (mcA, .inl (mcC, (4, .inl (fun _ => 0))))] s.heap.size = A at hD ⊢
  have hA : ∀ q : Nat, s.heap.size ≤ q → A q := fun q h => by rw [← hAe]; exact Or.inr h
  have hS : va_S A s.heap s.heap [] := va_S.rf
  have hl := lv_entry ([.ref m0, .int p0, .int p1, .int p2, .int p3]) (n := 7) (Nat.le_of_ble_eq_true rfl)
  rw [lg_entry_eq]
  generalize (lg_sl ([.ref m0, .int p0, .int p1, .int p2, .int p3]) ++ List.replicate (7 - (lg_sl ([.ref m0, .int p0, .int p1, .int p2, .int p3])).length) Slot.unset).toArray = ls at hl ⊢
  have hl : lv_has ls 7 [(0, .ref m0), (1, .int p0), (2, .int p1), (3, .int p2), (4, .int p3)] := hl
  refine lv_aload_n hx hb dX13_move_0 rfl (lv_at hl 0 rfl) ?_
  refine lv_aload_n hx hb dX13_move_1 rfl (lv_at hl 0 rfl) ?_
  refine lv_iload_n hx hb dX13_move_2 rfl (lv_at hl 1 rfl) ?_
  refine lv_iload_n hx hb dX13_move_3 rfl (lv_at hl 2 rfl) ?_
  have hPc := hP.sub (ws' := [(m0, .inr (13, mg)), (mcA, .inl (mcC, (4, .inl (fun _ => 0))))]) [0, 1] rfl
  have hDc := hD.sub (ws' := [(m0, .inr (13, mg)), (mcA, .inl (mcC, (4, .inl (fun _ => 0))))]) [0, 1] (by decide) rfl
  have hKc := hK.sub (tys' := [(mcC, .boolean)]) [0] rfl
  have hFc := va_free (wc := [(m0, .inr (13, mg)), (mcA, .inl (mcC, (4, .inl (fun _ => 0))))]) hD hS hA [0, 1] rfl
  refine va_calli (va_runV (As := [.int p0, .int p1]) (rest := [.ref m0]) ⟨hx, hb, hml, hown, hts⟩ (ct_X13_isElement l dC dI _ p0 p1 m0 mg mcA mcC (hmg.sub [0] rfl)) (cwV 2 hts (gi_V wd_4353 wd_4355 wd_259 wd_340 wd_4356) rfl rfl rfl (by decide +kernel) ⟨(Nat.le_of_ble_eq_true rfl), (Nat.le_of_ble_eq_true rfl)⟩) ⟨fun a U g mk q => by obtain ⟨q0, q1, qP, qK, qD⟩ := q; exact ⟨q0, q1, qP, va_K.moved (u := U) (U := U.calling g mk a) (Vm.Alike.refl U.vm) qK, qD⟩, va_recv hKc hPc (ci := 13) (q0 := 0) rfl rfl, fun U hU hW => ⟨rfl, by rw [hU], by rw [hU]; exact hPc, va_K.moved hW.alike hKc, hDc.weaken (fun _ _ _ _ => trivial)⟩⟩ rfl rfl hl.1 rfl (lv_room (Nat.le_of_ble_eq_true rfl)) dX13_move_4 ⟨(Nat.le_of_ble_eq_true rfl), (Nat.le_of_ble_eq_true rfl)⟩) hS (fun q _ h => hFc q h) hFc (fun r u t H1 locs ht hvm hw hB hz1 hk1 hS => ?_)
  subst hw
  obtain ⟨hP1, hK1, hD1⟩ := hB
  rw [ht] at hP1
  obtain ⟨hP, hD⟩ := va_join (wr := []) (w1 := [(m0, .inr (13, mg)), (mcA, .inl (mcC, (4, .inl (fun _ => 0))))]) hP hD [0, 1] [] rfl rfl (by decide) (by decide) hk1 hFc hP1 hD1
  have hP := hP.sub (ws' := [(m0, .inr (13, mg)), (mcA, .inl (mcC, (4, .inl (fun _ => 0))))]) [0, 1] rfl
  have hD := hD.sub (ws' := [(m0, .inr (13, mg)), (mcA, .inl (mcC, (4, .inl (fun _ => 0))))]) [0, 1] (by decide) rfl
  generalize H1 = H at hP hS ⊢
  have hP : va_P (dC, dI) CL [(m0, .inr (13, mg)), (mcA, .inl (mcC, (4, .inl (fun _ => 0))))] H := hP
  have hD : va_D A [(m0, .inr (13, mg)), (mcA, .inl (mcC, (4, .inl (fun _ => 0))))] := hD
  refine lv_if_ne (tgt := 14) hx hb dX13_move_7 (by decide) (fun c9 => ?_) (fun c9 => ?_)
  · first | exact absurd c9 (by decide +kernel) | exact absurd (by decide +kernel) c9
  refine lv_iconst (v := 1) hx hb dX13_move_10 (by decide +kernel) ?_
  refine lv_goto (tgt := 28) hx hb dX13_move_11 (by decide) ?_
  refine va_put (D := (dC, dI)) (ci := 13) (v := .int 1) (ty := tyX13 0) (C := RX13) (T := TX13) (N := 225) hx hb hts inX13 tyX13 tyX13_ok nmX13 hown hK hP hD hS 0 rfl rfl 0 (by decide) (hts (.fieldLink RX13 1 "ChipFlowModel" "code" "I") wd_3032) (fun _ h9 => h9) rfl (by decide +kernel) rfl rfl (by rw [hmg.1]; decide) dX13_move_28 (fun H locs hP hD hS => ?_)
  have hmg : fx (mg.set 0 (.int 1)) 225 [(0, .int 1), (138, .ref mcA)] := hmg.put (by decide) _ rfl
  obtain ⟨fs_1, e9⟩ : ∃ z, z = mg.set 0 (.int 1) := ⟨_, rfl⟩
  rw [← e9] at hmg
  have hP : va_P (dC, dI) CL [(m0, .inr (13, fs_1)), (mcA, .inl (mcC, (4, .inl (fun _ => 0))))] H := by rw [e9]; exact hP
  have hD : va_D A [(m0, .inr (13, fs_1)), (mcA, .inl (mcC, (4, .inl (fun _ => 0))))] := by rw [e9]; exact hD
  clear e9
  refine lv_aload_n hx hb dX13_move_31 rfl (lv_at hl 0 rfl) ?_
  refine va_get (D := (dC, dI)) (ci := 13) (v := .int 1) (C := RX13) (T := TX13) (N := 225) hx hb hts inX13 hown hK hP 0 rfl rfl 0 (by decide) (hts (.fieldLink RX13 1 "ChipFlowModel" "code" "I") wd_3032) (fun _ h9 => h9) (hmg.get 0 rfl) dX13_move_32 ?_
  refine lv_if_gt (tgt := 75) hx hb dX13_move_35 (by decide) (fun c9 => ?_) (fun c9 => ?_)
  rotate_left
  · first | exact absurd c9 (by decide +kernel) | exact absurd (by decide +kernel) c9
  refine lv_iconst (v := 0) hx hb dX13_move_75 (by decide +kernel) ?_
  exact W.zret (v := 0) hx hb hr rfl (fun t ht hW => ⟨⟨0, (), rfl, rfl, fs_1, hmg.sub [0] rfl, by rw [ht]; exact hP.sub [0] rfl, va_K.moved hW.alike (hK.sub [] rfl), hD.sub [0] (by decide) rfl⟩, hS.F ht⟩) hS.2.2 dX13_move_76
set_option maxHeartbeats 4000000 in
set_option maxRecDepth 100000 in
theorem ct_X13_improve (l : Launch) (dC : Nat → ClassId) (dI : Nat → Nat → Nat) (sz : Nat) (p0 : Int32) (p1 : Int32) (m0 : Nat) (mg : List Value) (mcA : Nat) (mcC : ClassId) (hmg : fx mg 225 [(138, .ref mcA)]) : Met l yX13_improve (Cond.code yX13_improve cX13_improve 9 (some .int) :: BG) ({ frames := 2, cells := 0, slots := 0, locals := 33 }) (va_Pc [.ref m0, .int p0, .int p1] (fun U => U.heap.size = sz ∧ va_P (dC, dI) CL [(m0, .inr (13, mg)), (mcA, .inl (mcC, (4, .inl (fun _ => 0))))] U.heap ∧ va_K (dC, dI) CL [(mcC, .boolean)] U ∧ va_D (fun _ => True) [(m0, .inr (13, mg)), (mcA, .inl (mcC, (4, .inl (fun _ => 0))))])) (va_Qi (fun (r : Int32) (_ : Unit) => r = 0) (fun _ t => ∃ mg1 : List Value, fx mg1 225 [(0, .int 1)] ∧ va_P (dC, dI) CL [(m0, .inr (13, mg1))] t.heap ∧ va_K (dC, dI) CL [] t ∧ va_D (va_A [(m0, .inr (13, mg)), (mcA, .inl (mcC, (4, .inl (fun _ => 0))))] sz) [(m0, .inr (13, mg1))]) (va_A [(m0, .inr (13, mg)), (mcA, .inl (mcC, (4, .inl (fun _ => 0))))] sz)) 0 0 (va_A [(m0, .inr (13, mg)), (mcA, .inl (mcC, (4, .inl (fun _ => 0))))] sz) := by
  refine Met.ofW (cc := cX13_improve) (maxL := 9) (ret := (some .int)) (by decide) rfl ?_
  intro p e s m args below meth c s₁ B hml hv
  obtain ⟨rfl, hsz, hP, hK, hD0⟩ := hv
  have hx := B.exec
  have hb := B.bytes
  have hr := B.returns
  have hts : ∀ w ∈ BG, w.before _ s = true := fun w h => atoms_spec (ws := Cond.code yX13_improve cX13_improve 9 (some .int) :: BG) B.pre w (List.mem_cons_of_mem _ h)
  have hown : s.vm.findClass RX13 = some m.cls := findClass_of_methodNamed B.named
  have hlocks := B.notSynchronized
  subst hsz
  have hD := hD0.self (sz := s.heap.size)
  generalize hAe : va_A [(m0, .inr (13, mg)), (mcA, .inl (mcC, (4, .inl (fun _ => 0))))] s.heap.size = A at hD ⊢
  have hA : ∀ q : Nat, s.heap.size ≤ q → A q := fun q h => by rw [← hAe]; exact Or.inr h
  have hS : va_S A s.heap s.heap [] := va_S.rf
  have hl := lv_entry ([.ref m0, .int p0, .int p1]) (n := 9) (Nat.le_of_ble_eq_true rfl)
  rw [lg_entry_eq]
  generalize (lg_sl ([.ref m0, .int p0, .int p1]) ++ List.replicate (9 - (lg_sl ([.ref m0, .int p0, .int p1])).length) Slot.unset).toArray = ls at hl ⊢
  have hl : lv_has ls 9 [(0, .ref m0), (1, .int p0), (2, .int p1)] := hl
  refine lv_aload_n hx hb dX13_improve_0 rfl (lv_at hl 0 rfl) ?_
  refine lv_aload_n hx hb dX13_improve_1 rfl (lv_at hl 0 rfl) ?_
  refine lv_iload_n hx hb dX13_improve_2 rfl (lv_at hl 1 rfl) ?_
  have hPc := hP.sub (ws' := [(m0, .inr (13, mg)), (mcA, .inl (mcC, (4, .inl (fun _ => 0))))]) [0, 1] rfl
  have hDc := hD.sub (ws' := [(m0, .inr (13, mg)), (mcA, .inl (mcC, (4, .inl (fun _ => 0))))]) [0, 1] (by decide) rfl
  have hKc := hK.sub (tys' := [(mcC, .boolean)]) [0] rfl
  have hFc := va_free (wc := [(m0, .inr (13, mg)), (mcA, .inl (mcC, (4, .inl (fun _ => 0))))]) hD hS hA [0, 1] rfl
  refine va_calli (va_runV (As := [.int p0]) (rest := [.ref m0]) ⟨hx, hb, hml, hown, hts⟩ (ct_X13_isChip l dC dI _ p0 m0 mg mcA mcC (hmg.sub [0] rfl)) (cwV 1 hts (gi_V wd_4084 wd_4086 wd_217 wd_340 wd_4087) rfl rfl rfl (by decide +kernel) ⟨(Nat.le_of_ble_eq_true rfl), (Nat.le_of_ble_eq_true rfl)⟩) ⟨fun a U g mk q => by obtain ⟨q0, q1, qP, qK, qD⟩ := q; exact ⟨q0, q1, qP, va_K.moved (u := U) (U := U.calling g mk a) (Vm.Alike.refl U.vm) qK, qD⟩, va_recv hKc hPc (ci := 13) (q0 := 0) rfl rfl, fun U hU hW => ⟨rfl, by rw [hU], by rw [hU]; exact hPc, va_K.moved hW.alike hKc, hDc.weaken (fun _ _ _ _ => trivial)⟩⟩ rfl rfl hl.1 rfl (lv_room (Nat.le_of_ble_eq_true rfl)) dX13_improve_3 ⟨(Nat.le_of_ble_eq_true rfl), (Nat.le_of_ble_eq_true rfl)⟩) hS (fun q _ h => hFc q h) hFc (fun r u t H1 locs ht hvm hw hB hz1 hk1 hS => ?_)
  subst hw
  obtain ⟨hP1, hK1, hD1⟩ := hB
  rw [ht] at hP1
  obtain ⟨hP, hD⟩ := va_join (wr := []) (w1 := [(m0, .inr (13, mg)), (mcA, .inl (mcC, (4, .inl (fun _ => 0))))]) hP hD [0, 1] [] rfl rfl (by decide) (by decide) hk1 hFc hP1 hD1
  have hP := hP.sub (ws' := [(m0, .inr (13, mg)), (mcA, .inl (mcC, (4, .inl (fun _ => 0))))]) [0, 1] rfl
  have hD := hD.sub (ws' := [(m0, .inr (13, mg)), (mcA, .inl (mcC, (4, .inl (fun _ => 0))))]) [0, 1] (by decide) rfl
  generalize H1 = H at hP hS ⊢
  have hP : va_P (dC, dI) CL [(m0, .inr (13, mg)), (mcA, .inl (mcC, (4, .inl (fun _ => 0))))] H := hP
  have hD : va_D A [(m0, .inr (13, mg)), (mcA, .inl (mcC, (4, .inl (fun _ => 0))))] := hD
  refine lv_if_ne (tgt := 13) hx hb dX13_improve_6 (by decide) (fun c9 => ?_) (fun c9 => ?_)
  · first | exact absurd c9 (by decide +kernel) | exact absurd (by decide +kernel) c9
  refine lv_iconst (v := 1) hx hb dX13_improve_9 (by decide +kernel) ?_
  refine lv_goto (tgt := 40) hx hb dX13_improve_10 (by decide) ?_
  refine va_put (D := (dC, dI)) (ci := 13) (v := .int 1) (ty := tyX13 0) (C := RX13) (T := TX13) (N := 225) hx hb hts inX13 tyX13 tyX13_ok nmX13 hown hK hP hD hS 0 rfl rfl 0 (by decide) (hts (.fieldLink RX13 1 "ChipFlowModel" "code" "I") wd_3032) (fun _ h9 => h9) rfl (by decide +kernel) rfl rfl (by rw [hmg.1]; decide) dX13_improve_40 (fun H locs hP hD hS => ?_)
  have hmg : fx (mg.set 0 (.int 1)) 225 [(0, .int 1), (138, .ref mcA)] := hmg.put (by decide) _ rfl
  obtain ⟨fs_1, e9⟩ : ∃ z, z = mg.set 0 (.int 1) := ⟨_, rfl⟩
  rw [← e9] at hmg
  have hP : va_P (dC, dI) CL [(m0, .inr (13, fs_1)), (mcA, .inl (mcC, (4, .inl (fun _ => 0))))] H := by rw [e9]; exact hP
  have hD : va_D A [(m0, .inr (13, fs_1)), (mcA, .inl (mcC, (4, .inl (fun _ => 0))))] := by rw [e9]; exact hD
  clear e9
  refine lv_aload_n hx hb dX13_improve_43 rfl (lv_at hl 0 rfl) ?_
  refine va_get (D := (dC, dI)) (ci := 13) (v := .int 1) (C := RX13) (T := TX13) (N := 225) hx hb hts inX13 hown hK hP 0 rfl rfl 0 (by decide) (hts (.fieldLink RX13 1 "ChipFlowModel" "code" "I") wd_3032) (fun _ h9 => h9) (hmg.get 0 rfl) dX13_improve_44 ?_
  refine lv_if_le (tgt := 52) hx hb dX13_improve_47 (by decide) (fun c9 => ?_) (fun c9 => ?_)
  · first | exact absurd c9 (by decide +kernel) | exact absurd (by decide +kernel) c9
  refine lv_iconst (v := 0) hx hb dX13_improve_50 (by decide +kernel) ?_
  exact W.iret (v := 0) hx hb hr (fun t ht hW => ⟨⟨0, (), rfl, rfl, fs_1, hmg.sub [0] rfl, by rw [ht]; exact hP.sub [0] rfl, va_K.moved hW.alike (hK.sub [] rfl), hD.sub [0] (by decide) rfl⟩, hS.F ht⟩) hS.2.2 dX13_improve_51
set_option maxHeartbeats 4000000 in
set_option maxRecDepth 100000 in
theorem ct_X13_wire (l : Launch) (dC : Nat → ClassId) (dI : Nat → Nat → Nat) (sz : Nat) (p0 : Int32) (p1 : Int32) (m0 : Nat) (mg : List Value) (mcA : Nat) (mcC : ClassId) (hmg : fx mg 225 [(138, .ref mcA)]) : Met l yX13_wire (Cond.code yX13_wire cX13_wire 4 (some .int) :: BG) ({ frames := 2, cells := 0, slots := 0, locals := 33 }) (va_Pc [.ref m0, .int p0, .int p1] (fun U => U.heap.size = sz ∧ va_P (dC, dI) CL [(m0, .inr (13, mg)), (mcA, .inl (mcC, (4, .inl (fun _ => 0))))] U.heap ∧ va_K (dC, dI) CL [(mcC, .boolean)] U ∧ va_D (fun _ => True) [(m0, .inr (13, mg)), (mcA, .inl (mcC, (4, .inl (fun _ => 0))))])) (va_Qi (fun (r : Int32) (_ : Unit) => r = 0) (fun _ t => ∃ mg1 : List Value, fx mg1 225 [(0, .int 1)] ∧ va_P (dC, dI) CL [(m0, .inr (13, mg1))] t.heap ∧ va_K (dC, dI) CL [] t ∧ va_D (va_A [(m0, .inr (13, mg)), (mcA, .inl (mcC, (4, .inl (fun _ => 0))))] sz) [(m0, .inr (13, mg1))]) (va_A [(m0, .inr (13, mg)), (mcA, .inl (mcC, (4, .inl (fun _ => 0))))] sz)) 0 0 (va_A [(m0, .inr (13, mg)), (mcA, .inl (mcC, (4, .inl (fun _ => 0))))] sz) := by
  refine Met.ofW (cc := cX13_wire) (maxL := 4) (ret := (some .int)) (by decide) rfl ?_
  intro p e s m args below meth c s₁ B hml hv
  obtain ⟨rfl, hsz, hP, hK, hD0⟩ := hv
  have hx := B.exec
  have hb := B.bytes
  have hr := B.returns
  have hts : ∀ w ∈ BG, w.before _ s = true := fun w h => atoms_spec (ws := Cond.code yX13_wire cX13_wire 4 (some .int) :: BG) B.pre w (List.mem_cons_of_mem _ h)
  have hown : s.vm.findClass RX13 = some m.cls := findClass_of_methodNamed B.named
  have hlocks := B.notSynchronized
  subst hsz
  have hD := hD0.self (sz := s.heap.size)
  generalize hAe : va_A [(m0, .inr (13, mg)), (mcA, .inl (mcC, (4, .inl (fun _ => 0))))] s.heap.size = A at hD ⊢
  have hA : ∀ q : Nat, s.heap.size ≤ q → A q := fun q h => by rw [← hAe]; exact Or.inr h
  have hS : va_S A s.heap s.heap [] := va_S.rf
  have hl := lv_entry ([.ref m0, .int p0, .int p1]) (n := 4) (Nat.le_of_ble_eq_true rfl)
  rw [lg_entry_eq]
  generalize (lg_sl ([.ref m0, .int p0, .int p1]) ++ List.replicate (4 - (lg_sl ([.ref m0, .int p0, .int p1])).length) Slot.unset).toArray = ls at hl ⊢
  have hl : lv_has ls 4 [(0, .ref m0), (1, .int p0), (2, .int p1)] := hl
  refine lv_aload_n hx hb dX13_wire_0 rfl (lv_at hl 0 rfl) ?_
  refine lv_aload_n hx hb dX13_wire_1 rfl (lv_at hl 0 rfl) ?_
  refine lv_iload_n hx hb dX13_wire_2 rfl (lv_at hl 1 rfl) ?_
  have hPc := hP.sub (ws' := [(m0, .inr (13, mg)), (mcA, .inl (mcC, (4, .inl (fun _ => 0))))]) [0, 1] rfl
  have hDc := hD.sub (ws' := [(m0, .inr (13, mg)), (mcA, .inl (mcC, (4, .inl (fun _ => 0))))]) [0, 1] (by decide) rfl
  have hKc := hK.sub (tys' := [(mcC, .boolean)]) [0] rfl
  have hFc := va_free (wc := [(m0, .inr (13, mg)), (mcA, .inl (mcC, (4, .inl (fun _ => 0))))]) hD hS hA [0, 1] rfl
  refine va_calli (va_runV (As := [.int p0]) (rest := [.ref m0]) ⟨hx, hb, hml, hown, hts⟩ (ct_X13_isChip l dC dI _ p0 m0 mg mcA mcC (hmg.sub [0] rfl)) (cwV 1 hts (gi_V wd_4084 wd_4086 wd_217 wd_340 wd_4087) rfl rfl rfl (by decide +kernel) ⟨(Nat.le_of_ble_eq_true rfl), (Nat.le_of_ble_eq_true rfl)⟩) ⟨fun a U g mk q => by obtain ⟨q0, q1, qP, qK, qD⟩ := q; exact ⟨q0, q1, qP, va_K.moved (u := U) (U := U.calling g mk a) (Vm.Alike.refl U.vm) qK, qD⟩, va_recv hKc hPc (ci := 13) (q0 := 0) rfl rfl, fun U hU hW => ⟨rfl, by rw [hU], by rw [hU]; exact hPc, va_K.moved hW.alike hKc, hDc.weaken (fun _ _ _ _ => trivial)⟩⟩ rfl rfl hl.1 rfl (lv_room (Nat.le_of_ble_eq_true rfl)) dX13_wire_3 ⟨(Nat.le_of_ble_eq_true rfl), (Nat.le_of_ble_eq_true rfl)⟩) hS (fun q _ h => hFc q h) hFc (fun r u t H1 locs ht hvm hw hB hz1 hk1 hS => ?_)
  subst hw
  obtain ⟨hP1, hK1, hD1⟩ := hB
  rw [ht] at hP1
  obtain ⟨hP, hD⟩ := va_join (wr := []) (w1 := [(m0, .inr (13, mg)), (mcA, .inl (mcC, (4, .inl (fun _ => 0))))]) hP hD [0, 1] [] rfl rfl (by decide) (by decide) hk1 hFc hP1 hD1
  have hP := hP.sub (ws' := [(m0, .inr (13, mg)), (mcA, .inl (mcC, (4, .inl (fun _ => 0))))]) [0, 1] rfl
  have hD := hD.sub (ws' := [(m0, .inr (13, mg)), (mcA, .inl (mcC, (4, .inl (fun _ => 0))))]) [0, 1] (by decide) rfl
  generalize H1 = H at hP hS ⊢
  have hP : va_P (dC, dI) CL [(m0, .inr (13, mg)), (mcA, .inl (mcC, (4, .inl (fun _ => 0))))] H := hP
  have hD : va_D A [(m0, .inr (13, mg)), (mcA, .inl (mcC, (4, .inl (fun _ => 0))))] := hD
  refine lv_if_eq (tgt := 23) hx hb dX13_wire_6 (by decide) (fun c9 => ?_) (fun c9 => ?_)
  rotate_left
  · first | exact absurd c9 (by decide +kernel) | exact absurd (by decide +kernel) c9
  refine lv_iconst (v := 1) hx hb dX13_wire_23 (by decide +kernel) ?_
  refine lv_goto (tgt := 41) hx hb dX13_wire_24 (by decide) ?_
  refine va_put (D := (dC, dI)) (ci := 13) (v := .int 1) (ty := tyX13 0) (C := RX13) (T := TX13) (N := 225) hx hb hts inX13 tyX13 tyX13_ok nmX13 hown hK hP hD hS 0 rfl rfl 0 (by decide) (hts (.fieldLink RX13 1 "ChipFlowModel" "code" "I") wd_3032) (fun _ h9 => h9) rfl (by decide +kernel) rfl rfl (by rw [hmg.1]; decide) dX13_wire_41 (fun H locs hP hD hS => ?_)
  have hmg : fx (mg.set 0 (.int 1)) 225 [(0, .int 1), (138, .ref mcA)] := hmg.put (by decide) _ rfl
  obtain ⟨fs_1, e9⟩ : ∃ z, z = mg.set 0 (.int 1) := ⟨_, rfl⟩
  rw [← e9] at hmg
  have hP : va_P (dC, dI) CL [(m0, .inr (13, fs_1)), (mcA, .inl (mcC, (4, .inl (fun _ => 0))))] H := by rw [e9]; exact hP
  have hD : va_D A [(m0, .inr (13, fs_1)), (mcA, .inl (mcC, (4, .inl (fun _ => 0))))] := by rw [e9]; exact hD
  clear e9
  refine lv_aload_n hx hb dX13_wire_44 rfl (lv_at hl 0 rfl) ?_
  refine va_get (D := (dC, dI)) (ci := 13) (v := .int 1) (C := RX13) (T := TX13) (N := 225) hx hb hts inX13 hown hK hP 0 rfl rfl 0 (by decide) (hts (.fieldLink RX13 1 "ChipFlowModel" "code" "I") wd_3032) (fun _ h9 => h9) (hmg.get 0 rfl) dX13_wire_45 ?_
  refine lv_if_le (tgt := 53) hx hb dX13_wire_48 (by decide) (fun c9 => ?_) (fun c9 => ?_)
  · first | exact absurd c9 (by decide +kernel) | exact absurd (by decide +kernel) c9
  refine lv_iconst (v := 0) hx hb dX13_wire_51 (by decide +kernel) ?_
  exact W.iret (v := 0) hx hb hr (fun t ht hW => ⟨⟨0, (), rfl, rfl, fs_1, hmg.sub [0] rfl, by rw [ht]; exact hP.sub [0] rfl, va_K.moved hW.alike (hK.sub [] rfl), hD.sub [0] (by decide) rfl⟩, hS.F ht⟩) hS.2.2 dX13_wire_52
set_option maxHeartbeats 4000000 in
set_option maxRecDepth 100000 in
theorem ct_X13_route (l : Launch) (dC : Nat → ClassId) (dI : Nat → Nat → Nat) (sz : Nat) (p0 : Int32) (p1 : Int32) (m0 : Nat) (mg : List Value) (mcA : Nat) (mcC : ClassId) (hmg : fx mg 225 [(138, .ref mcA)]) : Met l yX13_route (Cond.code yX13_route cX13_route 6 (some .int) :: BG) ({ frames := 2, cells := 0, slots := 0, locals := 33 }) (va_Pc [.ref m0, .int p0, .int p1] (fun U => U.heap.size = sz ∧ va_P (dC, dI) CL [(m0, .inr (13, mg)), (mcA, .inl (mcC, (4, .inl (fun _ => 0))))] U.heap ∧ va_K (dC, dI) CL [(mcC, .boolean)] U ∧ va_D (fun _ => True) [(m0, .inr (13, mg)), (mcA, .inl (mcC, (4, .inl (fun _ => 0))))])) (va_Qi (fun (r : Int32) (_ : Unit) => r = 0) (fun _ t => ∃ mg1 : List Value, fx mg1 225 [(0, .int 1)] ∧ va_P (dC, dI) CL [(m0, .inr (13, mg1))] t.heap ∧ va_K (dC, dI) CL [] t ∧ va_D (va_A [(m0, .inr (13, mg)), (mcA, .inl (mcC, (4, .inl (fun _ => 0))))] sz) [(m0, .inr (13, mg1))]) (va_A [(m0, .inr (13, mg)), (mcA, .inl (mcC, (4, .inl (fun _ => 0))))] sz)) 0 0 (va_A [(m0, .inr (13, mg)), (mcA, .inl (mcC, (4, .inl (fun _ => 0))))] sz) := by
  refine Met.ofW (cc := cX13_route) (maxL := 6) (ret := (some .int)) (by decide) rfl ?_
  intro p e s m args below meth c s₁ B hml hv
  obtain ⟨rfl, hsz, hP, hK, hD0⟩ := hv
  have hx := B.exec
  have hb := B.bytes
  have hr := B.returns
  have hts : ∀ w ∈ BG, w.before _ s = true := fun w h => atoms_spec (ws := Cond.code yX13_route cX13_route 6 (some .int) :: BG) B.pre w (List.mem_cons_of_mem _ h)
  have hown : s.vm.findClass RX13 = some m.cls := findClass_of_methodNamed B.named
  have hlocks := B.notSynchronized
  subst hsz
  have hD := hD0.self (sz := s.heap.size)
  generalize hAe : va_A [(m0, .inr (13, mg)), (mcA, .inl (mcC, (4, .inl (fun _ => 0))))] s.heap.size = A at hD ⊢
  have hA : ∀ q : Nat, s.heap.size ≤ q → A q := fun q h => by rw [← hAe]; exact Or.inr h
  have hS : va_S A s.heap s.heap [] := va_S.rf
  have hl := lv_entry ([.ref m0, .int p0, .int p1]) (n := 6) (Nat.le_of_ble_eq_true rfl)
  rw [lg_entry_eq]
  generalize (lg_sl ([.ref m0, .int p0, .int p1]) ++ List.replicate (6 - (lg_sl ([.ref m0, .int p0, .int p1])).length) Slot.unset).toArray = ls at hl ⊢
  have hl : lv_has ls 6 [(0, .ref m0), (1, .int p0), (2, .int p1)] := hl
  refine lv_aload_n hx hb dX13_route_0 rfl (lv_at hl 0 rfl) ?_
  refine lv_aload_n hx hb dX13_route_1 rfl (lv_at hl 0 rfl) ?_
  refine lv_iload_n hx hb dX13_route_2 rfl (lv_at hl 1 rfl) ?_
  have hPc := hP.sub (ws' := [(m0, .inr (13, mg)), (mcA, .inl (mcC, (4, .inl (fun _ => 0))))]) [0, 1] rfl
  have hDc := hD.sub (ws' := [(m0, .inr (13, mg)), (mcA, .inl (mcC, (4, .inl (fun _ => 0))))]) [0, 1] (by decide) rfl
  have hKc := hK.sub (tys' := [(mcC, .boolean)]) [0] rfl
  have hFc := va_free (wc := [(m0, .inr (13, mg)), (mcA, .inl (mcC, (4, .inl (fun _ => 0))))]) hD hS hA [0, 1] rfl
  refine va_calli (va_runV (As := [.int p0]) (rest := [.ref m0]) ⟨hx, hb, hml, hown, hts⟩ (ct_X13_isChip l dC dI _ p0 m0 mg mcA mcC (hmg.sub [0] rfl)) (cwV 1 hts (gi_V wd_4084 wd_4086 wd_217 wd_340 wd_4087) rfl rfl rfl (by decide +kernel) ⟨(Nat.le_of_ble_eq_true rfl), (Nat.le_of_ble_eq_true rfl)⟩) ⟨fun a U g mk q => by obtain ⟨q0, q1, qP, qK, qD⟩ := q; exact ⟨q0, q1, qP, va_K.moved (u := U) (U := U.calling g mk a) (Vm.Alike.refl U.vm) qK, qD⟩, va_recv hKc hPc (ci := 13) (q0 := 0) rfl rfl, fun U hU hW => ⟨rfl, by rw [hU], by rw [hU]; exact hPc, va_K.moved hW.alike hKc, hDc.weaken (fun _ _ _ _ => trivial)⟩⟩ rfl rfl hl.1 rfl (lv_room (Nat.le_of_ble_eq_true rfl)) dX13_route_3 ⟨(Nat.le_of_ble_eq_true rfl), (Nat.le_of_ble_eq_true rfl)⟩) hS (fun q _ h => hFc q h) hFc (fun r u t H1 locs ht hvm hw hB hz1 hk1 hS => ?_)
  subst hw
  obtain ⟨hP1, hK1, hD1⟩ := hB
  rw [ht] at hP1
  obtain ⟨hP, hD⟩ := va_join (wr := []) (w1 := [(m0, .inr (13, mg)), (mcA, .inl (mcC, (4, .inl (fun _ => 0))))]) hP hD [0, 1] [] rfl rfl (by decide) (by decide) hk1 hFc hP1 hD1
  have hP := hP.sub (ws' := [(m0, .inr (13, mg)), (mcA, .inl (mcC, (4, .inl (fun _ => 0))))]) [0, 1] rfl
  have hD := hD.sub (ws' := [(m0, .inr (13, mg)), (mcA, .inl (mcC, (4, .inl (fun _ => 0))))]) [0, 1] (by decide) rfl
  generalize H1 = H at hP hS ⊢
  have hP : va_P (dC, dI) CL [(m0, .inr (13, mg)), (mcA, .inl (mcC, (4, .inl (fun _ => 0))))] H := hP
  have hD : va_D A [(m0, .inr (13, mg)), (mcA, .inl (mcC, (4, .inl (fun _ => 0))))] := hD
  refine lv_if_ne (tgt := 13) hx hb dX13_route_6 (by decide) (fun c9 => ?_) (fun c9 => ?_)
  · first | exact absurd c9 (by decide +kernel) | exact absurd (by decide +kernel) c9
  refine lv_iconst (v := 1) hx hb dX13_route_9 (by decide +kernel) ?_
  refine lv_goto (tgt := 41) hx hb dX13_route_10 (by decide) ?_
  refine va_put (D := (dC, dI)) (ci := 13) (v := .int 1) (ty := tyX13 0) (C := RX13) (T := TX13) (N := 225) hx hb hts inX13 tyX13 tyX13_ok nmX13 hown hK hP hD hS 0 rfl rfl 0 (by decide) (hts (.fieldLink RX13 1 "ChipFlowModel" "code" "I") wd_3032) (fun _ h9 => h9) rfl (by decide +kernel) rfl rfl (by rw [hmg.1]; decide) dX13_route_41 (fun H locs hP hD hS => ?_)
  have hmg : fx (mg.set 0 (.int 1)) 225 [(0, .int 1), (138, .ref mcA)] := hmg.put (by decide) _ rfl
  obtain ⟨fs_1, e9⟩ : ∃ z, z = mg.set 0 (.int 1) := ⟨_, rfl⟩
  rw [← e9] at hmg
  have hP : va_P (dC, dI) CL [(m0, .inr (13, fs_1)), (mcA, .inl (mcC, (4, .inl (fun _ => 0))))] H := by rw [e9]; exact hP
  have hD : va_D A [(m0, .inr (13, fs_1)), (mcA, .inl (mcC, (4, .inl (fun _ => 0))))] := by rw [e9]; exact hD
  clear e9
  refine lv_aload_n hx hb dX13_route_44 rfl (lv_at hl 0 rfl) ?_
  refine va_get (D := (dC, dI)) (ci := 13) (v := .int 1) (C := RX13) (T := TX13) (N := 225) hx hb hts inX13 hown hK hP 0 rfl rfl 0 (by decide) (hts (.fieldLink RX13 1 "ChipFlowModel" "code" "I") wd_3032) (fun _ h9 => h9) (hmg.get 0 rfl) dX13_route_45 ?_
  refine lv_if_le (tgt := 53) hx hb dX13_route_48 (by decide) (fun c9 => ?_) (fun c9 => ?_)
  · first | exact absurd c9 (by decide +kernel) | exact absurd (by decide +kernel) c9
  refine lv_iconst (v := 0) hx hb dX13_route_51 (by decide +kernel) ?_
  exact W.iret (v := 0) hx hb hr (fun t ht hW => ⟨⟨0, (), rfl, rfl, fs_1, hmg.sub [0] rfl, by rw [ht]; exact hP.sub [0] rfl, va_K.moved hW.alike (hK.sub [] rfl), hD.sub [0] (by decide) rfl⟩, hS.F ht⟩) hS.2.2 dX13_route_52
set_option maxHeartbeats 4000000 in
set_option maxRecDepth 100000 in
theorem ct_X13_point (l : Launch) (dC : Nat → ClassId) (dI : Nat → Nat → Nat) (sz : Nat) (p0 : Int32) (p1 : Int32) (m0 : Nat) (mg : List Value) (mcA : Nat) (mcC : ClassId) (hmg : fx mg 225 [(138, .ref mcA)]) : Met l yX13_point (Cond.code yX13_point cX13_point 3 (some .int) :: BG) ({ frames := 2, cells := 0, slots := 0, locals := 33 }) (va_Pc [.ref m0, .int p0, .int p1] (fun U => U.heap.size = sz ∧ va_P (dC, dI) CL [(m0, .inr (13, mg)), (mcA, .inl (mcC, (4, .inl (fun _ => 0))))] U.heap ∧ va_K (dC, dI) CL [(mcC, .boolean)] U ∧ va_D (fun _ => True) [(m0, .inr (13, mg)), (mcA, .inl (mcC, (4, .inl (fun _ => 0))))])) (va_Qi (fun (r : Int32) (_ : Unit) => r = 0) (fun _ t => ∃ mg1 : List Value, fx mg1 225 [(0, .int 1)] ∧ va_P (dC, dI) CL [(m0, .inr (13, mg1))] t.heap ∧ va_K (dC, dI) CL [] t ∧ va_D (va_A [(m0, .inr (13, mg)), (mcA, .inl (mcC, (4, .inl (fun _ => 0))))] sz) [(m0, .inr (13, mg1))]) (va_A [(m0, .inr (13, mg)), (mcA, .inl (mcC, (4, .inl (fun _ => 0))))] sz)) 0 0 (va_A [(m0, .inr (13, mg)), (mcA, .inl (mcC, (4, .inl (fun _ => 0))))] sz) := by
  refine Met.ofW (cc := cX13_point) (maxL := 3) (ret := (some .int)) (by decide) rfl ?_
  intro p e s m args below meth c s₁ B hml hv
  obtain ⟨rfl, hsz, hP, hK, hD0⟩ := hv
  have hx := B.exec
  have hb := B.bytes
  have hr := B.returns
  have hts : ∀ w ∈ BG, w.before _ s = true := fun w h => atoms_spec (ws := Cond.code yX13_point cX13_point 3 (some .int) :: BG) B.pre w (List.mem_cons_of_mem _ h)
  have hown : s.vm.findClass RX13 = some m.cls := findClass_of_methodNamed B.named
  have hlocks := B.notSynchronized
  subst hsz
  have hD := hD0.self (sz := s.heap.size)
  generalize hAe : va_A [(m0, .inr (13, mg)), (mcA, .inl (mcC, (4, .inl (fun _ => 0))))] s.heap.size = A at hD ⊢
  have hA : ∀ q : Nat, s.heap.size ≤ q → A q := fun q h => by rw [← hAe]; exact Or.inr h
  have hS : va_S A s.heap s.heap [] := va_S.rf
  have hl := lv_entry ([.ref m0, .int p0, .int p1]) (n := 3) (Nat.le_of_ble_eq_true rfl)
  rw [lg_entry_eq]
  generalize (lg_sl ([.ref m0, .int p0, .int p1]) ++ List.replicate (3 - (lg_sl ([.ref m0, .int p0, .int p1])).length) Slot.unset).toArray = ls at hl ⊢
  have hl : lv_has ls 3 [(0, .ref m0), (1, .int p0), (2, .int p1)] := hl
  refine lv_aload_n hx hb dX13_point_0 rfl (lv_at hl 0 rfl) ?_
  refine lv_aload_n hx hb dX13_point_1 rfl (lv_at hl 0 rfl) ?_
  refine lv_iload_n hx hb dX13_point_2 rfl (lv_at hl 1 rfl) ?_
  have hPc := hP.sub (ws' := [(m0, .inr (13, mg)), (mcA, .inl (mcC, (4, .inl (fun _ => 0))))]) [0, 1] rfl
  have hDc := hD.sub (ws' := [(m0, .inr (13, mg)), (mcA, .inl (mcC, (4, .inl (fun _ => 0))))]) [0, 1] (by decide) rfl
  have hKc := hK.sub (tys' := [(mcC, .boolean)]) [0] rfl
  have hFc := va_free (wc := [(m0, .inr (13, mg)), (mcA, .inl (mcC, (4, .inl (fun _ => 0))))]) hD hS hA [0, 1] rfl
  refine va_calli (va_runV (As := [.int p0]) (rest := [.ref m0]) ⟨hx, hb, hml, hown, hts⟩ (ct_X13_isChip l dC dI _ p0 m0 mg mcA mcC (hmg.sub [0] rfl)) (cwV 1 hts (gi_V wd_4084 wd_4086 wd_217 wd_340 wd_4087) rfl rfl rfl (by decide +kernel) ⟨(Nat.le_of_ble_eq_true rfl), (Nat.le_of_ble_eq_true rfl)⟩) ⟨fun a U g mk q => by obtain ⟨q0, q1, qP, qK, qD⟩ := q; exact ⟨q0, q1, qP, va_K.moved (u := U) (U := U.calling g mk a) (Vm.Alike.refl U.vm) qK, qD⟩, va_recv hKc hPc (ci := 13) (q0 := 0) rfl rfl, fun U hU hW => ⟨rfl, by rw [hU], by rw [hU]; exact hPc, va_K.moved hW.alike hKc, hDc.weaken (fun _ _ _ _ => trivial)⟩⟩ rfl rfl hl.1 rfl (lv_room (Nat.le_of_ble_eq_true rfl)) dX13_point_3 ⟨(Nat.le_of_ble_eq_true rfl), (Nat.le_of_ble_eq_true rfl)⟩) hS (fun q _ h => hFc q h) hFc (fun r u t H1 locs ht hvm hw hB hz1 hk1 hS => ?_)
  subst hw
  obtain ⟨hP1, hK1, hD1⟩ := hB
  rw [ht] at hP1
  obtain ⟨hP, hD⟩ := va_join (wr := []) (w1 := [(m0, .inr (13, mg)), (mcA, .inl (mcC, (4, .inl (fun _ => 0))))]) hP hD [0, 1] [] rfl rfl (by decide) (by decide) hk1 hFc hP1 hD1
  have hP := hP.sub (ws' := [(m0, .inr (13, mg)), (mcA, .inl (mcC, (4, .inl (fun _ => 0))))]) [0, 1] rfl
  have hD := hD.sub (ws' := [(m0, .inr (13, mg)), (mcA, .inl (mcC, (4, .inl (fun _ => 0))))]) [0, 1] (by decide) rfl
  generalize H1 = H at hP hS ⊢
  have hP : va_P (dC, dI) CL [(m0, .inr (13, mg)), (mcA, .inl (mcC, (4, .inl (fun _ => 0))))] H := hP
  have hD : va_D A [(m0, .inr (13, mg)), (mcA, .inl (mcC, (4, .inl (fun _ => 0))))] := hD
  refine lv_if_eq (tgt := 13) hx hb dX13_point_6 (by decide) (fun c9 => ?_) (fun c9 => ?_)
  rotate_left
  · first | exact absurd c9 (by decide +kernel) | exact absurd (by decide +kernel) c9
  refine lv_iconst (v := 1) hx hb dX13_point_13 (by decide +kernel) ?_
  refine lv_goto (tgt := 55) hx hb dX13_point_14 (by decide) ?_
  refine va_put (D := (dC, dI)) (ci := 13) (v := .int 1) (ty := tyX13 0) (C := RX13) (T := TX13) (N := 225) hx hb hts inX13 tyX13 tyX13_ok nmX13 hown hK hP hD hS 0 rfl rfl 0 (by decide) (hts (.fieldLink RX13 1 "ChipFlowModel" "code" "I") wd_3032) (fun _ h9 => h9) rfl (by decide +kernel) rfl rfl (by rw [hmg.1]; decide) dX13_point_55 (fun H locs hP hD hS => ?_)
  have hmg : fx (mg.set 0 (.int 1)) 225 [(0, .int 1), (138, .ref mcA)] := hmg.put (by decide) _ rfl
  obtain ⟨fs_1, e9⟩ : ∃ z, z = mg.set 0 (.int 1) := ⟨_, rfl⟩
  rw [← e9] at hmg
  have hP : va_P (dC, dI) CL [(m0, .inr (13, fs_1)), (mcA, .inl (mcC, (4, .inl (fun _ => 0))))] H := by rw [e9]; exact hP
  have hD : va_D A [(m0, .inr (13, fs_1)), (mcA, .inl (mcC, (4, .inl (fun _ => 0))))] := by rw [e9]; exact hD
  clear e9
  refine lv_aload_n hx hb dX13_point_58 rfl (lv_at hl 0 rfl) ?_
  refine va_get (D := (dC, dI)) (ci := 13) (v := .int 1) (C := RX13) (T := TX13) (N := 225) hx hb hts inX13 hown hK hP 0 rfl rfl 0 (by decide) (hts (.fieldLink RX13 1 "ChipFlowModel" "code" "I") wd_3032) (fun _ h9 => h9) (hmg.get 0 rfl) dX13_point_59 ?_
  refine lv_if_le (tgt := 69) hx hb dX13_point_62 (by decide) (fun c9 => ?_) (fun c9 => ?_)
  · first | exact absurd c9 (by decide +kernel) | exact absurd (by decide +kernel) c9
  refine lv_iconst (v := 0) hx hb dX13_point_65 (by decide +kernel) ?_
  refine lv_goto (tgt := 81) hx hb dX13_point_66 (by decide) ?_
  exact W.iret (v := 0) hx hb hr (fun t ht hW => ⟨⟨0, (), rfl, rfl, fs_1, hmg.sub [0] rfl, by rw [ht]; exact hP.sub [0] rfl, va_K.moved hW.alike (hK.sub [] rfl), hD.sub [0] (by decide) rfl⟩, hS.F ht⟩) hS.2.2 dX13_point_81
set_option maxHeartbeats 4000000 in
set_option maxRecDepth 100000 in
theorem ct_X13_routed (l : Launch) (dC : Nat → ClassId) (dI : Nat → Nat → Nat) (sz : Nat) (p0 : Int32) (p1 : Int32) (p2 : Int32) (m0 : Nat) (mg : List Value) (mcA : Nat) (mcC : ClassId) (hmg : fx mg 225 [(138, .ref mcA)]) : Met l yX13_routed (Cond.code yX13_routed cX13_routed 9 (some .int) :: BG) ({ frames := 3, cells := 0, slots := 0, locals := 55 }) (va_Pc [.ref m0, .int p0, .int p1, .int p2] (fun U => U.heap.size = sz ∧ va_P (dC, dI) CL [(m0, .inr (13, mg)), (mcA, .inl (mcC, (4, .inl (fun _ => 0))))] U.heap ∧ va_K (dC, dI) CL [(mcC, .boolean)] U ∧ va_D (fun _ => True) [(m0, .inr (13, mg)), (mcA, .inl (mcC, (4, .inl (fun _ => 0))))])) (va_Qi (fun (r : Int32) (_ : Unit) => r = 0) (fun _ t => ∃ mg1 : List Value, fx mg1 225 [(0, .int 1)] ∧ va_P (dC, dI) CL [(m0, .inr (13, mg1))] t.heap ∧ va_K (dC, dI) CL [] t ∧ va_D (va_A [(m0, .inr (13, mg)), (mcA, .inl (mcC, (4, .inl (fun _ => 0))))] sz) [(m0, .inr (13, mg1))]) (va_A [(m0, .inr (13, mg)), (mcA, .inl (mcC, (4, .inl (fun _ => 0))))] sz)) 0 0 (va_A [(m0, .inr (13, mg)), (mcA, .inl (mcC, (4, .inl (fun _ => 0))))] sz) := by
  refine Met.ofW (cc := cX13_routed) (maxL := 9) (ret := (some .int)) (by decide) rfl ?_
  intro p e s m args below meth c s₁ B hml hv
  obtain ⟨rfl, hsz, hP, hK, hD0⟩ := hv
  have hx := B.exec
  have hb := B.bytes
  have hr := B.returns
  have hts : ∀ w ∈ BG, w.before _ s = true := fun w h => atoms_spec (ws := Cond.code yX13_routed cX13_routed 9 (some .int) :: BG) B.pre w (List.mem_cons_of_mem _ h)
  have hown : s.vm.findClass RX13 = some m.cls := findClass_of_methodNamed B.named
  have hlocks := B.notSynchronized
  subst hsz
  have hD := hD0.self (sz := s.heap.size)
  generalize hAe : va_A [(m0, .inr (13, mg)), (mcA, .inl (mcC, (4, .inl (fun _ => 0))))] s.heap.size = A at hD ⊢
  have hA : ∀ q : Nat, s.heap.size ≤ q → A q := fun q h => by rw [← hAe]; exact Or.inr h
  have hS : va_S A s.heap s.heap [] := va_S.rf
  have hl := lv_entry ([.ref m0, .int p0, .int p1, .int p2]) (n := 9) (Nat.le_of_ble_eq_true rfl)
  rw [lg_entry_eq]
  generalize (lg_sl ([.ref m0, .int p0, .int p1, .int p2]) ++ List.replicate (9 - (lg_sl ([.ref m0, .int p0, .int p1, .int p2])).length) Slot.unset).toArray = ls at hl ⊢
  have hl : lv_has ls 9 [(0, .ref m0), (1, .int p0), (2, .int p1), (3, .int p2)] := hl
  refine lv_aload_n hx hb dX13_routed_0 rfl (lv_at hl 0 rfl) ?_
  refine lv_aload_n hx hb dX13_routed_1 rfl (lv_at hl 0 rfl) ?_
  refine lv_iload_n hx hb dX13_routed_2 rfl (lv_at hl 1 rfl) ?_
  refine lv_iload_n hx hb dX13_routed_3 rfl (lv_at hl 2 rfl) ?_
  have hPc := hP.sub (ws' := [(m0, .inr (13, mg)), (mcA, .inl (mcC, (4, .inl (fun _ => 0))))]) [0, 1] rfl
  have hDc := hD.sub (ws' := [(m0, .inr (13, mg)), (mcA, .inl (mcC, (4, .inl (fun _ => 0))))]) [0, 1] (by decide) rfl
  have hKc := hK.sub (tys' := [(mcC, .boolean)]) [0] rfl
  have hFc := va_free (wc := [(m0, .inr (13, mg)), (mcA, .inl (mcC, (4, .inl (fun _ => 0))))]) hD hS hA [0, 1] rfl
  refine va_calli (va_runV (As := [.int p0, .int p1]) (rest := [.ref m0]) ⟨hx, hb, hml, hown, hts⟩ (ct_X13_isNet l dC dI _ p0 p1 m0 mg mcA mcC (hmg.sub [0] rfl)) (cwV 2 hts (gi_V wd_4397 wd_4399 wd_267 wd_340 wd_4400) rfl rfl rfl (by decide +kernel) ⟨(Nat.le_of_ble_eq_true rfl), (Nat.le_of_ble_eq_true rfl)⟩) ⟨fun a U g mk q => by obtain ⟨q0, q1, qP, qK, qD⟩ := q; exact ⟨q0, q1, qP, va_K.moved (u := U) (U := U.calling g mk a) (Vm.Alike.refl U.vm) qK, qD⟩, va_recv hKc hPc (ci := 13) (q0 := 0) rfl rfl, fun U hU hW => ⟨rfl, by rw [hU], by rw [hU]; exact hPc, va_K.moved hW.alike hKc, hDc.weaken (fun _ _ _ _ => trivial)⟩⟩ rfl rfl hl.1 rfl (lv_room (Nat.le_of_ble_eq_true rfl)) dX13_routed_4 ⟨(Nat.le_of_ble_eq_true rfl), (Nat.le_of_ble_eq_true rfl)⟩) hS (fun q _ h => hFc q h) hFc (fun r u t H1 locs ht hvm hw hB hz1 hk1 hS => ?_)
  subst hw
  obtain ⟨hP1, hK1, hD1⟩ := hB
  rw [ht] at hP1
  obtain ⟨hP, hD⟩ := va_join (wr := []) (w1 := [(m0, .inr (13, mg)), (mcA, .inl (mcC, (4, .inl (fun _ => 0))))]) hP hD [0, 1] [] rfl rfl (by decide) (by decide) hk1 hFc hP1 hD1
  have hP := hP.sub (ws' := [(m0, .inr (13, mg)), (mcA, .inl (mcC, (4, .inl (fun _ => 0))))]) [0, 1] rfl
  have hD := hD.sub (ws' := [(m0, .inr (13, mg)), (mcA, .inl (mcC, (4, .inl (fun _ => 0))))]) [0, 1] (by decide) rfl
  generalize H1 = H at hP hS ⊢
  have hP : va_P (dC, dI) CL [(m0, .inr (13, mg)), (mcA, .inl (mcC, (4, .inl (fun _ => 0))))] H := hP
  have hD : va_D A [(m0, .inr (13, mg)), (mcA, .inl (mcC, (4, .inl (fun _ => 0))))] := hD
  refine lv_if_ne (tgt := 14) hx hb dX13_routed_7 (by decide) (fun c9 => ?_) (fun c9 => ?_)
  · first | exact absurd c9 (by decide +kernel) | exact absurd (by decide +kernel) c9
  refine lv_iconst (v := 1) hx hb dX13_routed_10 (by decide +kernel) ?_
  refine lv_goto (tgt := 41) hx hb dX13_routed_11 (by decide) ?_
  refine va_put (D := (dC, dI)) (ci := 13) (v := .int 1) (ty := tyX13 0) (C := RX13) (T := TX13) (N := 225) hx hb hts inX13 tyX13 tyX13_ok nmX13 hown hK hP hD hS 0 rfl rfl 0 (by decide) (hts (.fieldLink RX13 1 "ChipFlowModel" "code" "I") wd_3032) (fun _ h9 => h9) rfl (by decide +kernel) rfl rfl (by rw [hmg.1]; decide) dX13_routed_41 (fun H locs hP hD hS => ?_)
  have hmg : fx (mg.set 0 (.int 1)) 225 [(0, .int 1), (138, .ref mcA)] := hmg.put (by decide) _ rfl
  obtain ⟨fs_1, e9⟩ : ∃ z, z = mg.set 0 (.int 1) := ⟨_, rfl⟩
  rw [← e9] at hmg
  have hP : va_P (dC, dI) CL [(m0, .inr (13, fs_1)), (mcA, .inl (mcC, (4, .inl (fun _ => 0))))] H := by rw [e9]; exact hP
  have hD : va_D A [(m0, .inr (13, fs_1)), (mcA, .inl (mcC, (4, .inl (fun _ => 0))))] := by rw [e9]; exact hD
  clear e9
  refine lv_aload_n hx hb dX13_routed_44 rfl (lv_at hl 0 rfl) ?_
  refine va_get (D := (dC, dI)) (ci := 13) (v := .int 1) (C := RX13) (T := TX13) (N := 225) hx hb hts inX13 hown hK hP 0 rfl rfl 0 (by decide) (hts (.fieldLink RX13 1 "ChipFlowModel" "code" "I") wd_3032) (fun _ h9 => h9) (hmg.get 0 rfl) dX13_routed_45 ?_
  refine lv_if_le (tgt := 53) hx hb dX13_routed_48 (by decide) (fun c9 => ?_) (fun c9 => ?_)
  · first | exact absurd c9 (by decide +kernel) | exact absurd (by decide +kernel) c9
  refine lv_iconst (v := 0) hx hb dX13_routed_51 (by decide +kernel) ?_
  exact W.iret (v := 0) hx hb hr (fun t ht hW => ⟨⟨0, (), rfl, rfl, fs_1, hmg.sub [0] rfl, by rw [ht]; exact hP.sub [0] rfl, va_K.moved hW.alike (hK.sub [] rfl), hD.sub [0] (by decide) rfl⟩, hS.F ht⟩) hS.2.2 dX13_routed_52
set_option maxHeartbeats 4000000 in
set_option maxRecDepth 100000 in
theorem ct_X13_draw (l : Launch) (dC : Nat → ClassId) (dI : Nat → Nat → Nat) (sz : Nat) (p0 : Int32) (m0 : Nat) (mg : List Value) (mcA : Nat) (mcC : ClassId) (hmg : fx mg 225 [(138, .ref mcA)]) : Met l yX13_draw (Cond.code yX13_draw cX13_draw 2 (some .int) :: BG) ({ frames := 2, cells := 0, slots := 0, locals := 33 }) (va_Pc [.ref m0, .int p0] (fun U => U.heap.size = sz ∧ va_P (dC, dI) CL [(m0, .inr (13, mg)), (mcA, .inl (mcC, (4, .inl (fun _ => 0))))] U.heap ∧ va_K (dC, dI) CL [(mcC, .boolean)] U ∧ va_D (fun _ => True) [(m0, .inr (13, mg)), (mcA, .inl (mcC, (4, .inl (fun _ => 0))))])) (va_Qi (fun (r : Int32) (_ : Unit) => r = 0) (fun _ t => ∃ mg1 : List Value, fx mg1 225 [(0, .int 1)] ∧ va_P (dC, dI) CL [(m0, .inr (13, mg1))] t.heap ∧ va_K (dC, dI) CL [] t ∧ va_D (va_A [(m0, .inr (13, mg)), (mcA, .inl (mcC, (4, .inl (fun _ => 0))))] sz) [(m0, .inr (13, mg1))]) (va_A [(m0, .inr (13, mg)), (mcA, .inl (mcC, (4, .inl (fun _ => 0))))] sz)) 0 0 (va_A [(m0, .inr (13, mg)), (mcA, .inl (mcC, (4, .inl (fun _ => 0))))] sz) := by
  refine Met.ofW (cc := cX13_draw) (maxL := 2) (ret := (some .int)) (by decide) rfl ?_
  intro p e s m args below meth c s₁ B hml hv
  obtain ⟨rfl, hsz, hP, hK, hD0⟩ := hv
  have hx := B.exec
  have hb := B.bytes
  have hr := B.returns
  have hts : ∀ w ∈ BG, w.before _ s = true := fun w h => atoms_spec (ws := Cond.code yX13_draw cX13_draw 2 (some .int) :: BG) B.pre w (List.mem_cons_of_mem _ h)
  have hown : s.vm.findClass RX13 = some m.cls := findClass_of_methodNamed B.named
  have hlocks := B.notSynchronized
  subst hsz
  have hD := hD0.self (sz := s.heap.size)
  generalize hAe : va_A [(m0, .inr (13, mg)), (mcA, .inl (mcC, (4, .inl (fun _ => 0))))] s.heap.size = A at hD ⊢
  have hA : ∀ q : Nat, s.heap.size ≤ q → A q := fun q h => by rw [← hAe]; exact Or.inr h
  have hS : va_S A s.heap s.heap [] := va_S.rf
  have hl := lv_entry ([.ref m0, .int p0]) (n := 2) (Nat.le_of_ble_eq_true rfl)
  rw [lg_entry_eq]
  generalize (lg_sl ([.ref m0, .int p0]) ++ List.replicate (2 - (lg_sl ([.ref m0, .int p0])).length) Slot.unset).toArray = ls at hl ⊢
  have hl : lv_has ls 2 [(0, .ref m0), (1, .int p0)] := hl
  refine lv_aload_n hx hb dX13_draw_0 rfl (lv_at hl 0 rfl) ?_
  refine lv_aload_n hx hb dX13_draw_1 rfl (lv_at hl 0 rfl) ?_
  refine lv_iload_n hx hb dX13_draw_2 rfl (lv_at hl 1 rfl) ?_
  have hPc := hP.sub (ws' := [(m0, .inr (13, mg)), (mcA, .inl (mcC, (4, .inl (fun _ => 0))))]) [0, 1] rfl
  have hDc := hD.sub (ws' := [(m0, .inr (13, mg)), (mcA, .inl (mcC, (4, .inl (fun _ => 0))))]) [0, 1] (by decide) rfl
  have hKc := hK.sub (tys' := [(mcC, .boolean)]) [0] rfl
  have hFc := va_free (wc := [(m0, .inr (13, mg)), (mcA, .inl (mcC, (4, .inl (fun _ => 0))))]) hD hS hA [0, 1] rfl
  refine va_calli (va_runV (As := [.int p0]) (rest := [.ref m0]) ⟨hx, hb, hml, hown, hts⟩ (ct_X13_isChip l dC dI _ p0 m0 mg mcA mcC (hmg.sub [0] rfl)) (cwV 1 hts (gi_V wd_4084 wd_4086 wd_217 wd_340 wd_4087) rfl rfl rfl (by decide +kernel) ⟨(Nat.le_of_ble_eq_true rfl), (Nat.le_of_ble_eq_true rfl)⟩) ⟨fun a U g mk q => by obtain ⟨q0, q1, qP, qK, qD⟩ := q; exact ⟨q0, q1, qP, va_K.moved (u := U) (U := U.calling g mk a) (Vm.Alike.refl U.vm) qK, qD⟩, va_recv hKc hPc (ci := 13) (q0 := 0) rfl rfl, fun U hU hW => ⟨rfl, by rw [hU], by rw [hU]; exact hPc, va_K.moved hW.alike hKc, hDc.weaken (fun _ _ _ _ => trivial)⟩⟩ rfl rfl hl.1 rfl (lv_room (Nat.le_of_ble_eq_true rfl)) dX13_draw_3 ⟨(Nat.le_of_ble_eq_true rfl), (Nat.le_of_ble_eq_true rfl)⟩) hS (fun q _ h => hFc q h) hFc (fun r u t H1 locs ht hvm hw hB hz1 hk1 hS => ?_)
  subst hw
  obtain ⟨hP1, hK1, hD1⟩ := hB
  rw [ht] at hP1
  obtain ⟨hP, hD⟩ := va_join (wr := []) (w1 := [(m0, .inr (13, mg)), (mcA, .inl (mcC, (4, .inl (fun _ => 0))))]) hP hD [0, 1] [] rfl rfl (by decide) (by decide) hk1 hFc hP1 hD1
  have hP := hP.sub (ws' := [(m0, .inr (13, mg)), (mcA, .inl (mcC, (4, .inl (fun _ => 0))))]) [0, 1] rfl
  have hD := hD.sub (ws' := [(m0, .inr (13, mg)), (mcA, .inl (mcC, (4, .inl (fun _ => 0))))]) [0, 1] (by decide) rfl
  generalize H1 = H at hP hS ⊢
  have hP : va_P (dC, dI) CL [(m0, .inr (13, mg)), (mcA, .inl (mcC, (4, .inl (fun _ => 0))))] H := hP
  have hD : va_D A [(m0, .inr (13, mg)), (mcA, .inl (mcC, (4, .inl (fun _ => 0))))] := hD
  refine lv_if_ne (tgt := 13) hx hb dX13_draw_6 (by decide) (fun c9 => ?_) (fun c9 => ?_)
  · first | exact absurd c9 (by decide +kernel) | exact absurd (by decide +kernel) c9
  refine lv_iconst (v := 1) hx hb dX13_draw_9 (by decide +kernel) ?_
  refine lv_goto (tgt := 27) hx hb dX13_draw_10 (by decide) ?_
  refine va_put (D := (dC, dI)) (ci := 13) (v := .int 1) (ty := tyX13 0) (C := RX13) (T := TX13) (N := 225) hx hb hts inX13 tyX13 tyX13_ok nmX13 hown hK hP hD hS 0 rfl rfl 0 (by decide) (hts (.fieldLink RX13 1 "ChipFlowModel" "code" "I") wd_3032) (fun _ h9 => h9) rfl (by decide +kernel) rfl rfl (by rw [hmg.1]; decide) dX13_draw_27 (fun H locs hP hD hS => ?_)
  have hmg : fx (mg.set 0 (.int 1)) 225 [(0, .int 1), (138, .ref mcA)] := hmg.put (by decide) _ rfl
  obtain ⟨fs_1, e9⟩ : ∃ z, z = mg.set 0 (.int 1) := ⟨_, rfl⟩
  rw [← e9] at hmg
  have hP : va_P (dC, dI) CL [(m0, .inr (13, fs_1)), (mcA, .inl (mcC, (4, .inl (fun _ => 0))))] H := by rw [e9]; exact hP
  have hD : va_D A [(m0, .inr (13, fs_1)), (mcA, .inl (mcC, (4, .inl (fun _ => 0))))] := by rw [e9]; exact hD
  clear e9
  refine lv_aload_n hx hb dX13_draw_30 rfl (lv_at hl 0 rfl) ?_
  refine va_get (D := (dC, dI)) (ci := 13) (v := .int 1) (C := RX13) (T := TX13) (N := 225) hx hb hts inX13 hown hK hP 0 rfl rfl 0 (by decide) (hts (.fieldLink RX13 1 "ChipFlowModel" "code" "I") wd_3032) (fun _ h9 => h9) (hmg.get 0 rfl) dX13_draw_31 ?_
  refine lv_if_le (tgt := 39) hx hb dX13_draw_34 (by decide) (fun c9 => ?_) (fun c9 => ?_)
  · first | exact absurd c9 (by decide +kernel) | exact absurd (by decide +kernel) c9
  refine lv_iconst (v := 0) hx hb dX13_draw_37 (by decide +kernel) ?_
  exact W.iret (v := 0) hx hb hr (fun t ht hW => ⟨⟨0, (), rfl, rfl, fs_1, hmg.sub [0] rfl, by rw [ht]; exact hP.sub [0] rfl, va_K.moved hW.alike (hK.sub [] rfl), hD.sub [0] (by decide) rfl⟩, hS.F ht⟩) hS.2.2 dX13_draw_38
set_option maxHeartbeats 4000000 in
set_option maxRecDepth 100000 in
theorem ct_X13_box (l : Launch) (dC : Nat → ClassId) (dI : Nat → Nat → Nat) (sz : Nat) (p0 : Int32) (p1 : Int32) (p2 : Int32) (m0 : Nat) (mg : List Value) (mcA : Nat) (mcC : ClassId) (hmg : fx mg 225 [(138, .ref mcA)]) : Met l yX13_box (Cond.code yX13_box cX13_box 4 (some .int) :: BG) ({ frames := 2, cells := 0, slots := 0, locals := 33 }) (va_Pc [.ref m0, .int p0, .int p1, .int p2] (fun U => U.heap.size = sz ∧ va_P (dC, dI) CL [(m0, .inr (13, mg)), (mcA, .inl (mcC, (4, .inl (fun _ => 0))))] U.heap ∧ va_K (dC, dI) CL [(mcC, .boolean)] U ∧ va_D (fun _ => True) [(m0, .inr (13, mg)), (mcA, .inl (mcC, (4, .inl (fun _ => 0))))])) (va_Qi (fun (r : Int32) (_ : Unit) => r = 0) (fun _ t => ∃ mg1 : List Value, fx mg1 225 [(0, .int 1)] ∧ va_P (dC, dI) CL [(m0, .inr (13, mg1))] t.heap ∧ va_K (dC, dI) CL [] t ∧ va_D (va_A [(m0, .inr (13, mg)), (mcA, .inl (mcC, (4, .inl (fun _ => 0))))] sz) [(m0, .inr (13, mg1))]) (va_A [(m0, .inr (13, mg)), (mcA, .inl (mcC, (4, .inl (fun _ => 0))))] sz)) 0 0 (va_A [(m0, .inr (13, mg)), (mcA, .inl (mcC, (4, .inl (fun _ => 0))))] sz) := by
  refine Met.ofW (cc := cX13_box) (maxL := 4) (ret := (some .int)) (by decide) rfl ?_
  intro p e s m args below meth c s₁ B hml hv
  obtain ⟨rfl, hsz, hP, hK, hD0⟩ := hv
  have hx := B.exec
  have hb := B.bytes
  have hr := B.returns
  have hts : ∀ w ∈ BG, w.before _ s = true := fun w h => atoms_spec (ws := Cond.code yX13_box cX13_box 4 (some .int) :: BG) B.pre w (List.mem_cons_of_mem _ h)
  have hown : s.vm.findClass RX13 = some m.cls := findClass_of_methodNamed B.named
  have hlocks := B.notSynchronized
  subst hsz
  have hD := hD0.self (sz := s.heap.size)
  generalize hAe : va_A [(m0, .inr (13, mg)), (mcA, .inl (mcC, (4, .inl (fun _ => 0))))] s.heap.size = A at hD ⊢
  have hA : ∀ q : Nat, s.heap.size ≤ q → A q := fun q h => by rw [← hAe]; exact Or.inr h
  have hS : va_S A s.heap s.heap [] := va_S.rf
  have hl := lv_entry ([.ref m0, .int p0, .int p1, .int p2]) (n := 4) (Nat.le_of_ble_eq_true rfl)
  rw [lg_entry_eq]
  generalize (lg_sl ([.ref m0, .int p0, .int p1, .int p2]) ++ List.replicate (4 - (lg_sl ([.ref m0, .int p0, .int p1, .int p2])).length) Slot.unset).toArray = ls at hl ⊢
  have hl : lv_has ls 4 [(0, .ref m0), (1, .int p0), (2, .int p1), (3, .int p2)] := hl
  refine lv_aload_n hx hb dX13_box_0 rfl (lv_at hl 0 rfl) ?_
  refine lv_aload_n hx hb dX13_box_1 rfl (lv_at hl 0 rfl) ?_
  refine lv_iload_n hx hb dX13_box_2 rfl (lv_at hl 1 rfl) ?_
  have hPc := hP.sub (ws' := [(m0, .inr (13, mg)), (mcA, .inl (mcC, (4, .inl (fun _ => 0))))]) [0, 1] rfl
  have hDc := hD.sub (ws' := [(m0, .inr (13, mg)), (mcA, .inl (mcC, (4, .inl (fun _ => 0))))]) [0, 1] (by decide) rfl
  have hKc := hK.sub (tys' := [(mcC, .boolean)]) [0] rfl
  have hFc := va_free (wc := [(m0, .inr (13, mg)), (mcA, .inl (mcC, (4, .inl (fun _ => 0))))]) hD hS hA [0, 1] rfl
  refine va_calli (va_runV (As := [.int p0]) (rest := [.ref m0]) ⟨hx, hb, hml, hown, hts⟩ (ct_X13_isChip l dC dI _ p0 m0 mg mcA mcC (hmg.sub [0] rfl)) (cwV 1 hts (gi_V wd_4084 wd_4086 wd_217 wd_340 wd_4087) rfl rfl rfl (by decide +kernel) ⟨(Nat.le_of_ble_eq_true rfl), (Nat.le_of_ble_eq_true rfl)⟩) ⟨fun a U g mk q => by obtain ⟨q0, q1, qP, qK, qD⟩ := q; exact ⟨q0, q1, qP, va_K.moved (u := U) (U := U.calling g mk a) (Vm.Alike.refl U.vm) qK, qD⟩, va_recv hKc hPc (ci := 13) (q0 := 0) rfl rfl, fun U hU hW => ⟨rfl, by rw [hU], by rw [hU]; exact hPc, va_K.moved hW.alike hKc, hDc.weaken (fun _ _ _ _ => trivial)⟩⟩ rfl rfl hl.1 rfl (lv_room (Nat.le_of_ble_eq_true rfl)) dX13_box_3 ⟨(Nat.le_of_ble_eq_true rfl), (Nat.le_of_ble_eq_true rfl)⟩) hS (fun q _ h => hFc q h) hFc (fun r u t H1 locs ht hvm hw hB hz1 hk1 hS => ?_)
  subst hw
  obtain ⟨hP1, hK1, hD1⟩ := hB
  rw [ht] at hP1
  obtain ⟨hP, hD⟩ := va_join (wr := []) (w1 := [(m0, .inr (13, mg)), (mcA, .inl (mcC, (4, .inl (fun _ => 0))))]) hP hD [0, 1] [] rfl rfl (by decide) (by decide) hk1 hFc hP1 hD1
  have hP := hP.sub (ws' := [(m0, .inr (13, mg)), (mcA, .inl (mcC, (4, .inl (fun _ => 0))))]) [0, 1] rfl
  have hD := hD.sub (ws' := [(m0, .inr (13, mg)), (mcA, .inl (mcC, (4, .inl (fun _ => 0))))]) [0, 1] (by decide) rfl
  generalize H1 = H at hP hS ⊢
  have hP : va_P (dC, dI) CL [(m0, .inr (13, mg)), (mcA, .inl (mcC, (4, .inl (fun _ => 0))))] H := hP
  have hD : va_D A [(m0, .inr (13, mg)), (mcA, .inl (mcC, (4, .inl (fun _ => 0))))] := hD
  refine lv_if_eq (tgt := 37) hx hb dX13_box_6 (by decide) (fun c9 => ?_) (fun c9 => ?_)
  rotate_left
  · first | exact absurd c9 (by decide +kernel) | exact absurd (by decide +kernel) c9
  refine lv_iconst (v := 1) hx hb dX13_box_37 (by decide +kernel) ?_
  refine lv_goto (tgt := 77) hx hb dX13_box_38 (by decide) ?_
  refine va_put (D := (dC, dI)) (ci := 13) (v := .int 1) (ty := tyX13 0) (C := RX13) (T := TX13) (N := 225) hx hb hts inX13 tyX13 tyX13_ok nmX13 hown hK hP hD hS 0 rfl rfl 0 (by decide) (hts (.fieldLink RX13 1 "ChipFlowModel" "code" "I") wd_3032) (fun _ h9 => h9) rfl (by decide +kernel) rfl rfl (by rw [hmg.1]; decide) dX13_box_77 (fun H locs hP hD hS => ?_)
  have hmg : fx (mg.set 0 (.int 1)) 225 [(0, .int 1), (138, .ref mcA)] := hmg.put (by decide) _ rfl
  obtain ⟨fs_1, e9⟩ : ∃ z, z = mg.set 0 (.int 1) := ⟨_, rfl⟩
  rw [← e9] at hmg
  have hP : va_P (dC, dI) CL [(m0, .inr (13, fs_1)), (mcA, .inl (mcC, (4, .inl (fun _ => 0))))] H := by rw [e9]; exact hP
  have hD : va_D A [(m0, .inr (13, fs_1)), (mcA, .inl (mcC, (4, .inl (fun _ => 0))))] := by rw [e9]; exact hD
  clear e9
  refine lv_aload_n hx hb dX13_box_80 rfl (lv_at hl 0 rfl) ?_
  refine va_get (D := (dC, dI)) (ci := 13) (v := .int 1) (C := RX13) (T := TX13) (N := 225) hx hb hts inX13 hown hK hP 0 rfl rfl 0 (by decide) (hts (.fieldLink RX13 1 "ChipFlowModel" "code" "I") wd_3032) (fun _ h9 => h9) (hmg.get 0 rfl) dX13_box_81 ?_
  refine lv_if_le (tgt := 89) hx hb dX13_box_84 (by decide) (fun c9 => ?_) (fun c9 => ?_)
  · first | exact absurd c9 (by decide +kernel) | exact absurd (by decide +kernel) c9
  refine lv_iconst (v := 0) hx hb dX13_box_87 (by decide +kernel) ?_
  exact W.iret (v := 0) hx hb hr (fun t ht hW => ⟨⟨0, (), rfl, rfl, fs_1, hmg.sub [0] rfl, by rw [ht]; exact hP.sub [0] rfl, va_K.moved hW.alike (hK.sub [] rfl), hD.sub [0] (by decide) rfl⟩, hS.F ht⟩) hS.2.2 dX13_box_88
set_option maxHeartbeats 4000000 in
set_option maxRecDepth 100000 in
theorem ct_X13_add (l : Launch) (dC : Nat → ClassId) (dI : Nat → Nat → Nat) (sz : Nat) (p0 : Int32) (p1 : Int32) (p2 : Int32) (p3 : Int32) (p4 : Int32) (p5 : Int32) (m0 : Nat) (mg : List Value) (mcA : Nat) (mcC : ClassId) (hmg : fx mg 225 [(138, .ref mcA)]) : Met l yX13_add (Cond.code yX13_add cX13_add 7 (some .int) :: BG) ({ frames := 2, cells := 0, slots := 0, locals := 33 }) (va_Pc [.ref m0, .int p0, .int p1, .int p2, .int p3, .int p4, .int p5] (fun U => U.heap.size = sz ∧ va_P (dC, dI) CL [(m0, .inr (13, mg)), (mcA, .inl (mcC, (4, .inl (fun _ => 0))))] U.heap ∧ va_K (dC, dI) CL [(mcC, .boolean)] U ∧ va_D (fun _ => True) [(m0, .inr (13, mg)), (mcA, .inl (mcC, (4, .inl (fun _ => 0))))])) (va_Qi (fun (r : Int32) (_ : Unit) => r = 0) (fun _ t => ∃ mg1 : List Value, fx mg1 225 [(0, .int 1)] ∧ va_P (dC, dI) CL [(m0, .inr (13, mg1))] t.heap ∧ va_K (dC, dI) CL [] t ∧ va_D (va_A [(m0, .inr (13, mg)), (mcA, .inl (mcC, (4, .inl (fun _ => 0))))] sz) [(m0, .inr (13, mg1))]) (va_A [(m0, .inr (13, mg)), (mcA, .inl (mcC, (4, .inl (fun _ => 0))))] sz)) 0 0 (va_A [(m0, .inr (13, mg)), (mcA, .inl (mcC, (4, .inl (fun _ => 0))))] sz) := by
  refine Met.ofW (cc := cX13_add) (maxL := 7) (ret := (some .int)) (by decide) rfl ?_
  intro p e s m args below meth c s₁ B hml hv
  obtain ⟨rfl, hsz, hP, hK, hD0⟩ := hv
  have hx := B.exec
  have hb := B.bytes
  have hr := B.returns
  have hts : ∀ w ∈ BG, w.before _ s = true := fun w h => atoms_spec (ws := Cond.code yX13_add cX13_add 7 (some .int) :: BG) B.pre w (List.mem_cons_of_mem _ h)
  have hown : s.vm.findClass RX13 = some m.cls := findClass_of_methodNamed B.named
  have hlocks := B.notSynchronized
  subst hsz
  have hD := hD0.self (sz := s.heap.size)
  generalize hAe : va_A [(m0, .inr (13, mg)), (mcA, .inl (mcC, (4, .inl (fun _ => 0))))] s.heap.size = A at hD ⊢
  have hA : ∀ q : Nat, s.heap.size ≤ q → A q := fun q h => by rw [← hAe]; exact Or.inr h
  have hS : va_S A s.heap s.heap [] := va_S.rf
  have hl := lv_entry ([.ref m0, .int p0, .int p1, .int p2, .int p3, .int p4, .int p5]) (n := 7) (Nat.le_of_ble_eq_true rfl)
  rw [lg_entry_eq]
  generalize (lg_sl ([.ref m0, .int p0, .int p1, .int p2, .int p3, .int p4, .int p5]) ++ List.replicate (7 - (lg_sl ([.ref m0, .int p0, .int p1, .int p2, .int p3, .int p4, .int p5])).length) Slot.unset).toArray = ls at hl ⊢
  have hl : lv_has ls 7 [(0, .ref m0), (1, .int p0), (2, .int p1), (3, .int p2), (4, .int p3), (5, .int p4), (6, .int p5)] := hl
  refine lv_aload_n hx hb dX13_add_0 rfl (lv_at hl 0 rfl) ?_
  refine lv_aload_n hx hb dX13_add_1 rfl (lv_at hl 0 rfl) ?_
  refine lv_iload_n hx hb dX13_add_2 rfl (lv_at hl 1 rfl) ?_
  have hPc := hP.sub (ws' := [(m0, .inr (13, mg)), (mcA, .inl (mcC, (4, .inl (fun _ => 0))))]) [0, 1] rfl
  have hDc := hD.sub (ws' := [(m0, .inr (13, mg)), (mcA, .inl (mcC, (4, .inl (fun _ => 0))))]) [0, 1] (by decide) rfl
  have hKc := hK.sub (tys' := [(mcC, .boolean)]) [0] rfl
  have hFc := va_free (wc := [(m0, .inr (13, mg)), (mcA, .inl (mcC, (4, .inl (fun _ => 0))))]) hD hS hA [0, 1] rfl
  refine va_calli (va_runV (As := [.int p0]) (rest := [.ref m0]) ⟨hx, hb, hml, hown, hts⟩ (ct_X13_isChip l dC dI _ p0 m0 mg mcA mcC (hmg.sub [0] rfl)) (cwV 1 hts (gi_V wd_4084 wd_4086 wd_217 wd_340 wd_4087) rfl rfl rfl (by decide +kernel) ⟨(Nat.le_of_ble_eq_true rfl), (Nat.le_of_ble_eq_true rfl)⟩) ⟨fun a U g mk q => by obtain ⟨q0, q1, qP, qK, qD⟩ := q; exact ⟨q0, q1, qP, va_K.moved (u := U) (U := U.calling g mk a) (Vm.Alike.refl U.vm) qK, qD⟩, va_recv hKc hPc (ci := 13) (q0 := 0) rfl rfl, fun U hU hW => ⟨rfl, by rw [hU], by rw [hU]; exact hPc, va_K.moved hW.alike hKc, hDc.weaken (fun _ _ _ _ => trivial)⟩⟩ rfl rfl hl.1 rfl (lv_room (Nat.le_of_ble_eq_true rfl)) dX13_add_3 ⟨(Nat.le_of_ble_eq_true rfl), (Nat.le_of_ble_eq_true rfl)⟩) hS (fun q _ h => hFc q h) hFc (fun r u t H1 locs ht hvm hw hB hz1 hk1 hS => ?_)
  subst hw
  obtain ⟨hP1, hK1, hD1⟩ := hB
  rw [ht] at hP1
  obtain ⟨hP, hD⟩ := va_join (wr := []) (w1 := [(m0, .inr (13, mg)), (mcA, .inl (mcC, (4, .inl (fun _ => 0))))]) hP hD [0, 1] [] rfl rfl (by decide) (by decide) hk1 hFc hP1 hD1
  have hP := hP.sub (ws' := [(m0, .inr (13, mg)), (mcA, .inl (mcC, (4, .inl (fun _ => 0))))]) [0, 1] rfl
  have hD := hD.sub (ws' := [(m0, .inr (13, mg)), (mcA, .inl (mcC, (4, .inl (fun _ => 0))))]) [0, 1] (by decide) rfl
  generalize H1 = H at hP hS ⊢
  have hP : va_P (dC, dI) CL [(m0, .inr (13, mg)), (mcA, .inl (mcC, (4, .inl (fun _ => 0))))] H := hP
  have hD : va_D A [(m0, .inr (13, mg)), (mcA, .inl (mcC, (4, .inl (fun _ => 0))))] := hD
  refine lv_if_ne (tgt := 13) hx hb dX13_add_6 (by decide) (fun c9 => ?_) (fun c9 => ?_)
  · first | exact absurd c9 (by decide +kernel) | exact absurd (by decide +kernel) c9
  refine lv_iconst (v := 1) hx hb dX13_add_9 (by decide +kernel) ?_
  refine lv_goto (tgt := 75) hx hb dX13_add_10 (by decide) ?_
  refine va_put (D := (dC, dI)) (ci := 13) (v := .int 1) (ty := tyX13 0) (C := RX13) (T := TX13) (N := 225) hx hb hts inX13 tyX13 tyX13_ok nmX13 hown hK hP hD hS 0 rfl rfl 0 (by decide) (hts (.fieldLink RX13 1 "ChipFlowModel" "code" "I") wd_3032) (fun _ h9 => h9) rfl (by decide +kernel) rfl rfl (by rw [hmg.1]; decide) dX13_add_75 (fun H locs hP hD hS => ?_)
  have hmg : fx (mg.set 0 (.int 1)) 225 [(0, .int 1), (138, .ref mcA)] := hmg.put (by decide) _ rfl
  obtain ⟨fs_1, e9⟩ : ∃ z, z = mg.set 0 (.int 1) := ⟨_, rfl⟩
  rw [← e9] at hmg
  have hP : va_P (dC, dI) CL [(m0, .inr (13, fs_1)), (mcA, .inl (mcC, (4, .inl (fun _ => 0))))] H := by rw [e9]; exact hP
  have hD : va_D A [(m0, .inr (13, fs_1)), (mcA, .inl (mcC, (4, .inl (fun _ => 0))))] := by rw [e9]; exact hD
  clear e9
  refine lv_aload_n hx hb dX13_add_78 rfl (lv_at hl 0 rfl) ?_
  refine va_get (D := (dC, dI)) (ci := 13) (v := .int 1) (C := RX13) (T := TX13) (N := 225) hx hb hts inX13 hown hK hP 0 rfl rfl 0 (by decide) (hts (.fieldLink RX13 1 "ChipFlowModel" "code" "I") wd_3032) (fun _ h9 => h9) (hmg.get 0 rfl) dX13_add_79 ?_
  refine lv_if_le (tgt := 87) hx hb dX13_add_82 (by decide) (fun c9 => ?_) (fun c9 => ?_)
  · first | exact absurd c9 (by decide +kernel) | exact absurd (by decide +kernel) c9
  refine lv_iconst (v := 0) hx hb dX13_add_85 (by decide +kernel) ?_
  exact W.iret (v := 0) hx hb hr (fun t ht hW => ⟨⟨0, (), rfl, rfl, fs_1, hmg.sub [0] rfl, by rw [ht]; exact hP.sub [0] rfl, va_K.moved hW.alike (hK.sub [] rfl), hD.sub [0] (by decide) rfl⟩, hS.F ht⟩) hS.2.2 dX13_add_86
set_option maxHeartbeats 4000000 in
set_option maxRecDepth 100000 in
theorem ct_X13_erase (l : Launch) (dC : Nat → ClassId) (dI : Nat → Nat → Nat) (sz : Nat) (p0 : Int32) (p1 : Int32) (m0 : Nat) (mg : List Value) (mcA : Nat) (mcC : ClassId) (hmg : fx mg 225 [(138, .ref mcA)]) : Met l yX13_erase (Cond.code yX13_erase cX13_erase 4 (some .int) :: BG) ({ frames := 2, cells := 0, slots := 0, locals := 33 }) (va_Pc [.ref m0, .int p0, .int p1] (fun U => U.heap.size = sz ∧ va_P (dC, dI) CL [(m0, .inr (13, mg)), (mcA, .inl (mcC, (4, .inl (fun _ => 0))))] U.heap ∧ va_K (dC, dI) CL [(mcC, .boolean)] U ∧ va_D (fun _ => True) [(m0, .inr (13, mg)), (mcA, .inl (mcC, (4, .inl (fun _ => 0))))])) (va_Qi (fun (r : Int32) (_ : Unit) => r = 0) (fun _ t => ∃ mg1 : List Value, fx mg1 225 [(0, .int 1)] ∧ va_P (dC, dI) CL [(m0, .inr (13, mg1))] t.heap ∧ va_K (dC, dI) CL [] t ∧ va_D (va_A [(m0, .inr (13, mg)), (mcA, .inl (mcC, (4, .inl (fun _ => 0))))] sz) [(m0, .inr (13, mg1))]) (va_A [(m0, .inr (13, mg)), (mcA, .inl (mcC, (4, .inl (fun _ => 0))))] sz)) 0 0 (va_A [(m0, .inr (13, mg)), (mcA, .inl (mcC, (4, .inl (fun _ => 0))))] sz) := by
  refine Met.ofW (cc := cX13_erase) (maxL := 4) (ret := (some .int)) (by decide) rfl ?_
  intro p e s m args below meth c s₁ B hml hv
  obtain ⟨rfl, hsz, hP, hK, hD0⟩ := hv
  have hx := B.exec
  have hb := B.bytes
  have hr := B.returns
  have hts : ∀ w ∈ BG, w.before _ s = true := fun w h => atoms_spec (ws := Cond.code yX13_erase cX13_erase 4 (some .int) :: BG) B.pre w (List.mem_cons_of_mem _ h)
  have hown : s.vm.findClass RX13 = some m.cls := findClass_of_methodNamed B.named
  have hlocks := B.notSynchronized
  subst hsz
  have hD := hD0.self (sz := s.heap.size)
  generalize hAe : va_A [(m0, .inr (13, mg)), (mcA, .inl (mcC, (4, .inl (fun _ => 0))))] s.heap.size = A at hD ⊢
  have hA : ∀ q : Nat, s.heap.size ≤ q → A q := fun q h => by rw [← hAe]; exact Or.inr h
  have hS : va_S A s.heap s.heap [] := va_S.rf
  have hl := lv_entry ([.ref m0, .int p0, .int p1]) (n := 4) (Nat.le_of_ble_eq_true rfl)
  rw [lg_entry_eq]
  generalize (lg_sl ([.ref m0, .int p0, .int p1]) ++ List.replicate (4 - (lg_sl ([.ref m0, .int p0, .int p1])).length) Slot.unset).toArray = ls at hl ⊢
  have hl : lv_has ls 4 [(0, .ref m0), (1, .int p0), (2, .int p1)] := hl
  refine lv_aload_n hx hb dX13_erase_0 rfl (lv_at hl 0 rfl) ?_
  refine lv_aload_n hx hb dX13_erase_1 rfl (lv_at hl 0 rfl) ?_
  refine lv_iload_n hx hb dX13_erase_2 rfl (lv_at hl 1 rfl) ?_
  have hPc := hP.sub (ws' := [(m0, .inr (13, mg)), (mcA, .inl (mcC, (4, .inl (fun _ => 0))))]) [0, 1] rfl
  have hDc := hD.sub (ws' := [(m0, .inr (13, mg)), (mcA, .inl (mcC, (4, .inl (fun _ => 0))))]) [0, 1] (by decide) rfl
  have hKc := hK.sub (tys' := [(mcC, .boolean)]) [0] rfl
  have hFc := va_free (wc := [(m0, .inr (13, mg)), (mcA, .inl (mcC, (4, .inl (fun _ => 0))))]) hD hS hA [0, 1] rfl
  refine va_calli (va_runV (As := [.int p0]) (rest := [.ref m0]) ⟨hx, hb, hml, hown, hts⟩ (ct_X13_isChip l dC dI _ p0 m0 mg mcA mcC (hmg.sub [0] rfl)) (cwV 1 hts (gi_V wd_4084 wd_4086 wd_217 wd_340 wd_4087) rfl rfl rfl (by decide +kernel) ⟨(Nat.le_of_ble_eq_true rfl), (Nat.le_of_ble_eq_true rfl)⟩) ⟨fun a U g mk q => by obtain ⟨q0, q1, qP, qK, qD⟩ := q; exact ⟨q0, q1, qP, va_K.moved (u := U) (U := U.calling g mk a) (Vm.Alike.refl U.vm) qK, qD⟩, va_recv hKc hPc (ci := 13) (q0 := 0) rfl rfl, fun U hU hW => ⟨rfl, by rw [hU], by rw [hU]; exact hPc, va_K.moved hW.alike hKc, hDc.weaken (fun _ _ _ _ => trivial)⟩⟩ rfl rfl hl.1 rfl (lv_room (Nat.le_of_ble_eq_true rfl)) dX13_erase_3 ⟨(Nat.le_of_ble_eq_true rfl), (Nat.le_of_ble_eq_true rfl)⟩) hS (fun q _ h => hFc q h) hFc (fun r u t H1 locs ht hvm hw hB hz1 hk1 hS => ?_)
  subst hw
  obtain ⟨hP1, hK1, hD1⟩ := hB
  rw [ht] at hP1
  obtain ⟨hP, hD⟩ := va_join (wr := []) (w1 := [(m0, .inr (13, mg)), (mcA, .inl (mcC, (4, .inl (fun _ => 0))))]) hP hD [0, 1] [] rfl rfl (by decide) (by decide) hk1 hFc hP1 hD1
  have hP := hP.sub (ws' := [(m0, .inr (13, mg)), (mcA, .inl (mcC, (4, .inl (fun _ => 0))))]) [0, 1] rfl
  have hD := hD.sub (ws' := [(m0, .inr (13, mg)), (mcA, .inl (mcC, (4, .inl (fun _ => 0))))]) [0, 1] (by decide) rfl
  generalize H1 = H at hP hS ⊢
  have hP : va_P (dC, dI) CL [(m0, .inr (13, mg)), (mcA, .inl (mcC, (4, .inl (fun _ => 0))))] H := hP
  have hD : va_D A [(m0, .inr (13, mg)), (mcA, .inl (mcC, (4, .inl (fun _ => 0))))] := hD
  refine lv_if_eq (tgt := 31) hx hb dX13_erase_6 (by decide) (fun c9 => ?_) (fun c9 => ?_)
  rotate_left
  · first | exact absurd c9 (by decide +kernel) | exact absurd (by decide +kernel) c9
  refine lv_iconst (v := 1) hx hb dX13_erase_31 (by decide +kernel) ?_
  refine lv_goto (tgt := 49) hx hb dX13_erase_32 (by decide) ?_
  refine va_put (D := (dC, dI)) (ci := 13) (v := .int 1) (ty := tyX13 0) (C := RX13) (T := TX13) (N := 225) hx hb hts inX13 tyX13 tyX13_ok nmX13 hown hK hP hD hS 0 rfl rfl 0 (by decide) (hts (.fieldLink RX13 1 "ChipFlowModel" "code" "I") wd_3032) (fun _ h9 => h9) rfl (by decide +kernel) rfl rfl (by rw [hmg.1]; decide) dX13_erase_49 (fun H locs hP hD hS => ?_)
  have hmg : fx (mg.set 0 (.int 1)) 225 [(0, .int 1), (138, .ref mcA)] := hmg.put (by decide) _ rfl
  obtain ⟨fs_1, e9⟩ : ∃ z, z = mg.set 0 (.int 1) := ⟨_, rfl⟩
  rw [← e9] at hmg
  have hP : va_P (dC, dI) CL [(m0, .inr (13, fs_1)), (mcA, .inl (mcC, (4, .inl (fun _ => 0))))] H := by rw [e9]; exact hP
  have hD : va_D A [(m0, .inr (13, fs_1)), (mcA, .inl (mcC, (4, .inl (fun _ => 0))))] := by rw [e9]; exact hD
  clear e9
  refine lv_aload_n hx hb dX13_erase_52 rfl (lv_at hl 0 rfl) ?_
  refine va_get (D := (dC, dI)) (ci := 13) (v := .int 1) (C := RX13) (T := TX13) (N := 225) hx hb hts inX13 hown hK hP 0 rfl rfl 0 (by decide) (hts (.fieldLink RX13 1 "ChipFlowModel" "code" "I") wd_3032) (fun _ h9 => h9) (hmg.get 0 rfl) dX13_erase_53 ?_
  refine lv_if_le (tgt := 61) hx hb dX13_erase_56 (by decide) (fun c9 => ?_) (fun c9 => ?_)
  · first | exact absurd c9 (by decide +kernel) | exact absurd (by decide +kernel) c9
  refine lv_iconst (v := 0) hx hb dX13_erase_59 (by decide +kernel) ?_
  exact W.iret (v := 0) hx hb hr (fun t ht hW => ⟨⟨0, (), rfl, rfl, fs_1, hmg.sub [0] rfl, by rw [ht]; exact hP.sub [0] rfl, va_K.moved hW.alike (hK.sub [] rfl), hD.sub [0] (by decide) rfl⟩, hS.F ht⟩) hS.2.2 dX13_erase_60
set_option maxHeartbeats 4000000 in
set_option maxRecDepth 100000 in
theorem ct_X13_check (l : Launch) (dC : Nat → ClassId) (dI : Nat → Nat → Nat) (sz : Nat) (p0 : Int32) (m0 : Nat) (mg : List Value) (mcA : Nat) (mcC : ClassId) (hmg : fx mg 225 [(138, .ref mcA)]) : Met l yX13_check (Cond.code yX13_check cX13_check 2 (some .int) :: BG) ({ frames := 2, cells := 0, slots := 0, locals := 33 }) (va_Pc [.ref m0, .int p0] (fun U => U.heap.size = sz ∧ va_P (dC, dI) CL [(m0, .inr (13, mg)), (mcA, .inl (mcC, (4, .inl (fun _ => 0))))] U.heap ∧ va_K (dC, dI) CL [(mcC, .boolean)] U ∧ va_D (fun _ => True) [(m0, .inr (13, mg)), (mcA, .inl (mcC, (4, .inl (fun _ => 0))))])) (va_Qi (fun (r : Int32) (_ : Unit) => r = 0) (fun _ t => ∃ mg1 : List Value, fx mg1 225 [(0, .int 1)] ∧ va_P (dC, dI) CL [(m0, .inr (13, mg1))] t.heap ∧ va_K (dC, dI) CL [] t ∧ va_D (va_A [(m0, .inr (13, mg)), (mcA, .inl (mcC, (4, .inl (fun _ => 0))))] sz) [(m0, .inr (13, mg1))]) (va_A [(m0, .inr (13, mg)), (mcA, .inl (mcC, (4, .inl (fun _ => 0))))] sz)) 0 0 (va_A [(m0, .inr (13, mg)), (mcA, .inl (mcC, (4, .inl (fun _ => 0))))] sz) := by
  refine Met.ofW (cc := cX13_check) (maxL := 2) (ret := (some .int)) (by decide) rfl ?_
  intro p e s m args below meth c s₁ B hml hv
  obtain ⟨rfl, hsz, hP, hK, hD0⟩ := hv
  have hx := B.exec
  have hb := B.bytes
  have hr := B.returns
  have hts : ∀ w ∈ BG, w.before _ s = true := fun w h => atoms_spec (ws := Cond.code yX13_check cX13_check 2 (some .int) :: BG) B.pre w (List.mem_cons_of_mem _ h)
  have hown : s.vm.findClass RX13 = some m.cls := findClass_of_methodNamed B.named
  have hlocks := B.notSynchronized
  subst hsz
  have hD := hD0.self (sz := s.heap.size)
  generalize hAe : va_A [(m0, .inr (13, mg)), (mcA, .inl (mcC, (4, .inl (fun _ => 0))))] s.heap.size = A at hD ⊢
  have hA : ∀ q : Nat, s.heap.size ≤ q → A q := fun q h => by rw [← hAe]; exact Or.inr h
  have hS : va_S A s.heap s.heap [] := va_S.rf
  have hl := lv_entry ([.ref m0, .int p0]) (n := 2) (Nat.le_of_ble_eq_true rfl)
  rw [lg_entry_eq]
  generalize (lg_sl ([.ref m0, .int p0]) ++ List.replicate (2 - (lg_sl ([.ref m0, .int p0])).length) Slot.unset).toArray = ls at hl ⊢
  have hl : lv_has ls 2 [(0, .ref m0), (1, .int p0)] := hl
  refine lv_aload_n hx hb dX13_check_0 rfl (lv_at hl 0 rfl) ?_
  refine lv_aload_n hx hb dX13_check_1 rfl (lv_at hl 0 rfl) ?_
  refine lv_iload_n hx hb dX13_check_2 rfl (lv_at hl 1 rfl) ?_
  have hPc := hP.sub (ws' := [(m0, .inr (13, mg)), (mcA, .inl (mcC, (4, .inl (fun _ => 0))))]) [0, 1] rfl
  have hDc := hD.sub (ws' := [(m0, .inr (13, mg)), (mcA, .inl (mcC, (4, .inl (fun _ => 0))))]) [0, 1] (by decide) rfl
  have hKc := hK.sub (tys' := [(mcC, .boolean)]) [0] rfl
  have hFc := va_free (wc := [(m0, .inr (13, mg)), (mcA, .inl (mcC, (4, .inl (fun _ => 0))))]) hD hS hA [0, 1] rfl
  refine va_calli (va_runV (As := [.int p0]) (rest := [.ref m0]) ⟨hx, hb, hml, hown, hts⟩ (ct_X13_isChip l dC dI _ p0 m0 mg mcA mcC (hmg.sub [0] rfl)) (cwV 1 hts (gi_V wd_4084 wd_4086 wd_217 wd_340 wd_4087) rfl rfl rfl (by decide +kernel) ⟨(Nat.le_of_ble_eq_true rfl), (Nat.le_of_ble_eq_true rfl)⟩) ⟨fun a U g mk q => by obtain ⟨q0, q1, qP, qK, qD⟩ := q; exact ⟨q0, q1, qP, va_K.moved (u := U) (U := U.calling g mk a) (Vm.Alike.refl U.vm) qK, qD⟩, va_recv hKc hPc (ci := 13) (q0 := 0) rfl rfl, fun U hU hW => ⟨rfl, by rw [hU], by rw [hU]; exact hPc, va_K.moved hW.alike hKc, hDc.weaken (fun _ _ _ _ => trivial)⟩⟩ rfl rfl hl.1 rfl (lv_room (Nat.le_of_ble_eq_true rfl)) dX13_check_3 ⟨(Nat.le_of_ble_eq_true rfl), (Nat.le_of_ble_eq_true rfl)⟩) hS (fun q _ h => hFc q h) hFc (fun r u t H1 locs ht hvm hw hB hz1 hk1 hS => ?_)
  subst hw
  obtain ⟨hP1, hK1, hD1⟩ := hB
  rw [ht] at hP1
  obtain ⟨hP, hD⟩ := va_join (wr := []) (w1 := [(m0, .inr (13, mg)), (mcA, .inl (mcC, (4, .inl (fun _ => 0))))]) hP hD [0, 1] [] rfl rfl (by decide) (by decide) hk1 hFc hP1 hD1
  have hP := hP.sub (ws' := [(m0, .inr (13, mg)), (mcA, .inl (mcC, (4, .inl (fun _ => 0))))]) [0, 1] rfl
  have hD := hD.sub (ws' := [(m0, .inr (13, mg)), (mcA, .inl (mcC, (4, .inl (fun _ => 0))))]) [0, 1] (by decide) rfl
  generalize H1 = H at hP hS ⊢
  have hP : va_P (dC, dI) CL [(m0, .inr (13, mg)), (mcA, .inl (mcC, (4, .inl (fun _ => 0))))] H := hP
  have hD : va_D A [(m0, .inr (13, mg)), (mcA, .inl (mcC, (4, .inl (fun _ => 0))))] := hD
  refine lv_if_ne (tgt := 13) hx hb dX13_check_6 (by decide) (fun c9 => ?_) (fun c9 => ?_)
  · first | exact absurd c9 (by decide +kernel) | exact absurd (by decide +kernel) c9
  refine lv_iconst (v := 1) hx hb dX13_check_9 (by decide +kernel) ?_
  refine lv_goto (tgt := 27) hx hb dX13_check_10 (by decide) ?_
  refine va_put (D := (dC, dI)) (ci := 13) (v := .int 1) (ty := tyX13 0) (C := RX13) (T := TX13) (N := 225) hx hb hts inX13 tyX13 tyX13_ok nmX13 hown hK hP hD hS 0 rfl rfl 0 (by decide) (hts (.fieldLink RX13 1 "ChipFlowModel" "code" "I") wd_3032) (fun _ h9 => h9) rfl (by decide +kernel) rfl rfl (by rw [hmg.1]; decide) dX13_check_27 (fun H locs hP hD hS => ?_)
  have hmg : fx (mg.set 0 (.int 1)) 225 [(0, .int 1), (138, .ref mcA)] := hmg.put (by decide) _ rfl
  obtain ⟨fs_1, e9⟩ : ∃ z, z = mg.set 0 (.int 1) := ⟨_, rfl⟩
  rw [← e9] at hmg
  have hP : va_P (dC, dI) CL [(m0, .inr (13, fs_1)), (mcA, .inl (mcC, (4, .inl (fun _ => 0))))] H := by rw [e9]; exact hP
  have hD : va_D A [(m0, .inr (13, fs_1)), (mcA, .inl (mcC, (4, .inl (fun _ => 0))))] := by rw [e9]; exact hD
  clear e9
  refine lv_aload_n hx hb dX13_check_30 rfl (lv_at hl 0 rfl) ?_
  refine va_get (D := (dC, dI)) (ci := 13) (v := .int 1) (C := RX13) (T := TX13) (N := 225) hx hb hts inX13 hown hK hP 0 rfl rfl 0 (by decide) (hts (.fieldLink RX13 1 "ChipFlowModel" "code" "I") wd_3032) (fun _ h9 => h9) (hmg.get 0 rfl) dX13_check_31 ?_
  refine lv_if_le (tgt := 41) hx hb dX13_check_34 (by decide) (fun c9 => ?_) (fun c9 => ?_)
  · first | exact absurd c9 (by decide +kernel) | exact absurd (by decide +kernel) c9
  refine lv_iconst (v := 0) hx hb dX13_check_37 (by decide +kernel) ?_
  refine lv_goto (tgt := 49) hx hb dX13_check_38 (by decide) ?_
  exact W.iret (v := 0) hx hb hr (fun t ht hW => ⟨⟨0, (), rfl, rfl, fs_1, hmg.sub [0] rfl, by rw [ht]; exact hP.sub [0] rfl, va_K.moved hW.alike (hK.sub [] rfl), hD.sub [0] (by decide) rfl⟩, hS.F ht⟩) hS.2.2 dX13_check_49
set_option maxHeartbeats 4000000 in
set_option maxRecDepth 100000 in
theorem ct_X13_violation (l : Launch) (dC : Nat → ClassId) (dI : Nat → Nat → Nat) (sz : Nat) (p0 : Int32) (p1 : Int32) (p2 : Int32) (m0 : Nat) (mg : List Value) (mcA : Nat) (mcC : ClassId) (hmg : fx mg 225 [(138, .ref mcA)]) : Met l yX13_violation (Cond.code yX13_violation cX13_violation 4 (some .int) :: BG) ({ frames := 2, cells := 0, slots := 0, locals := 33 }) (va_Pc [.ref m0, .int p0, .int p1, .int p2] (fun U => U.heap.size = sz ∧ va_P (dC, dI) CL [(m0, .inr (13, mg)), (mcA, .inl (mcC, (4, .inl (fun _ => 0))))] U.heap ∧ va_K (dC, dI) CL [(mcC, .boolean)] U ∧ va_D (fun _ => True) [(m0, .inr (13, mg)), (mcA, .inl (mcC, (4, .inl (fun _ => 0))))])) (va_Qi (fun (r : Int32) (_ : Unit) => r = 0) (fun _ t => ∃ mg1 : List Value, fx mg1 225 [(0, .int 1)] ∧ va_P (dC, dI) CL [(m0, .inr (13, mg1))] t.heap ∧ va_K (dC, dI) CL [] t ∧ va_D (va_A [(m0, .inr (13, mg)), (mcA, .inl (mcC, (4, .inl (fun _ => 0))))] sz) [(m0, .inr (13, mg1))]) (va_A [(m0, .inr (13, mg)), (mcA, .inl (mcC, (4, .inl (fun _ => 0))))] sz)) 0 0 (va_A [(m0, .inr (13, mg)), (mcA, .inl (mcC, (4, .inl (fun _ => 0))))] sz) := by
  refine Met.ofW (cc := cX13_violation) (maxL := 4) (ret := (some .int)) (by decide) rfl ?_
  intro p e s m args below meth c s₁ B hml hv
  obtain ⟨rfl, hsz, hP, hK, hD0⟩ := hv
  have hx := B.exec
  have hb := B.bytes
  have hr := B.returns
  have hts : ∀ w ∈ BG, w.before _ s = true := fun w h => atoms_spec (ws := Cond.code yX13_violation cX13_violation 4 (some .int) :: BG) B.pre w (List.mem_cons_of_mem _ h)
  have hown : s.vm.findClass RX13 = some m.cls := findClass_of_methodNamed B.named
  have hlocks := B.notSynchronized
  subst hsz
  have hD := hD0.self (sz := s.heap.size)
  generalize hAe : va_A [(m0, .inr (13, mg)), (mcA, .inl (mcC, (4, .inl (fun _ => 0))))] s.heap.size = A at hD ⊢
  have hA : ∀ q : Nat, s.heap.size ≤ q → A q := fun q h => by rw [← hAe]; exact Or.inr h
  have hS : va_S A s.heap s.heap [] := va_S.rf
  have hl := lv_entry ([.ref m0, .int p0, .int p1, .int p2]) (n := 4) (Nat.le_of_ble_eq_true rfl)
  rw [lg_entry_eq]
  generalize (lg_sl ([.ref m0, .int p0, .int p1, .int p2]) ++ List.replicate (4 - (lg_sl ([.ref m0, .int p0, .int p1, .int p2])).length) Slot.unset).toArray = ls at hl ⊢
  have hl : lv_has ls 4 [(0, .ref m0), (1, .int p0), (2, .int p1), (3, .int p2)] := hl
  refine lv_aload_n hx hb dX13_violation_0 rfl (lv_at hl 0 rfl) ?_
  refine lv_aload_n hx hb dX13_violation_1 rfl (lv_at hl 0 rfl) ?_
  refine lv_iload_n hx hb dX13_violation_2 rfl (lv_at hl 1 rfl) ?_
  have hPc := hP.sub (ws' := [(m0, .inr (13, mg)), (mcA, .inl (mcC, (4, .inl (fun _ => 0))))]) [0, 1] rfl
  have hDc := hD.sub (ws' := [(m0, .inr (13, mg)), (mcA, .inl (mcC, (4, .inl (fun _ => 0))))]) [0, 1] (by decide) rfl
  have hKc := hK.sub (tys' := [(mcC, .boolean)]) [0] rfl
  have hFc := va_free (wc := [(m0, .inr (13, mg)), (mcA, .inl (mcC, (4, .inl (fun _ => 0))))]) hD hS hA [0, 1] rfl
  refine va_calli (va_runV (As := [.int p0]) (rest := [.ref m0]) ⟨hx, hb, hml, hown, hts⟩ (ct_X13_isChip l dC dI _ p0 m0 mg mcA mcC (hmg.sub [0] rfl)) (cwV 1 hts (gi_V wd_4084 wd_4086 wd_217 wd_340 wd_4087) rfl rfl rfl (by decide +kernel) ⟨(Nat.le_of_ble_eq_true rfl), (Nat.le_of_ble_eq_true rfl)⟩) ⟨fun a U g mk q => by obtain ⟨q0, q1, qP, qK, qD⟩ := q; exact ⟨q0, q1, qP, va_K.moved (u := U) (U := U.calling g mk a) (Vm.Alike.refl U.vm) qK, qD⟩, va_recv hKc hPc (ci := 13) (q0 := 0) rfl rfl, fun U hU hW => ⟨rfl, by rw [hU], by rw [hU]; exact hPc, va_K.moved hW.alike hKc, hDc.weaken (fun _ _ _ _ => trivial)⟩⟩ rfl rfl hl.1 rfl (lv_room (Nat.le_of_ble_eq_true rfl)) dX13_violation_3 ⟨(Nat.le_of_ble_eq_true rfl), (Nat.le_of_ble_eq_true rfl)⟩) hS (fun q _ h => hFc q h) hFc (fun r u t H1 locs ht hvm hw hB hz1 hk1 hS => ?_)
  subst hw
  obtain ⟨hP1, hK1, hD1⟩ := hB
  rw [ht] at hP1
  obtain ⟨hP, hD⟩ := va_join (wr := []) (w1 := [(m0, .inr (13, mg)), (mcA, .inl (mcC, (4, .inl (fun _ => 0))))]) hP hD [0, 1] [] rfl rfl (by decide) (by decide) hk1 hFc hP1 hD1
  have hP := hP.sub (ws' := [(m0, .inr (13, mg)), (mcA, .inl (mcC, (4, .inl (fun _ => 0))))]) [0, 1] rfl
  have hD := hD.sub (ws' := [(m0, .inr (13, mg)), (mcA, .inl (mcC, (4, .inl (fun _ => 0))))]) [0, 1] (by decide) rfl
  generalize H1 = H at hP hS ⊢
  have hP : va_P (dC, dI) CL [(m0, .inr (13, mg)), (mcA, .inl (mcC, (4, .inl (fun _ => 0))))] H := hP
  have hD : va_D A [(m0, .inr (13, mg)), (mcA, .inl (mcC, (4, .inl (fun _ => 0))))] := hD
  refine lv_if_eq (tgt := 22) hx hb dX13_violation_6 (by decide) (fun c9 => ?_) (fun c9 => ?_)
  rotate_left
  · first | exact absurd c9 (by decide +kernel) | exact absurd (by decide +kernel) c9
  refine lv_iconst (v := 1) hx hb dX13_violation_22 (by decide +kernel) ?_
  refine lv_goto (tgt := 54) hx hb dX13_violation_23 (by decide) ?_
  refine va_put (D := (dC, dI)) (ci := 13) (v := .int 1) (ty := tyX13 0) (C := RX13) (T := TX13) (N := 225) hx hb hts inX13 tyX13 tyX13_ok nmX13 hown hK hP hD hS 0 rfl rfl 0 (by decide) (hts (.fieldLink RX13 1 "ChipFlowModel" "code" "I") wd_3032) (fun _ h9 => h9) rfl (by decide +kernel) rfl rfl (by rw [hmg.1]; decide) dX13_violation_54 (fun H locs hP hD hS => ?_)
  have hmg : fx (mg.set 0 (.int 1)) 225 [(0, .int 1), (138, .ref mcA)] := hmg.put (by decide) _ rfl
  obtain ⟨fs_1, e9⟩ : ∃ z, z = mg.set 0 (.int 1) := ⟨_, rfl⟩
  rw [← e9] at hmg
  have hP : va_P (dC, dI) CL [(m0, .inr (13, fs_1)), (mcA, .inl (mcC, (4, .inl (fun _ => 0))))] H := by rw [e9]; exact hP
  have hD : va_D A [(m0, .inr (13, fs_1)), (mcA, .inl (mcC, (4, .inl (fun _ => 0))))] := by rw [e9]; exact hD
  clear e9
  refine lv_aload_n hx hb dX13_violation_57 rfl (lv_at hl 0 rfl) ?_
  refine va_get (D := (dC, dI)) (ci := 13) (v := .int 1) (C := RX13) (T := TX13) (N := 225) hx hb hts inX13 hown hK hP 0 rfl rfl 0 (by decide) (hts (.fieldLink RX13 1 "ChipFlowModel" "code" "I") wd_3032) (fun _ h9 => h9) (hmg.get 0 rfl) dX13_violation_58 ?_
  refine lv_if_le (tgt := 68) hx hb dX13_violation_61 (by decide) (fun c9 => ?_) (fun c9 => ?_)
  · first | exact absurd c9 (by decide +kernel) | exact absurd (by decide +kernel) c9
  refine lv_iconst (v := 0) hx hb dX13_violation_64 (by decide +kernel) ?_
  refine lv_goto (tgt := 83) hx hb dX13_violation_65 (by decide) ?_
  exact W.iret (v := 0) hx hb hr (fun t ht hW => ⟨⟨0, (), rfl, rfl, fs_1, hmg.sub [0] rfl, by rw [ht]; exact hP.sub [0] rfl, va_K.moved hW.alike (hK.sub [] rfl), hD.sub [0] (by decide) rfl⟩, hS.F ht⟩) hS.2.2 dX13_violation_83
set_option maxHeartbeats 4000000 in
set_option maxRecDepth 100000 in
theorem ct_X13_found (l : Launch) (dC : Nat → ClassId) (dI : Nat → Nat → Nat) (sz : Nat) (p0 : Int32) (p1 : Int32) (m0 : Nat) (mg : List Value) (mcA : Nat) (mcC : ClassId) (hmg : fx mg 225 [(138, .ref mcA)]) : Met l yX13_found (Cond.code yX13_found cX13_found 7 (some .int) :: BG) ({ frames := 2, cells := 0, slots := 0, locals := 33 }) (va_Pc [.ref m0, .int p0, .int p1] (fun U => U.heap.size = sz ∧ va_P (dC, dI) CL [(m0, .inr (13, mg)), (mcA, .inl (mcC, (4, .inl (fun _ => 0))))] U.heap ∧ va_K (dC, dI) CL [(mcC, .boolean)] U ∧ va_D (fun _ => True) [(m0, .inr (13, mg)), (mcA, .inl (mcC, (4, .inl (fun _ => 0))))])) (va_Qi (fun (r : Int32) (_ : Unit) => r = 0) (fun _ t => ∃ mg1 : List Value, fx mg1 225 [(0, .int 1)] ∧ va_P (dC, dI) CL [(m0, .inr (13, mg1))] t.heap ∧ va_K (dC, dI) CL [] t ∧ va_D (va_A [(m0, .inr (13, mg)), (mcA, .inl (mcC, (4, .inl (fun _ => 0))))] sz) [(m0, .inr (13, mg1))]) (va_A [(m0, .inr (13, mg)), (mcA, .inl (mcC, (4, .inl (fun _ => 0))))] sz)) 0 0 (va_A [(m0, .inr (13, mg)), (mcA, .inl (mcC, (4, .inl (fun _ => 0))))] sz) := by
  refine Met.ofW (cc := cX13_found) (maxL := 7) (ret := (some .int)) (by decide) rfl ?_
  intro p e s m args below meth c s₁ B hml hv
  obtain ⟨rfl, hsz, hP, hK, hD0⟩ := hv
  have hx := B.exec
  have hb := B.bytes
  have hr := B.returns
  have hts : ∀ w ∈ BG, w.before _ s = true := fun w h => atoms_spec (ws := Cond.code yX13_found cX13_found 7 (some .int) :: BG) B.pre w (List.mem_cons_of_mem _ h)
  have hown : s.vm.findClass RX13 = some m.cls := findClass_of_methodNamed B.named
  have hlocks := B.notSynchronized
  subst hsz
  have hD := hD0.self (sz := s.heap.size)
  generalize hAe : va_A [(m0, .inr (13, mg)), (mcA, .inl (mcC, (4, .inl (fun _ => 0))))] s.heap.size = A at hD ⊢
  have hA : ∀ q : Nat, s.heap.size ≤ q → A q := fun q h => by rw [← hAe]; exact Or.inr h
  have hS : va_S A s.heap s.heap [] := va_S.rf
  have hl := lv_entry ([.ref m0, .int p0, .int p1]) (n := 7) (Nat.le_of_ble_eq_true rfl)
  rw [lg_entry_eq]
  generalize (lg_sl ([.ref m0, .int p0, .int p1]) ++ List.replicate (7 - (lg_sl ([.ref m0, .int p0, .int p1])).length) Slot.unset).toArray = ls at hl ⊢
  have hl : lv_has ls 7 [(0, .ref m0), (1, .int p0), (2, .int p1)] := hl
  refine lv_aload_n hx hb dX13_found_0 rfl (lv_at hl 0 rfl) ?_
  refine lv_aload_n hx hb dX13_found_1 rfl (lv_at hl 0 rfl) ?_
  refine lv_iload_n hx hb dX13_found_2 rfl (lv_at hl 1 rfl) ?_
  have hPc := hP.sub (ws' := [(m0, .inr (13, mg)), (mcA, .inl (mcC, (4, .inl (fun _ => 0))))]) [0, 1] rfl
  have hDc := hD.sub (ws' := [(m0, .inr (13, mg)), (mcA, .inl (mcC, (4, .inl (fun _ => 0))))]) [0, 1] (by decide) rfl
  have hKc := hK.sub (tys' := [(mcC, .boolean)]) [0] rfl
  have hFc := va_free (wc := [(m0, .inr (13, mg)), (mcA, .inl (mcC, (4, .inl (fun _ => 0))))]) hD hS hA [0, 1] rfl
  refine va_calli (va_runV (As := [.int p0]) (rest := [.ref m0]) ⟨hx, hb, hml, hown, hts⟩ (ct_X13_isChip l dC dI _ p0 m0 mg mcA mcC (hmg.sub [0] rfl)) (cwV 1 hts (gi_V wd_4084 wd_4086 wd_217 wd_340 wd_4087) rfl rfl rfl (by decide +kernel) ⟨(Nat.le_of_ble_eq_true rfl), (Nat.le_of_ble_eq_true rfl)⟩) ⟨fun a U g mk q => by obtain ⟨q0, q1, qP, qK, qD⟩ := q; exact ⟨q0, q1, qP, va_K.moved (u := U) (U := U.calling g mk a) (Vm.Alike.refl U.vm) qK, qD⟩, va_recv hKc hPc (ci := 13) (q0 := 0) rfl rfl, fun U hU hW => ⟨rfl, by rw [hU], by rw [hU]; exact hPc, va_K.moved hW.alike hKc, hDc.weaken (fun _ _ _ _ => trivial)⟩⟩ rfl rfl hl.1 rfl (lv_room (Nat.le_of_ble_eq_true rfl)) dX13_found_3 ⟨(Nat.le_of_ble_eq_true rfl), (Nat.le_of_ble_eq_true rfl)⟩) hS (fun q _ h => hFc q h) hFc (fun r u t H1 locs ht hvm hw hB hz1 hk1 hS => ?_)
  subst hw
  obtain ⟨hP1, hK1, hD1⟩ := hB
  rw [ht] at hP1
  obtain ⟨hP, hD⟩ := va_join (wr := []) (w1 := [(m0, .inr (13, mg)), (mcA, .inl (mcC, (4, .inl (fun _ => 0))))]) hP hD [0, 1] [] rfl rfl (by decide) (by decide) hk1 hFc hP1 hD1
  have hP := hP.sub (ws' := [(m0, .inr (13, mg)), (mcA, .inl (mcC, (4, .inl (fun _ => 0))))]) [0, 1] rfl
  have hD := hD.sub (ws' := [(m0, .inr (13, mg)), (mcA, .inl (mcC, (4, .inl (fun _ => 0))))]) [0, 1] (by decide) rfl
  generalize H1 = H at hP hS ⊢
  have hP : va_P (dC, dI) CL [(m0, .inr (13, mg)), (mcA, .inl (mcC, (4, .inl (fun _ => 0))))] H := hP
  have hD : va_D A [(m0, .inr (13, mg)), (mcA, .inl (mcC, (4, .inl (fun _ => 0))))] := hD
  refine lv_if_ne (tgt := 13) hx hb dX13_found_6 (by decide) (fun c9 => ?_) (fun c9 => ?_)
  · first | exact absurd c9 (by decide +kernel) | exact absurd (by decide +kernel) c9
  refine lv_iconst (v := 1) hx hb dX13_found_9 (by decide +kernel) ?_
  refine lv_goto (tgt := 40) hx hb dX13_found_10 (by decide) ?_
  refine va_put (D := (dC, dI)) (ci := 13) (v := .int 1) (ty := tyX13 0) (C := RX13) (T := TX13) (N := 225) hx hb hts inX13 tyX13 tyX13_ok nmX13 hown hK hP hD hS 0 rfl rfl 0 (by decide) (hts (.fieldLink RX13 1 "ChipFlowModel" "code" "I") wd_3032) (fun _ h9 => h9) rfl (by decide +kernel) rfl rfl (by rw [hmg.1]; decide) dX13_found_40 (fun H locs hP hD hS => ?_)
  have hmg : fx (mg.set 0 (.int 1)) 225 [(0, .int 1), (138, .ref mcA)] := hmg.put (by decide) _ rfl
  obtain ⟨fs_1, e9⟩ : ∃ z, z = mg.set 0 (.int 1) := ⟨_, rfl⟩
  rw [← e9] at hmg
  have hP : va_P (dC, dI) CL [(m0, .inr (13, fs_1)), (mcA, .inl (mcC, (4, .inl (fun _ => 0))))] H := by rw [e9]; exact hP
  have hD : va_D A [(m0, .inr (13, fs_1)), (mcA, .inl (mcC, (4, .inl (fun _ => 0))))] := by rw [e9]; exact hD
  clear e9
  refine lv_aload_n hx hb dX13_found_43 rfl (lv_at hl 0 rfl) ?_
  refine va_get (D := (dC, dI)) (ci := 13) (v := .int 1) (C := RX13) (T := TX13) (N := 225) hx hb hts inX13 hown hK hP 0 rfl rfl 0 (by decide) (hts (.fieldLink RX13 1 "ChipFlowModel" "code" "I") wd_3032) (fun _ h9 => h9) (hmg.get 0 rfl) dX13_found_44 ?_
  refine lv_if_le (tgt := 52) hx hb dX13_found_47 (by decide) (fun c9 => ?_) (fun c9 => ?_)
  · first | exact absurd c9 (by decide +kernel) | exact absurd (by decide +kernel) c9
  refine lv_iconst (v := 0) hx hb dX13_found_50 (by decide +kernel) ?_
  exact W.iret (v := 0) hx hb hr (fun t ht hW => ⟨⟨0, (), rfl, rfl, fs_1, hmg.sub [0] rfl, by rw [ht]; exact hP.sub [0] rfl, va_K.moved hW.alike (hK.sub [] rfl), hD.sub [0] (by decide) rfl⟩, hS.F ht⟩) hS.2.2 dX13_found_51
set_option maxHeartbeats 4000000 in
set_option maxRecDepth 100000 in
theorem ct_X13_arrival (l : Launch) (dC : Nat → ClassId) (dI : Nat → Nat → Nat) (sz : Nat) (p0 : Int32) (p1 : Int32) (p2 : Int32) (m0 : Nat) (mg : List Value) (mcA : Nat) (mcC : ClassId) (hmg : fx mg 225 [(138, .ref mcA)]) : Met l yX13_arrival (Cond.code yX13_arrival cX13_arrival 4 (some .int) :: BG) ({ frames := 3, cells := 0, slots := 0, locals := 55 }) (va_Pc [.ref m0, .int p0, .int p1, .int p2] (fun U => U.heap.size = sz ∧ va_P (dC, dI) CL [(m0, .inr (13, mg)), (mcA, .inl (mcC, (4, .inl (fun _ => 0))))] U.heap ∧ va_K (dC, dI) CL [(mcC, .boolean)] U ∧ va_D (fun _ => True) [(m0, .inr (13, mg)), (mcA, .inl (mcC, (4, .inl (fun _ => 0))))])) (va_Qi (fun (r : Int32) (_ : Unit) => r = 0) (fun _ t => ∃ mg1 : List Value, fx mg1 225 [(0, .int 1)] ∧ va_P (dC, dI) CL [(m0, .inr (13, mg1))] t.heap ∧ va_K (dC, dI) CL [] t ∧ va_D (va_A [(m0, .inr (13, mg)), (mcA, .inl (mcC, (4, .inl (fun _ => 0))))] sz) [(m0, .inr (13, mg1))]) (va_A [(m0, .inr (13, mg)), (mcA, .inl (mcC, (4, .inl (fun _ => 0))))] sz)) 0 0 (va_A [(m0, .inr (13, mg)), (mcA, .inl (mcC, (4, .inl (fun _ => 0))))] sz) := by
  refine Met.ofW (cc := cX13_arrival) (maxL := 4) (ret := (some .int)) (by decide) rfl ?_
  intro p e s m args below meth c s₁ B hml hv
  obtain ⟨rfl, hsz, hP, hK, hD0⟩ := hv
  have hx := B.exec
  have hb := B.bytes
  have hr := B.returns
  have hts : ∀ w ∈ BG, w.before _ s = true := fun w h => atoms_spec (ws := Cond.code yX13_arrival cX13_arrival 4 (some .int) :: BG) B.pre w (List.mem_cons_of_mem _ h)
  have hown : s.vm.findClass RX13 = some m.cls := findClass_of_methodNamed B.named
  have hlocks := B.notSynchronized
  subst hsz
  have hD := hD0.self (sz := s.heap.size)
  generalize hAe : va_A [(m0, .inr (13, mg)), (mcA, .inl (mcC, (4, .inl (fun _ => 0))))] s.heap.size = A at hD ⊢
  have hA : ∀ q : Nat, s.heap.size ≤ q → A q := fun q h => by rw [← hAe]; exact Or.inr h
  have hS : va_S A s.heap s.heap [] := va_S.rf
  have hl := lv_entry ([.ref m0, .int p0, .int p1, .int p2]) (n := 4) (Nat.le_of_ble_eq_true rfl)
  rw [lg_entry_eq]
  generalize (lg_sl ([.ref m0, .int p0, .int p1, .int p2]) ++ List.replicate (4 - (lg_sl ([.ref m0, .int p0, .int p1, .int p2])).length) Slot.unset).toArray = ls at hl ⊢
  have hl : lv_has ls 4 [(0, .ref m0), (1, .int p0), (2, .int p1), (3, .int p2)] := hl
  refine lv_aload_n hx hb dX13_arrival_0 rfl (lv_at hl 0 rfl) ?_
  refine lv_aload_n hx hb dX13_arrival_1 rfl (lv_at hl 0 rfl) ?_
  refine lv_iload_n hx hb dX13_arrival_2 rfl (lv_at hl 1 rfl) ?_
  refine lv_iload_n hx hb dX13_arrival_3 rfl (lv_at hl 2 rfl) ?_
  have hPc := hP.sub (ws' := [(m0, .inr (13, mg)), (mcA, .inl (mcC, (4, .inl (fun _ => 0))))]) [0, 1] rfl
  have hDc := hD.sub (ws' := [(m0, .inr (13, mg)), (mcA, .inl (mcC, (4, .inl (fun _ => 0))))]) [0, 1] (by decide) rfl
  have hKc := hK.sub (tys' := [(mcC, .boolean)]) [0] rfl
  have hFc := va_free (wc := [(m0, .inr (13, mg)), (mcA, .inl (mcC, (4, .inl (fun _ => 0))))]) hD hS hA [0, 1] rfl
  refine va_calli (va_runV (As := [.int p0, .int p1]) (rest := [.ref m0]) ⟨hx, hb, hml, hown, hts⟩ (ct_X13_isNet l dC dI _ p0 p1 m0 mg mcA mcC (hmg.sub [0] rfl)) (cwV 2 hts (gi_V wd_4397 wd_4399 wd_267 wd_340 wd_4400) rfl rfl rfl (by decide +kernel) ⟨(Nat.le_of_ble_eq_true rfl), (Nat.le_of_ble_eq_true rfl)⟩) ⟨fun a U g mk q => by obtain ⟨q0, q1, qP, qK, qD⟩ := q; exact ⟨q0, q1, qP, va_K.moved (u := U) (U := U.calling g mk a) (Vm.Alike.refl U.vm) qK, qD⟩, va_recv hKc hPc (ci := 13) (q0 := 0) rfl rfl, fun U hU hW => ⟨rfl, by rw [hU], by rw [hU]; exact hPc, va_K.moved hW.alike hKc, hDc.weaken (fun _ _ _ _ => trivial)⟩⟩ rfl rfl hl.1 rfl (lv_room (Nat.le_of_ble_eq_true rfl)) dX13_arrival_4 ⟨(Nat.le_of_ble_eq_true rfl), (Nat.le_of_ble_eq_true rfl)⟩) hS (fun q _ h => hFc q h) hFc (fun r u t H1 locs ht hvm hw hB hz1 hk1 hS => ?_)
  subst hw
  obtain ⟨hP1, hK1, hD1⟩ := hB
  rw [ht] at hP1
  obtain ⟨hP, hD⟩ := va_join (wr := []) (w1 := [(m0, .inr (13, mg)), (mcA, .inl (mcC, (4, .inl (fun _ => 0))))]) hP hD [0, 1] [] rfl rfl (by decide) (by decide) hk1 hFc hP1 hD1
  have hP := hP.sub (ws' := [(m0, .inr (13, mg)), (mcA, .inl (mcC, (4, .inl (fun _ => 0))))]) [0, 1] rfl
  have hD := hD.sub (ws' := [(m0, .inr (13, mg)), (mcA, .inl (mcC, (4, .inl (fun _ => 0))))]) [0, 1] (by decide) rfl
  generalize H1 = H at hP hS ⊢
  have hP : va_P (dC, dI) CL [(m0, .inr (13, mg)), (mcA, .inl (mcC, (4, .inl (fun _ => 0))))] H := hP
  have hD : va_D A [(m0, .inr (13, mg)), (mcA, .inl (mcC, (4, .inl (fun _ => 0))))] := hD
  refine lv_if_eq (tgt := 14) hx hb dX13_arrival_7 (by decide) (fun c9 => ?_) (fun c9 => ?_)
  rotate_left
  · first | exact absurd c9 (by decide +kernel) | exact absurd (by decide +kernel) c9
  refine lv_iconst (v := 1) hx hb dX13_arrival_14 (by decide +kernel) ?_
  refine va_put (D := (dC, dI)) (ci := 13) (v := .int 1) (ty := tyX13 0) (C := RX13) (T := TX13) (N := 225) hx hb hts inX13 tyX13 tyX13_ok nmX13 hown hK hP hD hS 0 rfl rfl 0 (by decide) (hts (.fieldLink RX13 1 "ChipFlowModel" "code" "I") wd_3032) (fun _ h9 => h9) rfl (by decide +kernel) rfl rfl (by rw [hmg.1]; decide) dX13_arrival_15 (fun H locs hP hD hS => ?_)
  have hmg : fx (mg.set 0 (.int 1)) 225 [(0, .int 1), (138, .ref mcA)] := hmg.put (by decide) _ rfl
  obtain ⟨fs_1, e9⟩ : ∃ z, z = mg.set 0 (.int 1) := ⟨_, rfl⟩
  rw [← e9] at hmg
  have hP : va_P (dC, dI) CL [(m0, .inr (13, fs_1)), (mcA, .inl (mcC, (4, .inl (fun _ => 0))))] H := by rw [e9]; exact hP
  have hD : va_D A [(m0, .inr (13, fs_1)), (mcA, .inl (mcC, (4, .inl (fun _ => 0))))] := by rw [e9]; exact hD
  clear e9
  refine lv_aload_n hx hb dX13_arrival_18 rfl (lv_at hl 0 rfl) ?_
  refine va_get (D := (dC, dI)) (ci := 13) (v := .int 1) (C := RX13) (T := TX13) (N := 225) hx hb hts inX13 hown hK hP 0 rfl rfl 0 (by decide) (hts (.fieldLink RX13 1 "ChipFlowModel" "code" "I") wd_3032) (fun _ h9 => h9) (hmg.get 0 rfl) dX13_arrival_19 ?_
  refine lv_if_le (tgt := 27) hx hb dX13_arrival_22 (by decide) (fun c9 => ?_) (fun c9 => ?_)
  · first | exact absurd c9 (by decide +kernel) | exact absurd (by decide +kernel) c9
  refine lv_iconst (v := 0) hx hb dX13_arrival_25 (by decide +kernel) ?_
  exact W.iret (v := 0) hx hb hr (fun t ht hW => ⟨⟨0, (), rfl, rfl, fs_1, hmg.sub [0] rfl, by rw [ht]; exact hP.sub [0] rfl, va_K.moved hW.alike (hK.sub [] rfl), hD.sub [0] (by decide) rfl⟩, hS.F ht⟩) hS.2.2 dX13_arrival_26
set_option maxHeartbeats 4000000 in
set_option maxRecDepth 100000 in
theorem ct_X13_falsify (l : Launch) (dC : Nat → ClassId) (dI : Nat → Nat → Nat) (sz : Nat) (p0 : Int32) (p1 : Int32) (p2 : Int32) (m0 : Nat) (mg : List Value) (mcA : Nat) (mcC : ClassId) (hmg : fx mg 225 [(138, .ref mcA)]) : Met l yX13_falsify (Cond.code yX13_falsify cX13_falsify 4 (some .boolean) :: BG) ({ frames := 2, cells := 0, slots := 0, locals := 33 }) (va_Pc [.ref m0, .int p0, .int p1, .int p2] (fun U => U.heap.size = sz ∧ va_P (dC, dI) CL [(m0, .inr (13, mg)), (mcA, .inl (mcC, (4, .inl (fun _ => 0))))] U.heap ∧ va_K (dC, dI) CL [(mcC, .boolean)] U ∧ va_D (fun _ => True) [(m0, .inr (13, mg)), (mcA, .inl (mcC, (4, .inl (fun _ => 0))))])) (va_Qi (fun (r : Int32) (_ : Unit) => r = 0) (fun _ t => ∃ mg1 : List Value, fx mg1 225 [(0, .int 1)] ∧ va_P (dC, dI) CL [(m0, .inr (13, mg1))] t.heap ∧ va_K (dC, dI) CL [] t ∧ va_D (va_A [(m0, .inr (13, mg)), (mcA, .inl (mcC, (4, .inl (fun _ => 0))))] sz) [(m0, .inr (13, mg1))]) (va_A [(m0, .inr (13, mg)), (mcA, .inl (mcC, (4, .inl (fun _ => 0))))] sz)) 0 0 (va_A [(m0, .inr (13, mg)), (mcA, .inl (mcC, (4, .inl (fun _ => 0))))] sz) := by
  refine Met.ofW (cc := cX13_falsify) (maxL := 4) (ret := (some .boolean)) (by decide) rfl ?_
  intro p e s m args below meth c s₁ B hml hv
  obtain ⟨rfl, hsz, hP, hK, hD0⟩ := hv
  have hx := B.exec
  have hb := B.bytes
  have hr := B.returns
  have hts : ∀ w ∈ BG, w.before _ s = true := fun w h => atoms_spec (ws := Cond.code yX13_falsify cX13_falsify 4 (some .boolean) :: BG) B.pre w (List.mem_cons_of_mem _ h)
  have hown : s.vm.findClass RX13 = some m.cls := findClass_of_methodNamed B.named
  have hlocks := B.notSynchronized
  subst hsz
  have hD := hD0.self (sz := s.heap.size)
  generalize hAe : va_A [(m0, .inr (13, mg)), (mcA, .inl (mcC, (4, .inl (fun _ => 0))))] s.heap.size = A at hD ⊢
  have hA : ∀ q : Nat, s.heap.size ≤ q → A q := fun q h => by rw [← hAe]; exact Or.inr h
  have hS : va_S A s.heap s.heap [] := va_S.rf
  have hl := lv_entry ([.ref m0, .int p0, .int p1, .int p2]) (n := 4) (Nat.le_of_ble_eq_true rfl)
  rw [lg_entry_eq]
  generalize (lg_sl ([.ref m0, .int p0, .int p1, .int p2]) ++ List.replicate (4 - (lg_sl ([.ref m0, .int p0, .int p1, .int p2])).length) Slot.unset).toArray = ls at hl ⊢
  have hl : lv_has ls 4 [(0, .ref m0), (1, .int p0), (2, .int p1), (3, .int p2)] := hl
  refine lv_aload_n hx hb dX13_falsify_0 rfl (lv_at hl 0 rfl) ?_
  refine lv_aload_n hx hb dX13_falsify_1 rfl (lv_at hl 0 rfl) ?_
  refine lv_iload_n hx hb dX13_falsify_2 rfl (lv_at hl 1 rfl) ?_
  have hPc := hP.sub (ws' := [(m0, .inr (13, mg)), (mcA, .inl (mcC, (4, .inl (fun _ => 0))))]) [0, 1] rfl
  have hDc := hD.sub (ws' := [(m0, .inr (13, mg)), (mcA, .inl (mcC, (4, .inl (fun _ => 0))))]) [0, 1] (by decide) rfl
  have hKc := hK.sub (tys' := [(mcC, .boolean)]) [0] rfl
  have hFc := va_free (wc := [(m0, .inr (13, mg)), (mcA, .inl (mcC, (4, .inl (fun _ => 0))))]) hD hS hA [0, 1] rfl
  refine va_calli (va_runV (As := [.int p0]) (rest := [.ref m0]) ⟨hx, hb, hml, hown, hts⟩ (ct_X13_isChip l dC dI _ p0 m0 mg mcA mcC (hmg.sub [0] rfl)) (cwV 1 hts (gi_V wd_4084 wd_4086 wd_217 wd_340 wd_4087) rfl rfl rfl (by decide +kernel) ⟨(Nat.le_of_ble_eq_true rfl), (Nat.le_of_ble_eq_true rfl)⟩) ⟨fun a U g mk q => by obtain ⟨q0, q1, qP, qK, qD⟩ := q; exact ⟨q0, q1, qP, va_K.moved (u := U) (U := U.calling g mk a) (Vm.Alike.refl U.vm) qK, qD⟩, va_recv hKc hPc (ci := 13) (q0 := 0) rfl rfl, fun U hU hW => ⟨rfl, by rw [hU], by rw [hU]; exact hPc, va_K.moved hW.alike hKc, hDc.weaken (fun _ _ _ _ => trivial)⟩⟩ rfl rfl hl.1 rfl (lv_room (Nat.le_of_ble_eq_true rfl)) dX13_falsify_3 ⟨(Nat.le_of_ble_eq_true rfl), (Nat.le_of_ble_eq_true rfl)⟩) hS (fun q _ h => hFc q h) hFc (fun r u t H1 locs ht hvm hw hB hz1 hk1 hS => ?_)
  subst hw
  obtain ⟨hP1, hK1, hD1⟩ := hB
  rw [ht] at hP1
  obtain ⟨hP, hD⟩ := va_join (wr := []) (w1 := [(m0, .inr (13, mg)), (mcA, .inl (mcC, (4, .inl (fun _ => 0))))]) hP hD [0, 1] [] rfl rfl (by decide) (by decide) hk1 hFc hP1 hD1
  have hP := hP.sub (ws' := [(m0, .inr (13, mg)), (mcA, .inl (mcC, (4, .inl (fun _ => 0))))]) [0, 1] rfl
  have hD := hD.sub (ws' := [(m0, .inr (13, mg)), (mcA, .inl (mcC, (4, .inl (fun _ => 0))))]) [0, 1] (by decide) rfl
  generalize H1 = H at hP hS ⊢
  have hP : va_P (dC, dI) CL [(m0, .inr (13, mg)), (mcA, .inl (mcC, (4, .inl (fun _ => 0))))] H := hP
  have hD : va_D A [(m0, .inr (13, mg)), (mcA, .inl (mcC, (4, .inl (fun _ => 0))))] := hD
  refine lv_if_eq (tgt := 39) hx hb dX13_falsify_6 (by decide) (fun c9 => ?_) (fun c9 => ?_)
  rotate_left
  · first | exact absurd c9 (by decide +kernel) | exact absurd (by decide +kernel) c9
  refine lv_iconst (v := 1) hx hb dX13_falsify_39 (by decide +kernel) ?_
  refine lv_goto (tgt := 44) hx hb dX13_falsify_40 (by decide) ?_
  refine va_put (D := (dC, dI)) (ci := 13) (v := .int 1) (ty := tyX13 0) (C := RX13) (T := TX13) (N := 225) hx hb hts inX13 tyX13 tyX13_ok nmX13 hown hK hP hD hS 0 rfl rfl 0 (by decide) (hts (.fieldLink RX13 1 "ChipFlowModel" "code" "I") wd_3032) (fun _ h9 => h9) rfl (by decide +kernel) rfl rfl (by rw [hmg.1]; decide) dX13_falsify_44 (fun H locs hP hD hS => ?_)
  have hmg : fx (mg.set 0 (.int 1)) 225 [(0, .int 1), (138, .ref mcA)] := hmg.put (by decide) _ rfl
  obtain ⟨fs_1, e9⟩ : ∃ z, z = mg.set 0 (.int 1) := ⟨_, rfl⟩
  rw [← e9] at hmg
  have hP : va_P (dC, dI) CL [(m0, .inr (13, fs_1)), (mcA, .inl (mcC, (4, .inl (fun _ => 0))))] H := by rw [e9]; exact hP
  have hD : va_D A [(m0, .inr (13, fs_1)), (mcA, .inl (mcC, (4, .inl (fun _ => 0))))] := by rw [e9]; exact hD
  clear e9
  refine lv_aload_n hx hb dX13_falsify_47 rfl (lv_at hl 0 rfl) ?_
  refine va_get (D := (dC, dI)) (ci := 13) (v := .int 1) (C := RX13) (T := TX13) (N := 225) hx hb hts inX13 hown hK hP 0 rfl rfl 0 (by decide) (hts (.fieldLink RX13 1 "ChipFlowModel" "code" "I") wd_3032) (fun _ h9 => h9) (hmg.get 0 rfl) dX13_falsify_48 ?_
  refine lv_if_gt (tgt := 64) hx hb dX13_falsify_51 (by decide) (fun c9 => ?_) (fun c9 => ?_)
  rotate_left
  · first | exact absurd c9 (by decide +kernel) | exact absurd (by decide +kernel) c9
  refine lv_iconst (v := 0) hx hb dX13_falsify_64 (by decide +kernel) ?_
  exact W.zret (v := 0) hx hb hr rfl (fun t ht hW => ⟨⟨0, (), rfl, rfl, fs_1, hmg.sub [0] rfl, by rw [ht]; exact hP.sub [0] rfl, va_K.moved hW.alike (hK.sub [] rfl), hD.sub [0] (by decide) rfl⟩, hS.F ht⟩) hS.2.2 dX13_falsify_65
set_option maxHeartbeats 4000000 in
set_option maxRecDepth 100000 in
theorem ct_X13_path (l : Launch) (dC : Nat → ClassId) (dI : Nat → Nat → Nat) (sz : Nat) (p0 : Int32) (p1 : Int32) (p2 : Int32) (m0 : Nat) (mg : List Value) (mcA : Nat) (mcC : ClassId) (hmg : fx mg 225 [(138, .ref mcA)]) : Met l yX13_path (Cond.code yX13_path cX13_path 9 (some .int) :: BG) ({ frames := 2, cells := 0, slots := 0, locals := 33 }) (va_Pc [.ref m0, .int p0, .int p1, .int p2] (fun U => U.heap.size = sz ∧ va_P (dC, dI) CL [(m0, .inr (13, mg)), (mcA, .inl (mcC, (4, .inl (fun _ => 0))))] U.heap ∧ va_K (dC, dI) CL [(mcC, .boolean)] U ∧ va_D (fun _ => True) [(m0, .inr (13, mg)), (mcA, .inl (mcC, (4, .inl (fun _ => 0))))])) (va_Qi (fun (r : Int32) (_ : Unit) => r = 0) (fun _ t => ∃ mg1 : List Value, fx mg1 225 [(0, .int 1)] ∧ va_P (dC, dI) CL [(m0, .inr (13, mg1))] t.heap ∧ va_K (dC, dI) CL [] t ∧ va_D (va_A [(m0, .inr (13, mg)), (mcA, .inl (mcC, (4, .inl (fun _ => 0))))] sz) [(m0, .inr (13, mg1))]) (va_A [(m0, .inr (13, mg)), (mcA, .inl (mcC, (4, .inl (fun _ => 0))))] sz)) 0 0 (va_A [(m0, .inr (13, mg)), (mcA, .inl (mcC, (4, .inl (fun _ => 0))))] sz) := by
  refine Met.ofW (cc := cX13_path) (maxL := 9) (ret := (some .int)) (by decide) rfl ?_
  intro p e s m args below meth c s₁ B hml hv
  obtain ⟨rfl, hsz, hP, hK, hD0⟩ := hv
  have hx := B.exec
  have hb := B.bytes
  have hr := B.returns
  have hts : ∀ w ∈ BG, w.before _ s = true := fun w h => atoms_spec (ws := Cond.code yX13_path cX13_path 9 (some .int) :: BG) B.pre w (List.mem_cons_of_mem _ h)
  have hown : s.vm.findClass RX13 = some m.cls := findClass_of_methodNamed B.named
  have hlocks := B.notSynchronized
  subst hsz
  have hD := hD0.self (sz := s.heap.size)
  generalize hAe : va_A [(m0, .inr (13, mg)), (mcA, .inl (mcC, (4, .inl (fun _ => 0))))] s.heap.size = A at hD ⊢
  have hA : ∀ q : Nat, s.heap.size ≤ q → A q := fun q h => by rw [← hAe]; exact Or.inr h
  have hS : va_S A s.heap s.heap [] := va_S.rf
  have hl := lv_entry ([.ref m0, .int p0, .int p1, .int p2]) (n := 9) (Nat.le_of_ble_eq_true rfl)
  rw [lg_entry_eq]
  generalize (lg_sl ([.ref m0, .int p0, .int p1, .int p2]) ++ List.replicate (9 - (lg_sl ([.ref m0, .int p0, .int p1, .int p2])).length) Slot.unset).toArray = ls at hl ⊢
  have hl : lv_has ls 9 [(0, .ref m0), (1, .int p0), (2, .int p1), (3, .int p2)] := hl
  refine lv_aload_n hx hb dX13_path_0 rfl (lv_at hl 0 rfl) ?_
  refine lv_aload_n hx hb dX13_path_1 rfl (lv_at hl 0 rfl) ?_
  refine lv_iload_n hx hb dX13_path_2 rfl (lv_at hl 1 rfl) ?_
  have hPc := hP.sub (ws' := [(m0, .inr (13, mg)), (mcA, .inl (mcC, (4, .inl (fun _ => 0))))]) [0, 1] rfl
  have hDc := hD.sub (ws' := [(m0, .inr (13, mg)), (mcA, .inl (mcC, (4, .inl (fun _ => 0))))]) [0, 1] (by decide) rfl
  have hKc := hK.sub (tys' := [(mcC, .boolean)]) [0] rfl
  have hFc := va_free (wc := [(m0, .inr (13, mg)), (mcA, .inl (mcC, (4, .inl (fun _ => 0))))]) hD hS hA [0, 1] rfl
  refine va_calli (va_runV (As := [.int p0]) (rest := [.ref m0]) ⟨hx, hb, hml, hown, hts⟩ (ct_X13_isChip l dC dI _ p0 m0 mg mcA mcC (hmg.sub [0] rfl)) (cwV 1 hts (gi_V wd_4084 wd_4086 wd_217 wd_340 wd_4087) rfl rfl rfl (by decide +kernel) ⟨(Nat.le_of_ble_eq_true rfl), (Nat.le_of_ble_eq_true rfl)⟩) ⟨fun a U g mk q => by obtain ⟨q0, q1, qP, qK, qD⟩ := q; exact ⟨q0, q1, qP, va_K.moved (u := U) (U := U.calling g mk a) (Vm.Alike.refl U.vm) qK, qD⟩, va_recv hKc hPc (ci := 13) (q0 := 0) rfl rfl, fun U hU hW => ⟨rfl, by rw [hU], by rw [hU]; exact hPc, va_K.moved hW.alike hKc, hDc.weaken (fun _ _ _ _ => trivial)⟩⟩ rfl rfl hl.1 rfl (lv_room (Nat.le_of_ble_eq_true rfl)) dX13_path_3 ⟨(Nat.le_of_ble_eq_true rfl), (Nat.le_of_ble_eq_true rfl)⟩) hS (fun q _ h => hFc q h) hFc (fun r u t H1 locs ht hvm hw hB hz1 hk1 hS => ?_)
  subst hw
  obtain ⟨hP1, hK1, hD1⟩ := hB
  rw [ht] at hP1
  obtain ⟨hP, hD⟩ := va_join (wr := []) (w1 := [(m0, .inr (13, mg)), (mcA, .inl (mcC, (4, .inl (fun _ => 0))))]) hP hD [0, 1] [] rfl rfl (by decide) (by decide) hk1 hFc hP1 hD1
  have hP := hP.sub (ws' := [(m0, .inr (13, mg)), (mcA, .inl (mcC, (4, .inl (fun _ => 0))))]) [0, 1] rfl
  have hD := hD.sub (ws' := [(m0, .inr (13, mg)), (mcA, .inl (mcC, (4, .inl (fun _ => 0))))]) [0, 1] (by decide) rfl
  generalize H1 = H at hP hS ⊢
  have hP : va_P (dC, dI) CL [(m0, .inr (13, mg)), (mcA, .inl (mcC, (4, .inl (fun _ => 0))))] H := hP
  have hD : va_D A [(m0, .inr (13, mg)), (mcA, .inl (mcC, (4, .inl (fun _ => 0))))] := hD
  refine lv_if_eq (tgt := 25) hx hb dX13_path_6 (by decide) (fun c9 => ?_) (fun c9 => ?_)
  rotate_left
  · first | exact absurd c9 (by decide +kernel) | exact absurd (by decide +kernel) c9
  refine lv_iconst (v := 1) hx hb dX13_path_25 (by decide +kernel) ?_
  refine lv_goto (tgt := 30) hx hb dX13_path_26 (by decide) ?_
  refine va_put (D := (dC, dI)) (ci := 13) (v := .int 1) (ty := tyX13 0) (C := RX13) (T := TX13) (N := 225) hx hb hts inX13 tyX13 tyX13_ok nmX13 hown hK hP hD hS 0 rfl rfl 0 (by decide) (hts (.fieldLink RX13 1 "ChipFlowModel" "code" "I") wd_3032) (fun _ h9 => h9) rfl (by decide +kernel) rfl rfl (by rw [hmg.1]; decide) dX13_path_30 (fun H locs hP hD hS => ?_)
  have hmg : fx (mg.set 0 (.int 1)) 225 [(0, .int 1), (138, .ref mcA)] := hmg.put (by decide) _ rfl
  obtain ⟨fs_1, e9⟩ : ∃ z, z = mg.set 0 (.int 1) := ⟨_, rfl⟩
  rw [← e9] at hmg
  have hP : va_P (dC, dI) CL [(m0, .inr (13, fs_1)), (mcA, .inl (mcC, (4, .inl (fun _ => 0))))] H := by rw [e9]; exact hP
  have hD : va_D A [(m0, .inr (13, fs_1)), (mcA, .inl (mcC, (4, .inl (fun _ => 0))))] := by rw [e9]; exact hD
  clear e9
  refine lv_aload_n hx hb dX13_path_33 rfl (lv_at hl 0 rfl) ?_
  refine va_get (D := (dC, dI)) (ci := 13) (v := .int 1) (C := RX13) (T := TX13) (N := 225) hx hb hts inX13 hown hK hP 0 rfl rfl 0 (by decide) (hts (.fieldLink RX13 1 "ChipFlowModel" "code" "I") wd_3032) (fun _ h9 => h9) (hmg.get 0 rfl) dX13_path_34 ?_
  refine lv_if_le (tgt := 42) hx hb dX13_path_37 (by decide) (fun c9 => ?_) (fun c9 => ?_)
  · first | exact absurd c9 (by decide +kernel) | exact absurd (by decide +kernel) c9
  refine lv_iconst (v := 0) hx hb dX13_path_40 (by decide +kernel) ?_
  exact W.iret (v := 0) hx hb hr (fun t ht hW => ⟨⟨0, (), rfl, rfl, fs_1, hmg.sub [0] rfl, by rw [ht]; exact hP.sub [0] rfl, va_K.moved hW.alike (hK.sub [] rfl), hD.sub [0] (by decide) rfl⟩, hS.F ht⟩) hS.2.2 dX13_path_41
set_option maxHeartbeats 4000000 in
set_option maxRecDepth 100000 in
theorem ct_X13_wave (l : Launch) (dC : Nat → ClassId) (dI : Nat → Nat → Nat) (sz : Nat) (p0 : Int32) (p1 : Int32) (p2 : Int32) (p3 : Int32) (p4 : Int32) (m0 : Nat) (mg : List Value) (mcA : Nat) (mcC : ClassId) (hmg : fx mg 225 [(138, .ref mcA)]) : Met l yX13_wave (Cond.code yX13_wave cX13_wave 8 (some .int) :: BG) ({ frames := 3, cells := 0, slots := 0, locals := 55 }) (va_Pc [.ref m0, .int p0, .int p1, .int p2, .int p3, .int p4] (fun U => U.heap.size = sz ∧ va_P (dC, dI) CL [(m0, .inr (13, mg)), (mcA, .inl (mcC, (4, .inl (fun _ => 0))))] U.heap ∧ va_K (dC, dI) CL [(mcC, .boolean)] U ∧ va_D (fun _ => True) [(m0, .inr (13, mg)), (mcA, .inl (mcC, (4, .inl (fun _ => 0))))])) (va_Qi (fun (r : Int32) (_ : Unit) => r = 0) (fun _ t => ∃ mg1 : List Value, fx mg1 225 [(0, .int 1)] ∧ va_P (dC, dI) CL [(m0, .inr (13, mg1))] t.heap ∧ va_K (dC, dI) CL [] t ∧ va_D (va_A [(m0, .inr (13, mg)), (mcA, .inl (mcC, (4, .inl (fun _ => 0))))] sz) [(m0, .inr (13, mg1))]) (va_A [(m0, .inr (13, mg)), (mcA, .inl (mcC, (4, .inl (fun _ => 0))))] sz)) 0 0 (va_A [(m0, .inr (13, mg)), (mcA, .inl (mcC, (4, .inl (fun _ => 0))))] sz) := by
  refine Met.ofW (cc := cX13_wave) (maxL := 8) (ret := (some .int)) (by decide) rfl ?_
  intro p e s m args below meth c s₁ B hml hv
  obtain ⟨rfl, hsz, hP, hK, hD0⟩ := hv
  have hx := B.exec
  have hb := B.bytes
  have hr := B.returns
  have hts : ∀ w ∈ BG, w.before _ s = true := fun w h => atoms_spec (ws := Cond.code yX13_wave cX13_wave 8 (some .int) :: BG) B.pre w (List.mem_cons_of_mem _ h)
  have hown : s.vm.findClass RX13 = some m.cls := findClass_of_methodNamed B.named
  have hlocks := B.notSynchronized
  subst hsz
  have hD := hD0.self (sz := s.heap.size)
  generalize hAe : va_A [(m0, .inr (13, mg)), (mcA, .inl (mcC, (4, .inl (fun _ => 0))))] s.heap.size = A at hD ⊢
  have hA : ∀ q : Nat, s.heap.size ≤ q → A q := fun q h => by rw [← hAe]; exact Or.inr h
  have hS : va_S A s.heap s.heap [] := va_S.rf
  have hl := lv_entry ([.ref m0, .int p0, .int p1, .int p2, .int p3, .int p4]) (n := 8) (Nat.le_of_ble_eq_true rfl)
  rw [lg_entry_eq]
  generalize (lg_sl ([.ref m0, .int p0, .int p1, .int p2, .int p3, .int p4]) ++ List.replicate (8 - (lg_sl ([.ref m0, .int p0, .int p1, .int p2, .int p3, .int p4])).length) Slot.unset).toArray = ls at hl ⊢
  have hl : lv_has ls 8 [(0, .ref m0), (1, .int p0), (2, .int p1), (3, .int p2), (4, .int p3), (5, .int p4)] := hl
  refine lv_aload_n hx hb dX13_wave_0 rfl (lv_at hl 0 rfl) ?_
  refine lv_aload_n hx hb dX13_wave_1 rfl (lv_at hl 0 rfl) ?_
  refine lv_iload_n hx hb dX13_wave_2 rfl (lv_at hl 1 rfl) ?_
  refine lv_iload hx hb dX13_wave_3 (lv_at hl 4 rfl) ?_
  have hPc := hP.sub (ws' := [(m0, .inr (13, mg)), (mcA, .inl (mcC, (4, .inl (fun _ => 0))))]) [0, 1] rfl
  have hDc := hD.sub (ws' := [(m0, .inr (13, mg)), (mcA, .inl (mcC, (4, .inl (fun _ => 0))))]) [0, 1] (by decide) rfl
  have hKc := hK.sub (tys' := [(mcC, .boolean)]) [0] rfl
  have hFc := va_free (wc := [(m0, .inr (13, mg)), (mcA, .inl (mcC, (4, .inl (fun _ => 0))))]) hD hS hA [0, 1] rfl
  refine va_calli (va_runV (As := [.int p0, .int p3]) (rest := [.ref m0]) ⟨hx, hb, hml, hown, hts⟩ (ct_X13_isNet l dC dI _ p0 p3 m0 mg mcA mcC (hmg.sub [0] rfl)) (cwV 2 hts (gi_V wd_4397 wd_4399 wd_267 wd_340 wd_4400) rfl rfl rfl (by decide +kernel) ⟨(Nat.le_of_ble_eq_true rfl), (Nat.le_of_ble_eq_true rfl)⟩) ⟨fun a U g mk q => by obtain ⟨q0, q1, qP, qK, qD⟩ := q; exact ⟨q0, q1, qP, va_K.moved (u := U) (U := U.calling g mk a) (Vm.Alike.refl U.vm) qK, qD⟩, va_recv hKc hPc (ci := 13) (q0 := 0) rfl rfl, fun U hU hW => ⟨rfl, by rw [hU], by rw [hU]; exact hPc, va_K.moved hW.alike hKc, hDc.weaken (fun _ _ _ _ => trivial)⟩⟩ rfl rfl hl.1 rfl (lv_room (Nat.le_of_ble_eq_true rfl)) dX13_wave_5 ⟨(Nat.le_of_ble_eq_true rfl), (Nat.le_of_ble_eq_true rfl)⟩) hS (fun q _ h => hFc q h) hFc (fun r u t H1 locs ht hvm hw hB hz1 hk1 hS => ?_)
  subst hw
  obtain ⟨hP1, hK1, hD1⟩ := hB
  rw [ht] at hP1
  obtain ⟨hP, hD⟩ := va_join (wr := []) (w1 := [(m0, .inr (13, mg)), (mcA, .inl (mcC, (4, .inl (fun _ => 0))))]) hP hD [0, 1] [] rfl rfl (by decide) (by decide) hk1 hFc hP1 hD1
  have hP := hP.sub (ws' := [(m0, .inr (13, mg)), (mcA, .inl (mcC, (4, .inl (fun _ => 0))))]) [0, 1] rfl
  have hD := hD.sub (ws' := [(m0, .inr (13, mg)), (mcA, .inl (mcC, (4, .inl (fun _ => 0))))]) [0, 1] (by decide) rfl
  generalize H1 = H at hP hS ⊢
  have hP : va_P (dC, dI) CL [(m0, .inr (13, mg)), (mcA, .inl (mcC, (4, .inl (fun _ => 0))))] H := hP
  have hD : va_D A [(m0, .inr (13, mg)), (mcA, .inl (mcC, (4, .inl (fun _ => 0))))] := hD
  refine lv_if_ne (tgt := 15) hx hb dX13_wave_8 (by decide) (fun c9 => ?_) (fun c9 => ?_)
  · first | exact absurd c9 (by decide +kernel) | exact absurd (by decide +kernel) c9
  refine lv_iconst (v := 1) hx hb dX13_wave_11 (by decide +kernel) ?_
  refine lv_goto (tgt := 56) hx hb dX13_wave_12 (by decide) ?_
  refine va_put (D := (dC, dI)) (ci := 13) (v := .int 1) (ty := tyX13 0) (C := RX13) (T := TX13) (N := 225) hx hb hts inX13 tyX13 tyX13_ok nmX13 hown hK hP hD hS 0 rfl rfl 0 (by decide) (hts (.fieldLink RX13 1 "ChipFlowModel" "code" "I") wd_3032) (fun _ h9 => h9) rfl (by decide +kernel) rfl rfl (by rw [hmg.1]; decide) dX13_wave_56 (fun H locs hP hD hS => ?_)
  have hmg : fx (mg.set 0 (.int 1)) 225 [(0, .int 1), (138, .ref mcA)] := hmg.put (by decide) _ rfl
  obtain ⟨fs_1, e9⟩ : ∃ z, z = mg.set 0 (.int 1) := ⟨_, rfl⟩
  rw [← e9] at hmg
  have hP : va_P (dC, dI) CL [(m0, .inr (13, fs_1)), (mcA, .inl (mcC, (4, .inl (fun _ => 0))))] H := by rw [e9]; exact hP
  have hD : va_D A [(m0, .inr (13, fs_1)), (mcA, .inl (mcC, (4, .inl (fun _ => 0))))] := by rw [e9]; exact hD
  clear e9
  refine lv_aload_n hx hb dX13_wave_59 rfl (lv_at hl 0 rfl) ?_
  refine va_get (D := (dC, dI)) (ci := 13) (v := .int 1) (C := RX13) (T := TX13) (N := 225) hx hb hts inX13 hown hK hP 0 rfl rfl 0 (by decide) (hts (.fieldLink RX13 1 "ChipFlowModel" "code" "I") wd_3032) (fun _ h9 => h9) (hmg.get 0 rfl) dX13_wave_60 ?_
  refine lv_if_le (tgt := 68) hx hb dX13_wave_63 (by decide) (fun c9 => ?_) (fun c9 => ?_)
  · first | exact absurd c9 (by decide +kernel) | exact absurd (by decide +kernel) c9
  refine lv_iconst (v := 0) hx hb dX13_wave_66 (by decide +kernel) ?_
  exact W.iret (v := 0) hx hb hr (fun t ht hW => ⟨⟨0, (), rfl, rfl, fs_1, hmg.sub [0] rfl, by rw [ht]; exact hP.sub [0] rfl, va_K.moved hW.alike (hK.sub [] rfl), hD.sub [0] (by decide) rfl⟩, hS.F ht⟩) hS.2.2 dX13_wave_67
set_option maxHeartbeats 4000000 in
set_option maxRecDepth 100000 in
theorem ct_X13_changes (l : Launch) (dC : Nat → ClassId) (dI : Nat → Nat → Nat) (sz : Nat) (p0 : Int32) (p1 : Int32) (p2 : Int32) (p3 : Int32) (m0 : Nat) (mg : List Value) (mcA : Nat) (mcC : ClassId) (hmg : fx mg 225 [(138, .ref mcA)]) : Met l yX13_changes (Cond.code yX13_changes cX13_changes 7 (some .int) :: BG) ({ frames := 2, cells := 0, slots := 0, locals := 33 }) (va_Pc [.ref m0, .int p0, .int p1, .int p2, .int p3] (fun U => U.heap.size = sz ∧ va_P (dC, dI) CL [(m0, .inr (13, mg)), (mcA, .inl (mcC, (4, .inl (fun _ => 0))))] U.heap ∧ va_K (dC, dI) CL [(mcC, .boolean)] U ∧ va_D (fun _ => True) [(m0, .inr (13, mg)), (mcA, .inl (mcC, (4, .inl (fun _ => 0))))])) (va_Qi (fun (r : Int32) (_ : Unit) => r = 0) (fun _ t => ∃ mg1 : List Value, fx mg1 225 [(0, .int 1)] ∧ va_P (dC, dI) CL [(m0, .inr (13, mg1))] t.heap ∧ va_K (dC, dI) CL [] t ∧ va_D (va_A [(m0, .inr (13, mg)), (mcA, .inl (mcC, (4, .inl (fun _ => 0))))] sz) [(m0, .inr (13, mg1))]) (va_A [(m0, .inr (13, mg)), (mcA, .inl (mcC, (4, .inl (fun _ => 0))))] sz)) 0 0 (va_A [(m0, .inr (13, mg)), (mcA, .inl (mcC, (4, .inl (fun _ => 0))))] sz) := by
  refine Met.ofW (cc := cX13_changes) (maxL := 7) (ret := (some .int)) (by decide) rfl ?_
  intro p e s m args below meth c s₁ B hml hv
  obtain ⟨rfl, hsz, hP, hK, hD0⟩ := hv
  have hx := B.exec
  have hb := B.bytes
  have hr := B.returns
  have hts : ∀ w ∈ BG, w.before _ s = true := fun w h => atoms_spec (ws := Cond.code yX13_changes cX13_changes 7 (some .int) :: BG) B.pre w (List.mem_cons_of_mem _ h)
  have hown : s.vm.findClass RX13 = some m.cls := findClass_of_methodNamed B.named
  have hlocks := B.notSynchronized
  subst hsz
  have hD := hD0.self (sz := s.heap.size)
  generalize hAe : va_A [(m0, .inr (13, mg)), (mcA, .inl (mcC, (4, .inl (fun _ => 0))))] s.heap.size = A at hD ⊢
  have hA : ∀ q : Nat, s.heap.size ≤ q → A q := fun q h => by rw [← hAe]; exact Or.inr h
  have hS : va_S A s.heap s.heap [] := va_S.rf
  have hl := lv_entry ([.ref m0, .int p0, .int p1, .int p2, .int p3]) (n := 7) (Nat.le_of_ble_eq_true rfl)
  rw [lg_entry_eq]
  generalize (lg_sl ([.ref m0, .int p0, .int p1, .int p2, .int p3]) ++ List.replicate (7 - (lg_sl ([.ref m0, .int p0, .int p1, .int p2, .int p3])).length) Slot.unset).toArray = ls at hl ⊢
  have hl : lv_has ls 7 [(0, .ref m0), (1, .int p0), (2, .int p1), (3, .int p2), (4, .int p3)] := hl
  refine lv_aload_n hx hb dX13_changes_0 rfl (lv_at hl 0 rfl) ?_
  refine lv_aload_n hx hb dX13_changes_1 rfl (lv_at hl 0 rfl) ?_
  refine lv_iload_n hx hb dX13_changes_2 rfl (lv_at hl 1 rfl) ?_
  have hPc := hP.sub (ws' := [(m0, .inr (13, mg)), (mcA, .inl (mcC, (4, .inl (fun _ => 0))))]) [0, 1] rfl
  have hDc := hD.sub (ws' := [(m0, .inr (13, mg)), (mcA, .inl (mcC, (4, .inl (fun _ => 0))))]) [0, 1] (by decide) rfl
  have hKc := hK.sub (tys' := [(mcC, .boolean)]) [0] rfl
  have hFc := va_free (wc := [(m0, .inr (13, mg)), (mcA, .inl (mcC, (4, .inl (fun _ => 0))))]) hD hS hA [0, 1] rfl
  refine va_calli (va_runV (As := [.int p0]) (rest := [.ref m0]) ⟨hx, hb, hml, hown, hts⟩ (ct_X13_isChip l dC dI _ p0 m0 mg mcA mcC (hmg.sub [0] rfl)) (cwV 1 hts (gi_V wd_4084 wd_4086 wd_217 wd_340 wd_4087) rfl rfl rfl (by decide +kernel) ⟨(Nat.le_of_ble_eq_true rfl), (Nat.le_of_ble_eq_true rfl)⟩) ⟨fun a U g mk q => by obtain ⟨q0, q1, qP, qK, qD⟩ := q; exact ⟨q0, q1, qP, va_K.moved (u := U) (U := U.calling g mk a) (Vm.Alike.refl U.vm) qK, qD⟩, va_recv hKc hPc (ci := 13) (q0 := 0) rfl rfl, fun U hU hW => ⟨rfl, by rw [hU], by rw [hU]; exact hPc, va_K.moved hW.alike hKc, hDc.weaken (fun _ _ _ _ => trivial)⟩⟩ rfl rfl hl.1 rfl (lv_room (Nat.le_of_ble_eq_true rfl)) dX13_changes_3 ⟨(Nat.le_of_ble_eq_true rfl), (Nat.le_of_ble_eq_true rfl)⟩) hS (fun q _ h => hFc q h) hFc (fun r u t H1 locs ht hvm hw hB hz1 hk1 hS => ?_)
  subst hw
  obtain ⟨hP1, hK1, hD1⟩ := hB
  rw [ht] at hP1
  obtain ⟨hP, hD⟩ := va_join (wr := []) (w1 := [(m0, .inr (13, mg)), (mcA, .inl (mcC, (4, .inl (fun _ => 0))))]) hP hD [0, 1] [] rfl rfl (by decide) (by decide) hk1 hFc hP1 hD1
  have hP := hP.sub (ws' := [(m0, .inr (13, mg)), (mcA, .inl (mcC, (4, .inl (fun _ => 0))))]) [0, 1] rfl
  have hD := hD.sub (ws' := [(m0, .inr (13, mg)), (mcA, .inl (mcC, (4, .inl (fun _ => 0))))]) [0, 1] (by decide) rfl
  generalize H1 = H at hP hS ⊢
  have hP : va_P (dC, dI) CL [(m0, .inr (13, mg)), (mcA, .inl (mcC, (4, .inl (fun _ => 0))))] H := hP
  have hD : va_D A [(m0, .inr (13, mg)), (mcA, .inl (mcC, (4, .inl (fun _ => 0))))] := hD
  refine lv_if_eq (tgt := 25) hx hb dX13_changes_6 (by decide) (fun c9 => ?_) (fun c9 => ?_)
  rotate_left
  · first | exact absurd c9 (by decide +kernel) | exact absurd (by decide +kernel) c9
  refine lv_iconst (v := 1) hx hb dX13_changes_25 (by decide +kernel) ?_
  refine lv_goto (tgt := 58) hx hb dX13_changes_26 (by decide) ?_
  refine va_put (D := (dC, dI)) (ci := 13) (v := .int 1) (ty := tyX13 0) (C := RX13) (T := TX13) (N := 225) hx hb hts inX13 tyX13 tyX13_ok nmX13 hown hK hP hD hS 0 rfl rfl 0 (by decide) (hts (.fieldLink RX13 1 "ChipFlowModel" "code" "I") wd_3032) (fun _ h9 => h9) rfl (by decide +kernel) rfl rfl (by rw [hmg.1]; decide) dX13_changes_58 (fun H locs hP hD hS => ?_)
  have hmg : fx (mg.set 0 (.int 1)) 225 [(0, .int 1), (138, .ref mcA)] := hmg.put (by decide) _ rfl
  obtain ⟨fs_1, e9⟩ : ∃ z, z = mg.set 0 (.int 1) := ⟨_, rfl⟩
  rw [← e9] at hmg
  have hP : va_P (dC, dI) CL [(m0, .inr (13, fs_1)), (mcA, .inl (mcC, (4, .inl (fun _ => 0))))] H := by rw [e9]; exact hP
  have hD : va_D A [(m0, .inr (13, fs_1)), (mcA, .inl (mcC, (4, .inl (fun _ => 0))))] := by rw [e9]; exact hD
  clear e9
  refine lv_aload_n hx hb dX13_changes_61 rfl (lv_at hl 0 rfl) ?_
  refine va_get (D := (dC, dI)) (ci := 13) (v := .int 1) (C := RX13) (T := TX13) (N := 225) hx hb hts inX13 hown hK hP 0 rfl rfl 0 (by decide) (hts (.fieldLink RX13 1 "ChipFlowModel" "code" "I") wd_3032) (fun _ h9 => h9) (hmg.get 0 rfl) dX13_changes_62 ?_
  refine lv_if_le (tgt := 70) hx hb dX13_changes_65 (by decide) (fun c9 => ?_) (fun c9 => ?_)
  · first | exact absurd c9 (by decide +kernel) | exact absurd (by decide +kernel) c9
  refine lv_iconst (v := 0) hx hb dX13_changes_68 (by decide +kernel) ?_
  exact W.iret (v := 0) hx hb hr (fun t ht hW => ⟨⟨0, (), rfl, rfl, fs_1, hmg.sub [0] rfl, by rw [ht]; exact hP.sub [0] rfl, va_K.moved hW.alike (hK.sub [] rfl), hD.sub [0] (by decide) rfl⟩, hS.F ht⟩) hS.2.2 dX13_changes_69
set_option maxHeartbeats 4000000 in
set_option maxRecDepth 100000 in
theorem ct_X13_test (l : Launch) (dC : Nat → ClassId) (dI : Nat → Nat → Nat) (sz : Nat) (p0 : Int32) (p1 : Int32) (m0 : Nat) (mg : List Value) (mcA : Nat) (mcC : ClassId) (hmg : fx mg 225 [(138, .ref mcA)]) : Met l yX13_test (Cond.code yX13_test cX13_test 3 (some .int) :: BG) ({ frames := 2, cells := 0, slots := 0, locals := 33 }) (va_Pc [.ref m0, .int p0, .int p1] (fun U => U.heap.size = sz ∧ va_P (dC, dI) CL [(m0, .inr (13, mg)), (mcA, .inl (mcC, (4, .inl (fun _ => 0))))] U.heap ∧ va_K (dC, dI) CL [(mcC, .boolean)] U ∧ va_D (fun _ => True) [(m0, .inr (13, mg)), (mcA, .inl (mcC, (4, .inl (fun _ => 0))))])) (va_Qi (fun (r : Int32) (_ : Unit) => r = 0) (fun _ t => ∃ mg1 : List Value, fx mg1 225 [(0, .int 1)] ∧ va_P (dC, dI) CL [(m0, .inr (13, mg1))] t.heap ∧ va_K (dC, dI) CL [] t ∧ va_D (va_A [(m0, .inr (13, mg)), (mcA, .inl (mcC, (4, .inl (fun _ => 0))))] sz) [(m0, .inr (13, mg1))]) (va_A [(m0, .inr (13, mg)), (mcA, .inl (mcC, (4, .inl (fun _ => 0))))] sz)) 0 0 (va_A [(m0, .inr (13, mg)), (mcA, .inl (mcC, (4, .inl (fun _ => 0))))] sz) := by
  refine Met.ofW (cc := cX13_test) (maxL := 3) (ret := (some .int)) (by decide) rfl ?_
  intro p e s m args below meth c s₁ B hml hv
  obtain ⟨rfl, hsz, hP, hK, hD0⟩ := hv
  have hx := B.exec
  have hb := B.bytes
  have hr := B.returns
  have hts : ∀ w ∈ BG, w.before _ s = true := fun w h => atoms_spec (ws := Cond.code yX13_test cX13_test 3 (some .int) :: BG) B.pre w (List.mem_cons_of_mem _ h)
  have hown : s.vm.findClass RX13 = some m.cls := findClass_of_methodNamed B.named
  have hlocks := B.notSynchronized
  subst hsz
  have hD := hD0.self (sz := s.heap.size)
  generalize hAe : va_A [(m0, .inr (13, mg)), (mcA, .inl (mcC, (4, .inl (fun _ => 0))))] s.heap.size = A at hD ⊢
  have hA : ∀ q : Nat, s.heap.size ≤ q → A q := fun q h => by rw [← hAe]; exact Or.inr h
  have hS : va_S A s.heap s.heap [] := va_S.rf
  have hl := lv_entry ([.ref m0, .int p0, .int p1]) (n := 3) (Nat.le_of_ble_eq_true rfl)
  rw [lg_entry_eq]
  generalize (lg_sl ([.ref m0, .int p0, .int p1]) ++ List.replicate (3 - (lg_sl ([.ref m0, .int p0, .int p1])).length) Slot.unset).toArray = ls at hl ⊢
  have hl : lv_has ls 3 [(0, .ref m0), (1, .int p0), (2, .int p1)] := hl
  refine lv_aload_n hx hb dX13_test_0 rfl (lv_at hl 0 rfl) ?_
  refine lv_aload_n hx hb dX13_test_1 rfl (lv_at hl 0 rfl) ?_
  refine lv_iload_n hx hb dX13_test_2 rfl (lv_at hl 1 rfl) ?_
  have hPc := hP.sub (ws' := [(m0, .inr (13, mg)), (mcA, .inl (mcC, (4, .inl (fun _ => 0))))]) [0, 1] rfl
  have hDc := hD.sub (ws' := [(m0, .inr (13, mg)), (mcA, .inl (mcC, (4, .inl (fun _ => 0))))]) [0, 1] (by decide) rfl
  have hKc := hK.sub (tys' := [(mcC, .boolean)]) [0] rfl
  have hFc := va_free (wc := [(m0, .inr (13, mg)), (mcA, .inl (mcC, (4, .inl (fun _ => 0))))]) hD hS hA [0, 1] rfl
  refine va_calli (va_runV (As := [.int p0]) (rest := [.ref m0]) ⟨hx, hb, hml, hown, hts⟩ (ct_X13_isChip l dC dI _ p0 m0 mg mcA mcC (hmg.sub [0] rfl)) (cwV 1 hts (gi_V wd_4084 wd_4086 wd_217 wd_340 wd_4087) rfl rfl rfl (by decide +kernel) ⟨(Nat.le_of_ble_eq_true rfl), (Nat.le_of_ble_eq_true rfl)⟩) ⟨fun a U g mk q => by obtain ⟨q0, q1, qP, qK, qD⟩ := q; exact ⟨q0, q1, qP, va_K.moved (u := U) (U := U.calling g mk a) (Vm.Alike.refl U.vm) qK, qD⟩, va_recv hKc hPc (ci := 13) (q0 := 0) rfl rfl, fun U hU hW => ⟨rfl, by rw [hU], by rw [hU]; exact hPc, va_K.moved hW.alike hKc, hDc.weaken (fun _ _ _ _ => trivial)⟩⟩ rfl rfl hl.1 rfl (lv_room (Nat.le_of_ble_eq_true rfl)) dX13_test_3 ⟨(Nat.le_of_ble_eq_true rfl), (Nat.le_of_ble_eq_true rfl)⟩) hS (fun q _ h => hFc q h) hFc (fun r u t H1 locs ht hvm hw hB hz1 hk1 hS => ?_)
  subst hw
  obtain ⟨hP1, hK1, hD1⟩ := hB
  rw [ht] at hP1
  obtain ⟨hP, hD⟩ := va_join (wr := []) (w1 := [(m0, .inr (13, mg)), (mcA, .inl (mcC, (4, .inl (fun _ => 0))))]) hP hD [0, 1] [] rfl rfl (by decide) (by decide) hk1 hFc hP1 hD1
  have hP := hP.sub (ws' := [(m0, .inr (13, mg)), (mcA, .inl (mcC, (4, .inl (fun _ => 0))))]) [0, 1] rfl
  have hD := hD.sub (ws' := [(m0, .inr (13, mg)), (mcA, .inl (mcC, (4, .inl (fun _ => 0))))]) [0, 1] (by decide) rfl
  generalize H1 = H at hP hS ⊢
  have hP : va_P (dC, dI) CL [(m0, .inr (13, mg)), (mcA, .inl (mcC, (4, .inl (fun _ => 0))))] H := hP
  have hD : va_D A [(m0, .inr (13, mg)), (mcA, .inl (mcC, (4, .inl (fun _ => 0))))] := hD
  refine lv_if_eq (tgt := 22) hx hb dX13_test_6 (by decide) (fun c9 => ?_) (fun c9 => ?_)
  rotate_left
  · first | exact absurd c9 (by decide +kernel) | exact absurd (by decide +kernel) c9
  refine lv_iconst (v := 1) hx hb dX13_test_22 (by decide +kernel) ?_
  refine lv_goto (tgt := 27) hx hb dX13_test_23 (by decide) ?_
  refine va_put (D := (dC, dI)) (ci := 13) (v := .int 1) (ty := tyX13 0) (C := RX13) (T := TX13) (N := 225) hx hb hts inX13 tyX13 tyX13_ok nmX13 hown hK hP hD hS 0 rfl rfl 0 (by decide) (hts (.fieldLink RX13 1 "ChipFlowModel" "code" "I") wd_3032) (fun _ h9 => h9) rfl (by decide +kernel) rfl rfl (by rw [hmg.1]; decide) dX13_test_27 (fun H locs hP hD hS => ?_)
  have hmg : fx (mg.set 0 (.int 1)) 225 [(0, .int 1), (138, .ref mcA)] := hmg.put (by decide) _ rfl
  obtain ⟨fs_1, e9⟩ : ∃ z, z = mg.set 0 (.int 1) := ⟨_, rfl⟩
  rw [← e9] at hmg
  have hP : va_P (dC, dI) CL [(m0, .inr (13, fs_1)), (mcA, .inl (mcC, (4, .inl (fun _ => 0))))] H := by rw [e9]; exact hP
  have hD : va_D A [(m0, .inr (13, fs_1)), (mcA, .inl (mcC, (4, .inl (fun _ => 0))))] := by rw [e9]; exact hD
  clear e9
  refine lv_aload_n hx hb dX13_test_30 rfl (lv_at hl 0 rfl) ?_
  refine va_get (D := (dC, dI)) (ci := 13) (v := .int 1) (C := RX13) (T := TX13) (N := 225) hx hb hts inX13 hown hK hP 0 rfl rfl 0 (by decide) (hts (.fieldLink RX13 1 "ChipFlowModel" "code" "I") wd_3032) (fun _ h9 => h9) (hmg.get 0 rfl) dX13_test_31 ?_
  refine lv_if_le (tgt := 41) hx hb dX13_test_34 (by decide) (fun c9 => ?_) (fun c9 => ?_)
  · first | exact absurd c9 (by decide +kernel) | exact absurd (by decide +kernel) c9
  refine lv_iconst (v := 0) hx hb dX13_test_37 (by decide +kernel) ?_
  refine lv_goto (tgt := 47) hx hb dX13_test_38 (by decide) ?_
  exact W.iret (v := 0) hx hb hr (fun t ht hW => ⟨⟨0, (), rfl, rfl, fs_1, hmg.sub [0] rfl, by rw [ht]; exact hP.sub [0] rfl, va_K.moved hW.alike (hK.sub [] rfl), hD.sub [0] (by decide) rfl⟩, hS.F ht⟩) hS.2.2 dX13_test_47
set_option maxHeartbeats 4000000 in
set_option maxRecDepth 100000 in
theorem ct_X13_shows (l : Launch) (dC : Nat → ClassId) (dI : Nat → Nat → Nat) (sz : Nat) (p0 : Int32) (p1 : Int32) (p2 : Int32) (m0 : Nat) (mg : List Value) (mcA : Nat) (mcC : ClassId) (hmg : fx mg 225 [(138, .ref mcA)]) : Met l yX13_shows (Cond.code yX13_shows cX13_shows 4 (some .boolean) :: BG) ({ frames := 2, cells := 0, slots := 0, locals := 33 }) (va_Pc [.ref m0, .int p0, .int p1, .int p2] (fun U => U.heap.size = sz ∧ va_P (dC, dI) CL [(m0, .inr (13, mg)), (mcA, .inl (mcC, (4, .inl (fun _ => 0))))] U.heap ∧ va_K (dC, dI) CL [(mcC, .boolean)] U ∧ va_D (fun _ => True) [(m0, .inr (13, mg)), (mcA, .inl (mcC, (4, .inl (fun _ => 0))))])) (va_Qi (fun (r : Int32) (_ : Unit) => r = 0) (fun _ t => ∃ mg1 : List Value, fx mg1 225 [(0, .int 1)] ∧ va_P (dC, dI) CL [(m0, .inr (13, mg1))] t.heap ∧ va_K (dC, dI) CL [] t ∧ va_D (va_A [(m0, .inr (13, mg)), (mcA, .inl (mcC, (4, .inl (fun _ => 0))))] sz) [(m0, .inr (13, mg1))]) (va_A [(m0, .inr (13, mg)), (mcA, .inl (mcC, (4, .inl (fun _ => 0))))] sz)) 0 0 (va_A [(m0, .inr (13, mg)), (mcA, .inl (mcC, (4, .inl (fun _ => 0))))] sz) := by
  refine Met.ofW (cc := cX13_shows) (maxL := 4) (ret := (some .boolean)) (by decide) rfl ?_
  intro p e s m args below meth c s₁ B hml hv
  obtain ⟨rfl, hsz, hP, hK, hD0⟩ := hv
  have hx := B.exec
  have hb := B.bytes
  have hr := B.returns
  have hts : ∀ w ∈ BG, w.before _ s = true := fun w h => atoms_spec (ws := Cond.code yX13_shows cX13_shows 4 (some .boolean) :: BG) B.pre w (List.mem_cons_of_mem _ h)
  have hown : s.vm.findClass RX13 = some m.cls := findClass_of_methodNamed B.named
  have hlocks := B.notSynchronized
  subst hsz
  have hD := hD0.self (sz := s.heap.size)
  generalize hAe : va_A [(m0, .inr (13, mg)), (mcA, .inl (mcC, (4, .inl (fun _ => 0))))] s.heap.size = A at hD ⊢
  have hA : ∀ q : Nat, s.heap.size ≤ q → A q := fun q h => by rw [← hAe]; exact Or.inr h
  have hS : va_S A s.heap s.heap [] := va_S.rf
  have hl := lv_entry ([.ref m0, .int p0, .int p1, .int p2]) (n := 4) (Nat.le_of_ble_eq_true rfl)
  rw [lg_entry_eq]
  generalize (lg_sl ([.ref m0, .int p0, .int p1, .int p2]) ++ List.replicate (4 - (lg_sl ([.ref m0, .int p0, .int p1, .int p2])).length) Slot.unset).toArray = ls at hl ⊢
  have hl : lv_has ls 4 [(0, .ref m0), (1, .int p0), (2, .int p1), (3, .int p2)] := hl
  refine lv_aload_n hx hb dX13_shows_0 rfl (lv_at hl 0 rfl) ?_
  refine lv_aload_n hx hb dX13_shows_1 rfl (lv_at hl 0 rfl) ?_
  refine lv_iload_n hx hb dX13_shows_2 rfl (lv_at hl 1 rfl) ?_
  have hPc := hP.sub (ws' := [(m0, .inr (13, mg)), (mcA, .inl (mcC, (4, .inl (fun _ => 0))))]) [0, 1] rfl
  have hDc := hD.sub (ws' := [(m0, .inr (13, mg)), (mcA, .inl (mcC, (4, .inl (fun _ => 0))))]) [0, 1] (by decide) rfl
  have hKc := hK.sub (tys' := [(mcC, .boolean)]) [0] rfl
  have hFc := va_free (wc := [(m0, .inr (13, mg)), (mcA, .inl (mcC, (4, .inl (fun _ => 0))))]) hD hS hA [0, 1] rfl
  refine va_calli (va_runV (As := [.int p0]) (rest := [.ref m0]) ⟨hx, hb, hml, hown, hts⟩ (ct_X13_isChip l dC dI _ p0 m0 mg mcA mcC (hmg.sub [0] rfl)) (cwV 1 hts (gi_V wd_4084 wd_4086 wd_217 wd_340 wd_4087) rfl rfl rfl (by decide +kernel) ⟨(Nat.le_of_ble_eq_true rfl), (Nat.le_of_ble_eq_true rfl)⟩) ⟨fun a U g mk q => by obtain ⟨q0, q1, qP, qK, qD⟩ := q; exact ⟨q0, q1, qP, va_K.moved (u := U) (U := U.calling g mk a) (Vm.Alike.refl U.vm) qK, qD⟩, va_recv hKc hPc (ci := 13) (q0 := 0) rfl rfl, fun U hU hW => ⟨rfl, by rw [hU], by rw [hU]; exact hPc, va_K.moved hW.alike hKc, hDc.weaken (fun _ _ _ _ => trivial)⟩⟩ rfl rfl hl.1 rfl (lv_room (Nat.le_of_ble_eq_true rfl)) dX13_shows_3 ⟨(Nat.le_of_ble_eq_true rfl), (Nat.le_of_ble_eq_true rfl)⟩) hS (fun q _ h => hFc q h) hFc (fun r u t H1 locs ht hvm hw hB hz1 hk1 hS => ?_)
  subst hw
  obtain ⟨hP1, hK1, hD1⟩ := hB
  rw [ht] at hP1
  obtain ⟨hP, hD⟩ := va_join (wr := []) (w1 := [(m0, .inr (13, mg)), (mcA, .inl (mcC, (4, .inl (fun _ => 0))))]) hP hD [0, 1] [] rfl rfl (by decide) (by decide) hk1 hFc hP1 hD1
  have hP := hP.sub (ws' := [(m0, .inr (13, mg)), (mcA, .inl (mcC, (4, .inl (fun _ => 0))))]) [0, 1] rfl
  have hD := hD.sub (ws' := [(m0, .inr (13, mg)), (mcA, .inl (mcC, (4, .inl (fun _ => 0))))]) [0, 1] (by decide) rfl
  generalize H1 = H at hP hS ⊢
  have hP : va_P (dC, dI) CL [(m0, .inr (13, mg)), (mcA, .inl (mcC, (4, .inl (fun _ => 0))))] H := hP
  have hD : va_D A [(m0, .inr (13, mg)), (mcA, .inl (mcC, (4, .inl (fun _ => 0))))] := hD
  refine lv_if_eq (tgt := 22) hx hb dX13_shows_6 (by decide) (fun c9 => ?_) (fun c9 => ?_)
  rotate_left
  · first | exact absurd c9 (by decide +kernel) | exact absurd (by decide +kernel) c9
  refine lv_iconst (v := 1) hx hb dX13_shows_22 (by decide +kernel) ?_
  refine lv_goto (tgt := 51) hx hb dX13_shows_23 (by decide) ?_
  refine va_put (D := (dC, dI)) (ci := 13) (v := .int 1) (ty := tyX13 0) (C := RX13) (T := TX13) (N := 225) hx hb hts inX13 tyX13 tyX13_ok nmX13 hown hK hP hD hS 0 rfl rfl 0 (by decide) (hts (.fieldLink RX13 1 "ChipFlowModel" "code" "I") wd_3032) (fun _ h9 => h9) rfl (by decide +kernel) rfl rfl (by rw [hmg.1]; decide) dX13_shows_51 (fun H locs hP hD hS => ?_)
  have hmg : fx (mg.set 0 (.int 1)) 225 [(0, .int 1), (138, .ref mcA)] := hmg.put (by decide) _ rfl
  obtain ⟨fs_1, e9⟩ : ∃ z, z = mg.set 0 (.int 1) := ⟨_, rfl⟩
  rw [← e9] at hmg
  have hP : va_P (dC, dI) CL [(m0, .inr (13, fs_1)), (mcA, .inl (mcC, (4, .inl (fun _ => 0))))] H := by rw [e9]; exact hP
  have hD : va_D A [(m0, .inr (13, fs_1)), (mcA, .inl (mcC, (4, .inl (fun _ => 0))))] := by rw [e9]; exact hD
  clear e9
  refine lv_aload_n hx hb dX13_shows_54 rfl (lv_at hl 0 rfl) ?_
  refine va_get (D := (dC, dI)) (ci := 13) (v := .int 1) (C := RX13) (T := TX13) (N := 225) hx hb hts inX13 hown hK hP 0 rfl rfl 0 (by decide) (hts (.fieldLink RX13 1 "ChipFlowModel" "code" "I") wd_3032) (fun _ h9 => h9) (hmg.get 0 rfl) dX13_shows_55 ?_
  refine lv_if_le (tgt := 63) hx hb dX13_shows_58 (by decide) (fun c9 => ?_) (fun c9 => ?_)
  · first | exact absurd c9 (by decide +kernel) | exact absurd (by decide +kernel) c9
  refine lv_iconst (v := 0) hx hb dX13_shows_61 (by decide +kernel) ?_
  exact W.zret (v := 0) hx hb hr rfl (fun t ht hW => ⟨⟨0, (), rfl, rfl, fs_1, hmg.sub [0] rfl, by rw [ht]; exact hP.sub [0] rfl, va_K.moved hW.alike (hK.sub [] rfl), hD.sub [0] (by decide) rfl⟩, hS.F ht⟩) hS.2.2 dX13_shows_62
set_option maxHeartbeats 4000000 in
set_option maxRecDepth 100000 in
theorem ct_X13_tests (l : Launch) (dC : Nat → ClassId) (dI : Nat → Nat → Nat) (sz : Nat) (p0 : Int32) (m0 : Nat) (mg : List Value) (mcA : Nat) (mcC : ClassId) (hmg : fx mg 225 [(138, .ref mcA)]) : Met l yX13_tests (Cond.code yX13_tests cX13_tests 5 (some .int) :: BG) ({ frames := 2, cells := 0, slots := 0, locals := 33 }) (va_Pc [.ref m0, .int p0] (fun U => U.heap.size = sz ∧ va_P (dC, dI) CL [(m0, .inr (13, mg)), (mcA, .inl (mcC, (4, .inl (fun _ => 0))))] U.heap ∧ va_K (dC, dI) CL [(mcC, .boolean)] U ∧ va_D (fun _ => True) [(m0, .inr (13, mg)), (mcA, .inl (mcC, (4, .inl (fun _ => 0))))])) (va_Qi (fun (r : Int32) (_ : Unit) => r = 0) (fun _ t => ∃ mg1 : List Value, fx mg1 225 [(0, .int 1)] ∧ va_P (dC, dI) CL [(m0, .inr (13, mg1))] t.heap ∧ va_K (dC, dI) CL [] t ∧ va_D (va_A [(m0, .inr (13, mg)), (mcA, .inl (mcC, (4, .inl (fun _ => 0))))] sz) [(m0, .inr (13, mg1))]) (va_A [(m0, .inr (13, mg)), (mcA, .inl (mcC, (4, .inl (fun _ => 0))))] sz)) 0 0 (va_A [(m0, .inr (13, mg)), (mcA, .inl (mcC, (4, .inl (fun _ => 0))))] sz) := by
  refine Met.ofW (cc := cX13_tests) (maxL := 5) (ret := (some .int)) (by decide) rfl ?_
  intro p e s m args below meth c s₁ B hml hv
  obtain ⟨rfl, hsz, hP, hK, hD0⟩ := hv
  have hx := B.exec
  have hb := B.bytes
  have hr := B.returns
  have hts : ∀ w ∈ BG, w.before _ s = true := fun w h => atoms_spec (ws := Cond.code yX13_tests cX13_tests 5 (some .int) :: BG) B.pre w (List.mem_cons_of_mem _ h)
  have hown : s.vm.findClass RX13 = some m.cls := findClass_of_methodNamed B.named
  have hlocks := B.notSynchronized
  subst hsz
  have hD := hD0.self (sz := s.heap.size)
  generalize hAe : va_A [(m0, .inr (13, mg)), (mcA, .inl (mcC, (4, .inl (fun _ => 0))))] s.heap.size = A at hD ⊢
  have hA : ∀ q : Nat, s.heap.size ≤ q → A q := fun q h => by rw [← hAe]; exact Or.inr h
  have hS : va_S A s.heap s.heap [] := va_S.rf
  have hl := lv_entry ([.ref m0, .int p0]) (n := 5) (Nat.le_of_ble_eq_true rfl)
  rw [lg_entry_eq]
  generalize (lg_sl ([.ref m0, .int p0]) ++ List.replicate (5 - (lg_sl ([.ref m0, .int p0])).length) Slot.unset).toArray = ls at hl ⊢
  have hl : lv_has ls 5 [(0, .ref m0), (1, .int p0)] := hl
  refine lv_aload_n hx hb dX13_tests_0 rfl (lv_at hl 0 rfl) ?_
  refine lv_aload_n hx hb dX13_tests_1 rfl (lv_at hl 0 rfl) ?_
  refine lv_iload_n hx hb dX13_tests_2 rfl (lv_at hl 1 rfl) ?_
  have hPc := hP.sub (ws' := [(m0, .inr (13, mg)), (mcA, .inl (mcC, (4, .inl (fun _ => 0))))]) [0, 1] rfl
  have hDc := hD.sub (ws' := [(m0, .inr (13, mg)), (mcA, .inl (mcC, (4, .inl (fun _ => 0))))]) [0, 1] (by decide) rfl
  have hKc := hK.sub (tys' := [(mcC, .boolean)]) [0] rfl
  have hFc := va_free (wc := [(m0, .inr (13, mg)), (mcA, .inl (mcC, (4, .inl (fun _ => 0))))]) hD hS hA [0, 1] rfl
  refine va_calli (va_runV (As := [.int p0]) (rest := [.ref m0]) ⟨hx, hb, hml, hown, hts⟩ (ct_X13_isChip l dC dI _ p0 m0 mg mcA mcC (hmg.sub [0] rfl)) (cwV 1 hts (gi_V wd_4084 wd_4086 wd_217 wd_340 wd_4087) rfl rfl rfl (by decide +kernel) ⟨(Nat.le_of_ble_eq_true rfl), (Nat.le_of_ble_eq_true rfl)⟩) ⟨fun a U g mk q => by obtain ⟨q0, q1, qP, qK, qD⟩ := q; exact ⟨q0, q1, qP, va_K.moved (u := U) (U := U.calling g mk a) (Vm.Alike.refl U.vm) qK, qD⟩, va_recv hKc hPc (ci := 13) (q0 := 0) rfl rfl, fun U hU hW => ⟨rfl, by rw [hU], by rw [hU]; exact hPc, va_K.moved hW.alike hKc, hDc.weaken (fun _ _ _ _ => trivial)⟩⟩ rfl rfl hl.1 rfl (lv_room (Nat.le_of_ble_eq_true rfl)) dX13_tests_3 ⟨(Nat.le_of_ble_eq_true rfl), (Nat.le_of_ble_eq_true rfl)⟩) hS (fun q _ h => hFc q h) hFc (fun r u t H1 locs ht hvm hw hB hz1 hk1 hS => ?_)
  subst hw
  obtain ⟨hP1, hK1, hD1⟩ := hB
  rw [ht] at hP1
  obtain ⟨hP, hD⟩ := va_join (wr := []) (w1 := [(m0, .inr (13, mg)), (mcA, .inl (mcC, (4, .inl (fun _ => 0))))]) hP hD [0, 1] [] rfl rfl (by decide) (by decide) hk1 hFc hP1 hD1
  have hP := hP.sub (ws' := [(m0, .inr (13, mg)), (mcA, .inl (mcC, (4, .inl (fun _ => 0))))]) [0, 1] rfl
  have hD := hD.sub (ws' := [(m0, .inr (13, mg)), (mcA, .inl (mcC, (4, .inl (fun _ => 0))))]) [0, 1] (by decide) rfl
  generalize H1 = H at hP hS ⊢
  have hP : va_P (dC, dI) CL [(m0, .inr (13, mg)), (mcA, .inl (mcC, (4, .inl (fun _ => 0))))] H := hP
  have hD : va_D A [(m0, .inr (13, mg)), (mcA, .inl (mcC, (4, .inl (fun _ => 0))))] := hD
  refine lv_if_eq (tgt := 13) hx hb dX13_tests_6 (by decide) (fun c9 => ?_) (fun c9 => ?_)
  rotate_left
  · first | exact absurd c9 (by decide +kernel) | exact absurd (by decide +kernel) c9
  refine lv_iconst (v := 1) hx hb dX13_tests_13 (by decide +kernel) ?_
  refine va_put (D := (dC, dI)) (ci := 13) (v := .int 1) (ty := tyX13 0) (C := RX13) (T := TX13) (N := 225) hx hb hts inX13 tyX13 tyX13_ok nmX13 hown hK hP hD hS 0 rfl rfl 0 (by decide) (hts (.fieldLink RX13 1 "ChipFlowModel" "code" "I") wd_3032) (fun _ h9 => h9) rfl (by decide +kernel) rfl rfl (by rw [hmg.1]; decide) dX13_tests_14 (fun H locs hP hD hS => ?_)
  have hmg : fx (mg.set 0 (.int 1)) 225 [(0, .int 1), (138, .ref mcA)] := hmg.put (by decide) _ rfl
  obtain ⟨fs_1, e9⟩ : ∃ z, z = mg.set 0 (.int 1) := ⟨_, rfl⟩
  rw [← e9] at hmg
  have hP : va_P (dC, dI) CL [(m0, .inr (13, fs_1)), (mcA, .inl (mcC, (4, .inl (fun _ => 0))))] H := by rw [e9]; exact hP
  have hD : va_D A [(m0, .inr (13, fs_1)), (mcA, .inl (mcC, (4, .inl (fun _ => 0))))] := by rw [e9]; exact hD
  clear e9
  refine lv_aload_n hx hb dX13_tests_17 rfl (lv_at hl 0 rfl) ?_
  refine va_get (D := (dC, dI)) (ci := 13) (v := .int 1) (C := RX13) (T := TX13) (N := 225) hx hb hts inX13 hown hK hP 0 rfl rfl 0 (by decide) (hts (.fieldLink RX13 1 "ChipFlowModel" "code" "I") wd_3032) (fun _ h9 => h9) (hmg.get 0 rfl) dX13_tests_18 ?_
  refine lv_if_le (tgt := 26) hx hb dX13_tests_21 (by decide) (fun c9 => ?_) (fun c9 => ?_)
  · first | exact absurd c9 (by decide +kernel) | exact absurd (by decide +kernel) c9
  refine lv_iconst (v := 0) hx hb dX13_tests_24 (by decide +kernel) ?_
  exact W.iret (v := 0) hx hb hr (fun t ht hW => ⟨⟨0, (), rfl, rfl, fs_1, hmg.sub [0] rfl, by rw [ht]; exact hP.sub [0] rfl, va_K.moved hW.alike (hK.sub [] rfl), hD.sub [0] (by decide) rfl⟩, hS.F ht⟩) hS.2.2 dX13_tests_25
set_option maxHeartbeats 4000000 in
set_option maxRecDepth 100000 in
theorem ct_X13_pattern (l : Launch) (dC : Nat → ClassId) (dI : Nat → Nat → Nat) (sz : Nat) (p0 : Int32) (p1 : Int32) (m0 : Nat) (mg : List Value) (mcA : Nat) (mcC : ClassId) (hmg : fx mg 225 [(138, .ref mcA)]) : Met l yX13_pattern (Cond.code yX13_pattern cX13_pattern 3 (some .int) :: BG) ({ frames := 3, cells := 0, slots := 0, locals := 55 }) (va_Pc [.ref m0, .int p0, .int p1] (fun U => U.heap.size = sz ∧ va_P (dC, dI) CL [(m0, .inr (13, mg)), (mcA, .inl (mcC, (4, .inl (fun _ => 0))))] U.heap ∧ va_K (dC, dI) CL [(mcC, .boolean)] U ∧ va_D (fun _ => True) [(m0, .inr (13, mg)), (mcA, .inl (mcC, (4, .inl (fun _ => 0))))])) (va_Qi (fun (r : Int32) (_ : Unit) => r = 0) (fun _ t => ∃ mg1 : List Value, fx mg1 225 [(0, .int 1)] ∧ va_P (dC, dI) CL [(m0, .inr (13, mg1))] t.heap ∧ va_K (dC, dI) CL [] t ∧ va_D (va_A [(m0, .inr (13, mg)), (mcA, .inl (mcC, (4, .inl (fun _ => 0))))] sz) [(m0, .inr (13, mg1))]) (va_A [(m0, .inr (13, mg)), (mcA, .inl (mcC, (4, .inl (fun _ => 0))))] sz)) 0 0 (va_A [(m0, .inr (13, mg)), (mcA, .inl (mcC, (4, .inl (fun _ => 0))))] sz) := by
  refine Met.ofW (cc := cX13_pattern) (maxL := 3) (ret := (some .int)) (by decide) rfl ?_
  intro p e s m args below meth c s₁ B hml hv
  obtain ⟨rfl, hsz, hP, hK, hD0⟩ := hv
  have hx := B.exec
  have hb := B.bytes
  have hr := B.returns
  have hts : ∀ w ∈ BG, w.before _ s = true := fun w h => atoms_spec (ws := Cond.code yX13_pattern cX13_pattern 3 (some .int) :: BG) B.pre w (List.mem_cons_of_mem _ h)
  have hown : s.vm.findClass RX13 = some m.cls := findClass_of_methodNamed B.named
  have hlocks := B.notSynchronized
  subst hsz
  have hD := hD0.self (sz := s.heap.size)
  generalize hAe : va_A [(m0, .inr (13, mg)), (mcA, .inl (mcC, (4, .inl (fun _ => 0))))] s.heap.size = A at hD ⊢
  have hA : ∀ q : Nat, s.heap.size ≤ q → A q := fun q h => by rw [← hAe]; exact Or.inr h
  have hS : va_S A s.heap s.heap [] := va_S.rf
  have hl := lv_entry ([.ref m0, .int p0, .int p1]) (n := 3) (Nat.le_of_ble_eq_true rfl)
  rw [lg_entry_eq]
  generalize (lg_sl ([.ref m0, .int p0, .int p1]) ++ List.replicate (3 - (lg_sl ([.ref m0, .int p0, .int p1])).length) Slot.unset).toArray = ls at hl ⊢
  have hl : lv_has ls 3 [(0, .ref m0), (1, .int p0), (2, .int p1)] := hl
  refine lv_aload_n hx hb dX13_pattern_0 rfl (lv_at hl 0 rfl) ?_
  refine lv_aload_n hx hb dX13_pattern_1 rfl (lv_at hl 0 rfl) ?_
  refine lv_iload_n hx hb dX13_pattern_2 rfl (lv_at hl 1 rfl) ?_
  refine lv_iload_n hx hb dX13_pattern_3 rfl (lv_at hl 2 rfl) ?_
  have hPc := hP.sub (ws' := [(m0, .inr (13, mg)), (mcA, .inl (mcC, (4, .inl (fun _ => 0))))]) [0, 1] rfl
  have hDc := hD.sub (ws' := [(m0, .inr (13, mg)), (mcA, .inl (mcC, (4, .inl (fun _ => 0))))]) [0, 1] (by decide) rfl
  have hKc := hK.sub (tys' := [(mcC, .boolean)]) [0] rfl
  have hFc := va_free (wc := [(m0, .inr (13, mg)), (mcA, .inl (mcC, (4, .inl (fun _ => 0))))]) hD hS hA [0, 1] rfl
  refine va_calli (va_runV (As := [.int p0, .int p1]) (rest := [.ref m0]) ⟨hx, hb, hml, hown, hts⟩ (ct_X13_patternCode l dC dI _ p0 p1 m0 mg mcA mcC (hmg.sub [0] rfl)) (cwV 2 hts (gi_V wd_4709 wd_4711 wd_324 wd_340 wd_4712) rfl rfl rfl (by decide +kernel) ⟨(Nat.le_of_ble_eq_true rfl), (Nat.le_of_ble_eq_true rfl)⟩) ⟨fun a U g mk q => by obtain ⟨q0, q1, qP, qK, qD⟩ := q; exact ⟨q0, q1, qP, va_K.moved (u := U) (U := U.calling g mk a) (Vm.Alike.refl U.vm) qK, qD⟩, va_recv hKc hPc (ci := 13) (q0 := 0) rfl rfl, fun U hU hW => ⟨rfl, by rw [hU], by rw [hU]; exact hPc, va_K.moved hW.alike hKc, hDc.weaken (fun _ _ _ _ => trivial)⟩⟩ rfl rfl hl.1 rfl (lv_room (Nat.le_of_ble_eq_true rfl)) dX13_pattern_4 ⟨(Nat.le_of_ble_eq_true rfl), (Nat.le_of_ble_eq_true rfl)⟩) hS (fun q _ h => hFc q h) hFc (fun r u t H1 locs ht hvm hw hB hz1 hk1 hS => ?_)
  subst hw
  obtain ⟨hP1, hK1, hD1⟩ := hB
  rw [ht] at hP1
  obtain ⟨hP, hD⟩ := va_join (wr := []) (w1 := [(m0, .inr (13, mg)), (mcA, .inl (mcC, (4, .inl (fun _ => 0))))]) hP hD [0, 1] [] rfl rfl (by decide) (by decide) hk1 hFc hP1 hD1
  have hP := hP.sub (ws' := [(m0, .inr (13, mg)), (mcA, .inl (mcC, (4, .inl (fun _ => 0))))]) [0, 1] rfl
  have hD := hD.sub (ws' := [(m0, .inr (13, mg)), (mcA, .inl (mcC, (4, .inl (fun _ => 0))))]) [0, 1] (by decide) rfl
  generalize H1 = H at hP hS ⊢
  have hP : va_P (dC, dI) CL [(m0, .inr (13, mg)), (mcA, .inl (mcC, (4, .inl (fun _ => 0))))] H := hP
  have hD : va_D A [(m0, .inr (13, mg)), (mcA, .inl (mcC, (4, .inl (fun _ => 0))))] := hD
  refine va_put (D := (dC, dI)) (ci := 13) (v := .int 1) (ty := tyX13 0) (C := RX13) (T := TX13) (N := 225) hx hb hts inX13 tyX13 tyX13_ok nmX13 hown hK hP hD hS 0 rfl rfl 0 (by decide) (hts (.fieldLink RX13 1 "ChipFlowModel" "code" "I") wd_3032) (fun _ h9 => h9) rfl (by decide +kernel) rfl rfl (by rw [hmg.1]; decide) dX13_pattern_7 (fun H locs hP hD hS => ?_)
  have hmg : fx (mg.set 0 (.int 1)) 225 [(0, .int 1), (138, .ref mcA)] := hmg.put (by decide) _ rfl
  obtain ⟨fs_1, e9⟩ : ∃ z, z = mg.set 0 (.int 1) := ⟨_, rfl⟩
  rw [← e9] at hmg
  have hP : va_P (dC, dI) CL [(m0, .inr (13, fs_1)), (mcA, .inl (mcC, (4, .inl (fun _ => 0))))] H := by rw [e9]; exact hP
  have hD : va_D A [(m0, .inr (13, fs_1)), (mcA, .inl (mcC, (4, .inl (fun _ => 0))))] := by rw [e9]; exact hD
  clear e9
  refine lv_aload_n hx hb dX13_pattern_10 rfl (lv_at hl 0 rfl) ?_
  refine va_get (D := (dC, dI)) (ci := 13) (v := .int 1) (C := RX13) (T := TX13) (N := 225) hx hb hts inX13 hown hK hP 0 rfl rfl 0 (by decide) (hts (.fieldLink RX13 1 "ChipFlowModel" "code" "I") wd_3032) (fun _ h9 => h9) (hmg.get 0 rfl) dX13_pattern_11 ?_
  refine lv_if_le (tgt := 21) hx hb dX13_pattern_14 (by decide) (fun c9 => ?_) (fun c9 => ?_)
  · first | exact absurd c9 (by decide +kernel) | exact absurd (by decide +kernel) c9
  refine lv_iconst (v := 0) hx hb dX13_pattern_17 (by decide +kernel) ?_
  refine lv_goto (tgt := 33) hx hb dX13_pattern_18 (by decide) ?_
  exact W.iret (v := 0) hx hb hr (fun t ht hW => ⟨⟨0, (), rfl, rfl, fs_1, hmg.sub [0] rfl, by rw [ht]; exact hP.sub [0] rfl, va_K.moved hW.alike (hK.sub [] rfl), hD.sub [0] (by decide) rfl⟩, hS.F ht⟩) hS.2.2 dX13_pattern_33
set_option maxHeartbeats 4000000 in
set_option maxRecDepth 100000 in
theorem ct_X13_fails (l : Launch) (dC : Nat → ClassId) (dI : Nat → Nat → Nat) (sz : Nat) (p0 : Int32) (p1 : Int32) (p2 : Int32) (m0 : Nat) (mg : List Value) (mcA : Nat) (mcC : ClassId) (hmg : fx mg 225 [(138, .ref mcA)]) : Met l yX13_fails (Cond.code yX13_fails cX13_fails 5 (some .boolean) :: BG) ({ frames := 3, cells := 0, slots := 0, locals := 55 }) (va_Pc [.ref m0, .int p0, .int p1, .int p2] (fun U => U.heap.size = sz ∧ va_P (dC, dI) CL [(m0, .inr (13, mg)), (mcA, .inl (mcC, (4, .inl (fun _ => 0))))] U.heap ∧ va_K (dC, dI) CL [(mcC, .boolean)] U ∧ va_D (fun _ => True) [(m0, .inr (13, mg)), (mcA, .inl (mcC, (4, .inl (fun _ => 0))))])) (va_Qi (fun (r : Int32) (_ : Unit) => r = 0) (fun _ t => ∃ mg1 : List Value, fx mg1 225 [(0, .int 1)] ∧ va_P (dC, dI) CL [(m0, .inr (13, mg1))] t.heap ∧ va_K (dC, dI) CL [] t ∧ va_D (va_A [(m0, .inr (13, mg)), (mcA, .inl (mcC, (4, .inl (fun _ => 0))))] sz) [(m0, .inr (13, mg1))]) (va_A [(m0, .inr (13, mg)), (mcA, .inl (mcC, (4, .inl (fun _ => 0))))] sz)) 0 0 (va_A [(m0, .inr (13, mg)), (mcA, .inl (mcC, (4, .inl (fun _ => 0))))] sz) := by
  refine Met.ofW (cc := cX13_fails) (maxL := 5) (ret := (some .boolean)) (by decide) rfl ?_
  intro p e s m args below meth c s₁ B hml hv
  obtain ⟨rfl, hsz, hP, hK, hD0⟩ := hv
  have hx := B.exec
  have hb := B.bytes
  have hr := B.returns
  have hts : ∀ w ∈ BG, w.before _ s = true := fun w h => atoms_spec (ws := Cond.code yX13_fails cX13_fails 5 (some .boolean) :: BG) B.pre w (List.mem_cons_of_mem _ h)
  have hown : s.vm.findClass RX13 = some m.cls := findClass_of_methodNamed B.named
  have hlocks := B.notSynchronized
  subst hsz
  have hD := hD0.self (sz := s.heap.size)
  generalize hAe : va_A [(m0, .inr (13, mg)), (mcA, .inl (mcC, (4, .inl (fun _ => 0))))] s.heap.size = A at hD ⊢
  have hA : ∀ q : Nat, s.heap.size ≤ q → A q := fun q h => by rw [← hAe]; exact Or.inr h
  have hS : va_S A s.heap s.heap [] := va_S.rf
  have hl := lv_entry ([.ref m0, .int p0, .int p1, .int p2]) (n := 5) (Nat.le_of_ble_eq_true rfl)
  rw [lg_entry_eq]
  generalize (lg_sl ([.ref m0, .int p0, .int p1, .int p2]) ++ List.replicate (5 - (lg_sl ([.ref m0, .int p0, .int p1, .int p2])).length) Slot.unset).toArray = ls at hl ⊢
  have hl : lv_has ls 5 [(0, .ref m0), (1, .int p0), (2, .int p1), (3, .int p2)] := hl
  refine lv_aload_n hx hb dX13_fails_0 rfl (lv_at hl 0 rfl) ?_
  refine lv_aload_n hx hb dX13_fails_1 rfl (lv_at hl 0 rfl) ?_
  refine lv_iload_n hx hb dX13_fails_2 rfl (lv_at hl 1 rfl) ?_
  refine lv_iload_n hx hb dX13_fails_3 rfl (lv_at hl 2 rfl) ?_
  have hPc := hP.sub (ws' := [(m0, .inr (13, mg)), (mcA, .inl (mcC, (4, .inl (fun _ => 0))))]) [0, 1] rfl
  have hDc := hD.sub (ws' := [(m0, .inr (13, mg)), (mcA, .inl (mcC, (4, .inl (fun _ => 0))))]) [0, 1] (by decide) rfl
  have hKc := hK.sub (tys' := [(mcC, .boolean)]) [0] rfl
  have hFc := va_free (wc := [(m0, .inr (13, mg)), (mcA, .inl (mcC, (4, .inl (fun _ => 0))))]) hD hS hA [0, 1] rfl
  refine va_calli (va_runV (As := [.int p0, .int p1]) (rest := [.ref m0]) ⟨hx, hb, hml, hown, hts⟩ (ct_X13_patternCode l dC dI _ p0 p1 m0 mg mcA mcC (hmg.sub [0] rfl)) (cwV 2 hts (gi_V wd_4709 wd_4711 wd_324 wd_340 wd_4712) rfl rfl rfl (by decide +kernel) ⟨(Nat.le_of_ble_eq_true rfl), (Nat.le_of_ble_eq_true rfl)⟩) ⟨fun a U g mk q => by obtain ⟨q0, q1, qP, qK, qD⟩ := q; exact ⟨q0, q1, qP, va_K.moved (u := U) (U := U.calling g mk a) (Vm.Alike.refl U.vm) qK, qD⟩, va_recv hKc hPc (ci := 13) (q0 := 0) rfl rfl, fun U hU hW => ⟨rfl, by rw [hU], by rw [hU]; exact hPc, va_K.moved hW.alike hKc, hDc.weaken (fun _ _ _ _ => trivial)⟩⟩ rfl rfl hl.1 rfl (lv_room (Nat.le_of_ble_eq_true rfl)) dX13_fails_4 ⟨(Nat.le_of_ble_eq_true rfl), (Nat.le_of_ble_eq_true rfl)⟩) hS (fun q _ h => hFc q h) hFc (fun r u t H1 locs ht hvm hw hB hz1 hk1 hS => ?_)
  subst hw
  obtain ⟨hP1, hK1, hD1⟩ := hB
  rw [ht] at hP1
  obtain ⟨hP, hD⟩ := va_join (wr := []) (w1 := [(m0, .inr (13, mg)), (mcA, .inl (mcC, (4, .inl (fun _ => 0))))]) hP hD [0, 1] [] rfl rfl (by decide) (by decide) hk1 hFc hP1 hD1
  have hP := hP.sub (ws' := [(m0, .inr (13, mg)), (mcA, .inl (mcC, (4, .inl (fun _ => 0))))]) [0, 1] rfl
  have hD := hD.sub (ws' := [(m0, .inr (13, mg)), (mcA, .inl (mcC, (4, .inl (fun _ => 0))))]) [0, 1] (by decide) rfl
  generalize H1 = H at hP hS ⊢
  have hP : va_P (dC, dI) CL [(m0, .inr (13, mg)), (mcA, .inl (mcC, (4, .inl (fun _ => 0))))] H := hP
  have hD : va_D A [(m0, .inr (13, mg)), (mcA, .inl (mcC, (4, .inl (fun _ => 0))))] := hD
  refine va_put (D := (dC, dI)) (ci := 13) (v := .int 1) (ty := tyX13 0) (C := RX13) (T := TX13) (N := 225) hx hb hts inX13 tyX13 tyX13_ok nmX13 hown hK hP hD hS 0 rfl rfl 0 (by decide) (hts (.fieldLink RX13 1 "ChipFlowModel" "code" "I") wd_3032) (fun _ h9 => h9) rfl (by decide +kernel) rfl rfl (by rw [hmg.1]; decide) dX13_fails_7 (fun H locs hP hD hS => ?_)
  have hmg : fx (mg.set 0 (.int 1)) 225 [(0, .int 1), (138, .ref mcA)] := hmg.put (by decide) _ rfl
  obtain ⟨fs_1, e9⟩ : ∃ z, z = mg.set 0 (.int 1) := ⟨_, rfl⟩
  rw [← e9] at hmg
  have hP : va_P (dC, dI) CL [(m0, .inr (13, fs_1)), (mcA, .inl (mcC, (4, .inl (fun _ => 0))))] H := by rw [e9]; exact hP
  have hD : va_D A [(m0, .inr (13, fs_1)), (mcA, .inl (mcC, (4, .inl (fun _ => 0))))] := by rw [e9]; exact hD
  clear e9
  refine lv_aload_n hx hb dX13_fails_10 rfl (lv_at hl 0 rfl) ?_
  refine va_get (D := (dC, dI)) (ci := 13) (v := .int 1) (C := RX13) (T := TX13) (N := 225) hx hb hts inX13 hown hK hP 0 rfl rfl 0 (by decide) (hts (.fieldLink RX13 1 "ChipFlowModel" "code" "I") wd_3032) (fun _ h9 => h9) (hmg.get 0 rfl) dX13_fails_11 ?_
  refine lv_if_le (tgt := 19) hx hb dX13_fails_14 (by decide) (fun c9 => ?_) (fun c9 => ?_)
  · first | exact absurd c9 (by decide +kernel) | exact absurd (by decide +kernel) c9
  refine lv_iconst (v := 0) hx hb dX13_fails_17 (by decide +kernel) ?_
  exact W.zret (v := 0) hx hb hr rfl (fun t ht hW => ⟨⟨0, (), rfl, rfl, fs_1, hmg.sub [0] rfl, by rw [ht]; exact hP.sub [0] rfl, va_K.moved hW.alike (hK.sub [] rfl), hD.sub [0] (by decide) rfl⟩, hS.F ht⟩) hS.2.2 dX13_fails_18
set_option maxHeartbeats 4000000 in
set_option maxRecDepth 100000 in
theorem ct_X13_suspect (l : Launch) (dC : Nat → ClassId) (dI : Nat → Nat → Nat) (sz : Nat) (p0 : Int32) (p1 : Int32) (m0 : Nat) (mg : List Value) (mcA : Nat) (mcC : ClassId) (hmg : fx mg 225 [(138, .ref mcA)]) : Met l yX13_suspect (Cond.code yX13_suspect cX13_suspect 5 (some .int) :: BG) ({ frames := 2, cells := 0, slots := 0, locals := 33 }) (va_Pc [.ref m0, .int p0, .int p1] (fun U => U.heap.size = sz ∧ va_P (dC, dI) CL [(m0, .inr (13, mg)), (mcA, .inl (mcC, (4, .inl (fun _ => 0))))] U.heap ∧ va_K (dC, dI) CL [(mcC, .boolean)] U ∧ va_D (fun _ => True) [(m0, .inr (13, mg)), (mcA, .inl (mcC, (4, .inl (fun _ => 0))))])) (va_Qi (fun (r : Int32) (_ : Unit) => r = 0) (fun _ t => ∃ mg1 : List Value, fx mg1 225 [(0, .int 1)] ∧ va_P (dC, dI) CL [(m0, .inr (13, mg1))] t.heap ∧ va_K (dC, dI) CL [] t ∧ va_D (va_A [(m0, .inr (13, mg)), (mcA, .inl (mcC, (4, .inl (fun _ => 0))))] sz) [(m0, .inr (13, mg1))]) (va_A [(m0, .inr (13, mg)), (mcA, .inl (mcC, (4, .inl (fun _ => 0))))] sz)) 0 0 (va_A [(m0, .inr (13, mg)), (mcA, .inl (mcC, (4, .inl (fun _ => 0))))] sz) := by
  refine Met.ofW (cc := cX13_suspect) (maxL := 5) (ret := (some .int)) (by decide) rfl ?_
  intro p e s m args below meth c s₁ B hml hv
  obtain ⟨rfl, hsz, hP, hK, hD0⟩ := hv
  have hx := B.exec
  have hb := B.bytes
  have hr := B.returns
  have hts : ∀ w ∈ BG, w.before _ s = true := fun w h => atoms_spec (ws := Cond.code yX13_suspect cX13_suspect 5 (some .int) :: BG) B.pre w (List.mem_cons_of_mem _ h)
  have hown : s.vm.findClass RX13 = some m.cls := findClass_of_methodNamed B.named
  have hlocks := B.notSynchronized
  subst hsz
  have hD := hD0.self (sz := s.heap.size)
  generalize hAe : va_A [(m0, .inr (13, mg)), (mcA, .inl (mcC, (4, .inl (fun _ => 0))))] s.heap.size = A at hD ⊢
  have hA : ∀ q : Nat, s.heap.size ≤ q → A q := fun q h => by rw [← hAe]; exact Or.inr h
  have hS : va_S A s.heap s.heap [] := va_S.rf
  have hl := lv_entry ([.ref m0, .int p0, .int p1]) (n := 5) (Nat.le_of_ble_eq_true rfl)
  rw [lg_entry_eq]
  generalize (lg_sl ([.ref m0, .int p0, .int p1]) ++ List.replicate (5 - (lg_sl ([.ref m0, .int p0, .int p1])).length) Slot.unset).toArray = ls at hl ⊢
  have hl : lv_has ls 5 [(0, .ref m0), (1, .int p0), (2, .int p1)] := hl
  refine lv_aload_n hx hb dX13_suspect_0 rfl (lv_at hl 0 rfl) ?_
  refine lv_aload_n hx hb dX13_suspect_1 rfl (lv_at hl 0 rfl) ?_
  refine lv_iload_n hx hb dX13_suspect_2 rfl (lv_at hl 1 rfl) ?_
  have hPc := hP.sub (ws' := [(m0, .inr (13, mg)), (mcA, .inl (mcC, (4, .inl (fun _ => 0))))]) [0, 1] rfl
  have hDc := hD.sub (ws' := [(m0, .inr (13, mg)), (mcA, .inl (mcC, (4, .inl (fun _ => 0))))]) [0, 1] (by decide) rfl
  have hKc := hK.sub (tys' := [(mcC, .boolean)]) [0] rfl
  have hFc := va_free (wc := [(m0, .inr (13, mg)), (mcA, .inl (mcC, (4, .inl (fun _ => 0))))]) hD hS hA [0, 1] rfl
  refine va_calli (va_runV (As := [.int p0]) (rest := [.ref m0]) ⟨hx, hb, hml, hown, hts⟩ (ct_X13_isChip l dC dI _ p0 m0 mg mcA mcC (hmg.sub [0] rfl)) (cwV 1 hts (gi_V wd_4084 wd_4086 wd_217 wd_340 wd_4087) rfl rfl rfl (by decide +kernel) ⟨(Nat.le_of_ble_eq_true rfl), (Nat.le_of_ble_eq_true rfl)⟩) ⟨fun a U g mk q => by obtain ⟨q0, q1, qP, qK, qD⟩ := q; exact ⟨q0, q1, qP, va_K.moved (u := U) (U := U.calling g mk a) (Vm.Alike.refl U.vm) qK, qD⟩, va_recv hKc hPc (ci := 13) (q0 := 0) rfl rfl, fun U hU hW => ⟨rfl, by rw [hU], by rw [hU]; exact hPc, va_K.moved hW.alike hKc, hDc.weaken (fun _ _ _ _ => trivial)⟩⟩ rfl rfl hl.1 rfl (lv_room (Nat.le_of_ble_eq_true rfl)) dX13_suspect_3 ⟨(Nat.le_of_ble_eq_true rfl), (Nat.le_of_ble_eq_true rfl)⟩) hS (fun q _ h => hFc q h) hFc (fun r u t H1 locs ht hvm hw hB hz1 hk1 hS => ?_)
  subst hw
  obtain ⟨hP1, hK1, hD1⟩ := hB
  rw [ht] at hP1
  obtain ⟨hP, hD⟩ := va_join (wr := []) (w1 := [(m0, .inr (13, mg)), (mcA, .inl (mcC, (4, .inl (fun _ => 0))))]) hP hD [0, 1] [] rfl rfl (by decide) (by decide) hk1 hFc hP1 hD1
  have hP := hP.sub (ws' := [(m0, .inr (13, mg)), (mcA, .inl (mcC, (4, .inl (fun _ => 0))))]) [0, 1] rfl
  have hD := hD.sub (ws' := [(m0, .inr (13, mg)), (mcA, .inl (mcC, (4, .inl (fun _ => 0))))]) [0, 1] (by decide) rfl
  generalize H1 = H at hP hS ⊢
  have hP : va_P (dC, dI) CL [(m0, .inr (13, mg)), (mcA, .inl (mcC, (4, .inl (fun _ => 0))))] H := hP
  have hD : va_D A [(m0, .inr (13, mg)), (mcA, .inl (mcC, (4, .inl (fun _ => 0))))] := hD
  refine lv_if_eq (tgt := 13) hx hb dX13_suspect_6 (by decide) (fun c9 => ?_) (fun c9 => ?_)
  rotate_left
  · first | exact absurd c9 (by decide +kernel) | exact absurd (by decide +kernel) c9
  refine lv_iconst (v := 1) hx hb dX13_suspect_13 (by decide +kernel) ?_
  refine lv_goto (tgt := 32) hx hb dX13_suspect_14 (by decide) ?_
  refine va_put (D := (dC, dI)) (ci := 13) (v := .int 1) (ty := tyX13 0) (C := RX13) (T := TX13) (N := 225) hx hb hts inX13 tyX13 tyX13_ok nmX13 hown hK hP hD hS 0 rfl rfl 0 (by decide) (hts (.fieldLink RX13 1 "ChipFlowModel" "code" "I") wd_3032) (fun _ h9 => h9) rfl (by decide +kernel) rfl rfl (by rw [hmg.1]; decide) dX13_suspect_32 (fun H locs hP hD hS => ?_)
  have hmg : fx (mg.set 0 (.int 1)) 225 [(0, .int 1), (138, .ref mcA)] := hmg.put (by decide) _ rfl
  obtain ⟨fs_1, e9⟩ : ∃ z, z = mg.set 0 (.int 1) := ⟨_, rfl⟩
  rw [← e9] at hmg
  have hP : va_P (dC, dI) CL [(m0, .inr (13, fs_1)), (mcA, .inl (mcC, (4, .inl (fun _ => 0))))] H := by rw [e9]; exact hP
  have hD : va_D A [(m0, .inr (13, fs_1)), (mcA, .inl (mcC, (4, .inl (fun _ => 0))))] := by rw [e9]; exact hD
  clear e9
  refine lv_aload_n hx hb dX13_suspect_35 rfl (lv_at hl 0 rfl) ?_
  refine va_get (D := (dC, dI)) (ci := 13) (v := .int 1) (C := RX13) (T := TX13) (N := 225) hx hb hts inX13 hown hK hP 0 rfl rfl 0 (by decide) (hts (.fieldLink RX13 1 "ChipFlowModel" "code" "I") wd_3032) (fun _ h9 => h9) (hmg.get 0 rfl) dX13_suspect_36 ?_
  refine lv_if_le (tgt := 44) hx hb dX13_suspect_39 (by decide) (fun c9 => ?_) (fun c9 => ?_)
  · first | exact absurd c9 (by decide +kernel) | exact absurd (by decide +kernel) c9
  refine lv_iconst (v := 0) hx hb dX13_suspect_42 (by decide +kernel) ?_
  exact W.iret (v := 0) hx hb hr (fun t ht hW => ⟨⟨0, (), rfl, rfl, fs_1, hmg.sub [0] rfl, by rw [ht]; exact hP.sub [0] rfl, va_K.moved hW.alike (hK.sub [] rfl), hD.sub [0] (by decide) rfl⟩, hS.F ht⟩) hS.2.2 dX13_suspect_43
set_option maxHeartbeats 4000000 in
set_option maxRecDepth 100000 in
theorem ct_X13_faults (l : Launch) (dC : Nat → ClassId) (dI : Nat → Nat → Nat) (sz : Nat) (p0 : Int32) (p1 : Int32) (m0 : Nat) (mg : List Value) (mcA : Nat) (mcC : ClassId) (hmg : fx mg 225 [(138, .ref mcA)]) : Met l yX13_faults (Cond.code yX13_faults cX13_faults 7 (some .int) :: BG) ({ frames := 2, cells := 0, slots := 0, locals := 33 }) (va_Pc [.ref m0, .int p0, .int p1] (fun U => U.heap.size = sz ∧ va_P (dC, dI) CL [(m0, .inr (13, mg)), (mcA, .inl (mcC, (4, .inl (fun _ => 0))))] U.heap ∧ va_K (dC, dI) CL [(mcC, .boolean)] U ∧ va_D (fun _ => True) [(m0, .inr (13, mg)), (mcA, .inl (mcC, (4, .inl (fun _ => 0))))])) (va_Qi (fun (r : Int32) (_ : Unit) => r = 0) (fun _ t => ∃ mg1 : List Value, fx mg1 225 [(0, .int 1)] ∧ va_P (dC, dI) CL [(m0, .inr (13, mg1))] t.heap ∧ va_K (dC, dI) CL [] t ∧ va_D (va_A [(m0, .inr (13, mg)), (mcA, .inl (mcC, (4, .inl (fun _ => 0))))] sz) [(m0, .inr (13, mg1))]) (va_A [(m0, .inr (13, mg)), (mcA, .inl (mcC, (4, .inl (fun _ => 0))))] sz)) 0 0 (va_A [(m0, .inr (13, mg)), (mcA, .inl (mcC, (4, .inl (fun _ => 0))))] sz) := by
  refine Met.ofW (cc := cX13_faults) (maxL := 7) (ret := (some .int)) (by decide) rfl ?_
  intro p e s m args below meth c s₁ B hml hv
  obtain ⟨rfl, hsz, hP, hK, hD0⟩ := hv
  have hx := B.exec
  have hb := B.bytes
  have hr := B.returns
  have hts : ∀ w ∈ BG, w.before _ s = true := fun w h => atoms_spec (ws := Cond.code yX13_faults cX13_faults 7 (some .int) :: BG) B.pre w (List.mem_cons_of_mem _ h)
  have hown : s.vm.findClass RX13 = some m.cls := findClass_of_methodNamed B.named
  have hlocks := B.notSynchronized
  subst hsz
  have hD := hD0.self (sz := s.heap.size)
  generalize hAe : va_A [(m0, .inr (13, mg)), (mcA, .inl (mcC, (4, .inl (fun _ => 0))))] s.heap.size = A at hD ⊢
  have hA : ∀ q : Nat, s.heap.size ≤ q → A q := fun q h => by rw [← hAe]; exact Or.inr h
  have hS : va_S A s.heap s.heap [] := va_S.rf
  have hl := lv_entry ([.ref m0, .int p0, .int p1]) (n := 7) (Nat.le_of_ble_eq_true rfl)
  rw [lg_entry_eq]
  generalize (lg_sl ([.ref m0, .int p0, .int p1]) ++ List.replicate (7 - (lg_sl ([.ref m0, .int p0, .int p1])).length) Slot.unset).toArray = ls at hl ⊢
  have hl : lv_has ls 7 [(0, .ref m0), (1, .int p0), (2, .int p1)] := hl
  refine lv_aload_n hx hb dX13_faults_0 rfl (lv_at hl 0 rfl) ?_
  refine lv_aload_n hx hb dX13_faults_1 rfl (lv_at hl 0 rfl) ?_
  refine lv_iload_n hx hb dX13_faults_2 rfl (lv_at hl 1 rfl) ?_
  have hPc := hP.sub (ws' := [(m0, .inr (13, mg)), (mcA, .inl (mcC, (4, .inl (fun _ => 0))))]) [0, 1] rfl
  have hDc := hD.sub (ws' := [(m0, .inr (13, mg)), (mcA, .inl (mcC, (4, .inl (fun _ => 0))))]) [0, 1] (by decide) rfl
  have hKc := hK.sub (tys' := [(mcC, .boolean)]) [0] rfl
  have hFc := va_free (wc := [(m0, .inr (13, mg)), (mcA, .inl (mcC, (4, .inl (fun _ => 0))))]) hD hS hA [0, 1] rfl
  refine va_calli (va_runV (As := [.int p0]) (rest := [.ref m0]) ⟨hx, hb, hml, hown, hts⟩ (ct_X13_isChip l dC dI _ p0 m0 mg mcA mcC (hmg.sub [0] rfl)) (cwV 1 hts (gi_V wd_4084 wd_4086 wd_217 wd_340 wd_4087) rfl rfl rfl (by decide +kernel) ⟨(Nat.le_of_ble_eq_true rfl), (Nat.le_of_ble_eq_true rfl)⟩) ⟨fun a U g mk q => by obtain ⟨q0, q1, qP, qK, qD⟩ := q; exact ⟨q0, q1, qP, va_K.moved (u := U) (U := U.calling g mk a) (Vm.Alike.refl U.vm) qK, qD⟩, va_recv hKc hPc (ci := 13) (q0 := 0) rfl rfl, fun U hU hW => ⟨rfl, by rw [hU], by rw [hU]; exact hPc, va_K.moved hW.alike hKc, hDc.weaken (fun _ _ _ _ => trivial)⟩⟩ rfl rfl hl.1 rfl (lv_room (Nat.le_of_ble_eq_true rfl)) dX13_faults_3 ⟨(Nat.le_of_ble_eq_true rfl), (Nat.le_of_ble_eq_true rfl)⟩) hS (fun q _ h => hFc q h) hFc (fun r u t H1 locs ht hvm hw hB hz1 hk1 hS => ?_)
  subst hw
  obtain ⟨hP1, hK1, hD1⟩ := hB
  rw [ht] at hP1
  obtain ⟨hP, hD⟩ := va_join (wr := []) (w1 := [(m0, .inr (13, mg)), (mcA, .inl (mcC, (4, .inl (fun _ => 0))))]) hP hD [0, 1] [] rfl rfl (by decide) (by decide) hk1 hFc hP1 hD1
  have hP := hP.sub (ws' := [(m0, .inr (13, mg)), (mcA, .inl (mcC, (4, .inl (fun _ => 0))))]) [0, 1] rfl
  have hD := hD.sub (ws' := [(m0, .inr (13, mg)), (mcA, .inl (mcC, (4, .inl (fun _ => 0))))]) [0, 1] (by decide) rfl
  generalize H1 = H at hP hS ⊢
  have hP : va_P (dC, dI) CL [(m0, .inr (13, mg)), (mcA, .inl (mcC, (4, .inl (fun _ => 0))))] H := hP
  have hD : va_D A [(m0, .inr (13, mg)), (mcA, .inl (mcC, (4, .inl (fun _ => 0))))] := hD
  refine lv_if_ne (tgt := 13) hx hb dX13_faults_6 (by decide) (fun c9 => ?_) (fun c9 => ?_)
  · first | exact absurd c9 (by decide +kernel) | exact absurd (by decide +kernel) c9
  refine lv_iconst (v := 1) hx hb dX13_faults_9 (by decide +kernel) ?_
  refine lv_goto (tgt := 27) hx hb dX13_faults_10 (by decide) ?_
  refine va_put (D := (dC, dI)) (ci := 13) (v := .int 1) (ty := tyX13 0) (C := RX13) (T := TX13) (N := 225) hx hb hts inX13 tyX13 tyX13_ok nmX13 hown hK hP hD hS 0 rfl rfl 0 (by decide) (hts (.fieldLink RX13 1 "ChipFlowModel" "code" "I") wd_3032) (fun _ h9 => h9) rfl (by decide +kernel) rfl rfl (by rw [hmg.1]; decide) dX13_faults_27 (fun H locs hP hD hS => ?_)
  have hmg : fx (mg.set 0 (.int 1)) 225 [(0, .int 1), (138, .ref mcA)] := hmg.put (by decide) _ rfl
  obtain ⟨fs_1, e9⟩ : ∃ z, z = mg.set 0 (.int 1) := ⟨_, rfl⟩
  rw [← e9] at hmg
  have hP : va_P (dC, dI) CL [(m0, .inr (13, fs_1)), (mcA, .inl (mcC, (4, .inl (fun _ => 0))))] H := by rw [e9]; exact hP
  have hD : va_D A [(m0, .inr (13, fs_1)), (mcA, .inl (mcC, (4, .inl (fun _ => 0))))] := by rw [e9]; exact hD
  clear e9
  refine lv_aload_n hx hb dX13_faults_30 rfl (lv_at hl 0 rfl) ?_
  refine va_get (D := (dC, dI)) (ci := 13) (v := .int 1) (C := RX13) (T := TX13) (N := 225) hx hb hts inX13 hown hK hP 0 rfl rfl 0 (by decide) (hts (.fieldLink RX13 1 "ChipFlowModel" "code" "I") wd_3032) (fun _ h9 => h9) (hmg.get 0 rfl) dX13_faults_31 ?_
  refine lv_if_le (tgt := 39) hx hb dX13_faults_34 (by decide) (fun c9 => ?_) (fun c9 => ?_)
  · first | exact absurd c9 (by decide +kernel) | exact absurd (by decide +kernel) c9
  refine lv_iconst (v := 0) hx hb dX13_faults_37 (by decide +kernel) ?_
  exact W.iret (v := 0) hx hb hr (fun t ht hW => ⟨⟨0, (), rfl, rfl, fs_1, hmg.sub [0] rfl, by rw [ht]; exact hP.sub [0] rfl, va_K.moved hW.alike (hK.sub [] rfl), hD.sub [0] (by decide) rfl⟩, hS.F ht⟩) hS.2.2 dX13_faults_38
